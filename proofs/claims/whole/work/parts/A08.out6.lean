/-! the class: the fewest who must stay in bed -/
def ruU (V : Vt) (u : Nat) : Nat := amn (lofN (V 2) (wlV V) (V 3) u) (V 2 0) - 1
theorem ruU_lt {V : Vt} (hH : HV V) (u : Nat) : ruU V u < 30 := by
  have p1 := hH.2.2.2.1.1
  have p2 := hH.2.2.2.1.2.1
  have := amn_le (lofN (V 2) (wlV V) (V 3) u) (V 2 0)
  unfold ruU
  omega
theorem d_rulerU {G : Gt} {l : Launch} {Z : Zt} {R : Rt} {I : It} {L : Lt} {post : Pt'} {s u : Nat} {V : Vt} (W : WF Z R) (hp : rep 36 (I 104) (V 2)) (hP : PB (V 2)) (hr : rwo Z R s 8 146) (hs : rs (I (s + 1)) (V 3)) (hx : 119 ≤ s ∧ s < 232) (hL : LW R I (wlV V)) (hF : SB (V 2) (V 3)) (hu : u ≤ 6) (h : ∀ I', (∀ q, q ≠ 116 → q ≠ 118 → I' q = I q) → post (some (.int (nI (ruU V u)))) Z R I' L) : Cx G l mX1_rulerOf 4 0 0 [.ref 114, .ref s, .int (nI u)] Z R I L post :=
  c_ruler W hp hP hr hs hx hL hF hu (fun I' o => by
    have e : nI (amn (lofN (V 2) (wlV V) (V 3) u) (V 2 0)) - 1 = nI (ruU V u) := by
      have := amn_pos (lofN (V 2) (wlV V) (V 3) u) (V 2 0) (by have := hP.1; omega)
      exact n_sub (by show 1 ≤ amn (lofN (V 2) (wlV V) (V 3) u) (V 2 0); omega)
    rw [e]
    exact h I' o)
theorem up_or : ∀ n, n < 7 → ∀ b, b < 64 → ∀ s, s < 64 → upN n (b ||| s) = upN n b &&& (63 ^^^ s) := by decide +kernel
theorem pop_and : ∀ m, m < 64 → ∀ s, s < 64 → popN (m &&& (63 ^^^ s)) ≤ popN m := by decide +kernel
theorem sub_gt : ∀ m, m < 64 → ∀ s, s < 64 → m < s → s &&& (63 ^^^ m) ≠ 0 := by decide +kernel
theorem and_64 : ∀ m, m < 64 → ∀ s, s < 64 → m &&& (63 ^^^ s) < 64 := by decide +kernel
theorem soF_top {p : Nat → Bool} {n : Nat} : ∀ d, (∀ s, n ≤ s → s < n + d → p s = false) → soF p (n + d) = soF p n
  | 0 => fun _ => rfl
  | d + 1 => fun h => by
    rw [show n + (d + 1) = n + d + 1 by omega, soF, if_neg (fun z => by rw [h (n + d) (by omega) (by omega)] at z; exact absurd z.2 (by decide))]
    exact soF_top d (fun s h1 h2 => h s h1 (by omega))
def bdO (V : Vt) (k : Nat) (s : Nat) : Bool := decide (s &&& (63 ^^^ upN (V 2 35) (V 3 138)) = 0 ∧ amp (vcN (donN (V 2) (bdT V s) (ruU V (popN (upN (V 2 35) (V 3 138) &&& (63 ^^^ s)))))) (V 2 34) = k + 1)
theorem bd_same {V : Vt} (hH : HV V) {k s : Nat} (hs : s < 64) : bdK V k s = bdO V k s := by
  obtain ⟨p1, p2, p3, p4, p5, p6, p7, p8, p9⟩ := id hH.2.2.2.1
  have hS := bdT_SB hH hs
  have g6 : V 3 143 ≤ 6 := hH.2.2.2.2.1.2.2.2.2.2.2.2.2.2.2.2.1
  have b64 : V 3 138 < 64 := hH.2.2.2.2.1.2.2.2.2.2.2.1
  have ho : ∀ q, q ≠ 138 → bdT V s q = V 3 q := fun q hq => upn_ne _ _ hq
  unfold bdK bdO
  rw [goY_sk hH.2.2.2.1 hS 143 (by unfold kcC; omega), sk_143 hH.2.2.2.1]
  have eu : upc (V 2) (bdT V s) = popN (upN (V 2 35) (V 3 138) &&& (63 ^^^ s)) := by
    unfold upc bdT
    rw [upn_eq, up_or _ (by omega) _ b64 _ hs]
  have e : amn (lofN (V 2) (wlV V) (bdT V s) (upc (V 2) (bdT V s))) (V 2 0) = amn (lofN (V 2) (wlV V) (V 3) (popN (upN (V 2 35) (V 3 138) &&& (63 ^^^ s)))) (V 2 0) := by
    rw [eu]
    exact amn_congr _ (fun d hd => lof_cg (fun q _ h1 _ => ho q h1) g6 (by omega) _)
  rw [e]
  rfl
set_option maxRecDepth 20000 in
set_option maxHeartbeats 1000000 in
theorem l_cbd1 {G : Gt} {l : Launch} {Z : Zt} {R : Rt} {L : Lt} {post : Pt'} {V : Vt} {I0 : It} {m k : Nat} (W : WF Z R) (hH : HV V) (hb : V 0 1 ≤ 4 ∧ V 0 3 ≤ 4) (hm : m < 64) (h : ∀ I', CI V R I' L → OF I0 I' → (∀ z, z ≤ popN m → I' 131 z = nI (ruU V z)) → Sx G l mX5_fewestInBed 5 0 0 49 [(3, .int (nI m)), (2, .int (nI k)), (1, .ref 229), (0, .ref 119)] [] Z R I' L post) :
    ∀ (r c : Nat), c ≤ popN m + 1 → popN m + 1 < c + r → ∀ (I : It), CI V R I L → OF I0 I → (∀ z, z < c → I 131 z = nI (ruU V z)) → Sx G l mX5_fewestInBed 5 0 0 15 [(4, .int (nI c)), (3, .int (nI m)), (2, .int (nI k)), (1, .ref 229), (0, .ref 119)] [] Z R I L post := by
  obtain ⟨p1, p2, p3, p4, p5, p6, p7, p8, p9⟩ := id hH.2.2.2.1
  have hpm := (popN_bit m hm).2
  intro r
  induction r with
  | zero => intro c h1 h2; omega
  | succ r ih =>
    intro c h1 h2 I C hf hl
    have hru := ruU_lt hH c
    refine Sx.iload dX5_fewestInBed_15 rfl ?_
    refine Sx.iload_n dX5_fewestInBed_17 rfl ?_
    refine Sx.callS1 dX5_fewestInBed_18 lkc_X5_118  (by decide) (by decide) (Nat.le_of_ble_eq_true rfl) rfl rfl (k_bitc (x := m) (by omega) ?_)
    refine Sx.icmp_gtV (t := 49) dX5_fewestInBed_21 (by decide) (vN (by omega)) (vN (by omega)) (fun c21 => ?_) (fun c21 => ?_)
    · refine Sx.sub' [(3, .int (nI m)), (2, .int (nI k)), (1, .ref 229), (0, .ref 119)] rfl ?_
      exact h I C hf (fun z hz => hl z (by omega))
    · refine Sx.aload_n dX5_fewestInBed_24 rfl ?_
      refine Sx.getfR dX5_fewestInBed_25 lkf_X5_36_5 (o_119 W) (r_119_7 W) ?_
      refine Sx.iload dX5_fewestInBed_28 rfl ?_
      refine Sx.aload_n dX5_fewestInBed_30 rfl ?_
      refine Sx.getfR dX5_fewestInBed_31 lkf_X5_49_5 (o_119 W) (r_119_1 W) ?_
      refine Sx.aload_n dX5_fewestInBed_34 rfl ?_
      refine Sx.iload dX5_fewestInBed_35 rfl ?_
      refine Sx.callV2 dX5_fewestInBed_37 lkv_X5_115 (rcv_1 (o_114 W)) (by decide) (by decide) (Nat.le_of_ble_eq_true rfl) rfl rfl (d_rulerU W C.2.1 hH.2.2.2.1 (w_229r W) C.2.2.1 (by decide) (C.lw ⟨hH.1.1, hH.1.2.1⟩) hH.2.2.2.2.1 (u := c) (by omega) (fun I1 o1 => ?_))
      refine Sx.callV2 dX5_fewestInBed_40 lkv_X5_89 (rcv_7 (o_130 W)) (by decide) (by decide) (Nat.le_of_ble_eq_true rfl) rfl rfl (d_rset (w_130r W) (by unfold rowC; decide) (by decide) (k := c) (by omega) (fun I2 e2 o2 => ?_))
      refine Sx.iinc (v := (nI (c + 1))) (lv' := [(4, .int (nI (c + 1))), (3, .int (nI m)), (2, .int (nI k)), (1, .ref 229), (0, .ref 119)]) dX5_fewestInBed_43 rfl (nI_add c 1) (by decide) rfl ?_
      refine Sx.goto (t := 15) dX5_fewestInBed_46 (by decide) ?_
      refine Sx.sub' [(4, .int (nI (c + 1))), (3, .int (nI m)), (2, .int (nI k)), (1, .ref 229), (0, .ref 119)] rfl ?_
      have ho : OF I I2 := fun q hq => by rw [o2 q (by omega), o1 q (by omega) (by omega)]
      refine ih (c + 1) (by omega) (by omega) I2 (ho.ci C hb) (hf.tr ho) (fun z hz => ?_)
      rw [e2]
      by_cases q : z = c
      · rw [q, upd_at]
      · rw [upd_nj _ _ q, o1 131 (by decide) (by decide)]; exact hl z (by omega)
set_option maxRecDepth 20000 in
set_option maxHeartbeats 1000000 in
theorem l_cbd2 {G : Gt} {l : Launch} {Z : Zt} {R : Rt} {L : Lt} {post : Pt'} {V : Vt} {I0 : It} {I : It} {m k s fw : Nat} (W : WF Z R) (hH : HV V) (hb : V 0 1 ≤ 4 ∧ V 0 3 ≤ 4) (hk : k < V 2 34) (hs64 : s < 64) (hm : m < 64) (hM : m = upN (V 2 35) (V 3 138)) (hl : ∀ z, z ≤ popN m → I 131 z = nI (ruU V z)) (hfw : fw = soF (bdO V k) s) (hlt : soF (bdO V k) s = 0 ∨ popN s < popN (soF (bdO V k) s - 1)) (C : CI V R I L) (hf : OF I0 I) (h : ∀ I', CI V R I' L → OF I0 I' → (∀ z, z ≤ popN m → I' 131 z = nI (ruU V z)) → ∀ fw', fw' = soF (bdO V k) (s + 1) → Sx G l mX5_fewestInBed 5 0 0 180 [(5, .int (nI s)), (4, .int (iI ((fw' : Int) - 1))), (3, .int (nI m)), (2, .int (nI k)), (1, .ref 229), (0, .ref 119)] [] Z R I' L post) :
    Sx G l mX5_fewestInBed 5 0 0 92 [(6, .int (nI 1)), (5, .int (nI s)), (4, .int (iI ((fw : Int) - 1))), (3, .int (nI m)), (2, .int (nI k)), (1, .ref 229), (0, .ref 119)] [] Z R I L post := by
  obtain ⟨p1, p2, p3, p4, p5, p6, p7, p8, p9⟩ := id hH.2.2.2.1
  have hpm := (popN_bit m hm).2
  have hpa := pop_and m hm s hs64
  have ha64 := and_64 m hm s hs64
  have hsa := and_64 s hs64 m hm
  have hS := bdT_SB hH hs64
  have b64 : V 3 138 < 64 := hH.2.2.2.2.1.2.2.2.2.2.2.1
  have hru := ruU_lt hH (popN (m &&& (63 ^^^ s)))
  have hal := amp_le (vcN (donN (V 2) (bdT V s) (ruU V (popN (m &&& (63 ^^^ s)))))) (V 2 34)
  have hok : bdO V k s = decide (s &&& (63 ^^^ m) = 0 ∧ amp (vcN (donN (V 2) (bdT V s) (ruU V (popN (m &&& (63 ^^^ s)))))) (V 2 34) = k + 1) := by rw [hM]; rfl
  refine Sx.iload dX5_fewestInBed_92 rfl ?_
  refine Sx.iload_n dX5_fewestInBed_94 rfl ?_
  refine Sx.iconst (v := (iI (-1))) dX5_fewestInBed_95 (by decide) ?_
  refine Sx.ixor dX5_fewestInBed_96 ?_
  refine Sx.top (show _ = ((nI m ^^^ iI (-1))) from rfl) ?_
  refine Sx.iand dX5_fewestInBed_97 ?_
  refine Sx.top (show _ = (nI (s &&& (63 ^^^ m))) from sub_and s (by omega) m (by omega)) ?_
  refine Sx.if_neV (t := 180) dX5_fewestInBed_98 (by decide) (vN (by omega)) (fun c98 => ?_) (fun c98 => ?_)
  · refine Sx.sub' [(5, .int (nI s)), (4, .int (iI (((fw : Nat) : Int) - 1))), (3, .int (nI m)), (2, .int (nI k)), (1, .ref 229), (0, .ref 119)] rfl ?_
    exact h I C hf hl (fw) (by rw [soF, if_neg (fun z => by have y := of_decide_eq_true (hok.symm.trans z.2); omega)]; exact hfw)
  · refine Sx.aload_n dX5_fewestInBed_101 rfl ?_
    refine Sx.getfR dX5_fewestInBed_102 lkf_X5_12_5 (o_119 W) (r_119_2 W) ?_
    refine Sx.aload_n dX5_fewestInBed_105 rfl ?_
    refine Sx.callU1 dX5_fewestInBed_106 lku_X5_54 (rcv_8 (o_120 W)) (by decide) (by decide) (Nat.le_of_ble_eq_true rfl) rfl rfl (c_X7_copy (w_120r W) (by unfold rowC; decide) (by decide) (w_229r W) (by unfold rowC; decide) (fun I1 e1 o1 => ?_))
    have ho1 : OF I I1 := fun q hq => o1 q (by omega)
    have hs1 : rs (I1 121) (V 3) := by rw [e1]; exact rs_c C.2.2.1
    have C1 := ho1.ci C hb
    refine Sx.aload_n dX5_fewestInBed_109 rfl ?_
    refine Sx.getfR dX5_fewestInBed_110 lkf_X5_12_5 (o_119 W) (r_119_2 W) ?_
    refine Sx.sipush (v := (nI 138)) dX5_fewestInBed_113 (by decide) ?_
    refine Sx.aload_n dX5_fewestInBed_116 rfl ?_
    refine Sx.sipush (v := (nI 138)) dX5_fewestInBed_117 (by decide) ?_
    refine Sx.callU1 dX5_fewestInBed_120 lku_X5_78 (rcv_8 (o_229 W)) (by decide) (by decide) (Nat.le_of_ble_eq_true rfl) rfl rfl (c_sg (w_229r W) C1.2.2.1 138 rfl (by decide) (by decide) ?_)
    refine Sx.iload dX5_fewestInBed_123 rfl ?_
    refine Sx.iorN dX5_fewestInBed_125 ?_
    refine Sx.callU2 dX5_fewestInBed_126 lku_X5_127 (rcv_8 (o_120 W)) (by decide) (by decide) (Nat.le_of_ble_eq_true rfl) rfl rfl (c_ss (w_120r W) hs1 138 (V 3 138 ||| s) rfl (by decide) (sv_n (by decide)).symm (fun I2 r2 o2 => ?_))
    have ho2 : OF I I2 := fun q hq => by rw [o2 q (by omega), o1 q (by omega)]
    have C2 := ho2.ci C hb
    refine Sx.aload_n dX5_fewestInBed_129 rfl ?_
    refine Sx.getfR dX5_fewestInBed_130 lkf_X5_36_5 (o_119 W) (r_119_7 W) ?_
    refine Sx.iload_n dX5_fewestInBed_133 rfl ?_
    refine Sx.iload dX5_fewestInBed_134 rfl ?_
    refine Sx.iconst (v := (iI (-1))) dX5_fewestInBed_136 (by decide) ?_
    refine Sx.ixor dX5_fewestInBed_137 ?_
    refine Sx.top (show _ = ((nI s ^^^ iI (-1))) from rfl) ?_
    refine Sx.iand dX5_fewestInBed_138 ?_
    refine Sx.top (show _ = (nI (m &&& (63 ^^^ s))) from sub_and m (by omega) s (by omega)) ?_
    refine Sx.callS1 dX5_fewestInBed_139 lkc_X5_118  (by decide) (by decide) (Nat.le_of_ble_eq_true rfl) rfl rfl (k_bitc (x := m &&& (63 ^^^ s)) (by omega) ?_)
    refine Sx.callV1 dX5_fewestInBed_142 lkv_X5_93 (rcv_7 (o_130 W)) (by decide) (by decide) (Nat.le_of_ble_eq_true rfl) rfl rfl (d_rget (w_130r W) (by unfold rowC; decide) (by decide) (k := popN (m &&& (63 ^^^ s))) (v := nI (ruU V (popN (m &&& (63 ^^^ s))))) (by omega) (by rw [o2 131 (by decide), o1 131 (by decide)]; exact hl _ (by omega)) ?_)
    refine Sx.istore (lv' := [(7, .int (nI (ruU V (popN (m &&& (63 ^^^ s)))))), (6, .int (nI 1)), (5, .int (nI s)), (4, .int (iI ((fw : Int) - 1))), (3, .int (nI m)), (2, .int (nI k)), (1, .ref 229), (0, .ref 119)]) dX5_fewestInBed_145 (by decide) rfl ?_
    refine Sx.aload_n dX5_fewestInBed_147 rfl ?_
    refine Sx.getfR dX5_fewestInBed_148 lkf_X5_49_5 (o_119 W) (r_119_1 W) ?_
    refine Sx.aload_n dX5_fewestInBed_151 rfl ?_
    refine Sx.getfR dX5_fewestInBed_152 lkf_X5_49_5 (o_119 W) (r_119_1 W) ?_
    refine Sx.aload_n dX5_fewestInBed_155 rfl ?_
    refine Sx.getfR dX5_fewestInBed_156 lkf_X5_12_5 (o_119 W) (r_119_2 W) ?_
    refine Sx.iload dX5_fewestInBed_159 rfl ?_
    refine Sx.callV2 dX5_fewestInBed_161 lkv_X5_128 (rcv_1 (o_114 W)) (by decide) (by decide) (Nat.le_of_ble_eq_true rfl) rfl rfl (c_don (F := bdT V s) W C2.2.1 hH.2.2.2.1 (w_120r W) r2 (by decide) hS (by omega) ?_)
    refine Sx.callV1 dX5_fewestInBed_164 lkv_X5_131 (rcv_1 (o_114 W)) (by decide) (by decide) (Nat.le_of_ble_eq_true rfl) rfl rfl (d_gb W C2.2.1 (by omega) (donN_lt hH.2.2.2.1 hS (by omega)) ?_)
    refine Sx.iload_n dX5_fewestInBed_167 rfl ?_
    refine Sx.icmp_neV (t := 176) dX5_fewestInBed_168 (by decide) (vZ (by omega)) (vN (by omega)) (fun c168 => ?_) (fun c168 => ?_)
    · refine Sx.iload dX5_fewestInBed_176 rfl ?_
      refine Sx.istore (lv' := [(4, .int (iI ((fw : Int) - 1))), (7, .int (nI (ruU V (popN (m &&& (63 ^^^ s)))))), (6, .int (nI 1)), (5, .int (nI s)), (3, .int (nI m)), (2, .int (nI k)), (1, .ref 229), (0, .ref 119)]) dX5_fewestInBed_178 (by decide) rfl ?_
      refine Sx.sub' [(5, .int (nI s)), (4, .int (iI (((fw : Nat) : Int) - 1))), (3, .int (nI m)), (2, .int (nI k)), (1, .ref 229), (0, .ref 119)] rfl ?_
      exact h I2 C2 (hf.tr ho2) (fun z hz => by rw [o2 131 (by decide), o1 131 (by decide)]; exact hl z hz) (fw) (by rw [soF, if_neg (fun z => by have y := of_decide_eq_true (hok.symm.trans z.2); omega)]; exact hfw)
    · refine Sx.iload dX5_fewestInBed_171 rfl ?_
      refine Sx.goto (t := 178) dX5_fewestInBed_173 (by decide) ?_
      refine Sx.istore (lv' := [(4, .int (nI s)), (7, .int (nI (ruU V (popN (m &&& (63 ^^^ s)))))), (6, .int (nI 1)), (5, .int (nI s)), (3, .int (nI m)), (2, .int (nI k)), (1, .ref 229), (0, .ref 119)]) dX5_fewestInBed_178 (by decide) rfl ?_
      refine Sx.sub' [(5, .int (nI s)), (4, .int (iI (((s + 1 : Nat) : Int) - 1))), (3, .int (nI m)), (2, .int (nI k)), (1, .ref 229), (0, .ref 119)] (by rw [show iI (((s + 1 : Nat) : Int) - 1) = nI s by rw [nI_iI]; congr 1; omega]; rfl) ?_
      exact h I2 C2 (hf.tr ho2) (fun z hz => by rw [o2 131 (by decide), o1 131 (by decide)]; exact hl z hz) (s + 1) (by rw [soF, if_pos ⟨hlt, hok.trans (decide_eq_true ⟨by omega, by omega⟩)⟩])
