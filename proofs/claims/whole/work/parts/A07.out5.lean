/-! the class: the fewest who must do otherwise -/
theorem sk_143 {P F : Nat → Nat} {w : Wt} (hP : PB P) : skN P w F 143 = amp (vcN (donN P F (amn (lofN P w F (upc P F)) (P 0) - 1))) (P 34) := by
  have p34 := hP.2.2.2.2.2.1
  have e : (if F 145 = 0 then dnN F (P 35) else donN P F (amn (lofN P w F (upc P F)) (P 0) - 1)) = donN P F (amn (lofN P w F (upc P F)) (P 0) - 1) := by
    by_cases c : F 145 = 0
    · rw [if_pos c]; unfold donN; rw [if_neg (by omega)]
    · rw [if_neg c]
  unfold skN
  rw [e]
  unfold trnN
  rw [if_neg (by omega), if_neg (by omega), if_neg (by omega), if_pos rfl]
theorem lof_cg {P T F : Nat → Nat} {w : Wt} (h : ∀ q, 6 ≤ q → q ≠ 138 → q < 146 → T q = F q) (h6 : F 143 ≤ 6) {d : Nat} (hd : d < 30) (u : Nat) : lofN P w T u d = lofN P w F u d := by
  have hg : gvN T = gvN F := by
    unfold gvN
    rw [h 143 (by decide) (by decide) (by decide)]
    by_cases c : F 143 = 0
    · rw [if_pos c, if_pos c]
    · rw [if_neg c, if_neg c, h _ (by omega) (by omega) (by omega)]
  have hw : ∀ f, worV P w T d f u = worV P w F d f u := by
    intro f
    unfold worV
    cases w with
    | none => rfl
    | some g => rw [hg, h 144 (by decide) (by decide) (by decide)]
  unfold lofN litN
  rw [h 145 (by decide) (by decide) (by decide), h 139 (by decide) (by decide) (by decide), h 140 (by decide) (by decide) (by decide), h 141 (by decide) (by decide) (by decide), hw, h (18 + d) (by omega) (by omega) (by omega)]
theorem d_gb {G : Gt} {l : Launch} {Z : Zt} {R : Rt} {I : It} {L : Lt} {post : Pt'} {x : Nat} {P : Nat → Nat} (W : WF Z R) (hp : rep 36 (I 104) P) (h34 : P 34 ≤ 6) (hx : x < 2 ^ 18) (h : post (some (.int (iI ((amp (vcN x) (P 34) : Int) - 1)))) Z R I L) : Cx G l mX1_governorBy 3 0 0 [.ref 114, .int (nI x)] Z R I L post :=
  c_gb W hp h34 hx (by rw [show nI (amp (fun k => popN (doN x k 6)) (P 34)) - 1 = iI ((amp (vcN x) (P 34) : Int) - 1) by rw [nI_iI, show (1 : Int32) = iI 1 by decide, iI_sub]; rfl]; exact h)
def swO (V : Vt) (k rl : Nat) (s : Nat) : Bool := decide (amp (vcN (donN (V 2) (swT V k s (V 2 35)) rl)) (V 2 34) = k + 1)
theorem sw_same {V : Vt} (hH : HV V) {k : Nat} (hk : k < V 2 34) (s : Nat) : swK V k s = swO V k (dayD V) s := by
  obtain ⟨p1, p2, p3, p4, p5, p6, p7, p8, p9⟩ := id hH.2.2.2.1
  have hS := swT_SB hH (set := s) hk (V 2 35) (by omega)
  have g6 : V 3 143 ≤ 6 := hH.2.2.2.2.1.2.2.2.2.2.2.2.2.2.2.2.1
  have ho : ∀ q, 6 ≤ q → swT V k s (V 2 35) q = V 3 q := fun q hq => if_neg (by omega)
  unfold swK swO
  rw [goY_sk hH.2.2.2.1 hS 143 (by unfold kcC; omega), sk_143 hH.2.2.2.1]
  have e : amn (lofN (V 2) (wlV V) (swT V k s (V 2 35)) (upc (V 2) (swT V k s (V 2 35)))) (V 2 0) = amn (lofN (V 2) (wlV V) (V 3) (upc (V 2) (V 3))) (V 2 0) := by
    rw [show upc (V 2) (swT V k s (V 2 35)) = upc (V 2) (V 3) by unfold upc; rw [ho 138 (by decide)]]
    exact amn_congr _ (fun d hd => lof_cg (fun q h1 _ _ => ho q h1) g6 (by omega) _)
  rw [e]
  rfl
set_option maxRecDepth 20000 in
set_option maxHeartbeats 1000000 in
theorem l_csw1 {G : Gt} {l : Launch} {Z : Zt} {R : Rt} {L : Lt} {post : Pt'} {V : Vt} {I0 : It} {k s rl fw : Nat} (W : WF Z R) (hH : HV V) (hb : V 0 1 ≤ 4 ∧ V 0 3 ≤ 4) (hk : k < V 2 34) (hs64 : s < 64) (h : ∀ I', CI V R I' L → OF I0 I' → rs (I' 121) (swT V k s (V 2 35)) → Sx G l mX5_fewestSwings 5 0 0 110 [(6, .int (nI (V 2 35))), (5, .int (nI s)), (4, .int (iI ((fw : Int) - 1))), (3, .int (nI rl)), (2, .int (nI k)), (1, .ref 229), (0, .ref 119)] [] Z R I' L post) :
    ∀ (r j : Nat), j ≤ V 2 35 → V 2 35 < j + r → ∀ (I : It), CI V R I L → OF I0 I → rs (I 121) (swT V k s j) → Sx G l mX5_fewestSwings 5 0 0 70 [(6, .int (nI j)), (5, .int (nI s)), (4, .int (iI ((fw : Int) - 1))), (3, .int (nI rl)), (2, .int (nI k)), (1, .ref 229), (0, .ref 119)] [] Z R I L post := by
  obtain ⟨p1, p2, p3, p4, p5, p6, p7, p8, p9⟩ := id hH.2.2.2.1
  intro r
  induction r with
  | zero => intro j h1 h2; omega
  | succ r ih =>
    intro j h1 h2 I C hf hs
    refine Sx.iload dX5_fewestSwings_70 rfl ?_
    refine Sx.aload_n dX5_fewestSwings_72 rfl ?_
    refine Sx.getfR dX5_fewestSwings_73 lkf_X5_45_5 (o_119 W) (r_119_0 W) ?_
    refine Sx.callV0 dX5_fewestSwings_76 lkv_X5_103 (rcv_6 (o_103 W)) (by decide) (by decide) (Nat.le_of_ble_eq_true rfl) rfl rfl (c_pers (w_103r W) C.2.1 ?_)
    refine Sx.icmp_geV (t := 110) dX5_fewestSwings_79 (by decide) (vN (by omega)) (vN (by omega)) (fun c79 => ?_) (fun c79 => ?_)
    · have hj : j = V 2 35 := by omega
      subst hj
      exact h I C hf hs
    · refine Sx.iload dX5_fewestSwings_82 rfl ?_
      refine Sx.iload dX5_fewestSwings_84 rfl ?_
      refine Sx.callSN2 dX5_fewestSwings_86 lkc_X5_123  (by decide) (by decide) (Nat.le_of_ble_eq_true rfl) rfl rfl (c_hasBit (by omega) (by omega) ?_)
      refine Sx.if_eqB (t := 104) dX5_fewestSwings_89 (by decide) (fun c89 => ?_) (fun c89 => ?_)
      · refine Sx.iinc (v := (nI (j + 1))) (lv' := [(6, .int (nI (j + 1))), (5, .int (nI s)), (4, .int (iI ((fw : Int) - 1))), (3, .int (nI rl)), (2, .int (nI k)), (1, .ref 229), (0, .ref 119)]) dX5_fewestSwings_104 rfl (nI_add j 1) (by decide) rfl ?_
        refine Sx.goto (t := 70) dX5_fewestSwings_107 (by decide) ?_
        refine Sx.sub' [(6, .int (nI (j + 1))), (5, .int (nI s)), (4, .int (iI ((fw : Int) - 1))), (3, .int (nI rl)), (2, .int (nI k)), (1, .ref 229), (0, .ref 119)] rfl ?_
        exact ih (j + 1) (by omega) (by omega) I C hf (by rw [show swT V k s (j + 1) = swT V k s j from funext (swT_n (by simp_all))]; exact hs)
      · refine Sx.aload_n dX5_fewestSwings_92 rfl ?_
        refine Sx.getfR dX5_fewestSwings_93 lkf_X5_12_5 (o_119 W) (r_119_2 W) ?_
        refine Sx.iconst (v := (nI 0)) dX5_fewestSwings_96 (by decide) ?_
        refine Sx.iload dX5_fewestSwings_97 rfl ?_
        refine Sx.iaddN dX5_fewestSwings_99 ?_
        refine Sx.iload_n dX5_fewestSwings_100 rfl ?_
        refine Sx.callU2 dX5_fewestSwings_101 lku_X5_127 (rcv_8 (o_120 W)) (by decide) (by decide) (Nat.le_of_ble_eq_true rfl) rfl rfl (c_ss (w_120r W) hs j k (by rw [Nat.zero_add]) (by omega) (sv_n (by omega)).symm (fun I1 r1 o1 => ?_))
        refine Sx.iinc (v := (nI (j + 1))) (lv' := [(6, .int (nI (j + 1))), (5, .int (nI s)), (4, .int (iI ((fw : Int) - 1))), (3, .int (nI rl)), (2, .int (nI k)), (1, .ref 229), (0, .ref 119)]) dX5_fewestSwings_104 rfl (nI_add j 1) (by decide) rfl ?_
        refine Sx.goto (t := 70) dX5_fewestSwings_107 (by decide) ?_
        refine Sx.sub' [(6, .int (nI (j + 1))), (5, .int (nI s)), (4, .int (iI ((fw : Int) - 1))), (3, .int (nI rl)), (2, .int (nI k)), (1, .ref 229), (0, .ref 119)] rfl ?_
        have ho : OF I I1 := fun q hq => o1 q (by omega)
        exact ih (j + 1) (by omega) (by omega) I1 (ho.ci C hb) (hf.tr ho) (by rw [show swT V k s (j + 1) = upn (swT V k s j) j k from funext (swT_y (by assumption))]; exact r1)
set_option maxRecDepth 20000 in
set_option maxHeartbeats 1000000 in
theorem l_csw2 {G : Gt} {l : Launch} {Z : Zt} {R : Rt} {L : Lt} {post : Pt'} {V : Vt} {I0 : It} {I : It} {k s rl fw : Nat} (W : WF Z R) (hH : HV V) (hb : V 0 1 ≤ 4 ∧ V 0 3 ≤ 4) (hk : k < V 2 34) (hs64 : s < 64) (hrl : rl < 30) (hfw : fw = soF (swO V k rl) s) (hlt : soF (swO V k rl) s = 0 ∨ popN s < popN (soF (swO V k rl) s - 1)) (C : CI V R I L) (hf : OF I0 I) (h : ∀ I', CI V R I' L → OF I0 I' → ∀ fw', fw' = soF (swO V k rl) (s + 1) → Sx G l mX5_fewestSwings 5 0 0 142 [(5, .int (nI s)), (4, .int (iI ((fw' : Int) - 1))), (3, .int (nI rl)), (2, .int (nI k)), (1, .ref 229), (0, .ref 119)] [] Z R I' L post) :
    Sx G l mX5_fewestSwings 5 0 0 59 [(5, .int (nI s)), (4, .int (iI ((fw : Int) - 1))), (3, .int (nI rl)), (2, .int (nI k)), (1, .ref 229), (0, .ref 119)] [] Z R I L post := by
  obtain ⟨p1, p2, p3, p4, p5, p6, p7, p8, p9⟩ := id hH.2.2.2.1
  have hal := amp_le (vcN (donN (V 2) (swT V k s (V 2 35)) rl)) (V 2 34)
  refine Sx.aload_n dX5_fewestSwings_59 rfl ?_
  refine Sx.getfR dX5_fewestSwings_60 lkf_X5_12_5 (o_119 W) (r_119_2 W) ?_
  refine Sx.aload_n dX5_fewestSwings_63 rfl ?_
  refine Sx.callU1 dX5_fewestSwings_64 lku_X5_54 (rcv_8 (o_120 W)) (by decide) (by decide) (Nat.le_of_ble_eq_true rfl) rfl rfl (c_X7_copy (w_120r W) (by unfold rowC; decide) (by decide) (w_229r W) (by unfold rowC; decide) (fun I1 e1 o1 => ?_))
  have ho1 : OF I I1 := fun q hq => o1 q (by omega)
  refine Sx.iconst (v := (nI 0)) dX5_fewestSwings_67 (by decide) ?_
  refine Sx.istore (lv' := [(6, .int (nI 0)), (5, .int (nI s)), (4, .int (iI ((fw : Int) - 1))), (3, .int (nI rl)), (2, .int (nI k)), (1, .ref 229), (0, .ref 119)]) dX5_fewestSwings_68 (by decide) rfl ?_
  refine Sx.sub' [(6, .int (nI 0)), (5, .int (nI s)), (4, .int (iI ((fw : Int) - 1))), (3, .int (nI rl)), (2, .int (nI k)), (1, .ref 229), (0, .ref 119)] rfl ?_
  refine l_csw1 (I0 := I0) W hH hb hk hs64 (fun I2 C2 hf2 hs2 => ?_) (V 2 35 + 1) 0 (by omega) (by omega) I1 (ho1.ci C hb) (hf.tr ho1) (by rw [show swT V k s 0 = V 3 from funext fun q => if_neg (by omega), e1]; exact rs_c C.2.2.1)
  have hS := swT_SB hH (set := s) hk (V 2 35) (by omega)
  refine Sx.aload_n dX5_fewestSwings_110 rfl ?_
  refine Sx.getfR dX5_fewestSwings_111 lkf_X5_49_5 (o_119 W) (r_119_1 W) ?_
  refine Sx.aload_n dX5_fewestSwings_114 rfl ?_
  refine Sx.getfR dX5_fewestSwings_115 lkf_X5_49_5 (o_119 W) (r_119_1 W) ?_
  refine Sx.aload_n dX5_fewestSwings_118 rfl ?_
  refine Sx.getfR dX5_fewestSwings_119 lkf_X5_12_5 (o_119 W) (r_119_2 W) ?_
  refine Sx.iload_n dX5_fewestSwings_122 rfl ?_
  refine Sx.callV2 dX5_fewestSwings_123 lkv_X5_128 (rcv_1 (o_114 W)) (by decide) (by decide) (Nat.le_of_ble_eq_true rfl) rfl rfl (c_don W C2.2.1 hH.2.2.2.1 (w_120r W) hs2 (by decide) hS (by omega) ?_)
  refine Sx.callV1 dX5_fewestSwings_126 lkv_X5_131 (rcv_1 (o_114 W)) (by decide) (by decide) (Nat.le_of_ble_eq_true rfl) rfl rfl (d_gb W C2.2.1 (by omega) (donN_lt hH.2.2.2.1 hS (by omega)) ?_)
  refine Sx.iload_n dX5_fewestSwings_129 rfl ?_
  refine Sx.icmp_neV (t := 138) dX5_fewestSwings_130 (by decide) (vZ (by omega)) (vN (by omega)) (fun c130 => ?_) (fun c130 => ?_)
  · refine Sx.iload dX5_fewestSwings_138 rfl ?_
    refine Sx.istore (lv' := [(4, .int (iI ((fw : Int) - 1))), (6, .int (nI (V 2 35))), (5, .int (nI s)), (3, .int (nI rl)), (2, .int (nI k)), (1, .ref 229), (0, .ref 119)]) dX5_fewestSwings_140 (by decide) rfl ?_
    refine Sx.sub' [(5, .int (nI s)), (4, .int (iI (((fw : Nat) : Int) - 1))), (3, .int (nI rl)), (2, .int (nI k)), (1, .ref 229), (0, .ref 119)] rfl ?_
    exact h I2 C2 hf2 (fw) (by rw [soF, if_neg (fun z => absurd (of_decide_eq_true z.2) (by omega))]; exact hfw)
  · refine Sx.iload dX5_fewestSwings_133 rfl ?_
    refine Sx.goto (t := 140) dX5_fewestSwings_135 (by decide) ?_
    refine Sx.istore (lv' := [(4, .int (nI s)), (6, .int (nI (V 2 35))), (5, .int (nI s)), (3, .int (nI rl)), (2, .int (nI k)), (1, .ref 229), (0, .ref 119)]) dX5_fewestSwings_140 (by decide) rfl ?_
    refine Sx.sub' [(5, .int (nI s)), (4, .int (iI (((s + 1 : Nat) : Int) - 1))), (3, .int (nI rl)), (2, .int (nI k)), (1, .ref 229), (0, .ref 119)] (by rw [show iI (((s + 1 : Nat) : Int) - 1) = nI s by rw [nI_iI]; congr 1; omega]; rfl) ?_
    exact h I2 C2 hf2 (s + 1) (by rw [soF, if_pos ⟨hlt, decide_eq_true (by omega)⟩])
set_option maxRecDepth 20000 in
set_option maxHeartbeats 1000000 in
theorem l_csw {G : Gt} {l : Launch} {Z : Zt} {R : Rt} {L : Lt} {post : Pt'} {V : Vt} {I0 : It} {k rl : Nat} (W : WF Z R) (hH : HV V) (hb : V 0 1 ≤ 4 ∧ V 0 3 ≤ 4) (hk : k < V 2 34) (hrl : rl < 30) (h64 : 2 ^ V 2 35 ≤ 64) (h : ∀ I', CI V R I' L → OF I0 I' → post (some (.int (iI ((soF (swO V k rl) (2 ^ V 2 35) : Int) - 1)))) Z R I' L) :
    ∀ (r s : Nat), s ≤ 2 ^ V 2 35 → 2 ^ V 2 35 < s + r → ∀ (I : It), CI V R I L → OF I0 I → ∀ fw, fw = soF (swO V k rl) s → Sx G l mX5_fewestSwings 5 0 0 26 [(5, .int (nI s)), (4, .int (iI ((fw : Int) - 1))), (3, .int (nI rl)), (2, .int (nI k)), (1, .ref 229), (0, .ref 119)] [] Z R I L post := by
  obtain ⟨p1, p2, p3, p4, p5, p6, p7, p8, p9⟩ := id hH.2.2.2.1
  intro r
  induction r with
  | zero => intro s h1 h2; omega
  | succ r ih =>
    intro s h1 h2 I C hf fw hfw
    have hfl : fw ≤ s := by rw [hfw]; exact soF_le _ _
    refine Sx.iload dX5_fewestSwings_26 rfl ?_
    refine Sx.iconst (v := (nI 1)) dX5_fewestSwings_28 (by decide) ?_
    refine Sx.aload_n dX5_fewestSwings_29 rfl ?_
    refine Sx.getfR dX5_fewestSwings_30 lkf_X5_45_5 (o_119 W) (r_119_0 W) ?_
    refine Sx.callV0 dX5_fewestSwings_33 lkv_X5_103 (rcv_6 (o_103 W)) (by decide) (by decide) (Nat.le_of_ble_eq_true rfl) rfl rfl (c_pers (w_103r W) C.2.1 ?_)
    refine Sx.ishl1 dX5_fewestSwings_36 (by omega) ?_
    refine Sx.icmp_geV (t := 148) dX5_fewestSwings_37 (by decide) (vN (by omega)) (vN (by omega)) (fun c37 => ?_) (fun c37 => ?_)
    · refine Sx.iload dX5_fewestSwings_148 rfl ?_
      refine Sx.iret dX5_fewestSwings_150 rfl rfl ?_
      have hj : s = 2 ^ V 2 35 := by omega
      subst hj
      subst hfw
      exact h I C hf
    · have hfs := soF_le (swO V k rl) s
      have hq1 := (popN_bit s (by omega)).2
      have hq2 := (popN_bit (fw - 1) (by omega)).2
      refine Sx.iload dX5_fewestSwings_40 rfl ?_
      refine Sx.iconst (v := (iI (-1))) dX5_fewestSwings_42 (by decide) ?_
      refine Sx.icmp_eqV (t := 59) dX5_fewestSwings_43 (by decide) (vZ (by omega)) (vZ (by decide)) (fun c43 => ?_) (fun c43 => ?_)
      · have hlt : soF (swO V k rl) s = 0 ∨ popN s < popN (soF (swO V k rl) s - 1) := by rw [← hfw]; omega
        refine Sx.sub' [(5, .int (nI s)), (4, .int (iI ((fw : Int) - 1))), (3, .int (nI rl)), (2, .int (nI k)), (1, .ref 229), (0, .ref 119)] rfl ?_
        refine l_csw2 (I0 := I0) W hH hb hk (by omega) hrl hfw hlt C hf (fun I2 C2 hf2 fw2 hfw2 => ?_)
        refine Sx.iinc (v := (nI (s + 1))) (lv' := [(5, .int (nI (s + 1))), (4, .int (iI ((fw2 : Int) - 1))), (3, .int (nI rl)), (2, .int (nI k)), (1, .ref 229), (0, .ref 119)]) dX5_fewestSwings_142 rfl (nI_add s 1) (by decide) rfl ?_
        refine Sx.goto (t := 26) dX5_fewestSwings_145 (by decide) ?_
        refine Sx.sub' [(5, .int (nI (s + 1))), (4, .int (iI ((fw2 : Int) - 1))), (3, .int (nI rl)), (2, .int (nI k)), (1, .ref 229), (0, .ref 119)] rfl ?_
        exact ih (s + 1) (by omega) (by omega) I2 C2 hf2 fw2 hfw2
      · refine Sx.iload dX5_fewestSwings_46 rfl ?_
        refine Sx.callS1 dX5_fewestSwings_48 lkc_X5_118  (by decide) (by decide) (Nat.le_of_ble_eq_true rfl) rfl rfl (k_bitc (x := s) (by omega) ?_)
        refine Sx.iload dX5_fewestSwings_51 rfl ?_
        refine Sx.callS1 dX5_fewestSwings_53 lkc_X5_118  (by decide) (by decide) (Nat.le_of_ble_eq_true rfl) rfl rfl (k_bitcZ (x := fw - 1) (by omega) (by omega) ?_)
        refine Sx.icmp_geV (t := 142) dX5_fewestSwings_56 (by decide) (vN (by omega)) (vN (by omega)) (fun c56 => ?_) (fun c56 => ?_)
        · have hlt : ¬ (soF (swO V k rl) s = 0 ∨ popN s < popN (soF (swO V k rl) s - 1)) := by rw [← hfw]; omega
          refine Sx.iinc (v := (nI (s + 1))) (lv' := [(5, .int (nI (s + 1))), (4, .int (iI ((fw : Int) - 1))), (3, .int (nI rl)), (2, .int (nI k)), (1, .ref 229), (0, .ref 119)]) dX5_fewestSwings_142 rfl (nI_add s 1) (by decide) rfl ?_
          refine Sx.goto (t := 26) dX5_fewestSwings_145 (by decide) ?_
          refine Sx.sub' [(5, .int (nI (s + 1))), (4, .int (iI ((fw : Int) - 1))), (3, .int (nI rl)), (2, .int (nI k)), (1, .ref 229), (0, .ref 119)] rfl ?_
          exact ih (s + 1) (by omega) (by omega) I C hf fw (by rw [soF, if_neg (fun z => absurd z.1 hlt)]; exact hfw)
        · have hlt : soF (swO V k rl) s = 0 ∨ popN s < popN (soF (swO V k rl) s - 1) := by rw [← hfw]; omega
          refine Sx.sub' [(5, .int (nI s)), (4, .int (iI ((fw : Int) - 1))), (3, .int (nI rl)), (2, .int (nI k)), (1, .ref 229), (0, .ref 119)] rfl ?_
          refine l_csw2 (I0 := I0) W hH hb hk (by omega) hrl hfw hlt C hf (fun I2 C2 hf2 fw2 hfw2 => ?_)
          refine Sx.iinc (v := (nI (s + 1))) (lv' := [(5, .int (nI (s + 1))), (4, .int (iI ((fw2 : Int) - 1))), (3, .int (nI rl)), (2, .int (nI k)), (1, .ref 229), (0, .ref 119)]) dX5_fewestSwings_142 rfl (nI_add s 1) (by decide) rfl ?_
          refine Sx.goto (t := 26) dX5_fewestSwings_145 (by decide) ?_
          refine Sx.sub' [(5, .int (nI (s + 1))), (4, .int (iI ((fw2 : Int) - 1))), (3, .int (nI rl)), (2, .int (nI k)), (1, .ref 229), (0, .ref 119)] rfl ?_
          exact ih (s + 1) (by omega) (by omega) I2 C2 hf2 fw2 hfw2
theorem dayD_lt {V : Vt} (hH : HV V) : dayD V < 30 := by
  have p1 := hH.2.2.2.1.1
  have p2 := hH.2.2.2.1.2.1
  have := amn_le (lofN (V 2) (wlV V) (V 3) (upc (V 2) (V 3))) (V 2 0)
  unfold dayD
  omega
theorem soF_cg {p p' : Nat → Bool} : ∀ n, (∀ s, s < n → p s = p' s) → soF p n = soF p' n
  | 0 => fun _ => rfl
  | n + 1 => fun h => by rw [soF, soF, soF_cg n (fun s hs => h s (by omega)), h n (by omega)]
theorem p2_64 {n : Nat} (h : n ≤ 6) : 2 ^ n ≤ 64 := Nat.le_trans (Nat.pow_le_pow_right (by decide) h) (by decide)
set_option maxRecDepth 20000 in
set_option maxHeartbeats 1000000 in
theorem d_fsw {G : Gt} {l : Launch} {Z : Zt} {R : Rt} {I : It} {L : Lt} {post : Pt'} {V : Vt} {k : Nat} (W : WF Z R) (C : CI V R I L) (hH : HV V) (hb : V 0 1 ≤ 4 ∧ V 0 3 ≤ 4) (hk : k < V 2 34) (h : ∀ I', CI V R I' L → OF I I' → post (some (.int (iI ((soF (swO V k (dayD V)) (2 ^ V 2 35) : Int) - 1)))) Z R I' L) : Cx G l mX5_fewestSwings 5 0 0 [.ref 119, .ref 229, .int (nI k)] Z R I L post := by
  refine Cx.of (by decide +kernel) (by exact Nat.le_of_ble_eq_true rfl) ?_
  obtain ⟨p1, p2, p3, p4, p5, p6, p7, p8, p9⟩ := id hH.2.2.2.1
  have h64 := p2_64 p8
  refine Sx.aload_n dX5_fewestSwings_0 rfl ?_
  refine Sx.getfR dX5_fewestSwings_1 lkf_X5_49_5 (o_119 W) (r_119_1 W) ?_
  refine Sx.aload_n dX5_fewestSwings_4 rfl ?_
  refine Sx.aload_n dX5_fewestSwings_5 rfl ?_
  refine Sx.aload_n dX5_fewestSwings_6 rfl ?_
  refine Sx.getfR dX5_fewestSwings_7 lkf_X5_45_5 (o_119 W) (r_119_0 W) ?_
  refine Sx.callV0 dX5_fewestSwings_10 lkv_X5_103 (rcv_6 (o_103 W)) (by decide) (by decide) (Nat.le_of_ble_eq_true rfl) rfl rfl (c_pers (w_103r W) C.2.1 ?_)
  refine Sx.callV1 dX5_fewestSwings_13 lkv_X5_112 (rcv_8 (o_229 W)) (by decide) (by decide) (Nat.le_of_ble_eq_true rfl) rfl rfl (c_X8_upCount (w_229r W) C.2.2.1 hH.2.2.2.2.1.2.2.2.2.2.2.1 (by omega) ?_)
  refine Sx.callV2 dX5_fewestSwings_16 lkv_X5_115 (rcv_1 (o_114 W)) (by decide) (by decide) (Nat.le_of_ble_eq_true rfl) rfl rfl (d_ruler W C.2.1 hH.2.2.2.1 (w_229r W) C.2.2.1 (by decide) (C.lw ⟨hH.1.1, hH.1.2.1⟩) hH.2.2.2.2.1 (fun I1 o1 => ?_))
  have ho1 : OF I I1 := fun q hq => o1 q (by omega) (by omega)
  have hdd := dayD_lt hH
  refine Sx.istore_n (lv' := [(3, .int (nI (dayD V))), (0, .ref 119), (1, .ref 229), (2, .int (nI k))]) dX5_fewestSwings_19 (by decide) rfl ?_
  refine Sx.iconst (v := (iI (-1))) dX5_fewestSwings_20 (by decide) ?_
  refine Sx.istore (lv' := [(4, .int (iI (-1))), (3, .int (nI (dayD V))), (0, .ref 119), (1, .ref 229), (2, .int (nI k))]) dX5_fewestSwings_21 (by decide) rfl ?_
  refine Sx.iconst (v := (nI 0)) dX5_fewestSwings_23 (by decide) ?_
  refine Sx.istore (lv' := [(5, .int (nI 0)), (4, .int (iI (-1))), (3, .int (nI (dayD V))), (0, .ref 119), (1, .ref 229), (2, .int (nI k))]) dX5_fewestSwings_24 (by decide) rfl ?_
  refine Sx.sub' [(5, .int (nI 0)), (4, .int (iI (((0 : Nat) : Int) - 1))), (3, .int (nI (dayD V))), (2, .int (nI k)), (1, .ref 229), (0, .ref 119)] rfl ?_
  exact l_csw W hH hb hk hdd h64 (I0 := I) h (2 ^ V 2 35 + 1) 0 (Nat.zero_le _) (by omega) I1 (ho1.ci C hb) ho1 0 rfl
set_option maxRecDepth 20000 in
set_option maxHeartbeats 1000000 in
theorem d_swings {G : Gt} {l : Launch} {Z : Zt} {R : Rt} {I : It} {L : Lt} {post : Pt'} {V : Vt} {N : Nat} {x : Int32} (W : WF Z R) (C : CI V R I L) (hG : GG N V) (hN : N < 2147483647) (h : CQ post Z R I L V (swiR V x)) : Cx G l mX11_swings 6 0 0 [.ref 100, .int x] Z R I L post := by
  refine Cx.of (by decide +kernel) (by exact Nat.le_of_ble_eq_true rfl) ?_
  have hB := hG.1.bnd
  have hp6 := hG.1.p
  have hb := hG.1.b
  have h00 := hG.1.1.1
  refine Sx.aload_n dX11_swings_0 rfl ?_
  refine Sx.getfR dX11_swings_1 lkf_X11_19_11 (o_100 W) (r_100_1 W) ?_
  refine Sx.iload_n dX11_swings_4 rfl ?_
  refine Sx.callV1 dX11_swings_5 lkv_X11_177 (rcv_6 (o_103 W)) (by decide) (by decide) (Nat.le_of_ble_eq_true rfl) rfl rfl (d_isKind W C.2.1 (by omega) ?_)
  refine Sx.if_eqD (t := 26) dX11_swings_8 (by decide) (fun c8 => ?_) (fun c8 => ?_)
  · refine Sx.iconst (v := (iI (-1))) dX11_swings_26 (by decide) ?_
    refine Sx.iret dX11_swings_27 rfl rfl ?_
    have hn : ¬ swiC V x := fun z => by omega
    exact pXX (by unfold swiR; rw [if_neg hn]; rfl) (h I R L C (CF.rf R I L))
  · have hH := hG.1.hk (by omega)
    obtain ⟨p, rfl, hp⟩ := x_ex (x := x) (n := V 2 34) ⟨by omega, by omega⟩
    have hc : swiC V (nI p) := ⟨by rw [nI_toInt (by omega)]; omega, by rw [nI_toInt (by omega)]; omega⟩
    refine Sx.sub' [(0, .ref 100), (1, .int (nI p))] rfl ?_
    refine Sx.aload_n dX11_swings_11 rfl ?_
    refine Sx.getfR dX11_swings_12 lkf_X11_68_11 (o_100 W) (r_100_8 W) ?_
    refine Sx.aload_n dX11_swings_15 rfl ?_
    refine Sx.getfR dX11_swings_16 lkf_X11_89_11 (o_100 W) (r_100_11 W) ?_
    refine Sx.iload_n dX11_swings_19 rfl ?_
    refine Sx.callV2 dX11_swings_20 lkv_X11_294 (rcv_5 (o_119 W)) (by decide) (by decide) (Nat.le_of_ble_eq_true rfl) rfl rfl (d_fsw W C hH hb (by omega) (fun I1 C1 o1 => ?_))
    refine Sx.goto (t := 27) dX11_swings_23 (by decide) ?_
    refine Sx.iret dX11_swings_27 rfl rfl ?_
    exact pXX (by unfold swiR; rw [if_pos hc, xN_n (by omega), soF_cg _ (fun s _ => sw_same hH (by omega) s)]) (h I1 R L C1 o1.cf)
