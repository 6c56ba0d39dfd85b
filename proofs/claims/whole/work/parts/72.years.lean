/-! the reference: draws, years -/
theorem MI.lc {V : Vt} {I : It} {L L' : Lt} (h : MI V I L) (e : L' 269 = L 269) : MI V I L' := by
  obtain ⟨⟨a1, a2, a3, a4, a5, a6, a7, a8, a9, a10, a11⟩, b⟩ := h
  exact ⟨⟨a1, a2, a3, a4, a5, a6, a7, a8, a9, a10, by rw [e]; exact a11⟩, b⟩
set_option maxRecDepth 20000 in
set_option maxHeartbeats 1000000 in
theorem k_draw {G : Gt} {l : Launch} {Z : Zt} {R : Rt} {I : It} {L : Lt} {post : Pt'} {n : Nat} {c : Int64} (W : WF Z R) (hc : L 253 42 = c) (h0 : 0 < n) (hn : n < 2 ^ 31) (h : ∀ L', L' 253 42 = drC c → (∀ a, a ≠ 253 → L' a = L a) → post (some (.int (nI (drV (drC c) n)))) Z R I L') : Cx G l mX12_draw 1 0 0 [.ref 253, .int (nI n)] Z R I L post := by
  refine Cx.of (by decide +kernel) (by exact Nat.le_of_ble_eq_true rfl) ?_
  have h := h _ (up2L_at L 253 42 (drC c)) (fun a ha => up2L_ne _ _ _ _ ha)
  rw [← hc] at h
  refine Sx.aload_n dX12_draw_0 rfl ?_
  refine Sx.aload_n dX12_draw_1 rfl ?_
  refine Sx.getfL dX12_draw_2 lkf_X12_416_12 (o_253 W) ?_
  refine Sx.ldc2 dX12_draw_5 lkk_X12_420 ?_
  refine Sx.lmul dX12_draw_8 ?_
  refine Sx.ldc2 dX12_draw_9 lkk_X12_422 ?_
  refine Sx.ladd dX12_draw_12 ?_
  refine Sx.putfL dX12_draw_13 lkp_X12_416_12 (o_253 W) rfl rfl ?_
  refine Sx.aload_n dX12_draw_16 rfl ?_
  refine Sx.getfL dX12_draw_17 lkf_X12_416_12 (o_253 W) ?_
  refine Sx.bipush (v := 33) dX12_draw_20 (by decide) ?_
  refine Sx.lushr dX12_draw_22 ?_
  refine Sx.iload_n dX12_draw_23 rfl ?_
  refine Sx.i2l dX12_draw_24 ?_
  refine Sx.lrem dX12_draw_25 (fun q => by have := congrArg Int64.toInt q; rw [Int32.toInt_toInt64, nI_toInt hn, show (0 : Int64).toInt = 0 from rfl] at this; omega) ?_
  refine Sx.l2i dX12_draw_26 ?_
  refine Sx.iret dX12_draw_27 rfl rfl ?_
  rw [dr_val (drC (L 253 42)) h0 hn _ _ (by rw [up2L_at]; rfl) rfl]
  exact h
theorem ddF_144 (P F : Nat → Nat) (c : Int64) (wh : Nat) (hP : PB P) {q : Nat} (h : 6 ≤ q) (h1 : q ≠ 139) (h2 : q ≠ 140) : ddF P F c wh q = F q := by
  have p7 : 2 ≤ P 35 := hP.2.2.2.2.2.2.1
  have p8 : P 35 ≤ 6 := hP.2.2.2.2.2.2.2.1
  have e : dd1 P F c wh q = F q := by
    unfold dd1
    split
    · have := drV_lt (drC (drC (drC c))) (n := P 35) (by omega)
      unfold upn
      rw [if_neg (by omega), if_neg h1]
    · unfold upn; rw [if_neg h1]
  unfold ddF
  split
  · unfold upn; rw [if_neg h2]; exact e
  · exact e
theorem ddF_SG {P F : Nat → Nat} (hP : PB P) (hF : SG P F) (c : Int64) (wh : Nat) : SG P (ddF P F c wh) := by
  have p7 : 2 ≤ P 35 := hP.2.2.2.2.2.2.1
  have p8 : P 35 ≤ 6 := hP.2.2.2.2.2.2.2.1
  refine ⟨ddF_SB hP hF.1 c wh, by rw [ddF_144 P F c wh hP (by decide) (by decide) (by decide)]; exact hF.2.1, fun p h1 h2 => ?_, fun k h1 h2 => by rw [ddF_144 P F c wh hP (by omega) (by omega) (by omega)]; exact hF.2.2.2 k h1 h2⟩
  have e : dd1 P F c wh p = F p := by
    unfold dd1
    split
    · have := drV_lt (drC (drC (drC c))) (n := P 35) (by omega)
      unfold upn
      rw [if_neg (by omega), if_neg (by omega)]
    · unfold upn; rw [if_neg (by omega)]
  rw [← hF.2.2.1 p h1 h2, ← e]
  unfold ddF
  split
  · unfold upn; rw [if_neg (by omega)]
  · rfl
def yr1 (V : Vt) (c : Int64) : Vt := goV (vr (rmV V) 3 (ddF (V 2) (V 3) c (V 0 6)))
def itG {α : Type} (f : α → α) : Nat → α → α
  | 0, a => a
  | n + 1, a => itG f n (f a)
theorem itG_s {α : Type} (f : α → α) (n : Nat) (a : α) : itG f (n + 1) a = itG f n (f a) := rfl
theorem itG_0 {α : Type} (f : α → α) (a : α) : itG f 0 a = a := rfl
def yrP (s : Vt × Int64) : Vt × Int64 := (yr1 s.1 s.2, ddC s.2 (s.1 0 6))
theorem yrP_e (V : Vt) (c : Int64) : yrP (V, c) = (yr1 V c, ddC c (V 0 6)) := rfl
def yrV (n : Nat) (V : Vt) (c : Int64) : Vt := (itG yrP n (V, c)).1
theorem yrV_s (m : Nat) (V : Vt) (c : Int64) : yrV (m + 1) V c = yrV m (yr1 V c) (ddC c (V 0 6)) := by unfold yrV; rw [itG_s, yrP_e]
theorem yrV_0 (V : Vt) (c : Int64) : yrV 0 V c = V := by unfold yrV; rw [itG_0]
theorem vr_rm2 (V : Vt) (F : Nat → Nat) : vr (rmV V) 3 F 2 = V 2 := by rw [vr_o _ _ (by decide), rm_o V (by decide) (by decide)]
theorem yr1_2 (V : Vt) (c : Int64) : yr1 V c 2 = V 2 := by unfold yr1 goV; rw [vr_o _ _ (by decide), vr_rm2]
theorem yr1_06 (V : Vt) (c : Int64) : yr1 V c 0 6 = V 0 6 := by unfold yr1 goV; rw [vr_o _ _ (by decide), vr_o _ _ (by decide), rm_0 V (by decide)]
theorem yr1_3 (V : Vt) (c : Int64) (h : HV V) : yr1 V c 3 = pdN (V 2) (wlV V) (ddF (V 2) (V 3) c (V 0 6)) := by
  unfold yr1 goV
  rw [vr_a, vr_rm2, vr_a, wl_v3, wl_rm h]
theorem yr_st {V : Vt} {c : Int64} {m : Nat} (h : HV V) (hm : 1 ≤ m) (hd : V 2 0 * V 3 144 + V 3 145 + m < V 2 0 * 1000) : (V 3 144 < 999 ∨ V 3 145 + 1 < V 2 0) ∧ HV (yr1 V c) ∧ V 2 0 * yr1 V c 3 144 + yr1 V c 3 145 + (m - 1) < V 2 0 * 1000 := by
  obtain ⟨h1, h2, h3, hP, hS⟩ := id h
  have hS1 := ddF_SG hP hS c (V 0 6)
  have e4 : ddF (V 2) (V 3) c (V 0 6) 144 = V 3 144 := ddF_144 _ _ _ _ hP (by decide) (by decide) (by decide)
  have e5 : ddF (V 2) (V 3) c (V 0 6) 145 = V 3 145 := ddF_144 _ _ _ _ hP (by decide) (by decide) (by decide)
  have hc : V 3 144 < 999 ∨ V 3 145 + 1 < V 2 0 := by
    by_cases q : V 3 144 < 999
    · exact Or.inl q
    · rw [show V 3 144 = 999 by have := hS.2.1; omega] at hd
      omega
  have hh : HV (vr (rmV V) 3 (ddF (V 2) (V 3) c (V 0 6))) := h.rm.v3 (by rw [rm_o V (by decide) (by decide)]; exact hS1)
  refine ⟨hc, hh.go (by rw [vr_a, vr_rm2, e4, e5]; exact hc), ?_⟩
  have hd9 := hS1.1.2.2.2.2.2.2.2.2.2.2.2.2.2.1
  have hd8 := hP.2.1
  rw [yr1_3 V c h, pd_145 _ _ _ hP.2.2.2.2.2.1, pd_144 hP.2.2.2.2.2.1 hP.2.2.2.2.2.2.2.1 (by omega), e4, e5]
  rw [e5] at hd9
  split
  · rw [Nat.mul_succ]; omega
  · omega
theorem ddC_y {c : Int64} {wh : Nat} (h : drV (drC (drC c)) 10 < wh) : ddC c wh = drC (drC (drC (drC (drC c)))) := if_pos h
theorem ddC_n {c : Int64} {wh : Nat} (h : ¬ drV (drC (drC c)) 10 < wh) : ddC c wh = drC (drC (drC c)) := if_neg h
theorem ddF_yy {P F : Nat → Nat} {c : Int64} {wh : Nat} (h : drV (drC (drC c)) 10 < wh) (g : drV (drC (drC (drC (drC (drC c))))) 100 < 3) : ddF P F c wh = upn (upn (upn F 139 (drV (drC c) 10)) (drV (drC (drC (drC c))) (P 35)) (drV (drC (drC (drC (drC c)))) (P 34))) 140 1 := by
  unfold ddF dd1
  rw [ddC_y h, if_pos g, if_pos h]
theorem ddF_yn {P F : Nat → Nat} {c : Int64} {wh : Nat} (h : drV (drC (drC c)) 10 < wh) (g : ¬ drV (drC (drC (drC (drC (drC c))))) 100 < 3) : ddF P F c wh = upn (upn F 139 (drV (drC c) 10)) (drV (drC (drC (drC c))) (P 35)) (drV (drC (drC (drC (drC c)))) (P 34)) := by
  unfold ddF dd1
  rw [ddC_y h, if_neg g, if_pos h]
theorem ddF_ny {P F : Nat → Nat} {c : Int64} {wh : Nat} (h : ¬ drV (drC (drC c)) 10 < wh) (g : drV (drC (drC (drC c))) 100 < 3) : ddF P F c wh = upn (upn F 139 (drV (drC c) 10)) 140 1 := by
  unfold ddF dd1
  rw [ddC_n h, if_pos g, if_neg h]
theorem ddF_nn {P F : Nat → Nat} {c : Int64} {wh : Nat} (h : ¬ drV (drC (drC c)) 10 < wh) (g : ¬ drV (drC (drC (drC c))) 100 < 3) : ddF P F c wh = upn F 139 (drV (drC c) 10) := by
  unfold ddF dd1
  rw [ddC_n h, if_neg g, if_neg h]
set_option maxRecDepth 20000 in
set_option maxHeartbeats 1000000 in
theorem l_yr {G : Gt} {l : Launch} {Z : Zt} {post : Pt'} {VF : Vt} {R0 : Rt} {I0 : It} {L0 : Lt} {n : Nat} (hn : n ≤ 60) (h : ∀ I' R' L', MI VF I' L' → FM R0 I0 L0 R' I' L' → post (some (.int (nI (VF 3 145)))) Z R' I' L') :
    ∀ (k m : Nat), m < k → ∀ (V : Vt) (c : Int64) (i : Nat) (R : Rt) (I : It) (L : Lt), WF Z R → MI V I L → HV V → V 2 0 * V 3 144 + V 3 145 + m < V 2 0 * 1000 → i + m = n → V 0 6 ≤ 9 → L 253 42 = c → FM R0 I0 L0 R I L → yrV m V c = VF → Sx G l mX12_years 39 0 0 71 [(4, .int (nI i)), (0, .ref 253), (1, .int (nI n))] [] Z R I L post := by
  intro k
  induction k with
  | zero => intro m h1; omega
  | succ k ih =>
    intro m h1 V c i R I L W hM hH hd him h6 hc hf hV
    refine Sx.iload dX12_years_71 rfl ?_
    refine Sx.iload_n dX12_years_73 rfl ?_
    refine Sx.icmp_geV (t := 162) dX12_years_74 (by decide) (vN (by omega)) (vN (by omega)) (fun c74 => ?_) (fun c74 => ?_)
    · refine Sx.aload_n dX12_years_162 rfl ?_
      refine Sx.getfR dX12_years_163 lkf_X12_61_12 (o_253 W) (r_253_32 W) ?_
      refine Sx.bipush (v := (nI 25)) dX12_years_166 (by decide) ?_
      refine Sx.ialdN dX12_years_168 (a_266 W) (by omega) (by decide) (v := (nI (V 3 145))) hM.2.1.2.2.2.2.2.2.2.2.1 ?_
      refine Sx.iret dX12_years_169 rfl rfl ?_
      have hm0 : m = 0 := by omega
      subst hm0
      rw [yrV_0] at hV
      subst hV
      exact h I R L hM hf
    · have hm : 1 ≤ m := by omega
      refine Sx.aload_n dX12_years_77 rfl ?_
      refine Sx.callV0 dX12_years_78 lkv_X12_396 (rcv_12 (o_253 W)) (by decide) (by decide) (Nat.le_of_ble_eq_true rfl) rfl rfl (k_remember W hM ⟨hH.1.1, hH.2.1⟩ hH.2.2.1 (fun I1 hM1 r1 t1 => ?_))
      have hf1 := hf.tr (FM.i (R := R) (L := L) fun q hq => r1 q (by omega) (by omega))
      have w2 := hM1.w3
      have w36 : I1 253 36 = nI (V 0 6) := by have z := hM1.1.1.2.2.2.2.2.2.1; rwa [rm_0 V (by decide)] at z
      have w27 : I1 253 27 = nI (V 2 35) := by have z := hM1.1.1.2.2.2.1; rwa [rm_o V (by decide) (by decide)] at z
      have w26 : I1 253 26 = nI (V 2 34) := by have z := hM1.1.1.2.2.1; rwa [rm_o V (by decide) (by decide)] at z
      obtain ⟨p1, p2, p3, p4, p5, p6, p7, p8, p9⟩ := id hH.2.2.2.1
      obtain ⟨y1, y2, y3⟩ := yr_st (c := c) hH hm hd
      refine Sx.aload_n dX12_years_81 rfl ?_
      refine Sx.getfR dX12_years_82 lkf_X12_61_12 (o_253 W) (r_253_32 W) ?_
      refine Sx.bipush (v := (nI 19)) dX12_years_85 (by decide) ?_
      refine Sx.aload_n dX12_years_87 rfl ?_
      refine Sx.bipush (v := (nI 10)) dX12_years_88 (by decide) ?_
      refine Sx.callV1 dX12_years_90 lkv_X12_426 (rcv_12 (o_253 W)) (by decide) (by decide) (Nat.le_of_ble_eq_true rfl) rfl rfl (k_draw W hc (by omega) (by omega) (fun L2 yc2 yl2 => ?_))
      have ql2 := drV_lt (drC c) (n := 10) (by omega)
      refine Sx.iastN dX12_years_93 (a_266 W) (by omega) (by decide) (fun I3 e3 o3 => ?_)
      refine Sx.aload_n dX12_years_94 rfl ?_
      refine Sx.bipush (v := (nI 10)) dX12_years_95 (by decide) ?_
      refine Sx.callV1 dX12_years_97 lkv_X12_426 (rcv_12 (o_253 W)) (by decide) (by decide) (Nat.le_of_ble_eq_true rfl) rfl rfl (k_draw W yc2 (by omega) (by omega) (fun L4 yc4 yl4 => ?_))
      have ql4 := drV_lt (drC (drC c)) (n := 10) (by omega)
      refine Sx.aload_n dX12_years_100 rfl ?_
      refine Sx.getfV (v := (nI (V 0 6))) dX12_years_101 lkf_X12_74_12 (o_253 W) (by rw [o3 253 (by decide)]; exact w36) ?_
      refine Sx.icmp_geV (t := 132) dX12_years_104 (by decide) (vN (by omega)) (vN (by omega)) (fun c104 => ?_) (fun c104 => ?_)
      · refine Sx.aload_n dX12_years_132 rfl ?_
        refine Sx.bipush (v := (nI 100)) dX12_years_133 (by decide) ?_
        refine Sx.callV1 dX12_years_135 lkv_X12_426 (rcv_12 (o_253 W)) (by decide) (by decide) (Nat.le_of_ble_eq_true rfl) rfl rfl (k_draw W yc4 (by omega) (by omega) (fun L5 yc5 yl5 => ?_))
        have ql5 := drV_lt (drC (drC (drC c))) (n := 100) (by omega)
        refine Sx.iconst (v := (nI 3)) dX12_years_138 (by decide) ?_
        refine Sx.icmp_geV (t := 150) dX12_years_139 (by decide) (vN (by omega)) (vN (by decide)) (fun c139 => ?_) (fun c139 => ?_)
        · refine Sx.aload_n dX12_years_150 rfl ?_
          refine Sx.callV0 dX12_years_151 lkv_X12_399 (rcv_12 (o_253 W)) (by decide) (by decide) (Nat.le_of_ble_eq_true rfl) rfl rfl (k_goNow W (V := vr (rmV V) 3 (ddF (V 2) (V 3) c (V 0 6))) (MI.lc (L := L) ?_ (by rw [yl5 269 (by decide), yl4 269 (by decide), yl2 269 (by decide)])) (hH.rm.v3 (by rw [rm_o V (by decide) (by decide)]; exact ddF_SG hH.2.2.2.1 hH.2.2.2.2 c (V 0 6))) (fun I6 R6 L6 hM6 hf6 hl6 => ?_))
          · have mn := (w2.set (b := 139) (x := drV (drC c) 10) (by omega) (v := nI (drV (drC c) 10)) (by rw [if_neg (by omega)]))
            refine MI.row hM1 ⟨by rw [rm_0 V (by decide)]; exact hH.1.1, by rw [rm_0 V (by decide)]; exact hH.2.1⟩ (fun q hq => by rw [o3 q hq]) ?_
            rw [ddF_nn (by omega) (by omega), e3]
            exact mn
          have hfa := (hf1.tr (FM.i (R := R) (L := L) fun q hq => by rw [o3 q (by omega)])).tr (⟨fun _ _ => rfl, fun q hq => by rw [yl5 q (by omega), yl4 q (by omega), yl2 q (by omega)], fun _ _ _ => rfl⟩ : FM R I3 L R I3 L5)
          have hfb := hfa.tr hf6
          have W6 := hf6.wf W
          refine Sx.istore (lv' := [(5, .int _), (4, .int (nI i)), (0, .ref 253), (1, .int (nI n))]) dX12_years_154 (by decide) rfl ?_
          refine Sx.iinc (v := (nI (i + 1))) (lv' := [(4, .int (nI (i + 1))), (5, .int _), (0, .ref 253), (1, .int (nI n))]) dX12_years_156 rfl (nI_add i 1) (by decide) rfl ?_
          refine Sx.goto (t := 71) dX12_years_159 (by decide) ?_
          refine Sx.sub' [(4, .int (nI (i + 1))), (0, .ref 253), (1, .int (nI n))] rfl ?_
          exact ih (m - 1) (by omega) (yr1 V c) (ddC c (V 0 6)) (i + 1) R6 I6 L6 W6 hM6 y2 (by rw [yr1_2]; exact y3) (by omega) (by rw [yr1_06]; exact h6) (by rw [ddC_n (by omega), hl6 253 (by decide)]; exact yc5) hfb (by rw [← hV]; exact (congrArg (fun z => yrV z V c) (show m = m - 1 + 1 by omega)).trans (yrV_s (m - 1) V c) |>.symm)
        · refine Sx.aload_n dX12_years_142 rfl ?_
          refine Sx.getfR dX12_years_143 lkf_X12_61_12 (o_253 W) (r_253_32 W) ?_
          refine Sx.bipush (v := (nI 20)) dX12_years_146 (by decide) ?_
          refine Sx.iconst (v := (nI 1)) dX12_years_148 (by decide) ?_
          refine Sx.iastN dX12_years_149 (a_266 W) (by omega) (by decide) (fun I7 e7 o7 => ?_)
          refine Sx.aload_n dX12_years_150 rfl ?_
          refine Sx.callV0 dX12_years_151 lkv_X12_399 (rcv_12 (o_253 W)) (by decide) (by decide) (Nat.le_of_ble_eq_true rfl) rfl rfl (k_goNow W (V := vr (rmV V) 3 (ddF (V 2) (V 3) c (V 0 6))) (MI.lc (L := L) ?_ (by rw [yl5 269 (by decide), yl4 269 (by decide), yl2 269 (by decide)])) (hH.rm.v3 (by rw [rm_o V (by decide) (by decide)]; exact ddF_SG hH.2.2.2.1 hH.2.2.2.2 c (V 0 6))) (fun I8 R8 L8 hM8 hf8 hl8 => ?_))
          · have mn := ((w2.set (b := 139) (x := drV (drC c) 10) (by omega) (v := nI (drV (drC c) 10)) (by rw [if_neg (by omega)])).set (b := 140) (x := 1) (by omega) (v := nI (1)) (by rw [if_neg (by omega)]))
            refine MI.row hM1 ⟨by rw [rm_0 V (by decide)]; exact hH.1.1, by rw [rm_0 V (by decide)]; exact hH.2.1⟩ (fun q hq => by rw [o7 q hq, o3 q hq]) ?_
            rw [ddF_ny (by omega) (by omega), e7, e3]
            exact mn
          have hfa := (hf1.tr (FM.i (R := R) (L := L) fun q hq => by rw [o7 q (by omega), o3 q (by omega)])).tr (⟨fun _ _ => rfl, fun q hq => by rw [yl5 q (by omega), yl4 q (by omega), yl2 q (by omega)], fun _ _ _ => rfl⟩ : FM R I7 L R I7 L5)
          have hfb := hfa.tr hf8
          have W8 := hf8.wf W
          refine Sx.istore (lv' := [(5, .int _), (4, .int (nI i)), (0, .ref 253), (1, .int (nI n))]) dX12_years_154 (by decide) rfl ?_
          refine Sx.iinc (v := (nI (i + 1))) (lv' := [(4, .int (nI (i + 1))), (5, .int _), (0, .ref 253), (1, .int (nI n))]) dX12_years_156 rfl (nI_add i 1) (by decide) rfl ?_
          refine Sx.goto (t := 71) dX12_years_159 (by decide) ?_
          refine Sx.sub' [(4, .int (nI (i + 1))), (0, .ref 253), (1, .int (nI n))] rfl ?_
          exact ih (m - 1) (by omega) (yr1 V c) (ddC c (V 0 6)) (i + 1) R8 I8 L8 W8 hM8 y2 (by rw [yr1_2]; exact y3) (by omega) (by rw [yr1_06]; exact h6) (by rw [ddC_n (by omega), hl8 253 (by decide)]; exact yc5) hfb (by rw [← hV]; exact (congrArg (fun z => yrV z V c) (show m = m - 1 + 1 by omega)).trans (yrV_s (m - 1) V c) |>.symm)
      · refine Sx.aload_n dX12_years_107 rfl ?_
        refine Sx.aload_n dX12_years_108 rfl ?_
        refine Sx.getfV (v := (nI (V 2 35))) dX12_years_109 lkf_X12_307_12 (o_253 W) (by rw [o3 253 (by decide)]; exact w27) ?_
        refine Sx.callV1 dX12_years_112 lkv_X12_426 (rcv_12 (o_253 W)) (by decide) (by decide) (Nat.le_of_ble_eq_true rfl) rfl rfl (k_draw W yc4 (by omega) (by omega) (fun L9 yc9 yl9 => ?_))
        have ql9 := drV_lt (drC (drC (drC c))) (n := V 2 35) (by omega)
        refine Sx.istore (lv' := [(5, .int (nI (drV (drC (drC (drC c))) (V 2 35)))), (4, .int (nI i)), (0, .ref 253), (1, .int (nI n))]) dX12_years_115 (by decide) rfl ?_
        refine Sx.aload_n dX12_years_117 rfl ?_
        refine Sx.getfR dX12_years_118 lkf_X12_61_12 (o_253 W) (r_253_32 W) ?_
        refine Sx.iload dX12_years_121 rfl ?_
        refine Sx.aload_n dX12_years_123 rfl ?_
        refine Sx.aload_n dX12_years_124 rfl ?_
        refine Sx.getfV (v := (nI (V 2 34))) dX12_years_125 lkf_X12_304_12 (o_253 W) (by rw [o3 253 (by decide)]; exact w26) ?_
        refine Sx.callV1 dX12_years_128 lkv_X12_426 (rcv_12 (o_253 W)) (by decide) (by decide) (Nat.le_of_ble_eq_true rfl) rfl rfl (k_draw W yc9 (by omega) (by omega) (fun L10 yc10 yl10 => ?_))
        have ql10 := drV_lt (drC (drC (drC (drC c)))) (n := V 2 34) (by omega)
        refine Sx.iastN dX12_years_131 (a_266 W) (by omega) (by decide) (fun I11 e11 o11 => ?_)
        refine Sx.aload_n dX12_years_132 rfl ?_
        refine Sx.bipush (v := (nI 100)) dX12_years_133 (by decide) ?_
        refine Sx.callV1 dX12_years_135 lkv_X12_426 (rcv_12 (o_253 W)) (by decide) (by decide) (Nat.le_of_ble_eq_true rfl) rfl rfl (k_draw W yc10 (by omega) (by omega) (fun L12 yc12 yl12 => ?_))
        have ql12 := drV_lt (drC (drC (drC (drC (drC c))))) (n := 100) (by omega)
        refine Sx.iconst (v := (nI 3)) dX12_years_138 (by decide) ?_
        refine Sx.icmp_geV (t := 150) dX12_years_139 (by decide) (vN (by omega)) (vN (by decide)) (fun c139 => ?_) (fun c139 => ?_)
        · refine Sx.aload_n dX12_years_150 rfl ?_
          refine Sx.callV0 dX12_years_151 lkv_X12_399 (rcv_12 (o_253 W)) (by decide) (by decide) (Nat.le_of_ble_eq_true rfl) rfl rfl (k_goNow W (V := vr (rmV V) 3 (ddF (V 2) (V 3) c (V 0 6))) (MI.lc (L := L) ?_ (by rw [yl12 269 (by decide), yl10 269 (by decide), yl9 269 (by decide), yl4 269 (by decide), yl2 269 (by decide)])) (hH.rm.v3 (by rw [rm_o V (by decide) (by decide)]; exact ddF_SG hH.2.2.2.1 hH.2.2.2.2 c (V 0 6))) (fun I13 R13 L13 hM13 hf13 hl13 => ?_))
          · have mn := ((w2.set (b := 139) (x := drV (drC c) 10) (by omega) (v := nI (drV (drC c) 10)) (by rw [if_neg (by omega)])).set (b := drV (drC (drC (drC c))) (V 2 35)) (x := drV (drC (drC (drC (drC c)))) (V 2 34)) (by omega) (v := nI (drV (drC (drC (drC (drC c)))) (V 2 34))) (by rw [if_neg (by omega)]))
            rw [cw_p (p := drV (drC (drC (drC c))) (V 2 35)) (by omega)] at mn
            refine MI.row hM1 ⟨by rw [rm_0 V (by decide)]; exact hH.1.1, by rw [rm_0 V (by decide)]; exact hH.2.1⟩ (fun q hq => by rw [o11 q hq, o3 q hq]) ?_
            rw [ddF_yn (by omega) (by omega), e11, e3]
            exact mn
          have hfa := (hf1.tr (FM.i (R := R) (L := L) fun q hq => by rw [o11 q (by omega), o3 q (by omega)])).tr (⟨fun _ _ => rfl, fun q hq => by rw [yl12 q (by omega), yl10 q (by omega), yl9 q (by omega), yl4 q (by omega), yl2 q (by omega)], fun _ _ _ => rfl⟩ : FM R I11 L R I11 L12)
          have hfb := hfa.tr hf13
          have W13 := hf13.wf W
          refine Sx.istore (lv' := [(5, .int _), (4, .int (nI i)), (0, .ref 253), (1, .int (nI n))]) dX12_years_154 (by decide) rfl ?_
          refine Sx.iinc (v := (nI (i + 1))) (lv' := [(4, .int (nI (i + 1))), (5, .int _), (0, .ref 253), (1, .int (nI n))]) dX12_years_156 rfl (nI_add i 1) (by decide) rfl ?_
          refine Sx.goto (t := 71) dX12_years_159 (by decide) ?_
          refine Sx.sub' [(4, .int (nI (i + 1))), (0, .ref 253), (1, .int (nI n))] rfl ?_
          exact ih (m - 1) (by omega) (yr1 V c) (ddC c (V 0 6)) (i + 1) R13 I13 L13 W13 hM13 y2 (by rw [yr1_2]; exact y3) (by omega) (by rw [yr1_06]; exact h6) (by rw [ddC_y (by omega), hl13 253 (by decide)]; exact yc12) hfb (by rw [← hV]; exact (congrArg (fun z => yrV z V c) (show m = m - 1 + 1 by omega)).trans (yrV_s (m - 1) V c) |>.symm)
        · refine Sx.aload_n dX12_years_142 rfl ?_
          refine Sx.getfR dX12_years_143 lkf_X12_61_12 (o_253 W) (r_253_32 W) ?_
          refine Sx.bipush (v := (nI 20)) dX12_years_146 (by decide) ?_
          refine Sx.iconst (v := (nI 1)) dX12_years_148 (by decide) ?_
          refine Sx.iastN dX12_years_149 (a_266 W) (by omega) (by decide) (fun I14 e14 o14 => ?_)
          refine Sx.aload_n dX12_years_150 rfl ?_
          refine Sx.callV0 dX12_years_151 lkv_X12_399 (rcv_12 (o_253 W)) (by decide) (by decide) (Nat.le_of_ble_eq_true rfl) rfl rfl (k_goNow W (V := vr (rmV V) 3 (ddF (V 2) (V 3) c (V 0 6))) (MI.lc (L := L) ?_ (by rw [yl12 269 (by decide), yl10 269 (by decide), yl9 269 (by decide), yl4 269 (by decide), yl2 269 (by decide)])) (hH.rm.v3 (by rw [rm_o V (by decide) (by decide)]; exact ddF_SG hH.2.2.2.1 hH.2.2.2.2 c (V 0 6))) (fun I15 R15 L15 hM15 hf15 hl15 => ?_))
          · have mn := (((w2.set (b := 139) (x := drV (drC c) 10) (by omega) (v := nI (drV (drC c) 10)) (by rw [if_neg (by omega)])).set (b := drV (drC (drC (drC c))) (V 2 35)) (x := drV (drC (drC (drC (drC c)))) (V 2 34)) (by omega) (v := nI (drV (drC (drC (drC (drC c)))) (V 2 34))) (by rw [if_neg (by omega)])).set (b := 140) (x := 1) (by omega) (v := nI (1)) (by rw [if_neg (by omega)]))
            rw [cw_p (p := drV (drC (drC (drC c))) (V 2 35)) (by omega)] at mn
            refine MI.row hM1 ⟨by rw [rm_0 V (by decide)]; exact hH.1.1, by rw [rm_0 V (by decide)]; exact hH.2.1⟩ (fun q hq => by rw [o14 q hq, o11 q hq, o3 q hq]) ?_
            rw [ddF_yy (by omega) (by omega), e14, e11, e3]
            exact mn
          have hfa := (hf1.tr (FM.i (R := R) (L := L) fun q hq => by rw [o14 q (by omega), o11 q (by omega), o3 q (by omega)])).tr (⟨fun _ _ => rfl, fun q hq => by rw [yl12 q (by omega), yl10 q (by omega), yl9 q (by omega), yl4 q (by omega), yl2 q (by omega)], fun _ _ _ => rfl⟩ : FM R I14 L R I14 L12)
          have hfb := hfa.tr hf15
          have W15 := hf15.wf W
          refine Sx.istore (lv' := [(5, .int _), (4, .int (nI i)), (0, .ref 253), (1, .int (nI n))]) dX12_years_154 (by decide) rfl ?_
          refine Sx.iinc (v := (nI (i + 1))) (lv' := [(4, .int (nI (i + 1))), (5, .int _), (0, .ref 253), (1, .int (nI n))]) dX12_years_156 rfl (nI_add i 1) (by decide) rfl ?_
          refine Sx.goto (t := 71) dX12_years_159 (by decide) ?_
          refine Sx.sub' [(4, .int (nI (i + 1))), (0, .ref 253), (1, .int (nI n))] rfl ?_
          exact ih (m - 1) (by omega) (yr1 V c) (ddC c (V 0 6)) (i + 1) R15 I15 L15 W15 hM15 y2 (by rw [yr1_2]; exact y3) (by omega) (by rw [yr1_06]; exact h6) (by rw [ddC_y (by omega), hl15 253 (by decide)]; exact yc12) hfb (by rw [← hV]; exact (congrArg (fun z => yrV z V c) (show m = m - 1 + 1 by omega)).trans (yrV_s (m - 1) V c) |>.symm)
abbrev yrC (V : Vt) (x : Int32) : Prop := V 2 35 ≠ 0 ∧ 1 ≤ x.toInt ∧ x.toInt ≤ 60 ∧ ((V 2 0 * V 3 144 + V 3 145 : Nat) : Int) + x.toInt < ((V 2 0 * 1000 : Nat) : Int)
def yrsV (V : Vt) (x : Int32) (c : Int64) : Vt := if yrC V x then yrV (xN x) V c else V
def yrsR (V : Vt) (x : Int32) (c : Int64) : Int32 := if yrC V x then nI (yrV (xN x) V c 3 145) else -1
theorem n_mul30 {a b : Nat} (ha : a ≤ 30) (hb : b ≤ 1000) : a * b ≤ 30000 := Nat.mul_le_mul ha hb
set_option maxRecDepth 20000 in
set_option maxHeartbeats 1000000 in
theorem k_years {G : Gt} {l : Launch} {Z : Zt} {R : Rt} {I : It} {L : Lt} {post : Pt'} {V : Vt} {N : Nat} {x : Int32} {c : Int64} (W : WF Z R) (hM : MI V I L) (hG : GV N V) (hN : N < 2147483647) (h : ∀ I' R' L', MI (yrsV V x c) I' L' → FM R I L R' I' L' → post (some (.int (yrsR V x c))) Z R' I' L') : Cx G l mX12_years 39 0 0 [.ref 253, .int x, .long c] Z R I L post := by
  refine Cx.of (by decide +kernel) (by exact Nat.le_of_ble_eq_true rfl) ?_
  have hx := x_rg x
  refine Sx.aload_n dX12_years_0 rfl ?_
  refine Sx.iconst (v := (nI 0)) dX12_years_1 (by decide) ?_
  refine Sx.putfV dX12_years_2 lkp_X12_109_12 (o_253 W) rfl rfl (fun I1 e1 o1 => ?_)
  have M1 := hM.th (j := 0) (by unfold sfJ; decide) e1 o1
  have hf1 : FM R I L R I1 L := FM.i fun q hq => o1 q (by omega)
  have hp6 := hG.p
  have hb := hG.b
  refine Sx.aload_n dX12_years_5 rfl ?_
  refine Sx.getfV (v := (nI (V 2 35))) dX12_years_6 lkf_X12_307_12 (o_253 W) M1.1.1.2.2.2.1 ?_
  refine Sx.if_eqV (t := 61) dX12_years_9 (by decide) (vN (by omega)) (fun c9 => ?_) (fun c9 => ?_)
  · refine Sx.iconst (v := (iI (-1))) dX12_years_61 (by decide) ?_
    refine Sx.iret dX12_years_62 rfl rfl ?_
    have hn : ¬ yrC V x := fun z => by unfold yrC at z; omega
    have h0 := h I1 R L (by unfold yrsV; rw [if_neg hn]; exact M1) hf1
    unfold yrsR at h0
    rw [if_neg hn] at h0
    exact h0
  · refine Sx.iload_n dX12_years_12 rfl ?_
    refine Sx.i2l dX12_years_13 ?_
    refine Sx.lconst (v := 1) dX12_years_14 (by decide) ?_
    refine Sx.ldc2 dX12_years_15 lkk_X12_424 ?_
    refine Sx.callS3 dX12_years_18 lkc_X12_230  (by decide) (by decide) (Nat.le_of_ble_eq_true rfl) rfl rfl (k_isIn (vLi (vX x)) (show VL 1 1 from rfl) (show VL 60 60 from rfl) ?_)
    refine Sx.if_eqD (t := 61) dX12_years_21 (by decide) (fun c21 => ?_) (fun c21 => ?_)
    · refine Sx.iconst (v := (iI (-1))) dX12_years_61 (by decide) ?_
      refine Sx.iret dX12_years_62 rfl rfl ?_
      have hn : ¬ yrC V x := fun z => by unfold yrC at z; omega
      have h0 := h I1 R L (by unfold yrsV; rw [if_neg hn]; exact M1) hf1
      unfold yrsR at h0
      rw [if_neg hn] at h0
      exact h0
    · have hH := hG.hv (by omega)
      obtain ⟨⟨f1, f2, f3, f4, f5, f6, f7, f8, f9, f10, f11, f12, f13, f14, f15, f16⟩, f17, -, -⟩ := id hH.2.2.2.2
      have p2 := hH.2.2.2.1.2.1
      have hm1 := n_mul30 p2 (show V 3 144 ≤ 1000 by omega)
      have hm2 := n_mul30 p2 (show 1000 ≤ 1000 by omega)
      refine Sx.aload_n dX12_years_24 rfl ?_
      refine Sx.getfR dX12_years_25 lkf_X12_37_12 (o_253 W) (r_253_18 W) ?_
      refine Sx.iconst (v := (nI 0)) dX12_years_28 (by decide) ?_
      refine Sx.ialdN dX12_years_29 (a_258 W) (by decide) (by decide) (v := (nI (V 2 0))) (M1.1.2.2.2.1.1 0 (by decide)) ?_
      refine Sx.aload_n dX12_years_30 rfl ?_
      refine Sx.getfR dX12_years_31 lkf_X12_61_12 (o_253 W) (r_253_32 W) ?_
      refine Sx.bipush (v := (nI 24)) dX12_years_34 (by decide) ?_
      refine Sx.ialdN dX12_years_36 (a_266 W) (by decide) (by decide) (v := (nI (V 3 144))) M1.2.1.2.2.2.2.2.2.2.1 ?_
      refine Sx.imulN dX12_years_37 ?_
      refine Sx.aload_n dX12_years_38 rfl ?_
      refine Sx.getfR dX12_years_39 lkf_X12_61_12 (o_253 W) (r_253_32 W) ?_
      refine Sx.bipush (v := (nI 25)) dX12_years_42 (by decide) ?_
      refine Sx.ialdN dX12_years_44 (a_266 W) (by decide) (by decide) (v := (nI (V 3 145))) M1.2.1.2.2.2.2.2.2.2.2.1 ?_
      refine Sx.iaddN dX12_years_45 ?_
      refine Sx.iload_n dX12_years_46 rfl ?_
      refine Sx.iaddV dX12_years_47 (vN (by omega)) (vX x) ?_
      refine Sx.aload_n dX12_years_48 rfl ?_
      refine Sx.getfR dX12_years_49 lkf_X12_37_12 (o_253 W) (r_253_18 W) ?_
      refine Sx.iconst (v := (nI 0)) dX12_years_52 (by decide) ?_
      refine Sx.ialdN dX12_years_53 (a_258 W) (by decide) (by decide) (v := (nI (V 2 0))) (M1.1.2.2.2.1.1 0 (by decide)) ?_
      refine Sx.sipush (v := (nI 1000)) dX12_years_54 (by decide) ?_
      refine Sx.imulN dX12_years_57 ?_
      refine Sx.icmp_ltV (t := 63) dX12_years_58 (by decide) (vZ (by omega)) (vN (by omega)) (fun c58 => ?_) (fun c58 => ?_)
      · refine Sx.aload_n dX12_years_63 rfl ?_
        refine Sx.lload_n dX12_years_64 rfl ?_
        refine Sx.putfLV dX12_years_65 lkp_X12_416_12 (o_253 W) rfl rfl (fun L2 eL2 oL2 => ?_)
        refine Sx.iconst (v := (nI 0)) dX12_years_68 (by decide) ?_
        refine Sx.istore (lv' := [(4, .int (nI 0)), (0, .ref 253), (1, .int x), (2, .long c)]) dX12_years_69 (by decide) rfl ?_
        obtain ⟨n, hpx⟩ : ∃ p, p = xN x := ⟨_, rfl⟩
        have hxz : x.toInt = (n : Int) := by rw [hpx]; exact (Int.toNat_of_nonneg (by omega)).symm
        have hx0 : x = nI n := by rw [hpx]; exact x_nn (by omega)
        refine Sx.sub' [(4, .int (nI 0)), (0, .ref 253), (1, .int (nI n))] (by rw [hx0]; rfl) ?_
        have hC : yrC V x := ⟨by omega, by omega, by omega, by omega⟩
        refine l_yr (R0 := R) (I0 := I) (L0 := L) (VF := yrV n V c) (n := n) (by omega) (fun I' R' L' m f => ?_) (n + 1) n (by omega) V c 0 R I1 L2 W (M1.lc (by rw [oL2 269 (by decide)])) hH (by omega) (by omega) (by have := hG.2.2.2.1.2.2.1; omega) (by rw [eL2]; simp [vp_updL]) (hf1.tr (⟨fun _ _ => rfl, fun q hq => by rw [oL2 q (by omega)], fun _ _ _ => rfl⟩ : FM R I1 L R I1 L2)) rfl
        have h0 := h I' R' L' (by unfold yrsV; rw [if_pos hC, ← hpx]; exact m) f
        unfold yrsR at h0
        rw [if_pos hC, ← hpx] at h0
        exact h0
      · refine Sx.iconst (v := (iI (-1))) dX12_years_61 (by decide) ?_
        refine Sx.iret dX12_years_62 rfl rfl ?_
        have hn : ¬ yrC V x := fun z => by unfold yrC at z; omega
        have h0 := h I1 R L (by unfold yrsV; rw [if_neg hn]; exact M1) hf1
        unfold yrsR at h0
        rw [if_neg hn] at h0
        exact h0
