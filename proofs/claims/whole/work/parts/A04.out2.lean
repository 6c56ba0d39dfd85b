/-! the class: who governs in some years, treasuries of days to come, who is swayed -/
set_option maxRecDepth 20000 in
set_option maxHeartbeats 1000000 in
theorem l_gvb {G : Gt} {l : Launch} {Z : Zt} {R : Rt} {L : Lt} {post : Pt'} {V : Vt} {I0 : It} {n : Nat} (W : WF Z R) (hH : HV V) (hb : V 0 1 ≤ 4 ∧ V 0 3 ≤ 4) (hn : n ≤ 60) (hB : ∀ i, i ≤ n → SB (V 2) (itG (skN (V 2) (wlV V)) i (V 3)) ∧ itG (skN (V 2) (wlV V)) i (V 3) 144 ≤ 999 + i) (h : ∀ I', CI V R I' L → OF I0 I' → post (some (.int (iI ((itG (skN (V 2) (wlV V)) n (V 3) 143 : Int) - 1)))) Z R I' L) :
    ∀ (r i : Nat), i ≤ n → n < i + r → ∀ (I : It), CI V R I L → OF I0 I → rs (I 121) (itG (skN (V 2) (wlV V)) i (V 3)) → Sx G l mX5_governorBehind 6 0 0 10 [(3, .int (nI i)), (0, .ref 119), (1, .ref 229), (2, .int (nI n))] [] Z R I L post := by
  intro r
  induction r with
  | zero => intro i h1 h2; omega
  | succ r ih =>
    intro i h1 h2 I C hf hs
    refine Sx.iload_n dX5_governorBehind_10 rfl ?_
    refine Sx.iload_n dX5_governorBehind_11 rfl ?_
    refine Sx.icmp_geV (t := 32) dX5_governorBehind_12 (by decide) (vN (by omega)) (vN (by omega)) (fun c12 => ?_) (fun c12 => ?_)
    · have hj : n = i := by omega
      subst hj
      obtain ⟨hS, hy⟩ := hB n (by omega)
      refine Sx.aload_n dX5_governorBehind_32 rfl ?_
      refine Sx.getfR dX5_governorBehind_33 lkf_X5_12_5 (o_119 W) (r_119_2 W) ?_
      refine Sx.sipush (v := (nI 143)) dX5_governorBehind_36 (by decide) ?_
      refine Sx.callU1 dX5_governorBehind_39 lku_X5_78 (rcv_8 (o_120 W)) (by decide) (by decide) (Nat.le_of_ble_eq_true rfl) rfl rfl (d_gv (w_120r W) hs ?_)
      refine Sx.iret dX5_governorBehind_42 rfl rfl ?_
      exact h I C hf
    · obtain ⟨hS, hy⟩ := hB i (by omega)
      refine Sx.aload_n dX5_governorBehind_15 rfl ?_
      refine Sx.getfR dX5_governorBehind_16 lkf_X5_49_5 (o_119 W) (r_119_1 W) ?_
      refine Sx.aload_n dX5_governorBehind_19 rfl ?_
      refine Sx.getfR dX5_governorBehind_20 lkf_X5_12_5 (o_119 W) (r_119_2 W) ?_
      refine Sx.callV1 dX5_governorBehind_23 lkv_X5_99 (rcv_1 (o_114 W)) (by decide) (by decide) (Nat.le_of_ble_eq_true rfl) rfl rfl (c_skip W C.2.1 hH.2.2.2.1 (w_120r W) hs (by decide) (C.lw ⟨hH.1.1, hH.1.2.1⟩) hS (by omega) (fun I1 r1 o1 => ?_))
      refine Sx.iinc (v := (nI (i + 1))) (lv' := [(3, .int (nI (i + 1))), (0, .ref 119), (1, .ref 229), (2, .int (nI n))]) dX5_governorBehind_26 rfl (nI_add i 1) (by decide) rfl ?_
      refine Sx.goto (t := 10) dX5_governorBehind_29 (by decide) ?_
      refine Sx.sub' [(3, .int (nI (i + 1))), (0, .ref 119), (1, .ref 229), (2, .int (nI n))] rfl ?_
      have ho : OF I I1 := fun q hq => o1 q (by omega) (by omega) (by omega)
      exact ih (i + 1) (by omega) (by omega) I1 (ho.ci C hb) (hf.tr ho) (by rw [itG_c]; exact r1)
set_option maxRecDepth 20000 in
set_option maxHeartbeats 1000000 in
theorem d_gvb {G : Gt} {l : Launch} {Z : Zt} {R : Rt} {I : It} {L : Lt} {post : Pt'} {V : Vt} {n : Nat} (W : WF Z R) (C : CI V R I L) (hH : HV V) (hb : V 0 1 ≤ 4 ∧ V 0 3 ≤ 4) (hn : n ≤ 60) (hB : ∀ i, i ≤ n → SB (V 2) (itG (skN (V 2) (wlV V)) i (V 3)) ∧ itG (skN (V 2) (wlV V)) i (V 3) 144 ≤ 999 + i) (h : ∀ I', CI V R I' L → OF I I' → post (some (.int (iI ((itG (skN (V 2) (wlV V)) n (V 3) 143 : Int) - 1)))) Z R I' L) : Cx G l mX5_governorBehind 6 0 0 [.ref 119, .ref 229, .int (nI n)] Z R I L post := by
  refine Cx.of (by decide +kernel) (by exact Nat.le_of_ble_eq_true rfl) ?_
  refine Sx.aload_n dX5_governorBehind_0 rfl ?_
  refine Sx.getfR dX5_governorBehind_1 lkf_X5_12_5 (o_119 W) (r_119_2 W) ?_
  refine Sx.aload_n dX5_governorBehind_4 rfl ?_
  refine Sx.callU1 dX5_governorBehind_5 lku_X5_54 (rcv_8 (o_120 W)) (by decide) (by decide) (Nat.le_of_ble_eq_true rfl) rfl rfl (c_X7_copy (w_120r W) (by unfold rowC; decide) (by decide) (w_229r W) (by unfold rowC; decide) (fun I1 e1 o1 => ?_))
  have ho1 : OF I I1 := fun q hq => o1 q (by omega)
  have hs1 : rs (I1 121) (V 3) := by rw [e1]; exact rs_c C.2.2.1
  refine Sx.iconst (v := (nI 0)) dX5_governorBehind_8 (by decide) ?_
  refine Sx.istore_n (lv' := [(3, .int (nI 0)), (0, .ref 119), (1, .ref 229), (2, .int (nI n))]) dX5_governorBehind_9 (by decide) rfl ?_
  refine Sx.sub' [(3, .int (nI 0)), (0, .ref 119), (1, .ref 229), (2, .int (nI n))] rfl ?_
  exact l_gvb W hH hb hn hB (I0 := I) h (n + 1) 0 (by omega) (by omega) I1 (ho1.ci C hb) ho1 (by rw [itG_0]; exact hs1)
set_option maxRecDepth 20000 in
set_option maxHeartbeats 1000000 in
theorem l_trb {G : Gt} {l : Launch} {Z : Zt} {R : Rt} {L : Lt} {post : Pt'} {V : Vt} {I0 : It} {n : Nat} (W : WF Z R) (hH : HV V) (hb : V 0 1 ≤ 4 ∧ V 0 3 ≤ 4) (hn : n ≤ 99) (hB : ∀ i, i ≤ n → SB (V 2) (itG (pdN (V 2) (wlV V)) i (V 3)) ∧ itG (pdN (V 2) (wlV V)) i (V 3) 144 ≤ 999 + i) (h : ∀ I', CI V R I' L → OF I0 I' → post (some (.int (nI (itG (pdN (V 2) (wlV V)) n (V 3) 142)))) Z R I' L) :
    ∀ (r i : Nat), i ≤ n → n < i + r → ∀ (I : It), CI V R I L → OF I0 I → rs (I 121) (itG (pdN (V 2) (wlV V)) i (V 3)) → Sx G l mX5_treasuryBehind 7 0 0 10 [(3, .int (nI i)), (0, .ref 119), (1, .ref 229), (2, .int (nI n))] [] Z R I L post := by
  intro r
  induction r with
  | zero => intro i h1 h2; omega
  | succ r ih =>
    intro i h1 h2 I C hf hs
    refine Sx.iload_n dX5_treasuryBehind_10 rfl ?_
    refine Sx.iload_n dX5_treasuryBehind_11 rfl ?_
    refine Sx.icmp_geV (t := 32) dX5_treasuryBehind_12 (by decide) (vN (by omega)) (vN (by omega)) (fun c12 => ?_) (fun c12 => ?_)
    · have hj : n = i := by omega
      subst hj
      obtain ⟨hS, hy⟩ := hB n (by omega)
      refine Sx.aload_n dX5_treasuryBehind_32 rfl ?_
      refine Sx.getfR dX5_treasuryBehind_33 lkf_X5_12_5 (o_119 W) (r_119_2 W) ?_
      refine Sx.sipush (v := (nI 142)) dX5_treasuryBehind_36 (by decide) ?_
      refine Sx.callU1 dX5_treasuryBehind_39 lku_X5_78 (rcv_8 (o_120 W)) (by decide) (by decide) (Nat.le_of_ble_eq_true rfl) rfl rfl (c_sg (w_120r W) hs 142 rfl (by decide) (by decide) ?_)
      refine Sx.iret dX5_treasuryBehind_42 rfl rfl ?_
      exact h I C hf
    · obtain ⟨hS, hy⟩ := hB i (by omega)
      refine Sx.aload_n dX5_treasuryBehind_15 rfl ?_
      refine Sx.getfR dX5_treasuryBehind_16 lkf_X5_49_5 (o_119 W) (r_119_1 W) ?_
      refine Sx.aload_n dX5_treasuryBehind_19 rfl ?_
      refine Sx.getfR dX5_treasuryBehind_20 lkf_X5_12_5 (o_119 W) (r_119_2 W) ?_
      refine Sx.callV1 dX5_treasuryBehind_23 lkv_X5_137 (rcv_1 (o_114 W)) (by decide) (by decide) (Nat.le_of_ble_eq_true rfl) rfl rfl (c_pass W C.2.1 hH.2.2.2.1 (w_120r W) hs (by decide) (C.lw ⟨hH.1.1, hH.1.2.1⟩) hS (by omega) (fun I1 r1 o1 => ?_))
      refine Sx.iinc (v := (nI (i + 1))) (lv' := [(3, .int (nI (i + 1))), (0, .ref 119), (1, .ref 229), (2, .int (nI n))]) dX5_treasuryBehind_26 rfl (nI_add i 1) (by decide) rfl ?_
      refine Sx.goto (t := 10) dX5_treasuryBehind_29 (by decide) ?_
      refine Sx.sub' [(3, .int (nI (i + 1))), (0, .ref 119), (1, .ref 229), (2, .int (nI n))] rfl ?_
      have ho : OF I I1 := fun q hq => o1 q (by omega) (by omega) (by omega)
      exact ih (i + 1) (by omega) (by omega) I1 (ho.ci C hb) (hf.tr ho) (by rw [itG_c]; exact r1)
set_option maxRecDepth 20000 in
set_option maxHeartbeats 1000000 in
theorem d_trb {G : Gt} {l : Launch} {Z : Zt} {R : Rt} {I : It} {L : Lt} {post : Pt'} {V : Vt} {n : Nat} (W : WF Z R) (C : CI V R I L) (hH : HV V) (hb : V 0 1 ≤ 4 ∧ V 0 3 ≤ 4) (hn : n ≤ 99) (hB : ∀ i, i ≤ n → SB (V 2) (itG (pdN (V 2) (wlV V)) i (V 3)) ∧ itG (pdN (V 2) (wlV V)) i (V 3) 144 ≤ 999 + i) (h : ∀ I', CI V R I' L → OF I I' → post (some (.int (nI (itG (pdN (V 2) (wlV V)) n (V 3) 142)))) Z R I' L) : Cx G l mX5_treasuryBehind 7 0 0 [.ref 119, .ref 229, .int (nI n)] Z R I L post := by
  refine Cx.of (by decide +kernel) (by exact Nat.le_of_ble_eq_true rfl) ?_
  refine Sx.aload_n dX5_treasuryBehind_0 rfl ?_
  refine Sx.getfR dX5_treasuryBehind_1 lkf_X5_12_5 (o_119 W) (r_119_2 W) ?_
  refine Sx.aload_n dX5_treasuryBehind_4 rfl ?_
  refine Sx.callU1 dX5_treasuryBehind_5 lku_X5_54 (rcv_8 (o_120 W)) (by decide) (by decide) (Nat.le_of_ble_eq_true rfl) rfl rfl (c_X7_copy (w_120r W) (by unfold rowC; decide) (by decide) (w_229r W) (by unfold rowC; decide) (fun I1 e1 o1 => ?_))
  have ho1 : OF I I1 := fun q hq => o1 q (by omega)
  have hs1 : rs (I1 121) (V 3) := by rw [e1]; exact rs_c C.2.2.1
  refine Sx.iconst (v := (nI 0)) dX5_treasuryBehind_8 (by decide) ?_
  refine Sx.istore_n (lv' := [(3, .int (nI 0)), (0, .ref 119), (1, .ref 229), (2, .int (nI n))]) dX5_treasuryBehind_9 (by decide) rfl ?_
  refine Sx.sub' [(3, .int (nI 0)), (0, .ref 119), (1, .ref 229), (2, .int (nI n))] rfl ?_
  exact l_trb W hH hb hn hB (I0 := I) h (n + 1) 0 (by omega) (by omega) I1 (ho1.ci C hb) ho1 (by rw [itG_0]; exact hs1)
theorem it_pd {P F : Nat → Nat} {w : Wt} (hP : PB P) (hS : SB P F) (hy : F 144 ≤ 999) : ∀ n, n ≤ 99 → SB P (itG (pdN P w) n F) ∧ itG (pdN P w) n F 144 ≤ 999 + n
  | 0, _ => ⟨hS, hy⟩
  | n + 1, hn => by
    obtain ⟨h1, h2⟩ := it_pd hP hS hy (w := w) n (by omega)
    have p0 := hP.2.1
    have e := pd_144 (w := w) (F := itG (pdN P w) n F) hP.2.2.2.2.2.1 hP.2.2.2.2.2.2.2.1 (by have := h1.2.2.2.2.2.2.2.2.2.2.2.2.2.1; omega)
    rw [itG_c]
    refine ⟨pdN_SB hP h1 (by omega), ?_⟩
    rw [e]
    split <;> omega
theorem it_skB {V : Vt} (hH : HV V) : ∀ i, i ≤ 60 → SB (V 2) (itG (skN (V 2) (wlV V)) i (V 3)) ∧ itG (skN (V 2) (wlV V)) i (V 3) 144 ≤ 999 + i := fun i hi => by
  obtain ⟨h1, -, -, h4, h5⟩ := it_sk (w := wlV V) hH.2.2.2.1 hH.2.2.2.2.1 hH.2.2.2.2.2.1 i (by omega)
  have := h1 144 (by unfold kcC; omega)
  have := hH.2.2.2.2.2.1
  exact ⟨h4, by omega⟩
set_option maxRecDepth 20000 in
set_option maxHeartbeats 1000000 in
theorem d_governs {G : Gt} {l : Launch} {Z : Zt} {R : Rt} {I : It} {L : Lt} {post : Pt'} {V : Vt} {N : Nat} {x : Int32} (W : WF Z R) (C : CI V R I L) (hG : GG N V) (hN : N < 2147483647) (h : CQ post Z R I L V (govR V x)) : Cx G l mX11_governs 7 0 0 [.ref 100, .int x] Z R I L post := by
  refine Cx.of (by decide +kernel) (by exact Nat.le_of_ble_eq_true rfl) ?_
  have hB := hG.1.bnd
  have hp6 := hG.1.p
  have hb := hG.1.b
  have h00 := hG.1.1.1
  refine Sx.aload_n dX11_governs_0 rfl ?_
  refine Sx.callV0 dX11_governs_1 lkv_X11_223 (rcv_11 (o_100 W)) (by decide) (by decide) (Nat.le_of_ble_eq_true rfl) rfl rfl (d_isPort W C (by omega) ?_)
  refine Sx.if_eqD (t := 17) dX11_governs_4 (by decide) (fun c4 => ?_) (fun c4 => ?_)
  · refine Sx.ldc dX11_governs_17 lkk_X11_180 ?_
    refine Sx.top (show _ = (iI (-1000000)) by decide) ?_
    refine Sx.goto (t := 34) dX11_governs_19 (by decide) ?_
    refine Sx.iret dX11_governs_34 rfl rfl ?_
    have hn : ¬ govC V x := fun z => by omega
    exact pXX (by unfold govR; rw [if_neg hn]) (h I R L C (CF.rf R I L))
  · refine Sx.iload_n dX11_governs_7 rfl ?_
    refine Sx.if_ltV (t := 17) dX11_governs_8 (by decide) (vX x) (fun c8 => ?_) (fun c8 => ?_)
    · refine Sx.ldc dX11_governs_17 lkk_X11_180 ?_
      refine Sx.top (show _ = (iI (-1000000)) by decide) ?_
      refine Sx.goto (t := 34) dX11_governs_19 (by decide) ?_
      refine Sx.iret dX11_governs_34 rfl rfl ?_
      have hn : ¬ govC V x := fun z => by omega
      exact pXX (by unfold govR; rw [if_neg hn]) (h I R L C (CF.rf R I L))
    · refine Sx.iload_n dX11_governs_11 rfl ?_
      refine Sx.bipush (v := (nI 60)) dX11_governs_12 (by decide) ?_
      refine Sx.icmp_leV (t := 22) dX11_governs_14 (by decide) (vX x) (vN (by decide)) (fun c14 => ?_) (fun c14 => ?_)
      · have hH := hG.1.hv (by omega)
        have hc : govC V x := ⟨by omega, by omega, by omega⟩
        obtain ⟨p, rfl, hp⟩ := x_ex (x := x) (n := 61) ⟨by omega, by omega⟩
        refine Sx.sub' [(0, .ref 100), (1, .int (nI p))] rfl ?_
        refine Sx.aload_n dX11_governs_22 rfl ?_
        refine Sx.getfR dX11_governs_23 lkf_X11_68_11 (o_100 W) (r_100_8 W) ?_
        refine Sx.aload_n dX11_governs_26 rfl ?_
        refine Sx.getfR dX11_governs_27 lkf_X11_89_11 (o_100 W) (r_100_11 W) ?_
        refine Sx.iload_n dX11_governs_30 rfl ?_
        refine Sx.callV2 dX11_governs_31 lkv_X11_288 (rcv_5 (o_119 W)) (by decide) (by decide) (Nat.le_of_ble_eq_true rfl) rfl rfl (d_gvb W C hH hb (by omega) (fun i hi => it_skB hH i (by omega)) (fun I1 C1 o1 => ?_))
        refine Sx.iret dX11_governs_34 rfl rfl ?_
        have hk := (it_sk (w := wlV V) hH.2.2.2.1 hH.2.2.2.2.1 hH.2.2.2.2.2.1 p (by omega)).1 143 (by unfold kcC; omega)
        exact pXX (by unfold govR; rw [if_pos hc, xN_n (by omega), hk]) (h I1 R L C1 o1.cf)
      · refine Sx.ldc dX11_governs_17 lkk_X11_180 ?_
        refine Sx.top (show _ = (iI (-1000000)) by decide) ?_
        refine Sx.goto (t := 34) dX11_governs_19 (by decide) ?_
        refine Sx.iret dX11_governs_34 rfl rfl ?_
        have hn : ¬ govC V x := fun z => by omega
        exact pXX (by unfold govR; rw [if_neg hn]) (h I R L C (CF.rf R I L))
set_option maxRecDepth 20000 in
set_option maxHeartbeats 1000000 in
theorem d_coins {G : Gt} {l : Launch} {Z : Zt} {R : Rt} {I : It} {L : Lt} {post : Pt'} {V : Vt} {N : Nat} {x : Int32} (W : WF Z R) (C : CI V R I L) (hG : GG N V) (hN : N < 2147483647) (h : CQ post Z R I L V (coiR V x)) : Cx G l mX11_coins 8 0 0 [.ref 100, .int x] Z R I L post := by
  refine Cx.of (by decide +kernel) (by exact Nat.le_of_ble_eq_true rfl) ?_
  have hB := hG.1.bnd
  have hp6 := hG.1.p
  have hb := hG.1.b
  have h00 := hG.1.1.1
  refine Sx.aload_n dX11_coins_0 rfl ?_
  refine Sx.callV0 dX11_coins_1 lkv_X11_223 (rcv_11 (o_100 W)) (by decide) (by decide) (Nat.le_of_ble_eq_true rfl) rfl rfl (d_isPort W C (by omega) ?_)
  refine Sx.if_eqD (t := 17) dX11_coins_4 (by decide) (fun c4 => ?_) (fun c4 => ?_)
  · refine Sx.iconst (v := (iI (-1))) dX11_coins_17 (by decide) ?_
    refine Sx.goto (t := 33) dX11_coins_18 (by decide) ?_
    refine Sx.iret dX11_coins_33 rfl rfl ?_
    have hn : ¬ coiC V x := fun z => by omega
    exact pXX (by unfold coiR; rw [if_neg hn]; rfl) (h I R L C (CF.rf R I L))
  · refine Sx.iload_n dX11_coins_7 rfl ?_
    refine Sx.if_ltV (t := 17) dX11_coins_8 (by decide) (vX x) (fun c8 => ?_) (fun c8 => ?_)
    · refine Sx.iconst (v := (iI (-1))) dX11_coins_17 (by decide) ?_
      refine Sx.goto (t := 33) dX11_coins_18 (by decide) ?_
      refine Sx.iret dX11_coins_33 rfl rfl ?_
      have hn : ¬ coiC V x := fun z => by omega
      exact pXX (by unfold coiR; rw [if_neg hn]; rfl) (h I R L C (CF.rf R I L))
    · refine Sx.iload_n dX11_coins_11 rfl ?_
      refine Sx.bipush (v := (nI 99)) dX11_coins_12 (by decide) ?_
      refine Sx.icmp_leV (t := 21) dX11_coins_14 (by decide) (vX x) (vN (by decide)) (fun c14 => ?_) (fun c14 => ?_)
      · have hH := hG.1.hv (by omega)
        have hc : coiC V x := ⟨by omega, by omega, by omega⟩
        obtain ⟨p, rfl, hp⟩ := x_ex (x := x) (n := 100) ⟨by omega, by omega⟩
        refine Sx.sub' [(0, .ref 100), (1, .int (nI p))] rfl ?_
        refine Sx.aload_n dX11_coins_21 rfl ?_
        refine Sx.getfR dX11_coins_22 lkf_X11_68_11 (o_100 W) (r_100_8 W) ?_
        refine Sx.aload_n dX11_coins_25 rfl ?_
        refine Sx.getfR dX11_coins_26 lkf_X11_89_11 (o_100 W) (r_100_11 W) ?_
        refine Sx.iload_n dX11_coins_29 rfl ?_
        refine Sx.callV2 dX11_coins_30 lkv_X11_300 (rcv_5 (o_119 W)) (by decide) (by decide) (Nat.le_of_ble_eq_true rfl) rfl rfl (d_trb W C hH hb (by omega) (fun i hi => it_pd hH.2.2.2.1 hH.2.2.2.2.1 hH.2.2.2.2.2.1 i (by omega)) (fun I1 C1 o1 => ?_))
        refine Sx.iret dX11_coins_33 rfl rfl ?_
        exact pXX (by unfold coiR; rw [if_pos hc, xN_n (by omega)]) (h I1 R L C1 o1.cf)
      · refine Sx.iconst (v := (iI (-1))) dX11_coins_17 (by decide) ?_
        refine Sx.goto (t := 33) dX11_coins_18 (by decide) ?_
        refine Sx.iret dX11_coins_33 rfl rfl ?_
        have hn : ¬ coiC V x := fun z => by omega
        exact pXX (by unfold coiR; rw [if_neg hn]; rfl) (h I R L C (CF.rf R I L))
