/-! the reference: why acts can't be, copies -/
theorem isN_D {n : Nat} (hn : n < 2147483648) (x : Int32) : isN n x = decide (0 ≤ x.toInt ∧ x.toInt < (n : Int)) := by
  unfold isN
  refine decide_eq_decide.mpr ?_
  rw [Int32.le_iff_toInt_le, Int32.lt_iff_toInt_lt, nI_toInt hn]
  exact Iff.rfl
theorem xN_z {x : Int32} (h : 0 ≤ x.toInt) : x.toInt = (xN x : Int) := (Int.toNat_of_nonneg h).symm
theorem x_eqN {x : Int32} {n : Nat} (hn : n < 2147483648) : x = nI n ↔ x.toInt = (n : Int) := ⟨fun h => by rw [h, nI_toInt hn], fun h => vz_n h hn⟩
theorem nbx {x a b : Int32} (h1 : a.toInt ≤ x.toInt) (h2 : x.toInt ≤ b.toInt) : ¬ (x < a ∨ b < x) := fun q => q.elim (fun z => by have := Int32.lt_iff_toInt_lt.mp z; omega) (fun z => by have := Int32.lt_iff_toInt_lt.mp z; omega)
theorem pbx {x a b : Int32} (h : x.toInt < a.toInt ∨ b.toInt < x.toInt) : x < a ∨ b < x := h.imp Int32.lt_iff_toInt_lt.mpr Int32.lt_iff_toInt_lt.mpr
theorem x_ltL (x y : Int32) : x < y ↔ x.toInt < y.toInt := Int32.lt_iff_toInt_lt
set_option maxRecDepth 20000 in
set_option maxHeartbeats 1000000 in
theorem k_stopsHabit {G : Gt} {l : Launch} {Z : Zt} {R : Rt} {I : It} {L : Lt} {post : Pt'} {V : Vt} {w : Nat} {F : Nat → Nat} {x y : Int32} (W : WF Z R) (hM : MI0 V I L) (hF : MW (I w) F) (hw : w = 266 ∨ w = 267) (h35 : V 2 35 ≤ 6) (h34 : V 2 34 ≤ 6) (hPF : V 2 35 ≠ 0 → PB (V 2) ∧ SB (V 2) F) (h : post (some (.int (whH (V 2) F x y))) Z R I L) : Cx G l mX12_stopsHabit 2 0 0 [.ref 253, .ref w, .int x, .int y] Z R I L post := by
  refine Cx.of (by decide +kernel) (by exact Nat.le_of_ble_eq_true rfl) ?_
  obtain ⟨w1, w2, w3, w4, w5, w6, w7, w8, w9, w10, w11⟩ := id hF
  obtain ⟨N, hA, hN1, hN2⟩ := wrow W hw
  refine Sx.aload_n dX12_stopsHabit_0 rfl ?_
  refine Sx.iload_n dX12_stopsHabit_1 rfl ?_
  refine Sx.callV1 dX12_stopsHabit_2 lkv_X12_384 (rcv_12 (o_253 W)) (by decide) (by decide) (Nat.le_of_ble_eq_true rfl) rfl rfl (k_isPerson W hM (by omega) ?_)
  refine Sx.if_eqD (t := 16) dX12_stopsHabit_5 (by decide) (fun c5 => ?_) (fun c5 => ?_)
  · refine Sx.iconst (v := (nI 0)) dX12_stopsHabit_16 (by decide) ?_
    refine Sx.iret dX12_stopsHabit_17 rfl rfl ?_
    exact pXX (by rw [whH, isN_D (by omega), isN_D (by omega)]; rw [if_neg (fun q => c5 (of_decide_eq_true q.1))]; rfl) h
  · refine Sx.aload_n dX12_stopsHabit_8 rfl ?_
    refine Sx.iload_n dX12_stopsHabit_9 rfl ?_
    refine Sx.callV1 dX12_stopsHabit_10 lkv_X12_375 (rcv_12 (o_253 W)) (by decide) (by decide) (Nat.le_of_ble_eq_true rfl) rfl rfl (k_isKind W hM (by omega) ?_)
    refine Sx.if_neD (t := 18) dX12_stopsHabit_13 (by decide) (fun c13 => ?_) (fun c13 => ?_)
    · obtain ⟨hP, hS⟩ := hPF (by omega)
      obtain ⟨f1, f2, f3, f4, f5, f6, f7, f8, f9, f10, f11, f12, f13, f14, f15, f16⟩ := id hS
      have hxz := xN_z c5.1
      have hyz := xN_z c13.1
      have hfx := f1 (xN x) (by omega)
      refine Sx.aload_n dX12_stopsHabit_18 rfl ?_
      refine Sx.iload_n dX12_stopsHabit_19 rfl ?_
      refine Sx.ialdV (k := xN x) dX12_stopsHabit_20 hA (vX x) (xN_z c5.1) (by have := xN_z c5.1; omega) hN2 (v := (nI (F (xN x)))) (w1 (xN x) (by have := xN_z c5.1; omega)) ?_
      refine Sx.iload_n dX12_stopsHabit_21 rfl ?_
      refine Sx.icmp_neV (t := 29) dX12_stopsHabit_22 (by decide) (vN (by omega)) (vX y) (fun c22 => ?_) (fun c22 => ?_)
      · refine Sx.aload_n dX12_stopsHabit_29 rfl ?_
        refine Sx.bipush (v := (nI 22)) dX12_stopsHabit_30 (by decide) ?_
        refine Sx.ialdN dX12_stopsHabit_32 hA (by omega) hN2 (v := (nI (F 142))) w6 ?_
        refine Sx.iconst (v := (nI 1)) dX12_stopsHabit_33 (by decide) ?_
        refine Sx.icmp_geV (t := 41) dX12_stopsHabit_34 (by decide) (vN (by omega)) (vN (by decide)) (fun c34 => ?_) (fun c34 => ?_)
        · refine Sx.iconst (v := (iI (-1))) dX12_stopsHabit_41 (by decide) ?_
          refine Sx.iret dX12_stopsHabit_42 rfl rfl ?_
          exact pXX (by rw [whH, isN_D (by omega), isN_D (by omega)]; rw [if_pos ⟨decide_eq_true c5, decide_eq_true c13⟩]; rw [if_neg (by omega), if_neg (by omega)]; rfl) h
        · refine Sx.iconst (v := (nI 3)) dX12_stopsHabit_37 (by decide) ?_
          refine Sx.goto (t := 42) dX12_stopsHabit_38 (by decide) ?_
          refine Sx.iret dX12_stopsHabit_42 rfl rfl ?_
          exact pXX (by rw [whH, isN_D (by omega), isN_D (by omega)]; rw [if_pos ⟨decide_eq_true c5, decide_eq_true c13⟩]; rw [if_neg (by omega), if_pos (by omega)]; rfl) h
      · refine Sx.iconst (v := (nI 2)) dX12_stopsHabit_25 (by decide) ?_
        refine Sx.goto (t := 42) dX12_stopsHabit_26 (by decide) ?_
        refine Sx.iret dX12_stopsHabit_42 rfl rfl ?_
        exact pXX (by rw [whH, isN_D (by omega), isN_D (by omega)]; rw [if_pos ⟨decide_eq_true c5, decide_eq_true c13⟩]; rw [if_pos (by omega)]; rfl) h
    · refine Sx.iconst (v := (nI 0)) dX12_stopsHabit_16 (by decide) ?_
      refine Sx.iret dX12_stopsHabit_17 rfl rfl ?_
      exact pXX (by rw [whH, isN_D (by omega), isN_D (by omega)]; rw [if_neg (fun q => c13 (of_decide_eq_true q.2))]; rfl) h
set_option maxRecDepth 20000 in
set_option maxHeartbeats 1000000 in
theorem k_stopsFog {G : Gt} {l : Launch} {Z : Zt} {R : Rt} {I : It} {L : Lt} {post : Pt'} {V : Vt} {w : Nat} {F : Nat → Nat} {x y : Int32} (W : WF Z R) (hM : MI0 V I L) (hF : MW (I w) F) (hw : w = 266 ∨ w = 267) (h35 : V 2 35 ≤ 6) (h34 : V 2 34 ≤ 6) (hPF : V 2 35 ≠ 0 → PB (V 2) ∧ SB (V 2) F) (h : post (some (.int (whN (V 2) F 3 x y))) Z R I L) : Cx G l mX12_stopsFog 2 0 0 [.ref 253, .ref w, .int x] Z R I L post := by
  refine Cx.of (by decide +kernel) (by exact Nat.le_of_ble_eq_true rfl) ?_
  obtain ⟨w1, w2, w3, w4, w5, w6, w7, w8, w9, w10, w11⟩ := id hF
  obtain ⟨N, hA, hN1, hN2⟩ := wrow W hw
  refine Sx.aload_n dX12_stopsFog_0 rfl ?_
  refine Sx.getfV (v := (nI (V 2 35))) dX12_stopsFog_1 lkf_X12_307_12 (o_253 W) hM.1.2.2.2.1 ?_
  refine Sx.if_neV (t := 9) dX12_stopsFog_4 (by decide) (vN (by omega)) (fun c4 => ?_) (fun c4 => ?_)
  · obtain ⟨hP, hS⟩ := hPF (by omega)
    obtain ⟨f1, f2, f3, f4, f5, f6, f7, f8, f9, f10, f11, f12, f13, f14, f15, f16⟩ := id hS
    have l0 := x_ltL x 0
    have l9 := x_ltL 9 x
    have t0 : (0 : Int32).toInt = 0 := by decide
    have t9 : (9 : Int32).toInt = 9 := by decide
    have le := x_eqN (x := x) (n := F 139) (by omega)
    refine Sx.iload_n dX12_stopsFog_9 rfl ?_
    refine Sx.i2l dX12_stopsFog_10 ?_
    refine Sx.lconst (v := 0) dX12_stopsFog_11 (by decide) ?_
    refine Sx.ldc2 dX12_stopsFog_12 lkk_X12_387 ?_
    refine Sx.callS3 dX12_stopsFog_15 lkc_X12_230  (by decide) (by decide) (Nat.le_of_ble_eq_true rfl) rfl rfl (k_isIn (vLi (vX x)) (show VL 0 0 from rfl) (show VL 9 9 from rfl) ?_)
    refine Sx.if_neD (t := 25) dX12_stopsFog_18 (by decide) (fun c18 => ?_) (fun c18 => ?_)
    · refine Sx.iload_n dX12_stopsFog_25 rfl ?_
      refine Sx.aload_n dX12_stopsFog_26 rfl ?_
      refine Sx.bipush (v := (nI 19)) dX12_stopsFog_27 (by decide) ?_
      refine Sx.ialdN dX12_stopsFog_29 hA (by omega) hN2 (v := (nI (F 139))) w3 ?_
      refine Sx.icmp_neV (t := 37) dX12_stopsFog_30 (by decide) (vX x) (vN (by omega)) (fun c30 => ?_) (fun c30 => ?_)
      · refine Sx.iconst (v := (iI (-1))) dX12_stopsFog_37 (by decide) ?_
        refine Sx.iret dX12_stopsFog_38 rfl rfl ?_
        exact pXX (by rw [whN, if_neg (by omega), if_neg (by decide), if_neg (by decide), if_neg (by decide), if_pos (by decide)]; rw [if_neg (nbx (by omega) (by omega)), if_neg (fun q => by have := le.mp q; omega)]; rfl) h
      · refine Sx.iconst (v := (nI 2)) dX12_stopsFog_33 (by decide) ?_
        refine Sx.goto (t := 38) dX12_stopsFog_34 (by decide) ?_
        refine Sx.iret dX12_stopsFog_38 rfl rfl ?_
        exact pXX (by rw [whN, if_neg (by omega), if_neg (by decide), if_neg (by decide), if_neg (by decide), if_pos (by decide)]; rw [if_neg (nbx (by omega) (by omega)), if_pos (le.mpr (by omega))]; rfl) h
    · refine Sx.iconst (v := (nI 1)) dX12_stopsFog_21 (by decide) ?_
      refine Sx.goto (t := 38) dX12_stopsFog_22 (by decide) ?_
      refine Sx.iret dX12_stopsFog_38 rfl rfl ?_
      exact pXX (by rw [whN, if_neg (by omega), if_neg (by decide), if_neg (by decide), if_neg (by decide), if_pos (by decide)]; rw [if_pos (pbx (by omega))]; rfl) h
  · refine Sx.iconst (v := (nI 0)) dX12_stopsFog_7 (by decide) ?_
    refine Sx.iret dX12_stopsFog_8 rfl rfl ?_
    exact pXX (by rw [whN, if_pos (by omega)]; rfl) h
set_option maxRecDepth 20000 in
set_option maxHeartbeats 1000000 in
theorem k_stopsEclipse {G : Gt} {l : Launch} {Z : Zt} {R : Rt} {I : It} {L : Lt} {post : Pt'} {V : Vt} {w : Nat} {F : Nat → Nat} {x y : Int32} (W : WF Z R) (hM : MI0 V I L) (hF : MW (I w) F) (hw : w = 266 ∨ w = 267) (h35 : V 2 35 ≤ 6) (h34 : V 2 34 ≤ 6) (hPF : V 2 35 ≠ 0 → PB (V 2) ∧ SB (V 2) F) (h : post (some (.int (whN (V 2) F 4 x y))) Z R I L) : Cx G l mX12_stopsEclipse 2 0 0 [.ref 253, .ref w] Z R I L post := by
  refine Cx.of (by decide +kernel) (by exact Nat.le_of_ble_eq_true rfl) ?_
  obtain ⟨w1, w2, w3, w4, w5, w6, w7, w8, w9, w10, w11⟩ := id hF
  obtain ⟨N, hA, hN1, hN2⟩ := wrow W hw
  refine Sx.aload_n dX12_stopsEclipse_0 rfl ?_
  refine Sx.getfV (v := (nI (V 2 35))) dX12_stopsEclipse_1 lkf_X12_307_12 (o_253 W) hM.1.2.2.2.1 ?_
  refine Sx.if_neV (t := 9) dX12_stopsEclipse_4 (by decide) (vN (by omega)) (fun c4 => ?_) (fun c4 => ?_)
  · obtain ⟨hP, hS⟩ := hPF (by omega)
    obtain ⟨f1, f2, f3, f4, f5, f6, f7, f8, f9, f10, f11, f12, f13, f14, f15, f16⟩ := id hS
    refine Sx.aload_n dX12_stopsEclipse_9 rfl ?_
    refine Sx.bipush (v := (nI 20)) dX12_stopsEclipse_10 (by decide) ?_
    refine Sx.ialdN dX12_stopsEclipse_12 hA (by omega) hN2 (v := (nI (F 140))) w4 ?_
    refine Sx.iconst (v := (nI 1)) dX12_stopsEclipse_13 (by decide) ?_
    refine Sx.icmp_neV (t := 21) dX12_stopsEclipse_14 (by decide) (vN (by omega)) (vN (by decide)) (fun c14 => ?_) (fun c14 => ?_)
    · refine Sx.aload_n dX12_stopsEclipse_21 rfl ?_
      refine Sx.bipush (v := (nI 22)) dX12_stopsEclipse_22 (by decide) ?_
      refine Sx.ialdN dX12_stopsEclipse_24 hA (by omega) hN2 (v := (nI (F 142))) w6 ?_
      refine Sx.bipush (v := (nI 10)) dX12_stopsEclipse_25 (by decide) ?_
      refine Sx.icmp_geV (t := 34) dX12_stopsEclipse_27 (by decide) (vN (by omega)) (vN (by decide)) (fun c27 => ?_) (fun c27 => ?_)
      · refine Sx.iconst (v := (iI (-1))) dX12_stopsEclipse_34 (by decide) ?_
        refine Sx.iret dX12_stopsEclipse_35 rfl rfl ?_
        exact pXX (by rw [whN, if_neg (by omega), if_neg (by decide), if_neg (by decide), if_neg (by decide), if_neg (by decide), if_pos (by decide)]; rw [if_neg (by omega), if_neg (by omega)]; rfl) h
      · refine Sx.iconst (v := (nI 3)) dX12_stopsEclipse_30 (by decide) ?_
        refine Sx.goto (t := 35) dX12_stopsEclipse_31 (by decide) ?_
        refine Sx.iret dX12_stopsEclipse_35 rfl rfl ?_
        exact pXX (by rw [whN, if_neg (by omega), if_neg (by decide), if_neg (by decide), if_neg (by decide), if_neg (by decide), if_pos (by decide)]; rw [if_neg (by omega), if_pos (by omega)]; rfl) h
    · refine Sx.iconst (v := (nI 2)) dX12_stopsEclipse_17 (by decide) ?_
      refine Sx.goto (t := 35) dX12_stopsEclipse_18 (by decide) ?_
      refine Sx.iret dX12_stopsEclipse_35 rfl rfl ?_
      exact pXX (by rw [whN, if_neg (by omega), if_neg (by decide), if_neg (by decide), if_neg (by decide), if_neg (by decide), if_pos (by decide)]; rw [if_pos (by omega)]; rfl) h
  · refine Sx.iconst (v := (nI 0)) dX12_stopsEclipse_7 (by decide) ?_
    refine Sx.iret dX12_stopsEclipse_8 rfl rfl ?_
    exact pXX (by rw [whN, if_pos (by omega)]; rfl) h
set_option maxRecDepth 20000 in
set_option maxHeartbeats 1000000 in
theorem k_stopsCandles {G : Gt} {l : Launch} {Z : Zt} {R : Rt} {I : It} {L : Lt} {post : Pt'} {V : Vt} {w : Nat} {F : Nat → Nat} {x y : Int32} (W : WF Z R) (hM : MI0 V I L) (hF : MW (I w) F) (hw : w = 266 ∨ w = 267) (h35 : V 2 35 ≤ 6) (h34 : V 2 34 ≤ 6) (hPF : V 2 35 ≠ 0 → PB (V 2) ∧ SB (V 2) F) (h : post (some (.int (whN (V 2) F 5 x y))) Z R I L) : Cx G l mX12_stopsCandles 2 0 0 [.ref 253, .ref w, .int x] Z R I L post := by
  refine Cx.of (by decide +kernel) (by exact Nat.le_of_ble_eq_true rfl) ?_
  obtain ⟨w1, w2, w3, w4, w5, w6, w7, w8, w9, w10, w11⟩ := id hF
  obtain ⟨N, hA, hN1, hN2⟩ := wrow W hw
  refine Sx.aload_n dX12_stopsCandles_0 rfl ?_
  refine Sx.getfV (v := (nI (V 2 35))) dX12_stopsCandles_1 lkf_X12_307_12 (o_253 W) hM.1.2.2.2.1 ?_
  refine Sx.if_neV (t := 9) dX12_stopsCandles_4 (by decide) (vN (by omega)) (fun c4 => ?_) (fun c4 => ?_)
  · obtain ⟨hP, hS⟩ := hPF (by omega)
    obtain ⟨f1, f2, f3, f4, f5, f6, f7, f8, f9, f10, f11, f12, f13, f14, f15, f16⟩ := id hS
    have l0 := x_ltL x 1
    have l9 := x_ltL 9 x
    have t0 : (1 : Int32).toInt = 1 := by decide
    have t9 : (9 : Int32).toInt = 9 := by decide
    refine Sx.iload_n dX12_stopsCandles_9 rfl ?_
    refine Sx.i2l dX12_stopsCandles_10 ?_
    refine Sx.lconst (v := 1) dX12_stopsCandles_11 (by decide) ?_
    refine Sx.ldc2 dX12_stopsCandles_12 lkk_X12_387 ?_
    refine Sx.callS3 dX12_stopsCandles_15 lkc_X12_230  (by decide) (by decide) (Nat.le_of_ble_eq_true rfl) rfl rfl (k_isIn (vLi (vX x)) (show VL 1 1 from rfl) (show VL 9 9 from rfl) ?_)
    refine Sx.if_neD (t := 25) dX12_stopsCandles_18 (by decide) (fun c18 => ?_) (fun c18 => ?_)
    · have lt := x_ltL (nI (F 142)) x
      rw [nI_toInt (by omega)] at lt
      have lu : 20 < nI (F 141) + x ↔ (20 : Int) < (F 141 : Int) + x.toInt := by rw [x_ltL, show (20 : Int32).toInt = 20 by decide, show nI (F 141) + x = iI ((F 141 : Int) + x.toInt) by rw [nI_iI, ← x_iI x, iI_add, x_iI], iI_toInt (by omega) (by omega)]
      refine Sx.aload_n dX12_stopsCandles_25 rfl ?_
      refine Sx.bipush (v := (nI 22)) dX12_stopsCandles_26 (by decide) ?_
      refine Sx.ialdN dX12_stopsCandles_28 hA (by omega) hN2 (v := (nI (F 142))) w6 ?_
      refine Sx.iload_n dX12_stopsCandles_29 rfl ?_
      refine Sx.icmp_ltV (t := 44) dX12_stopsCandles_30 (by decide) (vN (by omega)) (vX x) (fun c30 => ?_) (fun c30 => ?_)
      · refine Sx.iconst (v := (nI 3)) dX12_stopsCandles_44 (by decide) ?_
        refine Sx.goto (t := 49) dX12_stopsCandles_45 (by decide) ?_
        refine Sx.iret dX12_stopsCandles_49 rfl rfl ?_
        exact pXX (by rw [whN, if_neg (by omega), if_neg (by decide), if_neg (by decide), if_neg (by decide), if_neg (by decide), if_neg (by decide), if_pos (by decide)]; rw [if_neg (nbx (by omega) (by omega)), if_pos (Or.inl (lt.mpr (by omega)))]; rfl) h
      · refine Sx.aload_n dX12_stopsCandles_33 rfl ?_
        refine Sx.bipush (v := (nI 21)) dX12_stopsCandles_34 (by decide) ?_
        refine Sx.ialdN dX12_stopsCandles_36 hA (by omega) hN2 (v := (nI (F 141))) w5 ?_
        refine Sx.iload_n dX12_stopsCandles_37 rfl ?_
        refine Sx.iaddV dX12_stopsCandles_38 (vN (by omega)) (vX x) ?_
        refine Sx.bipush (v := (nI 20)) dX12_stopsCandles_39 (by decide) ?_
        refine Sx.icmp_leV (t := 48) dX12_stopsCandles_41 (by decide) (vZ (by omega)) (vN (by decide)) (fun c41 => ?_) (fun c41 => ?_)
        · refine Sx.iconst (v := (iI (-1))) dX12_stopsCandles_48 (by decide) ?_
          refine Sx.iret dX12_stopsCandles_49 rfl rfl ?_
          exact pXX (by rw [whN, if_neg (by omega), if_neg (by decide), if_neg (by decide), if_neg (by decide), if_neg (by decide), if_neg (by decide), if_pos (by decide)]; rw [if_neg (nbx (by omega) (by omega)), if_neg (fun q => q.elim (fun z => by have := lt.mp z; omega) (fun z => by have := lu.mp z; omega))]; rfl) h
        · refine Sx.iconst (v := (nI 3)) dX12_stopsCandles_44 (by decide) ?_
          refine Sx.goto (t := 49) dX12_stopsCandles_45 (by decide) ?_
          refine Sx.iret dX12_stopsCandles_49 rfl rfl ?_
          exact pXX (by rw [whN, if_neg (by omega), if_neg (by decide), if_neg (by decide), if_neg (by decide), if_neg (by decide), if_neg (by decide), if_pos (by decide)]; rw [if_neg (nbx (by omega) (by omega)), if_pos (Or.inr (lu.mpr (by omega)))]; rfl) h
    · refine Sx.iconst (v := (nI 1)) dX12_stopsCandles_21 (by decide) ?_
      refine Sx.goto (t := 49) dX12_stopsCandles_22 (by decide) ?_
      refine Sx.iret dX12_stopsCandles_49 rfl rfl ?_
      exact pXX (by rw [whN, if_neg (by omega), if_neg (by decide), if_neg (by decide), if_neg (by decide), if_neg (by decide), if_neg (by decide), if_pos (by decide)]; rw [if_pos (pbx (by omega))]; rfl) h
  · refine Sx.iconst (v := (nI 0)) dX12_stopsCandles_7 (by decide) ?_
    refine Sx.iret dX12_stopsCandles_8 rfl rfl ?_
    exact pXX (by rw [whN, if_pos (by omega)]; rfl) h
set_option maxRecDepth 20000 in
set_option maxHeartbeats 1000000 in
theorem k_canPass {G : Gt} {l : Launch} {Z : Zt} {R : Rt} {I : It} {L : Lt} {post : Pt'} {V : Vt} {w : Nat} {F : Nat → Nat} (W : WF Z R) (hM : MI0 V I L) (hP : PB (V 2)) (hS : SB (V 2) F) (hF : MW (I w) F) (hw : w = 266 ∨ w = 267) (h : post (some (.int (b2i (decide (F 144 < 999 ∨ F 145 + 1 < V 2 0))))) Z R I L) : Cx G l mX12_canPass 1 0 0 [.ref 253, .ref w] Z R I L post := by
  refine Cx.of (by decide +kernel) (by exact Nat.le_of_ble_eq_true rfl) ?_
  obtain ⟨w1, w2, w3, w4, w5, w6, w7, w8, w9, w10, w11⟩ := id hF
  obtain ⟨N, hA, hN1, hN2⟩ := wrow W hw
  obtain ⟨f1, f2, f3, f4, f5, f6, f7, f8, f9, f10, f11, f12, f13, f14, f15, f16⟩ := id hS
  have p2 := hP.2.1
  refine Sx.aload_n dX12_canPass_0 rfl ?_
  refine Sx.bipush (v := (nI 24)) dX12_canPass_1 (by decide) ?_
  refine Sx.ialdN dX12_canPass_3 hA (by omega) hN2 (v := (nI (F 144))) w8 ?_
  refine Sx.sipush (v := (nI 999)) dX12_canPass_4 (by decide) ?_
  refine Sx.icmp_ltV (t := 25) dX12_canPass_7 (by decide) (vN (by omega)) (vN (by decide)) (fun c7 => ?_) (fun c7 => ?_)
  · refine Sx.iconst (v := (nI 1)) dX12_canPass_25 (by decide) ?_
    refine Sx.goto (t := 30) dX12_canPass_26 (by decide) ?_
    refine Sx.top (show _ = b2i true from rfl) ?_
    refine Sx.iret dX12_canPass_30 rfl (b2i_n _) ?_
    exact pBB (decide_eq_true (by omega)) h
  · refine Sx.aload_n dX12_canPass_10 rfl ?_
    refine Sx.bipush (v := (nI 25)) dX12_canPass_11 (by decide) ?_
    refine Sx.ialdN dX12_canPass_13 hA (by omega) hN2 (v := (nI (F 145))) w9 ?_
    refine Sx.aload_n dX12_canPass_14 rfl ?_
    refine Sx.getfR dX12_canPass_15 lkf_X12_37_12 (o_253 W) (r_253_18 W) ?_
    refine Sx.iconst (v := (nI 0)) dX12_canPass_18 (by decide) ?_
    refine Sx.ialdN dX12_canPass_19 (a_258 W) (by decide) (by decide) (v := (nI (V 2 0))) (hM.2.2.2.1.1 0 (by decide)) ?_
    refine Sx.iconst (v := (nI 1)) dX12_canPass_20 (by decide) ?_
    refine Sx.isubV dX12_canPass_21 (vN (by omega)) (vN (by decide)) ?_
    refine Sx.icmp_geV (t := 29) dX12_canPass_22 (by decide) (vN (by omega)) (vZ (by omega)) (fun c22 => ?_) (fun c22 => ?_)
    · refine Sx.iconst (v := (nI 0)) dX12_canPass_29 (by decide) ?_
      refine Sx.top (show _ = b2i false from rfl) ?_
      refine Sx.iret dX12_canPass_30 rfl (b2i_n _) ?_
      exact pBB (decide_eq_false (by omega)) h
    · refine Sx.iconst (v := (nI 1)) dX12_canPass_25 (by decide) ?_
      refine Sx.goto (t := 30) dX12_canPass_26 (by decide) ?_
      refine Sx.top (show _ = b2i true from rfl) ?_
      refine Sx.iret dX12_canPass_30 rfl (b2i_n _) ?_
      exact pBB (decide_eq_true (by omega)) h
set_option maxRecDepth 20000 in
set_option maxHeartbeats 1000000 in
theorem l_copy {G : Gt} {l : Launch} {Z : Zt} {R : Rt} {L : Lt} {post : Pt'} {I0 : It} (W : WF Z R) (h : ∀ I', (∀ z, z < 236 → I' 267 z = I0 266 z) → (∀ q, q ≠ 267 → I' q = I0 q) → post none Z R I' L) :
    ∀ (k j : Nat), j ≤ 236 → 236 < j + k → ∀ (I : It), (∀ z, z < j → I 267 z = I0 266 z) → (∀ q, q ≠ 267 → I q = I0 q) → Sx G l mX12_copy 1 0 0 2 [(2, .int (nI j)), (0, .ref 266), (1, .ref 267)] [] Z R I L post := by
  intro k
  induction k with
  | zero => intro j h1 h2; omega
  | succ k ih =>
    intro j h1 h2 I hc hI
    refine Sx.iload_n dX12_copy_2 rfl ?_
    refine Sx.sipush (v := (nI 236)) dX12_copy_3 (by decide) ?_
    refine Sx.icmp_geV (t := 21) dX12_copy_6 (by decide) (vN (by omega)) (vN (by decide)) (fun c6 => ?_) (fun c6 => ?_)
    · refine Sx.vret dX12_copy_21 rfl ?_
      have hj : j = 236 := by omega
      subst hj
      exact h I hc hI
    · refine Sx.aload_n dX12_copy_9 rfl ?_
      refine Sx.iload_n dX12_copy_10 rfl ?_
      refine Sx.aload_n dX12_copy_11 rfl ?_
      refine Sx.iload_n dX12_copy_12 rfl ?_
      refine Sx.ialdN dX12_copy_13 (a_266 W) (by omega) (by decide) (v := (I0 266 j)) (by rw [hI 266 (by decide)]) ?_
      refine Sx.iastN dX12_copy_14 (a_267 W) (by omega) (by decide) (fun I1 e1 o1 => ?_)
      refine Sx.iinc (v := (nI (j + 1))) (lv' := [(2, .int (nI (j + 1))), (0, .ref 266), (1, .ref 267)]) dX12_copy_15 rfl (nI_add j 1) (by decide) rfl ?_
      refine Sx.goto (t := 2) dX12_copy_18 (by decide) ?_
      refine Sx.sub' [(2, .int (nI (j + 1))), (0, .ref 266), (1, .ref 267)] rfl ?_
      refine ih (j + 1) (by omega) (by omega) I1 (fun z hz => ?_) (fun q hq => (o1 q hq).trans (hI q hq))
      rw [e1]
      by_cases e : z = j
      · rw [e, upd_at]
      · rw [upd_nj _ _ e]; exact hc z (by omega)
theorem MW.co {f g : Nat → Int32} {F : Nat → Nat} (h : MW f F) (e : ∀ z, z < 236 → g z = f z) : MW g F := ⟨fun p hp => by rw [e p (by omega)]; exact h.1 p hp, by rw [e 18 (by decide)]; exact h.2.1, by rw [e 19 (by decide)]; exact h.2.2.1, by rw [e 20 (by decide)]; exact h.2.2.2.1, by rw [e 21 (by decide)]; exact h.2.2.2.2.1, by rw [e 22 (by decide)]; exact h.2.2.2.2.2.1, by rw [e 23 (by decide)]; exact h.2.2.2.2.2.2.1, by rw [e 24 (by decide)]; exact h.2.2.2.2.2.2.2.1, by rw [e 25 (by decide)]; exact h.2.2.2.2.2.2.2.2.1, fun d hd => by rw [e _ (by omega)]; exact h.2.2.2.2.2.2.2.2.2.1 d hd, fun d k hd hk => by rw [e _ (by omega)]; exact h.2.2.2.2.2.2.2.2.2.2 d k hd hk⟩
set_option maxRecDepth 20000 in
set_option maxHeartbeats 1000000 in
theorem k_copy {G : Gt} {l : Launch} {Z : Zt} {R : Rt} {I : It} {L : Lt} {post : Pt'} {V : Vt} (W : WF Z R) (hM : MI V I L) (h : ∀ I', MI V I' L → MW (I' 267) (V 3) → (∀ q, q ≠ 267 → I' q = I q) → post none Z R I' L) : Cx G l mX12_copy 1 0 0 [.ref 266, .ref 267] Z R I L post := by
  refine Cx.of (by decide +kernel) (by exact Nat.le_of_ble_eq_true rfl) ?_
  refine Sx.iconst (v := (nI 0)) dX12_copy_0 (by decide) ?_
  refine Sx.istore_n (lv' := [(2, .int (nI 0)), (0, .ref 266), (1, .ref 267)]) dX12_copy_1 (by decide) rfl ?_
  refine Sx.sub' [(2, .int (nI 0)), (0, .ref 266), (1, .ref 267)] rfl ?_
  exact l_copy W (I0 := I) (fun J hc hI => h J (hM.sc (by unfold scr; decide) hI) (hM.2.1.co hc) hI) 237 0 (by decide) (by decide) I (fun z hz => by omega) (fun _ _ => rfl)
