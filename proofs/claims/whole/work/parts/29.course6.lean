/-! Course: years skipped, what an act needs -/
/-- the rest of the year goes by apart -/
def skN (P : Nat → Nat) (w : Wt) (F : Nat → Nat) : Nat → Nat :=
  trnN P F (if F 145 = 0 then dnN F (P 35) else donN P F (amn (lofN P w F (upc P F)) (P 0) - 1))
theorem donN_lt {P F : Nat → Nat} (hP : PB P) (h : SB P F) {d : Nat} (hd : d < 30) : donN P F d < 2 ^ 18 := by
  have p35 : P 35 ≤ 6 := hP.2.2.2.2.2.2.2.1
  unfold donN
  split
  · exact h.2.2.2.2.1 d hd
  · exact Nat.lt_of_lt_of_le (dnN_lt h.1 (P 35) p35) (Nat.pow_le_pow_right (by decide) (by omega))
theorem skN_SB {P F : Nat → Nat} {w : Wt} (hP : PB P) (h : SB P F) (hy : F 144 + 1 < 2 ^ 20) : SB P (skN P w F) := trnN_lt hP (fun j hj _ => h.lt j hj) hy _
/-- how many days can go by -/
def dpN (P F : Nat → Nat) : Int := (999 - (F 144 : Int)) * (P 0 : Int) + (P 0 : Int) - 1 - (F 145 : Int)
def xN (x : Int32) : Nat := x.toInt.toNat
theorem xN_n {j : Nat} (h : j < 2 ^ 31) : xN (nI j) = j := by unfold xN; rw [nI_toInt h]; omega
def whH (P F : Nat → Nat) (x y : Int32) : Int32 :=
  if isN (P 35) x = true ∧ isN (P 34) y = true then (if F (xN x) = xN y then 2 else if F 142 < 1 then 3 else -1) else 0
/-- why an act can't be -/
def whN (P F : Nat → Nat) (a x y : Int32) : Int32 :=
  if P 35 = 0 then 0 else
  if a = 0 then (if 0 < dpN P F then -1 else 4) else
  if a = 1 then whH P F x y else
  if a = 2 then (if isN (P 35) x = true then -1 else 0) else
  if a = 3 then (if x < 0 ∨ 9 < x then 1 else if x = nI (F 139) then 2 else -1) else
  if a = 4 then (if F 140 ≠ 0 then 2 else if F 142 < 10 then 3 else -1) else
  if a = 5 then (if x < 1 ∨ 9 < x then 1 else if nI (F 142) < x ∨ 20 < nI (F 141) + x then 3 else -1) else
  if a = 6 then (if x < 1 ∨ 50 < x then 1 else if 999 < nI (F 142) + x then 3 else -1) else 0
set_option maxRecDepth 20000 in
set_option maxHeartbeats 1000000 in
theorem c_skip {G : Gt} {l : Launch} {Z : Zt} {R : Rt} {I : It} {L : Lt} {post : Pt'} {s : Nat} {P F : Nat → Nat} {w : Wt} (W : WF Z R) (hp : rep 36 (I 104) P) (hP : PB P) (hr : rwo Z R s 8 146) (hs : rs (I (s + 1)) F) (hx : 119 ≤ s ∧ s < 232) (hL : LW R I w) (hF : SB P F) (hy : F 144 + 1 < 2 ^ 20) (h : ∀ I', rs (I' (s + 1)) (skN P w F) → (∀ q, q ≠ 116 → q ≠ 118 → q ≠ s + 1 → I' q = I q) → post none Z R I' L) : Cx G l mX1_skipYear 5 0 0 [.ref 114, .ref s] Z R I L post := by
  refine Cx.of (by decide +kernel) (by exact Nat.le_of_ble_eq_true rfl) ?_
  have hall := hF.all hP
  have hP' := hP
  have hF' := hF
  obtain ⟨f1, f2, f3, f4, f5, f6, f7, f8, f9, f10, f11, f12, f13, f14, f15, f16⟩ := hF'
  obtain ⟨p1, p2, p3, p4, p5, p6, p7, p8, p9⟩ := hP'
  have hdn : dnN F (P 35) < 2 ^ 18 := Nat.lt_of_lt_of_le (dnN_lt hF.1 (P 35) (by omega)) (Nat.pow_le_pow_right (by decide) (by omega))
  have ha0 := amn_pos (lofN P w F (upc P F)) (P 0) (by omega)
  have ha1 := amn_le (lofN P w F (upc P F)) (P 0)
  have hm1 : nI (amn (lofN P w F (upc P F)) (P 0)) - 1 = nI (amn (lofN P w F (upc P F)) (P 0) - 1) := n_sub (a := amn (lofN P w F (upc P F)) (P 0)) (b := 1) (by omega)
  refine Sx.aload_n dX1_skipYear_0 rfl ?_
  refine Sx.aload_n dX1_skipYear_1 rfl ?_
  refine Sx.aload_n dX1_skipYear_2 rfl ?_
  refine Sx.sipush (v := 145) dX1_skipYear_3 (by decide) ?_
  refine Sx.callU1 dX1_skipYear_6 lku_X1_43 (rcv_8 hr.1) (by decide) (by decide) (Nat.le_of_ble_eq_true rfl) rfl rfl (c_sg hr hs 145 rfl (by decide) (by decide) ?_)
  refine Sx.if_ne (t := 20) dX1_skipYear_9 (by decide) (fun c9 => ?_) (fun c9 => ?_)
  · refine Sx.aload_n dX1_skipYear_20 rfl ?_
    refine Sx.aload_n dX1_skipYear_21 rfl ?_
    refine Sx.aload_n dX1_skipYear_22 rfl ?_
    refine Sx.aload_n dX1_skipYear_23 rfl ?_
    refine Sx.aload_n dX1_skipYear_24 rfl ?_
    refine Sx.aload_n dX1_skipYear_25 rfl ?_
    refine Sx.getfR dX1_skipYear_26 lkf_X1_37_1 (o_114 W) (r_114_0 W) ?_
    refine Sx.callV0 dX1_skipYear_29 lkv_X1_74 (rcv_6 (o_103 W)) (by decide) (by decide) (Nat.le_of_ble_eq_true rfl) rfl rfl (c_pers (w_103r W) hp ?_)
    refine Sx.callV1 dX1_skipYear_32 lkv_X1_77 (rcv_8 hr.1) (by decide) (by decide) (Nat.le_of_ble_eq_true rfl) rfl rfl (c_X8_upCount hr hs f7 (by omega) ?_)
    refine Sx.callV2 dX1_skipYear_35 lkv_X1_124 (rcv_1 (o_114 W)) (by decide) (by decide) (Nat.le_of_ble_eq_true rfl) rfl rfl (c_ruler W hp hP hr hs hx hL hF (upc_le hP hF) (fun I1 hJ1 => ?_))
    rw [show nI (amn (lofN P w F (popN (upN (P 35) (F 138)))) (P 0)) - 1 = nI (amn (lofN P w F (upc P F)) (P 0) - 1) from hm1]
    refine Sx.callV2 dX1_skipYear_38 lkv_X1_127 (rcv_1 (o_114 W)) (by decide) (by decide) (Nat.le_of_ble_eq_true rfl) rfl rfl (c_don W (by rw [hJ1 _ (by omega) (by omega)]; exact hp) hP hr (by rw [hJ1 _ (by omega) (by omega)]; exact hs) hx hF (by omega) ?_)
    refine Sx.callV2 dX1_skipYear_41 lkv_X1_116 (rcv_1 (o_114 W)) (by decide) (by decide) (Nat.le_of_ble_eq_true rfl) rfl rfl (c_turn W (by rw [hJ1 _ (by omega) (by omega)]; exact hp) hP hr hx (donN_lt hP hF (by omega)) (by rw [hJ1 _ (by omega) (by omega)]; exact hs) (by omega) (fun I2 e1 e2 => ?_))
    refine Sx.vret dX1_skipYear_44 rfl ?_
    have hz : ¬ F 145 = 0 := fun q => c9 (by rw [q]; rfl)
    refine h I2 ?_ (fun q h1 h2 h3 => (e2 q h3).trans (hJ1 q h1 h2))
    rw [skN, if_neg hz]
    exact e1
  · refine Sx.aload_n dX1_skipYear_12 rfl ?_
    refine Sx.aload_n dX1_skipYear_13 rfl ?_
    refine Sx.callV1 dX1_skipYear_14 lkv_X1_95 (rcv_1 (o_114 W)) (by decide) (by decide) (Nat.le_of_ble_eq_true rfl) rfl rfl (c_dn W hp (by omega) hr hs f7 f1 ?_)
    refine Sx.goto (t := 41) dX1_skipYear_17 (by decide) ?_
    refine Sx.callV2 dX1_skipYear_41 lkv_X1_116 (rcv_1 (o_114 W)) (by decide) (by decide) (Nat.le_of_ble_eq_true rfl) rfl rfl (c_turn W hp hP hr hx hdn hs (by omega) (fun I2 e1 e2 => ?_))
    refine Sx.vret dX1_skipYear_44 rfl ?_
    have hz : F 145 = 0 := Classical.byContradiction fun q => nI_ne0 (Nat.pos_of_ne_zero q) (by omega) c9
    refine h I2 ?_ (fun q h1 h2 h3 => e2 q h3)
    rw [skN, if_pos hz]
    exact e1
set_option maxRecDepth 20000 in
set_option maxHeartbeats 1000000 in
theorem c_spend {G : Gt} {l : Launch} {Z : Zt} {R : Rt} {I : It} {L : Lt} {post : Pt'} {s : Nat} {F : Nat → Nat} {c : Int32} (hr : rwo Z R s 8 146) (hs : rs (I (s + 1)) F) (y : Nat) (hy : nI (F 142) - c = nI y) (h : ∀ I', rs (I' (s + 1)) (upn F 142 y) → (∀ q, q ≠ s + 1 → I' q = I q) → post none Z R I' L) : Cx G l mX1_spend 2 0 0 [.ref 114, .ref s, .int c] Z R I L post := by
  refine Cx.of (by decide +kernel) (by exact Nat.le_of_ble_eq_true rfl) ?_
  refine Sx.aload_n dX1_spend_0 rfl ?_
  refine Sx.sipush (v := 142) dX1_spend_1 (by decide) ?_
  refine Sx.aload_n dX1_spend_4 rfl ?_
  refine Sx.sipush (v := 142) dX1_spend_5 (by decide) ?_
  refine Sx.callU1 dX1_spend_8 lku_X1_43 (rcv_8 hr.1) (by decide) (by decide) (Nat.le_of_ble_eq_true rfl) rfl rfl (c_sg hr hs 142 rfl (by decide) (by decide) ?_)
  refine Sx.iload_n dX1_spend_11 rfl ?_
  refine Sx.isub dX1_spend_12 ?_
  refine Sx.callU2 dX1_spend_13 lku_X1_107 (rcv_8 hr.1) (by decide) (by decide) (Nat.le_of_ble_eq_true rfl) rfl rfl (c_ss hr hs 142 y rfl (by decide) (by rw [hy, sv_n (by decide)]) (fun I2 e1 e2 => ?_))
  refine Sx.vret dX1_spend_16 rfl ?_
  exact h I2 e1 e2
set_option maxRecDepth 20000 in
set_option maxHeartbeats 1000000 in
theorem c_dp {G : Gt} {l : Launch} {Z : Zt} {R : Rt} {I : It} {L : Lt} {post : Pt'} {s : Nat} {P F : Nat → Nat} (W : WF Z R) (hp : rep 36 (I 104) P) (hP : PB P) (hr : rwo Z R s 8 146) (hs : rs (I (s + 1)) F) (hx : 119 ≤ s ∧ s < 232) (hF : SB P F) (h : post (some (.int (iI (dpN P F)))) Z R I L) : Cx G l mX1_daysThatCanPass 2 0 0 [.ref 114, .ref s] Z R I L post := by
  refine Cx.of (by decide +kernel) (by exact Nat.le_of_ble_eq_true rfl) ?_
  refine Sx.aload_n dX1_daysThatCanPass_0 rfl ?_
  refine Sx.getfR dX1_daysThatCanPass_1 lkf_X1_37_1 (o_114 W) (r_114_0 W) ?_
  refine Sx.iconst (v := 0) dX1_daysThatCanPass_4 (by decide) ?_
  refine Sx.callU1 dX1_daysThatCanPass_5 lku_X1_49 (rcv_6 (o_103 W)) (by decide) (by decide) (Nat.le_of_ble_eq_true rfl) rfl rfl (c_rg (w_103r W) rC6 (by decide) hp 0 rfl (by decide) ?_)
  refine Sx.ist_n (fun zz => [(2, .int zz), (0, .ref 114), (1, .ref s)]) dX1_daysThatCanPass_8 (by decide) (fun _ => rfl) (fun x2_8 ex2_8 => ?_)
  refine Sx.sipush (v := 999) dX1_daysThatCanPass_9 (by decide) ?_
  refine Sx.aload_n dX1_daysThatCanPass_12 rfl ?_
  refine Sx.sipush (v := 144) dX1_daysThatCanPass_13 (by decide) ?_
  refine Sx.callU1 dX1_daysThatCanPass_16 lku_X1_43 (rcv_8 hr.1) (by decide) (by decide) (Nat.le_of_ble_eq_true rfl) rfl rfl (c_sg hr hs 144 rfl (by decide) (by decide) ?_)
  refine Sx.isub dX1_daysThatCanPass_19 ?_
  refine Sx.iload_n dX1_daysThatCanPass_20 rfl ?_
  refine Sx.imul dX1_daysThatCanPass_21 ?_
  refine Sx.iload_n dX1_daysThatCanPass_22 rfl ?_
  refine Sx.iadd dX1_daysThatCanPass_23 ?_
  refine Sx.iconst (v := 1) dX1_daysThatCanPass_24 (by decide) ?_
  refine Sx.isub dX1_daysThatCanPass_25 ?_
  refine Sx.aload_n dX1_daysThatCanPass_26 rfl ?_
  refine Sx.sipush (v := 145) dX1_daysThatCanPass_27 (by decide) ?_
  refine Sx.callU1 dX1_daysThatCanPass_30 lku_X1_43 (rcv_8 hr.1) (by decide) (by decide) (Nat.le_of_ble_eq_true rfl) rfl rfl (c_sg hr hs 145 rfl (by decide) (by decide) ?_)
  refine Sx.isub dX1_daysThatCanPass_33 ?_
  refine Sx.iret dX1_daysThatCanPass_34 rfl rfl ?_
  rw [show (999 - nI (F 144)) * x2_8 + x2_8 - 1 - nI (F 145) = iI (dpN P F) by rw [ex2_8, nI_iI, nI_iI, nI_iI, show (999 : Int32) = iI 999 from rfl, show (1 : Int32) = iI 1 from rfl, iI_sub, iI_mul, iI_add, iI_sub, iI_sub]; rfl]
  exact h
set_option maxRecDepth 20000 in
set_option maxHeartbeats 1000000 in
theorem c_whH {G : Gt} {l : Launch} {Z : Zt} {R : Rt} {I : It} {L : Lt} {post : Pt'} {s : Nat} {P F : Nat → Nat} {x y : Int32} (W : WF Z R) (hp : rep 36 (I 104) P) (hP : PB P) (hr : rwo Z R s 8 146) (hs : rs (I (s + 1)) F) (hx : 119 ≤ s ∧ s < 232) (hF : SB P F) (h : post (some (.int (whH P F x y))) Z R I L) : Cx G l mX1_whyNoHabit 3 0 0 [.ref 114, .ref s, .int x, .int y] Z R I L post := by
  refine Cx.of (by decide +kernel) (by exact Nat.le_of_ble_eq_true rfl) ?_
  have hall := hF.all hP
  have hP' := hP
  have hF' := hF
  obtain ⟨f1, f2, f3, f4, f5, f6, f7, f8, f9, f10, f11, f12, f13, f14, f15, f16⟩ := hF'
  obtain ⟨p1, p2, p3, p4, p5, p6, p7, p8, p9⟩ := hP'
  refine Sx.aload_n dX1_whyNoHabit_0 rfl ?_
  refine Sx.getfR dX1_whyNoHabit_1 lkf_X1_37_1 (o_114 W) (r_114_0 W) ?_
  refine Sx.iload_n dX1_whyNoHabit_4 rfl ?_
  refine Sx.callV1 dX1_whyNoHabit_5 lkv_X1_140 (rcv_6 (o_103 W)) (by decide) (by decide) (Nat.le_of_ble_eq_true rfl) rfl rfl (c_isPerson (w_103r W) hp ?_)
  refine Sx.if_eq (t := 22) dX1_whyNoHabit_8 (by decide) (fun c8 => ?_) (fun c8 => ?_)
  · refine Sx.iconst (v := 0) dX1_whyNoHabit_22 (by decide) ?_
    refine Sx.iret dX1_whyNoHabit_23 rfl rfl ?_
    have hk := b2i_0.mp c8
    rw [whH, if_neg (by rw [hk]; intro q; cases q.1)] at h
    exact h
  · have hk1 : isN (P 35) x = true := b2i_ne.mp c8
    refine Sx.aload_n dX1_whyNoHabit_11 rfl ?_
    refine Sx.getfR dX1_whyNoHabit_12 lkf_X1_37_1 (o_114 W) (r_114_0 W) ?_
    refine Sx.iload_n dX1_whyNoHabit_15 rfl ?_
    refine Sx.callV1 dX1_whyNoHabit_16 lkv_X1_143 (rcv_6 (o_103 W)) (by decide) (by decide) (Nat.le_of_ble_eq_true rfl) rfl rfl (c_isKind (w_103r W) hp ?_)
    refine Sx.if_ne (t := 24) dX1_whyNoHabit_19 (by decide) (fun c19 => ?_) (fun c19 => ?_)
    · have hk2 : isN (P 34) y = true := b2i_ne.mp c19
      obtain ⟨jx, hj1, hjx⟩ := isN_of (by omega) hk1
      obtain ⟨jy, hj2, hjy⟩ := isN_of (by omega) hk2
      have hFx : F (xN x) < 6 := f1 _ (by rw [hjx, xN_n (by omega)]; omega)
      have hyy : y = nI (xN y) := by rw [hjy, xN_n (by omega)]
      have hy6 : xN y < 6 := by rw [hjy, xN_n (by omega)]; omega
      rw [whH, if_pos ⟨hk1, hk2⟩] at h
      refine Sx.aload_n dX1_whyNoHabit_24 rfl ?_
      refine Sx.iconst (v := 0) dX1_whyNoHabit_25 (by decide) ?_
      refine Sx.iload_n dX1_whyNoHabit_26 rfl ?_
      refine Sx.iadd dX1_whyNoHabit_27 ?_
      refine Sx.callU1 dX1_whyNoHabit_28 lku_X1_43 (rcv_8 hr.1) (by decide) (by decide) (Nat.le_of_ble_eq_true rfl) rfl rfl (c_sg hr hs (xN x) (by rw [hjx, xN_n (by omega)]; exact n_z jx) (by rw [hjx, xN_n (by omega)]; omega) (by rw [hjx, xN_n (by omega)]; omega) ?_)
      refine Sx.iload_n dX1_whyNoHabit_31 rfl ?_
      refine Sx.icmp_ne (t := 37) dX1_whyNoHabit_32 (by decide) (fun c32 => ?_) (fun c32 => ?_)
      · refine Sx.aload_n dX1_whyNoHabit_37 rfl ?_
        refine Sx.sipush (v := 142) dX1_whyNoHabit_38 (by decide) ?_
        refine Sx.callU1 dX1_whyNoHabit_41 lku_X1_43 (rcv_8 hr.1) (by decide) (by decide) (Nat.le_of_ble_eq_true rfl) rfl rfl (c_sg hr hs 142 rfl (by decide) (by decide) ?_)
        refine Sx.iconst (v := 1) dX1_whyNoHabit_44 (by decide) ?_
        refine Sx.icmp_ge (t := 52) dX1_whyNoHabit_45 (by decide) (fun c45 => ?_) (fun c45 => ?_)
        · refine Sx.iconst (v := (-1)) dX1_whyNoHabit_52 (by decide) ?_
          refine Sx.iret dX1_whyNoHabit_53 rfl rfl ?_
          have hc : ¬ F (xN x) = xN y := fun q => c32 (by rw [q]; exact hyy.symm)
          have hd : ¬ F 142 < 1 := fun q => absurd ((n_lt (by omega) (by decide)).mpr q) (Int32.not_lt.mpr c45)
          rw [if_neg hc, if_neg hd] at h
          exact h
        · refine Sx.iconst (v := 3) dX1_whyNoHabit_48 (by decide) ?_
          refine Sx.goto (t := 53) dX1_whyNoHabit_49 (by decide) ?_
          refine Sx.iret dX1_whyNoHabit_53 rfl rfl ?_
          have hc : ¬ F (xN x) = xN y := fun q => c32 (by rw [q]; exact hyy.symm)
          have hd : F 142 < 1 := (n_lt (by omega) (by decide)).mp (Int32.not_le.mp c45)
          rw [if_neg hc, if_pos hd] at h
          exact h
      · refine Sx.iconst (v := 2) dX1_whyNoHabit_35 (by decide) ?_
        refine Sx.iret dX1_whyNoHabit_36 rfl rfl ?_
        have hc : F (xN x) = xN y := (n_eq (by omega) (by omega)).mp (by rw [← hyy]; exact c32)
        rw [if_pos hc] at h
        exact h
    · refine Sx.iconst (v := 0) dX1_whyNoHabit_22 (by decide) ?_
      refine Sx.iret dX1_whyNoHabit_23 rfl rfl ?_
      have hk := b2i_0.mp c19
      rw [whH, if_neg (by rw [hk]; intro q; cases q.2)] at h
      exact h
