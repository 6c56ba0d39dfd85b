/-! Course: doings -/
/-- who did a kind, out of a day's doings (three bits each), of the first n persons -/
def doN (x k : Nat) : Nat → Nat
  | 0 => 0
  | j + 1 => doN x k j ||| (if x / 2 ^ (3 * j) % 8 = k + 1 then 2 ^ j else 0)
theorem doN_lt (x k : Nat) : ∀ j, doN x k j < 2 ^ j
  | 0 => by simp [doN]
  | j + 1 => by
    have h1 := doN_lt x k j
    unfold doN
    refine Nat.or_lt_two_pow (by rw [Nat.pow_succ]; omega) ?_
    split
    · rw [Nat.pow_succ]; have := Nat.two_pow_pos j; omega
    · exact Nat.two_pow_pos _
/-- what the first n persons do now -/
def dnN (F : Nat → Nat) : Nat → Nat
  | 0 => 0
  | j + 1 => dnN F j ||| (if hbN (F 138) j = true then 0 else (F j + 1) * 2 ^ (3 * j))
theorem dnN_lt {F : Nat → Nat} (hF : ∀ p, p < 6 → F p < 6) : ∀ j, j ≤ 6 → dnN F j < 2 ^ (3 * j)
  | 0 => fun _ => by simp [dnN]
  | j + 1 => fun hj => by
    have h1 := dnN_lt hF j (by omega)
    have h2 := hF j (by omega)
    have e : 2 ^ (3 * (j + 1)) = 8 * 2 ^ (3 * j) := by rw [show 3 * (j + 1) = 3 * j + 3 by omega, Nat.pow_add]; omega
    have h3 := Nat.two_pow_pos (3 * j)
    unfold dnN
    refine Nat.or_lt_two_pow (by omega) ?_
    split
    · exact Nat.two_pow_pos _
    · rw [e]
      calc (F j + 1) * 2 ^ (3 * j) ≤ 6 * 2 ^ (3 * j) := Nat.mul_le_mul_right _ (by omega)
        _ < 8 * 2 ^ (3 * j) := by omega
/-- the first of the greatest that isn't 0, by one more -/
def amp (c : Nat → Nat) : Nat → Nat
  | 0 => 0
  | j + 1 => if (if amp c j = 0 then 0 else c (amp c j - 1)) < c j then j + 1 else amp c j
def ampV (c : Nat → Nat) (j : Nat) : Nat := if amp c j = 0 then 0 else c (amp c j - 1)
theorem amp_yes {c : Nat → Nat} {j : Nat} (h : ampV c j < c j) : amp c (j + 1) = j + 1 := by rw [amp]; exact if_pos h
theorem amp_no {c : Nat → Nat} {j : Nat} (h : ¬ ampV c j < c j) : amp c (j + 1) = amp c j := by rw [amp]; exact if_neg h
theorem amp_le (c : Nat → Nat) : ∀ j, amp c j ≤ j
  | 0 => Nat.le_refl _
  | j + 1 => by
    have := amp_le c j
    by_cases h : ampV c j < c j
    · rw [amp_yes h]; omega
    · rw [amp_no h]; omega
theorem doN_shr {x j : Nat} (hx : x < 2 ^ 18) (hj : j < 6) : nI x >>> ((3 * nI j) &&& 31) &&& 7 = nI (x / 2 ^ (3 * j) % 8) := by
  rw [show (3 : Int32) * nI j = nI (3 * j) from pk_mul 3 j, n_shr (by omega) (by omega), n_and7 (by have := Nat.div_le_self x (2 ^ (3 * j)); omega)]
set_option maxRecDepth 20000 in
set_option maxHeartbeats 1000000 in
theorem l_doers {G : Gt} {l : Launch} {Z : Zt} {R : Rt} {L : Lt} {post : Pt'} {x k0 : Nat} {I0 : It} (hx : x < 2 ^ 18) (hk : k0 ≤ 6) (h : ∀ I', I' = I0 → post (some (.int (nI (doN x k0 6)))) Z R I' L) :
    ∀ (k j : Nat), j ≤ 6 → 6 < j + k → ∀ (I : It) (v : Int32), (I = I0) → (v = nI (doN x k0 j)) → ∀ (y : Int32), y = nI j → Sx G l mX1_doersOf 1 0 0 4 [(3, .int y), (2, .int v), (0, .int (nI x)), (1, .int (nI k0))] [] Z R I L post := by
  intro k
  induction k with
  | zero => intro j h1 h2; omega
  | succ k ih =>
    intro j h1 h2 I v hI hv y hy
    subst hy
    refine Sx.iload_n dX1_doersOf_4 rfl ?_
    refine Sx.bipush (v := 6) dX1_doersOf_5 (by decide) ?_
    refine Sx.icmp_ge (t := 40) dX1_doersOf_7 (by decide) (fun c7 => ?_) (fun c7 => ?_)
    · refine Sx.iload_n dX1_doersOf_40 rfl ?_
      refine Sx.iret dX1_doersOf_41 rfl rfl ?_
      have hj := lp_end (N := 6) rfl (by decide) h1 c7
      subst hj
      rw [hv]
      exact h I hI
    · have hlt := lp_lt (N := 6) rfl (by decide) h1 c7
      refine Sx.iload_n dX1_doersOf_10 rfl ?_
      refine Sx.iload_n dX1_doersOf_11 rfl ?_
      refine Sx.iconst (v := 3) dX1_doersOf_12 (by decide) ?_
      refine Sx.iload_n dX1_doersOf_13 rfl ?_
      refine Sx.imul dX1_doersOf_14 ?_
      refine Sx.ishr dX1_doersOf_15 ?_
      refine Sx.bipush (v := 7) dX1_doersOf_16 (by decide) ?_
      refine Sx.iand dX1_doersOf_18 ?_
      rw [doN_shr hx hlt]
      refine Sx.iload_n dX1_doersOf_19 rfl ?_
      refine Sx.iconst (v := 1) dX1_doersOf_20 (by decide) ?_
      refine Sx.iadd dX1_doersOf_21 ?_
      rw [nI_1]
      refine Sx.icmp_ne (t := 31) dX1_doersOf_22 (by decide) (fun c22 => ?_) (fun c22 => ?_)
      · have hne : ¬ x / 2 ^ (3 * j) % 8 = k0 + 1 := fun q => c22 (by rw [q])
        refine Sx.iconst (v := 0) dX1_doersOf_31 (by decide) ?_
        refine Sx.ior dX1_doersOf_32 ?_
        refine Sx.ist_n (fun zz => [(2, .int zz), (3, .int (nI j)), (0, .int (nI x)), (1, .int (nI k0))]) dX1_doersOf_33 (by decide) (fun _ => rfl) (fun x2_33 ex2_33 => ?_)
        refine Sx.iincN (fun zz => [(3, .int zz), (2, .int x2_33), (0, .int (nI x)), (1, .int (nI k0))]) dX1_doersOf_34 rfl (by decide) (fun _ => rfl) (fun x3_34 ex3_34 => ?_)
        refine Sx.goto (t := 4) dX1_doersOf_37 (by decide) ?_
        refine Sx.sub' [(3, .int x3_34), (2, .int x2_33), (0, .int (nI x)), (1, .int (nI k0))] rfl ?_
        exact ih (j + 1) (by omega) (by omega) I _ hI (by rw [ex2_33, hv, doN, if_neg hne]; exact n_or _ _) _ (by rw [ex3_34]; exact nI_1 j)
      · refine Sx.iconst (v := 1) dX1_doersOf_25 (by decide) ?_
        refine Sx.iload_n dX1_doersOf_26 rfl ?_
        refine Sx.ishl dX1_doersOf_27 ?_
        have heq : x / 2 ^ (3 * j) % 8 = k0 + 1 := (n_eq (by omega) (by omega)).mp (Classical.byContradiction fun q => absurd c22 (by simpa using q))
        rw [n_p2 (by omega)]
        refine Sx.goto (t := 32) dX1_doersOf_28 (by decide) ?_
        refine Sx.ior dX1_doersOf_32 ?_
        refine Sx.ist_n (fun zz => [(2, .int zz), (3, .int (nI j)), (0, .int (nI x)), (1, .int (nI k0))]) dX1_doersOf_33 (by decide) (fun _ => rfl) (fun x2_33 ex2_33 => ?_)
        refine Sx.iincN (fun zz => [(3, .int zz), (2, .int x2_33), (0, .int (nI x)), (1, .int (nI k0))]) dX1_doersOf_34 rfl (by decide) (fun _ => rfl) (fun x3_34 ex3_34 => ?_)
        refine Sx.goto (t := 4) dX1_doersOf_37 (by decide) ?_
        refine Sx.sub' [(3, .int x3_34), (2, .int x2_33), (0, .int (nI x)), (1, .int (nI k0))] rfl ?_
        exact ih (j + 1) (by omega) (by omega) I _ hI (by rw [ex2_33, hv, doN, if_pos heq]; exact n_or _ _) _ (by rw [ex3_34]; exact nI_1 j)
set_option maxRecDepth 20000 in
set_option maxHeartbeats 1000000 in
theorem c_doers {G : Gt} {l : Launch} {Z : Zt} {R : Rt} {I : It} {L : Lt} {post : Pt'} {x k0 : Nat} (hx : x < 2 ^ 18) (hk : k0 ≤ 6) (h : post (some (.int (nI (doN x k0 6)))) Z R I L) : Cx G l mX1_doersOf 1 0 0 [.int (nI x), .int (nI k0)] Z R I L post := by
  refine Cx.of (by decide +kernel) (by exact Nat.le_of_ble_eq_true rfl) ?_
  refine Sx.iconst (v := 0) dX1_doersOf_0 (by decide) ?_
  refine Sx.ist_n (fun zz => [(2, .int zz), (0, .int (nI x)), (1, .int (nI k0))]) dX1_doersOf_1 (by decide) (fun _ => rfl) (fun x2_1 ex2_1 => ?_)
  refine Sx.iconst (v := 0) dX1_doersOf_2 (by decide) ?_
  refine Sx.ist_n (fun zz => [(3, .int zz), (2, .int x2_1), (0, .int (nI x)), (1, .int (nI k0))]) dX1_doersOf_3 (by decide) (fun _ => rfl) (fun x3_3 ex3_3 => ?_)
  exact l_doers hx hk (fun I' e => by rw [e]; exact h) 7 0 (by omega) (by omega) I _ rfl ex2_1 _ ex3_3
theorem n_or_0 (a : Nat) : nI a ||| (0 : Int32) = nI a := by rw [show (0 : Int32) = nI 0 from rfl, n_or, Nat.or_zero]
set_option maxRecDepth 20000 in
set_option maxHeartbeats 1000000 in
theorem l_dn {G : Gt} {l : Launch} {Z : Zt} {R : Rt} {L : Lt} {post : Pt'} {s : Nat} {P F : Nat → Nat} {I0 : It} (W : WF Z R) (hp : rep 36 (I0 104) P) (h35 : P 35 ≤ 6) (hr : rwo Z R s 8 146) (hs : rs (I0 (s + 1)) F) (hb : F 138 < 64) (hh : ∀ p, p < 6 → F p < 6) (h : ∀ I', I' = I0 → post (some (.int (nI (dnN F (P 35))))) Z R I' L) :
    ∀ (k j : Nat), j ≤ P 35 → P 35 < j + k → ∀ (I : It) (v : Int32), (I = I0) → (v = nI (dnN F j)) → ∀ (y : Int32), y = nI j → Sx G l mX1_doingsNow 3 0 0 4 [(3, .int y), (2, .int v), (0, .ref 114), (1, .ref s)] [] Z R I L post := by
  intro k
  induction k with
  | zero => intro j h1 h2; omega
  | succ k ih =>
    intro j h1 h2 I v hI hv y hy
    subst hy
    refine Sx.iload_n dX1_doingsNow_4 rfl ?_
    refine Sx.aload_n dX1_doingsNow_5 rfl ?_
    refine Sx.getfR dX1_doingsNow_6 lkf_X1_37_1 (o_114 W) (r_114_0 W) ?_
    refine Sx.callV0 dX1_doingsNow_9 lkv_X1_74 (rcv_6 (o_103 W)) (by decide) (by decide) (Nat.le_of_ble_eq_true rfl) rfl rfl (c_pers (w_103r W) (by rw [hI]; exact hp) ?_)
    refine Sx.icmp_ge (t := 49) dX1_doingsNow_12 (by decide) (fun c12 => ?_) (fun c12 => ?_)
    · refine Sx.iload_n dX1_doingsNow_49 rfl ?_
      refine Sx.iret dX1_doingsNow_50 rfl rfl ?_
      have hj := lp_end rfl (by omega) h1 c12
      subst hj
      rw [hv]
      exact h I hI
    · have hlt := lp_lt rfl (by omega) h1 c12
      refine Sx.iload_n dX1_doingsNow_15 rfl ?_
      refine Sx.aload_n dX1_doingsNow_16 rfl ?_
      refine Sx.iload_n dX1_doingsNow_17 rfl ?_
      refine Sx.callV1 dX1_doingsNow_18 lkv_X1_91 (rcv_8 hr.1) (by decide) (by decide) (Nat.le_of_ble_eq_true rfl) rfl rfl (c_X8_isInBed hr (by rw [hI]; exact hs) hb (by omega) ?_)
      refine Sx.if_eq (t := 28) dX1_doingsNow_21 (by decide) (fun c21 => ?_) (fun c21 => ?_)
      · have hbd : ¬ hbN (F 138) j = true := by rw [b2i_0.mp c21]; decide
        refine Sx.aload_n dX1_doingsNow_28 rfl ?_
        refine Sx.iconst (v := 0) dX1_doingsNow_29 (by decide) ?_
        refine Sx.iload_n dX1_doingsNow_30 rfl ?_
        refine Sx.iadd dX1_doingsNow_31 ?_
        refine Sx.callU1 dX1_doingsNow_32 lku_X1_43 (rcv_8 hr.1) (by decide) (by decide) (Nat.le_of_ble_eq_true rfl) rfl rfl (c_sg hr (by rw [hI]; exact hs) j (n_z j) (by omega) (by omega) ?_)
        refine Sx.iconst (v := 1) dX1_doingsNow_35 (by decide) ?_
        refine Sx.iadd dX1_doingsNow_36 ?_
        refine Sx.iconst (v := 3) dX1_doingsNow_37 (by decide) ?_
        refine Sx.iload_n dX1_doingsNow_38 rfl ?_
        refine Sx.imul dX1_doingsNow_39 ?_
        rw [show (3 : Int32) * nI j = nI (3 * j) from pk_mul 3 j, nI_1]
        refine Sx.ishl dX1_doingsNow_40 ?_
        have hpw : 2 ^ (3 * j) ≤ 2 ^ 15 := Nat.pow_le_pow_right (by decide) (by omega)
        have hfj := hh j (by omega)
        have hmul : (F j + 1) * 2 ^ (3 * j) ≤ 6 * 2 ^ 15 := Nat.mul_le_mul (by omega) hpw
        try rw [n_shl (by omega) (by omega)]
        refine Sx.ior dX1_doingsNow_41 ?_
        refine Sx.ist_n (fun zz => [(2, .int zz), (3, .int (nI j)), (0, .ref 114), (1, .ref s)]) dX1_doingsNow_42 (by decide) (fun _ => rfl) (fun x2_42 ex2_42 => ?_)
        refine Sx.iincN (fun zz => [(3, .int zz), (2, .int x2_42), (0, .ref 114), (1, .ref s)]) dX1_doingsNow_43 rfl (by decide) (fun _ => rfl) (fun x3_43 ex3_43 => ?_)
        refine Sx.goto (t := 4) dX1_doingsNow_46 (by decide) ?_
        refine Sx.sub' [(3, .int x3_43), (2, .int x2_42), (0, .ref 114), (1, .ref s)] rfl ?_
        exact ih (j + 1) (by omega) (by omega) I _ hI (by rw [ex2_42, hv, dnN, if_neg hbd]; exact n_or _ _) _ (by rw [ex3_43]; exact nI_1 j)
      · have hbd : hbN (F 138) j = true := b2i_ne.mp c21
        refine Sx.iconst (v := 0) dX1_doingsNow_24 (by decide) ?_
        refine Sx.goto (t := 41) dX1_doingsNow_25 (by decide) ?_
        have hpw : 2 ^ (3 * j) ≤ 2 ^ 15 := Nat.pow_le_pow_right (by decide) (by omega)
        have hfj := hh j (by omega)
        have hmul : (F j + 1) * 2 ^ (3 * j) ≤ 6 * 2 ^ 15 := Nat.mul_le_mul (by omega) hpw
        try rw [n_shl (by omega) (by omega)]
        refine Sx.ior dX1_doingsNow_41 ?_
        refine Sx.ist_n (fun zz => [(2, .int zz), (3, .int (nI j)), (0, .ref 114), (1, .ref s)]) dX1_doingsNow_42 (by decide) (fun _ => rfl) (fun x2_42 ex2_42 => ?_)
        refine Sx.iincN (fun zz => [(3, .int zz), (2, .int x2_42), (0, .ref 114), (1, .ref s)]) dX1_doingsNow_43 rfl (by decide) (fun _ => rfl) (fun x3_43 ex3_43 => ?_)
        refine Sx.goto (t := 4) dX1_doingsNow_46 (by decide) ?_
        refine Sx.sub' [(3, .int x3_43), (2, .int x2_42), (0, .ref 114), (1, .ref s)] rfl ?_
        exact ih (j + 1) (by omega) (by omega) I _ hI (by rw [ex2_42, hv, dnN, if_pos hbd]; exact (by rw [Nat.or_zero]; exact n_or_0 _)) _ (by rw [ex3_43]; exact nI_1 j)
set_option maxRecDepth 20000 in
set_option maxHeartbeats 1000000 in
theorem c_dn {G : Gt} {l : Launch} {Z : Zt} {R : Rt} {I : It} {L : Lt} {post : Pt'} {s : Nat} {P F : Nat → Nat} (W : WF Z R) (hp : rep 36 (I 104) P) (h35 : P 35 ≤ 6) (hr : rwo Z R s 8 146) (hs : rs (I (s + 1)) F) (hb : F 138 < 64) (hh : ∀ p, p < 6 → F p < 6) (h : post (some (.int (nI (dnN F (P 35))))) Z R I L) : Cx G l mX1_doingsNow 3 0 0 [.ref 114, .ref s] Z R I L post := by
  refine Cx.of (by decide +kernel) (by exact Nat.le_of_ble_eq_true rfl) ?_
  refine Sx.iconst (v := 0) dX1_doingsNow_0 (by decide) ?_
  refine Sx.ist_n (fun zz => [(2, .int zz), (0, .ref 114), (1, .ref s)]) dX1_doingsNow_1 (by decide) (fun _ => rfl) (fun x2_1 ex2_1 => ?_)
  refine Sx.iconst (v := 0) dX1_doingsNow_2 (by decide) ?_
  refine Sx.ist_n (fun zz => [(3, .int zz), (2, .int x2_1), (0, .ref 114), (1, .ref s)]) dX1_doingsNow_3 (by decide) (fun _ => rfl) (fun x3_3 ex3_3 => ?_)
  exact l_dn W hp h35 hr hs hb hh (fun I' e => by rw [e]; exact h) (P 35 + 1) 0 (by omega) (by omega) I _ rfl ex2_1 _ ex3_3
def donN (P F : Nat → Nat) (day : Nat) : Nat := if day < F 145 then F (48 + day) else dnN F (P 35)
set_option maxRecDepth 20000 in
set_option maxHeartbeats 1000000 in
theorem c_don {G : Gt} {l : Launch} {Z : Zt} {R : Rt} {I : It} {L : Lt} {post : Pt'} {s : Nat} {P F : Nat → Nat} {dy : Nat} (W : WF Z R) (hp : rep 36 (I 104) P) (hP : PB P) (hr : rwo Z R s 8 146) (hs : rs (I (s + 1)) F) (hx : 119 ≤ s ∧ s < 232) (hF : SB P F) (hdy : dy < 30) (h : post (some (.int (nI (donN P F dy)))) Z R I L) : Cx G l mX1_doingsOn 4 0 0 [.ref 114, .ref s, .int (nI dy)] Z R I L post := by
  refine Cx.of (by decide +kernel) (by exact Nat.le_of_ble_eq_true rfl) ?_
  have hall := hF.all hP
  have hP' := hP
  have hF' := hF
  obtain ⟨f1, f2, f3, f4, f5, f6, f7, f8, f9, f10, f11, f12, f13, f14, f15, f16⟩ := hF'
  obtain ⟨p1, p2, p3, p4, p5, p6, p7, p8, p9⟩ := hP'
  refine Sx.iload_n dX1_doingsOn_0 rfl ?_
  refine Sx.aload_n dX1_doingsOn_1 rfl ?_
  refine Sx.sipush (v := 145) dX1_doingsOn_2 (by decide) ?_
  refine Sx.callU1 dX1_doingsOn_5 lku_X1_43 (rcv_8 hr.1) (by decide) (by decide) (Nat.le_of_ble_eq_true rfl) rfl rfl (c_sg hr hs 145 rfl (by decide) (by decide) ?_)
  refine Sx.icmp_ge (t := 22) dX1_doingsOn_8 (by decide) (fun c8 => ?_) (fun c8 => ?_)
  · refine Sx.aload_n dX1_doingsOn_22 rfl ?_
    refine Sx.aload_n dX1_doingsOn_23 rfl ?_
    refine Sx.callV1 dX1_doingsOn_24 lkv_X1_95 (rcv_1 (o_114 W)) (by decide) (by decide) (Nat.le_of_ble_eq_true rfl) rfl rfl (c_dn W hp p8 hr hs f7 f1 ?_)
    refine Sx.iret dX1_doingsOn_27 rfl rfl ?_
    rw [donN, if_neg (fun q => absurd ((n_lt (by omega) (by omega)).mpr q) (Int32.not_lt.mpr c8))] at h
    exact h
  · refine Sx.aload_n dX1_doingsOn_11 rfl ?_
    refine Sx.bipush (v := 48) dX1_doingsOn_12 (by decide) ?_
    refine Sx.iload_n dX1_doingsOn_14 rfl ?_
    refine Sx.iadd dX1_doingsOn_15 ?_
    refine Sx.callU1 dX1_doingsOn_16 lku_X1_43 (rcv_8 hr.1) (by decide) (by decide) (Nat.le_of_ble_eq_true rfl) rfl rfl (c_sg hr hs (48 + dy) (nI_add 48 dy) (by omega) (by omega) ?_)
    refine Sx.goto (t := 27) dX1_doingsOn_19 (by decide) ?_
    refine Sx.iret dX1_doingsOn_27 rfl rfl ?_
    rw [donN, if_pos ((n_lt (by omega) (by omega)).mp (Int32.not_le.mp c8))] at h
    exact h
set_option maxRecDepth 20000 in
set_option maxHeartbeats 1000000 in
theorem l_gb {G : Gt} {l : Launch} {Z : Zt} {R : Rt} {L : Lt} {post : Pt'} {x : Nat} {P : Nat → Nat} {I0 : It} (W : WF Z R) (hp : rep 36 (I0 104) P) (h34 : P 34 ≤ 6) (hx : x < 2 ^ 18) (h : ∀ I', I' = I0 → post (some (.int (nI (amp (fun k => popN (doN x k 6)) (P 34)) - 1))) Z R I' L) :
    ∀ (k j : Nat), j ≤ P 34 → P 34 < j + k → ∀ (I : It) (v2 v3 : Int32), (I = I0) → (v2 = nI (amp (fun k => popN (doN x k 6)) j) - 1) → (v3 = nI (ampV (fun k => popN (doN x k 6)) j)) → ∀ (y : Int32), y = nI j → Sx G l mX1_governorBy 3 0 0 7 [(4, .int y), (3, .int v3), (2, .int v2), (0, .ref 114), (1, .int (nI x))] [] Z R I L post := by
  intro k
  induction k with
  | zero => intro j h1 h2; omega
  | succ k ih =>
    intro j h1 h2 I v2 v3 hI hv2 hv3 y hy
    subst hy
    refine Sx.iload dX1_governorBy_7 rfl ?_
    refine Sx.aload_n dX1_governorBy_9 rfl ?_
    refine Sx.getfR dX1_governorBy_10 lkf_X1_37_1 (o_114 W) (r_114_0 W) ?_
    refine Sx.bipush (v := 34) dX1_governorBy_13 (by decide) ?_
    refine Sx.callU1 dX1_governorBy_15 lku_X1_49 (rcv_6 (o_103 W)) (by decide) (by decide) (Nat.le_of_ble_eq_true rfl) rfl rfl (c_rg (w_103r W) rC6 (by decide) (by rw [hI]; exact hp) 34 rfl (by decide) ?_)
    refine Sx.icmp_ge (t := 50) dX1_governorBy_18 (by decide) (fun c18 => ?_) (fun c18 => ?_)
    · refine Sx.iload_n dX1_governorBy_50 rfl ?_
      refine Sx.iret dX1_governorBy_51 rfl rfl ?_
      have hj := lp_end rfl (by omega) h1 c18
      subst hj
      rw [hv2]
      exact h I hI
    · have hlt := lp_lt rfl (by omega) h1 c18
      refine Sx.iload_n dX1_governorBy_21 rfl ?_
      refine Sx.iload dX1_governorBy_22 rfl ?_
      refine Sx.callS2 dX1_governorBy_24 lkc_X1_99  (by decide) (by decide) (Nat.le_of_ble_eq_true rfl) rfl rfl (c_doers hx (by omega) ?_)
      refine Sx.callS1 dX1_governorBy_27 lkc_X1_102  (by decide) (by decide) (Nat.le_of_ble_eq_true rfl) rfl rfl (c_bitc ?_)
      rw [(popN_bit _ (doN_lt x j 6)).1]
      have hp6 := (popN_bit _ (doN_lt x j 6)).2
      have ha6 : ampV (fun k => popN (doN x k 6)) j ≤ 6 := by
        unfold ampV
        split
        · omega
        · exact (popN_bit _ (doN_lt x (amp (fun k => popN (doN x k 6)) j - 1) 6)).2
      refine Sx.ist (fun zz => [(5, .int zz), (4, .int (nI j)), (3, .int v3), (2, .int v2), (0, .ref 114), (1, .int (nI x))]) dX1_governorBy_30 (by decide) (fun _ => rfl) (fun x5_30 ex5_30 => ?_)
      refine Sx.iload dX1_governorBy_32 rfl ?_
      refine Sx.iload_n dX1_governorBy_34 rfl ?_
      refine Sx.icmp_le (t := 44) dX1_governorBy_35 (by decide) (fun c35 => ?_) (fun c35 => ?_)
      · have hno : ¬ ampV (fun k => popN (doN x k 6)) j < popN (doN x j 6) := fun q => by
          rw [ex5_30, hv3] at c35
          exact absurd ((n_lt (by omega) (by omega)).mpr q) (Int32.not_lt.mpr c35)
        refine Sx.iincN (fun zz => [(4, .int zz), (5, .int x5_30), (3, .int v3), (2, .int v2), (0, .ref 114), (1, .int (nI x))]) dX1_governorBy_44 rfl (by decide) (fun _ => rfl) (fun x4_44 ex4_44 => ?_)
        refine Sx.goto (t := 7) dX1_governorBy_47 (by decide) ?_
        refine Sx.sub' [(4, .int x4_44), (3, .int v3), (2, .int v2), (0, .ref 114), (1, .int (nI x))] rfl ?_
        exact ih (j + 1) (by omega) (by omega) I _ _ hI (by rw [hv2, amp_no hno]) (by rw [hv3, ampV, ampV, amp_no hno]) _ (by rw [ex4_44]; exact nI_1 j)
      · have hyes : ampV (fun k => popN (doN x k 6)) j < popN (doN x j 6) := by
          rw [ex5_30, hv3] at c35
          exact (n_lt (by omega) (by omega)).mp (Int32.not_le.mp c35)
        refine Sx.iload dX1_governorBy_38 rfl ?_
        refine Sx.ist_n (fun zz => [(3, .int zz), (5, .int x5_30), (4, .int (nI j)), (2, .int v2), (0, .ref 114), (1, .int (nI x))]) dX1_governorBy_40 (by decide) (fun _ => rfl) (fun x3_40 ex3_40 => ?_)
        refine Sx.iload dX1_governorBy_41 rfl ?_
        refine Sx.ist_n (fun zz => [(2, .int zz), (3, .int x3_40), (5, .int x5_30), (4, .int (nI j)), (0, .ref 114), (1, .int (nI x))]) dX1_governorBy_43 (by decide) (fun _ => rfl) (fun x2_43 ex2_43 => ?_)
        refine Sx.iincN (fun zz => [(4, .int zz), (2, .int x2_43), (3, .int x3_40), (5, .int x5_30), (0, .ref 114), (1, .int (nI x))]) dX1_governorBy_44 rfl (by decide) (fun _ => rfl) (fun x4_44 ex4_44 => ?_)
        refine Sx.goto (t := 7) dX1_governorBy_47 (by decide) ?_
        refine Sx.sub' [(4, .int x4_44), (3, .int x3_40), (2, .int x2_43), (0, .ref 114), (1, .int (nI x))] rfl ?_
        exact ih (j + 1) (by omega) (by omega) I _ _ hI (by rw [ex2_43, amp_yes hyes, n_m1]) (by rw [ex3_40, ex5_30, ampV, amp_yes hyes]; rfl) _ (by rw [ex4_44]; exact nI_1 j)
set_option maxRecDepth 20000 in
set_option maxHeartbeats 1000000 in
theorem c_gb {G : Gt} {l : Launch} {Z : Zt} {R : Rt} {I : It} {L : Lt} {post : Pt'} {x : Nat} {P : Nat → Nat} (W : WF Z R) (hp : rep 36 (I 104) P) (h34 : P 34 ≤ 6) (hx : x < 2 ^ 18) (h : post (some (.int (nI (amp (fun k => popN (doN x k 6)) (P 34)) - 1))) Z R I L) : Cx G l mX1_governorBy 3 0 0 [.ref 114, .int (nI x)] Z R I L post := by
  refine Cx.of (by decide +kernel) (by exact Nat.le_of_ble_eq_true rfl) ?_
  refine Sx.iconst (v := (-1)) dX1_governorBy_0 (by decide) ?_
  refine Sx.ist_n (fun zz => [(2, .int zz), (0, .ref 114), (1, .int (nI x))]) dX1_governorBy_1 (by decide) (fun _ => rfl) (fun x2_1 ex2_1 => ?_)
  refine Sx.iconst (v := 0) dX1_governorBy_2 (by decide) ?_
  refine Sx.ist_n (fun zz => [(3, .int zz), (2, .int x2_1), (0, .ref 114), (1, .int (nI x))]) dX1_governorBy_3 (by decide) (fun _ => rfl) (fun x3_3 ex3_3 => ?_)
  refine Sx.iconst (v := 0) dX1_governorBy_4 (by decide) ?_
  refine Sx.ist (fun zz => [(4, .int zz), (3, .int x3_3), (2, .int x2_1), (0, .ref 114), (1, .int (nI x))]) dX1_governorBy_5 (by decide) (fun _ => rfl) (fun x4_5 ex4_5 => ?_)
  exact l_gb W hp h34 hx (fun I' e => by rw [e]; exact h) (P 34 + 1) 0 (by omega) (by omega) I _ _ rfl (by rw [ex2_1]; exact n_neg1.symm) ex3_3 _ ex4_5
/-- a person's day: what it brings in -/
def brN (P F : Nat → Nat) (p lt : Nat) : Nat → Nat :=
  if lt < P (9 + F p) then F else upn (upn F (6 + p) (min 9999 (F (6 + p) + (P (3 + F p) + F (12 + F p))))) 142 (min 999 (F 142 + (P (3 + F p) + F (12 + F p))))
set_option maxRecDepth 20000 in
set_option maxHeartbeats 1000000 in
theorem c_bring {G : Gt} {l : Launch} {Z : Zt} {R : Rt} {I : It} {L : Lt} {post : Pt'} {s : Nat} {P F : Nat → Nat} {p lt : Nat} (W : WF Z R) (hp : rep 36 (I 104) P) (hP : PB P) (hr : rwo Z R s 8 146) (hs : rs (I (s + 1)) F) (hx : 119 ≤ s ∧ s < 232) (hh : F p < 6) (h12 : F (12 + F p) ≤ 6) (h6 : F (6 + p) ≤ 9999) (h142 : F 142 ≤ 999) (hpp : p < 6) (hlt : lt ≤ 99) (h : ∀ I', rs (I' (s + 1)) (brN P F p lt) → (∀ q, q ≠ s + 1 → I' q = I q) → post none Z R I' L) : Cx G l mX1_bringIn 2 0 0 [.ref 114, .ref s, .int (nI p), .int (nI lt)] Z R I L post := by
  refine Cx.of (by decide +kernel) (by exact Nat.le_of_ble_eq_true rfl) ?_
  obtain ⟨p1, p2, p3, p4, p5, p6, p7, p8, p9⟩ := hP
  have q9 := p9 (F p) hh
  refine Sx.aload_n dX1_bringIn_0 rfl ?_
  refine Sx.iconst (v := 0) dX1_bringIn_1 (by decide) ?_
  refine Sx.iload_n dX1_bringIn_2 rfl ?_
  refine Sx.iadd dX1_bringIn_3 ?_
  refine Sx.callU1 dX1_bringIn_4 lku_X1_43 (rcv_8 hr.1) (by decide) (by decide) (Nat.le_of_ble_eq_true rfl) rfl rfl (c_sg hr hs p (n_z p) (by omega) (by omega) ?_)
  refine Sx.ist (fun zz => [(4, .int zz), (0, .ref 114), (1, .ref s), (2, .int (nI p)), (3, .int (nI lt))]) dX1_bringIn_7 (by decide) (fun _ => rfl) (fun x4_7 ex4_7 => ?_)
  refine Sx.iload_n dX1_bringIn_9 rfl ?_
  refine Sx.aload_n dX1_bringIn_10 rfl ?_
  refine Sx.getfR dX1_bringIn_11 lkf_X1_37_1 (o_114 W) (r_114_0 W) ?_
  refine Sx.bipush (v := 9) dX1_bringIn_14 (by decide) ?_
  refine Sx.iload dX1_bringIn_16 rfl ?_
  refine Sx.iadd dX1_bringIn_18 ?_
  refine Sx.callU1 dX1_bringIn_19 lku_X1_49 (rcv_6 (o_103 W)) (by decide) (by decide) (Nat.le_of_ble_eq_true rfl) rfl rfl (c_rg (w_103r W) rC6 (by decide) hp (9 + F p) (by rw [ex4_7]; exact nI_add 9 _) (by omega) ?_)
  refine Sx.icmp_ge (t := 26) dX1_bringIn_22 (by decide) (fun c22 => ?_) (fun c22 => ?_)
  · refine Sx.aload_n dX1_bringIn_26 rfl ?_
    refine Sx.getfR dX1_bringIn_27 lkf_X1_37_1 (o_114 W) (r_114_0 W) ?_
    refine Sx.iconst (v := 3) dX1_bringIn_30 (by decide) ?_
    refine Sx.iload dX1_bringIn_31 rfl ?_
    refine Sx.iadd dX1_bringIn_33 ?_
    refine Sx.callU1 dX1_bringIn_34 lku_X1_49 (rcv_6 (o_103 W)) (by decide) (by decide) (Nat.le_of_ble_eq_true rfl) rfl rfl (c_rg (w_103r W) rC6 (by decide) hp (3 + F p) (by rw [ex4_7]; exact nI_add 3 _) (by omega) ?_)
    refine Sx.aload_n dX1_bringIn_37 rfl ?_
    refine Sx.bipush (v := 12) dX1_bringIn_38 (by decide) ?_
    refine Sx.iload dX1_bringIn_40 rfl ?_
    refine Sx.iadd dX1_bringIn_42 ?_
    refine Sx.callU1 dX1_bringIn_43 lku_X1_43 (rcv_8 hr.1) (by decide) (by decide) (Nat.le_of_ble_eq_true rfl) rfl rfl (c_sg hr hs (12 + F p) (by rw [ex4_7]; exact nI_add 12 _) (by omega) (by omega) ?_)
    refine Sx.iadd dX1_bringIn_46 ?_
    rw [nI_add]
    refine Sx.ist (fun zz => [(5, .int zz), (4, .int x4_7), (0, .ref 114), (1, .ref s), (2, .int (nI p)), (3, .int (nI lt))]) dX1_bringIn_47 (by decide) (fun _ => rfl) (fun x5_47 ex5_47 => ?_)
    refine Sx.aload_n dX1_bringIn_49 rfl ?_
    refine Sx.bipush (v := 6) dX1_bringIn_50 (by decide) ?_
    refine Sx.iload_n dX1_bringIn_52 rfl ?_
    refine Sx.iadd dX1_bringIn_53 ?_
    refine Sx.sipush (v := 9999) dX1_bringIn_54 (by decide) ?_
    refine Sx.aload_n dX1_bringIn_57 rfl ?_
    refine Sx.bipush (v := 6) dX1_bringIn_58 (by decide) ?_
    refine Sx.iload_n dX1_bringIn_60 rfl ?_
    refine Sx.iadd dX1_bringIn_61 ?_
    refine Sx.callU1 dX1_bringIn_62 lku_X1_43 (rcv_8 hr.1) (by decide) (by decide) (Nat.le_of_ble_eq_true rfl) rfl rfl (c_sg hr hs (6 + p) (nI_add 6 p) (by omega) (by omega) ?_)
    refine Sx.iload dX1_bringIn_65 rfl ?_
    refine Sx.iadd dX1_bringIn_67 ?_
    refine Sx.mmin dX1_bringIn_68 lkm_X1_67 (by decide) (Nat.le_of_ble_eq_true rfl) ?_
    rw [show imin 9999 (nI (F (6 + p)) + x5_47) = nI (min 9999 (F (6 + p) + (P (3 + F p) + F (12 + F p)))) by rw [ex5_47, nI_add]; exact n_min (a := 9999) (by decide) (by omega)]
    refine Sx.callU2 dX1_bringIn_71 lku_X1_107 (rcv_8 hr.1) (by decide) (by decide) (Nat.le_of_ble_eq_true rfl) rfl rfl (c_ss hr hs (6 + p) (min 9999 (F (6 + p) + (P (3 + F p) + F (12 + F p)))) (nI_add 6 p) (by omega) (by rw [sv_n (by omega)]) (fun I1 e1 e2 => ?_))
    refine Sx.aload_n dX1_bringIn_74 rfl ?_
    refine Sx.sipush (v := 142) dX1_bringIn_75 (by decide) ?_
    refine Sx.sipush (v := 999) dX1_bringIn_78 (by decide) ?_
    refine Sx.aload_n dX1_bringIn_81 rfl ?_
    refine Sx.sipush (v := 142) dX1_bringIn_82 (by decide) ?_
    refine Sx.callU1 dX1_bringIn_85 lku_X1_43 (rcv_8 hr.1) (by decide) (by decide) (Nat.le_of_ble_eq_true rfl) rfl rfl (c_sg hr e1 142 rfl (by decide) (by decide) ?_)
    refine Sx.iload dX1_bringIn_88 rfl ?_
    refine Sx.iadd dX1_bringIn_90 ?_
    refine Sx.mmin dX1_bringIn_91 lkm_X1_67 (by decide) (Nat.le_of_ble_eq_true rfl) ?_
    rw [show imin 999 (nI (upn F (6 + p) (min 9999 (F (6 + p) + (P (3 + F p) + F (12 + F p)))) 142) + x5_47) = nI (min 999 (F 142 + (P (3 + F p) + F (12 + F p)))) by rw [ex5_47, upn_ne _ _ (by omega), nI_add]; exact n_min (a := 999) (by decide) (by omega)]
    refine Sx.callU2 dX1_bringIn_94 lku_X1_107 (rcv_8 hr.1) (by decide) (by decide) (Nat.le_of_ble_eq_true rfl) rfl rfl (c_ss hr e1 142 (min 999 (F 142 + (P (3 + F p) + F (12 + F p)))) rfl (by decide) (by rw [sv_n (by decide)]) (fun I2 e3 e4 => ?_))
    refine Sx.vret dX1_bringIn_97 rfl ?_
    refine h I2 ?_ (fun q hq => (e4 q hq).trans (e2 q hq))
    rw [brN, if_neg (fun q => absurd ((n_lt (by omega) (by omega)).mpr q) (Int32.not_lt.mpr c22))]
    exact e3
  · refine Sx.vret dX1_bringIn_25 rfl ?_
    refine h I ?_ (fun _ _ => rfl)
    rw [brN, if_pos ((n_lt (by omega) (by omega)).mp (Int32.not_le.mp c22))]
    exact hs
