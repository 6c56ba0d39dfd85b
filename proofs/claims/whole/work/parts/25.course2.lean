/-! Course: light of any day, the ruler, doings -/
/-- the first of the least among the first days, by one more -/
def amn (g : Nat → Nat) : Nat → Nat
  | 0 => 0
  | j + 1 => if amn g j = 0 ∨ g j < g (amn g j - 1) then j + 1 else amn g j
theorem amn_le (g : Nat → Nat) : ∀ j, amn g j ≤ j
  | 0 => Nat.le_refl _
  | j + 1 => by
    have := amn_le g j
    unfold amn
    split <;> omega
theorem amn_pos (g : Nat → Nat) : ∀ j, 0 < j → 0 < amn g j
  | 0 => fun h => by omega
  | j + 1 => fun _ => by
    unfold amn
    split
    · omega
    · next h => omega
theorem amn_congr {g h : Nat → Nat} : ∀ j, (∀ i, i < j → g i = h i) → amn g j = amn h j
  | 0 => fun _ => rfl
  | j + 1 => fun e => by
    have e1 := amn_congr j (fun i hi => e i (by omega))
    have h1 := amn_le h j
    unfold amn
    rw [e1, e j (by omega)]
    rcases Nat.eq_zero_or_pos (amn h j) with q | q
    · rw [if_pos (Or.inl q), if_pos (Or.inl q)]
    · rw [e (amn h j - 1) (by omega)]
theorem dkN_amn (F : Nat → Nat) : ∀ j, dkN F j = amn (fun d => F (18 + d)) j
  | 0 => rfl
  | j + 1 => by unfold dkN amn; rw [dkN_amn F j]
/-- the light of a day of this year, if so many are up from now on -/
def lofN (P : Nat → Nat) (w : Wt) (F : Nat → Nat) (up day : Nat) : Nat := if day < F 145 then F (18 + day) else litN P w F day (F 139) up
def upc (P F : Nat → Nat) : Nat := popN (upN (P 35) (F 138))
theorem upc_le {P F : Nat → Nat} (hP : PB P) (hF : SB P F) : upc P F ≤ 6 := (popN_bit _ (upN_bit _ (by have := hP.2.2.2.2.2.2.2.1; omega) _ hF.2.2.2.2.2.2.1).2).2
theorem litN_le (P : Nat → Nat) (w : Wt) (F : Nat → Nat) (day fog up : Nat) : litN P w F day fog up ≤ 99 := by
  have := clN_le (worV P w F day fog up)
  unfold litN
  split
  · omega
  · split <;> omega
theorem lofN_le {P : Nat → Nat} {w : Wt} {F : Nat → Nat} {up day : Nat} (hF : SB P F) (hd : day < 30) : lofN P w F up day ≤ 99 := by
  unfold lofN
  split
  · exact hF.2.2.2.1 day hd
  · exact litN_le _ _ _ _ _ _
set_option maxRecDepth 20000 in
set_option maxHeartbeats 1000000 in
theorem c_lightOf {G : Gt} {l : Launch} {Z : Zt} {R : Rt} {I : It} {L : Lt} {post : Pt'} {s : Nat} {P F : Nat → Nat} {w : Wt} {dy : Nat} (W : WF Z R) (hp : rep 36 (I 104) P) (hP : PB P) (hr : rwo Z R s 8 146) (hs : rs (I (s + 1)) F) (hx : 119 ≤ s ∧ s < 232) (hL : LW R I w) (hF : SB P F) (hdy : dy < 30) (h : ∀ I', (∀ q, q ≠ 116 → q ≠ 118 → I' q = I q) → post (some (.int (nI (lofN P w F (upc P F) dy)))) Z R I' L) : Cx G l mX1_lightOf 4 0 0 [.ref 114, .ref s, .int (nI dy)] Z R I L post := by
  refine Cx.of (by decide +kernel) (by exact Nat.le_of_ble_eq_true rfl) ?_
  have hall := hF.all hP
  have hP' := hP
  have hF' := hF
  obtain ⟨f1, f2, f3, f4, f5, f6, f7, f8, f9, f10, f11, f12, f13, f14, f15, f16⟩ := hF'
  obtain ⟨p1, p2, p3, p4, p5, p6, p7, p8, p9⟩ := hP'
  refine Sx.iload_n dX1_lightOf_0 rfl ?_
  refine Sx.aload_n dX1_lightOf_1 rfl ?_
  refine Sx.sipush (v := 145) dX1_lightOf_2 (by decide) ?_
  refine Sx.callU1 dX1_lightOf_5 lku_X1_43 (rcv_8 hr.1) (by decide) (by decide) (Nat.le_of_ble_eq_true rfl) rfl rfl (c_sg hr hs 145 rfl (by decide) (by decide) ?_)
  refine Sx.icmp_ge (t := 22) dX1_lightOf_8 (by decide) (fun c8 => ?_) (fun c8 => ?_)
  · refine Sx.aload_n dX1_lightOf_22 rfl ?_
    refine Sx.aload_n dX1_lightOf_23 rfl ?_
    refine Sx.iload_n dX1_lightOf_24 rfl ?_
    refine Sx.aload_n dX1_lightOf_25 rfl ?_
    refine Sx.sipush (v := 139) dX1_lightOf_26 (by decide) ?_
    refine Sx.callU1 dX1_lightOf_29 lku_X1_43 (rcv_8 hr.1) (by decide) (by decide) (Nat.le_of_ble_eq_true rfl) rfl rfl (c_sg hr hs 139 rfl (by decide) (by decide) ?_)
    refine Sx.aload_n dX1_lightOf_32 rfl ?_
    refine Sx.aload_n dX1_lightOf_33 rfl ?_
    refine Sx.getfR dX1_lightOf_34 lkf_X1_37_1 (o_114 W) (r_114_0 W) ?_
    refine Sx.callV0 dX1_lightOf_37 lkv_X1_74 (rcv_6 (o_103 W)) (by decide) (by decide) (Nat.le_of_ble_eq_true rfl) rfl rfl (c_pers (w_103r W) hp ?_)
    refine Sx.callV1 dX1_lightOf_40 lkv_X1_77 (rcv_8 hr.1) (by decide) (by decide) (Nat.le_of_ble_eq_true rfl) rfl rfl (c_X8_upCount hr hs f7 (by omega) ?_)
    refine Sx.callV4 dX1_lightOf_43 lkv_X1_80 (rcv_1 (o_114 W)) (by decide) (by decide) (Nat.le_of_ble_eq_true rfl) rfl rfl (c_light W hp hP hr hs hx hL hF hdy f8 (upc_le hP hF) (fun I1 hJ => ?_))
    refine Sx.iret dX1_lightOf_46 rfl rfl ?_
    have := h I1 hJ
    rw [lofN, if_neg (fun q => absurd ((n_lt (by omega) (by omega)).mpr q) (Int32.not_lt.mpr c8))] at this
    exact this
  · refine Sx.aload_n dX1_lightOf_11 rfl ?_
    refine Sx.bipush (v := 18) dX1_lightOf_12 (by decide) ?_
    refine Sx.iload_n dX1_lightOf_14 rfl ?_
    refine Sx.iadd dX1_lightOf_15 ?_
    refine Sx.callU1 dX1_lightOf_16 lku_X1_43 (rcv_8 hr.1) (by decide) (by decide) (Nat.le_of_ble_eq_true rfl) rfl rfl (c_sg hr hs (18 + dy) (nI_add 18 dy) (by omega) (by omega) ?_)
    refine Sx.goto (t := 46) dX1_lightOf_19 (by decide) ?_
    refine Sx.iret dX1_lightOf_46 rfl rfl ?_
    have := h I (fun _ _ _ => rfl)
    rw [lofN, if_pos ((n_lt (by omega) (by omega)).mp (Int32.not_le.mp c8))] at this
    exact this
/-- the least light so far, by whom it is -/
def mval (a : Nat) (g : Nat → Nat) : Nat := if a = 0 then 100 else g (a - 1)
theorem mval_le {g : Nat → Nat} {n : Nat} (h : ∀ d, d < 30 → g d ≤ 99) (hn : n ≤ 30) : mval (amn g n) g ≤ 100 := by
  have h1 := amn_le g n
  unfold mval
  split
  · omega
  · have := h (amn g n - 1) (by omega)
    omega
theorem amn_yes {g : Nat → Nat} {j : Nat} (h : g j < mval (amn g j) g) (hz : True := trivial) : amn g (j + 1) = j + 1 := by
  unfold mval at h
  rw [amn]
  split at h
  · next e => rw [if_pos (Or.inl e)]
  · rw [if_pos (Or.inr h)]
theorem amn_no {g : Nat → Nat} {j : Nat} (h : ¬ g j < mval (amn g j) g) (hz : g j ≤ 99) : amn g (j + 1) = amn g j := by
  unfold mval at h
  rw [amn]
  split at h
  · next e => omega
  · next e => rw [if_neg (fun q => q.elim e h)]
set_option maxRecDepth 20000 in
set_option maxHeartbeats 1000000 in
theorem l_ruler {G : Gt} {l : Launch} {Z : Zt} {R : Rt} {L : Lt} {post : Pt'} {s : Nat} {P F : Nat → Nat} {w : Wt} {u : Nat} {I0 : It} (W : WF Z R) (hp : rep 36 (I0 104) P) (hP : PB P) (hr : rwo Z R s 8 146) (hs : rs (I0 (s + 1)) F) (hx : 119 ≤ s ∧ s < 232) (hL : LW R I0 w) (hF : SB P F) (hu : u ≤ 6) (h : ∀ I', (∀ q, q ≠ 116 → q ≠ 118 → I' q = I0 q) → post (some (.int (nI (amn (lofN P w F u) (P 0)) - 1))) Z R I' L) :
    ∀ (k j : Nat), j ≤ P 0 → P 0 < j + k → F 145 ≤ j → ∀ (I : It) (v3 v4 : Int32), (∀ q, q ≠ 116 → q ≠ 118 → I q = I0 q) → v3 = nI (amn (lofN P w F u) j) - 1 → v4 = nI (mval (amn (lofN P w F u) j) (lofN P w F u)) → ∀ (y : Int32), y = nI j → Sx G l mX1_rulerOf 4 0 0 34 [(5, .int y), (4, .int v4), (3, .int v3), (0, .ref 114), (1, .ref s), (2, .int (nI u))] [] Z R I L post := by
  have hall := hF.all hP
  have hP' := hP
  have hF' := hF
  obtain ⟨f1, f2, f3, f4, f5, f6, f7, f8, f9, f10, f11, f12, f13, f14, f15, f16⟩ := hF'
  obtain ⟨p1, p2, p3, p4, p5, p6, p7, p8, p9⟩ := hP'
  intro k
  induction k with
  | zero => intro j h1 h2; omega
  | succ k ih =>
    intro j h1 h2 h3 I v3 v4 hJ hv3 hv4 y hy
    subst hy
    refine Sx.iload dX1_rulerOf_34 rfl ?_
    refine Sx.aload_n dX1_rulerOf_36 rfl ?_
    refine Sx.getfR dX1_rulerOf_37 lkf_X1_37_1 (o_114 W) (r_114_0 W) ?_
    refine Sx.iconst (v := 0) dX1_rulerOf_40 (by decide) ?_
    refine Sx.callU1 dX1_rulerOf_41 lku_X1_49 (rcv_6 (o_103 W)) (by decide) (by decide) (Nat.le_of_ble_eq_true rfl) rfl rfl (c_rg (w_103r W) rC6 (by decide) (by rw [hJ _ (by decide) (by decide)]; exact hp) 0 rfl (by decide) ?_)
    refine Sx.icmp_ge (t := 84) dX1_rulerOf_44 (by decide) (fun c44 => ?_) (fun c44 => ?_)
    · refine Sx.iload_n dX1_rulerOf_84 rfl ?_
      refine Sx.iret dX1_rulerOf_85 rfl rfl ?_
      have hj := lp_end rfl (by omega) h1 c44
      subst hj
      rw [hv3]
      exact h I hJ
    · have hlt := lp_lt rfl (by omega) h1 c44
      have hj30 : j < 30 := by omega
      refine Sx.aload_n dX1_rulerOf_47 rfl ?_
      refine Sx.aload_n dX1_rulerOf_48 rfl ?_
      refine Sx.iload dX1_rulerOf_49 rfl ?_
      refine Sx.aload_n dX1_rulerOf_51 rfl ?_
      refine Sx.sipush (v := 139) dX1_rulerOf_52 (by decide) ?_
      refine Sx.callU1 dX1_rulerOf_55 lku_X1_43 (rcv_8 hr.1) (by decide) (by decide) (Nat.le_of_ble_eq_true rfl) rfl rfl (c_sg hr (by rw [hJ _ (by omega) (by omega)]; exact hs) 139 rfl (by decide) (by decide) ?_)
      refine Sx.iload_n dX1_rulerOf_58 rfl ?_
      refine Sx.callV4 dX1_rulerOf_59 lkv_X1_80 (rcv_1 (o_114 W)) (by decide) (by decide) (Nat.le_of_ble_eq_true rfl) rfl rfl (c_light W (by rw [hJ _ (by decide) (by decide)]; exact hp) hP hr (by rw [hJ _ (by omega) (by omega)]; exact hs) hx (hL.keep (fun q h1 h2 => hJ q (by omega) (by omega))) hF hj30 f8 hu (fun I1 hJ1 => ?_))
      refine Sx.ist (fun zz => [(6, .int zz), (5, .int (nI j)), (4, .int v4), (3, .int v3), (0, .ref 114), (1, .ref s), (2, .int (nI u))]) dX1_rulerOf_62 (by decide) (fun _ => rfl) (fun x6_62 ex6_62 => ?_)
      have hlof : lofN P w F u j = litN P w F j (F 139) u := by rw [lofN, if_neg (by omega)]
      have hl1 := litN_le P w F j (F 139) u
      have hvl : mval (amn (lofN P w F u) j) (lofN P w F u) ≤ 100 := mval_le (fun d hd => lofN_le hF hd) (by omega)
      refine Sx.iload dX1_rulerOf_64 rfl ?_
      refine Sx.iload dX1_rulerOf_66 rfl ?_
      refine Sx.icmp_ge (t := 78) dX1_rulerOf_68 (by decide) (fun c68 => ?_) (fun c68 => ?_)
      · have hge : ¬ litN P w F j (F 139) u < mval (amn (lofN P w F u) j) (lofN P w F u) := fun q => by
          rw [ex6_62, hv4] at c68
          exact absurd ((n_lt (by omega) (by omega)).mpr q) (Int32.not_lt.mpr c68)
        have am2 : amn (lofN P w F u) (j + 1) = amn (lofN P w F u) j := amn_no (by rw [hlof]; exact hge) (by rw [hlof]; omega)
        refine Sx.iincN (fun zz => [(5, .int zz), (6, .int x6_62), (4, .int v4), (3, .int v3), (0, .ref 114), (1, .ref s), (2, .int (nI u))]) dX1_rulerOf_78 rfl (by decide) (fun _ => rfl) (fun x5_78 ex5_78 => ?_)
        refine Sx.goto (t := 34) dX1_rulerOf_81 (by decide) ?_
        refine Sx.sub' [(5, .int x5_78), (4, .int v4), (3, .int v3), (0, .ref 114), (1, .ref s), (2, .int (nI u))] rfl ?_
        exact ih (j + 1) (by omega) (by omega) (by omega) I1 _ _ (fun q h1 h2 => (hJ1 q h1 h2).trans (hJ q h1 h2)) (by rw [hv3, am2]) (by rw [hv4, am2]) _ (by rw [ex5_78]; exact nI_1 _)
      · have hlo : litN P w F j (F 139) u < mval (amn (lofN P w F u) j) (lofN P w F u) := by
          rw [ex6_62, hv4] at c68
          exact (n_lt (by omega) (by omega)).mp (Int32.not_le.mp c68)
        have am1 : amn (lofN P w F u) (j + 1) = j + 1 := amn_yes (by rw [hlof]; exact hlo)
        refine Sx.iload dX1_rulerOf_71 rfl ?_
        refine Sx.ist (fun zz => [(4, .int zz), (6, .int x6_62), (5, .int (nI j)), (3, .int v3), (0, .ref 114), (1, .ref s), (2, .int (nI u))]) dX1_rulerOf_73 (by decide) (fun _ => rfl) (fun x4_73 ex4_73 => ?_)
        refine Sx.iload dX1_rulerOf_75 rfl ?_
        refine Sx.ist_n (fun zz => [(3, .int zz), (4, .int x4_73), (6, .int x6_62), (5, .int (nI j)), (0, .ref 114), (1, .ref s), (2, .int (nI u))]) dX1_rulerOf_77 (by decide) (fun _ => rfl) (fun x3_77 ex3_77 => ?_)
        refine Sx.iincN (fun zz => [(5, .int zz), (3, .int x3_77), (4, .int x4_73), (6, .int x6_62), (0, .ref 114), (1, .ref s), (2, .int (nI u))]) dX1_rulerOf_78 rfl (by decide) (fun _ => rfl) (fun x5_78 ex5_78 => ?_)
        refine Sx.goto (t := 34) dX1_rulerOf_81 (by decide) ?_
        refine Sx.sub' [(5, .int x5_78), (4, .int x4_73), (3, .int x3_77), (0, .ref 114), (1, .ref s), (2, .int (nI u))] rfl ?_
        exact ih (j + 1) (by omega) (by omega) (by omega) I1 _ _ (fun q h1 h2 => (hJ1 q h1 h2).trans (hJ q h1 h2)) (by rw [ex3_77, am1, n_m1]) (by rw [ex4_73, ex6_62, am1, ← hlof]; rfl) _ (by rw [ex5_78]; exact nI_1 _)
set_option maxRecDepth 20000 in
set_option maxHeartbeats 1000000 in
theorem c_ruler {G : Gt} {l : Launch} {Z : Zt} {R : Rt} {I : It} {L : Lt} {post : Pt'} {s : Nat} {P F : Nat → Nat} {w : Wt} {u : Nat} (W : WF Z R) (hp : rep 36 (I 104) P) (hP : PB P) (hr : rwo Z R s 8 146) (hs : rs (I (s + 1)) F) (hx : 119 ≤ s ∧ s < 232) (hL : LW R I w) (hF : SB P F) (hu : u ≤ 6) (h : ∀ I', (∀ q, q ≠ 116 → q ≠ 118 → I' q = I q) → post (some (.int (nI (amn (lofN P w F u) (P 0)) - 1))) Z R I' L) : Cx G l mX1_rulerOf 4 0 0 [.ref 114, .ref s, .int (nI u)] Z R I L post := by
  refine Cx.of (by decide +kernel) (by exact Nat.le_of_ble_eq_true rfl) ?_
  have hall := hF.all hP
  have hP' := hP
  have hF' := hF
  obtain ⟨f1, f2, f3, f4, f5, f6, f7, f8, f9, f10, f11, f12, f13, f14, f15, f16⟩ := hF'
  obtain ⟨p1, p2, p3, p4, p5, p6, p7, p8, p9⟩ := hP'
  have hdk : dkN F (F 145) = amn (lofN P w F u) (F 145) := by
    rw [dkN_amn]
    exact amn_congr _ (fun i hi => by rw [lofN, if_pos hi])
  have hdl := dkN_le F (F 145)
  refine Sx.aload_n dX1_rulerOf_0 rfl ?_
  refine Sx.callV0 dX1_rulerOf_1 lkv_X1_84 (rcv_8 hr.1) (by decide) (by decide) (Nat.le_of_ble_eq_true rfl) rfl rfl (c_X8_dark hr hs (fun j hj => by have := hall j hj; omega) (by omega) ?_)
  refine Sx.ist_n (fun zz => [(3, .int zz), (0, .ref 114), (1, .ref s), (2, .int (nI u))]) dX1_rulerOf_4 (by decide) (fun _ => rfl) (fun x3_4 ex3_4 => ?_)
  refine Sx.iload_n dX1_rulerOf_5 rfl ?_
  refine Sx.iconst (v := (-1)) dX1_rulerOf_6 (by decide) ?_
  refine Sx.icmp_ne (t := 15) dX1_rulerOf_7 (by decide) (fun c7 => ?_) (fun c7 => ?_)
  · have hnz : ¬ dkN F (F 145) = 0 := fun q => c7 (by rw [ex3_4, q]; decide)
    have hm1 : nI (dkN F (F 145)) - 1 = nI (dkN F (F 145) - 1) := n_sub (a := dkN F (F 145)) (b := 1) (by omega)
    refine Sx.aload_n dX1_rulerOf_15 rfl ?_
    refine Sx.bipush (v := 18) dX1_rulerOf_16 (by decide) ?_
    refine Sx.iload_n dX1_rulerOf_18 rfl ?_
    refine Sx.iadd dX1_rulerOf_19 ?_
    refine Sx.callU1 dX1_rulerOf_20 lku_X1_43 (rcv_8 hr.1) (by decide) (by decide) (Nat.le_of_ble_eq_true rfl) rfl rfl (c_sg hr hs (18 + (dkN F (F 145) - 1)) (by rw [ex3_4, hm1]; exact nI_add 18 _) (by omega) (by omega) ?_)
    refine Sx.ist (fun zz => [(4, .int zz), (3, .int x3_4), (0, .ref 114), (1, .ref s), (2, .int (nI u))]) dX1_rulerOf_23 (by decide) (fun _ => rfl) (fun x4_23 ex4_23 => ?_)
    refine Sx.aload_n dX1_rulerOf_25 rfl ?_
    refine Sx.sipush (v := 145) dX1_rulerOf_26 (by decide) ?_
    refine Sx.callU1 dX1_rulerOf_29 lku_X1_43 (rcv_8 hr.1) (by decide) (by decide) (Nat.le_of_ble_eq_true rfl) rfl rfl (c_sg hr hs 145 rfl (by decide) (by decide) ?_)
    refine Sx.ist (fun zz => [(5, .int zz), (4, .int x4_23), (3, .int x3_4), (0, .ref 114), (1, .ref s), (2, .int (nI u))]) dX1_rulerOf_32 (by decide) (fun _ => rfl) (fun x5_32 ex5_32 => ?_)
    refine Sx.sub' [(5, .int x5_32), (4, .int x4_23), (3, .int x3_4), (0, .ref 114), (1, .ref s), (2, .int (nI u))] rfl ?_
    exact l_ruler W hp hP hr hs hx hL hF hu h (P 0 + 1) (F 145) (by omega) (by omega) (Nat.le_refl _) I _ _ (fun _ _ _ => rfl) (by rw [ex3_4, hdk]) (by rw [ex4_23, ← hdk]; unfold mval; rw [if_neg hnz]; unfold lofN; rw [if_pos (by omega)]) _ ex5_32
  · have hz : dkN F (F 145) = 0 := by
      rcases Nat.eq_zero_or_pos (dkN F (F 145)) with q | q
      · exact q
      · exfalso
        rw [ex3_4, show nI (dkN F (F 145)) - 1 = nI (dkN F (F 145) - 1) from n_sub (a := dkN F (F 145)) (b := 1) q] at c7
        have := congrArg Int32.toInt c7
        rw [nI_toInt (by omega), show (-1 : Int32).toInt = -1 by decide] at this
        omega
    refine Sx.bipush (v := 100) dX1_rulerOf_10 (by decide) ?_
    refine Sx.goto (t := 23) dX1_rulerOf_12 (by decide) ?_
    refine Sx.ist (fun zz => [(4, .int zz), (3, .int x3_4), (0, .ref 114), (1, .ref s), (2, .int (nI u))]) dX1_rulerOf_23 (by decide) (fun _ => rfl) (fun x4_23 ex4_23 => ?_)
    refine Sx.aload_n dX1_rulerOf_25 rfl ?_
    refine Sx.sipush (v := 145) dX1_rulerOf_26 (by decide) ?_
    refine Sx.callU1 dX1_rulerOf_29 lku_X1_43 (rcv_8 hr.1) (by decide) (by decide) (Nat.le_of_ble_eq_true rfl) rfl rfl (c_sg hr hs 145 rfl (by decide) (by decide) ?_)
    refine Sx.ist (fun zz => [(5, .int zz), (4, .int x4_23), (3, .int x3_4), (0, .ref 114), (1, .ref s), (2, .int (nI u))]) dX1_rulerOf_32 (by decide) (fun _ => rfl) (fun x5_32 ex5_32 => ?_)
    refine Sx.sub' [(5, .int x5_32), (4, .int x4_23), (3, .int x3_4), (0, .ref 114), (1, .ref s), (2, .int (nI u))] rfl ?_
    exact l_ruler W hp hP hr hs hx hL hF hu h (P 0 + 1) (F 145) (by omega) (by omega) (Nat.le_refl _) I _ _ (fun _ _ _ => rfl) (by rw [ex3_4, hdk]) (by rw [ex4_23, ← hdk]; unfold mval; rw [if_pos hz]; rfl) _ ex5_32
