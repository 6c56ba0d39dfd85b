/-! the class: habits -/
def mxN (f : Nat → Nat) : Nat → Nat
  | 0 => 0
  | j + 1 => max (mxN f j) (f j)
theorem mx_ge {f : Nat → Nat} : ∀ j i, i < j → f i ≤ mxN f j
  | 0, i => fun h => absurd h (Nat.not_lt_zero i)
  | j + 1, i => fun h => by
    rw [mxN]
    by_cases c : i = j
    · rw [c]; omega
    · have := mx_ge (f := f) j i (by omega); omega
theorem mx_le {f : Nat → Nat} {b : Nat} : ∀ j, (∀ i, i < j → f i ≤ b) → mxN f j ≤ b
  | 0 => fun _ => Nat.zero_le _
  | j + 1 => fun h => by
    have := mx_le (f := f) j (fun i hi => h i (by omega))
    have := h j (by omega)
    rw [mxN]
    omega
theorem hb_tb (x p : Nat) : hbN x p = x.testBit p := by
  rw [Nat.testBit_eq_decide_div_mod_eq]; rfl
theorem bt_bit (f : Nat → Bool) (p : Nat) : ∀ j, hbN (btN f j) p = (decide (p < j) && f p)
  | 0 => by rw [hb_tb]; simp [btN]
  | j + 1 => by
    have ih := bt_bit f p j
    rw [hb_tb] at ih
    rw [hb_tb, btN, Nat.testBit_or, ih]
    by_cases c : f j = true
    · rw [if_pos c, Nat.testBit_two_pow]
      by_cases d : p = j
      · subst d; simp [c]
      · have e : decide (p < j) = decide (p < j + 1) := decide_eq_decide.mpr (by omega)
        have e2 : decide (j = p) = false := decide_eq_false (by omega)
        rw [e, e2, Bool.or_false]
    · rw [if_neg c, Nat.zero_testBit, Bool.or_false]
      by_cases d : p = j
      · subst d
        have : f p = false := by simpa using c
        rw [this, Bool.and_false, Bool.and_false]
      · have e : decide (p < j) = decide (p < j + 1) := decide_eq_decide.mpr (by omega)
        rw [e]
theorem cnt_ext {f : Nat → Bool} {K : Nat} : ∀ d, cntB (fun p => decide (p < K) && f p) (K + d) = cntB (fun p => decide (p < K) && f p) K
  | 0 => rfl
  | d + 1 => by
    rw [show K + (d + 1) = K + d + 1 by omega, cntB, cnt_ext d, if_neg]
    · rfl
    · have : decide (K + d < K) = false := decide_eq_false (by omega)
      simp [this]
theorem cnt_cg {f g : Nat → Bool} : ∀ j, (∀ i, i < j → f i = g i) → cntB f j = cntB g j
  | 0 => fun _ => rfl
  | j + 1 => fun h => by rw [cntB, cntB, cnt_cg j (fun i hi => h i (by omega)), h j (by omega)]
theorem pop_cnt (x : Nat) : popN x = cntB (fun p => hbN x p) 6 := by
  have e : ∀ y : Nat, (if (y % 2 == 1) = true then 1 else 0) = y % 2 := fun y => by
    rcases (show y % 2 = 0 ∨ y % 2 = 1 by omega) with h | h <;> rw [h] <;> rfl
  unfold popN cntB cntB cntB cntB cntB cntB cntB hbN
  rw [e, e, e, e, e, e]
  simp
theorem pop_bt {f : Nat → Bool} {K : Nat} (hK : K ≤ 6) : popN (btN f K) = cntB f K := by
  rw [pop_cnt, cnt_cg 6 (fun i _ => bt_bit f i K), show 6 = K + (6 - K) by omega, cnt_ext]
  exact cnt_cg K (fun i hi => by rw [decide_eq_true hi, Bool.true_and])
theorem nth_z {f : Nat → Bool} {i : Int} {K : Nat} : ∀ d k n, K ≤ k → nthB (fun p => decide (p < K) && f p) i d k n = -1
  | 0, _, _ => fun _ => rfl
  | d + 1, k, n => fun h => by
    have : decide (k < K) = false := decide_eq_false (by omega)
    rw [nthB_s, if_neg (by simp [this])]
    exact nth_z d (k + 1) n (by omega)
theorem nth_ext {f : Nat → Bool} {i : Int} {K : Nat} : ∀ r d k n, k + r = K → nthB (fun p => decide (p < K) && f p) i (r + d) k n = nthB f i r k n
  | 0, d, k, n => fun h => by rw [Nat.zero_add, nthB_0]; exact nth_z d k n (by omega)
  | r + 1, d, k, n => fun h => by
    have e : (decide (k < K) && f k) = f k := by rw [decide_eq_true (show k < K by omega), Bool.true_and]
    rw [show r + 1 + d = r + d + 1 by omega, nthB_s, nthB_s, nth_ext r d (k + 1) (n + 1) (by omega), nth_ext r d (k + 1) n (by omega), e]
theorem nth_neg {f : Nat → Bool} {i : Int} (h : i < 0) : ∀ r k n, nthB f i r k n = -1
  | 0, _, _ => rfl
  | r + 1, k, n => by
    rw [nthB_s, nth_neg h r, nth_neg h r]
    split
    · rw [if_neg (by omega)]
    · rfl
theorem nth_cg {f g : Nat → Bool} {i : Int} (h : ∀ k, f k = g k) : ∀ r k n, nthB f i r k n = nthB g i r k n
  | 0, _, _ => rfl
  | r + 1, k, n => by rw [nthB_s, nthB_s, nth_cg h r, nth_cg h r, h k]
set_option maxRecDepth 20000 in
set_option maxHeartbeats 1000000 in
theorem l_cpob {G : Gt} {l : Launch} {Z : Zt} {R : Rt} {I : It} {L : Lt} {post : Pt'} {b : Nat} {y : Int32} {FF : Int} (hb : b < 64) (h : post (some (.int (iI FF))) Z R I L) :
    ∀ (r k sn : Nat), k ≤ 6 → 6 < k + r → sn ≤ k → nthB (fun p => hbN b p) y.toInt (6 - k) k sn = FF → Sx G l mX11_placeOfBit 2 0 0 4 [(3, .int (nI k)), (2, .int (nI sn)), (1, .int y), (0, .int (nI b))] [] Z R I L post := by
  have hy := x_rg y
  intro r
  induction r with
  | zero => intro k sn h1 h2; omega
  | succ r ih =>
    intro k sn h1 h2 hsn hF
    refine Sx.iload_n dX11_placeOfBit_4 rfl ?_
    refine Sx.bipush (v := (nI 6)) dX11_placeOfBit_5 (by decide) ?_
    refine Sx.icmp_geV (t := 34) dX11_placeOfBit_7 (by decide) (vN (by omega)) (vN (by decide)) (fun c7 => ?_) (fun c7 => ?_)
    · refine Sx.iconst (v := (iI (-1))) dX11_placeOfBit_34 (by decide) ?_
      refine Sx.iret dX11_placeOfBit_35 rfl rfl ?_
      have hk6 : k = 6 := by omega
      subst hk6
      exact pXX (by rw [← hF]; rfl) h
    · refine Sx.iload_n dX11_placeOfBit_10 rfl ?_
      refine Sx.iload_n dX11_placeOfBit_11 rfl ?_
      refine Sx.callS2 dX11_placeOfBit_12 lkc_X11_322  (by decide) (by decide) (Nat.le_of_ble_eq_true rfl) rfl rfl (c_hasBit (by omega) (by omega) ?_)
      refine Sx.if_eqB (t := 28) dX11_placeOfBit_15 (by decide) (fun c15 => ?_) (fun c15 => ?_)
      · refine Sx.iinc (v := (nI (k + 1))) (lv' := [(3, .int (nI (k + 1))), (2, .int (nI sn)), (1, .int y), (0, .int (nI b))]) dX11_placeOfBit_28 rfl (nI_add k 1) (by decide) rfl ?_
        refine Sx.goto (t := 4) dX11_placeOfBit_31 (by decide) ?_
        refine Sx.sub' [(3, .int (nI (k + 1))), (2, .int (nI (sn))), (1, .int y), (0, .int (nI b))] rfl ?_
        refine ih (k + 1) (sn) (by omega) (by omega) (by omega) ?_
        rw [← hF, show 6 - k = 6 - (k + 1) + 1 by omega, nthB_s]
        exact (if_neg (by simp_all)).symm
      · refine Sx.iload_n dX11_placeOfBit_18 rfl ?_
        refine Sx.iload_n dX11_placeOfBit_19 rfl ?_
        refine Sx.icmp_neV (t := 25) dX11_placeOfBit_20 (by decide) (vN (by omega)) (vX y) (fun c20 => ?_) (fun c20 => ?_)
        · refine Sx.iinc (v := (nI (sn + 1))) (lv' := [(2, .int (nI (sn + 1))), (3, .int (nI k)), (1, .int y), (0, .int (nI b))]) dX11_placeOfBit_25 rfl (nI_add sn 1) (by decide) rfl ?_
          refine Sx.iinc (v := (nI (k + 1))) (lv' := [(3, .int (nI (k + 1))), (2, .int (nI (sn + 1))), (1, .int y), (0, .int (nI b))]) dX11_placeOfBit_28 rfl (nI_add k 1) (by decide) rfl ?_
          refine Sx.goto (t := 4) dX11_placeOfBit_31 (by decide) ?_
          refine Sx.sub' [(3, .int (nI (k + 1))), (2, .int (nI (sn + 1))), (1, .int y), (0, .int (nI b))] rfl ?_
          refine ih (k + 1) (sn + 1) (by omega) (by omega) (by omega) ?_
          rw [← hF, show 6 - k = 6 - (k + 1) + 1 by omega, nthB_s]
          exact ((if_pos (by assumption)).trans (if_neg (by omega))).symm
        · refine Sx.iload_n dX11_placeOfBit_23 rfl ?_
          refine Sx.iret dX11_placeOfBit_24 rfl rfl ?_
          have e : FF = (k : Int) := by
            rw [← hF, show 6 - k = 6 - (k + 1) + 1 by omega, nthB_s]
            exact (if_pos (by assumption)).trans (if_pos (by omega))
          exact pXX (by rw [e, ← nI_iI]) h
set_option maxRecDepth 20000 in
set_option maxHeartbeats 1000000 in
theorem d_pob {G : Gt} {l : Launch} {Z : Zt} {R : Rt} {I : It} {L : Lt} {post : Pt'} {b : Nat} {y : Int32} (hb : b < 64) (h : post (some (.int (iI (nthB (fun p => hbN b p) y.toInt 6 0 0)))) Z R I L) : Cx G l mX11_placeOfBit 2 0 0 [.int (nI b), .int y] Z R I L post := by
  refine Cx.of (by decide +kernel) (by exact Nat.le_of_ble_eq_true rfl) ?_
  refine Sx.iconst (v := (nI 0)) dX11_placeOfBit_0 (by decide) ?_
  refine Sx.istore_n (lv' := [(2, .int (nI 0)), (0, .int (nI b)), (1, .int y)]) dX11_placeOfBit_1 (by decide) rfl ?_
  refine Sx.iconst (v := (nI 0)) dX11_placeOfBit_2 (by decide) ?_
  refine Sx.istore_n (lv' := [(3, .int (nI 0)), (2, .int (nI 0)), (0, .int (nI b)), (1, .int y)]) dX11_placeOfBit_3 (by decide) rfl ?_
  refine Sx.sub' [(3, .int (nI 0)), (2, .int (nI 0)), (1, .int y), (0, .int (nI b))] rfl ?_
  exact l_cpob hb h 7 0 0 (by omega) (by omega) (by omega) rfl
set_option maxRecDepth 20000 in
set_option maxHeartbeats 1000000 in
theorem l_cph {G : Gt} {l : Launch} {Z : Zt} {R : Rt} {I : It} {L : Lt} {post : Pt'} {V : Vt} {p : Nat} (W : WF Z R) (C : CI V R I L) (hb : V 0 1 ≤ 4 ∧ V 0 3 ≤ 4) (hH : HV V) (hK : PK (V 2)) (hs : SI V) (hp : p < V 2 35) (h : ∀ I', CI V R I' L → OW I I' → post (some (.int (nI (btN (fitB V p) (V 2 34))))) Z R I' L) :
    ∀ (r i : Nat), i ≤ V 0 7 → V 0 7 < i + r → ∀ m, m = mxN (V 6) i → Sx G l mX10_possibleHabits 8 0 0 4 [(3, .int (nI i)), (2, .int (nI m)), (1, .int (nI p)), (0, .ref 136)] [] Z R I L post := by
  have hs1 := hs.1
  intro r
  induction r with
  | zero => intro i h1 h2; omega
  | succ r ih =>
    intro i h1 h2 m hm
    have hm60 : m ≤ 60 := by rw [hm]; exact mx_le _ (fun z hz => (hs.2 z (by omega)).2.1)
    have hm60 : m ≤ 60 := by rw [hm]; exact mx_le _ (fun z hz => (hs.2 z (by omega)).2.1)
    refine Sx.iload_n dX10_possibleHabits_4 rfl ?_
    refine Sx.aload_n dX10_possibleHabits_5 rfl ?_
    refine Sx.getfV (v := (nI (V 0 7))) dX10_possibleHabits_6 lkf_X10_36_10 (o_136 W) C.2.2.2.2.2.2.2.2.2.2.1 ?_
    refine Sx.icmp_geV (t := 31) dX10_possibleHabits_9 (by decide) (vN (by omega)) (vN (by omega)) (fun c9 => ?_) (fun c9 => ?_)
    · have hj : V 0 7 = i := by omega
      subst hj
      refine Sx.aload_n dX10_possibleHabits_31 rfl ?_
      refine Sx.iload_n dX10_possibleHabits_32 rfl ?_
      refine Sx.iload_n dX10_possibleHabits_33 rfl ?_
      refine Sx.callV2 dX10_possibleHabits_34 lkv_X10_62 (rcv_10 (o_136 W)) (by decide) (by decide) (Nat.le_of_ble_eq_true rfl) rfl rfl (d_followAll W C hb hH hK hs hp (by omega) (fun z hz => by rw [hm]; exact mx_ge (f := V 6) _ z hz) (fun I1 C1 o1 hT => ?_))
      refine Sx.iret dX10_possibleHabits_37 rfl rfl ?_
      exact h I1 C1 o1
    · have hv6 := (hs.2 i (by omega)).2.1
      refine Sx.iload_n dX10_possibleHabits_12 rfl ?_
      refine Sx.aload_n dX10_possibleHabits_13 rfl ?_
      refine Sx.getfR dX10_possibleHabits_14 lkf_X10_23_10 (o_136 W) (r_136_3 W) ?_
      refine Sx.iload_n dX10_possibleHabits_17 rfl ?_
      refine Sx.callV1 dX10_possibleHabits_18 lkv_X10_52 (rcv_7 (o_139 W)) (by decide) (by decide) (Nat.le_of_ble_eq_true rfl) rfl rfl (d_rget (w_139r W) (by unfold rowC; decide) (by decide) (k := i) (v := nI (V 6 i)) (by omega) (C.2.2.2.2.2.2.2.2.2.2.2 i (by omega)).1 ?_)
      refine Sx.mmax dX10_possibleHabits_21 lkm_X10_56 (by decide) (Nat.le_of_ble_eq_true rfl) ?_
      refine Sx.top (n_max (by omega) (by omega)) ?_
      refine Sx.istore_n (lv' := [(2, .int (nI (max m (V 6 i)))), (3, .int (nI i)), (1, .int (nI p)), (0, .ref 136)]) dX10_possibleHabits_24 (by decide) rfl ?_
      refine Sx.iinc (v := (nI (i + 1))) (lv' := [(3, .int (nI (i + 1))), (2, .int (nI (max m (V 6 i)))), (1, .int (nI p)), (0, .ref 136)]) dX10_possibleHabits_25 rfl (nI_add i 1) (by decide) rfl ?_
      refine Sx.goto (t := 4) dX10_possibleHabits_28 (by decide) ?_
      have hm60 : m ≤ 60 := by rw [hm]; exact mx_le _ (fun z hz => (hs.2 z (by omega)).2.1)
      refine Sx.sub' [(3, .int (nI (i + 1))), (2, .int (nI (max m (V 6 i)))), (1, .int (nI p)), (0, .ref 136)] rfl ?_
      exact ih (i + 1) (by omega) (by omega) _ (by rw [mxN, ← hm])
set_option maxRecDepth 20000 in
set_option maxHeartbeats 1000000 in
theorem d_possible {G : Gt} {l : Launch} {Z : Zt} {R : Rt} {I : It} {L : Lt} {post : Pt'} {V : Vt} {p : Nat} (W : WF Z R) (C : CI V R I L) (hb : V 0 1 ≤ 4 ∧ V 0 3 ≤ 4) (hH : HV V) (hK : PK (V 2)) (hs : SI V) (hp : p < V 2 35) (h : ∀ I', CI V R I' L → OW I I' → post (some (.int (nI (btN (fitB V p) (V 2 34))))) Z R I' L) : Cx G l mX10_possibleHabits 8 0 0 [.ref 136, .int (nI p)] Z R I L post := by
  refine Cx.of (by decide +kernel) (by exact Nat.le_of_ble_eq_true rfl) ?_
  refine Sx.iconst (v := (nI 0)) dX10_possibleHabits_0 (by decide) ?_
  refine Sx.istore_n (lv' := [(2, .int (nI 0)), (0, .ref 136), (1, .int (nI p))]) dX10_possibleHabits_1 (by decide) rfl ?_
  refine Sx.iconst (v := (nI 0)) dX10_possibleHabits_2 (by decide) ?_
  refine Sx.istore_n (lv' := [(3, .int (nI 0)), (2, .int (nI 0)), (0, .ref 136), (1, .int (nI p))]) dX10_possibleHabits_3 (by decide) rfl ?_
  refine Sx.sub' [(3, .int (nI 0)), (2, .int (nI 0)), (1, .int (nI p)), (0, .ref 136)] rfl ?_
  exact l_cph W C hb hH hK hs hp h (V 0 7 + 1) 0 (by omega) (by omega) 0 rfl
set_option maxRecDepth 20000 in
set_option maxHeartbeats 1000000 in
theorem d_habits {G : Gt} {l : Launch} {Z : Zt} {R : Rt} {I : It} {L : Lt} {post : Pt'} {V : Vt} {N : Nat} {x y : Int32} (W : WF Z R) (C : CI V R I L) (hG : GG N V) (hN : N < 2147483647) (h : CQ post Z R I L V (habR V x y)) : Cx G l mX11_habits 9 0 0 [.ref 100, .int x, .int y] Z R I L post := by
  refine Cx.of (by decide +kernel) (by exact Nat.le_of_ble_eq_true rfl) ?_
  have hB := hG.1.bnd
  have hp6 := hG.1.p
  have hb := hG.1.b
  have h00 := hG.1.1.1
  refine Sx.aload_n dX11_habits_0 rfl ?_
  refine Sx.getfR dX11_habits_1 lkf_X11_19_11 (o_100 W) (r_100_1 W) ?_
  refine Sx.iload_n dX11_habits_4 rfl ?_
  refine Sx.callV1 dX11_habits_5 lkv_X11_189 (rcv_6 (o_103 W)) (by decide) (by decide) (Nat.le_of_ble_eq_true rfl) rfl rfl (d_isPerson W C.2.1 (by omega) ?_)
  refine Sx.if_neD (t := 13) dX11_habits_8 (by decide) (fun c8 => ?_) (fun c8 => ?_)
  · have hH := hG.1.hv (by omega)
    have hK := (hG.2.2 (by omega)).2
    have hs := hG.1.si
    obtain ⟨p, rfl, hp⟩ := x_ex (x := x) (n := V 2 35) ⟨by omega, by omega⟩
    obtain ⟨p1, p2, p3, p4, p5, p6, p7, p8, p9⟩ := id hH.2.2.2.1
    have hbl : btN (fitB V p) (V 2 34) < 2 ^ 6 := Nat.lt_of_lt_of_le (btN_lt _ _) (Nat.pow_le_pow_right (by decide) p6)
    have tp := x_toN (p := p) (by omega)
    have hy := x_rg y
    refine Sx.sub' [(0, .ref 100), (1, .int (nI p)), (2, .int y)] rfl ?_
    refine Sx.aload_n dX11_habits_13 rfl ?_
    refine Sx.getfR dX11_habits_14 lkf_X11_75_11 (o_100 W) (r_100_9 W) ?_
    refine Sx.iload_n dX11_habits_17 rfl ?_
    refine Sx.callV1 dX11_habits_18 lkv_X11_311 (rcv_10 (o_136 W)) (by decide) (by decide) (Nat.le_of_ble_eq_true rfl) rfl rfl (d_possible W C hb hH hK hs (by omega) (fun I1 C1 o1 => ?_))
    refine Sx.istore_n (lv' := [(3, .int (nI (btN (fitB V p) (V 2 34)))), (0, .ref 100), (1, .int (nI p)), (2, .int y)]) dX11_habits_21 (by decide) rfl ?_
    refine Sx.iload_n dX11_habits_22 rfl ?_
    refine Sx.iconst (v := (iI (-1))) dX11_habits_23 (by decide) ?_
    refine Sx.icmp_neV (t := 34) dX11_habits_24 (by decide) (vX y) (vZ (by decide)) (fun c24 => ?_) (fun c24 => ?_)
    · refine Sx.iload_n dX11_habits_34 rfl ?_
      refine Sx.iload_n dX11_habits_35 rfl ?_
      refine Sx.callS2 dX11_habits_36 lkc_X11_319  (by decide) (by decide) (Nat.le_of_ble_eq_true rfl) rfl rfl (d_pob (by omega) ?_)
      refine Sx.iret dX11_habits_39 rfl rfl ?_
      have e : nthB (fun q => hbN (btN (fitB V p) (V 2 34)) q) y.toInt 6 0 0 = nthB (fitB V p) y.toInt (V 2 34) 0 0 := by
        rw [nth_cg (fun k => bt_bit (fitB V p) k (V 2 34)), show 6 = V 2 34 + (6 - V 2 34) by omega]
        exact nth_ext _ _ _ _ (by omega)
      refine pXX ?_ (h I1 R L C1 o1.cf)
      unfold habR
      by_cases ci : -1 ≤ y.toInt
      · have hc : habC V (nI p) y := ⟨⟨by omega, by omega⟩, by omega⟩
        rw [if_pos hc, if_neg (by omega), xN_n (by omega), e]
      · rw [if_neg (fun z => ci z.2), e, nth_neg (by omega)]; rfl
    · refine Sx.iload_n dX11_habits_27 rfl ?_
      refine Sx.callS1 dX11_habits_28 lkc_X11_314  (by decide) (by decide) (Nat.le_of_ble_eq_true rfl) rfl rfl (k_bitc (x := btN (fitB V p) (V 2 34)) (by omega) ?_)
      refine Sx.goto (t := 39) dX11_habits_31 (by decide) ?_
      refine Sx.iret dX11_habits_39 rfl rfl ?_
      have hc : habC V (nI p) y := ⟨⟨by omega, by omega⟩, by omega⟩
      exact pXX (by unfold habR; rw [if_pos hc, if_pos (by omega), xN_n (by omega), pop_bt p6]) (h I1 R L C1 o1.cf)
  · refine Sx.iconst (v := (iI (-1))) dX11_habits_11 (by decide) ?_
    refine Sx.iret dX11_habits_12 rfl rfl ?_
    have hn : ¬ habC V x y := fun z => by have := z.1; omega
    exact pXX (by unfold habR; rw [if_neg hn]; rfl) (h I R L C (CF.rf R I L))
