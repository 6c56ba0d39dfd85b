/-! places in the constant tables -/
/-- the first place that holds x, by one more; 0 if none does -/
def fst1 (f : Nat → Int32) (x : Int32) : Nat → Nat → Nat
  | 0, _ => 0
  | k + 1, j => if f j = x then j + 1 else fst1 f x k (j + 1)
def lsF (xs : List Int32) : Nat → Int32 := fun i => xs.getD i 0
def plN (xs : List Int32) (x : Int32) : Nat := fst1 (lsF xs) x xs.length 0
theorem fst1_le (f : Nat → Int32) (x : Int32) : ∀ k j, fst1 f x k j = 0 ∨ (j < fst1 f x k j ∧ fst1 f x k j ≤ j + k ∧ f (fst1 f x k j - 1) = x)
  | 0, _ => Or.inl rfl
  | k + 1, j => by
    unfold fst1
    by_cases c : f j = x
    · rw [if_pos c]; exact Or.inr ⟨by omega, by omega, c⟩
    · rw [if_neg c]
      rcases fst1_le f x k (j + 1) with e | ⟨e1, e2, e3⟩
      · exact Or.inl e
      · exact Or.inr ⟨by omega, by omega, e3⟩
set_option maxRecDepth 20000 in
set_option maxHeartbeats 1000000 in
theorem l_pl {G : Gt} {l : Launch} {Z : Zt} {R : Rt} {L : Lt} {post : Pt'} {a : Nat} {r : String × String × String × Nat × List Int32} {x : Int32} {V : Nat} {I0 : It} (hr : stc[a]? = some r) (hk : a < 100) (ht : r.2.2.2.1 = 53) (hn : r.2.2.2.2.length < 1000) (h : ∀ I', I' = I0 → post (some (.int (nI V - 1))) Z R I' L) :
    ∀ (k j : Nat), j ≤ r.2.2.2.2.length → r.2.2.2.2.length < j + k → ∀ (I : It) , (I = I0) → (fst1 (lsF r.2.2.2.2) x (r.2.2.2.2.length - j) j = V) → ∀ (y : Int32), y = nI j → Sx G l mX11_placeIn 1 0 0 8 [(2, .int y), (0, .ref a), (1, .int x)] [] Z R I L post := by
  intro k
  induction k with
  | zero => intro j h1 h2; omega
  | succ k ih =>
    intro j h1 h2 I  hI hV y hy
    subst hy
    refine Sx.iload_n dX11_placeIn_8 rfl ?_
    refine Sx.aload_n dX11_placeIn_9 rfl ?_
    refine Sx.alenS dX11_placeIn_10 hr hk rfl ?_
    refine Sx.icmp_ge (t := 29) dX11_placeIn_11 (by decide) (fun c11 => ?_) (fun c11 => ?_)
    · refine Sx.iconst (v := (-1)) dX11_placeIn_29 (by decide) ?_
      refine Sx.iret dX11_placeIn_30 rfl rfl ?_
      have hj := lp_end (N := r.2.2.2.2.length) rfl (by omega) h1 c11
      rw [hj, Nat.sub_self, fst1] at hV
      rw [← hV] at h
      exact h I hI
    · have hlt := lp_lt (N := r.2.2.2.2.length) rfl (by omega) h1 c11
      refine Sx.aload_n dX11_placeIn_14 rfl ?_
      refine Sx.iload_n dX11_placeIn_15 rfl ?_
      refine Sx.caldS dX11_placeIn_16 hr hk ht (vp_in_nI (by omega) (by omega)) ?_
      refine Sx.iload_n dX11_placeIn_17 rfl ?_
      refine Sx.icmp_ne (t := 23) dX11_placeIn_18 (by decide) (fun c18 => ?_) (fun c18 => ?_)
      · refine Sx.iincN (fun zz => [(2, .int zz), (0, .ref a), (1, .int x)]) dX11_placeIn_23 rfl (by decide) (fun _ => rfl) (fun x2_23 ex2_23 => ?_)
        refine Sx.goto (t := 8) dX11_placeIn_26 (by decide) ?_
        refine Sx.sub' [(2, .int x2_23), (0, .ref a), (1, .int x)] rfl ?_
        refine ih (j + 1) (by omega) (by omega) I hI ?_ _ (by rw [ex2_23]; exact nI_1 j)
        rw [nI_clamp (by omega)] at c18
        rw [show r.2.2.2.2.length - j = (r.2.2.2.2.length - (j + 1)) + 1 by omega, fst1, lsF, if_neg c18] at hV
        exact hV
      · refine Sx.iload_n dX11_placeIn_21 rfl ?_
        refine Sx.iret dX11_placeIn_22 rfl rfl ?_
        rw [nI_clamp (by omega)] at c18
        rw [show r.2.2.2.2.length - j = (r.2.2.2.2.length - (j + 1)) + 1 by omega, fst1, lsF, if_pos c18] at hV
        rw [← hV, n_m1] at h
        exact h I hI
set_option maxRecDepth 20000 in
set_option maxHeartbeats 1000000 in
theorem c_placeIn {G : Gt} {l : Launch} {Z : Zt} {R : Rt} {I : It} {L : Lt} {post : Pt'} {a : Nat} {r : String × String × String × Nat × List Int32} {x : Int32} (hr : stc[a]? = some r) (hk : a < 100) (ht : r.2.2.2.1 = 53) (hn : r.2.2.2.2.length < 1000) (h : post (some (.int (nI (plN r.2.2.2.2 x) - 1))) Z R I L) : Cx G l mX11_placeIn 1 0 0 [.ref a, .int x] Z R I L post := by
  refine Cx.of (by decide +kernel) (by exact Nat.le_of_ble_eq_true rfl) ?_
  refine Sx.aload_n dX11_placeIn_0 rfl ?_
  refine Sx.ifnonnull (t := 6) dX11_placeIn_1 (by decide) ?_
  refine Sx.iconst (v := 0) dX11_placeIn_6 (by decide) ?_
  refine Sx.ist_n (fun zz => [(2, .int zz), (0, .ref a), (1, .int x)]) dX11_placeIn_7 (by decide) (fun _ => rfl) (fun x2_7 ex2_7 => ?_)
  exact l_pl hr hk ht hn (fun I' e => by rw [e]; exact h) (r.2.2.2.2.length + 1) 0 (by omega) (by omega) I rfl (by rw [Nat.sub_zero]; rfl) _ ex2_7
/-- the place of the m-th bit, by one more -/
def pob (x m : Nat) : Nat → Nat → Nat → Nat
  | 0, _, _ => 0
  | k + 1, j, c => if hbN x j = true then (if c = m then j + 1 else pob x m k (j + 1) (c + 1)) else pob x m k (j + 1) c

set_option maxRecDepth 20000 in
set_option maxHeartbeats 1000000 in
theorem l_pob {G : Gt} {l : Launch} {Z : Zt} {R : Rt} {L : Lt} {post : Pt'} {x m V : Nat} {I0 : It} (hx : x < 2 ^ 31) (hm : m < 2 ^ 31) (h : ∀ I', I' = I0 → post (some (.int (nI V - 1))) Z R I' L) :
    ∀ (k j : Nat), j ≤ 6 → 6 < j + k → ∀ (I : It) (c : Nat), (I = I0) → (c ≤ j) → (pob x m (6 - j) j c = V) → ∀ (y : Int32), y = nI j → Sx G l mX11_placeOfBit 2 0 0 4 [(3, .int y), (2, .int (nI c)), (0, .int (nI x)), (1, .int (nI m))] [] Z R I L post := by
  intro k
  induction k with
  | zero => intro j h1 h2; omega
  | succ k ih =>
    intro j h1 h2 I c hI hc hV y hy
    subst hy
    refine Sx.iload_n dX11_placeOfBit_4 rfl ?_
    refine Sx.bipush (v := 6) dX11_placeOfBit_5 (by decide) ?_
    refine Sx.icmp_ge (t := 34) dX11_placeOfBit_7 (by decide) (fun c7 => ?_) (fun c7 => ?_)
    · refine Sx.iconst (v := (-1)) dX11_placeOfBit_34 (by decide) ?_
      refine Sx.iret dX11_placeOfBit_35 rfl rfl ?_
      have hj := lp_end (N := 6) rfl (by decide) h1 c7
      subst hj
      rw [Nat.sub_self, pob] at hV
      rw [← hV] at h
      exact h I hI
    · have hlt := lp_lt (N := 6) rfl (by decide) h1 c7
      refine Sx.iload_n dX11_placeOfBit_10 rfl ?_
      refine Sx.iload_n dX11_placeOfBit_11 rfl ?_
      refine Sx.callS2 dX11_placeOfBit_12 lkc_X11_322  (by decide) (by decide) (Nat.le_of_ble_eq_true rfl) rfl rfl (c_hasBit hx (by omega) ?_)
      refine Sx.if_eq (t := 28) dX11_placeOfBit_15 (by decide) (fun c15 => ?_) (fun c15 => ?_)
      · refine Sx.iincN (fun zz => [(3, .int zz), (2, .int (nI c)), (0, .int (nI x)), (1, .int (nI m))]) dX11_placeOfBit_28 rfl (by decide) (fun _ => rfl) (fun x3_28 ex3_28 => ?_)
        refine Sx.goto (t := 4) dX11_placeOfBit_31 (by decide) ?_
        refine Sx.sub' [(3, .int x3_28), (2, .int (nI c)), (0, .int (nI x)), (1, .int (nI m))] rfl ?_
        have hno := b2i_0.mp c15
        rw [show 6 - j = (6 - (j + 1)) + 1 by omega, pob, if_neg (by rw [hno]; decide)] at hV
        exact ih (j + 1) (by omega) (by omega) I c hI (by omega) hV _ (by rw [ex3_28]; exact nI_1 j)
      · refine Sx.iload_n dX11_placeOfBit_18 rfl ?_
        refine Sx.iload_n dX11_placeOfBit_19 rfl ?_
        refine Sx.icmp_ne (t := 25) dX11_placeOfBit_20 (by decide) (fun c20 => ?_) (fun c20 => ?_)
        · refine Sx.iincN (fun zz => [(2, .int zz), (3, .int (nI j)), (0, .int (nI x)), (1, .int (nI m))]) dX11_placeOfBit_25 rfl (by decide) (fun _ => rfl) (fun x2_25 ex2_25 => ?_)
          refine Sx.iincN (fun zz => [(3, .int zz), (2, .int x2_25), (0, .int (nI x)), (1, .int (nI m))]) dX11_placeOfBit_28 rfl (by decide) (fun _ => rfl) (fun x3_28 ex3_28 => ?_)
          refine Sx.goto (t := 4) dX11_placeOfBit_31 (by decide) ?_
          refine Sx.sub' [(3, .int x3_28), (2, .int (nI (c + 1))), (0, .int (nI x)), (1, .int (nI m))] (by rw [← nI_1, ← show x2_25 = nI c + 1 from ex2_25]; rfl) ?_
          have hyes := b2i_ne.mp c15
          have hcm : ¬ c = m := fun q => c20 (by rw [q])
          rw [show 6 - j = (6 - (j + 1)) + 1 by omega, pob, if_pos hyes, if_neg hcm] at hV
          exact ih (j + 1) (by omega) (by omega) I (c + 1) hI (by omega) hV _ (by rw [ex3_28]; exact nI_1 j)
        · refine Sx.iload_n dX11_placeOfBit_23 rfl ?_
          refine Sx.iret dX11_placeOfBit_24 rfl rfl ?_
          have hyes := b2i_ne.mp c15
          have hcm : c = m := (n_eq (by omega) (by omega)).mp c20
          rw [show 6 - j = (6 - (j + 1)) + 1 by omega, pob, if_pos hyes, if_pos hcm] at hV
          rw [← hV, n_m1] at h
          exact h I hI
set_option maxRecDepth 20000 in
set_option maxHeartbeats 1000000 in
theorem c_pob {G : Gt} {l : Launch} {Z : Zt} {R : Rt} {I : It} {L : Lt} {post : Pt'} {x m : Nat} (hx : x < 2 ^ 31) (hm : m < 2 ^ 31) (h : post (some (.int (nI (pob x m 6 0 0) - 1))) Z R I L) : Cx G l mX11_placeOfBit 2 0 0 [.int (nI x), .int (nI m)] Z R I L post := by
  refine Cx.of (by decide +kernel) (by exact Nat.le_of_ble_eq_true rfl) ?_
  refine Sx.iconst (v := 0) dX11_placeOfBit_0 (by decide) ?_
  refine Sx.ist_n (fun zz => [(2, .int zz), (0, .int (nI x)), (1, .int (nI m))]) dX11_placeOfBit_1 (by decide) (fun _ => rfl) (fun x2_1 ex2_1 => ?_)
  refine Sx.iconst (v := 0) dX11_placeOfBit_2 (by decide) ?_
  refine Sx.ist_n (fun zz => [(3, .int zz), (2, .int x2_1), (0, .int (nI x)), (1, .int (nI m))]) dX11_placeOfBit_3 (by decide) (fun _ => rfl) (fun x3_3 ex3_3 => ?_)
  refine Sx.sub' [(3, .int x3_3), (2, .int (nI 0)), (0, .int (nI x)), (1, .int (nI m))] (by rw [show (nI 0 : Int32) = x2_1 from ex2_1.symm]; rfl) ?_
  exact l_pob hx hm (fun I' e => by rw [e]; exact h) 7 0 (by omega) (by omega) I 0 rfl (Nat.le_refl _) rfl _ ex3_3
