/-! places in the constant tables -/
/-- the first place that holds x, by one more; 0 if none does -/
def fst1 (f : Nat → Int32) (x : Int32) : Nat → Nat → Nat
  | 0, _ => 0
  | k + 1, j => if f j = x then j + 1 else fst1 f x k (j + 1)
def lsF (xs : List Int32) : Nat → Int32 := fun i => xs.getD i 0
def plN (xs : List Int32) (x : Int32) : Nat := fst1 (lsF xs) x xs.length 0
theorem fst1_le (f : Nat → Int32) (x : Int32) : ∀ k j, fst1 f x k j = 0 ∨ (j < fst1 f x k j ∧ fst1 f x k j ≤ j + k ∧ f (fst1 f x k j - 1) = x)
  | 0, _ => Or.inl rfl
  | k + 1, j => by
    unfold fst1
    by_cases c : f j = x
    · rw [if_pos c]; exact Or.inr ⟨by omega, by omega, c⟩
    · rw [if_neg c]
      rcases fst1_le f x k (j + 1) with e | ⟨e1, e2, e3⟩
      · exact Or.inl e
      · exact Or.inr ⟨by omega, by omega, e3⟩
set_option maxRecDepth 20000 in
set_option maxHeartbeats 1000000 in
theorem l_pl {G : Gt} {l : Launch} {Z : Zt} {R : Rt} {L : Lt} {post : Pt'} {a : Nat} {r : String × String × String × Nat × List Int32} {x : Int32} {V : Nat} {I0 : It} (hr : stc[a]? = some r) (hk : a < 100) (ht : r.2.2.2.1 = 53) (hn : r.2.2.2.2.length < 1000) (h : ∀ I', I' = I0 → post (some (.int (nI V - 1))) Z R I' L) :
    ∀ (k j : Nat), j ≤ r.2.2.2.2.length → r.2.2.2.2.length < j + k → ∀ (I : It) , (I = I0) → (fst1 (lsF r.2.2.2.2) x (r.2.2.2.2.length - j) j = V) → ∀ (y : Int32), y = nI j → Sx G l mX11_placeIn 1 0 0 8 [(2, .int y), (0, .ref a), (1, .int x)] [] Z R I L post := by
  intro k
  induction k with
  | zero => intro j h1 h2; omega
  | succ k ih =>
    intro j h1 h2 I  hI hV y hy
    subst hy
    refine Sx.iload_n dX11_placeIn_8 rfl ?_
    refine Sx.aload_n dX11_placeIn_9 rfl ?_
    refine Sx.alenS dX11_placeIn_10 hr hk rfl ?_
    refine Sx.icmp_ge (t := 29) dX11_placeIn_11 (by decide) (fun c11 => ?_) (fun c11 => ?_)
    · refine Sx.iconst (v := (-1)) dX11_placeIn_29 (by decide) ?_
      refine Sx.iret dX11_placeIn_30 rfl rfl ?_
      have hj := lp_end (N := r.2.2.2.2.length) rfl (by omega) h1 c11
      rw [hj, Nat.sub_self, fst1] at hV
      rw [← hV] at h
      exact h I hI
    · have hlt := lp_lt (N := r.2.2.2.2.length) rfl (by omega) h1 c11
      refine Sx.aload_n dX11_placeIn_14 rfl ?_
      refine Sx.iload_n dX11_placeIn_15 rfl ?_
      refine Sx.caldS dX11_placeIn_16 hr hk ht (vp_in_nI (by omega) (by omega)) ?_
      refine Sx.iload_n dX11_placeIn_17 rfl ?_
      refine Sx.icmp_ne (t := 23) dX11_placeIn_18 (by decide) (fun c18 => ?_) (fun c18 => ?_)
      · refine Sx.iincN (fun zz => [(2, .int zz), (0, .ref a), (1, .int x)]) dX11_placeIn_23 rfl (by decide) (fun _ => rfl) (fun x2_23 ex2_23 => ?_)
        refine Sx.goto (t := 8) dX11_placeIn_26 (by decide) ?_
        refine Sx.sub' [(2, .int x2_23), (0, .ref a), (1, .int x)] rfl ?_
        refine ih (j + 1) (by omega) (by omega) I hI ?_ _ (by rw [ex2_23]; exact nI_1 j)
        rw [nI_clamp (by omega)] at c18
        rw [show r.2.2.2.2.length - j = (r.2.2.2.2.length - (j + 1)) + 1 by omega, fst1, lsF, if_neg c18] at hV
        exact hV
      · refine Sx.iload_n dX11_placeIn_21 rfl ?_
        refine Sx.iret dX11_placeIn_22 rfl rfl ?_
        rw [nI_clamp (by omega)] at c18
        rw [show r.2.2.2.2.length - j = (r.2.2.2.2.length - (j + 1)) + 1 by omega, fst1, lsF, if_pos c18] at hV
        rw [← hV, n_m1] at h
        exact h I hI
set_option maxRecDepth 20000 in
set_option maxHeartbeats 1000000 in
theorem c_placeIn {G : Gt} {l : Launch} {Z : Zt} {R : Rt} {I : It} {L : Lt} {post : Pt'} {a : Nat} {r : String × String × String × Nat × List Int32} {x : Int32} (hr : stc[a]? = some r) (hk : a < 100) (ht : r.2.2.2.1 = 53) (hn : r.2.2.2.2.length < 1000) (h : post (some (.int (nI (plN r.2.2.2.2 x) - 1))) Z R I L) : Cx G l mX11_placeIn 1 0 0 [.ref a, .int x] Z R I L post := by
  refine Cx.of (by decide +kernel) (by exact Nat.le_of_ble_eq_true rfl) ?_
  refine Sx.aload_n dX11_placeIn_0 rfl ?_
  refine Sx.ifnonnull (t := 6) dX11_placeIn_1 (by decide) ?_
  refine Sx.iconst (v := 0) dX11_placeIn_6 (by decide) ?_
  refine Sx.ist_n (fun zz => [(2, .int zz), (0, .ref a), (1, .int x)]) dX11_placeIn_7 (by decide) (fun _ => rfl) (fun x2_7 ex2_7 => ?_)
  exact l_pl hr hk ht hn (fun I' e => by rw [e]; exact h) (r.2.2.2.2.length + 1) 0 (by omega) (by omega) I rfl (by rw [Nat.sub_zero]; rfl) _ ex2_7
