/-! the class: habits -/
def mxN (f : Nat → Nat) : Nat → Nat
  | 0 => 0
  | j + 1 => max (mxN f j) (f j)
theorem mx_ge {f : Nat → Nat} : ∀ j i, i < j → f i ≤ mxN f j
  | 0, i => fun h => absurd h (Nat.not_lt_zero i)
  | j + 1, i => fun h => by
    rw [mxN]
    by_cases c : i = j
    · rw [c]; omega
    · have := mx_ge (f := f) j i (by omega); omega
theorem mx_le {f : Nat → Nat} {b : Nat} : ∀ j, (∀ i, i < j → f i ≤ b) → mxN f j ≤ b
  | 0 => fun _ => Nat.zero_le _
  | j + 1 => fun h => by
    have := mx_le (f := f) j (fun i hi => h i (by omega))
    have := h j (by omega)
    rw [mxN]
    omega
theorem hb_tb (x p : Nat) : hbN x p = x.testBit p := by
  rw [Nat.testBit_eq_decide_div_mod_eq]; rfl
theorem bt_bit (f : Nat → Bool) (p : Nat) : ∀ j, hbN (btN f j) p = (decide (p < j) && f p)
  | 0 => by rw [hb_tb]; simp [btN]
  | j + 1 => by
    have ih := bt_bit f p j
    rw [hb_tb] at ih
    rw [hb_tb, btN, Nat.testBit_or, ih]
    by_cases c : f j = true
    · rw [if_pos c, Nat.testBit_two_pow]
      by_cases d : p = j
      · subst d; simp [c]
      · have e : decide (p < j) = decide (p < j + 1) := decide_eq_decide.mpr (by omega)
        have e2 : decide (j = p) = false := decide_eq_false (by omega)
        rw [e, e2, Bool.or_false]
    · rw [if_neg c, Nat.zero_testBit, Bool.or_false]
      by_cases d : p = j
      · subst d
        have : f p = false := by simpa using c
        rw [this, Bool.and_false, Bool.and_false]
      · have e : decide (p < j) = decide (p < j + 1) := decide_eq_decide.mpr (by omega)
        rw [e]
theorem cnt_ext {f : Nat → Bool} {K : Nat} : ∀ d, cntB (fun p => decide (p < K) && f p) (K + d) = cntB (fun p => decide (p < K) && f p) K
  | 0 => rfl
  | d + 1 => by
    rw [show K + (d + 1) = K + d + 1 by omega, cntB, cnt_ext d, if_neg]
    · rfl
    · have : decide (K + d < K) = false := decide_eq_false (by omega)
      simp [this]
theorem cnt_cg {f g : Nat → Bool} : ∀ j, (∀ i, i < j → f i = g i) → cntB f j = cntB g j
  | 0 => fun _ => rfl
  | j + 1 => fun h => by rw [cntB, cntB, cnt_cg j (fun i hi => h i (by omega)), h j (by omega)]
theorem pop_cnt (x : Nat) : popN x = cntB (fun p => hbN x p) 6 := by
  have e : ∀ y : Nat, (if (y % 2 == 1) = true then 1 else 0) = y % 2 := fun y => by
    rcases (show y % 2 = 0 ∨ y % 2 = 1 by omega) with h | h <;> rw [h] <;> rfl
  unfold popN cntB cntB cntB cntB cntB cntB cntB hbN
  rw [e, e, e, e, e, e]
  simp
theorem pop_bt {f : Nat → Bool} {K : Nat} (hK : K ≤ 6) : popN (btN f K) = cntB f K := by
  rw [pop_cnt, cnt_cg 6 (fun i _ => bt_bit f i K), show 6 = K + (6 - K) by omega, cnt_ext]
  exact cnt_cg K (fun i hi => by rw [decide_eq_true hi, Bool.true_and])
theorem nth_z {f : Nat → Bool} {i : Int} {K : Nat} : ∀ d k n, K ≤ k → nthB (fun p => decide (p < K) && f p) i d k n = -1
  | 0, _, _ => fun _ => rfl
  | d + 1, k, n => fun h => by
    have : decide (k < K) = false := decide_eq_false (by omega)
    rw [nthB_s, if_neg (by simp [this])]
    exact nth_z d (k + 1) n (by omega)
theorem nth_ext {f : Nat → Bool} {i : Int} {K : Nat} : ∀ r d k n, k + r = K → nthB (fun p => decide (p < K) && f p) i (r + d) k n = nthB f i r k n
  | 0, d, k, n => fun h => by rw [Nat.zero_add, nthB_0]; exact nth_z d k n (by omega)
  | r + 1, d, k, n => fun h => by
    have e : (decide (k < K) && f k) = f k := by rw [decide_eq_true (show k < K by omega), Bool.true_and]
    rw [show r + 1 + d = r + d + 1 by omega, nthB_s, nthB_s, nth_ext r d (k + 1) (n + 1) (by omega), nth_ext r d (k + 1) n (by omega), e]
theorem nth_neg {f : Nat → Bool} {i : Int} (h : i < 0) : ∀ r k n, nthB f i r k n = -1
  | 0, _, _ => rfl
  | r + 1, k, n => by
    rw [nthB_s, nth_neg h r, nth_neg h r]
    split
    · rw [if_neg (by omega)]
    · rfl
theorem nth_cg {f g : Nat → Bool} {i : Int} (h : ∀ k, f k = g k) : ∀ r k n, nthB f i r k n = nthB g i r k n
  | 0, _, _ => rfl
  | r + 1, k, n => by rw [nthB_s, nthB_s, nth_cg h r, nth_cg h r, h k]
