/-! odds: the sum over the sets of fogs -/
def sumN (f : Nat → Nat) : Nat → Nat
  | 0 => 0
  | k + 1 => sumN f k + f k
theorem sum_2 (f : Nat → Nat) : ∀ k, sumN f (2 * k) = sumN (fun m => f (2 * m + 1)) k + sumN (fun m => f (2 * m)) k
  | 0 => rfl
  | k + 1 => by
    rw [show 2 * (k + 1) = 2 * k + 1 + 1 by omega, sumN, sumN, sum_2 f k, sumN, sumN]
    omega
theorem sum_cg {f g : Nat → Nat} : ∀ k, (∀ m, m < k → f m = g m) → sumN f k = sumN g k
  | 0 => fun _ => rfl
  | k + 1 => fun h => by rw [sumN, sumN, sum_cg k (fun m hm => h m (by omega)), h k (by omega)]
theorem sum_le (f : Nat → Nat) {k : Nat} : ∀ d, sumN f k ≤ sumN f (k + d)
  | 0 => Nat.le_refl _
  | d + 1 => by
    have := sum_le f (k := k) d
    rw [show k + (d + 1) = k + d + 1 by omega, sumN]
    omega
/-- the lights of a year by a set of fogs -/
def exF (lo hi : Nat → Nat) : Nat → Nat → (Nat → Nat) → Nat → Nat → Nat
  | 0, _, g, _ => g
  | r + 1, n, g, m => exF lo hi r (n + 1) (upn g n (if m % 2 = 1 then hi n else lo n)) (m / 2)
def prF (chance : Nat) : Nat → Nat → Nat → Nat
  | 0, _, part => part
  | r + 1, m, part => prF chance r (m / 2) (if m % 2 = 1 then part * chance / 100 else part - part * chance / 100)
theorem od_sum {P0 day chance : Nat} {lo hi : Nat → Nat} : ∀ r n g part, odF P0 day chance lo hi r n g part = sumN (fun m => if amn (exF lo hi r n g m) P0 = day + 1 then prF chance r m part else 0) (2 ^ r)
  | 0, n, g, part => by
    rw [show (2 : Nat) ^ 0 = 0 + 1 from rfl, sumN, sumN, Nat.zero_add]
    rfl
  | r + 1, n, g, part => by
    rw [Nat.pow_succ, Nat.mul_comm, sum_2, odF, od_sum r, od_sum r]
    congr 1
    · refine sum_cg _ (fun m _ => ?_)
      rw [exF, prF, show (2 * m + 1) % 2 = 1 by omega, show (2 * m + 1) / 2 = m by omega, if_pos rfl, if_pos rfl]
    · refine sum_cg _ (fun m _ => ?_)
      rw [exF, prF, show (2 * m) % 2 = 0 by omega, show (2 * m) / 2 = m by omega, if_neg (show ¬ (0 : Nat) = 1 by decide), if_neg (show ¬ (0 : Nat) = 1 by decide)]
theorem exF_lt {lo hi : Nat → Nat} : ∀ r n g m d, d < n → exF lo hi r n g m d = g d
  | 0, _, _, _, _ => fun _ => rfl
  | r + 1, n, g, m, d => fun h => by rw [exF, exF_lt r (n + 1) _ _ d (by omega), upn_ne _ _ (by omega)]
theorem exF_at {lo hi : Nat → Nat} : ∀ r n g m i, i < r → exF lo hi r n g m (n + i) = if hbN m i = true then hi (n + i) else lo (n + i)
  | 0, _, _, _, _ => fun h => absurd h (Nat.not_lt_zero _)
  | r + 1, n, g, m, 0 => fun _ => by
    rw [exF, exF_lt r (n + 1) _ _ (n + 0) (by omega), Nat.add_zero, upn_eq]
    unfold hbN
    rw [Nat.pow_zero, Nat.div_one]
    by_cases c : m % 2 = 1
    · rw [if_pos c, if_pos (by rw [c]; rfl)]
    · rw [if_neg c, if_neg (fun z => c (by simpa using z))]
  | r + 1, n, g, m, i + 1 => fun h => by
    rw [exF, show n + (i + 1) = n + 1 + i by omega, exF_at r (n + 1) _ _ i (by omega)]
    have e : hbN (m / 2) i = hbN m (i + 1) := by
      unfold hbN
      rw [Nat.div_div_eq_div_mul, Nat.pow_succ, Nat.mul_comm]
    rw [e]
theorem prF_le {c : Nat} (hc : c ≤ 100) : ∀ r m part, prF c r m part ≤ part
  | 0, _, _ => Nat.le_refl _
  | r + 1, m, part => by
    have h3 : part * c ≤ part * 100 := Nat.mul_le_mul_left _ hc
    have := prF_le hc r (m / 2) (if m % 2 = 1 then part * c / 100 else part - part * c / 100)
    rw [prF]
    split at this <;> simp_all <;> omega
theorem of_l {p c : Nat} (hp : p ≤ 1000000000) (hc : c ≤ 100) : (nI p).toInt64 * (nI c).toInt64 / 100 = (nI (p * c / 100)).toInt64 := by
  have hm : p * c ≤ p * 100 := Nat.mul_le_mul_left _ hc
  have e1 : ((nI p).toInt64).toInt = (p : Int) := by rw [Int32.toInt_toInt64, nI_toInt (by omega)]
  have e2 : ((nI c).toInt64).toInt = (c : Int) := by rw [Int32.toInt_toInt64, nI_toInt (by omega)]
  have c8 : (100 : Int64).toInt = 100 := by decide
  have hne : (100 : Int64) ≠ -1 := by decide
  have e3 : ((nI p).toInt64 * (nI c).toInt64).toInt = ((p * c : Nat) : Int) := by
    rw [Int64.toInt_mul, e1, e2, ← Int.natCast_mul]
    exact Int.bmod_eq_of_le (by omega) (by omega)
  apply Int64.toInt_inj.mp
  rw [Int64.toInt_div_of_ne_right _ _ hne, e3, c8, Int32.toInt_toInt64, nI_toInt (by omega)]
  rfl
theorem sub_l {a b : Nat} (h : b ≤ a) (ha : a ≤ 1000000000) : (nI a).toInt64 - (nI b).toInt64 = (nI (a - b)).toInt64 := by
  apply Int64.toInt_inj.mp
  rw [Int64.toInt_sub, Int32.toInt_toInt64, Int32.toInt_toInt64, Int32.toInt_toInt64, nI_toInt (by omega), nI_toInt (by omega), nI_toInt (by omega), show ((a : Int) - (b : Int)) = ((a - b : Nat) : Int) by omega]
  exact Int.bmod_eq_of_le (by omega) (by omega)
theorem l_i32 {a : Nat} (ha : a ≤ 1000000000) : (nI a).toInt64.toInt32 = nI a := by
  apply Int32.toInt_inj.mp
  rw [Int64.toInt_toInt32, Int32.toInt_toInt64, nI_toInt (by omega)]
  exact Int.bmod_eq_of_le (by omega) (by omega)
