/-! numbers: ints of naturals -/
theorem n_lt {a b : Nat} (ha : a < 2 ^ 31) (hb : b < 2 ^ 31) : nI a < nI b ↔ a < b := nI_ltI ha hb
theorem n_le {a b : Nat} (ha : a < 2 ^ 31) (hb : b < 2 ^ 31) : nI a ≤ nI b ↔ a ≤ b := nI_leI ha hb
theorem n_eq {a b : Nat} (ha : a < 2 ^ 31) (hb : b < 2 ^ 31) : nI a = nI b ↔ a = b := nI_eq ha hb
theorem n_sub {a b : Nat} (h : b ≤ a) : nI a - nI b = nI (a - b) := pk_sub h
theorem n_sft : ∀ n, n < 32 → ((nI n &&& 31).toBitVec.smod 32).toNat = n := by decide +kernel
theorem n_shr {x p : Nat} (hx : x < 2 ^ 31) (hp : p < 32) : nI x >>> (nI p &&& 31) = nI (x / 2 ^ p) := pk_shrN hx _ p (n_sft p hp)
theorem n_shl {x p : Nat} (hp : p < 32) (h : x * 2 ^ p < 2 ^ 32) : nI x <<< (nI p &&& 31) = nI (x * 2 ^ p) := pk_shlN _ p (n_sft p hp) h
theorem n_and1 {x : Nat} (h : x < 2 ^ 32) : nI x &&& 1 = nI (x % 2) := pk_andN h 1 (by decide)
theorem n_and7 {x : Nat} (h : x < 2 ^ 32) : nI x &&& 7 = nI (x % 8) := pk_andN h 3 (by decide)
theorem n_and255 {x : Nat} (h : x < 2 ^ 32) : nI x &&& 255 = nI (x % 256) := pk_andN h 8 (by decide)
theorem n_or (a b : Nat) : nI a ||| nI b = nI (a ||| b) := by
  apply Int32.toBitVec_inj.1
  show BitVec.ofNat 32 a ||| BitVec.ofNat 32 b = BitVec.ofNat 32 (a ||| b)
  apply BitVec.eq_of_getLsbD_eq
  intro i hi
  simp [hi]
theorem n_andN (a b : Nat) : nI a &&& nI b = nI (a &&& b) := by
  apply Int32.toBitVec_inj.1
  show BitVec.ofNat 32 a &&& BitVec.ofNat 32 b = BitVec.ofNat 32 (a &&& b)
  apply BitVec.eq_of_getLsbD_eq
  intro i hi
  simp [hi]
theorem n_xor (a b : Nat) : nI a ^^^ nI b = nI (a ^^^ b) := by
  apply Int32.toBitVec_inj.1
  show BitVec.ofNat 32 a ^^^ BitVec.ofNat 32 b = BitVec.ofNat 32 (a ^^^ b)
  apply BitVec.eq_of_getLsbD_eq
  intro i hi
  simp [hi]
/-- a truth as an int -/
def b2i (b : Bool) : Int32 := if b then 1 else 0
theorem b2i_n (b : Bool) : narrow .boolean (.int (b2i b)) = .int (b2i b) := by cases b <;> rfl
theorem b2i_0 {b : Bool} : b2i b = 0 ↔ b = false := by cases b <;> decide
theorem b2i_1 {b : Bool} : b2i b = 1 ↔ b = true := by cases b <;> decide
theorem b2i_ne {b : Bool} : ¬ b2i b = 0 ↔ b = true := by cases b <;> decide
/-- bit p of x -/
def hbN (x p : Nat) : Bool := x / 2 ^ p % 2 == 1
/-- how many of the six low bits -/
def popN (x : Nat) : Nat := x % 2 + x / 2 % 2 + x / 4 % 2 + x / 8 % 2 + x / 16 % 2 + x / 32 % 2
theorem popN_bit : ∀ x, x < 64 → bitc (nI x) = nI (popN x) ∧ popN x ≤ 6 := by decide +kernel
/-- who is up: bits, of n persons, of the bits in bed -/
def upN (n b : Nat) : Nat := (2 ^ n - 1) &&& (63 ^^^ b)
theorem upN_bit : ∀ n, n < 7 → ∀ b, b < 64 → (((1 : Int32) <<< (nI n &&& 31)) - 1) &&& (nI b ^^^ (-1)) = nI (upN n b) ∧ upN n b < 64 := by decide +kernel
theorem bit_lt : ∀ j, j < 6 → ∀ v, v < 64 → v ||| 2 ^ j < 64 := by decide +kernel
theorem lp_lt {j N : Nat} {y : Int32} (hy : y = nI j) (hN : N < 2 ^ 31) (hj : j ≤ N) (c : ¬ nI N ≤ y) : j < N := by
  rcases Nat.lt_or_ge j N with q | q
  · exact q
  · exact absurd (by rw [hy]; exact nI_le q (by omega)) c
theorem lp_end {j N : Nat} {y : Int32} (hy : y = nI j) (hN : N < 2 ^ 31) (hj : j ≤ N) (c : nI N ≤ y) : j = N := by
  rcases Nat.lt_or_ge j N with q | q
  · exact absurd c (by rw [hy]; exact nI_ge q hN)
  · omega
theorem n_m1 {k : Nat} : nI (k + 1) - 1 = nI k := nI_pred k
theorem n_neg1 : nI 0 - 1 = -1 := by decide
theorem n_pm {k : Nat} : nI k - 1 + 1 = nI k := by
  cases k with
  | zero => decide
  | succ k => rw [n_m1, nI_1]
theorem n_z (k : Nat) : (0 : Int32) + nI k = nI k := by rw [show (0 : Int32) = nI 0 from rfl, nI_add, Nat.zero_add]
theorem n_p2 {j : Nat} (h : j < 31) : (1 : Int32) <<< (nI j &&& 31) = nI (2 ^ j) := by
  rw [show (1 : Int32) = nI 1 from rfl, n_shl (by omega) (by rw [Nat.one_mul]; exact Nat.pow_lt_pow_right (by decide) (by omega)), Nat.one_mul]
/-! ints of integers -/
def iI (z : Int) : Int32 := Int32.ofInt z
theorem nI_iI (n : Nat) : nI n = iI n := by
  apply Int32.toBitVec_inj.mp
  show BitVec.ofNat 32 n = BitVec.ofInt 32 n
  exact (BitVec.ofInt_natCast 32 n).symm
theorem iI_add (a b : Int) : iI a + iI b = iI (a + b) := (Int32.ofInt_add a b).symm
theorem iI_sub (a b : Int) : iI a - iI b = iI (a - b) := (Int32.ofInt_sub a b).symm
theorem iI_mul (a b : Int) : iI a * iI b = iI (a * b) := (Int32.ofInt_mul a b).symm
theorem iI_toInt {z : Int} (h1 : -2147483648 ≤ z) (h2 : z < 2147483648) : (iI z).toInt = z := Int32.toInt_ofInt_of_le h1 (by exact h2)
theorem iI_lt {a b : Int} (h1 : -2147483648 ≤ a) (h2 : a < 2147483648) (h3 : -2147483648 ≤ b) (h4 : b < 2147483648) : iI a < iI b ↔ a < b := by
  rw [Int32.lt_iff_toInt_lt, iI_toInt h1 h2, iI_toInt h3 h4]
theorem iI_le {a b : Int} (h1 : -2147483648 ≤ a) (h2 : a < 2147483648) (h3 : -2147483648 ≤ b) (h4 : b < 2147483648) : iI a ≤ iI b ↔ a ≤ b := by
  rw [Int32.le_iff_toInt_le, iI_toInt h1 h2, iI_toInt h3 h4]
theorem iI_eq {a b : Int} (h1 : -2147483648 ≤ a) (h2 : a < 2147483648) (h3 : -2147483648 ≤ b) (h4 : b < 2147483648) : iI a = iI b ↔ a = b := by
  rw [← Int32.toInt_inj, iI_toInt h1 h2, iI_toInt h3 h4]
/-- held within 0 .. 99 -/
def clN (v : Int) : Nat := if v < 0 then 0 else if 99 < v then 99 else v.toNat
theorem clN_le (v : Int) : clN v ≤ 99 := by
  unfold clN
  split
  · omega
  · split <;> omega
theorem clN_int {v : Int} (h1 : -2147483648 ≤ v) (h2 : v < 2147483648) : imax 0 (imin 99 (iI v)) = nI (clN v) := by
  have a0 : (0 : Int32) = iI 0 := rfl
  have a9 : (99 : Int32) = iI 99 := rfl
  by_cases h3 : v < 99
  · have e1 : imin 99 (iI v) = iI v := by
      unfold imin
      rw [a9, if_pos ((iI_lt h1 h2 (by decide) (by decide)).mpr h3)]
    rw [e1]
    by_cases h4 : 0 < v
    · have e2 : imax 0 (iI v) = iI v := by
        unfold imax
        rw [a0, if_pos ((iI_lt (by decide) (by decide) h1 h2).mpr h4)]
      have e3 : clN v = v.toNat := by
        unfold clN
        rw [if_neg (show ¬ v < 0 by omega), if_neg (show ¬ 99 < v by omega)]
      rw [e2, e3, nI_iI]
      congr 1
      omega
    · have e2 : imax 0 (iI v) = 0 := by
        unfold imax
        rw [a0, if_neg (fun q => h4 ((iI_lt (by decide) (by decide) h1 h2).mp q))]
      have e3 : clN v = 0 := by
        unfold clN
        by_cases h5 : v < 0
        · rw [if_pos h5]
        · rw [if_neg h5, if_neg (show ¬ 99 < v by omega)]
          omega
      rw [e2, e3]
      rfl
  · have e1 : imin 99 (iI v) = 99 := by
      unfold imin
      rw [a9, if_neg (fun q => h3 ((iI_lt h1 h2 (by decide) (by decide)).mp q))]
    have e3 : clN v = 99 := by
      unfold clN
      by_cases h5 : 99 < v
      · rw [if_neg (show ¬ v < 0 by omega), if_pos h5]
      · rw [if_neg (show ¬ v < 0 by omega), if_neg h5]
        omega
    rw [e1, e3]
    decide
theorem iabs_i {v : Int} (h1 : -2147483648 < v) (h2 : v < 2147483648) : iabs (iI v) = iI (if 0 ≤ v then v else -v) := by
  unfold iabs
  rw [show (0 : Int32) = iI 0 from rfl]
  by_cases h : 0 ≤ v
  · rw [if_pos ((iI_le (by decide) (by decide) (by omega) h2).mpr h), if_pos h]
  · rw [if_neg (fun q => h ((iI_le (by decide) (by decide) (by omega) h2).mp q)), if_neg h, iI_sub, Int.zero_sub]
theorem n_min {a b : Nat} (ha : a < 2 ^ 31) (hb : b < 2 ^ 31) : imin (nI a) (nI b) = nI (min a b) := by
  unfold imin
  by_cases h : b < a
  · rw [if_pos ((n_lt hb ha).mpr h), Nat.min_eq_right (by omega)]
  · rw [if_neg (fun q => h ((n_lt hb ha).mp q)), Nat.min_eq_left (by omega)]
theorem n_max {a b : Nat} (ha : a < 2 ^ 31) (hb : b < 2 ^ 31) : imax (nI a) (nI b) = nI (max a b) := by
  unfold imax
  by_cases h : a < b
  · rw [if_pos ((n_lt ha hb).mpr h), Nat.max_eq_right (by omega)]
  · rw [if_neg (fun q => h ((n_lt ha hb).mp q)), Nat.max_eq_left (by omega)]
