/-! numbers: ints of naturals -/
theorem n_lt {a b : Nat} (ha : a < 2 ^ 31) (hb : b < 2 ^ 31) : nI a < nI b ↔ a < b := nI_ltI ha hb
theorem n_le {a b : Nat} (ha : a < 2 ^ 31) (hb : b < 2 ^ 31) : nI a ≤ nI b ↔ a ≤ b := nI_leI ha hb
theorem n_eq {a b : Nat} (ha : a < 2 ^ 31) (hb : b < 2 ^ 31) : nI a = nI b ↔ a = b := nI_eq ha hb
theorem n_sub {a b : Nat} (h : b ≤ a) : nI a - nI b = nI (a - b) := pk_sub h
theorem n_sft : ∀ n, n < 32 → ((nI n &&& 31).toBitVec.smod 32).toNat = n := by decide +kernel
theorem n_shr {x p : Nat} (hx : x < 2 ^ 31) (hp : p < 32) : nI x >>> (nI p &&& 31) = nI (x / 2 ^ p) := pk_shrN hx _ p (n_sft p hp)
theorem n_shl {x p : Nat} (hp : p < 32) (h : x * 2 ^ p < 2 ^ 32) : nI x <<< (nI p &&& 31) = nI (x * 2 ^ p) := pk_shlN _ p (n_sft p hp) h
theorem n_and1 {x : Nat} (h : x < 2 ^ 32) : nI x &&& 1 = nI (x % 2) := pk_andN h 1 (by decide)
theorem n_and7 {x : Nat} (h : x < 2 ^ 32) : nI x &&& 7 = nI (x % 8) := pk_andN h 3 (by decide)
theorem n_and255 {x : Nat} (h : x < 2 ^ 32) : nI x &&& 255 = nI (x % 256) := pk_andN h 8 (by decide)
theorem n_or (a b : Nat) : nI a ||| nI b = nI (a ||| b) := by
  apply Int32.toBitVec_inj.1
  show BitVec.ofNat 32 a ||| BitVec.ofNat 32 b = BitVec.ofNat 32 (a ||| b)
  apply BitVec.eq_of_getLsbD_eq
  intro i hi
  simp [hi]
theorem n_andN (a b : Nat) : nI a &&& nI b = nI (a &&& b) := by
  apply Int32.toBitVec_inj.1
  show BitVec.ofNat 32 a &&& BitVec.ofNat 32 b = BitVec.ofNat 32 (a &&& b)
  apply BitVec.eq_of_getLsbD_eq
  intro i hi
  simp [hi]
theorem n_xor (a b : Nat) : nI a ^^^ nI b = nI (a ^^^ b) := by
  apply Int32.toBitVec_inj.1
  show BitVec.ofNat 32 a ^^^ BitVec.ofNat 32 b = BitVec.ofNat 32 (a ^^^ b)
  apply BitVec.eq_of_getLsbD_eq
  intro i hi
  simp [hi]
/-- a truth as an int -/
def b2i (b : Bool) : Int32 := if b then 1 else 0
theorem b2i_n (b : Bool) : narrow .boolean (.int (b2i b)) = .int (b2i b) := by cases b <;> rfl
theorem b2i_0 {b : Bool} : b2i b = 0 ↔ b = false := by cases b <;> decide
theorem b2i_1 {b : Bool} : b2i b = 1 ↔ b = true := by cases b <;> decide
theorem b2i_ne {b : Bool} : ¬ b2i b = 0 ↔ b = true := by cases b <;> decide
/-- bit p of x -/
def hbN (x p : Nat) : Bool := x / 2 ^ p % 2 == 1
/-- how many of the six low bits -/
def popN (x : Nat) : Nat := x % 2 + x / 2 % 2 + x / 4 % 2 + x / 8 % 2 + x / 16 % 2 + x / 32 % 2
theorem popN_bit : ∀ x, x < 64 → bitc (nI x) = nI (popN x) ∧ popN x ≤ 6 := by decide +kernel
/-- who is up: bits, of n persons, of the bits in bed -/
def upN (n b : Nat) : Nat := (2 ^ n - 1) &&& (63 ^^^ b)
theorem upN_bit : ∀ n, n < 7 → ∀ b, b < 64 → (((1 : Int32) <<< (nI n &&& 31)) - 1) &&& (nI b ^^^ (-1)) = nI (upN n b) ∧ upN n b < 64 := by decide +kernel
theorem bit_lt : ∀ j, j < 6 → ∀ v, v < 64 → v ||| 2 ^ j < 64 := by decide +kernel
theorem lp_lt {j N : Nat} {y : Int32} (hy : y = nI j) (hN : N < 2 ^ 31) (hj : j ≤ N) (c : ¬ nI N ≤ y) : j < N := by
  rcases Nat.lt_or_ge j N with q | q
  · exact q
  · exact absurd (by rw [hy]; exact nI_le q (by omega)) c
theorem lp_end {j N : Nat} {y : Int32} (hy : y = nI j) (hN : N < 2 ^ 31) (hj : j ≤ N) (c : nI N ≤ y) : j = N := by
  rcases Nat.lt_or_ge j N with q | q
  · exact absurd c (by rw [hy]; exact nI_ge q hN)
  · omega
theorem n_m1 {k : Nat} : nI (k + 1) - 1 = nI k := nI_pred k
theorem n_neg1 : nI 0 - 1 = -1 := by decide
theorem n_pm {k : Nat} : nI k - 1 + 1 = nI k := by
  cases k with
  | zero => decide
  | succ k => rw [n_m1, nI_1]
theorem n_z (k : Nat) : (0 : Int32) + nI k = nI k := by rw [show (0 : Int32) = nI 0 from rfl, nI_add, Nat.zero_add]
theorem n_p2 {j : Nat} (h : j < 31) : (1 : Int32) <<< (nI j &&& 31) = nI (2 ^ j) := by
  rw [show (1 : Int32) = nI 1 from rfl, n_shl (by omega) (by rw [Nat.one_mul]; exact Nat.pow_lt_pow_right (by decide) (by omega)), Nat.one_mul]
