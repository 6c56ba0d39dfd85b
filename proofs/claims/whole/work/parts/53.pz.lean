/-! a law's text: read and worked out at once -/
def bdI (z : Int) : Int := if z < -1000000 then -1000000 else if 1000000 < z then 1000000 else z
def bd6 (z : Int) : Prop := -1000000 ≤ z ∧ z ≤ 1000000
theorem bdI_bd (z : Int) : bd6 (bdI z) := by unfold bd6 bdI; (repeat' split) <;> omega
def jnZ (s : Nat) (v w : Int) : Int := bdI (if s = 42 then v * w else if s = 47 then (if w = 0 then 0 else v.tdiv w) else if s = 43 then v + w else v - w)
theorem mul_b {a b : Int} (ha : bd6 a) (hb : bd6 b) : -1000000000000 ≤ a * b ∧ a * b ≤ 1000000000000 := by
  obtain ⟨a1, a2⟩ := ha
  obtain ⟨b1, b2⟩ := hb
  have h1 : a.natAbs ≤ 1000000 := by omega
  have h2 : b.natAbs ≤ 1000000 := by omega
  have h3 : (a * b).natAbs ≤ 1000000 * 1000000 := by rw [Int.natAbs_mul]; exact Nat.mul_le_mul h1 h2
  omega
theorem tdiv_b {a : Int} (ha : bd6 a) (b : Int) : bd6 (a.tdiv b) := by
  have h := Int.natAbs_tdiv_le_natAbs a b
  unfold bd6 at ha ⊢
  omega
theorem vL_add {x y : Int64} {a b : Int} (hx : VL x a) (hy : VL y b) (ha : bd6 a) (hb : bd6 b) : VL (x + y) (a + b) := by
  have hx' : x.toInt = a := hx
  have hy' : y.toInt = b := hy
  unfold bd6 at ha hb
  show (x + y).toInt = _
  rw [Int64.toInt_add, hx', hy']
  exact Int.bmod_eq_of_le (by omega) (by omega)
theorem vL_sub {x y : Int64} {a b : Int} (hx : VL x a) (hy : VL y b) (ha : bd6 a) (hb : bd6 b) : VL (x - y) (a - b) := by
  have hx' : x.toInt = a := hx
  have hy' : y.toInt = b := hy
  unfold bd6 at ha hb
  show (x - y).toInt = _
  rw [Int64.toInt_sub, hx', hy']
  exact Int.bmod_eq_of_le (by omega) (by omega)
theorem vL_mul {x y : Int64} {a b : Int} (hx : VL x a) (hy : VL y b) (ha : bd6 a) (hb : bd6 b) : VL (x * y) (a * b) := by
  have hx' : x.toInt = a := hx
  have hy' : y.toInt = b := hy
  have h := mul_b ha hb
  show (x * y).toInt = _
  rw [Int64.toInt_mul, hx', hy']
  exact Int.bmod_eq_of_le (by omega) (by omega)
theorem vL_div {x y : Int64} {a b : Int} (hx : VL x a) (hy : VL y b) (ha : bd6 a) : VL (x / y) (a.tdiv b) := by
  have hx' : x.toInt = a := hx
  have hy' : y.toInt = b := hy
  unfold bd6 at ha
  have hne : x ≠ Int64.minValue := by
    intro q
    have q2 := congrArg Int64.toInt q
    rw [hx', show Int64.minValue.toInt = -9223372036854775808 by decide] at q2
    omega
  show (x / y).toInt = _
  rw [Int64.toInt_div_of_ne_left _ _ hne, hx', hy']
def wiI (x : Int64) : Int32 := (lmax (-1000000) (lmin 1000000 x)).toInt32
theorem wi_ok {x : Int64} {z : Int} (h : VL x z) : wiI x = iI (bdI z) := by
  have h' : x.toInt = z := h
  have k1 : (1000000 : Int64).toInt = 1000000 := by decide
  have k2 : (-1000000 : Int64).toInt = -1000000 := by decide
  have key : ∀ y : Int64, ∀ w : Int, y.toInt = w → bd6 w → y.toInt32 = iI w := by
    intro y w hy hw
    unfold bd6 at hw
    apply Int32.toInt_inj.mp
    rw [Int64.toInt_toInt32, hy, iI_toInt (by omega) (by omega)]
    exact Int.bmod_eq_of_le (by omega) (by omega)
  unfold wiI lmax lmin bdI
  by_cases c1 : x < 1000000
  · rw [if_pos c1]
    have c1' := Int64.lt_iff_toInt_lt.mp c1
    rw [k1, h'] at c1'
    by_cases c2 : x < -1000000
    · rw [if_pos c2]
      have c2' := Int64.lt_iff_toInt_lt.mp c2
      rw [k2, h'] at c2'
      rw [if_pos c2']
      decide
    · rw [if_neg c2]
      have c2' : ¬ z < -1000000 := fun q => c2 (Int64.lt_iff_toInt_lt.mpr (by omega))
      rw [if_neg c2', if_neg (by omega)]
      exact key x z h' ⟨by omega, by omega⟩
  · rw [if_neg c1]
    have c1' : ¬ z < 1000000 := fun q => c1 (Int64.lt_iff_toInt_lt.mpr (by omega))
    rw [if_neg (by decide), if_neg (by omega)]
    by_cases c3 : 1000000 < z
    · rw [if_pos c3]; decide
    · rw [if_neg c3, show z = 1000000 by omega]; decide
/-- go on where the first part ended -/
def pb (r : Bool × Nat × Int) (f : Nat → Int → Bool × Nat × Int) : Bool × Nat × Int := if r.1 = true then f r.2.1 r.2.2 else (false, r.2.1, 0)
theorem pb_t {r : Bool × Nat × Int} {f : Nat → Int → Bool × Nat × Int} (h : r.1 = true) : pb r f = f r.2.1 r.2.2 := if_pos h
theorem pb_f {r : Bool × Nat × Int} {f : Nat → Int → Bool × Nat × Int} (h : r.1 = false) : pb r f = (false, r.2.1, 0) := if_neg (by rw [h]; decide)
def isLt (s : Nat) : Bool := decide (spN 1 (nI s) ≠ 0)
def cmpZ (s : Nat) (v w : Int) : Int := if s = 61 then (if v = w then 1 else 0) else if s = 60 then (if v < w then 1 else 0) else if w < v then 1 else 0
def andZ (v w : Int) : Int := if v = 0 ∨ w = 0 then 0 else 1
def orZ (v w : Int) : Int := if v = 0 ∧ w = 0 then 0 else 1
/-- modes: 0 atom, 1 term, 2 sum, 3 comparison, 4 unit, 5 truths with &, 6 condition; 7 .. 10 the loops behind a first term, sum, unit, truth; 11, 12, 13 a comparison, truth, condition whose first sum was read -/
def pz (T : Nat → Nat) (n : Nat) (e : Nat → Int) : Nat → Nat → Nat → Nat → Int → Bool × Nat × Int
  | 0, _, _, c, _ => (false, c, 0)
  | k + 1, m, dp, c, v =>
    if m = 0 then
      (if isLt (sgn T n (nx T n c)) = true then (true, nx T n c + 1, e (sgn T n (nx T n c))) else
       if sgn T n (nx T n c) = 91 then (if dp = 6 then (false, nx T n c, 0) else
         pb (pz T n e k 2 (dp + 1) (nx T n c + 1) 0) fun q w => if sgn T n (nx T n q) = 93 then (true, nx T n q + 1, w) else (false, nx T n q, 0)) else
       if isDN (sgn T n (nx T n c)) = true then (if isDN (sgn T n (rdE T n c 4)) = true then (false, rdE T n c 4, 0) else (true, rdE T n c 4, (rdV T n c 4 : Int))) else (false, nx T n c, 0)) else
    if m = 1 then pb (pz T n e k 0 dp c 0) fun q w => pz T n e k 7 dp q w else
    if m = 2 then pb (pz T n e k 1 dp c 0) fun q w => pz T n e k 8 dp q w else
    if m = 3 then pb (pz T n e k 2 dp c 0) fun q w => pz T n e k 11 dp q w else
    if m = 4 then
      (if sgn T n (nx T n c) = 33 then (if dp = 6 then (false, nx T n c, 0) else pb (pz T n e k 4 (dp + 1) (nx T n c + 1) 0) fun q w => (true, q, if w = 0 then 1 else 0)) else
       if sgn T n (nx T n c) = 40 then (if dp = 6 then (false, nx T n c, 0) else
         pb (pz T n e k 6 (dp + 1) (nx T n c + 1) 0) fun q w => if sgn T n (nx T n q) = 41 then (true, nx T n q + 1, w) else (false, nx T n q, 0)) else
       pz T n e k 3 dp (nx T n c) 0) else
    if m = 5 then pb (pz T n e k 4 dp c 0) fun q w => pz T n e k 9 dp q w else
    if m = 6 then pb (pz T n e k 5 dp c 0) fun q w => pz T n e k 10 dp q w else
    if m = 7 then (if sgn T n (nx T n c) = 42 ∨ sgn T n (nx T n c) = 47 then pb (pz T n e k 0 dp (nx T n c + 1) 0) fun q w => pz T n e k 7 dp q (jnZ (sgn T n (nx T n c)) v w) else (true, nx T n c, v)) else
    if m = 8 then (if sgn T n (nx T n c) = 43 ∨ sgn T n (nx T n c) = 45 then pb (pz T n e k 1 dp (nx T n c + 1) 0) fun q w => pz T n e k 8 dp q (jnZ (sgn T n (nx T n c)) v w) else (true, nx T n c, v)) else
    if m = 9 then (if sgn T n (nx T n c) = 38 then pb (pz T n e k 4 dp (nx T n c + 1) 0) fun q w => pz T n e k 9 dp q (andZ v w) else (true, nx T n c, v)) else
    if m = 10 then (if sgn T n (nx T n c) = 124 then pb (pz T n e k 5 dp (nx T n c + 1) 0) fun q w => pz T n e k 10 dp q (orZ v w) else (true, nx T n c, v)) else
    if m = 11 then (if sgn T n (nx T n c) = 61 ∨ sgn T n (nx T n c) = 60 ∨ sgn T n (nx T n c) = 62 then pb (pz T n e k 2 dp (nx T n c + 1) 0) fun q w => (true, q, cmpZ (sgn T n (nx T n c)) v w) else (false, nx T n c, 0)) else
    if m = 12 then pb (pz T n e k 11 dp c v) fun q w => pz T n e k 9 dp q w else
    pb (pz T n e k 12 dp c v) fun q w => pz T n e k 10 dp q w
section PZ
variable {T : Nat → Nat} {n : Nat} {e : Nat → Int} {k dp c : Nat} {v : Int}
theorem pz_0 : pz T n e (k + 1) 0 dp c v = (if isLt (sgn T n (nx T n c)) = true then (true, nx T n c + 1, e (sgn T n (nx T n c))) else
       if sgn T n (nx T n c) = 91 then (if dp = 6 then (false, nx T n c, 0) else
         pb (pz T n e k 2 (dp + 1) (nx T n c + 1) 0) fun q w => if sgn T n (nx T n q) = 93 then (true, nx T n q + 1, w) else (false, nx T n q, 0)) else
       if isDN (sgn T n (nx T n c)) = true then (if isDN (sgn T n (rdE T n c 4)) = true then (false, rdE T n c 4, 0) else (true, rdE T n c 4, (rdV T n c 4 : Int))) else (false, nx T n c, 0)) := rfl
theorem pz_1 : pz T n e (k + 1) 1 dp c v = pb (pz T n e k 0 dp c 0) fun q w => pz T n e k 7 dp q w := rfl
theorem pz_2 : pz T n e (k + 1) 2 dp c v = pb (pz T n e k 1 dp c 0) fun q w => pz T n e k 8 dp q w := rfl
theorem pz_3 : pz T n e (k + 1) 3 dp c v = pb (pz T n e k 2 dp c 0) fun q w => pz T n e k 11 dp q w := rfl
theorem pz_4 : pz T n e (k + 1) 4 dp c v = (if sgn T n (nx T n c) = 33 then (if dp = 6 then (false, nx T n c, 0) else pb (pz T n e k 4 (dp + 1) (nx T n c + 1) 0) fun q w => (true, q, if w = 0 then 1 else 0)) else
       if sgn T n (nx T n c) = 40 then (if dp = 6 then (false, nx T n c, 0) else
         pb (pz T n e k 6 (dp + 1) (nx T n c + 1) 0) fun q w => if sgn T n (nx T n q) = 41 then (true, nx T n q + 1, w) else (false, nx T n q, 0)) else
       pz T n e k 3 dp (nx T n c) 0) := rfl
theorem pz_5 : pz T n e (k + 1) 5 dp c v = pb (pz T n e k 4 dp c 0) fun q w => pz T n e k 9 dp q w := rfl
theorem pz_6 : pz T n e (k + 1) 6 dp c v = pb (pz T n e k 5 dp c 0) fun q w => pz T n e k 10 dp q w := rfl
theorem pz_7 : pz T n e (k + 1) 7 dp c v = if sgn T n (nx T n c) = 42 ∨ sgn T n (nx T n c) = 47 then pb (pz T n e k 0 dp (nx T n c + 1) 0) fun q w => pz T n e k 7 dp q (jnZ (sgn T n (nx T n c)) v w) else (true, nx T n c, v) := rfl
theorem pz_8 : pz T n e (k + 1) 8 dp c v = if sgn T n (nx T n c) = 43 ∨ sgn T n (nx T n c) = 45 then pb (pz T n e k 1 dp (nx T n c + 1) 0) fun q w => pz T n e k 8 dp q (jnZ (sgn T n (nx T n c)) v w) else (true, nx T n c, v) := rfl
theorem pz_9 : pz T n e (k + 1) 9 dp c v = if sgn T n (nx T n c) = 38 then pb (pz T n e k 4 dp (nx T n c + 1) 0) fun q w => pz T n e k 9 dp q (andZ v w) else (true, nx T n c, v) := rfl
theorem pz_10 : pz T n e (k + 1) 10 dp c v = if sgn T n (nx T n c) = 124 then pb (pz T n e k 5 dp (nx T n c + 1) 0) fun q w => pz T n e k 10 dp q (orZ v w) else (true, nx T n c, v) := rfl
theorem pz_11 : pz T n e (k + 1) 11 dp c v = if sgn T n (nx T n c) = 61 ∨ sgn T n (nx T n c) = 60 ∨ sgn T n (nx T n c) = 62 then pb (pz T n e k 2 dp (nx T n c + 1) 0) fun q w => (true, q, cmpZ (sgn T n (nx T n c)) v w) else (false, nx T n c, 0) := rfl
theorem pz_12 : pz T n e (k + 1) 12 dp c v = pb (pz T n e k 11 dp c v) fun q w => pz T n e k 9 dp q w := rfl
theorem pz_13 : pz T n e (k + 1) 13 dp c v = pb (pz T n e k 12 dp c v) fun q w => pz T n e k 10 dp q w := rfl
theorem pb_bd {r : Bool × Nat × Int} {f : Nat → Int → Bool × Nat × Int} {c : Nat} (h1 : r.1 = true → c ≤ r.2.1 ∧ bd6 r.2.2) (h2 : ∀ q w, c ≤ q → bd6 w → (f q w).1 = true → c ≤ (f q w).2.1 ∧ bd6 (f q w).2.2) (h : (pb r f).1 = true) : c ≤ (pb r f).2.1 ∧ bd6 (pb r f).2.2 := by
  cases hr : r.1 with
  | true => rw [pb_t hr] at h ⊢; exact h2 _ _ (h1 hr).1 (h1 hr).2 h
  | false => rw [pb_f hr] at h; cases h
theorem rdc_ge (T : Nat → Nat) (n k c : Nat) : c ≤ rdc T n k c := (rdc_b T n k c).1
theorem bd6_01 (p : Prop) [Decidable p] : bd6 (if p then 1 else 0) := by unfold bd6; split <;> omega
theorem bd6_10 (p : Prop) [Decidable p] : bd6 (if p then 0 else 1) := by unfold bd6; split <;> omega
theorem cmp_bd (s : Nat) (v w : Int) : bd6 (cmpZ s v w) := by unfold bd6 cmpZ; (repeat' split) <;> omega
/-- what is read lies ahead; what comes of it is held -/
theorem pz_bd (he : ∀ s, bd6 (e s)) : ∀ k m dp c v, bd6 v → (pz T n e k m dp c v).1 = true → c ≤ (pz T n e k m dp c v).2.1 ∧ bd6 (pz T n e k m dp c v).2.2
  | 0, _, _, _, _ => fun _ h => by cases h
  | k + 1, m, dp, c, v => fun hv => by
    have ih := pz_bd he k
    have b0 : bd6 0 := by unfold bd6; omega
    have hx := nx_b T n c
    have nxge : ∀ q, q ≤ nx T n q := fun q => (nx_b T n q).1
    have up : ∀ {q : Nat} {r : Bool × Nat × Int}, c ≤ q → (r.1 = true → q ≤ r.2.1 ∧ bd6 r.2.2) → (r.1 = true → c ≤ r.2.1 ∧ bd6 r.2.2) := fun hq hr h => ⟨Nat.le_trans hq (hr h).1, (hr h).2⟩
    have sub : ∀ (m' dp' c' : Nat) (v' : Int), c ≤ c' → bd6 v' → ((pz T n e k m' dp' c' v').1 = true → c ≤ (pz T n e k m' dp' c' v').2.1 ∧ bd6 (pz T n e k m' dp' c' v').2.2) := fun m' dp' c' v' h1 h2 => up h1 (ih m' dp' c' v' h2)
    have close : ∀ (s : Nat) (q : Nat) (w : Int), c ≤ q → bd6 w → (if sgn T n (nx T n q) = s then ((true, nx T n q + 1, w) : Bool × Nat × Int) else (false, nx T n q, 0)).1 = true → c ≤ (if sgn T n (nx T n q) = s then ((true, nx T n q + 1, w) : Bool × Nat × Int) else (false, nx T n q, 0)).2.1 ∧ bd6 (if sgn T n (nx T n q) = s then ((true, nx T n q + 1, w) : Bool × Nat × Int) else (false, nx T n q, 0)).2.2 := by
      intro s q w hq hw
      have := nxge q
      split
      · intro _; exact ⟨by show c ≤ nx T n q + 1; omega, hw⟩
      · intro h; cases h
    unfold pz
    by_cases c0 : m = 0
    · rw [if_pos c0]
      split
      · intro _; exact ⟨by show c ≤ nx T n c + 1; omega, he _⟩
      · split
        · split
          · intro h; cases h
          · exact pb_bd (sub 2 _ _ 0 (by omega) b0) (close 93)
        · split
          · split
            · intro h; cases h
            · intro _
              have h1 := rdc_ge T n 4 (nx T n c)
              have h2 := rdv_b T n 4 (nx T n c) 0 0 (by decide)
              have h3 : (10 : Nat) ^ (0 + 4) = 10000 := by decide
              refine ⟨by show c ≤ rdc T n 4 (nx T n c); omega, ?_⟩
              show bd6 ((rdv T n 4 (nx T n c) 0 : Nat) : Int)
              unfold bd6
              omega
          · intro h; cases h
    rw [if_neg c0]
    by_cases c1 : m = 1
    · rw [if_pos c1]; exact pb_bd (sub 0 dp c 0 (by omega) b0) (fun q w hq hw => sub 7 dp q w hq hw)
    rw [if_neg c1]
    by_cases c2 : m = 2
    · rw [if_pos c2]; exact pb_bd (sub 1 dp c 0 (by omega) b0) (fun q w hq hw => sub 8 dp q w hq hw)
    rw [if_neg c2]
    by_cases c3 : m = 3
    · rw [if_pos c3]; exact pb_bd (sub 2 dp c 0 (by omega) b0) (fun q w hq hw => sub 11 dp q w hq hw)
    rw [if_neg c3]
    by_cases c4 : m = 4
    · rw [if_pos c4]
      split
      · split
        · intro h; cases h
        · exact pb_bd (sub 4 _ _ 0 (by omega) b0) (fun q w hq hw _ => ⟨hq, bd6_01 _⟩)
      · split
        · split
          · intro h; cases h
          · exact pb_bd (sub 6 _ _ 0 (by omega) b0) (close 41)
        · exact sub 3 dp _ 0 hx.1 b0
    rw [if_neg c4]
    by_cases c5 : m = 5
    · rw [if_pos c5]; exact pb_bd (sub 4 dp c 0 (by omega) b0) (fun q w hq hw => sub 9 dp q w hq hw)
    rw [if_neg c5]
    by_cases c6 : m = 6
    · rw [if_pos c6]; exact pb_bd (sub 5 dp c 0 (by omega) b0) (fun q w hq hw => sub 10 dp q w hq hw)
    rw [if_neg c6]
    by_cases c7 : m = 7
    · rw [if_pos c7]
      split
      · exact pb_bd (sub 0 dp _ 0 (by omega) b0) (fun q w hq hw => sub 7 dp q _ hq (bdI_bd _))
      · intro _; exact ⟨hx.1, hv⟩
    rw [if_neg c7]
    by_cases c8 : m = 8
    · rw [if_pos c8]
      split
      · exact pb_bd (sub 1 dp _ 0 (by omega) b0) (fun q w hq hw => sub 8 dp q _ hq (bdI_bd _))
      · intro _; exact ⟨hx.1, hv⟩
    rw [if_neg c8]
    by_cases c9 : m = 9
    · rw [if_pos c9]
      split
      · exact pb_bd (sub 4 dp _ 0 (by omega) b0) (fun q w hq hw => sub 9 dp q _ hq (bd6_10 _))
      · intro _; exact ⟨hx.1, hv⟩
    rw [if_neg c9]
    by_cases c10 : m = 10
    · rw [if_pos c10]
      split
      · exact pb_bd (sub 5 dp _ 0 (by omega) b0) (fun q w hq hw => sub 10 dp q _ hq (bd6_10 _))
      · intro _; exact ⟨hx.1, hv⟩
    rw [if_neg c10]
    by_cases c11 : m = 11
    · rw [if_pos c11]
      split
      · exact pb_bd (sub 2 dp _ 0 (by omega) b0) (fun q w hq hw _ => ⟨hq, cmp_bd _ _ _⟩)
      · intro h; cases h
    rw [if_neg c11]
    by_cases c12 : m = 12
    · rw [if_pos c12]; exact pb_bd (sub 11 dp c v (by omega) hv) (fun q w hq hw => sub 9 dp q w hq hw)
    rw [if_neg c12]
    exact pb_bd (sub 12 dp c v (by omega) hv) (fun q w hq hw => sub 10 dp q w hq hw)
end PZ
/-- a clause: well read, where it ends, what it answers -/
def pcl (T : Nat → Nat) (n : Nat) (e : Nat → Int) (k c : Nat) : Bool × Nat × Option Int :=
  if sgn T n (nx T n c) ≠ 121 then (false, nx T n c, none) else
  if sgn T n (nx T n (nx T n c + 1)) ≠ 58 then (false, nx T n (nx T n c + 1), none) else
  pclB T n e k (nx T n (nx T n (nx T n c + 1) + 1))
where
  pclQ (T : Nat → Nat) (n : Nat) (e : Nat → Int) (k : Nat) (r : Bool × Nat × Int) : Bool × Nat × Option Int :=
    if r.1 = false then (false, r.2.1, none) else
    if sgn T n (nx T n r.2.1) ≠ 63 then (false, nx T n r.2.1, none) else
    if (pz T n e k 2 0 (nx T n r.2.1 + 1) 0).1 = false then (false, (pz T n e k 2 0 (nx T n r.2.1 + 1) 0).2.1, none) else
    (true, (pz T n e k 2 0 (nx T n r.2.1 + 1) 0).2.1, if r.2.2 = 0 then none else some (pz T n e k 2 0 (nx T n r.2.1 + 1) 0).2.2)
  pclB (T : Nat → Nat) (n : Nat) (e : Nat → Int) (k c : Nat) : Bool × Nat × Option Int :=
    if sgn T n c = 33 ∨ sgn T n c = 40 then pclQ T n e k (pz T n e k 6 0 c 0) else
    if (pz T n e k 2 0 c 0).1 = false then (false, (pz T n e k 2 0 c 0).2.1, none) else
    if sgn T n (nx T n (pz T n e k 2 0 c 0).2.1) = 61 ∨ sgn T n (nx T n (pz T n e k 2 0 c 0).2.1) = 60 ∨ sgn T n (nx T n (pz T n e k 2 0 c 0).2.1) = 62 then pclQ T n e k (pz T n e k 13 0 (nx T n (pz T n e k 2 0 c 0).2.1) (pz T n e k 2 0 c 0).2.2) else
    (true, nx T n (pz T n e k 2 0 c 0).2.1, some (pz T n e k 2 0 c 0).2.2)
