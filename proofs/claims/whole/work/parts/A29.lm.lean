/-! the class's reader of laws as a machine on plain numbers; what its code comes to.
State: what waits (latest first), M j = field j (2 phase 3 nested 4 rounds 5 squares 6 conditional 7 answering 8 compared), the code -/
abbrev Lm := List Nat × (Nat → Nat) × List Int32
def stK (x : Nat) : Nat := if x = 124 then 1 else if x = 38 then 2 else if x = 33 then 3 else if x = 61 ∨ x = 60 ∨ x = 62 then 4 else if x = 43 ∨ x = 45 then 5 else if x = 42 ∨ x = 47 then 6 else 0
def negS (x : Nat) : Int32 := - nI x
def rlW (s : Nat) : List Nat → List Nat
  | [] => []
  | x :: w => if s ≤ stK x then rlW s w else x :: w
def rlK (s : Nat) : List Nat → List Int32
  | [] => []
  | x :: w => if s ≤ stK x then negS x :: rlK s w else []
def n33 (x : Nat) : Nat := if x = 33 then 1 else 0
def rlN (s : Nat) : List Nat → Nat
  | [] => 0
  | x :: w => if s ≤ stK x then n33 x + rlN s w else 0
def cnt33 : List Nat → Nat
  | [] => 0
  | x :: w => n33 x + cnt33 w
def lmEnd (M : Nat → Nat) : Bool := decide (M 2 = 4 ∧ M 5 = 0 ∧ M 4 = 0 ∧ (M 7 ≠ 0 ∨ M 6 = 0))
abbrev lmUw (M : Nat → Nat) : Prop := M 5 = 0 ∧ (M 2 = 5 ∨ M 8 ≠ 0)
abbrev lmFit (M : Nat → Nat) (x : Nat) : Prop :=
  ((x = 43 ∨ x = 45 ∨ x = 42 ∨ x = 47) ∧ M 2 = 4) ∨ ((x = 61 ∨ x = 60 ∨ x = 62) ∧ M 2 = 4 ∧ M 5 = 0 ∧ M 8 = 0 ∧ M 7 = 0) ∨
  (x = 93 ∧ M 2 = 4 ∧ M 5 ≠ 0) ∨ ((x = 38 ∨ x = 124) ∧ lmUw M) ∨ (x = 41 ∧ lmUw M ∧ M 4 ≠ 0) ∨ (x = 63 ∧ lmUw M ∧ M 4 = 0) ∨ (x = 59 ∧ lmEnd M = true)
def lmR (x : Nat) (s : Lm) : Lm := (rlW (max 1 (stK x)) s.1, upn s.2.1 3 (s.2.1 3 - rlN (max 1 (stK x)) s.1), s.2.2 ++ rlK (max 1 (stK x)) s.1)
def lmG (x : Nat) (s : Lm) : Lm :=
  if x = 93 then (s.1.tail, upn (upn (upn s.2.1 3 (s.2.1 3 - 1)) 5 (s.2.1 5 - 1)) 2 4, s.2.2) else
  if x = 41 then (s.1.tail, upn (upn (upn s.2.1 3 (s.2.1 3 - 1)) 4 (s.2.1 4 - 1)) 2 5, s.2.2) else
  if x = 59 then (s.1, upn s.2.1 2 0, s.2.2 ++ [negS 59]) else
  if x = 63 then (s.1, upn (upn (upn s.2.1 7 1) 8 0) 2 3, s.2.2 ++ [negS 63]) else
  if x = 38 ∨ x = 124 then (x :: s.1, upn (upn s.2.1 8 0) 2 2, s.2.2) else
  (x :: s.1, if x = 61 ∨ x = 60 ∨ x = 62 then upn (upn (upn s.2.1 8 1) 6 1) 2 3 else upn s.2.1 2 3, s.2.2)
def lmGo (x : Nat) (s : Lm) : Lm := lmG x (lmR x s)
def ltL : List Int32 := [105, 100, 102, 117, 121, 114]
def lco (x : Nat) : Int32 := -1 - (nI (plN ltL (nI x)) - 1)
def opM (x : Nat) (M : Nat → Nat) : Nat → Nat :=
  if x = 91 then upn (upn (upn M 3 (M 3 + 1)) 5 (M 5 + 1)) 2 3 else if x = 40 then upn (upn (upn M 3 (M 3 + 1)) 4 (M 4 + 1)) 6 1 else upn (upn M 3 (M 3 + 1)) 6 1
/-- a sign at c, where no space is, of one who awaits a head, a colon, a unit or an atom -/
def lmTk (T : Nat → Nat) (n c : Nat) (s : Lm) : Bool × Nat × Lm :=
  if s.2.1 2 = 0 then (if sgn T n c = 121 then (true, c + 1, (s.1, upn s.2.1 2 1, s.2.2)) else (false, c, s)) else
  if s.2.1 2 = 1 then (if sgn T n c = 58 then (true, c + 1, (s.1, upn (upn (upn s.2.1 6 0) 7 0) 2 2, s.2.2)) else (false, c, s)) else
  if sgn T n c = 91 ∨ (s.2.1 2 = 2 ∧ (sgn T n c = 33 ∨ sgn T n c = 40)) then
    (if 6 ≤ s.2.1 3 then (false, c, s) else (true, c + 1, (sgn T n c :: s.1, opM (sgn T n c) s.2.1, s.2.2))) else
  if isDN (sgn T n c) = true then (if isDN (sgn T n (rdE T n c 4)) = true then (false, rdE T n c 4, s) else (true, rdE T n c 4, (s.1, upn s.2.1 2 4, s.2.2 ++ [nI (rdV T n c 4)]))) else
  if isLt (sgn T n c) = true then (true, c + 1, (s.1, upn s.2.1 2 4, s.2.2 ++ [lco (sgn T n c)])) else (false, c, s)
def lmM (T : Nat → Nat) (n : Nat) : Nat → Lm → Nat → Bool × Nat × Lm
  | 0, s, c => (lmEnd s.2.1, c, lmGo 59 s)
  | f + 1, s, c =>
    if sgn T n (nx T n c) = 0 then (if lmEnd s.2.1 = true then (true, nx T n c, lmGo 59 s) else (false, nx T n c, s)) else
    if s.2.1 2 < 4 then (if (lmTk T n (nx T n c) s).1 = true then lmM T n f (lmTk T n (nx T n c) s).2.2 (lmTk T n (nx T n c) s).2.1 else lmTk T n (nx T n c) s) else
    if lmFit s.2.1 (sgn T n (nx T n c)) then lmM T n f (lmGo (sgn T n (nx T n c)) s) (nx T n c + 1) else (false, nx T n c, s)
theorem lmM_s (T : Nat → Nat) (n f : Nat) (s : Lm) (c : Nat) : lmM T n (f + 1) s c =
    if sgn T n (nx T n c) = 0 then (if lmEnd s.2.1 = true then (true, nx T n c, lmGo 59 s) else (false, nx T n c, s)) else
    if s.2.1 2 < 4 then (if (lmTk T n (nx T n c) s).1 = true then lmM T n f (lmTk T n (nx T n c) s).2.2 (lmTk T n (nx T n c) s).2.1 else lmTk T n (nx T n c) s) else
    if lmFit s.2.1 (sgn T n (nx T n c)) then lmM T n f (lmGo (sgn T n (nx T n c)) s) (nx T n c + 1) else (false, nx T n c, s) := rfl
theorem lmM_nx (T : Nat → Nat) (n f : Nat) (s : Lm) (c : Nat) (hf : f ≠ 0) : lmM T n f s (nx T n c) = lmM T n f s c := by
  cases f with
  | zero => exact absurd rfl hf
  | succ f => rw [lmM_s, lmM_s, nx_nx]
theorem lmM_e {T : Nat → Nat} {n f : Nat} {s : Lm} {c : Nat} (h0 : sgn T n (nx T n c) = 0) (h : lmEnd s.2.1 = true) : lmM T n (f + 1) s c = (true, nx T n c, lmGo 59 s) := by
  rw [lmM_s, if_pos h0, if_pos h]
theorem lmM_t {T : Nat → Nat} {n f : Nat} {s : Lm} {c c' : Nat} {s' : Lm} (h0 : sgn T n (nx T n c) ≠ 0) (h2 : s.2.1 2 < 4) (h : lmTk T n (nx T n c) s = (true, c', s')) : lmM T n (f + 1) s c = lmM T n f s' c' := by
  rw [lmM_s, if_neg h0, if_pos h2, h, if_pos rfl]
theorem lmM_tn {T : Nat → Nat} {n f : Nat} {s : Lm} {c c' : Nat} {s' : Lm} (h0 : sgn T n (nx T n c) ≠ 0) (h2 : s.2.1 2 < 4) (h : lmTk T n (nx T n c) s = (false, c', s')) : (lmM T n (f + 1) s c).1 = false ∧ (lmM T n (f + 1) s c).2.1 = c' := by
  rw [lmM_s, if_neg h0, if_pos h2, h, if_neg Bool.false_ne_true]; exact ⟨rfl, rfl⟩
theorem lmM_f {T : Nat → Nat} {n f : Nat} {s : Lm} {c : Nat} (h0 : sgn T n (nx T n c) ≠ 0) (h2 : ¬ s.2.1 2 < 4) (h : lmFit s.2.1 (sgn T n (nx T n c))) : lmM T n (f + 1) s c = lmM T n f (lmGo (sgn T n (nx T n c)) s) (nx T n c + 1) := by
  rw [lmM_s, if_neg h0, if_neg h2, if_pos h]
/-- nothing fits -/
theorem lmM_no {T : Nat → Nat} {n f : Nat} {s : Lm} {c : Nat} (h2 : s.2.1 2 = 4 ∨ s.2.1 2 = 5) (he : lmEnd s.2.1 = false) (h : ¬ lmFit s.2.1 (sgn T n (nx T n c))) : (lmM T n (f + 1) s c).1 = false ∧ (lmM T n (f + 1) s c).2.1 = nx T n c := by
  rw [lmM_s]
  by_cases h0 : sgn T n (nx T n c) = 0
  · rw [if_pos h0, if_neg (by rw [he]; decide)]; exact ⟨rfl, rfl⟩
  · rw [if_neg h0, if_neg (by omega), if_neg h]; exact ⟨rfl, rfl⟩
/-- a sign that isn't there, of one who awaits an atom or a unit -/
theorem lmM_0 {T : Nat → Nat} {n f : Nat} {s : Lm} {c : Nat} (h2 : s.2.1 2 < 4) (h0 : sgn T n (nx T n c) = 0) : (lmM T n (f + 1) s c).1 = false ∧ (lmM T n (f + 1) s c).2.1 = nx T n c := by
  rw [lmM_s, if_pos h0, if_neg]
  · exact ⟨rfl, rfl⟩
  · unfold lmEnd
    rw [decide_eq_true_eq]
    omega
/-- what a code comes to -/
def xL (ℓ : Nat → Int32) : List Int32 → Bool → List Int32 → Option Int32
  | [], _, _ => some 0
  | x :: K, sk, st =>
    if sk = true then xL ℓ K (x != -59) st else
    if 0 ≤ x then (if st.length < 64 then xL ℓ K false (x :: st) else none) else
    if -6 ≤ x then (if st.length < 64 then xL ℓ K false (rget 6 ℓ (-1 - x) :: st) else none) else
    if x = -59 then st.head? else
    if x = -63 then (match st with
      | v :: r => xL ℓ K (v == 0) r
      | [] => none) else
    if x = -33 then (match st with
      | v :: r => xL ℓ K false ((1 - v) :: r)
      | [] => none) else
    match st with
      | b :: a :: r => xL ℓ K false (jnI (- x) a b :: r)
      | _ => none
theorem exC_xL (f ℓ : Nat → Int32) (n : Nat) : ∀ (K : List Int32) (k i : Nat) (sk : Bool) (st : List Int32), (∀ j, j < K.length → f (i + j) = K.getD j 0) → n = i + K.length → K.length < k → exC f ℓ n k i sk st = xL ℓ K sk st
  | [], k, i, sk, st => fun _ hn hk => by
    cases k with
    | zero => exact absurd hk (Nat.not_lt_zero _)
    | succ k => rw [exC_s, if_pos (by simp at hn; omega)]; rfl
  | x :: K, k, i, sk, st => fun h hn hk => by
    cases k with
    | zero => exact absurd hk (Nat.not_lt_zero _)
    | succ k =>
      have ih : ∀ sk st, exC f ℓ n k (i + 1) sk st = xL ℓ K sk st := fun sk st => exC_xL f ℓ n K k (i + 1) sk st (fun j hj => by
        have := h (j + 1) (by simp only [List.length_cons]; omega)
        rw [show i + 1 + j = i + (j + 1) by omega, this]; rfl) (by simp only [List.length_cons] at hn; omega) (by simp only [List.length_cons] at hk; omega)
      have hx : f i = x := by have := h 0 (by simp only [List.length_cons]; omega); rw [Nat.add_zero] at this; rw [this]; rfl
      have hl : ¬ n ≤ i := by simp only [List.length_cons] at hn; omega
      rw [exC_s, if_neg hl, hx]
      simp only [ih]
      rfl
/-- a code that puts a number on the stack; r places suffice -/
def EvL (ℓ : Nat → Int32) (r : Nat) (C : List Int32) (z : Int) : Prop := (∀ K st, st.length + r ≤ 64 → xL ℓ (C ++ K) false st = xL ℓ K false (iI z :: st)) ∧ ∀ y, y ∈ C → y ≠ -59
theorem EvL.up {ℓ : Nat → Int32} {r r' : Nat} {C : List Int32} {z : Int} (h : EvL ℓ r C z) (hr : r ≤ r') : EvL ℓ r' C z := ⟨fun K st hs => h.1 K st (by omega), h.2⟩
theorem EvL.num {ℓ : Nat → Int32} {r v : Nat} (hr : 1 ≤ r) (hv : v < 10000) : EvL ℓ r [nI v] v := by
  have h0 : (0 : Int32) ≤ nI v := (n_le (a := 0) (by decide) (by omega)).mpr (Nat.zero_le _)
  refine ⟨fun K st hs => ?_, fun y hy => ?_⟩
  · rw [List.cons_append, List.nil_append, xL.eq_def]
    simp only
    rw [if_neg (by decide), if_pos h0, if_pos (by omega), nI_iI]
  · rw [List.mem_singleton.mp hy]
    intro q
    rw [q] at h0
    exact absurd h0 (by decide)
theorem lco_ok : ∀ x, x < 256 → isLt x = true → ¬ (0 : Int32) ≤ lco x ∧ (-6 : Int32) ≤ lco x ∧ ∃ j, j < 6 ∧ -1 - lco x = nI j ∧ x = [105, 100, 102, 117, 121, 114].getD j 0 := by decide +kernel
theorem isLt_or : ∀ x, x < 256 → isLt x = true → x = 105 ∨ x = 100 ∨ x = 102 ∨ x = 117 ∨ x = 121 ∨ x = 114 := by decide +kernel
theorem EvL.let {ℓ : Nat → Int32} {e : Nat → Int} {r x : Nat} (hr : 1 ≤ r) (hx : x < 256) (hl : isLt x = true) (he : ∀ j, j < 6 → ℓ j = iI (e ([105, 100, 102, 117, 121, 114].getD j 0))) : EvL ℓ r [lco x] (e x) := by
  obtain ⟨h0, h6, j, hj, h1, hxe⟩ := lco_ok x hx hl
  refine ⟨fun K st hs => ?_, fun y hy => ?_⟩
  · rw [List.cons_append, List.nil_append, xL.eq_def]
    simp only
    rw [if_neg (by decide), if_neg h0, if_pos h6, if_pos (by omega), rget_n ℓ h1 hj (by decide), he j hj, ← hxe]
  · rw [List.mem_singleton.mp hy]
    intro q
    rw [q] at h6
    exact absurd h6 (by decide)
theorem vZ_iI {z : Int} (h : bd6 z) : VZ (iI z) z := by
  unfold bd6 at h
  show (iI z).toInt = z
  exact iI_toInt (by omega) (by omega)
theorem jn_ar {x : Nat} {v w : Int} (hx : x = 42 ∨ x = 47 ∨ x = 43 ∨ x = 45) (hv : bd6 v) (hw : bd6 w) : jnI (nI x) (iI v) (iI w) = iI (jnZ x v w) := by
  have av := vLi (vZ_iI hv)
  have aw := vLi (vZ_iI hw)
  rcases hx with rfl | rfl | rfl | rfl
  · exact wi_ok (z := v * w) (vL_mul av aw hv hw)
  · show wiI (if iI w = 0 then 0 else (iI v).toInt64 / (iI w).toInt64) = iI (bdI (if w = 0 then 0 else v.tdiv w))
    have hz : iI w = 0 ↔ w = 0 := by
      unfold bd6 at hw
      rw [show (0 : Int32) = iI 0 by decide]
      exact iI_eq (by omega) (by omega) (by omega) (by omega)
    by_cases c : w = 0
    · rw [if_pos c, if_pos (hz.mpr c)]; decide
    · rw [if_neg c, if_neg (fun q => c (hz.mp q))]; exact wi_ok (vL_div av aw hv)
  · exact wi_ok (z := v + w) (vL_add av aw hv hw)
  · exact wi_ok (z := v - w) (vL_sub av aw hv hw)
theorem wi_01 (p : Prop) [Decidable p] : wiI (if p then 1 else 0) = iI (if p then 1 else 0) := by
  by_cases c : p
  · rw [if_pos c, if_pos c]; decide
  · rw [if_neg c, if_neg c]; decide
theorem jn_cmp {x : Nat} {v w : Int} (hx : x = 61 ∨ x = 60 ∨ x = 62) (hv : bd6 v) (hw : bd6 w) : jnI (nI x) (iI v) (iI w) = iI (cmpZ x v w) := by
  unfold bd6 at hv hw
  rcases hx with rfl | rfl | rfl
  · show wiI (if iI v = iI w then 1 else 0) = iI (if v = w then 1 else 0)
    rw [wi_01]
    have := iI_eq (a := v) (b := w) (by omega) (by omega) (by omega) (by omega)
    by_cases c : v = w
    · rw [if_pos c, if_pos (this.mpr c)]
    · rw [if_neg c, if_neg (fun q => c (this.mp q))]
  · show wiI (if iI v < iI w then 1 else 0) = iI (if v < w then 1 else 0)
    rw [wi_01]
    have := iI_lt (a := v) (b := w) (by omega) (by omega) (by omega) (by omega)
    by_cases c : v < w
    · rw [if_pos c, if_pos (this.mpr c)]
    · rw [if_neg c, if_neg (fun q => c (this.mp q))]
  · show wiI (if iI w < iI v then 1 else 0) = iI (if w < v then 1 else 0)
    rw [wi_01]
    have := iI_lt (a := w) (b := v) (by omega) (by omega) (by omega) (by omega)
    by_cases c : w < v
    · rw [if_pos c, if_pos (this.mpr c)]
    · rw [if_neg c, if_neg (fun q => c (this.mp q))]
theorem jn_and {v w : Int} (hv : v = 0 ∨ v = 1) (hw : w = 0 ∨ w = 1) : jnI (nI 38) (iI v) (iI w) = iI (andZ v w) := by
  rcases hv with rfl | rfl <;> rcases hw with rfl | rfl <;> decide
theorem jn_or {v w : Int} (hv : v = 0 ∨ v = 1) (hw : w = 0 ∨ w = 1) : jnI (nI 124) (iI v) (iI w) = iI (orZ v w) := by
  rcases hv with rfl | rfl <;> rcases hw with rfl | rfl <;> decide
def opS (x : Nat) : Prop := x = 42 ∨ x = 47 ∨ x = 43 ∨ x = 45 ∨ x = 61 ∨ x = 60 ∨ x = 62 ∨ x = 38 ∨ x = 124
theorem EvL.bin {ℓ : Nat → Int32} {r r2 R x : Nat} {C C2 : List Int32} {v w z : Int} (h1 : EvL ℓ r C v) (h2 : EvL ℓ r2 C2 w) (hr : r ≤ R) (hr2 : r2 + 1 ≤ R) (hx : opS x) (e : jnI (nI x) (iI v) (iI w) = iI z) : EvL ℓ R (C ++ C2 ++ [negS x]) z := by
  have hn : - negS x = nI x := Int32.neg_neg
  have hh : ¬ (0 : Int32) ≤ negS x ∧ ¬ (-6 : Int32) ≤ negS x ∧ negS x ≠ -59 ∧ negS x ≠ -63 ∧ negS x ≠ -33 := by
    rcases hx with rfl | rfl | rfl | rfl | rfl | rfl | rfl | rfl | rfl <;> decide
  refine ⟨fun K st hs => ?_, fun y hy => ?_⟩
  · rw [List.append_assoc, List.append_assoc, h1.1 _ st (by omega), h2.1 _ (iI v :: st) (by simp only [List.length_cons]; omega)]
    rw [List.cons_append, List.nil_append, xL.eq_def]
    simp only
    rw [if_neg (by decide), if_neg hh.1, if_neg hh.2.1, if_neg hh.2.2.1, if_neg hh.2.2.2.1, if_neg hh.2.2.2.2, hn, e]
  · rcases List.mem_append.mp hy with q | q
    · rcases List.mem_append.mp q with q | q
      · exact h1.2 y q
      · exact h2.2 y q
    · rw [List.mem_singleton.mp q]; exact hh.2.2.1
theorem EvL.no {ℓ : Nat → Int32} {r : Nat} {C : List Int32} {v : Int} (h1 : EvL ℓ r C v) (hv : v = 0 ∨ v = 1) : EvL ℓ r (C ++ [negS 33]) (if v = 0 then 1 else 0) := by
  refine ⟨fun K st hs => ?_, fun y hy => ?_⟩
  · rw [List.append_assoc, h1.1 _ st hs, List.cons_append, List.nil_append, xL.eq_def]
    simp only
    rw [if_neg (by decide), if_neg (by decide), if_neg (by decide), if_neg (by decide), if_neg (by decide), if_pos (by decide)]
    rcases hv with rfl | rfl
    · rw [if_pos rfl]; exact congrArg (fun y => xL ℓ K false (y :: st)) (by decide)
    · rw [if_neg (by decide)]; exact congrArg (fun y => xL ℓ K false (y :: st)) (by decide)
  · rcases List.mem_append.mp hy with q | q
    · exact h1.2 y q
    · rw [List.mem_singleton.mp q]; decide
/-- s: from b on a number z was read; what waits above b binds as L or more -/
def Sm (ℓ : Nat → Int32) (L r : Nat) (b : Lm) (z : Int) (s : Lm) : Prop :=
  (∃ ops C, s.1 = ops ++ b.1 ∧ (∀ o, o ∈ ops → L ≤ stK o) ∧ s.2.2 ++ ops.map negS = b.2.2 ++ C ∧ EvL ℓ r C z ∧ s.2.1 3 = b.2.1 3 + cnt33 ops) ∧ bd6 z ∧ s.2.1 4 = b.2.1 4 ∧ s.2.1 5 = b.2.1 5 ∧ s.2.1 7 = b.2.1 7
theorem Sm.mono {ℓ : Nat → Int32} {L L' r r' : Nat} {b s : Lm} {z : Int} (h : Sm ℓ L r b z s) (hL : L' ≤ L) (hr : r ≤ r') : Sm ℓ L' r' b z s := by
  obtain ⟨⟨ops, C, h1, h2, h3, h4, h5⟩, h6⟩ := h
  exact ⟨⟨ops, C, h1, fun o ho => Nat.le_trans hL (h2 o ho), h3, h4.up hr, h5⟩, h6⟩
def tsW : List Nat → Nat
  | [] => 0
  | x :: _ => stK x
theorem rl_ok {st : Nat} {w : List Nat} (hw : tsW w < st) : ∀ ops : List Nat, (∀ o, o ∈ ops → st ≤ stK o) → rlW st (ops ++ w) = w ∧ rlK st (ops ++ w) = ops.map negS ∧ rlN st (ops ++ w) = cnt33 ops
  | [] => fun _ => by
    cases w with
    | nil => exact ⟨rfl, rfl, rfl⟩
    | cons x w =>
      have : ¬ st ≤ stK x := by have : stK x < st := hw; omega
      simp only [List.nil_append, rlW, rlK, rlN]
      rw [if_neg this, if_neg this, if_neg this]
      exact ⟨rfl, rfl, rfl⟩
  | x :: ops => fun h => by
    have h1 := h x List.mem_cons_self
    obtain ⟨a, b, c⟩ := rl_ok hw ops (fun o ho => h o (List.mem_cons_of_mem _ ho))
    simp only [List.cons_append, rlW, rlK, rlN]
    rw [if_pos h1, if_pos h1, if_pos h1, a, b, c]
    exact ⟨rfl, rfl, rfl⟩
theorem lmR_ok {ℓ : Nat → Int32} {L r x : Nat} {b s : Lm} {z : Int} (h : Sm ℓ L r b z s) (h1 : tsW b.1 < max 1 (stK x)) (h2 : max 1 (stK x) ≤ L) : ∃ C, EvL ℓ r C z ∧ (lmR x s).1 = b.1 ∧ (lmR x s).2.2 = b.2.2 ++ C ∧ (lmR x s).2.1 3 = b.2.1 3 ∧ ∀ j, j ≠ 3 → (lmR x s).2.1 j = s.2.1 j := by
  obtain ⟨⟨ops, C, e1, e2, e3, e4, e5⟩, -⟩ := h
  obtain ⟨a1, a2, a3⟩ := rl_ok (st := max 1 (stK x)) h1 ops (fun o ho => Nat.le_trans h2 (e2 o ho))
  rw [← e1] at a1 a2 a3
  unfold lmR
  refine ⟨C, e4, a1, ?_, ?_, fun j hj => upn_ne _ _ hj⟩
  · rw [← e3]; exact congrArg (s.2.2 ++ ·) a2
  · show upn s.2.1 3 (s.2.1 3 - rlN (max 1 (stK x)) s.1) 3 = _
    rw [upn_eq, a3, e5]; omega
/-- a sign of two sides is put on, the right side is read -/
theorem Sm.bin {ℓ : Nat → Int32} {L2 L r r2 R x : Nat} {b b1 s2 : Lm} {C : List Int32} {v w z : Int} (h1 : EvL ℓ r C v) (hw : b1.1 = x :: b.1) (hk : b1.2.2 = b.2.2 ++ C) (hM : b1.2.1 3 = b.2.1 3 ∧ b1.2.1 4 = b.2.1 4 ∧ b1.2.1 5 = b.2.1 5 ∧ b1.2.1 7 = b.2.1 7) (h : Sm ℓ L2 r2 b1 w s2) (hL : L ≤ L2) (hx : L ≤ stK x) (ho : opS x) (hr : r ≤ R) (hr2 : r2 + 1 ≤ R) (e : jnI (nI x) (iI v) (iI w) = iI z) (hz : bd6 z) : Sm ℓ L R b z s2 := by
  obtain ⟨⟨ops, C2, e1, e2, e3, e4, e5⟩, -, f4, f5, f7⟩ := h
  refine ⟨⟨ops ++ [x], C ++ C2 ++ [negS x], by rw [e1, hw, List.append_assoc]; rfl, fun o ho => ?_, ?_, h1.bin e4 hr hr2 ho e, ?_⟩, hz, f4.trans hM.2.1, f5.trans hM.2.2.1, f7.trans hM.2.2.2⟩
  · rcases List.mem_append.mp ho with q | q
    · exact Nat.le_trans hL (e2 o q)
    · rw [List.mem_singleton.mp q]; exact hx
  · rw [List.map_append, ← List.append_assoc, e3, hk]
    simp only [List.append_assoc]; rfl
  · have : ∀ l : List Nat, cnt33 (l ++ [x]) = cnt33 l := by
      intro l
      induction l with
      | nil =>
        show n33 x + 0 = 0
        unfold n33
        rw [if_neg]
        rcases ho with rfl | rfl | rfl | rfl | rfl | rfl | rfl | rfl | rfl <;> decide
      | cons y l i => show n33 y + cnt33 (l ++ [x]) = n33 y + cnt33 l; rw [i]
    rw [this, e5, hM.1]
def Sc (T : Nat → Nat) (n f : Nat) (s : Lm) (c : Nat) (r : Bool × Nat × Int) (P : Lm → Int → Nat → Prop) : Prop :=
  (r.1 = false → (lmM T n f s c).1 = false ∧ (lmM T n f s c).2.1 = r.2.1) ∧
  (r.1 = true → ∃ s' f', lmM T n f s c = lmM T n f' s' r.2.1 ∧ n - r.2.1 < f' ∧ P s' r.2.2 r.2.1)
section SIMU
variable {T : Nat → Nat} {n f f' : Nat} {s s' : Lm} {c c' : Nat} {r : Bool × Nat × Int} {P Q : Lm → Int → Nat → Prop}
theorem Sc.mv (h : lmM T n f s c = lmM T n f' s' c') (g : Sc T n f' s' c' r P) : Sc T n f s c r P := by unfold Sc; rw [h]; exact g
theorem Sc.imp (h : Sc T n f s c r P) (g : r.1 = true → ∀ s', P s' r.2.2 r.2.1 → Q s' r.2.2 r.2.1) : Sc T n f s c r Q := ⟨h.1, fun q => by obtain ⟨a, b, c, d, e⟩ := h.2 q; exact ⟨a, b, c, d, g q _ e⟩⟩
theorem Sc.bdd {F : Nat → Int → Bool × Nat × Int} (h : Sc T n f s c r P) (g : r.1 = true → ∀ s' f', n - r.2.1 < f' → P s' r.2.2 r.2.1 → Sc T n f' s' r.2.1 (F r.2.1 r.2.2) Q) : Sc T n f s c (pb r F) Q := by
  cases hr : r.1 with
  | false => rw [pb_f hr]; exact ⟨fun _ => h.1 hr, fun q => by cases q⟩
  | true =>
    rw [pb_t hr]
    obtain ⟨a, b, c, d, e⟩ := h.2 hr
    exact Sc.mv c (g hr a b d e)
theorem Sc.ret {z : Int} (hf : n - c < f) (h : P s z c) : Sc T n f s c (true, c, z) P := ⟨fun q => (by cases q), fun _ => ⟨s, f, rfl, hf, h⟩⟩
theorem Sc.rn {z : Int} (hf : n - c < f) (h : P s z (nx T n c)) : Sc T n f s c (true, nx T n c, z) P := Sc.mv (lmM_nx T n f s c (by omega)).symm (Sc.ret (by have := nx_b T n c; omega) h)
theorem Sc.no {z : Int} (h : (lmM T n f s c).1 = false ∧ (lmM T n f s c).2.1 = c') : Sc T n f s c (false, c', z) P := ⟨fun _ => h, fun q => by cases q⟩
end SIMU
def qx (L : Nat) (s : Lm) (x : Nat) : Prop := (s.2.1 2 = 4 → (L ≤ 6 → x ≠ 42 ∧ x ≠ 47) ∧ (L ≤ 5 → x ≠ 43 ∧ x ≠ 45)) ∧ (L ≤ 2 → x ≠ 38) ∧ (L ≤ 1 → x ≠ 124)
def PS (T : Nat → Nat) (n : Nat) (ℓ : Nat → Int32) (L Lq r : Nat) (b : Lm) (s : Lm) (z : Int) (q : Nat) : Prop := Sm ℓ L r b z s ∧ s.2.1 2 = 4 ∧ s.2.1 6 = b.2.1 6 ∧ s.2.1 8 = b.2.1 8 ∧ qx Lq s (sgn T n (nx T n q))
def PC (T : Nat → Nat) (n : Nat) (ℓ : Nat → Int32) (L Lq r : Nat) (b : Lm) (s : Lm) (z : Int) (q : Nat) : Prop := Sm ℓ L r b z s ∧ s.2.1 6 = 1 ∧ (z = 0 ∨ z = 1) ∧ (s.2.1 2 = 5 ∨ s.2.1 2 = 4 ∧ s.2.1 8 = 1) ∧ qx Lq s (sgn T n (nx T n q))
def EH (T : Nat → Nat) (n : Nat) (e : Nat → Int) (ℓ : Nat → Int32) : Prop := (∀ s, bd6 (e s)) ∧ (∀ i, sgn T n i < 256) ∧ ∀ j, j < 6 → ℓ j = iI (e ([105, 100, 102, 117, 121, 114].getD j 0))
def SimS (T : Nat → Nat) (n : Nat) (e : Nat → Int) (ℓ : Nat → Int32) (m B L r rk k : Nat) : Prop := ∀ b dp c v f, (b.2.1 2 = 3 ∨ (b.2.1 2 = 2 ∧ sgn T n (nx T n c) ≠ 33 ∧ sgn T n (nx T n c) ≠ 40)) → b.2.1 3 = dp → dp ≤ 6 → tsW b.1 < B → c ≤ n → n - c < f → 16 * (n - c) + rk ≤ k → Sc T n f b c (pz T n e k m dp c v) (PS T n ℓ L L (6 * (6 - dp) + r) b)
def SimT (T : Nat → Nat) (n : Nat) (e : Nat → Int) (ℓ : Nat → Int32) (m B r k : Nat) : Prop := ∀ b s dp c v f, PS T n ℓ B (B + 1) (6 * (6 - dp) + r) b s v c → b.2.1 3 = dp → dp ≤ 6 → tsW b.1 < B → c ≤ n → n - c < f → 16 * (n - c) + 1 ≤ k → Sc T n f s c (pz T n e k m dp c v) (PS T n ℓ B B (6 * (6 - dp) + r) b)
def SimU (T : Nat → Nat) (n : Nat) (e : Nat → Int) (ℓ : Nat → Int32) (m B L r rk k : Nat) : Prop := ∀ b dp c v f, b.2.1 2 = 2 → b.2.1 5 = 0 → b.2.1 7 = 0 → b.2.1 8 = 0 → (if m = 3 then b.2.1 6 = 1 ∧ sgn T n (nx T n c) ≠ 33 ∧ sgn T n (nx T n c) ≠ 40 else b.2.1 6 = 1 ∨ sgn T n (nx T n c) = 33 ∨ sgn T n (nx T n c) = 40) → b.2.1 3 = dp → dp ≤ 6 → tsW b.1 < B → c ≤ n → n - c < f → 16 * (n - c) + rk ≤ k → Sc T n f b c (pz T n e k m dp c v) (PC T n ℓ L L (6 * (6 - dp) + r) b)
def SimC (T : Nat → Nat) (n : Nat) (e : Nat → Int) (ℓ : Nat → Int32) (m B L r rk k : Nat) : Prop := ∀ b s dp c v f, PS T n ℓ 5 5 (6 * (6 - dp) + 3) b s v c → b.2.1 5 = 0 → b.2.1 7 = 0 → b.2.1 8 = 0 → (b.2.1 6 = 1 ∨ sgn T n (nx T n c) = 61 ∨ sgn T n (nx T n c) = 60 ∨ sgn T n (nx T n c) = 62) → b.2.1 3 = dp → dp ≤ 6 → tsW b.1 < B → c ≤ n → n - c < f → 16 * (n - c) + rk ≤ k → Sc T n f s c (pz T n e k m dp c v) (PC T n ℓ L L (6 * (6 - dp) + r) b)
def SimL (T : Nat → Nat) (n : Nat) (e : Nat → Int) (ℓ : Nat → Int32) (m B r k : Nat) : Prop := ∀ b s dp c v f, PC T n ℓ B (B + 1) (6 * (6 - dp) + r) b s v c → b.2.1 5 = 0 → b.2.1 7 = 0 → b.2.1 3 = dp → dp ≤ 6 → tsW b.1 < B → c ≤ n → n - c < f → 16 * (n - c) + 1 ≤ k → Sc T n f s c (pz T n e k m dp c v) (PC T n ℓ B B (6 * (6 - dp) + r) b)
def SimAll (T : Nat → Nat) (n : Nat) (e : Nat → Int) (ℓ : Nat → Int32) (k : Nat) : Prop := SimS T n e ℓ 0 7 7 1 1 k ∧ SimS T n e ℓ 1 6 6 2 2 k ∧ SimS T n e ℓ 2 5 5 3 3 k ∧ SimU T n e ℓ 3 4 4 4 4 k ∧ SimU T n e ℓ 4 4 3 4 5 k ∧ SimU T n e ℓ 5 2 2 5 6 k ∧ SimU T n e ℓ 6 1 1 6 7 k ∧ SimT T n e ℓ 7 6 2 k ∧ SimT T n e ℓ 8 5 3 k ∧ SimL T n e ℓ 9 2 5 k ∧ SimL T n e ℓ 10 1 6 k ∧ SimC T n e ℓ 11 4 4 4 1 k ∧ SimC T n e ℓ 12 2 2 5 2 k ∧ SimC T n e ℓ 13 1 1 6 3 k
theorem SimAll.m0 {T : Nat → Nat} {n : Nat} {e : Nat → Int} {ℓ : Nat → Int32} {k : Nat} (h : SimAll T n e ℓ k) : SimS T n e ℓ 0 7 7 1 1 k := h.1
theorem SimAll.m1 {T : Nat → Nat} {n : Nat} {e : Nat → Int} {ℓ : Nat → Int32} {k : Nat} (h : SimAll T n e ℓ k) : SimS T n e ℓ 1 6 6 2 2 k := h.2.1
theorem SimAll.m2 {T : Nat → Nat} {n : Nat} {e : Nat → Int} {ℓ : Nat → Int32} {k : Nat} (h : SimAll T n e ℓ k) : SimS T n e ℓ 2 5 5 3 3 k := h.2.2.1
theorem SimAll.m3 {T : Nat → Nat} {n : Nat} {e : Nat → Int} {ℓ : Nat → Int32} {k : Nat} (h : SimAll T n e ℓ k) : SimU T n e ℓ 3 4 4 4 4 k := h.2.2.2.1
theorem SimAll.m4 {T : Nat → Nat} {n : Nat} {e : Nat → Int} {ℓ : Nat → Int32} {k : Nat} (h : SimAll T n e ℓ k) : SimU T n e ℓ 4 4 3 4 5 k := h.2.2.2.2.1
theorem SimAll.m5 {T : Nat → Nat} {n : Nat} {e : Nat → Int} {ℓ : Nat → Int32} {k : Nat} (h : SimAll T n e ℓ k) : SimU T n e ℓ 5 2 2 5 6 k := h.2.2.2.2.2.1
theorem SimAll.m6 {T : Nat → Nat} {n : Nat} {e : Nat → Int} {ℓ : Nat → Int32} {k : Nat} (h : SimAll T n e ℓ k) : SimU T n e ℓ 6 1 1 6 7 k := h.2.2.2.2.2.2.1
theorem SimAll.m7 {T : Nat → Nat} {n : Nat} {e : Nat → Int} {ℓ : Nat → Int32} {k : Nat} (h : SimAll T n e ℓ k) : SimT T n e ℓ 7 6 2 k := h.2.2.2.2.2.2.2.1
theorem SimAll.m8 {T : Nat → Nat} {n : Nat} {e : Nat → Int} {ℓ : Nat → Int32} {k : Nat} (h : SimAll T n e ℓ k) : SimT T n e ℓ 8 5 3 k := h.2.2.2.2.2.2.2.2.1
theorem SimAll.m9 {T : Nat → Nat} {n : Nat} {e : Nat → Int} {ℓ : Nat → Int32} {k : Nat} (h : SimAll T n e ℓ k) : SimL T n e ℓ 9 2 5 k := h.2.2.2.2.2.2.2.2.2.1
theorem SimAll.m10 {T : Nat → Nat} {n : Nat} {e : Nat → Int} {ℓ : Nat → Int32} {k : Nat} (h : SimAll T n e ℓ k) : SimL T n e ℓ 10 1 6 k := h.2.2.2.2.2.2.2.2.2.2.1
theorem SimAll.m11 {T : Nat → Nat} {n : Nat} {e : Nat → Int} {ℓ : Nat → Int32} {k : Nat} (h : SimAll T n e ℓ k) : SimC T n e ℓ 11 4 4 4 1 k := h.2.2.2.2.2.2.2.2.2.2.2.1
theorem SimAll.m12 {T : Nat → Nat} {n : Nat} {e : Nat → Int} {ℓ : Nat → Int32} {k : Nat} (h : SimAll T n e ℓ k) : SimC T n e ℓ 12 2 2 5 2 k := h.2.2.2.2.2.2.2.2.2.2.2.2.1
theorem SimAll.m13 {T : Nat → Nat} {n : Nat} {e : Nat → Int} {ℓ : Nat → Int32} {k : Nat} (h : SimAll T n e ℓ k) : SimC T n e ℓ 13 1 1 6 3 k := h.2.2.2.2.2.2.2.2.2.2.2.2.2
