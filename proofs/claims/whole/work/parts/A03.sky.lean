/-! Course: skipping a year against passing to its end -/
def kcC (q : Nat) : Prop := q < 6 ∨ (12 ≤ q ∧ q < 18) ∨ (138 ≤ q ∧ q < 142) ∨ (143 ≤ q ∧ q < 146)
def agN (F F' : Nat → Nat) : Prop := ∀ q, kcC q → F q = F' q
def wgN (F F' : Nat → Nat) : Prop := ∀ q, kcC q → q ≠ 140 → q ≠ 141 → q ≠ 145 → F q = F' q
theorem agN.w {F F' : Nat → Nat} (h : agN F F') : wgN F F' := fun q hq _ _ _ => h q hq
theorem agN.tr {F F' F'' : Nat → Nat} (h : agN F F') (g : agN F' F'') : agN F F'' := fun q hq => (h q hq).trans (g q hq)
theorem wgN.dn {F F' : Nat → Nat} (h : wgN F F') : ∀ j, j ≤ 6 → dnN F j = dnN F' j
  | 0 => fun _ => rfl
  | j + 1 => fun hj => by
    rw [dnN, dnN, h.dn j (by omega), h 138 (by unfold kcC; omega) (by omega) (by omega) (by omega), h j (by unfold kcC; omega) (by omega) (by omega) (by omega)]
theorem wgN.gv {F F' : Nat → Nat} (h : wgN F F') (h6 : F' 143 ≤ 6) : gvN F = gvN F' := by
  unfold gvN
  rw [h 143 (by unfold kcC; omega) (by omega) (by omega) (by omega)]
  by_cases c : F' 143 = 0
  · rw [if_pos c, if_pos c]
  · rw [if_neg c, if_neg c]; exact h _ (by unfold kcC; omega) (by omega) (by omega) (by omega)
theorem wgN.up {P F F' : Nat → Nat} (h : wgN F F') : upc P F = upc P F' := by
  unfold upc; rw [h 138 (by unfold kcC; omega) (by omega) (by omega) (by omega)]
theorem wgN.wor {P F F' : Nat → Nat} {w : Wt} (h : wgN F F') (h6 : F' 143 ≤ 6) (d f u : Nat) : worV P w F d f u = worV P w F' d f u := by
  unfold worV
  cases w with
  | none => rfl
  | some g => rw [h.gv h6, h 144 (by unfold kcC; omega) (by omega) (by omega) (by omega)]
theorem trn_ag {P F F' : Nat → Nat} (h34 : P 34 ≤ 6) (h : wgN F F') (x : Nat) : agN (trnN P F x) (trnN P F' x) := by
  intro q hq
  unfold trnN
  by_cases c1 : q < 6
  · rw [if_pos c1, if_pos c1, h q hq (by omega) (by omega) (by omega)]
  rw [if_neg c1, if_neg c1]
  by_cases c2 : 12 ≤ q ∧ q < 12 + P 34
  · rw [if_pos c2, if_pos c2]
  rw [if_neg c2, if_neg c2]
  by_cases c3 : q = 140 ∨ q = 141 ∨ q = 145
  · rw [if_pos c3, if_pos c3]
  rw [if_neg c3, if_neg c3]
  by_cases c4 : q = 143
  · rw [if_pos c4, if_pos c4]
  rw [if_neg c4, if_neg c4]
  by_cases c5 : q = 144
  · rw [if_pos c5, if_pos c5, h 144 (by unfold kcC; omega) (by omega) (by omega) (by omega)]
  rw [if_neg c5, if_neg c5]
  exact h q hq (by omega) (by omega) (by omega)
theorem seen_l {P S : Nat → Nat} {w : Wt} (h35 : P 35 ≤ 6) (hd : S 145 < 30) : seenN P w S (18 + S 145) = litN P w S (S 145) (S 139) (upc P S) := by
  unfold seenN
  rw [brs_at (by omega) (by omega) _ h35, upn_ne _ _ (by omega), upn_eq]
theorem seen_d {P S : Nat → Nat} {w : Wt} (h35 : P 35 ≤ 6) (hd : S 145 < 30) : seenN P w S (48 + S 145) = dnN S (P 35) := by
  unfold seenN
  rw [brs_at (by omega) (by omega) _ h35, upn_eq]
theorem nxd_o {X : Nat → Nat} {d q : Nat} (h0 : q ≠ 140) (h1 : q ≠ 141) (h5 : q ≠ 145) : nextN X d q = X q := by
  unfold nextN
  rw [upn_ne _ _ h5, upn_ne _ _ h1, upn_ne _ _ h0]
/-- a year on its way: what a state holds after i days of it -/
def skI (P : Nat → Nat) (w : Wt) (F S : Nat → Nat) (i : Nat) : Prop :=
  S 145 = F 145 + i ∧ wgN S F ∧ (i ≠ 0 → S 140 = 0 ∧ S 141 = 0) ∧ (i = 0 → S = F) ∧ ∀ d, d < F 145 + i → S (18 + d) = lofN P w F (upc P F) d ∧ S (48 + d) = donN P F d
theorem skI_0 (P : Nat → Nat) (w : Wt) (F : Nat → Nat) : skI P w F F 0 :=
  ⟨rfl, fun _ _ _ _ _ => rfl, fun h => absurd rfl h, fun _ => rfl, fun d hd => ⟨by unfold lofN; rw [if_pos (by omega)], by unfold donN; rw [if_pos (by omega)]⟩⟩
theorem skI_lit {P F S : Nat → Nat} {w : Wt} {i : Nat} (hS : SB P F) (h : skI P w F S i) : litN P w S (S 145) (S 139) (upc P S) = lofN P w F (upc P F) (F 145 + i) := by
  obtain ⟨h1, h2, h3, h4, h5⟩ := h
  have g6 : F 143 ≤ 6 := hS.2.2.2.2.2.2.2.2.2.2.2.1
  unfold lofN
  rw [if_neg (by omega)]
  by_cases c : i = 0
  · rw [h4 c, c]; rfl
  · obtain ⟨e0, e1⟩ := h3 c
    rw [h2.up, h2 139 (by unfold kcC; omega) (by omega) (by omega) (by omega), h1]
    unfold litN
    rw [if_neg (by omega), if_pos h1.symm, if_neg (by omega), if_neg (by omega), e1, h2.wor g6]
    have := clN_le (worV P w F (F 145 + i) (F 139) (upc P F))
    omega
theorem skI_s {P F S : Nat → Nat} {w : Wt} {i : Nat} (hP : PB P) (hS : SB P F) (h : skI P w F S i) (hi : F 145 + i < P 0) : skI P w F (nextN (seenN P w S) (S 145 + 1)) (i + 1) := by
  have hl := skI_lit hS h
  obtain ⟨h1, h2, h3, h4, h5⟩ := h
  have p0 := hP.2.1
  have p35 := hP.2.2.2.2.2.2.2.1
  have p34 := hP.2.2.2.2.2.1
  refine ⟨?_, fun q hq q0 q1 q5 => ?_, fun _ => ⟨?_, ?_⟩, fun c => by omega, fun d hd => ?_⟩
  · unfold nextN; rw [upn_eq]; omega
  · rw [nxd_o q0 q1 q5, seen_o p35 (by unfold kcC at hq; omega) (by unfold kcC at hq; omega) (by unfold kcC at hq; omega) (by unfold kcC at hq; omega)]
    exact h2 q hq q0 q1 q5
  · unfold nextN; rw [upn_ne _ _ (by decide), upn_ne _ _ (by decide), upn_eq]
  · unfold nextN; rw [upn_ne _ _ (by decide), upn_eq]
  · rw [nxd_o (by omega) (by omega) (by omega), nxd_o (by omega) (by omega) (by omega)]
    by_cases c : d = S 145
    · rw [c, seen_l p35 (by omega), seen_d p35 (by omega), hl, h1]
      refine ⟨rfl, ?_⟩
      unfold donN
      rw [if_neg (by omega)]
      exact h2.dn _ p35
    · rw [seen_o p35 (by omega) (by omega) (by omega) (by omega), seen_o p35 (by omega) (by omega) (by omega) (by omega)]
      exact h5 d (by omega)
theorem skI_e {P F S : Nat → Nat} {w : Wt} {i : Nat} (hP : PB P) (h : skI P w F S i) (hi : F 145 + i = P 0) : agN (eyN P S) (skN P w F) := by
  obtain ⟨h1, h2, h3, h4, h5⟩ := h
  have p0 := hP.1
  have p34 := hP.2.2.2.2.2.1
  have hk : dkN S (S 145) = amn (lofN P w F (upc P F)) (P 0) := by
    rw [dkN_amn, h1, hi]
    exact amn_congr _ (fun d hd => (h5 d (by omega)).1)
  have ha := amn_le (lofN P w F (upc P F)) (P 0)
  have hx := (h5 (amn (lofN P w F (upc P F)) (P 0) - 1) (by omega)).2
  intro q hq
  have hm : S 144 % 60 < 60 := Nat.mod_lt _ (by decide)
  unfold eyN skN
  rw [upn_ne _ _ (by unfold kcC at hq; omega), hk, hx]
  have e : (if F 145 = 0 then dnN F (P 35) else donN P F (amn (lofN P w F (upc P F)) (P 0) - 1)) = donN P F (amn (lofN P w F (upc P F)) (P 0) - 1) := by
    by_cases c : F 145 = 0
    · rw [if_pos c]; unfold donN; rw [if_neg (by omega)]
    · rw [if_neg c]
  rw [e]
  exact trn_ag p34 h2 _ q hq
theorem gyR_sk {P F : Nat → Nat} {w : Wt} (hP : PB P) (hS : SB P F) : ∀ (n i : Nat) (S : Nat → Nat), skI P w F S i → F 145 + i < P 0 → n = P 0 - (F 145 + i) → agN (gyR P w n S) (skN P w F) := by
  intro n
  induction n with
  | zero => intro i S h h1 h2; omega
  | succ n ih =>
    intro i S h h1 h2
    have hn := skI_s hP hS h h1
    have h5 := pd_145 P w S hP.2.2.2.2.2.1
    have e := h.1
    have e1 := hn.1
    unfold gyR
    by_cases c : P 0 ≤ S 145 + 1
    · rw [if_pos c] at h5
      rw [if_pos h5]
      unfold pdN
      rw [if_pos c]
      exact skI_e hP hn (by omega)
    · rw [if_neg c] at h5
      rw [if_neg (by omega)]
      have ep : pdN P w S = nextN (seenN P w S) (S 145 + 1) := by unfold pdN; rw [if_neg c]
      rw [ep]
      exact ih (i + 1) _ hn (by omega) (by omega)
theorem goY_sk {P F : Nat → Nat} {w : Wt} (hP : PB P) (hS : SB P F) : agN (goY P w F) (skN P w F) := gyR_sk hP hS _ 0 F (skI_0 P w F) (by have := hS.2.2.2.2.2.2.2.2.2.2.2.2.2.1; omega) rfl
theorem sk_ag {P F F' : Nat → Nat} {w : Wt} (hP : PB P) (h : agN F F') (h0 : F 145 = 0) : agN (skN P w F) (skN P w F') := by
  have p34 := hP.2.2.2.2.2.1
  have p35 := hP.2.2.2.2.2.2.2.1
  have h0' : F' 145 = 0 := by rw [← h 145 (by unfold kcC; omega)]; exact h0
  unfold skN
  rw [if_pos h0, if_pos h0', h.w.dn _ p35]
  exact trn_ag p34 h.w _
theorem it_sk {P F : Nat → Nat} {w : Wt} (hP : PB P) (hS : SB P F) (hy : F 144 ≤ 999) : ∀ n, n ≤ 61 → agN (itG (goY P w) n F) (itG (skN P w) n F) ∧ (n ≠ 0 → itG (goY P w) n F 145 = 0) ∧ SB P (itG (goY P w) n F) ∧ SB P (itG (skN P w) n F) ∧ itG (goY P w) n F 144 = F 144 + n
  | 0, _ => ⟨fun _ _ => rfl, fun h => absurd rfl h, hS, hS, rfl⟩
  | n + 1, hn => by
    obtain ⟨h1, h2, h3, h4, h5⟩ := it_sk hP hS hy (w := w) n (by omega)
    have h144 := h1 144 (by unfold kcC; omega)
    obtain ⟨g1, g2, g3⟩ := goY_ok (w := w) hP h3 (by omega)
    rw [itG_c, itG_c]
    refine ⟨?_, fun _ => g3, g1, skN_SB hP h4 (by omega), by omega⟩
    by_cases c : n = 0
    · subst c; exact goY_sk hP hS
    · exact (goY_sk hP h3).tr (sk_ag hP h1 (h2 c))
