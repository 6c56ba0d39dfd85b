/-! the reference's row, changed -/
def MWp (D : Nat → Prop) (f : Nat → Int32) (F : Nat → Nat) : Prop :=
  (∀ p, p < 18 → f p = nI (F p)) ∧ f 18 = nI (F 138) ∧ f 19 = nI (F 139) ∧ f 20 = nI (F 140) ∧ f 21 = nI (F 141) ∧ f 22 = nI (F 142) ∧ f 23 = iI ((F 143 : Int) - 1) ∧ f 24 = nI (F 144) ∧ f 25 = nI (F 145) ∧ (∀ d, d < 30 → f (26 + d) = nI (F (18 + d))) ∧ ∀ d k, d < 30 → D d → k < 6 → f (56 + 6 * d + k) = nI (doN (F (48 + d)) k 6)
theorem MW.p {f : Nat → Int32} {F : Nat → Nat} (h : MW f F) (D : Nat → Prop) : MWp D f F := ⟨h.1, h.2.1, h.2.2.1, h.2.2.2.1, h.2.2.2.2.1, h.2.2.2.2.2.1, h.2.2.2.2.2.2.1, h.2.2.2.2.2.2.2.1, h.2.2.2.2.2.2.2.2.1, h.2.2.2.2.2.2.2.2.2.1, fun d k hd _ hk => h.2.2.2.2.2.2.2.2.2.2 d k hd hk⟩
theorem MWp.w {f : Nat → Int32} {F : Nat → Nat} {D : Nat → Prop} (h : MWp D f F) (g : ∀ d k, d < 30 → ¬ D d → k < 6 → f (56 + 6 * d + k) = nI (doN (F (48 + d)) k 6)) : MW f F := ⟨h.1, h.2.1, h.2.2.1, h.2.2.2.1, h.2.2.2.2.1, h.2.2.2.2.2.1, h.2.2.2.2.2.2.1, h.2.2.2.2.2.2.2.1, h.2.2.2.2.2.2.2.2.1, h.2.2.2.2.2.2.2.2.2.1, fun d k hd hk => (Classical.em (D d)).elim (fun q => h.2.2.2.2.2.2.2.2.2.2 d k hd q hk) (fun q => g d k hd q hk)⟩
def cwN (b : Nat) : Nat := if b < 18 then b else if b < 48 then b + 8 else b - 120
theorem MWp.set {D : Nat → Prop} {f : Nat → Int32} {F : Nat → Nat} (h : MWp D f F) {b x : Nat} (hb : b < 48 ∨ (138 ≤ b ∧ b < 146)) {v : Int32} (hv : v = if b = 143 then iI ((x : Int) - 1) else nI x) : MWp D (upd f (cwN b) v) (upn F b x) := by
  refine ⟨fun p hp => ?_, ?_, ?_, ?_, ?_, ?_, ?_, ?_, ?_, fun d hd => ?_, fun d k hd hD hk => ?_⟩
  · by_cases e : b = p
    · subst e
      rw [show cwN b = b from if_pos hp, upd_at, hv, if_neg (by omega)]
      unfold upn
      rw [if_pos rfl]
    · rw [upd_nj _ _ (show p ≠ cwN b by unfold cwN; (repeat' split) <;> omega)]
      unfold upn
      rw [if_neg (fun q => e q.symm)]
      exact h.1 p hp
  · by_cases e : b = 138
    · subst e
      rw [show cwN 138 = 18 from rfl, upd_at, hv, if_neg (by decide)]
      unfold upn
      rw [if_pos rfl]
    · rw [upd_nj _ _ (show 18 ≠ cwN b by unfold cwN; (repeat' split) <;> omega)]
      unfold upn
      rw [if_neg (fun q => e q.symm)]
      exact h.2.1
  · by_cases e : b = 139
    · subst e
      rw [show cwN 139 = 19 from rfl, upd_at, hv, if_neg (by decide)]
      unfold upn
      rw [if_pos rfl]
    · rw [upd_nj _ _ (show 19 ≠ cwN b by unfold cwN; (repeat' split) <;> omega)]
      unfold upn
      rw [if_neg (fun q => e q.symm)]
      exact h.2.2.1
  · by_cases e : b = 140
    · subst e
      rw [show cwN 140 = 20 from rfl, upd_at, hv, if_neg (by decide)]
      unfold upn
      rw [if_pos rfl]
    · rw [upd_nj _ _ (show 20 ≠ cwN b by unfold cwN; (repeat' split) <;> omega)]
      unfold upn
      rw [if_neg (fun q => e q.symm)]
      exact h.2.2.2.1
  · by_cases e : b = 141
    · subst e
      rw [show cwN 141 = 21 from rfl, upd_at, hv, if_neg (by decide)]
      unfold upn
      rw [if_pos rfl]
    · rw [upd_nj _ _ (show 21 ≠ cwN b by unfold cwN; (repeat' split) <;> omega)]
      unfold upn
      rw [if_neg (fun q => e q.symm)]
      exact h.2.2.2.2.1
  · by_cases e : b = 142
    · subst e
      rw [show cwN 142 = 22 from rfl, upd_at, hv, if_neg (by decide)]
      unfold upn
      rw [if_pos rfl]
    · rw [upd_nj _ _ (show 22 ≠ cwN b by unfold cwN; (repeat' split) <;> omega)]
      unfold upn
      rw [if_neg (fun q => e q.symm)]
      exact h.2.2.2.2.2.1
  · by_cases e : b = 143
    · subst e
      rw [show cwN 143 = 23 from rfl, upd_at, hv, if_pos rfl]
      unfold upn
      rw [if_pos rfl]
    · rw [upd_nj _ _ (show 23 ≠ cwN b by unfold cwN; (repeat' split) <;> omega)]
      unfold upn
      rw [if_neg (fun q => e q.symm)]
      exact h.2.2.2.2.2.2.1
  · by_cases e : b = 144
    · subst e
      rw [show cwN 144 = 24 from rfl, upd_at, hv, if_neg (by decide)]
      unfold upn
      rw [if_pos rfl]
    · rw [upd_nj _ _ (show 24 ≠ cwN b by unfold cwN; (repeat' split) <;> omega)]
      unfold upn
      rw [if_neg (fun q => e q.symm)]
      exact h.2.2.2.2.2.2.2.1
  · by_cases e : b = 145
    · subst e
      rw [show cwN 145 = 25 from rfl, upd_at, hv, if_neg (by decide)]
      unfold upn
      rw [if_pos rfl]
    · rw [upd_nj _ _ (show 25 ≠ cwN b by unfold cwN; (repeat' split) <;> omega)]
      unfold upn
      rw [if_neg (fun q => e q.symm)]
      exact h.2.2.2.2.2.2.2.2.1
  · by_cases e : b = 18 + d
    · subst e
      rw [show cwN (18 + d) = 26 + d by unfold cwN; rw [if_neg (by omega), if_pos (by omega)]; omega, upd_at, hv, if_neg (by omega)]
      unfold upn
      rw [if_pos rfl]
    · rw [upd_nj _ _ (show 26 + d ≠ cwN b by unfold cwN; (repeat' split) <;> omega)]
      unfold upn
      rw [if_neg (fun q => e q.symm)]
      exact h.2.2.2.2.2.2.2.2.2.1 d hd
  · rw [upd_nj _ _ (show 56 + 6 * d + k ≠ cwN b by unfold cwN; (repeat' split) <;> omega)]
    unfold upn
    rw [if_neg (by omega)]
    exact h.2.2.2.2.2.2.2.2.2.2 d k hd hD hk
theorem MWp.cg {D : Nat → Prop} {f : Nat → Int32} {F F' : Nat → Nat} (h : MWp D f F) (c : ∀ j, j < 78 ∨ (138 ≤ j ∧ j < 146) → F' j = F j) : MWp D f F' := by
  refine ⟨fun p hp => by rw [c p (by omega)]; exact h.1 p hp, ?_, ?_, ?_, ?_, ?_, ?_, ?_, ?_, fun d hd => by rw [c _ (by omega)]; exact h.2.2.2.2.2.2.2.2.2.1 d hd, fun d k hd hD hk => by rw [c _ (by omega)]; exact h.2.2.2.2.2.2.2.2.2.2 d k hd hD hk⟩
  · rw [c 138 (by omega)]; exact h.2.1
  · rw [c 139 (by omega)]; exact h.2.2.1
  · rw [c 140 (by omega)]; exact h.2.2.2.1
  · rw [c 141 (by omega)]; exact h.2.2.2.2.1
  · rw [c 142 (by omega)]; exact h.2.2.2.2.2.1
  · rw [c 143 (by omega)]; exact h.2.2.2.2.2.2.1
  · rw [c 144 (by omega)]; exact h.2.2.2.2.2.2.2.1
  · rw [c 145 (by omega)]; exact h.2.2.2.2.2.2.2.2.1
theorem MW.set {f : Nat → Int32} {F : Nat → Nat} (h : MW f F) {b x : Nat} (hb : b < 48 ∨ (138 ≤ b ∧ b < 146)) {v : Int32} (hv : v = if b = 143 then iI ((x : Int) - 1) else nI x) : MW (upd f (cwN b) v) (upn F b x) := ((h.p fun _ => True).set hb hv).w (fun _ _ _ q _ => absurd trivial q)
theorem MW.cg {f : Nat → Int32} {F F' : Nat → Nat} (h : MW f F) (c : ∀ j, j < 78 ∨ (138 ≤ j ∧ j < 146) → F' j = F j) : MW f F' := ((h.p fun _ => True).cg c).w (fun _ _ _ q _ => absurd trivial q)
theorem MWp.out {D : Nat → Prop} {f : Nat → Int32} {F : Nat → Nat} (h : MWp D f F) {d0 k0 : Nat} (hd : ¬ D d0) (hd0 : d0 < 30) (hk0 : k0 < 6) (v : Int32) : MWp D (upd f (56 + 6 * d0 + k0) v) F := by
  refine ⟨fun p hp => by rw [upd_nj _ _ (by omega)]; exact h.1 p hp, by rw [upd_nj _ _ (by omega)]; exact h.2.1, by rw [upd_nj _ _ (by omega)]; exact h.2.2.1, by rw [upd_nj _ _ (by omega)]; exact h.2.2.2.1, by rw [upd_nj _ _ (by omega)]; exact h.2.2.2.2.1, by rw [upd_nj _ _ (by omega)]; exact h.2.2.2.2.2.1, by rw [upd_nj _ _ (by omega)]; exact h.2.2.2.2.2.2.1, by rw [upd_nj _ _ (by omega)]; exact h.2.2.2.2.2.2.2.1, by rw [upd_nj _ _ (by omega)]; exact h.2.2.2.2.2.2.2.2.1, fun d hd => by rw [upd_nj _ _ (by omega)]; exact h.2.2.2.2.2.2.2.2.2.1 d hd, fun d k hd1 hD hk => ?_⟩
  rw [upd_nj _ _ (fun q => hd (by rw [show d0 = d by omega]; exact hD))]
  exact h.2.2.2.2.2.2.2.2.2.2 d k hd1 hD hk
