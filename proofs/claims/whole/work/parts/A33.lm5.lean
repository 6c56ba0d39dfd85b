/-! what always holds of the machine -/
def nbr (x : Nat) : Nat := if x = 91 ∨ x = 40 then 1 else 0
def cntBr : List Nat → Nat
  | [] => 0
  | x :: w => nbr x + cntBr w
def okw : List Nat → Prop
  | [] => True
  | x :: w => (nbr x = 1 ∨ x = 33 ∨ tsW w < stK x) ∧ x < 256 ∧ okw w
theorem stK_le (x : Nat) : stK x ≤ 6 := by unfold stK; (repeat' split) <;> omega
theorem tsW_le (w : List Nat) : tsW w ≤ 6 := by
  cases w with
  | nil => exact Nat.zero_le _
  | cons x w => exact stK_le x
theorem nbr_0 {x : Nat} (h : nbr x = 1) : stK x = 0 ∧ n33 x = 0 := by
  have : x = 91 ∨ x = 40 := by unfold nbr at h; split at h; · assumption
                               · omega
  rcases this with rfl | rfl <;> decide
theorem okw_len : ∀ w, okw w → w.length ≤ 7 * (cntBr w + cnt33 w) + tsW w
  | [] => fun _ => Nat.zero_le _
  | x :: w => fun h => by
    have ih := okw_len w h.2.2
    have h6 := tsW_le w
    show w.length + 1 ≤ 7 * (nbr x + cntBr w + (n33 x + cnt33 w)) + stK x
    rcases h.1 with q | rfl | q
    · omega
    · show w.length + 1 ≤ 7 * (0 + cntBr w + (1 + cnt33 w)) + 3; omega
    · omega
/-- Iv: of the state at a cursor c -/
def Iv (s : Lm) (c : Nat) : Prop := okw s.1 ∧ s.2.1 4 + s.2.1 5 = cntBr s.1 ∧ s.2.1 3 = cntBr s.1 + cnt33 s.1 ∧ s.2.1 3 ≤ 6 ∧ s.2.1 2 ≤ 5 ∧ ((s.2.1 2 < 2 ∨ (s.2.1 6 ≤ 1 ∧ s.2.1 7 ≤ 1)) ∧ s.2.1 8 ≤ 1) ∧ s.2.2.length + s.1.length + (if s.2.1 2 = 0 then 0 else 1) ≤ c
theorem Iv.len {s : Lm} {c : Nat} (h : Iv s c) : s.1.length ≤ 48 := by
  have h1 := okw_len s.1 h.1
  have h2 := tsW_le s.1
  have h3 := h.2.2.1
  have h4 := h.2.2.2.1
  omega
theorem Iv.at {s : Lm} {c c' : Nat} (h : Iv s c) (hc : c ≤ c') : Iv s c' := ⟨h.1, h.2.1, h.2.2.1, h.2.2.2.1, h.2.2.2.2.1, h.2.2.2.2.2.1, Nat.le_trans h.2.2.2.2.2.2 hc⟩
theorem if01 (p : Prop) [Decidable p] : (if p then 0 else 1) ≤ 1 := by split <;> omega
theorem nbr_or (x : Nat) : nbr x = 0 ∨ nbr x = 1 := by unfold nbr; split <;> omega
theorem rl_iv (st : Nat) : ∀ w, okw w → okw (rlW st w) ∧ cntBr (rlW st w) ≤ cntBr w ∧ cntBr (rlW st w) + cnt33 (rlW st w) + rlN st w ≤ cntBr w + cnt33 w ∧ (rlK st w).length + (rlW st w).length = w.length ∧ (0 < st → cntBr (rlW st w) = cntBr w ∧ cntBr (rlW st w) + cnt33 (rlW st w) + rlN st w = cntBr w + cnt33 w ∧ (tsW (rlW st w) < st))
  | [] => fun _ => ⟨trivial, Nat.le_refl _, Nat.le_refl _, rfl, fun h => ⟨rfl, rfl, h⟩⟩
  | x :: w => fun h => by
    by_cases c : st ≤ stK x
    · obtain ⟨a1, a2, a3, a4, a5⟩ := rl_iv st w h.2.2
      simp only [rlW, rlN, rlK]
      rw [if_pos c, if_pos c, if_pos c]
      refine ⟨a1, ?_, ?_, ?_, fun h0 => ?_⟩
      · show _ ≤ nbr x + cntBr w; omega
      · show _ ≤ nbr x + cntBr w + (n33 x + cnt33 w); omega
      · show (rlK st w).length + 1 + _ = w.length + 1; omega
      · obtain ⟨b1, b2, b3⟩ := a5 h0
        have hx : nbr x = 0 := by
          rcases nbr_or x with q | q
          · exact q
          · have := (nbr_0 q).1; omega
        refine ⟨?_, ?_, b3⟩
        · show _ = nbr x + cntBr w; omega
        · show _ = nbr x + cntBr w + (n33 x + cnt33 w); omega
    · simp only [rlW, rlN, rlK]
      rw [if_neg c, if_neg c, if_neg c]
      exact ⟨h, Nat.le_refl _, Nat.le_refl _, Nat.zero_add _, fun _ => ⟨rfl, rfl, by show stK x < st; omega⟩⟩
theorem okw_0 {w : List Nat} (h : okw w) (h1 : tsW w < 1) (h2 : 1 ≤ cntBr w) : ∃ x w', w = x :: w' ∧ nbr x = 1 := by
  cases w with
  | nil => exact absurd h2 (by decide)
  | cons x w =>
    refine ⟨x, w, rfl, ?_⟩
    have h1' : stK x < 1 := h1
    rcases h.1 with q | rfl | q
    · exact q
    · exact absurd h1' (by decide)
    · omega
theorem okw_tl {w : List Nat} (h : okw w) : okw w.tail := by
  cases w with
  | nil => exact h
  | cons x w => exact h.2.2
theorem Iv_R {s : Lm} {c x : Nat} (h : Iv s c) : okw (lmR x s).1 ∧ (lmR x s).2.1 4 + (lmR x s).2.1 5 = cntBr (lmR x s).1 ∧ (lmR x s).2.1 3 = cntBr (lmR x s).1 + cnt33 (lmR x s).1 ∧ (lmR x s).2.1 3 ≤ 6 ∧ (lmR x s).2.2.length + (lmR x s).1.length = s.2.2.length + s.1.length ∧ tsW (lmR x s).1 < max 1 (stK x) ∧ cntBr (lmR x s).1 = cntBr s.1 := by
  obtain ⟨a1, a2, a3, a4, a5⟩ := rl_iv (max 1 (stK x)) s.1 h.1
  obtain ⟨b1, b2, b3⟩ := a5 (by omega)
  obtain ⟨h1, h2, h3, h4, -⟩ := h
  have e3 : (lmR x s).2.1 3 = s.2.1 3 - rlN (max 1 (stK x)) s.1 := rfl
  have e4 : (lmR x s).2.1 4 = s.2.1 4 := rfl
  have e5 : (lmR x s).2.1 5 = s.2.1 5 := rfl
  have w : (lmR x s).1 = rlW (max 1 (stK x)) s.1 := rfl
  refine ⟨a1, ?_, ?_, ?_, ?_, b3, b1⟩
  · rw [e4, e5, w]; omega
  · rw [e3, w]; omega
  · rw [e3]; omega
  · show (s.2.2 ++ rlK (max 1 (stK x)) s.1).length + _ = _
    rw [List.length_append]
    show _ + (rlK (max 1 (stK x)) s.1).length + (rlW (max 1 (stK x)) s.1).length = _
    omega
theorem lmGo_xx {x : Nat} {s : Lm} (h : x = 42 ∨ x = 47 ∨ x = 43 ∨ x = 45 ∨ x = 61 ∨ x = 60 ∨ x = 62) : lmGo x s = (x :: (lmR x s).1, if x = 61 ∨ x = 60 ∨ x = 62 then upn (upn (upn (lmR x s).2.1 8 1) 6 1) 2 3 else upn (lmR x s).2.1 2 3, (lmR x s).2.2) := by
  unfold lmGo lmG
  rw [if_neg (by omega), if_neg (by omega), if_neg (by omega), if_neg (by omega), if_neg (by omega)]
theorem Iv_go {s : Lm} {c x : Nat} (h : Iv s c) (hp4 : 4 ≤ s.2.1 2) (hf : lmFit s.2.1 x) : Iv (lmGo x s) (c + 1) := by
  obtain ⟨r1, r2, r3, r4, r5, r6, r7⟩ := Iv_R (x := x) h
  obtain ⟨h1, h2, h3, h4, h5, ⟨h67, h8⟩, h9⟩ := h
  obtain ⟨h6, h7⟩ : s.2.1 6 ≤ 1 ∧ s.2.1 7 ≤ 1 := by omega
  have hp : s.2.1 2 ≠ 0 := by omega
  rw [if_neg hp] at h9
  have u : ∀ j, j ≠ 3 → (lmR x s).2.1 j = s.2.1 j := fun j hj => upn_ne _ _ hj
  have push : ∀ M : Nat → Nat, opS x → M 3 = (lmR x s).2.1 3 → M 4 = (lmR x s).2.1 4 → M 5 = (lmR x s).2.1 5 → M 2 ≤ 5 → M 2 ≠ 0 → M 6 ≤ 1 → M 7 ≤ 1 → M 8 ≤ 1 → Iv (x :: (lmR x s).1, M, (lmR x s).2.2) (c + 1) := by
    intro M ho m3 m4 m5 m2 m20 m6 m7 m8
    have hb : nbr x = 0 ∧ n33 x = 0 ∧ 1 ≤ stK x ∧ x < 256 := by rcases ho with rfl | rfl | rfl | rfl | rfl | rfl | rfl | rfl | rfl <;> decide
    refine ⟨⟨Or.inr (Or.inr (by omega)), hb.2.2.2, r1⟩, ?_, ?_, ?_, m2, ⟨Or.inr ⟨m6, m7⟩, m8⟩, ?_⟩
    · show M 4 + M 5 = nbr x + cntBr _; omega
    · show M 3 = nbr x + cntBr _ + (n33 x + cnt33 _); omega
    · show M 3 ≤ 6; omega
    · rw [if_neg m20]
      show (lmR x s).2.2.length + ((lmR x s).1.length + 1) + 1 ≤ c + 1
      omega
  have close : (x = 93 ∨ x = 41) → 1 ≤ s.2.1 4 + s.2.1 5 → ∀ M : Nat → Nat, M 3 = (lmR x s).2.1 3 - 1 → M 4 + M 5 + 1 = s.2.1 4 + s.2.1 5 → M 2 ≤ 5 → M 2 ≠ 0 → M 6 ≤ 1 → M 7 ≤ 1 → M 8 ≤ 1 → Iv ((lmR x s).1.tail, M, (lmR x s).2.2) (c + 1) := by
    intro hx h45 M m3 m45 m2 m20 m6 m7 m8
    have hs : max 1 (stK x) = 1 := by rcases hx with rfl | rfl <;> decide
    rw [hs] at r6
    obtain ⟨y, w', hw, hy⟩ := okw_0 r1 r6 (by omega)
    rw [hw] at r1 r2 r3 r5 r7 ⊢
    have r2' : (lmR x s).2.1 4 + (lmR x s).2.1 5 = nbr y + cntBr w' := r2
    have r3' : (lmR x s).2.1 3 = nbr y + cntBr w' + (n33 y + cnt33 w') := r3
    have r7' : nbr y + cntBr w' = cntBr s.1 := r7
    have r5' : (lmR x s).2.2.length + (w'.length + 1) = _ := r5
    have y33 := (nbr_0 hy).2
    refine ⟨r1.2.2, ?_, ?_, ?_, m2, ⟨Or.inr ⟨m6, m7⟩, m8⟩, ?_⟩
    · show M 4 + M 5 = cntBr w'; omega
    · show M 3 = cntBr w' + cnt33 w'; omega
    · show M 3 ≤ 6; omega
    · rw [if_neg m20]
      show (lmR x s).2.2.length + w'.length + 1 ≤ c + 1
      omega
  have u2 := u 2 (by decide)
  have u4 := u 4 (by decide)
  have u5 := u 5 (by decide)
  have u6 := u 6 (by decide)
  have u7 := u 7 (by decide)
  have u8 := u 8 (by decide)
  by_cases c93 : x = 93
  · subst c93
    have : s.2.1 5 ≠ 0 := by unfold lmFit at hf; omega
    rw [lmGo_93]
    refine close (Or.inl rfl) (by omega) _ ?_ ?_ (by rw [upn_eq]; decide) (by rw [upn_eq]; decide) ?_ ?_ ?_
    · rfl
    · show (lmR 93 s).2.1 4 + ((lmR 93 s).2.1 5 - 1) + 1 = _; omega
    · show (lmR 93 s).2.1 6 ≤ 1; omega
    · show (lmR 93 s).2.1 7 ≤ 1; omega
    · show (lmR 93 s).2.1 8 ≤ 1; omega
  · by_cases c41 : x = 41
    · subst c41
      have : s.2.1 4 ≠ 0 := by unfold lmFit at hf; omega
      rw [lmGo_41]
      refine close (Or.inr rfl) (by omega) _ ?_ ?_ (by rw [upn_eq]; decide) (by rw [upn_eq]; decide) ?_ ?_ ?_
      · rfl
      · show (lmR 41 s).2.1 4 - 1 + (lmR 41 s).2.1 5 + 1 = _; omega
      · show (lmR 41 s).2.1 6 ≤ 1; omega
      · show (lmR 41 s).2.1 7 ≤ 1; omega
      · show (lmR 41 s).2.1 8 ≤ 1; omega
    · by_cases c59 : x = 59
      · subst c59
        rw [lmGo_59]
        refine ⟨r1, ?_, ?_, ?_, (Nat.zero_le 5), ⟨Or.inl (by decide : (0 : Nat) < 2), ?_⟩, ?_⟩
        · exact r2
        · exact r3
        · exact r4
        · show (lmR 59 s).2.1 8 ≤ 1; omega
        · refine Nat.le_trans (Nat.add_le_add_left (if01 _) _) ?_
          show ((lmR 59 s).2.2 ++ [negS 59]).length + (lmR 59 s).1.length + 1 ≤ c + 1
          rw [List.length_append]
          show _ + 1 + _ + 1 ≤ _
          omega
      · by_cases c63 : x = 63
        · subst c63
          rw [lmGo_63]
          refine ⟨r1, ?_, ?_, ?_, (by decide : (3 : Nat) ≤ 5), ⟨Or.inr ⟨?_, (Nat.le_refl 1)⟩, (Nat.zero_le 1)⟩, ?_⟩
          · exact r2
          · exact r3
          · exact r4
          · show (lmR 63 s).2.1 6 ≤ 1; omega
          · refine Nat.le_trans (Nat.add_le_add_left (if01 _) _) ?_
            show ((lmR 63 s).2.2 ++ [negS 63]).length + (lmR 63 s).1.length + 1 ≤ c + 1
            rw [List.length_append]
            show _ + 1 + _ + 1 ≤ _
            omega
        · by_cases clo : x = 38 ∨ x = 124
          · rw [lmGo_lo clo]
            refine push _ (by unfold opS; omega) rfl rfl rfl (by rw [upn_eq]; decide) (by rw [upn_eq]; decide) ?_ ?_ ?_
            · show (lmR x s).2.1 6 ≤ 1; omega
            · show (lmR x s).2.1 7 ≤ 1; omega
            · show 0 ≤ 1; omega
          · have hx : x = 42 ∨ x = 47 ∨ x = 43 ∨ x = 45 ∨ x = 61 ∨ x = 60 ∨ x = 62 := by unfold lmFit at hf; omega
            rw [lmGo_xx hx]
            by_cases cc : x = 61 ∨ x = 60 ∨ x = 62
            · rw [if_pos cc]
              refine push _ (by unfold opS; omega) rfl rfl rfl (by rw [upn_eq]; decide) (by rw [upn_eq]; decide) ?_ ?_ ?_
              · show 1 ≤ 1; omega
              · show (lmR x s).2.1 7 ≤ 1; omega
              · show 1 ≤ 1; omega
            · rw [if_neg cc]
              refine push _ (by unfold opS; omega) rfl rfl rfl (by rw [upn_eq]; decide) (by rw [upn_eq]; decide) ?_ ?_ ?_
              · show (lmR x s).2.1 6 ≤ 1; omega
              · show (lmR x s).2.1 7 ≤ 1; omega
              · show (lmR x s).2.1 8 ≤ 1; omega
theorem Iv_tk {T : Nat → Nat} {n c c2 : Nat} {s s2 : Lm} (h : Iv s c) (hp : s.2.1 2 < 4) (ht : lmTk T n c s = (true, c2, s2)) : Iv s2 c2 ∧ c < c2 := by
  obtain ⟨h1, h2, h3, h4, h5, ⟨h67, h8⟩, h9⟩ := h
  have atom : ∀ v c3, c + 1 ≤ c3 → s.2.1 2 ≠ 0 → s.2.1 2 ≠ 1 → Iv (s.1, upn s.2.1 2 4, s.2.2 ++ [v]) c3 := by
    intro v c3 hc hn hn1
    rw [if_neg hn] at h9
    obtain ⟨h6, h7⟩ : s.2.1 6 ≤ 1 ∧ s.2.1 7 ≤ 1 := by omega
    refine ⟨h1, h2, h3, h4, (by decide : (4 : Nat) ≤ 5), ⟨Or.inr ⟨h6, h7⟩, h8⟩, ?_⟩
    refine Nat.le_trans (Nat.add_le_add_left (if01 _) _) ?_
    show (s.2.2 ++ [v]).length + s.1.length + 1 ≤ c3
    rw [List.length_append]
    show _ + 1 + _ + 1 ≤ _
    omega
  unfold lmTk at ht
  split at ht
  · next q0 =>
    rw [if_pos q0] at h9
    split at ht
    · obtain ⟨rfl, rfl⟩ := (Prod.mk.inj (Prod.mk.inj ht).2)
      refine ⟨⟨h1, h2, h3, h4, (by decide : (1 : Nat) ≤ 5), ⟨Or.inl (by decide : (1 : Nat) < 2), h8⟩, ?_⟩, Nat.lt_succ_self c⟩
      refine Nat.le_trans (Nat.add_le_add_left (if01 _) _) ?_
      show s.2.2.length + s.1.length + 1 ≤ c + 1
      omega
    · cases (Prod.mk.inj ht).1
  · next q0 =>
    rw [if_neg q0] at h9
    split at ht
    · split at ht
      · obtain ⟨rfl, rfl⟩ := (Prod.mk.inj (Prod.mk.inj ht).2)
        refine ⟨⟨h1, h2, h3, h4, (by decide : (2 : Nat) ≤ 5), ⟨Or.inr ⟨Nat.zero_le 1, Nat.zero_le 1⟩, h8⟩, ?_⟩, Nat.lt_succ_self c⟩
        refine Nat.le_trans (Nat.add_le_add_left (if01 _) _) ?_
        show s.2.2.length + s.1.length + 1 ≤ c + 1
        omega
      · cases (Prod.mk.inj ht).1
    · next q1 =>
      split at ht
      · next qo =>
        split at ht
        · cases (Prod.mk.inj ht).1
        · next q6 =>
          obtain ⟨rfl, rfl⟩ := (Prod.mk.inj (Prod.mk.inj ht).2)
          refine ⟨?_, Nat.lt_succ_self c⟩
          generalize sgn T n c = x at qo
          obtain ⟨h6, h7⟩ : s.2.1 6 ≤ 1 ∧ s.2.1 7 ≤ 1 := by omega
          have hx : x = 91 ∨ x = 40 ∨ x = 33 := by omega
          rcases hx with rfl | rfl | rfl
          · refine ⟨⟨Or.inl rfl, by decide, h1⟩, ?_, ?_, ?_, (by decide : (3 : Nat) ≤ 5), ⟨Or.inr ⟨h6, h7⟩, h8⟩, ?_⟩
            · show s.2.1 4 + (s.2.1 5 + 1) = 1 + cntBr s.1; omega
            · show s.2.1 3 + 1 = 1 + cntBr s.1 + (0 + cnt33 s.1); omega
            · show s.2.1 3 + 1 ≤ 6; omega
            · refine Nat.le_trans (Nat.add_le_add_left (if01 _) _) ?_
              show s.2.2.length + (s.1.length + 1) + 1 ≤ c + 1; omega
          · refine ⟨⟨Or.inl rfl, by decide, h1⟩, ?_, ?_, ?_, h5, ⟨Or.inr ⟨Nat.le_refl 1, h7⟩, h8⟩, ?_⟩
            · show s.2.1 4 + 1 + s.2.1 5 = 1 + cntBr s.1; omega
            · show s.2.1 3 + 1 = 1 + cntBr s.1 + (0 + cnt33 s.1); omega
            · show s.2.1 3 + 1 ≤ 6; omega
            · refine Nat.le_trans (Nat.add_le_add_left (if01 _) _) ?_
              show s.2.2.length + (s.1.length + 1) + 1 ≤ c + 1; omega
          · refine ⟨⟨Or.inr (Or.inl rfl), by decide, h1⟩, ?_, ?_, ?_, h5, ⟨Or.inr ⟨Nat.le_refl 1, h7⟩, h8⟩, ?_⟩
            · show s.2.1 4 + s.2.1 5 = 0 + cntBr s.1; omega
            · show s.2.1 3 + 1 = 0 + cntBr s.1 + (1 + cnt33 s.1); omega
            · show s.2.1 3 + 1 ≤ 6; omega
            · refine Nat.le_trans (Nat.add_le_add_left (if01 _) _) ?_
              show s.2.2.length + (s.1.length + 1) + 1 ≤ c + 1; omega
      · split at ht
        · next qd =>
          split at ht
          · cases (Prod.mk.inj ht).1
          · obtain ⟨rfl, rfl⟩ := (Prod.mk.inj (Prod.mk.inj ht).2)
            have hq : c + 1 ≤ rdE T n c 4 := by
              have hlt := sgn_d qd
              have hb := isDN_b qd
              have hn : nx T n c = c := nx_at (fun z => by have : sgn T n c = T c := by unfold sgn; rw [if_pos hlt]
                                                           omega)
              unfold rdE rdc
              rw [hn, if_pos qd]
              exact (rdc_b T n 3 _).1
            exact ⟨atom _ _ hq q0 q1, by omega⟩
        · split at ht
          · obtain ⟨rfl, rfl⟩ := (Prod.mk.inj (Prod.mk.inj ht).2)
            exact ⟨atom _ _ (Nat.le_refl _) q0 q1, Nat.lt_succ_self c⟩
          · cases (Prod.mk.inj ht).1
