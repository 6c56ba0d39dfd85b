/-! the machine and the grammar: a law's parts -/
theorem lmGo_ar {x : Nat} {s : Lm} (h : x = 42 ∨ x = 47 ∨ x = 43 ∨ x = 45) : lmGo x s = (x :: (lmR x s).1, upn (lmR x s).2.1 2 3, (lmR x s).2.2) := by
  unfold lmGo lmG
  rw [if_neg (by omega), if_neg (by omega), if_neg (by omega), if_neg (by omega), if_neg (by omega), if_neg (by omega)]
theorem lmGo_cmp {x : Nat} {s : Lm} (h : x = 61 ∨ x = 60 ∨ x = 62) : lmGo x s = (x :: (lmR x s).1, upn (upn (upn (lmR x s).2.1 8 1) 6 1) 2 3, (lmR x s).2.2) := by
  unfold lmGo lmG
  rw [if_neg (by omega), if_neg (by omega), if_neg (by omega), if_neg (by omega), if_neg (by omega), if_pos h]
theorem lmGo_lo {x : Nat} {s : Lm} (h : x = 38 ∨ x = 124) : lmGo x s = (x :: (lmR x s).1, upn (upn (lmR x s).2.1 8 0) 2 2, (lmR x s).2.2) := by
  unfold lmGo lmG
  rw [if_neg (by omega), if_neg (by omega), if_neg (by omega), if_neg (by omega), if_pos h]
section LM2
variable {T : Nat → Nat} {n f L r c x : Nat} {ℓ : Nat → Int32} {b s : Lm} {v : Int}
theorem lm_ar (hS : Sm ℓ L r b v s) (h2 : s.2.1 2 = 4) (hx : sgn T n (nx T n c) = x) (hc : x = 42 ∨ x = 47 ∨ x = 43 ∨ x = 45) (hL : stK x ≤ L) (hw : tsW b.1 < stK x) : ∃ b1 C, lmM T n (f + 1) s c = lmM T n f b1 (nx T n c + 1) ∧ EvL ℓ r C v ∧ b1.1 = x :: b.1 ∧ b1.2.2 = b.2.2 ++ C ∧ (b1.2.1 3 = b.2.1 3 ∧ b1.2.1 4 = b.2.1 4 ∧ b1.2.1 5 = b.2.1 5 ∧ b1.2.1 7 = b.2.1 7) ∧ b1.2.1 2 = 3 ∧ b1.2.1 6 = s.2.1 6 ∧ b1.2.1 8 = s.2.1 8 := by
  have h1 : 1 ≤ stK x := by rcases hc with rfl | rfl | rfl | rfl <;> decide
  obtain ⟨C, g1, g2, g3, g4, g5⟩ := lmR_ok (x := x) hS (by rw [Nat.max_eq_right h1]; exact hw) (by rw [Nat.max_eq_right h1]; exact hL)
  have hm := lmM_f (f := f) (by rw [hx]; omega) (by omega) (show lmFit s.2.1 (sgn T n (nx T n c)) from Or.inl ⟨by rw [hx]; omega, h2⟩)
  rw [hx, lmGo_ar hc] at hm
  refine ⟨_, C, hm, g1, by rw [← g2], g3, ⟨?_, ?_, ?_, ?_⟩, rfl, ?_, ?_⟩
  · exact g4
  · exact ((g5 4 (by decide))).trans hS.2.2.1
  · exact ((g5 5 (by decide))).trans hS.2.2.2.1
  · exact ((g5 7 (by decide))).trans hS.2.2.2.2
  · exact (g5 6 (by decide))
  · exact (g5 8 (by decide))
theorem lm_cmp (hS : Sm ℓ L r b v s) (h2 : s.2.1 2 = 4) (h5 : b.2.1 5 = 0) (h7 : b.2.1 7 = 0) (h8 : s.2.1 8 = 0) (hx : sgn T n (nx T n c) = x) (hc : x = 61 ∨ x = 60 ∨ x = 62) (hL : 4 ≤ L) (hw : tsW b.1 < 4) : ∃ b1 C, lmM T n (f + 1) s c = lmM T n f b1 (nx T n c + 1) ∧ EvL ℓ r C v ∧ b1.1 = x :: b.1 ∧ b1.2.2 = b.2.2 ++ C ∧ (b1.2.1 3 = b.2.1 3 ∧ b1.2.1 4 = b.2.1 4 ∧ b1.2.1 5 = b.2.1 5 ∧ b1.2.1 7 = b.2.1 7) ∧ b1.2.1 2 = 3 ∧ b1.2.1 6 = 1 ∧ b1.2.1 8 = 1 := by
  have h1 : stK x = 4 := by rcases hc with rfl | rfl | rfl <;> decide
  obtain ⟨C, g1, g2, g3, g4, g5⟩ := lmR_ok (x := x) hS (by rw [h1]; exact hw) (by rw [h1]; exact hL)
  have hm := lmM_f (f := f) (by rw [hx]; omega) (by omega) (show lmFit s.2.1 (sgn T n (nx T n c)) from Or.inr (Or.inl ⟨by rw [hx]; exact hc, h2, hS.2.2.2.1.trans h5, h8, hS.2.2.2.2.trans h7⟩))
  rw [hx, lmGo_cmp hc] at hm
  have u : ∀ j, j ≠ 2 → j ≠ 6 → j ≠ 8 → upn (upn (upn (lmR x s).2.1 8 1) 6 1) 2 3 j = (lmR x s).2.1 j := fun j a b c => by rw [upn_ne _ _ a, upn_ne _ _ b, upn_ne _ _ c]
  refine ⟨_, C, hm, g1, by rw [← g2], g3, ⟨?_, ?_, ?_, ?_⟩, rfl, ?_, ?_⟩
  · exact (u 3 (by decide) (by decide) (by decide)).trans g4
  · exact ((u 4 (by decide) (by decide) (by decide)).trans (g5 4 (by decide))).trans hS.2.2.1
  · exact ((u 5 (by decide) (by decide) (by decide)).trans (g5 5 (by decide))).trans hS.2.2.2.1
  · exact ((u 7 (by decide) (by decide) (by decide)).trans (g5 7 (by decide))).trans hS.2.2.2.2
  · exact rfl
  · exact rfl
theorem lm_lo (hS : Sm ℓ L r b v s) (h2 : s.2.1 2 = 5 ∨ s.2.1 2 = 4 ∧ s.2.1 8 = 1) (h5 : b.2.1 5 = 0) (hx : sgn T n (nx T n c) = x) (hc : x = 38 ∨ x = 124) (hL : stK x ≤ L) (hw : tsW b.1 < stK x) : ∃ b1 C, lmM T n (f + 1) s c = lmM T n f b1 (nx T n c + 1) ∧ EvL ℓ r C v ∧ b1.1 = x :: b.1 ∧ b1.2.2 = b.2.2 ++ C ∧ (b1.2.1 3 = b.2.1 3 ∧ b1.2.1 4 = b.2.1 4 ∧ b1.2.1 5 = b.2.1 5 ∧ b1.2.1 7 = b.2.1 7) ∧ b1.2.1 2 = 2 ∧ b1.2.1 6 = s.2.1 6 ∧ b1.2.1 8 = 0 := by
  have h1 : 1 ≤ stK x := by rcases hc with rfl | rfl <;> decide
  obtain ⟨C, g1, g2, g3, g4, g5⟩ := lmR_ok (x := x) hS (by rw [Nat.max_eq_right h1]; exact hw) (by rw [Nat.max_eq_right h1]; exact hL)
  have hm := lmM_f (f := f) (by rw [hx]; omega) (by omega) (show lmFit s.2.1 (sgn T n (nx T n c)) from Or.inr (Or.inr (Or.inr (Or.inl ⟨by rw [hx]; exact hc, hS.2.2.2.1.trans h5, by omega⟩))))
  rw [hx, lmGo_lo hc] at hm
  have u : ∀ j, j ≠ 2 → j ≠ 8 → upn (upn (lmR x s).2.1 8 0) 2 2 j = (lmR x s).2.1 j := fun j a c => by rw [upn_ne _ _ a, upn_ne _ _ c]
  refine ⟨_, C, hm, g1, by rw [← g2], g3, ⟨?_, ?_, ?_, ?_⟩, rfl, ?_, ?_⟩
  · exact (u 3 (by decide) (by decide)).trans g4
  · exact ((u 4 (by decide) (by decide)).trans (g5 4 (by decide))).trans hS.2.2.1
  · exact ((u 5 (by decide) (by decide)).trans (g5 5 (by decide))).trans hS.2.2.2.1
  · exact ((u 7 (by decide) (by decide)).trans (g5 7 (by decide))).trans hS.2.2.2.2
  · exact (u 6 (by decide) (by decide)).trans (g5 6 (by decide))
  · exact rfl
end LM2
theorem qx_l {L L' : Nat} {s : Lm} {x : Nat} (h : qx L s x) (hL : L ≤ L') : qx L' s x := ⟨fun q => ⟨fun z => (h.1 q).1 (by omega), fun z => (h.1 q).2 (by omega)⟩, fun z => h.2.1 (by omega), fun z => h.2.2 (by omega)⟩
theorem sp {T : Nat → Nat} {n c : Nat} (h0 : sgn T n (nx T n c) ≠ 0) : nx T n c < n ∧ c ≤ nx T n c := ⟨sgn_lt h0, (nx_b T n c).1⟩
section LM3
variable {T : Nat → Nat} {n k : Nat} {e : Nat → Int} {ℓ : Nat → Int32}
theorem pz_ge (hE : EH T n e ℓ) {k m dp c : Nat} (h : (pz T n e k m dp c 0).1 = true) : c ≤ (pz T n e k m dp c 0).2.1 := (pz_bd hE.1 k m dp c 0 (by unfold bd6; omega) h).1
theorem s_7 (hE : EH T n e ℓ) (ih : SimAll T n e ℓ k) : SimT T n e ℓ 7 6 2 (k + 1) := by
  intro b s dp c v f hP h3 hdp hw hc hf hk
  obtain ⟨hS, h2, h6, h8, hq⟩ := hP
  rw [pz_7]
  by_cases c1 : sgn T n (nx T n c) = 42 ∨ sgn T n (nx T n c) = 47
  · rw [if_pos c1]
    have h0 : sgn T n (nx T n c) ≠ 0 := by omega
    obtain ⟨hlt, hge⟩ := sp h0
    obtain ⟨f, rfl⟩ : ∃ g, f = g + 1 := ⟨f - 1, by omega⟩
    have hst : stK (sgn T n (nx T n c)) = 6 := by rcases c1 with q | q <;> rw [q] <;> rfl
    obtain ⟨b1, C, hm, g1, g2, g3, g4, g5, g6, g8⟩ := lm_ar (T := T) (n := n) (c := c) (x := sgn T n (nx T n c)) (f := f) hS h2 rfl (by omega) (by omega) (by omega)
    refine Sc.mv hm (Sc.bdd (ih.m0 b1 dp _ 0 f (Or.inl g5) (g4.1.trans h3) hdp (by rw [g2]; show stK _ < 7; omega) (by omega) (by omega) (by omega)) fun hr s2 f2 hf2 p2 => ?_)
    have q1 := pz_ge hE hr
    have q2 := pz_q (T := T) (n := n) (e := e) k 0 dp (nx T n c + 1) 0 (by omega)
    refine ih.m7 b s2 dp _ _ f2 ⟨Sm.bin g1 g2 g3 g4 p2.1 (by decide) (by omega) (by unfold opS; omega) (Nat.le_refl _) (by omega) (jn_ar (by omega) hS.2.1 p2.1.2.1) (bdI_bd _), p2.2.1, p2.2.2.1.trans (g6.trans h6), p2.2.2.2.1.trans (g8.trans h8), qx_l p2.2.2.2.2 (by decide)⟩ h3 hdp hw q2 hf2 (by omega)
  · rw [if_neg c1]
    refine Sc.rn hf ⟨hS, h2, h6, h8, ?_⟩
    rw [nx_nx]
    exact ⟨fun z => ⟨fun _ => by omega, fun w => absurd w (by decide)⟩, fun w => absurd w (by decide), fun w => absurd w (by decide)⟩
theorem s_8 (hE : EH T n e ℓ) (ih : SimAll T n e ℓ k) : SimT T n e ℓ 8 5 3 (k + 1) := by
  intro b s dp c v f hP h3 hdp hw hc hf hk
  obtain ⟨hS, h2, h6, h8, hq⟩ := hP
  rw [pz_8]
  by_cases c1 : sgn T n (nx T n c) = 43 ∨ sgn T n (nx T n c) = 45
  · rw [if_pos c1]
    have h0 : sgn T n (nx T n c) ≠ 0 := by omega
    obtain ⟨hlt, hge⟩ := sp h0
    obtain ⟨f, rfl⟩ : ∃ g, f = g + 1 := ⟨f - 1, by omega⟩
    have hst : stK (sgn T n (nx T n c)) = 5 := by rcases c1 with q | q <;> rw [q] <;> rfl
    obtain ⟨b1, C, hm, g1, g2, g3, g4, g5, g6, g8⟩ := lm_ar (T := T) (n := n) (c := c) (x := sgn T n (nx T n c)) (f := f) hS h2 rfl (by omega) (by omega) (by omega)
    refine Sc.mv hm (Sc.bdd (ih.m1 b1 dp _ 0 f (Or.inl g5) (g4.1.trans h3) hdp (by rw [g2]; show stK _ < 6; omega) (by omega) (by omega) (by omega)) fun hr s2 f2 hf2 p2 => ?_)
    have q1 := pz_ge hE hr
    have q2 := pz_q (T := T) (n := n) (e := e) k 1 dp (nx T n c + 1) 0 (by omega)
    refine ih.m8 b s2 dp _ _ f2 ⟨Sm.bin g1 g2 g3 g4 p2.1 (by decide) (by omega) (by unfold opS; omega) (Nat.le_refl _) (by omega) (jn_ar (by omega) hS.2.1 p2.1.2.1) (bdI_bd _), p2.2.1, p2.2.2.1.trans (g6.trans h6), p2.2.2.2.1.trans (g8.trans h8), qx_l p2.2.2.2.2 (by decide)⟩ h3 hdp hw q2 hf2 (by omega)
  · rw [if_neg c1]
    refine Sc.rn hf ⟨hS, h2, h6, h8, ?_⟩
    rw [nx_nx]
    have q4 := (hq.1 h2).1 (by decide)
    exact ⟨fun z => ⟨fun _ => q4, fun _ => by omega⟩, fun w => absurd w (by decide), fun w => absurd w (by decide)⟩
theorem s_1 (hE : EH T n e ℓ) (ih : SimAll T n e ℓ k) : SimS T n e ℓ 1 6 6 2 2 (k + 1) := by
  intro b dp c v f h2 h3 hdp hw hc hf hk
  rw [pz_1]
  refine Sc.bdd (ih.m0 b dp c 0 f h2 h3 hdp (by omega) hc hf (by omega)) fun hr s2 f2 hf2 p2 => ?_
  have q1 := pz_ge hE hr
  have q2 := pz_q (T := T) (n := n) (e := e) k 0 dp c 0 hc
  exact ih.m7 b s2 dp _ _ f2 ⟨p2.1.mono (by decide) (by omega), p2.2.1, p2.2.2.1, p2.2.2.2.1, p2.2.2.2.2⟩ h3 hdp hw q2 hf2 (by omega)
theorem s_2 (hE : EH T n e ℓ) (ih : SimAll T n e ℓ k) : SimS T n e ℓ 2 5 5 3 3 (k + 1) := by
  intro b dp c v f h2 h3 hdp hw hc hf hk
  rw [pz_2]
  refine Sc.bdd (ih.m1 b dp c 0 f h2 h3 hdp (by omega) hc hf (by omega)) fun hr s2 f2 hf2 p2 => ?_
  have q1 := pz_ge hE hr
  have q2 := pz_q (T := T) (n := n) (e := e) k 1 dp c 0 hc
  exact ih.m8 b s2 dp _ _ f2 ⟨p2.1.mono (by decide) (by omega), p2.2.1, p2.2.2.1, p2.2.2.2.1, p2.2.2.2.2⟩ h3 hdp hw q2 hf2 (by omega)
theorem s_9 (hE : EH T n e ℓ) (ih : SimAll T n e ℓ k) : SimL T n e ℓ 9 2 5 (k + 1) := by
  intro b s dp c v f hP h5 h7 h3 hdp hw hc hf hk
  obtain ⟨hS, h6, hv, h2, hq⟩ := hP
  rw [pz_9]
  by_cases c1 : sgn T n (nx T n c) = 38
  · rw [if_pos c1]
    have h0 : sgn T n (nx T n c) ≠ 0 := by omega
    obtain ⟨hlt, hge⟩ := sp h0
    obtain ⟨f, rfl⟩ : ∃ g, f = g + 1 := ⟨f - 1, by omega⟩
    obtain ⟨b1, C, hm, g1, g2, g3, g4, g5, g6, g8⟩ := lm_lo (T := T) (n := n) (c := c) (f := f) hS h2 h5 c1 (by decide) (by decide) hw
    refine Sc.mv hm (Sc.bdd (ih.m4 b1 dp _ 0 f g5 (g4.2.2.1.trans h5) (g4.2.2.2.trans h7) g8 (by rw [if_neg (by decide)]; exact Or.inl (g6.trans h6)) (g4.1.trans h3) hdp (by rw [g2]; show stK 38 < 4; decide) (by omega) (by omega) (by omega)) fun hr s2 f2 hf2 p2 => ?_)
    have q1 := pz_ge hE hr
    have q2 := pz_q (T := T) (n := n) (e := e) k 4 dp (nx T n c + 1) 0 (by omega)
    refine ih.m9 b s2 dp _ _ f2 ⟨Sm.bin g1 g2 g3 g4 p2.1 (by decide) (by decide) (by unfold opS; omega) (Nat.le_refl _) (by omega) (jn_and hv p2.2.2.1) ?_, p2.2.1, ?_, p2.2.2.2.1, p2.2.2.2.2⟩ h5 h7 h3 hdp hw q2 hf2 (by omega)
    · unfold andZ; split <;> (unfold bd6; omega)
    · unfold andZ; split <;> omega
  · rw [if_neg c1]
    refine Sc.rn hf ⟨hS, h6, hv, h2, ?_⟩
    rw [nx_nx]
    exact ⟨fun z => ⟨fun _ => (hq.1 z).1 (by decide), fun _ => (hq.1 z).2 (by decide)⟩, fun _ => c1, fun w => absurd w (by decide)⟩
theorem s_10 (hE : EH T n e ℓ) (ih : SimAll T n e ℓ k) : SimL T n e ℓ 10 1 6 (k + 1) := by
  intro b s dp c v f hP h5 h7 h3 hdp hw hc hf hk
  obtain ⟨hS, h6, hv, h2, hq⟩ := hP
  rw [pz_10]
  by_cases c1 : sgn T n (nx T n c) = 124
  · rw [if_pos c1]
    have h0 : sgn T n (nx T n c) ≠ 0 := by omega
    obtain ⟨hlt, hge⟩ := sp h0
    obtain ⟨f, rfl⟩ : ∃ g, f = g + 1 := ⟨f - 1, by omega⟩
    obtain ⟨b1, C, hm, g1, g2, g3, g4, g5, g6, g8⟩ := lm_lo (T := T) (n := n) (c := c) (f := f) hS h2 h5 c1 (by decide) (by decide) hw
    refine Sc.mv hm (Sc.bdd (ih.m5 b1 dp _ 0 f g5 (g4.2.2.1.trans h5) (g4.2.2.2.trans h7) g8 (by rw [if_neg (by decide)]; exact Or.inl (g6.trans h6)) (g4.1.trans h3) hdp (by rw [g2]; show stK 124 < 2; decide) (by omega) (by omega) (by omega)) fun hr s2 f2 hf2 p2 => ?_)
    have q1 := pz_ge hE hr
    have q2 := pz_q (T := T) (n := n) (e := e) k 5 dp (nx T n c + 1) 0 (by omega)
    refine ih.m10 b s2 dp _ _ f2 ⟨Sm.bin g1 g2 g3 g4 p2.1 (by decide) (by decide) (by unfold opS; omega) (Nat.le_refl _) (by omega) (jn_or hv p2.2.2.1) ?_, p2.2.1, ?_, p2.2.2.2.1, p2.2.2.2.2⟩ h5 h7 h3 hdp hw q2 hf2 (by omega)
    · unfold orZ; split <;> (unfold bd6; omega)
    · unfold orZ; split <;> omega
  · rw [if_neg c1]
    refine Sc.rn hf ⟨hS, h6, hv, h2, ?_⟩
    rw [nx_nx]
    exact ⟨fun z => ⟨fun _ => (hq.1 z).1 (by decide), fun _ => (hq.1 z).2 (by decide)⟩, fun _ => hq.2.1 (by decide), fun _ => c1⟩
theorem s_5 (hE : EH T n e ℓ) (ih : SimAll T n e ℓ k) : SimU T n e ℓ 5 2 2 5 6 (k + 1) := by
  intro b dp c v f h2 h5 h7 h8 h6 h3 hdp hw hc hf hk
  rw [if_neg (by decide)] at h6
  rw [pz_5]
  refine Sc.bdd (ih.m4 b dp c 0 f h2 h5 h7 h8 (by rw [if_neg (by decide)]; exact h6) h3 hdp (by omega) hc hf (by omega)) fun hr s2 f2 hf2 p2 => ?_
  have q1 := pz_ge hE hr
  have q2 := pz_q (T := T) (n := n) (e := e) k 4 dp c 0 hc
  exact ih.m9 b s2 dp _ _ f2 ⟨p2.1.mono (by decide) (by omega), p2.2.1, p2.2.2.1, p2.2.2.2.1, p2.2.2.2.2⟩ h5 h7 h3 hdp hw q2 hf2 (by omega)
theorem s_6 (hE : EH T n e ℓ) (ih : SimAll T n e ℓ k) : SimU T n e ℓ 6 1 1 6 7 (k + 1) := by
  intro b dp c v f h2 h5 h7 h8 h6 h3 hdp hw hc hf hk
  rw [if_neg (by decide)] at h6
  rw [pz_6]
  refine Sc.bdd (ih.m5 b dp c 0 f h2 h5 h7 h8 (by rw [if_neg (by decide)]; exact h6) h3 hdp (by omega) hc hf (by omega)) fun hr s2 f2 hf2 p2 => ?_
  have q1 := pz_ge hE hr
  have q2 := pz_q (T := T) (n := n) (e := e) k 5 dp c 0 hc
  exact ih.m10 b s2 dp _ _ f2 ⟨p2.1.mono (by decide) (by omega), p2.2.1, p2.2.2.1, p2.2.2.2.1, p2.2.2.2.2⟩ h5 h7 h3 hdp hw q2 hf2 (by omega)
theorem s_11 (hE : EH T n e ℓ) (ih : SimAll T n e ℓ k) : SimC T n e ℓ 11 4 4 4 1 (k + 1) := by
  intro b s dp c v f hP h5 h7 h8 h6 h3 hdp hw hc hf hk
  obtain ⟨hS, g2, g6, g8, hq⟩ := hP
  obtain ⟨f, rfl⟩ : ∃ g, f = g + 1 := ⟨f - 1, by omega⟩
  rw [pz_11]
  by_cases c1 : sgn T n (nx T n c) = 61 ∨ sgn T n (nx T n c) = 60 ∨ sgn T n (nx T n c) = 62
  · rw [if_pos c1]
    have h0 : sgn T n (nx T n c) ≠ 0 := by omega
    obtain ⟨hlt, hge⟩ := sp h0
    have hst : stK (sgn T n (nx T n c)) = 4 := by rcases c1 with q | q | q <;> rw [q] <;> rfl
    obtain ⟨b1, C, hm, i1, i2, i3, i4, i5, i6, i8⟩ := lm_cmp (T := T) (n := n) (c := c) (x := sgn T n (nx T n c)) (f := f) hS g2 h5 h7 (g8.trans h8) rfl c1 (by decide) hw
    refine Sc.mv hm (Sc.bdd (ih.m2 b1 dp _ 0 f (Or.inl i5) (i4.1.trans h3) hdp (by rw [i2]; show stK _ < 5; omega) (by omega) (by omega) (by omega)) fun hr s2 f2 hf2 p2 => ?_)
    have q2 := pz_q (T := T) (n := n) (e := e) k 2 dp (nx T n c + 1) 0 (by omega)
    refine Sc.ret hf2 ⟨Sm.bin i1 i2 i3 i4 p2.1 (by decide) (by omega) (by unfold opS; omega) (by omega) (by omega) (jn_cmp c1 hS.2.1 p2.1.2.1) (cmp_bd _ _ _), p2.2.2.1.trans i6, ?_, Or.inr ⟨p2.2.1, p2.2.2.2.1.trans i8⟩, ?_⟩
    · unfold cmpZ; (repeat' split) <;> omega
    · exact ⟨fun z => ⟨fun _ => (p2.2.2.2.2.1 z).1 (by decide), fun _ => (p2.2.2.2.2.1 z).2 (by decide)⟩, fun w => absurd w (by decide), fun w => absurd w (by decide)⟩
  · rw [if_neg c1]
    have k1 := (hq.1 g2).1 (by decide)
    have k2 := (hq.1 g2).2 (by decide)
    have e5 := hS.2.2.2.1.trans h5
    have e7 := hS.2.2.2.2.trans h7
    have e8 := g8.trans h8
    have e6 : s.2.1 6 = 1 := by omega
    refine Sc.no (lmM_no (Or.inl g2) ?_ ?_)
    · unfold lmEnd; rw [decide_eq_false_iff_not]; omega
    · have hE2 : lmEnd s.2.1 = false := by unfold lmEnd; rw [decide_eq_false_iff_not]; omega
      unfold lmFit lmUw
      simp only [hE2, Bool.false_eq_true, and_false, or_false]
      omega
theorem s_12 (hE : EH T n e ℓ) (ih : SimAll T n e ℓ k) : SimC T n e ℓ 12 2 2 5 2 (k + 1) := by
  intro b s dp c v f hP h5 h7 h8 h6 h3 hdp hw hc hf hk
  rw [pz_12]
  refine Sc.bdd (ih.m11 b s dp c v f hP h5 h7 h8 h6 h3 hdp (by omega) hc hf (by omega)) fun hr s2 f2 hf2 p2 => ?_
  have q1 := (pz_bd hE.1 k 11 dp c v hP.1.2.1 hr).1
  have q2 := pz_q (T := T) (n := n) (e := e) k 11 dp c v hc
  exact ih.m9 b s2 dp _ _ f2 ⟨p2.1.mono (by decide) (by omega), p2.2.1, p2.2.2.1, p2.2.2.2.1, ⟨fun z => ⟨fun _ => (p2.2.2.2.2.1 z).1 (by decide), fun _ => (p2.2.2.2.2.1 z).2 (by decide)⟩, fun w => absurd w (by decide), fun w => absurd w (by decide)⟩⟩ h5 h7 h3 hdp hw q2 hf2 (by omega)
theorem s_13 (hE : EH T n e ℓ) (ih : SimAll T n e ℓ k) : SimC T n e ℓ 13 1 1 6 3 (k + 1) := by
  intro b s dp c v f hP h5 h7 h8 h6 h3 hdp hw hc hf hk
  rw [pz_13]
  refine Sc.bdd (ih.m12 b s dp c v f hP h5 h7 h8 h6 h3 hdp (by omega) hc hf (by omega)) fun hr s2 f2 hf2 p2 => ?_
  have q1 := (pz_bd hE.1 k 12 dp c v hP.1.2.1 hr).1
  have q2 := pz_q (T := T) (n := n) (e := e) k 12 dp c v hc
  exact ih.m10 b s2 dp _ _ f2 ⟨p2.1.mono (by decide) (by omega), p2.2.1, p2.2.2.1, p2.2.2.2.1, p2.2.2.2.2⟩ h5 h7 h3 hdp hw q2 hf2 (by omega)
theorem s_3 (hE : EH T n e ℓ) (ih : SimAll T n e ℓ k) : SimU T n e ℓ 3 4 4 4 4 (k + 1) := by
  intro b dp c v f h2 h5 h7 h8 h6 h3 hdp hw hc hf hk
  rw [if_pos rfl] at h6
  rw [pz_3]
  refine Sc.bdd (ih.m2 b dp c 0 f (Or.inr ⟨h2, h6.2⟩) h3 hdp (by omega) hc hf (by omega)) fun hr s2 f2 hf2 p2 => ?_
  have q1 := pz_ge hE hr
  have q2 := pz_q (T := T) (n := n) (e := e) k 2 dp c 0 hc
  exact ih.m11 b s2 dp _ _ f2 p2 h5 h7 h8 (Or.inl h6.1) h3 hdp hw q2 hf2 (by omega)
end LM3
