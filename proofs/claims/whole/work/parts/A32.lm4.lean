/-! the machine and the grammar: clauses and laws -/
def ScO (T : Nat → Nat) (n f : Nat) (s : Lm) (c : Nat) (r : Bool × Nat × Option Int) (P : Lm → Option Int → Nat → Prop) : Prop :=
  (r.1 = false → (lmM T n f s c).1 = false ∧ (lmM T n f s c).2.1 = r.2.1) ∧
  (r.1 = true → ∃ s' f', lmM T n f s c = lmM T n f' s' r.2.1 ∧ n - r.2.1 < f' ∧ P s' r.2.2 r.2.1)
section LM6
variable {T : Nat → Nat} {n f f' : Nat} {s s' : Lm} {c c' : Nat} {P : Lm → Option Int → Nat → Prop}
theorem ScO.mv {r : Bool × Nat × Option Int} (h : lmM T n f s c = lmM T n f' s' c') (g : ScO T n f' s' c' r P) : ScO T n f s c r P := by unfold ScO; rw [h]; exact g
theorem ScO.no {z : Option Int} (h : (lmM T n f s c).1 = false ∧ (lmM T n f s c).2.1 = c') : ScO T n f s c (false, c', z) P := ⟨fun _ => h, fun q => by cases q⟩
theorem ScO.ret {z : Option Int} (hf : n - c < f) (h : P s z c) : ScO T n f s c (true, c, z) P := ⟨fun q => (by cases q), fun _ => ⟨s, f, rfl, hf, h⟩⟩
end LM6
theorem xL_skip (ℓ : Nat → Int32) (K : List Int32) (st : List Int32) : ∀ C : List Int32, (∀ y, y ∈ C → y ≠ -59) → xL ℓ (C ++ [negS 59] ++ K) true st = xL ℓ K false st
  | [] => fun _ => by
    rw [List.nil_append, List.cons_append, List.nil_append, xL.eq_def]
    simp only
    rw [if_pos trivial]
    exact congrArg (fun y => xL ℓ K y st) (by decide)
  | x :: C => fun h => by
    rw [List.cons_append, List.cons_append, xL.eq_def]
    simp only
    rw [if_pos trivial, show (x != -59) = true by rw [bne_iff_ne]; exact h x List.mem_cons_self]
    exact xL_skip ℓ K st C (fun y hy => h y (List.mem_cons_of_mem _ hy))
theorem xL_59 (ℓ : Nat → Int32) (K : List Int32) (v : Int32) : xL ℓ ([negS 59] ++ K) false [v] = some v := by
  rw [List.cons_append, List.nil_append, xL.eq_def]
  simp only
  rw [if_neg (by decide), if_neg (by decide), if_neg (by decide), if_pos (by decide)]
  rfl
theorem xL_63 (ℓ : Nat → Int32) (K : List Int32) (v : Int32) : xL ℓ ([negS 63] ++ K) false [v] = xL ℓ K (v == 0) [] := by
  rw [List.cons_append, List.nil_append, xL.eq_def]
  simp only
  rw [if_neg (by decide), if_neg (by decide), if_neg (by decide), if_neg (by decide), if_pos (by decide)]
theorem lmGo_59 (s : Lm) : lmGo 59 s = ((lmR 59 s).1, upn (lmR 59 s).2.1 2 0, (lmR 59 s).2.2 ++ [negS 59]) := by unfold lmGo lmG; rw [if_neg (by decide), if_neg (by decide), if_pos rfl]
theorem lmGo_63 (s : Lm) : lmGo 63 s = ((lmR 63 s).1, upn (upn (upn (lmR 63 s).2.1 7 1) 8 0) 2 3, (lmR 63 s).2.2 ++ [negS 63]) := by unfold lmGo lmG; rw [if_neg (by decide), if_neg (by decide), if_neg (by decide), if_pos rfl]
/-- a clause is read -/
def ClP (T : Nat → Nat) (n : Nat) (ℓ : Nat → Int32) (b : Lm) (s : Lm) (o : Option Int) (q : Nat) : Prop :=
  s.2.1 2 = 4 ∧ lmEnd s.2.1 = true ∧ (sgn T n (nx T n q) ≠ 59 → ¬ lmFit s.2.1 (sgn T n (nx T n q))) ∧ s.2.1 4 = 0 ∧ s.2.1 5 = 0 ∧ s.2.1 8 = 0 ∧
  ∃ C, (lmR 59 s).1 = [] ∧ (lmR 59 s).2.2 = b.2.2 ++ C ∧ (lmR 59 s).2.1 3 = 0 ∧ (∀ j, j ≠ 3 → (lmR 59 s).2.1 j = s.2.1 j) ∧ ∀ K, xL ℓ (C ++ [negS 59] ++ K) false [] = match o with
    | some v => some (iI v)
    | none => xL ℓ K false []
section LM7
variable {T : Nat → Nat} {n k : Nat} {e : Nat → Int} {ℓ : Nat → Int32}
theorem s_Q (hE : EH T n e ℓ) {b s : Lm} {c f : Nat} {r : Bool × Nat × Int} (hb : b.1 = [] ∧ b.2.1 3 = 0 ∧ b.2.1 4 = 0 ∧ b.2.1 5 = 0 ∧ b.2.1 7 = 0) (hq : r.2.1 ≤ n) (hk : 16 * n + 7 ≤ k) (h : Sc T n f s c r (PC T n ℓ 1 1 42 b)) : ScO T n f s c (pcl.pclQ T n e k r) (ClP T n ℓ b) := by
  obtain ⟨hb1, hb3, hb4, hb5, hb7⟩ := hb
  unfold pcl.pclQ
  cases hr : r.1 with
  | false => rw [if_pos rfl]; exact ScO.no (h.1 hr)
  | true =>
    rw [if_neg (by decide)]
    obtain ⟨s2, f2, hm2, hf2, ⟨hS, h6, hv, h2, hx⟩⟩ := h.2 hr
    obtain ⟨f2, rfl⟩ : ∃ g, f2 = g + 1 := ⟨f2 - 1, by omega⟩
    have e4 := hS.2.2.1.trans hb4
    have e5 := hS.2.2.2.1.trans hb5
    have e7 := hS.2.2.2.2.trans hb7
    refine ScO.mv hm2 ?_
    by_cases c63 : sgn T n (nx T n r.2.1) = 63
    · rw [if_neg (fun z => z c63)]
      have h0 : sgn T n (nx T n r.2.1) ≠ 0 := by omega
      obtain ⟨hlt, hge⟩ := sp h0
      obtain ⟨C, g1, g2, g3, g4, g5⟩ := lmR_ok (x := 63) hS (by rw [hb1]; decide) (by decide)
      have hm := lmM_f (f := f2) h0 (by omega) (show lmFit s2.2.1 _ from Or.inr (Or.inr (Or.inr (Or.inr (Or.inr (Or.inl ⟨c63, ⟨e5, by omega⟩, e4⟩))))))
      rw [c63, lmGo_63] at hm
      have u : ∀ j, j ≠ 2 → j ≠ 7 → j ≠ 8 → upn (upn (upn (lmR 63 s2).2.1 7 1) 8 0) 2 3 j = (lmR 63 s2).2.1 j := fun j a b c => by rw [upn_ne _ _ a, upn_ne _ _ c, upn_ne _ _ b]
      refine ScO.mv hm ?_
      have hs := (sim_all hE k).m2 ((lmR 63 s2).1, upn (upn (upn (lmR 63 s2).2.1 7 1) 8 0) 2 3, (lmR 63 s2).2.2 ++ [negS 63]) 0 (nx T n r.2.1 + 1) 0 f2 (Or.inl (rfl)) ((u 3 (by decide) (by decide) (by decide)).trans (g4.trans hb3)) (by decide) (by show tsW (lmR 63 s2).1 < 5; rw [g2, hb1]; decide) (by omega) (by omega) (by omega)
      by_cases c2 : (pz T n e k 2 0 (nx T n r.2.1 + 1) 0).1 = false
      · rw [if_pos c2]; exact ScO.no (hs.1 c2)
      · rw [if_neg c2]
        obtain ⟨s3, f3, hm3, hf3, ⟨hS3, i2, i6, i8, ix⟩⟩ := hs.2 (by cases hh : (pz T n e k 2 0 (nx T n r.2.1 + 1) 0).1 with
          | false => exact absurd hh c2
          | true => rfl)
        refine ScO.mv hm3 (ScO.ret hf3 ?_)
        have j4 : s3.2.1 4 = 0 := by rw [hS3.2.2.1]; exact (u 4 (by decide) (by decide) (by decide)).trans ((g5 4 (by decide)).trans e4)
        have j5 : s3.2.1 5 = 0 := by rw [hS3.2.2.2.1]; exact (u 5 (by decide) (by decide) (by decide)).trans ((g5 5 (by decide)).trans e5)
        have j7 : s3.2.1 7 = 1 := by rw [hS3.2.2.2.2]; rfl
        have j8 : s3.2.1 8 = 0 := by rw [i8]; rfl
        have hEn : lmEnd s3.2.1 = true := by unfold lmEnd; rw [decide_eq_true_eq]; omega
        have k1 := (ix.1 i2).1 (by decide)
        have k2 := (ix.1 i2).2 (by decide)
        obtain ⟨C2, a1, a2, a3, a4, a5⟩ := lmR_ok (x := 59) hS3 (show tsW (lmR 63 s2).1 < 1 by rw [g2, hb1]; decide) (by decide)
        refine ⟨i2, hEn, fun h59 => ?_, j4, j5, j8, C ++ ([negS 63] ++ C2), a2.trans (g2.trans hb1), ?_, a4.trans ((u 3 (by decide) (by decide) (by decide)).trans (g4.trans hb3)), a5, fun K => ?_⟩
        · unfold lmFit lmUw
          simp only [hEn, and_true]
          omega
        · rw [a3]
          show (lmR 63 s2).2.2 ++ [negS 63] ++ C2 = _
          rw [g3]; simp only [List.append_assoc]
        · rw [show C ++ ([negS 63] ++ C2) ++ [negS 59] ++ K = C ++ ([negS 63] ++ (C2 ++ [negS 59] ++ K)) by simp only [List.append_assoc], g1.1 _ [] (by decide), xL_63]
          rcases hv with hv | hv
          · rw [hv, if_pos rfl]
            rw [show (iI 0 == 0) = true by decide]
            exact xL_skip ℓ K [] C2 a1.2
          · rw [hv, if_neg (by decide), show (iI 1 == 0) = false by decide, List.append_assoc, a1.1 _ [] (by decide)]
            exact xL_59 ℓ K _
    · rw [if_pos c63]
      have k1 := hx.2.1 (by decide)
      have k2 := hx.2.2 (by decide)
      have k3 := fun z => (hx.1 z).1 (by decide)
      have k4 := fun z => (hx.1 z).2 (by decide)
      have hE2 : lmEnd s2.2.1 = false := by unfold lmEnd; rw [decide_eq_false_iff_not]; omega
      refine ScO.no (lmM_no (by omega) hE2 ?_)
      unfold lmFit lmUw
      simp only [hE2, Bool.false_eq_true, and_false, or_false]
      omega
def Hd (s : Lm) : Prop := s.1 = [] ∧ s.2.1 2 = 0 ∧ s.2.1 3 = 0 ∧ s.2.1 4 = 0 ∧ s.2.1 5 = 0 ∧ s.2.1 8 = 0
theorem s_cl (hE : EH T n e ℓ) {s : Lm} {c f : Nat} (hs : Hd s) (hc : c ≤ n) (hf : n - c < f) (hk : 16 * n + 7 ≤ k) : ScO T n f s c (pcl T n e k c) (ClP T n ℓ s) := by
  obtain ⟨s1, s2, s3, s4, s5, s8⟩ := hs
  obtain ⟨f, rfl⟩ : ∃ g, f = g + 1 := ⟨f - 1, by omega⟩
  unfold pcl
  by_cases c1 : sgn T n (nx T n c) = 121
  · rw [if_neg (fun z => z c1)]
    have h0 : sgn T n (nx T n c) ≠ 0 := by omega
    obtain ⟨hlt, hge⟩ := sp h0
    have ht : lmTk T n (nx T n c) s = (true, nx T n c + 1, (s.1, upn s.2.1 2 1, s.2.2)) := by unfold lmTk; rw [if_pos s2, if_pos c1]
    refine ScO.mv (lmM_t h0 (by omega) ht) ?_
    obtain ⟨f, rfl⟩ : ∃ g, f = g + 1 := ⟨f - 1, by omega⟩
    generalize hc1 : nx T n c + 1 = c1'
    by_cases c2 : sgn T n (nx T n c1') = 58
    · rw [if_neg (fun z => z c2)]
      have h02 : sgn T n (nx T n c1') ≠ 0 := by omega
      obtain ⟨hlt2, hge2⟩ := sp h02
      have ht2 : lmTk T n (nx T n c1') (s.1, upn s.2.1 2 1, s.2.2) = (true, nx T n c1' + 1, (s.1, upn (upn (upn (upn s.2.1 2 1) 6 0) 7 0) 2 2, s.2.2)) := by
        unfold lmTk
        rw [if_neg (by show ¬ upn s.2.1 2 1 2 = 0; rw [upn_eq]; decide), if_pos (show upn s.2.1 2 1 2 = 1 from rfl), if_pos c2]
      refine ScO.mv (lmM_t h02 (by show upn s.2.1 2 1 2 < 4; rw [upn_eq]; decide) ht2) ?_
      generalize hb : ((s.1, upn (upn (upn (upn s.2.1 2 1) 6 0) 7 0) 2 2, s.2.2) : Lm) = b
      have b1 : b.1 = [] := by rw [← hb]; exact s1
      have b2 : b.2.1 2 = 2 := by rw [← hb]; exact rfl
      have b3 : b.2.1 3 = 0 := by rw [← hb]; exact s3
      have b4 : b.2.1 4 = 0 := by rw [← hb]; exact s4
      have b5 : b.2.1 5 = 0 := by rw [← hb]; exact s5
      have b6 : b.2.1 6 = 0 := by rw [← hb]; rfl
      have b7 : b.2.1 7 = 0 := by rw [← hb]; rfl
      have b8 : b.2.1 8 = 0 := by rw [← hb]; exact s8
      have bk : b.2.2 = s.2.2 := by rw [← hb]
      have hP : ∀ s' o q, ClP T n ℓ b s' o q → ClP T n ℓ s s' o q := fun s' o q h => by unfold ClP at h ⊢; rw [bk] at h; exact h
      have hcc : nx T n c1' + 1 ≤ n := by omega
      have hff : n - (nx T n c1' + 1) < f := by omega
      refine ScO.mv (lmM_nx T n f b _ (by omega)).symm ?_
      have hc3 := nx_b T n (nx T n c1' + 1)
      have hn3 := nx_nx T n (nx T n c1' + 1)
      generalize nx T n (nx T n c1' + 1) = c3 at hc3 hn3
      have hc3n : c3 ≤ n := by omega
      have main : ScO T n f b c3 (pcl.pclB T n e k c3) (ClP T n ℓ b) := by
        have ihs := sim_all hE k
        unfold pcl.pclB
        by_cases c33 : sgn T n c3 = 33 ∨ sgn T n c3 = 40
        · rw [if_pos c33]
          refine s_Q hE ⟨b1, b3, b4, b5, b7⟩ (pz_q k 6 0 c3 0 hc3n) hk ?_
          exact ihs.m6 b 0 c3 0 f b2 b5 b7 b8 (by rw [if_neg (by decide), hn3]; omega) b3 (by decide) (by rw [b1]; decide) hc3n (by omega) (by omega)
        · rw [if_neg c33]
          have hm := ihs.m2 b 0 c3 0 f (Or.inr ⟨b2, by rw [hn3]; omega, by rw [hn3]; omega⟩) b3 (by decide) (by rw [b1]; decide) hc3n (by omega) (by omega)
          have hq := pz_q (T := T) (n := n) (e := e) k 2 0 c3 0 hc3n
          by_cases c2f : (pz T n e k 2 0 c3 0).1 = false
          · rw [if_pos c2f]; exact ScO.no (hm.1 c2f)
          · rw [if_neg c2f]
            obtain ⟨t, g, hm2, hg, ⟨hS, i2, i6, i8, ix⟩⟩ := hm.2 (by cases hh : (pz T n e k 2 0 c3 0).1 with
              | false => exact absurd hh c2f
              | true => rfl)
            refine ScO.mv hm2 ?_
            have hq2 := nx_b T n (pz T n e k 2 0 c3 0).2.1
            have hqq := nx_nx T n (pz T n e k 2 0 c3 0).2.1
            refine ScO.mv (lmM_nx T n g t _ (by omega)).symm ?_
            by_cases cc : sgn T n (nx T n (pz T n e k 2 0 c3 0).2.1) = 61 ∨ sgn T n (nx T n (pz T n e k 2 0 c3 0).2.1) = 60 ∨ sgn T n (nx T n (pz T n e k 2 0 c3 0).2.1) = 62
            · rw [if_pos cc]
              refine s_Q hE ⟨b1, b3, b4, b5, b7⟩ (pz_q k 13 0 _ _ (by omega)) hk ?_
              exact ihs.m13 b t 0 _ _ g ⟨hS, i2, i6, i8, by rw [hqq]; exact ix⟩ b5 b7 b8 (by rw [hqq]; omega) b3 (by decide) (by rw [b1]; decide) (by omega) (by omega) (by omega)
            · rw [if_neg cc]
              refine ScO.ret (by omega) ?_
              have k1 := (ix.1 i2).1 (by decide)
              have k2 := (ix.1 i2).2 (by decide)
              have j4 := hS.2.2.1.trans b4
              have j5 := hS.2.2.2.1.trans b5
              have j7 := hS.2.2.2.2.trans b7
              have j8 := i8.trans b8
              have j6 := i6.trans b6
              have hEn : lmEnd t.2.1 = true := by unfold lmEnd; rw [decide_eq_true_eq]; omega
              obtain ⟨C2, a1, a2, a3, a4, a5⟩ := lmR_ok (x := 59) hS (by rw [b1]; decide) (by decide)
              refine ⟨i2, hEn, fun h59 => ?_, j4, j5, j8, C2, a2.trans b1, a3, a4.trans b3, a5, fun K => ?_⟩
              · rw [hqq] at h59 ⊢
                unfold lmFit lmUw
                simp only [hEn, and_true]
                omega
              · rw [List.append_assoc, a1.1 _ [] (by decide)]
                exact xL_59 ℓ K _
      exact ⟨main.1, fun h => by obtain ⟨a, d, g1, g2, g3⟩ := main.2 h; exact ⟨a, d, g1, g2, hP _ _ _ g3⟩⟩
    · rw [if_pos c2]
      refine ScO.no ?_
      have h21 : (s.1, upn s.2.1 2 1, s.2.2).2.1 2 = 1 := rfl
      by_cases h0 : sgn T n (nx T n c1') = 0
      · exact lmM_0 (by omega) h0
      · refine lmM_tn h0 (by omega) (s' := (s.1, upn s.2.1 2 1, s.2.2)) ?_
        unfold lmTk
        rw [if_neg (by omega), if_pos h21, if_neg c2]
  · rw [if_pos c1]
    refine ScO.no ?_
    by_cases h0 : sgn T n (nx T n c) = 0
    · exact lmM_0 (by omega) h0
    · refine lmM_tn h0 (by omega) (s' := s) ?_
      unfold lmTk
      rw [if_pos s2, if_neg c1]
theorem pcl_ge (hE : EH T n e ℓ) {c : Nat} (h : (pcl T n e k c).1 = true) : c + 1 ≤ (pcl T n e k c).2.1 := by
  have hz : bd6 0 := by unfold bd6; omega
  have hQ : ∀ (r : Bool × Nat × Int) c, (r.1 = true → c ≤ r.2.1) → (pcl.pclQ T n e k r).1 = true → c ≤ (pcl.pclQ T n e k r).2.1 := by
    intro r c hr h
    unfold pcl.pclQ at h ⊢
    cases h1 : r.1 with
    | false => rw [h1] at h; cases h
    | true =>
      rw [h1, if_neg (by decide)] at h
      rw [if_neg (by decide)]
      split at h
      · cases h
      · next h2 =>
        rw [if_neg h2]
        split at h
        · cases h
        · next h3 =>
          rw [if_neg h3]
          have h4 := pz_ge (m := 2) (dp := 0) (c := nx T n r.2.1 + 1) (k := k) hE (by cases hh : (pz T n e k 2 0 (nx T n r.2.1 + 1) 0).1 with
            | false => exact absurd hh h3
            | true => rfl)
          have h5 := nx_b T n r.2.1
          have h6 := hr h1
          show c ≤ (pz T n e k 2 0 (nx T n r.2.1 + 1) 0).2.1
          omega
  have hB : ∀ c, (pcl.pclB T n e k c).1 = true → c ≤ (pcl.pclB T n e k c).2.1 := by
    intro c h
    unfold pcl.pclB at h ⊢
    split at h
    · next h1 => rw [if_pos h1]; exact hQ _ c (fun q => pz_ge hE q) h
    · next h1 =>
      rw [if_neg h1]
      split at h
      · cases h
      · next h2 =>
        rw [if_neg h2]
        have h2' : (pz T n e k 2 0 c 0).1 = true := by cases hh : (pz T n e k 2 0 c 0).1 with
          | false => exact absurd hh h2
          | true => rfl
        have h3 := pz_bd (T := T) (n := n) hE.1 k 2 0 c 0 hz h2'
        have h5 := nx_b T n (pz T n e k 2 0 c 0).2.1
        split at h
        · next h4 =>
          rw [if_pos h4]
          refine hQ _ c (fun q => ?_) h
          have := (pz_bd (T := T) (n := n) hE.1 k 13 0 _ _ h3.2 q).1
          omega
        · next h4 => rw [if_neg h4]; show c ≤ nx T n _; omega
  unfold pcl at h ⊢
  split at h
  · cases h
  · next h1 =>
    rw [if_neg h1]
    split at h
    · cases h
    · next h2 =>
      rw [if_neg h2]
      have := hB _ h
      have a1 := nx_b T n c
      have a2 := nx_b T n (nx T n c + 1)
      have a3 := nx_b T n (nx T n (nx T n c + 1) + 1)
      omega
theorem s_lw (hE : EH T n e ℓ) (hk : 16 * n + 7 ≤ k) : ∀ q s c f o, Hd s → c ≤ n → n - c < f → n - c < q →
    ((plw T n e k q c o).1 = false → (lmM T n f s c).1 = false ∧ (lmM T n f s c).2.1 = (plw T n e k q c o).2.1) ∧
    ((plw T n e k q c o).1 = true → ∃ K o', (lmM T n f s c).1 = true ∧ (lmM T n f s c).2.1 = (plw T n e k q c o).2.1 ∧ (lmM T n f s c).2.2.2.2 = s.2.2 ++ K ∧ (plw T n e k q c o).2.2 = o.or o' ∧ xL ℓ K false [] = some (iI (o'.getD 0)))
  | 0, _, _, _, _ => fun _ _ _ hq => absurd hq (Nat.not_lt_zero _)
  | q + 1, s, c, f, o => fun hs hc hf hq => by
    have hcl := s_cl (T := T) (n := n) (e := e) hE hs hc hf hk
    have hqn := pcl_q (T := T) (n := n) (e := e) (k := k) c hc
    rw [plw_s]
    cases hr : (pcl T n e k c).1 with
    | false =>
      rw [if_pos rfl]
      exact ⟨fun _ => hcl.1 hr, fun z => by cases z⟩
    | true =>
      rw [if_neg (by decide)]
      have hge := pcl_ge hE hr
      obtain ⟨t, g, hm, hg, i2, iE, iF, i4, i5, i8, C, a1, a2, a3, a5, aK⟩ := hcl.2 hr
      obtain ⟨g, rfl⟩ : ∃ y, g = y + 1 := ⟨g - 1, by omega⟩
      rw [hm]
      unfold plwR
      by_cases c59 : sgn T n (nx T n (pcl T n e k c).2.1) = 59
      · rw [if_pos c59]
        have h0 : sgn T n (nx T n (pcl T n e k c).2.1) ≠ 0 := by omega
        obtain ⟨hlt, hge2⟩ := sp h0
        have hm2 := lmM_f (f := g) h0 (by omega) (show lmFit t.2.1 _ from Or.inr (Or.inr (Or.inr (Or.inr (Or.inr (Or.inr ⟨c59, iE⟩))))))
        rw [c59, lmGo_59] at hm2
        rw [hm2]
        have ih := s_lw hE hk q ((lmR 59 t).1, upn (lmR 59 t).2.1 2 0, (lmR 59 t).2.2 ++ [negS 59]) (nx T n (pcl T n e k c).2.1 + 1) g (o.or (pcl T n e k c).2.2) ⟨a1, rfl, a3, ((a5 4 (by decide))).trans i4, ((a5 5 (by decide))).trans i5, ((a5 8 (by decide))).trans i8⟩ (by omega) (by omega) (by omega)
        refine ⟨ih.1, fun z => ?_⟩
        obtain ⟨K, o', d1, d2, d3, d4, d5⟩ := ih.2 z
        refine ⟨C ++ [negS 59] ++ K, (pcl T n e k c).2.2.or o', d1, d2, ?_, ?_, ?_⟩
        · rw [d3]; show (lmR 59 t).2.2 ++ [negS 59] ++ K = _; rw [a2]; simp only [List.append_assoc]
        · rw [d4]; cases o <;> rfl
        · rw [aK]
          cases (pcl T n e k c).2.2 with
          | none => exact d5
          | some v => rfl
      · rw [if_neg c59]
        by_cases c0 : sgn T n (nx T n (pcl T n e k c).2.1) = 0
        · rw [if_pos c0]
          refine ⟨fun z => (by cases z), fun _ => ⟨C ++ [negS 59], (pcl T n e k c).2.2, ?_⟩⟩
          rw [lmM_e c0 iE, lmGo_59]
          refine ⟨rfl, rfl, ?_, rfl, ?_⟩
          · show (lmR 59 t).2.2 ++ [negS 59] = _
            rw [a2, List.append_assoc]
          · have := aK []
            rw [List.append_nil] at this
            rw [this]
            cases (pcl T n e k c).2.2 <;> rfl
        · rw [if_neg c0]
          exact ⟨fun _ => by rw [lmM_s, if_neg c0, if_neg (by omega), if_neg (iF c59)]; exact ⟨rfl, rfl⟩, fun z => by cases z⟩
end LM7
