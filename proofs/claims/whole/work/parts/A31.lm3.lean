/-! the machine and the grammar: atoms and units -/
section LM4
variable {T : Nat → Nat} {n c : Nat} {b : Lm}
theorem tk_lt {x : Nat} (hx : sgn T n c = x) (h2 : b.2.1 2 = 3 ∨ (b.2.1 2 = 2 ∧ x ≠ 33 ∧ x ≠ 40)) (ho : x = 105 ∨ x = 100 ∨ x = 102 ∨ x = 117 ∨ x = 121 ∨ x = 114) : lmTk T n c b = (true, c + 1, (b.1, upn b.2.1 2 4, b.2.2 ++ [lco x])) := by
  unfold lmTk
  have hl : isLt x = true := by rcases ho with rfl | rfl | rfl | rfl | rfl | rfl <;> decide +kernel
  have hd : ¬ isDN x = true := fun q => by have := isDN_b q; omega
  rw [hx, if_neg (by omega), if_neg (by omega), if_neg (by omega), if_neg hd, if_pos hl]
theorem tk_dg {x : Nat} (hx : sgn T n c = x) (h2 : b.2.1 2 = 3 ∨ (b.2.1 2 = 2 ∧ x ≠ 33 ∧ x ≠ 40)) (hd : isDN x = true) : lmTk T n c b = if isDN (sgn T n (rdE T n c 4)) = true then (false, rdE T n c 4, b) else (true, rdE T n c 4, (b.1, upn b.2.1 2 4, b.2.2 ++ [nI (rdV T n c 4)])) := by
  unfold lmTk
  have := isDN_b hd
  rw [hx, if_neg (by omega), if_neg (by omega), if_neg (by omega), if_pos hd]
theorem tk_no {x : Nat} (hx : sgn T n c = x) (h2 : b.2.1 2 = 3 ∨ (b.2.1 2 = 2 ∧ x ≠ 33 ∧ x ≠ 40)) (hd : ¬ isDN x = true) (hl : ¬ isLt x = true) (h9 : x ≠ 91) : lmTk T n c b = (false, c, b) := by
  unfold lmTk
  rw [hx, if_neg (by omega), if_neg (by omega), if_neg (by omega), if_neg hd, if_neg hl]
theorem tk_op {x : Nat} (hx : sgn T n c = x) (h2 : x = 91 ∧ (b.2.1 2 = 3 ∨ b.2.1 2 = 2) ∨ b.2.1 2 = 2 ∧ (x = 33 ∨ x = 40)) : lmTk T n c b = if 6 ≤ b.2.1 3 then (false, c, b) else (true, c + 1, (x :: b.1, opM x b.2.1, b.2.2)) := by
  unfold lmTk
  rw [hx, if_neg (by omega), if_neg (by omega), if_pos (by omega)]
end LM4
theorem lmGo_93 (s : Lm) : lmGo 93 s = ((lmR 93 s).1.tail, upn (upn (upn (lmR 93 s).2.1 3 ((lmR 93 s).2.1 3 - 1)) 5 ((lmR 93 s).2.1 5 - 1)) 2 4, (lmR 93 s).2.2) := by unfold lmGo lmG; rw [if_pos rfl]
theorem lmGo_41 (s : Lm) : lmGo 41 s = ((lmR 41 s).1.tail, upn (upn (upn (lmR 41 s).2.1 3 ((lmR 41 s).2.1 3 - 1)) 4 ((lmR 41 s).2.1 4 - 1)) 2 5, (lmR 41 s).2.2) := by unfold lmGo lmG; rw [if_neg (by decide), if_pos rfl]
theorem rdv_b4 (T : Nat → Nat) (n : Nat) (hT : ∀ i, sgn T n i < 256) (c : Nat) : rdv T n 4 c 0 < 10000 := by
  have key : ∀ k c v, rdv T n k c v < (v + 1) * 10 ^ k := by
    intro k
    induction k with
    | zero => intro c v; show v < _; omega
    | succ k ih =>
      intro c v
      unfold rdv
      split
      · next h =>
        have h1 := isDN_b h
        have h2 := ih (c + 1) (v * 10 + sgn T n c - 48)
        refine Nat.lt_of_lt_of_le h2 ?_
        rw [Nat.pow_succ, Nat.mul_comm (10 ^ k) 10, ← Nat.mul_assoc]
        exact Nat.mul_le_mul_right _ (by omega)
      · have : 1 ≤ 10 ^ (k + 1) := Nat.one_le_iff_ne_zero.mpr (by simp)
        calc v < v + 1 := by omega
          _ = (v + 1) * 1 := by omega
          _ ≤ _ := Nat.mul_le_mul_left _ this
  have := key 4 c 0
  omega
theorem bd6_10' (z : Int) : bd6 (if z = 0 then 1 else 0) := by unfold bd6; split <;> omega
theorem qx_l43 {s : Lm} {x : Nat} (h : qx 4 s x) : qx 3 s x := ⟨fun z => ⟨fun _ => (h.1 z).1 (by decide), fun _ => (h.1 z).2 (by decide)⟩, fun w => absurd w (by decide), fun w => absurd w (by decide)⟩
section LM5
variable {T : Nat → Nat} {n k : Nat} {e : Nat → Int} {ℓ : Nat → Int32}
theorem s_0 (hE : EH T n e ℓ) (ih : SimAll T n e ℓ k) : SimS T n e ℓ 0 7 7 1 1 (k + 1) := by
  intro b dp c v f h2 h3 hdp hw hc hf hk
  obtain ⟨f, rfl⟩ : ∃ g, f = g + 1 := ⟨f - 1, by omega⟩
  have qq : ∀ (s : Lm) x, qx 7 s x := fun s x => ⟨fun _ => ⟨fun w => absurd w (by decide), fun w => absurd w (by decide)⟩, fun w => absurd w (by decide), fun w => absurd w (by decide)⟩
  have nm : ∀ P : Nat → Prop, ∀ o, o ∈ ([] : List Nat) → P o := fun P o ho => absurd ho List.not_mem_nil
  by_cases cl : isLt (sgn T n (nx T n c)) = true
  · rw [pz_0, if_pos cl]
    have or := isLt_or _ (hE.2.1 _) cl
    have h0 : sgn T n (nx T n c) ≠ 0 := by omega
    obtain ⟨hlt, hge⟩ := sp h0
    refine Sc.mv (lmM_t h0 (by omega) (tk_lt rfl h2 or)) (Sc.ret (by omega) ⟨⟨⟨[], [lco (sgn T n (nx T n c))], rfl, nm _, List.append_nil _, EvL.let (by omega) (hE.2.1 _) cl hE.2.2, ?_⟩, hE.1 _, ?_, ?_, ?_⟩, rfl, ?_, ?_, qq _ _⟩)
    all_goals exact rfl
  · by_cases c9 : sgn T n (nx T n c) = 91
    · have h0 : sgn T n (nx T n c) ≠ 0 := by omega
      obtain ⟨hlt, hge⟩ := sp h0
      have ht := tk_op (T := T) (n := n) (c := nx T n c) (b := b) (x := 91) c9 (Or.inl ⟨rfl, by omega⟩)
      rw [pz_0, if_neg cl, if_pos c9]
      by_cases c6 : dp = 6
      · rw [if_pos c6]
        rw [if_pos (by omega)] at ht
        exact Sc.no (lmM_tn h0 (by omega) ht)
      · rw [if_neg c6]
        rw [if_neg (by omega)] at ht
        refine Sc.mv (lmM_t h0 (by omega) ht) (Sc.bdd (ih.m2 (91 :: b.1, opM 91 b.2.1, b.2.2) (dp + 1) _ 0 f (Or.inl (rfl)) ?_ (by omega) (show stK 91 < 5 by decide) (by omega) (by omega) (by omega)) fun hr s2 f2 hf2 p2 => ?_)
        · show b.2.1 3 + 1 = dp + 1
          omega
        have q1 := pz_ge hE hr
        have q2 := pz_q (T := T) (n := n) (e := e) k 2 (dp + 1) (nx T n c + 1) 0 (by omega)
        obtain ⟨f2, rfl⟩ : ∃ g, f2 = g + 1 := ⟨f2 - 1, by omega⟩
        have e4 : s2.2.1 4 = b.2.1 4 := p2.1.2.2.1
        have e5 : s2.2.1 5 = b.2.1 5 + 1 := p2.1.2.2.2.1
        have e7 : s2.2.1 7 = b.2.1 7 := p2.1.2.2.2.2
        have e6 : s2.2.1 6 = b.2.1 6 := p2.2.2.1
        have e8 : s2.2.1 8 = b.2.1 8 := p2.2.2.2.1
        have e2 : s2.2.1 2 = 4 := p2.2.1
        by_cases c93 : sgn T n (nx T n (pz T n e k 2 (dp + 1) (nx T n c + 1) 0).2.1) = 93
        · rw [if_pos c93]
          have h02 : sgn T n (nx T n (pz T n e k 2 (dp + 1) (nx T n c + 1) 0).2.1) ≠ 0 := by omega
          obtain ⟨hlt2, hge2⟩ := sp h02
          obtain ⟨C, g1, g2, g3, g4, g5⟩ := lmR_ok (x := 93) p2.1 (show 0 < 1 by decide) (by decide)
          have hm := lmM_f (f := f2) h02 (by omega) (show lmFit s2.2.1 _ from Or.inr (Or.inr (Or.inl ⟨c93, p2.2.1, by omega⟩)))
          rw [c93, lmGo_93] at hm
          refine Sc.mv hm (Sc.ret (by omega) ⟨⟨⟨[], C, by show (lmR 93 s2).1.tail = _; rw [g2]; rfl, nm _, (List.append_nil _).trans g3, g1.up (by omega), ?_⟩, p2.1.2.1, ?_, ?_, ?_⟩, rfl, ?_, ?_, qq _ _⟩)
          · show (lmR 93 s2).2.1 3 - 1 = b.2.1 3 + 0
            rw [g4]; show b.2.1 3 + 1 - 1 = _; omega
          · exact (g5 4 (by decide)).trans e4
          · show (lmR 93 s2).2.1 5 - 1 = _
            rw [g5 5 (by decide), e5]; omega
          · exact (g5 7 (by decide)).trans e7
          · exact (g5 6 (by decide)).trans e6
          · exact (g5 8 (by decide)).trans e8
        · rw [if_neg c93]
          have k1 := (p2.2.2.2.2.1 p2.2.1).1 (by decide)
          have k2 := (p2.2.2.2.2.1 p2.2.1).2 (by decide)
          have hE2 : lmEnd s2.2.1 = false := by unfold lmEnd; rw [decide_eq_false_iff_not]; omega
          refine Sc.no (lmM_no (Or.inl p2.2.1) hE2 ?_)
          unfold lmFit lmUw
          simp only [hE2, Bool.false_eq_true, and_false, or_false]
          omega
    · rw [pz_0, if_neg cl, if_neg c9]
      by_cases cd : isDN (sgn T n (nx T n c)) = true
      · rw [if_pos cd]
        have hb := isDN_b cd
        have h0 : sgn T n (nx T n c) ≠ 0 := by omega
        obtain ⟨hlt, hge⟩ := sp h0
        have ht := tk_dg (T := T) (n := n) (c := nx T n c) (b := b) rfl h2 cd
        have er : rdE T n (nx T n c) 4 = rdE T n c 4 := by unfold rdE; rw [nx_nx]
        have ev : rdV T n (nx T n c) 4 = rdV T n c 4 := by unfold rdV; rw [nx_nx]
        rw [er, ev] at ht
        by_cases cd2 : isDN (sgn T n (rdE T n c 4)) = true
        · rw [if_pos cd2]
          rw [if_pos cd2] at ht
          exact Sc.no (lmM_tn h0 (by omega) ht)
        · rw [if_neg cd2]
          rw [if_neg cd2] at ht
          have hv : rdV T n c 4 < 10000 := rdv_b4 T n hE.2.1 _
          have hq : nx T n c + 1 ≤ rdE T n c 4 := by
            unfold rdE rdc
            rw [if_pos cd]
            exact (rdc_b T n 3 _).1
          refine Sc.mv (lmM_t h0 (by omega) ht) (Sc.ret (by omega) ⟨⟨⟨[], [nI (rdV T n c 4)], rfl, nm _, List.append_nil _, EvL.num (by omega) hv, ?_⟩, (by unfold bd6; omega), ?_, ?_, ?_⟩, rfl, ?_, ?_, qq _ _⟩)
          all_goals exact rfl
      · rw [if_neg cd]
        refine Sc.no ?_
        by_cases h0 : sgn T n (nx T n c) = 0
        · exact lmM_0 (by omega) h0
        · exact lmM_tn h0 (by omega) (tk_no rfl h2 cd cl c9)
theorem cnt33_app : ∀ l m : List Nat, cnt33 (l ++ m) = cnt33 l + cnt33 m
  | [], m => (Nat.zero_add _).symm
  | x :: l, m => by show n33 x + cnt33 (l ++ m) = n33 x + cnt33 l + cnt33 m; rw [cnt33_app l m]; omega
theorem s_4 (hE : EH T n e ℓ) (ih : SimAll T n e ℓ k) : SimU T n e ℓ 4 4 3 4 5 (k + 1) := by
  intro b dp c v f h2 h5 h7 h8 h6 h3 hdp hw hc hf hk
  rw [if_neg (by decide)] at h6
  obtain ⟨f, rfl⟩ : ∃ g, f = g + 1 := ⟨f - 1, by omega⟩
  have nm : ∀ P : Nat → Prop, ∀ o, o ∈ ([] : List Nat) → P o := fun P o ho => absurd ho List.not_mem_nil
  rw [pz_4]
  by_cases c3 : sgn T n (nx T n c) = 33
  · have h0 : sgn T n (nx T n c) ≠ 0 := by omega
    obtain ⟨hlt, hge⟩ := sp h0
    have ht := tk_op (T := T) (n := n) (c := nx T n c) (b := b) (x := 33) c3 (Or.inr ⟨h2, Or.inl rfl⟩)
    rw [if_pos c3]
    by_cases c6 : dp = 6
    · rw [if_pos c6]
      rw [if_pos (by omega)] at ht
      exact Sc.no (lmM_tn h0 (by omega) ht)
    · rw [if_neg c6]
      rw [if_neg (by omega)] at ht
      refine Sc.mv (lmM_t h0 (by omega) ht) (Sc.bdd (ih.m4 (33 :: b.1, opM 33 b.2.1, b.2.2) (dp + 1) _ 0 f h2 h5 h7 h8 (by rw [if_neg (by decide)]; exact Or.inl (rfl)) ?_ (by omega) (show stK 33 < 4 by decide) (by omega) (by omega) (by omega)) fun hr s2 f2 hf2 p2 => ?_)
      · show b.2.1 3 + 1 = dp + 1
        omega
      obtain ⟨⟨⟨ops, C, i1, i2, i3, i4, i5⟩, i6, i7, i8, i9⟩, j1, j2, j3, j4⟩ := p2
      refine Sc.ret hf2 ⟨⟨⟨ops ++ [33], C ++ [negS 33], by rw [i1, List.append_assoc]; rfl, fun o ho => ?_, ?_, (i4.no j2).up (by omega), ?_⟩, bd6_10' _, i7, i8, i9⟩, j1, ?_, j3, j4⟩
      · rcases List.mem_append.mp ho with q | q
        · exact i2 o q
        · rw [List.mem_singleton.mp q]; decide
      · rw [List.map_append, ← List.append_assoc, i3]
        simp only [List.append_assoc]; rfl
      · rw [cnt33_app, i5]
        show b.2.1 3 + 1 + cnt33 ops = b.2.1 3 + (cnt33 ops + 1)
        omega
      · split <;> omega
  · rw [if_neg c3]
    by_cases c4 : sgn T n (nx T n c) = 40
    · have h0 : sgn T n (nx T n c) ≠ 0 := by omega
      obtain ⟨hlt, hge⟩ := sp h0
      have ht := tk_op (T := T) (n := n) (c := nx T n c) (b := b) (x := 40) c4 (Or.inr ⟨h2, Or.inr rfl⟩)
      rw [if_pos c4]
      by_cases c6 : dp = 6
      · rw [if_pos c6]
        rw [if_pos (by omega)] at ht
        exact Sc.no (lmM_tn h0 (by omega) ht)
      · rw [if_neg c6]
        rw [if_neg (by omega)] at ht
        refine Sc.mv (lmM_t h0 (by omega) ht) (Sc.bdd (ih.m6 (40 :: b.1, opM 40 b.2.1, b.2.2) (dp + 1) _ 0 f h2 h5 h7 h8 (by rw [if_neg (by decide)]; exact Or.inl (rfl)) ?_ (by omega) (show stK 40 < 1 by decide) (by omega) (by omega) (by omega)) fun hr s2 f2 hf2 p2 => ?_)
        · show b.2.1 3 + 1 = dp + 1
          omega
        have q1 := pz_ge hE hr
        have q2 := pz_q (T := T) (n := n) (e := e) k 6 (dp + 1) (nx T n c + 1) 0 (by omega)
        obtain ⟨f2, rfl⟩ : ∃ g, f2 = g + 1 := ⟨f2 - 1, by omega⟩
        have e4 : s2.2.1 4 = b.2.1 4 + 1 := p2.1.2.2.1
        have e5 : s2.2.1 5 = b.2.1 5 := p2.1.2.2.2.1
        have e7 : s2.2.1 7 = b.2.1 7 := p2.1.2.2.2.2
        have e6 := p2.2.1
        have e2 := p2.2.2.2.1
        by_cases c41 : sgn T n (nx T n (pz T n e k 6 (dp + 1) (nx T n c + 1) 0).2.1) = 41
        · rw [if_pos c41]
          have h02 : sgn T n (nx T n (pz T n e k 6 (dp + 1) (nx T n c + 1) 0).2.1) ≠ 0 := by omega
          obtain ⟨hlt2, hge2⟩ := sp h02
          obtain ⟨C, g1, g2, g3, g4, g5⟩ := lmR_ok (x := 41) p2.1 (show 0 < 1 by decide) (by decide)
          have hm := lmM_f (f := f2) h02 (by omega) (show lmFit s2.2.1 _ from Or.inr (Or.inr (Or.inr (Or.inr (Or.inl ⟨c41, ⟨by omega, by omega⟩, by omega⟩)))))
          rw [c41, lmGo_41] at hm
          refine Sc.mv hm (Sc.ret (by omega) ⟨⟨⟨[], C, by show (lmR 41 s2).1.tail = _; rw [g2]; rfl, nm _, (List.append_nil _).trans g3, g1.up (by omega), ?_⟩, p2.1.2.1, ?_, ?_, ?_⟩, ?_, p2.2.2.1, Or.inl (rfl), ⟨fun z => ?_, fun w => absurd w (by decide), fun w => absurd w (by decide)⟩⟩)
          · show (lmR 41 s2).2.1 3 - 1 = b.2.1 3 + 0
            rw [g4]; show b.2.1 3 + 1 - 1 = _; omega
          · show (lmR 41 s2).2.1 4 - 1 = _
            rw [g5 4 (by decide), e4]; omega
          · exact (g5 5 (by decide)).trans e5
          · exact (g5 7 (by decide)).trans e7
          · exact (g5 6 (by decide)).trans e6
          · have z' : (5 : Nat) = 4 := z
            omega
        · rw [if_neg c41]
          have k1 := p2.2.2.2.2.2.1 (by decide)
          have k2 := p2.2.2.2.2.2.2 (by decide)
          have k3 := fun z => (p2.2.2.2.2.1 z).1 (by decide)
          have k4 := fun z => (p2.2.2.2.2.1 z).2 (by decide)
          have hE2 : lmEnd s2.2.1 = false := by unfold lmEnd; rw [decide_eq_false_iff_not]; omega
          refine Sc.no (lmM_no (by omega) hE2 ?_)
          unfold lmFit lmUw
          simp only [hE2, Bool.false_eq_true, and_false, or_false]
          omega
    · rw [if_neg c4]
      refine Sc.mv (lmM_nx T n (f + 1) b c (by omega)).symm ((ih.m3 b dp (nx T n c) 0 (f + 1) h2 h5 h7 h8 ?_ h3 hdp hw ?_ ?_ ?_).imp fun hr s2 p2 => ⟨p2.1.mono (by decide) (by omega), p2.2.1, p2.2.2.1, p2.2.2.2.1, qx_l43 p2.2.2.2.2⟩)
      · rw [if_pos rfl, nx_nx]; exact ⟨by omega, c3, c4⟩
      · have := nx_b T n c; omega
      · have := nx_b T n c; omega
      · have := nx_b T n c; omega
theorem sim_all (hE : EH T n e ℓ) : ∀ k, SimAll T n e ℓ k
  | 0 => by
    refine ⟨?_, ?_, ?_, ?_, ?_, ?_, ?_, ?_, ?_, ?_, ?_, ?_, ?_, ?_⟩ <;> (first | unfold SimS | unfold SimU | unfold SimT | unfold SimL | unfold SimC) <;> (intros; omega)
  | k + 1 => by
    have ih := sim_all hE k
    exact ⟨s_0 hE ih, s_1 hE ih, s_2 hE ih, s_3 hE ih, s_4 hE ih, s_5 hE ih, s_6 hE ih, s_7 hE ih, s_8 hE ih, s_9 hE ih, s_10 hE ih, s_11 hE ih, s_12 hE ih, s_13 hE ih⟩
end LM5
