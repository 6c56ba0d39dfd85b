/-! the bounds are kept -/
set_option maxRecDepth 20000 in
set_option maxHeartbeats 1000000 in
theorem k_thrown {G : Gt} {l : Launch} {Z : Zt} {R : Rt} {I : It} {L : Lt} {post : Pt'}  (W : WF Z R) (h : post (some (.int (I 253 0))) Z R I L) : Cx G l mX12_thrown 1 0 0 [.ref 253] Z R I L post := by
  refine Cx.of (by decide +kernel) (by exact Nat.le_of_ble_eq_true rfl) ?_
  refine Sx.aload_n dX12_thrown_0 rfl ?_
  refine Sx.getfI dX12_thrown_1 lkf_X12_109_12 (o_253 W) ?_
  refine Sx.iret dX12_thrown_4 rfl rfl ?_
  exact h
theorem GV.mono {N M : Nat} {V : Vt} (h : GV N V) (hm : N ≤ M) : GV M V := ⟨h.1, h.2.1, h.2.2.1, h.2.2.2.1, fun k hk => Nat.le_trans (h.2.2.2.2.1 k hk) hm, h.2.2.2.2.2.1, h.2.2.2.2.2.2⟩
/-- all that is kept -/
def GG (N : Nat) (V : Vt) : Prop := GV N V ∧ CA V ∧ (V 2 35 ≠ 0 → PX (V 2) ∧ PK (V 2))
theorem GV.al {N : Nat} {V : Vt} (h : GV N V) (hp : V 2 35 ≠ 0) : PB (V 2) ∧ SG (V 2) (V 3) ∧ (∀ i, i < V 0 4 → SG (V 2) (V (30 + i))) ∧ (V 0 5 = 1 → SG (V 2) (V 5)) := by
  rcases h.2.2.2.2.2.2 with z | z
  · exact absurd z.1 hp
  · exact z
theorem GG.rows {N : Nat} {V V' : Vt} (h : GG N V) (hp : V 2 35 ≠ 0) (r : ∀ p, p ≠ 0 → p ≠ 3 → p ≠ 5 → p < 30 → V' p = V p) (c : ∀ q, q ≠ 4 → q ≠ 5 → V' 0 q = V 0 q) (h4 : V' 0 4 ≤ 40) (h5 : V' 0 5 ≤ 1) (s3 : SG (V 2) (V' 3)) (sk : ∀ i, i < V' 0 4 → SG (V 2) (V' (30 + i))) (s5 : V' 0 5 = 1 → SG (V 2) (V' 5)) : GG N V' := by
  obtain ⟨⟨g1, g2, g3, g4, g5, g6, g7⟩, hC, hX⟩ := h
  have c0 := c 0 (by decide) (by decide)
  have c1 := c 1 (by decide) (by decide)
  have c2 := c 2 (by decide) (by decide)
  have c3 := c 3 (by decide) (by decide)
  have c6 := c 6 (by decide) (by decide)
  have c7 := c 7 (by decide) (by decide)
  have r2 := r 2 (by decide) (by decide) (by decide) (by decide)
  have hPB : PB (V 2) := (GV.al ⟨g1, g2, g3, g4, g5, g6, g7⟩ hp).1
  refine ⟨⟨?_, ?_, ?_, ?_, ?_, ?_, Or.inr ⟨by rw [r2]; exact hPB, by rw [r2]; exact s3, fun i hi => by rw [r2]; exact sk i hi, fun z => by rw [r2]; exact s5 z⟩⟩, ?_, ?_⟩
  · rw [c0, r 1 (by decide) (by decide) (by decide) (by decide)]; exact g1
  · rw [c1, c2]; exact ⟨g2.1, g2.2.1, fun i hi => by rw [r (10 + i) (by omega) (by omega) (by omega) (by omega)]; exact g2.2.2 i hi⟩
  · rw [c3]; exact ⟨g3.1, fun i hi => by rw [r (20 + i) (by omega) (by omega) (by omega) (by omega)]; exact g3.2 i hi⟩
  · rw [c6, c7]; exact ⟨h4, h5, g4.2.2⟩
  · rw [r 4 (by decide) (by decide) (by decide) (by decide)]; exact g5
  · rw [c7, r 6 (by decide) (by decide) (by decide) (by decide), r 7 (by decide) (by decide) (by decide) (by decide), r 8 (by decide) (by decide) (by decide) (by decide)]; exact g6
  · intro i hi; rw [c3] at hi; rw [r (20 + i) (by omega) (by omega) (by omega) (by omega)]; exact hC i hi
  · rw [r2]; exact hX
theorem GG.rm {N : Nat} {V : Vt} {F : Nat → Nat} (h : GG N V) (hp : V 2 35 ≠ 0) (hF : SG (V 2) F) : GG N (vr (rmV V) 3 F) := by
  have ha := h.1.al hp
  have h4 := h.1.b4
  have e4 : vr (rmV V) 3 F 0 4 = min (V 0 4) 39 + 1 := by rw [vr_o _ _ (by decide), rm_4]
  refine h.rows hp (fun p p0 p3 _ p30 => by rw [vr_o _ _ p3, rm_o V p0 p30]) (fun q q4 _ => by rw [vr_o _ _ (by decide), rm_0 V q4]) (by rw [e4]; omega) (by rw [vr_o _ _ (by decide), rm_0 V (by decide)]; exact h.1.2.2.2.1.2.1) (by rw [vr_a]; exact hF) (fun i hi => ?_) (fun z => ?_)
  · rw [e4] at hi
    rw [vr_o _ _ (by omega)]
    match i with
    | 0 => exact ha.2.1
    | i + 1 => rw [rm_31]; exact ha.2.2.1 i (by omega)
  · rw [vr_o _ _ (by decide), rm_0 V (by decide)] at z
    rw [vr_o _ _ (by decide), rm_o V (by decide) (by decide)]
    exact ha.2.2.2 z
theorem GG.st {N k : Nat} {V : Vt} (h : GG N V) (hk : k < 5) : GG (N + 1) (vs V 4 k (V 4 k + 1)) := by
  obtain ⟨⟨g1, g2, g3, g4, g5, g6, g7⟩, hC, hX⟩ := h
  have r : ∀ p, p ≠ 4 → vs V 4 k (V 4 k + 1) p = V p := fun p hp => vs_o V hp
  refine ⟨⟨?_, ?_, ?_, ?_, ?_, ?_, ?_⟩, ?_, ?_⟩
  · rw [r 0 (by decide), r 1 (by decide)]; exact g1
  · rw [r 0 (by decide)]; exact ⟨g2.1, g2.2.1, fun i hi => by rw [r (10 + i) (by omega)]; exact g2.2.2 i hi⟩
  · rw [r 0 (by decide)]; exact ⟨g3.1, fun i hi => by rw [r (20 + i) (by omega)]; exact g3.2 i hi⟩
  · rw [r 0 (by decide)]; exact g4
  · intro j hj
    by_cases c : j = k
    · subst c; rw [vs_a]; have := g5 j hj; omega
    · rw [vs_c V c]; have := g5 j hj; omega
  · rw [r 0 (by decide), r 6 (by decide), r 7 (by decide), r 8 (by decide)]; exact g6
  · rw [r 0 (by decide), r 2 (by decide), r 3 (by decide), r 5 (by decide)]
    rcases g7 with z | z
    · exact Or.inl z
    · exact Or.inr ⟨z.1, z.2.1, fun i hi => by rw [r (30 + i) (by omega)]; exact z.2.2.1 i hi, z.2.2.2⟩
  · intro i hi; rw [r 0 (by decide)] at hi; rw [r (20 + i) (by omega)]; exact hC i hi
  · rw [r 2 (by decide)]; exact hX
theorem giN_SG {P F : Nat → Nat} {x : Nat} (hP : PB P) (hS : SG P F) (hx : x ≤ 999) : SG P (upn F 142 x) := ⟨SB.up hP hS.1 _ _ (show x < 1000 by omega), by rw [upn_ne _ _ (by decide)]; exact hS.2.1, fun p h1 h2 => by rw [upn_ne _ _ (by omega)]; exact hS.2.2.1 p h1 h2, fun k h1 h2 => by rw [upn_ne _ _ (by omega)]; exact hS.2.2.2 k h1 h2⟩
theorem GG.act {N : Nat} {V : Vt} (h : GG N V) (a x y : Int32) : GG (N + 1) (actV V a x y) := by
  unfold actV
  split
  · next c =>
    have hp : V 2 35 ≠ 0 := fun z => by rw [show whN (V 2) (V 3) a x y = 0 from if_pos z] at c; exact absurd c (by decide)
    have ha := h.1.al hp
    have e := h.rm hp (coN_SG (w := wlV V) ha.1 ha.2.1 c)
    exact ⟨e.1.mono (by omega), e.2⟩
  · next c =>
    rcases whN_k (V 2) (V 3) a x y with q | ⟨k, hk, e⟩
    · exact absurd q c
    · rw [e, xN_n (by omega)]; exact h.st hk
theorem GG.lw {N : Nat} {V : Vt} {x : Nat} (h : GG N V) (hx : x ≤ V 0 1) : GG N (vs V 0 2 x) := by
  obtain ⟨⟨g1, g2, g3, g4, g5, g6, g7⟩, hC, hX⟩ := h
  have r : ∀ p, p ≠ 0 → vs V 0 2 x p = V p := fun p hp => vs_o V hp
  have c : ∀ q, q ≠ 2 → vs V 0 2 x 0 q = V 0 q := fun q hq => vs_c V hq
  refine ⟨⟨?_, ?_, ?_, ?_, ?_, ?_, ?_⟩, ?_, ?_⟩
  · rw [c 0 (by decide), r 1 (by decide)]; exact g1
  · rw [c 1 (by decide), vs_a]; exact ⟨g2.1, hx, fun i hi => by rw [r (10 + i) (by omega)]; exact g2.2.2 i hi⟩
  · rw [c 3 (by decide)]; exact ⟨g3.1, fun i hi => by rw [r (20 + i) (by omega)]; exact g3.2 i hi⟩
  · rw [c 4 (by decide), c 5 (by decide), c 6 (by decide), c 7 (by decide)]; exact g4
  · rw [r 4 (by decide)]; exact g5
  · rw [c 7 (by decide), r 6 (by decide), r 7 (by decide), r 8 (by decide)]; exact g6
  · rw [c 4 (by decide), c 5 (by decide), c 7 (by decide), r 2 (by decide), r 3 (by decide), r 5 (by decide)]
    rcases g7 with z | z
    · exact Or.inl z
    · exact Or.inr ⟨z.1, z.2.1, fun i hi => by rw [r (30 + i) (by omega)]; exact z.2.2.1 i hi, z.2.2.2⟩
  · intro i hi; rw [c 3 (by decide)] at hi; rw [r (20 + i) (by omega)]; exact hC i hi
  · rw [r 2 (by decide)]; exact hX
theorem GG.wh {N : Nat} {V : Vt} {x : Nat} (h : GG N V) (hx : x ≤ 9) : GG N (vs V 0 6 x) := by
  obtain ⟨⟨g1, g2, g3, g4, g5, g6, g7⟩, hC, hX⟩ := h
  have r : ∀ p, p ≠ 0 → vs V 0 6 x p = V p := fun p hp => vs_o V hp
  have c : ∀ q, q ≠ 6 → vs V 0 6 x 0 q = V 0 q := fun q hq => vs_c V hq
  refine ⟨⟨?_, ?_, ?_, ?_, ?_, ?_, ?_⟩, ?_, ?_⟩
  · rw [c 0 (by decide), r 1 (by decide)]; exact g1
  · rw [c 1 (by decide), c 2 (by decide)]; exact ⟨g2.1, g2.2.1, fun i hi => by rw [r (10 + i) (by omega)]; exact g2.2.2 i hi⟩
  · rw [c 3 (by decide)]; exact ⟨g3.1, fun i hi => by rw [r (20 + i) (by omega)]; exact g3.2 i hi⟩
  · rw [c 4 (by decide), c 5 (by decide), vs_a, c 7 (by decide)]; exact ⟨g4.1, g4.2.1, hx, g4.2.2.2⟩
  · rw [r 4 (by decide)]; exact g5
  · rw [c 7 (by decide), r 6 (by decide), r 7 (by decide), r 8 (by decide)]; exact g6
  · rw [c 4 (by decide), c 5 (by decide), c 7 (by decide), r 2 (by decide), r 3 (by decide), r 5 (by decide)]
    rcases g7 with z | z
    · exact Or.inl z
    · exact Or.inr ⟨z.1, z.2.1, fun i hi => by rw [r (30 + i) (by omega)]; exact z.2.2.1 i hi, z.2.2.2⟩
  · intro i hi; rw [c 3 (by decide)] at hi; rw [r (20 + i) (by omega)]; exact hC i hi
  · rw [r 2 (by decide)]; exact hX
theorem GG.sn {N : Nat} {V : Vt} {n v b : Nat} (h : GG N V) (hp : V 2 35 ≠ 0) (h7 : V 0 7 ≠ 10) (hn : 1 ≤ n ∧ n ≤ 60 ∧ v ≤ 999 ∧ b ≤ 1) : GG N (snV V n v b) := by
  have ha := h.1.al hp
  obtain ⟨⟨g1, g2, g3, g4, g5, g6, g7⟩, hC, hX⟩ := h
  have r : ∀ p, p ≠ 0 → p ≠ 6 → p ≠ 7 → p ≠ 8 → snV V n v b p = V p := fun p h0 h6 h7 h8 => sn_o V n v b h0 h6 h7 h8
  have c : ∀ q, q ≠ 7 → snV V n v b 0 q = V 0 q := fun q hq => sn_0 V n v b hq
  refine ⟨⟨?_, ?_, ?_, ?_, ?_, ?_, ?_⟩, ?_, ?_⟩
  · rw [c 0 (by decide), r 1 (by decide) (by decide) (by decide) (by decide)]; exact g1
  · rw [c 1 (by decide), c 2 (by decide)]; exact ⟨g2.1, g2.2.1, fun i hi => by rw [r (10 + i) (by omega) (by omega) (by omega) (by omega)]; exact g2.2.2 i hi⟩
  · rw [c 3 (by decide)]; exact ⟨g3.1, fun i hi => by rw [r (20 + i) (by omega) (by omega) (by omega) (by omega)]; exact g3.2 i hi⟩
  · rw [c 4 (by decide), c 5 (by decide), c 6 (by decide), sn_7]; exact ⟨g4.1, g4.2.1, g4.2.2.1, by omega⟩
  · rw [r 4 (by decide) (by decide) (by decide) (by decide)]; exact g5
  · intro i hi
    rw [sn_7] at hi
    have e6 : snV V n v b 6 = upn (V 6) (V 0 7) n := by unfold snV; rw [vs_o _ (by decide), vs_o _ (by decide), vs_o _ (by decide)]; unfold vs; rw [if_pos rfl]
    have e7 : snV V n v b 7 = upn (V 7) (V 0 7) v := by unfold snV; rw [vs_o _ (by decide), vs_o _ (by decide)]; unfold vs; rw [if_pos rfl, if_neg (by decide)]
    have e8 : snV V n v b 8 = upn (V 8) (V 0 7) b := by unfold snV; rw [vs_o _ (by decide)]; unfold vs; rw [if_pos rfl, if_neg (by decide), if_neg (by decide)]
    rw [e6, e7, e8]
    by_cases q : i = V 0 7
    · subst q; rw [upn_eq, upn_eq, upn_eq]; exact hn
    · rw [upn_ne _ _ q, upn_ne _ _ q, upn_ne _ _ q]; exact g6 i (by omega)
  · rw [c 4 (by decide), c 5 (by decide), r 2 (by decide) (by decide) (by decide) (by decide), r 3 (by decide) (by decide) (by decide) (by decide), r 5 (by decide) (by decide) (by decide) (by decide)]
    exact Or.inr ⟨ha.1, ha.2.1, fun i hi => by rw [r (30 + i) (by omega) (by omega) (by omega) (by omega)]; exact ha.2.2.1 i hi, ha.2.2.2⟩
  · intro i hi; rw [c 3 (by decide)] at hi; rw [r (20 + i) (by omega) (by omega) (by omega) (by omega)]; exact hC i hi
  · rw [r 2 (by decide) (by decide) (by decide) (by decide)]; exact hX
theorem GG.im {N : Nat} {V : Vt} (h : GG N V) (hp : V 2 35 ≠ 0) : GG N (imV V) := by
  have ha := h.1.al hp
  have c : ∀ q, q ≠ 5 → imV V 0 q = V 0 q := fun q hq => by unfold imV; rw [vr_o _ _ (by decide), vs_c _ hq]
  have r : ∀ p, p ≠ 0 → p ≠ 5 → imV V p = V p := fun p h0 h5 => by unfold imV; rw [vr_o _ _ h5, vs_o _ h0]
  refine h.rows hp (fun p p0 _ p5 _ => r p p0 p5) (fun q _ q5 => c q q5) (by rw [c 4 (by decide)]; exact h.1.b4) (by unfold imV; rw [vr_o _ _ (by decide), vs_a]; decide) (by rw [r 3 (by decide) (by decide)]; exact ha.2.1) (fun i hi => ?_) (fun _ => by unfold imV; rw [vr_a]; exact ha.2.1)
  rw [c 4 (by decide)] at hi; rw [r (30 + i) (by omega) (by omega)]; exact ha.2.2.1 i hi
theorem GG.bk {N : Nat} {V : Vt} (h : GG N V) (h5 : V 0 5 ≠ 0) : GG N (bkV V) := by
  have hp : V 2 35 ≠ 0 := fun z => by
    rcases h.1.2.2.2.2.2.2 with q | q
    · exact h5 q.2.2.2.2.1
    · have := q.1.2.2.2.2.2.2.1; omega
  have h51 : V 0 5 = 1 := by have := h.1.2.2.2.1.2.1; omega
  have ha := h.1.al hp
  have c : ∀ q, q ≠ 4 → bkV V 0 q = V 0 q := fun q hq => by unfold bkV; rw [vr_o _ _ (by decide), vs_c _ hq]
  have c4 : bkV V 0 4 = 0 := by unfold bkV; rw [vr_o _ _ (by decide), vs_a]
  have r : ∀ p, p ≠ 0 → p ≠ 3 → bkV V p = V p := fun p h0 h5 => by unfold bkV; rw [vr_o _ _ h5, vs_o _ h0]
  exact h.rows hp (fun p p0 p3 _ _ => r p p0 p3) (fun q q4 _ => c q q4) (by rw [c4]; decide) (by rw [c 5 (by decide), h51]; decide) (by unfold bkV; rw [vr_a]; exact ha.2.2.2 h51) (fun i hi => by rw [c4] at hi; omega) (fun _ => by rw [r 5 (by decide) (by decide)]; exact ha.2.2.2 h51)
theorem GG.un {N : Nat} {V : Vt} (h : GG N V) (h4 : V 0 4 ≠ 0) : GG N (unV V) := by
  have hp : V 2 35 ≠ 0 := fun z => by
    rcases h.1.2.2.2.2.2.2 with q | q
    · exact h4 q.2.2.2.1
    · have := q.1.2.2.2.2.2.2.1; omega
  have ha := h.1.al hp
  have hb4 := h.1.b4
  have c : ∀ q, q ≠ 4 → unV V 0 q = V 0 q := fun q hq => by unfold unV upn; rw [if_pos rfl, if_neg hq]
  have c4 : unV V 0 4 = V 0 4 - 1 := by unfold unV upn; rw [if_pos rfl, if_pos rfl]
  have r : ∀ p, p ≠ 0 → p ≠ 3 → p < 30 → unV V p = V p := fun p h0 h3 h30 => by unfold unV; rw [if_neg h0, if_neg h3, if_neg (by omega)]
  refine h.rows hp (fun p p0 p3 _ p30 => r p p0 p3 p30) (fun q q4 _ => c q q4) (by rw [c4]; omega) (by rw [c 5 (by decide)]; exact h.1.2.2.2.1.2.1) (ha.2.2.1 0 (by omega)) (fun i hi => ?_) (fun z => ?_)
  · rw [c4] at hi
    rw [show unV V (30 + i) = V (30 + (i + 1)) by unfold unV; rw [if_neg (by omega), if_neg (by omega), if_pos (by omega)]; congr 1]
    exact ha.2.2.1 (i + 1) (by omega)
  · rw [c 5 (by decide)] at z
    rw [r 5 (by decide) (by decide) (by decide)]
    exact ha.2.2.2 z
