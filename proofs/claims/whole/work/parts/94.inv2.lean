/-! the bounds are kept: years, calendars, texts -/
theorem GG.hv {N : Nat} {V : Vt} (h : GG N V) (hp : V 2 35 ≠ 0) : HV V := h.1.hv hp
theorem GG.yrA {N : Nat} {V : Vt} {c : Int64} (h : GG N V) (hp : V 2 35 ≠ 0) (hc : V 3 144 < 999 ∨ V 3 145 + 1 < V 2 0) : GG N (yr1 V c) := by
  have ha := h.1.al hp
  have hd := ddF_SG ha.1 ha.2.1 c (V 0 6)
  have e := h.rm hp hd
  have hH := h.hv hp
  have hp' : vr (rmV V) 3 (ddF (V 2) (V 3) c (V 0 6)) 2 35 ≠ 0 := by rw [vr_rm2]; exact hp
  have e3 := yr1_3 V c hH
  have ew : ∀ p, p ≠ 3 → yr1 V c p = vr (rmV V) 3 (ddF (V 2) (V 3) c (V 0 6)) p := fun p q => by unfold yr1 goV; rw [vr_o _ _ q]
  have e4 := e.1.al hp'
  refine e.rows hp' (fun p p0 p3 _ _ => ew p p3) (fun q _ _ => by rw [ew 0 (by decide)]) (by rw [ew 0 (by decide)]; exact e.1.b4) (by rw [ew 0 (by decide)]; exact e.1.2.2.2.1.2.1) ?_ (fun i hi => ?_) (fun z => ?_)
  · rw [vr_rm2, e3]
    exact pdN_SG ha.1 hd (by rw [ddF_144 _ _ _ _ ha.1 (by decide) (by decide) (by decide), ddF_144 _ _ _ _ ha.1 (by decide) (by decide) (by decide)]; exact hc)
  · rw [ew 0 (by decide)] at hi
    rw [ew (30 + i) (by omega)]
    exact e4.2.2.1 i hi
  · rw [ew 0 (by decide)] at z
    rw [ew 5 (by decide)]
    exact e4.2.2.2 z
theorem GG.yrB {N : Nat} : ∀ (m : Nat) (V : Vt) (c : Int64), GG N V → V 2 35 ≠ 0 → V 2 0 * V 3 144 + V 3 145 + m < V 2 0 * 1000 → GG N (yrV m V c)
  | 0, V, c, h, _, _ => by rw [yrV_0]; exact h
  | m + 1, V, c, h, hp, hd => by
    obtain ⟨y1, y2, y3⟩ := yr_st (c := c) (h.hv hp) (show 1 ≤ m + 1 by omega) hd
    rw [yrV_s]
    rw [Nat.add_sub_cancel] at y3
    exact GG.yrB m _ _ (h.yrA hp y1) (by rw [yr1_2]; exact hp) (by rw [yr1_2]; exact y3)
theorem GG.yrs {N : Nat} {V : Vt} {x : Int32} {c : Int64} (h : GG N V) : GG N (yrsV V x c) := by
  unfold yrsV
  split
  · next q =>
    obtain ⟨q1, q2, q3, q4⟩ := q
    have hx : x.toInt = (xN x : Int) := (Int.toNat_of_nonneg (by omega)).symm
    exact GG.yrB _ _ _ h q1 (by omega)
  · exact h
theorem GG.goA {N s : Nat} {C : Nat → Nat} {V : Vt} (h : GG N V) (hk : whN (V 2) (V 3) (cA C s) (cX C s) (cY C s) = -1) : GG N (goG C s V) := by
  have hp : V 2 35 ≠ 0 := fun z => by rw [show whN (V 2) (V 3) (cA C s) (cX C s) (cY C s) = 0 from if_pos z] at hk; exact absurd hk (by decide)
  have ha := h.1.al hp
  exact h.rm hp (coN_SG (w := wlV V) ha.1 ha.2.1 hk)
theorem GG.rnA {N : Nat} {C : Nat → Nat} : ∀ (m i : Nat) (V : Vt), GG N V → GG N (rnG (canG C) (goG C) m i V).2
  | 0, i, V, h => h
  | m + 1, i, V, h => by
    by_cases c : canG C i V = true
    · rw [rnG_y c]; exact GG.rnA m _ _ (h.goA (of_decide_eq_true c))
    · rw [rnG_n c]; exact h
theorem GG.per {N : Nat} {V : Vt} {x : Int32} (h : GG N V) : GG N (perV V x) := by
  unfold perV
  split
  · exact GG.rnA _ _ _ h
  · exact h
theorem GG.tp {N n : Nat} {V : Vt} {T : Nat → Nat} (h : GG N V) (hn : n ≤ 240) (hT : BT n T) : GG N (tpV V n T) := by
  obtain ⟨⟨g1, g2, g3, g4, g5, g6, g7⟩, hC, hX⟩ := h
  have r : ∀ p, p ≠ 0 → p ≠ 1 → tpV V n T p = V p := fun p h0 h1 => tp_o V n T h0 h1
  have c : ∀ q, q ≠ 0 → tpV V n T 0 q = V 0 q := fun q hq => tp_0 V n T hq
  refine ⟨⟨?_, ?_, ?_, ?_, ?_, ?_, ?_⟩, ?_, ?_⟩
  · rw [tp_00, tp_1]; exact ⟨hn, hT⟩
  · rw [c 1 (by decide), c 2 (by decide)]; exact ⟨g2.1, g2.2.1, fun i hi => by rw [r (10 + i) (by omega) (by omega)]; exact g2.2.2 i hi⟩
  · rw [c 3 (by decide)]; exact ⟨g3.1, fun i hi => by rw [r (20 + i) (by omega) (by omega)]; exact g3.2 i hi⟩
  · rw [c 4 (by decide), c 5 (by decide), c 6 (by decide), c 7 (by decide)]; exact g4
  · rw [r 4 (by decide) (by decide)]; exact g5
  · rw [c 7 (by decide), r 6 (by decide) (by decide), r 7 (by decide) (by decide), r 8 (by decide) (by decide)]; exact g6
  · rw [c 4 (by decide), c 5 (by decide), c 7 (by decide), r 2 (by decide) (by decide), r 3 (by decide) (by decide), r 5 (by decide) (by decide)]
    rcases g7 with z | z
    · exact Or.inl z
    · exact Or.inr ⟨z.1, z.2.1, fun i hi => by rw [r (30 + i) (by omega) (by omega)]; exact z.2.2.1 i hi, z.2.2.2⟩
  · intro i hi; rw [c 3 (by decide)] at hi; rw [r (20 + i) (by omega) (by omega)]; exact hC i hi
  · rw [r 2 (by decide) (by decide)]; exact hX
theorem GG.feed {N : Nat} {V : Vt} {a b c d e : Int32} (h : GG N V) : GG N (feedV V a b c d e) := by
  unfold feedV
  split
  · next q =>
    refine h.tp ?_ ?_
    · unfold fdS; rw [puW_1, puW_1, puW_1, puW_1, puW_1]; exact q
    · unfold fdS; exact puW_B _ _ _ (puW_B _ _ _ (puW_B _ _ _ (puW_B _ _ _ (puW_B _ _ _ h.1.1.2))))
  · exact h
theorem GG.nd {N : Nat} {V : Vt} {x : Int32} (h : GG N V) : GG N (endV V x) := by
  unfold endV
  split
  · next q =>
    have hx : xN x = x.toInt.toNat := rfl
    refine h.tp (by have := h.1.1.1; omega) (fun j hj => h.1.1.2 j (by omega))
  · exact h
/-! a reading depends on the text's signs alone -/
section CG
variable {T T' : Nat → Nat} {n : Nat}
theorem sgn_cg (h : ∀ j, j < n → T j = T' j) : sgn T n = sgn T' n := funext fun c => by unfold sgn; by_cases q : c < n; (· rw [if_pos q, if_pos q, h c q]); (· rw [if_neg q, if_neg q])
theorem skp_cg (h : ∀ j, j < n → T j = T' j) : ∀ f c, skp T n f c = skp T' n f c
  | 0, c => rfl
  | f + 1, c => by
    unfold skp
    by_cases q : c < n
    · rw [h c q, skp_cg h f (c + 1)]
    · rw [if_neg (fun z => q z.1), if_neg (fun z => q z.1)]
theorem nx_cg (h : ∀ j, j < n → T j = T' j) : nx T n = nx T' n := funext fun c => skp_cg h _ c
theorem rdc_cg (h : ∀ j, j < n → T j = T' j) : ∀ D c, rdc T n D c = rdc T' n D c
  | 0, c => rfl
  | D + 1, c => by unfold rdc; rw [sgn_cg h, rdc_cg h D]
theorem rdE_cg (h : ∀ j, j < n → T j = T' j) : rdE T n = rdE T' n := funext fun c => funext fun D => by unfold rdE; rw [nx_cg h, rdc_cg h]
theorem rdv_cg (h : ∀ j, j < n → T j = T' j) : ∀ D c v, rdv T n D c v = rdv T' n D c v
  | 0, c, v => rfl
  | D + 1, c, v => by unfold rdv; rw [sgn_cg h, rdv_cg h D]
theorem rdV_cg (h : ∀ j, j < n → T j = T' j) : rdV T n = rdV T' n := funext fun c => funext fun D => by unfold rdV; rw [nx_cg h, rdv_cg h]
theorem pz_cg (h : ∀ j, j < n → T j = T' j) (e : Nat → Int) : ∀ k, pz T n e k = pz T' n e k
  | 0 => rfl
  | k + 1 => by
    funext m dp c v
    unfold pz
    rw [pz_cg h e k, sgn_cg h, nx_cg h, rdE_cg h, rdV_cg h]
theorem pcl_cg (h : ∀ j, j < n → T j = T' j) (e : Nat → Int) (k : Nat) : pcl T n e k = pcl T' n e k := by
  funext c
  unfold pcl pcl.pclB pcl.pclQ
  rw [pz_cg h e k, sgn_cg h, nx_cg h]
theorem plw_cg (h : ∀ j, j < n → T j = T' j) (e : Nat → Int) (k : Nat) : ∀ q c o, plw T n e k q c o = plw T' n e k q c o
  | 0, c, o => rfl
  | q + 1, c, o => by unfold plw; rw [pcl_cg h e k, sgn_cg h, nx_cg h, plw_cg h e k q]
end CG
theorem GG.lwt {N : Nat} {V : Vt} (h : GG N V) (h4 : V 0 1 ≠ 4) (hok : (plw (V 1) (V 0 0) ezZ 4000 (V 0 0 + 1) 0 none).1 = true) : GG N (lwV V) := by
  obtain ⟨⟨g1, g2, g3, g4, g5, g6, g7⟩, hC, hX⟩ := h
  have r : ∀ p, p ≠ 0 → p < 10 → lwV V p = V p := fun p h0 h1 => lw_o V h0 (by omega)
  have c : ∀ q, q ≠ 0 → q ≠ 1 → lwV V 0 q = V 0 q := fun q h0 h1 => lw_0 V h0 h1
  refine ⟨⟨⟨by rw [lw_00]; decide, fun j hj => by rw [lw_00] at hj; omega⟩, ?_, ?_, ?_, ?_, ?_, ?_⟩, ?_, ?_⟩
  · rw [lw_01, c 2 (by decide) (by decide)]
    refine ⟨by omega, by omega, fun i hi => ?_⟩
    by_cases q : i = V 0 1
    · subst q
      have hcg : ∀ j, j < V 0 0 → upn (V 1) 240 (V 0 0) j = V 1 j := fun j hj => upn_ne _ _ (by omega)
      rw [lw_n, upn_eq]
      refine ⟨g1.1, fun j hj => by rw [hcg j hj]; exact g1.2 j hj, fun e => ?_⟩
      rw [plw_cg hcg e 4000, (plw_ag (V 1) (V 0 0) e ezZ 4000 (V 0 0 + 1) 0 none none).1]
      exact hok
    · rw [lw_o V (by omega) (by omega)]; exact g2.2.2 i (by omega)
  · rw [c 3 (by decide) (by decide)]; exact ⟨g3.1, fun i hi => by rw [lw_o V (by omega) (by omega)]; exact g3.2 i hi⟩
  · rw [c 4 (by decide) (by decide), c 5 (by decide) (by decide), c 6 (by decide) (by decide), c 7 (by decide) (by decide)]; exact g4
  · rw [r 4 (by decide) (by decide)]; exact g5
  · rw [c 7 (by decide) (by decide), r 6 (by decide) (by decide), r 7 (by decide) (by decide), r 8 (by decide) (by decide)]; exact g6
  · rw [c 4 (by decide) (by decide), c 5 (by decide) (by decide), c 7 (by decide) (by decide), r 2 (by decide) (by decide), r 3 (by decide) (by decide), r 5 (by decide) (by decide)]
    rcases g7 with z | z
    · exact Or.inl z
    · exact Or.inr ⟨z.1, z.2.1, fun i hi => by rw [lw_o V (by omega) (by omega)]; exact z.2.2.1 i hi, z.2.2.2⟩
  · intro i hi; rw [c 3 (by decide) (by decide)] at hi; rw [lw_o V (by omega) (by omega)]; exact hC i hi
  · rw [r 2 (by decide) (by decide)]; exact hX
theorem GG.clt {N : Nat} {V : Vt} (h : GG N V) (h4 : V 0 3 ≠ 4) (hok : cpO (V 1) (V 0 0) 20 0 = true) : GG N (clV V) := by
  obtain ⟨⟨g1, g2, g3, g4, g5, g6, g7⟩, hC, hX⟩ := h
  have r : ∀ p, p ≠ 0 → p < 20 → clV V p = V p := fun p h0 h1 => cl_o V h0 (by omega)
  have c : ∀ q, q ≠ 0 → q ≠ 3 → clV V 0 q = V 0 q := fun q h0 h1 => cl_0 V h0 h1
  have h60 : clV V (20 + V 0 3) 60 = cpN (V 1) (V 0 0) 20 0 := by unfold clV; rw [if_neg (by omega), if_pos rfl]; rfl
  have hn := cpN_le (V 1) (V 0 0) 20 0
  have hz : ∀ z, z < 60 → ¬ z < 3 * cpN (V 1) (V 0 0) 20 0 → clV V (20 + V 0 3) z = 0 := fun z z1 z2 => by
    unfold clV
    rw [if_neg (by omega), if_pos rfl]
    show (if z = 60 then _ else if _ then _ else _) = _
    rw [if_neg (by omega), if_neg z2]
  refine ⟨⟨⟨by rw [cl_00]; decide, fun j hj => by rw [cl_00] at hj; omega⟩, ?_, ?_, ?_, ?_, ?_, ?_⟩, ?_, ?_⟩
  · rw [c 1 (by decide) (by decide), c 2 (by decide) (by decide)]; exact ⟨g2.1, g2.2.1, fun i hi => by rw [cl_o V (by omega) (by omega)]; exact g2.2.2 i hi⟩
  · rw [cl_03]
    refine ⟨by omega, fun i hi => ?_⟩
    by_cases q : i = V 0 3
    · subst q
      rw [h60]
      refine ⟨hn, fun z z1 => ?_⟩
      by_cases z2 : z < 3 * cpN (V 1) (V 0 0) 20 0
      · exact (cl_c hok z2).2.1
      · rw [hz z z1 z2]; omega
    · rw [cl_o V (by omega) (by omega)]; exact g3.2 i (by omega)
  · rw [c 4 (by decide) (by decide), c 5 (by decide) (by decide), c 6 (by decide) (by decide), c 7 (by decide) (by decide)]; exact g4
  · rw [r 4 (by decide) (by decide)]; exact g5
  · rw [c 7 (by decide) (by decide), r 6 (by decide) (by decide), r 7 (by decide) (by decide), r 8 (by decide) (by decide)]; exact g6
  · rw [c 4 (by decide) (by decide), c 5 (by decide) (by decide), c 7 (by decide) (by decide), r 2 (by decide) (by decide), r 3 (by decide) (by decide), r 5 (by decide) (by decide)]
    rcases g7 with z | z
    · exact Or.inl z
    · exact Or.inr ⟨z.1, z.2.1, fun i hi => by rw [cl_o V (by omega) (by omega)]; exact z.2.2.1 i hi, z.2.2.2⟩
  · intro i hi
    rw [cl_03] at hi
    by_cases q : i = V 0 3
    · subst q
      rw [h60]
      intro s hs
      exact (cl_c hok (z := 3 * s) (by omega)).2.2 (by omega)
    · rw [cl_o V (by omega) (by omega)]; exact hC i (by omega)
  · rw [r 2 (by decide) (by decide)]; exact hX
theorem beg_SG {P : Nat → Nat} (hP : PB P) (hX : PX P) (hK : PK P) : SG P (begN P) := ⟨beg_SB hP hK, Nat.zero_le _, fun p h1 h2 => by unfold begN; rw [if_pos h2]; exact (hX p h1 h2).1, fun k h1 h2 => by unfold begN; rw [if_neg (by omega), if_neg (by omega), if_neg (by omega), if_neg (by omega)]⟩
theorem GG.po {N : Nat} {V : Vt} {Q : Nat → Nat} (h : GG N V) (hP : PB Q) (hX0 : PX Q) (hK : PK Q) : GG N (poV V Q) := by
  obtain ⟨⟨g1, g2, g3, g4, g5, g6, g7⟩, hC, hX⟩ := h
  have r : ∀ p, p ≠ 0 → p ≠ 2 → p ≠ 3 → poV V Q p = V p := fun p h0 h2 h3 => po_o V Q h0 h2 h3
  have c : ∀ q, q ≠ 0 → q ≠ 4 → q ≠ 5 → q ≠ 7 → poV V Q 0 q = V 0 q := fun q h0 h4 h5 h7 => po_0 V Q h0 h4 h5 h7
  have z0 : ∀ q, (q = 0 ∨ q = 4 ∨ q = 5 ∨ q = 7) → poV V Q 0 q = 0 := fun q hq => po_z V Q hq
  refine ⟨⟨⟨by rw [z0 0 (by decide)]; decide, fun j hj => by rw [z0 0 (by decide)] at hj; omega⟩, ?_, ?_, ?_, ?_, fun i hi => by rw [z0 7 (by decide)] at hi; omega, Or.inr ⟨hP, beg_SG hP hX0 hK, fun i hi => by rw [z0 4 (by decide)] at hi; omega, fun z => by rw [z0 5 (by decide)] at z; omega⟩⟩, ?_, fun _ => ⟨hX0, hK⟩⟩
  · rw [c 1 (by decide) (by decide) (by decide) (by decide), c 2 (by decide) (by decide) (by decide) (by decide)]; exact ⟨g2.1, g2.2.1, fun i hi => by rw [r (10 + i) (by omega) (by omega) (by omega)]; exact g2.2.2 i hi⟩
  · rw [c 3 (by decide) (by decide) (by decide) (by decide)]; exact ⟨g3.1, fun i hi => by rw [r (20 + i) (by omega) (by omega) (by omega)]; exact g3.2 i hi⟩
  · rw [z0 4 (by decide), z0 5 (by decide), z0 7 (by decide), c 6 (by decide) (by decide) (by decide) (by decide)]; exact ⟨by decide, by decide, g4.2.2.1, by decide⟩
  · rw [r 4 (by decide) (by decide) (by decide)]; exact g5
  · intro i hi; rw [c 3 (by decide) (by decide) (by decide) (by decide)] at hi; rw [r (20 + i) (by omega) (by omega) (by omega)]; exact hC i hi
theorem GG.tx {N : Nat} {V : Vt} {x : Int32} (h : GG N V) : GG N (texV V x) := by
  unfold texV
  split
  · next q =>
    obtain ⟨q1, q2, q3, q4⟩ := q
    split
    · next s0 =>
      rw [s0] at q4
      obtain ⟨a1, a2, a3⟩ := po_ok (V := V) q4
      exact h.po a1 a2 a3
    · next s0 =>
      split
      · next s1 =>
        rw [s1] at q4
        exact h.lwt (q2 s1) q4
      · next s1 =>
        have s2 : xN x = 2 := by
          rcases sor_c q1 with e | e | e <;> subst e
          · exact absurd (xN_n (by decide)) s0
          · exact absurd (xN_n (by decide)) s1
          · exact xN_n (by decide)
        rw [s2] at q4
        exact h.clt (q3 s2) q4
  · exact h
