/-! a seaport's text: clauses, the whole -/
def putQ (kc x : Nat) (Q f : Nat → Nat) (z : Nat) : Nat :=
  if kc = 115 then (if z < 3 then f z else Q z) else
  if kc = 107 then (if z = 3 + x then f 0 else if z = 9 + x then f 1 else Q z) else
  if z = 15 + x then f 0 else if z = 21 + x then f 1 else if z = 27 + x then f 2 else Q z
def cl1 (T : Nat → Nat) (n c kc x : Nat) (Q : Nat → Nat) : Bool × Nat × (Nat → Nat) :=
  ((itR T n kc 4 0 (nx T n c + 1) (usualN kc)).1, (itR T n kc 4 0 (nx T n c + 1) (usualN kc)).2.1, putQ kc x Q (itR T n kc 4 0 (nx T n c + 1) (usualN kc)).2.2)
def clR (T : Nat → Nat) (n c : Nat) (Q : Nat → Nat) : Bool × Nat × (Nat → Nat) :=
  if sgn T n (nx T n c) = 115 ∧ Q 33 = 0 then cl1 T n c 115 0 (upn Q 33 1) else
  if sgn T n (nx T n c) = 107 ∧ Q 34 < 6 then cl1 T n c 107 (Q 34) (upn Q 34 (Q 34 + 1)) else
  if sgn T n (nx T n c) = 112 ∧ Q 35 < 6 then cl1 T n c 112 (Q 35) (upn Q 35 (Q 35 + 1)) else (false, nx T n c, Q)
def whL (Q : Nat → Nat) : Nat → Bool
  | 0 => true
  | j + 1 => whL Q j && decide (Q (15 + j) < Q 34)
def whQ (Q : Nat → Nat) : Bool := whL Q (Q 35) && decide (1 ≤ Q 34 ∧ 2 ≤ Q 35)
theorem whL_f (Q : Nat → Nat) {j : Nat} (h : ¬ Q (15 + j) < Q 34) : ∀ m, j < m → whL Q m = false
  | 0 => fun q => by omega
  | m + 1 => fun q => by
    unfold whL
    by_cases e : j = m
    · rw [← e, decide_eq_false h, Bool.and_false]
    · rw [whL_f Q h m (by omega), Bool.false_and]
def ptR (T : Nat → Nat) (n : Nat) : Nat → Nat → (Nat → Nat) → Bool × Nat × (Nat → Nat)
  | 0, c, Q => (false, c, Q)
  | k + 1, c, Q =>
    if (clR T n c Q).1 = true then
      (if sgn T n (nx T n (clR T n c Q).2.1) = 0 then (whQ (clR T n c Q).2.2, nx T n (clR T n c Q).2.1, (clR T n c Q).2.2) else
       if sgn T n (nx T n (clR T n c Q).2.1) = 59 then ptR T n k (nx T n (clR T n c Q).2.1 + 1) (clR T n c Q).2.2 else (false, nx T n (clR T n c Q).2.1, (clR T n c Q).2.2))
    else (false, (clR T n c Q).2.1, Q)
/-- the counters -/
def cntQ (Q : Nat → Nat) : Nat := Q 33 + Q 34 + Q 35
def CB (Q : Nat → Nat) : Prop := Q 33 ≤ 1 ∧ Q 34 ≤ 6 ∧ Q 35 ≤ 6
theorem putQ_c (kc x : Nat) (Q f : Nat → Nat) (hx : x < 6) {z : Nat} (hz : z = 33 ∨ z = 34 ∨ z = 35) : putQ kc x Q f z = Q z := by
  unfold putQ
  split
  · rw [if_neg (by omega)]
  · split
    · rw [if_neg (by omega), if_neg (by omega)]
    · rw [if_neg (by omega), if_neg (by omega), if_neg (by omega)]
theorem cl1_c {T : Nat → Nat} {n c kc x : Nat} {Q : Nat → Nat} (hx : x < 6) {z : Nat} (hz : z = 33 ∨ z = 34 ∨ z = 35) : (cl1 T n c kc x Q).2.2 z = Q z := putQ_c _ _ _ _ hx hz
theorem clR_c {T : Nat → Nat} {n c : Nat} {Q : Nat → Nat} (h : CB Q) (hr : (clR T n c Q).1 = true) : CB (clR T n c Q).2.2 ∧ cntQ (clR T n c Q).2.2 = cntQ Q + 1 := by
  obtain ⟨h1, h2, h3⟩ := h
  unfold clR at hr ⊢
  unfold CB cntQ
  by_cases c1 : sgn T n (nx T n c) = 115 ∧ Q 33 = 0
  · rw [if_pos c1]
    rw [cl1_c (by omega) (z := 33) (by omega), cl1_c (by omega) (z := 34) (by omega), cl1_c (by omega) (z := 35) (by omega)]
    have a1 : upn Q 33 1 33 = 1 := rfl
    have a2 : upn Q 33 1 34 = Q 34 := rfl
    have a3 : upn Q 33 1 35 = Q 35 := rfl
    omega
  · rw [if_neg c1] at hr ⊢
    by_cases c2 : sgn T n (nx T n c) = 107 ∧ Q 34 < 6
    · rw [if_pos c2]
      rw [cl1_c (by omega) (z := 33) (by omega), cl1_c (by omega) (z := 34) (by omega), cl1_c (by omega) (z := 35) (by omega)]
      have a1 : upn Q 34 (Q 34 + 1) 33 = Q 33 := rfl
      have a2 : upn Q 34 (Q 34 + 1) 34 = Q 34 + 1 := rfl
      have a3 : upn Q 34 (Q 34 + 1) 35 = Q 35 := rfl
      omega
    · rw [if_neg c2] at hr ⊢
      by_cases c3 : sgn T n (nx T n c) = 112 ∧ Q 35 < 6
      · rw [if_pos c3]
        rw [cl1_c (by omega) (z := 33) (by omega), cl1_c (by omega) (z := 34) (by omega), cl1_c (by omega) (z := 35) (by omega)]
        have a1 : upn Q 35 (Q 35 + 1) 33 = Q 33 := rfl
        have a2 : upn Q 35 (Q 35 + 1) 34 = Q 34 := rfl
        have a3 : upn Q 35 (Q 35 + 1) 35 = Q 35 + 1 := rfl
        omega
      · rw [if_neg c3] at hr
        cases hr
/-- what the reference has read so far -/
def RQ_ (I : It) (Q : Nat → Nat) : Prop := I 253 31 = nI (Q 33) ∧ I 253 28 = nI (Q 34) ∧ I 253 29 = nI (Q 35) ∧ CB Q ∧ (∀ z, z < 3 → I 259 z = nI (Q z)) ∧ (∀ k w, k < Q 34 → w < 2 → I 261 (2 * k + w) = nI (Q (3 + 6 * w + k))) ∧ ∀ p w, p < Q 35 → w < 3 → I 263 (3 * p + w) = nI (Q (15 + 6 * w + p))
theorem RQ_.of {I I' : It} {Q : Nat → Nat} (h : RQ_ I Q) (a : ∀ j, j = 28 ∨ j = 29 ∨ j = 31 → I' 253 j = I 253 j) (b : ∀ q, q = 259 ∨ q = 261 ∨ q = 263 → I' q = I q) : RQ_ I' Q := by
  unfold RQ_
  rw [a 31 (by decide), a 28 (by decide), a 29 (by decide), b 259 (by decide), b 261 (by decide), b 263 (by decide)]
  exact h
theorem RQ_.fa {I I' : It} {Q : Nat → Nat} (h : RQ_ I Q) (F : FA I I') : RQ_ I' Q := h.of (fun j hj => F.2 j (by omega)) (fun q hq => F.1 q (by omega))
theorem RQ_.s {I I' : It} {Q f : Nat → Nat} (h : RQ_ I Q) (e1 : I' 253 31 = nI 1) (e2 : I' 253 28 = I 253 28) (e3 : I' 253 29 = I 253 29) (c1 : ∀ z, z < 3 → I' 259 z = nI (f z)) (c2 : I' 261 = I 261) (c3 : I' 263 = I 263) : RQ_ I' (putQ 115 0 (upn Q 33 1) f) := by
  obtain ⟨h1, h2, h3, ⟨g1, g2, g3⟩, h4, h5, h6⟩ := h
  have p1 : putQ 115 0 (upn Q 33 1) f 33 = 1 := rfl
  have p2 : putQ 115 0 (upn Q 33 1) f 34 = Q 34 := rfl
  have p3 : putQ 115 0 (upn Q 33 1) f 35 = Q 35 := rfl
  refine ⟨by rw [p1, e1], by rw [p2, e2, h2], by rw [p3, e3, h3], ⟨by omega, by omega, by omega⟩, fun z hz => ?_, fun k w hk hw => ?_, fun p w hp hw => ?_⟩
  · rw [c1 z hz]
    unfold putQ
    rw [if_pos rfl, if_pos hz]
  · rw [c2, h5 k w (by omega) hw]
    unfold putQ upn
    rw [if_pos rfl, if_neg (by omega), if_neg (by omega)]
  · rw [c3, h6 p w (by omega) hw]
    unfold putQ upn
    rw [if_pos rfl, if_neg (by omega), if_neg (by omega)]
theorem RQ_.k {I I' : It} {Q f : Nat → Nat} (h : RQ_ I Q) (hk6 : Q 34 < 6) (e1 : I' 253 31 = I 253 31) (e2 : I' 253 28 = nI (Q 34 + 1)) (e3 : I' 253 29 = I 253 29) (c1 : I' 259 = I 259) (c2 : ∀ w, w < 2 → I' 261 (2 * Q 34 + w) = nI (f w)) (c4 : ∀ z, z < 2 * Q 34 → I' 261 z = I 261 z) (c3 : I' 263 = I 263) : RQ_ I' (putQ 107 (Q 34) (upn Q 34 (Q 34 + 1)) f) := by
  obtain ⟨h1, h2, h3, ⟨g1, g2, g3⟩, h4, h5, h6⟩ := h
  have p1 : putQ 107 (Q 34) (upn Q 34 (Q 34 + 1)) f 33 = Q 33 := putQ_c _ _ _ _ hk6 (by omega)
  have p2 : putQ 107 (Q 34) (upn Q 34 (Q 34 + 1)) f 34 = Q 34 + 1 := putQ_c _ _ _ _ hk6 (by omega)
  have p3 : putQ 107 (Q 34) (upn Q 34 (Q 34 + 1)) f 35 = Q 35 := putQ_c _ _ _ _ hk6 (by omega)
  refine ⟨by rw [p1, e1, h1], by rw [p2, e2], by rw [p3, e3, h3], ⟨by omega, by omega, by omega⟩, fun z hz => ?_, fun k w hk hw => ?_, fun p w hp hw => ?_⟩
  · rw [c1, h4 z hz]
    unfold putQ upn
    rw [if_neg (by omega), if_pos rfl, if_neg (by omega), if_neg (by omega), if_neg (by omega)]
  · rw [p2] at hk
    by_cases e : k = Q 34
    · rw [e, c2 w hw]
      unfold putQ
      rw [if_neg (by omega), if_pos rfl]
      by_cases e0 : w = 0
      · rw [if_pos (by omega), e0]
      · rw [if_neg (by omega), if_pos (by omega), show w = 1 by omega]
    · rw [c4 _ (by omega), h5 k w (by omega) hw]
      unfold putQ upn
      rw [if_neg (by omega), if_pos rfl, if_neg (by omega), if_neg (by omega), if_neg (by omega)]
  · rw [c3, h6 p w (by omega) hw]
    unfold putQ upn
    rw [if_neg (by omega), if_pos rfl, if_neg (by omega), if_neg (by omega), if_neg (by omega)]
theorem RQ_.p {I I' : It} {Q f : Nat → Nat} (h : RQ_ I Q) (hk6 : Q 35 < 6) (e1 : I' 253 31 = I 253 31) (e2 : I' 253 28 = I 253 28) (e3 : I' 253 29 = nI (Q 35 + 1)) (c1 : I' 259 = I 259) (c2 : ∀ w, w < 3 → I' 263 (3 * Q 35 + w) = nI (f w)) (c4 : ∀ z, z < 3 * Q 35 → I' 263 z = I 263 z) (c3 : I' 261 = I 261) : RQ_ I' (putQ 112 (Q 35) (upn Q 35 (Q 35 + 1)) f) := by
  obtain ⟨h1, h2, h3, ⟨g1, g2, g3⟩, h4, h5, h6⟩ := h
  have p1 : putQ 112 (Q 35) (upn Q 35 (Q 35 + 1)) f 33 = Q 33 := putQ_c _ _ _ _ hk6 (by omega)
  have p2 : putQ 112 (Q 35) (upn Q 35 (Q 35 + 1)) f 34 = Q 34 := putQ_c _ _ _ _ hk6 (by omega)
  have p3 : putQ 112 (Q 35) (upn Q 35 (Q 35 + 1)) f 35 = Q 35 + 1 := putQ_c _ _ _ _ hk6 (by omega)
  refine ⟨by rw [p1, e1, h1], by rw [p2, e2, h2], by rw [p3, e3], ⟨by omega, by omega, by omega⟩, fun z hz => ?_, fun k w hk hw => ?_, fun p w hp hw => ?_⟩
  · rw [c1, h4 z hz]
    unfold putQ upn
    rw [if_neg (by omega), if_neg (by omega), if_neg (by omega), if_neg (by omega), if_neg (by omega), if_neg (by omega)]
  · rw [c3, h5 k w (by omega) hw]
    unfold putQ upn
    rw [if_neg (by omega), if_neg (by omega), if_neg (by omega), if_neg (by omega), if_neg (by omega), if_neg (by omega)]
  · rw [p3] at hp
    by_cases e : p = Q 35
    · rw [e, c2 w hw]
      unfold putQ
      rw [if_neg (by omega), if_neg (by omega)]
      by_cases e0 : w = 0
      · rw [if_pos (by omega), e0]
      · rw [if_neg (by omega)]
        by_cases e1 : w = 1
        · rw [if_pos (by omega), e1]
        · rw [if_neg (by omega), if_pos (by omega), show w = 2 by omega]
    · rw [c4 _ (by omega), h6 p w (by omega) hw]
      unfold putQ upn
      rw [if_neg (by omega), if_neg (by omega), if_neg (by omega), if_neg (by omega), if_neg (by omega), if_neg (by omega)]
theorem FB.fs2 {a : Nat} {I J : It} (h : FB a I J) (ha : a = 259 ∨ a = 261 ∨ a = 263) : FS I J := ⟨fun q hq => h.1 q ⟨hq.1, by omega⟩, fun z _ => by rw [h.1 264 ⟨by decide, by omega⟩], fun z _ => by rw [h.1 265 ⟨by decide, by omega⟩], fun j hj => h.2 j (by unfold fsJ at hj; omega)⟩
theorem MR.fld {R : Rt} {I I' : It} {tx b n c k : Nat} {x : Int32} {T : Nat → Nat} (h : MR R I tx b n c T) (hk : k ≠ 8 ∧ k ≠ 9 ∧ k ≠ 10) (e : I' 253 = upd (I 253) k x) (o : ∀ q, q ≠ 253 → I' q = I q) : MR R I' tx b n c T := by
  obtain ⟨h1, h2, h3, h4, h5, h6, h7, h8, h9⟩ := h
  refine ⟨h1, by rw [e, upd_nj _ _ (by omega)]; exact h2, by rw [e, upd_nj _ _ (by omega)]; exact h3, by rw [e, upd_nj _ _ (by omega)]; exact h4, fun j hj => ?_, h6, h7, h8, h9⟩
  rw [o tx (by rcases h9 with q | q <;> omega)]
  exact h5 j hj
set_option maxRecDepth 20000 in
set_option maxHeartbeats 1000000 in
theorem l_whole {G : Gt} {l : Launch} {Z : Zt} {R : Rt} {I : It} {L : Lt} {post : Pt'} {Q : Nat → Nat} (W : WF Z R) (hQ : RQ_ I Q) (hB : ∀ p, p < 6 → Q (15 + p) < 1000) (hf : whL Q (Q 35) = false → post (some (.int (b2i false))) Z R I L) (h : whL Q (Q 35) = true → Sx G l mX12_isWhole 1 0 0 33 [(1, .int (nI (Q 35))), (0, .ref 253)] [] Z R I L post) :
    ∀ (k j : Nat), j ≤ Q 35 → Q 35 < j + k → whL Q j = true → Sx G l mX12_isWhole 1 0 0 2 [(1, .int (nI j)), (0, .ref 253)] [] Z R I L post := by
  obtain ⟨h1, h2, h3, ⟨g1, g2, g3⟩, h4, h5, h7⟩ := hQ
  intro k
  induction k with
  | zero => intro j h1 h2; omega
  | succ k ih =>
    intro j h8 h9 hw
    refine Sx.iload_n dX12_isWhole_2 rfl ?_
    refine Sx.aload_n dX12_isWhole_3 rfl ?_
    refine Sx.getfV (v := (nI (Q 35))) dX12_isWhole_4 lkf_X12_258_12 (o_253 W) h3 ?_
    refine Sx.icmp_geV (t := 33) dX12_isWhole_7 (by decide) (vN (by omega)) (vN (by omega)) (fun c7 => ?_) (fun c7 => ?_)
    · have hj : j = Q 35 := by omega
      subst hj
      exact h hw
    · refine Sx.aload_n dX12_isWhole_10 rfl ?_
      refine Sx.getfR dX12_isWhole_11 lkf_X12_52_12 (o_253 W) (r_253_23 W) ?_
      refine Sx.iconst (v := (nI 3)) dX12_isWhole_14 (by decide) ?_
      refine Sx.iload_n dX12_isWhole_15 rfl ?_
      refine Sx.imulN dX12_isWhole_16 ?_
      have hb := hB j (by omega)
      refine Sx.ialdN dX12_isWhole_17 (a_263 W) (by omega) (by decide) (v := (nI (Q (15 + j)))) (h7 j 0 (by omega) (by decide)) ?_
      refine Sx.aload_n dX12_isWhole_18 rfl ?_
      refine Sx.getfV (v := (nI (Q 34))) dX12_isWhole_19 lkf_X12_255_12 (o_253 W) h2 ?_
      refine Sx.icmp_ltV (t := 27) dX12_isWhole_22 (by decide) (vN (by omega)) (vN (by omega)) (fun c22 => ?_) (fun c22 => ?_)
      · refine Sx.iinc (v := (nI (j + 1))) (lv' := [(1, .int (nI (j + 1))), (0, .ref 253)]) dX12_isWhole_27 rfl (nI_add j 1) (by decide) rfl ?_
        refine Sx.goto (t := 2) dX12_isWhole_30 (by decide) ?_
        refine ih (j + 1) (by omega) (by omega) ?_
        rw [whL, hw, decide_eq_true (by omega)]; rfl
      · refine Sx.iconst (v := (nI 0)) dX12_isWhole_25 (by decide) ?_
        refine Sx.top (show _ = b2i false from rfl) ?_
        refine Sx.iret dX12_isWhole_26 rfl (b2i_n _) ?_
        exact hf (whL_f Q (j := j) (by omega) _ (by omega))
set_option maxRecDepth 20000 in
set_option maxHeartbeats 1000000 in
theorem k_isWhole {G : Gt} {l : Launch} {Z : Zt} {R : Rt} {I : It} {L : Lt} {post : Pt'} {Q : Nat → Nat} (W : WF Z R) (hQ : RQ_ I Q) (hB : ∀ p, p < 6 → Q (15 + p) < 1000) (h : post (some (.int (b2i (whQ Q)))) Z R I L) : Cx G l mX12_isWhole 1 0 0 [.ref 253] Z R I L post := by
  refine Cx.of (by decide +kernel) (by exact Nat.le_of_ble_eq_true rfl) ?_
  refine Sx.iconst (v := (nI 0)) dX12_isWhole_0 (by decide) ?_
  refine Sx.istore_n (lv' := [(1, .int (nI 0)), (0, .ref 253)]) dX12_isWhole_1 (by decide) rfl ?_
  refine Sx.sub' [(1, .int (nI 0)), (0, .ref 253)] rfl ?_
  refine l_whole W hQ hB (fun hw => pBB (by rw [whQ, hw]; rfl) h) (fun hw => ?_) (Q 35 + 1) 0 (by omega) (by omega) rfl
  obtain ⟨h1, h2, h3, ⟨g1, g2, g3⟩, h4, h5, h7⟩ := hQ
  refine Sx.aload_n dX12_isWhole_33 rfl ?_
  refine Sx.getfV (v := (nI (Q 34))) dX12_isWhole_34 lkf_X12_255_12 (o_253 W) h2 ?_
  refine Sx.if_leV (t := 52) dX12_isWhole_37 (by decide) (vN (by omega)) (fun c37 => ?_) (fun c37 => ?_)
  · refine Sx.iconst (v := (nI 0)) dX12_isWhole_52 (by decide) ?_
    refine Sx.top (show _ = b2i false from rfl) ?_
    refine Sx.iret dX12_isWhole_53 rfl (b2i_n _) ?_
    exact pBB (by rw [whQ, hw, decide_eq_false (by omega)]; rfl) h
  · refine Sx.aload_n dX12_isWhole_40 rfl ?_
    refine Sx.getfV (v := (nI (Q 35))) dX12_isWhole_41 lkf_X12_258_12 (o_253 W) h3 ?_
    refine Sx.iconst (v := (nI 1)) dX12_isWhole_44 (by decide) ?_
    refine Sx.icmp_leV (t := 52) dX12_isWhole_45 (by decide) (vN (by omega)) (vN (by decide)) (fun c45 => ?_) (fun c45 => ?_)
    · refine Sx.iconst (v := (nI 0)) dX12_isWhole_52 (by decide) ?_
      refine Sx.top (show _ = b2i false from rfl) ?_
      refine Sx.iret dX12_isWhole_53 rfl (b2i_n _) ?_
      exact pBB (by rw [whQ, hw, decide_eq_false (by omega)]; rfl) h
    · refine Sx.iconst (v := (nI 1)) dX12_isWhole_48 (by decide) ?_
      refine Sx.goto (t := 53) dX12_isWhole_49 (by decide) ?_
      refine Sx.top (show _ = b2i true from rfl) ?_
      refine Sx.iret dX12_isWhole_53 rfl (b2i_n _) ?_
      exact pBB (by rw [whQ, hw, decide_eq_true (by omega)]; rfl) h
theorem k_items115 {G : Gt} {l : Launch} {Z : Zt} {R : Rt} {I : It} {L : Lt} {post : Pt'} {tx b n c dp to N row : Nat} {T : Nat → Nat} (W : WF Z R) (hM : MR R I tx b n c T) (hf : I 253 11 = iI (-1)) (hd : I 253 12 = nI dp) (hto : to = 259 ∨ to = 261 ∨ to = 263) (hA : ar Z to 50 N) (hrow : row + 3 ≤ N) (hN : N < 2147483648)
    (hno : (itR T n 115 4 0 c (usualN 115)).1 = false → ∀ I', FB to I I' → I' 253 11 = nI (itR T n 115 4 0 c (usualN 115)).2.1 → (∀ z, z < row ∨ row + 3 ≤ z → I' to z = I to z) → post none Z R I' L)
    (hyes : (itR T n 115 4 0 c (usualN 115)).1 = true → ∀ I', FB to I I' → MR R I' tx b n (itR T n 115 4 0 c (usualN 115)).2.1 T → I' 253 11 = iI (-1) → I' 253 12 = nI dp → (∀ z, z < 3 → I' to (row + z) = nI ((itR T n 115 4 0 c (usualN 115)).2.2 z)) → (∀ z, z < row ∨ row + 3 ≤ z → I' to z = I to z) → post none Z R I' L) : Cx G l mX12_readItems 6 0 0 [.ref 253, .int (nI 115), .ref to, .int (nI row), .ref 22] Z R I L post :=
  k_readItems (kc := 115) W hM hf hd hto hA hrow hN (by unfold kcO; decide) rfl hno hyes
theorem k_items107 {G : Gt} {l : Launch} {Z : Zt} {R : Rt} {I : It} {L : Lt} {post : Pt'} {tx b n c dp to N row : Nat} {T : Nat → Nat} (W : WF Z R) (hM : MR R I tx b n c T) (hf : I 253 11 = iI (-1)) (hd : I 253 12 = nI dp) (hto : to = 259 ∨ to = 261 ∨ to = 263) (hA : ar Z to 50 N) (hrow : row + 2 ≤ N) (hN : N < 2147483648)
    (hno : (itR T n 107 4 0 c (usualN 107)).1 = false → ∀ I', FB to I I' → I' 253 11 = nI (itR T n 107 4 0 c (usualN 107)).2.1 → (∀ z, z < row ∨ row + 2 ≤ z → I' to z = I to z) → post none Z R I' L)
    (hyes : (itR T n 107 4 0 c (usualN 107)).1 = true → ∀ I', FB to I I' → MR R I' tx b n (itR T n 107 4 0 c (usualN 107)).2.1 T → I' 253 11 = iI (-1) → I' 253 12 = nI dp → (∀ z, z < 2 → I' to (row + z) = nI ((itR T n 107 4 0 c (usualN 107)).2.2 z)) → (∀ z, z < row ∨ row + 2 ≤ z → I' to z = I to z) → post none Z R I' L) : Cx G l mX12_readItems 6 0 0 [.ref 253, .int (nI 107), .ref to, .int (nI row), .ref 23] Z R I L post :=
  k_readItems (kc := 107) W hM hf hd hto hA hrow hN (by unfold kcO; decide) rfl hno hyes
theorem k_items112 {G : Gt} {l : Launch} {Z : Zt} {R : Rt} {I : It} {L : Lt} {post : Pt'} {tx b n c dp to N row : Nat} {T : Nat → Nat} (W : WF Z R) (hM : MR R I tx b n c T) (hf : I 253 11 = iI (-1)) (hd : I 253 12 = nI dp) (hto : to = 259 ∨ to = 261 ∨ to = 263) (hA : ar Z to 50 N) (hrow : row + 3 ≤ N) (hN : N < 2147483648)
    (hno : (itR T n 112 4 0 c (usualN 112)).1 = false → ∀ I', FB to I I' → I' 253 11 = nI (itR T n 112 4 0 c (usualN 112)).2.1 → (∀ z, z < row ∨ row + 3 ≤ z → I' to z = I to z) → post none Z R I' L)
    (hyes : (itR T n 112 4 0 c (usualN 112)).1 = true → ∀ I', FB to I I' → MR R I' tx b n (itR T n 112 4 0 c (usualN 112)).2.1 T → I' 253 11 = iI (-1) → I' 253 12 = nI dp → (∀ z, z < 3 → I' to (row + z) = nI ((itR T n 112 4 0 c (usualN 112)).2.2 z)) → (∀ z, z < row ∨ row + 3 ≤ z → I' to z = I to z) → post none Z R I' L) : Cx G l mX12_readItems 6 0 0 [.ref 253, .int (nI 112), .ref to, .int (nI row), .ref 24] Z R I L post :=
  k_readItems (kc := 112) W hM hf hd hto hA hrow hN (by unfold kcO; decide) rfl hno hyes
set_option maxRecDepth 20000 in
set_option maxHeartbeats 1000000 in
theorem k_readClause {G : Gt} {l : Launch} {Z : Zt} {R : Rt} {I : It} {L : Lt} {post : Pt'} {tx b n c dp : Nat} {T Q : Nat → Nat} {r : Bool × Nat × (Nat → Nat)} (W : WF Z R) (hM : MR R I tx b n c T) (hf : I 253 11 = iI (-1)) (hd : I 253 12 = nI dp) (hQ : RQ_ I Q) (hR : clR T n c Q = r) (hno : r.1 = false → ∀ I', FS I I' → I' 253 11 = nI r.2.1 → post none Z R I' L) (hyes : r.1 = true → ∀ I', FS I I' → MR R I' tx b n r.2.1 T → I' 253 11 = iI (-1) → I' 253 12 = nI dp → RQ_ I' r.2.2 → post none Z R I' L) : Cx G l mX12_readClause 7 0 0 [.ref 253] Z R I L post := by
  refine Cx.of (by decide +kernel) (by exact Nat.le_of_ble_eq_true rfl) ?_
  obtain ⟨h1, h2, h3, ⟨g1, g2, g3⟩, h4, h5, h7⟩ := id hQ
  refine Sx.aload_n dX12_readClause_0 rfl ?_
  refine Sx.callV0 dX12_readClause_1 lkv_X12_151 (rcv_12 (o_253 W)) (by decide) (by decide) (Nat.le_of_ble_eq_true rfl) rfl rfl (k_look W hM (fun I1 hM1 g1 f1 d1 => ?_))
  have hF1 := (FS.rf I).tr (FA.fs g1)
  have hf1 := f1.trans hf
  have hd1 := d1.trans hd
  have hx1 := nx_b T n c
  have hk1 := lkN_or T n (nx T n c)
  have ht1 := hM1.2.2.2.2.2.2.2.1 (nx T n c)
  have hc1 := hM1.2.2.2.2.2.2.1
  have hn1 := hM1.2.2.2.2.2.1
  have hs1 := sgn_or T n (nx T n c)
  refine Sx.istore_n (lv' := [(1, .int (iI (lkN T n (nx T n c)))), (0, .ref 253)]) dX12_readClause_4 (by decide) rfl ?_
  refine Sx.iload_n dX12_readClause_5 rfl ?_
  refine Sx.bipush (v := (nI 115)) dX12_readClause_6 (by decide) ?_
  refine Sx.icmp_neV (t := 18) dX12_readClause_8 (by decide) (vZ (by omega)) (vN (by decide)) (fun c8 => ?_) (fun c8 => ?_)
  · refine Sx.iload_n dX12_readClause_18 rfl ?_
    refine Sx.bipush (v := (nI 107)) dX12_readClause_19 (by decide) ?_
    refine Sx.icmp_neV (t := 33) dX12_readClause_21 (by decide) (vZ (by omega)) (vN (by decide)) (fun c21 => ?_) (fun c21 => ?_)
    · refine Sx.iload_n dX12_readClause_33 rfl ?_
      refine Sx.bipush (v := (nI 112)) dX12_readClause_34 (by decide) ?_
      refine Sx.icmp_neV (t := 52) dX12_readClause_36 (by decide) (vZ (by omega)) (vN (by decide)) (fun c36 => ?_) (fun c36 => ?_)
      · refine Sx.iconst (v := (nI 0)) dX12_readClause_52 (by decide) ?_
        refine Sx.istore_n (lv' := [(2, .int (nI 0)), (1, .int (iI (lkN T n (nx T n c)))), (0, .ref 253)]) dX12_readClause_53 (by decide) rfl ?_
        refine Sx.iload_n dX12_readClause_54 rfl ?_
        refine Sx.if_neV (t := 64) dX12_readClause_55 (by decide) (vN (by decide)) (fun c55 => False.elim (by omega)) (fun c55 => ?_)
        refine Sx.aload_n dX12_readClause_58 rfl ?_
        refine Sx.callV0 dX12_readClause_59 lkv_X12_147 (rcv_12 (o_253 W)) (by decide) (by decide) (Nat.le_of_ble_eq_true rfl) rfl rfl (k_fails W hM1 hf1 (fun I2 g2 f2 d2 a2 => ?_))
        have hF2 := (hF1).tr (FA.fs g2)
        refine Sx.pop dX12_readClause_62 rfl ?_
        refine Sx.vret dX12_readClause_63 rfl ?_
        rw [clR, if_neg (by omega), if_neg (by omega), if_neg (by omega)] at hR
        subst hR
        exact hno rfl I2 hF2 f2
      · refine Sx.aload_n dX12_readClause_39 rfl ?_
        refine Sx.getfV (v := (nI (Q 35))) dX12_readClause_40 lkf_X12_258_12 (o_253 W) (by rw [g1.2 29 (by decide)]; exact h3) ?_
        refine Sx.bipush (v := (nI 6)) dX12_readClause_43 (by decide) ?_
        refine Sx.icmp_geV (t := 52) dX12_readClause_45 (by decide) (vN (by omega)) (vN (by decide)) (fun c45 => ?_) (fun c45 => ?_)
        · refine Sx.iconst (v := (nI 0)) dX12_readClause_52 (by decide) ?_
          refine Sx.istore_n (lv' := [(2, .int (nI 0)), (1, .int (iI (lkN T n (nx T n c)))), (0, .ref 253)]) dX12_readClause_53 (by decide) rfl ?_
          refine Sx.iload_n dX12_readClause_54 rfl ?_
          refine Sx.if_neV (t := 64) dX12_readClause_55 (by decide) (vN (by decide)) (fun c55 => False.elim (by omega)) (fun c55 => ?_)
          refine Sx.aload_n dX12_readClause_58 rfl ?_
          refine Sx.callV0 dX12_readClause_59 lkv_X12_147 (rcv_12 (o_253 W)) (by decide) (by decide) (Nat.le_of_ble_eq_true rfl) rfl rfl (k_fails W hM1 hf1 (fun I3 g3 f3 d3 a3 => ?_))
          have hF3 := (hF1).tr (FA.fs g3)
          refine Sx.pop dX12_readClause_62 rfl ?_
          refine Sx.vret dX12_readClause_63 rfl ?_
          rw [clR, if_neg (by omega), if_neg (by omega), if_neg (by omega)] at hR
          subst hR
          exact hno rfl I3 hF3 f3
        · refine Sx.iconst (v := (nI 1)) dX12_readClause_48 (by decide) ?_
          refine Sx.goto (t := 53) dX12_readClause_49 (by decide) ?_
          refine Sx.istore_n (lv' := [(2, .int (nI 1)), (1, .int (iI (lkN T n (nx T n c)))), (0, .ref 253)]) dX12_readClause_53 (by decide) rfl ?_
          refine Sx.iload_n dX12_readClause_54 rfl ?_
          refine Sx.if_neV (t := 64) dX12_readClause_55 (by decide) (vN (by decide)) (fun c55 => ?_) (fun c55 => False.elim (by omega))
          refine Sx.aload_n dX12_readClause_64 rfl ?_
          refine Sx.dup dX12_readClause_65 rfl ?_
          refine Sx.getfV (v := (nI (nx T n c))) dX12_readClause_66 lkf_X12_132_12 (o_253 W) hM1.at_ ?_
          refine Sx.iconst (v := (nI 1)) dX12_readClause_69 (by decide) ?_
          refine Sx.iaddN dX12_readClause_70 ?_
          refine Sx.putfV dX12_readClause_71 lkp_X12_132_12 (o_253 W) rfl rfl (fun I4 e4 o4 => ?_)
          have hM4 : MR R I4 tx b n ((nx T n c) + 1) T := hM1.mv ((nx T n c) + 1) (by omega) (FA.up (by decide) e4 o4) (by rw [e4, upd_at])
          have hF4 := (hF1).tr (FA.fs (FA.up (by decide) e4 o4))
          have hf4 := Eq.trans (by rw [e4, upd_nj _ _ (by decide)] : I4 253 11 = I1 253 11) hf1
          have hd4 := Eq.trans (by rw [e4, upd_nj _ _ (by decide)] : I4 253 12 = I1 253 12) hd1
          have hk4 := lkN_or T n ((nx T n c) + 1)
          have ht4 := hM4.2.2.2.2.2.2.2.1 ((nx T n c) + 1)
          have hc4 := hM4.2.2.2.2.2.2.1
          have hn4 := hM4.2.2.2.2.2.1
          have hs4 := sgn_or T n ((nx T n c) + 1)
          refine Sx.iload_n dX12_readClause_74 rfl ?_
          refine Sx.bipush (v := (nI 115)) dX12_readClause_75 (by decide) ?_
          refine Sx.icmp_neV (t := 101) dX12_readClause_77 (by decide) (vZ (by omega)) (vN (by decide)) (fun c77 => ?_) (fun c77 => False.elim (by omega))
          refine Sx.iload_n dX12_readClause_101 rfl ?_
          refine Sx.bipush (v := (nI 107)) dX12_readClause_102 (by decide) ?_
          refine Sx.icmp_neV (t := 140) dX12_readClause_104 (by decide) (vZ (by omega)) (vN (by decide)) (fun c104 => ?_) (fun c104 => False.elim (by omega))
          refine Sx.sub' [(2, .int (nI 1)), (1, .int (nI 112)), (0, .ref 253)] (by rw [show (iI (lkN T n (nx T n c))) = nI 112 from eZN (by omega)]; rfl) ?_
          refine Sx.aload_n dX12_readClause_140 rfl ?_
          refine Sx.dup dX12_readClause_141 rfl ?_
          refine Sx.getfV (v := (nI (Q 35))) dX12_readClause_142 lkf_X12_258_12 (o_253 W) (by rw [e4, upd_nj _ _ (by decide), g1.2 29 (by decide)]; exact h3) ?_
          refine Sx.iconst (v := (nI 1)) dX12_readClause_145 (by decide) ?_
          refine Sx.iaddN dX12_readClause_146 ?_
          refine Sx.putfV dX12_readClause_147 lkp_X12_258_12 (o_253 W) rfl rfl (fun I5 e5 o5 => ?_)
          have hF5 := (hF4).tr (FS.fld (show ¬ fsJ 29 by unfold fsJ; omega) e5 o5)
          have hf5 := Eq.trans (by rw [e5, upd_nj _ _ (by decide)] : I5 253 11 = I4 253 11) hf4
          have hM5 := hM4.fld (by decide) e5 o5
          have hd5 := Eq.trans (by rw [e5, upd_nj _ _ (by decide)] : I5 253 12 = I4 253 12) hd4
          refine Sx.aload_n dX12_readClause_150 rfl ?_
          refine Sx.iload_n dX12_readClause_151 rfl ?_
          refine Sx.aload_n dX12_readClause_152 rfl ?_
          refine Sx.getfR dX12_readClause_153 lkf_X12_52_12 (o_253 W) (r_253_23 W) ?_
          refine Sx.iconst (v := (nI 3)) dX12_readClause_156 (by decide) ?_
          refine Sx.aload_n dX12_readClause_157 rfl ?_
          refine Sx.getfV (v := (nI (Q 35 + 1))) dX12_readClause_158 lkf_X12_258_12 (o_253 W) (by rw [e5, upd_at]) ?_
          refine Sx.iconst (v := (nI 1)) dX12_readClause_161 (by decide) ?_
          refine Sx.isubN dX12_readClause_162 (by omega) ?_
          refine Sx.imulN dX12_readClause_163 ?_
          refine Sx.ldcwS (k := 4) dX12_readClause_164 rfl (by decide) rfl ?_
          refine Sx.callV4 dX12_readClause_167 lkv_X12_263 (rcv_12 (o_253 W)) (by decide) (by decide) (Nat.le_of_ble_eq_true rfl) rfl rfl (k_items112 W hM5 hf5 hd5 (by decide) (a_263 W) (by omega) (by decide) (fun x6 I6 g6 f6 z6 => ?_) (fun x6 I6 g6 hM6 f6 d6 w6 z6 => ?_))
          · skip
            have hF6 := (hF5).tr (FB.fs2 g6 (by decide))
            refine Sx.vret dX12_readClause_170 rfl ?_
            rw [clR, if_neg (by omega), if_neg (by omega), if_pos (show sgn T n (nx T n c) = 112 ∧ Q 35 < 6 by omega)] at hR
            subst hR
            exact hno x6 I6 hF6 f6
          · skip
            have hF6 := (hF5).tr (FB.fs2 g6 (by decide))
            refine Sx.vret dX12_readClause_170 rfl ?_
            rw [clR, if_neg (by omega), if_neg (by omega), if_pos (show sgn T n (nx T n c) = 112 ∧ Q 35 < 6 by omega)] at hR
            subst hR
            refine hyes x6 I6 hF6 hM6 f6 d6 ?_
            exact hQ.p (by omega) (by rw [g6.2 31 (by decide), e5, upd_nj _ _ (by decide), e4, upd_nj _ _ (by decide), g1.2 31 (by decide)]) (by rw [g6.2 28 (by decide), e5, upd_nj _ _ (by decide), e4, upd_nj _ _ (by decide), g1.2 28 (by decide)]) (by rw [g6.2 29 (by decide), e5, upd_at]) (by rw [g6.1 259 (by decide), o5 259 (by decide), o4 259 (by decide), g1.1 259 (by decide)]) (fun w hw => w6 w hw) (fun z hz => by rw [z6 z (Or.inl (show z < 3 * (Q 35 + 1 - 1) by omega)), o5 263 (by decide), o4 263 (by decide), g1.1 263 (by decide)]) (by rw [g6.1 261 (by decide), o5 261 (by decide), o4 261 (by decide), g1.1 261 (by decide)])
    · refine Sx.aload_n dX12_readClause_24 rfl ?_
      refine Sx.getfV (v := (nI (Q 34))) dX12_readClause_25 lkf_X12_255_12 (o_253 W) (by rw [g1.2 28 (by decide)]; exact h2) ?_
      refine Sx.bipush (v := (nI 6)) dX12_readClause_28 (by decide) ?_
      refine Sx.icmp_ltV (t := 48) dX12_readClause_30 (by decide) (vN (by omega)) (vN (by decide)) (fun c30 => ?_) (fun c30 => ?_)
      · refine Sx.iconst (v := (nI 1)) dX12_readClause_48 (by decide) ?_
        refine Sx.goto (t := 53) dX12_readClause_49 (by decide) ?_
        refine Sx.istore_n (lv' := [(2, .int (nI 1)), (1, .int (iI (lkN T n (nx T n c)))), (0, .ref 253)]) dX12_readClause_53 (by decide) rfl ?_
        refine Sx.iload_n dX12_readClause_54 rfl ?_
        refine Sx.if_neV (t := 64) dX12_readClause_55 (by decide) (vN (by decide)) (fun c55 => ?_) (fun c55 => False.elim (by omega))
        refine Sx.aload_n dX12_readClause_64 rfl ?_
        refine Sx.dup dX12_readClause_65 rfl ?_
        refine Sx.getfV (v := (nI (nx T n c))) dX12_readClause_66 lkf_X12_132_12 (o_253 W) hM1.at_ ?_
        refine Sx.iconst (v := (nI 1)) dX12_readClause_69 (by decide) ?_
        refine Sx.iaddN dX12_readClause_70 ?_
        refine Sx.putfV dX12_readClause_71 lkp_X12_132_12 (o_253 W) rfl rfl (fun I7 e7 o7 => ?_)
        have hM7 : MR R I7 tx b n ((nx T n c) + 1) T := hM1.mv ((nx T n c) + 1) (by omega) (FA.up (by decide) e7 o7) (by rw [e7, upd_at])
        have hF7 := (hF1).tr (FA.fs (FA.up (by decide) e7 o7))
        have hf7 := Eq.trans (by rw [e7, upd_nj _ _ (by decide)] : I7 253 11 = I1 253 11) hf1
        have hd7 := Eq.trans (by rw [e7, upd_nj _ _ (by decide)] : I7 253 12 = I1 253 12) hd1
        have hk7 := lkN_or T n ((nx T n c) + 1)
        have ht7 := hM7.2.2.2.2.2.2.2.1 ((nx T n c) + 1)
        have hc7 := hM7.2.2.2.2.2.2.1
        have hn7 := hM7.2.2.2.2.2.1
        have hs7 := sgn_or T n ((nx T n c) + 1)
        refine Sx.iload_n dX12_readClause_74 rfl ?_
        refine Sx.bipush (v := (nI 115)) dX12_readClause_75 (by decide) ?_
        refine Sx.icmp_neV (t := 101) dX12_readClause_77 (by decide) (vZ (by omega)) (vN (by decide)) (fun c77 => ?_) (fun c77 => False.elim (by omega))
        refine Sx.iload_n dX12_readClause_101 rfl ?_
        refine Sx.bipush (v := (nI 107)) dX12_readClause_102 (by decide) ?_
        refine Sx.icmp_neV (t := 140) dX12_readClause_104 (by decide) (vZ (by omega)) (vN (by decide)) (fun c104 => False.elim (by omega)) (fun c104 => ?_)
        refine Sx.sub' [(2, .int (nI 1)), (1, .int (nI 107)), (0, .ref 253)] (by rw [show (iI (lkN T n (nx T n c))) = nI 107 from eZN (by omega)]; rfl) ?_
        refine Sx.aload_n dX12_readClause_107 rfl ?_
        refine Sx.dup dX12_readClause_108 rfl ?_
        refine Sx.getfV (v := (nI (Q 34))) dX12_readClause_109 lkf_X12_255_12 (o_253 W) (by rw [e7, upd_nj _ _ (by decide), g1.2 28 (by decide)]; exact h2) ?_
        refine Sx.iconst (v := (nI 1)) dX12_readClause_112 (by decide) ?_
        refine Sx.iaddN dX12_readClause_113 ?_
        refine Sx.putfV dX12_readClause_114 lkp_X12_255_12 (o_253 W) rfl rfl (fun I8 e8 o8 => ?_)
        have hF8 := (hF7).tr (FS.fld (show ¬ fsJ 28 by unfold fsJ; omega) e8 o8)
        have hf8 := Eq.trans (by rw [e8, upd_nj _ _ (by decide)] : I8 253 11 = I7 253 11) hf7
        have hM8 := hM7.fld (by decide) e8 o8
        have hd8 := Eq.trans (by rw [e8, upd_nj _ _ (by decide)] : I8 253 12 = I7 253 12) hd7
        refine Sx.aload_n dX12_readClause_117 rfl ?_
        refine Sx.iload_n dX12_readClause_118 rfl ?_
        refine Sx.aload_n dX12_readClause_119 rfl ?_
        refine Sx.getfR dX12_readClause_120 lkf_X12_46_12 (o_253 W) (r_253_21 W) ?_
        refine Sx.iconst (v := (nI 2)) dX12_readClause_123 (by decide) ?_
        refine Sx.aload_n dX12_readClause_124 rfl ?_
        refine Sx.getfV (v := (nI (Q 34 + 1))) dX12_readClause_125 lkf_X12_255_12 (o_253 W) (by rw [e8, upd_at]) ?_
        refine Sx.iconst (v := (nI 1)) dX12_readClause_128 (by decide) ?_
        refine Sx.isubN dX12_readClause_129 (by omega) ?_
        refine Sx.imulN dX12_readClause_130 ?_
        refine Sx.ldcwS (k := 3) dX12_readClause_131 rfl (by decide) rfl ?_
        refine Sx.callV4 dX12_readClause_134 lkv_X12_263 (rcv_12 (o_253 W)) (by decide) (by decide) (Nat.le_of_ble_eq_true rfl) rfl rfl (k_items107 W hM8 hf8 hd8 (by decide) (a_261 W) (by omega) (by decide) (fun x9 I9 g9 f9 z9 => ?_) (fun x9 I9 g9 hM9 f9 d9 w9 z9 => ?_))
        · skip
          have hF9 := (hF8).tr (FB.fs2 g9 (by decide))
          refine Sx.goto (t := 170) dX12_readClause_137 (by decide) ?_
          refine Sx.vret dX12_readClause_170 rfl ?_
          rw [clR, if_neg (by omega), if_pos (show sgn T n (nx T n c) = 107 ∧ Q 34 < 6 by omega)] at hR
          subst hR
          exact hno x9 I9 hF9 f9
        · skip
          have hF9 := (hF8).tr (FB.fs2 g9 (by decide))
          refine Sx.goto (t := 170) dX12_readClause_137 (by decide) ?_
          refine Sx.vret dX12_readClause_170 rfl ?_
          rw [clR, if_neg (by omega), if_pos (show sgn T n (nx T n c) = 107 ∧ Q 34 < 6 by omega)] at hR
          subst hR
          refine hyes x9 I9 hF9 hM9 f9 d9 ?_
          exact hQ.k (by omega) (by rw [g9.2 31 (by decide), e8, upd_nj _ _ (by decide), e7, upd_nj _ _ (by decide), g1.2 31 (by decide)]) (by rw [g9.2 28 (by decide), e8, upd_at]) (by rw [g9.2 29 (by decide), e8, upd_nj _ _ (by decide), e7, upd_nj _ _ (by decide), g1.2 29 (by decide)]) (by rw [g9.1 259 (by decide), o8 259 (by decide), o7 259 (by decide), g1.1 259 (by decide)]) (fun w hw => w9 w hw) (fun z hz => by rw [z9 z (Or.inl (show z < 2 * (Q 34 + 1 - 1) by omega)), o8 261 (by decide), o7 261 (by decide), g1.1 261 (by decide)]) (by rw [g9.1 263 (by decide), o8 263 (by decide), o7 263 (by decide), g1.1 263 (by decide)])
      · refine Sx.iload_n dX12_readClause_33 rfl ?_
        refine Sx.bipush (v := (nI 112)) dX12_readClause_34 (by decide) ?_
        refine Sx.icmp_neV (t := 52) dX12_readClause_36 (by decide) (vZ (by omega)) (vN (by decide)) (fun c36 => ?_) (fun c36 => False.elim (by omega))
        refine Sx.iconst (v := (nI 0)) dX12_readClause_52 (by decide) ?_
        refine Sx.istore_n (lv' := [(2, .int (nI 0)), (1, .int (iI (lkN T n (nx T n c)))), (0, .ref 253)]) dX12_readClause_53 (by decide) rfl ?_
        refine Sx.iload_n dX12_readClause_54 rfl ?_
        refine Sx.if_neV (t := 64) dX12_readClause_55 (by decide) (vN (by decide)) (fun c55 => False.elim (by omega)) (fun c55 => ?_)
        refine Sx.aload_n dX12_readClause_58 rfl ?_
        refine Sx.callV0 dX12_readClause_59 lkv_X12_147 (rcv_12 (o_253 W)) (by decide) (by decide) (Nat.le_of_ble_eq_true rfl) rfl rfl (k_fails W hM1 hf1 (fun I10 g10 f10 d10 a10 => ?_))
        have hF10 := (hF1).tr (FA.fs g10)
        refine Sx.pop dX12_readClause_62 rfl ?_
        refine Sx.vret dX12_readClause_63 rfl ?_
        rw [clR, if_neg (by omega), if_neg (by omega), if_neg (by omega)] at hR
        subst hR
        exact hno rfl I10 hF10 f10
  · refine Sx.aload_n dX12_readClause_11 rfl ?_
    refine Sx.getfV (v := (nI (Q 33))) dX12_readClause_12 lkf_X12_252_12 (o_253 W) (by rw [g1.2 31 (by decide)]; exact h1) ?_
    refine Sx.if_eqV (t := 48) dX12_readClause_15 (by decide) (vN (by omega)) (fun c15 => ?_) (fun c15 => ?_)
    · refine Sx.iconst (v := (nI 1)) dX12_readClause_48 (by decide) ?_
      refine Sx.goto (t := 53) dX12_readClause_49 (by decide) ?_
      refine Sx.istore_n (lv' := [(2, .int (nI 1)), (1, .int (iI (lkN T n (nx T n c)))), (0, .ref 253)]) dX12_readClause_53 (by decide) rfl ?_
      refine Sx.iload_n dX12_readClause_54 rfl ?_
      refine Sx.if_neV (t := 64) dX12_readClause_55 (by decide) (vN (by decide)) (fun c55 => ?_) (fun c55 => False.elim (by omega))
      refine Sx.aload_n dX12_readClause_64 rfl ?_
      refine Sx.dup dX12_readClause_65 rfl ?_
      refine Sx.getfV (v := (nI (nx T n c))) dX12_readClause_66 lkf_X12_132_12 (o_253 W) hM1.at_ ?_
      refine Sx.iconst (v := (nI 1)) dX12_readClause_69 (by decide) ?_
      refine Sx.iaddN dX12_readClause_70 ?_
      refine Sx.putfV dX12_readClause_71 lkp_X12_132_12 (o_253 W) rfl rfl (fun I11 e11 o11 => ?_)
      have hM11 : MR R I11 tx b n ((nx T n c) + 1) T := hM1.mv ((nx T n c) + 1) (by omega) (FA.up (by decide) e11 o11) (by rw [e11, upd_at])
      have hF11 := (hF1).tr (FA.fs (FA.up (by decide) e11 o11))
      have hf11 := Eq.trans (by rw [e11, upd_nj _ _ (by decide)] : I11 253 11 = I1 253 11) hf1
      have hd11 := Eq.trans (by rw [e11, upd_nj _ _ (by decide)] : I11 253 12 = I1 253 12) hd1
      have hk11 := lkN_or T n ((nx T n c) + 1)
      have ht11 := hM11.2.2.2.2.2.2.2.1 ((nx T n c) + 1)
      have hc11 := hM11.2.2.2.2.2.2.1
      have hn11 := hM11.2.2.2.2.2.1
      have hs11 := sgn_or T n ((nx T n c) + 1)
      refine Sx.iload_n dX12_readClause_74 rfl ?_
      refine Sx.bipush (v := (nI 115)) dX12_readClause_75 (by decide) ?_
      refine Sx.icmp_neV (t := 101) dX12_readClause_77 (by decide) (vZ (by omega)) (vN (by decide)) (fun c77 => False.elim (by omega)) (fun c77 => ?_)
      refine Sx.sub' [(2, .int (nI 1)), (1, .int (nI 115)), (0, .ref 253)] (by rw [show (iI (lkN T n (nx T n c))) = nI 115 from eZN (by omega)]; rfl) ?_
      refine Sx.aload_n dX12_readClause_80 rfl ?_
      refine Sx.iconst (v := (nI 1)) dX12_readClause_81 (by decide) ?_
      refine Sx.putfV dX12_readClause_82 lkp_X12_252_12 (o_253 W) rfl rfl (fun I12 e12 o12 => ?_)
      have hF12 := (hF11).tr (FS.fld (show ¬ fsJ 31 by unfold fsJ; omega) e12 o12)
      have hf12 := Eq.trans (by rw [e12, upd_nj _ _ (by decide)] : I12 253 11 = I11 253 11) hf11
      have hM12 := hM11.fld (by decide) e12 o12
      have hd12 := Eq.trans (by rw [e12, upd_nj _ _ (by decide)] : I12 253 12 = I11 253 12) hd11
      refine Sx.aload_n dX12_readClause_85 rfl ?_
      refine Sx.iload_n dX12_readClause_86 rfl ?_
      refine Sx.aload_n dX12_readClause_87 rfl ?_
      refine Sx.getfR dX12_readClause_88 lkf_X12_40_12 (o_253 W) (r_253_19 W) ?_
      refine Sx.iconst (v := (nI 0)) dX12_readClause_91 (by decide) ?_
      refine Sx.ldcwS (k := 2) dX12_readClause_92 rfl (by decide) rfl ?_
      refine Sx.callV4 dX12_readClause_95 lkv_X12_263 (rcv_12 (o_253 W)) (by decide) (by decide) (Nat.le_of_ble_eq_true rfl) rfl rfl (k_items115 W hM12 hf12 hd12 (by decide) (a_259 W) (by omega) (by decide) (fun x13 I13 g13 f13 z13 => ?_) (fun x13 I13 g13 hM13 f13 d13 w13 z13 => ?_))
      · skip
        have hF13 := (hF12).tr (FB.fs2 g13 (by decide))
        refine Sx.goto (t := 170) dX12_readClause_98 (by decide) ?_
        refine Sx.vret dX12_readClause_170 rfl ?_
        rw [clR, if_pos (show sgn T n (nx T n c) = 115 ∧ Q 33 = 0 by omega)] at hR
        subst hR
        exact hno x13 I13 hF13 f13
      · skip
        have hF13 := (hF12).tr (FB.fs2 g13 (by decide))
        refine Sx.goto (t := 170) dX12_readClause_98 (by decide) ?_
        refine Sx.vret dX12_readClause_170 rfl ?_
        rw [clR, if_pos (show sgn T n (nx T n c) = 115 ∧ Q 33 = 0 by omega)] at hR
        subst hR
        refine hyes x13 I13 hF13 hM13 f13 d13 ?_
        exact hQ.s (by rw [g13.2 31 (by decide), e12, upd_at]) (by rw [g13.2 28 (by decide), e12, upd_nj _ _ (by decide), e11, upd_nj _ _ (by decide), g1.2 28 (by decide)]) (by rw [g13.2 29 (by decide), e12, upd_nj _ _ (by decide), e11, upd_nj _ _ (by decide), g1.2 29 (by decide)]) (fun z hz => by have q := w13 z hz; rw [Nat.zero_add] at q; exact q) (by rw [g13.1 261 (by decide), o12 261 (by decide), o11 261 (by decide), g1.1 261 (by decide)]) (by rw [g13.1 263 (by decide), o12 263 (by decide), o11 263 (by decide), g1.1 263 (by decide)])
    · refine Sx.iload_n dX12_readClause_18 rfl ?_
      refine Sx.bipush (v := (nI 107)) dX12_readClause_19 (by decide) ?_
      refine Sx.icmp_neV (t := 33) dX12_readClause_21 (by decide) (vZ (by omega)) (vN (by decide)) (fun c21 => ?_) (fun c21 => False.elim (by omega))
      refine Sx.iload_n dX12_readClause_33 rfl ?_
      refine Sx.bipush (v := (nI 112)) dX12_readClause_34 (by decide) ?_
      refine Sx.icmp_neV (t := 52) dX12_readClause_36 (by decide) (vZ (by omega)) (vN (by decide)) (fun c36 => ?_) (fun c36 => False.elim (by omega))
      refine Sx.iconst (v := (nI 0)) dX12_readClause_52 (by decide) ?_
      refine Sx.istore_n (lv' := [(2, .int (nI 0)), (1, .int (iI (lkN T n (nx T n c)))), (0, .ref 253)]) dX12_readClause_53 (by decide) rfl ?_
      refine Sx.iload_n dX12_readClause_54 rfl ?_
      refine Sx.if_neV (t := 64) dX12_readClause_55 (by decide) (vN (by decide)) (fun c55 => False.elim (by omega)) (fun c55 => ?_)
      refine Sx.aload_n dX12_readClause_58 rfl ?_
      refine Sx.callV0 dX12_readClause_59 lkv_X12_147 (rcv_12 (o_253 W)) (by decide) (by decide) (Nat.le_of_ble_eq_true rfl) rfl rfl (k_fails W hM1 hf1 (fun I14 g14 f14 d14 a14 => ?_))
      have hF14 := (hF1).tr (FA.fs g14)
      refine Sx.pop dX12_readClause_62 rfl ?_
      refine Sx.vret dX12_readClause_63 rfl ?_
      rw [clR, if_neg (by omega), if_neg (by omega), if_neg (by omega)] at hR
      subst hR
      exact hno rfl I14 hF14 f14
