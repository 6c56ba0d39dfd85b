/-! what a seaport that is read holds -/
def QB (Q : Nat → Nat) : Prop := (2 ≤ Q 0 ∧ Q 0 ≤ 30 ∧ Q 1 ≤ 99 ∧ Q 2 ≤ 9) ∧ ∀ k, k < 6 → Q (3 + k) ≤ 9 ∧ Q (9 + k) ≤ 30 ∧ Q (15 + k) < 6 ∧ Q (21 + k) ≤ 9 ∧ Q (27 + k) ≤ 1
def IB (kc : Nat) (f : Nat → Nat) : Prop := ∀ w, w < 3 → loN kc w ≤ f w ∧ f w ≤ mostN kc w
theorem IB.us {kc : Nat} (h : kcO kc) : IB kc (usualN kc) := by
  have e : ∀ w, w < 3 → (loN 115 w ≤ usualN 115 w ∧ usualN 115 w ≤ mostN 115 w) ∧ (loN 107 w ≤ usualN 107 w ∧ usualN 107 w ≤ mostN 107 w) ∧ (loN 112 w ≤ usualN 112 w ∧ usualN 112 w ≤ mostN 112 w) := by decide
  intro w hw
  have := e w hw
  rcases h with h | h | h <;> subst h
  · exact this.1
  · exact this.2.1
  · exact this.2.2
theorem itR_I {T : Nat → Nat} {n kc : Nat} : ∀ q met c f, IB kc f → IB kc (itR T n kc q met c f).2.2
  | 0, met, c, f, h => by unfold itR; exact h
  | q + 1, met, c, f, h => by
    unfold itR
    split
    · exact h
    · split
      · exact h
      · split
        · next g =>
          refine itR_I q _ _ _ (fun w hw => ?_)
          unfold upn
          split
          · next e =>
            subst e
            unfold rdR at g
            simp only [Bool.and_eq_true, decide_eq_true_eq] at g
            exact g.2
          · exact h w hw
        · exact h
theorem QB.up {Q : Nat → Nat} (h : QB Q) {k x : Nat} (hk : 33 ≤ k) : QB (upn Q k x) := by
  have e : ∀ z, z < 33 → upn Q k x z = Q z := fun z hz => upn_ne _ _ (by omega)
  refine ⟨by rw [e 0 (by decide), e 1 (by decide), e 2 (by decide)]; exact h.1, fun j hj => ?_⟩
  rw [e _ (by omega), e _ (by omega), e _ (by omega), e _ (by omega), e _ (by omega)]
  exact h.2 j hj
theorem QB.put {Q f : Nat → Nat} {kc x : Nat} (h : QB Q) (hk : kcO kc) (hf : IB kc f) (hx : x < 6) : QB (putQ kc x Q f) := by
  obtain ⟨⟨q1, q2, q3, q4⟩, q5⟩ := h
  have f0 := hf 0 (by decide)
  have f1 := hf 1 (by decide)
  have f2 := hf 2 (by decide)
  rcases hk with e | e | e <;> subst e
  · have c0 : loN 115 0 = 2 ∧ mostN 115 0 = 30 ∧ mostN 115 1 = 99 ∧ mostN 115 2 = 9 := by decide
    refine ⟨⟨?_, ?_, ?_, ?_⟩, fun j hj => ?_⟩
    · show 2 ≤ f 0; omega
    · show f 0 ≤ 30; omega
    · show f 1 ≤ 99; omega
    · show f 2 ≤ 9; omega
    · unfold putQ
      rw [if_pos rfl, if_pos rfl, if_pos rfl, if_pos rfl, if_pos rfl, if_neg (by omega), if_neg (by omega), if_neg (by omega), if_neg (by omega), if_neg (by omega)]
      exact q5 j hj
  · have c0 : mostN 107 0 = 9 ∧ mostN 107 1 = 30 := by decide
    have z : ∀ p, ¬ (p = 3 + x) → ¬ (p = 9 + x) → putQ 107 x Q f p = Q p := fun p h1 h2 => by unfold putQ; rw [if_neg (by decide), if_pos rfl, if_neg h1, if_neg h2]
    have z1 : putQ 107 x Q f (3 + x) = f 0 := by unfold putQ; rw [if_neg (by decide), if_pos rfl, if_pos rfl]
    have z2 : putQ 107 x Q f (9 + x) = f 1 := by unfold putQ; rw [if_neg (by decide), if_pos rfl, if_neg (by omega), if_pos rfl]
    refine ⟨by rw [z 0 (by omega) (by omega), z 1 (by omega) (by omega), z 2 (by omega) (by omega)]; exact ⟨q1, q2, q3, q4⟩, fun j hj => ?_⟩
    rw [z (15 + j) (by omega) (by omega), z (21 + j) (by omega) (by omega), z (27 + j) (by omega) (by omega)]
    have := q5 j hj
    by_cases c : j = x
    · subst c; rw [z1, z2]; omega
    · rw [z (3 + j) (by omega) (by omega), z (9 + j) (by omega) (by omega)]; exact this
  · have c0 : mostN 112 0 = 5 ∧ mostN 112 1 = 9 ∧ mostN 112 2 = 1 := by decide
    have z : ∀ p, ¬ (p = 15 + x) → ¬ (p = 21 + x) → ¬ (p = 27 + x) → putQ 112 x Q f p = Q p := fun p h1 h2 h3 => by unfold putQ; rw [if_neg (by decide), if_neg (by decide), if_neg h1, if_neg h2, if_neg h3]
    have z1 : putQ 112 x Q f (15 + x) = f 0 := by unfold putQ; rw [if_neg (by decide), if_neg (by decide), if_pos rfl]
    have z2 : putQ 112 x Q f (21 + x) = f 1 := by unfold putQ; rw [if_neg (by decide), if_neg (by decide), if_neg (by omega), if_pos rfl]
    have z3 : putQ 112 x Q f (27 + x) = f 2 := by unfold putQ; rw [if_neg (by decide), if_neg (by decide), if_neg (by omega), if_neg (by omega), if_pos rfl]
    refine ⟨by rw [z 0 (by omega) (by omega) (by omega), z 1 (by omega) (by omega) (by omega), z 2 (by omega) (by omega) (by omega)]; exact ⟨q1, q2, q3, q4⟩, fun j hj => ?_⟩
    rw [z (3 + j) (by omega) (by omega) (by omega), z (9 + j) (by omega) (by omega) (by omega)]
    have := q5 j hj
    by_cases c : j = x
    · subst c; rw [z1, z2, z3]; omega
    · rw [z (15 + j) (by omega) (by omega) (by omega), z (21 + j) (by omega) (by omega) (by omega), z (27 + j) (by omega) (by omega) (by omega)]; exact this
theorem clR_Q {T : Nat → Nat} {n c : Nat} {Q : Nat → Nat} (h : QB Q) (hC : CB Q) : QB (clR T n c Q).2.2 := by
  have k1 : kcO 115 := Or.inl rfl
  have k2 : kcO 107 := Or.inr (Or.inl rfl)
  have k3 : kcO 112 := Or.inr (Or.inr rfl)
  unfold clR
  split
  · exact (h.up (by decide)).put (x := 0) k1 (itR_I _ _ _ _ (IB.us k1)) (by decide)
  · split
    · next g => exact (h.up (by decide)).put k2 (itR_I _ _ _ _ (IB.us k2)) g.2
    · split
      · next g => exact (h.up (by decide)).put k3 (itR_I _ _ _ _ (IB.us k3)) g.2
      · exact h
theorem usQ_Q : QB usQ := by
  refine ⟨by decide, ?_⟩
  decide
theorem ptR_ok {T : Nat → Nat} {n : Nat} : ∀ k c Q, QB Q → CB Q → UQ Q → (ptR T n k c Q).1 = true → QB (ptR T n k c Q).2.2 ∧ CB (ptR T n k c Q).2.2 ∧ UQ (ptR T n k c Q).2.2 ∧ whQ (ptR T n k c Q).2.2 = true
  | 0, c, Q, h, hC, hU, hr => by cases hr
  | k + 1, c, Q, h, hC, hU, hr => by
    unfold ptR at hr ⊢
    by_cases g : (clR T n c Q).1 = true
    · rw [if_pos g] at hr ⊢
      have a1 := clR_Q (T := T) (n := n) (c := c) h hC
      have a2 := (clR_c hC g).1
      have a3 := clR_U hU g
      by_cases s0 : sgn T n (nx T n (clR T n c Q).2.1) = 0
      · rw [if_pos s0] at hr ⊢; exact ⟨a1, a2, a3, hr⟩
      · rw [if_neg s0] at hr ⊢
        by_cases s1 : sgn T n (nx T n (clR T n c Q).2.1) = 59
        · rw [if_pos s1] at hr ⊢; exact ptR_ok k _ _ a1 a2 a3 hr
        · rw [if_neg s1] at hr; cases hr
    · rw [if_neg g] at hr; cases hr
theorem whL_i {Q : Nat → Nat} : ∀ m, whL Q m = true → ∀ j, j < m → Q (15 + j) < Q 34
  | 0, _, j, hj => by omega
  | m + 1, h, j, hj => by
    unfold whL at h
    simp only [Bool.and_eq_true, decide_eq_true_eq] at h
    by_cases c : j = m
    · rw [c]; exact h.2
    · exact whL_i m h.1 j (by omega)
theorem po_ok {V : Vt} (h : (ptR (V 1) (V 0 0) 14 0 usQ).1 = true) : PB (ptR (V 1) (V 0 0) 14 0 usQ).2.2 ∧ PX (ptR (V 1) (V 0 0) 14 0 usQ).2.2 ∧ PK (ptR (V 1) (V 0 0) 14 0 usQ).2.2 := by
  obtain ⟨q1, q2, q3, q4⟩ := ptR_ok 14 0 usQ usQ_Q (by unfold CB; decide) usQ_U h
  generalize (ptR (V 1) (V 0 0) 14 0 usQ).2.2 = Q at q1 q2 q3 q4
  unfold whQ at q4
  simp only [Bool.and_eq_true, decide_eq_true_eq] at q4
  obtain ⟨q5, q6, q7⟩ := q4
  refine ⟨⟨q1.1.1, q1.1.2.1, q1.1.2.2.1, q1.1.2.2.2, q6, q2.2.1, q7, q2.2.2, q1.2⟩, fun p h1 h2 => ⟨(q3.2.2 p h1 h2).1, (q3.2.2 p h1 h2).2.2⟩, fun p hp => ?_⟩
  by_cases c : p < Q 35
  · exact whL_i _ q5 p c
  · rw [(q3.2.2 p (by omega) hp).1]; omega
set_option maxRecDepth 20000 in
set_option maxHeartbeats 1000000 in
theorem l_tx223 {G : Gt} {l : Launch} {Z : Zt} {R : Rt} {L : Lt} {post : Pt'} {I0 : It} (W : WF Z R) (h : ∀ I', (∀ z, z < 3 → I' 258 z = I0 259 z) → (∀ q, q ≠ 258 → I' q = I0 q) → Sx G l mX12_text 34 0 0 246 [(0, .ref 253), (1, .int (nI 0))] [] Z R I' L post) :
    ∀ (k j : Nat), j ≤ 3 → 3 < j + k → ∀ (I : It), (∀ z, z < j → I 258 z = I0 259 z) → (∀ q, q ≠ 258 → I q = I0 q) → Sx G l mX12_text 34 0 0 223 [(3, .int (nI j)), (0, .ref 253), (1, .int (nI 0))] [] Z R I L post := by
  intro k
  induction k with
  | zero => intro j h1 h2; omega
  | succ k ih =>
    intro j h1 h2 I hc hI
    refine Sx.iload_n dX12_text_223 rfl ?_
    refine Sx.iconst (v := (nI 3)) dX12_text_224 (by decide) ?_
    refine Sx.icmp_geV (t := 246) dX12_text_225 (by decide) (vN (by omega)) (vN (by decide)) (fun c225 => ?_) (fun c225 => ?_)
    · have hj : j = 3 := by omega
      subst hj
      refine Sx.sub' [(0, .ref 253), (1, .int (nI 0))] rfl ?_
      exact h I hc hI
    · refine Sx.aload_n dX12_text_228 rfl ?_
      refine Sx.getfR dX12_text_229 lkf_X12_37_12 (o_253 W) (r_253_18 W) ?_
      refine Sx.iload_n dX12_text_232 rfl ?_
      refine Sx.aload_n dX12_text_233 rfl ?_
      refine Sx.getfR dX12_text_234 lkf_X12_40_12 (o_253 W) (r_253_19 W) ?_
      refine Sx.iload_n dX12_text_237 rfl ?_
      refine Sx.ialdN dX12_text_238 (a_259 W) (by omega) (by decide) (v := (I0 259 j)) (by rw [hI 259 (by decide)]) ?_
      refine Sx.iastN dX12_text_239 (a_258 W) (by omega) (by decide) (fun I1 e1 o1 => ?_)
      refine Sx.iinc (v := (nI (j + 1))) (lv' := [(3, .int (nI (j + 1))), (0, .ref 253), (1, .int (nI 0))]) dX12_text_240 rfl (nI_add j 1) (by decide) rfl ?_
      refine Sx.goto (t := 223) dX12_text_243 (by decide) ?_
      refine Sx.sub' [(3, .int (nI (j + 1))), (0, .ref 253), (1, .int (nI 0))] rfl ?_
      refine ih (j + 1) (by omega) (by omega) I1 (fun z hz => ?_) (fun q hq => (o1 q hq).trans (hI q hq))
      rw [e1]
      by_cases c : z = j
      · rw [c, upd_at]
      · rw [upd_nj _ _ (by omega)]; exact hc z (by omega)
set_option maxRecDepth 20000 in
set_option maxHeartbeats 1000000 in
theorem l_tx248 {G : Gt} {l : Launch} {Z : Zt} {R : Rt} {L : Lt} {post : Pt'} {I0 : It} (W : WF Z R) (h : ∀ I', (∀ z, z < 12 → I' 260 z = I0 261 z) → (∀ q, q ≠ 260 → I' q = I0 q) → Sx G l mX12_text 34 0 0 272 [(0, .ref 253), (1, .int (nI 0))] [] Z R I' L post) :
    ∀ (k j : Nat), j ≤ 12 → 12 < j + k → ∀ (I : It), (∀ z, z < j → I 260 z = I0 261 z) → (∀ q, q ≠ 260 → I q = I0 q) → Sx G l mX12_text 34 0 0 248 [(3, .int (nI j)), (0, .ref 253), (1, .int (nI 0))] [] Z R I L post := by
  intro k
  induction k with
  | zero => intro j h1 h2; omega
  | succ k ih =>
    intro j h1 h2 I hc hI
    refine Sx.iload_n dX12_text_248 rfl ?_
    refine Sx.bipush (v := (nI 12)) dX12_text_249 (by decide) ?_
    refine Sx.icmp_geV (t := 272) dX12_text_251 (by decide) (vN (by omega)) (vN (by decide)) (fun c251 => ?_) (fun c251 => ?_)
    · have hj : j = 12 := by omega
      subst hj
      refine Sx.sub' [(0, .ref 253), (1, .int (nI 0))] rfl ?_
      exact h I hc hI
    · refine Sx.aload_n dX12_text_254 rfl ?_
      refine Sx.getfR dX12_text_255 lkf_X12_43_12 (o_253 W) (r_253_20 W) ?_
      refine Sx.iload_n dX12_text_258 rfl ?_
      refine Sx.aload_n dX12_text_259 rfl ?_
      refine Sx.getfR dX12_text_260 lkf_X12_46_12 (o_253 W) (r_253_21 W) ?_
      refine Sx.iload_n dX12_text_263 rfl ?_
      refine Sx.ialdN dX12_text_264 (a_261 W) (by omega) (by decide) (v := (I0 261 j)) (by rw [hI 261 (by decide)]) ?_
      refine Sx.iastN dX12_text_265 (a_260 W) (by omega) (by decide) (fun I1 e1 o1 => ?_)
      refine Sx.iinc (v := (nI (j + 1))) (lv' := [(3, .int (nI (j + 1))), (0, .ref 253), (1, .int (nI 0))]) dX12_text_266 rfl (nI_add j 1) (by decide) rfl ?_
      refine Sx.goto (t := 248) dX12_text_269 (by decide) ?_
      refine Sx.sub' [(3, .int (nI (j + 1))), (0, .ref 253), (1, .int (nI 0))] rfl ?_
      refine ih (j + 1) (by omega) (by omega) I1 (fun z hz => ?_) (fun q hq => (o1 q hq).trans (hI q hq))
      rw [e1]
      by_cases c : z = j
      · rw [c, upd_at]
      · rw [upd_nj _ _ (by omega)]; exact hc z (by omega)
set_option maxRecDepth 20000 in
set_option maxHeartbeats 1000000 in
theorem l_tx274 {G : Gt} {l : Launch} {Z : Zt} {R : Rt} {L : Lt} {post : Pt'} {I0 : It} (W : WF Z R) (h : ∀ I', (∀ z, z < 18 → I' 262 z = I0 263 z) → (∀ q, q ≠ 262 → I' q = I0 q) → Sx G l mX12_text 34 0 0 298 [(0, .ref 253), (1, .int (nI 0))] [] Z R I' L post) :
    ∀ (k j : Nat), j ≤ 18 → 18 < j + k → ∀ (I : It), (∀ z, z < j → I 262 z = I0 263 z) → (∀ q, q ≠ 262 → I q = I0 q) → Sx G l mX12_text 34 0 0 274 [(3, .int (nI j)), (0, .ref 253), (1, .int (nI 0))] [] Z R I L post := by
  intro k
  induction k with
  | zero => intro j h1 h2; omega
  | succ k ih =>
    intro j h1 h2 I hc hI
    refine Sx.iload_n dX12_text_274 rfl ?_
    refine Sx.bipush (v := (nI 18)) dX12_text_275 (by decide) ?_
    refine Sx.icmp_geV (t := 298) dX12_text_277 (by decide) (vN (by omega)) (vN (by decide)) (fun c277 => ?_) (fun c277 => ?_)
    · have hj : j = 18 := by omega
      subst hj
      refine Sx.sub' [(0, .ref 253), (1, .int (nI 0))] rfl ?_
      exact h I hc hI
    · refine Sx.aload_n dX12_text_280 rfl ?_
      refine Sx.getfR dX12_text_281 lkf_X12_49_12 (o_253 W) (r_253_22 W) ?_
      refine Sx.iload_n dX12_text_284 rfl ?_
      refine Sx.aload_n dX12_text_285 rfl ?_
      refine Sx.getfR dX12_text_286 lkf_X12_52_12 (o_253 W) (r_253_23 W) ?_
      refine Sx.iload_n dX12_text_289 rfl ?_
      refine Sx.ialdN dX12_text_290 (a_263 W) (by omega) (by decide) (v := (I0 263 j)) (by rw [hI 263 (by decide)]) ?_
      refine Sx.iastN dX12_text_291 (a_262 W) (by omega) (by decide) (fun I1 e1 o1 => ?_)
      refine Sx.iinc (v := (nI (j + 1))) (lv' := [(3, .int (nI (j + 1))), (0, .ref 253), (1, .int (nI 0))]) dX12_text_292 rfl (nI_add j 1) (by decide) rfl ?_
      refine Sx.goto (t := 274) dX12_text_295 (by decide) ?_
      refine Sx.sub' [(3, .int (nI (j + 1))), (0, .ref 253), (1, .int (nI 0))] rfl ?_
      refine ih (j + 1) (by omega) (by omega) I1 (fun z hz => ?_) (fun q hq => (o1 q hq).trans (hI q hq))
      rw [e1]
      by_cases c : z = j
      · rw [c, upd_at]
      · rw [upd_nj _ _ (by omega)]; exact hc z (by omega)
set_option maxRecDepth 20000 in
set_option maxHeartbeats 1000000 in
theorem k_text0 {G : Gt} {l : Launch} {Z : Zt} {R : Rt} {I : It} {L : Lt} {post : Pt'} {V : Vt} {N : Nat} (W : WF Z R) (hM : MI V I L) (hG : GV N V) (hN : N < 2147483647) (h : ∀ I' R' L', MI (texV V (nI 0)) I' L' → FM R I L R' I' L' → post (some (.int (texR V (nI 0)))) Z R' I' L') : Cx G l mX12_text 34 0 0 [.ref 253, .int (nI 0)] Z R I L post := by
  refine Cx.of (by decide +kernel) (by exact Nat.le_of_ble_eq_true rfl) ?_
  refine Sx.aload_n dX12_text_0 rfl ?_
  refine Sx.iconst (v := (nI 0)) dX12_text_1 (by decide) ?_
  refine Sx.putfV dX12_text_2 lkp_X12_109_12 (o_253 W) rfl rfl (fun I1 e1 o1 => ?_)
  have M1 := hM.th (j := 0) (by unfold sfJ; decide) e1 o1
  have hf1 : FM R I L R I1 L := FM.i fun q hq => o1 q (by omega)
  have hp6 := hG.p
  have hb := hG.b
  refine Sx.iload_n dX12_text_5 rfl ?_
  refine Sx.i2l dX12_text_6 ?_
  refine Sx.lconst (v := 0) dX12_text_7 (by decide) ?_
  refine Sx.ldc2 dX12_text_8 lkk_X12_285 ?_
  refine Sx.callS3 dX12_text_11 lkc_X12_230  (by decide) (by decide) (Nat.le_of_ble_eq_true rfl) rfl rfl (k_isIn (vLi (vN (by decide))) (show VL 0 0 from rfl) (show VL 2 2 from rfl) ?_)
  refine Sx.if_eqD (t := 52) dX12_text_14 (by decide) (fun c14 => False.elim (by omega)) (fun c14 => ?_)
  refine Sx.iload_n dX12_text_17 rfl ?_
  refine Sx.iconst (v := (nI 1)) dX12_text_18 (by decide) ?_
  refine Sx.icmp_neV (t := 30) dX12_text_19 (by decide) (vN (by decide)) (vN (by decide)) (fun c19 => ?_) (fun c19 => False.elim (by omega))
  refine Sx.iload_n dX12_text_30 rfl ?_
  refine Sx.iconst (v := (nI 2)) dX12_text_31 (by decide) ?_
  refine Sx.icmp_neV (t := 43) dX12_text_32 (by decide) (vN (by decide)) (vN (by decide)) (fun c32 => ?_) (fun c32 => False.elim (by omega))
  refine Sx.aload_n dX12_text_43 rfl ?_
  refine Sx.iload_n dX12_text_44 rfl ?_
  refine Sx.callV1 dX12_text_45 lkv_X12_302 (rcv_12 (o_253 W)) (by decide) (by decide) (Nat.le_of_ble_eq_true rfl) rfl rfl (k_fault0 W M1 hG hN (fun I30 R30 M30 f30 x30 => ?_))
  have W := f30.wf W
  have hf30 := hf1.tr f30
  refine Sx.iconst (v := (iI (-1))) dX12_text_48 (by decide) ?_
  refine Sx.icmp_eqV (t := 54) dX12_text_49 (by decide) (vX (fauN V 0)) (vZ (by decide)) (fun c49 => ?_) (fun c49 => ?_)
  · have hokP := (fau_y hG.1.1).mp c49
    have hok : (ptR (V 1) (V 0 0) 14 0 usQ).1 = true := hokP
    obtain ⟨r1, r2, r3, r4, r5, r6, r7⟩ := (x30 hokP).1 rfl
    obtain ⟨hPB, hPX, hPK⟩ := po_ok hok
    have pb6 := r4.2.symm
    refine Sx.aload_n dX12_text_54 rfl ?_
    refine Sx.getfV (v := (nI (V 0 0))) dX12_text_55 lkf_X12_122_12 (o_253 W) M30.1.1.1 ?_
    refine Sx.istore_n (lv' := [(2, .int (nI (V 0 0))), (0, .ref 253), (1, .int (nI 0))]) dX12_text_58 (by decide) rfl ?_
    refine Sx.aload_n dX12_text_59 rfl ?_
    refine Sx.iconst (v := (nI 0)) dX12_text_60 (by decide) ?_
    refine Sx.putfV dX12_text_61 lkp_X12_122_12 (o_253 W) rfl rfl (fun I31 e31 o31 => ?_)
    refine Sx.iload_n dX12_text_64 rfl ?_
    refine Sx.iconst (v := (nI 1)) dX12_text_65 (by decide) ?_
    refine Sx.icmp_neV (t := 130) dX12_text_66 (by decide) (vN (by decide)) (vN (by decide)) (fun c66 => ?_) (fun c66 => False.elim (by omega))
    refine Sx.iload_n dX12_text_130 rfl ?_
    refine Sx.iconst (v := (nI 2)) dX12_text_131 (by decide) ?_
    refine Sx.icmp_neV (t := 205) dX12_text_132 (by decide) (vN (by decide)) (vN (by decide)) (fun c132 => ?_) (fun c132 => False.elim (by omega))
    refine Sx.aload_n dX12_text_205 rfl ?_
    refine Sx.aload_n dX12_text_206 rfl ?_
    refine Sx.getfV (v := (nI ((ptR (V 1) (V 0 0) 14 0 usQ).2.2 34))) dX12_text_207 lkf_X12_255_12 (o_253 W) (by rw [e31, upd_nj _ _ (by decide)]; exact r2) ?_
    refine Sx.putfV dX12_text_210 lkp_X12_304_12 (o_253 W) rfl rfl (fun I32 e32 o32 => ?_)
    refine Sx.aload_n dX12_text_213 rfl ?_
    refine Sx.aload_n dX12_text_214 rfl ?_
    refine Sx.getfV (v := (nI ((ptR (V 1) (V 0 0) 14 0 usQ).2.2 35))) dX12_text_215 lkf_X12_258_12 (o_253 W) (by rw [e32, upd_nj _ _ (by decide), e31, upd_nj _ _ (by decide)]; exact r3) ?_
    refine Sx.putfV dX12_text_218 lkp_X12_307_12 (o_253 W) rfl rfl (fun I33 e33 o33 => ?_)
    refine Sx.iconst (v := (nI 0)) dX12_text_221 (by decide) ?_
    refine Sx.istore_n (lv' := [(3, .int (nI 0)), (2, .int (nI (V 0 0))), (0, .ref 253), (1, .int (nI 0))]) dX12_text_222 (by decide) rfl ?_
    have oo : ∀ q, q ≠ 253 → I33 q = I30 q := fun q hq => by rw [o33 q hq, o32 q hq, o31 q hq]
    refine Sx.sub' [(3, .int (nI 0)), (0, .ref 253), (1, .int (nI 0))] rfl ?_
    refine l_tx223 (I0 := I33) W (fun K1 a1 a2 => ?_) 4 0 (by decide) (by decide) I33 (fun z hz => by omega) (fun _ _ => rfl)
    refine Sx.iconst (v := (nI 0)) dX12_text_246 (by decide) ?_
    refine Sx.istore_n (lv' := [(3, .int (nI 0)), (0, .ref 253), (1, .int (nI 0))]) dX12_text_247 (by decide) rfl ?_
    refine Sx.sub' [(3, .int (nI 0)), (0, .ref 253), (1, .int (nI 0))] rfl ?_
    refine l_tx248 (I0 := K1) W (fun K2 b1 b2 => ?_) 13 0 (by decide) (by decide) K1 (fun z hz => by omega) (fun _ _ => rfl)
    refine Sx.iconst (v := (nI 0)) dX12_text_272 (by decide) ?_
    refine Sx.istore_n (lv' := [(3, .int (nI 0)), (0, .ref 253), (1, .int (nI 0))]) dX12_text_273 (by decide) rfl ?_
    refine Sx.sub' [(3, .int (nI 0)), (0, .ref 253), (1, .int (nI 0))] rfl ?_
    refine l_tx274 (I0 := K2) W (fun K3 c1 c2 => ?_) 19 0 (by decide) (by decide) K2 (fun z hz => by omega) (fun _ _ => rfl)
    refine Sx.aload_n dX12_text_298 rfl ?_
    refine Sx.aload_n dX12_text_299 rfl ?_
    refine Sx.getfR dX12_text_300 lkf_X12_61_12 (o_253 W) (r_253_32 W) ?_
    refine Sx.callV1 dX12_text_303 lkv_X12_310 (rcv_12 (o_253 W)) (by decide) (by decide) (Nat.le_of_ble_eq_true rfl) rfl rfl (k_lays (P := (ptR (V 1) (V 0 0) 14 0 usQ).2.2) (w := 266) (N := 417) W (a_266 W) (by decide) (Or.inl rfl) (by rw [c2 253 (by decide), b2 253 (by decide), a2 253 (by decide)]; rw [e33, upd_at]) ⟨fun z hz => by rw [c2 258 (by decide), b2 258 (by decide), a1 z hz, oo 259 (by decide)]; exact r5 z hz, fun k w hk hw => by have := pb6.2; rw [c2 260 (by decide), b1 _ (by omega), a2 261 (by decide), oo 261 (by decide)]; exact r6 k w hk hw, fun p w hp hw => by have := pb6.1; rw [c1 _ (by omega), b2 263 (by decide), a2 263 (by decide), oo 263 (by decide)]; exact r7 p w hp hw⟩ pb6.1 hPX (fun k hk => (hPB.2.2.2.2.2.2.2.2 k hk).2.2.2.2) (fun J jF jz jo => ?_))
    refine Sx.aload_n dX12_text_306 rfl ?_
    refine Sx.iconst (v := (nI 0)) dX12_text_307 (by decide) ?_
    refine Sx.putfV dX12_text_308 lkp_X12_314_12 (o_253 W) rfl rfl (fun I51 e51 o51 => ?_)
    refine Sx.aload_n dX12_text_311 rfl ?_
    refine Sx.iconst (v := (nI 0)) dX12_text_312 (by decide) ?_
    refine Sx.putfV dX12_text_313 lkp_X12_317_12 (o_253 W) rfl rfl (fun I52 e52 o52 => ?_)
    refine Sx.aload_n dX12_text_316 rfl ?_
    refine Sx.iconst (v := (nI 0)) dX12_text_317 (by decide) ?_
    refine Sx.putfV dX12_text_318 lkp_X12_320_12 (o_253 W) rfl rfl (fun I53 e53 o53 => ?_)
    refine Sx.aload_n dX12_text_321 rfl ?_
    refine Sx.getfV (v := (nI ((ptR (V 1) (V 0 0) 14 0 usQ).2.2 35))) dX12_text_322 lkf_X12_307_12 (o_253 W) (by rw [e53, upd_nj _ _ (by decide), e52, upd_nj _ _ (by decide), e51, upd_nj _ _ (by decide), jo 253 (by decide), c2 253 (by decide), b2 253 (by decide), a2 253 (by decide), e33, upd_at]) ?_
    refine Sx.iret dX12_text_325 rfl rfl ?_
    have off : ∀ q, q ≠ 253 → I53 q = J q := fun q hq => by rw [o53 q hq, o52 q hq, o51 q hq]
    have fj : ∀ j, j ≠ 45 → j ≠ 41 → j ≠ 51 → I53 253 j = I33 253 j := fun j h1 h2 h3 => by rw [e53, upd_nj _ _ h3, e52, upd_nj _ _ h2, e51, upd_nj _ _ h1, jo 253 (by decide), c2 253 (by decide), b2 253 (by decide), a2 253 (by decide)]
    have mm : MI (poV V (ptR (V 1) (V 0 0) 14 0 usQ).2.2) I53 L := by
      refine M30.po (I' := I53) ⟨hG.2.1.1, hG.2.2.1.1⟩ (fun j hj => ?_) ?_ ?_ (fun j hj => ?_) ?_ ⟨?_, ?_⟩ (fun q q1 q2 q3 q4 q5 => ?_)
      · rcases hj with q | q | q | q <;> subst q
        · rw [fj 6 (by decide) (by decide) (by decide), e33, upd_nj _ _ (by decide), e32, upd_nj _ _ (by decide), e31, upd_at]
        · rw [e53, upd_nj _ _ (by decide), e52, upd_at]
        · rw [e53, upd_nj _ _ (by decide), e52, upd_nj _ _ (by decide), e51, upd_at]
        · rw [e53, upd_at]
      · rw [fj 26 (by decide) (by decide) (by decide), e33, upd_nj _ _ (by decide), e32, upd_at]
      · rw [fj 27 (by decide) (by decide) (by decide), e33, upd_at]
      · rw [fj j (by omega) (by omega) (by omega), e33, upd_nj _ _ (by omega), e32, upd_nj _ _ (by omega), e31, upd_nj _ _ (by omega)]
      · rw [off 258 (by decide), off 260 (by decide), off 262 (by decide), jo 258 (by decide), jo 260 (by decide), jo 262 (by decide)]
        exact ⟨fun z hz => by rw [c2 258 (by decide), b2 258 (by decide), a1 z hz, oo 259 (by decide)]; exact r5 z hz, fun k w hk hw => by have := pb6.2; rw [c2 260 (by decide), b1 _ (by omega), a2 261 (by decide), oo 261 (by decide)]; exact r6 k w hk hw, fun p w hp hw => by have := pb6.1; rw [c1 _ (by omega), b2 263 (by decide), a2 263 (by decide), oo 263 (by decide)]; exact r7 p w hp hw⟩
      · rw [off 266 (by decide)]; exact jF
      · rw [off 266 (by decide)]
        exact ⟨by rw [jz 236 (by decide) (by decide)]; rfl, fun i w hi _ => by rw [show begN (ptR (V 1) (V 0 0) 14 0 usQ).2.2 144 = 0 from rfl] at hi; omega⟩
      · rw [off q q1, jo q q5, c2 q q4, b2 q q3, a2 q q2, oo q q1]
    have hc : sorC (nI 0) ∧ texC V (xN (nI 0)) := ⟨sor_0, by rw [xN_n (by decide)]; exact ⟨fun z => by omega, fun z => by omega, (fau_y hG.1.1).mp c49⟩⟩
    exact pXX (by unfold texR; rw [if_pos hc, xN_n (by decide), if_pos rfl]) (h I53 R30 L (by unfold texV; rw [if_pos hc, xN_n (by decide), if_pos rfl]; exact mm) (hf30.tr (FM.i fun q hq => by rw [off q (by omega), jo q (by omega), c2 q (by omega), b2 q (by omega), a2 q (by omega), oo q (by omega)])))
  · refine Sx.iconst (v := (iI (-1))) dX12_text_52 (by decide) ?_
    refine Sx.iret dX12_text_53 rfl rfl ?_
    have hn : ¬ (sorC (nI 0) ∧ texC V (xN (nI 0))) := fun z => by obtain ⟨-, z1, z2, z3⟩ := z; rw [xN_n (by decide)] at z1 z2 z3; exact c49 ((fau_y hG.1.1).mpr z3)
    exact pXX (by unfold texR; rw [if_neg hn]; rfl) (h I30 R30 L (by unfold texV; rw [if_neg hn]; exact M30) hf30)
set_option maxRecDepth 20000 in
set_option maxHeartbeats 1000000 in
theorem k_textX {G : Gt} {l : Launch} {Z : Zt} {R : Rt} {I : It} {L : Lt} {post : Pt'} {V : Vt} {N : Nat} {x : Int32} (W : WF Z R) (hM : MI V I L) (hG : GV N V) (hN : N < 2147483647) (hn : ¬ sorC x) (h : ∀ I' R' L', MI (texV V x) I' L' → FM R I L R' I' L' → post (some (.int (texR V x))) Z R' I' L') : Cx G l mX12_text 34 0 0 [.ref 253, .int x] Z R I L post := by
  refine Cx.of (by decide +kernel) (by exact Nat.le_of_ble_eq_true rfl) ?_
  refine Sx.aload_n dX12_text_0 rfl ?_
  refine Sx.iconst (v := (nI 0)) dX12_text_1 (by decide) ?_
  refine Sx.putfV dX12_text_2 lkp_X12_109_12 (o_253 W) rfl rfl (fun I1 e1 o1 => ?_)
  have M1 := hM.th (j := 0) (by unfold sfJ; decide) e1 o1
  have hf1 : FM R I L R I1 L := FM.i fun q hq => o1 q (by omega)
  have hp6 := hG.p
  have hb := hG.b
  refine Sx.iload_n dX12_text_5 rfl ?_
  refine Sx.i2l dX12_text_6 ?_
  refine Sx.lconst (v := 0) dX12_text_7 (by decide) ?_
  refine Sx.ldc2 dX12_text_8 lkk_X12_285 ?_
  refine Sx.callS3 dX12_text_11 lkc_X12_230  (by decide) (by decide) (Nat.le_of_ble_eq_true rfl) rfl rfl (k_isIn (vLi (vX x)) (show VL 0 0 from rfl) (show VL 2 2 from rfl) ?_)
  refine Sx.if_eqD (t := 52) dX12_text_14 (by decide) (fun c14 => ?_) (fun c14 => False.elim (by exact hn ⟨c14.1, c14.2⟩))
  refine Sx.iconst (v := (iI (-1))) dX12_text_52 (by decide) ?_
  refine Sx.iret dX12_text_53 rfl rfl ?_
  have hq : ¬ (sorC x ∧ texC V (xN x)) := fun z => hn z.1
  exact pXX (by unfold texR; rw [if_neg hq]; rfl) (h I1 R L (by unfold texV; rw [if_neg hq]; exact M1) hf1)
set_option maxRecDepth 20000 in
set_option maxHeartbeats 1000000 in
theorem k_text {G : Gt} {l : Launch} {Z : Zt} {R : Rt} {I : It} {L : Lt} {post : Pt'} {V : Vt} {N : Nat} {x : Int32} (W : WF Z R) (hM : MI V I L) (hG : GV N V) (hN : N < 2147483647) (h : ∀ I' R' L', MI (texV V x) I' L' → FM R I L R' I' L' → post (some (.int (texR V x))) Z R' I' L') : Cx G l mX12_text 34 0 0 [.ref 253, .int x] Z R I L post := by
  by_cases c : sorC x
  · rcases sor_c c with e | e | e <;> subst e
    · exact k_text0 W hM hG hN h
    · exact k_text1 W hM hG hN h
    · exact k_text2 W hM hG hN h
  · exact k_textX W hM hG hN c h
