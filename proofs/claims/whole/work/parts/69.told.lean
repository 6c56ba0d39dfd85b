/-! what is told of kinds -/
set_option maxRecDepth 20000 in
set_option maxHeartbeats 1000000 in
theorem l_pty {G : Gt} {l : Launch} {Z : Zt} {R : Rt} {I : It} {L : Lt} {post : Pt'} {V : Vt} {F : Nat → Nat} {c : Nat} (W : WF Z R) (hM : MI0 V I L) (h35 : V 2 35 ≤ 6) (hF : MW (I 266) F) (hf : ∀ j, j < 6 → F j < 1000) (hc : c < 1000) (h : post (some (.int (nI (partyN F c (V 2 35))))) Z R I L) :
    ∀ (k j : Nat), j ≤ V 2 35 → V 2 35 < j + k → ∀ b, b = partyN F c j → Sx G l mX12_party 1 0 0 4 [(3, .int (nI j)), (2, .int (nI b)), (0, .ref 253), (1, .int (nI c))] [] Z R I L post := by
  intro k
  induction k with
  | zero => intro j h1 h2; omega
  | succ k ih =>
    intro j h1 h2 b hb0
    have hfj := hf j
    refine Sx.iload_n dX12_party_4 rfl ?_
    refine Sx.aload_n dX12_party_5 rfl ?_
    refine Sx.getfV (v := (nI (V 2 35))) dX12_party_6 lkf_X12_307_12 (o_253 W) hM.1.2.2.2.1 ?_
    refine Sx.icmp_geV (t := 38) dX12_party_9 (by decide) (vN (by omega)) (vN (by omega)) (fun c9 => ?_) (fun c9 => ?_)
    · refine Sx.iload_n dX12_party_38 rfl ?_
      refine Sx.iret dX12_party_39 rfl rfl ?_
      have hj : j = V 2 35 := by omega
      subst hj
      subst hb0
      exact h
    · refine Sx.iload_n dX12_party_12 rfl ?_
      refine Sx.aload_n dX12_party_13 rfl ?_
      refine Sx.getfR dX12_party_14 lkf_X12_61_12 (o_253 W) (r_253_32 W) ?_
      refine Sx.iload_n dX12_party_17 rfl ?_
      refine Sx.ialdN dX12_party_18 (a_266 W) (by omega) (by decide) (v := (nI (F j))) (hF.1 j (by omega)) ?_
      refine Sx.iload_n dX12_party_19 rfl ?_
      refine Sx.icmp_neV (t := 29) dX12_party_20 (by decide) (vN (by omega)) (vN (by omega)) (fun c20 => ?_) (fun c20 => ?_)
      · refine Sx.iconst (v := (nI 0)) dX12_party_29 (by decide) ?_
        refine Sx.iorN dX12_party_30 ?_
        refine Sx.istore_n (lv' := [(2, .int (nI (b ||| 0))), (3, .int (nI j)), (0, .ref 253), (1, .int (nI c))]) dX12_party_31 (by decide) rfl ?_
        refine Sx.iinc (v := (nI (j + 1))) (lv' := [(3, .int (nI (j + 1))), (2, .int (nI (b ||| 0))), (0, .ref 253), (1, .int (nI c))]) dX12_party_32 rfl (nI_add j 1) (by decide) rfl ?_
        refine Sx.goto (t := 4) dX12_party_35 (by decide) ?_
        refine Sx.sub' [(3, .int (nI (j + 1))), (2, .int (nI (b ||| 0))), (0, .ref 253), (1, .int (nI c))] rfl ?_
        refine ih (j + 1) (by omega) (by omega) _ ?_
        rw [partyN, hb0]
        first | rw [if_pos (by omega)] | rw [if_neg (by omega)]
      · refine Sx.iconst (v := (nI 1)) dX12_party_23 (by decide) ?_
        refine Sx.iload_n dX12_party_24 rfl ?_
        refine Sx.ishl1 dX12_party_25 (by omega) ?_
        refine Sx.goto (t := 30) dX12_party_26 (by decide) ?_
        refine Sx.iorN dX12_party_30 ?_
        refine Sx.istore_n (lv' := [(2, .int (nI (b ||| (2 ^ j)))), (3, .int (nI j)), (0, .ref 253), (1, .int (nI c))]) dX12_party_31 (by decide) rfl ?_
        refine Sx.iinc (v := (nI (j + 1))) (lv' := [(3, .int (nI (j + 1))), (2, .int (nI (b ||| (2 ^ j)))), (0, .ref 253), (1, .int (nI c))]) dX12_party_32 rfl (nI_add j 1) (by decide) rfl ?_
        refine Sx.goto (t := 4) dX12_party_35 (by decide) ?_
        refine Sx.sub' [(3, .int (nI (j + 1))), (2, .int (nI (b ||| (2 ^ j)))), (0, .ref 253), (1, .int (nI c))] rfl ?_
        refine ih (j + 1) (by omega) (by omega) _ ?_
        rw [partyN, hb0]
        first | rw [if_pos (by omega)] | rw [if_neg (by omega)]
set_option maxRecDepth 20000 in
set_option maxHeartbeats 1000000 in
theorem k_party {G : Gt} {l : Launch} {Z : Zt} {R : Rt} {I : It} {L : Lt} {post : Pt'} {V : Vt} {F : Nat → Nat} {c : Nat} (W : WF Z R) (hM : MI0 V I L) (h35 : V 2 35 ≤ 6) (hF : MW (I 266) F) (hf : ∀ j, j < 6 → F j < 1000) (hc : c < 1000) (h : post (some (.int (nI (partyN F c (V 2 35))))) Z R I L) : Cx G l mX12_party 1 0 0 [.ref 253, .int (nI c)] Z R I L post := by
  refine Cx.of (by decide +kernel) (by exact Nat.le_of_ble_eq_true rfl) ?_
  refine Sx.iconst (v := (nI 0)) dX12_party_0 (by decide) ?_
  refine Sx.istore_n (lv' := [(2, .int (nI 0)), (0, .ref 253), (1, .int (nI c))]) dX12_party_1 (by decide) rfl ?_
  refine Sx.iconst (v := (nI 0)) dX12_party_2 (by decide) ?_
  refine Sx.istore_n (lv' := [(3, .int (nI 0)), (2, .int (nI 0)), (0, .ref 253), (1, .int (nI c))]) dX12_party_3 (by decide) rfl ?_
  refine Sx.sub' [(3, .int (nI 0)), (2, .int (nI 0)), (0, .ref 253), (1, .int (nI c))] rfl ?_
  exact l_pty W hM h35 hF hf hc h (V 2 35 + 1) 0 (by omega) (by omega) 0 rfl
/-! one cell of the abstract state -/
def vs (V : Vt) (p q x : Nat) : Vt := fun a => if a = p then upn (V p) q x else V a
theorem vs_o (V : Vt) {p q x a : Nat} (h : a ≠ p) : vs V p q x a = V a := if_neg h
theorem vs_c (V : Vt) {p q x b : Nat} (h : b ≠ q) : vs V p q x p b = V p b := by unfold vs upn; rw [if_pos rfl, if_neg h]
theorem vs_a (V : Vt) (p q x : Nat) : vs V p q x p q = x := by unfold vs upn; rw [if_pos rfl, if_pos rfl]
theorem MI0.v {V V' : Vt} {I I' : It} {L : Lt} (h : MI0 V I L) (r : ∀ p, p ≠ 0 → V' p = V p) (c0 : V' 0 0 = V 0 0) (c1 : V' 0 1 = V 0 1) (c3 : V' 0 3 = V 0 3) (c4 : V' 0 4 = V 0 4) (c5 : V' 0 5 = V 0 5) (c7 : V' 0 7 = V 0 7) (m : MFd V' (I' 253)) (o : ∀ q, q ≠ 253 → I' q = I q) : MI0 V' I' L := by
  obtain ⟨a1, a2, a3, a4, a5, a6, a7, a8, a9, a10, a11⟩ := h
  refine ⟨m, ?_, ?_, ?_, ?_, ?_, ?_, ?_, ?_, ?_, ?_⟩
  · unfold MTp; rw [o 254 (by decide), c0, r 1 (by decide)]; exact a2
  · rw [o 255 (by decide), o 256 (by decide)]; intro i hi; rw [c1] at hi; rw [r (10 + i) (by omega)]; exact a3 i hi
  · rw [o 258 (by decide), o 260 (by decide), o 262 (by decide), r 2 (by decide)]; exact a4
  · rw [o 264 (by decide), o 265 (by decide)]; intro i hi; rw [c3] at hi; rw [r (20 + i) (by omega)]; exact a5 i hi
  · rw [o 268 (by decide), r 4 (by decide)]; exact a6
  · rw [o 271 (by decide)]; intro i hi; rw [c4] at hi; rw [c4, r (30 + i) (by omega)]; exact a7 i hi
  · rw [o 273 (by decide)]; intro i hi; rw [c7] at hi; rw [r 6 (by decide), r 7 (by decide), r 8 (by decide)]; exact a8 i hi
  · rw [o 278 (by decide)]; intro z; rw [c5] at z; rw [r 5 (by decide)]; exact a9 z
  · rw [o 257 (by decide)]; exact a10
  · rw [o 270 (by decide)]
    intro s hs
    rcases a11 s hs with z | ⟨li, d, e, g, u, y, rr, h1, h2, h3, h4, h5, h6, h7, h8, h9⟩
    · exact Or.inl z
    · exact Or.inr ⟨li, d, e, g, u, y, rr, by rw [c1]; exact h1, h2, h3, h4, h5, h6, h7, h8, by rw [r (10 + li) (by omega)]; exact h9⟩
theorem MI.th {V : Vt} {I I' : It} {L : Lt} {j : Nat} {x : Int32} (h : MI V I L) (hj : sfJ j) (e : I' 253 = upd (I 253) j x) (o : ∀ q, q ≠ 253 → I' q = I q) : MI V I' L := ⟨h.1.sf hj e o, by rw [o 266 (by decide)]; exact h.2⟩
theorem x_nn {x : Int32} (h : 0 ≤ x.toInt) : x = nI x.toInt.toNat := by rw [nI_iI, Int.toNat_of_nonneg h, x_iI]
theorem MI.v6 {V : Vt} {I I' : It} {L : Lt} {x : Int32} (h : MI V I L) (hx : 0 ≤ x.toInt) (e : I' 253 = upd (I 253) 36 x) (o : ∀ q, q ≠ 253 → I' q = I q) : MI (vs V 0 6 x.toInt.toNat) I' L := by
  refine ⟨h.1.v (fun p hp => vs_o V hp) (vs_c V (by decide)) (vs_c V (by decide)) (vs_c V (by decide)) (vs_c V (by decide)) (vs_c V (by decide)) (vs_c V (by decide)) ?_ o, by rw [o 266 (by decide), vs_o V (by decide)]; exact h.2⟩
  obtain ⟨m1, m2, m3, m4, m5, m6, m7, m8, m9, m10⟩ := h.1.1
  rw [e]
  unfold MFd
  rw [vs_a, vs_o V (show 2 ≠ 0 by decide), vs_c V (show 0 ≠ 6 by decide), vs_c V (show 1 ≠ 6 by decide), vs_c V (show 3 ≠ 6 by decide), vs_c V (show 2 ≠ 6 by decide), vs_c V (show 4 ≠ 6 by decide), vs_c V (show 7 ≠ 6 by decide), vs_c V (show 5 ≠ 6 by decide)]
  refine ⟨?_, ?_, ?_, ?_, ?_, ?_, ?_, ?_, ?_, ?_⟩
  all_goals first | (rw [upd_at]; exact x_nn hx) | (rw [upd_nj _ _ (by decide)]; assumption)
set_option maxRecDepth 20000 in
set_option maxHeartbeats 1000000 in
theorem k_whim {G : Gt} {l : Launch} {Z : Zt} {R : Rt} {I : It} {L : Lt} {post : Pt'} {V : Vt} {x : Int32} (W : WF Z R) (hM : MI V I L) (hw : V 0 6 ≤ 9) (h1 : ∀ I2, MI (vs V 0 6 x.toInt.toNat) I2 L → 0 ≤ x.toInt ∧ x.toInt ≤ 9 ∧ x.toInt ≠ (V 0 6 : Int) → (∀ q, q ≠ 253 → I2 q = I q) → post (some (.int (b2i true))) Z R I2 L) (h2 : ∀ I2, MI V I2 L → (∀ q, q ≠ 253 → I2 q = I q) → ¬ (0 ≤ x.toInt ∧ x.toInt ≤ 9 ∧ x.toInt ≠ (V 0 6 : Int)) → post (some (.int (b2i false))) Z R I2 L) : Cx G l mX12_whim 2 0 0 [.ref 253, .int x] Z R I L post := by
  refine Cx.of (by decide +kernel) (by exact Nat.le_of_ble_eq_true rfl) ?_
  have hx := x_rg x
  refine Sx.aload_n dX12_whim_0 rfl ?_
  refine Sx.iconst (v := (nI 0)) dX12_whim_1 (by decide) ?_
  refine Sx.putfV dX12_whim_2 lkp_X12_109_12 (o_253 W) rfl rfl (fun I1 e1 o1 => ?_)
  have M1 := hM.th (j := 0) (by unfold sfJ; decide) e1 o1
  refine Sx.iload_n dX12_whim_5 rfl ?_
  refine Sx.i2l dX12_whim_6 ?_
  refine Sx.lconst (v := 0) dX12_whim_7 (by decide) ?_
  refine Sx.ldc2 dX12_whim_8 lkk_X12_387 ?_
  refine Sx.callS3 dX12_whim_11 lkc_X12_230  (by decide) (by decide) (Nat.le_of_ble_eq_true rfl) rfl rfl (k_isIn (vLi (vX x)) (show VL 0 0 from rfl) (show VL 9 9 from rfl) ?_)
  refine Sx.if_eqD (t := 25) dX12_whim_14 (by decide) (fun c14 => ?_) (fun c14 => ?_)
  · refine Sx.iconst (v := (nI 0)) dX12_whim_25 (by decide) ?_
    refine Sx.top (show _ = b2i false from rfl) ?_
    refine Sx.iret dX12_whim_26 rfl (b2i_n _) ?_
    first | exact h2 I1 M1 o1 (by omega)
  · refine Sx.iload_n dX12_whim_17 rfl ?_
    refine Sx.aload_n dX12_whim_18 rfl ?_
    refine Sx.getfV (v := (nI (V 0 6))) dX12_whim_19 lkf_X12_74_12 (o_253 W) M1.1.1.2.2.2.2.2.2.1 ?_
    refine Sx.icmp_neV (t := 27) dX12_whim_22 (by decide) (vX x) (vN (by omega)) (fun c22 => ?_) (fun c22 => ?_)
    · refine Sx.aload_n dX12_whim_27 rfl ?_
      refine Sx.iload_n dX12_whim_28 rfl ?_
      refine Sx.putfV dX12_whim_29 lkp_X12_74_12 (o_253 W) rfl rfl (fun I2 e2 o2 => ?_)
      refine Sx.iconst (v := (nI 1)) dX12_whim_32 (by decide) ?_
      refine Sx.top (show _ = b2i true from rfl) ?_
      refine Sx.iret dX12_whim_33 rfl (b2i_n _) ?_
      exact h1 I2 (M1.v6 (by omega) e2 o2) (by omega) (fun q hq => (o2 q hq).trans (o1 q hq))
    · refine Sx.iconst (v := (nI 0)) dX12_whim_25 (by decide) ?_
      refine Sx.top (show _ = b2i false from rfl) ?_
      refine Sx.iret dX12_whim_26 rfl (b2i_n _) ?_
      first | exact h2 I1 M1 o1 (by omega)
theorem MI.v2 {V : Vt} {I I' : It} {L : Lt} {x : Int32} (h : MI V I L) (hx : -1 ≤ x.toInt) (e : I' 253 = upd (I 253) 35 x) (o : ∀ q, q ≠ 253 → I' q = I q) : MI (vs V 0 2 (x.toInt + 1).toNat) I' L := by
  refine ⟨h.1.v (fun p hp => vs_o V hp) (vs_c V (by decide)) (vs_c V (by decide)) (vs_c V (by decide)) (vs_c V (by decide)) (vs_c V (by decide)) (vs_c V (by decide)) ?_ o, by rw [o 266 (by decide), vs_o V (by decide)]; exact h.2⟩
  obtain ⟨m1, m2, m3, m4, m5, m6, m7, m8, m9, m10⟩ := h.1.1
  rw [e]
  unfold MFd
  rw [vs_a, vs_o V (show 2 ≠ 0 by decide), vs_c V (show 0 ≠ 2 by decide), vs_c V (show 1 ≠ 2 by decide), vs_c V (show 3 ≠ 2 by decide), vs_c V (show 6 ≠ 2 by decide), vs_c V (show 4 ≠ 2 by decide), vs_c V (show 7 ≠ 2 by decide), vs_c V (show 5 ≠ 2 by decide)]
  have hz : x = iI (((x.toInt + 1).toNat : Int) - 1) := by rw [Int.toNat_of_nonneg (by omega), show x.toInt + 1 - 1 = x.toInt by omega, x_iI]
  refine ⟨?_, ?_, ?_, ?_, ?_, ?_, ?_, ?_, ?_, ?_⟩
  all_goals first | (rw [upd_at]; exact hz) | (rw [upd_nj _ _ (by decide)]; assumption)
set_option maxRecDepth 20000 in
set_option maxHeartbeats 1000000 in
theorem k_law {G : Gt} {l : Launch} {Z : Zt} {R : Rt} {I : It} {L : Lt} {post : Pt'} {V : Vt} {x : Int32} (W : WF Z R) (hM : MI V I L) (hw : V 0 1 ≤ 4) (h1 : ∀ I2, MI (vs V 0 2 (x.toInt + 1).toNat) I2 L → -1 ≤ x.toInt ∧ x.toInt < (V 0 1 : Int) → (∀ q, q ≠ 253 → I2 q = I q) → post (some (.int (b2i true))) Z R I2 L) (h2 : ∀ I2, MI V I2 L → (∀ q, q ≠ 253 → I2 q = I q) → ¬ (-1 ≤ x.toInt ∧ x.toInt < (V 0 1 : Int)) → post (some (.int (b2i false))) Z R I2 L) : Cx G l mX12_law 2 0 0 [.ref 253, .int x] Z R I L post := by
  refine Cx.of (by decide +kernel) (by exact Nat.le_of_ble_eq_true rfl) ?_
  have hx := x_rg x
  refine Sx.aload_n dX12_law_0 rfl ?_
  refine Sx.iconst (v := (nI 0)) dX12_law_1 (by decide) ?_
  refine Sx.putfV dX12_law_2 lkp_X12_109_12 (o_253 W) rfl rfl (fun I1 e1 o1 => ?_)
  have M1 := hM.th (j := 0) (by unfold sfJ; decide) e1 o1
  refine Sx.iload_n dX12_law_5 rfl ?_
  refine Sx.iconst (v := (iI (-1))) dX12_law_6 (by decide) ?_
  refine Sx.icmp_eqV (t := 28) dX12_law_7 (by decide) (vX x) (vZ (by decide)) (fun c7 => ?_) (fun c7 => ?_)
  · refine Sx.aload_n dX12_law_28 rfl ?_
    refine Sx.iload_n dX12_law_29 rfl ?_
    refine Sx.putfV dX12_law_30 lkp_X12_70_12 (o_253 W) rfl rfl (fun I2 e2 o2 => ?_)
    refine Sx.iconst (v := (nI 1)) dX12_law_33 (by decide) ?_
    refine Sx.top (show _ = b2i true from rfl) ?_
    refine Sx.iret dX12_law_34 rfl (b2i_n _) ?_
    exact h1 I2 (M1.v2 (by omega) e2 o2) (by omega) (fun q hq => (o2 q hq).trans (o1 q hq))
  · refine Sx.iload_n dX12_law_10 rfl ?_
    refine Sx.i2l dX12_law_11 ?_
    refine Sx.lconst (v := 0) dX12_law_12 (by decide) ?_
    refine Sx.aload_n dX12_law_13 rfl ?_
    refine Sx.getfV (v := (nI (V 0 1))) dX12_law_14 lkf_X12_296_12 (o_253 W) M1.1.1.2.1 ?_
    refine Sx.iconst (v := (nI 1)) dX12_law_17 (by decide) ?_
    refine Sx.isubV dX12_law_18 (vN (by omega)) (vN (by decide)) ?_
    refine Sx.i2l dX12_law_19 ?_
    refine Sx.callS3 dX12_law_20 lkc_X12_230  (by decide) (by decide) (Nat.le_of_ble_eq_true rfl) rfl rfl (k_isIn (vLi (vX x)) (show VL 0 0 from rfl) (vLi (vZ (by omega))) ?_)
    refine Sx.if_neD (t := 28) dX12_law_23 (by decide) (fun c23 => ?_) (fun c23 => ?_)
    · refine Sx.aload_n dX12_law_28 rfl ?_
      refine Sx.iload_n dX12_law_29 rfl ?_
      refine Sx.putfV dX12_law_30 lkp_X12_70_12 (o_253 W) rfl rfl (fun I3 e3 o3 => ?_)
      refine Sx.iconst (v := (nI 1)) dX12_law_33 (by decide) ?_
      refine Sx.top (show _ = b2i true from rfl) ?_
      refine Sx.iret dX12_law_34 rfl (b2i_n _) ?_
      exact h1 I3 (M1.v2 (by omega) e3 o3) (by omega) (fun q hq => (o3 q hq).trans (o1 q hq))
    · refine Sx.iconst (v := (nI 0)) dX12_law_26 (by decide) ?_
      refine Sx.top (show _ = b2i false from rfl) ?_
      refine Sx.iret dX12_law_27 rfl (b2i_n _) ?_
      exact h2 I1 M1 o1 (by omega)
theorem MI.v4 {V : Vt} {I I' : It} {L : Lt} {k : Nat} (h : MI V I L) (e : I' 268 = upd (I 268) k (nI (V 4 k + 1))) (o : ∀ q, q ≠ 268 → I' q = I q) : MI (vs V 4 k (V 4 k + 1)) I' L := by
  have r : ∀ p, p ≠ 4 → vs V 4 k (V 4 k + 1) p = V p := fun p hp => vs_o V hp
  obtain ⟨⟨a1, a2, a3, a4, a5, a6, a7, a8, a9, a10, a11⟩, b⟩ := h
  refine ⟨⟨?_, ?_, ?_, ?_, ?_, ?_, ?_, ?_, ?_, ?_, ?_⟩, ?_⟩
  · rw [o 253 (by decide)]; unfold MFd; rw [r 0 (by decide), r 2 (by decide)]; exact a1
  · unfold MTp; rw [o 254 (by decide), r 0 (by decide), r 1 (by decide)]; exact a2
  · rw [o 255 (by decide), o 256 (by decide)]; intro i hi; rw [r 0 (by decide)] at hi; rw [r (10 + i) (by omega)]; exact a3 i hi
  · rw [o 258 (by decide), o 260 (by decide), o 262 (by decide), r 2 (by decide)]; exact a4
  · rw [o 264 (by decide), o 265 (by decide)]; intro i hi; rw [r 0 (by decide)] at hi; rw [r (20 + i) (by omega)]; exact a5 i hi
  · rw [e]; intro z hz
    by_cases q : z = k
    · rw [q, upd_at, vs_a]
    · rw [upd_nj _ _ q, vs_c V q]; exact a6 z hz
  · rw [o 271 (by decide)]; intro i hi; rw [r 0 (by decide)] at hi; rw [r 0 (by decide), r (30 + i) (by omega)]; exact a7 i hi
  · rw [o 273 (by decide)]; intro i hi; rw [r 0 (by decide)] at hi; rw [r 6 (by decide), r 7 (by decide), r 8 (by decide)]; exact a8 i hi
  · rw [o 278 (by decide)]; intro z; rw [r 0 (by decide)] at z; rw [r 5 (by decide)]; exact a9 z
  · rw [o 257 (by decide)]; exact a10
  · rw [o 270 (by decide)]
    intro s hs
    rcases a11 s hs with z | ⟨li, d, e, g, u, y, rr, h1, h2, h3, h4, h5, h6, h7, h8, h9⟩
    · exact Or.inl z
    · exact Or.inr ⟨li, d, e, g, u, y, rr, by rw [r 0 (by decide)]; exact h1, h2, h3, h4, h5, h6, h7, h8, by rw [r (10 + li) (by omega)]; exact h9⟩
  · rw [o 266 (by decide), r 3 (by decide)]; exact b
set_option maxRecDepth 20000 in
set_option maxHeartbeats 1000000 in
theorem k_refused {G : Gt} {l : Launch} {Z : Zt} {R : Rt} {I : It} {L : Lt} {post : Pt'} {V : Vt} {k : Nat} (W : WF Z R) (hM : MI V I L) (hk : k < 5) (hn : V 4 k < 2147483647) (h : ∀ I1, MI (vs V 4 k (V 4 k + 1)) I1 L → (∀ q, q ≠ 268 → I1 q = I q) → post (some (.int (iI (-1)))) Z R I1 L) : Cx G l mX12_refused 1 0 0 [.ref 253, .int (nI k)] Z R I L post := by
  refine Cx.of (by decide +kernel) (by exact Nat.le_of_ble_eq_true rfl) ?_
  refine Sx.aload_n dX12_refused_0 rfl ?_
  refine Sx.getfR dX12_refused_1 lkf_X12_67_12 (o_253 W) (r_253_34 W) ?_
  refine Sx.iload_n dX12_refused_4 rfl ?_
  refine Sx.dup2 dX12_refused_5 rfl rfl ?_
  refine Sx.ialdN dX12_refused_6 (a_268 W) (by omega) (by decide) (v := (nI (V 4 k))) (hM.1.2.2.2.2.2.1 k hk) ?_
  refine Sx.iconst (v := (nI 1)) dX12_refused_7 (by decide) ?_
  refine Sx.iaddN dX12_refused_8 ?_
  refine Sx.iastN dX12_refused_9 (a_268 W) (by omega) (by decide) (fun I1 e1 o1 => ?_)
  refine Sx.iconst (v := (iI (-1))) dX12_refused_10 (by decide) ?_
  refine Sx.iret dX12_refused_11 rfl rfl ?_
  exact h I1 (hM.v4 e1 o1) (fun q hq => o1 q hq)
