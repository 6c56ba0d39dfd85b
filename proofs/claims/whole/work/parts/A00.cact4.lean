/-! the class: undo, pictures, laws that hold, whims, what is seen, feed, end -/
theorem CI.un {V : Vt} {R : Rt} {I I' : It} {L L' : Lt} {nx : Nat} (h : CI V R I L) (hb : V 0 1 ≤ 4 ∧ V 0 3 ≤ 4) (h4 : V 0 4 ≠ 0) (h40 : V 0 4 ≤ 40) (n1 : nx < 40) (n4 : ∀ i, i < V 0 4 → rs (I (150 + 2 * ((nx + 39 - i) % 40))) (V (30 + i))) (e1 : I' 147 2 = nI ((nx + 39) % 40)) (e2 : I' 147 1 = nI (V 0 4 - 1)) (s : rs (I' 230) (V 30)) (o : ∀ q, q ≠ 147 → q ≠ 230 → I' q = I q) : CI (unV V) R I' L' := by
  have c : ∀ q, q ≠ 4 → unV V 0 q = V 0 q := fun q hq => by unfold unV upn; rw [if_pos rfl, if_neg hq]
  have c4 : unV V 0 4 = V 0 4 - 1 := by unfold unV upn; rw [if_pos rfl, if_pos rfl]
  have r : ∀ p, p ≠ 0 → p ≠ 3 → p < 30 → unV V p = V p := fun p h0 h3 h30 => by unfold unV; rw [if_neg h0, if_neg h3, if_neg (by omega)]
  refine h.mv hb ?_ (c 0 (by decide)) (c 1 (by decide)) (c 2 (by decide)) (c 3 (by decide)) (c 7 (by decide)) (fun p p0 p3 _ p30 => r p p0 p3 p30) (fun q _ q2 q3 _ => o q q2 (by omega)) s (fun z => ?_) ⟨(nx + 39) % 40, Nat.mod_lt _ (by decide), e1, by rw [e2, c4], fun i hi => ?_⟩
  · rw [o 100 (by decide) (by decide), c 5 (by decide), c 1 (by decide), c 3 (by decide), c 2 (by decide), c 6 (by decide)]; exact h.2.2.2.1
  · rw [c 5 (by decide)] at z; rw [o 232 (by decide) (by decide), r 5 (by decide) (by decide) (by decide)]; exact h.2.2.2.2.2.2.2.2.1 z
  · rw [c4] at hi
    rw [show ((nx + 39) % 40 + 39 - i) % 40 = (nx + 39 - (i + 1)) % 40 by omega, show unV V (30 + i) = V (30 + (i + 1)) by unfold unV; rw [if_neg (by omega), if_neg (by omega), if_pos (by omega)]; congr 1, o _ (by omega) (by omega)]
    exact n4 (i + 1) (by omega)
theorem CI.im {V : Vt} {R : Rt} {I I' : It} {L L' : Lt} (h : CI V R I L) (hb : V 0 1 ≤ 4 ∧ V 0 3 ≤ 4) (e : I' 100 = upd (I 100) 13 (nI 1)) (s : rs (I' 232) (V 3)) (o : ∀ q, q ≠ 100 → q ≠ 232 → I' q = I q) : CI (imV V) R I' L' := by
  have c : ∀ q, q ≠ 5 → imV V 0 q = V 0 q := fun q hq => by unfold imV; rw [vr_o _ _ (by decide), vs_c _ hq]
  have c5 : imV V 0 5 = 1 := by unfold imV; rw [vr_o _ _ (by decide), vs_a]
  have r : ∀ p, p ≠ 0 → p ≠ 5 → imV V p = V p := fun p h0 h5 => by unfold imV; rw [vr_o _ _ h5, vs_o _ h0]
  obtain ⟨f1, f2, f3, f4, f5⟩ := h.2.2.2.1
  refine h.mv hb ⟨by rw [e, upd_at, c5], by rw [e, upd_nj _ _ (by decide), c 1 (by decide)]; exact f2, by rw [e, upd_nj _ _ (by decide), c 3 (by decide)]; exact f3, by rw [e, upd_nj _ _ (by decide), c 2 (by decide)]; exact f4, by rw [e, upd_nj _ _ (by decide), c 6 (by decide)]; exact f5⟩ (c 0 (by decide)) (c 1 (by decide)) (c 2 (by decide)) (c 3 (by decide)) (c 7 (by decide)) (fun p p0 _ p5 _ => r p p0 p5) (fun q q1 _ q3 _ => o q q1 (by omega)) ?_ (fun _ => ?_) ?_
  · rw [o 230 (by decide) (by decide), r 3 (by decide) (by decide)]; exact h.2.2.1
  · unfold imV; rw [vr_a]; exact s
  · obtain ⟨nx, n1, n2, n3, n4⟩ := h.2.2.2.2.2.2.2.2.2.1
    refine ⟨nx, n1, by rw [o 147 (by decide) (by decide)]; exact n2, by rw [o 147 (by decide) (by decide), c 4 (by decide)]; exact n3, fun i hi => ?_⟩
    rw [c 4 (by decide)] at hi
    have := Nat.mod_lt (nx + 39 - i) (show 0 < 40 by decide)
    rw [o _ (by omega) (by omega), r (30 + i) (by omega) (by omega)]
    exact n4 i hi
theorem CI.bk {V : Vt} {R : Rt} {I I' : It} {L L' : Lt} (h : CI V R I L) (hb : V 0 1 ≤ 4 ∧ V 0 3 ≤ 4) (e : I' 147 = upd (I 147) 1 (nI 0)) (s : rs (I' 230) (V 5)) (o : ∀ q, q ≠ 147 → q ≠ 230 → I' q = I q) : CI (bkV V) R I' L' := by
  have c : ∀ q, q ≠ 4 → bkV V 0 q = V 0 q := fun q hq => by unfold bkV; rw [vr_o _ _ (by decide), vs_c _ hq]
  have c4 : bkV V 0 4 = 0 := by unfold bkV; rw [vr_o _ _ (by decide), vs_a]
  have r : ∀ p, p ≠ 0 → p ≠ 3 → bkV V p = V p := fun p h0 h5 => by unfold bkV; rw [vr_o _ _ h5, vs_o _ h0]
  refine h.mv hb ?_ (c 0 (by decide)) (c 1 (by decide)) (c 2 (by decide)) (c 3 (by decide)) (c 7 (by decide)) (fun p p0 p3 _ _ => r p p0 p3) (fun q _ q2 q3 _ => o q q2 (by omega)) ?_ (fun z => ?_) ?_
  · rw [o 100 (by decide) (by decide), c 5 (by decide), c 1 (by decide), c 3 (by decide), c 2 (by decide), c 6 (by decide)]; exact h.2.2.2.1
  · unfold bkV; rw [vr_a]; exact s
  · rw [c 5 (by decide)] at z; rw [o 232 (by decide) (by decide), r 5 (by decide) (by decide)]; exact h.2.2.2.2.2.2.2.2.1 z
  · obtain ⟨nx, n1, n2, n3, n4⟩ := h.2.2.2.2.2.2.2.2.2.1
    exact ⟨nx, n1, by rw [e, upd_nj _ _ (by decide)]; exact n2, by rw [e, upd_at, c4], fun i hi => by rw [c4] at hi; omega⟩
def lawV (V : Vt) (x : Int32) : Vt := if -1 ≤ x.toInt ∧ x.toInt < (V 0 1 : Int) then vs V 0 2 (x.toInt + 1).toNat else V
def whiV (V : Vt) (x : Int32) : Vt := if 0 ≤ x.toInt ∧ x.toInt ≤ 9 ∧ x.toInt ≠ (V 0 6 : Int) then vs V 0 6 x.toInt.toNat else V
theorem CI.r0 {V V' : Vt} {R R' : Rt} {I I' : It} {L L' : Lt} (h : CI V R I L) (r : ∀ p, p ≠ 0 → V' p = V p) (c : ∀ q, q ≠ 2 → q ≠ 6 → V' 0 q = V 0 q) (f : I' 100 16 = iI ((V' 0 2 : Int) - 1) ∧ I' 100 17 = nI (V' 0 6)) (fo : ∀ j, j ≠ 16 → j ≠ 17 → I' 100 j = I 100 j) (hR : R' 114 3 = if V' 0 2 = 0 then none else some (233 + 2 * (V' 0 2 - 1))) (o : ∀ q, q ≠ 100 → I' q = I q) : CI V' R' I' L' := by
  obtain ⟨a1, a2, a3, a4, a5, a6, a7, a8, a9, ⟨nx, b1, b2, b3, b4⟩, a11⟩ := h
  have c0 := c 0 (by decide) (by decide)
  have c1 := c 1 (by decide) (by decide)
  have c3 := c 3 (by decide) (by decide)
  have c4 := c 4 (by decide) (by decide)
  have c5 := c 5 (by decide) (by decide)
  have c7 := c 7 (by decide) (by decide)
  refine ⟨?_, ?_, ?_, ⟨?_, ?_, ?_, f.1, f.2⟩, fun i hi => ?_, hR, fun i hi => ?_, ?_, ?_, ⟨nx, b1, ?_, ?_, fun i hi => ?_⟩, ?_⟩
  · rw [o 101 (by decide), o 102 (by decide), c0, r 1 (by decide)]; exact a1
  · rw [o 104 (by decide), r 2 (by decide)]; exact a2
  · rw [o 230 (by decide), r 3 (by decide)]; exact a3
  · rw [fo 13 (by decide) (by decide), c5]; exact a4.1
  · rw [fo 14 (by decide) (by decide), c1]; exact a4.2.1
  · rw [fo 15 (by decide) (by decide), c3]; exact a4.2.2.1
  · rw [c1] at hi; unfold LI; rw [o (233 + 2 * i) (by omega), o (233 + 2 * i + 1) (by omega), r (10 + i) (by omega)]; exact a5 i hi
  · rw [c3] at hi; rw [o (243 + 2 * i) (by omega), o (243 + 2 * i + 1) (by omega), r (20 + i) (by omega)]; exact a7 i hi
  · rw [o 113 (by decide), r 4 (by decide)]; exact a8
  · rw [o 232 (by decide), c5, r 5 (by decide)]; exact a9
  · rw [o 147 (by decide)]; exact b2
  · rw [o 147 (by decide), c4]; exact b3
  · rw [c4] at hi; rw [o _ (by omega), r (30 + i) (by omega)]; exact b4 i hi
  · rw [o 136 (by decide), o 140 (by decide), o 142 (by decide), o 144 (by decide), c7, r 6 (by decide), r 7 (by decide), r 8 (by decide)]; exact a11
set_option maxRecDepth 20000 in
set_option maxHeartbeats 1000000 in
theorem d_restores {G : Gt} {l : Launch} {Z : Zt} {R : Rt} {I : It} {L : Lt} {post : Pt'} {V : Vt} (W : WF Z R) (C : CI V R I L) (hb : V 0 1 ≤ 4 ∧ V 0 3 ≤ 4) (h40 : V 0 4 ≤ 40) (h1 : ∀ I', V 0 4 ≠ 0 → CI (unV V) R I' L → (∀ q, q ≠ 147 → q ≠ 230 → I' q = I q) → post (some (.int (b2i true))) Z R I' L) (h2 : V 0 4 = 0 → post (some (.int (b2i false))) Z R I L) : Cx G l mX2_restores 3 0 0 [.ref 147, .ref 229] Z R I L post := by
  refine Cx.of (by decide +kernel) (by exact Nat.le_of_ble_eq_true rfl) ?_
  obtain ⟨nx, n1, n2, n3, n4⟩ := C.2.2.2.2.2.2.2.2.2.1
  refine Sx.aload_n dX2_restores_0 rfl ?_
  refine Sx.getfV (v := (nI nx)) dX2_restores_1 lkf_X2_19_2 (o_147 W) n2 ?_
  refine Sx.bipush (v := (nI 40)) dX2_restores_4 (by decide) ?_
  refine Sx.iaddN dX2_restores_6 ?_
  refine Sx.iconst (v := (nI 1)) dX2_restores_7 (by decide) ?_
  refine Sx.isubN dX2_restores_8 (by omega) ?_
  refine Sx.bipush (v := (nI 40)) dX2_restores_9 (by decide) ?_
  refine Sx.iremN dX2_restores_11 (by omega) (by decide) (by decide) ?_
  refine Sx.top (show _ = nI ((nx + 39) % 40) from (by congr 1)) ?_
  refine Sx.istore_n (lv' := [(2, .int (nI ((nx + 39) % 40))), (0, .ref 147), (1, .ref 229)]) dX2_restores_12 (by decide) rfl ?_
  refine Sx.aload_n dX2_restores_13 rfl ?_
  refine Sx.iload_n dX2_restores_14 rfl ?_
  refine Sx.callV1 dX2_restores_15 lkv_X2_23 (rcv_2 (o_147 W)) (by decide) (by decide) (Nat.le_of_ble_eq_true rfl) rfl rfl (d_stateAt W (k := (nx + 39) % 40) (by omega) ?_)
  refine Sx.astore_n (lv' := [(3, .ref ((149 + 2 * ((nx + 39) % 40)))), (2, .int (nI ((nx + 39) % 40))), (0, .ref 147), (1, .ref 229)]) dX2_restores_18 (by decide) rfl ?_
  refine Sx.aload_n dX2_restores_19 rfl ?_
  refine Sx.getfV (v := (nI (V 0 4))) dX2_restores_20 lkf_X2_15_2 (o_147 W) n3 ?_
  refine Sx.if_eqV (t := 30) dX2_restores_23 (by decide) (vN (by omega)) (fun c23 => ?_) (fun c23 => ?_)
  · refine Sx.iconst (v := (nI 0)) dX2_restores_30 (by decide) ?_
    refine Sx.top (show _ = b2i false from rfl) ?_
    refine Sx.iret dX2_restores_31 rfl (b2i_n _) ?_
    exact h2 (by omega)
  · refine Sx.aload_n dX2_restores_26 rfl ?_
    refine Sx.ifnonnull (t := 32) dX2_restores_27 (by decide) ?_
    refine Sx.aload_n dX2_restores_32 rfl ?_
    refine Sx.aload_n dX2_restores_33 rfl ?_
    refine Sx.callU1 dX2_restores_34 lku_X2_27 (rcv_8 (o_229 W)) (by decide) (by decide) (Nat.le_of_ble_eq_true rfl) rfl rfl (c_X7_copy (w_229r W) (by unfold rowC; decide) (by decide) (w_sts W (i := (nx + 39) % 40) (by omega)) (by unfold rowC; decide) (fun I1 e1 o1 => ?_))
    refine Sx.aload_n dX2_restores_37 rfl ?_
    refine Sx.iload_n dX2_restores_38 rfl ?_
    refine Sx.putfV dX2_restores_39 lkp_X2_19_2 (o_147 W) rfl rfl (fun I2 e2 o2 => ?_)
    refine Sx.aload_n dX2_restores_42 rfl ?_
    refine Sx.dup dX2_restores_43 rfl ?_
    refine Sx.getfV (v := (nI (V 0 4))) dX2_restores_44 lkf_X2_15_2 (o_147 W) (by rw [e2, upd_nj _ _ (by decide), o1 147 (by decide)]; exact n3) ?_
    refine Sx.iconst (v := (nI 1)) dX2_restores_47 (by decide) ?_
    refine Sx.isubN dX2_restores_48 (by omega) ?_
    refine Sx.putfV dX2_restores_49 lkp_X2_15_2 (o_147 W) rfl rfl (fun I3 e3 o3 => ?_)
    refine Sx.iconst (v := (nI 1)) dX2_restores_52 (by decide) ?_
    refine Sx.top (show _ = b2i true from rfl) ?_
    refine Sx.iret dX2_restores_53 rfl (b2i_n _) ?_
    exact h1 I3 (by omega) (C.un hb (by omega) h40 n1 n4 (by rw [e3, upd_nj _ _ (by decide), e2, upd_at]) (by rw [e3, upd_at]) (by rw [o3 230 (by decide), o2 230 (by decide), e1]; have z := n4 0 (by omega); rw [show nx + 39 - 0 = nx + 39 by omega] at z; rw [show 149 + 2 * ((nx + 39) % 40) + 1 = 150 + 2 * ((nx + 39) % 40) by omega]; exact rs_c z) (fun q q1 q2 => by rw [o3 q q1, o2 q q1, o1 q (by omega)])) (fun q q1 q2 => by rw [o3 q q1, o2 q q1, o1 q (by omega)])
set_option maxRecDepth 20000 in
set_option maxHeartbeats 1000000 in
theorem d_undo {G : Gt} {l : Launch} {Z : Zt} {R : Rt} {I : It} {L : Lt} {post : Pt'} {V : Vt} {N : Nat} (W : WF Z R) (C : CI V R I L) (hG : GG N V) (hN : N < 2147483647) (h : ∀ I' R' L', CI (undV V) R' I' L' → CF R I L R' I' L' → post (some (.int (undR V))) Z R' I' L') : Cx G l mX11_undo 4 0 0 [.ref 100] Z R I L post := by
  refine Cx.of (by decide +kernel) (by exact Nat.le_of_ble_eq_true rfl) ?_
  have hB := hG.1.bnd
  have hp6 := hG.1.p
  have hb := hG.1.b
  have h00 := hG.1.1.1
  refine Sx.aload_n dX11_undo_0 rfl ?_
  refine Sx.getfR dX11_undo_1 lkf_X11_82_11 (o_100 W) (r_100_10 W) ?_
  refine Sx.aload_n dX11_undo_4 rfl ?_
  refine Sx.getfR dX11_undo_5 lkf_X11_89_11 (o_100 W) (r_100_11 W) ?_
  refine Sx.callV1 dX11_undo_8 lkv_X11_242 (rcv_2 (o_147 W)) (by decide) (by decide) (Nat.le_of_ble_eq_true rfl) rfl rfl (d_restores W C hb hG.1.b4 (fun I1 h4 C1 o1 => ?_) (fun h4 => ?_))
  · skip
    refine Sx.if_eqB (t := 24) dX11_undo_11 (by decide) (fun c11 => False.elim (by cases c11)) (fun c11 => ?_)
    refine Sx.aload_n dX11_undo_14 rfl ?_
    refine Sx.getfR dX11_undo_15 lkf_X11_82_11 (o_100 W) (r_100_10 W) ?_
    refine Sx.callV0 dX11_undo_18 lkv_X11_246 (rcv_2 (o_147 W)) (by decide) (by decide) (Nat.le_of_ble_eq_true rfl) rfl rfl (d_hsize W C1 ?_)
    refine Sx.goto (t := 25) dX11_undo_21 (by decide) ?_
    refine Sx.iret dX11_undo_25 rfl rfl ?_
    exact pXX (by unfold undR; rw [if_pos h4]; rfl) (h I1 R L (by unfold undV; rw [if_pos h4]; exact C1) (CF.i fun q hq => o1 q (by omega) (by omega)))
  · skip
    refine Sx.if_eqB (t := 24) dX11_undo_11 (by decide) (fun c11 => ?_) (fun c11 => False.elim (by cases c11))
    refine Sx.iconst (v := (iI (-1))) dX11_undo_24 (by decide) ?_
    refine Sx.iret dX11_undo_25 rfl rfl ?_
    exact pXX (by unfold undR; rw [if_neg (fun z => z h4)]; rfl) (h I R L (by unfold undV; rw [if_neg (fun z => z h4)]; exact C) (CF.rf R I L))
set_option maxRecDepth 20000 in
set_option maxHeartbeats 1000000 in
theorem d_image {G : Gt} {l : Launch} {Z : Zt} {R : Rt} {I : It} {L : Lt} {post : Pt'} {V : Vt} {N : Nat} (W : WF Z R) (C : CI V R I L) (hG : GG N V) (hN : N < 2147483647) (h : ∀ I' R' L', CI (imgV V) R' I' L' → CF R I L R' I' L' → post (some (.int (imgR V))) Z R' I' L') : Cx G l mX11_image 4 0 0 [.ref 100] Z R I L post := by
  refine Cx.of (by decide +kernel) (by exact Nat.le_of_ble_eq_true rfl) ?_
  have hB := hG.1.bnd
  have hp6 := hG.1.p
  have hb := hG.1.b
  have h00 := hG.1.1.1
  refine Sx.aload_n dX11_image_0 rfl ?_
  refine Sx.callV0 dX11_image_1 lkv_X11_223 (rcv_11 (o_100 W)) (by decide) (by decide) (Nat.le_of_ble_eq_true rfl) rfl rfl (d_isPort W C (by omega) ?_)
  refine Sx.if_neD (t := 9) dX11_image_4 (by decide) (fun c4 => ?_) (fun c4 => ?_)
  · refine Sx.aload_n dX11_image_9 rfl ?_
    refine Sx.getfR dX11_image_10 lkf_X11_93_11 (o_100 W) (r_100_12 W) ?_
    refine Sx.aload_n dX11_image_13 rfl ?_
    refine Sx.getfR dX11_image_14 lkf_X11_89_11 (o_100 W) (r_100_11 W) ?_
    refine Sx.callU1 dX11_image_17 lku_X11_368 (rcv_8 (o_231 W)) (by decide) (by decide) (Nat.le_of_ble_eq_true rfl) rfl rfl (c_X7_copy (w_231r W) (by unfold rowC; decide) (by decide) (w_229r W) (by unfold rowC; decide) (fun I1 e1 o1 => ?_))
    refine Sx.aload_n dX11_image_20 rfl ?_
    refine Sx.iconst (v := (nI 1)) dX11_image_21 (by decide) ?_
    refine Sx.putfV dX11_image_22 lkp_X11_96_11 (o_100 W) rfl rfl (fun I2 e2 o2 => ?_)
    refine Sx.aload_n dX11_image_25 rfl ?_
    refine Sx.getfR dX11_image_26 lkf_X11_89_11 (o_100 W) (r_100_11 W) ?_
    refine Sx.sipush (v := (nI 145)) dX11_image_29 (by decide) ?_
    refine Sx.callU1 dX11_image_32 lku_X11_184 (rcv_8 (o_229 W)) (by decide) (by decide) (Nat.le_of_ble_eq_true rfl) rfl rfl (c_sg (w_229r W) (by rw [o2 230 (by decide), o1 230 (by decide)]; exact C.2.2.1) 145 rfl (by decide) (by decide) ?_)
    refine Sx.iret dX11_image_35 rfl rfl ?_
    have hp : V 2 35 ≠ 0 := by omega
    exact pXX (by unfold imgR; rw [if_pos hp]) (h I2 R L (by unfold imgV; rw [if_pos hp]; exact C.im hb (by rw [e2, o1 100 (by decide)]) (by rw [o2 232 (by decide), e1]; exact rs_c C.2.2.1) (fun q q1 q2 => by rw [o2 q q1, o1 q q2])) (CF.i fun q hq => by rw [o2 q (by omega), o1 q (by omega)]))
  · refine Sx.iconst (v := (iI (-1))) dX11_image_7 (by decide) ?_
    refine Sx.iret dX11_image_8 rfl rfl ?_
    have hn : ¬ V 2 35 ≠ 0 := by omega
    exact pXX (by unfold imgR; rw [if_neg hn]; rfl) (h I R L (by unfold imgV; rw [if_neg hn]; exact C) (CF.rf R I L))
set_option maxRecDepth 20000 in
set_option maxHeartbeats 1000000 in
theorem d_hclear {G : Gt} {l : Launch} {Z : Zt} {R : Rt} {I : It} {L : Lt} {post : Pt'}  (W : WF Z R) (h : ∀ I', I' 147 = upd (I 147) 1 (nI 0) → (∀ q, q ≠ 147 → I' q = I q) → post none Z R I' L) : Cx G l mX2_clear 1 0 0 [.ref 147] Z R I L post := by
  refine Cx.of (by decide +kernel) (by exact Nat.le_of_ble_eq_true rfl) ?_
  refine Sx.aload_n dX2_clear_0 rfl ?_
  refine Sx.iconst (v := (nI 0)) dX2_clear_1 (by decide) ?_
  refine Sx.putfV dX2_clear_2 lkp_X2_15_2 (o_147 W) rfl rfl (fun I1 e1 o1 => ?_)
  refine Sx.vret dX2_clear_5 rfl ?_
  exact h I1 e1 o1
set_option maxRecDepth 20000 in
set_option maxHeartbeats 1000000 in
theorem d_back {G : Gt} {l : Launch} {Z : Zt} {R : Rt} {I : It} {L : Lt} {post : Pt'} {V : Vt} {N : Nat} (W : WF Z R) (C : CI V R I L) (hG : GG N V) (hN : N < 2147483647) (h : ∀ I' R' L', CI (bacV V) R' I' L' → CF R I L R' I' L' → post (some (.int (bacR V))) Z R' I' L') : Cx G l mX11_back 4 0 0 [.ref 100] Z R I L post := by
  refine Cx.of (by decide +kernel) (by exact Nat.le_of_ble_eq_true rfl) ?_
  have hB := hG.1.bnd
  have hp6 := hG.1.p
  have hb := hG.1.b
  have h00 := hG.1.1.1
  have h05 := hG.1.2.2.2.1.2.1
  refine Sx.aload_n dX11_back_0 rfl ?_
  refine Sx.getfV (v := (nI (V 0 5))) dX11_back_1 lkf_X11_96_11 (o_100 W) C.2.2.2.1.1 ?_
  refine Sx.if_neV (t := 9) dX11_back_4 (by decide) (vN (by omega)) (fun c4 => ?_) (fun c4 => ?_)
  · have h51 : V 0 5 = 1 := by have := hG.1.2.2.2.1.2.1; omega
    refine Sx.aload_n dX11_back_9 rfl ?_
    refine Sx.getfR dX11_back_10 lkf_X11_89_11 (o_100 W) (r_100_11 W) ?_
    refine Sx.aload_n dX11_back_13 rfl ?_
    refine Sx.getfR dX11_back_14 lkf_X11_93_11 (o_100 W) (r_100_12 W) ?_
    refine Sx.callU1 dX11_back_17 lku_X11_368 (rcv_8 (o_229 W)) (by decide) (by decide) (Nat.le_of_ble_eq_true rfl) rfl rfl (c_X7_copy (w_229r W) (by unfold rowC; decide) (by decide) (w_231r W) (by unfold rowC; decide) (fun I1 e1 o1 => ?_))
    refine Sx.aload_n dX11_back_20 rfl ?_
    refine Sx.getfR dX11_back_21 lkf_X11_82_11 (o_100 W) (r_100_10 W) ?_
    refine Sx.callV0 dX11_back_24 lkv_X11_171 (rcv_2 (o_147 W)) (by decide) (by decide) (Nat.le_of_ble_eq_true rfl) rfl rfl (d_hclear W (fun I2 e2 o2 => ?_))
    refine Sx.aload_n dX11_back_27 rfl ?_
    refine Sx.getfR dX11_back_28 lkf_X11_89_11 (o_100 W) (r_100_11 W) ?_
    refine Sx.sipush (v := (nI 145)) dX11_back_31 (by decide) ?_
    refine Sx.callU1 dX11_back_34 lku_X11_184 (rcv_8 (o_229 W)) (by decide) (by decide) (Nat.le_of_ble_eq_true rfl) rfl rfl (c_sg (w_229r W) (by rw [o2 230 (by decide), e1]; exact rs_c (C.2.2.2.2.2.2.2.2.1 h51)) 145 rfl (by decide) (by decide) ?_)
    refine Sx.iret dX11_back_37 rfl rfl ?_
    have hp : V 0 5 ≠ 0 := by omega
    exact pXX (by unfold bacR; rw [if_pos hp]) (h I2 R L (by unfold bacV; rw [if_pos hp]; exact C.bk hb (by rw [e2, o1 147 (by decide)]) (by rw [o2 230 (by decide), e1]; exact rs_c (C.2.2.2.2.2.2.2.2.1 h51)) (fun q q1 q2 => by rw [o2 q q1, o1 q q2])) (CF.i fun q hq => by rw [o2 q (by omega), o1 q (by omega)]))
  · refine Sx.iconst (v := (iI (-1))) dX11_back_7 (by decide) ?_
    refine Sx.iret dX11_back_8 rfl rfl ?_
    have hn : ¬ V 0 5 ≠ 0 := by omega
    exact pXX (by unfold bacR; rw [if_neg hn]; rfl) (h I R L (by unfold bacV; rw [if_neg hn]; exact C) (CF.rf R I L))
set_option maxRecDepth 20000 in
set_option maxHeartbeats 1000000 in
theorem d_lawN {G : Gt} {l : Launch} {Z : Zt} {R : Rt} {I : It} {L : Lt} {post : Pt'} {V : Vt} {N : Nat} (W : WF Z R) (C : CI V R I L) (hG : GG N V) (hN : N < 2147483647) (h : ∀ I' R' L', CI (lawV V (iI (-1))) R' I' L' → CF R I L R' I' L' → post (some (.int (b2i (decide (-1 ≤ (iI (-1)).toInt ∧ (iI (-1)).toInt < (V 0 1 : Int)))))) Z R' I' L') : Cx G l mX11_law 3 0 0 [.ref 100, .int (iI (-1))] Z R I L post := by
  refine Cx.of (by decide +kernel) (by exact Nat.le_of_ble_eq_true rfl) ?_
  have hB := hG.1.bnd
  have hp6 := hG.1.p
  have hb := hG.1.b
  have h00 := hG.1.1.1
  refine Sx.iload_n dX11_law_0 rfl ?_
  refine Sx.iconst (v := (iI (-1))) dX11_law_1 (by decide) ?_
  refine Sx.icmp_ltV (t := 13) dX11_law_2 (by decide) (vZ (by decide)) (vZ (by decide)) (fun c2 => False.elim (by omega)) (fun c2 => ?_)
  refine Sx.iload_n dX11_law_5 rfl ?_
  refine Sx.aload_n dX11_law_6 rfl ?_
  refine Sx.getfV (v := (nI (V 0 1))) dX11_law_7 lkf_X11_100_11 (o_100 W) C.2.2.2.1.2.1 ?_
  refine Sx.icmp_ltV (t := 15) dX11_law_10 (by decide) (vZ (by decide)) (vN (by omega)) (fun c10 => ?_) (fun c10 => False.elim (by omega))
  refine Sx.aload_n dX11_law_15 rfl ?_
  refine Sx.iload_n dX11_law_16 rfl ?_
  refine Sx.putfV dX11_law_17 lkp_X11_107_11 (o_100 W) rfl rfl (fun I1 e1 o1 => ?_)
  refine Sx.aload_n dX11_law_20 rfl ?_
  refine Sx.getfR dX11_law_21 lkf_X11_59_11 (o_100 W) (r_100_7 W) ?_
  refine Sx.aload_n dX11_law_24 rfl ?_
  refine Sx.iload_n dX11_law_25 rfl ?_
  refine Sx.callV1 dX11_law_26 lkv_X11_148 (rcv_11 (o_100 W)) (by decide) (by decide) (Nat.le_of_ble_eq_true rfl) rfl rfl (d_lawAt0 W (by decide) ?_)
  refine Sx.callV1 dX11_law_29 lkv_X11_198 (rcv_1 (o_114 W)) (by decide) (by decide) (Nat.le_of_ble_eq_true rfl) rfl rfl (c_setLaw0 W ?_)
  refine Sx.iconst (v := (nI 1)) dX11_law_32 (by decide) ?_
  refine Sx.top (show _ = b2i true from rfl) ?_
  refine Sx.iret dX11_law_33 rfl (b2i_n _) ?_
  have hc : -1 ≤ (iI (-1)).toInt ∧ (iI (-1)).toInt < (V 0 1 : Int) := ⟨by decide, by rw [show (iI (-1)).toInt = -1 by decide]; omega⟩
  have hv : ((iI (-1)).toInt + 1).toNat = 0 := by decide
  have hf : ∀ a j, ¬ (a = 114 ∧ j = 3) → up2R R 114 3 none a j = R a j := fun a j z => by
    unfold up2R va_up
    by_cases c : a = 114
    · subst c; rw [if_pos rfl, if_neg (fun q => z ⟨rfl, q⟩)]
    · rw [if_neg c]
  have h3 : up2R R 114 3 none 114 3 = none := by unfold up2R va_up; rw [if_pos rfl, if_pos rfl]
  exact pBB (decide_eq_true hc) (h I1 (up2R R 114 3 none) L (by unfold lawV; rw [if_pos hc, hv]; exact C.r0 (fun p h0 => vs_o V h0) (fun q q2 _ => vs_c V q2) ⟨by rw [e1, upd_at, vs_a]; rfl, by rw [e1, upd_nj _ _ (by decide), vs_c V (by decide)]; exact C.2.2.2.1.2.2.2.2⟩ (fun j j1 _ => by rw [e1, upd_nj _ _ j1]) (by rw [h3, vs_a]; rfl) o1) ⟨fun q hq => o1 q (by omega), fun _ _ => rfl, hf⟩)
set_option maxRecDepth 20000 in
set_option maxHeartbeats 1000000 in
theorem d_lawP {G : Gt} {l : Launch} {Z : Zt} {R : Rt} {I : It} {L : Lt} {post : Pt'} {V : Vt} {N : Nat} {p : Nat} (W : WF Z R) (C : CI V R I L) (hG : GG N V) (hN : N < 2147483647) (hp : p < V 0 1) (h : ∀ I' R' L', CI (lawV V (nI p)) R' I' L' → CF R I L R' I' L' → post (some (.int (b2i (decide (-1 ≤ (nI p).toInt ∧ (nI p).toInt < (V 0 1 : Int)))))) Z R' I' L') : Cx G l mX11_law 3 0 0 [.ref 100, .int (nI p)] Z R I L post := by
  refine Cx.of (by decide +kernel) (by exact Nat.le_of_ble_eq_true rfl) ?_
  have hB := hG.1.bnd
  have hp6 := hG.1.p
  have hb := hG.1.b
  have h00 := hG.1.1.1
  refine Sx.iload_n dX11_law_0 rfl ?_
  refine Sx.iconst (v := (iI (-1))) dX11_law_1 (by decide) ?_
  refine Sx.icmp_ltV (t := 13) dX11_law_2 (by decide) (vN (by omega)) (vZ (by decide)) (fun c2 => False.elim (by omega)) (fun c2 => ?_)
  refine Sx.iload_n dX11_law_5 rfl ?_
  refine Sx.aload_n dX11_law_6 rfl ?_
  refine Sx.getfV (v := (nI (V 0 1))) dX11_law_7 lkf_X11_100_11 (o_100 W) C.2.2.2.1.2.1 ?_
  refine Sx.icmp_ltV (t := 15) dX11_law_10 (by decide) (vN (by omega)) (vN (by omega)) (fun c10 => ?_) (fun c10 => False.elim (by omega))
  refine Sx.aload_n dX11_law_15 rfl ?_
  refine Sx.iload_n dX11_law_16 rfl ?_
  refine Sx.putfV dX11_law_17 lkp_X11_107_11 (o_100 W) rfl rfl (fun I1 e1 o1 => ?_)
  refine Sx.aload_n dX11_law_20 rfl ?_
  refine Sx.getfR dX11_law_21 lkf_X11_59_11 (o_100 W) (r_100_7 W) ?_
  refine Sx.aload_n dX11_law_24 rfl ?_
  refine Sx.iload_n dX11_law_25 rfl ?_
  refine Sx.callV1 dX11_law_26 lkv_X11_148 (rcv_11 (o_100 W)) (by decide) (by decide) (Nat.le_of_ble_eq_true rfl) rfl rfl (d_lawAt W (k := p) (by omega) ?_)
  refine Sx.callV1 dX11_law_29 lkv_X11_198 (rcv_1 (o_114 W)) (by decide) (by decide) (Nat.le_of_ble_eq_true rfl) rfl rfl (c_setLaw W ?_)
  refine Sx.iconst (v := (nI 1)) dX11_law_32 (by decide) ?_
  refine Sx.top (show _ = b2i true from rfl) ?_
  refine Sx.iret dX11_law_33 rfl (b2i_n _) ?_
  have hc : -1 ≤ (nI p).toInt ∧ (nI p).toInt < (V 0 1 : Int) := ⟨by rw [nI_toInt (by omega)]; omega, by rw [nI_toInt (by omega)]; omega⟩
  have hv : ((nI p).toInt + 1).toNat = p + 1 := by rw [nI_toInt (by omega)]; omega
  have hf : ∀ a j, ¬ (a = 114 ∧ j = 3) → up2R R 114 3 (some (233 + 2 * p)) a j = R a j := fun a j z => by
    unfold up2R va_up
    by_cases c : a = 114
    · subst c; rw [if_pos rfl, if_neg (fun q => z ⟨rfl, q⟩)]
    · rw [if_neg c]
  have h3 : up2R R 114 3 (some (233 + 2 * p)) 114 3 = (some (233 + 2 * p)) := by unfold up2R va_up; rw [if_pos rfl, if_pos rfl]
  exact pBB (decide_eq_true hc) (h I1 (up2R R 114 3 (some (233 + 2 * p))) L (by unfold lawV; rw [if_pos hc, hv]; exact C.r0 (fun p h0 => vs_o V h0) (fun q q2 _ => vs_c V q2) ⟨by rw [e1, upd_at, vs_a]; rw [nI_iI]; congr 1; omega, by rw [e1, upd_nj _ _ (by decide), vs_c V (by decide)]; exact C.2.2.2.1.2.2.2.2⟩ (fun j j1 _ => by rw [e1, upd_nj _ _ j1]) (by rw [h3, vs_a]; rw [if_neg (by omega), Nat.add_sub_cancel]) o1) ⟨fun q hq => o1 q (by omega), fun _ _ => rfl, hf⟩)
set_option maxRecDepth 20000 in
set_option maxHeartbeats 1000000 in
theorem d_lawF {G : Gt} {l : Launch} {Z : Zt} {R : Rt} {I : It} {L : Lt} {post : Pt'} {V : Vt} {N : Nat} {x : Int32} (W : WF Z R) (C : CI V R I L) (hG : GG N V) (hN : N < 2147483647) (hn : ¬ (-1 ≤ x.toInt ∧ x.toInt < (V 0 1 : Int))) (h : ∀ I' R' L', CI (lawV V x) R' I' L' → CF R I L R' I' L' → post (some (.int (b2i (decide (-1 ≤ x.toInt ∧ x.toInt < (V 0 1 : Int)))))) Z R' I' L') : Cx G l mX11_law 3 0 0 [.ref 100, .int x] Z R I L post := by
  refine Cx.of (by decide +kernel) (by exact Nat.le_of_ble_eq_true rfl) ?_
  have hB := hG.1.bnd
  have hp6 := hG.1.p
  have hb := hG.1.b
  have h00 := hG.1.1.1
  have hx := x_rg x
  refine Sx.iload_n dX11_law_0 rfl ?_
  refine Sx.iconst (v := (iI (-1))) dX11_law_1 (by decide) ?_
  refine Sx.icmp_ltV (t := 13) dX11_law_2 (by decide) (vX x) (vZ (by decide)) (fun c2 => ?_) (fun c2 => ?_)
  · refine Sx.iconst (v := (nI 0)) dX11_law_13 (by decide) ?_
    refine Sx.top (show _ = b2i false from rfl) ?_
    refine Sx.iret dX11_law_14 rfl (b2i_n _) ?_
    exact pBB (decide_eq_false hn) (h I R L (by unfold lawV; rw [if_neg hn]; exact C) (CF.rf R I L))
  · refine Sx.iload_n dX11_law_5 rfl ?_
    refine Sx.aload_n dX11_law_6 rfl ?_
    refine Sx.getfV (v := (nI (V 0 1))) dX11_law_7 lkf_X11_100_11 (o_100 W) C.2.2.2.1.2.1 ?_
    refine Sx.icmp_ltV (t := 15) dX11_law_10 (by decide) (vX x) (vN (by omega)) (fun c10 => False.elim (by exact hn ⟨by omega, by omega⟩)) (fun c10 => ?_)
    refine Sx.iconst (v := (nI 0)) dX11_law_13 (by decide) ?_
    refine Sx.top (show _ = b2i false from rfl) ?_
    refine Sx.iret dX11_law_14 rfl (b2i_n _) ?_
    exact pBB (decide_eq_false hn) (h I R L (by unfold lawV; rw [if_neg hn]; exact C) (CF.rf R I L))
set_option maxRecDepth 20000 in
set_option maxHeartbeats 1000000 in
theorem d_law {G : Gt} {l : Launch} {Z : Zt} {R : Rt} {I : It} {L : Lt} {post : Pt'} {V : Vt} {N : Nat} {x : Int32} (W : WF Z R) (C : CI V R I L) (hG : GG N V) (hN : N < 2147483647) (h : ∀ I' R' L', CI (lawV V x) R' I' L' → CF R I L R' I' L' → post (some (.int (b2i (decide (-1 ≤ x.toInt ∧ x.toInt < (V 0 1 : Int)))))) Z R' I' L') : Cx G l mX11_law 3 0 0 [.ref 100, .int x] Z R I L post := by
  by_cases c : -1 ≤ x.toInt ∧ x.toInt < (V 0 1 : Int)
  · by_cases c1 : x.toInt = -1
    · have e : x = iI (-1) := (x_iI x).symm.trans (by rw [c1])
      subst e
      exact d_lawN W C hG hN h
    · obtain ⟨p, rfl, hp⟩ := x_ex (x := x) (n := V 0 1) ⟨by omega, c.2⟩
      exact d_lawP W C hG hN hp h
  · exact d_lawF W C hG hN c h
set_option maxRecDepth 20000 in
set_option maxHeartbeats 1000000 in
theorem d_whim {G : Gt} {l : Launch} {Z : Zt} {R : Rt} {I : It} {L : Lt} {post : Pt'} {V : Vt} {N : Nat} {x : Int32} (W : WF Z R) (C : CI V R I L) (hG : GG N V) (hN : N < 2147483647) (h : ∀ I' R' L', CI (whiV V x) R' I' L' → CF R I L R' I' L' → post (some (.int (b2i (decide (0 ≤ x.toInt ∧ x.toInt ≤ 9 ∧ x.toInt ≠ (V 0 6 : Int)))))) Z R' I' L') : Cx G l mX11_whim 1 0 0 [.ref 100, .int x] Z R I L post := by
  refine Cx.of (by decide +kernel) (by exact Nat.le_of_ble_eq_true rfl) ?_
  have hB := hG.1.bnd
  have hp6 := hG.1.p
  have hb := hG.1.b
  have h00 := hG.1.1.1
  have hw6 := hG.1.2.2.2.1.2.2.1
  have hx := x_rg x
  refine Sx.iload_n dX11_whim_0 rfl ?_
  refine Sx.if_ltV (t := 18) dX11_whim_1 (by decide) (vX x) (fun c1 => ?_) (fun c1 => ?_)
  · refine Sx.iconst (v := (nI 0)) dX11_whim_18 (by decide) ?_
    refine Sx.top (show _ = b2i false from rfl) ?_
    refine Sx.iret dX11_whim_19 rfl (b2i_n _) ?_
    have hn : ¬ (0 ≤ x.toInt ∧ x.toInt ≤ 9 ∧ x.toInt ≠ (V 0 6 : Int)) := by omega
    exact pBB (decide_eq_false hn) (h I R L (by unfold whiV; rw [if_neg hn]; exact C) (CF.rf R I L))
  · refine Sx.iload_n dX11_whim_4 rfl ?_
    refine Sx.bipush (v := (nI 9)) dX11_whim_5 (by decide) ?_
    refine Sx.icmp_gtV (t := 18) dX11_whim_7 (by decide) (vX x) (vN (by decide)) (fun c7 => ?_) (fun c7 => ?_)
    · refine Sx.iconst (v := (nI 0)) dX11_whim_18 (by decide) ?_
      refine Sx.top (show _ = b2i false from rfl) ?_
      refine Sx.iret dX11_whim_19 rfl (b2i_n _) ?_
      have hn : ¬ (0 ≤ x.toInt ∧ x.toInt ≤ 9 ∧ x.toInt ≠ (V 0 6 : Int)) := by omega
      exact pBB (decide_eq_false hn) (h I R L (by unfold whiV; rw [if_neg hn]; exact C) (CF.rf R I L))
    · refine Sx.iload_n dX11_whim_10 rfl ?_
      refine Sx.aload_n dX11_whim_11 rfl ?_
      refine Sx.getfV (v := (nI (V 0 6))) dX11_whim_12 lkf_X11_110_11 (o_100 W) C.2.2.2.1.2.2.2.2 ?_
      refine Sx.icmp_neV (t := 20) dX11_whim_15 (by decide) (vX x) (vN (by omega)) (fun c15 => ?_) (fun c15 => ?_)
      · refine Sx.aload_n dX11_whim_20 rfl ?_
        refine Sx.iload_n dX11_whim_21 rfl ?_
        refine Sx.putfV dX11_whim_22 lkp_X11_110_11 (o_100 W) rfl rfl (fun I1 e1 o1 => ?_)
        refine Sx.iconst (v := (nI 1)) dX11_whim_25 (by decide) ?_
        refine Sx.top (show _ = b2i true from rfl) ?_
        refine Sx.iret dX11_whim_26 rfl (b2i_n _) ?_
        have hc : 0 ≤ x.toInt ∧ x.toInt ≤ 9 ∧ x.toInt ≠ (V 0 6 : Int) := ⟨by omega, by omega, by omega⟩
        exact pBB (decide_eq_true hc) (h I1 R L (by unfold whiV; rw [if_pos hc]; exact C.r0 (fun p h0 => vs_o V h0) (fun q _ q6 => vs_c V q6) ⟨by rw [e1, upd_nj _ _ (by decide), vs_c V (by decide)]; exact C.2.2.2.1.2.2.2.1, by rw [e1, upd_at, vs_a]; exact x_nn hc.1⟩ (fun j _ j7 => by rw [e1, upd_nj _ _ j7]) (by rw [vs_c V (by decide)]; exact C.2.2.2.2.2.1) o1) (CF.i fun q hq => o1 q (by omega)))
      · refine Sx.iconst (v := (nI 0)) dX11_whim_18 (by decide) ?_
        refine Sx.top (show _ = b2i false from rfl) ?_
        refine Sx.iret dX11_whim_19 rfl (b2i_n _) ?_
        have hn : ¬ (0 ≤ x.toInt ∧ x.toInt ≤ 9 ∧ x.toInt ≠ (V 0 6 : Int)) := by omega
        exact pBB (decide_eq_false hn) (h I R L (by unfold whiV; rw [if_neg hn]; exact C) (CF.rf R I L))
