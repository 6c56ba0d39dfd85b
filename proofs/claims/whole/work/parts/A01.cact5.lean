/-! the class: what is seen, feed, end, lights -/
theorem d_rset {G : Gt} {l : Launch} {Z : Zt} {R : Rt} {I : It} {L : Lt} {post : Pt'} {a c n k : Nat} {x : Int32} (hr : rwo Z R a c n) (hc : rowC c) (hn : n < 2 ^ 31) (hk : k < n) (h : ∀ I', I' (a + 1) = upd (I (a + 1)) k x → (∀ q, q ≠ a + 1 → I' q = I q) → post none Z R I' L) : Cx G l mX7_set 1 0 0 [.ref a, .int (nI k), .int x] Z R I L post :=
  c_X7_set hr hc hn (fun I' e o => h I' (by rw [e]; unfold rset; rw [if_pos ⟨nI_pos' (by omega), nI_lt hk hn⟩, nI_clamp (by omega)]) o)
theorem CI.sn {V : Vt} {R : Rt} {I I' : It} {L L' : Lt} {n v b : Nat} (h : CI V R I L) (e7 : I' 136 7 = nI (V 0 7 + 1)) (e1 : I' 140 = upd (I 140) (V 0 7) (nI n)) (e2 : I' 142 = upd (I 142) (V 0 7) (nI v)) (e3 : I' 144 = upd (I 144) (V 0 7) (nI b)) (o : ∀ q, q ≠ 136 → q ≠ 140 → q ≠ 142 → q ≠ 144 → I' q = I q) : CI (snV V n v b) R I' L' := by
  obtain ⟨a1, a2, a3, a4, a5, a6, a7, a8, a9, ⟨nx, b1, b2, b3, b4⟩, a11⟩ := h
  have r : ∀ p, p ≠ 0 → p ≠ 6 → p ≠ 7 → p ≠ 8 → snV V n v b p = V p := fun p h0 h6 h7 h8 => sn_o V n v b h0 h6 h7 h8
  have c : ∀ q, q ≠ 7 → snV V n v b 0 q = V 0 q := fun q hq => sn_0 V n v b hq
  have oo : ∀ q, ¬ (q = 136 ∨ q = 140 ∨ q = 142 ∨ q = 144) → I' q = I q := fun q hq => o q (by omega) (by omega) (by omega) (by omega)
  refine ⟨?_, ?_, ?_, ?_, fun i hi => ?_, ?_, fun i hi => ?_, ?_, ?_, ⟨nx, b1, ?_, ?_, fun i hi => ?_⟩, ?_⟩
  · rw [oo 101 (by decide), oo 102 (by decide), c 0 (by decide), r 1 (by decide) (by decide) (by decide) (by decide)]; exact a1
  · rw [oo 104 (by decide), r 2 (by decide) (by decide) (by decide) (by decide)]; exact a2
  · rw [oo 230 (by decide), r 3 (by decide) (by decide) (by decide) (by decide)]; exact a3
  · rw [oo 100 (by decide), c 5 (by decide), c 1 (by decide), c 3 (by decide), c 2 (by decide), c 6 (by decide)]; exact a4
  · rw [c 1 (by decide)] at hi; unfold LI; rw [oo (233 + 2 * i) (by omega), oo (233 + 2 * i + 1) (by omega), r (10 + i) (by omega) (by omega) (by omega) (by omega)]; exact a5 i hi
  · rw [c 2 (by decide)]; exact a6
  · rw [c 3 (by decide)] at hi; rw [oo (243 + 2 * i) (by omega), oo (243 + 2 * i + 1) (by omega), r (20 + i) (by omega) (by omega) (by omega) (by omega)]; exact a7 i hi
  · rw [oo 113 (by decide), r 4 (by decide) (by decide) (by decide) (by decide)]; exact a8
  · rw [oo 232 (by decide), c 5 (by decide), r 5 (by decide) (by decide) (by decide) (by decide)]; exact a9
  · rw [oo 147 (by decide)]; exact b2
  · rw [oo 147 (by decide), c 4 (by decide)]; exact b3
  · rw [c 4 (by decide)] at hi
    have := Nat.mod_lt (nx + 39 - i) (show 0 < 40 by decide)
    rw [oo _ (by omega), r (30 + i) (by omega) (by omega) (by omega) (by omega)]; exact b4 i hi
  · refine ⟨by rw [sn_7]; exact e7, fun i hi => ?_⟩
    rw [sn_7] at hi
    have e6 : snV V n v b 6 = upn (V 6) (V 0 7) n := by unfold snV; rw [vs_o _ (by decide), vs_o _ (by decide), vs_o _ (by decide)]; unfold vs; rw [if_pos rfl]
    have e77 : snV V n v b 7 = upn (V 7) (V 0 7) v := by unfold snV; rw [vs_o _ (by decide), vs_o _ (by decide)]; unfold vs; rw [if_pos rfl, if_neg (by decide)]
    have e8 : snV V n v b 8 = upn (V 8) (V 0 7) b := by unfold snV; rw [vs_o _ (by decide)]; unfold vs; rw [if_pos rfl, if_neg (by decide), if_neg (by decide)]
    rw [e6, e77, e8, e1, e2, e3]
    by_cases q : i = V 0 7
    · subst q; rw [upn_eq, upn_eq, upn_eq, upd_at, upd_at, upd_at]; exact ⟨rfl, rfl, rfl⟩
    · rw [upn_ne _ _ q, upn_ne _ _ q, upn_ne _ _ q, upd_nj _ _ q, upd_nj _ _ q, upd_nj _ _ q]; exact a11.2 i (by omega)
theorem CI.tp {V : Vt} {R : Rt} {I I' : It} {L L' : Lt} {n : Nat} {T : Nat → Nat} (h : CI V R I L) (e : I' 101 1 = nI n) (t : ∀ j, j < n → I' 102 j = nI (T j)) (o : ∀ q, q ≠ 101 → q ≠ 102 → I' q = I q) : CI (tpV V n T) R I' L' := by
  obtain ⟨a1, a2, a3, a4, a5, a6, a7, a8, a9, ⟨nx, b1, b2, b3, b4⟩, a11⟩ := h
  have r : ∀ p, p ≠ 0 → p ≠ 1 → tpV V n T p = V p := fun p h0 h1 => tp_o V n T h0 h1
  have c : ∀ q, q ≠ 0 → tpV V n T 0 q = V 0 q := fun q hq => tp_0 V n T hq
  have oo : ∀ q, ¬ (q = 101 ∨ q = 102) → I' q = I q := fun q hq => o q (by omega) (by omega)
  refine ⟨?_, ?_, ?_, ?_, fun i hi => ?_, ?_, fun i hi => ?_, ?_, ?_, ⟨nx, b1, ?_, ?_, fun i hi => ?_⟩, ?_⟩
  · rw [tp_00, tp_1]; exact ⟨e, t⟩
  · rw [oo 104 (by decide), r 2 (by decide) (by decide)]; exact a2
  · rw [oo 230 (by decide), r 3 (by decide) (by decide)]; exact a3
  · rw [oo 100 (by decide), c 5 (by decide), c 1 (by decide), c 3 (by decide), c 2 (by decide), c 6 (by decide)]; exact a4
  · rw [c 1 (by decide)] at hi; unfold LI; rw [oo (233 + 2 * i) (by omega), oo (233 + 2 * i + 1) (by omega), r (10 + i) (by omega) (by omega)]; exact a5 i hi
  · rw [c 2 (by decide)]; exact a6
  · rw [c 3 (by decide)] at hi; rw [oo (243 + 2 * i) (by omega), oo (243 + 2 * i + 1) (by omega), r (20 + i) (by omega) (by omega)]; exact a7 i hi
  · rw [oo 113 (by decide), r 4 (by decide) (by decide)]; exact a8
  · rw [oo 232 (by decide), c 5 (by decide), r 5 (by decide) (by decide)]; exact a9
  · rw [oo 147 (by decide)]; exact b2
  · rw [oo 147 (by decide), c 4 (by decide)]; exact b3
  · rw [c 4 (by decide)] at hi
    rw [oo _ (by omega), r (30 + i) (by omega) (by omega)]; exact b4 i hi
  · rw [oo 136 (by decide), oo 140 (by decide), oo 142 (by decide), oo 144 (by decide), c 7 (by decide), r 6 (by decide) (by decide), r 7 (by decide) (by decide), r 8 (by decide) (by decide)]; exact a11
set_option maxRecDepth 20000 in
set_option maxHeartbeats 1000000 in
theorem d_isFull {G : Gt} {l : Launch} {Z : Zt} {R : Rt} {I : It} {L : Lt} {post : Pt'} {V : Vt} (W : WF Z R) (C : CI V R I L) (h7 : V 0 7 ≤ 10) (h : post (some (.int (b2i (decide (10 ≤ V 0 7))))) Z R I L) : Cx G l mX10_isFull 1 0 0 [.ref 136] Z R I L post := by
  refine Cx.of (by decide +kernel) (by exact Nat.le_of_ble_eq_true rfl) ?_
  refine Sx.aload_n dX10_isFull_0 rfl ?_
  refine Sx.getfV (v := (nI (V 0 7))) dX10_isFull_1 lkf_X10_36_10 (o_136 W) C.2.2.2.2.2.2.2.2.2.2.1 ?_
  refine Sx.bipush (v := (nI 10)) dX10_isFull_4 (by decide) ?_
  refine Sx.icmp_ltV (t := 13) dX10_isFull_6 (by decide) (vN (by omega)) (vN (by decide)) (fun c6 => ?_) (fun c6 => ?_)
  · refine Sx.iconst (v := (nI 0)) dX10_isFull_13 (by decide) ?_
    refine Sx.top (show _ = b2i false from rfl) ?_
    refine Sx.iret dX10_isFull_14 rfl (b2i_n _) ?_
    exact pBB (decide_eq_false (by omega)) h
  · refine Sx.iconst (v := (nI 1)) dX10_isFull_9 (by decide) ?_
    refine Sx.goto (t := 14) dX10_isFull_10 (by decide) ?_
    refine Sx.top (show _ = b2i true from rfl) ?_
    refine Sx.iret dX10_isFull_14 rfl (b2i_n _) ?_
    exact pBB (decide_eq_true (by omega)) h
set_option maxRecDepth 20000 in
set_option maxHeartbeats 1000000 in
theorem d_note1 {G : Gt} {l : Launch} {Z : Zt} {R : Rt} {I : It} {L : Lt} {post : Pt'} {V : Vt} {n v : Nat} (W : WF Z R) (C : CI V R I L) (h9 : V 0 7 < 10) (h : ∀ I', CI (snV V n v 1) R I' L → (∀ q, q < 136 ∨ 144 < q → I' q = I q) → post none Z R I' L) : Cx G l mX10_note 2 0 0 [.ref 136, .int (nI n), .int (nI v), .int (b2i true)] Z R I L post := by
  refine Cx.of (by decide +kernel) (by exact Nat.le_of_ble_eq_true rfl) ?_
  refine Sx.aload_n dX10_note_0 rfl ?_
  refine Sx.getfR dX10_note_1 lkf_X10_23_10 (o_136 W) (r_136_3 W) ?_
  refine Sx.aload_n dX10_note_4 rfl ?_
  refine Sx.getfV (v := (nI (V 0 7))) dX10_note_5 lkf_X10_36_10 (o_136 W) C.2.2.2.2.2.2.2.2.2.2.1 ?_
  refine Sx.iload_n dX10_note_8 rfl ?_
  refine Sx.callV2 dX10_note_9 lkv_X10_48 (rcv_7 (o_139 W)) (by decide) (by decide) (Nat.le_of_ble_eq_true rfl) rfl rfl (d_rset (w_139r W) (by unfold rowC; decide) (by decide) h9 (fun I1 e1 o1 => ?_))
  refine Sx.aload_n dX10_note_12 rfl ?_
  refine Sx.getfR dX10_note_13 lkf_X10_27_10 (o_136 W) (r_136_4 W) ?_
  refine Sx.aload_n dX10_note_16 rfl ?_
  refine Sx.getfV (v := (nI (V 0 7))) dX10_note_17 lkf_X10_36_10 (o_136 W) (by rw [o1 136 (by decide)]; exact C.2.2.2.2.2.2.2.2.2.2.1) ?_
  refine Sx.iload_n dX10_note_20 rfl ?_
  refine Sx.callV2 dX10_note_21 lkv_X10_48 (rcv_7 (o_141 W)) (by decide) (by decide) (Nat.le_of_ble_eq_true rfl) rfl rfl (d_rset (w_141r W) (by unfold rowC; decide) (by decide) h9 (fun I2 e2 o2 => ?_))
  refine Sx.aload_n dX10_note_24 rfl ?_
  refine Sx.getfR dX10_note_25 lkf_X10_30_10 (o_136 W) (r_136_5 W) ?_
  refine Sx.aload_n dX10_note_28 rfl ?_
  refine Sx.getfV (v := (nI (V 0 7))) dX10_note_29 lkf_X10_36_10 (o_136 W) (by rw [o2 136 (by decide), o1 136 (by decide)]; exact C.2.2.2.2.2.2.2.2.2.2.1) ?_
  refine Sx.iload_n dX10_note_32 rfl ?_
  refine Sx.if_eqB (t := 40) dX10_note_33 (by decide) (fun c33 => False.elim (by cases c33)) (fun c33 => ?_)
  refine Sx.iconst (v := (nI 1)) dX10_note_36 (by decide) ?_
  refine Sx.goto (t := 41) dX10_note_37 (by decide) ?_
  refine Sx.callV2 dX10_note_41 lkv_X10_48 (rcv_7 (o_143 W)) (by decide) (by decide) (Nat.le_of_ble_eq_true rfl) rfl rfl (d_rset (w_143r W) (by unfold rowC; decide) (by decide) h9 (fun I3 e3 o3 => ?_))
  refine Sx.aload_n dX10_note_44 rfl ?_
  refine Sx.dup dX10_note_45 rfl ?_
  refine Sx.getfV (v := (nI (V 0 7))) dX10_note_46 lkf_X10_36_10 (o_136 W) (by rw [o3 136 (by decide), o2 136 (by decide), o1 136 (by decide)]; exact C.2.2.2.2.2.2.2.2.2.2.1) ?_
  refine Sx.iconst (v := (nI 1)) dX10_note_49 (by decide) ?_
  refine Sx.iaddN dX10_note_50 ?_
  refine Sx.putfV dX10_note_51 lkp_X10_36_10 (o_136 W) rfl rfl (fun I4 e4 o4 => ?_)
  refine Sx.vret dX10_note_54 rfl ?_
  exact h I4 (C.sn (n := n) (v := v) (b := 1) (by rw [e4, upd_at]) (by rw [o4 140 (by decide), o3 140 (by decide), o2 140 (by decide), e1]) (by rw [o4 142 (by decide), o3 142 (by decide), e2, o1 142 (by decide)]) (by rw [o4 144 (by decide), e3, o2 144 (by decide), o1 144 (by decide)]) (fun q q1 q2 q3 q4 => by rw [o4 q q1, o3 q q4, o2 q q3, o1 q q2])) (fun q hq => by rw [o4 q (by omega), o3 q (by omega), o2 q (by omega), o1 q (by omega)])
set_option maxRecDepth 20000 in
set_option maxHeartbeats 1000000 in
theorem d_note0 {G : Gt} {l : Launch} {Z : Zt} {R : Rt} {I : It} {L : Lt} {post : Pt'} {V : Vt} {n v : Nat} (W : WF Z R) (C : CI V R I L) (h9 : V 0 7 < 10) (h : ∀ I', CI (snV V n v 0) R I' L → (∀ q, q < 136 ∨ 144 < q → I' q = I q) → post none Z R I' L) : Cx G l mX10_note 2 0 0 [.ref 136, .int (nI n), .int (nI v), .int (b2i false)] Z R I L post := by
  refine Cx.of (by decide +kernel) (by exact Nat.le_of_ble_eq_true rfl) ?_
  refine Sx.aload_n dX10_note_0 rfl ?_
  refine Sx.getfR dX10_note_1 lkf_X10_23_10 (o_136 W) (r_136_3 W) ?_
  refine Sx.aload_n dX10_note_4 rfl ?_
  refine Sx.getfV (v := (nI (V 0 7))) dX10_note_5 lkf_X10_36_10 (o_136 W) C.2.2.2.2.2.2.2.2.2.2.1 ?_
  refine Sx.iload_n dX10_note_8 rfl ?_
  refine Sx.callV2 dX10_note_9 lkv_X10_48 (rcv_7 (o_139 W)) (by decide) (by decide) (Nat.le_of_ble_eq_true rfl) rfl rfl (d_rset (w_139r W) (by unfold rowC; decide) (by decide) h9 (fun I1 e1 o1 => ?_))
  refine Sx.aload_n dX10_note_12 rfl ?_
  refine Sx.getfR dX10_note_13 lkf_X10_27_10 (o_136 W) (r_136_4 W) ?_
  refine Sx.aload_n dX10_note_16 rfl ?_
  refine Sx.getfV (v := (nI (V 0 7))) dX10_note_17 lkf_X10_36_10 (o_136 W) (by rw [o1 136 (by decide)]; exact C.2.2.2.2.2.2.2.2.2.2.1) ?_
  refine Sx.iload_n dX10_note_20 rfl ?_
  refine Sx.callV2 dX10_note_21 lkv_X10_48 (rcv_7 (o_141 W)) (by decide) (by decide) (Nat.le_of_ble_eq_true rfl) rfl rfl (d_rset (w_141r W) (by unfold rowC; decide) (by decide) h9 (fun I2 e2 o2 => ?_))
  refine Sx.aload_n dX10_note_24 rfl ?_
  refine Sx.getfR dX10_note_25 lkf_X10_30_10 (o_136 W) (r_136_5 W) ?_
  refine Sx.aload_n dX10_note_28 rfl ?_
  refine Sx.getfV (v := (nI (V 0 7))) dX10_note_29 lkf_X10_36_10 (o_136 W) (by rw [o2 136 (by decide), o1 136 (by decide)]; exact C.2.2.2.2.2.2.2.2.2.2.1) ?_
  refine Sx.iload_n dX10_note_32 rfl ?_
  refine Sx.if_eqB (t := 40) dX10_note_33 (by decide) (fun c33 => ?_) (fun c33 => False.elim (by cases c33))
  refine Sx.iconst (v := (nI 0)) dX10_note_40 (by decide) ?_
  refine Sx.callV2 dX10_note_41 lkv_X10_48 (rcv_7 (o_143 W)) (by decide) (by decide) (Nat.le_of_ble_eq_true rfl) rfl rfl (d_rset (w_143r W) (by unfold rowC; decide) (by decide) h9 (fun I3 e3 o3 => ?_))
  refine Sx.aload_n dX10_note_44 rfl ?_
  refine Sx.dup dX10_note_45 rfl ?_
  refine Sx.getfV (v := (nI (V 0 7))) dX10_note_46 lkf_X10_36_10 (o_136 W) (by rw [o3 136 (by decide), o2 136 (by decide), o1 136 (by decide)]; exact C.2.2.2.2.2.2.2.2.2.2.1) ?_
  refine Sx.iconst (v := (nI 1)) dX10_note_49 (by decide) ?_
  refine Sx.iaddN dX10_note_50 ?_
  refine Sx.putfV dX10_note_51 lkp_X10_36_10 (o_136 W) rfl rfl (fun I4 e4 o4 => ?_)
  refine Sx.vret dX10_note_54 rfl ?_
  exact h I4 (C.sn (n := n) (v := v) (b := 0) (by rw [e4, upd_at]) (by rw [o4 140 (by decide), o3 140 (by decide), o2 140 (by decide), e1]) (by rw [o4 142 (by decide), o3 142 (by decide), e2, o1 142 (by decide)]) (by rw [o4 144 (by decide), e3, o2 144 (by decide), o1 144 (by decide)]) (fun q q1 q2 q3 q4 => by rw [o4 q q1, o3 q q4, o2 q q3, o1 q q2])) (fun q hq => by rw [o4 q (by omega), o3 q (by omega), o2 q (by omega), o1 q (by omega)])
set_option maxRecDepth 20000 in
set_option maxHeartbeats 1000000 in
theorem d_seen1 {G : Gt} {l : Launch} {Z : Zt} {R : Rt} {I : It} {L : Lt} {post : Pt'} {V : Vt} {N : Nat} {x y : Int32} (W : WF Z R) (C : CI V R I L) (hG : GG N V) (hN : N < 2147483647) (h : ∀ I' R' L', CI (seenV V x y true) R' I' L' → CF R I L R' I' L' → post (some (.int (seenR V x y))) Z R' I' L') : Cx G l mX11_seen 4 0 0 [.ref 100, .int x, .int y, .int (b2i true)] Z R I L post := by
  refine Cx.of (by decide +kernel) (by exact Nat.le_of_ble_eq_true rfl) ?_
  have hB := hG.1.bnd
  have hp6 := hG.1.p
  have hb := hG.1.b
  have h00 := hG.1.1.1
  have h710 := hG.1.2.2.2.1.2.2.2
  refine Sx.aload_n dX11_seen_0 rfl ?_
  refine Sx.callV0 dX11_seen_1 lkv_X11_223 (rcv_11 (o_100 W)) (by decide) (by decide) (Nat.le_of_ble_eq_true rfl) rfl rfl (d_isPort W C (by omega) ?_)
  refine Sx.if_eqD (t := 39) dX11_seen_4 (by decide) (fun c4 => ?_) (fun c4 => ?_)
  · refine Sx.iconst (v := (iI (-1))) dX11_seen_39 (by decide) ?_
    refine Sx.iret dX11_seen_40 rfl rfl ?_
    have hn : ¬ seenC V x y := fun z => by omega
    exact pXX (by unfold seenR; rw [if_neg hn]; rfl) (h I R L (by unfold seenV; rw [if_neg hn]; exact C) (CF.rf R I L))
  · refine Sx.iload_n dX11_seen_7 rfl ?_
    refine Sx.iconst (v := (nI 1)) dX11_seen_8 (by decide) ?_
    refine Sx.icmp_ltV (t := 39) dX11_seen_9 (by decide) (vX x) (vN (by decide)) (fun c9 => ?_) (fun c9 => ?_)
    · refine Sx.iconst (v := (iI (-1))) dX11_seen_39 (by decide) ?_
      refine Sx.iret dX11_seen_40 rfl rfl ?_
      have hn : ¬ seenC V x y := fun z => by omega
      exact pXX (by unfold seenR; rw [if_neg hn]; rfl) (h I R L (by unfold seenV; rw [if_neg hn]; exact C) (CF.rf R I L))
    · refine Sx.iload_n dX11_seen_12 rfl ?_
      refine Sx.bipush (v := (nI 60)) dX11_seen_13 (by decide) ?_
      refine Sx.icmp_gtV (t := 39) dX11_seen_15 (by decide) (vX x) (vN (by decide)) (fun c15 => ?_) (fun c15 => ?_)
      · refine Sx.iconst (v := (iI (-1))) dX11_seen_39 (by decide) ?_
        refine Sx.iret dX11_seen_40 rfl rfl ?_
        have hn : ¬ seenC V x y := fun z => by omega
        exact pXX (by unfold seenR; rw [if_neg hn]; rfl) (h I R L (by unfold seenV; rw [if_neg hn]; exact C) (CF.rf R I L))
      · refine Sx.iload_n dX11_seen_18 rfl ?_
        refine Sx.if_ltV (t := 39) dX11_seen_19 (by decide) (vX y) (fun c19 => ?_) (fun c19 => ?_)
        · refine Sx.iconst (v := (iI (-1))) dX11_seen_39 (by decide) ?_
          refine Sx.iret dX11_seen_40 rfl rfl ?_
          have hn : ¬ seenC V x y := fun z => by omega
          exact pXX (by unfold seenR; rw [if_neg hn]; rfl) (h I R L (by unfold seenV; rw [if_neg hn]; exact C) (CF.rf R I L))
        · refine Sx.iload_n dX11_seen_22 rfl ?_
          refine Sx.sipush (v := (nI 999)) dX11_seen_23 (by decide) ?_
          refine Sx.icmp_gtV (t := 39) dX11_seen_26 (by decide) (vX y) (vN (by decide)) (fun c26 => ?_) (fun c26 => ?_)
          · refine Sx.iconst (v := (iI (-1))) dX11_seen_39 (by decide) ?_
            refine Sx.iret dX11_seen_40 rfl rfl ?_
            have hn : ¬ seenC V x y := fun z => by omega
            exact pXX (by unfold seenR; rw [if_neg hn]; rfl) (h I R L (by unfold seenV; rw [if_neg hn]; exact C) (CF.rf R I L))
          · refine Sx.aload_n dX11_seen_29 rfl ?_
            refine Sx.getfR dX11_seen_30 lkf_X11_75_11 (o_100 W) (r_100_9 W) ?_
            refine Sx.callV0 dX11_seen_33 lkv_X11_303 (rcv_10 (o_136 W)) (by decide) (by decide) (Nat.le_of_ble_eq_true rfl) rfl rfl (d_isFull W C h710 ?_)
            refine Sx.if_eqD (t := 41) dX11_seen_36 (by decide) (fun c36 => ?_) (fun c36 => ?_)
            · have hc : seenC V x y := ⟨by omega, ⟨by omega, by omega⟩, ⟨by omega, by omega⟩, by omega⟩
              obtain ⟨p, rfl, hp⟩ := x_ex (x := x) (n := 61) ⟨by omega, by omega⟩
              obtain ⟨q, rfl, hq⟩ := x_ex (x := y) (n := 1000) ⟨by omega, by omega⟩
              refine Sx.sub' [(0, .ref 100), (1, .int (nI p)), (2, .int (nI q)), (3, .int (b2i true))] rfl ?_
              refine Sx.aload_n dX11_seen_41 rfl ?_
              refine Sx.getfR dX11_seen_42 lkf_X11_75_11 (o_100 W) (r_100_9 W) ?_
              refine Sx.iload_n dX11_seen_45 rfl ?_
              refine Sx.iload_n dX11_seen_46 rfl ?_
              refine Sx.iload_n dX11_seen_47 rfl ?_
              refine Sx.callV3 dX11_seen_48 lkv_X11_306 (rcv_10 (o_136 W)) (by decide) (by decide) (Nat.le_of_ble_eq_true rfl) rfl rfl (d_note1 W C (by omega) (fun I1 C1 o1 => ?_))
              refine Sx.aload_n dX11_seen_51 rfl ?_
              refine Sx.getfR dX11_seen_52 lkf_X11_75_11 (o_100 W) (r_100_9 W) ?_
              refine Sx.callV0 dX11_seen_55 lkv_X11_310 (rcv_10 (o_136 W)) (by decide) (by decide) (Nat.le_of_ble_eq_true rfl) rfl rfl (d_wsize W C1 ?_)
              refine Sx.iret dX11_seen_58 rfl rfl ?_
              exact pXX (by unfold seenR; rw [if_pos hc, sn_7]) (h I1 R L (by unfold seenV; rw [if_pos hc, xN_n (by omega), xN_n (by omega), if_pos rfl]; exact C1) (CF.i fun q hq => o1 q (by omega)))
            · refine Sx.iconst (v := (iI (-1))) dX11_seen_39 (by decide) ?_
              refine Sx.iret dX11_seen_40 rfl rfl ?_
              have hn : ¬ seenC V x y := fun z => by omega
              exact pXX (by unfold seenR; rw [if_neg hn]; rfl) (h I R L (by unfold seenV; rw [if_neg hn]; exact C) (CF.rf R I L))
set_option maxRecDepth 20000 in
set_option maxHeartbeats 1000000 in
theorem d_seen0 {G : Gt} {l : Launch} {Z : Zt} {R : Rt} {I : It} {L : Lt} {post : Pt'} {V : Vt} {N : Nat} {x y : Int32} (W : WF Z R) (C : CI V R I L) (hG : GG N V) (hN : N < 2147483647) (h : ∀ I' R' L', CI (seenV V x y false) R' I' L' → CF R I L R' I' L' → post (some (.int (seenR V x y))) Z R' I' L') : Cx G l mX11_seen 4 0 0 [.ref 100, .int x, .int y, .int (b2i false)] Z R I L post := by
  refine Cx.of (by decide +kernel) (by exact Nat.le_of_ble_eq_true rfl) ?_
  have hB := hG.1.bnd
  have hp6 := hG.1.p
  have hb := hG.1.b
  have h00 := hG.1.1.1
  have h710 := hG.1.2.2.2.1.2.2.2
  refine Sx.aload_n dX11_seen_0 rfl ?_
  refine Sx.callV0 dX11_seen_1 lkv_X11_223 (rcv_11 (o_100 W)) (by decide) (by decide) (Nat.le_of_ble_eq_true rfl) rfl rfl (d_isPort W C (by omega) ?_)
  refine Sx.if_eqD (t := 39) dX11_seen_4 (by decide) (fun c4 => ?_) (fun c4 => ?_)
  · refine Sx.iconst (v := (iI (-1))) dX11_seen_39 (by decide) ?_
    refine Sx.iret dX11_seen_40 rfl rfl ?_
    have hn : ¬ seenC V x y := fun z => by omega
    exact pXX (by unfold seenR; rw [if_neg hn]; rfl) (h I R L (by unfold seenV; rw [if_neg hn]; exact C) (CF.rf R I L))
  · refine Sx.iload_n dX11_seen_7 rfl ?_
    refine Sx.iconst (v := (nI 1)) dX11_seen_8 (by decide) ?_
    refine Sx.icmp_ltV (t := 39) dX11_seen_9 (by decide) (vX x) (vN (by decide)) (fun c9 => ?_) (fun c9 => ?_)
    · refine Sx.iconst (v := (iI (-1))) dX11_seen_39 (by decide) ?_
      refine Sx.iret dX11_seen_40 rfl rfl ?_
      have hn : ¬ seenC V x y := fun z => by omega
      exact pXX (by unfold seenR; rw [if_neg hn]; rfl) (h I R L (by unfold seenV; rw [if_neg hn]; exact C) (CF.rf R I L))
    · refine Sx.iload_n dX11_seen_12 rfl ?_
      refine Sx.bipush (v := (nI 60)) dX11_seen_13 (by decide) ?_
      refine Sx.icmp_gtV (t := 39) dX11_seen_15 (by decide) (vX x) (vN (by decide)) (fun c15 => ?_) (fun c15 => ?_)
      · refine Sx.iconst (v := (iI (-1))) dX11_seen_39 (by decide) ?_
        refine Sx.iret dX11_seen_40 rfl rfl ?_
        have hn : ¬ seenC V x y := fun z => by omega
        exact pXX (by unfold seenR; rw [if_neg hn]; rfl) (h I R L (by unfold seenV; rw [if_neg hn]; exact C) (CF.rf R I L))
      · refine Sx.iload_n dX11_seen_18 rfl ?_
        refine Sx.if_ltV (t := 39) dX11_seen_19 (by decide) (vX y) (fun c19 => ?_) (fun c19 => ?_)
        · refine Sx.iconst (v := (iI (-1))) dX11_seen_39 (by decide) ?_
          refine Sx.iret dX11_seen_40 rfl rfl ?_
          have hn : ¬ seenC V x y := fun z => by omega
          exact pXX (by unfold seenR; rw [if_neg hn]; rfl) (h I R L (by unfold seenV; rw [if_neg hn]; exact C) (CF.rf R I L))
        · refine Sx.iload_n dX11_seen_22 rfl ?_
          refine Sx.sipush (v := (nI 999)) dX11_seen_23 (by decide) ?_
          refine Sx.icmp_gtV (t := 39) dX11_seen_26 (by decide) (vX y) (vN (by decide)) (fun c26 => ?_) (fun c26 => ?_)
          · refine Sx.iconst (v := (iI (-1))) dX11_seen_39 (by decide) ?_
            refine Sx.iret dX11_seen_40 rfl rfl ?_
            have hn : ¬ seenC V x y := fun z => by omega
            exact pXX (by unfold seenR; rw [if_neg hn]; rfl) (h I R L (by unfold seenV; rw [if_neg hn]; exact C) (CF.rf R I L))
          · refine Sx.aload_n dX11_seen_29 rfl ?_
            refine Sx.getfR dX11_seen_30 lkf_X11_75_11 (o_100 W) (r_100_9 W) ?_
            refine Sx.callV0 dX11_seen_33 lkv_X11_303 (rcv_10 (o_136 W)) (by decide) (by decide) (Nat.le_of_ble_eq_true rfl) rfl rfl (d_isFull W C h710 ?_)
            refine Sx.if_eqD (t := 41) dX11_seen_36 (by decide) (fun c36 => ?_) (fun c36 => ?_)
            · have hc : seenC V x y := ⟨by omega, ⟨by omega, by omega⟩, ⟨by omega, by omega⟩, by omega⟩
              obtain ⟨p, rfl, hp⟩ := x_ex (x := x) (n := 61) ⟨by omega, by omega⟩
              obtain ⟨q, rfl, hq⟩ := x_ex (x := y) (n := 1000) ⟨by omega, by omega⟩
              refine Sx.sub' [(0, .ref 100), (1, .int (nI p)), (2, .int (nI q)), (3, .int (b2i false))] rfl ?_
              refine Sx.aload_n dX11_seen_41 rfl ?_
              refine Sx.getfR dX11_seen_42 lkf_X11_75_11 (o_100 W) (r_100_9 W) ?_
              refine Sx.iload_n dX11_seen_45 rfl ?_
              refine Sx.iload_n dX11_seen_46 rfl ?_
              refine Sx.iload_n dX11_seen_47 rfl ?_
              refine Sx.callV3 dX11_seen_48 lkv_X11_306 (rcv_10 (o_136 W)) (by decide) (by decide) (Nat.le_of_ble_eq_true rfl) rfl rfl (d_note0 W C (by omega) (fun I1 C1 o1 => ?_))
              refine Sx.aload_n dX11_seen_51 rfl ?_
              refine Sx.getfR dX11_seen_52 lkf_X11_75_11 (o_100 W) (r_100_9 W) ?_
              refine Sx.callV0 dX11_seen_55 lkv_X11_310 (rcv_10 (o_136 W)) (by decide) (by decide) (Nat.le_of_ble_eq_true rfl) rfl rfl (d_wsize W C1 ?_)
              refine Sx.iret dX11_seen_58 rfl rfl ?_
              exact pXX (by unfold seenR; rw [if_pos hc, sn_7]) (h I1 R L (by unfold seenV; rw [if_pos hc, xN_n (by omega), xN_n (by omega), if_neg (by decide)]; exact C1) (CF.i fun q hq => o1 q (by omega)))
            · refine Sx.iconst (v := (iI (-1))) dX11_seen_39 (by decide) ?_
              refine Sx.iret dX11_seen_40 rfl rfl ?_
              have hn : ¬ seenC V x y := fun z => by omega
              exact pXX (by unfold seenR; rw [if_neg hn]; rfl) (h I R L (by unfold seenV; rw [if_neg hn]; exact C) (CF.rf R I L))
set_option maxRecDepth 20000 in
set_option maxHeartbeats 1000000 in
theorem d_lenN {G : Gt} {l : Launch} {Z : Zt} {R : Rt} {I : It} {L : Lt} {post : Pt'} {n : Nat} (W : WF Z R) (hn : I 101 1 = nI n) (h : post (some (.int (nI n))) Z R I L) : Cx G l mX9_length 1 0 0 [.ref 101] Z R I L post := by
  refine Cx.of (by decide +kernel) (by exact Nat.le_of_ble_eq_true rfl) ?_
  refine Sx.aload_n dX9_length_0 rfl ?_
  refine Sx.getfV (v := (nI n)) dX9_length_1 lkf_X9_15_9 (o_101 W) hn ?_
  refine Sx.iret dX9_length_4 rfl rfl ?_
  exact h
set_option maxRecDepth 20000 in
set_option maxHeartbeats 1000000 in
theorem d_feed {G : Gt} {l : Launch} {Z : Zt} {R : Rt} {I : It} {L : Lt} {post : Pt'} {V : Vt} {N : Nat} {a b c d e : Int32} (W : WF Z R) (C : CI V R I L) (hG : GG N V) (hN : N < 2147483647) (h : ∀ I' R' L', CI (feedV V a b c d e) R' I' L' → CF R I L R' I' L' → post (some (.int (feedR V a b c d e))) Z R' I' L') : Cx G l mX11_feed 2 0 0 [.ref 100, .int a, .int b, .int c, .int d, .int e] Z R I L post := by
  refine Cx.of (by decide +kernel) (by exact Nat.le_of_ble_eq_true rfl) ?_
  have hB := hG.1.bnd
  have hp6 := hG.1.p
  have hb := hG.1.b
  have h00 := hG.1.1.1
  have bca := bcW_le a 4
  have bcb := bcW_le b 4
  have bcc := bcW_le c 4
  have bcd := bcW_le d 4
  have bce := bcW_le e 4
  refine Sx.iload_n dX11_feed_0 rfl ?_
  refine Sx.callS1 dX11_feed_1 lkc_X11_115  (by decide) (by decide) (Nat.le_of_ble_eq_true rfl) rfl rfl (c_bytesIn ?_)
  refine Sx.iload_n dX11_feed_4 rfl ?_
  refine Sx.callS1 dX11_feed_5 lkc_X11_115  (by decide) (by decide) (Nat.le_of_ble_eq_true rfl) rfl rfl (c_bytesIn ?_)
  refine Sx.iaddN dX11_feed_8 ?_
  refine Sx.iload_n dX11_feed_9 rfl ?_
  refine Sx.callS1 dX11_feed_10 lkc_X11_115  (by decide) (by decide) (Nat.le_of_ble_eq_true rfl) rfl rfl (c_bytesIn ?_)
  refine Sx.iaddN dX11_feed_13 ?_
  refine Sx.iload dX11_feed_14 rfl ?_
  refine Sx.callS1 dX11_feed_16 lkc_X11_115  (by decide) (by decide) (Nat.le_of_ble_eq_true rfl) rfl rfl (c_bytesIn ?_)
  refine Sx.iaddN dX11_feed_19 ?_
  refine Sx.iload dX11_feed_20 rfl ?_
  refine Sx.callS1 dX11_feed_22 lkc_X11_115  (by decide) (by decide) (Nat.le_of_ble_eq_true rfl) rfl rfl (c_bytesIn ?_)
  refine Sx.iaddN dX11_feed_25 ?_
  refine Sx.istore (lv' := [(6, .int (nI (((((bcW a 4) + (bcW b 4)) + (bcW c 4)) + (bcW d 4)) + (bcW e 4)))), (0, .ref 100), (1, .int a), (2, .int b), (3, .int c), (4, .int d), (5, .int e)]) dX11_feed_26 (by decide) rfl ?_
  refine Sx.aload_n dX11_feed_28 rfl ?_
  refine Sx.getfR dX11_feed_29 lkf_X11_10_11 (o_100 W) (r_100_0 W) ?_
  refine Sx.callV0 dX11_feed_32 lkv_X11_119 (rcv_9 (o_101 W)) (by decide) (by decide) (Nat.le_of_ble_eq_true rfl) rfl rfl (d_len W C ?_)
  refine Sx.iload dX11_feed_35 rfl ?_
  refine Sx.iaddN dX11_feed_37 ?_
  refine Sx.sipush (v := (nI 240)) dX11_feed_38 (by decide) ?_
  refine Sx.icmp_leV (t := 46) dX11_feed_41 (by decide) (vN (by omega)) (vN (by decide)) (fun c41 => ?_) (fun c41 => ?_)
  · refine Sx.aload_n dX11_feed_46 rfl ?_
    refine Sx.getfR dX11_feed_47 lkf_X11_10_11 (o_100 W) (r_100_0 W) ?_
    refine Sx.iload_n dX11_feed_50 rfl ?_
    refine Sx.callV1 dX11_feed_51 lkv_X11_123 (rcv_9 (o_101 W)) (by decide) (by decide) (Nat.le_of_ble_eq_true rfl) rfl rfl (c_append (s := (V 0 0, V 1)) W C.1.1 (by simp only [puW_1]; omega) C.1.2 (fun I1 w1 u1 v1 z1 => ?_))
    refine Sx.aload_n dX11_feed_54 rfl ?_
    refine Sx.getfR dX11_feed_55 lkf_X11_10_11 (o_100 W) (r_100_0 W) ?_
    refine Sx.iload_n dX11_feed_58 rfl ?_
    refine Sx.callV1 dX11_feed_59 lkv_X11_123 (rcv_9 (o_101 W)) (by decide) (by decide) (Nat.le_of_ble_eq_true rfl) rfl rfl (c_append (s := puW a 4 ((V 0 0, V 1))) W w1 (by simp only [puW_1]; omega) u1 (fun I2 w2 u2 v2 z2 => ?_))
    refine Sx.aload_n dX11_feed_62 rfl ?_
    refine Sx.getfR dX11_feed_63 lkf_X11_10_11 (o_100 W) (r_100_0 W) ?_
    refine Sx.iload_n dX11_feed_66 rfl ?_
    refine Sx.callV1 dX11_feed_67 lkv_X11_123 (rcv_9 (o_101 W)) (by decide) (by decide) (Nat.le_of_ble_eq_true rfl) rfl rfl (c_append (s := puW b 4 (puW a 4 ((V 0 0, V 1)))) W w2 (by simp only [puW_1]; omega) u2 (fun I3 w3 u3 v3 z3 => ?_))
    refine Sx.aload_n dX11_feed_70 rfl ?_
    refine Sx.getfR dX11_feed_71 lkf_X11_10_11 (o_100 W) (r_100_0 W) ?_
    refine Sx.iload dX11_feed_74 rfl ?_
    refine Sx.callV1 dX11_feed_76 lkv_X11_123 (rcv_9 (o_101 W)) (by decide) (by decide) (Nat.le_of_ble_eq_true rfl) rfl rfl (c_append (s := puW c 4 (puW b 4 (puW a 4 ((V 0 0, V 1))))) W w3 (by simp only [puW_1]; omega) u3 (fun I4 w4 u4 v4 z4 => ?_))
    refine Sx.aload_n dX11_feed_79 rfl ?_
    refine Sx.getfR dX11_feed_80 lkf_X11_10_11 (o_100 W) (r_100_0 W) ?_
    refine Sx.iload dX11_feed_83 rfl ?_
    refine Sx.callV1 dX11_feed_85 lkv_X11_123 (rcv_9 (o_101 W)) (by decide) (by decide) (Nat.le_of_ble_eq_true rfl) rfl rfl (c_append (s := puW d 4 (puW c 4 (puW b 4 (puW a 4 ((V 0 0, V 1)))))) W w4 (by simp only [puW_1]; omega) u4 (fun I5 w5 u5 v5 z5 => ?_))
    refine Sx.aload_n dX11_feed_88 rfl ?_
    refine Sx.getfR dX11_feed_89 lkf_X11_10_11 (o_100 W) (r_100_0 W) ?_
    refine Sx.callV0 dX11_feed_92 lkv_X11_119 (rcv_9 (o_101 W)) (by decide) (by decide) (Nat.le_of_ble_eq_true rfl) rfl rfl (d_lenN W w5 ?_)
    refine Sx.iret dX11_feed_95 rfl rfl ?_
    have hC : feedC V a b c d e := by omega
    have mm : CI (tpV V (fdS V a b c d e).1 (fdS V a b c d e).2) R I5 L := C.tp w5 u5 (fun q q1 q2 => by rw [v5 q q1 q2, v4 q q1 q2, v3 q q1 q2, v2 q q1 q2, v1 q q1 q2])
    exact pXX (by unfold feedR; rw [if_pos hC]; rfl) (h I5 R L (by unfold feedV; rw [if_pos hC]; exact mm) (CF.i fun q hq => by rw [v5 q (by omega) (by omega), v4 q (by omega) (by omega), v3 q (by omega) (by omega), v2 q (by omega) (by omega), v1 q (by omega) (by omega)]))
  · refine Sx.iconst (v := (iI (-1))) dX11_feed_44 (by decide) ?_
    refine Sx.iret dX11_feed_45 rfl rfl ?_
    have hn : ¬ feedC V a b c d e := fun z => by omega
    exact pXX (by unfold feedR; rw [if_neg hn]; rfl) (h I R L (by unfold feedV; rw [if_neg hn]; exact C) (CF.rf R I L))
set_option maxRecDepth 20000 in
set_option maxHeartbeats 1000000 in
theorem d_cut {G : Gt} {l : Launch} {Z : Zt} {R : Rt} {I : It} {L : Lt} {post : Pt'} {x : Int32} (W : WF Z R) (h : ∀ I', I' 101 = upd (I 101) 1 x → (∀ q, q ≠ 101 → I' q = I q) → post none Z R I' L) : Cx G l mX9_cut 1 0 0 [.ref 101, .int x] Z R I L post := by
  refine Cx.of (by decide +kernel) (by exact Nat.le_of_ble_eq_true rfl) ?_
  refine Sx.aload_n dX9_cut_0 rfl ?_
  refine Sx.iload_n dX9_cut_1 rfl ?_
  refine Sx.putfV dX9_cut_2 lkp_X9_15_9 (o_101 W) rfl rfl (fun I1 e1 o1 => ?_)
  refine Sx.vret dX9_cut_5 rfl ?_
  exact h I1 e1 o1
set_option maxRecDepth 20000 in
set_option maxHeartbeats 1000000 in
theorem d_end {G : Gt} {l : Launch} {Z : Zt} {R : Rt} {I : It} {L : Lt} {post : Pt'} {V : Vt} {N : Nat} {x : Int32} (W : WF Z R) (C : CI V R I L) (hG : GG N V) (hN : N < 2147483647) (h : ∀ I' R' L', CI (endV V x) R' I' L' → CF R I L R' I' L' → post (some (.int (b2i (decide (endC V x))))) Z R' I' L') : Cx G l mX11_end 2 0 0 [.ref 100, .int x] Z R I L post := by
  refine Cx.of (by decide +kernel) (by exact Nat.le_of_ble_eq_true rfl) ?_
  have hB := hG.1.bnd
  have hp6 := hG.1.p
  have hb := hG.1.b
  have h00 := hG.1.1.1
  have hx := x_rg x
  refine Sx.iload_n dX11_end_0 rfl ?_
  refine Sx.if_ltV (t := 15) dX11_end_1 (by decide) (vX x) (fun c1 => ?_) (fun c1 => ?_)
  · refine Sx.iconst (v := (nI 0)) dX11_end_15 (by decide) ?_
    refine Sx.top (show _ = b2i false from rfl) ?_
    refine Sx.iret dX11_end_16 rfl (b2i_n _) ?_
    have hn : ¬ endC V x := fun z => by omega
    exact pBB (decide_eq_false hn) (h I R L (by unfold endV; rw [if_neg hn]; exact C) (CF.rf R I L))
  · refine Sx.iload_n dX11_end_4 rfl ?_
    refine Sx.aload_n dX11_end_5 rfl ?_
    refine Sx.getfR dX11_end_6 lkf_X11_10_11 (o_100 W) (r_100_0 W) ?_
    refine Sx.callV0 dX11_end_9 lkv_X11_119 (rcv_9 (o_101 W)) (by decide) (by decide) (Nat.le_of_ble_eq_true rfl) rfl rfl (d_len W C ?_)
    refine Sx.icmp_leV (t := 17) dX11_end_12 (by decide) (vX x) (vN (by omega)) (fun c12 => ?_) (fun c12 => ?_)
    · refine Sx.aload_n dX11_end_17 rfl ?_
      refine Sx.getfR dX11_end_18 lkf_X11_10_11 (o_100 W) (r_100_0 W) ?_
      refine Sx.iload_n dX11_end_21 rfl ?_
      refine Sx.callV1 dX11_end_22 lkv_X11_126 (rcv_9 (o_101 W)) (by decide) (by decide) (Nat.le_of_ble_eq_true rfl) rfl rfl (d_cut W (fun I1 e1 o1 => ?_))
      refine Sx.iconst (v := (nI 1)) dX11_end_25 (by decide) ?_
      refine Sx.top (show _ = b2i true from rfl) ?_
      refine Sx.iret dX11_end_26 rfl (b2i_n _) ?_
      have hC : endC V x := ⟨by omega, by omega⟩
      have mm : CI (tpV V (xN x) (V 1)) R I1 L := C.tp (by rw [e1, upd_at]; exact x_nn (by omega)) (fun j hj => by rw [o1 102 (by decide)]; exact C.1.2 j (by have : xN x = x.toInt.toNat := rfl; omega)) (fun q q1 _ => o1 q q1)
      exact pBB (decide_eq_true hC) (h I1 R L (by unfold endV; rw [if_pos hC]; exact mm) (CF.i fun q hq => o1 q (by omega)))
    · refine Sx.iconst (v := (nI 0)) dX11_end_15 (by decide) ?_
      refine Sx.top (show _ = b2i false from rfl) ?_
      refine Sx.iret dX11_end_16 rfl (b2i_n _) ?_
      have hn : ¬ endC V x := fun z => by omega
      exact pBB (decide_eq_false hn) (h I R L (by unfold endV; rw [if_neg hn]; exact C) (CF.rf R I L))
set_option maxRecDepth 20000 in
set_option maxHeartbeats 1000000 in
theorem d_light {G : Gt} {l : Launch} {Z : Zt} {R : Rt} {I : It} {L : Lt} {post : Pt'} {V : Vt} {N : Nat} {x : Int32} (W : WF Z R) (C : CI V R I L) (hG : GG N V) (hN : N < 2147483647) (h : CQ post Z R I L V (lightR V x)) : Cx G l mX11_light 5 0 0 [.ref 100, .int x] Z R I L post := by
  refine Cx.of (by decide +kernel) (by exact Nat.le_of_ble_eq_true rfl) ?_
  have hB := hG.1.bnd
  have hp6 := hG.1.p
  have hb := hG.1.b
  have h00 := hG.1.1.1
  refine Sx.aload_n dX11_light_0 rfl ?_
  refine Sx.getfR dX11_light_1 lkf_X11_19_11 (o_100 W) (r_100_1 W) ?_
  refine Sx.iload_n dX11_light_4 rfl ?_
  refine Sx.callV1 dX11_light_5 lkv_X11_272 (rcv_6 (o_103 W)) (by decide) (by decide) (Nat.le_of_ble_eq_true rfl) rfl rfl (d_isDay W C.2.1 (by have := hB.1 0 (by decide); omega) ?_)
  refine Sx.if_eqD (t := 26) dX11_light_8 (by decide) (fun c8 => ?_) (fun c8 => ?_)
  · refine Sx.iconst (v := (iI (-1))) dX11_light_26 (by decide) ?_
    refine Sx.iret dX11_light_27 rfl rfl ?_
    have hn : ¬ lightC V x := fun z => by omega
    exact pXX (by unfold lightR; rw [if_neg hn]; rfl) (h I R L C (CF.rf R I L))
  · have hp35 : V 2 35 ≠ 0 := fun z => by rcases hG.1.2.2.2.2.2.2 with w | w; (· have := w.2.1 0; omega); (· have := w.1.2.2.2.2.2.2.1; omega)
    have hH := hG.1.hv hp35
    have p2 := hH.2.2.2.1.2.1
    have hc : lightC V x := ⟨hp35, by omega, by omega⟩
    obtain ⟨p, rfl, hp⟩ := x_ex (x := x) (n := V 2 0) ⟨by omega, by omega⟩
    refine Sx.sub' [(0, .ref 100), (1, .int (nI p))] rfl ?_
    refine Sx.aload_n dX11_light_11 rfl ?_
    refine Sx.getfR dX11_light_12 lkf_X11_59_11 (o_100 W) (r_100_7 W) ?_
    refine Sx.aload_n dX11_light_15 rfl ?_
    refine Sx.getfR dX11_light_16 lkf_X11_89_11 (o_100 W) (r_100_11 W) ?_
    refine Sx.iload_n dX11_light_19 rfl ?_
    refine Sx.callV2 dX11_light_20 lkv_X11_275 (rcv_1 (o_114 W)) (by decide) (by decide) (Nat.le_of_ble_eq_true rfl) rfl rfl (c_lightOf W C.2.1 hH.2.2.2.1 (w_229r W) C.2.2.1 (by decide) (C.lw ⟨hH.1.1, hH.1.2.1⟩) hH.2.2.2.2.1 (by omega) (fun I1 o1 => ?_))
    have C := C.sc (L' := L) hb (fun q hq => o1 q (by unfold csc at hq; omega) (by unfold csc at hq; omega))
    have f1 := (CF.rf R I L).tr (CF.i (R := R) (L := L) fun q hq => o1 q (by omega) (by omega))
    refine Sx.goto (t := 27) dX11_light_23 (by decide) ?_
    refine Sx.iret dX11_light_27 rfl rfl ?_
    exact pXX (by unfold lightR; rw [if_pos hc, xN_n (by omega)]) (h I1 R L C f1)
theorem d_ruler {G : Gt} {l : Launch} {Z : Zt} {R : Rt} {I : It} {L : Lt} {post : Pt'} {s : Nat} {V : Vt} (W : WF Z R) (hp : rep 36 (I 104) (V 2)) (hP : PB (V 2)) (hr : rwo Z R s 8 146) (hs : rs (I (s + 1)) (V 3)) (hx : 119 ≤ s ∧ s < 232) (hL : LW R I (wlV V)) (hF : SB (V 2) (V 3)) (h : ∀ I', (∀ q, q ≠ 116 → q ≠ 118 → I' q = I q) → post (some (.int (nI (dayD V)))) Z R I' L) : Cx G l mX1_rulerOf 4 0 0 [.ref 114, .ref s, .int (nI (popN (upN (V 2 35) (V 3 138))))] Z R I L post :=
  c_ruler W hp hP hr hs hx hL hF (upc_le hP hF) (fun I' o => by
    have e : nI (amn (lofN (V 2) (wlV V) (V 3) (popN (upN (V 2 35) (V 3 138)))) (V 2 0)) - 1 = nI (dayD V) := by
      have := amn_pos (lofN (V 2) (wlV V) (V 3) (upc (V 2) (V 3))) (V 2 0) (by have := hP.1; omega)
      exact n_sub (by show 1 ≤ amn (lofN (V 2) (wlV V) (V 3) (upc (V 2) (V 3))) (V 2 0); omega)
    rw [e]
    exact h I' o)
set_option maxRecDepth 20000 in
set_option maxHeartbeats 1000000 in
theorem d_coming {G : Gt} {l : Launch} {Z : Zt} {R : Rt} {I : It} {L : Lt} {post : Pt'} {V : Vt} {N : Nat} {x : Int32} (W : WF Z R) (C : CI V R I L) (hG : GG N V) (hN : N < 2147483647) (h : CQ post Z R I L V (comR V x)) : Cx G l mX11_coming 5 0 0 [.ref 100, .int x] Z R I L post := by
  refine Cx.of (by decide +kernel) (by exact Nat.le_of_ble_eq_true rfl) ?_
  have hB := hG.1.bnd
  have hp6 := hG.1.p
  have hb := hG.1.b
  have h00 := hG.1.1.1
  refine Sx.aload_n dX11_coming_0 rfl ?_
  refine Sx.callV0 dX11_coming_1 lkv_X11_223 (rcv_11 (o_100 W)) (by decide) (by decide) (Nat.le_of_ble_eq_true rfl) rfl rfl (d_isPort W C (by omega) ?_)
  refine Sx.if_eqD (t := 16) dX11_coming_4 (by decide) (fun c4 => ?_) (fun c4 => ?_)
  · refine Sx.iconst (v := (iI (-1))) dX11_coming_16 (by decide) ?_
    refine Sx.iret dX11_coming_17 rfl rfl ?_
    have hn : ¬ comC V x := fun z => by omega
    exact pXX (by unfold comR; rw [if_neg hn]; rfl) (h I R L C (CF.rf R I L))
  · refine Sx.iload_n dX11_coming_7 rfl ?_
    refine Sx.if_ltV (t := 16) dX11_coming_8 (by decide) (vX x) (fun c8 => ?_) (fun c8 => ?_)
    · refine Sx.iconst (v := (iI (-1))) dX11_coming_16 (by decide) ?_
      refine Sx.iret dX11_coming_17 rfl rfl ?_
      have hn : ¬ comC V x := fun z => by omega
      exact pXX (by unfold comR; rw [if_neg hn]; rfl) (h I R L C (CF.rf R I L))
    · refine Sx.iload_n dX11_coming_11 rfl ?_
      refine Sx.iconst (v := (nI 1)) dX11_coming_12 (by decide) ?_
      refine Sx.icmp_leV (t := 18) dX11_coming_13 (by decide) (vX x) (vN (by decide)) (fun c13 => ?_) (fun c13 => ?_)
      · have hH := hG.1.hv (by omega)
        have p2 := hH.2.2.2.1.2.1
        have hc : comC V x := ⟨by omega, by omega, by omega⟩
        have hdd : dayD V < 30 := by have : dayD V = amn (lofN (V 2) (wlV V) (V 3) (upc (V 2) (V 3))) (V 2 0) - 1 := rfl; have := amn_le (lofN (V 2) (wlV V) (V 3) (upc (V 2) (V 3))) (V 2 0); omega
        obtain ⟨p, rfl, hp⟩ := x_ex (x := x) (n := 2) ⟨by omega, by omega⟩
        refine Sx.sub' [(0, .ref 100), (1, .int (nI p))] rfl ?_
        refine Sx.aload_n dX11_coming_18 rfl ?_
        refine Sx.getfR dX11_coming_19 lkf_X11_59_11 (o_100 W) (r_100_7 W) ?_
        refine Sx.aload_n dX11_coming_22 rfl ?_
        refine Sx.getfR dX11_coming_23 lkf_X11_89_11 (o_100 W) (r_100_11 W) ?_
        refine Sx.aload_n dX11_coming_26 rfl ?_
        refine Sx.getfR dX11_coming_27 lkf_X11_89_11 (o_100 W) (r_100_11 W) ?_
        refine Sx.aload_n dX11_coming_30 rfl ?_
        refine Sx.getfR dX11_coming_31 lkf_X11_19_11 (o_100 W) (r_100_1 W) ?_
        refine Sx.callV0 dX11_coming_34 lkv_X11_142 (rcv_6 (o_103 W)) (by decide) (by decide) (Nat.le_of_ble_eq_true rfl) rfl rfl (c_pers (w_103r W) C.2.1 ?_)
        refine Sx.callV1 dX11_coming_37 lkv_X11_279 (rcv_8 (o_229 W)) (by decide) (by decide) (Nat.le_of_ble_eq_true rfl) rfl rfl (c_X8_upCount (w_229r W) C.2.2.1 hB.2.2.2.2.2.1 (by omega) ?_)
        refine Sx.callV2 dX11_coming_40 lkv_X11_282 (rcv_1 (o_114 W)) (by decide) (by decide) (Nat.le_of_ble_eq_true rfl) rfl rfl (d_ruler W C.2.1 hH.2.2.2.1 (w_229r W) C.2.2.1 (by decide) (C.lw ⟨hH.1.1, hH.1.2.1⟩) hH.2.2.2.2.1 (fun I1 o1 => ?_))
        have C := C.sc (L' := L) hb (fun q hq => o1 q (by unfold csc at hq; omega) (by unfold csc at hq; omega))
        have f1 := (CF.rf R I L).tr (CF.i (R := R) (L := L) fun q hq => o1 q (by omega) (by omega))
        refine Sx.istore_n (lv' := [(2, .int (nI (dayD V))), (0, .ref 100), (1, .int (nI p))]) dX11_coming_43 (by decide) rfl ?_
        refine Sx.iload_n dX11_coming_44 rfl ?_
        refine Sx.if_neV (t := 52) dX11_coming_45 (by decide) (vN (by omega)) (fun c45 => ?_) (fun c45 => ?_)
        · refine Sx.aload_n dX11_coming_52 rfl ?_
          refine Sx.getfR dX11_coming_53 lkf_X11_59_11 (o_100 W) (r_100_7 W) ?_
          refine Sx.aload_n dX11_coming_56 rfl ?_
          refine Sx.getfR dX11_coming_57 lkf_X11_89_11 (o_100 W) (r_100_11 W) ?_
          refine Sx.iload_n dX11_coming_60 rfl ?_
          refine Sx.callV2 dX11_coming_61 lkv_X11_275 (rcv_1 (o_114 W)) (by decide) (by decide) (Nat.le_of_ble_eq_true rfl) rfl rfl (c_lightOf W C.2.1 hH.2.2.2.1 (w_229r W) C.2.2.1 (by decide) (C.lw ⟨hH.1.1, hH.1.2.1⟩) hH.2.2.2.2.1 (by omega) (fun I2 o2 => ?_))
          have C := C.sc (L' := L) hb (fun q hq => o2 q (by unfold csc at hq; omega) (by unfold csc at hq; omega))
          have f2 := f1.tr (CF.i (R := R) (L := L) fun q hq => o2 q (by omega) (by omega))
          refine Sx.iret dX11_coming_64 rfl rfl ?_
          exact pXX (by unfold comR; rw [if_pos hc, xN_n (by omega), if_neg (by omega)]) (h I2 R L C f2)
        · refine Sx.iload_n dX11_coming_48 rfl ?_
          refine Sx.goto (t := 64) dX11_coming_49 (by decide) ?_
          refine Sx.iret dX11_coming_64 rfl rfl ?_
          exact pXX (by unfold comR; rw [if_pos hc, xN_n (by omega), if_pos (by omega)]) (h I1 R L C f1)
      · refine Sx.iconst (v := (iI (-1))) dX11_coming_16 (by decide) ?_
        refine Sx.iret dX11_coming_17 rfl rfl ?_
        have hn : ¬ comC V x := fun z => by omega
        exact pXX (by unfold comR; rw [if_neg hn]; rfl) (h I R L C (CF.rf R I L))
