/-! the class: texts of seaports and calendars -/
theorem CI.po {V : Vt} {R : Rt} {I I' : It} {L L' : Lt} {Q : Nat → Nat} (h : CI V R I L) (hb : V 0 1 ≤ 4 ∧ V 0 3 ≤ 4) (e1 : I' 101 1 = nI 0) (e4 : rep 36 (I' 104) Q) (e3 : rs (I' 230) (begN Q)) (eh : I' 147 = upd (I 147) 1 (nI 0)) (ew : I' 136 = upd (I 136) 7 (nI 0)) (eo : I' 100 = upd (I 100) 13 (nI 0)) (o : ∀ q, q ≠ 101 → ¬ csc q → q ≠ 104 → q ≠ 230 → q ≠ 147 → q ≠ 136 → q ≠ 100 → I' q = I q) : CI (poV V Q) R I' L' := by
  obtain ⟨a1, a2, a3, ⟨c1, c2, c3, c4, c5⟩, a5, a6, a7, a8, a9, ⟨nx, b1, b2, b3, b4⟩, a11⟩ := h
  have r : ∀ a, a ≠ 0 → a ≠ 2 → a ≠ 3 → poV V Q a = V a := fun a h0 h2 h3 => by unfold poV; rw [if_neg h0, if_neg h2, if_neg h3]
  have z : ∀ q, q ≠ 0 → q ≠ 4 → q ≠ 5 → q ≠ 7 → poV V Q 0 q = V 0 q := fun q q0 q4 q5 q7 => by unfold poV; rw [if_pos rfl, upn_ne _ _ q7, upn_ne _ _ q5, upn_ne _ _ q4, upn_ne _ _ q0]
  have o' : ∀ q, 233 ≤ q → q < 253 → I' q = I q := fun q q1 q2 => o q (by omega) (by unfold csc; omega) (by omega) (by omega) (by omega) (by omega) (by omega)
  refine ⟨⟨e1, fun j hj => absurd hj (Nat.not_lt_zero _)⟩, e4, e3, ⟨by rw [eo, upd_at]; rfl, ?_, ?_, ?_, ?_⟩, fun i hi => ?_, ?_, fun i hi => ?_, fun j hj => ?_, fun q => absurd (show (0 : Nat) = 1 from q) (by decide), ⟨nx, b1, ?_, ?_, fun i hi => absurd hi (Nat.not_lt_zero _)⟩, ⟨by rw [ew, upd_at]; rfl, fun i hi => absurd hi (Nat.not_lt_zero _)⟩⟩
  · rw [eo, upd_nj _ _ (by decide), z 1 (by decide) (by decide) (by decide) (by decide)]; exact c2
  · rw [eo, upd_nj _ _ (by decide), z 3 (by decide) (by decide) (by decide) (by decide)]; exact c3
  · rw [eo, upd_nj _ _ (by decide), z 2 (by decide) (by decide) (by decide) (by decide)]; exact c4
  · rw [eo, upd_nj _ _ (by decide), z 6 (by decide) (by decide) (by decide) (by decide)]; exact c5
  · rw [z 1 (by decide) (by decide) (by decide) (by decide)] at hi
    unfold LI; rw [o' (233 + 2 * i) (by omega) (by omega), o' (233 + 2 * i + 1) (by omega) (by omega), r (10 + i) (by omega) (by omega) (by omega)]; exact a5 i hi
  · rw [z 2 (by decide) (by decide) (by decide) (by decide)]; exact a6
  · rw [z 3 (by decide) (by decide) (by decide) (by decide)] at hi
    rw [o' (243 + 2 * i) (by omega) (by omega), o' (243 + 2 * i + 1) (by omega) (by omega), r (20 + i) (by omega) (by omega) (by omega)]; exact a7 i hi
  · rw [o 113 (by decide) (by unfold csc; omega) (by decide) (by decide) (by decide) (by decide) (by decide), r 4 (by decide) (by decide) (by decide)]; exact a8 j hj
  · rw [eh, upd_nj _ _ (by decide)]; exact b2
  · rw [eh, upd_at]; rfl
theorem tex0_y {V : Vt} (h : (ptR (V 1) (V 0 0) 14 0 usQ).1 = true) : texV V (nI 0) = poV V (ptR (V 1) (V 0 0) 14 0 usQ).2.2 ∧ texR V (nI 0) = nI ((ptR (V 1) (V 0 0) 14 0 usQ).2.2 35) := by
  have hc : sorC (nI 0) ∧ texC V (xN (nI 0)) := ⟨⟨by decide, by decide⟩, fun z => absurd z (by decide), fun z => absurd z (by decide), h⟩
  have e : xN (nI 0) = 0 := by decide
  unfold texV texR
  rw [if_pos hc, if_pos hc, if_pos e, if_pos e]
  exact ⟨rfl, rfl⟩
theorem tex0_n {V : Vt} (h : ¬ (ptR (V 1) (V 0 0) 14 0 usQ).1 = true) : texV V (nI 0) = V ∧ texR V (nI 0) = -1 := by
  have hc : ¬ (sorC (nI 0) ∧ texC V (xN (nI 0))) := fun z => h z.2.2.2
  unfold texV texR
  rw [if_neg hc, if_neg hc]
  exact ⟨rfl, rfl⟩
set_option maxRecDepth 20000 in
set_option maxHeartbeats 1000000 in
theorem d_text0 {G : Gt} {l : Launch} {Z : Zt} {R : Rt} {I : It} {L : Lt} {post : Pt'} {V : Vt} (W : WF Z R) (C : CI V R I L) (hb : V 0 1 ≤ 4 ∧ V 0 3 ≤ 4) (hB : V 0 0 ≤ 240 ∧ ∀ j, j < V 0 0 → 0 < V 1 j ∧ V 1 j < 256) (h : ∀ I' R' L', CI (texV V (nI 0)) R' I' L' → CF R I L R' I' L' → post (some (.int (texR V (nI 0)))) Z R' I' L') : Cx G l mX11_text 10 0 0 [.ref 100, .int (nI 0)] Z R I L post := by
  refine Cx.of (by decide +kernel) (by exact Nat.le_of_ble_eq_true rfl) ?_
  refine Sx.iload_n dX11_text_0 rfl ?_
  refine Sx.if_ltV (t := 25) dX11_text_1 (by decide) (vN (by decide)) (fun c1 => False.elim (by omega)) (fun c1 => ?_)
  refine Sx.iload_n dX11_text_4 rfl ?_
  refine Sx.iconst (v := (nI 2)) dX11_text_5 (by decide) ?_
  refine Sx.icmp_gtV (t := 25) dX11_text_6 (by decide) (vN (by decide)) (vN (by decide)) (fun c6 => False.elim (by omega)) (fun c6 => ?_)
  refine Sx.aload_n dX11_text_9 rfl ?_
  refine Sx.iload_n dX11_text_10 rfl ?_
  refine Sx.callV1 dX11_text_11 lkv_X11_136 (rcv_11 (o_100 W)) (by decide) (by decide) (Nat.le_of_ble_eq_true rfl) rfl rfl (d_hp0 W C hb ?_)
  refine Sx.if_eqB (t := 25) dX11_text_14 (by decide) (fun c14 => False.elim (by cases c14)) (fun c14 => ?_)
  refine Sx.aload_n dX11_text_17 rfl ?_
  refine Sx.iload_n dX11_text_18 rfl ?_
  refine Sx.callV1 dX11_text_19 lkv_X11_129 (rcv_11 (o_100 W)) (by decide) (by decide) (Nat.le_of_ble_eq_true rfl) rfl rfl (d_rdAs0 W C hb hB (fun I1 C1 f1 t1 r1 o1 => ?_))
  refine Sx.if_neB (t := 27) dX11_text_22 (by decide) (fun c22 => ?_) (fun c22 => ?_)
  · refine Sx.aload_n dX11_text_27 rfl ?_
    refine Sx.getfR dX11_text_28 lkf_X11_10_11 (o_100 W) (r_100_0 W) ?_
    refine Sx.iconst (v := (nI 0)) dX11_text_31 (by decide) ?_
    refine Sx.callV1 dX11_text_32 lkv_X11_126 (rcv_9 (o_101 W)) (by decide) (by decide) (Nat.le_of_ble_eq_true rfl) rfl rfl (d_cut W (fun I2 e2 o2 => ?_))
    have hok : (ptR (V 1) (V 0 0) 14 0 usQ).1 = true := by assumption
    obtain ⟨hPB, -, -⟩ := po_ok hok
    have hQ2 : rep 36 (I2 106) (ptR (V 1) (V 0 0) 14 0 usQ).2.2 := by rw [o2 106 (by decide)]; exact r1 hok
    refine Sx.iload_n dX11_text_35 rfl ?_
    refine Sx.iconst (v := (nI 1)) dX11_text_36 (by decide) ?_
    refine Sx.icmp_neV (t := 52) dX11_text_37 (by decide) (vN (by decide)) (vN (by decide)) (fun c37 => ?_) (fun c37 => False.elim (by omega))
    refine Sx.iload_n dX11_text_52 rfl ?_
    refine Sx.iconst (v := (nI 2)) dX11_text_53 (by decide) ?_
    refine Sx.icmp_neV (t := 69) dX11_text_54 (by decide) (vN (by decide)) (vN (by decide)) (fun c54 => ?_) (fun c54 => False.elim (by omega))
    refine Sx.aload_n dX11_text_69 rfl ?_
    refine Sx.callV0 dX11_text_70 lkv_X11_139 (rcv_11 (o_100 W)) (by decide) (by decide) (Nat.le_of_ble_eq_true rfl) rfl rfl (d_openPort W hQ2 (fun j hj => (hPB.2.2.2.2.2.2.2.2 j hj).2.2.2.2) (fun I3 q4 q3 qh qw qo o3 => ?_))
    refine Sx.aload_n dX11_text_73 rfl ?_
    refine Sx.getfR dX11_text_74 lkf_X11_19_11 (o_100 W) (r_100_1 W) ?_
    refine Sx.callV0 dX11_text_77 lkv_X11_142 (rcv_6 (o_103 W)) (by decide) (by decide) (Nat.le_of_ble_eq_true rfl) rfl rfl (c_pers (w_103r W) q4 ?_)
    refine Sx.iret dX11_text_80 rfl rfl ?_
    obtain ⟨x1, x2⟩ := tex0_y hok
    exact pXX x2 (h I3 R L (by rw [x1]; exact C1.po hb (by rw [o3 101 (by decide) (by decide) (by decide) (by decide) (by decide), e2, upd_at]) q4 q3 (by rw [qh, o2 147 (by decide)]) (by rw [qw, o2 136 (by decide)]) (by rw [qo, o2 100 (by decide)]) (fun q h1 _ h4 h3 hh hw ho => by rw [o3 q h4 h3 hh hw ho, o2 q h1])) (f1.tr (CF.i fun q hq => by rw [o3 q (by omega) (by omega) (by omega) (by omega) (by omega), o2 q (by omega)])))
  · refine Sx.iconst (v := (iI (-1))) dX11_text_25 (by decide) ?_
    refine Sx.iret dX11_text_26 rfl rfl ?_
    have hn : ¬ (ptR (V 1) (V 0 0) 14 0 usQ).1 = true := by intro z; rw [z] at c22; exact absurd c22 (by decide)
    obtain ⟨x1, x2⟩ := tex0_n hn
    exact pXX x2 (h I1 R L (by rw [x1]; exact C1) f1)
