/-! the class: texts of calendars, of no sort -/
theorem stpR_i {T : Nat → Nat} {n c st : Nat} {f g : Nat → Int32} {z : Nat} (h : z < 3 * st → f z = g z) (h2 : z < 3 * (st + 1)) : stpR T n c st f z = stpR T n c st g z := by
  unfold stpR
  by_cases c2 : z = 3 * st + 2
  · rw [c2, upd_at, upd_at]
  · rw [upd_nj _ _ c2, upd_nj _ _ c2]
    by_cases c1 : z = 3 * st + 1
    · rw [c1, upd_at, upd_at]
    · rw [upd_nj _ _ c1, upd_nj _ _ c1]
      by_cases c0 : z = 3 * st
      · rw [c0, upd_at, upd_at]
      · rw [upd_nj _ _ c0, upd_nj _ _ c0]; exact h (by omega)
theorem cpF_i (T : Nat → Nat) (n : Nat) : ∀ k c st (f g : Nat → Int32), (∀ z, z < 3 * st → f z = g z) → ∀ z, z < 3 * (st + cpN T n k c) → cpF T n k c st f z = cpF T n k c st g z
  | 0, _, st, f, g, h, z => fun hz => h z (by unfold cpN at hz; omega)
  | k + 1, c, st, f, g, h, z => fun hz => by
    unfold cpN at hz
    unfold cpF
    by_cases q : sgn T n (stpN T n c) = 59 ∧ k ≠ 0
    · rw [if_pos q] at hz ⊢
      rw [if_pos q]
      exact cpF_i T n k _ (st + 1) _ _ (fun y hy => stpR_i (h y) hy) z (by omega)
    · rw [if_neg q] at hz ⊢
      rw [if_neg q]
      exact stpR_i (h z) (by omega)
theorem CI.cl {V : Vt} {R : Rt} {I I' : It} {L L' : Lt} (h : CI V R I L) (hb : V 0 1 ≤ 4 ∧ V 0 3 < 4) (hok : cpO (V 1) (V 0 0) 20 0 = true) (e1 : I' 101 1 = nI 0) (eo : I' 100 = upd (I 100) 15 (nI (V 0 3 + 1))) (n1 : I' (243 + 2 * V 0 3) 1 = nI (cpN (V 1) (V 0 0) 20 0)) (n2 : ∀ z, z < 3 * cpN (V 1) (V 0 0) 20 0 → I' (243 + 2 * V 0 3 + 1) z = cpF (V 1) (V 0 0) 20 0 0 (fun _ => 0) z) (o : ∀ q, q ≠ 101 → ¬ csc q → q ≠ 100 → q ≠ 243 + 2 * V 0 3 → q ≠ 243 + 2 * V 0 3 + 1 → I' q = I q) : CI (clV V) R I' L' := by
  obtain ⟨a1, a2, a3, ⟨c1, c2, c3, c4, c5⟩, a5, a6, a7, a8, a9, ⟨nx, b1, b2, b3, b4⟩, a11⟩ := h
  have r : ∀ a, a ≠ 0 → a ≠ 20 + V 0 3 → clV V a = V a := fun a h0 h1 => cl_o V h0 h1
  have z : ∀ q, q ≠ 0 → q ≠ 3 → clV V 0 q = V 0 q := fun q q0 q3 => cl_0 V q0 q3
  have e : ∀ q, q = 104 ∨ q = 113 ∨ q = 136 ∨ q = 140 ∨ q = 142 ∨ q = 144 ∨ q = 147 ∨ q = 230 ∨ q = 232 → I' q = I q := fun q hq => o q (by omega) (by unfold csc; omega) (by omega) (by omega) (by omega)
  refine ⟨⟨e1, fun j hj => absurd hj (Nat.not_lt_zero _)⟩, ?_, ?_, ⟨?_, ?_, by rw [eo, upd_at]; rfl, ?_, ?_⟩, fun i hi => ?_, ?_, fun i hi => ?_, ?_, fun q => ?_, ⟨nx, b1, ?_, ?_, fun i hi => ?_⟩, ?_⟩
  · rw [e 104 (by decide), r 2 (by decide) (by omega)]; exact a2
  · rw [e 230 (by decide), r 3 (by decide) (by omega)]; exact a3
  · rw [eo, upd_nj _ _ (by decide), z 5 (by decide) (by decide)]; exact c1
  · rw [eo, upd_nj _ _ (by decide), z 1 (by decide) (by decide)]; exact c2
  · rw [eo, upd_nj _ _ (by decide), z 2 (by decide) (by decide)]; exact c4
  · rw [eo, upd_nj _ _ (by decide), z 6 (by decide) (by decide)]; exact c5
  · rw [z 1 (by decide) (by decide)] at hi
    unfold LI; rw [o (233 + 2 * i) (by omega) (by unfold csc; omega) (by omega) (by omega) (by omega), o (233 + 2 * i + 1) (by omega) (by unfold csc; omega) (by omega) (by omega) (by omega), r (10 + i) (by omega) (by omega)]; exact a5 i hi
  · rw [z 2 (by decide) (by decide)]; exact a6
  · rw [cl_03] at hi
    by_cases q : i = V 0 3
    · subst q
      have e60 : clV V (20 + V 0 3) 60 = cpN (V 1) (V 0 0) 20 0 := by unfold clV; rw [if_neg (by omega), if_pos rfl]; rfl
      rw [e60]
      exact ⟨n1, fun y hy => by rw [n2 y hy]; exact (cl_c hok hy).1⟩
    · rw [o (243 + 2 * i) (by omega) (by unfold csc; omega) (by omega) (by omega) (by omega), o (243 + 2 * i + 1) (by omega) (by unfold csc; omega) (by omega) (by omega) (by omega), r (20 + i) (by omega) (by omega)]; exact a7 i (by omega)
  · rw [e 113 (by decide), r 4 (by decide) (by omega)]; exact a8
  · rw [z 5 (by decide) (by decide)] at q
    rw [e 232 (by decide), r 5 (by decide) (by omega)]; exact a9 q
  · rw [e 147 (by decide)]; exact b2
  · rw [e 147 (by decide), z 4 (by decide) (by decide)]; exact b3
  · rw [z 4 (by decide) (by decide)] at hi
    have := Nat.mod_lt (nx + 39 - i) (show 0 < 40 by decide)
    rw [o (150 + 2 * ((nx + 39 - i) % 40)) (by omega) (by unfold csc; omega) (by omega) (by omega) (by omega), r (30 + i) (by omega) (by omega)]; exact b4 i hi
  · rw [e 136 (by decide), e 140 (by decide), e 142 (by decide), e 144 (by decide), z 7 (by decide) (by decide), r 6 (by decide) (by omega), r 7 (by decide) (by omega), r 8 (by decide) (by omega)]; exact a11
theorem tex2_y {V : Vt} (h3 : V 0 3 < 4) (h : cpO (V 1) (V 0 0) 20 0 = true) : texV V (nI 2) = clV V ∧ texR V (nI 2) = nI (V 0 3) := by
  have e : xN (nI 2) = 2 := by decide
  have hc : sorC (nI 2) ∧ texC V (xN (nI 2)) := by rw [e]; exact ⟨⟨by decide, by decide⟩, fun z => absurd z (by decide), fun _ => by omega, h⟩
  unfold texV texR
  rw [if_pos hc, if_pos hc, e]
  exact ⟨rfl, rfl⟩
theorem tex2_n {V : Vt} (h : ¬ (V 0 3 ≠ 4 ∧ cpO (V 1) (V 0 0) 20 0 = true)) : texV V (nI 2) = V ∧ texR V (nI 2) = -1 := by
  have e : xN (nI 2) = 2 := by decide
  have hc : ¬ (sorC (nI 2) ∧ texC V (xN (nI 2))) := by rw [e]; exact fun z => h ⟨z.2.2.1 rfl, z.2.2.2⟩
  unfold texV texR
  rw [if_neg hc, if_neg hc]
  exact ⟨rfl, rfl⟩
theorem texX {V : Vt} {x : Int32} (h : ¬ sorC x) : texV V x = V ∧ texR V x = -1 := by
  unfold texV texR
  rw [if_neg (fun z => h z.1), if_neg (fun z => h z.1)]
  exact ⟨rfl, rfl⟩
set_option maxRecDepth 20000 in
set_option maxHeartbeats 1000000 in
theorem d_text2 {G : Gt} {l : Launch} {Z : Zt} {R : Rt} {I : It} {L : Lt} {post : Pt'} {V : Vt} (W : WF Z R) (C : CI V R I L) (hb : V 0 1 ≤ 4 ∧ V 0 3 ≤ 4) (hB : V 0 0 ≤ 240 ∧ ∀ j, j < V 0 0 → 0 < V 1 j ∧ V 1 j < 256) (h : ∀ I' R' L', CI (texV V (nI 2)) R' I' L' → CF R I L R' I' L' → post (some (.int (texR V (nI 2)))) Z R' I' L') : Cx G l mX11_text 10 0 0 [.ref 100, .int (nI 2)] Z R I L post := by
  refine Cx.of (by decide +kernel) (by exact Nat.le_of_ble_eq_true rfl) ?_
  refine Sx.iload_n dX11_text_0 rfl ?_
  refine Sx.if_ltV (t := 25) dX11_text_1 (by decide) (vN (by decide)) (fun c1 => False.elim (by omega)) (fun c1 => ?_)
  refine Sx.iload_n dX11_text_4 rfl ?_
  refine Sx.iconst (v := (nI 2)) dX11_text_5 (by decide) ?_
  refine Sx.icmp_gtV (t := 25) dX11_text_6 (by decide) (vN (by decide)) (vN (by decide)) (fun c6 => False.elim (by omega)) (fun c6 => ?_)
  refine Sx.aload_n dX11_text_9 rfl ?_
  refine Sx.iload_n dX11_text_10 rfl ?_
  refine Sx.callV1 dX11_text_11 lkv_X11_136 (rcv_11 (o_100 W)) (by decide) (by decide) (Nat.le_of_ble_eq_true rfl) rfl rfl (d_hp2 W C hb ?_)
  refine Sx.if_eqD (t := 25) dX11_text_14 (by decide) (fun c14 => ?_) (fun c14 => ?_)
  · refine Sx.iconst (v := (iI (-1))) dX11_text_25 (by decide) ?_
    refine Sx.iret dX11_text_26 rfl rfl ?_
    have hn : ¬ (V 0 3 ≠ 4 ∧ cpO (V 1) (V 0 0) 20 0 = true) := fun z => by first | omega | (have z2 := z.2; simp_all; done)
    obtain ⟨x1, x2⟩ := tex2_n hn
    exact pXX x2 (h I R L (by rw [x1]; exact C) (CF.rf R I L))
  · refine Sx.aload_n dX11_text_17 rfl ?_
    refine Sx.iload_n dX11_text_18 rfl ?_
    refine Sx.callV1 dX11_text_19 lkv_X11_129 (rcv_11 (o_100 W)) (by decide) (by decide) (Nat.le_of_ble_eq_true rfl) rfl rfl (d_rdAs2 W C hb hB (fun I1 C1 f1 t1 r1 o1 => ?_))
    refine Sx.if_neB (t := 27) dX11_text_22 (by decide) (fun c22 => ?_) (fun c22 => ?_)
    · refine Sx.aload_n dX11_text_27 rfl ?_
      refine Sx.getfR dX11_text_28 lkf_X11_10_11 (o_100 W) (r_100_0 W) ?_
      refine Sx.iconst (v := (nI 0)) dX11_text_31 (by decide) ?_
      refine Sx.callV1 dX11_text_32 lkv_X11_126 (rcv_9 (o_101 W)) (by decide) (by decide) (Nat.le_of_ble_eq_true rfl) rfl rfl (d_cut W (fun I2 e2 o2 => ?_))
      have hok : cpO (V 1) (V 0 0) 20 0 = true := by assumption
      refine Sx.iload_n dX11_text_35 rfl ?_
      refine Sx.iconst (v := (nI 1)) dX11_text_36 (by decide) ?_
      refine Sx.icmp_neV (t := 52) dX11_text_37 (by decide) (vN (by decide)) (vN (by decide)) (fun c37 => ?_) (fun c37 => False.elim (by omega))
      refine Sx.iload_n dX11_text_52 rfl ?_
      refine Sx.iconst (v := (nI 2)) dX11_text_53 (by decide) ?_
      refine Sx.icmp_neV (t := 69) dX11_text_54 (by decide) (vN (by decide)) (vN (by decide)) (fun c54 => False.elim (by omega)) (fun c54 => ?_)
      refine Sx.aload_n dX11_text_57 rfl ?_
      refine Sx.dup dX11_text_58 rfl ?_
      refine Sx.getfV (v := (nI (V 0 3))) dX11_text_59 lkf_X11_104_11 (o_100 W) (by rw [o2 100 (by decide)]; exact C1.2.2.2.1.2.2.1) ?_
      refine Sx.dup_x1 dX11_text_62 rfl rfl ?_
      refine Sx.iconst (v := (nI 1)) dX11_text_63 (by decide) ?_
      refine Sx.iaddN dX11_text_64 ?_
      refine Sx.putfV dX11_text_65 lkp_X11_104_11 (o_100 W) rfl rfl (fun I3 e3 o3 => ?_)
      refine Sx.iret dX11_text_68 rfl rfl ?_
      obtain ⟨x1, x2⟩ := tex2_y (by omega) hok
      have hcp := r1 hok
      have hlt := cpN_le (V 1) (V 0 0) 20 0
      exact pXX x2 (h I3 R L (by rw [x1]; exact C1.cl ⟨hb.1, by omega⟩ hok (by rw [o3 101 (by decide), e2, upd_at]) (by rw [e3, o2 100 (by decide)]) (by rw [o3 _ (by omega), o2 _ (by omega)]; exact hcp.1) (fun z hz => by rw [o3 _ (by omega), o2 _ (by omega), hcp.2]; exact cpF_i _ _ _ _ _ _ _ (fun y hy => by omega) z (by omega)) (fun q h1 _ h0 _ _ => by rw [o3 q h0, o2 q h1])) (f1.tr (CF.i fun q hq => by rw [o3 q (by omega), o2 q (by omega)])))
    · refine Sx.iconst (v := (iI (-1))) dX11_text_25 (by decide) ?_
      refine Sx.iret dX11_text_26 rfl rfl ?_
      have hn : ¬ (V 0 3 ≠ 4 ∧ cpO (V 1) (V 0 0) 20 0 = true) := fun z => by first | omega | (have z2 := z.2; simp_all; done)
      obtain ⟨x1, x2⟩ := tex2_n hn
      exact pXX x2 (h I1 R L (by rw [x1]; exact C1) f1)
set_option maxRecDepth 20000 in
set_option maxHeartbeats 1000000 in
theorem d_textL {G : Gt} {l : Launch} {Z : Zt} {R : Rt} {I : It} {L : Lt} {post : Pt'} {V : Vt} {x : Int32} (W : WF Z R) (C : CI V R I L) (hb : V 0 1 ≤ 4 ∧ V 0 3 ≤ 4) (hB : V 0 0 ≤ 240 ∧ ∀ j, j < V 0 0 → 0 < V 1 j ∧ V 1 j < 256) (hx : x.toInt < 0) (h : ∀ I' R' L', CI (texV V x) R' I' L' → CF R I L R' I' L' → post (some (.int (texR V x))) Z R' I' L') : Cx G l mX11_text 10 0 0 [.ref 100, .int x] Z R I L post := by
  refine Cx.of (by decide +kernel) (by exact Nat.le_of_ble_eq_true rfl) ?_
  have hn : ¬ sorC x := fun z => by omega
  refine Sx.iload_n dX11_text_0 rfl ?_
  refine Sx.if_ltV (t := 25) dX11_text_1 (by decide) (vX x) (fun c1 => ?_) (fun c1 => False.elim (by omega))
  refine Sx.iconst (v := (iI (-1))) dX11_text_25 (by decide) ?_
  refine Sx.iret dX11_text_26 rfl rfl ?_
  obtain ⟨x1, x2⟩ := texX hn
  exact pXX x2 (h I R L (by rw [x1]; exact C) (CF.rf R I L))
set_option maxRecDepth 20000 in
set_option maxHeartbeats 1000000 in
theorem d_textG {G : Gt} {l : Launch} {Z : Zt} {R : Rt} {I : It} {L : Lt} {post : Pt'} {V : Vt} {x : Int32} (W : WF Z R) (C : CI V R I L) (hb : V 0 1 ≤ 4 ∧ V 0 3 ≤ 4) (hB : V 0 0 ≤ 240 ∧ ∀ j, j < V 0 0 → 0 < V 1 j ∧ V 1 j < 256) (hx : 2 < x.toInt) (h : ∀ I' R' L', CI (texV V x) R' I' L' → CF R I L R' I' L' → post (some (.int (texR V x))) Z R' I' L') : Cx G l mX11_text 10 0 0 [.ref 100, .int x] Z R I L post := by
  refine Cx.of (by decide +kernel) (by exact Nat.le_of_ble_eq_true rfl) ?_
  have hn : ¬ sorC x := fun z => by omega
  refine Sx.iload_n dX11_text_0 rfl ?_
  refine Sx.if_ltV (t := 25) dX11_text_1 (by decide) (vX x) (fun c1 => False.elim (by omega)) (fun c1 => ?_)
  refine Sx.iload_n dX11_text_4 rfl ?_
  refine Sx.iconst (v := (nI 2)) dX11_text_5 (by decide) ?_
  refine Sx.icmp_gtV (t := 25) dX11_text_6 (by decide) (vX x) (vN (by decide)) (fun c6 => ?_) (fun c6 => False.elim (by omega))
  refine Sx.iconst (v := (iI (-1))) dX11_text_25 (by decide) ?_
  refine Sx.iret dX11_text_26 rfl rfl ?_
  obtain ⟨x1, x2⟩ := texX hn
  exact pXX x2 (h I R L (by rw [x1]; exact C) (CF.rf R I L))
set_option maxRecDepth 20000 in
set_option maxHeartbeats 1000000 in
theorem d_faultL {G : Gt} {l : Launch} {Z : Zt} {R : Rt} {I : It} {L : Lt} {post : Pt'} {V : Vt} {x : Int32} (W : WF Z R) (C : CI V R I L) (hb : V 0 1 ≤ 4 ∧ V 0 3 ≤ 4) (hB : V 0 0 ≤ 240 ∧ ∀ j, j < V 0 0 → 0 < V 1 j ∧ V 1 j < 256) (hx : x.toInt < 0) (h : CQ post Z R I L V (fauR V x)) : Cx G l mX11_fault 10 0 0 [.ref 100, .int x] Z R I L post := by
  refine Cx.of (by decide +kernel) (by exact Nat.le_of_ble_eq_true rfl) ?_
  refine Sx.iload_n dX11_fault_0 rfl ?_
  refine Sx.if_ltV (t := 9) dX11_fault_1 (by decide) (vX x) (fun c1 => ?_) (fun c1 => False.elim (by omega))
  refine Sx.bipush (v := (iI (-2))) dX11_fault_9 (by decide) ?_
  refine Sx.iret dX11_fault_11 rfl rfl ?_
  have hn : ¬ sorC x := fun z => by omega
  exact pXX (show fauR V x = _ from if_neg hn) (h I R L C (CF.rf R I L))
set_option maxRecDepth 20000 in
set_option maxHeartbeats 1000000 in
theorem d_faultG {G : Gt} {l : Launch} {Z : Zt} {R : Rt} {I : It} {L : Lt} {post : Pt'} {V : Vt} {x : Int32} (W : WF Z R) (C : CI V R I L) (hb : V 0 1 ≤ 4 ∧ V 0 3 ≤ 4) (hB : V 0 0 ≤ 240 ∧ ∀ j, j < V 0 0 → 0 < V 1 j ∧ V 1 j < 256) (hx : 2 < x.toInt) (h : CQ post Z R I L V (fauR V x)) : Cx G l mX11_fault 10 0 0 [.ref 100, .int x] Z R I L post := by
  refine Cx.of (by decide +kernel) (by exact Nat.le_of_ble_eq_true rfl) ?_
  refine Sx.iload_n dX11_fault_0 rfl ?_
  refine Sx.if_ltV (t := 9) dX11_fault_1 (by decide) (vX x) (fun c1 => False.elim (by omega)) (fun c1 => ?_)
  refine Sx.iload_n dX11_fault_4 rfl ?_
  refine Sx.iconst (v := (nI 2)) dX11_fault_5 (by decide) ?_
  refine Sx.icmp_leV (t := 12) dX11_fault_6 (by decide) (vX x) (vN (by decide)) (fun c6 => False.elim (by omega)) (fun c6 => ?_)
  refine Sx.bipush (v := (iI (-2))) dX11_fault_9 (by decide) ?_
  refine Sx.iret dX11_fault_11 rfl rfl ?_
  have hn : ¬ sorC x := fun z => by omega
  exact pXX (show fauR V x = _ from if_neg hn) (h I R L C (CF.rf R I L))
