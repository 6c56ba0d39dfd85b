/-! the class: what a text reads as -/
theorem CI.rd {V : Vt} {R : Rt} {I I' : It} {L L' : Lt} (h : CI V R I L) (hb : V 0 1 ≤ 4 ∧ V 0 3 ≤ 4) (e1 : I' 101 1 = I 101 1) (o : ∀ q, q ≠ 101 → ¬ csc q → q ≠ 233 + 2 * V 0 1 → q ≠ 234 + 2 * V 0 1 → q ≠ 243 + 2 * V 0 3 → q ≠ 244 + 2 * V 0 3 → I' q = I q) : CI V R I' L' := by
  obtain ⟨a1, a2, a3, a4, a5, a6, a7, a8, a9, ⟨nx, b1, b2, b3, b4⟩, a11⟩ := h
  have e : ∀ q, q = 100 ∨ q = 102 ∨ q = 104 ∨ q = 113 ∨ q = 136 ∨ q = 140 ∨ q = 142 ∨ q = 144 ∨ q = 147 ∨ q = 230 ∨ q = 232 → I' q = I q := fun q hq => o q (by omega) (by unfold csc; omega) (by omega) (by omega) (by omega) (by omega)
  refine ⟨?_, ?_, ?_, ?_, fun i hi => ?_, a6, fun i hi => ?_, ?_, ?_, ⟨nx, b1, ?_, ?_, fun i hi => ?_⟩, ?_⟩
  · rw [e1, e 102 (by decide)]; exact a1
  · rw [e 104 (by decide)]; exact a2
  · rw [e 230 (by decide)]; exact a3
  · rw [e 100 (by decide)]; exact a4
  · unfold LI; rw [o (233 + 2 * i) (by omega) (by unfold csc; omega) (by omega) (by omega) (by omega) (by omega), o (233 + 2 * i + 1) (by omega) (by unfold csc; omega) (by omega) (by omega) (by omega) (by omega)]; exact a5 i hi
  · rw [o (243 + 2 * i) (by omega) (by unfold csc; omega) (by omega) (by omega) (by omega) (by omega), o (243 + 2 * i + 1) (by omega) (by unfold csc; omega) (by omega) (by omega) (by omega) (by omega)]; exact a7 i hi
  · rw [e 113 (by decide)]; exact a8
  · rw [e 232 (by decide)]; exact a9
  · rw [e 147 (by decide)]; exact b2
  · rw [e 147 (by decide)]; exact b3
  · have := Nat.mod_lt (nx + 39 - i) (show 0 < 40 by decide)
    rw [o (150 + 2 * ((nx + 39 - i) % 40)) (by omega) (by unfold csc; omega) (by omega) (by omega) (by omega) (by omega)]; exact b4 i hi
  · rw [e 136 (by decide), e 140 (by decide), e 142 (by decide), e 144 (by decide)]; exact a11
set_option maxRecDepth 20000 in
set_option maxHeartbeats 1000000 in
theorem d_rewind {G : Gt} {l : Launch} {Z : Zt} {R : Rt} {I : It} {L : Lt} {post : Pt'} {V : Vt} (W : WF Z R) (C : CI V R I L) (hB : V 0 0 ≤ 240 ∧ ∀ j, j < V 0 0 → 0 < V 1 j ∧ V 1 j < 256) (h : ∀ I', TS I' (V 1) (V 0 0) 0 → I' 101 1 = I 101 1 → (∀ q, q ≠ 101 → I' q = I q) → post none Z R I' L) : Cx G l mX9_rewind 1 0 0 [.ref 101] Z R I L post := by
  refine Cx.of (by decide +kernel) (by exact Nat.le_of_ble_eq_true rfl) ?_
  refine Sx.aload_n dX9_rewind_0 rfl ?_
  refine Sx.iconst (v := (nI 0)) dX9_rewind_1 (by decide) ?_
  refine Sx.putfV dX9_rewind_2 lkp_X9_19_9 (o_101 W) rfl rfl (fun I1 e1 o1 => ?_)
  refine Sx.vret dX9_rewind_5 rfl ?_
  exact h I1 ⟨by rw [e1, upd_nj _ _ (by decide)]; exact C.1.1, by rw [e1, upd_at], hB.1, Nat.zero_le _, fun j hj => by rw [o1 102 (by decide)]; exact C.1.2 j hj, hB.2⟩ (by rw [e1, upd_nj _ _ (by decide)]) o1
set_option maxRecDepth 20000 in
set_option maxHeartbeats 1000000 in
theorem d_rdAs0 {G : Gt} {l : Launch} {Z : Zt} {R : Rt} {I : It} {L : Lt} {post : Pt'} {V : Vt} (W : WF Z R) (C : CI V R I L) (hb : V 0 1 ≤ 4 ∧ V 0 3 ≤ 4) (hB : V 0 0 ≤ 240 ∧ ∀ j, j < V 0 0 → 0 < V 1 j ∧ V 1 j < 256) (h : ∀ I', CI V R I' L → CF R I L R I' L → TS I' (V 1) (V 0 0) (ptR (V 1) (V 0 0) 14 0 usQ).2.1 → ((ptR (V 1) (V 0 0) 14 0 usQ).1 = true → rep 36 (I' 106) (ptR (V 1) (V 0 0) 14 0 usQ).2.2) → (∀ q, q ≠ 101 → q ≠ 106 → I' q = I q) → post (some (.int (b2i (ptR (V 1) (V 0 0) 14 0 usQ).1))) Z R I' L) : Cx G l mX11_readsAs 9 0 0 [.ref 100, .int (nI 0)] Z R I L post := by
  refine Cx.of (by decide +kernel) (by exact Nat.le_of_ble_eq_true rfl) ?_
  refine Sx.aload_n dX11_readsAs_0 rfl ?_
  refine Sx.getfR dX11_readsAs_1 lkf_X11_10_11 (o_100 W) (r_100_0 W) ?_
  refine Sx.callV0 dX11_readsAs_4 lkv_X11_145 (rcv_9 (o_101 W)) (by decide) (by decide) (Nat.le_of_ble_eq_true rfl) rfl rfl (d_rewind W C hB (fun I1 t1 h11 o1 => ?_))
  refine Sx.iload_n dX11_readsAs_7 rfl ?_
  refine Sx.iconst (v := (nI 1)) dX11_readsAs_8 (by decide) ?_
  refine Sx.icmp_neV (t := 32) dX11_readsAs_9 (by decide) (vN (by decide)) (vN (by decide)) (fun c9 => ?_) (fun c9 => False.elim (by omega))
  refine Sx.iload_n dX11_readsAs_32 rfl ?_
  refine Sx.iconst (v := (nI 2)) dX11_readsAs_33 (by decide) ?_
  refine Sx.icmp_neV (t := 67) dX11_readsAs_34 (by decide) (vN (by decide)) (vN (by decide)) (fun c34 => ?_) (fun c34 => False.elim (by omega))
  refine Sx.aload_n dX11_readsAs_67 rfl ?_
  refine Sx.getfR dX11_readsAs_68 lkf_X11_23_11 (o_100 W) (r_100_2 W) ?_
  refine Sx.aload_n dX11_readsAs_71 rfl ?_
  refine Sx.getfR dX11_readsAs_72 lkf_X11_10_11 (o_100 W) (r_100_0 W) ?_
  refine Sx.callV1 dX11_readsAs_75 lkv_X11_163 (rcv_6 (o_105 W)) (by decide) (by decide) (Nat.le_of_ble_eq_true rfl) rfl rfl (c_readsPort (r := ptR (V 1) (V 0 0) 14 0 usQ) W t1 rfl (fun I2 t2 r2 o2 => ?_))
  refine Sx.iret dX11_readsAs_78 rfl (b2i_n _) ?_
  exact h I2 (C.rd hb (by rw [t2.1, C.1.1]) (fun q q1 q2 _ _ _ _ => by rw [o2 q q1 (fun z => q2 (by unfold csc; omega)), o1 q q1])) (CF.i fun q hq => by rw [o2 q (by omega) (by omega), o1 q (by omega)]) t2 r2 (fun q q1 q2 => by rw [o2 q q1 q2, o1 q q1])
set_option maxRecDepth 20000 in
set_option maxHeartbeats 1000000 in
theorem d_rdAs2 {G : Gt} {l : Launch} {Z : Zt} {R : Rt} {I : It} {L : Lt} {post : Pt'} {V : Vt} (W : WF Z R) (C : CI V R I L) (hb : V 0 1 ≤ 4 ∧ V 0 3 ≤ 4) (hB : V 0 0 ≤ 240 ∧ ∀ j, j < V 0 0 → 0 < V 1 j ∧ V 1 j < 256) (h : ∀ I', CI V R I' L → CF R I L R I' L → TS I' (V 1) (V 0 0) (cpE (V 1) (V 0 0) 20 0) → (cpO (V 1) (V 0 0) 20 0 = true → I' (243 + 2 * V 0 3) 1 = nI (cpN (V 1) (V 0 0) 20 0) ∧ I' (243 + 2 * V 0 3 + 1) = cpF (V 1) (V 0 0) 20 0 0 (I (243 + 2 * V 0 3 + 1))) → (∀ q, q ≠ 101 → q ≠ 243 + 2 * V 0 3 + 1 → q ≠ 243 + 2 * V 0 3 → I' q = I q) → post (some (.int (b2i (cpO (V 1) (V 0 0) 20 0)))) Z R I' L) : Cx G l mX11_readsAs 9 0 0 [.ref 100, .int (nI 2)] Z R I L post := by
  refine Cx.of (by decide +kernel) (by exact Nat.le_of_ble_eq_true rfl) ?_
  refine Sx.aload_n dX11_readsAs_0 rfl ?_
  refine Sx.getfR dX11_readsAs_1 lkf_X11_10_11 (o_100 W) (r_100_0 W) ?_
  refine Sx.callV0 dX11_readsAs_4 lkv_X11_145 (rcv_9 (o_101 W)) (by decide) (by decide) (Nat.le_of_ble_eq_true rfl) rfl rfl (d_rewind W C hB (fun I1 t1 h11 o1 => ?_))
  refine Sx.iload_n dX11_readsAs_7 rfl ?_
  refine Sx.iconst (v := (nI 1)) dX11_readsAs_8 (by decide) ?_
  refine Sx.icmp_neV (t := 32) dX11_readsAs_9 (by decide) (vN (by decide)) (vN (by decide)) (fun c9 => ?_) (fun c9 => False.elim (by omega))
  refine Sx.iload_n dX11_readsAs_32 rfl ?_
  refine Sx.iconst (v := (nI 2)) dX11_readsAs_33 (by decide) ?_
  refine Sx.icmp_neV (t := 67) dX11_readsAs_34 (by decide) (vN (by decide)) (vN (by decide)) (fun c34 => False.elim (by omega)) (fun c34 => ?_)
  refine Sx.aload_n dX11_readsAs_37 rfl ?_
  refine Sx.aload_n dX11_readsAs_38 rfl ?_
  refine Sx.getfV (v := (nI (V 0 3))) dX11_readsAs_39 lkf_X11_104_11 (o_100 W) (by rw [o1 100 (by decide)]; exact C.2.2.2.1.2.2.1) ?_
  refine Sx.callV1 dX11_readsAs_42 lkv_X11_156 (rcv_11 (o_100 W)) (by decide) (by decide) (Nat.le_of_ble_eq_true rfl) rfl rfl (d_calAt W (k := V 0 3) (by omega) ?_)
  refine Sx.astore_n (lv' := [(2, .ref ((243 + 2 * V 0 3))), (0, .ref 100), (1, .int (nI 2))]) dX11_readsAs_45 (by decide) rfl ?_
  refine Sx.aload_n dX11_readsAs_46 rfl ?_
  refine Sx.ifnull dX11_readsAs_47 ?_
  refine Sx.aload_n dX11_readsAs_50 rfl ?_
  refine Sx.aload_n dX11_readsAs_51 rfl ?_
  refine Sx.getfR dX11_readsAs_52 lkf_X11_10_11 (o_100 W) (r_100_0 W) ?_
  refine Sx.callV1 dX11_readsAs_55 lkv_X11_160 (rcv_0 (w_cals W (i := V 0 3) (by omega)).1) (by decide) (by decide) (Nat.le_of_ble_eq_true rfl) rfl rfl (c_readsCal W (w_cals W (i := V 0 3) (by omega)) (by omega) t1 (fun I2 t2 r2 o2 => ?_))
  refine Sx.if_eqB (t := 65) dX11_readsAs_58 (by decide) (fun c58 => ?_) (fun c58 => ?_)
  · refine Sx.iconst (v := (nI 0)) dX11_readsAs_65 (by decide) ?_
    refine Sx.top (show _ = b2i false from rfl) ?_
    refine Sx.iret dX11_readsAs_66 rfl (b2i_n _) ?_
    exact pBB (by assumption) (h I2 (C.rd hb (by rw [t2.1, C.1.1]) (fun q q1 _ _ _ q5 q6 => by rw [o2 q q1 (by omega) (by omega), o1 q q1])) (CF.i fun q hq => by rw [o2 q (by omega) (by omega) (by omega), o1 q (by omega)]) t2 (fun z => by have y := r2 z; rw [o1 (243 + 2 * V 0 3 + 1) (by omega)] at y; exact y) (fun q q1 q2 q3 => by rw [o2 q q1 q2 q3, o1 q q1]))
  · refine Sx.iconst (v := (nI 1)) dX11_readsAs_61 (by decide) ?_
    refine Sx.goto (t := 66) dX11_readsAs_62 (by decide) ?_
    refine Sx.top (show _ = b2i true from rfl) ?_
    refine Sx.iret dX11_readsAs_66 rfl (b2i_n _) ?_
    exact pBB (by assumption) (h I2 (C.rd hb (by rw [t2.1, C.1.1]) (fun q q1 _ _ _ q5 q6 => by rw [o2 q q1 (by omega) (by omega), o1 q q1])) (CF.i fun q hq => by rw [o2 q (by omega) (by omega) (by omega), o1 q (by omega)]) t2 (fun z => by have y := r2 z; rw [o1 (243 + 2 * V 0 3 + 1) (by omega)] at y; exact y) (fun q q1 q2 q3 => by rw [o2 q q1 q2 q3, o1 q q1]))
