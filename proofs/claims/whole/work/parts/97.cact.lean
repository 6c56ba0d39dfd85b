/-! the class: states are kept, acts, years -/
theorem CI.mv {V V' : Vt} {R : Rt} {I I' : It} {L L' : Lt} (h : CI V R I L) (hb : V 0 1 ≤ 4 ∧ V 0 3 ≤ 4) (f : I' 100 13 = nI (V' 0 5) ∧ I' 100 14 = nI (V' 0 1) ∧ I' 100 15 = nI (V' 0 3) ∧ I' 100 16 = iI ((V' 0 2 : Int) - 1) ∧ I' 100 17 = nI (V' 0 6)) (c0 : V' 0 0 = V 0 0) (c1 : V' 0 1 = V 0 1) (c2 : V' 0 2 = V 0 2) (c3 : V' 0 3 = V 0 3) (c7 : V' 0 7 = V 0 7) (r : ∀ p, p ≠ 0 → p ≠ 3 → p ≠ 5 → p < 30 → V' p = V p) (o : ∀ q, q ≠ 100 → q ≠ 147 → ¬ (149 ≤ q ∧ q ≤ 232) → ¬ csc q → I' q = I q) (s3 : rs (I' 230) (V' 3)) (s5 : V' 0 5 = 1 → rs (I' 232) (V' 5)) (hh : HI I' V') : CI V' R I' L' := by
  obtain ⟨a1, a2, a3, a4, a5, a6, a7, a8, a9, a10, a11⟩ := h
  have e : ∀ q, q = 101 ∨ q = 102 ∨ q = 104 ∨ q = 113 ∨ q = 136 ∨ q = 140 ∨ q = 142 ∨ q = 144 → I' q = I q := fun q hq => o q (by omega) (by omega) (by omega) (by unfold csc; omega)
  refine ⟨?_, ?_, s3, f, fun i hi => ?_, ?_, fun i hi => ?_, ?_, s5, hh, ?_⟩
  · rw [e 101 (by decide), e 102 (by decide), c0, r 1 (by decide) (by decide) (by decide) (by decide)]; exact a1
  · rw [e 104 (by decide), r 2 (by decide) (by decide) (by decide) (by decide)]; exact a2
  · rw [c1] at hi
    unfold LI
    rw [o (233 + 2 * i) (by omega) (by omega) (by omega) (by unfold csc; omega), o (233 + 2 * i + 1) (by omega) (by omega) (by omega) (by unfold csc; omega), r (10 + i) (by omega) (by omega) (by omega) (by omega)]
    exact a5 i hi
  · rw [c2]; exact a6
  · rw [c3] at hi
    rw [o (243 + 2 * i) (by omega) (by omega) (by omega) (by unfold csc; omega), o (243 + 2 * i + 1) (by omega) (by omega) (by omega) (by unfold csc; omega), r (20 + i) (by omega) (by omega) (by omega) (by omega)]
    exact a7 i hi
  · rw [e 113 (by decide), r 4 (by decide) (by decide) (by decide) (by decide)]; exact a8
  · rw [e 136 (by decide), e 140 (by decide), e 142 (by decide), e 144 (by decide), c7, r 6 (by decide) (by decide) (by decide) (by decide), r 7 (by decide) (by decide) (by decide) (by decide), r 8 (by decide) (by decide) (by decide) (by decide)]; exact a11
theorem CI.v3 {V : Vt} {R : Rt} {I I' : It} {L L' : Lt} {F : Nat → Nat} (h : CI V R I L) (hb : V 0 1 ≤ 4 ∧ V 0 3 ≤ 4) (s3 : rs (I' 230) F) (o : ∀ q, q ≠ 230 → ¬ csc q → I' q = I q) : CI (vr V 3 F) R I' L' := by
  refine h.mv hb ?_ rfl rfl rfl rfl rfl (fun p _ p3 _ _ => vr_o V F p3) (fun q _ _ q3 q4 => o q (by omega) q4) s3 (fun z => ?_) ?_
  · rw [o 100 (by decide) (by unfold csc; omega)]; exact h.2.2.2.1
  · rw [o 232 (by decide) (by unfold csc; omega)]; exact h.2.2.2.2.2.2.2.2.1 z
  · obtain ⟨nx, n1, n2, n3, n4⟩ := h.2.2.2.2.2.2.2.2.2.1
    refine ⟨nx, n1, by rw [o 147 (by decide) (by unfold csc; omega)]; exact n2, by rw [o 147 (by decide) (by unfold csc; omega)]; exact n3, fun i hi => ?_⟩
    have := Nat.mod_lt (nx + 39 - i) (show 0 < 40 by decide)
    rw [o _ (by omega) (by unfold csc; omega), vr_o V F (by omega)]
    exact n4 i hi
theorem CI.rm {V : Vt} {R : Rt} {I I' : It} {L L' : Lt} {nx : Nat} (h : CI V R I L) (hb : V 0 1 ≤ 4 ∧ V 0 3 ≤ 4) (h4 : V 0 4 ≤ 40) (n1 : nx < 40) (n4 : ∀ i, i < V 0 4 → rs (I (150 + 2 * ((nx + 39 - i) % 40))) (V (30 + i))) (e1 : I' 147 2 = nI ((nx + 1) % 40)) (e2 : I' 147 1 = nI (min 40 (V 0 4 + 1))) (s : rs (I' (150 + 2 * nx)) (V 3)) (o : ∀ q, q ≠ 147 → q ≠ 150 + 2 * nx → I' q = I q) : CI (rmV V) R I' L' := by
  refine h.mv hb ?_ (rm_0 V (by decide)) (rm_0 V (by decide)) (rm_0 V (by decide)) (rm_0 V (by decide)) (rm_0 V (by decide)) (fun p p0 _ _ p3 => rm_o V p0 p3) (fun q _ q2 q3 _ => o q q2 (by omega)) ?_ (fun z => ?_) ⟨(nx + 1) % 40, Nat.mod_lt _ (by decide), e1, ?_, fun i hi => ?_⟩
  · rw [o 100 (by decide) (by omega), rm_0 V (by decide), rm_0 V (by decide), rm_0 V (by decide), rm_0 V (by decide), rm_0 V (by decide)]; exact h.2.2.2.1
  · rw [o 230 (by decide) (by omega), rm_o V (by decide) (by decide)]; exact h.2.2.1
  · rw [rm_0 V (by decide)] at z; rw [o 232 (by decide) (by omega), rm_o V (by decide) (by decide)]; exact h.2.2.2.2.2.2.2.2.1 z
  · rw [e2, rm_4]; congr 1; omega
  · rw [rm_4] at hi
    match i with
    | 0 => rw [show ((nx + 1) % 40 + 39 - 0) % 40 = nx by omega]; exact s
    | i + 1 => rw [show ((nx + 1) % 40 + 39 - (i + 1)) % 40 = (nx + 39 - i) % 40 by omega, rm_31, o _ (by omega) (by omega)]; exact n4 i (by omega)
theorem rs_c {f g : Nat → Int32} {F : Nat → Nat} (h : rs f F) : rs (rcpy 146 f g) F := rs_cpy h
set_option maxRecDepth 20000 in
set_option maxHeartbeats 1000000 in
theorem d_keep {G : Gt} {l : Launch} {Z : Zt} {R : Rt} {I : It} {L : Lt} {post : Pt'} {V : Vt} (W : WF Z R) (C : CI V R I L) (hb : V 0 1 ≤ 4 ∧ V 0 3 ≤ 4) (h4 : V 0 4 ≤ 40) (h : ∀ I', CI (rmV V) R I' L → (∀ q, q ≠ 147 → ¬ (149 ≤ q ∧ q ≤ 228) → I' q = I q) → post none Z R I' L) : Cx G l mX2_keep 3 0 0 [.ref 147, .ref 229] Z R I L post := by
  refine Cx.of (by decide +kernel) (by exact Nat.le_of_ble_eq_true rfl) ?_
  obtain ⟨nx, n1, n2, n3, n4⟩ := C.2.2.2.2.2.2.2.2.2.1
  refine Sx.aload_n dX2_keep_0 rfl ?_
  refine Sx.aload_n dX2_keep_1 rfl ?_
  refine Sx.getfV (v := (nI nx)) dX2_keep_2 lkf_X2_19_2 (o_147 W) n2 ?_
  refine Sx.callV1 dX2_keep_5 lkv_X2_23 (rcv_2 (o_147 W)) (by decide) (by decide) (Nat.le_of_ble_eq_true rfl) rfl rfl (d_stateAt W n1 ?_)
  refine Sx.astore_n (lv' := [(2, .ref ((149 + 2 * nx))), (0, .ref 147), (1, .ref 229)]) dX2_keep_8 (by decide) rfl ?_
  refine Sx.aload_n dX2_keep_9 rfl ?_
  refine Sx.ifnull dX2_keep_10 ?_
  refine Sx.aload_n dX2_keep_13 rfl ?_
  refine Sx.aload_n dX2_keep_14 rfl ?_
  refine Sx.callU1 dX2_keep_15 lku_X2_27 (rcv_8 (w_sts W n1).1) (by decide) (by decide) (Nat.le_of_ble_eq_true rfl) rfl rfl (c_X7_copy (w_sts W n1) (by unfold rowC; decide) (by decide) (w_229r W) (by unfold rowC; decide) (fun I1 e1 o1 => ?_))
  refine Sx.aload_n dX2_keep_18 rfl ?_
  refine Sx.aload_n dX2_keep_19 rfl ?_
  refine Sx.getfV (v := (nI nx)) dX2_keep_20 lkf_X2_19_2 (o_147 W) (by rw [o1 147 (by omega)]; exact n2) ?_
  refine Sx.iconst (v := (nI 1)) dX2_keep_23 (by decide) ?_
  refine Sx.iaddN dX2_keep_24 ?_
  refine Sx.bipush (v := (nI 40)) dX2_keep_25 (by decide) ?_
  refine Sx.iremN dX2_keep_27 (by omega) (by decide) (by decide) ?_
  refine Sx.putfV dX2_keep_28 lkp_X2_19_2 (o_147 W) rfl rfl (fun I2 e2 o2 => ?_)
  refine Sx.aload_n dX2_keep_31 rfl ?_
  refine Sx.bipush (v := (nI 40)) dX2_keep_32 (by decide) ?_
  refine Sx.aload_n dX2_keep_34 rfl ?_
  refine Sx.getfV (v := (nI (V 0 4))) dX2_keep_35 lkf_X2_15_2 (o_147 W) (by rw [e2, upd_nj _ _ (by decide), o1 147 (by omega)]; exact n3) ?_
  refine Sx.iconst (v := (nI 1)) dX2_keep_38 (by decide) ?_
  refine Sx.iaddN dX2_keep_39 ?_
  refine Sx.mmin dX2_keep_40 lkm_X2_31 (by decide) (Nat.le_of_ble_eq_true rfl) ?_
  refine Sx.top (n_min (by decide) (by omega)) ?_
  refine Sx.putfV dX2_keep_43 lkp_X2_15_2 (o_147 W) rfl rfl (fun I3 e3 o3 => ?_)
  refine Sx.vret dX2_keep_46 rfl ?_
  refine h I3 (C.rm hb h4 n1 n4 (by rw [e3, upd_nj _ _ (by decide), e2, upd_at]) (by rw [e3, upd_at]) (by rw [o3 _ (by omega), o2 _ (by omega), show 150 + 2 * nx = 149 + 2 * nx + 1 by omega, e1]; exact rs_c C.2.2.1) (fun q q1 q2 => by rw [o3 q q1, o2 q q1, o1 q (by omega)])) (fun q q1 q2 => by rw [o3 q q1, o2 q q1, o1 q (by omega)])
set_option maxRecDepth 20000 in
set_option maxHeartbeats 1000000 in
theorem d_acted {G : Gt} {l : Launch} {Z : Zt} {R : Rt} {I : It} {L : Lt} {post : Pt'} {V : Vt} {N : Nat} {a x y : Int32} (W : WF Z R) (C : CI V R I L) (hG : GG N V) (hN : N < 2147483647) (h : ∀ I' R' L', CI (actV V a x y) R' I' L' → CF R I L R' I' L' → post (some (.int (b2i (decide (whN (V 2) (V 3) a x y = -1))))) Z R' I' L') : Cx G l mX11_acted 8 0 0 [.ref 100, .int a, .int x, .int y] Z R I L post := by
  refine Cx.of (by decide +kernel) (by exact Nat.le_of_ble_eq_true rfl) ?_
  have hB := hG.1.bnd
  have hp6 := hG.1.p
  have hb := hG.1.b
  have h00 := hG.1.1.1
  refine Sx.aload_n dX11_acted_0 rfl ?_
  refine Sx.getfR dX11_acted_1 lkf_X11_59_11 (o_100 W) (r_100_7 W) ?_
  refine Sx.aload_n dX11_acted_4 rfl ?_
  refine Sx.getfR dX11_acted_5 lkf_X11_89_11 (o_100 W) (r_100_11 W) ?_
  refine Sx.iload_n dX11_acted_8 rfl ?_
  refine Sx.iload_n dX11_acted_9 rfl ?_
  refine Sx.iload_n dX11_acted_10 rfl ?_
  refine Sx.callV4 dX11_acted_11 lkv_X11_206 (rcv_1 (o_114 W)) (by decide) (by decide) (Nat.le_of_ble_eq_true rfl) rfl rfl (c_why W C.2.1 (w_229r W) C.2.2.1 (by decide) (by omega) (fun z => ⟨(hG.1.hv z).2.2.2.1, (hG.1.hv z).2.2.2.2.1⟩) ?_)
  refine Sx.istore (lv' := [(4, .int (whN (V 2) (V 3) a x y)), (0, .ref 100), (1, .int a), (2, .int x), (3, .int y)]) dX11_acted_14 (by decide) rfl ?_
  refine Sx.iload dX11_acted_16 rfl ?_
  refine Sx.iconst (v := (iI (-1))) dX11_acted_18 (by decide) ?_
  refine Sx.icmp_eqV (t := 44) dX11_acted_19 (by decide) (vX (whN (V 2) (V 3) a x y)) (vZ (by decide)) (fun c19 => ?_) (fun c19 => ?_)
  · have hk := x_m1 c19
    have hH := hG.1.hv (fun z => by rw [show whN (V 2) (V 3) a x y = 0 from if_pos z] at hk; exact absurd hk (by decide))
    have hO := Ok_of hH.2.2.2.1 hH.2.2.2.2.1 hk
    refine Sx.aload_n dX11_acted_44 rfl ?_
    refine Sx.getfR dX11_acted_45 lkf_X11_82_11 (o_100 W) (r_100_10 W) ?_
    refine Sx.aload_n dX11_acted_48 rfl ?_
    refine Sx.getfR dX11_acted_49 lkf_X11_89_11 (o_100 W) (r_100_11 W) ?_
    refine Sx.callV1 dX11_acted_52 lkv_X11_215 (rcv_2 (o_147 W)) (by decide) (by decide) (Nat.le_of_ble_eq_true rfl) rfl rfl (d_keep W C hb hG.1.b4 (fun I1 C1 o1 => ?_))
    have c3_1 : rs (I1 230) (V 3) := by have z := C1.2.2.1; rwa [rm_o V (by decide) (by decide)] at z
    have c2_1 : rep 36 (I1 104) (V 2) := by have z := C1.2.1; rwa [rm_o V (by decide) (by decide)] at z
    have cl_1 : LW R I1 (wlV V) := by have z := C1.lw (by rw [rm_0 V (by decide), rm_0 V (by decide)]; exact ⟨hb.1, hH.1.2.1⟩); rwa [wl_rm hH] at z
    refine Sx.aload_n dX11_acted_55 rfl ?_
    refine Sx.getfR dX11_acted_56 lkf_X11_59_11 (o_100 W) (r_100_7 W) ?_
    refine Sx.aload_n dX11_acted_59 rfl ?_
    refine Sx.getfR dX11_acted_60 lkf_X11_89_11 (o_100 W) (r_100_11 W) ?_
    refine Sx.iload_n dX11_acted_63 rfl ?_
    refine Sx.iload_n dX11_acted_64 rfl ?_
    refine Sx.iload_n dX11_acted_65 rfl ?_
    refine Sx.callV4 dX11_acted_66 lkv_X11_219 (rcv_1 (o_114 W)) (by decide) (by decide) (Nat.le_of_ble_eq_true rfl) rfl rfl (c_carry W c2_1 hH.2.2.2.1 (w_229r W) c3_1 (by decide) cl_1 hH.2.2.2.2.1 (by have := hH.2.2.2.2.2.1; omega) hO (fun I2 r2 o2 => ?_))
    refine Sx.iconst (v := (nI 1)) dX11_acted_69 (by decide) ?_
    refine Sx.top (show _ = b2i true from rfl) ?_
    refine Sx.iret dX11_acted_70 rfl (b2i_n _) ?_
    exact pBB (decide_eq_true hk) (h I2 R L (by unfold actV; rw [if_pos hk]; exact C1.v3 (rmb hb) r2 (fun q q1 q2 => o2 q (by unfold csc at q2; omega) (by unfold csc at q2; omega) q1)) (CF.i fun q hq => by rw [o2 q (by omega) (by omega) (by omega), o1 q (by omega) (by omega)]))
  · have hnk := x_n1 c19
    obtain ⟨k, hk5, hk⟩ := (whN_k (V 2) (V 3) a x y).resolve_left hnk
    refine Sx.sub' [(4, .int (nI k)), (0, .ref 100)] (by rw [← hk]; rfl) ?_
    have hst := hG.1.st hk5
    refine Sx.aload_n dX11_acted_22 rfl ?_
    refine Sx.getfR dX11_acted_23 lkf_X11_50_11 (o_100 W) (r_100_6 W) ?_
    refine Sx.iload dX11_acted_26 rfl ?_
    refine Sx.aload_n dX11_acted_28 rfl ?_
    refine Sx.getfR dX11_acted_29 lkf_X11_50_11 (o_100 W) (r_100_6 W) ?_
    refine Sx.iload dX11_acted_32 rfl ?_
    refine Sx.callV1 dX11_acted_34 lkv_X11_210 (rcv_7 (o_112 W)) (by decide) (by decide) (Nat.le_of_ble_eq_true rfl) rfl rfl (c_rg (w_112r W) (by unfold rowC; decide) (by decide) (repR C) k rfl (by omega) ?_)
    refine Sx.iconst (v := (nI 1)) dX11_acted_37 (by decide) ?_
    refine Sx.iaddN dX11_acted_38 ?_
    refine Sx.callV2 dX11_acted_39 lkv_X11_211 (rcv_7 (o_112 W)) (by decide) (by decide) (Nat.le_of_ble_eq_true rfl) rfl rfl (c_rs (w_112r W) (by unfold rowC; decide) (by decide) (repR C) k (V 4 k + 1) rfl (by omega) rfl (fun I3 r3 o3 => ?_))
    refine Sx.iconst (v := (nI 0)) dX11_acted_42 (by decide) ?_
    refine Sx.top (show _ = b2i false from rfl) ?_
    refine Sx.iret dX11_acted_43 rfl (b2i_n _) ?_
    have hc : CI (vs V 4 k (V 4 k + 1)) R I3 L := by
      obtain ⟨a1, a2, a3, a4, a5, a6, a7, a8, a9, ⟨nx, b1, b2, b3, b4⟩, a11⟩ := C
      have e : ∀ q, q ≠ 113 → I3 q = I q := o3
      have r : ∀ p, p ≠ 4 → vs V 4 k (V 4 k + 1) p = V p := fun p hp => vs_o V hp
      refine ⟨?_, ?_, ?_, ?_, fun i hi => ?_, ?_, fun i hi => ?_, fun j hj => ?_, ?_, ⟨nx, b1, ?_, ?_, fun i hi => ?_⟩, ?_⟩
      · rw [e 101 (by decide), e 102 (by decide), r 0 (by decide), r 1 (by decide)]; exact a1
      · rw [e 104 (by decide), r 2 (by decide)]; exact a2
      · rw [e 230 (by decide), r 3 (by decide)]; exact a3
      · rw [e 100 (by decide), r 0 (by decide)]; exact a4
      · rw [r 0 (by decide)] at hi; unfold LI; rw [e (233 + 2 * i) (by omega), e (233 + 2 * i + 1) (by omega), r (10 + i) (by omega)]; exact a5 i hi
      · rw [r 0 (by decide)]; exact a6
      · rw [r 0 (by decide)] at hi; rw [e (243 + 2 * i) (by omega), e (243 + 2 * i + 1) (by omega), r (20 + i) (by omega)]; exact a7 i hi
      · rw [r3 j hj]
        by_cases q : j = k
        · rw [q, upn_eq, vs_a]
        · rw [upn_ne _ _ q, vs_c V q]
      · rw [e 232 (by decide), r 0 (by decide), r 5 (by decide)]; exact a9
      · rw [e 147 (by decide)]; exact b2
      · rw [e 147 (by decide), r 0 (by decide)]; exact b3
      · rw [r 0 (by decide)] at hi; rw [e _ (by omega), r (30 + i) (by omega)]; exact b4 i hi
      · rw [e 136 (by decide), e 140 (by decide), e 142 (by decide), e 144 (by decide), r 0 (by decide), r 6 (by decide), r 7 (by decide), r 8 (by decide)]; exact a11
    exact pBB (decide_eq_false hnk) (h I3 R L (by unfold actV; rw [if_neg hnk, hk, xN_n (by omega)]; exact hc) (CF.i fun q hq => o3 q (by omega)))
