/-! the class: years, undo, pictures, laws that hold, whims, what is seen -/
set_option maxRecDepth 20000 in
set_option maxHeartbeats 1000000 in
theorem l_cyr {G : Gt} {l : Launch} {Z : Zt} {post : Pt'} {VF : Vt} {R : Rt} {I0 : It} {L0 : Lt} {n : Nat} (W : WF Z R) (hn : n ≤ 60) (h : ∀ I' R' L', CI VF R' I' L' → CF R I0 L0 R' I' L' → post (some (.int (nI (VF 3 145)))) Z R' I' L') :
    ∀ (k m : Nat), m < k → ∀ (V : Vt) (c : Int64) (i : Nat) (I : It) (L : Lt), CI V R I L → HV V → V 2 0 * V 3 144 + V 3 145 + m < V 2 0 * 1000 → i + m = n → V 0 6 ≤ 9 → L 114 4 = c → CF R I0 L0 R I L → yrV m V c = VF → Sx G l mX11_years 8 0 0 46 [(4, .int (nI i)), (0, .ref 100), (1, .int (nI n))] [] Z R I L post := by
  intro k
  induction k with
  | zero => intro m h1; omega
  | succ k ih =>
    intro m h1 V c i I L C hH hd him h6 hc hf hV
    refine Sx.iload dX11_years_46 rfl ?_
    refine Sx.iload_n dX11_years_48 rfl ?_
    refine Sx.icmp_geV (t := 95) dX11_years_49 (by decide) (vN (by omega)) (vN (by omega)) (fun c49 => ?_) (fun c49 => ?_)
    · refine Sx.aload_n dX11_years_95 rfl ?_
      refine Sx.getfR dX11_years_96 lkf_X11_89_11 (o_100 W) (r_100_11 W) ?_
      refine Sx.sipush (v := (nI 145)) dX11_years_99 (by decide) ?_
      refine Sx.callU1 dX11_years_102 lku_X11_184 (rcv_8 (o_229 W)) (by decide) (by decide) (Nat.le_of_ble_eq_true rfl) rfl rfl (c_sg (w_229r W) C.2.2.1 145 rfl (by decide) (by decide) ?_)
      refine Sx.iret dX11_years_105 rfl rfl ?_
      have hm0 : m = 0 := by omega
      subst hm0
      rw [yrV_0] at hV
      subst hV
      exact h I R L C hf
    · have hm : 1 ≤ m := by omega
      refine Sx.aload_n dX11_years_52 rfl ?_
      refine Sx.getfR dX11_years_53 lkf_X11_82_11 (o_100 W) (r_100_10 W) ?_
      refine Sx.aload_n dX11_years_56 rfl ?_
      refine Sx.getfR dX11_years_57 lkf_X11_89_11 (o_100 W) (r_100_11 W) ?_
      refine Sx.callV1 dX11_years_60 lkv_X11_215 (rcv_2 (o_147 W)) (by decide) (by decide) (Nat.le_of_ble_eq_true rfl) rfl rfl (d_keep W C ⟨hH.1.1, hH.2.1⟩ hH.2.2.1 (fun I1 C1 o1 => ?_))
      have c3 : rs (I1 230) (V 3) := by have z := C1.2.2.1; rwa [rm_o V (by decide) (by decide)] at z
      have c2 : rep 36 (I1 104) (V 2) := by have z := C1.2.1; rwa [rm_o V (by decide) (by decide)] at z
      have cl : LW R I1 (wlV V) := by have z := C1.lw (by rw [rm_0 V (by decide), rm_0 V (by decide)]; exact ⟨hH.1.1, hH.1.2.1⟩); rwa [wl_rm hH] at z
      have c6 : I1 100 17 = nI (V 0 6) := by have z := C1.2.2.2.1.2.2.2.2; rwa [rm_0 V (by decide)] at z
      obtain ⟨y1, y2, y3⟩ := yr_st (c := c) hH hm hd
      refine Sx.aload_n dX11_years_63 rfl ?_
      refine Sx.getfR dX11_years_64 lkf_X11_59_11 (o_100 W) (r_100_7 W) ?_
      refine Sx.aload_n dX11_years_67 rfl ?_
      refine Sx.getfR dX11_years_68 lkf_X11_89_11 (o_100 W) (r_100_11 W) ?_
      refine Sx.aload_n dX11_years_71 rfl ?_
      refine Sx.getfV (v := (nI (V 0 6))) dX11_years_72 lkf_X11_110_11 (o_100 W) c6 ?_
      refine Sx.callV2 dX11_years_75 lkv_X11_235 (rcv_1 (o_114 W)) (by decide) (by decide) (Nat.le_of_ble_eq_true rfl) rfl rfl (c_drawDay W c2 hH.2.2.2.1 (w_229r W) c3 (by decide) (by omega) hc (fun I2 L2 r2 o2 lc2 lo2 => ?_))
      have cl2 : LW R I2 (wlV V) := cl.keep (fun q q1 q2 => o2 q (by omega))
      have hdd := ddF_SG hH.2.2.2.1 hH.2.2.2.2 c (V 0 6)
      have e44 := ddF_144 (V 2) (V 3) c (V 0 6) hH.2.2.2.1 (q := 144) (by decide) (by decide) (by decide)
      refine Sx.aload_n dX11_years_78 rfl ?_
      refine Sx.getfR dX11_years_79 lkf_X11_59_11 (o_100 W) (r_100_7 W) ?_
      refine Sx.aload_n dX11_years_82 rfl ?_
      refine Sx.getfR dX11_years_83 lkf_X11_89_11 (o_100 W) (r_100_11 W) ?_
      refine Sx.callV1 dX11_years_86 lkv_X11_239 (rcv_1 (o_114 W)) (by decide) (by decide) (Nat.le_of_ble_eq_true rfl) rfl rfl (c_pass W (by rw [o2 104 (by decide)]; exact c2) hH.2.2.2.1 (w_229r W) r2 (by decide) cl2 hdd.1 (by have := hdd.2.1; omega) (fun I3 r3 o3 => ?_))
      have hCy : CI (yr1 V c) R I3 L2 := by
        have q1 : CI (vr (rmV V) 3 (ddF (V 2) (V 3) c (V 0 6))) R I2 L2 := C1.v3 (rmb ⟨hH.1.1, hH.2.1⟩) r2 (fun q h1 _ => o2 q h1)
        have e : pdN (vr (rmV V) 3 (ddF (V 2) (V 3) c (V 0 6)) 2) (wlV (vr (rmV V) 3 (ddF (V 2) (V 3) c (V 0 6)))) (vr (rmV V) 3 (ddF (V 2) (V 3) c (V 0 6)) 3) = pdN (V 2) (wlV V) (ddF (V 2) (V 3) c (V 0 6)) := by rw [vr_rm2, vr_a, wl_v3, wl_rm hH]
        exact q1.v3 (by rw [vr_o _ _ (by decide)]; exact rmb ⟨hH.1.1, hH.2.1⟩) (by rw [e]; exact r3) (fun q h1 h2 => o3 q (by unfold csc at h2; omega) (by unfold csc at h2; omega) h1)
      have hfy : CF R I L R I3 L2 := ⟨fun q hq => by rw [o3 q (by omega) (by omega) (by omega), o2 q (by omega), o1 q (by omega) (by omega)], fun q hq => lo2 q hq, fun _ _ _ => rfl⟩
      refine Sx.iinc (v := (nI (i + 1))) (lv' := [(4, .int (nI (i + 1))), (0, .ref 100), (1, .int (nI n))]) dX11_years_89 rfl (nI_add i 1) (by decide) rfl ?_
      refine Sx.goto (t := 46) dX11_years_92 (by decide) ?_
      refine Sx.sub' [(4, .int (nI (i + 1))), (0, .ref 100), (1, .int (nI n))] rfl ?_
      exact ih (m - 1) (by omega) (yr1 V c) (ddC c (V 0 6)) (i + 1) I3 L2 hCy y2 (by rw [yr1_2]; exact y3) (by omega) (by rw [yr1_06]; exact h6) lc2 (hf.tr hfy) (by rw [← hV, show m = m - 1 + 1 by omega, yrV_s, Nat.add_sub_cancel])
theorem d_seed {G : Gt} {l : Launch} {Z : Zt} {R : Rt} {I : It} {L : Lt} {post : Pt'} {v : Int64} (W : WF Z R) (h : ∀ L', L' 114 4 = v → (∀ q, q ≠ 114 → L' q = L q) → post none Z R I L') : Cx G l mX1_setSeed 1 0 0 [.ref 114, .long v] Z R I L post := c_seed W (h _ (up2L_at _ _ _ _) (fun q hq => up2L_ne _ _ _ _ hq))
theorem dp_y {P F : Nat → Nat} {n : Int} (hy : F 144 ≤ 999) (h0 : 0 < P 0) : ¬ dpN P F < n ↔ ((P 0 * F 144 + F 145 : Nat) : Int) + n < ((P 0 * 1000 : Nat) : Int) := by
  unfold dpN
  have e : (999 - (F 144 : Int)) * (P 0 : Int) = 999 * (P 0 : Int) - ((P 0 * F 144 : Nat) : Int) := by rw [Int.sub_mul, Int.natCast_mul, Int.mul_comm (F 144 : Int) (P 0 : Int)]
  rw [e]
  omega
set_option maxRecDepth 20000 in
set_option maxHeartbeats 1000000 in
theorem d_years {G : Gt} {l : Launch} {Z : Zt} {R : Rt} {I : It} {L : Lt} {post : Pt'} {V : Vt} {N : Nat} {x : Int32} {c : Int64} (W : WF Z R) (C : CI V R I L) (hG : GG N V) (hN : N < 2147483647) (h : ∀ I' R' L', CI (yrsV V x c) R' I' L' → CF R I L R' I' L' → post (some (.int (yrsR V x c))) Z R' I' L') : Cx G l mX11_years 8 0 0 [.ref 100, .int x, .long c] Z R I L post := by
  refine Cx.of (by decide +kernel) (by exact Nat.le_of_ble_eq_true rfl) ?_
  have hB := hG.1.bnd
  have hp6 := hG.1.p
  have hb := hG.1.b
  have h00 := hG.1.1.1
  have hx := x_rg x
  refine Sx.aload_n dX11_years_0 rfl ?_
  refine Sx.callV0 dX11_years_1 lkv_X11_223 (rcv_11 (o_100 W)) (by decide) (by decide) (Nat.le_of_ble_eq_true rfl) rfl rfl (d_isPort W C (by omega) ?_)
  refine Sx.if_eqD (t := 33) dX11_years_4 (by decide) (fun c4 => ?_) (fun c4 => ?_)
  · refine Sx.iconst (v := (iI (-1))) dX11_years_33 (by decide) ?_
    refine Sx.iret dX11_years_34 rfl rfl ?_
    have hn : ¬ yrC V x := fun z => by first | (have := z.1; have := z.2.1; have := z.2.2.1; omega) | exact absurd (hyc.mpr z.2.2.2) (by omega)
    have h0 := h I R L (by unfold yrsV; rw [if_neg hn]; exact C) (CF.rf R I L)
    unfold yrsR at h0
    rw [if_neg hn] at h0
    exact h0
  · refine Sx.iload_n dX11_years_7 rfl ?_
    refine Sx.iconst (v := (nI 1)) dX11_years_8 (by decide) ?_
    refine Sx.icmp_ltV (t := 33) dX11_years_9 (by decide) (vX x) (vN (by decide)) (fun c9 => ?_) (fun c9 => ?_)
    · refine Sx.iconst (v := (iI (-1))) dX11_years_33 (by decide) ?_
      refine Sx.iret dX11_years_34 rfl rfl ?_
      have hn : ¬ yrC V x := fun z => by first | (have := z.1; have := z.2.1; have := z.2.2.1; omega) | exact absurd (hyc.mpr z.2.2.2) (by omega)
      have h0 := h I R L (by unfold yrsV; rw [if_neg hn]; exact C) (CF.rf R I L)
      unfold yrsR at h0
      rw [if_neg hn] at h0
      exact h0
    · refine Sx.iload_n dX11_years_12 rfl ?_
      refine Sx.bipush (v := (nI 60)) dX11_years_13 (by decide) ?_
      refine Sx.icmp_gtV (t := 33) dX11_years_15 (by decide) (vX x) (vN (by decide)) (fun c15 => ?_) (fun c15 => ?_)
      · refine Sx.iconst (v := (iI (-1))) dX11_years_33 (by decide) ?_
        refine Sx.iret dX11_years_34 rfl rfl ?_
        have hn : ¬ yrC V x := fun z => by first | (have := z.1; have := z.2.1; have := z.2.2.1; omega) | exact absurd (hyc.mpr z.2.2.2) (by omega)
        have h0 := h I R L (by unfold yrsV; rw [if_neg hn]; exact C) (CF.rf R I L)
        unfold yrsR at h0
        rw [if_neg hn] at h0
        exact h0
      · have hH := hG.1.hv (by omega)
        have hdb := dpN_b hH.2.2.2.1 hH.2.2.2.2.1
        have hyc := dp_y (P := V 2) (F := V 3) (n := x.toInt) hH.2.2.2.2.2.1 (by have := hH.2.2.2.1.1; omega)
        refine Sx.aload_n dX11_years_18 rfl ?_
        refine Sx.getfR dX11_years_19 lkf_X11_59_11 (o_100 W) (r_100_7 W) ?_
        refine Sx.aload_n dX11_years_22 rfl ?_
        refine Sx.getfR dX11_years_23 lkf_X11_89_11 (o_100 W) (r_100_11 W) ?_
        refine Sx.callV1 dX11_years_26 lkv_X11_227 (rcv_1 (o_114 W)) (by decide) (by decide) (Nat.le_of_ble_eq_true rfl) rfl rfl (c_dp W C.2.1 hH.2.2.2.1 (w_229r W) C.2.2.1 (by decide) hH.2.2.2.2.1 ?_)
        refine Sx.iload_n dX11_years_29 rfl ?_
        refine Sx.icmp_geV (t := 35) dX11_years_30 (by decide) (vZ (by omega)) (vX x) (fun c30 => ?_) (fun c30 => ?_)
        · refine Sx.aload_n dX11_years_35 rfl ?_
          refine Sx.getfR dX11_years_36 lkf_X11_59_11 (o_100 W) (r_100_7 W) ?_
          refine Sx.lload_n dX11_years_39 rfl ?_
          refine Sx.callV1 dX11_years_40 lkv_X11_231 (rcv_1 (o_114 W)) (by decide) (by decide) (Nat.le_of_ble_eq_true rfl) rfl rfl (d_seed W (fun L1 q1 q2 => ?_))
          have C := C.sc (L' := L1) hb (fun _ _ => rfl)
          refine Sx.iconst (v := (nI 0)) dX11_years_43 (by decide) ?_
          refine Sx.istore (lv' := [(4, .int (nI 0)), (0, .ref 100), (1, .int x), (2, .long c)]) dX11_years_44 (by decide) rfl ?_
          obtain ⟨n, hpx⟩ : ∃ p, p = xN x := ⟨_, rfl⟩
          have hxz : x.toInt = (n : Int) := by rw [hpx]; exact (Int.toNat_of_nonneg (by omega)).symm
          have hx0 : x = nI n := by rw [hpx]; exact x_nn (by omega)
          refine Sx.sub' [(4, .int (nI 0)), (0, .ref 100), (1, .int (nI n))] (by rw [hx0]; rfl) ?_
          have hC : yrC V x := ⟨by omega, by omega, by omega, hyc.mp (by omega)⟩
          refine l_cyr (I0 := I) (L0 := L) (VF := yrV n V c) (n := n) W (by omega) (fun I' R' L' m f => ?_) (n + 1) n (by omega) V c 0 I L1 C hH (by have := hyc.mp (by omega); omega) (by omega) (by have := hG.1.2.2.2.1.2.2.1; omega) q1 ⟨fun _ _ => rfl, fun q hq => q2 q hq, fun _ _ _ => rfl⟩ rfl
          have h0 := h I' R' L' (by unfold yrsV; rw [if_pos hC, ← hpx]; exact m) f
          unfold yrsR at h0
          rw [if_pos hC, ← hpx] at h0
          exact h0
        · refine Sx.iconst (v := (iI (-1))) dX11_years_33 (by decide) ?_
          refine Sx.iret dX11_years_34 rfl rfl ?_
          have hn : ¬ yrC V x := fun z => by first | (have := z.1; have := z.2.1; have := z.2.2.1; omega) | exact absurd (hyc.mpr z.2.2.2) (by omega)
          have h0 := h I R L (by unfold yrsV; rw [if_neg hn]; exact C) (CF.rf R I L)
          unfold yrsR at h0
          rw [if_neg hn] at h0
          exact h0
