/-! the class: acts, years -/
theorem pd_lt {P F : Nat → Nat} {w : Wt} (hP : PB P) (hS : SB P F) : pdN P w F (18 + F 145) = litN P w F (F 145) (F 139) (upc P F) := by
  have hd := hS.2.2.2.2.2.2.2.2.2.2.2.2.2.1
  have p2 := hP.2.1
  have p8 := hP.2.2.2.2.2.2.2.1
  have p6 := hP.2.2.2.2.2.1
  have e : nextN (seenN P w F) (F 145 + 1) (18 + F 145) = litN P w F (F 145) (F 139) (upc P F) := by
    unfold nextN upn
    rw [if_neg (by omega), if_neg (by omega), if_neg (by omega)]
    unfold seenN
    rw [brs_o _ _ _ _ _ (by omega) (by omega)]
    unfold upn
    rw [if_neg (by omega), if_pos rfl]
  unfold pdN
  split
  · unfold eyN upn
    rw [if_neg (by omega)]
    unfold trnN
    rw [if_neg (by omega), if_neg (by omega), if_neg (by omega), if_neg (by omega), if_neg (by omega), e]
  · exact e
theorem hb_y {x p : Nat} (h : hbN x p = true) : x / 2 ^ p % 2 = 1 := by unfold hbN at h; simpa using h
theorem hb_n {x p : Nat} (h : hbN x p = false) : x / 2 ^ p % 2 = 0 := by
  unfold hbN at h
  have h1 : ¬ x / 2 ^ p % 2 = 1 := by simpa using h
  omega
theorem CI.ok {V : Vt} {R : Rt} {I : It} {L : Lt} {a x y : Int32} (h : CI (actV V a x y) R I L) (hk : whN (V 2) (V 3) a x y = -1) : rs (I 230) (coN (V 2) (wlV V) (V 3) a x y) := by
  unfold actV at h
  rw [if_pos hk] at h
  have z := h.2.2.1
  rwa [vr_a] at z
theorem actR_y {V : Vt} {a x y v : Int32} (hk : whN (V 2) (V 3) a x y = -1) : actR V a x y v = v := if_pos hk
theorem actR_n {V : Vt} {a x y v : Int32} (hk : ¬ whN (V 2) (V 3) a x y = -1) : actR V a x y v = -1 := if_neg hk
abbrev CAK (post : Pt') (Z : Zt) (R : Rt) (I : It) (L : Lt) (V : Vt) (a x y v : Int32) : Prop := ∀ I' R' L', CI (actV V a x y) R' I' L' → CF R I L R' I' L' → post (some (.int (actR V a x y v))) Z R' I' L'
set_option maxRecDepth 20000 in
set_option maxHeartbeats 1000000 in
theorem d_pass {G : Gt} {l : Launch} {Z : Zt} {R : Rt} {I : It} {L : Lt} {post : Pt'} {V : Vt} {N : Nat} (W : WF Z R) (C : CI V R I L) (hG : GG N V) (hN : N < 2147483647) (h : CAK post Z R I L V 0 (iI (-1)) (iI (-1)) (nI (litN (V 2) (wlV V) (V 3) (V 3 145) (V 3 139) (upc (V 2) (V 3))))) : Cx G l mX11_pass 9 0 0 [.ref 100] Z R I L post := by
  refine Cx.of (by decide +kernel) (by exact Nat.le_of_ble_eq_true rfl) ?_
  have hB := hG.1.bnd
  have hp6 := hG.1.p
  have hb := hG.1.b
  have h00 := hG.1.1.1
  refine Sx.aload_n dX11_pass_0 rfl ?_
  refine Sx.getfR dX11_pass_1 lkf_X11_89_11 (o_100 W) (r_100_11 W) ?_
  refine Sx.sipush (v := (nI 145)) dX11_pass_4 (by decide) ?_
  refine Sx.callU1 dX11_pass_7 lku_X11_184 (rcv_8 (o_229 W)) (by decide) (by decide) (Nat.le_of_ble_eq_true rfl) rfl rfl (c_sg (w_229r W) C.2.2.1 (145) rfl (by omega) (by omega) ?_)
  refine Sx.istore_n (lv' := [(1, .int (nI (V 3 145))), (0, .ref 100)]) dX11_pass_10 (by decide) rfl ?_
  refine Sx.aload_n dX11_pass_11 rfl ?_
  refine Sx.iconst (v := (nI 0)) dX11_pass_12 (by decide) ?_
  refine Sx.iconst (v := (iI (-1))) dX11_pass_13 (by decide) ?_
  refine Sx.iconst (v := (iI (-1))) dX11_pass_14 (by decide) ?_
  refine Sx.callV3 dX11_pass_15 lkv_X11_202 (rcv_11 (o_100 W)) (by decide) (by decide) (Nat.le_of_ble_eq_true rfl) rfl rfl (d_acted W C hG hN (a := 0) (x := (iI (-1))) (y := (iI (-1))) (fun I1 R1 L1 C1 f1 => ?_))
  have W := W.cf f1.2.2
  refine Sx.if_eqD (t := 35) dX11_pass_18 (by decide) (fun c18 => ?_) (fun c18 => ?_)
  · refine Sx.iconst (v := (iI (-1))) dX11_pass_35 (by decide) ?_
    refine Sx.iret dX11_pass_36 rfl rfl ?_
    exact pXX (by rw [actR_n (by assumption)]; rfl) (h I1 R1 L1 C1 f1)
  · have hk : whN (V 2) (V 3) 0 (iI (-1)) (iI (-1)) = -1 := c18
    have hH := hG.1.hv (fun z => by rw [show whN (V 2) (V 3) 0 (iI (-1)) (iI (-1)) = 0 from if_pos z] at hk; exact absurd hk (by decide))
    have hO := Ok_of hH.2.2.2.1 hH.2.2.2.2.1 hk
    obtain ⟨⟨s1, s2, s3, s4, s5, s6, s7, s8, s9, s10, s11, s12, s13, s14, s15, s16⟩, s17, -, -⟩ := id hH.2.2.2.2
    obtain ⟨p1, p2, p3, p4, p5, p6, p7, p8, p9⟩ := id hH.2.2.2.1
    refine Sx.aload_n dX11_pass_21 rfl ?_
    refine Sx.getfR dX11_pass_22 lkf_X11_89_11 (o_100 W) (r_100_11 W) ?_
    refine Sx.bipush (v := (nI 18)) dX11_pass_25 (by decide) ?_
    refine Sx.iload_n dX11_pass_27 rfl ?_
    refine Sx.iaddN dX11_pass_28 ?_
    refine Sx.callU1 dX11_pass_29 lku_X11_184 (rcv_8 (o_229 W)) (by decide) (by decide) (Nat.le_of_ble_eq_true rfl) rfl rfl (c_sg (w_229r W) (C1.ok hk) (18 + (V 3 145)) rfl (by omega) (by omega) ?_)
    refine Sx.goto (t := 36) dX11_pass_32 (by decide) ?_
    refine Sx.iret dX11_pass_36 rfl rfl ?_
    exact pXX (by rw [actR_y hk]; rw [cq_0, pd_lt hH.2.2.2.1 hH.2.2.2.2.1]) (h I1 R1 L1 C1 f1)
set_option maxRecDepth 20000 in
set_option maxHeartbeats 1000000 in
theorem d_habit {G : Gt} {l : Launch} {Z : Zt} {R : Rt} {I : It} {L : Lt} {post : Pt'} {V : Vt} {N : Nat} {x y : Int32} (W : WF Z R) (C : CI V R I L) (hG : GG N V) (hN : N < 2147483647) (h : CAK post Z R I L V 1 x y (nI (V 3 (xN x)))) : Cx G l mX11_habit 9 0 0 [.ref 100, .int x, .int y] Z R I L post := by
  refine Cx.of (by decide +kernel) (by exact Nat.le_of_ble_eq_true rfl) ?_
  have hB := hG.1.bnd
  have hp6 := hG.1.p
  have hb := hG.1.b
  have h00 := hG.1.1.1
  refine Sx.aload_n dX11_habit_0 rfl ?_
  refine Sx.getfR dX11_habit_1 lkf_X11_19_11 (o_100 W) (r_100_1 W) ?_
  refine Sx.iload_n dX11_habit_4 rfl ?_
  refine Sx.callV1 dX11_habit_5 lkv_X11_189 (rcv_6 (o_103 W)) (by decide) (by decide) (Nat.le_of_ble_eq_true rfl) rfl rfl (d_isPerson W C.2.1 (by omega) ?_)
  refine Sx.if_eqD (t := 24) dX11_habit_8 (by decide) (fun c8 => ?_) (fun c8 => ?_)
  · refine Sx.iconst (v := (iI (-1))) dX11_habit_24 (by decide) ?_
    refine Sx.istore_n (lv' := [(3, .int (iI (-1))), (0, .ref 100), (1, .int x), (2, .int y)]) dX11_habit_25 (by decide) rfl ?_
    refine Sx.aload_n dX11_habit_26 rfl ?_
    refine Sx.iconst (v := (nI 1)) dX11_habit_27 (by decide) ?_
    refine Sx.iload_n dX11_habit_28 rfl ?_
    refine Sx.iload_n dX11_habit_29 rfl ?_
    refine Sx.callV3 dX11_habit_30 lkv_X11_202 (rcv_11 (o_100 W)) (by decide) (by decide) (Nat.le_of_ble_eq_true rfl) rfl rfl (d_acted W C hG hN (a := 1) (x := x) (y := y) (fun I1 R1 L1 C1 f1 => ?_))
    have W := W.cf f1.2.2
    refine Sx.if_eqD (t := 40) dX11_habit_33 (by decide) (fun c33 => ?_) (fun c33 => ?_)
    · refine Sx.iconst (v := (iI (-1))) dX11_habit_40 (by decide) ?_
      refine Sx.iret dX11_habit_41 rfl rfl ?_
      exact pXX (by rw [actR_n (by assumption)]; rfl) (h I1 R1 L1 C1 f1)
    · have hk : whN (V 2) (V 3) 1 x y = -1 := c33
      have hH := hG.1.hv (fun z => by rw [show whN (V 2) (V 3) 1 x y = 0 from if_pos z] at hk; exact absurd hk (by decide))
      have hO := Ok_of hH.2.2.2.1 hH.2.2.2.2.1 hk
      obtain ⟨⟨s1, s2, s3, s4, s5, s6, s7, s8, s9, s10, s11, s12, s13, s14, s15, s16⟩, s17, -, -⟩ := id hH.2.2.2.2
      obtain ⟨p1, p2, p3, p4, p5, p6, p7, p8, p9⟩ := id hH.2.2.2.1
      refine Sx.iload_n dX11_habit_36 rfl ?_
      refine Sx.goto (t := 41) dX11_habit_37 (by decide) ?_
      refine Sx.iret dX11_habit_41 rfl rfl ?_
      exact absurd (by obtain ⟨⟨p, q, e1, _, hp, _⟩, _⟩ := ok_1 hO; rw [e1, nI_toInt (by omega)]; omega) c8
  · refine Sx.aload_n dX11_habit_11 rfl ?_
    refine Sx.getfR dX11_habit_12 lkf_X11_89_11 (o_100 W) (r_100_11 W) ?_
    refine Sx.iconst (v := (nI 0)) dX11_habit_15 (by decide) ?_
    refine Sx.iload_n dX11_habit_16 rfl ?_
    refine Sx.iaddV dX11_habit_17 (vN (by decide)) (vX x) ?_
    have hxz : x.toInt = (xN x : Int) := (Int.toNat_of_nonneg (by omega)).symm
    refine Sx.top (show _ = nI (xN x) from (by rw [show ((0 : Nat) : Int) + x.toInt = x.toInt by omega, x_iI]; exact x_nn (by omega))) ?_
    refine Sx.callU1 dX11_habit_18 lku_X11_184 (rcv_8 (o_229 W)) (by decide) (by decide) (Nat.le_of_ble_eq_true rfl) rfl rfl (c_sg (w_229r W) C.2.2.1 (xN x) rfl (by omega) (by omega) ?_)
    refine Sx.goto (t := 25) dX11_habit_21 (by decide) ?_
    refine Sx.istore_n (lv' := [(3, .int (nI (V 3 (xN x)))), (0, .ref 100), (1, .int x), (2, .int y)]) dX11_habit_25 (by decide) rfl ?_
    refine Sx.aload_n dX11_habit_26 rfl ?_
    refine Sx.iconst (v := (nI 1)) dX11_habit_27 (by decide) ?_
    refine Sx.iload_n dX11_habit_28 rfl ?_
    refine Sx.iload_n dX11_habit_29 rfl ?_
    refine Sx.callV3 dX11_habit_30 lkv_X11_202 (rcv_11 (o_100 W)) (by decide) (by decide) (Nat.le_of_ble_eq_true rfl) rfl rfl (d_acted W C hG hN (a := 1) (x := x) (y := y) (fun I2 R2 L2 C2 f2 => ?_))
    have W := W.cf f2.2.2
    refine Sx.if_eqD (t := 40) dX11_habit_33 (by decide) (fun c33 => ?_) (fun c33 => ?_)
    · refine Sx.iconst (v := (iI (-1))) dX11_habit_40 (by decide) ?_
      refine Sx.iret dX11_habit_41 rfl rfl ?_
      exact pXX (by rw [actR_n (by assumption)]; rfl) (h I2 R2 L2 C2 f2)
    · have hk : whN (V 2) (V 3) 1 x y = -1 := c33
      have hH := hG.1.hv (fun z => by rw [show whN (V 2) (V 3) 1 x y = 0 from if_pos z] at hk; exact absurd hk (by decide))
      have hO := Ok_of hH.2.2.2.1 hH.2.2.2.2.1 hk
      obtain ⟨⟨s1, s2, s3, s4, s5, s6, s7, s8, s9, s10, s11, s12, s13, s14, s15, s16⟩, s17, -, -⟩ := id hH.2.2.2.2
      obtain ⟨p1, p2, p3, p4, p5, p6, p7, p8, p9⟩ := id hH.2.2.2.1
      refine Sx.iload_n dX11_habit_36 rfl ?_
      refine Sx.goto (t := 41) dX11_habit_37 (by decide) ?_
      refine Sx.iret dX11_habit_41 rfl rfl ?_
      exact pXX (by rw [actR_y hk]; all_goals rfl) (h I2 R2 L2 C2 f2)
set_option maxRecDepth 20000 in
set_option maxHeartbeats 1000000 in
theorem d_bed {G : Gt} {l : Launch} {Z : Zt} {R : Rt} {I : It} {L : Lt} {post : Pt'} {V : Vt} {N : Nat} {x : Int32} (W : WF Z R) (C : CI V R I L) (hG : GG N V) (hN : N < 2147483647) (h : CAK post Z R I L V 2 x (iI (-1)) (nI ((V 3 138 ^^^ 2 ^ xN x) / 2 ^ xN x % 2))) : Cx G l mX11_bed 9 0 0 [.ref 100, .int x] Z R I L post := by
  refine Cx.of (by decide +kernel) (by exact Nat.le_of_ble_eq_true rfl) ?_
  have hB := hG.1.bnd
  have hp6 := hG.1.p
  have hb := hG.1.b
  have h00 := hG.1.1.1
  refine Sx.aload_n dX11_bed_0 rfl ?_
  refine Sx.iconst (v := (nI 2)) dX11_bed_1 (by decide) ?_
  refine Sx.iload_n dX11_bed_2 rfl ?_
  refine Sx.iconst (v := (iI (-1))) dX11_bed_3 (by decide) ?_
  refine Sx.callV3 dX11_bed_4 lkv_X11_202 (rcv_11 (o_100 W)) (by decide) (by decide) (Nat.le_of_ble_eq_true rfl) rfl rfl (d_acted W C hG hN (a := 2) (x := x) (y := (iI (-1))) (fun I1 R1 L1 C1 f1 => ?_))
  have W := W.cf f1.2.2
  refine Sx.if_neD (t := 12) dX11_bed_7 (by decide) (fun c7 => ?_) (fun c7 => ?_)
  · have hk : whN (V 2) (V 3) 2 x (iI (-1)) = -1 := c7
    have hH := hG.1.hv (fun z => by rw [show whN (V 2) (V 3) 2 x (iI (-1)) = 0 from if_pos z] at hk; exact absurd hk (by decide))
    have hO := Ok_of hH.2.2.2.1 hH.2.2.2.2.1 hk
    obtain ⟨⟨s1, s2, s3, s4, s5, s6, s7, s8, s9, s10, s11, s12, s13, s14, s15, s16⟩, s17, -, -⟩ := id hH.2.2.2.2
    obtain ⟨p1, p2, p3, p4, p5, p6, p7, p8, p9⟩ := id hH.2.2.2.1
    obtain ⟨p, rfl, hp⟩ := ok_2 hO
    have hco := cq_2 (V 2) (wlV V) (V 3) (p := p) (iI (-1)) (by omega)
    have hb64 : coN (V 2) (wlV V) (V 3) 2 (nI p) (iI (-1)) 138 < 64 := by rw [hco, upn_eq]; exact Nat.xor_lt_two_pow (n := 6) s7 (Nat.pow_lt_pow_of_lt (a := 2) (by decide) (show p < 6 by omega))
    refine Sx.sub' [(0, .ref 100), (1, .int (nI p))] rfl ?_
    refine Sx.aload_n dX11_bed_12 rfl ?_
    refine Sx.getfR dX11_bed_13 lkf_X11_89_11 (o_100 W) (r_100_11 W) ?_
    refine Sx.iload_n dX11_bed_16 rfl ?_
    refine Sx.callV1 dX11_bed_17 lkv_X11_195 (rcv_8 (o_229 W)) (by decide) (by decide) (Nat.le_of_ble_eq_true rfl) rfl rfl (c_X8_isInBed (j := p) (w_229r W) (C1.ok hk) hb64 (by omega) ?_)
    refine Sx.if_eqB (t := 27) dX11_bed_20 (by decide) (fun c20 => ?_) (fun c20 => ?_)
    · refine Sx.iconst (v := (nI 0)) dX11_bed_27 (by decide) ?_
      refine Sx.iret dX11_bed_28 rfl rfl ?_
      exact pXX (by rw [actR_y hk]; rw [xN_n (by omega)]; rw [hco, upn_eq] at c20; first | rw [hb_y c20] | rw [hb_n c20]) (h I1 R1 L1 C1 f1)
    · refine Sx.iconst (v := (nI 1)) dX11_bed_23 (by decide) ?_
      refine Sx.goto (t := 28) dX11_bed_24 (by decide) ?_
      refine Sx.iret dX11_bed_28 rfl rfl ?_
      exact pXX (by rw [actR_y hk]; rw [xN_n (by omega)]; rw [hco, upn_eq] at c20; first | rw [hb_y c20] | rw [hb_n c20]) (h I1 R1 L1 C1 f1)
  · refine Sx.iconst (v := (iI (-1))) dX11_bed_10 (by decide) ?_
    refine Sx.iret dX11_bed_11 rfl rfl ?_
    exact pXX (by rw [actR_n (by assumption)]; rfl) (h I1 R1 L1 C1 f1)
set_option maxRecDepth 20000 in
set_option maxHeartbeats 1000000 in
theorem d_fog {G : Gt} {l : Launch} {Z : Zt} {R : Rt} {I : It} {L : Lt} {post : Pt'} {V : Vt} {N : Nat} {x : Int32} (W : WF Z R) (C : CI V R I L) (hG : GG N V) (hN : N < 2147483647) (h : CAK post Z R I L V 3 x (iI (-1)) (nI (V 3 139))) : Cx G l mX11_fog 9 0 0 [.ref 100, .int x] Z R I L post := by
  refine Cx.of (by decide +kernel) (by exact Nat.le_of_ble_eq_true rfl) ?_
  have hB := hG.1.bnd
  have hp6 := hG.1.p
  have hb := hG.1.b
  have h00 := hG.1.1.1
  refine Sx.aload_n dX11_fog_0 rfl ?_
  refine Sx.getfR dX11_fog_1 lkf_X11_89_11 (o_100 W) (r_100_11 W) ?_
  refine Sx.sipush (v := (nI 139)) dX11_fog_4 (by decide) ?_
  refine Sx.callU1 dX11_fog_7 lku_X11_184 (rcv_8 (o_229 W)) (by decide) (by decide) (Nat.le_of_ble_eq_true rfl) rfl rfl (c_sg (w_229r W) C.2.2.1 (139) rfl (by omega) (by omega) ?_)
  refine Sx.istore_n (lv' := [(2, .int (nI (V 3 139))), (0, .ref 100), (1, .int x)]) dX11_fog_10 (by decide) rfl ?_
  refine Sx.aload_n dX11_fog_11 rfl ?_
  refine Sx.iconst (v := (nI 3)) dX11_fog_12 (by decide) ?_
  refine Sx.iload_n dX11_fog_13 rfl ?_
  refine Sx.iconst (v := (iI (-1))) dX11_fog_14 (by decide) ?_
  refine Sx.callV3 dX11_fog_15 lkv_X11_202 (rcv_11 (o_100 W)) (by decide) (by decide) (Nat.le_of_ble_eq_true rfl) rfl rfl (d_acted W C hG hN (a := 3) (x := x) (y := (iI (-1))) (fun I1 R1 L1 C1 f1 => ?_))
  have W := W.cf f1.2.2
  refine Sx.if_eqD (t := 25) dX11_fog_18 (by decide) (fun c18 => ?_) (fun c18 => ?_)
  · refine Sx.iconst (v := (iI (-1))) dX11_fog_25 (by decide) ?_
    refine Sx.iret dX11_fog_26 rfl rfl ?_
    exact pXX (by rw [actR_n (by assumption)]; rfl) (h I1 R1 L1 C1 f1)
  · have hk : whN (V 2) (V 3) 3 x (iI (-1)) = -1 := c18
    have hH := hG.1.hv (fun z => by rw [show whN (V 2) (V 3) 3 x (iI (-1)) = 0 from if_pos z] at hk; exact absurd hk (by decide))
    have hO := Ok_of hH.2.2.2.1 hH.2.2.2.2.1 hk
    obtain ⟨⟨s1, s2, s3, s4, s5, s6, s7, s8, s9, s10, s11, s12, s13, s14, s15, s16⟩, s17, -, -⟩ := id hH.2.2.2.2
    obtain ⟨p1, p2, p3, p4, p5, p6, p7, p8, p9⟩ := id hH.2.2.2.1
    refine Sx.iload_n dX11_fog_21 rfl ?_
    refine Sx.goto (t := 26) dX11_fog_22 (by decide) ?_
    refine Sx.iret dX11_fog_26 rfl rfl ?_
    exact pXX (by rw [actR_y hk]; all_goals rfl) (h I1 R1 L1 C1 f1)
set_option maxRecDepth 20000 in
set_option maxHeartbeats 1000000 in
theorem d_eclipse {G : Gt} {l : Launch} {Z : Zt} {R : Rt} {I : It} {L : Lt} {post : Pt'} {V : Vt} {N : Nat} (W : WF Z R) (C : CI V R I L) (hG : GG N V) (hN : N < 2147483647) (h : CAK post Z R I L V 4 (iI (-1)) (iI (-1)) (nI (V 3 142 - 10))) : Cx G l mX11_eclipse 9 0 0 [.ref 100] Z R I L post := by
  refine Cx.of (by decide +kernel) (by exact Nat.le_of_ble_eq_true rfl) ?_
  have hB := hG.1.bnd
  have hp6 := hG.1.p
  have hb := hG.1.b
  have h00 := hG.1.1.1
  refine Sx.aload_n dX11_eclipse_0 rfl ?_
  refine Sx.iconst (v := (nI 4)) dX11_eclipse_1 (by decide) ?_
  refine Sx.iconst (v := (iI (-1))) dX11_eclipse_2 (by decide) ?_
  refine Sx.iconst (v := (iI (-1))) dX11_eclipse_3 (by decide) ?_
  refine Sx.callV3 dX11_eclipse_4 lkv_X11_202 (rcv_11 (o_100 W)) (by decide) (by decide) (Nat.le_of_ble_eq_true rfl) rfl rfl (d_acted W C hG hN (a := 4) (x := (iI (-1))) (y := (iI (-1))) (fun I1 R1 L1 C1 f1 => ?_))
  have W := W.cf f1.2.2
  refine Sx.if_eqD (t := 23) dX11_eclipse_7 (by decide) (fun c7 => ?_) (fun c7 => ?_)
  · refine Sx.iconst (v := (iI (-1))) dX11_eclipse_23 (by decide) ?_
    refine Sx.iret dX11_eclipse_24 rfl rfl ?_
    exact pXX (by rw [actR_n (by assumption)]; rfl) (h I1 R1 L1 C1 f1)
  · have hk : whN (V 2) (V 3) 4 (iI (-1)) (iI (-1)) = -1 := c7
    have hH := hG.1.hv (fun z => by rw [show whN (V 2) (V 3) 4 (iI (-1)) (iI (-1)) = 0 from if_pos z] at hk; exact absurd hk (by decide))
    have hO := Ok_of hH.2.2.2.1 hH.2.2.2.2.1 hk
    obtain ⟨⟨s1, s2, s3, s4, s5, s6, s7, s8, s9, s10, s11, s12, s13, s14, s15, s16⟩, s17, -, -⟩ := id hH.2.2.2.2
    obtain ⟨p1, p2, p3, p4, p5, p6, p7, p8, p9⟩ := id hH.2.2.2.1
    refine Sx.aload_n dX11_eclipse_10 rfl ?_
    refine Sx.getfR dX11_eclipse_11 lkf_X11_89_11 (o_100 W) (r_100_11 W) ?_
    refine Sx.sipush (v := (nI 142)) dX11_eclipse_14 (by decide) ?_
    refine Sx.callU1 dX11_eclipse_17 lku_X11_184 (rcv_8 (o_229 W)) (by decide) (by decide) (Nat.le_of_ble_eq_true rfl) rfl rfl (c_sg (w_229r W) (C1.ok hk) (142) rfl (by omega) (by omega) ?_)
    refine Sx.goto (t := 24) dX11_eclipse_20 (by decide) ?_
    refine Sx.iret dX11_eclipse_24 rfl rfl ?_
    exact pXX (by rw [actR_y hk]; rw [cq_4, upn_eq]) (h I1 R1 L1 C1 f1)
set_option maxRecDepth 20000 in
set_option maxHeartbeats 1000000 in
theorem d_candles {G : Gt} {l : Launch} {Z : Zt} {R : Rt} {I : It} {L : Lt} {post : Pt'} {V : Vt} {N : Nat} {x : Int32} (W : WF Z R) (C : CI V R I L) (hG : GG N V) (hN : N < 2147483647) (h : CAK post Z R I L V 5 x (iI (-1)) (nI (V 3 141 + xN x))) : Cx G l mX11_candles 9 0 0 [.ref 100, .int x] Z R I L post := by
  refine Cx.of (by decide +kernel) (by exact Nat.le_of_ble_eq_true rfl) ?_
  have hB := hG.1.bnd
  have hp6 := hG.1.p
  have hb := hG.1.b
  have h00 := hG.1.1.1
  refine Sx.aload_n dX11_candles_0 rfl ?_
  refine Sx.iconst (v := (nI 5)) dX11_candles_1 (by decide) ?_
  refine Sx.iload_n dX11_candles_2 rfl ?_
  refine Sx.iconst (v := (iI (-1))) dX11_candles_3 (by decide) ?_
  refine Sx.callV3 dX11_candles_4 lkv_X11_202 (rcv_11 (o_100 W)) (by decide) (by decide) (Nat.le_of_ble_eq_true rfl) rfl rfl (d_acted W C hG hN (a := 5) (x := x) (y := (iI (-1))) (fun I1 R1 L1 C1 f1 => ?_))
  have W := W.cf f1.2.2
  refine Sx.if_eqD (t := 23) dX11_candles_7 (by decide) (fun c7 => ?_) (fun c7 => ?_)
  · refine Sx.iconst (v := (iI (-1))) dX11_candles_23 (by decide) ?_
    refine Sx.iret dX11_candles_24 rfl rfl ?_
    exact pXX (by rw [actR_n (by assumption)]; rfl) (h I1 R1 L1 C1 f1)
  · have hk : whN (V 2) (V 3) 5 x (iI (-1)) = -1 := c7
    have hH := hG.1.hv (fun z => by rw [show whN (V 2) (V 3) 5 x (iI (-1)) = 0 from if_pos z] at hk; exact absurd hk (by decide))
    have hO := Ok_of hH.2.2.2.1 hH.2.2.2.2.1 hk
    obtain ⟨⟨s1, s2, s3, s4, s5, s6, s7, s8, s9, s10, s11, s12, s13, s14, s15, s16⟩, s17, -, -⟩ := id hH.2.2.2.2
    obtain ⟨p1, p2, p3, p4, p5, p6, p7, p8, p9⟩ := id hH.2.2.2.1
    obtain ⟨p, rfl, hp, hp9, hp2, hp20⟩ := ok_5 hO
    refine Sx.sub' [(0, .ref 100), (1, .int (nI p))] rfl ?_
    refine Sx.aload_n dX11_candles_10 rfl ?_
    refine Sx.getfR dX11_candles_11 lkf_X11_89_11 (o_100 W) (r_100_11 W) ?_
    refine Sx.sipush (v := (nI 141)) dX11_candles_14 (by decide) ?_
    refine Sx.callU1 dX11_candles_17 lku_X11_184 (rcv_8 (o_229 W)) (by decide) (by decide) (Nat.le_of_ble_eq_true rfl) rfl rfl (c_sg (w_229r W) (C1.ok hk) (141) rfl (by omega) (by omega) ?_)
    refine Sx.goto (t := 24) dX11_candles_20 (by decide) ?_
    refine Sx.iret dX11_candles_24 rfl rfl ?_
    exact pXX (by rw [actR_y hk]; rw [xN_n (by omega), cq_5 _ _ _ _ (by omega), upn_ne _ _ (by decide), upn_eq]) (h I1 R1 L1 C1 f1)
set_option maxRecDepth 20000 in
set_option maxHeartbeats 1000000 in
theorem d_give {G : Gt} {l : Launch} {Z : Zt} {R : Rt} {I : It} {L : Lt} {post : Pt'} {V : Vt} {N : Nat} {x : Int32} (W : WF Z R) (C : CI V R I L) (hG : GG N V) (hN : N < 2147483647) (h : CAK post Z R I L V 6 x (iI (-1)) (nI (V 3 142 + xN x))) : Cx G l mX11_give 9 0 0 [.ref 100, .int x] Z R I L post := by
  refine Cx.of (by decide +kernel) (by exact Nat.le_of_ble_eq_true rfl) ?_
  have hB := hG.1.bnd
  have hp6 := hG.1.p
  have hb := hG.1.b
  have h00 := hG.1.1.1
  refine Sx.aload_n dX11_give_0 rfl ?_
  refine Sx.bipush (v := (nI 6)) dX11_give_1 (by decide) ?_
  refine Sx.iload_n dX11_give_3 rfl ?_
  refine Sx.iconst (v := (iI (-1))) dX11_give_4 (by decide) ?_
  refine Sx.callV3 dX11_give_5 lkv_X11_202 (rcv_11 (o_100 W)) (by decide) (by decide) (Nat.le_of_ble_eq_true rfl) rfl rfl (d_acted W C hG hN (a := 6) (x := x) (y := (iI (-1))) (fun I1 R1 L1 C1 f1 => ?_))
  have W := W.cf f1.2.2
  refine Sx.if_eqD (t := 24) dX11_give_8 (by decide) (fun c8 => ?_) (fun c8 => ?_)
  · refine Sx.iconst (v := (iI (-1))) dX11_give_24 (by decide) ?_
    refine Sx.iret dX11_give_25 rfl rfl ?_
    exact pXX (by rw [actR_n (by assumption)]; rfl) (h I1 R1 L1 C1 f1)
  · have hk : whN (V 2) (V 3) 6 x (iI (-1)) = -1 := c8
    have hH := hG.1.hv (fun z => by rw [show whN (V 2) (V 3) 6 x (iI (-1)) = 0 from if_pos z] at hk; exact absurd hk (by decide))
    have hO := Ok_of hH.2.2.2.1 hH.2.2.2.2.1 hk
    obtain ⟨⟨s1, s2, s3, s4, s5, s6, s7, s8, s9, s10, s11, s12, s13, s14, s15, s16⟩, s17, -, -⟩ := id hH.2.2.2.2
    obtain ⟨p1, p2, p3, p4, p5, p6, p7, p8, p9⟩ := id hH.2.2.2.1
    obtain ⟨p, rfl, hp, hp9, hp2⟩ := ok_6 hO
    refine Sx.sub' [(0, .ref 100), (1, .int (nI p))] rfl ?_
    refine Sx.aload_n dX11_give_11 rfl ?_
    refine Sx.getfR dX11_give_12 lkf_X11_89_11 (o_100 W) (r_100_11 W) ?_
    refine Sx.sipush (v := (nI 142)) dX11_give_15 (by decide) ?_
    refine Sx.callU1 dX11_give_18 lku_X11_184 (rcv_8 (o_229 W)) (by decide) (by decide) (Nat.le_of_ble_eq_true rfl) rfl rfl (c_sg (w_229r W) (C1.ok hk) (142) rfl (by omega) (by omega) ?_)
    refine Sx.goto (t := 25) dX11_give_21 (by decide) ?_
    refine Sx.iret dX11_give_25 rfl rfl ?_
    exact pXX (by rw [actR_y hk]; rw [xN_n (by omega), cq_6 _ _ _ _ (by omega), upn_eq]) (h I1 R1 L1 C1 f1)
