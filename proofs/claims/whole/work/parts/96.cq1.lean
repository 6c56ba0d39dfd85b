/-! the class: small questions -/
set_option maxRecDepth 20000 in
set_option maxHeartbeats 1000000 in
theorem d_kind {G : Gt} {l : Launch} {Z : Zt} {R : Rt} {I : It} {L : Lt} {post : Pt'} {V : Vt} {N : Nat} {x y : Int32} (W : WF Z R) (C : CI V R I L) (hG : GG N V) (hN : N < 2147483647) (h : CQ post Z R I L V (kindR V x y)) : Cx G l mX11_kind 3 0 0 [.ref 100, .int x, .int y] Z R I L post := by
  refine Cx.of (by decide +kernel) (by exact Nat.le_of_ble_eq_true rfl) ?_
  have hB := hG.1.bnd
  have hp6 := hG.1.p
  have hb := hG.1.b
  have h00 := hG.1.1.1
  refine Sx.aload_n dX11_kind_0 rfl ?_
  refine Sx.getfR dX11_kind_1 lkf_X11_19_11 (o_100 W) (r_100_1 W) ?_
  refine Sx.iload_n dX11_kind_4 rfl ?_
  refine Sx.callV1 dX11_kind_5 lkv_X11_177 (rcv_6 (o_103 W)) (by decide) (by decide) (Nat.le_of_ble_eq_true rfl) rfl rfl (d_isKind W C.2.1 (by omega) ?_)
  refine Sx.if_neD (t := 14) dX11_kind_8 (by decide) (fun c8 => ?_) (fun c8 => ?_)
  · have hk := c8
    obtain ⟨p, rfl, hp⟩ := x_ex (x := x) (n := V 2 34) ⟨by omega, by omega⟩
    have tp := x_toN (p := p) (by omega)
    refine Sx.sub' [(0, .ref 100), (1, .int (nI p)), (2, .int y)] rfl ?_
    refine Sx.iload_n dX11_kind_14 rfl ?_
    have vw15 : VZ y y.toInt := (vX y)
    by_cases k15_0 : y.toInt = 0
    · refine Sx.tableIn (t := 44) dX11_kind_15 (by rw [show _ = _ from vw15, k15_0]; decide) (by rw [show _ = _ from vw15, k15_0]; decide) (by rw [show _ = _ from vw15, k15_0]; rfl) (by decide) ?_
      have hv : kindR V (nI p) y = kindN V p (xN y) := by unfold kindR; rw [if_pos ⟨by omega, by omega, by omega⟩, xN_n (by omega)]
      rw [xN_k (k := 0) k15_0] at hv
      refine Sx.aload_n dX11_kind_44 rfl ?_
      refine Sx.getfR dX11_kind_45 lkf_X11_19_11 (o_100 W) (r_100_1 W) ?_
      refine Sx.iconst (v := (nI 3)) dX11_kind_48 (by decide) ?_
      refine Sx.iload_n dX11_kind_49 rfl ?_
      refine Sx.iaddN dX11_kind_50 ?_
      refine Sx.callU1 dX11_kind_51 lku_X11_181 (rcv_6 (o_103 W)) (by decide) (by decide) (Nat.le_of_ble_eq_true rfl) rfl rfl (c_rg (w_103r W) (by unfold rowC; decide) (by decide) C.2.1 (3 + p) rfl (by omega) ?_)
      refine Sx.iret dX11_kind_54 rfl rfl ?_
      exact pXX (by rw [hv]; unfold kindN; first | rw [if_pos (by omega)] | rw [if_neg (by omega), if_pos (by omega)] | rw [if_neg (by omega), if_neg (by omega)]) (h I R L C (CF.rf R I L))
    by_cases k15_1 : y.toInt = 1
    · refine Sx.tableIn (t := 55) dX11_kind_15 (by rw [show _ = _ from vw15, k15_1]; decide) (by rw [show _ = _ from vw15, k15_1]; decide) (by rw [show _ = _ from vw15, k15_1]; rfl) (by decide) ?_
      have hv : kindR V (nI p) y = kindN V p (xN y) := by unfold kindR; rw [if_pos ⟨by omega, by omega, by omega⟩, xN_n (by omega)]
      rw [xN_k (k := 1) k15_1] at hv
      refine Sx.aload_n dX11_kind_55 rfl ?_
      refine Sx.getfR dX11_kind_56 lkf_X11_19_11 (o_100 W) (r_100_1 W) ?_
      refine Sx.bipush (v := (nI 9)) dX11_kind_59 (by decide) ?_
      refine Sx.iload_n dX11_kind_61 rfl ?_
      refine Sx.iaddN dX11_kind_62 ?_
      refine Sx.callU1 dX11_kind_63 lku_X11_181 (rcv_6 (o_103 W)) (by decide) (by decide) (Nat.le_of_ble_eq_true rfl) rfl rfl (c_rg (w_103r W) (by unfold rowC; decide) (by decide) C.2.1 (9 + p) rfl (by omega) ?_)
      refine Sx.iret dX11_kind_66 rfl rfl ?_
      exact pXX (by rw [hv]; unfold kindN; first | rw [if_pos (by omega)] | rw [if_neg (by omega), if_pos (by omega)] | rw [if_neg (by omega), if_neg (by omega)]) (h I R L C (CF.rf R I L))
    by_cases k15_2 : y.toInt = 2
    · refine Sx.tableIn (t := 67) dX11_kind_15 (by rw [show _ = _ from vw15, k15_2]; decide) (by rw [show _ = _ from vw15, k15_2]; decide) (by rw [show _ = _ from vw15, k15_2]; rfl) (by decide) ?_
      have hv : kindR V (nI p) y = kindN V p (xN y) := by unfold kindR; rw [if_pos ⟨by omega, by omega, by omega⟩, xN_n (by omega)]
      rw [xN_k (k := 2) k15_2] at hv
      refine Sx.aload_n dX11_kind_67 rfl ?_
      refine Sx.getfR dX11_kind_68 lkf_X11_89_11 (o_100 W) (r_100_11 W) ?_
      refine Sx.bipush (v := (nI 12)) dX11_kind_71 (by decide) ?_
      refine Sx.iload_n dX11_kind_73 rfl ?_
      refine Sx.iaddN dX11_kind_74 ?_
      refine Sx.callU1 dX11_kind_75 lku_X11_184 (rcv_8 (o_229 W)) (by decide) (by decide) (Nat.le_of_ble_eq_true rfl) rfl rfl (c_sg (w_229r W) C.2.2.1 (12 + p) rfl (by omega) (by omega) ?_)
      refine Sx.iret dX11_kind_78 rfl rfl ?_
      exact pXX (by rw [hv]; unfold kindN; first | rw [if_pos (by omega)] | rw [if_neg (by omega), if_pos (by omega)] | rw [if_neg (by omega), if_neg (by omega)]) (h I R L C (CF.rf R I L))
    by_cases k15_3 : y.toInt = 3
    · refine Sx.tableIn (t := 79) dX11_kind_15 (by rw [show _ = _ from vw15, k15_3]; decide) (by rw [show _ = _ from vw15, k15_3]; decide) (by rw [show _ = _ from vw15, k15_3]; rfl) (by decide) ?_
      have hv : kindR V (nI p) y = kindN V p (xN y) := by unfold kindR; rw [if_pos ⟨by omega, by omega, by omega⟩, xN_n (by omega)]
      rw [xN_k (k := 3) k15_3] at hv
      refine Sx.aload_n dX11_kind_79 rfl ?_
      refine Sx.getfR dX11_kind_80 lkf_X11_89_11 (o_100 W) (r_100_11 W) ?_
      refine Sx.iload_n dX11_kind_83 rfl ?_
      refine Sx.aload_n dX11_kind_84 rfl ?_
      refine Sx.getfR dX11_kind_85 lkf_X11_19_11 (o_100 W) (r_100_1 W) ?_
      refine Sx.callV0 dX11_kind_88 lkv_X11_142 (rcv_6 (o_103 W)) (by decide) (by decide) (Nat.le_of_ble_eq_true rfl) rfl rfl (c_pers (w_103r W) C.2.1 ?_)
      refine Sx.callV2 dX11_kind_91 lkv_X11_185 (rcv_8 (o_229 W)) (by decide) (by decide) (Nat.le_of_ble_eq_true rfl) rfl rfl (c_X8_party (k0 := p) (w_229r W) C.2.2.1 (fun j hj => by have := hB.2.1 j (by omega); omega) (by omega) (by omega) ?_)
      refine Sx.iret dX11_kind_94 rfl rfl ?_
      exact pXX (by rw [hv]; unfold kindN; first | rw [if_pos (by omega)] | rw [if_neg (by omega), if_pos (by omega)] | rw [if_neg (by omega), if_neg (by omega)]) (h I R L C (CF.rf R I L))
    refine Sx.tableOut (t := 95) dX11_kind_15 (by rw [show _ = _ from vw15]; omega) (by decide) ?_
    refine Sx.ldc dX11_kind_95 lkk_X11_180 ?_
    refine Sx.top (show _ = (iI (-1000000)) by decide) ?_
    refine Sx.iret dX11_kind_97 rfl rfl ?_
    have hn : ¬ kindC V (nI p) y := fun z => by have := z.2; omega
    exact pXX (by unfold kindR; rw [if_neg hn]) (h I R L C (CF.rf R I L))
  · refine Sx.ldc dX11_kind_11 lkk_X11_180 ?_
    refine Sx.top (show _ = (iI (-1000000)) by decide) ?_
    refine Sx.iret dX11_kind_13 rfl rfl ?_
    have hn : ¬ kindC V x y := fun z => by omega
    exact pXX (by unfold kindR; rw [if_neg hn]) (h I R L C (CF.rf R I L))
set_option maxRecDepth 20000 in
set_option maxHeartbeats 1000000 in
theorem d_status {G : Gt} {l : Launch} {Z : Zt} {R : Rt} {I : It} {L : Lt} {post : Pt'} {V : Vt} {N : Nat} {x : Int32} (W : WF Z R) (C : CI V R I L) (hG : GG N V) (hN : N < 2147483647) (h : CQ post Z R I L V (statR V x)) : Cx G l mX11_status 2 0 0 [.ref 100, .int x] Z R I L post := by
  refine Cx.of (by decide +kernel) (by exact Nat.le_of_ble_eq_true rfl) ?_
  have hB := hG.1.bnd
  have hp6 := hG.1.p
  have hb := hG.1.b
  have h00 := hG.1.1.1
  refine Sx.iload_n dX11_status_0 rfl ?_
  refine Sx.if_ltV (t := 9) dX11_status_1 (by decide) (vX x) (fun c1 => ?_) (fun c1 => ?_)
  · refine Sx.iconst (v := (iI (-1))) dX11_status_9 (by decide) ?_
    refine Sx.goto (t := 21) dX11_status_10 (by decide) ?_
    refine Sx.iret dX11_status_21 rfl rfl ?_
    have hn : ¬ statC x := fun z => by omega
    exact pXX (by unfold statR; rw [if_neg hn]; rfl) (h I R L C (CF.rf R I L))
  · refine Sx.iload_n dX11_status_4 rfl ?_
    refine Sx.iconst (v := (nI 5)) dX11_status_5 (by decide) ?_
    refine Sx.icmp_ltV (t := 13) dX11_status_6 (by decide) (vX x) (vN (by decide)) (fun c6 => ?_) (fun c6 => ?_)
    · have hc : statC x := ⟨by omega, by omega⟩
      obtain ⟨p, rfl, hp⟩ := x_ex (x := x) (n := 5) ⟨by omega, by omega⟩
      refine Sx.sub' [(0, .ref 100), (1, .int (nI p))] rfl ?_
      refine Sx.aload_n dX11_status_13 rfl ?_
      refine Sx.getfR dX11_status_14 lkf_X11_50_11 (o_100 W) (r_100_6 W) ?_
      refine Sx.iload_n dX11_status_17 rfl ?_
      refine Sx.callV1 dX11_status_18 lkv_X11_210 (rcv_7 (o_112 W)) (by decide) (by decide) (Nat.le_of_ble_eq_true rfl) rfl rfl (c_rg (w_112r W) (by unfold rowC; decide) (by decide) (repR C) (p) rfl (by omega) ?_)
      refine Sx.iret dX11_status_21 rfl rfl ?_
      exact pXX (by unfold statR; rw [if_pos hc, xN_n (by omega)]) (h I R L C (CF.rf R I L))
    · refine Sx.iconst (v := (iI (-1))) dX11_status_9 (by decide) ?_
      refine Sx.goto (t := 21) dX11_status_10 (by decide) ?_
      refine Sx.iret dX11_status_21 rfl rfl ?_
      have hn : ¬ statC x := fun z => by omega
      exact pXX (by unfold statR; rw [if_neg hn]; rfl) (h I R L C (CF.rf R I L))
set_option maxRecDepth 20000 in
set_option maxHeartbeats 1000000 in
theorem d_log {G : Gt} {l : Launch} {Z : Zt} {R : Rt} {I : It} {L : Lt} {post : Pt'} {V : Vt} {N : Nat} {x y : Int32} (W : WF Z R) (C : CI V R I L) (hG : GG N V) (hN : N < 2147483647) (h : CQ post Z R I L V (logR V x y)) : Cx G l mX11_log 3 0 0 [.ref 100, .int x, .int y] Z R I L post := by
  refine Cx.of (by decide +kernel) (by exact Nat.le_of_ble_eq_true rfl) ?_
  have hB := hG.1.bnd
  have hp6 := hG.1.p
  have hb := hG.1.b
  have h00 := hG.1.1.1
  refine Sx.iload_n dX11_log_0 rfl ?_
  refine Sx.if_ltV (t := 24) dX11_log_1 (by decide) (vX x) (fun c1 => ?_) (fun c1 => ?_)
  · refine Sx.ldc dX11_log_24 lkk_X11_180 ?_
    refine Sx.top (show _ = (iI (-1000000)) by decide) ?_
    refine Sx.iret dX11_log_26 rfl rfl ?_
    have hn : ¬ logC V x y := fun z => by omega
    exact pXX (by unfold logR; rw [if_neg hn]) (h I R L C (CF.rf R I L))
  · refine Sx.iload_n dX11_log_4 rfl ?_
    refine Sx.aload_n dX11_log_5 rfl ?_
    refine Sx.getfR dX11_log_6 lkf_X11_89_11 (o_100 W) (r_100_11 W) ?_
    refine Sx.callV0 dX11_log_9 lkv_X11_249 (rcv_8 (o_229 W)) (by decide) (by decide) (Nat.le_of_ble_eq_true rfl) rfl rfl (c_X8_yl (w_229r W) C.2.2.1 (by omega) ?_)
    refine Sx.icmp_geV (t := 24) dX11_log_12 (by decide) (vX x) (vN (by omega)) (fun c12 => ?_) (fun c12 => ?_)
    · refine Sx.ldc dX11_log_24 lkk_X11_180 ?_
      refine Sx.top (show _ = (iI (-1000000)) by decide) ?_
      refine Sx.iret dX11_log_26 rfl rfl ?_
      have hn : ¬ logC V x y := fun z => by omega
      exact pXX (by unfold logR; rw [if_neg hn]) (h I R L C (CF.rf R I L))
    · refine Sx.iload_n dX11_log_15 rfl ?_
      refine Sx.if_ltV (t := 24) dX11_log_16 (by decide) (vX y) (fun c16 => ?_) (fun c16 => ?_)
      · refine Sx.ldc dX11_log_24 lkk_X11_180 ?_
        refine Sx.top (show _ = (iI (-1000000)) by decide) ?_
        refine Sx.iret dX11_log_26 rfl rfl ?_
        have hn : ¬ logC V x y := fun z => by omega
        exact pXX (by unfold logR; rw [if_neg hn]) (h I R L C (CF.rf R I L))
      · refine Sx.iload_n dX11_log_19 rfl ?_
        refine Sx.iconst (v := (nI 2)) dX11_log_20 (by decide) ?_
        refine Sx.icmp_leV (t := 27) dX11_log_21 (by decide) (vX y) (vN (by decide)) (fun c21 => ?_) (fun c21 => ?_)
        · have hc : logC V x y := ⟨⟨by omega, by omega⟩, by omega, by omega⟩
          obtain ⟨p, rfl, hp⟩ := x_ex (x := x) (n := min 60 (V 3 144)) ⟨by omega, by omega⟩
          refine Sx.sub' [(0, .ref 100), (1, .int (nI p)), (2, .int y)] rfl ?_
          refine Sx.aload_n dX11_log_27 rfl ?_
          refine Sx.getfR dX11_log_28 lkf_X11_89_11 (o_100 W) (r_100_11 W) ?_
          refine Sx.iload_n dX11_log_31 rfl ?_
          refine Sx.iload_n dX11_log_32 rfl ?_
          refine Sx.callV2 dX11_log_33 lkv_X11_252 (rcv_8 (o_229 W)) (by decide) (by decide) (Nat.le_of_ble_eq_true rfl) rfl rfl (c_X8_logged (w_229r W) C.2.2.1 (by omega) (fun j hj => by have := hB.2.1 j hj; omega) (by omega) ?_)
          refine Sx.iret dX11_log_36 rfl rfl ?_
          exact pXX (by unfold logR; rw [if_pos hc, xN_n (by omega)]) (h I R L C (CF.rf R I L))
        · refine Sx.ldc dX11_log_24 lkk_X11_180 ?_
          refine Sx.top (show _ = (iI (-1000000)) by decide) ?_
          refine Sx.iret dX11_log_26 rfl rfl ?_
          have hn : ¬ logC V x y := fun z => by omega
          exact pXX (by unfold logR; rw [if_neg hn]) (h I R L C (CF.rf R I L))
theorem d_steps {G : Gt} {l : Launch} {Z : Zt} {R : Rt} {I : It} {L : Lt} {post : Pt'} {V : Vt} {p : Nat} (W : WF Z R) (C : CI V R I L) (h4 : V 0 3 ≤ 4) (hp : p < V 0 3) (h : post (some (.int (nI (V (20 + p) 60)))) Z R I L) : Cx G l mX0_steps 1 0 0 [.ref (243 + 2 * p)] Z R I L post := c_steps (w_cals W (by omega)) (by rw [(C.2.2.2.2.2.2.1 p hp).1]; exact h)
theorem d_told {G : Gt} {l : Launch} {Z : Zt} {R : Rt} {I : It} {L : Lt} {post : Pt'} {V : Vt} {p q r : Nat} (W : WF Z R) (C : CI V R I L) (h4 : V 0 3 ≤ 4) (hp : p < V 0 3) (h20 : V (20 + p) 60 ≤ 20) (hq : q < V (20 + p) 60) (hr : r < 3) (h : post (some (.int (iI ((V (20 + p) (3 * q + r) : Int) - 1)))) Z R I L) : Cx G l mX0_told 2 0 0 [.ref (243 + 2 * p), .int (nI q), .int (nI r)] Z R I L post := c_told (w_cals W (by omega)) hr (by omega) (by rw [(C.2.2.2.2.2.2.1 p hp).2 _ (by omega)]; exact h)
set_option maxRecDepth 20000 in
set_option maxHeartbeats 1000000 in
theorem d_step {G : Gt} {l : Launch} {Z : Zt} {R : Rt} {I : It} {L : Lt} {post : Pt'} {V : Vt} {N : Nat} {x y z : Int32} (W : WF Z R) (C : CI V R I L) (hG : GG N V) (hN : N < 2147483647) (h : CQ post Z R I L V (stepR V x y z)) : Cx G l mX11_step 3 0 0 [.ref 100, .int x, .int y, .int z] Z R I L post := by
  refine Cx.of (by decide +kernel) (by exact Nat.le_of_ble_eq_true rfl) ?_
  have hB := hG.1.bnd
  have hp6 := hG.1.p
  have hb := hG.1.b
  have h00 := hG.1.1.1
  refine Sx.aload_n dX11_step_0 rfl ?_
  refine Sx.iload_n dX11_step_1 rfl ?_
  refine Sx.callV1 dX11_step_2 lkv_X11_255 (rcv_11 (o_100 W)) (by decide) (by decide) (Nat.le_of_ble_eq_true rfl) rfl rfl (d_isCal W C (by omega) ?_)
  refine Sx.if_eqD (t := 17) dX11_step_5 (by decide) (fun c5 => ?_) (fun c5 => ?_)
  · refine Sx.ldc dX11_step_17 lkk_X11_180 ?_
    refine Sx.top (show _ = (iI (-1000000)) by decide) ?_
    refine Sx.iret dX11_step_19 rfl rfl ?_
    have hn : ¬ stepC V x y z := fun w => by have := w.1; have := w.2.2; omega
    exact pXX (by unfold stepR; rw [if_neg hn]) (h I R L C (CF.rf R I L))
  · refine Sx.iload_n dX11_step_8 rfl ?_
    refine Sx.if_ltV (t := 17) dX11_step_9 (by decide) (vX z) (fun c9 => ?_) (fun c9 => ?_)
    · refine Sx.ldc dX11_step_17 lkk_X11_180 ?_
      refine Sx.top (show _ = (iI (-1000000)) by decide) ?_
      refine Sx.iret dX11_step_19 rfl rfl ?_
      have hn : ¬ stepC V x y z := fun w => by have := w.1; have := w.2.2; omega
      exact pXX (by unfold stepR; rw [if_neg hn]) (h I R L C (CF.rf R I L))
    · refine Sx.iload_n dX11_step_12 rfl ?_
      refine Sx.iconst (v := (nI 3)) dX11_step_13 (by decide) ?_
      refine Sx.icmp_ltV (t := 20) dX11_step_14 (by decide) (vX z) (vN (by decide)) (fun c14 => ?_) (fun c14 => ?_)
      · have hx0 : 0 ≤ x.toInt ∧ x.toInt < (V 0 3 : Int) := by omega
        obtain ⟨p, rfl, hp⟩ := x_ex (x := x) (n := V 0 3) ⟨by omega, by omega⟩
        have tp := x_toN (p := p) (by omega)
        have xp := xN_n (j := p) (by omega)
        have hcal := hG.1.2.2.1.2 p hp
        obtain ⟨r, rfl, hr⟩ := x_ex (x := z) (n := 3) ⟨by omega, by omega⟩
        have tr := x_toN (p := r) (by omega)
        refine Sx.sub' [(0, .ref 100), (1, .int (nI p)), (2, .int y), (3, .int (nI r))] rfl ?_
        refine Sx.aload_n dX11_step_20 rfl ?_
        refine Sx.iload_n dX11_step_21 rfl ?_
        refine Sx.callV1 dX11_step_22 lkv_X11_156 (rcv_11 (o_100 W)) (by decide) (by decide) (Nat.le_of_ble_eq_true rfl) rfl rfl (d_calAt W (k := p) (by omega) ?_)
        refine Sx.astore (lv' := [(4, .ref ((243 + 2 * p))), (0, .ref 100), (1, .int (nI p)), (2, .int y), (3, .int (nI r))]) dX11_step_25 (by decide) rfl ?_
        refine Sx.aload dX11_step_27 rfl ?_
        refine Sx.ifnull dX11_step_29 ?_
        refine Sx.iload_n dX11_step_32 rfl ?_
        refine Sx.if_ltV (t := 45) dX11_step_33 (by decide) (vX y) (fun c33 => ?_) (fun c33 => ?_)
        · refine Sx.ldc dX11_step_45 lkk_X11_180 ?_
          refine Sx.top (show _ = (iI (-1000000)) by decide) ?_
          refine Sx.goto (t := 57) dX11_step_47 (by decide) ?_
          refine Sx.iret dX11_step_57 rfl rfl ?_
          have hn : ¬ stepC V (nI p) y (nI r) := fun w => by unfold stepC at w; rw [xp] at w; omega
          exact pXX (by unfold stepR; rw [if_neg hn]) (h I R L C (CF.rf R I L))
        · refine Sx.iload_n dX11_step_36 rfl ?_
          refine Sx.aload dX11_step_37 rfl ?_
          refine Sx.callV0 dX11_step_39 lkv_X11_258 (rcv_0 (w_cals W (i := p) (by omega)).1) (by decide) (by decide) (Nat.le_of_ble_eq_true rfl) rfl rfl (d_steps W C (by omega) hp ?_)
          refine Sx.icmp_ltV (t := 50) dX11_step_42 (by decide) (vX y) (vN (by omega)) (fun c42 => ?_) (fun c42 => ?_)
          · have hc : stepC V (nI p) y (nI r) := by unfold stepC; rw [xp]; exact ⟨⟨by omega, by omega⟩, ⟨by omega, by omega⟩, by omega, by omega⟩
            obtain ⟨q, rfl, hq⟩ := x_ex (x := y) (n := V (20 + p) 60) ⟨by omega, by omega⟩
            refine Sx.sub' [(0, .ref 100), (1, .int (nI p)), (2, .int (nI q)), (3, .int (nI r)), (4, .ref ((243 + 2 * p)))] rfl ?_
            refine Sx.aload dX11_step_50 rfl ?_
            refine Sx.iload_n dX11_step_52 rfl ?_
            refine Sx.iload_n dX11_step_53 rfl ?_
            refine Sx.callV2 dX11_step_54 lkv_X11_261 (rcv_0 (w_cals W (i := p) (by omega)).1) (by decide) (by decide) (Nat.le_of_ble_eq_true rfl) rfl rfl (d_told W C (by omega) hp hcal.1 (by omega) (by omega) ?_)
            refine Sx.iret dX11_step_57 rfl rfl ?_
            exact pXX (by unfold stepR; rw [if_pos hc, xN_n (by omega), xN_n (by omega), xN_n (by omega)]) (h I R L C (CF.rf R I L))
          · refine Sx.ldc dX11_step_45 lkk_X11_180 ?_
            refine Sx.top (show _ = (iI (-1000000)) by decide) ?_
            refine Sx.goto (t := 57) dX11_step_47 (by decide) ?_
            refine Sx.iret dX11_step_57 rfl rfl ?_
            have hn : ¬ stepC V (nI p) y (nI r) := fun w => by unfold stepC at w; rw [xp] at w; omega
            exact pXX (by unfold stepR; rw [if_neg hn]) (h I R L C (CF.rf R I L))
      · refine Sx.ldc dX11_step_17 lkk_X11_180 ?_
        refine Sx.top (show _ = (iI (-1000000)) by decide) ?_
        refine Sx.iret dX11_step_19 rfl rfl ?_
        have hn : ¬ stepC V x y z := fun w => by have := w.1; have := w.2.2; omega
        exact pXX (by unfold stepR; rw [if_neg hn]) (h I R L C (CF.rf R I L))
set_option maxRecDepth 20000 in
set_option maxHeartbeats 1000000 in
theorem d_did {G : Gt} {l : Launch} {Z : Zt} {R : Rt} {I : It} {L : Lt} {post : Pt'} {V : Vt} {N : Nat} {x y : Int32} (W : WF Z R) (C : CI V R I L) (hG : GG N V) (hN : N < 2147483647) (h : CQ post Z R I L V (didR V x y)) : Cx G l mX11_did 3 0 0 [.ref 100, .int x, .int y] Z R I L post := by
  refine Cx.of (by decide +kernel) (by exact Nat.le_of_ble_eq_true rfl) ?_
  have hB := hG.1.bnd
  have hp6 := hG.1.p
  have hb := hG.1.b
  have h00 := hG.1.1.1
  refine Sx.aload_n dX11_did_0 rfl ?_
  refine Sx.getfR dX11_did_1 lkf_X11_19_11 (o_100 W) (r_100_1 W) ?_
  refine Sx.iload_n dX11_did_4 rfl ?_
  refine Sx.callV1 dX11_did_5 lkv_X11_272 (rcv_6 (o_103 W)) (by decide) (by decide) (Nat.le_of_ble_eq_true rfl) rfl rfl (d_isDay W C.2.1 (by have := hB.1 0 (by decide); omega) ?_)
  refine Sx.if_eqD (t := 36) dX11_did_8 (by decide) (fun c8 => ?_) (fun c8 => ?_)
  · refine Sx.iconst (v := (iI (-1))) dX11_did_36 (by decide) ?_
    refine Sx.iret dX11_did_37 rfl rfl ?_
    have hn : ¬ didC V x y := fun z => by have hd9 := (hG.1.hv z.1).2.2.2.2.1.2.2.2.2.2.2.2.2.2.2.2.2.2.1; omega
    exact pXX (by unfold didR; rw [if_neg hn]; rfl) (h I R L C (CF.rf R I L))
  · refine Sx.iload_n dX11_did_11 rfl ?_
    refine Sx.aload_n dX11_did_12 rfl ?_
    refine Sx.getfR dX11_did_13 lkf_X11_89_11 (o_100 W) (r_100_11 W) ?_
    refine Sx.sipush (v := (nI 145)) dX11_did_16 (by decide) ?_
    refine Sx.callU1 dX11_did_19 lku_X11_184 (rcv_8 (o_229 W)) (by decide) (by decide) (Nat.le_of_ble_eq_true rfl) rfl rfl (c_sg (w_229r W) C.2.2.1 (145) rfl (by omega) (by omega) ?_)
    refine Sx.icmp_geV (t := 36) dX11_did_22 (by decide) (vX x) (vN (by omega)) (fun c22 => ?_) (fun c22 => ?_)
    · refine Sx.iconst (v := (iI (-1))) dX11_did_36 (by decide) ?_
      refine Sx.iret dX11_did_37 rfl rfl ?_
      have hn : ¬ didC V x y := fun z => by have hd9 := (hG.1.hv z.1).2.2.2.2.1.2.2.2.2.2.2.2.2.2.2.2.2.2.1; omega
      exact pXX (by unfold didR; rw [if_neg hn]; rfl) (h I R L C (CF.rf R I L))
    · refine Sx.aload_n dX11_did_25 rfl ?_
      refine Sx.getfR dX11_did_26 lkf_X11_19_11 (o_100 W) (r_100_1 W) ?_
      refine Sx.iload_n dX11_did_29 rfl ?_
      refine Sx.callV1 dX11_did_30 lkv_X11_177 (rcv_6 (o_103 W)) (by decide) (by decide) (Nat.le_of_ble_eq_true rfl) rfl rfl (d_isKind W C.2.1 (by omega) ?_)
      refine Sx.if_neD (t := 38) dX11_did_33 (by decide) (fun c33 => ?_) (fun c33 => ?_)
      · have hp35 : V 2 35 ≠ 0 := fun z => by rcases hG.1.2.2.2.2.2.2 with w | w; (· have := w.2.1 0; omega); (· have := w.1.2.2.2.2.2.2.1; omega)
        have hd48 := (hG.1.hv hp35).2.2.2.2.1.2.2.2.2.1
        have hd9 := (hG.1.hv hp35).2.2.2.2.1.2.2.2.2.2.2.2.2.2.2.2.2.2.1
        have hc : didC V x y := ⟨hp35, ⟨by omega, by omega⟩, by omega, by omega⟩
        obtain ⟨p, rfl, hp⟩ := x_ex (x := x) (n := V 3 145) ⟨by omega, by omega⟩
        obtain ⟨q, rfl, hq⟩ := x_ex (x := y) (n := V 2 34) ⟨by omega, by omega⟩
        refine Sx.sub' [(0, .ref 100), (1, .int (nI p)), (2, .int (nI q))] rfl ?_
        refine Sx.aload_n dX11_did_38 rfl ?_
        refine Sx.getfR dX11_did_39 lkf_X11_89_11 (o_100 W) (r_100_11 W) ?_
        refine Sx.bipush (v := (nI 48)) dX11_did_42 (by decide) ?_
        refine Sx.iload_n dX11_did_44 rfl ?_
        refine Sx.iaddN dX11_did_45 ?_
        refine Sx.callU1 dX11_did_46 lku_X11_184 (rcv_8 (o_229 W)) (by decide) (by decide) (Nat.le_of_ble_eq_true rfl) rfl rfl (c_sg (w_229r W) C.2.2.1 (48 + p) rfl (by omega) (by omega) ?_)
        refine Sx.iload_n dX11_did_49 rfl ?_
        refine Sx.callS2 dX11_did_50 lkc_X11_346  (by decide) (by decide) (Nat.le_of_ble_eq_true rfl) rfl rfl (c_doers (k0 := q) (by have := hB.2.1; have h48 := hd48 p (by omega); omega) (by omega) ?_)
        refine Sx.iret dX11_did_53 rfl rfl ?_
        exact pXX (by unfold didR; rw [if_pos hc, xN_n (by omega), xN_n (by omega)]) (h I R L C (CF.rf R I L))
      · refine Sx.iconst (v := (iI (-1))) dX11_did_36 (by decide) ?_
        refine Sx.iret dX11_did_37 rfl rfl ?_
        have hn : ¬ didC V x y := fun z => by have hd9 := (hG.1.hv z.1).2.2.2.2.1.2.2.2.2.2.2.2.2.2.2.2.2.2.1; omega
        exact pXX (by unfold didR; rw [if_neg hn]; rfl) (h I R L C (CF.rf R I L))
set_option maxRecDepth 20000 in
set_option maxHeartbeats 1000000 in
theorem d_wsize {G : Gt} {l : Launch} {Z : Zt} {R : Rt} {I : It} {L : Lt} {post : Pt'} {V : Vt} (W : WF Z R) (C : CI V R I L) (h : post (some (.int (nI (V 0 7)))) Z R I L) : Cx G l mX10_size 1 0 0 [.ref 136] Z R I L post := by
  refine Cx.of (by decide +kernel) (by exact Nat.le_of_ble_eq_true rfl) ?_
  refine Sx.aload_n dX10_size_0 rfl ?_
  refine Sx.getfV (v := (nI (V 0 7))) dX10_size_1 lkf_X10_36_10 (o_136 W) C.2.2.2.2.2.2.2.2.2.2.1 ?_
  refine Sx.iret dX10_size_4 rfl rfl ?_
  exact h
set_option maxRecDepth 20000 in
set_option maxHeartbeats 1000000 in
theorem d_hsize {G : Gt} {l : Launch} {Z : Zt} {R : Rt} {I : It} {L : Lt} {post : Pt'} {V : Vt} (W : WF Z R) (C : CI V R I L) (h : post (some (.int (nI (V 0 4)))) Z R I L) : Cx G l mX2_size 1 0 0 [.ref 147] Z R I L post := by
  refine Cx.of (by decide +kernel) (by exact Nat.le_of_ble_eq_true rfl) ?_
  obtain ⟨nx, n1, n2, e4, n4⟩ := C.2.2.2.2.2.2.2.2.2.1
  refine Sx.aload_n dX2_size_0 rfl ?_
  refine Sx.getfV (v := (nI (V 0 4))) dX2_size_1 lkf_X2_15_2 (o_147 W) e4 ?_
  refine Sx.iret dX2_size_4 rfl rfl ?_
  exact h
set_option maxRecDepth 20000 in
set_option maxHeartbeats 1000000 in
theorem d_len {G : Gt} {l : Launch} {Z : Zt} {R : Rt} {I : It} {L : Lt} {post : Pt'} {V : Vt} (W : WF Z R) (C : CI V R I L) (h : post (some (.int (nI (V 0 0)))) Z R I L) : Cx G l mX9_length 1 0 0 [.ref 101] Z R I L post := by
  refine Cx.of (by decide +kernel) (by exact Nat.le_of_ble_eq_true rfl) ?_
  refine Sx.aload_n dX9_length_0 rfl ?_
  refine Sx.getfV (v := (nI (V 0 0))) dX9_length_1 lkf_X9_15_9 (o_101 W) C.1.1 ?_
  refine Sx.iret dX9_length_4 rfl rfl ?_
  exact h
set_option maxRecDepth 20000 in
set_option maxHeartbeats 1000000 in
theorem d_count {G : Gt} {l : Launch} {Z : Zt} {R : Rt} {I : It} {L : Lt} {post : Pt'} {V : Vt} {N : Nat} {x : Int32} (W : WF Z R) (C : CI V R I L) (hG : GG N V) (hN : N < 2147483647) (h : CQ post Z R I L V (cntR V x)) : Cx G l mX11_count 3 0 0 [.ref 100, .int x] Z R I L post := by
  refine Cx.of (by decide +kernel) (by exact Nat.le_of_ble_eq_true rfl) ?_
  have hB := hG.1.bnd
  have hp6 := hG.1.p
  have hb := hG.1.b
  have h00 := hG.1.1.1
  refine Sx.iload_n dX11_count_0 rfl ?_
  have vw1 : VZ x x.toInt := (vX x)
  by_cases k1_0 : x.toInt = 0
  · refine Sx.tableIn (t := 84) dX11_count_1 (by rw [show _ = _ from vw1, k1_0]; decide) (by rw [show _ = _ from vw1, k1_0]; decide) (by rw [show _ = _ from vw1, k1_0]; rfl) (by decide) ?_
    refine Sx.aload_n dX11_count_84 rfl ?_
    refine Sx.getfR dX11_count_85 lkf_X11_19_11 (o_100 W) (r_100_1 W) ?_
    refine Sx.callV0 dX11_count_88 lkv_X11_142 (rcv_6 (o_103 W)) (by decide) (by decide) (Nat.le_of_ble_eq_true rfl) rfl rfl (c_pers (w_103r W) C.2.1 ?_)
    refine Sx.iret dX11_count_91 rfl rfl ?_
    exact pXX (by unfold cntR; rw [if_pos (by omega), xN_k (k := 0) k1_0]; rfl) (h I R L C (CF.rf R I L))
  by_cases k1_1 : x.toInt = 1
  · refine Sx.tableIn (t := 92) dX11_count_1 (by rw [show _ = _ from vw1, k1_1]; decide) (by rw [show _ = _ from vw1, k1_1]; decide) (by rw [show _ = _ from vw1, k1_1]; rfl) (by decide) ?_
    refine Sx.aload_n dX11_count_92 rfl ?_
    refine Sx.getfR dX11_count_93 lkf_X11_19_11 (o_100 W) (r_100_1 W) ?_
    refine Sx.callV0 dX11_count_96 lkv_X11_353 (rcv_6 (o_103 W)) (by decide) (by decide) (Nat.le_of_ble_eq_true rfl) rfl rfl (c_kinds (w_103r W) C.2.1 ?_)
    refine Sx.iret dX11_count_99 rfl rfl ?_
    exact pXX (by unfold cntR; rw [if_pos (by omega), xN_k (k := 1) k1_1]; rfl) (h I R L C (CF.rf R I L))
  by_cases k1_2 : x.toInt = 2
  · refine Sx.tableIn (t := 100) dX11_count_1 (by rw [show _ = _ from vw1, k1_2]; decide) (by rw [show _ = _ from vw1, k1_2]; decide) (by rw [show _ = _ from vw1, k1_2]; rfl) (by decide) ?_
    refine Sx.aload_n dX11_count_100 rfl ?_
    refine Sx.getfR dX11_count_101 lkf_X11_19_11 (o_100 W) (r_100_1 W) ?_
    refine Sx.iconst (v := (nI 0)) dX11_count_104 (by decide) ?_
    refine Sx.callU1 dX11_count_105 lku_X11_181 (rcv_6 (o_103 W)) (by decide) (by decide) (Nat.le_of_ble_eq_true rfl) rfl rfl (c_rg (w_103r W) (by unfold rowC; decide) (by decide) C.2.1 (0) rfl (by omega) ?_)
    refine Sx.iret dX11_count_108 rfl rfl ?_
    exact pXX (by unfold cntR; rw [if_pos (by omega), xN_k (k := 2) k1_2]; rfl) (h I R L C (CF.rf R I L))
  by_cases k1_3 : x.toInt = 3
  · refine Sx.tableIn (t := 109) dX11_count_1 (by rw [show _ = _ from vw1, k1_3]; decide) (by rw [show _ = _ from vw1, k1_3]; decide) (by rw [show _ = _ from vw1, k1_3]; rfl) (by decide) ?_
    refine Sx.aload_n dX11_count_109 rfl ?_
    refine Sx.getfV (v := (nI (V 0 1))) dX11_count_110 lkf_X11_100_11 (o_100 W) C.2.2.2.1.2.1 ?_
    refine Sx.iret dX11_count_113 rfl rfl ?_
    exact pXX (by unfold cntR; rw [if_pos (by omega), xN_k (k := 3) k1_3]; rfl) (h I R L C (CF.rf R I L))
  by_cases k1_4 : x.toInt = 4
  · refine Sx.tableIn (t := 114) dX11_count_1 (by rw [show _ = _ from vw1, k1_4]; decide) (by rw [show _ = _ from vw1, k1_4]; decide) (by rw [show _ = _ from vw1, k1_4]; rfl) (by decide) ?_
    refine Sx.aload_n dX11_count_114 rfl ?_
    refine Sx.getfV (v := (nI (V 0 3))) dX11_count_115 lkf_X11_104_11 (o_100 W) C.2.2.2.1.2.2.1 ?_
    refine Sx.iret dX11_count_118 rfl rfl ?_
    exact pXX (by unfold cntR; rw [if_pos (by omega), xN_k (k := 4) k1_4]; rfl) (h I R L C (CF.rf R I L))
  by_cases k1_5 : x.toInt = 5
  · refine Sx.tableIn (t := 119) dX11_count_1 (by rw [show _ = _ from vw1, k1_5]; decide) (by rw [show _ = _ from vw1, k1_5]; decide) (by rw [show _ = _ from vw1, k1_5]; rfl) (by decide) ?_
    refine Sx.aload_n dX11_count_119 rfl ?_
    refine Sx.getfR dX11_count_120 lkf_X11_10_11 (o_100 W) (r_100_0 W) ?_
    refine Sx.callV0 dX11_count_123 lkv_X11_119 (rcv_9 (o_101 W)) (by decide) (by decide) (Nat.le_of_ble_eq_true rfl) rfl rfl (d_len W C ?_)
    refine Sx.iret dX11_count_126 rfl rfl ?_
    exact pXX (by unfold cntR; rw [if_pos (by omega), xN_k (k := 5) k1_5]; rfl) (h I R L C (CF.rf R I L))
  by_cases k1_6 : x.toInt = 6
  · refine Sx.tableIn (t := 127) dX11_count_1 (by rw [show _ = _ from vw1, k1_6]; decide) (by rw [show _ = _ from vw1, k1_6]; decide) (by rw [show _ = _ from vw1, k1_6]; rfl) (by decide) ?_
    refine Sx.aload_n dX11_count_127 rfl ?_
    refine Sx.getfV (v := (iI ((V 0 2 : Int) - 1))) dX11_count_128 lkf_X11_107_11 (o_100 W) C.2.2.2.1.2.2.2.1 ?_
    refine Sx.iret dX11_count_131 rfl rfl ?_
    exact pXX (by unfold cntR; rw [if_pos (by omega), xN_k (k := 6) k1_6]; rfl) (h I R L C (CF.rf R I L))
  by_cases k1_7 : x.toInt = 7
  · refine Sx.tableIn (t := 132) dX11_count_1 (by rw [show _ = _ from vw1, k1_7]; decide) (by rw [show _ = _ from vw1, k1_7]; decide) (by rw [show _ = _ from vw1, k1_7]; rfl) (by decide) ?_
    refine Sx.aload_n dX11_count_132 rfl ?_
    refine Sx.getfR dX11_count_133 lkf_X11_89_11 (o_100 W) (r_100_11 W) ?_
    refine Sx.sipush (v := (nI 144)) dX11_count_136 (by decide) ?_
    refine Sx.callU1 dX11_count_139 lku_X11_184 (rcv_8 (o_229 W)) (by decide) (by decide) (Nat.le_of_ble_eq_true rfl) rfl rfl (c_sg (w_229r W) C.2.2.1 (144) rfl (by omega) (by omega) ?_)
    refine Sx.iret dX11_count_142 rfl rfl ?_
    exact pXX (by unfold cntR; rw [if_pos (by omega), xN_k (k := 7) k1_7]; rfl) (h I R L C (CF.rf R I L))
  by_cases k1_8 : x.toInt = 8
  · refine Sx.tableIn (t := 143) dX11_count_1 (by rw [show _ = _ from vw1, k1_8]; decide) (by rw [show _ = _ from vw1, k1_8]; decide) (by rw [show _ = _ from vw1, k1_8]; rfl) (by decide) ?_
    refine Sx.aload_n dX11_count_143 rfl ?_
    refine Sx.getfR dX11_count_144 lkf_X11_89_11 (o_100 W) (r_100_11 W) ?_
    refine Sx.sipush (v := (nI 145)) dX11_count_147 (by decide) ?_
    refine Sx.callU1 dX11_count_150 lku_X11_184 (rcv_8 (o_229 W)) (by decide) (by decide) (Nat.le_of_ble_eq_true rfl) rfl rfl (c_sg (w_229r W) C.2.2.1 (145) rfl (by omega) (by omega) ?_)
    refine Sx.iret dX11_count_153 rfl rfl ?_
    exact pXX (by unfold cntR; rw [if_pos (by omega), xN_k (k := 8) k1_8]; rfl) (h I R L C (CF.rf R I L))
  by_cases k1_9 : x.toInt = 9
  · refine Sx.tableIn (t := 154) dX11_count_1 (by rw [show _ = _ from vw1, k1_9]; decide) (by rw [show _ = _ from vw1, k1_9]; decide) (by rw [show _ = _ from vw1, k1_9]; rfl) (by decide) ?_
    refine Sx.aload_n dX11_count_154 rfl ?_
    refine Sx.getfR dX11_count_155 lkf_X11_89_11 (o_100 W) (r_100_11 W) ?_
    refine Sx.sipush (v := (nI 142)) dX11_count_158 (by decide) ?_
    refine Sx.callU1 dX11_count_161 lku_X11_184 (rcv_8 (o_229 W)) (by decide) (by decide) (Nat.le_of_ble_eq_true rfl) rfl rfl (c_sg (w_229r W) C.2.2.1 (142) rfl (by omega) (by omega) ?_)
    refine Sx.iret dX11_count_164 rfl rfl ?_
    exact pXX (by unfold cntR; rw [if_pos (by omega), xN_k (k := 9) k1_9]; rfl) (h I R L C (CF.rf R I L))
  by_cases k1_10 : x.toInt = 10
  · refine Sx.tableIn (t := 165) dX11_count_1 (by rw [show _ = _ from vw1, k1_10]; decide) (by rw [show _ = _ from vw1, k1_10]; decide) (by rw [show _ = _ from vw1, k1_10]; rfl) (by decide) ?_
    refine Sx.aload_n dX11_count_165 rfl ?_
    refine Sx.getfR dX11_count_166 lkf_X11_89_11 (o_100 W) (r_100_11 W) ?_
    refine Sx.sipush (v := (nI 139)) dX11_count_169 (by decide) ?_
    refine Sx.callU1 dX11_count_172 lku_X11_184 (rcv_8 (o_229 W)) (by decide) (by decide) (Nat.le_of_ble_eq_true rfl) rfl rfl (c_sg (w_229r W) C.2.2.1 (139) rfl (by omega) (by omega) ?_)
    refine Sx.iret dX11_count_175 rfl rfl ?_
    exact pXX (by unfold cntR; rw [if_pos (by omega), xN_k (k := 10) k1_10]; rfl) (h I R L C (CF.rf R I L))
  by_cases k1_11 : x.toInt = 11
  · refine Sx.tableIn (t := 176) dX11_count_1 (by rw [show _ = _ from vw1, k1_11]; decide) (by rw [show _ = _ from vw1, k1_11]; decide) (by rw [show _ = _ from vw1, k1_11]; rfl) (by decide) ?_
    refine Sx.aload_n dX11_count_176 rfl ?_
    refine Sx.getfR dX11_count_177 lkf_X11_89_11 (o_100 W) (r_100_11 W) ?_
    refine Sx.sipush (v := (nI 140)) dX11_count_180 (by decide) ?_
    refine Sx.callU1 dX11_count_183 lku_X11_184 (rcv_8 (o_229 W)) (by decide) (by decide) (Nat.le_of_ble_eq_true rfl) rfl rfl (c_sg (w_229r W) C.2.2.1 (140) rfl (by omega) (by omega) ?_)
    refine Sx.iret dX11_count_186 rfl rfl ?_
    exact pXX (by unfold cntR; rw [if_pos (by omega), xN_k (k := 11) k1_11]; rfl) (h I R L C (CF.rf R I L))
  by_cases k1_12 : x.toInt = 12
  · refine Sx.tableIn (t := 187) dX11_count_1 (by rw [show _ = _ from vw1, k1_12]; decide) (by rw [show _ = _ from vw1, k1_12]; decide) (by rw [show _ = _ from vw1, k1_12]; rfl) (by decide) ?_
    refine Sx.aload_n dX11_count_187 rfl ?_
    refine Sx.getfR dX11_count_188 lkf_X11_89_11 (o_100 W) (r_100_11 W) ?_
    refine Sx.sipush (v := (nI 141)) dX11_count_191 (by decide) ?_
    refine Sx.callU1 dX11_count_194 lku_X11_184 (rcv_8 (o_229 W)) (by decide) (by decide) (Nat.le_of_ble_eq_true rfl) rfl rfl (c_sg (w_229r W) C.2.2.1 (141) rfl (by omega) (by omega) ?_)
    refine Sx.iret dX11_count_197 rfl rfl ?_
    exact pXX (by unfold cntR; rw [if_pos (by omega), xN_k (k := 12) k1_12]; rfl) (h I R L C (CF.rf R I L))
  by_cases k1_13 : x.toInt = 13
  · refine Sx.tableIn (t := 198) dX11_count_1 (by rw [show _ = _ from vw1, k1_13]; decide) (by rw [show _ = _ from vw1, k1_13]; decide) (by rw [show _ = _ from vw1, k1_13]; rfl) (by decide) ?_
    refine Sx.aload_n dX11_count_198 rfl ?_
    refine Sx.getfV (v := (nI (V 0 6))) dX11_count_199 lkf_X11_110_11 (o_100 W) C.2.2.2.1.2.2.2.2 ?_
    refine Sx.iret dX11_count_202 rfl rfl ?_
    exact pXX (by unfold cntR; rw [if_pos (by omega), xN_k (k := 13) k1_13]; rfl) (h I R L C (CF.rf R I L))
  by_cases k1_14 : x.toInt = 14
  · refine Sx.tableIn (t := 203) dX11_count_1 (by rw [show _ = _ from vw1, k1_14]; decide) (by rw [show _ = _ from vw1, k1_14]; decide) (by rw [show _ = _ from vw1, k1_14]; rfl) (by decide) ?_
    refine Sx.aload_n dX11_count_203 rfl ?_
    refine Sx.getfR dX11_count_204 lkf_X11_75_11 (o_100 W) (r_100_9 W) ?_
    refine Sx.callV0 dX11_count_207 lkv_X11_310 (rcv_10 (o_136 W)) (by decide) (by decide) (Nat.le_of_ble_eq_true rfl) rfl rfl (d_wsize W C ?_)
    refine Sx.iret dX11_count_210 rfl rfl ?_
    exact pXX (by unfold cntR; rw [if_pos (by omega), xN_k (k := 14) k1_14]; rfl) (h I R L C (CF.rf R I L))
  by_cases k1_15 : x.toInt = 15
  · refine Sx.tableIn (t := 211) dX11_count_1 (by rw [show _ = _ from vw1, k1_15]; decide) (by rw [show _ = _ from vw1, k1_15]; decide) (by rw [show _ = _ from vw1, k1_15]; rfl) (by decide) ?_
    refine Sx.aload_n dX11_count_211 rfl ?_
    refine Sx.getfR dX11_count_212 lkf_X11_89_11 (o_100 W) (r_100_11 W) ?_
    refine Sx.callV0 dX11_count_215 lkv_X11_249 (rcv_8 (o_229 W)) (by decide) (by decide) (Nat.le_of_ble_eq_true rfl) rfl rfl (c_X8_yl (w_229r W) C.2.2.1 (by omega) ?_)
    refine Sx.iret dX11_count_218 rfl rfl ?_
    exact pXX (by unfold cntR; rw [if_pos (by omega), xN_k (k := 15) k1_15]; rfl) (h I R L C (CF.rf R I L))
  by_cases k1_16 : x.toInt = 16
  · refine Sx.tableIn (t := 219) dX11_count_1 (by rw [show _ = _ from vw1, k1_16]; decide) (by rw [show _ = _ from vw1, k1_16]; decide) (by rw [show _ = _ from vw1, k1_16]; rfl) (by decide) ?_
    refine Sx.aload_n dX11_count_219 rfl ?_
    refine Sx.getfR dX11_count_220 lkf_X11_82_11 (o_100 W) (r_100_10 W) ?_
    refine Sx.callV0 dX11_count_223 lkv_X11_246 (rcv_2 (o_147 W)) (by decide) (by decide) (Nat.le_of_ble_eq_true rfl) rfl rfl (d_hsize W C ?_)
    refine Sx.iret dX11_count_226 rfl rfl ?_
    exact pXX (by unfold cntR; rw [if_pos (by omega), xN_k (k := 16) k1_16]; rfl) (h I R L C (CF.rf R I L))
  refine Sx.tableOut (t := 227) dX11_count_1 (by rw [show _ = _ from vw1]; omega) (by decide) ?_
  refine Sx.ldc dX11_count_227 lkk_X11_180 ?_
  refine Sx.top (show _ = (iI (-1000000)) by decide) ?_
  refine Sx.iret dX11_count_229 rfl rfl ?_
  exact pXX (by unfold cntR; rw [if_neg (by omega)]) (h I R L C (CF.rf R I L))
set_option maxRecDepth 20000 in
set_option maxHeartbeats 1000000 in
theorem l_csha {G : Gt} {l : Launch} {Z : Zt} {R : Rt} {I : It} {L : Lt} {post : Pt'} {V : Vt} {p q : Nat} (W : WF Z R) (C : CI V R I L) (hH : HV V) (hp : p < V 2 35) (hq : q ≤ 999) (h : post (some (.int (nI (if smN (V 3) (V 2 35) = 0 then 0 else q * V 3 (6 + p) / smN (V 3) (V 2 35))))) Z R I L) :
    ∀ (k j : Nat), j ≤ V 2 35 → V 2 35 < j + k → ∀ s, s = smN (V 3) j → Sx G l mX11_shares 3 0 0 29 [(4, .int (nI j)), (3, .int (nI s)), (0, .ref 100), (1, .int (nI p)), (2, .int (nI q))] [] Z R I L post := by
  obtain ⟨p1, p2, p3, p4, p5, p6, p7, p8, p9⟩ := id hH.2.2.2.1
  intro k
  induction k with
  | zero => intro j h1 h2; omega
  | succ k ih =>
    intro j h1 h2 s hs
    have hsm := smN_le hH.2.2.2.2.1 j (by omega)
    refine Sx.iload dX11_shares_29 rfl ?_
    refine Sx.aload_n dX11_shares_31 rfl ?_
    refine Sx.getfR dX11_shares_32 lkf_X11_19_11 (o_100 W) (r_100_1 W) ?_
    refine Sx.callV0 dX11_shares_35 lkv_X11_142 (rcv_6 (o_103 W)) (by decide) (by decide) (Nat.le_of_ble_eq_true rfl) rfl rfl (c_pers (w_103r W) C.2.1 ?_)
    refine Sx.icmp_geV (t := 62) dX11_shares_38 (by decide) (vN (by omega)) (vN (by omega)) (fun c38 => ?_) (fun c38 => ?_)
    · have hj : j = V 2 35 := by omega
      subst hj
      have hpp := hH.2.2.2.2.1.2.1 p (by omega)
      have hmq : q * V 3 (6 + p) ≤ 999 * 9999 := Nat.mul_le_mul (by omega) hpp
      refine Sx.iload_n dX11_shares_62 rfl ?_
      refine Sx.if_gtV (t := 70) dX11_shares_63 (by decide) (vN (by omega)) (fun c63 => ?_) (fun c63 => ?_)
      · refine Sx.iload_n dX11_shares_70 rfl ?_
        refine Sx.aload_n dX11_shares_71 rfl ?_
        refine Sx.getfR dX11_shares_72 lkf_X11_89_11 (o_100 W) (r_100_11 W) ?_
        refine Sx.bipush (v := (nI 6)) dX11_shares_75 (by decide) ?_
        refine Sx.iload_n dX11_shares_77 rfl ?_
        refine Sx.iaddN dX11_shares_78 ?_
        refine Sx.callU1 dX11_shares_79 lku_X11_184 (rcv_8 (o_229 W)) (by decide) (by decide) (Nat.le_of_ble_eq_true rfl) rfl rfl (c_sg (w_229r W) C.2.2.1 (6 + p) rfl (by omega) (by omega) ?_)
        refine Sx.imulN dX11_shares_82 ?_
        refine Sx.iload_n dX11_shares_83 rfl ?_
        refine Sx.idivN dX11_shares_84 (by omega) (by omega) (by omega) ?_
        refine Sx.iret dX11_shares_85 rfl rfl ?_
        exact pNN (by rw [← hs, if_neg (by omega)]) h
      · refine Sx.iconst (v := (nI 0)) dX11_shares_66 (by decide) ?_
        refine Sx.goto (t := 85) dX11_shares_67 (by decide) ?_
        refine Sx.iret dX11_shares_85 rfl rfl ?_
        exact pNN (by rw [← hs, if_pos (by omega)]) h
    · refine Sx.iload_n dX11_shares_41 rfl ?_
      refine Sx.aload_n dX11_shares_42 rfl ?_
      refine Sx.getfR dX11_shares_43 lkf_X11_89_11 (o_100 W) (r_100_11 W) ?_
      refine Sx.bipush (v := (nI 6)) dX11_shares_46 (by decide) ?_
      refine Sx.iload dX11_shares_48 rfl ?_
      refine Sx.iaddN dX11_shares_50 ?_
      refine Sx.callU1 dX11_shares_51 lku_X11_184 (rcv_8 (o_229 W)) (by decide) (by decide) (Nat.le_of_ble_eq_true rfl) rfl rfl (c_sg (w_229r W) C.2.2.1 (6 + j) rfl (by omega) (by omega) ?_)
      refine Sx.iaddN dX11_shares_54 ?_
      refine Sx.istore_n (lv' := [(3, .int (nI (s + (V 3 (6 + j))))), (4, .int (nI j)), (0, .ref 100), (1, .int (nI p)), (2, .int (nI q))]) dX11_shares_55 (by decide) rfl ?_
      refine Sx.iinc (v := (nI (j + 1))) (lv' := [(4, .int (nI (j + 1))), (3, .int (nI (s + (V 3 (6 + j))))), (0, .ref 100), (1, .int (nI p)), (2, .int (nI q))]) dX11_shares_56 rfl (nI_add j 1) (by decide) rfl ?_
      refine Sx.goto (t := 29) dX11_shares_59 (by decide) ?_
      refine Sx.sub' [(4, .int (nI (j + 1))), (3, .int (nI (s + (V 3 (6 + j))))), (0, .ref 100), (1, .int (nI p)), (2, .int (nI q))] rfl ?_
      exact ih (j + 1) (by omega) (by omega) _ (by rw [smN, ← hs])
set_option maxRecDepth 20000 in
set_option maxHeartbeats 1000000 in
theorem d_shares {G : Gt} {l : Launch} {Z : Zt} {R : Rt} {I : It} {L : Lt} {post : Pt'} {V : Vt} {N : Nat} {x y : Int32} (W : WF Z R) (C : CI V R I L) (hG : GG N V) (hN : N < 2147483647) (h : CQ post Z R I L V (shaR V x y)) : Cx G l mX11_shares 3 0 0 [.ref 100, .int x, .int y] Z R I L post := by
  refine Cx.of (by decide +kernel) (by exact Nat.le_of_ble_eq_true rfl) ?_
  have hB := hG.1.bnd
  have hp6 := hG.1.p
  have hb := hG.1.b
  have h00 := hG.1.1.1
  refine Sx.aload_n dX11_shares_0 rfl ?_
  refine Sx.getfR dX11_shares_1 lkf_X11_19_11 (o_100 W) (r_100_1 W) ?_
  refine Sx.iload_n dX11_shares_4 rfl ?_
  refine Sx.callV1 dX11_shares_5 lkv_X11_189 (rcv_6 (o_103 W)) (by decide) (by decide) (Nat.le_of_ble_eq_true rfl) rfl rfl (d_isPerson W C.2.1 (by omega) ?_)
  refine Sx.if_eqD (t := 22) dX11_shares_8 (by decide) (fun c8 => ?_) (fun c8 => ?_)
  · refine Sx.iconst (v := (iI (-1))) dX11_shares_22 (by decide) ?_
    refine Sx.iret dX11_shares_23 rfl rfl ?_
    have hn : ¬ shaC V x y := fun z => by omega
    exact pXX (by unfold shaR; rw [if_neg hn]; rfl) (h I R L C (CF.rf R I L))
  · refine Sx.iload_n dX11_shares_11 rfl ?_
    refine Sx.if_ltV (t := 22) dX11_shares_12 (by decide) (vX y) (fun c12 => ?_) (fun c12 => ?_)
    · refine Sx.iconst (v := (iI (-1))) dX11_shares_22 (by decide) ?_
      refine Sx.iret dX11_shares_23 rfl rfl ?_
      have hn : ¬ shaC V x y := fun z => by omega
      exact pXX (by unfold shaR; rw [if_neg hn]; rfl) (h I R L C (CF.rf R I L))
    · refine Sx.iload_n dX11_shares_15 rfl ?_
      refine Sx.sipush (v := (nI 999)) dX11_shares_16 (by decide) ?_
      refine Sx.icmp_leV (t := 24) dX11_shares_19 (by decide) (vX y) (vN (by decide)) (fun c19 => ?_) (fun c19 => ?_)
      · have hH := hG.1.hv (by omega)
        have hc : shaC V x y := ⟨⟨by omega, by omega⟩, by omega, by omega⟩
        obtain ⟨p, rfl, hp⟩ := x_ex (x := x) (n := V 2 35) ⟨by omega, by omega⟩
        obtain ⟨q, rfl, hq⟩ := x_ex (x := y) (n := 1000) ⟨by omega, by omega⟩
        refine Sx.sub' [(0, .ref 100), (1, .int (nI p)), (2, .int (nI q))] rfl ?_
        refine Sx.iconst (v := (nI 0)) dX11_shares_24 (by decide) ?_
        refine Sx.istore_n (lv' := [(3, .int (nI 0)), (0, .ref 100), (1, .int (nI p)), (2, .int (nI q))]) dX11_shares_25 (by decide) rfl ?_
        refine Sx.iconst (v := (nI 0)) dX11_shares_26 (by decide) ?_
        refine Sx.istore (lv' := [(4, .int (nI 0)), (3, .int (nI 0)), (0, .ref 100), (1, .int (nI p)), (2, .int (nI q))]) dX11_shares_27 (by decide) rfl ?_
        refine Sx.sub' [(4, .int (nI 0)), (3, .int (nI 0)), (0, .ref 100), (1, .int (nI p)), (2, .int (nI q))] rfl ?_
        exact l_csha W C hH (by omega) (by omega) (pXX (by unfold shaR; rw [if_pos hc, xN_n (by omega), xN_n (by omega)]) (h I R L C (CF.rf R I L))) (V 2 35 + 1) 0 (by omega) (by omega) 0 rfl
      · refine Sx.iconst (v := (iI (-1))) dX11_shares_22 (by decide) ?_
        refine Sx.iret dX11_shares_23 rfl rfl ?_
        have hn : ¬ shaC V x y := fun z => by omega
        exact pXX (by unfold shaR; rw [if_neg hn]; rfl) (h I R L C (CF.rf R I L))
