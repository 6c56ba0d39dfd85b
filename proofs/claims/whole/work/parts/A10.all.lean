/-! the class: who is swayed, all -/
set_option maxRecDepth 20000 in
set_option maxHeartbeats 1000000 in
theorem l_csy {G : Gt} {l : Launch} {Z : Zt} {R : Rt} {I : It} {L : Lt} {post : Pt'} {V : Vt} {F : Nat → Nat} (W : WF Z R) (C : CI V R I L) (hH : HV V) (hs : rs (I 121) F) (hS : SB (V 2) F) (h : post (some (.int (nI (swN F (V 3) (V 2 35))))) Z R I L) :
    ∀ (r j : Nat), j ≤ V 2 35 → V 2 35 < j + r → ∀ bt, bt = swN F (V 3) j → Sx G l mX5_swayed 6 0 0 23 [(3, .int (nI j)), (2, .int (nI bt)), (0, .ref 119), (1, .ref 229)] [] Z R I L post := by
  obtain ⟨p1, p2, p3, p4, p5, p6, p7, p8, p9⟩ := id hH.2.2.2.1
  intro r
  induction r with
  | zero => intro j h1 h2; omega
  | succ r ih =>
    intro j h1 h2 bt hbt
    refine Sx.iload_n dX5_swayed_23 rfl ?_
    refine Sx.aload_n dX5_swayed_24 rfl ?_
    refine Sx.getfR dX5_swayed_25 lkf_X5_45_5 (o_119 W) (r_119_0 W) ?_
    refine Sx.callV0 dX5_swayed_28 lkv_X5_103 (rcv_6 (o_103 W)) (by decide) (by decide) (Nat.le_of_ble_eq_true rfl) rfl rfl (c_pers (w_103r W) C.2.1 ?_)
    refine Sx.icmp_geV (t := 70) dX5_swayed_31 (by decide) (vN (by omega)) (vN (by omega)) (fun c31 => ?_) (fun c31 => ?_)
    · refine Sx.iload_n dX5_swayed_70 rfl ?_
      refine Sx.iret dX5_swayed_71 rfl rfl ?_
      have hj : j = V 2 35 := by omega
      subst hj
      subst hbt
      exact h
    · have a1 := hS.1 j (by omega)
      have a2 := hH.2.2.2.2.1.1 j (by omega)
      refine Sx.iload_n dX5_swayed_34 rfl ?_
      refine Sx.aload_n dX5_swayed_35 rfl ?_
      refine Sx.getfR dX5_swayed_36 lkf_X5_12_5 (o_119 W) (r_119_2 W) ?_
      refine Sx.iconst (v := (nI 0)) dX5_swayed_39 (by decide) ?_
      refine Sx.iload_n dX5_swayed_40 rfl ?_
      refine Sx.iaddN dX5_swayed_41 ?_
      refine Sx.callU1 dX5_swayed_42 lku_X5_78 (rcv_8 (o_120 W)) (by decide) (by decide) (Nat.le_of_ble_eq_true rfl) rfl rfl (c_sg (w_120r W) hs j (by rw [Nat.zero_add]) (by omega) (by omega) ?_)
      refine Sx.aload_n dX5_swayed_45 rfl ?_
      refine Sx.iconst (v := (nI 0)) dX5_swayed_46 (by decide) ?_
      refine Sx.iload_n dX5_swayed_47 rfl ?_
      refine Sx.iaddN dX5_swayed_48 ?_
      refine Sx.callU1 dX5_swayed_49 lku_X5_78 (rcv_8 (o_229 W)) (by decide) (by decide) (Nat.le_of_ble_eq_true rfl) rfl rfl (c_sg (w_229r W) C.2.2.1 j (by rw [Nat.zero_add]) (by omega) (by omega) ?_)
      refine Sx.icmp_eqV (t := 61) dX5_swayed_52 (by decide) (vN (by omega)) (vN (by omega)) (fun c52 => ?_) (fun c52 => ?_)
      · refine Sx.iconst (v := (nI 0)) dX5_swayed_61 (by decide) ?_
        refine Sx.iorN dX5_swayed_62 ?_
        refine Sx.istore_n (lv' := [(2, .int (nI (bt ||| 0))), (3, .int (nI j)), (0, .ref 119), (1, .ref 229)]) dX5_swayed_63 (by decide) rfl ?_
        refine Sx.iinc (v := (nI (j + 1))) (lv' := [(3, .int (nI (j + 1))), (2, .int (nI (bt ||| 0))), (0, .ref 119), (1, .ref 229)]) dX5_swayed_64 rfl (nI_add j 1) (by decide) rfl ?_
        refine Sx.goto (t := 23) dX5_swayed_67 (by decide) ?_
        refine Sx.sub' [(3, .int (nI (j + 1))), (2, .int (nI (bt ||| 0))), (0, .ref 119), (1, .ref 229)] rfl ?_
        exact ih (j + 1) (by omega) (by omega) _ (by rw [swN, ← hbt, if_pos (by omega)])
      · refine Sx.iconst (v := (nI 1)) dX5_swayed_55 (by decide) ?_
        refine Sx.iload_n dX5_swayed_56 rfl ?_
        refine Sx.ishl1 dX5_swayed_57 (by omega) ?_
        refine Sx.goto (t := 62) dX5_swayed_58 (by decide) ?_
        refine Sx.iorN dX5_swayed_62 ?_
        refine Sx.istore_n (lv' := [(2, .int (nI (bt ||| (2 ^ j)))), (3, .int (nI j)), (0, .ref 119), (1, .ref 229)]) dX5_swayed_63 (by decide) rfl ?_
        refine Sx.iinc (v := (nI (j + 1))) (lv' := [(3, .int (nI (j + 1))), (2, .int (nI (bt ||| (2 ^ j)))), (0, .ref 119), (1, .ref 229)]) dX5_swayed_64 rfl (nI_add j 1) (by decide) rfl ?_
        refine Sx.goto (t := 23) dX5_swayed_67 (by decide) ?_
        refine Sx.sub' [(3, .int (nI (j + 1))), (2, .int (nI (bt ||| (2 ^ j)))), (0, .ref 119), (1, .ref 229)] rfl ?_
        exact ih (j + 1) (by omega) (by omega) _ (by rw [swN, ← hbt, if_neg (by omega)])
set_option maxRecDepth 20000 in
set_option maxHeartbeats 1000000 in
theorem d_swayed {G : Gt} {l : Launch} {Z : Zt} {R : Rt} {I : It} {L : Lt} {post : Pt'} {V : Vt} (W : WF Z R) (C : CI V R I L) (hH : HV V) (hb : V 0 1 ≤ 4 ∧ V 0 3 ≤ 4) (h : ∀ I', CI V R I' L → OF I I' → post (some (.int (nI (swN (skN (V 2) (wlV V) (V 3)) (V 3) (V 2 35))))) Z R I' L) : Cx G l mX5_swayed 6 0 0 [.ref 119, .ref 229] Z R I L post := by
  refine Cx.of (by decide +kernel) (by exact Nat.le_of_ble_eq_true rfl) ?_
  refine Sx.aload_n dX5_swayed_0 rfl ?_
  refine Sx.getfR dX5_swayed_1 lkf_X5_12_5 (o_119 W) (r_119_2 W) ?_
  refine Sx.aload_n dX5_swayed_4 rfl ?_
  refine Sx.callU1 dX5_swayed_5 lku_X5_54 (rcv_8 (o_120 W)) (by decide) (by decide) (Nat.le_of_ble_eq_true rfl) rfl rfl (c_X7_copy (w_120r W) (by unfold rowC; decide) (by decide) (w_229r W) (by unfold rowC; decide) (fun I1 e1 o1 => ?_))
  have ho1 : OF I I1 := fun q hq => o1 q (by omega)
  have hs1 : rs (I1 121) (V 3) := by rw [e1]; exact rs_c C.2.2.1
  have C1 := ho1.ci C hb
  refine Sx.aload_n dX5_swayed_8 rfl ?_
  refine Sx.getfR dX5_swayed_9 lkf_X5_49_5 (o_119 W) (r_119_1 W) ?_
  refine Sx.aload_n dX5_swayed_12 rfl ?_
  refine Sx.getfR dX5_swayed_13 lkf_X5_12_5 (o_119 W) (r_119_2 W) ?_
  refine Sx.callV1 dX5_swayed_16 lkv_X5_99 (rcv_1 (o_114 W)) (by decide) (by decide) (Nat.le_of_ble_eq_true rfl) rfl rfl (c_skip W C1.2.1 hH.2.2.2.1 (w_120r W) hs1 (by decide) (C1.lw ⟨hH.1.1, hH.1.2.1⟩) hH.2.2.2.2.1 (by have := hH.2.2.2.2.2.1; omega) (fun I2 r2 o2 => ?_))
  have ho2 : OF I I2 := fun q hq => by rw [o2 q (by omega) (by omega) (by omega), o1 q (by omega)]
  refine Sx.iconst (v := (nI 0)) dX5_swayed_19 (by decide) ?_
  refine Sx.istore_n (lv' := [(2, .int (nI 0)), (0, .ref 119), (1, .ref 229)]) dX5_swayed_20 (by decide) rfl ?_
  refine Sx.iconst (v := (nI 0)) dX5_swayed_21 (by decide) ?_
  refine Sx.istore_n (lv' := [(3, .int (nI 0)), (2, .int (nI 0)), (0, .ref 119), (1, .ref 229)]) dX5_swayed_22 (by decide) rfl ?_
  refine Sx.sub' [(3, .int (nI 0)), (2, .int (nI 0)), (0, .ref 119), (1, .ref 229)] rfl ?_
  exact l_csy W (ho2.ci C hb) hH r2 (skN_SB hH.2.2.2.1 hH.2.2.2.2.1 (by have := hH.2.2.2.2.2.1; omega)) (h I2 (ho2.ci C hb) ho2) (V 2 35 + 1) 0 (by omega) (by omega) 0 rfl
theorem swN_cg {G G' F : Nat → Nat} : ∀ n, (∀ j, j < n → G j = G' j) → swN G F n = swN G' F n
  | 0 => fun _ => rfl
  | n + 1 => fun h => by rw [swN, swN, swN_cg n (fun s hs => h s (by omega)), h n (by omega)]
set_option maxRecDepth 20000 in
set_option maxHeartbeats 1000000 in
theorem d_daysLeft {G : Gt} {l : Launch} {Z : Zt} {R : Rt} {I : It} {L : Lt} {post : Pt'} {V : Vt} {N : Nat} (W : WF Z R) (C : CI V R I L) (hG : GG N V) (hN : N < 2147483647) (hH : HV V) (h : post (some (.int (iI ((V 2 0 : Int) - (V 3 145 : Int))))) Z R I L) : Cx G l mX11_daysLeft 2 0 0 [.ref 100] Z R I L post := by
  refine Cx.of (by decide +kernel) (by exact Nat.le_of_ble_eq_true rfl) ?_
  have hB := hG.1.bnd
  have hp6 := hG.1.p
  have hb := hG.1.b
  have h00 := hG.1.1.1
  have p0 := hH.2.2.2.1.2.1
  have hd9 := hH.2.2.2.2.1.2.2.2.2.2.2.2.2.2.2.2.2.2.1
  refine Sx.aload_n dX11_daysLeft_0 rfl ?_
  refine Sx.getfR dX11_daysLeft_1 lkf_X11_19_11 (o_100 W) (r_100_1 W) ?_
  refine Sx.iconst (v := (nI 0)) dX11_daysLeft_4 (by decide) ?_
  refine Sx.callU1 dX11_daysLeft_5 lku_X11_181 (rcv_6 (o_103 W)) (by decide) (by decide) (Nat.le_of_ble_eq_true rfl) rfl rfl (c_rg (w_103r W) (by unfold rowC; decide) (by decide) C.2.1 (0) rfl (by omega) ?_)
  refine Sx.aload_n dX11_daysLeft_8 rfl ?_
  refine Sx.getfR dX11_daysLeft_9 lkf_X11_89_11 (o_100 W) (r_100_11 W) ?_
  refine Sx.sipush (v := (nI 145)) dX11_daysLeft_12 (by decide) ?_
  refine Sx.callU1 dX11_daysLeft_15 lku_X11_184 (rcv_8 (o_229 W)) (by decide) (by decide) (Nat.le_of_ble_eq_true rfl) rfl rfl (c_sg (w_229r W) C.2.2.1 (145) rfl (by omega) (by omega) ?_)
  refine Sx.isubV dX11_daysLeft_18 (vN (by omega)) (vN (by omega)) ?_
  refine Sx.iret dX11_daysLeft_19 rfl rfl ?_
  exact h
set_option maxRecDepth 20000 in
set_option maxHeartbeats 1000000 in
theorem d_all {G : Gt} {l : Launch} {Z : Zt} {R : Rt} {I : It} {L : Lt} {post : Pt'} {V : Vt} {N : Nat} {x : Int32} (W : WF Z R) (C : CI V R I L) (hG : GG N V) (hN : N < 2147483647) (h : CQ post Z R I L V (allR V x)) : Cx G l mX11_all 7 0 0 [.ref 100, .int x] Z R I L post := by
  refine Cx.of (by decide +kernel) (by exact Nat.le_of_ble_eq_true rfl) ?_
  have hB := hG.1.bnd
  have hp6 := hG.1.p
  have hb := hG.1.b
  have h00 := hG.1.1.1
  refine Sx.aload_n dX11_all_0 rfl ?_
  refine Sx.callV0 dX11_all_1 lkv_X11_223 (rcv_11 (o_100 W)) (by decide) (by decide) (Nat.le_of_ble_eq_true rfl) rfl rfl (d_isPort W C (by omega) ?_)
  refine Sx.if_neD (t := 10) dX11_all_4 (by decide) (fun c4 => ?_) (fun c4 => ?_)
  · have hx := x_rg x
    have hH := hG.1.hv (by omega)
    obtain ⟨p1, p2, p3, p4, p5, p6, p7, p8, p9⟩ := id hH.2.2.2.1
    have hd9 := hH.2.2.2.2.1.2.2.2.2.2.2.2.2.2.2.2.2.2.1
    refine Sx.iload_n dX11_all_10 rfl ?_
    have vw11 : VZ x x.toInt := (vX x)
    by_cases k11_0 : x.toInt = 0
    · refine Sx.tableIn (t := 60) dX11_all_11 (by rw [show _ = _ from vw11, k11_0]; decide) (by rw [show _ = _ from vw11, k11_0]; decide) (by rw [show _ = _ from vw11, k11_0]; rfl) (by decide) ?_
      refine Sx.aload_n dX11_all_60 rfl ?_
      refine Sx.getfR dX11_all_61 lkf_X11_89_11 (o_100 W) (r_100_11 W) ?_
      refine Sx.bipush (v := (nI 6)) dX11_all_64 (by decide) ?_
      refine Sx.aload_n dX11_all_66 rfl ?_
      refine Sx.getfR dX11_all_67 lkf_X11_19_11 (o_100 W) (r_100_1 W) ?_
      refine Sx.callV0 dX11_all_70 lkv_X11_142 (rcv_6 (o_103 W)) (by decide) (by decide) (Nat.le_of_ble_eq_true rfl) rfl rfl (c_pers (w_103r W) C.2.1 ?_)
      refine Sx.callU2 dX11_all_73 lku_X11_349 (rcv_8 (o_229 W)) (by decide) (by decide) (Nat.le_of_ble_eq_true rfl) rfl rfl (c_pom (w_229r W) (by unfold rowC; decide) (by decide) (p := 6) (q := V 2 35) (by omega) (by omega) ?_)
      refine Sx.iret dX11_all_76 rfl rfl ?_
      have hc : allC V x := ⟨by omega, by omega, by omega⟩
      have ek : allR V x = allN V 0 := by unfold allR; rw [if_pos hc, xN_k (k := 0) k11_0]
      exact pXX (ek.trans (show nI (amxN (fun p => V 3 (6 + p)) (V 2 35)) = _ from (congrArg nI (amxN_of _ (fun i hi => ⟨(C.2.2.1 (6 + i) (by omega)).trans (sv_n (by omega)), by have := hH.2.2.2.2.1.2.1 i (by omega); omega⟩))).symm)) (h I R L C (CF.rf R I L))
    by_cases k11_1 : x.toInt = 1
    · refine Sx.tableIn (t := 77) dX11_all_11 (by rw [show _ = _ from vw11, k11_1]; decide) (by rw [show _ = _ from vw11, k11_1]; decide) (by rw [show _ = _ from vw11, k11_1]; rfl) (by decide) ?_
      refine Sx.aload_n dX11_all_77 rfl ?_
      refine Sx.getfR dX11_all_78 lkf_X11_19_11 (o_100 W) (r_100_1 W) ?_
      refine Sx.bipush (v := (nI 21)) dX11_all_81 (by decide) ?_
      refine Sx.aload_n dX11_all_83 rfl ?_
      refine Sx.getfR dX11_all_84 lkf_X11_19_11 (o_100 W) (r_100_1 W) ?_
      refine Sx.callV0 dX11_all_87 lkv_X11_142 (rcv_6 (o_103 W)) (by decide) (by decide) (Nat.le_of_ble_eq_true rfl) rfl rfl (c_pers (w_103r W) C.2.1 ?_)
      refine Sx.callU2 dX11_all_90 lku_X11_352 (rcv_6 (o_103 W)) (by decide) (by decide) (Nat.le_of_ble_eq_true rfl) rfl rfl (c_pom (w_103r W) (by unfold rowC; decide) (by decide) (p := 21) (q := V 2 35) (by omega) (by omega) ?_)
      refine Sx.iret dX11_all_93 rfl rfl ?_
      have hc : allC V x := ⟨by omega, by omega, by omega⟩
      have ek : allR V x = allN V 1 := by unfold allR; rw [if_pos hc, xN_k (k := 1) k11_1]
      exact pXX (ek.trans (show nI (amxN (fun p => V 2 (21 + p)) (V 2 35)) = _ from (congrArg nI (amxN_of _ (fun i hi => ⟨C.2.1 (21 + i) (by omega), by have := p9 i (by omega); omega⟩))).symm)) (h I R L C (CF.rf R I L))
    by_cases k11_2 : x.toInt = 2
    · refine Sx.tableIn (t := 94) dX11_all_11 (by rw [show _ = _ from vw11, k11_2]; decide) (by rw [show _ = _ from vw11, k11_2]; decide) (by rw [show _ = _ from vw11, k11_2]; rfl) (by decide) ?_
      refine Sx.aload_n dX11_all_94 rfl ?_
      refine Sx.getfR dX11_all_95 lkf_X11_19_11 (o_100 W) (r_100_1 W) ?_
      refine Sx.iconst (v := (nI 3)) dX11_all_98 (by decide) ?_
      refine Sx.aload_n dX11_all_99 rfl ?_
      refine Sx.getfR dX11_all_100 lkf_X11_19_11 (o_100 W) (r_100_1 W) ?_
      refine Sx.callV0 dX11_all_103 lkv_X11_353 (rcv_6 (o_103 W)) (by decide) (by decide) (Nat.le_of_ble_eq_true rfl) rfl rfl (c_kinds (w_103r W) C.2.1 ?_)
      refine Sx.callU2 dX11_all_106 lku_X11_352 (rcv_6 (o_103 W)) (by decide) (by decide) (Nat.le_of_ble_eq_true rfl) rfl rfl (c_pom (w_103r W) (by unfold rowC; decide) (by decide) (p := 3) (q := V 2 34) (by omega) (by omega) ?_)
      refine Sx.iret dX11_all_109 rfl rfl ?_
      have hc : allC V x := ⟨by omega, by omega, by omega⟩
      have ek : allR V x = allN V 2 := by unfold allR; rw [if_pos hc, xN_k (k := 2) k11_2]
      exact pXX (ek.trans (show nI (amxN (fun p => V 2 (3 + p)) (V 2 34)) = _ from (congrArg nI (amxN_of _ (fun i hi => ⟨C.2.1 (3 + i) (by omega), by have := p9 i (by omega); omega⟩))).symm)) (h I R L C (CF.rf R I L))
    by_cases k11_3 : x.toInt = 3
    · refine Sx.tableIn (t := 110) dX11_all_11 (by rw [show _ = _ from vw11, k11_3]; decide) (by rw [show _ = _ from vw11, k11_3]; decide) (by rw [show _ = _ from vw11, k11_3]; rfl) (by decide) ?_
      refine Sx.aload_n dX11_all_110 rfl ?_
      refine Sx.getfR dX11_all_111 lkf_X11_89_11 (o_100 W) (r_100_11 W) ?_
      refine Sx.aload_n dX11_all_114 rfl ?_
      refine Sx.getfR dX11_all_115 lkf_X11_19_11 (o_100 W) (r_100_1 W) ?_
      refine Sx.callV0 dX11_all_118 lkv_X11_142 (rcv_6 (o_103 W)) (by decide) (by decide) (Nat.le_of_ble_eq_true rfl) rfl rfl (c_pers (w_103r W) C.2.1 ?_)
      refine Sx.callV1 dX11_all_121 lkv_X11_356 (rcv_8 (o_229 W)) (by decide) (by decide) (Nat.le_of_ble_eq_true rfl) rfl rfl (c_X8_upBits (w_229r W) C.2.2.1 hH.2.2.2.2.1.2.2.2.2.2.2.1 (by omega) ?_)
      refine Sx.iret dX11_all_124 rfl rfl ?_
      have hc : allC V x := ⟨by omega, by omega, by omega⟩
      have ek : allR V x = allN V 3 := by unfold allR; rw [if_pos hc, xN_k (k := 3) k11_3]
      exact pXX ek (h I R L C (CF.rf R I L))
    by_cases k11_4 : x.toInt = 4
    · refine Sx.tableIn (t := 125) dX11_all_11 (by rw [show _ = _ from vw11, k11_4]; decide) (by rw [show _ = _ from vw11, k11_4]; decide) (by rw [show _ = _ from vw11, k11_4]; rfl) (by decide) ?_
      refine Sx.aload_n dX11_all_125 rfl ?_
      refine Sx.getfR dX11_all_126 lkf_X11_59_11 (o_100 W) (r_100_7 W) ?_
      refine Sx.aload_n dX11_all_129 rfl ?_
      refine Sx.getfR dX11_all_130 lkf_X11_89_11 (o_100 W) (r_100_11 W) ?_
      refine Sx.callV1 dX11_all_133 lkv_X11_359 (rcv_1 (o_114 W)) (by decide) (by decide) (Nat.le_of_ble_eq_true rfl) rfl rfl (c_idle W C.2.1 hH.2.2.2.1 (w_229r W) C.2.2.1 (by decide) (C.lw ⟨hH.1.1, hH.1.2.1⟩) hH.2.2.2.2.1 (fun I1 o1 => ?_))
      have ho1 : OF I I1 := fun q hq => o1 q (by omega) (by omega)
      refine Sx.iret dX11_all_136 rfl rfl ?_
      have hc : allC V x := ⟨by omega, by omega, by omega⟩
      have ek : allR V x = allN V 4 := by unfold allR; rw [if_pos hc, xN_k (k := 4) k11_4]
      exact pXX ek (h I1 R L (ho1.ci C hb) ho1.cf)
    by_cases k11_5 : x.toInt = 5
    · refine Sx.tableIn (t := 137) dX11_all_11 (by rw [show _ = _ from vw11, k11_5]; decide) (by rw [show _ = _ from vw11, k11_5]; decide) (by rw [show _ = _ from vw11, k11_5]; rfl) (by decide) ?_
      refine Sx.aload_n dX11_all_137 rfl ?_
      refine Sx.getfR dX11_all_138 lkf_X11_89_11 (o_100 W) (r_100_11 W) ?_
      refine Sx.callV0 dX11_all_141 lkv_X11_362 (rcv_8 (o_229 W)) (by decide) (by decide) (Nat.le_of_ble_eq_true rfl) rfl rfl (c_X8_dark (w_229r W) C.2.2.1 (fun j hj => by have := hH.2.2.2.2.1.lt j hj; have := sbB_le (V 2) (j := j) (by omega) (by omega); omega) (by omega) ?_)
      refine Sx.iret dX11_all_144 rfl rfl ?_
      have hc : allC V x := ⟨by omega, by omega, by omega⟩
      have ek : allR V x = allN V 5 := by unfold allR; rw [if_pos hc, xN_k (k := 5) k11_5]
      exact pXX (ek.trans (show iI ((dkN (V 3) (V 3 145) : Int) - 1) = _ from (by rw [nI_iI, show (1 : Int32) = iI 1 by decide, iI_sub]))) (h I R L C (CF.rf R I L))
    by_cases k11_6 : x.toInt = 6
    · refine Sx.tableIn (t := 145) dX11_all_11 (by rw [show _ = _ from vw11, k11_6]; decide) (by rw [show _ = _ from vw11, k11_6]; decide) (by rw [show _ = _ from vw11, k11_6]; rfl) (by decide) ?_
      refine Sx.aload_n dX11_all_145 rfl ?_
      refine Sx.callV0 dX11_all_146 lkv_X11_339 (rcv_11 (o_100 W)) (by decide) (by decide) (Nat.le_of_ble_eq_true rfl) rfl rfl (d_daysLeft W C hG hN hH ?_)
      refine Sx.iret dX11_all_149 rfl rfl ?_
      have hc : allC V x := ⟨by omega, by omega, by omega⟩
      have ek : allR V x = allN V 6 := by unfold allR; rw [if_pos hc, xN_k (k := 6) k11_6]
      exact pXX (ek.trans (show nI (V 2 0 - V 3 145) = _ from (by rw [nI_iI]; congr 1; omega))) (h I R L C (CF.rf R I L))
    by_cases k11_7 : x.toInt = 7
    · refine Sx.tableIn (t := 150) dX11_all_11 (by rw [show _ = _ from vw11, k11_7]; decide) (by rw [show _ = _ from vw11, k11_7]; decide) (by rw [show _ = _ from vw11, k11_7]; rfl) (by decide) ?_
      refine Sx.aload_n dX11_all_150 rfl ?_
      refine Sx.getfR dX11_all_151 lkf_X11_68_11 (o_100 W) (r_100_8 W) ?_
      refine Sx.aload_n dX11_all_154 rfl ?_
      refine Sx.getfR dX11_all_155 lkf_X11_89_11 (o_100 W) (r_100_11 W) ?_
      refine Sx.callV1 dX11_all_158 lkv_X11_365 (rcv_5 (o_119 W)) (by decide) (by decide) (Nat.le_of_ble_eq_true rfl) rfl rfl (d_swayed W C hH hb (fun I1 C1 ho1 => ?_))
      refine Sx.iret dX11_all_161 rfl rfl ?_
      have hc : allC V x := ⟨by omega, by omega, by omega⟩
      have ek : allR V x = allN V 7 := by unfold allR; rw [if_pos hc, xN_k (k := 7) k11_7]
      exact pXX (ek.trans (show nI (swN (goY (V 2) (wlV V) (V 3)) (V 3) (V 2 35)) = _ from (congrArg nI (swN_cg _ (fun j hj => (goY_sk hH.2.2.2.1 hH.2.2.2.2.1 j (by unfold kcC; omega)).symm))).symm)) (h I1 R L (ho1.ci C hb) ho1.cf)
    by_cases k11_8 : x.toInt = 8
    · refine Sx.tableIn (t := 162) dX11_all_11 (by rw [show _ = _ from vw11, k11_8]; decide) (by rw [show _ = _ from vw11, k11_8]; decide) (by rw [show _ = _ from vw11, k11_8]; rfl) (by decide) ?_
      refine Sx.aload_n dX11_all_162 rfl ?_
      refine Sx.getfR dX11_all_163 lkf_X11_89_11 (o_100 W) (r_100_11 W) ?_
      refine Sx.sipush (v := (nI 143)) dX11_all_166 (by decide) ?_
      refine Sx.callU1 dX11_all_169 lku_X11_184 (rcv_8 (o_229 W)) (by decide) (by decide) (Nat.le_of_ble_eq_true rfl) rfl rfl (d_gv (w_229r W) C.2.2.1 ?_)
      refine Sx.iret dX11_all_172 rfl rfl ?_
      have hc : allC V x := ⟨by omega, by omega, by omega⟩
      have ek : allR V x = allN V 8 := by unfold allR; rw [if_pos hc, xN_k (k := 8) k11_8]
      exact pXX ek (h I R L C (CF.rf R I L))
    refine Sx.tableOut (t := 173) dX11_all_11 (by rw [show _ = _ from vw11]; omega) (by decide) ?_
    refine Sx.ldc dX11_all_173 lkk_X11_180 ?_
    refine Sx.top (show _ = (iI (-1000000)) by decide) ?_
    refine Sx.iret dX11_all_175 rfl rfl ?_
    have hn : ¬ allC V x := fun z => by omega
    exact pXX (by unfold allR; rw [if_neg hn]) (h I R L C (CF.rf R I L))
  · refine Sx.ldc dX11_all_7 lkk_X11_180 ?_
    refine Sx.top (show _ = (iI (-1000000)) by decide) ?_
    refine Sx.iret dX11_all_9 rfl rfl ?_
    have hn : ¬ allC V x := fun z => by omega
    exact pXX (by unfold allR; rw [if_neg hn]) (h I R L C (CF.rf R I L))
