/-! the class: who is swayed, all -/
set_option maxRecDepth 20000 in
set_option maxHeartbeats 1000000 in
theorem l_csy {G : Gt} {l : Launch} {Z : Zt} {R : Rt} {I : It} {L : Lt} {post : Pt'} {V : Vt} {F : Nat → Nat} (W : WF Z R) (C : CI V R I L) (hH : HV V) (hs : rs (I 121) F) (hS : SB (V 2) F) (h : post (some (.int (nI (swN F (V 3) (V 2 35))))) Z R I L) :
    ∀ (r j : Nat), j ≤ V 2 35 → V 2 35 < j + r → ∀ bt, bt = swN F (V 3) j → Sx G l mX5_swayed 6 0 0 23 [(3, .int (nI j)), (2, .int (nI bt)), (0, .ref 119), (1, .ref 229)] [] Z R I L post := by
  obtain ⟨p1, p2, p3, p4, p5, p6, p7, p8, p9⟩ := id hH.2.2.2.1
  intro r
  induction r with
  | zero => intro j h1 h2; omega
  | succ r ih =>
    intro j h1 h2 bt hbt
    refine Sx.iload_n dX5_swayed_23 rfl ?_
    refine Sx.aload_n dX5_swayed_24 rfl ?_
    refine Sx.getfR dX5_swayed_25 lkf_X5_45_5 (o_119 W) (r_119_0 W) ?_
    refine Sx.callV0 dX5_swayed_28 lkv_X5_103 (rcv_6 (o_103 W)) (by decide) (by decide) (Nat.le_of_ble_eq_true rfl) rfl rfl (c_pers (w_103r W) C.2.1 ?_)
    refine Sx.icmp_geV (t := 70) dX5_swayed_31 (by decide) (vN (by omega)) (vN (by omega)) (fun c31 => ?_) (fun c31 => ?_)
    · refine Sx.iload_n dX5_swayed_70 rfl ?_
      refine Sx.iret dX5_swayed_71 rfl rfl ?_
      have hj : j = V 2 35 := by omega
      subst hj
      subst hbt
      exact h
    · have a1 := hS.1 j (by omega)
      have a2 := hH.2.2.2.2.1.1 j (by omega)
      refine Sx.iload_n dX5_swayed_34 rfl ?_
      refine Sx.aload_n dX5_swayed_35 rfl ?_
      refine Sx.getfR dX5_swayed_36 lkf_X5_12_5 (o_119 W) (r_119_2 W) ?_
      refine Sx.iconst (v := (nI 0)) dX5_swayed_39 (by decide) ?_
      refine Sx.iload_n dX5_swayed_40 rfl ?_
      refine Sx.iaddN dX5_swayed_41 ?_
      refine Sx.callU1 dX5_swayed_42 lku_X5_78 (rcv_8 (o_120 W)) (by decide) (by decide) (Nat.le_of_ble_eq_true rfl) rfl rfl (c_sg (w_120r W) hs j (by rw [Nat.zero_add]) (by omega) (by omega) ?_)
      refine Sx.aload_n dX5_swayed_45 rfl ?_
      refine Sx.iconst (v := (nI 0)) dX5_swayed_46 (by decide) ?_
      refine Sx.iload_n dX5_swayed_47 rfl ?_
      refine Sx.iaddN dX5_swayed_48 ?_
      refine Sx.callU1 dX5_swayed_49 lku_X5_78 (rcv_8 (o_229 W)) (by decide) (by decide) (Nat.le_of_ble_eq_true rfl) rfl rfl (c_sg (w_229r W) C.2.2.1 j (by rw [Nat.zero_add]) (by omega) (by omega) ?_)
      refine Sx.icmp_eqV (t := 61) dX5_swayed_52 (by decide) (vN (by omega)) (vN (by omega)) (fun c52 => ?_) (fun c52 => ?_)
      · refine Sx.iconst (v := (nI 0)) dX5_swayed_61 (by decide) ?_
        refine Sx.iorN dX5_swayed_62 ?_
        refine Sx.istore_n (lv' := [(2, .int (nI (bt ||| 0))), (3, .int (nI j)), (0, .ref 119), (1, .ref 229)]) dX5_swayed_63 (by decide) rfl ?_
        refine Sx.iinc (v := (nI (j + 1))) (lv' := [(3, .int (nI (j + 1))), (2, .int (nI (bt ||| 0))), (0, .ref 119), (1, .ref 229)]) dX5_swayed_64 rfl (nI_add j 1) (by decide) rfl ?_
        refine Sx.goto (t := 23) dX5_swayed_67 (by decide) ?_
        refine Sx.sub' [(3, .int (nI (j + 1))), (2, .int (nI (bt ||| 0))), (0, .ref 119), (1, .ref 229)] rfl ?_
        exact ih (j + 1) (by omega) (by omega) _ (by rw [swN, ← hbt, if_pos (by omega)])
      · refine Sx.iconst (v := (nI 1)) dX5_swayed_55 (by decide) ?_
        refine Sx.iload_n dX5_swayed_56 rfl ?_
        refine Sx.ishl1 dX5_swayed_57 (by omega) ?_
        refine Sx.goto (t := 62) dX5_swayed_58 (by decide) ?_
        refine Sx.iorN dX5_swayed_62 ?_
        refine Sx.istore_n (lv' := [(2, .int (nI (bt ||| (2 ^ j)))), (3, .int (nI j)), (0, .ref 119), (1, .ref 229)]) dX5_swayed_63 (by decide) rfl ?_
        refine Sx.iinc (v := (nI (j + 1))) (lv' := [(3, .int (nI (j + 1))), (2, .int (nI (bt ||| (2 ^ j)))), (0, .ref 119), (1, .ref 229)]) dX5_swayed_64 rfl (nI_add j 1) (by decide) rfl ?_
        refine Sx.goto (t := 23) dX5_swayed_67 (by decide) ?_
        refine Sx.sub' [(3, .int (nI (j + 1))), (2, .int (nI (bt ||| (2 ^ j)))), (0, .ref 119), (1, .ref 229)] rfl ?_
        exact ih (j + 1) (by omega) (by omega) _ (by rw [swN, ← hbt, if_neg (by omega)])
set_option maxRecDepth 20000 in
set_option maxHeartbeats 1000000 in
theorem d_swayed {G : Gt} {l : Launch} {Z : Zt} {R : Rt} {I : It} {L : Lt} {post : Pt'} {V : Vt} (W : WF Z R) (C : CI V R I L) (hH : HV V) (hb : V 0 1 ≤ 4 ∧ V 0 3 ≤ 4) (h : ∀ I', CI V R I' L → OF I I' → post (some (.int (nI (swN (skN (V 2) (wlV V) (V 3)) (V 3) (V 2 35))))) Z R I' L) : Cx G l mX5_swayed 6 0 0 [.ref 119, .ref 229] Z R I L post := by
  refine Cx.of (by decide +kernel) (by exact Nat.le_of_ble_eq_true rfl) ?_
  refine Sx.aload_n dX5_swayed_0 rfl ?_
  refine Sx.getfR dX5_swayed_1 lkf_X5_12_5 (o_119 W) (r_119_2 W) ?_
  refine Sx.aload_n dX5_swayed_4 rfl ?_
  refine Sx.callU1 dX5_swayed_5 lku_X5_54 (rcv_8 (o_120 W)) (by decide) (by decide) (Nat.le_of_ble_eq_true rfl) rfl rfl (c_X7_copy (w_120r W) (by unfold rowC; decide) (by decide) (w_229r W) (by unfold rowC; decide) (fun I1 e1 o1 => ?_))
  have ho1 : OF I I1 := fun q hq => o1 q (by omega)
  have hs1 : rs (I1 121) (V 3) := by rw [e1]; exact rs_c C.2.2.1
  have C1 := ho1.ci C hb
  refine Sx.aload_n dX5_swayed_8 rfl ?_
  refine Sx.getfR dX5_swayed_9 lkf_X5_49_5 (o_119 W) (r_119_1 W) ?_
  refine Sx.aload_n dX5_swayed_12 rfl ?_
  refine Sx.getfR dX5_swayed_13 lkf_X5_12_5 (o_119 W) (r_119_2 W) ?_
  refine Sx.callV1 dX5_swayed_16 lkv_X5_99 (rcv_1 (o_114 W)) (by decide) (by decide) (Nat.le_of_ble_eq_true rfl) rfl rfl (c_skip W C1.2.1 hH.2.2.2.1 (w_120r W) hs1 (by decide) (C1.lw ⟨hH.1.1, hH.1.2.1⟩) hH.2.2.2.2.1 (by have := hH.2.2.2.2.2.1; omega) (fun I2 r2 o2 => ?_))
  have ho2 : OF I I2 := fun q hq => by rw [o2 q (by omega) (by omega) (by omega), o1 q (by omega)]
  refine Sx.iconst (v := (nI 0)) dX5_swayed_19 (by decide) ?_
  refine Sx.istore_n (lv' := [(2, .int (nI 0)), (0, .ref 119), (1, .ref 229)]) dX5_swayed_20 (by decide) rfl ?_
  refine Sx.iconst (v := (nI 0)) dX5_swayed_21 (by decide) ?_
  refine Sx.istore_n (lv' := [(3, .int (nI 0)), (2, .int (nI 0)), (0, .ref 119), (1, .ref 229)]) dX5_swayed_22 (by decide) rfl ?_
  refine Sx.sub' [(3, .int (nI 0)), (2, .int (nI 0)), (0, .ref 119), (1, .ref 229)] rfl ?_
  exact l_csy W (ho2.ci C hb) hH r2 (skN_SB hH.2.2.2.1 hH.2.2.2.2.1 (by have := hH.2.2.2.2.2.1; omega)) (h I2 (ho2.ci C hb) ho2) (V 2 35 + 1) 0 (by omega) (by omega) 0 rfl
theorem swN_cg {G G' F : Nat → Nat} : ∀ n, (∀ j, j < n → G j = G' j) → swN G F n = swN G' F n
  | 0 => fun _ => rfl
  | n + 1 => fun h => by rw [swN, swN, swN_cg n (fun s hs => h s (by omega)), h n (by omega)]
set_option maxRecDepth 20000 in
set_option maxHeartbeats 1000000 in
theorem d_daysLeft {G : Gt} {l : Launch} {Z : Zt} {R : Rt} {I : It} {L : Lt} {post : Pt'} {V : Vt} {N : Nat} (W : WF Z R) (C : CI V R I L) (hG : GG N V) (hN : N < 2147483647) (hH : HV V) (h : post (some (.int (iI ((V 2 0 : Int) - (V 3 145 : Int))))) Z R I L) : Cx G l mX11_daysLeft 2 0 0 [.ref 100] Z R I L post := by
  refine Cx.of (by decide +kernel) (by exact Nat.le_of_ble_eq_true rfl) ?_
  have hB := hG.1.bnd
  have hp6 := hG.1.p
  have hb := hG.1.b
  have h00 := hG.1.1.1
  have p0 := hH.2.2.2.1.2.1
  have hd9 := hH.2.2.2.2.1.2.2.2.2.2.2.2.2.2.2.2.2.2.1
  refine Sx.aload_n dX11_daysLeft_0 rfl ?_
  refine Sx.getfR dX11_daysLeft_1 lkf_X11_19_11 (o_100 W) (r_100_1 W) ?_
  refine Sx.iconst (v := (nI 0)) dX11_daysLeft_4 (by decide) ?_
  refine Sx.callU1 dX11_daysLeft_5 lku_X11_181 (rcv_6 (o_103 W)) (by decide) (by decide) (Nat.le_of_ble_eq_true rfl) rfl rfl (c_rg (w_103r W) (by unfold rowC; decide) (by decide) C.2.1 (0) rfl (by omega) ?_)
  refine Sx.aload_n dX11_daysLeft_8 rfl ?_
  refine Sx.getfR dX11_daysLeft_9 lkf_X11_89_11 (o_100 W) (r_100_11 W) ?_
  refine Sx.sipush (v := (nI 145)) dX11_daysLeft_12 (by decide) ?_
  refine Sx.callU1 dX11_daysLeft_15 lku_X11_184 (rcv_8 (o_229 W)) (by decide) (by decide) (Nat.le_of_ble_eq_true rfl) rfl rfl (c_sg (w_229r W) C.2.2.1 (145) rfl (by omega) (by omega) ?_)
  refine Sx.isubV dX11_daysLeft_18 (vN (by omega)) (vN (by omega)) ?_
  refine Sx.iret dX11_daysLeft_19 rfl rfl ?_
  exact h
