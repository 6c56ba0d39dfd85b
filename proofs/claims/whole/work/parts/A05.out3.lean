/-! the class: calendars run and performed -/
theorem d_toldE {G : Gt} {l : Launch} {Z : Zt} {R : Rt} {I : It} {L : Lt} {post : Pt'} {V : Vt} {p q r : Nat} {Cp : Nat → Nat} (hCp : V (20 + p) = Cp) (W : WF Z R) (C : CI V R I L) (h4 : V 0 3 ≤ 4) (hp : p < V 0 3) (h20 : Cp 60 ≤ 20) (hq : q < Cp 60) (hr : r < 3) (h : post (some (.int (iI ((Cp (3 * q + r) : Int) - 1)))) Z R I L) : Cx G l mX0_told 2 0 0 [.ref (243 + 2 * p), .int (nI q), .int (nI r)] Z R I L post := by
  subst hCp; exact d_told W C h4 hp h20 hq hr h
theorem d_stepsE {G : Gt} {l : Launch} {Z : Zt} {R : Rt} {I : It} {L : Lt} {post : Pt'} {V : Vt} {p : Nat} {Cp : Nat → Nat} (hCp : V (20 + p) = Cp) (W : WF Z R) (C : CI V R I L) (h4 : V 0 3 ≤ 4) (hp : p < V 0 3) (h : post (some (.int (nI (Cp 60)))) Z R I L) : Cx G l mX0_steps 1 0 0 [.ref (243 + 2 * p)] Z R I L post := by
  subst hCp; exact d_steps W C h4 hp h
set_option maxRecDepth 20000 in
set_option maxHeartbeats 1000000 in
theorem d_canStep {G : Gt} {l : Launch} {Z : Zt} {R : Rt} {I : It} {L : Lt} {post : Pt'} {V : Vt} {a p i : Nat} {F Cp : Nat → Nat} (W : WF Z R) (C : CI V R I L) (hCp : V (20 + p) = Cp) (h4 : V 0 3 ≤ 4) (hp : p < V 0 3) (hcb : Cp 60 ≤ 20 ∧ ∀ z, z < 60 → Cp z ≤ 10) (hi : i < Cp 60) (hr : rwo Z R a 8 146) (hs : rs (I (a + 1)) F) (hx : 119 ≤ a ∧ a < 232) (hP : PB (V 2)) (hS : SB (V 2) F) (h : post (some (.int (b2i (decide (whN (V 2) F (cA Cp i) (cX Cp i) (cY Cp i) = -1))))) Z R I L) : Cx G l mX1_canStep 5 0 0 [.ref 114, .ref a, .ref ((243 + 2 * p)), .int (nI i)] Z R I L post := by
  refine Cx.of (by decide +kernel) (by exact Nat.le_of_ble_eq_true rfl) ?_
  refine Sx.aload_n dX1_canStep_0 rfl ?_
  refine Sx.aload_n dX1_canStep_1 rfl ?_
  refine Sx.aload_n dX1_canStep_2 rfl ?_
  refine Sx.iload_n dX1_canStep_3 rfl ?_
  refine Sx.iconst (v := (nI 0)) dX1_canStep_4 (by decide) ?_
  refine Sx.callV2 dX1_canStep_5 lkv_X1_152 (rcv_0 (w_cals W (i := p) (by omega)).1) (by decide) (by decide) (Nat.le_of_ble_eq_true rfl) rfl rfl (d_toldE (Cp := Cp) hCp W C h4 hp hcb.1 (by omega) (by omega) ?_)
  refine Sx.aload_n dX1_canStep_8 rfl ?_
  refine Sx.iload_n dX1_canStep_9 rfl ?_
  refine Sx.iconst (v := (nI 1)) dX1_canStep_10 (by decide) ?_
  refine Sx.callV2 dX1_canStep_11 lkv_X1_152 (rcv_0 (w_cals W (i := p) (by omega)).1) (by decide) (by decide) (Nat.le_of_ble_eq_true rfl) rfl rfl (d_toldE (Cp := Cp) hCp W C h4 hp hcb.1 (by omega) (by omega) ?_)
  refine Sx.aload_n dX1_canStep_14 rfl ?_
  refine Sx.iload_n dX1_canStep_15 rfl ?_
  refine Sx.iconst (v := (nI 2)) dX1_canStep_16 (by decide) ?_
  refine Sx.callV2 dX1_canStep_17 lkv_X1_152 (rcv_0 (w_cals W (i := p) (by omega)).1) (by decide) (by decide) (Nat.le_of_ble_eq_true rfl) rfl rfl (d_toldE (Cp := Cp) hCp W C h4 hp hcb.1 (by omega) (by omega) ?_)
  refine Sx.callV4 dX1_canStep_20 lkv_X1_157 (rcv_1 (o_114 W)) (by decide) (by decide) (Nat.le_of_ble_eq_true rfl) rfl rfl (c_why W C.2.1 hr hs hx (by have := hP.2.2.2.2.2.2.2.1; omega) (fun _ => ⟨hP, hS⟩) ?_)
  refine Sx.iconst (v := (iI (-1))) dX1_canStep_23 (by decide) ?_
  refine Sx.icmp_neV (t := 31) dX1_canStep_24 (by decide) (vX ((whN (V 2) F (iI ((Cp (3 * i + 0) : Int) - 1)) (iI ((Cp (3 * i + 1) : Int) - 1)) (iI ((Cp (3 * i + 2) : Int) - 1))))) (vZ (by decide)) (fun c24 => ?_) (fun c24 => ?_)
  · refine Sx.iconst (v := (nI 0)) dX1_canStep_31 (by decide) ?_
    refine Sx.top (show _ = b2i false from rfl) ?_
    refine Sx.iret dX1_canStep_32 rfl (b2i_n _) ?_
    have hk := x_n1 c24
    exact pBB (decide_eq_false hk) h
  · refine Sx.iconst (v := (nI 1)) dX1_canStep_27 (by decide) ?_
    refine Sx.goto (t := 32) dX1_canStep_28 (by decide) ?_
    refine Sx.top (show _ = b2i true from rfl) ?_
    refine Sx.iret dX1_canStep_32 rfl (b2i_n _) ?_
    have hk := x_m1 (by omega)
    exact pBB (decide_eq_true hk) h
set_option maxRecDepth 20000 in
set_option maxHeartbeats 1000000 in
theorem l_crun {G : Gt} {l : Launch} {Z : Zt} {R : Rt} {L : Lt} {post : Pt'} {V : Vt} {I0 : It} {p q : Nat} {Cp : Nat → Nat} {FF : Nat × (Nat → Nat)} (W : WF Z R) (hH : HV V) (hb : V 0 1 ≤ 4 ∧ V 0 3 ≤ 4) (hCp : V (20 + p) = Cp) (hp : p < V 0 3) (hq : q ≤ 1) (hcb : Cp 60 ≤ 20 ∧ ∀ z, z < 60 → Cp z ≤ 10) (h : ∀ I', CI V R I' L → OF I0 I' → post (some (.int (runX V (Cp 60) q FF))) Z R I' L) :
    ∀ (k m : Nat), m < k → ∀ (F : Nat → Nat) (i : Nat) (I : It), CI V R I L → OF I0 I → rs (I 121) F → SG (V 2) F → i + m = Cp 60 → rnG (canF (V 2) Cp) (goF (V 2) (wlV V) Cp) m i F = FF → Sx G l mX5_runOf 8 0 0 18 [(4, .int (nI i)), (0, .ref 119), (1, .ref 229), (2, .ref (243 + 2 * p)), (3, .int (nI q))] [] Z R I L post := by
  intro k
  induction k with
  | zero => intro m h1; omega
  | succ k ih =>
    intro m h1 F i I C hf hs hS him hV
    have f142 := hS.1.2.2.2.2.2.2.2.2.2.2.1
    have v142 := hH.2.2.2.2.1.2.2.2.2.2.2.2.2.2.2.1
    refine Sx.iload dX5_runOf_18 rfl ?_
    refine Sx.aload_n dX5_runOf_20 rfl ?_
    refine Sx.callV0 dX5_runOf_21 lkv_X5_58 (rcv_0 (w_cals W (i := p) (by omega)).1) (by decide) (by decide) (Nat.le_of_ble_eq_true rfl) rfl rfl (d_stepsE (Cp := Cp) hCp W C hb.2 hp ?_)
    refine Sx.icmp_geV (t := 82) dX5_runOf_24 (by decide) (vN (by omega)) (vN (by omega)) (fun c24 => ?_) (fun c24 => ?_)
    · have hm0 : m = 0 := by omega
      subst hm0
      rw [rnG_0] at hV
      subst hV
      refine Sx.iload_n dX5_runOf_82 rfl ?_
      refine Sx.iconst (v := (nI 1)) dX5_runOf_83 (by decide) ?_
      refine Sx.icmp_neV (t := 106) dX5_runOf_84 (by decide) (vN (by omega)) (vN (by decide)) (fun c84 => ?_) (fun c84 => ?_)
      · refine Sx.iload dX5_runOf_106 rfl ?_
        refine Sx.aload_n dX5_runOf_108 rfl ?_
        refine Sx.callV0 dX5_runOf_109 lkv_X5_58 (rcv_0 (w_cals W (i := p) (by omega)).1) (by decide) (by decide) (Nat.le_of_ble_eq_true rfl) rfl rfl (d_stepsE (Cp := Cp) hCp W C hb.2 hp ?_)
        refine Sx.icmp_neV (t := 119) dX5_runOf_112 (by decide) (vN (by omega)) (vN (by omega)) (fun c112 => ?_) (fun c112 => ?_)
        · refine Sx.iload dX5_runOf_119 rfl ?_
          refine Sx.iret dX5_runOf_121 rfl rfl ?_
          exact pXX (by unfold runX; rw [if_neg (by omega), if_neg (by show ¬ i = _; omega)]) (h I C hf)
        · refine Sx.iconst (v := (iI (-1))) dX5_runOf_115 (by decide) ?_
          refine Sx.goto (t := 121) dX5_runOf_116 (by decide) ?_
          refine Sx.iret dX5_runOf_121 rfl rfl ?_
          exact pXX (by unfold runX; rw [if_neg (by omega), if_pos (by show i = _; omega)]) (h I C hf)
      · refine Sx.aload_n dX5_runOf_87 rfl ?_
        refine Sx.getfR dX5_runOf_88 lkf_X5_12_5 (o_119 W) (r_119_2 W) ?_
        refine Sx.sipush (v := (nI 142)) dX5_runOf_91 (by decide) ?_
        refine Sx.callU1 dX5_runOf_94 lku_X5_78 (rcv_8 (o_120 W)) (by decide) (by decide) (Nat.le_of_ble_eq_true rfl) rfl rfl (c_sg (w_120r W) hs 142 rfl (by decide) (by decide) ?_)
        refine Sx.aload_n dX5_runOf_97 rfl ?_
        refine Sx.sipush (v := (nI 142)) dX5_runOf_98 (by decide) ?_
        refine Sx.callU1 dX5_runOf_101 lku_X5_78 (rcv_8 (o_229 W)) (by decide) (by decide) (Nat.le_of_ble_eq_true rfl) rfl rfl (c_sg (w_229r W) C.2.2.1 142 rfl (by decide) (by decide) ?_)
        refine Sx.isubV dX5_runOf_104 (vN (by omega)) (vN (by omega)) ?_
        refine Sx.iret dX5_runOf_105 rfl rfl ?_
        exact pXX (by unfold runX; rw [if_pos (by omega)]) (h I C hf)
    · refine Sx.aload_n dX5_runOf_27 rfl ?_
      refine Sx.getfR dX5_runOf_28 lkf_X5_49_5 (o_119 W) (r_119_1 W) ?_
      refine Sx.aload_n dX5_runOf_31 rfl ?_
      refine Sx.getfR dX5_runOf_32 lkf_X5_12_5 (o_119 W) (r_119_2 W) ?_
      refine Sx.aload_n dX5_runOf_35 rfl ?_
      refine Sx.iload dX5_runOf_36 rfl ?_
      refine Sx.callV3 dX5_runOf_38 lkv_X5_64 (rcv_1 (o_114 W)) (by decide) (by decide) (Nat.le_of_ble_eq_true rfl) rfl rfl (d_canStep W C hCp hb.2 hp hcb (by omega) (w_120r W) hs (by decide) hH.2.2.2.1 hS.1 ?_)
      refine Sx.if_eqD (t := 82) dX5_runOf_41 (by decide) (fun c41 => ?_) (fun c41 => ?_)
      · have hk0 := c41
        have hV : (i, F) = FF := by rw [← hV, show m = m - 1 + 1 by omega]; exact (rnG_n (fun z => hk0 (of_decide_eq_true z))).symm
        subst hV
        refine Sx.iload_n dX5_runOf_82 rfl ?_
        refine Sx.iconst (v := (nI 1)) dX5_runOf_83 (by decide) ?_
        refine Sx.icmp_neV (t := 106) dX5_runOf_84 (by decide) (vN (by omega)) (vN (by decide)) (fun c84 => ?_) (fun c84 => ?_)
        · refine Sx.iload dX5_runOf_106 rfl ?_
          refine Sx.aload_n dX5_runOf_108 rfl ?_
          refine Sx.callV0 dX5_runOf_109 lkv_X5_58 (rcv_0 (w_cals W (i := p) (by omega)).1) (by decide) (by decide) (Nat.le_of_ble_eq_true rfl) rfl rfl (d_stepsE (Cp := Cp) hCp W C hb.2 hp ?_)
          refine Sx.icmp_neV (t := 119) dX5_runOf_112 (by decide) (vN (by omega)) (vN (by omega)) (fun c112 => ?_) (fun c112 => ?_)
          · refine Sx.iload dX5_runOf_119 rfl ?_
            refine Sx.iret dX5_runOf_121 rfl rfl ?_
            exact pXX (by unfold runX; rw [if_neg (by omega), if_neg (by show ¬ i = _; omega)]) (h I C hf)
          · refine Sx.iconst (v := (iI (-1))) dX5_runOf_115 (by decide) ?_
            refine Sx.goto (t := 121) dX5_runOf_116 (by decide) ?_
            refine Sx.iret dX5_runOf_121 rfl rfl ?_
            exact pXX (by unfold runX; rw [if_neg (by omega), if_pos (by show i = _; omega)]) (h I C hf)
        · refine Sx.aload_n dX5_runOf_87 rfl ?_
          refine Sx.getfR dX5_runOf_88 lkf_X5_12_5 (o_119 W) (r_119_2 W) ?_
          refine Sx.sipush (v := (nI 142)) dX5_runOf_91 (by decide) ?_
          refine Sx.callU1 dX5_runOf_94 lku_X5_78 (rcv_8 (o_120 W)) (by decide) (by decide) (Nat.le_of_ble_eq_true rfl) rfl rfl (c_sg (w_120r W) hs 142 rfl (by decide) (by decide) ?_)
          refine Sx.aload_n dX5_runOf_97 rfl ?_
          refine Sx.sipush (v := (nI 142)) dX5_runOf_98 (by decide) ?_
          refine Sx.callU1 dX5_runOf_101 lku_X5_78 (rcv_8 (o_229 W)) (by decide) (by decide) (Nat.le_of_ble_eq_true rfl) rfl rfl (c_sg (w_229r W) C.2.2.1 142 rfl (by decide) (by decide) ?_)
          refine Sx.isubV dX5_runOf_104 (vN (by omega)) (vN (by omega)) ?_
          refine Sx.iret dX5_runOf_105 rfl rfl ?_
          exact pXX (by unfold runX; rw [if_pos (by omega)]) (h I C hf)
      · have hk : whN (V 2) F (cA Cp i) (cX Cp i) (cY Cp i) = -1 := c41
        refine Sx.aload_n dX5_runOf_44 rfl ?_
        refine Sx.getfR dX5_runOf_45 lkf_X5_49_5 (o_119 W) (r_119_1 W) ?_
        refine Sx.aload_n dX5_runOf_48 rfl ?_
        refine Sx.getfR dX5_runOf_49 lkf_X5_12_5 (o_119 W) (r_119_2 W) ?_
        refine Sx.aload_n dX5_runOf_52 rfl ?_
        refine Sx.iload dX5_runOf_53 rfl ?_
        refine Sx.iconst (v := (nI 0)) dX5_runOf_55 (by decide) ?_
        refine Sx.callV2 dX5_runOf_56 lkv_X5_70 (rcv_0 (w_cals W (i := p) (by omega)).1) (by decide) (by decide) (Nat.le_of_ble_eq_true rfl) rfl rfl (d_toldE (Cp := Cp) hCp W C hb.2 hp hcb.1 (by omega) (by omega) ?_)
        refine Sx.aload_n dX5_runOf_59 rfl ?_
        refine Sx.iload dX5_runOf_60 rfl ?_
        refine Sx.iconst (v := (nI 1)) dX5_runOf_62 (by decide) ?_
        refine Sx.callV2 dX5_runOf_63 lkv_X5_70 (rcv_0 (w_cals W (i := p) (by omega)).1) (by decide) (by decide) (Nat.le_of_ble_eq_true rfl) rfl rfl (d_toldE (Cp := Cp) hCp W C hb.2 hp hcb.1 (by omega) (by omega) ?_)
        refine Sx.aload_n dX5_runOf_66 rfl ?_
        refine Sx.iload dX5_runOf_67 rfl ?_
        refine Sx.iconst (v := (nI 2)) dX5_runOf_69 (by decide) ?_
        refine Sx.callV2 dX5_runOf_70 lkv_X5_70 (rcv_0 (w_cals W (i := p) (by omega)).1) (by decide) (by decide) (Nat.le_of_ble_eq_true rfl) rfl rfl (d_toldE (Cp := Cp) hCp W C hb.2 hp hcb.1 (by omega) (by omega) ?_)
        refine Sx.callV4 dX5_runOf_73 lkv_X5_74 (rcv_1 (o_114 W)) (by decide) (by decide) (Nat.le_of_ble_eq_true rfl) rfl rfl (c_carry W C.2.1 hH.2.2.2.1 (w_120r W) hs (by decide) (C.lw ⟨hH.1.1, hH.1.2.1⟩) hS.1 (by have := hS.2.1; omega) (Ok_of hH.2.2.2.1 hS.1 hk) (fun I1 r1 o1 => ?_))
        refine Sx.iinc (v := (nI (i + 1))) (lv' := [(4, .int (nI (i + 1))), (0, .ref 119), (1, .ref 229), (2, .ref ((243 + 2 * p))), (3, .int (nI q))]) dX5_runOf_76 rfl (nI_add i 1) (by decide) rfl ?_
        refine Sx.goto (t := 18) dX5_runOf_79 (by decide) ?_
        refine Sx.sub' [(4, .int (nI (i + 1))), (0, .ref 119), (1, .ref 229), (2, .ref (243 + 2 * p)), (3, .int (nI q))] rfl ?_
        have ho : OF I I1 := fun q hq => o1 q (by omega) (by omega) (by omega)
        exact ih (m - 1) (by omega) (coN (V 2) (wlV V) F (cA Cp i) (cX Cp i) (cY Cp i)) (i + 1) I1 (ho.ci C hb) (hf.tr ho) r1 (coN_SG hH.2.2.2.1 hS hk) (by omega) (by rw [← hV, show m = m - 1 + 1 by omega]; exact (rnG_y (decide_eq_true hk)).symm)
set_option maxRecDepth 20000 in
set_option maxHeartbeats 1000000 in
theorem d_runOf {G : Gt} {l : Launch} {Z : Zt} {R : Rt} {I : It} {L : Lt} {post : Pt'} {V : Vt} {p q : Nat} {Cp : Nat → Nat} (W : WF Z R) (C : CI V R I L) (hH : HV V) (hb : V 0 1 ≤ 4 ∧ V 0 3 ≤ 4) (hCp : V (20 + p) = Cp) (hp : p < V 0 3) (hq : q ≤ 1) (hcb : Cp 60 ≤ 20 ∧ ∀ z, z < 60 → Cp z ≤ 10) (h : ∀ I', CI V R I' L → OF I I' → post (some (.int (runX V (Cp 60) q (rnG (canF (V 2) Cp) (goF (V 2) (wlV V) Cp) (Cp 60) 0 (V 3))))) Z R I' L) : Cx G l mX5_runOf 8 0 0 [.ref 119, .ref 229, .ref ((243 + 2 * p)), .int (nI q)] Z R I L post := by
  refine Cx.of (by decide +kernel) (by exact Nat.le_of_ble_eq_true rfl) ?_
  refine Sx.aload_n dX5_runOf_0 rfl ?_
  refine Sx.ifnonnull (t := 7) dX5_runOf_1 (by decide) ?_
  refine Sx.aload_n dX5_runOf_7 rfl ?_
  refine Sx.getfR dX5_runOf_8 lkf_X5_12_5 (o_119 W) (r_119_2 W) ?_
  refine Sx.aload_n dX5_runOf_11 rfl ?_
  refine Sx.callU1 dX5_runOf_12 lku_X5_54 (rcv_8 (o_120 W)) (by decide) (by decide) (Nat.le_of_ble_eq_true rfl) rfl rfl (c_X7_copy (w_120r W) (by unfold rowC; decide) (by decide) (w_229r W) (by unfold rowC; decide) (fun I1 e1 o1 => ?_))
  have ho1 : OF I I1 := fun q hq => o1 q (by omega)
  refine Sx.iconst (v := (nI 0)) dX5_runOf_15 (by decide) ?_
  refine Sx.istore (lv' := [(4, .int (nI 0)), (0, .ref 119), (1, .ref 229), (2, .ref ((243 + 2 * p))), (3, .int (nI q))]) dX5_runOf_16 (by decide) rfl ?_
  refine Sx.sub' [(4, .int (nI 0)), (0, .ref 119), (1, .ref 229), (2, .ref (243 + 2 * p)), (3, .int (nI q))] rfl ?_
  exact l_crun W hH hb hCp hp hq hcb (I0 := I) h (Cp 60 + 1) (Cp 60) (by omega) (V 3) 0 I1 (ho1.ci C hb) ho1 (by rw [e1]; exact rs_c C.2.2.1) hH.2.2.2.2 (by omega) rfl
set_option maxRecDepth 20000 in
set_option maxHeartbeats 1000000 in
theorem d_run {G : Gt} {l : Launch} {Z : Zt} {R : Rt} {I : It} {L : Lt} {post : Pt'} {V : Vt} {N : Nat} {x y : Int32} (W : WF Z R) (C : CI V R I L) (hG : GG N V) (hN : N < 2147483647) (h : CQ post Z R I L V (runR V x y)) : Cx G l mX11_run 9 0 0 [.ref 100, .int x, .int y] Z R I L post := by
  refine Cx.of (by decide +kernel) (by exact Nat.le_of_ble_eq_true rfl) ?_
  have hB := hG.1.bnd
  have hp6 := hG.1.p
  have hb := hG.1.b
  have h00 := hG.1.1.1
  refine Sx.aload_n dX11_run_0 rfl ?_
  refine Sx.iload_n dX11_run_1 rfl ?_
  refine Sx.callV1 dX11_run_2 lkv_X11_255 (rcv_11 (o_100 W)) (by decide) (by decide) (Nat.le_of_ble_eq_true rfl) rfl rfl (d_isCal W C (by omega) ?_)
  refine Sx.if_eqD (t := 24) dX11_run_5 (by decide) (fun c5 => ?_) (fun c5 => ?_)
  · refine Sx.ldc dX11_run_24 lkk_X11_180 ?_
    refine Sx.top (show _ = (iI (-1000000)) by decide) ?_
    refine Sx.iret dX11_run_26 rfl rfl ?_
    have hn : ¬ runC V x y := fun z => by have := z.1; have := z.2; omega
    exact pXX (by unfold runR; rw [if_neg hn]) (h I R L C (CF.rf R I L))
  · refine Sx.aload_n dX11_run_8 rfl ?_
    refine Sx.callV0 dX11_run_9 lkv_X11_223 (rcv_11 (o_100 W)) (by decide) (by decide) (Nat.le_of_ble_eq_true rfl) rfl rfl (d_isPort W C (by omega) ?_)
    refine Sx.if_eqD (t := 24) dX11_run_12 (by decide) (fun c12 => ?_) (fun c12 => ?_)
    · refine Sx.ldc dX11_run_24 lkk_X11_180 ?_
      refine Sx.top (show _ = (iI (-1000000)) by decide) ?_
      refine Sx.iret dX11_run_26 rfl rfl ?_
      have hn : ¬ runC V x y := fun z => by have := z.1; have := z.2; omega
      exact pXX (by unfold runR; rw [if_neg hn]) (h I R L C (CF.rf R I L))
    · refine Sx.iload_n dX11_run_15 rfl ?_
      refine Sx.if_ltV (t := 24) dX11_run_16 (by decide) (vX y) (fun c16 => ?_) (fun c16 => ?_)
      · refine Sx.ldc dX11_run_24 lkk_X11_180 ?_
        refine Sx.top (show _ = (iI (-1000000)) by decide) ?_
        refine Sx.iret dX11_run_26 rfl rfl ?_
        have hn : ¬ runC V x y := fun z => by have := z.1; have := z.2; omega
        exact pXX (by unfold runR; rw [if_neg hn]) (h I R L C (CF.rf R I L))
      · refine Sx.iload_n dX11_run_19 rfl ?_
        refine Sx.iconst (v := (nI 1)) dX11_run_20 (by decide) ?_
        refine Sx.icmp_leV (t := 27) dX11_run_21 (by decide) (vX y) (vN (by decide)) (fun c21 => ?_) (fun c21 => ?_)
        · have hH := hG.1.hv (by omega)
          have hc : runC V x y := ⟨by omega, by omega, by omega, by omega⟩
          obtain ⟨p, rfl, hp⟩ := x_ex (x := x) (n := V 0 3) ⟨by omega, by omega⟩
          obtain ⟨q, rfl, hq⟩ := x_ex (x := y) (n := 2) ⟨by omega, by omega⟩
          have hcb := hG.1.2.2.1.2 p (by omega)
          refine Sx.sub' [(0, .ref 100), (1, .int (nI p)), (2, .int (nI q))] rfl ?_
          refine Sx.aload_n dX11_run_27 rfl ?_
          refine Sx.getfR dX11_run_28 lkf_X11_68_11 (o_100 W) (r_100_8 W) ?_
          refine Sx.aload_n dX11_run_31 rfl ?_
          refine Sx.getfR dX11_run_32 lkf_X11_89_11 (o_100 W) (r_100_11 W) ?_
          refine Sx.aload_n dX11_run_35 rfl ?_
          refine Sx.iload_n dX11_run_36 rfl ?_
          refine Sx.callV1 dX11_run_37 lkv_X11_156 (rcv_11 (o_100 W)) (by decide) (by decide) (Nat.le_of_ble_eq_true rfl) rfl rfl (d_calAt W (k := p) (by omega) ?_)
          refine Sx.iload_n dX11_run_40 rfl ?_
          refine Sx.callV3 dX11_run_41 lkv_X11_264 (rcv_5 (o_119 W)) (by decide) (by decide) (Nat.le_of_ble_eq_true rfl) rfl rfl (d_runOf W C hH hb rfl (by omega) (by omega) hcb (fun I1 C1 o1 => ?_))
          refine Sx.iret dX11_run_44 rfl rfl ?_
          exact pXX (by unfold runR; rw [if_pos hc, xN_n (by omega), xN_n (by omega)]; rfl) (h I1 R L C1 o1.cf)
        · refine Sx.ldc dX11_run_24 lkk_X11_180 ?_
          refine Sx.top (show _ = (iI (-1000000)) by decide) ?_
          refine Sx.iret dX11_run_26 rfl rfl ?_
          have hn : ¬ runC V x y := fun z => by have := z.1; have := z.2; omega
          exact pXX (by unfold runR; rw [if_neg hn]) (h I R L C (CF.rf R I L))
set_option maxRecDepth 20000 in
set_option maxHeartbeats 1000000 in
theorem l_cper {G : Gt} {l : Launch} {Z : Zt} {R : Rt} {L : Lt} {post : Pt'} {I0 : It} {p : Nat} {Cp : Nat → Nat} {FF : Nat × Vt} (W : WF Z R) (hcb : Cp 60 ≤ 20 ∧ ∀ z, z < 60 → Cp z ≤ 10) (h : ∀ I', CI FF.2 R I' L → CF R I0 L R I' L → post (some (.int (nI FF.1))) Z R I' L) :
    ∀ (k m : Nat), m < k → ∀ (V : Vt) (i : Nat) (I : It), CI V R I L → HV V → p < V 0 3 → V (20 + p) = Cp → CF R I0 L R I L → i + m = Cp 60 → rnG (canG Cp) (goG Cp) m i V = FF → Sx G l mX11_perform 8 0 0 29 [(3, .int (nI i)), (0, .ref 100), (1, .int (nI p)), (2, .ref (243 + 2 * p))] [] Z R I L post := by
  intro k
  induction k with
  | zero => intro m h1; omega
  | succ k ih =>
    intro m h1 V i I C hH hp hCp hf him hV
    have h34 := hH.2.1
    have h34 := hH.2.1
    refine Sx.iload_n dX11_perform_29 rfl ?_
    refine Sx.aload_n dX11_perform_30 rfl ?_
    refine Sx.callV0 dX11_perform_31 lkv_X11_258 (rcv_0 (w_cals W (i := p) (by omega)).1) (by decide) (by decide) (Nat.le_of_ble_eq_true rfl) rfl rfl (d_stepsE (Cp := Cp) hCp W C hH.2.1 hp ?_)
    refine Sx.icmp_geV (t := 99) dX11_perform_34 (by decide) (vN (by omega)) (vN (by omega)) (fun c34 => ?_) (fun c34 => ?_)
    · have hm0 : m = 0 := by omega
      subst hm0
      rw [rnG_0] at hV
      subst hV
      refine Sx.iload_n dX11_perform_99 rfl ?_
      refine Sx.iret dX11_perform_100 rfl rfl ?_
      exact h I C hf
    · refine Sx.aload_n dX11_perform_37 rfl ?_
      refine Sx.getfR dX11_perform_38 lkf_X11_59_11 (o_100 W) (r_100_7 W) ?_
      refine Sx.aload_n dX11_perform_41 rfl ?_
      refine Sx.getfR dX11_perform_42 lkf_X11_89_11 (o_100 W) (r_100_11 W) ?_
      refine Sx.aload_n dX11_perform_45 rfl ?_
      refine Sx.iload_n dX11_perform_46 rfl ?_
      refine Sx.callV3 dX11_perform_47 lkv_X11_268 (rcv_1 (o_114 W)) (by decide) (by decide) (Nat.le_of_ble_eq_true rfl) rfl rfl (d_canStep W C hCp hH.2.1 hp hcb (by omega) (w_229r W) C.2.2.1 (by decide) hH.2.2.2.1 hH.2.2.2.2.1 ?_)
      refine Sx.if_eqD (t := 99) dX11_perform_50 (by decide) (fun c50 => ?_) (fun c50 => ?_)
      · have hk0 := c50
        have hV : (i, V) = FF := by rw [← hV, show m = m - 1 + 1 by omega]; exact (rnG_n (fun z => hk0 (of_decide_eq_true z))).symm
        subst hV
        refine Sx.iload_n dX11_perform_99 rfl ?_
        refine Sx.iret dX11_perform_100 rfl rfl ?_
        exact h I C hf
      · have hk : whN (V 2) (V 3) (cA Cp i) (cX Cp i) (cY Cp i) = -1 := c50
        refine Sx.aload_n dX11_perform_53 rfl ?_
        refine Sx.getfR dX11_perform_54 lkf_X11_82_11 (o_100 W) (r_100_10 W) ?_
        refine Sx.aload_n dX11_perform_57 rfl ?_
        refine Sx.getfR dX11_perform_58 lkf_X11_89_11 (o_100 W) (r_100_11 W) ?_
        refine Sx.callV1 dX11_perform_61 lkv_X11_215 (rcv_2 (o_147 W)) (by decide) (by decide) (Nat.le_of_ble_eq_true rfl) rfl rfl (d_keep W C ⟨hH.1.1, hH.2.1⟩ hH.2.2.1 (fun I1 C1 o1 => ?_))
        have c3 : rs (I1 230) (V 3) := by have z := C1.2.2.1; rwa [rm_o V (by decide) (by decide)] at z
        have c2 : rep 36 (I1 104) (V 2) := by have z := C1.2.1; rwa [rm_o V (by decide) (by decide)] at z
        have cl : LW R I1 (wlV V) := by have z := C1.lw (by rw [rm_0 V (by decide), rm_0 V (by decide)]; exact ⟨hH.1.1, hH.1.2.1⟩); rwa [wl_rm hH] at z
        have hCr : rmV V (20 + p) = Cp := by rw [rm_o V (by omega) (by omega)]; exact hCp
        have h3r : rmV V 0 3 = V 0 3 := rm_0 V (by decide)
        refine Sx.aload_n dX11_perform_64 rfl ?_
        refine Sx.getfR dX11_perform_65 lkf_X11_59_11 (o_100 W) (r_100_7 W) ?_
        refine Sx.aload_n dX11_perform_68 rfl ?_
        refine Sx.getfR dX11_perform_69 lkf_X11_89_11 (o_100 W) (r_100_11 W) ?_
        refine Sx.aload_n dX11_perform_72 rfl ?_
        refine Sx.iload_n dX11_perform_73 rfl ?_
        refine Sx.iconst (v := (nI 0)) dX11_perform_74 (by decide) ?_
        refine Sx.callV2 dX11_perform_75 lkv_X11_261 (rcv_0 (w_cals W (i := p) (by omega)).1) (by decide) (by decide) (Nat.le_of_ble_eq_true rfl) rfl rfl (d_toldE (Cp := Cp) hCr W C1 (by omega) (by omega) hcb.1 (by omega) (by omega) ?_)
        refine Sx.aload_n dX11_perform_78 rfl ?_
        refine Sx.iload_n dX11_perform_79 rfl ?_
        refine Sx.iconst (v := (nI 1)) dX11_perform_80 (by decide) ?_
        refine Sx.callV2 dX11_perform_81 lkv_X11_261 (rcv_0 (w_cals W (i := p) (by omega)).1) (by decide) (by decide) (Nat.le_of_ble_eq_true rfl) rfl rfl (d_toldE (Cp := Cp) hCr W C1 (by omega) (by omega) hcb.1 (by omega) (by omega) ?_)
        refine Sx.aload_n dX11_perform_84 rfl ?_
        refine Sx.iload_n dX11_perform_85 rfl ?_
        refine Sx.iconst (v := (nI 2)) dX11_perform_86 (by decide) ?_
        refine Sx.callV2 dX11_perform_87 lkv_X11_261 (rcv_0 (w_cals W (i := p) (by omega)).1) (by decide) (by decide) (Nat.le_of_ble_eq_true rfl) rfl rfl (d_toldE (Cp := Cp) hCr W C1 (by omega) (by omega) hcb.1 (by omega) (by omega) ?_)
        refine Sx.callV4 dX11_perform_90 lkv_X11_219 (rcv_1 (o_114 W)) (by decide) (by decide) (Nat.le_of_ble_eq_true rfl) rfl rfl (c_carry W c2 hH.2.2.2.1 (w_229r W) c3 (by decide) cl hH.2.2.2.2.1 (by have := hH.2.2.2.2.2.1; omega) (Ok_of hH.2.2.2.1 hH.2.2.2.2.1 hk) (fun I2 r2 o2 => ?_))
        refine Sx.iinc (v := (nI (i + 1))) (lv' := [(3, .int (nI (i + 1))), (0, .ref 100), (1, .int (nI p)), (2, .ref ((243 + 2 * p)))]) dX11_perform_93 rfl (nI_add i 1) (by decide) rfl ?_
        refine Sx.goto (t := 29) dX11_perform_96 (by decide) ?_
        have h34 := hH.2.1
        refine Sx.sub' [(3, .int (nI (i + 1))), (0, .ref 100), (1, .int (nI p)), (2, .ref (243 + 2 * p))] rfl ?_
        have hC2 : CI (goG Cp i V) R I2 L := C1.v3 (rmb ⟨hH.1.1, hH.2.1⟩) r2 (fun q q1 q2 => o2 q (by unfold csc at q2; omega) (by unfold csc at q2; omega) q1)
        have hf2 : CF R I L R I2 L := CF.i fun q hq => by rw [o2 q (by omega) (by omega) (by omega), o1 q (by omega) (by omega)]
        exact ih (m - 1) (by omega) (goG Cp i V) (i + 1) I2 hC2 (goG_H hH hk) (by rw [goG_0 _ _ _ (by decide)]; exact hp) (by rw [goG_o _ _ _ (by omega) (by omega) (by omega)]; exact hCp) (hf.tr hf2) (by omega) (by rw [← hV, show m = m - 1 + 1 by omega]; exact (rnG_y (decide_eq_true hk)).symm)
set_option maxRecDepth 20000 in
set_option maxHeartbeats 1000000 in
theorem d_calAt0 {G : Gt} {l : Launch} {Z : Zt} {R : Rt} {I : It} {L : Lt} {post : Pt'} {x : Int32} (W : WF Z R) (hk : x.toInt < 0) (h : post (some .null) Z R I L) : Cx G l mX11_calendarAt 1 0 0 [.ref 100, .int x] Z R I L post := by
  refine Cx.of (by decide +kernel) (by exact Nat.le_of_ble_eq_true rfl) ?_
  refine Sx.iload_n dX11_calendarAt_0 rfl ?_
  refine Sx.if_ltV (t := 22) dX11_calendarAt_1 (by decide) (vX x) (fun c1 => ?_) (fun c1 => False.elim (by omega))
  refine Sx.aconst_null dX11_calendarAt_22 ?_
  refine Sx.aret (r := none) dX11_calendarAt_23 rfl (Or.inl ⟨_, rfl⟩) ?_
  exact h
set_option maxRecDepth 20000 in
set_option maxHeartbeats 1000000 in
theorem d_calAt5 {G : Gt} {l : Launch} {Z : Zt} {R : Rt} {I : It} {L : Lt} {post : Pt'} {x : Int32} (W : WF Z R) (hk : 5 ≤ x.toInt) (h : post (some .null) Z R I L) : Cx G l mX11_calendarAt 1 0 0 [.ref 100, .int x] Z R I L post := by
  refine Cx.of (by decide +kernel) (by exact Nat.le_of_ble_eq_true rfl) ?_
  refine Sx.iload_n dX11_calendarAt_0 rfl ?_
  refine Sx.if_ltV (t := 22) dX11_calendarAt_1 (by decide) (vX x) (fun c1 => False.elim (by omega)) (fun c1 => ?_)
  refine Sx.iload_n dX11_calendarAt_4 rfl ?_
  refine Sx.aload_n dX11_calendarAt_5 rfl ?_
  refine Sx.getfR dX11_calendarAt_6 lkf_X11_41_11 (o_100 W) (r_100_5 W) ?_
  refine Sx.alen (v := nI 5) dX11_calendarAt_9 (a_111 W) (by decide) (by decide) rfl ?_
  refine Sx.icmp_geV (t := 22) dX11_calendarAt_10 (by decide) (vX x) (vN (by decide)) (fun c10 => ?_) (fun c10 => False.elim (by omega))
  refine Sx.aconst_null dX11_calendarAt_22 ?_
  refine Sx.aret (r := none) dX11_calendarAt_23 rfl (Or.inl ⟨_, rfl⟩) ?_
  exact h
set_option maxRecDepth 20000 in
set_option maxHeartbeats 1000000 in
theorem d_perform0 {G : Gt} {l : Launch} {Z : Zt} {R : Rt} {I : It} {L : Lt} {post : Pt'} {V : Vt} {N : Nat} {x : Int32} (W : WF Z R) (C : CI V R I L) (hG : GG N V) (hN : N < 2147483647) (hx : x.toInt < 0) (h : ∀ I' R' L', CI (perV V x) R' I' L' → CF R I L R' I' L' → post (some (.int (perR V x))) Z R' I' L') : Cx G l mX11_perform 8 0 0 [.ref 100, .int x] Z R I L post := by
  refine Cx.of (by decide +kernel) (by exact Nat.le_of_ble_eq_true rfl) ?_
  have hB := hG.1.bnd
  have hp6 := hG.1.p
  have hb := hG.1.b
  have h00 := hG.1.1.1
  refine Sx.aload_n dX11_perform_0 rfl ?_
  refine Sx.iload_n dX11_perform_1 rfl ?_
  refine Sx.callV1 dX11_perform_2 lkv_X11_156 (rcv_11 (o_100 W)) (by decide) (by decide) (Nat.le_of_ble_eq_true rfl) rfl rfl (d_calAt0 W hx ?_)
  refine Sx.astore_nN (lv' := [(2, .null), (0, .ref 100), (1, .int x)]) dX11_perform_5 (by decide) rfl ?_
  refine Sx.aload_n dX11_perform_6 rfl ?_
  refine Sx.iload_n dX11_perform_7 rfl ?_
  refine Sx.callV1 dX11_perform_8 lkv_X11_255 (rcv_11 (o_100 W)) (by decide) (by decide) (Nat.le_of_ble_eq_true rfl) rfl rfl (d_isCal W C (by omega) ?_)
  refine Sx.if_eqD (t := 25) dX11_perform_11 (by decide) (fun c11 => ?_) (fun c11 => False.elim (by omega))
  refine Sx.iconst (v := (iI (-1))) dX11_perform_25 (by decide) ?_
  refine Sx.iret dX11_perform_26 rfl rfl ?_
  have hn : ¬ perC V x := fun z => by have := z.1; have := z.2; omega
  exact pXX (by unfold perR; rw [if_neg hn]; rfl) (h I R L (by unfold perV; rw [if_neg hn]; exact C) (CF.rf R I L))
set_option maxRecDepth 20000 in
set_option maxHeartbeats 1000000 in
theorem d_perform5 {G : Gt} {l : Launch} {Z : Zt} {R : Rt} {I : It} {L : Lt} {post : Pt'} {V : Vt} {N : Nat} {x : Int32} (W : WF Z R) (C : CI V R I L) (hG : GG N V) (hN : N < 2147483647) (hx : 5 ≤ x.toInt) (h : ∀ I' R' L', CI (perV V x) R' I' L' → CF R I L R' I' L' → post (some (.int (perR V x))) Z R' I' L') : Cx G l mX11_perform 8 0 0 [.ref 100, .int x] Z R I L post := by
  refine Cx.of (by decide +kernel) (by exact Nat.le_of_ble_eq_true rfl) ?_
  have hB := hG.1.bnd
  have hp6 := hG.1.p
  have hb := hG.1.b
  have h00 := hG.1.1.1
  refine Sx.aload_n dX11_perform_0 rfl ?_
  refine Sx.iload_n dX11_perform_1 rfl ?_
  refine Sx.callV1 dX11_perform_2 lkv_X11_156 (rcv_11 (o_100 W)) (by decide) (by decide) (Nat.le_of_ble_eq_true rfl) rfl rfl (d_calAt5 W hx ?_)
  refine Sx.astore_nN (lv' := [(2, .null), (0, .ref 100), (1, .int x)]) dX11_perform_5 (by decide) rfl ?_
  refine Sx.aload_n dX11_perform_6 rfl ?_
  refine Sx.iload_n dX11_perform_7 rfl ?_
  refine Sx.callV1 dX11_perform_8 lkv_X11_255 (rcv_11 (o_100 W)) (by decide) (by decide) (Nat.le_of_ble_eq_true rfl) rfl rfl (d_isCal W C (by omega) ?_)
  refine Sx.if_eqD (t := 25) dX11_perform_11 (by decide) (fun c11 => ?_) (fun c11 => False.elim (by omega))
  refine Sx.iconst (v := (iI (-1))) dX11_perform_25 (by decide) ?_
  refine Sx.iret dX11_perform_26 rfl rfl ?_
  have hn : ¬ perC V x := fun z => by have := z.1; have := z.2; omega
  exact pXX (by unfold perR; rw [if_neg hn]; rfl) (h I R L (by unfold perV; rw [if_neg hn]; exact C) (CF.rf R I L))
set_option maxRecDepth 20000 in
set_option maxHeartbeats 1000000 in
theorem d_performP {G : Gt} {l : Launch} {Z : Zt} {R : Rt} {I : It} {L : Lt} {post : Pt'} {V : Vt} {N : Nat} {p : Nat} (W : WF Z R) (C : CI V R I L) (hG : GG N V) (hN : N < 2147483647) (hp : p < 5) (h : ∀ I' R' L', CI (perV V (nI p)) R' I' L' → CF R I L R' I' L' → post (some (.int (perR V (nI p)))) Z R' I' L') : Cx G l mX11_perform 8 0 0 [.ref 100, .int (nI p)] Z R I L post := by
  refine Cx.of (by decide +kernel) (by exact Nat.le_of_ble_eq_true rfl) ?_
  have hB := hG.1.bnd
  have hp6 := hG.1.p
  have hb := hG.1.b
  have h00 := hG.1.1.1
  have tp : (nI p).toInt = (p : Int) := nI_toInt (by omega)
  refine Sx.aload_n dX11_perform_0 rfl ?_
  refine Sx.iload_n dX11_perform_1 rfl ?_
  refine Sx.callV1 dX11_perform_2 lkv_X11_156 (rcv_11 (o_100 W)) (by decide) (by decide) (Nat.le_of_ble_eq_true rfl) rfl rfl (d_calAt W (k := p) (by omega) ?_)
  refine Sx.astore_n (lv' := [(2, .ref ((243 + 2 * p))), (0, .ref 100), (1, .int (nI p))]) dX11_perform_5 (by decide) rfl ?_
  refine Sx.aload_n dX11_perform_6 rfl ?_
  refine Sx.iload_n dX11_perform_7 rfl ?_
  refine Sx.callV1 dX11_perform_8 lkv_X11_255 (rcv_11 (o_100 W)) (by decide) (by decide) (Nat.le_of_ble_eq_true rfl) rfl rfl (d_isCal W C (by omega) ?_)
  refine Sx.if_eqD (t := 25) dX11_perform_11 (by decide) (fun c11 => ?_) (fun c11 => ?_)
  · refine Sx.iconst (v := (iI (-1))) dX11_perform_25 (by decide) ?_
    refine Sx.iret dX11_perform_26 rfl rfl ?_
    have hn : ¬ perC V (nI p) := fun z => by have z1 := z.1; rw [nI_toInt (by omega)] at z1; have := z.2; omega
    exact pXX (by unfold perR; rw [if_neg hn]; rfl) (h I R L (by unfold perV; rw [if_neg hn]; exact C) (CF.rf R I L))
  · refine Sx.aload_n dX11_perform_14 rfl ?_
    refine Sx.ifnull dX11_perform_15 ?_
    refine Sx.aload_n dX11_perform_18 rfl ?_
    refine Sx.callV0 dX11_perform_19 lkv_X11_223 (rcv_11 (o_100 W)) (by decide) (by decide) (Nat.le_of_ble_eq_true rfl) rfl rfl (d_isPort W C (by omega) ?_)
    refine Sx.if_neD (t := 27) dX11_perform_22 (by decide) (fun c22 => ?_) (fun c22 => ?_)
    · refine Sx.iconst (v := (nI 0)) dX11_perform_27 (by decide) ?_
      refine Sx.istore_n (lv' := [(3, .int (nI 0)), (2, .ref ((243 + 2 * p))), (0, .ref 100), (1, .int (nI p))]) dX11_perform_28 (by decide) rfl ?_
      refine Sx.sub' [(3, .int (nI 0)), (0, .ref 100), (1, .int (nI p)), (2, .ref (243 + 2 * p))] rfl ?_
      have hH := hG.1.hv (by omega)
      have hc : perC V (nI p) := ⟨⟨by rw [nI_toInt (by omega)]; omega, by rw [nI_toInt (by omega)]; omega⟩, by omega⟩
      have hcb := hG.1.2.2.1.2 p (by omega)
      exact l_cper (FF := perN V p) W hcb (fun I' m f => pXX (by unfold perR; rw [if_pos hc, xN_n (by omega)]) (h I' R L (by unfold perV; rw [if_pos hc, xN_n (by omega)]; exact m) f)) (V (20 + p) 60 + 1) (V (20 + p) 60) (by omega) V 0 I C hH (by omega) rfl (CF.rf R I L) (by omega) rfl
    · refine Sx.iconst (v := (iI (-1))) dX11_perform_25 (by decide) ?_
      refine Sx.iret dX11_perform_26 rfl rfl ?_
      have hn : ¬ perC V (nI p) := fun z => by have z1 := z.1; rw [nI_toInt (by omega)] at z1; have := z.2; omega
      exact pXX (by unfold perR; rw [if_neg hn]; rfl) (h I R L (by unfold perV; rw [if_neg hn]; exact C) (CF.rf R I L))
theorem d_perform {G : Gt} {l : Launch} {Z : Zt} {R : Rt} {I : It} {L : Lt} {post : Pt'} {V : Vt} {N : Nat} {x : Int32} (W : WF Z R) (C : CI V R I L) (hG : GG N V) (hN : N < 2147483647) (h : ∀ I' R' L', CI (perV V x) R' I' L' → CF R I L R' I' L' → post (some (.int (perR V x))) Z R' I' L') : Cx G l mX11_perform 8 0 0 [.ref 100, .int x] Z R I L post := by
  by_cases c : x.toInt < 0
  · exact d_perform0 W C hG hN c h
  · by_cases c2 : 5 ≤ x.toInt
    · exact d_perform5 W C hG hN c2 h
    · obtain ⟨p, rfl, hp⟩ := x_ex (x := x) (n := 5) ⟨by omega, by omega⟩
      exact d_performP W C hG hN hp h
