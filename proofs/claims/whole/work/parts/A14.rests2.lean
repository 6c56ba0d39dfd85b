/-! the class: rests -/
set_option maxRecDepth 20000 in
set_option maxHeartbeats 1000000 in
theorem l_cir {G : Gt} {l : Launch} {Z : Zt} {R : Rt} {I : It} {L : Lt} {post : Pt'} {V : Vt} {a b x y : Nat} (W : WF Z R) (C : CI V R I L) (hH : HV V) (ha : a < V 2 35) (hb2 : b < V 2 35) (hab : a ≠ b) (hua : hbN (V 3 138) a = false) (hub : hbN (V 3 138) b = false) (hA : GAp V a b (I 133) (V 2 34)) (hG : ∀ x y, x < V 2 34 → y < V 2 34 → I 135 (x * 6 + y) = iI ((gvV V a b x y : Int) - 1)) (hx : x < V 2 34) (hy : y < V 2 34) (h : post (some (.int (b2i (isRj V a b x y (V 2 34))))) Z R I L) :
    ∀ (r j : Nat), j ≤ V 2 34 → V 2 34 < j + r → isRj V a b x y j = true → Sx G l mX5_isRest 3 0 0 2 [(3, .int (nI j)), (2, .int (nI y)), (1, .int (nI x)), (0, .ref 119)] [] Z R I L post := by
  obtain ⟨p1, p2, p3, p4, p5, p6, p7, p8, p9⟩ := id hH.2.2.2.1
  intro r
  induction r with
  | zero => intro j h1 h2; omega
  | succ r ih =>
    intro j h1 h2 hj
    refine Sx.iload_n dX5_isRest_2 rfl ?_
    refine Sx.aload_n dX5_isRest_3 rfl ?_
    refine Sx.getfR dX5_isRest_4 lkf_X5_45_5 (o_119 W) (r_119_0 W) ?_
    refine Sx.callV0 dX5_isRest_7 lkv_X5_109 (rcv_6 (o_103 W)) (by decide) (by decide) (Nat.le_of_ble_eq_true rfl) rfl rfl (c_kinds (w_103r W) C.2.1 ?_)
    refine Sx.icmp_geV (t := 55) dX5_isRest_10 (by decide) (vN (by omega)) (vN (by omega)) (fun c10 => ?_) (fun c10 => ?_)
    · refine Sx.iconst (v := (nI 1)) dX5_isRest_55 (by decide) ?_
      refine Sx.top (show _ = b2i true from rfl) ?_
      refine Sx.iret dX5_isRest_56 rfl (b2i_n _) ?_
      have hz : j = V 2 34 := by omega
      subst hz
      exact pBB hj h
    · have hb0 := gmN_b (x := j) (y := y) (q := 0) hH ha hb2 (by omega) hy
      have hb1 := gmN_b (x := x) (y := y) (q := 0) hH ha hb2 hx hy
      have hb3 := gmN_b (x := x) (y := j) (q := 1) hH ha hb2 hx (by omega)
      have hb4 := gmN_b (x := x) (y := y) (q := 1) hH ha hb2 hx hy
      refine Sx.aload_n dX5_isRest_13 rfl ?_
      refine Sx.iload_n dX5_isRest_14 rfl ?_
      refine Sx.iload_n dX5_isRest_15 rfl ?_
      refine Sx.iconst (v := (nI 0)) dX5_isRest_16 (by decide) ?_
      refine Sx.callV3 dX5_isRest_17 lkv_X5_144 (rcv_5 (o_119 W)) (by decide) (by decide) (Nat.le_of_ble_eq_true rfl) rfl rfl (d_has0 W hH ha hb2 hab hua hub hA hG (by omega) (by omega) ?_)
      refine Sx.aload_n dX5_isRest_20 rfl ?_
      refine Sx.iload_n dX5_isRest_21 rfl ?_
      refine Sx.iload_n dX5_isRest_22 rfl ?_
      refine Sx.iconst (v := (nI 0)) dX5_isRest_23 (by decide) ?_
      refine Sx.callV3 dX5_isRest_24 lkv_X5_144 (rcv_5 (o_119 W)) (by decide) (by decide) (Nat.le_of_ble_eq_true rfl) rfl rfl (d_has0 W hH ha hb2 hab hua hub hA hG (by omega) (by omega) ?_)
      refine Sx.icmp_gtV (t := 47) dX5_isRest_27 (by decide) (vZ (by omega)) (vZ (by omega)) (fun c27 => ?_) (fun c27 => ?_)
      · refine Sx.iconst (v := (nI 0)) dX5_isRest_47 (by decide) ?_
        refine Sx.top (show _ = b2i false from rfl) ?_
        refine Sx.iret dX5_isRest_48 rfl (b2i_n _) ?_
        have hz : isRj V a b x y (V 2 34) = false := decide_eq_false (fun z => by have := z j (by omega); omega)
        exact pBB hz h
      · refine Sx.aload_n dX5_isRest_30 rfl ?_
        refine Sx.iload_n dX5_isRest_31 rfl ?_
        refine Sx.iload_n dX5_isRest_32 rfl ?_
        refine Sx.iconst (v := (nI 1)) dX5_isRest_33 (by decide) ?_
        refine Sx.callV3 dX5_isRest_34 lkv_X5_144 (rcv_5 (o_119 W)) (by decide) (by decide) (Nat.le_of_ble_eq_true rfl) rfl rfl (d_has1 W hH ha hb2 hab hua hub hA hG (by omega) (by omega) ?_)
        refine Sx.aload_n dX5_isRest_37 rfl ?_
        refine Sx.iload_n dX5_isRest_38 rfl ?_
        refine Sx.iload_n dX5_isRest_39 rfl ?_
        refine Sx.iconst (v := (nI 1)) dX5_isRest_40 (by decide) ?_
        refine Sx.callV3 dX5_isRest_41 lkv_X5_144 (rcv_5 (o_119 W)) (by decide) (by decide) (Nat.le_of_ble_eq_true rfl) rfl rfl (d_has1 W hH ha hb2 hab hua hub hA hG (by omega) (by omega) ?_)
        refine Sx.icmp_leV (t := 49) dX5_isRest_44 (by decide) (vZ (by omega)) (vZ (by omega)) (fun c44 => ?_) (fun c44 => ?_)
        · refine Sx.iinc (v := (nI (j + 1))) (lv' := [(3, .int (nI (j + 1))), (2, .int (nI y)), (1, .int (nI x)), (0, .ref 119)]) dX5_isRest_49 rfl (nI_add j 1) (by decide) rfl ?_
          refine Sx.goto (t := 2) dX5_isRest_52 (by decide) ?_
          refine Sx.sub' [(3, .int (nI (j + 1))), (2, .int (nI y)), (1, .int (nI x)), (0, .ref 119)] rfl ?_
          exact ih (j + 1) (by omega) (by omega) (isRj_y hj ⟨by omega, by omega⟩)
        · refine Sx.iconst (v := (nI 0)) dX5_isRest_47 (by decide) ?_
          refine Sx.top (show _ = b2i false from rfl) ?_
          refine Sx.iret dX5_isRest_48 rfl (b2i_n _) ?_
          have hz : isRj V a b x y (V 2 34) = false := decide_eq_false (fun z => by have := z j (by omega); omega)
          exact pBB hz h
set_option maxRecDepth 20000 in
set_option maxHeartbeats 1000000 in
theorem d_isRest {G : Gt} {l : Launch} {Z : Zt} {R : Rt} {I : It} {L : Lt} {post : Pt'} {V : Vt} {a b x y : Nat} (W : WF Z R) (C : CI V R I L) (hH : HV V) (ha : a < V 2 35) (hb2 : b < V 2 35) (hab : a ≠ b) (hua : hbN (V 3 138) a = false) (hub : hbN (V 3 138) b = false) (hA : GAp V a b (I 133) (V 2 34)) (hG : ∀ x y, x < V 2 34 → y < V 2 34 → I 135 (x * 6 + y) = iI ((gvV V a b x y : Int) - 1)) (hx : x < V 2 34) (hy : y < V 2 34) (h : post (some (.int (b2i (isRj V a b x y (V 2 34))))) Z R I L) : Cx G l mX5_isRest 3 0 0 [.ref 119, .int (nI x), .int (nI y)] Z R I L post := by
  refine Cx.of (by decide +kernel) (by exact Nat.le_of_ble_eq_true rfl) ?_
  refine Sx.iconst (v := (nI 0)) dX5_isRest_0 (by decide) ?_
  refine Sx.istore_n (lv' := [(3, .int (nI 0)), (0, .ref 119), (1, .int (nI x)), (2, .int (nI y))]) dX5_isRest_1 (by decide) rfl ?_
  refine Sx.sub' [(3, .int (nI 0)), (2, .int (nI y)), (1, .int (nI x)), (0, .ref 119)] rfl ?_
  exact l_cir W C hH ha hb2 hab hua hub hA hG hx hy h (V 2 34 + 1) 0 (by omega) (by omega) (decide_eq_true (fun k hk => by omega))
set_option maxRecDepth 20000 in
set_option maxHeartbeats 1000000 in
theorem l_crs7 {G : Gt} {l : Launch} {Z : Zt} {R : Rt} {I : It} {L : Lt} {post : Pt'} {V : Vt} {a b x : Nat} {i : Int32} {FF : Int} (W : WF Z R) (C : CI V R I L) (hH : HV V) (ha : a < V 2 35) (hb2 : b < V 2 35) (hab : a ≠ b) (hua : hbN (V 3 138) a = false) (hub : hbN (V 3 138) b = false) (hA : GAp V a b (I 133) (V 2 34)) (hG : ∀ x y, x < V 2 34 → y < V 2 34 → I 135 (x * 6 + y) = iI ((gvV V a b x y : Int) - 1)) (hx : x < V 2 34) (h76 : ∀ mn, mn ≤ V 2 34 * (x + 1) → rsF (isT V a b) i.toInt (V 2 34) (V 2 34 * V 2 34 - V 2 34 * (x + 1)) (V 2 34 * (x + 1)) mn = FF → Sx G l mX5_restsOf 6 0 0 76 [(7, .int (nI (V 2 34))), (6, .int (nI x)), (5, .int (nI mn)), (4, .int i), (3, .int (nI b)), (2, .int (nI a)), (1, .ref 229), (0, .ref 119)] [] Z R I L post) (h : post (some (.int (iI FF))) Z R I L) :
    ∀ (r y mn : Nat), y ≤ V 2 34 → V 2 34 < y + r → mn ≤ V 2 34 * x + y → rsF (isT V a b) i.toInt (V 2 34) (V 2 34 * V 2 34 - (V 2 34 * x + y)) (V 2 34 * x + y) mn = FF → Sx G l mX5_restsOf 6 0 0 28 [(7, .int (nI y)), (6, .int (nI x)), (5, .int (nI mn)), (4, .int i), (3, .int (nI b)), (2, .int (nI a)), (1, .ref 229), (0, .ref 119)] [] Z R I L post := by
  obtain ⟨p1, p2, p3, p4, p5, p6, p7, p8, p9⟩ := id hH.2.2.2.1
  have hx2 : V 2 34 * (x + 1) = V 2 34 * x + V 2 34 := Nat.mul_succ _ _
  have hx1 : V 2 34 * (x + 1) ≤ V 2 34 * V 2 34 := Nat.mul_le_mul_left _ (by omega)
  have h36 : V 2 34 * V 2 34 ≤ 6 * 6 := Nat.mul_le_mul p6 p6
  have hi := x_rg i
  intro r
  induction r with
  | zero => intro y mn h1 h2; omega
  | succ r ih =>
    intro y mn h1 h2 hmn hF
    refine Sx.iload dX5_restsOf_28 rfl ?_
    refine Sx.aload_n dX5_restsOf_30 rfl ?_
    refine Sx.getfR dX5_restsOf_31 lkf_X5_45_5 (o_119 W) (r_119_0 W) ?_
    refine Sx.callV0 dX5_restsOf_34 lkv_X5_109 (rcv_6 (o_103 W)) (by decide) (by decide) (Nat.le_of_ble_eq_true rfl) rfl rfl (c_kinds (w_103r W) C.2.1 ?_)
    refine Sx.icmp_geV (t := 76) dX5_restsOf_37 (by decide) (vN (by omega)) (vN (by omega)) (fun c37 => ?_) (fun c37 => ?_)
    · have hj : y = V 2 34 := by omega
      subst hj
      exact h76 mn (by omega) (by rw [hx2]; exact hF)
    · refine Sx.aload_n dX5_restsOf_40 rfl ?_
      refine Sx.iload dX5_restsOf_41 rfl ?_
      refine Sx.iload dX5_restsOf_43 rfl ?_
      refine Sx.callV2 dX5_restsOf_45 lkv_X5_148 (rcv_5 (o_119 W)) (by decide) (by decide) (Nat.le_of_ble_eq_true rfl) rfl rfl (d_isRest W C hH ha hb2 hab hua hub hA hG hx (by omega) ?_)
      refine Sx.if_eqB (t := 70) dX5_restsOf_48 (by decide) (fun c48 => ?_) (fun c48 => ?_)
      · refine Sx.iinc (v := (nI (y + 1))) (lv' := [(7, .int (nI (y + 1))), (6, .int (nI x)), (5, .int (nI mn)), (4, .int i), (3, .int (nI b)), (2, .int (nI a)), (1, .ref 229), (0, .ref 119)]) dX5_restsOf_70 rfl (nI_add y 1) (by decide) rfl ?_
        refine Sx.goto (t := 28) dX5_restsOf_73 (by decide) ?_
        refine Sx.sub' [(7, .int (nI (y + 1))), (6, .int (nI x)), (5, .int (nI (mn))), (4, .int i), (3, .int (nI b)), (2, .int (nI a)), (1, .ref 229), (0, .ref 119)] rfl ?_
        have ht : isT V a b (V 2 34 * x + y) = isRj V a b x y (V 2 34) := by unfold isT; rw [(t_dm (show y < V 2 34 by omega)).1, (t_dm (show y < V 2 34 by omega)).2]
        refine ih (y + 1) (mn) (by omega) (by omega) (by omega) ?_
        rw [show V 2 34 * x + (y + 1) = V 2 34 * x + y + 1 by omega]
        rw [← hF, show V 2 34 * V 2 34 - (V 2 34 * x + y) = V 2 34 * V 2 34 - (V 2 34 * x + y + 1) + 1 by omega, rsF_s, ht]
        exact (if_neg (by simp_all)).symm
      · refine Sx.iload dX5_restsOf_51 rfl ?_
        refine Sx.iload dX5_restsOf_53 rfl ?_
        refine Sx.icmp_neV (t := 67) dX5_restsOf_55 (by decide) (vN (by omega)) (vX i) (fun c55 => ?_) (fun c55 => ?_)
        · refine Sx.iinc (v := (nI (mn + 1))) (lv' := [(5, .int (nI (mn + 1))), (7, .int (nI y)), (6, .int (nI x)), (4, .int i), (3, .int (nI b)), (2, .int (nI a)), (1, .ref 229), (0, .ref 119)]) dX5_restsOf_67 rfl (nI_add mn 1) (by decide) rfl ?_
          refine Sx.iinc (v := (nI (y + 1))) (lv' := [(7, .int (nI (y + 1))), (5, .int (nI (mn + 1))), (6, .int (nI x)), (4, .int i), (3, .int (nI b)), (2, .int (nI a)), (1, .ref 229), (0, .ref 119)]) dX5_restsOf_70 rfl (nI_add y 1) (by decide) rfl ?_
          refine Sx.goto (t := 28) dX5_restsOf_73 (by decide) ?_
          refine Sx.sub' [(7, .int (nI (y + 1))), (6, .int (nI x)), (5, .int (nI (mn + 1))), (4, .int i), (3, .int (nI b)), (2, .int (nI a)), (1, .ref 229), (0, .ref 119)] rfl ?_
          have ht : isT V a b (V 2 34 * x + y) = isRj V a b x y (V 2 34) := by unfold isT; rw [(t_dm (show y < V 2 34 by omega)).1, (t_dm (show y < V 2 34 by omega)).2]
          refine ih (y + 1) (mn + 1) (by omega) (by omega) (by omega) ?_
          rw [show V 2 34 * x + (y + 1) = V 2 34 * x + y + 1 by omega]
          rw [← hF, show V 2 34 * V 2 34 - (V 2 34 * x + y) = V 2 34 * V 2 34 - (V 2 34 * x + y + 1) + 1 by omega, rsF_s, ht]
          exact ((if_pos (by assumption)).trans (if_neg (by omega))).symm
        · refine Sx.bipush (v := (nI 10)) dX5_restsOf_58 (by decide) ?_
          refine Sx.iload dX5_restsOf_60 rfl ?_
          refine Sx.imulN dX5_restsOf_62 ?_
          refine Sx.iload dX5_restsOf_63 rfl ?_
          refine Sx.iaddN dX5_restsOf_65 ?_
          refine Sx.iret dX5_restsOf_66 rfl rfl ?_
          have ht : isT V a b (V 2 34 * x + y) = isRj V a b x y (V 2 34) := by unfold isT; rw [(t_dm (show y < V 2 34 by omega)).1, (t_dm (show y < V 2 34 by omega)).2]
          have e : FF = ((10 * x + y : Nat) : Int) := by
            rw [← hF, show V 2 34 * V 2 34 - (V 2 34 * x + y) = V 2 34 * V 2 34 - (V 2 34 * x + y + 1) + 1 by omega, rsF_s, ht, (t_dm (show y < V 2 34 by omega)).1, (t_dm (show y < V 2 34 by omega)).2]
            exact (if_pos (by assumption)).trans (if_pos (by omega))
          exact pXX (by rw [e, ← nI_iI]) h
set_option maxRecDepth 20000 in
set_option maxHeartbeats 1000000 in
theorem l_crs6 {G : Gt} {l : Launch} {Z : Zt} {R : Rt} {I : It} {L : Lt} {post : Pt'} {V : Vt} {a b : Nat} {i : Int32} {FF : Int} (W : WF Z R) (C : CI V R I L) (hH : HV V) (ha : a < V 2 35) (hb2 : b < V 2 35) (hab : a ≠ b) (hua : hbN (V 3 138) a = false) (hub : hbN (V 3 138) b = false) (hA : GAp V a b (I 133) (V 2 34)) (hG : ∀ x y, x < V 2 34 → y < V 2 34 → I 135 (x * 6 + y) = iI ((gvV V a b x y : Int) - 1)) (h : post (some (.int (iI FF))) Z R I L) :
    ∀ (r x mn : Nat), x ≤ V 2 34 → V 2 34 < x + r → mn ≤ V 2 34 * x → rsF (isT V a b) i.toInt (V 2 34) (V 2 34 * V 2 34 - V 2 34 * x) (V 2 34 * x) mn = FF → Sx G l mX5_restsOf 6 0 0 13 [(6, .int (nI x)), (5, .int (nI mn)), (4, .int i), (3, .int (nI b)), (2, .int (nI a)), (1, .ref 229), (0, .ref 119)] [] Z R I L post := by
  obtain ⟨p1, p2, p3, p4, p5, p6, p7, p8, p9⟩ := id hH.2.2.2.1
  intro r
  induction r with
  | zero => intro x mn h1 h2; omega
  | succ r ih =>
    intro x mn h1 h2 hmn hF
    refine Sx.iload dX5_restsOf_13 rfl ?_
    refine Sx.aload_n dX5_restsOf_15 rfl ?_
    refine Sx.getfR dX5_restsOf_16 lkf_X5_45_5 (o_119 W) (r_119_0 W) ?_
    refine Sx.callV0 dX5_restsOf_19 lkv_X5_109 (rcv_6 (o_103 W)) (by decide) (by decide) (Nat.le_of_ble_eq_true rfl) rfl rfl (c_kinds (w_103r W) C.2.1 ?_)
    refine Sx.icmp_geV (t := 82) dX5_restsOf_22 (by decide) (vN (by omega)) (vN (by omega)) (fun c22 => ?_) (fun c22 => ?_)
    · have hj : x = V 2 34 := by omega
      subst hj
      have h36 : V 2 34 * V 2 34 ≤ 6 * 6 := Nat.mul_le_mul p6 p6
      have hi := x_rg i
      refine Sx.iload dX5_restsOf_82 rfl ?_
      refine Sx.iconst (v := (iI (-1))) dX5_restsOf_84 (by decide) ?_
      refine Sx.icmp_neV (t := 93) dX5_restsOf_85 (by decide) (vX i) (vZ (by decide)) (fun c85 => ?_) (fun c85 => ?_)
      · refine Sx.iconst (v := (iI (-1))) dX5_restsOf_93 (by decide) ?_
        refine Sx.iret dX5_restsOf_94 rfl rfl ?_
        have e : FF = -1 := by rw [← hF, Nat.sub_self, rsF_0, if_neg (by omega)]
        exact pXX (by rw [e]) h
      · refine Sx.iload dX5_restsOf_88 rfl ?_
        refine Sx.goto (t := 94) dX5_restsOf_90 (by decide) ?_
        refine Sx.iret dX5_restsOf_94 rfl rfl ?_
        have e : FF = (mn : Int) := by rw [← hF, Nat.sub_self, rsF_0, if_pos (by omega)]
        exact pXX (by rw [e, ← nI_iI]) h
    · refine Sx.iconst (v := (nI 0)) dX5_restsOf_25 (by decide) ?_
      refine Sx.istore (lv' := [(7, .int (nI 0)), (6, .int (nI x)), (5, .int (nI mn)), (4, .int i), (3, .int (nI b)), (2, .int (nI a)), (1, .ref 229), (0, .ref 119)]) dX5_restsOf_26 (by decide) rfl ?_
      refine Sx.sub' [(7, .int (nI 0)), (6, .int (nI x)), (5, .int (nI mn)), (4, .int i), (3, .int (nI b)), (2, .int (nI a)), (1, .ref 229), (0, .ref 119)] rfl ?_
      refine l_crs7 W C hH ha hb2 hab hua hub hA hG (show x < V 2 34 by omega) (fun mn2 hmn2 hF2 => ?_) h (V 2 34 + 1) 0 mn (by omega) (by omega) hmn hF
      refine Sx.iinc (v := (nI (x + 1))) (lv' := [(6, .int (nI (x + 1))), (7, .int (nI (V 2 34))), (5, .int (nI mn2)), (4, .int i), (3, .int (nI b)), (2, .int (nI a)), (1, .ref 229), (0, .ref 119)]) dX5_restsOf_76 rfl (nI_add x 1) (by decide) rfl ?_
      refine Sx.goto (t := 13) dX5_restsOf_79 (by decide) ?_
      refine Sx.sub' [(6, .int (nI (x + 1))), (5, .int (nI mn2)), (4, .int i), (3, .int (nI b)), (2, .int (nI a)), (1, .ref 229), (0, .ref 119)] rfl ?_
      exact ih (x + 1) mn2 (by omega) (by omega) hmn2 hF2
set_option maxRecDepth 20000 in
set_option maxHeartbeats 1000000 in
theorem d_restsOf {G : Gt} {l : Launch} {Z : Zt} {R : Rt} {I : It} {L : Lt} {post : Pt'} {V : Vt} {a b : Nat} {i : Int32} (W : WF Z R) (C : CI V R I L) (hH : HV V) (hb : V 0 1 ≤ 4 ∧ V 0 3 ≤ 4) (ha : a < V 2 35) (hb2 : b < V 2 35) (hab : a ≠ b) (hua : hbN (V 3 138) a = false) (hub : hbN (V 3 138) b = false) (h : ∀ I', CI V R I' L → OF I I' → post (some (.int (iI (rsF (isT V a b) i.toInt (V 2 34) (V 2 34 * V 2 34) 0 0)))) Z R I' L) : Cx G l mX5_restsOf 6 0 0 [.ref 119, .ref 229, .int (nI a), .int (nI b), .int i] Z R I L post := by
  refine Cx.of (by decide +kernel) (by exact Nat.le_of_ble_eq_true rfl) ?_
  refine Sx.aload_n dX5_restsOf_0 rfl ?_
  refine Sx.aload_n dX5_restsOf_1 rfl ?_
  refine Sx.iload_n dX5_restsOf_2 rfl ?_
  refine Sx.iload_n dX5_restsOf_3 rfl ?_
  refine Sx.callV3 dX5_restsOf_4 lkv_X5_140 (rcv_5 (o_119 W)) (by decide) (by decide) (Nat.le_of_ble_eq_true rfl) rfl rfl (d_layOut W C hH hb ha hb2 hab (fun I1 C1 o1 hA hG => ?_))
  refine Sx.iconst (v := (nI 0)) dX5_restsOf_7 (by decide) ?_
  refine Sx.istore (lv' := [(5, .int (nI 0)), (0, .ref 119), (1, .ref 229), (2, .int (nI a)), (3, .int (nI b)), (4, .int i)]) dX5_restsOf_8 (by decide) rfl ?_
  refine Sx.iconst (v := (nI 0)) dX5_restsOf_10 (by decide) ?_
  refine Sx.istore (lv' := [(6, .int (nI 0)), (5, .int (nI 0)), (0, .ref 119), (1, .ref 229), (2, .int (nI a)), (3, .int (nI b)), (4, .int i)]) dX5_restsOf_11 (by decide) rfl ?_
  refine Sx.sub' [(6, .int (nI 0)), (5, .int (nI 0)), (4, .int i), (3, .int (nI b)), (2, .int (nI a)), (1, .ref 229), (0, .ref 119)] rfl ?_
  exact l_crs6 W C1 hH ha hb2 hab hua hub hA hG (h I1 C1 o1) (V 2 34 + 1) 0 0 (Nat.zero_le _) (by omega) (Nat.zero_le _) rfl
theorem rsF_neg {is : Nat → Bool} {i : Int} {K : Nat} (h : i < -1) : ∀ m t many, rsF is i K m t many = -1
  | 0, t, many => by rw [rsF_0, if_neg (by omega)]
  | m + 1, t, many => by
    rw [rsF_s, rsF_neg h m (t + 1) (many + 1), rsF_neg h m (t + 1) many]
    split
    · rw [if_neg (by omega)]
    · rfl
set_option maxRecDepth 20000 in
set_option maxHeartbeats 1000000 in
theorem d_rests {G : Gt} {l : Launch} {Z : Zt} {R : Rt} {I : It} {L : Lt} {post : Pt'} {V : Vt} {N : Nat} {a b i : Int32} (W : WF Z R) (C : CI V R I L) (hG : GG N V) (hN : N < 2147483647) (h : CQ post Z R I L V (restR V a b i)) : Cx G l mX11_rests 7 0 0 [.ref 100, .int a, .int b, .int i] Z R I L post := by
  refine Cx.of (by decide +kernel) (by exact Nat.le_of_ble_eq_true rfl) ?_
  have hB := hG.1.bnd
  have hp6 := hG.1.p
  have hb := hG.1.b
  have h00 := hG.1.1.1
  refine Sx.aload_n dX11_rests_0 rfl ?_
  refine Sx.iload_n dX11_rests_1 rfl ?_
  refine Sx.iload_n dX11_rests_2 rfl ?_
  refine Sx.callV2 dX11_rests_3 lkv_X11_329 (rcv_11 (o_100 W)) (by decide) (by decide) (Nat.le_of_ble_eq_true rfl) rfl rfl (d_canPlay W C hG hN ?_)
  refine Sx.if_eqD (t := 26) dX11_rests_6 (by decide) (fun c6 => ?_) (fun c6 => ?_)
  · refine Sx.iconst (v := (iI (-1))) dX11_rests_26 (by decide) ?_
    refine Sx.iret dX11_rests_27 rfl rfl ?_
    have hn : ¬ restC V a b i := fun z => absurd z.1 (by assumption)
    exact pXX (by unfold restR; rw [if_neg hn]; rfl) (h I R L C (CF.rf R I L))
  · have hpc : playC V a b := by assumption
    obtain ⟨g1, g2, g3, g4, g5⟩ := id hpc
    have hH := hG.1.hv (by omega)
    obtain ⟨a1, rfl, ha1⟩ := x_ex (x := a) (n := V 2 35) ⟨by omega, by omega⟩
    obtain ⟨b1, rfl, hb1⟩ := x_ex (x := b) (n := V 2 35) ⟨by omega, by omega⟩
    have e1 := x_toN (p := a1) (by omega)
    have e2 := x_toN (p := b1) (by omega)
    refine Sx.sub' [(0, .ref 100), (1, .int (nI a1)), (2, .int (nI b1)), (3, .int i)] rfl ?_
    refine Sx.aload_n dX11_rests_9 rfl ?_
    refine Sx.getfR dX11_rests_10 lkf_X11_68_11 (o_100 W) (r_100_8 W) ?_
    refine Sx.aload_n dX11_rests_13 rfl ?_
    refine Sx.getfR dX11_rests_14 lkf_X11_89_11 (o_100 W) (r_100_11 W) ?_
    refine Sx.iload_n dX11_rests_17 rfl ?_
    refine Sx.iload_n dX11_rests_18 rfl ?_
    refine Sx.iload_n dX11_rests_19 rfl ?_
    refine Sx.callV4 dX11_rests_20 lkv_X11_336 (rcv_5 (o_119 W)) (by decide) (by decide) (Nat.le_of_ble_eq_true rfl) rfl rfl (d_restsOf W C hH hb (by omega) (by omega) (by omega) (by have := g4; rwa [xN_n (by omega)] at this) (by have := g5; rwa [xN_n (by omega)] at this) (fun I1 C1 o1 => ?_))
    refine Sx.goto (t := 27) dX11_rests_23 (by decide) ?_
    refine Sx.iret dX11_rests_27 rfl rfl ?_
    refine pXX ?_ (h I1 R L C1 o1.cf)
    unfold restR
    by_cases ci : -1 ≤ i.toInt
    · rw [if_pos ⟨hpc, ci⟩, xN_n (by omega), xN_n (by omega)]
    · rw [if_neg (fun z => ci z.2), rsF_neg (by omega)]; rfl
