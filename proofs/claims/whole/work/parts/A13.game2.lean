/-! the class: games, rests -/
theorem gm_0 {V : Vt} (hH : HV V) {a b x y : Nat} (ha : a < V 2 35) (hb2 : b < V 2 35) (hab : a ≠ b) (hua : hbN (V 3 138) a = false) (hub : hbN (V 3 138) b = false) (hx : x < V 2 34) (hy : y < V 2 34) : gmN V a b x y 0 = (gaV V a x : Int) + (if gvV V a b x y = x + 1 then 5 else 0) := by
  have e : gmN V a b x y 0 = (min 9999 (V 3 (6 + a) + gnV V x) : Nat) - (V 3 (6 + a) : Int) + (if gvV V a b x y = x + 1 then 5 else 0) := gm_e hH ha hb2 hab hx hy hua hub
  have := hH.2.2.2.2.1.2.1 a (by have := hH.2.2.2.1.2.2.2.2.2.2.2.1; omega)
  rw [e]
  unfold gaV
  omega
theorem gm_1 {V : Vt} (hH : HV V) {a b x y : Nat} (ha : a < V 2 35) (hb2 : b < V 2 35) (hab : a ≠ b) (hua : hbN (V 3 138) a = false) (hub : hbN (V 3 138) b = false) (hx : x < V 2 34) (hy : y < V 2 34) : gmN V a b x y 1 = (gaV V b y : Int) + (if gvV V a b x y = y + 1 then 5 else 0) := by
  have e : gmN V a b x y 1 = (min 9999 (V 3 (6 + b) + gnV V y) : Nat) - (V 3 (6 + b) : Int) + (if gvV V a b x y = y + 1 then 5 else 0) := gm_e hH ha hb2 hab hx hy hua hub
  have := hH.2.2.2.2.1.2.1 b (by have := hH.2.2.2.1.2.2.2.2.2.2.2.1; omega)
  rw [e]
  unfold gaV
  omega
set_option maxRecDepth 20000 in
set_option maxHeartbeats 1000000 in
theorem d_has0 {G : Gt} {l : Launch} {Z : Zt} {R : Rt} {I : It} {L : Lt} {post : Pt'} {V : Vt} {a b x y : Nat} (W : WF Z R) (hH : HV V) (ha : a < V 2 35) (hb2 : b < V 2 35) (hab : a ≠ b) (hua : hbN (V 3 138) a = false) (hub : hbN (V 3 138) b = false) (hA : GAp V a b (I 133) (V 2 34)) (hG : ∀ x y, x < V 2 34 → y < V 2 34 → I 135 (x * 6 + y) = iI ((gvV V a b x y : Int) - 1)) (hx : x < V 2 34) (hy : y < V 2 34) (h : post (some (.int (iI (gmN V a b x y 0)))) Z R I L) : Cx G l mX5_hasThen 2 0 0 [.ref 119, .int (nI x), .int (nI y), .int (nI 0)] Z R I L post := by
  refine Cx.of (by decide +kernel) (by exact Nat.le_of_ble_eq_true rfl) ?_
  obtain ⟨p1, p2, p3, p4, p5, p6, p7, p8, p9⟩ := id hH.2.2.2.1
  have hga : gaV V a x ≤ 9999 := by unfold gaV; omega
  have hgv : gvV V a b x y ≤ 6 := Nat.le_trans (amp_le _ _) p6
  refine Sx.iload_n dX5_hasThen_0 rfl ?_
  refine Sx.if_neV (t := 8) dX5_hasThen_1 (by decide) (vN (by decide)) (fun c1 => False.elim (by omega)) (fun c1 => ?_)
  refine Sx.iload_n dX5_hasThen_4 rfl ?_
  refine Sx.goto (t := 9) dX5_hasThen_5 (by decide) ?_
  refine Sx.istore (lv' := [(4, .int (nI x)), (0, .ref 119), (1, .int (nI x)), (2, .int (nI y)), (3, .int (nI 0))]) dX5_hasThen_9 (by decide) rfl ?_
  refine Sx.aload_n dX5_hasThen_11 rfl ?_
  refine Sx.getfR dX5_hasThen_12 lkf_X5_42_5 (o_119 W) (r_119_9 W) ?_
  refine Sx.iload_n dX5_hasThen_15 rfl ?_
  refine Sx.bipush (v := (nI 6)) dX5_hasThen_16 (by decide) ?_
  refine Sx.imulN dX5_hasThen_18 ?_
  refine Sx.iload_n dX5_hasThen_19 rfl ?_
  refine Sx.iaddN dX5_hasThen_20 ?_
  refine Sx.callV1 dX5_hasThen_21 lkv_X5_93 (rcv_7 (o_134 W)) (by decide) (by decide) (Nat.le_of_ble_eq_true rfl) rfl rfl (d_rget (w_134r W) (by unfold rowC; decide) (by decide) (k := x * 6 + y) (v := iI ((gvV V a b x y : Int) - 1)) (by omega) (hG x y hx hy) ?_)
  refine Sx.istore (lv' := [(5, .int (iI ((gvV V a b x y : Int) - 1))), (4, .int (nI x)), (0, .ref 119), (1, .int (nI x)), (2, .int (nI y)), (3, .int (nI 0))]) dX5_hasThen_24 (by decide) rfl ?_
  refine Sx.aload_n dX5_hasThen_26 rfl ?_
  refine Sx.getfR dX5_hasThen_27 lkf_X5_39_5 (o_119 W) (r_119_8 W) ?_
  refine Sx.iload_n dX5_hasThen_30 rfl ?_
  refine Sx.bipush (v := (nI 6)) dX5_hasThen_31 (by decide) ?_
  refine Sx.imulN dX5_hasThen_33 ?_
  refine Sx.iload dX5_hasThen_34 rfl ?_
  refine Sx.iaddN dX5_hasThen_36 ?_
  refine Sx.callV1 dX5_hasThen_37 lkv_X5_93 (rcv_7 (o_132 W)) (by decide) (by decide) (Nat.le_of_ble_eq_true rfl) rfl rfl (d_rget (w_132r W) (by unfold rowC; decide) (by decide) (k := (0 * 6) + x) (v := nI (gaV V a x)) (by omega) (by rw [show (0 * 6) + x = x by omega]; exact (hA x hx).1) ?_)
  refine Sx.iload dX5_hasThen_40 rfl ?_
  refine Sx.iload dX5_hasThen_42 rfl ?_
  refine Sx.icmp_neV (t := 51) dX5_hasThen_44 (by decide) (vZ (by omega)) (vN (by omega)) (fun c44 => ?_) (fun c44 => ?_)
  · refine Sx.iconst (v := (nI 0)) dX5_hasThen_51 (by decide) ?_
    refine Sx.iaddN dX5_hasThen_52 ?_
    refine Sx.iret dX5_hasThen_53 rfl rfl ?_
    exact pXX (by rw [gm_0 hH ha hb2 hab hua hub hx hy, if_neg (by omega), nI_iI]; congr 1) h
  · refine Sx.iconst (v := (nI 5)) dX5_hasThen_47 (by decide) ?_
    refine Sx.goto (t := 52) dX5_hasThen_48 (by decide) ?_
    refine Sx.iaddN dX5_hasThen_52 ?_
    refine Sx.iret dX5_hasThen_53 rfl rfl ?_
    exact pXX (by rw [gm_0 hH ha hb2 hab hua hub hx hy, if_pos (by omega), nI_iI]; congr 1) h
set_option maxRecDepth 20000 in
set_option maxHeartbeats 1000000 in
theorem d_has1 {G : Gt} {l : Launch} {Z : Zt} {R : Rt} {I : It} {L : Lt} {post : Pt'} {V : Vt} {a b x y : Nat} (W : WF Z R) (hH : HV V) (ha : a < V 2 35) (hb2 : b < V 2 35) (hab : a ≠ b) (hua : hbN (V 3 138) a = false) (hub : hbN (V 3 138) b = false) (hA : GAp V a b (I 133) (V 2 34)) (hG : ∀ x y, x < V 2 34 → y < V 2 34 → I 135 (x * 6 + y) = iI ((gvV V a b x y : Int) - 1)) (hx : x < V 2 34) (hy : y < V 2 34) (h : post (some (.int (iI (gmN V a b x y 1)))) Z R I L) : Cx G l mX5_hasThen 2 0 0 [.ref 119, .int (nI x), .int (nI y), .int (nI 1)] Z R I L post := by
  refine Cx.of (by decide +kernel) (by exact Nat.le_of_ble_eq_true rfl) ?_
  obtain ⟨p1, p2, p3, p4, p5, p6, p7, p8, p9⟩ := id hH.2.2.2.1
  have hga : gaV V b y ≤ 9999 := by unfold gaV; omega
  have hgv : gvV V a b x y ≤ 6 := Nat.le_trans (amp_le _ _) p6
  refine Sx.iload_n dX5_hasThen_0 rfl ?_
  refine Sx.if_neV (t := 8) dX5_hasThen_1 (by decide) (vN (by decide)) (fun c1 => ?_) (fun c1 => False.elim (by omega))
  refine Sx.iload_n dX5_hasThen_8 rfl ?_
  refine Sx.istore (lv' := [(4, .int (nI y)), (0, .ref 119), (1, .int (nI x)), (2, .int (nI y)), (3, .int (nI 1))]) dX5_hasThen_9 (by decide) rfl ?_
  refine Sx.aload_n dX5_hasThen_11 rfl ?_
  refine Sx.getfR dX5_hasThen_12 lkf_X5_42_5 (o_119 W) (r_119_9 W) ?_
  refine Sx.iload_n dX5_hasThen_15 rfl ?_
  refine Sx.bipush (v := (nI 6)) dX5_hasThen_16 (by decide) ?_
  refine Sx.imulN dX5_hasThen_18 ?_
  refine Sx.iload_n dX5_hasThen_19 rfl ?_
  refine Sx.iaddN dX5_hasThen_20 ?_
  refine Sx.callV1 dX5_hasThen_21 lkv_X5_93 (rcv_7 (o_134 W)) (by decide) (by decide) (Nat.le_of_ble_eq_true rfl) rfl rfl (d_rget (w_134r W) (by unfold rowC; decide) (by decide) (k := x * 6 + y) (v := iI ((gvV V a b x y : Int) - 1)) (by omega) (hG x y hx hy) ?_)
  refine Sx.istore (lv' := [(5, .int (iI ((gvV V a b x y : Int) - 1))), (4, .int (nI y)), (0, .ref 119), (1, .int (nI x)), (2, .int (nI y)), (3, .int (nI 1))]) dX5_hasThen_24 (by decide) rfl ?_
  refine Sx.aload_n dX5_hasThen_26 rfl ?_
  refine Sx.getfR dX5_hasThen_27 lkf_X5_39_5 (o_119 W) (r_119_8 W) ?_
  refine Sx.iload_n dX5_hasThen_30 rfl ?_
  refine Sx.bipush (v := (nI 6)) dX5_hasThen_31 (by decide) ?_
  refine Sx.imulN dX5_hasThen_33 ?_
  refine Sx.iload dX5_hasThen_34 rfl ?_
  refine Sx.iaddN dX5_hasThen_36 ?_
  refine Sx.callV1 dX5_hasThen_37 lkv_X5_93 (rcv_7 (o_132 W)) (by decide) (by decide) (Nat.le_of_ble_eq_true rfl) rfl rfl (d_rget (w_132r W) (by unfold rowC; decide) (by decide) (k := (1 * 6) + y) (v := nI (gaV V b y)) (by omega) (by rw [show (1 * 6) + y = 6 + y by omega]; exact (hA y hy).2) ?_)
  refine Sx.iload dX5_hasThen_40 rfl ?_
  refine Sx.iload dX5_hasThen_42 rfl ?_
  refine Sx.icmp_neV (t := 51) dX5_hasThen_44 (by decide) (vZ (by omega)) (vN (by omega)) (fun c44 => ?_) (fun c44 => ?_)
  · refine Sx.iconst (v := (nI 0)) dX5_hasThen_51 (by decide) ?_
    refine Sx.iaddN dX5_hasThen_52 ?_
    refine Sx.iret dX5_hasThen_53 rfl rfl ?_
    exact pXX (by rw [gm_1 hH ha hb2 hab hua hub hx hy, if_neg (by omega), nI_iI]; congr 1) h
  · refine Sx.iconst (v := (nI 5)) dX5_hasThen_47 (by decide) ?_
    refine Sx.goto (t := 52) dX5_hasThen_48 (by decide) ?_
    refine Sx.iaddN dX5_hasThen_52 ?_
    refine Sx.iret dX5_hasThen_53 rfl rfl ?_
    exact pXX (by rw [gm_1 hH ha hb2 hab hua hub hx hy, if_pos (by omega), nI_iI]; congr 1) h
theorem d_hasT {G : Gt} {l : Launch} {Z : Zt} {R : Rt} {I : It} {L : Lt} {post : Pt'} {V : Vt} {a b x y q : Nat} (W : WF Z R) (hH : HV V) (ha : a < V 2 35) (hb2 : b < V 2 35) (hab : a ≠ b) (hua : hbN (V 3 138) a = false) (hub : hbN (V 3 138) b = false) (hA : GAp V a b (I 133) (V 2 34)) (hG : ∀ x y, x < V 2 34 → y < V 2 34 → I 135 (x * 6 + y) = iI ((gvV V a b x y : Int) - 1)) (hx : x < V 2 34) (hy : y < V 2 34) (hq : q ≤ 1) (h : post (some (.int (iI (gmN V a b x y q)))) Z R I L) : Cx G l mX5_hasThen 2 0 0 [.ref 119, .int (nI x), .int (nI y), .int (nI q)] Z R I L post := by
  rcases (show q = 0 ∨ q = 1 by omega) with rfl | rfl
  · exact d_has0 W hH ha hb2 hab hua hub hA hG hx hy h
  · exact d_has1 W hH ha hb2 hab hua hub hA hG hx hy h
set_option maxRecDepth 20000 in
set_option maxHeartbeats 1000000 in
theorem d_gameOf {G : Gt} {l : Launch} {Z : Zt} {R : Rt} {I : It} {L : Lt} {post : Pt'} {V : Vt} {a b x y q : Nat} (W : WF Z R) (C : CI V R I L) (hH : HV V) (hb : V 0 1 ≤ 4 ∧ V 0 3 ≤ 4) (ha : a < V 2 35) (hb2 : b < V 2 35) (hab : a ≠ b) (hua : hbN (V 3 138) a = false) (hub : hbN (V 3 138) b = false) (hx : x < V 2 34) (hy : y < V 2 34) (hq : q ≤ 1) (h : ∀ I', CI V R I' L → OF I I' → post (some (.int (iI (gmN V a b x y q)))) Z R I' L) : Cx G l mX5_gameOf 6 0 0 [.ref 119, .ref 229, .int (nI a), .int (nI b), .int (nI x), .int (nI y), .int (nI q)] Z R I L post := by
  refine Cx.of (by decide +kernel) (by exact Nat.le_of_ble_eq_true rfl) ?_
  refine Sx.aload_n dX5_gameOf_0 rfl ?_
  refine Sx.aload_n dX5_gameOf_1 rfl ?_
  refine Sx.iload_n dX5_gameOf_2 rfl ?_
  refine Sx.iload_n dX5_gameOf_3 rfl ?_
  refine Sx.callV3 dX5_gameOf_4 lkv_X5_140 (rcv_5 (o_119 W)) (by decide) (by decide) (Nat.le_of_ble_eq_true rfl) rfl rfl (d_layOut W C hH hb ha hb2 hab (fun I1 C1 o1 hA hG => ?_))
  refine Sx.aload_n dX5_gameOf_7 rfl ?_
  refine Sx.iload dX5_gameOf_8 rfl ?_
  refine Sx.iload dX5_gameOf_10 rfl ?_
  refine Sx.iload dX5_gameOf_12 rfl ?_
  refine Sx.callV3 dX5_gameOf_14 lkv_X5_144 (rcv_5 (o_119 W)) (by decide) (by decide) (Nat.le_of_ble_eq_true rfl) rfl rfl (d_hasT W hH ha hb2 hab hua hub hA hG hx hy hq ?_)
  refine Sx.iret dX5_gameOf_17 rfl rfl ?_
  exact h I1 C1 o1
set_option maxRecDepth 20000 in
set_option maxHeartbeats 1000000 in
theorem d_canPlay {G : Gt} {l : Launch} {Z : Zt} {R : Rt} {I : It} {L : Lt} {post : Pt'} {V : Vt} {N : Nat} {a b : Int32} (W : WF Z R) (C : CI V R I L) (hG : GG N V) (hN : N < 2147483647) (h : post (some (.int (b2i (decide (playC V a b))))) Z R I L) : Cx G l mX11_canPlay 3 0 0 [.ref 100, .int a, .int b] Z R I L post := by
  refine Cx.of (by decide +kernel) (by exact Nat.le_of_ble_eq_true rfl) ?_
  have hB := hG.1.bnd
  have hp6 := hG.1.p
  have hb := hG.1.b
  have h00 := hG.1.1.1
  refine Sx.iload_n dX11_canPlay_0 rfl ?_
  refine Sx.iload_n dX11_canPlay_1 rfl ?_
  refine Sx.icmp_eqV (t := 53) dX11_canPlay_2 (by decide) (vX a) (vX b) (fun c2 => ?_) (fun c2 => ?_)
  · refine Sx.iconst (v := (nI 0)) dX11_canPlay_53 (by decide) ?_
    refine Sx.top (show _ = b2i false from rfl) ?_
    refine Sx.iret dX11_canPlay_54 rfl (b2i_n _) ?_
    refine pBB (decide_eq_false (fun z => ?_)) h
    obtain ⟨z1, z2, z3, z4, z5⟩ := z
    first | omega | (rw [xp] at z4; rw [xq] at z5; simp_all)
  · refine Sx.aload_n dX11_canPlay_5 rfl ?_
    refine Sx.getfR dX11_canPlay_6 lkf_X11_19_11 (o_100 W) (r_100_1 W) ?_
    refine Sx.iload_n dX11_canPlay_9 rfl ?_
    refine Sx.callV1 dX11_canPlay_10 lkv_X11_189 (rcv_6 (o_103 W)) (by decide) (by decide) (Nat.le_of_ble_eq_true rfl) rfl rfl (d_isPerson W C.2.1 (by omega) ?_)
    refine Sx.if_eqD (t := 53) dX11_canPlay_13 (by decide) (fun c13 => ?_) (fun c13 => ?_)
    · refine Sx.iconst (v := (nI 0)) dX11_canPlay_53 (by decide) ?_
      refine Sx.top (show _ = b2i false from rfl) ?_
      refine Sx.iret dX11_canPlay_54 rfl (b2i_n _) ?_
      refine pBB (decide_eq_false (fun z => ?_)) h
      obtain ⟨z1, z2, z3, z4, z5⟩ := z
      first | omega | (rw [xp] at z4; rw [xq] at z5; simp_all)
    · refine Sx.aload_n dX11_canPlay_16 rfl ?_
      refine Sx.getfR dX11_canPlay_17 lkf_X11_19_11 (o_100 W) (r_100_1 W) ?_
      refine Sx.iload_n dX11_canPlay_20 rfl ?_
      refine Sx.callV1 dX11_canPlay_21 lkv_X11_189 (rcv_6 (o_103 W)) (by decide) (by decide) (Nat.le_of_ble_eq_true rfl) rfl rfl (d_isPerson W C.2.1 (by omega) ?_)
      refine Sx.if_eqD (t := 53) dX11_canPlay_24 (by decide) (fun c24 => ?_) (fun c24 => ?_)
      · refine Sx.iconst (v := (nI 0)) dX11_canPlay_53 (by decide) ?_
        refine Sx.top (show _ = b2i false from rfl) ?_
        refine Sx.iret dX11_canPlay_54 rfl (b2i_n _) ?_
        refine pBB (decide_eq_false (fun z => ?_)) h
        obtain ⟨z1, z2, z3, z4, z5⟩ := z
        first | omega | (rw [xp] at z4; rw [xq] at z5; simp_all)
      · have hH := hG.1.hv (by omega)
        obtain ⟨p, rfl, hp⟩ := x_ex (x := a) (n := V 2 35) ⟨by omega, by omega⟩
        obtain ⟨q, rfl, hq⟩ := x_ex (x := b) (n := V 2 35) ⟨by omega, by omega⟩
        have ep := x_toN (p := p) (by omega)
        have eq := x_toN (p := q) (by omega)
        have xp := xN_n (j := p) (by omega)
        have xq := xN_n (j := q) (by omega)
        refine Sx.sub' [(0, .ref 100), (1, .int (nI p)), (2, .int (nI q))] rfl ?_
        refine Sx.aload_n dX11_canPlay_27 rfl ?_
        refine Sx.getfR dX11_canPlay_28 lkf_X11_89_11 (o_100 W) (r_100_11 W) ?_
        refine Sx.iload_n dX11_canPlay_31 rfl ?_
        refine Sx.callV1 dX11_canPlay_32 lkv_X11_195 (rcv_8 (o_229 W)) (by decide) (by decide) (Nat.le_of_ble_eq_true rfl) rfl rfl (c_X8_isInBed (w_229r W) C.2.2.1 hH.2.2.2.2.1.2.2.2.2.2.2.1 (by omega) ?_)
        refine Sx.if_neB (t := 53) dX11_canPlay_35 (by decide) (fun c35 => ?_) (fun c35 => ?_)
        · refine Sx.iconst (v := (nI 0)) dX11_canPlay_53 (by decide) ?_
          refine Sx.top (show _ = b2i false from rfl) ?_
          refine Sx.iret dX11_canPlay_54 rfl (b2i_n _) ?_
          refine pBB (decide_eq_false (fun z => ?_)) h
          obtain ⟨z1, z2, z3, z4, z5⟩ := z
          first | omega | (rw [xp] at z4; rw [xq] at z5; simp_all)
        · refine Sx.aload_n dX11_canPlay_38 rfl ?_
          refine Sx.getfR dX11_canPlay_39 lkf_X11_89_11 (o_100 W) (r_100_11 W) ?_
          refine Sx.iload_n dX11_canPlay_42 rfl ?_
          refine Sx.callV1 dX11_canPlay_43 lkv_X11_195 (rcv_8 (o_229 W)) (by decide) (by decide) (Nat.le_of_ble_eq_true rfl) rfl rfl (c_X8_isInBed (w_229r W) C.2.2.1 hH.2.2.2.2.1.2.2.2.2.2.2.1 (by omega) ?_)
          refine Sx.if_neB (t := 53) dX11_canPlay_46 (by decide) (fun c46 => ?_) (fun c46 => ?_)
          · refine Sx.iconst (v := (nI 0)) dX11_canPlay_53 (by decide) ?_
            refine Sx.top (show _ = b2i false from rfl) ?_
            refine Sx.iret dX11_canPlay_54 rfl (b2i_n _) ?_
            refine pBB (decide_eq_false (fun z => ?_)) h
            obtain ⟨z1, z2, z3, z4, z5⟩ := z
            first | omega | (rw [xp] at z4; rw [xq] at z5; simp_all)
          · refine Sx.iconst (v := (nI 1)) dX11_canPlay_49 (by decide) ?_
            refine Sx.goto (t := 54) dX11_canPlay_50 (by decide) ?_
            refine Sx.top (show _ = b2i true from rfl) ?_
            refine Sx.iret dX11_canPlay_54 rfl (b2i_n _) ?_
            refine pBB (decide_eq_true ?_) h
            exact ⟨⟨by omega, by omega⟩, ⟨by omega, by omega⟩, by omega, by rw [xp]; simp_all, by rw [xq]; simp_all⟩
set_option maxRecDepth 20000 in
set_option maxHeartbeats 1000000 in
theorem d_game {G : Gt} {l : Launch} {Z : Zt} {R : Rt} {I : It} {L : Lt} {post : Pt'} {V : Vt} {N : Nat} {a b x y q : Int32} (W : WF Z R) (C : CI V R I L) (hG : GG N V) (hN : N < 2147483647) (h : CQ post Z R I L V (gameR V a b x y q)) : Cx G l mX11_game 7 0 0 [.ref 100, .int a, .int b, .int x, .int y, .int q] Z R I L post := by
  refine Cx.of (by decide +kernel) (by exact Nat.le_of_ble_eq_true rfl) ?_
  have hB := hG.1.bnd
  have hp6 := hG.1.p
  have hb := hG.1.b
  have h00 := hG.1.1.1
  refine Sx.aload_n dX11_game_0 rfl ?_
  refine Sx.iload_n dX11_game_1 rfl ?_
  refine Sx.iload_n dX11_game_2 rfl ?_
  refine Sx.callV2 dX11_game_3 lkv_X11_329 (rcv_11 (o_100 W)) (by decide) (by decide) (Nat.le_of_ble_eq_true rfl) rfl rfl (d_canPlay W C hG hN ?_)
  refine Sx.if_eqD (t := 43) dX11_game_6 (by decide) (fun c6 => ?_) (fun c6 => ?_)
  · refine Sx.ldc dX11_game_43 lkk_X11_180 ?_
    refine Sx.top (show _ = (iI (-1000000)) by decide) ?_
    refine Sx.iret dX11_game_45 rfl rfl ?_
    have hn : ¬ gameC V a b x y q := fun z => by obtain ⟨z1, z2, z3, z4, z5⟩ := z; first | omega | exact absurd z1 (by assumption)
    exact pXX (by unfold gameR; rw [if_neg hn]) (h I R L C (CF.rf R I L))
  · refine Sx.aload_n dX11_game_9 rfl ?_
    refine Sx.getfR dX11_game_10 lkf_X11_19_11 (o_100 W) (r_100_1 W) ?_
    refine Sx.iload_n dX11_game_13 rfl ?_
    refine Sx.callV1 dX11_game_14 lkv_X11_177 (rcv_6 (o_103 W)) (by decide) (by decide) (Nat.le_of_ble_eq_true rfl) rfl rfl (d_isKind W C.2.1 (by omega) ?_)
    refine Sx.if_eqD (t := 43) dX11_game_17 (by decide) (fun c17 => ?_) (fun c17 => ?_)
    · refine Sx.ldc dX11_game_43 lkk_X11_180 ?_
      refine Sx.top (show _ = (iI (-1000000)) by decide) ?_
      refine Sx.iret dX11_game_45 rfl rfl ?_
      have hn : ¬ gameC V a b x y q := fun z => by obtain ⟨z1, z2, z3, z4, z5⟩ := z; first | omega | exact absurd z1 (by assumption)
      exact pXX (by unfold gameR; rw [if_neg hn]) (h I R L C (CF.rf R I L))
    · refine Sx.aload_n dX11_game_20 rfl ?_
      refine Sx.getfR dX11_game_21 lkf_X11_19_11 (o_100 W) (r_100_1 W) ?_
      refine Sx.iload dX11_game_24 rfl ?_
      refine Sx.callV1 dX11_game_26 lkv_X11_177 (rcv_6 (o_103 W)) (by decide) (by decide) (Nat.le_of_ble_eq_true rfl) rfl rfl (d_isKind W C.2.1 (by omega) ?_)
      refine Sx.if_eqD (t := 43) dX11_game_29 (by decide) (fun c29 => ?_) (fun c29 => ?_)
      · refine Sx.ldc dX11_game_43 lkk_X11_180 ?_
        refine Sx.top (show _ = (iI (-1000000)) by decide) ?_
        refine Sx.iret dX11_game_45 rfl rfl ?_
        have hn : ¬ gameC V a b x y q := fun z => by obtain ⟨z1, z2, z3, z4, z5⟩ := z; first | omega | exact absurd z1 (by assumption)
        exact pXX (by unfold gameR; rw [if_neg hn]) (h I R L C (CF.rf R I L))
      · refine Sx.iload dX11_game_32 rfl ?_
        refine Sx.if_ltV (t := 43) dX11_game_34 (by decide) (vX q) (fun c34 => ?_) (fun c34 => ?_)
        · refine Sx.ldc dX11_game_43 lkk_X11_180 ?_
          refine Sx.top (show _ = (iI (-1000000)) by decide) ?_
          refine Sx.iret dX11_game_45 rfl rfl ?_
          have hn : ¬ gameC V a b x y q := fun z => by obtain ⟨z1, z2, z3, z4, z5⟩ := z; first | omega | exact absurd z1 (by assumption)
          exact pXX (by unfold gameR; rw [if_neg hn]) (h I R L C (CF.rf R I L))
        · refine Sx.iload dX11_game_37 rfl ?_
          refine Sx.iconst (v := (nI 1)) dX11_game_39 (by decide) ?_
          refine Sx.icmp_leV (t := 46) dX11_game_40 (by decide) (vX q) (vN (by decide)) (fun c40 => ?_) (fun c40 => ?_)
          · have hc : gameC V a b x y q := ⟨by assumption, ⟨by omega, by omega⟩, ⟨by omega, by omega⟩, by omega, by omega⟩
            obtain ⟨g1, g2, g3, g4, g5⟩ := id hc.1
            have hH := hG.1.hv (by omega)
            obtain ⟨a1, rfl, ha1⟩ := x_ex (x := a) (n := V 2 35) ⟨by omega, by omega⟩
            obtain ⟨b1, rfl, hb1⟩ := x_ex (x := b) (n := V 2 35) ⟨by omega, by omega⟩
            obtain ⟨x1, rfl, hx1⟩ := x_ex (x := x) (n := V 2 34) ⟨by omega, by omega⟩
            obtain ⟨y1, rfl, hy1⟩ := x_ex (x := y) (n := V 2 34) ⟨by omega, by omega⟩
            obtain ⟨q1, rfl, hq1⟩ := x_ex (x := q) (n := 2) ⟨by omega, by omega⟩
            have e1 := x_toN (p := a1) (by omega)
            have e2 := x_toN (p := b1) (by omega)
            refine Sx.sub' [(0, .ref 100), (1, .int (nI a1)), (2, .int (nI b1)), (3, .int (nI x1)), (4, .int (nI y1)), (5, .int (nI q1))] rfl ?_
            refine Sx.aload_n dX11_game_46 rfl ?_
            refine Sx.getfR dX11_game_47 lkf_X11_68_11 (o_100 W) (r_100_8 W) ?_
            refine Sx.aload_n dX11_game_50 rfl ?_
            refine Sx.getfR dX11_game_51 lkf_X11_89_11 (o_100 W) (r_100_11 W) ?_
            refine Sx.iload_n dX11_game_54 rfl ?_
            refine Sx.iload_n dX11_game_55 rfl ?_
            refine Sx.iload_n dX11_game_56 rfl ?_
            refine Sx.iload dX11_game_57 rfl ?_
            refine Sx.iload dX11_game_59 rfl ?_
            refine Sx.callV6 dX11_game_61 lkv_X11_332 (rcv_5 (o_119 W)) (by decide) (by decide) (Nat.le_of_ble_eq_true rfl) rfl rfl (d_gameOf W C hH hb (by omega) (by omega) (by omega) (by have := g4; rwa [xN_n (by omega)] at this) (by have := g5; rwa [xN_n (by omega)] at this) (by omega) (by omega) (by omega) (fun I1 C1 o1 => ?_))
            refine Sx.iret dX11_game_64 rfl rfl ?_
            exact pXX (by unfold gameR; rw [if_pos hc, xN_n (by omega), xN_n (by omega), xN_n (by omega), xN_n (by omega), xN_n (by omega)]) (h I1 R L C1 o1.cf)
          · refine Sx.ldc dX11_game_43 lkk_X11_180 ?_
            refine Sx.top (show _ = (iI (-1000000)) by decide) ?_
            refine Sx.iret dX11_game_45 rfl rfl ?_
            have hn : ¬ gameC V a b x y q := fun z => by obtain ⟨z1, z2, z3, z4, z5⟩ := z; first | omega | exact absurd z1 (by assumption)
            exact pXX (by unfold gameR; rw [if_neg hn]) (h I R L C (CF.rf R I L))
