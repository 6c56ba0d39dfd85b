/-! the class: the reader of laws: takes -/
set_option maxRecDepth 20000 in
set_option maxHeartbeats 1000000 in
theorem d_tk0 {G : Gt} {l : Launch} {Z : Zt} {R : Rt} {I : It} {L : Lt} {post : Pt'} {T M S : Nat → Nat} {n c x a : Nat} (W : WF Z R) (hL : LR I M S) (hT : TS I T n c) (hx : sgn T n c = x) (hx0 : x ≠ 0) (hx2 : x < 256) (hM2 : M 2 = 0) (h0 : x ≠ 121 → post (some (.int (b2i false))) Z R I L) (h1 : x = 121 → ∀ I', TS I' T n (c + 1) → LR I' (upn M 2 1) S → (∀ q, q ≠ 101 → q ≠ 107 → I' q = I q) → post (some (.int (b2i true))) Z R I' L) : Cx G l mX4_takes 4 0 0 [.ref 107, .int (nI x), .ref 101, .ref a] Z R I L post := by
  refine Cx.of (by decide +kernel) (by exact Nat.le_of_ble_eq_true rfl) ?_
  refine Sx.aload_n dX4_takes_0 rfl ?_
  refine Sx.getfV (v := (nI 0)) dX4_takes_1 lkf_X4_24_4 (o_107 W) (by rw [hL.1 2 (by decide) (by decide), hM2]) ?_
  refine Sx.lookup (t := 32) dX4_takes_4 (by decide) (o := 28) (by decide) (by decide) ?_
  refine Sx.aload_n dX4_takes_32 rfl ?_
  refine Sx.iload_n dX4_takes_33 rfl ?_
  refine Sx.bipush (v := (nI 121)) dX4_takes_34 (by decide) ?_
  refine Sx.icmp_neV (t := 43) dX4_takes_36 (by decide) (vN (by omega)) (vN (by decide)) (fun c36 => ?_) (fun c36 => ?_)
  · refine Sx.iconst (v := (nI 0)) dX4_takes_43 (by decide) ?_
    refine Sx.iconst (v := (nI 1)) dX4_takes_44 (by decide) ?_
    refine Sx.aload_n dX4_takes_45 rfl ?_
    refine Sx.callV3 dX4_takes_46 lkv_X4_79 (rcv_4 (o_107 W)) (by decide) (by decide) (Nat.le_of_ble_eq_true rfl) rfl rfl (d_tIf0 W ?_)
    refine Sx.iret dX4_takes_49 rfl (b2i_n _) ?_
    exact h0 (by omega)
  · refine Sx.iconst (v := (nI 1)) dX4_takes_39 (by decide) ?_
    refine Sx.goto (t := 44) dX4_takes_40 (by decide) ?_
    refine Sx.iconst (v := (nI 1)) dX4_takes_44 (by decide) ?_
    refine Sx.aload_n dX4_takes_45 rfl ?_
    refine Sx.callV3 dX4_takes_46 lkv_X4_79 (rcv_4 (o_107 W)) (by decide) (by decide) (Nat.le_of_ble_eq_true rfl) rfl rfl (d_tIf1 W hL hT (sgn_lt (by rw [hx]; exact hx0)) (fun I1 t1 l1 o1 => ?_))
    refine Sx.iret dX4_takes_49 rfl (b2i_n _) ?_
    exact h1 (by omega) I1 t1 l1 o1
set_option maxRecDepth 20000 in
set_option maxHeartbeats 1000000 in
theorem d_tk1 {G : Gt} {l : Launch} {Z : Zt} {R : Rt} {I : It} {L : Lt} {post : Pt'} {T M S : Nat → Nat} {n c x a : Nat} (W : WF Z R) (hL : LR I M S) (hT : TS I T n c) (hx : sgn T n c = x) (hx0 : x ≠ 0) (hx2 : x < 256) (hM2 : M 2 = 1) (h0 : x ≠ 58 → ∀ I', TS I' T n c → (∀ q, q ≠ 107 → I' q = I q) → post (some (.int (b2i false))) Z R I' L) (h1 : x = 58 → ∀ I', TS I' T n (c + 1) → LR I' (upn (upn (upn M 6 0) 7 0) 2 2) S → (∀ q, q ≠ 101 → q ≠ 107 → I' q = I q) → post (some (.int (b2i true))) Z R I' L) : Cx G l mX4_takes 4 0 0 [.ref 107, .int (nI x), .ref 101, .ref a] Z R I L post := by
  refine Cx.of (by decide +kernel) (by exact Nat.le_of_ble_eq_true rfl) ?_
  refine Sx.aload_n dX4_takes_0 rfl ?_
  refine Sx.getfV (v := (nI 1)) dX4_takes_1 lkf_X4_24_4 (o_107 W) (by rw [hL.1 2 (by decide) (by decide), hM2]) ?_
  refine Sx.lookup (t := 50) dX4_takes_4 (by decide) (o := 46) (by decide) (by decide) ?_
  refine Sx.aload_n dX4_takes_50 rfl ?_
  refine Sx.iconst (v := (nI 0)) dX4_takes_51 (by decide) ?_
  refine Sx.putfV dX4_takes_52 lkp_X4_36_4 (o_107 W) rfl rfl (fun I1 e1 o1 => ?_)
  refine Sx.aload_n dX4_takes_55 rfl ?_
  refine Sx.iconst (v := (nI 0)) dX4_takes_56 (by decide) ?_
  refine Sx.putfV dX4_takes_57 lkp_X4_40_4 (o_107 W) rfl rfl (fun I2 e2 o2 => ?_)
  have L1 := hL.up (j := 6) (by decide) e1 o1
  have L2 := L1.up (j := 7) (by decide) e2 o2
  have T2 : TS I2 T n c := hT.o fun q hq => by rw [o2 q (by omega), o1 q (by omega)]
  refine Sx.aload_n dX4_takes_60 rfl ?_
  refine Sx.iload_n dX4_takes_61 rfl ?_
  refine Sx.bipush (v := (nI 58)) dX4_takes_62 (by decide) ?_
  refine Sx.icmp_neV (t := 71) dX4_takes_64 (by decide) (vN (by omega)) (vN (by decide)) (fun c64 => ?_) (fun c64 => ?_)
  · refine Sx.iconst (v := (nI 0)) dX4_takes_71 (by decide) ?_
    refine Sx.iconst (v := (nI 2)) dX4_takes_72 (by decide) ?_
    refine Sx.aload_n dX4_takes_73 rfl ?_
    refine Sx.callV3 dX4_takes_74 lkv_X4_79 (rcv_4 (o_107 W)) (by decide) (by decide) (Nat.le_of_ble_eq_true rfl) rfl rfl (d_tIf0 W ?_)
    refine Sx.iret dX4_takes_77 rfl (b2i_n _) ?_
    exact h0 (by omega) I2 T2 (fun q q1 => by rw [o2 q q1, o1 q q1])
  · refine Sx.iconst (v := (nI 1)) dX4_takes_67 (by decide) ?_
    refine Sx.goto (t := 72) dX4_takes_68 (by decide) ?_
    refine Sx.iconst (v := (nI 2)) dX4_takes_72 (by decide) ?_
    refine Sx.aload_n dX4_takes_73 rfl ?_
    refine Sx.callV3 dX4_takes_74 lkv_X4_79 (rcv_4 (o_107 W)) (by decide) (by decide) (Nat.le_of_ble_eq_true rfl) rfl rfl (d_tIf1 W L2 T2 (sgn_lt (by rw [hx]; exact hx0)) (fun I3 t3 l3 o3 => ?_))
    refine Sx.iret dX4_takes_77 rfl (b2i_n _) ?_
    exact h1 (by omega) I3 t3 l3 (fun q q1 q2 => by rw [o3 q q1 q2, o2 q q2, o1 q q2])
set_option maxRecDepth 20000 in
set_option maxHeartbeats 1000000 in
theorem d_tkO2_91 {G : Gt} {l : Launch} {Z : Zt} {R : Rt} {I : It} {L : Lt} {post : Pt'} {T M S : Nat → Nat} {n c a : Nat} (W : WF Z R) (hL : LR I M S) (hT : TS I T n c) (hc : c < n) (hw : M 1 < 64) (h4 : M 4 < 100) (h5 : M 5 < 100) (h3 : M 3 < 6) (hM2 : M 2 = 2) (h : ∀ I', TS I' T n (c + 1) → LR I' (upn (upn (upn (upn M 3 (M 3 + 1)) 5 (M 5 + 1)) 2 3) 1 (M 1 + 1)) (upn S (M 1) 91) → (∀ q, q ≠ 101 → q ≠ 107 → q ≠ 109 → I' q = I q) → post (some (.int (b2i true))) Z R I' L) : Cx G l mX4_takes 4 0 0 [.ref 107, .int (nI 91), .ref 101, .ref a] Z R I L post := by
  refine Cx.of (by decide +kernel) (by exact Nat.le_of_ble_eq_true rfl) ?_
  refine Sx.aload_n dX4_takes_0 rfl ?_
  refine Sx.getfV (v := (nI 2)) dX4_takes_1 lkf_X4_24_4 (o_107 W) (by rw [hL.1 2 (by decide) (by decide), hM2]) ?_
  refine Sx.lookup (t := 78) dX4_takes_4 (by decide) (o := 74) (by decide) (by decide) ?_
  refine Sx.iload_n dX4_takes_78 rfl ?_
  refine Sx.bipush (v := (nI 91)) dX4_takes_79 (by decide) ?_
  refine Sx.icmp_eqV (t := 104) dX4_takes_81 (by decide) (vN (by decide)) (vN (by decide)) (fun c81 => ?_) (fun c81 => False.elim (by omega))
  refine Sx.iconst (v := (nI 1)) dX4_takes_104 (by decide) ?_
  refine Sx.goto (t := 109) dX4_takes_105 (by decide) ?_
  refine Sx.istore (lv' := [(4, .int (nI 1)), (0, .ref 107), (1, .int (nI 91)), (2, .ref 101), (3, .ref a)]) dX4_takes_109 (by decide) rfl ?_
  refine Sx.iload dX4_takes_111 rfl ?_
  refine Sx.if_eqV (t := 125) dX4_takes_113 (by decide) (vN (by decide)) (fun c113 => False.elim (by omega)) (fun c113 => ?_)
  refine Sx.aload_n dX4_takes_116 rfl ?_
  refine Sx.iload_n dX4_takes_117 rfl ?_
  refine Sx.aload_n dX4_takes_118 rfl ?_
  refine Sx.callV2 dX4_takes_119 lkv_X4_83 (rcv_4 (o_107 W)) (by decide) (by decide) (Nat.le_of_ble_eq_true rfl) rfl rfl (d_open91 W hL hT hc hw h3 h4 h5 (fun I1 t1 l1 o1 => ?_))
  refine Sx.goto (t := 132) dX4_takes_122 (by decide) ?_
  refine Sx.iret dX4_takes_132 rfl (b2i_n _) ?_
  exact h I1 t1 l1 o1
set_option maxRecDepth 20000 in
set_option maxHeartbeats 1000000 in
theorem d_tkF2_91 {G : Gt} {l : Launch} {Z : Zt} {R : Rt} {I : It} {L : Lt} {post : Pt'} {M S : Nat → Nat} {a : Nat} (W : WF Z R) (hL : LR I M S) (h6 : 6 ≤ M 3) (h7 : M 3 < 1000) (hM2 : M 2 = 2) (h : post (some (.int (b2i false))) Z R I L) : Cx G l mX4_takes 4 0 0 [.ref 107, .int (nI 91), .ref 101, .ref a] Z R I L post := by
  refine Cx.of (by decide +kernel) (by exact Nat.le_of_ble_eq_true rfl) ?_
  refine Sx.aload_n dX4_takes_0 rfl ?_
  refine Sx.getfV (v := (nI 2)) dX4_takes_1 lkf_X4_24_4 (o_107 W) (by rw [hL.1 2 (by decide) (by decide), hM2]) ?_
  refine Sx.lookup (t := 78) dX4_takes_4 (by decide) (o := 74) (by decide) (by decide) ?_
  refine Sx.iload_n dX4_takes_78 rfl ?_
  refine Sx.bipush (v := (nI 91)) dX4_takes_79 (by decide) ?_
  refine Sx.icmp_eqV (t := 104) dX4_takes_81 (by decide) (vN (by decide)) (vN (by decide)) (fun c81 => ?_) (fun c81 => False.elim (by omega))
  refine Sx.iconst (v := (nI 1)) dX4_takes_104 (by decide) ?_
  refine Sx.goto (t := 109) dX4_takes_105 (by decide) ?_
  refine Sx.istore (lv' := [(4, .int (nI 1)), (0, .ref 107), (1, .int (nI 91)), (2, .ref 101), (3, .ref a)]) dX4_takes_109 (by decide) rfl ?_
  refine Sx.iload dX4_takes_111 rfl ?_
  refine Sx.if_eqV (t := 125) dX4_takes_113 (by decide) (vN (by decide)) (fun c113 => False.elim (by omega)) (fun c113 => ?_)
  refine Sx.aload_n dX4_takes_116 rfl ?_
  refine Sx.iload_n dX4_takes_117 rfl ?_
  refine Sx.aload_n dX4_takes_118 rfl ?_
  refine Sx.callV2 dX4_takes_119 lkv_X4_83 (rcv_4 (o_107 W)) (by decide) (by decide) (Nat.le_of_ble_eq_true rfl) rfl rfl (d_openF W hL h6 h7 ?_)
  refine Sx.goto (t := 132) dX4_takes_122 (by decide) ?_
  refine Sx.iret dX4_takes_132 rfl (b2i_n _) ?_
  exact h
set_option maxRecDepth 20000 in
set_option maxHeartbeats 1000000 in
theorem d_tkO3_91 {G : Gt} {l : Launch} {Z : Zt} {R : Rt} {I : It} {L : Lt} {post : Pt'} {T M S : Nat → Nat} {n c a : Nat} (W : WF Z R) (hL : LR I M S) (hT : TS I T n c) (hc : c < n) (hw : M 1 < 64) (h4 : M 4 < 100) (h5 : M 5 < 100) (h3 : M 3 < 6) (hM2 : M 2 = 3) (h : ∀ I', TS I' T n (c + 1) → LR I' (upn (upn (upn (upn M 3 (M 3 + 1)) 5 (M 5 + 1)) 2 3) 1 (M 1 + 1)) (upn S (M 1) 91) → (∀ q, q ≠ 101 → q ≠ 107 → q ≠ 109 → I' q = I q) → post (some (.int (b2i true))) Z R I' L) : Cx G l mX4_takes 4 0 0 [.ref 107, .int (nI 91), .ref 101, .ref a] Z R I L post := by
  refine Cx.of (by decide +kernel) (by exact Nat.le_of_ble_eq_true rfl) ?_
  refine Sx.aload_n dX4_takes_0 rfl ?_
  refine Sx.getfV (v := (nI 3)) dX4_takes_1 lkf_X4_24_4 (o_107 W) (by rw [hL.1 2 (by decide) (by decide), hM2]) ?_
  refine Sx.lookup (t := 78) dX4_takes_4 (by decide) (o := 74) (by decide) (by decide) ?_
  refine Sx.iload_n dX4_takes_78 rfl ?_
  refine Sx.bipush (v := (nI 91)) dX4_takes_79 (by decide) ?_
  refine Sx.icmp_eqV (t := 104) dX4_takes_81 (by decide) (vN (by decide)) (vN (by decide)) (fun c81 => ?_) (fun c81 => False.elim (by omega))
  refine Sx.iconst (v := (nI 1)) dX4_takes_104 (by decide) ?_
  refine Sx.goto (t := 109) dX4_takes_105 (by decide) ?_
  refine Sx.istore (lv' := [(4, .int (nI 1)), (0, .ref 107), (1, .int (nI 91)), (2, .ref 101), (3, .ref a)]) dX4_takes_109 (by decide) rfl ?_
  refine Sx.iload dX4_takes_111 rfl ?_
  refine Sx.if_eqV (t := 125) dX4_takes_113 (by decide) (vN (by decide)) (fun c113 => False.elim (by omega)) (fun c113 => ?_)
  refine Sx.aload_n dX4_takes_116 rfl ?_
  refine Sx.iload_n dX4_takes_117 rfl ?_
  refine Sx.aload_n dX4_takes_118 rfl ?_
  refine Sx.callV2 dX4_takes_119 lkv_X4_83 (rcv_4 (o_107 W)) (by decide) (by decide) (Nat.le_of_ble_eq_true rfl) rfl rfl (d_open91 W hL hT hc hw h3 h4 h5 (fun I1 t1 l1 o1 => ?_))
  refine Sx.goto (t := 132) dX4_takes_122 (by decide) ?_
  refine Sx.iret dX4_takes_132 rfl (b2i_n _) ?_
  exact h I1 t1 l1 o1
set_option maxRecDepth 20000 in
set_option maxHeartbeats 1000000 in
theorem d_tkF3_91 {G : Gt} {l : Launch} {Z : Zt} {R : Rt} {I : It} {L : Lt} {post : Pt'} {M S : Nat → Nat} {a : Nat} (W : WF Z R) (hL : LR I M S) (h6 : 6 ≤ M 3) (h7 : M 3 < 1000) (hM2 : M 2 = 3) (h : post (some (.int (b2i false))) Z R I L) : Cx G l mX4_takes 4 0 0 [.ref 107, .int (nI 91), .ref 101, .ref a] Z R I L post := by
  refine Cx.of (by decide +kernel) (by exact Nat.le_of_ble_eq_true rfl) ?_
  refine Sx.aload_n dX4_takes_0 rfl ?_
  refine Sx.getfV (v := (nI 3)) dX4_takes_1 lkf_X4_24_4 (o_107 W) (by rw [hL.1 2 (by decide) (by decide), hM2]) ?_
  refine Sx.lookup (t := 78) dX4_takes_4 (by decide) (o := 74) (by decide) (by decide) ?_
  refine Sx.iload_n dX4_takes_78 rfl ?_
  refine Sx.bipush (v := (nI 91)) dX4_takes_79 (by decide) ?_
  refine Sx.icmp_eqV (t := 104) dX4_takes_81 (by decide) (vN (by decide)) (vN (by decide)) (fun c81 => ?_) (fun c81 => False.elim (by omega))
  refine Sx.iconst (v := (nI 1)) dX4_takes_104 (by decide) ?_
  refine Sx.goto (t := 109) dX4_takes_105 (by decide) ?_
  refine Sx.istore (lv' := [(4, .int (nI 1)), (0, .ref 107), (1, .int (nI 91)), (2, .ref 101), (3, .ref a)]) dX4_takes_109 (by decide) rfl ?_
  refine Sx.iload dX4_takes_111 rfl ?_
  refine Sx.if_eqV (t := 125) dX4_takes_113 (by decide) (vN (by decide)) (fun c113 => False.elim (by omega)) (fun c113 => ?_)
  refine Sx.aload_n dX4_takes_116 rfl ?_
  refine Sx.iload_n dX4_takes_117 rfl ?_
  refine Sx.aload_n dX4_takes_118 rfl ?_
  refine Sx.callV2 dX4_takes_119 lkv_X4_83 (rcv_4 (o_107 W)) (by decide) (by decide) (Nat.le_of_ble_eq_true rfl) rfl rfl (d_openF W hL h6 h7 ?_)
  refine Sx.goto (t := 132) dX4_takes_122 (by decide) ?_
  refine Sx.iret dX4_takes_132 rfl (b2i_n _) ?_
  exact h
set_option maxRecDepth 20000 in
set_option maxHeartbeats 1000000 in
theorem d_tkO2_33 {G : Gt} {l : Launch} {Z : Zt} {R : Rt} {I : It} {L : Lt} {post : Pt'} {T M S : Nat → Nat} {n c a : Nat} (W : WF Z R) (hL : LR I M S) (hT : TS I T n c) (hc : c < n) (hw : M 1 < 64) (h4 : M 4 < 100) (h5 : M 5 < 100) (h3 : M 3 < 6) (hM2 : M 2 = 2) (h : ∀ I', TS I' T n (c + 1) → LR I' (upn (upn (upn (upn M 3 (M 3 + 1)) 4 (M 4 + 0)) 6 1) 1 (M 1 + 1)) (upn S (M 1) 33) → (∀ q, q ≠ 101 → q ≠ 107 → q ≠ 109 → I' q = I q) → post (some (.int (b2i true))) Z R I' L) : Cx G l mX4_takes 4 0 0 [.ref 107, .int (nI 33), .ref 101, .ref a] Z R I L post := by
  refine Cx.of (by decide +kernel) (by exact Nat.le_of_ble_eq_true rfl) ?_
  refine Sx.aload_n dX4_takes_0 rfl ?_
  refine Sx.getfV (v := (nI 2)) dX4_takes_1 lkf_X4_24_4 (o_107 W) (by rw [hL.1 2 (by decide) (by decide), hM2]) ?_
  refine Sx.lookup (t := 78) dX4_takes_4 (by decide) (o := 74) (by decide) (by decide) ?_
  refine Sx.iload_n dX4_takes_78 rfl ?_
  refine Sx.bipush (v := (nI 91)) dX4_takes_79 (by decide) ?_
  refine Sx.icmp_eqV (t := 104) dX4_takes_81 (by decide) (vN (by decide)) (vN (by decide)) (fun c81 => False.elim (by omega)) (fun c81 => ?_)
  refine Sx.aload_n dX4_takes_84 rfl ?_
  refine Sx.getfV (v := (nI 2)) dX4_takes_85 lkf_X4_24_4 (o_107 W) (by rw [hL.1 2 (by decide) (by decide), hM2]) ?_
  refine Sx.iconst (v := (nI 2)) dX4_takes_88 (by decide) ?_
  refine Sx.icmp_neV (t := 108) dX4_takes_89 (by decide) (vN (by decide)) (vN (by decide)) (fun c89 => False.elim (by omega)) (fun c89 => ?_)
  refine Sx.iload_n dX4_takes_92 rfl ?_
  refine Sx.bipush (v := (nI 33)) dX4_takes_93 (by decide) ?_
  refine Sx.icmp_eqV (t := 104) dX4_takes_95 (by decide) (vN (by decide)) (vN (by decide)) (fun c95 => ?_) (fun c95 => False.elim (by omega))
  refine Sx.iconst (v := (nI 1)) dX4_takes_104 (by decide) ?_
  refine Sx.goto (t := 109) dX4_takes_105 (by decide) ?_
  refine Sx.istore (lv' := [(4, .int (nI 1)), (0, .ref 107), (1, .int (nI 33)), (2, .ref 101), (3, .ref a)]) dX4_takes_109 (by decide) rfl ?_
  refine Sx.iload dX4_takes_111 rfl ?_
  refine Sx.if_eqV (t := 125) dX4_takes_113 (by decide) (vN (by decide)) (fun c113 => False.elim (by omega)) (fun c113 => ?_)
  refine Sx.aload_n dX4_takes_116 rfl ?_
  refine Sx.iload_n dX4_takes_117 rfl ?_
  refine Sx.aload_n dX4_takes_118 rfl ?_
  refine Sx.callV2 dX4_takes_119 lkv_X4_83 (rcv_4 (o_107 W)) (by decide) (by decide) (Nat.le_of_ble_eq_true rfl) rfl rfl (d_open33 W hL hT hc hw h3 h4 h5 (fun I1 t1 l1 o1 => ?_))
  refine Sx.goto (t := 132) dX4_takes_122 (by decide) ?_
  refine Sx.iret dX4_takes_132 rfl (b2i_n _) ?_
  exact h I1 t1 l1 o1
set_option maxRecDepth 20000 in
set_option maxHeartbeats 1000000 in
theorem d_tkF2_33 {G : Gt} {l : Launch} {Z : Zt} {R : Rt} {I : It} {L : Lt} {post : Pt'} {M S : Nat → Nat} {a : Nat} (W : WF Z R) (hL : LR I M S) (h6 : 6 ≤ M 3) (h7 : M 3 < 1000) (hM2 : M 2 = 2) (h : post (some (.int (b2i false))) Z R I L) : Cx G l mX4_takes 4 0 0 [.ref 107, .int (nI 33), .ref 101, .ref a] Z R I L post := by
  refine Cx.of (by decide +kernel) (by exact Nat.le_of_ble_eq_true rfl) ?_
  refine Sx.aload_n dX4_takes_0 rfl ?_
  refine Sx.getfV (v := (nI 2)) dX4_takes_1 lkf_X4_24_4 (o_107 W) (by rw [hL.1 2 (by decide) (by decide), hM2]) ?_
  refine Sx.lookup (t := 78) dX4_takes_4 (by decide) (o := 74) (by decide) (by decide) ?_
  refine Sx.iload_n dX4_takes_78 rfl ?_
  refine Sx.bipush (v := (nI 91)) dX4_takes_79 (by decide) ?_
  refine Sx.icmp_eqV (t := 104) dX4_takes_81 (by decide) (vN (by decide)) (vN (by decide)) (fun c81 => False.elim (by omega)) (fun c81 => ?_)
  refine Sx.aload_n dX4_takes_84 rfl ?_
  refine Sx.getfV (v := (nI 2)) dX4_takes_85 lkf_X4_24_4 (o_107 W) (by rw [hL.1 2 (by decide) (by decide), hM2]) ?_
  refine Sx.iconst (v := (nI 2)) dX4_takes_88 (by decide) ?_
  refine Sx.icmp_neV (t := 108) dX4_takes_89 (by decide) (vN (by decide)) (vN (by decide)) (fun c89 => False.elim (by omega)) (fun c89 => ?_)
  refine Sx.iload_n dX4_takes_92 rfl ?_
  refine Sx.bipush (v := (nI 33)) dX4_takes_93 (by decide) ?_
  refine Sx.icmp_eqV (t := 104) dX4_takes_95 (by decide) (vN (by decide)) (vN (by decide)) (fun c95 => ?_) (fun c95 => False.elim (by omega))
  refine Sx.iconst (v := (nI 1)) dX4_takes_104 (by decide) ?_
  refine Sx.goto (t := 109) dX4_takes_105 (by decide) ?_
  refine Sx.istore (lv' := [(4, .int (nI 1)), (0, .ref 107), (1, .int (nI 33)), (2, .ref 101), (3, .ref a)]) dX4_takes_109 (by decide) rfl ?_
  refine Sx.iload dX4_takes_111 rfl ?_
  refine Sx.if_eqV (t := 125) dX4_takes_113 (by decide) (vN (by decide)) (fun c113 => False.elim (by omega)) (fun c113 => ?_)
  refine Sx.aload_n dX4_takes_116 rfl ?_
  refine Sx.iload_n dX4_takes_117 rfl ?_
  refine Sx.aload_n dX4_takes_118 rfl ?_
  refine Sx.callV2 dX4_takes_119 lkv_X4_83 (rcv_4 (o_107 W)) (by decide) (by decide) (Nat.le_of_ble_eq_true rfl) rfl rfl (d_openF W hL h6 h7 ?_)
  refine Sx.goto (t := 132) dX4_takes_122 (by decide) ?_
  refine Sx.iret dX4_takes_132 rfl (b2i_n _) ?_
  exact h
set_option maxRecDepth 20000 in
set_option maxHeartbeats 1000000 in
theorem d_tkO2_40 {G : Gt} {l : Launch} {Z : Zt} {R : Rt} {I : It} {L : Lt} {post : Pt'} {T M S : Nat → Nat} {n c a : Nat} (W : WF Z R) (hL : LR I M S) (hT : TS I T n c) (hc : c < n) (hw : M 1 < 64) (h4 : M 4 < 100) (h5 : M 5 < 100) (h3 : M 3 < 6) (hM2 : M 2 = 2) (h : ∀ I', TS I' T n (c + 1) → LR I' (upn (upn (upn (upn M 3 (M 3 + 1)) 4 (M 4 + 1)) 6 1) 1 (M 1 + 1)) (upn S (M 1) 40) → (∀ q, q ≠ 101 → q ≠ 107 → q ≠ 109 → I' q = I q) → post (some (.int (b2i true))) Z R I' L) : Cx G l mX4_takes 4 0 0 [.ref 107, .int (nI 40), .ref 101, .ref a] Z R I L post := by
  refine Cx.of (by decide +kernel) (by exact Nat.le_of_ble_eq_true rfl) ?_
  refine Sx.aload_n dX4_takes_0 rfl ?_
  refine Sx.getfV (v := (nI 2)) dX4_takes_1 lkf_X4_24_4 (o_107 W) (by rw [hL.1 2 (by decide) (by decide), hM2]) ?_
  refine Sx.lookup (t := 78) dX4_takes_4 (by decide) (o := 74) (by decide) (by decide) ?_
  refine Sx.iload_n dX4_takes_78 rfl ?_
  refine Sx.bipush (v := (nI 91)) dX4_takes_79 (by decide) ?_
  refine Sx.icmp_eqV (t := 104) dX4_takes_81 (by decide) (vN (by decide)) (vN (by decide)) (fun c81 => False.elim (by omega)) (fun c81 => ?_)
  refine Sx.aload_n dX4_takes_84 rfl ?_
  refine Sx.getfV (v := (nI 2)) dX4_takes_85 lkf_X4_24_4 (o_107 W) (by rw [hL.1 2 (by decide) (by decide), hM2]) ?_
  refine Sx.iconst (v := (nI 2)) dX4_takes_88 (by decide) ?_
  refine Sx.icmp_neV (t := 108) dX4_takes_89 (by decide) (vN (by decide)) (vN (by decide)) (fun c89 => False.elim (by omega)) (fun c89 => ?_)
  refine Sx.iload_n dX4_takes_92 rfl ?_
  refine Sx.bipush (v := (nI 33)) dX4_takes_93 (by decide) ?_
  refine Sx.icmp_eqV (t := 104) dX4_takes_95 (by decide) (vN (by decide)) (vN (by decide)) (fun c95 => False.elim (by omega)) (fun c95 => ?_)
  refine Sx.iload_n dX4_takes_98 rfl ?_
  refine Sx.bipush (v := (nI 40)) dX4_takes_99 (by decide) ?_
  refine Sx.icmp_neV (t := 108) dX4_takes_101 (by decide) (vN (by decide)) (vN (by decide)) (fun c101 => False.elim (by omega)) (fun c101 => ?_)
  refine Sx.iconst (v := (nI 1)) dX4_takes_104 (by decide) ?_
  refine Sx.goto (t := 109) dX4_takes_105 (by decide) ?_
  refine Sx.istore (lv' := [(4, .int (nI 1)), (0, .ref 107), (1, .int (nI 40)), (2, .ref 101), (3, .ref a)]) dX4_takes_109 (by decide) rfl ?_
  refine Sx.iload dX4_takes_111 rfl ?_
  refine Sx.if_eqV (t := 125) dX4_takes_113 (by decide) (vN (by decide)) (fun c113 => False.elim (by omega)) (fun c113 => ?_)
  refine Sx.aload_n dX4_takes_116 rfl ?_
  refine Sx.iload_n dX4_takes_117 rfl ?_
  refine Sx.aload_n dX4_takes_118 rfl ?_
  refine Sx.callV2 dX4_takes_119 lkv_X4_83 (rcv_4 (o_107 W)) (by decide) (by decide) (Nat.le_of_ble_eq_true rfl) rfl rfl (d_open40 W hL hT hc hw h3 h4 h5 (fun I1 t1 l1 o1 => ?_))
  refine Sx.goto (t := 132) dX4_takes_122 (by decide) ?_
  refine Sx.iret dX4_takes_132 rfl (b2i_n _) ?_
  exact h I1 t1 l1 o1
set_option maxRecDepth 20000 in
set_option maxHeartbeats 1000000 in
theorem d_tkF2_40 {G : Gt} {l : Launch} {Z : Zt} {R : Rt} {I : It} {L : Lt} {post : Pt'} {M S : Nat → Nat} {a : Nat} (W : WF Z R) (hL : LR I M S) (h6 : 6 ≤ M 3) (h7 : M 3 < 1000) (hM2 : M 2 = 2) (h : post (some (.int (b2i false))) Z R I L) : Cx G l mX4_takes 4 0 0 [.ref 107, .int (nI 40), .ref 101, .ref a] Z R I L post := by
  refine Cx.of (by decide +kernel) (by exact Nat.le_of_ble_eq_true rfl) ?_
  refine Sx.aload_n dX4_takes_0 rfl ?_
  refine Sx.getfV (v := (nI 2)) dX4_takes_1 lkf_X4_24_4 (o_107 W) (by rw [hL.1 2 (by decide) (by decide), hM2]) ?_
  refine Sx.lookup (t := 78) dX4_takes_4 (by decide) (o := 74) (by decide) (by decide) ?_
  refine Sx.iload_n dX4_takes_78 rfl ?_
  refine Sx.bipush (v := (nI 91)) dX4_takes_79 (by decide) ?_
  refine Sx.icmp_eqV (t := 104) dX4_takes_81 (by decide) (vN (by decide)) (vN (by decide)) (fun c81 => False.elim (by omega)) (fun c81 => ?_)
  refine Sx.aload_n dX4_takes_84 rfl ?_
  refine Sx.getfV (v := (nI 2)) dX4_takes_85 lkf_X4_24_4 (o_107 W) (by rw [hL.1 2 (by decide) (by decide), hM2]) ?_
  refine Sx.iconst (v := (nI 2)) dX4_takes_88 (by decide) ?_
  refine Sx.icmp_neV (t := 108) dX4_takes_89 (by decide) (vN (by decide)) (vN (by decide)) (fun c89 => False.elim (by omega)) (fun c89 => ?_)
  refine Sx.iload_n dX4_takes_92 rfl ?_
  refine Sx.bipush (v := (nI 33)) dX4_takes_93 (by decide) ?_
  refine Sx.icmp_eqV (t := 104) dX4_takes_95 (by decide) (vN (by decide)) (vN (by decide)) (fun c95 => False.elim (by omega)) (fun c95 => ?_)
  refine Sx.iload_n dX4_takes_98 rfl ?_
  refine Sx.bipush (v := (nI 40)) dX4_takes_99 (by decide) ?_
  refine Sx.icmp_neV (t := 108) dX4_takes_101 (by decide) (vN (by decide)) (vN (by decide)) (fun c101 => False.elim (by omega)) (fun c101 => ?_)
  refine Sx.iconst (v := (nI 1)) dX4_takes_104 (by decide) ?_
  refine Sx.goto (t := 109) dX4_takes_105 (by decide) ?_
  refine Sx.istore (lv' := [(4, .int (nI 1)), (0, .ref 107), (1, .int (nI 40)), (2, .ref 101), (3, .ref a)]) dX4_takes_109 (by decide) rfl ?_
  refine Sx.iload dX4_takes_111 rfl ?_
  refine Sx.if_eqV (t := 125) dX4_takes_113 (by decide) (vN (by decide)) (fun c113 => False.elim (by omega)) (fun c113 => ?_)
  refine Sx.aload_n dX4_takes_116 rfl ?_
  refine Sx.iload_n dX4_takes_117 rfl ?_
  refine Sx.aload_n dX4_takes_118 rfl ?_
  refine Sx.callV2 dX4_takes_119 lkv_X4_83 (rcv_4 (o_107 W)) (by decide) (by decide) (Nat.le_of_ble_eq_true rfl) rfl rfl (d_openF W hL h6 h7 ?_)
  refine Sx.goto (t := 132) dX4_takes_122 (by decide) ?_
  refine Sx.iret dX4_takes_132 rfl (b2i_n _) ?_
  exact h
set_option maxRecDepth 20000 in
set_option maxHeartbeats 1000000 in
theorem d_tkD2 {G : Gt} {l : Launch} {Z : Zt} {R : Rt} {I : It} {L : Lt} {post : Pt'} {T M S : Nat → Nat} {n c x a : Nat} {k : List Int32} (W : WF Z R) (hL : LR I M S) (hT : TS I T n c) (hx : sgn T n c = x) (hx0 : x ≠ 0) (hx2 : x < 256) (hM2 : M 2 = 2) (hno : x ≠ 91 ∧ x ≠ 33 ∧ x ≠ 40) (hr : rwo Z R a 3 240) (ha : 233 ≤ a) (hk : LK I a k) (hkl : k.length < 240) (hnx : nx T n c = c) (hd : isDN x = true) (h0 : isDN (sgn T n (rdE T n c 4)) = true → ∀ I', TS I' T n (rdE T n c 4) → (∀ q, q ≠ 101 → q ≠ 107 → q ≠ a → q ≠ a + 1 → I' q = I q) → post (some (.int (b2i false))) Z R I' L) (h1 : isDN (sgn T n (rdE T n c 4)) = false → ∀ I', TS I' T n (rdE T n c 4) → LR I' (upn M 2 4) S → LK I' a (k ++ [nI (rdV T n c 4)]) → (∀ q, q ≠ 101 → q ≠ 107 → q ≠ a → q ≠ a + 1 → I' q = I q) → post (some (.int (b2i true))) Z R I' L) : Cx G l mX4_takes 4 0 0 [.ref 107, .int (nI x), .ref 101, .ref a] Z R I L post := by
  refine Cx.of (by decide +kernel) (by exact Nat.le_of_ble_eq_true rfl) ?_
  refine Sx.aload_n dX4_takes_0 rfl ?_
  refine Sx.getfV (v := (nI 2)) dX4_takes_1 lkf_X4_24_4 (o_107 W) (by rw [hL.1 2 (by decide) (by decide), hM2]) ?_
  refine Sx.lookup (t := 78) dX4_takes_4 (by decide) (o := 74) (by decide) (by decide) ?_
  refine Sx.iload_n dX4_takes_78 rfl ?_
  refine Sx.bipush (v := (nI 91)) dX4_takes_79 (by decide) ?_
  refine Sx.icmp_eqV (t := 104) dX4_takes_81 (by decide) (vN (by omega)) (vN (by decide)) (fun c81 => False.elim (by omega)) (fun c81 => ?_)
  refine Sx.aload_n dX4_takes_84 rfl ?_
  refine Sx.getfV (v := (nI 2)) dX4_takes_85 lkf_X4_24_4 (o_107 W) (by rw [hL.1 2 (by decide) (by decide), hM2]) ?_
  refine Sx.iconst (v := (nI 2)) dX4_takes_88 (by decide) ?_
  refine Sx.icmp_neV (t := 108) dX4_takes_89 (by decide) (vN (by decide)) (vN (by decide)) (fun c89 => False.elim (by omega)) (fun c89 => ?_)
  refine Sx.iload_n dX4_takes_92 rfl ?_
  refine Sx.bipush (v := (nI 33)) dX4_takes_93 (by decide) ?_
  refine Sx.icmp_eqV (t := 104) dX4_takes_95 (by decide) (vN (by omega)) (vN (by decide)) (fun c95 => False.elim (by omega)) (fun c95 => ?_)
  refine Sx.iload_n dX4_takes_98 rfl ?_
  refine Sx.bipush (v := (nI 40)) dX4_takes_99 (by decide) ?_
  refine Sx.icmp_neV (t := 108) dX4_takes_101 (by decide) (vN (by omega)) (vN (by decide)) (fun c101 => ?_) (fun c101 => False.elim (by omega))
  refine Sx.iconst (v := (nI 0)) dX4_takes_108 (by decide) ?_
  refine Sx.istore (lv' := [(4, .int (nI 0)), (0, .ref 107), (1, .int (nI x)), (2, .ref 101), (3, .ref a)]) dX4_takes_109 (by decide) rfl ?_
  refine Sx.iload dX4_takes_111 rfl ?_
  refine Sx.if_eqV (t := 125) dX4_takes_113 (by decide) (vN (by decide)) (fun c113 => ?_) (fun c113 => False.elim (by omega))
  refine Sx.aload_n dX4_takes_125 rfl ?_
  refine Sx.iload_n dX4_takes_126 rfl ?_
  refine Sx.aload_n dX4_takes_127 rfl ?_
  refine Sx.aload_n dX4_takes_128 rfl ?_
  refine Sx.callV3 dX4_takes_129 lkv_X4_87 (rcv_4 (o_107 W)) (by decide) (by decide) (Nat.le_of_ble_eq_true rfl) rfl rfl (d_atD W hr ha hL hT hk hkl hx hx0 hx2 hnx hd (fun z I1 t1 o1 => ?_) (fun z I1 t1 l1 k1 o1 => ?_))
  · skip
    refine Sx.iret dX4_takes_132 rfl (b2i_n _) ?_
    exact h0 z I1 t1 o1
  · skip
    refine Sx.iret dX4_takes_132 rfl (b2i_n _) ?_
    exact h1 z I1 t1 l1 k1 o1
set_option maxRecDepth 20000 in
set_option maxHeartbeats 1000000 in
theorem d_tkL2 {G : Gt} {l : Launch} {Z : Zt} {R : Rt} {I : It} {L : Lt} {post : Pt'} {T M S : Nat → Nat} {n c x a : Nat} {k : List Int32} (W : WF Z R) (hL : LR I M S) (hT : TS I T n c) (hx : sgn T n c = x) (hx0 : x ≠ 0) (hx2 : x < 256) (hM2 : M 2 = 2) (hno : x ≠ 91 ∧ x ≠ 33 ∧ x ≠ 40) (hr : rwo Z R a 3 240) (ha : 233 ≤ a) (hk : LK I a k) (hkl : k.length < 240) (hnx : nx T n c = c) (hd : isDN x = false) (hl : isLt x = true) (h1 : ∀ I', TS I' T n (c + 1) → LR I' (upn M 2 4) S → LK I' a (k ++ [lco x]) → (∀ q, q ≠ 101 → q ≠ 107 → q ≠ a → q ≠ a + 1 → I' q = I q) → post (some (.int (b2i true))) Z R I' L) : Cx G l mX4_takes 4 0 0 [.ref 107, .int (nI x), .ref 101, .ref a] Z R I L post := by
  refine Cx.of (by decide +kernel) (by exact Nat.le_of_ble_eq_true rfl) ?_
  refine Sx.aload_n dX4_takes_0 rfl ?_
  refine Sx.getfV (v := (nI 2)) dX4_takes_1 lkf_X4_24_4 (o_107 W) (by rw [hL.1 2 (by decide) (by decide), hM2]) ?_
  refine Sx.lookup (t := 78) dX4_takes_4 (by decide) (o := 74) (by decide) (by decide) ?_
  refine Sx.iload_n dX4_takes_78 rfl ?_
  refine Sx.bipush (v := (nI 91)) dX4_takes_79 (by decide) ?_
  refine Sx.icmp_eqV (t := 104) dX4_takes_81 (by decide) (vN (by omega)) (vN (by decide)) (fun c81 => False.elim (by omega)) (fun c81 => ?_)
  refine Sx.aload_n dX4_takes_84 rfl ?_
  refine Sx.getfV (v := (nI 2)) dX4_takes_85 lkf_X4_24_4 (o_107 W) (by rw [hL.1 2 (by decide) (by decide), hM2]) ?_
  refine Sx.iconst (v := (nI 2)) dX4_takes_88 (by decide) ?_
  refine Sx.icmp_neV (t := 108) dX4_takes_89 (by decide) (vN (by decide)) (vN (by decide)) (fun c89 => False.elim (by omega)) (fun c89 => ?_)
  refine Sx.iload_n dX4_takes_92 rfl ?_
  refine Sx.bipush (v := (nI 33)) dX4_takes_93 (by decide) ?_
  refine Sx.icmp_eqV (t := 104) dX4_takes_95 (by decide) (vN (by omega)) (vN (by decide)) (fun c95 => False.elim (by omega)) (fun c95 => ?_)
  refine Sx.iload_n dX4_takes_98 rfl ?_
  refine Sx.bipush (v := (nI 40)) dX4_takes_99 (by decide) ?_
  refine Sx.icmp_neV (t := 108) dX4_takes_101 (by decide) (vN (by omega)) (vN (by decide)) (fun c101 => ?_) (fun c101 => False.elim (by omega))
  refine Sx.iconst (v := (nI 0)) dX4_takes_108 (by decide) ?_
  refine Sx.istore (lv' := [(4, .int (nI 0)), (0, .ref 107), (1, .int (nI x)), (2, .ref 101), (3, .ref a)]) dX4_takes_109 (by decide) rfl ?_
  refine Sx.iload dX4_takes_111 rfl ?_
  refine Sx.if_eqV (t := 125) dX4_takes_113 (by decide) (vN (by decide)) (fun c113 => ?_) (fun c113 => False.elim (by omega))
  refine Sx.aload_n dX4_takes_125 rfl ?_
  refine Sx.iload_n dX4_takes_126 rfl ?_
  refine Sx.aload_n dX4_takes_127 rfl ?_
  refine Sx.aload_n dX4_takes_128 rfl ?_
  refine Sx.callV3 dX4_takes_129 lkv_X4_87 (rcv_4 (o_107 W)) (by decide) (by decide) (Nat.le_of_ble_eq_true rfl) rfl rfl (d_atL W hr ha hL hT hk hkl hx hx0 hx2 hnx hd hl (fun I1 t1 l1 k1 o1 => ?_))
  refine Sx.iret dX4_takes_132 rfl (b2i_n _) ?_
  exact h1 I1 t1 l1 k1 o1
set_option maxRecDepth 20000 in
set_option maxHeartbeats 1000000 in
theorem d_tkN2 {G : Gt} {l : Launch} {Z : Zt} {R : Rt} {I : It} {L : Lt} {post : Pt'} {T M S : Nat → Nat} {n c x a : Nat} {k : List Int32} (W : WF Z R) (hL : LR I M S) (hT : TS I T n c) (hx : sgn T n c = x) (hx0 : x ≠ 0) (hx2 : x < 256) (hM2 : M 2 = 2) (hno : x ≠ 91 ∧ x ≠ 33 ∧ x ≠ 40) (hr : rwo Z R a 3 240) (ha : 233 ≤ a) (hk : LK I a k) (hkl : k.length < 240) (hnx : nx T n c = c) (hd : isDN x = false) (hl : ¬ isLt x = true) (h0 : post (some (.int (b2i false))) Z R I L) : Cx G l mX4_takes 4 0 0 [.ref 107, .int (nI x), .ref 101, .ref a] Z R I L post := by
  refine Cx.of (by decide +kernel) (by exact Nat.le_of_ble_eq_true rfl) ?_
  refine Sx.aload_n dX4_takes_0 rfl ?_
  refine Sx.getfV (v := (nI 2)) dX4_takes_1 lkf_X4_24_4 (o_107 W) (by rw [hL.1 2 (by decide) (by decide), hM2]) ?_
  refine Sx.lookup (t := 78) dX4_takes_4 (by decide) (o := 74) (by decide) (by decide) ?_
  refine Sx.iload_n dX4_takes_78 rfl ?_
  refine Sx.bipush (v := (nI 91)) dX4_takes_79 (by decide) ?_
  refine Sx.icmp_eqV (t := 104) dX4_takes_81 (by decide) (vN (by omega)) (vN (by decide)) (fun c81 => False.elim (by omega)) (fun c81 => ?_)
  refine Sx.aload_n dX4_takes_84 rfl ?_
  refine Sx.getfV (v := (nI 2)) dX4_takes_85 lkf_X4_24_4 (o_107 W) (by rw [hL.1 2 (by decide) (by decide), hM2]) ?_
  refine Sx.iconst (v := (nI 2)) dX4_takes_88 (by decide) ?_
  refine Sx.icmp_neV (t := 108) dX4_takes_89 (by decide) (vN (by decide)) (vN (by decide)) (fun c89 => False.elim (by omega)) (fun c89 => ?_)
  refine Sx.iload_n dX4_takes_92 rfl ?_
  refine Sx.bipush (v := (nI 33)) dX4_takes_93 (by decide) ?_
  refine Sx.icmp_eqV (t := 104) dX4_takes_95 (by decide) (vN (by omega)) (vN (by decide)) (fun c95 => False.elim (by omega)) (fun c95 => ?_)
  refine Sx.iload_n dX4_takes_98 rfl ?_
  refine Sx.bipush (v := (nI 40)) dX4_takes_99 (by decide) ?_
  refine Sx.icmp_neV (t := 108) dX4_takes_101 (by decide) (vN (by omega)) (vN (by decide)) (fun c101 => ?_) (fun c101 => False.elim (by omega))
  refine Sx.iconst (v := (nI 0)) dX4_takes_108 (by decide) ?_
  refine Sx.istore (lv' := [(4, .int (nI 0)), (0, .ref 107), (1, .int (nI x)), (2, .ref 101), (3, .ref a)]) dX4_takes_109 (by decide) rfl ?_
  refine Sx.iload dX4_takes_111 rfl ?_
  refine Sx.if_eqV (t := 125) dX4_takes_113 (by decide) (vN (by decide)) (fun c113 => ?_) (fun c113 => False.elim (by omega))
  refine Sx.aload_n dX4_takes_125 rfl ?_
  refine Sx.iload_n dX4_takes_126 rfl ?_
  refine Sx.aload_n dX4_takes_127 rfl ?_
  refine Sx.aload_n dX4_takes_128 rfl ?_
  refine Sx.callV3 dX4_takes_129 lkv_X4_87 (rcv_4 (o_107 W)) (by decide) (by decide) (Nat.le_of_ble_eq_true rfl) rfl rfl (d_atN W hr ha hL hT hk hkl hx hx0 hx2 hnx hd hl ?_)
  refine Sx.iret dX4_takes_132 rfl (b2i_n _) ?_
  exact h0
set_option maxRecDepth 20000 in
set_option maxHeartbeats 1000000 in
theorem d_tkD3 {G : Gt} {l : Launch} {Z : Zt} {R : Rt} {I : It} {L : Lt} {post : Pt'} {T M S : Nat → Nat} {n c x a : Nat} {k : List Int32} (W : WF Z R) (hL : LR I M S) (hT : TS I T n c) (hx : sgn T n c = x) (hx0 : x ≠ 0) (hx2 : x < 256) (hM2 : M 2 = 3) (hno : x ≠ 91) (hr : rwo Z R a 3 240) (ha : 233 ≤ a) (hk : LK I a k) (hkl : k.length < 240) (hnx : nx T n c = c) (hd : isDN x = true) (h0 : isDN (sgn T n (rdE T n c 4)) = true → ∀ I', TS I' T n (rdE T n c 4) → (∀ q, q ≠ 101 → q ≠ 107 → q ≠ a → q ≠ a + 1 → I' q = I q) → post (some (.int (b2i false))) Z R I' L) (h1 : isDN (sgn T n (rdE T n c 4)) = false → ∀ I', TS I' T n (rdE T n c 4) → LR I' (upn M 2 4) S → LK I' a (k ++ [nI (rdV T n c 4)]) → (∀ q, q ≠ 101 → q ≠ 107 → q ≠ a → q ≠ a + 1 → I' q = I q) → post (some (.int (b2i true))) Z R I' L) : Cx G l mX4_takes 4 0 0 [.ref 107, .int (nI x), .ref 101, .ref a] Z R I L post := by
  refine Cx.of (by decide +kernel) (by exact Nat.le_of_ble_eq_true rfl) ?_
  refine Sx.aload_n dX4_takes_0 rfl ?_
  refine Sx.getfV (v := (nI 3)) dX4_takes_1 lkf_X4_24_4 (o_107 W) (by rw [hL.1 2 (by decide) (by decide), hM2]) ?_
  refine Sx.lookup (t := 78) dX4_takes_4 (by decide) (o := 74) (by decide) (by decide) ?_
  refine Sx.iload_n dX4_takes_78 rfl ?_
  refine Sx.bipush (v := (nI 91)) dX4_takes_79 (by decide) ?_
  refine Sx.icmp_eqV (t := 104) dX4_takes_81 (by decide) (vN (by omega)) (vN (by decide)) (fun c81 => False.elim (by omega)) (fun c81 => ?_)
  refine Sx.aload_n dX4_takes_84 rfl ?_
  refine Sx.getfV (v := (nI 3)) dX4_takes_85 lkf_X4_24_4 (o_107 W) (by rw [hL.1 2 (by decide) (by decide), hM2]) ?_
  refine Sx.iconst (v := (nI 2)) dX4_takes_88 (by decide) ?_
  refine Sx.icmp_neV (t := 108) dX4_takes_89 (by decide) (vN (by decide)) (vN (by decide)) (fun c89 => ?_) (fun c89 => False.elim (by omega))
  refine Sx.iconst (v := (nI 0)) dX4_takes_108 (by decide) ?_
  refine Sx.istore (lv' := [(4, .int (nI 0)), (0, .ref 107), (1, .int (nI x)), (2, .ref 101), (3, .ref a)]) dX4_takes_109 (by decide) rfl ?_
  refine Sx.iload dX4_takes_111 rfl ?_
  refine Sx.if_eqV (t := 125) dX4_takes_113 (by decide) (vN (by decide)) (fun c113 => ?_) (fun c113 => False.elim (by omega))
  refine Sx.aload_n dX4_takes_125 rfl ?_
  refine Sx.iload_n dX4_takes_126 rfl ?_
  refine Sx.aload_n dX4_takes_127 rfl ?_
  refine Sx.aload_n dX4_takes_128 rfl ?_
  refine Sx.callV3 dX4_takes_129 lkv_X4_87 (rcv_4 (o_107 W)) (by decide) (by decide) (Nat.le_of_ble_eq_true rfl) rfl rfl (d_atD W hr ha hL hT hk hkl hx hx0 hx2 hnx hd (fun z I1 t1 o1 => ?_) (fun z I1 t1 l1 k1 o1 => ?_))
  · skip
    refine Sx.iret dX4_takes_132 rfl (b2i_n _) ?_
    exact h0 z I1 t1 o1
  · skip
    refine Sx.iret dX4_takes_132 rfl (b2i_n _) ?_
    exact h1 z I1 t1 l1 k1 o1
set_option maxRecDepth 20000 in
set_option maxHeartbeats 1000000 in
theorem d_tkL3 {G : Gt} {l : Launch} {Z : Zt} {R : Rt} {I : It} {L : Lt} {post : Pt'} {T M S : Nat → Nat} {n c x a : Nat} {k : List Int32} (W : WF Z R) (hL : LR I M S) (hT : TS I T n c) (hx : sgn T n c = x) (hx0 : x ≠ 0) (hx2 : x < 256) (hM2 : M 2 = 3) (hno : x ≠ 91) (hr : rwo Z R a 3 240) (ha : 233 ≤ a) (hk : LK I a k) (hkl : k.length < 240) (hnx : nx T n c = c) (hd : isDN x = false) (hl : isLt x = true) (h1 : ∀ I', TS I' T n (c + 1) → LR I' (upn M 2 4) S → LK I' a (k ++ [lco x]) → (∀ q, q ≠ 101 → q ≠ 107 → q ≠ a → q ≠ a + 1 → I' q = I q) → post (some (.int (b2i true))) Z R I' L) : Cx G l mX4_takes 4 0 0 [.ref 107, .int (nI x), .ref 101, .ref a] Z R I L post := by
  refine Cx.of (by decide +kernel) (by exact Nat.le_of_ble_eq_true rfl) ?_
  refine Sx.aload_n dX4_takes_0 rfl ?_
  refine Sx.getfV (v := (nI 3)) dX4_takes_1 lkf_X4_24_4 (o_107 W) (by rw [hL.1 2 (by decide) (by decide), hM2]) ?_
  refine Sx.lookup (t := 78) dX4_takes_4 (by decide) (o := 74) (by decide) (by decide) ?_
  refine Sx.iload_n dX4_takes_78 rfl ?_
  refine Sx.bipush (v := (nI 91)) dX4_takes_79 (by decide) ?_
  refine Sx.icmp_eqV (t := 104) dX4_takes_81 (by decide) (vN (by omega)) (vN (by decide)) (fun c81 => False.elim (by omega)) (fun c81 => ?_)
  refine Sx.aload_n dX4_takes_84 rfl ?_
  refine Sx.getfV (v := (nI 3)) dX4_takes_85 lkf_X4_24_4 (o_107 W) (by rw [hL.1 2 (by decide) (by decide), hM2]) ?_
  refine Sx.iconst (v := (nI 2)) dX4_takes_88 (by decide) ?_
  refine Sx.icmp_neV (t := 108) dX4_takes_89 (by decide) (vN (by decide)) (vN (by decide)) (fun c89 => ?_) (fun c89 => False.elim (by omega))
  refine Sx.iconst (v := (nI 0)) dX4_takes_108 (by decide) ?_
  refine Sx.istore (lv' := [(4, .int (nI 0)), (0, .ref 107), (1, .int (nI x)), (2, .ref 101), (3, .ref a)]) dX4_takes_109 (by decide) rfl ?_
  refine Sx.iload dX4_takes_111 rfl ?_
  refine Sx.if_eqV (t := 125) dX4_takes_113 (by decide) (vN (by decide)) (fun c113 => ?_) (fun c113 => False.elim (by omega))
  refine Sx.aload_n dX4_takes_125 rfl ?_
  refine Sx.iload_n dX4_takes_126 rfl ?_
  refine Sx.aload_n dX4_takes_127 rfl ?_
  refine Sx.aload_n dX4_takes_128 rfl ?_
  refine Sx.callV3 dX4_takes_129 lkv_X4_87 (rcv_4 (o_107 W)) (by decide) (by decide) (Nat.le_of_ble_eq_true rfl) rfl rfl (d_atL W hr ha hL hT hk hkl hx hx0 hx2 hnx hd hl (fun I1 t1 l1 k1 o1 => ?_))
  refine Sx.iret dX4_takes_132 rfl (b2i_n _) ?_
  exact h1 I1 t1 l1 k1 o1
set_option maxRecDepth 20000 in
set_option maxHeartbeats 1000000 in
theorem d_tkN3 {G : Gt} {l : Launch} {Z : Zt} {R : Rt} {I : It} {L : Lt} {post : Pt'} {T M S : Nat → Nat} {n c x a : Nat} {k : List Int32} (W : WF Z R) (hL : LR I M S) (hT : TS I T n c) (hx : sgn T n c = x) (hx0 : x ≠ 0) (hx2 : x < 256) (hM2 : M 2 = 3) (hno : x ≠ 91) (hr : rwo Z R a 3 240) (ha : 233 ≤ a) (hk : LK I a k) (hkl : k.length < 240) (hnx : nx T n c = c) (hd : isDN x = false) (hl : ¬ isLt x = true) (h0 : post (some (.int (b2i false))) Z R I L) : Cx G l mX4_takes 4 0 0 [.ref 107, .int (nI x), .ref 101, .ref a] Z R I L post := by
  refine Cx.of (by decide +kernel) (by exact Nat.le_of_ble_eq_true rfl) ?_
  refine Sx.aload_n dX4_takes_0 rfl ?_
  refine Sx.getfV (v := (nI 3)) dX4_takes_1 lkf_X4_24_4 (o_107 W) (by rw [hL.1 2 (by decide) (by decide), hM2]) ?_
  refine Sx.lookup (t := 78) dX4_takes_4 (by decide) (o := 74) (by decide) (by decide) ?_
  refine Sx.iload_n dX4_takes_78 rfl ?_
  refine Sx.bipush (v := (nI 91)) dX4_takes_79 (by decide) ?_
  refine Sx.icmp_eqV (t := 104) dX4_takes_81 (by decide) (vN (by omega)) (vN (by decide)) (fun c81 => False.elim (by omega)) (fun c81 => ?_)
  refine Sx.aload_n dX4_takes_84 rfl ?_
  refine Sx.getfV (v := (nI 3)) dX4_takes_85 lkf_X4_24_4 (o_107 W) (by rw [hL.1 2 (by decide) (by decide), hM2]) ?_
  refine Sx.iconst (v := (nI 2)) dX4_takes_88 (by decide) ?_
  refine Sx.icmp_neV (t := 108) dX4_takes_89 (by decide) (vN (by decide)) (vN (by decide)) (fun c89 => ?_) (fun c89 => False.elim (by omega))
  refine Sx.iconst (v := (nI 0)) dX4_takes_108 (by decide) ?_
  refine Sx.istore (lv' := [(4, .int (nI 0)), (0, .ref 107), (1, .int (nI x)), (2, .ref 101), (3, .ref a)]) dX4_takes_109 (by decide) rfl ?_
  refine Sx.iload dX4_takes_111 rfl ?_
  refine Sx.if_eqV (t := 125) dX4_takes_113 (by decide) (vN (by decide)) (fun c113 => ?_) (fun c113 => False.elim (by omega))
  refine Sx.aload_n dX4_takes_125 rfl ?_
  refine Sx.iload_n dX4_takes_126 rfl ?_
  refine Sx.aload_n dX4_takes_127 rfl ?_
  refine Sx.aload_n dX4_takes_128 rfl ?_
  refine Sx.callV3 dX4_takes_129 lkv_X4_87 (rcv_4 (o_107 W)) (by decide) (by decide) (Nat.le_of_ble_eq_true rfl) rfl rfl (d_atN W hr ha hL hT hk hkl hx hx0 hx2 hnx hd hl ?_)
  refine Sx.iret dX4_takes_132 rfl (b2i_n _) ?_
  exact h0
