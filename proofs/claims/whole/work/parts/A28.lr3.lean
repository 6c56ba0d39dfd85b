/-! the class: the reader of laws: takesIf, opens -/
theorem LR.o {I I' : It} {M S : Nat → Nat} (h : LR I M S) (o : ∀ q, q = 107 ∨ q = 109 → I' q = I q) : LR I' M S := by
  refine ⟨fun k k1 k2 => ?_, fun k hk => ?_, h.2.2⟩
  · rw [o 107 (Or.inl rfl)]; exact h.1 k k1 k2
  · rw [o 109 (Or.inr rfl)]; exact h.2.1 k hk
theorem TS.o {I I' : It} {T : Nat → Nat} {n c : Nat} (h : TS I T n c) (o : ∀ q, q = 101 ∨ q = 102 → I' q = I q) : TS I' T n c := by
  obtain ⟨h1, h2, h3, h4, h5, h6⟩ := h
  exact ⟨by rw [o 101 (Or.inl rfl)]; exact h1, by rw [o 101 (Or.inl rfl)]; exact h2, h3, h4, fun j hj => by rw [o 102 (Or.inr rfl)]; exact h5 j hj, h6⟩
set_option maxRecDepth 20000 in
set_option maxHeartbeats 1000000 in
theorem d_tIf1 {G : Gt} {l : Launch} {Z : Zt} {R : Rt} {I : It} {L : Lt} {post : Pt'} {M S T : Nat → Nat} {n c nx : Nat} (W : WF Z R) (hL : LR I M S) (hT : TS I T n c) (hc : c < n) (h : ∀ I', TS I' T n (c + 1) → LR I' (upn M 2 nx) S → (∀ q, q ≠ 101 → q ≠ 107 → I' q = I q) → post (some (.int (b2i true))) Z R I' L) : Cx G l mX4_takesIf 2 0 0 [.ref 107, .int (b2i true), .int (nI nx), .ref 101] Z R I L post := by
  refine Cx.of (by decide +kernel) (by exact Nat.le_of_ble_eq_true rfl) ?_
  refine Sx.iload_n dX4_takesIf_0 rfl ?_
  refine Sx.if_eqB (t := 13) dX4_takesIf_1 (by decide) (fun c1 => False.elim (by cases c1)) (fun c1 => ?_)
  refine Sx.aload_n dX4_takesIf_4 rfl ?_
  refine Sx.callV0 dX4_takesIf_5 lkv_X4_68 (rcv_9 (o_101 W)) (by decide) (by decide) (Nat.le_of_ble_eq_true rfl) rfl rfl (c_adv W hT hc (fun I1 t1 a1 o1 => ?_))
  refine Sx.aload_n dX4_takesIf_8 rfl ?_
  refine Sx.iload_n dX4_takesIf_9 rfl ?_
  refine Sx.putfV dX4_takesIf_10 lkp_X4_24_4 (o_107 W) rfl rfl (fun I2 e2 o2 => ?_)
  refine Sx.iload_n dX4_takesIf_13 rfl ?_
  refine Sx.iret dX4_takesIf_14 rfl (b2i_n _) ?_
  exact h I2 (t1.o fun q hq => o2 q (by omega)) ((hL.o (I' := I1) fun q hq => o1 q (by omega)).up (j := 2) (by decide) e2 o2) (fun q q1 q2 => by rw [o2 q q2, o1 q q1])
set_option maxRecDepth 20000 in
set_option maxHeartbeats 1000000 in
theorem d_tIf0 {G : Gt} {l : Launch} {Z : Zt} {R : Rt} {I : It} {L : Lt} {post : Pt'} {nx : Nat} (W : WF Z R) (h : post (some (.int (b2i false))) Z R I L) : Cx G l mX4_takesIf 2 0 0 [.ref 107, .int (b2i false), .int (nI nx), .ref 101] Z R I L post := by
  refine Cx.of (by decide +kernel) (by exact Nat.le_of_ble_eq_true rfl) ?_
  refine Sx.iload_n dX4_takesIf_0 rfl ?_
  refine Sx.if_eqB (t := 13) dX4_takesIf_1 (by decide) (fun c1 => ?_) (fun c1 => False.elim (by cases c1))
  refine Sx.iload_n dX4_takesIf_13 rfl ?_
  refine Sx.iret dX4_takesIf_14 rfl (b2i_n _) ?_
  exact h
set_option maxRecDepth 20000 in
set_option maxHeartbeats 1000000 in
theorem d_open91 {G : Gt} {l : Launch} {Z : Zt} {R : Rt} {I : It} {L : Lt} {post : Pt'} {M S T : Nat → Nat} {n c : Nat} (W : WF Z R) (hL : LR I M S) (hT : TS I T n c) (hc : c < n) (hw : M 1 < 64) (h3 : M 3 < 6) (h4 : M 4 < 100) (h5 : M 5 < 100) (h : ∀ I', TS I' T n (c + 1) → LR I' (upn (upn (upn (upn M 3 (M 3 + 1)) 5 (M 5 + 1)) 2 3) 1 (M 1 + 1)) (upn S (M 1) 91) → (∀ q, q ≠ 101 → q ≠ 107 → q ≠ 109 → I' q = I q) → post (some (.int (b2i true))) Z R I' L) : Cx G l mX4_opens 3 0 0 [.ref 107, .int (nI 91), .ref 101] Z R I L post := by
  refine Cx.of (by decide +kernel) (by exact Nat.le_of_ble_eq_true rfl) ?_
  refine Sx.aload_n dX4_opens_0 rfl ?_
  refine Sx.getfV (v := (nI (M 3))) dX4_opens_1 lkf_X4_27_4 (o_107 W) (hL.1 3 (by decide) (by decide)) ?_
  refine Sx.bipush (v := (nI 6)) dX4_opens_4 (by decide) ?_
  refine Sx.icmp_ltV (t := 11) dX4_opens_6 (by decide) (vN (by omega)) (vN (by decide)) (fun c6 => ?_) (fun c6 => False.elim (by omega))
  refine Sx.aload_n dX4_opens_11 rfl ?_
  refine Sx.callV0 dX4_opens_12 lkv_X4_68 (rcv_9 (o_101 W)) (by decide) (by decide) (Nat.le_of_ble_eq_true rfl) rfl rfl (c_adv W hT hc (fun I1 t1 a1 o1 => ?_))
  have L1 : LR I1 M S := hL.o fun q hq => o1 q (by omega)
  refine Sx.aload_n dX4_opens_15 rfl ?_
  refine Sx.dup dX4_opens_16 rfl ?_
  refine Sx.getfV (v := (nI (M 3))) dX4_opens_17 lkf_X4_27_4 (o_107 W) (by have z := L1.1 3 (by decide) (by decide); simpa [upn] using z) ?_
  refine Sx.iconst (v := (nI 1)) dX4_opens_20 (by decide) ?_
  refine Sx.iaddN dX4_opens_21 ?_
  refine Sx.putfV dX4_opens_22 lkp_X4_27_4 (o_107 W) rfl rfl (fun I2 e2 o2 => ?_)
  have L2 : LR I2 (upn M 3 ((M 3) + 1)) S := L1.up (j := 3) (by decide) e2 o2
  have t2 := t1.o (I' := I2) fun q hq => o2 q (by omega)
  refine Sx.iload_n dX4_opens_25 rfl ?_
  refine Sx.bipush (v := (nI 91)) dX4_opens_26 (by decide) ?_
  refine Sx.icmp_neV (t := 49) dX4_opens_28 (by decide) (vN (by decide)) (vN (by decide)) (fun c28 => False.elim (by omega)) (fun c28 => ?_)
  refine Sx.aload_n dX4_opens_31 rfl ?_
  refine Sx.dup dX4_opens_32 rfl ?_
  refine Sx.getfV (v := (nI (M 5))) dX4_opens_33 lkf_X4_33_4 (o_107 W) (by have z := L2.1 5 (by decide) (by decide); simpa [upn] using z) ?_
  refine Sx.iconst (v := (nI 1)) dX4_opens_36 (by decide) ?_
  refine Sx.iaddN dX4_opens_37 ?_
  refine Sx.putfV dX4_opens_38 lkp_X4_33_4 (o_107 W) rfl rfl (fun I3 e3 o3 => ?_)
  have L3 : LR I3 (upn (upn M 3 ((M 3) + 1)) 5 ((M 5) + 1)) S := L2.up (j := 5) (by decide) e3 o3
  have t3 := t2.o (I' := I3) fun q hq => o3 q (by omega)
  refine Sx.aload_n dX4_opens_41 rfl ?_
  refine Sx.iconst (v := (nI 3)) dX4_opens_42 (by decide) ?_
  refine Sx.putfV dX4_opens_43 lkp_X4_24_4 (o_107 W) rfl rfl (fun I4 e4 o4 => ?_)
  have L4 : LR I4 (upn (upn (upn M 3 ((M 3) + 1)) 5 ((M 5) + 1)) 2 (3)) S := L3.up (j := 2) (by decide) e4 o4
  have t4 := t3.o (I' := I4) fun q hq => o4 q (by omega)
  refine Sx.goto (t := 74) dX4_opens_46 (by decide) ?_
  refine Sx.aload_n dX4_opens_74 rfl ?_
  refine Sx.iload_n dX4_opens_75 rfl ?_
  refine Sx.callV1 dX4_opens_76 lkv_X4_90 (rcv_4 (o_107 W)) (by decide) (by decide) (Nat.le_of_ble_eq_true rfl) rfl rfl (d_await W L4 (by simpa [upn] using hw) (fun I5 l5 p5 => ?_))
  refine Sx.iconst (v := (nI 1)) dX4_opens_79 (by decide) ?_
  refine Sx.top (show _ = b2i true from rfl) ?_
  refine Sx.iret dX4_opens_80 rfl (b2i_n _) ?_
  exact h I5 (t4.o fun q hq => p5 q (by omega) (by omega)) (by simpa [upn] using l5) (fun q q1 q2 q3 => by rw [p5 q q2 q3, o4 q q2, o3 q q2, o2 q q2, o1 q q1])
set_option maxRecDepth 20000 in
set_option maxHeartbeats 1000000 in
theorem d_open40 {G : Gt} {l : Launch} {Z : Zt} {R : Rt} {I : It} {L : Lt} {post : Pt'} {M S T : Nat → Nat} {n c : Nat} (W : WF Z R) (hL : LR I M S) (hT : TS I T n c) (hc : c < n) (hw : M 1 < 64) (h3 : M 3 < 6) (h4 : M 4 < 100) (h5 : M 5 < 100) (h : ∀ I', TS I' T n (c + 1) → LR I' (upn (upn (upn (upn M 3 (M 3 + 1)) 4 (M 4 + 1)) 6 1) 1 (M 1 + 1)) (upn S (M 1) 40) → (∀ q, q ≠ 101 → q ≠ 107 → q ≠ 109 → I' q = I q) → post (some (.int (b2i true))) Z R I' L) : Cx G l mX4_opens 3 0 0 [.ref 107, .int (nI 40), .ref 101] Z R I L post := by
  refine Cx.of (by decide +kernel) (by exact Nat.le_of_ble_eq_true rfl) ?_
  refine Sx.aload_n dX4_opens_0 rfl ?_
  refine Sx.getfV (v := (nI (M 3))) dX4_opens_1 lkf_X4_27_4 (o_107 W) (hL.1 3 (by decide) (by decide)) ?_
  refine Sx.bipush (v := (nI 6)) dX4_opens_4 (by decide) ?_
  refine Sx.icmp_ltV (t := 11) dX4_opens_6 (by decide) (vN (by omega)) (vN (by decide)) (fun c6 => ?_) (fun c6 => False.elim (by omega))
  refine Sx.aload_n dX4_opens_11 rfl ?_
  refine Sx.callV0 dX4_opens_12 lkv_X4_68 (rcv_9 (o_101 W)) (by decide) (by decide) (Nat.le_of_ble_eq_true rfl) rfl rfl (c_adv W hT hc (fun I1 t1 a1 o1 => ?_))
  have L1 : LR I1 M S := hL.o fun q hq => o1 q (by omega)
  refine Sx.aload_n dX4_opens_15 rfl ?_
  refine Sx.dup dX4_opens_16 rfl ?_
  refine Sx.getfV (v := (nI (M 3))) dX4_opens_17 lkf_X4_27_4 (o_107 W) (by have z := L1.1 3 (by decide) (by decide); simpa [upn] using z) ?_
  refine Sx.iconst (v := (nI 1)) dX4_opens_20 (by decide) ?_
  refine Sx.iaddN dX4_opens_21 ?_
  refine Sx.putfV dX4_opens_22 lkp_X4_27_4 (o_107 W) rfl rfl (fun I2 e2 o2 => ?_)
  have L2 : LR I2 (upn M 3 ((M 3) + 1)) S := L1.up (j := 3) (by decide) e2 o2
  have t2 := t1.o (I' := I2) fun q hq => o2 q (by omega)
  refine Sx.iload_n dX4_opens_25 rfl ?_
  refine Sx.bipush (v := (nI 91)) dX4_opens_26 (by decide) ?_
  refine Sx.icmp_neV (t := 49) dX4_opens_28 (by decide) (vN (by decide)) (vN (by decide)) (fun c28 => ?_) (fun c28 => False.elim (by omega))
  refine Sx.aload_n dX4_opens_49 rfl ?_
  refine Sx.dup dX4_opens_50 rfl ?_
  refine Sx.getfV (v := (nI (M 4))) dX4_opens_51 lkf_X4_30_4 (o_107 W) (by have z := L2.1 4 (by decide) (by decide); simpa [upn] using z) ?_
  refine Sx.iload_n dX4_opens_54 rfl ?_
  refine Sx.bipush (v := (nI 40)) dX4_opens_55 (by decide) ?_
  refine Sx.icmp_neV (t := 64) dX4_opens_57 (by decide) (vN (by decide)) (vN (by decide)) (fun c57 => False.elim (by omega)) (fun c57 => ?_)
  refine Sx.iconst (v := (nI 1)) dX4_opens_60 (by decide) ?_
  refine Sx.goto (t := 65) dX4_opens_61 (by decide) ?_
  refine Sx.iaddN dX4_opens_65 ?_
  refine Sx.putfV dX4_opens_66 lkp_X4_30_4 (o_107 W) rfl rfl (fun I3 e3 o3 => ?_)
  have L3 : LR I3 (upn (upn M 3 ((M 3) + 1)) 4 ((M 4) + 1)) S := L2.up (j := 4) (by decide) e3 o3
  have t3 := t2.o (I' := I3) fun q hq => o3 q (by omega)
  refine Sx.aload_n dX4_opens_69 rfl ?_
  refine Sx.iconst (v := (nI 1)) dX4_opens_70 (by decide) ?_
  refine Sx.putfV dX4_opens_71 lkp_X4_36_4 (o_107 W) rfl rfl (fun I4 e4 o4 => ?_)
  have L4 : LR I4 (upn (upn (upn M 3 ((M 3) + 1)) 4 ((M 4) + 1)) 6 (1)) S := L3.up (j := 6) (by decide) e4 o4
  have t4 := t3.o (I' := I4) fun q hq => o4 q (by omega)
  refine Sx.aload_n dX4_opens_74 rfl ?_
  refine Sx.iload_n dX4_opens_75 rfl ?_
  refine Sx.callV1 dX4_opens_76 lkv_X4_90 (rcv_4 (o_107 W)) (by decide) (by decide) (Nat.le_of_ble_eq_true rfl) rfl rfl (d_await W L4 (by simpa [upn] using hw) (fun I5 l5 p5 => ?_))
  refine Sx.iconst (v := (nI 1)) dX4_opens_79 (by decide) ?_
  refine Sx.top (show _ = b2i true from rfl) ?_
  refine Sx.iret dX4_opens_80 rfl (b2i_n _) ?_
  exact h I5 (t4.o fun q hq => p5 q (by omega) (by omega)) (by simpa [upn] using l5) (fun q q1 q2 q3 => by rw [p5 q q2 q3, o4 q q2, o3 q q2, o2 q q2, o1 q q1])
set_option maxRecDepth 20000 in
set_option maxHeartbeats 1000000 in
theorem d_open33 {G : Gt} {l : Launch} {Z : Zt} {R : Rt} {I : It} {L : Lt} {post : Pt'} {M S T : Nat → Nat} {n c : Nat} (W : WF Z R) (hL : LR I M S) (hT : TS I T n c) (hc : c < n) (hw : M 1 < 64) (h3 : M 3 < 6) (h4 : M 4 < 100) (h5 : M 5 < 100) (h : ∀ I', TS I' T n (c + 1) → LR I' (upn (upn (upn (upn M 3 (M 3 + 1)) 4 (M 4 + 0)) 6 1) 1 (M 1 + 1)) (upn S (M 1) 33) → (∀ q, q ≠ 101 → q ≠ 107 → q ≠ 109 → I' q = I q) → post (some (.int (b2i true))) Z R I' L) : Cx G l mX4_opens 3 0 0 [.ref 107, .int (nI 33), .ref 101] Z R I L post := by
  refine Cx.of (by decide +kernel) (by exact Nat.le_of_ble_eq_true rfl) ?_
  refine Sx.aload_n dX4_opens_0 rfl ?_
  refine Sx.getfV (v := (nI (M 3))) dX4_opens_1 lkf_X4_27_4 (o_107 W) (hL.1 3 (by decide) (by decide)) ?_
  refine Sx.bipush (v := (nI 6)) dX4_opens_4 (by decide) ?_
  refine Sx.icmp_ltV (t := 11) dX4_opens_6 (by decide) (vN (by omega)) (vN (by decide)) (fun c6 => ?_) (fun c6 => False.elim (by omega))
  refine Sx.aload_n dX4_opens_11 rfl ?_
  refine Sx.callV0 dX4_opens_12 lkv_X4_68 (rcv_9 (o_101 W)) (by decide) (by decide) (Nat.le_of_ble_eq_true rfl) rfl rfl (c_adv W hT hc (fun I1 t1 a1 o1 => ?_))
  have L1 : LR I1 M S := hL.o fun q hq => o1 q (by omega)
  refine Sx.aload_n dX4_opens_15 rfl ?_
  refine Sx.dup dX4_opens_16 rfl ?_
  refine Sx.getfV (v := (nI (M 3))) dX4_opens_17 lkf_X4_27_4 (o_107 W) (by have z := L1.1 3 (by decide) (by decide); simpa [upn] using z) ?_
  refine Sx.iconst (v := (nI 1)) dX4_opens_20 (by decide) ?_
  refine Sx.iaddN dX4_opens_21 ?_
  refine Sx.putfV dX4_opens_22 lkp_X4_27_4 (o_107 W) rfl rfl (fun I2 e2 o2 => ?_)
  have L2 : LR I2 (upn M 3 ((M 3) + 1)) S := L1.up (j := 3) (by decide) e2 o2
  have t2 := t1.o (I' := I2) fun q hq => o2 q (by omega)
  refine Sx.iload_n dX4_opens_25 rfl ?_
  refine Sx.bipush (v := (nI 91)) dX4_opens_26 (by decide) ?_
  refine Sx.icmp_neV (t := 49) dX4_opens_28 (by decide) (vN (by decide)) (vN (by decide)) (fun c28 => ?_) (fun c28 => False.elim (by omega))
  refine Sx.aload_n dX4_opens_49 rfl ?_
  refine Sx.dup dX4_opens_50 rfl ?_
  refine Sx.getfV (v := (nI (M 4))) dX4_opens_51 lkf_X4_30_4 (o_107 W) (by have z := L2.1 4 (by decide) (by decide); simpa [upn] using z) ?_
  refine Sx.iload_n dX4_opens_54 rfl ?_
  refine Sx.bipush (v := (nI 40)) dX4_opens_55 (by decide) ?_
  refine Sx.icmp_neV (t := 64) dX4_opens_57 (by decide) (vN (by decide)) (vN (by decide)) (fun c57 => ?_) (fun c57 => False.elim (by omega))
  refine Sx.iconst (v := (nI 0)) dX4_opens_64 (by decide) ?_
  refine Sx.iaddN dX4_opens_65 ?_
  refine Sx.putfV dX4_opens_66 lkp_X4_30_4 (o_107 W) rfl rfl (fun I3 e3 o3 => ?_)
  have L3 : LR I3 (upn (upn M 3 ((M 3) + 1)) 4 ((M 4) + 0)) S := L2.up (j := 4) (by decide) e3 o3
  have t3 := t2.o (I' := I3) fun q hq => o3 q (by omega)
  refine Sx.aload_n dX4_opens_69 rfl ?_
  refine Sx.iconst (v := (nI 1)) dX4_opens_70 (by decide) ?_
  refine Sx.putfV dX4_opens_71 lkp_X4_36_4 (o_107 W) rfl rfl (fun I4 e4 o4 => ?_)
  have L4 : LR I4 (upn (upn (upn M 3 ((M 3) + 1)) 4 ((M 4) + 0)) 6 (1)) S := L3.up (j := 6) (by decide) e4 o4
  have t4 := t3.o (I' := I4) fun q hq => o4 q (by omega)
  refine Sx.aload_n dX4_opens_74 rfl ?_
  refine Sx.iload_n dX4_opens_75 rfl ?_
  refine Sx.callV1 dX4_opens_76 lkv_X4_90 (rcv_4 (o_107 W)) (by decide) (by decide) (Nat.le_of_ble_eq_true rfl) rfl rfl (d_await W L4 (by simpa [upn] using hw) (fun I5 l5 p5 => ?_))
  refine Sx.iconst (v := (nI 1)) dX4_opens_79 (by decide) ?_
  refine Sx.top (show _ = b2i true from rfl) ?_
  refine Sx.iret dX4_opens_80 rfl (b2i_n _) ?_
  exact h I5 (t4.o fun q hq => p5 q (by omega) (by omega)) (by simpa [upn] using l5) (fun q q1 q2 q3 => by rw [p5 q q2 q3, o4 q q2, o3 q q2, o2 q q2, o1 q q1])
set_option maxRecDepth 20000 in
set_option maxHeartbeats 1000000 in
theorem d_openF {G : Gt} {l : Launch} {Z : Zt} {R : Rt} {I : It} {L : Lt} {post : Pt'} {M S : Nat → Nat} {x : Int32} (W : WF Z R) (hL : LR I M S) (h3 : 6 ≤ M 3) (h4 : M 3 < 1000) (h : post (some (.int (b2i false))) Z R I L) : Cx G l mX4_opens 3 0 0 [.ref 107, .int x, .ref 101] Z R I L post := by
  refine Cx.of (by decide +kernel) (by exact Nat.le_of_ble_eq_true rfl) ?_
  refine Sx.aload_n dX4_opens_0 rfl ?_
  refine Sx.getfV (v := (nI (M 3))) dX4_opens_1 lkf_X4_27_4 (o_107 W) (hL.1 3 (by decide) (by decide)) ?_
  refine Sx.bipush (v := (nI 6)) dX4_opens_4 (by decide) ?_
  refine Sx.icmp_ltV (t := 11) dX4_opens_6 (by decide) (vN (by omega)) (vN (by decide)) (fun c6 => False.elim (by omega)) (fun c6 => ?_)
  refine Sx.iconst (v := (nI 0)) dX4_opens_9 (by decide) ?_
  refine Sx.top (show _ = b2i false from rfl) ?_
  refine Sx.iret dX4_opens_10 rfl (b2i_n _) ?_
  exact h
