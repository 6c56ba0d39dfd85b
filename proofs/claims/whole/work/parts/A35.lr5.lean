/-! the class: the reader of laws: atoms, heads, units -/
theorem c_isDigN {G : Gt} {l : Launch} {Z : Zt} {R : Rt} {I : It} {L : Lt} {post : Pt'} {x : Nat} (hx : x < 256) (h : post (some (.int (b2i (isDN x)))) Z R I L) : Cx G l mX11_isDigit 1 0 0 [.int (nI x)] Z R I L post := c_isDigit (by rw [isDg_n (by omega)]; exact h)
theorem rd_9999 {T : Nat → Nat} {n c : Nat} (hT : ∀ i, sgn T n i < 256) (hnx : nx T n c = c) (hd : isDN (sgn T n c) = true) : rdR T n c 4 0 9999 = !isDN (sgn T n (rdE T n c 4)) ∧ rdP T n c 4 0 9999 = rdE T n c 4 := by
  have hv : rdV T n c 4 < 10000 := rdv_b4 T n hT _
  have hdec : decide (0 ≤ rdV T n c 4 ∧ rdV T n c 4 ≤ 9999) = true := decide_eq_true (by omega)
  unfold rdR rdP
  rw [hnx, hd, hdec, if_pos rfl]
  refine ⟨by simp, ?_⟩
  split
  · rfl
  · rw [if_pos (by omega)]
theorem lt_pl : ∀ x, x < 256 → (isLt x = true ↔ plN ltL (nI x) ≠ 0) ∧ plN ltL (nI x) ≤ 6 := by decide +kernel
theorem lco_iI (x : Nat) : iI (-1 - ((plN ltL (nI x) : Int) - 1)) = lco x := by
  rw [← iI_sub, ← iI_sub, ← nI_iI]
  rfl
theorem cg8 {I : It} {M M' S S' : Nat → Nat} (h : LR I M S) (h1 : M 1 = M' 1) (h2 : M 2 = M' 2) (h3 : M 3 = M' 3) (h4 : M 4 = M' 4) (h5 : M 5 = M' 5) (h6 : M 6 = M' 6) (h7 : M 7 = M' 7) (h8 : M 8 = M' 8) (hS : ∀ j, j < M 1 → S j = S' j) : LR I M' S' :=
  h.cg (fun j a b => by
    have : j = 1 ∨ j = 2 ∨ j = 3 ∨ j = 4 ∨ j = 5 ∨ j = 6 ∨ j = 7 ∨ j = 8 := by omega
    rcases this with rfl | rfl | rfl | rfl | rfl | rfl | rfl | rfl <;> assumption) hS
set_option maxRecDepth 20000 in
set_option maxHeartbeats 1000000 in
theorem d_atD {G : Gt} {l : Launch} {Z : Zt} {R : Rt} {I : It} {L : Lt} {post : Pt'} {T M S : Nat → Nat} {n c x a : Nat} {k : List Int32} (W : WF Z R) (hr : rwo Z R a 3 240) (ha : 233 ≤ a) (hL : LR I M S) (hT : TS I T n c) (hk : LK I a k) (hkl : k.length < 240) (hx : sgn T n c = x) (hx0 : x ≠ 0) (hx2 : x < 256) (hnx : nx T n c = c) (hd : isDN x = true) (h0 : isDN (sgn T n (rdE T n c 4)) = true → ∀ I', TS I' T n (rdE T n c 4) → (∀ q, q ≠ 101 → q ≠ 107 → q ≠ a → q ≠ a + 1 → I' q = I q) → post (some (.int (b2i false))) Z R I' L) (h1 : isDN (sgn T n (rdE T n c 4)) = false → ∀ I', TS I' T n (rdE T n c 4) → LR I' (upn M 2 4) S → LK I' a (k ++ [nI (rdV T n c 4)]) → (∀ q, q ≠ 101 → q ≠ 107 → q ≠ a → q ≠ a + 1 → I' q = I q) → post (some (.int (b2i true))) Z R I' L) : Cx G l mX4_takesAtom 3 0 0 [.ref 107, .int (nI x), .ref 101, .ref a] Z R I L post := by
  refine Cx.of (by decide +kernel) (by exact Nat.le_of_ble_eq_true rfl) ?_
  refine Sx.iload_n dX4_takesAtom_0 rfl ?_
  refine Sx.callSN1 dX4_takesAtom_1 lkc_X4_93  (by decide) (by decide) (Nat.le_of_ble_eq_true rfl) rfl rfl (c_isDigN hx2 ?_)
  refine Sx.if_eqB (t := 32) dX4_takesAtom_4 (by decide) (fun c4 => False.elim (by rw [hd] at c4; cases c4)) (fun c4 => ?_)
  refine Sx.aload_n dX4_takesAtom_7 rfl ?_
  refine Sx.iconst (v := (nI 4)) dX4_takesAtom_8 (by decide) ?_
  refine Sx.iconst (v := (nI 0)) dX4_takesAtom_9 (by decide) ?_
  refine Sx.sipush (v := (nI 9999)) dX4_takesAtom_10 (by decide) ?_
  refine Sx.callV3 dX4_takesAtom_13 lkv_X4_96 (rcv_9 (o_101 W)) (by decide) (by decide) (Nat.le_of_ble_eq_true rfl) rfl rfl (c_rnum W hT (D := 4) (lo := 0) (hi := 9999) (by decide) (by decide) (by decide) (by decide) (fun I1 t1 v1 o1 => ?_))
  refine Sx.if_neB (t := 21) dX4_takesAtom_16 (by decide) (fun c16 => ?_) (fun c16 => ?_)
  · refine Sx.aload_n dX4_takesAtom_21 rfl ?_
    refine Sx.aload_n dX4_takesAtom_22 rfl ?_
    refine Sx.callV0 dX4_takesAtom_23 lkv_X4_100 (rcv_9 (o_101 W)) (by decide) (by decide) (Nat.le_of_ble_eq_true rfl) rfl rfl (c_numN W (v1 c16) ?_)
    refine Sx.callV1 dX4_takesAtom_26 lkv_X4_103 (rcv_3 hr.1) (by decide) (by decide) (Nat.le_of_ble_eq_true rfl) rfl rfl (d_addK (k := k) hr (hk.o (o1 a (by omega)) (o1 (a + 1) (by omega))) hkl (fun I2 k2 o2 => ?_))
    refine Sx.goto (t := 61) dX4_takesAtom_29 (by decide) ?_
    refine Sx.aload_n dX4_takesAtom_61 rfl ?_
    refine Sx.iconst (v := (nI 4)) dX4_takesAtom_62 (by decide) ?_
    refine Sx.putfV dX4_takesAtom_63 lkp_X4_24_4 (o_107 W) rfl rfl (fun I3 e3 o3 => ?_)
    refine Sx.iconst (v := (nI 1)) dX4_takesAtom_66 (by decide) ?_
    refine Sx.top (show _ = b2i true from rfl) ?_
    refine Sx.iret dX4_takesAtom_67 rfl (b2i_n _) ?_
    refine h1 (by rw [(rd_9999 (sgn_b hT) hnx (by rw [hx]; exact hd)).1] at c16; simpa using c16) I3 ?_ ?_ ?_ (fun q q1 q2 q3 q4 => by rw [o3 q q2, o2 q q3 q4, o1 q q1])
    · rw [(rd_9999 (sgn_b hT) hnx (by rw [hx]; exact hd)).2] at t1
      exact t1.o fun q hq => by rw [o3 q (by omega), o2 q (by omega) (by omega)]
    · exact (hL.o (I' := I2) fun q hq => by rw [o2 q (by omega) (by omega), o1 q (by omega)]).up (by decide) e3 o3
    · exact k2.o (o3 a (by omega)) (o3 (a + 1) (by omega))
  · refine Sx.iconst (v := (nI 0)) dX4_takesAtom_19 (by decide) ?_
    refine Sx.top (show _ = b2i false from rfl) ?_
    refine Sx.iret dX4_takesAtom_20 rfl (b2i_n _) ?_
    refine h0 (by rw [(rd_9999 (sgn_b hT) hnx (by rw [hx]; exact hd)).1] at c16; simpa using c16) I1 ?_ (fun q q1 _ _ _ => o1 q q1)
    rw [(rd_9999 (sgn_b hT) hnx (by rw [hx]; exact hd)).2] at t1
    exact t1
set_option maxRecDepth 20000 in
set_option maxHeartbeats 1000000 in
theorem d_atL {G : Gt} {l : Launch} {Z : Zt} {R : Rt} {I : It} {L : Lt} {post : Pt'} {T M S : Nat → Nat} {n c x a : Nat} {k : List Int32} (W : WF Z R) (hr : rwo Z R a 3 240) (ha : 233 ≤ a) (hL : LR I M S) (hT : TS I T n c) (hk : LK I a k) (hkl : k.length < 240) (hx : sgn T n c = x) (hx0 : x ≠ 0) (hx2 : x < 256) (hnx : nx T n c = c) (hd : isDN x = false) (hl : isLt x = true) (h1 : ∀ I', TS I' T n (c + 1) → LR I' (upn M 2 4) S → LK I' a (k ++ [lco x]) → (∀ q, q ≠ 101 → q ≠ 107 → q ≠ a → q ≠ a + 1 → I' q = I q) → post (some (.int (b2i true))) Z R I' L) : Cx G l mX4_takesAtom 3 0 0 [.ref 107, .int (nI x), .ref 101, .ref a] Z R I L post := by
  refine Cx.of (by decide +kernel) (by exact Nat.le_of_ble_eq_true rfl) ?_
  have hpl := lt_pl x hx2
  refine Sx.iload_n dX4_takesAtom_0 rfl ?_
  refine Sx.callSN1 dX4_takesAtom_1 lkc_X4_93  (by decide) (by decide) (Nat.le_of_ble_eq_true rfl) rfl rfl (c_isDigN hx2 ?_)
  refine Sx.if_eqB (t := 32) dX4_takesAtom_4 (by decide) (fun c4 => ?_) (fun c4 => False.elim (by rw [hd] at c4; cases c4))
  refine Sx.gets dX4_takesAtom_32 (k := 0) rfl (by decide) lks_X4_106 ?_
  refine Sx.iload_n dX4_takesAtom_35 rfl ?_
  refine Sx.callSN2 dX4_takesAtom_36 lkc_X4_110  (by decide) (by decide) (Nat.le_of_ble_eq_true rfl) rfl rfl (c_placeZ (r := ("DarkestDay$Law", "LETTERS", "[C", 53, [105, 100, 102, 117, 121, 114])) rfl (by decide) rfl (by decide) ?_)
  refine Sx.istore (lv' := [(4, .int (iI ((plN ltL (nI x) : Int) - 1))), (0, .ref 107), (1, .int (nI x)), (2, .ref 101), (3, .ref a)]) dX4_takesAtom_39 (by decide) rfl ?_
  refine Sx.iload dX4_takesAtom_41 rfl ?_
  refine Sx.iconst (v := (iI (-1))) dX4_takesAtom_43 (by decide) ?_
  refine Sx.icmp_neV (t := 49) dX4_takesAtom_44 (by decide) (vZ (by omega)) (vZ (by decide)) (fun c44 => ?_) (fun c44 => False.elim (by have := hpl.1.mp hl; omega))
  refine Sx.aload_n dX4_takesAtom_49 rfl ?_
  refine Sx.callV0 dX4_takesAtom_50 lkv_X4_68 (rcv_9 (o_101 W)) (by decide) (by decide) (Nat.le_of_ble_eq_true rfl) rfl rfl (c_adv W hT (sgn_lt (by rw [hx]; exact hx0)) (fun I1 t1 a1 o1 => ?_))
  refine Sx.aload_n dX4_takesAtom_53 rfl ?_
  refine Sx.iconst (v := (iI (-1))) dX4_takesAtom_54 (by decide) ?_
  refine Sx.iload dX4_takesAtom_55 rfl ?_
  refine Sx.isubV dX4_takesAtom_57 (vZ (by decide)) (vZ (by omega)) ?_
  refine Sx.callV1 dX4_takesAtom_58 lkv_X4_103 (rcv_3 hr.1) (by decide) (by decide) (Nat.le_of_ble_eq_true rfl) rfl rfl (d_addK (k := k) hr (hk.o (o1 a (by omega)) (o1 (a + 1) (by omega))) hkl (fun I2 k2 o2 => ?_))
  refine Sx.aload_n dX4_takesAtom_61 rfl ?_
  refine Sx.iconst (v := (nI 4)) dX4_takesAtom_62 (by decide) ?_
  refine Sx.putfV dX4_takesAtom_63 lkp_X4_24_4 (o_107 W) rfl rfl (fun I3 e3 o3 => ?_)
  refine Sx.iconst (v := (nI 1)) dX4_takesAtom_66 (by decide) ?_
  refine Sx.top (show _ = b2i true from rfl) ?_
  refine Sx.iret dX4_takesAtom_67 rfl (b2i_n _) ?_
  refine h1 I3 ?_ ?_ ?_ (fun q q1 q2 q3 q4 => by rw [o3 q q2, o2 q q3 q4, o1 q q1])
  · exact t1.o fun q hq => by rw [o3 q (by omega), o2 q (by omega) (by omega)]
  · exact (hL.o (I' := I2) fun q hq => by rw [o2 q (by omega) (by omega), o1 q (by omega)]).up (by decide) e3 o3
  · rw [lco_iI] at k2
    exact k2.o (o3 a (by omega)) (o3 (a + 1) (by omega))
set_option maxRecDepth 20000 in
set_option maxHeartbeats 1000000 in
theorem d_atN {G : Gt} {l : Launch} {Z : Zt} {R : Rt} {I : It} {L : Lt} {post : Pt'} {T M S : Nat → Nat} {n c x a : Nat} {k : List Int32} (W : WF Z R) (hr : rwo Z R a 3 240) (ha : 233 ≤ a) (hL : LR I M S) (hT : TS I T n c) (hk : LK I a k) (hkl : k.length < 240) (hx : sgn T n c = x) (hx0 : x ≠ 0) (hx2 : x < 256) (hnx : nx T n c = c) (hd : isDN x = false) (hl : ¬ isLt x = true) (h0 : post (some (.int (b2i false))) Z R I L) : Cx G l mX4_takesAtom 3 0 0 [.ref 107, .int (nI x), .ref 101, .ref a] Z R I L post := by
  refine Cx.of (by decide +kernel) (by exact Nat.le_of_ble_eq_true rfl) ?_
  have hpl := lt_pl x hx2
  have h7 : plN ltL (nI x) = 0 := Decidable.byContradiction fun z => hl (hpl.1.mpr z)
  refine Sx.iload_n dX4_takesAtom_0 rfl ?_
  refine Sx.callSN1 dX4_takesAtom_1 lkc_X4_93  (by decide) (by decide) (Nat.le_of_ble_eq_true rfl) rfl rfl (c_isDigN hx2 ?_)
  refine Sx.if_eqB (t := 32) dX4_takesAtom_4 (by decide) (fun c4 => ?_) (fun c4 => False.elim (by rw [hd] at c4; cases c4))
  refine Sx.gets dX4_takesAtom_32 (k := 0) rfl (by decide) lks_X4_106 ?_
  refine Sx.iload_n dX4_takesAtom_35 rfl ?_
  refine Sx.callSN2 dX4_takesAtom_36 lkc_X4_110  (by decide) (by decide) (Nat.le_of_ble_eq_true rfl) rfl rfl (c_placeZ (r := ("DarkestDay$Law", "LETTERS", "[C", 53, [105, 100, 102, 117, 121, 114])) rfl (by decide) rfl (by decide) ?_)
  refine Sx.istore (lv' := [(4, .int (iI ((plN ltL (nI x) : Int) - 1))), (0, .ref 107), (1, .int (nI x)), (2, .ref 101), (3, .ref a)]) dX4_takesAtom_39 (by decide) rfl ?_
  refine Sx.iload dX4_takesAtom_41 rfl ?_
  refine Sx.iconst (v := (iI (-1))) dX4_takesAtom_43 (by decide) ?_
  refine Sx.icmp_neV (t := 49) dX4_takesAtom_44 (by decide) (vZ (by omega)) (vZ (by decide)) (fun c44 => False.elim (by omega)) (fun c44 => ?_)
  refine Sx.iconst (v := (nI 0)) dX4_takesAtom_47 (by decide) ?_
  refine Sx.top (show _ = b2i false from rfl) ?_
  refine Sx.iret dX4_takesAtom_48 rfl (b2i_n _) ?_
  exact h0
