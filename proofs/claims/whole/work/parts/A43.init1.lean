/-! constructors: rows -/
set_option maxRecDepth 20000 in
set_option maxHeartbeats 1000000 in
theorem i_7_0 {G : Gt} {l : Launch} {Z : Zt} {R : Rt} {I : It} {L : Lt} {post : Pt'} {b x n : Nat} {Ls : List (Nat × Nat × Nat)} {ι : Nat → Int32} {Z0 : Zt} {R0 : Rt} {I0 : It} {L0 : Lt} {a N : Nat} (B : Bd b x n Ls ι Z0 R0 I0 L0 Z R I L) (h1 : b ≤ a) (h2 : a < n) (ha : shF a = (0, 0)) (hN : shF n = (50, N)) (hN2 : N < 60000000) (hx : n ≠ x ∨ ∀ j, ι j = 0) (h : ∀ Z' R' I' L', Bd b x (n + 1) ((a, 0, n) :: Ls) ι Z0 R0 I0 L0 Z' R' I' L' → post none Z' R' I' L') : Cx G l mX7_init 1 1 N [.ref a, .int (nI N)] Z R I L post := by
  refine Cx.of (by decide +kernel) (by exact Nat.le_of_ble_eq_true rfl) ?_
  refine Sx.aload_n dX7_init_0 rfl ?_
  refine Sx.objInit dX7_init_1 lko_X7_1 woI woC (by decide) (Nat.le_of_ble_eq_true rfl) ?_
  refine Sx.aload_n dX7_init_4 rfl ?_
  refine Sx.iload_n dX7_init_5 rfl ?_
  refine Sx.if_ge (t := 13) dX7_init_6 (by decide) (fun _ => ?_) (fun q => absurd ((n_le (a := 0) (by decide) (by omega)).mpr (Nat.zero_le _)) q)
  refine Sx.iload_n dX7_init_13 rfl ?_
  refine Bs.newarr B dX7_init_14 (t := 50) (N := N) (by decide) (by decide) rfl wac_int rfl (by omega) hN hx (bc' := 0) (bs' := 0) rfl (Nat.zero_add N).symm (fun Z1 R1 I1 L1 B1 => ?_)
  refine Sx.putfR (r := some n) dX7_init_16 lkp_X7_7_0 (fun _ => rfl) (B1.ob (by omega) (by omega) ha) rfl (fun _ => rfl) rfl (fun _ => rfl) ?_
  have B2 := B1.rf (a := a) (j := 0) (t := n) (by omega) (by omega)
  clear B1
  refine Sx.vret dX7_init_19 rfl ?_
  exact h _ _ _ _ B2
set_option maxRecDepth 20000 in
set_option maxHeartbeats 1000000 in
theorem i_7_3 {G : Gt} {l : Launch} {Z : Zt} {R : Rt} {I : It} {L : Lt} {post : Pt'} {b x n : Nat} {Ls : List (Nat × Nat × Nat)} {ι : Nat → Int32} {Z0 : Zt} {R0 : Rt} {I0 : It} {L0 : Lt} {a N : Nat} (B : Bd b x n Ls ι Z0 R0 I0 L0 Z R I L) (h1 : b ≤ a) (h2 : a < n) (ha : shF a = (3, 0)) (hN : shF n = (50, N)) (hN2 : N < 60000000) (hx : n ≠ x ∨ ∀ j, ι j = 0) (h : ∀ Z' R' I' L', Bd b x (n + 1) ((a, 0, n) :: Ls) ι Z0 R0 I0 L0 Z' R' I' L' → post none Z' R' I' L') : Cx G l mX7_init 1 1 N [.ref a, .int (nI N)] Z R I L post := by
  refine Cx.of (by decide +kernel) (by exact Nat.le_of_ble_eq_true rfl) ?_
  refine Sx.aload_n dX7_init_0 rfl ?_
  refine Sx.objInit dX7_init_1 lko_X7_1 woI woC (by decide) (Nat.le_of_ble_eq_true rfl) ?_
  refine Sx.aload_n dX7_init_4 rfl ?_
  refine Sx.iload_n dX7_init_5 rfl ?_
  refine Sx.if_ge (t := 13) dX7_init_6 (by decide) (fun _ => ?_) (fun q => absurd ((n_le (a := 0) (by decide) (by omega)).mpr (Nat.zero_le _)) q)
  refine Sx.iload_n dX7_init_13 rfl ?_
  refine Bs.newarr B dX7_init_14 (t := 50) (N := N) (by decide) (by decide) rfl wac_int rfl (by omega) hN hx (bc' := 0) (bs' := 0) rfl (Nat.zero_add N).symm (fun Z1 R1 I1 L1 B1 => ?_)
  refine Sx.putfR (r := some n) dX7_init_16 lkp_X7_7_3 (fun _ => rfl) (B1.ob (by omega) (by omega) ha) rfl (fun _ => rfl) rfl (fun _ => rfl) ?_
  have B2 := B1.rf (a := a) (j := 0) (t := n) (by omega) (by omega)
  clear B1
  refine Sx.vret dX7_init_19 rfl ?_
  exact h _ _ _ _ B2
set_option maxRecDepth 20000 in
set_option maxHeartbeats 1000000 in
theorem i_7_6 {G : Gt} {l : Launch} {Z : Zt} {R : Rt} {I : It} {L : Lt} {post : Pt'} {b x n : Nat} {Ls : List (Nat × Nat × Nat)} {ι : Nat → Int32} {Z0 : Zt} {R0 : Rt} {I0 : It} {L0 : Lt} {a N : Nat} (B : Bd b x n Ls ι Z0 R0 I0 L0 Z R I L) (h1 : b ≤ a) (h2 : a < n) (ha : shF a = (6, 0)) (hN : shF n = (50, N)) (hN2 : N < 60000000) (hx : n ≠ x ∨ ∀ j, ι j = 0) (h : ∀ Z' R' I' L', Bd b x (n + 1) ((a, 0, n) :: Ls) ι Z0 R0 I0 L0 Z' R' I' L' → post none Z' R' I' L') : Cx G l mX7_init 1 1 N [.ref a, .int (nI N)] Z R I L post := by
  refine Cx.of (by decide +kernel) (by exact Nat.le_of_ble_eq_true rfl) ?_
  refine Sx.aload_n dX7_init_0 rfl ?_
  refine Sx.objInit dX7_init_1 lko_X7_1 woI woC (by decide) (Nat.le_of_ble_eq_true rfl) ?_
  refine Sx.aload_n dX7_init_4 rfl ?_
  refine Sx.iload_n dX7_init_5 rfl ?_
  refine Sx.if_ge (t := 13) dX7_init_6 (by decide) (fun _ => ?_) (fun q => absurd ((n_le (a := 0) (by decide) (by omega)).mpr (Nat.zero_le _)) q)
  refine Sx.iload_n dX7_init_13 rfl ?_
  refine Bs.newarr B dX7_init_14 (t := 50) (N := N) (by decide) (by decide) rfl wac_int rfl (by omega) hN hx (bc' := 0) (bs' := 0) rfl (Nat.zero_add N).symm (fun Z1 R1 I1 L1 B1 => ?_)
  refine Sx.putfR (r := some n) dX7_init_16 lkp_X7_7_6 (fun _ => rfl) (B1.ob (by omega) (by omega) ha) rfl (fun _ => rfl) rfl (fun _ => rfl) ?_
  have B2 := B1.rf (a := a) (j := 0) (t := n) (by omega) (by omega)
  clear B1
  refine Sx.vret dX7_init_19 rfl ?_
  exact h _ _ _ _ B2
set_option maxRecDepth 20000 in
set_option maxHeartbeats 1000000 in
theorem i_7_7 {G : Gt} {l : Launch} {Z : Zt} {R : Rt} {I : It} {L : Lt} {post : Pt'} {b x n : Nat} {Ls : List (Nat × Nat × Nat)} {ι : Nat → Int32} {Z0 : Zt} {R0 : Rt} {I0 : It} {L0 : Lt} {a N : Nat} (B : Bd b x n Ls ι Z0 R0 I0 L0 Z R I L) (h1 : b ≤ a) (h2 : a < n) (ha : shF a = (7, 0)) (hN : shF n = (50, N)) (hN2 : N < 60000000) (hx : n ≠ x ∨ ∀ j, ι j = 0) (h : ∀ Z' R' I' L', Bd b x (n + 1) ((a, 0, n) :: Ls) ι Z0 R0 I0 L0 Z' R' I' L' → post none Z' R' I' L') : Cx G l mX7_init 1 1 N [.ref a, .int (nI N)] Z R I L post := by
  refine Cx.of (by decide +kernel) (by exact Nat.le_of_ble_eq_true rfl) ?_
  refine Sx.aload_n dX7_init_0 rfl ?_
  refine Sx.objInit dX7_init_1 lko_X7_1 woI woC (by decide) (Nat.le_of_ble_eq_true rfl) ?_
  refine Sx.aload_n dX7_init_4 rfl ?_
  refine Sx.iload_n dX7_init_5 rfl ?_
  refine Sx.if_ge (t := 13) dX7_init_6 (by decide) (fun _ => ?_) (fun q => absurd ((n_le (a := 0) (by decide) (by omega)).mpr (Nat.zero_le _)) q)
  refine Sx.iload_n dX7_init_13 rfl ?_
  refine Bs.newarr B dX7_init_14 (t := 50) (N := N) (by decide) (by decide) rfl wac_int rfl (by omega) hN hx (bc' := 0) (bs' := 0) rfl (Nat.zero_add N).symm (fun Z1 R1 I1 L1 B1 => ?_)
  refine Sx.putfR (r := some n) dX7_init_16 lkp_X7_7_7 (fun _ => rfl) (B1.ob (by omega) (by omega) ha) rfl (fun _ => rfl) rfl (fun _ => rfl) ?_
  have B2 := B1.rf (a := a) (j := 0) (t := n) (by omega) (by omega)
  clear B1
  refine Sx.vret dX7_init_19 rfl ?_
  exact h _ _ _ _ B2
set_option maxRecDepth 20000 in
set_option maxHeartbeats 1000000 in
theorem i_7_8 {G : Gt} {l : Launch} {Z : Zt} {R : Rt} {I : It} {L : Lt} {post : Pt'} {b x n : Nat} {Ls : List (Nat × Nat × Nat)} {ι : Nat → Int32} {Z0 : Zt} {R0 : Rt} {I0 : It} {L0 : Lt} {a N : Nat} (B : Bd b x n Ls ι Z0 R0 I0 L0 Z R I L) (h1 : b ≤ a) (h2 : a < n) (ha : shF a = (8, 0)) (hN : shF n = (50, N)) (hN2 : N < 60000000) (hx : n ≠ x ∨ ∀ j, ι j = 0) (h : ∀ Z' R' I' L', Bd b x (n + 1) ((a, 0, n) :: Ls) ι Z0 R0 I0 L0 Z' R' I' L' → post none Z' R' I' L') : Cx G l mX7_init 1 1 N [.ref a, .int (nI N)] Z R I L post := by
  refine Cx.of (by decide +kernel) (by exact Nat.le_of_ble_eq_true rfl) ?_
  refine Sx.aload_n dX7_init_0 rfl ?_
  refine Sx.objInit dX7_init_1 lko_X7_1 woI woC (by decide) (Nat.le_of_ble_eq_true rfl) ?_
  refine Sx.aload_n dX7_init_4 rfl ?_
  refine Sx.iload_n dX7_init_5 rfl ?_
  refine Sx.if_ge (t := 13) dX7_init_6 (by decide) (fun _ => ?_) (fun q => absurd ((n_le (a := 0) (by decide) (by omega)).mpr (Nat.zero_le _)) q)
  refine Sx.iload_n dX7_init_13 rfl ?_
  refine Bs.newarr B dX7_init_14 (t := 50) (N := N) (by decide) (by decide) rfl wac_int rfl (by omega) hN hx (bc' := 0) (bs' := 0) rfl (Nat.zero_add N).symm (fun Z1 R1 I1 L1 B1 => ?_)
  refine Sx.putfR (r := some n) dX7_init_16 lkp_X7_7_8 (fun _ => rfl) (B1.ob (by omega) (by omega) ha) rfl (fun _ => rfl) rfl (fun _ => rfl) ?_
  have B2 := B1.rf (a := a) (j := 0) (t := n) (by omega) (by omega)
  clear B1
  refine Sx.vret dX7_init_19 rfl ?_
  exact h _ _ _ _ B2
set_option maxRecDepth 20000 in
set_option maxHeartbeats 1000000 in
theorem i_8 {G : Gt} {l : Launch} {Z : Zt} {R : Rt} {I : It} {L : Lt} {post : Pt'} {b x n : Nat} {Ls : List (Nat × Nat × Nat)} {ι : Nat → Int32} {Z0 : Zt} {R0 : Rt} {I0 : It} {L0 : Lt} {a : Nat} (B : Bd b x n Ls ι Z0 R0 I0 L0 Z R I L) (h1 : b ≤ a) (h2 : a < n) (ha : shF a = (8, 0)) (hN : shF n = (50, 146)) (hx : n ≠ x ∨ ∀ j, ι j = 0) (h : ∀ Z' R' I' L', Bd b x (n + 1) ((a, 0, n) :: Ls) ι Z0 R0 I0 L0 Z' R' I' L' → post none Z' R' I' L') : Cx G l mX8_init 2 1 146 [.ref a] Z R I L post := by
  refine Cx.of (by decide +kernel) (by exact Nat.le_of_ble_eq_true rfl) ?_
  refine Sx.aload_n dX8_init_0 rfl ?_
  refine Sx.sipush (v := (nI 146)) dX8_init_1 (by decide) ?_
  refine Sx.callI (As := [.int (nI 146)]) dX8_init_4 lki_X8_5 rfl (by decide) (by decide) (Nat.le_of_ble_eq_true rfl) (bc' := 0) (bs' := 0) rfl rfl (i_7_8 B h1 h2 ha hN (by decide) hx (fun Z1 R1 I1 L1 B1 => ?_))
  refine Sx.vret dX8_init_7 rfl ?_
  exact h _ _ _ _ B1
set_option maxRecDepth 20000 in
set_option maxHeartbeats 1000000 in
theorem i_3 {G : Gt} {l : Launch} {Z : Zt} {R : Rt} {I : It} {L : Lt} {post : Pt'} {b x n : Nat} {Ls : List (Nat × Nat × Nat)} {ι : Nat → Int32} {Z0 : Zt} {R0 : Rt} {I0 : It} {L0 : Lt} {a : Nat} (B : Bd b x n Ls ι Z0 R0 I0 L0 Z R I L) (h1 : b ≤ a) (h2 : a < n) (ha : shF a = (3, 0)) (hN : shF n = (50, 240)) (hx : n ≠ x ∨ ∀ j, ι j = 0) (hax : a ≠ x) (h : ∀ Z' R' I' L', Bd b x (n + 1) ((a, 0, n) :: Ls) ι Z0 R0 I0 L0 Z' R' I' L' → post none Z' R' I' L') : Cx G l mX3_init 2 1 240 [.ref a] Z R I L post := by
  refine Cx.of (by decide +kernel) (by exact Nat.le_of_ble_eq_true rfl) ?_
  refine Sx.aload_n dX3_init_0 rfl ?_
  refine Sx.sipush (v := (nI 240)) dX3_init_1 (by decide) ?_
  refine Sx.callI (As := [.int (nI 240)]) dX3_init_4 lki_X3_3 rfl (by decide) (by decide) (Nat.le_of_ble_eq_true rfl) (bc' := 0) (bs' := 0) rfl rfl (i_7_3 B h1 h2 ha hN (by decide) hx (fun Z1 R1 I1 L1 B1 => ?_))
  refine Sx.aload_n dX3_init_7 rfl ?_
  refine Sx.iconst (v := (nI 0)) dX3_init_8 (by decide) ?_
  refine Sx.putfI dX3_init_9 lkp_X3_9_3 (B1.ob (by omega) (by omega) ha) rfl rfl ?_
  have B2 := B1.z0 (a := a) (j := 1) (v := nI 0) (by omega) (by omega) (by rw [if_neg hax]; rfl)
  clear B1
  refine Sx.vret dX3_init_12 rfl ?_
  exact h _ _ _ _ B2
set_option maxRecDepth 20000 in
set_option maxHeartbeats 1000000 in
theorem i_6 {G : Gt} {l : Launch} {Z : Zt} {R : Rt} {I : It} {L : Lt} {post : Pt'} {b x n : Nat} {Ls : List (Nat × Nat × Nat)} {ι : Nat → Int32} {Z0 : Zt} {R0 : Rt} {I0 : It} {L0 : Lt} {a : Nat} (B : Bd b x n Ls ι Z0 R0 I0 L0 Z R I L) (h1 : b ≤ a) (h2 : a < n) (ha : shF a = (6, 0)) (hN : shF n = (50, 36)) (hx : n ≠ x ∨ ∀ j, ι j = 0) (h : ∀ Z' R' I' L', Bd b x (n + 1) ((a, 0, n) :: Ls) ι Z0 R0 I0 L0 Z' R' I' L' → post none Z' R' I' L') : Cx G l mX6_init 2 1 36 [.ref a] Z R I L post := by
  refine Cx.of (by decide +kernel) (by exact Nat.le_of_ble_eq_true rfl) ?_
  refine Sx.aload_n dX6_init_0 rfl ?_
  refine Sx.bipush (v := (nI 36)) dX6_init_1 (by decide) ?_
  refine Sx.callI (As := [.int (nI 36)]) dX6_init_3 lki_X6_5 rfl (by decide) (by decide) (Nat.le_of_ble_eq_true rfl) (bc' := 0) (bs' := 0) rfl rfl (i_7_6 B h1 h2 ha hN (by decide) hx (fun Z1 R1 I1 L1 B1 => ?_))
  refine Sx.vret dX6_init_6 rfl ?_
  exact h _ _ _ _ B1
set_option maxRecDepth 20000 in
set_option maxHeartbeats 1000000 in
theorem i_0 {G : Gt} {l : Launch} {Z : Zt} {R : Rt} {I : It} {L : Lt} {post : Pt'} {b x n : Nat} {Ls : List (Nat × Nat × Nat)} {ι : Nat → Int32} {Z0 : Zt} {R0 : Rt} {I0 : It} {L0 : Lt} {a : Nat} (B : Bd b x n Ls ι Z0 R0 I0 L0 Z R I L) (h1 : b ≤ a) (h2 : a < n) (ha : shF a = (0, 0)) (hN : shF n = (50, 60)) (hx : n ≠ x ∨ ∀ j, ι j = 0) (hax : a ≠ x) (h : ∀ Z' R' I' L', Bd b x (n + 1) ((a, 0, n) :: Ls) ι Z0 R0 I0 L0 Z' R' I' L' → post none Z' R' I' L') : Cx G l mX0_init 2 1 60 [.ref a] Z R I L post := by
  refine Cx.of (by decide +kernel) (by exact Nat.le_of_ble_eq_true rfl) ?_
  refine Sx.aload_n dX0_init_0 rfl ?_
  refine Sx.bipush (v := (nI 60)) dX0_init_1 (by decide) ?_
  refine Sx.callI (As := [.int (nI 60)]) dX0_init_3 lki_X0_5 rfl (by decide) (by decide) (Nat.le_of_ble_eq_true rfl) (bc' := 0) (bs' := 0) rfl rfl (i_7_0 B h1 h2 ha hN (by decide) hx (fun Z1 R1 I1 L1 B1 => ?_))
  refine Sx.aload_n dX0_init_6 rfl ?_
  refine Sx.iconst (v := (nI 0)) dX0_init_7 (by decide) ?_
  refine Sx.putfI dX0_init_8 lkp_X0_11_0 (B1.ob (by omega) (by omega) ha) rfl rfl ?_
  have B2 := B1.z0 (a := a) (j := 1) (v := nI 0) (by omega) (by omega) (by rw [if_neg hax]; rfl)
  clear B1
  refine Sx.vret dX0_init_11 rfl ?_
  exact h _ _ _ _ B2
