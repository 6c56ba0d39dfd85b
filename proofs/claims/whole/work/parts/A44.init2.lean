/-! constructors: the tape, the reader of laws, the course, the outlook, the witness -/
set_option maxRecDepth 20000 in
set_option maxHeartbeats 1000000 in
theorem i_9 {G : Gt} {l : Launch} {Z : Zt} {R : Rt} {I : It} {L : Lt} {post : Pt'} {Ls : List (Nat × Nat × Nat)} {ι : Nat → Int32} {Z0 : Zt} {R0 : Rt} {I0 : It} {L0 : Lt} (B : Bd 100 100 102 Ls ι Z0 R0 I0 L0 Z R I L) (h : ∀ Z' R' I' L', Bd 100 100 103 ((101, 0, 102) :: Ls) ι Z0 R0 I0 L0 Z' R' I' L' → post none Z' R' I' L') : Cx G l mX9_init 1 1 240 [.ref 101] Z R I L post := by
  refine Cx.of (by decide +kernel) (by exact Nat.le_of_ble_eq_true rfl) ?_
  refine Sx.aload_n dX9_init_0 rfl ?_
  refine Sx.objInit dX9_init_1 lko_X9_3 woI woC (by decide) (Nat.le_of_ble_eq_true rfl) ?_
  refine Sx.aload_n dX9_init_4 rfl ?_
  refine Sx.sipush (v := (nI 240)) dX9_init_5 (by decide) ?_
  refine Bs.newarr B dX9_init_8 (t := 50) (N := 240) (by decide) (by decide) rfl wac_int rfl (by decide) (by decide +kernel) (Or.inl (by decide)) (bc' := 0) (bs' := 0) rfl rfl (fun Z1 R1 I1 L1 B1 => ?_)
  refine Sx.putfR (r := some 102) dX9_init_10 lkp_X9_9_9 (fun _ => rfl) (B1.ob (by decide) (by decide) (by decide +kernel)) rfl (fun _ => rfl) rfl (fun _ => rfl) ?_
  have B2 := B1.rf (a := 101) (j := 0) (t := 102) (by decide) (by decide)
  clear B1
  refine Sx.aload_n dX9_init_13 rfl ?_
  refine Sx.iconst (v := (nI 0)) dX9_init_14 (by decide) ?_
  refine Sx.putfI dX9_init_15 lkp_X9_15_9 (B2.ob (by decide) (by decide) (by decide +kernel)) rfl rfl ?_
  have B3 := B2.z0 (a := 101) (j := 1) (v := nI 0) (by decide) (by decide) (by rw [if_neg (by decide)]; rfl)
  clear B2
  refine Sx.aload_n dX9_init_18 rfl ?_
  refine Sx.iconst (v := (nI 0)) dX9_init_19 (by decide) ?_
  refine Sx.putfI dX9_init_20 lkp_X9_19_9 (B3.ob (by decide) (by decide) (by decide +kernel)) rfl rfl ?_
  have B4 := B3.z0 (a := 101) (j := 2) (v := nI 0) (by decide) (by decide) (by rw [if_neg (by decide)]; rfl)
  clear B3
  refine Sx.aload_n dX9_init_23 rfl ?_
  refine Sx.iconst (v := (nI 0)) dX9_init_24 (by decide) ?_
  refine Sx.putfI dX9_init_25 lkp_X9_22_9 (B4.ob (by decide) (by decide) (by decide +kernel)) rfl rfl ?_
  have B5 := B4.z0 (a := 101) (j := 3) (v := nI 0) (by decide) (by decide) (by rw [if_neg (by decide)]; rfl)
  clear B4
  refine Sx.vret dX9_init_28 rfl ?_
  exact h _ _ _ _ B5
set_option maxRecDepth 20000 in
set_option maxHeartbeats 1000000 in
theorem i_4 {G : Gt} {l : Launch} {Z : Zt} {R : Rt} {I : It} {L : Lt} {post : Pt'} {Ls : List (Nat × Nat × Nat)} {ι : Nat → Int32} {Z0 : Zt} {R0 : Rt} {I0 : It} {L0 : Lt} (B : Bd 100 100 108 Ls ι Z0 R0 I0 L0 Z R I L) (h : ∀ Z' R' I' L', Bd 100 100 110 ((107, 0, 108) :: ((108, 0, 109) :: Ls)) ι Z0 R0 I0 L0 Z' R' I' L' → post none Z' R' I' L') : Cx G l mX4_init 2 2 65 [.ref 107] Z R I L post := by
  refine Cx.of (by decide +kernel) (by exact Nat.le_of_ble_eq_true rfl) ?_
  refine Sx.aload_n dX4_init_0 rfl ?_
  refine Sx.objInit dX4_init_1 lko_X4_3 woI woC (by decide) (Nat.le_of_ble_eq_true rfl) ?_
  refine Sx.aload_n dX4_init_4 rfl ?_
  refine Bs.new B dX4_init_5 lkn_X4_9 (by decide +kernel) (Or.inl (by decide)) (bc' := 1) (bs' := 64) rfl rfl (fun Z1 R1 I1 L1 B1 => ?_)
  refine Sx.dup dX4_init_8 rfl ?_
  refine Sx.bipush (v := (nI 64)) dX4_init_9 (by decide) ?_
  refine Sx.callI (As := [.int (nI 64)]) dX4_init_11 lki_X4_13 rfl (by decide) (by decide) (Nat.le_of_ble_eq_true rfl) (bc' := 0) (bs' := 0) rfl rfl (i_7_7 B1 (by decide) (by decide) (by decide +kernel) (by decide +kernel) (by decide) (Or.inl (by decide)) (fun Z2 R2 I2 L2 B2 => ?_))
  clear B1
  refine Sx.putfR (r := some 108) dX4_init_14 lkp_X4_16_4 (fun _ => rfl) (B2.ob (by decide) (by decide) (by decide +kernel)) rfl (fun _ => rfl) rfl (fun _ => rfl) ?_
  have B3 := B2.rf (a := 107) (j := 0) (t := 108) (by decide) (by decide)
  clear B2
  refine Sx.aload_n dX4_init_17 rfl ?_
  refine Sx.iconst (v := (nI 0)) dX4_init_18 (by decide) ?_
  refine Sx.putfI dX4_init_19 lkp_X4_20_4 (B3.ob (by decide) (by decide) (by decide +kernel)) rfl rfl ?_
  have B4 := B3.z0 (a := 107) (j := 1) (v := nI 0) (by decide) (by decide) (by rw [if_neg (by decide)]; rfl)
  clear B3
  refine Sx.aload_n dX4_init_22 rfl ?_
  refine Sx.iconst (v := (nI 0)) dX4_init_23 (by decide) ?_
  refine Sx.putfI dX4_init_24 lkp_X4_24_4 (B4.ob (by decide) (by decide) (by decide +kernel)) rfl rfl ?_
  have B5 := B4.z0 (a := 107) (j := 2) (v := nI 0) (by decide) (by decide) (by rw [if_neg (by decide)]; rfl)
  clear B4
  refine Sx.aload_n dX4_init_27 rfl ?_
  refine Sx.iconst (v := (nI 0)) dX4_init_28 (by decide) ?_
  refine Sx.putfI dX4_init_29 lkp_X4_27_4 (B5.ob (by decide) (by decide) (by decide +kernel)) rfl rfl ?_
  have B6 := B5.z0 (a := 107) (j := 3) (v := nI 0) (by decide) (by decide) (by rw [if_neg (by decide)]; rfl)
  clear B5
  refine Sx.aload_n dX4_init_32 rfl ?_
  refine Sx.iconst (v := (nI 0)) dX4_init_33 (by decide) ?_
  refine Sx.putfI dX4_init_34 lkp_X4_30_4 (B6.ob (by decide) (by decide) (by decide +kernel)) rfl rfl ?_
  have B7 := B6.z0 (a := 107) (j := 4) (v := nI 0) (by decide) (by decide) (by rw [if_neg (by decide)]; rfl)
  clear B6
  refine Sx.aload_n dX4_init_37 rfl ?_
  refine Sx.iconst (v := (nI 0)) dX4_init_38 (by decide) ?_
  refine Sx.putfI dX4_init_39 lkp_X4_33_4 (B7.ob (by decide) (by decide) (by decide +kernel)) rfl rfl ?_
  have B8 := B7.z0 (a := 107) (j := 5) (v := nI 0) (by decide) (by decide) (by rw [if_neg (by decide)]; rfl)
  clear B7
  refine Sx.aload_n dX4_init_42 rfl ?_
  refine Sx.iconst (v := (nI 0)) dX4_init_43 (by decide) ?_
  refine Sx.putfI dX4_init_44 lkp_X4_36_4 (B8.ob (by decide) (by decide) (by decide +kernel)) rfl rfl ?_
  have B9 := B8.z0 (a := 107) (j := 6) (v := nI 0) (by decide) (by decide) (by rw [if_neg (by decide)]; rfl)
  clear B8
  refine Sx.aload_n dX4_init_47 rfl ?_
  refine Sx.iconst (v := (nI 0)) dX4_init_48 (by decide) ?_
  refine Sx.putfI dX4_init_49 lkp_X4_40_4 (B9.ob (by decide) (by decide) (by decide +kernel)) rfl rfl ?_
  have B10 := B9.z0 (a := 107) (j := 7) (v := nI 0) (by decide) (by decide) (by rw [if_neg (by decide)]; rfl)
  clear B9
  refine Sx.aload_n dX4_init_52 rfl ?_
  refine Sx.iconst (v := (nI 0)) dX4_init_53 (by decide) ?_
  refine Sx.putfI dX4_init_54 lkp_X4_43_4 (B10.ob (by decide) (by decide) (by decide +kernel)) rfl rfl ?_
  have B11 := B10.z0 (a := 107) (j := 8) (v := nI 0) (by decide) (by decide) (by rw [if_neg (by decide)]; rfl)
  clear B10
  refine Sx.vret dX4_init_57 rfl ?_
  exact h _ _ _ _ B11
set_option maxRecDepth 20000 in
set_option maxHeartbeats 1000000 in
theorem i_1 {G : Gt} {l : Launch} {Z : Zt} {R : Rt} {I : It} {L : Lt} {post : Pt'} {Ls : List (Nat × Nat × Nat)} {ι : Nat → Int32} {Z0 : Zt} {R0 : Rt} {I0 : It} {L0 : Lt} (B : Bd 100 100 115 Ls ι Z0 R0 I0 L0 Z R I L) (h3 : lkR Ls 114 3 = none) (h : ∀ Z' R' I' L', Bd 100 100 119 ((114, 0, 103) :: ((114, 2, 117) :: ((117, 0, 118) :: ((114, 1, 115) :: ((115, 0, 116) :: Ls))))) ι Z0 R0 I0 L0 Z' R' I' L' → post none Z' R' I' L') : Cx G l mX1_init 2 4 72 [.ref 114, .ref 103] Z R I L post := by
  refine Cx.of (by decide +kernel) (by exact Nat.le_of_ble_eq_true rfl) ?_
  refine Sx.aload_n dX1_init_0 rfl ?_
  refine Sx.objInit dX1_init_1 lko_X1_3 woI woC (by decide) (Nat.le_of_ble_eq_true rfl) ?_
  refine Sx.aload_n dX1_init_4 rfl ?_
  refine Bs.new B dX1_init_5 lkn_X1_9 (by decide +kernel) (Or.inl (by decide)) (bc' := 3) (bs' := 71) rfl rfl (fun Z1 R1 I1 L1 B1 => ?_)
  refine Sx.dup dX1_init_8 rfl ?_
  refine Sx.gets (k := 0) dX1_init_9 rfl (by decide) lks_X1_11 ?_
  refine Sx.alenS (v := nI 6) dX1_init_12 rfl (by decide) rfl ?_
  refine Sx.callI (As := [.int (nI 6)]) dX1_init_13 lki_X1_17 rfl (by decide) (by decide) (Nat.le_of_ble_eq_true rfl) (bc' := 2) (bs' := 65) rfl rfl (i_7_7 B1 (by decide) (by decide) (by decide +kernel) (by decide +kernel) (by decide) (Or.inl (by decide)) (fun Z2 R2 I2 L2 B2 => ?_))
  clear B1
  refine Sx.putfR (r := some 115) dX1_init_16 lkp_X1_20_1 (fun _ => rfl) (B2.ob (by decide) (by decide) (by decide +kernel)) rfl (fun _ => rfl) rfl (fun _ => rfl) ?_
  have B3 := B2.rf (a := 114) (j := 1) (t := 115) (by decide) (by decide)
  clear B2
  refine Sx.aload_n dX1_init_19 rfl ?_
  refine Bs.new B3 dX1_init_20 lkn_X1_9 (by decide +kernel) (Or.inl (by decide)) (bc' := 1) (bs' := 64) rfl rfl (fun Z4 R4 I4 L4 B4 => ?_)
  clear B3
  refine Sx.dup dX1_init_23 rfl ?_
  refine Sx.bipush (v := (nI 64)) dX1_init_24 (by decide) ?_
  refine Sx.callI (As := [.int (nI 64)]) dX1_init_26 lki_X1_17 rfl (by decide) (by decide) (Nat.le_of_ble_eq_true rfl) (bc' := 0) (bs' := 0) rfl rfl (i_7_7 B4 (by decide) (by decide) (by decide +kernel) (by decide +kernel) (by decide) (Or.inl (by decide)) (fun Z5 R5 I5 L5 B5 => ?_))
  clear B4
  refine Sx.putfR (r := some 117) dX1_init_29 lkp_X1_26_1 (fun _ => rfl) (B5.ob (by decide) (by decide) (by decide +kernel)) rfl (fun _ => rfl) rfl (fun _ => rfl) ?_
  have B6 := B5.rf (a := 114) (j := 2) (t := 117) (by decide) (by decide)
  clear B5
  refine Sx.aload_n dX1_init_32 rfl ?_
  refine Sx.aconst_null dX1_init_33 ?_
  refine Sx.putfR (r := none) dX1_init_34 lkp_X1_29_1 (fun _ => rfl) (B6.ob (by decide) (by decide) (by decide +kernel)) rfl (fun _ => rfl) rfl (fun _ => rfl) ?_
  have B7 := B6.rn (a := 114) (j := 3) (by decide) (by decide) (by simp [lkR, h3])
  clear B6
  refine Sx.aload_n dX1_init_37 rfl ?_
  refine Sx.lconst (v := 0) dX1_init_38 (by decide) ?_
  refine Sx.putfL dX1_init_39 lkp_X1_33_1 (B7.ob (by decide) (by decide) (by decide +kernel)) rfl rfl ?_
  have B8 := B7.l0 (a := 114) (j := 4) (v := 0) (by decide) (by decide) rfl
  clear B7
  refine Sx.aload_n dX1_init_42 rfl ?_
  refine Sx.aload_n dX1_init_43 rfl ?_
  refine Sx.putfR (r := some 103) dX1_init_44 lkp_X1_37_1 (fun _ => rfl) (B8.ob (by decide) (by decide) (by decide +kernel)) rfl (fun _ => rfl) rfl (fun _ => rfl) ?_
  have B9 := B8.rf (a := 114) (j := 0) (t := 103) (by decide) (by decide)
  clear B8
  refine Sx.vret dX1_init_47 rfl ?_
  exact h _ _ _ _ B9
set_option maxRecDepth 20000 in
set_option maxHeartbeats 1000000 in
theorem i_5 {G : Gt} {l : Launch} {Z : Zt} {R : Rt} {I : It} {L : Lt} {post : Pt'} {Ls : List (Nat × Nat × Nat)} {ι : Nat → Int32} {Z0 : Zt} {R0 : Rt} {I0 : It} {L0 : Lt} (B : Bd 100 100 120 Ls ι Z0 R0 I0 L0 Z R I L) (h : ∀ Z' R' I' L', Bd 100 100 136 ((119, 1, 114) :: ((119, 0, 103) :: ((119, 9, 134) :: ((134, 0, 135) :: ((119, 8, 132) :: ((132, 0, 133) :: ((119, 7, 130) :: ((130, 0, 131) :: ((119, 6, 128) :: ((128, 0, 129) :: ((119, 5, 126) :: ((126, 0, 127) :: ((119, 4, 124) :: ((124, 0, 125) :: ((119, 3, 122) :: ((122, 0, 123) :: ((119, 2, 120) :: ((120, 0, 121) :: Ls)))))))))))))))))) ι Z0 R0 I0 L0 Z' R' I' L' → post none Z' R' I' L') : Cx G l mX5_init 3 16 391 [.ref 119, .ref 103, .ref 114] Z R I L post := by
  refine Cx.of (by decide +kernel) (by exact Nat.le_of_ble_eq_true rfl) ?_
  refine Sx.aload_n dX5_init_0 rfl ?_
  refine Sx.objInit dX5_init_1 lko_X5_3 woI woC (by decide) (Nat.le_of_ble_eq_true rfl) ?_
  refine Sx.aload_n dX5_init_4 rfl ?_
  refine Bs.new B dX5_init_5 lkn_X5_9 (by decide +kernel) (Or.inl (by decide)) (bc' := 15) (bs' := 390) rfl rfl (fun Z1 R1 I1 L1 B1 => ?_)
  refine Sx.dup dX5_init_8 rfl ?_
  refine Sx.callI (As := []) dX5_init_9 lki_X5_11 rfl (by decide) (by decide) (Nat.le_of_ble_eq_true rfl) (bc' := 14) (bs' := 244) rfl rfl (i_8 B1 (by decide) (by decide) (by decide +kernel) (by decide +kernel) (Or.inl (by decide)) (fun Z2 R2 I2 L2 B2 => ?_))
  clear B1
  refine Sx.putfR (r := some 120) dX5_init_12 lkp_X5_12_5 (fun _ => rfl) (B2.ob (by decide) (by decide) (by decide +kernel)) rfl (fun _ => rfl) rfl (fun _ => rfl) ?_
  have B3 := B2.rf (a := 119) (j := 2) (t := 120) (by decide) (by decide)
  clear B2
  refine Sx.aload_n dX5_init_15 rfl ?_
  refine Bs.new B3 dX5_init_16 lkn_X5_18 (by decide +kernel) (Or.inl (by decide)) (bc' := 13) (bs' := 243) rfl rfl (fun Z4 R4 I4 L4 B4 => ?_)
  clear B3
  refine Sx.dup dX5_init_19 rfl ?_
  refine Sx.bipush (v := (nI 30)) dX5_init_20 (by decide) ?_
  refine Sx.callI (As := [.int (nI 30)]) dX5_init_22 lki_X5_20 rfl (by decide) (by decide) (Nat.le_of_ble_eq_true rfl) (bc' := 12) (bs' := 213) rfl rfl (i_7_7 B4 (by decide) (by decide) (by decide +kernel) (by decide +kernel) (by decide) (Or.inl (by decide)) (fun Z5 R5 I5 L5 B5 => ?_))
  clear B4
  refine Sx.putfR (r := some 122) dX5_init_25 lkp_X5_23_5 (fun _ => rfl) (B5.ob (by decide) (by decide) (by decide +kernel)) rfl (fun _ => rfl) rfl (fun _ => rfl) ?_
  have B6 := B5.rf (a := 119) (j := 3) (t := 122) (by decide) (by decide)
  clear B5
  refine Sx.aload_n dX5_init_28 rfl ?_
  refine Bs.new B6 dX5_init_29 lkn_X5_18 (by decide +kernel) (Or.inl (by decide)) (bc' := 11) (bs' := 212) rfl rfl (fun Z7 R7 I7 L7 B7 => ?_)
  clear B6
  refine Sx.dup dX5_init_32 rfl ?_
  refine Sx.bipush (v := (nI 30)) dX5_init_33 (by decide) ?_
  refine Sx.callI (As := [.int (nI 30)]) dX5_init_35 lki_X5_20 rfl (by decide) (by decide) (Nat.le_of_ble_eq_true rfl) (bc' := 10) (bs' := 182) rfl rfl (i_7_7 B7 (by decide) (by decide) (by decide +kernel) (by decide +kernel) (by decide) (Or.inl (by decide)) (fun Z8 R8 I8 L8 B8 => ?_))
  clear B7
  refine Sx.putfR (r := some 124) dX5_init_38 lkp_X5_27_5 (fun _ => rfl) (B8.ob (by decide) (by decide) (by decide +kernel)) rfl (fun _ => rfl) rfl (fun _ => rfl) ?_
  have B9 := B8.rf (a := 119) (j := 4) (t := 124) (by decide) (by decide)
  clear B8
  refine Sx.aload_n dX5_init_41 rfl ?_
  refine Bs.new B9 dX5_init_42 lkn_X5_18 (by decide +kernel) (Or.inl (by decide)) (bc' := 9) (bs' := 181) rfl rfl (fun Z10 R10 I10 L10 B10 => ?_)
  clear B9
  refine Sx.dup dX5_init_45 rfl ?_
  refine Sx.bipush (v := (nI 61)) dX5_init_46 (by decide) ?_
  refine Sx.callI (As := [.int (nI 61)]) dX5_init_48 lki_X5_20 rfl (by decide) (by decide) (Nat.le_of_ble_eq_true rfl) (bc' := 8) (bs' := 120) rfl rfl (i_7_7 B10 (by decide) (by decide) (by decide +kernel) (by decide +kernel) (by decide) (Or.inl (by decide)) (fun Z11 R11 I11 L11 B11 => ?_))
  clear B10
  refine Sx.putfR (r := some 126) dX5_init_51 lkp_X5_30_5 (fun _ => rfl) (B11.ob (by decide) (by decide) (by decide +kernel)) rfl (fun _ => rfl) rfl (fun _ => rfl) ?_
  have B12 := B11.rf (a := 119) (j := 5) (t := 126) (by decide) (by decide)
  clear B11
  refine Sx.aload_n dX5_init_54 rfl ?_
  refine Bs.new B12 dX5_init_55 lkn_X5_18 (by decide +kernel) (Or.inl (by decide)) (bc' := 7) (bs' := 119) rfl rfl (fun Z13 R13 I13 L13 B13 => ?_)
  clear B12
  refine Sx.dup dX5_init_58 rfl ?_
  refine Sx.bipush (v := (nI 61)) dX5_init_59 (by decide) ?_
  refine Sx.callI (As := [.int (nI 61)]) dX5_init_61 lki_X5_20 rfl (by decide) (by decide) (Nat.le_of_ble_eq_true rfl) (bc' := 6) (bs' := 58) rfl rfl (i_7_7 B13 (by decide) (by decide) (by decide +kernel) (by decide +kernel) (by decide) (Or.inl (by decide)) (fun Z14 R14 I14 L14 B14 => ?_))
  clear B13
  refine Sx.putfR (r := some 128) dX5_init_64 lkp_X5_33_5 (fun _ => rfl) (B14.ob (by decide) (by decide) (by decide +kernel)) rfl (fun _ => rfl) rfl (fun _ => rfl) ?_
  have B15 := B14.rf (a := 119) (j := 6) (t := 128) (by decide) (by decide)
  clear B14
  refine Sx.aload_n dX5_init_67 rfl ?_
  refine Bs.new B15 dX5_init_68 lkn_X5_18 (by decide +kernel) (Or.inl (by decide)) (bc' := 5) (bs' := 57) rfl rfl (fun Z16 R16 I16 L16 B16 => ?_)
  clear B15
  refine Sx.dup dX5_init_71 rfl ?_
  refine Sx.bipush (v := (nI 7)) dX5_init_72 (by decide) ?_
  refine Sx.callI (As := [.int (nI 7)]) dX5_init_74 lki_X5_20 rfl (by decide) (by decide) (Nat.le_of_ble_eq_true rfl) (bc' := 4) (bs' := 50) rfl rfl (i_7_7 B16 (by decide) (by decide) (by decide +kernel) (by decide +kernel) (by decide) (Or.inl (by decide)) (fun Z17 R17 I17 L17 B17 => ?_))
  clear B16
  refine Sx.putfR (r := some 130) dX5_init_77 lkp_X5_36_5 (fun _ => rfl) (B17.ob (by decide) (by decide) (by decide +kernel)) rfl (fun _ => rfl) rfl (fun _ => rfl) ?_
  have B18 := B17.rf (a := 119) (j := 7) (t := 130) (by decide) (by decide)
  clear B17
  refine Sx.aload_n dX5_init_80 rfl ?_
  refine Bs.new B18 dX5_init_81 lkn_X5_18 (by decide +kernel) (Or.inl (by decide)) (bc' := 3) (bs' := 49) rfl rfl (fun Z19 R19 I19 L19 B19 => ?_)
  clear B18
  refine Sx.dup dX5_init_84 rfl ?_
  refine Sx.bipush (v := (nI 12)) dX5_init_85 (by decide) ?_
  refine Sx.callI (As := [.int (nI 12)]) dX5_init_87 lki_X5_20 rfl (by decide) (by decide) (Nat.le_of_ble_eq_true rfl) (bc' := 2) (bs' := 37) rfl rfl (i_7_7 B19 (by decide) (by decide) (by decide +kernel) (by decide +kernel) (by decide) (Or.inl (by decide)) (fun Z20 R20 I20 L20 B20 => ?_))
  clear B19
  refine Sx.putfR (r := some 132) dX5_init_90 lkp_X5_39_5 (fun _ => rfl) (B20.ob (by decide) (by decide) (by decide +kernel)) rfl (fun _ => rfl) rfl (fun _ => rfl) ?_
  have B21 := B20.rf (a := 119) (j := 8) (t := 132) (by decide) (by decide)
  clear B20
  refine Sx.aload_n dX5_init_93 rfl ?_
  refine Bs.new B21 dX5_init_94 lkn_X5_18 (by decide +kernel) (Or.inl (by decide)) (bc' := 1) (bs' := 36) rfl rfl (fun Z22 R22 I22 L22 B22 => ?_)
  clear B21
  refine Sx.dup dX5_init_97 rfl ?_
  refine Sx.bipush (v := (nI 36)) dX5_init_98 (by decide) ?_
  refine Sx.callI (As := [.int (nI 36)]) dX5_init_100 lki_X5_20 rfl (by decide) (by decide) (Nat.le_of_ble_eq_true rfl) (bc' := 0) (bs' := 0) rfl rfl (i_7_7 B22 (by decide) (by decide) (by decide +kernel) (by decide +kernel) (by decide) (Or.inl (by decide)) (fun Z23 R23 I23 L23 B23 => ?_))
  clear B22
  refine Sx.putfR (r := some 134) dX5_init_103 lkp_X5_42_5 (fun _ => rfl) (B23.ob (by decide) (by decide) (by decide +kernel)) rfl (fun _ => rfl) rfl (fun _ => rfl) ?_
  have B24 := B23.rf (a := 119) (j := 9) (t := 134) (by decide) (by decide)
  clear B23
  refine Sx.aload_n dX5_init_106 rfl ?_
  refine Sx.aload_n dX5_init_107 rfl ?_
  refine Sx.putfR (r := some 103) dX5_init_108 lkp_X5_45_5 (fun _ => rfl) (B24.ob (by decide) (by decide) (by decide +kernel)) rfl (fun _ => rfl) rfl (fun _ => rfl) ?_
  have B25 := B24.rf (a := 119) (j := 0) (t := 103) (by decide) (by decide)
  clear B24
  refine Sx.aload_n dX5_init_111 rfl ?_
  refine Sx.aload_n dX5_init_112 rfl ?_
  refine Sx.putfR (r := some 114) dX5_init_113 lkp_X5_49_5 (fun _ => rfl) (B25.ob (by decide) (by decide) (by decide +kernel)) rfl (fun _ => rfl) rfl (fun _ => rfl) ?_
  have B26 := B25.rf (a := 119) (j := 1) (t := 114) (by decide) (by decide)
  clear B25
  refine Sx.vret dX5_init_116 rfl ?_
  exact h _ _ _ _ B26
set_option maxRecDepth 20000 in
set_option maxHeartbeats 1000000 in
theorem i_10 {G : Gt} {l : Launch} {Z : Zt} {R : Rt} {I : It} {L : Lt} {post : Pt'} {Ls : List (Nat × Nat × Nat)} {ι : Nat → Int32} {Z0 : Zt} {R0 : Rt} {I0 : It} {L0 : Lt} (B : Bd 100 100 137 Ls ι Z0 R0 I0 L0 Z R I L) (h : ∀ Z' R' I' L', Bd 100 100 147 ((136, 1, 114) :: ((136, 0, 103) :: ((136, 6, 145) :: ((145, 0, 146) :: ((136, 5, 143) :: ((143, 0, 144) :: ((136, 4, 141) :: ((141, 0, 142) :: ((136, 3, 139) :: ((139, 0, 140) :: ((136, 2, 137) :: ((137, 0, 138) :: Ls)))))))))))) ι Z0 R0 I0 L0 Z' R' I' L' → post none Z' R' I' L') : Cx G l mX10_init 3 10 547 [.ref 136, .ref 103, .ref 114] Z R I L post := by
  refine Cx.of (by decide +kernel) (by exact Nat.le_of_ble_eq_true rfl) ?_
  refine Sx.aload_n dX10_init_0 rfl ?_
  refine Sx.objInit dX10_init_1 lko_X10_3 woI woC (by decide) (Nat.le_of_ble_eq_true rfl) ?_
  refine Sx.aload_n dX10_init_4 rfl ?_
  refine Bs.new B dX10_init_5 lkn_X10_9 (by decide +kernel) (Or.inl (by decide)) (bc' := 9) (bs' := 546) rfl rfl (fun Z1 R1 I1 L1 B1 => ?_)
  refine Sx.dup dX10_init_8 rfl ?_
  refine Sx.callI (As := []) dX10_init_9 lki_X10_11 rfl (by decide) (by decide) (Nat.le_of_ble_eq_true rfl) (bc' := 8) (bs' := 400) rfl rfl (i_8 B1 (by decide) (by decide) (by decide +kernel) (by decide +kernel) (Or.inl (by decide)) (fun Z2 R2 I2 L2 B2 => ?_))
  clear B1
  refine Sx.putfR (r := some 137) dX10_init_12 lkp_X10_12_10 (fun _ => rfl) (B2.ob (by decide) (by decide) (by decide +kernel)) rfl (fun _ => rfl) rfl (fun _ => rfl) ?_
  have B3 := B2.rf (a := 136) (j := 2) (t := 137) (by decide) (by decide)
  clear B2
  refine Sx.aload_n dX10_init_15 rfl ?_
  refine Bs.new B3 dX10_init_16 lkn_X10_18 (by decide +kernel) (Or.inl (by decide)) (bc' := 7) (bs' := 399) rfl rfl (fun Z4 R4 I4 L4 B4 => ?_)
  clear B3
  refine Sx.dup dX10_init_19 rfl ?_
  refine Sx.bipush (v := (nI 10)) dX10_init_20 (by decide) ?_
  refine Sx.callI (As := [.int (nI 10)]) dX10_init_22 lki_X10_20 rfl (by decide) (by decide) (Nat.le_of_ble_eq_true rfl) (bc' := 6) (bs' := 389) rfl rfl (i_7_7 B4 (by decide) (by decide) (by decide +kernel) (by decide +kernel) (by decide) (Or.inl (by decide)) (fun Z5 R5 I5 L5 B5 => ?_))
  clear B4
  refine Sx.putfR (r := some 139) dX10_init_25 lkp_X10_23_10 (fun _ => rfl) (B5.ob (by decide) (by decide) (by decide +kernel)) rfl (fun _ => rfl) rfl (fun _ => rfl) ?_
  have B6 := B5.rf (a := 136) (j := 3) (t := 139) (by decide) (by decide)
  clear B5
  refine Sx.aload_n dX10_init_28 rfl ?_
  refine Bs.new B6 dX10_init_29 lkn_X10_18 (by decide +kernel) (Or.inl (by decide)) (bc' := 5) (bs' := 388) rfl rfl (fun Z7 R7 I7 L7 B7 => ?_)
  clear B6
  refine Sx.dup dX10_init_32 rfl ?_
  refine Sx.bipush (v := (nI 10)) dX10_init_33 (by decide) ?_
  refine Sx.callI (As := [.int (nI 10)]) dX10_init_35 lki_X10_20 rfl (by decide) (by decide) (Nat.le_of_ble_eq_true rfl) (bc' := 4) (bs' := 378) rfl rfl (i_7_7 B7 (by decide) (by decide) (by decide +kernel) (by decide +kernel) (by decide) (Or.inl (by decide)) (fun Z8 R8 I8 L8 B8 => ?_))
  clear B7
  refine Sx.putfR (r := some 141) dX10_init_38 lkp_X10_27_10 (fun _ => rfl) (B8.ob (by decide) (by decide) (by decide +kernel)) rfl (fun _ => rfl) rfl (fun _ => rfl) ?_
  have B9 := B8.rf (a := 136) (j := 4) (t := 141) (by decide) (by decide)
  clear B8
  refine Sx.aload_n dX10_init_41 rfl ?_
  refine Bs.new B9 dX10_init_42 lkn_X10_18 (by decide +kernel) (Or.inl (by decide)) (bc' := 3) (bs' := 377) rfl rfl (fun Z10 R10 I10 L10 B10 => ?_)
  clear B9
  refine Sx.dup dX10_init_45 rfl ?_
  refine Sx.bipush (v := (nI 10)) dX10_init_46 (by decide) ?_
  refine Sx.callI (As := [.int (nI 10)]) dX10_init_48 lki_X10_20 rfl (by decide) (by decide) (Nat.le_of_ble_eq_true rfl) (bc' := 2) (bs' := 367) rfl rfl (i_7_7 B10 (by decide) (by decide) (by decide +kernel) (by decide +kernel) (by decide) (Or.inl (by decide)) (fun Z11 R11 I11 L11 B11 => ?_))
  clear B10
  refine Sx.putfR (r := some 143) dX10_init_51 lkp_X10_30_10 (fun _ => rfl) (B11.ob (by decide) (by decide) (by decide +kernel)) rfl (fun _ => rfl) rfl (fun _ => rfl) ?_
  have B12 := B11.rf (a := 136) (j := 5) (t := 143) (by decide) (by decide)
  clear B11
  refine Sx.aload_n dX10_init_54 rfl ?_
  refine Bs.new B12 dX10_init_55 lkn_X10_18 (by decide +kernel) (Or.inl (by decide)) (bc' := 1) (bs' := 366) rfl rfl (fun Z13 R13 I13 L13 B13 => ?_)
  clear B12
  refine Sx.dup dX10_init_58 rfl ?_
  refine Sx.sipush (v := (nI 366)) dX10_init_59 (by decide) ?_
  refine Sx.callI (As := [.int (nI 366)]) dX10_init_62 lki_X10_20 rfl (by decide) (by decide) (Nat.le_of_ble_eq_true rfl) (bc' := 0) (bs' := 0) rfl rfl (i_7_7 B13 (by decide) (by decide) (by decide +kernel) (by decide +kernel) (by decide) (Or.inl (by decide)) (fun Z14 R14 I14 L14 B14 => ?_))
  clear B13
  refine Sx.putfR (r := some 145) dX10_init_65 lkp_X10_33_10 (fun _ => rfl) (B14.ob (by decide) (by decide) (by decide +kernel)) rfl (fun _ => rfl) rfl (fun _ => rfl) ?_
  have B15 := B14.rf (a := 136) (j := 6) (t := 145) (by decide) (by decide)
  clear B14
  refine Sx.aload_n dX10_init_68 rfl ?_
  refine Sx.iconst (v := (nI 0)) dX10_init_69 (by decide) ?_
  refine Sx.putfI dX10_init_70 lkp_X10_36_10 (B15.ob (by decide) (by decide) (by decide +kernel)) rfl rfl ?_
  have B16 := B15.z0 (a := 136) (j := 7) (v := nI 0) (by decide) (by decide) (by rw [if_neg (by decide)]; rfl)
  clear B15
  refine Sx.aload_n dX10_init_73 rfl ?_
  refine Sx.aload_n dX10_init_74 rfl ?_
  refine Sx.putfR (r := some 103) dX10_init_75 lkp_X10_40_10 (fun _ => rfl) (B16.ob (by decide) (by decide) (by decide +kernel)) rfl (fun _ => rfl) rfl (fun _ => rfl) ?_
  have B17 := B16.rf (a := 136) (j := 0) (t := 103) (by decide) (by decide)
  clear B16
  refine Sx.aload_n dX10_init_78 rfl ?_
  refine Sx.aload_n dX10_init_79 rfl ?_
  refine Sx.putfR (r := some 114) dX10_init_80 lkp_X10_44_10 (fun _ => rfl) (B17.ob (by decide) (by decide) (by decide +kernel)) rfl (fun _ => rfl) rfl (fun _ => rfl) ?_
  have B18 := B17.rf (a := 136) (j := 1) (t := 114) (by decide) (by decide)
  clear B17
  refine Sx.vret dX10_init_83 rfl ?_
  exact h _ _ _ _ B18
