/-! constructors: the reference; the first state -/
def ls12 : List (Nat × Nat × Nat) := ((253, 50, 278) :: ((253, 49, 277) :: ((253, 48, 276) :: ((253, 47, 275) :: ((253, 46, 274) :: ((253, 44, 273) :: ((253, 43, 272) :: ((253, 40, 271) :: ((253, 38, 270) :: ((253, 37, 269) :: ((253, 34, 268) :: ((253, 33, 267) :: ((253, 32, 266) :: ((253, 25, 265) :: ((253, 24, 264) :: ((253, 23, 263) :: ((253, 22, 262) :: ((253, 21, 261) :: ((253, 20, 260) :: ((253, 19, 259) :: ((253, 18, 258) :: ((253, 16, 21) :: ((253, 15, 20) :: ((253, 5, 254) :: ((253, 4, 257) :: ((253, 3, 256) :: ((253, 2, 255) :: ((253, 1, 254) :: []))))))))))))))))))))))))))))
abbrev io12 : Nat → Int32 := (upd (upd (fun _ => 0) 35 (-1)) 36 (nI 2))
set_option maxRecDepth 20000 in
set_option maxHeartbeats 1000000 in
theorem i_12 {G : Gt} {l : Launch} {Z : Zt} {R : Rt} {I : It} {L : Lt} {post : Pt'} {Z0 : Zt} {R0 : Rt} {I0 : It} {L0 : Lt} (B : Bd 253 253 254 [] (fun _ => 0) Z0 R0 I0 L0 Z R I L) (h : ∀ Z' R' I' L', Bd 253 253 279 ls12 io12 Z0 R0 I0 L0 Z' R' I' L' → post none Z' R' I' L') : Cx G l mX12_init 1 25 37076 [.ref 253] Z R I L post := by
  refine Cx.of (by decide +kernel) (by exact Nat.le_of_ble_eq_true rfl) ?_
  refine Sx.aload_n dX12_init_0 rfl ?_
  refine Sx.objInit dX12_init_1 lko_X12_3 woI woC (by decide) (Nat.le_of_ble_eq_true rfl) ?_
  refine Sx.aload_n dX12_init_4 rfl ?_
  refine Sx.sipush (v := (nI 240)) dX12_init_5 (by decide) ?_
  refine Bs.newarr B dX12_init_8 (t := 51) (N := 240) (by decide) (by decide) rfl wac_byte rfl (by decide) (by decide +kernel) (Or.inl (by decide)) (bc' := 24) (bs' := 36836) rfl rfl (fun Z1 R1 I1 L1 B1 => ?_)
  refine Sx.putfR (r := some 254) dX12_init_10 lkp_X12_9_12 (fun _ => rfl) (B1.ob (by decide) (by decide) (by decide +kernel)) rfl (fun _ => rfl) rfl (fun _ => rfl) ?_
  have B2 := B1.rf (a := 253) (j := 1) (t := 254) (by decide) (by decide)
  clear B1
  refine Sx.aload_n dX12_init_13 rfl ?_
  refine Sx.sipush (v := (nI 960)) dX12_init_14 (by decide) ?_
  refine Bs.newarr B2 dX12_init_17 (t := 51) (N := 960) (by decide) (by decide) rfl wac_byte rfl (by decide) (by decide +kernel) (Or.inl (by decide)) (bc' := 23) (bs' := 35876) rfl rfl (fun Z3 R3 I3 L3 B3 => ?_)
  clear B2
  refine Sx.putfR (r := some 255) dX12_init_19 lkp_X12_13_12 (fun _ => rfl) (B3.ob (by decide) (by decide) (by decide +kernel)) rfl (fun _ => rfl) rfl (fun _ => rfl) ?_
  have B4 := B3.rf (a := 253) (j := 2) (t := 255) (by decide) (by decide)
  clear B3
  refine Sx.aload_n dX12_init_22 rfl ?_
  refine Sx.iconst (v := (nI 4)) dX12_init_23 (by decide) ?_
  refine Bs.newarr B4 dX12_init_24 (t := 50) (N := 4) (by decide) (by decide) rfl wac_int rfl (by decide) (by decide +kernel) (Or.inl (by decide)) (bc' := 22) (bs' := 35872) rfl rfl (fun Z5 R5 I5 L5 B5 => ?_)
  clear B4
  refine Sx.putfR (r := some 256) dX12_init_26 lkp_X12_16_12 (fun _ => rfl) (B5.ob (by decide) (by decide) (by decide +kernel)) rfl (fun _ => rfl) rfl (fun _ => rfl) ?_
  have B6 := B5.rf (a := 253) (j := 3) (t := 256) (by decide) (by decide)
  clear B5
  refine Sx.aload_n dX12_init_29 rfl ?_
  refine Sx.sipush (v := (nI 128)) dX12_init_30 (by decide) ?_
  refine Bs.newarr B6 dX12_init_33 (t := 50) (N := 128) (by decide) (by decide) rfl wac_int rfl (by decide) (by decide +kernel) (Or.inl (by decide)) (bc' := 21) (bs' := 35744) rfl rfl (fun Z7 R7 I7 L7 B7 => ?_)
  clear B6
  refine Sx.putfR (r := some 257) dX12_init_35 lkp_X12_20_12 (fun _ => rfl) (B7.ob (by decide) (by decide) (by decide +kernel)) rfl (fun _ => rfl) rfl (fun _ => rfl) ?_
  have B8 := B7.rf (a := 253) (j := 4) (t := 257) (by decide) (by decide)
  clear B7
  refine Sx.aload_n dX12_init_38 rfl ?_
  refine Sx.aload_n dX12_init_39 rfl ?_
  refine Sx.getfR dX12_init_40 lkf_X12_9_12 (B8.ob (by decide) (by decide) (by decide +kernel)) (B8.g (by decide) (by decide) (by rfl)) ?_
  refine Sx.putfR (r := some 254) dX12_init_43 lkp_X12_23_12 (fun _ => rfl) (B8.ob (by decide) (by decide) (by decide +kernel)) rfl (fun _ => rfl) rfl (fun _ => rfl) ?_
  have B9 := B8.rf (a := 253) (j := 5) (t := 254) (by decide) (by decide)
  clear B8
  refine Sx.aload_n dX12_init_46 rfl ?_
  refine Sx.ldcS (k := 0) dX12_init_47 rfl (by decide) rfl ?_
  refine Sx.putfR (r := some 20) dX12_init_49 lkp_X12_28_12 (fun _ => rfl) (B9.ob (by decide) (by decide) (by decide +kernel)) rfl (fun _ => rfl) rfl (fun _ => rfl) ?_
  have B10 := B9.rf (a := 253) (j := 15) (t := 20) (by decide) (by decide)
  clear B9
  refine Sx.aload_n dX12_init_52 rfl ?_
  refine Sx.ldcS (k := 1) dX12_init_53 rfl (by decide) rfl ?_
  refine Sx.putfR (r := some 21) dX12_init_55 lkp_X12_34_12 (fun _ => rfl) (B10.ob (by decide) (by decide) (by decide +kernel)) rfl (fun _ => rfl) rfl (fun _ => rfl) ?_
  have B11 := B10.rf (a := 253) (j := 16) (t := 21) (by decide) (by decide)
  clear B10
  refine Sx.aload_n dX12_init_58 rfl ?_
  refine Sx.iconst (v := (nI 3)) dX12_init_59 (by decide) ?_
  refine Bs.newarr B11 dX12_init_60 (t := 50) (N := 3) (by decide) (by decide) rfl wac_int rfl (by decide) (by decide +kernel) (Or.inl (by decide)) (bc' := 20) (bs' := 35741) rfl rfl (fun Z12 R12 I12 L12 B12 => ?_)
  clear B11
  refine Sx.putfR (r := some 258) dX12_init_62 lkp_X12_37_12 (fun _ => rfl) (B12.ob (by decide) (by decide) (by decide +kernel)) rfl (fun _ => rfl) rfl (fun _ => rfl) ?_
  have B13 := B12.rf (a := 253) (j := 18) (t := 258) (by decide) (by decide)
  clear B12
  refine Sx.aload_n dX12_init_65 rfl ?_
  refine Sx.iconst (v := (nI 3)) dX12_init_66 (by decide) ?_
  refine Bs.newarr B13 dX12_init_67 (t := 50) (N := 3) (by decide) (by decide) rfl wac_int rfl (by decide) (by decide +kernel) (Or.inl (by decide)) (bc' := 19) (bs' := 35738) rfl rfl (fun Z14 R14 I14 L14 B14 => ?_)
  clear B13
  refine Sx.putfR (r := some 259) dX12_init_69 lkp_X12_40_12 (fun _ => rfl) (B14.ob (by decide) (by decide) (by decide +kernel)) rfl (fun _ => rfl) rfl (fun _ => rfl) ?_
  have B15 := B14.rf (a := 253) (j := 19) (t := 259) (by decide) (by decide)
  clear B14
  refine Sx.aload_n dX12_init_72 rfl ?_
  refine Sx.bipush (v := (nI 12)) dX12_init_73 (by decide) ?_
  refine Bs.newarr B15 dX12_init_75 (t := 50) (N := 12) (by decide) (by decide) rfl wac_int rfl (by decide) (by decide +kernel) (Or.inl (by decide)) (bc' := 18) (bs' := 35726) rfl rfl (fun Z16 R16 I16 L16 B16 => ?_)
  clear B15
  refine Sx.putfR (r := some 260) dX12_init_77 lkp_X12_43_12 (fun _ => rfl) (B16.ob (by decide) (by decide) (by decide +kernel)) rfl (fun _ => rfl) rfl (fun _ => rfl) ?_
  have B17 := B16.rf (a := 253) (j := 20) (t := 260) (by decide) (by decide)
  clear B16
  refine Sx.aload_n dX12_init_80 rfl ?_
  refine Sx.bipush (v := (nI 12)) dX12_init_81 (by decide) ?_
  refine Bs.newarr B17 dX12_init_83 (t := 50) (N := 12) (by decide) (by decide) rfl wac_int rfl (by decide) (by decide +kernel) (Or.inl (by decide)) (bc' := 17) (bs' := 35714) rfl rfl (fun Z18 R18 I18 L18 B18 => ?_)
  clear B17
  refine Sx.putfR (r := some 261) dX12_init_85 lkp_X12_46_12 (fun _ => rfl) (B18.ob (by decide) (by decide) (by decide +kernel)) rfl (fun _ => rfl) rfl (fun _ => rfl) ?_
  have B19 := B18.rf (a := 253) (j := 21) (t := 261) (by decide) (by decide)
  clear B18
  refine Sx.aload_n dX12_init_88 rfl ?_
  refine Sx.bipush (v := (nI 18)) dX12_init_89 (by decide) ?_
  refine Bs.newarr B19 dX12_init_91 (t := 50) (N := 18) (by decide) (by decide) rfl wac_int rfl (by decide) (by decide +kernel) (Or.inl (by decide)) (bc' := 16) (bs' := 35696) rfl rfl (fun Z20 R20 I20 L20 B20 => ?_)
  clear B19
  refine Sx.putfR (r := some 262) dX12_init_93 lkp_X12_49_12 (fun _ => rfl) (B20.ob (by decide) (by decide) (by decide +kernel)) rfl (fun _ => rfl) rfl (fun _ => rfl) ?_
  have B21 := B20.rf (a := 253) (j := 22) (t := 262) (by decide) (by decide)
  clear B20
  refine Sx.aload_n dX12_init_96 rfl ?_
  refine Sx.bipush (v := (nI 18)) dX12_init_97 (by decide) ?_
  refine Bs.newarr B21 dX12_init_99 (t := 50) (N := 18) (by decide) (by decide) rfl wac_int rfl (by decide) (by decide +kernel) (Or.inl (by decide)) (bc' := 15) (bs' := 35678) rfl rfl (fun Z22 R22 I22 L22 B22 => ?_)
  clear B21
  refine Sx.putfR (r := some 263) dX12_init_101 lkp_X12_52_12 (fun _ => rfl) (B22.ob (by decide) (by decide) (by decide +kernel)) rfl (fun _ => rfl) rfl (fun _ => rfl) ?_
  have B23 := B22.rf (a := 253) (j := 23) (t := 263) (by decide) (by decide)
  clear B22
  refine Sx.aload_n dX12_init_104 rfl ?_
  refine Sx.sipush (v := (nI 300)) dX12_init_105 (by decide) ?_
  refine Bs.newarr B23 dX12_init_108 (t := 50) (N := 300) (by decide) (by decide) rfl wac_int rfl (by decide) (by decide +kernel) (Or.inl (by decide)) (bc' := 14) (bs' := 35378) rfl rfl (fun Z24 R24 I24 L24 B24 => ?_)
  clear B23
  refine Sx.putfR (r := some 264) dX12_init_110 lkp_X12_55_12 (fun _ => rfl) (B24.ob (by decide) (by decide) (by decide +kernel)) rfl (fun _ => rfl) rfl (fun _ => rfl) ?_
  have B25 := B24.rf (a := 253) (j := 24) (t := 264) (by decide) (by decide)
  clear B24
  refine Sx.aload_n dX12_init_113 rfl ?_
  refine Sx.iconst (v := (nI 5)) dX12_init_114 (by decide) ?_
  refine Bs.newarr B25 dX12_init_115 (t := 50) (N := 5) (by decide) (by decide) rfl wac_int rfl (by decide) (by decide +kernel) (Or.inl (by decide)) (bc' := 13) (bs' := 35373) rfl rfl (fun Z26 R26 I26 L26 B26 => ?_)
  clear B25
  refine Sx.putfR (r := some 265) dX12_init_117 lkp_X12_58_12 (fun _ => rfl) (B26.ob (by decide) (by decide) (by decide +kernel)) rfl (fun _ => rfl) rfl (fun _ => rfl) ?_
  have B27 := B26.rf (a := 253) (j := 25) (t := 265) (by decide) (by decide)
  clear B26
  refine Sx.aload_n dX12_init_120 rfl ?_
  refine Sx.sipush (v := (nI 417)) dX12_init_121 (by decide) ?_
  refine Bs.newarr B27 dX12_init_124 (t := 50) (N := 417) (by decide) (by decide) rfl wac_int rfl (by decide) (by decide +kernel) (Or.inl (by decide)) (bc' := 12) (bs' := 34956) rfl rfl (fun Z28 R28 I28 L28 B28 => ?_)
  clear B27
  refine Sx.putfR (r := some 266) dX12_init_126 lkp_X12_61_12 (fun _ => rfl) (B28.ob (by decide) (by decide) (by decide +kernel)) rfl (fun _ => rfl) rfl (fun _ => rfl) ?_
  have B29 := B28.rf (a := 253) (j := 32) (t := 266) (by decide) (by decide)
  clear B28
  refine Sx.aload_n dX12_init_129 rfl ?_
  refine Sx.sipush (v := (nI 236)) dX12_init_130 (by decide) ?_
  refine Bs.newarr B29 dX12_init_133 (t := 50) (N := 236) (by decide) (by decide) rfl wac_int rfl (by decide) (by decide +kernel) (Or.inl (by decide)) (bc' := 11) (bs' := 34720) rfl rfl (fun Z30 R30 I30 L30 B30 => ?_)
  clear B29
  refine Sx.putfR (r := some 267) dX12_init_135 lkp_X12_64_12 (fun _ => rfl) (B30.ob (by decide) (by decide) (by decide +kernel)) rfl (fun _ => rfl) rfl (fun _ => rfl) ?_
  have B31 := B30.rf (a := 253) (j := 33) (t := 267) (by decide) (by decide)
  clear B30
  refine Sx.aload_n dX12_init_138 rfl ?_
  refine Sx.iconst (v := (nI 5)) dX12_init_139 (by decide) ?_
  refine Bs.newarr B31 dX12_init_140 (t := 50) (N := 5) (by decide) (by decide) rfl wac_int rfl (by decide) (by decide +kernel) (Or.inl (by decide)) (bc' := 10) (bs' := 34715) rfl rfl (fun Z32 R32 I32 L32 B32 => ?_)
  clear B31
  refine Sx.putfR (r := some 268) dX12_init_142 lkp_X12_67_12 (fun _ => rfl) (B32.ob (by decide) (by decide) (by decide +kernel)) rfl (fun _ => rfl) rfl (fun _ => rfl) ?_
  have B33 := B32.rf (a := 253) (j := 34) (t := 268) (by decide) (by decide)
  clear B32
  refine Sx.aload_n dX12_init_145 rfl ?_
  refine Sx.iconst (v := (-1)) dX12_init_146 (by decide) ?_
  refine Sx.putfI dX12_init_147 lkp_X12_70_12 (B33.ob (by decide) (by decide) (by decide +kernel)) rfl rfl ?_
  have B34 := B33.zx (j := 35) (v := -1) (by decide) (by decide)
  clear B33
  refine Sx.aload_n dX12_init_150 rfl ?_
  refine Sx.iconst (v := (nI 2)) dX12_init_151 (by decide) ?_
  refine Sx.putfI dX12_init_152 lkp_X12_74_12 (B34.ob (by decide) (by decide) (by decide +kernel)) rfl rfl ?_
  have B35 := B34.zx (j := 36) (v := nI 2) (by decide) (by decide)
  clear B34
  refine Sx.aload_n dX12_init_155 rfl ?_
  refine Sx.sipush (v := (nI 8191)) dX12_init_156 (by decide) ?_
  refine Bs.newarr B35 dX12_init_159 (t := 54) (N := 8191) (by decide) (by decide) rfl wac_long rfl (by decide) (by decide +kernel) (Or.inl (by decide)) (bc' := 9) (bs' := 26524) rfl rfl (fun Z36 R36 I36 L36 B36 => ?_)
  clear B35
  refine Sx.putfR (r := some 269) dX12_init_161 lkp_X12_77_12 (fun _ => rfl) (B36.ob (by decide) (by decide) (by decide +kernel)) rfl (fun _ => rfl) rfl (fun _ => rfl) ?_
  have B37 := B36.rf (a := 253) (j := 37) (t := 269) (by decide) (by decide)
  clear B36
  refine Sx.aload_n dX12_init_164 rfl ?_
  refine Sx.sipush (v := (nI 8191)) dX12_init_165 (by decide) ?_
  refine Bs.newarr B37 dX12_init_168 (t := 50) (N := 8191) (by decide) (by decide) rfl wac_int rfl (by decide) (by decide +kernel) (Or.inl (by decide)) (bc' := 8) (bs' := 18333) rfl rfl (fun Z38 R38 I38 L38 B38 => ?_)
  clear B37
  refine Sx.putfR (r := some 270) dX12_init_170 lkp_X12_81_12 (fun _ => rfl) (B38.ob (by decide) (by decide) (by decide +kernel)) rfl (fun _ => rfl) rfl (fun _ => rfl) ?_
  have B39 := B38.rf (a := 253) (j := 38) (t := 270) (by decide) (by decide)
  clear B38
  refine Sx.aload_n dX12_init_173 rfl ?_
  refine Sx.sipush (v := (nI 16680)) dX12_init_174 (by decide) ?_
  refine Bs.newarr B39 dX12_init_177 (t := 50) (N := 16680) (by decide) (by decide) rfl wac_int rfl (by decide) (by decide +kernel) (Or.inl (by decide)) (bc' := 7) (bs' := 1653) rfl rfl (fun Z40 R40 I40 L40 B40 => ?_)
  clear B39
  refine Sx.putfR (r := some 271) dX12_init_179 lkp_X12_84_12 (fun _ => rfl) (B40.ob (by decide) (by decide) (by decide +kernel)) rfl (fun _ => rfl) rfl (fun _ => rfl) ?_
  have B41 := B40.rf (a := 253) (j := 40) (t := 271) (by decide) (by decide)
  clear B40
  refine Sx.aload_n dX12_init_182 rfl ?_
  refine Sx.sipush (v := (nI 732)) dX12_init_183 (by decide) ?_
  refine Bs.newarr B41 dX12_init_186 (t := 50) (N := 732) (by decide) (by decide) rfl wac_int rfl (by decide) (by decide +kernel) (Or.inl (by decide)) (bc' := 6) (bs' := 921) rfl rfl (fun Z42 R42 I42 L42 B42 => ?_)
  clear B41
  refine Sx.putfR (r := some 272) dX12_init_188 lkp_X12_87_12 (fun _ => rfl) (B42.ob (by decide) (by decide) (by decide +kernel)) rfl (fun _ => rfl) rfl (fun _ => rfl) ?_
  have B43 := B42.rf (a := 253) (j := 43) (t := 272) (by decide) (by decide)
  clear B42
  refine Sx.aload_n dX12_init_191 rfl ?_
  refine Sx.bipush (v := (nI 30)) dX12_init_192 (by decide) ?_
  refine Bs.newarr B43 dX12_init_194 (t := 50) (N := 30) (by decide) (by decide) rfl wac_int rfl (by decide) (by decide +kernel) (Or.inl (by decide)) (bc' := 5) (bs' := 891) rfl rfl (fun Z44 R44 I44 L44 B44 => ?_)
  clear B43
  refine Sx.putfR (r := some 273) dX12_init_196 lkp_X12_90_12 (fun _ => rfl) (B44.ob (by decide) (by decide) (by decide +kernel)) rfl (fun _ => rfl) rfl (fun _ => rfl) ?_
  have B45 := B44.rf (a := 253) (j := 44) (t := 273) (by decide) (by decide)
  clear B44
  refine Sx.aload_n dX12_init_199 rfl ?_
  refine Sx.sipush (v := (nI 366)) dX12_init_200 (by decide) ?_
  refine Bs.newarr B45 dX12_init_203 (t := 50) (N := 366) (by decide) (by decide) rfl wac_int rfl (by decide) (by decide +kernel) (Or.inl (by decide)) (bc' := 4) (bs' := 525) rfl rfl (fun Z46 R46 I46 L46 B46 => ?_)
  clear B45
  refine Sx.putfR (r := some 274) dX12_init_205 lkp_X12_93_12 (fun _ => rfl) (B46.ob (by decide) (by decide) (by decide +kernel)) rfl (fun _ => rfl) rfl (fun _ => rfl) ?_
  have B47 := B46.rf (a := 253) (j := 46) (t := 274) (by decide) (by decide)
  clear B46
  refine Sx.aload_n dX12_init_208 rfl ?_
  refine Sx.bipush (v := (nI 6)) dX12_init_209 (by decide) ?_
  refine Bs.newarr B47 dX12_init_211 (t := 52) (N := 6) (by decide) (by decide) rfl wac_boolean rfl (by decide) (by decide +kernel) (Or.inl (by decide)) (bc' := 3) (bs' := 519) rfl rfl (fun Z48 R48 I48 L48 B48 => ?_)
  clear B47
  refine Sx.putfR (r := some 275) dX12_init_213 lkp_X12_96_12 (fun _ => rfl) (B48.ob (by decide) (by decide) (by decide +kernel)) rfl (fun _ => rfl) rfl (fun _ => rfl) ?_
  have B49 := B48.rf (a := 253) (j := 47) (t := 275) (by decide) (by decide)
  clear B48
  refine Sx.aload_n dX12_init_216 rfl ?_
  refine Sx.bipush (v := (nI 72)) dX12_init_217 (by decide) ?_
  refine Bs.newarr B49 dX12_init_219 (t := 50) (N := 72) (by decide) (by decide) rfl wac_int rfl (by decide) (by decide +kernel) (Or.inl (by decide)) (bc' := 2) (bs' := 447) rfl rfl (fun Z50 R50 I50 L50 B50 => ?_)
  clear B49
  refine Sx.putfR (r := some 276) dX12_init_221 lkp_X12_100_12 (fun _ => rfl) (B50.ob (by decide) (by decide) (by decide +kernel)) rfl (fun _ => rfl) rfl (fun _ => rfl) ?_
  have B51 := B50.rf (a := 253) (j := 48) (t := 276) (by decide) (by decide)
  clear B50
  refine Sx.aload_n dX12_init_224 rfl ?_
  refine Sx.bipush (v := (nI 30)) dX12_init_225 (by decide) ?_
  refine Bs.newarr B51 dX12_init_227 (t := 50) (N := 30) (by decide) (by decide) rfl wac_int rfl (by decide) (by decide +kernel) (Or.inl (by decide)) (bc' := 1) (bs' := 417) rfl rfl (fun Z52 R52 I52 L52 B52 => ?_)
  clear B51
  refine Sx.putfR (r := some 277) dX12_init_229 lkp_X12_103_12 (fun _ => rfl) (B52.ob (by decide) (by decide) (by decide +kernel)) rfl (fun _ => rfl) rfl (fun _ => rfl) ?_
  have B53 := B52.rf (a := 253) (j := 49) (t := 277) (by decide) (by decide)
  clear B52
  refine Sx.aload_n dX12_init_232 rfl ?_
  refine Sx.sipush (v := (nI 417)) dX12_init_233 (by decide) ?_
  refine Bs.newarr B53 dX12_init_236 (t := 50) (N := 417) (by decide) (by decide) rfl wac_int rfl (by decide) (by decide +kernel) (Or.inl (by decide)) (bc' := 0) (bs' := 0) rfl rfl (fun Z54 R54 I54 L54 B54 => ?_)
  clear B53
  refine Sx.putfR (r := some 278) dX12_init_238 lkp_X12_106_12 (fun _ => rfl) (B54.ob (by decide) (by decide) (by decide +kernel)) rfl (fun _ => rfl) rfl (fun _ => rfl) ?_
  have B55 := B54.rf (a := 253) (j := 50) (t := 278) (by decide) (by decide)
  clear B54
  refine Sx.vret dX12_init_241 rfl ?_
  exact h _ _ _ _ B55
/-- the state before the first call -/
def V0 : Vt := fun a z => if a = 0 ∧ z = 6 then 2 else if a = 3 ∧ z = 143 then 1 else 0
theorem ref_ok : ∀ t, t ∈ RFl → (100 ≤ t.1 ∧ t.1 < 253 ∧ lkR ls11 t.1 t.2.1 = some t.2.2) ∨ (253 ≤ t.1 ∧ t.1 < 280 ∧ lkR ls12 t.1 t.2.1 = some t.2.2) := by decide +kernel
theorem sh_ok : ∀ i, i < 180 → SHl[i]? = some (shF (100 + i)) := by decide +kernel
theorem sh_len : SHl.length = 180 := by decide +kernel
section FIRST
variable {Z0 Z1 Z : Zt} {R0 R1 R : Rt} {I0 I1 I : It} {L0 L1 L : Lt}
theorem first_WF (A : Bd 100 100 253 ls11 io11 Z0 R0 I0 L0 Z1 R1 I1 L1) (B : Bd 253 253 280 ls12 io12 Z1 R1 I1 L1 Z R I L) : WF Z R := by
  refine ⟨by rw [B.1]; decide, fun i q hq => ?_, fun i q hq => ?_⟩
  · have hi : i < 180 := by rw [← sh_len]; exact (List.getElem?_eq_some_iff.mp hq).1
    rw [sh_ok i hi] at hq
    rw [← Option.some.inj hq]
    by_cases c : 100 + i < 253
    · rw [(B.2.2.2.2.1 (100 + i) c).1]
      exact (A.2.2.2.1 (100 + i) (by omega) c).1
    · exact (B.2.2.2.1 (100 + i) (by omega) (by omega)).1
  · rcases ref_ok q (List.mem_of_getElem? hq) with ⟨h1, h2, h3⟩ | ⟨h1, h2, h3⟩
    · rw [(B.2.2.2.2.1 q.1 h2).2.1]
      exact A.g h1 h2 h3
    · exact B.g h1 h2 h3
theorem first_i (A : Bd 100 100 253 ls11 io11 Z0 R0 I0 L0 Z1 R1 I1 L1) (B : Bd 253 253 280 ls12 io12 Z1 R1 I1 L1 Z R I L) : (∀ k, 100 < k → k < 280 → k ≠ 253 → ∀ j, I k j = 0) ∧ (∀ j, I 100 j = io11 j) ∧ (∀ j, I 253 j = io12 j) ∧ (∀ k, 100 ≤ k → k < 280 → ∀ j, L k j = 0) ∧ R 114 3 = none := by
  refine ⟨fun k h1 h2 h3 j => ?_, fun j => ?_, fun j => ?_, fun k h1 h2 j => ?_, ?_⟩
  · by_cases c : k < 253
    · rw [(B.2.2.2.2.1 k c).2.2.1, (A.2.2.2.1 k (by omega) c).2.2.1 j, if_neg (by omega)]
    · rw [(B.2.2.2.1 k (by omega) h2).2.2.1 j, if_neg h3]
  · rw [(B.2.2.2.2.1 100 (by decide)).2.2.1, (A.2.2.2.1 100 (by decide) (by decide)).2.2.1 j, if_pos rfl]
  · rw [(B.2.2.2.1 253 (by decide) (by decide)).2.2.1 j, if_pos rfl]
  · by_cases c : k < 253
    · rw [(B.2.2.2.2.1 k c).2.2.2, (A.2.2.2.1 k h1 c).2.2.2 j]
    · rw [(B.2.2.2.1 k (by omega) h2).2.2.2 j]
  · rw [(B.2.2.2.2.1 114 (by decide)).2.1, (A.2.2.2.1 114 (by decide) (by decide)).2.1 3]
    decide +kernel
theorem first_CI (A : Bd 100 100 253 ls11 io11 Z0 R0 I0 L0 Z1 R1 I1 L1) (B : Bd 253 253 280 ls12 io12 Z1 R1 I1 L1 Z R I L) : CI V0 R I L := by
  obtain ⟨h1, h2, -, -, h5⟩ := first_i A B
  have z : ∀ k j, k = 101 ∨ k = 104 ∨ k = 113 ∨ k = 136 ∨ k = 147 ∨ k = 230 → I k j = 0 := fun k j hk => h1 k (by omega) (by omega) (by omega) j
  have n0 : ∀ j, ¬ j < V0 0 0 ∧ ¬ j < V0 0 1 ∧ ¬ j < V0 0 3 ∧ ¬ j < V0 0 4 ∧ ¬ j < V0 0 7 := fun j => ⟨Nat.not_lt_zero j, Nat.not_lt_zero j, Nat.not_lt_zero j, Nat.not_lt_zero j, Nat.not_lt_zero j⟩
  refine ⟨⟨z 101 1 (by decide), fun j hj => absurd hj (n0 j).1⟩, fun k hk => z 104 k (by decide), ?_, ⟨?_, ?_, ?_, ?_, ?_⟩, fun i hi => absurd hi (n0 i).2.1, h5, fun i hi => absurd hi (n0 i).2.2.1, fun k hk => z 113 k (by decide), fun q => (by cases q), ⟨0, by decide, z 147 2 (by decide), z 147 1 (by decide), fun i hi => absurd hi (n0 i).2.2.2.1⟩, ⟨z 136 7 (by decide), fun i hi => absurd hi (n0 i).2.2.2.2⟩⟩
  · intro k hk
    rw [z 230 k (by decide)]
    by_cases c : k = 143
    · subst c; decide
    · show (0 : Int32) = sv k (if (3 : Nat) = 0 ∧ k = 6 then 2 else if (3 : Nat) = 3 ∧ k = 143 then 1 else 0)
      unfold sv
      rw [if_neg c, if_neg (by omega), if_neg (by omega)]
      rfl
  · rw [h2]; decide
  · rw [h2]; decide
  · rw [h2]; decide
  · rw [h2]; decide
  · rw [h2]; decide
theorem first_MI (A : Bd 100 100 253 ls11 io11 Z0 R0 I0 L0 Z1 R1 I1 L1) (B : Bd 253 253 280 ls12 io12 Z1 R1 I1 L1 Z R I L) : MI V0 I L := by
  obtain ⟨h1, h2, h3, h4, h5⟩ := first_i A B
  have z : ∀ k j, 254 ≤ k → k < 280 → I k j = 0 := fun k j hk hk2 => h1 k (by omega) hk2 (by omega) j
  have n0 : ∀ j, ¬ j < V0 0 0 ∧ ¬ j < V0 0 1 ∧ ¬ j < V0 0 3 ∧ ¬ j < V0 0 4 ∧ ¬ j < V0 0 7 := fun j => ⟨Nat.not_lt_zero j, Nat.not_lt_zero j, Nat.not_lt_zero j, Nat.not_lt_zero j, Nat.not_lt_zero j⟩
  have y : ∀ j, (0 : Int32) = nI (V0 3 j) ∨ j = 143 := fun j => by
    by_cases c : j = 143
    · exact Or.inr c
    · refine Or.inl ?_
      show (0 : Int32) = nI (if (3 : Nat) = 0 ∧ j = 6 then 2 else if (3 : Nat) = 3 ∧ j = 143 then 1 else 0)
      rw [if_neg (by omega), if_neg (by omega)]; rfl
  have w : ∀ k j, j ≠ 143 → 254 ≤ k → k < 280 → ∀ i, I k i = nI (V0 3 j) := fun k j hj h1 h2 i => by rw [z k i h1 h2]; exact (y j).resolve_right hj
  refine ⟨⟨⟨?_, ?_, ?_, ?_, ?_, ?_, ?_, ?_, ?_, ?_⟩, fun j hj => absurd hj (n0 j).1, fun i hi => absurd hi (n0 i).2.1, ⟨fun k hk => z 258 k (by decide) (by decide), fun k v hk _ => absurd hk (Nat.not_lt_zero k), fun p v hp _ => absurd hp (Nat.not_lt_zero p)⟩, fun i hi => absurd hi (n0 i).2.2.1, fun k hk => z 268 k (by decide) (by decide), fun i hi => absurd hi (n0 i).2.2.2.1, fun i hi => absurd hi (n0 i).2.2.2.2, fun q => (by cases q), fun s hs => ⟨fun _ => z 257 s (by decide) (by decide), 0, by decide, z 257 s (by decide) (by decide)⟩, fun s hs => Or.inl (h4 269 (by decide) (by decide) s)⟩, ?_, ?_⟩
  · rw [h3]; decide
  · rw [h3]; decide
  · rw [h3]; decide
  · rw [h3]; decide
  · rw [h3]; decide
  · rw [h3]; decide
  · rw [h3]; decide
  · rw [h3]; decide
  · rw [h3]; decide
  · rw [h3]; decide
  · refine ⟨fun p hp => w 266 p (by omega) (by decide) (by decide) p, w 266 138 (by decide) (by decide) (by decide) 18, w 266 139 (by decide) (by decide) (by decide) 19, w 266 140 (by decide) (by decide) (by decide) 20, w 266 141 (by decide) (by decide) (by decide) 21, w 266 142 (by decide) (by decide) (by decide) 22, ?_, w 266 144 (by decide) (by decide) (by decide) 24, w 266 145 (by decide) (by decide) (by decide) 25, fun d hd => w 266 (18 + d) (by omega) (by decide) (by decide) _, fun d k hd hk => ?_⟩
    · rw [z 266 23 (by decide) (by decide)]; decide
    · rw [z 266 _ (by decide) (by decide)]
      have : V0 3 (48 + d) = 0 := by
        show (if (3 : Nat) = 0 ∧ 48 + d = 6 then 2 else if (3 : Nat) = 3 ∧ 48 + d = 143 then 1 else 0) = 0
        rw [if_neg (by omega), if_neg (by omega)]
      rw [this]
      have h6 : k = 0 ∨ k = 1 ∨ k = 2 ∨ k = 3 ∨ k = 4 ∨ k = 5 := by omega
      rcases h6 with rfl | rfl | rfl | rfl | rfl | rfl <;> decide
  · refine ⟨?_, fun i v hi _ => ?_⟩
    · rw [z 266 236 (by decide) (by decide)]; decide
    · have : min 60 (V0 3 144) = 0 := by decide
      omega
theorem first_GG : GG 0 V0 := by
  have n0 : ∀ j, ¬ j < V0 0 1 ∧ ¬ j < V0 0 3 ∧ ¬ j < V0 0 4 ∧ ¬ j < V0 0 7 ∧ ¬ j < V0 0 0 := fun j => ⟨Nat.not_lt_zero j, Nat.not_lt_zero j, Nat.not_lt_zero j, Nat.not_lt_zero j, Nat.not_lt_zero j⟩
  refine ⟨⟨⟨by decide, fun j hj => absurd hj (n0 j).2.2.2.2⟩, ⟨by decide, by decide, fun i hi => absurd hi (n0 i).1⟩, ⟨by decide, fun i hi => absurd hi (n0 i).2.1⟩, by decide, fun k hk => ?_, fun i hi => absurd hi (n0 i).2.2.2.1, Or.inl ⟨rfl, fun z => ?_, fun z hz => ?_, rfl, rfl, rfl⟩⟩, fun i hi => absurd hi (n0 i).2.1, fun q => absurd rfl q⟩
  · show (if (4 : Nat) = 0 ∧ k = 6 then 2 else if (4 : Nat) = 3 ∧ k = 143 then 1 else 0) ≤ 0
    rw [if_neg (by omega), if_neg (by omega)]; decide
  · show (if (2 : Nat) = 0 ∧ z = 6 then 2 else if (2 : Nat) = 3 ∧ z = 143 then 1 else 0) = 0
    rw [if_neg (by omega), if_neg (by omega)]
  · show (if (3 : Nat) = 0 ∧ z = 6 then 2 else if (3 : Nat) = 3 ∧ z = 143 then 1 else 0) = F00 z
    unfold F00
    rw [if_neg (by omega)]
    split
    · next q => rw [if_pos q.2]
    · next q => rw [if_neg (fun w => q ⟨rfl, w⟩)]
end FIRST
