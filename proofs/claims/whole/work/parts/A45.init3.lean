/-! constructors: the history, the class itself -/
/-- i rows that lie in the array A, the first at F -/
def vL (A F : Nat) : Nat → List (Nat × Nat × Nat) → List (Nat × Nat × Nat)
  | 0, Ls => Ls
  | i + 1, Ls => (A, i, F + 2 * i) :: (F + 2 * i, 0, F + 2 * i + 1) :: vL A F i Ls
theorem vL_o {A F a j : Nat} {Ls : List (Nat × Nat × Nat)} (h1 : a ≠ A) (h2 : a < F) : ∀ i, lkR (vL A F i Ls) a j = lkR Ls a j
  | 0 => rfl
  | i + 1 => by
    show (if A = a ∧ i = j then _ else if F + 2 * i = a ∧ 0 = j then _ else lkR (vL A F i Ls) a j) = _
    rw [if_neg (fun q => h1 q.1.symm), if_neg (fun q => by omega)]
    exact vL_o h1 h2 i
theorem sh_st : ∀ i, i < 40 → shF (149 + 2 * i) = (8, 0) ∧ shF (149 + 2 * i + 1) = (50, 146) := by decide +kernel
theorem sh_lw : ∀ i, i < 5 → shF (233 + 2 * i) = (3, 0) ∧ shF (233 + 2 * i + 1) = (50, 240) := by decide +kernel
theorem sh_cl : ∀ i, i < 5 → shF (243 + 2 * i) = (0, 0) ∧ shF (243 + 2 * i + 1) = (50, 60) := by decide +kernel
set_option maxRecDepth 20000 in
set_option maxHeartbeats 1000000 in
theorem l_2 {G : Gt} {l : Launch} {post : Pt'} {Ls : List (Nat × Nat × Nat)} {ι : Nat → Int32} {Z0 : Zt} {R0 : Rt} {I0 : It} {L0 : Lt} {rc rs : Nat} (hA : lkR Ls 147 0 = some 148) : ∀ (k i : Nat), i + k = 40 → ∀ (Z : Zt) (R : Rt) (I : It) (L : Lt), Bd 100 100 (149 + 2 * i) (vL 148 149 i Ls) ι Z0 R0 I0 L0 Z R I L → (∀ Z' R' I' L', Bd 100 100 (229) (vL 148 149 40 Ls) ι Z0 R0 I0 L0 Z' R' I' L' → Sx G l mX2_init 3 rc rs 53 [(1, .int (nI 40)), (0, .ref 147)] [] Z' R' I' L' post) → Sx G l mX2_init 3 (2 * k + rc) (147 * k + rs) 25 [(1, .int (nI i)), (0, .ref 147)] [] Z R I L post
  | 0, i, hi, Z, R, I, L, B, hend => by
    obtain rfl : i = 40 := by omega
    simp only [Nat.mul_zero, Nat.zero_add]
    refine Sx.iload_n dX2_init_25 rfl ?_
    refine Sx.aload_n dX2_init_26 rfl ?_
    refine Sx.getfR dX2_init_27 lkf_X2_11_2 (B.ob (by decide) (by omega) (by decide +kernel)) (B.g (t := 148) (by decide) (by omega) (by rw [vL_o (by decide) (by decide)]; exact hA)) ?_
    refine Sx.alen (t := 57) (n := 40) (v := nI 40) dX2_init_30 ⟨by decide, by rw [B.1]; omega, by rw [(B.2.2.2.1 148 (by decide) (by omega)).1]; decide +kernel⟩ (by decide) (by decide) rfl ?_
    refine Sx.icmp_geV (t := 53) dX2_init_31 (by decide) (vN (by omega)) (vN (by decide)) (fun cc => ?_) (fun cc => ?_)
    · exact hend _ _ _ _ B
    · exact absurd True.intro (by omega)
  | k + 1, i, hi, Z, R, I, L, B, hend => by
    obtain ⟨hs1, hs2⟩ := sh_st i (by omega)
    refine Sx.iload_n dX2_init_25 rfl ?_
    refine Sx.aload_n dX2_init_26 rfl ?_
    refine Sx.getfR dX2_init_27 lkf_X2_11_2 (B.ob (by decide) (by omega) (by decide +kernel)) (B.g (t := 148) (by decide) (by omega) (by rw [vL_o (by decide) (by decide)]; exact hA)) ?_
    refine Sx.alen (t := 57) (n := 40) (v := nI 40) dX2_init_30 ⟨by decide, by rw [B.1]; omega, by rw [(B.2.2.2.1 148 (by decide) (by omega)).1]; decide +kernel⟩ (by decide) (by decide) rfl ?_
    refine Sx.icmp_geV (t := 53) dX2_init_31 (by decide) (vN (by omega)) (vN (by decide)) (fun cc => ?_) (fun cc => ?_)
    · exact absurd True.intro (by omega)
    · skip
      refine Sx.aload_n dX2_init_34 rfl ?_
      refine Sx.getfR dX2_init_35 lkf_X2_11_2 (B.ob (by decide) (by omega) (by decide +kernel)) (B.g (by omega) (by omega) (by rw [vL_o (by decide) (by decide)]; exact hA)) ?_
      refine Sx.iload_n dX2_init_38 rfl ?_
      refine Bs.new B dX2_init_39 lkn_X2_9 hs1 (Or.inl (by omega)) (bc' := 1 + (2 * k + rc)) (bs' := 146 + (147 * k + rs)) (by omega) (by have : fN 8 = 1 := rfl; omega) (fun Z1 R1 I1 L1 B1 => ?_)
      refine Sx.dup dX2_init_42 rfl ?_
      refine Sx.callI (As := []) dX2_init_43 lki_X2_22 rfl (by decide) (by decide) (Nat.le_of_ble_eq_true rfl) (bc' := 0 + (2 * k + rc)) (bs' := 0 + (147 * k + rs)) (by omega) (by omega) (i_8 B1 (by omega) (by omega) hs1 hs2 (Or.inl (by omega))  (fun Z2 R2 I2 L2 B2 => ?_))
      clear B1
      refine Sx.aast (t := 57) (n := 40) dX2_init_46 ⟨by decide, by rw [B2.1]; omega, by rw [(B2.2.2.2.1 148 (by omega) (by omega)).1]; decide +kernel⟩ (by decide) (by decide) (vp_in_nI (by omega) (by decide)) (B2.ob (by omega) (by omega) hs1) (by decide) rfl rfl rfl ?_
      rw [nI_clamp (by omega)]
      have B3 := B2.rf (a := 148) (j := i) (t := 149 + 2 * i) (by omega) (by omega)
      clear B2
      refine Sx.iinc (v := nI (i + 1)) (lv' := [(1, .int (nI (i + 1))), (0, .ref 147)]) dX2_init_47 rfl (nI_add i 1) (by decide) rfl ?_
      refine Sx.goto (t := 25) dX2_init_50 (by decide) ?_
      simp only [Nat.zero_add]
      exact l_2 hA k (i + 1) (by omega) _ _ _ _ B3 hend
set_option maxRecDepth 20000 in
set_option maxHeartbeats 1000000 in
theorem i_2 {G : Gt} {l : Launch} {Z : Zt} {R : Rt} {I : It} {L : Lt} {post : Pt'} {Ls : List (Nat × Nat × Nat)} {ι : Nat → Int32} {Z0 : Zt} {R0 : Rt} {I0 : It} {L0 : Lt} (B : Bd 100 100 148 Ls ι Z0 R0 I0 L0 Z R I L) (h : ∀ Z' R' I' L', Bd 100 100 229 (vL 148 149 40 ((147, 0, 148) :: Ls)) ι Z0 R0 I0 L0 Z' R' I' L' → post none Z' R' I' L') : Cx G l mX2_init 3 81 5920 [.ref 147] Z R I L post := by
  refine Cx.of (by decide +kernel) (by exact Nat.le_of_ble_eq_true rfl) ?_
  refine Sx.aload_n dX2_init_0 rfl ?_
  refine Sx.objInit dX2_init_1 lko_X2_1 woI woC (by decide) (Nat.le_of_ble_eq_true rfl) ?_
  refine Sx.aload_n dX2_init_4 rfl ?_
  refine Sx.bipush (v := (nI 40)) dX2_init_5 (by decide) ?_
  refine Bs.anewarr B dX2_init_7 (t := 57) (N := 40) (by decide) (by decide) rfl w_330 wao_State rfl (by decide) (by decide +kernel) (Or.inl (by decide)) (bc' := 80) (bs' := 5880) rfl rfl (fun Z1 R1 I1 L1 B1 => ?_)
  refine Sx.putfR (r := some 148) dX2_init_10 lkp_X2_11_2 (fun _ => rfl) (B1.ob (by decide) (by decide) (by decide +kernel)) rfl (fun _ => rfl) rfl (fun _ => rfl) ?_
  have B2 := B1.rf (a := 147) (j := 0) (t := 148) (by decide) (by decide)
  clear B1
  refine Sx.aload_n dX2_init_13 rfl ?_
  refine Sx.iconst (v := (nI 0)) dX2_init_14 (by decide) ?_
  refine Sx.putfI dX2_init_15 lkp_X2_15_2 (B2.ob (by decide) (by decide) (by decide +kernel)) rfl rfl ?_
  have B3 := B2.z0 (a := 147) (j := 1) (v := nI 0) (by decide) (by decide) (by rw [if_neg (by decide)]; rfl)
  clear B2
  refine Sx.aload_n dX2_init_18 rfl ?_
  refine Sx.iconst (v := (nI 0)) dX2_init_19 (by decide) ?_
  refine Sx.putfI dX2_init_20 lkp_X2_19_2 (B3.ob (by decide) (by decide) (by decide +kernel)) rfl rfl ?_
  have B4 := B3.z0 (a := 147) (j := 2) (v := nI 0) (by decide) (by decide) (by rw [if_neg (by decide)]; rfl)
  clear B3
  refine Sx.iconst (v := (nI 0)) dX2_init_23 (by decide) ?_
  refine Sx.istore_n (lv' := [(1, .int (nI 0)), (0, .ref 147)]) dX2_init_24 (by decide) rfl ?_
  exact l_2 (rc := 0) (rs := 0) (Ls := (147, 0, 148) :: Ls) rfl 40 0 rfl _ _ _ _ B4 (fun Z' R' I' L' B' => Sx.vret dX2_init_53 rfl (h _ _ _ _ B'))
set_option maxRecDepth 20000 in
set_option maxHeartbeats 1000000 in
theorem l_11a {G : Gt} {l : Launch} {post : Pt'} {Ls : List (Nat × Nat × Nat)} {ι : Nat → Int32} {Z0 : Zt} {R0 : Rt} {I0 : It} {L0 : Lt} {rc rs : Nat} (hA : lkR Ls 100 4 = some 110) : ∀ (k i : Nat), i + k = 5 → ∀ (Z : Zt) (R : Rt) (I : It) (L : Lt), Bd 100 100 (233 + 2 * i) (vL 110 233 i Ls) ι Z0 R0 I0 L0 Z R I L → (∀ Z' R' I' L', Bd 100 100 (243) (vL 110 233 5 Ls) ι Z0 R0 I0 L0 Z' R' I' L' → Sx G l mX11_init 4 rc rs 217 [(1, .int (nI 5)), (0, .ref 100)] [] Z' R' I' L' post) → Sx G l mX11_init 4 (2 * k + rc) (242 * k + rs) 189 [(1, .int (nI i)), (0, .ref 100)] [] Z R I L post
  | 0, i, hi, Z, R, I, L, B, hend => by
    obtain rfl : i = 5 := by omega
    simp only [Nat.mul_zero, Nat.zero_add]
    refine Sx.iload_n dX11_init_189 rfl ?_
    refine Sx.aload_n dX11_init_190 rfl ?_
    refine Sx.getfR dX11_init_191 lkf_X11_35_11 (B.ob (by decide) (by omega) (by decide +kernel)) (B.g (t := 110) (by decide) (by omega) (by rw [vL_o (by decide) (by decide)]; exact hA)) ?_
    refine Sx.alen (t := 55) (n := 5) (v := nI 5) dX11_init_194 ⟨by decide, by rw [B.1]; omega, by rw [(B.2.2.2.1 110 (by decide) (by omega)).1]; decide +kernel⟩ (by decide) (by decide) rfl ?_
    refine Sx.icmp_geV (t := 217) dX11_init_195 (by decide) (vN (by omega)) (vN (by decide)) (fun cc => ?_) (fun cc => ?_)
    · exact hend _ _ _ _ B
    · exact absurd True.intro (by omega)
  | k + 1, i, hi, Z, R, I, L, B, hend => by
    obtain ⟨hs1, hs2⟩ := sh_lw i (by omega)
    refine Sx.iload_n dX11_init_189 rfl ?_
    refine Sx.aload_n dX11_init_190 rfl ?_
    refine Sx.getfR dX11_init_191 lkf_X11_35_11 (B.ob (by decide) (by omega) (by decide +kernel)) (B.g (t := 110) (by decide) (by omega) (by rw [vL_o (by decide) (by decide)]; exact hA)) ?_
    refine Sx.alen (t := 55) (n := 5) (v := nI 5) dX11_init_194 ⟨by decide, by rw [B.1]; omega, by rw [(B.2.2.2.1 110 (by decide) (by omega)).1]; decide +kernel⟩ (by decide) (by decide) rfl ?_
    refine Sx.icmp_geV (t := 217) dX11_init_195 (by decide) (vN (by omega)) (vN (by decide)) (fun cc => ?_) (fun cc => ?_)
    · exact absurd True.intro (by omega)
    · skip
      refine Sx.aload_n dX11_init_198 rfl ?_
      refine Sx.getfR dX11_init_199 lkf_X11_35_11 (B.ob (by decide) (by omega) (by decide +kernel)) (B.g (by omega) (by omega) (by rw [vL_o (by decide) (by decide)]; exact hA)) ?_
      refine Sx.iload_n dX11_init_202 rfl ?_
      refine Bs.new B dX11_init_203 lkn_X11_33 hs1 (Or.inl (by omega)) (bc' := 1 + (2 * k + rc)) (bs' := 240 + (242 * k + rs)) (by omega) (by have : fN 3 = 2 := rfl; omega) (fun Z1 R1 I1 L1 B1 => ?_)
      refine Sx.dup dX11_init_206 rfl ?_
      refine Sx.callI (As := []) dX11_init_207 lki_X11_113 rfl (by decide) (by decide) (Nat.le_of_ble_eq_true rfl) (bc' := 0 + (2 * k + rc)) (bs' := 0 + (242 * k + rs)) (by omega) (by omega) (i_3 B1 (by omega) (by omega) hs1 hs2 (Or.inl (by omega)) (by omega)  (fun Z2 R2 I2 L2 B2 => ?_))
      clear B1
      refine Sx.aast (t := 55) (n := 5) dX11_init_210 ⟨by decide, by rw [B2.1]; omega, by rw [(B2.2.2.2.1 110 (by omega) (by omega)).1]; decide +kernel⟩ (by decide) (by decide) (vp_in_nI (by omega) (by decide)) (B2.ob (by omega) (by omega) hs1) (by decide) rfl rfl rfl ?_
      rw [nI_clamp (by omega)]
      have B3 := B2.rf (a := 110) (j := i) (t := 233 + 2 * i) (by omega) (by omega)
      clear B2
      refine Sx.iinc (v := nI (i + 1)) (lv' := [(1, .int (nI (i + 1))), (0, .ref 100)]) dX11_init_211 rfl (nI_add i 1) (by decide) rfl ?_
      refine Sx.goto (t := 189) dX11_init_214 (by decide) ?_
      simp only [Nat.zero_add]
      exact l_11a hA k (i + 1) (by omega) _ _ _ _ B3 hend
set_option maxRecDepth 20000 in
set_option maxHeartbeats 1000000 in
theorem l_11b {G : Gt} {l : Launch} {post : Pt'} {Ls : List (Nat × Nat × Nat)} {ι : Nat → Int32} {Z0 : Zt} {R0 : Rt} {I0 : It} {L0 : Lt} {rc rs : Nat} (hA : lkR Ls 100 5 = some 111) : ∀ (k i : Nat), i + k = 5 → ∀ (Z : Zt) (R : Rt) (I : It) (L : Lt), Bd 100 100 (243 + 2 * i) (vL 111 243 i Ls) ι Z0 R0 I0 L0 Z R I L → (∀ Z' R' I' L', Bd 100 100 (253) (vL 111 243 5 Ls) ι Z0 R0 I0 L0 Z' R' I' L' → Sx G l mX11_init 4 rc rs 247 [(1, .int (nI 5)), (0, .ref 100)] [] Z' R' I' L' post) → Sx G l mX11_init 4 (2 * k + rc) (62 * k + rs) 219 [(1, .int (nI i)), (0, .ref 100)] [] Z R I L post
  | 0, i, hi, Z, R, I, L, B, hend => by
    obtain rfl : i = 5 := by omega
    simp only [Nat.mul_zero, Nat.zero_add]
    refine Sx.iload_n dX11_init_219 rfl ?_
    refine Sx.aload_n dX11_init_220 rfl ?_
    refine Sx.getfR dX11_init_221 lkf_X11_41_11 (B.ob (by decide) (by omega) (by decide +kernel)) (B.g (t := 111) (by decide) (by omega) (by rw [vL_o (by decide) (by decide)]; exact hA)) ?_
    refine Sx.alen (t := 56) (n := 5) (v := nI 5) dX11_init_224 ⟨by decide, by rw [B.1]; omega, by rw [(B.2.2.2.1 111 (by decide) (by omega)).1]; decide +kernel⟩ (by decide) (by decide) rfl ?_
    refine Sx.icmp_geV (t := 247) dX11_init_225 (by decide) (vN (by omega)) (vN (by decide)) (fun cc => ?_) (fun cc => ?_)
    · exact hend _ _ _ _ B
    · exact absurd True.intro (by omega)
  | k + 1, i, hi, Z, R, I, L, B, hend => by
    obtain ⟨hs1, hs2⟩ := sh_cl i (by omega)
    refine Sx.iload_n dX11_init_219 rfl ?_
    refine Sx.aload_n dX11_init_220 rfl ?_
    refine Sx.getfR dX11_init_221 lkf_X11_41_11 (B.ob (by decide) (by omega) (by decide +kernel)) (B.g (t := 111) (by decide) (by omega) (by rw [vL_o (by decide) (by decide)]; exact hA)) ?_
    refine Sx.alen (t := 56) (n := 5) (v := nI 5) dX11_init_224 ⟨by decide, by rw [B.1]; omega, by rw [(B.2.2.2.1 111 (by decide) (by omega)).1]; decide +kernel⟩ (by decide) (by decide) rfl ?_
    refine Sx.icmp_geV (t := 247) dX11_init_225 (by decide) (vN (by omega)) (vN (by decide)) (fun cc => ?_) (fun cc => ?_)
    · exact absurd True.intro (by omega)
    · skip
      refine Sx.aload_n dX11_init_228 rfl ?_
      refine Sx.getfR dX11_init_229 lkf_X11_41_11 (B.ob (by decide) (by omega) (by decide +kernel)) (B.g (by omega) (by omega) (by rw [vL_o (by decide) (by decide)]; exact hA)) ?_
      refine Sx.iload_n dX11_init_232 rfl ?_
      refine Bs.new B dX11_init_233 lkn_X11_39 hs1 (Or.inl (by omega)) (bc' := 1 + (2 * k + rc)) (bs' := 60 + (62 * k + rs)) (by omega) (by have : fN 0 = 2 := rfl; omega) (fun Z1 R1 I1 L1 B1 => ?_)
      refine Sx.dup dX11_init_236 rfl ?_
      refine Sx.callI (As := []) dX11_init_237 lki_X11_114 rfl (by decide) (by decide) (Nat.le_of_ble_eq_true rfl) (bc' := 0 + (2 * k + rc)) (bs' := 0 + (62 * k + rs)) (by omega) (by omega) (i_0 B1 (by omega) (by omega) hs1 hs2 (Or.inl (by omega)) (by omega)  (fun Z2 R2 I2 L2 B2 => ?_))
      clear B1
      refine Sx.aast (t := 56) (n := 5) dX11_init_240 ⟨by decide, by rw [B2.1]; omega, by rw [(B2.2.2.2.1 111 (by omega) (by omega)).1]; decide +kernel⟩ (by decide) (by decide) (vp_in_nI (by omega) (by decide)) (B2.ob (by omega) (by omega) hs1) (by decide) rfl rfl rfl ?_
      rw [nI_clamp (by omega)]
      have B3 := B2.rf (a := 111) (j := i) (t := 243 + 2 * i) (by omega) (by omega)
      clear B2
      refine Sx.iinc (v := nI (i + 1)) (lv' := [(1, .int (nI (i + 1))), (0, .ref 100)]) dX11_init_241 rfl (nI_add i 1) (by decide) rfl ?_
      refine Sx.goto (t := 219) dX11_init_244 (by decide) ?_
      simp only [Nat.zero_add]
      exact l_11b hA k (i + 1) (by omega) _ _ _ _ B3 hend
def ls11 : List (Nat × Nat × Nat) := vL 111 243 5 (vL 110 233 5 ((100, 12, 231) :: ((231, 0, 232) :: ((100, 11, 229) :: ((229, 0, 230) :: ((100, 10, 147) :: (vL 148 149 40 ((147, 0, 148) :: ((100, 9, 136) :: ((136, 1, 114) :: ((136, 0, 103) :: ((136, 6, 145) :: ((145, 0, 146) :: ((136, 5, 143) :: ((143, 0, 144) :: ((136, 4, 141) :: ((141, 0, 142) :: ((136, 3, 139) :: ((139, 0, 140) :: ((136, 2, 137) :: ((137, 0, 138) :: ((100, 8, 119) :: ((119, 1, 114) :: ((119, 0, 103) :: ((119, 9, 134) :: ((134, 0, 135) :: ((119, 8, 132) :: ((132, 0, 133) :: ((119, 7, 130) :: ((130, 0, 131) :: ((119, 6, 128) :: ((128, 0, 129) :: ((119, 5, 126) :: ((126, 0, 127) :: ((119, 4, 124) :: ((124, 0, 125) :: ((119, 3, 122) :: ((122, 0, 123) :: ((119, 2, 120) :: ((120, 0, 121) :: ((100, 7, 114) :: ((114, 0, 103) :: ((114, 2, 117) :: ((117, 0, 118) :: ((114, 1, 115) :: ((115, 0, 116) :: ((100, 6, 112) :: ((112, 0, 113) :: ((100, 5, 111) :: ((100, 4, 110) :: ((100, 3, 107) :: ((107, 0, 108) :: ((108, 0, 109) :: ((100, 2, 105) :: ((105, 0, 106) :: ((100, 1, 103) :: ((103, 0, 104) :: ((100, 0, 101) :: ((101, 0, 102) :: [])))))))))))))))))))))))))))))))))))))))))))))))))))))))))))
abbrev io11 : Nat → Int32 := (upd (upd (fun _ => 0) 16 (-1)) 17 (nI 2))
set_option maxRecDepth 20000 in
set_option maxHeartbeats 1000000 in
theorem i_11 {G : Gt} {l : Launch} {Z : Zt} {R : Rt} {I : It} {L : Lt} {post : Pt'} {Z0 : Zt} {R0 : Rt} {I0 : It} {L0 : Lt} (B : Bd 100 100 101 [] (fun _ => 0) Z0 R0 I0 L0 Z R I L) (h : ∀ Z' R' I' L', Bd 100 100 253 ls11 io11 Z0 R0 I0 L0 Z' R' I' L' → post none Z' R' I' L') : Cx G l mX11_init 4 152 9178 [.ref 100] Z R I L post := by
  refine Cx.of (by decide +kernel) (by exact Nat.le_of_ble_eq_true rfl) ?_
  refine Sx.aload_n dX11_init_0 rfl ?_
  refine Sx.objInit dX11_init_1 lko_X11_1 woI woC (by decide) (Nat.le_of_ble_eq_true rfl) ?_
  refine Sx.aload_n dX11_init_4 rfl ?_
  refine Bs.new B dX11_init_5 lkn_X11_7 (by decide +kernel) (Or.inl (by decide)) (bc' := 151) (bs' := 9174) rfl rfl (fun Z1 R1 I1 L1 B1 => ?_)
  refine Sx.dup dX11_init_8 rfl ?_
  refine Sx.callIN (As := []) dX11_init_9 lki_X11_9 rfl (by decide) (by decide) (Nat.le_of_ble_eq_true rfl) (bc' := 150) (bs' := 8934) rfl rfl (i_9 B1  (fun Z2 R2 I2 L2 B2 => ?_))
  clear B1
  refine Sx.putfR (r := some 101) dX11_init_12 lkp_X11_10_11 (fun _ => rfl) (B2.ob (by decide) (by decide) (by decide +kernel)) rfl (fun _ => rfl) rfl (fun _ => rfl) ?_
  have B3 := B2.rf (a := 100) (j := 0) (t := 101) (by decide) (by decide)
  clear B2
  refine Sx.aload_n dX11_init_15 rfl ?_
  refine Bs.new B3 dX11_init_16 lkn_X11_16 (by decide +kernel) (Or.inl (by decide)) (bc' := 149) (bs' := 8933) rfl rfl (fun Z4 R4 I4 L4 B4 => ?_)
  clear B3
  refine Sx.dup dX11_init_19 rfl ?_
  refine Sx.callI (As := []) dX11_init_20 lki_X11_18 rfl (by decide) (by decide) (Nat.le_of_ble_eq_true rfl) (bc' := 148) (bs' := 8897) rfl rfl (i_6 B4 (by decide) (by decide) (by decide +kernel) (by decide +kernel) (Or.inl (by decide)) (fun Z5 R5 I5 L5 B5 => ?_))
  clear B4
  refine Sx.putfR (r := some 103) dX11_init_23 lkp_X11_19_11 (fun _ => rfl) (B5.ob (by decide) (by decide) (by decide +kernel)) rfl (fun _ => rfl) rfl (fun _ => rfl) ?_
  have B6 := B5.rf (a := 100) (j := 1) (t := 103) (by decide) (by decide)
  clear B5
  refine Sx.aload_n dX11_init_26 rfl ?_
  refine Bs.new B6 dX11_init_27 lkn_X11_16 (by decide +kernel) (Or.inl (by decide)) (bc' := 147) (bs' := 8896) rfl rfl (fun Z7 R7 I7 L7 B7 => ?_)
  clear B6
  refine Sx.dup dX11_init_30 rfl ?_
  refine Sx.callI (As := []) dX11_init_31 lki_X11_18 rfl (by decide) (by decide) (Nat.le_of_ble_eq_true rfl) (bc' := 146) (bs' := 8860) rfl rfl (i_6 B7 (by decide) (by decide) (by decide +kernel) (by decide +kernel) (Or.inl (by decide)) (fun Z8 R8 I8 L8 B8 => ?_))
  clear B7
  refine Sx.putfR (r := some 105) dX11_init_34 lkp_X11_23_11 (fun _ => rfl) (B8.ob (by decide) (by decide) (by decide +kernel)) rfl (fun _ => rfl) rfl (fun _ => rfl) ?_
  have B9 := B8.rf (a := 100) (j := 2) (t := 105) (by decide) (by decide)
  clear B8
  refine Sx.aload_n dX11_init_37 rfl ?_
  refine Bs.new B9 dX11_init_38 lkn_X11_26 (by decide +kernel) (Or.inl (by decide)) (bc' := 145) (bs' := 8851) rfl rfl (fun Z10 R10 I10 L10 B10 => ?_)
  clear B9
  refine Sx.dup dX11_init_41 rfl ?_
  refine Sx.callIN (As := []) dX11_init_42 lki_X11_28 rfl (by decide) (by decide) (Nat.le_of_ble_eq_true rfl) (bc' := 143) (bs' := 8786) rfl rfl (i_4 B10  (fun Z11 R11 I11 L11 B11 => ?_))
  clear B10
  refine Sx.putfR (r := some 107) dX11_init_45 lkp_X11_29_11 (fun _ => rfl) (B11.ob (by decide) (by decide) (by decide +kernel)) rfl (fun _ => rfl) rfl (fun _ => rfl) ?_
  have B12 := B11.rf (a := 100) (j := 3) (t := 107) (by decide) (by decide)
  clear B11
  refine Sx.aload_n dX11_init_48 rfl ?_
  refine Sx.iconst (v := (nI 5)) dX11_init_49 (by decide) ?_
  refine Bs.anewarr B12 dX11_init_50 (t := 55) (N := 5) (by decide) (by decide) rfl w_210 wao_Law rfl (by decide) (by decide +kernel) (Or.inl (by decide)) (bc' := 142) (bs' := 8781) rfl rfl (fun Z13 R13 I13 L13 B13 => ?_)
  clear B12
  refine Sx.putfR (r := some 110) dX11_init_53 lkp_X11_35_11 (fun _ => rfl) (B13.ob (by decide) (by decide) (by decide +kernel)) rfl (fun _ => rfl) rfl (fun _ => rfl) ?_
  have B14 := B13.rf (a := 100) (j := 4) (t := 110) (by decide) (by decide)
  clear B13
  refine Sx.aload_n dX11_init_56 rfl ?_
  refine Sx.iconst (v := (nI 5)) dX11_init_57 (by decide) ?_
  refine Bs.anewarr B14 dX11_init_58 (t := 56) (N := 5) (by decide) (by decide) rfl w_212 wao_Calendar rfl (by decide) (by decide +kernel) (Or.inl (by decide)) (bc' := 141) (bs' := 8776) rfl rfl (fun Z15 R15 I15 L15 B15 => ?_)
  clear B14
  refine Sx.putfR (r := some 111) dX11_init_61 lkp_X11_41_11 (fun _ => rfl) (B15.ob (by decide) (by decide) (by decide +kernel)) rfl (fun _ => rfl) rfl (fun _ => rfl) ?_
  have B16 := B15.rf (a := 100) (j := 5) (t := 111) (by decide) (by decide)
  clear B15
  refine Sx.aload_n dX11_init_64 rfl ?_
  refine Bs.new B16 dX11_init_65 lkn_X11_45 (by decide +kernel) (Or.inl (by decide)) (bc' := 140) (bs' := 8775) rfl rfl (fun Z17 R17 I17 L17 B17 => ?_)
  clear B16
  refine Sx.dup dX11_init_68 rfl ?_
  refine Sx.iconst (v := (nI 5)) dX11_init_69 (by decide) ?_
  refine Sx.callI (As := [.int (nI 5)]) dX11_init_70 lki_X11_47 rfl (by decide) (by decide) (Nat.le_of_ble_eq_true rfl) (bc' := 139) (bs' := 8770) rfl rfl (i_7_7 B17 (by decide) (by decide) (by decide +kernel) (by decide +kernel) (by decide) (Or.inl (by decide)) (fun Z18 R18 I18 L18 B18 => ?_))
  clear B17
  refine Sx.putfR (r := some 112) dX11_init_73 lkp_X11_50_11 (fun _ => rfl) (B18.ob (by decide) (by decide) (by decide +kernel)) rfl (fun _ => rfl) rfl (fun _ => rfl) ?_
  have B19 := B18.rf (a := 100) (j := 6) (t := 112) (by decide) (by decide)
  clear B18
  refine Sx.aload_n dX11_init_76 rfl ?_
  refine Bs.new B19 dX11_init_77 lkn_X11_54 (by decide +kernel) (Or.inl (by decide)) (bc' := 138) (bs' := 8765) rfl rfl (fun Z20 R20 I20 L20 B20 => ?_)
  clear B19
  refine Sx.dup dX11_init_80 rfl ?_
  refine Sx.aload_n dX11_init_81 rfl ?_
  refine Sx.getfR dX11_init_82 lkf_X11_19_11 (B20.ob (by decide) (by decide) (by decide +kernel)) (B20.g (by decide) (by decide) (by rfl)) ?_
  refine Sx.callI (As := [.ref 103]) dX11_init_85 lki_X11_56 rfl (by decide) (by decide) (Nat.le_of_ble_eq_true rfl) (bc' := 134) (bs' := 8693) rfl rfl (i_1 B20 (by decide +kernel) (fun Z21 R21 I21 L21 B21 => ?_))
  clear B20
  refine Sx.putfR (r := some 114) dX11_init_88 lkp_X11_59_11 (fun _ => rfl) (B21.ob (by decide) (by decide) (by decide +kernel)) rfl (fun _ => rfl) rfl (fun _ => rfl) ?_
  have B22 := B21.rf (a := 100) (j := 7) (t := 114) (by decide) (by decide)
  clear B21
  refine Sx.aload_n dX11_init_91 rfl ?_
  refine Bs.new B22 dX11_init_92 lkn_X11_63 (by decide +kernel) (Or.inl (by decide)) (bc' := 133) (bs' := 8683) rfl rfl (fun Z23 R23 I23 L23 B23 => ?_)
  clear B22
  refine Sx.dup dX11_init_95 rfl ?_
  refine Sx.aload_n dX11_init_96 rfl ?_
  refine Sx.getfR dX11_init_97 lkf_X11_19_11 (B23.ob (by decide) (by decide) (by decide +kernel)) (B23.g (by decide) (by decide) (by rfl)) ?_
  refine Sx.aload_n dX11_init_100 rfl ?_
  refine Sx.getfR dX11_init_101 lkf_X11_59_11 (B23.ob (by decide) (by decide) (by decide +kernel)) (B23.g (by decide) (by decide) (by rfl)) ?_
  refine Sx.callI (As := [.ref 103, .ref 114]) dX11_init_104 lki_X11_65 rfl (by decide) (by decide) (Nat.le_of_ble_eq_true rfl) (bc' := 117) (bs' := 8292) rfl rfl (i_5 B23  (fun Z24 R24 I24 L24 B24 => ?_))
  clear B23
  refine Sx.putfR (r := some 119) dX11_init_107 lkp_X11_68_11 (fun _ => rfl) (B24.ob (by decide) (by decide) (by decide +kernel)) rfl (fun _ => rfl) rfl (fun _ => rfl) ?_
  have B25 := B24.rf (a := 100) (j := 8) (t := 119) (by decide) (by decide)
  clear B24
  refine Sx.aload_n dX11_init_110 rfl ?_
  refine Bs.new B25 dX11_init_111 lkn_X11_72 (by decide +kernel) (Or.inl (by decide)) (bc' := 116) (bs' := 8284) rfl rfl (fun Z26 R26 I26 L26 B26 => ?_)
  clear B25
  refine Sx.dup dX11_init_114 rfl ?_
  refine Sx.aload_n dX11_init_115 rfl ?_
  refine Sx.getfR dX11_init_116 lkf_X11_19_11 (B26.ob (by decide) (by decide) (by decide +kernel)) (B26.g (by decide) (by decide) (by rfl)) ?_
  refine Sx.aload_n dX11_init_119 rfl ?_
  refine Sx.getfR dX11_init_120 lkf_X11_59_11 (B26.ob (by decide) (by decide) (by decide +kernel)) (B26.g (by decide) (by decide) (by rfl)) ?_
  refine Sx.callI (As := [.ref 103, .ref 114]) dX11_init_123 lki_X11_74 rfl (by decide) (by decide) (Nat.le_of_ble_eq_true rfl) (bc' := 106) (bs' := 7737) rfl rfl (i_10 B26  (fun Z27 R27 I27 L27 B27 => ?_))
  clear B26
  refine Sx.putfR (r := some 136) dX11_init_126 lkp_X11_75_11 (fun _ => rfl) (B27.ob (by decide) (by decide) (by decide +kernel)) rfl (fun _ => rfl) rfl (fun _ => rfl) ?_
  have B28 := B27.rf (a := 100) (j := 9) (t := 136) (by decide) (by decide)
  clear B27
  refine Sx.aload_n dX11_init_129 rfl ?_
  refine Bs.new B28 dX11_init_130 lkn_X11_79 (by decide +kernel) (Or.inl (by decide)) (bc' := 105) (bs' := 7734) rfl rfl (fun Z29 R29 I29 L29 B29 => ?_)
  clear B28
  refine Sx.dup dX11_init_133 rfl ?_
  refine Sx.callI (As := []) dX11_init_134 lki_X11_81 rfl (by decide) (by decide) (Nat.le_of_ble_eq_true rfl) (bc' := 24) (bs' := 1814) rfl rfl (i_2 B29 (fun Z30 R30 I30 L30 B30 => ?_))
  clear B29
  refine Sx.putfR (r := some 147) dX11_init_137 lkp_X11_82_11 (fun _ => rfl) (B30.ob (by decide) (by decide) (by decide +kernel)) rfl (fun _ => rfl) rfl (fun _ => rfl) ?_
  have B31 := B30.rf (a := 100) (j := 10) (t := 147) (by decide) (by decide)
  clear B30
  refine Sx.aload_n dX11_init_140 rfl ?_
  refine Bs.new B31 dX11_init_141 lkn_X11_86 (by decide +kernel) (Or.inl (by decide)) (bc' := 23) (bs' := 1813) rfl rfl (fun Z32 R32 I32 L32 B32 => ?_)
  clear B31
  refine Sx.dup dX11_init_144 rfl ?_
  refine Sx.callI (As := []) dX11_init_145 lki_X11_88 rfl (by decide) (by decide) (Nat.le_of_ble_eq_true rfl) (bc' := 22) (bs' := 1667) rfl rfl (i_8 B32 (by decide) (by decide) (by decide +kernel) (by decide +kernel) (Or.inl (by decide)) (fun Z33 R33 I33 L33 B33 => ?_))
  clear B32
  refine Sx.putfR (r := some 229) dX11_init_148 lkp_X11_89_11 (fun _ => rfl) (B33.ob (by decide) (by decide) (by decide +kernel)) rfl (fun _ => rfl) rfl (fun _ => rfl) ?_
  have B34 := B33.rf (a := 100) (j := 11) (t := 229) (by decide) (by decide)
  clear B33
  refine Sx.aload_n dX11_init_151 rfl ?_
  refine Bs.new B34 dX11_init_152 lkn_X11_86 (by decide +kernel) (Or.inl (by decide)) (bc' := 21) (bs' := 1666) rfl rfl (fun Z35 R35 I35 L35 B35 => ?_)
  clear B34
  refine Sx.dup dX11_init_155 rfl ?_
  refine Sx.callI (As := []) dX11_init_156 lki_X11_88 rfl (by decide) (by decide) (Nat.le_of_ble_eq_true rfl) (bc' := 20) (bs' := 1520) rfl rfl (i_8 B35 (by decide) (by decide) (by decide +kernel) (by decide +kernel) (Or.inl (by decide)) (fun Z36 R36 I36 L36 B36 => ?_))
  clear B35
  refine Sx.putfR (r := some 231) dX11_init_159 lkp_X11_93_11 (fun _ => rfl) (B36.ob (by decide) (by decide) (by decide +kernel)) rfl (fun _ => rfl) rfl (fun _ => rfl) ?_
  have B37 := B36.rf (a := 100) (j := 12) (t := 231) (by decide) (by decide)
  clear B36
  refine Sx.aload_n dX11_init_162 rfl ?_
  refine Sx.iconst (v := (nI 0)) dX11_init_163 (by decide) ?_
  refine Sx.putfI dX11_init_164 lkp_X11_96_11 (B37.ob (by decide) (by decide) (by decide +kernel)) rfl rfl ?_
  have B38 := B37.z0 (a := 100) (j := 13) (v := nI 0) (by decide) (by decide) (by rw [if_pos rfl]; rfl)
  clear B37
  refine Sx.aload_n dX11_init_167 rfl ?_
  refine Sx.iconst (v := (nI 0)) dX11_init_168 (by decide) ?_
  refine Sx.putfI dX11_init_169 lkp_X11_100_11 (B38.ob (by decide) (by decide) (by decide +kernel)) rfl rfl ?_
  have B39 := B38.z0 (a := 100) (j := 14) (v := nI 0) (by decide) (by decide) (by rw [if_pos rfl]; rfl)
  clear B38
  refine Sx.aload_n dX11_init_172 rfl ?_
  refine Sx.iconst (v := (nI 0)) dX11_init_173 (by decide) ?_
  refine Sx.putfI dX11_init_174 lkp_X11_104_11 (B39.ob (by decide) (by decide) (by decide +kernel)) rfl rfl ?_
  have B40 := B39.z0 (a := 100) (j := 15) (v := nI 0) (by decide) (by decide) (by rw [if_pos rfl]; rfl)
  clear B39
  refine Sx.aload_n dX11_init_177 rfl ?_
  refine Sx.iconst (v := (-1)) dX11_init_178 (by decide) ?_
  refine Sx.putfI dX11_init_179 lkp_X11_107_11 (B40.ob (by decide) (by decide) (by decide +kernel)) rfl rfl ?_
  have B41 := B40.zx (j := 16) (v := -1) (by decide) (by decide)
  clear B40
  refine Sx.aload_n dX11_init_182 rfl ?_
  refine Sx.iconst (v := (nI 2)) dX11_init_183 (by decide) ?_
  refine Sx.putfI dX11_init_184 lkp_X11_110_11 (B41.ob (by decide) (by decide) (by decide +kernel)) rfl rfl ?_
  have B42 := B41.zx (j := 17) (v := nI 2) (by decide) (by decide)
  clear B41
  refine Sx.iconst (v := (nI 0)) dX11_init_187 (by decide) ?_
  refine Sx.istore_n (lv' := [(1, .int (nI 0)), (0, .ref 100)]) dX11_init_188 (by decide) rfl ?_
  refine l_11a (rc := 10) (rs := 310) (Ls := ((100, 12, 231) :: ((231, 0, 232) :: ((100, 11, 229) :: ((229, 0, 230) :: ((100, 10, 147) :: (vL 148 149 40 ((147, 0, 148) :: ((100, 9, 136) :: ((136, 1, 114) :: ((136, 0, 103) :: ((136, 6, 145) :: ((145, 0, 146) :: ((136, 5, 143) :: ((143, 0, 144) :: ((136, 4, 141) :: ((141, 0, 142) :: ((136, 3, 139) :: ((139, 0, 140) :: ((136, 2, 137) :: ((137, 0, 138) :: ((100, 8, 119) :: ((119, 1, 114) :: ((119, 0, 103) :: ((119, 9, 134) :: ((134, 0, 135) :: ((119, 8, 132) :: ((132, 0, 133) :: ((119, 7, 130) :: ((130, 0, 131) :: ((119, 6, 128) :: ((128, 0, 129) :: ((119, 5, 126) :: ((126, 0, 127) :: ((119, 4, 124) :: ((124, 0, 125) :: ((119, 3, 122) :: ((122, 0, 123) :: ((119, 2, 120) :: ((120, 0, 121) :: ((100, 7, 114) :: ((114, 0, 103) :: ((114, 2, 117) :: ((117, 0, 118) :: ((114, 1, 115) :: ((115, 0, 116) :: ((100, 6, 112) :: ((112, 0, 113) :: ((100, 5, 111) :: ((100, 4, 110) :: ((100, 3, 107) :: ((107, 0, 108) :: ((108, 0, 109) :: ((100, 2, 105) :: ((105, 0, 106) :: ((100, 1, 103) :: ((103, 0, 104) :: ((100, 0, 101) :: ((101, 0, 102) :: []))))))))))))))))))))))))))))))))))))))))))))))))))))))))))) (by decide +kernel) 5 0 rfl _ _ _ _ B42 (fun Z1 R1 I1 L1 C1 => ?_)
  refine Sx.iconst (v := (nI 0)) dX11_init_217 (by decide) ?_
  refine Sx.istore_n (lv' := [(1, .int (nI 0)), (0, .ref 100)]) dX11_init_218 (by decide) rfl ?_
  exact l_11b (rc := 0) (rs := 0) (Ls := vL 110 233 5 ((100, 12, 231) :: ((231, 0, 232) :: ((100, 11, 229) :: ((229, 0, 230) :: ((100, 10, 147) :: (vL 148 149 40 ((147, 0, 148) :: ((100, 9, 136) :: ((136, 1, 114) :: ((136, 0, 103) :: ((136, 6, 145) :: ((145, 0, 146) :: ((136, 5, 143) :: ((143, 0, 144) :: ((136, 4, 141) :: ((141, 0, 142) :: ((136, 3, 139) :: ((139, 0, 140) :: ((136, 2, 137) :: ((137, 0, 138) :: ((100, 8, 119) :: ((119, 1, 114) :: ((119, 0, 103) :: ((119, 9, 134) :: ((134, 0, 135) :: ((119, 8, 132) :: ((132, 0, 133) :: ((119, 7, 130) :: ((130, 0, 131) :: ((119, 6, 128) :: ((128, 0, 129) :: ((119, 5, 126) :: ((126, 0, 127) :: ((119, 4, 124) :: ((124, 0, 125) :: ((119, 3, 122) :: ((122, 0, 123) :: ((119, 2, 120) :: ((120, 0, 121) :: ((100, 7, 114) :: ((114, 0, 103) :: ((114, 2, 117) :: ((117, 0, 118) :: ((114, 1, 115) :: ((115, 0, 116) :: ((100, 6, 112) :: ((112, 0, 113) :: ((100, 5, 111) :: ((100, 4, 110) :: ((100, 3, 107) :: ((107, 0, 108) :: ((108, 0, 109) :: ((100, 2, 105) :: ((105, 0, 106) :: ((100, 1, 103) :: ((103, 0, 104) :: ((100, 0, 101) :: ((101, 0, 102) :: []))))))))))))))))))))))))))))))))))))))))))))))))))))))))))) (by decide +kernel) 5 0 rfl _ _ _ _ C1 (fun Z2 R2 I2 L2 C2 => Sx.vret dX11_init_247 rfl (h _ _ _ _ C2))
