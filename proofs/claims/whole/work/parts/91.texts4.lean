/-! what a calendar that is read holds -/
theorem enV_b {T : Nat → Nat} {n w i c : Nat} (h : enK T n w i c = true) : -1 ≤ (enV T n w i c).toInt ∧ (enV T n w i c).toInt ≤ 9 := by
  unfold enV
  split
  · next g =>
    unfold enK at h
    rw [decide_eq_true g] at h
    have h1 : isDN (sgn T n (nx T n c)) = true := by simpa using h
    unfold isDN at h1
    have h2 := of_decide_eq_true h1
    rw [nI_toInt (by omega)]
    omega
  · decide
theorem stpK_i {T : Nat → Nat} {n c : Nat} (h : stpK T n c = true) : stpW T n c ≠ 0 ∧ enK T n (stpW T n c - 1) 1 (nx T n c + 1) = true ∧ enK T n (stpW T n c - 1) 2 (stpB T n c) = true := by
  unfold stpK at h
  simp only [Bool.and_eq_true, Bool.not_eq_true', decide_eq_false_iff_not] at h
  exact h
theorem stpR_b {T : Nat → Nat} {n c st : Nat} {f : Nat → Int32} (h : stpK T n c = true) {z : Nat} (h1 : 3 * st ≤ z) (h2 : z < 3 * (st + 1)) : (-1 ≤ (stpR T n c st f z).toInt ∧ (stpR T n c st f z).toInt ≤ 9) ∧ (z % 3 = 0 → 0 ≤ (stpR T n c st f z).toInt ∧ (stpR T n c st f z).toInt ≤ 5) := by
  obtain ⟨k1, k2, k3⟩ := stpK_i h
  have hw := stpW_le T n c
  unfold stpR
  by_cases c2 : z = 3 * st + 2
  · subst c2; rw [upd_at]; exact ⟨enV_b k3, fun q => by omega⟩
  · rw [upd_nj _ _ c2]
    by_cases c1 : z = 3 * st + 1
    · subst c1; rw [upd_at]; exact ⟨enV_b k2, fun q => by omega⟩
    · rw [upd_nj _ _ c1, show z = 3 * st by omega, upd_at, nI_toInt (by omega)]
      exact ⟨by omega, fun _ => by omega⟩
theorem stpR_lo {T : Nat → Nat} {n c st : Nat} {f : Nat → Int32} {z : Nat} (h : z < 3 * st) : stpR T n c st f z = f z := by unfold stpR; rw [upd_nj _ _ (by omega), upd_nj _ _ (by omega), upd_nj _ _ (by omega)]
theorem cpF_lo (T : Nat → Nat) (n : Nat) : ∀ k c st f z, z < 3 * st → cpF T n k c st f z = f z
  | 0, c, st, f, z, h => rfl
  | k + 1, c, st, f, z, h => by
    unfold cpF
    split
    · rw [cpF_lo T n k _ _ _ z (by omega), stpR_lo h]
    · exact stpR_lo h
theorem cpF_b (T : Nat → Nat) (n : Nat) : ∀ k c st f, cpO T n k c = true → ∀ z, 3 * st ≤ z → z < 3 * (st + cpN T n k c) → (-1 ≤ (cpF T n k c st f z).toInt ∧ (cpF T n k c st f z).toInt ≤ 9) ∧ (z % 3 = 0 → 0 ≤ (cpF T n k c st f z).toInt ∧ (cpF T n k c st f z).toInt ≤ 5)
  | 0, c, st, f, h, z, h1, h2 => by cases h
  | k + 1, c, st, f, h, z, h1, h2 => by
    unfold cpO at h
    simp only [Bool.and_eq_true, Bool.or_eq_true, decide_eq_true_eq] at h
    unfold cpN at h2
    unfold cpF
    by_cases g : sgn T n (stpN T n c) = 59 ∧ k ≠ 0
    · rw [if_pos g] at h2 ⊢
      have ho : cpO T n k (stpN T n c + 1) = true := by
        rcases h.2 with q | q
        · rw [q] at g; exact absurd g.1 (by decide)
        · exact q.2
      by_cases z3 : z < 3 * (st + 1)
      · rw [cpF_lo T n k _ _ _ z z3]; exact stpR_b h.1 h1 z3
      · exact cpF_b T n k _ _ _ ho z (by omega) (by omega)
    · rw [if_neg g] at h2 ⊢
      exact stpR_b h.1 h1 h2
theorem cl_c {V : Vt} (h : cpO (V 1) (V 0 0) 20 0 = true) {z : Nat} (hz : z < 3 * cpN (V 1) (V 0 0) 20 0) : cpF (V 1) (V 0 0) 20 0 0 (fun _ => 0) z = iI (((clV V (20 + V 0 3) z : Nat) : Int) - 1) ∧ clV V (20 + V 0 3) z ≤ 10 ∧ (z % 3 = 0 → 1 ≤ clV V (20 + V 0 3) z ∧ clV V (20 + V 0 3) z ≤ 6) := by
  have hb := cpF_b (V 1) (V 0 0) 20 0 0 (fun _ => 0) h z (by omega) (by omega)
  have hn := cpN_le (V 1) (V 0 0) 20 0
  have e : clV V (20 + V 0 3) z = ((cpF (V 1) (V 0 0) 20 0 0 (fun _ => 0) z).toInt + 1).toNat := by
    unfold clV
    rw [if_neg (by omega), if_pos rfl]
    show (if z = 60 then _ else if _ then _ else _) = _
    rw [if_neg (by omega), if_pos hz]
  rw [e]
  refine ⟨?_, by omega, fun q => by have := hb.2 q; omega⟩
  rw [Int.toNat_of_nonneg (by omega), show (cpF (V 1) (V 0 0) 20 0 0 (fun _ => 0) z).toInt + 1 - 1 = (cpF (V 1) (V 0 0) 20 0 0 (fun _ => 0) z).toInt by omega, x_iI]
set_option maxRecDepth 20000 in
set_option maxHeartbeats 1000000 in
theorem l_tx137 {G : Gt} {l : Launch} {Z : Zt} {R : Rt} {L : Lt} {post : Pt'} {I0 : It} {m : Nat} (W : WF Z R) (h30 : I0 253 30 = nI m) (hm : m < 4) (h : ∀ I', (∀ z, z < 60 * m → I' 264 z = I0 264 z) → (∀ j, j < 60 → I' 264 (60 * m + j) = I0 264 (240 + j)) → (∀ q, q ≠ 264 → I' q = I0 q) → Sx G l mX12_text 34 0 0 173 [(0, .ref 253), (1, .int (nI 2))] [] Z R I' L post) :
    ∀ (r j : Nat), j ≤ 60 → 60 < j + r → ∀ (I : It), (∀ z, z < 60 * m → I 264 z = I0 264 z) → (∀ z, z < j → I 264 (60 * m + z) = I0 264 (240 + z)) → (∀ z, 240 ≤ z → I 264 z = I0 264 z) → (∀ q, q ≠ 264 → I q = I0 q) → Sx G l mX12_text 34 0 0 137 [(3, .int (nI j)), (0, .ref 253), (1, .int (nI 2))] [] Z R I L post := by
  intro r
  induction r with
  | zero => intro j hj1 hj2; omega
  | succ r ih =>
    intro j hj1 hj2 I h1 h2 h3 hI
    refine Sx.iload_n dX12_text_137 rfl ?_
    refine Sx.bipush (v := (nI 60)) dX12_text_138 (by decide) ?_
    refine Sx.icmp_geV (t := 173) dX12_text_140 (by decide) (vN (by omega)) (vN (by decide)) (fun c140 => ?_) (fun c140 => ?_)
    · have hj : j = 60 := by omega
      subst hj
      refine Sx.sub' [(0, .ref 253), (1, .int (nI 2))] rfl ?_
      exact h I h1 h2 hI
    · refine Sx.aload_n dX12_text_143 rfl ?_
      refine Sx.getfR dX12_text_144 lkf_X12_55_12 (o_253 W) (r_253_24 W) ?_
      refine Sx.bipush (v := (nI 60)) dX12_text_147 (by decide) ?_
      refine Sx.aload_n dX12_text_149 rfl ?_
      refine Sx.getfV (v := (nI m)) dX12_text_150 lkf_X12_299_12 (o_253 W) (by rw [hI 253 (by decide)]; exact h30) ?_
      refine Sx.imulN dX12_text_153 ?_
      refine Sx.iload_n dX12_text_154 rfl ?_
      refine Sx.iaddN dX12_text_155 ?_
      refine Sx.aload_n dX12_text_156 rfl ?_
      refine Sx.getfR dX12_text_157 lkf_X12_55_12 (o_253 W) (r_253_24 W) ?_
      refine Sx.sipush (v := (nI 240)) dX12_text_160 (by decide) ?_
      refine Sx.iload_n dX12_text_163 rfl ?_
      refine Sx.iaddN dX12_text_164 ?_
      refine Sx.ialdN dX12_text_165 (a_264 W) (by omega) (by decide) (v := (I0 264 (240 + j))) (h3 (240 + j) (by omega)) ?_
      refine Sx.iastN dX12_text_166 (a_264 W) (by omega) (by decide) (fun I1 e1 o1 => ?_)
      refine Sx.iinc (v := (nI (j + 1))) (lv' := [(3, .int (nI (j + 1))), (0, .ref 253), (1, .int (nI 2))]) dX12_text_167 rfl (nI_add j 1) (by decide) rfl ?_
      refine Sx.goto (t := 137) dX12_text_170 (by decide) ?_
      refine Sx.sub' [(3, .int (nI (j + 1))), (0, .ref 253), (1, .int (nI 2))] rfl ?_
      refine ih (j + 1) (by omega) (by omega) I1 (fun z hz => ?_) (fun z hz => ?_) (fun z hz => ?_) (fun q hq => (o1 q hq).trans (hI q hq))
      · rw [e1, upd_nj _ _ (by omega)]; exact h1 z hz
      · rw [e1]
        by_cases c : z = j
        · rw [c, upd_at]
        · rw [upd_nj _ _ (by omega)]; exact h2 z (by omega)
      · rw [e1, upd_nj _ _ (by omega)]; exact h3 z hz
set_option maxRecDepth 20000 in
set_option maxHeartbeats 1000000 in
theorem k_text2 {G : Gt} {l : Launch} {Z : Zt} {R : Rt} {I : It} {L : Lt} {post : Pt'} {V : Vt} {N : Nat} (W : WF Z R) (hM : MI V I L) (hG : GV N V) (hN : N < 2147483647) (h : ∀ I' R' L', MI (texV V (nI 2)) I' L' → FM R I L R' I' L' → post (some (.int (texR V (nI 2)))) Z R' I' L') : Cx G l mX12_text 34 0 0 [.ref 253, .int (nI 2)] Z R I L post := by
  refine Cx.of (by decide +kernel) (by exact Nat.le_of_ble_eq_true rfl) ?_
  refine Sx.aload_n dX12_text_0 rfl ?_
  refine Sx.iconst (v := (nI 0)) dX12_text_1 (by decide) ?_
  refine Sx.putfV dX12_text_2 lkp_X12_109_12 (o_253 W) rfl rfl (fun I1 e1 o1 => ?_)
  have M1 := hM.th (j := 0) (by unfold sfJ; decide) e1 o1
  have hf1 : FM R I L R I1 L := FM.i fun q hq => o1 q (by omega)
  have hp6 := hG.p
  have hb := hG.b
  refine Sx.iload_n dX12_text_5 rfl ?_
  refine Sx.i2l dX12_text_6 ?_
  refine Sx.lconst (v := 0) dX12_text_7 (by decide) ?_
  refine Sx.ldc2 dX12_text_8 lkk_X12_285 ?_
  refine Sx.callS3 dX12_text_11 lkc_X12_230  (by decide) (by decide) (Nat.le_of_ble_eq_true rfl) rfl rfl (k_isIn (vLi (vN (by decide))) (show VL 0 0 from rfl) (show VL 2 2 from rfl) ?_)
  refine Sx.if_eqD (t := 52) dX12_text_14 (by decide) (fun c14 => False.elim (by omega)) (fun c14 => ?_)
  refine Sx.iload_n dX12_text_17 rfl ?_
  refine Sx.iconst (v := (nI 1)) dX12_text_18 (by decide) ?_
  refine Sx.icmp_neV (t := 30) dX12_text_19 (by decide) (vN (by decide)) (vN (by decide)) (fun c19 => ?_) (fun c19 => False.elim (by omega))
  refine Sx.iload_n dX12_text_30 rfl ?_
  refine Sx.iconst (v := (nI 2)) dX12_text_31 (by decide) ?_
  refine Sx.icmp_neV (t := 43) dX12_text_32 (by decide) (vN (by decide)) (vN (by decide)) (fun c32 => False.elim (by omega)) (fun c32 => ?_)
  refine Sx.aload_n dX12_text_35 rfl ?_
  refine Sx.getfV (v := (nI (V 0 3))) dX12_text_36 lkf_X12_299_12 (o_253 W) M1.1.1.2.2.2.2.1 ?_
  refine Sx.iconst (v := (nI 4)) dX12_text_39 (by decide) ?_
  refine Sx.icmp_eqV (t := 52) dX12_text_40 (by decide) (vN (by omega)) (vN (by decide)) (fun c40 => ?_) (fun c40 => ?_)
  · refine Sx.iconst (v := (iI (-1))) dX12_text_52 (by decide) ?_
    refine Sx.iret dX12_text_53 rfl rfl ?_
    have hn : ¬ (sorC (nI 2) ∧ texC V (xN (nI 2))) := fun z => by obtain ⟨-, z1, z2, z3⟩ := z; rw [xN_n (by decide)] at z1 z2 z3; omega
    exact pXX (by unfold texR; rw [if_neg hn]; rfl) (h I1 R L (by unfold texV; rw [if_neg hn]; exact M1) hf1)
  · refine Sx.aload_n dX12_text_43 rfl ?_
    refine Sx.iload_n dX12_text_44 rfl ?_
    refine Sx.callV1 dX12_text_45 lkv_X12_302 (rcv_12 (o_253 W)) (by decide) (by decide) (Nat.le_of_ble_eq_true rfl) rfl rfl (k_fault2 W M1 hG hN (fun I30 R30 M30 f30 x30 => ?_))
    have W := f30.wf W
    have hf30 := hf1.tr f30
    refine Sx.iconst (v := (iI (-1))) dX12_text_48 (by decide) ?_
    refine Sx.icmp_eqV (t := 54) dX12_text_49 (by decide) (vX (fauN V 2)) (vZ (by decide)) (fun c49 => ?_) (fun c49 => ?_)
    · have hokP := (fau_y hG.1.1).mp c49
      have hok : cpO (V 1) (V 0 0) 20 0 = true := hokP
      have hpl := (x30 hokP).2 rfl
      refine Sx.aload_n dX12_text_54 rfl ?_
      refine Sx.getfV (v := (nI (V 0 0))) dX12_text_55 lkf_X12_122_12 (o_253 W) M30.1.1.1 ?_
      refine Sx.istore_n (lv' := [(2, .int (nI (V 0 0))), (0, .ref 253), (1, .int (nI 2))]) dX12_text_58 (by decide) rfl ?_
      refine Sx.aload_n dX12_text_59 rfl ?_
      refine Sx.iconst (v := (nI 0)) dX12_text_60 (by decide) ?_
      refine Sx.putfV dX12_text_61 lkp_X12_122_12 (o_253 W) rfl rfl (fun I31 e31 o31 => ?_)
      refine Sx.iload_n dX12_text_64 rfl ?_
      refine Sx.iconst (v := (nI 1)) dX12_text_65 (by decide) ?_
      refine Sx.icmp_neV (t := 130) dX12_text_66 (by decide) (vN (by decide)) (vN (by decide)) (fun c66 => ?_) (fun c66 => False.elim (by omega))
      refine Sx.iload_n dX12_text_130 rfl ?_
      refine Sx.iconst (v := (nI 2)) dX12_text_131 (by decide) ?_
      refine Sx.icmp_neV (t := 205) dX12_text_132 (by decide) (vN (by decide)) (vN (by decide)) (fun c132 => False.elim (by omega)) (fun c132 => ?_)
      refine Sx.iconst (v := (nI 0)) dX12_text_135 (by decide) ?_
      refine Sx.istore_n (lv' := [(3, .int (nI 0)), (2, .int (nI (V 0 0))), (0, .ref 253), (1, .int (nI 2))]) dX12_text_136 (by decide) rfl ?_
      refine Sx.sub' [(3, .int (nI 0)), (0, .ref 253), (1, .int (nI 2))] rfl ?_
      refine l_tx137 (I0 := I31) (m := V 0 3) W (by rw [e31, upd_nj _ _ (by decide)]; exact M30.1.1.2.2.2.2.1) (by have := hG.2.2.1.1; omega) (fun K k1 k2 k3 => ?_) 61 0 (by decide) (by decide) I31 (fun _ _ => rfl) (fun z hz => by omega) (fun _ _ => rfl) (fun _ _ => rfl)
      refine Sx.aload_n dX12_text_173 rfl ?_
      refine Sx.getfR dX12_text_174 lkf_X12_58_12 (o_253 W) (r_253_25 W) ?_
      refine Sx.aload_n dX12_text_177 rfl ?_
      refine Sx.getfV (v := (nI (V 0 3))) dX12_text_178 lkf_X12_299_12 (o_253 W) (by rw [k3 253 (by decide), e31, upd_nj _ _ (by decide)]; exact M30.1.1.2.2.2.2.1) ?_
      refine Sx.aload_n dX12_text_181 rfl ?_
      refine Sx.getfR dX12_text_182 lkf_X12_58_12 (o_253 W) (r_253_25 W) ?_
      refine Sx.iconst (v := (nI 4)) dX12_text_185 (by decide) ?_
      refine Sx.ialdN dX12_text_186 (a_265 W) (by omega) (by decide) (v := (nI (cpN (V 1) (V 0 0) 20 0))) (by rw [k3 265 (by decide), o31 265 (by decide)]; exact hpl.1) ?_
      refine Sx.iastN dX12_text_187 (a_265 W) (by omega) (by decide) (fun I41 e41 o41 => ?_)
      refine Sx.aload_n dX12_text_188 rfl ?_
      refine Sx.dup dX12_text_189 rfl ?_
      refine Sx.getfV (v := (nI (V 0 3))) dX12_text_190 lkf_X12_299_12 (o_253 W) (by rw [o41 253 (by decide), k3 253 (by decide), e31, upd_nj _ _ (by decide)]; exact M30.1.1.2.2.2.2.1) ?_
      refine Sx.iconst (v := (nI 1)) dX12_text_193 (by decide) ?_
      refine Sx.iaddN dX12_text_194 ?_
      refine Sx.putfV dX12_text_195 lkp_X12_299_12 (o_253 W) rfl rfl (fun I42 e42 o42 => ?_)
      refine Sx.aload_n dX12_text_198 rfl ?_
      refine Sx.getfV (v := (nI (V 0 3 + 1))) dX12_text_199 lkf_X12_299_12 (o_253 W) (by rw [e42, upd_at]) ?_
      refine Sx.iconst (v := (nI 1)) dX12_text_202 (by decide) ?_
      refine Sx.isubN dX12_text_203 (by omega) ?_
      refine Sx.iret dX12_text_204 rfl rfl ?_
      have mm : MI (clV V) I42 L := M30.cl (I' := I42) ⟨hG.2.1.1, by have := hG.2.2.1.1; omega⟩ (cpN_le _ _ _ _) (by rw [e42, upd_nj _ _ (by decide), o41 253 (by decide), k3 253 (by decide), e31, upd_at]) (by rw [e42, upd_at]) (fun j j6 j7 js => by rw [e42, upd_nj _ _ j7, o41 253 (by decide), k3 253 (by decide), e31, upd_nj _ _ j6]) (fun z hz => by rw [o42 264 (by decide), o41 264 (by decide), k1 z hz, o31 264 (by decide)]) (fun z hz => by rw [o42 264 (by decide), o41 264 (by decide), k2 z (by have := cpN_le (V 1) (V 0 0) 20 0; omega), o31 264 (by decide), hpl.2 z hz]; exact (cl_c hok hz).1) (fun i hi => by rw [o42 265 (by decide), e41, upd_nj _ _ (by omega), k3 265 (by decide), o31 265 (by decide)]) (by rw [o42 265 (by decide), e41, upd_at]) (fun q q1 q2 q3 => by rw [o42 q q1, o41 q q3, k3 q q2, o31 q q1]) (fun i hi => (hG.2.2.1.2 i hi).1)
      have hc : sorC (nI 2) ∧ texC V (xN (nI 2)) := ⟨sor_2, by rw [xN_n (by decide)]; exact ⟨fun z => by omega, fun z => by omega, (fau_y hG.1.1).mp c49⟩⟩
      exact pXX (by unfold texR; rw [if_pos hc, xN_n (by decide), if_neg (by decide), if_neg (by decide)]; congr 1) (h I42 R30 L (by unfold texV; rw [if_pos hc, xN_n (by decide), if_neg (by decide), if_neg (by decide)]; exact mm) (hf30.tr (FM.i fun q hq => by rw [o42 q (by omega), o41 q (by omega), k3 q (by omega), o31 q (by omega)])))
    · refine Sx.iconst (v := (iI (-1))) dX12_text_52 (by decide) ?_
      refine Sx.iret dX12_text_53 rfl rfl ?_
      have hn : ¬ (sorC (nI 2) ∧ texC V (xN (nI 2))) := fun z => by obtain ⟨-, z1, z2, z3⟩ := z; rw [xN_n (by decide)] at z1 z2 z3; exact c49 ((fau_y hG.1.1).mpr z3)
      exact pXX (by unfold texR; rw [if_neg hn]; rfl) (h I30 R30 L (by unfold texV; rw [if_neg hn]; exact M30) hf30)
