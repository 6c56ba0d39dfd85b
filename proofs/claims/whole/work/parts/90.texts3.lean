/-! where readings end -/
theorem cpE_b (T : Nat → Nat) (n : Nat) : ∀ k c, cpE T n k c ≤ max n c + 4 * k + 3
  | 0, c => by unfold cpE; omega
  | k + 1, c => by
    have h1 := stpE_le T n c
    have h2 := (nx_b T n (stpE T n c)).2
    have h3 := cpE_b T n k (stpN T n c + 1)
    have h4 : stpN T n c = nx T n (stpE T n c) := rfl
    unfold cpE
    split
    · split <;> omega
    · omega
theorem itR_bd (T : Nat → Nat) (n kc : Nat) : ∀ q met c f, (itR T n kc q met c f).2.1 ≤ max n c + q + 1
  | 0, met, c, f => by unfold itR; show c ≤ _; omega
  | q + 1, met, c, f => by
    have h1 := (nx_b T n c).2
    unfold itR
    split
    · show nx T n c ≤ _; omega
    · split
      · show nx T n c ≤ _; omega
      · split
        · next g =>
          have h2 := rdP_b T n (nx T n c + 1) 2 (loN kc (itW T n kc c - 1)) (mostN kc (itW T n kc c - 1))
          rw [rdP_ok g] at h2
          refine Nat.le_trans (itR_bd T n kc q _ _ _) ?_
          omega
        · have h2 := rdP_b T n (nx T n c + 1) 2 (loN kc (itW T n kc c - 1)) (mostN kc (itW T n kc c - 1))
          show rdP T n (nx T n c + 1) 2 _ _ ≤ _
          omega
theorem cl1_b (T : Nat → Nat) (n c kc x : Nat) (Q : Nat → Nat) : (cl1 T n c kc x Q).2.1 ≤ max n c + 6 := by
  have h1 := (nx_b T n c).2
  have h2 := itR_bd T n kc 4 0 (nx T n c + 1) (usualN kc)
  unfold cl1
  show (itR T n kc 4 0 (nx T n c + 1) (usualN kc)).2.1 ≤ _
  omega
theorem clR_bd (T : Nat → Nat) (n c : Nat) (Q : Nat → Nat) : (clR T n c Q).2.1 ≤ max n c + 6 := by
  have h1 := (nx_b T n c).2
  unfold clR
  split
  · exact cl1_b _ _ _ _ _ _
  · split
    · exact cl1_b _ _ _ _ _ _
    · split
      · exact cl1_b _ _ _ _ _ _
      · show nx T n c ≤ _; omega
theorem ptR_b (T : Nat → Nat) (n : Nat) : ∀ k c Q, (ptR T n k c Q).2.1 ≤ max n c + 7 * k + 7
  | 0, c, Q => by unfold ptR; show c ≤ _; omega
  | k + 1, c, Q => by
    have h1 := clR_bd T n c Q
    have h2 := (nx_b T n (clR T n c Q).2.1).2
    unfold ptR
    split
    · split
      · show nx T n _ ≤ _; omega
      · split
        · refine Nat.le_trans (ptR_b T n k _ _) ?_; omega
        · show nx T n _ ≤ _; omega
    · show (clR T n c Q).2.1 ≤ _; omega
theorem sgn_lt {T : Nat → Nat} {n i : Nat} (h : sgn T n i ≠ 0) : i < n := by
  unfold sgn at h
  by_cases c : i < n
  · exact c
  · rw [if_neg c] at h; exact absurd rfl h
theorem plw_b {T : Nat → Nat} {n : Nat} {e : Nat → Int} {k : Nat} : ∀ q c o, c ≤ n → (plw T n e k q c o).2.1 ≤ n
  | 0, c, o, h => h
  | q + 1, c, o, h => by
    have h1 := pcl_q (T := T) (n := n) (e := e) (k := k) c h
    have h2 := (nx_b T n (pcl T n e k c).2.1).2
    unfold plw
    split
    · exact h1
    · split
      · next g =>
        have := sgn_lt (T := T) (n := n) (i := nx T n (pcl T n e k c).2.1) (by rw [g]; decide)
        exact plw_b q _ _ (by omega)
      · split
        · show nx T n _ ≤ n; omega
        · show nx T n _ ≤ n; omega
theorem fauP_b {V : Vt} {s : Nat} (h : V 0 0 ≤ 240) : (fauP V s).2 ≤ 1000 := by
  unfold fauP
  split
  · have := ptR_b (V 1) (V 0 0) 14 0 usQ; show (ptR (V 1) (V 0 0) 14 0 usQ).2.1 ≤ _; omega
  · split
    · have := plw_b (T := V 1) (n := V 0 0) (e := ezZ) (k := 4000) (V 0 0 + 1) 0 none (by omega); show (plw (V 1) (V 0 0) ezZ 4000 (V 0 0 + 1) 0 none).2.1 ≤ _; omega
    · have := cpE_b (V 1) (V 0 0) 20 0; show cpE (V 1) (V 0 0) 20 0 ≤ _; omega
theorem fau_y {V : Vt} {s : Nat} (h : V 0 0 ≤ 240) : (fauN V s).toInt = -1 ↔ (fauP V s).1 = true := by
  have hb := fauP_b (s := s) h
  unfold fauN
  by_cases c : (fauP V s).1 = true
  · rw [if_pos c]; exact ⟨fun _ => c, fun _ => by decide⟩
  · rw [if_neg c, nI_toInt (by omega)]; exact ⟨fun z => by omega, fun z => absurd z c⟩
theorem by8_w : ∀ b, b < 256 → (by8 b).toInt8.toInt32 = by8 b := by decide +kernel
set_option maxRecDepth 20000 in
set_option maxHeartbeats 1000000 in
theorem l_tx71 {G : Gt} {l : Launch} {Z : Zt} {R : Rt} {L : Lt} {post : Pt'} {I0 : It} {n m : Nat} {T : Nat → Nat} (W : WF Z R) (h7 : I0 253 7 = nI m) (hm : m < 4) (hn : n ≤ 240) (hT : ∀ j, j < n → I0 254 j = by8 (T j)) (hb : ∀ j, j < n → T j < 256) (h : ∀ I', (∀ z, z < 240 * m → I' 255 z = I0 255 z) → (∀ j, j < n → I' 255 (240 * m + j) = by8 (T j)) → (∀ q, q ≠ 255 → I' q = I0 q) → Sx G l mX12_text 34 0 0 103 [(0, .ref 253), (1, .int (nI 1)), (2, .int (nI n))] [] Z R I' L post) :
    ∀ (r j : Nat), j ≤ n → n < j + r → ∀ (I : It), (∀ z, z < 240 * m → I 255 z = I0 255 z) → (∀ z, z < j → I 255 (240 * m + z) = by8 (T z)) → (∀ q, q ≠ 255 → I q = I0 q) → Sx G l mX12_text 34 0 0 71 [(3, .int (nI j)), (0, .ref 253), (1, .int (nI 1)), (2, .int (nI n))] [] Z R I L post := by
  intro r
  induction r with
  | zero => intro j hj1 hj2; omega
  | succ r ih =>
    intro j hj1 hj2 I h1 h2 hI
    refine Sx.iload_n dX12_text_71 rfl ?_
    refine Sx.iload_n dX12_text_72 rfl ?_
    refine Sx.icmp_geV (t := 103) dX12_text_73 (by decide) (vN (by omega)) (vN (by omega)) (fun c73 => ?_) (fun c73 => ?_)
    · have hj : n = j := by omega
      subst hj
      refine Sx.sub' [(0, .ref 253), (1, .int (nI 1)), (2, .int (nI n))] rfl ?_
      exact h I h1 h2 hI
    · refine Sx.aload_n dX12_text_76 rfl ?_
      refine Sx.getfR dX12_text_77 lkf_X12_13_12 (o_253 W) (r_253_2 W) ?_
      refine Sx.sipush (v := (nI 240)) dX12_text_80 (by decide) ?_
      refine Sx.aload_n dX12_text_83 rfl ?_
      refine Sx.getfV (v := (nI m)) dX12_text_84 lkf_X12_296_12 (o_253 W) (by rw [hI 253 (by decide)]; exact h7) ?_
      refine Sx.imulN dX12_text_87 ?_
      refine Sx.iload_n dX12_text_88 rfl ?_
      refine Sx.iaddN dX12_text_89 ?_
      refine Sx.aload_n dX12_text_90 rfl ?_
      refine Sx.getfR dX12_text_91 lkf_X12_9_12 (o_253 W) (r_253_1 W) ?_
      refine Sx.iload_n dX12_text_94 rfl ?_
      refine Sx.baldN dX12_text_95 (a_254 W) (by omega) (by decide) (v := (by8 (T j))) (by rw [hI 254 (by decide)]; exact hT j (by omega)) ?_
      refine Sx.bastN dX12_text_96 (a_255 W) (by omega) (by decide) (fun I1 e1 o1 => ?_)
      refine Sx.iinc (v := (nI (j + 1))) (lv' := [(3, .int (nI (j + 1))), (0, .ref 253), (1, .int (nI 1)), (2, .int (nI n))]) dX12_text_97 rfl (nI_add j 1) (by decide) rfl ?_
      refine Sx.goto (t := 71) dX12_text_100 (by decide) ?_
      refine Sx.sub' [(3, .int (nI (j + 1))), (0, .ref 253), (1, .int (nI 1)), (2, .int (nI n))] rfl ?_
      refine ih (j + 1) (by omega) (by omega) I1 (fun z hz => ?_) (fun z hz => ?_) (fun q hq => (o1 q hq).trans (hI q hq))
      · rw [e1, upd_nj _ _ (by omega)]; exact h1 z hz
      · rw [e1]
        by_cases c : z = j
        · rw [c, upd_at]; exact by8_w _ (hb j (by omega))
        · rw [upd_nj _ _ (by omega)]; exact h2 z (by omega)
set_option maxRecDepth 20000 in
set_option maxHeartbeats 1000000 in
theorem k_text1 {G : Gt} {l : Launch} {Z : Zt} {R : Rt} {I : It} {L : Lt} {post : Pt'} {V : Vt} {N : Nat} (W : WF Z R) (hM : MI V I L) (hG : GV N V) (hN : N < 2147483647) (h : ∀ I' R' L', MI (texV V (nI 1)) I' L' → FM R I L R' I' L' → post (some (.int (texR V (nI 1)))) Z R' I' L') : Cx G l mX12_text 34 0 0 [.ref 253, .int (nI 1)] Z R I L post := by
  refine Cx.of (by decide +kernel) (by exact Nat.le_of_ble_eq_true rfl) ?_
  refine Sx.aload_n dX12_text_0 rfl ?_
  refine Sx.iconst (v := (nI 0)) dX12_text_1 (by decide) ?_
  refine Sx.putfV dX12_text_2 lkp_X12_109_12 (o_253 W) rfl rfl (fun I1 e1 o1 => ?_)
  have M1 := hM.th (j := 0) (by unfold sfJ; decide) e1 o1
  have hf1 : FM R I L R I1 L := FM.i fun q hq => o1 q (by omega)
  have hp6 := hG.p
  have hb := hG.b
  refine Sx.iload_n dX12_text_5 rfl ?_
  refine Sx.i2l dX12_text_6 ?_
  refine Sx.lconst (v := 0) dX12_text_7 (by decide) ?_
  refine Sx.ldc2 dX12_text_8 lkk_X12_285 ?_
  refine Sx.callS3 dX12_text_11 lkc_X12_230  (by decide) (by decide) (Nat.le_of_ble_eq_true rfl) rfl rfl (k_isIn (vLi (vN (by decide))) (show VL 0 0 from rfl) (show VL 2 2 from rfl) ?_)
  refine Sx.if_eqD (t := 52) dX12_text_14 (by decide) (fun c14 => False.elim (by omega)) (fun c14 => ?_)
  refine Sx.iload_n dX12_text_17 rfl ?_
  refine Sx.iconst (v := (nI 1)) dX12_text_18 (by decide) ?_
  refine Sx.icmp_neV (t := 30) dX12_text_19 (by decide) (vN (by decide)) (vN (by decide)) (fun c19 => False.elim (by omega)) (fun c19 => ?_)
  refine Sx.aload_n dX12_text_22 rfl ?_
  refine Sx.getfV (v := (nI (V 0 1))) dX12_text_23 lkf_X12_296_12 (o_253 W) M1.1.1.2.1 ?_
  refine Sx.iconst (v := (nI 4)) dX12_text_26 (by decide) ?_
  refine Sx.icmp_eqV (t := 52) dX12_text_27 (by decide) (vN (by omega)) (vN (by decide)) (fun c27 => ?_) (fun c27 => ?_)
  · refine Sx.iconst (v := (iI (-1))) dX12_text_52 (by decide) ?_
    refine Sx.iret dX12_text_53 rfl rfl ?_
    have hn : ¬ (sorC (nI 1) ∧ texC V (xN (nI 1))) := fun z => by obtain ⟨-, z1, z2, z3⟩ := z; rw [xN_n (by decide)] at z1 z2 z3; omega
    exact pXX (by unfold texR; rw [if_neg hn]; rfl) (h I1 R L (by unfold texV; rw [if_neg hn]; exact M1) hf1)
  · refine Sx.iload_n dX12_text_30 rfl ?_
    refine Sx.iconst (v := (nI 2)) dX12_text_31 (by decide) ?_
    refine Sx.icmp_neV (t := 43) dX12_text_32 (by decide) (vN (by decide)) (vN (by decide)) (fun c32 => ?_) (fun c32 => False.elim (by omega))
    refine Sx.aload_n dX12_text_43 rfl ?_
    refine Sx.iload_n dX12_text_44 rfl ?_
    refine Sx.callV1 dX12_text_45 lkv_X12_302 (rcv_12 (o_253 W)) (by decide) (by decide) (Nat.le_of_ble_eq_true rfl) rfl rfl (k_fault1 W M1 hG hN (fun I30 R30 M30 f30 x30 => ?_))
    have W := f30.wf W
    have hf30 := hf1.tr f30
    refine Sx.iconst (v := (iI (-1))) dX12_text_48 (by decide) ?_
    refine Sx.icmp_eqV (t := 54) dX12_text_49 (by decide) (vX (fauN V 1)) (vZ (by decide)) (fun c49 => ?_) (fun c49 => ?_)
    · refine Sx.aload_n dX12_text_54 rfl ?_
      refine Sx.getfV (v := (nI (V 0 0))) dX12_text_55 lkf_X12_122_12 (o_253 W) M30.1.1.1 ?_
      refine Sx.istore_n (lv' := [(2, .int (nI (V 0 0))), (0, .ref 253), (1, .int (nI 1))]) dX12_text_58 (by decide) rfl ?_
      refine Sx.aload_n dX12_text_59 rfl ?_
      refine Sx.iconst (v := (nI 0)) dX12_text_60 (by decide) ?_
      refine Sx.putfV dX12_text_61 lkp_X12_122_12 (o_253 W) rfl rfl (fun I31 e31 o31 => ?_)
      refine Sx.iload_n dX12_text_64 rfl ?_
      refine Sx.iconst (v := (nI 1)) dX12_text_65 (by decide) ?_
      refine Sx.icmp_neV (t := 130) dX12_text_66 (by decide) (vN (by decide)) (vN (by decide)) (fun c66 => False.elim (by omega)) (fun c66 => ?_)
      refine Sx.iconst (v := (nI 0)) dX12_text_69 (by decide) ?_
      refine Sx.istore_n (lv' := [(3, .int (nI 0)), (2, .int (nI (V 0 0))), (0, .ref 253), (1, .int (nI 1))]) dX12_text_70 (by decide) rfl ?_
      refine Sx.sub' [(3, .int (nI 0)), (0, .ref 253), (1, .int (nI 1)), (2, .int (nI (V 0 0)))] rfl ?_
      refine l_tx71 (I0 := I31) (m := V 0 1) (T := V 1) W (by rw [e31, upd_nj _ _ (by decide)]; exact M30.1.1.2.1) (by have := hG.2.1.1; omega) hG.1.1 (fun j hj => by rw [o31 254 (by decide)]; exact M30.1.2.1 j hj) (fun j hj => (hG.1.2 j hj).2) (fun K k1 k2 k3 => ?_) (V 0 0 + 1) 0 (by omega) (by omega) I31 (fun _ _ => rfl) (fun z hz => by omega) (fun _ _ => rfl)
      refine Sx.aload_n dX12_text_103 rfl ?_
      refine Sx.getfR dX12_text_104 lkf_X12_16_12 (o_253 W) (r_253_3 W) ?_
      refine Sx.aload_n dX12_text_107 rfl ?_
      refine Sx.getfV (v := (nI (V 0 1))) dX12_text_108 lkf_X12_296_12 (o_253 W) (by rw [k3 253 (by decide), e31, upd_nj _ _ (by decide)]; exact M30.1.1.2.1) ?_
      refine Sx.iload_n dX12_text_111 rfl ?_
      refine Sx.iastN dX12_text_112 (a_256 W) (by omega) (by decide) (fun I41 e41 o41 => ?_)
      refine Sx.aload_n dX12_text_113 rfl ?_
      refine Sx.dup dX12_text_114 rfl ?_
      refine Sx.getfV (v := (nI (V 0 1))) dX12_text_115 lkf_X12_296_12 (o_253 W) (by rw [o41 253 (by decide), k3 253 (by decide), e31, upd_nj _ _ (by decide)]; exact M30.1.1.2.1) ?_
      refine Sx.iconst (v := (nI 1)) dX12_text_118 (by decide) ?_
      refine Sx.iaddN dX12_text_119 ?_
      refine Sx.putfV dX12_text_120 lkp_X12_296_12 (o_253 W) rfl rfl (fun I42 e42 o42 => ?_)
      refine Sx.aload_n dX12_text_123 rfl ?_
      refine Sx.getfV (v := (nI (V 0 1 + 1))) dX12_text_124 lkf_X12_296_12 (o_253 W) (by rw [e42, upd_at]) ?_
      refine Sx.iconst (v := (nI 1)) dX12_text_127 (by decide) ?_
      refine Sx.isubN dX12_text_128 (by omega) ?_
      refine Sx.iret dX12_text_129 rfl rfl ?_
      have mm : MI (lwV V) I42 L := M30.lw (I' := I42) ⟨by have := hG.2.1.1; omega, hG.2.2.1.1, hG.1.1⟩ (by rw [e42, upd_nj _ _ (by decide), o41 253 (by decide), k3 253 (by decide), e31, upd_at]) (by rw [e42, upd_at]) (fun j j6 j7 js => by rw [e42, upd_nj _ _ j7, o41 253 (by decide), k3 253 (by decide), e31, upd_nj _ _ j6]) (fun z hz => by rw [o42 255 (by decide), o41 255 (by decide), k1 z hz, o31 255 (by decide)]) (fun j hj => by rw [o42 255 (by decide), o41 255 (by decide)]; exact k2 j hj) (fun i hi => by rw [o42 256 (by decide), e41, upd_nj _ _ (by omega), k3 256 (by decide), o31 256 (by decide)]) (by rw [o42 256 (by decide), e41, upd_at]) (fun q q1 q2 q3 => by rw [o42 q q1, o41 q q3, k3 q q2, o31 q q1]) (fun i hi => (hG.2.1.2.2 i hi).1)
      have hc : sorC (nI 1) ∧ texC V (xN (nI 1)) := ⟨sor_1, by rw [xN_n (by decide)]; exact ⟨fun z => by omega, fun z => by omega, (fau_y hG.1.1).mp c49⟩⟩
      exact pXX (by unfold texR; rw [if_pos hc, xN_n (by decide), if_neg (by decide), if_pos rfl]; congr 1) (h I42 R30 L (by unfold texV; rw [if_pos hc, xN_n (by decide), if_neg (by decide), if_pos rfl]; exact mm) (hf30.tr (FM.i fun q hq => by rw [o42 q (by omega), o41 q (by omega), k3 q (by omega), o31 q (by omega)])))
    · refine Sx.iconst (v := (iI (-1))) dX12_text_52 (by decide) ?_
      refine Sx.iret dX12_text_53 rfl rfl ?_
      have hn : ¬ (sorC (nI 1) ∧ texC V (xN (nI 1))) := fun z => by obtain ⟨-, z1, z2, z3⟩ := z; rw [xN_n (by decide)] at z1 z2 z3; exact c49 ((fau_y hG.1.1).mpr z3)
      exact pXX (by unfold texR; rw [if_neg hn]; rfl) (h I30 R30 L (by unfold texV; rw [if_neg hn]; exact M30) hf30)
