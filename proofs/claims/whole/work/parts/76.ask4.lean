/-! the reference: what is seen, undo, pictures, counts -/
def snV (V : Vt) (n v b : Nat) : Vt := vs (vs (vs (vs V 6 (V 0 7) n) 7 (V 0 7) v) 8 (V 0 7) b) 0 7 (V 0 7 + 1)
abbrev seenC (V : Vt) (x y : Int32) : Prop := V 2 35 ≠ 0 ∧ (1 ≤ x.toInt ∧ x.toInt ≤ 60) ∧ (0 ≤ y.toInt ∧ y.toInt ≤ 999) ∧ V 0 7 ≠ 10
def seenV (V : Vt) (x y : Int32) (b : Bool) : Vt := if seenC V x y then snV V (xN x) (xN y) (if b then 1 else 0) else V
def seenR (V : Vt) (x y : Int32) : Int32 := if seenC V x y then nI (V 0 7 + 1) else -1
theorem sn_0 (V : Vt) (n v b : Nat) {q : Nat} (h : q ≠ 7) : snV V n v b 0 q = V 0 q := by unfold snV; rw [vs_c _ h, vs_o _ (by decide), vs_o _ (by decide), vs_o _ (by decide)]
theorem sn_7 (V : Vt) (n v b : Nat) : snV V n v b 0 7 = V 0 7 + 1 := by unfold snV; rw [vs_a]
theorem sn_o (V : Vt) (n v b : Nat) {p : Nat} (h0 : p ≠ 0) (h6 : p ≠ 6) (h7 : p ≠ 7) (h8 : p ≠ 8) : snV V n v b p = V p := by unfold snV; rw [vs_o _ h0, vs_o _ h8, vs_o _ h7, vs_o _ h6]
theorem MI.sn {V : Vt} {I I' : It} {L : Lt} {n v b : Nat} (h : MI V I L) (e : I' 253 = upd (I 253) 45 (nI (V 0 7 + 1))) (o : ∀ q, q ≠ 253 → q ≠ 273 → I' q = I q) (s : I' 273 = upd (upd (upd (I 273) (3 * V 0 7) (nI n)) (3 * V 0 7 + 1) (nI v)) (3 * V 0 7 + 2) (nI b)) : MI (snV V n v b) I' L := by
  obtain ⟨⟨a1, a2, a3, a4, a5, a6, a7, a8, a9, a10, a11⟩, c⟩ := h
  have r : ∀ p, p ≠ 0 → p ≠ 6 → p ≠ 7 → p ≠ 8 → snV V n v b p = V p := fun p h0 h6 h7 h8 => sn_o V n v b h0 h6 h7 h8
  refine ⟨⟨?_, ?_, ?_, ?_, ?_, ?_, ?_, ?_, ?_, ?_, ?_⟩, ?_⟩
  · obtain ⟨m1, m2, m3, m4, m5, m6, m7, m8, m9, m10⟩ := a1
    rw [e]
    unfold MFd
    rw [sn_7, sn_0 V n v b (show 0 ≠ 7 by decide), sn_0 V n v b (show 1 ≠ 7 by decide), sn_0 V n v b (show 2 ≠ 7 by decide), sn_0 V n v b (show 3 ≠ 7 by decide), sn_0 V n v b (show 4 ≠ 7 by decide), sn_0 V n v b (show 5 ≠ 7 by decide), sn_0 V n v b (show 6 ≠ 7 by decide), r 2 (by decide) (by decide) (by decide) (by decide)]
    refine ⟨?_, ?_, ?_, ?_, ?_, ?_, ?_, ?_, ?_, ?_⟩
    all_goals first | (rw [upd_at]) | (rw [upd_nj _ _ (by decide)]; assumption)
  · unfold MTp; rw [o 254 (by decide) (by decide), sn_0 V n v b (by decide), r 1 (by decide) (by decide) (by decide) (by decide)]; exact a2
  · rw [o 255 (by decide) (by decide), o 256 (by decide) (by decide)]; intro i hi; rw [sn_0 V n v b (by decide)] at hi; rw [r (10 + i) (by omega) (by omega) (by omega) (by omega)]; exact a3 i hi
  · rw [o 258 (by decide) (by decide), o 260 (by decide) (by decide), o 262 (by decide) (by decide), r 2 (by decide) (by decide) (by decide) (by decide)]; exact a4
  · rw [o 264 (by decide) (by decide), o 265 (by decide) (by decide)]; intro i hi; rw [sn_0 V n v b (by decide)] at hi; rw [r (20 + i) (by omega) (by omega) (by omega) (by omega)]; exact a5 i hi
  · rw [o 268 (by decide) (by decide), r 4 (by decide) (by decide) (by decide) (by decide)]; exact a6
  · rw [o 271 (by decide) (by decide)]; intro i hi; rw [sn_0 V n v b (by decide)] at hi ⊢; rw [r (30 + i) (by omega) (by omega) (by omega) (by omega)]; exact a7 i hi
  · rw [s]
    intro i hi
    rw [sn_7] at hi
    have e6 : snV V n v b 6 = upn (V 6) (V 0 7) n := by unfold snV; rw [vs_o _ (by decide), vs_o _ (by decide), vs_o _ (by decide)]; unfold vs; rw [if_pos rfl]
    have e7 : snV V n v b 7 = upn (V 7) (V 0 7) v := by unfold snV; rw [vs_o _ (by decide), vs_o _ (by decide)]; unfold vs; rw [if_pos rfl, if_neg (by decide)]
    have e8 : snV V n v b 8 = upn (V 8) (V 0 7) b := by unfold snV; rw [vs_o _ (by decide)]; unfold vs; rw [if_pos rfl, if_neg (by decide), if_neg (by decide)]
    rw [e6, e7, e8]
    by_cases q : i = V 0 7
    · subst q
      rw [upn_eq, upn_eq, upn_eq]
      exact ⟨by rw [upd_nj _ _ (by omega), upd_nj _ _ (by omega), upd_at], by rw [upd_nj _ _ (by omega), upd_at], by rw [upd_at]⟩
    · rw [upn_ne _ _ q, upn_ne _ _ q, upn_ne _ _ q, upd_nj _ _ (by omega), upd_nj _ _ (by omega), upd_nj _ _ (by omega), upd_nj _ _ (by omega), upd_nj _ _ (by omega), upd_nj _ _ (by omega), upd_nj _ _ (by omega), upd_nj _ _ (by omega), upd_nj _ _ (by omega)]
      exact a8 i (by omega)
  · rw [o 278 (by decide) (by decide)]; intro z; rw [sn_0 V n v b (by decide)] at z; rw [r 5 (by decide) (by decide) (by decide) (by decide)]; exact a9 z
  · rw [o 257 (by decide) (by decide)]; exact a10
  · rw [o 270 (by decide) (by decide)]
    intro s hs
    rcases a11 s hs with z | ⟨li, d, e, g, u, y, rr, h1, h2, h3, h4, h5, h6, h7, h8, h9⟩
    · exact Or.inl z
    · exact Or.inr ⟨li, d, e, g, u, y, rr, by rw [sn_0 V n v b (by decide)]; exact h1, h2, h3, h4, h5, h6, h7, h8, by rw [r (10 + li) (by omega) (by omega) (by omega) (by omega)]; exact h9⟩
  · rw [o 266 (by decide) (by decide), r 3 (by decide) (by decide) (by decide) (by decide)]; exact c
set_option maxRecDepth 20000 in
set_option maxHeartbeats 1000000 in
theorem k_seen {G : Gt} {l : Launch} {Z : Zt} {R : Rt} {I : It} {L : Lt} {post : Pt'} {V : Vt} {N : Nat} {x y : Int32} {b : Bool} (W : WF Z R) (hM : MI V I L) (hG : GV N V) (hN : N < 2147483647) (h : ∀ I' R' L', MI (seenV V x y b) I' L' → FM R I L R' I' L' → post (some (.int (seenR V x y))) Z R' I' L') : Cx G l mX12_seen 2 0 0 [.ref 253, .int x, .int y, .int (b2i b)] Z R I L post := by
  refine Cx.of (by decide +kernel) (by exact Nat.le_of_ble_eq_true rfl) ?_
  refine Sx.aload_n dX12_seen_0 rfl ?_
  refine Sx.iconst (v := (nI 0)) dX12_seen_1 (by decide) ?_
  refine Sx.putfV dX12_seen_2 lkp_X12_109_12 (o_253 W) rfl rfl (fun I1 e1 o1 => ?_)
  have M1 := hM.th (j := 0) (by unfold sfJ; decide) e1 o1
  have hf1 : FM R I L R I1 L := FM.i fun q hq => o1 q (by omega)
  have hp6 := hG.p
  have hb := hG.b
  have hB := hG.bnd
  have h7 := hG.2.2.2.1.2.2.2
  refine Sx.aload_n dX12_seen_5 rfl ?_
  refine Sx.getfV (v := (nI (V 2 35))) dX12_seen_6 lkf_X12_307_12 (o_253 W) M1.1.1.2.2.2.1 ?_
  refine Sx.if_eqV (t := 45) dX12_seen_9 (by decide) (vN (by omega)) (fun c9 => ?_) (fun c9 => ?_)
  · refine Sx.iconst (v := (iI (-1))) dX12_seen_45 (by decide) ?_
    refine Sx.iret dX12_seen_46 rfl rfl ?_
    have hn : ¬ seenC V x y := fun z => by omega
    refine pXX (by unfold seenR; rw [if_neg hn]; rfl) (h I1 R L (by unfold seenV; rw [if_neg hn]; exact M1) hf1)
  · refine Sx.iload_n dX12_seen_12 rfl ?_
    refine Sx.i2l dX12_seen_13 ?_
    refine Sx.lconst (v := 1) dX12_seen_14 (by decide) ?_
    refine Sx.ldc2 dX12_seen_15 lkk_X12_424 ?_
    refine Sx.callS3 dX12_seen_18 lkc_X12_230  (by decide) (by decide) (Nat.le_of_ble_eq_true rfl) rfl rfl (k_isIn (vLi (vX x)) (show VL 1 1 from rfl) (show VL 60 60 from rfl) ?_)
    refine Sx.if_eqD (t := 45) dX12_seen_21 (by decide) (fun c21 => ?_) (fun c21 => ?_)
    · refine Sx.iconst (v := (iI (-1))) dX12_seen_45 (by decide) ?_
      refine Sx.iret dX12_seen_46 rfl rfl ?_
      have hn : ¬ seenC V x y := fun z => by omega
      refine pXX (by unfold seenR; rw [if_neg hn]; rfl) (h I1 R L (by unfold seenV; rw [if_neg hn]; exact M1) hf1)
    · refine Sx.iload_n dX12_seen_24 rfl ?_
      refine Sx.i2l dX12_seen_25 ?_
      refine Sx.lconst (v := 0) dX12_seen_26 (by decide) ?_
      refine Sx.ldc2 dX12_seen_27 lkk_X12_460 ?_
      refine Sx.callS3 dX12_seen_30 lkc_X12_230  (by decide) (by decide) (Nat.le_of_ble_eq_true rfl) rfl rfl (k_isIn (vLi (vX y)) (show VL 0 0 from rfl) (show VL 999 999 from rfl) ?_)
      refine Sx.if_eqD (t := 45) dX12_seen_33 (by decide) (fun c33 => ?_) (fun c33 => ?_)
      · refine Sx.iconst (v := (iI (-1))) dX12_seen_45 (by decide) ?_
        refine Sx.iret dX12_seen_46 rfl rfl ?_
        have hn : ¬ seenC V x y := fun z => by omega
        refine pXX (by unfold seenR; rw [if_neg hn]; rfl) (h I1 R L (by unfold seenV; rw [if_neg hn]; exact M1) hf1)
      · refine Sx.aload_n dX12_seen_36 rfl ?_
        refine Sx.getfV (v := (nI (V 0 7))) dX12_seen_37 lkf_X12_314_12 (o_253 W) M1.1.1.2.2.2.2.2.2.2.2.1 ?_
        refine Sx.bipush (v := (nI 10)) dX12_seen_40 (by decide) ?_
        refine Sx.icmp_neV (t := 47) dX12_seen_42 (by decide) (vN (by omega)) (vN (by decide)) (fun c42 => ?_) (fun c42 => ?_)
        · have hc : seenC V x y := ⟨by omega, ⟨by omega, by omega⟩, ⟨by omega, by omega⟩, by omega⟩
          obtain ⟨p, rfl, hp⟩ := x_ex (x := x) (n := 61) ⟨by omega, by omega⟩
          obtain ⟨q, rfl, hq⟩ := x_ex (x := y) (n := 1000) ⟨by omega, by omega⟩
          refine Sx.sub' [(0, .ref 253), (1, .int (nI p)), (2, .int (nI q)), (3, .int (b2i b))] rfl ?_
          refine Sx.aload_n dX12_seen_47 rfl ?_
          refine Sx.getfR dX12_seen_48 lkf_X12_90_12 (o_253 W) (r_253_44 W) ?_
          refine Sx.iconst (v := (nI 3)) dX12_seen_51 (by decide) ?_
          refine Sx.aload_n dX12_seen_52 rfl ?_
          refine Sx.getfV (v := (nI (V 0 7))) dX12_seen_53 lkf_X12_314_12 (o_253 W) M1.1.1.2.2.2.2.2.2.2.2.1 ?_
          refine Sx.imulN dX12_seen_56 ?_
          refine Sx.iload_n dX12_seen_57 rfl ?_
          refine Sx.iastN dX12_seen_58 (a_273 W) (by omega) (by decide) (fun I2 e2 o2 => ?_)
          refine Sx.aload_n dX12_seen_59 rfl ?_
          refine Sx.getfR dX12_seen_60 lkf_X12_90_12 (o_253 W) (r_253_44 W) ?_
          refine Sx.iconst (v := (nI 3)) dX12_seen_63 (by decide) ?_
          refine Sx.aload_n dX12_seen_64 rfl ?_
          refine Sx.getfV (v := (nI (V 0 7))) dX12_seen_65 lkf_X12_314_12 (o_253 W) (by rw [o2 253 (by decide)]; exact M1.1.1.2.2.2.2.2.2.2.2.1) ?_
          refine Sx.imulN dX12_seen_68 ?_
          refine Sx.iconst (v := (nI 1)) dX12_seen_69 (by decide) ?_
          refine Sx.iaddN dX12_seen_70 ?_
          refine Sx.iload_n dX12_seen_71 rfl ?_
          refine Sx.iastN dX12_seen_72 (a_273 W) (by omega) (by decide) (fun I3 e3 o3 => ?_)
          refine Sx.aload_n dX12_seen_73 rfl ?_
          refine Sx.getfR dX12_seen_74 lkf_X12_90_12 (o_253 W) (r_253_44 W) ?_
          refine Sx.iconst (v := (nI 3)) dX12_seen_77 (by decide) ?_
          refine Sx.aload_n dX12_seen_78 rfl ?_
          refine Sx.getfV (v := (nI (V 0 7))) dX12_seen_79 lkf_X12_314_12 (o_253 W) (by rw [o3 253 (by decide), o2 253 (by decide)]; exact M1.1.1.2.2.2.2.2.2.2.2.1) ?_
          refine Sx.imulN dX12_seen_82 ?_
          refine Sx.iconst (v := (nI 2)) dX12_seen_83 (by decide) ?_
          refine Sx.iaddN dX12_seen_84 ?_
          refine Sx.iload_n dX12_seen_85 rfl ?_
          refine Sx.if_eqB (t := 93) dX12_seen_86 (by decide) (fun c86 => ?_) (fun c86 => ?_)
          · refine Sx.iconst (v := (nI 0)) dX12_seen_93 (by decide) ?_
            refine Sx.iastN dX12_seen_94 (a_273 W) (by omega) (by decide) (fun I4 e4 o4 => ?_)
            refine Sx.aload_n dX12_seen_95 rfl ?_
            refine Sx.dup dX12_seen_96 rfl ?_
            refine Sx.getfV (v := (nI (V 0 7))) dX12_seen_97 lkf_X12_314_12 (o_253 W) (by rw [o4 253 (by decide), o3 253 (by decide), o2 253 (by decide)]; exact M1.1.1.2.2.2.2.2.2.2.2.1) ?_
            refine Sx.iconst (v := (nI 1)) dX12_seen_100 (by decide) ?_
            refine Sx.iaddN dX12_seen_101 ?_
            refine Sx.putfV dX12_seen_102 lkp_X12_314_12 (o_253 W) rfl rfl (fun I5 e5 o5 => ?_)
            refine Sx.aload_n dX12_seen_105 rfl ?_
            refine Sx.getfV (v := (nI (V 0 7 + 1))) dX12_seen_106 lkf_X12_314_12 (o_253 W) (by rw [e5, upd_at]) ?_
            refine Sx.iret dX12_seen_109 rfl rfl ?_
            have mm := M1.sn (I' := I5) (n := p) (v := q) (b := 0) (by rw [e5, o4 253 (by decide), o3 253 (by decide), o2 253 (by decide)]) (fun z z1 z2 => by rw [o5 z z1, o4 z z2, o3 z z2, o2 z z2]) (by rw [o5 273 (by decide), e4, e3, e2])
            refine pXX (by unfold seenR; rw [if_pos hc]) (h I5 R L (by unfold seenV; rw [if_pos hc, xN_n (by omega), xN_n (by omega), if_neg (by rw [c86]; decide)]; exact mm) (hf1.tr (FM.i fun z hz => by rw [o5 z (by omega), o4 z (by omega), o3 z (by omega), o2 z (by omega)])))
          · refine Sx.iconst (v := (nI 1)) dX12_seen_89 (by decide) ?_
            refine Sx.goto (t := 94) dX12_seen_90 (by decide) ?_
            refine Sx.iastN dX12_seen_94 (a_273 W) (by omega) (by decide) (fun I6 e6 o6 => ?_)
            refine Sx.aload_n dX12_seen_95 rfl ?_
            refine Sx.dup dX12_seen_96 rfl ?_
            refine Sx.getfV (v := (nI (V 0 7))) dX12_seen_97 lkf_X12_314_12 (o_253 W) (by rw [o6 253 (by decide), o3 253 (by decide), o2 253 (by decide)]; exact M1.1.1.2.2.2.2.2.2.2.2.1) ?_
            refine Sx.iconst (v := (nI 1)) dX12_seen_100 (by decide) ?_
            refine Sx.iaddN dX12_seen_101 ?_
            refine Sx.putfV dX12_seen_102 lkp_X12_314_12 (o_253 W) rfl rfl (fun I7 e7 o7 => ?_)
            refine Sx.aload_n dX12_seen_105 rfl ?_
            refine Sx.getfV (v := (nI (V 0 7 + 1))) dX12_seen_106 lkf_X12_314_12 (o_253 W) (by rw [e7, upd_at]) ?_
            refine Sx.iret dX12_seen_109 rfl rfl ?_
            have mm := M1.sn (I' := I7) (n := p) (v := q) (b := 1) (by rw [e7, o6 253 (by decide), o3 253 (by decide), o2 253 (by decide)]) (fun z z1 z2 => by rw [o7 z z1, o6 z z2, o3 z z2, o2 z z2]) (by rw [o7 273 (by decide), e6, e3, e2])
            refine pXX (by unfold seenR; rw [if_pos hc]) (h I7 R L (by unfold seenV; rw [if_pos hc, xN_n (by omega), xN_n (by omega), if_pos c86]; exact mm) (hf1.tr (FM.i fun z hz => by rw [o7 z (by omega), o6 z (by omega), o3 z (by omega), o2 z (by omega)])))
        · refine Sx.iconst (v := (iI (-1))) dX12_seen_45 (by decide) ?_
          refine Sx.iret dX12_seen_46 rfl rfl ?_
          have hn : ¬ seenC V x y := fun z => by omega
          refine pXX (by unfold seenR; rw [if_neg hn]; rfl) (h I1 R L (by unfold seenV; rw [if_neg hn]; exact M1) hf1)
set_option maxRecDepth 20000 in
set_option maxHeartbeats 1000000 in
theorem l_image {G : Gt} {l : Launch} {Z : Zt} {R : Rt} {L : Lt} {post : Pt'} {I0 : It} {a : Nat} (W : WF Z R)  (h : ∀ I', (∀ z, z < 417 → I' 278 z = I0 266 (z)) → (∀ q, q ≠ 278 → I' q = I0 q) → Sx G l mX12_image 2 0 0 41 [(0, .ref 253)] [] Z R I' L post) :
    ∀ (k j : Nat), j ≤ 417 → 417 < j + k → ∀ (I : It), (∀ z, z < j → I 278 z = I0 266 (z)) → (∀ q, q ≠ 278 → I q = I0 q) → Sx G l mX12_image 2 0 0 16 [(1, .int (nI j)), (0, .ref 253)] [] Z R I L post := by
  intro k
  induction k with
  | zero => intro j h1 h2; omega
  | succ k ih =>
    intro j h1 h2 I hc hI
    refine Sx.iload_n dX12_image_16 rfl ?_
    refine Sx.sipush (v := (nI 417)) dX12_image_17 (by decide) ?_
    refine Sx.icmp_geV (t := 41) dX12_image_20 (by decide) (vN (by omega)) (vN (by decide)) (fun c20 => ?_) (fun c20 => ?_)
    · have hj : j = 417 := by omega
      subst hj
      refine Sx.sub' [(0, .ref 253)] rfl ?_
      exact h I (fun z hz => hc z hz) hI
    · refine Sx.aload_n dX12_image_23 rfl ?_
      refine Sx.getfR dX12_image_24 lkf_X12_106_12 (o_253 W) (r_253_50 W) ?_
      refine Sx.iload_n dX12_image_27 rfl ?_
      refine Sx.aload_n dX12_image_28 rfl ?_
      refine Sx.getfR dX12_image_29 lkf_X12_61_12 (o_253 W) (r_253_32 W) ?_
      refine Sx.iload_n dX12_image_32 rfl ?_
      refine Sx.ialdN dX12_image_33 (a_266 W) (by omega) (by decide) (v := (I0 266 (j))) (by rw [hI 266 (by decide)]) ?_
      refine Sx.iastN dX12_image_34 (a_278 W) (by omega) (by decide) (fun I1 e1 o1 => ?_)
      refine Sx.iinc (v := (nI (j + 1))) (lv' := [(1, .int (nI (j + 1))), (0, .ref 253)]) dX12_image_35 rfl (nI_add j 1) (by decide) rfl ?_
      refine Sx.goto (t := 16) dX12_image_38 (by decide) ?_
      refine Sx.sub' [(1, .int (nI (j + 1))), (0, .ref 253)] rfl ?_
      refine ih (j + 1) (by omega) (by omega) I1 (fun z hz => ?_) (fun q hq => (o1 q hq).trans (hI q hq))
      rw [e1]
      by_cases q : z = j
      · rw [q, upd_at]
      · rw [upd_nj _ _ (by omega)]; exact hc z (by omega)
set_option maxRecDepth 20000 in
set_option maxHeartbeats 1000000 in
theorem l_back {G : Gt} {l : Launch} {Z : Zt} {R : Rt} {L : Lt} {post : Pt'} {I0 : It} {a : Nat} (W : WF Z R)  (h : ∀ I', (∀ z, z < 417 → I' 266 z = I0 278 (z)) → (∀ q, q ≠ 266 → I' q = I0 q) → Sx G l mX12_back 2 0 0 41 [(0, .ref 253)] [] Z R I' L post) :
    ∀ (k j : Nat), j ≤ 417 → 417 < j + k → ∀ (I : It), (∀ z, z < j → I 266 z = I0 278 (z)) → (∀ q, q ≠ 266 → I q = I0 q) → Sx G l mX12_back 2 0 0 16 [(1, .int (nI j)), (0, .ref 253)] [] Z R I L post := by
  intro k
  induction k with
  | zero => intro j h1 h2; omega
  | succ k ih =>
    intro j h1 h2 I hc hI
    refine Sx.iload_n dX12_back_16 rfl ?_
    refine Sx.sipush (v := (nI 417)) dX12_back_17 (by decide) ?_
    refine Sx.icmp_geV (t := 41) dX12_back_20 (by decide) (vN (by omega)) (vN (by decide)) (fun c20 => ?_) (fun c20 => ?_)
    · have hj : j = 417 := by omega
      subst hj
      refine Sx.sub' [(0, .ref 253)] rfl ?_
      exact h I (fun z hz => hc z hz) hI
    · refine Sx.aload_n dX12_back_23 rfl ?_
      refine Sx.getfR dX12_back_24 lkf_X12_61_12 (o_253 W) (r_253_32 W) ?_
      refine Sx.iload_n dX12_back_27 rfl ?_
      refine Sx.aload_n dX12_back_28 rfl ?_
      refine Sx.getfR dX12_back_29 lkf_X12_106_12 (o_253 W) (r_253_50 W) ?_
      refine Sx.iload_n dX12_back_32 rfl ?_
      refine Sx.ialdN dX12_back_33 (a_278 W) (by omega) (by decide) (v := (I0 278 (j))) (by rw [hI 278 (by decide)]) ?_
      refine Sx.iastN dX12_back_34 (a_266 W) (by omega) (by decide) (fun I1 e1 o1 => ?_)
      refine Sx.iinc (v := (nI (j + 1))) (lv' := [(1, .int (nI (j + 1))), (0, .ref 253)]) dX12_back_35 rfl (nI_add j 1) (by decide) rfl ?_
      refine Sx.goto (t := 16) dX12_back_38 (by decide) ?_
      refine Sx.sub' [(1, .int (nI (j + 1))), (0, .ref 253)] rfl ?_
      refine ih (j + 1) (by omega) (by omega) I1 (fun z hz => ?_) (fun q hq => (o1 q hq).trans (hI q hq))
      rw [e1]
      by_cases q : z = j
      · rw [q, upd_at]
      · rw [upd_nj _ _ (by omega)]; exact hc z (by omega)
set_option maxRecDepth 20000 in
set_option maxHeartbeats 1000000 in
theorem l_undo {G : Gt} {l : Launch} {Z : Zt} {R : Rt} {L : Lt} {post : Pt'} {I0 : It} {a : Nat} (W : WF Z R) (ha : I0 253 41 = nI a) (ha9 : a ≤ 39) (h : ∀ I', (∀ z, z < 417 → I' 266 z = I0 271 (417 * a + z)) → (∀ q, q ≠ 266 → I' q = I0 q) → Sx G l mX12_undo 2 0 0 60 [(0, .ref 253)] [] Z R I' L post) :
    ∀ (k j : Nat), j ≤ 417 → 417 < j + k → ∀ (I : It), (∀ z, z < j → I 266 z = I0 271 (417 * a + z)) → (∀ q, q ≠ 266 → I q = I0 q) → Sx G l mX12_undo 2 0 0 26 [(1, .int (nI j)), (0, .ref 253)] [] Z R I L post := by
  intro k
  induction k with
  | zero => intro j h1 h2; omega
  | succ k ih =>
    intro j h1 h2 I hc hI
    refine Sx.iload_n dX12_undo_26 rfl ?_
    refine Sx.sipush (v := (nI 417)) dX12_undo_27 (by decide) ?_
    refine Sx.icmp_geV (t := 60) dX12_undo_30 (by decide) (vN (by omega)) (vN (by decide)) (fun c30 => ?_) (fun c30 => ?_)
    · have hj : j = 417 := by omega
      subst hj
      refine Sx.sub' [(0, .ref 253)] rfl ?_
      exact h I (fun z hz => hc z hz) hI
    · refine Sx.aload_n dX12_undo_33 rfl ?_
      refine Sx.getfR dX12_undo_34 lkf_X12_61_12 (o_253 W) (r_253_32 W) ?_
      refine Sx.iload_n dX12_undo_37 rfl ?_
      refine Sx.aload_n dX12_undo_38 rfl ?_
      refine Sx.getfR dX12_undo_39 lkf_X12_84_12 (o_253 W) (r_253_40 W) ?_
      refine Sx.sipush (v := (nI 417)) dX12_undo_42 (by decide) ?_
      refine Sx.aload_n dX12_undo_45 rfl ?_
      refine Sx.getfV (v := (nI a)) dX12_undo_46 lkf_X12_317_12 (o_253 W) (by rw [hI 253 (by decide)]; exact ha) ?_
      refine Sx.imulN dX12_undo_49 ?_
      refine Sx.iload_n dX12_undo_50 rfl ?_
      refine Sx.iaddN dX12_undo_51 ?_
      refine Sx.ialdN dX12_undo_52 (a_271 W) (by omega) (by decide) (v := (I0 271 (417 * a + j))) (by rw [hI 271 (by decide)]) ?_
      refine Sx.iastN dX12_undo_53 (a_266 W) (by omega) (by decide) (fun I1 e1 o1 => ?_)
      refine Sx.iinc (v := (nI (j + 1))) (lv' := [(1, .int (nI (j + 1))), (0, .ref 253)]) dX12_undo_54 rfl (nI_add j 1) (by decide) rfl ?_
      refine Sx.goto (t := 26) dX12_undo_57 (by decide) ?_
      refine Sx.sub' [(1, .int (nI (j + 1))), (0, .ref 253)] rfl ?_
      refine ih (j + 1) (by omega) (by omega) I1 (fun z hz => ?_) (fun q hq => (o1 q hq).trans (hI q hq))
      rw [e1]
      by_cases q : z = j
      · rw [q, upd_at]
      · rw [upd_nj _ _ (by omega)]; exact hc z (by omega)
def imgV (V : Vt) : Vt := if V 2 35 ≠ 0 then imV V else V
def imgR (V : Vt) : Int32 := if V 2 35 ≠ 0 then nI (V 3 145) else -1
def bacV (V : Vt) : Vt := if V 0 5 ≠ 0 then bkV V else V
def bacR (V : Vt) : Int32 := if V 0 5 ≠ 0 then nI (V 5 145) else -1
def undV (V : Vt) : Vt := if V 0 4 ≠ 0 then unV V else V
def undR (V : Vt) : Int32 := if V 0 4 ≠ 0 then nI (V 0 4 - 1) else -1
theorem MI.im {V : Vt} {I I' : It} {L : Lt} (h : MI V I L) (hb : V 0 1 ≤ 4 ∧ V 0 3 ≤ 4) (g : ∀ z, z < 417 → I' 278 z = I 266 z) (e : I' 253 = upd (I 253) 51 (nI 1)) (o : ∀ q, q ≠ 253 → q ≠ 278 → I' q = I q) : MI (imV V) I' L := by
  have c : ∀ q, q ≠ 5 → imV V 0 q = V 0 q := fun q hq => by unfold imV; rw [vr_o _ _ (by decide), vs_c _ hq]
  have c5 : imV V 0 5 = 1 := by unfold imV; rw [vr_o _ _ (by decide), vs_a]
  have r : ∀ p, p ≠ 0 → p ≠ 5 → imV V p = V p := fun p h0 h5 => by unfold imV; rw [vr_o _ _ h5, vs_o _ h0]
  refine ⟨h.1.mv hb (h.1.1.c4 (by rw [e, upd_nj _ _ (by decide), c 4 (by decide)]; exact h.1.1.2.2.2.2.2.2.2.1) (by rw [e, upd_at, c5]) (fun j _ hj => by rw [e, upd_nj _ _ hj]) (fun q _ h5 => c q h5) (r 2 (by decide) (by decide))) (c 0 (by decide)) (c 1 (by decide)) (c 3 (by decide)) (c 7 (by decide)) (fun p h0 _ h5 _ => r p h0 h5) (fun q h1 _ _ h4 => o q h1 h4) ?_ ?_, ?_⟩
  · rw [o 271 (by decide) (by decide)]; intro i hi; rw [c 4 (by decide)] at hi ⊢; rw [r (30 + i) (by omega) (by omega)]; exact h.1.2.2.2.2.2.2.1 i hi
  · intro _; show MN _ (vr _ 5 (V 3) 5); rw [vr_a]; exact h.2.co g
  · rw [o 266 (by decide) (by decide), r 3 (by decide) (by decide)]; exact h.2
theorem MI.bk {V : Vt} {I I' : It} {L : Lt} (h : MI V I L) (hb : V 0 1 ≤ 4 ∧ V 0 3 ≤ 4) (h5 : V 0 5 = 1) (g : ∀ z, z < 417 → I' 266 z = I 278 z) (e : I' 253 = upd (I 253) 41 (nI 0)) (o : ∀ q, q ≠ 253 → q ≠ 266 → I' q = I q) : MI (bkV V) I' L := by
  have c : ∀ q, q ≠ 4 → bkV V 0 q = V 0 q := fun q hq => by unfold bkV; rw [vr_o _ _ (by decide), vs_c _ hq]
  have c4 : bkV V 0 4 = 0 := by unfold bkV; rw [vr_o _ _ (by decide), vs_a]
  have r : ∀ p, p ≠ 0 → p ≠ 3 → bkV V p = V p := fun p h0 h5 => by unfold bkV; rw [vr_o _ _ h5, vs_o _ h0]
  refine ⟨h.1.mv hb (h.1.1.c4 (by rw [e, upd_at, c4]) (by rw [e, upd_nj _ _ (by decide), c 5 (by decide)]; exact h.1.1.2.2.2.2.2.2.2.2.2) (fun j hj _ => by rw [e, upd_nj _ _ hj]) (fun q h4 _ => c q h4) (r 2 (by decide) (by decide))) (c 0 (by decide)) (c 1 (by decide)) (c 3 (by decide)) (c 7 (by decide)) (fun p h0 h3 _ _ => r p h0 h3) (fun q h1 h2 _ _ => o q h1 h2) ?_ ?_, ?_⟩
  · intro i hi; rw [c4] at hi; omega
  · rw [o 278 (by decide) (by decide)]; intro z; rw [c 5 (by decide)] at z; rw [r 5 (by decide) (by decide)]; exact h.1.2.2.2.2.2.2.2.2.1 z
  · show MN _ (vr _ 3 (V 5) 3); rw [vr_a]; exact (h.1.2.2.2.2.2.2.2.2.1 h5).co g
theorem MI.un {V : Vt} {I I' : It} {L : Lt} (h : MI V I L) (hb : V 0 1 ≤ 4 ∧ V 0 3 ≤ 4) (h4 : V 0 4 ≠ 0) (g : ∀ z, z < 417 → I' 266 z = I 271 (417 * (V 0 4 - 1) + z)) (e : I' 253 = upd (I 253) 41 (nI (V 0 4 - 1))) (o : ∀ q, q ≠ 253 → q ≠ 266 → I' q = I q) : MI (unV V) I' L := by
  have c : ∀ q, q ≠ 4 → unV V 0 q = V 0 q := fun q hq => by unfold unV upn; rw [if_pos rfl, if_neg hq]
  have c4 : unV V 0 4 = V 0 4 - 1 := by unfold unV upn; rw [if_pos rfl, if_pos rfl]
  have r : ∀ p, p ≠ 0 → p ≠ 3 → p < 30 → unV V p = V p := fun p h0 h3 h30 => by unfold unV; rw [if_neg h0, if_neg h3, if_neg (by omega)]
  refine ⟨h.1.mv hb (h.1.1.c4 (by rw [e, upd_at, c4]) (by rw [e, upd_nj _ _ (by decide), c 5 (by decide)]; exact h.1.1.2.2.2.2.2.2.2.2.2) (fun j hj _ => by rw [e, upd_nj _ _ hj]) (fun q h4 _ => c q h4) (r 2 (by decide) (by decide) (by decide))) (c 0 (by decide)) (c 1 (by decide)) (c 3 (by decide)) (c 7 (by decide)) (fun p h0 h3 _ h30 => r p h0 h3 h30) (fun q h1 h2 _ _ => o q h1 h2) ?_ ?_, ?_⟩
  · rw [o 271 (by decide) (by decide)]; intro i hi; rw [c4] at hi ⊢
    have z := h.1.2.2.2.2.2.2.1 (i + 1) (by omega)
    rw [show unV V (30 + i) = V (30 + (i + 1)) by unfold unV; rw [if_neg (by omega), if_neg (by omega), if_pos (by omega)]; congr 1, show V 0 4 - 1 - 1 - i = V 0 4 - 1 - (i + 1) by omega]
    exact z
  · rw [o 278 (by decide) (by decide)]; intro z; rw [c 5 (by decide)] at z; rw [r 5 (by decide) (by decide) (by decide)]; exact h.1.2.2.2.2.2.2.2.2.1 z
  · show MN _ (V 30)
    refine (h.1.2.2.2.2.2.2.1 0 (by omega)).co (fun z hz => ?_)
    exact g z hz
set_option maxRecDepth 20000 in
set_option maxHeartbeats 1000000 in
theorem l_im2 {G : Gt} {l : Launch} {Z : Zt} {R : Rt} {I : It} {L : Lt} {post : Pt'} {V : Vt} {K : It} (W : WF Z R) (M1 : MI V K L) (hb : V 0 1 ≤ 4 ∧ V 0 3 ≤ 4) (hf1 : FM R I L R K L) (hp : V 2 35 ≠ 0) (h : ∀ I' R' L', MI (imgV V) I' L' → FM R I L R' I' L' → post (some (.int (imgR V))) Z R' I' L') (J : It) (j1 : ∀ z, z < 417 → J 278 z = K 266 z) (j2 : ∀ q, q ≠ 278 → J q = K q) : Sx G l mX12_image 2 0 0 41 [(0, .ref 253)] [] Z R J L post := by
  refine Sx.aload_n dX12_image_41 rfl ?_
  refine Sx.iconst (v := (nI 1)) dX12_image_42 (by decide) ?_
  refine Sx.putfV dX12_image_43 lkp_X12_320_12 (o_253 W) rfl rfl (fun I1 e1 o1 => ?_)
  refine Sx.aload_n dX12_image_46 rfl ?_
  refine Sx.getfR dX12_image_47 lkf_X12_61_12 (o_253 W) (r_253_32 W) ?_
  refine Sx.bipush (v := (nI 25)) dX12_image_50 (by decide) ?_
  refine Sx.ialdN dX12_image_52 (a_266 W) (by decide) (by decide) (v := (nI (V 3 145))) (by rw [o1 266 (by decide), j2 266 (by decide)]; exact M1.2.1.2.2.2.2.2.2.2.2.1) ?_
  refine Sx.iret dX12_image_53 rfl rfl ?_
  exact pXX (by unfold imgR; rw [if_pos hp]) (h I1 R L (by unfold imgV; rw [if_pos hp]; exact M1.im hb (fun z hz => by rw [o1 278 (by decide)]; exact j1 z hz) (by rw [e1, j2 253 (by decide)]) (fun q q1 q2 => by rw [o1 q q1, j2 q q2])) (hf1.tr (FM.i fun q hq => by rw [o1 q (by omega), j2 q (by omega)])))
set_option maxRecDepth 20000 in
set_option maxHeartbeats 1000000 in
theorem k_image {G : Gt} {l : Launch} {Z : Zt} {R : Rt} {I : It} {L : Lt} {post : Pt'} {V : Vt} {N : Nat} (W : WF Z R) (hM : MI V I L) (hG : GV N V) (hN : N < 2147483647) (h : ∀ I' R' L', MI (imgV V) I' L' → FM R I L R' I' L' → post (some (.int (imgR V))) Z R' I' L') : Cx G l mX12_image 2 0 0 [.ref 253] Z R I L post := by
  refine Cx.of (by decide +kernel) (by exact Nat.le_of_ble_eq_true rfl) ?_
  refine Sx.aload_n dX12_image_0 rfl ?_
  refine Sx.iconst (v := (nI 0)) dX12_image_1 (by decide) ?_
  refine Sx.putfV dX12_image_2 lkp_X12_109_12 (o_253 W) rfl rfl (fun I1 e1 o1 => ?_)
  have M1 := hM.th (j := 0) (by unfold sfJ; decide) e1 o1
  have hf1 : FM R I L R I1 L := FM.i fun q hq => o1 q (by omega)
  have hp6 := hG.p
  have hb := hG.b
  have hB := hG.bnd
  refine Sx.aload_n dX12_image_5 rfl ?_
  refine Sx.getfV (v := (nI (V 2 35))) dX12_image_6 lkf_X12_307_12 (o_253 W) M1.1.1.2.2.2.1 ?_
  refine Sx.if_neV (t := 14) dX12_image_9 (by decide) (vN (by omega)) (fun c9 => ?_) (fun c9 => ?_)
  · refine Sx.iconst (v := (nI 0)) dX12_image_14 (by decide) ?_
    refine Sx.istore_n (lv' := [(1, .int (nI 0)), (0, .ref 253)]) dX12_image_15 (by decide) rfl ?_
    refine Sx.sub' [(1, .int (nI 0)), (0, .ref 253)] rfl ?_
    exact l_image (a := 0) W (fun J j1 j2 => l_im2 W M1 hb hf1 (by omega) h J j1 j2) 418 0 (by decide) (by decide) I1 (fun z hz => by omega) (fun _ _ => rfl)
  · refine Sx.iconst (v := (iI (-1))) dX12_image_12 (by decide) ?_
    refine Sx.iret dX12_image_13 rfl rfl ?_
    have hn : ¬ V 2 35 ≠ 0 := by omega
    exact pXX (by unfold imgR; rw [if_neg hn]; rfl) (h I1 R L (by unfold imgV; rw [if_neg hn]; exact M1) hf1)
set_option maxRecDepth 20000 in
set_option maxHeartbeats 1000000 in
theorem l_bk2 {G : Gt} {l : Launch} {Z : Zt} {R : Rt} {I : It} {L : Lt} {post : Pt'} {V : Vt} {K : It} (W : WF Z R) (M1 : MI V K L) (hb : V 0 1 ≤ 4 ∧ V 0 3 ≤ 4) (hf1 : FM R I L R K L) (hp : V 0 5 = 1) (h : ∀ I' R' L', MI (bacV V) I' L' → FM R I L R' I' L' → post (some (.int (bacR V))) Z R' I' L') (J : It) (j1 : ∀ z, z < 417 → J 266 z = K 278 z) (j2 : ∀ q, q ≠ 266 → J q = K q) : Sx G l mX12_back 2 0 0 41 [(0, .ref 253)] [] Z R J L post := by
  refine Sx.aload_n dX12_back_41 rfl ?_
  refine Sx.iconst (v := (nI 0)) dX12_back_42 (by decide) ?_
  refine Sx.putfV dX12_back_43 lkp_X12_317_12 (o_253 W) rfl rfl (fun I1 e1 o1 => ?_)
  refine Sx.aload_n dX12_back_46 rfl ?_
  refine Sx.getfR dX12_back_47 lkf_X12_61_12 (o_253 W) (r_253_32 W) ?_
  refine Sx.bipush (v := (nI 25)) dX12_back_50 (by decide) ?_
  refine Sx.ialdN dX12_back_52 (a_266 W) (by decide) (by decide) (v := (nI (V 5 145))) (by rw [o1 266 (by decide), j1 25 (by decide)]; exact (M1.1.2.2.2.2.2.2.2.2.1 hp).1.2.2.2.2.2.2.2.2.1) ?_
  refine Sx.iret dX12_back_53 rfl rfl ?_
  have hp0 : V 0 5 ≠ 0 := by omega
  exact pXX (by unfold bacR; rw [if_pos hp0]) (h I1 R L (by unfold bacV; rw [if_pos hp0]; exact M1.bk hb hp (fun z hz => by rw [o1 266 (by decide)]; exact j1 z hz) (by rw [e1, j2 253 (by decide)]) (fun q q1 q2 => by rw [o1 q q1, j2 q q2])) (hf1.tr (FM.i fun q hq => by rw [o1 q (by omega), j2 q (by omega)])))
set_option maxRecDepth 20000 in
set_option maxHeartbeats 1000000 in
theorem k_back {G : Gt} {l : Launch} {Z : Zt} {R : Rt} {I : It} {L : Lt} {post : Pt'} {V : Vt} {N : Nat} (W : WF Z R) (hM : MI V I L) (hG : GV N V) (hN : N < 2147483647) (h : ∀ I' R' L', MI (bacV V) I' L' → FM R I L R' I' L' → post (some (.int (bacR V))) Z R' I' L') : Cx G l mX12_back 2 0 0 [.ref 253] Z R I L post := by
  refine Cx.of (by decide +kernel) (by exact Nat.le_of_ble_eq_true rfl) ?_
  refine Sx.aload_n dX12_back_0 rfl ?_
  refine Sx.iconst (v := (nI 0)) dX12_back_1 (by decide) ?_
  refine Sx.putfV dX12_back_2 lkp_X12_109_12 (o_253 W) rfl rfl (fun I1 e1 o1 => ?_)
  have M1 := hM.th (j := 0) (by unfold sfJ; decide) e1 o1
  have hf1 : FM R I L R I1 L := FM.i fun q hq => o1 q (by omega)
  have hp6 := hG.p
  have hb := hG.b
  have hB := hG.bnd
  have h05 := hG.2.2.2.1.2.1
  refine Sx.aload_n dX12_back_5 rfl ?_
  refine Sx.getfV (v := (nI (V 0 5))) dX12_back_6 lkf_X12_320_12 (o_253 W) M1.1.1.2.2.2.2.2.2.2.2.2 ?_
  refine Sx.if_neV (t := 14) dX12_back_9 (by decide) (vN (by omega)) (fun c9 => ?_) (fun c9 => ?_)
  · refine Sx.iconst (v := (nI 0)) dX12_back_14 (by decide) ?_
    refine Sx.istore_n (lv' := [(1, .int (nI 0)), (0, .ref 253)]) dX12_back_15 (by decide) rfl ?_
    refine Sx.sub' [(1, .int (nI 0)), (0, .ref 253)] rfl ?_
    exact l_back (a := 0) W (fun J j1 j2 => l_bk2 W M1 hb hf1 (by omega) h J j1 j2) 418 0 (by decide) (by decide) I1 (fun z hz => by omega) (fun _ _ => rfl)
  · refine Sx.iconst (v := (iI (-1))) dX12_back_12 (by decide) ?_
    refine Sx.iret dX12_back_13 rfl rfl ?_
    have hn : ¬ V 0 5 ≠ 0 := by omega
    exact pXX (by unfold bacR; rw [if_neg hn]; rfl) (h I1 R L (by unfold bacV; rw [if_neg hn]; exact M1) hf1)
set_option maxRecDepth 20000 in
set_option maxHeartbeats 1000000 in
theorem l_un2 {G : Gt} {l : Launch} {Z : Zt} {R : Rt} {I : It} {L : Lt} {post : Pt'} {V : Vt} {K : It} (W : WF Z R) (M1 : MI V K L) (hb : V 0 1 ≤ 4 ∧ V 0 3 ≤ 4) (hf1 : FM R I L R K L) (hp : V 0 4 ≠ 0) (h40 : V 0 4 ≤ 40) (h : ∀ I' R' L', MI (undV V) I' L' → FM R I L R' I' L' → post (some (.int (undR V))) Z R' I' L') {K2 : It} (k1 : K2 253 = upd (K 253) 41 (nI (V 0 4 - 1))) (k2 : ∀ q, q ≠ 253 → K2 q = K q) (J : It) (j1 : ∀ z, z < 417 → J 266 z = K2 271 (417 * (V 0 4 - 1) + z)) (j2 : ∀ q, q ≠ 266 → J q = K2 q) : Sx G l mX12_undo 2 0 0 60 [(0, .ref 253)] [] Z R J L post := by
  refine Sx.aload_n dX12_undo_60 rfl ?_
  refine Sx.getfV (v := (nI (V 0 4 - 1))) dX12_undo_61 lkf_X12_317_12 (o_253 W) (by rw [j2 253 (by decide), k1, upd_at]) ?_
  refine Sx.iret dX12_undo_64 rfl rfl ?_
  exact pXX (by unfold undR; rw [if_pos hp]) (h J R L (by unfold undV; rw [if_pos hp]; exact M1.un hb hp (fun z hz => by rw [j1 z hz, k2 271 (by decide)]) (by rw [j2 253 (by decide), k1]) (fun q q1 q2 => by rw [j2 q q2, k2 q q1])) (hf1.tr (FM.i fun q hq => by rw [j2 q (by omega), k2 q (by omega)])))
set_option maxRecDepth 20000 in
set_option maxHeartbeats 1000000 in
theorem k_undo {G : Gt} {l : Launch} {Z : Zt} {R : Rt} {I : It} {L : Lt} {post : Pt'} {V : Vt} {N : Nat} (W : WF Z R) (hM : MI V I L) (hG : GV N V) (hN : N < 2147483647) (h : ∀ I' R' L', MI (undV V) I' L' → FM R I L R' I' L' → post (some (.int (undR V))) Z R' I' L') : Cx G l mX12_undo 2 0 0 [.ref 253] Z R I L post := by
  refine Cx.of (by decide +kernel) (by exact Nat.le_of_ble_eq_true rfl) ?_
  refine Sx.aload_n dX12_undo_0 rfl ?_
  refine Sx.iconst (v := (nI 0)) dX12_undo_1 (by decide) ?_
  refine Sx.putfV dX12_undo_2 lkp_X12_109_12 (o_253 W) rfl rfl (fun I1 e1 o1 => ?_)
  have M1 := hM.th (j := 0) (by unfold sfJ; decide) e1 o1
  have hf1 : FM R I L R I1 L := FM.i fun q hq => o1 q (by omega)
  have hp6 := hG.p
  have hb := hG.b
  have hB := hG.bnd
  have h04 := hG.b4
  refine Sx.aload_n dX12_undo_5 rfl ?_
  refine Sx.getfV (v := (nI (V 0 4))) dX12_undo_6 lkf_X12_317_12 (o_253 W) M1.1.1.2.2.2.2.2.2.2.1 ?_
  refine Sx.if_neV (t := 14) dX12_undo_9 (by decide) (vN (by omega)) (fun c9 => ?_) (fun c9 => ?_)
  · refine Sx.aload_n dX12_undo_14 rfl ?_
    refine Sx.dup dX12_undo_15 rfl ?_
    refine Sx.getfV (v := (nI (V 0 4))) dX12_undo_16 lkf_X12_317_12 (o_253 W) M1.1.1.2.2.2.2.2.2.2.1 ?_
    refine Sx.iconst (v := (nI 1)) dX12_undo_19 (by decide) ?_
    refine Sx.isubN dX12_undo_20 (by omega) ?_
    refine Sx.putfV dX12_undo_21 lkp_X12_317_12 (o_253 W) rfl rfl (fun I2 e2 o2 => ?_)
    refine Sx.iconst (v := (nI 0)) dX12_undo_24 (by decide) ?_
    refine Sx.istore_n (lv' := [(1, .int (nI 0)), (0, .ref 253)]) dX12_undo_25 (by decide) rfl ?_
    refine Sx.sub' [(1, .int (nI 0)), (0, .ref 253)] rfl ?_
    exact l_undo (a := V 0 4 - 1) (I0 := I2) W (by rw [e2, upd_at]) (by omega) (fun J j1 j2 => l_un2 W M1 hb hf1 (by omega) (by omega) h e2 o2 J j1 j2) 418 0 (by decide) (by decide) I2 (fun z hz => by omega) (fun _ _ => rfl)
  · refine Sx.iconst (v := (iI (-1))) dX12_undo_12 (by decide) ?_
    refine Sx.iret dX12_undo_13 rfl rfl ?_
    have hn : ¬ V 0 4 ≠ 0 := by omega
    exact pXX (by unfold undR; rw [if_neg hn]; rfl) (h I1 R L (by unfold undV; rw [if_neg hn]; exact M1) hf1)
