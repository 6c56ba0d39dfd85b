/-! the reference: rests -/
def isRj (V : Vt) (a b x y j : Nat) : Bool := decide (∀ k, k < j → gmN V a b k y 0 ≤ gmN V a b x y 0 ∧ gmN V a b x k 1 ≤ gmN V a b x y 1)
theorem isRj_y {V : Vt} {a b x y j : Nat} (h : isRj V a b x y j = true) (g : gmN V a b j y 0 ≤ gmN V a b x y 0 ∧ gmN V a b x j 1 ≤ gmN V a b x y 1) : isRj V a b x y (j + 1) = true := decide_eq_true (fun k hk => by
  by_cases q : k = j
  · rw [q]; exact g
  · exact of_decide_eq_true h k (by omega))
theorem isRj_n {V : Vt} {a b x y j : Nat} (h : ¬ (isRj V a b x y j = true ∧ gmN V a b j y 0 ≤ gmN V a b x y 0 ∧ gmN V a b x j 1 ≤ gmN V a b x y 1)) : isRj V a b x y (j + 1) = false := decide_eq_false (fun z => h ⟨decide_eq_true (fun k hk => z k (by omega)), z j (by omega)⟩)
def rsF (is : Nat → Bool) (i : Int) (K : Nat) : Nat → Nat → Nat → Int
  | 0, _, many => if i = -1 then (many : Int) else -1
  | m + 1, t, many => if is t = true then (if (many : Int) = i then ((10 * (t / K) + t % K : Nat) : Int) else rsF is i K m (t + 1) (many + 1)) else rsF is i K m (t + 1) many
def isT (V : Vt) (a b : Nat) (t : Nat) : Bool := isRj V a b (t / V 2 34) (t % V 2 34) (V 2 34)
abbrev restC (V : Vt) (a b i : Int32) : Prop := playC V a b ∧ -1 ≤ i.toInt
def restR (V : Vt) (a b i : Int32) : Int32 := if restC V a b i then iI (rsF (isT V (xN a) (xN b)) i.toInt (V 2 34) (V 2 34 * V 2 34) 0 0) else -1
theorem t_dm {K x y : Nat} (h : y < K) : (K * x + y) / K = x ∧ (K * x + y) % K = y := by
  constructor
  · rw [Nat.mul_add_div (by omega), Nat.div_eq_of_lt h]; rfl
  · rw [Nat.mul_add_mod, Nat.mod_eq_of_lt h]
theorem rsF_0 (is : Nat → Bool) (i : Int) (K t many : Nat) : rsF is i K 0 t many = if i = -1 then (many : Int) else -1 := rfl
theorem rsF_s (is : Nat → Bool) (i : Int) (K m t many : Nat) : rsF is i K (m + 1) t many = if is t = true then (if (many : Int) = i then ((10 * (t / K) + t % K : Nat) : Int) else rsF is i K m (t + 1) (many + 1)) else rsF is i K m (t + 1) many := rfl
def GA (V : Vt) (a b : Nat) (f : Nat → Int32) (n m : Nat) : Prop := ∀ i j, i < V 2 34 → j < V 2 34 → (i < n ∨ (i = n ∧ j < m)) → f (6 * i + j) = iI (gmN V a b i j 0) ∧ f (6 * (6 + i) + j) = iI (gmN V a b i j 1)
theorem gmN_b {V : Vt} {a b x y q : Nat} (hH : HV V) (ha : a < V 2 35) (hb : b < V 2 35) (hx : x < V 2 34) (hy : y < V 2 34) : -100000 ≤ gmN V a b x y q ∧ gmN V a b x y q ≤ 100000 := by
  obtain ⟨p1, p2, p3, p4, p5, p6, p7, p8, p9⟩ := id hH.2.2.2.1
  have hS0 := hH.2.2.2.2.1
  have hy0 := hH.2.2.2.2.2.1
  have hST : SB (V 2) (upn (upn (V 3) a x) b y) := SB.hab hH.2.2.2.1 (SB.hab hH.2.2.2.1 hS0 (by omega) hx) (by omega) hy
  obtain ⟨g1, g2, g3⟩ := goY_ok (w := wlV V) hH.2.2.2.1 hST (by rw [upn_ne _ _ (by omega), upn_ne _ _ (by omega)]; omega)
  have ho : (if q = 0 then a else b) < 6 := by split <;> omega
  have z1 := g1.2.1 _ ho
  have z2 := hS0.2.1 _ ho
  have hgm : gmT V a b x y = goY (V 2) (wlV V) (upn (upn (V 3) a x) b y) := rfl
  rw [← hgm] at z1
  unfold gmN
  generalize (if q = 0 then a else b) = o at z1 z2 ho ⊢
  generalize (if q = 0 then x else y) = u
  split <;> omega
set_option maxRecDepth 20000 in
set_option maxHeartbeats 1000000 in
theorem l_f2 {G : Gt} {l : Launch} {Z : Zt} {post : Pt'} {R0 : Rt} {I0 : It} {L0 : Lt} {V : Vt} {a b : Nat} {i : Int32} {x : Nat} (hH : HV V) (ha : a < V 2 35) (hb : b < V 2 35) (hab : a ≠ b) (hx : x < V 2 34) (h : (∀ (R : Rt) (I : It) (L : Lt), WF Z R → MI V I L → FM R0 I0 L0 R I L → GA V a b (I 276) (x + 1) 0 → Sx G l mX12_rests 40 0 0 24 [(4, .int (nI (x + 1))), (0, .ref 253), (1, .int (nI a)), (2, .int (nI b)), (3, .int i)] [] Z R I L post)) :
    ∀ (k y : Nat), y ≤ V 2 34 → V 2 34 < y + k → ∀ (R : Rt) (I : It) (L : Lt), WF Z R → MI V I L → FM R0 I0 L0 R I L → GA V a b (I 276) x y → Sx G l mX12_rests 40 0 0 36 [(5, .int (nI y)), (4, .int (nI x)), (0, .ref 253), (1, .int (nI a)), (2, .int (nI b)), (3, .int i)] [] Z R I L post := by
  obtain ⟨p1, p2, p3, p4, p5, p6, p7, p8, p9⟩ := id hH.2.2.2.1
  intro k
  induction k with
  | zero => intro y h1 h2; omega
  | succ k ih =>
    intro y h1 h2 R I L W hM hf hg
    refine Sx.iload dX12_rests_36 rfl ?_
    refine Sx.aload_n dX12_rests_38 rfl ?_
    refine Sx.getfV (v := (nI (V 2 34))) dX12_rests_39 lkf_X12_304_12 (o_253 W) hM.1.1.2.2.1 ?_
    refine Sx.icmp_geV (t := 102) dX12_rests_42 (by decide) (vN (by omega)) (vN (by omega)) (fun c42 => ?_) (fun c42 => ?_)
    · refine Sx.iinc (v := (nI (x + 1))) (lv' := [(4, .int (nI (x + 1))), (5, .int (nI y)), (0, .ref 253), (1, .int (nI a)), (2, .int (nI b)), (3, .int i)]) dX12_rests_102 rfl (nI_add x 1) (by decide) rfl ?_
      refine Sx.goto (t := 24) dX12_rests_105 (by decide) ?_
      refine Sx.sub' [(4, .int (nI (x + 1))), (0, .ref 253), (1, .int (nI a)), (2, .int (nI b)), (3, .int i)] rfl ?_
      have hyK : y = V 2 34 := by omega
      exact h R I L W hM hf (fun i0 j0 h1 h2 h3 => hg i0 j0 h1 h2 (by omega))
    · have hy : y < V 2 34 := by omega
      refine Sx.aload_n dX12_rests_45 rfl ?_
      refine Sx.getfR dX12_rests_46 lkf_X12_100_12 (o_253 W) (r_253_48 W) ?_
      refine Sx.bipush (v := (nI 6)) dX12_rests_49 (by decide) ?_
      refine Sx.iload dX12_rests_51 rfl ?_
      refine Sx.imulN dX12_rests_53 ?_
      refine Sx.iload dX12_rests_54 rfl ?_
      refine Sx.iaddN dX12_rests_56 ?_
      refine Sx.aload_n dX12_rests_57 rfl ?_
      refine Sx.iload_n dX12_rests_58 rfl ?_
      refine Sx.iload_n dX12_rests_59 rfl ?_
      refine Sx.iload dX12_rests_60 rfl ?_
      refine Sx.iload dX12_rests_62 rfl ?_
      refine Sx.iconst (v := (nI 0)) dX12_rests_64 (by decide) ?_
      refine Sx.callV5 dX12_rests_65 lkv_X12_468 (rcv_12 (o_253 W)) (by decide) (by decide) (Nat.le_of_ble_eq_true rfl) rfl rfl (k_gameOf W hM hH ha hb hab hx hy (by decide) (fun I1 R1 L1 hM1 fl1 og1 => ?_))
      have W := fl1.wf W
      refine Sx.iastN dX12_rests_68 (a_276 W) (by omega) (by decide) (fun I2 e2 o2 => ?_)
      have hN2 := hM1.sc (a := 276) (by unfold scr; decide) o2
      refine Sx.aload_n dX12_rests_69 rfl ?_
      refine Sx.getfR dX12_rests_70 lkf_X12_100_12 (o_253 W) (r_253_48 W) ?_
      refine Sx.bipush (v := (nI 6)) dX12_rests_73 (by decide) ?_
      refine Sx.bipush (v := (nI 6)) dX12_rests_75 (by decide) ?_
      refine Sx.iload dX12_rests_77 rfl ?_
      refine Sx.iaddN dX12_rests_79 ?_
      refine Sx.imulN dX12_rests_80 ?_
      refine Sx.iload dX12_rests_81 rfl ?_
      refine Sx.iaddN dX12_rests_83 ?_
      refine Sx.aload_n dX12_rests_84 rfl ?_
      refine Sx.iload_n dX12_rests_85 rfl ?_
      refine Sx.iload_n dX12_rests_86 rfl ?_
      refine Sx.iload dX12_rests_87 rfl ?_
      refine Sx.iload dX12_rests_89 rfl ?_
      refine Sx.iconst (v := (nI 1)) dX12_rests_91 (by decide) ?_
      refine Sx.callV5 dX12_rests_92 lkv_X12_468 (rcv_12 (o_253 W)) (by decide) (by decide) (Nat.le_of_ble_eq_true rfl) rfl rfl (k_gameOf W hN2 hH ha hb hab hx hy (by decide) (fun I3 R3 L3 hM3 fl3 og3 => ?_))
      have W := fl3.wf W
      refine Sx.iastN dX12_rests_95 (a_276 W) (by omega) (by decide) (fun I4 e4 o4 => ?_)
      have hN4 := hM3.sc (a := 276) (by unfold scr; decide) o4
      refine Sx.iinc (v := (nI (y + 1))) (lv' := [(5, .int (nI (y + 1))), (4, .int (nI x)), (0, .ref 253), (1, .int (nI a)), (2, .int (nI b)), (3, .int i)]) dX12_rests_96 rfl (nI_add y 1) (by decide) rfl ?_
      refine Sx.goto (t := 36) dX12_rests_99 (by decide) ?_
      refine Sx.sub' [(5, .int (nI (y + 1))), (4, .int (nI x)), (0, .ref 253), (1, .int (nI a)), (2, .int (nI b)), (3, .int i)] rfl ?_
      refine ih (y + 1) (by omega) (by omega) R3 I4 L3 W hN4 ((hf.tr fl1).tr ((FM.i (R := R1) (L := L1) fun q hq => o2 q (by omega)).tr (fl3.tr (FM.i (R := R3) (L := L3) fun q hq => o4 q (by omega))))) ?_
      intro i0 j0 hi0 hj0 hl
      rw [e4, og3 276 (by decide), e2, og1 276 (by decide)]
      by_cases q : i0 = x ∧ j0 = y
      · rw [q.1, q.2, upd_at, upd_nj _ _ (by omega), upd_at]
        exact ⟨rfl, rfl⟩
      · rw [upd_nj _ _ (by omega), upd_nj _ _ (by omega), upd_nj _ _ (by omega), upd_nj _ _ (by omega)]
        exact hg i0 j0 hi0 hj0 (by omega)
set_option maxRecDepth 20000 in
set_option maxHeartbeats 1000000 in
theorem l_f1 {G : Gt} {l : Launch} {Z : Zt} {post : Pt'} {R0 : Rt} {I0 : It} {L0 : Lt} {V : Vt} {a b : Nat} {i : Int32} (hH : HV V) (ha : a < V 2 35) (hb : b < V 2 35) (hab : a ≠ b) (h : (∀ (R : Rt) (I : It) (L : Lt), WF Z R → MI V I L → FM R0 I0 L0 R I L → GA V a b (I 276) (V 2 34) 0 → Sx G l mX12_rests 40 0 0 108 [(0, .ref 253), (1, .int (nI a)), (2, .int (nI b)), (3, .int i)] [] Z R I L post)) :
    ∀ (k x : Nat), x ≤ V 2 34 → V 2 34 < x + k → ∀ (R : Rt) (I : It) (L : Lt), WF Z R → MI V I L → FM R0 I0 L0 R I L → GA V a b (I 276) x 0 → Sx G l mX12_rests 40 0 0 24 [(4, .int (nI x)), (0, .ref 253), (1, .int (nI a)), (2, .int (nI b)), (3, .int i)] [] Z R I L post := by
  obtain ⟨p1, p2, p3, p4, p5, p6, p7, p8, p9⟩ := id hH.2.2.2.1
  intro k
  induction k with
  | zero => intro x h1 h2; omega
  | succ k ih =>
    intro x h1 h2 R I L W hM hf hg
    refine Sx.iload dX12_rests_24 rfl ?_
    refine Sx.aload_n dX12_rests_26 rfl ?_
    refine Sx.getfV (v := (nI (V 2 34))) dX12_rests_27 lkf_X12_304_12 (o_253 W) hM.1.1.2.2.1 ?_
    refine Sx.icmp_geV (t := 108) dX12_rests_30 (by decide) (vN (by omega)) (vN (by omega)) (fun c30 => ?_) (fun c30 => ?_)
    · refine Sx.sub' [(0, .ref 253), (1, .int (nI a)), (2, .int (nI b)), (3, .int i)] rfl ?_
      have hxK : x = V 2 34 := by omega
      subst hxK
      exact h R I L W hM hf hg
    · refine Sx.iconst (v := (nI 0)) dX12_rests_33 (by decide) ?_
      refine Sx.istore (lv' := [(5, .int (nI 0)), (4, .int (nI x)), (0, .ref 253), (1, .int (nI a)), (2, .int (nI b)), (3, .int i)]) dX12_rests_34 (by decide) rfl ?_
      refine Sx.sub' [(5, .int (nI 0)), (4, .int (nI x)), (0, .ref 253), (1, .int (nI a)), (2, .int (nI b)), (3, .int i)] rfl ?_
      exact l_f2 hH ha hb hab (by omega) (fun R I L W hM hf hg => ih (x + 1) (by omega) (by omega) R I L W hM hf hg) (V 2 34 + 1) 0 (by omega) (by omega) R I L W hM hf hg
set_option maxRecDepth 20000 in
set_option maxHeartbeats 1000000 in
theorem l_r3 {G : Gt} {l : Launch} {Z : Zt} {R : Rt} {I : It} {L : Lt} {post : Pt'} {V : Vt} {a b : Nat} {i : Int32} {x y many : Nat} (W : WF Z R) (hM : MI V I L) (hg : GA V a b (I 276) (V 2 34) 0) (hH : HV V) (ha : a < V 2 35) (hb : b < V 2 35) (hab : a ≠ b) (hx : x < V 2 34) (hy : y < V 2 34) (h : Sx G l mX12_rests 40 0 0 232 [(7, .int (b2i (isRj V a b x y (V 2 34)))), (6, .int (nI y)), (5, .int (nI x)), (4, .int (nI many)), (0, .ref 253), (1, .int (nI a)), (2, .int (nI b)), (3, .int i)] [] Z R I L post) :
    ∀ (k j : Nat), j ≤ V 2 34 → V 2 34 < j + k → ∀ e, e = isRj V a b x y j → Sx G l mX12_rests 40 0 0 141 [(8, .int (nI j)), (7, .int (b2i e)), (6, .int (nI y)), (5, .int (nI x)), (4, .int (nI many)), (0, .ref 253), (1, .int (nI a)), (2, .int (nI b)), (3, .int i)] [] Z R I L post := by
  obtain ⟨p1, p2, p3, p4, p5, p6, p7, p8, p9⟩ := id hH.2.2.2.1
  intro k
  induction k with
  | zero => intro j h1 h2; omega
  | succ k ih =>
    intro j h1 h2 e he
    refine Sx.iload dX12_rests_141 rfl ?_
    refine Sx.aload_n dX12_rests_143 rfl ?_
    refine Sx.getfV (v := (nI (V 2 34))) dX12_rests_144 lkf_X12_304_12 (o_253 W) hM.1.1.2.2.1 ?_
    refine Sx.icmp_geV (t := 232) dX12_rests_147 (by decide) (vN (by omega)) (vN (by omega)) (fun c147 => ?_) (fun c147 => ?_)
    · have hjK : j = V 2 34 := by omega
      subst hjK
      refine Sx.sub' [(7, .int (b2i e)), (6, .int (nI y)), (5, .int (nI x)), (4, .int (nI many)), (0, .ref 253), (1, .int (nI a)), (2, .int (nI b)), (3, .int i)] rfl ?_
      rw [he]
      exact h
    · refine Sx.iload dX12_rests_150 rfl ?_
      refine Sx.if_eqB (t := 223) dX12_rests_152 (by decide) (fun c152 => ?_) (fun c152 => ?_)
      · refine Sx.iconst (v := (nI 0)) dX12_rests_223 (by decide) ?_
        refine Sx.istore (lv' := [(7, .int (nI 0)), (8, .int (nI j)), (6, .int (nI y)), (5, .int (nI x)), (4, .int (nI many)), (0, .ref 253), (1, .int (nI a)), (2, .int (nI b)), (3, .int i)]) dX12_rests_224 (by decide) rfl ?_
        refine Sx.iinc (v := (nI (j + 1))) (lv' := [(8, .int (nI (j + 1))), (7, .int (nI 0)), (6, .int (nI y)), (5, .int (nI x)), (4, .int (nI many)), (0, .ref 253), (1, .int (nI a)), (2, .int (nI b)), (3, .int i)]) dX12_rests_226 rfl (nI_add j 1) (by decide) rfl ?_
        refine Sx.goto (t := 141) dX12_rests_229 (by decide) ?_
        refine Sx.sub' [(8, .int (nI (j + 1))), (7, .int (b2i false)), (6, .int (nI y)), (5, .int (nI x)), (4, .int (nI many)), (0, .ref 253), (1, .int (nI a)), (2, .int (nI b)), (3, .int i)] rfl ?_
        exact ih (j + 1) (by omega) (by omega) false ((isRj_n (fun z => by first | (have := z.1; rw [← he, c152] at this; exact absurd this (by decide)) | (have := z.2.1; have := z.2.2; omega))).symm)
      · have b1 := gmN_b (q := 0) hH ha hb (x := j) (y := y) (by omega) hy
        have b2 := gmN_b (q := 0) hH ha hb (x := x) (y := y) hx hy
        have b3 := gmN_b (q := 1) hH ha hb (x := x) (y := j) hx (by omega)
        have b4 := gmN_b (q := 1) hH ha hb (x := x) (y := y) hx hy
        refine Sx.aload_n dX12_rests_155 rfl ?_
        refine Sx.getfR dX12_rests_156 lkf_X12_100_12 (o_253 W) (r_253_48 W) ?_
        refine Sx.bipush (v := (nI 6)) dX12_rests_159 (by decide) ?_
        refine Sx.iload dX12_rests_161 rfl ?_
        refine Sx.imulN dX12_rests_163 ?_
        refine Sx.iload dX12_rests_164 rfl ?_
        refine Sx.iaddN dX12_rests_166 ?_
        refine Sx.ialdN dX12_rests_167 (a_276 W) (by omega) (by decide) (v := (iI (gmN V a b j y 0))) ((hg j y (by omega) (by omega) (Or.inl (by omega))).1) ?_
        refine Sx.aload_n dX12_rests_168 rfl ?_
        refine Sx.getfR dX12_rests_169 lkf_X12_100_12 (o_253 W) (r_253_48 W) ?_
        refine Sx.bipush (v := (nI 6)) dX12_rests_172 (by decide) ?_
        refine Sx.iload dX12_rests_174 rfl ?_
        refine Sx.imulN dX12_rests_176 ?_
        refine Sx.iload dX12_rests_177 rfl ?_
        refine Sx.iaddN dX12_rests_179 ?_
        refine Sx.ialdN dX12_rests_180 (a_276 W) (by omega) (by decide) (v := (iI (gmN V a b x y 0))) ((hg x y (by omega) (by omega) (Or.inl (by omega))).1) ?_
        refine Sx.icmp_gtV (t := 223) dX12_rests_181 (by decide) (vZ (by omega)) (vZ (by omega)) (fun c181 => ?_) (fun c181 => ?_)
        · refine Sx.iconst (v := (nI 0)) dX12_rests_223 (by decide) ?_
          refine Sx.istore (lv' := [(7, .int (nI 0)), (8, .int (nI j)), (6, .int (nI y)), (5, .int (nI x)), (4, .int (nI many)), (0, .ref 253), (1, .int (nI a)), (2, .int (nI b)), (3, .int i)]) dX12_rests_224 (by decide) rfl ?_
          refine Sx.iinc (v := (nI (j + 1))) (lv' := [(8, .int (nI (j + 1))), (7, .int (nI 0)), (6, .int (nI y)), (5, .int (nI x)), (4, .int (nI many)), (0, .ref 253), (1, .int (nI a)), (2, .int (nI b)), (3, .int i)]) dX12_rests_226 rfl (nI_add j 1) (by decide) rfl ?_
          refine Sx.goto (t := 141) dX12_rests_229 (by decide) ?_
          refine Sx.sub' [(8, .int (nI (j + 1))), (7, .int (b2i false)), (6, .int (nI y)), (5, .int (nI x)), (4, .int (nI many)), (0, .ref 253), (1, .int (nI a)), (2, .int (nI b)), (3, .int i)] rfl ?_
          exact ih (j + 1) (by omega) (by omega) false ((isRj_n (fun z => by first | (have := z.1; rw [← he, c152] at this; exact absurd this (by decide)) | (have := z.2.1; have := z.2.2; omega))).symm)
        · refine Sx.aload_n dX12_rests_184 rfl ?_
          refine Sx.getfR dX12_rests_185 lkf_X12_100_12 (o_253 W) (r_253_48 W) ?_
          refine Sx.bipush (v := (nI 6)) dX12_rests_188 (by decide) ?_
          refine Sx.bipush (v := (nI 6)) dX12_rests_190 (by decide) ?_
          refine Sx.iload dX12_rests_192 rfl ?_
          refine Sx.iaddN dX12_rests_194 ?_
          refine Sx.imulN dX12_rests_195 ?_
          refine Sx.iload dX12_rests_196 rfl ?_
          refine Sx.iaddN dX12_rests_198 ?_
          refine Sx.ialdN dX12_rests_199 (a_276 W) (by omega) (by decide) (v := (iI (gmN V a b x j 1))) ((hg x j (by omega) (by omega) (Or.inl (by omega))).2) ?_
          refine Sx.aload_n dX12_rests_200 rfl ?_
          refine Sx.getfR dX12_rests_201 lkf_X12_100_12 (o_253 W) (r_253_48 W) ?_
          refine Sx.bipush (v := (nI 6)) dX12_rests_204 (by decide) ?_
          refine Sx.bipush (v := (nI 6)) dX12_rests_206 (by decide) ?_
          refine Sx.iload dX12_rests_208 rfl ?_
          refine Sx.iaddN dX12_rests_210 ?_
          refine Sx.imulN dX12_rests_211 ?_
          refine Sx.iload dX12_rests_212 rfl ?_
          refine Sx.iaddN dX12_rests_214 ?_
          refine Sx.ialdN dX12_rests_215 (a_276 W) (by omega) (by decide) (v := (iI (gmN V a b x y 1))) ((hg x y (by omega) (by omega) (Or.inl (by omega))).2) ?_
          refine Sx.icmp_gtV (t := 223) dX12_rests_216 (by decide) (vZ (by omega)) (vZ (by omega)) (fun c216 => ?_) (fun c216 => ?_)
          · refine Sx.iconst (v := (nI 0)) dX12_rests_223 (by decide) ?_
            refine Sx.istore (lv' := [(7, .int (nI 0)), (8, .int (nI j)), (6, .int (nI y)), (5, .int (nI x)), (4, .int (nI many)), (0, .ref 253), (1, .int (nI a)), (2, .int (nI b)), (3, .int i)]) dX12_rests_224 (by decide) rfl ?_
            refine Sx.iinc (v := (nI (j + 1))) (lv' := [(8, .int (nI (j + 1))), (7, .int (nI 0)), (6, .int (nI y)), (5, .int (nI x)), (4, .int (nI many)), (0, .ref 253), (1, .int (nI a)), (2, .int (nI b)), (3, .int i)]) dX12_rests_226 rfl (nI_add j 1) (by decide) rfl ?_
            refine Sx.goto (t := 141) dX12_rests_229 (by decide) ?_
            refine Sx.sub' [(8, .int (nI (j + 1))), (7, .int (b2i false)), (6, .int (nI y)), (5, .int (nI x)), (4, .int (nI many)), (0, .ref 253), (1, .int (nI a)), (2, .int (nI b)), (3, .int i)] rfl ?_
            exact ih (j + 1) (by omega) (by omega) false ((isRj_n (fun z => by first | (have := z.1; rw [← he, c152] at this; exact absurd this (by decide)) | (have := z.2.1; have := z.2.2; omega))).symm)
          · refine Sx.iconst (v := (nI 1)) dX12_rests_219 (by decide) ?_
            refine Sx.goto (t := 224) dX12_rests_220 (by decide) ?_
            refine Sx.istore (lv' := [(7, .int (nI 1)), (8, .int (nI j)), (6, .int (nI y)), (5, .int (nI x)), (4, .int (nI many)), (0, .ref 253), (1, .int (nI a)), (2, .int (nI b)), (3, .int i)]) dX12_rests_224 (by decide) rfl ?_
            refine Sx.iinc (v := (nI (j + 1))) (lv' := [(8, .int (nI (j + 1))), (7, .int (nI 1)), (6, .int (nI y)), (5, .int (nI x)), (4, .int (nI many)), (0, .ref 253), (1, .int (nI a)), (2, .int (nI b)), (3, .int i)]) dX12_rests_226 rfl (nI_add j 1) (by decide) rfl ?_
            refine Sx.goto (t := 141) dX12_rests_229 (by decide) ?_
            refine Sx.sub' [(8, .int (nI (j + 1))), (7, .int (b2i true)), (6, .int (nI y)), (5, .int (nI x)), (4, .int (nI many)), (0, .ref 253), (1, .int (nI a)), (2, .int (nI b)), (3, .int i)] rfl ?_
            exact ih (j + 1) (by omega) (by omega) true ((isRj_y (by rw [← he]; exact c152) ⟨by omega, by omega⟩).symm)
set_option maxRecDepth 20000 in
set_option maxHeartbeats 1000000 in
theorem l_r2 {G : Gt} {l : Launch} {Z : Zt} {R : Rt} {I : It} {L : Lt} {post : Pt'} {V : Vt} {a b : Nat} {i : Int32} {x : Nat} {res : Int} (W : WF Z R) (hM : MI V I L) (hg : GA V a b (I 276) (V 2 34) 0) (hH : HV V) (ha : a < V 2 35) (hb : b < V 2 35) (hab : a ≠ b) (hx : x < V 2 34) (h : post (some (.int (iI res))) Z R I L) (hn : ∀ m many, many ≤ 36 - m → m + V 2 34 * (x + 1) = V 2 34 * V 2 34 → rsF (isT V a b) i.toInt (V 2 34) m (V 2 34 * (x + 1)) many = res → Sx G l mX12_rests 40 0 0 114 [(5, .int (nI (x + 1))), (4, .int (nI many)), (0, .ref 253), (1, .int (nI a)), (2, .int (nI b)), (3, .int i)] [] Z R I L post) :
    ∀ (k y : Nat), y ≤ V 2 34 → V 2 34 < y + k → ∀ m many, many ≤ 36 - m → m + (V 2 34 * x + y) = V 2 34 * V 2 34 → rsF (isT V a b) i.toInt (V 2 34) m (V 2 34 * x + y) many = res → Sx G l mX12_rests 40 0 0 126 [(6, .int (nI y)), (5, .int (nI x)), (4, .int (nI many)), (0, .ref 253), (1, .int (nI a)), (2, .int (nI b)), (3, .int i)] [] Z R I L post := by
  obtain ⟨p1, p2, p3, p4, p5, p6, p7, p8, p9⟩ := id hH.2.2.2.1
  have h36 : V 2 34 * V 2 34 ≤ 6 * 6 := Nat.mul_le_mul p6 p6
  intro k
  induction k with
  | zero => intro y h1 h2; omega
  | succ k ih =>
    intro y h1 h2 m many hmn hm hR
    refine Sx.iload dX12_rests_126 rfl ?_
    refine Sx.aload_n dX12_rests_128 rfl ?_
    refine Sx.getfV (v := (nI (V 2 34))) dX12_rests_129 lkf_X12_304_12 (o_253 W) hM.1.1.2.2.1 ?_
    refine Sx.icmp_geV (t := 264) dX12_rests_132 (by decide) (vN (by omega)) (vN (by omega)) (fun c132 => ?_) (fun c132 => ?_)
    · refine Sx.iinc (v := (nI (x + 1))) (lv' := [(5, .int (nI (x + 1))), (6, .int (nI y)), (4, .int (nI many)), (0, .ref 253), (1, .int (nI a)), (2, .int (nI b)), (3, .int i)]) dX12_rests_264 rfl (nI_add x 1) (by decide) rfl ?_
      refine Sx.goto (t := 114) dX12_rests_267 (by decide) ?_
      refine Sx.sub' [(5, .int (nI (x + 1))), (4, .int (nI many)), (0, .ref 253), (1, .int (nI a)), (2, .int (nI b)), (3, .int i)] rfl ?_
      have hyK : y = V 2 34 := by omega
      exact hn m many (by omega) (by rw [Nat.mul_succ]; omega) (by rw [Nat.mul_succ, ← hyK]; rw [← hyK] at hR; exact hR)
    · have htd := t_dm (x := x) (show y < V 2 34 by omega)
      have hm1 : 1 ≤ m := by have := Nat.mul_le_mul_left (V 2 34) (show x + 1 ≤ V 2 34 by omega); rw [Nat.mul_succ] at this; omega
      refine Sx.iconst (v := (nI 1)) dX12_rests_135 (by decide) ?_
      refine Sx.istore (lv' := [(7, .int (nI 1)), (6, .int (nI y)), (5, .int (nI x)), (4, .int (nI many)), (0, .ref 253), (1, .int (nI a)), (2, .int (nI b)), (3, .int i)]) dX12_rests_136 (by decide) rfl ?_
      refine Sx.iconst (v := (nI 0)) dX12_rests_138 (by decide) ?_
      refine Sx.istore (lv' := [(8, .int (nI 0)), (7, .int (nI 1)), (6, .int (nI y)), (5, .int (nI x)), (4, .int (nI many)), (0, .ref 253), (1, .int (nI a)), (2, .int (nI b)), (3, .int i)]) dX12_rests_139 (by decide) rfl ?_
      refine Sx.sub' [(8, .int (nI 0)), (7, .int (b2i true)), (6, .int (nI y)), (5, .int (nI x)), (4, .int (nI many)), (0, .ref 253), (1, .int (nI a)), (2, .int (nI b)), (3, .int i)] rfl ?_
      refine l_r3 W hM hg hH ha hb hab hx (by omega) ?_ (V 2 34 + 1) 0 (by omega) (by omega) true (decide_eq_true (fun k hk => by omega)).symm
      obtain ⟨e, he⟩ : ∃ e, e = isRj V a b x y (V 2 34) := ⟨_, rfl⟩
      rw [← he]
      refine Sx.iload dX12_rests_232 rfl ?_
      refine Sx.if_neB (t := 240) dX12_rests_234 (by decide) (fun c234 => ?_) (fun c234 => ?_)
      · have hT : isT V a b (V 2 34 * x + y) = true := by unfold isT; rw [htd.1, htd.2, ← he]; first | exact c234 | simp_all
        refine Sx.iload dX12_rests_240 rfl ?_
        refine Sx.iload_n dX12_rests_242 rfl ?_
        refine Sx.icmp_neV (t := 255) dX12_rests_243 (by decide) (vN (by omega)) (vX i) (fun c243 => ?_) (fun c243 => ?_)
        · refine Sx.iinc (v := (nI (many + 1))) (lv' := [(4, .int (nI (many + 1))), (7, .int (b2i e)), (6, .int (nI y)), (5, .int (nI x)), (0, .ref 253), (1, .int (nI a)), (2, .int (nI b)), (3, .int i)]) dX12_rests_255 rfl (nI_add many 1) (by decide) rfl ?_
          refine Sx.iinc (v := (nI (y + 1))) (lv' := [(6, .int (nI (y + 1))), (4, .int (nI (many + 1))), (7, .int (b2i e)), (5, .int (nI x)), (0, .ref 253), (1, .int (nI a)), (2, .int (nI b)), (3, .int i)]) dX12_rests_258 rfl (nI_add y 1) (by decide) rfl ?_
          refine Sx.goto (t := 126) dX12_rests_261 (by decide) ?_
          refine Sx.sub' [(6, .int (nI (y + 1))), (5, .int (nI x)), (4, .int (nI (many + 1))), (0, .ref 253), (1, .int (nI a)), (2, .int (nI b)), (3, .int i)] rfl ?_
          refine ih (y + 1) (by omega) (by omega) (m - 1) (many + 1) (by omega) (by omega) ?_
          rw [show V 2 34 * x + (y + 1) = V 2 34 * x + y + 1 by omega, ← hR, show m = m - 1 + 1 by omega, Nat.add_sub_cancel, rsF_s]
          rw [if_pos hT, if_neg (by omega)]
        · refine Sx.bipush (v := (nI 10)) dX12_rests_246 (by decide) ?_
          refine Sx.iload dX12_rests_248 rfl ?_
          refine Sx.imulN dX12_rests_250 ?_
          refine Sx.iload dX12_rests_251 rfl ?_
          refine Sx.iaddN dX12_rests_253 ?_
          refine Sx.iret dX12_rests_254 rfl rfl ?_
          refine pXX ?_ h
          rw [← hR, show m = m - 1 + 1 by omega, rsF_s, if_pos hT, if_pos (by omega), htd.1, htd.2, nI_iI]
      · have hT : isT V a b (V 2 34 * x + y) = false := by unfold isT; rw [htd.1, htd.2, ← he]; exact c234
        refine Sx.goto (t := 258) dX12_rests_237 (by decide) ?_
        refine Sx.iinc (v := (nI (y + 1))) (lv' := [(6, .int (nI (y + 1))), (7, .int (b2i e)), (5, .int (nI x)), (4, .int (nI many)), (0, .ref 253), (1, .int (nI a)), (2, .int (nI b)), (3, .int i)]) dX12_rests_258 rfl (nI_add y 1) (by decide) rfl ?_
        refine Sx.goto (t := 126) dX12_rests_261 (by decide) ?_
        refine Sx.sub' [(6, .int (nI (y + 1))), (5, .int (nI x)), (4, .int (nI (many))), (0, .ref 253), (1, .int (nI a)), (2, .int (nI b)), (3, .int i)] rfl ?_
        refine ih (y + 1) (by omega) (by omega) (m - 1) (many) (by omega) (by omega) ?_
        rw [show V 2 34 * x + (y + 1) = V 2 34 * x + y + 1 by omega, ← hR, show m = m - 1 + 1 by omega, Nat.add_sub_cancel, rsF_s]
        rw [if_neg (by rw [hT]; decide)]
set_option maxRecDepth 20000 in
set_option maxHeartbeats 1000000 in
theorem l_r1 {G : Gt} {l : Launch} {Z : Zt} {R : Rt} {I : It} {L : Lt} {post : Pt'} {V : Vt} {a b : Nat} {i : Int32} {res : Int} (W : WF Z R) (hM : MI V I L) (hg : GA V a b (I 276) (V 2 34) 0) (hH : HV V) (ha : a < V 2 35) (hb : b < V 2 35) (hab : a ≠ b) (h : post (some (.int (iI res))) Z R I L) :
    ∀ (k x : Nat), x ≤ V 2 34 → V 2 34 < x + k → ∀ m many, many ≤ 36 - m → m + V 2 34 * x = V 2 34 * V 2 34 → rsF (isT V a b) i.toInt (V 2 34) m (V 2 34 * x) many = res → Sx G l mX12_rests 40 0 0 114 [(5, .int (nI x)), (4, .int (nI many)), (0, .ref 253), (1, .int (nI a)), (2, .int (nI b)), (3, .int i)] [] Z R I L post := by
  obtain ⟨p1, p2, p3, p4, p5, p6, p7, p8, p9⟩ := id hH.2.2.2.1
  have h36 : V 2 34 * V 2 34 ≤ 6 * 6 := Nat.mul_le_mul p6 p6
  intro k
  induction k with
  | zero => intro x h1 h2; omega
  | succ k ih =>
    intro x h1 h2 m many hmn hm hR
    refine Sx.iload dX12_rests_114 rfl ?_
    refine Sx.aload_n dX12_rests_116 rfl ?_
    refine Sx.getfV (v := (nI (V 2 34))) dX12_rests_117 lkf_X12_304_12 (o_253 W) hM.1.1.2.2.1 ?_
    refine Sx.icmp_geV (t := 270) dX12_rests_120 (by decide) (vN (by omega)) (vN (by omega)) (fun c120 => ?_) (fun c120 => ?_)
    · refine Sx.iload_n dX12_rests_270 rfl ?_
      refine Sx.iconst (v := (iI (-1))) dX12_rests_271 (by decide) ?_
      refine Sx.icmp_neV (t := 280) dX12_rests_272 (by decide) (vX i) (vZ (by decide)) (fun c272 => ?_) (fun c272 => ?_)
      · refine Sx.iconst (v := (iI (-1))) dX12_rests_280 (by decide) ?_
        refine Sx.iret dX12_rests_281 rfl rfl ?_
        have hxK : x = V 2 34 := by omega
        subst hxK
        have hm0 : m = 0 := by omega
        subst hm0
        refine pXX ?_ h
        rw [← hR, rsF_0, if_neg (by omega)]
      · refine Sx.iload dX12_rests_275 rfl ?_
        refine Sx.goto (t := 281) dX12_rests_277 (by decide) ?_
        refine Sx.iret dX12_rests_281 rfl rfl ?_
        have hxK : x = V 2 34 := by omega
        subst hxK
        have hm0 : m = 0 := by omega
        subst hm0
        refine pXX ?_ h
        rw [← hR, rsF_0, if_pos (by omega)]
        rw [nI_iI]
    · refine Sx.iconst (v := (nI 0)) dX12_rests_123 (by decide) ?_
      refine Sx.istore (lv' := [(6, .int (nI 0)), (5, .int (nI x)), (4, .int (nI many)), (0, .ref 253), (1, .int (nI a)), (2, .int (nI b)), (3, .int i)]) dX12_rests_124 (by decide) rfl ?_
      refine Sx.sub' [(6, .int (nI 0)), (5, .int (nI x)), (4, .int (nI many)), (0, .ref 253), (1, .int (nI a)), (2, .int (nI b)), (3, .int i)] rfl ?_
      exact l_r2 W hM hg hH ha hb hab (by omega) h (fun m many q1 q2 q3 => ih (x + 1) (by omega) (by omega) m many q1 q2 q3) (V 2 34 + 1) 0 (by omega) (by omega) m many hmn (by omega) hR
set_option maxRecDepth 20000 in
set_option maxHeartbeats 1000000 in
theorem l_r0 {G : Gt} {l : Launch} {Z : Zt} {R : Rt} {I : It} {L : Lt} {post : Pt'} {V : Vt} {a b : Nat} {i : Int32} (W : WF Z R) (hM : MI V I L) (hg : GA V a b (I 276) (V 2 34) 0) (hH : HV V) (ha : a < V 2 35) (hb : b < V 2 35) (hab : a ≠ b) (h : post (some (.int (iI (rsF (isT V a b) i.toInt (V 2 34) (V 2 34 * V 2 34) (V 2 34 * 0) 0)))) Z R I L) : Sx G l mX12_rests 40 0 0 108 [(0, .ref 253), (1, .int (nI a)), (2, .int (nI b)), (3, .int i)] [] Z R I L post := by
  refine Sx.iconst (v := (nI 0)) dX12_rests_108 (by decide) ?_
  refine Sx.istore (lv' := [(4, .int (nI 0)), (0, .ref 253), (1, .int (nI a)), (2, .int (nI b)), (3, .int i)]) dX12_rests_109 (by decide) rfl ?_
  refine Sx.iconst (v := (nI 0)) dX12_rests_111 (by decide) ?_
  refine Sx.istore (lv' := [(5, .int (nI 0)), (4, .int (nI 0)), (0, .ref 253), (1, .int (nI a)), (2, .int (nI b)), (3, .int i)]) dX12_rests_112 (by decide) rfl ?_
  refine Sx.sub' [(5, .int (nI 0)), (4, .int (nI 0)), (0, .ref 253), (1, .int (nI a)), (2, .int (nI b)), (3, .int i)] rfl ?_
  exact l_r1 W hM hg hH ha hb hab h (V 2 34 + 1) 0 (by omega) (by omega) (V 2 34 * V 2 34) 0 (by omega) (by omega) rfl
set_option maxRecDepth 20000 in
set_option maxHeartbeats 1000000 in
theorem k_rests {G : Gt} {l : Launch} {Z : Zt} {R : Rt} {I : It} {L : Lt} {post : Pt'} {V : Vt} {N : Nat} {x y i : Int32} (W : WF Z R) (hM : MI V I L) (hG : GV N V) (hN : N < 2147483647) (h : QK post Z R I L V (restR V x y i)) : Cx G l mX12_rests 40 0 0 [.ref 253, .int x, .int y, .int i] Z R I L post := by
  refine Cx.of (by decide +kernel) (by exact Nat.le_of_ble_eq_true rfl) ?_
  have hi := x_rg i
  refine Sx.aload_n dX12_rests_0 rfl ?_
  refine Sx.iconst (v := (nI 0)) dX12_rests_1 (by decide) ?_
  refine Sx.putfV dX12_rests_2 lkp_X12_109_12 (o_253 W) rfl rfl (fun I1 e1 o1 => ?_)
  have M1 := hM.th (j := 0) (by unfold sfJ; decide) e1 o1
  have hf1 : FM R I L R I1 L := FM.i fun q hq => o1 q (by omega)
  have hp6 := hG.p
  have hb := hG.b
  have hB := hG.bnd
  refine Sx.aload_n dX12_rests_5 rfl ?_
  refine Sx.iload_n dX12_rests_6 rfl ?_
  refine Sx.iload_n dX12_rests_7 rfl ?_
  refine Sx.callV2 dX12_rests_8 lkv_X12_465 (rcv_12 (o_253 W)) (by decide) (by decide) (Nat.le_of_ble_eq_true rfl) rfl rfl (k_canPlay W M1 hp6.1 hB.2.2.2.2.2.1 ?_)
  refine Sx.if_eqD (t := 19) dX12_rests_11 (by decide) (fun c11 => ?_) (fun c11 => ?_)
  · refine Sx.iconst (v := (iI (-1))) dX12_rests_19 (by decide) ?_
    refine Sx.iret dX12_rests_20 rfl rfl ?_
    have hn : ¬ restC V x y i := fun z => by obtain ⟨z1, z2⟩ := z; first | (exact absurd z1 (by assumption)) | omega
    exact pXX (by unfold restR; rw [if_neg hn]; rfl) (h I1 R L M1 hf1)
  · refine Sx.iload_n dX12_rests_14 rfl ?_
    refine Sx.iconst (v := (iI (-1))) dX12_rests_15 (by decide) ?_
    refine Sx.icmp_geV (t := 21) dX12_rests_16 (by decide) (vX i) (vZ (by decide)) (fun c16 => ?_) (fun c16 => ?_)
    · have hc : restC V x y i := ⟨c11, by omega⟩
      have hH := hG.hv (by have := c11.1; omega)
      obtain ⟨p1, p2, p3, p4, p5, p6, p7, p8, p9⟩ := id hH.2.2.2.1
      obtain ⟨ca, cb, cab, -, -⟩ := id c11
      obtain ⟨x0, hx0, hx1⟩ := x_ex (x := x) (n := V 2 35) ⟨by omega, by omega⟩
      obtain ⟨y0, hy0, hy1⟩ := x_ex (x := y) (n := V 2 35) ⟨by omega, by omega⟩
      have tx := x_toN (p := x0) (by omega)
      have ty := x_toN (p := y0) (by omega)
      rw [← hx0] at tx
      rw [← hy0] at ty
      refine Sx.sub' [(0, .ref 253), (1, .int (nI x0)), (2, .int (nI y0)), (3, .int i)] (by rw [hx0, hy0]; rfl) ?_
      refine Sx.iconst (v := (nI 0)) dX12_rests_21 (by decide) ?_
      refine Sx.istore (lv' := [(4, .int (nI 0)), (0, .ref 253), (1, .int (nI x0)), (2, .int (nI y0)), (3, .int i)]) dX12_rests_22 (by decide) rfl ?_
      refine Sx.sub' [(4, .int (nI 0)), (0, .ref 253), (1, .int (nI x0)), (2, .int (nI y0)), (3, .int i)] rfl ?_
      exact l_f1 (R0 := R) (I0 := I) (L0 := L) hH (by omega) (by omega) (by omega) (fun R1 I1 L1 W1 hM1 hf1 hg => l_r0 W1 hM1 hg hH (by omega) (by omega) (by omega) (pXX (by unfold restR; rw [if_pos hc, hx0, hy0, xN_n (by omega), xN_n (by omega), Nat.mul_zero]) (h I1 R1 L1 hM1 hf1))) (V 2 34 + 1) 0 (by omega) (by omega) R I1 L W M1 hf1 (fun i0 j0 _ _ z => by omega)
    · refine Sx.iconst (v := (iI (-1))) dX12_rests_19 (by decide) ?_
      refine Sx.iret dX12_rests_20 rfl rfl ?_
      have hn : ¬ restC V x y i := fun z => by obtain ⟨z1, z2⟩ := z; first | (exact absurd z1 (by assumption)) | omega
      exact pXX (by unfold restR; rw [if_neg hn]; rfl) (h I1 R L M1 hf1)
