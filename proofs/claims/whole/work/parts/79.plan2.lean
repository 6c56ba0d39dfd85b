/-! the reference: run, perform -/
theorem coN_SG {P F : Nat → Nat} {w : Wt} {a x y : Int32} (hP : PB P) (hS : SG P F) (h : whN P F a x y = -1) : SG P (coN P w F a x y) := by
  have hO := Ok_of hP hS.1 h
  obtain ⟨p1, p2, p3, p4, p5, p6, p7, p8, p9⟩ := id hP
  by_cases k0 : a = 0
  · subst k0
    rw [cq_0]
    refine pdN_SG hP hS ?_
    have e := can_0 hP hS x y
    rw [h, decide_eq_true (rfl : (-1 : Int32) = -1)] at e
    exact of_decide_eq_true e
  · have hB := coN_SB (w := w) hP hS.1 (by have := hS.2.1; omega) hO
    have e : ∀ q, (q = 144 ∨ (P 35 ≤ q ∧ q < 6) ∨ (12 ≤ q ∧ q < 18)) → coN P w F a x y q = F q := by
      intro q hq
      unfold coN
      rw [if_neg k0]
      split
      · next c =>
        subst c
        obtain ⟨⟨p, k, rfl, rfl, hp, hk, hne⟩, hc⟩ := ok_1 hO
        rw [xN_n (by omega)]
        unfold upn
        rw [if_neg (by omega), if_neg (by omega)]
      · split
        · unfold upn; rw [if_neg (by omega)]
        · split
          · unfold upn; rw [if_neg (by omega)]
          · split
            · unfold upn; rw [if_neg (by omega), if_neg (by omega)]
            · split
              · unfold upn; rw [if_neg (by omega), if_neg (by omega)]
              · unfold upn; rw [if_neg (by omega)]
    exact ⟨hB, by rw [e 144 (Or.inl rfl)]; exact hS.2.1, fun p h1 h2 => by rw [e p (Or.inr (Or.inl ⟨h1, h2⟩))]; exact hS.2.2.1 p h1 h2, fun k h1 h2 => by rw [e (12 + k) (Or.inr (Or.inr ⟨by omega, by omega⟩))]; exact hS.2.2.2 k h1 h2⟩
def canF (P C : Nat → Nat) (s : Nat) (F : Nat → Nat) : Bool := decide (whN P F (cA C s) (cX C s) (cY C s) = -1)
def goF (P : Nat → Nat) (w : Wt) (C : Nat → Nat) (s : Nat) (F : Nat → Nat) : Nat → Nat := coN P w F (cA C s) (cX C s) (cY C s)
abbrev runC (V : Vt) (x y : Int32) : Prop := (0 ≤ x.toInt ∧ x.toInt < (V 0 3 : Int)) ∧ V 2 35 ≠ 0 ∧ 0 ≤ y.toInt ∧ y.toInt ≤ 1
def runN (V : Vt) (p : Nat) : Nat × (Nat → Nat) := rnG (canF (V 2) (V (20 + p))) (goF (V 2) (wlV V) (V (20 + p))) (V (20 + p) 60) 0 (V 3)
def runX (V : Vt) (n q : Nat) (r : Nat × (Nat → Nat)) : Int32 := if q = 1 then iI ((r.2 142 : Int) - (V 3 142 : Int)) else if r.1 = n then iI (-1) else nI r.1
def runR (V : Vt) (x y : Int32) : Int32 := if runC V x y then runX V (V (20 + xN x) 60) (xN y) (runN V (xN x)) else HID
set_option maxRecDepth 20000 in
set_option maxHeartbeats 1000000 in
theorem l_run {G : Gt} {l : Launch} {Z : Zt} {post : Pt'} {V : Vt} {R0 : Rt} {I0 : It} {L0 : Lt} {p q : Nat} {FF : Nat × (Nat → Nat)} (hH : HV V) (hC : CA V) (hp : p < V 0 3) (hq : q ≤ 1) (hb4 : V 0 3 ≤ 4) (hcb : V (20 + p) 60 ≤ 20 ∧ ∀ z, z < 60 → V (20 + p) z ≤ 10) (h : ∀ R' I' L', MI V I' L' → FM R0 I0 L0 R' I' L' → post (some (.int (runX V (V (20 + p) 60) q FF))) Z R' I' L') :
    ∀ (k m : Nat), m < k → ∀ (G0 : Nat → Nat) (i : Nat) (R : Rt) (I : It) (L : Lt), WF Z R → MI V I L → MW (I 267) G0 → SG (V 2) G0 → i + m = V (20 + p) 60 → FM R0 I0 L0 R I L → rnG (canF (V 2) (V (20 + p))) (goF (V 2) (wlV V) (V (20 + p))) m i G0 = FF → Sx G l mX12_run 38 0 0 50 [(3, .int (nI i)), (0, .ref 253), (1, .int (nI p)), (2, .int (nI q))] [] Z R I L post := by
  obtain ⟨p1, p2, p3, p4, p5, p6, p7, p8, p9⟩ := id hH.2.2.2.1
  have g22 := hH.2.2.2.2.1.2.2.2.2.2.2.2.2.2.2.1
  intro k
  induction k with
  | zero => intro m h1; omega
  | succ k ih =>
    intro m h1 G0 i R I L W hM hF hS him hf hV
    have f22 := hS.1.2.2.2.2.2.2.2.2.2.2.1
    refine Sx.iload_n dX12_run_50 rfl ?_
    refine Sx.aload_n dX12_run_51 rfl ?_
    refine Sx.getfR dX12_run_52 lkf_X12_58_12 (o_253 W) (r_253_25 W) ?_
    refine Sx.iload_n dX12_run_55 rfl ?_
    refine Sx.ialdN dX12_run_56 (a_265 W) (by omega) (by decide) (v := (nI (V (20 + p) 60))) (hM.1.2.2.2.2.1 p hp).1 ?_
    refine Sx.icmp_geV (t := 130) dX12_run_57 (by decide) (vN (by omega)) (vN (by omega)) (fun c57 => ?_) (fun c57 => ?_)
    · have hm0 : m = 0 := by omega
      subst hm0
      rw [rnG_0] at hV
      subst hV
      refine Sx.iload_n dX12_run_130 rfl ?_
      refine Sx.iconst (v := (nI 1)) dX12_run_131 (by decide) ?_
      refine Sx.icmp_neV (t := 151) dX12_run_132 (by decide) (vN (by omega)) (vN (by decide)) (fun c132 => ?_) (fun c132 => ?_)
      · refine Sx.iload_n dX12_run_151 rfl ?_
        refine Sx.aload_n dX12_run_152 rfl ?_
        refine Sx.getfR dX12_run_153 lkf_X12_58_12 (o_253 W) (r_253_25 W) ?_
        refine Sx.iload_n dX12_run_156 rfl ?_
        refine Sx.ialdN dX12_run_157 (a_265 W) (by omega) (by decide) (v := (nI (V (20 + p) 60))) (hM.1.2.2.2.2.1 p hp).1 ?_
        refine Sx.icmp_neV (t := 165) dX12_run_158 (by decide) (vN (by omega)) (vN (by omega)) (fun c158 => ?_) (fun c158 => ?_)
        · refine Sx.iload_n dX12_run_165 rfl ?_
          refine Sx.iret dX12_run_166 rfl rfl ?_
          exact pXX (by unfold runX; rw [if_neg (by omega), if_neg (by show ¬ i = _; omega)]) (h R I L hM hf)
        · refine Sx.iconst (v := (iI (-1))) dX12_run_161 (by decide) ?_
          refine Sx.goto (t := 166) dX12_run_162 (by decide) ?_
          refine Sx.iret dX12_run_166 rfl rfl ?_
          exact pXX (by unfold runX; rw [if_neg (by omega), if_pos (by show i = _; omega)]) (h R I L hM hf)
      · refine Sx.aload_n dX12_run_135 rfl ?_
        refine Sx.getfR dX12_run_136 lkf_X12_64_12 (o_253 W) (r_253_33 W) ?_
        refine Sx.bipush (v := (nI 22)) dX12_run_139 (by decide) ?_
        refine Sx.ialdN dX12_run_141 (a_267 W) (by decide) (by decide) (v := (nI (G0 142))) (hF.2.2.2.2.2.1) ?_
        refine Sx.aload_n dX12_run_142 rfl ?_
        refine Sx.getfR dX12_run_143 lkf_X12_61_12 (o_253 W) (r_253_32 W) ?_
        refine Sx.bipush (v := (nI 22)) dX12_run_146 (by decide) ?_
        refine Sx.ialdN dX12_run_148 (a_266 W) (by decide) (by decide) (v := (nI (V 3 142))) (hM.2.1.2.2.2.2.2.1) ?_
        refine Sx.isubV dX12_run_149 (vN (by omega)) (vN (by omega)) ?_
        refine Sx.iret dX12_run_150 rfl rfl ?_
        exact pXX (by unfold runX; rw [if_pos (by omega)]) (h R I L hM hf)
    · have hs : i < V (20 + p) 60 := by omega
      have hA := hC p hp i hs
      refine Sx.aload_n dX12_run_60 rfl ?_
      refine Sx.aload_n dX12_run_61 rfl ?_
      refine Sx.getfR dX12_run_62 lkf_X12_64_12 (o_253 W) (r_253_33 W) ?_
      refine Sx.iconst (v := (nI 3)) dX12_run_65 (by decide) ?_
      refine Sx.bipush (v := (nI 20)) dX12_run_66 (by decide) ?_
      refine Sx.iload_n dX12_run_68 rfl ?_
      refine Sx.imulN dX12_run_69 ?_
      refine Sx.iload_n dX12_run_70 rfl ?_
      refine Sx.iaddN dX12_run_71 ?_
      refine Sx.imulN dX12_run_72 ?_
      refine Sx.callV2 dX12_run_73 lkv_X12_438 (rcv_12 (o_253 W)) (by decide) (by decide) (Nat.le_of_ble_eq_true rfl) rfl rfl (k_canStep (i := p) (s := i) (F := G0) W hM.1 hF (Or.inr rfl) hH.2.2.2.1 hS hp hb4 hcb hs hA ?_)
      refine Sx.if_eqD (t := 130) dX12_run_76 (by decide) (fun c76 => ?_) (fun c76 => ?_)
      · have hk0 := c76
        have hV : (i, G0) = FF := by rw [← hV, show m = m - 1 + 1 by omega]; exact (rnG_n (fun z => hk0 (of_decide_eq_true z))).symm
        subst hV
        refine Sx.iload_n dX12_run_130 rfl ?_
        refine Sx.iconst (v := (nI 1)) dX12_run_131 (by decide) ?_
        refine Sx.icmp_neV (t := 151) dX12_run_132 (by decide) (vN (by omega)) (vN (by decide)) (fun c132 => ?_) (fun c132 => ?_)
        · refine Sx.iload_n dX12_run_151 rfl ?_
          refine Sx.aload_n dX12_run_152 rfl ?_
          refine Sx.getfR dX12_run_153 lkf_X12_58_12 (o_253 W) (r_253_25 W) ?_
          refine Sx.iload_n dX12_run_156 rfl ?_
          refine Sx.ialdN dX12_run_157 (a_265 W) (by omega) (by decide) (v := (nI (V (20 + p) 60))) (hM.1.2.2.2.2.1 p hp).1 ?_
          refine Sx.icmp_neV (t := 165) dX12_run_158 (by decide) (vN (by omega)) (vN (by omega)) (fun c158 => ?_) (fun c158 => ?_)
          · refine Sx.iload_n dX12_run_165 rfl ?_
            refine Sx.iret dX12_run_166 rfl rfl ?_
            exact pXX (by unfold runX; rw [if_neg (by omega), if_neg (by show ¬ i = _; omega)]) (h R I L hM hf)
          · refine Sx.iconst (v := (iI (-1))) dX12_run_161 (by decide) ?_
            refine Sx.goto (t := 166) dX12_run_162 (by decide) ?_
            refine Sx.iret dX12_run_166 rfl rfl ?_
            exact pXX (by unfold runX; rw [if_neg (by omega), if_pos (by show i = _; omega)]) (h R I L hM hf)
        · refine Sx.aload_n dX12_run_135 rfl ?_
          refine Sx.getfR dX12_run_136 lkf_X12_64_12 (o_253 W) (r_253_33 W) ?_
          refine Sx.bipush (v := (nI 22)) dX12_run_139 (by decide) ?_
          refine Sx.ialdN dX12_run_141 (a_267 W) (by decide) (by decide) (v := (nI (G0 142))) (hF.2.2.2.2.2.1) ?_
          refine Sx.aload_n dX12_run_142 rfl ?_
          refine Sx.getfR dX12_run_143 lkf_X12_61_12 (o_253 W) (r_253_32 W) ?_
          refine Sx.bipush (v := (nI 22)) dX12_run_146 (by decide) ?_
          refine Sx.ialdN dX12_run_148 (a_266 W) (by decide) (by decide) (v := (nI (V 3 142))) (hM.2.1.2.2.2.2.2.1) ?_
          refine Sx.isubV dX12_run_149 (vN (by omega)) (vN (by omega)) ?_
          refine Sx.iret dX12_run_150 rfl rfl ?_
          exact pXX (by unfold runX; rw [if_pos (by omega)]) (h R I L hM hf)
      · have hk : whN (V 2) G0 (cA (V (20 + p)) i) (cX (V (20 + p)) i) (cY (V (20 + p)) i) = -1 := c76
        refine Sx.aload_n dX12_run_79 rfl ?_
        refine Sx.getfR dX12_run_80 lkf_X12_55_12 (o_253 W) (r_253_24 W) ?_
        refine Sx.iconst (v := (nI 3)) dX12_run_83 (by decide) ?_
        refine Sx.bipush (v := (nI 20)) dX12_run_84 (by decide) ?_
        refine Sx.iload_n dX12_run_86 rfl ?_
        refine Sx.imulN dX12_run_87 ?_
        refine Sx.iload_n dX12_run_88 rfl ?_
        refine Sx.iaddN dX12_run_89 ?_
        refine Sx.imulN dX12_run_90 ?_
        refine Sx.ialdN dX12_run_91 (a_264 W) (by omega) (by decide) (v := (iI ((V (20 + p) (3 * i) : Int) - 1))) (by rw [show 3 * ((20 * p) + i) = 60 * p + (3 * i) by omega]; exact (hM.1.2.2.2.2.1 p hp).2 (3 * i) (by omega)) ?_
        refine Sx.if_neV (t := 108) dX12_run_92 (by decide) (vZ (by omega)) (fun c92 => ?_) (fun c92 => ?_)
        · refine Sx.aload_n dX12_run_108 rfl ?_
          refine Sx.aload_n dX12_run_109 rfl ?_
          refine Sx.getfR dX12_run_110 lkf_X12_64_12 (o_253 W) (r_253_33 W) ?_
          refine Sx.iconst (v := (nI 3)) dX12_run_113 (by decide) ?_
          refine Sx.bipush (v := (nI 20)) dX12_run_114 (by decide) ?_
          refine Sx.iload_n dX12_run_116 rfl ?_
          refine Sx.imulN dX12_run_117 ?_
          refine Sx.iload_n dX12_run_118 rfl ?_
          refine Sx.iaddN dX12_run_119 ?_
          refine Sx.imulN dX12_run_120 ?_
          refine Sx.callV2 dX12_run_121 lkv_X12_442 (rcv_12 (o_253 W)) (by decide) (by decide) (Nat.le_of_ble_eq_true rfl) rfl rfl (k_goStep (i := p) (s := i) (F := G0) W hM.1 hF (Or.inr rfl) hH.2.2.2.1 hS hp hb4 hcb hs hA (by omega) hk (fun I1 hF1 og1 oz1 => ?_))
          have hM1 := hM.sc (a := 267) (by unfold scr; decide) og1
          have fl1 : FM R I L R I1 L := FM.i fun q hq => og1 q (by omega)
          refine Sx.iinc (v := (nI (i + 1))) (lv' := [(3, .int (nI (i + 1))), (0, .ref 253), (1, .int (nI p)), (2, .int (nI q))]) dX12_run_124 rfl (nI_add i 1) (by decide) rfl ?_
          refine Sx.goto (t := 50) dX12_run_127 (by decide) ?_
          refine Sx.sub' [(3, .int (nI (i + 1))), (0, .ref 253), (1, .int (nI p)), (2, .int (nI q))] rfl ?_
          exact ih (m - 1) (by omega) (coN (V 2) (wlV V) G0 (cA (V (20 + p)) i) (cX (V (20 + p)) i) (cY (V (20 + p)) i)) (i + 1) R I1 L W hM1 hF1 (coN_SG hH.2.2.2.1 hS hk) (by omega) (hf.tr fl1) (by rw [← hV, show m = m - 1 + 1 by omega]; exact (rnG_y (decide_eq_true hk)).symm)
        · refine Sx.aload_n dX12_run_95 rfl ?_
          refine Sx.aload_n dX12_run_96 rfl ?_
          refine Sx.getfR dX12_run_97 lkf_X12_64_12 (o_253 W) (r_253_33 W) ?_
          refine Sx.callV1 dX12_run_100 lkv_X12_372 (rcv_12 (o_253 W)) (by decide) (by decide) (Nat.le_of_ble_eq_true rfl) rfl rfl (k_psT W hM hH hS.1 hF (fun I2 R2 L2 hM2 hF2 fl2 => ?_))
          have W := fl2.wf W
          have hG1 : coN (V 2) (wlV V) G0 (cA (V (20 + p)) i) (cX (V (20 + p)) i) (cY (V (20 + p)) i) = pdN (V 2) (wlV V) G0 := by rw [show cA (V (20 + p)) i = 0 from (by unfold cA; rw [show (V (20 + p) (3 * i) : Int) - 1 = 0 by omega]; rfl)]; exact cq_0 _ _ _ _ _
          rw [← hG1] at hF2
          refine Sx.istore (lv' := [(4, .int (nI (litN (V 2) (wlV V) G0 (G0 145) (G0 139) (upc (V 2) G0)))), (3, .int (nI i)), (0, .ref 253), (1, .int (nI p)), (2, .int (nI q))]) dX12_run_103 (by decide) rfl ?_
          refine Sx.goto (t := 124) dX12_run_105 (by decide) ?_
          refine Sx.iinc (v := (nI (i + 1))) (lv' := [(3, .int (nI (i + 1))), (4, .int (nI (litN (V 2) (wlV V) G0 (G0 145) (G0 139) (upc (V 2) G0)))), (0, .ref 253), (1, .int (nI p)), (2, .int (nI q))]) dX12_run_124 rfl (nI_add i 1) (by decide) rfl ?_
          refine Sx.goto (t := 50) dX12_run_127 (by decide) ?_
          refine Sx.sub' [(3, .int (nI (i + 1))), (0, .ref 253), (1, .int (nI p)), (2, .int (nI q))] rfl ?_
          exact ih (m - 1) (by omega) (coN (V 2) (wlV V) G0 (cA (V (20 + p)) i) (cX (V (20 + p)) i) (cY (V (20 + p)) i)) (i + 1) R2 I2 L2 W hM2 hF2 (coN_SG hH.2.2.2.1 hS hk) (by omega) (hf.tr fl2) (by rw [← hV, show m = m - 1 + 1 by omega]; exact (rnG_y (decide_eq_true hk)).symm)
set_option maxRecDepth 20000 in
set_option maxHeartbeats 1000000 in
theorem k_run {G : Gt} {l : Launch} {Z : Zt} {R : Rt} {I : It} {L : Lt} {post : Pt'} {V : Vt} {N : Nat} {x y : Int32} (W : WF Z R) (hM : MI V I L) (hG : GV N V) (hN : N < 2147483647) (hC : CA V) (h : QK post Z R I L V (runR V x y)) : Cx G l mX12_run 38 0 0 [.ref 253, .int x, .int y] Z R I L post := by
  refine Cx.of (by decide +kernel) (by exact Nat.le_of_ble_eq_true rfl) ?_
  refine Sx.aload_n dX12_run_0 rfl ?_
  refine Sx.iconst (v := (nI 0)) dX12_run_1 (by decide) ?_
  refine Sx.putfV dX12_run_2 lkp_X12_109_12 (o_253 W) rfl rfl (fun I1 e1 o1 => ?_)
  have M1 := hM.th (j := 0) (by unfold sfJ; decide) e1 o1
  have hf1 : FM R I L R I1 L := FM.i fun q hq => o1 q (by omega)
  have hp6 := hG.p
  have hb := hG.b
  have hB := hG.bnd
  refine Sx.aload_n dX12_run_5 rfl ?_
  refine Sx.iload_n dX12_run_6 rfl ?_
  refine Sx.callV1 dX12_run_7 lkv_X12_431 (rcv_12 (o_253 W)) (by decide) (by decide) (Nat.le_of_ble_eq_true rfl) rfl rfl (k_isPlan W M1.1 hb.2 ?_)
  refine Sx.if_eqD (t := 30) dX12_run_10 (by decide) (fun c10 => ?_) (fun c10 => ?_)
  · refine Sx.ldc_w dX12_run_30 lkk_X12_380 ?_
    refine Sx.top (show _ = (iI (-1000000)) by decide) ?_
    refine Sx.iret dX12_run_33 rfl rfl ?_
    have hn : ¬ runC V x y := fun z => by omega
    exact pXX (by unfold runR; rw [if_neg hn]) (h I1 R L M1 hf1)
  · refine Sx.aload_n dX12_run_13 rfl ?_
    refine Sx.getfV (v := (nI (V 2 35))) dX12_run_14 lkf_X12_307_12 (o_253 W) M1.1.1.2.2.2.1 ?_
    refine Sx.if_eqV (t := 30) dX12_run_17 (by decide) (vN (by omega)) (fun c17 => ?_) (fun c17 => ?_)
    · refine Sx.ldc_w dX12_run_30 lkk_X12_380 ?_
      refine Sx.top (show _ = (iI (-1000000)) by decide) ?_
      refine Sx.iret dX12_run_33 rfl rfl ?_
      have hn : ¬ runC V x y := fun z => by omega
      exact pXX (by unfold runR; rw [if_neg hn]) (h I1 R L M1 hf1)
    · refine Sx.iload_n dX12_run_20 rfl ?_
      refine Sx.i2l dX12_run_21 ?_
      refine Sx.lconst (v := 0) dX12_run_22 (by decide) ?_
      refine Sx.lconst (v := 1) dX12_run_23 (by decide) ?_
      refine Sx.callS3 dX12_run_24 lkc_X12_230  (by decide) (by decide) (Nat.le_of_ble_eq_true rfl) rfl rfl (k_isIn (vLi (vX y)) (show VL 0 0 from rfl) (show VL 1 1 from rfl) ?_)
      refine Sx.if_neD (t := 34) dX12_run_27 (by decide) (fun c27 => ?_) (fun c27 => ?_)
      · have hH := hG.hv (by omega)
        obtain ⟨p1, p2, p3, p4, p5, p6, p7, p8, p9⟩ := id hH.2.2.2.1
        have hS0 := hH.2.2.2.2.1
        have hy0 := hH.2.2.2.2.2.1
        have hc : runC V x y := ⟨by omega, by omega, by omega, by omega⟩
        obtain ⟨p, rfl, hp⟩ := x_ex (x := x) (n := V 0 3) ⟨by omega, by omega⟩
        obtain ⟨q, rfl, hq⟩ := x_ex (x := y) (n := 2) ⟨by omega, by omega⟩
        have hcb := hG.2.2.1.2 p hp
        refine Sx.sub' [(0, .ref 253), (1, .int (nI p)), (2, .int (nI q))] rfl ?_
        refine Sx.aload_n dX12_run_34 rfl ?_
        refine Sx.getfR dX12_run_35 lkf_X12_61_12 (o_253 W) (r_253_32 W) ?_
        refine Sx.aload_n dX12_run_38 rfl ?_
        refine Sx.getfR dX12_run_39 lkf_X12_64_12 (o_253 W) (r_253_33 W) ?_
        refine Sx.callS2 dX12_run_42 lkc_X12_434  (by decide) (by decide) (Nat.le_of_ble_eq_true rfl) rfl rfl (k_cpT W M1 (fun I2 hM2 hF2 o2 fc2 => ?_))
        have hf2 := hf1.tr fc2
        refine Sx.iconst (v := (nI 0)) dX12_run_45 (by decide) ?_
        refine Sx.istore_n (lv' := [(3, .int (nI 0)), (0, .ref 253), (1, .int (nI p)), (2, .int (nI q))]) dX12_run_46 (by decide) rfl ?_
        refine Sx.iconst (v := (nI 0)) dX12_run_47 (by decide) ?_
        refine Sx.istore (lv' := [(4, .int (nI 0)), (3, .int (nI 0)), (0, .ref 253), (1, .int (nI p)), (2, .int (nI q))]) dX12_run_48 (by decide) rfl ?_
        refine Sx.sub' [(3, .int (nI 0)), (0, .ref 253), (1, .int (nI p)), (2, .int (nI q))] rfl ?_
        exact l_run (FF := runN V p) hH hC hp (by omega) hb.2 hcb (fun R' I' L' m f => pXX (by unfold runR; rw [if_pos hc, xN_n (by omega), xN_n (by omega)]) (h I' R' L' m f)) (V (20 + p) 60 + 1) (V (20 + p) 60) (by omega) (V 3) 0 R I2 L W hM2 hF2 hH.2.2.2.2 (by omega) hf2 rfl
      · refine Sx.ldc_w dX12_run_30 lkk_X12_380 ?_
        refine Sx.top (show _ = (iI (-1000000)) by decide) ?_
        refine Sx.iret dX12_run_33 rfl rfl ?_
        have hn : ¬ runC V x y := fun z => by omega
        exact pXX (by unfold runR; rw [if_neg hn]) (h I1 R L M1 hf1)
/-! perform: the state goes on -/
def canG (C : Nat → Nat) (s : Nat) (V : Vt) : Bool := decide (whN (V 2) (V 3) (cA C s) (cX C s) (cY C s) = -1)
def goG (C : Nat → Nat) (s : Nat) (V : Vt) : Vt := vr (rmV V) 3 (coN (V 2) (wlV V) (V 3) (cA C s) (cX C s) (cY C s))
abbrev perC (V : Vt) (x : Int32) : Prop := (0 ≤ x.toInt ∧ x.toInt < (V 0 3 : Int)) ∧ V 2 35 ≠ 0
def perN (V : Vt) (p : Nat) : Nat × Vt := rnG (canG (V (20 + p))) (goG (V (20 + p))) (V (20 + p) 60) 0 V
def perV (V : Vt) (x : Int32) : Vt := if perC V x then (perN V (xN x)).2 else V
def perR (V : Vt) (x : Int32) : Int32 := if perC V x then nI (perN V (xN x)).1 else -1
theorem goG_o (C : Nat → Nat) (s : Nat) (V : Vt) {p : Nat} (h0 : p ≠ 0) (h3 : p ≠ 3) (h : p < 30) : goG C s V p = V p := by unfold goG; rw [vr_o _ _ h3, rm_o V h0 h]
theorem goG_0 (C : Nat → Nat) (s : Nat) (V : Vt) {q : Nat} (h : q ≠ 4) : goG C s V 0 q = V 0 q := by unfold goG; rw [vr_o _ _ (by decide), rm_0 V h]
theorem goG_H {C : Nat → Nat} {s : Nat} {V : Vt} (h : HV V) (hk : whN (V 2) (V 3) (cA C s) (cX C s) (cY C s) = -1) : HV (goG C s V) := h.rm.v3 (by rw [rm_o V (by decide) (by decide)]; exact coN_SG h.2.2.2.1 h.2.2.2.2 hk)
set_option maxRecDepth 20000 in
set_option maxHeartbeats 1000000 in
theorem k_goStR {G : Gt} {l : Launch} {Z : Zt} {R : Rt} {I : It} {L : Lt} {post : Pt'} {V : Vt} {i s : Nat} {C : Nat → Nat} (W : WF Z R) (hM : MI (rmV V) I L) (hH : HV V) (hi : i < V 0 3) (hC : V (20 + i) = C) (hcb : C 60 ≤ 20 ∧ ∀ z, z < 60 → C z ≤ 10) (hs : s < C 60) (hA : 1 ≤ C (3 * s) ∧ C (3 * s) ≤ 6) (hn0 : C (3 * s) ≠ 1) (hk : whN (V 2) (V 3) (cA C s) (cX C s) (cY C s) = -1) (h : ∀ I', MI (goG C s V) I' L → (∀ q, q ≠ 266 → I' q = I q) → post none Z R I' L) : Cx G l mX12_goStep 1 0 0 [.ref 253, .ref 266, .int (nI (3 * (20 * i + s)))] Z R I L post := by
  have e20 : rmV V (20 + i) = C := by rw [rm_o V (by omega) (by have := hH.2.1; omega)]; exact hC
  have e2 : rmV V 2 = V 2 := rm_o V (by decide) (by decide)
  have e3 : rmV V 0 3 = V 0 3 := rm_0 V (by decide)
  have hb : rmV V 0 1 ≤ 4 ∧ rmV V 0 3 ≤ 4 := rmb ⟨hH.1.1, hH.2.1⟩
  refine k_goStep (V := rmV V) (i := i) (s := s) (F := V 3) W hM.1 hM.w3.1 (Or.inl rfl) (by rw [e2]; exact hH.2.2.2.1) (by rw [e2]; exact hH.2.2.2.2) (by rw [e3]; exact hi) (by rw [e3]; exact hH.2.1) (by rw [e20]; exact hcb) (by rw [e20]; exact hs) (by rw [e20]; exact hA) (by rw [e20]; exact hn0) (by rw [e20, e2]; exact hk) (fun I' m o z => h I' ?_ o)
  rw [e20, e2, wl_rm hH] at m
  refine MI.row hM hb o ⟨m, ?_⟩
  have hO := Ok_of hH.2.2.2.1 hH.2.2.2.2.1 hk
  have hw3 := hM.w3.2
  have h0 : cA C s ≠ 0 := by
    unfold cA
    intro e
    have e1 := congrArg Int32.toInt e
    rw [iI_toInt (by omega) (by omega), show (0 : Int32).toInt = 0 by decide] at e1
    omega
  have ec : ∀ q, (q = 144 ∨ (78 ≤ q ∧ q < 138)) → coN (V 2) (wlV V) (V 3) (cA C s) (cX C s) (cY C s) q = V 3 q := by
    intro q hq
    have p8 := hH.2.2.2.1.2.2.2.2.2.2.2.1
    unfold coN
    rw [if_neg h0]
    split
    · next c =>
      rw [c] at hO
      obtain ⟨⟨p, k, e1, e2, hp, hk, hne⟩, hc⟩ := ok_1 hO
      rw [e1, xN_n (by omega)]
      unfold upn
      rw [if_neg (by omega), if_neg (by omega)]
    · split
      · unfold upn; rw [if_neg (by omega)]
      · split
        · unfold upn; rw [if_neg (by omega)]
        · split
          · unfold upn; rw [if_neg (by omega), if_neg (by omega)]
          · split
            · unfold upn; rw [if_neg (by omega), if_neg (by omega)]
            · unfold upn; rw [if_neg (by omega)]
  exact hw3.keep z (ec 144 (Or.inl rfl)) (fun j hj => ec _ (Or.inr ⟨by omega, by omega⟩))
set_option maxRecDepth 20000 in
set_option maxHeartbeats 1000000 in
theorem l_per {G : Gt} {l : Launch} {Z : Zt} {post : Pt'} {R0 : Rt} {I0 : It} {L0 : Lt} {p : Nat} {C : Nat → Nat} {FF : Nat × Vt} (hC : ∀ s, s < C 60 → 1 ≤ C (3 * s) ∧ C (3 * s) ≤ 6) (hcb : C 60 ≤ 20 ∧ ∀ z, z < 60 → C z ≤ 10) (h : ∀ R' I' L', MI FF.2 I' L' → FM R0 I0 L0 R' I' L' → post (some (.int (nI FF.1))) Z R' I' L') :
    ∀ (k m : Nat), m < k → ∀ (V : Vt) (i : Nat) (R : Rt) (I : It) (L : Lt), WF Z R → MI V I L → HV V → p < V 0 3 → V (20 + p) = C → i + m = C 60 → FM R0 I0 L0 R I L → rnG (canG C) (goG C) m i V = FF → Sx G l mX12_perform 39 0 0 26 [(2, .int (nI i)), (0, .ref 253), (1, .int (nI p))] [] Z R I L post := by
  intro k
  induction k with
  | zero => intro m h1; omega
  | succ k ih =>
    intro m h1 V i R I L W hM hH hp hVC him hf hV
    have hp4 := hH.2.1
    refine Sx.iload_n dX12_perform_26 rfl ?_
    refine Sx.aload_n dX12_perform_27 rfl ?_
    refine Sx.getfR dX12_perform_28 lkf_X12_58_12 (o_253 W) (r_253_25 W) ?_
    refine Sx.iload_n dX12_perform_31 rfl ?_
    refine Sx.ialdN dX12_perform_32 (a_265 W) (by omega) (by decide) (v := (nI (C 60))) (by rw [← hVC]; exact (hM.1.2.2.2.2.1 p hp).1) ?_
    refine Sx.icmp_geV (t := 105) dX12_perform_33 (by decide) (vN (by omega)) (vN (by omega)) (fun c33 => ?_) (fun c33 => ?_)
    · have hm0 : m = 0 := by omega
      subst hm0
      rw [rnG_0] at hV
      subst hV
      refine Sx.iload_n dX12_perform_105 rfl ?_
      refine Sx.iret dX12_perform_106 rfl rfl ?_
      exact h R I L hM hf
    · have hs : i < C 60 := by omega
      have hA := hC i hs
      refine Sx.aload_n dX12_perform_36 rfl ?_
      refine Sx.aload_n dX12_perform_37 rfl ?_
      refine Sx.getfR dX12_perform_38 lkf_X12_61_12 (o_253 W) (r_253_32 W) ?_
      refine Sx.iconst (v := (nI 3)) dX12_perform_41 (by decide) ?_
      refine Sx.bipush (v := (nI 20)) dX12_perform_42 (by decide) ?_
      refine Sx.iload_n dX12_perform_44 rfl ?_
      refine Sx.imulN dX12_perform_45 ?_
      refine Sx.iload_n dX12_perform_46 rfl ?_
      refine Sx.iaddN dX12_perform_47 ?_
      refine Sx.imulN dX12_perform_48 ?_
      refine Sx.callV2 dX12_perform_49 lkv_X12_438 (rcv_12 (o_253 W)) (by decide) (by decide) (Nat.le_of_ble_eq_true rfl) rfl rfl (k_canStep (i := p) (s := i) (F := V 3) W hM.1 hM.2.1 (Or.inl rfl) hH.2.2.2.1 hH.2.2.2.2 hp hH.2.1 (by rw [hVC]; exact hcb) (by rw [hVC]; exact hs) (by rw [hVC]; exact hA) ?_)
      rw [hVC]
      refine Sx.if_eqD (t := 105) dX12_perform_52 (by decide) (fun c52 => ?_) (fun c52 => ?_)
      · have hk0 := c52
        have hV : (i, V) = FF := by rw [← hV, show m = m - 1 + 1 by omega]; exact (rnG_n (fun z => hk0 (of_decide_eq_true z))).symm
        subst hV
        refine Sx.iload_n dX12_perform_105 rfl ?_
        refine Sx.iret dX12_perform_106 rfl rfl ?_
        exact h R I L hM hf
      · have hk : whN (V 2) (V 3) (cA C i) (cX C i) (cY C i) = -1 := c52
        refine Sx.aload_n dX12_perform_55 rfl ?_
        refine Sx.callV0 dX12_perform_56 lkv_X12_396 (rcv_12 (o_253 W)) (by decide) (by decide) (Nat.le_of_ble_eq_true rfl) rfl rfl (k_remember W hM ⟨hH.1.1, hH.2.1⟩ hH.2.2.1 (fun I1 hM1 r1 t1 => ?_))
        have hf1 := hf.tr (FM.i (R := R) (L := L) fun q hq => r1 q (by omega) (by omega))
        have hac := (hM1.1.2.2.2.2.1 p (by rw [rm_0 V (by decide)]; exact hp)).2 (3 * i)
        rw [rm_o V (by omega) (by have := hH.2.1; omega), hVC] at hac
        refine Sx.aload_n dX12_perform_59 rfl ?_
        refine Sx.getfR dX12_perform_60 lkf_X12_55_12 (o_253 W) (r_253_24 W) ?_
        refine Sx.iconst (v := (nI 3)) dX12_perform_63 (by decide) ?_
        refine Sx.bipush (v := (nI 20)) dX12_perform_64 (by decide) ?_
        refine Sx.iload_n dX12_perform_66 rfl ?_
        refine Sx.imulN dX12_perform_67 ?_
        refine Sx.iload_n dX12_perform_68 rfl ?_
        refine Sx.iaddN dX12_perform_69 ?_
        refine Sx.imulN dX12_perform_70 ?_
        refine Sx.ialdN dX12_perform_71 (a_264 W) (by omega) (by decide) (v := (iI ((C (3 * i) : Int) - 1))) (by rw [show 3 * ((20 * p) + i) = 60 * p + (3 * i) by omega]; exact hac (by omega)) ?_
        refine Sx.if_neV (t := 83) dX12_perform_72 (by decide) (vZ (by omega)) (fun c72 => ?_) (fun c72 => ?_)
        · refine Sx.aload_n dX12_perform_83 rfl ?_
          refine Sx.aload_n dX12_perform_84 rfl ?_
          refine Sx.getfR dX12_perform_85 lkf_X12_61_12 (o_253 W) (r_253_32 W) ?_
          refine Sx.iconst (v := (nI 3)) dX12_perform_88 (by decide) ?_
          refine Sx.bipush (v := (nI 20)) dX12_perform_89 (by decide) ?_
          refine Sx.iload_n dX12_perform_91 rfl ?_
          refine Sx.imulN dX12_perform_92 ?_
          refine Sx.iload_n dX12_perform_93 rfl ?_
          refine Sx.iaddN dX12_perform_94 ?_
          refine Sx.imulN dX12_perform_95 ?_
          refine Sx.callV2 dX12_perform_96 lkv_X12_442 (rcv_12 (o_253 W)) (by decide) (by decide) (Nat.le_of_ble_eq_true rfl) rfl rfl (k_goStR (i := p) (s := i) W hM1 hH hp hVC hcb hs hA (by omega) hk (fun I2 hM2 og2 => ?_))
          have hf2 := hf1.tr (FM.i (R := R) (L := L) fun q hq => og2 q (by omega))
          refine Sx.iinc (v := (nI (i + 1))) (lv' := [(2, .int (nI (i + 1))), (0, .ref 253), (1, .int (nI p))]) dX12_perform_99 rfl (nI_add i 1) (by decide) rfl ?_
          refine Sx.goto (t := 26) dX12_perform_102 (by decide) ?_
          refine Sx.sub' [(2, .int (nI (i + 1))), (0, .ref 253), (1, .int (nI p))] rfl ?_
          exact ih (m - 1) (by omega) (goG C i V) (i + 1) R I2 L W hM2 (goG_H hH hk) (by rw [goG_0 _ _ _ (by decide)]; exact hp) (by rw [goG_o _ _ _ (by omega) (by omega) (by have := hH.2.1; omega)]; exact hVC) (by omega) hf2 (by rw [← hV, show m = m - 1 + 1 by omega]; exact (rnG_y (decide_eq_true hk)).symm)
        · refine Sx.aload_n dX12_perform_75 rfl ?_
          refine Sx.callV0 dX12_perform_76 lkv_X12_399 (rcv_12 (o_253 W)) (by decide) (by decide) (Nat.le_of_ble_eq_true rfl) rfl rfl (k_goRm W hM1 hH (fun I3 R3 L3 hM3 fl3 => ?_))
          have W := fl3.wf W
          have hG1 : goG C i V = vr (rmV V) 3 (pdN (V 2) (wlV V) (V 3)) := by unfold goG; rw [show cA C i = 0 from (by unfold cA; rw [show (C (3 * i) : Int) - 1 = 0 by omega]; rfl), cq_0]
          rw [← hG1] at hM3
          have hf3 := hf1.tr fl3
          refine Sx.istore_n (lv' := [(3, .int (nI (litN (V 2) (wlV V) (V 3) (V 3 145) (V 3 139) (upc (V 2) (V 3))))), (2, .int (nI i)), (0, .ref 253), (1, .int (nI p))]) dX12_perform_79 (by decide) rfl ?_
          refine Sx.goto (t := 99) dX12_perform_80 (by decide) ?_
          refine Sx.iinc (v := (nI (i + 1))) (lv' := [(2, .int (nI (i + 1))), (3, .int (nI (litN (V 2) (wlV V) (V 3) (V 3 145) (V 3 139) (upc (V 2) (V 3))))), (0, .ref 253), (1, .int (nI p))]) dX12_perform_99 rfl (nI_add i 1) (by decide) rfl ?_
          refine Sx.goto (t := 26) dX12_perform_102 (by decide) ?_
          refine Sx.sub' [(2, .int (nI (i + 1))), (0, .ref 253), (1, .int (nI p))] rfl ?_
          exact ih (m - 1) (by omega) (goG C i V) (i + 1) R3 I3 L3 W hM3 (goG_H hH hk) (by rw [goG_0 _ _ _ (by decide)]; exact hp) (by rw [goG_o _ _ _ (by omega) (by omega) (by have := hH.2.1; omega)]; exact hVC) (by omega) hf3 (by rw [← hV, show m = m - 1 + 1 by omega]; exact (rnG_y (decide_eq_true hk)).symm)
set_option maxRecDepth 20000 in
set_option maxHeartbeats 1000000 in
theorem k_perform {G : Gt} {l : Launch} {Z : Zt} {R : Rt} {I : It} {L : Lt} {post : Pt'} {V : Vt} {N : Nat} {x : Int32} (W : WF Z R) (hM : MI V I L) (hG : GV N V) (hN : N < 2147483647) (hC : CA V) (h : ∀ I' R' L', MI (perV V x) I' L' → FM R I L R' I' L' → post (some (.int (perR V x))) Z R' I' L') : Cx G l mX12_perform 39 0 0 [.ref 253, .int x] Z R I L post := by
  refine Cx.of (by decide +kernel) (by exact Nat.le_of_ble_eq_true rfl) ?_
  refine Sx.aload_n dX12_perform_0 rfl ?_
  refine Sx.iconst (v := (nI 0)) dX12_perform_1 (by decide) ?_
  refine Sx.putfV dX12_perform_2 lkp_X12_109_12 (o_253 W) rfl rfl (fun I1 e1 o1 => ?_)
  have M1 := hM.th (j := 0) (by unfold sfJ; decide) e1 o1
  have hf1 : FM R I L R I1 L := FM.i fun q hq => o1 q (by omega)
  have hp6 := hG.p
  have hb := hG.b
  have hB := hG.bnd
  refine Sx.aload_n dX12_perform_5 rfl ?_
  refine Sx.iload_n dX12_perform_6 rfl ?_
  refine Sx.callV1 dX12_perform_7 lkv_X12_431 (rcv_12 (o_253 W)) (by decide) (by decide) (Nat.le_of_ble_eq_true rfl) rfl rfl (k_isPlan W M1.1 hb.2 ?_)
  refine Sx.if_eqD (t := 20) dX12_perform_10 (by decide) (fun c10 => ?_) (fun c10 => ?_)
  · refine Sx.iconst (v := (iI (-1))) dX12_perform_20 (by decide) ?_
    refine Sx.iret dX12_perform_21 rfl rfl ?_
    have hn : ¬ perC V x := fun z => by omega
    exact pXX (by unfold perR; rw [if_neg hn]; rfl) (h I1 R L (by unfold perV; rw [if_neg hn]; exact M1) hf1)
  · refine Sx.aload_n dX12_perform_13 rfl ?_
    refine Sx.getfV (v := (nI (V 2 35))) dX12_perform_14 lkf_X12_307_12 (o_253 W) M1.1.1.2.2.2.1 ?_
    refine Sx.if_neV (t := 22) dX12_perform_17 (by decide) (vN (by omega)) (fun c17 => ?_) (fun c17 => ?_)
    · have hH := hG.hv (by omega)
      obtain ⟨p1, p2, p3, p4, p5, p6, p7, p8, p9⟩ := id hH.2.2.2.1
      have hc : perC V x := ⟨by omega, by omega⟩
      obtain ⟨p, rfl, hp⟩ := x_ex (x := x) (n := V 0 3) ⟨by omega, by omega⟩
      have hcb := hG.2.2.1.2 p hp
      refine Sx.sub' [(0, .ref 253), (1, .int (nI p))] rfl ?_
      refine Sx.iconst (v := (nI 0)) dX12_perform_22 (by decide) ?_
      refine Sx.istore_n (lv' := [(2, .int (nI 0)), (0, .ref 253), (1, .int (nI p))]) dX12_perform_23 (by decide) rfl ?_
      refine Sx.iconst (v := (nI 0)) dX12_perform_24 (by decide) ?_
      refine Sx.istore_n (lv' := [(3, .int (nI 0)), (2, .int (nI 0)), (0, .ref 253), (1, .int (nI p))]) dX12_perform_25 (by decide) rfl ?_
      refine Sx.sub' [(2, .int (nI 0)), (0, .ref 253), (1, .int (nI p))] rfl ?_
      exact l_per (FF := perN V p) (C := V (20 + p)) (hC p hp) hcb (fun R' I' L' m f => pXX (by unfold perR; rw [if_pos hc, xN_n (by omega)]) (h I' R' L' (by unfold perV; rw [if_pos hc, xN_n (by omega)]; exact m) f)) (V (20 + p) 60 + 1) (V (20 + p) 60) (by omega) V 0 R I1 L W M1 hH hp rfl (by omega) hf1 rfl
    · refine Sx.iconst (v := (iI (-1))) dX12_perform_20 (by decide) ?_
      refine Sx.iret dX12_perform_21 rfl rfl ?_
      have hn : ¬ perC V x := fun z => by omega
      exact pXX (by unfold perR; rw [if_neg hn]; rfl) (h I1 R L (by unfold perV; rw [if_neg hn]; exact M1) hf1)
