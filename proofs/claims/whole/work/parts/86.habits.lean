/-! the reference: treasuries by habits -/
def PK (P : Nat → Nat) : Prop := ∀ p, p < 6 → P (15 + p) < P 34
theorem beg_SB {P : Nat → Nat} (hP : PB P) (hK : PK P) : SB P (begN P) := by
  obtain ⟨p1, p2, p3, p4, p5, p6, p7, p8, p9⟩ := id hP
  have z : ∀ q, ¬ q < 6 → q ≠ 138 → q ≠ 139 → q ≠ 142 → begN P q = 0 := fun q h1 h2 h3 h4 => by unfold begN; rw [if_neg h1, if_neg h2, if_neg h3, if_neg h4]
  have hp : ∀ p, p < 6 → begN P p = P (15 + p) := fun p hp => by unfold begN; rw [if_pos hp]
  refine ⟨fun p h => by rw [hp p h]; exact (p9 p h).2.2.1, fun p h => by rw [z _ (by omega) (by omega) (by omega) (by omega)]; omega, fun p h => by rw [z _ (by omega) (by omega) (by omega) (by omega)]; omega, fun p h => by rw [z _ (by omega) (by omega) (by omega) (by omega)]; omega, fun p h => by rw [z _ (by omega) (by omega) (by omega) (by omega)]; decide, fun p h => by rw [z _ (by omega) (by omega) (by omega) (by omega)]; decide, ?_, ?_, by rw [z _ (by omega) (by omega) (by omega) (by omega)]; omega, by rw [z _ (by omega) (by omega) (by omega) (by omega)]; omega, ?_, by rw [z _ (by omega) (by omega) (by omega) (by omega)]; omega, by rw [z _ (by omega) (by omega) (by omega) (by omega)]; decide, by rw [z _ (by omega) (by omega) (by omega) (by omega)]; omega, fun p h => by rw [hp p h]; exact hK p h, by rw [z _ (by omega) (by omega) (by omega) (by omega)]; omega⟩
  · show bedsN P 6 < 64; exact bedsN_lt P (fun j hj => (p9 j hj).2.2.2.2) 6 (by decide)
  · show P 2 ≤ 9; exact p4
  · show P 1 ≤ 999; omega
def crF (V : Vt) (p k n : Nat) : Nat → Nat := itG (pdN (V 2) (wlV V)) n (upn (begN (V 2)) p k)
theorem crF_0 (V : Vt) (p k : Nat) : crF V p k 0 = upn (begN (V 2)) p k := rfl
theorem crF_s (V : Vt) (p k n : Nat) : crF V p k (n + 1) = pdN (V 2) (wlV V) (crF V p k n) := itG_c _ _ _
theorem crF_ok {V : Vt} (hH : HV V) (hK : PK (V 2)) {p k : Nat} (hp : p < 6) (hk : k < V 2 34) : ∀ n, n ≤ 60 → SB (V 2) (crF V p k n) ∧ crF V p k n 144 ≤ n
  | 0, _ => ⟨SB.hab hH.2.2.2.1 (beg_SB hH.2.2.2.1 hK) hp hk, by rw [crF_0, upn_ne _ _ (by omega)]; exact Nat.le_refl 0⟩
  | n + 1, hn => by
    obtain ⟨h1, h2⟩ := crF_ok hH hK hp hk n (by omega)
    rw [crF_s]
    have hd := h1.2.2.2.2.2.2.2.2.2.2.2.2.2.1
    have p2 := hH.2.2.2.1.2.1
    refine ⟨pdN_SB hH.2.2.2.1 h1 (by omega), ?_⟩
    rw [pd_144 hH.2.2.2.1.2.2.2.2.2.1 hH.2.2.2.1.2.2.2.2.2.2.2.1 (by omega)]
    split <;> omega
def crC (V : Vt) (p k n : Nat) : Nat := crF V p k n 142
theorem crC_le {V : Vt} (hH : HV V) (hK : PK (V 2)) {p k n : Nat} (hp : p < 6) (hk : k < V 2 34) (hn : n ≤ 60) : crC V p k n ≤ 999 := (crF_ok hH hK hp hk n hn).1.2.2.2.2.2.2.2.2.2.2.1
def fitJ (V : Vt) (p k t : Nat) : Bool := decide (∀ i, i < t → (V 7 i ≤ crC V p k (V 6 i) ↔ V 8 i = 1))
theorem fitJ_y {V : Vt} {p k t : Nat} (h : fitJ V p k t = true) (g : V 7 t ≤ crC V p k (V 6 t) ↔ V 8 t = 1) : fitJ V p k (t + 1) = true := decide_eq_true (fun i hi => by
  by_cases q : i = t
  · rw [q]; exact g
  · exact of_decide_eq_true h i (by omega))
theorem fitJ_n {V : Vt} {p k t : Nat} (g : ¬ (fitJ V p k t = true ∧ (V 7 t ≤ crC V p k (V 6 t) ↔ V 8 t = 1))) : fitJ V p k (t + 1) = false := decide_eq_false (fun z => g ⟨decide_eq_true (fun i hi => z i (by omega)), z t (by omega)⟩)
def fitB (V : Vt) (p k : Nat) : Bool := fitJ V p k (V 0 7)
def cntB (f : Nat → Bool) : Nat → Nat
  | 0 => 0
  | j + 1 => cntB f j + (if f j = true then 1 else 0)
theorem cntB_le (f : Nat → Bool) : ∀ j, cntB f j ≤ j
  | 0 => Nat.le_refl _
  | j + 1 => by have := cntB_le f j; unfold cntB; split <;> omega
/-- treasuries and fitting habits written down up to a kind -/
def RI (V : Vt) (p : Nat) (f g : Nat → Int32) (K : Nat) : Prop := (∀ k n, k < K → 1 ≤ n → n ≤ 60 → f (k * 61 + n) = nI (crC V p k n)) ∧ ∀ k, k < K → g k = b2i (fitB V p k)
def SI (V : Vt) : Prop := V 0 7 ≤ 10 ∧ ∀ i, i < V 0 7 → 1 ≤ V 6 i ∧ V 6 i ≤ 60 ∧ V 7 i ≤ 999 ∧ V 8 i ≤ 1
theorem GV.si {N : Nat} {V : Vt} (h : GV N V) : SI V := ⟨h.2.2.2.1.2.2.2, h.2.2.2.2.2.1⟩
set_option maxRecDepth 20000 in
set_option maxHeartbeats 1000000 in
theorem k_psT2 {G : Gt} {l : Launch} {Z : Zt} {R : Rt} {I : It} {L : Lt} {post : Pt'} {V : Vt} {F : Nat → Nat} (W : WF Z R) (hM : MI V I L) (hH : HV V) (hS : SB (V 2) F) (hF : MW (I 267) F) (h : ∀ I' R' L', MI V I' L' → MW (I' 267) (pdN (V 2) (wlV V) F) → (∀ q, q ≠ 253 ∧ q ≠ 257 ∧ q ≠ 270 ∧ q ≠ 267 → I' q = I q) → FM R I L R' I' L' → post (some (.int (nI (litN (V 2) (wlV V) F (F 145) (F 139) (upc (V 2) F))))) Z R' I' L') : Cx G l mX12_passes 37 0 0 [.ref 253, .ref 267] Z R I L post :=
  k_passes W hM.1 hH.2.2.2.1 hS hF (Or.inr rfl) hH.1.2.2 ⟨hH.1.1, hH.1.2.1⟩ (fun I' R' L' m1 m2 q1 q2 _ q4 q5 _ => h I' R' L' ⟨m1, by rw [q1 266 (by decide)]; exact hM.2⟩ m2 q1 ⟨fun q hq => q1 q (by omega), fun q hq => q4 q (by omega), q5⟩)
set_option maxRecDepth 20000 in
set_option maxHeartbeats 1000000 in
theorem l_lh35 {G : Gt} {l : Launch} {Z : Zt} {post : Pt'} {V : Vt} {R0 : Rt} {I0 : It} {L0 : Lt} {p k mn : Nat} {F4 F5 : Nat → Int32} (hH : HV V) (hK : PK (V 2)) (hs : SI V) (hp : p < V 2 35) (hk : k < V 2 34) (hp6 : V 2 35 ≤ 6) (hk6 : V 2 34 ≤ 6) (h : ∀ (R : Rt) (I : It) (L : Lt), WF Z R → MI V I L → FM R0 I0 L0 R I L → (∀ n, 1 ≤ n → n ≤ 60 → I 274 (k * 61 + n) = nI (crC V p k n)) → (∀ z, z < k * 61 + 1 → I 274 z = F4 z) → I 275 = F5 → Sx G l mX12_laysHabits 38 0 0 77 [(4, .int (nI k)), (2, .int (nI mn)), (0, .ref 253), (1, .int (nI p))] [] Z R I L post) :
    ∀ (kk r0 : Nat), r0 < kk → ∀ (n : Nat) (R : Rt) (I : It) (L : Lt), WF Z R → MI V I L → MW (I 267) (crF V p k (n - 1)) → (∀ z, 1 ≤ z → z < n → I 274 (k * 61 + z) = nI (crC V p k z)) → (∀ z, z < k * 61 + 1 → I 274 z = F4 z) → I 275 = F5 → FM R0 I0 L0 R I L → 1 ≤ n → n + r0 = 61 → Sx G l mX12_laysHabits 38 0 0 35 [(5, .int (nI n)), (4, .int (nI k)), (2, .int (nI mn)), (0, .ref 253), (1, .int (nI p))] [] Z R I L post := by
  intro kk
  induction kk with
  | zero => intro r0 h1; omega
  | succ kk ih =>
    intro r0 h1 n R I L W hM hF hc hz0 h275 hf hn1 hnr
    refine Sx.iload dX12_laysHabits_35 rfl ?_
    refine Sx.bipush (v := (nI 60)) dX12_laysHabits_37 (by decide) ?_
    refine Sx.icmp_gtV (t := 77) dX12_laysHabits_39 (by decide) (vN (by omega)) (vN (by decide)) (fun c39 => ?_) (fun c39 => ?_)
    · have hn61 : n = 61 := by omega
      subst hn61
      refine Sx.sub' [(4, .int (nI k)), (2, .int (nI mn)), (0, .ref 253), (1, .int (nI p))] rfl ?_
      exact h R I L W hM hf (fun z z1 z2 => hc z z1 (by omega)) hz0 h275
    · obtain ⟨hS, hy⟩ := crF_ok hH hK (p := p) (by omega) hk (n - 1) (by omega)
      refine Sx.aload_n dX12_laysHabits_42 rfl ?_
      refine Sx.aload_n dX12_laysHabits_43 rfl ?_
      refine Sx.getfR dX12_laysHabits_44 lkf_X12_64_12 (o_253 W) (r_253_33 W) ?_
      refine Sx.callV1 dX12_laysHabits_47 lkv_X12_372 (rcv_12 (o_253 W)) (by decide) (by decide) (Nat.le_of_ble_eq_true rfl) rfl rfl (k_psT2 W hM hH hS hF (fun I1 R1 L1 hM1 hF1 og1 fl1 => ?_))
      have W := fl1.wf W
      have hF1 : MW (I1 267) (crF V p k n) := by rw [show n = n - 1 + 1 by omega, crF_s]; exact hF1
      refine Sx.istore_n (lv' := [(3, .int (nI (litN (V 2) (wlV V) (crF V p k (n - 1)) (crF V p k (n - 1) 145) (crF V p k (n - 1) 139) (upc (V 2) (crF V p k (n - 1)))))), (5, .int (nI n)), (4, .int (nI k)), (2, .int (nI mn)), (0, .ref 253), (1, .int (nI p))]) dX12_laysHabits_50 (by decide) rfl ?_
      refine Sx.aload_n dX12_laysHabits_51 rfl ?_
      refine Sx.getfR dX12_laysHabits_52 lkf_X12_93_12 (o_253 W) (r_253_46 W) ?_
      refine Sx.iload dX12_laysHabits_55 rfl ?_
      refine Sx.bipush (v := (nI 61)) dX12_laysHabits_57 (by decide) ?_
      refine Sx.imulN dX12_laysHabits_59 ?_
      refine Sx.iload dX12_laysHabits_60 rfl ?_
      refine Sx.iaddN dX12_laysHabits_62 ?_
      refine Sx.aload_n dX12_laysHabits_63 rfl ?_
      refine Sx.getfR dX12_laysHabits_64 lkf_X12_64_12 (o_253 W) (r_253_33 W) ?_
      refine Sx.bipush (v := (nI 22)) dX12_laysHabits_67 (by decide) ?_
      refine Sx.ialdN dX12_laysHabits_69 (a_267 W) (by omega) (by decide) (v := (nI (crF V p k n 142))) hF1.2.2.2.2.2.1 ?_
      refine Sx.iastN dX12_laysHabits_70 (a_274 W) (by omega) (by decide) (fun I2 e2 o2 => ?_)
      refine Sx.iinc (v := (nI (n + 1))) (lv' := [(5, .int (nI (n + 1))), (3, .int (nI (litN (V 2) (wlV V) (crF V p k (n - 1)) (crF V p k (n - 1) 145) (crF V p k (n - 1) 139) (upc (V 2) (crF V p k (n - 1)))))), (4, .int (nI k)), (2, .int (nI mn)), (0, .ref 253), (1, .int (nI p))]) dX12_laysHabits_71 rfl (nI_add n 1) (by decide) rfl ?_
      refine Sx.goto (t := 35) dX12_laysHabits_74 (by decide) ?_
      refine Sx.sub' [(5, .int (nI (n + 1))), (4, .int (nI k)), (2, .int (nI mn)), (0, .ref 253), (1, .int (nI p))] rfl ?_
      refine ih (r0 - 1) (by omega) (n + 1) R1 I2 L1 W (hM1.sc (a := 274) (by unfold scr; decide) o2) (by rw [o2 267 (by decide), Nat.add_sub_cancel]; exact hF1) (fun z z1 z2 => ?_) (fun z hz => ?_) (by rw [o2 275 (by decide), og1 275 (by decide)]; exact h275) ((hf.tr fl1).tr (FM.i (R := R1) (L := L1) fun q hq => o2 q (by omega))) (by omega) (by omega)
      · rw [e2]
        by_cases c : z = n
        · rw [c, upd_at]; rfl
        · rw [upd_nj _ _ (by omega), og1 274 (by decide)]; exact hc z z1 (by omega)
      · rw [e2, upd_nj _ _ (by omega), og1 274 (by decide)]; exact hz0 z hz
set_option maxRecDepth 20000 in
set_option maxHeartbeats 1000000 in
theorem l_lh88 {G : Gt} {l : Launch} {Z : Zt} {R : Rt} {L : Lt} {post : Pt'} {V : Vt} {p k mn : Nat} {I1 : It} {F5 : Nat → Int32} (W : WF Z R) (hH : HV V) (hK : PK (V 2)) (hs : SI V) (hp : p < V 2 35) (hk : k < V 2 34) (hp6 : V 2 35 ≤ 6) (hk6 : V 2 34 ≤ 6) (hc : ∀ n, 1 ≤ n → n ≤ 60 → I1 274 (k * 61 + n) = nI (crC V p k n)) (h : ∀ I', MI V I' L → I' 275 k = b2i (fitB V p k) → (∀ z, z < k → I' 275 z = F5 z) → (∀ q, q ≠ 275 → I' q = I1 q) → Sx G l mX12_laysHabits 38 0 0 183 [(4, .int (nI k)), (2, .int (nI mn)), (0, .ref 253), (1, .int (nI p))] [] Z R I' L post) :
    ∀ (r t : Nat), t ≤ V 0 7 → V 0 7 < t + r → ∀ e, e = fitJ V p k t → ∀ (I : It), MI V I L → I 275 k = b2i e → (∀ z, z < k → I 275 z = F5 z) → (∀ q, q ≠ 275 → I q = I1 q) → Sx G l mX12_laysHabits 38 0 0 88 [(5, .int (nI (3 * t))), (4, .int (nI k)), (2, .int (nI mn)), (0, .ref 253), (1, .int (nI p))] [] Z R I L post := by
  have hs0 := hs.1
  intro r
  induction r with
  | zero => intro t h1 h2; omega
  | succ r ih =>
    intro t h1 h2 e he I hM h5 hz5 hI
    refine Sx.iload dX12_laysHabits_88 rfl ?_
    refine Sx.iconst (v := (nI 3)) dX12_laysHabits_90 (by decide) ?_
    refine Sx.aload_n dX12_laysHabits_91 rfl ?_
    refine Sx.getfV (v := (nI (V 0 7))) dX12_laysHabits_92 lkf_X12_314_12 (o_253 W) hM.1.1.2.2.2.2.2.2.2.2.1 ?_
    refine Sx.imulN dX12_laysHabits_95 ?_
    refine Sx.icmp_geV (t := 183) dX12_laysHabits_96 (by decide) (vN (by omega)) (vN (by omega)) (fun c96 => ?_) (fun c96 => ?_)
    · have ht : t = V 0 7 := by omega
      subst ht
      refine Sx.sub' [(4, .int (nI k)), (2, .int (nI mn)), (0, .ref 253), (1, .int (nI p))] rfl ?_
      exact h I hM (by rw [h5, he]; rfl) hz5 hI
    · obtain ⟨s1, s2, s3, s4⟩ := hs.2 t (by omega)
      have cle := crC_le hH hK (p := p) (by omega) hk (n := V 6 t) (by omega)
      refine Sx.aload_n dX12_laysHabits_99 rfl ?_
      refine Sx.getfR dX12_laysHabits_100 lkf_X12_96_12 (o_253 W) (r_253_47 W) ?_
      refine Sx.iload dX12_laysHabits_103 rfl ?_
      refine Sx.aload_n dX12_laysHabits_105 rfl ?_
      refine Sx.getfR dX12_laysHabits_106 lkf_X12_96_12 (o_253 W) (r_253_47 W) ?_
      refine Sx.iload dX12_laysHabits_109 rfl ?_
      refine Sx.zaldN dX12_laysHabits_111 (a_275 W) (by omega) (by decide) (v := (b2i e)) h5 ?_
      refine Sx.if_eqB (t := 175) dX12_laysHabits_112 (by decide) (fun c112 => ?_) (fun c112 => ?_)
      · refine Sx.iconst (v := (nI 0)) dX12_laysHabits_175 (by decide) ?_
        refine Sx.top (show _ = b2i false from rfl) ?_
        refine Sx.zastB dX12_laysHabits_176 (a_275 W) (by omega) (by decide) (fun I1 e1 o1 => ?_)
        refine Sx.iinc (v := (nI (3 * t + 3))) (lv' := [(5, .int (nI (3 * t + 3))), (4, .int (nI k)), (2, .int (nI mn)), (0, .ref 253), (1, .int (nI p))]) dX12_laysHabits_177 rfl (nI_add (3 * t) 3) (by decide) rfl ?_
        refine Sx.goto (t := 88) dX12_laysHabits_180 (by decide) ?_
        refine Sx.sub' [(5, .int (nI (3 * (t + 1)))), (4, .int (nI k)), (2, .int (nI mn)), (0, .ref 253), (1, .int (nI p))] (by rw [show 3 * (t + 1) = 3 * t + 3 by omega]; rfl) ?_
        exact ih (t + 1) (by omega) (by omega) false ((fitJ_n (fun z => by first | (have := z.1; rw [← he, c112] at this; exact absurd this (by decide)) | (have z1 := z.2.1; have z2 := z.2.2; omega))).symm) I1 (hM.sc (a := 275) (by unfold scr; decide) o1) (by rw [e1, upd_at]) (fun z hz => by rw [e1, upd_nj _ _ (by omega)]; exact hz5 z hz) (fun q hq => (o1 q hq).trans (hI q hq))
      · refine Sx.aload_n dX12_laysHabits_115 rfl ?_
        refine Sx.getfR dX12_laysHabits_116 lkf_X12_93_12 (o_253 W) (r_253_46 W) ?_
        refine Sx.iload dX12_laysHabits_119 rfl ?_
        refine Sx.bipush (v := (nI 61)) dX12_laysHabits_121 (by decide) ?_
        refine Sx.imulN dX12_laysHabits_123 ?_
        refine Sx.aload_n dX12_laysHabits_124 rfl ?_
        refine Sx.getfR dX12_laysHabits_125 lkf_X12_90_12 (o_253 W) (r_253_44 W) ?_
        refine Sx.iload dX12_laysHabits_128 rfl ?_
        refine Sx.ialdN dX12_laysHabits_130 (a_273 W) (by omega) (by decide) (v := (nI (V 6 t))) (hM.1.2.2.2.2.2.2.2.1 t (by omega)).1 ?_
        refine Sx.iaddN dX12_laysHabits_131 ?_
        refine Sx.ialdN dX12_laysHabits_132 (a_274 W) (by omega) (by decide) (v := (nI (crC V p k (V 6 t)))) (by rw [hI 274 (by decide)]; exact hc (V 6 t) (by omega) (by omega)) ?_
        refine Sx.aload_n dX12_laysHabits_133 rfl ?_
        refine Sx.getfR dX12_laysHabits_134 lkf_X12_90_12 (o_253 W) (r_253_44 W) ?_
        refine Sx.iload dX12_laysHabits_137 rfl ?_
        refine Sx.iconst (v := (nI 1)) dX12_laysHabits_139 (by decide) ?_
        refine Sx.iaddN dX12_laysHabits_140 ?_
        refine Sx.ialdN dX12_laysHabits_141 (a_273 W) (by omega) (by decide) (v := (nI (V 7 t))) (hM.1.2.2.2.2.2.2.2.1 t (by omega)).2.1 ?_
        refine Sx.icmp_ltV (t := 149) dX12_laysHabits_142 (by decide) (vN (by omega)) (vN (by omega)) (fun c142 => ?_) (fun c142 => ?_)
        · refine Sx.iconst (v := (nI 0)) dX12_laysHabits_149 (by decide) ?_
          refine Sx.aload_n dX12_laysHabits_150 rfl ?_
          refine Sx.getfR dX12_laysHabits_151 lkf_X12_90_12 (o_253 W) (r_253_44 W) ?_
          refine Sx.iload dX12_laysHabits_154 rfl ?_
          refine Sx.iconst (v := (nI 2)) dX12_laysHabits_156 (by decide) ?_
          refine Sx.iaddN dX12_laysHabits_157 ?_
          refine Sx.ialdN dX12_laysHabits_158 (a_273 W) (by omega) (by decide) (v := (nI (V 8 t))) (hM.1.2.2.2.2.2.2.2.1 t (by omega)).2.2 ?_
          refine Sx.iconst (v := (nI 1)) dX12_laysHabits_159 (by decide) ?_
          refine Sx.icmp_neV (t := 167) dX12_laysHabits_160 (by decide) (vN (by omega)) (vN (by decide)) (fun c160 => ?_) (fun c160 => ?_)
          · refine Sx.iconst (v := (nI 0)) dX12_laysHabits_167 (by decide) ?_
            refine Sx.icmp_neV (t := 175) dX12_laysHabits_168 (by decide) (vN (by decide)) (vN (by decide)) (fun c168 => False.elim (by omega)) (fun c168 => ?_)
            refine Sx.iconst (v := (nI 1)) dX12_laysHabits_171 (by decide) ?_
            refine Sx.goto (t := 176) dX12_laysHabits_172 (by decide) ?_
            refine Sx.top (show _ = b2i true from rfl) ?_
            refine Sx.zastB dX12_laysHabits_176 (a_275 W) (by omega) (by decide) (fun I2 e2 o2 => ?_)
            refine Sx.iinc (v := (nI (3 * t + 3))) (lv' := [(5, .int (nI (3 * t + 3))), (4, .int (nI k)), (2, .int (nI mn)), (0, .ref 253), (1, .int (nI p))]) dX12_laysHabits_177 rfl (nI_add (3 * t) 3) (by decide) rfl ?_
            refine Sx.goto (t := 88) dX12_laysHabits_180 (by decide) ?_
            refine Sx.sub' [(5, .int (nI (3 * (t + 1)))), (4, .int (nI k)), (2, .int (nI mn)), (0, .ref 253), (1, .int (nI p))] (by rw [show 3 * (t + 1) = 3 * t + 3 by omega]; rfl) ?_
            exact ih (t + 1) (by omega) (by omega) true ((fitJ_y (by rw [← he]; exact c112) (by constructor <;> intro _ <;> omega)).symm) I2 (hM.sc (a := 275) (by unfold scr; decide) o2) (by rw [e2, upd_at]) (fun z hz => by rw [e2, upd_nj _ _ (by omega)]; exact hz5 z hz) (fun q hq => (o2 q hq).trans (hI q hq))
          · refine Sx.iconst (v := (nI 1)) dX12_laysHabits_163 (by decide) ?_
            refine Sx.goto (t := 168) dX12_laysHabits_164 (by decide) ?_
            refine Sx.icmp_neV (t := 175) dX12_laysHabits_168 (by decide) (vN (by decide)) (vN (by decide)) (fun c168 => ?_) (fun c168 => False.elim (by omega))
            refine Sx.iconst (v := (nI 0)) dX12_laysHabits_175 (by decide) ?_
            refine Sx.top (show _ = b2i false from rfl) ?_
            refine Sx.zastB dX12_laysHabits_176 (a_275 W) (by omega) (by decide) (fun I3 e3 o3 => ?_)
            refine Sx.iinc (v := (nI (3 * t + 3))) (lv' := [(5, .int (nI (3 * t + 3))), (4, .int (nI k)), (2, .int (nI mn)), (0, .ref 253), (1, .int (nI p))]) dX12_laysHabits_177 rfl (nI_add (3 * t) 3) (by decide) rfl ?_
            refine Sx.goto (t := 88) dX12_laysHabits_180 (by decide) ?_
            refine Sx.sub' [(5, .int (nI (3 * (t + 1)))), (4, .int (nI k)), (2, .int (nI mn)), (0, .ref 253), (1, .int (nI p))] (by rw [show 3 * (t + 1) = 3 * t + 3 by omega]; rfl) ?_
            exact ih (t + 1) (by omega) (by omega) false ((fitJ_n (fun z => by first | (have := z.1; rw [← he, c112] at this; exact absurd this (by decide)) | (have z1 := z.2.1; have z2 := z.2.2; omega))).symm) I3 (hM.sc (a := 275) (by unfold scr; decide) o3) (by rw [e3, upd_at]) (fun z hz => by rw [e3, upd_nj _ _ (by omega)]; exact hz5 z hz) (fun q hq => (o3 q hq).trans (hI q hq))
        · refine Sx.iconst (v := (nI 1)) dX12_laysHabits_145 (by decide) ?_
          refine Sx.goto (t := 150) dX12_laysHabits_146 (by decide) ?_
          refine Sx.aload_n dX12_laysHabits_150 rfl ?_
          refine Sx.getfR dX12_laysHabits_151 lkf_X12_90_12 (o_253 W) (r_253_44 W) ?_
          refine Sx.iload dX12_laysHabits_154 rfl ?_
          refine Sx.iconst (v := (nI 2)) dX12_laysHabits_156 (by decide) ?_
          refine Sx.iaddN dX12_laysHabits_157 ?_
          refine Sx.ialdN dX12_laysHabits_158 (a_273 W) (by omega) (by decide) (v := (nI (V 8 t))) (hM.1.2.2.2.2.2.2.2.1 t (by omega)).2.2 ?_
          refine Sx.iconst (v := (nI 1)) dX12_laysHabits_159 (by decide) ?_
          refine Sx.icmp_neV (t := 167) dX12_laysHabits_160 (by decide) (vN (by omega)) (vN (by decide)) (fun c160 => ?_) (fun c160 => ?_)
          · refine Sx.iconst (v := (nI 0)) dX12_laysHabits_167 (by decide) ?_
            refine Sx.icmp_neV (t := 175) dX12_laysHabits_168 (by decide) (vN (by decide)) (vN (by decide)) (fun c168 => ?_) (fun c168 => False.elim (by omega))
            refine Sx.iconst (v := (nI 0)) dX12_laysHabits_175 (by decide) ?_
            refine Sx.top (show _ = b2i false from rfl) ?_
            refine Sx.zastB dX12_laysHabits_176 (a_275 W) (by omega) (by decide) (fun I4 e4 o4 => ?_)
            refine Sx.iinc (v := (nI (3 * t + 3))) (lv' := [(5, .int (nI (3 * t + 3))), (4, .int (nI k)), (2, .int (nI mn)), (0, .ref 253), (1, .int (nI p))]) dX12_laysHabits_177 rfl (nI_add (3 * t) 3) (by decide) rfl ?_
            refine Sx.goto (t := 88) dX12_laysHabits_180 (by decide) ?_
            refine Sx.sub' [(5, .int (nI (3 * (t + 1)))), (4, .int (nI k)), (2, .int (nI mn)), (0, .ref 253), (1, .int (nI p))] (by rw [show 3 * (t + 1) = 3 * t + 3 by omega]; rfl) ?_
            exact ih (t + 1) (by omega) (by omega) false ((fitJ_n (fun z => by first | (have := z.1; rw [← he, c112] at this; exact absurd this (by decide)) | (have z1 := z.2.1; have z2 := z.2.2; omega))).symm) I4 (hM.sc (a := 275) (by unfold scr; decide) o4) (by rw [e4, upd_at]) (fun z hz => by rw [e4, upd_nj _ _ (by omega)]; exact hz5 z hz) (fun q hq => (o4 q hq).trans (hI q hq))
          · refine Sx.iconst (v := (nI 1)) dX12_laysHabits_163 (by decide) ?_
            refine Sx.goto (t := 168) dX12_laysHabits_164 (by decide) ?_
            refine Sx.icmp_neV (t := 175) dX12_laysHabits_168 (by decide) (vN (by decide)) (vN (by decide)) (fun c168 => False.elim (by omega)) (fun c168 => ?_)
            refine Sx.iconst (v := (nI 1)) dX12_laysHabits_171 (by decide) ?_
            refine Sx.goto (t := 176) dX12_laysHabits_172 (by decide) ?_
            refine Sx.top (show _ = b2i true from rfl) ?_
            refine Sx.zastB dX12_laysHabits_176 (a_275 W) (by omega) (by decide) (fun I5 e5 o5 => ?_)
            refine Sx.iinc (v := (nI (3 * t + 3))) (lv' := [(5, .int (nI (3 * t + 3))), (4, .int (nI k)), (2, .int (nI mn)), (0, .ref 253), (1, .int (nI p))]) dX12_laysHabits_177 rfl (nI_add (3 * t) 3) (by decide) rfl ?_
            refine Sx.goto (t := 88) dX12_laysHabits_180 (by decide) ?_
            refine Sx.sub' [(5, .int (nI (3 * (t + 1)))), (4, .int (nI k)), (2, .int (nI mn)), (0, .ref 253), (1, .int (nI p))] (by rw [show 3 * (t + 1) = 3 * t + 3 by omega]; rfl) ?_
            exact ih (t + 1) (by omega) (by omega) true ((fitJ_y (by rw [← he]; exact c112) (by constructor <;> intro _ <;> omega)).symm) I5 (hM.sc (a := 275) (by unfold scr; decide) o5) (by rw [e5, upd_at]) (fun z hz => by rw [e5, upd_nj _ _ (by omega)]; exact hz5 z hz) (fun q hq => (o5 q hq).trans (hI q hq))
set_option maxRecDepth 20000 in
set_option maxHeartbeats 1000000 in
theorem l_lh7 {G : Gt} {l : Launch} {Z : Zt} {post : Pt'} {V : Vt} {R0 : Rt} {I0 : It} {L0 : Lt} {p : Nat} (hH : HV V) (hX : PX (V 2)) (hK : PK (V 2)) (hs : SI V) (hp : p < V 2 35) (h : ∀ R' I' L', MI V I' L' → FM R0 I0 L0 R' I' L' → RI V p (I' 274) (I' 275) (V 2 34) → post (some (.int (nI (cntB (fitB V p) (V 2 34))))) Z R' I' L') :
    ∀ (r k : Nat), k ≤ V 2 34 → V 2 34 < k + r → ∀ mn, mn = cntB (fitB V p) k → ∀ (R : Rt) (I : It) (L : Lt), WF Z R → MI V I L → FM R0 I0 L0 R I L → RI V p (I 274) (I 275) k → Sx G l mX12_laysHabits 38 0 0 7 [(4, .int (nI k)), (2, .int (nI mn)), (0, .ref 253), (1, .int (nI p))] [] Z R I L post := by
  have hp6 := hH.2.2.2.1.2.2.2.2.2.2.2.1
  have hk6 := hH.2.2.2.1.2.2.2.2.2.1
  intro r
  induction r with
  | zero => intro k h1 h2; omega
  | succ r ih =>
    intro k h1 h2 mn hmn R I L W hM hf hRI
    have hmb : mn ≤ k := by rw [hmn]; exact cntB_le _ _
    refine Sx.iload dX12_laysHabits_7 rfl ?_
    refine Sx.aload_n dX12_laysHabits_9 rfl ?_
    refine Sx.getfV (v := (nI (V 2 34))) dX12_laysHabits_10 lkf_X12_304_12 (o_253 W) hM.1.1.2.2.1 ?_
    refine Sx.icmp_geV (t := 207) dX12_laysHabits_13 (by decide) (vN (by omega)) (vN (by omega)) (fun c13 => ?_) (fun c13 => ?_)
    · have hkk : k = V 2 34 := by omega
      subst hkk
      subst hmn
      refine Sx.iload_n dX12_laysHabits_207 rfl ?_
      refine Sx.iret dX12_laysHabits_208 rfl rfl ?_
      exact h R I L hM hf hRI
    · refine Sx.aload_n dX12_laysHabits_16 rfl ?_
      refine Sx.aload_n dX12_laysHabits_17 rfl ?_
      refine Sx.getfR dX12_laysHabits_18 lkf_X12_64_12 (o_253 W) (r_253_33 W) ?_
      refine Sx.callV1 dX12_laysHabits_21 lkv_X12_310 (rcv_12 (o_253 W)) (by decide) (by decide) (Nat.le_of_ble_eq_true rfl) rfl rfl (k_lays (P := V 2) (w := 267) (N := 236) W (a_267 W) (by decide) (Or.inr rfl) hM.1.1.2.2.2.1 hM.1.2.2.2.1 hp6 hX (fun k hk => (hH.2.2.2.1.2.2.2.2.2.2.2.2 k hk).2.2.2.2) (fun J jF _ jo => ?_))
      refine Sx.aload_n dX12_laysHabits_24 rfl ?_
      refine Sx.getfR dX12_laysHabits_25 lkf_X12_64_12 (o_253 W) (r_253_33 W) ?_
      refine Sx.iload_n dX12_laysHabits_28 rfl ?_
      refine Sx.iload dX12_laysHabits_29 rfl ?_
      refine Sx.iastN dX12_laysHabits_31 (a_267 W) (by omega) (by decide) (fun I2 e2 o2 => ?_)
      refine Sx.iconst (v := (nI 1)) dX12_laysHabits_32 (by decide) ?_
      refine Sx.istore (lv' := [(5, .int (nI 1)), (4, .int (nI k)), (2, .int (nI mn)), (0, .ref 253), (1, .int (nI p))]) dX12_laysHabits_33 (by decide) rfl ?_
      refine Sx.sub' [(5, .int (nI 1)), (4, .int (nI k)), (2, .int (nI mn)), (0, .ref 253), (1, .int (nI p))] rfl ?_
      have jM : MI V I2 L := hM.sc (a := 267) (by unfold scr; decide) (fun q hq => by rw [o2 q hq, jo q hq])
      have jf : FM R0 I0 L0 R I2 L := hf.tr (FM.i fun q hq => by rw [o2 q (by omega), jo q (by omega)])
      have jF2 : MW (I2 267) (crF V p k (1 - 1)) := by
        have mn := jF.set (b := p) (x := k) (by omega) (v := nI k) (by rw [if_neg (by omega)])
        rw [cw_p (p := p) (by omega)] at mn
        rw [e2, show crF V p k (1 - 1) = upn (begN (V 2)) p k from rfl]
        exact mn
      refine l_lh35 (F4 := I2 274) (F5 := I2 275) hH hK hs hp (by omega) hp6 hk6 (fun R1 J1 L1 W b1 hf1 a1 a2 a3 => ?_) 61 60 (by decide) 1 R I2 L W jM jF2 (fun z z1 z2 => by omega) (fun _ _ => rfl) rfl jf (by decide) (by decide)
      have hRI : RI V p (I2 274) (I2 275) k := by
        rw [o2 274 (by decide), o2 275 (by decide), jo 274 (by decide), jo 275 (by decide)]
        exact hRI
      refine Sx.aload_n dX12_laysHabits_77 rfl ?_
      refine Sx.getfR dX12_laysHabits_78 lkf_X12_96_12 (o_253 W) (r_253_47 W) ?_
      refine Sx.iload dX12_laysHabits_81 rfl ?_
      refine Sx.iconst (v := (nI 1)) dX12_laysHabits_83 (by decide) ?_
      refine Sx.top (show _ = b2i true from rfl) ?_
      refine Sx.zastB dX12_laysHabits_84 (a_275 W) (by omega) (by decide) (fun I1 e1 o1 => ?_)
      refine Sx.iconst (v := (nI 0)) dX12_laysHabits_85 (by decide) ?_
      refine Sx.istore (lv' := [(5, .int (nI 0)), (4, .int (nI k)), (2, .int (nI mn)), (0, .ref 253), (1, .int (nI p))]) dX12_laysHabits_86 (by decide) rfl ?_
      refine Sx.sub' [(5, .int (nI (3 * 0))), (4, .int (nI k)), (2, .int (nI mn)), (0, .ref 253), (1, .int (nI p))] rfl ?_
      have f4 : ∀ q, q ≠ 275 → I1 q = J1 q := o1
      refine l_lh88 (F5 := upd (J1 275) k (b2i true)) W hH hK hs hp (by omega) hp6 hk6 (I1 := I1) (fun n n1 n2 => by rw [o1 274 (by decide)]; exact a1 n n1 n2) (fun K3 m1 m2 m3 m4 => ?_) (V 0 7 + 1) 0 (by omega) (by omega) true (decide_eq_true (fun i hi => by omega)).symm I1 (b1.sc (a := 275) (by unfold scr; decide) o1) (by rw [e1, upd_at]) (fun z hz => by rw [e1]) (fun _ _ => rfl)
      refine Sx.iload_n dX12_laysHabits_183 rfl ?_
      refine Sx.aload_n dX12_laysHabits_184 rfl ?_
      refine Sx.getfR dX12_laysHabits_185 lkf_X12_96_12 (o_253 W) (r_253_47 W) ?_
      refine Sx.iload dX12_laysHabits_188 rfl ?_
      refine Sx.zaldN dX12_laysHabits_190 (a_275 W) (by omega) (by decide) (v := (b2i (fitB V p k))) m2 ?_
      refine Sx.if_eqB (t := 198) dX12_laysHabits_191 (by decide) (fun c191 => ?_) (fun c191 => ?_)
      · refine Sx.iconst (v := (nI 0)) dX12_laysHabits_198 (by decide) ?_
        refine Sx.iaddN dX12_laysHabits_199 ?_
        refine Sx.istore_n (lv' := [(2, .int (nI (mn + 0))), (4, .int (nI k)), (0, .ref 253), (1, .int (nI p))]) dX12_laysHabits_200 (by decide) rfl ?_
        refine Sx.iinc (v := (nI (k + 1))) (lv' := [(4, .int (nI (k + 1))), (2, .int (nI (mn + 0))), (0, .ref 253), (1, .int (nI p))]) dX12_laysHabits_201 rfl (nI_add k 1) (by decide) rfl ?_
        refine Sx.goto (t := 7) dX12_laysHabits_204 (by decide) ?_
        refine Sx.sub' [(4, .int (nI (k + 1))), (2, .int (nI (mn + 0))), (0, .ref 253), (1, .int (nI p))] rfl ?_
        refine ih (k + 1) (by omega) (by omega) _ ?_ R1 K3 L1 W m1 (hf1.tr (FM.i (R := R1) (L := L1) fun q hq => by rw [m4 q (by omega), f4 q (by omega)])) ?_
        · unfold cntB
          rw [← hmn]
          first | rw [if_pos c191] | rw [if_neg (by rw [c191]; decide)]
        · refine ⟨fun kk n k1 n1 n2 => ?_, fun kk k1 => ?_⟩
          · rw [m4 274 (by decide), f4 274 (by decide)]
            by_cases c : kk = k
            · rw [c]; exact a1 n n1 n2
            · rw [a2 _ (by omega)]; exact hRI.1 kk n (by omega) n1 n2
          · by_cases c : kk = k
            · rw [c]; exact m2
            · rw [m3 kk (by omega), upd_nj _ _ c, a3]; exact hRI.2 kk (by omega)
      · refine Sx.iconst (v := (nI 1)) dX12_laysHabits_194 (by decide) ?_
        refine Sx.goto (t := 199) dX12_laysHabits_195 (by decide) ?_
        refine Sx.iaddN dX12_laysHabits_199 ?_
        refine Sx.istore_n (lv' := [(2, .int (nI (mn + 1))), (4, .int (nI k)), (0, .ref 253), (1, .int (nI p))]) dX12_laysHabits_200 (by decide) rfl ?_
        refine Sx.iinc (v := (nI (k + 1))) (lv' := [(4, .int (nI (k + 1))), (2, .int (nI (mn + 1))), (0, .ref 253), (1, .int (nI p))]) dX12_laysHabits_201 rfl (nI_add k 1) (by decide) rfl ?_
        refine Sx.goto (t := 7) dX12_laysHabits_204 (by decide) ?_
        refine Sx.sub' [(4, .int (nI (k + 1))), (2, .int (nI (mn + 1))), (0, .ref 253), (1, .int (nI p))] rfl ?_
        refine ih (k + 1) (by omega) (by omega) _ ?_ R1 K3 L1 W m1 (hf1.tr (FM.i (R := R1) (L := L1) fun q hq => by rw [m4 q (by omega), f4 q (by omega)])) ?_
        · unfold cntB
          rw [← hmn]
          first | rw [if_pos c191] | rw [if_neg (by rw [c191]; decide)]
        · refine ⟨fun kk n k1 n1 n2 => ?_, fun kk k1 => ?_⟩
          · rw [m4 274 (by decide), f4 274 (by decide)]
            by_cases c : kk = k
            · rw [c]; exact a1 n n1 n2
            · rw [a2 _ (by omega)]; exact hRI.1 kk n (by omega) n1 n2
          · by_cases c : kk = k
            · rw [c]; exact m2
            · rw [m3 kk (by omega), upd_nj _ _ c, a3]; exact hRI.2 kk (by omega)
set_option maxRecDepth 20000 in
set_option maxHeartbeats 1000000 in
theorem k_laysH {G : Gt} {l : Launch} {Z : Zt} {R : Rt} {I : It} {L : Lt} {post : Pt'} {V : Vt} {p : Nat} (W : WF Z R) (hM : MI V I L) (hH : HV V) (hX : PX (V 2)) (hK : PK (V 2)) (hs : SI V) (hp : p < V 2 35) (h : ∀ R' I' L', MI V I' L' → FM R I L R' I' L' → RI V p (I' 274) (I' 275) (V 2 34) → post (some (.int (nI (cntB (fitB V p) (V 2 34))))) Z R' I' L') : Cx G l mX12_laysHabits 38 0 0 [.ref 253, .int (nI p)] Z R I L post := by
  refine Cx.of (by decide +kernel) (by exact Nat.le_of_ble_eq_true rfl) ?_
  refine Sx.iconst (v := (nI 0)) dX12_laysHabits_0 (by decide) ?_
  refine Sx.istore_n (lv' := [(2, .int (nI 0)), (0, .ref 253), (1, .int (nI p))]) dX12_laysHabits_1 (by decide) rfl ?_
  refine Sx.iconst (v := (nI 0)) dX12_laysHabits_2 (by decide) ?_
  refine Sx.istore_n (lv' := [(3, .int (nI 0)), (2, .int (nI 0)), (0, .ref 253), (1, .int (nI p))]) dX12_laysHabits_3 (by decide) rfl ?_
  refine Sx.iconst (v := (nI 0)) dX12_laysHabits_4 (by decide) ?_
  refine Sx.istore (lv' := [(4, .int (nI 0)), (3, .int (nI 0)), (2, .int (nI 0)), (0, .ref 253), (1, .int (nI p))]) dX12_laysHabits_5 (by decide) rfl ?_
  refine Sx.sub' [(4, .int (nI 0)), (2, .int (nI 0)), (0, .ref 253), (1, .int (nI p))] rfl ?_
  exact l_lh7 hH hX hK hs hp h (V 2 34 + 1) 0 (by omega) (by omega) 0 rfl R I L W hM (FM.rf R I L) ⟨fun k n z _ _ => by omega, fun k z => by omega⟩
/-- the place of the i-th from k on, of r -/
def nthB (f : Nat → Bool) (i : Int) : Nat → Nat → Nat → Int
  | 0, _, _ => -1
  | r + 1, k, n => if f k = true then (if (n : Int) = i then (k : Int) else nthB f i r (k + 1) (n + 1)) else nthB f i r (k + 1) n
theorem nthB_0 (f : Nat → Bool) (i : Int) (k n : Nat) : nthB f i 0 k n = -1 := rfl
theorem nthB_s (f : Nat → Bool) (i : Int) (r k n : Nat) : nthB f i (r + 1) k n = if f k = true then (if (n : Int) = i then (k : Int) else nthB f i r (k + 1) (n + 1)) else nthB f i r (k + 1) n := rfl
abbrev habC (V : Vt) (x y : Int32) : Prop := (0 ≤ x.toInt ∧ x.toInt < (V 2 35 : Int)) ∧ -1 ≤ y.toInt
def habR (V : Vt) (x y : Int32) : Int32 := if habC V x y then (if y.toInt = -1 then nI (cntB (fitB V (xN x)) (V 2 34)) else iI (nthB (fitB V (xN x)) y.toInt (V 2 34) 0 0)) else -1
set_option maxRecDepth 20000 in
set_option maxHeartbeats 1000000 in
theorem l_hab {G : Gt} {l : Launch} {Z : Zt} {R : Rt} {I : It} {L : Lt} {post : Pt'} {V : Vt} {p : Nat} {y : Int32} {res : Int} (W : WF Z R) (hM : MI V I L) (hk6 : V 2 34 ≤ 6) (hg : ∀ k, k < V 2 34 → I 275 k = b2i (fitB V p k)) (h : post (some (.int (iI res))) Z R I L) :
    ∀ (r m : Nat), m < r → ∀ k n, n ≤ k → m + k = V 2 34 → nthB (fitB V p) y.toInt m k n = res → Sx G l mX12_habits 39 0 0 39 [(5, .int (nI k)), (4, .int (nI n)), (0, .ref 253), (1, .int (nI p)), (2, .int y)] [] Z R I L post := by
  intro r
  induction r with
  | zero => intro m h1; omega
  | succ r ih =>
    intro m hmr k n hnk hmk hR
    refine Sx.iload dX12_habits_39 rfl ?_
    refine Sx.aload_n dX12_habits_41 rfl ?_
    refine Sx.getfV (v := (nI (V 2 34))) dX12_habits_42 lkf_X12_304_12 (o_253 W) hM.1.1.2.2.1 ?_
    refine Sx.icmp_geV (t := 79) dX12_habits_45 (by decide) (vN (by omega)) (vN (by omega)) (fun c45 => ?_) (fun c45 => ?_)
    · refine Sx.iconst (v := (iI (-1))) dX12_habits_79 (by decide) ?_
      refine Sx.iret dX12_habits_80 rfl rfl ?_
      have hm0 : m = 0 := by omega
      subst hm0
      rw [nthB_0] at hR
      exact pXX (by rw [← hR]) h
    · have hm1 : 1 ≤ m := by omega
      refine Sx.aload_n dX12_habits_48 rfl ?_
      refine Sx.getfR dX12_habits_49 lkf_X12_96_12 (o_253 W) (r_253_47 W) ?_
      refine Sx.iload dX12_habits_52 rfl ?_
      refine Sx.zaldN dX12_habits_54 (a_275 W) (by omega) (by decide) (v := (b2i (fitB V p k))) (hg k (by omega)) ?_
      refine Sx.if_neB (t := 61) dX12_habits_55 (by decide) (fun c55 => ?_) (fun c55 => ?_)
      · refine Sx.iload dX12_habits_61 rfl ?_
        refine Sx.iload_n dX12_habits_63 rfl ?_
        refine Sx.icmp_neV (t := 70) dX12_habits_64 (by decide) (vN (by omega)) (vX y) (fun c64 => ?_) (fun c64 => ?_)
        · refine Sx.iinc (v := (nI (n + 1))) (lv' := [(4, .int (nI (n + 1))), (5, .int (nI k)), (0, .ref 253), (1, .int (nI p)), (2, .int y)]) dX12_habits_70 rfl (nI_add n 1) (by decide) rfl ?_
          refine Sx.iinc (v := (nI (k + 1))) (lv' := [(5, .int (nI (k + 1))), (4, .int (nI (n + 1))), (0, .ref 253), (1, .int (nI p)), (2, .int y)]) dX12_habits_73 rfl (nI_add k 1) (by decide) rfl ?_
          refine Sx.goto (t := 39) dX12_habits_76 (by decide) ?_
          refine Sx.sub' [(5, .int (nI (k + 1))), (4, .int (nI (n + 1))), (0, .ref 253), (1, .int (nI p)), (2, .int y)] rfl ?_
          exact ih (m - 1) (by omega) (k + 1) (n + 1) (by omega) (by omega) (by rw [← hR, show m = m - 1 + 1 by omega, Nat.add_sub_cancel, nthB_s, if_pos c55, if_neg (by omega)])
        · refine Sx.iload dX12_habits_67 rfl ?_
          refine Sx.iret dX12_habits_69 rfl rfl ?_
          refine pXX ?_ h
          rw [← hR, show m = m - 1 + 1 by omega, nthB_s, if_pos c55, if_pos (by omega), nI_iI]
      · refine Sx.goto (t := 73) dX12_habits_58 (by decide) ?_
        refine Sx.iinc (v := (nI (k + 1))) (lv' := [(5, .int (nI (k + 1))), (4, .int (nI n)), (0, .ref 253), (1, .int (nI p)), (2, .int y)]) dX12_habits_73 rfl (nI_add k 1) (by decide) rfl ?_
        refine Sx.goto (t := 39) dX12_habits_76 (by decide) ?_
        refine Sx.sub' [(5, .int (nI (k + 1))), (4, .int (nI (n))), (0, .ref 253), (1, .int (nI p)), (2, .int y)] rfl ?_
        exact ih (m - 1) (by omega) (k + 1) (n) (by omega) (by omega) (by rw [← hR, show m = m - 1 + 1 by omega, Nat.add_sub_cancel, nthB_s, if_neg (by rw [c55]; decide)])
set_option maxRecDepth 20000 in
set_option maxHeartbeats 1000000 in
theorem k_habits {G : Gt} {l : Launch} {Z : Zt} {R : Rt} {I : It} {L : Lt} {post : Pt'} {V : Vt} {N : Nat} {x y : Int32} (W : WF Z R) (hM : MI V I L) (hG : GV N V) (hN : N < 2147483647) (hX : V 2 35 ≠ 0 → PX (V 2) ∧ PK (V 2)) (h : QK post Z R I L V (habR V x y)) : Cx G l mX12_habits 39 0 0 [.ref 253, .int x, .int y] Z R I L post := by
  refine Cx.of (by decide +kernel) (by exact Nat.le_of_ble_eq_true rfl) ?_
  have hyr := x_rg y
  refine Sx.aload_n dX12_habits_0 rfl ?_
  refine Sx.iconst (v := (nI 0)) dX12_habits_1 (by decide) ?_
  refine Sx.putfV dX12_habits_2 lkp_X12_109_12 (o_253 W) rfl rfl (fun I1 e1 o1 => ?_)
  have M1 := hM.th (j := 0) (by unfold sfJ; decide) e1 o1
  have hf1 : FM R I L R I1 L := FM.i fun q hq => o1 q (by omega)
  have hp6 := hG.p
  have hb := hG.b
  have hB := hG.bnd
  refine Sx.aload_n dX12_habits_5 rfl ?_
  refine Sx.iload_n dX12_habits_6 rfl ?_
  refine Sx.callV1 dX12_habits_7 lkv_X12_384 (rcv_12 (o_253 W)) (by decide) (by decide) (Nat.le_of_ble_eq_true rfl) rfl rfl (k_isPerson W M1.1 (by omega) ?_)
  refine Sx.if_eqD (t := 18) dX12_habits_10 (by decide) (fun c10 => ?_) (fun c10 => ?_)
  · refine Sx.iconst (v := (iI (-1))) dX12_habits_18 (by decide) ?_
    refine Sx.iret dX12_habits_19 rfl rfl ?_
    have hn : ¬ habC V x y := fun z => by omega
    exact pXX (by unfold habR; rw [if_neg hn]; rfl) (h I1 R L M1 hf1)
  · refine Sx.iload_n dX12_habits_13 rfl ?_
    refine Sx.iconst (v := (iI (-1))) dX12_habits_14 (by decide) ?_
    refine Sx.icmp_geV (t := 20) dX12_habits_15 (by decide) (vX y) (vZ (by decide)) (fun c15 => ?_) (fun c15 => ?_)
    · have hH := hG.hv (by omega)
      obtain ⟨p1, p2, p3, p4, p5, p6, p7, p8, p9⟩ := id hH.2.2.2.1
      have hc : habC V x y := ⟨⟨by omega, by omega⟩, by omega⟩
      obtain ⟨p, rfl, hp⟩ := x_ex (x := x) (n := V 2 35) ⟨by omega, by omega⟩
      refine Sx.sub' [(0, .ref 253), (1, .int (nI p)), (2, .int y)] rfl ?_
      refine Sx.aload_n dX12_habits_20 rfl ?_
      refine Sx.iload_n dX12_habits_21 rfl ?_
      refine Sx.callV1 dX12_habits_22 lkv_X12_462 (rcv_12 (o_253 W)) (by decide) (by decide) (Nat.le_of_ble_eq_true rfl) rfl rfl (k_laysH W M1 hH (hX (by omega)).1 (hX (by omega)).2 hG.si hp (fun R2 I2 L2 hM2 fl2 hr2 => ?_))
      have W := fl2.wf W
      have hf2 := hf1.tr fl2
      have hcb := cntB_le (fitB V p) (V 2 34)
      refine Sx.istore_n (lv' := [(3, .int (nI (cntB (fitB V p) (V 2 34)))), (0, .ref 253), (1, .int (nI p)), (2, .int y)]) dX12_habits_25 (by decide) rfl ?_
      refine Sx.iload_n dX12_habits_26 rfl ?_
      refine Sx.iconst (v := (iI (-1))) dX12_habits_27 (by decide) ?_
      refine Sx.icmp_neV (t := 33) dX12_habits_28 (by decide) (vX y) (vZ (by decide)) (fun c28 => ?_) (fun c28 => ?_)
      · refine Sx.iconst (v := (nI 0)) dX12_habits_33 (by decide) ?_
        refine Sx.istore (lv' := [(4, .int (nI 0)), (3, .int (nI (cntB (fitB V p) (V 2 34)))), (0, .ref 253), (1, .int (nI p)), (2, .int y)]) dX12_habits_34 (by decide) rfl ?_
        refine Sx.iconst (v := (nI 0)) dX12_habits_36 (by decide) ?_
        refine Sx.istore (lv' := [(5, .int (nI 0)), (4, .int (nI 0)), (3, .int (nI (cntB (fitB V p) (V 2 34)))), (0, .ref 253), (1, .int (nI p)), (2, .int y)]) dX12_habits_37 (by decide) rfl ?_
        refine Sx.sub' [(5, .int (nI 0)), (4, .int (nI 0)), (0, .ref 253), (1, .int (nI p)), (2, .int y)] rfl ?_
        exact l_hab (y := y) W hM2 (by omega) (fun k hk => hr2.2 k hk) (pXX (by unfold habR; rw [if_pos hc, if_neg (by omega), xN_n (by omega)]) (h I2 R2 L2 hM2 hf2)) (V 2 34 + 1) (V 2 34) (by omega) 0 0 (by omega) (by omega) rfl
      · refine Sx.iload_n dX12_habits_31 rfl ?_
        refine Sx.iret dX12_habits_32 rfl rfl ?_
        exact pXX (by unfold habR; rw [if_pos hc, if_pos (by omega), xN_n (by omega)]) (h I2 R2 L2 hM2 hf2)
    · refine Sx.iconst (v := (iI (-1))) dX12_habits_18 (by decide) ?_
      refine Sx.iret dX12_habits_19 rfl rfl ?_
      have hn : ¬ habC V x y := fun z => by omega
      exact pXX (by unfold habR; rw [if_neg hn]; rfl) (h I1 R L M1 hf1)
def smN2 (V : Vt) (p a n : Nat) : Nat → Nat
  | 0 => 0
  | b + 1 => smN2 V p a n b + (if fitB V p a = true ∧ fitB V p b = true ∧ crC V p a n = crC V p b n then 1 else 0)
theorem smN2_le (V : Vt) (p a n : Nat) : ∀ j, smN2 V p a n j ≤ j
  | 0 => Nat.le_refl _
  | j + 1 => by have := smN2_le V p a n j; unfold smN2; split <;> omega
def moN (V : Vt) (p n : Nat) : Nat → Nat
  | 0 => 0
  | a + 1 => max (moN V p n a) (smN2 V p a n (V 2 34))
theorem moN_le (V : Vt) (p n : Nat) : ∀ j, moN V p n j ≤ V 2 34
  | 0 => Nat.zero_le _
  | j + 1 => by have := moN_le V p n j; have := smN2_le V p j n (V 2 34); unfold moN; omega
/-- the first day of the fewest: among the days 1 .. j, 0 if none -/
def asN (V : Vt) (p : Nat) : Nat → Nat
  | 0 => 0
  | j + 1 => if asN V p j = 0 ∨ moN V p (j + 1) (V 2 34) < moN V p (asN V p j) (V 2 34) then j + 1 else asN V p j
abbrev askC (V : Vt) (x : Int32) : Prop := (0 ≤ x.toInt ∧ x.toInt < (V 2 35 : Int)) ∧ cntB (fitB V (xN x)) (V 2 34) ≠ 0
def askR (V : Vt) (x : Int32) : Int32 := if askC V x then nI (asN V (xN x) 60) else -1
set_option maxRecDepth 20000 in
set_option maxHeartbeats 1000000 in
theorem l_as58 {G : Gt} {l : Launch} {Z : Zt} {R : Rt} {I : It} {L : Lt} {post : Pt'} {V : Vt} {p n fw : Nat} {bz : Int} {a mo : Nat} (W : WF Z R) (hM : MI V I L) (hH : HV V) (hK : PK (V 2)) (hp : p < V 2 35) (hr : RI V p (I 274) (I 275) (V 2 34)) (hn : 1 ≤ n ∧ n ≤ 60) (ha : a < V 2 34) (h : Sx G l mX12_ask 39 0 0 132 [(7, .int (nI (smN2 V p a n (V 2 34)))), (6, .int (nI a)), (5, .int (nI mo)), (4, .int (nI n)), (0, .ref 253), (1, .int (nI p)), (2, .int (iI bz)), (3, .int (nI fw))] [] Z R I L post) :
    ∀ (r b : Nat), b ≤ V 2 34 → V 2 34 < b + r → ∀ sm, sm = smN2 V p a n b → Sx G l mX12_ask 39 0 0 58 [(8, .int (nI b)), (7, .int (nI sm)), (6, .int (nI a)), (5, .int (nI mo)), (4, .int (nI n)), (0, .ref 253), (1, .int (nI p)), (2, .int (iI bz)), (3, .int (nI fw))] [] Z R I L post := by
  obtain ⟨p1, p2, p3, p4, p5, p6, p7, p8, p9⟩ := id hH.2.2.2.1
  intro r
  induction r with
  | zero => intro b h1 h2; omega
  | succ r ih =>
    intro b h1 h2 sm hsm
    have hsb : sm ≤ b := by rw [hsm]; exact smN2_le _ _ _ _ _
    refine Sx.iload dX12_ask_58 rfl ?_
    refine Sx.aload_n dX12_ask_60 rfl ?_
    refine Sx.getfV (v := (nI (V 2 34))) dX12_ask_61 lkf_X12_304_12 (o_253 W) hM.1.1.2.2.1 ?_
    refine Sx.icmp_geV (t := 132) dX12_ask_64 (by decide) (vN (by omega)) (vN (by omega)) (fun c64 => ?_) (fun c64 => ?_)
    · have hb : b = V 2 34 := by omega
      subst hb
      subst hsm
      refine Sx.sub' [(7, .int (nI (smN2 V p a n (V 2 34)))), (6, .int (nI a)), (5, .int (nI mo)), (4, .int (nI n)), (0, .ref 253), (1, .int (nI p)), (2, .int (iI bz)), (3, .int (nI fw))] rfl ?_
      exact h
    · refine Sx.iload dX12_ask_67 rfl ?_
      refine Sx.aload_n dX12_ask_69 rfl ?_
      refine Sx.getfR dX12_ask_70 lkf_X12_96_12 (o_253 W) (r_253_47 W) ?_
      refine Sx.iload dX12_ask_73 rfl ?_
      refine Sx.zaldN dX12_ask_75 (a_275 W) (by omega) (by decide) (v := (b2i (fitB V p a))) (hr.2 a (by omega)) ?_
      refine Sx.if_eqB (t := 122) dX12_ask_76 (by decide) (fun c76 => ?_) (fun c76 => ?_)
      · refine Sx.iconst (v := (nI 0)) dX12_ask_122 (by decide) ?_
        refine Sx.iaddN dX12_ask_123 ?_
        refine Sx.istore (lv' := [(7, .int (nI (sm + 0))), (8, .int (nI b)), (6, .int (nI a)), (5, .int (nI mo)), (4, .int (nI n)), (0, .ref 253), (1, .int (nI p)), (2, .int (iI bz)), (3, .int (nI fw))]) dX12_ask_124 (by decide) rfl ?_
        refine Sx.iinc (v := (nI (b + 1))) (lv' := [(8, .int (nI (b + 1))), (7, .int (nI (sm + 0))), (6, .int (nI a)), (5, .int (nI mo)), (4, .int (nI n)), (0, .ref 253), (1, .int (nI p)), (2, .int (iI bz)), (3, .int (nI fw))]) dX12_ask_126 rfl (nI_add b 1) (by decide) rfl ?_
        refine Sx.goto (t := 58) dX12_ask_129 (by decide) ?_
        refine Sx.sub' [(8, .int (nI (b + 1))), (7, .int (nI (sm + 0))), (6, .int (nI a)), (5, .int (nI mo)), (4, .int (nI n)), (0, .ref 253), (1, .int (nI p)), (2, .int (iI bz)), (3, .int (nI fw))] rfl ?_
        exact ih (b + 1) (by omega) (by omega) _ (by rw [smN2, ← hsm, if_neg (fun z => by first | (have := z.1; rw [c76] at this; exact absurd this (by decide)) | (have := z.2.1; rw [c86] at this; exact absurd this (by decide)) | (have := z.2.2; omega))])
      · refine Sx.aload_n dX12_ask_79 rfl ?_
        refine Sx.getfR dX12_ask_80 lkf_X12_96_12 (o_253 W) (r_253_47 W) ?_
        refine Sx.iload dX12_ask_83 rfl ?_
        refine Sx.zaldN dX12_ask_85 (a_275 W) (by omega) (by decide) (v := (b2i (fitB V p b))) (hr.2 b (by omega)) ?_
        refine Sx.if_eqB (t := 122) dX12_ask_86 (by decide) (fun c86 => ?_) (fun c86 => ?_)
        · refine Sx.iconst (v := (nI 0)) dX12_ask_122 (by decide) ?_
          refine Sx.iaddN dX12_ask_123 ?_
          refine Sx.istore (lv' := [(7, .int (nI (sm + 0))), (8, .int (nI b)), (6, .int (nI a)), (5, .int (nI mo)), (4, .int (nI n)), (0, .ref 253), (1, .int (nI p)), (2, .int (iI bz)), (3, .int (nI fw))]) dX12_ask_124 (by decide) rfl ?_
          refine Sx.iinc (v := (nI (b + 1))) (lv' := [(8, .int (nI (b + 1))), (7, .int (nI (sm + 0))), (6, .int (nI a)), (5, .int (nI mo)), (4, .int (nI n)), (0, .ref 253), (1, .int (nI p)), (2, .int (iI bz)), (3, .int (nI fw))]) dX12_ask_126 rfl (nI_add b 1) (by decide) rfl ?_
          refine Sx.goto (t := 58) dX12_ask_129 (by decide) ?_
          refine Sx.sub' [(8, .int (nI (b + 1))), (7, .int (nI (sm + 0))), (6, .int (nI a)), (5, .int (nI mo)), (4, .int (nI n)), (0, .ref 253), (1, .int (nI p)), (2, .int (iI bz)), (3, .int (nI fw))] rfl ?_
          exact ih (b + 1) (by omega) (by omega) _ (by rw [smN2, ← hsm, if_neg (fun z => by first | (have := z.1; rw [c76] at this; exact absurd this (by decide)) | (have := z.2.1; rw [c86] at this; exact absurd this (by decide)) | (have := z.2.2; omega))])
        · refine Sx.aload_n dX12_ask_89 rfl ?_
          refine Sx.getfR dX12_ask_90 lkf_X12_93_12 (o_253 W) (r_253_46 W) ?_
          refine Sx.iload dX12_ask_93 rfl ?_
          refine Sx.bipush (v := (nI 61)) dX12_ask_95 (by decide) ?_
          refine Sx.imulN dX12_ask_97 ?_
          refine Sx.iload dX12_ask_98 rfl ?_
          refine Sx.iaddN dX12_ask_100 ?_
          refine Sx.ialdN dX12_ask_101 (a_274 W) (by omega) (by decide) (v := (nI (crC V p a n))) (hr.1 a n (by omega) (by omega) (by omega)) ?_
          refine Sx.aload_n dX12_ask_102 rfl ?_
          refine Sx.getfR dX12_ask_103 lkf_X12_93_12 (o_253 W) (r_253_46 W) ?_
          refine Sx.iload dX12_ask_106 rfl ?_
          refine Sx.bipush (v := (nI 61)) dX12_ask_108 (by decide) ?_
          refine Sx.imulN dX12_ask_110 ?_
          refine Sx.iload dX12_ask_111 rfl ?_
          refine Sx.iaddN dX12_ask_113 ?_
          refine Sx.ialdN dX12_ask_114 (a_274 W) (by omega) (by decide) (v := (nI (crC V p b n))) (hr.1 b n (by omega) (by omega) (by omega)) ?_
          have cl1 := crC_le hH hK (p := p) (k := a) (n := n) (by omega) (by omega) (by omega)
          have cl2 := crC_le hH hK (p := p) (k := b) (n := n) (by omega) (by omega) (by omega)
          refine Sx.icmp_neV (t := 122) dX12_ask_115 (by decide) (vN (by omega)) (vN (by omega)) (fun c115 => ?_) (fun c115 => ?_)
          · refine Sx.iconst (v := (nI 0)) dX12_ask_122 (by decide) ?_
            refine Sx.iaddN dX12_ask_123 ?_
            refine Sx.istore (lv' := [(7, .int (nI (sm + 0))), (8, .int (nI b)), (6, .int (nI a)), (5, .int (nI mo)), (4, .int (nI n)), (0, .ref 253), (1, .int (nI p)), (2, .int (iI bz)), (3, .int (nI fw))]) dX12_ask_124 (by decide) rfl ?_
            refine Sx.iinc (v := (nI (b + 1))) (lv' := [(8, .int (nI (b + 1))), (7, .int (nI (sm + 0))), (6, .int (nI a)), (5, .int (nI mo)), (4, .int (nI n)), (0, .ref 253), (1, .int (nI p)), (2, .int (iI bz)), (3, .int (nI fw))]) dX12_ask_126 rfl (nI_add b 1) (by decide) rfl ?_
            refine Sx.goto (t := 58) dX12_ask_129 (by decide) ?_
            refine Sx.sub' [(8, .int (nI (b + 1))), (7, .int (nI (sm + 0))), (6, .int (nI a)), (5, .int (nI mo)), (4, .int (nI n)), (0, .ref 253), (1, .int (nI p)), (2, .int (iI bz)), (3, .int (nI fw))] rfl ?_
            exact ih (b + 1) (by omega) (by omega) _ (by rw [smN2, ← hsm, if_neg (fun z => by first | (have := z.1; rw [c76] at this; exact absurd this (by decide)) | (have := z.2.1; rw [c86] at this; exact absurd this (by decide)) | (have := z.2.2; omega))])
          · refine Sx.iconst (v := (nI 1)) dX12_ask_118 (by decide) ?_
            refine Sx.goto (t := 123) dX12_ask_119 (by decide) ?_
            refine Sx.iaddN dX12_ask_123 ?_
            refine Sx.istore (lv' := [(7, .int (nI (sm + 1))), (8, .int (nI b)), (6, .int (nI a)), (5, .int (nI mo)), (4, .int (nI n)), (0, .ref 253), (1, .int (nI p)), (2, .int (iI bz)), (3, .int (nI fw))]) dX12_ask_124 (by decide) rfl ?_
            refine Sx.iinc (v := (nI (b + 1))) (lv' := [(8, .int (nI (b + 1))), (7, .int (nI (sm + 1))), (6, .int (nI a)), (5, .int (nI mo)), (4, .int (nI n)), (0, .ref 253), (1, .int (nI p)), (2, .int (iI bz)), (3, .int (nI fw))]) dX12_ask_126 rfl (nI_add b 1) (by decide) rfl ?_
            refine Sx.goto (t := 58) dX12_ask_129 (by decide) ?_
            refine Sx.sub' [(8, .int (nI (b + 1))), (7, .int (nI (sm + 1))), (6, .int (nI a)), (5, .int (nI mo)), (4, .int (nI n)), (0, .ref 253), (1, .int (nI p)), (2, .int (iI bz)), (3, .int (nI fw))] rfl ?_
            exact ih (b + 1) (by omega) (by omega) _ (by rw [smN2, ← hsm, if_pos ⟨c76, c86, by omega⟩])
set_option maxRecDepth 20000 in
set_option maxHeartbeats 1000000 in
theorem l_as43 {G : Gt} {l : Launch} {Z : Zt} {R : Rt} {I : It} {L : Lt} {post : Pt'} {V : Vt} {p n fw : Nat} {bz : Int} (W : WF Z R) (hM : MI V I L) (hH : HV V) (hK : PK (V 2)) (hp : p < V 2 35) (hr : RI V p (I 274) (I 275) (V 2 34)) (hn : 1 ≤ n ∧ n ≤ 60) (h : Sx G l mX12_ask 39 0 0 147 [(5, .int (nI (moN V p n (V 2 34)))), (4, .int (nI n)), (0, .ref 253), (1, .int (nI p)), (2, .int (iI bz)), (3, .int (nI fw))] [] Z R I L post) :
    ∀ (r a : Nat), a ≤ V 2 34 → V 2 34 < a + r → ∀ mo, mo = moN V p n a → Sx G l mX12_ask 39 0 0 43 [(6, .int (nI a)), (5, .int (nI mo)), (4, .int (nI n)), (0, .ref 253), (1, .int (nI p)), (2, .int (iI bz)), (3, .int (nI fw))] [] Z R I L post := by
  obtain ⟨p1, p2, p3, p4, p5, p6, p7, p8, p9⟩ := id hH.2.2.2.1
  intro r
  induction r with
  | zero => intro a h1 h2; omega
  | succ r ih =>
    intro a h1 h2 mo hmo
    have hmb : mo ≤ V 2 34 := by rw [hmo]; exact moN_le _ _ _ _
    refine Sx.iload dX12_ask_43 rfl ?_
    refine Sx.aload_n dX12_ask_45 rfl ?_
    refine Sx.getfV (v := (nI (V 2 34))) dX12_ask_46 lkf_X12_304_12 (o_253 W) hM.1.1.2.2.1 ?_
    refine Sx.icmp_geV (t := 147) dX12_ask_49 (by decide) (vN (by omega)) (vN (by omega)) (fun c49 => ?_) (fun c49 => ?_)
    · have ha : a = V 2 34 := by omega
      subst ha
      subst hmo
      refine Sx.sub' [(5, .int (nI (moN V p n (V 2 34)))), (4, .int (nI n)), (0, .ref 253), (1, .int (nI p)), (2, .int (iI bz)), (3, .int (nI fw))] rfl ?_
      exact h
    · refine Sx.iconst (v := (nI 0)) dX12_ask_52 (by decide) ?_
      refine Sx.istore (lv' := [(7, .int (nI 0)), (6, .int (nI a)), (5, .int (nI mo)), (4, .int (nI n)), (0, .ref 253), (1, .int (nI p)), (2, .int (iI bz)), (3, .int (nI fw))]) dX12_ask_53 (by decide) rfl ?_
      refine Sx.iconst (v := (nI 0)) dX12_ask_55 (by decide) ?_
      refine Sx.istore (lv' := [(8, .int (nI 0)), (7, .int (nI 0)), (6, .int (nI a)), (5, .int (nI mo)), (4, .int (nI n)), (0, .ref 253), (1, .int (nI p)), (2, .int (iI bz)), (3, .int (nI fw))]) dX12_ask_56 (by decide) rfl ?_
      refine Sx.sub' [(8, .int (nI 0)), (7, .int (nI 0)), (6, .int (nI a)), (5, .int (nI mo)), (4, .int (nI n)), (0, .ref 253), (1, .int (nI p)), (2, .int (iI bz)), (3, .int (nI fw))] rfl ?_
      refine l_as58 W hM hH hK hp hr hn (by omega) ?_ (V 2 34 + 1) 0 (by omega) (by omega) 0 rfl
      have hs2 := smN2_le V p a n (V 2 34)
      refine Sx.iload dX12_ask_132 rfl ?_
      refine Sx.iload dX12_ask_134 rfl ?_
      refine Sx.mmax dX12_ask_136 lkm_X12_353 (by decide) (Nat.le_of_ble_eq_true rfl) ?_
      refine Sx.top (n_max (by omega) (by omega)) ?_
      refine Sx.istore (lv' := [(5, .int (nI (max mo (smN2 V p a n (V 2 34))))), (7, .int (nI (smN2 V p a n (V 2 34)))), (6, .int (nI a)), (4, .int (nI n)), (0, .ref 253), (1, .int (nI p)), (2, .int (iI bz)), (3, .int (nI fw))]) dX12_ask_139 (by decide) rfl ?_
      refine Sx.iinc (v := (nI (a + 1))) (lv' := [(6, .int (nI (a + 1))), (5, .int (nI (max mo (smN2 V p a n (V 2 34))))), (7, .int (nI (smN2 V p a n (V 2 34)))), (4, .int (nI n)), (0, .ref 253), (1, .int (nI p)), (2, .int (iI bz)), (3, .int (nI fw))]) dX12_ask_141 rfl (nI_add a 1) (by decide) rfl ?_
      refine Sx.goto (t := 43) dX12_ask_144 (by decide) ?_
      refine Sx.sub' [(6, .int (nI (a + 1))), (5, .int (nI (max mo (smN2 V p a n (V 2 34))))), (4, .int (nI n)), (0, .ref 253), (1, .int (nI p)), (2, .int (iI bz)), (3, .int (nI fw))] rfl ?_
      exact ih (a + 1) (by omega) (by omega) _ (by rw [moN, ← hmo])
theorem asN_le (V : Vt) (p : Nat) : ∀ j, asN V p j ≤ j
  | 0 => Nat.le_refl _
  | j + 1 => by have := asN_le V p j; unfold asN; split <;> omega
theorem asN_pos (V : Vt) (p : Nat) : ∀ j, 0 < j → 0 < asN V p j
  | 0 => fun h => by omega
  | j + 1 => fun _ => by
    unfold asN
    split
    · omega
    · next c => omega
theorem as_y {V : Vt} {p n d fw : Nat} (hn : 1 ≤ n) (hd : d = asN V p (n - 1)) (hfw : d ≠ 0 → fw = moN V p d (V 2 34)) (hc : d = 0 ∨ moN V p n (V 2 34) < fw) : n = asN V p n := by
  obtain ⟨m, rfl⟩ : ∃ m, n = m + 1 := ⟨n - 1, by omega⟩
  rw [Nat.add_sub_cancel] at hd
  rw [asN, if_pos]
  rw [← hd]
  by_cases d0 : d = 0
  · exact Or.inl d0
  · rw [← hfw d0]; exact Or.inr (hc.resolve_left d0)
theorem as_n {V : Vt} {p n d fw : Nat} (hn : 1 ≤ n) (hd : d = asN V p (n - 1)) (hfw : d ≠ 0 → fw = moN V p d (V 2 34)) (hc : d ≠ 0 ∧ ¬ moN V p n (V 2 34) < fw) : d = asN V p n := by
  obtain ⟨m, rfl⟩ : ∃ m, n = m + 1 := ⟨n - 1, by omega⟩
  rw [Nat.add_sub_cancel] at hd
  rw [asN, if_neg]
  · exact hd
  · rw [← hd]
    rintro (z | z)
    · exact hc.1 z
    · rw [← hfw hc.1] at z; exact hc.2 z
set_option maxRecDepth 20000 in
set_option maxHeartbeats 1000000 in
theorem l_as30 {G : Gt} {l : Launch} {Z : Zt} {R : Rt} {I : It} {L : Lt} {post : Pt'} {V : Vt} {p : Nat} (W : WF Z R) (hM : MI V I L) (hH : HV V) (hK : PK (V 2)) (hp : p < V 2 35) (hr : RI V p (I 274) (I 275) (V 2 34)) (h : post (some (.int (nI (asN V p 60)))) Z R I L) :
    ∀ (r n : Nat), 1 ≤ n → n ≤ 61 → 61 < n + r → ∀ (d : Nat) (bz : Int) (fw : Nat), bz = (if d = 0 then -1 else (d : Int)) → (d ≠ 0 → fw = moN V p d (V 2 34)) → d = asN V p (n - 1) → Sx G l mX12_ask 39 0 0 30 [(4, .int (nI n)), (0, .ref 253), (1, .int (nI p)), (2, .int (iI bz)), (3, .int (nI fw))] [] Z R I L post := by
  obtain ⟨p1, p2, p3, p4, p5, p6, p7, p8, p9⟩ := id hH.2.2.2.1
  intro r
  induction r with
  | zero => intro n h0 h1 h2; omega
  | succ r ih =>
    intro n h0 h1 h2 d bz fw hbz hfw hd
    refine Sx.iload dX12_ask_30 rfl ?_
    refine Sx.bipush (v := (nI 60)) dX12_ask_32 (by decide) ?_
    refine Sx.icmp_gtV (t := 173) dX12_ask_34 (by decide) (vN (by omega)) (vN (by decide)) (fun c34 => ?_) (fun c34 => ?_)
    · refine Sx.iload_n dX12_ask_173 rfl ?_
      refine Sx.iret dX12_ask_174 rfl rfl ?_
      have hn61 : n = 61 := by omega
      subst hn61
      have hdp := asN_pos V p 60 (by decide)
      have hd60 : d = asN V p 60 := hd
      refine pXX ?_ h
      rw [hbz, if_neg (by omega), hd60, ← nI_iI]
    · refine Sx.iconst (v := (nI 0)) dX12_ask_37 (by decide) ?_
      refine Sx.istore (lv' := [(5, .int (nI 0)), (4, .int (nI n)), (0, .ref 253), (1, .int (nI p)), (2, .int (iI bz)), (3, .int (nI fw))]) dX12_ask_38 (by decide) rfl ?_
      refine Sx.iconst (v := (nI 0)) dX12_ask_40 (by decide) ?_
      refine Sx.istore (lv' := [(6, .int (nI 0)), (5, .int (nI 0)), (4, .int (nI n)), (0, .ref 253), (1, .int (nI p)), (2, .int (iI bz)), (3, .int (nI fw))]) dX12_ask_41 (by decide) rfl ?_
      refine Sx.sub' [(6, .int (nI 0)), (5, .int (nI 0)), (4, .int (nI n)), (0, .ref 253), (1, .int (nI p)), (2, .int (iI bz)), (3, .int (nI fw))] rfl ?_
      have hn : 1 ≤ n ∧ n ≤ 60 := ⟨by omega, by omega⟩
      refine l_as43 W hM hH hK hp hr hn ?_ (V 2 34 + 1) 0 (by omega) (by omega) 0 rfl
      have hml := moN_le V p n (V 2 34)
      have hdz : bz = -1 → d = 0 := fun z => by
        rw [hbz] at z
        split at z
        · assumption
        · omega
      have hbzb : -1 ≤ bz ∧ bz ≤ 60 := by have := asN_le V p (n - 1); rw [hbz]; split <;> omega
      have hfwb : d ≠ 0 → fw ≤ 6 := fun z => by rw [hfw z]; have := moN_le V p d (V 2 34); omega
      skip
      refine Sx.iload_n dX12_ask_147 rfl ?_
      refine Sx.iconst (v := (iI (-1))) dX12_ask_148 (by decide) ?_
      refine Sx.icmp_eqV (t := 161) dX12_ask_149 (by decide) (vZ (by omega)) (vZ (by decide)) (fun c149 => ?_) (fun c149 => ?_)
      · refine Sx.iload dX12_ask_161 rfl ?_
        refine Sx.istore_n (lv' := [(2, .int (nI n)), (5, .int (nI (moN V p n (V 2 34)))), (4, .int (nI n)), (0, .ref 253), (1, .int (nI p)), (3, .int (nI fw))]) dX12_ask_163 (by decide) rfl ?_
        refine Sx.iload dX12_ask_164 rfl ?_
        refine Sx.istore_n (lv' := [(3, .int (nI (moN V p n (V 2 34)))), (2, .int (nI n)), (5, .int (nI (moN V p n (V 2 34)))), (4, .int (nI n)), (0, .ref 253), (1, .int (nI p))]) dX12_ask_166 (by decide) rfl ?_
        refine Sx.iinc (v := (nI (n + 1))) (lv' := [(4, .int (nI (n + 1))), (3, .int (nI (moN V p n (V 2 34)))), (2, .int (nI n)), (5, .int (nI (moN V p n (V 2 34)))), (0, .ref 253), (1, .int (nI p))]) dX12_ask_167 rfl (nI_add n 1) (by decide) rfl ?_
        refine Sx.goto (t := 30) dX12_ask_170 (by decide) ?_
        refine Sx.sub' [(4, .int (nI (n + 1))), (0, .ref 253), (1, .int (nI p)), (2, .int (iI (n : Int))), (3, .int (nI (moN V p n (V 2 34))))] (by rw [← nI_iI]; rfl) ?_
        exact ih (n + 1) (by omega) (by omega) (by omega) n (n : Int) _ (by rw [if_neg (by omega)]) (fun _ => rfl) (by rw [Nat.add_sub_cancel]; exact as_y hn.1 hd hfw (by first | exact Or.inl (hdz c149) | exact Or.inr (by omega)))
      · have hd0 : d ≠ 0 := fun z => by rw [if_pos z] at hbz; omega
        have hfw6 := hfwb hd0
        refine Sx.iload dX12_ask_152 rfl ?_
        refine Sx.iload_n dX12_ask_154 rfl ?_
        refine Sx.icmp_ltV (t := 161) dX12_ask_155 (by decide) (vN (by omega)) (vN (by omega)) (fun c155 => ?_) (fun c155 => ?_)
        · refine Sx.iload dX12_ask_161 rfl ?_
          refine Sx.istore_n (lv' := [(2, .int (nI n)), (5, .int (nI (moN V p n (V 2 34)))), (4, .int (nI n)), (0, .ref 253), (1, .int (nI p)), (3, .int (nI fw))]) dX12_ask_163 (by decide) rfl ?_
          refine Sx.iload dX12_ask_164 rfl ?_
          refine Sx.istore_n (lv' := [(3, .int (nI (moN V p n (V 2 34)))), (2, .int (nI n)), (5, .int (nI (moN V p n (V 2 34)))), (4, .int (nI n)), (0, .ref 253), (1, .int (nI p))]) dX12_ask_166 (by decide) rfl ?_
          refine Sx.iinc (v := (nI (n + 1))) (lv' := [(4, .int (nI (n + 1))), (3, .int (nI (moN V p n (V 2 34)))), (2, .int (nI n)), (5, .int (nI (moN V p n (V 2 34)))), (0, .ref 253), (1, .int (nI p))]) dX12_ask_167 rfl (nI_add n 1) (by decide) rfl ?_
          refine Sx.goto (t := 30) dX12_ask_170 (by decide) ?_
          refine Sx.sub' [(4, .int (nI (n + 1))), (0, .ref 253), (1, .int (nI p)), (2, .int (iI (n : Int))), (3, .int (nI (moN V p n (V 2 34))))] (by rw [← nI_iI]; rfl) ?_
          exact ih (n + 1) (by omega) (by omega) (by omega) n (n : Int) _ (by rw [if_neg (by omega)]) (fun _ => rfl) (by rw [Nat.add_sub_cancel]; exact as_y hn.1 hd hfw (by first | exact Or.inl (hdz c149) | exact Or.inr (by omega)))
        · refine Sx.goto (t := 167) dX12_ask_158 (by decide) ?_
          refine Sx.iinc (v := (nI (n + 1))) (lv' := [(4, .int (nI (n + 1))), (5, .int (nI (moN V p n (V 2 34)))), (0, .ref 253), (1, .int (nI p)), (2, .int (iI bz)), (3, .int (nI fw))]) dX12_ask_167 rfl (nI_add n 1) (by decide) rfl ?_
          refine Sx.goto (t := 30) dX12_ask_170 (by decide) ?_
          refine Sx.sub' [(4, .int (nI (n + 1))), (0, .ref 253), (1, .int (nI p)), (2, .int (iI bz)), (3, .int (nI fw))] rfl ?_
          exact ih (n + 1) (by omega) (by omega) (by omega) d bz fw hbz hfw (by rw [Nat.add_sub_cancel]; exact as_n hn.1 hd hfw ⟨hd0, by omega⟩)
set_option maxRecDepth 20000 in
set_option maxHeartbeats 1000000 in
theorem k_ask {G : Gt} {l : Launch} {Z : Zt} {R : Rt} {I : It} {L : Lt} {post : Pt'} {V : Vt} {N : Nat} {x : Int32} (W : WF Z R) (hM : MI V I L) (hG : GV N V) (hN : N < 2147483647) (hX : V 2 35 ≠ 0 → PX (V 2) ∧ PK (V 2)) (h : QK post Z R I L V (askR V x)) : Cx G l mX12_ask 39 0 0 [.ref 253, .int x] Z R I L post := by
  refine Cx.of (by decide +kernel) (by exact Nat.le_of_ble_eq_true rfl) ?_
  refine Sx.aload_n dX12_ask_0 rfl ?_
  refine Sx.iconst (v := (nI 0)) dX12_ask_1 (by decide) ?_
  refine Sx.putfV dX12_ask_2 lkp_X12_109_12 (o_253 W) rfl rfl (fun I1 e1 o1 => ?_)
  have M1 := hM.th (j := 0) (by unfold sfJ; decide) e1 o1
  have hf1 : FM R I L R I1 L := FM.i fun q hq => o1 q (by omega)
  have hp6 := hG.p
  have hb := hG.b
  have hB := hG.bnd
  refine Sx.aload_n dX12_ask_5 rfl ?_
  refine Sx.iload_n dX12_ask_6 rfl ?_
  refine Sx.callV1 dX12_ask_7 lkv_X12_384 (rcv_12 (o_253 W)) (by decide) (by decide) (Nat.le_of_ble_eq_true rfl) rfl rfl (k_isPerson W M1.1 (by omega) ?_)
  refine Sx.if_eqD (t := 21) dX12_ask_10 (by decide) (fun c10 => ?_) (fun c10 => ?_)
  · refine Sx.iconst (v := (iI (-1))) dX12_ask_21 (by decide) ?_
    refine Sx.iret dX12_ask_22 rfl rfl ?_
    have hn : ¬ askC V x := fun z => by have := z.1; omega
    exact pXX (by unfold askR; rw [if_neg hn]; rfl) (h I1 R L M1 hf1)
  · have hH := hG.hv (by omega)
    obtain ⟨p1, p2, p3, p4, p5, p6, p7, p8, p9⟩ := id hH.2.2.2.1
    obtain ⟨p, rfl, hp⟩ := x_ex (x := x) (n := V 2 35) ⟨by omega, by omega⟩
    refine Sx.sub' [(0, .ref 253), (1, .int (nI p))] rfl ?_
    have tp := x_toN (p := p) (by omega)
    refine Sx.aload_n dX12_ask_13 rfl ?_
    refine Sx.iload_n dX12_ask_14 rfl ?_
    refine Sx.callV1 dX12_ask_15 lkv_X12_462 (rcv_12 (o_253 W)) (by decide) (by decide) (Nat.le_of_ble_eq_true rfl) rfl rfl (k_laysH W M1 hH (hX (by omega)).1 (hX (by omega)).2 hG.si hp (fun R2 I2 L2 hM2 fl2 hr2 => ?_))
    have W := fl2.wf W
    have hf2 := hf1.tr fl2
    have hcb := cntB_le (fitB V p) (V 2 34)
    refine Sx.if_neV (t := 23) dX12_ask_18 (by decide) (vN (by omega)) (fun c18 => ?_) (fun c18 => ?_)
    · refine Sx.iconst (v := (iI (-1))) dX12_ask_23 (by decide) ?_
      refine Sx.istore_n (lv' := [(2, .int (iI (-1))), (0, .ref 253), (1, .int (nI p))]) dX12_ask_24 (by decide) rfl ?_
      refine Sx.iconst (v := (nI 0)) dX12_ask_25 (by decide) ?_
      refine Sx.istore_n (lv' := [(3, .int (nI 0)), (2, .int (iI (-1))), (0, .ref 253), (1, .int (nI p))]) dX12_ask_26 (by decide) rfl ?_
      refine Sx.iconst (v := (nI 1)) dX12_ask_27 (by decide) ?_
      refine Sx.istore (lv' := [(4, .int (nI 1)), (3, .int (nI 0)), (2, .int (iI (-1))), (0, .ref 253), (1, .int (nI p))]) dX12_ask_28 (by decide) rfl ?_
      refine Sx.sub' [(4, .int (nI 1)), (0, .ref 253), (1, .int (nI p)), (2, .int (iI (-1))), (3, .int (nI 0))] rfl ?_
      have hc : askC V (nI p) := ⟨⟨by omega, by omega⟩, by rw [xN_n (by omega)]; omega⟩
      exact l_as30 W hM2 hH (hX (by omega)).2 hp hr2 (pXX (by unfold askR; rw [if_pos hc, xN_n (by omega)]) (h I2 R2 L2 hM2 hf2)) 61 1 (by decide) (by decide) (by decide) 0 (-1) 0 rfl (fun z => absurd rfl z) rfl
    · refine Sx.iconst (v := (iI (-1))) dX12_ask_21 (by decide) ?_
      refine Sx.iret dX12_ask_22 rfl rfl ?_
      have hn : ¬ askC V (nI p) := fun z => by have := z.2; rw [xN_n (by omega)] at this; omega
      exact pXX (by unfold askR; rw [if_neg hn]; rfl) (h I2 R2 L2 hM2 hf2)
