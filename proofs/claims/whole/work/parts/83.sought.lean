/-! the reference: the fewest who do otherwise or stay in bed -/
theorem GV.hk {N : Nat} {V : Vt} (h : GV N V) (hk : 0 < V 2 34) : HV V := by
  refine h.hv (fun z => ?_)
  rcases h.2.2.2.2.2.2 with q | q
  · have := q.2.1 34; omega
  · have := q.1.2.2.2.2.2.2.1; omega
theorem sub_and : ∀ s, s < 64 → ∀ m, m < 64 → nI s &&& (nI m ^^^ iI (-1)) = nI (s &&& (63 ^^^ m)) := by decide +kernel
def soF (ok : Nat → Bool) : Nat → Nat
  | 0 => 0
  | s + 1 => if (soF ok s = 0 ∨ popN s < popN (soF ok s - 1)) ∧ ok s = true then s + 1 else soF ok s
theorem soF_le (ok : Nat → Bool) : ∀ s, soF ok s ≤ s
  | 0 => Nat.le_refl _
  | s + 1 => by
    have := soF_le ok s
    unfold soF
    split <;> omega
def swT (V : Vt) (k set j : Nat) : Nat → Nat := fun q => if q < j ∧ hbN set q = true then k else V 3 q
def bdT (V : Vt) (set : Nat) : Nat → Nat := upn (V 3) 138 (V 3 138 ||| set)
def swK (V : Vt) (k : Nat) (s : Nat) : Bool := decide (goY (V 2) (wlV V) (swT V k s (V 2 35)) 143 = k + 1)
def bdK (V : Vt) (k : Nat) (s : Nat) : Bool := decide (s &&& (63 ^^^ upN (V 2 35) (V 3 138)) = 0 ∧ goY (V 2) (wlV V) (bdT V s) 143 = k + 1)
abbrev swiC (V : Vt) (x : Int32) : Prop := 0 ≤ x.toInt ∧ x.toInt < (V 2 34 : Int)
def swiR (V : Vt) (x : Int32) : Int32 := if swiC V x then iI ((soF (swK V (xN x)) (2 ^ V 2 35) : Int) - 1) else -1
def bedR (V : Vt) (x : Int32) : Int32 := if swiC V x then iI ((soF (bdK V (xN x)) (2 ^ V 2 35) : Int) - 1) else -1
theorem k_bitcZ {G : Gt} {l : Launch} {Z : Zt} {R : Rt} {I : It} {L : Lt} {post : Pt'} {x : Nat} {z : Int} (hz : z = (x : Int)) (hx : x < 64) (h : post (some (.int (nI (popN x)))) Z R I L) : Cx G l mJ6_bitCount_0f7a4 1 0 0 [.int (iI z)] Z R I L post := by
  rw [hz, ← nI_iI]
  exact k_bitc hx h
theorem swT_y {V : Vt} {k set j : Nat} (c : hbN set j = true) (q : Nat) : swT V k set (j + 1) q = upn (swT V k set j) j k q := by
  show (if q < j + 1 ∧ hbN set q = true then k else V 3 q) = (if q = j then k else if q < j ∧ hbN set q = true then k else V 3 q)
  by_cases e : q = j
  · subst e; rw [if_pos rfl, if_pos ⟨by omega, c⟩]
  · rw [if_neg e]
    by_cases d : q < j ∧ hbN set q = true
    · rw [if_pos d, if_pos ⟨by omega, d.2⟩]
    · rw [if_neg d, if_neg (fun z => d ⟨by omega, z.2⟩)]
theorem swT_n {V : Vt} {k set j : Nat} (c : ¬ hbN set j = true) (q : Nat) : swT V k set (j + 1) q = swT V k set j q := by
  show (if q < j + 1 ∧ hbN set q = true then k else V 3 q) = (if q < j ∧ hbN set q = true then k else V 3 q)
  by_cases d : q < j ∧ hbN set q = true
  · rw [if_pos d, if_pos ⟨by omega, d.2⟩]
  · rw [if_neg d, if_neg]
    intro z
    by_cases e : q = j
    · rw [e] at z; exact c z.2
    · exact d ⟨by omega, z.2⟩
theorem swT_SB {V : Vt} (hH : HV V) {k set : Nat} (hk : k < V 2 34) : ∀ j, j ≤ 6 → SB (V 2) (swT V k set j)
  | 0 => fun _ => by rw [show swT V k set 0 = V 3 from funext fun q => if_neg (by omega)]; exact hH.2.2.2.2.1
  | j + 1 => fun hj => by
    have h := swT_SB hH (set := set) hk j (by omega)
    by_cases c : hbN set j = true
    · rw [show swT V k set (j + 1) = upn (swT V k set j) j k from funext (swT_y c)]
      exact SB.hab hH.2.2.2.1 h (by omega) hk
    · rw [show swT V k set (j + 1) = swT V k set j from funext (swT_n c)]
      exact h
theorem swT_o (V : Vt) (k set j : Nat) {q : Nat} (h : j ≤ q) : swT V k set j q = V 3 q := by unfold swT; rw [if_neg (by omega)]
theorem bdT_SB {V : Vt} (hH : HV V) {set : Nat} (hs : set < 64) : SB (V 2) (bdT V set) := by
  refine SB.up hH.2.2.2.1 hH.2.2.2.2.1 _ _ ?_
  show _ < 64
  exact Nat.or_lt_two_pow (n := 6) hH.2.2.2.2.1.2.2.2.2.2.2.1 hs
set_option maxRecDepth 20000 in
set_option maxHeartbeats 1000000 in
theorem l_so0a {G : Gt} {l : Launch} {Z : Zt} {R : Rt} {L : Lt} {post : Pt'} {V : Vt} {I1 : It} {k m set bb : Nat} (W : WF Z R) (h35 : V 2 35 ≤ 6) (hset : set < 64) (h : ∀ I', MI V I' L → MW (I' 267) (swT V k set (V 2 35)) → (∀ q, q ≠ 267 → I' q = I1 q) → Sx G l mX12_soughtBy 40 0 0 115 [(5, .int (nI set)), (4, .int (iI ((bb : Int) - 1))), (0, .ref 253), (1, .int (nI k)), (2, .int (nI m)), (3, .int (nI 0))] [] Z R I' L post) :
    ∀ (r j : Nat), j ≤ V 2 35 → V 2 35 < j + r → ∀ (I : It), MI V I L → MW (I 267) (swT V k set (j)) → (∀ q, q ≠ 267 → I q = I1 q) → Sx G l mX12_soughtBy 40 0 0 78 [(6, .int (nI j)), (5, .int (nI set)), (4, .int (iI ((bb : Int) - 1))), (0, .ref 253), (1, .int (nI k)), (2, .int (nI m)), (3, .int (nI 0))] [] Z R I L post := by
  intro r
  induction r with
  | zero => intro j h1 h2; omega
  | succ r ih =>
    intro j h1 h2 I hM hF hI
    refine Sx.iload dX12_soughtBy_78 rfl ?_
    refine Sx.aload_n dX12_soughtBy_80 rfl ?_
    refine Sx.getfV (v := (nI (V 2 35))) dX12_soughtBy_81 lkf_X12_307_12 (o_253 W) hM.1.1.2.2.2.1 ?_
    refine Sx.icmp_geV (t := 115) dX12_soughtBy_84 (by decide) (vN (by omega)) (vN (by omega)) (fun c84 => ?_) (fun c84 => ?_)
    · have hj : j = V 2 35 := by omega
      subst hj
      refine Sx.sub' [(5, .int (nI set)), (4, .int (iI ((bb : Int) - 1))), (0, .ref 253), (1, .int (nI k)), (2, .int (nI m)), (3, .int (nI 0))] rfl ?_
      exact h I hM hF hI
    · refine Sx.iload_n dX12_soughtBy_87 rfl ?_
      refine Sx.if_neV (t := 109) dX12_soughtBy_88 (by decide) (vN (by decide)) (fun c88 => False.elim (by omega)) (fun c88 => ?_)
      refine Sx.iload dX12_soughtBy_91 rfl ?_
      refine Sx.iload dX12_soughtBy_93 rfl ?_
      refine Sx.callS2 dX12_soughtBy_95 lkc_X12_242  (by decide) (by decide) (Nat.le_of_ble_eq_true rfl) rfl rfl (k_has (by omega) (by omega) ?_)
      refine Sx.if_eqB (t := 109) dX12_soughtBy_98 (by decide) (fun c98 => ?_) (fun c98 => ?_)
      · refine Sx.iinc (v := (nI (j + 1))) (lv' := [(6, .int (nI (j + 1))), (5, .int (nI set)), (4, .int (iI ((bb : Int) - 1))), (0, .ref 253), (1, .int (nI k)), (2, .int (nI m)), (3, .int (nI 0))]) dX12_soughtBy_109 rfl (nI_add j 1) (by decide) rfl ?_
        refine Sx.goto (t := 78) dX12_soughtBy_112 (by decide) ?_
        refine Sx.sub' [(6, .int (nI (j + 1))), (5, .int (nI set)), (4, .int (iI ((bb : Int) - 1))), (0, .ref 253), (1, .int (nI k)), (2, .int (nI m)), (3, .int (nI 0))] rfl ?_
        exact ih (j + 1) (by omega) (by omega) I hM (hF.cg (fun q _ => swT_n (by rw [c98]; decide) q)) hI
      · refine Sx.aload_n dX12_soughtBy_101 rfl ?_
        refine Sx.getfR dX12_soughtBy_102 lkf_X12_64_12 (o_253 W) (r_253_33 W) ?_
        refine Sx.iload dX12_soughtBy_105 rfl ?_
        refine Sx.iload_n dX12_soughtBy_107 rfl ?_
        refine Sx.iastN dX12_soughtBy_108 (a_267 W) (by omega) (by decide) (fun I1 e1 o1 => ?_)
        refine Sx.iinc (v := (nI (j + 1))) (lv' := [(6, .int (nI (j + 1))), (5, .int (nI set)), (4, .int (iI ((bb : Int) - 1))), (0, .ref 253), (1, .int (nI k)), (2, .int (nI m)), (3, .int (nI 0))]) dX12_soughtBy_109 rfl (nI_add j 1) (by decide) rfl ?_
        refine Sx.goto (t := 78) dX12_soughtBy_112 (by decide) ?_
        refine Sx.sub' [(6, .int (nI (j + 1))), (5, .int (nI set)), (4, .int (iI ((bb : Int) - 1))), (0, .ref 253), (1, .int (nI k)), (2, .int (nI m)), (3, .int (nI 0))] rfl ?_
        refine ih (j + 1) (by omega) (by omega) I1 (hM.sc (a := 267) (by unfold scr; decide) o1) ?_ (fun q hq => (o1 q hq).trans (hI q hq))
        have mn := hF.set (b := j) (x := k) (by omega) (v := nI k) (by rw [if_neg (by omega)])
        rw [cw_p (by omega)] at mn
        rw [e1]
        exact mn.cg (fun q _ => swT_y c98 q)
set_option maxRecDepth 20000 in
set_option maxHeartbeats 1000000 in
theorem l_so0 {G : Gt} {l : Launch} {Z : Zt} {post : Pt'} {V : Vt} {R0 : Rt} {I0 : It} {L0 : Lt} {k m : Nat} (hH : HV V) (hk : k < V 2 34) (hm : m < 64) (hmz : ∀ s, s < 2 ^ V 2 35 → s &&& (63 ^^^ m) = 0) (h : ∀ R' I' L', MI V I' L' → FM R0 I0 L0 R' I' L' → post (some (.int (iI ((soF (swK V k) (2 ^ V 2 35) : Int) - 1)))) Z R' I' L') :
    ∀ (r set : Nat), set ≤ 2 ^ V 2 35 → 2 ^ V 2 35 < set + r → ∀ bb, bb = soF (swK V k) set → ∀ (R : Rt) (I : It) (L : Lt), WF Z R → MI V I L → FM R0 I0 L0 R I L → Sx G l mX12_soughtBy 40 0 0 6 [(5, .int (nI set)), (4, .int (iI ((bb : Int) - 1))), (0, .ref 253), (1, .int (nI k)), (2, .int (nI m)), (3, .int (nI 0))] [] Z R I L post := by
  obtain ⟨p1, p2, p3, p4, p5, p6, p7, p8, p9⟩ := id hH.2.2.2.1
  have h64 : 2 ^ V 2 35 ≤ 2 ^ 6 := Nat.pow_le_pow_right (by decide) p8
  have hS0 := hH.2.2.2.2.1
  have hy0 := hH.2.2.2.2.2.1
  have hS0b := hS0.2.2.2.2.2.2.1
  intro r
  induction r with
  | zero => intro set h1 h2; omega
  | succ r ih =>
    intro set h1 h2 bb hb R I L W hM hf
    have hbs : bb ≤ set := by rw [hb]; exact soF_le _ _

    refine Sx.iload dX12_soughtBy_6 rfl ?_
    refine Sx.iconst (v := (nI 1)) dX12_soughtBy_8 (by decide) ?_
    refine Sx.aload_n dX12_soughtBy_9 rfl ?_
    refine Sx.getfV (v := (nI (V 2 35))) dX12_soughtBy_10 lkf_X12_307_12 (o_253 W) hM.1.1.2.2.2.1 ?_
    refine Sx.ishl1 dX12_soughtBy_13 (by omega) ?_
    refine Sx.icmp_geV (t := 140) dX12_soughtBy_14 (by decide) (vN (by omega)) (vN (by omega)) (fun c14 => ?_) (fun c14 => ?_)
    · have hs : set = 2 ^ V 2 35 := by omega
      subst hs
      subst hb
      refine Sx.iload dX12_soughtBy_140 rfl ?_
      refine Sx.iret dX12_soughtBy_142 rfl rfl ?_
      exact h R I L hM hf
    · have hs64 : set < 64 := by omega
      have hand := Nat.and_le_left (n := set) (m := 63 ^^^ m)
      refine Sx.iload dX12_soughtBy_17 rfl ?_
      refine Sx.iload_n dX12_soughtBy_19 rfl ?_
      refine Sx.iconst (v := (iI (-1))) dX12_soughtBy_20 (by decide) ?_
      refine Sx.ixor dX12_soughtBy_21 ?_
      refine Sx.top (show _ = ((nI m ^^^ iI (-1))) from rfl) ?_
      refine Sx.iand dX12_soughtBy_22 ?_
      refine Sx.top (show _ = (nI (set &&& (63 ^^^ m))) from sub_and set (by omega) m (by omega)) ?_
      refine Sx.if_neV (t := 134) dX12_soughtBy_23 (by decide) (vN (by omega)) (fun c23 => False.elim (by rw [hmz set (by omega)] at c23; exact c23 rfl)) (fun c23 => ?_)
      refine Sx.iload dX12_soughtBy_26 rfl ?_
      refine Sx.iconst (v := (iI (-1))) dX12_soughtBy_28 (by decide) ?_
      refine Sx.icmp_eqV (t := 48) dX12_soughtBy_29 (by decide) (vZ (by omega)) (vZ (by decide)) (fun c29 => ?_) (fun c29 => ?_)
      · refine Sx.aload_n dX12_soughtBy_48 rfl ?_
        refine Sx.getfR dX12_soughtBy_49 lkf_X12_61_12 (o_253 W) (r_253_32 W) ?_
        refine Sx.aload_n dX12_soughtBy_52 rfl ?_
        refine Sx.getfR dX12_soughtBy_53 lkf_X12_64_12 (o_253 W) (r_253_33 W) ?_
        refine Sx.callS2 dX12_soughtBy_56 lkc_X12_434  (by decide) (by decide) (Nat.le_of_ble_eq_true rfl) rfl rfl (k_cpT W hM (fun I1 hM1 hF1 o1 fc1 => ?_))
        refine Sx.iload_n dX12_soughtBy_59 rfl ?_
        refine Sx.if_eqV (t := 75) dX12_soughtBy_60 (by decide) (vN (by decide)) (fun c60 => ?_) (fun c60 => False.elim (by omega))
        refine Sx.iconst (v := (nI 0)) dX12_soughtBy_75 (by decide) ?_
        refine Sx.istore (lv' := [(6, .int (nI 0)), (5, .int (nI set)), (4, .int (iI ((bb : Int) - 1))), (0, .ref 253), (1, .int (nI k)), (2, .int (nI m)), (3, .int (nI 0))]) dX12_soughtBy_76 (by decide) rfl ?_
        refine Sx.sub' [(6, .int (nI 0)), (5, .int (nI set)), (4, .int (iI ((bb : Int) - 1))), (0, .ref 253), (1, .int (nI k)), (2, .int (nI m)), (3, .int (nI 0))] rfl ?_
        refine l_so0a (I1 := I1) W (by omega) (by omega) (fun J jM jF jo => ?_) (V 2 35 + 1) 0 (by omega) (by omega) I1 hM1 (hF1.cg (fun q _ => swT_o V k set 0 (by omega))) (fun _ _ => rfl)
        have hfa := hf.tr (fc1.tr (FM.i (R := R) (L := L) fun q hq => jo q (by omega)))
        have hST := swT_SB hH (set := set) hk (V 2 35) (by omega)
        refine Sx.aload_n dX12_soughtBy_115 rfl ?_
        refine Sx.callV0 dX12_soughtBy_116 lkv_X12_451 (rcv_12 (o_253 W)) (by decide) (by decide) (Nat.le_of_ble_eq_true rfl) rfl rfl (k_gyT W jM hH hST jF (by rw [swT_o _ _ _ _ (by omega)]; omega) (fun I21 R21 L21 hM21 hF21 og21 fl21 => ?_))
        have W := fl21.wf W
        obtain ⟨g1, g2, g3⟩ := goY_ok (w := wlV V) hH.2.2.2.1 hST (by rw [swT_o _ _ _ _ (by omega)]; omega)
        have z3 := g1.2.2.2.2.2.2.2.2.2.2.2.1
        refine Sx.aload_n dX12_soughtBy_119 rfl ?_
        refine Sx.getfR dX12_soughtBy_120 lkf_X12_64_12 (o_253 W) (r_253_33 W) ?_
        refine Sx.bipush (v := (nI 23)) dX12_soughtBy_123 (by decide) ?_
        refine Sx.ialdN dX12_soughtBy_125 (a_267 W) (by decide) (by decide) (v := (iI ((goY (V 2) (wlV V) (swT V k set (V 2 35)) 143 : Int) - 1))) hF21.2.2.2.2.2.2.1 ?_
        refine Sx.iload_n dX12_soughtBy_126 rfl ?_
        refine Sx.icmp_neV (t := 134) dX12_soughtBy_127 (by decide) (vZ (by omega)) (vN (by omega)) (fun c127 => ?_) (fun c127 => ?_)
        · refine Sx.iinc (v := (nI (set + 1))) (lv' := [(5, .int (nI (set + 1))), (4, .int (iI ((bb : Int) - 1))), (0, .ref 253), (1, .int (nI k)), (2, .int (nI m)), (3, .int (nI 0))]) dX12_soughtBy_134 rfl (nI_add set 1) (by decide) rfl ?_
          refine Sx.goto (t := 6) dX12_soughtBy_137 (by decide) ?_
          refine Sx.sub' [(5, .int (nI (set + 1))), (4, .int (iI ((((bb) : Nat) : Int) - 1))), (0, .ref 253), (1, .int (nI k)), (2, .int (nI m)), (3, .int (nI 0))] rfl ?_
          exact ih (set + 1) (by omega) (by omega) (bb) (by rw [soF, ← hb, if_neg (fun z => by have z2 := of_decide_eq_true z.2; omega)]) R21 I21 L21 W hM21 (hfa.tr fl21)
        · refine Sx.iload dX12_soughtBy_130 rfl ?_
          refine Sx.istore (lv' := [(4, .int (nI set)), (5, .int (nI set)), (0, .ref 253), (1, .int (nI k)), (2, .int (nI m)), (3, .int (nI 0))]) dX12_soughtBy_132 (by decide) rfl ?_
          refine Sx.iinc (v := (nI (set + 1))) (lv' := [(5, .int (nI (set + 1))), (4, .int (nI set)), (0, .ref 253), (1, .int (nI k)), (2, .int (nI m)), (3, .int (nI 0))]) dX12_soughtBy_134 rfl (nI_add set 1) (by decide) rfl ?_
          refine Sx.goto (t := 6) dX12_soughtBy_137 (by decide) ?_
          refine Sx.sub' [(5, .int (nI (set + 1))), (4, .int (iI ((((set + 1) : Nat) : Int) - 1))), (0, .ref 253), (1, .int (nI k)), (2, .int (nI m)), (3, .int (nI 0))] (by rw [show (((set + 1 : Nat) : Int) - 1) = (set : Int) by omega, ← nI_iI]; rfl) ?_
          exact ih (set + 1) (by omega) (by omega) (set + 1) (by rw [soF, ← hb, if_pos ⟨by omega, decide_eq_true (by omega)⟩]) R21 I21 L21 W hM21 (hfa.tr fl21)
      · refine Sx.iload dX12_soughtBy_32 rfl ?_
        refine Sx.callS1 dX12_soughtBy_34 lkc_X12_342  (by decide) (by decide) (Nat.le_of_ble_eq_true rfl) rfl rfl (k_bitc (by omega) ?_)
        refine Sx.iload dX12_soughtBy_37 rfl ?_
        refine Sx.callS1 dX12_soughtBy_39 lkc_X12_342  (by decide) (by decide) (Nat.le_of_ble_eq_true rfl) rfl rfl (k_bitcZ (x := bb - 1) (by omega) (by omega) ?_)
        have hpa := (popN_bit set (by omega)).2
        have hpb := (popN_bit (bb - 1) (by omega)).2
        refine Sx.icmp_ltV (t := 48) dX12_soughtBy_42 (by decide) (vN (by omega)) (vN (by omega)) (fun c42 => ?_) (fun c42 => ?_)
        · refine Sx.aload_n dX12_soughtBy_48 rfl ?_
          refine Sx.getfR dX12_soughtBy_49 lkf_X12_61_12 (o_253 W) (r_253_32 W) ?_
          refine Sx.aload_n dX12_soughtBy_52 rfl ?_
          refine Sx.getfR dX12_soughtBy_53 lkf_X12_64_12 (o_253 W) (r_253_33 W) ?_
          refine Sx.callS2 dX12_soughtBy_56 lkc_X12_434  (by decide) (by decide) (Nat.le_of_ble_eq_true rfl) rfl rfl (k_cpT W hM (fun I2 hM2 hF2 o2 fc2 => ?_))
          refine Sx.iload_n dX12_soughtBy_59 rfl ?_
          refine Sx.if_eqV (t := 75) dX12_soughtBy_60 (by decide) (vN (by decide)) (fun c60 => ?_) (fun c60 => False.elim (by omega))
          refine Sx.iconst (v := (nI 0)) dX12_soughtBy_75 (by decide) ?_
          refine Sx.istore (lv' := [(6, .int (nI 0)), (5, .int (nI set)), (4, .int (iI ((bb : Int) - 1))), (0, .ref 253), (1, .int (nI k)), (2, .int (nI m)), (3, .int (nI 0))]) dX12_soughtBy_76 (by decide) rfl ?_
          refine Sx.sub' [(6, .int (nI 0)), (5, .int (nI set)), (4, .int (iI ((bb : Int) - 1))), (0, .ref 253), (1, .int (nI k)), (2, .int (nI m)), (3, .int (nI 0))] rfl ?_
          refine l_so0a (I1 := I2) W (by omega) (by omega) (fun J jM jF jo => ?_) (V 2 35 + 1) 0 (by omega) (by omega) I2 hM2 (hF2.cg (fun q _ => swT_o V k set 0 (by omega))) (fun _ _ => rfl)
          have hfa := hf.tr (fc2.tr (FM.i (R := R) (L := L) fun q hq => jo q (by omega)))
          have hST := swT_SB hH (set := set) hk (V 2 35) (by omega)
          refine Sx.aload_n dX12_soughtBy_115 rfl ?_
          refine Sx.callV0 dX12_soughtBy_116 lkv_X12_451 (rcv_12 (o_253 W)) (by decide) (by decide) (Nat.le_of_ble_eq_true rfl) rfl rfl (k_gyT W jM hH hST jF (by rw [swT_o _ _ _ _ (by omega)]; omega) (fun I21 R21 L21 hM21 hF21 og21 fl21 => ?_))
          have W := fl21.wf W
          obtain ⟨g1, g2, g3⟩ := goY_ok (w := wlV V) hH.2.2.2.1 hST (by rw [swT_o _ _ _ _ (by omega)]; omega)
          have z3 := g1.2.2.2.2.2.2.2.2.2.2.2.1
          refine Sx.aload_n dX12_soughtBy_119 rfl ?_
          refine Sx.getfR dX12_soughtBy_120 lkf_X12_64_12 (o_253 W) (r_253_33 W) ?_
          refine Sx.bipush (v := (nI 23)) dX12_soughtBy_123 (by decide) ?_
          refine Sx.ialdN dX12_soughtBy_125 (a_267 W) (by decide) (by decide) (v := (iI ((goY (V 2) (wlV V) (swT V k set (V 2 35)) 143 : Int) - 1))) hF21.2.2.2.2.2.2.1 ?_
          refine Sx.iload_n dX12_soughtBy_126 rfl ?_
          refine Sx.icmp_neV (t := 134) dX12_soughtBy_127 (by decide) (vZ (by omega)) (vN (by omega)) (fun c127 => ?_) (fun c127 => ?_)
          · refine Sx.iinc (v := (nI (set + 1))) (lv' := [(5, .int (nI (set + 1))), (4, .int (iI ((bb : Int) - 1))), (0, .ref 253), (1, .int (nI k)), (2, .int (nI m)), (3, .int (nI 0))]) dX12_soughtBy_134 rfl (nI_add set 1) (by decide) rfl ?_
            refine Sx.goto (t := 6) dX12_soughtBy_137 (by decide) ?_
            refine Sx.sub' [(5, .int (nI (set + 1))), (4, .int (iI ((((bb) : Nat) : Int) - 1))), (0, .ref 253), (1, .int (nI k)), (2, .int (nI m)), (3, .int (nI 0))] rfl ?_
            exact ih (set + 1) (by omega) (by omega) (bb) (by rw [soF, ← hb, if_neg (fun z => by have z2 := of_decide_eq_true z.2; omega)]) R21 I21 L21 W hM21 (hfa.tr fl21)
          · refine Sx.iload dX12_soughtBy_130 rfl ?_
            refine Sx.istore (lv' := [(4, .int (nI set)), (5, .int (nI set)), (0, .ref 253), (1, .int (nI k)), (2, .int (nI m)), (3, .int (nI 0))]) dX12_soughtBy_132 (by decide) rfl ?_
            refine Sx.iinc (v := (nI (set + 1))) (lv' := [(5, .int (nI (set + 1))), (4, .int (nI set)), (0, .ref 253), (1, .int (nI k)), (2, .int (nI m)), (3, .int (nI 0))]) dX12_soughtBy_134 rfl (nI_add set 1) (by decide) rfl ?_
            refine Sx.goto (t := 6) dX12_soughtBy_137 (by decide) ?_
            refine Sx.sub' [(5, .int (nI (set + 1))), (4, .int (iI ((((set + 1) : Nat) : Int) - 1))), (0, .ref 253), (1, .int (nI k)), (2, .int (nI m)), (3, .int (nI 0))] (by rw [show (((set + 1 : Nat) : Int) - 1) = (set : Int) by omega, ← nI_iI]; rfl) ?_
            exact ih (set + 1) (by omega) (by omega) (set + 1) (by rw [soF, ← hb, if_pos ⟨by omega, decide_eq_true (by omega)⟩]) R21 I21 L21 W hM21 (hfa.tr fl21)
        · refine Sx.goto (t := 134) dX12_soughtBy_45 (by decide) ?_
          refine Sx.iinc (v := (nI (set + 1))) (lv' := [(5, .int (nI (set + 1))), (4, .int (iI ((bb : Int) - 1))), (0, .ref 253), (1, .int (nI k)), (2, .int (nI m)), (3, .int (nI 0))]) dX12_soughtBy_134 rfl (nI_add set 1) (by decide) rfl ?_
          refine Sx.goto (t := 6) dX12_soughtBy_137 (by decide) ?_
          refine Sx.sub' [(5, .int (nI (set + 1))), (4, .int (iI ((((bb) : Nat) : Int) - 1))), (0, .ref 253), (1, .int (nI k)), (2, .int (nI m)), (3, .int (nI 0))] rfl ?_
          exact ih (set + 1) (by omega) (by omega) (bb) (by rw [soF, ← hb, if_neg (fun z => by have := z.1; omega)]) R I L W hM hf
set_option maxRecDepth 20000 in
set_option maxHeartbeats 1000000 in
theorem k_so0 {G : Gt} {l : Launch} {Z : Zt} {R : Rt} {I : It} {L : Lt} {post : Pt'} {V : Vt} {k m : Nat} (W : WF Z R) (hM : MI V I L) (hH : HV V) (hk : k < V 2 34) (hm : m < 64) (hmz : ∀ s, s < 2 ^ V 2 35 → s &&& (63 ^^^ m) = 0) (h : ∀ R' I' L', MI V I' L' → FM R I L R' I' L' → post (some (.int (iI ((soF (swK V k) (2 ^ V 2 35) : Int) - 1)))) Z R' I' L') : Cx G l mX12_soughtBy 40 0 0 [.ref 253, .int (nI k), .int (nI m), .int (nI 0)] Z R I L post := by
  refine Cx.of (by decide +kernel) (by exact Nat.le_of_ble_eq_true rfl) ?_
  refine Sx.iconst (v := (iI (-1))) dX12_soughtBy_0 (by decide) ?_
  refine Sx.istore (lv' := [(4, .int (iI (-1))), (0, .ref 253), (1, .int (nI k)), (2, .int (nI m)), (3, .int (nI 0))]) dX12_soughtBy_1 (by decide) rfl ?_
  refine Sx.iconst (v := (nI 0)) dX12_soughtBy_3 (by decide) ?_
  refine Sx.istore (lv' := [(5, .int (nI 0)), (4, .int (iI (-1))), (0, .ref 253), (1, .int (nI k)), (2, .int (nI m)), (3, .int (nI 0))]) dX12_soughtBy_4 (by decide) rfl ?_
  refine Sx.sub' [(5, .int (nI 0)), (4, .int (iI (((0 : Nat) : Int) - 1))), (0, .ref 253), (1, .int (nI k)), (2, .int (nI m)), (3, .int (nI 0))] rfl ?_
  exact l_so0 hH hk hm hmz h (2 ^ V 2 35 + 1) 0 (Nat.zero_le _) (by omega) 0 rfl R I L W hM (FM.rf R I L)
theorem and63 {n s : Nat} (hn : n ≤ 6) (hs : s < 2 ^ n) : s &&& (63 ^^^ (2 ^ n - 1)) = 0 := by
  have h : ∀ n, n < 7 → ∀ s, s < 64 → s < 2 ^ n → s &&& (63 ^^^ (2 ^ n - 1)) = 0 := by decide +kernel
  have := Nat.pow_le_pow_right (n := 2) (by decide) hn
  exact h n (by omega) s (by omega) hs
set_option maxRecDepth 20000 in
set_option maxHeartbeats 1000000 in
theorem k_swings {G : Gt} {l : Launch} {Z : Zt} {R : Rt} {I : It} {L : Lt} {post : Pt'} {V : Vt} {N : Nat} {x : Int32} (W : WF Z R) (hM : MI V I L) (hG : GV N V) (hN : N < 2147483647) (h : QK post Z R I L V (swiR V x)) : Cx G l mX12_swings 41 0 0 [.ref 253, .int x] Z R I L post := by
  refine Cx.of (by decide +kernel) (by exact Nat.le_of_ble_eq_true rfl) ?_
  refine Sx.aload_n dX12_swings_0 rfl ?_
  refine Sx.iconst (v := (nI 0)) dX12_swings_1 (by decide) ?_
  refine Sx.putfV dX12_swings_2 lkp_X12_109_12 (o_253 W) rfl rfl (fun I1 e1 o1 => ?_)
  have M1 := hM.th (j := 0) (by unfold sfJ; decide) e1 o1
  have hf1 : FM R I L R I1 L := FM.i fun q hq => o1 q (by omega)
  have hp6 := hG.p
  have hb := hG.b
  refine Sx.aload_n dX12_swings_5 rfl ?_
  refine Sx.iload_n dX12_swings_6 rfl ?_
  refine Sx.callV1 dX12_swings_7 lkv_X12_375 (rcv_12 (o_253 W)) (by decide) (by decide) (Nat.le_of_ble_eq_true rfl) rfl rfl (k_isKind W M1.1 (by omega) ?_)
  refine Sx.if_eqD (t := 30) dX12_swings_10 (by decide) (fun c10 => ?_) (fun c10 => ?_)
  · refine Sx.iconst (v := (iI (-1))) dX12_swings_30 (by decide) ?_
    refine Sx.iret dX12_swings_31 rfl rfl ?_
    have hn : ¬ swiC V x := fun z => by omega
    exact pXX (by unfold swiR; rw [if_neg hn]; rfl) (h I1 R L M1 hf1)
  · have hH := hG.hk (by omega)
    obtain ⟨p1, p2, p3, p4, p5, p6, p7, p8, p9⟩ := id hH.2.2.2.1
    have hc : swiC V x := ⟨by omega, by omega⟩
    obtain ⟨p, rfl, hp⟩ := x_ex (x := x) (n := V 2 34) ⟨by omega, by omega⟩
    refine Sx.sub' [(0, .ref 253), (1, .int (nI p))] rfl ?_
    have h64 : 2 ^ V 2 35 ≤ 2 ^ 6 := Nat.pow_le_pow_right (by decide) p8
    have h1p := Nat.two_pow_pos (V 2 35)
    have hS0 := hH.2.2.2.2.1
    have hy0 := hH.2.2.2.2.2.1
    refine Sx.aload_n dX12_swings_13 rfl ?_
    refine Sx.iload_n dX12_swings_14 rfl ?_
    refine Sx.iconst (v := (nI 1)) dX12_swings_15 (by decide) ?_
    refine Sx.aload_n dX12_swings_16 rfl ?_
    refine Sx.getfV (v := (nI (V 2 35))) dX12_swings_17 lkf_X12_307_12 (o_253 W) M1.1.1.2.2.2.1 ?_
    refine Sx.ishl1 dX12_swings_20 (by omega) ?_
    refine Sx.iconst (v := (nI 1)) dX12_swings_21 (by decide) ?_
    refine Sx.isubN dX12_swings_22 (by omega) ?_
    refine Sx.iconst (v := (nI 0)) dX12_swings_23 (by decide) ?_
    refine Sx.callV3 dX12_swings_24 lkv_X12_454 (rcv_12 (o_253 W)) (by decide) (by decide) (Nat.le_of_ble_eq_true rfl) rfl rfl (k_so0 (m := 2 ^ V 2 35 - 1) W M1 hH hp (by omega) (fun z hz => and63 p8 hz) (fun R2 I2 L2 hM2 fl2 => ?_))
    refine Sx.goto (t := 31) dX12_swings_27 (by decide) ?_
    refine Sx.iret dX12_swings_31 rfl rfl ?_
    exact pXX (by unfold swiR; rw [if_pos hc, xN_n (by omega)]) (h I2 R2 L2 hM2 (hf1.tr fl2))
set_option maxRecDepth 20000 in
set_option maxHeartbeats 1000000 in
theorem l_so1a {G : Gt} {l : Launch} {Z : Zt} {R : Rt} {L : Lt} {post : Pt'} {V : Vt} {I1 : It} {k m set bb : Nat} (W : WF Z R) (h35 : V 2 35 ≤ 6) (hset : set < 64) (h : ∀ I', MI V I' L → MW (I' 267) (bdT V set) → (∀ q, q ≠ 267 → I' q = I1 q) → Sx G l mX12_soughtBy 40 0 0 115 [(5, .int (nI set)), (4, .int (iI ((bb : Int) - 1))), (0, .ref 253), (1, .int (nI k)), (2, .int (nI m)), (3, .int (nI 1))] [] Z R I' L post) :
    ∀ (r j : Nat), j ≤ V 2 35 → V 2 35 < j + r → ∀ (I : It), MI V I L → MW (I 267) (bdT V set) → (∀ q, q ≠ 267 → I q = I1 q) → Sx G l mX12_soughtBy 40 0 0 78 [(6, .int (nI j)), (5, .int (nI set)), (4, .int (iI ((bb : Int) - 1))), (0, .ref 253), (1, .int (nI k)), (2, .int (nI m)), (3, .int (nI 1))] [] Z R I L post := by
  intro r
  induction r with
  | zero => intro j h1 h2; omega
  | succ r ih =>
    intro j h1 h2 I hM hF hI
    refine Sx.iload dX12_soughtBy_78 rfl ?_
    refine Sx.aload_n dX12_soughtBy_80 rfl ?_
    refine Sx.getfV (v := (nI (V 2 35))) dX12_soughtBy_81 lkf_X12_307_12 (o_253 W) hM.1.1.2.2.2.1 ?_
    refine Sx.icmp_geV (t := 115) dX12_soughtBy_84 (by decide) (vN (by omega)) (vN (by omega)) (fun c84 => ?_) (fun c84 => ?_)
    · have hj : j = V 2 35 := by omega
      subst hj
      refine Sx.sub' [(5, .int (nI set)), (4, .int (iI ((bb : Int) - 1))), (0, .ref 253), (1, .int (nI k)), (2, .int (nI m)), (3, .int (nI 1))] rfl ?_
      exact h I hM hF hI
    · refine Sx.iload_n dX12_soughtBy_87 rfl ?_
      refine Sx.if_neV (t := 109) dX12_soughtBy_88 (by decide) (vN (by decide)) (fun c88 => ?_) (fun c88 => False.elim (by omega))
      refine Sx.iinc (v := (nI (j + 1))) (lv' := [(6, .int (nI (j + 1))), (5, .int (nI set)), (4, .int (iI ((bb : Int) - 1))), (0, .ref 253), (1, .int (nI k)), (2, .int (nI m)), (3, .int (nI 1))]) dX12_soughtBy_109 rfl (nI_add j 1) (by decide) rfl ?_
      refine Sx.goto (t := 78) dX12_soughtBy_112 (by decide) ?_
      refine Sx.sub' [(6, .int (nI (j + 1))), (5, .int (nI set)), (4, .int (iI ((bb : Int) - 1))), (0, .ref 253), (1, .int (nI k)), (2, .int (nI m)), (3, .int (nI 1))] rfl ?_
      exact ih (j + 1) (by omega) (by omega) I hM hF hI
set_option maxRecDepth 20000 in
set_option maxHeartbeats 1000000 in
theorem l_so1 {G : Gt} {l : Launch} {Z : Zt} {post : Pt'} {V : Vt} {R0 : Rt} {I0 : It} {L0 : Lt} {k m : Nat} (hH : HV V) (hk : k < V 2 34) (hm : m < 64) (hmz : m = upN (V 2 35) (V 3 138)) (h : ∀ R' I' L', MI V I' L' → FM R0 I0 L0 R' I' L' → post (some (.int (iI ((soF (bdK V k) (2 ^ V 2 35) : Int) - 1)))) Z R' I' L') :
    ∀ (r set : Nat), set ≤ 2 ^ V 2 35 → 2 ^ V 2 35 < set + r → ∀ bb, bb = soF (bdK V k) set → ∀ (R : Rt) (I : It) (L : Lt), WF Z R → MI V I L → FM R0 I0 L0 R I L → Sx G l mX12_soughtBy 40 0 0 6 [(5, .int (nI set)), (4, .int (iI ((bb : Int) - 1))), (0, .ref 253), (1, .int (nI k)), (2, .int (nI m)), (3, .int (nI 1))] [] Z R I L post := by
  obtain ⟨p1, p2, p3, p4, p5, p6, p7, p8, p9⟩ := id hH.2.2.2.1
  have h64 : 2 ^ V 2 35 ≤ 2 ^ 6 := Nat.pow_le_pow_right (by decide) p8
  have hS0 := hH.2.2.2.2.1
  have hy0 := hH.2.2.2.2.2.1
  have hS0b := hS0.2.2.2.2.2.2.1
  intro r
  induction r with
  | zero => intro set h1 h2; omega
  | succ r ih =>
    intro set h1 h2 bb hb R I L W hM hf
    have hbs : bb ≤ set := by rw [hb]; exact soF_le _ _

    refine Sx.iload dX12_soughtBy_6 rfl ?_
    refine Sx.iconst (v := (nI 1)) dX12_soughtBy_8 (by decide) ?_
    refine Sx.aload_n dX12_soughtBy_9 rfl ?_
    refine Sx.getfV (v := (nI (V 2 35))) dX12_soughtBy_10 lkf_X12_307_12 (o_253 W) hM.1.1.2.2.2.1 ?_
    refine Sx.ishl1 dX12_soughtBy_13 (by omega) ?_
    refine Sx.icmp_geV (t := 140) dX12_soughtBy_14 (by decide) (vN (by omega)) (vN (by omega)) (fun c14 => ?_) (fun c14 => ?_)
    · have hs : set = 2 ^ V 2 35 := by omega
      subst hs
      subst hb
      refine Sx.iload dX12_soughtBy_140 rfl ?_
      refine Sx.iret dX12_soughtBy_142 rfl rfl ?_
      exact h R I L hM hf
    · have hs64 : set < 64 := by omega
      have hand := Nat.and_le_left (n := set) (m := 63 ^^^ m)
      refine Sx.iload dX12_soughtBy_17 rfl ?_
      refine Sx.iload_n dX12_soughtBy_19 rfl ?_
      refine Sx.iconst (v := (iI (-1))) dX12_soughtBy_20 (by decide) ?_
      refine Sx.ixor dX12_soughtBy_21 ?_
      refine Sx.top (show _ = ((nI m ^^^ iI (-1))) from rfl) ?_
      refine Sx.iand dX12_soughtBy_22 ?_
      refine Sx.top (show _ = (nI (set &&& (63 ^^^ m))) from sub_and set (by omega) m (by omega)) ?_
      refine Sx.if_neV (t := 134) dX12_soughtBy_23 (by decide) (vN (by omega)) (fun c23 => ?_) (fun c23 => ?_)
      · refine Sx.iinc (v := (nI (set + 1))) (lv' := [(5, .int (nI (set + 1))), (4, .int (iI ((bb : Int) - 1))), (0, .ref 253), (1, .int (nI k)), (2, .int (nI m)), (3, .int (nI 1))]) dX12_soughtBy_134 rfl (nI_add set 1) (by decide) rfl ?_
        refine Sx.goto (t := 6) dX12_soughtBy_137 (by decide) ?_
        refine Sx.sub' [(5, .int (nI (set + 1))), (4, .int (iI ((((bb) : Nat) : Int) - 1))), (0, .ref 253), (1, .int (nI k)), (2, .int (nI m)), (3, .int (nI 1))] rfl ?_
        exact ih (set + 1) (by omega) (by omega) (bb) (by rw [soF, ← hb, if_neg (fun z => by have z2 := of_decide_eq_true z.2; rw [← hmz] at z2; omega)]) R I L W hM hf
      · refine Sx.iload dX12_soughtBy_26 rfl ?_
        refine Sx.iconst (v := (iI (-1))) dX12_soughtBy_28 (by decide) ?_
        refine Sx.icmp_eqV (t := 48) dX12_soughtBy_29 (by decide) (vZ (by omega)) (vZ (by decide)) (fun c29 => ?_) (fun c29 => ?_)
        · refine Sx.aload_n dX12_soughtBy_48 rfl ?_
          refine Sx.getfR dX12_soughtBy_49 lkf_X12_61_12 (o_253 W) (r_253_32 W) ?_
          refine Sx.aload_n dX12_soughtBy_52 rfl ?_
          refine Sx.getfR dX12_soughtBy_53 lkf_X12_64_12 (o_253 W) (r_253_33 W) ?_
          refine Sx.callS2 dX12_soughtBy_56 lkc_X12_434  (by decide) (by decide) (Nat.le_of_ble_eq_true rfl) rfl rfl (k_cpT W hM (fun I1 hM1 hF1 o1 fc1 => ?_))
          refine Sx.iload_n dX12_soughtBy_59 rfl ?_
          refine Sx.if_eqV (t := 75) dX12_soughtBy_60 (by decide) (vN (by decide)) (fun c60 => False.elim (by omega)) (fun c60 => ?_)
          refine Sx.aload_n dX12_soughtBy_63 rfl ?_
          refine Sx.getfR dX12_soughtBy_64 lkf_X12_64_12 (o_253 W) (r_253_33 W) ?_
          refine Sx.bipush (v := (nI 18)) dX12_soughtBy_67 (by decide) ?_
          refine Sx.dup2 dX12_soughtBy_69 rfl rfl ?_
          refine Sx.ialdN dX12_soughtBy_70 (a_267 W) (by omega) (by decide) (v := (nI (V 3 138))) hF1.2.1 ?_
          refine Sx.iload dX12_soughtBy_71 rfl ?_
          refine Sx.iorN dX12_soughtBy_73 ?_
          refine Sx.iastN dX12_soughtBy_74 (a_267 W) (by omega) (by decide) (fun I2 e2 o2 => ?_)
          refine Sx.iconst (v := (nI 0)) dX12_soughtBy_75 (by decide) ?_
          refine Sx.istore (lv' := [(6, .int (nI 0)), (5, .int (nI set)), (4, .int (iI ((bb : Int) - 1))), (0, .ref 253), (1, .int (nI k)), (2, .int (nI m)), (3, .int (nI 1))]) dX12_soughtBy_76 (by decide) rfl ?_
          refine Sx.sub' [(6, .int (nI 0)), (5, .int (nI set)), (4, .int (iI ((bb : Int) - 1))), (0, .ref 253), (1, .int (nI k)), (2, .int (nI m)), (3, .int (nI 1))] rfl ?_
          refine l_so1a (I1 := I2) W (by omega) (by omega) (fun J jM jF jo => ?_) (V 2 35 + 1) 0 (by omega) (by omega) I2 (hM1.sc (a := 267) (by unfold scr; decide) o2) (by rw [e2]; exact hF1.set (b := 138) (x := V 3 138 ||| set) (by omega) (by rw [if_neg (by decide)])) (fun _ _ => rfl)
          have hfa := hf.tr (fc1.tr ((FM.i (R := R) (L := L) fun q hq => o2 q (by omega)).tr (FM.i (R := R) (L := L) fun q hq => jo q (by omega))))
          have hST := bdT_SB hH (set := set) (by omega)
          refine Sx.aload_n dX12_soughtBy_115 rfl ?_
          refine Sx.callV0 dX12_soughtBy_116 lkv_X12_451 (rcv_12 (o_253 W)) (by decide) (by decide) (Nat.le_of_ble_eq_true rfl) rfl rfl (k_gyT W jM hH hST jF (by rw [bdT, upn_ne _ _ (by decide)]; omega) (fun I21 R21 L21 hM21 hF21 og21 fl21 => ?_))
          have W := fl21.wf W
          obtain ⟨g1, g2, g3⟩ := goY_ok (w := wlV V) hH.2.2.2.1 hST (by rw [bdT, upn_ne _ _ (by decide)]; omega)
          have z3 := g1.2.2.2.2.2.2.2.2.2.2.2.1
          refine Sx.aload_n dX12_soughtBy_119 rfl ?_
          refine Sx.getfR dX12_soughtBy_120 lkf_X12_64_12 (o_253 W) (r_253_33 W) ?_
          refine Sx.bipush (v := (nI 23)) dX12_soughtBy_123 (by decide) ?_
          refine Sx.ialdN dX12_soughtBy_125 (a_267 W) (by decide) (by decide) (v := (iI ((goY (V 2) (wlV V) (bdT V set) 143 : Int) - 1))) hF21.2.2.2.2.2.2.1 ?_
          refine Sx.iload_n dX12_soughtBy_126 rfl ?_
          refine Sx.icmp_neV (t := 134) dX12_soughtBy_127 (by decide) (vZ (by omega)) (vN (by omega)) (fun c127 => ?_) (fun c127 => ?_)
          · refine Sx.iinc (v := (nI (set + 1))) (lv' := [(5, .int (nI (set + 1))), (4, .int (iI ((bb : Int) - 1))), (0, .ref 253), (1, .int (nI k)), (2, .int (nI m)), (3, .int (nI 1))]) dX12_soughtBy_134 rfl (nI_add set 1) (by decide) rfl ?_
            refine Sx.goto (t := 6) dX12_soughtBy_137 (by decide) ?_
            refine Sx.sub' [(5, .int (nI (set + 1))), (4, .int (iI ((((bb) : Nat) : Int) - 1))), (0, .ref 253), (1, .int (nI k)), (2, .int (nI m)), (3, .int (nI 1))] rfl ?_
            exact ih (set + 1) (by omega) (by omega) (bb) (by rw [soF, ← hb, if_neg (fun z => by have z2 := of_decide_eq_true z.2; rw [← hmz] at z2; omega)]) R21 I21 L21 W hM21 (hfa.tr fl21)
          · refine Sx.iload dX12_soughtBy_130 rfl ?_
            refine Sx.istore (lv' := [(4, .int (nI set)), (5, .int (nI set)), (0, .ref 253), (1, .int (nI k)), (2, .int (nI m)), (3, .int (nI 1))]) dX12_soughtBy_132 (by decide) rfl ?_
            refine Sx.iinc (v := (nI (set + 1))) (lv' := [(5, .int (nI (set + 1))), (4, .int (nI set)), (0, .ref 253), (1, .int (nI k)), (2, .int (nI m)), (3, .int (nI 1))]) dX12_soughtBy_134 rfl (nI_add set 1) (by decide) rfl ?_
            refine Sx.goto (t := 6) dX12_soughtBy_137 (by decide) ?_
            refine Sx.sub' [(5, .int (nI (set + 1))), (4, .int (iI ((((set + 1) : Nat) : Int) - 1))), (0, .ref 253), (1, .int (nI k)), (2, .int (nI m)), (3, .int (nI 1))] (by rw [show (((set + 1 : Nat) : Int) - 1) = (set : Int) by omega, ← nI_iI]; rfl) ?_
            exact ih (set + 1) (by omega) (by omega) (set + 1) (by rw [soF, ← hb, if_pos ⟨by omega, decide_eq_true ⟨by rw [← hmz]; omega, by omega⟩⟩]) R21 I21 L21 W hM21 (hfa.tr fl21)
        · refine Sx.iload dX12_soughtBy_32 rfl ?_
          refine Sx.callS1 dX12_soughtBy_34 lkc_X12_342  (by decide) (by decide) (Nat.le_of_ble_eq_true rfl) rfl rfl (k_bitc (by omega) ?_)
          refine Sx.iload dX12_soughtBy_37 rfl ?_
          refine Sx.callS1 dX12_soughtBy_39 lkc_X12_342  (by decide) (by decide) (Nat.le_of_ble_eq_true rfl) rfl rfl (k_bitcZ (x := bb - 1) (by omega) (by omega) ?_)
          have hpa := (popN_bit set (by omega)).2
          have hpb := (popN_bit (bb - 1) (by omega)).2
          refine Sx.icmp_ltV (t := 48) dX12_soughtBy_42 (by decide) (vN (by omega)) (vN (by omega)) (fun c42 => ?_) (fun c42 => ?_)
          · refine Sx.aload_n dX12_soughtBy_48 rfl ?_
            refine Sx.getfR dX12_soughtBy_49 lkf_X12_61_12 (o_253 W) (r_253_32 W) ?_
            refine Sx.aload_n dX12_soughtBy_52 rfl ?_
            refine Sx.getfR dX12_soughtBy_53 lkf_X12_64_12 (o_253 W) (r_253_33 W) ?_
            refine Sx.callS2 dX12_soughtBy_56 lkc_X12_434  (by decide) (by decide) (Nat.le_of_ble_eq_true rfl) rfl rfl (k_cpT W hM (fun I3 hM3 hF3 o3 fc3 => ?_))
            refine Sx.iload_n dX12_soughtBy_59 rfl ?_
            refine Sx.if_eqV (t := 75) dX12_soughtBy_60 (by decide) (vN (by decide)) (fun c60 => False.elim (by omega)) (fun c60 => ?_)
            refine Sx.aload_n dX12_soughtBy_63 rfl ?_
            refine Sx.getfR dX12_soughtBy_64 lkf_X12_64_12 (o_253 W) (r_253_33 W) ?_
            refine Sx.bipush (v := (nI 18)) dX12_soughtBy_67 (by decide) ?_
            refine Sx.dup2 dX12_soughtBy_69 rfl rfl ?_
            refine Sx.ialdN dX12_soughtBy_70 (a_267 W) (by omega) (by decide) (v := (nI (V 3 138))) hF3.2.1 ?_
            refine Sx.iload dX12_soughtBy_71 rfl ?_
            refine Sx.iorN dX12_soughtBy_73 ?_
            refine Sx.iastN dX12_soughtBy_74 (a_267 W) (by omega) (by decide) (fun I4 e4 o4 => ?_)
            refine Sx.iconst (v := (nI 0)) dX12_soughtBy_75 (by decide) ?_
            refine Sx.istore (lv' := [(6, .int (nI 0)), (5, .int (nI set)), (4, .int (iI ((bb : Int) - 1))), (0, .ref 253), (1, .int (nI k)), (2, .int (nI m)), (3, .int (nI 1))]) dX12_soughtBy_76 (by decide) rfl ?_
            refine Sx.sub' [(6, .int (nI 0)), (5, .int (nI set)), (4, .int (iI ((bb : Int) - 1))), (0, .ref 253), (1, .int (nI k)), (2, .int (nI m)), (3, .int (nI 1))] rfl ?_
            refine l_so1a (I1 := I4) W (by omega) (by omega) (fun J jM jF jo => ?_) (V 2 35 + 1) 0 (by omega) (by omega) I4 (hM3.sc (a := 267) (by unfold scr; decide) o4) (by rw [e4]; exact hF3.set (b := 138) (x := V 3 138 ||| set) (by omega) (by rw [if_neg (by decide)])) (fun _ _ => rfl)
            have hfa := hf.tr (fc3.tr ((FM.i (R := R) (L := L) fun q hq => o4 q (by omega)).tr (FM.i (R := R) (L := L) fun q hq => jo q (by omega))))
            have hST := bdT_SB hH (set := set) (by omega)
            refine Sx.aload_n dX12_soughtBy_115 rfl ?_
            refine Sx.callV0 dX12_soughtBy_116 lkv_X12_451 (rcv_12 (o_253 W)) (by decide) (by decide) (Nat.le_of_ble_eq_true rfl) rfl rfl (k_gyT W jM hH hST jF (by rw [bdT, upn_ne _ _ (by decide)]; omega) (fun I21 R21 L21 hM21 hF21 og21 fl21 => ?_))
            have W := fl21.wf W
            obtain ⟨g1, g2, g3⟩ := goY_ok (w := wlV V) hH.2.2.2.1 hST (by rw [bdT, upn_ne _ _ (by decide)]; omega)
            have z3 := g1.2.2.2.2.2.2.2.2.2.2.2.1
            refine Sx.aload_n dX12_soughtBy_119 rfl ?_
            refine Sx.getfR dX12_soughtBy_120 lkf_X12_64_12 (o_253 W) (r_253_33 W) ?_
            refine Sx.bipush (v := (nI 23)) dX12_soughtBy_123 (by decide) ?_
            refine Sx.ialdN dX12_soughtBy_125 (a_267 W) (by decide) (by decide) (v := (iI ((goY (V 2) (wlV V) (bdT V set) 143 : Int) - 1))) hF21.2.2.2.2.2.2.1 ?_
            refine Sx.iload_n dX12_soughtBy_126 rfl ?_
            refine Sx.icmp_neV (t := 134) dX12_soughtBy_127 (by decide) (vZ (by omega)) (vN (by omega)) (fun c127 => ?_) (fun c127 => ?_)
            · refine Sx.iinc (v := (nI (set + 1))) (lv' := [(5, .int (nI (set + 1))), (4, .int (iI ((bb : Int) - 1))), (0, .ref 253), (1, .int (nI k)), (2, .int (nI m)), (3, .int (nI 1))]) dX12_soughtBy_134 rfl (nI_add set 1) (by decide) rfl ?_
              refine Sx.goto (t := 6) dX12_soughtBy_137 (by decide) ?_
              refine Sx.sub' [(5, .int (nI (set + 1))), (4, .int (iI ((((bb) : Nat) : Int) - 1))), (0, .ref 253), (1, .int (nI k)), (2, .int (nI m)), (3, .int (nI 1))] rfl ?_
              exact ih (set + 1) (by omega) (by omega) (bb) (by rw [soF, ← hb, if_neg (fun z => by have z2 := of_decide_eq_true z.2; rw [← hmz] at z2; omega)]) R21 I21 L21 W hM21 (hfa.tr fl21)
            · refine Sx.iload dX12_soughtBy_130 rfl ?_
              refine Sx.istore (lv' := [(4, .int (nI set)), (5, .int (nI set)), (0, .ref 253), (1, .int (nI k)), (2, .int (nI m)), (3, .int (nI 1))]) dX12_soughtBy_132 (by decide) rfl ?_
              refine Sx.iinc (v := (nI (set + 1))) (lv' := [(5, .int (nI (set + 1))), (4, .int (nI set)), (0, .ref 253), (1, .int (nI k)), (2, .int (nI m)), (3, .int (nI 1))]) dX12_soughtBy_134 rfl (nI_add set 1) (by decide) rfl ?_
              refine Sx.goto (t := 6) dX12_soughtBy_137 (by decide) ?_
              refine Sx.sub' [(5, .int (nI (set + 1))), (4, .int (iI ((((set + 1) : Nat) : Int) - 1))), (0, .ref 253), (1, .int (nI k)), (2, .int (nI m)), (3, .int (nI 1))] (by rw [show (((set + 1 : Nat) : Int) - 1) = (set : Int) by omega, ← nI_iI]; rfl) ?_
              exact ih (set + 1) (by omega) (by omega) (set + 1) (by rw [soF, ← hb, if_pos ⟨by omega, decide_eq_true ⟨by rw [← hmz]; omega, by omega⟩⟩]) R21 I21 L21 W hM21 (hfa.tr fl21)
          · refine Sx.goto (t := 134) dX12_soughtBy_45 (by decide) ?_
            refine Sx.iinc (v := (nI (set + 1))) (lv' := [(5, .int (nI (set + 1))), (4, .int (iI ((bb : Int) - 1))), (0, .ref 253), (1, .int (nI k)), (2, .int (nI m)), (3, .int (nI 1))]) dX12_soughtBy_134 rfl (nI_add set 1) (by decide) rfl ?_
            refine Sx.goto (t := 6) dX12_soughtBy_137 (by decide) ?_
            refine Sx.sub' [(5, .int (nI (set + 1))), (4, .int (iI ((((bb) : Nat) : Int) - 1))), (0, .ref 253), (1, .int (nI k)), (2, .int (nI m)), (3, .int (nI 1))] rfl ?_
            exact ih (set + 1) (by omega) (by omega) (bb) (by rw [soF, ← hb, if_neg (fun z => by have := z.1; omega)]) R I L W hM hf
set_option maxRecDepth 20000 in
set_option maxHeartbeats 1000000 in
theorem k_so1 {G : Gt} {l : Launch} {Z : Zt} {R : Rt} {I : It} {L : Lt} {post : Pt'} {V : Vt} {k m : Nat} (W : WF Z R) (hM : MI V I L) (hH : HV V) (hk : k < V 2 34) (hm : m < 64) (hmz : m = upN (V 2 35) (V 3 138)) (h : ∀ R' I' L', MI V I' L' → FM R I L R' I' L' → post (some (.int (iI ((soF (bdK V k) (2 ^ V 2 35) : Int) - 1)))) Z R' I' L') : Cx G l mX12_soughtBy 40 0 0 [.ref 253, .int (nI k), .int (nI m), .int (nI 1)] Z R I L post := by
  refine Cx.of (by decide +kernel) (by exact Nat.le_of_ble_eq_true rfl) ?_
  refine Sx.iconst (v := (iI (-1))) dX12_soughtBy_0 (by decide) ?_
  refine Sx.istore (lv' := [(4, .int (iI (-1))), (0, .ref 253), (1, .int (nI k)), (2, .int (nI m)), (3, .int (nI 1))]) dX12_soughtBy_1 (by decide) rfl ?_
  refine Sx.iconst (v := (nI 0)) dX12_soughtBy_3 (by decide) ?_
  refine Sx.istore (lv' := [(5, .int (nI 0)), (4, .int (iI (-1))), (0, .ref 253), (1, .int (nI k)), (2, .int (nI m)), (3, .int (nI 1))]) dX12_soughtBy_4 (by decide) rfl ?_
  refine Sx.sub' [(5, .int (nI 0)), (4, .int (iI (((0 : Nat) : Int) - 1))), (0, .ref 253), (1, .int (nI k)), (2, .int (nI m)), (3, .int (nI 1))] rfl ?_
  exact l_so1 hH hk hm hmz h (2 ^ V 2 35 + 1) 0 (Nat.zero_le _) (by omega) 0 rfl R I L W hM (FM.rf R I L)
set_option maxRecDepth 20000 in
set_option maxHeartbeats 1000000 in
theorem k_bedding {G : Gt} {l : Launch} {Z : Zt} {R : Rt} {I : It} {L : Lt} {post : Pt'} {V : Vt} {N : Nat} {x : Int32} (W : WF Z R) (hM : MI V I L) (hG : GV N V) (hN : N < 2147483647) (h : QK post Z R I L V (bedR V x)) : Cx G l mX12_bedding 41 0 0 [.ref 253, .int x] Z R I L post := by
  refine Cx.of (by decide +kernel) (by exact Nat.le_of_ble_eq_true rfl) ?_
  refine Sx.aload_n dX12_bedding_0 rfl ?_
  refine Sx.iconst (v := (nI 0)) dX12_bedding_1 (by decide) ?_
  refine Sx.putfV dX12_bedding_2 lkp_X12_109_12 (o_253 W) rfl rfl (fun I1 e1 o1 => ?_)
  have M1 := hM.th (j := 0) (by unfold sfJ; decide) e1 o1
  have hf1 : FM R I L R I1 L := FM.i fun q hq => o1 q (by omega)
  have hp6 := hG.p
  have hb := hG.b
  refine Sx.aload_n dX12_bedding_5 rfl ?_
  refine Sx.iload_n dX12_bedding_6 rfl ?_
  refine Sx.callV1 dX12_bedding_7 lkv_X12_375 (rcv_12 (o_253 W)) (by decide) (by decide) (Nat.le_of_ble_eq_true rfl) rfl rfl (k_isKind W M1.1 (by omega) ?_)
  refine Sx.if_eqD (t := 30) dX12_bedding_10 (by decide) (fun c10 => ?_) (fun c10 => ?_)
  · refine Sx.iconst (v := (iI (-1))) dX12_bedding_30 (by decide) ?_
    refine Sx.iret dX12_bedding_31 rfl rfl ?_
    have hn : ¬ swiC V x := fun z => by omega
    exact pXX (by unfold bedR; rw [if_neg hn]; rfl) (h I1 R L M1 hf1)
  · have hH := hG.hk (by omega)
    obtain ⟨p1, p2, p3, p4, p5, p6, p7, p8, p9⟩ := id hH.2.2.2.1
    have hc : swiC V x := ⟨by omega, by omega⟩
    obtain ⟨p, rfl, hp⟩ := x_ex (x := x) (n := V 2 34) ⟨by omega, by omega⟩
    refine Sx.sub' [(0, .ref 253), (1, .int (nI p))] rfl ?_
    have h64 : 2 ^ V 2 35 ≤ 2 ^ 6 := Nat.pow_le_pow_right (by decide) p8
    have h1p := Nat.two_pow_pos (V 2 35)
    have hS0 := hH.2.2.2.2.1
    have hy0 := hH.2.2.2.2.2.1
    refine Sx.aload_n dX12_bedding_13 rfl ?_
    refine Sx.iload_n dX12_bedding_14 rfl ?_
    refine Sx.aload_n dX12_bedding_15 rfl ?_
    refine Sx.aload_n dX12_bedding_16 rfl ?_
    refine Sx.getfR dX12_bedding_17 lkf_X12_61_12 (o_253 W) (r_253_32 W) ?_
    refine Sx.callV1 dX12_bedding_20 lkv_X12_338 (rcv_12 (o_253 W)) (by decide) (by decide) (Nat.le_of_ble_eq_true rfl) rfl rfl (k_up W M1.1 hH.2.2.2.1 hH.2.2.2.2.1 M1.2.1 (Or.inl rfl) ?_)
    refine Sx.iconst (v := (nI 1)) dX12_bedding_23 (by decide) ?_
    refine Sx.callV3 dX12_bedding_24 lkv_X12_454 (rcv_12 (o_253 W)) (by decide) (by decide) (Nat.le_of_ble_eq_true rfl) rfl rfl (k_so1 (m := upN (V 2 35) (V 3 138)) W M1 hH hp (by exact upN_lt _ _ (by omega) hS0.2.2.2.2.2.2.1) rfl (fun R2 I2 L2 hM2 fl2 => ?_))
    refine Sx.goto (t := 31) dX12_bedding_27 (by decide) ?_
    refine Sx.iret dX12_bedding_31 rfl rfl ?_
    exact pXX (by unfold bedR; rw [if_pos hc, xN_n (by omega)]) (h I2 R2 L2 hM2 (hf1.tr fl2))
