/-! the reference: what is to come -/
theorem gyR_ok {P : Nat → Nat} {w : Wt} (hP : PB P) : ∀ (n : Nat) (F : Nat → Nat), SB P F → F 144 + 1 < 1048576 → n = P 0 - F 145 → SB P (gyR P w n F) ∧ gyR P w n F 144 = F 144 + 1 ∧ gyR P w n F 145 = 0 := by
  intro n
  induction n with
  | zero => intro F hS hy hn; have := hS.2.2.2.2.2.2.2.2.2.2.2.2.2.1; omega
  | succ n ih =>
    intro F hS hy hn
    have hd := hS.2.2.2.2.2.2.2.2.2.2.2.2.2.1
    have p2 := hP.2.1
    have h5 := pd_145 P w F hP.2.2.2.2.2.1
    have h4 := pd_144 (P := P) (w := w) (F := F) hP.2.2.2.2.2.1 hP.2.2.2.2.2.2.2.1 (by omega)
    have hS1 := pdN_SB (w := w) hP hS hy
    unfold gyR
    by_cases q : P 0 ≤ F 145 + 1
    · rw [if_pos q] at h4 h5
      rw [if_pos h5]
      exact ⟨hS1, h4, h5⟩
    · rw [if_neg q] at h4 h5
      rw [if_neg (by omega)]
      obtain ⟨i1, i2, i3⟩ := ih (pdN P w F) hS1 (by omega) (by omega)
      exact ⟨i1, by omega, i3⟩
theorem goY_ok {P F : Nat → Nat} {w : Wt} (hP : PB P) (hS : SB P F) (hy : F 144 + 1 < 1048576) : SB P (goY P w F) ∧ goY P w F 144 = F 144 + 1 ∧ goY P w F 145 = 0 := gyR_ok hP _ F hS hy rfl
theorem lof_le {P F : Nat → Nat} {w : Wt} {u d : Nat} (hS : SB P F) (hd : d < 30) : lofN P w F u d ≤ 99 := by
  unfold lofN
  split
  · exact hS.2.2.2.1 d hd
  · exact litN_le _ _ _ _ _ _
theorem amn_1 (g : Nat → Nat) : amn g (0 + 1) = 0 + 1 := by rw [amn, amn]; exact if_pos (Or.inl rfl)
theorem MI.ft {V : Vt} {R R' : Rt} {I I' : It} {L L' : Lt} (h : MI V I L) (m : MI0 V I' L') (f : FT R I L R' I' L') : MI V I' L' := ⟨m, by rw [f.1 266 (by decide)]; exact h.2⟩
set_option maxRecDepth 20000 in
set_option maxHeartbeats 1000000 in
theorem k_psT {G : Gt} {l : Launch} {Z : Zt} {R : Rt} {I : It} {L : Lt} {post : Pt'} {V : Vt} {F : Nat → Nat} (W : WF Z R) (hM : MI V I L) (hH : HV V) (hS : SB (V 2) F) (hF : MW (I 267) F) (h : ∀ I' R' L', MI V I' L' → MW (I' 267) (pdN (V 2) (wlV V) F) → FM R I L R' I' L' → post (some (.int (nI (litN (V 2) (wlV V) F (F 145) (F 139) (upc (V 2) F))))) Z R' I' L') : Cx G l mX12_passes 37 0 0 [.ref 253, .ref 267] Z R I L post :=
  k_passes W hM.1 hH.2.2.2.1 hS hF (Or.inr rfl) hH.1.2.2 ⟨hH.1.1, hH.1.2.1⟩ (fun I' R' L' m1 m2 q1 q2 _ q4 q5 _ => h I' R' L' ⟨m1, by rw [q1 266 (by decide)]; exact hM.2⟩ m2 ⟨fun q hq => q1 q (by omega), fun q hq => q4 q (by omega), q5⟩)
set_option maxRecDepth 20000 in
set_option maxHeartbeats 1000000 in
theorem k_gyT {G : Gt} {l : Launch} {Z : Zt} {R : Rt} {I : It} {L : Lt} {post : Pt'} {V : Vt} {F : Nat → Nat} (W : WF Z R) (hM : MI V I L) (hH : HV V) (hS : SB (V 2) F) (hF : MW (I 267) F) (hy : F 144 + 1 < 1048576) (h : ∀ I' R' L', MI V I' L' → MW (I' 267) (goY (V 2) (wlV V) F) → (∀ q, q ≠ 253 ∧ q ≠ 257 ∧ q ≠ 270 ∧ q ≠ 267 → I' q = I q) → FM R I L R' I' L' → post none Z R' I' L') : Cx G l mX12_goYear 38 0 0 [.ref 253] Z R I L post :=
  k_goYear W hM.1 hH.2.2.2.1 hH.1.2.2 ⟨hH.1.1, hH.1.2.1⟩ hS hF hy (fun I' R' L' m1 m2 f => h I' R' L' (hM.ft m1 f) m2 f.1 f.fm)
set_option maxRecDepth 20000 in
set_option maxHeartbeats 1000000 in
theorem k_cpT {G : Gt} {l : Launch} {Z : Zt} {R : Rt} {I : It} {L : Lt} {post : Pt'} {V : Vt} (W : WF Z R) (hM : MI V I L) (h : ∀ I', MI V I' L → MW (I' 267) (V 3) → (∀ q, q ≠ 267 → I' q = I q) → FM R I L R I' L → post none Z R I' L) : Cx G l mX12_copy 1 0 0 [.ref 266, .ref 267] Z R I L post :=
  k_copy W hM (fun I' m1 m2 o => h I' m1 m2 o (FM.i fun q hq => o q (by omega)))
set_option maxRecDepth 20000 in
set_option maxHeartbeats 1000000 in
theorem l_dk {G : Gt} {l : Launch} {Z : Zt} {post : Pt'} {V : Vt} {R0 : Rt} {I0 : It} {L0 : Lt} (hH : HV V) (h : ∀ b, b + 1 = amn (lofN (V 2) (wlV V) (V 3) (upc (V 2) (V 3))) (V 2 0) → ∀ R' I' L', MI V I' L' → FM R0 I0 L0 R' I' L' → post (some (.int (nI b))) Z R' I' L') :
    ∀ (k j : Nat), 1 ≤ j → j ≤ V 2 0 → V 2 0 < j + k → ∀ b, b + 1 = amn (lofN (V 2) (wlV V) (V 3) (upc (V 2) (V 3))) j → ∀ (R : Rt) (I : It) (L : Lt), WF Z R → MI V I L → FM R0 I0 L0 R I L → Sx G l mX12_darkest 37 0 0 4 [(2, .int (nI j)), (0, .ref 253), (1, .int (nI b))] [] Z R I L post := by
  obtain ⟨p1, p2, p3, p4, p5, p6, p7, p8, p9⟩ := id hH.2.2.2.1
  intro k
  induction k with
  | zero => intro j h0 h1 h2; omega
  | succ k ih =>
    intro j h0 h1 h2 b hb R I L W hM hf
    have ha := amn_le (lofN (V 2) (wlV V) (V 3) (upc (V 2) (V 3))) j
    refine Sx.iload_n dX12_darkest_4 rfl ?_
    refine Sx.aload_n dX12_darkest_5 rfl ?_
    refine Sx.getfR dX12_darkest_6 lkf_X12_37_12 (o_253 W) (r_253_18 W) ?_
    refine Sx.iconst (v := (nI 0)) dX12_darkest_9 (by decide) ?_
    refine Sx.ialdN dX12_darkest_10 (a_258 W) (by decide) (by decide) (v := (nI (V 2 0))) (hM.1.2.2.2.1.1 0 (by decide)) ?_
    refine Sx.icmp_geV (t := 47) dX12_darkest_11 (by decide) (vN (by omega)) (vN (by omega)) (fun c11 => ?_) (fun c11 => ?_)
    · refine Sx.iload_n dX12_darkest_47 rfl ?_
      refine Sx.iret dX12_darkest_48 rfl rfl ?_
      have hj : j = V 2 0 := by omega
      subst hj
      exact h b hb R I L hM hf
    · refine Sx.aload_n dX12_darkest_14 rfl ?_
      refine Sx.aload_n dX12_darkest_15 rfl ?_
      refine Sx.getfR dX12_darkest_16 lkf_X12_61_12 (o_253 W) (r_253_32 W) ?_
      refine Sx.iload_n dX12_darkest_19 rfl ?_
      refine Sx.callV2 dX12_darkest_20 lkv_X12_365 (rcv_12 (o_253 W)) (by decide) (by decide) (Nat.le_of_ble_eq_true rfl) rfl rfl (k_lofN W hM hH (by omega) (fun I1 R1 L1 hM1 fl1 => ?_))
      have hf1 := hf.tr fl1.fm
      have W := fl1.fm.wf W
      refine Sx.aload_n dX12_darkest_23 rfl ?_
      refine Sx.aload_n dX12_darkest_24 rfl ?_
      refine Sx.getfR dX12_darkest_25 lkf_X12_61_12 (o_253 W) (r_253_32 W) ?_
      refine Sx.iload_n dX12_darkest_28 rfl ?_
      refine Sx.callV2 dX12_darkest_29 lkv_X12_365 (rcv_12 (o_253 W)) (by decide) (by decide) (Nat.le_of_ble_eq_true rfl) rfl rfl (k_lofN W hM1 hH (by omega) (fun I2 R2 L2 hM2 fl2 => ?_))
      have hf2 := hf1.tr fl2.fm
      have W := fl2.fm.wf W
      have hlj := lof_le (w := wlV V) (u := upc (V 2) (V 3)) (d := j) hH.2.2.2.2.1 (by omega)
      have hlb := lof_le (w := wlV V) (u := upc (V 2) (V 3)) (d := b) hH.2.2.2.2.1 (by omega)
      refine Sx.icmp_geV (t := 39) dX12_darkest_32 (by decide) (vN (by omega)) (vN (by omega)) (fun c32 => ?_) (fun c32 => ?_)
      · refine Sx.iload_n dX12_darkest_39 rfl ?_
        refine Sx.istore_n (lv' := [(1, .int (nI b)), (2, .int (nI j)), (0, .ref 253)]) dX12_darkest_40 (by decide) rfl ?_
        refine Sx.iinc (v := (nI (j + 1))) (lv' := [(2, .int (nI (j + 1))), (1, .int (nI b)), (0, .ref 253)]) dX12_darkest_41 rfl (nI_add j 1) (by decide) rfl ?_
        refine Sx.goto (t := 4) dX12_darkest_44 (by decide) ?_
        refine Sx.sub' [(2, .int (nI (j + 1))), (0, .ref 253), (1, .int (nI b))] rfl ?_
        exact ih (j + 1) (by omega) (by omega) (by omega) b (by rw [amn, ← hb, if_neg (fun q => q.elim (fun z => by omega) (fun z => by rw [Nat.add_sub_cancel] at z; omega))]) R2 I2 L2 W hM2 hf2
      · refine Sx.iload_n dX12_darkest_35 rfl ?_
        refine Sx.goto (t := 40) dX12_darkest_36 (by decide) ?_
        refine Sx.istore_n (lv' := [(1, .int (nI j)), (2, .int (nI j)), (0, .ref 253)]) dX12_darkest_40 (by decide) rfl ?_
        refine Sx.iinc (v := (nI (j + 1))) (lv' := [(2, .int (nI (j + 1))), (1, .int (nI j)), (0, .ref 253)]) dX12_darkest_41 rfl (nI_add j 1) (by decide) rfl ?_
        refine Sx.goto (t := 4) dX12_darkest_44 (by decide) ?_
        refine Sx.sub' [(2, .int (nI (j + 1))), (0, .ref 253), (1, .int (nI j))] rfl ?_
        exact ih (j + 1) (by omega) (by omega) (by omega) j (by rw [amn, ← hb, if_pos (Or.inr (by show _ < _; rw [Nat.add_sub_cancel]; omega))]) R2 I2 L2 W hM2 hf2
set_option maxRecDepth 20000 in
set_option maxHeartbeats 1000000 in
theorem k_darkest {G : Gt} {l : Launch} {Z : Zt} {R : Rt} {I : It} {L : Lt} {post : Pt'} {V : Vt} (W : WF Z R) (hM : MI V I L) (hH : HV V) (h : ∀ b, b + 1 = amn (lofN (V 2) (wlV V) (V 3) (upc (V 2) (V 3))) (V 2 0) → ∀ R' I' L', MI V I' L' → FM R I L R' I' L' → post (some (.int (nI b))) Z R' I' L') : Cx G l mX12_darkest 37 0 0 [.ref 253] Z R I L post := by
  refine Cx.of (by decide +kernel) (by exact Nat.le_of_ble_eq_true rfl) ?_
  refine Sx.iconst (v := (nI 0)) dX12_darkest_0 (by decide) ?_
  refine Sx.istore_n (lv' := [(1, .int (nI 0)), (0, .ref 253)]) dX12_darkest_1 (by decide) rfl ?_
  refine Sx.iconst (v := (nI 1)) dX12_darkest_2 (by decide) ?_
  refine Sx.istore_n (lv' := [(2, .int (nI 1)), (1, .int (nI 0)), (0, .ref 253)]) dX12_darkest_3 (by decide) rfl ?_
  refine Sx.sub' [(2, .int (nI 1)), (0, .ref 253), (1, .int (nI 0))] rfl ?_
  exact l_dk hH h (V 2 0) 1 (by decide) (by have := hH.2.2.2.1.1; omega) (by omega) 0 (amn_1 _).symm R I L W hM (FM.rf R I L)
abbrev comC (V : Vt) (x : Int32) : Prop := V 2 35 ≠ 0 ∧ 0 ≤ x.toInt ∧ x.toInt ≤ 1
def dayD (V : Vt) : Nat := amn (lofN (V 2) (wlV V) (V 3) (upc (V 2) (V 3))) (V 2 0) - 1
def comR (V : Vt) (x : Int32) : Int32 := if comC V x then nI (if xN x = 0 then dayD V else lofN (V 2) (wlV V) (V 3) (upc (V 2) (V 3)) (dayD V)) else -1
def myN (g : Nat → Nat) (m : Nat) : Nat → Nat
  | 0 => 0
  | j + 1 => myN g m j ||| (if g j ≤ m then 2 ^ j else 0)
theorem myN_lt (g : Nat → Nat) (m : Nat) : ∀ j, myN g m j < 2 ^ j
  | 0 => by simp [myN]
  | j + 1 => by
    have h1 := myN_lt g m j
    unfold myN
    refine Nat.or_lt_two_pow (by rw [Nat.pow_succ]; omega) ?_
    split
    · rw [Nat.pow_succ]; have := Nat.two_pow_pos j; omega
    · rw [Nat.pow_succ]; have := Nat.two_pow_pos j; omega
abbrev mayC (V : Vt) (x : Int32) : Prop := V 2 35 ≠ 0 ∧ 0 ≤ x.toInt ∧ x.toInt ≤ 20
def mayR (V : Vt) (x : Int32) : Int32 := if mayC V x then nI (myN (lofN (V 2) (wlV V) (V 3) (upc (V 2) (V 3))) (lofN (V 2) (wlV V) (V 3) (upc (V 2) (V 3)) (dayD V) + 2 * xN x) (V 2 0)) else -1
set_option maxRecDepth 20000 in
set_option maxHeartbeats 1000000 in
theorem k_coming {G : Gt} {l : Launch} {Z : Zt} {R : Rt} {I : It} {L : Lt} {post : Pt'} {V : Vt} {N : Nat} {x : Int32} (W : WF Z R) (hM : MI V I L) (hG : GV N V) (hN : N < 2147483647) (h : ∀ I' R' L', MI V I' L' → FM R I L R' I' L' → post (some (.int (comR V x))) Z R' I' L') : Cx G l mX12_coming 38 0 0 [.ref 253, .int x] Z R I L post := by
  refine Cx.of (by decide +kernel) (by exact Nat.le_of_ble_eq_true rfl) ?_
  refine Sx.aload_n dX12_coming_0 rfl ?_
  refine Sx.iconst (v := (nI 0)) dX12_coming_1 (by decide) ?_
  refine Sx.putfV dX12_coming_2 lkp_X12_109_12 (o_253 W) rfl rfl (fun I1 e1 o1 => ?_)
  have M1 := hM.th (j := 0) (by unfold sfJ; decide) e1 o1
  have hf1 : FM R I L R I1 L := FM.i fun q hq => o1 q (by omega)
  have hp6 := hG.p
  have hb := hG.b
  have hB := hG.bnd
  refine Sx.aload_n dX12_coming_5 rfl ?_
  refine Sx.getfV (v := (nI (V 2 35))) dX12_coming_6 lkf_X12_307_12 (o_253 W) M1.1.1.2.2.2.1 ?_
  refine Sx.if_eqV (t := 22) dX12_coming_9 (by decide) (vN (by omega)) (fun c9 => ?_) (fun c9 => ?_)
  · refine Sx.iconst (v := (iI (-1))) dX12_coming_22 (by decide) ?_
    refine Sx.iret dX12_coming_23 rfl rfl ?_
    have hn : ¬ comC V x := fun z => by omega
    exact pXX (by unfold comR; rw [if_neg hn]; rfl) (h I1 R L M1 hf1)
  · refine Sx.iload_n dX12_coming_12 rfl ?_
    refine Sx.i2l dX12_coming_13 ?_
    refine Sx.lconst (v := 0) dX12_coming_14 (by decide) ?_
    refine Sx.lconst (v := 1) dX12_coming_15 (by decide) ?_
    refine Sx.callS3 dX12_coming_16 lkc_X12_230  (by decide) (by decide) (Nat.le_of_ble_eq_true rfl) rfl rfl (k_isIn (vLi (vX x)) (show VL 0 0 from rfl) (show VL 1 1 from rfl) ?_)
    refine Sx.if_neD (t := 24) dX12_coming_19 (by decide) (fun c19 => ?_) (fun c19 => ?_)
    · have hH := hG.hv (by omega)
      obtain ⟨p1, p2, p3, p4, p5, p6, p7, p8, p9⟩ := id hH.2.2.2.1
      have hc : comC V x := ⟨by omega, by omega, by omega⟩
      obtain ⟨p, rfl, hp⟩ := x_ex (x := x) (n := 2) ⟨by omega, by omega⟩
      refine Sx.sub' [(0, .ref 253), (1, .int (nI p))] rfl ?_
      refine Sx.iload_n dX12_coming_24 rfl ?_
      refine Sx.if_neV (t := 35) dX12_coming_25 (by decide) (vN (by omega)) (fun c25 => ?_) (fun c25 => ?_)
      · refine Sx.aload_n dX12_coming_35 rfl ?_
        refine Sx.aload_n dX12_coming_36 rfl ?_
        refine Sx.getfR dX12_coming_37 lkf_X12_61_12 (o_253 W) (r_253_32 W) ?_
        refine Sx.aload_n dX12_coming_40 rfl ?_
        refine Sx.callV0 dX12_coming_41 lkv_X12_446 (rcv_12 (o_253 W)) (by decide) (by decide) (Nat.le_of_ble_eq_true rfl) rfl rfl (k_darkest W M1 hH (fun b hb R2 I2 L2 hM2 fl2 => ?_))
        have hf2 := hf1.tr fl2
        have W := fl2.wf W
        have hdd : dayD V = b := by unfold dayD; omega
        have hbl := amn_le (lofN (V 2) (wlV V) (V 3) (upc (V 2) (V 3))) (V 2 0)
        refine Sx.callV2 dX12_coming_44 lkv_X12_365 (rcv_12 (o_253 W)) (by decide) (by decide) (Nat.le_of_ble_eq_true rfl) rfl rfl (k_lofN W hM2 hH (by omega) (fun I3 R3 L3 hM3 fl3 => ?_))
        have hf3 := hf2.tr fl3.fm
        have W := fl3.fm.wf W
        refine Sx.iret dX12_coming_47 rfl rfl ?_
        exact pXX (by unfold comR; rw [if_pos hc, xN_n (by omega), hdd, if_neg (by omega)]) (h I3 R3 L3 hM3 hf3)
      · refine Sx.aload_n dX12_coming_28 rfl ?_
        refine Sx.callV0 dX12_coming_29 lkv_X12_446 (rcv_12 (o_253 W)) (by decide) (by decide) (Nat.le_of_ble_eq_true rfl) rfl rfl (k_darkest W M1 hH (fun b hb R4 I4 L4 hM4 fl4 => ?_))
        have hf4 := hf1.tr fl4
        have W := fl4.wf W
        have hdd : dayD V = b := by unfold dayD; omega
        have hbl := amn_le (lofN (V 2) (wlV V) (V 3) (upc (V 2) (V 3))) (V 2 0)
        refine Sx.goto (t := 47) dX12_coming_32 (by decide) ?_
        refine Sx.iret dX12_coming_47 rfl rfl ?_
        exact pXX (by unfold comR; rw [if_pos hc, xN_n (by omega), hdd, if_pos (by omega)]) (h I4 R4 L4 hM4 hf4)
    · refine Sx.iconst (v := (iI (-1))) dX12_coming_22 (by decide) ?_
      refine Sx.iret dX12_coming_23 rfl rfl ?_
      have hn : ¬ comC V x := fun z => by omega
      exact pXX (by unfold comR; rw [if_neg hn]; rfl) (h I1 R L M1 hf1)
set_option maxRecDepth 20000 in
set_option maxHeartbeats 1000000 in
theorem l_may {G : Gt} {l : Launch} {Z : Zt} {post : Pt'} {V : Vt} {R0 : Rt} {I0 : It} {L0 : Lt} {p a : Nat} (hH : HV V) (hp : p ≤ 20) (ha : a ≤ 99) (h : ∀ R' I' L', MI V I' L' → FM R0 I0 L0 R' I' L' → post (some (.int (nI (myN (lofN (V 2) (wlV V) (V 3) (upc (V 2) (V 3))) (a + 2 * p) (V 2 0))))) Z R' I' L') :
    ∀ (k j : Nat), j ≤ V 2 0 → V 2 0 < j + k → ∀ b, b = myN (lofN (V 2) (wlV V) (V 3) (upc (V 2) (V 3))) (a + 2 * p) j → ∀ (R : Rt) (I : It) (L : Lt), WF Z R → MI V I L → FM R0 I0 L0 R I L → Sx G l mX12_may 38 0 0 44 [(4, .int (nI j)), (0, .ref 253), (1, .int (nI p)), (2, .int (nI a)), (3, .int (nI b))] [] Z R I L post := by
  obtain ⟨p1, p2, p3, p4, p5, p6, p7, p8, p9⟩ := id hH.2.2.2.1
  intro k
  induction k with
  | zero => intro j h1 h2; omega
  | succ k ih =>
    intro j h1 h2 b hb R I L W hM hf
    refine Sx.iload dX12_may_44 rfl ?_
    refine Sx.aload_n dX12_may_46 rfl ?_
    refine Sx.getfR dX12_may_47 lkf_X12_37_12 (o_253 W) (r_253_18 W) ?_
    refine Sx.iconst (v := (nI 0)) dX12_may_50 (by decide) ?_
    refine Sx.ialdN dX12_may_51 (a_258 W) (by decide) (by decide) (v := (nI (V 2 0))) (hM.1.2.2.2.1.1 0 (by decide)) ?_
    refine Sx.icmp_geV (t := 90) dX12_may_52 (by decide) (vN (by omega)) (vN (by omega)) (fun c52 => ?_) (fun c52 => ?_)
    · refine Sx.iload_n dX12_may_90 rfl ?_
      refine Sx.iret dX12_may_91 rfl rfl ?_
      have hj : j = V 2 0 := by omega
      subst hj
      subst hb
      exact h R I L hM hf
    · refine Sx.iload_n dX12_may_55 rfl ?_
      refine Sx.aload_n dX12_may_56 rfl ?_
      refine Sx.aload_n dX12_may_57 rfl ?_
      refine Sx.getfR dX12_may_58 lkf_X12_61_12 (o_253 W) (r_253_32 W) ?_
      refine Sx.iload dX12_may_61 rfl ?_
      refine Sx.callV2 dX12_may_63 lkv_X12_365 (rcv_12 (o_253 W)) (by decide) (by decide) (Nat.le_of_ble_eq_true rfl) rfl rfl (k_lofN W hM hH (by omega) (fun I1 R1 L1 hM1 fl1 => ?_))
      have hf1 := hf.tr fl1.fm
      have W := fl1.fm.wf W
      refine Sx.iload_n dX12_may_66 rfl ?_
      refine Sx.iconst (v := (nI 2)) dX12_may_67 (by decide) ?_
      refine Sx.iload_n dX12_may_68 rfl ?_
      refine Sx.imulN dX12_may_69 ?_
      refine Sx.iaddN dX12_may_70 ?_
      have hlj := lof_le (w := wlV V) (u := upc (V 2) (V 3)) (d := j) hH.2.2.2.2.1 (by omega)
      refine Sx.icmp_gtV (t := 81) dX12_may_71 (by decide) (vN (by omega)) (vN (by omega)) (fun c71 => ?_) (fun c71 => ?_)
      · refine Sx.iconst (v := (nI 0)) dX12_may_81 (by decide) ?_
        refine Sx.iorN dX12_may_82 ?_
        refine Sx.istore_n (lv' := [(3, .int (nI (b ||| 0))), (4, .int (nI j)), (0, .ref 253), (1, .int (nI p)), (2, .int (nI a))]) dX12_may_83 (by decide) rfl ?_
        refine Sx.iinc (v := (nI (j + 1))) (lv' := [(4, .int (nI (j + 1))), (3, .int (nI (b ||| 0))), (0, .ref 253), (1, .int (nI p)), (2, .int (nI a))]) dX12_may_84 rfl (nI_add j 1) (by decide) rfl ?_
        refine Sx.goto (t := 44) dX12_may_87 (by decide) ?_
        refine Sx.sub' [(4, .int (nI (j + 1))), (0, .ref 253), (1, .int (nI p)), (2, .int (nI a)), (3, .int (nI (b ||| 0)))] rfl ?_
        exact ih (j + 1) (by omega) (by omega) _ (by rw [myN, ← hb, if_neg (by omega)]) R1 I1 L1 W hM1 hf1
      · refine Sx.iconst (v := (nI 1)) dX12_may_74 (by decide) ?_
        refine Sx.iload dX12_may_75 rfl ?_
        refine Sx.ishl1 dX12_may_77 (by omega) ?_
        refine Sx.goto (t := 82) dX12_may_78 (by decide) ?_
        refine Sx.iorN dX12_may_82 ?_
        refine Sx.istore_n (lv' := [(3, .int (nI (b ||| (2 ^ j)))), (4, .int (nI j)), (0, .ref 253), (1, .int (nI p)), (2, .int (nI a))]) dX12_may_83 (by decide) rfl ?_
        refine Sx.iinc (v := (nI (j + 1))) (lv' := [(4, .int (nI (j + 1))), (3, .int (nI (b ||| (2 ^ j)))), (0, .ref 253), (1, .int (nI p)), (2, .int (nI a))]) dX12_may_84 rfl (nI_add j 1) (by decide) rfl ?_
        refine Sx.goto (t := 44) dX12_may_87 (by decide) ?_
        refine Sx.sub' [(4, .int (nI (j + 1))), (0, .ref 253), (1, .int (nI p)), (2, .int (nI a)), (3, .int (nI (b ||| (2 ^ j))))] rfl ?_
        exact ih (j + 1) (by omega) (by omega) _ (by rw [myN, ← hb, if_pos (by omega)]) R1 I1 L1 W hM1 hf1
set_option maxRecDepth 20000 in
set_option maxHeartbeats 1000000 in
theorem k_may {G : Gt} {l : Launch} {Z : Zt} {R : Rt} {I : It} {L : Lt} {post : Pt'} {V : Vt} {N : Nat} {x : Int32} (W : WF Z R) (hM : MI V I L) (hG : GV N V) (hN : N < 2147483647) (h : ∀ I' R' L', MI V I' L' → FM R I L R' I' L' → post (some (.int (mayR V x))) Z R' I' L') : Cx G l mX12_may 38 0 0 [.ref 253, .int x] Z R I L post := by
  refine Cx.of (by decide +kernel) (by exact Nat.le_of_ble_eq_true rfl) ?_
  refine Sx.aload_n dX12_may_0 rfl ?_
  refine Sx.iconst (v := (nI 0)) dX12_may_1 (by decide) ?_
  refine Sx.putfV dX12_may_2 lkp_X12_109_12 (o_253 W) rfl rfl (fun I1 e1 o1 => ?_)
  have M1 := hM.th (j := 0) (by unfold sfJ; decide) e1 o1
  have hf1 : FM R I L R I1 L := FM.i fun q hq => o1 q (by omega)
  have hp6 := hG.p
  have hb := hG.b
  have hB := hG.bnd
  refine Sx.aload_n dX12_may_5 rfl ?_
  refine Sx.getfV (v := (nI (V 2 35))) dX12_may_6 lkf_X12_307_12 (o_253 W) M1.1.1.2.2.2.1 ?_
  refine Sx.if_eqV (t := 24) dX12_may_9 (by decide) (vN (by omega)) (fun c9 => ?_) (fun c9 => ?_)
  · refine Sx.iconst (v := (iI (-1))) dX12_may_24 (by decide) ?_
    refine Sx.iret dX12_may_25 rfl rfl ?_
    have hn : ¬ mayC V x := fun z => by omega
    exact pXX (by unfold mayR; rw [if_neg hn]; rfl) (h I1 R L M1 hf1)
  · refine Sx.iload_n dX12_may_12 rfl ?_
    refine Sx.i2l dX12_may_13 ?_
    refine Sx.lconst (v := 0) dX12_may_14 (by decide) ?_
    refine Sx.ldc2 dX12_may_15 lkk_X12_449 ?_
    refine Sx.callS3 dX12_may_18 lkc_X12_230  (by decide) (by decide) (Nat.le_of_ble_eq_true rfl) rfl rfl (k_isIn (vLi (vX x)) (show VL 0 0 from rfl) (show VL 20 20 from rfl) ?_)
    refine Sx.if_neD (t := 26) dX12_may_21 (by decide) (fun c21 => ?_) (fun c21 => ?_)
    · have hH := hG.hv (by omega)
      obtain ⟨p1, p2, p3, p4, p5, p6, p7, p8, p9⟩ := id hH.2.2.2.1
      have hc : mayC V x := ⟨by omega, by omega, by omega⟩
      obtain ⟨p, rfl, hp⟩ := x_ex (x := x) (n := 21) ⟨by omega, by omega⟩
      refine Sx.sub' [(0, .ref 253), (1, .int (nI p))] rfl ?_
      refine Sx.aload_n dX12_may_26 rfl ?_
      refine Sx.aload_n dX12_may_27 rfl ?_
      refine Sx.getfR dX12_may_28 lkf_X12_61_12 (o_253 W) (r_253_32 W) ?_
      refine Sx.aload_n dX12_may_31 rfl ?_
      refine Sx.callV0 dX12_may_32 lkv_X12_446 (rcv_12 (o_253 W)) (by decide) (by decide) (Nat.le_of_ble_eq_true rfl) rfl rfl (k_darkest W M1 hH (fun b hb R2 I2 L2 hM2 fl2 => ?_))
      have hf2 := hf1.tr fl2
      have W := fl2.wf W
      have hdd : dayD V = b := by unfold dayD; omega
      have hbl := amn_le (lofN (V 2) (wlV V) (V 3) (upc (V 2) (V 3))) (V 2 0)
      refine Sx.callV2 dX12_may_35 lkv_X12_365 (rcv_12 (o_253 W)) (by decide) (by decide) (Nat.le_of_ble_eq_true rfl) rfl rfl (k_lofN W hM2 hH (by omega) (fun I3 R3 L3 hM3 fl3 => ?_))
      have hf3 := hf2.tr fl3.fm
      have W := fl3.fm.wf W
      refine Sx.istore_n (lv' := [(2, .int (nI (lofN (V 2) (wlV V) (V 3) (upc (V 2) (V 3)) b))), (0, .ref 253), (1, .int (nI p))]) dX12_may_38 (by decide) rfl ?_
      refine Sx.iconst (v := (nI 0)) dX12_may_39 (by decide) ?_
      refine Sx.istore_n (lv' := [(3, .int (nI 0)), (2, .int (nI (lofN (V 2) (wlV V) (V 3) (upc (V 2) (V 3)) b))), (0, .ref 253), (1, .int (nI p))]) dX12_may_40 (by decide) rfl ?_
      refine Sx.iconst (v := (nI 0)) dX12_may_41 (by decide) ?_
      refine Sx.istore (lv' := [(4, .int (nI 0)), (3, .int (nI 0)), (2, .int (nI (lofN (V 2) (wlV V) (V 3) (upc (V 2) (V 3)) b))), (0, .ref 253), (1, .int (nI p))]) dX12_may_42 (by decide) rfl ?_
      refine Sx.sub' [(4, .int (nI 0)), (0, .ref 253), (1, .int (nI p)), (2, .int (nI (lofN (V 2) (wlV V) (V 3) (upc (V 2) (V 3)) b))), (3, .int (nI 0))] rfl ?_
      exact l_may (p := p) (a := lofN (V 2) (wlV V) (V 3) (upc (V 2) (V 3)) b) hH (by omega) (lof_le hH.2.2.2.2.1 (by omega)) (fun R' I' L' m f => pXX (by unfold mayR; rw [if_pos hc, xN_n (by omega), hdd]) (h I' R' L' m f)) (V 2 0 + 1) 0 (by omega) (by omega) 0 rfl R3 I3 L3 W hM3 hf3
    · refine Sx.iconst (v := (iI (-1))) dX12_may_24 (by decide) ?_
      refine Sx.iret dX12_may_25 rfl rfl ?_
      have hn : ¬ mayC V x := fun z => by omega
      exact pXX (by unfold mayR; rw [if_neg hn]; rfl) (h I1 R L M1 hf1)
