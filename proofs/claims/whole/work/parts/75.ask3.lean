/-! the reference: years to come, shares, what is seen, undo, pictures -/
abbrev govC (V : Vt) (x : Int32) : Prop := V 2 35 ≠ 0 ∧ 0 ≤ x.toInt ∧ x.toInt ≤ 60
def govR (V : Vt) (x : Int32) : Int32 := if govC V x then iI ((itG (goY (V 2) (wlV V)) (xN x) (V 3) 143 : Int) - 1) else HID
abbrev coiC (V : Vt) (x : Int32) : Prop := V 2 35 ≠ 0 ∧ 0 ≤ x.toInt ∧ x.toInt ≤ 99
def coiR (V : Vt) (x : Int32) : Int32 := if coiC V x then nI (itG (pdN (V 2) (wlV V)) (xN x) (V 3) 142) else -1
set_option maxRecDepth 20000 in
set_option maxHeartbeats 1000000 in
theorem l_gov {G : Gt} {l : Launch} {Z : Zt} {post : Pt'} {V : Vt} {R0 : Rt} {I0 : It} {L0 : Lt} {n : Nat} {FF : Nat → Nat} (hH : HV V) (hn : n ≤ 60) (h : ∀ R' I' L', MI V I' L' → FM R0 I0 L0 R' I' L' → post (some (.int (iI ((FF 143 : Int) - 1)))) Z R' I' L') :
    ∀ (k m : Nat), m < k → ∀ (G0 : Nat → Nat) (i : Nat) (R : Rt) (I : It) (L : Lt), WF Z R → MI V I L → MW (I 267) G0 → SB (V 2) G0 → G0 144 ≤ 999 + i → i + m = n → FM R0 I0 L0 R I L → itG (goY (V 2) (wlV V)) m G0 = FF → Sx G l mX12_governs 39 0 0 41 [(2, .int (nI i)), (0, .ref 253), (1, .int (nI n))] [] Z R I L post := by
  intro k
  induction k with
  | zero => intro m h1; omega
  | succ k ih =>
    intro m h1 G0 i R I L W hM hF hS hy him hf hV
    refine Sx.iload_n dX12_governs_41 rfl ?_
    refine Sx.iload_n dX12_governs_42 rfl ?_
    refine Sx.icmp_geV (t := 56) dX12_governs_43 (by decide) (vN (by omega)) (vN (by omega)) (fun c43 => ?_) (fun c43 => ?_)
    · refine Sx.aload_n dX12_governs_56 rfl ?_
      refine Sx.getfR dX12_governs_57 lkf_X12_64_12 (o_253 W) (r_253_33 W) ?_
      refine Sx.bipush (v := (nI 23)) dX12_governs_60 (by decide) ?_
      refine Sx.ialdN dX12_governs_62 (a_267 W) (by decide) (by decide) (v := (iI ((G0 143 : Int) - 1))) (hF.2.2.2.2.2.2.1) ?_
      refine Sx.iret dX12_governs_63 rfl rfl ?_
      have hm0 : m = 0 := by omega
      subst hm0
      rw [itG_0] at hV
      subst hV
      exact h R I L hM hf
    · have hm : 1 ≤ m := by omega
      refine Sx.aload_n dX12_governs_46 rfl ?_
      refine Sx.callV0 dX12_governs_47 lkv_X12_451 (rcv_12 (o_253 W)) (by decide) (by decide) (Nat.le_of_ble_eq_true rfl) rfl rfl (k_gyT W hM hH hS hF (by omega) (fun I1 R1 L1 hM1 hF1 og1 fl1 => ?_))
      have W := fl1.wf W
      obtain ⟨g1, g2, g3⟩ := goY_ok (w := wlV V) hH.2.2.2.1 hS (by omega)
      refine Sx.iinc (v := (nI (i + 1))) (lv' := [(2, .int (nI (i + 1))), (0, .ref 253), (1, .int (nI n))]) dX12_governs_50 rfl (nI_add i 1) (by decide) rfl ?_
      refine Sx.goto (t := 41) dX12_governs_53 (by decide) ?_
      refine Sx.sub' [(2, .int (nI (i + 1))), (0, .ref 253), (1, .int (nI n))] rfl ?_
      exact ih (m - 1) (by omega) (goY (V 2) (wlV V) G0) (i + 1) R1 I1 L1 W hM1 hF1 g1 (by omega) (by omega) (hf.tr fl1) (by rw [← itG_s, show m - 1 + 1 = m by omega]; exact hV)
set_option maxRecDepth 20000 in
set_option maxHeartbeats 1000000 in
theorem l_coi {G : Gt} {l : Launch} {Z : Zt} {post : Pt'} {V : Vt} {R0 : Rt} {I0 : It} {L0 : Lt} {n : Nat} {FF : Nat → Nat} (hH : HV V) (hn : n ≤ 99) (h : ∀ R' I' L', MI V I' L' → FM R0 I0 L0 R' I' L' → post (some (.int (nI (FF 142)))) Z R' I' L') :
    ∀ (k m : Nat), m < k → ∀ (G0 : Nat → Nat) (i : Nat) (R : Rt) (I : It) (L : Lt), WF Z R → MI V I L → MW (I 267) G0 → SB (V 2) G0 → G0 144 ≤ 999 + i → i + m = n → FM R0 I0 L0 R I L → itG (pdN (V 2) (wlV V)) m G0 = FF → Sx G l mX12_coins 38 0 0 41 [(3, .int (nI i)), (0, .ref 253), (1, .int (nI n))] [] Z R I L post := by
  intro k
  induction k with
  | zero => intro m h1; omega
  | succ k ih =>
    intro m h1 G0 i R I L W hM hF hS hy him hf hV
    refine Sx.iload_n dX12_coins_41 rfl ?_
    refine Sx.iload_n dX12_coins_42 rfl ?_
    refine Sx.icmp_geV (t := 61) dX12_coins_43 (by decide) (vN (by omega)) (vN (by omega)) (fun c43 => ?_) (fun c43 => ?_)
    · refine Sx.aload_n dX12_coins_61 rfl ?_
      refine Sx.getfR dX12_coins_62 lkf_X12_64_12 (o_253 W) (r_253_33 W) ?_
      refine Sx.bipush (v := (nI 22)) dX12_coins_65 (by decide) ?_
      refine Sx.ialdN dX12_coins_67 (a_267 W) (by decide) (by decide) (v := (nI (G0 142))) (hF.2.2.2.2.2.1) ?_
      refine Sx.iret dX12_coins_68 rfl rfl ?_
      have hm0 : m = 0 := by omega
      subst hm0
      rw [itG_0] at hV
      subst hV
      exact h R I L hM hf
    · have hm : 1 ≤ m := by omega
      refine Sx.aload_n dX12_coins_46 rfl ?_
      refine Sx.aload_n dX12_coins_47 rfl ?_
      refine Sx.getfR dX12_coins_48 lkf_X12_64_12 (o_253 W) (r_253_33 W) ?_
      refine Sx.callV1 dX12_coins_51 lkv_X12_372 (rcv_12 (o_253 W)) (by decide) (by decide) (Nat.le_of_ble_eq_true rfl) rfl rfl (k_psT W hM hH hS hF (fun I1 R1 L1 hM1 hF1 fl1 => ?_))
      have W := fl1.wf W
      have g1 := pdN_SB (w := wlV V) hH.2.2.2.1 hS (by omega)
      have g2 := pd_144 (P := V 2) (w := wlV V) (F := G0) hH.2.2.2.1.2.2.2.2.2.1 hH.2.2.2.1.2.2.2.2.2.2.2.1 (by have := hS.2.2.2.2.2.2.2.2.2.2.2.2.2.1; have := hH.2.2.2.1.2.1; omega)
      have g3 : pdN (V 2) (wlV V) G0 144 ≤ G0 144 + 1 := by rw [g2]; split <;> omega
      refine Sx.istore_n (lv' := [(2, .int (nI (litN (V 2) (wlV V) G0 (G0 145) (G0 139) (upc (V 2) G0)))), (3, .int (nI i)), (0, .ref 253), (1, .int (nI n))]) dX12_coins_54 (by decide) rfl ?_
      refine Sx.iinc (v := (nI (i + 1))) (lv' := [(3, .int (nI (i + 1))), (2, .int (nI (litN (V 2) (wlV V) G0 (G0 145) (G0 139) (upc (V 2) G0)))), (0, .ref 253), (1, .int (nI n))]) dX12_coins_55 rfl (nI_add i 1) (by decide) rfl ?_
      refine Sx.goto (t := 41) dX12_coins_58 (by decide) ?_
      refine Sx.sub' [(3, .int (nI (i + 1))), (0, .ref 253), (1, .int (nI n))] rfl ?_
      exact ih (m - 1) (by omega) (pdN (V 2) (wlV V) G0) (i + 1) R1 I1 L1 W hM1 hF1 g1 (by omega) (by omega) (hf.tr fl1) (by rw [← itG_s, show m - 1 + 1 = m by omega]; exact hV)
set_option maxRecDepth 20000 in
set_option maxHeartbeats 1000000 in
theorem k_governs {G : Gt} {l : Launch} {Z : Zt} {R : Rt} {I : It} {L : Lt} {post : Pt'} {V : Vt} {N : Nat} {x : Int32} (W : WF Z R) (hM : MI V I L) (hG : GV N V) (hN : N < 2147483647) (h : QK post Z R I L V (govR V x)) : Cx G l mX12_governs 39 0 0 [.ref 253, .int x] Z R I L post := by
  refine Cx.of (by decide +kernel) (by exact Nat.le_of_ble_eq_true rfl) ?_
  refine Sx.aload_n dX12_governs_0 rfl ?_
  refine Sx.iconst (v := (nI 0)) dX12_governs_1 (by decide) ?_
  refine Sx.putfV dX12_governs_2 lkp_X12_109_12 (o_253 W) rfl rfl (fun I1 e1 o1 => ?_)
  have M1 := hM.th (j := 0) (by unfold sfJ; decide) e1 o1
  have hf1 : FM R I L R I1 L := FM.i fun q hq => o1 q (by omega)
  have hp6 := hG.p
  have hb := hG.b
  have hB := hG.bnd
  refine Sx.aload_n dX12_governs_5 rfl ?_
  refine Sx.getfV (v := (nI (V 2 35))) dX12_governs_6 lkf_X12_307_12 (o_253 W) M1.1.1.2.2.2.1 ?_
  refine Sx.if_eqV (t := 24) dX12_governs_9 (by decide) (vN (by omega)) (fun c9 => ?_) (fun c9 => ?_)
  · refine Sx.ldc_w dX12_governs_24 lkk_X12_380 ?_
    refine Sx.top (show _ = (iI (-1000000)) by decide) ?_
    refine Sx.iret dX12_governs_27 rfl rfl ?_
    have hn : ¬ govC V x := fun z => by omega
    exact pXX (by unfold govR; rw [if_neg hn]) (h I1 R L M1 hf1)
  · refine Sx.iload_n dX12_governs_12 rfl ?_
    refine Sx.i2l dX12_governs_13 ?_
    refine Sx.lconst (v := 0) dX12_governs_14 (by decide) ?_
    refine Sx.ldc2 dX12_governs_15 lkk_X12_424 ?_
    refine Sx.callS3 dX12_governs_18 lkc_X12_230  (by decide) (by decide) (Nat.le_of_ble_eq_true rfl) rfl rfl (k_isIn (vLi (vX x)) (show VL 0 0 from rfl) (show VL 60 60 from rfl) ?_)
    refine Sx.if_neD (t := 28) dX12_governs_21 (by decide) (fun c21 => ?_) (fun c21 => ?_)
    · have hH := hG.hv (by omega)
      obtain ⟨p1, p2, p3, p4, p5, p6, p7, p8, p9⟩ := id hH.2.2.2.1
      have hS0 := hH.2.2.2.2.1
      have hy0 := hH.2.2.2.2.2.1
      have hc : govC V x := ⟨by omega, by omega, by omega⟩
      obtain ⟨p, rfl, hp⟩ := x_ex (x := x) (n := 61) ⟨by omega, by omega⟩
      refine Sx.sub' [(0, .ref 253), (1, .int (nI p))] rfl ?_
      refine Sx.aload_n dX12_governs_28 rfl ?_
      refine Sx.getfR dX12_governs_29 lkf_X12_61_12 (o_253 W) (r_253_32 W) ?_
      refine Sx.aload_n dX12_governs_32 rfl ?_
      refine Sx.getfR dX12_governs_33 lkf_X12_64_12 (o_253 W) (r_253_33 W) ?_
      refine Sx.callS2 dX12_governs_36 lkc_X12_434  (by decide) (by decide) (Nat.le_of_ble_eq_true rfl) rfl rfl (k_cpT W M1 (fun I2 hM2 hF2 o2 fc2 => ?_))
      have hf2 := hf1.tr fc2
      refine Sx.iconst (v := (nI 0)) dX12_governs_39 (by decide) ?_
      refine Sx.istore_n (lv' := [(2, .int (nI 0)), (0, .ref 253), (1, .int (nI p))]) dX12_governs_40 (by decide) rfl ?_
      refine Sx.sub' [(2, .int (nI 0)), (0, .ref 253), (1, .int (nI p))] rfl ?_
      exact l_gov (n := p) (FF := itG (goY (V 2) (wlV V)) p (V 3)) hH (by omega) (fun R' I' L' m f => pXX (by unfold govR; rw [if_pos hc, xN_n (by omega)]) (h I' R' L' m f)) (p + 1) p (by omega) (V 3) 0 R I2 L W hM2 hF2 hS0 (by omega) (by omega) hf2 rfl
    · refine Sx.ldc_w dX12_governs_24 lkk_X12_380 ?_
      refine Sx.top (show _ = (iI (-1000000)) by decide) ?_
      refine Sx.iret dX12_governs_27 rfl rfl ?_
      have hn : ¬ govC V x := fun z => by omega
      exact pXX (by unfold govR; rw [if_neg hn]) (h I1 R L M1 hf1)
set_option maxRecDepth 20000 in
set_option maxHeartbeats 1000000 in
theorem k_coins {G : Gt} {l : Launch} {Z : Zt} {R : Rt} {I : It} {L : Lt} {post : Pt'} {V : Vt} {N : Nat} {x : Int32} (W : WF Z R) (hM : MI V I L) (hG : GV N V) (hN : N < 2147483647) (h : QK post Z R I L V (coiR V x)) : Cx G l mX12_coins 38 0 0 [.ref 253, .int x] Z R I L post := by
  refine Cx.of (by decide +kernel) (by exact Nat.le_of_ble_eq_true rfl) ?_
  refine Sx.aload_n dX12_coins_0 rfl ?_
  refine Sx.iconst (v := (nI 0)) dX12_coins_1 (by decide) ?_
  refine Sx.putfV dX12_coins_2 lkp_X12_109_12 (o_253 W) rfl rfl (fun I1 e1 o1 => ?_)
  have M1 := hM.th (j := 0) (by unfold sfJ; decide) e1 o1
  have hf1 : FM R I L R I1 L := FM.i fun q hq => o1 q (by omega)
  have hp6 := hG.p
  have hb := hG.b
  have hB := hG.bnd
  refine Sx.aload_n dX12_coins_5 rfl ?_
  refine Sx.getfV (v := (nI (V 2 35))) dX12_coins_6 lkf_X12_307_12 (o_253 W) M1.1.1.2.2.2.1 ?_
  refine Sx.if_eqV (t := 24) dX12_coins_9 (by decide) (vN (by omega)) (fun c9 => ?_) (fun c9 => ?_)
  · refine Sx.iconst (v := (iI (-1))) dX12_coins_24 (by decide) ?_
    refine Sx.iret dX12_coins_25 rfl rfl ?_
    have hn : ¬ coiC V x := fun z => by omega
    exact pXX (by unfold coiR; rw [if_neg hn]; rfl) (h I1 R L M1 hf1)
  · refine Sx.iload_n dX12_coins_12 rfl ?_
    refine Sx.i2l dX12_coins_13 ?_
    refine Sx.lconst (v := 0) dX12_coins_14 (by decide) ?_
    refine Sx.ldc2 dX12_coins_15 lkk_X12_458 ?_
    refine Sx.callS3 dX12_coins_18 lkc_X12_230  (by decide) (by decide) (Nat.le_of_ble_eq_true rfl) rfl rfl (k_isIn (vLi (vX x)) (show VL 0 0 from rfl) (show VL 99 99 from rfl) ?_)
    refine Sx.if_neD (t := 26) dX12_coins_21 (by decide) (fun c21 => ?_) (fun c21 => ?_)
    · have hH := hG.hv (by omega)
      obtain ⟨p1, p2, p3, p4, p5, p6, p7, p8, p9⟩ := id hH.2.2.2.1
      have hS0 := hH.2.2.2.2.1
      have hy0 := hH.2.2.2.2.2.1
      have hc : coiC V x := ⟨by omega, by omega, by omega⟩
      obtain ⟨p, rfl, hp⟩ := x_ex (x := x) (n := 100) ⟨by omega, by omega⟩
      refine Sx.sub' [(0, .ref 253), (1, .int (nI p))] rfl ?_
      refine Sx.aload_n dX12_coins_26 rfl ?_
      refine Sx.getfR dX12_coins_27 lkf_X12_61_12 (o_253 W) (r_253_32 W) ?_
      refine Sx.aload_n dX12_coins_30 rfl ?_
      refine Sx.getfR dX12_coins_31 lkf_X12_64_12 (o_253 W) (r_253_33 W) ?_
      refine Sx.callS2 dX12_coins_34 lkc_X12_434  (by decide) (by decide) (Nat.le_of_ble_eq_true rfl) rfl rfl (k_cpT W M1 (fun I2 hM2 hF2 o2 fc2 => ?_))
      have hf2 := hf1.tr fc2
      refine Sx.iconst (v := (nI 0)) dX12_coins_37 (by decide) ?_
      refine Sx.istore_n (lv' := [(2, .int (nI 0)), (0, .ref 253), (1, .int (nI p))]) dX12_coins_38 (by decide) rfl ?_
      refine Sx.iconst (v := (nI 0)) dX12_coins_39 (by decide) ?_
      refine Sx.istore_n (lv' := [(3, .int (nI 0)), (2, .int (nI 0)), (0, .ref 253), (1, .int (nI p))]) dX12_coins_40 (by decide) rfl ?_
      refine Sx.sub' [(3, .int (nI 0)), (0, .ref 253), (1, .int (nI p))] rfl ?_
      exact l_coi (n := p) (FF := itG (pdN (V 2) (wlV V)) p (V 3)) hH (by omega) (fun R' I' L' m f => pXX (by unfold coiR; rw [if_pos hc, xN_n (by omega)]) (h I' R' L' m f)) (p + 1) p (by omega) (V 3) 0 R I2 L W hM2 hF2 hS0 (by omega) (by omega) hf2 rfl
    · refine Sx.iconst (v := (iI (-1))) dX12_coins_24 (by decide) ?_
      refine Sx.iret dX12_coins_25 rfl rfl ?_
      have hn : ¬ coiC V x := fun z => by omega
      exact pXX (by unfold coiR; rw [if_neg hn]; rfl) (h I1 R L M1 hf1)
def smN (F : Nat → Nat) : Nat → Nat
  | 0 => 0
  | j + 1 => smN F j + F (6 + j)
theorem smN_le {P F : Nat → Nat} (h : SB P F) : ∀ j, j ≤ 6 → smN F j ≤ 9999 * j
  | 0 => fun _ => Nat.le_refl _
  | j + 1 => fun hj => by
    have h1 := smN_le h j (by omega)
    have h2 := h.2.1 j (by omega)
    unfold smN
    omega
abbrev shaC (V : Vt) (x y : Int32) : Prop := (0 ≤ x.toInt ∧ x.toInt < (V 2 35 : Int)) ∧ 0 ≤ y.toInt ∧ y.toInt ≤ 999
def shaR (V : Vt) (x y : Int32) : Int32 := if shaC V x y then nI (if smN (V 3) (V 2 35) = 0 then 0 else xN y * V 3 (6 + xN x) / smN (V 3) (V 2 35)) else -1
set_option maxRecDepth 20000 in
set_option maxHeartbeats 1000000 in
theorem l_sha {G : Gt} {l : Launch} {Z : Zt} {R : Rt} {I : It} {L : Lt} {post : Pt'} {V : Vt} {p q : Nat} (W : WF Z R) (hM : MI V I L) (hH : HV V) (hp : p < V 2 35) (hq : q ≤ 999) (h : post (some (.int (nI (if smN (V 3) (V 2 35) = 0 then 0 else q * V 3 (6 + p) / smN (V 3) (V 2 35))))) Z R I L) :
    ∀ (k j : Nat), j ≤ V 2 35 → V 2 35 < j + k → ∀ s, s = smN (V 3) j → Sx G l mX12_shares 2 0 0 32 [(4, .int (nI j)), (0, .ref 253), (1, .int (nI p)), (2, .int (nI q)), (3, .int (nI s))] [] Z R I L post := by
  obtain ⟨p1, p2, p3, p4, p5, p6, p7, p8, p9⟩ := id hH.2.2.2.1
  intro k
  induction k with
  | zero => intro j h1 h2; omega
  | succ k ih =>
    intro j h1 h2 s hs
    have hsm := smN_le hH.2.2.2.2.1 j (by omega)
    refine Sx.iload dX12_shares_32 rfl ?_
    refine Sx.aload_n dX12_shares_34 rfl ?_
    refine Sx.getfV (v := (nI (V 2 35))) dX12_shares_35 lkf_X12_307_12 (o_253 W) hM.1.1.2.2.2.1 ?_
    refine Sx.icmp_geV (t := 60) dX12_shares_38 (by decide) (vN (by omega)) (vN (by omega)) (fun c38 => ?_) (fun c38 => ?_)
    · have hj : j = V 2 35 := by omega
      subst hj
      have hpp := hH.2.2.2.2.1.2.1 p (by omega)
      have hmq : q * V 3 (6 + p) ≤ 999 * 9999 := Nat.mul_le_mul (by omega) hpp
      refine Sx.iload_n dX12_shares_60 rfl ?_
      refine Sx.if_neV (t := 68) dX12_shares_61 (by decide) (vN (by omega)) (fun c61 => ?_) (fun c61 => ?_)
      · refine Sx.iload_n dX12_shares_68 rfl ?_
        refine Sx.aload_n dX12_shares_69 rfl ?_
        refine Sx.getfR dX12_shares_70 lkf_X12_61_12 (o_253 W) (r_253_32 W) ?_
        refine Sx.bipush (v := (nI 6)) dX12_shares_73 (by decide) ?_
        refine Sx.iload_n dX12_shares_75 rfl ?_
        refine Sx.iaddN dX12_shares_76 ?_
        refine Sx.ialdN dX12_shares_77 (a_266 W) (by omega) (by decide) (v := (nI (V 3 (6 + p)))) (hM.2.1.1 _ (by omega)) ?_
        refine Sx.imulN dX12_shares_78 ?_
        refine Sx.iload_n dX12_shares_79 rfl ?_
        refine Sx.idivN dX12_shares_80 (by omega) (by omega) (by omega) ?_
        refine Sx.iret dX12_shares_81 rfl rfl ?_
        exact pNN (by rw [← hs, if_neg (by omega)]) h
      · refine Sx.iconst (v := (nI 0)) dX12_shares_64 (by decide) ?_
        refine Sx.goto (t := 81) dX12_shares_65 (by decide) ?_
        refine Sx.iret dX12_shares_81 rfl rfl ?_
        exact pNN (by rw [← hs, if_pos (by omega)]) h
    · refine Sx.iload_n dX12_shares_41 rfl ?_
      refine Sx.aload_n dX12_shares_42 rfl ?_
      refine Sx.getfR dX12_shares_43 lkf_X12_61_12 (o_253 W) (r_253_32 W) ?_
      refine Sx.bipush (v := (nI 6)) dX12_shares_46 (by decide) ?_
      refine Sx.iload dX12_shares_48 rfl ?_
      refine Sx.iaddN dX12_shares_50 ?_
      refine Sx.ialdN dX12_shares_51 (a_266 W) (by omega) (by decide) (v := (nI (V 3 (6 + j)))) (hM.2.1.1 _ (by omega)) ?_
      refine Sx.iaddN dX12_shares_52 ?_
      refine Sx.istore_n (lv' := [(3, .int (nI (s + (V 3 (6 + j))))), (4, .int (nI j)), (0, .ref 253), (1, .int (nI p)), (2, .int (nI q))]) dX12_shares_53 (by decide) rfl ?_
      refine Sx.iinc (v := (nI (j + 1))) (lv' := [(4, .int (nI (j + 1))), (3, .int (nI (s + (V 3 (6 + j))))), (0, .ref 253), (1, .int (nI p)), (2, .int (nI q))]) dX12_shares_54 rfl (nI_add j 1) (by decide) rfl ?_
      refine Sx.goto (t := 32) dX12_shares_57 (by decide) ?_
      refine Sx.sub' [(4, .int (nI (j + 1))), (0, .ref 253), (1, .int (nI p)), (2, .int (nI q)), (3, .int (nI (s + (V 3 (6 + j)))))] rfl ?_
      exact ih (j + 1) (by omega) (by omega) _ (by rw [smN, ← hs])
set_option maxRecDepth 20000 in
set_option maxHeartbeats 1000000 in
theorem k_shares {G : Gt} {l : Launch} {Z : Zt} {R : Rt} {I : It} {L : Lt} {post : Pt'} {V : Vt} {N : Nat} {x y : Int32} (W : WF Z R) (hM : MI V I L) (hG : GV N V) (hN : N < 2147483647) (h : QK post Z R I L V (shaR V x y)) : Cx G l mX12_shares 2 0 0 [.ref 253, .int x, .int y] Z R I L post := by
  refine Cx.of (by decide +kernel) (by exact Nat.le_of_ble_eq_true rfl) ?_
  refine Sx.aload_n dX12_shares_0 rfl ?_
  refine Sx.iconst (v := (nI 0)) dX12_shares_1 (by decide) ?_
  refine Sx.putfV dX12_shares_2 lkp_X12_109_12 (o_253 W) rfl rfl (fun I1 e1 o1 => ?_)
  have M1 := hM.th (j := 0) (by unfold sfJ; decide) e1 o1
  have hf1 : FM R I L R I1 L := FM.i fun q hq => o1 q (by omega)
  have hp6 := hG.p
  have hb := hG.b
  have hB := hG.bnd
  refine Sx.aload_n dX12_shares_5 rfl ?_
  refine Sx.iload_n dX12_shares_6 rfl ?_
  refine Sx.callV1 dX12_shares_7 lkv_X12_384 (rcv_12 (o_253 W)) (by decide) (by decide) (Nat.le_of_ble_eq_true rfl) rfl rfl (k_isPerson W M1.1 (by omega) ?_)
  refine Sx.if_eqD (t := 25) dX12_shares_10 (by decide) (fun c10 => ?_) (fun c10 => ?_)
  · refine Sx.iconst (v := (iI (-1))) dX12_shares_25 (by decide) ?_
    refine Sx.iret dX12_shares_26 rfl rfl ?_
    have hn : ¬ shaC V x y := fun z => by omega
    exact pXX (by unfold shaR; rw [if_neg hn]; rfl) (h I1 R L M1 hf1)
  · refine Sx.iload_n dX12_shares_13 rfl ?_
    refine Sx.i2l dX12_shares_14 ?_
    refine Sx.lconst (v := 0) dX12_shares_15 (by decide) ?_
    refine Sx.ldc2 dX12_shares_16 lkk_X12_460 ?_
    refine Sx.callS3 dX12_shares_19 lkc_X12_230  (by decide) (by decide) (Nat.le_of_ble_eq_true rfl) rfl rfl (k_isIn (vLi (vX y)) (show VL 0 0 from rfl) (show VL 999 999 from rfl) ?_)
    refine Sx.if_neD (t := 27) dX12_shares_22 (by decide) (fun c22 => ?_) (fun c22 => ?_)
    · have hH := hG.hv (by omega)
      obtain ⟨p1, p2, p3, p4, p5, p6, p7, p8, p9⟩ := id hH.2.2.2.1
      have hc : shaC V x y := ⟨⟨by omega, by omega⟩, by omega, by omega⟩
      obtain ⟨p, rfl, hp⟩ := x_ex (x := x) (n := V 2 35) ⟨by omega, by omega⟩
      obtain ⟨q, rfl, hq⟩ := x_ex (x := y) (n := 1000) ⟨by omega, by omega⟩
      refine Sx.sub' [(0, .ref 253), (1, .int (nI p)), (2, .int (nI q))] rfl ?_
      refine Sx.iconst (v := (nI 0)) dX12_shares_27 (by decide) ?_
      refine Sx.istore_n (lv' := [(3, .int (nI 0)), (0, .ref 253), (1, .int (nI p)), (2, .int (nI q))]) dX12_shares_28 (by decide) rfl ?_
      refine Sx.iconst (v := (nI 0)) dX12_shares_29 (by decide) ?_
      refine Sx.istore (lv' := [(4, .int (nI 0)), (3, .int (nI 0)), (0, .ref 253), (1, .int (nI p)), (2, .int (nI q))]) dX12_shares_30 (by decide) rfl ?_
      refine Sx.sub' [(4, .int (nI 0)), (0, .ref 253), (1, .int (nI p)), (2, .int (nI q)), (3, .int (nI 0))] rfl ?_
      exact l_sha W M1 hH (by omega) (by omega) (pXX (by unfold shaR; rw [if_pos hc, xN_n (by omega), xN_n (by omega)]) (h I1 R L M1 hf1)) (V 2 35 + 1) 0 (by omega) (by omega) 0 rfl
    · refine Sx.iconst (v := (iI (-1))) dX12_shares_25 (by decide) ?_
      refine Sx.iret dX12_shares_26 rfl rfl ?_
      have hn : ¬ shaC V x y := fun z => by omega
      exact pXX (by unfold shaR; rw [if_neg hn]; rfl) (h I1 R L M1 hf1)
