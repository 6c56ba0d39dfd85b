/-! the reference: numbers, digits, steps -/
def FB (a : Nat) (I I' : It) : Prop := (∀ q, q ≠ 253 ∧ q ≠ a → I' q = I q) ∧ ∀ j, j ≠ 10 ∧ j ≠ 11 ∧ j ≠ 12 → I' 253 j = I 253 j
theorem FB.rf (a : Nat) (I : It) : FB a I I := ⟨fun _ _ => rfl, fun _ _ => rfl⟩
theorem FB.tr {a : Nat} {I J K : It} (h : FB a I J) (g : FB a J K) : FB a I K := ⟨fun q hq => (g.1 q hq).trans (h.1 q hq), fun j hj => (g.2 j hj).trans (h.2 j hj)⟩
theorem FB.of {a : Nat} {I J : It} (h : FA I J) : FB a I J := ⟨fun q hq => h.1 q hq.1, h.2⟩
theorem FB.ar {a : Nat} {I I' : It} (o : ∀ q, q ≠ a → I' q = I q) (ha : a ≠ 253 := by omega) : FB a I I' := ⟨fun q hq => o q hq.2, fun j _ => by rw [o 253 (fun e => ha e.symm)]⟩
theorem MR.mvB {R : Rt} {I I' : It} {tx b n c a : Nat} {T : Nat → Nat} (h : MR R I tx b n c T) (c' : Nat) (hc : c' ≤ n) (F : FB a I I') (ha : a ≠ 254 ∧ a ≠ 255) (e : I' 253 10 = nI c') : MR R I' tx b n c' T := by
  obtain ⟨h1, h2, h3, h4, h5, h6, h7, h8, h9⟩ := h
  refine ⟨h1, (F.2 8 (by decide)).trans h2, (F.2 9 (by decide)).trans h3, e, fun j hj => ?_, h6, hc, h8, h9⟩
  rw [F.1 tx (by rcases h9 with q | q <;> omega)]
  exact h5 j hj
theorem rdP_b (T : Nat → Nat) (n c D lo hi : Nat) : rdP T n c D lo hi ≤ max n c := by
  have h1 := nx_b T n c
  have h2 := rdc_b T n D (nx T n c)
  unfold rdP rdE
  (repeat' split) <;> omega
theorem isDN_iff (m : Nat) : isDN m = true ↔ 48 ≤ m ∧ m ≤ 57 := decide_eq_true_iff
theorem isDN_no {m : Nat} : isDN m = false ↔ ¬ (48 ≤ m ∧ m ≤ 57) := decide_eq_false_iff_not
theorem rd2_1 {T : Nat → Nat} {n c : Nat} (h0 : isDN (sgn T n c) = true) (h1 : isDN (sgn T n (c + 1)) = false) : rdc T n 2 c = c + 1 ∧ rdv T n 2 c 0 = sgn T n c - 48 := by
  rw [rdc, if_pos h0, rdc, if_neg (by rw [h1]; decide), rdv, if_pos h0, rdv, if_neg (by rw [h1]; decide)]
  exact ⟨rfl, by omega⟩
theorem rd2_2 {T : Nat → Nat} {n c : Nat} (h0 : isDN (sgn T n c) = true) (h1 : isDN (sgn T n (c + 1)) = true) : rdc T n 2 c = c + 2 ∧ rdv T n 2 c 0 = (sgn T n c - 48) * 10 + sgn T n (c + 1) - 48 := by
  rw [rdc, if_pos h0, rdc, if_pos h1, rdc, rdv, if_pos h0, rdv, if_pos h1, rdv]
  exact ⟨rfl, by omega⟩
set_option maxRecDepth 20000 in
set_option maxHeartbeats 1000000 in
theorem k_digit {G : Gt} {l : Launch} {Z : Zt} {R : Rt} {I : It} {L : Lt} {post : Pt'} {tx b n c dp : Nat} {T : Nat → Nat} (W : WF Z R) (hM : MR R I tx b n c T) (hf : I 253 11 = iI (-1)) (hd : I 253 12 = nI dp) (hno : isDN (sgn T n (nx T n c)) = false → ∀ I', FA I I' → I' 253 11 = nI (nx T n c) → post (some (.int (nI 0))) Z R I' L) (hyes : isDN (sgn T n (nx T n c)) = true → ∀ I', FA I I' → MR R I' tx b n (nx T n c + 1) T → I' 253 11 = iI (-1) → I' 253 12 = nI dp → post (some (.int (nI (sgn T n (nx T n c) - 48)))) Z R I' L) : Cx G l mX12_digit 2 0 0 [.ref 253] Z R I L post := by
  refine Cx.of (by decide +kernel) (by exact Nat.le_of_ble_eq_true rfl) ?_
  refine Sx.aload_n dX12_digit_0 rfl ?_
  refine Sx.callV0 dX12_digit_1 lkv_X12_151 (rcv_12 (o_253 W)) (by decide) (by decide) (Nat.le_of_ble_eq_true rfl) rfl rfl (k_look W hM (fun I1 hM1 g1 f1 d1 => ?_))
  have hF1 := (FA.rf I).tr g1
  have hf1 := f1.trans hf
  have hd1 := d1.trans hd
  have hx1 := nx_b T n c
  have hk1 := lkN_or T n (nx T n c)
  have ht1 := hM1.2.2.2.2.2.2.2.1 (nx T n c)
  have hc1 := hM1.2.2.2.2.2.2.1
  have hn1 := hM1.2.2.2.2.2.1
  have hs1 := sgn_or T n (nx T n c)
  refine Sx.istore_n (lv' := [(1, .int (iI (lkN T n (nx T n c)))), (0, .ref 253)]) dX12_digit_4 (by decide) rfl ?_
  refine Sx.aload_n dX12_digit_5 rfl ?_
  refine Sx.callV0 dX12_digit_6 lkv_X12_181 (rcv_12 (o_253 W)) (by decide) (by decide) (Nat.le_of_ble_eq_true rfl) rfl rfl (k_isDigit W hM1 ?_)
  refine Sx.if_neB (t := 19) dX12_digit_9 (by decide) (fun c9 => ?_) (fun c9 => ?_)
  · have hq := (isDN_iff _).mp c9
    have hs1 := sgn_or T n (nx T n c)
    refine Sx.aload_n dX12_digit_19 rfl ?_
    refine Sx.dup dX12_digit_20 rfl ?_
    refine Sx.getfV (v := (nI (nx T n c))) dX12_digit_21 lkf_X12_132_12 (o_253 W) hM1.at_ ?_
    refine Sx.iconst (v := (nI 1)) dX12_digit_24 (by decide) ?_
    refine Sx.iaddN dX12_digit_25 ?_
    refine Sx.putfV dX12_digit_26 lkp_X12_132_12 (o_253 W) rfl rfl (fun I2 e2 o2 => ?_)
    have hM2 : MR R I2 tx b n ((nx T n c) + 1) T := hM1.mv ((nx T n c) + 1) (by omega) (FA.up (by decide) e2 o2) (by rw [e2, upd_at])
    have hF2 := (hF1).tr (FA.up (by decide) e2 o2)
    have hf2 := Eq.trans (by rw [e2, upd_nj _ _ (by decide)] : I2 253 11 = I1 253 11) hf1
    have hd2 := Eq.trans (by rw [e2, upd_nj _ _ (by decide)] : I2 253 12 = I1 253 12) hd1
    have hk2 := lkN_or T n ((nx T n c) + 1)
    have ht2 := hM2.2.2.2.2.2.2.2.1 ((nx T n c) + 1)
    have hc2 := hM2.2.2.2.2.2.2.1
    have hn2 := hM2.2.2.2.2.2.1
    have hs2 := sgn_or T n ((nx T n c) + 1)
    refine Sx.iload_n dX12_digit_29 rfl ?_
    refine Sx.bipush (v := (nI 48)) dX12_digit_30 (by decide) ?_
    refine Sx.isubV dX12_digit_32 (vZ (by omega)) (vN (by decide)) ?_
    refine Sx.iret dX12_digit_33 rfl rfl ?_
    exact pNZ (by omega) (hyes c9 I2 hF2 hM2 hf2 hd2)
  · refine Sx.aload_n dX12_digit_12 rfl ?_
    refine Sx.callV0 dX12_digit_13 lkv_X12_147 (rcv_12 (o_253 W)) (by decide) (by decide) (Nat.le_of_ble_eq_true rfl) rfl rfl (k_fails W hM1 hf1 (fun I3 g3 f3 d3 a3 => ?_))
    have hF3 := (hF1).tr g3
    refine Sx.pop dX12_digit_16 rfl ?_
    refine Sx.iconst (v := (nI 0)) dX12_digit_17 (by decide) ?_
    refine Sx.iret dX12_digit_18 rfl rfl ?_
    exact hno c9 I3 hF3 f3 
set_option maxRecDepth 20000 in
set_option maxHeartbeats 1000000 in
theorem k_number {G : Gt} {l : Launch} {Z : Zt} {R : Rt} {I : It} {L : Lt} {post : Pt'} {tx b n c dp lo hi : Nat} {T : Nat → Nat} (W : WF Z R) (hM : MR R I tx b n c T) (hf : I 253 11 = iI (-1)) (hd : I 253 12 = nI dp) (hlo : lo < 1000) (hhi : hi < 1000) (hno : rdR T n c 2 lo hi = false → ∀ I', FA I I' → I' 253 11 = nI (rdP T n c 2 lo hi) → ∀ v, post (some (.int v)) Z R I' L) (hyes : rdR T n c 2 lo hi = true → ∀ I', FA I I' → MR R I' tx b n (rdE T n c 2) T → I' 253 11 = iI (-1) → I' 253 12 = nI dp → post (some (.int (nI (rdV T n c 2)))) Z R I' L) : Cx G l mX12_number 2 0 0 [.ref 253, .int (nI lo), .int (nI hi)] Z R I L post := by
  refine Cx.of (by decide +kernel) (by exact Nat.le_of_ble_eq_true rfl) ?_
  refine Sx.aload_n dX12_number_0 rfl ?_
  refine Sx.callV0 dX12_number_1 lkv_X12_151 (rcv_12 (o_253 W)) (by decide) (by decide) (Nat.le_of_ble_eq_true rfl) rfl rfl (k_look W hM (fun I1 hM1 g1 f1 d1 => ?_))
  have hF1 := (FA.rf I).tr g1
  have hf1 := f1.trans hf
  have hd1 := d1.trans hd
  have hx1 := nx_b T n c
  have hk1 := lkN_or T n (nx T n c)
  have ht1 := hM1.2.2.2.2.2.2.2.1 (nx T n c)
  have hc1 := hM1.2.2.2.2.2.2.1
  have hn1 := hM1.2.2.2.2.2.1
  have hs1 := sgn_or T n (nx T n c)
  refine Sx.istore_n (lv' := [(3, .int (iI (lkN T n (nx T n c)))), (0, .ref 253), (1, .int (nI lo)), (2, .int (nI hi))]) dX12_number_4 (by decide) rfl ?_
  refine Sx.aload_n dX12_number_5 rfl ?_
  refine Sx.callV0 dX12_number_6 lkv_X12_181 (rcv_12 (o_253 W)) (by decide) (by decide) (Nat.le_of_ble_eq_true rfl) rfl rfl (k_isDigit W hM1 ?_)
  refine Sx.if_neB (t := 19) dX12_number_9 (by decide) (fun c9 => ?_) (fun c9 => ?_)
  · have hq := (isDN_iff _).mp c9
    have hs1 := sgn_or T n (nx T n c)
    refine Sx.iload_n dX12_number_19 rfl ?_
    refine Sx.bipush (v := (nI 48)) dX12_number_20 (by decide) ?_
    refine Sx.isubV dX12_number_22 (vZ (by omega)) (vN (by decide)) ?_
    refine Sx.istore (lv' := [(4, .int (iI ((lkN T n (nx T n c)) - 48))), (3, .int (iI (lkN T n (nx T n c)))), (0, .ref 253), (1, .int (nI lo)), (2, .int (nI hi))]) dX12_number_23 (by decide) rfl ?_
    refine Sx.aload_n dX12_number_25 rfl ?_
    refine Sx.dup dX12_number_26 rfl ?_
    refine Sx.getfV (v := (nI (nx T n c))) dX12_number_27 lkf_X12_132_12 (o_253 W) hM1.at_ ?_
    refine Sx.iconst (v := (nI 1)) dX12_number_30 (by decide) ?_
    refine Sx.iaddN dX12_number_31 ?_
    refine Sx.putfV dX12_number_32 lkp_X12_132_12 (o_253 W) rfl rfl (fun I2 e2 o2 => ?_)
    have hM2 : MR R I2 tx b n ((nx T n c) + 1) T := hM1.mv ((nx T n c) + 1) (by omega) (FA.up (by decide) e2 o2) (by rw [e2, upd_at])
    have hF2 := (hF1).tr (FA.up (by decide) e2 o2)
    have hf2 := Eq.trans (by rw [e2, upd_nj _ _ (by decide)] : I2 253 11 = I1 253 11) hf1
    have hd2 := Eq.trans (by rw [e2, upd_nj _ _ (by decide)] : I2 253 12 = I1 253 12) hd1
    have hk2 := lkN_or T n ((nx T n c) + 1)
    have ht2 := hM2.2.2.2.2.2.2.2.1 ((nx T n c) + 1)
    have hc2 := hM2.2.2.2.2.2.2.1
    have hn2 := hM2.2.2.2.2.2.1
    have hs2 := sgn_or T n ((nx T n c) + 1)
    refine Sx.aload_n dX12_number_35 rfl ?_
    refine Sx.callV0 dX12_number_36 lkv_X12_181 (rcv_12 (o_253 W)) (by decide) (by decide) (Nat.le_of_ble_eq_true rfl) rfl rfl (k_isDigit W hM2 ?_)
    refine Sx.if_eqB (t := 67) dX12_number_39 (by decide) (fun c39 => ?_) (fun c39 => ?_)
    · have hr := rd2_1 (c := nx T n c) c9 c39
      have hs2 := sgn_or T n (nx T n c + 1)
      have hE : rdE T n c 2 = (nx T n c) + 1 := by rw [show rdE T n c 2 = _ from hr.1]
      have hV : (rdV T n c 2 : Int) = ((lkN T n (nx T n c)) - 48) := by rw [show rdV T n c 2 = _ from hr.2]; omega
      refine Sx.aload_n dX12_number_67 rfl ?_
      refine Sx.callV0 dX12_number_68 lkv_X12_181 (rcv_12 (o_253 W)) (by decide) (by decide) (Nat.le_of_ble_eq_true rfl) rfl rfl (k_isDigit W hM2 ?_)
      refine Sx.if_eqB (t := 81) dX12_number_71 (by decide) (fun c71 => ?_) (fun c71 => ?_)
      · refine Sx.iload dX12_number_81 rfl ?_
        refine Sx.i2l dX12_number_83 ?_
        refine Sx.iload_n dX12_number_84 rfl ?_
        refine Sx.i2l dX12_number_85 ?_
        refine Sx.iload_n dX12_number_86 rfl ?_
        refine Sx.i2l dX12_number_87 ?_
        refine Sx.callS3 dX12_number_88 lkc_X12_230  (by decide) (by decide) (Nat.le_of_ble_eq_true rfl) rfl rfl (k_isIn (vLi (vZ (by omega))) (vLi (vN (by omega))) (vLi (vN (by omega))) ?_)
        refine Sx.if_neD (t := 109) dX12_number_91 (by decide) (fun c91 => ?_) (fun c91 => ?_)
        · refine Sx.iload dX12_number_109 rfl ?_
          refine Sx.iret dX12_number_111 rfl rfl ?_
          exact pNZ hV (hyes (by rw [rdR, c9, hE, c71, decide_eq_true (by omega)]; rfl) I2 hF2 (by rw [hE]; exact hM2) hf2 hd2)
        · refine Sx.aload_n dX12_number_94 rfl ?_
          refine Sx.dup dX12_number_95 rfl ?_
          refine Sx.getfV (v := (nI ((nx T n c) + 1))) dX12_number_96 lkf_X12_132_12 (o_253 W) hM2.at_ ?_
          refine Sx.iconst (v := (nI 1)) dX12_number_99 (by decide) ?_
          refine Sx.isubN dX12_number_100 (by omega) ?_
          refine Sx.putfV dX12_number_101 lkp_X12_132_12 (o_253 W) rfl rfl (fun I3 e3 o3 => ?_)
          have hM3 : MR R I3 tx b n (((nx T n c) + 1) - 1) T := hM2.mv (((nx T n c) + 1) - 1) (by omega) (FA.up (by decide) e3 o3) (by rw [e3, upd_at])
          have hF3 := (hF2).tr (FA.up (by decide) e3 o3)
          have hf3 := Eq.trans (by rw [e3, upd_nj _ _ (by decide)] : I3 253 11 = I2 253 11) hf2
          have hd3 := Eq.trans (by rw [e3, upd_nj _ _ (by decide)] : I3 253 12 = I2 253 12) hd2
          have hk3 := lkN_or T n (((nx T n c) + 1) - 1)
          have ht3 := hM3.2.2.2.2.2.2.2.1 (((nx T n c) + 1) - 1)
          have hc3 := hM3.2.2.2.2.2.2.1
          have hn3 := hM3.2.2.2.2.2.1
          have hs3 := sgn_or T n (((nx T n c) + 1) - 1)
          refine Sx.aload_n dX12_number_104 rfl ?_
          refine Sx.callV0 dX12_number_105 lkv_X12_147 (rcv_12 (o_253 W)) (by decide) (by decide) (Nat.le_of_ble_eq_true rfl) rfl rfl (k_fails W hM3 hf3 (fun I4 g4 f4 d4 a4 => ?_))
          have hF4 := (hF3).tr g4
          refine Sx.pop dX12_number_108 rfl ?_
          refine Sx.iload dX12_number_109 rfl ?_
          refine Sx.iret dX12_number_111 rfl rfl ?_
          exact hno (by rw [rdR, c9, hE, c71, decide_eq_false (by omega)]; rfl) I4 hF4 (by rw [rdP, if_pos c9, hE, if_neg (by rw [c71]; decide), if_neg (by omega)]; exact f4) _
      · refine Sx.aload_n dX12_number_74 rfl ?_
        refine Sx.callV0 dX12_number_75 lkv_X12_147 (rcv_12 (o_253 W)) (by decide) (by decide) (Nat.le_of_ble_eq_true rfl) rfl rfl (k_fails W hM2 hf2 (fun I5 g5 f5 d5 a5 => ?_))
        have hF5 := (hF2).tr g5
        refine Sx.pop dX12_number_78 rfl ?_
        refine Sx.iconst (v := (nI 0)) dX12_number_79 (by decide) ?_
        refine Sx.iret dX12_number_80 rfl rfl ?_
        exact hno (by rw [rdR, c9, hE, c71]; rfl) I5 hF5 (by rw [rdP, if_pos c9, hE, if_pos c71]; exact f5) _
    · have hq2 := (isDN_iff _).mp c39
      have hs3 := sgn_or T n (nx T n c + 1)
      refine Sx.bipush (v := (nI 10)) dX12_number_42 (by decide) ?_
      refine Sx.iload dX12_number_44 rfl ?_
      refine Sx.imulV dX12_number_46 (vN (by decide)) (vZ (by omega)) ?_
      refine Sx.aload_n dX12_number_47 rfl ?_
      refine Sx.callV0 dX12_number_48 lkv_X12_227 (rcv_12 (o_253 W)) (by decide) (by decide) (Nat.le_of_ble_eq_true rfl) rfl rfl (k_here W hM2 ?_)
      refine Sx.iaddV dX12_number_51 (vZ (by omega)) (vZ (by omega)) ?_
      refine Sx.bipush (v := (nI 48)) dX12_number_52 (by decide) ?_
      refine Sx.isubV dX12_number_54 (vZ (by omega)) (vN (by decide)) ?_
      refine Sx.istore (lv' := [(4, .int (iI (((10 * ((lkN T n (nx T n c)) - 48)) + (lkN T n ((nx T n c) + 1))) - 48))), (3, .int (iI (lkN T n (nx T n c)))), (0, .ref 253), (1, .int (nI lo)), (2, .int (nI hi))]) dX12_number_55 (by decide) rfl ?_
      refine Sx.aload_n dX12_number_57 rfl ?_
      refine Sx.dup dX12_number_58 rfl ?_
      refine Sx.getfV (v := (nI ((nx T n c) + 1))) dX12_number_59 lkf_X12_132_12 (o_253 W) hM2.at_ ?_
      refine Sx.iconst (v := (nI 1)) dX12_number_62 (by decide) ?_
      refine Sx.iaddN dX12_number_63 ?_
      refine Sx.putfV dX12_number_64 lkp_X12_132_12 (o_253 W) rfl rfl (fun I6 e6 o6 => ?_)
      have hM6 : MR R I6 tx b n (((nx T n c) + 1) + 1) T := hM2.mv (((nx T n c) + 1) + 1) (by omega) (FA.up (by decide) e6 o6) (by rw [e6, upd_at])
      have hF6 := (hF2).tr (FA.up (by decide) e6 o6)
      have hf6 := Eq.trans (by rw [e6, upd_nj _ _ (by decide)] : I6 253 11 = I2 253 11) hf2
      have hd6 := Eq.trans (by rw [e6, upd_nj _ _ (by decide)] : I6 253 12 = I2 253 12) hd2
      have hk6 := lkN_or T n (((nx T n c) + 1) + 1)
      have ht6 := hM6.2.2.2.2.2.2.2.1 (((nx T n c) + 1) + 1)
      have hc6 := hM6.2.2.2.2.2.2.1
      have hn6 := hM6.2.2.2.2.2.1
      have hs6 := sgn_or T n (((nx T n c) + 1) + 1)
      have hr := rd2_2 (c := nx T n c) c9 c39
      have hs2 := sgn_or T n (nx T n c + 1)
      have hE : rdE T n c 2 = ((nx T n c) + 1) + 1 := by rw [show rdE T n c 2 = _ from hr.1]
      have hV : (rdV T n c 2 : Int) = (((10 * ((lkN T n (nx T n c)) - 48)) + (lkN T n ((nx T n c) + 1))) - 48) := by rw [show rdV T n c 2 = _ from hr.2]; omega
      refine Sx.aload_n dX12_number_67 rfl ?_
      refine Sx.callV0 dX12_number_68 lkv_X12_181 (rcv_12 (o_253 W)) (by decide) (by decide) (Nat.le_of_ble_eq_true rfl) rfl rfl (k_isDigit W hM6 ?_)
      refine Sx.if_eqB (t := 81) dX12_number_71 (by decide) (fun c71 => ?_) (fun c71 => ?_)
      · refine Sx.iload dX12_number_81 rfl ?_
        refine Sx.i2l dX12_number_83 ?_
        refine Sx.iload_n dX12_number_84 rfl ?_
        refine Sx.i2l dX12_number_85 ?_
        refine Sx.iload_n dX12_number_86 rfl ?_
        refine Sx.i2l dX12_number_87 ?_
        refine Sx.callS3 dX12_number_88 lkc_X12_230  (by decide) (by decide) (Nat.le_of_ble_eq_true rfl) rfl rfl (k_isIn (vLi (vZ (by omega))) (vLi (vN (by omega))) (vLi (vN (by omega))) ?_)
        refine Sx.if_neD (t := 109) dX12_number_91 (by decide) (fun c91 => ?_) (fun c91 => ?_)
        · refine Sx.iload dX12_number_109 rfl ?_
          refine Sx.iret dX12_number_111 rfl rfl ?_
          exact pNZ hV (hyes (by rw [rdR, c9, hE, c71, decide_eq_true (by omega)]; rfl) I6 hF6 (by rw [hE]; exact hM6) hf6 hd6)
        · refine Sx.aload_n dX12_number_94 rfl ?_
          refine Sx.dup dX12_number_95 rfl ?_
          refine Sx.getfV (v := (nI (((nx T n c) + 1) + 1))) dX12_number_96 lkf_X12_132_12 (o_253 W) hM6.at_ ?_
          refine Sx.iconst (v := (nI 1)) dX12_number_99 (by decide) ?_
          refine Sx.isubN dX12_number_100 (by omega) ?_
          refine Sx.putfV dX12_number_101 lkp_X12_132_12 (o_253 W) rfl rfl (fun I7 e7 o7 => ?_)
          have hM7 : MR R I7 tx b n ((((nx T n c) + 1) + 1) - 1) T := hM6.mv ((((nx T n c) + 1) + 1) - 1) (by omega) (FA.up (by decide) e7 o7) (by rw [e7, upd_at])
          have hF7 := (hF6).tr (FA.up (by decide) e7 o7)
          have hf7 := Eq.trans (by rw [e7, upd_nj _ _ (by decide)] : I7 253 11 = I6 253 11) hf6
          have hd7 := Eq.trans (by rw [e7, upd_nj _ _ (by decide)] : I7 253 12 = I6 253 12) hd6
          have hk7 := lkN_or T n ((((nx T n c) + 1) + 1) - 1)
          have ht7 := hM7.2.2.2.2.2.2.2.1 ((((nx T n c) + 1) + 1) - 1)
          have hc7 := hM7.2.2.2.2.2.2.1
          have hn7 := hM7.2.2.2.2.2.1
          have hs7 := sgn_or T n ((((nx T n c) + 1) + 1) - 1)
          refine Sx.aload_n dX12_number_104 rfl ?_
          refine Sx.callV0 dX12_number_105 lkv_X12_147 (rcv_12 (o_253 W)) (by decide) (by decide) (Nat.le_of_ble_eq_true rfl) rfl rfl (k_fails W hM7 hf7 (fun I8 g8 f8 d8 a8 => ?_))
          have hF8 := (hF7).tr g8
          refine Sx.pop dX12_number_108 rfl ?_
          refine Sx.iload dX12_number_109 rfl ?_
          refine Sx.iret dX12_number_111 rfl rfl ?_
          exact hno (by rw [rdR, c9, hE, c71, decide_eq_false (by omega)]; rfl) I8 hF8 (by rw [rdP, if_pos c9, hE, if_neg (by rw [c71]; decide), if_neg (by omega)]; exact f8) _
      · refine Sx.aload_n dX12_number_74 rfl ?_
        refine Sx.callV0 dX12_number_75 lkv_X12_147 (rcv_12 (o_253 W)) (by decide) (by decide) (Nat.le_of_ble_eq_true rfl) rfl rfl (k_fails W hM6 hf6 (fun I9 g9 f9 d9 a9 => ?_))
        have hF9 := (hF6).tr g9
        refine Sx.pop dX12_number_78 rfl ?_
        refine Sx.iconst (v := (nI 0)) dX12_number_79 (by decide) ?_
        refine Sx.iret dX12_number_80 rfl rfl ?_
        exact hno (by rw [rdR, c9, hE, c71]; rfl) I9 hF9 (by rw [rdP, if_pos c9, hE, if_pos c71]; exact f9) _
  · refine Sx.aload_n dX12_number_12 rfl ?_
    refine Sx.callV0 dX12_number_13 lkv_X12_147 (rcv_12 (o_253 W)) (by decide) (by decide) (Nat.le_of_ble_eq_true rfl) rfl rfl (k_fails W hM1 hf1 (fun I10 g10 f10 d10 a10 => ?_))
    have hF10 := (hF1).tr g10
    refine Sx.pop dX12_number_16 rfl ?_
    refine Sx.iconst (v := (nI 0)) dX12_number_17 (by decide) ?_
    refine Sx.iret dX12_number_18 rfl rfl ?_
    exact hno (by rw [rdR, c9]; rfl) I10 hF10 (by rw [rdP, if_neg (by rw [c9]; decide)]; exact f10) _
