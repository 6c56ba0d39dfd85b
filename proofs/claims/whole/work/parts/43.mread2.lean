/-! the reference: small readers -/
def spN (k : Nat) (x : Int32) : Nat := fst1 (sch k) x (stkL.getD k 0) 0
theorem stkL_b : ∀ k, k < 6 → stkL.getD k 0 < 100 := by decide
set_option maxRecDepth 20000 in
set_option maxHeartbeats 1000000 in
theorem l_k_spotOf {G : Gt} {l : Launch} {Z : Zt} {R : Rt} {I : It} {L : Lt} {post : Pt'} {k0 : Nat} {x : Int32} {V : Nat} (hk : k0 < 6) (h : post (some (.int (iI ((V : Int) - 1)))) Z R I L) :
    ∀ (k j : Nat), j ≤ stkL.getD k0 0 → stkL.getD k0 0 < j + k → fst1 (sch k0) x (stkL.getD k0 0 - j) j = V → Sx G l mX12_spotOf 5 0 0 2 [(2, .int (nI j)), (0, .ref (20 + k0)), (1, .int x)] [] Z R I L post := by
  have hb := stkL_b k0 hk
  intro k
  induction k with
  | zero => intro j h1 h2; omega
  | succ k ih =>
    intro j h1 h2 hV
    refine Sx.iload_n dX12_spotOf_2 rfl ?_
    refine Sx.aload_n dX12_spotOf_3 rfl ?_
    refine Sx.callV0 dX12_spotOf_4 lkv_X12_112 (rcv_s hk) (by decide) (by decide) (Nat.le_of_ble_eq_true rfl) rfl rfl (c_slen hk ?_)
    refine Sx.icmp_geV (t := 27) dX12_spotOf_7 (by decide) (vN (by omega)) (vN (by omega)) (fun c7 => ?_) (fun c7 => ?_)
    · refine Sx.iconst (v := (iI (-1))) dX12_spotOf_27 (by decide) ?_
      refine Sx.iret dX12_spotOf_28 rfl rfl ?_
      have hj : j = stkL.getD k0 0 := by omega
      rw [hj, Nat.sub_self, fst1] at hV
      exact pZZ (by omega) h
    · refine Sx.aload_n dX12_spotOf_10 rfl ?_
      refine Sx.iload_n dX12_spotOf_11 rfl ?_
      have hlt : j < stkL.getD k0 0 := by omega
      refine Sx.callV1 dX12_spotOf_12 lkv_X12_118 (rcv_s hk) (by decide) (by decide) (Nat.le_of_ble_eq_true rfl) rfl rfl (c_char hk (by omega) ?_)
      refine Sx.iload_n dX12_spotOf_15 rfl ?_
      refine Sx.icmp_neV (t := 21) dX12_spotOf_16 (by decide) (vX (sch k0 j)) (vX x) (fun c16 => ?_) (fun c16 => ?_)
      · refine Sx.iinc (v := (nI (j + 1))) (lv' := [(2, .int (nI (j + 1))), (0, .ref (20 + k0)), (1, .int x)]) dX12_spotOf_21 rfl (nI_add j 1) (by decide) rfl ?_
        refine Sx.goto (t := 2) dX12_spotOf_24 (by decide) ?_
        refine ih (j + 1) (by omega) (by omega) ?_
        rw [show stkL.getD k0 0 - j = (stkL.getD k0 0 - (j + 1)) + 1 by omega, fst1, if_neg (fun q => c16 (by rw [q]))] at hV
        exact hV
      · refine Sx.iload_n dX12_spotOf_19 rfl ?_
        refine Sx.iret dX12_spotOf_20 rfl rfl ?_
        rw [show stkL.getD k0 0 - j = (stkL.getD k0 0 - (j + 1)) + 1 by omega, fst1, if_pos (Int32.toInt_inj.mp (by omega))] at hV
        exact pZN (by omega) h
set_option maxRecDepth 20000 in
set_option maxHeartbeats 1000000 in
theorem k_spotOf {G : Gt} {l : Launch} {Z : Zt} {R : Rt} {I : It} {L : Lt} {post : Pt'} {k0 : Nat} {x : Int32} (hk : k0 < 6) (h : post (some (.int (iI ((spN k0 x : Int) - 1)))) Z R I L) : Cx G l mX12_spotOf 5 0 0 [.ref (20 + k0), .int x] Z R I L post := by
  refine Cx.of (by decide +kernel) (by exact Nat.le_of_ble_eq_true rfl) ?_
  refine Sx.iconst (v := (nI 0)) dX12_spotOf_0 (by decide) ?_
  refine Sx.istore_n (lv' := [(2, .int (nI 0)), (0, .ref (20 + k0)), (1, .int x)]) dX12_spotOf_1 (by decide) rfl ?_
  refine Sx.sub' [(2, .int (nI 0)), (0, .ref (20 + k0)), (1, .int x)] rfl ?_
  exact l_k_spotOf hk h (stkL.getD k0 0 + 1) 0 (by omega) (by omega) rfl
set_option maxRecDepth 20000 in
set_option maxHeartbeats 1000000 in
theorem l_k_isAmong {G : Gt} {l : Launch} {Z : Zt} {R : Rt} {I : It} {L : Lt} {post : Pt'} {k0 : Nat} {x : Int32} {V : Nat} (hk : k0 < 6) (h : post (some (.int (b2i (decide (V ≠ 0))))) Z R I L) :
    ∀ (k j : Nat), j ≤ stkL.getD k0 0 → stkL.getD k0 0 < j + k → fst1 (sch k0) x (stkL.getD k0 0 - j) j = V → Sx G l mX12_isAmong 5 0 0 2 [(2, .int (nI j)), (0, .ref (20 + k0)), (1, .int x)] [] Z R I L post := by
  have hb := stkL_b k0 hk
  intro k
  induction k with
  | zero => intro j h1 h2; omega
  | succ k ih =>
    intro j h1 h2 hV
    refine Sx.iload_n dX12_isAmong_2 rfl ?_
    refine Sx.aload_n dX12_isAmong_3 rfl ?_
    refine Sx.callV0 dX12_isAmong_4 lkv_X12_112 (rcv_s hk) (by decide) (by decide) (Nat.le_of_ble_eq_true rfl) rfl rfl (c_slen hk ?_)
    refine Sx.icmp_geV (t := 27) dX12_isAmong_7 (by decide) (vN (by omega)) (vN (by omega)) (fun c7 => ?_) (fun c7 => ?_)
    · refine Sx.iconst (v := (nI 0)) dX12_isAmong_27 (by decide) ?_
      refine Sx.top (show _ = b2i false from rfl) ?_
      refine Sx.iret dX12_isAmong_28 rfl (b2i_n _) ?_
      have hj : j = stkL.getD k0 0 := by omega
      rw [hj, Nat.sub_self, fst1] at hV
      exact pBB (decide_eq_false (by omega)) h
    · refine Sx.aload_n dX12_isAmong_10 rfl ?_
      refine Sx.iload_n dX12_isAmong_11 rfl ?_
      have hlt : j < stkL.getD k0 0 := by omega
      refine Sx.callV1 dX12_isAmong_12 lkv_X12_118 (rcv_s hk) (by decide) (by decide) (Nat.le_of_ble_eq_true rfl) rfl rfl (c_char hk (by omega) ?_)
      refine Sx.iload_n dX12_isAmong_15 rfl ?_
      refine Sx.icmp_neV (t := 21) dX12_isAmong_16 (by decide) (vX (sch k0 j)) (vX x) (fun c16 => ?_) (fun c16 => ?_)
      · refine Sx.iinc (v := (nI (j + 1))) (lv' := [(2, .int (nI (j + 1))), (0, .ref (20 + k0)), (1, .int x)]) dX12_isAmong_21 rfl (nI_add j 1) (by decide) rfl ?_
        refine Sx.goto (t := 2) dX12_isAmong_24 (by decide) ?_
        refine ih (j + 1) (by omega) (by omega) ?_
        rw [show stkL.getD k0 0 - j = (stkL.getD k0 0 - (j + 1)) + 1 by omega, fst1, if_neg (fun q => c16 (by rw [q]))] at hV
        exact hV
      · refine Sx.iconst (v := (nI 1)) dX12_isAmong_19 (by decide) ?_
        refine Sx.top (show _ = b2i true from rfl) ?_
        refine Sx.iret dX12_isAmong_20 rfl (b2i_n _) ?_
        rw [show stkL.getD k0 0 - j = (stkL.getD k0 0 - (j + 1)) + 1 by omega, fst1, if_pos (Int32.toInt_inj.mp (by omega))] at hV
        exact pBB (decide_eq_true (by omega)) h
set_option maxRecDepth 20000 in
set_option maxHeartbeats 1000000 in
theorem k_isAmong {G : Gt} {l : Launch} {Z : Zt} {R : Rt} {I : It} {L : Lt} {post : Pt'} {k0 : Nat} {x : Int32} (hk : k0 < 6) (h : post (some (.int (b2i (decide (spN k0 x ≠ 0))))) Z R I L) : Cx G l mX12_isAmong 5 0 0 [.ref (20 + k0), .int x] Z R I L post := by
  refine Cx.of (by decide +kernel) (by exact Nat.le_of_ble_eq_true rfl) ?_
  refine Sx.iconst (v := (nI 0)) dX12_isAmong_0 (by decide) ?_
  refine Sx.istore_n (lv' := [(2, .int (nI 0)), (0, .ref (20 + k0)), (1, .int x)]) dX12_isAmong_1 (by decide) rfl ?_
  refine Sx.sub' [(2, .int (nI 0)), (0, .ref (20 + k0)), (1, .int x)] rfl ?_
  exact l_k_isAmong hk h (stkL.getD k0 0 + 1) 0 (by omega) (by omega) rfl
set_option maxRecDepth 20000 in
set_option maxHeartbeats 1000000 in
theorem k_goesIn {G : Gt} {l : Launch} {Z : Zt} {R : Rt} {I : It} {L : Lt} {post : Pt'} {tx b n c dp : Nat} {T : Nat → Nat} (W : WF Z R) (hM : MR R I tx b n c T) (hc : c < n) (hf : I 253 11 = iI (-1)) (hd : I 253 12 = nI dp) (hdp : dp ≤ 6) (hno : dp = 6 → ∀ I', FA I I' → I' 253 11 = nI c → post (some (.int (b2i false))) Z R I' L) (hyes : dp ≠ 6 → ∀ I', FA I I' → MR R I' tx b n (c + 1) T → I' 253 11 = iI (-1) → I' 253 12 = nI (dp + 1) → post (some (.int (b2i true))) Z R I' L) : Cx G l mX12_goesIn 2 0 0 [.ref 253] Z R I L post := by
  refine Cx.of (by decide +kernel) (by exact Nat.le_of_ble_eq_true rfl) ?_
  have hn := hM.2.2.2.2.2.1
  refine Sx.aload_n dX12_goesIn_0 rfl ?_
  refine Sx.getfV (v := (nI dp)) dX12_goesIn_1 lkf_X12_144_12 (o_253 W) hd ?_
  refine Sx.bipush (v := (nI 6)) dX12_goesIn_4 (by decide) ?_
  refine Sx.icmp_neV (t := 14) dX12_goesIn_6 (by decide) (vN (by omega)) (vN (by decide)) (fun c6 => ?_) (fun c6 => ?_)
  · refine Sx.aload_n dX12_goesIn_14 rfl ?_
    refine Sx.dup dX12_goesIn_15 rfl ?_
    refine Sx.getfV (v := (nI dp)) dX12_goesIn_16 lkf_X12_144_12 (o_253 W) hd ?_
    refine Sx.iconst (v := (nI 1)) dX12_goesIn_19 (by decide) ?_
    refine Sx.iaddN dX12_goesIn_20 ?_
    refine Sx.putfV dX12_goesIn_21 lkp_X12_144_12 (o_253 W) rfl rfl (fun I1 e1 o1 => ?_)
    have hM1 : MR R I1 tx b n c T := hM.mv c (by omega) (FA.up (by decide) e1 o1) (by rw [e1, upd_nj _ _ (by decide)]; exact hM.at_)
    have hF1 := (FA.rf I).tr (FA.up (by decide) e1 o1)
    have hf1 := Eq.trans (by rw [e1, upd_nj _ _ (by decide)] : I1 253 11 = I 253 11) hf
    have hd1 : I1 253 12 = nI (dp + 1) := by rw [e1, upd_at]
    refine Sx.aload_n dX12_goesIn_24 rfl ?_
    refine Sx.dup dX12_goesIn_25 rfl ?_
    refine Sx.getfV (v := (nI c)) dX12_goesIn_26 lkf_X12_132_12 (o_253 W) hM1.at_ ?_
    refine Sx.iconst (v := (nI 1)) dX12_goesIn_29 (by decide) ?_
    refine Sx.iaddN dX12_goesIn_30 ?_
    refine Sx.putfV dX12_goesIn_31 lkp_X12_132_12 (o_253 W) rfl rfl (fun I2 e2 o2 => ?_)
    have hM2 : MR R I2 tx b n (c + 1) T := hM1.mv (c + 1) (by omega) (FA.up (by decide) e2 o2) (by rw [e2, upd_at])
    have hF2 := (hF1).tr (FA.up (by decide) e2 o2)
    have hf2 := Eq.trans (by rw [e2, upd_nj _ _ (by decide)] : I2 253 11 = I1 253 11) hf1
    have hd2 := Eq.trans (by rw [e2, upd_nj _ _ (by decide)] : I2 253 12 = I1 253 12) hd1
    have hk2 := lkN_or T n (c + 1)
    have ht2 := hM2.2.2.2.2.2.2.2.1 (c + 1)
    have hc2 := hM2.2.2.2.2.2.2.1
    have hn2 := hM2.2.2.2.2.2.1
    have hs2 := sgn_or T n (c + 1)
    refine Sx.iconst (v := (nI 1)) dX12_goesIn_34 (by decide) ?_
    refine Sx.top (show _ = b2i true from rfl) ?_
    refine Sx.iret dX12_goesIn_35 rfl (b2i_n _) ?_
    exact hyes (by omega) I2 hF2 hM2 hf2 hd2
  · refine Sx.aload_n dX12_goesIn_9 rfl ?_
    refine Sx.callV0 dX12_goesIn_10 lkv_X12_147 (rcv_12 (o_253 W)) (by decide) (by decide) (Nat.le_of_ble_eq_true rfl) rfl rfl (k_fails W hM hf (fun I3 g3 f3 d3 a3 => ?_))
    have hF3 := (FA.rf I).tr g3
    refine Sx.iret dX12_goesIn_13 rfl (b2i_n _) ?_
    exact hno (by omega) I3 hF3 f3
set_option maxRecDepth 20000 in
set_option maxHeartbeats 1000000 in
theorem k_takes {G : Gt} {l : Launch} {Z : Zt} {R : Rt} {I : It} {L : Lt} {post : Pt'} {tx b n c dp s0 : Nat} {T : Nat → Nat} (W : WF Z R) (hM : MR R I tx b n c T) (hf : I 253 11 = iI (-1)) (hd : I 253 12 = nI dp) (hs : 0 < s0 ∧ s0 < 256) (hno : sgn T n (nx T n c) ≠ s0 → ∀ I', FA I I' → I' 253 11 = nI (nx T n c) → post (some (.int (b2i false))) Z R I' L) (hyes : sgn T n (nx T n c) = s0 → ∀ I', FA I I' → MR R I' tx b n (nx T n c + 1) T → I' 253 11 = iI (-1) → I' 253 12 = nI dp → post (some (.int (b2i true))) Z R I' L) : Cx G l mX12_takes 2 0 0 [.ref 253, .int (nI s0)] Z R I L post := by
  refine Cx.of (by decide +kernel) (by exact Nat.le_of_ble_eq_true rfl) ?_
  refine Sx.aload_n dX12_takes_0 rfl ?_
  refine Sx.getfV (v := (iI (-1))) dX12_takes_1 lkf_X12_141_12 (o_253 W) hf ?_
  refine Sx.iconst (v := (iI (-1))) dX12_takes_4 (by decide) ?_
  refine Sx.icmp_neV (t := 16) dX12_takes_5 (by decide) (vZ (by decide)) (vZ (by decide)) (fun c5 => False.elim (by omega)) (fun c5 => ?_)
  refine Sx.aload_n dX12_takes_8 rfl ?_
  refine Sx.callV0 dX12_takes_9 lkv_X12_151 (rcv_12 (o_253 W)) (by decide) (by decide) (Nat.le_of_ble_eq_true rfl) rfl rfl (k_look W hM (fun I1 hM1 g1 f1 d1 => ?_))
  have hF1 := (FA.rf I).tr g1
  have hf1 := f1.trans hf
  have hd1 := d1.trans hd
  have hx1 := nx_b T n c
  have hk1 := lkN_or T n (nx T n c)
  have ht1 := hM1.2.2.2.2.2.2.2.1 (nx T n c)
  have hc1 := hM1.2.2.2.2.2.2.1
  have hn1 := hM1.2.2.2.2.2.1
  have hs1 := sgn_or T n (nx T n c)
  refine Sx.iload_n dX12_takes_12 rfl ?_
  refine Sx.icmp_eqV (t := 21) dX12_takes_13 (by decide) (vZ (by omega)) (vN (by omega)) (fun c13 => ?_) (fun c13 => ?_)
  · refine Sx.aload_n dX12_takes_21 rfl ?_
    refine Sx.dup dX12_takes_22 rfl ?_
    refine Sx.getfV (v := (nI (nx T n c))) dX12_takes_23 lkf_X12_132_12 (o_253 W) hM1.at_ ?_
    refine Sx.iconst (v := (nI 1)) dX12_takes_26 (by decide) ?_
    refine Sx.iaddN dX12_takes_27 ?_
    refine Sx.putfV dX12_takes_28 lkp_X12_132_12 (o_253 W) rfl rfl (fun I2 e2 o2 => ?_)
    have hM2 : MR R I2 tx b n ((nx T n c) + 1) T := hM1.mv ((nx T n c) + 1) (by omega) (FA.up (by decide) e2 o2) (by rw [e2, upd_at])
    have hF2 := (hF1).tr (FA.up (by decide) e2 o2)
    have hf2 := Eq.trans (by rw [e2, upd_nj _ _ (by decide)] : I2 253 11 = I1 253 11) hf1
    have hd2 := Eq.trans (by rw [e2, upd_nj _ _ (by decide)] : I2 253 12 = I1 253 12) hd1
    have hk2 := lkN_or T n ((nx T n c) + 1)
    have ht2 := hM2.2.2.2.2.2.2.2.1 ((nx T n c) + 1)
    have hc2 := hM2.2.2.2.2.2.2.1
    have hn2 := hM2.2.2.2.2.2.1
    have hs2 := sgn_or T n ((nx T n c) + 1)
    refine Sx.iconst (v := (nI 1)) dX12_takes_31 (by decide) ?_
    refine Sx.top (show _ = b2i true from rfl) ?_
    refine Sx.iret dX12_takes_32 rfl (b2i_n _) ?_
    exact hyes (by rw [sgn, if_pos (by omega)]; omega) I2 hF2 hM2 hf2 hd2
  · refine Sx.aload_n dX12_takes_16 rfl ?_
    refine Sx.callV0 dX12_takes_17 lkv_X12_147 (rcv_12 (o_253 W)) (by decide) (by decide) (Nat.le_of_ble_eq_true rfl) rfl rfl (k_fails W hM1 hf1 (fun I3 g3 f3 d3 a3 => ?_))
    have hF3 := (hF1).tr g3
    refine Sx.iret dX12_takes_20 rfl (b2i_n _) ?_
    exact hno (fun q => by unfold sgn at q; split at q <;> omega) I3 hF3 f3
set_option maxRecDepth 20000 in
set_option maxHeartbeats 1000000 in
theorem k_takes2 {G : Gt} {l : Launch} {Z : Zt} {R : Rt} {I : It} {L : Lt} {post : Pt'} {q s0 : Nat} (W : WF Z R) (hf : I 253 11 = nI q) (hq : q < 1000) (h : post (some (.int (b2i false))) Z R I L) : Cx G l mX12_takes 2 0 0 [.ref 253, .int (nI s0)] Z R I L post := by
  refine Cx.of (by decide +kernel) (by exact Nat.le_of_ble_eq_true rfl) ?_
  refine Sx.aload_n dX12_takes_0 rfl ?_
  refine Sx.getfV (v := (nI q)) dX12_takes_1 lkf_X12_141_12 (o_253 W) hf ?_
  refine Sx.iconst (v := (iI (-1))) dX12_takes_4 (by decide) ?_
  refine Sx.icmp_neV (t := 16) dX12_takes_5 (by decide) (vN (by omega)) (vZ (by decide)) (fun c5 => ?_) (fun c5 => False.elim (by omega))
  refine Sx.aload_n dX12_takes_16 rfl ?_
  refine Sx.callV0 dX12_takes_17 lkv_X12_147 (rcv_12 (o_253 W)) (by decide) (by decide) (Nat.le_of_ble_eq_true rfl) rfl rfl (k_fails2 W hf hq ?_)
  refine Sx.iret dX12_takes_20 rfl (b2i_n _) ?_
  exact h
set_option maxRecDepth 20000 in
set_option maxHeartbeats 1000000 in
theorem k_isSign {G : Gt} {l : Launch} {Z : Zt} {R : Rt} {I : It} {L : Lt} {post : Pt'} {z : Int} (hz : -2147483648 ≤ z ∧ z < 2147483648) (h : post (some (.int (b2i (decide (z = 61 ∨ z = 60 ∨ z = 62))))) Z R I L) : Cx G l mX12_isSign 1 0 0 [.int (iI z)] Z R I L post := by
  refine Cx.of (by decide +kernel) (by exact Nat.le_of_ble_eq_true rfl) ?_
  refine Sx.iload_n dX12_isSign_0 rfl ?_
  refine Sx.bipush (v := (nI 61)) dX12_isSign_1 (by decide) ?_
  refine Sx.icmp_eqV (t := 18) dX12_isSign_3 (by decide) (vZ (by omega)) (vN (by decide)) (fun c3 => ?_) (fun c3 => ?_)
  · refine Sx.iconst (v := (nI 1)) dX12_isSign_18 (by decide) ?_
    refine Sx.goto (t := 23) dX12_isSign_19 (by decide) ?_
    refine Sx.top (show _ = b2i true from rfl) ?_
    refine Sx.iret dX12_isSign_23 rfl (b2i_n _) ?_
    exact pBB (decide_eq_true (by omega)) h
  · refine Sx.iload_n dX12_isSign_6 rfl ?_
    refine Sx.bipush (v := (nI 60)) dX12_isSign_7 (by decide) ?_
    refine Sx.icmp_eqV (t := 18) dX12_isSign_9 (by decide) (vZ (by omega)) (vN (by decide)) (fun c9 => ?_) (fun c9 => ?_)
    · refine Sx.iconst (v := (nI 1)) dX12_isSign_18 (by decide) ?_
      refine Sx.goto (t := 23) dX12_isSign_19 (by decide) ?_
      refine Sx.top (show _ = b2i true from rfl) ?_
      refine Sx.iret dX12_isSign_23 rfl (b2i_n _) ?_
      exact pBB (decide_eq_true (by omega)) h
    · refine Sx.iload_n dX12_isSign_12 rfl ?_
      refine Sx.bipush (v := (nI 62)) dX12_isSign_13 (by decide) ?_
      refine Sx.icmp_neV (t := 22) dX12_isSign_15 (by decide) (vZ (by omega)) (vN (by decide)) (fun c15 => ?_) (fun c15 => ?_)
      · refine Sx.iconst (v := (nI 0)) dX12_isSign_22 (by decide) ?_
        refine Sx.top (show _ = b2i false from rfl) ?_
        refine Sx.iret dX12_isSign_23 rfl (b2i_n _) ?_
        exact pBB (decide_eq_false (by omega)) h
      · refine Sx.iconst (v := (nI 1)) dX12_isSign_18 (by decide) ?_
        refine Sx.goto (t := 23) dX12_isSign_19 (by decide) ?_
        refine Sx.top (show _ = b2i true from rfl) ?_
        refine Sx.iret dX12_isSign_23 rfl (b2i_n _) ?_
        exact pBB (decide_eq_true (by omega)) h
def mostN (k w : Nat) : Nat := if k = 115 then (if w = 0 then 30 else if w = 1 then 99 else 9) else if k = 107 then (if w = 0 then 9 else 30) else if w = 0 then 5 else if w = 1 then 9 else 1
def usualN (k w : Nat) : Nat := if k = 115 then (if w = 0 then 8 else if w = 1 then 20 else 0) else if k = 107 then (if w = 0 then 3 else 4) else if w = 1 then 2 else 0
set_option maxRecDepth 20000 in
set_option maxHeartbeats 1000000 in
theorem k_mostOf {G : Gt} {l : Launch} {Z : Zt} {R : Rt} {I : It} {L : Lt} {post : Pt'} {k0 w : Nat} (hk : k0 < 256) (hw : w < 8) (h : post (some (.int (nI (mostN k0 w)))) Z R I L) : Cx G l mX12_mostOf 1 0 0 [.int (nI k0), .int (nI w)] Z R I L post := by
  refine Cx.of (by decide +kernel) (by exact Nat.le_of_ble_eq_true rfl) ?_
  refine Sx.iload_n dX12_mostOf_0 rfl ?_
  refine Sx.bipush (v := (nI 115)) dX12_mostOf_1 (by decide) ?_
  refine Sx.icmp_neV (t := 28) dX12_mostOf_3 (by decide) (vN (by omega)) (vN (by decide)) (fun c3 => ?_) (fun c3 => ?_)
  · refine Sx.iload_n dX12_mostOf_28 rfl ?_
    refine Sx.bipush (v := (nI 107)) dX12_mostOf_29 (by decide) ?_
    refine Sx.icmp_neV (t := 46) dX12_mostOf_31 (by decide) (vN (by omega)) (vN (by decide)) (fun c31 => ?_) (fun c31 => ?_)
    · refine Sx.iload_n dX12_mostOf_46 rfl ?_
      refine Sx.if_neV (t := 54) dX12_mostOf_47 (by decide) (vN (by omega)) (fun c47 => ?_) (fun c47 => ?_)
      · refine Sx.iload_n dX12_mostOf_54 rfl ?_
        refine Sx.iconst (v := (nI 1)) dX12_mostOf_55 (by decide) ?_
        refine Sx.icmp_neV (t := 64) dX12_mostOf_56 (by decide) (vN (by omega)) (vN (by decide)) (fun c56 => ?_) (fun c56 => ?_)
        · refine Sx.iconst (v := (nI 1)) dX12_mostOf_64 (by decide) ?_
          refine Sx.iret dX12_mostOf_65 rfl rfl ?_
          exact pNN (by unfold mostN; repeat (first | rw [if_pos (by omega)] | rw [if_neg (by omega)])) h
        · refine Sx.bipush (v := (nI 9)) dX12_mostOf_59 (by decide) ?_
          refine Sx.goto (t := 65) dX12_mostOf_61 (by decide) ?_
          refine Sx.iret dX12_mostOf_65 rfl rfl ?_
          exact pNN (by unfold mostN; repeat (first | rw [if_pos (by omega)] | rw [if_neg (by omega)])) h
      · refine Sx.iconst (v := (nI 5)) dX12_mostOf_50 (by decide) ?_
        refine Sx.goto (t := 65) dX12_mostOf_51 (by decide) ?_
        refine Sx.iret dX12_mostOf_65 rfl rfl ?_
        exact pNN (by unfold mostN; repeat (first | rw [if_pos (by omega)] | rw [if_neg (by omega)])) h
    · refine Sx.iload_n dX12_mostOf_34 rfl ?_
      refine Sx.if_neV (t := 43) dX12_mostOf_35 (by decide) (vN (by omega)) (fun c35 => ?_) (fun c35 => ?_)
      · refine Sx.bipush (v := (nI 30)) dX12_mostOf_43 (by decide) ?_
        refine Sx.iret dX12_mostOf_45 rfl rfl ?_
        exact pNN (by unfold mostN; repeat (first | rw [if_pos (by omega)] | rw [if_neg (by omega)])) h
      · refine Sx.bipush (v := (nI 9)) dX12_mostOf_38 (by decide) ?_
        refine Sx.goto (t := 45) dX12_mostOf_40 (by decide) ?_
        refine Sx.iret dX12_mostOf_45 rfl rfl ?_
        exact pNN (by unfold mostN; repeat (first | rw [if_pos (by omega)] | rw [if_neg (by omega)])) h
  · refine Sx.iload_n dX12_mostOf_6 rfl ?_
    refine Sx.if_neV (t := 15) dX12_mostOf_7 (by decide) (vN (by omega)) (fun c7 => ?_) (fun c7 => ?_)
    · refine Sx.iload_n dX12_mostOf_15 rfl ?_
      refine Sx.iconst (v := (nI 1)) dX12_mostOf_16 (by decide) ?_
      refine Sx.icmp_neV (t := 25) dX12_mostOf_17 (by decide) (vN (by omega)) (vN (by decide)) (fun c17 => ?_) (fun c17 => ?_)
      · refine Sx.bipush (v := (nI 9)) dX12_mostOf_25 (by decide) ?_
        refine Sx.iret dX12_mostOf_27 rfl rfl ?_
        exact pNN (by unfold mostN; repeat (first | rw [if_pos (by omega)] | rw [if_neg (by omega)])) h
      · refine Sx.bipush (v := (nI 99)) dX12_mostOf_20 (by decide) ?_
        refine Sx.goto (t := 27) dX12_mostOf_22 (by decide) ?_
        refine Sx.iret dX12_mostOf_27 rfl rfl ?_
        exact pNN (by unfold mostN; repeat (first | rw [if_pos (by omega)] | rw [if_neg (by omega)])) h
    · refine Sx.bipush (v := (nI 30)) dX12_mostOf_10 (by decide) ?_
      refine Sx.goto (t := 27) dX12_mostOf_12 (by decide) ?_
      refine Sx.iret dX12_mostOf_27 rfl rfl ?_
      exact pNN (by unfold mostN; repeat (first | rw [if_pos (by omega)] | rw [if_neg (by omega)])) h
set_option maxRecDepth 20000 in
set_option maxHeartbeats 1000000 in
theorem k_usual {G : Gt} {l : Launch} {Z : Zt} {R : Rt} {I : It} {L : Lt} {post : Pt'} {k0 w : Nat} (hk : k0 < 256) (hw : w < 8) (h : post (some (.int (nI (usualN k0 w)))) Z R I L) : Cx G l mX12_usual 1 0 0 [.int (nI k0), .int (nI w)] Z R I L post := by
  refine Cx.of (by decide +kernel) (by exact Nat.le_of_ble_eq_true rfl) ?_
  refine Sx.iload_n dX12_usual_0 rfl ?_
  refine Sx.bipush (v := (nI 115)) dX12_usual_1 (by decide) ?_
  refine Sx.icmp_neV (t := 27) dX12_usual_3 (by decide) (vN (by omega)) (vN (by decide)) (fun c3 => ?_) (fun c3 => ?_)
  · refine Sx.iload_n dX12_usual_27 rfl ?_
    refine Sx.bipush (v := (nI 107)) dX12_usual_28 (by decide) ?_
    refine Sx.icmp_neV (t := 43) dX12_usual_30 (by decide) (vN (by omega)) (vN (by decide)) (fun c30 => ?_) (fun c30 => ?_)
    · refine Sx.iload_n dX12_usual_43 rfl ?_
      refine Sx.iconst (v := (nI 1)) dX12_usual_44 (by decide) ?_
      refine Sx.icmp_neV (t := 52) dX12_usual_45 (by decide) (vN (by omega)) (vN (by decide)) (fun c45 => ?_) (fun c45 => ?_)
      · refine Sx.iconst (v := (nI 0)) dX12_usual_52 (by decide) ?_
        refine Sx.iret dX12_usual_53 rfl rfl ?_
        exact pNN (by unfold usualN; repeat (first | rw [if_pos (by omega)] | rw [if_neg (by omega)])) h
      · refine Sx.iconst (v := (nI 2)) dX12_usual_48 (by decide) ?_
        refine Sx.goto (t := 53) dX12_usual_49 (by decide) ?_
        refine Sx.iret dX12_usual_53 rfl rfl ?_
        exact pNN (by unfold usualN; repeat (first | rw [if_pos (by omega)] | rw [if_neg (by omega)])) h
    · refine Sx.iload_n dX12_usual_33 rfl ?_
      refine Sx.if_neV (t := 41) dX12_usual_34 (by decide) (vN (by omega)) (fun c34 => ?_) (fun c34 => ?_)
      · refine Sx.iconst (v := (nI 4)) dX12_usual_41 (by decide) ?_
        refine Sx.iret dX12_usual_42 rfl rfl ?_
        exact pNN (by unfold usualN; repeat (first | rw [if_pos (by omega)] | rw [if_neg (by omega)])) h
      · refine Sx.iconst (v := (nI 3)) dX12_usual_37 (by decide) ?_
        refine Sx.goto (t := 42) dX12_usual_38 (by decide) ?_
        refine Sx.iret dX12_usual_42 rfl rfl ?_
        exact pNN (by unfold usualN; repeat (first | rw [if_pos (by omega)] | rw [if_neg (by omega)])) h
  · refine Sx.iload_n dX12_usual_6 rfl ?_
    refine Sx.if_neV (t := 15) dX12_usual_7 (by decide) (vN (by omega)) (fun c7 => ?_) (fun c7 => ?_)
    · refine Sx.iload_n dX12_usual_15 rfl ?_
      refine Sx.iconst (v := (nI 1)) dX12_usual_16 (by decide) ?_
      refine Sx.icmp_neV (t := 25) dX12_usual_17 (by decide) (vN (by omega)) (vN (by decide)) (fun c17 => ?_) (fun c17 => ?_)
      · refine Sx.iconst (v := (nI 0)) dX12_usual_25 (by decide) ?_
        refine Sx.iret dX12_usual_26 rfl rfl ?_
        exact pNN (by unfold usualN; repeat (first | rw [if_pos (by omega)] | rw [if_neg (by omega)])) h
      · refine Sx.bipush (v := (nI 20)) dX12_usual_20 (by decide) ?_
        refine Sx.goto (t := 26) dX12_usual_22 (by decide) ?_
        refine Sx.iret dX12_usual_26 rfl rfl ?_
        exact pNN (by unfold usualN; repeat (first | rw [if_pos (by omega)] | rw [if_neg (by omega)])) h
    · refine Sx.bipush (v := (nI 8)) dX12_usual_10 (by decide) ?_
      refine Sx.goto (t := 26) dX12_usual_12 (by decide) ?_
      refine Sx.iret dX12_usual_26 rfl rfl ?_
      exact pNN (by unfold usualN; repeat (first | rw [if_pos (by omega)] | rw [if_neg (by omega)])) h
