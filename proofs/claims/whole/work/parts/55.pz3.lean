/-! the reference reads laws: the rest of its parser -/
theorem k_within {G : Gt} {l : Launch} {Z : Zt} {R : Rt} {I : It} {L : Lt} {post : Pt'} {x : Int64} (h : post (some (.int (wiI x))) Z R I L) : Cx G l mX12_within 1 0 0 [.long x] Z R I L post := by
  refine Cx.of (by decide +kernel) (by exact Nat.le_of_ble_eq_true rfl) ?_
  refine Sx.ldc2 dX12_within_0 lkk_X12_154 ?_
  refine Sx.ldc2 dX12_within_3 lkk_X12_156 ?_
  refine Sx.lload_n dX12_within_6 rfl ?_
  refine Sx.lmin dX12_within_7 lkm_X12_158 (by decide) (Nat.le_of_ble_eq_true rfl) ?_
  refine Sx.lmax dX12_within_10 lkm_X12_164 (by decide) (Nat.le_of_ble_eq_true rfl) ?_
  refine Sx.l2i dX12_within_13 ?_
  refine Sx.iret dX12_within_14 rfl rfl ?_
  exact h
theorem wi_mul {v w : Int} (hv : bd6 v) (hw : bd6 w) : wiI ((iI v).toInt64 * (iI w).toInt64) = iI (jnZ 42 v w) := by
  have a := hv
  have b := hw
  unfold bd6 at a b
  rw [wi_ok (vL_mul (vLi (vZ (by omega))) (vLi (vZ (by omega))) hv hw)]
  rfl
theorem wi_div0 {v w : Int} (h : w = 0) : wiI 0 = iI (jnZ 47 v w) := by
  unfold jnZ
  rw [if_neg (by decide), if_pos rfl, if_pos h]
  decide
theorem wi_div {v w : Int} (hv : bd6 v) (hw : bd6 w) (h : w ≠ 0) : wiI ((iI v).toInt64 / (iI w).toInt64) = iI (jnZ 47 v w) := by
  have a := hv
  have b := hw
  unfold bd6 at a b
  rw [wi_ok (vL_div (vLi (vZ (by omega))) (vLi (vZ (by omega))) hv)]
  unfold jnZ
  rw [if_neg (by decide), if_pos rfl, if_neg h]
theorem wi_add {v w : Int} (hv : bd6 v) (hw : bd6 w) : wiI ((iI v).toInt64 + (iI w).toInt64) = iI (jnZ 43 v w) := by
  have a := hv
  have b := hw
  unfold bd6 at a b
  rw [wi_ok (vL_add (vLi (vZ (by omega))) (vLi (vZ (by omega))) hv hw)]
  rfl
theorem wi_sub {v w : Int} (hv : bd6 v) (hw : bd6 w) : wiI ((iI v).toInt64 - (iI w).toInt64) = iI (jnZ 45 v w) := by
  have a := hv
  have b := hw
  unfold bd6 at a b
  rw [wi_ok (vL_sub (vLi (vZ (by omega))) (vLi (vZ (by omega))) hv hw)]
  rfl
theorem lg0 (x : Int64) (w : Int) (h : VL x w) : VZ (lg_cmp x 0) (sgI w 0) := lgc_lt h (show VL (0 : Int64) 0 from rfl)
theorem n01 (b : Bool) (p : Prop) [Decidable p] (h : b = true ↔ p) : b2i b = b2i (decide p) := by
  congr 1
  cases b with
  | true => exact (decide_eq_true (h.mp rfl)).symm
  | false => exact (decide_eq_false (fun q => by have := h.mpr q; cases this)).symm
set_option maxRecDepth 20000 in
set_option maxHeartbeats 1000000 in
theorem s_l7 {G : Gt} {l : Launch} {Z : Zt} {R : Rt} {L : Lt} {tx b n : Nat} {T : Nat → Nat} {e : Nat → Int} (W : WF Z R) (hE0 : ∀ s, bd6 (e s)) (k : Nat) (ih : PzAll G l Z R L tx b n T e k) : PzIL G l Z R L tx b n T e mX12_term 25 1 7 5 (fun v => [(1, .int (iI v)), (0, .ref 253)]) (k + 1) := by
  obtain ⟨hAt, hTe, hSu, hCo, hUn, hPa, hCn, hL7, hL8, hL9, hL10, hK, hC1, hP1, hD1⟩ := ih
  intro I c dp v post hM hf hd hdp hE hbv hk hno hyes
  have hbv2 : -1000000 ≤ v ∧ v ≤ 1000000 := hbv
  have hn0 := hM.2.2.2.2.2.1
  have hc0 := hM.2.2.2.2.2.2.1
  have hRt := hM.1
  obtain ⟨N, hA, hbN, hN⟩ := hM.ar W
  obtain ⟨r, hR⟩ : ∃ r, pz T n e (k + 1) 7 dp c v = r := ⟨_, rfl⟩
  rw [hR] at hno hyes
  refine Sx.aload_n dX12_term_5 rfl ?_
  refine Sx.getfV (v := (iI (-1))) dX12_term_6 lkf_X12_141_12 (o_253 W) hf ?_
  refine Sx.iconst (v := (iI (-1))) dX12_term_9 (by decide) ?_
  refine Sx.icmp_neV (t := 94) dX12_term_10 (by decide) (vZ (by decide)) (vZ (by decide)) (fun c10 => False.elim (by omega)) (fun c10 => ?_)
  refine Sx.aload_n dX12_term_13 rfl ?_
  refine Sx.callV0 dX12_term_14 lkv_X12_151 (rcv_12 (o_253 W)) (by omega) (by decide) (Nat.le_of_ble_eq_true rfl) rfl rfl (k_look W hM (fun I1 hM1 g1 f1 d1 => ?_))
  have hF1 := (FA.rf I).tr g1
  have hf1 := f1.trans hf
  have hd1 := d1.trans hd
  have hx1 := nx_b T n c
  have hk1 := lkN_or T n (nx T n c)
  have ht1 := hM1.2.2.2.2.2.2.2.1 (nx T n c)
  have hc1 := hM1.2.2.2.2.2.2.1
  have hn1 := hM1.2.2.2.2.2.1
  have hs1 := sgn_or T n (nx T n c)
  refine Sx.bipush (v := (nI 42)) dX12_term_17 (by decide) ?_
  refine Sx.icmp_eqV (t := 31) dX12_term_19 (by decide) (vZ (by omega)) (vN (by decide)) (fun c19 => ?_) (fun c19 => ?_)
  · refine Sx.aload_n dX12_term_31 rfl ?_
    refine Sx.callV0 dX12_term_32 lkv_X12_151 (rcv_12 (o_253 W)) (by omega) (by decide) (Nat.le_of_ble_eq_true rfl) rfl rfl (k_lookS W hM1 (nx_stop T n _) ?_)
    refine Sx.bipush (v := (nI 42)) dX12_term_35 (by decide) ?_
    refine Sx.icmp_neV (t := 44) dX12_term_37 (by decide) (vZ (by omega)) (vN (by decide)) (fun c37 => ?_) (fun c37 => ?_)
    · refine Sx.iconst (v := (nI 0)) dX12_term_44 (by decide) ?_
      refine Sx.istore_n (lv' := [(2, .int (nI 0)), (1, .int (iI v)), (0, .ref 253)]) dX12_term_45 (by decide) rfl ?_
      refine Sx.aload_n dX12_term_46 rfl ?_
      refine Sx.dup dX12_term_47 rfl ?_
      refine Sx.getfV (v := (nI (nx T n c))) dX12_term_48 lkf_X12_132_12 (o_253 W) hM1.at_ ?_
      refine Sx.iconst (v := (nI 1)) dX12_term_51 (by decide) ?_
      refine Sx.iaddN dX12_term_52 ?_
      refine Sx.putfV dX12_term_53 lkp_X12_132_12 (o_253 W) rfl rfl (fun I2 e2 o2 => ?_)
      have hM2 : MR R I2 tx b n ((nx T n c) + 1) T := hM1.mv ((nx T n c) + 1) (by omega) (FA.up (by decide) e2 o2) (by rw [e2, upd_at])
      have hF2 := (hF1).tr (FA.up (by decide) e2 o2)
      have hf2 := Eq.trans (by rw [e2, upd_nj _ _ (by decide)] : I2 253 11 = I1 253 11) hf1
      have hd2 := Eq.trans (by rw [e2, upd_nj _ _ (by decide)] : I2 253 12 = I1 253 12) hd1
      have hk2 := lkN_or T n ((nx T n c) + 1)
      have ht2 := hM2.2.2.2.2.2.2.2.1 ((nx T n c) + 1)
      have hc2 := hM2.2.2.2.2.2.2.1
      have hn2 := hM2.2.2.2.2.2.1
      have hs2 := sgn_or T n ((nx T n c) + 1)
      refine Sx.aload_n dX12_term_56 rfl ?_
      refine Sx.callV0 dX12_term_57 lkv_X12_184 (rcv_12 (o_253 W)) (by omega) (by decide) (Nat.le_of_ble_eq_true rfl) rfl rfl (hAt (v := 0) hM2 hf2 hd2 (by omega) (hE.fa hF2) bd6_0 (by omega) (fun x3 I3 v3 g3 f3 => ?_) (fun x3 I3 g3 hM3 f3 d3 => ?_))
      · skip
        have hF3 := (hF2).tr g3
        have hq3 := pz_q (T := T) (e := e) k 0 dp ((nx T n c) + 1) 0 hM2.2.2.2.2.2.2.1
        refine Sx.i2l dX12_term_60 ?_
        refine Sx.lstore_n (lv' := [(3, .long v3.toInt64), (2, .int (nI 0)), (1, .int (iI v)), (0, .ref 253)]) dX12_term_61 (by decide) rfl ?_
        refine Sx.iload_n dX12_term_62 rfl ?_
        refine Sx.if_eqV (t := 73) dX12_term_63 (by decide) (vN (by decide)) (fun c63 => ?_) (fun c63 => False.elim (by omega))
        refine Sx.lload_n dX12_term_73 rfl ?_
        refine Sx.lconst (v := 0) dX12_term_74 (by decide) ?_
        refine Sx.lcmp dX12_term_75 ?_
        refine Sx.if_neV (t := 83) dX12_term_76 (by decide) (vX (lg_cmp v3.toInt64 0)) (fun c76 => ?_) (fun c76 => ?_)
        · refine Sx.iload_n dX12_term_83 rfl ?_
          refine Sx.i2l dX12_term_84 ?_
          refine Sx.lload_n dX12_term_85 rfl ?_
          refine Sx.ldiv dX12_term_86 (fun q => c76 (by rw [q]; decide)) ?_
          refine Sx.callS1 dX12_term_87 lkc_X12_187  (by omega) (by decide) (Nat.le_of_ble_eq_true rfl) rfl rfl (k_within ?_)
          refine Sx.istore_n (lv' := [(1, .int (wiI ((((iI v)).toInt64 / v3.toInt64)))), (3, .long v3.toInt64), (2, .int (nI 0)), (0, .ref 253)]) dX12_term_90 (by decide) rfl ?_
          refine Sx.goto (t := 5) dX12_term_91 (by decide) ?_
          refine Sx.aload_n dX12_term_5 rfl ?_
          refine Sx.getfV (v := (nI ((pz T n e k 0 dp ((nx T n c) + 1) 0).2.1))) dX12_term_6 lkf_X12_141_12 (o_253 W) f3 ?_
          refine Sx.iconst (v := (iI (-1))) dX12_term_9 (by decide) ?_
          refine Sx.icmp_neV (t := 94) dX12_term_10 (by decide) (vN (by omega)) (vZ (by decide)) (fun c10 => ?_) (fun c10 => False.elim (by omega))
          refine Sx.iload_n dX12_term_94 rfl ?_
          refine Sx.iret dX12_term_95 rfl rfl ?_
          rw [pz_7, if_pos (by omega), pb_f x3] at hR
          subst hR
          exact hno rfl I3 _ hF3 f3
        · refine Sx.lconst (v := 0) dX12_term_79 (by decide) ?_
          refine Sx.goto (t := 87) dX12_term_80 (by decide) ?_
          refine Sx.callS1 dX12_term_87 lkc_X12_187  (by omega) (by decide) (Nat.le_of_ble_eq_true rfl) rfl rfl (k_within ?_)
          refine Sx.istore_n (lv' := [(1, .int (wiI 0)), (3, .long v3.toInt64), (2, .int (nI 0)), (0, .ref 253)]) dX12_term_90 (by decide) rfl ?_
          refine Sx.goto (t := 5) dX12_term_91 (by decide) ?_
          refine Sx.aload_n dX12_term_5 rfl ?_
          refine Sx.getfV (v := (nI ((pz T n e k 0 dp ((nx T n c) + 1) 0).2.1))) dX12_term_6 lkf_X12_141_12 (o_253 W) f3 ?_
          refine Sx.iconst (v := (iI (-1))) dX12_term_9 (by decide) ?_
          refine Sx.icmp_neV (t := 94) dX12_term_10 (by decide) (vN (by omega)) (vZ (by decide)) (fun c10 => ?_) (fun c10 => False.elim (by omega))
          refine Sx.iload_n dX12_term_94 rfl ?_
          refine Sx.iret dX12_term_95 rfl rfl ?_
          rw [pz_7, if_pos (by omega), pb_f x3] at hR
          subst hR
          exact hno rfl I3 _ hF3 f3
      · skip
        have hF3 := (hF2).tr g3
        obtain ⟨hp3, hb3⟩ := pz_bd hE0 k 0 dp ((nx T n c) + 1) 0 bd6_0 x3
        have hbb3 : -1000000 ≤ (pz T n e k 0 dp ((nx T n c) + 1) 0).2.2 ∧ (pz T n e k 0 dp ((nx T n c) + 1) 0).2.2 ≤ 1000000 := hb3
        have hk3 := lkN_or T n ((pz T n e k 0 dp ((nx T n c) + 1) 0).2.1)
        have ht3 := hM3.2.2.2.2.2.2.2.1 ((pz T n e k 0 dp ((nx T n c) + 1) 0).2.1)
        have hc3 := hM3.2.2.2.2.2.2.1
        have hn3 := hM3.2.2.2.2.2.1
        have hs3 := sgn_or T n ((pz T n e k 0 dp ((nx T n c) + 1) 0).2.1)
        refine Sx.i2l dX12_term_60 ?_
        refine Sx.lstore_n (lv' := [(3, .long (((iI ((pz T n e k 0 dp ((nx T n c) + 1) 0).2.2))).toInt64)), (2, .int (nI 0)), (1, .int (iI v)), (0, .ref 253)]) dX12_term_61 (by decide) rfl ?_
        refine Sx.iload_n dX12_term_62 rfl ?_
        refine Sx.if_eqV (t := 73) dX12_term_63 (by decide) (vN (by decide)) (fun c63 => ?_) (fun c63 => False.elim (by omega))
        refine Sx.lload_n dX12_term_73 rfl ?_
        refine Sx.lconst (v := 0) dX12_term_74 (by decide) ?_
        refine Sx.lcmp dX12_term_75 ?_
        refine Sx.if_neV (t := 83) dX12_term_76 (by decide) (vX (lg_cmp ((iI ((pz T n e k 0 dp ((nx T n c) + 1) 0).2.2))).toInt64 0)) (fun c76 => ?_) (fun c76 => ?_)
        · refine Sx.iload_n dX12_term_83 rfl ?_
          refine Sx.i2l dX12_term_84 ?_
          refine Sx.lload_n dX12_term_85 rfl ?_
          refine Sx.ldiv dX12_term_86 (fun q => c76 (by rw [q]; decide)) ?_
          refine Sx.callS1 dX12_term_87 lkc_X12_187  (by omega) (by decide) (Nat.le_of_ble_eq_true rfl) rfl rfl (k_within ?_)
          refine Sx.istore_n (lv' := [(1, .int (wiI ((((iI v)).toInt64 / ((iI ((pz T n e k 0 dp ((nx T n c) + 1) 0).2.2))).toInt64)))), (3, .long (((iI ((pz T n e k 0 dp ((nx T n c) + 1) 0).2.2))).toInt64)), (2, .int (nI 0)), (0, .ref 253)]) dX12_term_90 (by decide) rfl ?_
          refine Sx.goto (t := 5) dX12_term_91 (by decide) ?_
          have hw0 : (pz T n e k 0 dp ((nx T n c) + 1) 0).2.2 ≠ 0 := fun q => c76 (by rw [q]; decide)
          have hs9 : sgn T n (nx T n c) = 47 := by omega
          refine Sx.sub' [(1, .int (iI (jnZ (sgn T n (nx T n c)) v ((pz T n e k 0 dp ((nx T n c) + 1) 0).2.2)))), (0, .ref 253)] (by rw [hs9, ← wi_div hbv hb3 hw0]; rfl) ?_
          rw [pz_7, if_pos (by omega), pb_t x3] at hR
          subst hR
          exact hL7 hM3 f3 d3 hdp (hE.fa hF3) (bdI_bd _) (by omega) (fun x I2 y F f => hno x I2 y (FA.tr hF3 F) f) (fun x I2 F M f d => hyes x I2 (FA.tr hF3 F) M f d)
        · refine Sx.lconst (v := 0) dX12_term_79 (by decide) ?_
          refine Sx.goto (t := 87) dX12_term_80 (by decide) ?_
          refine Sx.callS1 dX12_term_87 lkc_X12_187  (by omega) (by decide) (Nat.le_of_ble_eq_true rfl) rfl rfl (k_within ?_)
          refine Sx.istore_n (lv' := [(1, .int (wiI 0)), (3, .long (((iI ((pz T n e k 0 dp ((nx T n c) + 1) 0).2.2))).toInt64)), (2, .int (nI 0)), (0, .ref 253)]) dX12_term_90 (by decide) rfl ?_
          refine Sx.goto (t := 5) dX12_term_91 (by decide) ?_
          have hw0 : (pz T n e k 0 dp ((nx T n c) + 1) 0).2.2 = 0 := by
            have z1 := sgI_or ((pz T n e k 0 dp ((nx T n c) + 1) 0).2.2) 0
            have z2 : (lg_cmp (iI ((pz T n e k 0 dp ((nx T n c) + 1) 0).2.2)).toInt64 0).toInt = sgI ((pz T n e k 0 dp ((nx T n c) + 1) 0).2.2) 0 := lg0 _ _ (vLi (vZ (by omega)))
            omega
          have hs9 : sgn T n (nx T n c) = 47 := by omega
          refine Sx.sub' [(1, .int (iI (jnZ (sgn T n (nx T n c)) v ((pz T n e k 0 dp ((nx T n c) + 1) 0).2.2)))), (0, .ref 253)] (by rw [hs9, ← wi_div0 hw0]; rfl) ?_
          rw [pz_7, if_pos (by omega), pb_t x3] at hR
          subst hR
          exact hL7 hM3 f3 d3 hdp (hE.fa hF3) (bdI_bd _) (by omega) (fun x I2 y F f => hno x I2 y (FA.tr hF3 F) f) (fun x I2 F M f d => hyes x I2 (FA.tr hF3 F) M f d)
    · refine Sx.iconst (v := (nI 1)) dX12_term_40 (by decide) ?_
      refine Sx.goto (t := 45) dX12_term_41 (by decide) ?_
      refine Sx.istore_n (lv' := [(2, .int (nI 1)), (1, .int (iI v)), (0, .ref 253)]) dX12_term_45 (by decide) rfl ?_
      refine Sx.aload_n dX12_term_46 rfl ?_
      refine Sx.dup dX12_term_47 rfl ?_
      refine Sx.getfV (v := (nI (nx T n c))) dX12_term_48 lkf_X12_132_12 (o_253 W) hM1.at_ ?_
      refine Sx.iconst (v := (nI 1)) dX12_term_51 (by decide) ?_
      refine Sx.iaddN dX12_term_52 ?_
      refine Sx.putfV dX12_term_53 lkp_X12_132_12 (o_253 W) rfl rfl (fun I4 e4 o4 => ?_)
      have hM4 : MR R I4 tx b n ((nx T n c) + 1) T := hM1.mv ((nx T n c) + 1) (by omega) (FA.up (by decide) e4 o4) (by rw [e4, upd_at])
      have hF4 := (hF1).tr (FA.up (by decide) e4 o4)
      have hf4 := Eq.trans (by rw [e4, upd_nj _ _ (by decide)] : I4 253 11 = I1 253 11) hf1
      have hd4 := Eq.trans (by rw [e4, upd_nj _ _ (by decide)] : I4 253 12 = I1 253 12) hd1
      have hk4 := lkN_or T n ((nx T n c) + 1)
      have ht4 := hM4.2.2.2.2.2.2.2.1 ((nx T n c) + 1)
      have hc4 := hM4.2.2.2.2.2.2.1
      have hn4 := hM4.2.2.2.2.2.1
      have hs4 := sgn_or T n ((nx T n c) + 1)
      refine Sx.aload_n dX12_term_56 rfl ?_
      refine Sx.callV0 dX12_term_57 lkv_X12_184 (rcv_12 (o_253 W)) (by omega) (by decide) (Nat.le_of_ble_eq_true rfl) rfl rfl (hAt (v := 0) hM4 hf4 hd4 (by omega) (hE.fa hF4) bd6_0 (by omega) (fun x5 I5 v5 g5 f5 => ?_) (fun x5 I5 g5 hM5 f5 d5 => ?_))
      · skip
        have hF5 := (hF4).tr g5
        have hq5 := pz_q (T := T) (e := e) k 0 dp ((nx T n c) + 1) 0 hM4.2.2.2.2.2.2.1
        refine Sx.i2l dX12_term_60 ?_
        refine Sx.lstore_n (lv' := [(3, .long v5.toInt64), (2, .int (nI 1)), (1, .int (iI v)), (0, .ref 253)]) dX12_term_61 (by decide) rfl ?_
        refine Sx.iload_n dX12_term_62 rfl ?_
        refine Sx.if_eqV (t := 73) dX12_term_63 (by decide) (vN (by decide)) (fun c63 => False.elim (by omega)) (fun c63 => ?_)
        refine Sx.iload_n dX12_term_66 rfl ?_
        refine Sx.i2l dX12_term_67 ?_
        refine Sx.lload_n dX12_term_68 rfl ?_
        refine Sx.lmul dX12_term_69 ?_
        refine Sx.goto (t := 87) dX12_term_70 (by decide) ?_
        refine Sx.callS1 dX12_term_87 lkc_X12_187  (by omega) (by decide) (Nat.le_of_ble_eq_true rfl) rfl rfl (k_within ?_)
        refine Sx.istore_n (lv' := [(1, .int (wiI ((((iI v)).toInt64 * v5.toInt64)))), (3, .long v5.toInt64), (2, .int (nI 1)), (0, .ref 253)]) dX12_term_90 (by decide) rfl ?_
        refine Sx.goto (t := 5) dX12_term_91 (by decide) ?_
        refine Sx.aload_n dX12_term_5 rfl ?_
        refine Sx.getfV (v := (nI ((pz T n e k 0 dp ((nx T n c) + 1) 0).2.1))) dX12_term_6 lkf_X12_141_12 (o_253 W) f5 ?_
        refine Sx.iconst (v := (iI (-1))) dX12_term_9 (by decide) ?_
        refine Sx.icmp_neV (t := 94) dX12_term_10 (by decide) (vN (by omega)) (vZ (by decide)) (fun c10 => ?_) (fun c10 => False.elim (by omega))
        refine Sx.iload_n dX12_term_94 rfl ?_
        refine Sx.iret dX12_term_95 rfl rfl ?_
        rw [pz_7, if_pos (by omega), pb_f x5] at hR
        subst hR
        exact hno rfl I5 _ hF5 f5
      · skip
        have hF5 := (hF4).tr g5
        obtain ⟨hp5, hb5⟩ := pz_bd hE0 k 0 dp ((nx T n c) + 1) 0 bd6_0 x5
        have hbb5 : -1000000 ≤ (pz T n e k 0 dp ((nx T n c) + 1) 0).2.2 ∧ (pz T n e k 0 dp ((nx T n c) + 1) 0).2.2 ≤ 1000000 := hb5
        have hk5 := lkN_or T n ((pz T n e k 0 dp ((nx T n c) + 1) 0).2.1)
        have ht5 := hM5.2.2.2.2.2.2.2.1 ((pz T n e k 0 dp ((nx T n c) + 1) 0).2.1)
        have hc5 := hM5.2.2.2.2.2.2.1
        have hn5 := hM5.2.2.2.2.2.1
        have hs5 := sgn_or T n ((pz T n e k 0 dp ((nx T n c) + 1) 0).2.1)
        refine Sx.i2l dX12_term_60 ?_
        refine Sx.lstore_n (lv' := [(3, .long (((iI ((pz T n e k 0 dp ((nx T n c) + 1) 0).2.2))).toInt64)), (2, .int (nI 1)), (1, .int (iI v)), (0, .ref 253)]) dX12_term_61 (by decide) rfl ?_
        refine Sx.iload_n dX12_term_62 rfl ?_
        refine Sx.if_eqV (t := 73) dX12_term_63 (by decide) (vN (by decide)) (fun c63 => False.elim (by omega)) (fun c63 => ?_)
        refine Sx.iload_n dX12_term_66 rfl ?_
        refine Sx.i2l dX12_term_67 ?_
        refine Sx.lload_n dX12_term_68 rfl ?_
        refine Sx.lmul dX12_term_69 ?_
        refine Sx.goto (t := 87) dX12_term_70 (by decide) ?_
        refine Sx.callS1 dX12_term_87 lkc_X12_187  (by omega) (by decide) (Nat.le_of_ble_eq_true rfl) rfl rfl (k_within ?_)
        refine Sx.istore_n (lv' := [(1, .int (wiI ((((iI v)).toInt64 * ((iI ((pz T n e k 0 dp ((nx T n c) + 1) 0).2.2))).toInt64)))), (3, .long (((iI ((pz T n e k 0 dp ((nx T n c) + 1) 0).2.2))).toInt64)), (2, .int (nI 1)), (0, .ref 253)]) dX12_term_90 (by decide) rfl ?_
        refine Sx.goto (t := 5) dX12_term_91 (by decide) ?_
        have hs9 : sgn T n (nx T n c) = 42 := by omega
        refine Sx.sub' [(1, .int (iI (jnZ (sgn T n (nx T n c)) v ((pz T n e k 0 dp ((nx T n c) + 1) 0).2.2)))), (0, .ref 253)] (by rw [hs9, ← wi_mul hbv hb5]; rfl) ?_
        rw [pz_7, if_pos (by omega), pb_t x5] at hR
        subst hR
        exact hL7 hM5 f5 d5 hdp (hE.fa hF5) (bdI_bd _) (by omega) (fun x I2 y F f => hno x I2 y (FA.tr hF5 F) f) (fun x I2 F M f d => hyes x I2 (FA.tr hF5 F) M f d)
  · refine Sx.aload_n dX12_term_22 rfl ?_
    refine Sx.callV0 dX12_term_23 lkv_X12_151 (rcv_12 (o_253 W)) (by omega) (by decide) (Nat.le_of_ble_eq_true rfl) rfl rfl (k_lookS W hM1 (nx_stop T n _) ?_)
    refine Sx.bipush (v := (nI 47)) dX12_term_26 (by decide) ?_
    refine Sx.icmp_neV (t := 94) dX12_term_28 (by decide) (vZ (by omega)) (vN (by decide)) (fun c28 => ?_) (fun c28 => ?_)
    · refine Sx.iload_n dX12_term_94 rfl ?_
      refine Sx.iret dX12_term_95 rfl rfl ?_
      rw [pz_7, if_neg (by omega)] at hR
      subst hR
      exact hyes rfl I1 hF1 hM1 hf1 hd1
    · refine Sx.aload_n dX12_term_31 rfl ?_
      refine Sx.callV0 dX12_term_32 lkv_X12_151 (rcv_12 (o_253 W)) (by omega) (by decide) (Nat.le_of_ble_eq_true rfl) rfl rfl (k_lookS W hM1 (nx_stop T n _) ?_)
      refine Sx.bipush (v := (nI 42)) dX12_term_35 (by decide) ?_
      refine Sx.icmp_neV (t := 44) dX12_term_37 (by decide) (vZ (by omega)) (vN (by decide)) (fun c37 => ?_) (fun c37 => ?_)
      · refine Sx.iconst (v := (nI 0)) dX12_term_44 (by decide) ?_
        refine Sx.istore_n (lv' := [(2, .int (nI 0)), (1, .int (iI v)), (0, .ref 253)]) dX12_term_45 (by decide) rfl ?_
        refine Sx.aload_n dX12_term_46 rfl ?_
        refine Sx.dup dX12_term_47 rfl ?_
        refine Sx.getfV (v := (nI (nx T n c))) dX12_term_48 lkf_X12_132_12 (o_253 W) hM1.at_ ?_
        refine Sx.iconst (v := (nI 1)) dX12_term_51 (by decide) ?_
        refine Sx.iaddN dX12_term_52 ?_
        refine Sx.putfV dX12_term_53 lkp_X12_132_12 (o_253 W) rfl rfl (fun I6 e6 o6 => ?_)
        have hM6 : MR R I6 tx b n ((nx T n c) + 1) T := hM1.mv ((nx T n c) + 1) (by omega) (FA.up (by decide) e6 o6) (by rw [e6, upd_at])
        have hF6 := (hF1).tr (FA.up (by decide) e6 o6)
        have hf6 := Eq.trans (by rw [e6, upd_nj _ _ (by decide)] : I6 253 11 = I1 253 11) hf1
        have hd6 := Eq.trans (by rw [e6, upd_nj _ _ (by decide)] : I6 253 12 = I1 253 12) hd1
        have hk6 := lkN_or T n ((nx T n c) + 1)
        have ht6 := hM6.2.2.2.2.2.2.2.1 ((nx T n c) + 1)
        have hc6 := hM6.2.2.2.2.2.2.1
        have hn6 := hM6.2.2.2.2.2.1
        have hs6 := sgn_or T n ((nx T n c) + 1)
        refine Sx.aload_n dX12_term_56 rfl ?_
        refine Sx.callV0 dX12_term_57 lkv_X12_184 (rcv_12 (o_253 W)) (by omega) (by decide) (Nat.le_of_ble_eq_true rfl) rfl rfl (hAt (v := 0) hM6 hf6 hd6 (by omega) (hE.fa hF6) bd6_0 (by omega) (fun x7 I7 v7 g7 f7 => ?_) (fun x7 I7 g7 hM7 f7 d7 => ?_))
        · skip
          have hF7 := (hF6).tr g7
          have hq7 := pz_q (T := T) (e := e) k 0 dp ((nx T n c) + 1) 0 hM6.2.2.2.2.2.2.1
          refine Sx.i2l dX12_term_60 ?_
          refine Sx.lstore_n (lv' := [(3, .long v7.toInt64), (2, .int (nI 0)), (1, .int (iI v)), (0, .ref 253)]) dX12_term_61 (by decide) rfl ?_
          refine Sx.iload_n dX12_term_62 rfl ?_
          refine Sx.if_eqV (t := 73) dX12_term_63 (by decide) (vN (by decide)) (fun c63 => ?_) (fun c63 => False.elim (by omega))
          refine Sx.lload_n dX12_term_73 rfl ?_
          refine Sx.lconst (v := 0) dX12_term_74 (by decide) ?_
          refine Sx.lcmp dX12_term_75 ?_
          refine Sx.if_neV (t := 83) dX12_term_76 (by decide) (vX (lg_cmp v7.toInt64 0)) (fun c76 => ?_) (fun c76 => ?_)
          · refine Sx.iload_n dX12_term_83 rfl ?_
            refine Sx.i2l dX12_term_84 ?_
            refine Sx.lload_n dX12_term_85 rfl ?_
            refine Sx.ldiv dX12_term_86 (fun q => c76 (by rw [q]; decide)) ?_
            refine Sx.callS1 dX12_term_87 lkc_X12_187  (by omega) (by decide) (Nat.le_of_ble_eq_true rfl) rfl rfl (k_within ?_)
            refine Sx.istore_n (lv' := [(1, .int (wiI ((((iI v)).toInt64 / v7.toInt64)))), (3, .long v7.toInt64), (2, .int (nI 0)), (0, .ref 253)]) dX12_term_90 (by decide) rfl ?_
            refine Sx.goto (t := 5) dX12_term_91 (by decide) ?_
            refine Sx.aload_n dX12_term_5 rfl ?_
            refine Sx.getfV (v := (nI ((pz T n e k 0 dp ((nx T n c) + 1) 0).2.1))) dX12_term_6 lkf_X12_141_12 (o_253 W) f7 ?_
            refine Sx.iconst (v := (iI (-1))) dX12_term_9 (by decide) ?_
            refine Sx.icmp_neV (t := 94) dX12_term_10 (by decide) (vN (by omega)) (vZ (by decide)) (fun c10 => ?_) (fun c10 => False.elim (by omega))
            refine Sx.iload_n dX12_term_94 rfl ?_
            refine Sx.iret dX12_term_95 rfl rfl ?_
            rw [pz_7, if_pos (by omega), pb_f x7] at hR
            subst hR
            exact hno rfl I7 _ hF7 f7
          · refine Sx.lconst (v := 0) dX12_term_79 (by decide) ?_
            refine Sx.goto (t := 87) dX12_term_80 (by decide) ?_
            refine Sx.callS1 dX12_term_87 lkc_X12_187  (by omega) (by decide) (Nat.le_of_ble_eq_true rfl) rfl rfl (k_within ?_)
            refine Sx.istore_n (lv' := [(1, .int (wiI 0)), (3, .long v7.toInt64), (2, .int (nI 0)), (0, .ref 253)]) dX12_term_90 (by decide) rfl ?_
            refine Sx.goto (t := 5) dX12_term_91 (by decide) ?_
            refine Sx.aload_n dX12_term_5 rfl ?_
            refine Sx.getfV (v := (nI ((pz T n e k 0 dp ((nx T n c) + 1) 0).2.1))) dX12_term_6 lkf_X12_141_12 (o_253 W) f7 ?_
            refine Sx.iconst (v := (iI (-1))) dX12_term_9 (by decide) ?_
            refine Sx.icmp_neV (t := 94) dX12_term_10 (by decide) (vN (by omega)) (vZ (by decide)) (fun c10 => ?_) (fun c10 => False.elim (by omega))
            refine Sx.iload_n dX12_term_94 rfl ?_
            refine Sx.iret dX12_term_95 rfl rfl ?_
            rw [pz_7, if_pos (by omega), pb_f x7] at hR
            subst hR
            exact hno rfl I7 _ hF7 f7
        · skip
          have hF7 := (hF6).tr g7
          obtain ⟨hp7, hb7⟩ := pz_bd hE0 k 0 dp ((nx T n c) + 1) 0 bd6_0 x7
          have hbb7 : -1000000 ≤ (pz T n e k 0 dp ((nx T n c) + 1) 0).2.2 ∧ (pz T n e k 0 dp ((nx T n c) + 1) 0).2.2 ≤ 1000000 := hb7
          have hk7 := lkN_or T n ((pz T n e k 0 dp ((nx T n c) + 1) 0).2.1)
          have ht7 := hM7.2.2.2.2.2.2.2.1 ((pz T n e k 0 dp ((nx T n c) + 1) 0).2.1)
          have hc7 := hM7.2.2.2.2.2.2.1
          have hn7 := hM7.2.2.2.2.2.1
          have hs7 := sgn_or T n ((pz T n e k 0 dp ((nx T n c) + 1) 0).2.1)
          refine Sx.i2l dX12_term_60 ?_
          refine Sx.lstore_n (lv' := [(3, .long (((iI ((pz T n e k 0 dp ((nx T n c) + 1) 0).2.2))).toInt64)), (2, .int (nI 0)), (1, .int (iI v)), (0, .ref 253)]) dX12_term_61 (by decide) rfl ?_
          refine Sx.iload_n dX12_term_62 rfl ?_
          refine Sx.if_eqV (t := 73) dX12_term_63 (by decide) (vN (by decide)) (fun c63 => ?_) (fun c63 => False.elim (by omega))
          refine Sx.lload_n dX12_term_73 rfl ?_
          refine Sx.lconst (v := 0) dX12_term_74 (by decide) ?_
          refine Sx.lcmp dX12_term_75 ?_
          refine Sx.if_neV (t := 83) dX12_term_76 (by decide) (vX (lg_cmp ((iI ((pz T n e k 0 dp ((nx T n c) + 1) 0).2.2))).toInt64 0)) (fun c76 => ?_) (fun c76 => ?_)
          · refine Sx.iload_n dX12_term_83 rfl ?_
            refine Sx.i2l dX12_term_84 ?_
            refine Sx.lload_n dX12_term_85 rfl ?_
            refine Sx.ldiv dX12_term_86 (fun q => c76 (by rw [q]; decide)) ?_
            refine Sx.callS1 dX12_term_87 lkc_X12_187  (by omega) (by decide) (Nat.le_of_ble_eq_true rfl) rfl rfl (k_within ?_)
            refine Sx.istore_n (lv' := [(1, .int (wiI ((((iI v)).toInt64 / ((iI ((pz T n e k 0 dp ((nx T n c) + 1) 0).2.2))).toInt64)))), (3, .long (((iI ((pz T n e k 0 dp ((nx T n c) + 1) 0).2.2))).toInt64)), (2, .int (nI 0)), (0, .ref 253)]) dX12_term_90 (by decide) rfl ?_
            refine Sx.goto (t := 5) dX12_term_91 (by decide) ?_
            have hw0 : (pz T n e k 0 dp ((nx T n c) + 1) 0).2.2 ≠ 0 := fun q => c76 (by rw [q]; decide)
            have hs9 : sgn T n (nx T n c) = 47 := by omega
            refine Sx.sub' [(1, .int (iI (jnZ (sgn T n (nx T n c)) v ((pz T n e k 0 dp ((nx T n c) + 1) 0).2.2)))), (0, .ref 253)] (by rw [hs9, ← wi_div hbv hb7 hw0]; rfl) ?_
            rw [pz_7, if_pos (by omega), pb_t x7] at hR
            subst hR
            exact hL7 hM7 f7 d7 hdp (hE.fa hF7) (bdI_bd _) (by omega) (fun x I2 y F f => hno x I2 y (FA.tr hF7 F) f) (fun x I2 F M f d => hyes x I2 (FA.tr hF7 F) M f d)
          · refine Sx.lconst (v := 0) dX12_term_79 (by decide) ?_
            refine Sx.goto (t := 87) dX12_term_80 (by decide) ?_
            refine Sx.callS1 dX12_term_87 lkc_X12_187  (by omega) (by decide) (Nat.le_of_ble_eq_true rfl) rfl rfl (k_within ?_)
            refine Sx.istore_n (lv' := [(1, .int (wiI 0)), (3, .long (((iI ((pz T n e k 0 dp ((nx T n c) + 1) 0).2.2))).toInt64)), (2, .int (nI 0)), (0, .ref 253)]) dX12_term_90 (by decide) rfl ?_
            refine Sx.goto (t := 5) dX12_term_91 (by decide) ?_
            have hw0 : (pz T n e k 0 dp ((nx T n c) + 1) 0).2.2 = 0 := by
              have z1 := sgI_or ((pz T n e k 0 dp ((nx T n c) + 1) 0).2.2) 0
              have z2 : (lg_cmp (iI ((pz T n e k 0 dp ((nx T n c) + 1) 0).2.2)).toInt64 0).toInt = sgI ((pz T n e k 0 dp ((nx T n c) + 1) 0).2.2) 0 := lg0 _ _ (vLi (vZ (by omega)))
              omega
            have hs9 : sgn T n (nx T n c) = 47 := by omega
            refine Sx.sub' [(1, .int (iI (jnZ (sgn T n (nx T n c)) v ((pz T n e k 0 dp ((nx T n c) + 1) 0).2.2)))), (0, .ref 253)] (by rw [hs9, ← wi_div0 hw0]; rfl) ?_
            rw [pz_7, if_pos (by omega), pb_t x7] at hR
            subst hR
            exact hL7 hM7 f7 d7 hdp (hE.fa hF7) (bdI_bd _) (by omega) (fun x I2 y F f => hno x I2 y (FA.tr hF7 F) f) (fun x I2 F M f d => hyes x I2 (FA.tr hF7 F) M f d)
      · refine Sx.iconst (v := (nI 1)) dX12_term_40 (by decide) ?_
        refine Sx.goto (t := 45) dX12_term_41 (by decide) ?_
        refine Sx.istore_n (lv' := [(2, .int (nI 1)), (1, .int (iI v)), (0, .ref 253)]) dX12_term_45 (by decide) rfl ?_
        refine Sx.aload_n dX12_term_46 rfl ?_
        refine Sx.dup dX12_term_47 rfl ?_
        refine Sx.getfV (v := (nI (nx T n c))) dX12_term_48 lkf_X12_132_12 (o_253 W) hM1.at_ ?_
        refine Sx.iconst (v := (nI 1)) dX12_term_51 (by decide) ?_
        refine Sx.iaddN dX12_term_52 ?_
        refine Sx.putfV dX12_term_53 lkp_X12_132_12 (o_253 W) rfl rfl (fun I8 e8 o8 => ?_)
        have hM8 : MR R I8 tx b n ((nx T n c) + 1) T := hM1.mv ((nx T n c) + 1) (by omega) (FA.up (by decide) e8 o8) (by rw [e8, upd_at])
        have hF8 := (hF1).tr (FA.up (by decide) e8 o8)
        have hf8 := Eq.trans (by rw [e8, upd_nj _ _ (by decide)] : I8 253 11 = I1 253 11) hf1
        have hd8 := Eq.trans (by rw [e8, upd_nj _ _ (by decide)] : I8 253 12 = I1 253 12) hd1
        have hk8 := lkN_or T n ((nx T n c) + 1)
        have ht8 := hM8.2.2.2.2.2.2.2.1 ((nx T n c) + 1)
        have hc8 := hM8.2.2.2.2.2.2.1
        have hn8 := hM8.2.2.2.2.2.1
        have hs8 := sgn_or T n ((nx T n c) + 1)
        refine Sx.aload_n dX12_term_56 rfl ?_
        refine Sx.callV0 dX12_term_57 lkv_X12_184 (rcv_12 (o_253 W)) (by omega) (by decide) (Nat.le_of_ble_eq_true rfl) rfl rfl (hAt (v := 0) hM8 hf8 hd8 (by omega) (hE.fa hF8) bd6_0 (by omega) (fun x9 I9 v9 g9 f9 => ?_) (fun x9 I9 g9 hM9 f9 d9 => ?_))
        · skip
          have hF9 := (hF8).tr g9
          have hq9 := pz_q (T := T) (e := e) k 0 dp ((nx T n c) + 1) 0 hM8.2.2.2.2.2.2.1
          refine Sx.i2l dX12_term_60 ?_
          refine Sx.lstore_n (lv' := [(3, .long v9.toInt64), (2, .int (nI 1)), (1, .int (iI v)), (0, .ref 253)]) dX12_term_61 (by decide) rfl ?_
          refine Sx.iload_n dX12_term_62 rfl ?_
          refine Sx.if_eqV (t := 73) dX12_term_63 (by decide) (vN (by decide)) (fun c63 => False.elim (by omega)) (fun c63 => ?_)
          refine Sx.iload_n dX12_term_66 rfl ?_
          refine Sx.i2l dX12_term_67 ?_
          refine Sx.lload_n dX12_term_68 rfl ?_
          refine Sx.lmul dX12_term_69 ?_
          refine Sx.goto (t := 87) dX12_term_70 (by decide) ?_
          refine Sx.callS1 dX12_term_87 lkc_X12_187  (by omega) (by decide) (Nat.le_of_ble_eq_true rfl) rfl rfl (k_within ?_)
          refine Sx.istore_n (lv' := [(1, .int (wiI ((((iI v)).toInt64 * v9.toInt64)))), (3, .long v9.toInt64), (2, .int (nI 1)), (0, .ref 253)]) dX12_term_90 (by decide) rfl ?_
          refine Sx.goto (t := 5) dX12_term_91 (by decide) ?_
          refine Sx.aload_n dX12_term_5 rfl ?_
          refine Sx.getfV (v := (nI ((pz T n e k 0 dp ((nx T n c) + 1) 0).2.1))) dX12_term_6 lkf_X12_141_12 (o_253 W) f9 ?_
          refine Sx.iconst (v := (iI (-1))) dX12_term_9 (by decide) ?_
          refine Sx.icmp_neV (t := 94) dX12_term_10 (by decide) (vN (by omega)) (vZ (by decide)) (fun c10 => ?_) (fun c10 => False.elim (by omega))
          refine Sx.iload_n dX12_term_94 rfl ?_
          refine Sx.iret dX12_term_95 rfl rfl ?_
          rw [pz_7, if_pos (by omega), pb_f x9] at hR
          subst hR
          exact hno rfl I9 _ hF9 f9
        · skip
          have hF9 := (hF8).tr g9
          obtain ⟨hp9, hb9⟩ := pz_bd hE0 k 0 dp ((nx T n c) + 1) 0 bd6_0 x9
          have hbb9 : -1000000 ≤ (pz T n e k 0 dp ((nx T n c) + 1) 0).2.2 ∧ (pz T n e k 0 dp ((nx T n c) + 1) 0).2.2 ≤ 1000000 := hb9
          have hk9 := lkN_or T n ((pz T n e k 0 dp ((nx T n c) + 1) 0).2.1)
          have ht9 := hM9.2.2.2.2.2.2.2.1 ((pz T n e k 0 dp ((nx T n c) + 1) 0).2.1)
          have hc9 := hM9.2.2.2.2.2.2.1
          have hn9 := hM9.2.2.2.2.2.1
          have hs9 := sgn_or T n ((pz T n e k 0 dp ((nx T n c) + 1) 0).2.1)
          refine Sx.i2l dX12_term_60 ?_
          refine Sx.lstore_n (lv' := [(3, .long (((iI ((pz T n e k 0 dp ((nx T n c) + 1) 0).2.2))).toInt64)), (2, .int (nI 1)), (1, .int (iI v)), (0, .ref 253)]) dX12_term_61 (by decide) rfl ?_
          refine Sx.iload_n dX12_term_62 rfl ?_
          refine Sx.if_eqV (t := 73) dX12_term_63 (by decide) (vN (by decide)) (fun c63 => False.elim (by omega)) (fun c63 => ?_)
          refine Sx.iload_n dX12_term_66 rfl ?_
          refine Sx.i2l dX12_term_67 ?_
          refine Sx.lload_n dX12_term_68 rfl ?_
          refine Sx.lmul dX12_term_69 ?_
          refine Sx.goto (t := 87) dX12_term_70 (by decide) ?_
          refine Sx.callS1 dX12_term_87 lkc_X12_187  (by omega) (by decide) (Nat.le_of_ble_eq_true rfl) rfl rfl (k_within ?_)
          refine Sx.istore_n (lv' := [(1, .int (wiI ((((iI v)).toInt64 * ((iI ((pz T n e k 0 dp ((nx T n c) + 1) 0).2.2))).toInt64)))), (3, .long (((iI ((pz T n e k 0 dp ((nx T n c) + 1) 0).2.2))).toInt64)), (2, .int (nI 1)), (0, .ref 253)]) dX12_term_90 (by decide) rfl ?_
          refine Sx.goto (t := 5) dX12_term_91 (by decide) ?_
          have hs9 : sgn T n (nx T n c) = 42 := by omega
          refine Sx.sub' [(1, .int (iI (jnZ (sgn T n (nx T n c)) v ((pz T n e k 0 dp ((nx T n c) + 1) 0).2.2)))), (0, .ref 253)] (by rw [hs9, ← wi_mul hbv hb9]; rfl) ?_
          rw [pz_7, if_pos (by omega), pb_t x9] at hR
          subst hR
          exact hL7 hM9 f9 d9 hdp (hE.fa hF9) (bdI_bd _) (by omega) (fun x I2 y F f => hno x I2 y (FA.tr hF9 F) f) (fun x I2 F M f d => hyes x I2 (FA.tr hF9 F) M f d)
set_option maxRecDepth 20000 in
set_option maxHeartbeats 1000000 in
theorem s_term {G : Gt} {l : Launch} {Z : Zt} {R : Rt} {L : Lt} {tx b n : Nat} {T : Nat → Nat} {e : Nat → Int} (W : WF Z R) (hE0 : ∀ s, bd6 (e s)) (k : Nat) (ih : PzAll G l Z R L tx b n T e k) : PzI G l Z R L tx b n T e mX12_term 25 2 1 (fun _ => [.ref 253]) (k + 1) := by
  obtain ⟨hAt, hTe, hSu, hCo, hUn, hPa, hCn, hL7, hL8, hL9, hL10, hK, hC1, hP1, hD1⟩ := ih
  intro I c dp v post hM hf hd hdp hE hbv hk hno hyes
  have hbv2 : -1000000 ≤ v ∧ v ≤ 1000000 := hbv
  have hn0 := hM.2.2.2.2.2.1
  have hc0 := hM.2.2.2.2.2.2.1
  have hRt := hM.1
  obtain ⟨N, hA, hbN, hN⟩ := hM.ar W
  obtain ⟨r, hR⟩ : ∃ r, pz T n e (k + 1) 1 dp c v = r := ⟨_, rfl⟩
  rw [hR] at hno hyes
  refine Cx.of (by decide +kernel) (by exact Nat.le_of_ble_eq_true rfl) ?_
  refine Sx.aload_n dX12_term_0 rfl ?_
  refine Sx.callV0 dX12_term_1 lkv_X12_184 (rcv_12 (o_253 W)) (by omega) (by decide) (Nat.le_of_ble_eq_true rfl) rfl rfl (hAt (v := 0) hM hf hd (by omega) (hE.fa (FA.rf I)) bd6_0 (by omega) (fun x1 I1 v1 g1 f1 => ?_) (fun x1 I1 g1 hM1 f1 d1 => ?_))
  · skip
    have hF1 := (FA.rf I).tr g1
    have hq1 := pz_q (T := T) (e := e) k 0 dp c 0 hM.2.2.2.2.2.2.1
    refine Sx.istore_n (lv' := [(1, .int v1), (0, .ref 253)]) dX12_term_4 (by decide) rfl ?_
    refine Sx.aload_n dX12_term_5 rfl ?_
    refine Sx.getfV (v := (nI ((pz T n e k 0 dp c 0).2.1))) dX12_term_6 lkf_X12_141_12 (o_253 W) f1 ?_
    refine Sx.iconst (v := (iI (-1))) dX12_term_9 (by decide) ?_
    refine Sx.icmp_neV (t := 94) dX12_term_10 (by decide) (vN (by omega)) (vZ (by decide)) (fun c10 => ?_) (fun c10 => False.elim (by omega))
    refine Sx.iload_n dX12_term_94 rfl ?_
    refine Sx.iret dX12_term_95 rfl rfl ?_
    rw [pz_1, pb_f x1] at hR
    subst hR
    exact hno rfl I1 _ hF1 f1
  · skip
    have hF1 := (FA.rf I).tr g1
    obtain ⟨hp1, hb1⟩ := pz_bd hE0 k 0 dp c 0 bd6_0 x1
    have hbb1 : -1000000 ≤ (pz T n e k 0 dp c 0).2.2 ∧ (pz T n e k 0 dp c 0).2.2 ≤ 1000000 := hb1
    have hk1 := lkN_or T n ((pz T n e k 0 dp c 0).2.1)
    have ht1 := hM1.2.2.2.2.2.2.2.1 ((pz T n e k 0 dp c 0).2.1)
    have hc1 := hM1.2.2.2.2.2.2.1
    have hn1 := hM1.2.2.2.2.2.1
    have hs1 := sgn_or T n ((pz T n e k 0 dp c 0).2.1)
    refine Sx.istore_n (lv' := [(1, .int (iI ((pz T n e k 0 dp c 0).2.2))), (0, .ref 253)]) dX12_term_4 (by decide) rfl ?_
    refine Sx.sub' [(1, .int (iI (pz T n e k 0 dp c 0).2.2)), (0, .ref 253)] rfl ?_
    rw [pz_1, pb_t x1] at hR
    subst hR
    exact hL7 hM1 f1 d1 hdp (hE.fa hF1) hb1 (by omega) (fun x I2 y F f => hno x I2 y (FA.tr hF1 F) f) (fun x I2 F M f d => hyes x I2 (FA.tr hF1 F) M f d)
set_option maxRecDepth 20000 in
set_option maxHeartbeats 1000000 in
theorem s_l8 {G : Gt} {l : Launch} {Z : Zt} {R : Rt} {L : Lt} {tx b n : Nat} {T : Nat → Nat} {e : Nat → Int} (W : WF Z R) (hE0 : ∀ s, bd6 (e s)) (k : Nat) (ih : PzAll G l Z R L tx b n T e k) : PzIL G l Z R L tx b n T e mX12_sum 26 1 8 5 (fun v => [(1, .int (iI v)), (0, .ref 253)]) (k + 1) := by
  obtain ⟨hAt, hTe, hSu, hCo, hUn, hPa, hCn, hL7, hL8, hL9, hL10, hK, hC1, hP1, hD1⟩ := ih
  intro I c dp v post hM hf hd hdp hE hbv hk hno hyes
  have hbv2 : -1000000 ≤ v ∧ v ≤ 1000000 := hbv
  have hn0 := hM.2.2.2.2.2.1
  have hc0 := hM.2.2.2.2.2.2.1
  have hRt := hM.1
  obtain ⟨N, hA, hbN, hN⟩ := hM.ar W
  obtain ⟨r, hR⟩ : ∃ r, pz T n e (k + 1) 8 dp c v = r := ⟨_, rfl⟩
  rw [hR] at hno hyes
  refine Sx.aload_n dX12_sum_5 rfl ?_
  refine Sx.getfV (v := (iI (-1))) dX12_sum_6 lkf_X12_141_12 (o_253 W) hf ?_
  refine Sx.iconst (v := (iI (-1))) dX12_sum_9 (by decide) ?_
  refine Sx.icmp_neV (t := 84) dX12_sum_10 (by decide) (vZ (by decide)) (vZ (by decide)) (fun c10 => False.elim (by omega)) (fun c10 => ?_)
  refine Sx.aload_n dX12_sum_13 rfl ?_
  refine Sx.callV0 dX12_sum_14 lkv_X12_151 (rcv_12 (o_253 W)) (by omega) (by decide) (Nat.le_of_ble_eq_true rfl) rfl rfl (k_look W hM (fun I1 hM1 g1 f1 d1 => ?_))
  have hF1 := (FA.rf I).tr g1
  have hf1 := f1.trans hf
  have hd1 := d1.trans hd
  have hx1 := nx_b T n c
  have hk1 := lkN_or T n (nx T n c)
  have ht1 := hM1.2.2.2.2.2.2.2.1 (nx T n c)
  have hc1 := hM1.2.2.2.2.2.2.1
  have hn1 := hM1.2.2.2.2.2.1
  have hs1 := sgn_or T n (nx T n c)
  refine Sx.bipush (v := (nI 43)) dX12_sum_17 (by decide) ?_
  refine Sx.icmp_eqV (t := 31) dX12_sum_19 (by decide) (vZ (by omega)) (vN (by decide)) (fun c19 => ?_) (fun c19 => ?_)
  · refine Sx.aload_n dX12_sum_31 rfl ?_
    refine Sx.callV0 dX12_sum_32 lkv_X12_151 (rcv_12 (o_253 W)) (by omega) (by decide) (Nat.le_of_ble_eq_true rfl) rfl rfl (k_lookS W hM1 (nx_stop T n _) ?_)
    refine Sx.bipush (v := (nI 43)) dX12_sum_35 (by decide) ?_
    refine Sx.icmp_neV (t := 44) dX12_sum_37 (by decide) (vZ (by omega)) (vN (by decide)) (fun c37 => ?_) (fun c37 => ?_)
    · refine Sx.iconst (v := (nI 0)) dX12_sum_44 (by decide) ?_
      refine Sx.istore_n (lv' := [(2, .int (nI 0)), (1, .int (iI v)), (0, .ref 253)]) dX12_sum_45 (by decide) rfl ?_
      refine Sx.aload_n dX12_sum_46 rfl ?_
      refine Sx.dup dX12_sum_47 rfl ?_
      refine Sx.getfV (v := (nI (nx T n c))) dX12_sum_48 lkf_X12_132_12 (o_253 W) hM1.at_ ?_
      refine Sx.iconst (v := (nI 1)) dX12_sum_51 (by decide) ?_
      refine Sx.iaddN dX12_sum_52 ?_
      refine Sx.putfV dX12_sum_53 lkp_X12_132_12 (o_253 W) rfl rfl (fun I2 e2 o2 => ?_)
      have hM2 : MR R I2 tx b n ((nx T n c) + 1) T := hM1.mv ((nx T n c) + 1) (by omega) (FA.up (by decide) e2 o2) (by rw [e2, upd_at])
      have hF2 := (hF1).tr (FA.up (by decide) e2 o2)
      have hf2 := Eq.trans (by rw [e2, upd_nj _ _ (by decide)] : I2 253 11 = I1 253 11) hf1
      have hd2 := Eq.trans (by rw [e2, upd_nj _ _ (by decide)] : I2 253 12 = I1 253 12) hd1
      have hk2 := lkN_or T n ((nx T n c) + 1)
      have ht2 := hM2.2.2.2.2.2.2.2.1 ((nx T n c) + 1)
      have hc2 := hM2.2.2.2.2.2.2.1
      have hn2 := hM2.2.2.2.2.2.1
      have hs2 := sgn_or T n ((nx T n c) + 1)
      refine Sx.aload_n dX12_sum_56 rfl ?_
      refine Sx.callV0 dX12_sum_57 lkv_X12_191 (rcv_12 (o_253 W)) (by omega) (by decide) (Nat.le_of_ble_eq_true rfl) rfl rfl (hTe (v := 0) hM2 hf2 hd2 (by omega) (hE.fa hF2) bd6_0 (by omega) (fun x3 I3 v3 g3 f3 => ?_) (fun x3 I3 g3 hM3 f3 d3 => ?_))
      · skip
        have hF3 := (hF2).tr g3
        have hq3 := pz_q (T := T) (e := e) k 1 dp ((nx T n c) + 1) 0 hM2.2.2.2.2.2.2.1
        refine Sx.i2l dX12_sum_60 ?_
        refine Sx.lstore_n (lv' := [(3, .long v3.toInt64), (2, .int (nI 0)), (1, .int (iI v)), (0, .ref 253)]) dX12_sum_61 (by decide) rfl ?_
        refine Sx.iload_n dX12_sum_62 rfl ?_
        refine Sx.if_eqV (t := 73) dX12_sum_63 (by decide) (vN (by decide)) (fun c63 => ?_) (fun c63 => False.elim (by omega))
        refine Sx.iload_n dX12_sum_73 rfl ?_
        refine Sx.i2l dX12_sum_74 ?_
        refine Sx.lload_n dX12_sum_75 rfl ?_
        refine Sx.lsub dX12_sum_76 ?_
        refine Sx.callS1 dX12_sum_77 lkc_X12_187  (by omega) (by decide) (Nat.le_of_ble_eq_true rfl) rfl rfl (k_within ?_)
        refine Sx.istore_n (lv' := [(1, .int (wiI ((((iI v)).toInt64 - v3.toInt64)))), (3, .long v3.toInt64), (2, .int (nI 0)), (0, .ref 253)]) dX12_sum_80 (by decide) rfl ?_
        refine Sx.goto (t := 5) dX12_sum_81 (by decide) ?_
        refine Sx.aload_n dX12_sum_5 rfl ?_
        refine Sx.getfV (v := (nI ((pz T n e k 1 dp ((nx T n c) + 1) 0).2.1))) dX12_sum_6 lkf_X12_141_12 (o_253 W) f3 ?_
        refine Sx.iconst (v := (iI (-1))) dX12_sum_9 (by decide) ?_
        refine Sx.icmp_neV (t := 84) dX12_sum_10 (by decide) (vN (by omega)) (vZ (by decide)) (fun c10 => ?_) (fun c10 => False.elim (by omega))
        refine Sx.iload_n dX12_sum_84 rfl ?_
        refine Sx.iret dX12_sum_85 rfl rfl ?_
        rw [pz_8, if_pos (by omega), pb_f x3] at hR
        subst hR
        exact hno rfl I3 _ hF3 f3
      · skip
        have hF3 := (hF2).tr g3
        obtain ⟨hp3, hb3⟩ := pz_bd hE0 k 1 dp ((nx T n c) + 1) 0 bd6_0 x3
        have hbb3 : -1000000 ≤ (pz T n e k 1 dp ((nx T n c) + 1) 0).2.2 ∧ (pz T n e k 1 dp ((nx T n c) + 1) 0).2.2 ≤ 1000000 := hb3
        have hk3 := lkN_or T n ((pz T n e k 1 dp ((nx T n c) + 1) 0).2.1)
        have ht3 := hM3.2.2.2.2.2.2.2.1 ((pz T n e k 1 dp ((nx T n c) + 1) 0).2.1)
        have hc3 := hM3.2.2.2.2.2.2.1
        have hn3 := hM3.2.2.2.2.2.1
        have hs3 := sgn_or T n ((pz T n e k 1 dp ((nx T n c) + 1) 0).2.1)
        refine Sx.i2l dX12_sum_60 ?_
        refine Sx.lstore_n (lv' := [(3, .long (((iI ((pz T n e k 1 dp ((nx T n c) + 1) 0).2.2))).toInt64)), (2, .int (nI 0)), (1, .int (iI v)), (0, .ref 253)]) dX12_sum_61 (by decide) rfl ?_
        refine Sx.iload_n dX12_sum_62 rfl ?_
        refine Sx.if_eqV (t := 73) dX12_sum_63 (by decide) (vN (by decide)) (fun c63 => ?_) (fun c63 => False.elim (by omega))
        refine Sx.iload_n dX12_sum_73 rfl ?_
        refine Sx.i2l dX12_sum_74 ?_
        refine Sx.lload_n dX12_sum_75 rfl ?_
        refine Sx.lsub dX12_sum_76 ?_
        refine Sx.callS1 dX12_sum_77 lkc_X12_187  (by omega) (by decide) (Nat.le_of_ble_eq_true rfl) rfl rfl (k_within ?_)
        refine Sx.istore_n (lv' := [(1, .int (wiI ((((iI v)).toInt64 - ((iI ((pz T n e k 1 dp ((nx T n c) + 1) 0).2.2))).toInt64)))), (3, .long (((iI ((pz T n e k 1 dp ((nx T n c) + 1) 0).2.2))).toInt64)), (2, .int (nI 0)), (0, .ref 253)]) dX12_sum_80 (by decide) rfl ?_
        refine Sx.goto (t := 5) dX12_sum_81 (by decide) ?_
        have hs9 : sgn T n (nx T n c) = 45 := by omega
        refine Sx.sub' [(1, .int (iI (jnZ (sgn T n (nx T n c)) v ((pz T n e k 1 dp ((nx T n c) + 1) 0).2.2)))), (0, .ref 253)] (by rw [hs9, ← wi_sub hbv hb3]; rfl) ?_
        rw [pz_8, if_pos (by omega), pb_t x3] at hR
        subst hR
        exact hL8 hM3 f3 d3 hdp (hE.fa hF3) (bdI_bd _) (by omega) (fun x I2 y F f => hno x I2 y (FA.tr hF3 F) f) (fun x I2 F M f d => hyes x I2 (FA.tr hF3 F) M f d)
    · refine Sx.iconst (v := (nI 1)) dX12_sum_40 (by decide) ?_
      refine Sx.goto (t := 45) dX12_sum_41 (by decide) ?_
      refine Sx.istore_n (lv' := [(2, .int (nI 1)), (1, .int (iI v)), (0, .ref 253)]) dX12_sum_45 (by decide) rfl ?_
      refine Sx.aload_n dX12_sum_46 rfl ?_
      refine Sx.dup dX12_sum_47 rfl ?_
      refine Sx.getfV (v := (nI (nx T n c))) dX12_sum_48 lkf_X12_132_12 (o_253 W) hM1.at_ ?_
      refine Sx.iconst (v := (nI 1)) dX12_sum_51 (by decide) ?_
      refine Sx.iaddN dX12_sum_52 ?_
      refine Sx.putfV dX12_sum_53 lkp_X12_132_12 (o_253 W) rfl rfl (fun I4 e4 o4 => ?_)
      have hM4 : MR R I4 tx b n ((nx T n c) + 1) T := hM1.mv ((nx T n c) + 1) (by omega) (FA.up (by decide) e4 o4) (by rw [e4, upd_at])
      have hF4 := (hF1).tr (FA.up (by decide) e4 o4)
      have hf4 := Eq.trans (by rw [e4, upd_nj _ _ (by decide)] : I4 253 11 = I1 253 11) hf1
      have hd4 := Eq.trans (by rw [e4, upd_nj _ _ (by decide)] : I4 253 12 = I1 253 12) hd1
      have hk4 := lkN_or T n ((nx T n c) + 1)
      have ht4 := hM4.2.2.2.2.2.2.2.1 ((nx T n c) + 1)
      have hc4 := hM4.2.2.2.2.2.2.1
      have hn4 := hM4.2.2.2.2.2.1
      have hs4 := sgn_or T n ((nx T n c) + 1)
      refine Sx.aload_n dX12_sum_56 rfl ?_
      refine Sx.callV0 dX12_sum_57 lkv_X12_191 (rcv_12 (o_253 W)) (by omega) (by decide) (Nat.le_of_ble_eq_true rfl) rfl rfl (hTe (v := 0) hM4 hf4 hd4 (by omega) (hE.fa hF4) bd6_0 (by omega) (fun x5 I5 v5 g5 f5 => ?_) (fun x5 I5 g5 hM5 f5 d5 => ?_))
      · skip
        have hF5 := (hF4).tr g5
        have hq5 := pz_q (T := T) (e := e) k 1 dp ((nx T n c) + 1) 0 hM4.2.2.2.2.2.2.1
        refine Sx.i2l dX12_sum_60 ?_
        refine Sx.lstore_n (lv' := [(3, .long v5.toInt64), (2, .int (nI 1)), (1, .int (iI v)), (0, .ref 253)]) dX12_sum_61 (by decide) rfl ?_
        refine Sx.iload_n dX12_sum_62 rfl ?_
        refine Sx.if_eqV (t := 73) dX12_sum_63 (by decide) (vN (by decide)) (fun c63 => False.elim (by omega)) (fun c63 => ?_)
        refine Sx.iload_n dX12_sum_66 rfl ?_
        refine Sx.i2l dX12_sum_67 ?_
        refine Sx.lload_n dX12_sum_68 rfl ?_
        refine Sx.ladd dX12_sum_69 ?_
        refine Sx.goto (t := 77) dX12_sum_70 (by decide) ?_
        refine Sx.callS1 dX12_sum_77 lkc_X12_187  (by omega) (by decide) (Nat.le_of_ble_eq_true rfl) rfl rfl (k_within ?_)
        refine Sx.istore_n (lv' := [(1, .int (wiI ((((iI v)).toInt64 + v5.toInt64)))), (3, .long v5.toInt64), (2, .int (nI 1)), (0, .ref 253)]) dX12_sum_80 (by decide) rfl ?_
        refine Sx.goto (t := 5) dX12_sum_81 (by decide) ?_
        refine Sx.aload_n dX12_sum_5 rfl ?_
        refine Sx.getfV (v := (nI ((pz T n e k 1 dp ((nx T n c) + 1) 0).2.1))) dX12_sum_6 lkf_X12_141_12 (o_253 W) f5 ?_
        refine Sx.iconst (v := (iI (-1))) dX12_sum_9 (by decide) ?_
        refine Sx.icmp_neV (t := 84) dX12_sum_10 (by decide) (vN (by omega)) (vZ (by decide)) (fun c10 => ?_) (fun c10 => False.elim (by omega))
        refine Sx.iload_n dX12_sum_84 rfl ?_
        refine Sx.iret dX12_sum_85 rfl rfl ?_
        rw [pz_8, if_pos (by omega), pb_f x5] at hR
        subst hR
        exact hno rfl I5 _ hF5 f5
      · skip
        have hF5 := (hF4).tr g5
        obtain ⟨hp5, hb5⟩ := pz_bd hE0 k 1 dp ((nx T n c) + 1) 0 bd6_0 x5
        have hbb5 : -1000000 ≤ (pz T n e k 1 dp ((nx T n c) + 1) 0).2.2 ∧ (pz T n e k 1 dp ((nx T n c) + 1) 0).2.2 ≤ 1000000 := hb5
        have hk5 := lkN_or T n ((pz T n e k 1 dp ((nx T n c) + 1) 0).2.1)
        have ht5 := hM5.2.2.2.2.2.2.2.1 ((pz T n e k 1 dp ((nx T n c) + 1) 0).2.1)
        have hc5 := hM5.2.2.2.2.2.2.1
        have hn5 := hM5.2.2.2.2.2.1
        have hs5 := sgn_or T n ((pz T n e k 1 dp ((nx T n c) + 1) 0).2.1)
        refine Sx.i2l dX12_sum_60 ?_
        refine Sx.lstore_n (lv' := [(3, .long (((iI ((pz T n e k 1 dp ((nx T n c) + 1) 0).2.2))).toInt64)), (2, .int (nI 1)), (1, .int (iI v)), (0, .ref 253)]) dX12_sum_61 (by decide) rfl ?_
        refine Sx.iload_n dX12_sum_62 rfl ?_
        refine Sx.if_eqV (t := 73) dX12_sum_63 (by decide) (vN (by decide)) (fun c63 => False.elim (by omega)) (fun c63 => ?_)
        refine Sx.iload_n dX12_sum_66 rfl ?_
        refine Sx.i2l dX12_sum_67 ?_
        refine Sx.lload_n dX12_sum_68 rfl ?_
        refine Sx.ladd dX12_sum_69 ?_
        refine Sx.goto (t := 77) dX12_sum_70 (by decide) ?_
        refine Sx.callS1 dX12_sum_77 lkc_X12_187  (by omega) (by decide) (Nat.le_of_ble_eq_true rfl) rfl rfl (k_within ?_)
        refine Sx.istore_n (lv' := [(1, .int (wiI ((((iI v)).toInt64 + ((iI ((pz T n e k 1 dp ((nx T n c) + 1) 0).2.2))).toInt64)))), (3, .long (((iI ((pz T n e k 1 dp ((nx T n c) + 1) 0).2.2))).toInt64)), (2, .int (nI 1)), (0, .ref 253)]) dX12_sum_80 (by decide) rfl ?_
        refine Sx.goto (t := 5) dX12_sum_81 (by decide) ?_
        have hs9 : sgn T n (nx T n c) = 43 := by omega
        refine Sx.sub' [(1, .int (iI (jnZ (sgn T n (nx T n c)) v ((pz T n e k 1 dp ((nx T n c) + 1) 0).2.2)))), (0, .ref 253)] (by rw [hs9, ← wi_add hbv hb5]; rfl) ?_
        rw [pz_8, if_pos (by omega), pb_t x5] at hR
        subst hR
        exact hL8 hM5 f5 d5 hdp (hE.fa hF5) (bdI_bd _) (by omega) (fun x I2 y F f => hno x I2 y (FA.tr hF5 F) f) (fun x I2 F M f d => hyes x I2 (FA.tr hF5 F) M f d)
  · refine Sx.aload_n dX12_sum_22 rfl ?_
    refine Sx.callV0 dX12_sum_23 lkv_X12_151 (rcv_12 (o_253 W)) (by omega) (by decide) (Nat.le_of_ble_eq_true rfl) rfl rfl (k_lookS W hM1 (nx_stop T n _) ?_)
    refine Sx.bipush (v := (nI 45)) dX12_sum_26 (by decide) ?_
    refine Sx.icmp_neV (t := 84) dX12_sum_28 (by decide) (vZ (by omega)) (vN (by decide)) (fun c28 => ?_) (fun c28 => ?_)
    · refine Sx.iload_n dX12_sum_84 rfl ?_
      refine Sx.iret dX12_sum_85 rfl rfl ?_
      rw [pz_8, if_neg (by omega)] at hR
      subst hR
      exact hyes rfl I1 hF1 hM1 hf1 hd1
    · refine Sx.aload_n dX12_sum_31 rfl ?_
      refine Sx.callV0 dX12_sum_32 lkv_X12_151 (rcv_12 (o_253 W)) (by omega) (by decide) (Nat.le_of_ble_eq_true rfl) rfl rfl (k_lookS W hM1 (nx_stop T n _) ?_)
      refine Sx.bipush (v := (nI 43)) dX12_sum_35 (by decide) ?_
      refine Sx.icmp_neV (t := 44) dX12_sum_37 (by decide) (vZ (by omega)) (vN (by decide)) (fun c37 => ?_) (fun c37 => ?_)
      · refine Sx.iconst (v := (nI 0)) dX12_sum_44 (by decide) ?_
        refine Sx.istore_n (lv' := [(2, .int (nI 0)), (1, .int (iI v)), (0, .ref 253)]) dX12_sum_45 (by decide) rfl ?_
        refine Sx.aload_n dX12_sum_46 rfl ?_
        refine Sx.dup dX12_sum_47 rfl ?_
        refine Sx.getfV (v := (nI (nx T n c))) dX12_sum_48 lkf_X12_132_12 (o_253 W) hM1.at_ ?_
        refine Sx.iconst (v := (nI 1)) dX12_sum_51 (by decide) ?_
        refine Sx.iaddN dX12_sum_52 ?_
        refine Sx.putfV dX12_sum_53 lkp_X12_132_12 (o_253 W) rfl rfl (fun I6 e6 o6 => ?_)
        have hM6 : MR R I6 tx b n ((nx T n c) + 1) T := hM1.mv ((nx T n c) + 1) (by omega) (FA.up (by decide) e6 o6) (by rw [e6, upd_at])
        have hF6 := (hF1).tr (FA.up (by decide) e6 o6)
        have hf6 := Eq.trans (by rw [e6, upd_nj _ _ (by decide)] : I6 253 11 = I1 253 11) hf1
        have hd6 := Eq.trans (by rw [e6, upd_nj _ _ (by decide)] : I6 253 12 = I1 253 12) hd1
        have hk6 := lkN_or T n ((nx T n c) + 1)
        have ht6 := hM6.2.2.2.2.2.2.2.1 ((nx T n c) + 1)
        have hc6 := hM6.2.2.2.2.2.2.1
        have hn6 := hM6.2.2.2.2.2.1
        have hs6 := sgn_or T n ((nx T n c) + 1)
        refine Sx.aload_n dX12_sum_56 rfl ?_
        refine Sx.callV0 dX12_sum_57 lkv_X12_191 (rcv_12 (o_253 W)) (by omega) (by decide) (Nat.le_of_ble_eq_true rfl) rfl rfl (hTe (v := 0) hM6 hf6 hd6 (by omega) (hE.fa hF6) bd6_0 (by omega) (fun x7 I7 v7 g7 f7 => ?_) (fun x7 I7 g7 hM7 f7 d7 => ?_))
        · skip
          have hF7 := (hF6).tr g7
          have hq7 := pz_q (T := T) (e := e) k 1 dp ((nx T n c) + 1) 0 hM6.2.2.2.2.2.2.1
          refine Sx.i2l dX12_sum_60 ?_
          refine Sx.lstore_n (lv' := [(3, .long v7.toInt64), (2, .int (nI 0)), (1, .int (iI v)), (0, .ref 253)]) dX12_sum_61 (by decide) rfl ?_
          refine Sx.iload_n dX12_sum_62 rfl ?_
          refine Sx.if_eqV (t := 73) dX12_sum_63 (by decide) (vN (by decide)) (fun c63 => ?_) (fun c63 => False.elim (by omega))
          refine Sx.iload_n dX12_sum_73 rfl ?_
          refine Sx.i2l dX12_sum_74 ?_
          refine Sx.lload_n dX12_sum_75 rfl ?_
          refine Sx.lsub dX12_sum_76 ?_
          refine Sx.callS1 dX12_sum_77 lkc_X12_187  (by omega) (by decide) (Nat.le_of_ble_eq_true rfl) rfl rfl (k_within ?_)
          refine Sx.istore_n (lv' := [(1, .int (wiI ((((iI v)).toInt64 - v7.toInt64)))), (3, .long v7.toInt64), (2, .int (nI 0)), (0, .ref 253)]) dX12_sum_80 (by decide) rfl ?_
          refine Sx.goto (t := 5) dX12_sum_81 (by decide) ?_
          refine Sx.aload_n dX12_sum_5 rfl ?_
          refine Sx.getfV (v := (nI ((pz T n e k 1 dp ((nx T n c) + 1) 0).2.1))) dX12_sum_6 lkf_X12_141_12 (o_253 W) f7 ?_
          refine Sx.iconst (v := (iI (-1))) dX12_sum_9 (by decide) ?_
          refine Sx.icmp_neV (t := 84) dX12_sum_10 (by decide) (vN (by omega)) (vZ (by decide)) (fun c10 => ?_) (fun c10 => False.elim (by omega))
          refine Sx.iload_n dX12_sum_84 rfl ?_
          refine Sx.iret dX12_sum_85 rfl rfl ?_
          rw [pz_8, if_pos (by omega), pb_f x7] at hR
          subst hR
          exact hno rfl I7 _ hF7 f7
        · skip
          have hF7 := (hF6).tr g7
          obtain ⟨hp7, hb7⟩ := pz_bd hE0 k 1 dp ((nx T n c) + 1) 0 bd6_0 x7
          have hbb7 : -1000000 ≤ (pz T n e k 1 dp ((nx T n c) + 1) 0).2.2 ∧ (pz T n e k 1 dp ((nx T n c) + 1) 0).2.2 ≤ 1000000 := hb7
          have hk7 := lkN_or T n ((pz T n e k 1 dp ((nx T n c) + 1) 0).2.1)
          have ht7 := hM7.2.2.2.2.2.2.2.1 ((pz T n e k 1 dp ((nx T n c) + 1) 0).2.1)
          have hc7 := hM7.2.2.2.2.2.2.1
          have hn7 := hM7.2.2.2.2.2.1
          have hs7 := sgn_or T n ((pz T n e k 1 dp ((nx T n c) + 1) 0).2.1)
          refine Sx.i2l dX12_sum_60 ?_
          refine Sx.lstore_n (lv' := [(3, .long (((iI ((pz T n e k 1 dp ((nx T n c) + 1) 0).2.2))).toInt64)), (2, .int (nI 0)), (1, .int (iI v)), (0, .ref 253)]) dX12_sum_61 (by decide) rfl ?_
          refine Sx.iload_n dX12_sum_62 rfl ?_
          refine Sx.if_eqV (t := 73) dX12_sum_63 (by decide) (vN (by decide)) (fun c63 => ?_) (fun c63 => False.elim (by omega))
          refine Sx.iload_n dX12_sum_73 rfl ?_
          refine Sx.i2l dX12_sum_74 ?_
          refine Sx.lload_n dX12_sum_75 rfl ?_
          refine Sx.lsub dX12_sum_76 ?_
          refine Sx.callS1 dX12_sum_77 lkc_X12_187  (by omega) (by decide) (Nat.le_of_ble_eq_true rfl) rfl rfl (k_within ?_)
          refine Sx.istore_n (lv' := [(1, .int (wiI ((((iI v)).toInt64 - ((iI ((pz T n e k 1 dp ((nx T n c) + 1) 0).2.2))).toInt64)))), (3, .long (((iI ((pz T n e k 1 dp ((nx T n c) + 1) 0).2.2))).toInt64)), (2, .int (nI 0)), (0, .ref 253)]) dX12_sum_80 (by decide) rfl ?_
          refine Sx.goto (t := 5) dX12_sum_81 (by decide) ?_
          have hs9 : sgn T n (nx T n c) = 45 := by omega
          refine Sx.sub' [(1, .int (iI (jnZ (sgn T n (nx T n c)) v ((pz T n e k 1 dp ((nx T n c) + 1) 0).2.2)))), (0, .ref 253)] (by rw [hs9, ← wi_sub hbv hb7]; rfl) ?_
          rw [pz_8, if_pos (by omega), pb_t x7] at hR
          subst hR
          exact hL8 hM7 f7 d7 hdp (hE.fa hF7) (bdI_bd _) (by omega) (fun x I2 y F f => hno x I2 y (FA.tr hF7 F) f) (fun x I2 F M f d => hyes x I2 (FA.tr hF7 F) M f d)
      · refine Sx.iconst (v := (nI 1)) dX12_sum_40 (by decide) ?_
        refine Sx.goto (t := 45) dX12_sum_41 (by decide) ?_
        refine Sx.istore_n (lv' := [(2, .int (nI 1)), (1, .int (iI v)), (0, .ref 253)]) dX12_sum_45 (by decide) rfl ?_
        refine Sx.aload_n dX12_sum_46 rfl ?_
        refine Sx.dup dX12_sum_47 rfl ?_
        refine Sx.getfV (v := (nI (nx T n c))) dX12_sum_48 lkf_X12_132_12 (o_253 W) hM1.at_ ?_
        refine Sx.iconst (v := (nI 1)) dX12_sum_51 (by decide) ?_
        refine Sx.iaddN dX12_sum_52 ?_
        refine Sx.putfV dX12_sum_53 lkp_X12_132_12 (o_253 W) rfl rfl (fun I8 e8 o8 => ?_)
        have hM8 : MR R I8 tx b n ((nx T n c) + 1) T := hM1.mv ((nx T n c) + 1) (by omega) (FA.up (by decide) e8 o8) (by rw [e8, upd_at])
        have hF8 := (hF1).tr (FA.up (by decide) e8 o8)
        have hf8 := Eq.trans (by rw [e8, upd_nj _ _ (by decide)] : I8 253 11 = I1 253 11) hf1
        have hd8 := Eq.trans (by rw [e8, upd_nj _ _ (by decide)] : I8 253 12 = I1 253 12) hd1
        have hk8 := lkN_or T n ((nx T n c) + 1)
        have ht8 := hM8.2.2.2.2.2.2.2.1 ((nx T n c) + 1)
        have hc8 := hM8.2.2.2.2.2.2.1
        have hn8 := hM8.2.2.2.2.2.1
        have hs8 := sgn_or T n ((nx T n c) + 1)
        refine Sx.aload_n dX12_sum_56 rfl ?_
        refine Sx.callV0 dX12_sum_57 lkv_X12_191 (rcv_12 (o_253 W)) (by omega) (by decide) (Nat.le_of_ble_eq_true rfl) rfl rfl (hTe (v := 0) hM8 hf8 hd8 (by omega) (hE.fa hF8) bd6_0 (by omega) (fun x9 I9 v9 g9 f9 => ?_) (fun x9 I9 g9 hM9 f9 d9 => ?_))
        · skip
          have hF9 := (hF8).tr g9
          have hq9 := pz_q (T := T) (e := e) k 1 dp ((nx T n c) + 1) 0 hM8.2.2.2.2.2.2.1
          refine Sx.i2l dX12_sum_60 ?_
          refine Sx.lstore_n (lv' := [(3, .long v9.toInt64), (2, .int (nI 1)), (1, .int (iI v)), (0, .ref 253)]) dX12_sum_61 (by decide) rfl ?_
          refine Sx.iload_n dX12_sum_62 rfl ?_
          refine Sx.if_eqV (t := 73) dX12_sum_63 (by decide) (vN (by decide)) (fun c63 => False.elim (by omega)) (fun c63 => ?_)
          refine Sx.iload_n dX12_sum_66 rfl ?_
          refine Sx.i2l dX12_sum_67 ?_
          refine Sx.lload_n dX12_sum_68 rfl ?_
          refine Sx.ladd dX12_sum_69 ?_
          refine Sx.goto (t := 77) dX12_sum_70 (by decide) ?_
          refine Sx.callS1 dX12_sum_77 lkc_X12_187  (by omega) (by decide) (Nat.le_of_ble_eq_true rfl) rfl rfl (k_within ?_)
          refine Sx.istore_n (lv' := [(1, .int (wiI ((((iI v)).toInt64 + v9.toInt64)))), (3, .long v9.toInt64), (2, .int (nI 1)), (0, .ref 253)]) dX12_sum_80 (by decide) rfl ?_
          refine Sx.goto (t := 5) dX12_sum_81 (by decide) ?_
          refine Sx.aload_n dX12_sum_5 rfl ?_
          refine Sx.getfV (v := (nI ((pz T n e k 1 dp ((nx T n c) + 1) 0).2.1))) dX12_sum_6 lkf_X12_141_12 (o_253 W) f9 ?_
          refine Sx.iconst (v := (iI (-1))) dX12_sum_9 (by decide) ?_
          refine Sx.icmp_neV (t := 84) dX12_sum_10 (by decide) (vN (by omega)) (vZ (by decide)) (fun c10 => ?_) (fun c10 => False.elim (by omega))
          refine Sx.iload_n dX12_sum_84 rfl ?_
          refine Sx.iret dX12_sum_85 rfl rfl ?_
          rw [pz_8, if_pos (by omega), pb_f x9] at hR
          subst hR
          exact hno rfl I9 _ hF9 f9
        · skip
          have hF9 := (hF8).tr g9
          obtain ⟨hp9, hb9⟩ := pz_bd hE0 k 1 dp ((nx T n c) + 1) 0 bd6_0 x9
          have hbb9 : -1000000 ≤ (pz T n e k 1 dp ((nx T n c) + 1) 0).2.2 ∧ (pz T n e k 1 dp ((nx T n c) + 1) 0).2.2 ≤ 1000000 := hb9
          have hk9 := lkN_or T n ((pz T n e k 1 dp ((nx T n c) + 1) 0).2.1)
          have ht9 := hM9.2.2.2.2.2.2.2.1 ((pz T n e k 1 dp ((nx T n c) + 1) 0).2.1)
          have hc9 := hM9.2.2.2.2.2.2.1
          have hn9 := hM9.2.2.2.2.2.1
          have hs9 := sgn_or T n ((pz T n e k 1 dp ((nx T n c) + 1) 0).2.1)
          refine Sx.i2l dX12_sum_60 ?_
          refine Sx.lstore_n (lv' := [(3, .long (((iI ((pz T n e k 1 dp ((nx T n c) + 1) 0).2.2))).toInt64)), (2, .int (nI 1)), (1, .int (iI v)), (0, .ref 253)]) dX12_sum_61 (by decide) rfl ?_
          refine Sx.iload_n dX12_sum_62 rfl ?_
          refine Sx.if_eqV (t := 73) dX12_sum_63 (by decide) (vN (by decide)) (fun c63 => False.elim (by omega)) (fun c63 => ?_)
          refine Sx.iload_n dX12_sum_66 rfl ?_
          refine Sx.i2l dX12_sum_67 ?_
          refine Sx.lload_n dX12_sum_68 rfl ?_
          refine Sx.ladd dX12_sum_69 ?_
          refine Sx.goto (t := 77) dX12_sum_70 (by decide) ?_
          refine Sx.callS1 dX12_sum_77 lkc_X12_187  (by omega) (by decide) (Nat.le_of_ble_eq_true rfl) rfl rfl (k_within ?_)
          refine Sx.istore_n (lv' := [(1, .int (wiI ((((iI v)).toInt64 + ((iI ((pz T n e k 1 dp ((nx T n c) + 1) 0).2.2))).toInt64)))), (3, .long (((iI ((pz T n e k 1 dp ((nx T n c) + 1) 0).2.2))).toInt64)), (2, .int (nI 1)), (0, .ref 253)]) dX12_sum_80 (by decide) rfl ?_
          refine Sx.goto (t := 5) dX12_sum_81 (by decide) ?_
          have hs9 : sgn T n (nx T n c) = 43 := by omega
          refine Sx.sub' [(1, .int (iI (jnZ (sgn T n (nx T n c)) v ((pz T n e k 1 dp ((nx T n c) + 1) 0).2.2)))), (0, .ref 253)] (by rw [hs9, ← wi_add hbv hb9]; rfl) ?_
          rw [pz_8, if_pos (by omega), pb_t x9] at hR
          subst hR
          exact hL8 hM9 f9 d9 hdp (hE.fa hF9) (bdI_bd _) (by omega) (fun x I2 y F f => hno x I2 y (FA.tr hF9 F) f) (fun x I2 F M f d => hyes x I2 (FA.tr hF9 F) M f d)
set_option maxRecDepth 20000 in
set_option maxHeartbeats 1000000 in
theorem s_sum {G : Gt} {l : Launch} {Z : Zt} {R : Rt} {L : Lt} {tx b n : Nat} {T : Nat → Nat} {e : Nat → Int} (W : WF Z R) (hE0 : ∀ s, bd6 (e s)) (k : Nat) (ih : PzAll G l Z R L tx b n T e k) : PzI G l Z R L tx b n T e mX12_sum 26 3 2 (fun _ => [.ref 253]) (k + 1) := by
  obtain ⟨hAt, hTe, hSu, hCo, hUn, hPa, hCn, hL7, hL8, hL9, hL10, hK, hC1, hP1, hD1⟩ := ih
  intro I c dp v post hM hf hd hdp hE hbv hk hno hyes
  have hbv2 : -1000000 ≤ v ∧ v ≤ 1000000 := hbv
  have hn0 := hM.2.2.2.2.2.1
  have hc0 := hM.2.2.2.2.2.2.1
  have hRt := hM.1
  obtain ⟨N, hA, hbN, hN⟩ := hM.ar W
  obtain ⟨r, hR⟩ : ∃ r, pz T n e (k + 1) 2 dp c v = r := ⟨_, rfl⟩
  rw [hR] at hno hyes
  refine Cx.of (by decide +kernel) (by exact Nat.le_of_ble_eq_true rfl) ?_
  refine Sx.aload_n dX12_sum_0 rfl ?_
  refine Sx.callV0 dX12_sum_1 lkv_X12_191 (rcv_12 (o_253 W)) (by omega) (by decide) (Nat.le_of_ble_eq_true rfl) rfl rfl (hTe (v := 0) hM hf hd (by omega) (hE.fa (FA.rf I)) bd6_0 (by omega) (fun x1 I1 v1 g1 f1 => ?_) (fun x1 I1 g1 hM1 f1 d1 => ?_))
  · skip
    have hF1 := (FA.rf I).tr g1
    have hq1 := pz_q (T := T) (e := e) k 1 dp c 0 hM.2.2.2.2.2.2.1
    refine Sx.istore_n (lv' := [(1, .int v1), (0, .ref 253)]) dX12_sum_4 (by decide) rfl ?_
    refine Sx.aload_n dX12_sum_5 rfl ?_
    refine Sx.getfV (v := (nI ((pz T n e k 1 dp c 0).2.1))) dX12_sum_6 lkf_X12_141_12 (o_253 W) f1 ?_
    refine Sx.iconst (v := (iI (-1))) dX12_sum_9 (by decide) ?_
    refine Sx.icmp_neV (t := 84) dX12_sum_10 (by decide) (vN (by omega)) (vZ (by decide)) (fun c10 => ?_) (fun c10 => False.elim (by omega))
    refine Sx.iload_n dX12_sum_84 rfl ?_
    refine Sx.iret dX12_sum_85 rfl rfl ?_
    rw [pz_2, pb_f x1] at hR
    subst hR
    exact hno rfl I1 _ hF1 f1
  · skip
    have hF1 := (FA.rf I).tr g1
    obtain ⟨hp1, hb1⟩ := pz_bd hE0 k 1 dp c 0 bd6_0 x1
    have hbb1 : -1000000 ≤ (pz T n e k 1 dp c 0).2.2 ∧ (pz T n e k 1 dp c 0).2.2 ≤ 1000000 := hb1
    have hk1 := lkN_or T n ((pz T n e k 1 dp c 0).2.1)
    have ht1 := hM1.2.2.2.2.2.2.2.1 ((pz T n e k 1 dp c 0).2.1)
    have hc1 := hM1.2.2.2.2.2.2.1
    have hn1 := hM1.2.2.2.2.2.1
    have hs1 := sgn_or T n ((pz T n e k 1 dp c 0).2.1)
    refine Sx.istore_n (lv' := [(1, .int (iI ((pz T n e k 1 dp c 0).2.2))), (0, .ref 253)]) dX12_sum_4 (by decide) rfl ?_
    refine Sx.sub' [(1, .int (iI (pz T n e k 1 dp c 0).2.2)), (0, .ref 253)] rfl ?_
    rw [pz_2, pb_t x1] at hR
    subst hR
    exact hL8 hM1 f1 d1 hdp (hE.fa hF1) hb1 (by omega) (fun x I2 y F f => hno x I2 y (FA.tr hF1 F) f) (fun x I2 F M f d => hyes x I2 (FA.tr hF1 F) M f d)
set_option maxRecDepth 20000 in
set_option maxHeartbeats 1000000 in
theorem s_c13 {G : Gt} {l : Launch} {Z : Zt} {R : Rt} {L : Lt} {tx b n : Nat} {T : Nat → Nat} {e : Nat → Int} (W : WF Z R) (hE0 : ∀ s, bd6 (e s)) (k : Nat) (ih : PzAll G l Z R L tx b n T e k) : PzBL G l Z R L tx b n T e mX12_compares 27 3 11 13 (fun v => [(3, .int (iI v)), (0, .ref 253)]) (k + 1) := by
  obtain ⟨hAt, hTe, hSu, hCo, hUn, hPa, hCn, hL7, hL8, hL9, hL10, hK, hC1, hP1, hD1⟩ := ih
  intro I c dp v post hM hf hd hdp hE hbv hk hno hyes
  have hbv2 : -1000000 ≤ v ∧ v ≤ 1000000 := hbv
  have hn0 := hM.2.2.2.2.2.1
  have hc0 := hM.2.2.2.2.2.2.1
  have hRt := hM.1
  obtain ⟨N, hA, hbN, hN⟩ := hM.ar W
  obtain ⟨r, hR⟩ : ∃ r, pz T n e (k + 1) 11 dp c v = r := ⟨_, rfl⟩
  rw [hR] at hno hyes
  refine Sx.aload_n dX12_compares_13 rfl ?_
  refine Sx.getfV (v := (iI (-1))) dX12_compares_14 lkf_X12_141_12 (o_253 W) hf ?_
  refine Sx.iconst (v := (iI (-1))) dX12_compares_17 (by decide) ?_
  refine Sx.icmp_eqV (t := 23) dX12_compares_18 (by decide) (vZ (by decide)) (vZ (by decide)) (fun c18 => ?_) (fun c18 => False.elim (by omega))
  refine Sx.aload_n dX12_compares_23 rfl ?_
  refine Sx.callV0 dX12_compares_24 lkv_X12_151 (rcv_12 (o_253 W)) (by omega) (by decide) (Nat.le_of_ble_eq_true rfl) rfl rfl (k_look W hM (fun I1 hM1 g1 f1 d1 => ?_))
  have hF1 := (FA.rf I).tr g1
  have hf1 := f1.trans hf
  have hd1 := d1.trans hd
  have hx1 := nx_b T n c
  have hk1 := lkN_or T n (nx T n c)
  have ht1 := hM1.2.2.2.2.2.2.2.1 (nx T n c)
  have hc1 := hM1.2.2.2.2.2.2.1
  have hn1 := hM1.2.2.2.2.2.1
  have hs1 := sgn_or T n (nx T n c)
  refine Sx.istore (lv' := [(4, .int (iI (lkN T n (nx T n c)))), (3, .int (iI v)), (0, .ref 253)]) dX12_compares_27 (by decide) rfl ?_
  refine Sx.iload dX12_compares_29 rfl ?_
  refine Sx.callS1 dX12_compares_31 lkc_X12_194  (by omega) (by decide) (Nat.le_of_ble_eq_true rfl) rfl rfl (k_isSign (by omega) ?_)
  refine Sx.if_neD (t := 42) dX12_compares_34 (by decide) (fun c34 => ?_) (fun c34 => ?_)
  · refine Sx.aload_n dX12_compares_42 rfl ?_
    refine Sx.dup dX12_compares_43 rfl ?_
    refine Sx.getfV (v := (nI (nx T n c))) dX12_compares_44 lkf_X12_132_12 (o_253 W) hM1.at_ ?_
    refine Sx.iconst (v := (nI 1)) dX12_compares_47 (by decide) ?_
    refine Sx.iaddN dX12_compares_48 ?_
    refine Sx.putfV dX12_compares_49 lkp_X12_132_12 (o_253 W) rfl rfl (fun I2 e2 o2 => ?_)
    have hM2 : MR R I2 tx b n ((nx T n c) + 1) T := hM1.mv ((nx T n c) + 1) (by omega) (FA.up (by decide) e2 o2) (by rw [e2, upd_at])
    have hF2 := (hF1).tr (FA.up (by decide) e2 o2)
    have hf2 := Eq.trans (by rw [e2, upd_nj _ _ (by decide)] : I2 253 11 = I1 253 11) hf1
    have hd2 := Eq.trans (by rw [e2, upd_nj _ _ (by decide)] : I2 253 12 = I1 253 12) hd1
    have hk2 := lkN_or T n ((nx T n c) + 1)
    have ht2 := hM2.2.2.2.2.2.2.2.1 ((nx T n c) + 1)
    have hc2 := hM2.2.2.2.2.2.2.1
    have hn2 := hM2.2.2.2.2.2.1
    have hs2 := sgn_or T n ((nx T n c) + 1)
    refine Sx.aload_n dX12_compares_52 rfl ?_
    refine Sx.callV0 dX12_compares_53 lkv_X12_174 (rcv_12 (o_253 W)) (by omega) (by decide) (Nat.le_of_ble_eq_true rfl) rfl rfl (hSu (v := 0) hM2 hf2 hd2 (by omega) (hE.fa hF2) bd6_0 (by omega) (fun x3 I3 v3 g3 f3 => ?_) (fun x3 I3 g3 hM3 f3 d3 => ?_))
    · skip
      have hF3 := (hF2).tr g3
      have hq3 := pz_q (T := T) (e := e) k 2 dp ((nx T n c) + 1) 0 hM2.2.2.2.2.2.2.1
      refine Sx.istore (lv' := [(5, .int v3), (4, .int (iI (lkN T n (nx T n c)))), (3, .int (iI v)), (0, .ref 253)]) dX12_compares_56 (by decide) rfl ?_
      refine Sx.iload dX12_compares_58 rfl ?_
      refine Sx.bipush (v := (nI 61)) dX12_compares_60 (by decide) ?_
      refine Sx.icmp_neV (t := 79) dX12_compares_62 (by decide) (vZ (by omega)) (vN (by decide)) (fun c62 => ?_) (fun c62 => ?_)
      · refine Sx.iload dX12_compares_79 rfl ?_
        refine Sx.bipush (v := (nI 60)) dX12_compares_81 (by decide) ?_
        refine Sx.icmp_neV (t := 100) dX12_compares_83 (by decide) (vZ (by omega)) (vN (by decide)) (fun c83 => ?_) (fun c83 => ?_)
        · refine Sx.iload_n dX12_compares_100 rfl ?_
          refine Sx.iload dX12_compares_101 rfl ?_
          refine Sx.icmp_leV (t := 110) dX12_compares_103 (by decide) (vZ (by omega)) (vX v3) (fun c103 => ?_) (fun c103 => ?_)
          · refine Sx.iconst (v := (nI 0)) dX12_compares_110 (by decide) ?_
            refine Sx.top (show _ = b2i false from rfl) ?_
            refine Sx.iret dX12_compares_111 rfl (b2i_n _) ?_
            rw [pz_11, if_pos (by omega), pb_f x3] at hR
            subst hR
            exact hno rfl I3 _ hF3 f3
          · refine Sx.iconst (v := (nI 1)) dX12_compares_106 (by decide) ?_
            refine Sx.goto (t := 111) dX12_compares_107 (by decide) ?_
            refine Sx.top (show _ = b2i true from rfl) ?_
            refine Sx.iret dX12_compares_111 rfl (b2i_n _) ?_
            rw [pz_11, if_pos (by omega), pb_f x3] at hR
            subst hR
            exact hno rfl I3 _ hF3 f3
        · refine Sx.iload_n dX12_compares_86 rfl ?_
          refine Sx.iload dX12_compares_87 rfl ?_
          refine Sx.icmp_geV (t := 96) dX12_compares_89 (by decide) (vZ (by omega)) (vX v3) (fun c89 => ?_) (fun c89 => ?_)
          · refine Sx.iconst (v := (nI 0)) dX12_compares_96 (by decide) ?_
            refine Sx.goto (t := 111) dX12_compares_97 (by decide) ?_
            refine Sx.top (show _ = b2i false from rfl) ?_
            refine Sx.iret dX12_compares_111 rfl (b2i_n _) ?_
            rw [pz_11, if_pos (by omega), pb_f x3] at hR
            subst hR
            exact hno rfl I3 _ hF3 f3
          · refine Sx.iconst (v := (nI 1)) dX12_compares_92 (by decide) ?_
            refine Sx.goto (t := 111) dX12_compares_93 (by decide) ?_
            refine Sx.top (show _ = b2i true from rfl) ?_
            refine Sx.iret dX12_compares_111 rfl (b2i_n _) ?_
            rw [pz_11, if_pos (by omega), pb_f x3] at hR
            subst hR
            exact hno rfl I3 _ hF3 f3
      · refine Sx.iload_n dX12_compares_65 rfl ?_
        refine Sx.iload dX12_compares_66 rfl ?_
        refine Sx.icmp_neV (t := 75) dX12_compares_68 (by decide) (vZ (by omega)) (vX v3) (fun c68 => ?_) (fun c68 => ?_)
        · refine Sx.iconst (v := (nI 0)) dX12_compares_75 (by decide) ?_
          refine Sx.goto (t := 111) dX12_compares_76 (by decide) ?_
          refine Sx.top (show _ = b2i false from rfl) ?_
          refine Sx.iret dX12_compares_111 rfl (b2i_n _) ?_
          rw [pz_11, if_pos (by omega), pb_f x3] at hR
          subst hR
          exact hno rfl I3 _ hF3 f3
        · refine Sx.iconst (v := (nI 1)) dX12_compares_71 (by decide) ?_
          refine Sx.goto (t := 111) dX12_compares_72 (by decide) ?_
          refine Sx.top (show _ = b2i true from rfl) ?_
          refine Sx.iret dX12_compares_111 rfl (b2i_n _) ?_
          rw [pz_11, if_pos (by omega), pb_f x3] at hR
          subst hR
          exact hno rfl I3 _ hF3 f3
    · skip
      have hF3 := (hF2).tr g3
      obtain ⟨hp3, hb3⟩ := pz_bd hE0 k 2 dp ((nx T n c) + 1) 0 bd6_0 x3
      have hbb3 : -1000000 ≤ (pz T n e k 2 dp ((nx T n c) + 1) 0).2.2 ∧ (pz T n e k 2 dp ((nx T n c) + 1) 0).2.2 ≤ 1000000 := hb3
      have hk3 := lkN_or T n ((pz T n e k 2 dp ((nx T n c) + 1) 0).2.1)
      have ht3 := hM3.2.2.2.2.2.2.2.1 ((pz T n e k 2 dp ((nx T n c) + 1) 0).2.1)
      have hc3 := hM3.2.2.2.2.2.2.1
      have hn3 := hM3.2.2.2.2.2.1
      have hs3 := sgn_or T n ((pz T n e k 2 dp ((nx T n c) + 1) 0).2.1)
      refine Sx.istore (lv' := [(5, .int (iI ((pz T n e k 2 dp ((nx T n c) + 1) 0).2.2))), (4, .int (iI (lkN T n (nx T n c)))), (3, .int (iI v)), (0, .ref 253)]) dX12_compares_56 (by decide) rfl ?_
      refine Sx.iload dX12_compares_58 rfl ?_
      refine Sx.bipush (v := (nI 61)) dX12_compares_60 (by decide) ?_
      refine Sx.icmp_neV (t := 79) dX12_compares_62 (by decide) (vZ (by omega)) (vN (by decide)) (fun c62 => ?_) (fun c62 => ?_)
      · refine Sx.iload dX12_compares_79 rfl ?_
        refine Sx.bipush (v := (nI 60)) dX12_compares_81 (by decide) ?_
        refine Sx.icmp_neV (t := 100) dX12_compares_83 (by decide) (vZ (by omega)) (vN (by decide)) (fun c83 => ?_) (fun c83 => ?_)
        · refine Sx.iload_n dX12_compares_100 rfl ?_
          refine Sx.iload dX12_compares_101 rfl ?_
          refine Sx.icmp_leV (t := 110) dX12_compares_103 (by decide) (vZ (by omega)) (vZ (by omega)) (fun c103 => ?_) (fun c103 => ?_)
          · refine Sx.iconst (v := (nI 0)) dX12_compares_110 (by decide) ?_
            refine Sx.top (show _ = b2i false from rfl) ?_
            refine Sx.iret dX12_compares_111 rfl (b2i_n _) ?_
            rw [pz_11, if_pos (by omega), pb_t x3] at hR
            subst hR
            rw [show b2i false = b2i (decide (cmpZ (sgn T n (nx T n c)) v ((pz T n e k 2 dp ((nx T n c) + 1) 0).2.2) ≠ 0)) from n01 _ _ (by unfold cmpZ; (repeat' split) <;> first | omega | simp <;> omega)]
            exact hyes rfl I3 hF3 hM3 f3 d3
          · refine Sx.iconst (v := (nI 1)) dX12_compares_106 (by decide) ?_
            refine Sx.goto (t := 111) dX12_compares_107 (by decide) ?_
            refine Sx.top (show _ = b2i true from rfl) ?_
            refine Sx.iret dX12_compares_111 rfl (b2i_n _) ?_
            rw [pz_11, if_pos (by omega), pb_t x3] at hR
            subst hR
            rw [show b2i true = b2i (decide (cmpZ (sgn T n (nx T n c)) v ((pz T n e k 2 dp ((nx T n c) + 1) 0).2.2) ≠ 0)) from n01 _ _ (by unfold cmpZ; (repeat' split) <;> first | omega | simp <;> omega)]
            exact hyes rfl I3 hF3 hM3 f3 d3
        · refine Sx.iload_n dX12_compares_86 rfl ?_
          refine Sx.iload dX12_compares_87 rfl ?_
          refine Sx.icmp_geV (t := 96) dX12_compares_89 (by decide) (vZ (by omega)) (vZ (by omega)) (fun c89 => ?_) (fun c89 => ?_)
          · refine Sx.iconst (v := (nI 0)) dX12_compares_96 (by decide) ?_
            refine Sx.goto (t := 111) dX12_compares_97 (by decide) ?_
            refine Sx.top (show _ = b2i false from rfl) ?_
            refine Sx.iret dX12_compares_111 rfl (b2i_n _) ?_
            rw [pz_11, if_pos (by omega), pb_t x3] at hR
            subst hR
            rw [show b2i false = b2i (decide (cmpZ (sgn T n (nx T n c)) v ((pz T n e k 2 dp ((nx T n c) + 1) 0).2.2) ≠ 0)) from n01 _ _ (by unfold cmpZ; (repeat' split) <;> first | omega | simp <;> omega)]
            exact hyes rfl I3 hF3 hM3 f3 d3
          · refine Sx.iconst (v := (nI 1)) dX12_compares_92 (by decide) ?_
            refine Sx.goto (t := 111) dX12_compares_93 (by decide) ?_
            refine Sx.top (show _ = b2i true from rfl) ?_
            refine Sx.iret dX12_compares_111 rfl (b2i_n _) ?_
            rw [pz_11, if_pos (by omega), pb_t x3] at hR
            subst hR
            rw [show b2i true = b2i (decide (cmpZ (sgn T n (nx T n c)) v ((pz T n e k 2 dp ((nx T n c) + 1) 0).2.2) ≠ 0)) from n01 _ _ (by unfold cmpZ; (repeat' split) <;> first | omega | simp <;> omega)]
            exact hyes rfl I3 hF3 hM3 f3 d3
      · refine Sx.iload_n dX12_compares_65 rfl ?_
        refine Sx.iload dX12_compares_66 rfl ?_
        refine Sx.icmp_neV (t := 75) dX12_compares_68 (by decide) (vZ (by omega)) (vZ (by omega)) (fun c68 => ?_) (fun c68 => ?_)
        · refine Sx.iconst (v := (nI 0)) dX12_compares_75 (by decide) ?_
          refine Sx.goto (t := 111) dX12_compares_76 (by decide) ?_
          refine Sx.top (show _ = b2i false from rfl) ?_
          refine Sx.iret dX12_compares_111 rfl (b2i_n _) ?_
          rw [pz_11, if_pos (by omega), pb_t x3] at hR
          subst hR
          rw [show b2i false = b2i (decide (cmpZ (sgn T n (nx T n c)) v ((pz T n e k 2 dp ((nx T n c) + 1) 0).2.2) ≠ 0)) from n01 _ _ (by unfold cmpZ; (repeat' split) <;> first | omega | simp <;> omega)]
          exact hyes rfl I3 hF3 hM3 f3 d3
        · refine Sx.iconst (v := (nI 1)) dX12_compares_71 (by decide) ?_
          refine Sx.goto (t := 111) dX12_compares_72 (by decide) ?_
          refine Sx.top (show _ = b2i true from rfl) ?_
          refine Sx.iret dX12_compares_111 rfl (b2i_n _) ?_
          rw [pz_11, if_pos (by omega), pb_t x3] at hR
          subst hR
          rw [show b2i true = b2i (decide (cmpZ (sgn T n (nx T n c)) v ((pz T n e k 2 dp ((nx T n c) + 1) 0).2.2) ≠ 0)) from n01 _ _ (by unfold cmpZ; (repeat' split) <;> first | omega | simp <;> omega)]
          exact hyes rfl I3 hF3 hM3 f3 d3
  · refine Sx.aload_n dX12_compares_37 rfl ?_
    refine Sx.callV0 dX12_compares_38 lkv_X12_147 (rcv_12 (o_253 W)) (by omega) (by decide) (Nat.le_of_ble_eq_true rfl) rfl rfl (k_fails W hM1 hf1 (fun I4 g4 f4 d4 a4 => ?_))
    have hF4 := (hF1).tr g4
    have hM4 := hM1.mv (nx T n c) (by omega) g4 (a4.trans hM1.at_)
    refine Sx.iret dX12_compares_41 rfl (b2i_n _) ?_
    rw [pz_11, if_neg (by omega)] at hR
    subst hR
    exact hno rfl I4 _ hF4 f4
