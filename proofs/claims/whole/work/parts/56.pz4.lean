/-! the reference reads laws: comparisons, units, truths, conditions -/
set_option maxRecDepth 20000 in
set_option maxHeartbeats 1000000 in
theorem s_cmp1 {G : Gt} {l : Launch} {Z : Zt} {R : Rt} {L : Lt} {tx b n : Nat} {T : Nat → Nat} {e : Nat → Int} (W : WF Z R) (hE0 : ∀ s, bd6 (e s)) (k : Nat) (ih : PzAll G l Z R L tx b n T e k) (hK9 : PzBL G l Z R L tx b n T e mX12_compares 27 3 11 13 (fun v => [(3, .int (iI v)), (0, .ref 253)]) (k + 1)) : PzB G l Z R L tx b n T e mX12_compares 27 3 11 (fun v => [.ref 253, .int (nI 1), .int (iI v)]) (k + 1) := by
  obtain ⟨hAt, hTe, hSu, hCo, hUn, hPa, hCn, hL7, hL8, hL9, hL10, hK, hC1, hP1, hD1⟩ := ih
  intro I c dp v post hM hf hd hdp hE hbv hk hno hyes
  have hbv2 : -1000000 ≤ v ∧ v ≤ 1000000 := hbv
  have hn0 := hM.2.2.2.2.2.1
  have hc0 := hM.2.2.2.2.2.2.1
  have hRt := hM.1
  obtain ⟨N, hA, hbN, hN⟩ := hM.ar W
  obtain ⟨r, hR⟩ : ∃ r, pz T n e (k + 1) 11 dp c v = r := ⟨_, rfl⟩
  rw [hR] at hno hyes
  refine Cx.of (by decide +kernel) (by exact Nat.le_of_ble_eq_true rfl) ?_
  refine Sx.iload_n dX12_compares_0 rfl ?_
  refine Sx.if_eqV (t := 8) dX12_compares_1 (by decide) (vN (by decide)) (fun c1 => False.elim (by omega)) (fun c1 => ?_)
  refine Sx.iload_n dX12_compares_4 rfl ?_
  refine Sx.goto (t := 12) dX12_compares_5 (by decide) ?_
  refine Sx.istore_n (lv' := [(3, .int (iI v)), (0, .ref 253), (1, .int (nI 1)), (2, .int (iI v))]) dX12_compares_12 (by decide) rfl ?_
  refine Sx.sub' [(3, .int (iI v)), (0, .ref 253)] rfl ?_
  subst hR
  exact hK9 hM hf hd hdp hE hbv hk hno hyes
set_option maxRecDepth 20000 in
set_option maxHeartbeats 1000000 in
theorem s_cmp {G : Gt} {l : Launch} {Z : Zt} {R : Rt} {L : Lt} {tx b n : Nat} {T : Nat → Nat} {e : Nat → Int} (W : WF Z R) (hE0 : ∀ s, bd6 (e s)) (k : Nat) (ih : PzAll G l Z R L tx b n T e k) : PzB G l Z R L tx b n T e mX12_compares 27 4 3 (fun _ => [.ref 253, .int (nI 0), .int (nI 0)]) (k + 1) := by
  obtain ⟨hAt, hTe, hSu, hCo, hUn, hPa, hCn, hL7, hL8, hL9, hL10, hK, hC1, hP1, hD1⟩ := ih
  intro I c dp v post hM hf hd hdp hE hbv hk hno hyes
  have hbv2 : -1000000 ≤ v ∧ v ≤ 1000000 := hbv
  have hn0 := hM.2.2.2.2.2.1
  have hc0 := hM.2.2.2.2.2.2.1
  have hRt := hM.1
  obtain ⟨N, hA, hbN, hN⟩ := hM.ar W
  obtain ⟨r, hR⟩ : ∃ r, pz T n e (k + 1) 3 dp c v = r := ⟨_, rfl⟩
  rw [hR] at hno hyes
  refine Cx.of (by decide +kernel) (by exact Nat.le_of_ble_eq_true rfl) ?_
  refine Sx.iload_n dX12_compares_0 rfl ?_
  refine Sx.if_eqV (t := 8) dX12_compares_1 (by decide) (vN (by decide)) (fun c1 => ?_) (fun c1 => False.elim (by omega))
  refine Sx.aload_n dX12_compares_8 rfl ?_
  refine Sx.callV0 dX12_compares_9 lkv_X12_174 (rcv_12 (o_253 W)) (by omega) (by decide) (Nat.le_of_ble_eq_true rfl) rfl rfl (hSu (v := 0) hM hf hd (by omega) (hE.fa (FA.rf I)) bd6_0 (by omega) (fun x1 I1 v1 g1 f1 => ?_) (fun x1 I1 g1 hM1 f1 d1 => ?_))
  · skip
    have hF1 := (FA.rf I).tr g1
    have hq1 := pz_q (T := T) (e := e) k 2 dp c 0 hM.2.2.2.2.2.2.1
    refine Sx.istore_n (lv' := [(3, .int v1), (0, .ref 253), (1, .int (nI 0)), (2, .int (nI 0))]) dX12_compares_12 (by decide) rfl ?_
    refine Sx.aload_n dX12_compares_13 rfl ?_
    refine Sx.getfV (v := (nI ((pz T n e k 2 dp c 0).2.1))) dX12_compares_14 lkf_X12_141_12 (o_253 W) f1 ?_
    refine Sx.iconst (v := (iI (-1))) dX12_compares_17 (by decide) ?_
    refine Sx.icmp_eqV (t := 23) dX12_compares_18 (by decide) (vN (by omega)) (vZ (by decide)) (fun c18 => False.elim (by omega)) (fun c18 => ?_)
    refine Sx.iconst (v := (nI 0)) dX12_compares_21 (by decide) ?_
    refine Sx.top (show _ = b2i false from rfl) ?_
    refine Sx.iret dX12_compares_22 rfl (b2i_n _) ?_
    rw [pz_3, pb_f x1] at hR
    subst hR
    exact hno rfl I1 _ hF1 f1
  · skip
    have hF1 := (FA.rf I).tr g1
    obtain ⟨hp1, hb1⟩ := pz_bd hE0 k 2 dp c 0 bd6_0 x1
    have hbb1 : -1000000 ≤ (pz T n e k 2 dp c 0).2.2 ∧ (pz T n e k 2 dp c 0).2.2 ≤ 1000000 := hb1
    have hk1 := lkN_or T n ((pz T n e k 2 dp c 0).2.1)
    have ht1 := hM1.2.2.2.2.2.2.2.1 ((pz T n e k 2 dp c 0).2.1)
    have hc1 := hM1.2.2.2.2.2.2.1
    have hn1 := hM1.2.2.2.2.2.1
    have hs1 := sgn_or T n ((pz T n e k 2 dp c 0).2.1)
    refine Sx.istore_n (lv' := [(3, .int (iI ((pz T n e k 2 dp c 0).2.2))), (0, .ref 253), (1, .int (nI 0)), (2, .int (nI 0))]) dX12_compares_12 (by decide) rfl ?_
    refine Sx.sub' [(3, .int (iI (pz T n e k 2 dp c 0).2.2)), (0, .ref 253)] rfl ?_
    rw [pz_3, pb_t x1] at hR
    subst hR
    exact hK hM1 f1 d1 hdp (hE.fa hF1) hb1 (by omega) (fun x I2 y F f => hno x I2 y (FA.tr hF1 F) f) (fun x I2 F M f d => hyes x I2 (FA.tr hF1 F) M f d)
set_option maxRecDepth 20000 in
set_option maxHeartbeats 1000000 in
theorem s_l9 {G : Gt} {l : Launch} {Z : Zt} {R : Rt} {L : Lt} {tx b n : Nat} {T : Nat → Nat} {e : Nat → Int} (W : WF Z R) (hE0 : ∀ s, bd6 (e s)) (k : Nat) (ih : PzAll G l Z R L tx b n T e k) : PzBL G l Z R L tx b n T e mX12_part 29 1 9 18 (fun v => [(3, .int (b2i (decide (v ≠ 0)))), (0, .ref 253)]) (k + 1) := by
  obtain ⟨hAt, hTe, hSu, hCo, hUn, hPa, hCn, hL7, hL8, hL9, hL10, hK, hC1, hP1, hD1⟩ := ih
  intro I c dp v post hM hf hd hdp hE hbv hk hno hyes
  have hbv2 : -1000000 ≤ v ∧ v ≤ 1000000 := hbv
  have hn0 := hM.2.2.2.2.2.1
  have hc0 := hM.2.2.2.2.2.2.1
  have hRt := hM.1
  obtain ⟨N, hA, hbN, hN⟩ := hM.ar W
  obtain ⟨r, hR⟩ : ∃ r, pz T n e (k + 1) 9 dp c v = r := ⟨_, rfl⟩
  rw [hR] at hno hyes
  refine Sx.aload_n dX12_part_18 rfl ?_
  refine Sx.getfV (v := (iI (-1))) dX12_part_19 lkf_X12_141_12 (o_253 W) hf ?_
  refine Sx.iconst (v := (iI (-1))) dX12_part_22 (by decide) ?_
  refine Sx.icmp_neV (t := 69) dX12_part_23 (by decide) (vZ (by decide)) (vZ (by decide)) (fun c23 => False.elim (by omega)) (fun c23 => ?_)
  refine Sx.aload_n dX12_part_26 rfl ?_
  refine Sx.callV0 dX12_part_27 lkv_X12_151 (rcv_12 (o_253 W)) (by omega) (by decide) (Nat.le_of_ble_eq_true rfl) rfl rfl (k_look W hM (fun I1 hM1 g1 f1 d1 => ?_))
  have hF1 := (FA.rf I).tr g1
  have hf1 := f1.trans hf
  have hd1 := d1.trans hd
  have hx1 := nx_b T n c
  have hk1 := lkN_or T n (nx T n c)
  have ht1 := hM1.2.2.2.2.2.2.2.1 (nx T n c)
  have hc1 := hM1.2.2.2.2.2.2.1
  have hn1 := hM1.2.2.2.2.2.1
  have hs1 := sgn_or T n (nx T n c)
  refine Sx.bipush (v := (nI 38)) dX12_part_30 (by decide) ?_
  refine Sx.icmp_neV (t := 69) dX12_part_32 (by decide) (vZ (by omega)) (vN (by decide)) (fun c32 => ?_) (fun c32 => ?_)
  · refine Sx.iload_n dX12_part_69 rfl ?_
    refine Sx.iret dX12_part_70 rfl (b2i_n _) ?_
    rw [pz_9, if_neg (by omega)] at hR
    subst hR
    exact hyes rfl I1 hF1 hM1 hf1 hd1
  · refine Sx.aload_n dX12_part_35 rfl ?_
    refine Sx.dup dX12_part_36 rfl ?_
    refine Sx.getfV (v := (nI (nx T n c))) dX12_part_37 lkf_X12_132_12 (o_253 W) hM1.at_ ?_
    refine Sx.iconst (v := (nI 1)) dX12_part_40 (by decide) ?_
    refine Sx.iaddN dX12_part_41 ?_
    refine Sx.putfV dX12_part_42 lkp_X12_132_12 (o_253 W) rfl rfl (fun I2 e2 o2 => ?_)
    have hM2 : MR R I2 tx b n ((nx T n c) + 1) T := hM1.mv ((nx T n c) + 1) (by omega) (FA.up (by decide) e2 o2) (by rw [e2, upd_at])
    have hF2 := (hF1).tr (FA.up (by decide) e2 o2)
    have hf2 := Eq.trans (by rw [e2, upd_nj _ _ (by decide)] : I2 253 11 = I1 253 11) hf1
    have hd2 := Eq.trans (by rw [e2, upd_nj _ _ (by decide)] : I2 253 12 = I1 253 12) hd1
    have hk2 := lkN_or T n ((nx T n c) + 1)
    have ht2 := hM2.2.2.2.2.2.2.2.1 ((nx T n c) + 1)
    have hc2 := hM2.2.2.2.2.2.2.1
    have hn2 := hM2.2.2.2.2.2.1
    have hs2 := sgn_or T n ((nx T n c) + 1)
    refine Sx.aload_n dX12_part_45 rfl ?_
    refine Sx.callV0 dX12_part_46 lkv_X12_197 (rcv_12 (o_253 W)) (by omega) (by decide) (Nat.le_of_ble_eq_true rfl) rfl rfl (hUn (v := 0) hM2 hf2 hd2 (by omega) (hE.fa hF2) bd6_0 (by omega) (fun x3 I3 v3 g3 f3 => ?_) (fun x3 I3 g3 hM3 f3 d3 => ?_))
    · skip
      have hF3 := (hF2).tr g3
      have hq3 := pz_q (T := T) (e := e) k 4 dp ((nx T n c) + 1) 0 hM2.2.2.2.2.2.2.1
      refine Sx.istore (lv' := [(4, .int (b2i v3)), (3, .int (b2i (decide (v ≠ 0)))), (0, .ref 253)]) dX12_part_49 (by decide) rfl ?_
      refine Sx.iload_n dX12_part_51 rfl ?_
      refine Sx.if_eqD (t := 64) dX12_part_52 (by decide) (fun c52 => ?_) (fun c52 => ?_)
      · refine Sx.iconst (v := (nI 0)) dX12_part_64 (by decide) ?_
        refine Sx.istore_n (lv' := [(3, .int (nI 0)), (4, .int (b2i v3)), (0, .ref 253)]) dX12_part_65 (by decide) rfl ?_
        refine Sx.goto (t := 18) dX12_part_66 (by decide) ?_
        refine Sx.aload_n dX12_part_18 rfl ?_
        refine Sx.getfV (v := (nI ((pz T n e k 4 dp ((nx T n c) + 1) 0).2.1))) dX12_part_19 lkf_X12_141_12 (o_253 W) f3 ?_
        refine Sx.iconst (v := (iI (-1))) dX12_part_22 (by decide) ?_
        refine Sx.icmp_neV (t := 69) dX12_part_23 (by decide) (vN (by omega)) (vZ (by decide)) (fun c23 => ?_) (fun c23 => False.elim (by omega))
        refine Sx.iload_n dX12_part_69 rfl ?_
        refine Sx.top (show _ = b2i false from rfl) ?_
        refine Sx.iret dX12_part_70 rfl (b2i_n _) ?_
        rw [pz_9, if_pos (by omega), pb_f x3] at hR
        subst hR
        exact hno rfl I3 _ hF3 f3
      · refine Sx.iload dX12_part_55 rfl ?_
        refine Sx.if_eqB (t := 64) dX12_part_57 (by decide) (fun c57 => ?_) (fun c57 => ?_)
        · refine Sx.iconst (v := (nI 0)) dX12_part_64 (by decide) ?_
          refine Sx.istore_n (lv' := [(3, .int (nI 0)), (4, .int (b2i v3)), (0, .ref 253)]) dX12_part_65 (by decide) rfl ?_
          refine Sx.goto (t := 18) dX12_part_66 (by decide) ?_
          refine Sx.aload_n dX12_part_18 rfl ?_
          refine Sx.getfV (v := (nI ((pz T n e k 4 dp ((nx T n c) + 1) 0).2.1))) dX12_part_19 lkf_X12_141_12 (o_253 W) f3 ?_
          refine Sx.iconst (v := (iI (-1))) dX12_part_22 (by decide) ?_
          refine Sx.icmp_neV (t := 69) dX12_part_23 (by decide) (vN (by omega)) (vZ (by decide)) (fun c23 => ?_) (fun c23 => False.elim (by omega))
          refine Sx.iload_n dX12_part_69 rfl ?_
          refine Sx.top (show _ = b2i false from rfl) ?_
          refine Sx.iret dX12_part_70 rfl (b2i_n _) ?_
          rw [pz_9, if_pos (by omega), pb_f x3] at hR
          subst hR
          exact hno rfl I3 _ hF3 f3
        · refine Sx.iconst (v := (nI 1)) dX12_part_60 (by decide) ?_
          refine Sx.goto (t := 65) dX12_part_61 (by decide) ?_
          refine Sx.istore_n (lv' := [(3, .int (nI 1)), (4, .int (b2i v3)), (0, .ref 253)]) dX12_part_65 (by decide) rfl ?_
          refine Sx.goto (t := 18) dX12_part_66 (by decide) ?_
          refine Sx.aload_n dX12_part_18 rfl ?_
          refine Sx.getfV (v := (nI ((pz T n e k 4 dp ((nx T n c) + 1) 0).2.1))) dX12_part_19 lkf_X12_141_12 (o_253 W) f3 ?_
          refine Sx.iconst (v := (iI (-1))) dX12_part_22 (by decide) ?_
          refine Sx.icmp_neV (t := 69) dX12_part_23 (by decide) (vN (by omega)) (vZ (by decide)) (fun c23 => ?_) (fun c23 => False.elim (by omega))
          refine Sx.iload_n dX12_part_69 rfl ?_
          refine Sx.top (show _ = b2i true from rfl) ?_
          refine Sx.iret dX12_part_70 rfl (b2i_n _) ?_
          rw [pz_9, if_pos (by omega), pb_f x3] at hR
          subst hR
          exact hno rfl I3 _ hF3 f3
    · skip
      have hF3 := (hF2).tr g3
      obtain ⟨hp3, hb3⟩ := pz_bd hE0 k 4 dp ((nx T n c) + 1) 0 bd6_0 x3
      have hbb3 : -1000000 ≤ (pz T n e k 4 dp ((nx T n c) + 1) 0).2.2 ∧ (pz T n e k 4 dp ((nx T n c) + 1) 0).2.2 ≤ 1000000 := hb3
      have hk3 := lkN_or T n ((pz T n e k 4 dp ((nx T n c) + 1) 0).2.1)
      have ht3 := hM3.2.2.2.2.2.2.2.1 ((pz T n e k 4 dp ((nx T n c) + 1) 0).2.1)
      have hc3 := hM3.2.2.2.2.2.2.1
      have hn3 := hM3.2.2.2.2.2.1
      have hs3 := sgn_or T n ((pz T n e k 4 dp ((nx T n c) + 1) 0).2.1)
      refine Sx.istore (lv' := [(4, .int (b2i (decide ((pz T n e k 4 dp ((nx T n c) + 1) 0).2.2 ≠ 0)))), (3, .int (b2i (decide (v ≠ 0)))), (0, .ref 253)]) dX12_part_49 (by decide) rfl ?_
      refine Sx.iload_n dX12_part_51 rfl ?_
      refine Sx.if_eqD (t := 64) dX12_part_52 (by decide) (fun c52 => ?_) (fun c52 => ?_)
      · refine Sx.iconst (v := (nI 0)) dX12_part_64 (by decide) ?_
        refine Sx.istore_n (lv' := [(3, .int (nI 0)), (4, .int (b2i (decide ((pz T n e k 4 dp ((nx T n c) + 1) 0).2.2 ≠ 0)))), (0, .ref 253)]) dX12_part_65 (by decide) rfl ?_
        refine Sx.goto (t := 18) dX12_part_66 (by decide) ?_
        have hz9 : nI 0 = b2i (decide (andZ v ((pz T n e k 4 dp ((nx T n c) + 1) 0).2.2) ≠ 0)) := by
          rw [decide_eq_false (show ¬ (andZ v ((pz T n e k 4 dp ((nx T n c) + 1) 0).2.2) ≠ 0) by unfold andZ; split <;> omega)]
          rfl
        refine Sx.sub' [(3, .int (b2i (decide (andZ v ((pz T n e k 4 dp ((nx T n c) + 1) 0).2.2) ≠ 0)))), (0, .ref 253)] (by rw [← hz9]; rfl) ?_
        rw [pz_9, if_pos (by omega), pb_t x3] at hR
        subst hR
        exact hL9 hM3 f3 d3 hdp (hE.fa hF3) (bd6_10 _) (by omega) (fun x I2 y F f => hno x I2 y (FA.tr hF3 F) f) (fun x I2 F M f d => hyes x I2 (FA.tr hF3 F) M f d)
      · refine Sx.iload dX12_part_55 rfl ?_
        refine Sx.if_eqD (t := 64) dX12_part_57 (by decide) (fun c57 => ?_) (fun c57 => ?_)
        · refine Sx.iconst (v := (nI 0)) dX12_part_64 (by decide) ?_
          refine Sx.istore_n (lv' := [(3, .int (nI 0)), (4, .int (b2i (decide ((pz T n e k 4 dp ((nx T n c) + 1) 0).2.2 ≠ 0)))), (0, .ref 253)]) dX12_part_65 (by decide) rfl ?_
          refine Sx.goto (t := 18) dX12_part_66 (by decide) ?_
          have hz9 : nI 0 = b2i (decide (andZ v ((pz T n e k 4 dp ((nx T n c) + 1) 0).2.2) ≠ 0)) := by
            rw [decide_eq_false (show ¬ (andZ v ((pz T n e k 4 dp ((nx T n c) + 1) 0).2.2) ≠ 0) by unfold andZ; split <;> omega)]
            rfl
          refine Sx.sub' [(3, .int (b2i (decide (andZ v ((pz T n e k 4 dp ((nx T n c) + 1) 0).2.2) ≠ 0)))), (0, .ref 253)] (by rw [← hz9]; rfl) ?_
          rw [pz_9, if_pos (by omega), pb_t x3] at hR
          subst hR
          exact hL9 hM3 f3 d3 hdp (hE.fa hF3) (bd6_10 _) (by omega) (fun x I2 y F f => hno x I2 y (FA.tr hF3 F) f) (fun x I2 F M f d => hyes x I2 (FA.tr hF3 F) M f d)
        · refine Sx.iconst (v := (nI 1)) dX12_part_60 (by decide) ?_
          refine Sx.goto (t := 65) dX12_part_61 (by decide) ?_
          refine Sx.istore_n (lv' := [(3, .int (nI 1)), (4, .int (b2i (decide ((pz T n e k 4 dp ((nx T n c) + 1) 0).2.2 ≠ 0)))), (0, .ref 253)]) dX12_part_65 (by decide) rfl ?_
          refine Sx.goto (t := 18) dX12_part_66 (by decide) ?_
          have hz9 : nI 1 = b2i (decide (andZ v ((pz T n e k 4 dp ((nx T n c) + 1) 0).2.2) ≠ 0)) := by
            rw [decide_eq_true (show (andZ v ((pz T n e k 4 dp ((nx T n c) + 1) 0).2.2) ≠ 0) by unfold andZ; split <;> omega)]
            rfl
          refine Sx.sub' [(3, .int (b2i (decide (andZ v ((pz T n e k 4 dp ((nx T n c) + 1) 0).2.2) ≠ 0)))), (0, .ref 253)] (by rw [← hz9]; rfl) ?_
          rw [pz_9, if_pos (by omega), pb_t x3] at hR
          subst hR
          exact hL9 hM3 f3 d3 hdp (hE.fa hF3) (bd6_10 _) (by omega) (fun x I2 y F f => hno x I2 y (FA.tr hF3 F) f) (fun x I2 F M f d => hyes x I2 (FA.tr hF3 F) M f d)
set_option maxRecDepth 20000 in
set_option maxHeartbeats 1000000 in
theorem s_l10 {G : Gt} {l : Launch} {Z : Zt} {R : Rt} {L : Lt} {tx b n : Nat} {T : Nat → Nat} {e : Nat → Int} (W : WF Z R) (hE0 : ∀ s, bd6 (e s)) (k : Nat) (ih : PzAll G l Z R L tx b n T e k) : PzBL G l Z R L tx b n T e mX12_condition 30 1 10 7 (fun v => [(3, .int (b2i (decide (v ≠ 0)))), (0, .ref 253)]) (k + 1) := by
  obtain ⟨hAt, hTe, hSu, hCo, hUn, hPa, hCn, hL7, hL8, hL9, hL10, hK, hC1, hP1, hD1⟩ := ih
  intro I c dp v post hM hf hd hdp hE hbv hk hno hyes
  have hbv2 : -1000000 ≤ v ∧ v ≤ 1000000 := hbv
  have hn0 := hM.2.2.2.2.2.1
  have hc0 := hM.2.2.2.2.2.2.1
  have hRt := hM.1
  obtain ⟨N, hA, hbN, hN⟩ := hM.ar W
  obtain ⟨r, hR⟩ : ∃ r, pz T n e (k + 1) 10 dp c v = r := ⟨_, rfl⟩
  rw [hR] at hno hyes
  refine Sx.aload_n dX12_condition_7 rfl ?_
  refine Sx.getfV (v := (iI (-1))) dX12_condition_8 lkf_X12_141_12 (o_253 W) hf ?_
  refine Sx.iconst (v := (iI (-1))) dX12_condition_11 (by decide) ?_
  refine Sx.icmp_neV (t := 60) dX12_condition_12 (by decide) (vZ (by decide)) (vZ (by decide)) (fun c12 => False.elim (by omega)) (fun c12 => ?_)
  refine Sx.aload_n dX12_condition_15 rfl ?_
  refine Sx.callV0 dX12_condition_16 lkv_X12_151 (rcv_12 (o_253 W)) (by omega) (by decide) (Nat.le_of_ble_eq_true rfl) rfl rfl (k_look W hM (fun I1 hM1 g1 f1 d1 => ?_))
  have hF1 := (FA.rf I).tr g1
  have hf1 := f1.trans hf
  have hd1 := d1.trans hd
  have hx1 := nx_b T n c
  have hk1 := lkN_or T n (nx T n c)
  have ht1 := hM1.2.2.2.2.2.2.2.1 (nx T n c)
  have hc1 := hM1.2.2.2.2.2.2.1
  have hn1 := hM1.2.2.2.2.2.1
  have hs1 := sgn_or T n (nx T n c)
  refine Sx.bipush (v := (nI 124)) dX12_condition_19 (by decide) ?_
  refine Sx.icmp_neV (t := 60) dX12_condition_21 (by decide) (vZ (by omega)) (vN (by decide)) (fun c21 => ?_) (fun c21 => ?_)
  · refine Sx.iload_n dX12_condition_60 rfl ?_
    refine Sx.iret dX12_condition_61 rfl (b2i_n _) ?_
    rw [pz_10, if_neg (by omega)] at hR
    subst hR
    exact hyes rfl I1 hF1 hM1 hf1 hd1
  · refine Sx.aload_n dX12_condition_24 rfl ?_
    refine Sx.dup dX12_condition_25 rfl ?_
    refine Sx.getfV (v := (nI (nx T n c))) dX12_condition_26 lkf_X12_132_12 (o_253 W) hM1.at_ ?_
    refine Sx.iconst (v := (nI 1)) dX12_condition_29 (by decide) ?_
    refine Sx.iaddN dX12_condition_30 ?_
    refine Sx.putfV dX12_condition_31 lkp_X12_132_12 (o_253 W) rfl rfl (fun I2 e2 o2 => ?_)
    have hM2 : MR R I2 tx b n ((nx T n c) + 1) T := hM1.mv ((nx T n c) + 1) (by omega) (FA.up (by decide) e2 o2) (by rw [e2, upd_at])
    have hF2 := (hF1).tr (FA.up (by decide) e2 o2)
    have hf2 := Eq.trans (by rw [e2, upd_nj _ _ (by decide)] : I2 253 11 = I1 253 11) hf1
    have hd2 := Eq.trans (by rw [e2, upd_nj _ _ (by decide)] : I2 253 12 = I1 253 12) hd1
    have hk2 := lkN_or T n ((nx T n c) + 1)
    have ht2 := hM2.2.2.2.2.2.2.2.1 ((nx T n c) + 1)
    have hc2 := hM2.2.2.2.2.2.2.1
    have hn2 := hM2.2.2.2.2.2.1
    have hs2 := sgn_or T n ((nx T n c) + 1)
    refine Sx.aload_n dX12_condition_34 rfl ?_
    refine Sx.iconst (v := (nI 0)) dX12_condition_35 (by decide) ?_
    refine Sx.iconst (v := (nI 0)) dX12_condition_36 (by decide) ?_
    refine Sx.callV2 dX12_condition_37 lkv_X12_207 (rcv_12 (o_253 W)) (by omega) (by decide) (Nat.le_of_ble_eq_true rfl) rfl rfl (hPa (v := 0) hM2 hf2 hd2 (by omega) (hE.fa hF2) bd6_0 (by omega) (fun x3 I3 v3 g3 f3 => ?_) (fun x3 I3 g3 hM3 f3 d3 => ?_))
    · skip
      have hF3 := (hF2).tr g3
      have hq3 := pz_q (T := T) (e := e) k 5 dp ((nx T n c) + 1) 0 hM2.2.2.2.2.2.2.1
      refine Sx.istore (lv' := [(4, .int (b2i v3)), (3, .int (b2i (decide (v ≠ 0)))), (0, .ref 253)]) dX12_condition_40 (by decide) rfl ?_
      refine Sx.iload_n dX12_condition_42 rfl ?_
      refine Sx.if_neD (t := 51) dX12_condition_43 (by decide) (fun c43 => ?_) (fun c43 => ?_)
      · refine Sx.iconst (v := (nI 1)) dX12_condition_51 (by decide) ?_
        refine Sx.goto (t := 56) dX12_condition_52 (by decide) ?_
        refine Sx.istore_n (lv' := [(3, .int (nI 1)), (4, .int (b2i v3)), (0, .ref 253)]) dX12_condition_56 (by decide) rfl ?_
        refine Sx.goto (t := 7) dX12_condition_57 (by decide) ?_
        refine Sx.aload_n dX12_condition_7 rfl ?_
        refine Sx.getfV (v := (nI ((pz T n e k 5 dp ((nx T n c) + 1) 0).2.1))) dX12_condition_8 lkf_X12_141_12 (o_253 W) f3 ?_
        refine Sx.iconst (v := (iI (-1))) dX12_condition_11 (by decide) ?_
        refine Sx.icmp_neV (t := 60) dX12_condition_12 (by decide) (vN (by omega)) (vZ (by decide)) (fun c12 => ?_) (fun c12 => False.elim (by omega))
        refine Sx.iload_n dX12_condition_60 rfl ?_
        refine Sx.top (show _ = b2i true from rfl) ?_
        refine Sx.iret dX12_condition_61 rfl (b2i_n _) ?_
        rw [pz_10, if_pos (by omega), pb_f x3] at hR
        subst hR
        exact hno rfl I3 _ hF3 f3
      · refine Sx.iload dX12_condition_46 rfl ?_
        refine Sx.if_eqB (t := 55) dX12_condition_48 (by decide) (fun c48 => ?_) (fun c48 => ?_)
        · refine Sx.iconst (v := (nI 0)) dX12_condition_55 (by decide) ?_
          refine Sx.istore_n (lv' := [(3, .int (nI 0)), (4, .int (b2i v3)), (0, .ref 253)]) dX12_condition_56 (by decide) rfl ?_
          refine Sx.goto (t := 7) dX12_condition_57 (by decide) ?_
          refine Sx.aload_n dX12_condition_7 rfl ?_
          refine Sx.getfV (v := (nI ((pz T n e k 5 dp ((nx T n c) + 1) 0).2.1))) dX12_condition_8 lkf_X12_141_12 (o_253 W) f3 ?_
          refine Sx.iconst (v := (iI (-1))) dX12_condition_11 (by decide) ?_
          refine Sx.icmp_neV (t := 60) dX12_condition_12 (by decide) (vN (by omega)) (vZ (by decide)) (fun c12 => ?_) (fun c12 => False.elim (by omega))
          refine Sx.iload_n dX12_condition_60 rfl ?_
          refine Sx.top (show _ = b2i false from rfl) ?_
          refine Sx.iret dX12_condition_61 rfl (b2i_n _) ?_
          rw [pz_10, if_pos (by omega), pb_f x3] at hR
          subst hR
          exact hno rfl I3 _ hF3 f3
        · refine Sx.iconst (v := (nI 1)) dX12_condition_51 (by decide) ?_
          refine Sx.goto (t := 56) dX12_condition_52 (by decide) ?_
          refine Sx.istore_n (lv' := [(3, .int (nI 1)), (4, .int (b2i v3)), (0, .ref 253)]) dX12_condition_56 (by decide) rfl ?_
          refine Sx.goto (t := 7) dX12_condition_57 (by decide) ?_
          refine Sx.aload_n dX12_condition_7 rfl ?_
          refine Sx.getfV (v := (nI ((pz T n e k 5 dp ((nx T n c) + 1) 0).2.1))) dX12_condition_8 lkf_X12_141_12 (o_253 W) f3 ?_
          refine Sx.iconst (v := (iI (-1))) dX12_condition_11 (by decide) ?_
          refine Sx.icmp_neV (t := 60) dX12_condition_12 (by decide) (vN (by omega)) (vZ (by decide)) (fun c12 => ?_) (fun c12 => False.elim (by omega))
          refine Sx.iload_n dX12_condition_60 rfl ?_
          refine Sx.top (show _ = b2i true from rfl) ?_
          refine Sx.iret dX12_condition_61 rfl (b2i_n _) ?_
          rw [pz_10, if_pos (by omega), pb_f x3] at hR
          subst hR
          exact hno rfl I3 _ hF3 f3
    · skip
      have hF3 := (hF2).tr g3
      obtain ⟨hp3, hb3⟩ := pz_bd hE0 k 5 dp ((nx T n c) + 1) 0 bd6_0 x3
      have hbb3 : -1000000 ≤ (pz T n e k 5 dp ((nx T n c) + 1) 0).2.2 ∧ (pz T n e k 5 dp ((nx T n c) + 1) 0).2.2 ≤ 1000000 := hb3
      have hk3 := lkN_or T n ((pz T n e k 5 dp ((nx T n c) + 1) 0).2.1)
      have ht3 := hM3.2.2.2.2.2.2.2.1 ((pz T n e k 5 dp ((nx T n c) + 1) 0).2.1)
      have hc3 := hM3.2.2.2.2.2.2.1
      have hn3 := hM3.2.2.2.2.2.1
      have hs3 := sgn_or T n ((pz T n e k 5 dp ((nx T n c) + 1) 0).2.1)
      refine Sx.istore (lv' := [(4, .int (b2i (decide ((pz T n e k 5 dp ((nx T n c) + 1) 0).2.2 ≠ 0)))), (3, .int (b2i (decide (v ≠ 0)))), (0, .ref 253)]) dX12_condition_40 (by decide) rfl ?_
      refine Sx.iload_n dX12_condition_42 rfl ?_
      refine Sx.if_neD (t := 51) dX12_condition_43 (by decide) (fun c43 => ?_) (fun c43 => ?_)
      · refine Sx.iconst (v := (nI 1)) dX12_condition_51 (by decide) ?_
        refine Sx.goto (t := 56) dX12_condition_52 (by decide) ?_
        refine Sx.istore_n (lv' := [(3, .int (nI 1)), (4, .int (b2i (decide ((pz T n e k 5 dp ((nx T n c) + 1) 0).2.2 ≠ 0)))), (0, .ref 253)]) dX12_condition_56 (by decide) rfl ?_
        refine Sx.goto (t := 7) dX12_condition_57 (by decide) ?_
        have hz9 : nI 1 = b2i (decide (orZ v ((pz T n e k 5 dp ((nx T n c) + 1) 0).2.2) ≠ 0)) := by
          rw [decide_eq_true (show (orZ v ((pz T n e k 5 dp ((nx T n c) + 1) 0).2.2) ≠ 0) by unfold orZ; split <;> omega)]
          rfl
        refine Sx.sub' [(3, .int (b2i (decide (orZ v ((pz T n e k 5 dp ((nx T n c) + 1) 0).2.2) ≠ 0)))), (0, .ref 253)] (by rw [← hz9]; rfl) ?_
        rw [pz_10, if_pos (by omega), pb_t x3] at hR
        subst hR
        exact hL10 hM3 f3 d3 hdp (hE.fa hF3) (bd6_10 _) (by omega) (fun x I2 y F f => hno x I2 y (FA.tr hF3 F) f) (fun x I2 F M f d => hyes x I2 (FA.tr hF3 F) M f d)
      · refine Sx.iload dX12_condition_46 rfl ?_
        refine Sx.if_eqD (t := 55) dX12_condition_48 (by decide) (fun c48 => ?_) (fun c48 => ?_)
        · refine Sx.iconst (v := (nI 0)) dX12_condition_55 (by decide) ?_
          refine Sx.istore_n (lv' := [(3, .int (nI 0)), (4, .int (b2i (decide ((pz T n e k 5 dp ((nx T n c) + 1) 0).2.2 ≠ 0)))), (0, .ref 253)]) dX12_condition_56 (by decide) rfl ?_
          refine Sx.goto (t := 7) dX12_condition_57 (by decide) ?_
          have hz9 : nI 0 = b2i (decide (orZ v ((pz T n e k 5 dp ((nx T n c) + 1) 0).2.2) ≠ 0)) := by
            rw [decide_eq_false (show ¬ (orZ v ((pz T n e k 5 dp ((nx T n c) + 1) 0).2.2) ≠ 0) by unfold orZ; split <;> omega)]
            rfl
          refine Sx.sub' [(3, .int (b2i (decide (orZ v ((pz T n e k 5 dp ((nx T n c) + 1) 0).2.2) ≠ 0)))), (0, .ref 253)] (by rw [← hz9]; rfl) ?_
          rw [pz_10, if_pos (by omega), pb_t x3] at hR
          subst hR
          exact hL10 hM3 f3 d3 hdp (hE.fa hF3) (bd6_10 _) (by omega) (fun x I2 y F f => hno x I2 y (FA.tr hF3 F) f) (fun x I2 F M f d => hyes x I2 (FA.tr hF3 F) M f d)
        · refine Sx.iconst (v := (nI 1)) dX12_condition_51 (by decide) ?_
          refine Sx.goto (t := 56) dX12_condition_52 (by decide) ?_
          refine Sx.istore_n (lv' := [(3, .int (nI 1)), (4, .int (b2i (decide ((pz T n e k 5 dp ((nx T n c) + 1) 0).2.2 ≠ 0)))), (0, .ref 253)]) dX12_condition_56 (by decide) rfl ?_
          refine Sx.goto (t := 7) dX12_condition_57 (by decide) ?_
          have hz9 : nI 1 = b2i (decide (orZ v ((pz T n e k 5 dp ((nx T n c) + 1) 0).2.2) ≠ 0)) := by
            rw [decide_eq_true (show (orZ v ((pz T n e k 5 dp ((nx T n c) + 1) 0).2.2) ≠ 0) by unfold orZ; split <;> omega)]
            rfl
          refine Sx.sub' [(3, .int (b2i (decide (orZ v ((pz T n e k 5 dp ((nx T n c) + 1) 0).2.2) ≠ 0)))), (0, .ref 253)] (by rw [← hz9]; rfl) ?_
          rw [pz_10, if_pos (by omega), pb_t x3] at hR
          subst hR
          exact hL10 hM3 f3 d3 hdp (hE.fa hF3) (bd6_10 _) (by omega) (fun x I2 y F f => hno x I2 y (FA.tr hF3 F) f) (fun x I2 F M f d => hyes x I2 (FA.tr hF3 F) M f d)
set_option maxRecDepth 20000 in
set_option maxHeartbeats 1000000 in
theorem s_part {G : Gt} {l : Launch} {Z : Zt} {R : Rt} {L : Lt} {tx b n : Nat} {T : Nat → Nat} {e : Nat → Int} (W : WF Z R) (hE0 : ∀ s, bd6 (e s)) (k : Nat) (ih : PzAll G l Z R L tx b n T e k) : PzB G l Z R L tx b n T e mX12_part 29 6 5 (fun _ => [.ref 253, .int (nI 0), .int (nI 0)]) (k + 1) := by
  obtain ⟨hAt, hTe, hSu, hCo, hUn, hPa, hCn, hL7, hL8, hL9, hL10, hK, hC1, hP1, hD1⟩ := ih
  intro I c dp v post hM hf hd hdp hE hbv hk hno hyes
  have hbv2 : -1000000 ≤ v ∧ v ≤ 1000000 := hbv
  have hn0 := hM.2.2.2.2.2.1
  have hc0 := hM.2.2.2.2.2.2.1
  have hRt := hM.1
  obtain ⟨N, hA, hbN, hN⟩ := hM.ar W
  obtain ⟨r, hR⟩ : ∃ r, pz T n e (k + 1) 5 dp c v = r := ⟨_, rfl⟩
  rw [hR] at hno hyes
  refine Cx.of (by decide +kernel) (by exact Nat.le_of_ble_eq_true rfl) ?_
  refine Sx.iload_n dX12_part_0 rfl ?_
  refine Sx.if_eqV (t := 13) dX12_part_1 (by decide) (vN (by decide)) (fun c1 => ?_) (fun c1 => False.elim (by omega))
  refine Sx.aload_n dX12_part_13 rfl ?_
  refine Sx.callV0 dX12_part_14 lkv_X12_197 (rcv_12 (o_253 W)) (by omega) (by decide) (Nat.le_of_ble_eq_true rfl) rfl rfl (hUn (v := 0) hM hf hd (by omega) (hE.fa (FA.rf I)) bd6_0 (by omega) (fun x1 I1 v1 g1 f1 => ?_) (fun x1 I1 g1 hM1 f1 d1 => ?_))
  · skip
    have hF1 := (FA.rf I).tr g1
    have hq1 := pz_q (T := T) (e := e) k 4 dp c 0 hM.2.2.2.2.2.2.1
    refine Sx.istore_n (lv' := [(3, .int (b2i v1)), (0, .ref 253), (1, .int (nI 0)), (2, .int (nI 0))]) dX12_part_17 (by decide) rfl ?_
    refine Sx.aload_n dX12_part_18 rfl ?_
    refine Sx.getfV (v := (nI ((pz T n e k 4 dp c 0).2.1))) dX12_part_19 lkf_X12_141_12 (o_253 W) f1 ?_
    refine Sx.iconst (v := (iI (-1))) dX12_part_22 (by decide) ?_
    refine Sx.icmp_neV (t := 69) dX12_part_23 (by decide) (vN (by omega)) (vZ (by decide)) (fun c23 => ?_) (fun c23 => False.elim (by omega))
    refine Sx.iload_n dX12_part_69 rfl ?_
    refine Sx.iret dX12_part_70 rfl (b2i_n _) ?_
    rw [pz_5, pb_f x1] at hR
    subst hR
    exact hno rfl I1 _ hF1 f1
  · skip
    have hF1 := (FA.rf I).tr g1
    obtain ⟨hp1, hb1⟩ := pz_bd hE0 k 4 dp c 0 bd6_0 x1
    have hbb1 : -1000000 ≤ (pz T n e k 4 dp c 0).2.2 ∧ (pz T n e k 4 dp c 0).2.2 ≤ 1000000 := hb1
    have hk1 := lkN_or T n ((pz T n e k 4 dp c 0).2.1)
    have ht1 := hM1.2.2.2.2.2.2.2.1 ((pz T n e k 4 dp c 0).2.1)
    have hc1 := hM1.2.2.2.2.2.2.1
    have hn1 := hM1.2.2.2.2.2.1
    have hs1 := sgn_or T n ((pz T n e k 4 dp c 0).2.1)
    refine Sx.istore_n (lv' := [(3, .int (b2i (decide ((pz T n e k 4 dp c 0).2.2 ≠ 0)))), (0, .ref 253), (1, .int (nI 0)), (2, .int (nI 0))]) dX12_part_17 (by decide) rfl ?_
    refine Sx.sub' [(3, .int (b2i (decide ((pz T n e k 4 dp c 0).2.2 ≠ 0)))), (0, .ref 253)] rfl ?_
    rw [pz_5, pb_t x1] at hR
    subst hR
    exact hL9 hM1 f1 d1 hdp (hE.fa hF1) hb1 (by omega) (fun x I2 y F f => hno x I2 y (FA.tr hF1 F) f) (fun x I2 F M f d => hyes x I2 (FA.tr hF1 F) M f d)
set_option maxRecDepth 20000 in
set_option maxHeartbeats 1000000 in
theorem s_part1 {G : Gt} {l : Launch} {Z : Zt} {R : Rt} {L : Lt} {tx b n : Nat} {T : Nat → Nat} {e : Nat → Int} (W : WF Z R) (hE0 : ∀ s, bd6 (e s)) (k : Nat) (ih : PzAll G l Z R L tx b n T e k) : PzB G l Z R L tx b n T e mX12_part 29 4 12 (fun v => [.ref 253, .int (nI 1), .int (iI v)]) (k + 1) := by
  obtain ⟨hAt, hTe, hSu, hCo, hUn, hPa, hCn, hL7, hL8, hL9, hL10, hK, hC1, hP1, hD1⟩ := ih
  intro I c dp v post hM hf hd hdp hE hbv hk hno hyes
  have hbv2 : -1000000 ≤ v ∧ v ≤ 1000000 := hbv
  have hn0 := hM.2.2.2.2.2.1
  have hc0 := hM.2.2.2.2.2.2.1
  have hRt := hM.1
  obtain ⟨N, hA, hbN, hN⟩ := hM.ar W
  obtain ⟨r, hR⟩ : ∃ r, pz T n e (k + 1) 12 dp c v = r := ⟨_, rfl⟩
  rw [hR] at hno hyes
  refine Cx.of (by decide +kernel) (by exact Nat.le_of_ble_eq_true rfl) ?_
  refine Sx.iload_n dX12_part_0 rfl ?_
  refine Sx.if_eqV (t := 13) dX12_part_1 (by decide) (vN (by decide)) (fun c1 => False.elim (by omega)) (fun c1 => ?_)
  refine Sx.aload_n dX12_part_4 rfl ?_
  refine Sx.iconst (v := (nI 1)) dX12_part_5 (by decide) ?_
  refine Sx.iload_n dX12_part_6 rfl ?_
  refine Sx.callV2 dX12_part_7 lkv_X12_204 (rcv_12 (o_253 W)) (by omega) (by decide) (Nat.le_of_ble_eq_true rfl) rfl rfl (hC1 (v := v) hM hf hd (by omega) (hE.fa (FA.rf I)) hbv (by omega) (fun x1 I1 v1 g1 f1 => ?_) (fun x1 I1 g1 hM1 f1 d1 => ?_))
  · skip
    have hF1 := (FA.rf I).tr g1
    have hq1 := pz_q (T := T) (e := e) k 11 dp c v hM.2.2.2.2.2.2.1
    refine Sx.goto (t := 17) dX12_part_10 (by decide) ?_
    refine Sx.istore_n (lv' := [(3, .int (b2i v1)), (0, .ref 253), (1, .int (nI 1)), (2, .int (iI v))]) dX12_part_17 (by decide) rfl ?_
    refine Sx.aload_n dX12_part_18 rfl ?_
    refine Sx.getfV (v := (nI ((pz T n e k 11 dp c v).2.1))) dX12_part_19 lkf_X12_141_12 (o_253 W) f1 ?_
    refine Sx.iconst (v := (iI (-1))) dX12_part_22 (by decide) ?_
    refine Sx.icmp_neV (t := 69) dX12_part_23 (by decide) (vN (by omega)) (vZ (by decide)) (fun c23 => ?_) (fun c23 => False.elim (by omega))
    refine Sx.iload_n dX12_part_69 rfl ?_
    refine Sx.iret dX12_part_70 rfl (b2i_n _) ?_
    rw [pz_12, pb_f x1] at hR
    subst hR
    exact hno rfl I1 _ hF1 f1
  · skip
    have hF1 := (FA.rf I).tr g1
    obtain ⟨hp1, hb1⟩ := pz_bd hE0 k 11 dp c v hbv x1
    have hbb1 : -1000000 ≤ (pz T n e k 11 dp c v).2.2 ∧ (pz T n e k 11 dp c v).2.2 ≤ 1000000 := hb1
    have hk1 := lkN_or T n ((pz T n e k 11 dp c v).2.1)
    have ht1 := hM1.2.2.2.2.2.2.2.1 ((pz T n e k 11 dp c v).2.1)
    have hc1 := hM1.2.2.2.2.2.2.1
    have hn1 := hM1.2.2.2.2.2.1
    have hs1 := sgn_or T n ((pz T n e k 11 dp c v).2.1)
    refine Sx.goto (t := 17) dX12_part_10 (by decide) ?_
    refine Sx.istore_n (lv' := [(3, .int (b2i (decide ((pz T n e k 11 dp c v).2.2 ≠ 0)))), (0, .ref 253), (1, .int (nI 1)), (2, .int (iI v))]) dX12_part_17 (by decide) rfl ?_
    refine Sx.sub' [(3, .int (b2i (decide ((pz T n e k 11 dp c v).2.2 ≠ 0)))), (0, .ref 253)] rfl ?_
    rw [pz_12, pb_t x1] at hR
    subst hR
    exact hL9 hM1 f1 d1 hdp (hE.fa hF1) hb1 (by omega) (fun x I2 y F f => hno x I2 y (FA.tr hF1 F) f) (fun x I2 F M f d => hyes x I2 (FA.tr hF1 F) M f d)
set_option maxRecDepth 20000 in
set_option maxHeartbeats 1000000 in
theorem s_cond {G : Gt} {l : Launch} {Z : Zt} {R : Rt} {L : Lt} {tx b n : Nat} {T : Nat → Nat} {e : Nat → Int} (W : WF Z R) (hE0 : ∀ s, bd6 (e s)) (k : Nat) (ih : PzAll G l Z R L tx b n T e k) : PzB G l Z R L tx b n T e mX12_condition 30 7 6 (fun _ => [.ref 253, .int (nI 0), .int (nI 0)]) (k + 1) := by
  obtain ⟨hAt, hTe, hSu, hCo, hUn, hPa, hCn, hL7, hL8, hL9, hL10, hK, hC1, hP1, hD1⟩ := ih
  intro I c dp v post hM hf hd hdp hE hbv hk hno hyes
  have hbv2 : -1000000 ≤ v ∧ v ≤ 1000000 := hbv
  have hn0 := hM.2.2.2.2.2.1
  have hc0 := hM.2.2.2.2.2.2.1
  have hRt := hM.1
  obtain ⟨N, hA, hbN, hN⟩ := hM.ar W
  obtain ⟨r, hR⟩ : ∃ r, pz T n e (k + 1) 6 dp c v = r := ⟨_, rfl⟩
  rw [hR] at hno hyes
  refine Cx.of (by decide +kernel) (by exact Nat.le_of_ble_eq_true rfl) ?_
  refine Sx.aload_n dX12_condition_0 rfl ?_
  refine Sx.iload_n dX12_condition_1 rfl ?_
  refine Sx.iload_n dX12_condition_2 rfl ?_
  refine Sx.callV2 dX12_condition_3 lkv_X12_207 (rcv_12 (o_253 W)) (by omega) (by decide) (Nat.le_of_ble_eq_true rfl) rfl rfl (hPa (v := 0) hM hf hd (by omega) (hE.fa (FA.rf I)) bd6_0 (by omega) (fun x1 I1 v1 g1 f1 => ?_) (fun x1 I1 g1 hM1 f1 d1 => ?_))
  · skip
    have hF1 := (FA.rf I).tr g1
    have hq1 := pz_q (T := T) (e := e) k 5 dp c 0 hM.2.2.2.2.2.2.1
    refine Sx.istore_n (lv' := [(3, .int (b2i v1)), (0, .ref 253), (1, .int (nI 0)), (2, .int (nI 0))]) dX12_condition_6 (by decide) rfl ?_
    refine Sx.aload_n dX12_condition_7 rfl ?_
    refine Sx.getfV (v := (nI ((pz T n e k 5 dp c 0).2.1))) dX12_condition_8 lkf_X12_141_12 (o_253 W) f1 ?_
    refine Sx.iconst (v := (iI (-1))) dX12_condition_11 (by decide) ?_
    refine Sx.icmp_neV (t := 60) dX12_condition_12 (by decide) (vN (by omega)) (vZ (by decide)) (fun c12 => ?_) (fun c12 => False.elim (by omega))
    refine Sx.iload_n dX12_condition_60 rfl ?_
    refine Sx.iret dX12_condition_61 rfl (b2i_n _) ?_
    rw [pz_6, pb_f x1] at hR
    subst hR
    exact hno rfl I1 _ hF1 f1
  · skip
    have hF1 := (FA.rf I).tr g1
    obtain ⟨hp1, hb1⟩ := pz_bd hE0 k 5 dp c 0 bd6_0 x1
    have hbb1 : -1000000 ≤ (pz T n e k 5 dp c 0).2.2 ∧ (pz T n e k 5 dp c 0).2.2 ≤ 1000000 := hb1
    have hk1 := lkN_or T n ((pz T n e k 5 dp c 0).2.1)
    have ht1 := hM1.2.2.2.2.2.2.2.1 ((pz T n e k 5 dp c 0).2.1)
    have hc1 := hM1.2.2.2.2.2.2.1
    have hn1 := hM1.2.2.2.2.2.1
    have hs1 := sgn_or T n ((pz T n e k 5 dp c 0).2.1)
    refine Sx.istore_n (lv' := [(3, .int (b2i (decide ((pz T n e k 5 dp c 0).2.2 ≠ 0)))), (0, .ref 253), (1, .int (nI 0)), (2, .int (nI 0))]) dX12_condition_6 (by decide) rfl ?_
    refine Sx.sub' [(3, .int (b2i (decide ((pz T n e k 5 dp c 0).2.2 ≠ 0)))), (0, .ref 253)] rfl ?_
    rw [pz_6, pb_t x1] at hR
    subst hR
    exact hL10 hM1 f1 d1 hdp (hE.fa hF1) hb1 (by omega) (fun x I2 y F f => hno x I2 y (FA.tr hF1 F) f) (fun x I2 F M f d => hyes x I2 (FA.tr hF1 F) M f d)
set_option maxRecDepth 20000 in
set_option maxHeartbeats 1000000 in
theorem s_cond1 {G : Gt} {l : Launch} {Z : Zt} {R : Rt} {L : Lt} {tx b n : Nat} {T : Nat → Nat} {e : Nat → Int} (W : WF Z R) (hE0 : ∀ s, bd6 (e s)) (k : Nat) (ih : PzAll G l Z R L tx b n T e k) : PzB G l Z R L tx b n T e mX12_condition 30 5 13 (fun v => [.ref 253, .int (nI 1), .int (iI v)]) (k + 1) := by
  obtain ⟨hAt, hTe, hSu, hCo, hUn, hPa, hCn, hL7, hL8, hL9, hL10, hK, hC1, hP1, hD1⟩ := ih
  intro I c dp v post hM hf hd hdp hE hbv hk hno hyes
  have hbv2 : -1000000 ≤ v ∧ v ≤ 1000000 := hbv
  have hn0 := hM.2.2.2.2.2.1
  have hc0 := hM.2.2.2.2.2.2.1
  have hRt := hM.1
  obtain ⟨N, hA, hbN, hN⟩ := hM.ar W
  obtain ⟨r, hR⟩ : ∃ r, pz T n e (k + 1) 13 dp c v = r := ⟨_, rfl⟩
  rw [hR] at hno hyes
  refine Cx.of (by decide +kernel) (by exact Nat.le_of_ble_eq_true rfl) ?_
  refine Sx.aload_n dX12_condition_0 rfl ?_
  refine Sx.iload_n dX12_condition_1 rfl ?_
  refine Sx.iload_n dX12_condition_2 rfl ?_
  refine Sx.callV2 dX12_condition_3 lkv_X12_207 (rcv_12 (o_253 W)) (by omega) (by decide) (Nat.le_of_ble_eq_true rfl) rfl rfl (hP1 (v := v) hM hf hd (by omega) (hE.fa (FA.rf I)) hbv (by omega) (fun x1 I1 v1 g1 f1 => ?_) (fun x1 I1 g1 hM1 f1 d1 => ?_))
  · skip
    have hF1 := (FA.rf I).tr g1
    have hq1 := pz_q (T := T) (e := e) k 12 dp c v hM.2.2.2.2.2.2.1
    refine Sx.istore_n (lv' := [(3, .int (b2i v1)), (0, .ref 253), (1, .int (nI 1)), (2, .int (iI v))]) dX12_condition_6 (by decide) rfl ?_
    refine Sx.aload_n dX12_condition_7 rfl ?_
    refine Sx.getfV (v := (nI ((pz T n e k 12 dp c v).2.1))) dX12_condition_8 lkf_X12_141_12 (o_253 W) f1 ?_
    refine Sx.iconst (v := (iI (-1))) dX12_condition_11 (by decide) ?_
    refine Sx.icmp_neV (t := 60) dX12_condition_12 (by decide) (vN (by omega)) (vZ (by decide)) (fun c12 => ?_) (fun c12 => False.elim (by omega))
    refine Sx.iload_n dX12_condition_60 rfl ?_
    refine Sx.iret dX12_condition_61 rfl (b2i_n _) ?_
    rw [pz_13, pb_f x1] at hR
    subst hR
    exact hno rfl I1 _ hF1 f1
  · skip
    have hF1 := (FA.rf I).tr g1
    obtain ⟨hp1, hb1⟩ := pz_bd hE0 k 12 dp c v hbv x1
    have hbb1 : -1000000 ≤ (pz T n e k 12 dp c v).2.2 ∧ (pz T n e k 12 dp c v).2.2 ≤ 1000000 := hb1
    have hk1 := lkN_or T n ((pz T n e k 12 dp c v).2.1)
    have ht1 := hM1.2.2.2.2.2.2.2.1 ((pz T n e k 12 dp c v).2.1)
    have hc1 := hM1.2.2.2.2.2.2.1
    have hn1 := hM1.2.2.2.2.2.1
    have hs1 := sgn_or T n ((pz T n e k 12 dp c v).2.1)
    refine Sx.istore_n (lv' := [(3, .int (b2i (decide ((pz T n e k 12 dp c v).2.2 ≠ 0)))), (0, .ref 253), (1, .int (nI 1)), (2, .int (iI v))]) dX12_condition_6 (by decide) rfl ?_
    refine Sx.sub' [(3, .int (b2i (decide ((pz T n e k 12 dp c v).2.2 ≠ 0)))), (0, .ref 253)] rfl ?_
    rw [pz_13, pb_t x1] at hR
    subst hR
    exact hL10 hM1 f1 d1 hdp (hE.fa hF1) hb1 (by omega) (fun x I2 y F f => hno x I2 y (FA.tr hF1 F) f) (fun x I2 F M f d => hyes x I2 (FA.tr hF1 F) M f d)
set_option maxRecDepth 20000 in
set_option maxHeartbeats 1000000 in
theorem s_unit {G : Gt} {l : Launch} {Z : Zt} {R : Rt} {L : Lt} {tx b n : Nat} {T : Nat → Nat} {e : Nat → Int} (W : WF Z R) (hE0 : ∀ s, bd6 (e s)) (k : Nat) (ih : PzAll G l Z R L tx b n T e k) : PzB G l Z R L tx b n T e mX12_unit 28 5 4 (fun _ => [.ref 253]) (k + 1) := by
  obtain ⟨hAt, hTe, hSu, hCo, hUn, hPa, hCn, hL7, hL8, hL9, hL10, hK, hC1, hP1, hD1⟩ := ih
  intro I c dp v post hM hf hd hdp hE hbv hk hno hyes
  have hbv2 : -1000000 ≤ v ∧ v ≤ 1000000 := hbv
  have hn0 := hM.2.2.2.2.2.1
  have hc0 := hM.2.2.2.2.2.2.1
  have hRt := hM.1
  obtain ⟨N, hA, hbN, hN⟩ := hM.ar W
  obtain ⟨r, hR⟩ : ∃ r, pz T n e (k + 1) 4 dp c v = r := ⟨_, rfl⟩
  rw [hR] at hno hyes
  refine Cx.of (by decide +kernel) (by exact Nat.le_of_ble_eq_true rfl) ?_
  refine Sx.aload_n dX12_unit_0 rfl ?_
  refine Sx.callV0 dX12_unit_1 lkv_X12_151 (rcv_12 (o_253 W)) (by omega) (by decide) (Nat.le_of_ble_eq_true rfl) rfl rfl (k_look W hM (fun I1 hM1 g1 f1 d1 => ?_))
  have hF1 := (FA.rf I).tr g1
  have hf1 := f1.trans hf
  have hd1 := d1.trans hd
  have hx1 := nx_b T n c
  have hk1 := lkN_or T n (nx T n c)
  have ht1 := hM1.2.2.2.2.2.2.2.1 (nx T n c)
  have hc1 := hM1.2.2.2.2.2.2.1
  have hn1 := hM1.2.2.2.2.2.1
  have hs1 := sgn_or T n (nx T n c)
  refine Sx.istore_n (lv' := [(1, .int (iI (lkN T n (nx T n c)))), (0, .ref 253)]) dX12_unit_4 (by decide) rfl ?_
  refine Sx.iload_n dX12_unit_5 rfl ?_
  refine Sx.bipush (v := (nI 33)) dX12_unit_6 (by decide) ?_
  refine Sx.icmp_neV (t := 45) dX12_unit_8 (by decide) (vZ (by omega)) (vN (by decide)) (fun c8 => ?_) (fun c8 => ?_)
  · refine Sx.iload_n dX12_unit_45 rfl ?_
    refine Sx.bipush (v := (nI 40)) dX12_unit_46 (by decide) ?_
    refine Sx.icmp_neV (t := 90) dX12_unit_48 (by decide) (vZ (by omega)) (vN (by decide)) (fun c48 => ?_) (fun c48 => ?_)
    · refine Sx.aload_n dX12_unit_90 rfl ?_
      refine Sx.iconst (v := (nI 0)) dX12_unit_91 (by decide) ?_
      refine Sx.iconst (v := (nI 0)) dX12_unit_92 (by decide) ?_
      refine Sx.callV2 dX12_unit_93 lkv_X12_204 (rcv_12 (o_253 W)) (by omega) (by decide) (Nat.le_of_ble_eq_true rfl) rfl rfl (hCo (v := 0) hM1 hf1 hd1 (by omega) (hE.fa hF1) bd6_0 (by omega) (fun x2 I2 v2 g2 f2 => ?_) (fun x2 I2 g2 hM2 f2 d2 => ?_))
      · skip
        have hF2 := (hF1).tr g2
        have hq2 := pz_q (T := T) (e := e) k 3 dp (nx T n c) 0 hM1.2.2.2.2.2.2.1
        refine Sx.iret dX12_unit_96 rfl (b2i_n _) ?_
        rw [pz_4, if_neg (by omega), if_neg (by omega)] at hR
        subst hR
        exact hno x2 I2 _ hF2 f2
      · skip
        have hF2 := (hF1).tr g2
        obtain ⟨hp2, hb2⟩ := pz_bd hE0 k 3 dp (nx T n c) 0 bd6_0 x2
        have hbb2 : -1000000 ≤ (pz T n e k 3 dp (nx T n c) 0).2.2 ∧ (pz T n e k 3 dp (nx T n c) 0).2.2 ≤ 1000000 := hb2
        have hk2 := lkN_or T n ((pz T n e k 3 dp (nx T n c) 0).2.1)
        have ht2 := hM2.2.2.2.2.2.2.2.1 ((pz T n e k 3 dp (nx T n c) 0).2.1)
        have hc2 := hM2.2.2.2.2.2.2.1
        have hn2 := hM2.2.2.2.2.2.1
        have hs2 := sgn_or T n ((pz T n e k 3 dp (nx T n c) 0).2.1)
        refine Sx.iret dX12_unit_96 rfl (b2i_n _) ?_
        rw [pz_4, if_neg (by omega), if_neg (by omega)] at hR
        subst hR
        exact hyes x2 I2 hF2 hM2 f2 d2
    · refine Sx.aload_n dX12_unit_51 rfl ?_
      refine Sx.callV0 dX12_unit_52 lkv_X12_171 (rcv_12 (o_253 W)) (by omega) (by decide) (Nat.le_of_ble_eq_true rfl) rfl rfl (k_goesIn W hM1 (by omega) hf1 hd1 (by omega) (fun x3 I3 g3 f3 => ?_) (fun x3 I3 g3 hM3 f3 d3 => ?_))
      · skip
        have hF3 := (hF1).tr g3
        refine Sx.if_neB (t := 60) dX12_unit_55 (by decide) (fun c55 => False.elim (by cases c55)) (fun c55 => ?_)
        refine Sx.iconst (v := (nI 0)) dX12_unit_58 (by decide) ?_
        refine Sx.top (show _ = b2i false from rfl) ?_
        refine Sx.iret dX12_unit_59 rfl (b2i_n _) ?_
        rw [pz_4, if_neg (by omega), if_pos (by omega), if_pos x3] at hR
        subst hR
        exact hno rfl I3 false hF3 f3
      · skip
        have hF3 := (hF1).tr g3
        have hk3 := lkN_or T n (nx T n c + 1)
        have ht3 := hM3.2.2.2.2.2.2.2.1 (nx T n c + 1)
        have hc3 := hM3.2.2.2.2.2.2.1
        have hn3 := hM3.2.2.2.2.2.1
        have hs3 := sgn_or T n (nx T n c + 1)
        refine Sx.if_neB (t := 60) dX12_unit_55 (by decide) (fun c55 => ?_) (fun c55 => False.elim (by cases c55))
        refine Sx.aload_n dX12_unit_60 rfl ?_
        refine Sx.iconst (v := (nI 0)) dX12_unit_61 (by decide) ?_
        refine Sx.iconst (v := (nI 0)) dX12_unit_62 (by decide) ?_
        refine Sx.callV2 dX12_unit_63 lkv_X12_200 (rcv_12 (o_253 W)) (by omega) (by decide) (Nat.le_of_ble_eq_true rfl) rfl rfl (hCn (v := 0) hM3 f3 d3 (by omega) (hE.fa hF3) bd6_0 (by omega) (fun x4 I4 v4 g4 f4 => ?_) (fun x4 I4 g4 hM4 f4 d4 => ?_))
        · skip
          have hF4 := (hF3).tr g4
          have hq4 := pz_q (T := T) (e := e) k 6 (dp + 1) (nx T n c + 1) 0 hM3.2.2.2.2.2.2.1
          refine Sx.istore_n (lv' := [(2, .int (b2i v4)), (1, .int (iI (lkN T n (nx T n c)))), (0, .ref 253)]) dX12_unit_66 (by decide) rfl ?_
          refine Sx.aload_n dX12_unit_67 rfl ?_
          refine Sx.bipush (v := (nI 41)) dX12_unit_68 (by decide) ?_
          refine Sx.callV1 dX12_unit_70 lkv_X12_177 (rcv_12 (o_253 W)) (by omega) (by decide) (Nat.le_of_ble_eq_true rfl) rfl rfl (k_takes2 W f4 (by omega) ?_)
          refine Sx.if_neB (t := 78) dX12_unit_73 (by decide) (fun c73 => False.elim (by cases c73)) (fun c73 => ?_)
          refine Sx.iconst (v := (nI 0)) dX12_unit_76 (by decide) ?_
          refine Sx.top (show _ = b2i false from rfl) ?_
          refine Sx.iret dX12_unit_77 rfl (b2i_n _) ?_
          rw [pz_4, if_neg (by omega), if_pos (by omega), if_neg x3, pb_f x4] at hR
          subst hR
          exact hno rfl I4 false hF4 f4
        · skip
          have hF4 := (hF3).tr g4
          obtain ⟨hp4, hb4⟩ := pz_bd hE0 k 6 (dp + 1) (nx T n c + 1) 0 bd6_0 x4
          have hbb4 : -1000000 ≤ (pz T n e k 6 (dp + 1) (nx T n c + 1) 0).2.2 ∧ (pz T n e k 6 (dp + 1) (nx T n c + 1) 0).2.2 ≤ 1000000 := hb4
          have hk4 := lkN_or T n ((pz T n e k 6 (dp + 1) (nx T n c + 1) 0).2.1)
          have ht4 := hM4.2.2.2.2.2.2.2.1 ((pz T n e k 6 (dp + 1) (nx T n c + 1) 0).2.1)
          have hc4 := hM4.2.2.2.2.2.2.1
          have hn4 := hM4.2.2.2.2.2.1
          have hs4 := sgn_or T n ((pz T n e k 6 (dp + 1) (nx T n c + 1) 0).2.1)
          refine Sx.istore_n (lv' := [(2, .int (b2i (decide ((pz T n e k 6 (dp + 1) (nx T n c + 1) 0).2.2 ≠ 0)))), (1, .int (iI (lkN T n (nx T n c)))), (0, .ref 253)]) dX12_unit_66 (by decide) rfl ?_
          refine Sx.aload_n dX12_unit_67 rfl ?_
          refine Sx.bipush (v := (nI 41)) dX12_unit_68 (by decide) ?_
          refine Sx.callV1 dX12_unit_70 lkv_X12_177 (rcv_12 (o_253 W)) (by omega) (by decide) (Nat.le_of_ble_eq_true rfl) rfl rfl (k_takes W hM4 f4 d4 (by decide) (fun x6 I6 g6 f6 => ?_) (fun x6 I6 g6 hM6 f6 d6 => ?_))
          · skip
            have hF6 := (hF4).tr g6
            have hxx6 := nx_b T n ((pz T n e k 6 (dp + 1) (nx T n c + 1) 0).2.1)
            refine Sx.if_neB (t := 78) dX12_unit_73 (by decide) (fun c73 => False.elim (by cases c73)) (fun c73 => ?_)
            refine Sx.iconst (v := (nI 0)) dX12_unit_76 (by decide) ?_
            refine Sx.top (show _ = b2i false from rfl) ?_
            refine Sx.iret dX12_unit_77 rfl (b2i_n _) ?_
            rw [pz_4, if_neg (by omega), if_pos (by omega), if_neg x3, pb_t x4, if_neg x6] at hR
            subst hR
            exact hno rfl I6 false hF6 f6
          · skip
            have hF6 := (hF4).tr g6
            have hxx6 := nx_b T n ((pz T n e k 6 (dp + 1) (nx T n c + 1) 0).2.1)
            have hss6 := sgn_or T n (nx T n ((pz T n e k 6 (dp + 1) (nx T n c + 1) 0).2.1))
            have hk6 := lkN_or T n (nx T n ((pz T n e k 6 (dp + 1) (nx T n c + 1) 0).2.1) + 1)
            have ht6 := hM6.2.2.2.2.2.2.2.1 (nx T n ((pz T n e k 6 (dp + 1) (nx T n c + 1) 0).2.1) + 1)
            have hc6 := hM6.2.2.2.2.2.2.1
            have hn6 := hM6.2.2.2.2.2.1
            have hs6 := sgn_or T n (nx T n ((pz T n e k 6 (dp + 1) (nx T n c + 1) 0).2.1) + 1)
            refine Sx.if_neB (t := 78) dX12_unit_73 (by decide) (fun c73 => ?_) (fun c73 => False.elim (by cases c73))
            refine Sx.aload_n dX12_unit_78 rfl ?_
            refine Sx.dup dX12_unit_79 rfl ?_
            refine Sx.getfV (v := (nI (dp + 1))) dX12_unit_80 lkf_X12_144_12 (o_253 W) d6 ?_
            refine Sx.iconst (v := (nI 1)) dX12_unit_83 (by decide) ?_
            refine Sx.isubN dX12_unit_84 (by omega) ?_
            refine Sx.putfV dX12_unit_85 lkp_X12_144_12 (o_253 W) rfl rfl (fun I7 e7 o7 => ?_)
            have hM7 : MR R I7 tx b n (nx T n ((pz T n e k 6 (dp + 1) (nx T n c + 1) 0).2.1) + 1) T := hM6.mv (nx T n ((pz T n e k 6 (dp + 1) (nx T n c + 1) 0).2.1) + 1) (by omega) (FA.up (by decide) e7 o7) (by rw [e7, upd_nj _ _ (by decide)]; exact hM6.at_)
            have hF7 := (hF6).tr (FA.up (by decide) e7 o7)
            have hf7 := Eq.trans (by rw [e7, upd_nj _ _ (by decide)] : I7 253 11 = I6 253 11) f6
            have hd7 : I7 253 12 = nI ((dp + 1) - 1) := by rw [e7, upd_at]
            refine Sx.iload_n dX12_unit_88 rfl ?_
            refine Sx.iret dX12_unit_89 rfl (b2i_n _) ?_
            rw [pz_4, if_neg (by omega), if_pos (by omega), if_neg x3, pb_t x4, if_pos x6] at hR
            subst hR
            exact hyes rfl I7 hF7 hM7 hf7 (by have q := hd7; rwa [Nat.add_sub_cancel] at q)
  · refine Sx.aload_n dX12_unit_11 rfl ?_
    refine Sx.callV0 dX12_unit_12 lkv_X12_171 (rcv_12 (o_253 W)) (by omega) (by decide) (Nat.le_of_ble_eq_true rfl) rfl rfl (k_goesIn W hM1 (by omega) hf1 hd1 (by omega) (fun x8 I8 g8 f8 => ?_) (fun x8 I8 g8 hM8 f8 d8 => ?_))
    · skip
      have hF8 := (hF1).tr g8
      refine Sx.if_neB (t := 20) dX12_unit_15 (by decide) (fun c15 => False.elim (by cases c15)) (fun c15 => ?_)
      refine Sx.iconst (v := (nI 0)) dX12_unit_18 (by decide) ?_
      refine Sx.top (show _ = b2i false from rfl) ?_
      refine Sx.iret dX12_unit_19 rfl (b2i_n _) ?_
      rw [pz_4, if_pos (by omega), if_pos x8] at hR
      subst hR
      exact hno rfl I8 false hF8 f8
    · skip
      have hF8 := (hF1).tr g8
      have hk8 := lkN_or T n (nx T n c + 1)
      have ht8 := hM8.2.2.2.2.2.2.2.1 (nx T n c + 1)
      have hc8 := hM8.2.2.2.2.2.2.1
      have hn8 := hM8.2.2.2.2.2.1
      have hs8 := sgn_or T n (nx T n c + 1)
      refine Sx.if_neB (t := 20) dX12_unit_15 (by decide) (fun c15 => ?_) (fun c15 => False.elim (by cases c15))
      refine Sx.aload_n dX12_unit_20 rfl ?_
      refine Sx.callV0 dX12_unit_21 lkv_X12_197 (rcv_12 (o_253 W)) (by omega) (by decide) (Nat.le_of_ble_eq_true rfl) rfl rfl (hUn (v := 0) hM8 f8 d8 (by omega) (hE.fa hF8) bd6_0 (by omega) (fun x9 I9 v9 g9 f9 => ?_) (fun x9 I9 g9 hM9 f9 d9 => ?_))
      · skip
        have hF9 := (hF8).tr g9
        have hq9 := pz_q (T := T) (e := e) k 4 (dp + 1) (nx T n c + 1) 0 hM8.2.2.2.2.2.2.1
        refine Sx.istore_n (lv' := [(2, .int (b2i v9)), (1, .int (iI (lkN T n (nx T n c)))), (0, .ref 253)]) dX12_unit_24 (by decide) rfl ?_
        refine Sx.aload_n dX12_unit_25 rfl ?_
        refine Sx.dup dX12_unit_26 rfl ?_
        refine Sx.getfI dX12_unit_27 lkf_X12_144_12 (o_253 W) ?_
        refine Sx.iconst (v := (nI 1)) dX12_unit_30 (by decide) ?_
        refine Sx.isubV dX12_unit_31 (vX (I9 253 12)) (vN (by decide)) ?_
        refine Sx.putfV dX12_unit_32 lkp_X12_144_12 (o_253 W) rfl rfl (fun I10 e10 o10 => ?_)
        have hF10 := (hF9).tr (FA.up (by decide) e10 o10)
        have hf10 := Eq.trans (by rw [e10, upd_nj _ _ (by decide)] : I10 253 11 = I9 253 11) f9
        refine Sx.iload_n dX12_unit_35 rfl ?_
        refine Sx.if_neB (t := 43) dX12_unit_36 (by decide) (fun c36 => ?_) (fun c36 => ?_)
        · refine Sx.iconst (v := (nI 0)) dX12_unit_43 (by decide) ?_
          refine Sx.top (show _ = b2i false from rfl) ?_
          refine Sx.iret dX12_unit_44 rfl (b2i_n _) ?_
          rw [pz_4, if_pos (by omega), if_neg x8, pb_f x9] at hR
          subst hR
          exact hno rfl I10 false hF10 hf10
        · refine Sx.iconst (v := (nI 1)) dX12_unit_39 (by decide) ?_
          refine Sx.goto (t := 44) dX12_unit_40 (by decide) ?_
          refine Sx.top (show _ = b2i true from rfl) ?_
          refine Sx.iret dX12_unit_44 rfl (b2i_n _) ?_
          rw [pz_4, if_pos (by omega), if_neg x8, pb_f x9] at hR
          subst hR
          exact hno rfl I10 true hF10 hf10
      · skip
        have hF9 := (hF8).tr g9
        obtain ⟨hp9, hb9⟩ := pz_bd hE0 k 4 (dp + 1) (nx T n c + 1) 0 bd6_0 x9
        have hbb9 : -1000000 ≤ (pz T n e k 4 (dp + 1) (nx T n c + 1) 0).2.2 ∧ (pz T n e k 4 (dp + 1) (nx T n c + 1) 0).2.2 ≤ 1000000 := hb9
        have hk9 := lkN_or T n ((pz T n e k 4 (dp + 1) (nx T n c + 1) 0).2.1)
        have ht9 := hM9.2.2.2.2.2.2.2.1 ((pz T n e k 4 (dp + 1) (nx T n c + 1) 0).2.1)
        have hc9 := hM9.2.2.2.2.2.2.1
        have hn9 := hM9.2.2.2.2.2.1
        have hs9 := sgn_or T n ((pz T n e k 4 (dp + 1) (nx T n c + 1) 0).2.1)
        refine Sx.istore_n (lv' := [(2, .int (b2i (decide ((pz T n e k 4 (dp + 1) (nx T n c + 1) 0).2.2 ≠ 0)))), (1, .int (iI (lkN T n (nx T n c)))), (0, .ref 253)]) dX12_unit_24 (by decide) rfl ?_
        refine Sx.aload_n dX12_unit_25 rfl ?_
        refine Sx.dup dX12_unit_26 rfl ?_
        refine Sx.getfV (v := (nI (dp + 1))) dX12_unit_27 lkf_X12_144_12 (o_253 W) d9 ?_
        refine Sx.iconst (v := (nI 1)) dX12_unit_30 (by decide) ?_
        refine Sx.isubN dX12_unit_31 (by omega) ?_
        refine Sx.putfV dX12_unit_32 lkp_X12_144_12 (o_253 W) rfl rfl (fun I11 e11 o11 => ?_)
        have hM11 : MR R I11 tx b n ((pz T n e k 4 (dp + 1) (nx T n c + 1) 0).2.1) T := hM9.mv ((pz T n e k 4 (dp + 1) (nx T n c + 1) 0).2.1) (by omega) (FA.up (by decide) e11 o11) (by rw [e11, upd_nj _ _ (by decide)]; exact hM9.at_)
        have hF11 := (hF9).tr (FA.up (by decide) e11 o11)
        have hf11 := Eq.trans (by rw [e11, upd_nj _ _ (by decide)] : I11 253 11 = I9 253 11) f9
        have hd11 : I11 253 12 = nI ((dp + 1) - 1) := by rw [e11, upd_at]
        refine Sx.iload_n dX12_unit_35 rfl ?_
        refine Sx.if_neD (t := 43) dX12_unit_36 (by decide) (fun c36 => ?_) (fun c36 => ?_)
        · refine Sx.iconst (v := (nI 0)) dX12_unit_43 (by decide) ?_
          refine Sx.top (show _ = b2i false from rfl) ?_
          refine Sx.iret dX12_unit_44 rfl (b2i_n _) ?_
          rw [pz_4, if_pos (by omega), if_neg x8, pb_t x9] at hR
          subst hR
          rw [show b2i false = b2i (decide ((if (pz T n e k 4 (dp + 1) (nx T n c + 1) 0).2.2 = 0 then (1 : Int) else 0) ≠ 0)) from n01 _ _ (by split <;> simp <;> omega)]
          exact hyes rfl I11 hF11 hM11 hf11 (by have q := hd11; rwa [Nat.add_sub_cancel] at q)
        · refine Sx.iconst (v := (nI 1)) dX12_unit_39 (by decide) ?_
          refine Sx.goto (t := 44) dX12_unit_40 (by decide) ?_
          refine Sx.top (show _ = b2i true from rfl) ?_
          refine Sx.iret dX12_unit_44 rfl (b2i_n _) ?_
          rw [pz_4, if_pos (by omega), if_neg x8, pb_t x9] at hR
          subst hR
          rw [show b2i true = b2i (decide ((if (pz T n e k 4 (dp + 1) (nx T n c + 1) 0).2.2 = 0 then (1 : Int) else 0) ≠ 0)) from n01 _ _ (by split <;> simp <;> omega)]
          exact hyes rfl I11 hF11 hM11 hf11 (by have q := hd11; rwa [Nat.add_sub_cancel] at q)
