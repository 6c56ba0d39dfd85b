/-! Calendar: what it tells -/
set_option maxRecDepth 20000 in
set_option maxHeartbeats 1000000 in
theorem c_told {G : Gt} {l : Launch} {Z : Zt} {R : Rt} {I : It} {L : Lt} {post : Pt'} {a i k : Nat} (hr : rwo Z R a 0 60) (hk : k < 3) (hi : i < 20) (h : post (some (.int (I (a + 1) (3 * i + k)))) Z R I L) : Cx G l mX0_told 2 0 0 [.ref a, .int (nI i), .int (nI k)] Z R I L post := by
  refine Cx.of (by decide +kernel) (by exact Nat.le_of_ble_eq_true rfl) ?_
  refine Sx.aload_n dX0_told_0 rfl ?_
  refine Sx.iload_n dX0_told_1 rfl ?_
  refine Sx.iconst (v := 3) dX0_told_2 (by decide) ?_
  refine Sx.imul dX0_told_3 ?_
  refine Sx.iload_n dX0_told_4 rfl ?_
  refine Sx.iadd dX0_told_5 ?_
  refine Sx.callU1 dX0_told_6 lku_X0_15 (rcv_0 hr.1) (by decide) (by decide) (Nat.le_of_ble_eq_true rfl) rfl rfl (c_get hr rC0 (by decide) (3 * i + k) (by rw [show nI i * 3 = nI (i * 3) from pk_mul i 3, nI_add, Nat.mul_comm]) (by omega) ?_)
  refine Sx.iret dX0_told_9 rfl rfl ?_
  exact h
set_option maxRecDepth 20000 in
set_option maxHeartbeats 1000000 in
theorem c_steps {G : Gt} {l : Launch} {Z : Zt} {R : Rt} {I : It} {L : Lt} {post : Pt'} {a : Nat} (hr : rwo Z R a 0 60) (h : post (some (.int (I a 1))) Z R I L) : Cx G l mX0_steps 1 0 0 [.ref a] Z R I L post := by
  refine Cx.of (by decide +kernel) (by exact Nat.le_of_ble_eq_true rfl) ?_
  refine Sx.aload_n dX0_steps_0 rfl ?_
  refine Sx.getfI dX0_steps_1 lkf_X0_11_0 hr.1 ?_
  refine Sx.iret dX0_steps_4 rfl rfl ?_
  exact h
set_option maxRecDepth 20000 in
set_option maxHeartbeats 1000000 in
theorem c_canStep {G : Gt} {l : Launch} {Z : Zt} {R : Rt} {I : It} {L : Lt} {post : Pt'} {s : Nat} {P F : Nat → Nat} {a i : Nat} (W : WF Z R) (hp : rep 36 (I 104) P) (hr : rwo Z R s 8 146) (hs : rs (I (s + 1)) F) (hx : 119 ≤ s ∧ s < 232) (h35 : P 35 < 2 ^ 31) (hPF : P 35 ≠ 0 → PB P ∧ SB P F) (ha : rwo Z R a 0 60) (hi : i < 20) (h : post (some (.int (b2i (decide ((whN P F (I (a + 1) (3 * i)) (I (a + 1) (3 * i + 1)) (I (a + 1) (3 * i + 2))) = -1))))) Z R I L) : Cx G l mX1_canStep 5 0 0 [.ref 114, .ref s, .ref a, .int (nI i)] Z R I L post := by
  refine Cx.of (by decide +kernel) (by exact Nat.le_of_ble_eq_true rfl) ?_
  refine Sx.aload_n dX1_canStep_0 rfl ?_
  refine Sx.aload_n dX1_canStep_1 rfl ?_
  refine Sx.aload_n dX1_canStep_2 rfl ?_
  refine Sx.iload_n dX1_canStep_3 rfl ?_
  refine Sx.iconst (v := 0) dX1_canStep_4 (by decide) ?_
  refine Sx.callV2 dX1_canStep_5 lkv_X1_152 (rcv_0 ha.1) (by decide) (by decide) (Nat.le_of_ble_eq_true rfl) rfl rfl (c_told ha (k := 0) (by decide) hi ?_)
  refine Sx.aload_n dX1_canStep_8 rfl ?_
  refine Sx.iload_n dX1_canStep_9 rfl ?_
  refine Sx.iconst (v := 1) dX1_canStep_10 (by decide) ?_
  refine Sx.callV2 dX1_canStep_11 lkv_X1_152 (rcv_0 ha.1) (by decide) (by decide) (Nat.le_of_ble_eq_true rfl) rfl rfl (c_told ha (k := 1) (by decide) hi ?_)
  refine Sx.aload_n dX1_canStep_14 rfl ?_
  refine Sx.iload_n dX1_canStep_15 rfl ?_
  refine Sx.iconst (v := 2) dX1_canStep_16 (by decide) ?_
  refine Sx.callV2 dX1_canStep_17 lkv_X1_152 (rcv_0 ha.1) (by decide) (by decide) (Nat.le_of_ble_eq_true rfl) rfl rfl (c_told ha (k := 2) (by decide) hi ?_)
  refine Sx.callV4 dX1_canStep_20 lkv_X1_157 (rcv_1 (o_114 W)) (by decide) (by decide) (Nat.le_of_ble_eq_true rfl) rfl rfl (c_why W hp hr hs hx h35 hPF ?_)
  refine Sx.iconst (v := (-1)) dX1_canStep_23 (by decide) ?_
  refine Sx.icmp_ne (t := 31) dX1_canStep_24 (by decide) (fun c24 => ?_) (fun c24 => ?_)
  · refine Sx.iconst (v := 0) dX1_canStep_31 (by decide) ?_
    refine Sx.iret dX1_canStep_32 rfl rfl ?_
    change ¬ (whN P F (I (a + 1) (3 * i)) (I (a + 1) (3 * i + 1)) (I (a + 1) (3 * i + 2))) = -1 at c24
    rw [decide_eq_false c24] at h
    exact h
  · refine Sx.iconst (v := 1) dX1_canStep_27 (by decide) ?_
    refine Sx.goto (t := 32) dX1_canStep_28 (by decide) ?_
    refine Sx.iret dX1_canStep_32 rfl rfl ?_
    change (whN P F (I (a + 1) (3 * i)) (I (a + 1) (3 * i + 1)) (I (a + 1) (3 * i + 2))) = -1 at c24
    rw [decide_eq_true c24] at h
    exact h
