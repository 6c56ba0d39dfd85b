/-! the class: odds -/
set_option maxRecDepth 20000 in
set_option maxHeartbeats 1000000 in
theorem l_cpt {G : Gt} {l : Launch} {Z : Zt} {R : Rt} {I : It} {L : Lt} {post : Pt'} {m n c FF : Nat} (hm : m < 256) (hn : n ≤ 8) (hc : c ≤ 100) (h : post (some (.int (nI FF))) Z R I L) :
    ∀ (k r : Nat), r < k → ∀ (i part : Nat), i + r = n → part ≤ 1000000000 → prF c r (m / 2 ^ i) part = FF → Sx G l mX5_partOf 2 0 0 7 [(5, .int (nI i)), (3, .long (nI (part)).toInt64), (2, .int (nI c)), (1, .int (nI n)), (0, .int (nI m))] [] Z R I L post := by
  intro k
  induction k with
  | zero => intro r h1; omega
  | succ k ih =>
    intro r h1 i part hir hp hF
    have hm3 : part * c ≤ part * 100 := Nat.mul_le_mul_left _ hc
    have hq : part * c / 100 ≤ part := by omega
    refine Sx.iload dX5_partOf_7 rfl ?_
    refine Sx.iload_n dX5_partOf_9 rfl ?_
    refine Sx.icmp_geV (t := 48) dX5_partOf_10 (by decide) (vN (by omega)) (vN (by omega)) (fun c10 => ?_) (fun c10 => ?_)
    · have hr0 : r = 0 := by omega
      subst hr0
      refine Sx.lload_n dX5_partOf_48 rfl ?_
      refine Sx.l2i dX5_partOf_49 ?_
      refine Sx.iret dX5_partOf_50 rfl rfl ?_
      exact pXX (by rw [l_i32 hp, ← hF]; rfl) h
    · refine Sx.lload_n dX5_partOf_13 rfl ?_
      refine Sx.iload_n dX5_partOf_14 rfl ?_
      refine Sx.i2l dX5_partOf_15 ?_
      refine Sx.lmul dX5_partOf_16 ?_
      refine Sx.ldc2 dX5_partOf_17 lkk_X5_170 ?_
      refine Sx.ldiv dX5_partOf_20 (by decide) ?_
      refine Sx.lstore (lv' := [(6, .long ((((nI part).toInt64 * ((nI c)).toInt64) / 100))), (5, .int (nI i)), (3, .long ((nI part).toInt64)), (2, .int (nI c)), (1, .int (nI n)), (0, .int (nI m))]) dX5_partOf_21 (by decide) rfl ?_
      refine Sx.iload_n dX5_partOf_23 rfl ?_
      refine Sx.iload dX5_partOf_24 rfl ?_
      refine Sx.callSN2 dX5_partOf_26 lkc_X5_123  (by decide) (by decide) (Nat.le_of_ble_eq_true rfl) rfl rfl (c_hasBit (by omega) (by omega) ?_)
      refine Sx.if_eqB (t := 37) dX5_partOf_29 (by decide) (fun c29 => ?_) (fun c29 => ?_)
      · have hbt : ¬ m / 2 ^ i % 2 = 1 := by have h := c29; unfold hbN at h; simpa using h
        refine Sx.lload_n dX5_partOf_37 rfl ?_
        refine Sx.lload dX5_partOf_38 rfl ?_
        refine Sx.lsub dX5_partOf_40 ?_
        refine Sx.lstore_n (lv' := [(3, .long (((nI part).toInt64 - (((nI part).toInt64 * ((nI c)).toInt64) / 100)))), (6, .long ((((nI part).toInt64 * ((nI c)).toInt64) / 100))), (5, .int (nI i)), (2, .int (nI c)), (1, .int (nI n)), (0, .int (nI m))]) dX5_partOf_41 (by decide) rfl ?_
        refine Sx.iinc (v := (nI (i + 1))) (lv' := [(5, .int (nI (i + 1))), (3, .long (((nI part).toInt64 - (((nI part).toInt64 * ((nI c)).toInt64) / 100)))), (6, .long ((((nI part).toInt64 * ((nI c)).toInt64) / 100))), (2, .int (nI c)), (1, .int (nI n)), (0, .int (nI m))]) dX5_partOf_42 rfl (nI_add i 1) (by decide) rfl ?_
        refine Sx.goto (t := 7) dX5_partOf_45 (by decide) ?_
        refine Sx.sub' (lv' := [(5, .int (nI (i + 1))), (3, .long (nI (part - part * c / 100)).toInt64), (2, .int (nI c)), (1, .int (nI n)), (0, .int (nI m))]) (by rw [← sub_l hq hp, ← of_l hp hc]; rfl) ?_
        exact ih (r - 1) (by omega) (i + 1) (part - part * c / 100) (by omega) (by omega) (by rw [← hF, show r = r - 1 + 1 by omega, prF, Nat.pow_succ, Nat.div_div_eq_div_mul, Nat.add_sub_cancel, if_neg hbt])
      · have hbt : m / 2 ^ i % 2 = 1 := by have h := c29; unfold hbN at h; simpa using h
        refine Sx.lload dX5_partOf_32 rfl ?_
        refine Sx.goto (t := 41) dX5_partOf_34 (by decide) ?_
        refine Sx.lstore_n (lv' := [(3, .long ((((nI part).toInt64 * ((nI c)).toInt64) / 100))), (6, .long ((((nI part).toInt64 * ((nI c)).toInt64) / 100))), (5, .int (nI i)), (2, .int (nI c)), (1, .int (nI n)), (0, .int (nI m))]) dX5_partOf_41 (by decide) rfl ?_
        refine Sx.iinc (v := (nI (i + 1))) (lv' := [(5, .int (nI (i + 1))), (3, .long ((((nI part).toInt64 * ((nI c)).toInt64) / 100))), (6, .long ((((nI part).toInt64 * ((nI c)).toInt64) / 100))), (2, .int (nI c)), (1, .int (nI n)), (0, .int (nI m))]) dX5_partOf_42 rfl (nI_add i 1) (by decide) rfl ?_
        refine Sx.goto (t := 7) dX5_partOf_45 (by decide) ?_
        refine Sx.sub' (lv' := [(5, .int (nI (i + 1))), (3, .long (nI (part * c / 100)).toInt64), (2, .int (nI c)), (1, .int (nI n)), (0, .int (nI m))]) (by rw [← of_l hp hc]; rfl) ?_
        exact ih (r - 1) (by omega) (i + 1) (part * c / 100) (by omega) (by omega) (by rw [← hF, show r = r - 1 + 1 by omega, prF, Nat.pow_succ, Nat.div_div_eq_div_mul, Nat.add_sub_cancel, if_pos hbt])
set_option maxRecDepth 20000 in
set_option maxHeartbeats 1000000 in
theorem d_partOf {G : Gt} {l : Launch} {Z : Zt} {R : Rt} {I : It} {L : Lt} {post : Pt'} {m n c : Nat} (hm : m < 256) (hn : n ≤ 8) (hc : c ≤ 100) (h : post (some (.int (nI (prF c n m 1000000000)))) Z R I L) : Cx G l mX5_partOf 2 0 0 [.int (nI m), .int (nI n), .int (nI c)] Z R I L post := by
  refine Cx.of (by decide +kernel) (by exact Nat.le_of_ble_eq_true rfl) ?_
  refine Sx.ldc2 dX5_partOf_0 lkk_X5_168 ?_
  refine Sx.lstore_n (lv' := [(3, .long 1000000000), (0, .int (nI m)), (1, .int (nI n)), (2, .int (nI c))]) dX5_partOf_3 (by decide) rfl ?_
  refine Sx.iconst (v := (nI 0)) dX5_partOf_4 (by decide) ?_
  refine Sx.istore (lv' := [(5, .int (nI 0)), (3, .long 1000000000), (0, .int (nI m)), (1, .int (nI n)), (2, .int (nI c))]) dX5_partOf_5 (by decide) rfl ?_
  refine Sx.sub' [(5, .int (nI 0)), (3, .long (nI (1000000000)).toInt64), (2, .int (nI c)), (1, .int (nI n)), (0, .int (nI m))] (by rw [show (nI 1000000000).toInt64 = 1000000000 by decide]; rfl) ?_
  exact l_cpt hm hn hc h (n + 1) n (by omega) 0 1000000000 (by omega) (by omega) (by rw [Nat.pow_zero, Nat.div_one])
