/-! Course: draws -/
def drC (c : Int64) : Int64 := c * 6364136223846793005 + 1442695040888963407
def drV (c : Int64) (n : Nat) : Nat := c.toUInt64.toNat / 2 ^ 33 % n
theorem dr_sh (c : Int64) : (c.toUInt64 >>> ((33 : Int32).toInt64.toUInt64 &&& Int64.toUInt64 63)).toInt64 = Int64.ofNat (c.toUInt64.toNat / 2 ^ 33) := by
  rw [show (33 : Int32).toInt64.toUInt64 &&& Int64.toUInt64 63 = 33 by decide]
  have e : c.toUInt64 >>> 33 = UInt64.ofNat (c.toUInt64.toNat / 2 ^ 33) := by
    refine UInt64.toNat_inj.mp ?_
    have h1 := c.toUInt64.toNat_lt
    rw [UInt64.toNat_shiftRight, UInt64.toNat_ofNat_of_lt' (by show _ < 18446744073709551616; omega), show (33 : UInt64).toNat % 64 = 33 from rfl, Nat.shiftRight_eq_div_pow]
  rw [e]
  rfl
theorem l_ofI {n : Nat} (h : n < 2 ^ 31) : (nI n).toInt64 = Int64.ofInt (n : Int) := by
  refine Int64.toInt_inj.mp ?_
  rw [Int32.toInt_toInt64, nI_toInt h, Int64.toInt_ofInt_of_le (by omega) (by omega)]
theorem dr_val (c : Int64) {n : Nat} (h0 : 0 < n) (hn : n < 2 ^ 31) (a b : Int64) (ha : a = (c.toUInt64 >>> ((33 : Int32).toInt64.toUInt64 &&& Int64.toUInt64 63)).toInt64) (hb : b = (nI n).toInt64) : (a - a / b * b).toInt32 = nI (drV c n) := by
  have hm : c.toUInt64.toNat / 2 ^ 33 < 2 ^ 31 := by have := c.toUInt64.toNat_lt; omega
  rw [ha, hb, dr_sh, l_ofI hn]
  unfold drV
  generalize c.toUInt64.toNat / 2 ^ 33 = m at hm
  rw [show Int64.ofNat m = Int64.ofInt (m : Int) from (Int64.ofInt_eq_ofNat).symm]
  rw [← Int64.ofInt_tdiv (by show (-9223372036854775808 : Int) ≤ _; omega) (by show _ ≤ (9223372036854775807 : Int); omega) (by show (-9223372036854775808 : Int) ≤ _; omega) (by show _ ≤ (9223372036854775807 : Int); omega), ← Int64.ofInt_mul, ← Int64.ofInt_sub, Int64.toInt32_ofInt, nI_iI]
  unfold iI
  congr 1
  rw [Int.tdiv_eq_ediv_of_nonneg (by omega)]
  have := Int.emod_def (m : Int) (n : Int)
  rw [Int.mul_comm] at this
  rw [← this]
  rfl
theorem drV_lt (c : Int64) {n : Nat} (h0 : 0 < n) : drV c n < n := Nat.mod_lt _ h0
theorem up2L_at (L : Lt) (a j : Nat) (x : Int64) : up2L L a j x a j = x := by simp [up2L, va_up, vp_updL]
set_option maxRecDepth 20000 in
set_option maxHeartbeats 1000000 in
theorem c_draw {G : Gt} {l : Launch} {Z : Zt} {R : Rt} {I : It} {L : Lt} {post : Pt'} {n : Nat} (W : WF Z R) (h0 : 0 < n) (hn : n < 2 ^ 31) (h : post (some (.int (nI (drV (drC (L 114 4)) n)))) Z R I (up2L L 114 4 (drC (L 114 4)))) : Cx G l mX1_draw 1 0 0 [.ref 114, .int (nI n)] Z R I L post := by
  refine Cx.of (by decide +kernel) (by exact Nat.le_of_ble_eq_true rfl) ?_
  refine Sx.aload_n dX1_draw_0 rfl ?_
  refine Sx.aload_n dX1_draw_1 rfl ?_
  refine Sx.getfL dX1_draw_2 lkf_X1_33_1 (o_114 W) ?_
  refine Sx.ldc2 dX1_draw_5 lkk_X1_166 ?_
  refine Sx.lmul dX1_draw_8 ?_
  refine Sx.ldc2 dX1_draw_9 lkk_X1_168 ?_
  refine Sx.ladd dX1_draw_12 ?_
  refine Sx.putfL dX1_draw_13 lkp_X1_33_1 (o_114 W) rfl rfl ?_
  refine Sx.iload_n dX1_draw_16 rfl ?_
  refine Sx.if_gt (t := 24) dX1_draw_17 (by decide) (fun c17 => ?_) (fun c17 => absurd ((n_lt (a := 0) (by decide) hn).mpr h0) c17)
  refine Sx.aload_n dX1_draw_24 rfl ?_
  refine Sx.getfL dX1_draw_25 lkf_X1_33_1 (o_114 W) ?_
  refine Sx.bipush (v := 33) dX1_draw_28 (by decide) ?_
  refine Sx.lushr dX1_draw_30 ?_
  refine Sx.iload_n dX1_draw_31 rfl ?_
  refine Sx.i2l dX1_draw_32 ?_
  refine Sx.lrem dX1_draw_33 (fun q => by have := congrArg Int64.toInt q; rw [Int32.toInt_toInt64, nI_toInt hn, show (0 : Int64).toInt = 0 from rfl] at this; omega) ?_
  refine Sx.l2i dX1_draw_34 ?_
  refine Sx.iret dX1_draw_35 rfl rfl ?_
  rw [dr_val (drC (L 114 4)) h0 hn _ _ (by rw [up2L_at]; rfl) rfl]
  exact h
set_option maxRecDepth 20000 in
set_option maxHeartbeats 1000000 in
theorem c_seed {G : Gt} {l : Launch} {Z : Zt} {R : Rt} {I : It} {L : Lt} {post : Pt'} {v : Int64} (W : WF Z R) (h : post none Z R I (up2L L 114 4 v)) : Cx G l mX1_setSeed 1 0 0 [.ref 114, .long v] Z R I L post := by
  refine Cx.of (by decide +kernel) (by exact Nat.le_of_ble_eq_true rfl) ?_
  refine Sx.aload_n dX1_setSeed_0 rfl ?_
  refine Sx.lload_n dX1_setSeed_1 rfl ?_
  refine Sx.putfL dX1_setSeed_2 lkp_X1_33_1 (o_114 W) rfl rfl ?_
  refine Sx.vret dX1_setSeed_5 rfl ?_
  exact h
set_option maxRecDepth 20000 in
set_option maxHeartbeats 1000000 in
theorem c_setLaw {G : Gt} {l : Launch} {Z : Zt} {R : Rt} {I : It} {L : Lt} {post : Pt'} {q : Nat} (W : WF Z R) (h : post none Z (up2R R 114 3 (some q)) I L) : Cx G l mX1_setLaw 1 0 0 [.ref 114, .ref q] Z R I L post := by
  refine Cx.of (by decide +kernel) (by exact Nat.le_of_ble_eq_true rfl) ?_
  refine Sx.aload_n dX1_setLaw_0 rfl ?_
  refine Sx.aload_n dX1_setLaw_1 rfl ?_
  refine Sx.putfR (r := (some q)) dX1_setLaw_2 lkp_X1_29_1 (fun h => by cases h) (o_114 W) rfl (fun _ => rfl) rfl (fun _ => rfl) ?_
  refine Sx.vret dX1_setLaw_5 rfl ?_
  exact h
set_option maxRecDepth 20000 in
set_option maxHeartbeats 1000000 in
theorem c_setLaw0 {G : Gt} {l : Launch} {Z : Zt} {R : Rt} {I : It} {L : Lt} {post : Pt'}  (W : WF Z R) (h : post none Z (up2R R 114 3 none) I L) : Cx G l mX1_setLaw 1 0 0 [.ref 114, .null] Z R I L post := by
  refine Cx.of (by decide +kernel) (by exact Nat.le_of_ble_eq_true rfl) ?_
  refine Sx.aload_n dX1_setLaw_0 rfl ?_
  refine Sx.aload_nN dX1_setLaw_1 rfl ?_
  refine Sx.putfR (r := none) dX1_setLaw_2 lkp_X1_29_1 (fun h => by cases h) (o_114 W) rfl (fun _ => rfl) rfl (fun _ => rfl) ?_
  refine Sx.vret dX1_setLaw_5 rfl ?_
  exact h
