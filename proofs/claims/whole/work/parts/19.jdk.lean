/-! the JDK's small functions -/
def bc1 (x : Int32) : Int32 := x - ((x.toUInt32 >>> ((1 : Int32).toUInt32 &&& Int32.toUInt32 31)).toInt32 &&& 1431655765)
def bc2 (x : Int32) : Int32 := (x &&& 858993459) + ((x.toUInt32 >>> ((2 : Int32).toUInt32 &&& Int32.toUInt32 31)).toInt32 &&& 858993459)
def bc3 (x : Int32) : Int32 := x + (x.toUInt32 >>> ((4 : Int32).toUInt32 &&& Int32.toUInt32 31)).toInt32 &&& 252645135
def bc4 (x : Int32) : Int32 := x + (x.toUInt32 >>> ((8 : Int32).toUInt32 &&& Int32.toUInt32 31)).toInt32
def bc5 (x : Int32) : Int32 := x + (x.toUInt32 >>> ((16 : Int32).toUInt32 &&& Int32.toUInt32 31)).toInt32
def bitc (x : Int32) : Int32 := bc5 (bc4 (bc3 (bc2 (bc1 x)))) &&& 63
set_option maxRecDepth 20000 in
set_option maxHeartbeats 1000000 in
theorem c_bitc {G : Gt} {l : Launch} {Z : Zt} {R : Rt} {I : It} {L : Lt} {post : Pt'} {x : Int32} (h : post (some (.int (bitc x))) Z R I L) : Cx G l mJ6_bitCount_0f7a4 1 0 0 [.int x] Z R I L post := by
  refine Cx.of (by decide +kernel) (by exact Nat.le_of_ble_eq_true rfl) ?_
  refine Sx.iload_n dJ6_bitCount_0f7a4_0 rfl ?_
  refine Sx.iload_n dJ6_bitCount_0f7a4_1 rfl ?_
  refine Sx.iconst (v := 1) dJ6_bitCount_0f7a4_2 (by decide) ?_
  refine Sx.iushr dJ6_bitCount_0f7a4_3 ?_
  refine Sx.ldc_w dJ6_bitCount_0f7a4_4 lkk_J6_265 ?_
  refine Sx.iand dJ6_bitCount_0f7a4_7 ?_
  refine Sx.isub dJ6_bitCount_0f7a4_8 ?_
  refine Sx.ist_n (fun zz => [(0, .int zz)]) dJ6_bitCount_0f7a4_9 (by decide) (fun _ => rfl) (fun x0_9 ex0_9 => ?_)
  refine Sx.iload_n dJ6_bitCount_0f7a4_10 rfl ?_
  refine Sx.ldc_w dJ6_bitCount_0f7a4_11 lkk_J6_266 ?_
  refine Sx.iand dJ6_bitCount_0f7a4_14 ?_
  refine Sx.iload_n dJ6_bitCount_0f7a4_15 rfl ?_
  refine Sx.iconst (v := 2) dJ6_bitCount_0f7a4_16 (by decide) ?_
  refine Sx.iushr dJ6_bitCount_0f7a4_17 ?_
  refine Sx.ldc_w dJ6_bitCount_0f7a4_18 lkk_J6_266 ?_
  refine Sx.iand dJ6_bitCount_0f7a4_21 ?_
  refine Sx.iadd dJ6_bitCount_0f7a4_22 ?_
  refine Sx.ist_n (fun zz => [(0, .int zz)]) dJ6_bitCount_0f7a4_23 (by decide) (fun _ => rfl) (fun x0_23 ex0_23 => ?_)
  refine Sx.iload_n dJ6_bitCount_0f7a4_24 rfl ?_
  refine Sx.iload_n dJ6_bitCount_0f7a4_25 rfl ?_
  refine Sx.iconst (v := 4) dJ6_bitCount_0f7a4_26 (by decide) ?_
  refine Sx.iushr dJ6_bitCount_0f7a4_27 ?_
  refine Sx.iadd dJ6_bitCount_0f7a4_28 ?_
  refine Sx.ldc_w dJ6_bitCount_0f7a4_29 lkk_J6_267 ?_
  refine Sx.iand dJ6_bitCount_0f7a4_32 ?_
  refine Sx.ist_n (fun zz => [(0, .int zz)]) dJ6_bitCount_0f7a4_33 (by decide) (fun _ => rfl) (fun x0_33 ex0_33 => ?_)
  refine Sx.iload_n dJ6_bitCount_0f7a4_34 rfl ?_
  refine Sx.iload_n dJ6_bitCount_0f7a4_35 rfl ?_
  refine Sx.bipush (v := 8) dJ6_bitCount_0f7a4_36 (by decide) ?_
  refine Sx.iushr dJ6_bitCount_0f7a4_38 ?_
  refine Sx.iadd dJ6_bitCount_0f7a4_39 ?_
  refine Sx.ist_n (fun zz => [(0, .int zz)]) dJ6_bitCount_0f7a4_40 (by decide) (fun _ => rfl) (fun x0_40 ex0_40 => ?_)
  refine Sx.iload_n dJ6_bitCount_0f7a4_41 rfl ?_
  refine Sx.iload_n dJ6_bitCount_0f7a4_42 rfl ?_
  refine Sx.bipush (v := 16) dJ6_bitCount_0f7a4_43 (by decide) ?_
  refine Sx.iushr dJ6_bitCount_0f7a4_45 ?_
  refine Sx.iadd dJ6_bitCount_0f7a4_46 ?_
  refine Sx.ist_n (fun zz => [(0, .int zz)]) dJ6_bitCount_0f7a4_47 (by decide) (fun _ => rfl) (fun x0_47 ex0_47 => ?_)
  refine Sx.iload_n dJ6_bitCount_0f7a4_48 rfl ?_
  refine Sx.bipush (v := 63) dJ6_bitCount_0f7a4_49 (by decide) ?_
  refine Sx.iand dJ6_bitCount_0f7a4_51 ?_
  refine Sx.iret dJ6_bitCount_0f7a4_52 rfl rfl ?_
  have e : (x0_47 &&& 63) = bitc x := by rw [ex0_47, ex0_40, ex0_33, ex0_23, ex0_9]; rfl
  rw [e]; exact h
/-! String constants -/
set_option maxRecDepth 20000 in
set_option maxHeartbeats 1000000 in
theorem c_coder {G : Gt} {l : Launch} {Z : Zt} {R : Rt} {I : It} {L : Lt} {post : Pt'} {k : Nat} (hk : k < 6) (h : post (some (.int 0)) Z R I L) : Cx G l mJ0_coder_7d493 1 0 0 [.ref (20 + k)] Z R I L post := by
  refine Cx.of (by decide +kernel) (by exact Nat.le_of_ble_eq_true rfl) ?_
  refine Sx.getCS dJ0_coder_7d493_0 lks_J0_38 ?_
  refine Sx.if_eq (t := 13) dJ0_coder_7d493_3 (by decide) (fun c => absurd c (by decide)) (fun _ => ?_)
  refine Sx.aload_n dJ0_coder_7d493_6 rfl ?_
  refine Sx.getCoder dJ0_coder_7d493_7 hk lks_J0_15 ?_
  refine Sx.goto (t := 14) dJ0_coder_7d493_10 (by decide) ?_
  exact Sx.iret dJ0_coder_7d493_14 rfl rfl h
set_option maxRecDepth 20000 in
set_option maxHeartbeats 1000000 in
theorem c_isL1 {G : Gt} {l : Launch} {Z : Zt} {R : Rt} {I : It} {L : Lt} {post : Pt'} {k : Nat} (hk : k < 6) (h : post (some (.int 1)) Z R I L) : Cx G l mJ0_isLatin1_aae02 1 0 0 [.ref (20 + k)] Z R I L post := by
  refine Cx.of (by decide +kernel) (by exact Nat.le_of_ble_eq_true rfl) ?_
  refine Sx.getCS dJ0_isLatin1_aae02_0 lks_J0_38 ?_
  refine Sx.if_eq (t := 17) dJ0_isLatin1_aae02_3 (by decide) (fun c => absurd c (by decide)) (fun _ => ?_)
  refine Sx.aload_n dJ0_isLatin1_aae02_6 rfl ?_
  refine Sx.getCoder dJ0_isLatin1_aae02_7 hk lks_J0_15 ?_
  refine Sx.if_ne (t := 17) dJ0_isLatin1_aae02_10 (by decide) (fun c => absurd rfl c) (fun _ => ?_)
  refine Sx.iconst (v := 1) dJ0_isLatin1_aae02_13 (by decide) ?_
  refine Sx.goto (t := 18) dJ0_isLatin1_aae02_14 (by decide) ?_
  exact Sx.iret dJ0_isLatin1_aae02_18 rfl rfl h
set_option maxRecDepth 20000 in
set_option maxHeartbeats 1000000 in
theorem c_slen {G : Gt} {l : Launch} {Z : Zt} {R : Rt} {I : It} {L : Lt} {post : Pt'} {k : Nat} (hk : k < 6) (h : post (some (.int (nI (stkL.getD k 0)))) Z R I L) : Cx G l mJ0_length_8abf5 2 0 0 [.ref (20 + k)] Z R I L post := by
  refine Cx.of (by decide +kernel) (by exact Nat.le_of_ble_eq_true rfl) ?_
  refine Sx.aload_n dJ0_length_8abf5_0 rfl ?_
  refine Sx.getVal dJ0_length_8abf5_1 hk lks_J0_9 ?_
  refine Sx.blenS (v := nI (stkL.getD k 0)) dJ0_length_8abf5_4 hk rfl ?_
  refine Sx.aload_n dJ0_length_8abf5_5 rfl ?_
  refine Sx.callV0 dJ0_length_8abf5_6 lkv_J0_335 (rcv_s hk) (by decide) (by decide) (Nat.le_of_ble_eq_true rfl) rfl rfl (c_coder hk ?_)
  refine Sx.ishr dJ0_length_8abf5_9 ?_
  have e : nI (stkL.getD k 0) >>> ((0 : Int32) &&& 31) = nI (stkL.getD k 0) := by
    have h6 : k = 0 ∨ k = 1 ∨ k = 2 ∨ k = 3 ∨ k = 4 ∨ k = 5 := by omega
    rcases h6 with rfl | rfl | rfl | rfl | rfl | rfl <;> decide +kernel
  rw [e]
  exact Sx.iret dJ0_length_8abf5_10 rfl rfl h
set_option maxRecDepth 20000 in
set_option maxHeartbeats 1000000 in
theorem c_pci_n {G : Gt} {l : Launch} {Z : Zt} {R : Rt} {I : It} {L : Lt} {post : Pt'} {j n : Nat} (hj : j < n) (hn : n < 2 ^ 31) (h : post (some (.int (nI j))) Z R I L) : Cx G l mJ3_checkIndex_8e157 1 0 0 [.int (nI j), .int (nI n), .null] Z R I L post := by
  refine Cx.of (by decide +kernel) (by exact Nat.le_of_ble_eq_true rfl) ?_
  refine Sx.iload_n dJ3_checkIndex_8e157_0 rfl ?_
  refine Sx.if_lt (t := 9) dJ3_checkIndex_8e157_1 (by decide) (fun c => absurd c (nI_pos (by omega))) (fun _ => ?_)
  refine Sx.iload_n dJ3_checkIndex_8e157_4 rfl ?_
  refine Sx.iload_n dJ3_checkIndex_8e157_5 rfl ?_
  refine Sx.icmp_lt (t := 16) dJ3_checkIndex_8e157_6 (by decide) (fun _ => ?_) (fun c => absurd (nI_lt hj hn) c)
  refine Sx.iload_n dJ3_checkIndex_8e157_16 rfl ?_
  exact Sx.iret dJ3_checkIndex_8e157_17 rfl rfl h
set_option maxRecDepth 20000 in
set_option maxHeartbeats 1000000 in
theorem c_pci_r {G : Gt} {l : Launch} {Z : Zt} {R : Rt} {I : It} {L : Lt} {post : Pt'} {j n : Nat} (hj : j < n) (hn : n < 2 ^ 31) (h : post (some (.int (nI j))) Z R I L) : Cx G l mJ3_checkIndex_8e157 1 0 0 [.int (nI j), .int (nI n), .ref 50] Z R I L post := by
  refine Cx.of (by decide +kernel) (by exact Nat.le_of_ble_eq_true rfl) ?_
  refine Sx.iload_n dJ3_checkIndex_8e157_0 rfl ?_
  refine Sx.if_lt (t := 9) dJ3_checkIndex_8e157_1 (by decide) (fun c => absurd c (nI_pos (by omega))) (fun _ => ?_)
  refine Sx.iload_n dJ3_checkIndex_8e157_4 rfl ?_
  refine Sx.iload_n dJ3_checkIndex_8e157_5 rfl ?_
  refine Sx.icmp_lt (t := 16) dJ3_checkIndex_8e157_6 (by decide) (fun _ => ?_) (fun c => absurd (nI_lt hj hn) c)
  refine Sx.iload_n dJ3_checkIndex_8e157_16 rfl ?_
  exact Sx.iret dJ3_checkIndex_8e157_17 rfl rfl h
set_option maxRecDepth 20000 in
set_option maxHeartbeats 1000000 in
theorem c_sci {G : Gt} {l : Launch} {Z : Zt} {R : Rt} {I : It} {L : Lt} {post : Pt'} {j n : Nat} (hj : j < n) (hn : n < 2 ^ 31) (h : post none Z R I L) : Cx G l mJ0_checkIndex_df160 2 0 0 [.int (nI j), .int (nI n)] Z R I L post := by
  refine Cx.of (by decide +kernel) (by exact Nat.le_of_ble_eq_true rfl) ?_
  refine Sx.iload_n dJ0_checkIndex_df160_0 rfl ?_
  refine Sx.iload_n dJ0_checkIndex_df160_1 rfl ?_
  refine Sx.getFm dJ0_checkIndex_df160_2 lks_J0_1053 ?_ ?_
  · refine Sx.callS3 dJ0_checkIndex_df160_5 lkc_J0_1059 (by decide) (by decide) (Nat.le_of_ble_eq_true rfl) rfl rfl (c_pci_n hj hn ?_)
    refine Sx.pop dJ0_checkIndex_df160_8 rfl ?_
    exact Sx.vret dJ0_checkIndex_df160_9 rfl h
  · refine Sx.callS3 dJ0_checkIndex_df160_5 lkc_J0_1059 (by decide) (by decide) (Nat.le_of_ble_eq_true rfl) rfl rfl (c_pci_r hj hn ?_)
    refine Sx.pop dJ0_checkIndex_df160_8 rfl ?_
    exact Sx.vret dJ0_checkIndex_df160_9 rfl h
def sch (k j : Nat) : Int32 := (stkB.getD k []).getD j 0
theorem stk_ok : ∀ k, k < 6 → ∀ j, j < stkL.getD k 0 → (((sch k j &&& 255).toUInt32 % 65536).toInt32 = sch k j ∧ narrow .char (.int (sch k j)) = .int (sch k j)) ∧ stkL.getD k 0 < 100 := by decide +kernel
set_option maxRecDepth 20000 in
set_option maxHeartbeats 1000000 in
theorem c_l1ch {G : Gt} {l : Launch} {Z : Zt} {R : Rt} {I : It} {L : Lt} {post : Pt'} {k j : Nat} (hk : k < 6) (hj : j < stkL.getD k 0) (h : post (some (.int (sch k j))) Z R I L) : Cx G l mJ1_charAt_3b067 3 0 0 [.ref (30 + k), .int (nI j)] Z R I L post := by
  refine Cx.of (by decide +kernel) (by exact Nat.le_of_ble_eq_true rfl) ?_
  have hb := (stk_ok k hk j hj).2
  refine Sx.iload_n dJ1_charAt_3b067_0 rfl ?_
  refine Sx.aload_n dJ1_charAt_3b067_1 rfl ?_
  refine Sx.blenS (v := nI (stkL.getD k 0)) dJ1_charAt_3b067_2 hk rfl ?_
  refine Sx.callS2 dJ1_charAt_3b067_3 lkc_J1_9 (by decide) (by decide) (Nat.le_of_ble_eq_true rfl) rfl rfl (c_sci hj (by omega) ?_)
  refine Sx.aload_n dJ1_charAt_3b067_6 rfl ?_
  refine Sx.iload_n dJ1_charAt_3b067_7 rfl ?_
  refine Sx.baldS dJ1_charAt_3b067_8 hk (vp_in_nI hj (by omega)) ?_
  rw [nI_clamp (by omega)]
  refine Sx.sipush (v := 255) dJ1_charAt_3b067_9 (by decide) ?_
  refine Sx.iand dJ1_charAt_3b067_12 ?_
  refine Sx.i2c dJ1_charAt_3b067_13 ?_
  rw [show (((stkB.getD k []).getD j 0 &&& 255).toUInt32 % 65536).toInt32 = sch k j from (stk_ok k hk j hj).1.1]
  exact Sx.iret dJ1_charAt_3b067_14 rfl (stk_ok k hk j hj).1.2 h
set_option maxRecDepth 20000 in
set_option maxHeartbeats 1000000 in
theorem c_char {G : Gt} {l : Launch} {Z : Zt} {R : Rt} {I : It} {L : Lt} {post : Pt'} {k j : Nat} (hk : k < 6) (hj : j < stkL.getD k 0) (h : post (some (.int (sch k j))) Z R I L) : Cx G l mJ0_charAt_5068e 4 0 0 [.ref (20 + k), .int (nI j)] Z R I L post := by
  refine Cx.of (by decide +kernel) (by exact Nat.le_of_ble_eq_true rfl) ?_
  refine Sx.aload_n dJ0_charAt_5068e_0 rfl ?_
  refine Sx.callV0 dJ0_charAt_5068e_1 lkv_J0_492 (rcv_s hk) (by decide) (by decide) (Nat.le_of_ble_eq_true rfl) rfl rfl (c_isL1 hk ?_)
  refine Sx.if_eq (t := 16) dJ0_charAt_5068e_4 (by decide) (fun c => absurd c (by decide)) (fun _ => ?_)
  refine Sx.aload_n dJ0_charAt_5068e_7 rfl ?_
  refine Sx.getVal dJ0_charAt_5068e_8 hk lks_J0_9 ?_
  refine Sx.iload_n dJ0_charAt_5068e_11 rfl ?_
  refine Sx.callS2 dJ0_charAt_5068e_12 lkc_J0_495 (by decide) (by decide) (Nat.le_of_ble_eq_true rfl) rfl rfl (c_l1ch hk hj ?_)
  exact Sx.iret dJ0_charAt_5068e_15 rfl (stk_ok k hk j hj).1.2 h
