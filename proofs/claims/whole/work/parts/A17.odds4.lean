/-! the class: odds, the whole -/
set_option maxRecDepth 20000 in
set_option maxHeartbeats 1000000 in
theorem l_cod1 {G : Gt} {l : Launch} {Z : Zt} {R : Rt} {L : Lt} {post : Pt'} {V : Vt} {I0 : It} {n c y : Nat} (W : WF Z R) (hH : HV V) (hb : V 0 1 ≤ 4 ∧ V 0 3 ≤ 4) (hn : V 3 145 + n = V 2 0) (h8 : n ≤ 8) (h : ∀ I', CI V R I' L → OF I0 I' → (∀ i, i < n → I' 123 i = nI (ltO V (V 3 145 + i)) ∧ I' 125 i = nI (ltH V (V 3 145 + i))) → Sx G l mX5_oddsOf 4 0 0 109 [(6, .int (nI (upc (V 2) (V 3)))), (5, .int (nI n)), (4, .int (nI (V 3 145))), (3, .int (nI c)), (2, .int (nI y)), (1, .ref 229), (0, .ref 119)] [] Z R I' L post) :
    ∀ (r i : Nat), i ≤ n → n < i + r → ∀ (I : It), CI V R I L → OF I0 I → (∀ z, z < i → I 123 z = nI (ltO V (V 3 145 + z)) ∧ I 125 z = nI (ltH V (V 3 145 + z))) → Sx G l mX5_oddsOf 4 0 0 38 [(7, .int (nI i)), (6, .int (nI (upc (V 2) (V 3)))), (5, .int (nI n)), (4, .int (nI (V 3 145))), (3, .int (nI c)), (2, .int (nI y)), (1, .ref 229), (0, .ref 119)] [] Z R I L post := by
  obtain ⟨p1, p2, p3, p4, p5, p6, p7, p8, p9⟩ := id hH.2.2.2.1
  have hup := upc_le hH.2.2.2.1 hH.2.2.2.2.1
  intro r
  induction r with
  | zero => intro i h1 h2; omega
  | succ r ih =>
    intro i h1 h2 I C hf hl
    refine Sx.iload dX5_oddsOf_38 rfl ?_
    refine Sx.iload dX5_oddsOf_40 rfl ?_
    refine Sx.icmp_geV (t := 109) dX5_oddsOf_42 (by decide) (vN (by omega)) (vN (by omega)) (fun c42 => ?_) (fun c42 => ?_)
    · have hj : n = i := by omega
      subst hj
      refine Sx.sub' [(6, .int (nI (upc (V 2) (V 3)))), (5, .int (nI n)), (4, .int (nI (V 3 145))), (3, .int (nI c)), (2, .int (nI y)), (1, .ref 229), (0, .ref 119)] rfl ?_
      exact h I C hf hl
    · refine Sx.iload dX5_oddsOf_45 rfl ?_
      refine Sx.bipush (v := (nI 8)) dX5_oddsOf_47 (by decide) ?_
      refine Sx.icmp_geV (t := 109) dX5_oddsOf_49 (by decide) (vN (by omega)) (vN (by decide)) (fun c49 => ?_) (fun c49 => ?_)
      · have hj : n = i := by omega
        subst hj
        refine Sx.sub' [(6, .int (nI (upc (V 2) (V 3)))), (5, .int (nI n)), (4, .int (nI (V 3 145))), (3, .int (nI c)), (2, .int (nI y)), (1, .ref 229), (0, .ref 119)] rfl ?_
        exact h I C hf hl
      · have hl1 : ltO V (V 3 145 + i) ≤ 99 := litN_le _ _ _ _ _ _
        have hl2 : ltH V (V 3 145 + i) ≤ 99 := litN_le _ _ _ _ _ _
        refine Sx.aload_n dX5_oddsOf_52 rfl ?_
        refine Sx.getfR dX5_oddsOf_53 lkf_X5_23_5 (o_119 W) (r_119_3 W) ?_
        refine Sx.iload dX5_oddsOf_56 rfl ?_
        refine Sx.aload_n dX5_oddsOf_58 rfl ?_
        refine Sx.getfR dX5_oddsOf_59 lkf_X5_49_5 (o_119 W) (r_119_1 W) ?_
        refine Sx.aload_n dX5_oddsOf_62 rfl ?_
        refine Sx.iload dX5_oddsOf_63 rfl ?_
        refine Sx.iload dX5_oddsOf_65 rfl ?_
        refine Sx.iaddN dX5_oddsOf_67 ?_
        refine Sx.iconst (v := (nI 0)) dX5_oddsOf_68 (by decide) ?_
        refine Sx.iload dX5_oddsOf_69 rfl ?_
        refine Sx.callV4 dX5_oddsOf_71 lkv_X5_155 (rcv_1 (o_114 W)) (by decide) (by decide) (Nat.le_of_ble_eq_true rfl) rfl rfl (c_light W C.2.1 hH.2.2.2.1 (w_229r W) C.2.2.1 (by decide) (C.lw ⟨hH.1.1, hH.1.2.1⟩) hH.2.2.2.2.1 (by omega) (by decide) (by omega) (fun I1 o1 => ?_))
        have ho1 : OF I I1 := fun q hq => o1 q (by omega) (by omega)
        refine Sx.callV2 dX5_oddsOf_74 lkv_X5_89 (rcv_7 (o_122 W)) (by decide) (by decide) (Nat.le_of_ble_eq_true rfl) rfl rfl (d_rset (w_122r W) (by unfold rowC; decide) (by decide) (k := i) (by omega) (fun I2 e2 o2 => ?_))
        have ho2 : OF I I2 := fun q hq => by rw [o2 q (by omega), o1 q (by omega) (by omega)]
        have C2 := ho2.ci C hb
        refine Sx.aload_n dX5_oddsOf_77 rfl ?_
        refine Sx.getfR dX5_oddsOf_78 lkf_X5_27_5 (o_119 W) (r_119_4 W) ?_
        refine Sx.iload dX5_oddsOf_81 rfl ?_
        refine Sx.aload_n dX5_oddsOf_83 rfl ?_
        refine Sx.getfR dX5_oddsOf_84 lkf_X5_49_5 (o_119 W) (r_119_1 W) ?_
        refine Sx.aload_n dX5_oddsOf_87 rfl ?_
        refine Sx.iload dX5_oddsOf_88 rfl ?_
        refine Sx.iload dX5_oddsOf_90 rfl ?_
        refine Sx.iaddN dX5_oddsOf_92 ?_
        refine Sx.bipush (v := (nI 9)) dX5_oddsOf_93 (by decide) ?_
        refine Sx.iload dX5_oddsOf_95 rfl ?_
        refine Sx.callV4 dX5_oddsOf_97 lkv_X5_155 (rcv_1 (o_114 W)) (by decide) (by decide) (Nat.le_of_ble_eq_true rfl) rfl rfl (c_light W C2.2.1 hH.2.2.2.1 (w_229r W) C2.2.2.1 (by decide) (C2.lw ⟨hH.1.1, hH.1.2.1⟩) hH.2.2.2.2.1 (by omega) (by decide) (by omega) (fun I3 o3 => ?_))
        refine Sx.callV2 dX5_oddsOf_100 lkv_X5_89 (rcv_7 (o_124 W)) (by decide) (by decide) (Nat.le_of_ble_eq_true rfl) rfl rfl (d_rset (w_124r W) (by unfold rowC; decide) (by decide) (k := i) (by omega) (fun I4 e4 o4 => ?_))
        refine Sx.iinc (v := (nI (i + 1))) (lv' := [(7, .int (nI (i + 1))), (6, .int (nI (upc (V 2) (V 3)))), (5, .int (nI n)), (4, .int (nI (V 3 145))), (3, .int (nI c)), (2, .int (nI y)), (1, .ref 229), (0, .ref 119)]) dX5_oddsOf_103 rfl (nI_add i 1) (by decide) rfl ?_
        refine Sx.goto (t := 38) dX5_oddsOf_106 (by decide) ?_
        refine Sx.sub' [(7, .int (nI (i + 1))), (6, .int (nI (upc (V 2) (V 3)))), (5, .int (nI n)), (4, .int (nI (V 3 145))), (3, .int (nI c)), (2, .int (nI y)), (1, .ref 229), (0, .ref 119)] rfl ?_
        have ho : OF I I4 := fun q hq => by rw [o4 q (by omega), o3 q (by omega) (by omega), ho2 q hq]
        refine ih (i + 1) (by omega) (by omega) I4 (ho.ci C hb) (hf.tr ho) (fun z hz => ?_)
        rw [o4 123 (by decide), o3 123 (by decide) (by decide), e2, e4, o3 125 (by decide) (by decide), o2 125 (by decide)]
        by_cases q : z = i
        · rw [q, upd_at, upd_at]; exact ⟨rfl, rfl⟩
        · rw [upd_nj _ _ q, upd_nj _ _ q, o1 123 (by decide) (by decide), o1 125 (by decide) (by decide)]; exact hl z (by omega)
set_option maxRecDepth 20000 in
set_option maxHeartbeats 1000000 in
theorem l_cod2 {G : Gt} {l : Launch} {Z : Zt} {R : Rt} {I : It} {L : Lt} {post : Pt'} {V : Vt} {n c y : Nat} (W : WF Z R) (C : CI V R I L) (hH : HV V) (hn : V 3 145 + n = V 2 0) (h8 : n ≤ 8) (hl : ∀ i, i < n → I 123 i = nI (ltO V (V 3 145 + i)) ∧ I 125 i = nI (ltH V (V 3 145 + i))) (hc : c ≤ 100) (hy : y < 30) (h256 : 2 ^ n ≤ 256) (hS : sumN (fun m => if amn (exF (ltO V) (ltH V) n (V 3 145) (fun d => V 3 (18 + d)) m) (V 2 0) = y + 1 then prF c n m 1000000000 else 0) (2 ^ n) ≤ 1000000000) (h : post (some (.int (nI (sumN (fun m => if amn (exF (ltO V) (ltH V) n (V 3 145) (fun d => V 3 (18 + d)) m) (V 2 0) = y + 1 then prF c n m 1000000000 else 0) (2 ^ n))))) Z R I L) :
    ∀ (r m : Nat), m ≤ 2 ^ n → 2 ^ n < m + r → ∀ sm, sm = sumN (fun m => if amn (exF (ltO V) (ltH V) n (V 3 145) (fun d => V 3 (18 + d)) m) (V 2 0) = y + 1 then prF c n m 1000000000 else 0) m → Sx G l mX5_oddsOf 4 0 0 115 [(8, .int (nI m)), (7, .int (nI sm)), (6, .int (nI (upc (V 2) (V 3)))), (5, .int (nI n)), (4, .int (nI (V 3 145))), (3, .int (nI c)), (2, .int (nI y)), (1, .ref 229), (0, .ref 119)] [] Z R I L post := by
  obtain ⟨p1, p2, p3, p4, p5, p6, p7, p8, p9⟩ := id hH.2.2.2.1
  intro r
  induction r with
  | zero => intro m h1 h2; omega
  | succ r ih =>
    intro m h1 h2 sm hsm
    refine Sx.iload dX5_oddsOf_115 rfl ?_
    refine Sx.bipush (v := (nI 8)) dX5_oddsOf_117 (by decide) ?_
    refine Sx.icmp_gtV (t := 167) dX5_oddsOf_119 (by decide) (vN (by omega)) (vN (by decide)) (fun c119 => False.elim (by omega)) (fun c119 => ?_)
    refine Sx.iload dX5_oddsOf_122 rfl ?_
    refine Sx.iconst (v := (nI 1)) dX5_oddsOf_124 (by decide) ?_
    refine Sx.iload dX5_oddsOf_125 rfl ?_
    refine Sx.ishl1 dX5_oddsOf_127 (by omega) ?_
    refine Sx.icmp_geV (t := 167) dX5_oddsOf_128 (by decide) (vN (by omega)) (vN (by omega)) (fun c128 => ?_) (fun c128 => ?_)
    · have hj : m = 2 ^ n := by omega
      subst hj
      subst hsm
      refine Sx.iload dX5_oddsOf_167 rfl ?_
      refine Sx.iret dX5_oddsOf_169 rfl rfl ?_
      exact h
    · have hal := amn_le (exF (ltO V) (ltH V) n (V 3 145) (fun d => V 3 (18 + d)) m) (V 2 0)
      have hpl := prF_le hc n m 1000000000
      have hsl : sm ≤ 1000000000 := by rw [hsm]; have := sum_le (fun m => if amn (exF (ltO V) (ltH V) n (V 3 145) (fun d => V 3 (18 + d)) m) (V 2 0) = y + 1 then prF c n m 1000000000 else 0) (k := m) (2 ^ n - m); rw [show m + (2 ^ n - m) = 2 ^ n by omega] at this; omega
      refine Sx.iload dX5_oddsOf_131 rfl ?_
      refine Sx.aload_n dX5_oddsOf_133 rfl ?_
      refine Sx.aload_n dX5_oddsOf_134 rfl ?_
      refine Sx.iload dX5_oddsOf_135 rfl ?_
      refine Sx.iload dX5_oddsOf_137 rfl ?_
      refine Sx.callV3 dX5_oddsOf_139 lkv_X5_159 (rcv_5 (o_119 W)) (by decide) (by decide) (Nat.le_of_ble_eq_true rfl) rfl rfl (d_rulerBy W C hH (by omega) hn h8 hl ?_)
      refine Sx.iload_n dX5_oddsOf_142 rfl ?_
      refine Sx.icmp_neV (t := 157) dX5_oddsOf_143 (by decide) (vZ (by omega)) (vN (by omega)) (fun c143 => ?_) (fun c143 => ?_)
      · refine Sx.iconst (v := (nI 0)) dX5_oddsOf_157 (by decide) ?_
        refine Sx.iaddN dX5_oddsOf_158 ?_
        refine Sx.istore (lv' := [(7, .int (nI (sm + 0))), (8, .int (nI m)), (6, .int (nI (upc (V 2) (V 3)))), (5, .int (nI n)), (4, .int (nI (V 3 145))), (3, .int (nI c)), (2, .int (nI y)), (1, .ref 229), (0, .ref 119)]) dX5_oddsOf_159 (by decide) rfl ?_
        refine Sx.iinc (v := (nI (m + 1))) (lv' := [(8, .int (nI (m + 1))), (7, .int (nI (sm + 0))), (6, .int (nI (upc (V 2) (V 3)))), (5, .int (nI n)), (4, .int (nI (V 3 145))), (3, .int (nI c)), (2, .int (nI y)), (1, .ref 229), (0, .ref 119)]) dX5_oddsOf_161 rfl (nI_add m 1) (by decide) rfl ?_
        refine Sx.goto (t := 115) dX5_oddsOf_164 (by decide) ?_
        refine Sx.sub' [(8, .int (nI (m + 1))), (7, .int (nI (sm + 0))), (6, .int (nI (upc (V 2) (V 3)))), (5, .int (nI n)), (4, .int (nI (V 3 145))), (3, .int (nI c)), (2, .int (nI y)), (1, .ref 229), (0, .ref 119)] rfl ?_
        exact ih (m + 1) (by omega) (by omega) _ (by rw [sumN, ← hsm]; congr 1; exact (if_neg (by omega)).symm)
      · refine Sx.iload dX5_oddsOf_146 rfl ?_
        refine Sx.iload dX5_oddsOf_148 rfl ?_
        refine Sx.iload_n dX5_oddsOf_150 rfl ?_
        refine Sx.callS3 dX5_oddsOf_151 lkc_X5_162  (by decide) (by decide) (Nat.le_of_ble_eq_true rfl) rfl rfl (d_partOf (by omega) h8 hc ?_)
        refine Sx.goto (t := 158) dX5_oddsOf_154 (by decide) ?_
        refine Sx.iaddN dX5_oddsOf_158 ?_
        refine Sx.istore (lv' := [(7, .int (nI (sm + (prF c n m 1000000000)))), (8, .int (nI m)), (6, .int (nI (upc (V 2) (V 3)))), (5, .int (nI n)), (4, .int (nI (V 3 145))), (3, .int (nI c)), (2, .int (nI y)), (1, .ref 229), (0, .ref 119)]) dX5_oddsOf_159 (by decide) rfl ?_
        refine Sx.iinc (v := (nI (m + 1))) (lv' := [(8, .int (nI (m + 1))), (7, .int (nI (sm + (prF c n m 1000000000)))), (6, .int (nI (upc (V 2) (V 3)))), (5, .int (nI n)), (4, .int (nI (V 3 145))), (3, .int (nI c)), (2, .int (nI y)), (1, .ref 229), (0, .ref 119)]) dX5_oddsOf_161 rfl (nI_add m 1) (by decide) rfl ?_
        refine Sx.goto (t := 115) dX5_oddsOf_164 (by decide) ?_
        refine Sx.sub' [(8, .int (nI (m + 1))), (7, .int (nI (sm + (prF c n m 1000000000)))), (6, .int (nI (upc (V 2) (V 3)))), (5, .int (nI n)), (4, .int (nI (V 3 145))), (3, .int (nI c)), (2, .int (nI y)), (1, .ref 229), (0, .ref 119)] rfl ?_
        exact ih (m + 1) (by omega) (by omega) _ (by rw [sumN, ← hsm]; congr 1; exact (if_pos (by omega)).symm)
set_option maxRecDepth 20000 in
set_option maxHeartbeats 1000000 in
theorem d_oddsOf {G : Gt} {l : Launch} {Z : Zt} {R : Rt} {I : It} {L : Lt} {post : Pt'} {V : Vt} {y c : Nat} (W : WF Z R) (C : CI V R I L) (hH : HV V) (hb : V 0 1 ≤ 4 ∧ V 0 3 ≤ 4) (hc : c ≤ 100) (hy : y < 30) (h8 : V 2 0 - V 3 145 ≤ 8) (h : ∀ I', CI V R I' L → OF I I' → post (some (.int (nI (oddN V y c)))) Z R I' L) : Cx G l mX5_oddsOf 4 0 0 [.ref 119, .ref 229, .int (nI y), .int (nI c)] Z R I L post := by
  refine Cx.of (by decide +kernel) (by exact Nat.le_of_ble_eq_true rfl) ?_
  obtain ⟨p1, p2, p3, p4, p5, p6, p7, p8, p9⟩ := id hH.2.2.2.1
  have hd9 := hH.2.2.2.2.1.2.2.2.2.2.2.2.2.2.2.2.2.2.1
  have hn : V 3 145 + (V 2 0 - V 3 145) = V 2 0 := by omega
  have h256 : 2 ^ (V 2 0 - V 3 145) ≤ 256 := Nat.le_trans (Nat.pow_le_pow_right (by decide) h8) (by decide)
  have hS := od_le (P0 := V 2 0) (day := y) (lo := ltO V) (hi := ltH V) hc (V 2 0 - V 3 145) (V 3 145) (fun d => V 3 (18 + d)) 1000000000
  unfold oddN at h
  rw [od_sum] at hS h
  refine Sx.aload_n dX5_oddsOf_0 rfl ?_
  refine Sx.sipush (v := (nI 145)) dX5_oddsOf_1 (by decide) ?_
  refine Sx.callU1 dX5_oddsOf_4 lku_X5_78 (rcv_8 (o_229 W)) (by decide) (by decide) (Nat.le_of_ble_eq_true rfl) rfl rfl (c_sg (w_229r W) C.2.2.1 145 rfl (by decide) (by decide) ?_)
  refine Sx.istore (lv' := [(4, .int (nI (V 3 145))), (0, .ref 119), (1, .ref 229), (2, .int (nI y)), (3, .int (nI c))]) dX5_oddsOf_7 (by decide) rfl ?_
  refine Sx.aload_n dX5_oddsOf_9 rfl ?_
  refine Sx.getfR dX5_oddsOf_10 lkf_X5_45_5 (o_119 W) (r_119_0 W) ?_
  refine Sx.iconst (v := (nI 0)) dX5_oddsOf_13 (by decide) ?_
  refine Sx.callU1 dX5_oddsOf_14 lku_X5_84 (rcv_6 (o_103 W)) (by decide) (by decide) (Nat.le_of_ble_eq_true rfl) rfl rfl (c_rg (w_103r W) (by unfold rowC; decide) (by decide) C.2.1 0 rfl (by decide) ?_)
  refine Sx.iload dX5_oddsOf_17 rfl ?_
  refine Sx.isubN dX5_oddsOf_19 (by omega) ?_
  refine Sx.istore (lv' := [(5, .int (nI ((V 2 0) - (V 3 145)))), (4, .int (nI (V 3 145))), (0, .ref 119), (1, .ref 229), (2, .int (nI y)), (3, .int (nI c))]) dX5_oddsOf_20 (by decide) rfl ?_
  refine Sx.aload_n dX5_oddsOf_22 rfl ?_
  refine Sx.aload_n dX5_oddsOf_23 rfl ?_
  refine Sx.getfR dX5_oddsOf_24 lkf_X5_45_5 (o_119 W) (r_119_0 W) ?_
  refine Sx.callV0 dX5_oddsOf_27 lkv_X5_103 (rcv_6 (o_103 W)) (by decide) (by decide) (Nat.le_of_ble_eq_true rfl) rfl rfl (c_pers (w_103r W) C.2.1 ?_)
  refine Sx.callV1 dX5_oddsOf_30 lkv_X5_112 (rcv_8 (o_229 W)) (by decide) (by decide) (Nat.le_of_ble_eq_true rfl) rfl rfl (c_X8_upCount (w_229r W) C.2.2.1 hH.2.2.2.2.1.2.2.2.2.2.2.1 (by omega) ?_)
  refine Sx.istore (lv' := [(6, .int (nI (popN (upN (V 2 35) (V 3 138))))), (5, .int (nI ((V 2 0) - (V 3 145)))), (4, .int (nI (V 3 145))), (0, .ref 119), (1, .ref 229), (2, .int (nI y)), (3, .int (nI c))]) dX5_oddsOf_33 (by decide) rfl ?_
  refine Sx.iconst (v := (nI 0)) dX5_oddsOf_35 (by decide) ?_
  refine Sx.istore (lv' := [(7, .int (nI 0)), (6, .int (nI (popN (upN (V 2 35) (V 3 138))))), (5, .int (nI ((V 2 0) - (V 3 145)))), (4, .int (nI (V 3 145))), (0, .ref 119), (1, .ref 229), (2, .int (nI y)), (3, .int (nI c))]) dX5_oddsOf_36 (by decide) rfl ?_
  refine Sx.sub' [(7, .int (nI 0)), (6, .int (nI (upc (V 2) (V 3)))), (5, .int (nI (V 2 0 - V 3 145))), (4, .int (nI (V 3 145))), (3, .int (nI c)), (2, .int (nI y)), (1, .ref 229), (0, .ref 119)] rfl ?_
  refine l_cod1 W hH hb hn h8 (I0 := I) (fun I1 C1 hf1 hl1 => ?_) (V 2 0 - V 3 145 + 1) 0 (by omega) (by omega) I C (OF.rf I) (fun z hz => by omega)
  refine Sx.iconst (v := (nI 0)) dX5_oddsOf_109 (by decide) ?_
  refine Sx.istore (lv' := [(7, .int (nI 0)), (6, .int (nI (upc (V 2) (V 3)))), (5, .int (nI (V 2 0 - V 3 145))), (4, .int (nI (V 3 145))), (3, .int (nI c)), (2, .int (nI y)), (1, .ref 229), (0, .ref 119)]) dX5_oddsOf_110 (by decide) rfl ?_
  refine Sx.iconst (v := (nI 0)) dX5_oddsOf_112 (by decide) ?_
  refine Sx.istore (lv' := [(8, .int (nI 0)), (7, .int (nI 0)), (6, .int (nI (upc (V 2) (V 3)))), (5, .int (nI (V 2 0 - V 3 145))), (4, .int (nI (V 3 145))), (3, .int (nI c)), (2, .int (nI y)), (1, .ref 229), (0, .ref 119)]) dX5_oddsOf_113 (by decide) rfl ?_
  refine Sx.sub' [(8, .int (nI 0)), (7, .int (nI 0)), (6, .int (nI (upc (V 2) (V 3)))), (5, .int (nI (V 2 0 - V 3 145))), (4, .int (nI (V 3 145))), (3, .int (nI c)), (2, .int (nI y)), (1, .ref 229), (0, .ref 119)] rfl ?_
  exact l_cod2 W C1 hH hn h8 hl1 hc hy h256 hS (h I1 C1 hf1) (2 ^ (V 2 0 - V 3 145) + 1) 0 (Nat.zero_le _) (by omega) 0 rfl
set_option maxRecDepth 20000 in
set_option maxHeartbeats 1000000 in
theorem d_odds {G : Gt} {l : Launch} {Z : Zt} {R : Rt} {I : It} {L : Lt} {post : Pt'} {V : Vt} {N : Nat} {x y : Int32} (W : WF Z R) (C : CI V R I L) (hG : GG N V) (hN : N < 2147483647) (h : CQ post Z R I L V (oddR V x y)) : Cx G l mX11_odds 5 0 0 [.ref 100, .int x, .int y] Z R I L post := by
  refine Cx.of (by decide +kernel) (by exact Nat.le_of_ble_eq_true rfl) ?_
  have hB := hG.1.bnd
  have hp6 := hG.1.p
  have hb := hG.1.b
  have h00 := hG.1.1.1
  refine Sx.aload_n dX11_odds_0 rfl ?_
  refine Sx.getfR dX11_odds_1 lkf_X11_19_11 (o_100 W) (r_100_1 W) ?_
  refine Sx.iload_n dX11_odds_4 rfl ?_
  refine Sx.callV1 dX11_odds_5 lkv_X11_272 (rcv_6 (o_103 W)) (by decide) (by decide) (Nat.le_of_ble_eq_true rfl) rfl rfl (d_isDay W C.2.1 (by have := hB.1 0 (by decide); omega) ?_)
  refine Sx.if_eqD (t := 30) dX11_odds_8 (by decide) (fun c8 => ?_) (fun c8 => ?_)
  · refine Sx.iconst (v := (iI (-1))) dX11_odds_30 (by decide) ?_
    refine Sx.iret dX11_odds_31 rfl rfl ?_
    have hn : ¬ oddC V x y := fun z => by omega
    exact pXX (by unfold oddR; rw [if_neg hn]; rfl) (h I R L C (CF.rf R I L))
  · have hp35 : V 2 35 ≠ 0 := fun z => by rcases hG.1.2.2.2.2.2.2 with w | w; (· have := w.2.1 0; omega); (· have := w.1.2.2.2.2.2.2.1; omega)
    have hH := hG.1.hv hp35
    obtain ⟨p1, p2, p3, p4, p5, p6, p7, p8, p9⟩ := id hH.2.2.2.1
    refine Sx.iload_n dX11_odds_11 rfl ?_
    refine Sx.if_ltV (t := 30) dX11_odds_12 (by decide) (vX y) (fun c12 => ?_) (fun c12 => ?_)
    · refine Sx.iconst (v := (iI (-1))) dX11_odds_30 (by decide) ?_
      refine Sx.iret dX11_odds_31 rfl rfl ?_
      have hn : ¬ oddC V x y := fun z => by omega
      exact pXX (by unfold oddR; rw [if_neg hn]; rfl) (h I R L C (CF.rf R I L))
    · refine Sx.iload_n dX11_odds_15 rfl ?_
      refine Sx.bipush (v := (nI 100)) dX11_odds_16 (by decide) ?_
      refine Sx.icmp_gtV (t := 30) dX11_odds_18 (by decide) (vX y) (vN (by decide)) (fun c18 => ?_) (fun c18 => ?_)
      · refine Sx.iconst (v := (iI (-1))) dX11_odds_30 (by decide) ?_
        refine Sx.iret dX11_odds_31 rfl rfl ?_
        have hn : ¬ oddC V x y := fun z => by omega
        exact pXX (by unfold oddR; rw [if_neg hn]; rfl) (h I R L C (CF.rf R I L))
      · refine Sx.aload_n dX11_odds_21 rfl ?_
        refine Sx.callV0 dX11_odds_22 lkv_X11_339 (rcv_11 (o_100 W)) (by decide) (by decide) (Nat.le_of_ble_eq_true rfl) rfl rfl (d_daysLeft W C hG hN hH ?_)
        refine Sx.bipush (v := (nI 8)) dX11_odds_25 (by decide) ?_
        refine Sx.icmp_leV (t := 32) dX11_odds_27 (by decide) (vZ (by omega)) (vN (by decide)) (fun c27 => ?_) (fun c27 => ?_)
        · have hc : oddC V x y := ⟨hp35, ⟨by omega, by omega⟩, ⟨by omega, by omega⟩, by omega⟩
          obtain ⟨p, rfl, hp⟩ := x_ex (x := x) (n := V 2 0) ⟨by omega, by omega⟩
          obtain ⟨q, rfl, hq⟩ := x_ex (x := y) (n := 101) ⟨by omega, by omega⟩
          refine Sx.sub' [(0, .ref 100), (1, .int (nI p)), (2, .int (nI q))] rfl ?_
          refine Sx.aload_n dX11_odds_32 rfl ?_
          refine Sx.getfR dX11_odds_33 lkf_X11_68_11 (o_100 W) (r_100_8 W) ?_
          refine Sx.aload_n dX11_odds_36 rfl ?_
          refine Sx.getfR dX11_odds_37 lkf_X11_89_11 (o_100 W) (r_100_11 W) ?_
          refine Sx.iload_n dX11_odds_40 rfl ?_
          refine Sx.iload_n dX11_odds_41 rfl ?_
          refine Sx.callV3 dX11_odds_42 lkv_X11_342 (rcv_5 (o_119 W)) (by decide) (by decide) (Nat.le_of_ble_eq_true rfl) rfl rfl (d_oddsOf W C hH hb (by omega) (by omega) (by omega) (fun I1 C1 o1 => ?_))
          refine Sx.iret dX11_odds_45 rfl rfl ?_
          exact pXX (by unfold oddR; rw [if_pos hc, xN_n (by omega), xN_n (by omega)]) (h I1 R L C1 o1.cf)
        · refine Sx.iconst (v := (iI (-1))) dX11_odds_30 (by decide) ?_
          refine Sx.iret dX11_odds_31 rfl rfl ?_
          have hn : ¬ oddC V x y := fun z => by omega
          exact pXX (by unfold oddR; rw [if_neg hn]; rfl) (h I R L C (CF.rf R I L))
