/-! the class: odds, the whole -/
set_option maxRecDepth 20000 in
set_option maxHeartbeats 1000000 in
theorem l_cod1 {G : Gt} {l : Launch} {Z : Zt} {R : Rt} {L : Lt} {post : Pt'} {V : Vt} {I0 : It} {n c y : Nat} (W : WF Z R) (hH : HV V) (hb : V 0 1 ≤ 4 ∧ V 0 3 ≤ 4) (hn : V 3 145 + n = V 2 0) (h8 : n ≤ 8) (h : ∀ I', CI V R I' L → OF I0 I' → (∀ i, i < n → I' 123 i = nI (ltO V (V 3 145 + i)) ∧ I' 125 i = nI (ltH V (V 3 145 + i))) → Sx G l mX5_oddsOf 4 0 0 109 [(6, .int (nI (upc (V 2) (V 3)))), (5, .int (nI n)), (4, .int (nI (V 3 145))), (3, .int (nI c)), (2, .int (nI y)), (1, .ref 229), (0, .ref 119)] [] Z R I' L post) :
    ∀ (r i : Nat), i ≤ n → n < i + r → ∀ (I : It), CI V R I L → OF I0 I → (∀ z, z < i → I 123 z = nI (ltO V (V 3 145 + z)) ∧ I 125 z = nI (ltH V (V 3 145 + z))) → Sx G l mX5_oddsOf 4 0 0 38 [(7, .int (nI i)), (6, .int (nI (upc (V 2) (V 3)))), (5, .int (nI n)), (4, .int (nI (V 3 145))), (3, .int (nI c)), (2, .int (nI y)), (1, .ref 229), (0, .ref 119)] [] Z R I L post := by
  obtain ⟨p1, p2, p3, p4, p5, p6, p7, p8, p9⟩ := id hH.2.2.2.1
  have hup := upc_le hH.2.2.2.1 hH.2.2.2.2.1
  intro r
  induction r with
  | zero => intro i h1 h2; omega
  | succ r ih =>
    intro i h1 h2 I C hf hl
    refine Sx.iload dX5_oddsOf_38 rfl ?_
    refine Sx.iload dX5_oddsOf_40 rfl ?_
    refine Sx.icmp_geV (t := 109) dX5_oddsOf_42 (by decide) (vN (by omega)) (vN (by omega)) (fun c42 => ?_) (fun c42 => ?_)
    · have hj : n = i := by omega
      subst hj
      refine Sx.sub' [(6, .int (nI (upc (V 2) (V 3)))), (5, .int (nI n)), (4, .int (nI (V 3 145))), (3, .int (nI c)), (2, .int (nI y)), (1, .ref 229), (0, .ref 119)] rfl ?_
      exact h I C hf hl
    · refine Sx.iload dX5_oddsOf_45 rfl ?_
      refine Sx.bipush (v := (nI 8)) dX5_oddsOf_47 (by decide) ?_
      refine Sx.icmp_geV (t := 109) dX5_oddsOf_49 (by decide) (vN (by omega)) (vN (by decide)) (fun c49 => ?_) (fun c49 => ?_)
      · have hj : n = i := by omega
        subst hj
        refine Sx.sub' [(6, .int (nI (upc (V 2) (V 3)))), (5, .int (nI n)), (4, .int (nI (V 3 145))), (3, .int (nI c)), (2, .int (nI y)), (1, .ref 229), (0, .ref 119)] rfl ?_
        exact h I C hf hl
      · have hl1 : ltO V (V 3 145 + i) ≤ 99 := litN_le _ _ _ _ _ _
        have hl2 : ltH V (V 3 145 + i) ≤ 99 := litN_le _ _ _ _ _ _
        refine Sx.aload_n dX5_oddsOf_52 rfl ?_
        refine Sx.getfR dX5_oddsOf_53 lkf_X5_23_5 (o_119 W) (r_119_3 W) ?_
        refine Sx.iload dX5_oddsOf_56 rfl ?_
        refine Sx.aload_n dX5_oddsOf_58 rfl ?_
        refine Sx.getfR dX5_oddsOf_59 lkf_X5_49_5 (o_119 W) (r_119_1 W) ?_
        refine Sx.aload_n dX5_oddsOf_62 rfl ?_
        refine Sx.iload dX5_oddsOf_63 rfl ?_
        refine Sx.iload dX5_oddsOf_65 rfl ?_
        refine Sx.iaddN dX5_oddsOf_67 ?_
        refine Sx.iconst (v := (nI 0)) dX5_oddsOf_68 (by decide) ?_
        refine Sx.iload dX5_oddsOf_69 rfl ?_
        refine Sx.callV4 dX5_oddsOf_71 lkv_X5_155 (rcv_1 (o_114 W)) (by decide) (by decide) (Nat.le_of_ble_eq_true rfl) rfl rfl (c_light W C.2.1 hH.2.2.2.1 (w_229r W) C.2.2.1 (by decide) (C.lw ⟨hH.1.1, hH.1.2.1⟩) hH.2.2.2.2.1 (by omega) (by decide) (by omega) (fun I1 o1 => ?_))
        have ho1 : OF I I1 := fun q hq => o1 q (by omega) (by omega)
        refine Sx.callV2 dX5_oddsOf_74 lkv_X5_89 (rcv_7 (o_122 W)) (by decide) (by decide) (Nat.le_of_ble_eq_true rfl) rfl rfl (d_rset (w_122r W) (by unfold rowC; decide) (by decide) (k := i) (by omega) (fun I2 e2 o2 => ?_))
        have ho2 : OF I I2 := fun q hq => by rw [o2 q (by omega), o1 q (by omega) (by omega)]
        have C2 := ho2.ci C hb
        refine Sx.aload_n dX5_oddsOf_77 rfl ?_
        refine Sx.getfR dX5_oddsOf_78 lkf_X5_27_5 (o_119 W) (r_119_4 W) ?_
        refine Sx.iload dX5_oddsOf_81 rfl ?_
        refine Sx.aload_n dX5_oddsOf_83 rfl ?_
        refine Sx.getfR dX5_oddsOf_84 lkf_X5_49_5 (o_119 W) (r_119_1 W) ?_
        refine Sx.aload_n dX5_oddsOf_87 rfl ?_
        refine Sx.iload dX5_oddsOf_88 rfl ?_
        refine Sx.iload dX5_oddsOf_90 rfl ?_
        refine Sx.iaddN dX5_oddsOf_92 ?_
        refine Sx.bipush (v := (nI 9)) dX5_oddsOf_93 (by decide) ?_
        refine Sx.iload dX5_oddsOf_95 rfl ?_
        refine Sx.callV4 dX5_oddsOf_97 lkv_X5_155 (rcv_1 (o_114 W)) (by decide) (by decide) (Nat.le_of_ble_eq_true rfl) rfl rfl (c_light W C2.2.1 hH.2.2.2.1 (w_229r W) C2.2.2.1 (by decide) (C2.lw ⟨hH.1.1, hH.1.2.1⟩) hH.2.2.2.2.1 (by omega) (by decide) (by omega) (fun I3 o3 => ?_))
        refine Sx.callV2 dX5_oddsOf_100 lkv_X5_89 (rcv_7 (o_124 W)) (by decide) (by decide) (Nat.le_of_ble_eq_true rfl) rfl rfl (d_rset (w_124r W) (by unfold rowC; decide) (by decide) (k := i) (by omega) (fun I4 e4 o4 => ?_))
        refine Sx.iinc (v := (nI (i + 1))) (lv' := [(7, .int (nI (i + 1))), (6, .int (nI (upc (V 2) (V 3)))), (5, .int (nI n)), (4, .int (nI (V 3 145))), (3, .int (nI c)), (2, .int (nI y)), (1, .ref 229), (0, .ref 119)]) dX5_oddsOf_103 rfl (nI_add i 1) (by decide) rfl ?_
        refine Sx.goto (t := 38) dX5_oddsOf_106 (by decide) ?_
        refine Sx.sub' [(7, .int (nI (i + 1))), (6, .int (nI (upc (V 2) (V 3)))), (5, .int (nI n)), (4, .int (nI (V 3 145))), (3, .int (nI c)), (2, .int (nI y)), (1, .ref 229), (0, .ref 119)] rfl ?_
        have ho : OF I I4 := fun q hq => by rw [o4 q (by omega), o3 q (by omega) (by omega), ho2 q hq]
        refine ih (i + 1) (by omega) (by omega) I4 (ho.ci C hb) (hf.tr ho) (fun z hz => ?_)
        rw [o4 123 (by decide), o3 123 (by decide) (by decide), e2, e4, o3 125 (by decide) (by decide), o2 125 (by decide)]
        by_cases q : z = i
        · rw [q, upd_at, upd_at]; exact ⟨rfl, rfl⟩
        · rw [upd_nj _ _ q, upd_nj _ _ q, o1 123 (by decide) (by decide), o1 125 (by decide) (by decide)]; exact hl z (by omega)
set_option maxRecDepth 20000 in
set_option maxHeartbeats 1000000 in
theorem l_cod2 {G : Gt} {l : Launch} {Z : Zt} {R : Rt} {I : It} {L : Lt} {post : Pt'} {V : Vt} {n c y : Nat} (W : WF Z R) (C : CI V R I L) (hH : HV V) (hn : V 3 145 + n = V 2 0) (h8 : n ≤ 8) (hl : ∀ i, i < n → I 123 i = nI (ltO V (V 3 145 + i)) ∧ I 125 i = nI (ltH V (V 3 145 + i))) (hc : c ≤ 100) (hy : y < 30) (h256 : 2 ^ n ≤ 256) (hS : sumN (fun m => if amn (exF (ltO V) (ltH V) n (V 3 145) (fun d => V 3 (18 + d)) m) (V 2 0) = y + 1 then prF c n m 1000000000 else 0) (2 ^ n) ≤ 1000000000) (h : post (some (.int (nI (sumN (fun m => if amn (exF (ltO V) (ltH V) n (V 3 145) (fun d => V 3 (18 + d)) m) (V 2 0) = y + 1 then prF c n m 1000000000 else 0) (2 ^ n))))) Z R I L) :
    ∀ (r m : Nat), m ≤ 2 ^ n → 2 ^ n < m + r → ∀ sm, sm = sumN (fun m => if amn (exF (ltO V) (ltH V) n (V 3 145) (fun d => V 3 (18 + d)) m) (V 2 0) = y + 1 then prF c n m 1000000000 else 0) m → Sx G l mX5_oddsOf 4 0 0 115 [(8, .int (nI m)), (7, .int (nI sm)), (6, .int (nI (upc (V 2) (V 3)))), (5, .int (nI n)), (4, .int (nI (V 3 145))), (3, .int (nI c)), (2, .int (nI y)), (1, .ref 229), (0, .ref 119)] [] Z R I L post := by
  obtain ⟨p1, p2, p3, p4, p5, p6, p7, p8, p9⟩ := id hH.2.2.2.1
  intro r
  induction r with
  | zero => intro m h1 h2; omega
  | succ r ih =>
    intro m h1 h2 sm hsm
    refine Sx.iload dX5_oddsOf_115 rfl ?_
    refine Sx.bipush (v := (nI 8)) dX5_oddsOf_117 (by decide) ?_
    refine Sx.icmp_gtV (t := 167) dX5_oddsOf_119 (by decide) (vN (by omega)) (vN (by decide)) (fun c119 => False.elim (by omega)) (fun c119 => ?_)
    refine Sx.iload dX5_oddsOf_122 rfl ?_
    refine Sx.iconst (v := (nI 1)) dX5_oddsOf_124 (by decide) ?_
    refine Sx.iload dX5_oddsOf_125 rfl ?_
    refine Sx.ishl1 dX5_oddsOf_127 (by omega) ?_
    refine Sx.icmp_geV (t := 167) dX5_oddsOf_128 (by decide) (vN (by omega)) (vN (by omega)) (fun c128 => ?_) (fun c128 => ?_)
    · have hj : m = 2 ^ n := by omega
      subst hj
      subst hsm
      refine Sx.iload dX5_oddsOf_167 rfl ?_
      refine Sx.iret dX5_oddsOf_169 rfl rfl ?_
      exact h
    · have hal := amn_le (exF (ltO V) (ltH V) n (V 3 145) (fun d => V 3 (18 + d)) m) (V 2 0)
      have hpl := prF_le hc n m 1000000000
      have hsl : sm ≤ 1000000000 := by rw [hsm]; have := sum_le (fun m => if amn (exF (ltO V) (ltH V) n (V 3 145) (fun d => V 3 (18 + d)) m) (V 2 0) = y + 1 then prF c n m 1000000000 else 0) (k := m) (2 ^ n - m); rw [show m + (2 ^ n - m) = 2 ^ n by omega] at this; omega
      refine Sx.iload dX5_oddsOf_131 rfl ?_
      refine Sx.aload_n dX5_oddsOf_133 rfl ?_
      refine Sx.aload_n dX5_oddsOf_134 rfl ?_
      refine Sx.iload dX5_oddsOf_135 rfl ?_
      refine Sx.iload dX5_oddsOf_137 rfl ?_
      refine Sx.callV3 dX5_oddsOf_139 lkv_X5_159 (rcv_5 (o_119 W)) (by decide) (by decide) (Nat.le_of_ble_eq_true rfl) rfl rfl (d_rulerBy W C hH (by omega) hn h8 hl ?_)
      refine Sx.iload_n dX5_oddsOf_142 rfl ?_
      refine Sx.icmp_neV (t := 157) dX5_oddsOf_143 (by decide) (vZ (by omega)) (vN (by omega)) (fun c143 => ?_) (fun c143 => ?_)
      · refine Sx.iconst (v := (nI 0)) dX5_oddsOf_157 (by decide) ?_
        refine Sx.iaddN dX5_oddsOf_158 ?_
        refine Sx.istore (lv' := [(7, .int (nI (sm + 0))), (8, .int (nI m)), (6, .int (nI (upc (V 2) (V 3)))), (5, .int (nI n)), (4, .int (nI (V 3 145))), (3, .int (nI c)), (2, .int (nI y)), (1, .ref 229), (0, .ref 119)]) dX5_oddsOf_159 (by decide) rfl ?_
        refine Sx.iinc (v := (nI (m + 1))) (lv' := [(8, .int (nI (m + 1))), (7, .int (nI (sm + 0))), (6, .int (nI (upc (V 2) (V 3)))), (5, .int (nI n)), (4, .int (nI (V 3 145))), (3, .int (nI c)), (2, .int (nI y)), (1, .ref 229), (0, .ref 119)]) dX5_oddsOf_161 rfl (nI_add m 1) (by decide) rfl ?_
        refine Sx.goto (t := 115) dX5_oddsOf_164 (by decide) ?_
        refine Sx.sub' [(8, .int (nI (m + 1))), (7, .int (nI (sm + 0))), (6, .int (nI (upc (V 2) (V 3)))), (5, .int (nI n)), (4, .int (nI (V 3 145))), (3, .int (nI c)), (2, .int (nI y)), (1, .ref 229), (0, .ref 119)] rfl ?_
        exact ih (m + 1) (by omega) (by omega) _ (by rw [sumN, ← hsm]; congr 1; exact (if_neg (by omega)).symm)
      · refine Sx.iload dX5_oddsOf_146 rfl ?_
        refine Sx.iload dX5_oddsOf_148 rfl ?_
        refine Sx.iload_n dX5_oddsOf_150 rfl ?_
        refine Sx.callS3 dX5_oddsOf_151 lkc_X5_162  (by decide) (by decide) (Nat.le_of_ble_eq_true rfl) rfl rfl (d_partOf (by omega) h8 hc ?_)
        refine Sx.goto (t := 158) dX5_oddsOf_154 (by decide) ?_
        refine Sx.iaddN dX5_oddsOf_158 ?_
        refine Sx.istore (lv' := [(7, .int (nI (sm + (prF c n m 1000000000)))), (8, .int (nI m)), (6, .int (nI (upc (V 2) (V 3)))), (5, .int (nI n)), (4, .int (nI (V 3 145))), (3, .int (nI c)), (2, .int (nI y)), (1, .ref 229), (0, .ref 119)]) dX5_oddsOf_159 (by decide) rfl ?_
        refine Sx.iinc (v := (nI (m + 1))) (lv' := [(8, .int (nI (m + 1))), (7, .int (nI (sm + (prF c n m 1000000000)))), (6, .int (nI (upc (V 2) (V 3)))), (5, .int (nI n)), (4, .int (nI (V 3 145))), (3, .int (nI c)), (2, .int (nI y)), (1, .ref 229), (0, .ref 119)]) dX5_oddsOf_161 rfl (nI_add m 1) (by decide) rfl ?_
        refine Sx.goto (t := 115) dX5_oddsOf_164 (by decide) ?_
        refine Sx.sub' [(8, .int (nI (m + 1))), (7, .int (nI (sm + (prF c n m 1000000000)))), (6, .int (nI (upc (V 2) (V 3)))), (5, .int (nI n)), (4, .int (nI (V 3 145))), (3, .int (nI c)), (2, .int (nI y)), (1, .ref 229), (0, .ref 119)] rfl ?_
        exact ih (m + 1) (by omega) (by omega) _ (by rw [sumN, ← hsm]; congr 1; exact (if_pos (by omega)).symm)
