/-! Port: a clause, the whole text -/
theorem rget_m1 (f : Nat → Int32) : rget 36 f (iI (-1)) = nI 0 := by
  unfold rget
  rw [if_neg (fun q => absurd q.1 (by decide))]
  rfl
set_option maxRecDepth 20000 in
set_option maxHeartbeats 1000000 in
theorem c_readsClause {G : Gt} {l : Launch} {Z : Zt} {R : Rt} {I : It} {L : Lt} {post : Pt'} {n c : Nat} {T Q : Nat → Nat} {r : Bool × Nat × (Nat → Nat)} (W : WF Z R) (hT : TS I T n c) (hp : rep 36 (I 106) Q) (hC : CB Q) (hU : UQ Q) (hR : clR T n c Q = r) (h : ∀ I', TS I' T n r.2.1 → (r.1 = true → rep 36 (I' 106) r.2.2) → (∀ q, q ≠ 101 → q ≠ 106 → I' q = I q) → post (some (.int (b2i r.1))) Z R I' L) : Cx G l mX6_readsClause 4 0 0 [.ref 105, .ref 101] Z R I L post := by
  refine Cx.of (by decide +kernel) (by exact Nat.le_of_ble_eq_true rfl) ?_
  obtain ⟨z1, z2, z3⟩ := hC
  have hn0 := hT.2.2.1
  have hc0 := hT.2.2.2.1
  refine Sx.aload_n dX6_readsClause_0 rfl ?_
  refine Sx.callV0 dX6_readsClause_1 lkv_X6_23 (rcv_9 (o_101 W)) (by decide) (by decide) (Nat.le_of_ble_eq_true rfl) rfl rfl (c_next W hT (fun I1 hT1 m1 g1 => ?_))
  have hx1 := nx_b T n c
  have ht1 := hT1.2.2.2.2.2 (nx T n c)
  have hc1 := hT1.2.2.2.1
  have hn1 := hT1.2.2.1
  have hs1 := sgn_or T n (nx T n c)
  refine Sx.istore_n (lv' := [(2, .int (nI (sgn T n (nx T n c)))), (0, .ref 105), (1, .ref 101)]) dX6_readsClause_4 (by decide) rfl ?_
  refine Sx.iload_n dX6_readsClause_5 rfl ?_
  refine Sx.bipush (v := (nI 115)) dX6_readsClause_6 (by decide) ?_
  refine Sx.icmp_neV (t := 16) dX6_readsClause_8 (by decide) (vN (by omega)) (vN (by decide)) (fun c8 => ?_) (fun c8 => ?_)
  · refine Sx.iload_n dX6_readsClause_16 rfl ?_
    refine Sx.bipush (v := (nI 107)) dX6_readsClause_17 (by decide) ?_
    refine Sx.icmp_neV (t := 27) dX6_readsClause_19 (by decide) (vN (by omega)) (vN (by decide)) (fun c19 => ?_) (fun c19 => ?_)
    · refine Sx.iload_n dX6_readsClause_27 rfl ?_
      refine Sx.bipush (v := (nI 112)) dX6_readsClause_28 (by decide) ?_
      refine Sx.icmp_neV (t := 38) dX6_readsClause_30 (by decide) (vN (by omega)) (vN (by decide)) (fun c30 => ?_) (fun c30 => ?_)
      · refine Sx.iconst (v := (iI (-1))) dX6_readsClause_38 (by decide) ?_
        refine Sx.istore_n (lv' := [(3, .int (iI (-1))), (2, .int (nI (sgn T n (nx T n c)))), (0, .ref 105), (1, .ref 101)]) dX6_readsClause_39 (by decide) rfl ?_
        refine Sx.iload_n dX6_readsClause_40 rfl ?_
        refine Sx.bipush (v := (nI 115)) dX6_readsClause_41 (by decide) ?_
        refine Sx.icmp_neV (t := 50) dX6_readsClause_43 (by decide) (vN (by omega)) (vN (by decide)) (fun c43 => ?_) (fun c43 => False.elim (by omega))
        refine Sx.iload_n dX6_readsClause_50 rfl ?_
        refine Sx.bipush (v := (nI 107)) dX6_readsClause_51 (by decide) ?_
        refine Sx.icmp_neV (t := 61) dX6_readsClause_53 (by decide) (vN (by omega)) (vN (by decide)) (fun c53 => ?_) (fun c53 => False.elim (by omega))
        refine Sx.bipush (v := (nI 6)) dX6_readsClause_61 (by decide) ?_
        refine Sx.istore (lv' := [(4, .int (nI 6)), (3, .int (iI (-1))), (2, .int (nI (sgn T n (nx T n c)))), (0, .ref 105), (1, .ref 101)]) dX6_readsClause_63 (by decide) rfl ?_
        refine Sx.aload_n dX6_readsClause_65 rfl ?_
        refine Sx.iload_n dX6_readsClause_66 rfl ?_
        refine Sx.callU1 dX6_readsClause_67 lku_X6_11 (rcv_6 (o_105 W)) (by decide) (by decide) (Nat.le_of_ble_eq_true rfl) rfl rfl (c_X7_get (w_105r W) rC6 (by decide) ?_)
        refine Sx.istore (lv' := [(5, .int (rget 36 (I1 (105 + 1)) (iI (-1)))), (4, .int (nI 6)), (3, .int (iI (-1))), (2, .int (nI (sgn T n (nx T n c)))), (0, .ref 105), (1, .ref 101)]) dX6_readsClause_70 (by decide) rfl ?_
        refine Sx.iload_n dX6_readsClause_72 rfl ?_
        refine Sx.iconst (v := (iI (-1))) dX6_readsClause_73 (by decide) ?_
        refine Sx.icmp_eqV (t := 84) dX6_readsClause_74 (by decide) (vZ (by decide)) (vZ (by decide)) (fun c74 => ?_) (fun c74 => False.elim (by omega))
        refine Sx.iconst (v := (nI 0)) dX6_readsClause_84 (by decide) ?_
        refine Sx.top (show _ = b2i false from rfl) ?_
        refine Sx.iret dX6_readsClause_85 rfl (b2i_n _) ?_
        rw [clR, if_neg (by omega), if_neg (by omega), if_neg (by omega)] at hR
        subst hR
        exact h I1 hT1 (fun q => by cases q) (fun q h1 h2 => by rw [g1 q h1])
      · refine Sx.bipush (v := (nI 35)) dX6_readsClause_33 (by decide) ?_
        refine Sx.goto (t := 39) dX6_readsClause_35 (by decide) ?_
        refine Sx.istore_n (lv' := [(3, .int (nI 35)), (2, .int (nI (sgn T n (nx T n c)))), (0, .ref 105), (1, .ref 101)]) dX6_readsClause_39 (by decide) rfl ?_
        refine Sx.iload_n dX6_readsClause_40 rfl ?_
        refine Sx.bipush (v := (nI 115)) dX6_readsClause_41 (by decide) ?_
        refine Sx.icmp_neV (t := 50) dX6_readsClause_43 (by decide) (vN (by omega)) (vN (by decide)) (fun c43 => ?_) (fun c43 => False.elim (by omega))
        refine Sx.iload_n dX6_readsClause_50 rfl ?_
        refine Sx.bipush (v := (nI 107)) dX6_readsClause_51 (by decide) ?_
        refine Sx.icmp_neV (t := 61) dX6_readsClause_53 (by decide) (vN (by omega)) (vN (by decide)) (fun c53 => ?_) (fun c53 => False.elim (by omega))
        refine Sx.bipush (v := (nI 6)) dX6_readsClause_61 (by decide) ?_
        refine Sx.istore (lv' := [(4, .int (nI 6)), (3, .int (nI 35)), (2, .int (nI (sgn T n (nx T n c)))), (0, .ref 105), (1, .ref 101)]) dX6_readsClause_63 (by decide) rfl ?_
        refine Sx.aload_n dX6_readsClause_65 rfl ?_
        refine Sx.iload_n dX6_readsClause_66 rfl ?_
        refine Sx.callU1 dX6_readsClause_67 lku_X6_11 (rcv_6 (o_105 W)) (by decide) (by decide) (Nat.le_of_ble_eq_true rfl) rfl rfl (c_rg (w_105r W) rC6 (by decide) (by rw [g1 ((105 + 1)) (by omega)]; exact hp) 35 rfl (by decide) ?_)
        refine Sx.istore (lv' := [(5, .int (nI (Q 35))), (4, .int (nI 6)), (3, .int (nI 35)), (2, .int (nI (sgn T n (nx T n c)))), (0, .ref 105), (1, .ref 101)]) dX6_readsClause_70 (by decide) rfl ?_
        refine Sx.iload_n dX6_readsClause_72 rfl ?_
        refine Sx.iconst (v := (iI (-1))) dX6_readsClause_73 (by decide) ?_
        refine Sx.icmp_eqV (t := 84) dX6_readsClause_74 (by decide) (vN (by decide)) (vZ (by decide)) (fun c74 => False.elim (by omega)) (fun c74 => ?_)
        refine Sx.iload dX6_readsClause_77 rfl ?_
        refine Sx.iload dX6_readsClause_79 rfl ?_
        refine Sx.icmp_ltV (t := 86) dX6_readsClause_81 (by decide) (vN (by omega)) (vN (by decide)) (fun c81 => ?_) (fun c81 => ?_)
        · have hsg : sgn T n (nx T n c) = 112 := by omega
          refine Sx.sub' [(5, .int (nI (Q 35))), (4, .int (nI 6)), (3, .int (nI 35)), (2, .int (nI 112)), (0, .ref 105), (1, .ref 101)] (by rw [hsg]; rfl) ?_
          refine Sx.aload_n dX6_readsClause_86 rfl ?_
          refine Sx.callV0 dX6_readsClause_87 lkv_X6_33 (rcv_9 (o_101 W)) (by decide) (by decide) (Nat.le_of_ble_eq_true rfl) rfl rfl (c_adv W hT1 (by omega) (fun I2 hT2 m2 g2 => ?_))
          have ht2 := hT2.2.2.2.2.2 (nx T n c + 1)
          have hc2 := hT2.2.2.2.1
          have hn2 := hT2.2.2.1
          have hs2 := sgn_or T n (nx T n c + 1)
          refine Sx.aload_n dX6_readsClause_90 rfl ?_
          refine Sx.iload_n dX6_readsClause_91 rfl ?_
          refine Sx.iload dX6_readsClause_92 rfl ?_
          refine Sx.iconst (v := (nI 1)) dX6_readsClause_94 (by decide) ?_
          refine Sx.iaddN dX6_readsClause_95 ?_
          refine Sx.callU2 dX6_readsClause_96 lku_X6_50 (rcv_6 (o_105 W)) (by decide) (by decide) (Nat.le_of_ble_eq_true rfl) rfl rfl (c_rs (w_105r W) rC6 (by decide) (by rw [g2 ((105 + 1)) (by omega), g1 ((105 + 1)) (by omega)]; exact hp) 35 (Q 35 + 1) rfl (by decide) rfl (fun I3 hA3 g3 => ?_))
          have hT3 := hT2.kp (g3 _ (by omega)) (g3 _ (by omega))
          refine Sx.aload_n dX6_readsClause_99 rfl ?_
          refine Sx.aload_n dX6_readsClause_100 rfl ?_
          refine Sx.iload_n dX6_readsClause_101 rfl ?_
          refine Sx.iload dX6_readsClause_102 rfl ?_
          refine Sx.callV3 dX6_readsClause_104 lkv_X6_64 (rcv_6 (o_105 W)) (by decide) (by decide) (Nat.le_of_ble_eq_true rfl) rfl rfl (c_readsItems (kc := 112) (x := Q 35) W (by unfold kcO; decide) (by omega) (by simp) hT3 (by rw [putQ_p hU (by omega)]; exact hA3) rfl (fun I4 hT4 u4 g4 => ?_))
          refine Sx.iret dX6_readsClause_107 rfl (b2i_n _) ?_
          rw [clR, if_neg (by omega), if_neg (by omega), if_pos (show sgn T n (nx T n c) = 112 ∧ Q 35 < 6 by omega)] at hR
          subst hR
          exact h I4 hT4 (fun q => u4 q) (fun q h1 h2 => by rw [g4 q h1 h2, g3 q h2, g2 q h1, g1 q h1])
        · refine Sx.iconst (v := (nI 0)) dX6_readsClause_84 (by decide) ?_
          refine Sx.top (show _ = b2i false from rfl) ?_
          refine Sx.iret dX6_readsClause_85 rfl (b2i_n _) ?_
          rw [clR, if_neg (by omega), if_neg (by omega), if_neg (by omega)] at hR
          subst hR
          exact h I1 hT1 (fun q => by cases q) (fun q h1 h2 => by rw [g1 q h1])
    · refine Sx.bipush (v := (nI 34)) dX6_readsClause_22 (by decide) ?_
      refine Sx.goto (t := 39) dX6_readsClause_24 (by decide) ?_
      refine Sx.istore_n (lv' := [(3, .int (nI 34)), (2, .int (nI (sgn T n (nx T n c)))), (0, .ref 105), (1, .ref 101)]) dX6_readsClause_39 (by decide) rfl ?_
      refine Sx.iload_n dX6_readsClause_40 rfl ?_
      refine Sx.bipush (v := (nI 115)) dX6_readsClause_41 (by decide) ?_
      refine Sx.icmp_neV (t := 50) dX6_readsClause_43 (by decide) (vN (by omega)) (vN (by decide)) (fun c43 => ?_) (fun c43 => False.elim (by omega))
      refine Sx.iload_n dX6_readsClause_50 rfl ?_
      refine Sx.bipush (v := (nI 107)) dX6_readsClause_51 (by decide) ?_
      refine Sx.icmp_neV (t := 61) dX6_readsClause_53 (by decide) (vN (by omega)) (vN (by decide)) (fun c53 => False.elim (by omega)) (fun c53 => ?_)
      refine Sx.bipush (v := (nI 6)) dX6_readsClause_56 (by decide) ?_
      refine Sx.goto (t := 63) dX6_readsClause_58 (by decide) ?_
      refine Sx.istore (lv' := [(4, .int (nI 6)), (3, .int (nI 34)), (2, .int (nI (sgn T n (nx T n c)))), (0, .ref 105), (1, .ref 101)]) dX6_readsClause_63 (by decide) rfl ?_
      refine Sx.aload_n dX6_readsClause_65 rfl ?_
      refine Sx.iload_n dX6_readsClause_66 rfl ?_
      refine Sx.callU1 dX6_readsClause_67 lku_X6_11 (rcv_6 (o_105 W)) (by decide) (by decide) (Nat.le_of_ble_eq_true rfl) rfl rfl (c_rg (w_105r W) rC6 (by decide) (by rw [g1 ((105 + 1)) (by omega)]; exact hp) 34 rfl (by decide) ?_)
      refine Sx.istore (lv' := [(5, .int (nI (Q 34))), (4, .int (nI 6)), (3, .int (nI 34)), (2, .int (nI (sgn T n (nx T n c)))), (0, .ref 105), (1, .ref 101)]) dX6_readsClause_70 (by decide) rfl ?_
      refine Sx.iload_n dX6_readsClause_72 rfl ?_
      refine Sx.iconst (v := (iI (-1))) dX6_readsClause_73 (by decide) ?_
      refine Sx.icmp_eqV (t := 84) dX6_readsClause_74 (by decide) (vN (by decide)) (vZ (by decide)) (fun c74 => False.elim (by omega)) (fun c74 => ?_)
      refine Sx.iload dX6_readsClause_77 rfl ?_
      refine Sx.iload dX6_readsClause_79 rfl ?_
      refine Sx.icmp_ltV (t := 86) dX6_readsClause_81 (by decide) (vN (by omega)) (vN (by decide)) (fun c81 => ?_) (fun c81 => ?_)
      · have hsg : sgn T n (nx T n c) = 107 := by omega
        refine Sx.sub' [(5, .int (nI (Q 34))), (4, .int (nI 6)), (3, .int (nI 34)), (2, .int (nI 107)), (0, .ref 105), (1, .ref 101)] (by rw [hsg]; rfl) ?_
        refine Sx.aload_n dX6_readsClause_86 rfl ?_
        refine Sx.callV0 dX6_readsClause_87 lkv_X6_33 (rcv_9 (o_101 W)) (by decide) (by decide) (Nat.le_of_ble_eq_true rfl) rfl rfl (c_adv W hT1 (by omega) (fun I5 hT5 m5 g5 => ?_))
        have ht5 := hT5.2.2.2.2.2 (nx T n c + 1)
        have hc5 := hT5.2.2.2.1
        have hn5 := hT5.2.2.1
        have hs5 := sgn_or T n (nx T n c + 1)
        refine Sx.aload_n dX6_readsClause_90 rfl ?_
        refine Sx.iload_n dX6_readsClause_91 rfl ?_
        refine Sx.iload dX6_readsClause_92 rfl ?_
        refine Sx.iconst (v := (nI 1)) dX6_readsClause_94 (by decide) ?_
        refine Sx.iaddN dX6_readsClause_95 ?_
        refine Sx.callU2 dX6_readsClause_96 lku_X6_50 (rcv_6 (o_105 W)) (by decide) (by decide) (Nat.le_of_ble_eq_true rfl) rfl rfl (c_rs (w_105r W) rC6 (by decide) (by rw [g5 ((105 + 1)) (by omega), g1 ((105 + 1)) (by omega)]; exact hp) 34 (Q 34 + 1) rfl (by decide) rfl (fun I6 hA6 g6 => ?_))
        have hT6 := hT5.kp (g6 _ (by omega)) (g6 _ (by omega))
        refine Sx.aload_n dX6_readsClause_99 rfl ?_
        refine Sx.aload_n dX6_readsClause_100 rfl ?_
        refine Sx.iload_n dX6_readsClause_101 rfl ?_
        refine Sx.iload dX6_readsClause_102 rfl ?_
        refine Sx.callV3 dX6_readsClause_104 lkv_X6_64 (rcv_6 (o_105 W)) (by decide) (by decide) (Nat.le_of_ble_eq_true rfl) rfl rfl (c_readsItems (kc := 107) (x := Q 34) W (by unfold kcO; decide) (by omega) (by simp) hT6 (by rw [putQ_k hU (by omega)]; exact hA6) rfl (fun I7 hT7 u7 g7 => ?_))
        refine Sx.iret dX6_readsClause_107 rfl (b2i_n _) ?_
        rw [clR, if_neg (by omega), if_pos (show sgn T n (nx T n c) = 107 ∧ Q 34 < 6 by omega)] at hR
        subst hR
        exact h I7 hT7 (fun q => u7 q) (fun q h1 h2 => by rw [g7 q h1 h2, g6 q h2, g5 q h1, g1 q h1])
      · refine Sx.iconst (v := (nI 0)) dX6_readsClause_84 (by decide) ?_
        refine Sx.top (show _ = b2i false from rfl) ?_
        refine Sx.iret dX6_readsClause_85 rfl (b2i_n _) ?_
        rw [clR, if_neg (by omega), if_neg (by omega), if_neg (by omega)] at hR
        subst hR
        exact h I1 hT1 (fun q => by cases q) (fun q h1 h2 => by rw [g1 q h1])
  · refine Sx.bipush (v := (nI 33)) dX6_readsClause_11 (by decide) ?_
    refine Sx.goto (t := 39) dX6_readsClause_13 (by decide) ?_
    refine Sx.istore_n (lv' := [(3, .int (nI 33)), (2, .int (nI (sgn T n (nx T n c)))), (0, .ref 105), (1, .ref 101)]) dX6_readsClause_39 (by decide) rfl ?_
    refine Sx.iload_n dX6_readsClause_40 rfl ?_
    refine Sx.bipush (v := (nI 115)) dX6_readsClause_41 (by decide) ?_
    refine Sx.icmp_neV (t := 50) dX6_readsClause_43 (by decide) (vN (by omega)) (vN (by decide)) (fun c43 => False.elim (by omega)) (fun c43 => ?_)
    refine Sx.iconst (v := (nI 1)) dX6_readsClause_46 (by decide) ?_
    refine Sx.goto (t := 63) dX6_readsClause_47 (by decide) ?_
    refine Sx.istore (lv' := [(4, .int (nI 1)), (3, .int (nI 33)), (2, .int (nI (sgn T n (nx T n c)))), (0, .ref 105), (1, .ref 101)]) dX6_readsClause_63 (by decide) rfl ?_
    refine Sx.aload_n dX6_readsClause_65 rfl ?_
    refine Sx.iload_n dX6_readsClause_66 rfl ?_
    refine Sx.callU1 dX6_readsClause_67 lku_X6_11 (rcv_6 (o_105 W)) (by decide) (by decide) (Nat.le_of_ble_eq_true rfl) rfl rfl (c_rg (w_105r W) rC6 (by decide) (by rw [g1 ((105 + 1)) (by omega)]; exact hp) 33 rfl (by decide) ?_)
    refine Sx.istore (lv' := [(5, .int (nI (Q 33))), (4, .int (nI 1)), (3, .int (nI 33)), (2, .int (nI (sgn T n (nx T n c)))), (0, .ref 105), (1, .ref 101)]) dX6_readsClause_70 (by decide) rfl ?_
    refine Sx.iload_n dX6_readsClause_72 rfl ?_
    refine Sx.iconst (v := (iI (-1))) dX6_readsClause_73 (by decide) ?_
    refine Sx.icmp_eqV (t := 84) dX6_readsClause_74 (by decide) (vN (by decide)) (vZ (by decide)) (fun c74 => False.elim (by omega)) (fun c74 => ?_)
    refine Sx.iload dX6_readsClause_77 rfl ?_
    refine Sx.iload dX6_readsClause_79 rfl ?_
    refine Sx.icmp_ltV (t := 86) dX6_readsClause_81 (by decide) (vN (by omega)) (vN (by decide)) (fun c81 => ?_) (fun c81 => ?_)
    · have hsg : sgn T n (nx T n c) = 115 := by omega
      have hq0 : Q 33 = 0 := by omega
      refine Sx.sub' [(5, .int (nI 0)), (4, .int (nI 1)), (3, .int (nI 33)), (2, .int (nI 115)), (0, .ref 105), (1, .ref 101)] (by rw [hsg, hq0]; rfl) ?_
      refine Sx.aload_n dX6_readsClause_86 rfl ?_
      refine Sx.callV0 dX6_readsClause_87 lkv_X6_33 (rcv_9 (o_101 W)) (by decide) (by decide) (Nat.le_of_ble_eq_true rfl) rfl rfl (c_adv W hT1 (by omega) (fun I8 hT8 m8 g8 => ?_))
      have ht8 := hT8.2.2.2.2.2 (nx T n c + 1)
      have hc8 := hT8.2.2.2.1
      have hn8 := hT8.2.2.1
      have hs8 := sgn_or T n (nx T n c + 1)
      refine Sx.aload_n dX6_readsClause_90 rfl ?_
      refine Sx.iload_n dX6_readsClause_91 rfl ?_
      refine Sx.iload dX6_readsClause_92 rfl ?_
      refine Sx.iconst (v := (nI 1)) dX6_readsClause_94 (by decide) ?_
      refine Sx.iaddN dX6_readsClause_95 ?_
      refine Sx.callU2 dX6_readsClause_96 lku_X6_50 (rcv_6 (o_105 W)) (by decide) (by decide) (Nat.le_of_ble_eq_true rfl) rfl rfl (c_rs (w_105r W) rC6 (by decide) (by rw [g8 ((105 + 1)) (by omega), g1 ((105 + 1)) (by omega)]; exact hp) 33 (1) rfl (by decide) rfl (fun I9 hA9 g9 => ?_))
      have hT9 := hT8.kp (g9 _ (by omega)) (g9 _ (by omega))
      refine Sx.aload_n dX6_readsClause_99 rfl ?_
      refine Sx.aload_n dX6_readsClause_100 rfl ?_
      refine Sx.iload_n dX6_readsClause_101 rfl ?_
      refine Sx.iload dX6_readsClause_102 rfl ?_
      refine Sx.callV3 dX6_readsClause_104 lkv_X6_64 (rcv_6 (o_105 W)) (by decide) (by decide) (Nat.le_of_ble_eq_true rfl) rfl rfl (c_readsItems (kc := 115) (x := 0) W (by unfold kcO; decide) (by omega) (by simp) hT9 (by rw [putQ_s hU hq0]; exact hA9) rfl (fun I10 hT10 u10 g10 => ?_))
      refine Sx.iret dX6_readsClause_107 rfl (b2i_n _) ?_
      rw [clR, if_pos (show sgn T n (nx T n c) = 115 ∧ Q 33 = 0 by omega)] at hR
      subst hR
      exact h I10 hT10 (fun q => u10 q) (fun q h1 h2 => by rw [g10 q h1 h2, g9 q h2, g8 q h1, g1 q h1])
    · refine Sx.iconst (v := (nI 0)) dX6_readsClause_84 (by decide) ?_
      refine Sx.top (show _ = b2i false from rfl) ?_
      refine Sx.iret dX6_readsClause_85 rfl (b2i_n _) ?_
      rw [clR, if_neg (by omega), if_neg (by omega), if_neg (by omega)] at hR
      subst hR
      exact h I1 hT1 (fun q => by cases q) (fun q h1 h2 => by rw [g1 q h1])
set_option maxRecDepth 20000 in
set_option maxHeartbeats 1000000 in
theorem l_creads {G : Gt} {l : Launch} {Z : Zt} {R : Rt} {L : Lt} {post : Pt'} {n : Nat} {T : Nat → Nat} {r : Bool × Nat × (Nat → Nat)} {I0 : It} (W : WF Z R) (h : ∀ I', TS I' T n r.2.1 → (r.1 = true → rep 36 (I' 106) r.2.2) → (∀ q, q ≠ 101 → q ≠ 106 → I' q = I0 q) → post (some (.int (b2i r.1))) Z R I' L) :
    ∀ (k i q0 : Nat), q0 < k → ∀ (I : It) (c : Nat) (Q : Nat → Nat), ptR T n q0 c Q = r → cntQ Q + q0 = 14 → i + q0 = 14 → CB Q → QL Q → UQ Q → TS I T n c → rep 36 (I 106) Q → (∀ q, q ≠ 101 → q ≠ 106 → I q = I0 q) → Sx G l mX6_reads 5 0 0 12 [(2, .int (nI i)), (0, .ref 105), (1, .ref 101)] [] Z R I L post := by
  intro k
  induction k with
  | zero => intro i q0 h1; omega
  | succ k ih =>
    intro i q0 h1 I c Q hR hp0 hi14 hC hL hU hT hp hI
    have hcnt : cntQ Q ≤ 13 := by unfold cntQ; obtain ⟨q1, q2, q3⟩ := hC; omega
    obtain ⟨q, rfl⟩ : ∃ z, q0 = z + 1 := ⟨q0 - 1, by omega⟩
    refine Sx.iload_n dX6_reads_12 rfl ?_
    refine Sx.bipush (v := (nI 13)) dX6_reads_13 (by decide) ?_
    refine Sx.icmp_gtV (t := 60) dX6_reads_15 (by decide) (vN (by omega)) (vN (by decide)) (fun c15 => False.elim (by omega)) (fun c15 => ?_)
    refine Sx.aload_n dX6_reads_18 rfl ?_
    refine Sx.aload_n dX6_reads_19 rfl ?_
    refine Sx.callV1 dX6_reads_20 lkv_X6_19 (rcv_6 (o_105 W)) (by decide) (by decide) (Nat.le_of_ble_eq_true rfl) rfl rfl (c_readsClause W hT hp hC hU rfl (fun I1 hT1 u1 g1 => ?_))
    have ht1 := hT1.2.2.2.2.2 ((clR T n c Q).2.1)
    have hc1 := hT1.2.2.2.1
    have hn1 := hT1.2.2.1
    have hs1 := sgn_or T n ((clR T n c Q).2.1)
    refine Sx.if_neB (t := 28) dX6_reads_23 (by decide) (fun c23 => ?_) (fun c23 => ?_)
    · refine Sx.aload_n dX6_reads_28 rfl ?_
      refine Sx.callV0 dX6_reads_29 lkv_X6_23 (rcv_9 (o_101 W)) (by decide) (by decide) (Nat.le_of_ble_eq_true rfl) rfl rfl (c_next W hT1 (fun I2 hT2 m2 g2 => ?_))
      have hx2 := nx_b T n ((clR T n c Q).2.1)
      have ht2 := hT2.2.2.2.2.2 (nx T n ((clR T n c Q).2.1))
      have hc2 := hT2.2.2.2.1
      have hn2 := hT2.2.2.1
      have hs2 := sgn_or T n (nx T n ((clR T n c Q).2.1))
      refine Sx.istore_n (lv' := [(3, .int (nI (sgn T n (nx T n ((clR T n c Q).2.1))))), (2, .int (nI i)), (0, .ref 105), (1, .ref 101)]) dX6_reads_32 (by decide) rfl ?_
      refine Sx.iload_n dX6_reads_33 rfl ?_
      refine Sx.if_neV (t := 42) dX6_reads_34 (by decide) (vN (by omega)) (fun c34 => ?_) (fun c34 => ?_)
      · refine Sx.iload_n dX6_reads_42 rfl ?_
        refine Sx.bipush (v := (nI 59)) dX6_reads_43 (by decide) ?_
        refine Sx.icmp_eqV (t := 50) dX6_reads_45 (by decide) (vN (by omega)) (vN (by decide)) (fun c45 => ?_) (fun c45 => ?_)
        · refine Sx.aload_n dX6_reads_50 rfl ?_
          refine Sx.callV0 dX6_reads_51 lkv_X6_33 (rcv_9 (o_101 W)) (by decide) (by decide) (Nat.le_of_ble_eq_true rfl) rfl rfl (c_adv W hT2 (by omega) (fun I3 hT3 m3 g3 => ?_))
          have ht3 := hT3.2.2.2.2.2 (nx T n ((clR T n c Q).2.1) + 1)
          have hc3 := hT3.2.2.2.1
          have hn3 := hT3.2.2.1
          have hs3 := sgn_or T n (nx T n ((clR T n c Q).2.1) + 1)
          refine Sx.iinc (v := (nI (i + 1))) (lv' := [(2, .int (nI (i + 1))), (3, .int (nI (sgn T n (nx T n ((clR T n c Q).2.1))))), (0, .ref 105), (1, .ref 101)]) dX6_reads_54 rfl (nI_add i 1) (by decide) rfl ?_
          refine Sx.goto (t := 12) dX6_reads_57 (by decide) ?_
          refine Sx.sub' [(2, .int (nI (i + 1))), (0, .ref 105), (1, .ref 101)] rfl ?_
          rw [ptR, if_pos c23] at hR
          rw [if_neg (by omega), if_pos (by omega)] at hR
          obtain ⟨hc1, hc2⟩ := clR_c hC c23
          exact ih (i + 1) q (by omega) I3 _ _ hR (by omega) (by omega) hc1 (clR_L hL) (clR_U hU c23) hT3 (by rw [g3 106 (by omega), g2 106 (by omega)]; exact u1 c23) (fun q h1 h2 => by rw [g3 q h1, g2 q h1, g1 q h1 h2]; exact hI q h1 h2)
        · refine Sx.iconst (v := (nI 0)) dX6_reads_48 (by decide) ?_
          refine Sx.top (show _ = b2i false from rfl) ?_
          refine Sx.iret dX6_reads_49 rfl (b2i_n _) ?_
          rw [ptR, if_pos c23] at hR
          rw [if_neg (by omega), if_neg (by omega)] at hR
          subst hR
          exact h I2 hT2 (fun q => by cases q) (fun q h1 h2 => by rw [g2 q h1, g1 q h1 h2]; exact hI q h1 h2)
      · obtain ⟨hc1, hc2⟩ := clR_c hC c23
        refine Sx.aload_n dX6_reads_37 rfl ?_
        refine Sx.callV0 dX6_reads_38 lkv_X6_29 (rcv_6 (o_105 W)) (by decide) (by decide) (Nat.le_of_ble_eq_true rfl) rfl rfl (c_isWholeP W (by rw [g2 ((105 + 1)) (by omega)]; exact u1 c23) hc1 (clR_L hL) ?_)
        refine Sx.iret dX6_reads_41 rfl (b2i_n _) ?_
        rw [ptR, if_pos c23] at hR
        rw [if_pos (by omega)] at hR
        subst hR
        exact h I2 hT2 (fun _ => by rw [g2 106 (by omega)]; exact u1 c23) (fun q h1 h2 => by rw [g2 q h1, g1 q h1 h2]; exact hI q h1 h2)
    · refine Sx.iconst (v := (nI 0)) dX6_reads_26 (by decide) ?_
      refine Sx.top (show _ = b2i false from rfl) ?_
      refine Sx.iret dX6_reads_27 rfl (b2i_n _) ?_
      rw [ptR, if_neg (by rw [c23]; decide)] at hR
      subst hR
      exact h I1 hT1 (fun q => by cases q) (fun q h1 h2 => by rw [g1 q h1 h2]; exact hI q h1 h2)
set_option maxRecDepth 20000 in
set_option maxHeartbeats 1000000 in
theorem c_readsPort {G : Gt} {l : Launch} {Z : Zt} {R : Rt} {I : It} {L : Lt} {post : Pt'} {n : Nat} {T : Nat → Nat} {r : Bool × Nat × (Nat → Nat)} (W : WF Z R) (hT : TS I T n 0) (hR : ptR T n 14 0 usQ = r) (h : ∀ I', TS I' T n r.2.1 → (r.1 = true → rep 36 (I' 106) r.2.2) → (∀ q, q ≠ 101 → q ≠ 106 → I' q = I q) → post (some (.int (b2i r.1))) Z R I' L) : Cx G l mX6_reads 5 0 0 [.ref 105, .ref 101] Z R I L post := by
  refine Cx.of (by decide +kernel) (by exact Nat.le_of_ble_eq_true rfl) ?_
  refine Sx.aload_n dX6_reads_0 rfl ?_
  refine Sx.ifnonnull (t := 6) dX6_reads_1 (by decide) ?_
  refine Sx.aload_n dX6_reads_6 rfl ?_
  refine Sx.callV0 dX6_reads_7 lkv_X6_15 (rcv_6 (o_105 W)) (by decide) (by decide) (Nat.le_of_ble_eq_true rfl) rfl rfl (c_fillU W (fun I1 hp1 g1 => ?_))
  refine Sx.iconst (v := (nI 0)) dX6_reads_10 (by decide) ?_
  refine Sx.istore_n (lv' := [(2, .int (nI 0)), (0, .ref 105), (1, .ref 101)]) dX6_reads_11 (by decide) rfl ?_
  refine Sx.sub' [(2, .int (nI 0)), (0, .ref 105), (1, .ref 101)] rfl ?_
  exact l_creads W (I0 := I1) (fun z t u g => h z t u (fun q a b => (g q a b).trans (g1 q b))) 15 0 14 (by decide) I1 0 usQ hR (by decide) (by decide) ⟨by decide, by decide, by decide⟩ usQ_L usQ_U (hT.kp (g1 _ (by decide)) (g1 _ (by decide))) hp1 (fun _ _ _ => rfl)
