/-! Calendar: a whole plan -/
theorem TS.kp {I I' : It} {T : Nat → Nat} {n c : Nat} (h : TS I T n c) (h1 : I' 101 = I 101) (h2 : I' 102 = I 102) : TS I' T n c := by
  unfold TS
  rw [h1, h2]
  exact h
theorem stpW_0 (T : Nat → Nat) (n c : Nat) : True := trivial
set_option maxRecDepth 20000 in
set_option maxHeartbeats 1000000 in
theorem l_cal {G : Gt} {l : Launch} {Z : Zt} {R : Rt} {L : Lt} {post : Pt'} {a n N : Nat} {T : Nat → Nat} {O : Bool} {E : Nat} {FF : Nat → Int32} {I0 : It} (W : WF Z R) (ha : rwo Z R a 0 60) (hx : 233 ≤ a ∧ a < 260) (h : ∀ I', TS I' T n E → (O = true → I' a 1 = nI N ∧ I' (a + 1) = FF) → (∀ q, q ≠ 101 → q ≠ a + 1 → q ≠ a → I' q = I0 q) → post (some (.int (b2i O))) Z R I' L) :
    ∀ (k j : Nat), j ≤ 19 → 19 < j + k → ∀ (I : It) (c : Nat) (f : Nat → Int32), TS I T n c → I a 1 = nI j → I (a + 1) = f → (∀ q, q ≠ 101 → q ≠ a + 1 → q ≠ a → I q = I0 q) → cpO T n (20 - j) c = O → cpE T n (20 - j) c = E → j + cpN T n (20 - j) c = N → cpF T n (20 - j) c j f = FF →
      Sx G l mX0_reads 4 0 0 13 [(2, .int (nI j)), (0, .ref a), (1, .ref 101)] [] Z R I L post := by
  intro k
  induction k with
  | zero => intro j h1 h2; omega
  | succ k ih =>
    intro j h1 h2 I c f hT hs1 hf0 hI hO hE hN hFF
    refine Sx.iload_n dX0_reads_13 rfl ?_
    refine Sx.bipush (v := (nI 20)) dX0_reads_14 (by decide) ?_
    refine Sx.icmp_geV (t := 67) dX0_reads_16 (by decide) (vN (by omega)) (vN (by decide)) (fun c16 => False.elim (by omega)) (fun c16 => ?_)
    refine Sx.aload_n dX0_reads_19 rfl ?_
    refine Sx.aload_n dX0_reads_20 rfl ?_
    refine Sx.callV1 dX0_reads_21 lkv_X0_19 (rcv_0 ha.1) (by decide) (by decide) (Nat.le_of_ble_eq_true rfl) rfl rfl (c_readsStep W ha hx (by omega) hs1 hT (fun I1 hT1 u1 g1 => ?_))
    have ht1 := hT1.2.2.2.2.2 (stpE T n c)
    have hc1 := hT1.2.2.2.1
    have hn1 := hT1.2.2.1
    have hs1 := sgn_or T n (stpE T n c)
    refine Sx.if_neB (t := 29) dX0_reads_24 (by decide) (fun c24 => ?_) (fun c24 => ?_)
    · refine Sx.aload_n dX0_reads_29 rfl ?_
      refine Sx.callV0 dX0_reads_30 lkv_X0_23 (rcv_9 (o_101 W)) (by decide) (by decide) (Nat.le_of_ble_eq_true rfl) rfl rfl (c_next W hT1 (fun I2 hT2 m2 g2 => ?_))
      have hx2 := nx_b T n (stpE T n c)
      have ht2 := hT2.2.2.2.2.2 (nx T n (stpE T n c))
      have hc2 := hT2.2.2.2.1
      have hn2 := hT2.2.2.1
      have hs2 := sgn_or T n (nx T n (stpE T n c))
      refine Sx.istore_n (lv' := [(3, .int (nI (sgn T n (nx T n (stpE T n c))))), (2, .int (nI j)), (0, .ref a), (1, .ref 101)]) dX0_reads_33 (by decide) rfl ?_
      refine Sx.iload_n dX0_reads_34 rfl ?_
      refine Sx.if_neV (t := 40) dX0_reads_35 (by decide) (vN (by omega)) (fun c35 => ?_) (fun c35 => ?_)
      · refine Sx.iload_n dX0_reads_40 rfl ?_
        refine Sx.bipush (v := (nI 59)) dX0_reads_41 (by decide) ?_
        refine Sx.icmp_neV (t := 55) dX0_reads_43 (by decide) (vN (by omega)) (vN (by decide)) (fun c43 => ?_) (fun c43 => ?_)
        · refine Sx.iconst (v := (nI 0)) dX0_reads_55 (by decide) ?_
          refine Sx.top (show _ = b2i false from rfl) ?_
          refine Sx.iret dX0_reads_56 rfl (b2i_n _) ?_
          rw [show 20 - j = (20 - (j + 1)) + 1 by omega] at hO hE hN hFF
          have n9 : ¬ (sgn T n (stpN T n c) = 59 ∧ 20 - (j + 1) ≠ 0) := fun q => by unfold stpN at q; omega
          rw [cpO, c24, decide_eq_false (show ¬ sgn T n (stpN T n c) = 0 by unfold stpN; omega), decide_eq_false n9] at hO
          rw [cpE, if_pos c24, if_neg n9] at hE
          have hO2 : O = false := hO.symm
          exact pBB hO2 (h I2 (by rw [← hE]; exact hT2) (fun q => by rw [hO2] at q; cases q) (fun q h1 h2 h3 => by rw [g2 q h1, g1 q h1 h2 h3]; exact hI q h1 h2 h3))
        · refine Sx.aload_n dX0_reads_46 rfl ?_
          refine Sx.getfV (v := (nI (j + 1))) dX0_reads_47 lkf_X0_11_0 ha.1 (by rw [g2 a (by omega)]; exact (u1 c24).1) ?_
          refine Sx.bipush (v := (nI 20)) dX0_reads_50 (by decide) ?_
          refine Sx.icmp_ltV (t := 57) dX0_reads_52 (by decide) (vN (by omega)) (vN (by decide)) (fun c52 => ?_) (fun c52 => ?_)
          · refine Sx.aload_n dX0_reads_57 rfl ?_
            refine Sx.callV0 dX0_reads_58 lkv_X0_29 (rcv_9 (o_101 W)) (by decide) (by decide) (Nat.le_of_ble_eq_true rfl) rfl rfl (c_adv W hT2 (by omega) (fun I3 hT3 m3 g3 => ?_))
            have ht3 := hT3.2.2.2.2.2 (nx T n (stpE T n c) + 1)
            have hc3 := hT3.2.2.2.1
            have hn3 := hT3.2.2.1
            have hs3 := sgn_or T n (nx T n (stpE T n c) + 1)
            refine Sx.iinc (v := (nI (j + 1))) (lv' := [(2, .int (nI (j + 1))), (3, .int (nI (sgn T n (nx T n (stpE T n c))))), (0, .ref a), (1, .ref 101)]) dX0_reads_61 rfl (nI_add j 1) (by decide) rfl ?_
            refine Sx.goto (t := 13) dX0_reads_64 (by decide) ?_
            refine Sx.sub' [(2, .int (nI (j + 1))), (0, .ref a), (1, .ref 101)] rfl ?_
            have h9 : sgn T n (stpN T n c) = 59 ∧ 20 - (j + 1) ≠ 0 := ⟨by unfold stpN; omega, by omega⟩
            rw [show 20 - j = (20 - (j + 1)) + 1 by omega] at hO hE hN hFF
            rw [cpO, c24, decide_eq_false (show ¬ sgn T n (stpN T n c) = 0 by omega), decide_eq_true h9] at hO
            rw [cpE, if_pos c24, if_pos h9] at hE
            rw [cpN, if_pos h9] at hN
            rw [cpF, if_pos h9] at hFF
            exact ih (j + 1) (by omega) (by omega) I3 (stpN T n c + 1) (stpR T n c j f) hT3 (by rw [g3 a (by omega), g2 a (by omega)]; exact (u1 c24).1) (by rw [g3 ((a + 1)) (by omega), g2 ((a + 1)) (by omega), (u1 c24).2, hf0]) (fun q h1 h2 h3 => by rw [g3 q h1, g2 q h1, g1 q h1 h2 h3]; exact hI q h1 h2 h3) hO hE (by omega) hFF
          · refine Sx.iconst (v := (nI 0)) dX0_reads_55 (by decide) ?_
            refine Sx.top (show _ = b2i false from rfl) ?_
            refine Sx.iret dX0_reads_56 rfl (b2i_n _) ?_
            rw [show 20 - j = (20 - (j + 1)) + 1 by omega] at hO hE hN hFF
            have n9 : ¬ (sgn T n (stpN T n c) = 59 ∧ 20 - (j + 1) ≠ 0) := fun q => by unfold stpN at q; omega
            rw [cpO, c24, decide_eq_false (show ¬ sgn T n (stpN T n c) = 0 by unfold stpN; omega), decide_eq_false n9] at hO
            rw [cpE, if_pos c24, if_neg n9] at hE
            have hO2 : O = false := hO.symm
            exact pBB hO2 (h I2 (by rw [← hE]; exact hT2) (fun q => by rw [hO2] at q; cases q) (fun q h1 h2 h3 => by rw [g2 q h1, g1 q h1 h2 h3]; exact hI q h1 h2 h3))
      · refine Sx.iconst (v := (nI 1)) dX0_reads_38 (by decide) ?_
        refine Sx.top (show _ = b2i true from rfl) ?_
        refine Sx.iret dX0_reads_39 rfl (b2i_n _) ?_
        rw [show 20 - j = (20 - (j + 1)) + 1 by omega] at hO hE hN hFF
        have h0 : sgn T n (stpN T n c) = 0 := by unfold stpN; omega
        have n9 : ¬ (sgn T n (stpN T n c) = 59 ∧ 20 - (j + 1) ≠ 0) := fun q => by unfold stpN at q; omega
        rw [cpO, c24, decide_eq_true h0] at hO
        rw [cpE, if_pos c24, if_neg n9] at hE
        rw [cpN, if_neg n9] at hN
        rw [cpF, if_neg n9] at hFF
        exact pBB hO.symm (h I2 (by rw [← hE]; exact hT2) (fun _ => ⟨by rw [g2 a (by omega), (u1 c24).1]; congr 1, by rw [g2 ((a + 1)) (by omega), (u1 c24).2, hf0, hFF]⟩) (fun q h1 h2 h3 => by rw [g2 q h1, g1 q h1 h2 h3]; exact hI q h1 h2 h3))
    · refine Sx.iconst (v := (nI 0)) dX0_reads_27 (by decide) ?_
      refine Sx.top (show _ = b2i false from rfl) ?_
      refine Sx.iret dX0_reads_28 rfl (b2i_n _) ?_
      rw [show 20 - j = (20 - (j + 1)) + 1 by omega] at hO hE hN hFF
      rw [cpO, c24] at hO
      rw [cpE, if_neg (by rw [c24]; decide)] at hE
      have hO2 : O = false := hO.symm
      exact pBB hO2 (h I1 (by rw [← hE]; exact hT1) (fun q => by rw [hO2] at q; cases q) (fun q h1 h2 h3 => by rw [g1 q h1 h2 h3]; exact hI q h1 h2 h3))
set_option maxRecDepth 20000 in
set_option maxHeartbeats 1000000 in
theorem c_readsCal {G : Gt} {l : Launch} {Z : Zt} {R : Rt} {I : It} {L : Lt} {post : Pt'} {a n : Nat} {T : Nat → Nat} (W : WF Z R) (ha : rwo Z R a 0 60) (hx : 233 ≤ a ∧ a < 260) (hT : TS I T n 0) (h : ∀ I', TS I' T n (cpE T n 20 0) → (cpO T n 20 0 = true → I' a 1 = nI (cpN T n 20 0) ∧ I' (a + 1) = cpF T n 20 0 0 (I (a + 1))) → (∀ q, q ≠ 101 → q ≠ a + 1 → q ≠ a → I' q = I q) → post (some (.int (b2i (cpO T n 20 0)))) Z R I' L) : Cx G l mX0_reads 4 0 0 [.ref a, .ref 101] Z R I L post := by
  refine Cx.of (by decide +kernel) (by exact Nat.le_of_ble_eq_true rfl) ?_
  refine Sx.aload_n dX0_reads_0 rfl ?_
  refine Sx.iconst (v := (nI 0)) dX0_reads_1 (by decide) ?_
  refine Sx.putfV dX0_reads_2 lkp_X0_11_0 ha.1 rfl rfl (fun I1 e1 o1 => ?_)
  refine Sx.aload_n dX0_reads_5 rfl ?_
  refine Sx.ifnonnull (t := 11) dX0_reads_6 (by decide) ?_
  refine Sx.iconst (v := (nI 0)) dX0_reads_11 (by decide) ?_
  refine Sx.istore_n (lv' := [(2, .int (nI 0)), (0, .ref a), (1, .ref 101)]) dX0_reads_12 (by decide) rfl ?_
  refine Sx.sub' [(2, .int (nI 0)), (0, .ref a), (1, .ref 101)] rfl ?_
  exact l_cal W ha hx (I0 := I1) (O := cpO T n 20 0) (E := cpE T n 20 0) (N := cpN T n 20 0) (FF := cpF T n 20 0 0 (I (a + 1))) (fun I' t u g => h I' t u (fun q h1 h2 h3 => (g q h1 h2 h3).trans (o1 q h3))) 20 0 (by decide) (by decide) I1 0 (I (a + 1)) (hT.kp (o1 _ (by omega)) (o1 _ (by omega))) (by rw [e1, upd_at]) (o1 _ (by omega)) (fun _ _ _ _ => rfl) rfl rfl (Nat.zero_add _) rfl
