/-! Calendar: a whole step -/
def stpW (T : Nat → Nat) (n c : Nat) : Nat := plN LC (nI (sgn T n (nx T n c)))
def stpB (T : Nat → Nat) (n c : Nat) : Nat := enC T n (stpW T n c - 1) 1 (nx T n c + 1)
def stpK (T : Nat → Nat) (n c : Nat) : Bool := !decide (stpW T n c = 0) && (enK T n (stpW T n c - 1) 1 (nx T n c + 1) && enK T n (stpW T n c - 1) 2 (stpB T n c))
/-- where the cursor stands behind a step -/
def stpE (T : Nat → Nat) (n c : Nat) : Nat :=
  if stpW T n c = 0 then nx T n c else
  if enK T n (stpW T n c - 1) 1 (nx T n c + 1) = false then nx T n (nx T n c + 1) else
  if enK T n (stpW T n c - 1) 2 (stpB T n c) = false then nx T n (stpB T n c) else enC T n (stpW T n c - 1) 2 (stpB T n c)
/-- what is written for it -/
def stpR (T : Nat → Nat) (n c st : Nat) (f : Nat → Int32) : Nat → Int32 :=
  upd (upd (upd f (3 * st) (nI (stpW T n c - 1))) (3 * st + 1) (enV T n (stpW T n c - 1) 1 (nx T n c + 1))) (3 * st + 2) (enV T n (stpW T n c - 1) 2 (stpB T n c))
theorem stpW_le (T : Nat → Nat) (n c : Nat) : stpW T n c ≤ 6 := by
  have := fst1_le (lsF LC) (nI (sgn T n (nx T n c))) 6 0
  have e : stpW T n c = fst1 (lsF LC) (nI (sgn T n (nx T n c))) 6 0 := rfl
  omega
theorem stpW_pos {T : Nat → Nat} {n c : Nat} (h : stpW T n c ≠ 0) : nx T n c < n := by
  rcases Nat.lt_or_ge (nx T n c) n with q | q
  · exact q
  · exact absurd (by unfold stpW sgn; rw [if_neg (by omega)]; rfl) h
set_option maxRecDepth 20000 in
set_option maxHeartbeats 1000000 in
theorem c_readsStep {G : Gt} {l : Launch} {Z : Zt} {R : Rt} {I : It} {L : Lt} {post : Pt'} {a st : Nat} {T : Nat → Nat} {n c : Nat} (W : WF Z R) (ha : rwo Z R a 0 60) (hx : 233 ≤ a ∧ a < 260) (hst : st < 20) (hs1 : I a 1 = nI st) (hT : TS I T n c) (h : ∀ I', TS I' T n (stpE T n c) → (stpK T n c = true → I' a 1 = nI (st + 1) ∧ I' (a + 1) = stpR T n c st (I (a + 1))) → (∀ q, q ≠ 101 → q ≠ a + 1 → q ≠ a → I' q = I q) → post (some (.int (b2i (stpK T n c)))) Z R I' L) : Cx G l mX0_readsStep 3 0 0 [.ref a, .ref 101] Z R I L post := by
  refine Cx.of (by decide +kernel) (by exact Nat.le_of_ble_eq_true rfl) ?_
  refine Sx.gets dX0_readsStep_0 (k := 1) rfl (by decide) lks_X0_33 ?_
  refine Sx.aload_n dX0_readsStep_3 rfl ?_
  refine Sx.callV0 dX0_readsStep_4 lkv_X0_23 (rcv_9 (o_101 W)) (by decide) (by decide) (Nat.le_of_ble_eq_true rfl) rfl rfl (c_next W hT (fun I1 hT1 g0 g1 => ?_))
  refine Sx.callSN2 dX0_readsStep_7 lkc_X0_37  (by decide) (by decide) (Nat.le_of_ble_eq_true rfl) rfl rfl (c_placeIn (r := ("DarkestDay$Calendar", "LETTERS", "[C", 53, [100, 104, 98, 102, 101, 99])) rfl (by decide) rfl (by decide) ?_)
  refine Sx.ist_n (fun zz => [(2, .int zz), (0, .ref a), (1, .ref 101)]) dX0_readsStep_10 (by decide) (fun _ => rfl) (fun x2_10 ex2_10 => ?_)
  change x2_10 = nI (stpW T n c) - 1 at ex2_10
  have hwl := stpW_le T n c
  refine Sx.iload_n dX0_readsStep_11 rfl ?_
  refine Sx.iconst (v := (-1)) dX0_readsStep_12 (by decide) ?_
  refine Sx.icmp_ne (t := 18) dX0_readsStep_13 (by decide) (fun c13 => ?_) (fun c13 => ?_)
  · have hnz : stpW T n c ≠ 0 := fun q => c13 (by rw [ex2_10, q]; rfl)
    refine Sx.sub' [(2, .int (nI (stpW T n c - 1))), (0, .ref a), (1, .ref 101)] (by rw [show nI (stpW T n c - 1) = x2_10 by rw [ex2_10]; exact (n_sub (b := 1) (by omega)).symm]; rfl) ?_
    refine Sx.aload_n dX0_readsStep_18 rfl ?_
    refine Sx.callV0 dX0_readsStep_19 lkv_X0_29 (rcv_9 (o_101 W)) (by decide) (by decide) (Nat.le_of_ble_eq_true rfl) rfl rfl (c_adv W hT1 (stpW_pos hnz) (fun I2 hT2 g2 g3 => ?_))
    refine Sx.aload_n dX0_readsStep_22 rfl ?_
    refine Sx.getfI dX0_readsStep_23 lkf_X0_11_0 ha.1 ?_
    refine Sx.iconst (v := 3) dX0_readsStep_26 (by decide) ?_
    refine Sx.imul dX0_readsStep_27 ?_
    refine Sx.ist_n (fun zz => [(3, .int zz), (2, .int (nI (stpW T n c - 1))), (0, .ref a), (1, .ref 101)]) dX0_readsStep_28 (by decide) (fun _ => rfl) (fun x3_28 ex3_28 => ?_)
    refine Sx.sub' [(3, .int (nI (3 * st))), (2, .int (nI (stpW T n c - 1))), (0, .ref a), (1, .ref 101)] (by rw [show nI (3 * st) = x3_28 by rw [ex3_28, g3 _ (by omega), g1 _ (by omega), hs1, show (3 : Int32) = nI 3 from rfl, show nI st * nI 3 = nI (st * 3) from pk_mul st 3, Nat.mul_comm]]; rfl) ?_
    refine Sx.aload_n dX0_readsStep_29 rfl ?_
    refine Sx.iload_n dX0_readsStep_30 rfl ?_
    refine Sx.iload_n dX0_readsStep_31 rfl ?_
    refine Sx.callU2 dX0_readsStep_32 lku_X0_41 (rcv_0 ha.1) (by decide) (by decide) (Nat.le_of_ble_eq_true rfl) rfl rfl (c_set ha rC0 (by decide) (3 * st) rfl (by omega) (fun I3 e1 e2 => ?_))
    refine Sx.iconst (v := 1) dX0_readsStep_35 (by decide) ?_
    refine Sx.ist (fun zz => [(4, .int zz), (3, .int (nI (3 * st))), (2, .int (nI (stpW T n c - 1))), (0, .ref a), (1, .ref 101)]) dX0_readsStep_36 (by decide) (fun _ => rfl) (fun x4_36 ex4_36 => ?_)
    refine Sx.sub' [(4, .int (nI 1)), (3, .int (nI (3 * st))), (2, .int (nI (stpW T n c - 1))), (0, .ref a), (1, .ref 101)] (by rw [show (nI 1 : Int32) = x4_36 from ex4_36.symm]; rfl) ?_
    refine Sx.iload dX0_readsStep_38 rfl ?_
    refine Sx.iconst (v := 3) dX0_readsStep_40 (by decide) ?_
    refine Sx.icmp_ge (t := 104) dX0_readsStep_41 (by decide) (fun c41 => absurd c41 (by decide)) (fun _ => ?_)
    have hT3 : TS I3 T n (nx T n c + 1) := hT2.keep (e2 _ (by omega)) (e2 _ (by omega))
    have hsa : I3 a 1 = nI st := by rw [e2 _ (by omega), g3 _ (by omega), g1 _ (by omega), hs1]
    refine l_rs1 (j := 1) (w := stpW T n c - 1) W ha hx (by omega) hst (by decide) hT3 (fun hk1 J1 t1 i1 f1 => ?_) (fun hk1 J1 y1 z1 t1 u1 f1 ey1 => ?_)
    · have e : stpK T n c = false := by rw [stpK, hk1]; simp
      have := h J1 (by rw [stpE, if_neg hnz, if_pos hk1]; exact t1) (fun q => by rw [e] at q; cases q) (fun q h1 h2 h3 => by rw [f1 q h1 h2, e2 q h2, g3 q h1, g1 q h1])
      rw [e] at this
      exact this
    · refine Sx.sub' [(4, .int (nI 2)), (3, .int (nI (3 * st))), (2, .int (nI (stpW T n c - 1))), (0, .ref a), (1, .ref 101)] (by rw [show nI 2 = y1 from ey1.symm]; rfl) ?_
      refine Sx.iload dX0_readsStep_38 rfl ?_
      refine Sx.iconst (v := 3) dX0_readsStep_40 (by decide) ?_
      refine Sx.icmp_ge (t := 104) dX0_readsStep_41 (by decide) (fun c41 => absurd c41 (by decide)) (fun _ => ?_)
      refine l_rs1 (j := 2) (w := stpW T n c - 1) (c := stpB T n c) W ha hx (by omega) hst (by decide) t1 (fun hk2 J2 t2 i2 f2 => ?_) (fun hk2 J2 y2 z2 t2 u2 f2 ey2 => ?_)
      · have e : stpK T n c = false := by rw [stpK, hk2]; simp
        have := h J2 (by rw [stpE, if_neg hnz, if_neg (by rw [hk1]; decide), if_pos hk2]; exact t2) (fun q => by rw [e] at q; cases q) (fun q h1 h2 h3 => by rw [f2 q h1 h2, f1 q h1 h2, e2 q h2, g3 q h1, g1 q h1])
        rw [e] at this
        exact this
      · refine Sx.sub' [(4, .int (nI 3)), (3, .int (nI (3 * st))), (2, .int (nI (stpW T n c - 1))), (0, .ref a), (1, .ref 101)] (by rw [show nI 3 = y2 from ey2.symm]; rfl) ?_
        refine Sx.iload dX0_readsStep_38 rfl ?_
        refine Sx.iconst (v := 3) dX0_readsStep_40 (by decide) ?_
        refine Sx.icmp_ge (t := 104) dX0_readsStep_41 (by decide) (fun _ => ?_) (fun c41 => absurd (by decide) c41)
        refine Sx.aload_n dX0_readsStep_104 rfl ?_
        refine Sx.dup dX0_readsStep_105 rfl ?_
        refine Sx.getfI dX0_readsStep_106 lkf_X0_11_0 ha.1 ?_
        refine Sx.iconst (v := 1) dX0_readsStep_109 (by decide) ?_
        refine Sx.iadd dX0_readsStep_110 ?_
        refine Sx.putfI dX0_readsStep_111 lkp_X0_11_0 ha.1 rfl rfl ?_
        refine Sx.iconst (v := 1) dX0_readsStep_114 (by decide) ?_
        refine Sx.iret dX0_readsStep_115 rfl rfl ?_
        have e : stpK T n c = true := by rw [stpK, hk1, hk2, decide_eq_false hnz]; rfl
        have hJa : J2 a 1 = nI st := by rw [f2 _ (by omega) (by omega), f1 _ (by omega) (by omega)]; exact hsa
        have := h (up2 J2 a 1 (J2 a 1 + 1)) ?_ (fun _ => ⟨?_, ?_⟩) (fun q h1 h2 h3 => by rw [up2_ne _ _ _ _ h3, f2 q h1 h2, f1 q h1 h2, e2 q h2, g3 q h1, g1 q h1])
        · rw [e] at this
          exact this
        · rw [stpE, if_neg hnz, if_neg (by rw [hk1]; decide), if_neg (by rw [hk2]; decide)]
          exact TS.keep t2 (up2_ne _ _ _ _ (by omega)) (up2_ne _ _ _ _ (by omega))
        · rw [up2_at, hJa, nI_1]
        · rw [up2_ne _ _ _ _ (by omega), u2, u1, e1, g3 _ (by omega), g1 _ (by omega)]
          rfl
  · refine Sx.iconst (v := 0) dX0_readsStep_16 (by decide) ?_
    refine Sx.iret dX0_readsStep_17 rfl rfl ?_
    have hz : stpW T n c = 0 := by
      rcases Nat.eq_zero_or_pos (stpW T n c) with q | q
      · exact q
      · exfalso
        have := ex2_10.symm.trans c13
        rw [show nI (stpW T n c) - 1 = nI (stpW T n c - 1) from n_sub (b := 1) q] at this
        have := congrArg Int32.toInt this
        rw [nI_toInt (by omega), show (-1 : Int32).toInt = -1 by decide] at this
        omega
    have e : stpK T n c = false := by rw [stpK, hz]; rfl
    have := h I1 (by rw [stpE, if_pos hz]; exact hT1) (fun q => by rw [e] at q; cases q) (fun q h1 h2 h3 => g1 q h1)
    rw [e] at this
    exact this
