/-! Calendar: a step is read -/
def LC : List Int32 := [100, 104, 98, 102, 101, 99]
def dgs (w : Nat) : Nat := if w = 1 then 2 else if w = 2 ∨ w = 3 ∨ w = 5 then 1 else 0
theorem dgs_n {w : Nat} (h : w < 6) : lsF [0, 2, 1, 1, 0, 1] w = nI (dgs w) := by
  have : w = 0 ∨ w = 1 ∨ w = 2 ∨ w = 3 ∨ w = 4 ∨ w = 5 := by omega
  rcases this with e | e | e | e | e | e <;> subst e <;> rfl
theorem dgs_le (w : Nat) : dgs w ≤ 2 := by unfold dgs; split; omega; split <;> omega
/-- the cursor behind the i-th entry, and what it holds -/
def enC (T : Nat → Nat) (n w i c : Nat) : Nat := if i ≤ dgs w then nx T n c + 1 else c
def enV (T : Nat → Nat) (n w i c : Nat) : Int32 := if i ≤ dgs w then nI (sgn T n (nx T n c) - 48) else -1
def enK (T : Nat → Nat) (n w i c : Nat) : Bool := !decide (i ≤ dgs w) || isDN (sgn T n (nx T n c))
theorem TS.keep {I I' : It} {T : Nat → Nat} {n c : Nat} (h : TS I T n c) (h1 : I' 101 = I 101) (h2 : I' 102 = I 102) : TS I' T n c := by
  unfold TS
  rw [h1, h2]
  exact h
theorem upd_upd (f : Nat → Int32) (k : Nat) (x y : Int32) : upd (upd f k x) k y = upd f k y := by
  funext q
  unfold upd
  by_cases c : q = k
  · rw [if_pos c, if_pos c]
  · rw [if_neg c, if_neg c, if_neg c]
set_option maxRecDepth 20000 in
set_option maxHeartbeats 1000000 in
theorem l_rs1 {G : Gt} {l : Launch} {Z : Zt} {R : Rt} {I : It} {L : Lt} {post : Pt'} {a st w j : Nat} {T : Nat → Nat} {n c : Nat} (W : WF Z R) (ha : rwo Z R a 0 60) (hx : 233 ≤ a ∧ a < 260) (hw : w < 6) (hst : st < 20) (hj : 1 ≤ j ∧ j < 3) (hT : TS I T n c) (hno : enK T n w j c = false → ∀ I', TS I' T n (nx T n c) → I' a = I a → (∀ q, q ≠ 101 → q ≠ a + 1 → I' q = I q) → post (some (.int 0)) Z R I' L) (hyes : enK T n w j c = true → ∀ (I' : It) (y z : Int32), TS I' T n (enC T n w j c) → I' (a + 1) = upd (I (a + 1)) (3 * st + j) (enV T n w j c) → (∀ q, q ≠ 101 → q ≠ a + 1 → I' q = I q) → y = nI (j + 1) → Sx G l mX0_readsStep 3 0 0 38 [(4, .int y), (3, .int (nI (3 * st))), (2, .int (nI w)), (0, .ref a), (1, .ref 101)] [] Z R I' L post) : Sx G l mX0_readsStep 3 0 0 44 [(4, .int (nI j)), (3, .int (nI (3 * st))), (2, .int (nI w)), (0, .ref a), (1, .ref 101)] [] Z R I L post := by
  refine Sx.aload_n dX0_readsStep_44 rfl ?_
  refine Sx.iload_n dX0_readsStep_45 rfl ?_
  refine Sx.iload dX0_readsStep_46 rfl ?_
  refine Sx.iadd dX0_readsStep_48 ?_
  refine Sx.iconst (v := (-1)) dX0_readsStep_49 (by decide) ?_
  refine Sx.callU2 dX0_readsStep_50 lku_X0_41 (rcv_0 ha.1) (by decide) (by decide) (Nat.le_of_ble_eq_true rfl) rfl rfl (c_set ha rC0 (by decide) (3 * st + j) (nI_add (3 * st) j) (by omega) (fun I1 e1 e2 => ?_))
  have hT1 : TS I1 T n c := hT.keep (e2 _ (by omega)) (e2 _ (by omega))
  have hdl := dgs_le w
  refine Sx.iload dX0_readsStep_53 rfl ?_
  refine Sx.gets dX0_readsStep_55 (k := 2) rfl (by decide) lks_X0_45 ?_
  refine Sx.iload_n dX0_readsStep_58 rfl ?_
  refine Sx.callSN2 dX0_readsStep_59 lkc_X0_49  (by decide) (by decide) (Nat.le_of_ble_eq_true rfl) rfl rfl (c_entry (r := ("DarkestDay$Calendar", "DIGITS", "[I", 50, [0, 2, 1, 1, 0, 1])) rfl (by decide) rfl (by decide) (show w < 6 from hw) ?_)
  rw [show lsF [0, 2, 1, 1, 0, 1] w = nI (dgs w) from dgs_n hw]
  refine Sx.icmp_gt (t := 98) dX0_readsStep_62 (by decide) (fun c62 => ?_) (fun c62 => ?_)
  · refine Sx.iincN (fun zz => [(4, .int zz), (3, .int (nI (3 * st))), (2, .int (nI w)), (0, .ref a), (1, .ref 101)]) dX0_readsStep_98 rfl (by decide) (fun _ => rfl) (fun x4_98 ex4_98 => ?_)
    refine Sx.goto (t := 38) dX0_readsStep_101 (by decide) ?_
    refine Sx.sub' [(4, .int x4_98), (3, .int (nI (3 * st))), (2, .int (nI w)), (0, .ref a), (1, .ref 101)] rfl ?_
    have hle : ¬ j ≤ dgs w := fun q => absurd ((n_le (by omega) (by omega)).mpr q) (Int32.not_le.mpr c62)
    refine hyes (by rw [enK, decide_eq_false hle]; rfl) I1 _ 0 ?_ ?_ (fun q h1 h2 => e2 q h2) (by rw [ex4_98]; exact nI_1 j)
    · rw [enC, if_neg hle]; exact hT1
    · rw [enV, if_neg hle]; exact e1
  · have hle : j ≤ dgs w := (n_le (by omega) (by omega)).mp (Int32.not_lt.mp c62)
    refine Sx.aload_n dX0_readsStep_65 rfl ?_
    refine Sx.callV0 dX0_readsStep_66 lkv_X0_23 (rcv_9 (o_101 W)) (by decide) (by decide) (Nat.le_of_ble_eq_true rfl) rfl rfl (c_next W hT1 (fun I2 hT2 g1 g2 => ?_))
    refine Sx.ist (fun zz => [(5, .int zz), (4, .int (nI j)), (3, .int (nI (3 * st))), (2, .int (nI w)), (0, .ref a), (1, .ref 101)]) dX0_readsStep_69 (by decide) (fun _ => rfl) (fun x5_69 ex5_69 => ?_)
    have hsb := sgn_b hT2 (nx T n c)
    refine Sx.sub' [(5, .int (nI (sgn T n (nx T n c)))), (4, .int (nI j)), (3, .int (nI (3 * st))), (2, .int (nI w)), (0, .ref a), (1, .ref 101)] (by rw [← ex5_69]; rfl) ?_
    refine Sx.iload dX0_readsStep_71 rfl ?_
    refine Sx.callSN1 dX0_readsStep_73 lkc_X0_53  (by decide) (by decide) (Nat.le_of_ble_eq_true rfl) rfl rfl (c_isDigit ?_)
    rw [isDg_n (by omega)]
    refine Sx.if_ne (t := 81) dX0_readsStep_76 (by decide) (fun c76 => ?_) (fun c76 => ?_)
    · have hdg := b2i_ne.mp c76
      have hdb := isDN_b hdg
      refine Sx.aload_n dX0_readsStep_81 rfl ?_
      refine Sx.callV0 dX0_readsStep_82 lkv_X0_29 (rcv_9 (o_101 W)) (by decide) (by decide) (Nat.le_of_ble_eq_true rfl) rfl rfl (c_adv W hT2 (sgn_d hdg) (fun I3 hT3 g0 g3 => ?_))
      refine Sx.aload_n dX0_readsStep_85 rfl ?_
      refine Sx.iload_n dX0_readsStep_86 rfl ?_
      refine Sx.iload dX0_readsStep_87 rfl ?_
      refine Sx.iadd dX0_readsStep_89 ?_
      refine Sx.iload dX0_readsStep_90 rfl ?_
      refine Sx.bipush (v := 48) dX0_readsStep_92 (by decide) ?_
      refine Sx.isub dX0_readsStep_94 ?_
      rw [show nI (sgn T n (nx T n c)) - 48 = nI (sgn T n (nx T n c) - 48) from n_sub (b := 48) (by omega)]
      refine Sx.callU2 dX0_readsStep_95 lku_X0_41 (rcv_0 ha.1) (by decide) (by decide) (Nat.le_of_ble_eq_true rfl) rfl rfl (c_set ha rC0 (by decide) (3 * st + j) (nI_add (3 * st) j) (by omega) (fun I4 e3 e4 => ?_))
      refine Sx.iincN (fun zz => [(4, .int zz), (5, .int (nI (sgn T n (nx T n c)))), (3, .int (nI (3 * st))), (2, .int (nI w)), (0, .ref a), (1, .ref 101)]) dX0_readsStep_98 rfl (by decide) (fun _ => rfl) (fun x4_98 ex4_98 => ?_)
      refine Sx.goto (t := 38) dX0_readsStep_101 (by decide) ?_
      refine Sx.sub' [(4, .int x4_98), (3, .int (nI (3 * st))), (2, .int (nI w)), (0, .ref a), (1, .ref 101)] rfl ?_
      refine hyes (by rw [enK, hdg]; simp) I4 _ 0 ?_ ?_ (fun q h1 h2 => by rw [e4 q h2, g3 q h1, g2 q h1, e2 q h2]) (by rw [ex4_98]; exact nI_1 j)
      · rw [enC, if_pos hle]; exact hT3.keep (e4 _ (by omega)) (e4 _ (by omega))
      · rw [enV, if_pos hle, e3, g3 _ (by omega), g2 _ (by omega), e1, upd_upd]
    · have hdg := b2i_0.mp c76
      refine Sx.iconst (v := 0) dX0_readsStep_79 (by decide) ?_
      refine Sx.iret dX0_readsStep_80 rfl rfl ?_
      exact hno (by rw [enK, hdg, decide_eq_true hle]; rfl) I2 hT2 ((g2 _ (by omega)).trans (e2 _ (by omega))) (fun q h1 h2 => by rw [g2 q h1, e2 q h2])
