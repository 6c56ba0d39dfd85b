/-! the class: when all comes again -/
/-- numbers of 0 to 7 in one -/
def pkN (g : Nat → Nat) : Nat → Nat
  | 0 => 0
  | j + 1 => pkN g j * 2 ^ 3 ||| g j
theorem pkn_s {g : Nat → Nat} {j : Nat} (h : g j < 2 ^ 3) : pkN g (j + 1) = pkN g j * 8 + g j := by
  rw [pkN, Nat.or_comm, dn_or h]
  omega
theorem pkn_lt {g : Nat → Nat} : ∀ j, (∀ i, i < j → g i < 2 ^ 3) → pkN g j < 8 ^ j
  | 0 => fun _ => Nat.lt_of_sub_eq_succ rfl
  | j + 1 => fun h => by
    have h1 := pkn_lt j (fun i hi => h i (by omega))
    have h2 := h j (by omega)
    rw [pkn_s h2, Nat.pow_succ]
    omega
theorem pkn_inj {g k : Nat → Nat} : ∀ j, (∀ i, i < j → g i < 2 ^ 3) → (∀ i, i < j → k i < 2 ^ 3) → (pkN g j = pkN k j ↔ ∀ i, i < j → g i = k i)
  | 0 => fun _ _ => ⟨fun _ i hi => absurd hi (Nat.not_lt_zero i), fun _ => rfl⟩
  | j + 1 => fun h h' => by
    have ih := pkn_inj j (fun i hi => h i (by omega)) (fun i hi => h' i (by omega))
    have a := h j (by omega)
    have b := h' j (by omega)
    rw [pkn_s a, pkn_s b]
    constructor
    · intro e i hi
      by_cases c : i = j
      · rw [c]; omega
      · exact ih.mp (by omega) i (by omega)
    · intro e
      have := ih.mpr (fun i hi => e i (by omega))
      have := e j (by omega)
      omega
theorem pkn_b {g : Nat → Nat} {j : Nat} (hj : j ≤ 6) (h : ∀ i, i < 6 → g i < 2 ^ 3) : pkN g j < 2 ^ 18 := by
  have h1 := pkn_lt (g := g) j (fun i hi => h i (by omega))
  have h2 : 8 ^ j ≤ 8 ^ 6 := Nat.pow_le_pow_right (by decide) hj
  have h3 : (8 : Nat) ^ 6 = 2 ^ 18 := by decide
  omega
set_option maxRecDepth 20000 in
set_option maxHeartbeats 1000000 in
theorem l_pkd {G : Gt} {l : Launch} {Z : Zt} {R : Rt} {I : It} {L : Lt} {post : Pt'} {F : Nat → Nat} {fi cn : Nat} (W : WF Z R) (hs : rs (I 121) F) (hfi : fi ≤ 12) (hcn : cn ≤ 6) (hF : ∀ i, i < 6 → F (fi + i) < 2 ^ 3) (h : post (some (.int (nI (pkN (fun i => F (fi + i)) cn)))) Z R I L) :
    ∀ (r i : Nat), i ≤ cn → cn < i + r → ∀ al, al = pkN (fun i => F (fi + i)) i → Sx G l mX5_packed 2 0 0 5 [(3, .int (nI al)), (4, .int (nI i)), (0, .ref 119), (1, .int (nI fi)), (2, .int (nI cn))] [] Z R I L post := by
  intro r
  induction r with
  | zero => intro i h1 h2; omega
  | succ r ih =>
    intro i h1 h2 al hal
    refine Sx.iload dX5_packed_5 rfl ?_
    refine Sx.iload_n dX5_packed_7 rfl ?_
    refine Sx.icmp_geV (t := 33) dX5_packed_8 (by decide) (vN (by omega)) (vN (by omega)) (fun c8 => ?_) (fun c8 => ?_)
    · refine Sx.iload_n dX5_packed_33 rfl ?_
      refine Sx.iret dX5_packed_34 rfl rfl ?_
      have hj : cn = i := by omega
      subst hj
      subst hal
      exact h
    · have hF0 := hF i (by omega)
      have hpb : al < 2 ^ 18 := by rw [hal]; exact pkn_b (by omega) hF
      refine Sx.iload_n dX5_packed_11 rfl ?_
      refine Sx.iconst (v := (nI 3)) dX5_packed_12 (by decide) ?_
      refine Sx.ishlN dX5_packed_13 (by decide) (by omega) ?_
      refine Sx.aload_n dX5_packed_14 rfl ?_
      refine Sx.getfR dX5_packed_15 lkf_X5_12_5 (o_119 W) (r_119_2 W) ?_
      refine Sx.iload_n dX5_packed_18 rfl ?_
      refine Sx.iload dX5_packed_19 rfl ?_
      refine Sx.iaddN dX5_packed_21 ?_
      refine Sx.callU1 dX5_packed_22 lku_X5_78 (rcv_8 (o_120 W)) (by decide) (by decide) (Nat.le_of_ble_eq_true rfl) rfl rfl (c_sg (w_120r W) hs (fi + i) rfl (by omega) (by omega) ?_)
      refine Sx.iorN dX5_packed_25 ?_
      refine Sx.istore_n (lv' := [(3, .int (nI ((al * 2 ^ 3) ||| (F (fi + i))))), (4, .int (nI i)), (0, .ref 119), (1, .int (nI fi)), (2, .int (nI cn))]) dX5_packed_26 (by decide) rfl ?_
      refine Sx.iinc (v := (nI (i + 1))) (lv' := [(4, .int (nI (i + 1))), (3, .int (nI ((al * 2 ^ 3) ||| (F (fi + i))))), (0, .ref 119), (1, .int (nI fi)), (2, .int (nI cn))]) dX5_packed_27 rfl (nI_add i 1) (by decide) rfl ?_
      refine Sx.goto (t := 5) dX5_packed_30 (by decide) ?_
      refine Sx.sub' [(3, .int (nI ((al * 2 ^ 3) ||| (F (fi + i))))), (4, .int (nI (i + 1))), (0, .ref 119), (1, .int (nI fi)), (2, .int (nI cn))] rfl ?_
      exact ih (i + 1) (by omega) (by omega) _ (by rw [pkN, ← hal])
set_option maxRecDepth 20000 in
set_option maxHeartbeats 1000000 in
theorem d_packed {G : Gt} {l : Launch} {Z : Zt} {R : Rt} {I : It} {L : Lt} {post : Pt'} {F : Nat → Nat} {fi cn : Nat} (W : WF Z R) (hs : rs (I 121) F) (hfi : fi ≤ 12) (hcn : cn ≤ 6) (hF : ∀ i, i < 6 → F (fi + i) < 2 ^ 3) (h : post (some (.int (nI (pkN (fun i => F (fi + i)) cn)))) Z R I L) : Cx G l mX5_packed 2 0 0 [.ref 119, .int (nI fi), .int (nI cn)] Z R I L post := by
  refine Cx.of (by decide +kernel) (by exact Nat.le_of_ble_eq_true rfl) ?_
  refine Sx.iconst (v := (nI 0)) dX5_packed_0 (by decide) ?_
  refine Sx.istore_n (lv' := [(3, .int (nI 0)), (0, .ref 119), (1, .int (nI fi)), (2, .int (nI cn))]) dX5_packed_1 (by decide) rfl ?_
  refine Sx.iconst (v := (nI 0)) dX5_packed_2 (by decide) ?_
  refine Sx.istore (lv' := [(4, .int (nI 0)), (3, .int (nI 0)), (0, .ref 119), (1, .int (nI fi)), (2, .int (nI cn))]) dX5_packed_3 (by decide) rfl ?_
  refine Sx.sub' [(3, .int (nI 0)), (4, .int (nI 0)), (0, .ref 119), (1, .int (nI fi)), (2, .int (nI cn))] rfl ?_
  exact l_pkd W hs hfi hcn hF h (cn + 1) 0 (by omega) (by omega) 0 rfl
set_option maxRecDepth 20000 in
set_option maxHeartbeats 1000000 in
theorem l_cri {G : Gt} {l : Launch} {Z : Zt} {R : Rt} {I : It} {L : Lt} {post : Pt'} {A B : Nat → Nat} {n q ff : Nat} (W : WF Z R) (hn : n ≤ 60) (hq : q ≤ 1) (hrow : ∀ m, 1 ≤ m → m ≤ n → I 127 m = nI (A m) ∧ I 129 m = nI (B m)) (hAB : ∀ m, 1 ≤ m → m ≤ n → A m < 2 ^ 18 ∧ B m < 2 ^ 18) (h0 : ff = 0 → Sx G l mX5_comingRound 6 0 0 137 [(4, .int (nI n)), (3, .int (nI n)), (0, .ref 119), (1, .ref 229), (2, .int (nI q))] [] Z R I L post) (hx : ff ≠ 0 → post (some (.int (iI (if q = 0 then (ff : Int) else (n : Int) - (ff : Int))))) Z R I L) :
    ∀ (k r : Nat), r < k → ∀ i, 1 ≤ i → i + r = n → fnd (fun m => decide (A m = A n ∧ B m = B n)) r i = ff → Sx G l mX5_comingRound 6 0 0 71 [(4, .int (nI i)), (3, .int (nI n)), (0, .ref 119), (1, .ref 229), (2, .int (nI q))] [] Z R I L post := by
  intro k
  induction k with
  | zero => intro r h1; omega
  | succ k ih =>
    intro r h1 i hi hir hff
    refine Sx.iload dX5_comingRound_71 rfl ?_
    refine Sx.iload_n dX5_comingRound_73 rfl ?_
    refine Sx.icmp_geV (t := 137) dX5_comingRound_74 (by decide) (vN (by omega)) (vN (by omega)) (fun c74 => ?_) (fun c74 => ?_)
    · have hj : n = i := by omega
      subst hj
      have hr0 : r = 0 := by omega
      subst hr0
      exact h0 (by rw [← hff]; rfl)
    · obtain ⟨a1, b1⟩ := hAB i (by omega) (by omega)
      obtain ⟨a2, b2⟩ := hAB n (by omega) (by omega)
      refine Sx.aload_n dX5_comingRound_77 rfl ?_
      refine Sx.getfR dX5_comingRound_78 lkf_X5_30_5 (o_119 W) (r_119_5 W) ?_
      refine Sx.iload dX5_comingRound_81 rfl ?_
      refine Sx.callV1 dX5_comingRound_83 lkv_X5_93 (rcv_7 (o_126 W)) (by decide) (by decide) (Nat.le_of_ble_eq_true rfl) rfl rfl (d_rget (w_126r W) (by unfold rowC; decide) (by decide) (k := i) (v := nI (A i)) (by omega) (hrow i (by omega) (by omega)).1 ?_)
      refine Sx.aload_n dX5_comingRound_86 rfl ?_
      refine Sx.getfR dX5_comingRound_87 lkf_X5_30_5 (o_119 W) (r_119_5 W) ?_
      refine Sx.iload_n dX5_comingRound_90 rfl ?_
      refine Sx.callV1 dX5_comingRound_91 lkv_X5_93 (rcv_7 (o_126 W)) (by decide) (by decide) (Nat.le_of_ble_eq_true rfl) rfl rfl (d_rget (w_126r W) (by unfold rowC; decide) (by decide) (k := n) (v := nI (A n)) (by omega) (hrow n (by omega) (by omega)).1 ?_)
      refine Sx.icmp_neV (t := 131) dX5_comingRound_94 (by decide) (vN (by omega)) (vN (by omega)) (fun c94 => ?_) (fun c94 => ?_)
      · refine Sx.iinc (v := (nI (i + 1))) (lv' := [(4, .int (nI (i + 1))), (3, .int (nI n)), (0, .ref 119), (1, .ref 229), (2, .int (nI q))]) dX5_comingRound_131 rfl (nI_add i 1) (by decide) rfl ?_
        refine Sx.goto (t := 71) dX5_comingRound_134 (by decide) ?_
        refine Sx.sub' [(4, .int (nI (i + 1))), (3, .int (nI n)), (0, .ref 119), (1, .ref 229), (2, .int (nI q))] rfl ?_
        have hp : (fun m => decide (A m = A n ∧ B m = B n)) i = false := decide_eq_false (by omega)
        exact ih (r - 1) (by omega) (i + 1) (by omega) (by omega) (by rw [← hff, show r = r - 1 + 1 by omega, Nat.add_sub_cancel]; exact (fnd_n hp).symm)
      · refine Sx.aload_n dX5_comingRound_97 rfl ?_
        refine Sx.getfR dX5_comingRound_98 lkf_X5_33_5 (o_119 W) (r_119_6 W) ?_
        refine Sx.iload dX5_comingRound_101 rfl ?_
        refine Sx.callV1 dX5_comingRound_103 lkv_X5_93 (rcv_7 (o_128 W)) (by decide) (by decide) (Nat.le_of_ble_eq_true rfl) rfl rfl (d_rget (w_128r W) (by unfold rowC; decide) (by decide) (k := i) (v := nI (B i)) (by omega) (hrow i (by omega) (by omega)).2 ?_)
        refine Sx.aload_n dX5_comingRound_106 rfl ?_
        refine Sx.getfR dX5_comingRound_107 lkf_X5_33_5 (o_119 W) (r_119_6 W) ?_
        refine Sx.iload_n dX5_comingRound_110 rfl ?_
        refine Sx.callV1 dX5_comingRound_111 lkv_X5_93 (rcv_7 (o_128 W)) (by decide) (by decide) (Nat.le_of_ble_eq_true rfl) rfl rfl (d_rget (w_128r W) (by unfold rowC; decide) (by decide) (k := n) (v := nI (B n)) (by omega) (hrow n (by omega) (by omega)).2 ?_)
        refine Sx.icmp_neV (t := 131) dX5_comingRound_114 (by decide) (vN (by omega)) (vN (by omega)) (fun c114 => ?_) (fun c114 => ?_)
        · refine Sx.iinc (v := (nI (i + 1))) (lv' := [(4, .int (nI (i + 1))), (3, .int (nI n)), (0, .ref 119), (1, .ref 229), (2, .int (nI q))]) dX5_comingRound_131 rfl (nI_add i 1) (by decide) rfl ?_
          refine Sx.goto (t := 71) dX5_comingRound_134 (by decide) ?_
          refine Sx.sub' [(4, .int (nI (i + 1))), (3, .int (nI n)), (0, .ref 119), (1, .ref 229), (2, .int (nI q))] rfl ?_
          have hp : (fun m => decide (A m = A n ∧ B m = B n)) i = false := decide_eq_false (by omega)
          exact ih (r - 1) (by omega) (i + 1) (by omega) (by omega) (by rw [← hff, show r = r - 1 + 1 by omega, Nat.add_sub_cancel]; exact (fnd_n hp).symm)
        · refine Sx.iload_n dX5_comingRound_117 rfl ?_
          refine Sx.if_neV (t := 126) dX5_comingRound_118 (by decide) (vN (by omega)) (fun c118 => ?_) (fun c118 => ?_)
          · refine Sx.iload_n dX5_comingRound_126 rfl ?_
            refine Sx.iload dX5_comingRound_127 rfl ?_
            refine Sx.isubV dX5_comingRound_129 (vN (by omega)) (vN (by omega)) ?_
            refine Sx.iret dX5_comingRound_130 rfl rfl ?_
            have hp : (fun m => decide (A m = A n ∧ B m = B n)) i = true := decide_eq_true (by omega)
            have e : ff = i := by rw [← hff, show r = r - 1 + 1 by omega]; exact fnd_y hp
            exact pXX (by rw [e]; exact congrArg iI (if_neg (by omega))) (hx (by omega))
          · refine Sx.iload dX5_comingRound_121 rfl ?_
            refine Sx.goto (t := 130) dX5_comingRound_123 (by decide) ?_
            refine Sx.iret dX5_comingRound_130 rfl rfl ?_
            have hp : (fun m => decide (A m = A n ∧ B m = B n)) i = true := decide_eq_true (by omega)
            have e : ff = i := by rw [← hff, show r = r - 1 + 1 by omega]; exact fnd_y hp
            exact pXX (by rw [e]; exact (congrArg iI (if_pos (by omega))).trans (nI_iI i).symm) (hx (by omega))
