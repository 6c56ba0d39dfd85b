/-! the class: when all comes again -/
/-- numbers of 0 to 7 in one -/
def pkN (g : Nat → Nat) : Nat → Nat
  | 0 => 0
  | j + 1 => pkN g j * 2 ^ 3 ||| g j
theorem pkn_s {g : Nat → Nat} {j : Nat} (h : g j < 2 ^ 3) : pkN g (j + 1) = pkN g j * 8 + g j := by
  rw [pkN, Nat.or_comm, dn_or h]
  omega
theorem pkn_lt {g : Nat → Nat} : ∀ j, (∀ i, i < j → g i < 2 ^ 3) → pkN g j < 8 ^ j
  | 0 => fun _ => Nat.lt_of_sub_eq_succ rfl
  | j + 1 => fun h => by
    have h1 := pkn_lt j (fun i hi => h i (by omega))
    have h2 := h j (by omega)
    rw [pkn_s h2, Nat.pow_succ]
    omega
theorem pkn_inj {g k : Nat → Nat} : ∀ j, (∀ i, i < j → g i < 2 ^ 3) → (∀ i, i < j → k i < 2 ^ 3) → (pkN g j = pkN k j ↔ ∀ i, i < j → g i = k i)
  | 0 => fun _ _ => ⟨fun _ i hi => absurd hi (Nat.not_lt_zero i), fun _ => rfl⟩
  | j + 1 => fun h h' => by
    have ih := pkn_inj j (fun i hi => h i (by omega)) (fun i hi => h' i (by omega))
    have a := h j (by omega)
    have b := h' j (by omega)
    rw [pkn_s a, pkn_s b]
    constructor
    · intro e i hi
      by_cases c : i = j
      · rw [c]; omega
      · exact ih.mp (by omega) i (by omega)
    · intro e
      have := ih.mpr (fun i hi => e i (by omega))
      have := e j (by omega)
      omega
theorem pkn_b {g : Nat → Nat} {j : Nat} (hj : j ≤ 6) (h : ∀ i, i < 6 → g i < 2 ^ 3) : pkN g j < 2 ^ 18 := by
  have h1 := pkn_lt (g := g) j (fun i hi => h i (by omega))
  have h2 : 8 ^ j ≤ 8 ^ 6 := Nat.pow_le_pow_right (by decide) hj
  have h3 : (8 : Nat) ^ 6 = 2 ^ 18 := by decide
  omega
set_option maxRecDepth 20000 in
set_option maxHeartbeats 1000000 in
theorem l_pkd {G : Gt} {l : Launch} {Z : Zt} {R : Rt} {I : It} {L : Lt} {post : Pt'} {F : Nat → Nat} {fi cn : Nat} (W : WF Z R) (hs : rs (I 121) F) (hfi : fi ≤ 12) (hcn : cn ≤ 6) (hF : ∀ i, i < 6 → F (fi + i) < 2 ^ 3) (h : post (some (.int (nI (pkN (fun i => F (fi + i)) cn)))) Z R I L) :
    ∀ (r i : Nat), i ≤ cn → cn < i + r → ∀ al, al = pkN (fun i => F (fi + i)) i → Sx G l mX5_packed 2 0 0 5 [(3, .int (nI al)), (4, .int (nI i)), (0, .ref 119), (1, .int (nI fi)), (2, .int (nI cn))] [] Z R I L post := by
  intro r
  induction r with
  | zero => intro i h1 h2; omega
  | succ r ih =>
    intro i h1 h2 al hal
    refine Sx.iload dX5_packed_5 rfl ?_
    refine Sx.iload_n dX5_packed_7 rfl ?_
    refine Sx.icmp_geV (t := 33) dX5_packed_8 (by decide) (vN (by omega)) (vN (by omega)) (fun c8 => ?_) (fun c8 => ?_)
    · refine Sx.iload_n dX5_packed_33 rfl ?_
      refine Sx.iret dX5_packed_34 rfl rfl ?_
      have hj : cn = i := by omega
      subst hj
      subst hal
      exact h
    · have hF0 := hF i (by omega)
      have hpb : al < 2 ^ 18 := by rw [hal]; exact pkn_b (by omega) hF
      refine Sx.iload_n dX5_packed_11 rfl ?_
      refine Sx.iconst (v := (nI 3)) dX5_packed_12 (by decide) ?_
      refine Sx.ishlN dX5_packed_13 (by decide) (by omega) ?_
      refine Sx.aload_n dX5_packed_14 rfl ?_
      refine Sx.getfR dX5_packed_15 lkf_X5_12_5 (o_119 W) (r_119_2 W) ?_
      refine Sx.iload_n dX5_packed_18 rfl ?_
      refine Sx.iload dX5_packed_19 rfl ?_
      refine Sx.iaddN dX5_packed_21 ?_
      refine Sx.callU1 dX5_packed_22 lku_X5_78 (rcv_8 (o_120 W)) (by decide) (by decide) (Nat.le_of_ble_eq_true rfl) rfl rfl (c_sg (w_120r W) hs (fi + i) rfl (by omega) (by omega) ?_)
      refine Sx.iorN dX5_packed_25 ?_
      refine Sx.istore_n (lv' := [(3, .int (nI ((al * 2 ^ 3) ||| (F (fi + i))))), (4, .int (nI i)), (0, .ref 119), (1, .int (nI fi)), (2, .int (nI cn))]) dX5_packed_26 (by decide) rfl ?_
      refine Sx.iinc (v := (nI (i + 1))) (lv' := [(4, .int (nI (i + 1))), (3, .int (nI ((al * 2 ^ 3) ||| (F (fi + i))))), (0, .ref 119), (1, .int (nI fi)), (2, .int (nI cn))]) dX5_packed_27 rfl (nI_add i 1) (by decide) rfl ?_
      refine Sx.goto (t := 5) dX5_packed_30 (by decide) ?_
      refine Sx.sub' [(3, .int (nI ((al * 2 ^ 3) ||| (F (fi + i))))), (4, .int (nI (i + 1))), (0, .ref 119), (1, .int (nI fi)), (2, .int (nI cn))] rfl ?_
      exact ih (i + 1) (by omega) (by omega) _ (by rw [pkN, ← hal])
set_option maxRecDepth 20000 in
set_option maxHeartbeats 1000000 in
theorem d_packed {G : Gt} {l : Launch} {Z : Zt} {R : Rt} {I : It} {L : Lt} {post : Pt'} {F : Nat → Nat} {fi cn : Nat} (W : WF Z R) (hs : rs (I 121) F) (hfi : fi ≤ 12) (hcn : cn ≤ 6) (hF : ∀ i, i < 6 → F (fi + i) < 2 ^ 3) (h : post (some (.int (nI (pkN (fun i => F (fi + i)) cn)))) Z R I L) : Cx G l mX5_packed 2 0 0 [.ref 119, .int (nI fi), .int (nI cn)] Z R I L post := by
  refine Cx.of (by decide +kernel) (by exact Nat.le_of_ble_eq_true rfl) ?_
  refine Sx.iconst (v := (nI 0)) dX5_packed_0 (by decide) ?_
  refine Sx.istore_n (lv' := [(3, .int (nI 0)), (0, .ref 119), (1, .int (nI fi)), (2, .int (nI cn))]) dX5_packed_1 (by decide) rfl ?_
  refine Sx.iconst (v := (nI 0)) dX5_packed_2 (by decide) ?_
  refine Sx.istore (lv' := [(4, .int (nI 0)), (3, .int (nI 0)), (0, .ref 119), (1, .int (nI fi)), (2, .int (nI cn))]) dX5_packed_3 (by decide) rfl ?_
  refine Sx.sub' [(3, .int (nI 0)), (4, .int (nI 0)), (0, .ref 119), (1, .int (nI fi)), (2, .int (nI cn))] rfl ?_
  exact l_pkd W hs hfi hcn hF h (cn + 1) 0 (by omega) (by omega) 0 rfl
set_option maxRecDepth 20000 in
set_option maxHeartbeats 1000000 in
theorem l_cri {G : Gt} {l : Launch} {Z : Zt} {R : Rt} {I : It} {L : Lt} {post : Pt'} {A B : Nat → Nat} {n q ff : Nat} (W : WF Z R) (hn : n ≤ 60) (hq : q ≤ 1) (hrow : ∀ m, 1 ≤ m → m ≤ n → I 127 m = nI (A m) ∧ I 129 m = nI (B m)) (hAB : ∀ m, 1 ≤ m → m ≤ n → A m < 2 ^ 18 ∧ B m < 2 ^ 18) (h0 : ff = 0 → Sx G l mX5_comingRound 6 0 0 137 [(4, .int (nI n)), (3, .int (nI n)), (0, .ref 119), (1, .ref 229), (2, .int (nI q))] [] Z R I L post) (hx : ff ≠ 0 → post (some (.int (iI (if q = 0 then (ff : Int) else (n : Int) - (ff : Int))))) Z R I L) :
    ∀ (k r : Nat), r < k → ∀ i, 1 ≤ i → i + r = n → fnd (fun m => decide (A m = A n ∧ B m = B n)) r i = ff → Sx G l mX5_comingRound 6 0 0 71 [(4, .int (nI i)), (3, .int (nI n)), (0, .ref 119), (1, .ref 229), (2, .int (nI q))] [] Z R I L post := by
  intro k
  induction k with
  | zero => intro r h1; omega
  | succ k ih =>
    intro r h1 i hi hir hff
    refine Sx.iload dX5_comingRound_71 rfl ?_
    refine Sx.iload_n dX5_comingRound_73 rfl ?_
    refine Sx.icmp_geV (t := 137) dX5_comingRound_74 (by decide) (vN (by omega)) (vN (by omega)) (fun c74 => ?_) (fun c74 => ?_)
    · have hj : n = i := by omega
      subst hj
      have hr0 : r = 0 := by omega
      subst hr0
      exact h0 (by rw [← hff]; rfl)
    · obtain ⟨a1, b1⟩ := hAB i (by omega) (by omega)
      obtain ⟨a2, b2⟩ := hAB n (by omega) (by omega)
      refine Sx.aload_n dX5_comingRound_77 rfl ?_
      refine Sx.getfR dX5_comingRound_78 lkf_X5_30_5 (o_119 W) (r_119_5 W) ?_
      refine Sx.iload dX5_comingRound_81 rfl ?_
      refine Sx.callV1 dX5_comingRound_83 lkv_X5_93 (rcv_7 (o_126 W)) (by decide) (by decide) (Nat.le_of_ble_eq_true rfl) rfl rfl (d_rget (w_126r W) (by unfold rowC; decide) (by decide) (k := i) (v := nI (A i)) (by omega) (hrow i (by omega) (by omega)).1 ?_)
      refine Sx.aload_n dX5_comingRound_86 rfl ?_
      refine Sx.getfR dX5_comingRound_87 lkf_X5_30_5 (o_119 W) (r_119_5 W) ?_
      refine Sx.iload_n dX5_comingRound_90 rfl ?_
      refine Sx.callV1 dX5_comingRound_91 lkv_X5_93 (rcv_7 (o_126 W)) (by decide) (by decide) (Nat.le_of_ble_eq_true rfl) rfl rfl (d_rget (w_126r W) (by unfold rowC; decide) (by decide) (k := n) (v := nI (A n)) (by omega) (hrow n (by omega) (by omega)).1 ?_)
      refine Sx.icmp_neV (t := 131) dX5_comingRound_94 (by decide) (vN (by omega)) (vN (by omega)) (fun c94 => ?_) (fun c94 => ?_)
      · refine Sx.iinc (v := (nI (i + 1))) (lv' := [(4, .int (nI (i + 1))), (3, .int (nI n)), (0, .ref 119), (1, .ref 229), (2, .int (nI q))]) dX5_comingRound_131 rfl (nI_add i 1) (by decide) rfl ?_
        refine Sx.goto (t := 71) dX5_comingRound_134 (by decide) ?_
        refine Sx.sub' [(4, .int (nI (i + 1))), (3, .int (nI n)), (0, .ref 119), (1, .ref 229), (2, .int (nI q))] rfl ?_
        have hp : (fun m => decide (A m = A n ∧ B m = B n)) i = false := decide_eq_false (by omega)
        exact ih (r - 1) (by omega) (i + 1) (by omega) (by omega) (by rw [← hff, show r = r - 1 + 1 by omega, Nat.add_sub_cancel]; exact (fnd_n hp).symm)
      · refine Sx.aload_n dX5_comingRound_97 rfl ?_
        refine Sx.getfR dX5_comingRound_98 lkf_X5_33_5 (o_119 W) (r_119_6 W) ?_
        refine Sx.iload dX5_comingRound_101 rfl ?_
        refine Sx.callV1 dX5_comingRound_103 lkv_X5_93 (rcv_7 (o_128 W)) (by decide) (by decide) (Nat.le_of_ble_eq_true rfl) rfl rfl (d_rget (w_128r W) (by unfold rowC; decide) (by decide) (k := i) (v := nI (B i)) (by omega) (hrow i (by omega) (by omega)).2 ?_)
        refine Sx.aload_n dX5_comingRound_106 rfl ?_
        refine Sx.getfR dX5_comingRound_107 lkf_X5_33_5 (o_119 W) (r_119_6 W) ?_
        refine Sx.iload_n dX5_comingRound_110 rfl ?_
        refine Sx.callV1 dX5_comingRound_111 lkv_X5_93 (rcv_7 (o_128 W)) (by decide) (by decide) (Nat.le_of_ble_eq_true rfl) rfl rfl (d_rget (w_128r W) (by unfold rowC; decide) (by decide) (k := n) (v := nI (B n)) (by omega) (hrow n (by omega) (by omega)).2 ?_)
        refine Sx.icmp_neV (t := 131) dX5_comingRound_114 (by decide) (vN (by omega)) (vN (by omega)) (fun c114 => ?_) (fun c114 => ?_)
        · refine Sx.iinc (v := (nI (i + 1))) (lv' := [(4, .int (nI (i + 1))), (3, .int (nI n)), (0, .ref 119), (1, .ref 229), (2, .int (nI q))]) dX5_comingRound_131 rfl (nI_add i 1) (by decide) rfl ?_
          refine Sx.goto (t := 71) dX5_comingRound_134 (by decide) ?_
          refine Sx.sub' [(4, .int (nI (i + 1))), (3, .int (nI n)), (0, .ref 119), (1, .ref 229), (2, .int (nI q))] rfl ?_
          have hp : (fun m => decide (A m = A n ∧ B m = B n)) i = false := decide_eq_false (by omega)
          exact ih (r - 1) (by omega) (i + 1) (by omega) (by omega) (by rw [← hff, show r = r - 1 + 1 by omega, Nat.add_sub_cancel]; exact (fnd_n hp).symm)
        · refine Sx.iload_n dX5_comingRound_117 rfl ?_
          refine Sx.if_neV (t := 126) dX5_comingRound_118 (by decide) (vN (by omega)) (fun c118 => ?_) (fun c118 => ?_)
          · refine Sx.iload_n dX5_comingRound_126 rfl ?_
            refine Sx.iload dX5_comingRound_127 rfl ?_
            refine Sx.isubV dX5_comingRound_129 (vN (by omega)) (vN (by omega)) ?_
            refine Sx.iret dX5_comingRound_130 rfl rfl ?_
            have hp : (fun m => decide (A m = A n ∧ B m = B n)) i = true := decide_eq_true (by omega)
            have e : ff = i := by rw [← hff, show r = r - 1 + 1 by omega]; exact fnd_y hp
            exact pXX (by rw [e]; exact congrArg iI (if_neg (by omega))) (hx (by omega))
          · refine Sx.iload dX5_comingRound_121 rfl ?_
            refine Sx.goto (t := 130) dX5_comingRound_123 (by decide) ?_
            refine Sx.iret dX5_comingRound_130 rfl rfl ?_
            have hp : (fun m => decide (A m = A n ∧ B m = B n)) i = true := decide_eq_true (by omega)
            have e : ff = i := by rw [← hff, show r = r - 1 + 1 by omega]; exact fnd_y hp
            exact pXX (by rw [e]; exact (congrArg iI (if_pos (by omega))).trans (nI_iI i).symm) (hx (by omega))
def yA (V : Vt) (m : Nat) : Nat := pkN (fun i => itG (skN (V 2) (wlV V)) m (V 3) (0 + i)) (V 2 35)
def yB (V : Vt) (m : Nat) : Nat := pkN (fun i => itG (skN (V 2) (wlV V)) m (V 3) (12 + i)) (V 2 34)
def ySm (V : Vt) (m n : Nat) : Bool := decide (yA V m = yA V n ∧ yB V m = yB V n)
theorem sB_8 {P F : Nat → Nat} (h : SB P F) : ∀ z, (z = 0 ∨ z = 12) → ∀ i, i < 6 → F (z + i) < 2 ^ 3 := by
  intro z hz i hi
  rcases hz with rfl | rfl
  · have := h.1 i hi; rw [Nat.zero_add]; omega
  · have := h.2.2.1 i hi; omega
theorem yAB_b {V : Vt} (hH : HV V) {m : Nat} (hm : m ≤ 60) : yA V m < 2 ^ 18 ∧ yB V m < 2 ^ 18 := by
  have hS := (it_skB hH m hm).1
  obtain ⟨p1, p2, p3, p4, p5, p6, p7, p8, p9⟩ := id hH.2.2.2.1
  exact ⟨pkn_b (by omega) (sB_8 hS 0 (Or.inl rfl)), pkn_b (by omega) (sB_8 hS 12 (Or.inr rfl))⟩
set_option maxRecDepth 20000 in
set_option maxHeartbeats 1000000 in
theorem l_crs {G : Gt} {l : Launch} {Z : Zt} {R : Rt} {I : It} {L : Lt} {post : Pt'} {V : Vt} {I0 : It} {n q : Nat} (W : WF Z R) (hH : HV V) (hb : V 0 1 ≤ 4 ∧ V 0 3 ≤ 4) (hn1 : 1 ≤ n) (hn : n ≤ 60) (hq : q ≤ 1) (C : CI V R I L) (hf : OF I0 I) (hs : rs (I 121) (itG (skN (V 2) (wlV V)) (n - 1) (V 3))) (hpr : ∀ m, 1 ≤ m → m < n → I 127 m = nI (yA V m) ∧ I 129 m = nI (yB V m))
    (h137 : ∀ I', CI V R I' L → OF I0 I' → rs (I' 121) (itG (skN (V 2) (wlV V)) n (V 3)) → (∀ m, 1 ≤ m → m ≤ n → I' 127 m = nI (yA V m) ∧ I' 129 m = nI (yB V m)) → fnd (fun m => decide (yA V m = yA V n ∧ yB V m = yB V n)) (n - 1) 1 = 0 → Sx G l mX5_comingRound 6 0 0 137 [(4, .int (nI n)), (3, .int (nI n)), (0, .ref 119), (1, .ref 229), (2, .int (nI q))] [] Z R I' L post)
    (hret : ∀ I', CI V R I' L → OF I0 I' → fnd (fun m => decide (yA V m = yA V n ∧ yB V m = yB V n)) (n - 1) 1 ≠ 0 → post (some (.int (iI (if q = 0 then (fnd (fun m => decide (yA V m = yA V n ∧ yB V m = yB V n)) (n - 1) 1 : Int) else (n : Int) - (fnd (fun m => decide (yA V m = yA V n ∧ yB V m = yB V n)) (n - 1) 1 : Int))))) Z R I' L) :
    Sx G l mX5_comingRound 6 0 0 16 [(3, .int (nI n)), (0, .ref 119), (1, .ref 229), (2, .int (nI q))] [] Z R I L post := by
  obtain ⟨p1, p2, p3, p4, p5, p6, p7, p8, p9⟩ := id hH.2.2.2.1
  obtain ⟨hS0, hy0⟩ := it_skB hH (n - 1) (by omega)
  have hSn := (it_skB hH n hn).1
  have hsm : ∀ z, (z = 0 ∨ z = 12) → ∀ i, i < 6 → itG (skN (V 2) (wlV V)) n (V 3) (z + i) < 2 ^ 3 := sB_8 hSn
  have hyb : ∀ m, 1 ≤ m → m ≤ n → yA V m < 2 ^ 18 ∧ yB V m < 2 ^ 18 := fun m _ hm => yAB_b hH (by omega)
  have hyn : pkN (fun i => itG (skN (V 2) (wlV V)) n (V 3) (0 + i)) (V 2 35) < 2 ^ 18 ∧ pkN (fun i => itG (skN (V 2) (wlV V)) n (V 3) (12 + i)) (V 2 34) < 2 ^ 18 := yAB_b hH hn
  refine Sx.aload_n dX5_comingRound_16 rfl ?_
  refine Sx.getfR dX5_comingRound_17 lkf_X5_49_5 (o_119 W) (r_119_1 W) ?_
  refine Sx.aload_n dX5_comingRound_20 rfl ?_
  refine Sx.getfR dX5_comingRound_21 lkf_X5_12_5 (o_119 W) (r_119_2 W) ?_
  refine Sx.callV1 dX5_comingRound_24 lkv_X5_99 (rcv_1 (o_114 W)) (by decide) (by decide) (Nat.le_of_ble_eq_true rfl) rfl rfl (c_skip W C.2.1 hH.2.2.2.1 (w_120r W) hs (by decide) (C.lw ⟨hH.1.1, hH.1.2.1⟩) hS0 (by omega) (fun I1 r1 o1 => ?_))
  have ho1 : OF I I1 := fun q hq => o1 q (by omega) (by omega) (by omega)
  have hs1 : rs (I1 121) (itG (skN (V 2) (wlV V)) n (V 3)) := by rw [show n = n - 1 + 1 by omega, itG_c]; exact r1
  have C1 := ho1.ci C hb
  refine Sx.aload_n dX5_comingRound_27 rfl ?_
  refine Sx.getfR dX5_comingRound_28 lkf_X5_30_5 (o_119 W) (r_119_5 W) ?_
  refine Sx.iload_n dX5_comingRound_31 rfl ?_
  refine Sx.aload_n dX5_comingRound_32 rfl ?_
  refine Sx.iconst (v := (nI 0)) dX5_comingRound_33 (by decide) ?_
  refine Sx.aload_n dX5_comingRound_34 rfl ?_
  refine Sx.getfR dX5_comingRound_35 lkf_X5_45_5 (o_119 W) (r_119_0 W) ?_
  refine Sx.callV0 dX5_comingRound_38 lkv_X5_103 (rcv_6 (o_103 W)) (by decide) (by decide) (Nat.le_of_ble_eq_true rfl) rfl rfl (c_pers (w_103r W) C1.2.1 ?_)
  refine Sx.callV2 dX5_comingRound_41 lkv_X5_106 (rcv_5 (o_119 W)) (by decide) (by decide) (Nat.le_of_ble_eq_true rfl) rfl rfl (d_packed W hs1 (by decide) (by omega) (fun i hi => hsm 0 (by decide) i hi) ?_)
  refine Sx.callV2 dX5_comingRound_44 lkv_X5_89 (rcv_7 (o_126 W)) (by decide) (by decide) (Nat.le_of_ble_eq_true rfl) rfl rfl (d_rset (w_126r W) (by unfold rowC; decide) (by decide) (k := n) (by omega) (fun I2 e2 o2 => ?_))
  refine Sx.aload_n dX5_comingRound_47 rfl ?_
  refine Sx.getfR dX5_comingRound_48 lkf_X5_33_5 (o_119 W) (r_119_6 W) ?_
  refine Sx.iload_n dX5_comingRound_51 rfl ?_
  refine Sx.aload_n dX5_comingRound_52 rfl ?_
  refine Sx.bipush (v := (nI 12)) dX5_comingRound_53 (by decide) ?_
  refine Sx.aload_n dX5_comingRound_55 rfl ?_
  refine Sx.getfR dX5_comingRound_56 lkf_X5_45_5 (o_119 W) (r_119_0 W) ?_
  refine Sx.callV0 dX5_comingRound_59 lkv_X5_109 (rcv_6 (o_103 W)) (by decide) (by decide) (Nat.le_of_ble_eq_true rfl) rfl rfl (c_kinds (w_103r W) (by rw [o2 104 (by decide)]; exact C1.2.1) ?_)
  refine Sx.callV2 dX5_comingRound_62 lkv_X5_106 (rcv_5 (o_119 W)) (by decide) (by decide) (Nat.le_of_ble_eq_true rfl) rfl rfl (d_packed W (by rw [o2 121 (by decide)]; exact hs1) (by decide) (by omega) (fun i hi => hsm 12 (by decide) i hi) ?_)
  refine Sx.callV2 dX5_comingRound_65 lkv_X5_89 (rcv_7 (o_128 W)) (by decide) (by decide) (Nat.le_of_ble_eq_true rfl) rfl rfl (d_rset (w_128r W) (by unfold rowC; decide) (by decide) (k := n) (by omega) (fun I3 e3 o3 => ?_))
  refine Sx.iconst (v := (nI 1)) dX5_comingRound_68 (by decide) ?_
  refine Sx.istore (lv' := [(4, .int (nI 1)), (3, .int (nI n)), (0, .ref 119), (1, .ref 229), (2, .int (nI q))]) dX5_comingRound_69 (by decide) rfl ?_
  have ho3 : OF I I3 := fun q hq => by rw [o3 q (by omega), o2 q (by omega), ho1 q hq]
  have hrow : ∀ m, 1 ≤ m → m ≤ n → I3 127 m = nI (yA V m) ∧ I3 129 m = nI (yB V m) := by
    intro m m1 m2
    rw [e3, o3 127 (by decide), e2, o2 129 (by decide)]
    by_cases c : m = n
    · subst c
      rw [upd_at, upd_at]
      exact ⟨rfl, rfl⟩
    · rw [upd_nj _ _ c, upd_nj _ _ c, o1 127 (by decide) (by decide) (by decide), o1 129 (by decide) (by decide) (by decide)]
      exact hpr m m1 (by omega)
  refine Sx.sub' [(4, .int (nI 1)), (3, .int (nI n)), (0, .ref 119), (1, .ref 229), (2, .int (nI q))] rfl ?_
  refine l_cri W (by omega) hq hrow hyb (ff := fnd (fun m => decide (yA V m = yA V n ∧ yB V m = yB V n)) (n - 1) 1) (fun z => ?_) (fun z => ?_) n (n - 1) (by omega) 1 (by omega) (by omega) rfl
  · exact h137 I3 (ho3.ci C hb) (hf.tr ho3) (by rw [o3 121 (by decide), o2 121 (by decide)]; exact hs1) hrow z
  · exact hret I3 (ho3.ci C hb) (hf.tr ho3) z
set_option maxRecDepth 20000 in
set_option maxHeartbeats 1000000 in
theorem l_cro {G : Gt} {l : Launch} {Z : Zt} {R : Rt} {L : Lt} {post : Pt'} {V : Vt} {I0 : It} {q : Nat} {FF : Int} (W : WF Z R) (hH : HV V) (hb : V 0 1 ≤ 4 ∧ V 0 3 ≤ 4) (hq : q ≤ 1) (h : ∀ I', CI V R I' L → OF I0 I' → post (some (.int (iI FF))) Z R I' L) :
    ∀ (k r : Nat), r < k → ∀ (n : Nat) (I : It), 1 ≤ n → n + r = 61 → CI V R I L → OF I0 I → rs (I 121) (itG (skN (V 2) (wlV V)) (n - 1) (V 3)) → (∀ m, 1 ≤ m → m < n → I 127 m = nI (yA V m) ∧ I 129 m = nI (yB V m)) → rdF (ySm V) q r n = FF → Sx G l mX5_comingRound 6 0 0 10 [(3, .int (nI n)), (0, .ref 119), (1, .ref 229), (2, .int (nI q))] [] Z R I L post := by
  intro k
  induction k with
  | zero => intro r h1; omega
  | succ k ih =>
    intro r h1 n I h1n hnr C hf hs hpr hF
    refine Sx.iload_n dX5_comingRound_10 rfl ?_
    refine Sx.bipush (v := (nI 60)) dX5_comingRound_11 (by decide) ?_
    refine Sx.icmp_gtV (t := 143) dX5_comingRound_13 (by decide) (vN (by omega)) (vN (by decide)) (fun c13 => ?_) (fun c13 => ?_)
    · have hr0 : r = 0 := by omega
      subst hr0
      refine Sx.iconst (v := (iI (-1))) dX5_comingRound_143 (by decide) ?_
      refine Sx.iret dX5_comingRound_144 rfl rfl ?_
      exact pXX (by rw [← hF]; rfl) (h I C hf)
    · refine l_crs (I0 := I0) W hH hb h1n (by omega) hq C hf hs hpr (fun I2 C2 hf2 hs2 hpr2 hz2 => ?_) (fun I2 C2 hf2 hz2 => ?_)
      · refine Sx.iinc (v := (nI (n + 1))) (lv' := [(3, .int (nI (n + 1))), (4, .int (nI n)), (0, .ref 119), (1, .ref 229), (2, .int (nI q))]) dX5_comingRound_137 rfl (nI_add n 1) (by decide) rfl ?_
        refine Sx.goto (t := 10) dX5_comingRound_140 (by decide) ?_
        refine Sx.sub' [(3, .int (nI (n + 1))), (0, .ref 119), (1, .ref 229), (2, .int (nI q))] rfl ?_
        exact ih (r - 1) (by omega) (n + 1) I2 (by omega) (by omega) C2 hf2 (by rw [Nat.add_sub_cancel]; exact hs2) (fun m m1 m2 => hpr2 m m1 (by omega)) (by rw [← hF, show r = r - 1 + 1 by omega, rdF_s, Nat.add_sub_cancel]; exact (if_pos hz2).symm)
      · exact pXX (by rw [← hF, show r = r - 1 + 1 by omega, rdF_s]; exact congrArg iI (if_neg hz2)) (h I2 C2 hf2)
set_option maxRecDepth 20000 in
set_option maxHeartbeats 1000000 in
theorem d_comR {G : Gt} {l : Launch} {Z : Zt} {R : Rt} {I : It} {L : Lt} {post : Pt'} {V : Vt} {q : Nat} (W : WF Z R) (C : CI V R I L) (hH : HV V) (hb : V 0 1 ≤ 4 ∧ V 0 3 ≤ 4) (hq : q ≤ 1) (h : ∀ I', CI V R I' L → OF I I' → post (some (.int (iI (rdF (ySm V) q 60 1)))) Z R I' L) : Cx G l mX5_comingRound 6 0 0 [.ref 119, .ref 229, .int (nI q)] Z R I L post := by
  refine Cx.of (by decide +kernel) (by exact Nat.le_of_ble_eq_true rfl) ?_
  refine Sx.aload_n dX5_comingRound_0 rfl ?_
  refine Sx.getfR dX5_comingRound_1 lkf_X5_12_5 (o_119 W) (r_119_2 W) ?_
  refine Sx.aload_n dX5_comingRound_4 rfl ?_
  refine Sx.callU1 dX5_comingRound_5 lku_X5_54 (rcv_8 (o_120 W)) (by decide) (by decide) (Nat.le_of_ble_eq_true rfl) rfl rfl (c_X7_copy (w_120r W) (by unfold rowC; decide) (by decide) (w_229r W) (by unfold rowC; decide) (fun I1 e1 o1 => ?_))
  have ho1 : OF I I1 := fun q hq => o1 q (by omega)
  refine Sx.iconst (v := (nI 1)) dX5_comingRound_8 (by decide) ?_
  refine Sx.istore_n (lv' := [(3, .int (nI 1)), (0, .ref 119), (1, .ref 229), (2, .int (nI q))]) dX5_comingRound_9 (by decide) rfl ?_
  refine Sx.sub' [(3, .int (nI 1)), (0, .ref 119), (1, .ref 229), (2, .int (nI q))] rfl ?_
  exact l_cro (I0 := I) W hH hb hq h 61 60 (by omega) 1 I1 (by omega) (by omega) (ho1.ci C hb) ho1 (by rw [show 1 - 1 = 0 from rfl, itG_0, e1]; exact rs_c C.2.2.1) (fun m m1 m2 => by omega) rfl
theorem sk_o1 {P F : Nat → Nat} {w : Wt} {q : Nat} (hq : (P 35 ≤ q ∧ q < 6) ∨ (12 + P 34 ≤ q ∧ q < 18)) : skN P w F q = F q := by
  unfold skN trnN
  by_cases c : q < 6
  · rw [if_pos c, if_neg (by omega)]
  · rw [if_neg c, if_neg (by omega), if_neg (by omega), if_neg (by omega), if_neg (by omega)]
theorem sk_out {P : Nat → Nat} {w : Wt} {q : Nat} (hq : (P 35 ≤ q ∧ q < 6) ∨ (12 + P 34 ≤ q ∧ q < 18)) : ∀ n (F : Nat → Nat), itG (skN P w) n F q = F q
  | 0, F => rfl
  | n + 1, F => by rw [itG_c, sk_o1 hq]; exact sk_out hq n F
theorem sa_y {V : Vt} (hH : HV V) {m n : Nat} (hm : m ≤ 60) (hn : n ≤ 60) : saV V m n = ySm V m n := by
  obtain ⟨a1, -, -, -, -⟩ := it_sk (w := wlV V) hH.2.2.2.1 hH.2.2.2.2.1 hH.2.2.2.2.2.1 m (by omega)
  obtain ⟨b1, -, -, -, -⟩ := it_sk (w := wlV V) hH.2.2.2.1 hH.2.2.2.2.1 hH.2.2.2.2.2.1 n (by omega)
  obtain ⟨p1, p2, p3, p4, p5, p6, p7, p8, p9⟩ := id hH.2.2.2.1
  have hS := sB_8 (it_skB hH m hm).1
  have hT := sB_8 (it_skB hH n hn).1
  have i1 : yA V m = yA V n ↔ _ := pkn_inj (V 2 35) (fun i hi => hS 0 (Or.inl rfl) i (by omega)) (fun i hi => hT 0 (Or.inl rfl) i (by omega))
  have i2 : yB V m = yB V n ↔ _ := pkn_inj (V 2 34) (fun i hi => hS 12 (Or.inr rfl) i (by omega)) (fun i hi => hT 12 (Or.inr rfl) i (by omega))
  unfold saV saJ ySm
  refine decide_eq_decide.mpr ?_
  rw [i1, i2]
  have em : ∀ k, kcC k → yrs V m k = itG (skN (V 2) (wlV V)) m (V 3) k := a1
  have en : ∀ k, kcC k → yrs V n k = itG (skN (V 2) (wlV V)) n (V 3) k := b1
  constructor
  · intro h
    refine ⟨fun i hi => ?_, fun i hi => ?_⟩
    · have e := h i (by omega)
      unfold pst at e
      rw [if_pos (by omega), if_pos (by omega), em i (by unfold kcC; omega), en i (by unfold kcC; omega)] at e
      rw [Nat.zero_add]
      exact e
    · have e := h (6 + i) (by omega)
      unfold pst at e
      rw [if_neg (by omega), if_neg (by omega), em _ (by unfold kcC; omega), en _ (by unfold kcC; omega), show 6 + (6 + i) = 12 + i by omega] at e
      exact e
  · intro h k hk
    unfold pst
    by_cases c : k < 6
    · rw [if_pos c, if_pos c, em k (by unfold kcC; omega), en k (by unfold kcC; omega)]
      by_cases c2 : k < V 2 35
      · have e := h.1 k c2
        rw [Nat.zero_add] at e
        exact e
      · rw [sk_out (Or.inl ⟨by omega, c⟩), sk_out (Or.inl ⟨by omega, c⟩)]
    · rw [if_neg c, if_neg c, em _ (by unfold kcC; omega), en _ (by unfold kcC; omega)]
      by_cases c2 : k - 6 < V 2 34
      · have e := h.2 (k - 6) c2
        rw [show 12 + (k - 6) = 6 + k by omega] at e
        exact e
      · rw [sk_out (Or.inr ⟨by omega, by omega⟩), sk_out (Or.inr ⟨by omega, by omega⟩)]
theorem fnd_cg {p p' : Nat → Bool} {N : Nat} (h : ∀ i, i ≤ N → p i = p' i) : ∀ r i, i + r ≤ N + 1 → fnd p r i = fnd p' r i
  | 0, _ => fun _ => rfl
  | r + 1, i => fun hr => by rw [fnd, fnd, h i (by omega), fnd_cg h r (i + 1) (by omega)]
theorem rdF_cg {p p' : Nat → Nat → Bool} {N q : Nat} (h : ∀ m n, m ≤ N → n ≤ N → p m n = p' m n) : ∀ r n, 1 ≤ n → n + r ≤ N + 1 → rdF p q r n = rdF p' q r n
  | 0, _ => fun _ _ => rfl
  | r + 1, n => fun h1 hr => by rw [rdF_s, rdF_s, rdF_cg h r (n + 1) (by omega) (by omega), fnd_cg (fun i hi => h i n hi (by omega)) (n - 1) 1 (by omega)]
set_option maxRecDepth 20000 in
set_option maxHeartbeats 1000000 in
theorem d_round {G : Gt} {l : Launch} {Z : Zt} {R : Rt} {I : It} {L : Lt} {post : Pt'} {V : Vt} {N : Nat} {x : Int32} (W : WF Z R) (C : CI V R I L) (hG : GG N V) (hN : N < 2147483647) (h : CQ post Z R I L V (rouR V x)) : Cx G l mX11_round 7 0 0 [.ref 100, .int x] Z R I L post := by
  refine Cx.of (by decide +kernel) (by exact Nat.le_of_ble_eq_true rfl) ?_
  have hB := hG.1.bnd
  have hp6 := hG.1.p
  have hb := hG.1.b
  have h00 := hG.1.1.1
  refine Sx.aload_n dX11_round_0 rfl ?_
  refine Sx.callV0 dX11_round_1 lkv_X11_223 (rcv_11 (o_100 W)) (by decide) (by decide) (Nat.le_of_ble_eq_true rfl) rfl rfl (d_isPort W C (by omega) ?_)
  refine Sx.if_eqD (t := 16) dX11_round_4 (by decide) (fun c4 => ?_) (fun c4 => ?_)
  · refine Sx.iconst (v := (iI (-1))) dX11_round_16 (by decide) ?_
    refine Sx.goto (t := 32) dX11_round_17 (by decide) ?_
    refine Sx.iret dX11_round_32 rfl rfl ?_
    have hn : ¬ rouC V x := fun z => by omega
    exact pXX (by unfold rouR; rw [if_neg hn]; rfl) (h I R L C (CF.rf R I L))
  · refine Sx.iload_n dX11_round_7 rfl ?_
    refine Sx.if_ltV (t := 16) dX11_round_8 (by decide) (vX x) (fun c8 => ?_) (fun c8 => ?_)
    · refine Sx.iconst (v := (iI (-1))) dX11_round_16 (by decide) ?_
      refine Sx.goto (t := 32) dX11_round_17 (by decide) ?_
      refine Sx.iret dX11_round_32 rfl rfl ?_
      have hn : ¬ rouC V x := fun z => by omega
      exact pXX (by unfold rouR; rw [if_neg hn]; rfl) (h I R L C (CF.rf R I L))
    · refine Sx.iload_n dX11_round_11 rfl ?_
      refine Sx.iconst (v := (nI 1)) dX11_round_12 (by decide) ?_
      refine Sx.icmp_leV (t := 20) dX11_round_13 (by decide) (vX x) (vN (by decide)) (fun c13 => ?_) (fun c13 => ?_)
      · have hH := hG.1.hv (by omega)
        have hc : rouC V x := ⟨by omega, by omega, by omega⟩
        obtain ⟨p, rfl, hp⟩ := x_ex (x := x) (n := 2) ⟨by omega, by omega⟩
        refine Sx.sub' [(0, .ref 100), (1, .int (nI p))] rfl ?_
        refine Sx.aload_n dX11_round_20 rfl ?_
        refine Sx.getfR dX11_round_21 lkf_X11_68_11 (o_100 W) (r_100_8 W) ?_
        refine Sx.aload_n dX11_round_24 rfl ?_
        refine Sx.getfR dX11_round_25 lkf_X11_89_11 (o_100 W) (r_100_11 W) ?_
        refine Sx.iload_n dX11_round_28 rfl ?_
        refine Sx.callV2 dX11_round_29 lkv_X11_291 (rcv_5 (o_119 W)) (by decide) (by decide) (Nat.le_of_ble_eq_true rfl) rfl rfl (d_comR W C hH hb (by omega) (fun I1 C1 o1 => ?_))
        refine Sx.iret dX11_round_32 rfl rfl ?_
        exact pXX (by unfold rouR; rw [if_pos hc, xN_n (by omega), rdF_cg (N := 60) (fun m n hm hn => sa_y hH hm hn) 60 1 (by omega) (by omega)]) (h I1 R L C1 o1.cf)
      · refine Sx.iconst (v := (iI (-1))) dX11_round_16 (by decide) ?_
        refine Sx.goto (t := 32) dX11_round_17 (by decide) ?_
        refine Sx.iret dX11_round_32 rfl rfl ?_
        have hn : ¬ rouC V x := fun z => by omega
        exact pXX (by unfold rouR; rw [if_neg hn]; rfl) (h I R L C (CF.rf R I L))
