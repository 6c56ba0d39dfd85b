/-! the class: the reader of laws: behind an atom or a unit -/
abbrev lmFit' (M : Nat → Nat) (x : Nat) : Prop :=
  ((x = 43 ∨ x = 45 ∨ x = 42 ∨ x = 47) ∧ M 2 = 4) ∨ ((x = 61 ∨ x = 60 ∨ x = 62) ∧ M 2 = 4 ∧ M 5 = 0 ∧ M 8 = 0 ∧ M 7 = 0) ∨
  (x = 93 ∧ M 2 = 4 ∧ M 5 ≠ 0) ∨ ((x = 38 ∨ x = 124) ∧ M 5 = 0 ∧ (M 2 = 5 ∨ M 8 ≠ 0)) ∨ (x = 41 ∧ (M 5 = 0 ∧ (M 2 = 5 ∨ M 8 ≠ 0)) ∧ M 4 ≠ 0) ∨ (x = 63 ∧ (M 5 = 0 ∧ (M 2 = 5 ∨ M 8 ≠ 0)) ∧ M 4 = 0)
theorem fit_n {M : Nat → Nat} {x : Nat} (h : x ≠ 59) : lmFit M x ↔ lmFit' M x := by
  unfold lmFit lmFit' lmUw
  simp only [h, false_and, or_false]
theorem fit_59 {M : Nat → Nat} : lmFit M 59 ↔ lmEnd M = true := by
  unfold lmFit lmUw
  constructor
  · rintro (⟨q, -⟩ | ⟨q, -⟩ | ⟨q, -⟩ | ⟨q, -⟩ | ⟨q, -⟩ | ⟨q, -⟩ | ⟨-, q⟩)
    all_goals first | exact q | (exact absurd q (by decide))
  · intro q
    exact Or.inr (Or.inr (Or.inr (Or.inr (Or.inr (Or.inr ⟨rfl, q⟩)))))
theorem off_or : ∀ x, x < 256 → x = 43 ∨ x = 45 ∨ x = 42 ∨ x = 47 ∨ x = 61 ∨ x = 60 ∨ x = 62 ∨ x = 93 ∨ x = 38 ∨ x = 124 ∨ x = 41 ∨ x = 63 ∨ x = 59 ∨ Op.lookupswitch.offset (#[(38, 163), (41, 165), (42, 113), (43, 113), (45, 113), (47, 113), (59, 199), (60, 115), (61, 115), (62, 115), (63, 182), (93, 146), (124, 163)] : Array (Int × Int)).toList 204 (nI x).toInt = 204 := by decide +kernel
theorem off_no (x : Nat) (h : x < 256) (n43 : x ≠ 43) (n45 : x ≠ 45) (n42 : x ≠ 42) (n47 : x ≠ 47) (n61 : x ≠ 61) (n60 : x ≠ 60) (n62 : x ≠ 62) (n93 : x ≠ 93) (n38 : x ≠ 38) (n124 : x ≠ 124) (n41 : x ≠ 41) (n63 : x ≠ 63) (n59 : x ≠ 59) : Op.lookupswitch.offset (#[(38, 163), (41, 165), (42, 113), (43, 113), (45, 113), (47, 113), (59, 199), (60, 115), (61, 115), (62, 115), (63, 182), (93, 146), (124, 163)] : Array (Int × Int)).toList 204 (nI x).toInt = 204 := by
  rcases off_or x h with q | q | q | q | q | q | q | q | q | q | q | q | q | q
  all_goals first | exact q | (exact absurd q (by assumption))
set_option maxRecDepth 20000 in
set_option maxHeartbeats 1000000 in
theorem d_fit43 {G : Gt} {l : Launch} {Z : Zt} {R : Rt} {I : It} {L : Lt} {post : Pt'} {M S : Nat → Nat} (W : WF Z R) (hL : LR I M S) (hb : ∀ j, j ≤ 8 → M j < 1000) (h : post (some (.int (b2i (decide (lmFit M 43))))) Z R I L) : Cx G l mX4_fitsBehind 2 0 0 [.ref 107, .int (nI 43)] Z R I L post := by
  refine Cx.of (by decide +kernel) (by exact Nat.le_of_ble_eq_true rfl) ?_
  have b2 := hb 2 (by decide)
  have b4 := hb 4 (by decide)
  have b5 := hb 5 (by decide)
  have b6 := hb 6 (by decide)
  have b7 := hb 7 (by decide)
  have b8 := hb 8 (by decide)
  refine Sx.aload_n dX4_fitsBehind_0 rfl ?_
  refine Sx.getfV (v := (nI (M 2))) dX4_fitsBehind_1 lkf_X4_24_4 (o_107 W) (hL.1 2 (by decide) (by decide)) ?_
  refine Sx.iconst (v := (nI 4)) dX4_fitsBehind_4 (by decide) ?_
  refine Sx.icmp_neV (t := 12) dX4_fitsBehind_5 (by decide) (vN (by omega)) (vN (by decide)) (fun c5 => ?_) (fun c5 => ?_)
  · refine Sx.iconst (v := (nI 0)) dX4_fitsBehind_12 (by decide) ?_
    refine Sx.istore_n (lv' := [(2, .int (nI 0)), (0, .ref 107), (1, .int (nI 43))]) dX4_fitsBehind_13 (by decide) rfl ?_
    refine Sx.aload_n dX4_fitsBehind_14 rfl ?_
    refine Sx.getfV (v := (nI (M 5))) dX4_fitsBehind_15 lkf_X4_33_4 (o_107 W) (hL.1 5 (by decide) (by decide)) ?_
    refine Sx.if_neV (t := 40) dX4_fitsBehind_18 (by decide) (vN (by omega)) (fun c18 => ?_) (fun c18 => ?_)
    · refine Sx.iconst (v := (nI 0)) dX4_fitsBehind_40 (by decide) ?_
      refine Sx.istore_n (lv' := [(3, .int (nI 0)), (2, .int (nI 0)), (0, .ref 107), (1, .int (nI 43))]) dX4_fitsBehind_41 (by decide) rfl ?_
      refine Sx.iload_n dX4_fitsBehind_42 rfl ?_
      refine Sx.lookup (t := 156) dX4_fitsBehind_43 (by decide) (o := 113) (by decide) (by decide) ?_
      refine Sx.iload_n dX4_fitsBehind_156 rfl ?_
      refine Sx.top (show _ = b2i false from rfl) ?_
      refine Sx.iret dX4_fitsBehind_157 rfl (b2i_n _) ?_
      exact pBB (decide_eq_false (fun z => by have z2 := (fit_n (by decide)).mp z; unfold lmFit' at z2; omega)) h
    · refine Sx.aload_n dX4_fitsBehind_21 rfl ?_
      refine Sx.getfV (v := (nI (M 2))) dX4_fitsBehind_22 lkf_X4_24_4 (o_107 W) (hL.1 2 (by decide) (by decide)) ?_
      refine Sx.iconst (v := (nI 5)) dX4_fitsBehind_25 (by decide) ?_
      refine Sx.icmp_eqV (t := 36) dX4_fitsBehind_26 (by decide) (vN (by omega)) (vN (by decide)) (fun c26 => ?_) (fun c26 => ?_)
      · refine Sx.iconst (v := (nI 1)) dX4_fitsBehind_36 (by decide) ?_
        refine Sx.goto (t := 41) dX4_fitsBehind_37 (by decide) ?_
        refine Sx.istore_n (lv' := [(3, .int (nI 1)), (2, .int (nI 0)), (0, .ref 107), (1, .int (nI 43))]) dX4_fitsBehind_41 (by decide) rfl ?_
        refine Sx.iload_n dX4_fitsBehind_42 rfl ?_
        refine Sx.lookup (t := 156) dX4_fitsBehind_43 (by decide) (o := 113) (by decide) (by decide) ?_
        refine Sx.iload_n dX4_fitsBehind_156 rfl ?_
        refine Sx.top (show _ = b2i false from rfl) ?_
        refine Sx.iret dX4_fitsBehind_157 rfl (b2i_n _) ?_
        exact pBB (decide_eq_false (fun z => by have z2 := (fit_n (by decide)).mp z; unfold lmFit' at z2; omega)) h
      · refine Sx.aload_n dX4_fitsBehind_29 rfl ?_
        refine Sx.getfV (v := (nI (M 8))) dX4_fitsBehind_30 lkf_X4_43_4 (o_107 W) (hL.1 8 (by decide) (by decide)) ?_
        refine Sx.if_eqV (t := 40) dX4_fitsBehind_33 (by decide) (vN (by omega)) (fun c33 => ?_) (fun c33 => ?_)
        · refine Sx.iconst (v := (nI 0)) dX4_fitsBehind_40 (by decide) ?_
          refine Sx.istore_n (lv' := [(3, .int (nI 0)), (2, .int (nI 0)), (0, .ref 107), (1, .int (nI 43))]) dX4_fitsBehind_41 (by decide) rfl ?_
          refine Sx.iload_n dX4_fitsBehind_42 rfl ?_
          refine Sx.lookup (t := 156) dX4_fitsBehind_43 (by decide) (o := 113) (by decide) (by decide) ?_
          refine Sx.iload_n dX4_fitsBehind_156 rfl ?_
          refine Sx.top (show _ = b2i false from rfl) ?_
          refine Sx.iret dX4_fitsBehind_157 rfl (b2i_n _) ?_
          exact pBB (decide_eq_false (fun z => by have z2 := (fit_n (by decide)).mp z; unfold lmFit' at z2; omega)) h
        · refine Sx.iconst (v := (nI 1)) dX4_fitsBehind_36 (by decide) ?_
          refine Sx.goto (t := 41) dX4_fitsBehind_37 (by decide) ?_
          refine Sx.istore_n (lv' := [(3, .int (nI 1)), (2, .int (nI 0)), (0, .ref 107), (1, .int (nI 43))]) dX4_fitsBehind_41 (by decide) rfl ?_
          refine Sx.iload_n dX4_fitsBehind_42 rfl ?_
          refine Sx.lookup (t := 156) dX4_fitsBehind_43 (by decide) (o := 113) (by decide) (by decide) ?_
          refine Sx.iload_n dX4_fitsBehind_156 rfl ?_
          refine Sx.top (show _ = b2i false from rfl) ?_
          refine Sx.iret dX4_fitsBehind_157 rfl (b2i_n _) ?_
          exact pBB (decide_eq_false (fun z => by have z2 := (fit_n (by decide)).mp z; unfold lmFit' at z2; omega)) h
  · refine Sx.iconst (v := (nI 1)) dX4_fitsBehind_8 (by decide) ?_
    refine Sx.goto (t := 13) dX4_fitsBehind_9 (by decide) ?_
    refine Sx.istore_n (lv' := [(2, .int (nI 1)), (0, .ref 107), (1, .int (nI 43))]) dX4_fitsBehind_13 (by decide) rfl ?_
    refine Sx.aload_n dX4_fitsBehind_14 rfl ?_
    refine Sx.getfV (v := (nI (M 5))) dX4_fitsBehind_15 lkf_X4_33_4 (o_107 W) (hL.1 5 (by decide) (by decide)) ?_
    refine Sx.if_neV (t := 40) dX4_fitsBehind_18 (by decide) (vN (by omega)) (fun c18 => ?_) (fun c18 => ?_)
    · refine Sx.iconst (v := (nI 0)) dX4_fitsBehind_40 (by decide) ?_
      refine Sx.istore_n (lv' := [(3, .int (nI 0)), (2, .int (nI 1)), (0, .ref 107), (1, .int (nI 43))]) dX4_fitsBehind_41 (by decide) rfl ?_
      refine Sx.iload_n dX4_fitsBehind_42 rfl ?_
      refine Sx.lookup (t := 156) dX4_fitsBehind_43 (by decide) (o := 113) (by decide) (by decide) ?_
      refine Sx.iload_n dX4_fitsBehind_156 rfl ?_
      refine Sx.top (show _ = b2i true from rfl) ?_
      refine Sx.iret dX4_fitsBehind_157 rfl (b2i_n _) ?_
      exact pBB (decide_eq_true ((fit_n (by decide)).mpr (by unfold lmFit'; omega))) h
    · refine Sx.aload_n dX4_fitsBehind_21 rfl ?_
      refine Sx.getfV (v := (nI (M 2))) dX4_fitsBehind_22 lkf_X4_24_4 (o_107 W) (hL.1 2 (by decide) (by decide)) ?_
      refine Sx.iconst (v := (nI 5)) dX4_fitsBehind_25 (by decide) ?_
      refine Sx.icmp_eqV (t := 36) dX4_fitsBehind_26 (by decide) (vN (by omega)) (vN (by decide)) (fun c26 => ?_) (fun c26 => ?_)
      · refine Sx.iconst (v := (nI 1)) dX4_fitsBehind_36 (by decide) ?_
        refine Sx.goto (t := 41) dX4_fitsBehind_37 (by decide) ?_
        refine Sx.istore_n (lv' := [(3, .int (nI 1)), (2, .int (nI 1)), (0, .ref 107), (1, .int (nI 43))]) dX4_fitsBehind_41 (by decide) rfl ?_
        refine Sx.iload_n dX4_fitsBehind_42 rfl ?_
        refine Sx.lookup (t := 156) dX4_fitsBehind_43 (by decide) (o := 113) (by decide) (by decide) ?_
        refine Sx.iload_n dX4_fitsBehind_156 rfl ?_
        refine Sx.top (show _ = b2i true from rfl) ?_
        refine Sx.iret dX4_fitsBehind_157 rfl (b2i_n _) ?_
        exact pBB (decide_eq_true ((fit_n (by decide)).mpr (by unfold lmFit'; omega))) h
      · refine Sx.aload_n dX4_fitsBehind_29 rfl ?_
        refine Sx.getfV (v := (nI (M 8))) dX4_fitsBehind_30 lkf_X4_43_4 (o_107 W) (hL.1 8 (by decide) (by decide)) ?_
        refine Sx.if_eqV (t := 40) dX4_fitsBehind_33 (by decide) (vN (by omega)) (fun c33 => ?_) (fun c33 => ?_)
        · refine Sx.iconst (v := (nI 0)) dX4_fitsBehind_40 (by decide) ?_
          refine Sx.istore_n (lv' := [(3, .int (nI 0)), (2, .int (nI 1)), (0, .ref 107), (1, .int (nI 43))]) dX4_fitsBehind_41 (by decide) rfl ?_
          refine Sx.iload_n dX4_fitsBehind_42 rfl ?_
          refine Sx.lookup (t := 156) dX4_fitsBehind_43 (by decide) (o := 113) (by decide) (by decide) ?_
          refine Sx.iload_n dX4_fitsBehind_156 rfl ?_
          refine Sx.top (show _ = b2i true from rfl) ?_
          refine Sx.iret dX4_fitsBehind_157 rfl (b2i_n _) ?_
          exact pBB (decide_eq_true ((fit_n (by decide)).mpr (by unfold lmFit'; omega))) h
        · refine Sx.iconst (v := (nI 1)) dX4_fitsBehind_36 (by decide) ?_
          refine Sx.goto (t := 41) dX4_fitsBehind_37 (by decide) ?_
          refine Sx.istore_n (lv' := [(3, .int (nI 1)), (2, .int (nI 1)), (0, .ref 107), (1, .int (nI 43))]) dX4_fitsBehind_41 (by decide) rfl ?_
          refine Sx.iload_n dX4_fitsBehind_42 rfl ?_
          refine Sx.lookup (t := 156) dX4_fitsBehind_43 (by decide) (o := 113) (by decide) (by decide) ?_
          refine Sx.iload_n dX4_fitsBehind_156 rfl ?_
          refine Sx.top (show _ = b2i true from rfl) ?_
          refine Sx.iret dX4_fitsBehind_157 rfl (b2i_n _) ?_
          exact pBB (decide_eq_true ((fit_n (by decide)).mpr (by unfold lmFit'; omega))) h
set_option maxRecDepth 20000 in
set_option maxHeartbeats 1000000 in
theorem d_fit45 {G : Gt} {l : Launch} {Z : Zt} {R : Rt} {I : It} {L : Lt} {post : Pt'} {M S : Nat → Nat} (W : WF Z R) (hL : LR I M S) (hb : ∀ j, j ≤ 8 → M j < 1000) (h : post (some (.int (b2i (decide (lmFit M 45))))) Z R I L) : Cx G l mX4_fitsBehind 2 0 0 [.ref 107, .int (nI 45)] Z R I L post := by
  refine Cx.of (by decide +kernel) (by exact Nat.le_of_ble_eq_true rfl) ?_
  have b2 := hb 2 (by decide)
  have b4 := hb 4 (by decide)
  have b5 := hb 5 (by decide)
  have b6 := hb 6 (by decide)
  have b7 := hb 7 (by decide)
  have b8 := hb 8 (by decide)
  refine Sx.aload_n dX4_fitsBehind_0 rfl ?_
  refine Sx.getfV (v := (nI (M 2))) dX4_fitsBehind_1 lkf_X4_24_4 (o_107 W) (hL.1 2 (by decide) (by decide)) ?_
  refine Sx.iconst (v := (nI 4)) dX4_fitsBehind_4 (by decide) ?_
  refine Sx.icmp_neV (t := 12) dX4_fitsBehind_5 (by decide) (vN (by omega)) (vN (by decide)) (fun c5 => ?_) (fun c5 => ?_)
  · refine Sx.iconst (v := (nI 0)) dX4_fitsBehind_12 (by decide) ?_
    refine Sx.istore_n (lv' := [(2, .int (nI 0)), (0, .ref 107), (1, .int (nI 45))]) dX4_fitsBehind_13 (by decide) rfl ?_
    refine Sx.aload_n dX4_fitsBehind_14 rfl ?_
    refine Sx.getfV (v := (nI (M 5))) dX4_fitsBehind_15 lkf_X4_33_4 (o_107 W) (hL.1 5 (by decide) (by decide)) ?_
    refine Sx.if_neV (t := 40) dX4_fitsBehind_18 (by decide) (vN (by omega)) (fun c18 => ?_) (fun c18 => ?_)
    · refine Sx.iconst (v := (nI 0)) dX4_fitsBehind_40 (by decide) ?_
      refine Sx.istore_n (lv' := [(3, .int (nI 0)), (2, .int (nI 0)), (0, .ref 107), (1, .int (nI 45))]) dX4_fitsBehind_41 (by decide) rfl ?_
      refine Sx.iload_n dX4_fitsBehind_42 rfl ?_
      refine Sx.lookup (t := 156) dX4_fitsBehind_43 (by decide) (o := 113) (by decide) (by decide) ?_
      refine Sx.iload_n dX4_fitsBehind_156 rfl ?_
      refine Sx.top (show _ = b2i false from rfl) ?_
      refine Sx.iret dX4_fitsBehind_157 rfl (b2i_n _) ?_
      exact pBB (decide_eq_false (fun z => by have z2 := (fit_n (by decide)).mp z; unfold lmFit' at z2; omega)) h
    · refine Sx.aload_n dX4_fitsBehind_21 rfl ?_
      refine Sx.getfV (v := (nI (M 2))) dX4_fitsBehind_22 lkf_X4_24_4 (o_107 W) (hL.1 2 (by decide) (by decide)) ?_
      refine Sx.iconst (v := (nI 5)) dX4_fitsBehind_25 (by decide) ?_
      refine Sx.icmp_eqV (t := 36) dX4_fitsBehind_26 (by decide) (vN (by omega)) (vN (by decide)) (fun c26 => ?_) (fun c26 => ?_)
      · refine Sx.iconst (v := (nI 1)) dX4_fitsBehind_36 (by decide) ?_
        refine Sx.goto (t := 41) dX4_fitsBehind_37 (by decide) ?_
        refine Sx.istore_n (lv' := [(3, .int (nI 1)), (2, .int (nI 0)), (0, .ref 107), (1, .int (nI 45))]) dX4_fitsBehind_41 (by decide) rfl ?_
        refine Sx.iload_n dX4_fitsBehind_42 rfl ?_
        refine Sx.lookup (t := 156) dX4_fitsBehind_43 (by decide) (o := 113) (by decide) (by decide) ?_
        refine Sx.iload_n dX4_fitsBehind_156 rfl ?_
        refine Sx.top (show _ = b2i false from rfl) ?_
        refine Sx.iret dX4_fitsBehind_157 rfl (b2i_n _) ?_
        exact pBB (decide_eq_false (fun z => by have z2 := (fit_n (by decide)).mp z; unfold lmFit' at z2; omega)) h
      · refine Sx.aload_n dX4_fitsBehind_29 rfl ?_
        refine Sx.getfV (v := (nI (M 8))) dX4_fitsBehind_30 lkf_X4_43_4 (o_107 W) (hL.1 8 (by decide) (by decide)) ?_
        refine Sx.if_eqV (t := 40) dX4_fitsBehind_33 (by decide) (vN (by omega)) (fun c33 => ?_) (fun c33 => ?_)
        · refine Sx.iconst (v := (nI 0)) dX4_fitsBehind_40 (by decide) ?_
          refine Sx.istore_n (lv' := [(3, .int (nI 0)), (2, .int (nI 0)), (0, .ref 107), (1, .int (nI 45))]) dX4_fitsBehind_41 (by decide) rfl ?_
          refine Sx.iload_n dX4_fitsBehind_42 rfl ?_
          refine Sx.lookup (t := 156) dX4_fitsBehind_43 (by decide) (o := 113) (by decide) (by decide) ?_
          refine Sx.iload_n dX4_fitsBehind_156 rfl ?_
          refine Sx.top (show _ = b2i false from rfl) ?_
          refine Sx.iret dX4_fitsBehind_157 rfl (b2i_n _) ?_
          exact pBB (decide_eq_false (fun z => by have z2 := (fit_n (by decide)).mp z; unfold lmFit' at z2; omega)) h
        · refine Sx.iconst (v := (nI 1)) dX4_fitsBehind_36 (by decide) ?_
          refine Sx.goto (t := 41) dX4_fitsBehind_37 (by decide) ?_
          refine Sx.istore_n (lv' := [(3, .int (nI 1)), (2, .int (nI 0)), (0, .ref 107), (1, .int (nI 45))]) dX4_fitsBehind_41 (by decide) rfl ?_
          refine Sx.iload_n dX4_fitsBehind_42 rfl ?_
          refine Sx.lookup (t := 156) dX4_fitsBehind_43 (by decide) (o := 113) (by decide) (by decide) ?_
          refine Sx.iload_n dX4_fitsBehind_156 rfl ?_
          refine Sx.top (show _ = b2i false from rfl) ?_
          refine Sx.iret dX4_fitsBehind_157 rfl (b2i_n _) ?_
          exact pBB (decide_eq_false (fun z => by have z2 := (fit_n (by decide)).mp z; unfold lmFit' at z2; omega)) h
  · refine Sx.iconst (v := (nI 1)) dX4_fitsBehind_8 (by decide) ?_
    refine Sx.goto (t := 13) dX4_fitsBehind_9 (by decide) ?_
    refine Sx.istore_n (lv' := [(2, .int (nI 1)), (0, .ref 107), (1, .int (nI 45))]) dX4_fitsBehind_13 (by decide) rfl ?_
    refine Sx.aload_n dX4_fitsBehind_14 rfl ?_
    refine Sx.getfV (v := (nI (M 5))) dX4_fitsBehind_15 lkf_X4_33_4 (o_107 W) (hL.1 5 (by decide) (by decide)) ?_
    refine Sx.if_neV (t := 40) dX4_fitsBehind_18 (by decide) (vN (by omega)) (fun c18 => ?_) (fun c18 => ?_)
    · refine Sx.iconst (v := (nI 0)) dX4_fitsBehind_40 (by decide) ?_
      refine Sx.istore_n (lv' := [(3, .int (nI 0)), (2, .int (nI 1)), (0, .ref 107), (1, .int (nI 45))]) dX4_fitsBehind_41 (by decide) rfl ?_
      refine Sx.iload_n dX4_fitsBehind_42 rfl ?_
      refine Sx.lookup (t := 156) dX4_fitsBehind_43 (by decide) (o := 113) (by decide) (by decide) ?_
      refine Sx.iload_n dX4_fitsBehind_156 rfl ?_
      refine Sx.top (show _ = b2i true from rfl) ?_
      refine Sx.iret dX4_fitsBehind_157 rfl (b2i_n _) ?_
      exact pBB (decide_eq_true ((fit_n (by decide)).mpr (by unfold lmFit'; omega))) h
    · refine Sx.aload_n dX4_fitsBehind_21 rfl ?_
      refine Sx.getfV (v := (nI (M 2))) dX4_fitsBehind_22 lkf_X4_24_4 (o_107 W) (hL.1 2 (by decide) (by decide)) ?_
      refine Sx.iconst (v := (nI 5)) dX4_fitsBehind_25 (by decide) ?_
      refine Sx.icmp_eqV (t := 36) dX4_fitsBehind_26 (by decide) (vN (by omega)) (vN (by decide)) (fun c26 => ?_) (fun c26 => ?_)
      · refine Sx.iconst (v := (nI 1)) dX4_fitsBehind_36 (by decide) ?_
        refine Sx.goto (t := 41) dX4_fitsBehind_37 (by decide) ?_
        refine Sx.istore_n (lv' := [(3, .int (nI 1)), (2, .int (nI 1)), (0, .ref 107), (1, .int (nI 45))]) dX4_fitsBehind_41 (by decide) rfl ?_
        refine Sx.iload_n dX4_fitsBehind_42 rfl ?_
        refine Sx.lookup (t := 156) dX4_fitsBehind_43 (by decide) (o := 113) (by decide) (by decide) ?_
        refine Sx.iload_n dX4_fitsBehind_156 rfl ?_
        refine Sx.top (show _ = b2i true from rfl) ?_
        refine Sx.iret dX4_fitsBehind_157 rfl (b2i_n _) ?_
        exact pBB (decide_eq_true ((fit_n (by decide)).mpr (by unfold lmFit'; omega))) h
      · refine Sx.aload_n dX4_fitsBehind_29 rfl ?_
        refine Sx.getfV (v := (nI (M 8))) dX4_fitsBehind_30 lkf_X4_43_4 (o_107 W) (hL.1 8 (by decide) (by decide)) ?_
        refine Sx.if_eqV (t := 40) dX4_fitsBehind_33 (by decide) (vN (by omega)) (fun c33 => ?_) (fun c33 => ?_)
        · refine Sx.iconst (v := (nI 0)) dX4_fitsBehind_40 (by decide) ?_
          refine Sx.istore_n (lv' := [(3, .int (nI 0)), (2, .int (nI 1)), (0, .ref 107), (1, .int (nI 45))]) dX4_fitsBehind_41 (by decide) rfl ?_
          refine Sx.iload_n dX4_fitsBehind_42 rfl ?_
          refine Sx.lookup (t := 156) dX4_fitsBehind_43 (by decide) (o := 113) (by decide) (by decide) ?_
          refine Sx.iload_n dX4_fitsBehind_156 rfl ?_
          refine Sx.top (show _ = b2i true from rfl) ?_
          refine Sx.iret dX4_fitsBehind_157 rfl (b2i_n _) ?_
          exact pBB (decide_eq_true ((fit_n (by decide)).mpr (by unfold lmFit'; omega))) h
        · refine Sx.iconst (v := (nI 1)) dX4_fitsBehind_36 (by decide) ?_
          refine Sx.goto (t := 41) dX4_fitsBehind_37 (by decide) ?_
          refine Sx.istore_n (lv' := [(3, .int (nI 1)), (2, .int (nI 1)), (0, .ref 107), (1, .int (nI 45))]) dX4_fitsBehind_41 (by decide) rfl ?_
          refine Sx.iload_n dX4_fitsBehind_42 rfl ?_
          refine Sx.lookup (t := 156) dX4_fitsBehind_43 (by decide) (o := 113) (by decide) (by decide) ?_
          refine Sx.iload_n dX4_fitsBehind_156 rfl ?_
          refine Sx.top (show _ = b2i true from rfl) ?_
          refine Sx.iret dX4_fitsBehind_157 rfl (b2i_n _) ?_
          exact pBB (decide_eq_true ((fit_n (by decide)).mpr (by unfold lmFit'; omega))) h
set_option maxRecDepth 20000 in
set_option maxHeartbeats 1000000 in
theorem d_fit42 {G : Gt} {l : Launch} {Z : Zt} {R : Rt} {I : It} {L : Lt} {post : Pt'} {M S : Nat → Nat} (W : WF Z R) (hL : LR I M S) (hb : ∀ j, j ≤ 8 → M j < 1000) (h : post (some (.int (b2i (decide (lmFit M 42))))) Z R I L) : Cx G l mX4_fitsBehind 2 0 0 [.ref 107, .int (nI 42)] Z R I L post := by
  refine Cx.of (by decide +kernel) (by exact Nat.le_of_ble_eq_true rfl) ?_
  have b2 := hb 2 (by decide)
  have b4 := hb 4 (by decide)
  have b5 := hb 5 (by decide)
  have b6 := hb 6 (by decide)
  have b7 := hb 7 (by decide)
  have b8 := hb 8 (by decide)
  refine Sx.aload_n dX4_fitsBehind_0 rfl ?_
  refine Sx.getfV (v := (nI (M 2))) dX4_fitsBehind_1 lkf_X4_24_4 (o_107 W) (hL.1 2 (by decide) (by decide)) ?_
  refine Sx.iconst (v := (nI 4)) dX4_fitsBehind_4 (by decide) ?_
  refine Sx.icmp_neV (t := 12) dX4_fitsBehind_5 (by decide) (vN (by omega)) (vN (by decide)) (fun c5 => ?_) (fun c5 => ?_)
  · refine Sx.iconst (v := (nI 0)) dX4_fitsBehind_12 (by decide) ?_
    refine Sx.istore_n (lv' := [(2, .int (nI 0)), (0, .ref 107), (1, .int (nI 42))]) dX4_fitsBehind_13 (by decide) rfl ?_
    refine Sx.aload_n dX4_fitsBehind_14 rfl ?_
    refine Sx.getfV (v := (nI (M 5))) dX4_fitsBehind_15 lkf_X4_33_4 (o_107 W) (hL.1 5 (by decide) (by decide)) ?_
    refine Sx.if_neV (t := 40) dX4_fitsBehind_18 (by decide) (vN (by omega)) (fun c18 => ?_) (fun c18 => ?_)
    · refine Sx.iconst (v := (nI 0)) dX4_fitsBehind_40 (by decide) ?_
      refine Sx.istore_n (lv' := [(3, .int (nI 0)), (2, .int (nI 0)), (0, .ref 107), (1, .int (nI 42))]) dX4_fitsBehind_41 (by decide) rfl ?_
      refine Sx.iload_n dX4_fitsBehind_42 rfl ?_
      refine Sx.lookup (t := 156) dX4_fitsBehind_43 (by decide) (o := 113) (by decide) (by decide) ?_
      refine Sx.iload_n dX4_fitsBehind_156 rfl ?_
      refine Sx.top (show _ = b2i false from rfl) ?_
      refine Sx.iret dX4_fitsBehind_157 rfl (b2i_n _) ?_
      exact pBB (decide_eq_false (fun z => by have z2 := (fit_n (by decide)).mp z; unfold lmFit' at z2; omega)) h
    · refine Sx.aload_n dX4_fitsBehind_21 rfl ?_
      refine Sx.getfV (v := (nI (M 2))) dX4_fitsBehind_22 lkf_X4_24_4 (o_107 W) (hL.1 2 (by decide) (by decide)) ?_
      refine Sx.iconst (v := (nI 5)) dX4_fitsBehind_25 (by decide) ?_
      refine Sx.icmp_eqV (t := 36) dX4_fitsBehind_26 (by decide) (vN (by omega)) (vN (by decide)) (fun c26 => ?_) (fun c26 => ?_)
      · refine Sx.iconst (v := (nI 1)) dX4_fitsBehind_36 (by decide) ?_
        refine Sx.goto (t := 41) dX4_fitsBehind_37 (by decide) ?_
        refine Sx.istore_n (lv' := [(3, .int (nI 1)), (2, .int (nI 0)), (0, .ref 107), (1, .int (nI 42))]) dX4_fitsBehind_41 (by decide) rfl ?_
        refine Sx.iload_n dX4_fitsBehind_42 rfl ?_
        refine Sx.lookup (t := 156) dX4_fitsBehind_43 (by decide) (o := 113) (by decide) (by decide) ?_
        refine Sx.iload_n dX4_fitsBehind_156 rfl ?_
        refine Sx.top (show _ = b2i false from rfl) ?_
        refine Sx.iret dX4_fitsBehind_157 rfl (b2i_n _) ?_
        exact pBB (decide_eq_false (fun z => by have z2 := (fit_n (by decide)).mp z; unfold lmFit' at z2; omega)) h
      · refine Sx.aload_n dX4_fitsBehind_29 rfl ?_
        refine Sx.getfV (v := (nI (M 8))) dX4_fitsBehind_30 lkf_X4_43_4 (o_107 W) (hL.1 8 (by decide) (by decide)) ?_
        refine Sx.if_eqV (t := 40) dX4_fitsBehind_33 (by decide) (vN (by omega)) (fun c33 => ?_) (fun c33 => ?_)
        · refine Sx.iconst (v := (nI 0)) dX4_fitsBehind_40 (by decide) ?_
          refine Sx.istore_n (lv' := [(3, .int (nI 0)), (2, .int (nI 0)), (0, .ref 107), (1, .int (nI 42))]) dX4_fitsBehind_41 (by decide) rfl ?_
          refine Sx.iload_n dX4_fitsBehind_42 rfl ?_
          refine Sx.lookup (t := 156) dX4_fitsBehind_43 (by decide) (o := 113) (by decide) (by decide) ?_
          refine Sx.iload_n dX4_fitsBehind_156 rfl ?_
          refine Sx.top (show _ = b2i false from rfl) ?_
          refine Sx.iret dX4_fitsBehind_157 rfl (b2i_n _) ?_
          exact pBB (decide_eq_false (fun z => by have z2 := (fit_n (by decide)).mp z; unfold lmFit' at z2; omega)) h
        · refine Sx.iconst (v := (nI 1)) dX4_fitsBehind_36 (by decide) ?_
          refine Sx.goto (t := 41) dX4_fitsBehind_37 (by decide) ?_
          refine Sx.istore_n (lv' := [(3, .int (nI 1)), (2, .int (nI 0)), (0, .ref 107), (1, .int (nI 42))]) dX4_fitsBehind_41 (by decide) rfl ?_
          refine Sx.iload_n dX4_fitsBehind_42 rfl ?_
          refine Sx.lookup (t := 156) dX4_fitsBehind_43 (by decide) (o := 113) (by decide) (by decide) ?_
          refine Sx.iload_n dX4_fitsBehind_156 rfl ?_
          refine Sx.top (show _ = b2i false from rfl) ?_
          refine Sx.iret dX4_fitsBehind_157 rfl (b2i_n _) ?_
          exact pBB (decide_eq_false (fun z => by have z2 := (fit_n (by decide)).mp z; unfold lmFit' at z2; omega)) h
  · refine Sx.iconst (v := (nI 1)) dX4_fitsBehind_8 (by decide) ?_
    refine Sx.goto (t := 13) dX4_fitsBehind_9 (by decide) ?_
    refine Sx.istore_n (lv' := [(2, .int (nI 1)), (0, .ref 107), (1, .int (nI 42))]) dX4_fitsBehind_13 (by decide) rfl ?_
    refine Sx.aload_n dX4_fitsBehind_14 rfl ?_
    refine Sx.getfV (v := (nI (M 5))) dX4_fitsBehind_15 lkf_X4_33_4 (o_107 W) (hL.1 5 (by decide) (by decide)) ?_
    refine Sx.if_neV (t := 40) dX4_fitsBehind_18 (by decide) (vN (by omega)) (fun c18 => ?_) (fun c18 => ?_)
    · refine Sx.iconst (v := (nI 0)) dX4_fitsBehind_40 (by decide) ?_
      refine Sx.istore_n (lv' := [(3, .int (nI 0)), (2, .int (nI 1)), (0, .ref 107), (1, .int (nI 42))]) dX4_fitsBehind_41 (by decide) rfl ?_
      refine Sx.iload_n dX4_fitsBehind_42 rfl ?_
      refine Sx.lookup (t := 156) dX4_fitsBehind_43 (by decide) (o := 113) (by decide) (by decide) ?_
      refine Sx.iload_n dX4_fitsBehind_156 rfl ?_
      refine Sx.top (show _ = b2i true from rfl) ?_
      refine Sx.iret dX4_fitsBehind_157 rfl (b2i_n _) ?_
      exact pBB (decide_eq_true ((fit_n (by decide)).mpr (by unfold lmFit'; omega))) h
    · refine Sx.aload_n dX4_fitsBehind_21 rfl ?_
      refine Sx.getfV (v := (nI (M 2))) dX4_fitsBehind_22 lkf_X4_24_4 (o_107 W) (hL.1 2 (by decide) (by decide)) ?_
      refine Sx.iconst (v := (nI 5)) dX4_fitsBehind_25 (by decide) ?_
      refine Sx.icmp_eqV (t := 36) dX4_fitsBehind_26 (by decide) (vN (by omega)) (vN (by decide)) (fun c26 => ?_) (fun c26 => ?_)
      · refine Sx.iconst (v := (nI 1)) dX4_fitsBehind_36 (by decide) ?_
        refine Sx.goto (t := 41) dX4_fitsBehind_37 (by decide) ?_
        refine Sx.istore_n (lv' := [(3, .int (nI 1)), (2, .int (nI 1)), (0, .ref 107), (1, .int (nI 42))]) dX4_fitsBehind_41 (by decide) rfl ?_
        refine Sx.iload_n dX4_fitsBehind_42 rfl ?_
        refine Sx.lookup (t := 156) dX4_fitsBehind_43 (by decide) (o := 113) (by decide) (by decide) ?_
        refine Sx.iload_n dX4_fitsBehind_156 rfl ?_
        refine Sx.top (show _ = b2i true from rfl) ?_
        refine Sx.iret dX4_fitsBehind_157 rfl (b2i_n _) ?_
        exact pBB (decide_eq_true ((fit_n (by decide)).mpr (by unfold lmFit'; omega))) h
      · refine Sx.aload_n dX4_fitsBehind_29 rfl ?_
        refine Sx.getfV (v := (nI (M 8))) dX4_fitsBehind_30 lkf_X4_43_4 (o_107 W) (hL.1 8 (by decide) (by decide)) ?_
        refine Sx.if_eqV (t := 40) dX4_fitsBehind_33 (by decide) (vN (by omega)) (fun c33 => ?_) (fun c33 => ?_)
        · refine Sx.iconst (v := (nI 0)) dX4_fitsBehind_40 (by decide) ?_
          refine Sx.istore_n (lv' := [(3, .int (nI 0)), (2, .int (nI 1)), (0, .ref 107), (1, .int (nI 42))]) dX4_fitsBehind_41 (by decide) rfl ?_
          refine Sx.iload_n dX4_fitsBehind_42 rfl ?_
          refine Sx.lookup (t := 156) dX4_fitsBehind_43 (by decide) (o := 113) (by decide) (by decide) ?_
          refine Sx.iload_n dX4_fitsBehind_156 rfl ?_
          refine Sx.top (show _ = b2i true from rfl) ?_
          refine Sx.iret dX4_fitsBehind_157 rfl (b2i_n _) ?_
          exact pBB (decide_eq_true ((fit_n (by decide)).mpr (by unfold lmFit'; omega))) h
        · refine Sx.iconst (v := (nI 1)) dX4_fitsBehind_36 (by decide) ?_
          refine Sx.goto (t := 41) dX4_fitsBehind_37 (by decide) ?_
          refine Sx.istore_n (lv' := [(3, .int (nI 1)), (2, .int (nI 1)), (0, .ref 107), (1, .int (nI 42))]) dX4_fitsBehind_41 (by decide) rfl ?_
          refine Sx.iload_n dX4_fitsBehind_42 rfl ?_
          refine Sx.lookup (t := 156) dX4_fitsBehind_43 (by decide) (o := 113) (by decide) (by decide) ?_
          refine Sx.iload_n dX4_fitsBehind_156 rfl ?_
          refine Sx.top (show _ = b2i true from rfl) ?_
          refine Sx.iret dX4_fitsBehind_157 rfl (b2i_n _) ?_
          exact pBB (decide_eq_true ((fit_n (by decide)).mpr (by unfold lmFit'; omega))) h
set_option maxRecDepth 20000 in
set_option maxHeartbeats 1000000 in
theorem d_fit47 {G : Gt} {l : Launch} {Z : Zt} {R : Rt} {I : It} {L : Lt} {post : Pt'} {M S : Nat → Nat} (W : WF Z R) (hL : LR I M S) (hb : ∀ j, j ≤ 8 → M j < 1000) (h : post (some (.int (b2i (decide (lmFit M 47))))) Z R I L) : Cx G l mX4_fitsBehind 2 0 0 [.ref 107, .int (nI 47)] Z R I L post := by
  refine Cx.of (by decide +kernel) (by exact Nat.le_of_ble_eq_true rfl) ?_
  have b2 := hb 2 (by decide)
  have b4 := hb 4 (by decide)
  have b5 := hb 5 (by decide)
  have b6 := hb 6 (by decide)
  have b7 := hb 7 (by decide)
  have b8 := hb 8 (by decide)
  refine Sx.aload_n dX4_fitsBehind_0 rfl ?_
  refine Sx.getfV (v := (nI (M 2))) dX4_fitsBehind_1 lkf_X4_24_4 (o_107 W) (hL.1 2 (by decide) (by decide)) ?_
  refine Sx.iconst (v := (nI 4)) dX4_fitsBehind_4 (by decide) ?_
  refine Sx.icmp_neV (t := 12) dX4_fitsBehind_5 (by decide) (vN (by omega)) (vN (by decide)) (fun c5 => ?_) (fun c5 => ?_)
  · refine Sx.iconst (v := (nI 0)) dX4_fitsBehind_12 (by decide) ?_
    refine Sx.istore_n (lv' := [(2, .int (nI 0)), (0, .ref 107), (1, .int (nI 47))]) dX4_fitsBehind_13 (by decide) rfl ?_
    refine Sx.aload_n dX4_fitsBehind_14 rfl ?_
    refine Sx.getfV (v := (nI (M 5))) dX4_fitsBehind_15 lkf_X4_33_4 (o_107 W) (hL.1 5 (by decide) (by decide)) ?_
    refine Sx.if_neV (t := 40) dX4_fitsBehind_18 (by decide) (vN (by omega)) (fun c18 => ?_) (fun c18 => ?_)
    · refine Sx.iconst (v := (nI 0)) dX4_fitsBehind_40 (by decide) ?_
      refine Sx.istore_n (lv' := [(3, .int (nI 0)), (2, .int (nI 0)), (0, .ref 107), (1, .int (nI 47))]) dX4_fitsBehind_41 (by decide) rfl ?_
      refine Sx.iload_n dX4_fitsBehind_42 rfl ?_
      refine Sx.lookup (t := 156) dX4_fitsBehind_43 (by decide) (o := 113) (by decide) (by decide) ?_
      refine Sx.iload_n dX4_fitsBehind_156 rfl ?_
      refine Sx.top (show _ = b2i false from rfl) ?_
      refine Sx.iret dX4_fitsBehind_157 rfl (b2i_n _) ?_
      exact pBB (decide_eq_false (fun z => by have z2 := (fit_n (by decide)).mp z; unfold lmFit' at z2; omega)) h
    · refine Sx.aload_n dX4_fitsBehind_21 rfl ?_
      refine Sx.getfV (v := (nI (M 2))) dX4_fitsBehind_22 lkf_X4_24_4 (o_107 W) (hL.1 2 (by decide) (by decide)) ?_
      refine Sx.iconst (v := (nI 5)) dX4_fitsBehind_25 (by decide) ?_
      refine Sx.icmp_eqV (t := 36) dX4_fitsBehind_26 (by decide) (vN (by omega)) (vN (by decide)) (fun c26 => ?_) (fun c26 => ?_)
      · refine Sx.iconst (v := (nI 1)) dX4_fitsBehind_36 (by decide) ?_
        refine Sx.goto (t := 41) dX4_fitsBehind_37 (by decide) ?_
        refine Sx.istore_n (lv' := [(3, .int (nI 1)), (2, .int (nI 0)), (0, .ref 107), (1, .int (nI 47))]) dX4_fitsBehind_41 (by decide) rfl ?_
        refine Sx.iload_n dX4_fitsBehind_42 rfl ?_
        refine Sx.lookup (t := 156) dX4_fitsBehind_43 (by decide) (o := 113) (by decide) (by decide) ?_
        refine Sx.iload_n dX4_fitsBehind_156 rfl ?_
        refine Sx.top (show _ = b2i false from rfl) ?_
        refine Sx.iret dX4_fitsBehind_157 rfl (b2i_n _) ?_
        exact pBB (decide_eq_false (fun z => by have z2 := (fit_n (by decide)).mp z; unfold lmFit' at z2; omega)) h
      · refine Sx.aload_n dX4_fitsBehind_29 rfl ?_
        refine Sx.getfV (v := (nI (M 8))) dX4_fitsBehind_30 lkf_X4_43_4 (o_107 W) (hL.1 8 (by decide) (by decide)) ?_
        refine Sx.if_eqV (t := 40) dX4_fitsBehind_33 (by decide) (vN (by omega)) (fun c33 => ?_) (fun c33 => ?_)
        · refine Sx.iconst (v := (nI 0)) dX4_fitsBehind_40 (by decide) ?_
          refine Sx.istore_n (lv' := [(3, .int (nI 0)), (2, .int (nI 0)), (0, .ref 107), (1, .int (nI 47))]) dX4_fitsBehind_41 (by decide) rfl ?_
          refine Sx.iload_n dX4_fitsBehind_42 rfl ?_
          refine Sx.lookup (t := 156) dX4_fitsBehind_43 (by decide) (o := 113) (by decide) (by decide) ?_
          refine Sx.iload_n dX4_fitsBehind_156 rfl ?_
          refine Sx.top (show _ = b2i false from rfl) ?_
          refine Sx.iret dX4_fitsBehind_157 rfl (b2i_n _) ?_
          exact pBB (decide_eq_false (fun z => by have z2 := (fit_n (by decide)).mp z; unfold lmFit' at z2; omega)) h
        · refine Sx.iconst (v := (nI 1)) dX4_fitsBehind_36 (by decide) ?_
          refine Sx.goto (t := 41) dX4_fitsBehind_37 (by decide) ?_
          refine Sx.istore_n (lv' := [(3, .int (nI 1)), (2, .int (nI 0)), (0, .ref 107), (1, .int (nI 47))]) dX4_fitsBehind_41 (by decide) rfl ?_
          refine Sx.iload_n dX4_fitsBehind_42 rfl ?_
          refine Sx.lookup (t := 156) dX4_fitsBehind_43 (by decide) (o := 113) (by decide) (by decide) ?_
          refine Sx.iload_n dX4_fitsBehind_156 rfl ?_
          refine Sx.top (show _ = b2i false from rfl) ?_
          refine Sx.iret dX4_fitsBehind_157 rfl (b2i_n _) ?_
          exact pBB (decide_eq_false (fun z => by have z2 := (fit_n (by decide)).mp z; unfold lmFit' at z2; omega)) h
  · refine Sx.iconst (v := (nI 1)) dX4_fitsBehind_8 (by decide) ?_
    refine Sx.goto (t := 13) dX4_fitsBehind_9 (by decide) ?_
    refine Sx.istore_n (lv' := [(2, .int (nI 1)), (0, .ref 107), (1, .int (nI 47))]) dX4_fitsBehind_13 (by decide) rfl ?_
    refine Sx.aload_n dX4_fitsBehind_14 rfl ?_
    refine Sx.getfV (v := (nI (M 5))) dX4_fitsBehind_15 lkf_X4_33_4 (o_107 W) (hL.1 5 (by decide) (by decide)) ?_
    refine Sx.if_neV (t := 40) dX4_fitsBehind_18 (by decide) (vN (by omega)) (fun c18 => ?_) (fun c18 => ?_)
    · refine Sx.iconst (v := (nI 0)) dX4_fitsBehind_40 (by decide) ?_
      refine Sx.istore_n (lv' := [(3, .int (nI 0)), (2, .int (nI 1)), (0, .ref 107), (1, .int (nI 47))]) dX4_fitsBehind_41 (by decide) rfl ?_
      refine Sx.iload_n dX4_fitsBehind_42 rfl ?_
      refine Sx.lookup (t := 156) dX4_fitsBehind_43 (by decide) (o := 113) (by decide) (by decide) ?_
      refine Sx.iload_n dX4_fitsBehind_156 rfl ?_
      refine Sx.top (show _ = b2i true from rfl) ?_
      refine Sx.iret dX4_fitsBehind_157 rfl (b2i_n _) ?_
      exact pBB (decide_eq_true ((fit_n (by decide)).mpr (by unfold lmFit'; omega))) h
    · refine Sx.aload_n dX4_fitsBehind_21 rfl ?_
      refine Sx.getfV (v := (nI (M 2))) dX4_fitsBehind_22 lkf_X4_24_4 (o_107 W) (hL.1 2 (by decide) (by decide)) ?_
      refine Sx.iconst (v := (nI 5)) dX4_fitsBehind_25 (by decide) ?_
      refine Sx.icmp_eqV (t := 36) dX4_fitsBehind_26 (by decide) (vN (by omega)) (vN (by decide)) (fun c26 => ?_) (fun c26 => ?_)
      · refine Sx.iconst (v := (nI 1)) dX4_fitsBehind_36 (by decide) ?_
        refine Sx.goto (t := 41) dX4_fitsBehind_37 (by decide) ?_
        refine Sx.istore_n (lv' := [(3, .int (nI 1)), (2, .int (nI 1)), (0, .ref 107), (1, .int (nI 47))]) dX4_fitsBehind_41 (by decide) rfl ?_
        refine Sx.iload_n dX4_fitsBehind_42 rfl ?_
        refine Sx.lookup (t := 156) dX4_fitsBehind_43 (by decide) (o := 113) (by decide) (by decide) ?_
        refine Sx.iload_n dX4_fitsBehind_156 rfl ?_
        refine Sx.top (show _ = b2i true from rfl) ?_
        refine Sx.iret dX4_fitsBehind_157 rfl (b2i_n _) ?_
        exact pBB (decide_eq_true ((fit_n (by decide)).mpr (by unfold lmFit'; omega))) h
      · refine Sx.aload_n dX4_fitsBehind_29 rfl ?_
        refine Sx.getfV (v := (nI (M 8))) dX4_fitsBehind_30 lkf_X4_43_4 (o_107 W) (hL.1 8 (by decide) (by decide)) ?_
        refine Sx.if_eqV (t := 40) dX4_fitsBehind_33 (by decide) (vN (by omega)) (fun c33 => ?_) (fun c33 => ?_)
        · refine Sx.iconst (v := (nI 0)) dX4_fitsBehind_40 (by decide) ?_
          refine Sx.istore_n (lv' := [(3, .int (nI 0)), (2, .int (nI 1)), (0, .ref 107), (1, .int (nI 47))]) dX4_fitsBehind_41 (by decide) rfl ?_
          refine Sx.iload_n dX4_fitsBehind_42 rfl ?_
          refine Sx.lookup (t := 156) dX4_fitsBehind_43 (by decide) (o := 113) (by decide) (by decide) ?_
          refine Sx.iload_n dX4_fitsBehind_156 rfl ?_
          refine Sx.top (show _ = b2i true from rfl) ?_
          refine Sx.iret dX4_fitsBehind_157 rfl (b2i_n _) ?_
          exact pBB (decide_eq_true ((fit_n (by decide)).mpr (by unfold lmFit'; omega))) h
        · refine Sx.iconst (v := (nI 1)) dX4_fitsBehind_36 (by decide) ?_
          refine Sx.goto (t := 41) dX4_fitsBehind_37 (by decide) ?_
          refine Sx.istore_n (lv' := [(3, .int (nI 1)), (2, .int (nI 1)), (0, .ref 107), (1, .int (nI 47))]) dX4_fitsBehind_41 (by decide) rfl ?_
          refine Sx.iload_n dX4_fitsBehind_42 rfl ?_
          refine Sx.lookup (t := 156) dX4_fitsBehind_43 (by decide) (o := 113) (by decide) (by decide) ?_
          refine Sx.iload_n dX4_fitsBehind_156 rfl ?_
          refine Sx.top (show _ = b2i true from rfl) ?_
          refine Sx.iret dX4_fitsBehind_157 rfl (b2i_n _) ?_
          exact pBB (decide_eq_true ((fit_n (by decide)).mpr (by unfold lmFit'; omega))) h
set_option maxRecDepth 20000 in
set_option maxHeartbeats 1000000 in
theorem d_fit61 {G : Gt} {l : Launch} {Z : Zt} {R : Rt} {I : It} {L : Lt} {post : Pt'} {M S : Nat → Nat} (W : WF Z R) (hL : LR I M S) (hb : ∀ j, j ≤ 8 → M j < 1000) (h : post (some (.int (b2i (decide (lmFit M 61))))) Z R I L) : Cx G l mX4_fitsBehind 2 0 0 [.ref 107, .int (nI 61)] Z R I L post := by
  refine Cx.of (by decide +kernel) (by exact Nat.le_of_ble_eq_true rfl) ?_
  have b2 := hb 2 (by decide)
  have b4 := hb 4 (by decide)
  have b5 := hb 5 (by decide)
  have b6 := hb 6 (by decide)
  have b7 := hb 7 (by decide)
  have b8 := hb 8 (by decide)
  refine Sx.aload_n dX4_fitsBehind_0 rfl ?_
  refine Sx.getfV (v := (nI (M 2))) dX4_fitsBehind_1 lkf_X4_24_4 (o_107 W) (hL.1 2 (by decide) (by decide)) ?_
  refine Sx.iconst (v := (nI 4)) dX4_fitsBehind_4 (by decide) ?_
  refine Sx.icmp_neV (t := 12) dX4_fitsBehind_5 (by decide) (vN (by omega)) (vN (by decide)) (fun c5 => ?_) (fun c5 => ?_)
  · refine Sx.iconst (v := (nI 0)) dX4_fitsBehind_12 (by decide) ?_
    refine Sx.istore_n (lv' := [(2, .int (nI 0)), (0, .ref 107), (1, .int (nI 61))]) dX4_fitsBehind_13 (by decide) rfl ?_
    refine Sx.aload_n dX4_fitsBehind_14 rfl ?_
    refine Sx.getfV (v := (nI (M 5))) dX4_fitsBehind_15 lkf_X4_33_4 (o_107 W) (hL.1 5 (by decide) (by decide)) ?_
    refine Sx.if_neV (t := 40) dX4_fitsBehind_18 (by decide) (vN (by omega)) (fun c18 => ?_) (fun c18 => ?_)
    · refine Sx.iconst (v := (nI 0)) dX4_fitsBehind_40 (by decide) ?_
      refine Sx.istore_n (lv' := [(3, .int (nI 0)), (2, .int (nI 0)), (0, .ref 107), (1, .int (nI 61))]) dX4_fitsBehind_41 (by decide) rfl ?_
      refine Sx.iload_n dX4_fitsBehind_42 rfl ?_
      refine Sx.lookup (t := 158) dX4_fitsBehind_43 (by decide) (o := 115) (by decide) (by decide) ?_
      refine Sx.iload_n dX4_fitsBehind_158 rfl ?_
      refine Sx.if_eqV (t := 187) dX4_fitsBehind_159 (by decide) (vN (by decide)) (fun c159 => ?_) (fun c159 => False.elim (by omega))
      refine Sx.iconst (v := (nI 0)) dX4_fitsBehind_187 (by decide) ?_
      refine Sx.top (show _ = b2i false from rfl) ?_
      refine Sx.iret dX4_fitsBehind_188 rfl (b2i_n _) ?_
      exact pBB (decide_eq_false (fun z => by have z2 := (fit_n (by decide)).mp z; unfold lmFit' at z2; omega)) h
    · refine Sx.aload_n dX4_fitsBehind_21 rfl ?_
      refine Sx.getfV (v := (nI (M 2))) dX4_fitsBehind_22 lkf_X4_24_4 (o_107 W) (hL.1 2 (by decide) (by decide)) ?_
      refine Sx.iconst (v := (nI 5)) dX4_fitsBehind_25 (by decide) ?_
      refine Sx.icmp_eqV (t := 36) dX4_fitsBehind_26 (by decide) (vN (by omega)) (vN (by decide)) (fun c26 => ?_) (fun c26 => ?_)
      · refine Sx.iconst (v := (nI 1)) dX4_fitsBehind_36 (by decide) ?_
        refine Sx.goto (t := 41) dX4_fitsBehind_37 (by decide) ?_
        refine Sx.istore_n (lv' := [(3, .int (nI 1)), (2, .int (nI 0)), (0, .ref 107), (1, .int (nI 61))]) dX4_fitsBehind_41 (by decide) rfl ?_
        refine Sx.iload_n dX4_fitsBehind_42 rfl ?_
        refine Sx.lookup (t := 158) dX4_fitsBehind_43 (by decide) (o := 115) (by decide) (by decide) ?_
        refine Sx.iload_n dX4_fitsBehind_158 rfl ?_
        refine Sx.if_eqV (t := 187) dX4_fitsBehind_159 (by decide) (vN (by decide)) (fun c159 => ?_) (fun c159 => False.elim (by omega))
        refine Sx.iconst (v := (nI 0)) dX4_fitsBehind_187 (by decide) ?_
        refine Sx.top (show _ = b2i false from rfl) ?_
        refine Sx.iret dX4_fitsBehind_188 rfl (b2i_n _) ?_
        exact pBB (decide_eq_false (fun z => by have z2 := (fit_n (by decide)).mp z; unfold lmFit' at z2; omega)) h
      · refine Sx.aload_n dX4_fitsBehind_29 rfl ?_
        refine Sx.getfV (v := (nI (M 8))) dX4_fitsBehind_30 lkf_X4_43_4 (o_107 W) (hL.1 8 (by decide) (by decide)) ?_
        refine Sx.if_eqV (t := 40) dX4_fitsBehind_33 (by decide) (vN (by omega)) (fun c33 => ?_) (fun c33 => ?_)
        · refine Sx.iconst (v := (nI 0)) dX4_fitsBehind_40 (by decide) ?_
          refine Sx.istore_n (lv' := [(3, .int (nI 0)), (2, .int (nI 0)), (0, .ref 107), (1, .int (nI 61))]) dX4_fitsBehind_41 (by decide) rfl ?_
          refine Sx.iload_n dX4_fitsBehind_42 rfl ?_
          refine Sx.lookup (t := 158) dX4_fitsBehind_43 (by decide) (o := 115) (by decide) (by decide) ?_
          refine Sx.iload_n dX4_fitsBehind_158 rfl ?_
          refine Sx.if_eqV (t := 187) dX4_fitsBehind_159 (by decide) (vN (by decide)) (fun c159 => ?_) (fun c159 => False.elim (by omega))
          refine Sx.iconst (v := (nI 0)) dX4_fitsBehind_187 (by decide) ?_
          refine Sx.top (show _ = b2i false from rfl) ?_
          refine Sx.iret dX4_fitsBehind_188 rfl (b2i_n _) ?_
          exact pBB (decide_eq_false (fun z => by have z2 := (fit_n (by decide)).mp z; unfold lmFit' at z2; omega)) h
        · refine Sx.iconst (v := (nI 1)) dX4_fitsBehind_36 (by decide) ?_
          refine Sx.goto (t := 41) dX4_fitsBehind_37 (by decide) ?_
          refine Sx.istore_n (lv' := [(3, .int (nI 1)), (2, .int (nI 0)), (0, .ref 107), (1, .int (nI 61))]) dX4_fitsBehind_41 (by decide) rfl ?_
          refine Sx.iload_n dX4_fitsBehind_42 rfl ?_
          refine Sx.lookup (t := 158) dX4_fitsBehind_43 (by decide) (o := 115) (by decide) (by decide) ?_
          refine Sx.iload_n dX4_fitsBehind_158 rfl ?_
          refine Sx.if_eqV (t := 187) dX4_fitsBehind_159 (by decide) (vN (by decide)) (fun c159 => ?_) (fun c159 => False.elim (by omega))
          refine Sx.iconst (v := (nI 0)) dX4_fitsBehind_187 (by decide) ?_
          refine Sx.top (show _ = b2i false from rfl) ?_
          refine Sx.iret dX4_fitsBehind_188 rfl (b2i_n _) ?_
          exact pBB (decide_eq_false (fun z => by have z2 := (fit_n (by decide)).mp z; unfold lmFit' at z2; omega)) h
  · refine Sx.iconst (v := (nI 1)) dX4_fitsBehind_8 (by decide) ?_
    refine Sx.goto (t := 13) dX4_fitsBehind_9 (by decide) ?_
    refine Sx.istore_n (lv' := [(2, .int (nI 1)), (0, .ref 107), (1, .int (nI 61))]) dX4_fitsBehind_13 (by decide) rfl ?_
    refine Sx.aload_n dX4_fitsBehind_14 rfl ?_
    refine Sx.getfV (v := (nI (M 5))) dX4_fitsBehind_15 lkf_X4_33_4 (o_107 W) (hL.1 5 (by decide) (by decide)) ?_
    refine Sx.if_neV (t := 40) dX4_fitsBehind_18 (by decide) (vN (by omega)) (fun c18 => ?_) (fun c18 => ?_)
    · refine Sx.iconst (v := (nI 0)) dX4_fitsBehind_40 (by decide) ?_
      refine Sx.istore_n (lv' := [(3, .int (nI 0)), (2, .int (nI 1)), (0, .ref 107), (1, .int (nI 61))]) dX4_fitsBehind_41 (by decide) rfl ?_
      refine Sx.iload_n dX4_fitsBehind_42 rfl ?_
      refine Sx.lookup (t := 158) dX4_fitsBehind_43 (by decide) (o := 115) (by decide) (by decide) ?_
      refine Sx.iload_n dX4_fitsBehind_158 rfl ?_
      refine Sx.if_eqV (t := 187) dX4_fitsBehind_159 (by decide) (vN (by decide)) (fun c159 => False.elim (by omega)) (fun c159 => ?_)
      refine Sx.aload_n dX4_fitsBehind_162 rfl ?_
      refine Sx.getfV (v := (nI (M 5))) dX4_fitsBehind_163 lkf_X4_33_4 (o_107 W) (hL.1 5 (by decide) (by decide)) ?_
      refine Sx.if_neV (t := 187) dX4_fitsBehind_166 (by decide) (vN (by omega)) (fun c166 => ?_) (fun c166 => ?_)
      · refine Sx.iconst (v := (nI 0)) dX4_fitsBehind_187 (by decide) ?_
        refine Sx.top (show _ = b2i false from rfl) ?_
        refine Sx.iret dX4_fitsBehind_188 rfl (b2i_n _) ?_
        exact pBB (decide_eq_false (fun z => by have z2 := (fit_n (by decide)).mp z; unfold lmFit' at z2; omega)) h
      · refine Sx.aload_n dX4_fitsBehind_169 rfl ?_
        refine Sx.getfV (v := (nI (M 8))) dX4_fitsBehind_170 lkf_X4_43_4 (o_107 W) (hL.1 8 (by decide) (by decide)) ?_
        refine Sx.if_neV (t := 187) dX4_fitsBehind_173 (by decide) (vN (by omega)) (fun c173 => ?_) (fun c173 => ?_)
        · refine Sx.iconst (v := (nI 0)) dX4_fitsBehind_187 (by decide) ?_
          refine Sx.top (show _ = b2i false from rfl) ?_
          refine Sx.iret dX4_fitsBehind_188 rfl (b2i_n _) ?_
          exact pBB (decide_eq_false (fun z => by have z2 := (fit_n (by decide)).mp z; unfold lmFit' at z2; omega)) h
        · refine Sx.aload_n dX4_fitsBehind_176 rfl ?_
          refine Sx.getfV (v := (nI (M 7))) dX4_fitsBehind_177 lkf_X4_40_4 (o_107 W) (hL.1 7 (by decide) (by decide)) ?_
          refine Sx.if_neV (t := 187) dX4_fitsBehind_180 (by decide) (vN (by omega)) (fun c180 => ?_) (fun c180 => ?_)
          · refine Sx.iconst (v := (nI 0)) dX4_fitsBehind_187 (by decide) ?_
            refine Sx.top (show _ = b2i false from rfl) ?_
            refine Sx.iret dX4_fitsBehind_188 rfl (b2i_n _) ?_
            exact pBB (decide_eq_false (fun z => by have z2 := (fit_n (by decide)).mp z; unfold lmFit' at z2; omega)) h
          · refine Sx.iconst (v := (nI 1)) dX4_fitsBehind_183 (by decide) ?_
            refine Sx.goto (t := 188) dX4_fitsBehind_184 (by decide) ?_
            refine Sx.top (show _ = b2i true from rfl) ?_
            refine Sx.iret dX4_fitsBehind_188 rfl (b2i_n _) ?_
            exact pBB (decide_eq_true ((fit_n (by decide)).mpr (by unfold lmFit'; omega))) h
    · refine Sx.aload_n dX4_fitsBehind_21 rfl ?_
      refine Sx.getfV (v := (nI (M 2))) dX4_fitsBehind_22 lkf_X4_24_4 (o_107 W) (hL.1 2 (by decide) (by decide)) ?_
      refine Sx.iconst (v := (nI 5)) dX4_fitsBehind_25 (by decide) ?_
      refine Sx.icmp_eqV (t := 36) dX4_fitsBehind_26 (by decide) (vN (by omega)) (vN (by decide)) (fun c26 => ?_) (fun c26 => ?_)
      · refine Sx.iconst (v := (nI 1)) dX4_fitsBehind_36 (by decide) ?_
        refine Sx.goto (t := 41) dX4_fitsBehind_37 (by decide) ?_
        refine Sx.istore_n (lv' := [(3, .int (nI 1)), (2, .int (nI 1)), (0, .ref 107), (1, .int (nI 61))]) dX4_fitsBehind_41 (by decide) rfl ?_
        refine Sx.iload_n dX4_fitsBehind_42 rfl ?_
        refine Sx.lookup (t := 158) dX4_fitsBehind_43 (by decide) (o := 115) (by decide) (by decide) ?_
        refine Sx.iload_n dX4_fitsBehind_158 rfl ?_
        refine Sx.if_eqV (t := 187) dX4_fitsBehind_159 (by decide) (vN (by decide)) (fun c159 => False.elim (by omega)) (fun c159 => ?_)
        refine Sx.aload_n dX4_fitsBehind_162 rfl ?_
        refine Sx.getfV (v := (nI (M 5))) dX4_fitsBehind_163 lkf_X4_33_4 (o_107 W) (hL.1 5 (by decide) (by decide)) ?_
        refine Sx.if_neV (t := 187) dX4_fitsBehind_166 (by decide) (vN (by omega)) (fun c166 => ?_) (fun c166 => ?_)
        · refine Sx.iconst (v := (nI 0)) dX4_fitsBehind_187 (by decide) ?_
          refine Sx.top (show _ = b2i false from rfl) ?_
          refine Sx.iret dX4_fitsBehind_188 rfl (b2i_n _) ?_
          exact pBB (decide_eq_false (fun z => by have z2 := (fit_n (by decide)).mp z; unfold lmFit' at z2; omega)) h
        · refine Sx.aload_n dX4_fitsBehind_169 rfl ?_
          refine Sx.getfV (v := (nI (M 8))) dX4_fitsBehind_170 lkf_X4_43_4 (o_107 W) (hL.1 8 (by decide) (by decide)) ?_
          refine Sx.if_neV (t := 187) dX4_fitsBehind_173 (by decide) (vN (by omega)) (fun c173 => ?_) (fun c173 => ?_)
          · refine Sx.iconst (v := (nI 0)) dX4_fitsBehind_187 (by decide) ?_
            refine Sx.top (show _ = b2i false from rfl) ?_
            refine Sx.iret dX4_fitsBehind_188 rfl (b2i_n _) ?_
            exact pBB (decide_eq_false (fun z => by have z2 := (fit_n (by decide)).mp z; unfold lmFit' at z2; omega)) h
          · refine Sx.aload_n dX4_fitsBehind_176 rfl ?_
            refine Sx.getfV (v := (nI (M 7))) dX4_fitsBehind_177 lkf_X4_40_4 (o_107 W) (hL.1 7 (by decide) (by decide)) ?_
            refine Sx.if_neV (t := 187) dX4_fitsBehind_180 (by decide) (vN (by omega)) (fun c180 => ?_) (fun c180 => ?_)
            · refine Sx.iconst (v := (nI 0)) dX4_fitsBehind_187 (by decide) ?_
              refine Sx.top (show _ = b2i false from rfl) ?_
              refine Sx.iret dX4_fitsBehind_188 rfl (b2i_n _) ?_
              exact pBB (decide_eq_false (fun z => by have z2 := (fit_n (by decide)).mp z; unfold lmFit' at z2; omega)) h
            · refine Sx.iconst (v := (nI 1)) dX4_fitsBehind_183 (by decide) ?_
              refine Sx.goto (t := 188) dX4_fitsBehind_184 (by decide) ?_
              refine Sx.top (show _ = b2i true from rfl) ?_
              refine Sx.iret dX4_fitsBehind_188 rfl (b2i_n _) ?_
              exact pBB (decide_eq_true ((fit_n (by decide)).mpr (by unfold lmFit'; omega))) h
      · refine Sx.aload_n dX4_fitsBehind_29 rfl ?_
        refine Sx.getfV (v := (nI (M 8))) dX4_fitsBehind_30 lkf_X4_43_4 (o_107 W) (hL.1 8 (by decide) (by decide)) ?_
        refine Sx.if_eqV (t := 40) dX4_fitsBehind_33 (by decide) (vN (by omega)) (fun c33 => ?_) (fun c33 => ?_)
        · refine Sx.iconst (v := (nI 0)) dX4_fitsBehind_40 (by decide) ?_
          refine Sx.istore_n (lv' := [(3, .int (nI 0)), (2, .int (nI 1)), (0, .ref 107), (1, .int (nI 61))]) dX4_fitsBehind_41 (by decide) rfl ?_
          refine Sx.iload_n dX4_fitsBehind_42 rfl ?_
          refine Sx.lookup (t := 158) dX4_fitsBehind_43 (by decide) (o := 115) (by decide) (by decide) ?_
          refine Sx.iload_n dX4_fitsBehind_158 rfl ?_
          refine Sx.if_eqV (t := 187) dX4_fitsBehind_159 (by decide) (vN (by decide)) (fun c159 => False.elim (by omega)) (fun c159 => ?_)
          refine Sx.aload_n dX4_fitsBehind_162 rfl ?_
          refine Sx.getfV (v := (nI (M 5))) dX4_fitsBehind_163 lkf_X4_33_4 (o_107 W) (hL.1 5 (by decide) (by decide)) ?_
          refine Sx.if_neV (t := 187) dX4_fitsBehind_166 (by decide) (vN (by omega)) (fun c166 => ?_) (fun c166 => ?_)
          · refine Sx.iconst (v := (nI 0)) dX4_fitsBehind_187 (by decide) ?_
            refine Sx.top (show _ = b2i false from rfl) ?_
            refine Sx.iret dX4_fitsBehind_188 rfl (b2i_n _) ?_
            exact pBB (decide_eq_false (fun z => by have z2 := (fit_n (by decide)).mp z; unfold lmFit' at z2; omega)) h
          · refine Sx.aload_n dX4_fitsBehind_169 rfl ?_
            refine Sx.getfV (v := (nI (M 8))) dX4_fitsBehind_170 lkf_X4_43_4 (o_107 W) (hL.1 8 (by decide) (by decide)) ?_
            refine Sx.if_neV (t := 187) dX4_fitsBehind_173 (by decide) (vN (by omega)) (fun c173 => ?_) (fun c173 => ?_)
            · refine Sx.iconst (v := (nI 0)) dX4_fitsBehind_187 (by decide) ?_
              refine Sx.top (show _ = b2i false from rfl) ?_
              refine Sx.iret dX4_fitsBehind_188 rfl (b2i_n _) ?_
              exact pBB (decide_eq_false (fun z => by have z2 := (fit_n (by decide)).mp z; unfold lmFit' at z2; omega)) h
            · refine Sx.aload_n dX4_fitsBehind_176 rfl ?_
              refine Sx.getfV (v := (nI (M 7))) dX4_fitsBehind_177 lkf_X4_40_4 (o_107 W) (hL.1 7 (by decide) (by decide)) ?_
              refine Sx.if_neV (t := 187) dX4_fitsBehind_180 (by decide) (vN (by omega)) (fun c180 => ?_) (fun c180 => ?_)
              · refine Sx.iconst (v := (nI 0)) dX4_fitsBehind_187 (by decide) ?_
                refine Sx.top (show _ = b2i false from rfl) ?_
                refine Sx.iret dX4_fitsBehind_188 rfl (b2i_n _) ?_
                exact pBB (decide_eq_false (fun z => by have z2 := (fit_n (by decide)).mp z; unfold lmFit' at z2; omega)) h
              · refine Sx.iconst (v := (nI 1)) dX4_fitsBehind_183 (by decide) ?_
                refine Sx.goto (t := 188) dX4_fitsBehind_184 (by decide) ?_
                refine Sx.top (show _ = b2i true from rfl) ?_
                refine Sx.iret dX4_fitsBehind_188 rfl (b2i_n _) ?_
                exact pBB (decide_eq_true ((fit_n (by decide)).mpr (by unfold lmFit'; omega))) h
        · refine Sx.iconst (v := (nI 1)) dX4_fitsBehind_36 (by decide) ?_
          refine Sx.goto (t := 41) dX4_fitsBehind_37 (by decide) ?_
          refine Sx.istore_n (lv' := [(3, .int (nI 1)), (2, .int (nI 1)), (0, .ref 107), (1, .int (nI 61))]) dX4_fitsBehind_41 (by decide) rfl ?_
          refine Sx.iload_n dX4_fitsBehind_42 rfl ?_
          refine Sx.lookup (t := 158) dX4_fitsBehind_43 (by decide) (o := 115) (by decide) (by decide) ?_
          refine Sx.iload_n dX4_fitsBehind_158 rfl ?_
          refine Sx.if_eqV (t := 187) dX4_fitsBehind_159 (by decide) (vN (by decide)) (fun c159 => False.elim (by omega)) (fun c159 => ?_)
          refine Sx.aload_n dX4_fitsBehind_162 rfl ?_
          refine Sx.getfV (v := (nI (M 5))) dX4_fitsBehind_163 lkf_X4_33_4 (o_107 W) (hL.1 5 (by decide) (by decide)) ?_
          refine Sx.if_neV (t := 187) dX4_fitsBehind_166 (by decide) (vN (by omega)) (fun c166 => ?_) (fun c166 => ?_)
          · refine Sx.iconst (v := (nI 0)) dX4_fitsBehind_187 (by decide) ?_
            refine Sx.top (show _ = b2i false from rfl) ?_
            refine Sx.iret dX4_fitsBehind_188 rfl (b2i_n _) ?_
            exact pBB (decide_eq_false (fun z => by have z2 := (fit_n (by decide)).mp z; unfold lmFit' at z2; omega)) h
          · refine Sx.aload_n dX4_fitsBehind_169 rfl ?_
            refine Sx.getfV (v := (nI (M 8))) dX4_fitsBehind_170 lkf_X4_43_4 (o_107 W) (hL.1 8 (by decide) (by decide)) ?_
            refine Sx.if_neV (t := 187) dX4_fitsBehind_173 (by decide) (vN (by omega)) (fun c173 => ?_) (fun c173 => ?_)
            · refine Sx.iconst (v := (nI 0)) dX4_fitsBehind_187 (by decide) ?_
              refine Sx.top (show _ = b2i false from rfl) ?_
              refine Sx.iret dX4_fitsBehind_188 rfl (b2i_n _) ?_
              exact pBB (decide_eq_false (fun z => by have z2 := (fit_n (by decide)).mp z; unfold lmFit' at z2; omega)) h
            · refine Sx.aload_n dX4_fitsBehind_176 rfl ?_
              refine Sx.getfV (v := (nI (M 7))) dX4_fitsBehind_177 lkf_X4_40_4 (o_107 W) (hL.1 7 (by decide) (by decide)) ?_
              refine Sx.if_neV (t := 187) dX4_fitsBehind_180 (by decide) (vN (by omega)) (fun c180 => ?_) (fun c180 => ?_)
              · refine Sx.iconst (v := (nI 0)) dX4_fitsBehind_187 (by decide) ?_
                refine Sx.top (show _ = b2i false from rfl) ?_
                refine Sx.iret dX4_fitsBehind_188 rfl (b2i_n _) ?_
                exact pBB (decide_eq_false (fun z => by have z2 := (fit_n (by decide)).mp z; unfold lmFit' at z2; omega)) h
              · refine Sx.iconst (v := (nI 1)) dX4_fitsBehind_183 (by decide) ?_
                refine Sx.goto (t := 188) dX4_fitsBehind_184 (by decide) ?_
                refine Sx.top (show _ = b2i true from rfl) ?_
                refine Sx.iret dX4_fitsBehind_188 rfl (b2i_n _) ?_
                exact pBB (decide_eq_true ((fit_n (by decide)).mpr (by unfold lmFit'; omega))) h
set_option maxRecDepth 20000 in
set_option maxHeartbeats 1000000 in
theorem d_fit60 {G : Gt} {l : Launch} {Z : Zt} {R : Rt} {I : It} {L : Lt} {post : Pt'} {M S : Nat → Nat} (W : WF Z R) (hL : LR I M S) (hb : ∀ j, j ≤ 8 → M j < 1000) (h : post (some (.int (b2i (decide (lmFit M 60))))) Z R I L) : Cx G l mX4_fitsBehind 2 0 0 [.ref 107, .int (nI 60)] Z R I L post := by
  refine Cx.of (by decide +kernel) (by exact Nat.le_of_ble_eq_true rfl) ?_
  have b2 := hb 2 (by decide)
  have b4 := hb 4 (by decide)
  have b5 := hb 5 (by decide)
  have b6 := hb 6 (by decide)
  have b7 := hb 7 (by decide)
  have b8 := hb 8 (by decide)
  refine Sx.aload_n dX4_fitsBehind_0 rfl ?_
  refine Sx.getfV (v := (nI (M 2))) dX4_fitsBehind_1 lkf_X4_24_4 (o_107 W) (hL.1 2 (by decide) (by decide)) ?_
  refine Sx.iconst (v := (nI 4)) dX4_fitsBehind_4 (by decide) ?_
  refine Sx.icmp_neV (t := 12) dX4_fitsBehind_5 (by decide) (vN (by omega)) (vN (by decide)) (fun c5 => ?_) (fun c5 => ?_)
  · refine Sx.iconst (v := (nI 0)) dX4_fitsBehind_12 (by decide) ?_
    refine Sx.istore_n (lv' := [(2, .int (nI 0)), (0, .ref 107), (1, .int (nI 60))]) dX4_fitsBehind_13 (by decide) rfl ?_
    refine Sx.aload_n dX4_fitsBehind_14 rfl ?_
    refine Sx.getfV (v := (nI (M 5))) dX4_fitsBehind_15 lkf_X4_33_4 (o_107 W) (hL.1 5 (by decide) (by decide)) ?_
    refine Sx.if_neV (t := 40) dX4_fitsBehind_18 (by decide) (vN (by omega)) (fun c18 => ?_) (fun c18 => ?_)
    · refine Sx.iconst (v := (nI 0)) dX4_fitsBehind_40 (by decide) ?_
      refine Sx.istore_n (lv' := [(3, .int (nI 0)), (2, .int (nI 0)), (0, .ref 107), (1, .int (nI 60))]) dX4_fitsBehind_41 (by decide) rfl ?_
      refine Sx.iload_n dX4_fitsBehind_42 rfl ?_
      refine Sx.lookup (t := 158) dX4_fitsBehind_43 (by decide) (o := 115) (by decide) (by decide) ?_
      refine Sx.iload_n dX4_fitsBehind_158 rfl ?_
      refine Sx.if_eqV (t := 187) dX4_fitsBehind_159 (by decide) (vN (by decide)) (fun c159 => ?_) (fun c159 => False.elim (by omega))
      refine Sx.iconst (v := (nI 0)) dX4_fitsBehind_187 (by decide) ?_
      refine Sx.top (show _ = b2i false from rfl) ?_
      refine Sx.iret dX4_fitsBehind_188 rfl (b2i_n _) ?_
      exact pBB (decide_eq_false (fun z => by have z2 := (fit_n (by decide)).mp z; unfold lmFit' at z2; omega)) h
    · refine Sx.aload_n dX4_fitsBehind_21 rfl ?_
      refine Sx.getfV (v := (nI (M 2))) dX4_fitsBehind_22 lkf_X4_24_4 (o_107 W) (hL.1 2 (by decide) (by decide)) ?_
      refine Sx.iconst (v := (nI 5)) dX4_fitsBehind_25 (by decide) ?_
      refine Sx.icmp_eqV (t := 36) dX4_fitsBehind_26 (by decide) (vN (by omega)) (vN (by decide)) (fun c26 => ?_) (fun c26 => ?_)
      · refine Sx.iconst (v := (nI 1)) dX4_fitsBehind_36 (by decide) ?_
        refine Sx.goto (t := 41) dX4_fitsBehind_37 (by decide) ?_
        refine Sx.istore_n (lv' := [(3, .int (nI 1)), (2, .int (nI 0)), (0, .ref 107), (1, .int (nI 60))]) dX4_fitsBehind_41 (by decide) rfl ?_
        refine Sx.iload_n dX4_fitsBehind_42 rfl ?_
        refine Sx.lookup (t := 158) dX4_fitsBehind_43 (by decide) (o := 115) (by decide) (by decide) ?_
        refine Sx.iload_n dX4_fitsBehind_158 rfl ?_
        refine Sx.if_eqV (t := 187) dX4_fitsBehind_159 (by decide) (vN (by decide)) (fun c159 => ?_) (fun c159 => False.elim (by omega))
        refine Sx.iconst (v := (nI 0)) dX4_fitsBehind_187 (by decide) ?_
        refine Sx.top (show _ = b2i false from rfl) ?_
        refine Sx.iret dX4_fitsBehind_188 rfl (b2i_n _) ?_
        exact pBB (decide_eq_false (fun z => by have z2 := (fit_n (by decide)).mp z; unfold lmFit' at z2; omega)) h
      · refine Sx.aload_n dX4_fitsBehind_29 rfl ?_
        refine Sx.getfV (v := (nI (M 8))) dX4_fitsBehind_30 lkf_X4_43_4 (o_107 W) (hL.1 8 (by decide) (by decide)) ?_
        refine Sx.if_eqV (t := 40) dX4_fitsBehind_33 (by decide) (vN (by omega)) (fun c33 => ?_) (fun c33 => ?_)
        · refine Sx.iconst (v := (nI 0)) dX4_fitsBehind_40 (by decide) ?_
          refine Sx.istore_n (lv' := [(3, .int (nI 0)), (2, .int (nI 0)), (0, .ref 107), (1, .int (nI 60))]) dX4_fitsBehind_41 (by decide) rfl ?_
          refine Sx.iload_n dX4_fitsBehind_42 rfl ?_
          refine Sx.lookup (t := 158) dX4_fitsBehind_43 (by decide) (o := 115) (by decide) (by decide) ?_
          refine Sx.iload_n dX4_fitsBehind_158 rfl ?_
          refine Sx.if_eqV (t := 187) dX4_fitsBehind_159 (by decide) (vN (by decide)) (fun c159 => ?_) (fun c159 => False.elim (by omega))
          refine Sx.iconst (v := (nI 0)) dX4_fitsBehind_187 (by decide) ?_
          refine Sx.top (show _ = b2i false from rfl) ?_
          refine Sx.iret dX4_fitsBehind_188 rfl (b2i_n _) ?_
          exact pBB (decide_eq_false (fun z => by have z2 := (fit_n (by decide)).mp z; unfold lmFit' at z2; omega)) h
        · refine Sx.iconst (v := (nI 1)) dX4_fitsBehind_36 (by decide) ?_
          refine Sx.goto (t := 41) dX4_fitsBehind_37 (by decide) ?_
          refine Sx.istore_n (lv' := [(3, .int (nI 1)), (2, .int (nI 0)), (0, .ref 107), (1, .int (nI 60))]) dX4_fitsBehind_41 (by decide) rfl ?_
          refine Sx.iload_n dX4_fitsBehind_42 rfl ?_
          refine Sx.lookup (t := 158) dX4_fitsBehind_43 (by decide) (o := 115) (by decide) (by decide) ?_
          refine Sx.iload_n dX4_fitsBehind_158 rfl ?_
          refine Sx.if_eqV (t := 187) dX4_fitsBehind_159 (by decide) (vN (by decide)) (fun c159 => ?_) (fun c159 => False.elim (by omega))
          refine Sx.iconst (v := (nI 0)) dX4_fitsBehind_187 (by decide) ?_
          refine Sx.top (show _ = b2i false from rfl) ?_
          refine Sx.iret dX4_fitsBehind_188 rfl (b2i_n _) ?_
          exact pBB (decide_eq_false (fun z => by have z2 := (fit_n (by decide)).mp z; unfold lmFit' at z2; omega)) h
  · refine Sx.iconst (v := (nI 1)) dX4_fitsBehind_8 (by decide) ?_
    refine Sx.goto (t := 13) dX4_fitsBehind_9 (by decide) ?_
    refine Sx.istore_n (lv' := [(2, .int (nI 1)), (0, .ref 107), (1, .int (nI 60))]) dX4_fitsBehind_13 (by decide) rfl ?_
    refine Sx.aload_n dX4_fitsBehind_14 rfl ?_
    refine Sx.getfV (v := (nI (M 5))) dX4_fitsBehind_15 lkf_X4_33_4 (o_107 W) (hL.1 5 (by decide) (by decide)) ?_
    refine Sx.if_neV (t := 40) dX4_fitsBehind_18 (by decide) (vN (by omega)) (fun c18 => ?_) (fun c18 => ?_)
    · refine Sx.iconst (v := (nI 0)) dX4_fitsBehind_40 (by decide) ?_
      refine Sx.istore_n (lv' := [(3, .int (nI 0)), (2, .int (nI 1)), (0, .ref 107), (1, .int (nI 60))]) dX4_fitsBehind_41 (by decide) rfl ?_
      refine Sx.iload_n dX4_fitsBehind_42 rfl ?_
      refine Sx.lookup (t := 158) dX4_fitsBehind_43 (by decide) (o := 115) (by decide) (by decide) ?_
      refine Sx.iload_n dX4_fitsBehind_158 rfl ?_
      refine Sx.if_eqV (t := 187) dX4_fitsBehind_159 (by decide) (vN (by decide)) (fun c159 => False.elim (by omega)) (fun c159 => ?_)
      refine Sx.aload_n dX4_fitsBehind_162 rfl ?_
      refine Sx.getfV (v := (nI (M 5))) dX4_fitsBehind_163 lkf_X4_33_4 (o_107 W) (hL.1 5 (by decide) (by decide)) ?_
      refine Sx.if_neV (t := 187) dX4_fitsBehind_166 (by decide) (vN (by omega)) (fun c166 => ?_) (fun c166 => ?_)
      · refine Sx.iconst (v := (nI 0)) dX4_fitsBehind_187 (by decide) ?_
        refine Sx.top (show _ = b2i false from rfl) ?_
        refine Sx.iret dX4_fitsBehind_188 rfl (b2i_n _) ?_
        exact pBB (decide_eq_false (fun z => by have z2 := (fit_n (by decide)).mp z; unfold lmFit' at z2; omega)) h
      · refine Sx.aload_n dX4_fitsBehind_169 rfl ?_
        refine Sx.getfV (v := (nI (M 8))) dX4_fitsBehind_170 lkf_X4_43_4 (o_107 W) (hL.1 8 (by decide) (by decide)) ?_
        refine Sx.if_neV (t := 187) dX4_fitsBehind_173 (by decide) (vN (by omega)) (fun c173 => ?_) (fun c173 => ?_)
        · refine Sx.iconst (v := (nI 0)) dX4_fitsBehind_187 (by decide) ?_
          refine Sx.top (show _ = b2i false from rfl) ?_
          refine Sx.iret dX4_fitsBehind_188 rfl (b2i_n _) ?_
          exact pBB (decide_eq_false (fun z => by have z2 := (fit_n (by decide)).mp z; unfold lmFit' at z2; omega)) h
        · refine Sx.aload_n dX4_fitsBehind_176 rfl ?_
          refine Sx.getfV (v := (nI (M 7))) dX4_fitsBehind_177 lkf_X4_40_4 (o_107 W) (hL.1 7 (by decide) (by decide)) ?_
          refine Sx.if_neV (t := 187) dX4_fitsBehind_180 (by decide) (vN (by omega)) (fun c180 => ?_) (fun c180 => ?_)
          · refine Sx.iconst (v := (nI 0)) dX4_fitsBehind_187 (by decide) ?_
            refine Sx.top (show _ = b2i false from rfl) ?_
            refine Sx.iret dX4_fitsBehind_188 rfl (b2i_n _) ?_
            exact pBB (decide_eq_false (fun z => by have z2 := (fit_n (by decide)).mp z; unfold lmFit' at z2; omega)) h
          · refine Sx.iconst (v := (nI 1)) dX4_fitsBehind_183 (by decide) ?_
            refine Sx.goto (t := 188) dX4_fitsBehind_184 (by decide) ?_
            refine Sx.top (show _ = b2i true from rfl) ?_
            refine Sx.iret dX4_fitsBehind_188 rfl (b2i_n _) ?_
            exact pBB (decide_eq_true ((fit_n (by decide)).mpr (by unfold lmFit'; omega))) h
    · refine Sx.aload_n dX4_fitsBehind_21 rfl ?_
      refine Sx.getfV (v := (nI (M 2))) dX4_fitsBehind_22 lkf_X4_24_4 (o_107 W) (hL.1 2 (by decide) (by decide)) ?_
      refine Sx.iconst (v := (nI 5)) dX4_fitsBehind_25 (by decide) ?_
      refine Sx.icmp_eqV (t := 36) dX4_fitsBehind_26 (by decide) (vN (by omega)) (vN (by decide)) (fun c26 => ?_) (fun c26 => ?_)
      · refine Sx.iconst (v := (nI 1)) dX4_fitsBehind_36 (by decide) ?_
        refine Sx.goto (t := 41) dX4_fitsBehind_37 (by decide) ?_
        refine Sx.istore_n (lv' := [(3, .int (nI 1)), (2, .int (nI 1)), (0, .ref 107), (1, .int (nI 60))]) dX4_fitsBehind_41 (by decide) rfl ?_
        refine Sx.iload_n dX4_fitsBehind_42 rfl ?_
        refine Sx.lookup (t := 158) dX4_fitsBehind_43 (by decide) (o := 115) (by decide) (by decide) ?_
        refine Sx.iload_n dX4_fitsBehind_158 rfl ?_
        refine Sx.if_eqV (t := 187) dX4_fitsBehind_159 (by decide) (vN (by decide)) (fun c159 => False.elim (by omega)) (fun c159 => ?_)
        refine Sx.aload_n dX4_fitsBehind_162 rfl ?_
        refine Sx.getfV (v := (nI (M 5))) dX4_fitsBehind_163 lkf_X4_33_4 (o_107 W) (hL.1 5 (by decide) (by decide)) ?_
        refine Sx.if_neV (t := 187) dX4_fitsBehind_166 (by decide) (vN (by omega)) (fun c166 => ?_) (fun c166 => ?_)
        · refine Sx.iconst (v := (nI 0)) dX4_fitsBehind_187 (by decide) ?_
          refine Sx.top (show _ = b2i false from rfl) ?_
          refine Sx.iret dX4_fitsBehind_188 rfl (b2i_n _) ?_
          exact pBB (decide_eq_false (fun z => by have z2 := (fit_n (by decide)).mp z; unfold lmFit' at z2; omega)) h
        · refine Sx.aload_n dX4_fitsBehind_169 rfl ?_
          refine Sx.getfV (v := (nI (M 8))) dX4_fitsBehind_170 lkf_X4_43_4 (o_107 W) (hL.1 8 (by decide) (by decide)) ?_
          refine Sx.if_neV (t := 187) dX4_fitsBehind_173 (by decide) (vN (by omega)) (fun c173 => ?_) (fun c173 => ?_)
          · refine Sx.iconst (v := (nI 0)) dX4_fitsBehind_187 (by decide) ?_
            refine Sx.top (show _ = b2i false from rfl) ?_
            refine Sx.iret dX4_fitsBehind_188 rfl (b2i_n _) ?_
            exact pBB (decide_eq_false (fun z => by have z2 := (fit_n (by decide)).mp z; unfold lmFit' at z2; omega)) h
          · refine Sx.aload_n dX4_fitsBehind_176 rfl ?_
            refine Sx.getfV (v := (nI (M 7))) dX4_fitsBehind_177 lkf_X4_40_4 (o_107 W) (hL.1 7 (by decide) (by decide)) ?_
            refine Sx.if_neV (t := 187) dX4_fitsBehind_180 (by decide) (vN (by omega)) (fun c180 => ?_) (fun c180 => ?_)
            · refine Sx.iconst (v := (nI 0)) dX4_fitsBehind_187 (by decide) ?_
              refine Sx.top (show _ = b2i false from rfl) ?_
              refine Sx.iret dX4_fitsBehind_188 rfl (b2i_n _) ?_
              exact pBB (decide_eq_false (fun z => by have z2 := (fit_n (by decide)).mp z; unfold lmFit' at z2; omega)) h
            · refine Sx.iconst (v := (nI 1)) dX4_fitsBehind_183 (by decide) ?_
              refine Sx.goto (t := 188) dX4_fitsBehind_184 (by decide) ?_
              refine Sx.top (show _ = b2i true from rfl) ?_
              refine Sx.iret dX4_fitsBehind_188 rfl (b2i_n _) ?_
              exact pBB (decide_eq_true ((fit_n (by decide)).mpr (by unfold lmFit'; omega))) h
      · refine Sx.aload_n dX4_fitsBehind_29 rfl ?_
        refine Sx.getfV (v := (nI (M 8))) dX4_fitsBehind_30 lkf_X4_43_4 (o_107 W) (hL.1 8 (by decide) (by decide)) ?_
        refine Sx.if_eqV (t := 40) dX4_fitsBehind_33 (by decide) (vN (by omega)) (fun c33 => ?_) (fun c33 => ?_)
        · refine Sx.iconst (v := (nI 0)) dX4_fitsBehind_40 (by decide) ?_
          refine Sx.istore_n (lv' := [(3, .int (nI 0)), (2, .int (nI 1)), (0, .ref 107), (1, .int (nI 60))]) dX4_fitsBehind_41 (by decide) rfl ?_
          refine Sx.iload_n dX4_fitsBehind_42 rfl ?_
          refine Sx.lookup (t := 158) dX4_fitsBehind_43 (by decide) (o := 115) (by decide) (by decide) ?_
          refine Sx.iload_n dX4_fitsBehind_158 rfl ?_
          refine Sx.if_eqV (t := 187) dX4_fitsBehind_159 (by decide) (vN (by decide)) (fun c159 => False.elim (by omega)) (fun c159 => ?_)
          refine Sx.aload_n dX4_fitsBehind_162 rfl ?_
          refine Sx.getfV (v := (nI (M 5))) dX4_fitsBehind_163 lkf_X4_33_4 (o_107 W) (hL.1 5 (by decide) (by decide)) ?_
          refine Sx.if_neV (t := 187) dX4_fitsBehind_166 (by decide) (vN (by omega)) (fun c166 => ?_) (fun c166 => ?_)
          · refine Sx.iconst (v := (nI 0)) dX4_fitsBehind_187 (by decide) ?_
            refine Sx.top (show _ = b2i false from rfl) ?_
            refine Sx.iret dX4_fitsBehind_188 rfl (b2i_n _) ?_
            exact pBB (decide_eq_false (fun z => by have z2 := (fit_n (by decide)).mp z; unfold lmFit' at z2; omega)) h
          · refine Sx.aload_n dX4_fitsBehind_169 rfl ?_
            refine Sx.getfV (v := (nI (M 8))) dX4_fitsBehind_170 lkf_X4_43_4 (o_107 W) (hL.1 8 (by decide) (by decide)) ?_
            refine Sx.if_neV (t := 187) dX4_fitsBehind_173 (by decide) (vN (by omega)) (fun c173 => ?_) (fun c173 => ?_)
            · refine Sx.iconst (v := (nI 0)) dX4_fitsBehind_187 (by decide) ?_
              refine Sx.top (show _ = b2i false from rfl) ?_
              refine Sx.iret dX4_fitsBehind_188 rfl (b2i_n _) ?_
              exact pBB (decide_eq_false (fun z => by have z2 := (fit_n (by decide)).mp z; unfold lmFit' at z2; omega)) h
            · refine Sx.aload_n dX4_fitsBehind_176 rfl ?_
              refine Sx.getfV (v := (nI (M 7))) dX4_fitsBehind_177 lkf_X4_40_4 (o_107 W) (hL.1 7 (by decide) (by decide)) ?_
              refine Sx.if_neV (t := 187) dX4_fitsBehind_180 (by decide) (vN (by omega)) (fun c180 => ?_) (fun c180 => ?_)
              · refine Sx.iconst (v := (nI 0)) dX4_fitsBehind_187 (by decide) ?_
                refine Sx.top (show _ = b2i false from rfl) ?_
                refine Sx.iret dX4_fitsBehind_188 rfl (b2i_n _) ?_
                exact pBB (decide_eq_false (fun z => by have z2 := (fit_n (by decide)).mp z; unfold lmFit' at z2; omega)) h
              · refine Sx.iconst (v := (nI 1)) dX4_fitsBehind_183 (by decide) ?_
                refine Sx.goto (t := 188) dX4_fitsBehind_184 (by decide) ?_
                refine Sx.top (show _ = b2i true from rfl) ?_
                refine Sx.iret dX4_fitsBehind_188 rfl (b2i_n _) ?_
                exact pBB (decide_eq_true ((fit_n (by decide)).mpr (by unfold lmFit'; omega))) h
        · refine Sx.iconst (v := (nI 1)) dX4_fitsBehind_36 (by decide) ?_
          refine Sx.goto (t := 41) dX4_fitsBehind_37 (by decide) ?_
          refine Sx.istore_n (lv' := [(3, .int (nI 1)), (2, .int (nI 1)), (0, .ref 107), (1, .int (nI 60))]) dX4_fitsBehind_41 (by decide) rfl ?_
          refine Sx.iload_n dX4_fitsBehind_42 rfl ?_
          refine Sx.lookup (t := 158) dX4_fitsBehind_43 (by decide) (o := 115) (by decide) (by decide) ?_
          refine Sx.iload_n dX4_fitsBehind_158 rfl ?_
          refine Sx.if_eqV (t := 187) dX4_fitsBehind_159 (by decide) (vN (by decide)) (fun c159 => False.elim (by omega)) (fun c159 => ?_)
          refine Sx.aload_n dX4_fitsBehind_162 rfl ?_
          refine Sx.getfV (v := (nI (M 5))) dX4_fitsBehind_163 lkf_X4_33_4 (o_107 W) (hL.1 5 (by decide) (by decide)) ?_
          refine Sx.if_neV (t := 187) dX4_fitsBehind_166 (by decide) (vN (by omega)) (fun c166 => ?_) (fun c166 => ?_)
          · refine Sx.iconst (v := (nI 0)) dX4_fitsBehind_187 (by decide) ?_
            refine Sx.top (show _ = b2i false from rfl) ?_
            refine Sx.iret dX4_fitsBehind_188 rfl (b2i_n _) ?_
            exact pBB (decide_eq_false (fun z => by have z2 := (fit_n (by decide)).mp z; unfold lmFit' at z2; omega)) h
          · refine Sx.aload_n dX4_fitsBehind_169 rfl ?_
            refine Sx.getfV (v := (nI (M 8))) dX4_fitsBehind_170 lkf_X4_43_4 (o_107 W) (hL.1 8 (by decide) (by decide)) ?_
            refine Sx.if_neV (t := 187) dX4_fitsBehind_173 (by decide) (vN (by omega)) (fun c173 => ?_) (fun c173 => ?_)
            · refine Sx.iconst (v := (nI 0)) dX4_fitsBehind_187 (by decide) ?_
              refine Sx.top (show _ = b2i false from rfl) ?_
              refine Sx.iret dX4_fitsBehind_188 rfl (b2i_n _) ?_
              exact pBB (decide_eq_false (fun z => by have z2 := (fit_n (by decide)).mp z; unfold lmFit' at z2; omega)) h
            · refine Sx.aload_n dX4_fitsBehind_176 rfl ?_
              refine Sx.getfV (v := (nI (M 7))) dX4_fitsBehind_177 lkf_X4_40_4 (o_107 W) (hL.1 7 (by decide) (by decide)) ?_
              refine Sx.if_neV (t := 187) dX4_fitsBehind_180 (by decide) (vN (by omega)) (fun c180 => ?_) (fun c180 => ?_)
              · refine Sx.iconst (v := (nI 0)) dX4_fitsBehind_187 (by decide) ?_
                refine Sx.top (show _ = b2i false from rfl) ?_
                refine Sx.iret dX4_fitsBehind_188 rfl (b2i_n _) ?_
                exact pBB (decide_eq_false (fun z => by have z2 := (fit_n (by decide)).mp z; unfold lmFit' at z2; omega)) h
              · refine Sx.iconst (v := (nI 1)) dX4_fitsBehind_183 (by decide) ?_
                refine Sx.goto (t := 188) dX4_fitsBehind_184 (by decide) ?_
                refine Sx.top (show _ = b2i true from rfl) ?_
                refine Sx.iret dX4_fitsBehind_188 rfl (b2i_n _) ?_
                exact pBB (decide_eq_true ((fit_n (by decide)).mpr (by unfold lmFit'; omega))) h
set_option maxRecDepth 20000 in
set_option maxHeartbeats 1000000 in
theorem d_fit62 {G : Gt} {l : Launch} {Z : Zt} {R : Rt} {I : It} {L : Lt} {post : Pt'} {M S : Nat → Nat} (W : WF Z R) (hL : LR I M S) (hb : ∀ j, j ≤ 8 → M j < 1000) (h : post (some (.int (b2i (decide (lmFit M 62))))) Z R I L) : Cx G l mX4_fitsBehind 2 0 0 [.ref 107, .int (nI 62)] Z R I L post := by
  refine Cx.of (by decide +kernel) (by exact Nat.le_of_ble_eq_true rfl) ?_
  have b2 := hb 2 (by decide)
  have b4 := hb 4 (by decide)
  have b5 := hb 5 (by decide)
  have b6 := hb 6 (by decide)
  have b7 := hb 7 (by decide)
  have b8 := hb 8 (by decide)
  refine Sx.aload_n dX4_fitsBehind_0 rfl ?_
  refine Sx.getfV (v := (nI (M 2))) dX4_fitsBehind_1 lkf_X4_24_4 (o_107 W) (hL.1 2 (by decide) (by decide)) ?_
  refine Sx.iconst (v := (nI 4)) dX4_fitsBehind_4 (by decide) ?_
  refine Sx.icmp_neV (t := 12) dX4_fitsBehind_5 (by decide) (vN (by omega)) (vN (by decide)) (fun c5 => ?_) (fun c5 => ?_)
  · refine Sx.iconst (v := (nI 0)) dX4_fitsBehind_12 (by decide) ?_
    refine Sx.istore_n (lv' := [(2, .int (nI 0)), (0, .ref 107), (1, .int (nI 62))]) dX4_fitsBehind_13 (by decide) rfl ?_
    refine Sx.aload_n dX4_fitsBehind_14 rfl ?_
    refine Sx.getfV (v := (nI (M 5))) dX4_fitsBehind_15 lkf_X4_33_4 (o_107 W) (hL.1 5 (by decide) (by decide)) ?_
    refine Sx.if_neV (t := 40) dX4_fitsBehind_18 (by decide) (vN (by omega)) (fun c18 => ?_) (fun c18 => ?_)
    · refine Sx.iconst (v := (nI 0)) dX4_fitsBehind_40 (by decide) ?_
      refine Sx.istore_n (lv' := [(3, .int (nI 0)), (2, .int (nI 0)), (0, .ref 107), (1, .int (nI 62))]) dX4_fitsBehind_41 (by decide) rfl ?_
      refine Sx.iload_n dX4_fitsBehind_42 rfl ?_
      refine Sx.lookup (t := 158) dX4_fitsBehind_43 (by decide) (o := 115) (by decide) (by decide) ?_
      refine Sx.iload_n dX4_fitsBehind_158 rfl ?_
      refine Sx.if_eqV (t := 187) dX4_fitsBehind_159 (by decide) (vN (by decide)) (fun c159 => ?_) (fun c159 => False.elim (by omega))
      refine Sx.iconst (v := (nI 0)) dX4_fitsBehind_187 (by decide) ?_
      refine Sx.top (show _ = b2i false from rfl) ?_
      refine Sx.iret dX4_fitsBehind_188 rfl (b2i_n _) ?_
      exact pBB (decide_eq_false (fun z => by have z2 := (fit_n (by decide)).mp z; unfold lmFit' at z2; omega)) h
    · refine Sx.aload_n dX4_fitsBehind_21 rfl ?_
      refine Sx.getfV (v := (nI (M 2))) dX4_fitsBehind_22 lkf_X4_24_4 (o_107 W) (hL.1 2 (by decide) (by decide)) ?_
      refine Sx.iconst (v := (nI 5)) dX4_fitsBehind_25 (by decide) ?_
      refine Sx.icmp_eqV (t := 36) dX4_fitsBehind_26 (by decide) (vN (by omega)) (vN (by decide)) (fun c26 => ?_) (fun c26 => ?_)
      · refine Sx.iconst (v := (nI 1)) dX4_fitsBehind_36 (by decide) ?_
        refine Sx.goto (t := 41) dX4_fitsBehind_37 (by decide) ?_
        refine Sx.istore_n (lv' := [(3, .int (nI 1)), (2, .int (nI 0)), (0, .ref 107), (1, .int (nI 62))]) dX4_fitsBehind_41 (by decide) rfl ?_
        refine Sx.iload_n dX4_fitsBehind_42 rfl ?_
        refine Sx.lookup (t := 158) dX4_fitsBehind_43 (by decide) (o := 115) (by decide) (by decide) ?_
        refine Sx.iload_n dX4_fitsBehind_158 rfl ?_
        refine Sx.if_eqV (t := 187) dX4_fitsBehind_159 (by decide) (vN (by decide)) (fun c159 => ?_) (fun c159 => False.elim (by omega))
        refine Sx.iconst (v := (nI 0)) dX4_fitsBehind_187 (by decide) ?_
        refine Sx.top (show _ = b2i false from rfl) ?_
        refine Sx.iret dX4_fitsBehind_188 rfl (b2i_n _) ?_
        exact pBB (decide_eq_false (fun z => by have z2 := (fit_n (by decide)).mp z; unfold lmFit' at z2; omega)) h
      · refine Sx.aload_n dX4_fitsBehind_29 rfl ?_
        refine Sx.getfV (v := (nI (M 8))) dX4_fitsBehind_30 lkf_X4_43_4 (o_107 W) (hL.1 8 (by decide) (by decide)) ?_
        refine Sx.if_eqV (t := 40) dX4_fitsBehind_33 (by decide) (vN (by omega)) (fun c33 => ?_) (fun c33 => ?_)
        · refine Sx.iconst (v := (nI 0)) dX4_fitsBehind_40 (by decide) ?_
          refine Sx.istore_n (lv' := [(3, .int (nI 0)), (2, .int (nI 0)), (0, .ref 107), (1, .int (nI 62))]) dX4_fitsBehind_41 (by decide) rfl ?_
          refine Sx.iload_n dX4_fitsBehind_42 rfl ?_
          refine Sx.lookup (t := 158) dX4_fitsBehind_43 (by decide) (o := 115) (by decide) (by decide) ?_
          refine Sx.iload_n dX4_fitsBehind_158 rfl ?_
          refine Sx.if_eqV (t := 187) dX4_fitsBehind_159 (by decide) (vN (by decide)) (fun c159 => ?_) (fun c159 => False.elim (by omega))
          refine Sx.iconst (v := (nI 0)) dX4_fitsBehind_187 (by decide) ?_
          refine Sx.top (show _ = b2i false from rfl) ?_
          refine Sx.iret dX4_fitsBehind_188 rfl (b2i_n _) ?_
          exact pBB (decide_eq_false (fun z => by have z2 := (fit_n (by decide)).mp z; unfold lmFit' at z2; omega)) h
        · refine Sx.iconst (v := (nI 1)) dX4_fitsBehind_36 (by decide) ?_
          refine Sx.goto (t := 41) dX4_fitsBehind_37 (by decide) ?_
          refine Sx.istore_n (lv' := [(3, .int (nI 1)), (2, .int (nI 0)), (0, .ref 107), (1, .int (nI 62))]) dX4_fitsBehind_41 (by decide) rfl ?_
          refine Sx.iload_n dX4_fitsBehind_42 rfl ?_
          refine Sx.lookup (t := 158) dX4_fitsBehind_43 (by decide) (o := 115) (by decide) (by decide) ?_
          refine Sx.iload_n dX4_fitsBehind_158 rfl ?_
          refine Sx.if_eqV (t := 187) dX4_fitsBehind_159 (by decide) (vN (by decide)) (fun c159 => ?_) (fun c159 => False.elim (by omega))
          refine Sx.iconst (v := (nI 0)) dX4_fitsBehind_187 (by decide) ?_
          refine Sx.top (show _ = b2i false from rfl) ?_
          refine Sx.iret dX4_fitsBehind_188 rfl (b2i_n _) ?_
          exact pBB (decide_eq_false (fun z => by have z2 := (fit_n (by decide)).mp z; unfold lmFit' at z2; omega)) h
  · refine Sx.iconst (v := (nI 1)) dX4_fitsBehind_8 (by decide) ?_
    refine Sx.goto (t := 13) dX4_fitsBehind_9 (by decide) ?_
    refine Sx.istore_n (lv' := [(2, .int (nI 1)), (0, .ref 107), (1, .int (nI 62))]) dX4_fitsBehind_13 (by decide) rfl ?_
    refine Sx.aload_n dX4_fitsBehind_14 rfl ?_
    refine Sx.getfV (v := (nI (M 5))) dX4_fitsBehind_15 lkf_X4_33_4 (o_107 W) (hL.1 5 (by decide) (by decide)) ?_
    refine Sx.if_neV (t := 40) dX4_fitsBehind_18 (by decide) (vN (by omega)) (fun c18 => ?_) (fun c18 => ?_)
    · refine Sx.iconst (v := (nI 0)) dX4_fitsBehind_40 (by decide) ?_
      refine Sx.istore_n (lv' := [(3, .int (nI 0)), (2, .int (nI 1)), (0, .ref 107), (1, .int (nI 62))]) dX4_fitsBehind_41 (by decide) rfl ?_
      refine Sx.iload_n dX4_fitsBehind_42 rfl ?_
      refine Sx.lookup (t := 158) dX4_fitsBehind_43 (by decide) (o := 115) (by decide) (by decide) ?_
      refine Sx.iload_n dX4_fitsBehind_158 rfl ?_
      refine Sx.if_eqV (t := 187) dX4_fitsBehind_159 (by decide) (vN (by decide)) (fun c159 => False.elim (by omega)) (fun c159 => ?_)
      refine Sx.aload_n dX4_fitsBehind_162 rfl ?_
      refine Sx.getfV (v := (nI (M 5))) dX4_fitsBehind_163 lkf_X4_33_4 (o_107 W) (hL.1 5 (by decide) (by decide)) ?_
      refine Sx.if_neV (t := 187) dX4_fitsBehind_166 (by decide) (vN (by omega)) (fun c166 => ?_) (fun c166 => ?_)
      · refine Sx.iconst (v := (nI 0)) dX4_fitsBehind_187 (by decide) ?_
        refine Sx.top (show _ = b2i false from rfl) ?_
        refine Sx.iret dX4_fitsBehind_188 rfl (b2i_n _) ?_
        exact pBB (decide_eq_false (fun z => by have z2 := (fit_n (by decide)).mp z; unfold lmFit' at z2; omega)) h
      · refine Sx.aload_n dX4_fitsBehind_169 rfl ?_
        refine Sx.getfV (v := (nI (M 8))) dX4_fitsBehind_170 lkf_X4_43_4 (o_107 W) (hL.1 8 (by decide) (by decide)) ?_
        refine Sx.if_neV (t := 187) dX4_fitsBehind_173 (by decide) (vN (by omega)) (fun c173 => ?_) (fun c173 => ?_)
        · refine Sx.iconst (v := (nI 0)) dX4_fitsBehind_187 (by decide) ?_
          refine Sx.top (show _ = b2i false from rfl) ?_
          refine Sx.iret dX4_fitsBehind_188 rfl (b2i_n _) ?_
          exact pBB (decide_eq_false (fun z => by have z2 := (fit_n (by decide)).mp z; unfold lmFit' at z2; omega)) h
        · refine Sx.aload_n dX4_fitsBehind_176 rfl ?_
          refine Sx.getfV (v := (nI (M 7))) dX4_fitsBehind_177 lkf_X4_40_4 (o_107 W) (hL.1 7 (by decide) (by decide)) ?_
          refine Sx.if_neV (t := 187) dX4_fitsBehind_180 (by decide) (vN (by omega)) (fun c180 => ?_) (fun c180 => ?_)
          · refine Sx.iconst (v := (nI 0)) dX4_fitsBehind_187 (by decide) ?_
            refine Sx.top (show _ = b2i false from rfl) ?_
            refine Sx.iret dX4_fitsBehind_188 rfl (b2i_n _) ?_
            exact pBB (decide_eq_false (fun z => by have z2 := (fit_n (by decide)).mp z; unfold lmFit' at z2; omega)) h
          · refine Sx.iconst (v := (nI 1)) dX4_fitsBehind_183 (by decide) ?_
            refine Sx.goto (t := 188) dX4_fitsBehind_184 (by decide) ?_
            refine Sx.top (show _ = b2i true from rfl) ?_
            refine Sx.iret dX4_fitsBehind_188 rfl (b2i_n _) ?_
            exact pBB (decide_eq_true ((fit_n (by decide)).mpr (by unfold lmFit'; omega))) h
    · refine Sx.aload_n dX4_fitsBehind_21 rfl ?_
      refine Sx.getfV (v := (nI (M 2))) dX4_fitsBehind_22 lkf_X4_24_4 (o_107 W) (hL.1 2 (by decide) (by decide)) ?_
      refine Sx.iconst (v := (nI 5)) dX4_fitsBehind_25 (by decide) ?_
      refine Sx.icmp_eqV (t := 36) dX4_fitsBehind_26 (by decide) (vN (by omega)) (vN (by decide)) (fun c26 => ?_) (fun c26 => ?_)
      · refine Sx.iconst (v := (nI 1)) dX4_fitsBehind_36 (by decide) ?_
        refine Sx.goto (t := 41) dX4_fitsBehind_37 (by decide) ?_
        refine Sx.istore_n (lv' := [(3, .int (nI 1)), (2, .int (nI 1)), (0, .ref 107), (1, .int (nI 62))]) dX4_fitsBehind_41 (by decide) rfl ?_
        refine Sx.iload_n dX4_fitsBehind_42 rfl ?_
        refine Sx.lookup (t := 158) dX4_fitsBehind_43 (by decide) (o := 115) (by decide) (by decide) ?_
        refine Sx.iload_n dX4_fitsBehind_158 rfl ?_
        refine Sx.if_eqV (t := 187) dX4_fitsBehind_159 (by decide) (vN (by decide)) (fun c159 => False.elim (by omega)) (fun c159 => ?_)
        refine Sx.aload_n dX4_fitsBehind_162 rfl ?_
        refine Sx.getfV (v := (nI (M 5))) dX4_fitsBehind_163 lkf_X4_33_4 (o_107 W) (hL.1 5 (by decide) (by decide)) ?_
        refine Sx.if_neV (t := 187) dX4_fitsBehind_166 (by decide) (vN (by omega)) (fun c166 => ?_) (fun c166 => ?_)
        · refine Sx.iconst (v := (nI 0)) dX4_fitsBehind_187 (by decide) ?_
          refine Sx.top (show _ = b2i false from rfl) ?_
          refine Sx.iret dX4_fitsBehind_188 rfl (b2i_n _) ?_
          exact pBB (decide_eq_false (fun z => by have z2 := (fit_n (by decide)).mp z; unfold lmFit' at z2; omega)) h
        · refine Sx.aload_n dX4_fitsBehind_169 rfl ?_
          refine Sx.getfV (v := (nI (M 8))) dX4_fitsBehind_170 lkf_X4_43_4 (o_107 W) (hL.1 8 (by decide) (by decide)) ?_
          refine Sx.if_neV (t := 187) dX4_fitsBehind_173 (by decide) (vN (by omega)) (fun c173 => ?_) (fun c173 => ?_)
          · refine Sx.iconst (v := (nI 0)) dX4_fitsBehind_187 (by decide) ?_
            refine Sx.top (show _ = b2i false from rfl) ?_
            refine Sx.iret dX4_fitsBehind_188 rfl (b2i_n _) ?_
            exact pBB (decide_eq_false (fun z => by have z2 := (fit_n (by decide)).mp z; unfold lmFit' at z2; omega)) h
          · refine Sx.aload_n dX4_fitsBehind_176 rfl ?_
            refine Sx.getfV (v := (nI (M 7))) dX4_fitsBehind_177 lkf_X4_40_4 (o_107 W) (hL.1 7 (by decide) (by decide)) ?_
            refine Sx.if_neV (t := 187) dX4_fitsBehind_180 (by decide) (vN (by omega)) (fun c180 => ?_) (fun c180 => ?_)
            · refine Sx.iconst (v := (nI 0)) dX4_fitsBehind_187 (by decide) ?_
              refine Sx.top (show _ = b2i false from rfl) ?_
              refine Sx.iret dX4_fitsBehind_188 rfl (b2i_n _) ?_
              exact pBB (decide_eq_false (fun z => by have z2 := (fit_n (by decide)).mp z; unfold lmFit' at z2; omega)) h
            · refine Sx.iconst (v := (nI 1)) dX4_fitsBehind_183 (by decide) ?_
              refine Sx.goto (t := 188) dX4_fitsBehind_184 (by decide) ?_
              refine Sx.top (show _ = b2i true from rfl) ?_
              refine Sx.iret dX4_fitsBehind_188 rfl (b2i_n _) ?_
              exact pBB (decide_eq_true ((fit_n (by decide)).mpr (by unfold lmFit'; omega))) h
      · refine Sx.aload_n dX4_fitsBehind_29 rfl ?_
        refine Sx.getfV (v := (nI (M 8))) dX4_fitsBehind_30 lkf_X4_43_4 (o_107 W) (hL.1 8 (by decide) (by decide)) ?_
        refine Sx.if_eqV (t := 40) dX4_fitsBehind_33 (by decide) (vN (by omega)) (fun c33 => ?_) (fun c33 => ?_)
        · refine Sx.iconst (v := (nI 0)) dX4_fitsBehind_40 (by decide) ?_
          refine Sx.istore_n (lv' := [(3, .int (nI 0)), (2, .int (nI 1)), (0, .ref 107), (1, .int (nI 62))]) dX4_fitsBehind_41 (by decide) rfl ?_
          refine Sx.iload_n dX4_fitsBehind_42 rfl ?_
          refine Sx.lookup (t := 158) dX4_fitsBehind_43 (by decide) (o := 115) (by decide) (by decide) ?_
          refine Sx.iload_n dX4_fitsBehind_158 rfl ?_
          refine Sx.if_eqV (t := 187) dX4_fitsBehind_159 (by decide) (vN (by decide)) (fun c159 => False.elim (by omega)) (fun c159 => ?_)
          refine Sx.aload_n dX4_fitsBehind_162 rfl ?_
          refine Sx.getfV (v := (nI (M 5))) dX4_fitsBehind_163 lkf_X4_33_4 (o_107 W) (hL.1 5 (by decide) (by decide)) ?_
          refine Sx.if_neV (t := 187) dX4_fitsBehind_166 (by decide) (vN (by omega)) (fun c166 => ?_) (fun c166 => ?_)
          · refine Sx.iconst (v := (nI 0)) dX4_fitsBehind_187 (by decide) ?_
            refine Sx.top (show _ = b2i false from rfl) ?_
            refine Sx.iret dX4_fitsBehind_188 rfl (b2i_n _) ?_
            exact pBB (decide_eq_false (fun z => by have z2 := (fit_n (by decide)).mp z; unfold lmFit' at z2; omega)) h
          · refine Sx.aload_n dX4_fitsBehind_169 rfl ?_
            refine Sx.getfV (v := (nI (M 8))) dX4_fitsBehind_170 lkf_X4_43_4 (o_107 W) (hL.1 8 (by decide) (by decide)) ?_
            refine Sx.if_neV (t := 187) dX4_fitsBehind_173 (by decide) (vN (by omega)) (fun c173 => ?_) (fun c173 => ?_)
            · refine Sx.iconst (v := (nI 0)) dX4_fitsBehind_187 (by decide) ?_
              refine Sx.top (show _ = b2i false from rfl) ?_
              refine Sx.iret dX4_fitsBehind_188 rfl (b2i_n _) ?_
              exact pBB (decide_eq_false (fun z => by have z2 := (fit_n (by decide)).mp z; unfold lmFit' at z2; omega)) h
            · refine Sx.aload_n dX4_fitsBehind_176 rfl ?_
              refine Sx.getfV (v := (nI (M 7))) dX4_fitsBehind_177 lkf_X4_40_4 (o_107 W) (hL.1 7 (by decide) (by decide)) ?_
              refine Sx.if_neV (t := 187) dX4_fitsBehind_180 (by decide) (vN (by omega)) (fun c180 => ?_) (fun c180 => ?_)
              · refine Sx.iconst (v := (nI 0)) dX4_fitsBehind_187 (by decide) ?_
                refine Sx.top (show _ = b2i false from rfl) ?_
                refine Sx.iret dX4_fitsBehind_188 rfl (b2i_n _) ?_
                exact pBB (decide_eq_false (fun z => by have z2 := (fit_n (by decide)).mp z; unfold lmFit' at z2; omega)) h
              · refine Sx.iconst (v := (nI 1)) dX4_fitsBehind_183 (by decide) ?_
                refine Sx.goto (t := 188) dX4_fitsBehind_184 (by decide) ?_
                refine Sx.top (show _ = b2i true from rfl) ?_
                refine Sx.iret dX4_fitsBehind_188 rfl (b2i_n _) ?_
                exact pBB (decide_eq_true ((fit_n (by decide)).mpr (by unfold lmFit'; omega))) h
        · refine Sx.iconst (v := (nI 1)) dX4_fitsBehind_36 (by decide) ?_
          refine Sx.goto (t := 41) dX4_fitsBehind_37 (by decide) ?_
          refine Sx.istore_n (lv' := [(3, .int (nI 1)), (2, .int (nI 1)), (0, .ref 107), (1, .int (nI 62))]) dX4_fitsBehind_41 (by decide) rfl ?_
          refine Sx.iload_n dX4_fitsBehind_42 rfl ?_
          refine Sx.lookup (t := 158) dX4_fitsBehind_43 (by decide) (o := 115) (by decide) (by decide) ?_
          refine Sx.iload_n dX4_fitsBehind_158 rfl ?_
          refine Sx.if_eqV (t := 187) dX4_fitsBehind_159 (by decide) (vN (by decide)) (fun c159 => False.elim (by omega)) (fun c159 => ?_)
          refine Sx.aload_n dX4_fitsBehind_162 rfl ?_
          refine Sx.getfV (v := (nI (M 5))) dX4_fitsBehind_163 lkf_X4_33_4 (o_107 W) (hL.1 5 (by decide) (by decide)) ?_
          refine Sx.if_neV (t := 187) dX4_fitsBehind_166 (by decide) (vN (by omega)) (fun c166 => ?_) (fun c166 => ?_)
          · refine Sx.iconst (v := (nI 0)) dX4_fitsBehind_187 (by decide) ?_
            refine Sx.top (show _ = b2i false from rfl) ?_
            refine Sx.iret dX4_fitsBehind_188 rfl (b2i_n _) ?_
            exact pBB (decide_eq_false (fun z => by have z2 := (fit_n (by decide)).mp z; unfold lmFit' at z2; omega)) h
          · refine Sx.aload_n dX4_fitsBehind_169 rfl ?_
            refine Sx.getfV (v := (nI (M 8))) dX4_fitsBehind_170 lkf_X4_43_4 (o_107 W) (hL.1 8 (by decide) (by decide)) ?_
            refine Sx.if_neV (t := 187) dX4_fitsBehind_173 (by decide) (vN (by omega)) (fun c173 => ?_) (fun c173 => ?_)
            · refine Sx.iconst (v := (nI 0)) dX4_fitsBehind_187 (by decide) ?_
              refine Sx.top (show _ = b2i false from rfl) ?_
              refine Sx.iret dX4_fitsBehind_188 rfl (b2i_n _) ?_
              exact pBB (decide_eq_false (fun z => by have z2 := (fit_n (by decide)).mp z; unfold lmFit' at z2; omega)) h
            · refine Sx.aload_n dX4_fitsBehind_176 rfl ?_
              refine Sx.getfV (v := (nI (M 7))) dX4_fitsBehind_177 lkf_X4_40_4 (o_107 W) (hL.1 7 (by decide) (by decide)) ?_
              refine Sx.if_neV (t := 187) dX4_fitsBehind_180 (by decide) (vN (by omega)) (fun c180 => ?_) (fun c180 => ?_)
              · refine Sx.iconst (v := (nI 0)) dX4_fitsBehind_187 (by decide) ?_
                refine Sx.top (show _ = b2i false from rfl) ?_
                refine Sx.iret dX4_fitsBehind_188 rfl (b2i_n _) ?_
                exact pBB (decide_eq_false (fun z => by have z2 := (fit_n (by decide)).mp z; unfold lmFit' at z2; omega)) h
              · refine Sx.iconst (v := (nI 1)) dX4_fitsBehind_183 (by decide) ?_
                refine Sx.goto (t := 188) dX4_fitsBehind_184 (by decide) ?_
                refine Sx.top (show _ = b2i true from rfl) ?_
                refine Sx.iret dX4_fitsBehind_188 rfl (b2i_n _) ?_
                exact pBB (decide_eq_true ((fit_n (by decide)).mpr (by unfold lmFit'; omega))) h
set_option maxRecDepth 20000 in
set_option maxHeartbeats 1000000 in
theorem d_fit93 {G : Gt} {l : Launch} {Z : Zt} {R : Rt} {I : It} {L : Lt} {post : Pt'} {M S : Nat → Nat} (W : WF Z R) (hL : LR I M S) (hb : ∀ j, j ≤ 8 → M j < 1000) (h : post (some (.int (b2i (decide (lmFit M 93))))) Z R I L) : Cx G l mX4_fitsBehind 2 0 0 [.ref 107, .int (nI 93)] Z R I L post := by
  refine Cx.of (by decide +kernel) (by exact Nat.le_of_ble_eq_true rfl) ?_
  have b2 := hb 2 (by decide)
  have b4 := hb 4 (by decide)
  have b5 := hb 5 (by decide)
  have b6 := hb 6 (by decide)
  have b7 := hb 7 (by decide)
  have b8 := hb 8 (by decide)
  refine Sx.aload_n dX4_fitsBehind_0 rfl ?_
  refine Sx.getfV (v := (nI (M 2))) dX4_fitsBehind_1 lkf_X4_24_4 (o_107 W) (hL.1 2 (by decide) (by decide)) ?_
  refine Sx.iconst (v := (nI 4)) dX4_fitsBehind_4 (by decide) ?_
  refine Sx.icmp_neV (t := 12) dX4_fitsBehind_5 (by decide) (vN (by omega)) (vN (by decide)) (fun c5 => ?_) (fun c5 => ?_)
  · refine Sx.iconst (v := (nI 0)) dX4_fitsBehind_12 (by decide) ?_
    refine Sx.istore_n (lv' := [(2, .int (nI 0)), (0, .ref 107), (1, .int (nI 93))]) dX4_fitsBehind_13 (by decide) rfl ?_
    refine Sx.aload_n dX4_fitsBehind_14 rfl ?_
    refine Sx.getfV (v := (nI (M 5))) dX4_fitsBehind_15 lkf_X4_33_4 (o_107 W) (hL.1 5 (by decide) (by decide)) ?_
    refine Sx.if_neV (t := 40) dX4_fitsBehind_18 (by decide) (vN (by omega)) (fun c18 => ?_) (fun c18 => ?_)
    · refine Sx.iconst (v := (nI 0)) dX4_fitsBehind_40 (by decide) ?_
      refine Sx.istore_n (lv' := [(3, .int (nI 0)), (2, .int (nI 0)), (0, .ref 107), (1, .int (nI 93))]) dX4_fitsBehind_41 (by decide) rfl ?_
      refine Sx.iload_n dX4_fitsBehind_42 rfl ?_
      refine Sx.lookup (t := 189) dX4_fitsBehind_43 (by decide) (o := 146) (by decide) (by decide) ?_
      refine Sx.iload_n dX4_fitsBehind_189 rfl ?_
      refine Sx.if_eqV (t := 204) dX4_fitsBehind_190 (by decide) (vN (by decide)) (fun c190 => ?_) (fun c190 => False.elim (by omega))
      refine Sx.iconst (v := (nI 0)) dX4_fitsBehind_204 (by decide) ?_
      refine Sx.top (show _ = b2i false from rfl) ?_
      refine Sx.iret dX4_fitsBehind_205 rfl (b2i_n _) ?_
      exact pBB (decide_eq_false (fun z => by have z2 := (fit_n (by decide)).mp z; unfold lmFit' at z2; omega)) h
    · refine Sx.aload_n dX4_fitsBehind_21 rfl ?_
      refine Sx.getfV (v := (nI (M 2))) dX4_fitsBehind_22 lkf_X4_24_4 (o_107 W) (hL.1 2 (by decide) (by decide)) ?_
      refine Sx.iconst (v := (nI 5)) dX4_fitsBehind_25 (by decide) ?_
      refine Sx.icmp_eqV (t := 36) dX4_fitsBehind_26 (by decide) (vN (by omega)) (vN (by decide)) (fun c26 => ?_) (fun c26 => ?_)
      · refine Sx.iconst (v := (nI 1)) dX4_fitsBehind_36 (by decide) ?_
        refine Sx.goto (t := 41) dX4_fitsBehind_37 (by decide) ?_
        refine Sx.istore_n (lv' := [(3, .int (nI 1)), (2, .int (nI 0)), (0, .ref 107), (1, .int (nI 93))]) dX4_fitsBehind_41 (by decide) rfl ?_
        refine Sx.iload_n dX4_fitsBehind_42 rfl ?_
        refine Sx.lookup (t := 189) dX4_fitsBehind_43 (by decide) (o := 146) (by decide) (by decide) ?_
        refine Sx.iload_n dX4_fitsBehind_189 rfl ?_
        refine Sx.if_eqV (t := 204) dX4_fitsBehind_190 (by decide) (vN (by decide)) (fun c190 => ?_) (fun c190 => False.elim (by omega))
        refine Sx.iconst (v := (nI 0)) dX4_fitsBehind_204 (by decide) ?_
        refine Sx.top (show _ = b2i false from rfl) ?_
        refine Sx.iret dX4_fitsBehind_205 rfl (b2i_n _) ?_
        exact pBB (decide_eq_false (fun z => by have z2 := (fit_n (by decide)).mp z; unfold lmFit' at z2; omega)) h
      · refine Sx.aload_n dX4_fitsBehind_29 rfl ?_
        refine Sx.getfV (v := (nI (M 8))) dX4_fitsBehind_30 lkf_X4_43_4 (o_107 W) (hL.1 8 (by decide) (by decide)) ?_
        refine Sx.if_eqV (t := 40) dX4_fitsBehind_33 (by decide) (vN (by omega)) (fun c33 => ?_) (fun c33 => ?_)
        · refine Sx.iconst (v := (nI 0)) dX4_fitsBehind_40 (by decide) ?_
          refine Sx.istore_n (lv' := [(3, .int (nI 0)), (2, .int (nI 0)), (0, .ref 107), (1, .int (nI 93))]) dX4_fitsBehind_41 (by decide) rfl ?_
          refine Sx.iload_n dX4_fitsBehind_42 rfl ?_
          refine Sx.lookup (t := 189) dX4_fitsBehind_43 (by decide) (o := 146) (by decide) (by decide) ?_
          refine Sx.iload_n dX4_fitsBehind_189 rfl ?_
          refine Sx.if_eqV (t := 204) dX4_fitsBehind_190 (by decide) (vN (by decide)) (fun c190 => ?_) (fun c190 => False.elim (by omega))
          refine Sx.iconst (v := (nI 0)) dX4_fitsBehind_204 (by decide) ?_
          refine Sx.top (show _ = b2i false from rfl) ?_
          refine Sx.iret dX4_fitsBehind_205 rfl (b2i_n _) ?_
          exact pBB (decide_eq_false (fun z => by have z2 := (fit_n (by decide)).mp z; unfold lmFit' at z2; omega)) h
        · refine Sx.iconst (v := (nI 1)) dX4_fitsBehind_36 (by decide) ?_
          refine Sx.goto (t := 41) dX4_fitsBehind_37 (by decide) ?_
          refine Sx.istore_n (lv' := [(3, .int (nI 1)), (2, .int (nI 0)), (0, .ref 107), (1, .int (nI 93))]) dX4_fitsBehind_41 (by decide) rfl ?_
          refine Sx.iload_n dX4_fitsBehind_42 rfl ?_
          refine Sx.lookup (t := 189) dX4_fitsBehind_43 (by decide) (o := 146) (by decide) (by decide) ?_
          refine Sx.iload_n dX4_fitsBehind_189 rfl ?_
          refine Sx.if_eqV (t := 204) dX4_fitsBehind_190 (by decide) (vN (by decide)) (fun c190 => ?_) (fun c190 => False.elim (by omega))
          refine Sx.iconst (v := (nI 0)) dX4_fitsBehind_204 (by decide) ?_
          refine Sx.top (show _ = b2i false from rfl) ?_
          refine Sx.iret dX4_fitsBehind_205 rfl (b2i_n _) ?_
          exact pBB (decide_eq_false (fun z => by have z2 := (fit_n (by decide)).mp z; unfold lmFit' at z2; omega)) h
  · refine Sx.iconst (v := (nI 1)) dX4_fitsBehind_8 (by decide) ?_
    refine Sx.goto (t := 13) dX4_fitsBehind_9 (by decide) ?_
    refine Sx.istore_n (lv' := [(2, .int (nI 1)), (0, .ref 107), (1, .int (nI 93))]) dX4_fitsBehind_13 (by decide) rfl ?_
    refine Sx.aload_n dX4_fitsBehind_14 rfl ?_
    refine Sx.getfV (v := (nI (M 5))) dX4_fitsBehind_15 lkf_X4_33_4 (o_107 W) (hL.1 5 (by decide) (by decide)) ?_
    refine Sx.if_neV (t := 40) dX4_fitsBehind_18 (by decide) (vN (by omega)) (fun c18 => ?_) (fun c18 => ?_)
    · refine Sx.iconst (v := (nI 0)) dX4_fitsBehind_40 (by decide) ?_
      refine Sx.istore_n (lv' := [(3, .int (nI 0)), (2, .int (nI 1)), (0, .ref 107), (1, .int (nI 93))]) dX4_fitsBehind_41 (by decide) rfl ?_
      refine Sx.iload_n dX4_fitsBehind_42 rfl ?_
      refine Sx.lookup (t := 189) dX4_fitsBehind_43 (by decide) (o := 146) (by decide) (by decide) ?_
      refine Sx.iload_n dX4_fitsBehind_189 rfl ?_
      refine Sx.if_eqV (t := 204) dX4_fitsBehind_190 (by decide) (vN (by decide)) (fun c190 => False.elim (by omega)) (fun c190 => ?_)
      refine Sx.aload_n dX4_fitsBehind_193 rfl ?_
      refine Sx.getfV (v := (nI (M 5))) dX4_fitsBehind_194 lkf_X4_33_4 (o_107 W) (hL.1 5 (by decide) (by decide)) ?_
      refine Sx.if_leV (t := 204) dX4_fitsBehind_197 (by decide) (vN (by omega)) (fun c197 => ?_) (fun c197 => ?_)
      · refine Sx.iconst (v := (nI 0)) dX4_fitsBehind_204 (by decide) ?_
        refine Sx.top (show _ = b2i false from rfl) ?_
        refine Sx.iret dX4_fitsBehind_205 rfl (b2i_n _) ?_
        exact pBB (decide_eq_false (fun z => by have z2 := (fit_n (by decide)).mp z; unfold lmFit' at z2; omega)) h
      · refine Sx.iconst (v := (nI 1)) dX4_fitsBehind_200 (by decide) ?_
        refine Sx.goto (t := 205) dX4_fitsBehind_201 (by decide) ?_
        refine Sx.top (show _ = b2i true from rfl) ?_
        refine Sx.iret dX4_fitsBehind_205 rfl (b2i_n _) ?_
        exact pBB (decide_eq_true ((fit_n (by decide)).mpr (by unfold lmFit'; omega))) h
    · refine Sx.aload_n dX4_fitsBehind_21 rfl ?_
      refine Sx.getfV (v := (nI (M 2))) dX4_fitsBehind_22 lkf_X4_24_4 (o_107 W) (hL.1 2 (by decide) (by decide)) ?_
      refine Sx.iconst (v := (nI 5)) dX4_fitsBehind_25 (by decide) ?_
      refine Sx.icmp_eqV (t := 36) dX4_fitsBehind_26 (by decide) (vN (by omega)) (vN (by decide)) (fun c26 => ?_) (fun c26 => ?_)
      · refine Sx.iconst (v := (nI 1)) dX4_fitsBehind_36 (by decide) ?_
        refine Sx.goto (t := 41) dX4_fitsBehind_37 (by decide) ?_
        refine Sx.istore_n (lv' := [(3, .int (nI 1)), (2, .int (nI 1)), (0, .ref 107), (1, .int (nI 93))]) dX4_fitsBehind_41 (by decide) rfl ?_
        refine Sx.iload_n dX4_fitsBehind_42 rfl ?_
        refine Sx.lookup (t := 189) dX4_fitsBehind_43 (by decide) (o := 146) (by decide) (by decide) ?_
        refine Sx.iload_n dX4_fitsBehind_189 rfl ?_
        refine Sx.if_eqV (t := 204) dX4_fitsBehind_190 (by decide) (vN (by decide)) (fun c190 => False.elim (by omega)) (fun c190 => ?_)
        refine Sx.aload_n dX4_fitsBehind_193 rfl ?_
        refine Sx.getfV (v := (nI (M 5))) dX4_fitsBehind_194 lkf_X4_33_4 (o_107 W) (hL.1 5 (by decide) (by decide)) ?_
        refine Sx.if_leV (t := 204) dX4_fitsBehind_197 (by decide) (vN (by omega)) (fun c197 => ?_) (fun c197 => ?_)
        · refine Sx.iconst (v := (nI 0)) dX4_fitsBehind_204 (by decide) ?_
          refine Sx.top (show _ = b2i false from rfl) ?_
          refine Sx.iret dX4_fitsBehind_205 rfl (b2i_n _) ?_
          exact pBB (decide_eq_false (fun z => by have z2 := (fit_n (by decide)).mp z; unfold lmFit' at z2; omega)) h
        · refine Sx.iconst (v := (nI 1)) dX4_fitsBehind_200 (by decide) ?_
          refine Sx.goto (t := 205) dX4_fitsBehind_201 (by decide) ?_
          refine Sx.top (show _ = b2i true from rfl) ?_
          refine Sx.iret dX4_fitsBehind_205 rfl (b2i_n _) ?_
          exact pBB (decide_eq_true ((fit_n (by decide)).mpr (by unfold lmFit'; omega))) h
      · refine Sx.aload_n dX4_fitsBehind_29 rfl ?_
        refine Sx.getfV (v := (nI (M 8))) dX4_fitsBehind_30 lkf_X4_43_4 (o_107 W) (hL.1 8 (by decide) (by decide)) ?_
        refine Sx.if_eqV (t := 40) dX4_fitsBehind_33 (by decide) (vN (by omega)) (fun c33 => ?_) (fun c33 => ?_)
        · refine Sx.iconst (v := (nI 0)) dX4_fitsBehind_40 (by decide) ?_
          refine Sx.istore_n (lv' := [(3, .int (nI 0)), (2, .int (nI 1)), (0, .ref 107), (1, .int (nI 93))]) dX4_fitsBehind_41 (by decide) rfl ?_
          refine Sx.iload_n dX4_fitsBehind_42 rfl ?_
          refine Sx.lookup (t := 189) dX4_fitsBehind_43 (by decide) (o := 146) (by decide) (by decide) ?_
          refine Sx.iload_n dX4_fitsBehind_189 rfl ?_
          refine Sx.if_eqV (t := 204) dX4_fitsBehind_190 (by decide) (vN (by decide)) (fun c190 => False.elim (by omega)) (fun c190 => ?_)
          refine Sx.aload_n dX4_fitsBehind_193 rfl ?_
          refine Sx.getfV (v := (nI (M 5))) dX4_fitsBehind_194 lkf_X4_33_4 (o_107 W) (hL.1 5 (by decide) (by decide)) ?_
          refine Sx.if_leV (t := 204) dX4_fitsBehind_197 (by decide) (vN (by omega)) (fun c197 => ?_) (fun c197 => ?_)
          · refine Sx.iconst (v := (nI 0)) dX4_fitsBehind_204 (by decide) ?_
            refine Sx.top (show _ = b2i false from rfl) ?_
            refine Sx.iret dX4_fitsBehind_205 rfl (b2i_n _) ?_
            exact pBB (decide_eq_false (fun z => by have z2 := (fit_n (by decide)).mp z; unfold lmFit' at z2; omega)) h
          · refine Sx.iconst (v := (nI 1)) dX4_fitsBehind_200 (by decide) ?_
            refine Sx.goto (t := 205) dX4_fitsBehind_201 (by decide) ?_
            refine Sx.top (show _ = b2i true from rfl) ?_
            refine Sx.iret dX4_fitsBehind_205 rfl (b2i_n _) ?_
            exact pBB (decide_eq_true ((fit_n (by decide)).mpr (by unfold lmFit'; omega))) h
        · refine Sx.iconst (v := (nI 1)) dX4_fitsBehind_36 (by decide) ?_
          refine Sx.goto (t := 41) dX4_fitsBehind_37 (by decide) ?_
          refine Sx.istore_n (lv' := [(3, .int (nI 1)), (2, .int (nI 1)), (0, .ref 107), (1, .int (nI 93))]) dX4_fitsBehind_41 (by decide) rfl ?_
          refine Sx.iload_n dX4_fitsBehind_42 rfl ?_
          refine Sx.lookup (t := 189) dX4_fitsBehind_43 (by decide) (o := 146) (by decide) (by decide) ?_
          refine Sx.iload_n dX4_fitsBehind_189 rfl ?_
          refine Sx.if_eqV (t := 204) dX4_fitsBehind_190 (by decide) (vN (by decide)) (fun c190 => False.elim (by omega)) (fun c190 => ?_)
          refine Sx.aload_n dX4_fitsBehind_193 rfl ?_
          refine Sx.getfV (v := (nI (M 5))) dX4_fitsBehind_194 lkf_X4_33_4 (o_107 W) (hL.1 5 (by decide) (by decide)) ?_
          refine Sx.if_leV (t := 204) dX4_fitsBehind_197 (by decide) (vN (by omega)) (fun c197 => ?_) (fun c197 => ?_)
          · refine Sx.iconst (v := (nI 0)) dX4_fitsBehind_204 (by decide) ?_
            refine Sx.top (show _ = b2i false from rfl) ?_
            refine Sx.iret dX4_fitsBehind_205 rfl (b2i_n _) ?_
            exact pBB (decide_eq_false (fun z => by have z2 := (fit_n (by decide)).mp z; unfold lmFit' at z2; omega)) h
          · refine Sx.iconst (v := (nI 1)) dX4_fitsBehind_200 (by decide) ?_
            refine Sx.goto (t := 205) dX4_fitsBehind_201 (by decide) ?_
            refine Sx.top (show _ = b2i true from rfl) ?_
            refine Sx.iret dX4_fitsBehind_205 rfl (b2i_n _) ?_
            exact pBB (decide_eq_true ((fit_n (by decide)).mpr (by unfold lmFit'; omega))) h
set_option maxRecDepth 20000 in
set_option maxHeartbeats 1000000 in
theorem d_fit38 {G : Gt} {l : Launch} {Z : Zt} {R : Rt} {I : It} {L : Lt} {post : Pt'} {M S : Nat → Nat} (W : WF Z R) (hL : LR I M S) (hb : ∀ j, j ≤ 8 → M j < 1000) (h : post (some (.int (b2i (decide (lmFit M 38))))) Z R I L) : Cx G l mX4_fitsBehind 2 0 0 [.ref 107, .int (nI 38)] Z R I L post := by
  refine Cx.of (by decide +kernel) (by exact Nat.le_of_ble_eq_true rfl) ?_
  have b2 := hb 2 (by decide)
  have b4 := hb 4 (by decide)
  have b5 := hb 5 (by decide)
  have b6 := hb 6 (by decide)
  have b7 := hb 7 (by decide)
  have b8 := hb 8 (by decide)
  refine Sx.aload_n dX4_fitsBehind_0 rfl ?_
  refine Sx.getfV (v := (nI (M 2))) dX4_fitsBehind_1 lkf_X4_24_4 (o_107 W) (hL.1 2 (by decide) (by decide)) ?_
  refine Sx.iconst (v := (nI 4)) dX4_fitsBehind_4 (by decide) ?_
  refine Sx.icmp_neV (t := 12) dX4_fitsBehind_5 (by decide) (vN (by omega)) (vN (by decide)) (fun c5 => ?_) (fun c5 => ?_)
  · refine Sx.iconst (v := (nI 0)) dX4_fitsBehind_12 (by decide) ?_
    refine Sx.istore_n (lv' := [(2, .int (nI 0)), (0, .ref 107), (1, .int (nI 38))]) dX4_fitsBehind_13 (by decide) rfl ?_
    refine Sx.aload_n dX4_fitsBehind_14 rfl ?_
    refine Sx.getfV (v := (nI (M 5))) dX4_fitsBehind_15 lkf_X4_33_4 (o_107 W) (hL.1 5 (by decide) (by decide)) ?_
    refine Sx.if_neV (t := 40) dX4_fitsBehind_18 (by decide) (vN (by omega)) (fun c18 => ?_) (fun c18 => ?_)
    · refine Sx.iconst (v := (nI 0)) dX4_fitsBehind_40 (by decide) ?_
      refine Sx.istore_n (lv' := [(3, .int (nI 0)), (2, .int (nI 0)), (0, .ref 107), (1, .int (nI 38))]) dX4_fitsBehind_41 (by decide) rfl ?_
      refine Sx.iload_n dX4_fitsBehind_42 rfl ?_
      refine Sx.lookup (t := 206) dX4_fitsBehind_43 (by decide) (o := 163) (by decide) (by decide) ?_
      refine Sx.iload_n dX4_fitsBehind_206 rfl ?_
      refine Sx.top (show _ = b2i false from rfl) ?_
      refine Sx.iret dX4_fitsBehind_207 rfl (b2i_n _) ?_
      exact pBB (decide_eq_false (fun z => by have z2 := (fit_n (by decide)).mp z; unfold lmFit' at z2; omega)) h
    · refine Sx.aload_n dX4_fitsBehind_21 rfl ?_
      refine Sx.getfV (v := (nI (M 2))) dX4_fitsBehind_22 lkf_X4_24_4 (o_107 W) (hL.1 2 (by decide) (by decide)) ?_
      refine Sx.iconst (v := (nI 5)) dX4_fitsBehind_25 (by decide) ?_
      refine Sx.icmp_eqV (t := 36) dX4_fitsBehind_26 (by decide) (vN (by omega)) (vN (by decide)) (fun c26 => ?_) (fun c26 => ?_)
      · refine Sx.iconst (v := (nI 1)) dX4_fitsBehind_36 (by decide) ?_
        refine Sx.goto (t := 41) dX4_fitsBehind_37 (by decide) ?_
        refine Sx.istore_n (lv' := [(3, .int (nI 1)), (2, .int (nI 0)), (0, .ref 107), (1, .int (nI 38))]) dX4_fitsBehind_41 (by decide) rfl ?_
        refine Sx.iload_n dX4_fitsBehind_42 rfl ?_
        refine Sx.lookup (t := 206) dX4_fitsBehind_43 (by decide) (o := 163) (by decide) (by decide) ?_
        refine Sx.iload_n dX4_fitsBehind_206 rfl ?_
        refine Sx.top (show _ = b2i true from rfl) ?_
        refine Sx.iret dX4_fitsBehind_207 rfl (b2i_n _) ?_
        exact pBB (decide_eq_true ((fit_n (by decide)).mpr (by unfold lmFit'; omega))) h
      · refine Sx.aload_n dX4_fitsBehind_29 rfl ?_
        refine Sx.getfV (v := (nI (M 8))) dX4_fitsBehind_30 lkf_X4_43_4 (o_107 W) (hL.1 8 (by decide) (by decide)) ?_
        refine Sx.if_eqV (t := 40) dX4_fitsBehind_33 (by decide) (vN (by omega)) (fun c33 => ?_) (fun c33 => ?_)
        · refine Sx.iconst (v := (nI 0)) dX4_fitsBehind_40 (by decide) ?_
          refine Sx.istore_n (lv' := [(3, .int (nI 0)), (2, .int (nI 0)), (0, .ref 107), (1, .int (nI 38))]) dX4_fitsBehind_41 (by decide) rfl ?_
          refine Sx.iload_n dX4_fitsBehind_42 rfl ?_
          refine Sx.lookup (t := 206) dX4_fitsBehind_43 (by decide) (o := 163) (by decide) (by decide) ?_
          refine Sx.iload_n dX4_fitsBehind_206 rfl ?_
          refine Sx.top (show _ = b2i false from rfl) ?_
          refine Sx.iret dX4_fitsBehind_207 rfl (b2i_n _) ?_
          exact pBB (decide_eq_false (fun z => by have z2 := (fit_n (by decide)).mp z; unfold lmFit' at z2; omega)) h
        · refine Sx.iconst (v := (nI 1)) dX4_fitsBehind_36 (by decide) ?_
          refine Sx.goto (t := 41) dX4_fitsBehind_37 (by decide) ?_
          refine Sx.istore_n (lv' := [(3, .int (nI 1)), (2, .int (nI 0)), (0, .ref 107), (1, .int (nI 38))]) dX4_fitsBehind_41 (by decide) rfl ?_
          refine Sx.iload_n dX4_fitsBehind_42 rfl ?_
          refine Sx.lookup (t := 206) dX4_fitsBehind_43 (by decide) (o := 163) (by decide) (by decide) ?_
          refine Sx.iload_n dX4_fitsBehind_206 rfl ?_
          refine Sx.top (show _ = b2i true from rfl) ?_
          refine Sx.iret dX4_fitsBehind_207 rfl (b2i_n _) ?_
          exact pBB (decide_eq_true ((fit_n (by decide)).mpr (by unfold lmFit'; omega))) h
  · refine Sx.iconst (v := (nI 1)) dX4_fitsBehind_8 (by decide) ?_
    refine Sx.goto (t := 13) dX4_fitsBehind_9 (by decide) ?_
    refine Sx.istore_n (lv' := [(2, .int (nI 1)), (0, .ref 107), (1, .int (nI 38))]) dX4_fitsBehind_13 (by decide) rfl ?_
    refine Sx.aload_n dX4_fitsBehind_14 rfl ?_
    refine Sx.getfV (v := (nI (M 5))) dX4_fitsBehind_15 lkf_X4_33_4 (o_107 W) (hL.1 5 (by decide) (by decide)) ?_
    refine Sx.if_neV (t := 40) dX4_fitsBehind_18 (by decide) (vN (by omega)) (fun c18 => ?_) (fun c18 => ?_)
    · refine Sx.iconst (v := (nI 0)) dX4_fitsBehind_40 (by decide) ?_
      refine Sx.istore_n (lv' := [(3, .int (nI 0)), (2, .int (nI 1)), (0, .ref 107), (1, .int (nI 38))]) dX4_fitsBehind_41 (by decide) rfl ?_
      refine Sx.iload_n dX4_fitsBehind_42 rfl ?_
      refine Sx.lookup (t := 206) dX4_fitsBehind_43 (by decide) (o := 163) (by decide) (by decide) ?_
      refine Sx.iload_n dX4_fitsBehind_206 rfl ?_
      refine Sx.top (show _ = b2i false from rfl) ?_
      refine Sx.iret dX4_fitsBehind_207 rfl (b2i_n _) ?_
      exact pBB (decide_eq_false (fun z => by have z2 := (fit_n (by decide)).mp z; unfold lmFit' at z2; omega)) h
    · refine Sx.aload_n dX4_fitsBehind_21 rfl ?_
      refine Sx.getfV (v := (nI (M 2))) dX4_fitsBehind_22 lkf_X4_24_4 (o_107 W) (hL.1 2 (by decide) (by decide)) ?_
      refine Sx.iconst (v := (nI 5)) dX4_fitsBehind_25 (by decide) ?_
      refine Sx.icmp_eqV (t := 36) dX4_fitsBehind_26 (by decide) (vN (by omega)) (vN (by decide)) (fun c26 => ?_) (fun c26 => ?_)
      · refine Sx.iconst (v := (nI 1)) dX4_fitsBehind_36 (by decide) ?_
        refine Sx.goto (t := 41) dX4_fitsBehind_37 (by decide) ?_
        refine Sx.istore_n (lv' := [(3, .int (nI 1)), (2, .int (nI 1)), (0, .ref 107), (1, .int (nI 38))]) dX4_fitsBehind_41 (by decide) rfl ?_
        refine Sx.iload_n dX4_fitsBehind_42 rfl ?_
        refine Sx.lookup (t := 206) dX4_fitsBehind_43 (by decide) (o := 163) (by decide) (by decide) ?_
        refine Sx.iload_n dX4_fitsBehind_206 rfl ?_
        refine Sx.top (show _ = b2i true from rfl) ?_
        refine Sx.iret dX4_fitsBehind_207 rfl (b2i_n _) ?_
        exact pBB (decide_eq_true ((fit_n (by decide)).mpr (by unfold lmFit'; omega))) h
      · refine Sx.aload_n dX4_fitsBehind_29 rfl ?_
        refine Sx.getfV (v := (nI (M 8))) dX4_fitsBehind_30 lkf_X4_43_4 (o_107 W) (hL.1 8 (by decide) (by decide)) ?_
        refine Sx.if_eqV (t := 40) dX4_fitsBehind_33 (by decide) (vN (by omega)) (fun c33 => ?_) (fun c33 => ?_)
        · refine Sx.iconst (v := (nI 0)) dX4_fitsBehind_40 (by decide) ?_
          refine Sx.istore_n (lv' := [(3, .int (nI 0)), (2, .int (nI 1)), (0, .ref 107), (1, .int (nI 38))]) dX4_fitsBehind_41 (by decide) rfl ?_
          refine Sx.iload_n dX4_fitsBehind_42 rfl ?_
          refine Sx.lookup (t := 206) dX4_fitsBehind_43 (by decide) (o := 163) (by decide) (by decide) ?_
          refine Sx.iload_n dX4_fitsBehind_206 rfl ?_
          refine Sx.top (show _ = b2i false from rfl) ?_
          refine Sx.iret dX4_fitsBehind_207 rfl (b2i_n _) ?_
          exact pBB (decide_eq_false (fun z => by have z2 := (fit_n (by decide)).mp z; unfold lmFit' at z2; omega)) h
        · refine Sx.iconst (v := (nI 1)) dX4_fitsBehind_36 (by decide) ?_
          refine Sx.goto (t := 41) dX4_fitsBehind_37 (by decide) ?_
          refine Sx.istore_n (lv' := [(3, .int (nI 1)), (2, .int (nI 1)), (0, .ref 107), (1, .int (nI 38))]) dX4_fitsBehind_41 (by decide) rfl ?_
          refine Sx.iload_n dX4_fitsBehind_42 rfl ?_
          refine Sx.lookup (t := 206) dX4_fitsBehind_43 (by decide) (o := 163) (by decide) (by decide) ?_
          refine Sx.iload_n dX4_fitsBehind_206 rfl ?_
          refine Sx.top (show _ = b2i true from rfl) ?_
          refine Sx.iret dX4_fitsBehind_207 rfl (b2i_n _) ?_
          exact pBB (decide_eq_true ((fit_n (by decide)).mpr (by unfold lmFit'; omega))) h
set_option maxRecDepth 20000 in
set_option maxHeartbeats 1000000 in
theorem d_fit124 {G : Gt} {l : Launch} {Z : Zt} {R : Rt} {I : It} {L : Lt} {post : Pt'} {M S : Nat → Nat} (W : WF Z R) (hL : LR I M S) (hb : ∀ j, j ≤ 8 → M j < 1000) (h : post (some (.int (b2i (decide (lmFit M 124))))) Z R I L) : Cx G l mX4_fitsBehind 2 0 0 [.ref 107, .int (nI 124)] Z R I L post := by
  refine Cx.of (by decide +kernel) (by exact Nat.le_of_ble_eq_true rfl) ?_
  have b2 := hb 2 (by decide)
  have b4 := hb 4 (by decide)
  have b5 := hb 5 (by decide)
  have b6 := hb 6 (by decide)
  have b7 := hb 7 (by decide)
  have b8 := hb 8 (by decide)
  refine Sx.aload_n dX4_fitsBehind_0 rfl ?_
  refine Sx.getfV (v := (nI (M 2))) dX4_fitsBehind_1 lkf_X4_24_4 (o_107 W) (hL.1 2 (by decide) (by decide)) ?_
  refine Sx.iconst (v := (nI 4)) dX4_fitsBehind_4 (by decide) ?_
  refine Sx.icmp_neV (t := 12) dX4_fitsBehind_5 (by decide) (vN (by omega)) (vN (by decide)) (fun c5 => ?_) (fun c5 => ?_)
  · refine Sx.iconst (v := (nI 0)) dX4_fitsBehind_12 (by decide) ?_
    refine Sx.istore_n (lv' := [(2, .int (nI 0)), (0, .ref 107), (1, .int (nI 124))]) dX4_fitsBehind_13 (by decide) rfl ?_
    refine Sx.aload_n dX4_fitsBehind_14 rfl ?_
    refine Sx.getfV (v := (nI (M 5))) dX4_fitsBehind_15 lkf_X4_33_4 (o_107 W) (hL.1 5 (by decide) (by decide)) ?_
    refine Sx.if_neV (t := 40) dX4_fitsBehind_18 (by decide) (vN (by omega)) (fun c18 => ?_) (fun c18 => ?_)
    · refine Sx.iconst (v := (nI 0)) dX4_fitsBehind_40 (by decide) ?_
      refine Sx.istore_n (lv' := [(3, .int (nI 0)), (2, .int (nI 0)), (0, .ref 107), (1, .int (nI 124))]) dX4_fitsBehind_41 (by decide) rfl ?_
      refine Sx.iload_n dX4_fitsBehind_42 rfl ?_
      refine Sx.lookup (t := 206) dX4_fitsBehind_43 (by decide) (o := 163) (by decide) (by decide) ?_
      refine Sx.iload_n dX4_fitsBehind_206 rfl ?_
      refine Sx.top (show _ = b2i false from rfl) ?_
      refine Sx.iret dX4_fitsBehind_207 rfl (b2i_n _) ?_
      exact pBB (decide_eq_false (fun z => by have z2 := (fit_n (by decide)).mp z; unfold lmFit' at z2; omega)) h
    · refine Sx.aload_n dX4_fitsBehind_21 rfl ?_
      refine Sx.getfV (v := (nI (M 2))) dX4_fitsBehind_22 lkf_X4_24_4 (o_107 W) (hL.1 2 (by decide) (by decide)) ?_
      refine Sx.iconst (v := (nI 5)) dX4_fitsBehind_25 (by decide) ?_
      refine Sx.icmp_eqV (t := 36) dX4_fitsBehind_26 (by decide) (vN (by omega)) (vN (by decide)) (fun c26 => ?_) (fun c26 => ?_)
      · refine Sx.iconst (v := (nI 1)) dX4_fitsBehind_36 (by decide) ?_
        refine Sx.goto (t := 41) dX4_fitsBehind_37 (by decide) ?_
        refine Sx.istore_n (lv' := [(3, .int (nI 1)), (2, .int (nI 0)), (0, .ref 107), (1, .int (nI 124))]) dX4_fitsBehind_41 (by decide) rfl ?_
        refine Sx.iload_n dX4_fitsBehind_42 rfl ?_
        refine Sx.lookup (t := 206) dX4_fitsBehind_43 (by decide) (o := 163) (by decide) (by decide) ?_
        refine Sx.iload_n dX4_fitsBehind_206 rfl ?_
        refine Sx.top (show _ = b2i true from rfl) ?_
        refine Sx.iret dX4_fitsBehind_207 rfl (b2i_n _) ?_
        exact pBB (decide_eq_true ((fit_n (by decide)).mpr (by unfold lmFit'; omega))) h
      · refine Sx.aload_n dX4_fitsBehind_29 rfl ?_
        refine Sx.getfV (v := (nI (M 8))) dX4_fitsBehind_30 lkf_X4_43_4 (o_107 W) (hL.1 8 (by decide) (by decide)) ?_
        refine Sx.if_eqV (t := 40) dX4_fitsBehind_33 (by decide) (vN (by omega)) (fun c33 => ?_) (fun c33 => ?_)
        · refine Sx.iconst (v := (nI 0)) dX4_fitsBehind_40 (by decide) ?_
          refine Sx.istore_n (lv' := [(3, .int (nI 0)), (2, .int (nI 0)), (0, .ref 107), (1, .int (nI 124))]) dX4_fitsBehind_41 (by decide) rfl ?_
          refine Sx.iload_n dX4_fitsBehind_42 rfl ?_
          refine Sx.lookup (t := 206) dX4_fitsBehind_43 (by decide) (o := 163) (by decide) (by decide) ?_
          refine Sx.iload_n dX4_fitsBehind_206 rfl ?_
          refine Sx.top (show _ = b2i false from rfl) ?_
          refine Sx.iret dX4_fitsBehind_207 rfl (b2i_n _) ?_
          exact pBB (decide_eq_false (fun z => by have z2 := (fit_n (by decide)).mp z; unfold lmFit' at z2; omega)) h
        · refine Sx.iconst (v := (nI 1)) dX4_fitsBehind_36 (by decide) ?_
          refine Sx.goto (t := 41) dX4_fitsBehind_37 (by decide) ?_
          refine Sx.istore_n (lv' := [(3, .int (nI 1)), (2, .int (nI 0)), (0, .ref 107), (1, .int (nI 124))]) dX4_fitsBehind_41 (by decide) rfl ?_
          refine Sx.iload_n dX4_fitsBehind_42 rfl ?_
          refine Sx.lookup (t := 206) dX4_fitsBehind_43 (by decide) (o := 163) (by decide) (by decide) ?_
          refine Sx.iload_n dX4_fitsBehind_206 rfl ?_
          refine Sx.top (show _ = b2i true from rfl) ?_
          refine Sx.iret dX4_fitsBehind_207 rfl (b2i_n _) ?_
          exact pBB (decide_eq_true ((fit_n (by decide)).mpr (by unfold lmFit'; omega))) h
  · refine Sx.iconst (v := (nI 1)) dX4_fitsBehind_8 (by decide) ?_
    refine Sx.goto (t := 13) dX4_fitsBehind_9 (by decide) ?_
    refine Sx.istore_n (lv' := [(2, .int (nI 1)), (0, .ref 107), (1, .int (nI 124))]) dX4_fitsBehind_13 (by decide) rfl ?_
    refine Sx.aload_n dX4_fitsBehind_14 rfl ?_
    refine Sx.getfV (v := (nI (M 5))) dX4_fitsBehind_15 lkf_X4_33_4 (o_107 W) (hL.1 5 (by decide) (by decide)) ?_
    refine Sx.if_neV (t := 40) dX4_fitsBehind_18 (by decide) (vN (by omega)) (fun c18 => ?_) (fun c18 => ?_)
    · refine Sx.iconst (v := (nI 0)) dX4_fitsBehind_40 (by decide) ?_
      refine Sx.istore_n (lv' := [(3, .int (nI 0)), (2, .int (nI 1)), (0, .ref 107), (1, .int (nI 124))]) dX4_fitsBehind_41 (by decide) rfl ?_
      refine Sx.iload_n dX4_fitsBehind_42 rfl ?_
      refine Sx.lookup (t := 206) dX4_fitsBehind_43 (by decide) (o := 163) (by decide) (by decide) ?_
      refine Sx.iload_n dX4_fitsBehind_206 rfl ?_
      refine Sx.top (show _ = b2i false from rfl) ?_
      refine Sx.iret dX4_fitsBehind_207 rfl (b2i_n _) ?_
      exact pBB (decide_eq_false (fun z => by have z2 := (fit_n (by decide)).mp z; unfold lmFit' at z2; omega)) h
    · refine Sx.aload_n dX4_fitsBehind_21 rfl ?_
      refine Sx.getfV (v := (nI (M 2))) dX4_fitsBehind_22 lkf_X4_24_4 (o_107 W) (hL.1 2 (by decide) (by decide)) ?_
      refine Sx.iconst (v := (nI 5)) dX4_fitsBehind_25 (by decide) ?_
      refine Sx.icmp_eqV (t := 36) dX4_fitsBehind_26 (by decide) (vN (by omega)) (vN (by decide)) (fun c26 => ?_) (fun c26 => ?_)
      · refine Sx.iconst (v := (nI 1)) dX4_fitsBehind_36 (by decide) ?_
        refine Sx.goto (t := 41) dX4_fitsBehind_37 (by decide) ?_
        refine Sx.istore_n (lv' := [(3, .int (nI 1)), (2, .int (nI 1)), (0, .ref 107), (1, .int (nI 124))]) dX4_fitsBehind_41 (by decide) rfl ?_
        refine Sx.iload_n dX4_fitsBehind_42 rfl ?_
        refine Sx.lookup (t := 206) dX4_fitsBehind_43 (by decide) (o := 163) (by decide) (by decide) ?_
        refine Sx.iload_n dX4_fitsBehind_206 rfl ?_
        refine Sx.top (show _ = b2i true from rfl) ?_
        refine Sx.iret dX4_fitsBehind_207 rfl (b2i_n _) ?_
        exact pBB (decide_eq_true ((fit_n (by decide)).mpr (by unfold lmFit'; omega))) h
      · refine Sx.aload_n dX4_fitsBehind_29 rfl ?_
        refine Sx.getfV (v := (nI (M 8))) dX4_fitsBehind_30 lkf_X4_43_4 (o_107 W) (hL.1 8 (by decide) (by decide)) ?_
        refine Sx.if_eqV (t := 40) dX4_fitsBehind_33 (by decide) (vN (by omega)) (fun c33 => ?_) (fun c33 => ?_)
        · refine Sx.iconst (v := (nI 0)) dX4_fitsBehind_40 (by decide) ?_
          refine Sx.istore_n (lv' := [(3, .int (nI 0)), (2, .int (nI 1)), (0, .ref 107), (1, .int (nI 124))]) dX4_fitsBehind_41 (by decide) rfl ?_
          refine Sx.iload_n dX4_fitsBehind_42 rfl ?_
          refine Sx.lookup (t := 206) dX4_fitsBehind_43 (by decide) (o := 163) (by decide) (by decide) ?_
          refine Sx.iload_n dX4_fitsBehind_206 rfl ?_
          refine Sx.top (show _ = b2i false from rfl) ?_
          refine Sx.iret dX4_fitsBehind_207 rfl (b2i_n _) ?_
          exact pBB (decide_eq_false (fun z => by have z2 := (fit_n (by decide)).mp z; unfold lmFit' at z2; omega)) h
        · refine Sx.iconst (v := (nI 1)) dX4_fitsBehind_36 (by decide) ?_
          refine Sx.goto (t := 41) dX4_fitsBehind_37 (by decide) ?_
          refine Sx.istore_n (lv' := [(3, .int (nI 1)), (2, .int (nI 1)), (0, .ref 107), (1, .int (nI 124))]) dX4_fitsBehind_41 (by decide) rfl ?_
          refine Sx.iload_n dX4_fitsBehind_42 rfl ?_
          refine Sx.lookup (t := 206) dX4_fitsBehind_43 (by decide) (o := 163) (by decide) (by decide) ?_
          refine Sx.iload_n dX4_fitsBehind_206 rfl ?_
          refine Sx.top (show _ = b2i true from rfl) ?_
          refine Sx.iret dX4_fitsBehind_207 rfl (b2i_n _) ?_
          exact pBB (decide_eq_true ((fit_n (by decide)).mpr (by unfold lmFit'; omega))) h
set_option maxRecDepth 20000 in
set_option maxHeartbeats 1000000 in
theorem d_fit41 {G : Gt} {l : Launch} {Z : Zt} {R : Rt} {I : It} {L : Lt} {post : Pt'} {M S : Nat → Nat} (W : WF Z R) (hL : LR I M S) (hb : ∀ j, j ≤ 8 → M j < 1000) (h : post (some (.int (b2i (decide (lmFit M 41))))) Z R I L) : Cx G l mX4_fitsBehind 2 0 0 [.ref 107, .int (nI 41)] Z R I L post := by
  refine Cx.of (by decide +kernel) (by exact Nat.le_of_ble_eq_true rfl) ?_
  have b2 := hb 2 (by decide)
  have b4 := hb 4 (by decide)
  have b5 := hb 5 (by decide)
  have b6 := hb 6 (by decide)
  have b7 := hb 7 (by decide)
  have b8 := hb 8 (by decide)
  refine Sx.aload_n dX4_fitsBehind_0 rfl ?_
  refine Sx.getfV (v := (nI (M 2))) dX4_fitsBehind_1 lkf_X4_24_4 (o_107 W) (hL.1 2 (by decide) (by decide)) ?_
  refine Sx.iconst (v := (nI 4)) dX4_fitsBehind_4 (by decide) ?_
  refine Sx.icmp_neV (t := 12) dX4_fitsBehind_5 (by decide) (vN (by omega)) (vN (by decide)) (fun c5 => ?_) (fun c5 => ?_)
  · refine Sx.iconst (v := (nI 0)) dX4_fitsBehind_12 (by decide) ?_
    refine Sx.istore_n (lv' := [(2, .int (nI 0)), (0, .ref 107), (1, .int (nI 41))]) dX4_fitsBehind_13 (by decide) rfl ?_
    refine Sx.aload_n dX4_fitsBehind_14 rfl ?_
    refine Sx.getfV (v := (nI (M 5))) dX4_fitsBehind_15 lkf_X4_33_4 (o_107 W) (hL.1 5 (by decide) (by decide)) ?_
    refine Sx.if_neV (t := 40) dX4_fitsBehind_18 (by decide) (vN (by omega)) (fun c18 => ?_) (fun c18 => ?_)
    · refine Sx.iconst (v := (nI 0)) dX4_fitsBehind_40 (by decide) ?_
      refine Sx.istore_n (lv' := [(3, .int (nI 0)), (2, .int (nI 0)), (0, .ref 107), (1, .int (nI 41))]) dX4_fitsBehind_41 (by decide) rfl ?_
      refine Sx.iload_n dX4_fitsBehind_42 rfl ?_
      refine Sx.lookup (t := 208) dX4_fitsBehind_43 (by decide) (o := 165) (by decide) (by decide) ?_
      refine Sx.iload_n dX4_fitsBehind_208 rfl ?_
      refine Sx.if_eqV (t := 223) dX4_fitsBehind_209 (by decide) (vN (by decide)) (fun c209 => ?_) (fun c209 => False.elim (by omega))
      refine Sx.iconst (v := (nI 0)) dX4_fitsBehind_223 (by decide) ?_
      refine Sx.top (show _ = b2i false from rfl) ?_
      refine Sx.iret dX4_fitsBehind_224 rfl (b2i_n _) ?_
      exact pBB (decide_eq_false (fun z => by have z2 := (fit_n (by decide)).mp z; unfold lmFit' at z2; omega)) h
    · refine Sx.aload_n dX4_fitsBehind_21 rfl ?_
      refine Sx.getfV (v := (nI (M 2))) dX4_fitsBehind_22 lkf_X4_24_4 (o_107 W) (hL.1 2 (by decide) (by decide)) ?_
      refine Sx.iconst (v := (nI 5)) dX4_fitsBehind_25 (by decide) ?_
      refine Sx.icmp_eqV (t := 36) dX4_fitsBehind_26 (by decide) (vN (by omega)) (vN (by decide)) (fun c26 => ?_) (fun c26 => ?_)
      · refine Sx.iconst (v := (nI 1)) dX4_fitsBehind_36 (by decide) ?_
        refine Sx.goto (t := 41) dX4_fitsBehind_37 (by decide) ?_
        refine Sx.istore_n (lv' := [(3, .int (nI 1)), (2, .int (nI 0)), (0, .ref 107), (1, .int (nI 41))]) dX4_fitsBehind_41 (by decide) rfl ?_
        refine Sx.iload_n dX4_fitsBehind_42 rfl ?_
        refine Sx.lookup (t := 208) dX4_fitsBehind_43 (by decide) (o := 165) (by decide) (by decide) ?_
        refine Sx.iload_n dX4_fitsBehind_208 rfl ?_
        refine Sx.if_eqV (t := 223) dX4_fitsBehind_209 (by decide) (vN (by decide)) (fun c209 => False.elim (by omega)) (fun c209 => ?_)
        refine Sx.aload_n dX4_fitsBehind_212 rfl ?_
        refine Sx.getfV (v := (nI (M 4))) dX4_fitsBehind_213 lkf_X4_30_4 (o_107 W) (hL.1 4 (by decide) (by decide)) ?_
        refine Sx.if_leV (t := 223) dX4_fitsBehind_216 (by decide) (vN (by omega)) (fun c216 => ?_) (fun c216 => ?_)
        · refine Sx.iconst (v := (nI 0)) dX4_fitsBehind_223 (by decide) ?_
          refine Sx.top (show _ = b2i false from rfl) ?_
          refine Sx.iret dX4_fitsBehind_224 rfl (b2i_n _) ?_
          exact pBB (decide_eq_false (fun z => by have z2 := (fit_n (by decide)).mp z; unfold lmFit' at z2; omega)) h
        · refine Sx.iconst (v := (nI 1)) dX4_fitsBehind_219 (by decide) ?_
          refine Sx.goto (t := 224) dX4_fitsBehind_220 (by decide) ?_
          refine Sx.top (show _ = b2i true from rfl) ?_
          refine Sx.iret dX4_fitsBehind_224 rfl (b2i_n _) ?_
          exact pBB (decide_eq_true ((fit_n (by decide)).mpr (by unfold lmFit'; omega))) h
      · refine Sx.aload_n dX4_fitsBehind_29 rfl ?_
        refine Sx.getfV (v := (nI (M 8))) dX4_fitsBehind_30 lkf_X4_43_4 (o_107 W) (hL.1 8 (by decide) (by decide)) ?_
        refine Sx.if_eqV (t := 40) dX4_fitsBehind_33 (by decide) (vN (by omega)) (fun c33 => ?_) (fun c33 => ?_)
        · refine Sx.iconst (v := (nI 0)) dX4_fitsBehind_40 (by decide) ?_
          refine Sx.istore_n (lv' := [(3, .int (nI 0)), (2, .int (nI 0)), (0, .ref 107), (1, .int (nI 41))]) dX4_fitsBehind_41 (by decide) rfl ?_
          refine Sx.iload_n dX4_fitsBehind_42 rfl ?_
          refine Sx.lookup (t := 208) dX4_fitsBehind_43 (by decide) (o := 165) (by decide) (by decide) ?_
          refine Sx.iload_n dX4_fitsBehind_208 rfl ?_
          refine Sx.if_eqV (t := 223) dX4_fitsBehind_209 (by decide) (vN (by decide)) (fun c209 => ?_) (fun c209 => False.elim (by omega))
          refine Sx.iconst (v := (nI 0)) dX4_fitsBehind_223 (by decide) ?_
          refine Sx.top (show _ = b2i false from rfl) ?_
          refine Sx.iret dX4_fitsBehind_224 rfl (b2i_n _) ?_
          exact pBB (decide_eq_false (fun z => by have z2 := (fit_n (by decide)).mp z; unfold lmFit' at z2; omega)) h
        · refine Sx.iconst (v := (nI 1)) dX4_fitsBehind_36 (by decide) ?_
          refine Sx.goto (t := 41) dX4_fitsBehind_37 (by decide) ?_
          refine Sx.istore_n (lv' := [(3, .int (nI 1)), (2, .int (nI 0)), (0, .ref 107), (1, .int (nI 41))]) dX4_fitsBehind_41 (by decide) rfl ?_
          refine Sx.iload_n dX4_fitsBehind_42 rfl ?_
          refine Sx.lookup (t := 208) dX4_fitsBehind_43 (by decide) (o := 165) (by decide) (by decide) ?_
          refine Sx.iload_n dX4_fitsBehind_208 rfl ?_
          refine Sx.if_eqV (t := 223) dX4_fitsBehind_209 (by decide) (vN (by decide)) (fun c209 => False.elim (by omega)) (fun c209 => ?_)
          refine Sx.aload_n dX4_fitsBehind_212 rfl ?_
          refine Sx.getfV (v := (nI (M 4))) dX4_fitsBehind_213 lkf_X4_30_4 (o_107 W) (hL.1 4 (by decide) (by decide)) ?_
          refine Sx.if_leV (t := 223) dX4_fitsBehind_216 (by decide) (vN (by omega)) (fun c216 => ?_) (fun c216 => ?_)
          · refine Sx.iconst (v := (nI 0)) dX4_fitsBehind_223 (by decide) ?_
            refine Sx.top (show _ = b2i false from rfl) ?_
            refine Sx.iret dX4_fitsBehind_224 rfl (b2i_n _) ?_
            exact pBB (decide_eq_false (fun z => by have z2 := (fit_n (by decide)).mp z; unfold lmFit' at z2; omega)) h
          · refine Sx.iconst (v := (nI 1)) dX4_fitsBehind_219 (by decide) ?_
            refine Sx.goto (t := 224) dX4_fitsBehind_220 (by decide) ?_
            refine Sx.top (show _ = b2i true from rfl) ?_
            refine Sx.iret dX4_fitsBehind_224 rfl (b2i_n _) ?_
            exact pBB (decide_eq_true ((fit_n (by decide)).mpr (by unfold lmFit'; omega))) h
  · refine Sx.iconst (v := (nI 1)) dX4_fitsBehind_8 (by decide) ?_
    refine Sx.goto (t := 13) dX4_fitsBehind_9 (by decide) ?_
    refine Sx.istore_n (lv' := [(2, .int (nI 1)), (0, .ref 107), (1, .int (nI 41))]) dX4_fitsBehind_13 (by decide) rfl ?_
    refine Sx.aload_n dX4_fitsBehind_14 rfl ?_
    refine Sx.getfV (v := (nI (M 5))) dX4_fitsBehind_15 lkf_X4_33_4 (o_107 W) (hL.1 5 (by decide) (by decide)) ?_
    refine Sx.if_neV (t := 40) dX4_fitsBehind_18 (by decide) (vN (by omega)) (fun c18 => ?_) (fun c18 => ?_)
    · refine Sx.iconst (v := (nI 0)) dX4_fitsBehind_40 (by decide) ?_
      refine Sx.istore_n (lv' := [(3, .int (nI 0)), (2, .int (nI 1)), (0, .ref 107), (1, .int (nI 41))]) dX4_fitsBehind_41 (by decide) rfl ?_
      refine Sx.iload_n dX4_fitsBehind_42 rfl ?_
      refine Sx.lookup (t := 208) dX4_fitsBehind_43 (by decide) (o := 165) (by decide) (by decide) ?_
      refine Sx.iload_n dX4_fitsBehind_208 rfl ?_
      refine Sx.if_eqV (t := 223) dX4_fitsBehind_209 (by decide) (vN (by decide)) (fun c209 => ?_) (fun c209 => False.elim (by omega))
      refine Sx.iconst (v := (nI 0)) dX4_fitsBehind_223 (by decide) ?_
      refine Sx.top (show _ = b2i false from rfl) ?_
      refine Sx.iret dX4_fitsBehind_224 rfl (b2i_n _) ?_
      exact pBB (decide_eq_false (fun z => by have z2 := (fit_n (by decide)).mp z; unfold lmFit' at z2; omega)) h
    · refine Sx.aload_n dX4_fitsBehind_21 rfl ?_
      refine Sx.getfV (v := (nI (M 2))) dX4_fitsBehind_22 lkf_X4_24_4 (o_107 W) (hL.1 2 (by decide) (by decide)) ?_
      refine Sx.iconst (v := (nI 5)) dX4_fitsBehind_25 (by decide) ?_
      refine Sx.icmp_eqV (t := 36) dX4_fitsBehind_26 (by decide) (vN (by omega)) (vN (by decide)) (fun c26 => ?_) (fun c26 => ?_)
      · refine Sx.iconst (v := (nI 1)) dX4_fitsBehind_36 (by decide) ?_
        refine Sx.goto (t := 41) dX4_fitsBehind_37 (by decide) ?_
        refine Sx.istore_n (lv' := [(3, .int (nI 1)), (2, .int (nI 1)), (0, .ref 107), (1, .int (nI 41))]) dX4_fitsBehind_41 (by decide) rfl ?_
        refine Sx.iload_n dX4_fitsBehind_42 rfl ?_
        refine Sx.lookup (t := 208) dX4_fitsBehind_43 (by decide) (o := 165) (by decide) (by decide) ?_
        refine Sx.iload_n dX4_fitsBehind_208 rfl ?_
        refine Sx.if_eqV (t := 223) dX4_fitsBehind_209 (by decide) (vN (by decide)) (fun c209 => False.elim (by omega)) (fun c209 => ?_)
        refine Sx.aload_n dX4_fitsBehind_212 rfl ?_
        refine Sx.getfV (v := (nI (M 4))) dX4_fitsBehind_213 lkf_X4_30_4 (o_107 W) (hL.1 4 (by decide) (by decide)) ?_
        refine Sx.if_leV (t := 223) dX4_fitsBehind_216 (by decide) (vN (by omega)) (fun c216 => ?_) (fun c216 => ?_)
        · refine Sx.iconst (v := (nI 0)) dX4_fitsBehind_223 (by decide) ?_
          refine Sx.top (show _ = b2i false from rfl) ?_
          refine Sx.iret dX4_fitsBehind_224 rfl (b2i_n _) ?_
          exact pBB (decide_eq_false (fun z => by have z2 := (fit_n (by decide)).mp z; unfold lmFit' at z2; omega)) h
        · refine Sx.iconst (v := (nI 1)) dX4_fitsBehind_219 (by decide) ?_
          refine Sx.goto (t := 224) dX4_fitsBehind_220 (by decide) ?_
          refine Sx.top (show _ = b2i true from rfl) ?_
          refine Sx.iret dX4_fitsBehind_224 rfl (b2i_n _) ?_
          exact pBB (decide_eq_true ((fit_n (by decide)).mpr (by unfold lmFit'; omega))) h
      · refine Sx.aload_n dX4_fitsBehind_29 rfl ?_
        refine Sx.getfV (v := (nI (M 8))) dX4_fitsBehind_30 lkf_X4_43_4 (o_107 W) (hL.1 8 (by decide) (by decide)) ?_
        refine Sx.if_eqV (t := 40) dX4_fitsBehind_33 (by decide) (vN (by omega)) (fun c33 => ?_) (fun c33 => ?_)
        · refine Sx.iconst (v := (nI 0)) dX4_fitsBehind_40 (by decide) ?_
          refine Sx.istore_n (lv' := [(3, .int (nI 0)), (2, .int (nI 1)), (0, .ref 107), (1, .int (nI 41))]) dX4_fitsBehind_41 (by decide) rfl ?_
          refine Sx.iload_n dX4_fitsBehind_42 rfl ?_
          refine Sx.lookup (t := 208) dX4_fitsBehind_43 (by decide) (o := 165) (by decide) (by decide) ?_
          refine Sx.iload_n dX4_fitsBehind_208 rfl ?_
          refine Sx.if_eqV (t := 223) dX4_fitsBehind_209 (by decide) (vN (by decide)) (fun c209 => ?_) (fun c209 => False.elim (by omega))
          refine Sx.iconst (v := (nI 0)) dX4_fitsBehind_223 (by decide) ?_
          refine Sx.top (show _ = b2i false from rfl) ?_
          refine Sx.iret dX4_fitsBehind_224 rfl (b2i_n _) ?_
          exact pBB (decide_eq_false (fun z => by have z2 := (fit_n (by decide)).mp z; unfold lmFit' at z2; omega)) h
        · refine Sx.iconst (v := (nI 1)) dX4_fitsBehind_36 (by decide) ?_
          refine Sx.goto (t := 41) dX4_fitsBehind_37 (by decide) ?_
          refine Sx.istore_n (lv' := [(3, .int (nI 1)), (2, .int (nI 1)), (0, .ref 107), (1, .int (nI 41))]) dX4_fitsBehind_41 (by decide) rfl ?_
          refine Sx.iload_n dX4_fitsBehind_42 rfl ?_
          refine Sx.lookup (t := 208) dX4_fitsBehind_43 (by decide) (o := 165) (by decide) (by decide) ?_
          refine Sx.iload_n dX4_fitsBehind_208 rfl ?_
          refine Sx.if_eqV (t := 223) dX4_fitsBehind_209 (by decide) (vN (by decide)) (fun c209 => False.elim (by omega)) (fun c209 => ?_)
          refine Sx.aload_n dX4_fitsBehind_212 rfl ?_
          refine Sx.getfV (v := (nI (M 4))) dX4_fitsBehind_213 lkf_X4_30_4 (o_107 W) (hL.1 4 (by decide) (by decide)) ?_
          refine Sx.if_leV (t := 223) dX4_fitsBehind_216 (by decide) (vN (by omega)) (fun c216 => ?_) (fun c216 => ?_)
          · refine Sx.iconst (v := (nI 0)) dX4_fitsBehind_223 (by decide) ?_
            refine Sx.top (show _ = b2i false from rfl) ?_
            refine Sx.iret dX4_fitsBehind_224 rfl (b2i_n _) ?_
            exact pBB (decide_eq_false (fun z => by have z2 := (fit_n (by decide)).mp z; unfold lmFit' at z2; omega)) h
          · refine Sx.iconst (v := (nI 1)) dX4_fitsBehind_219 (by decide) ?_
            refine Sx.goto (t := 224) dX4_fitsBehind_220 (by decide) ?_
            refine Sx.top (show _ = b2i true from rfl) ?_
            refine Sx.iret dX4_fitsBehind_224 rfl (b2i_n _) ?_
            exact pBB (decide_eq_true ((fit_n (by decide)).mpr (by unfold lmFit'; omega))) h
set_option maxRecDepth 20000 in
set_option maxHeartbeats 1000000 in
theorem d_fit63 {G : Gt} {l : Launch} {Z : Zt} {R : Rt} {I : It} {L : Lt} {post : Pt'} {M S : Nat → Nat} (W : WF Z R) (hL : LR I M S) (hb : ∀ j, j ≤ 8 → M j < 1000) (h : post (some (.int (b2i (decide (lmFit M 63))))) Z R I L) : Cx G l mX4_fitsBehind 2 0 0 [.ref 107, .int (nI 63)] Z R I L post := by
  refine Cx.of (by decide +kernel) (by exact Nat.le_of_ble_eq_true rfl) ?_
  have b2 := hb 2 (by decide)
  have b4 := hb 4 (by decide)
  have b5 := hb 5 (by decide)
  have b6 := hb 6 (by decide)
  have b7 := hb 7 (by decide)
  have b8 := hb 8 (by decide)
  refine Sx.aload_n dX4_fitsBehind_0 rfl ?_
  refine Sx.getfV (v := (nI (M 2))) dX4_fitsBehind_1 lkf_X4_24_4 (o_107 W) (hL.1 2 (by decide) (by decide)) ?_
  refine Sx.iconst (v := (nI 4)) dX4_fitsBehind_4 (by decide) ?_
  refine Sx.icmp_neV (t := 12) dX4_fitsBehind_5 (by decide) (vN (by omega)) (vN (by decide)) (fun c5 => ?_) (fun c5 => ?_)
  · refine Sx.iconst (v := (nI 0)) dX4_fitsBehind_12 (by decide) ?_
    refine Sx.istore_n (lv' := [(2, .int (nI 0)), (0, .ref 107), (1, .int (nI 63))]) dX4_fitsBehind_13 (by decide) rfl ?_
    refine Sx.aload_n dX4_fitsBehind_14 rfl ?_
    refine Sx.getfV (v := (nI (M 5))) dX4_fitsBehind_15 lkf_X4_33_4 (o_107 W) (hL.1 5 (by decide) (by decide)) ?_
    refine Sx.if_neV (t := 40) dX4_fitsBehind_18 (by decide) (vN (by omega)) (fun c18 => ?_) (fun c18 => ?_)
    · refine Sx.iconst (v := (nI 0)) dX4_fitsBehind_40 (by decide) ?_
      refine Sx.istore_n (lv' := [(3, .int (nI 0)), (2, .int (nI 0)), (0, .ref 107), (1, .int (nI 63))]) dX4_fitsBehind_41 (by decide) rfl ?_
      refine Sx.iload_n dX4_fitsBehind_42 rfl ?_
      refine Sx.lookup (t := 225) dX4_fitsBehind_43 (by decide) (o := 182) (by decide) (by decide) ?_
      refine Sx.iload_n dX4_fitsBehind_225 rfl ?_
      refine Sx.if_eqV (t := 240) dX4_fitsBehind_226 (by decide) (vN (by decide)) (fun c226 => ?_) (fun c226 => False.elim (by omega))
      refine Sx.iconst (v := (nI 0)) dX4_fitsBehind_240 (by decide) ?_
      refine Sx.top (show _ = b2i false from rfl) ?_
      refine Sx.iret dX4_fitsBehind_241 rfl (b2i_n _) ?_
      exact pBB (decide_eq_false (fun z => by have z2 := (fit_n (by decide)).mp z; unfold lmFit' at z2; omega)) h
    · refine Sx.aload_n dX4_fitsBehind_21 rfl ?_
      refine Sx.getfV (v := (nI (M 2))) dX4_fitsBehind_22 lkf_X4_24_4 (o_107 W) (hL.1 2 (by decide) (by decide)) ?_
      refine Sx.iconst (v := (nI 5)) dX4_fitsBehind_25 (by decide) ?_
      refine Sx.icmp_eqV (t := 36) dX4_fitsBehind_26 (by decide) (vN (by omega)) (vN (by decide)) (fun c26 => ?_) (fun c26 => ?_)
      · refine Sx.iconst (v := (nI 1)) dX4_fitsBehind_36 (by decide) ?_
        refine Sx.goto (t := 41) dX4_fitsBehind_37 (by decide) ?_
        refine Sx.istore_n (lv' := [(3, .int (nI 1)), (2, .int (nI 0)), (0, .ref 107), (1, .int (nI 63))]) dX4_fitsBehind_41 (by decide) rfl ?_
        refine Sx.iload_n dX4_fitsBehind_42 rfl ?_
        refine Sx.lookup (t := 225) dX4_fitsBehind_43 (by decide) (o := 182) (by decide) (by decide) ?_
        refine Sx.iload_n dX4_fitsBehind_225 rfl ?_
        refine Sx.if_eqV (t := 240) dX4_fitsBehind_226 (by decide) (vN (by decide)) (fun c226 => False.elim (by omega)) (fun c226 => ?_)
        refine Sx.aload_n dX4_fitsBehind_229 rfl ?_
        refine Sx.getfV (v := (nI (M 4))) dX4_fitsBehind_230 lkf_X4_30_4 (o_107 W) (hL.1 4 (by decide) (by decide)) ?_
        refine Sx.if_neV (t := 240) dX4_fitsBehind_233 (by decide) (vN (by omega)) (fun c233 => ?_) (fun c233 => ?_)
        · refine Sx.iconst (v := (nI 0)) dX4_fitsBehind_240 (by decide) ?_
          refine Sx.top (show _ = b2i false from rfl) ?_
          refine Sx.iret dX4_fitsBehind_241 rfl (b2i_n _) ?_
          exact pBB (decide_eq_false (fun z => by have z2 := (fit_n (by decide)).mp z; unfold lmFit' at z2; omega)) h
        · refine Sx.iconst (v := (nI 1)) dX4_fitsBehind_236 (by decide) ?_
          refine Sx.goto (t := 241) dX4_fitsBehind_237 (by decide) ?_
          refine Sx.top (show _ = b2i true from rfl) ?_
          refine Sx.iret dX4_fitsBehind_241 rfl (b2i_n _) ?_
          exact pBB (decide_eq_true ((fit_n (by decide)).mpr (by unfold lmFit'; omega))) h
      · refine Sx.aload_n dX4_fitsBehind_29 rfl ?_
        refine Sx.getfV (v := (nI (M 8))) dX4_fitsBehind_30 lkf_X4_43_4 (o_107 W) (hL.1 8 (by decide) (by decide)) ?_
        refine Sx.if_eqV (t := 40) dX4_fitsBehind_33 (by decide) (vN (by omega)) (fun c33 => ?_) (fun c33 => ?_)
        · refine Sx.iconst (v := (nI 0)) dX4_fitsBehind_40 (by decide) ?_
          refine Sx.istore_n (lv' := [(3, .int (nI 0)), (2, .int (nI 0)), (0, .ref 107), (1, .int (nI 63))]) dX4_fitsBehind_41 (by decide) rfl ?_
          refine Sx.iload_n dX4_fitsBehind_42 rfl ?_
          refine Sx.lookup (t := 225) dX4_fitsBehind_43 (by decide) (o := 182) (by decide) (by decide) ?_
          refine Sx.iload_n dX4_fitsBehind_225 rfl ?_
          refine Sx.if_eqV (t := 240) dX4_fitsBehind_226 (by decide) (vN (by decide)) (fun c226 => ?_) (fun c226 => False.elim (by omega))
          refine Sx.iconst (v := (nI 0)) dX4_fitsBehind_240 (by decide) ?_
          refine Sx.top (show _ = b2i false from rfl) ?_
          refine Sx.iret dX4_fitsBehind_241 rfl (b2i_n _) ?_
          exact pBB (decide_eq_false (fun z => by have z2 := (fit_n (by decide)).mp z; unfold lmFit' at z2; omega)) h
        · refine Sx.iconst (v := (nI 1)) dX4_fitsBehind_36 (by decide) ?_
          refine Sx.goto (t := 41) dX4_fitsBehind_37 (by decide) ?_
          refine Sx.istore_n (lv' := [(3, .int (nI 1)), (2, .int (nI 0)), (0, .ref 107), (1, .int (nI 63))]) dX4_fitsBehind_41 (by decide) rfl ?_
          refine Sx.iload_n dX4_fitsBehind_42 rfl ?_
          refine Sx.lookup (t := 225) dX4_fitsBehind_43 (by decide) (o := 182) (by decide) (by decide) ?_
          refine Sx.iload_n dX4_fitsBehind_225 rfl ?_
          refine Sx.if_eqV (t := 240) dX4_fitsBehind_226 (by decide) (vN (by decide)) (fun c226 => False.elim (by omega)) (fun c226 => ?_)
          refine Sx.aload_n dX4_fitsBehind_229 rfl ?_
          refine Sx.getfV (v := (nI (M 4))) dX4_fitsBehind_230 lkf_X4_30_4 (o_107 W) (hL.1 4 (by decide) (by decide)) ?_
          refine Sx.if_neV (t := 240) dX4_fitsBehind_233 (by decide) (vN (by omega)) (fun c233 => ?_) (fun c233 => ?_)
          · refine Sx.iconst (v := (nI 0)) dX4_fitsBehind_240 (by decide) ?_
            refine Sx.top (show _ = b2i false from rfl) ?_
            refine Sx.iret dX4_fitsBehind_241 rfl (b2i_n _) ?_
            exact pBB (decide_eq_false (fun z => by have z2 := (fit_n (by decide)).mp z; unfold lmFit' at z2; omega)) h
          · refine Sx.iconst (v := (nI 1)) dX4_fitsBehind_236 (by decide) ?_
            refine Sx.goto (t := 241) dX4_fitsBehind_237 (by decide) ?_
            refine Sx.top (show _ = b2i true from rfl) ?_
            refine Sx.iret dX4_fitsBehind_241 rfl (b2i_n _) ?_
            exact pBB (decide_eq_true ((fit_n (by decide)).mpr (by unfold lmFit'; omega))) h
  · refine Sx.iconst (v := (nI 1)) dX4_fitsBehind_8 (by decide) ?_
    refine Sx.goto (t := 13) dX4_fitsBehind_9 (by decide) ?_
    refine Sx.istore_n (lv' := [(2, .int (nI 1)), (0, .ref 107), (1, .int (nI 63))]) dX4_fitsBehind_13 (by decide) rfl ?_
    refine Sx.aload_n dX4_fitsBehind_14 rfl ?_
    refine Sx.getfV (v := (nI (M 5))) dX4_fitsBehind_15 lkf_X4_33_4 (o_107 W) (hL.1 5 (by decide) (by decide)) ?_
    refine Sx.if_neV (t := 40) dX4_fitsBehind_18 (by decide) (vN (by omega)) (fun c18 => ?_) (fun c18 => ?_)
    · refine Sx.iconst (v := (nI 0)) dX4_fitsBehind_40 (by decide) ?_
      refine Sx.istore_n (lv' := [(3, .int (nI 0)), (2, .int (nI 1)), (0, .ref 107), (1, .int (nI 63))]) dX4_fitsBehind_41 (by decide) rfl ?_
      refine Sx.iload_n dX4_fitsBehind_42 rfl ?_
      refine Sx.lookup (t := 225) dX4_fitsBehind_43 (by decide) (o := 182) (by decide) (by decide) ?_
      refine Sx.iload_n dX4_fitsBehind_225 rfl ?_
      refine Sx.if_eqV (t := 240) dX4_fitsBehind_226 (by decide) (vN (by decide)) (fun c226 => ?_) (fun c226 => False.elim (by omega))
      refine Sx.iconst (v := (nI 0)) dX4_fitsBehind_240 (by decide) ?_
      refine Sx.top (show _ = b2i false from rfl) ?_
      refine Sx.iret dX4_fitsBehind_241 rfl (b2i_n _) ?_
      exact pBB (decide_eq_false (fun z => by have z2 := (fit_n (by decide)).mp z; unfold lmFit' at z2; omega)) h
    · refine Sx.aload_n dX4_fitsBehind_21 rfl ?_
      refine Sx.getfV (v := (nI (M 2))) dX4_fitsBehind_22 lkf_X4_24_4 (o_107 W) (hL.1 2 (by decide) (by decide)) ?_
      refine Sx.iconst (v := (nI 5)) dX4_fitsBehind_25 (by decide) ?_
      refine Sx.icmp_eqV (t := 36) dX4_fitsBehind_26 (by decide) (vN (by omega)) (vN (by decide)) (fun c26 => ?_) (fun c26 => ?_)
      · refine Sx.iconst (v := (nI 1)) dX4_fitsBehind_36 (by decide) ?_
        refine Sx.goto (t := 41) dX4_fitsBehind_37 (by decide) ?_
        refine Sx.istore_n (lv' := [(3, .int (nI 1)), (2, .int (nI 1)), (0, .ref 107), (1, .int (nI 63))]) dX4_fitsBehind_41 (by decide) rfl ?_
        refine Sx.iload_n dX4_fitsBehind_42 rfl ?_
        refine Sx.lookup (t := 225) dX4_fitsBehind_43 (by decide) (o := 182) (by decide) (by decide) ?_
        refine Sx.iload_n dX4_fitsBehind_225 rfl ?_
        refine Sx.if_eqV (t := 240) dX4_fitsBehind_226 (by decide) (vN (by decide)) (fun c226 => False.elim (by omega)) (fun c226 => ?_)
        refine Sx.aload_n dX4_fitsBehind_229 rfl ?_
        refine Sx.getfV (v := (nI (M 4))) dX4_fitsBehind_230 lkf_X4_30_4 (o_107 W) (hL.1 4 (by decide) (by decide)) ?_
        refine Sx.if_neV (t := 240) dX4_fitsBehind_233 (by decide) (vN (by omega)) (fun c233 => ?_) (fun c233 => ?_)
        · refine Sx.iconst (v := (nI 0)) dX4_fitsBehind_240 (by decide) ?_
          refine Sx.top (show _ = b2i false from rfl) ?_
          refine Sx.iret dX4_fitsBehind_241 rfl (b2i_n _) ?_
          exact pBB (decide_eq_false (fun z => by have z2 := (fit_n (by decide)).mp z; unfold lmFit' at z2; omega)) h
        · refine Sx.iconst (v := (nI 1)) dX4_fitsBehind_236 (by decide) ?_
          refine Sx.goto (t := 241) dX4_fitsBehind_237 (by decide) ?_
          refine Sx.top (show _ = b2i true from rfl) ?_
          refine Sx.iret dX4_fitsBehind_241 rfl (b2i_n _) ?_
          exact pBB (decide_eq_true ((fit_n (by decide)).mpr (by unfold lmFit'; omega))) h
      · refine Sx.aload_n dX4_fitsBehind_29 rfl ?_
        refine Sx.getfV (v := (nI (M 8))) dX4_fitsBehind_30 lkf_X4_43_4 (o_107 W) (hL.1 8 (by decide) (by decide)) ?_
        refine Sx.if_eqV (t := 40) dX4_fitsBehind_33 (by decide) (vN (by omega)) (fun c33 => ?_) (fun c33 => ?_)
        · refine Sx.iconst (v := (nI 0)) dX4_fitsBehind_40 (by decide) ?_
          refine Sx.istore_n (lv' := [(3, .int (nI 0)), (2, .int (nI 1)), (0, .ref 107), (1, .int (nI 63))]) dX4_fitsBehind_41 (by decide) rfl ?_
          refine Sx.iload_n dX4_fitsBehind_42 rfl ?_
          refine Sx.lookup (t := 225) dX4_fitsBehind_43 (by decide) (o := 182) (by decide) (by decide) ?_
          refine Sx.iload_n dX4_fitsBehind_225 rfl ?_
          refine Sx.if_eqV (t := 240) dX4_fitsBehind_226 (by decide) (vN (by decide)) (fun c226 => ?_) (fun c226 => False.elim (by omega))
          refine Sx.iconst (v := (nI 0)) dX4_fitsBehind_240 (by decide) ?_
          refine Sx.top (show _ = b2i false from rfl) ?_
          refine Sx.iret dX4_fitsBehind_241 rfl (b2i_n _) ?_
          exact pBB (decide_eq_false (fun z => by have z2 := (fit_n (by decide)).mp z; unfold lmFit' at z2; omega)) h
        · refine Sx.iconst (v := (nI 1)) dX4_fitsBehind_36 (by decide) ?_
          refine Sx.goto (t := 41) dX4_fitsBehind_37 (by decide) ?_
          refine Sx.istore_n (lv' := [(3, .int (nI 1)), (2, .int (nI 1)), (0, .ref 107), (1, .int (nI 63))]) dX4_fitsBehind_41 (by decide) rfl ?_
          refine Sx.iload_n dX4_fitsBehind_42 rfl ?_
          refine Sx.lookup (t := 225) dX4_fitsBehind_43 (by decide) (o := 182) (by decide) (by decide) ?_
          refine Sx.iload_n dX4_fitsBehind_225 rfl ?_
          refine Sx.if_eqV (t := 240) dX4_fitsBehind_226 (by decide) (vN (by decide)) (fun c226 => False.elim (by omega)) (fun c226 => ?_)
          refine Sx.aload_n dX4_fitsBehind_229 rfl ?_
          refine Sx.getfV (v := (nI (M 4))) dX4_fitsBehind_230 lkf_X4_30_4 (o_107 W) (hL.1 4 (by decide) (by decide)) ?_
          refine Sx.if_neV (t := 240) dX4_fitsBehind_233 (by decide) (vN (by omega)) (fun c233 => ?_) (fun c233 => ?_)
          · refine Sx.iconst (v := (nI 0)) dX4_fitsBehind_240 (by decide) ?_
            refine Sx.top (show _ = b2i false from rfl) ?_
            refine Sx.iret dX4_fitsBehind_241 rfl (b2i_n _) ?_
            exact pBB (decide_eq_false (fun z => by have z2 := (fit_n (by decide)).mp z; unfold lmFit' at z2; omega)) h
          · refine Sx.iconst (v := (nI 1)) dX4_fitsBehind_236 (by decide) ?_
            refine Sx.goto (t := 241) dX4_fitsBehind_237 (by decide) ?_
            refine Sx.top (show _ = b2i true from rfl) ?_
            refine Sx.iret dX4_fitsBehind_241 rfl (b2i_n _) ?_
            exact pBB (decide_eq_true ((fit_n (by decide)).mpr (by unfold lmFit'; omega))) h
set_option maxRecDepth 20000 in
set_option maxHeartbeats 1000000 in
theorem d_fit59 {G : Gt} {l : Launch} {Z : Zt} {R : Rt} {I : It} {L : Lt} {post : Pt'} {M S : Nat → Nat} (W : WF Z R) (hL : LR I M S) (hb : ∀ j, j ≤ 8 → M j < 1000) (h : post (some (.int (b2i (decide (lmFit M 59))))) Z R I L) : Cx G l mX4_fitsBehind 2 0 0 [.ref 107, .int (nI 59)] Z R I L post := by
  refine Cx.of (by decide +kernel) (by exact Nat.le_of_ble_eq_true rfl) ?_
  have b2 := hb 2 (by decide)
  have b4 := hb 4 (by decide)
  have b5 := hb 5 (by decide)
  have b6 := hb 6 (by decide)
  have b7 := hb 7 (by decide)
  have b8 := hb 8 (by decide)
  refine Sx.aload_n dX4_fitsBehind_0 rfl ?_
  refine Sx.getfV (v := (nI (M 2))) dX4_fitsBehind_1 lkf_X4_24_4 (o_107 W) (hL.1 2 (by decide) (by decide)) ?_
  refine Sx.iconst (v := (nI 4)) dX4_fitsBehind_4 (by decide) ?_
  refine Sx.icmp_neV (t := 12) dX4_fitsBehind_5 (by decide) (vN (by omega)) (vN (by decide)) (fun c5 => ?_) (fun c5 => ?_)
  · refine Sx.iconst (v := (nI 0)) dX4_fitsBehind_12 (by decide) ?_
    refine Sx.istore_n (lv' := [(2, .int (nI 0)), (0, .ref 107), (1, .int (nI 59))]) dX4_fitsBehind_13 (by decide) rfl ?_
    refine Sx.aload_n dX4_fitsBehind_14 rfl ?_
    refine Sx.getfV (v := (nI (M 5))) dX4_fitsBehind_15 lkf_X4_33_4 (o_107 W) (hL.1 5 (by decide) (by decide)) ?_
    refine Sx.if_neV (t := 40) dX4_fitsBehind_18 (by decide) (vN (by omega)) (fun c18 => ?_) (fun c18 => ?_)
    · refine Sx.iconst (v := (nI 0)) dX4_fitsBehind_40 (by decide) ?_
      refine Sx.istore_n (lv' := [(3, .int (nI 0)), (2, .int (nI 0)), (0, .ref 107), (1, .int (nI 59))]) dX4_fitsBehind_41 (by decide) rfl ?_
      refine Sx.iload_n dX4_fitsBehind_42 rfl ?_
      refine Sx.lookup (t := 242) dX4_fitsBehind_43 (by decide) (o := 199) (by decide) (by decide) ?_
      refine Sx.aload_n dX4_fitsBehind_242 rfl ?_
      refine Sx.callV0 dX4_fitsBehind_243 lkv_X4_75 (rcv_4 (o_107 W)) (by decide) (by decide) (Nat.le_of_ble_eq_true rfl) rfl rfl (d_mayEnd W hL hb ?_)
      refine Sx.iret dX4_fitsBehind_246 rfl (b2i_n _) ?_
      exact pBB (decide_eq_decide.mpr (by rw [fit_59]; unfold lmEnd; rw [decide_eq_true_eq])) h
    · refine Sx.aload_n dX4_fitsBehind_21 rfl ?_
      refine Sx.getfV (v := (nI (M 2))) dX4_fitsBehind_22 lkf_X4_24_4 (o_107 W) (hL.1 2 (by decide) (by decide)) ?_
      refine Sx.iconst (v := (nI 5)) dX4_fitsBehind_25 (by decide) ?_
      refine Sx.icmp_eqV (t := 36) dX4_fitsBehind_26 (by decide) (vN (by omega)) (vN (by decide)) (fun c26 => ?_) (fun c26 => ?_)
      · refine Sx.iconst (v := (nI 1)) dX4_fitsBehind_36 (by decide) ?_
        refine Sx.goto (t := 41) dX4_fitsBehind_37 (by decide) ?_
        refine Sx.istore_n (lv' := [(3, .int (nI 1)), (2, .int (nI 0)), (0, .ref 107), (1, .int (nI 59))]) dX4_fitsBehind_41 (by decide) rfl ?_
        refine Sx.iload_n dX4_fitsBehind_42 rfl ?_
        refine Sx.lookup (t := 242) dX4_fitsBehind_43 (by decide) (o := 199) (by decide) (by decide) ?_
        refine Sx.aload_n dX4_fitsBehind_242 rfl ?_
        refine Sx.callV0 dX4_fitsBehind_243 lkv_X4_75 (rcv_4 (o_107 W)) (by decide) (by decide) (Nat.le_of_ble_eq_true rfl) rfl rfl (d_mayEnd W hL hb ?_)
        refine Sx.iret dX4_fitsBehind_246 rfl (b2i_n _) ?_
        exact pBB (decide_eq_decide.mpr (by rw [fit_59]; unfold lmEnd; rw [decide_eq_true_eq])) h
      · refine Sx.aload_n dX4_fitsBehind_29 rfl ?_
        refine Sx.getfV (v := (nI (M 8))) dX4_fitsBehind_30 lkf_X4_43_4 (o_107 W) (hL.1 8 (by decide) (by decide)) ?_
        refine Sx.if_eqV (t := 40) dX4_fitsBehind_33 (by decide) (vN (by omega)) (fun c33 => ?_) (fun c33 => ?_)
        · refine Sx.iconst (v := (nI 0)) dX4_fitsBehind_40 (by decide) ?_
          refine Sx.istore_n (lv' := [(3, .int (nI 0)), (2, .int (nI 0)), (0, .ref 107), (1, .int (nI 59))]) dX4_fitsBehind_41 (by decide) rfl ?_
          refine Sx.iload_n dX4_fitsBehind_42 rfl ?_
          refine Sx.lookup (t := 242) dX4_fitsBehind_43 (by decide) (o := 199) (by decide) (by decide) ?_
          refine Sx.aload_n dX4_fitsBehind_242 rfl ?_
          refine Sx.callV0 dX4_fitsBehind_243 lkv_X4_75 (rcv_4 (o_107 W)) (by decide) (by decide) (Nat.le_of_ble_eq_true rfl) rfl rfl (d_mayEnd W hL hb ?_)
          refine Sx.iret dX4_fitsBehind_246 rfl (b2i_n _) ?_
          exact pBB (decide_eq_decide.mpr (by rw [fit_59]; unfold lmEnd; rw [decide_eq_true_eq])) h
        · refine Sx.iconst (v := (nI 1)) dX4_fitsBehind_36 (by decide) ?_
          refine Sx.goto (t := 41) dX4_fitsBehind_37 (by decide) ?_
          refine Sx.istore_n (lv' := [(3, .int (nI 1)), (2, .int (nI 0)), (0, .ref 107), (1, .int (nI 59))]) dX4_fitsBehind_41 (by decide) rfl ?_
          refine Sx.iload_n dX4_fitsBehind_42 rfl ?_
          refine Sx.lookup (t := 242) dX4_fitsBehind_43 (by decide) (o := 199) (by decide) (by decide) ?_
          refine Sx.aload_n dX4_fitsBehind_242 rfl ?_
          refine Sx.callV0 dX4_fitsBehind_243 lkv_X4_75 (rcv_4 (o_107 W)) (by decide) (by decide) (Nat.le_of_ble_eq_true rfl) rfl rfl (d_mayEnd W hL hb ?_)
          refine Sx.iret dX4_fitsBehind_246 rfl (b2i_n _) ?_
          exact pBB (decide_eq_decide.mpr (by rw [fit_59]; unfold lmEnd; rw [decide_eq_true_eq])) h
  · refine Sx.iconst (v := (nI 1)) dX4_fitsBehind_8 (by decide) ?_
    refine Sx.goto (t := 13) dX4_fitsBehind_9 (by decide) ?_
    refine Sx.istore_n (lv' := [(2, .int (nI 1)), (0, .ref 107), (1, .int (nI 59))]) dX4_fitsBehind_13 (by decide) rfl ?_
    refine Sx.aload_n dX4_fitsBehind_14 rfl ?_
    refine Sx.getfV (v := (nI (M 5))) dX4_fitsBehind_15 lkf_X4_33_4 (o_107 W) (hL.1 5 (by decide) (by decide)) ?_
    refine Sx.if_neV (t := 40) dX4_fitsBehind_18 (by decide) (vN (by omega)) (fun c18 => ?_) (fun c18 => ?_)
    · refine Sx.iconst (v := (nI 0)) dX4_fitsBehind_40 (by decide) ?_
      refine Sx.istore_n (lv' := [(3, .int (nI 0)), (2, .int (nI 1)), (0, .ref 107), (1, .int (nI 59))]) dX4_fitsBehind_41 (by decide) rfl ?_
      refine Sx.iload_n dX4_fitsBehind_42 rfl ?_
      refine Sx.lookup (t := 242) dX4_fitsBehind_43 (by decide) (o := 199) (by decide) (by decide) ?_
      refine Sx.aload_n dX4_fitsBehind_242 rfl ?_
      refine Sx.callV0 dX4_fitsBehind_243 lkv_X4_75 (rcv_4 (o_107 W)) (by decide) (by decide) (Nat.le_of_ble_eq_true rfl) rfl rfl (d_mayEnd W hL hb ?_)
      refine Sx.iret dX4_fitsBehind_246 rfl (b2i_n _) ?_
      exact pBB (decide_eq_decide.mpr (by rw [fit_59]; unfold lmEnd; rw [decide_eq_true_eq])) h
    · refine Sx.aload_n dX4_fitsBehind_21 rfl ?_
      refine Sx.getfV (v := (nI (M 2))) dX4_fitsBehind_22 lkf_X4_24_4 (o_107 W) (hL.1 2 (by decide) (by decide)) ?_
      refine Sx.iconst (v := (nI 5)) dX4_fitsBehind_25 (by decide) ?_
      refine Sx.icmp_eqV (t := 36) dX4_fitsBehind_26 (by decide) (vN (by omega)) (vN (by decide)) (fun c26 => ?_) (fun c26 => ?_)
      · refine Sx.iconst (v := (nI 1)) dX4_fitsBehind_36 (by decide) ?_
        refine Sx.goto (t := 41) dX4_fitsBehind_37 (by decide) ?_
        refine Sx.istore_n (lv' := [(3, .int (nI 1)), (2, .int (nI 1)), (0, .ref 107), (1, .int (nI 59))]) dX4_fitsBehind_41 (by decide) rfl ?_
        refine Sx.iload_n dX4_fitsBehind_42 rfl ?_
        refine Sx.lookup (t := 242) dX4_fitsBehind_43 (by decide) (o := 199) (by decide) (by decide) ?_
        refine Sx.aload_n dX4_fitsBehind_242 rfl ?_
        refine Sx.callV0 dX4_fitsBehind_243 lkv_X4_75 (rcv_4 (o_107 W)) (by decide) (by decide) (Nat.le_of_ble_eq_true rfl) rfl rfl (d_mayEnd W hL hb ?_)
        refine Sx.iret dX4_fitsBehind_246 rfl (b2i_n _) ?_
        exact pBB (decide_eq_decide.mpr (by rw [fit_59]; unfold lmEnd; rw [decide_eq_true_eq])) h
      · refine Sx.aload_n dX4_fitsBehind_29 rfl ?_
        refine Sx.getfV (v := (nI (M 8))) dX4_fitsBehind_30 lkf_X4_43_4 (o_107 W) (hL.1 8 (by decide) (by decide)) ?_
        refine Sx.if_eqV (t := 40) dX4_fitsBehind_33 (by decide) (vN (by omega)) (fun c33 => ?_) (fun c33 => ?_)
        · refine Sx.iconst (v := (nI 0)) dX4_fitsBehind_40 (by decide) ?_
          refine Sx.istore_n (lv' := [(3, .int (nI 0)), (2, .int (nI 1)), (0, .ref 107), (1, .int (nI 59))]) dX4_fitsBehind_41 (by decide) rfl ?_
          refine Sx.iload_n dX4_fitsBehind_42 rfl ?_
          refine Sx.lookup (t := 242) dX4_fitsBehind_43 (by decide) (o := 199) (by decide) (by decide) ?_
          refine Sx.aload_n dX4_fitsBehind_242 rfl ?_
          refine Sx.callV0 dX4_fitsBehind_243 lkv_X4_75 (rcv_4 (o_107 W)) (by decide) (by decide) (Nat.le_of_ble_eq_true rfl) rfl rfl (d_mayEnd W hL hb ?_)
          refine Sx.iret dX4_fitsBehind_246 rfl (b2i_n _) ?_
          exact pBB (decide_eq_decide.mpr (by rw [fit_59]; unfold lmEnd; rw [decide_eq_true_eq])) h
        · refine Sx.iconst (v := (nI 1)) dX4_fitsBehind_36 (by decide) ?_
          refine Sx.goto (t := 41) dX4_fitsBehind_37 (by decide) ?_
          refine Sx.istore_n (lv' := [(3, .int (nI 1)), (2, .int (nI 1)), (0, .ref 107), (1, .int (nI 59))]) dX4_fitsBehind_41 (by decide) rfl ?_
          refine Sx.iload_n dX4_fitsBehind_42 rfl ?_
          refine Sx.lookup (t := 242) dX4_fitsBehind_43 (by decide) (o := 199) (by decide) (by decide) ?_
          refine Sx.aload_n dX4_fitsBehind_242 rfl ?_
          refine Sx.callV0 dX4_fitsBehind_243 lkv_X4_75 (rcv_4 (o_107 W)) (by decide) (by decide) (Nat.le_of_ble_eq_true rfl) rfl rfl (d_mayEnd W hL hb ?_)
          refine Sx.iret dX4_fitsBehind_246 rfl (b2i_n _) ?_
          exact pBB (decide_eq_decide.mpr (by rw [fit_59]; unfold lmEnd; rw [decide_eq_true_eq])) h
set_option maxRecDepth 20000 in
set_option maxHeartbeats 1000000 in
theorem d_fitN {G : Gt} {l : Launch} {Z : Zt} {R : Rt} {I : It} {L : Lt} {post : Pt'} {M S : Nat → Nat} {x : Nat} (W : WF Z R) (hL : LR I M S) (hb : ∀ j, j ≤ 8 → M j < 1000) (hx2 : x < 256) (n43 : x ≠ 43) (n45 : x ≠ 45) (n42 : x ≠ 42) (n47 : x ≠ 47) (n61 : x ≠ 61) (n60 : x ≠ 60) (n62 : x ≠ 62) (n93 : x ≠ 93) (n38 : x ≠ 38) (n124 : x ≠ 124) (n41 : x ≠ 41) (n63 : x ≠ 63) (n59 : x ≠ 59) (h : post (some (.int (b2i (decide (lmFit M x))))) Z R I L) : Cx G l mX4_fitsBehind 2 0 0 [.ref 107, .int (nI x)] Z R I L post := by
  refine Cx.of (by decide +kernel) (by exact Nat.le_of_ble_eq_true rfl) ?_
  have b2 := hb 2 (by decide)
  have b4 := hb 4 (by decide)
  have b5 := hb 5 (by decide)
  have b6 := hb 6 (by decide)
  have b7 := hb 7 (by decide)
  have b8 := hb 8 (by decide)
  refine Sx.aload_n dX4_fitsBehind_0 rfl ?_
  refine Sx.getfV (v := (nI (M 2))) dX4_fitsBehind_1 lkf_X4_24_4 (o_107 W) (hL.1 2 (by decide) (by decide)) ?_
  refine Sx.iconst (v := (nI 4)) dX4_fitsBehind_4 (by decide) ?_
  refine Sx.icmp_neV (t := 12) dX4_fitsBehind_5 (by decide) (vN (by omega)) (vN (by decide)) (fun c5 => ?_) (fun c5 => ?_)
  · refine Sx.iconst (v := (nI 0)) dX4_fitsBehind_12 (by decide) ?_
    refine Sx.istore_n (lv' := [(2, .int (nI 0)), (0, .ref 107), (1, .int (nI x))]) dX4_fitsBehind_13 (by decide) rfl ?_
    refine Sx.aload_n dX4_fitsBehind_14 rfl ?_
    refine Sx.getfV (v := (nI (M 5))) dX4_fitsBehind_15 lkf_X4_33_4 (o_107 W) (hL.1 5 (by decide) (by decide)) ?_
    refine Sx.if_neV (t := 40) dX4_fitsBehind_18 (by decide) (vN (by omega)) (fun c18 => ?_) (fun c18 => ?_)
    · refine Sx.iconst (v := (nI 0)) dX4_fitsBehind_40 (by decide) ?_
      refine Sx.istore_n (lv' := [(3, .int (nI 0)), (2, .int (nI 0)), (0, .ref 107), (1, .int (nI x))]) dX4_fitsBehind_41 (by decide) rfl ?_
      refine Sx.iload_n dX4_fitsBehind_42 rfl ?_
      refine Sx.lookup (t := 247) dX4_fitsBehind_43 (by decide) (o := 204) (off_no x hx2 n43 n45 n42 n47 n61 n60 n62 n93 n38 n124 n41 n63 n59) (by decide) ?_
      refine Sx.iconst (v := (nI 0)) dX4_fitsBehind_247 (by decide) ?_
      refine Sx.top (show _ = b2i false from rfl) ?_
      refine Sx.iret dX4_fitsBehind_248 rfl (b2i_n _) ?_
      exact pBB (decide_eq_false (fun z => by have z2 := (fit_n n59).mp z; unfold lmFit' at z2; omega)) h
    · refine Sx.aload_n dX4_fitsBehind_21 rfl ?_
      refine Sx.getfV (v := (nI (M 2))) dX4_fitsBehind_22 lkf_X4_24_4 (o_107 W) (hL.1 2 (by decide) (by decide)) ?_
      refine Sx.iconst (v := (nI 5)) dX4_fitsBehind_25 (by decide) ?_
      refine Sx.icmp_eqV (t := 36) dX4_fitsBehind_26 (by decide) (vN (by omega)) (vN (by decide)) (fun c26 => ?_) (fun c26 => ?_)
      · refine Sx.iconst (v := (nI 1)) dX4_fitsBehind_36 (by decide) ?_
        refine Sx.goto (t := 41) dX4_fitsBehind_37 (by decide) ?_
        refine Sx.istore_n (lv' := [(3, .int (nI 1)), (2, .int (nI 0)), (0, .ref 107), (1, .int (nI x))]) dX4_fitsBehind_41 (by decide) rfl ?_
        refine Sx.iload_n dX4_fitsBehind_42 rfl ?_
        refine Sx.lookup (t := 247) dX4_fitsBehind_43 (by decide) (o := 204) (off_no x hx2 n43 n45 n42 n47 n61 n60 n62 n93 n38 n124 n41 n63 n59) (by decide) ?_
        refine Sx.iconst (v := (nI 0)) dX4_fitsBehind_247 (by decide) ?_
        refine Sx.top (show _ = b2i false from rfl) ?_
        refine Sx.iret dX4_fitsBehind_248 rfl (b2i_n _) ?_
        exact pBB (decide_eq_false (fun z => by have z2 := (fit_n n59).mp z; unfold lmFit' at z2; omega)) h
      · refine Sx.aload_n dX4_fitsBehind_29 rfl ?_
        refine Sx.getfV (v := (nI (M 8))) dX4_fitsBehind_30 lkf_X4_43_4 (o_107 W) (hL.1 8 (by decide) (by decide)) ?_
        refine Sx.if_eqV (t := 40) dX4_fitsBehind_33 (by decide) (vN (by omega)) (fun c33 => ?_) (fun c33 => ?_)
        · refine Sx.iconst (v := (nI 0)) dX4_fitsBehind_40 (by decide) ?_
          refine Sx.istore_n (lv' := [(3, .int (nI 0)), (2, .int (nI 0)), (0, .ref 107), (1, .int (nI x))]) dX4_fitsBehind_41 (by decide) rfl ?_
          refine Sx.iload_n dX4_fitsBehind_42 rfl ?_
          refine Sx.lookup (t := 247) dX4_fitsBehind_43 (by decide) (o := 204) (off_no x hx2 n43 n45 n42 n47 n61 n60 n62 n93 n38 n124 n41 n63 n59) (by decide) ?_
          refine Sx.iconst (v := (nI 0)) dX4_fitsBehind_247 (by decide) ?_
          refine Sx.top (show _ = b2i false from rfl) ?_
          refine Sx.iret dX4_fitsBehind_248 rfl (b2i_n _) ?_
          exact pBB (decide_eq_false (fun z => by have z2 := (fit_n n59).mp z; unfold lmFit' at z2; omega)) h
        · refine Sx.iconst (v := (nI 1)) dX4_fitsBehind_36 (by decide) ?_
          refine Sx.goto (t := 41) dX4_fitsBehind_37 (by decide) ?_
          refine Sx.istore_n (lv' := [(3, .int (nI 1)), (2, .int (nI 0)), (0, .ref 107), (1, .int (nI x))]) dX4_fitsBehind_41 (by decide) rfl ?_
          refine Sx.iload_n dX4_fitsBehind_42 rfl ?_
          refine Sx.lookup (t := 247) dX4_fitsBehind_43 (by decide) (o := 204) (off_no x hx2 n43 n45 n42 n47 n61 n60 n62 n93 n38 n124 n41 n63 n59) (by decide) ?_
          refine Sx.iconst (v := (nI 0)) dX4_fitsBehind_247 (by decide) ?_
          refine Sx.top (show _ = b2i false from rfl) ?_
          refine Sx.iret dX4_fitsBehind_248 rfl (b2i_n _) ?_
          exact pBB (decide_eq_false (fun z => by have z2 := (fit_n n59).mp z; unfold lmFit' at z2; omega)) h
  · refine Sx.iconst (v := (nI 1)) dX4_fitsBehind_8 (by decide) ?_
    refine Sx.goto (t := 13) dX4_fitsBehind_9 (by decide) ?_
    refine Sx.istore_n (lv' := [(2, .int (nI 1)), (0, .ref 107), (1, .int (nI x))]) dX4_fitsBehind_13 (by decide) rfl ?_
    refine Sx.aload_n dX4_fitsBehind_14 rfl ?_
    refine Sx.getfV (v := (nI (M 5))) dX4_fitsBehind_15 lkf_X4_33_4 (o_107 W) (hL.1 5 (by decide) (by decide)) ?_
    refine Sx.if_neV (t := 40) dX4_fitsBehind_18 (by decide) (vN (by omega)) (fun c18 => ?_) (fun c18 => ?_)
    · refine Sx.iconst (v := (nI 0)) dX4_fitsBehind_40 (by decide) ?_
      refine Sx.istore_n (lv' := [(3, .int (nI 0)), (2, .int (nI 1)), (0, .ref 107), (1, .int (nI x))]) dX4_fitsBehind_41 (by decide) rfl ?_
      refine Sx.iload_n dX4_fitsBehind_42 rfl ?_
      refine Sx.lookup (t := 247) dX4_fitsBehind_43 (by decide) (o := 204) (off_no x hx2 n43 n45 n42 n47 n61 n60 n62 n93 n38 n124 n41 n63 n59) (by decide) ?_
      refine Sx.iconst (v := (nI 0)) dX4_fitsBehind_247 (by decide) ?_
      refine Sx.top (show _ = b2i false from rfl) ?_
      refine Sx.iret dX4_fitsBehind_248 rfl (b2i_n _) ?_
      exact pBB (decide_eq_false (fun z => by have z2 := (fit_n n59).mp z; unfold lmFit' at z2; omega)) h
    · refine Sx.aload_n dX4_fitsBehind_21 rfl ?_
      refine Sx.getfV (v := (nI (M 2))) dX4_fitsBehind_22 lkf_X4_24_4 (o_107 W) (hL.1 2 (by decide) (by decide)) ?_
      refine Sx.iconst (v := (nI 5)) dX4_fitsBehind_25 (by decide) ?_
      refine Sx.icmp_eqV (t := 36) dX4_fitsBehind_26 (by decide) (vN (by omega)) (vN (by decide)) (fun c26 => ?_) (fun c26 => ?_)
      · refine Sx.iconst (v := (nI 1)) dX4_fitsBehind_36 (by decide) ?_
        refine Sx.goto (t := 41) dX4_fitsBehind_37 (by decide) ?_
        refine Sx.istore_n (lv' := [(3, .int (nI 1)), (2, .int (nI 1)), (0, .ref 107), (1, .int (nI x))]) dX4_fitsBehind_41 (by decide) rfl ?_
        refine Sx.iload_n dX4_fitsBehind_42 rfl ?_
        refine Sx.lookup (t := 247) dX4_fitsBehind_43 (by decide) (o := 204) (off_no x hx2 n43 n45 n42 n47 n61 n60 n62 n93 n38 n124 n41 n63 n59) (by decide) ?_
        refine Sx.iconst (v := (nI 0)) dX4_fitsBehind_247 (by decide) ?_
        refine Sx.top (show _ = b2i false from rfl) ?_
        refine Sx.iret dX4_fitsBehind_248 rfl (b2i_n _) ?_
        exact pBB (decide_eq_false (fun z => by have z2 := (fit_n n59).mp z; unfold lmFit' at z2; omega)) h
      · refine Sx.aload_n dX4_fitsBehind_29 rfl ?_
        refine Sx.getfV (v := (nI (M 8))) dX4_fitsBehind_30 lkf_X4_43_4 (o_107 W) (hL.1 8 (by decide) (by decide)) ?_
        refine Sx.if_eqV (t := 40) dX4_fitsBehind_33 (by decide) (vN (by omega)) (fun c33 => ?_) (fun c33 => ?_)
        · refine Sx.iconst (v := (nI 0)) dX4_fitsBehind_40 (by decide) ?_
          refine Sx.istore_n (lv' := [(3, .int (nI 0)), (2, .int (nI 1)), (0, .ref 107), (1, .int (nI x))]) dX4_fitsBehind_41 (by decide) rfl ?_
          refine Sx.iload_n dX4_fitsBehind_42 rfl ?_
          refine Sx.lookup (t := 247) dX4_fitsBehind_43 (by decide) (o := 204) (off_no x hx2 n43 n45 n42 n47 n61 n60 n62 n93 n38 n124 n41 n63 n59) (by decide) ?_
          refine Sx.iconst (v := (nI 0)) dX4_fitsBehind_247 (by decide) ?_
          refine Sx.top (show _ = b2i false from rfl) ?_
          refine Sx.iret dX4_fitsBehind_248 rfl (b2i_n _) ?_
          exact pBB (decide_eq_false (fun z => by have z2 := (fit_n n59).mp z; unfold lmFit' at z2; omega)) h
        · refine Sx.iconst (v := (nI 1)) dX4_fitsBehind_36 (by decide) ?_
          refine Sx.goto (t := 41) dX4_fitsBehind_37 (by decide) ?_
          refine Sx.istore_n (lv' := [(3, .int (nI 1)), (2, .int (nI 1)), (0, .ref 107), (1, .int (nI x))]) dX4_fitsBehind_41 (by decide) rfl ?_
          refine Sx.iload_n dX4_fitsBehind_42 rfl ?_
          refine Sx.lookup (t := 247) dX4_fitsBehind_43 (by decide) (o := 204) (off_no x hx2 n43 n45 n42 n47 n61 n60 n62 n93 n38 n124 n41 n63 n59) (by decide) ?_
          refine Sx.iconst (v := (nI 0)) dX4_fitsBehind_247 (by decide) ?_
          refine Sx.top (show _ = b2i false from rfl) ?_
          refine Sx.iret dX4_fitsBehind_248 rfl (b2i_n _) ?_
          exact pBB (decide_eq_false (fun z => by have z2 := (fit_n n59).mp z; unfold lmFit' at z2; omega)) h
theorem d_fitB {G : Gt} {l : Launch} {Z : Zt} {R : Rt} {I : It} {L : Lt} {post : Pt'} {M S : Nat → Nat} {x : Nat} (W : WF Z R) (hL : LR I M S) (hb : ∀ j, j ≤ 8 → M j < 1000) (hx2 : x < 256) (h : post (some (.int (b2i (decide (lmFit M x))))) Z R I L) : Cx G l mX4_fitsBehind 2 0 0 [.ref 107, .int (nI x)] Z R I L post := by
  by_cases n43 : x = 43
  · subst n43; exact d_fit43 W hL hb h
  by_cases n45 : x = 45
  · subst n45; exact d_fit45 W hL hb h
  by_cases n42 : x = 42
  · subst n42; exact d_fit42 W hL hb h
  by_cases n47 : x = 47
  · subst n47; exact d_fit47 W hL hb h
  by_cases n61 : x = 61
  · subst n61; exact d_fit61 W hL hb h
  by_cases n60 : x = 60
  · subst n60; exact d_fit60 W hL hb h
  by_cases n62 : x = 62
  · subst n62; exact d_fit62 W hL hb h
  by_cases n93 : x = 93
  · subst n93; exact d_fit93 W hL hb h
  by_cases n38 : x = 38
  · subst n38; exact d_fit38 W hL hb h
  by_cases n124 : x = 124
  · subst n124; exact d_fit124 W hL hb h
  by_cases n41 : x = 41
  · subst n41; exact d_fit41 W hL hb h
  by_cases n63 : x = 63
  · subst n63; exact d_fit63 W hL hb h
  by_cases n59 : x = 59
  · subst n59; exact d_fit59 W hL hb h
  exact d_fitN W hL hb hx2 n43 n45 n42 n47 n61 n60 n62 n93 n38 n124 n41 n63 n59 h
