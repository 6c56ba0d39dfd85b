/-! the reference: acts -/
def actV (V : Vt) (a x y : Int32) : Vt := if whN (V 2) (V 3) a x y = -1 then vr (rmV V) 3 (coN (V 2) (wlV V) (V 3) a x y) else vs V 4 (xN (whN (V 2) (V 3) a x y)) (V 4 (xN (whN (V 2) (V 3) a x y)) + 1)
def actR (V : Vt) (a x y v : Int32) : Int32 := if whN (V 2) (V 3) a x y = -1 then v else -1
theorem whN_k (P F : Nat → Nat) (a x y : Int32) : whN P F a x y = -1 ∨ ∃ k, k < 5 ∧ whN P F a x y = nI k := by
  have h0 : ∃ k, k < 5 ∧ (0 : Int32) = nI k := ⟨0, by decide, by decide⟩
  have h1 : ∃ k, k < 5 ∧ (1 : Int32) = nI k := ⟨1, by decide, by decide⟩
  have h2 : ∃ k, k < 5 ∧ (2 : Int32) = nI k := ⟨2, by decide, by decide⟩
  have h3 : ∃ k, k < 5 ∧ (3 : Int32) = nI k := ⟨3, by decide, by decide⟩
  have h4 : ∃ k, k < 5 ∧ (4 : Int32) = nI k := ⟨4, by decide, by decide⟩
  suffices h : ∀ z, whN P F a x y = z → (z = -1 ∨ ∃ k, k < 5 ∧ z = nI k) from h _ rfl
  intro z e
  unfold whN whH at e
  (repeat' split at e) <;> (rw [← e]; first | exact Or.inr h0 | exact Or.inr h1 | exact Or.inr h2 | exact Or.inr h3 | exact Or.inr h4 | exact Or.inl rfl)
theorem x_m1 {x : Int32} (h : x.toInt = -1) : x = -1 := Int32.toInt_inj.mp (h.trans (by decide))
theorem x_n1 {x : Int32} (h : ¬ x.toInt = -1) : x ≠ -1 := fun e => h (by rw [e]; decide)
abbrev ActK (post : Pt') (Z : Zt) (R : Rt) (I : It) (L : Lt) (V : Vt) (a x y v : Int32) : Prop := ∀ I' R' L', MI (actV V a x y) I' L' → FM R I L R' I' L' → post (some (.int (actR V a x y v))) Z R' I' L'
theorem act_no {post : Pt'} {Z : Zt} {R : Rt} {I : It} {L : Lt} {V : Vt} {a x y v : Int32} (h : ActK post Z R I L V a x y v) {k : Nat} (hk : whN (V 2) (V 3) a x y = nI k) (k5 : k < 5) {I' : It} (m : MI (vs V 4 k (V 4 k + 1)) I' L) (f : FM R I L R I' L) : post (some (.int (iI (-1)))) Z R I' L := by
  have hn : ¬ whN (V 2) (V 3) a x y = -1 := by
    rw [hk]
    intro e
    have t := congrArg Int32.toInt e
    rw [nI_toInt (by omega), show (-1 : Int32).toInt = -1 by decide] at t
    omega
  have h1 := h I' R L (by unfold actV; rw [if_neg hn, hk, xN_n (by omega)]; exact m) f
  unfold actR at h1
  rw [if_neg hn] at h1
  exact h1
theorem act_ok {post : Pt'} {Z : Zt} {R : Rt} {I : It} {L : Lt} {V : Vt} {a x y v : Int32} (h : ActK post Z R I L V a x y v) (hk : whN (V 2) (V 3) a x y = -1) {I' : It} {R' : Rt} {L' : Lt} (m : MI (vr (rmV V) 3 (coN (V 2) (wlV V) (V 3) a x y)) I' L') (f : FM R I L R' I' L') : post (some (.int v)) Z R' I' L' := by
  have h1 := h I' R' L' (by unfold actV; rw [if_pos hk]; exact m) f
  unfold actR at h1
  rw [if_pos hk] at h1
  exact h1
theorem k_refX {G : Gt} {l : Launch} {Z : Zt} {R : Rt} {I : It} {L : Lt} {post : Pt'} {V : Vt} {k : Nat} {x : Int32} (hx : x = nI k) (W : WF Z R) (hM : MI V I L) (hk : k < 5) (hn : V 4 k < 2147483647) (h : ∀ I1, MI (vs V 4 k (V 4 k + 1)) I1 L → (∀ q, q ≠ 268 → I1 q = I q) → post (some (.int (iI (-1)))) Z R I1 L) : Cx G l mX12_refused 1 0 0 [.ref 253, .int x] Z R I L post := by
  rw [hx]
  exact k_refused W hM hk hn h
theorem MN.set {f : Nat → Int32} {F : Nat → Nat} (h : MN f F) {b x : Nat} (hb : b < 48 ∨ (138 ≤ b ∧ b < 144) ∨ b = 145) {v : Int32} (hv : v = if b = 143 then iI ((x : Int) - 1) else nI x) : MN (upd f (cwN b) v) (upn F b x) := by
  refine ⟨h.1.set (by omega) hv, h.2.keep (fun z hz => upd_nj _ _ (by unfold cwN; split <;> (try split) <;> omega)) ?_ (fun j hj => ?_)⟩
  · unfold upn; rw [if_neg (by omega)]
  · unfold upn; rw [if_neg (by omega)]
theorem MN.cg {f : Nat → Int32} {F F' : Nat → Nat} (h : MN f F) (c : ∀ j, j < 146 → F' j = F j) : MN f F' := ⟨h.1.cg (fun j hj => c j (by omega)), h.2.keep (fun _ _ => rfl) (c 144 (by decide)) (fun j hj => c _ (by omega))⟩
theorem upn_cm (F : Nat → Nat) {a b x y : Nat} (h : a ≠ b) (j : Nat) : upn (upn F a x) b y j = upn (upn F b y) a x j := by
  unfold upn
  by_cases q : j = a
  · subst q; rw [if_neg h, if_pos rfl, if_pos rfl]
  · rw [if_neg q, if_neg q]
theorem MI.row {V : Vt} {I I' : It} {L : Lt} {F : Nat → Nat} (h : MI V I L) (hb : V 0 1 ≤ 4 ∧ V 0 3 ≤ 4) (o : ∀ q, q ≠ 266 → I' q = I q) (m : MN (I' 266) F) : MI (vr V 3 F) I' L := ⟨(h.1.cgw (Or.inl rfl) o).v3 hb F, m⟩
theorem GV.b {N : Nat} {V : Vt} (h : GV N V) : V 0 1 ≤ 4 ∧ V 0 3 ≤ 4 := ⟨h.2.1.1, h.2.2.1.1⟩
theorem GV.b4 {N : Nat} {V : Vt} (h : GV N V) : V 0 4 ≤ 40 := h.2.2.2.1.1
theorem GV.st {N : Nat} {V : Vt} (h : GV N V) {k : Nat} (hk : k < 5) : V 4 k ≤ N := h.2.2.2.2.1 k hk
theorem GV.p {N : Nat} {V : Vt} (h : GV N V) : V 2 35 ≤ 6 ∧ V 2 34 ≤ 6 := by
  rcases h.2.2.2.2.2.2 with z | z
  · have := z.2.1 34; exact ⟨by omega, by omega⟩
  · exact ⟨z.1.2.2.2.2.2.2.2.1, z.1.2.2.2.2.2.1⟩
theorem rmb {V : Vt} (h : V 0 1 ≤ 4 ∧ V 0 3 ≤ 4) : rmV V 0 1 ≤ 4 ∧ rmV V 0 3 ≤ 4 := by rw [rm_0 V (by decide), rm_0 V (by decide)]; exact h
theorem goV_rm {V : Vt} (h : HV V) : goV (rmV V) = vr (rmV V) 3 (pdN (V 2) (wlV V) (V 3)) := by unfold goV; rw [wl_rm h, rm_o V (by decide) (by decide), rm_o V (by decide) (by decide)]
set_option maxRecDepth 20000 in
set_option maxHeartbeats 1000000 in
theorem k_goRm {G : Gt} {l : Launch} {Z : Zt} {R : Rt} {I : It} {L : Lt} {post : Pt'} {V : Vt} (W : WF Z R) (hM : MI (rmV V) I L) (hH : HV V) (h : ∀ I' R' L', MI (vr (rmV V) 3 (pdN (V 2) (wlV V) (V 3))) I' L' → FM R I L R' I' L' → post (some (.int (nI (litN (V 2) (wlV V) (V 3) (V 3 145) (V 3 139) (upc (V 2) (V 3)))))) Z R' I' L') : Cx G l mX12_goNow 38 0 0 [.ref 253] Z R I L post := by
  refine k_goNow W hM hH.rm (fun I' R' L' m f _ => ?_)
  rw [goV_rm hH] at m
  rw [wl_rm hH, rm_o V (show 2 ≠ 0 by decide) (by decide), rm_o V (show 3 ≠ 0 by decide) (by decide)]
  exact h I' R' L' m f
theorem dpN_p {P F : Nat → Nat} (hP : PB P) (hS : SG P F) : 0 < dpN P F ↔ (F 144 < 999 ∨ F 145 + 1 < P 0) := by
  have h1 := hS.2.1
  have h2 := hS.1.2.2.2.2.2.2.2.2.2.2.2.2.2.1
  have p1 := hP.1
  unfold dpN
  constructor
  · intro h
    by_cases q : F 144 < 999
    · exact Or.inl q
    · rw [show (999 : Int) - (F 144 : Int) = 0 by omega] at h
      omega
  · intro h
    by_cases q : F 144 < 999
    · have : (P 0 : Int) ≤ (999 - (F 144 : Int)) * (P 0 : Int) := by
        have := Int.mul_le_mul_of_nonneg_right (show (1 : Int) ≤ 999 - (F 144 : Int) by omega) (show (0 : Int) ≤ (P 0 : Int) by omega)
        omega
      omega
    · rw [show (999 : Int) - (F 144 : Int) = 0 by omega]
      omega
set_option maxRecDepth 20000 in
set_option maxHeartbeats 1000000 in
theorem k_pass {G : Gt} {l : Launch} {Z : Zt} {R : Rt} {I : It} {L : Lt} {post : Pt'} {V : Vt} {N : Nat} (W : WF Z R) (hM : MI V I L) (hG : GV N V) (hN : N < 2147483647) (h : ActK post Z R I L V 0 (iI (-1)) (iI (-1)) (nI (litN (V 2) (wlV V) (V 3) (V 3 145) (V 3 139) (upc (V 2) (V 3))))) : Cx G l mX12_pass 39 0 0 [.ref 253] Z R I L post := by
  refine Cx.of (by decide +kernel) (by exact Nat.le_of_ble_eq_true rfl) ?_
  refine Sx.aload_n dX12_pass_0 rfl ?_
  refine Sx.iconst (v := (nI 0)) dX12_pass_1 (by decide) ?_
  refine Sx.putfV dX12_pass_2 lkp_X12_109_12 (o_253 W) rfl rfl (fun I1 e1 o1 => ?_)
  have M1 := hM.th (j := 0) (by unfold sfJ; decide) e1 o1
  have hf1 : FM R I L R I1 L := FM.i fun q hq => o1 q (by omega)
  have hp6 := hG.p
  have hb := hG.b
  refine Sx.aload_n dX12_pass_5 rfl ?_
  refine Sx.getfV (v := (nI (V 2 35))) dX12_pass_6 lkf_X12_307_12 (o_253 W) M1.1.1.2.2.2.1 ?_
  refine Sx.if_neV (t := 18) dX12_pass_9 (by decide) (vN (by omega)) (fun c9 => ?_) (fun c9 => ?_)
  · have hH := hG.hv (by omega)
    refine Sx.aload_n dX12_pass_18 rfl ?_
    refine Sx.aload_n dX12_pass_19 rfl ?_
    refine Sx.getfR dX12_pass_20 lkf_X12_61_12 (o_253 W) (r_253_32 W) ?_
    refine Sx.callV1 dX12_pass_23 lkv_X12_392 (rcv_12 (o_253 W)) (by decide) (by decide) (Nat.le_of_ble_eq_true rfl) rfl rfl (k_canPass W M1.1 hH.2.2.2.1 hH.2.2.2.2.1 M1.2.1 (Or.inl rfl) ?_)
    refine Sx.if_neD (t := 35) dX12_pass_26 (by decide) (fun c26 => ?_) (fun c26 => ?_)
    · refine Sx.aload_n dX12_pass_35 rfl ?_
      refine Sx.callV0 dX12_pass_36 lkv_X12_396 (rcv_12 (o_253 W)) (by decide) (by decide) (Nat.le_of_ble_eq_true rfl) rfl rfl (k_remember W M1 hb hG.b4 (fun I2 hM2 r2 t2 => ?_))
      have hf2 := hf1.tr (FM.i (R := R) (L := L) fun q hq => r2 q (by omega) (by omega))
      refine Sx.aload_n dX12_pass_39 rfl ?_
      refine Sx.callV0 dX12_pass_40 lkv_X12_399 (rcv_12 (o_253 W)) (by decide) (by decide) (Nat.le_of_ble_eq_true rfl) rfl rfl (k_goRm W hM2 hH (fun I3 R3 L3 hM3 hf3 => ?_))
      refine Sx.iret dX12_pass_43 rfl rfl ?_
      refine act_ok h (by unfold whN; rw [if_neg (by omega), if_pos rfl, if_pos ((dpN_p hH.2.2.2.1 hH.2.2.2.2).mpr (by omega))]) (by rw [show coN (V 2) (wlV V) (V 3) 0 (iI (-1)) (iI (-1)) = pdN (V 2) (wlV V) (V 3) from if_pos rfl]; exact hM3) (hf2.tr hf3)
    · refine Sx.aload_n dX12_pass_29 rfl ?_
      refine Sx.iconst (v := (nI 4)) dX12_pass_30 (by decide) ?_
      refine Sx.callV1 dX12_pass_31 lkv_X12_389 (rcv_12 (o_253 W)) (by decide) (by decide) (Nat.le_of_ble_eq_true rfl) rfl rfl (k_refused W M1 (by decide) (by have := hG.st (k := 4) (by decide); omega) (fun I4 hM4 o4 => ?_))
      have hf4 := hf1.tr (FM.i (R := R) (L := L) fun q hq => o4 q (by omega))
      refine Sx.iret dX12_pass_34 rfl rfl ?_
      exact act_no h (k := 4) (by unfold whN; rw [if_neg (by omega), if_pos rfl, if_neg (fun z => by have := (dpN_p hH.2.2.2.1 hH.2.2.2.2).mp z; omega)]; decide) (by decide) hM4 hf4
  · refine Sx.aload_n dX12_pass_12 rfl ?_
    refine Sx.iconst (v := (nI 0)) dX12_pass_13 (by decide) ?_
    refine Sx.callV1 dX12_pass_14 lkv_X12_389 (rcv_12 (o_253 W)) (by decide) (by decide) (Nat.le_of_ble_eq_true rfl) rfl rfl (k_refused W M1 (by decide) (by have := hG.st (k := 0) (by decide); omega) (fun I5 hM5 o5 => ?_))
    have hf5 := hf1.tr (FM.i (R := R) (L := L) fun q hq => o5 q (by omega))
    refine Sx.iret dX12_pass_17 rfl rfl ?_
    exact act_no h (k := 0) (by unfold whN; rw [if_pos (by omega)]; decide) (by decide) hM5 hf5
theorem whN_1 {P F : Nat → Nat} (x y : Int32) : whN P F 1 x y = whH P F x y := by
  unfold whN
  split
  · next e =>
    unfold whH
    rw [if_neg]
    rintro ⟨h, -⟩
    obtain ⟨j, hj, -⟩ := isN_of (by rw [e]; decide) h
    omega
  · rfl
theorem ok_1 {P F : Nat → Nat} {x y : Int32} (h : Ok P F 1 x y) : (∃ p k, x = nI p ∧ y = nI k ∧ p < P 35 ∧ k < P 34 ∧ F p ≠ k) ∧ 1 ≤ F 142 := by
  rcases h with h | h | h | h | h | h | h
  · exact absurd h.1 (by decide)
  · exact h.2
  all_goals exact absurd h.1 (by decide)
theorem ok_2 {P F : Nat → Nat} {x y : Int32} (h : Ok P F 2 x y) : ∃ p, x = nI p ∧ p < P 35 := by
  rcases h with h | h | h | h | h | h | h
  · exact absurd h.1 (by decide)
  · exact absurd h.1 (by decide)
  · exact h.2
  all_goals exact absurd h.1 (by decide)
theorem ok_3 {P F : Nat → Nat} {x y : Int32} (h : Ok P F 3 x y) : ∃ p, x = nI p ∧ p ≤ 9 ∧ p ≠ F 139 := by
  rcases h with h | h | h | h | h | h | h
  · exact absurd h.1 (by decide)
  · exact absurd h.1 (by decide)
  · exact absurd h.1 (by decide)
  · exact h.2
  all_goals exact absurd h.1 (by decide)
theorem ok_4 {P F : Nat → Nat} {x y : Int32} (h : Ok P F 4 x y) : F 140 = 0 ∧ 10 ≤ F 142 := by
  rcases h with h | h | h | h | h | h | h
  · exact absurd h.1 (by decide)
  · exact absurd h.1 (by decide)
  · exact absurd h.1 (by decide)
  · exact absurd h.1 (by decide)
  · exact h.2
  all_goals exact absurd h.1 (by decide)
theorem ok_5 {P F : Nat → Nat} {x y : Int32} (h : Ok P F 5 x y) : ∃ p, x = nI p ∧ 1 ≤ p ∧ p ≤ 9 ∧ p ≤ F 142 ∧ F 141 + p ≤ 20 := by
  rcases h with h | h | h | h | h | h | h
  · exact absurd h.1 (by decide)
  · exact absurd h.1 (by decide)
  · exact absurd h.1 (by decide)
  · exact absurd h.1 (by decide)
  · exact absurd h.1 (by decide)
  · exact h.2
  · exact absurd h.1 (by decide)
theorem ok_6 {P F : Nat → Nat} {x y : Int32} (h : Ok P F 6 x y) : ∃ p, x = nI p ∧ 1 ≤ p ∧ p ≤ 50 ∧ F 142 + p ≤ 999 := by
  rcases h with h | h | h | h | h | h | h
  · exact absurd h.1 (by decide)
  · exact absurd h.1 (by decide)
  · exact absurd h.1 (by decide)
  · exact absurd h.1 (by decide)
  · exact absurd h.1 (by decide)
  · exact absurd h.1 (by decide)
  · exact h.2
theorem cq_0 (P : Nat → Nat) (w : Wt) (F : Nat → Nat) (x y : Int32) : coN P w F 0 x y = pdN P w F := if_pos rfl
theorem cq_1 (P : Nat → Nat) (w : Wt) (F : Nat → Nat) {p k : Nat} (hp : p < 2 ^ 31) (hk : k < 2 ^ 31) : coN P w F 1 (nI p) (nI k) = upn (upn F p k) 142 (F 142 - 1) := by unfold coN; rw [if_neg (by decide), if_pos rfl, xN_n hp, xN_n hk]
theorem cq_2 (P : Nat → Nat) (w : Wt) (F : Nat → Nat) {p : Nat} (y : Int32) (hp : p < 2 ^ 31) : coN P w F 2 (nI p) y = upn F 138 (F 138 ^^^ 2 ^ p) := by unfold coN; rw [if_neg (by decide), if_neg (by decide), if_pos rfl, xN_n hp]
theorem cq_3 (P : Nat → Nat) (w : Wt) (F : Nat → Nat) {p : Nat} (y : Int32) (hp : p < 2 ^ 31) : coN P w F 3 (nI p) y = upn F 139 p := by unfold coN; rw [if_neg (by decide), if_neg (by decide), if_neg (by decide), if_pos rfl, xN_n hp]
theorem cq_4 (P : Nat → Nat) (w : Wt) (F : Nat → Nat) (x y : Int32) : coN P w F 4 x y = upn (upn F 140 1) 142 (F 142 - 10) := by unfold coN; rw [if_neg (by decide), if_neg (by decide), if_neg (by decide), if_neg (by decide), if_pos rfl]
theorem cq_5 (P : Nat → Nat) (w : Wt) (F : Nat → Nat) {p : Nat} (y : Int32) (hp : p < 2 ^ 31) : coN P w F 5 (nI p) y = upn (upn F 141 (F 141 + p)) 142 (F 142 - p) := by unfold coN; rw [if_neg (by decide), if_neg (by decide), if_neg (by decide), if_neg (by decide), if_neg (by decide), if_pos rfl, xN_n hp]
theorem cq_6 (P : Nat → Nat) (w : Wt) (F : Nat → Nat) {p : Nat} (y : Int32) (hp : p < 2 ^ 31) : coN P w F 6 (nI p) y = upn F 142 (F 142 + p) := by unfold coN; rw [if_neg (by decide), if_neg (by decide), if_neg (by decide), if_neg (by decide), if_neg (by decide), if_neg (by decide), xN_n hp]
theorem cw_p {p : Nat} (h : p < 18) : cwN p = p := if_pos h
theorem MI.w3 {V : Vt} {I : It} {L : Lt} (h : MI (rmV V) I L) : MN (I 266) (V 3) := by have := h.2; rwa [rm_o V (show 3 ≠ 0 by decide) (by decide)] at this
set_option maxRecDepth 20000 in
set_option maxHeartbeats 1000000 in
theorem k_habit {G : Gt} {l : Launch} {Z : Zt} {R : Rt} {I : It} {L : Lt} {post : Pt'} {V : Vt} {N : Nat} {x y : Int32} (W : WF Z R) (hM : MI V I L) (hG : GV N V) (hN : N < 2147483647) (h : ActK post Z R I L V 1 x y (nI (V 3 (xN x)))) : Cx G l mX12_habit 3 0 0 [.ref 253, .int x, .int y] Z R I L post := by
  refine Cx.of (by decide +kernel) (by exact Nat.le_of_ble_eq_true rfl) ?_
  refine Sx.aload_n dX12_habit_0 rfl ?_
  refine Sx.iconst (v := (nI 0)) dX12_habit_1 (by decide) ?_
  refine Sx.putfV dX12_habit_2 lkp_X12_109_12 (o_253 W) rfl rfl (fun I1 e1 o1 => ?_)
  have M1 := hM.th (j := 0) (by unfold sfJ; decide) e1 o1
  have hf1 : FM R I L R I1 L := FM.i fun q hq => o1 q (by omega)
  have hp6 := hG.p
  have hb := hG.b
  refine Sx.aload_n dX12_habit_5 rfl ?_
  refine Sx.aload_n dX12_habit_6 rfl ?_
  refine Sx.getfR dX12_habit_7 lkf_X12_61_12 (o_253 W) (r_253_32 W) ?_
  refine Sx.iload_n dX12_habit_10 rfl ?_
  refine Sx.iload_n dX12_habit_11 rfl ?_
  refine Sx.callV3 dX12_habit_12 lkv_X12_402 (rcv_12 (o_253 W)) (by decide) (by decide) (Nat.le_of_ble_eq_true rfl) rfl rfl (k_stopsHabit  W M1.1 M1.2.1 (Or.inl rfl) hp6.1 hp6.2 (fun z => ⟨(hG.hv z).2.2.2.1, (hG.hv z).2.2.2.2.1⟩) ?_)
  refine Sx.istore_n (lv' := [(3, .int (whH (V 2) (V 3) x y)), (0, .ref 253), (1, .int x), (2, .int y)]) dX12_habit_15 (by decide) rfl ?_
  refine Sx.iload_n dX12_habit_16 rfl ?_
  refine Sx.iconst (v := (iI (-1))) dX12_habit_17 (by decide) ?_
  refine Sx.icmp_eqV (t := 27) dX12_habit_18 (by decide) (vX (whH (V 2) (V 3) x y)) (vZ (by decide)) (fun c18 => ?_) (fun c18 => ?_)
  · have hk : whN (V 2) (V 3) 1 x y = -1 := by rw [whN_1]; exact x_m1 c18
    have hH := hG.hv (fun z => by rw [show whN (V 2) (V 3) 1 x y = 0 from if_pos z] at hk; exact absurd hk (by decide))
    have hO := Ok_of hH.2.2.2.1 hH.2.2.2.2.1 hk
    obtain ⟨⟨p, q, rfl, rfl, hp, hq, hne⟩, hc⟩ := ok_1 hO
    refine Sx.sub' [(0, .ref 253), (1, .int (nI p)), (2, .int (nI q))] rfl ?_
    refine Sx.aload_n dX12_habit_27 rfl ?_
    refine Sx.callV0 dX12_habit_28 lkv_X12_396 (rcv_12 (o_253 W)) (by decide) (by decide) (Nat.le_of_ble_eq_true rfl) rfl rfl (k_remember W M1 hb hG.b4 (fun I2 hM2 r2 t2 => ?_))
    have hf2 := hf1.tr (FM.i (R := R) (L := L) fun q hq => r2 q (by omega) (by omega))
    have w2 := hM2.w3
    obtain ⟨⟨f1, f2, f3, f4, f5, f6, f7, f8, f9, f10, f11, f12, f13, f14, f15, f16⟩, f17, -, -⟩ := id hH.2.2.2.2
    obtain ⟨p1, p2, p3, p4, p5, p6, p7, p8, p9⟩ := id hH.2.2.2.1
    refine Sx.aload_n dX12_habit_31 rfl ?_
    refine Sx.getfR dX12_habit_32 lkf_X12_61_12 (o_253 W) (r_253_32 W) ?_
    refine Sx.iload_n dX12_habit_35 rfl ?_
    refine Sx.ialdN dX12_habit_36 (a_266 W) (by omega) (by decide) (v := (nI (V 3 p))) (by exact w2.1.1 p (by omega)) ?_
    refine Sx.istore (lv' := [(4, .int (nI (V 3 p))), (0, .ref 253), (1, .int (nI p)), (2, .int (nI q))]) dX12_habit_37 (by decide) rfl ?_
    refine Sx.aload_n dX12_habit_39 rfl ?_
    refine Sx.getfR dX12_habit_40 lkf_X12_61_12 (o_253 W) (r_253_32 W) ?_
    refine Sx.bipush (v := (nI 22)) dX12_habit_43 (by decide) ?_
    refine Sx.dup2 dX12_habit_45 rfl rfl ?_
    refine Sx.ialdN dX12_habit_46 (a_266 W) (by omega) (by decide) (v := (nI (V 3 142))) (by exact w2.1.2.2.2.2.2.1) ?_
    refine Sx.iconst (v := (nI 1)) dX12_habit_47 (by decide) ?_
    refine Sx.isubN dX12_habit_48 (by omega) ?_
    refine Sx.iastN dX12_habit_49 (a_266 W) (by omega) (by decide) (fun I3 e3 o3 => ?_)
    refine Sx.aload_n dX12_habit_50 rfl ?_
    refine Sx.getfR dX12_habit_51 lkf_X12_61_12 (o_253 W) (r_253_32 W) ?_
    refine Sx.iload_n dX12_habit_54 rfl ?_
    refine Sx.iload_n dX12_habit_55 rfl ?_
    refine Sx.iastN dX12_habit_56 (a_266 W) (by omega) (by decide) (fun I4 e4 o4 => ?_)
    refine Sx.iload dX12_habit_57 rfl ?_
    refine Sx.iret dX12_habit_59 rfl rfl ?_
    have mn := ((w2.set (b := 142) (x := V 3 142 - 1) (by omega) (v := nI (V 3 142 - 1)) (by rw [if_neg (by omega)])).set (b := p) (x := q) (by omega) (v := nI (q)) (by rw [if_neg (by omega)]))
    rw [cw_p (p := p) (by omega)] at mn
    have hr := MI.row (I' := I4) (F := upn (upn (V 3) p q) 142 (V 3 142 - 1)) hM2 (rmb hb) (fun q hq => by rw [o4 q hq, o3 q hq]) (by rw [e4, e3]; exact mn.cg (fun j _ => upn_cm _ (by omega) j))
    exact pXX (by rw [xN_n (by omega)]) (act_ok h hk (by rw [cq_1 _ _ _ (by omega) (by omega)]; exact hr) (hf2.tr (FM.i fun q hq => by rw [o4 q (by omega), o3 q (by omega)])))
  · obtain ⟨k, hk5, hk⟩ := (whN_k (V 2) (V 3) 1 x y).resolve_left (by rw [whN_1]; exact x_n1 c18)
    have hk1 := hk
    rw [whN_1] at hk
    refine Sx.aload_n dX12_habit_21 rfl ?_
    refine Sx.iload_n dX12_habit_22 rfl ?_
    refine Sx.callV1 dX12_habit_23 lkv_X12_389 (rcv_12 (o_253 W)) (by decide) (by decide) (Nat.le_of_ble_eq_true rfl) rfl rfl (k_refX hk W M1 hk5 (by have := hG.st hk5; omega) (fun I5 hM5 o5 => ?_))
    have hf5 := hf1.tr (FM.i (R := R) (L := L) fun q hq => o5 q (by omega))
    refine Sx.iret dX12_habit_26 rfl rfl ?_
    exact act_no h hk1 hk5 hM5 hf5
set_option maxRecDepth 20000 in
set_option maxHeartbeats 1000000 in
theorem k_fog {G : Gt} {l : Launch} {Z : Zt} {R : Rt} {I : It} {L : Lt} {post : Pt'} {V : Vt} {N : Nat} {x : Int32} (W : WF Z R) (hM : MI V I L) (hG : GV N V) (hN : N < 2147483647) (h : ActK post Z R I L V 3 x (iI (-1)) (nI (V 3 139))) : Cx G l mX12_fog 3 0 0 [.ref 253, .int x] Z R I L post := by
  refine Cx.of (by decide +kernel) (by exact Nat.le_of_ble_eq_true rfl) ?_
  refine Sx.aload_n dX12_fog_0 rfl ?_
  refine Sx.iconst (v := (nI 0)) dX12_fog_1 (by decide) ?_
  refine Sx.putfV dX12_fog_2 lkp_X12_109_12 (o_253 W) rfl rfl (fun I1 e1 o1 => ?_)
  have M1 := hM.th (j := 0) (by unfold sfJ; decide) e1 o1
  have hf1 : FM R I L R I1 L := FM.i fun q hq => o1 q (by omega)
  have hp6 := hG.p
  have hb := hG.b
  refine Sx.aload_n dX12_fog_5 rfl ?_
  refine Sx.aload_n dX12_fog_6 rfl ?_
  refine Sx.getfR dX12_fog_7 lkf_X12_61_12 (o_253 W) (r_253_32 W) ?_
  refine Sx.iload_n dX12_fog_10 rfl ?_
  refine Sx.callV2 dX12_fog_11 lkv_X12_405 (rcv_12 (o_253 W)) (by decide) (by decide) (Nat.le_of_ble_eq_true rfl) rfl rfl (k_stopsFog (y := iI (-1)) W M1.1 M1.2.1 (Or.inl rfl) hp6.1 hp6.2 (fun z => ⟨(hG.hv z).2.2.2.1, (hG.hv z).2.2.2.2.1⟩) ?_)
  refine Sx.istore_n (lv' := [(2, .int (whN (V 2) (V 3) 3 x (iI (-1)))), (0, .ref 253), (1, .int x)]) dX12_fog_14 (by decide) rfl ?_
  refine Sx.iload_n dX12_fog_15 rfl ?_
  refine Sx.iconst (v := (iI (-1))) dX12_fog_16 (by decide) ?_
  refine Sx.icmp_eqV (t := 26) dX12_fog_17 (by decide) (vX (whN (V 2) (V 3) 3 x (iI (-1)))) (vZ (by decide)) (fun c17 => ?_) (fun c17 => ?_)
  · have hk : whN (V 2) (V 3) 3 x (iI (-1)) = -1 := x_m1 c17
    have hH := hG.hv (fun z => by rw [show whN (V 2) (V 3) 3 x (iI (-1)) = 0 from if_pos z] at hk; exact absurd hk (by decide))
    have hO := Ok_of hH.2.2.2.1 hH.2.2.2.2.1 hk
    obtain ⟨p, rfl, hp, hne⟩ := ok_3 hO
    refine Sx.sub' [(0, .ref 253), (1, .int (nI p))] rfl ?_
    refine Sx.aload_n dX12_fog_26 rfl ?_
    refine Sx.callV0 dX12_fog_27 lkv_X12_396 (rcv_12 (o_253 W)) (by decide) (by decide) (Nat.le_of_ble_eq_true rfl) rfl rfl (k_remember W M1 hb hG.b4 (fun I2 hM2 r2 t2 => ?_))
    have hf2 := hf1.tr (FM.i (R := R) (L := L) fun q hq => r2 q (by omega) (by omega))
    have w2 := hM2.w3
    obtain ⟨⟨f1, f2, f3, f4, f5, f6, f7, f8, f9, f10, f11, f12, f13, f14, f15, f16⟩, f17, -, -⟩ := id hH.2.2.2.2
    obtain ⟨p1, p2, p3, p4, p5, p6, p7, p8, p9⟩ := id hH.2.2.2.1
    refine Sx.aload_n dX12_fog_30 rfl ?_
    refine Sx.getfR dX12_fog_31 lkf_X12_61_12 (o_253 W) (r_253_32 W) ?_
    refine Sx.bipush (v := (nI 19)) dX12_fog_34 (by decide) ?_
    refine Sx.ialdN dX12_fog_36 (a_266 W) (by omega) (by decide) (v := (nI (V 3 139))) (by exact w2.1.2.2.1) ?_
    refine Sx.istore_n (lv' := [(3, .int (nI (V 3 139))), (0, .ref 253), (1, .int (nI p))]) dX12_fog_37 (by decide) rfl ?_
    refine Sx.aload_n dX12_fog_38 rfl ?_
    refine Sx.getfR dX12_fog_39 lkf_X12_61_12 (o_253 W) (r_253_32 W) ?_
    refine Sx.bipush (v := (nI 19)) dX12_fog_42 (by decide) ?_
    refine Sx.iload_n dX12_fog_44 rfl ?_
    refine Sx.iastN dX12_fog_45 (a_266 W) (by omega) (by decide) (fun I3 e3 o3 => ?_)
    refine Sx.iload_n dX12_fog_46 rfl ?_
    refine Sx.iret dX12_fog_47 rfl rfl ?_
    have mn := (w2.set (b := 139) (x := p) (by omega) (v := nI (p)) (by rw [if_neg (by omega)]))
    have hr := MI.row (I' := I3) (F := upn (V 3) 139 p) hM2 (rmb hb) (fun q hq => by rw [o3 q hq]) (by rw [e3]; exact mn)
    exact pXX rfl (act_ok h hk (by rw [cq_3 _ _ _ _ (by omega)]; exact hr) (hf2.tr (FM.i fun q hq => by rw [o3 q (by omega)])))
  · obtain ⟨k, hk5, hk⟩ := (whN_k (V 2) (V 3) 3 x (iI (-1))).resolve_left (x_n1 c17)
    refine Sx.aload_n dX12_fog_20 rfl ?_
    refine Sx.iload_n dX12_fog_21 rfl ?_
    refine Sx.callV1 dX12_fog_22 lkv_X12_389 (rcv_12 (o_253 W)) (by decide) (by decide) (Nat.le_of_ble_eq_true rfl) rfl rfl (k_refX hk W M1 hk5 (by have := hG.st hk5; omega) (fun I4 hM4 o4 => ?_))
    have hf4 := hf1.tr (FM.i (R := R) (L := L) fun q hq => o4 q (by omega))
    refine Sx.iret dX12_fog_25 rfl rfl ?_
    exact act_no h hk hk5 hM4 hf4
set_option maxRecDepth 20000 in
set_option maxHeartbeats 1000000 in
theorem k_eclipse {G : Gt} {l : Launch} {Z : Zt} {R : Rt} {I : It} {L : Lt} {post : Pt'} {V : Vt} {N : Nat} (W : WF Z R) (hM : MI V I L) (hG : GV N V) (hN : N < 2147483647) (h : ActK post Z R I L V 4 (iI (-1)) (iI (-1)) (nI (V 3 142 - 10))) : Cx G l mX12_eclipse 3 0 0 [.ref 253] Z R I L post := by
  refine Cx.of (by decide +kernel) (by exact Nat.le_of_ble_eq_true rfl) ?_
  refine Sx.aload_n dX12_eclipse_0 rfl ?_
  refine Sx.iconst (v := (nI 0)) dX12_eclipse_1 (by decide) ?_
  refine Sx.putfV dX12_eclipse_2 lkp_X12_109_12 (o_253 W) rfl rfl (fun I1 e1 o1 => ?_)
  have M1 := hM.th (j := 0) (by unfold sfJ; decide) e1 o1
  have hf1 : FM R I L R I1 L := FM.i fun q hq => o1 q (by omega)
  have hp6 := hG.p
  have hb := hG.b
  refine Sx.aload_n dX12_eclipse_5 rfl ?_
  refine Sx.aload_n dX12_eclipse_6 rfl ?_
  refine Sx.getfR dX12_eclipse_7 lkf_X12_61_12 (o_253 W) (r_253_32 W) ?_
  refine Sx.callV1 dX12_eclipse_10 lkv_X12_408 (rcv_12 (o_253 W)) (by decide) (by decide) (Nat.le_of_ble_eq_true rfl) rfl rfl (k_stopsEclipse (x := iI (-1)) (y := iI (-1)) W M1.1 M1.2.1 (Or.inl rfl) hp6.1 hp6.2 (fun z => ⟨(hG.hv z).2.2.2.1, (hG.hv z).2.2.2.2.1⟩) ?_)
  refine Sx.istore_n (lv' := [(1, .int (whN (V 2) (V 3) 4 (iI (-1)) (iI (-1)))), (0, .ref 253)]) dX12_eclipse_13 (by decide) rfl ?_
  refine Sx.iload_n dX12_eclipse_14 rfl ?_
  refine Sx.iconst (v := (iI (-1))) dX12_eclipse_15 (by decide) ?_
  refine Sx.icmp_eqV (t := 25) dX12_eclipse_16 (by decide) (vX (whN (V 2) (V 3) 4 (iI (-1)) (iI (-1)))) (vZ (by decide)) (fun c16 => ?_) (fun c16 => ?_)
  · have hk : whN (V 2) (V 3) 4 (iI (-1)) (iI (-1)) = -1 := x_m1 c16
    have hH := hG.hv (fun z => by rw [show whN (V 2) (V 3) 4 (iI (-1)) (iI (-1)) = 0 from if_pos z] at hk; exact absurd hk (by decide))
    have hO := Ok_of hH.2.2.2.1 hH.2.2.2.2.1 hk
    obtain ⟨hc0, hc⟩ := ok_4 hO
    refine Sx.sub' [(0, .ref 253)] rfl ?_
    refine Sx.aload_n dX12_eclipse_25 rfl ?_
    refine Sx.callV0 dX12_eclipse_26 lkv_X12_396 (rcv_12 (o_253 W)) (by decide) (by decide) (Nat.le_of_ble_eq_true rfl) rfl rfl (k_remember W M1 hb hG.b4 (fun I2 hM2 r2 t2 => ?_))
    have hf2 := hf1.tr (FM.i (R := R) (L := L) fun q hq => r2 q (by omega) (by omega))
    have w2 := hM2.w3
    obtain ⟨⟨f1, f2, f3, f4, f5, f6, f7, f8, f9, f10, f11, f12, f13, f14, f15, f16⟩, f17, -, -⟩ := id hH.2.2.2.2
    obtain ⟨p1, p2, p3, p4, p5, p6, p7, p8, p9⟩ := id hH.2.2.2.1
    refine Sx.aload_n dX12_eclipse_29 rfl ?_
    refine Sx.getfR dX12_eclipse_30 lkf_X12_61_12 (o_253 W) (r_253_32 W) ?_
    refine Sx.bipush (v := (nI 20)) dX12_eclipse_33 (by decide) ?_
    refine Sx.iconst (v := (nI 1)) dX12_eclipse_35 (by decide) ?_
    refine Sx.iastN dX12_eclipse_36 (a_266 W) (by omega) (by decide) (fun I3 e3 o3 => ?_)
    refine Sx.aload_n dX12_eclipse_37 rfl ?_
    refine Sx.getfR dX12_eclipse_38 lkf_X12_61_12 (o_253 W) (r_253_32 W) ?_
    refine Sx.bipush (v := (nI 22)) dX12_eclipse_41 (by decide) ?_
    refine Sx.dup2 dX12_eclipse_43 rfl rfl ?_
    refine Sx.ialdN dX12_eclipse_44 (a_266 W) (by omega) (by decide) (v := (nI (V 3 142))) (by rw [e3, upd_nj _ _ (by omega)]; exact w2.1.2.2.2.2.2.1) ?_
    refine Sx.bipush (v := (nI 10)) dX12_eclipse_45 (by decide) ?_
    refine Sx.isubN dX12_eclipse_47 (by omega) ?_
    refine Sx.iastN dX12_eclipse_48 (a_266 W) (by omega) (by decide) (fun I4 e4 o4 => ?_)
    refine Sx.aload_n dX12_eclipse_49 rfl ?_
    refine Sx.getfR dX12_eclipse_50 lkf_X12_61_12 (o_253 W) (r_253_32 W) ?_
    refine Sx.bipush (v := (nI 22)) dX12_eclipse_53 (by decide) ?_
    refine Sx.ialdN dX12_eclipse_55 (a_266 W) (by omega) (by decide) (v := (nI ((V 3 142) - 10))) (by rw [e4, upd_at]) ?_
    refine Sx.iret dX12_eclipse_56 rfl rfl ?_
    have mn := ((w2.set (b := 140) (x := 1) (by omega) (v := nI (1)) (by rw [if_neg (by omega)])).set (b := 142) (x := V 3 142 - 10) (by omega) (v := nI (V 3 142 - 10)) (by rw [if_neg (by omega)]))
    have hr := MI.row (I' := I4) (F := upn (upn (V 3) 140 1) 142 (V 3 142 - 10)) hM2 (rmb hb) (fun q hq => by rw [o4 q hq, o3 q hq]) (by rw [e4, e3]; exact mn)
    exact pXX rfl (act_ok h hk (by rw [cq_4 _ _ _ _ _]; exact hr) (hf2.tr (FM.i fun q hq => by rw [o4 q (by omega), o3 q (by omega)])))
  · obtain ⟨k, hk5, hk⟩ := (whN_k (V 2) (V 3) 4 (iI (-1)) (iI (-1))).resolve_left (x_n1 c16)
    refine Sx.aload_n dX12_eclipse_19 rfl ?_
    refine Sx.iload_n dX12_eclipse_20 rfl ?_
    refine Sx.callV1 dX12_eclipse_21 lkv_X12_389 (rcv_12 (o_253 W)) (by decide) (by decide) (Nat.le_of_ble_eq_true rfl) rfl rfl (k_refX hk W M1 hk5 (by have := hG.st hk5; omega) (fun I5 hM5 o5 => ?_))
    have hf5 := hf1.tr (FM.i (R := R) (L := L) fun q hq => o5 q (by omega))
    refine Sx.iret dX12_eclipse_24 rfl rfl ?_
    exact act_no h hk hk5 hM5 hf5
set_option maxRecDepth 20000 in
set_option maxHeartbeats 1000000 in
theorem k_candles {G : Gt} {l : Launch} {Z : Zt} {R : Rt} {I : It} {L : Lt} {post : Pt'} {V : Vt} {N : Nat} {x : Int32} (W : WF Z R) (hM : MI V I L) (hG : GV N V) (hN : N < 2147483647) (h : ActK post Z R I L V 5 x (iI (-1)) (nI (V 3 141 + xN x))) : Cx G l mX12_candles 3 0 0 [.ref 253, .int x] Z R I L post := by
  refine Cx.of (by decide +kernel) (by exact Nat.le_of_ble_eq_true rfl) ?_
  refine Sx.aload_n dX12_candles_0 rfl ?_
  refine Sx.iconst (v := (nI 0)) dX12_candles_1 (by decide) ?_
  refine Sx.putfV dX12_candles_2 lkp_X12_109_12 (o_253 W) rfl rfl (fun I1 e1 o1 => ?_)
  have M1 := hM.th (j := 0) (by unfold sfJ; decide) e1 o1
  have hf1 : FM R I L R I1 L := FM.i fun q hq => o1 q (by omega)
  have hp6 := hG.p
  have hb := hG.b
  refine Sx.aload_n dX12_candles_5 rfl ?_
  refine Sx.aload_n dX12_candles_6 rfl ?_
  refine Sx.getfR dX12_candles_7 lkf_X12_61_12 (o_253 W) (r_253_32 W) ?_
  refine Sx.iload_n dX12_candles_10 rfl ?_
  refine Sx.callV2 dX12_candles_11 lkv_X12_411 (rcv_12 (o_253 W)) (by decide) (by decide) (Nat.le_of_ble_eq_true rfl) rfl rfl (k_stopsCandles (y := iI (-1)) W M1.1 M1.2.1 (Or.inl rfl) hp6.1 hp6.2 (fun z => ⟨(hG.hv z).2.2.2.1, (hG.hv z).2.2.2.2.1⟩) ?_)
  refine Sx.istore_n (lv' := [(2, .int (whN (V 2) (V 3) 5 x (iI (-1)))), (0, .ref 253), (1, .int x)]) dX12_candles_14 (by decide) rfl ?_
  refine Sx.iload_n dX12_candles_15 rfl ?_
  refine Sx.iconst (v := (iI (-1))) dX12_candles_16 (by decide) ?_
  refine Sx.icmp_eqV (t := 26) dX12_candles_17 (by decide) (vX (whN (V 2) (V 3) 5 x (iI (-1)))) (vZ (by decide)) (fun c17 => ?_) (fun c17 => ?_)
  · have hk : whN (V 2) (V 3) 5 x (iI (-1)) = -1 := x_m1 c17
    have hH := hG.hv (fun z => by rw [show whN (V 2) (V 3) 5 x (iI (-1)) = 0 from if_pos z] at hk; exact absurd hk (by decide))
    have hO := Ok_of hH.2.2.2.1 hH.2.2.2.2.1 hk
    obtain ⟨p, rfl, hp, hp9, hp2, hp20⟩ := ok_5 hO
    refine Sx.sub' [(0, .ref 253), (1, .int (nI p))] rfl ?_
    refine Sx.aload_n dX12_candles_26 rfl ?_
    refine Sx.callV0 dX12_candles_27 lkv_X12_396 (rcv_12 (o_253 W)) (by decide) (by decide) (Nat.le_of_ble_eq_true rfl) rfl rfl (k_remember W M1 hb hG.b4 (fun I2 hM2 r2 t2 => ?_))
    have hf2 := hf1.tr (FM.i (R := R) (L := L) fun q hq => r2 q (by omega) (by omega))
    have w2 := hM2.w3
    obtain ⟨⟨f1, f2, f3, f4, f5, f6, f7, f8, f9, f10, f11, f12, f13, f14, f15, f16⟩, f17, -, -⟩ := id hH.2.2.2.2
    obtain ⟨p1, p2, p3, p4, p5, p6, p7, p8, p9⟩ := id hH.2.2.2.1
    refine Sx.aload_n dX12_candles_30 rfl ?_
    refine Sx.getfR dX12_candles_31 lkf_X12_61_12 (o_253 W) (r_253_32 W) ?_
    refine Sx.bipush (v := (nI 21)) dX12_candles_34 (by decide) ?_
    refine Sx.dup2 dX12_candles_36 rfl rfl ?_
    refine Sx.ialdN dX12_candles_37 (a_266 W) (by omega) (by decide) (v := (nI (V 3 141))) (by exact w2.1.2.2.2.2.1) ?_
    refine Sx.iload_n dX12_candles_38 rfl ?_
    refine Sx.iaddN dX12_candles_39 ?_
    refine Sx.iastN dX12_candles_40 (a_266 W) (by omega) (by decide) (fun I3 e3 o3 => ?_)
    refine Sx.aload_n dX12_candles_41 rfl ?_
    refine Sx.getfR dX12_candles_42 lkf_X12_61_12 (o_253 W) (r_253_32 W) ?_
    refine Sx.bipush (v := (nI 22)) dX12_candles_45 (by decide) ?_
    refine Sx.dup2 dX12_candles_47 rfl rfl ?_
    refine Sx.ialdN dX12_candles_48 (a_266 W) (by omega) (by decide) (v := (nI (V 3 142))) (by rw [e3, upd_nj _ _ (by omega)]; exact w2.1.2.2.2.2.2.1) ?_
    refine Sx.iload_n dX12_candles_49 rfl ?_
    refine Sx.isubN dX12_candles_50 (by omega) ?_
    refine Sx.iastN dX12_candles_51 (a_266 W) (by omega) (by decide) (fun I4 e4 o4 => ?_)
    refine Sx.aload_n dX12_candles_52 rfl ?_
    refine Sx.getfR dX12_candles_53 lkf_X12_61_12 (o_253 W) (r_253_32 W) ?_
    refine Sx.bipush (v := (nI 21)) dX12_candles_56 (by decide) ?_
    refine Sx.ialdN dX12_candles_58 (a_266 W) (by omega) (by decide) (v := (nI ((V 3 141) + p))) (by rw [e4, upd_nj _ _ (by omega), e3, upd_at]) ?_
    refine Sx.iret dX12_candles_59 rfl rfl ?_
    have mn := ((w2.set (b := 141) (x := V 3 141 + p) (by omega) (v := nI (V 3 141 + p)) (by rw [if_neg (by omega)])).set (b := 142) (x := V 3 142 - p) (by omega) (v := nI (V 3 142 - p)) (by rw [if_neg (by omega)]))
    have hr := MI.row (I' := I4) (F := upn (upn (V 3) 141 (V 3 141 + p)) 142 (V 3 142 - p)) hM2 (rmb hb) (fun q hq => by rw [o4 q hq, o3 q hq]) (by rw [e4, e3]; exact mn)
    exact pXX (by rw [xN_n (by omega)]) (act_ok h hk (by rw [cq_5 _ _ _ _ (by omega)]; exact hr) (hf2.tr (FM.i fun q hq => by rw [o4 q (by omega), o3 q (by omega)])))
  · obtain ⟨k, hk5, hk⟩ := (whN_k (V 2) (V 3) 5 x (iI (-1))).resolve_left (x_n1 c17)
    refine Sx.aload_n dX12_candles_20 rfl ?_
    refine Sx.iload_n dX12_candles_21 rfl ?_
    refine Sx.callV1 dX12_candles_22 lkv_X12_389 (rcv_12 (o_253 W)) (by decide) (by decide) (Nat.le_of_ble_eq_true rfl) rfl rfl (k_refX hk W M1 hk5 (by have := hG.st hk5; omega) (fun I5 hM5 o5 => ?_))
    have hf5 := hf1.tr (FM.i (R := R) (L := L) fun q hq => o5 q (by omega))
    refine Sx.iret dX12_candles_25 rfl rfl ?_
    exact act_no h hk hk5 hM5 hf5
set_option maxRecDepth 20000 in
set_option maxHeartbeats 1000000 in
theorem k_bed {G : Gt} {l : Launch} {Z : Zt} {R : Rt} {I : It} {L : Lt} {post : Pt'} {V : Vt} {N : Nat} {x : Int32} (W : WF Z R) (hM : MI V I L) (hG : GV N V) (hN : N < 2147483647) (h : ActK post Z R I L V 2 x (iI (-1)) (nI ((V 3 138 ^^^ 2 ^ xN x) / 2 ^ xN x % 2))) : Cx G l mX12_bed 3 0 0 [.ref 253, .int x] Z R I L post := by
  refine Cx.of (by decide +kernel) (by exact Nat.le_of_ble_eq_true rfl) ?_
  refine Sx.aload_n dX12_bed_0 rfl ?_
  refine Sx.iconst (v := (nI 0)) dX12_bed_1 (by decide) ?_
  refine Sx.putfV dX12_bed_2 lkp_X12_109_12 (o_253 W) rfl rfl (fun I1 e1 o1 => ?_)
  have M1 := hM.th (j := 0) (by unfold sfJ; decide) e1 o1
  have hf1 : FM R I L R I1 L := FM.i fun q hq => o1 q (by omega)
  have hp6 := hG.p
  have hb := hG.b
  refine Sx.aload_n dX12_bed_5 rfl ?_
  refine Sx.iload_n dX12_bed_6 rfl ?_
  refine Sx.callV1 dX12_bed_7 lkv_X12_384 (rcv_12 (o_253 W)) (by decide) (by decide) (Nat.le_of_ble_eq_true rfl) rfl rfl (k_isPerson W M1.1 (by omega) ?_)
  refine Sx.if_neD (t := 19) dX12_bed_10 (by decide) (fun c10 => ?_) (fun c10 => ?_)
  · have hk : whN (V 2) (V 3) 2 x (iI (-1)) = -1 := by
      unfold whN
      rw [if_neg (by omega), if_neg (by decide), if_neg (by decide), if_pos rfl, isN_D (by omega), if_pos (decide_eq_true c10)]
    have hH := hG.hv (fun z => by rw [show whN (V 2) (V 3) 2 x (iI (-1)) = 0 from if_pos z] at hk; exact absurd hk (by decide))
    have hO := Ok_of hH.2.2.2.1 hH.2.2.2.2.1 hk
    obtain ⟨p, rfl, hp⟩ := ok_2 hO
    refine Sx.sub' [(0, .ref 253), (1, .int (nI p))] rfl ?_
    refine Sx.aload_n dX12_bed_19 rfl ?_
    refine Sx.callV0 dX12_bed_20 lkv_X12_396 (rcv_12 (o_253 W)) (by decide) (by decide) (Nat.le_of_ble_eq_true rfl) rfl rfl (k_remember W M1 hb hG.b4 (fun I2 hM2 r2 t2 => ?_))
    have hf2 := hf1.tr (FM.i (R := R) (L := L) fun q hq => r2 q (by omega) (by omega))
    have w2 := hM2.w3
    obtain ⟨⟨f1, f2, f3, f4, f5, f6, f7, f8, f9, f10, f11, f12, f13, f14, f15, f16⟩, f17, -, -⟩ := id hH.2.2.2.2
    obtain ⟨p1, p2, p3, p4, p5, p6, p7, p8, p9⟩ := id hH.2.2.2.1
    refine Sx.aload_n dX12_bed_23 rfl ?_
    refine Sx.getfR dX12_bed_24 lkf_X12_61_12 (o_253 W) (r_253_32 W) ?_
    refine Sx.bipush (v := (nI 18)) dX12_bed_27 (by decide) ?_
    refine Sx.dup2 dX12_bed_29 rfl rfl ?_
    refine Sx.ialdN dX12_bed_30 (a_266 W) (by omega) (by decide) (v := (nI (V 3 138))) (by exact w2.1.2.1) ?_
    refine Sx.iconst (v := (nI 1)) dX12_bed_31 (by decide) ?_
    refine Sx.iload_n dX12_bed_32 rfl ?_
    refine Sx.ishl1 dX12_bed_33 (by omega) ?_
    refine Sx.ixorN dX12_bed_34 ?_
    refine Sx.iastN dX12_bed_35 (a_266 W) (by omega) (by decide) (fun I3 e3 o3 => ?_)
    refine Sx.aload_n dX12_bed_36 rfl ?_
    refine Sx.getfR dX12_bed_37 lkf_X12_61_12 (o_253 W) (r_253_32 W) ?_
    refine Sx.bipush (v := (nI 18)) dX12_bed_40 (by decide) ?_
    refine Sx.ialdN dX12_bed_42 (a_266 W) (by omega) (by decide) (v := (nI ((V 3 138) ^^^ (2 ^ p)))) (by rw [e3, upd_at]) ?_
    refine Sx.iload_n dX12_bed_43 rfl ?_
    refine Sx.ishrN dX12_bed_44 (by have := Nat.xor_lt_two_pow (n := 6) f7 (Nat.pow_lt_pow_of_lt (a := 2) (by decide) (show p < 6 by omega)); omega) (by omega) ?_
    refine Sx.iconst (v := (nI 1)) dX12_bed_45 (by decide) ?_
    refine Sx.iand1 dX12_bed_46 (Nat.lt_of_le_of_lt (Nat.div_le_self _ _) (by have := Nat.xor_lt_two_pow (n := 6) f7 (Nat.pow_lt_pow_of_lt (a := 2) (by decide) (show p < 6 by omega)); omega)) ?_
    refine Sx.iret dX12_bed_47 rfl rfl ?_
    have mn := (w2.set (b := 138) (x := V 3 138 ^^^ 2 ^ p) (by omega) (v := nI (V 3 138 ^^^ 2 ^ p)) (by rw [if_neg (by omega)]))
    have hr := MI.row (I' := I3) (F := upn (V 3) 138 (V 3 138 ^^^ 2 ^ p)) hM2 (rmb hb) (fun q hq => by rw [o3 q hq]) (by rw [e3]; exact mn)
    exact pXX (by rw [xN_n (by omega)]) (act_ok h hk (by rw [cq_2 _ _ _ _ (by omega)]; exact hr) (hf2.tr (FM.i fun q hq => by rw [o3 q (by omega)])))
  · refine Sx.aload_n dX12_bed_13 rfl ?_
    refine Sx.iconst (v := (nI 0)) dX12_bed_14 (by decide) ?_
    refine Sx.callV1 dX12_bed_15 lkv_X12_389 (rcv_12 (o_253 W)) (by decide) (by decide) (Nat.le_of_ble_eq_true rfl) rfl rfl (k_refused W M1 (by decide) (by have := hG.st (k := 0) (by decide); omega) (fun I4 hM4 o4 => ?_))
    have hf4 := hf1.tr (FM.i (R := R) (L := L) fun q hq => o4 q (by omega))
    refine Sx.iret dX12_bed_18 rfl rfl ?_
    exact act_no h (k := 0) (by unfold whN; split <;> first | decide | (rw [if_neg (by decide), if_neg (by decide), if_pos rfl, isN_D (by omega), if_neg (fun z => c10 (of_decide_eq_true z))]; decide)) (by decide) hM4 hf4
set_option maxRecDepth 20000 in
set_option maxHeartbeats 1000000 in
theorem k_give {G : Gt} {l : Launch} {Z : Zt} {R : Rt} {I : It} {L : Lt} {post : Pt'} {V : Vt} {N : Nat} {x : Int32} (W : WF Z R) (hM : MI V I L) (hG : GV N V) (hN : N < 2147483647) (h : ActK post Z R I L V 6 x (iI (-1)) (nI (V 3 142 + xN x))) : Cx G l mX12_give 3 0 0 [.ref 253, .int x] Z R I L post := by
  refine Cx.of (by decide +kernel) (by exact Nat.le_of_ble_eq_true rfl) ?_
  have hx := x_rg x
  refine Sx.aload_n dX12_give_0 rfl ?_
  refine Sx.iconst (v := (nI 0)) dX12_give_1 (by decide) ?_
  refine Sx.putfV dX12_give_2 lkp_X12_109_12 (o_253 W) rfl rfl (fun I1 e1 o1 => ?_)
  have M1 := hM.th (j := 0) (by unfold sfJ; decide) e1 o1
  have hf1 : FM R I L R I1 L := FM.i fun q hq => o1 q (by omega)
  have hp6 := hG.p
  have hb := hG.b
  refine Sx.aload_n dX12_give_5 rfl ?_
  refine Sx.getfV (v := (nI (V 2 35))) dX12_give_6 lkf_X12_307_12 (o_253 W) M1.1.1.2.2.2.1 ?_
  refine Sx.if_neV (t := 18) dX12_give_9 (by decide) (vN (by omega)) (fun c9 => ?_) (fun c9 => ?_)
  · have hn0 : ¬ V 2 35 = 0 := by omega
    have hH := hG.hv hn0
    have g142 := hH.2.2.2.2.1.2.2.2.2.2.2.2.2.2.2.1
    have l0 := x_ltL x 1
    have l9 := x_ltL 50 x
    have t0 : (1 : Int32).toInt = 1 := by decide
    have t9 : (50 : Int32).toInt = 50 := by decide
    refine Sx.iload_n dX12_give_18 rfl ?_
    refine Sx.i2l dX12_give_19 ?_
    refine Sx.lconst (v := 1) dX12_give_20 (by decide) ?_
    refine Sx.ldc2 dX12_give_21 lkk_X12_414 ?_
    refine Sx.callS3 dX12_give_24 lkc_X12_230  (by decide) (by decide) (Nat.le_of_ble_eq_true rfl) rfl rfl (k_isIn (vLi (vX x)) (show VL 1 1 from rfl) (show VL 50 50 from rfl) ?_)
    refine Sx.if_neD (t := 36) dX12_give_27 (by decide) (fun c27 => ?_) (fun c27 => ?_)
    · have hx0 : x = nI (xN x) := x_nn (by omega)
      have hxz : x.toInt = (xN x : Int) := (Int.toNat_of_nonneg (by omega)).symm
      obtain ⟨p, hpx⟩ : ∃ p, p = xN x := ⟨_, rfl⟩
      rw [← hpx] at hx0 hxz
      subst hx0
      have hW : whN (V 2) (V 3) 6 (nI p) (iI (-1)) = if (999 : Int32) < nI (V 3 142) + nI p then 3 else -1 := by unfold whN; rw [if_neg hn0, if_neg (by decide), if_neg (by decide), if_neg (by decide), if_neg (by decide), if_neg (by decide), if_neg (by decide), if_pos rfl, if_neg (nbx (by omega) (by omega))]
      have l3 := x_ltL 999 (nI (V 3 142) + nI p)
      rw [nI_add, nI_toInt (by omega), show (999 : Int32).toInt = 999 by decide] at l3
      rw [nI_add] at hW
      refine Sx.sub' [(0, .ref 253), (1, .int (nI p))] rfl ?_
      refine Sx.aload_n dX12_give_36 rfl ?_
      refine Sx.getfR dX12_give_37 lkf_X12_61_12 (o_253 W) (r_253_32 W) ?_
      refine Sx.bipush (v := (nI 22)) dX12_give_40 (by decide) ?_
      refine Sx.ialdN dX12_give_42 (a_266 W) (by omega) (by decide) (v := (nI (V 3 142))) (M1.2.1.2.2.2.2.2.1) ?_
      refine Sx.iload_n dX12_give_43 rfl ?_
      refine Sx.iaddN dX12_give_44 ?_
      refine Sx.sipush (v := (nI 999)) dX12_give_45 (by decide) ?_
      refine Sx.icmp_leV (t := 57) dX12_give_48 (by decide) (vN (by omega)) (vN (by decide)) (fun c48 => ?_) (fun c48 => ?_)
      · have hk : whN (V 2) (V 3) 6 (nI p) (iI (-1)) = -1 := by rw [hW, if_neg (fun z => by have := l3.mp z; omega)]
        refine Sx.aload_n dX12_give_57 rfl ?_
        refine Sx.callV0 dX12_give_58 lkv_X12_396 (rcv_12 (o_253 W)) (by decide) (by decide) (Nat.le_of_ble_eq_true rfl) rfl rfl (k_remember W M1 hb hG.b4 (fun I2 hM2 r2 t2 => ?_))
        have hf2 := hf1.tr (FM.i (R := R) (L := L) fun q hq => r2 q (by omega) (by omega))
        have w2 := hM2.w3
        obtain ⟨⟨f1, f2, f3, f4, f5, f6, f7, f8, f9, f10, f11, f12, f13, f14, f15, f16⟩, f17, -, -⟩ := id hH.2.2.2.2
        obtain ⟨p1, p2, p3, p4, p5, p6, p7, p8, p9⟩ := id hH.2.2.2.1
        refine Sx.aload_n dX12_give_61 rfl ?_
        refine Sx.getfR dX12_give_62 lkf_X12_61_12 (o_253 W) (r_253_32 W) ?_
        refine Sx.bipush (v := (nI 22)) dX12_give_65 (by decide) ?_
        refine Sx.dup2 dX12_give_67 rfl rfl ?_
        refine Sx.ialdN dX12_give_68 (a_266 W) (by omega) (by decide) (v := (nI (V 3 142))) (by exact w2.1.2.2.2.2.2.1) ?_
        refine Sx.iload_n dX12_give_69 rfl ?_
        refine Sx.iaddN dX12_give_70 ?_
        refine Sx.iastN dX12_give_71 (a_266 W) (by omega) (by decide) (fun I3 e3 o3 => ?_)
        refine Sx.aload_n dX12_give_72 rfl ?_
        refine Sx.getfR dX12_give_73 lkf_X12_61_12 (o_253 W) (r_253_32 W) ?_
        refine Sx.bipush (v := (nI 22)) dX12_give_76 (by decide) ?_
        refine Sx.ialdN dX12_give_78 (a_266 W) (by omega) (by decide) (v := (nI ((V 3 142) + p))) (by rw [e3, upd_at]) ?_
        refine Sx.iret dX12_give_79 rfl rfl ?_
        have mn := (w2.set (b := 142) (x := V 3 142 + p) (by omega) (v := nI (V 3 142 + p)) (by rw [if_neg (by omega)]))
        have hr := MI.row (I' := I3) (F := upn (V 3) 142 (V 3 142 + p)) hM2 (rmb hb) (fun q hq => by rw [o3 q hq]) (by rw [e3]; exact mn)
        exact pXX (by rw [xN_n (by omega)]) (act_ok h hk (by rw [cq_6 _ _ _ _ (by omega)]; exact hr) (hf2.tr (FM.i fun q hq => by rw [o3 q (by omega)])))
      · refine Sx.aload_n dX12_give_51 rfl ?_
        refine Sx.iconst (v := (nI 3)) dX12_give_52 (by decide) ?_
        refine Sx.callV1 dX12_give_53 lkv_X12_389 (rcv_12 (o_253 W)) (by decide) (by decide) (Nat.le_of_ble_eq_true rfl) rfl rfl (k_refused W M1 (by decide) (by have := hG.st (k := 3) (by decide); omega) (fun I4 hM4 o4 => ?_))
        have hf4 := hf1.tr (FM.i (R := R) (L := L) fun q hq => o4 q (by omega))
        refine Sx.iret dX12_give_56 rfl rfl ?_
        exact act_no h (k := 3) (by rw [hW, if_pos (l3.mpr (by omega))]; decide) (by decide) hM4 hf4
    · refine Sx.aload_n dX12_give_30 rfl ?_
      refine Sx.iconst (v := (nI 1)) dX12_give_31 (by decide) ?_
      refine Sx.callV1 dX12_give_32 lkv_X12_389 (rcv_12 (o_253 W)) (by decide) (by decide) (Nat.le_of_ble_eq_true rfl) rfl rfl (k_refused W M1 (by decide) (by have := hG.st (k := 1) (by decide); omega) (fun I5 hM5 o5 => ?_))
      have hf5 := hf1.tr (FM.i (R := R) (L := L) fun q hq => o5 q (by omega))
      refine Sx.iret dX12_give_35 rfl rfl ?_
      exact act_no h (k := 1) (by unfold whN; rw [if_neg hn0, if_neg (by decide), if_neg (by decide), if_neg (by decide), if_neg (by decide), if_neg (by decide), if_neg (by decide), if_pos rfl, if_pos (pbx (by omega))]; decide) (by decide) hM5 hf5
  · refine Sx.aload_n dX12_give_12 rfl ?_
    refine Sx.iconst (v := (nI 0)) dX12_give_13 (by decide) ?_
    refine Sx.callV1 dX12_give_14 lkv_X12_389 (rcv_12 (o_253 W)) (by decide) (by decide) (Nat.le_of_ble_eq_true rfl) rfl rfl (k_refused W M1 (by decide) (by have := hG.st (k := 0) (by decide); omega) (fun I6 hM6 o6 => ?_))
    have hf6 := hf1.tr (FM.i (R := R) (L := L) fun q hq => o6 q (by omega))
    refine Sx.iret dX12_give_17 rfl rfl ?_
    exact act_no h (k := 0) (by unfold whN; rw [if_pos (by omega)]; decide) (by decide) hM6 hf6
