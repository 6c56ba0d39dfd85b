/-! what the class holds -/
def LI (I : It) (V : Vt) (i : Nat) : Prop := ∃ n, n ≤ 240 ∧ I (233 + 2 * i) 1 = nI n ∧ ∀ (d e f u y r : Nat), d < 1000 → e < 1000 → f < 1000 → u < 1000 → y < 1000 → r < 1000 →
  ∀ ℓ : Nat → Int32, ℓ 0 = nI d → ℓ 1 = nI e → ℓ 2 = nI f → ℓ 3 = nI u → ℓ 4 = nI y → ℓ 5 = nI r → exC (I (233 + 2 * i + 1)) ℓ n (n + 1) 0 false [] = some (iI (lawG (V (10 + i)) d e f u y r))
/-- the kept states: a ring -/
def HI (I : It) (V : Vt) : Prop := ∃ nx, nx < 40 ∧ I 147 2 = nI nx ∧ I 147 1 = nI (V 0 4) ∧ ∀ i, i < V 0 4 → rs (I (150 + 2 * ((nx + 39 - i) % 40))) (V (30 + i))
def CI (V : Vt) (R : Rt) (I : It) (L : Lt) : Prop :=
  (I 101 1 = nI (V 0 0) ∧ ∀ j, j < V 0 0 → I 102 j = nI (V 1 j)) ∧ rep 36 (I 104) (V 2) ∧ rs (I 230) (V 3) ∧
  (I 100 13 = nI (V 0 5) ∧ I 100 14 = nI (V 0 1) ∧ I 100 15 = nI (V 0 3) ∧ I 100 16 = iI ((V 0 2 : Int) - 1) ∧ I 100 17 = nI (V 0 6)) ∧
  (∀ i, i < V 0 1 → LI I V i) ∧ (R 114 3 = if V 0 2 = 0 then none else some (233 + 2 * (V 0 2 - 1))) ∧
  (∀ i, i < V 0 3 → I (243 + 2 * i) 1 = nI (V (20 + i) 60) ∧ ∀ z, z < 3 * V (20 + i) 60 → I (243 + 2 * i + 1) z = iI ((V (20 + i) z : Int) - 1)) ∧
  (∀ k, k < 5 → I 113 k = nI (V 4 k)) ∧ (V 0 5 = 1 → rs (I 232) (V 5)) ∧ HI I V ∧
  (I 136 7 = nI (V 0 7) ∧ ∀ i, i < V 0 7 → I 140 i = nI (V 6 i) ∧ I 142 i = nI (V 7 i) ∧ I 144 i = nI (V 8 i))
/-- the frame of a call of the class -/
def CF (R : Rt) (I : It) (L : Lt) (R' : Rt) (I' : It) (L' : Lt) : Prop := (∀ q, 253 ≤ q → I' q = I q) ∧ (∀ q, q ≠ 114 → L' q = L q) ∧ ∀ a j, ¬ (a = 114 ∧ j = 3) → R' a j = R a j
theorem CF.rf (R : Rt) (I : It) (L : Lt) : CF R I L R I L := ⟨fun _ _ => rfl, fun _ _ => rfl, fun _ _ _ => rfl⟩
theorem CF.tr {R R1 R2 : Rt} {I I1 I2 : It} {L L1 L2 : Lt} (h : CF R I L R1 I1 L1) (g : CF R1 I1 L1 R2 I2 L2) : CF R I L R2 I2 L2 := ⟨fun q hq => (g.1 q hq).trans (h.1 q hq), fun q hq => (g.2.1 q hq).trans (h.2.1 q hq), fun a j hj => (g.2.2 a j hj).trans (h.2.2 a j hj)⟩
theorem CF.i {R : Rt} {I I' : It} {L : Lt} (h : ∀ q, 253 ≤ q → I' q = I q) : CF R I L R I' L := ⟨h, fun _ _ => rfl, fun _ _ _ => rfl⟩
theorem WF.cf {Z : Zt} {R R' : Rt} (h : WF Z R) (g : ∀ a j, ¬ (a = 114 ∧ j = 3) → R' a j = R a j) : WF Z R' := by
  refine ⟨h.1, h.2.1, fun i q hq => ?_⟩
  have hd : ∀ q ∈ RFl, ¬ (q.1 = 114 ∧ q.2.1 = 3) := by decide +kernel
  rw [g _ _ (hd q (List.mem_of_getElem? hq))]
  exact h.2.2 i q hq
/-- what nobody owns -/
def csc (q : Nat) : Prop := q = 105 ∨ q = 106 ∨ q = 107 ∨ q = 108 ∨ q = 109 ∨ (115 ≤ q ∧ q ≤ 135) ∨ q = 137 ∨ q = 138 ∨ q = 145 ∨ q = 146 ∨ 253 ≤ q
theorem CI.sc {V : Vt} {R : Rt} {I I' : It} {L L' : Lt} (h : CI V R I L) (hb : V 0 1 ≤ 4 ∧ V 0 3 ≤ 4) (o : ∀ q, ¬ csc q → I' q = I q) : CI V R I' L' := by
  obtain ⟨a1, a2, a3, a4, a5, a6, a7, a8, a9, ⟨nx, b1, b2, b3, b4⟩, a11⟩ := h
  have e : ∀ q, q = 100 ∨ q = 101 ∨ q = 102 ∨ q = 104 ∨ q = 113 ∨ q = 136 ∨ q = 140 ∨ q = 142 ∨ q = 144 ∨ q = 147 ∨ q = 230 ∨ q = 232 → I' q = I q := fun q hq => o q (by unfold csc; omega)
  refine ⟨?_, ?_, ?_, ?_, fun i hi => ?_, a6, fun i hi => ?_, ?_, ?_, ⟨nx, b1, ?_, ?_, fun i hi => ?_⟩, ?_⟩
  · rw [e 101 (by decide), e 102 (by decide)]; exact a1
  · rw [e 104 (by decide)]; exact a2
  · rw [e 230 (by decide)]; exact a3
  · rw [e 100 (by decide)]; exact a4
  · unfold LI; rw [o (233 + 2 * i) (by unfold csc; omega), o (233 + 2 * i + 1) (by unfold csc; omega)]; exact a5 i hi
  · rw [o (243 + 2 * i) (by unfold csc; omega), o (243 + 2 * i + 1) (by unfold csc; omega)]; exact a7 i hi
  · rw [e 113 (by decide)]; exact a8
  · rw [e 232 (by decide)]; exact a9
  · rw [e 147 (by decide)]; exact b2
  · rw [e 147 (by decide)]; exact b3
  · rw [o (150 + 2 * ((nx + 39 - i) % 40)) (by unfold csc; have := Nat.mod_lt (nx + 39 - i) (show 0 < 40 by decide); omega)]; exact b4 i hi
  · rw [e 136 (by decide), e 140 (by decide), e 142 (by decide), e 144 (by decide)]; exact a11
theorem CI.lw {V : Vt} {R : Rt} {I : It} {L : Lt} (h : CI V R I L) (hb : V 0 1 ≤ 4 ∧ V 0 2 ≤ V 0 1) : LW R I (wlV V) := by
  have h6 := h.2.2.2.2.2.1
  unfold wlV
  by_cases c : V 0 2 = 0
  · rw [if_pos c] at h6 ⊢; exact Or.inl ⟨h6, rfl⟩
  · rw [if_neg c] at h6 ⊢
    obtain ⟨n, n1, n2, n3⟩ := h.2.2.2.2.1 (V 0 2 - 1) (by omega)
    refine Or.inr ⟨V 0 2 - 1, n, _, by omega, h6, rfl, n2, n1, fun d e f u y r h1 h2 h3 h4 h5 h6 => ⟨?_, n3 d e f u y r h1 h2 h3 h4 h5 h6⟩⟩
    have := law_b (V (10 + (V 0 2 - 1))) ⟨h1, h2, h3, h4, h5, h6⟩
    unfold bd6 at this
    omega
abbrev CQ (post : Pt') (Z : Zt) (R : Rt) (I : It) (L : Lt) (V : Vt) (v : Int32) : Prop := ∀ I' R' L', CI V R' I' L' → CF R I L R' I' L' → post (some (.int v)) Z R' I' L'
theorem repR {V : Vt} {R : Rt} {I : It} {L : Lt} (h : CI V R I L) : rep 5 (I 113) (V 4) := h.2.2.2.2.2.2.2.1
theorem d_gv {G : Gt} {l : Launch} {Z : Zt} {R : Rt} {I : It} {L : Lt} {post : Pt'} {s : Nat} {F : Nat → Nat} (hr : rwo Z R s 8 146) (hs : rs (I (s + 1)) F) (h : post (some (.int (iI ((F 143 : Int) - 1)))) Z R I L) : Cx G l mX7_get 1 0 0 [.ref s, .int (nI 143)] Z R I L post := c_sgv hr hs (by rw [show nI (F 143) - 1 = iI ((F 143 : Int) - 1) by rw [nI_iI, show (1 : Int32) = iI 1 by decide, iI_sub]]; exact h)
theorem d_isPerson {G : Gt} {l : Launch} {Z : Zt} {R : Rt} {I : It} {L : Lt} {post : Pt'} {P : Nat → Nat} {x : Int32} (W : WF Z R) (hp : rep 36 (I 104) P) (hn : P 35 < 2147483648) (h : post (some (.int (b2i (decide (0 ≤ x.toInt ∧ x.toInt < (P 35 : Int)))))) Z R I L) : Cx G l mX6_isPerson 2 0 0 [.ref 103, .int x] Z R I L post := c_isPerson (w_103r W) hp (by rw [isN_D hn]; exact h)
theorem d_isKind {G : Gt} {l : Launch} {Z : Zt} {R : Rt} {I : It} {L : Lt} {post : Pt'} {P : Nat → Nat} {x : Int32} (W : WF Z R) (hp : rep 36 (I 104) P) (hn : P 34 < 2147483648) (h : post (some (.int (b2i (decide (0 ≤ x.toInt ∧ x.toInt < (P 34 : Int)))))) Z R I L) : Cx G l mX6_isKind 2 0 0 [.ref 103, .int x] Z R I L post := c_isKind (w_103r W) hp (by rw [isN_D hn]; exact h)
theorem d_isDay {G : Gt} {l : Launch} {Z : Zt} {R : Rt} {I : It} {L : Lt} {post : Pt'} {P : Nat → Nat} {x : Int32} (W : WF Z R) (hp : rep 36 (I 104) P) (hn : P 0 < 2147483648) (h : post (some (.int (b2i (decide (0 ≤ x.toInt ∧ x.toInt < (P 0 : Int)))))) Z R I L) : Cx G l mX6_isDay 2 0 0 [.ref 103, .int x] Z R I L post := c_isDay (w_103r W) hp (by rw [isN_D hn]; exact h)
theorem Sx.aaldN {μ : Mi} {d bc bs pc : Nat} {lv : List (Nat × Value)} {st : List Value} {G : Gt} {l : Launch} {Z : Zt} {R : Rt} {I : It} {L : Lt} {post : Pt'} {a t n k q : Nat} (hd : decode μ.2.1 pc = .ok (.aaload, 1)) (ha : ar Z a t n) (h1 : 55 ≤ t) (h2 : t < 58) (hk : k < n) (hn : n < 2147483648) (hr : R a k = some q) (kk : Sx G l μ d bc bs (pc + 1) lv (.ref q :: st) Z R I L post) : Sx G l μ d bc bs pc lv (.int (nI k) :: .ref a :: st) Z R I L post :=
  Sx.aald hd ha h1 h2 (vp_in_nI hk hn) (by rw [nI_clamp (by omega)]; exact hr) kk
set_option maxRecDepth 20000 in
set_option maxHeartbeats 1000000 in
theorem d_isPort {G : Gt} {l : Launch} {Z : Zt} {R : Rt} {I : It} {L : Lt} {post : Pt'} {V : Vt} (W : WF Z R) (C : CI V R I L) (hb : V 2 35 < 2147483648) (h : post (some (.int (b2i (decide (V 2 35 ≠ 0))))) Z R I L) : Cx G l mX11_isPort 3 0 0 [.ref 100] Z R I L post := by
  refine Cx.of (by decide +kernel) (by exact Nat.le_of_ble_eq_true rfl) ?_
  refine Sx.aload_n dX11_isPort_0 rfl ?_
  refine Sx.getfR dX11_isPort_1 lkf_X11_19_11 (o_100 W) (r_100_1 W) ?_
  refine Sx.callV0 dX11_isPort_4 lkv_X11_142 (rcv_6 (o_103 W)) (by decide) (by decide) (Nat.le_of_ble_eq_true rfl) rfl rfl (c_pers (w_103r W) C.2.1 ?_)
  refine Sx.if_leV (t := 14) dX11_isPort_7 (by decide) (vN (by omega)) (fun c7 => ?_) (fun c7 => ?_)
  · refine Sx.iconst (v := (nI 0)) dX11_isPort_14 (by decide) ?_
    refine Sx.top (show _ = b2i false from rfl) ?_
    refine Sx.iret dX11_isPort_15 rfl (b2i_n _) ?_
    exact pBB (decide_eq_false (by omega)) h
  · refine Sx.iconst (v := (nI 1)) dX11_isPort_10 (by decide) ?_
    refine Sx.goto (t := 15) dX11_isPort_11 (by decide) ?_
    refine Sx.top (show _ = b2i true from rfl) ?_
    refine Sx.iret dX11_isPort_15 rfl (b2i_n _) ?_
    exact pBB (decide_eq_true (by omega)) h
set_option maxRecDepth 20000 in
set_option maxHeartbeats 1000000 in
theorem d_isCal {G : Gt} {l : Launch} {Z : Zt} {R : Rt} {I : It} {L : Lt} {post : Pt'} {V : Vt} {x : Int32} (W : WF Z R) (C : CI V R I L) (hb : V 0 3 < 2147483648) (h : post (some (.int (b2i (decide (0 ≤ x.toInt ∧ x.toInt < (V 0 3 : Int)))))) Z R I L) : Cx G l mX11_isCalendar 1 0 0 [.ref 100, .int x] Z R I L post := by
  refine Cx.of (by decide +kernel) (by exact Nat.le_of_ble_eq_true rfl) ?_
  have hx := x_rg x
  refine Sx.iload_n dX11_isCalendar_0 rfl ?_
  refine Sx.if_ltV (t := 16) dX11_isCalendar_1 (by decide) (vX x) (fun c1 => ?_) (fun c1 => ?_)
  · refine Sx.iconst (v := (nI 0)) dX11_isCalendar_16 (by decide) ?_
    refine Sx.top (show _ = b2i false from rfl) ?_
    refine Sx.iret dX11_isCalendar_17 rfl (b2i_n _) ?_
    exact pBB (decide_eq_false (by omega)) h
  · refine Sx.iload_n dX11_isCalendar_4 rfl ?_
    refine Sx.aload_n dX11_isCalendar_5 rfl ?_
    refine Sx.getfV (v := (nI (V 0 3))) dX11_isCalendar_6 lkf_X11_104_11 (o_100 W) C.2.2.2.1.2.2.1 ?_
    refine Sx.icmp_geV (t := 16) dX11_isCalendar_9 (by decide) (vX x) (vN (by omega)) (fun c9 => ?_) (fun c9 => ?_)
    · refine Sx.iconst (v := (nI 0)) dX11_isCalendar_16 (by decide) ?_
      refine Sx.top (show _ = b2i false from rfl) ?_
      refine Sx.iret dX11_isCalendar_17 rfl (b2i_n _) ?_
      exact pBB (decide_eq_false (by omega)) h
    · refine Sx.iconst (v := (nI 1)) dX11_isCalendar_12 (by decide) ?_
      refine Sx.goto (t := 17) dX11_isCalendar_13 (by decide) ?_
      refine Sx.top (show _ = b2i true from rfl) ?_
      refine Sx.iret dX11_isCalendar_17 rfl (b2i_n _) ?_
      exact pBB (decide_eq_true (by omega)) h
set_option maxRecDepth 20000 in
set_option maxHeartbeats 1000000 in
theorem d_lawAt {G : Gt} {l : Launch} {Z : Zt} {R : Rt} {I : It} {L : Lt} {post : Pt'} {k : Nat} (W : WF Z R) (hk : k < 5) (h : post (some (.ref (233 + 2 * k))) Z R I L) : Cx G l mX11_lawAt 1 0 0 [.ref 100, .int (nI k)] Z R I L post := by
  refine Cx.of (by decide +kernel) (by exact Nat.le_of_ble_eq_true rfl) ?_
  refine Sx.iload_n dX11_lawAt_0 rfl ?_
  refine Sx.if_ltV (t := 22) dX11_lawAt_1 (by decide) (vN (by omega)) (fun c1 => False.elim (by omega)) (fun c1 => ?_)
  refine Sx.iload_n dX11_lawAt_4 rfl ?_
  refine Sx.aload_n dX11_lawAt_5 rfl ?_
  refine Sx.getfR dX11_lawAt_6 lkf_X11_35_11 (o_100 W) (r_100_4 W) ?_
  refine Sx.alen (v := nI 5) dX11_lawAt_9 (a_110 W) (by decide) (by decide) rfl ?_
  refine Sx.icmp_geV (t := 22) dX11_lawAt_10 (by decide) (vN (by omega)) (vN (by decide)) (fun c10 => False.elim (by omega)) (fun c10 => ?_)
  refine Sx.aload_n dX11_lawAt_13 rfl ?_
  refine Sx.getfR dX11_lawAt_14 lkf_X11_35_11 (o_100 W) (r_100_4 W) ?_
  refine Sx.iload_n dX11_lawAt_17 rfl ?_
  refine Sx.aaldN dX11_lawAt_18 (a_110 W) (by decide) (by decide) (by omega) (by decide) (r_laws W hk) ?_
  refine Sx.goto (t := 23) dX11_lawAt_19 (by decide) ?_
  refine Sx.aret (r := some (233 + 2 * k)) dX11_lawAt_23 rfl (Or.inl ⟨_, rfl⟩) ?_
  exact h
set_option maxRecDepth 20000 in
set_option maxHeartbeats 1000000 in
theorem d_calAt {G : Gt} {l : Launch} {Z : Zt} {R : Rt} {I : It} {L : Lt} {post : Pt'} {k : Nat} (W : WF Z R) (hk : k < 5) (h : post (some (.ref (243 + 2 * k))) Z R I L) : Cx G l mX11_calendarAt 1 0 0 [.ref 100, .int (nI k)] Z R I L post := by
  refine Cx.of (by decide +kernel) (by exact Nat.le_of_ble_eq_true rfl) ?_
  refine Sx.iload_n dX11_calendarAt_0 rfl ?_
  refine Sx.if_ltV (t := 22) dX11_calendarAt_1 (by decide) (vN (by omega)) (fun c1 => False.elim (by omega)) (fun c1 => ?_)
  refine Sx.iload_n dX11_calendarAt_4 rfl ?_
  refine Sx.aload_n dX11_calendarAt_5 rfl ?_
  refine Sx.getfR dX11_calendarAt_6 lkf_X11_41_11 (o_100 W) (r_100_5 W) ?_
  refine Sx.alen (v := nI 5) dX11_calendarAt_9 (a_111 W) (by decide) (by decide) rfl ?_
  refine Sx.icmp_geV (t := 22) dX11_calendarAt_10 (by decide) (vN (by omega)) (vN (by decide)) (fun c10 => False.elim (by omega)) (fun c10 => ?_)
  refine Sx.aload_n dX11_calendarAt_13 rfl ?_
  refine Sx.getfR dX11_calendarAt_14 lkf_X11_41_11 (o_100 W) (r_100_5 W) ?_
  refine Sx.iload_n dX11_calendarAt_17 rfl ?_
  refine Sx.aaldN dX11_calendarAt_18 (a_111 W) (by decide) (by decide) (by omega) (by decide) (r_cals W hk) ?_
  refine Sx.goto (t := 23) dX11_calendarAt_19 (by decide) ?_
  refine Sx.aret (r := some (243 + 2 * k)) dX11_calendarAt_23 rfl (Or.inl ⟨_, rfl⟩) ?_
  exact h
set_option maxRecDepth 20000 in
set_option maxHeartbeats 1000000 in
theorem d_stateAt {G : Gt} {l : Launch} {Z : Zt} {R : Rt} {I : It} {L : Lt} {post : Pt'} {k : Nat} (W : WF Z R) (hk : k < 40) (h : post (some (.ref (149 + 2 * k))) Z R I L) : Cx G l mX2_stateAt 1 0 0 [.ref 147, .int (nI k)] Z R I L post := by
  refine Cx.of (by decide +kernel) (by exact Nat.le_of_ble_eq_true rfl) ?_
  refine Sx.iload_n dX2_stateAt_0 rfl ?_
  refine Sx.if_ltV (t := 22) dX2_stateAt_1 (by decide) (vN (by omega)) (fun c1 => False.elim (by omega)) (fun c1 => ?_)
  refine Sx.iload_n dX2_stateAt_4 rfl ?_
  refine Sx.aload_n dX2_stateAt_5 rfl ?_
  refine Sx.getfR dX2_stateAt_6 lkf_X2_11_2 (o_147 W) (r_147_0 W) ?_
  refine Sx.alen (v := nI 40) dX2_stateAt_9 (a_148 W) (by decide) (by decide) rfl ?_
  refine Sx.icmp_geV (t := 22) dX2_stateAt_10 (by decide) (vN (by omega)) (vN (by decide)) (fun c10 => False.elim (by omega)) (fun c10 => ?_)
  refine Sx.aload_n dX2_stateAt_13 rfl ?_
  refine Sx.getfR dX2_stateAt_14 lkf_X2_11_2 (o_147 W) (r_147_0 W) ?_
  refine Sx.iload_n dX2_stateAt_17 rfl ?_
  refine Sx.aaldN dX2_stateAt_18 (a_148 W) (by decide) (by decide) (by omega) (by decide) (r_sts W hk) ?_
  refine Sx.goto (t := 23) dX2_stateAt_19 (by decide) ?_
  refine Sx.aret (r := some (149 + 2 * k)) dX2_stateAt_23 rfl (Or.inl ⟨_, rfl⟩) ?_
  exact h
set_option maxRecDepth 20000 in
set_option maxHeartbeats 1000000 in
theorem d_lawAt0 {G : Gt} {l : Launch} {Z : Zt} {R : Rt} {I : It} {L : Lt} {post : Pt'} {x : Int32} (W : WF Z R) (hk : x.toInt < 0) (h : post (some .null) Z R I L) : Cx G l mX11_lawAt 1 0 0 [.ref 100, .int x] Z R I L post := by
  refine Cx.of (by decide +kernel) (by exact Nat.le_of_ble_eq_true rfl) ?_
  refine Sx.iload_n dX11_lawAt_0 rfl ?_
  refine Sx.if_ltV (t := 22) dX11_lawAt_1 (by decide) (vX x) (fun c1 => ?_) (fun c1 => False.elim (by omega))
  refine Sx.aconst_null dX11_lawAt_22 ?_
  refine Sx.aret (r := none) dX11_lawAt_23 rfl (Or.inl ⟨_, rfl⟩) ?_
  exact h
