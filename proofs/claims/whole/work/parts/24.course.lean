set_option maxRecDepth 20000 in
set_option maxHeartbeats 1000000 in
theorem l_X7_pom {G : Gt} {l : Launch} {Z : Zt} {R : Rt} {L : Lt} {post : Pt'} {a c n p q : Nat} {I0 : It} (hr : rwo Z R a c n) (hc : rowC c) (hn : n < 2 ^ 30) (hpq : p + q ≤ n) (h : ∀ I', I' = I0 → post (some (.int (nI (amx (I0 (a + 1)) p q)))) Z R I' L) :
    ∀ (k j : Nat), 1 ≤ j → j ≤ q → q < j + k → ∀ (I : It) (v : Int32), I = I0 → v = nI (p + amx (I0 (a + 1)) p j) → ∀ (y : Int32), y = nI (p + j) → Sx G l mX7_placeOfMost 1 0 0 7 [(4, .int y), (3, .int v), (0, .ref a), (1, .int (nI p)), (2, .int (nI q))] [] Z R I L post := by
  intro k
  induction k with
  | zero => intro j h0 h1 h2; omega
  | succ k ih =>
    intro j h0 h1 h2 I v hI0 hv y hy
    have hI : I (a + 1) = I0 (a + 1) := by rw [hI0]
    refine Sx.iload dX7_placeOfMost_7 rfl ?_
    refine Sx.iload_n dX7_placeOfMost_9 rfl ?_
    refine Sx.iload_n dX7_placeOfMost_10 rfl ?_
    refine Sx.iadd dX7_placeOfMost_11 ?_
    rw [nI_add]
    refine Sx.icmp_ge (t := 68) dX7_placeOfMost_12 (by decide) (fun c12 => ?_) (fun c12 => ?_)
    · have hge : p + j = p + q := lp_end hy (by omega) (by omega) c12
      have hj : j = q := by omega
      subst hj
      refine Sx.iload_n dX7_placeOfMost_68 rfl ?_
      refine Sx.iload_n dX7_placeOfMost_69 rfl ?_
      refine Sx.isub dX7_placeOfMost_70 ?_
      rw [show v - nI p = nI (amx (I0 (a + 1)) p j) by rw [hv, n_sub (by omega), show p + amx (I0 (a + 1)) p j - p = amx (I0 (a + 1)) p j by omega]]
      refine Sx.iret dX7_placeOfMost_71 rfl rfl ?_
      exact h I hI0
    · have hlt : p + j < p + q := lp_lt hy (by omega) (by omega) c12
      have ham := amx_lt (I0 (a + 1)) p j (by omega)
      refine Sx.iload dX7_placeOfMost_15 rfl ?_
      refine Sx.aload_n dX7_placeOfMost_17 rfl ?_
      refine Sx.getfR dX7_placeOfMost_18 (lkRow hc) hr.1 hr.2.1 ?_
      refine Sx.alen dX7_placeOfMost_21 hr.2.2 (by decide) (by decide) rfl ?_
      refine Sx.icmp_ge (t := 68) dX7_placeOfMost_22 (by decide) (fun c22 => absurd c22 (by rw [hy]; exact nI_ge (show p + j < n by omega) (by omega))) (fun c22 => ?_)
      refine Sx.iload_n dX7_placeOfMost_25 rfl ?_
      refine Sx.if_lt (t := 62) dX7_placeOfMost_26 (by decide) (fun c26 => absurd c26 (by rw [hv]; exact nI_pos (by omega))) (fun c26 => ?_)
      refine Sx.iload dX7_placeOfMost_29 rfl ?_
      refine Sx.if_lt (t := 62) dX7_placeOfMost_31 (by decide) (fun c31 => absurd c31 (by rw [hy]; exact nI_pos (by omega))) (fun c31 => ?_)
      refine Sx.iload_n dX7_placeOfMost_34 rfl ?_
      refine Sx.aload_n dX7_placeOfMost_35 rfl ?_
      refine Sx.getfR dX7_placeOfMost_36 (lkRow hc) hr.1 hr.2.1 ?_
      refine Sx.alen dX7_placeOfMost_39 hr.2.2 (by decide) (by decide) rfl ?_
      refine Sx.icmp_ge (t := 62) dX7_placeOfMost_40 (by decide) (fun c40 => absurd c40 (by rw [hv]; exact nI_ge (show p + amx (I0 (a + 1)) p j < n by omega) (by omega))) (fun c40 => ?_)
      refine Sx.aload_n dX7_placeOfMost_43 rfl ?_
      refine Sx.getfR dX7_placeOfMost_44 (lkRow hc) hr.1 hr.2.1 ?_
      refine Sx.iload dX7_placeOfMost_47 rfl ?_
      refine Sx.iald dX7_placeOfMost_49 hr.2.2 (by rw [hy]; exact vp_in_nI (by omega) (by omega)) ?_
      refine Sx.aload_n dX7_placeOfMost_50 rfl ?_
      refine Sx.getfR dX7_placeOfMost_51 (lkRow hc) hr.1 hr.2.1 ?_
      refine Sx.iload_n dX7_placeOfMost_54 rfl ?_
      refine Sx.iald dX7_placeOfMost_55 hr.2.2 (by rw [hv]; exact vp_in_nI (by omega) (by omega)) ?_
      rw [show I (a + 1) v.toNatClampNeg = I0 (a + 1) (p + amx (I0 (a + 1)) p j) by rw [hI, hv, nI_clamp (by omega)], show I (a + 1) y.toNatClampNeg = I0 (a + 1) (p + j) by rw [hI, hy, nI_clamp (by omega)]]
      refine Sx.icmp_le (t := 62) dX7_placeOfMost_56 (by decide) (fun c56 => ?_) (fun c56 => ?_)
      · have hgt : ¬ I0 (a + 1) (p + amx (I0 (a + 1)) p j) < I0 (a + 1) (p + j) := Int32.not_lt.mpr c56
        refine Sx.iincN (fun zz => [(4, .int zz), (3, .int v), (0, .ref a), (1, .int (nI p)), (2, .int (nI q))]) dX7_placeOfMost_62 rfl (by decide) (fun _ => rfl) (fun x4_62 ex4_62 => ?_)
        refine Sx.goto (t := 7) dX7_placeOfMost_65 (by decide) ?_
        refine Sx.sub' [(4, .int x4_62), (3, .int v), (0, .ref a), (1, .int (nI p)), (2, .int (nI q))] rfl ?_
        exact ih (j + 1) (by omega) (by omega) (by omega) I _ hI0 (by rw [hv, amx, if_neg hgt]) _ (by rw [ex4_62, hy]; exact nI_1 _)
      · have hgt : I0 (a + 1) (p + amx (I0 (a + 1)) p j) < I0 (a + 1) (p + j) := Int32.not_le.mp c56
        refine Sx.iload dX7_placeOfMost_59 rfl ?_
        refine Sx.ist_n (fun zz => [(3, .int zz), (4, .int y), (0, .ref a), (1, .int (nI p)), (2, .int (nI q))]) dX7_placeOfMost_61 (by decide) (fun _ => rfl) (fun x3_61 ex3_61 => ?_)
        refine Sx.iincN (fun zz => [(4, .int zz), (3, .int x3_61), (0, .ref a), (1, .int (nI p)), (2, .int (nI q))]) dX7_placeOfMost_62 rfl (by decide) (fun _ => rfl) (fun x4_62 ex4_62 => ?_)
        refine Sx.goto (t := 7) dX7_placeOfMost_65 (by decide) ?_
        refine Sx.sub' [(4, .int x4_62), (3, .int x3_61), (0, .ref a), (1, .int (nI p)), (2, .int (nI q))] rfl ?_
        exact ih (j + 1) (by omega) (by omega) (by omega) I _ hI0 (by rw [ex3_61, hy, amx, if_pos hgt]) _ (by rw [ex4_62, hy]; exact nI_1 _)
set_option maxRecDepth 20000 in
set_option maxHeartbeats 1000000 in
theorem c_pom {G : Gt} {l : Launch} {Z : Zt} {R : Rt} {I : It} {L : Lt} {post : Pt'} {a c n p q : Nat} (hr : rwo Z R a c n) (hc : rowC c) (hn : n < 2 ^ 30) (hpq : p + q ≤ n) (hq : 1 ≤ q) (h : post (some (.int (nI (amx (I (a + 1)) p q)))) Z R I L) : Cx G l mX7_placeOfMost 1 0 0 [.ref a, .int (nI p), .int (nI q)] Z R I L post := by
  refine Cx.of (by decide +kernel) (by exact Nat.le_of_ble_eq_true rfl) ?_
  refine Sx.iload_n dX7_placeOfMost_0 rfl ?_
  refine Sx.ist_n (fun zz => [(3, .int zz), (0, .ref a), (1, .int (nI p)), (2, .int (nI q))]) dX7_placeOfMost_1 (by decide) (fun _ => rfl) (fun x3_1 ex3_1 => ?_)
  refine Sx.iload_n dX7_placeOfMost_2 rfl ?_
  refine Sx.iconst (v := 1) dX7_placeOfMost_3 (by decide) ?_
  refine Sx.iadd dX7_placeOfMost_4 ?_
  refine Sx.ist (fun zz => [(4, .int zz), (3, .int x3_1), (0, .ref a), (1, .int (nI p)), (2, .int (nI q))]) dX7_placeOfMost_5 (by decide) (fun _ => rfl) (fun x4_5 ex4_5 => ?_)
  exact l_X7_pom hr hc hn hpq (fun I' e => by rw [e]; exact h) (q + 1) 1 (by omega) hq (by omega) I _ rfl (by rw [ex3_1]; congr 1; unfold amx; split <;> simp [amx]) _ (by rw [ex4_5]; exact nI_1 p)
/-! Course -/
/-- a law: its worth by the DAY, DAYS, FOG, how many are up, the YEAR, the VOICES -/
abbrev Wt : Type := Option (Nat → Nat → Nat → Nat → Nat → Nat → Int)
/-- the law that holds, as the class has it -/
def LW (R : Rt) (I : It) (w : Wt) : Prop := (R 114 3 = none ∧ w = none) ∨ ∃ (i n : Nat) (g : Nat → Nat → Nat → Nat → Nat → Nat → Int), i < 5 ∧ R 114 3 = some (233 + 2 * i) ∧ w = some g ∧ I (233 + 2 * i) 1 = nI n ∧ n ≤ 240 ∧
  ∀ (d e f u y r : Nat), d < 1000 → e < 1000 → f < 1000 → u < 1000 → y < 1000 → r < 1000 → (-1000000 ≤ g d e f u y r ∧ g d e f u y r ≤ 1000000) ∧
    ∀ ℓ : Nat → Int32, ℓ 0 = nI d → ℓ 1 = nI e → ℓ 2 = nI f → ℓ 3 = nI u → ℓ 4 = nI y → ℓ 5 = nI r → exC (I (233 + 2 * i + 1)) ℓ n (n + 1) 0 false [] = some (iI (g d e f u y r))
theorem LW.keep {R : Rt} {I I' : It} {w : Wt} (h : LW R I w) (hk : ∀ q, 233 ≤ q → q ≤ 242 → I' q = I q) : LW R I' w := by
  rcases h with h | ⟨i, n, g, h1, h2, h3, h4, h5, h6⟩
  · exact Or.inl h
  · exact Or.inr ⟨i, n, g, h1, h2, h3, by rw [hk _ (by omega) (by omega)]; exact h4, h5, by rw [hk (233 + 2 * i + 1) (by omega) (by omega)]; exact h6⟩
def worV (P : Nat → Nat) (w : Wt) (F : Nat → Nat) (day fog up : Nat) : Int := match w with
  | none => 2 * (if 0 ≤ (day : Int) - (P 0 / 2 : Nat) then (day : Int) - (P 0 / 2 : Nat) else -((day : Int) - (P 0 / 2 : Nat))) + 4 - fog
  | some g => g day (P 0) fog up (F 144 % 100) (gvN F)
/-- the light of a day that isn't over, by a fog, by how many are up -/
def litN (P : Nat → Nat) (w : Wt) (F : Nat → Nat) (day fog up : Nat) : Nat :=
  if day = F 145 ∧ F 140 ≠ 0 then 0 else
  if day = F 145 then min 99 (clN (worV P w F day fog up) + 2 * F 141) else clN (worV P w F day fog up)
/-- a state whose numbers are where they may be -/
def SB (P F : Nat → Nat) : Prop := (∀ p, p < 6 → F p < 6) ∧ (∀ p, p < 6 → F (6 + p) ≤ 9999) ∧ (∀ k, k < 6 → F (12 + k) ≤ 6) ∧ (∀ d, d < 30 → F (18 + d) ≤ 99) ∧ (∀ d, d < 30 → F (48 + d) < 2 ^ 18) ∧ (∀ j, j < 60 → F (78 + j) < 2 ^ 24) ∧
  F 138 < 64 ∧ F 139 ≤ 9 ∧ F 140 ≤ 1 ∧ F 141 ≤ 20 ∧ F 142 ≤ 999 ∧ F 143 ≤ 6 ∧ F 144 < 2 ^ 20 ∧ F 145 < P 0 ∧ (∀ p, p < 6 → F p < P 34) ∧ F 143 ≤ P 34
/-- a seaport's numbers -/
def PB (P : Nat → Nat) : Prop := 2 ≤ P 0 ∧ P 0 ≤ 30 ∧ P 1 ≤ 99 ∧ P 2 ≤ 9 ∧ 1 ≤ P 34 ∧ P 34 ≤ 6 ∧ 2 ≤ P 35 ∧ P 35 ≤ 6 ∧ ∀ k, k < 6 → P (3 + k) ≤ 9 ∧ P (9 + k) ≤ 30 ∧ P (15 + k) < 6 ∧ P (21 + k) ≤ 9 ∧ P (27 + k) ≤ 1
theorem SB.all {P F : Nat → Nat} (hP : PB P) (h : SB P F) : ∀ j, j < 146 → F j < 2 ^ 24 := by
  obtain ⟨h1, h2, h3, h4, h5, h6, h7, h8, h9, h10, h11, h12, h13, h14, -, -⟩ := h
  obtain ⟨p1, p2, -⟩ := hP
  intro j hj
  by_cases c1 : j < 6
  · have := h1 j c1; omega
  by_cases c2 : j < 12
  · have := h2 (j - 6) (by omega); rw [show 6 + (j - 6) = j by omega] at this; omega
  by_cases c3 : j < 18
  · have := h3 (j - 12) (by omega); rw [show 12 + (j - 12) = j by omega] at this; omega
  by_cases c4 : j < 48
  · have := h4 (j - 18) (by omega); rw [show 18 + (j - 18) = j by omega] at this; omega
  by_cases c5 : j < 78
  · have := h5 (j - 48) (by omega); rw [show 48 + (j - 48) = j by omega] at this; omega
  by_cases c6 : j < 138
  · have := h6 (j - 78) (by omega); rw [show 78 + (j - 78) = j by omega] at this; omega
  have : j = 138 ∨ j = 139 ∨ j = 140 ∨ j = 141 ∨ j = 142 ∨ j = 143 ∨ j = 144 ∨ j = 145 := by omega
  rcases this with rfl | rfl | rfl | rfl | rfl | rfl | rfl | rfl <;> omega
theorem plain_i (P : Nat → Nat) {dy fg : Nat} (h1 : dy < 2 ^ 20) (h2 : fg < 2 ^ 20) (h3 : P 0 < 2 ^ 20 := by omega) : (2 : Int32) * iabs (nI dy - nI (P 0) / 2) + 4 - nI fg = iI (2 * (if 0 ≤ (dy : Int) - (P 0 / 2 : Nat) then (dy : Int) - (P 0 / 2 : Nat) else -((dy : Int) - (P 0 / 2 : Nat))) + 4 - fg) := by
  rw [show nI (P 0) / 2 = nI (P 0 / 2) from pk_div (d := 2) (by omega) (by decide) (by decide), nI_iI, nI_iI, nI_iI, iI_sub, iabs_i (by omega) (by omega), show (2 : Int32) = iI 2 from rfl, show (4 : Int32) = iI 4 from rfl, iI_mul, iI_add, iI_sub]
set_option maxRecDepth 20000 in
set_option maxHeartbeats 1000000 in
theorem c_light {G : Gt} {l : Launch} {Z : Zt} {R : Rt} {I : It} {L : Lt} {post : Pt'} {s : Nat} {P F : Nat → Nat} {w : Wt} {dy fg u : Nat} (W : WF Z R) (hp : rep 36 (I 104) P) (hP : PB P) (hr : rwo Z R s 8 146) (hs : rs (I (s + 1)) F) (hx : 119 ≤ s ∧ s < 232) (hL : LW R I w) (hF : SB P F) (hdy : dy < 30) (hfg : fg ≤ 9) (hu : u ≤ 6) (h : ∀ I', (∀ q, q ≠ 116 → q ≠ 118 → I' q = I q) → post (some (.int (nI (litN P w F dy fg u)))) Z R I' L) : Cx G l mX1_lightAhead 3 0 0 [.ref 114, .ref s, .int (nI dy), .int (nI fg), .int (nI u)] Z R I L post := by
  refine Cx.of (by decide +kernel) (by exact Nat.le_of_ble_eq_true rfl) ?_
  have hall := hF.all hP
  have hP' := hP
  obtain ⟨f1, f2, f3, f4, f5, f6, f7, f8, f9, f10, f11, f12, f13, f14, -, -⟩ := hF
  obtain ⟨p1, p2, -⟩ := hP'
  have hgv : gvN F ≤ 6 := by
    unfold gvN
    split
    · omega
    · have := f3 (F 143 - 1) (by omega)
      rw [show 12 + (F 143 - 1) = 11 + F 143 by omega] at this
      exact this
  have K : ∀ (b : Bool), b = decide (dy = F 145) → ¬ (b = true ∧ F 140 ≠ 0) → Sx G l mX1_lightAhead 3 0 0 35 [(5, .int (b2i b)), (0, .ref 114), (1, .ref s), (2, .int (nI dy)), (3, .int (nI fg)), (4, .int (nI u))] [] Z R I L post := by
    intro b hb hz
    rcases hL with ⟨hR, rfl⟩ | ⟨i, n, g, hi, hR, rfl, hn, hn2, hg⟩
    · have J : ∀ (I' : It) (v7 : Int32), (∀ q, q ≠ 116 → q ≠ 118 → I' q = I q) → v7 = iI (worV P none F dy fg u) → Sx G l mX1_lightAhead 3 0 0 154 [(7, .int v7), (6, .int (nI (P 0))), (5, .int (b2i b)), (0, .ref 114), (1, .ref s), (2, .int (nI dy)), (3, .int (nI fg)), (4, .int (nI u))] [] Z R I' L post := by
        intro I' v7 hJ hv7
        have hwb : -2000000 ≤ worV P none F dy fg u ∧ worV P none F dy fg u ≤ 2000000 := by unfold worV; simp only []; split <;> omega
        have hcl := clN_le (worV P none F dy fg u)
        refine Sx.iconst (v := 0) dX1_lightAhead_154 (by decide) ?_
        refine Sx.bipush (v := 99) dX1_lightAhead_155 (by decide) ?_
        refine Sx.iload dX1_lightAhead_157 rfl ?_
        refine Sx.mmin dX1_lightAhead_159 lkm_X1_67 (by decide) (Nat.le_of_ble_eq_true rfl) ?_
        refine Sx.mmax dX1_lightAhead_162 lkm_X1_71 (by decide) (Nat.le_of_ble_eq_true rfl) ?_
        rw [show imax 0 (imin 99 v7) = nI (clN (worV P none F dy fg u)) by rw [hv7]; exact clN_int (by omega) (by omega)]
        refine Sx.ist (fun zz => [(8, .int zz), (7, .int v7), (6, .int (nI (P 0))), (5, .int (b2i b)), (0, .ref 114), (1, .ref s), (2, .int (nI dy)), (3, .int (nI fg)), (4, .int (nI u))]) dX1_lightAhead_165 (by decide) (fun _ => rfl) (fun x8_165 ex8_165 => ?_)
        refine Sx.iload dX1_lightAhead_167 rfl ?_
        refine Sx.if_eq (t := 192) dX1_lightAhead_169 (by decide) (fun c169 => ?_) (fun c169 => ?_)
        · refine Sx.iload dX1_lightAhead_192 rfl ?_
          refine Sx.iret dX1_lightAhead_194 rfl rfl ?_
          have hb0 : b = false := b2i_0.mp c169
          rw [hb0] at hb
          have hne : ¬ dy = F 145 := of_decide_eq_false hb.symm
          have := h I' hJ
          rw [litN, if_neg (fun q => hne q.1), if_neg hne] at this
          rw [ex8_165]
          exact this
        · refine Sx.bipush (v := 99) dX1_lightAhead_172 (by decide) ?_
          refine Sx.iload dX1_lightAhead_174 rfl ?_
          refine Sx.iconst (v := 2) dX1_lightAhead_176 (by decide) ?_
          refine Sx.aload_n dX1_lightAhead_177 rfl ?_
          refine Sx.sipush (v := 141) dX1_lightAhead_178 (by decide) ?_
          refine Sx.callU1 dX1_lightAhead_181 lku_X1_43 (rcv_8 hr.1) (by decide) (by decide) (Nat.le_of_ble_eq_true rfl) rfl rfl (c_sg hr (by rw [hJ _ (by omega) (by omega)]; exact hs) 141 rfl (by decide) (by decide) ?_)
          refine Sx.imul dX1_lightAhead_184 ?_
          refine Sx.iadd dX1_lightAhead_185 ?_
          rw [show x8_165 + 2 * nI (F 141) = nI (clN (worV P none F dy fg u) + 2 * F 141) by rw [ex8_165, show (2 : Int32) = nI 2 from rfl, pk_mul, nI_add]]
          refine Sx.mmin dX1_lightAhead_186 lkm_X1_67 (by decide) (Nat.le_of_ble_eq_true rfl) ?_
          rw [show (99 : Int32) = nI 99 from rfl, n_min (by decide) (by omega)]
          refine Sx.goto (t := 194) dX1_lightAhead_189 (by decide) ?_
          refine Sx.iret dX1_lightAhead_194 rfl rfl ?_
          have hb1 : b = true := b2i_ne.mp c169
          rw [hb1] at hb
          have heq : dy = F 145 := of_decide_eq_true hb.symm
          have := h I' hJ
          rw [litN, if_neg (fun q => hz ⟨hb1, q.2⟩), if_pos heq] at this
          exact this
      refine Sx.aload_n dX1_lightAhead_35 rfl ?_
      refine Sx.getfR dX1_lightAhead_36 lkf_X1_37_1 (o_114 W) (r_114_0 W) ?_
      refine Sx.iconst (v := 0) dX1_lightAhead_39 (by decide) ?_
      refine Sx.callU1 dX1_lightAhead_40 lku_X1_49 (rcv_6 (o_103 W)) (by decide) (by decide) (Nat.le_of_ble_eq_true rfl) rfl rfl (c_rg (w_103r W) rC6 (by decide) hp 0 rfl (by decide) ?_)
      refine Sx.ist (fun zz => [(6, .int zz), (5, .int (b2i b)), (0, .ref 114), (1, .ref s), (2, .int (nI dy)), (3, .int (nI fg)), (4, .int (nI u))]) dX1_lightAhead_43 (by decide) (fun _ => rfl) (fun x6_43 ex6_43 => ?_)
      refine Sx.sub' [(6, .int (nI (P 0))), (5, .int (b2i b)), (0, .ref 114), (1, .ref s), (2, .int (nI dy)), (3, .int (nI fg)), (4, .int (nI u))] (by rw [ex6_43]; rfl) ?_
      refine Sx.iconst (v := 2) dX1_lightAhead_45 (by decide) ?_
      refine Sx.iload_n dX1_lightAhead_46 rfl ?_
      refine Sx.iload dX1_lightAhead_47 rfl ?_
      refine Sx.iconst (v := 2) dX1_lightAhead_49 (by decide) ?_
      refine Sx.idiv dX1_lightAhead_50 (by decide) ?_
      refine Sx.isub dX1_lightAhead_51 ?_
      refine Sx.mabs dX1_lightAhead_52 lkm_X1_50 (by decide) (Nat.le_of_ble_eq_true rfl) ?_
      refine Sx.imul dX1_lightAhead_55 ?_
      refine Sx.iconst (v := 4) dX1_lightAhead_56 (by decide) ?_
      refine Sx.iadd dX1_lightAhead_57 ?_
      refine Sx.iload_n dX1_lightAhead_58 rfl ?_
      refine Sx.isub dX1_lightAhead_59 ?_
      refine Sx.ist (fun zz => [(7, .int zz), (6, .int (nI (P 0))), (5, .int (b2i b)), (0, .ref 114), (1, .ref s), (2, .int (nI dy)), (3, .int (nI fg)), (4, .int (nI u))]) dX1_lightAhead_60 (by decide) (fun _ => rfl) (fun x7_60 ex7_60 => ?_)
      refine Sx.aload_n dX1_lightAhead_62 rfl ?_
      refine Sx.getfN dX1_lightAhead_63 lkf_X1_29_1 (o_114 W) hR ?_
      refine Sx.ifnullN (t := 154) dX1_lightAhead_66 (by decide) ?_
      refine Sx.sub' [(7, .int x7_60), (6, .int (nI (P 0))), (5, .int (b2i b)), (0, .ref 114), (1, .ref s), (2, .int (nI dy)), (3, .int (nI fg)), (4, .int (nI u))] rfl ?_
      exact J _ _ (fun _ _ _ => rfl) (by rw [ex7_60]; exact plain_i P (by omega) (by omega))
    · have J : ∀ (I' : It) (v7 : Int32), (∀ q, q ≠ 116 → q ≠ 118 → I' q = I q) → v7 = iI (worV P (some g) F dy fg u) → Sx G l mX1_lightAhead 3 0 0 154 [(7, .int v7), (6, .int (nI (P 0))), (5, .int (b2i b)), (0, .ref 114), (1, .ref s), (2, .int (nI dy)), (3, .int (nI fg)), (4, .int (nI u))] [] Z R I' L post := by
        intro I' v7 hJ hv7
        have hwb : -2000000 ≤ worV P (some g) F dy fg u ∧ worV P (some g) F dy fg u ≤ 2000000 := by have := (hg dy (P 0) fg u (F 144 % 100) (gvN F) (by omega) (by omega) (by omega) (by omega) (by omega) (by omega)).1; unfold worV; simp only []; omega
        have hcl := clN_le (worV P (some g) F dy fg u)
        refine Sx.iconst (v := 0) dX1_lightAhead_154 (by decide) ?_
        refine Sx.bipush (v := 99) dX1_lightAhead_155 (by decide) ?_
        refine Sx.iload dX1_lightAhead_157 rfl ?_
        refine Sx.mmin dX1_lightAhead_159 lkm_X1_67 (by decide) (Nat.le_of_ble_eq_true rfl) ?_
        refine Sx.mmax dX1_lightAhead_162 lkm_X1_71 (by decide) (Nat.le_of_ble_eq_true rfl) ?_
        rw [show imax 0 (imin 99 v7) = nI (clN (worV P (some g) F dy fg u)) by rw [hv7]; exact clN_int (by omega) (by omega)]
        refine Sx.ist (fun zz => [(8, .int zz), (7, .int v7), (6, .int (nI (P 0))), (5, .int (b2i b)), (0, .ref 114), (1, .ref s), (2, .int (nI dy)), (3, .int (nI fg)), (4, .int (nI u))]) dX1_lightAhead_165 (by decide) (fun _ => rfl) (fun x8_165 ex8_165 => ?_)
        refine Sx.iload dX1_lightAhead_167 rfl ?_
        refine Sx.if_eq (t := 192) dX1_lightAhead_169 (by decide) (fun c169 => ?_) (fun c169 => ?_)
        · refine Sx.iload dX1_lightAhead_192 rfl ?_
          refine Sx.iret dX1_lightAhead_194 rfl rfl ?_
          have hb0 : b = false := b2i_0.mp c169
          rw [hb0] at hb
          have hne : ¬ dy = F 145 := of_decide_eq_false hb.symm
          have := h I' hJ
          rw [litN, if_neg (fun q => hne q.1), if_neg hne] at this
          rw [ex8_165]
          exact this
        · refine Sx.bipush (v := 99) dX1_lightAhead_172 (by decide) ?_
          refine Sx.iload dX1_lightAhead_174 rfl ?_
          refine Sx.iconst (v := 2) dX1_lightAhead_176 (by decide) ?_
          refine Sx.aload_n dX1_lightAhead_177 rfl ?_
          refine Sx.sipush (v := 141) dX1_lightAhead_178 (by decide) ?_
          refine Sx.callU1 dX1_lightAhead_181 lku_X1_43 (rcv_8 hr.1) (by decide) (by decide) (Nat.le_of_ble_eq_true rfl) rfl rfl (c_sg hr (by rw [hJ _ (by omega) (by omega)]; exact hs) 141 rfl (by decide) (by decide) ?_)
          refine Sx.imul dX1_lightAhead_184 ?_
          refine Sx.iadd dX1_lightAhead_185 ?_
          rw [show x8_165 + 2 * nI (F 141) = nI (clN (worV P (some g) F dy fg u) + 2 * F 141) by rw [ex8_165, show (2 : Int32) = nI 2 from rfl, pk_mul, nI_add]]
          refine Sx.mmin dX1_lightAhead_186 lkm_X1_67 (by decide) (Nat.le_of_ble_eq_true rfl) ?_
          rw [show (99 : Int32) = nI 99 from rfl, n_min (by decide) (by omega)]
          refine Sx.goto (t := 194) dX1_lightAhead_189 (by decide) ?_
          refine Sx.iret dX1_lightAhead_194 rfl rfl ?_
          have hb1 : b = true := b2i_ne.mp c169
          rw [hb1] at hb
          have heq : dy = F 145 := of_decide_eq_true hb.symm
          have := h I' hJ
          rw [litN, if_neg (fun q => hz ⟨hb1, q.2⟩), if_pos heq] at this
          exact this
      refine Sx.aload_n dX1_lightAhead_35 rfl ?_
      refine Sx.getfR dX1_lightAhead_36 lkf_X1_37_1 (o_114 W) (r_114_0 W) ?_
      refine Sx.iconst (v := 0) dX1_lightAhead_39 (by decide) ?_
      refine Sx.callU1 dX1_lightAhead_40 lku_X1_49 (rcv_6 (o_103 W)) (by decide) (by decide) (Nat.le_of_ble_eq_true rfl) rfl rfl (c_rg (w_103r W) rC6 (by decide) hp 0 rfl (by decide) ?_)
      refine Sx.ist (fun zz => [(6, .int zz), (5, .int (b2i b)), (0, .ref 114), (1, .ref s), (2, .int (nI dy)), (3, .int (nI fg)), (4, .int (nI u))]) dX1_lightAhead_43 (by decide) (fun _ => rfl) (fun x6_43 ex6_43 => ?_)
      refine Sx.sub' [(6, .int (nI (P 0))), (5, .int (b2i b)), (0, .ref 114), (1, .ref s), (2, .int (nI dy)), (3, .int (nI fg)), (4, .int (nI u))] (by rw [ex6_43]; rfl) ?_
      refine Sx.iconst (v := 2) dX1_lightAhead_45 (by decide) ?_
      refine Sx.iload_n dX1_lightAhead_46 rfl ?_
      refine Sx.iload dX1_lightAhead_47 rfl ?_
      refine Sx.iconst (v := 2) dX1_lightAhead_49 (by decide) ?_
      refine Sx.idiv dX1_lightAhead_50 (by decide) ?_
      refine Sx.isub dX1_lightAhead_51 ?_
      refine Sx.mabs dX1_lightAhead_52 lkm_X1_50 (by decide) (Nat.le_of_ble_eq_true rfl) ?_
      refine Sx.imul dX1_lightAhead_55 ?_
      refine Sx.iconst (v := 4) dX1_lightAhead_56 (by decide) ?_
      refine Sx.iadd dX1_lightAhead_57 ?_
      refine Sx.iload_n dX1_lightAhead_58 rfl ?_
      refine Sx.isub dX1_lightAhead_59 ?_
      refine Sx.ist (fun zz => [(7, .int zz), (6, .int (nI (P 0))), (5, .int (b2i b)), (0, .ref 114), (1, .ref s), (2, .int (nI dy)), (3, .int (nI fg)), (4, .int (nI u))]) dX1_lightAhead_60 (by decide) (fun _ => rfl) (fun x7_60 ex7_60 => ?_)
      refine Sx.aload_n dX1_lightAhead_62 rfl ?_
      refine Sx.getfR dX1_lightAhead_63 lkf_X1_29_1 (o_114 W) hR ?_
      refine Sx.ifnull dX1_lightAhead_66 ?_
      refine Sx.aload_n dX1_lightAhead_69 rfl ?_
      refine Sx.getfR dX1_lightAhead_70 lkf_X1_20_1 (o_114 W) (r_114_1 W) ?_
      refine Sx.iconst (v := 0) dX1_lightAhead_73 (by decide) ?_
      refine Sx.iload_n dX1_lightAhead_74 rfl ?_
      refine Sx.callV2 dX1_lightAhead_75 lkv_X1_55 (rcv_7 (o_115 W)) (by decide) (by decide) (Nat.le_of_ble_eq_true rfl) rfl rfl (c_set (w_115r W) rC7 (by decide) 0 rfl (by decide) (fun I1 e1 d1 => ?_))
      refine Sx.aload_n dX1_lightAhead_78 rfl ?_
      refine Sx.getfR dX1_lightAhead_79 lkf_X1_20_1 (o_114 W) (r_114_1 W) ?_
      refine Sx.iconst (v := 1) dX1_lightAhead_82 (by decide) ?_
      refine Sx.iload dX1_lightAhead_83 rfl ?_
      refine Sx.callV2 dX1_lightAhead_85 lkv_X1_55 (rcv_7 (o_115 W)) (by decide) (by decide) (Nat.le_of_ble_eq_true rfl) rfl rfl (c_set (w_115r W) rC7 (by decide) 1 rfl (by decide) (fun I2 e2 d2 => ?_))
      refine Sx.aload_n dX1_lightAhead_88 rfl ?_
      refine Sx.getfR dX1_lightAhead_89 lkf_X1_20_1 (o_114 W) (r_114_1 W) ?_
      refine Sx.iconst (v := 2) dX1_lightAhead_92 (by decide) ?_
      refine Sx.iload_n dX1_lightAhead_93 rfl ?_
      refine Sx.callV2 dX1_lightAhead_94 lkv_X1_55 (rcv_7 (o_115 W)) (by decide) (by decide) (Nat.le_of_ble_eq_true rfl) rfl rfl (c_set (w_115r W) rC7 (by decide) 2 rfl (by decide) (fun I3 e3 d3 => ?_))
      refine Sx.aload_n dX1_lightAhead_97 rfl ?_
      refine Sx.getfR dX1_lightAhead_98 lkf_X1_20_1 (o_114 W) (r_114_1 W) ?_
      refine Sx.iconst (v := 3) dX1_lightAhead_101 (by decide) ?_
      refine Sx.iload dX1_lightAhead_102 rfl ?_
      refine Sx.callV2 dX1_lightAhead_104 lkv_X1_55 (rcv_7 (o_115 W)) (by decide) (by decide) (Nat.le_of_ble_eq_true rfl) rfl rfl (c_set (w_115r W) rC7 (by decide) 3 rfl (by decide) (fun I4 e4 d4 => ?_))
      refine Sx.aload_n dX1_lightAhead_107 rfl ?_
      refine Sx.getfR dX1_lightAhead_108 lkf_X1_20_1 (o_114 W) (r_114_1 W) ?_
      refine Sx.iconst (v := 4) dX1_lightAhead_111 (by decide) ?_
      refine Sx.aload_n dX1_lightAhead_112 rfl ?_
      refine Sx.sipush (v := 144) dX1_lightAhead_113 (by decide) ?_
      refine Sx.callU1 dX1_lightAhead_116 lku_X1_43 (rcv_8 hr.1) (by decide) (by decide) (Nat.le_of_ble_eq_true rfl) rfl rfl (c_sg hr (by rw [d4 _ (by omega), d3 _ (by omega), d2 _ (by omega), d1 _ (by omega)]; exact hs) 144 rfl (by decide) (by decide) ?_)
      refine Sx.bipush (v := 100) dX1_lightAhead_119 (by decide) ?_
      refine Sx.irem dX1_lightAhead_121 (by decide) ?_
      rw [show nI (F 144) - nI (F 144) / 100 * 100 = nI (F 144 % 100) from pk_rem (d := 100) (by omega) (by decide) (by decide)]
      refine Sx.callV2 dX1_lightAhead_122 lkv_X1_55 (rcv_7 (o_115 W)) (by decide) (by decide) (Nat.le_of_ble_eq_true rfl) rfl rfl (c_set (w_115r W) rC7 (by decide) 4 rfl (by decide) (fun I5 e5 d5 => ?_))
      refine Sx.aload_n dX1_lightAhead_125 rfl ?_
      refine Sx.getfR dX1_lightAhead_126 lkf_X1_20_1 (o_114 W) (r_114_1 W) ?_
      refine Sx.iconst (v := 5) dX1_lightAhead_129 (by decide) ?_
      refine Sx.aload_n dX1_lightAhead_130 rfl ?_
      refine Sx.callV0 dX1_lightAhead_131 lkv_X1_59 (rcv_8 hr.1) (by decide) (by decide) (Nat.le_of_ble_eq_true rfl) rfl rfl (c_X8_gv hr (by rw [d5 _ (by omega), d4 _ (by omega), d3 _ (by omega), d2 _ (by omega), d1 _ (by omega)]; exact hs) f12 ?_)
      refine Sx.callV2 dX1_lightAhead_134 lkv_X1_55 (rcv_7 (o_115 W)) (by decide) (by decide) (Nat.le_of_ble_eq_true rfl) rfl rfl (c_set (w_115r W) rC7 (by decide) 5 rfl (by decide) (fun I6 e6 d6 => ?_))
      refine Sx.aload_n dX1_lightAhead_137 rfl ?_
      refine Sx.getfR dX1_lightAhead_138 lkf_X1_29_1 (o_114 W) hR ?_
      refine Sx.aload_n dX1_lightAhead_141 rfl ?_
      refine Sx.getfR dX1_lightAhead_142 lkf_X1_20_1 (o_114 W) (r_114_1 W) ?_
      refine Sx.aload_n dX1_lightAhead_145 rfl ?_
      refine Sx.getfR dX1_lightAhead_146 lkf_X1_26_1 (o_114 W) (r_114_2 W) ?_
      have hI6 : ∀ q, q ≠ 116 → I6 q = I q := fun q h1 => by rw [d6 q h1, d5 q h1, d4 q h1, d3 q h1, d2 q h1, d1 q h1]
      have hℓ : I6 (115 + 1) = upd (upd (upd (upd (upd (upd (I (115 + 1)) 0 (nI dy)) 1 (nI (P 0))) 2 (nI fg)) 3 (nI u)) 4 (nI (F 144 % 100))) 5 (nI (gvN F)) := by rw [e6, e5, e4, e3, e2, e1]
      have hex : exC (I6 (233 + 2 * i + 1)) (I6 (115 + 1)) n (n + 1) 0 false [] = some (iI (g dy (P 0) fg u (F 144 % 100) (gvN F))) := by
        rw [hI6 _ (by omega)]
        exact (hg dy (P 0) fg u (F 144 % 100) (gvN F) (by omega) (by omega) (by omega) (by omega) (by omega) (by omega)).2 _ (by rw [hℓ]; rfl) (by rw [hℓ]; rfl) (by rw [hℓ]; rfl) (by rw [hℓ]; rfl) (by rw [hℓ]; rfl) (by rw [hℓ]; rfl)
      refine Sx.callV2 dX1_lightAhead_149 lkv_X1_63 (rcv_3 (w_laws W hi).1) (by decide) (by decide) (Nat.le_of_ble_eq_true rfl) rfl rfl (c_X3_worth (n := n) (v := iI (g dy (P 0) fg u (F 144 % 100) (gvN F))) (w_laws W hi) (w_115r W) (w_117r W) (by omega) (by omega) (by decide) (by rw [hI6 _ (by omega)]; exact hn) hn2 hex (fun I7 hI7 => ?_))
      refine Sx.ist (fun zz => [(7, .int zz), (6, .int (nI (P 0))), (5, .int (b2i b)), (0, .ref 114), (1, .ref s), (2, .int (nI dy)), (3, .int (nI fg)), (4, .int (nI u))]) dX1_lightAhead_152 (by decide) (fun _ => rfl) (fun x7_152 ex7_152 => ?_)
      refine Sx.sub' [(7, .int x7_152), (6, .int (nI (P 0))), (5, .int (b2i b)), (0, .ref 114), (1, .ref s), (2, .int (nI dy)), (3, .int (nI fg)), (4, .int (nI u))] rfl ?_
      exact J _ _ (fun q h1 h2 => by rw [hI7 q h2, d6 q h1, d5 q h1, d4 q h1, d3 q h1, d2 q h1, d1 q h1]) (by rw [ex7_152]; rfl)
  have K18 : ∀ (b : Bool), b = decide (dy = F 145) → Sx G l mX1_lightAhead 3 0 0 18 [(5, .int (b2i b)), (0, .ref 114), (1, .ref s), (2, .int (nI dy)), (3, .int (nI fg)), (4, .int (nI u))] [] Z R I L post := by
    intro b hb
    refine Sx.iload dX1_lightAhead_18 rfl ?_
    refine Sx.if_eq (t := 35) dX1_lightAhead_20 (by decide) (fun c20 => ?_) (fun c20 => ?_)
    · exact K b hb (fun q => by rw [b2i_0.mp c20] at q; cases q.1)
    · refine Sx.aload_n dX1_lightAhead_23 rfl ?_
      refine Sx.sipush (v := 140) dX1_lightAhead_24 (by decide) ?_
      refine Sx.callU1 dX1_lightAhead_27 lku_X1_43 (rcv_8 hr.1) (by decide) (by decide) (Nat.le_of_ble_eq_true rfl) rfl rfl (c_sg hr hs 140 rfl (by decide) (by decide) ?_)
      refine Sx.if_eq (t := 35) dX1_lightAhead_30 (by decide) (fun c30 => ?_) (fun c30 => ?_)
      · exact K b hb (fun q => q.2 ((n_eq (b := 0) (by omega) (by decide)).mp c30))
      · refine Sx.iconst (v := 0) dX1_lightAhead_33 (by decide) ?_
        refine Sx.iret dX1_lightAhead_34 rfl rfl ?_
        have hb1 : b = true := b2i_ne.mp c20
        rw [hb1] at hb
        have heq : dy = F 145 := of_decide_eq_true hb.symm
        have := h I (fun _ _ _ => rfl)
        rw [litN, if_pos ⟨heq, fun q => c30 (by rw [q]; rfl)⟩] at this
        exact this
  refine Sx.iload_n dX1_lightAhead_0 rfl ?_
  refine Sx.aload_n dX1_lightAhead_1 rfl ?_
  refine Sx.sipush (v := 145) dX1_lightAhead_2 (by decide) ?_
  refine Sx.callU1 dX1_lightAhead_5 lku_X1_43 (rcv_8 hr.1) (by decide) (by decide) (Nat.le_of_ble_eq_true rfl) rfl rfl (c_sg hr hs 145 rfl (by decide) (by decide) ?_)
  refine Sx.icmp_ne (t := 15) dX1_lightAhead_8 (by decide) (fun c8 => ?_) (fun c8 => ?_)
  · refine Sx.iconst (v := 0) dX1_lightAhead_15 (by decide) ?_
    refine Sx.ist (fun zz => [(5, .int zz), (0, .ref 114), (1, .ref s), (2, .int (nI dy)), (3, .int (nI fg)), (4, .int (nI u))]) dX1_lightAhead_16 (by decide) (fun _ => rfl) (fun x5_16 ex5_16 => ?_)
    refine Sx.sub' [(5, .int (b2i false)), (0, .ref 114), (1, .ref s), (2, .int (nI dy)), (3, .int (nI fg)), (4, .int (nI u))] (by rw [ex5_16]; rfl) ?_
    exact K18 false (decide_eq_false (fun q => c8 (by rw [q]))).symm
  · refine Sx.iconst (v := 1) dX1_lightAhead_11 (by decide) ?_
    refine Sx.goto (t := 16) dX1_lightAhead_12 (by decide) ?_
    refine Sx.ist (fun zz => [(5, .int zz), (0, .ref 114), (1, .ref s), (2, .int (nI dy)), (3, .int (nI fg)), (4, .int (nI u))]) dX1_lightAhead_16 (by decide) (fun _ => rfl) (fun x5_16 ex5_16 => ?_)
    refine Sx.sub' [(5, .int (b2i true)), (0, .ref 114), (1, .ref s), (2, .int (nI dy)), (3, .int (nI fg)), (4, .int (nI u))] (by rw [ex5_16]; rfl) ?_
    exact K18 true (decide_eq_true ((n_eq (by omega) (by omega)).mp (Classical.byContradiction fun q => absurd c8 (by simpa using q)))).symm
