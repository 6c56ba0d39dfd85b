/-! what a year brings one person -/
def gnS (g : Nat → Nat) (need coins d0 : Nat) : Nat → Nat
  | 0 => 0
  | i + 1 => gnS g need coins d0 i + (if need ≤ g (d0 + i) then coins else 0)
theorem gnS_le (g : Nat → Nat) (need coins d0 : Nat) : ∀ i, gnS g need coins d0 i ≤ coins * i
  | 0 => Nat.le_refl _
  | i + 1 => by
    have := gnS_le g need coins d0 i
    rw [gnS, Nat.mul_succ]
    split <;> omega
theorem gnS_cg {g k : Nat → Nat} {need coins d0 : Nat} : ∀ i, (∀ j, j < i → g (d0 + j) = k (d0 + j)) → gnS g need coins d0 i = gnS k need coins d0 i
  | 0 => fun _ => rfl
  | i + 1 => fun h => by rw [gnS, gnS, gnS_cg i (fun j hj => h j (by omega)), h i (by omega)]
theorem brN_p {P F : Nat → Nat} {a lt : Nat} (ha : a < 6) : brN P F a lt (6 + a) = if P (9 + F a) ≤ lt then min 9999 (F (6 + a) + (P (3 + F a) + F (12 + F a))) else F (6 + a) := by
  unfold brN
  by_cases c : lt < P (9 + F a)
  · rw [if_pos c, if_neg (by omega)]
  · rw [if_neg c, if_pos (by omega), upn_ne _ _ (by omega), upn_eq]
theorem brs_p {P F : Nat → Nat} {a lt : Nat} (ha : a < 6) (hFa : F a < 6) (hu : hbN (F 138) a = false) : ∀ j, j ≤ 6 → brs P F lt j (6 + a) = if a < j ∧ P (9 + F a) ≤ lt then min 9999 (F (6 + a) + (P (3 + F a) + F (12 + F a))) else F (6 + a)
  | 0 => fun _ => by rw [brs, if_neg (by omega)]
  | j + 1 => fun hj => by
    have ih := brs_p (P := P) (lt := lt) ha hFa hu j (by omega)
    have k1 := brs_at (P := P) (F := F) (lt := lt) (q := a) (Or.inl (by omega)) (by omega) j (by omega)
    have k2 := brs_at (P := P) (F := F) (lt := lt) (q := 12 + F a) (Or.inr (by omega)) (by omega) j (by omega)
    unfold brs
    by_cases c : hbN (F 138) j = true
    · rw [if_pos c, ih]
      have : j ≠ a := fun e => by rw [e, hu] at c; exact absurd c (by decide)
      by_cases d : a < j ∧ P (9 + F a) ≤ lt
      · rw [if_pos d, if_pos ⟨by omega, d.2⟩]
      · rw [if_neg d, if_neg (by omega)]
    · rw [if_neg c]
      by_cases e : j = a
      · subst e
        have ih0 : brs P F lt j (6 + j) = F (6 + j) := by rw [ih, if_neg (fun z => absurd z.1 (Nat.lt_irrefl _))]
        rw [brN_p ha, k1, ih0, k2]
        by_cases d : P (9 + F j) ≤ lt
        · rw [if_pos d, if_pos ⟨by omega, d⟩]
        · rw [if_neg d, if_neg (fun z => d z.2)]
      · rw [brN_at (by omega) (by omega), ih]
        by_cases d : a < j ∧ P (9 + F a) ≤ lt
        · rw [if_pos d, if_pos ⟨by omega, d.2⟩]
        · rw [if_neg d, if_neg (by omega)]
/-- a day brings one person who is up -/
theorem seen_p {P S : Nat → Nat} {w : Wt} {a : Nat} (hP : PB P) (hd : S 145 < 30) (ha : a < P 35) (hSa : S a < 6) (hu : hbN (S 138) a = false) : seenN P w S (6 + a) = if P (9 + S a) ≤ litN P w S (S 145) (S 139) (upc P S) then min 9999 (S (6 + a) + (P (3 + S a) + S (12 + S a))) else S (6 + a) := by
  have p35 := hP.2.2.2.2.2.2.2.1
  have e : ∀ q, q < 18 ∨ q = 138 → upn (upn S (18 + S 145) (litN P w S (S 145) (S 139) (upc P S))) (48 + S 145) (dnN S (P 35)) q = S q := fun q hq => by rw [upn_ne _ _ (by omega), upn_ne _ _ (by omega)]
  have h := brs_p (P := P) (F := upn (upn S (18 + S 145) (litN P w S (S 145) (S 139) (upc P S))) (48 + S 145) (dnN S (P 35))) (lt := litN P w S (S 145) (S 139) (upc P S)) (a := a) (by omega) (by rw [e a (by omega)]; exact hSa) (by rw [e 138 (by omega)]; exact hu) (P 35) p35
  rw [e a (by omega), e (6 + a) (by omega), e (12 + S a) (by omega)] at h
  unfold seenN
  rw [h]
  by_cases d : P (9 + S a) ≤ litN P w S (S 145) (S 139) (upc P S)
  · rw [if_pos d, if_pos ⟨ha, d⟩]
  · rw [if_neg d, if_neg (fun z => d z.2)]
theorem gyR_pu {P F : Nat → Nat} {w : Wt} {a : Nat} (hP : PB P) (hS : SB P F) (ha : a < P 35) (hu : hbN (F 138) a = false) : ∀ (n i : Nat) (S : Nat → Nat), skI P w F S i → S (6 + a) = min 9999 (F (6 + a) + gnS (lofN P w F (upc P F)) (P (9 + F a)) (P (3 + F a) + F (12 + F a)) (F 145) i) → F 145 + i < P 0 → n = P 0 - (F 145 + i) → gyR P w n S (6 + a) = min 9999 (F (6 + a) + gnS (lofN P w F (upc P F)) (P (9 + F a)) (P (3 + F a) + F (12 + F a)) (F 145) (P 0 - F 145)) := by
  intro n
  have p35 := hP.2.2.2.2.2.2.2.1
  have p34 := hP.2.2.2.2.2.1
  have p0 := hP.2.1
  have hFa := hS.1 a (by omega)
  induction n with
  | zero => intro i S h g h1 h2; omega
  | succ n ih =>
    intro i S h g h1 h2
    have hn := skI_s hP hS h h1
    have hl := skI_lit hS h
    have h5 := pd_145 P w S p34
    have e := h.1
    have e1 := hn.1
    have ew := h.2.1
    have ea : S a = F a := ew a (by unfold kcC; omega) (by omega) (by omega) (by omega)
    have e12 : S (12 + F a) = F (12 + F a) := ew _ (by unfold kcC; omega) (by omega) (by omega) (by omega)
    have e138 : S 138 = F 138 := ew 138 (by unfold kcC; omega) (by omega) (by omega) (by omega)
    have hp : nextN (seenN P w S) (S 145 + 1) (6 + a) = min 9999 (F (6 + a) + gnS (lofN P w F (upc P F)) (P (9 + F a)) (P (3 + F a) + F (12 + F a)) (F 145) (i + 1)) := by
      rw [nxd_o (by omega) (by omega) (by omega), seen_p hP (by omega) ha (by rw [ea]; exact hFa) (by rw [e138]; exact hu), hl, ea, e12, g, gnS]
      split <;> omega
    unfold gyR
    by_cases c : P 0 ≤ S 145 + 1
    · rw [if_pos c] at h5
      rw [if_pos h5]
      unfold pdN
      rw [if_pos c]
      have hm : nextN (seenN P w S) (S 145 + 1) 144 % 60 < 60 := Nat.mod_lt _ (by decide)
      unfold eyN
      rw [upn_ne _ _ (by omega)]
      unfold trnN
      rw [if_neg (by omega), if_neg (by omega), if_neg (by omega), if_neg (by omega), if_neg (by omega), hp, show i + 1 = P 0 - F 145 by omega]
    · rw [if_neg c] at h5
      rw [if_neg (by omega)]
      have ep : pdN P w S = nextN (seenN P w S) (S 145 + 1) := by unfold pdN; rw [if_neg c]
      rw [ep]
      exact ih (i + 1) _ hn hp (by omega) (by omega)
theorem goY_pu {P F : Nat → Nat} {w : Wt} {a : Nat} (hP : PB P) (hS : SB P F) (ha : a < P 35) (hu : hbN (F 138) a = false) : goY P w F (6 + a) = min 9999 (F (6 + a) + gnS (lofN P w F (upc P F)) (P (9 + F a)) (P (3 + F a) + F (12 + F a)) (F 145) (P 0 - F 145)) :=
  gyR_pu hP hS ha hu _ 0 F (skI_0 P w F) (by have := hS.2.1 a (by have := hP.2.2.2.2.2.2.2.1; omega); rw [gnS]; omega) (by have := hS.2.2.2.2.2.2.2.2.2.2.2.2.2.1; omega) rfl
/-- what one gains by a kind in the rest of the year -/
def gnV (V : Vt) (k : Nat) : Nat := gnS (lofN (V 2) (wlV V) (V 3) (upc (V 2) (V 3))) (V 2 (9 + k)) (V 2 (3 + k) + V 3 (12 + k)) (V 3 145) (V 2 0 - V 3 145)
def gvV (V : Vt) (a b x y : Nat) : Nat := amp (vcN (donN (V 2) (upn (upn (V 3) a x) b y) (dayD V))) (V 2 34)
theorem gm_e {V : Vt} (hH : HV V) {a b x y q : Nat} (ha : a < V 2 35) (hb : b < V 2 35) (hab : a ≠ b) (hx : x < V 2 34) (hy : y < V 2 34) (hua : hbN (V 3 138) a = false) (hub : hbN (V 3 138) b = false) : gmN V a b x y q = (min 9999 (V 3 (6 + (if q = 0 then a else b)) + gnV V (if q = 0 then x else y)) : Nat) - (V 3 (6 + (if q = 0 then a else b)) : Int) + (if gvV V a b x y = (if q = 0 then x else y) + 1 then 5 else 0) := by
  obtain ⟨p1, p2, p3, p4, p5, p6, p7, p8, p9⟩ := id hH.2.2.2.1
  have hST : SB (V 2) (upn (upn (V 3) a x) b y) := SB.hab hH.2.2.2.1 (SB.hab hH.2.2.2.1 hH.2.2.2.2.1 (by omega) hx) (by omega) hy
  have g6 : V 3 143 ≤ 6 := hH.2.2.2.2.1.2.2.2.2.2.2.2.2.2.2.2.1
  have ho : ∀ q, 6 ≤ q → upn (upn (V 3) a x) b y q = V 3 q := fun q hq => by rw [upn_ne _ _ (by omega), upn_ne _ _ (by omega)]
  have ea : upn (upn (V 3) a x) b y a = x := by rw [upn_ne _ _ hab, upn_eq]
  have eb : upn (upn (V 3) a x) b y b = y := upn_eq _ _ _
  have eu : upc (V 2) (upn (upn (V 3) a x) b y) = upc (V 2) (V 3) := by unfold upc; rw [ho 138 (by decide)]
  have el : ∀ d, d < V 2 0 → lofN (V 2) (wlV V) (upn (upn (V 3) a x) b y) (upc (V 2) (upn (upn (V 3) a x) b y)) d = lofN (V 2) (wlV V) (V 3) (upc (V 2) (V 3)) d := fun d hd => by rw [eu]; exact lof_cg (fun q h1 _ _ => ho q h1) g6 (by omega) _
  have hg : gmT V a b x y 143 = gvV V a b x y := by
    unfold gmT gvV
    rw [goY_sk hH.2.2.2.1 hST 143 (by unfold kcC; omega), sk_143 hH.2.2.2.1, amn_congr _ el]
    rfl
  have hq : gmT V a b x y (6 + (if q = 0 then a else b)) = min 9999 (V 3 (6 + (if q = 0 then a else b)) + gnV V (if q = 0 then x else y)) := by
    unfold gmT gnV
    by_cases c : q = 0
    · rw [if_pos c, if_pos c, goY_pu hH.2.2.2.1 hST ha (by rw [ho 138 (by decide)]; exact hua), ea, ho 145 (by decide), ho (6 + a) (by omega), ho (12 + x) (by omega), gnS_cg _ (fun j hj => el _ (by omega))]
    · rw [if_neg c, if_neg c, goY_pu hH.2.2.2.1 hST hb (by rw [ho 138 (by decide)]; exact hub), eb, ho 145 (by decide), ho (6 + b) (by omega), ho (12 + y) (by omega), gnS_cg _ (fun j hj => el _ (by omega))]
  unfold gmN
  rw [hg, hq]
