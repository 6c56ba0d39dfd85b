/-! Course: days and years -/
def amxN (g : Nat → Nat) : Nat → Nat
  | 0 => 0
  | j + 1 => if g (amxN g j) < g j then j else amxN g j
theorem amxN_of {f : Nat → Int32} {g : Nat → Nat} {p : Nat} : ∀ k, (∀ i, i < k → f (p + i) = nI (g i) ∧ g i < 2 ^ 31) → amx f p k = amxN g k
  | 0 => fun _ => rfl
  | j + 1 => fun h => by
    have e := amxN_of j (fun i hi => h i (by omega))
    unfold amx amxN
    rw [e]
    cases j with
    | zero => simp [amxN]
    | succ j =>
      have hl := amx_lt f p (j + 1) (by omega)
      rw [e] at hl
      rw [(h _ (by omega)).1, (h (j + 1) (by omega)).1]
      by_cases hc : g (amxN g (j + 1)) < g (j + 1)
      · rw [if_pos ((n_lt (h _ (by omega)).2 (h _ (by omega)).2).mpr hc), if_pos hc]
      · rw [if_neg (fun q => hc ((n_lt (h _ (by omega)).2 (h _ (by omega)).2).mp q)), if_neg hc]
theorem amp_amx (c : Nat → Nat) : ∀ n, amp c n = if n = 0 ∨ c (amxN c n) = 0 then 0 else amxN c n + 1
  | 0 => by simp [amp]
  | j + 1 => by
    have e := amp_amx c j
    by_cases hj : j = 0
    · subst hj
      by_cases hc : c 0 = 0
      · simp [amp, amxN, hc]
      · have : 0 < c 0 := by omega
        simp [amp, amxN, hc, this]
    · by_cases hz : c (amxN c j) = 0
      · rw [if_pos (Or.inr hz)] at e
        by_cases hc : c j = 0
        · have e1 : amxN c (j + 1) = amxN c j := by rw [amxN, if_neg (by omega)]
          rw [amp_no (by rw [ampV, if_pos e]; omega), e1, if_pos (Or.inr hz), e]
        · have e1 : amxN c (j + 1) = j := by rw [amxN, if_pos (by omega)]
          rw [amp_yes (by rw [ampV, if_pos e]; omega), e1, if_neg (by omega)]
      · rw [if_neg (by omega)] at e
        have eV : ampV c j = c (amxN c j) := by rw [ampV, if_neg (by omega), e, Nat.add_sub_cancel]
        by_cases hc : c (amxN c j) < c j
        · have e1 : amxN c (j + 1) = j := by rw [amxN, if_pos hc]
          rw [amp_yes (by rw [eV]; exact hc), e1, if_neg (by omega)]
        · have e1 : amxN c (j + 1) = amxN c j := by rw [amxN, if_neg hc]
          rw [amp_no (by rw [eV]; exact hc), e1, if_neg (by omega), e]
/-- the year is over: x, what was done on its ruler -/
def vcN (x k : Nat) : Nat := popN (doN x k 6)
def trnN (P F : Nat → Nat) (x : Nat) : Nat → Nat := fun q =>
  if q < 6 then (if q < P 35 ∧ amp (vcN x) (P 34) ≠ 0 ∧ P (21 + q) ≤ vcN x (amp (vcN x) (P 34) - 1) then amp (vcN x) (P 34) - 1 else F q)
  else if 12 ≤ q ∧ q < 12 + P 34 then vcN x (q - 12)
  else if q = 140 ∨ q = 141 ∨ q = 145 then 0 else if q = 143 then amp (vcN x) (P 34) else if q = 144 then F 144 + 1 else F q
def vo1 (F : Nat → Nat) (x j : Nat) : Nat → Nat := fun q => if 12 ≤ q ∧ q < 12 + j then vcN x (q - 12) else F q
def ha1 (P F : Nat → Nat) (ld v j : Nat) : Nat → Nat := fun q => if q < j ∧ P (21 + q) ≤ v then ld else F q
theorem vcN_le (x k : Nat) : vcN x k ≤ 6 := (popN_bit _ (doN_lt x k 6)).2
set_option maxRecDepth 20000 in
set_option maxHeartbeats 1000000 in
theorem l_ty1 {G : Gt} {l : Launch} {Z : Zt} {R : Rt} {L : Lt} {post : Pt'} {s : Nat} {P F : Nat → Nat} {x : Nat} {I0 : It} (W : WF Z R) (hp : rep 36 (I0 104) P) (hP : PB P) (hr : rwo Z R s 8 146) (hx : 119 ≤ s ∧ s < 232) (hxx : x < 2 ^ 18) (h : ∀ I', rs (I' (s + 1)) (vo1 F x (P 34)) → (∀ q, q ≠ s + 1 → I' q = I0 q) → Sx G l mX1_turnYear 4 0 0 37 [(3, .int (nI (P 34))), (0, .ref 114), (1, .ref s), (2, .int (nI x))] [] Z R I' L post) :
    ∀ (k j : Nat), j ≤ P 34 → P 34 < j + k → ∀ (I : It) , (rs (I (s + 1)) (vo1 F x j)) → (∀ q, q ≠ s + 1 → I q = I0 q) → ∀ (y : Int32), y = nI j → Sx G l mX1_turnYear 4 0 0 2 [(3, .int y), (0, .ref 114), (1, .ref s), (2, .int (nI x))] [] Z R I L post := by
  have hP' := hP
  obtain ⟨p1, p2, p3, p4, p5, p6, p7, p8, p9⟩ := hP'
  intro k
  induction k with
  | zero => intro j h1 h2; omega
  | succ k ih =>
    intro j h1 h2 I  hs hJ y hy
    subst hy
    refine Sx.iload_n dX1_turnYear_2 rfl ?_
    refine Sx.aload_n dX1_turnYear_3 rfl ?_
    refine Sx.getfR dX1_turnYear_4 lkf_X1_37_1 (o_114 W) (r_114_0 W) ?_
    refine Sx.bipush (v := 34) dX1_turnYear_7 (by decide) ?_
    refine Sx.callU1 dX1_turnYear_9 lku_X1_49 (rcv_6 (o_103 W)) (by decide) (by decide) (Nat.le_of_ble_eq_true rfl) rfl rfl (c_rg (w_103r W) rC6 (by decide) (by rw [hJ _ (by omega)]; exact hp) 34 rfl (by decide) ?_)
    refine Sx.icmp_ge (t := 37) dX1_turnYear_12 (by decide) (fun c12 => ?_) (fun c12 => ?_)
    · have hj := lp_end rfl (by omega) h1 c12
      refine Sx.sub' [(3, .int (nI (P 34))), (0, .ref 114), (1, .ref s), (2, .int (nI x))] (by rw [← hj]; rfl) ?_
      rw [hj] at hs
      exact h I hs hJ
    · have hlt := lp_lt rfl (by omega) h1 c12
      refine Sx.aload_n dX1_turnYear_15 rfl ?_
      refine Sx.bipush (v := 12) dX1_turnYear_16 (by decide) ?_
      refine Sx.iload_n dX1_turnYear_18 rfl ?_
      refine Sx.iadd dX1_turnYear_19 ?_
      refine Sx.iload_n dX1_turnYear_20 rfl ?_
      refine Sx.iload_n dX1_turnYear_21 rfl ?_
      refine Sx.callS2 dX1_turnYear_22 lkc_X1_99  (by decide) (by decide) (Nat.le_of_ble_eq_true rfl) rfl rfl (c_doers hxx (by omega) ?_)
      refine Sx.callS1 dX1_turnYear_25 lkc_X1_102  (by decide) (by decide) (Nat.le_of_ble_eq_true rfl) rfl rfl (c_bitc ?_)
      rw [(popN_bit _ (doN_lt x j 6)).1]
      refine Sx.callU2 dX1_turnYear_28 lku_X1_107 (rcv_8 hr.1) (by decide) (by decide) (Nat.le_of_ble_eq_true rfl) rfl rfl (c_ss hr hs (12 + j) (vcN x j) (nI_add 12 j) (by omega) (by rw [sv_n (by omega)]; rfl) (fun I2 e1 e2 => ?_))
      refine Sx.iincN (fun zz => [(3, .int zz), (0, .ref 114), (1, .ref s), (2, .int (nI x))]) dX1_turnYear_31 rfl (by decide) (fun _ => rfl) (fun x3_31 ex3_31 => ?_)
      refine Sx.goto (t := 2) dX1_turnYear_34 (by decide) ?_
      refine Sx.sub' [(3, .int x3_31), (0, .ref 114), (1, .ref s), (2, .int (nI x))] rfl ?_
      refine ih (j + 1) (by omega) (by omega) I2 ?_ (fun q hq => (e2 q hq).trans (hJ q hq)) _ (by rw [ex3_31]; exact nI_1 j)
      intro q hq
      rw [e1 q hq]
      congr 1
      unfold upn vo1
      by_cases hqj : q = 12 + j
      · rw [if_pos hqj, if_pos (by omega), hqj, Nat.add_sub_cancel_left]
      · rw [if_neg hqj]
        by_cases hq2 : 12 ≤ q ∧ q < 12 + j
        · rw [if_pos hq2, if_pos (by omega)]
        · rw [if_neg hq2, if_neg (by omega)]
set_option maxRecDepth 20000 in
set_option maxHeartbeats 1000000 in
theorem l_ty2 {G : Gt} {l : Launch} {Z : Zt} {R : Rt} {L : Lt} {post : Pt'} {s : Nat} {P F : Nat → Nat} {x v ld : Nat} {I0 : It} (W : WF Z R) (hp : rep 36 (I0 104) P) (hP : PB P) (hr : rwo Z R s 8 146) (hx : 119 ≤ s ∧ s < 232) (hv0 : 0 < v) (hv6 : v ≤ 6) (h : ∀ I', rs (I' (s + 1)) (ha1 P F ld v (P 35)) → (∀ q, q ≠ s + 1 → I' q = I0 q) → Sx G l mX1_turnYear 4 0 0 134 [(5, .int (nI (P 35))), (4, .int (nI v)), (3, .int (nI ld)), (0, .ref 114), (1, .ref s), (2, .int (nI x))] [] Z R I' L post) :
    ∀ (k j : Nat), j ≤ P 35 → P 35 < j + k → ∀ (I : It) , (rs (I (s + 1)) (ha1 P F ld v j)) → (∀ q, q ≠ s + 1 → I q = I0 q) → ∀ (y : Int32), y = nI j → Sx G l mX1_turnYear 4 0 0 83 [(5, .int y), (4, .int (nI v)), (3, .int (nI ld)), (0, .ref 114), (1, .ref s), (2, .int (nI x))] [] Z R I L post := by
  have hP' := hP
  obtain ⟨p1, p2, p3, p4, p5, p6, p7, p8, p9⟩ := hP'
  intro k
  induction k with
  | zero => intro j h1 h2; omega
  | succ k ih =>
    intro j h1 h2 I  hs hJ y hy
    subst hy
    refine Sx.iload dX1_turnYear_83 rfl ?_
    refine Sx.if_le (t := 134) dX1_turnYear_85 (by decide) (fun c85 => absurd c85 (by intro q; exact absurd ((n_le (b := 0) (by omega) (by decide)).mp q) (by omega))) (fun c85 => ?_)
    refine Sx.iload dX1_turnYear_88 rfl ?_
    refine Sx.aload_n dX1_turnYear_90 rfl ?_
    refine Sx.getfR dX1_turnYear_91 lkf_X1_37_1 (o_114 W) (r_114_0 W) ?_
    refine Sx.bipush (v := 35) dX1_turnYear_94 (by decide) ?_
    refine Sx.callU1 dX1_turnYear_96 lku_X1_49 (rcv_6 (o_103 W)) (by decide) (by decide) (Nat.le_of_ble_eq_true rfl) rfl rfl (c_rg (w_103r W) rC6 (by decide) (by rw [hJ _ (by omega)]; exact hp) 35 rfl (by decide) ?_)
    refine Sx.icmp_ge (t := 134) dX1_turnYear_99 (by decide) (fun c99 => ?_) (fun c99 => ?_)
    · have hj := lp_end rfl (by omega) h1 c99
      refine Sx.sub' [(5, .int (nI (P 35))), (4, .int (nI v)), (3, .int (nI ld)), (0, .ref 114), (1, .ref s), (2, .int (nI x))] (by rw [← hj]; rfl) ?_
      rw [hj] at hs
      exact h I hs hJ
    · have hlt := lp_lt rfl (by omega) h1 c99
      have h21 := (p9 j (by omega)).2.2.2.1
      refine Sx.aload_n dX1_turnYear_102 rfl ?_
      refine Sx.getfR dX1_turnYear_103 lkf_X1_37_1 (o_114 W) (r_114_0 W) ?_
      refine Sx.bipush (v := 21) dX1_turnYear_106 (by decide) ?_
      refine Sx.iload dX1_turnYear_108 rfl ?_
      refine Sx.iadd dX1_turnYear_110 ?_
      refine Sx.callU1 dX1_turnYear_111 lku_X1_49 (rcv_6 (o_103 W)) (by decide) (by decide) (Nat.le_of_ble_eq_true rfl) rfl rfl (c_rg (w_103r W) rC6 (by decide) (by rw [hJ _ (by omega)]; exact hp) (21 + j) (nI_add 21 j) (by omega) ?_)
      refine Sx.iload dX1_turnYear_114 rfl ?_
      refine Sx.icmp_gt (t := 128) dX1_turnYear_116 (by decide) (fun c116 => ?_) (fun c116 => ?_)
      · have hno : ¬ P (21 + j) ≤ v := fun q => absurd ((n_le (by omega) (by omega)).mpr q) (Int32.not_le.mpr c116)
        refine Sx.iincN (fun zz => [(5, .int zz), (4, .int (nI v)), (3, .int (nI ld)), (0, .ref 114), (1, .ref s), (2, .int (nI x))]) dX1_turnYear_128 rfl (by decide) (fun _ => rfl) (fun x5_128 ex5_128 => ?_)
        refine Sx.goto (t := 83) dX1_turnYear_131 (by decide) ?_
        refine Sx.sub' [(5, .int x5_128), (4, .int (nI v)), (3, .int (nI ld)), (0, .ref 114), (1, .ref s), (2, .int (nI x))] rfl ?_
        refine ih (j + 1) (by omega) (by omega) I ?_ hJ _ (by rw [ex5_128]; exact nI_1 j)
        intro q hq
        rw [hs q hq]
        congr 1
        unfold ha1
        by_cases hqj : q < j ∧ P (21 + q) ≤ v
        · rw [if_pos hqj, if_pos (by omega)]
        · rw [if_neg hqj, if_neg (fun z => by
            rcases Nat.lt_or_ge q j with z1 | z1
            · exact hqj ⟨z1, z.2⟩
            · have : q = j := by omega
              subst this
              exact hno z.2)]
      · have hyes : P (21 + j) ≤ v := (n_le (by omega) (by omega)).mp (Int32.not_lt.mp c116)
        refine Sx.aload_n dX1_turnYear_119 rfl ?_
        refine Sx.iconst (v := 0) dX1_turnYear_120 (by decide) ?_
        refine Sx.iload dX1_turnYear_121 rfl ?_
        refine Sx.iadd dX1_turnYear_123 ?_
        refine Sx.iload_n dX1_turnYear_124 rfl ?_
        refine Sx.callU2 dX1_turnYear_125 lku_X1_107 (rcv_8 hr.1) (by decide) (by decide) (Nat.le_of_ble_eq_true rfl) rfl rfl (c_ss hr hs j ld (n_z j) (by omega) (by rw [sv_n (by omega)]) (fun I2 e1 e2 => ?_))
        refine Sx.iincN (fun zz => [(5, .int zz), (4, .int (nI v)), (3, .int (nI ld)), (0, .ref 114), (1, .ref s), (2, .int (nI x))]) dX1_turnYear_128 rfl (by decide) (fun _ => rfl) (fun x5_128 ex5_128 => ?_)
        refine Sx.goto (t := 83) dX1_turnYear_131 (by decide) ?_
        refine Sx.sub' [(5, .int x5_128), (4, .int (nI v)), (3, .int (nI ld)), (0, .ref 114), (1, .ref s), (2, .int (nI x))] rfl ?_
        refine ih (j + 1) (by omega) (by omega) I2 ?_ (fun q hq => (e2 q hq).trans (hJ q hq)) _ (by rw [ex5_128]; exact nI_1 j)
        intro q hq
        rw [e1 q hq]
        congr 1
        unfold upn ha1
        by_cases hqj : q = j
        · subst hqj; rw [if_pos rfl, if_pos ⟨by omega, hyes⟩]
        · rw [if_neg hqj]
          by_cases hq2 : q < j ∧ P (21 + q) ≤ v
          · rw [if_pos hq2, if_pos ⟨by omega, hq2.2⟩]
          · rw [if_neg hq2, if_neg (fun z => hq2 ⟨by omega, z.2⟩)]
set_option maxRecDepth 20000 in
set_option maxHeartbeats 1000000 in
theorem c_turn {G : Gt} {l : Launch} {Z : Zt} {R : Rt} {I : It} {L : Lt} {post : Pt'} {s : Nat} {P F : Nat → Nat} {x : Nat} (W : WF Z R) (hp : rep 36 (I 104) P) (hP : PB P) (hr : rwo Z R s 8 146) (hx : 119 ≤ s ∧ s < 232) (hxx : x < 2 ^ 18) (hs : rs (I (s + 1)) F) (hyr : F 144 < 2 ^ 24) (h : ∀ I', rs (I' (s + 1)) (trnN P F x) → (∀ q, q ≠ s + 1 → I' q = I q) → post none Z R I' L) : Cx G l mX1_turnYear 4 0 0 [.ref 114, .ref s, .int (nI x)] Z R I L post := by
  refine Cx.of (by decide +kernel) (by exact Nat.le_of_ble_eq_true rfl) ?_
  have hP' := hP
  obtain ⟨p1, p2, p3, p4, p5, p6, p7, p8, p9⟩ := hP'
  have J : ∀ (I' : It) (F1 : Nat → Nat) (z3 z4 z5 : Int32), rs (I' (s + 1)) F1 → (∀ q, q ≠ s + 1 → I' q = I q) → F1 144 = F 144 → (∀ q, q < 146 → q ≠ 140 → q ≠ 141 → q ≠ 144 → q ≠ 145 → F1 q = trnN P F x q) → Sx G l mX1_turnYear 4 0 0 134 [(5, .int z5), (4, .int z4), (3, .int z3), (0, .ref 114), (1, .ref s), (2, .int (nI x))] [] Z R I' L post := by
    intro I' F1 z3 z4 z5 hs1 hJ1 hF4 hF1
    refine Sx.aload_n dX1_turnYear_134 rfl ?_
    refine Sx.sipush (v := 140) dX1_turnYear_135 (by decide) ?_
    refine Sx.iconst (v := 0) dX1_turnYear_138 (by decide) ?_
    refine Sx.callU2 dX1_turnYear_139 lku_X1_107 (rcv_8 hr.1) (by decide) (by decide) (Nat.le_of_ble_eq_true rfl) rfl rfl (c_ss hr hs1 140 0 rfl (by decide) rfl (fun I2 e1 e2 => ?_))
    refine Sx.aload_n dX1_turnYear_142 rfl ?_
    refine Sx.sipush (v := 141) dX1_turnYear_143 (by decide) ?_
    refine Sx.iconst (v := 0) dX1_turnYear_146 (by decide) ?_
    refine Sx.callU2 dX1_turnYear_147 lku_X1_107 (rcv_8 hr.1) (by decide) (by decide) (Nat.le_of_ble_eq_true rfl) rfl rfl (c_ss hr e1 141 0 rfl (by decide) rfl (fun I3 e3 e4 => ?_))
    refine Sx.aload_n dX1_turnYear_150 rfl ?_
    refine Sx.sipush (v := 144) dX1_turnYear_151 (by decide) ?_
    refine Sx.aload_n dX1_turnYear_154 rfl ?_
    refine Sx.sipush (v := 144) dX1_turnYear_155 (by decide) ?_
    refine Sx.callU1 dX1_turnYear_158 lku_X1_43 (rcv_8 hr.1) (by decide) (by decide) (Nat.le_of_ble_eq_true rfl) rfl rfl (c_sg hr e3 144 rfl (by decide) (by decide) ?_)
    refine Sx.iconst (v := 1) dX1_turnYear_161 (by decide) ?_
    refine Sx.iadd dX1_turnYear_162 ?_
    rw [upn_ne _ _ (by decide), upn_ne _ _ (by decide), hF4, nI_1]
    refine Sx.callU2 dX1_turnYear_163 lku_X1_107 (rcv_8 hr.1) (by decide) (by decide) (Nat.le_of_ble_eq_true rfl) rfl rfl (c_ss hr e3 144 (F 144 + 1) rfl (by decide) (by rw [sv_n (by decide)]) (fun I4 e5 e6 => ?_))
    refine Sx.aload_n dX1_turnYear_166 rfl ?_
    refine Sx.sipush (v := 145) dX1_turnYear_167 (by decide) ?_
    refine Sx.iconst (v := 0) dX1_turnYear_170 (by decide) ?_
    refine Sx.callU2 dX1_turnYear_171 lku_X1_107 (rcv_8 hr.1) (by decide) (by decide) (Nat.le_of_ble_eq_true rfl) rfl rfl (c_ss hr e5 145 0 rfl (by decide) rfl (fun I5 e7 e8 => ?_))
    refine Sx.vret dX1_turnYear_174 rfl ?_
    refine h I5 ?_ (fun q hq => by rw [e8 q hq, e6 q hq, e4 q hq, e2 q hq, hJ1 q hq])
    intro q hq
    rw [e7 q hq]
    congr 1
    unfold upn
    by_cases k1 : q = 145
    · subst k1; simp [trnN]; omega
    · rw [if_neg k1]
      by_cases k2 : q = 144
      · subst k2; simp [trnN]; omega
      · rw [if_neg k2]
        by_cases k3 : q = 141
        · subst k3; simp [trnN]; omega
        · rw [if_neg k3]
          by_cases k4 : q = 140
          · subst k4; simp [trnN]; omega
          · rw [if_neg k4]; exact hF1 q hq k4 k3 k2 k1
  have K : ∀ I1, rs (I1 (s + 1)) (vo1 F x (P 34)) → (∀ q, q ≠ s + 1 → I1 q = I q) → amx (I1 (s + 1)) 12 (P 34) = amxN (vcN x) (P 34) → amxN (vcN x) (P 34) < P 34 → ¬ P 34 = 0 → vcN x (amxN (vcN x) (P 34)) ≤ 6 → amp (vcN x) (P 34) = (if P 34 = 0 ∨ vcN x (amxN (vcN x) (P 34)) = 0 then 0 else amxN (vcN x) (P 34) + 1) →
      Sx G l mX1_turnYear 4 0 0 63 [(4, .int (nI (vcN x (amxN (vcN x) (P 34))))), (3, .int (nI (amxN (vcN x) (P 34)))), (0, .ref 114), (1, .ref s), (2, .int (nI x))] [] Z R I1 L post := by
    intro I1 hs1 hJ1 hld hll hpos hvl haa
    refine Sx.aload_n dX1_turnYear_63 rfl ?_
    refine Sx.sipush (v := 143) dX1_turnYear_64 (by decide) ?_
    refine Sx.iload dX1_turnYear_67 rfl ?_
    refine Sx.if_ne (t := 76) dX1_turnYear_69 (by decide) (fun c69 => ?_) (fun c69 => ?_)
    · refine Sx.iload_n dX1_turnYear_76 rfl ?_
      refine Sx.callU2 dX1_turnYear_77 lku_X1_107 (rcv_8 hr.1) (by decide) (by decide) (Nat.le_of_ble_eq_true rfl) rfl rfl (c_ss hr hs1 143 (amxN (vcN x) (P 34) + 1) rfl (by decide) (by rw [sv, if_pos rfl, n_m1]) (fun I2 e1 e2 => ?_))
      refine Sx.iconst (v := 0) dX1_turnYear_80 (by decide) ?_
      refine Sx.ist (fun zz => [(5, .int zz), (4, .int (nI (vcN x (amxN (vcN x) (P 34))))), (3, .int (nI (amxN (vcN x) (P 34)))), (0, .ref 114), (1, .ref s), (2, .int (nI x))]) dX1_turnYear_81 (by decide) (fun _ => rfl) (fun x5_81 ex5_81 => ?_)
      refine Sx.sub' [(5, .int x5_81), (4, .int (nI (vcN x (amxN (vcN x) (P 34))))), (3, .int (nI (amxN (vcN x) (P 34)))), (0, .ref 114), (1, .ref s), (2, .int (nI x))] rfl ?_
      have hv0 : ¬ vcN x (amxN (vcN x) (P 34)) = 0 := fun q => c69 (by rw [q]; rfl)
      rw [if_neg (by omega)] at haa
      refine l_ty2 (F := upn (vo1 F x (P 34)) 143 (amxN (vcN x) (P 34) + 1)) W (by rw [e2 _ (by omega), hJ1 _ (by omega)]; exact hp) hP hr hx (by omega) hvl (fun I3 e3 e4 => ?_) (P 35 + 1) 0 (by omega) (by omega) I2 ?_ (fun _ _ => rfl) _ ex5_81
      · refine J I3 _ _ _ _ e3 (fun q hq => by rw [e4 q hq, e2 q hq, hJ1 q hq]) ?_ ?_
        · rw [ha1, if_neg (by omega), upn_ne _ _ (by decide), vo1, if_neg (by omega)]
        · intro q hq k1 k2 k3 k4
          unfold ha1 trnN
          rw [haa, Nat.add_sub_cancel]
          by_cases z1 : q < 6
          · rw [if_pos z1]
            by_cases z2 : q < P 35 ∧ P (21 + q) ≤ vcN x (amxN (vcN x) (P 34))
            · rw [if_pos z2, if_pos ⟨z2.1, by omega, z2.2⟩]
            · rw [if_neg z2, if_neg (fun z => z2 ⟨z.1, z.2.2⟩), upn_ne _ _ (by omega), vo1, if_neg (by omega)]
          · rw [if_neg z1, if_neg (fun z => by omega)]
            by_cases z3 : q = 143
            · subst z3
              rw [upn_eq, if_neg (by omega), if_neg (by omega), if_pos rfl]
            · rw [upn_ne _ _ z3, vo1]
              by_cases z4 : 12 ≤ q ∧ q < 12 + P 34
              · rw [if_pos z4, if_pos z4]
              · rw [if_neg z4, if_neg z4, if_neg (by omega), if_neg z3, if_neg k3]
      · intro q hq
        rw [e1 q hq, ha1, if_neg (by omega)]
    · refine Sx.iconst (v := (-1)) dX1_turnYear_72 (by decide) ?_
      refine Sx.goto (t := 77) dX1_turnYear_73 (by decide) ?_
      refine Sx.callU2 dX1_turnYear_77 lku_X1_107 (rcv_8 hr.1) (by decide) (by decide) (Nat.le_of_ble_eq_true rfl) rfl rfl (c_ss hr hs1 143 0 rfl (by decide) (by decide) (fun I2 e1 e2 => ?_))
      refine Sx.iconst (v := 0) dX1_turnYear_80 (by decide) ?_
      refine Sx.ist (fun zz => [(5, .int zz), (4, .int (nI (vcN x (amxN (vcN x) (P 34))))), (3, .int (nI (amxN (vcN x) (P 34)))), (0, .ref 114), (1, .ref s), (2, .int (nI x))]) dX1_turnYear_81 (by decide) (fun _ => rfl) (fun x5_81 ex5_81 => ?_)
      refine Sx.sub' [(5, .int x5_81), (4, .int (nI (vcN x (amxN (vcN x) (P 34))))), (3, .int (nI (amxN (vcN x) (P 34)))), (0, .ref 114), (1, .ref s), (2, .int (nI x))] rfl ?_
      have hv0 : vcN x (amxN (vcN x) (P 34)) = 0 := by
        rcases Nat.eq_zero_or_pos (vcN x (amxN (vcN x) (P 34))) with q | q
        · exact q
        · exact absurd c69 (by simpa using nI_ne0 q (by omega))
      rw [if_pos (Or.inr hv0)] at haa
      refine Sx.iload dX1_turnYear_83 rfl ?_
      refine Sx.if_le (t := 134) dX1_turnYear_85 (by decide) (fun c85 => ?_) (fun c85 => absurd (by rw [hv0]; decide) c85)
      refine J I2 _ _ _ _ e1 (fun q hq => by rw [e2 q hq, hJ1 q hq]) ?_ ?_
      · rw [upn_ne _ _ (by decide), vo1, if_neg (by omega)]
      · intro q hq k1 k2 k3 k4
        unfold trnN
        rw [haa]
        by_cases z1 : q < 6
        · rw [if_pos z1, if_neg (fun z => z.2.1 rfl), upn_ne _ _ (by omega), vo1, if_neg (by omega)]
        · rw [if_neg z1]
          by_cases z3 : q = 143
          · subst z3
            rw [upn_eq, if_neg (by omega), if_neg (by omega), if_pos rfl]
          · rw [upn_ne _ _ z3, vo1]
            by_cases z4 : 12 ≤ q ∧ q < 12 + P 34
            · rw [if_pos z4, if_pos z4]
            · rw [if_neg z4, if_neg z4, if_neg (by omega), if_neg z3, if_neg k3]
  refine Sx.iconst (v := 0) dX1_turnYear_0 (by decide) ?_
  refine Sx.ist_n (fun zz => [(3, .int zz), (0, .ref 114), (1, .ref s), (2, .int (nI x))]) dX1_turnYear_1 (by decide) (fun _ => rfl) (fun x3_1 ex3_1 => ?_)
  refine l_ty1 (F := F) W hp hP hr hx hxx (fun I1 hs1 hJ1 => ?_) (P 34 + 1) 0 (by omega) (by omega) I ?_ (fun _ _ => rfl) _ ex3_1
  · have hld : amx (I1 (s + 1)) 12 (P 34) = amxN (vcN x) (P 34) := amxN_of (P 34) (fun i hi => by
      refine ⟨?_, by have := vcN_le x i; omega⟩
      rw [hs1 _ (by omega), sv_n (by omega), vo1, if_pos (by omega), Nat.add_sub_cancel_left])
    have hll : amxN (vcN x) (P 34) < P 34 := by rw [← hld]; exact amx_lt _ _ _ (by omega)
    have hpos : ¬ P 34 = 0 := by omega
    have hvl := vcN_le x (amxN (vcN x) (P 34))
    have haa := amp_amx (vcN x) (P 34)
    refine Sx.aload_n dX1_turnYear_37 rfl ?_
    refine Sx.bipush (v := 12) dX1_turnYear_38 (by decide) ?_
    refine Sx.aload_n dX1_turnYear_40 rfl ?_
    refine Sx.getfR dX1_turnYear_41 lkf_X1_37_1 (o_114 W) (r_114_0 W) ?_
    refine Sx.bipush (v := 34) dX1_turnYear_44 (by decide) ?_
    refine Sx.callU1 dX1_turnYear_46 lku_X1_49 (rcv_6 (o_103 W)) (by decide) (by decide) (Nat.le_of_ble_eq_true rfl) rfl rfl (c_rg (w_103r W) rC6 (by decide) (by rw [hJ1 _ (by omega)]; exact hp) 34 rfl (by decide) ?_)
    refine Sx.callU2 dX1_turnYear_49 lku_X1_130 (rcv_8 hr.1) (by decide) (by decide) (Nat.le_of_ble_eq_true rfl) rfl rfl (c_pom (p := 12) hr rC8 (by decide) (by omega) (by omega) ?_)
    refine Sx.ist_n (fun zz => [(3, .int zz), (0, .ref 114), (1, .ref s), (2, .int (nI x))]) dX1_turnYear_52 (by decide) (fun _ => rfl) (fun x3_52 ex3_52 => ?_)
    refine Sx.aload_n dX1_turnYear_53 rfl ?_
    refine Sx.bipush (v := 12) dX1_turnYear_54 (by decide) ?_
    refine Sx.iload_n dX1_turnYear_56 rfl ?_
    refine Sx.iadd dX1_turnYear_57 ?_
    refine Sx.callU1 dX1_turnYear_58 lku_X1_43 (rcv_8 hr.1) (by decide) (by decide) (Nat.le_of_ble_eq_true rfl) rfl rfl (c_sg hr hs1 (12 + amxN (vcN x) (P 34)) (by rw [ex3_52, hld]; exact nI_add 12 _) (by omega) (by omega) ?_)
    refine Sx.ist (fun zz => [(4, .int zz), (3, .int x3_52), (0, .ref 114), (1, .ref s), (2, .int (nI x))]) dX1_turnYear_61 (by decide) (fun _ => rfl) (fun x4_61 ex4_61 => ?_)
    have hv4 : x4_61 = nI (vcN x (amxN (vcN x) (P 34))) := by rw [ex4_61, vo1, if_pos (by omega), Nat.add_sub_cancel_left]
    refine Sx.sub' [(4, .int (nI (vcN x (amxN (vcN x) (P 34))))), (3, .int (nI (amxN (vcN x) (P 34)))), (0, .ref 114), (1, .ref s), (2, .int (nI x))] (by rw [← hv4, ← hld, ← ex3_52]; rfl) ?_
    exact K I1 hs1 hJ1 hld hll hpos hvl haa
  · intro q hq
    rw [hs q hq, vo1, if_neg (by omega)]
