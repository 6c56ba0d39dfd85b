/-! Course: a day goes by -/
def sbB (P : Nat → Nat) (j : Nat) : Nat := if j < 6 then P 34 else if j < 12 then 10000 else if j < 18 then 7 else if j < 48 then 100 else if j < 78 then 2 ^ 18 else if j < 138 then 2 ^ 24 else
  if j = 138 then 64 else if j = 139 then 10 else if j = 140 then 2 else if j = 141 then 21 else if j = 142 then 1000 else if j = 143 then P 34 + 1 else if j = 144 then 2 ^ 20 else P 0
theorem SB.lt {P F : Nat → Nat} (h : SB P F) : ∀ j, j < 146 → F j < sbB P j := by
  obtain ⟨h1, h2, h3, h4, h5, h6, h7, h8, h9, h10, h11, h12, h13, h14, h15, h16⟩ := h
  intro j hj
  unfold sbB
  by_cases c1 : j < 6
  · rw [if_pos c1]; exact h15 j c1
  rw [if_neg c1]
  by_cases c2 : j < 12
  · rw [if_pos c2]; have := h2 (j - 6) (by omega); rw [show 6 + (j - 6) = j by omega] at this; omega
  rw [if_neg c2]
  by_cases c3 : j < 18
  · rw [if_pos c3]; have := h3 (j - 12) (by omega); rw [show 12 + (j - 12) = j by omega] at this; omega
  rw [if_neg c3]
  by_cases c4 : j < 48
  · rw [if_pos c4]; have := h4 (j - 18) (by omega); rw [show 18 + (j - 18) = j by omega] at this; omega
  rw [if_neg c4]
  by_cases c5 : j < 78
  · rw [if_pos c5]; have := h5 (j - 48) (by omega); rw [show 48 + (j - 48) = j by omega] at this; omega
  rw [if_neg c5]
  by_cases c6 : j < 138
  · rw [if_pos c6]; have := h6 (j - 78) (by omega); rw [show 78 + (j - 78) = j by omega] at this; omega
  rw [if_neg c6]
  have : j = 138 ∨ j = 139 ∨ j = 140 ∨ j = 141 ∨ j = 142 ∨ j = 143 ∨ j = 144 ∨ j = 145 := by omega
  rcases this with rfl | rfl | rfl | rfl | rfl | rfl | rfl | rfl <;> simp <;> omega
theorem sbB_1 (P : Nat → Nat) {j : Nat} (h : j < 6) : sbB P j = P 34 := by rw [sbB, if_pos h]
theorem sbB_2 (P : Nat → Nat) {j : Nat} (h : j < 6) : sbB P (6 + j) = 10000 := by rw [sbB, if_neg (by omega), if_pos (by omega)]
theorem sbB_3 (P : Nat → Nat) {j : Nat} (h : j < 6) : sbB P (12 + j) = 7 := by rw [sbB, if_neg (by omega), if_neg (by omega), if_pos (by omega)]
theorem sbB_4 (P : Nat → Nat) {j : Nat} (h : j < 30) : sbB P (18 + j) = 100 := by rw [sbB, if_neg (by omega), if_neg (by omega), if_neg (by omega), if_pos (by omega)]
theorem sbB_5 (P : Nat → Nat) {j : Nat} (h : j < 30) : sbB P (48 + j) = 2 ^ 18 := by rw [sbB, if_neg (by omega), if_neg (by omega), if_neg (by omega), if_neg (by omega), if_pos (by omega)]
theorem sbB_6 (P : Nat → Nat) {j : Nat} (h : j < 60) : sbB P (78 + j) = 2 ^ 24 := by rw [sbB, if_neg (by omega), if_neg (by omega), if_neg (by omega), if_neg (by omega), if_neg (by omega), if_pos (by omega)]
theorem sbB_le (P : Nat → Nat) {j : Nat} (h : P 34 ≤ 6) (h0 : P 0 ≤ 30 := by omega) : sbB P j ≤ 2 ^ 24 := by
  have i1 {p : Prop} [Decidable p] {a b n : Nat} (h1 : a ≤ n) (h2 : b ≤ n) : (if p then a else b) ≤ n := by
    by_cases c : p
    · rw [if_pos c]; exact h1
    · rw [if_neg c]; exact h2
  exact i1 (by omega) (i1 (by decide) (i1 (by decide) (i1 (by decide) (i1 (by decide) (i1 (by decide) (i1 (by decide) (i1 (by decide) (i1 (by decide) (i1 (by decide) (i1 (by decide) (i1 (by omega) (i1 (by decide) (by omega)))))))))))))
theorem SB.of {P F : Nat → Nat} (hP : PB P) (h : ∀ j, j < 146 → F j < sbB P j) : SB P F := by
  have h34 : P 34 ≤ 6 := hP.2.2.2.2.2.1
  have g138 : F 138 < 64 := h 138 (by decide)
  have g139 : F 139 < 10 := h 139 (by decide)
  have g140 : F 140 < 2 := h 140 (by decide)
  have g141 : F 141 < 21 := h 141 (by decide)
  have g142 : F 142 < 1000 := h 142 (by decide)
  have g143 : F 143 < P 34 + 1 := h 143 (by decide)
  have g144 : F 144 < 2 ^ 20 := h 144 (by decide)
  have g145 : F 145 < P 0 := h 145 (by decide)
  refine ⟨fun p hp => ?_, fun p hp => ?_, fun p hp => ?_, fun p hp => ?_, fun p hp => ?_, fun p hp => ?_, g138, by omega, by omega, by omega, by omega, by omega, g144, g145, fun p hp => ?_, by omega⟩
  · have := h p (by omega); rw [sbB_1 P hp] at this; omega
  · have := h (6 + p) (by omega); rw [sbB_2 P hp] at this; omega
  · have := h (12 + p) (by omega); rw [sbB_3 P hp] at this; omega
  · have := h (18 + p) (by omega); rw [sbB_4 P hp] at this; omega
  · have := h (48 + p) (by omega); rw [sbB_5 P hp] at this; omega
  · have := h (78 + p) (by omega); rw [sbB_6 P hp] at this; omega
  · have := h p (by omega); rw [sbB_1 P hp] at this; omega
theorem SB.up {P F : Nat → Nat} (hP : PB P) (h : SB P F) (k x : Nat) (hx : x < sbB P k) : SB P (upn F k x) := by
  refine SB.of hP (fun j hj => ?_)
  by_cases c : j = k
  · subst c; rw [upn_eq]; exact hx
  · rw [upn_ne _ _ c]; exact h.lt j hj
theorem lgN_lt {r q g : Nat} (hr : r < 2 ^ 8) (hq : q < 2 ^ 8) (hg : g < 2 ^ 8) : lgN r q g < 2 ^ 24 := by
  unfold lgN
  refine Nat.or_lt_two_pow (Nat.or_lt_two_pow (by omega) (by omega)) (by omega)
/-- the year's end -/
def eyN (P F : Nat → Nat) : Nat → Nat :=
  upn (trnN P F (F (48 + (dkN F (F 145) - 1)))) (78 + F 144 % 60) (lgN (dkN F (F 145) - 1) (F (18 + (dkN F (F 145) - 1))) (amp (vcN (F (48 + (dkN F (F 145) - 1)))) (P 34)))
def brs (P F : Nat → Nat) (lt : Nat) : Nat → Nat → Nat
  | 0 => F
  | j + 1 => if hbN (F 138) j = true then brs P F lt j else brN P (brs P F lt j) j lt
/-- a day has been seen: its light, what was done, what was brought in -/
def seenN (P : Nat → Nat) (w : Wt) (F : Nat → Nat) : Nat → Nat :=
  brs P (upn (upn F (18 + F 145) (litN P w F (F 145) (F 139) (upc P F))) (48 + F 145) (dnN F (P 35))) (litN P w F (F 145) (F 139) (upc P F)) (P 35)
def nextN (F : Nat → Nat) (d : Nat) : Nat → Nat := upn (upn (upn F 140 0) 141 0) 145 d
def pdN (P : Nat → Nat) (w : Wt) (F : Nat → Nat) : Nat → Nat :=
  if P 0 ≤ F 145 + 1 then eyN P (nextN (seenN P w F) (F 145 + 1)) else nextN (seenN P w F) (F 145 + 1)
theorem brN_at {P F : Nat → Nat} {p lt q : Nat} (h1 : q ≠ 6 + p) (h2 : q ≠ 142) : brN P F p lt q = F q := by
  unfold brN
  split
  · rfl
  · rw [upn_ne _ _ h2, upn_ne _ _ h1]
theorem brN_SB {P F : Nat → Nat} (hP : PB P) (h : SB P F) {p lt : Nat} (hp : p < 6) : SB P (brN P F p lt) := by
  unfold brN
  split
  · exact h
  · refine SB.up hP (SB.up hP h _ _ ?_) _ _ ?_
    · rw [sbB_2 P hp]; omega
    · have : sbB P 142 = 1000 := rfl
      omega
theorem brs_at {P F : Nat → Nat} {lt q : Nat} (h1 : q < 6 ∨ 12 ≤ q) (h2 : q ≠ 142) : ∀ j, j ≤ 6 → brs P F lt j q = F q
  | 0 => fun _ => rfl
  | j + 1 => fun hj => by
    unfold brs
    split
    · exact brs_at h1 h2 j (by omega)
    · rw [brN_at (by omega) h2]; exact brs_at h1 h2 j (by omega)
theorem brs_SB {P F : Nat → Nat} (hP : PB P) (h : SB P F) {lt : Nat} : ∀ j, j ≤ 6 → SB P (brs P F lt j)
  | 0 => fun _ => h
  | j + 1 => fun hj => by
    unfold brs
    split
    · exact brs_SB hP h j (by omega)
    · exact brN_SB hP (brs_SB hP h j (by omega)) (by omega)
theorem amp_lt {c : Nat → Nat} {n : Nat} (h : amp c n ≠ 0) : amp c n - 1 < n := by have := amp_le c n; omega
theorem trnN_lt {P F : Nat → Nat} (hP : PB P) (h : ∀ j, j < 146 → j ≠ 145 → F j < sbB P j) (hy : F 144 + 1 < 2 ^ 20) (x : Nat) : SB P (trnN P F x) := by
  have p1 : 2 ≤ P 0 := hP.1
  have p34 : P 34 ≤ 6 := hP.2.2.2.2.2.1
  have hal := amp_le (vcN x) (P 34)
  refine SB.of hP (fun j hj => ?_)
  unfold trnN
  by_cases c1 : j < 6
  · rw [if_pos c1, sbB_1 P c1]
    split
    · next e => exact amp_lt e.2.1
    · have := h j hj (by omega); rw [sbB_1 P c1] at this; exact this
  · rw [if_neg c1]
    by_cases c2 : 12 ≤ j ∧ j < 12 + P 34
    · rw [if_pos c2, show j = 12 + (j - 12) by omega, sbB_3 P (by omega)]
      have := vcN_le x (12 + (j - 12) - 12)
      omega
    · rw [if_neg c2]
      by_cases c3 : j = 140 ∨ j = 141 ∨ j = 145
      · rw [if_pos c3]
        rcases c3 with e | e | e <;> subst e <;> simp [sbB] <;> omega
      · rw [if_neg c3]
        by_cases c4 : j = 143
        · subst c4; simp [sbB]; omega
        · rw [if_neg c4]
          by_cases c5 : j = 144
          · subst c5; simp [sbB]; omega
          · rw [if_neg c5]; exact h j hj (by omega)
theorem eyN_SB {P F : Nat → Nat} (hP : PB P) (h : ∀ j, j < 146 → j ≠ 145 → F j < sbB P j) (hd : F 145 ≤ 30) (hd0 : 0 < F 145) (hy : F 144 + 1 < 2 ^ 20) : SB P (eyN P F) := by
  have p34 : P 34 ≤ 6 := hP.2.2.2.2.2.1
  have hal := amp_le (vcN (F (48 + (dkN F (F 145) - 1)))) (P 34)
  have hk := dkN_le F (F 145)
  have hq := h (18 + (dkN F (F 145) - 1)) (by omega) (by omega)
  rw [sbB_4 P (by omega)] at hq
  refine SB.up hP (trnN_lt hP h hy _) _ _ ?_
  rw [sbB_6 P (by omega)]
  exact lgN_lt (by omega) (by omega) (by omega)
theorem seenN_SB {P F : Nat → Nat} {w : Wt} (hP : PB P) (h : SB P F) : SB P (seenN P w F) := by
  have h145 := h.2.2.2.2.2.2.2.2.2.2.2.2.2.1
  have p2 := hP.2.1
  have p35 : P 35 ≤ 6 := hP.2.2.2.2.2.2.2.1
  refine brs_SB hP (SB.up hP (SB.up hP h _ _ ?_) _ _ ?_) _ p35
  · rw [sbB_4 P (by omega)]; have := litN_le P w F (F 145) (F 139) (upc P F); omega
  · rw [sbB_5 P (by omega)]
    exact Nat.lt_of_lt_of_le (dnN_lt h.1 (P 35) p35) (Nat.pow_le_pow_right (by decide) (by omega))
theorem seenN_at {P F : Nat → Nat} {w : Wt} (hP : PB P) {q : Nat} (h : 78 ≤ q) (hq : q ≠ 142) (hd : F 145 < 30) : seenN P w F q = F q := by
  have p35 : P 35 ≤ 6 := hP.2.2.2.2.2.2.2.1
  unfold seenN
  rw [brs_at (by omega) hq _ p35, upn_ne _ _ (by omega), upn_ne _ _ (by omega)]
theorem nextN_lt {P F : Nat → Nat} (h : SB P F) (d : Nat) : ∀ j, j < 146 → j ≠ 145 → nextN F d j < sbB P j := by
  intro j hj h1
  unfold nextN
  rw [upn_ne _ _ h1]
  by_cases c : j = 141
  · subst c; rw [upn_eq]; exact (show 0 < 21 by decide)
  · rw [upn_ne _ _ c]
    by_cases c : j = 140
    · subst c; rw [upn_eq]; exact (show 0 < 2 by decide)
    · rw [upn_ne _ _ c]; exact h.lt j hj
theorem pdN_SB {P F : Nat → Nat} {w : Wt} (hP : PB P) (h : SB P F) (hy : F 144 + 1 < 2 ^ 20) : SB P (pdN P w F) := by
  have h145 := h.2.2.2.2.2.2.2.2.2.2.2.2.2.1
  have p2 := hP.2.1
  have e144 : seenN P w F 144 = F 144 := seenN_at hP (by decide) (by decide) (by omega)
  have hn := nextN_lt (P := P) (seenN_SB (w := w) hP h) (F 145 + 1)
  unfold pdN
  split
  · have d1 : nextN (seenN P w F) (F 145 + 1) 145 = F 145 + 1 := by unfold nextN; rw [upn_eq]
    have d2 : nextN (seenN P w F) (F 145 + 1) 144 = F 144 := by unfold nextN; rw [upn_ne _ _ (by decide), upn_ne _ _ (by decide), upn_ne _ _ (by decide), e144]
    exact eyN_SB hP hn (by rw [d1]; omega) (by rw [d1]; omega) (by rw [d2]; omega)
  · next c =>
    refine SB.of hP (fun j hj => ?_)
    by_cases cj : j = 145
    · subst cj
      unfold nextN; rw [upn_eq]
      simp [sbB]; omega
    · exact hn j hj cj
set_option maxRecDepth 20000 in
set_option maxHeartbeats 1000000 in
theorem c_eyear {G : Gt} {l : Launch} {Z : Zt} {R : Rt} {I : It} {L : Lt} {post : Pt'} {s : Nat} {P F : Nat → Nat} (W : WF Z R) (hp : rep 36 (I 104) P) (hP : PB P) (hr : rwo Z R s 8 146) (hs : rs (I (s + 1)) F) (hx : 119 ≤ s ∧ s < 232) (hb : ∀ j, j < 146 → j ≠ 145 → F j < sbB P j) (hd0 : 0 < F 145) (hd : F 145 ≤ 30) (h : ∀ I', rs (I' (s + 1)) (eyN P F) → (∀ q, q ≠ s + 1 → I' q = I q) → post none Z R I' L) : Cx G l mX1_endYear 5 0 0 [.ref 114, .ref s] Z R I L post := by
  refine Cx.of (by decide +kernel) (by exact Nat.le_of_ble_eq_true rfl) ?_
  have hP' := hP
  obtain ⟨p1, p2, p3, p4, p5, p6, p7, p8, p9⟩ := hP'
  have hk := dkN_le F (F 145)
  have hk0 := dkN_pos F (F 145) hd0
  have hb144 : F 144 < 2 ^ 20 := hb 144 (by decide) (by decide)
  have hball : ∀ j, j < 146 → F j < 2 ^ 24 := fun j hj => by
    by_cases c : j = 145
    · subst c; omega
    · have := hb j hj c
      have := sbB_le P (j := j) p6
      omega
  have h48 := hb (48 + (dkN F (F 145) - 1)) (by omega) (by omega)
  rw [sbB_5 P (by omega)] at h48
  have h18 := hb (18 + (dkN F (F 145) - 1)) (by omega) (by omega)
  rw [sbB_4 P (by omega)] at h18
  have hal := amp_le (vcN (F (48 + (dkN F (F 145) - 1)))) (P 34)
  have e18 : trnN P F (F (48 + (dkN F (F 145) - 1))) (18 + (dkN F (F 145) - 1)) = F (18 + (dkN F (F 145) - 1)) := by
    unfold trnN
    rw [if_neg (by omega), if_neg (by omega), if_neg (by omega), if_neg (by omega), if_neg (by omega)]
  have e143 : trnN P F (F (48 + (dkN F (F 145) - 1))) 143 = amp (vcN (F (48 + (dkN F (F 145) - 1)))) (P 34) := by
    unfold trnN
    rw [if_neg (by omega), if_neg (by omega), if_neg (by omega), if_pos rfl]
  refine Sx.aload_n dX1_endYear_0 rfl ?_
  refine Sx.sipush (v := 144) dX1_endYear_1 (by decide) ?_
  refine Sx.callU1 dX1_endYear_4 lku_X1_43 (rcv_8 hr.1) (by decide) (by decide) (Nat.le_of_ble_eq_true rfl) rfl rfl (c_sg hr hs 144 rfl (by decide) (by decide) ?_)
  refine Sx.ist_n (fun zz => [(2, .int zz), (0, .ref 114), (1, .ref s)]) dX1_endYear_7 (by decide) (fun _ => rfl) (fun x2_7 ex2_7 => ?_)
  refine Sx.aload_n dX1_endYear_8 rfl ?_
  refine Sx.callV0 dX1_endYear_9 lkv_X1_84 (rcv_8 hr.1) (by decide) (by decide) (Nat.le_of_ble_eq_true rfl) rfl rfl (c_X8_dark hr hs (fun j hj => by have := hball j hj; omega) hd ?_)
  refine Sx.ist_n (fun zz => [(3, .int zz), (2, .int x2_7), (0, .ref 114), (1, .ref s)]) dX1_endYear_12 (by decide) (fun _ => rfl) (fun x3_12 ex3_12 => ?_)
  have hm1 : nI (dkN F (F 145)) - 1 = nI (dkN F (F 145) - 1) := n_sub (a := dkN F (F 145)) (b := 1) (by omega)
  refine Sx.aload_n dX1_endYear_13 rfl ?_
  refine Sx.aload_n dX1_endYear_14 rfl ?_
  refine Sx.aload_n dX1_endYear_15 rfl ?_
  refine Sx.bipush (v := 48) dX1_endYear_16 (by decide) ?_
  refine Sx.iload_n dX1_endYear_18 rfl ?_
  refine Sx.iadd dX1_endYear_19 ?_
  refine Sx.callU1 dX1_endYear_20 lku_X1_43 (rcv_8 hr.1) (by decide) (by decide) (Nat.le_of_ble_eq_true rfl) rfl rfl (c_sg hr hs (48 + (dkN F (F 145) - 1)) (by rw [ex3_12, hm1]; exact nI_add 48 _) (by omega) (by omega) ?_)
  refine Sx.callV2 dX1_endYear_23 lkv_X1_116 (rcv_1 (o_114 W)) (by decide) (by decide) (Nat.le_of_ble_eq_true rfl) rfl rfl (c_turn W hp hP hr hx (by omega) hs (by omega) (fun I1 hs1 hJ1 => ?_))
  refine Sx.aload_n dX1_endYear_26 rfl ?_
  refine Sx.iload_n dX1_endYear_27 rfl ?_
  refine Sx.iload_n dX1_endYear_28 rfl ?_
  refine Sx.aload_n dX1_endYear_29 rfl ?_
  refine Sx.bipush (v := 18) dX1_endYear_30 (by decide) ?_
  refine Sx.iload_n dX1_endYear_32 rfl ?_
  refine Sx.iadd dX1_endYear_33 ?_
  refine Sx.callU1 dX1_endYear_34 lku_X1_43 (rcv_8 hr.1) (by decide) (by decide) (Nat.le_of_ble_eq_true rfl) rfl rfl (c_sg hr hs1 (18 + (dkN F (F 145) - 1)) (by rw [ex3_12, hm1]; exact nI_add 18 _) (by omega) (by omega) ?_)
  rw [e18]
  rw [ex2_7, ex3_12, hm1]
  refine Sx.callV3 dX1_endYear_37 lkv_X1_120 (rcv_8 hr.1) (by decide) (by decide) (Nat.le_of_ble_eq_true rfl) rfl rfl (c_X8_writeLog hr hs1 (by omega) (by omega) (by rw [e143]; omega) (fun I2 hs2 hJ2 => ?_))
  refine Sx.vret dX1_endYear_40 rfl ?_
  refine h I2 ?_ (fun q hq => (hJ2 q hq).trans (hJ1 q hq))
  rw [e143] at hs2
  exact hs2
set_option maxRecDepth 20000 in
set_option maxHeartbeats 1000000 in
theorem l_pd {G : Gt} {l : Launch} {Z : Zt} {R : Rt} {L : Lt} {post : Pt'} {s : Nat} {P F : Nat → Nat} {lt dy : Nat} {I0 : It} (W : WF Z R) (hp : rep 36 (I0 104) P) (hP : PB P) (hr : rwo Z R s 8 146) (hF : SB P F) (hx : 119 ≤ s ∧ s < 232) (hlt : lt ≤ 99) (h : ∀ I', rs (I' (s + 1)) (brs P F lt (P 35)) → (∀ q, q ≠ s + 1 → I' q = I0 q) → Sx G l mX1_passDay 6 0 0 93 [(4, .int (nI (P 35))), (3, .int (nI lt)), (2, .int (nI dy)), (0, .ref 114), (1, .ref s)] [] Z R I' L post) :
    ∀ (k j : Nat), j ≤ P 35 → P 35 < j + k → ∀ (I : It) , (rs (I (s + 1)) (brs P F lt j)) → (∀ q, q ≠ s + 1 → I q = I0 q) → ∀ (y : Int32), y = nI j → Sx G l mX1_passDay 6 0 0 58 [(4, .int y), (3, .int (nI lt)), (2, .int (nI dy)), (0, .ref 114), (1, .ref s)] [] Z R I L post := by
  have hall := hF.all hP
  have hP' := hP
  have hF' := hF
  obtain ⟨f1, f2, f3, f4, f5, f6, f7, f8, f9, f10, f11, f12, f13, f14, f15, f16⟩ := hF'
  obtain ⟨p1, p2, p3, p4, p5, p6, p7, p8, p9⟩ := hP'
  intro k
  induction k with
  | zero => intro j h1 h2; omega
  | succ k ih =>
    intro j h1 h2 I  hs hJ y hy
    subst hy
    refine Sx.iload dX1_passDay_58 rfl ?_
    refine Sx.aload_n dX1_passDay_60 rfl ?_
    refine Sx.getfR dX1_passDay_61 lkf_X1_37_1 (o_114 W) (r_114_0 W) ?_
    refine Sx.callV0 dX1_passDay_64 lkv_X1_74 (rcv_6 (o_103 W)) (by decide) (by decide) (Nat.le_of_ble_eq_true rfl) rfl rfl (c_pers (w_103r W) (by rw [hJ _ (by omega)]; exact hp) ?_)
    refine Sx.icmp_ge (t := 93) dX1_passDay_67 (by decide) (fun c67 => ?_) (fun c67 => ?_)
    · have hj := lp_end rfl (by omega) h1 c67
      refine Sx.sub' [(4, .int (nI (P 35))), (3, .int (nI lt)), (2, .int (nI dy)), (0, .ref 114), (1, .ref s)] (by rw [← hj]; rfl) ?_
      rw [hj] at hs
      exact h I hs hJ
    · have hlt2 := lp_lt rfl (by omega) h1 c67
      have hB := brs_SB (lt := lt) hP hF j (by omega)
      have e138 : brs P F lt j 138 = F 138 := brs_at (by omega) (by decide) j (by omega)
      refine Sx.aload_n dX1_passDay_70 rfl ?_
      refine Sx.iload dX1_passDay_71 rfl ?_
      refine Sx.callV1 dX1_passDay_73 lkv_X1_91 (rcv_8 hr.1) (by decide) (by decide) (Nat.le_of_ble_eq_true rfl) rfl rfl (c_X8_isInBed hr hs (by rw [e138]; exact f7) (by omega) ?_)
      rw [e138]
      refine Sx.if_ne (t := 87) dX1_passDay_76 (by decide) (fun c76 => ?_) (fun c76 => ?_)
      · have hbd : hbN (F 138) j = true := b2i_ne.mp c76
        refine Sx.iincN (fun zz => [(4, .int zz), (3, .int (nI lt)), (2, .int (nI dy)), (0, .ref 114), (1, .ref s)]) dX1_passDay_87 rfl (by decide) (fun _ => rfl) (fun x4_87 ex4_87 => ?_)
        refine Sx.goto (t := 58) dX1_passDay_90 (by decide) ?_
        refine Sx.sub' [(4, .int x4_87), (3, .int (nI lt)), (2, .int (nI dy)), (0, .ref 114), (1, .ref s)] rfl ?_
        refine ih (j + 1) (by omega) (by omega) I (by rw [brs, if_pos hbd]; exact hs) hJ _ (by rw [ex4_87]; exact nI_1 j)
      · have hbd : ¬ hbN (F 138) j = true := by rw [b2i_0.mp c76]; decide
        refine Sx.aload_n dX1_passDay_79 rfl ?_
        refine Sx.aload_n dX1_passDay_80 rfl ?_
        refine Sx.iload dX1_passDay_81 rfl ?_
        refine Sx.iload_n dX1_passDay_83 rfl ?_
        refine Sx.callV3 dX1_passDay_84 lkv_X1_108 (rcv_1 (o_114 W)) (by decide) (by decide) (Nat.le_of_ble_eq_true rfl) rfl rfl (c_bring W (by rw [hJ _ (by omega)]; exact hp) hP hr hs hx (hB.1 j (by omega)) (hB.2.2.1 _ (hB.1 j (by omega))) (hB.2.1 j (by omega)) hB.2.2.2.2.2.2.2.2.2.2.1 (by omega) hlt (fun I2 e1 e2 => ?_))
        refine Sx.iincN (fun zz => [(4, .int zz), (3, .int (nI lt)), (2, .int (nI dy)), (0, .ref 114), (1, .ref s)]) dX1_passDay_87 rfl (by decide) (fun _ => rfl) (fun x4_87 ex4_87 => ?_)
        refine Sx.goto (t := 58) dX1_passDay_90 (by decide) ?_
        refine Sx.sub' [(4, .int x4_87), (3, .int (nI lt)), (2, .int (nI dy)), (0, .ref 114), (1, .ref s)] rfl ?_
        refine ih (j + 1) (by omega) (by omega) I2 (by rw [brs, if_neg hbd]; exact e1) (fun q hq => (e2 q hq).trans (hJ q hq)) _ (by rw [ex4_87]; exact nI_1 j)
theorem dnN_congr {F F' : Nat → Nat} (h1 : F 138 = F' 138) (h : ∀ j, j < 6 → F j = F' j) : ∀ n, n ≤ 6 → dnN F n = dnN F' n
  | 0 => fun _ => rfl
  | j + 1 => fun hj => by rw [dnN, dnN, dnN_congr h1 h j (by omega), h1, h j (by omega)]
set_option maxRecDepth 20000 in
set_option maxHeartbeats 1000000 in
theorem c_pass {G : Gt} {l : Launch} {Z : Zt} {R : Rt} {I : It} {L : Lt} {post : Pt'} {s : Nat} {P F : Nat → Nat} {w : Wt} (W : WF Z R) (hp : rep 36 (I 104) P) (hP : PB P) (hr : rwo Z R s 8 146) (hs : rs (I (s + 1)) F) (hx : 119 ≤ s ∧ s < 232) (hL : LW R I w) (hF : SB P F) (hy : F 144 + 1 < 2 ^ 20) (h : ∀ I', rs (I' (s + 1)) (pdN P w F) → (∀ q, q ≠ 116 → q ≠ 118 → q ≠ s + 1 → I' q = I q) → post none Z R I' L) : Cx G l mX1_passDay 6 0 0 [.ref 114, .ref s] Z R I L post := by
  refine Cx.of (by decide +kernel) (by exact Nat.le_of_ble_eq_true rfl) ?_
  have hall := hF.all hP
  have hP' := hP
  have hF' := hF
  obtain ⟨f1, f2, f3, f4, f5, f6, f7, f8, f9, f10, f11, f12, f13, f14, f15, f16⟩ := hF'
  obtain ⟨p1, p2, p3, p4, p5, p6, p7, p8, p9⟩ := hP'
  have hlt := litN_le P w F (F 145) (F 139) (upc P F)
  have hS1 : SB P (upn F (18 + F 145) (litN P w F (F 145) (F 139) (upc P F))) := SB.up hP hF _ _ (by rw [sbB_4 P (by omega)]; omega)
  have hdn : dnN F (P 35) < 2 ^ 18 := Nat.lt_of_lt_of_le (dnN_lt hF.1 (P 35) (by omega)) (Nat.pow_le_pow_right (by decide) (by omega))
  have hS2 : SB P (upn (upn F (18 + F 145) (litN P w F (F 145) (F 139) (upc P F))) (48 + F 145) (dnN F (P 35))) := SB.up hP hS1 _ _ (by rw [sbB_5 P (by omega)]; exact hdn)
  have hS3 : SB P (seenN P w F) := seenN_SB hP hF
  have e144 : seenN P w F 144 = F 144 := seenN_at hP (by decide) (by decide) (by omega)
  have edn : dnN (upn F (18 + F 145) (litN P w F (F 145) (F 139) (upc P F))) (P 35) = dnN F (P 35) := dnN_congr (by rw [upn_ne _ _ (by omega)]) (fun j hj => by rw [upn_ne _ _ (by omega)]) (P 35) (by omega)
  refine Sx.aload_n dX1_passDay_0 rfl ?_
  refine Sx.sipush (v := 145) dX1_passDay_1 (by decide) ?_
  refine Sx.callU1 dX1_passDay_4 lku_X1_43 (rcv_8 hr.1) (by decide) (by decide) (Nat.le_of_ble_eq_true rfl) rfl rfl (c_sg hr hs 145 rfl (by decide) (by decide) ?_)
  refine Sx.ist_n (fun zz => [(2, .int zz), (0, .ref 114), (1, .ref s)]) dX1_passDay_7 (by decide) (fun _ => rfl) (fun x2_7 ex2_7 => ?_)
  refine Sx.sub' [(2, .int (nI (F 145))), (0, .ref 114), (1, .ref s)] (by rw [← ex2_7]; rfl) ?_
  refine Sx.aload_n dX1_passDay_8 rfl ?_
  refine Sx.aload_n dX1_passDay_9 rfl ?_
  refine Sx.iload_n dX1_passDay_10 rfl ?_
  refine Sx.aload_n dX1_passDay_11 rfl ?_
  refine Sx.sipush (v := 139) dX1_passDay_12 (by decide) ?_
  refine Sx.callU1 dX1_passDay_15 lku_X1_43 (rcv_8 hr.1) (by decide) (by decide) (Nat.le_of_ble_eq_true rfl) rfl rfl (c_sg hr hs 139 rfl (by decide) (by decide) ?_)
  refine Sx.aload_n dX1_passDay_18 rfl ?_
  refine Sx.aload_n dX1_passDay_19 rfl ?_
  refine Sx.getfR dX1_passDay_20 lkf_X1_37_1 (o_114 W) (r_114_0 W) ?_
  refine Sx.callV0 dX1_passDay_23 lkv_X1_74 (rcv_6 (o_103 W)) (by decide) (by decide) (Nat.le_of_ble_eq_true rfl) rfl rfl (c_pers (w_103r W) hp ?_)
  refine Sx.callV1 dX1_passDay_26 lkv_X1_77 (rcv_8 hr.1) (by decide) (by decide) (Nat.le_of_ble_eq_true rfl) rfl rfl (c_X8_upCount hr hs f7 (by omega) ?_)
  refine Sx.callV4 dX1_passDay_29 lkv_X1_80 (rcv_1 (o_114 W)) (by decide) (by decide) (Nat.le_of_ble_eq_true rfl) rfl rfl (c_light W hp hP hr hs hx hL hF (by omega) f8 (upc_le hP hF) (fun I1 hJ1 => ?_))
  refine Sx.ist_n (fun zz => [(3, .int zz), (2, .int (nI (F 145))), (0, .ref 114), (1, .ref s)]) dX1_passDay_32 (by decide) (fun _ => rfl) (fun x3_32 ex3_32 => ?_)
  change x3_32 = nI (litN P w F (F 145) (F 139) (upc P F)) at ex3_32
  refine Sx.aload_n dX1_passDay_33 rfl ?_
  refine Sx.bipush (v := 18) dX1_passDay_34 (by decide) ?_
  refine Sx.iload_n dX1_passDay_36 rfl ?_
  refine Sx.iadd dX1_passDay_37 ?_
  refine Sx.iload_n dX1_passDay_38 rfl ?_
  refine Sx.callU2 dX1_passDay_39 lku_X1_107 (rcv_8 hr.1) (by decide) (by decide) (Nat.le_of_ble_eq_true rfl) rfl rfl (c_ss hr (by rw [hJ1 _ (by omega) (by omega)]; exact hs) (18 + F 145) (litN P w F (F 145) (F 139) (upc P F)) (nI_add 18 _) (by omega) (by rw [ex3_32, sv_n (by omega)]) (fun I2 e1 e2 => ?_))
  refine Sx.aload_n dX1_passDay_42 rfl ?_
  refine Sx.bipush (v := 48) dX1_passDay_43 (by decide) ?_
  refine Sx.iload_n dX1_passDay_45 rfl ?_
  refine Sx.iadd dX1_passDay_46 ?_
  refine Sx.aload_n dX1_passDay_47 rfl ?_
  refine Sx.aload_n dX1_passDay_48 rfl ?_
  refine Sx.callV1 dX1_passDay_49 lkv_X1_95 (rcv_1 (o_114 W)) (by decide) (by decide) (Nat.le_of_ble_eq_true rfl) rfl rfl (c_dn W (by rw [e2 _ (by omega), hJ1 _ (by omega) (by omega)]; exact hp) (by omega) hr e1 (by rw [upn_ne _ _ (by omega)]; exact f7) hS1.1 ?_)
  refine Sx.callU2 dX1_passDay_52 lku_X1_107 (rcv_8 hr.1) (by decide) (by decide) (Nat.le_of_ble_eq_true rfl) rfl rfl (c_ss hr e1 (48 + F 145) (dnN F (P 35)) (nI_add 48 _) (by omega) (by rw [edn, sv_n (by omega)]) (fun I3 e3 e4 => ?_))
  refine Sx.iconst (v := 0) dX1_passDay_55 (by decide) ?_
  refine Sx.ist (fun zz => [(4, .int zz), (3, .int x3_32), (2, .int (nI (F 145))), (0, .ref 114), (1, .ref s)]) dX1_passDay_56 (by decide) (fun _ => rfl) (fun x4_56 ex4_56 => ?_)
  refine Sx.sub' [(4, .int x4_56), (3, .int (nI (litN P w F (F 145) (F 139) (upc P F)))), (2, .int (nI (F 145))), (0, .ref 114), (1, .ref s)] (by rw [← ex3_32]; rfl) ?_
  refine l_pd (F := (upn (upn F (18 + F 145) (litN P w F (F 145) (F 139) (upc P F))) (48 + F 145) (dnN F (P 35)))) (dy := F 145) W (by rw [e4 _ (by omega), e2 _ (by omega), hJ1 _ (by omega) (by omega)]; exact hp) hP hr hS2 hx hlt (fun I4 e5 e6 => ?_) (P 35 + 1) 0 (by omega) (by omega) I3 e3 (fun _ _ => rfl) _ ex4_56
  refine Sx.aload_n dX1_passDay_93 rfl ?_
  refine Sx.sipush (v := 140) dX1_passDay_94 (by decide) ?_
  refine Sx.iconst (v := 0) dX1_passDay_97 (by decide) ?_
  refine Sx.callU2 dX1_passDay_98 lku_X1_107 (rcv_8 hr.1) (by decide) (by decide) (Nat.le_of_ble_eq_true rfl) rfl rfl (c_ss hr e5 140 0 rfl (by decide) rfl (fun I5 e7 e8 => ?_))
  refine Sx.aload_n dX1_passDay_101 rfl ?_
  refine Sx.sipush (v := 141) dX1_passDay_102 (by decide) ?_
  refine Sx.iconst (v := 0) dX1_passDay_105 (by decide) ?_
  refine Sx.callU2 dX1_passDay_106 lku_X1_107 (rcv_8 hr.1) (by decide) (by decide) (Nat.le_of_ble_eq_true rfl) rfl rfl (c_ss hr e7 141 0 rfl (by decide) rfl (fun I6 e9 e10 => ?_))
  refine Sx.aload_n dX1_passDay_109 rfl ?_
  refine Sx.sipush (v := 145) dX1_passDay_110 (by decide) ?_
  refine Sx.iload_n dX1_passDay_113 rfl ?_
  refine Sx.iconst (v := 1) dX1_passDay_114 (by decide) ?_
  refine Sx.iadd dX1_passDay_115 ?_
  refine Sx.callU2 dX1_passDay_116 lku_X1_107 (rcv_8 hr.1) (by decide) (by decide) (Nat.le_of_ble_eq_true rfl) rfl rfl (c_ss hr e9 145 (F 145 + 1) rfl (by decide) (by rw [sv_n (by decide), nI_1]) (fun I7 e11 e12 => ?_))
  have hJ7 : ∀ q, q ≠ 116 → q ≠ 118 → q ≠ s + 1 → I7 q = I q := fun q h1 h2 h3 => by rw [e12 q h3, e10 q h3, e8 q h3, e6 q h3, e4 q h3, e2 q h3, hJ1 q h1 h2]
  refine Sx.iload_n dX1_passDay_119 rfl ?_
  refine Sx.iconst (v := 1) dX1_passDay_120 (by decide) ?_
  refine Sx.iadd dX1_passDay_121 ?_
  refine Sx.aload_n dX1_passDay_122 rfl ?_
  refine Sx.getfR dX1_passDay_123 lkf_X1_37_1 (o_114 W) (r_114_0 W) ?_
  refine Sx.iconst (v := 0) dX1_passDay_126 (by decide) ?_
  refine Sx.callU1 dX1_passDay_127 lku_X1_49 (rcv_6 (o_103 W)) (by decide) (by decide) (Nat.le_of_ble_eq_true rfl) rfl rfl (c_rg (w_103r W) rC6 (by decide) (by rw [hJ7 _ (by omega) (by omega) (by omega)]; exact hp) 0 rfl (by decide) ?_)
  rw [nI_1]
  refine Sx.icmp_lt (t := 138) dX1_passDay_130 (by decide) (fun c130 => ?_) (fun c130 => ?_)
  · refine Sx.vret dX1_passDay_138 rfl ?_
    refine h I7 ?_ hJ7
    rw [pdN, if_neg (fun q => absurd ((n_le (by omega) (by omega)).mpr q) (Int32.not_le.mpr c130))]
    exact e11
  · refine Sx.aload_n dX1_passDay_133 rfl ?_
    refine Sx.aload_n dX1_passDay_134 rfl ?_
    refine Sx.callV1 dX1_passDay_135 lkv_X1_112 (rcv_1 (o_114 W)) (by decide) (by decide) (Nat.le_of_ble_eq_true rfl) rfl rfl (c_eyear W (by rw [hJ7 _ (by omega) (by omega) (by omega)]; exact hp) hP hr e11 hx (nextN_lt hS3 (F 145 + 1)) (by rw [upn_eq]; omega) (by rw [upn_eq]; omega) (fun I8 e13 e14 => ?_))
    refine Sx.vret dX1_passDay_138 rfl ?_
    refine h I8 ?_ (fun q h1 h2 h3 => (e14 q h3).trans (hJ7 q h1 h2 h3))
    rw [pdN, if_pos ((n_le (by omega) (by omega)).mp (Int32.not_lt.mp c130))]
    exact e13
