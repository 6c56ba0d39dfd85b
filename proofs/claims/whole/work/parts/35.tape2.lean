/-! Tape: numbers -/
def isDN (m : Nat) : Bool := decide (48 ≤ m ∧ m ≤ 57)
theorem isDg_n {m : Nat} (h : m < 2 ^ 31) : isDg (nI m) = isDN m := by
  unfold isDg isDN
  refine decide_eq_decide.mpr ?_
  rw [show (48 : Int32) = nI 48 from rfl, show (57 : Int32) = nI 57 from rfl, n_le (by decide) h, n_le h (by decide)]
def rdc (T : Nat → Nat) (n : Nat) : Nat → Nat → Nat
  | 0, c => c
  | k + 1, c => if isDN (sgn T n c) = true then rdc T n k (c + 1) else c
def rdv (T : Nat → Nat) (n : Nat) : Nat → Nat → Nat → Nat
  | 0, _, v => v
  | k + 1, c, v => if isDN (sgn T n c) = true then rdv T n k (c + 1) (v * 10 + sgn T n c - 48) else v
theorem isDN_b {m : Nat} (h : isDN m = true) : 48 ≤ m ∧ m ≤ 57 := of_decide_eq_true h
theorem sgn_d {T : Nat → Nat} {n c : Nat} (h : isDN (sgn T n c) = true) : c < n := by
  have h1 := isDN_b h
  unfold sgn at h1
  split at h1
  · assumption
  · omega
theorem sgn_b {I : It} {T : Nat → Nat} {n c : Nat} (h : TS I T n c) (i : Nat) : sgn T n i < 256 := by
  unfold sgn
  split
  · next e => exact (h.2.2.2.2.2 i e).2
  · decide
theorem rdc_b (T : Nat → Nat) (n : Nat) : ∀ k c, c ≤ rdc T n k c ∧ rdc T n k c ≤ max n c
  | 0, c => by simp [rdc]; omega
  | k + 1, c => by
    unfold rdc
    split
    · next h => have := rdc_b T n k (c + 1); have := sgn_d h; omega
    · omega
theorem rdv_b (T : Nat → Nat) (n : Nat) : ∀ k c v m, v < 10 ^ m → rdv T n k c v < 10 ^ (m + k)
  | 0, _, v, m => fun h => h
  | k + 1, c, v, m => fun h => by
    unfold rdv
    split
    · next e =>
      have := isDN_b e
      have h2 := rdv_b T n k (c + 1) (v * 10 + sgn T n c - 48) (m + 1) (by rw [Nat.pow_succ]; omega)
      rw [show m + (k + 1) = m + 1 + k by omega]
      exact h2
    · exact Nat.lt_of_lt_of_le h (Nat.pow_le_pow_right (by decide) (by omega))
def rdE (T : Nat → Nat) (n c D : Nat) : Nat := rdc T n D (nx T n c)
def rdV (T : Nat → Nat) (n c D : Nat) : Nat := rdv T n D (nx T n c) 0
/-- is there such a number -/
def rdR (T : Nat → Nat) (n c D lo hi : Nat) : Bool := isDN (sgn T n (nx T n c)) && !isDN (sgn T n (rdE T n c D)) && decide (lo ≤ rdV T n c D ∧ rdV T n c D ≤ hi)
/-- where the cursor stands then -/
def rdP (T : Nat → Nat) (n c D lo hi : Nat) : Nat :=
  if isDN (sgn T n (nx T n c)) = true then (if isDN (sgn T n (rdE T n c D)) = true then rdE T n c D else if lo ≤ rdV T n c D ∧ rdV T n c D ≤ hi then rdE T n c D else rdE T n c D - 1) else nx T n c
theorem TS.num {I : It} {T : Nat → Nat} {n c : Nat} (h : TS I T n c) (v : Int32) : TS (up2 I 101 3 v) T n c :=
  ⟨by rw [up2_nj _ _ _ _ (by decide)]; exact h.1, by rw [up2_nj _ _ _ _ (by decide)]; exact h.2.1, h.2.2.1, h.2.2.2.1, fun j hj => by rw [up2_ne _ _ _ _ (by decide)]; exact h.2.2.2.2.1 j hj, h.2.2.2.2.2⟩
set_option maxRecDepth 20000 in
set_option maxHeartbeats 1000000 in
theorem l_rn {G : Gt} {l : Launch} {Z : Zt} {R : Rt} {L : Lt} {post : Pt'} {T : Nat → Nat} {n D lo hi C0 V0 : Nat} {I0 : It} (W : WF Z R) (hD : D ≤ 8) (h : ∀ I' (z : Int32), TS I' T n C0 → I' 101 3 = nI V0 → (∀ q, q ≠ 101 → I' q = I0 q) → Sx G l mX9_readsNumber 2 0 0 79 [(4, .int z), (0, .ref 101), (1, .int (nI D)), (2, .int (nI lo)), (3, .int (nI hi))] [] Z R I' L post) :
    ∀ (k j : Nat), j ≤ D → D < j + k → ∀ (I : It) (c v : Nat), (TS I T n c) → (I 101 3 = nI v) → (v < 10 ^ j) → (∀ q, q ≠ 101 → I q = I0 q) → (rdc T n (D - j) c = C0) → (rdv T n (D - j) c v = V0) → ∀ (y : Int32), y = nI j → Sx G l mX9_readsNumber 2 0 0 20 [(4, .int y), (0, .ref 101), (1, .int (nI D)), (2, .int (nI lo)), (3, .int (nI hi))] [] Z R I L post := by
  intro k
  induction k with
  | zero => intro j h1 h2; omega
  | succ k ih =>
    intro j h1 h2 I c v hT hv hvb hI hC hV y hy
    subst hy
    refine Sx.iload dX9_readsNumber_20 rfl ?_
    refine Sx.iload_n dX9_readsNumber_22 rfl ?_
    refine Sx.icmp_ge (t := 79) dX9_readsNumber_23 (by decide) (fun c23 => ?_) (fun c23 => ?_)
    · have hj := lp_end rfl (by omega) h1 c23
      subst hj
      rw [Nat.sub_self, rdc] at hC
      rw [Nat.sub_self, rdv] at hV
      exact h I _ (by rw [← hC]; exact hT) (by rw [← hV]; exact hv) hI
    · have hlt := lp_lt rfl (by omega) h1 c23
      have hcn := hT.2.2.2.1
      have hn := hT.2.2.1
      have hsb := sgn_b hT c
      refine Sx.aload_n dX9_readsNumber_26 rfl ?_
      refine Sx.aload_n dX9_readsNumber_27 rfl ?_
      refine Sx.getfI dX9_readsNumber_28 lkf_X9_19_9 (o_101 W) ?_
      rw [hT.2.1]
      refine Sx.callV1 dX9_readsNumber_31 lkv_X9_33 (rcv_9 (o_101 W)) (by decide) (by decide) (Nat.le_of_ble_eq_true rfl) rfl rfl (c_signAt W hT (by omega) ?_)
      refine Sx.callSN1 dX9_readsNumber_34 lkc_X9_29  (by decide) (by decide) (Nat.le_of_ble_eq_true rfl) rfl rfl (c_isDigit ?_)
      rw [isDg_n (by omega)]
      refine Sx.if_eq (t := 79) dX9_readsNumber_37 (by decide) (fun c37 => ?_) (fun c37 => ?_)
      · have hno := b2i_0.mp c37
        rw [show D - j = (D - (j + 1)) + 1 by omega, rdc, if_neg (by rw [hno]; decide)] at hC
        rw [show D - j = (D - (j + 1)) + 1 by omega, rdv, if_neg (by rw [hno]; decide)] at hV
        exact h I _ (by rw [← hC]; exact hT) (by rw [← hV]; exact hv) hI
      · have hyes := b2i_ne.mp c37
        have hdb := isDN_b hyes
        refine Sx.aload_n dX9_readsNumber_40 rfl ?_
        refine Sx.aload_n dX9_readsNumber_41 rfl ?_
        refine Sx.getfI dX9_readsNumber_42 lkf_X9_22_9 (o_101 W) ?_
        refine Sx.bipush (v := 10) dX9_readsNumber_45 (by decide) ?_
        refine Sx.imul dX9_readsNumber_47 ?_
        refine Sx.aload_n dX9_readsNumber_48 rfl ?_
        refine Sx.aload_n dX9_readsNumber_49 rfl ?_
        refine Sx.getfI dX9_readsNumber_50 lkf_X9_19_9 (o_101 W) ?_
        rw [hT.2.1]
        refine Sx.callV1 dX9_readsNumber_53 lkv_X9_33 (rcv_9 (o_101 W)) (by decide) (by decide) (Nat.le_of_ble_eq_true rfl) rfl rfl (c_signAt W hT (by omega) ?_)
        refine Sx.iadd dX9_readsNumber_56 ?_
        refine Sx.bipush (v := 48) dX9_readsNumber_57 (by decide) ?_
        refine Sx.isub dX9_readsNumber_59 ?_
        refine Sx.putfI dX9_readsNumber_60 lkp_X9_22_9 (o_101 W) rfl rfl ?_
        refine Sx.aload_n dX9_readsNumber_63 rfl ?_
        refine Sx.dup dX9_readsNumber_64 rfl ?_
        refine Sx.getfI dX9_readsNumber_65 lkf_X9_19_9 (o_101 W) ?_
        refine Sx.iconst (v := 1) dX9_readsNumber_68 (by decide) ?_
        refine Sx.iadd dX9_readsNumber_69 ?_
        refine Sx.putfI dX9_readsNumber_70 lkp_X9_19_9 (o_101 W) rfl rfl ?_
        refine Sx.iincN (fun zz => [(4, .int zz), (0, .ref 101), (1, .int (nI D)), (2, .int (nI lo)), (3, .int (nI hi))]) dX9_readsNumber_73 rfl (by decide) (fun _ => rfl) (fun x4_73 ex4_73 => ?_)
        refine Sx.goto (t := 20) dX9_readsNumber_76 (by decide) ?_
        refine Sx.sub' [(4, .int x4_73), (0, .ref 101), (1, .int (nI D)), (2, .int (nI lo)), (3, .int (nI hi))] rfl ?_
        refine ih (j + 1) (by omega) (by omega) _ (c + 1) (v * 10 + sgn T n c - 48) (TS.mv (hT.num _) (c + 1) (sgn_d hyes) _ (by rw [up2_nj _ _ _ _ (by decide), hT.2.1, nI_1])) ?_ ?_ ?_ ?_ ?_ _ (by rw [ex4_73]; exact nI_1 j)
        · rw [up2_nj _ _ _ _ (by decide), up2_at, hv, show (10 : Int32) = nI 10 from rfl, show nI v * nI 10 = nI (v * 10) from pk_mul v 10, nI_add, show (48 : Int32) = nI 48 from rfl, n_sub (by omega)]
        · rw [Nat.pow_succ]; omega
        · intro q hq; rw [up2_ne _ _ _ _ hq, up2_ne _ _ _ _ hq]; exact hI q hq
        · rw [show D - j = (D - (j + 1)) + 1 by omega, rdc, if_pos hyes] at hC; exact hC
        · rw [show D - j = (D - (j + 1)) + 1 by omega, rdv, if_pos hyes] at hV; exact hV
theorem rdc_pos {T : Nat → Nat} {n k c : Nat} (hk : 1 ≤ k) (h : isDN (sgn T n c) = true) : 1 ≤ rdc T n k c := by
  cases k with
  | zero => omega
  | succ k =>
    rw [rdc, if_pos h]
    have := rdc_b T n k (c + 1)
    omega
set_option maxRecDepth 20000 in
set_option maxHeartbeats 1000000 in
theorem c_rnum {G : Gt} {l : Launch} {Z : Zt} {R : Rt} {I : It} {L : Lt} {post : Pt'} {T : Nat → Nat} {n c D lo hi : Nat} (W : WF Z R) (hT : TS I T n c) (hD1 : 1 ≤ D) (hD : D ≤ 8) (hlo : lo < 2 ^ 31) (hhi : hi < 2 ^ 31) (h : ∀ I', TS I' T n (rdP T n c D lo hi) → (rdR T n c D lo hi = true → I' 101 3 = nI (rdV T n c D)) → (∀ q, q ≠ 101 → I' q = I q) → post (some (.int (b2i (rdR T n c D lo hi)))) Z R I' L) : Cx G l mX9_readsNumber 2 0 0 [.ref 101, .int (nI D), .int (nI lo), .int (nI hi)] Z R I L post := by
  refine Cx.of (by decide +kernel) (by exact Nat.le_of_ble_eq_true rfl) ?_
  refine Sx.aload_n dX9_readsNumber_0 rfl ?_
  refine Sx.callV0 dX9_readsNumber_1 lkv_X9_25 (rcv_9 (o_101 W)) (by decide) (by decide) (Nat.le_of_ble_eq_true rfl) rfl rfl (c_next W hT (fun I1 hT1 hn1 hJ1 => ?_))
  refine Sx.callSN1 dX9_readsNumber_4 lkc_X9_29  (by decide) (by decide) (Nat.le_of_ble_eq_true rfl) rfl rfl (c_isDigit ?_)
  have hsb := sgn_b hT1 (nx T n c)
  rw [isDg_n (by omega)]
  refine Sx.if_ne (t := 12) dX9_readsNumber_7 (by decide) (fun c7 => ?_) (fun c7 => ?_)
  · have hyes := b2i_ne.mp c7
    refine Sx.aload_n dX9_readsNumber_12 rfl ?_
    refine Sx.iconst (v := 0) dX9_readsNumber_13 (by decide) ?_
    refine Sx.putfI dX9_readsNumber_14 lkp_X9_22_9 (o_101 W) rfl rfl ?_
    refine Sx.iconst (v := 0) dX9_readsNumber_17 (by decide) ?_
    refine Sx.ist (fun zz => [(4, .int zz), (0, .ref 101), (1, .int (nI D)), (2, .int (nI lo)), (3, .int (nI hi))]) dX9_readsNumber_18 (by decide) (fun _ => rfl) (fun x4_18 ex4_18 => ?_)
    refine l_rn (I0 := I) (C0 := rdE T n c D) (V0 := rdV T n c D) W hD (fun I2 z hT2 hv2 hJ2 => ?_) (D + 1) 0 (by omega) (by omega) _ (nx T n c) 0 (hT1.num _) (up2_at _ _ _ _) (by decide) (fun q hq => (up2_ne _ _ _ _ hq).trans (hJ1 q hq)) rfl rfl _ ex4_18
    have hE1 : 1 ≤ rdE T n c D := rdc_pos hD1 hyes
    have hcb := hT2.2.2.2.1
    have hnb := hT2.2.2.1
    have hsb := sgn_b hT2 (rdE T n c D)
    have hvb := rdv_b T n D (nx T n c) 0 0 (by decide)
    have hp8 : 10 ^ (0 + D) ≤ 10 ^ 8 := Nat.pow_le_pow_right (by decide) (by omega)
    change rdV T n c D < _ at hvb
    refine Sx.aload_n dX9_readsNumber_79 rfl ?_
    refine Sx.aload_n dX9_readsNumber_80 rfl ?_
    refine Sx.getfI dX9_readsNumber_81 lkf_X9_19_9 (o_101 W) ?_
    rw [hT2.2.1]
    refine Sx.callV1 dX9_readsNumber_84 lkv_X9_33 (rcv_9 (o_101 W)) (by decide) (by decide) (Nat.le_of_ble_eq_true rfl) rfl rfl (c_signAt W hT2 (by omega) ?_)
    refine Sx.callSN1 dX9_readsNumber_87 lkc_X9_29  (by decide) (by decide) (Nat.le_of_ble_eq_true rfl) rfl rfl (c_isDigit ?_)
    rw [isDg_n (by omega)]
    refine Sx.if_eq (t := 95) dX9_readsNumber_90 (by decide) (fun c90 => ?_) (fun c90 => ?_)
    · have hd2 := b2i_0.mp c90
      refine Sx.aload_n dX9_readsNumber_95 rfl ?_
      refine Sx.getfI dX9_readsNumber_96 lkf_X9_22_9 (o_101 W) ?_
      refine Sx.iload_n dX9_readsNumber_99 rfl ?_
      refine Sx.icmp_lt (t := 111) dX9_readsNumber_100 (by decide) (fun c100 => ?_) (fun c100 => ?_)
      · refine Sx.aload_n dX9_readsNumber_111 rfl ?_
        refine Sx.dup dX9_readsNumber_112 rfl ?_
        refine Sx.getfI dX9_readsNumber_113 lkf_X9_19_9 (o_101 W) ?_
        refine Sx.iconst (v := 1) dX9_readsNumber_116 (by decide) ?_
        refine Sx.isub dX9_readsNumber_117 ?_
        refine Sx.putfI dX9_readsNumber_118 lkp_X9_19_9 (o_101 W) rfl rfl ?_
        refine Sx.iconst (v := 0) dX9_readsNumber_121 (by decide) ?_
        refine Sx.iret dX9_readsNumber_122 rfl rfl ?_
        have hlo2 : rdV T n c D < lo := by rw [hv2] at c100; exact (n_lt (by omega) (by omega)).mp c100
        have e : rdR T n c D lo hi = false := by rw [rdR, hyes, hd2, decide_eq_false (by omega)]; rfl
        have hpos : 1 ≤ rdE T n c D := hE1
        have := h (up2 I2 101 2 (I2 101 2 - 1)) (by rw [rdP, if_pos hyes, if_neg (by rw [hd2]; decide), if_neg (by omega)]; exact hT2.mv (rdE T n c D - 1) (by omega) _ (by rw [hT2.2.1]; exact n_sub (b := 1) hpos)) (fun q => by rw [e] at q; cases q) (fun q hq => (up2_ne _ _ _ _ hq).trans (hJ2 q hq))
        rw [e] at this
        exact this
      · refine Sx.aload_n dX9_readsNumber_103 rfl ?_
        refine Sx.getfI dX9_readsNumber_104 lkf_X9_22_9 (o_101 W) ?_
        refine Sx.iload_n dX9_readsNumber_107 rfl ?_
        refine Sx.icmp_le (t := 123) dX9_readsNumber_108 (by decide) (fun c108 => ?_) (fun c108 => ?_)
        · refine Sx.iconst (v := 1) dX9_readsNumber_123 (by decide) ?_
          refine Sx.iret dX9_readsNumber_124 rfl rfl ?_
          have hlo2 : lo ≤ rdV T n c D := by rw [hv2] at c100; exact Nat.not_lt.mp (fun q => c100 ((n_lt (by omega) (by omega)).mpr q))
          have hhi2 : rdV T n c D ≤ hi := by rw [hv2] at c108; exact (n_le (by omega) (by omega)).mp c108
          have e : rdR T n c D lo hi = true := by rw [rdR, hyes, hd2, decide_eq_true ⟨hlo2, hhi2⟩]; rfl
          have := h I2 (by rw [rdP, if_pos hyes, if_neg (by rw [hd2]; decide), if_pos ⟨hlo2, hhi2⟩]; exact hT2) (fun _ => hv2) hJ2
          rw [e] at this
          exact this
        · refine Sx.aload_n dX9_readsNumber_111 rfl ?_
          refine Sx.dup dX9_readsNumber_112 rfl ?_
          refine Sx.getfI dX9_readsNumber_113 lkf_X9_19_9 (o_101 W) ?_
          refine Sx.iconst (v := 1) dX9_readsNumber_116 (by decide) ?_
          refine Sx.isub dX9_readsNumber_117 ?_
          refine Sx.putfI dX9_readsNumber_118 lkp_X9_19_9 (o_101 W) rfl rfl ?_
          refine Sx.iconst (v := 0) dX9_readsNumber_121 (by decide) ?_
          refine Sx.iret dX9_readsNumber_122 rfl rfl ?_
          have hhi2 : ¬ rdV T n c D ≤ hi := by rw [hv2] at c108; exact fun q => c108 ((n_le (by omega) (by omega)).mpr q)
          have e : rdR T n c D lo hi = false := by rw [rdR, hyes, hd2, decide_eq_false (by omega)]; rfl
          have hpos : 1 ≤ rdE T n c D := hE1
          have := h (up2 I2 101 2 (I2 101 2 - 1)) (by rw [rdP, if_pos hyes, if_neg (by rw [hd2]; decide), if_neg (by omega)]; exact hT2.mv (rdE T n c D - 1) (by omega) _ (by rw [hT2.2.1]; exact n_sub (b := 1) hpos)) (fun q => by rw [e] at q; cases q) (fun q hq => (up2_ne _ _ _ _ hq).trans (hJ2 q hq))
          rw [e] at this
          exact this
    · have hd2 := b2i_ne.mp c90
      refine Sx.iconst (v := 0) dX9_readsNumber_93 (by decide) ?_
      refine Sx.iret dX9_readsNumber_94 rfl rfl ?_
      have e : rdR T n c D lo hi = false := by rw [rdR, hyes, hd2]; rfl
      have := h I2 (by rw [rdP, if_pos hyes, if_pos hd2]; exact hT2) (fun q => by rw [e] at q; cases q) hJ2
      rw [e] at this
      exact this
  · have hno := b2i_0.mp c7
    refine Sx.iconst (v := 0) dX9_readsNumber_10 (by decide) ?_
    refine Sx.iret dX9_readsNumber_11 rfl rfl ?_
    have e : rdR T n c D lo hi = false := by rw [rdR, hno]; rfl
    have := h I1 (by rw [rdP, if_neg (by rw [hno]; decide)]; exact hT1) (fun q => by rw [e] at q; cases q) hJ1
    rw [e] at this
    exact this
