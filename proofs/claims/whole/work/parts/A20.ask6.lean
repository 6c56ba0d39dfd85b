/-! the class: ask -/
def bfN (V : Vt) (p q : Nat) : Bool := decide (q < V 2 34) && fitB V p q
def smX (V : Vt) (p a n : Nat) : Nat → Nat
  | 0 => 0
  | b + 1 => smX V p a n b + (if bfN V p a = true ∧ bfN V p b = true ∧ crC V p a n = crC V p b n then 1 else 0)
def moX (V : Vt) (p n : Nat) : Nat → Nat
  | 0 => 0
  | a + 1 => max (moX V p n a) (smX V p a n 6)
theorem bf_lt {V : Vt} {p q : Nat} (h : bfN V p q = true) : q < V 2 34 ∧ fitB V p q = true := by
  unfold bfN at h
  rw [Bool.and_eq_true, decide_eq_true_eq] at h
  exact h
theorem bf_k {V : Vt} {p q : Nat} (h : q < V 2 34) : bfN V p q = fitB V p q := by unfold bfN; rw [decide_eq_true h, Bool.true_and]
theorem smX_z {V : Vt} {p a n : Nat} (h : ¬ bfN V p a = true) : ∀ j, smX V p a n j = 0
  | 0 => rfl
  | j + 1 => by rw [smX, smX_z h j, if_neg (fun z => h z.1)]
theorem smX_le (V : Vt) (p a n : Nat) : ∀ j, smX V p a n j ≤ j
  | 0 => Nat.le_refl _
  | j + 1 => by have := smX_le V p a n j; rw [smX]; split <;> omega
theorem smX_k {V : Vt} {p a n : Nat} (ha : a < V 2 34) : ∀ j, j ≤ V 2 34 → smX V p a n j = smN2 V p a n j
  | 0 => fun _ => rfl
  | j + 1 => fun hj => by rw [smX, smN2, smX_k ha j (by omega), bf_k ha, bf_k (show j < V 2 34 by omega)]
theorem smX_t {V : Vt} {p a n : Nat} : ∀ d, smX V p a n (V 2 34 + d) = smX V p a n (V 2 34)
  | 0 => rfl
  | d + 1 => by
    rw [show V 2 34 + (d + 1) = V 2 34 + d + 1 by omega, smX, smX_t d, if_neg]
    · rfl
    · intro z; have := (bf_lt z.2.1).1; omega
theorem smX_6 {V : Vt} {p a n : Nat} (hK : V 2 34 ≤ 6) (ha : a < V 2 34) : smX V p a n 6 = smN2 V p a n (V 2 34) := by
  rw [show 6 = V 2 34 + (6 - V 2 34) by omega, smX_t, smX_k ha _ (Nat.le_refl _)]
theorem moX_k {V : Vt} {p n : Nat} (hK : V 2 34 ≤ 6) : ∀ j, j ≤ V 2 34 → moX V p n j = moN V p n j
  | 0 => fun _ => rfl
  | j + 1 => fun hj => by rw [moX, moN, moX_k hK j (by omega), smX_6 hK (by omega)]
theorem moX_t {V : Vt} {p n : Nat} : ∀ d, moX V p n (V 2 34 + d) = moX V p n (V 2 34)
  | 0 => rfl
  | d + 1 => by
    rw [show V 2 34 + (d + 1) = V 2 34 + d + 1 by omega, moX, moX_t d, smX_z (fun z => by have := (bf_lt z).1; omega)]
    omega
theorem moX_6 {V : Vt} {p n : Nat} (hK : V 2 34 ≤ 6) : moX V p n 6 = moN V p n (V 2 34) := by
  rw [show 6 = V 2 34 + (6 - V 2 34) by omega, moX_t, moX_k hK _ (Nat.le_refl _)]
theorem sm_0 {V : Vt} {p a n : Nat} (h : ¬ fitB V p a = true) : ∀ j, smN2 V p a n j = 0
  | 0 => rfl
  | j + 1 => by rw [smN2, sm_0 h j, if_neg (fun z => h z.1)]
theorem cnt_0 {f : Nat → Bool} : ∀ j, cntB f j = 0 → ∀ i, i < j → ¬ f i = true
  | 0, _, i => fun h => absurd h (Nat.not_lt_zero i)
  | j + 1, h, i => fun hi => by
    rw [cntB] at h
    by_cases c : i = j
    · subst c
      intro z
      rw [if_pos z] at h
      omega
    · exact cnt_0 j (by omega) i (by omega)
theorem cnt_p {f : Nat → Bool} : ∀ j, cntB f j ≠ 0 → ∃ i, i < j ∧ f i = true
  | 0, h => absurd rfl h
  | j + 1, h => by
    by_cases c : f j = true
    · exact ⟨j, by omega, c⟩
    · rw [cntB, if_neg c] at h
      obtain ⟨i, h1, h2⟩ := cnt_p j h
      exact ⟨i, by omega, h2⟩
theorem mo_0 {V : Vt} {p n : Nat} (h : cntB (fitB V p) (V 2 34) = 0) : ∀ j, j ≤ V 2 34 → moN V p n j = 0
  | 0 => fun _ => rfl
  | j + 1 => fun hj => by rw [moN, mo_0 h j (by omega), sm_0 (cnt_0 _ h j (by omega))]; rfl
theorem sm_p {V : Vt} {p a n : Nat} (h : fitB V p a = true) : ∀ j, a < j → 0 < smN2 V p a n j
  | 0 => fun h => absurd h (Nat.not_lt_zero _)
  | j + 1 => fun hj => by
    rw [smN2]
    by_cases c : a = j
    · subst c; rw [if_pos ⟨h, h, rfl⟩]; omega
    · have := sm_p (n := n) h j (by omega); omega
theorem mo_p {V : Vt} {p n a : Nat} (h : fitB V p a = true) (ha : a < V 2 34) : ∀ j, a < j → 0 < moN V p n j
  | 0 => fun h => absurd h (Nat.not_lt_zero _)
  | j + 1 => fun hj => by
    rw [moN]
    by_cases c : a = j
    · subst c; have := sm_p (n := n) h (V 2 34) ha; omega
    · have := mo_p (n := n) h ha j (by omega); omega

set_option maxRecDepth 20000 in
set_option maxHeartbeats 1000000 in
theorem d_trX {G : Gt} {l : Launch} {Z : Zt} {R : Rt} {I : It} {L : Lt} {post : Pt'} {k n : Nat} (W : WF Z R) (hk : k < 6) (hn : n ≤ 60) (h : post (some (.int (I 146 (k * 61 + n)))) Z R I L) : Cx G l mX10_treasuryOf 2 0 0 [.ref 136, .int (nI k), .int (nI n)] Z R I L post := by
  refine Cx.of (by decide +kernel) (by exact Nat.le_of_ble_eq_true rfl) ?_
  refine Sx.aload_n dX10_treasuryOf_0 rfl ?_
  refine Sx.getfR dX10_treasuryOf_1 lkf_X10_33_10 (o_136 W) (r_136_6 W) ?_
  refine Sx.iload_n dX10_treasuryOf_4 rfl ?_
  refine Sx.bipush (v := (nI 61)) dX10_treasuryOf_5 (by decide) ?_
  refine Sx.imulN dX10_treasuryOf_7 ?_
  refine Sx.iload_n dX10_treasuryOf_8 rfl ?_
  refine Sx.iaddN dX10_treasuryOf_9 ?_
  refine Sx.callV1 dX10_treasuryOf_10 lkv_X10_52 (rcv_7 (o_145 W)) (by decide) (by decide) (Nat.le_of_ble_eq_true rfl) rfl rfl (d_rget (w_145r W) (by unfold rowC; decide) (by decide) (k := k * 61 + n) (v := I 146 (k * 61 + n)) (by omega) rfl ?_)
  refine Sx.iret dX10_treasuryOf_13 rfl rfl ?_
  exact h
set_option maxRecDepth 20000 in
set_option maxHeartbeats 1000000 in
theorem l_cma1 {G : Gt} {l : Launch} {Z : Zt} {R : Rt} {I : It} {L : Lt} {post : Pt'} {V : Vt} {p a n b mo : Nat} (W : WF Z R) (hH : HV V) (hK : PK (V 2)) (hp : p < V 2 35) (hb64 : b < 64) (hbb : ∀ q, hbN b q = bfN V p q) (hn1 : 1 ≤ n) (hn : n ≤ 60) (hT : ∀ k z, k < V 2 34 → 1 ≤ z → z ≤ 60 → I 146 (k * 61 + z) = nI (crC V p k z)) (ha : a < 6) (h : Sx G l mX10_mostAlike 3 0 0 88 [(5, .int (nI (smX V p a n 6))), (4, .int (nI a)), (3, .int (nI mo)), (2, .int (nI n)), (1, .int (nI b)), (0, .ref 136)] [] Z R I L post) :
    ∀ (r o : Nat), o ≤ 6 → 6 < o + r → ∀ al, al = smX V p a n o → Sx G l mX10_mostAlike 3 0 0 18 [(6, .int (nI o)), (5, .int (nI al)), (4, .int (nI a)), (3, .int (nI mo)), (2, .int (nI n)), (1, .int (nI b)), (0, .ref 136)] [] Z R I L post := by
  obtain ⟨p1, p2, p3, p4, p5, p6, p7, p8, p9⟩ := id hH.2.2.2.1
  intro r
  induction r with
  | zero => intro o h1 h2; omega
  | succ r ih =>
    intro o h1 h2 al hal
    refine Sx.iload_n dX10_mostAlike_18 rfl ?_
    refine Sx.iload dX10_mostAlike_19 rfl ?_
    refine Sx.callSN2 dX10_mostAlike_21 lkc_X10_68  (by decide) (by decide) (Nat.le_of_ble_eq_true rfl) rfl rfl (c_hasBit (by omega) (by omega) ?_)
    refine Sx.if_eqB (t := 88) dX10_mostAlike_24 (by decide) (fun c24 => ?_) (fun c24 => ?_)
    · have e : al = smX V p a n 6 := by
        first
        | (have ho6 : o = 6 := by omega
           rw [hal, ho6])
        | (rw [hal, smX_z (fun z => by rw [← hbb] at z; rw [z] at c24; exact absurd c24 (by decide)), smX_z (fun z => by rw [← hbb] at z; rw [z] at c24; exact absurd c24 (by decide))])
      subst e
      refine Sx.sub' [(5, .int (nI (smX V p a n 6))), (4, .int (nI a)), (3, .int (nI mo)), (2, .int (nI n)), (1, .int (nI b)), (0, .ref 136)] rfl ?_
      exact h
    · refine Sx.iload dX10_mostAlike_27 rfl ?_
      refine Sx.bipush (v := (nI 6)) dX10_mostAlike_29 (by decide) ?_
      refine Sx.icmp_geV (t := 88) dX10_mostAlike_31 (by decide) (vN (by omega)) (vN (by decide)) (fun c31 => ?_) (fun c31 => ?_)
      · have e : al = smX V p a n 6 := by
          first
          | (have ho6 : o = 6 := by omega
             rw [hal, ho6])
          | (rw [hal, smX_z (fun z => by rw [← hbb] at z; rw [z] at c24; exact absurd c24 (by decide)), smX_z (fun z => by rw [← hbb] at z; rw [z] at c24; exact absurd c24 (by decide))])
        subst e
        refine Sx.sub' [(5, .int (nI (smX V p a n 6))), (4, .int (nI a)), (3, .int (nI mo)), (2, .int (nI n)), (1, .int (nI b)), (0, .ref 136)] rfl ?_
        exact h
      · have ba : bfN V p a = true := by rw [← hbb]; assumption
        have hTa : (I 146 (a * 61 + n)).toInt = (crC V p a n : Int) := by
          have hq := bf_lt ba
          rw [hT a n hq.1 hn1 hn, nI_toInt (by have := crC_le hH hK (p := p) (k := a) (n := n) (by omega) hq.1 hn; omega)]
        have hTo : bfN V p o = true → (I 146 (o * 61 + n)).toInt = (crC V p o n : Int) := fun z => by
          have hq := bf_lt z
          rw [hT o n hq.1 hn1 hn, nI_toInt (by have := crC_le hH hK (p := p) (k := o) (n := n) (by omega) hq.1 hn; omega)]
        have xa := x_rg (I 146 (a * 61 + n))
        have xo := x_rg (I 146 (o * 61 + n))
        have hal6 := smX_le V p a n o
        refine Sx.aload_n dX10_mostAlike_34 rfl ?_
        refine Sx.iload dX10_mostAlike_35 rfl ?_
        refine Sx.iload_n dX10_mostAlike_37 rfl ?_
        refine Sx.callV2 dX10_mostAlike_38 lkv_X10_72 (rcv_10 (o_136 W)) (by decide) (by decide) (Nat.le_of_ble_eq_true rfl) rfl rfl (d_trX W (by omega) (by omega) ?_)
        refine Sx.aload_n dX10_mostAlike_41 rfl ?_
        refine Sx.iload dX10_mostAlike_42 rfl ?_
        refine Sx.iload_n dX10_mostAlike_44 rfl ?_
        refine Sx.callV2 dX10_mostAlike_45 lkv_X10_72 (rcv_10 (o_136 W)) (by decide) (by decide) (Nat.le_of_ble_eq_true rfl) rfl rfl (d_trX W (by omega) (by omega) ?_)
        refine Sx.icmp_neV (t := 55) dX10_mostAlike_48 (by decide) (vX (I 146 (a * 61 + n))) (vX (I 146 (o * 61 + n))) (fun c48 => ?_) (fun c48 => ?_)
        · refine Sx.iconst (v := (nI 0)) dX10_mostAlike_55 (by decide) ?_
          refine Sx.istore (lv' := [(7, .int (nI 0)), (6, .int (nI o)), (5, .int (nI al)), (4, .int (nI a)), (3, .int (nI mo)), (2, .int (nI n)), (1, .int (nI b)), (0, .ref 136)]) dX10_mostAlike_56 (by decide) rfl ?_
          refine Sx.iload dX10_mostAlike_58 rfl ?_
          refine Sx.iload_n dX10_mostAlike_60 rfl ?_
          refine Sx.iload dX10_mostAlike_61 rfl ?_
          refine Sx.callSN2 dX10_mostAlike_63 lkc_X10_68  (by decide) (by decide) (Nat.le_of_ble_eq_true rfl) rfl rfl (c_hasBit (by omega) (by omega) ?_)
          refine Sx.if_eqB (t := 78) dX10_mostAlike_66 (by decide) (fun c66 => ?_) (fun c66 => ?_)
          · refine Sx.iconst (v := (nI 0)) dX10_mostAlike_78 (by decide) ?_
            refine Sx.iaddN dX10_mostAlike_79 ?_
            refine Sx.istore (lv' := [(5, .int (nI (al + 0))), (7, .int (nI 0)), (6, .int (nI o)), (4, .int (nI a)), (3, .int (nI mo)), (2, .int (nI n)), (1, .int (nI b)), (0, .ref 136)]) dX10_mostAlike_80 (by decide) rfl ?_
            refine Sx.iinc (v := (nI (o + 1))) (lv' := [(6, .int (nI (o + 1))), (5, .int (nI (al + 0))), (7, .int (nI 0)), (4, .int (nI a)), (3, .int (nI mo)), (2, .int (nI n)), (1, .int (nI b)), (0, .ref 136)]) dX10_mostAlike_82 rfl (nI_add o 1) (by decide) rfl ?_
            refine Sx.goto (t := 18) dX10_mostAlike_85 (by decide) ?_
            refine Sx.sub' [(6, .int (nI (o + 1))), (5, .int (nI (al + 0))), (4, .int (nI a)), (3, .int (nI mo)), (2, .int (nI n)), (1, .int (nI b)), (0, .ref 136)] rfl ?_
            exact ih (o + 1) (by omega) (by omega) (al + 0) (by
              have e : (if bfN V p a = true ∧ bfN V p o = true ∧ crC V p a n = crC V p o n then 1 else 0) = 0 := by
                exact if_neg (fun z => by
                  have ho := hTo z.2.1
                  have hz := z.2.1
                  have he := z.2.2
                  rw [← hbb] at hz
                  first | omega | (rw [hz] at c66; exact absurd c66 (by decide)))
              rw [smX, ← hal, e])
          · refine Sx.iload dX10_mostAlike_69 rfl ?_
            refine Sx.if_eqV (t := 78) dX10_mostAlike_71 (by decide) (vN (by decide)) (fun c71 => ?_) (fun c71 => False.elim (by omega))
            refine Sx.iconst (v := (nI 0)) dX10_mostAlike_78 (by decide) ?_
            refine Sx.iaddN dX10_mostAlike_79 ?_
            refine Sx.istore (lv' := [(5, .int (nI (al + 0))), (7, .int (nI 0)), (6, .int (nI o)), (4, .int (nI a)), (3, .int (nI mo)), (2, .int (nI n)), (1, .int (nI b)), (0, .ref 136)]) dX10_mostAlike_80 (by decide) rfl ?_
            refine Sx.iinc (v := (nI (o + 1))) (lv' := [(6, .int (nI (o + 1))), (5, .int (nI (al + 0))), (7, .int (nI 0)), (4, .int (nI a)), (3, .int (nI mo)), (2, .int (nI n)), (1, .int (nI b)), (0, .ref 136)]) dX10_mostAlike_82 rfl (nI_add o 1) (by decide) rfl ?_
            refine Sx.goto (t := 18) dX10_mostAlike_85 (by decide) ?_
            refine Sx.sub' [(6, .int (nI (o + 1))), (5, .int (nI (al + 0))), (4, .int (nI a)), (3, .int (nI mo)), (2, .int (nI n)), (1, .int (nI b)), (0, .ref 136)] rfl ?_
            exact ih (o + 1) (by omega) (by omega) (al + 0) (by
              have e : (if bfN V p a = true ∧ bfN V p o = true ∧ crC V p a n = crC V p o n then 1 else 0) = 0 := by
                exact if_neg (fun z => by
                  have ho := hTo z.2.1
                  have hz := z.2.1
                  have he := z.2.2
                  rw [← hbb] at hz
                  first | omega | (rw [hz] at c66; exact absurd c66 (by decide)))
              rw [smX, ← hal, e])
        · refine Sx.iconst (v := (nI 1)) dX10_mostAlike_51 (by decide) ?_
          refine Sx.goto (t := 56) dX10_mostAlike_52 (by decide) ?_
          refine Sx.istore (lv' := [(7, .int (nI 1)), (6, .int (nI o)), (5, .int (nI al)), (4, .int (nI a)), (3, .int (nI mo)), (2, .int (nI n)), (1, .int (nI b)), (0, .ref 136)]) dX10_mostAlike_56 (by decide) rfl ?_
          refine Sx.iload dX10_mostAlike_58 rfl ?_
          refine Sx.iload_n dX10_mostAlike_60 rfl ?_
          refine Sx.iload dX10_mostAlike_61 rfl ?_
          refine Sx.callSN2 dX10_mostAlike_63 lkc_X10_68  (by decide) (by decide) (Nat.le_of_ble_eq_true rfl) rfl rfl (c_hasBit (by omega) (by omega) ?_)
          refine Sx.if_eqB (t := 78) dX10_mostAlike_66 (by decide) (fun c66 => ?_) (fun c66 => ?_)
          · refine Sx.iconst (v := (nI 0)) dX10_mostAlike_78 (by decide) ?_
            refine Sx.iaddN dX10_mostAlike_79 ?_
            refine Sx.istore (lv' := [(5, .int (nI (al + 0))), (7, .int (nI 1)), (6, .int (nI o)), (4, .int (nI a)), (3, .int (nI mo)), (2, .int (nI n)), (1, .int (nI b)), (0, .ref 136)]) dX10_mostAlike_80 (by decide) rfl ?_
            refine Sx.iinc (v := (nI (o + 1))) (lv' := [(6, .int (nI (o + 1))), (5, .int (nI (al + 0))), (7, .int (nI 1)), (4, .int (nI a)), (3, .int (nI mo)), (2, .int (nI n)), (1, .int (nI b)), (0, .ref 136)]) dX10_mostAlike_82 rfl (nI_add o 1) (by decide) rfl ?_
            refine Sx.goto (t := 18) dX10_mostAlike_85 (by decide) ?_
            refine Sx.sub' [(6, .int (nI (o + 1))), (5, .int (nI (al + 0))), (4, .int (nI a)), (3, .int (nI mo)), (2, .int (nI n)), (1, .int (nI b)), (0, .ref 136)] rfl ?_
            exact ih (o + 1) (by omega) (by omega) (al + 0) (by
              have e : (if bfN V p a = true ∧ bfN V p o = true ∧ crC V p a n = crC V p o n then 1 else 0) = 0 := by
                exact if_neg (fun z => by
                  have ho := hTo z.2.1
                  have hz := z.2.1
                  have he := z.2.2
                  rw [← hbb] at hz
                  first | omega | (rw [hz] at c66; exact absurd c66 (by decide)))
              rw [smX, ← hal, e])
          · refine Sx.iload dX10_mostAlike_69 rfl ?_
            refine Sx.if_eqV (t := 78) dX10_mostAlike_71 (by decide) (vN (by decide)) (fun c71 => False.elim (by omega)) (fun c71 => ?_)
            refine Sx.iconst (v := (nI 1)) dX10_mostAlike_74 (by decide) ?_
            refine Sx.goto (t := 79) dX10_mostAlike_75 (by decide) ?_
            refine Sx.iaddN dX10_mostAlike_79 ?_
            refine Sx.istore (lv' := [(5, .int (nI (al + 1))), (7, .int (nI 1)), (6, .int (nI o)), (4, .int (nI a)), (3, .int (nI mo)), (2, .int (nI n)), (1, .int (nI b)), (0, .ref 136)]) dX10_mostAlike_80 (by decide) rfl ?_
            refine Sx.iinc (v := (nI (o + 1))) (lv' := [(6, .int (nI (o + 1))), (5, .int (nI (al + 1))), (7, .int (nI 1)), (4, .int (nI a)), (3, .int (nI mo)), (2, .int (nI n)), (1, .int (nI b)), (0, .ref 136)]) dX10_mostAlike_82 rfl (nI_add o 1) (by decide) rfl ?_
            refine Sx.goto (t := 18) dX10_mostAlike_85 (by decide) ?_
            refine Sx.sub' [(6, .int (nI (o + 1))), (5, .int (nI (al + 1))), (4, .int (nI a)), (3, .int (nI mo)), (2, .int (nI n)), (1, .int (nI b)), (0, .ref 136)] rfl ?_
            exact ih (o + 1) (by omega) (by omega) (al + 1) (by
              have e : (if bfN V p a = true ∧ bfN V p o = true ∧ crC V p a n = crC V p o n then 1 else 0) = 1 := by
                have bo : bfN V p o = true := by rw [← hbb]; assumption
                have ho := hTo bo
                exact if_pos ⟨ba, bo, by omega⟩
              rw [smX, ← hal, e])
theorem moX_le (V : Vt) (p n : Nat) : ∀ j, moX V p n j ≤ 6
  | 0 => Nat.zero_le _
  | j + 1 => by have := moX_le V p n j; have := smX_le V p j n 6; rw [moX]; omega
set_option maxRecDepth 20000 in
set_option maxHeartbeats 1000000 in
theorem l_cma2 {G : Gt} {l : Launch} {Z : Zt} {R : Rt} {I : It} {L : Lt} {post : Pt'} {V : Vt} {p n b : Nat} (W : WF Z R) (hH : HV V) (hK : PK (V 2)) (hp : p < V 2 35) (hb64 : b < 64) (hbb : ∀ q, hbN b q = bfN V p q) (hn1 : 1 ≤ n) (hn : n ≤ 60) (hT : ∀ k z, k < V 2 34 → 1 ≤ z → z ≤ 60 → I 146 (k * 61 + z) = nI (crC V p k z)) (h : post (some (.int (nI (moN V p n (V 2 34))))) Z R I L) :
    ∀ (r a : Nat), a ≤ 6 → 6 < a + r → ∀ mo, mo = moX V p n a → Sx G l mX10_mostAlike 3 0 0 5 [(4, .int (nI a)), (3, .int (nI mo)), (2, .int (nI n)), (1, .int (nI b)), (0, .ref 136)] [] Z R I L post := by
  intro r
  induction r with
  | zero => intro a h1 h2; omega
  | succ r ih =>
    intro a h1 h2 mo hmo
    have hmx : mo ≤ 6 := by rw [hmo]; exact moX_le V p n a
    refine Sx.iload dX10_mostAlike_5 rfl ?_
    refine Sx.bipush (v := (nI 6)) dX10_mostAlike_7 (by decide) ?_
    refine Sx.icmp_geV (t := 101) dX10_mostAlike_9 (by decide) (vN (by omega)) (vN (by decide)) (fun c9 => ?_) (fun c9 => ?_)
    · refine Sx.iload_n dX10_mostAlike_101 rfl ?_
      refine Sx.iret dX10_mostAlike_102 rfl rfl ?_
      have ha6 : a = 6 := by omega
      subst ha6
      exact pXX (by rw [hmo, moX_6 hH.2.2.2.1.2.2.2.2.2.1]) h
    · refine Sx.iconst (v := (nI 0)) dX10_mostAlike_12 (by decide) ?_
      refine Sx.istore (lv' := [(5, .int (nI 0)), (4, .int (nI a)), (3, .int (nI mo)), (2, .int (nI n)), (1, .int (nI b)), (0, .ref 136)]) dX10_mostAlike_13 (by decide) rfl ?_
      refine Sx.iconst (v := (nI 0)) dX10_mostAlike_15 (by decide) ?_
      refine Sx.istore (lv' := [(6, .int (nI 0)), (5, .int (nI 0)), (4, .int (nI a)), (3, .int (nI mo)), (2, .int (nI n)), (1, .int (nI b)), (0, .ref 136)]) dX10_mostAlike_16 (by decide) rfl ?_
      refine Sx.sub' [(6, .int (nI 0)), (5, .int (nI 0)), (4, .int (nI a)), (3, .int (nI mo)), (2, .int (nI n)), (1, .int (nI b)), (0, .ref 136)] rfl ?_
      refine l_cma1 W hH hK hp hb64 hbb hn1 hn hT (by omega) ?_ 7 0 (by omega) (by omega) 0 rfl
      have hs6 := smX_le V p a n 6
      have hs6 := smX_le V p a n 6
      refine Sx.iload_n dX10_mostAlike_88 rfl ?_
      refine Sx.iload dX10_mostAlike_89 rfl ?_
      refine Sx.mmax dX10_mostAlike_91 lkm_X10_56 (by decide) (Nat.le_of_ble_eq_true rfl) ?_
      refine Sx.top (n_max (by omega) (by omega)) ?_
      refine Sx.istore_n (lv' := [(3, .int (nI (max mo (smX V p a n 6)))), (5, .int (nI (smX V p a n 6))), (4, .int (nI a)), (2, .int (nI n)), (1, .int (nI b)), (0, .ref 136)]) dX10_mostAlike_94 (by decide) rfl ?_
      refine Sx.iinc (v := (nI (a + 1))) (lv' := [(4, .int (nI (a + 1))), (3, .int (nI (max mo (smX V p a n 6)))), (5, .int (nI (smX V p a n 6))), (2, .int (nI n)), (1, .int (nI b)), (0, .ref 136)]) dX10_mostAlike_95 rfl (nI_add a 1) (by decide) rfl ?_
      refine Sx.goto (t := 5) dX10_mostAlike_98 (by decide) ?_
      refine Sx.sub' [(4, .int (nI (a + 1))), (3, .int (nI (max mo (smX V p a n 6)))), (2, .int (nI n)), (1, .int (nI b)), (0, .ref 136)] rfl ?_
      exact ih (a + 1) (by omega) (by omega) _ (by rw [moX, ← hmo])
set_option maxRecDepth 20000 in
set_option maxHeartbeats 1000000 in
theorem d_mostA {G : Gt} {l : Launch} {Z : Zt} {R : Rt} {I : It} {L : Lt} {post : Pt'} {V : Vt} {p n b : Nat} (W : WF Z R) (hH : HV V) (hK : PK (V 2)) (hp : p < V 2 35) (hb64 : b < 64) (hbb : ∀ q, hbN b q = bfN V p q) (hn1 : 1 ≤ n) (hn : n ≤ 60) (hT : ∀ k z, k < V 2 34 → 1 ≤ z → z ≤ 60 → I 146 (k * 61 + z) = nI (crC V p k z)) (h : post (some (.int (nI (moN V p n (V 2 34))))) Z R I L) : Cx G l mX10_mostAlike 3 0 0 [.ref 136, .int (nI b), .int (nI n)] Z R I L post := by
  refine Cx.of (by decide +kernel) (by exact Nat.le_of_ble_eq_true rfl) ?_
  refine Sx.iconst (v := (nI 0)) dX10_mostAlike_0 (by decide) ?_
  refine Sx.istore_n (lv' := [(3, .int (nI 0)), (0, .ref 136), (1, .int (nI b)), (2, .int (nI n))]) dX10_mostAlike_1 (by decide) rfl ?_
  refine Sx.iconst (v := (nI 0)) dX10_mostAlike_2 (by decide) ?_
  refine Sx.istore (lv' := [(4, .int (nI 0)), (3, .int (nI 0)), (0, .ref 136), (1, .int (nI b)), (2, .int (nI n))]) dX10_mostAlike_3 (by decide) rfl ?_
  refine Sx.sub' [(4, .int (nI 0)), (3, .int (nI 0)), (2, .int (nI n)), (1, .int (nI b)), (0, .ref 136)] rfl ?_
  exact l_cma2 W hH hK hp hb64 hbb hn1 hn hT h 7 0 (by omega) (by omega) 0 rfl
set_option maxRecDepth 20000 in
set_option maxHeartbeats 1000000 in
theorem l_cbq0 {G : Gt} {l : Launch} {Z : Zt} {R : Rt} {I : It} {L : Lt} {post : Pt'} {V : Vt} {p b : Nat} (W : WF Z R) (hH : HV V) (hK : PK (V 2)) (hp : p < V 2 35) (hb64 : b < 64) (hbb : ∀ q, hbN b q = bfN V p q) (hT : ∀ k z, k < V 2 34 → 1 ≤ z → z ≤ 60 → I 146 (k * 61 + z) = nI (crC V p k z)) (hc0 : cntB (fitB V p) (V 2 34) = 0) (h : post (some (.int (-1))) Z R I L) :
    ∀ (r n : Nat), 1 ≤ n → n ≤ 61 → 61 < n + r → Sx G l mX10_bestQuestion 8 0 0 17 [(5, .int (nI n)), (4, .int (nI 7)), (3, .int (iI (-1))), (2, .int (nI b)), (1, .int (nI p)), (0, .ref 136)] [] Z R I L post := by
  obtain ⟨p1, p2, p3, p4, p5, p6, p7, p8, p9⟩ := id hH.2.2.2.1
  intro r
  induction r with
  | zero => intro n h0 h1 h2; omega
  | succ r ih =>
    intro n hn1 h1 h2
    refine Sx.iload dX10_bestQuestion_17 rfl ?_
    refine Sx.bipush (v := (nI 60)) dX10_bestQuestion_19 (by decide) ?_
    refine Sx.icmp_gtV (t := 58) dX10_bestQuestion_21 (by decide) (vN (by omega)) (vN (by decide)) (fun c21 => ?_) (fun c21 => ?_)
    · refine Sx.iload_n dX10_bestQuestion_58 rfl ?_
      refine Sx.iret dX10_bestQuestion_59 rfl rfl ?_
      exact h
    · refine Sx.aload_n dX10_bestQuestion_24 rfl ?_
      refine Sx.iload_n dX10_bestQuestion_25 rfl ?_
      refine Sx.iload dX10_bestQuestion_26 rfl ?_
      refine Sx.callV2 dX10_bestQuestion_28 lkv_X10_65 (rcv_10 (o_136 W)) (by decide) (by decide) (Nat.le_of_ble_eq_true rfl) rfl rfl (d_mostA W hH hK hp hb64 hbb hn1 (by omega) hT ?_)
      refine Sx.istore (lv' := [(6, .int (nI (moN V p n (V 2 34)))), (5, .int (nI n)), (4, .int (nI 7)), (3, .int (iI (-1))), (2, .int (nI b)), (1, .int (nI p)), (0, .ref 136)]) dX10_bestQuestion_31 (by decide) rfl ?_
      have hm0 := mo_0 (n := n) hc0 (V 2 34) (Nat.le_refl _)
      refine Sx.iload dX10_bestQuestion_33 rfl ?_
      refine Sx.if_leV (t := 52) dX10_bestQuestion_35 (by decide) (vN (by omega)) (fun c35 => ?_) (fun c35 => False.elim (by omega))
      refine Sx.iinc (v := (nI (n + 1))) (lv' := [(5, .int (nI (n + 1))), (6, .int (nI (moN V p n (V 2 34)))), (4, .int (nI 7)), (3, .int (iI (-1))), (2, .int (nI b)), (1, .int (nI p)), (0, .ref 136)]) dX10_bestQuestion_52 rfl (nI_add n 1) (by decide) rfl ?_
      refine Sx.goto (t := 17) dX10_bestQuestion_55 (by decide) ?_
      refine Sx.sub' [(5, .int (nI (n + 1))), (4, .int (nI 7)), (3, .int (iI (-1))), (2, .int (nI b)), (1, .int (nI p)), (0, .ref 136)] rfl ?_
      exact ih (n + 1) (by omega) (by omega) (by omega)
set_option maxRecDepth 20000 in
set_option maxHeartbeats 1000000 in
theorem l_cbq1 {G : Gt} {l : Launch} {Z : Zt} {R : Rt} {I : It} {L : Lt} {post : Pt'} {V : Vt} {p b a : Nat} (W : WF Z R) (hH : HV V) (hK : PK (V 2)) (hp : p < V 2 35) (hb64 : b < 64) (hbb : ∀ q, hbN b q = bfN V p q) (hT : ∀ k z, k < V 2 34 → 1 ≤ z → z ≤ 60 → I 146 (k * 61 + z) = nI (crC V p k z)) (hfa : fitB V p a = true) (ha : a < V 2 34) (h : post (some (.int (nI (asN V p 60)))) Z R I L) :
    ∀ (r n : Nat), 1 ≤ n → n ≤ 61 → 61 < n + r → ∀ (d : Nat) (bz : Int) (fw : Nat), bz = (if d = 0 then -1 else (d : Int)) → (d ≠ 0 → fw = moN V p d (V 2 34)) → (d = 0 → fw = 7) → d = asN V p (n - 1) → Sx G l mX10_bestQuestion 8 0 0 17 [(5, .int (nI n)), (4, .int (nI fw)), (3, .int (iI bz)), (2, .int (nI b)), (1, .int (nI p)), (0, .ref 136)] [] Z R I L post := by
  obtain ⟨p1, p2, p3, p4, p5, p6, p7, p8, p9⟩ := id hH.2.2.2.1
  intro r
  induction r with
  | zero => intro n h0 h1 h2; omega
  | succ r ih =>
    intro n hn1 h1 h2 d bz fw hbz hfw hfw0 hd
    have hdl := asN_le V p (n - 1)
    have hbb2 : -1 ≤ bz ∧ bz ≤ 60 := by rw [hbz]; split <;> omega
    have hfl : fw ≤ 7 := by
      by_cases d0 : d = 0
      · have := hfw0 d0; omega
      · rw [hfw d0]; have := moN_le V p d (V 2 34); omega
    refine Sx.iload dX10_bestQuestion_17 rfl ?_
    refine Sx.bipush (v := (nI 60)) dX10_bestQuestion_19 (by decide) ?_
    refine Sx.icmp_gtV (t := 58) dX10_bestQuestion_21 (by decide) (vN (by omega)) (vN (by decide)) (fun c21 => ?_) (fun c21 => ?_)
    · refine Sx.iload_n dX10_bestQuestion_58 rfl ?_
      refine Sx.iret dX10_bestQuestion_59 rfl rfl ?_
      have hn61 : n = 61 := by omega
      subst hn61
      have hdp := asN_pos V p 60 (by decide)
      have hd60 : d = asN V p 60 := hd
      refine pXX ?_ h
      rw [hbz, if_neg (by omega), hd60, ← nI_iI]
    · have hmp := mo_p (n := n) hfa ha (V 2 34) ha
      have hml := moN_le V p n (V 2 34)
      refine Sx.aload_n dX10_bestQuestion_24 rfl ?_
      refine Sx.iload_n dX10_bestQuestion_25 rfl ?_
      refine Sx.iload dX10_bestQuestion_26 rfl ?_
      refine Sx.callV2 dX10_bestQuestion_28 lkv_X10_65 (rcv_10 (o_136 W)) (by decide) (by decide) (Nat.le_of_ble_eq_true rfl) rfl rfl (d_mostA W hH hK hp hb64 hbb hn1 (by omega) hT ?_)
      refine Sx.istore (lv' := [(6, .int (nI (moN V p n (V 2 34)))), (5, .int (nI n)), (4, .int (nI fw)), (3, .int (iI bz)), (2, .int (nI b)), (1, .int (nI p)), (0, .ref 136)]) dX10_bestQuestion_31 (by decide) rfl ?_
      refine Sx.iload dX10_bestQuestion_33 rfl ?_
      refine Sx.if_leV (t := 52) dX10_bestQuestion_35 (by decide) (vN (by omega)) (fun c35 => False.elim (by omega)) (fun c35 => ?_)
      refine Sx.iload dX10_bestQuestion_38 rfl ?_
      refine Sx.iload dX10_bestQuestion_40 rfl ?_
      refine Sx.icmp_geV (t := 52) dX10_bestQuestion_42 (by decide) (vN (by omega)) (vN (by omega)) (fun c42 => ?_) (fun c42 => ?_)
      · refine Sx.iinc (v := (nI (n + 1))) (lv' := [(5, .int (nI (n + 1))), (6, .int (nI (moN V p n (V 2 34)))), (4, .int (nI fw)), (3, .int (iI bz)), (2, .int (nI b)), (1, .int (nI p)), (0, .ref 136)]) dX10_bestQuestion_52 rfl (nI_add n 1) (by decide) rfl ?_
        refine Sx.goto (t := 17) dX10_bestQuestion_55 (by decide) ?_
        refine Sx.sub' [(5, .int (nI (n + 1))), (4, .int (nI fw)), (3, .int (iI bz)), (2, .int (nI b)), (1, .int (nI p)), (0, .ref 136)] rfl ?_
        have d0 : d ≠ 0 := fun z => by have := hfw0 z; omega
        exact ih (n + 1) (by omega) (by omega) (by omega) d bz fw hbz hfw hfw0 (by rw [Nat.add_sub_cancel]; exact as_n hn1 hd hfw ⟨d0, by omega⟩)
      · refine Sx.iload dX10_bestQuestion_45 rfl ?_
        refine Sx.istore (lv' := [(4, .int (nI (moN V p n (V 2 34)))), (6, .int (nI (moN V p n (V 2 34)))), (5, .int (nI n)), (3, .int (iI bz)), (2, .int (nI b)), (1, .int (nI p)), (0, .ref 136)]) dX10_bestQuestion_47 (by decide) rfl ?_
        refine Sx.iload dX10_bestQuestion_49 rfl ?_
        refine Sx.istore_n (lv' := [(3, .int (nI n)), (4, .int (nI (moN V p n (V 2 34)))), (6, .int (nI (moN V p n (V 2 34)))), (5, .int (nI n)), (2, .int (nI b)), (1, .int (nI p)), (0, .ref 136)]) dX10_bestQuestion_51 (by decide) rfl ?_
        refine Sx.iinc (v := (nI (n + 1))) (lv' := [(5, .int (nI (n + 1))), (3, .int (nI n)), (4, .int (nI (moN V p n (V 2 34)))), (6, .int (nI (moN V p n (V 2 34)))), (2, .int (nI b)), (1, .int (nI p)), (0, .ref 136)]) dX10_bestQuestion_52 rfl (nI_add n 1) (by decide) rfl ?_
        refine Sx.goto (t := 17) dX10_bestQuestion_55 (by decide) ?_
        refine Sx.sub' (lv' := [(5, .int (nI (n + 1))), (4, .int (nI (moN V p n (V 2 34)))), (3, .int (iI (n : Int))), (2, .int (nI b)), (1, .int (nI p)), (0, .ref 136)]) (by rw [← nI_iI]; rfl) ?_
        exact ih (n + 1) (by omega) (by omega) (by omega) n (n : Int) _ (by rw [if_neg (by omega)]) (fun _ => rfl) (fun z => by omega) (by rw [Nat.add_sub_cancel]; exact as_y hn1 hd hfw (by by_cases d0 : d = 0; (· exact Or.inl d0); (· exact Or.inr (by omega))))
set_option maxRecDepth 20000 in
set_option maxHeartbeats 1000000 in
theorem d_bestQ {G : Gt} {l : Launch} {Z : Zt} {R : Rt} {I : It} {L : Lt} {post : Pt'} {V : Vt} {p : Nat} (W : WF Z R) (C : CI V R I L) (hb : V 0 1 ≤ 4 ∧ V 0 3 ≤ 4) (hH : HV V) (hK : PK (V 2)) (hs : SI V) (hp : p < V 2 35) (h : ∀ I', CI V R I' L → OW I I' → post (some (.int (if cntB (fitB V p) (V 2 34) = 0 then -1 else nI (asN V p 60)))) Z R I' L) : Cx G l mX10_bestQuestion 8 0 0 [.ref 136, .int (nI p)] Z R I L post := by
  refine Cx.of (by decide +kernel) (by exact Nat.le_of_ble_eq_true rfl) ?_
  refine Sx.aload_n dX10_bestQuestion_0 rfl ?_
  refine Sx.iload_n dX10_bestQuestion_1 rfl ?_
  refine Sx.bipush (v := (nI 60)) dX10_bestQuestion_2 (by decide) ?_
  refine Sx.callV2 dX10_bestQuestion_4 lkv_X10_62 (rcv_10 (o_136 W)) (by decide) (by decide) (Nat.le_of_ble_eq_true rfl) rfl rfl (d_followAll W C hb hH hK hs hp (by decide) (fun z hz => (hs.2 z hz).2.1) (fun I1 C1 o1 hT => ?_))
  refine Sx.istore_n (lv' := [(2, .int (nI (btN (fitB V p) (V 2 34)))), (0, .ref 136), (1, .int (nI p))]) dX10_bestQuestion_7 (by decide) rfl ?_
  refine Sx.iconst (v := (iI (-1))) dX10_bestQuestion_8 (by decide) ?_
  refine Sx.istore_n (lv' := [(3, .int (iI (-1))), (2, .int (nI (btN (fitB V p) (V 2 34)))), (0, .ref 136), (1, .int (nI p))]) dX10_bestQuestion_9 (by decide) rfl ?_
  refine Sx.bipush (v := (nI 7)) dX10_bestQuestion_10 (by decide) ?_
  refine Sx.istore (lv' := [(4, .int (nI 7)), (3, .int (iI (-1))), (2, .int (nI (btN (fitB V p) (V 2 34)))), (0, .ref 136), (1, .int (nI p))]) dX10_bestQuestion_12 (by decide) rfl ?_
  refine Sx.iconst (v := (nI 1)) dX10_bestQuestion_14 (by decide) ?_
  refine Sx.istore (lv' := [(5, .int (nI 1)), (4, .int (nI 7)), (3, .int (iI (-1))), (2, .int (nI (btN (fitB V p) (V 2 34)))), (0, .ref 136), (1, .int (nI p))]) dX10_bestQuestion_15 (by decide) rfl ?_
  have h64 : btN (fitB V p) (V 2 34) < 64 := Nat.lt_of_lt_of_le (btN_lt _ _) (p2_64 hH.2.2.2.1.2.2.2.2.2.1)
  have hbb : ∀ q, hbN (btN (fitB V p) (V 2 34)) q = bfN V p q := fun q => bt_bit (fitB V p) q (V 2 34)
  by_cases hc0 : cntB (fitB V p) (V 2 34) = 0
  · refine Sx.sub' [(5, .int (nI 1)), (4, .int (nI 7)), (3, .int (iI (-1))), (2, .int (nI (btN (fitB V p) (V 2 34)))), (1, .int (nI p)), (0, .ref 136)] rfl ?_
    exact l_cbq0 W hH hK hp h64 hbb hT hc0 (pXX (if_pos hc0) (h I1 C1 o1)) 61 1 (by omega) (by omega) (by omega)
  · refine Sx.sub' [(5, .int (nI 1)), (4, .int (nI 7)), (3, .int (iI (-1))), (2, .int (nI (btN (fitB V p) (V 2 34)))), (1, .int (nI p)), (0, .ref 136)] rfl ?_
    obtain ⟨a, ha, hfa⟩ := cnt_p _ hc0
    exact l_cbq1 W hH hK hp h64 hbb hT hfa ha (pXX (if_neg hc0) (h I1 C1 o1)) 61 1 (by omega) (by omega) (by omega) 0 (-1) 7 rfl (fun z => absurd rfl z) (fun _ => rfl) rfl
set_option maxRecDepth 20000 in
set_option maxHeartbeats 1000000 in
theorem d_ask {G : Gt} {l : Launch} {Z : Zt} {R : Rt} {I : It} {L : Lt} {post : Pt'} {V : Vt} {N : Nat} {x : Int32} (W : WF Z R) (C : CI V R I L) (hG : GG N V) (hN : N < 2147483647) (h : CQ post Z R I L V (askR V x)) : Cx G l mX11_ask 9 0 0 [.ref 100, .int x] Z R I L post := by
  refine Cx.of (by decide +kernel) (by exact Nat.le_of_ble_eq_true rfl) ?_
  have hB := hG.1.bnd
  have hp6 := hG.1.p
  have hb := hG.1.b
  have h00 := hG.1.1.1
  refine Sx.aload_n dX11_ask_0 rfl ?_
  refine Sx.getfR dX11_ask_1 lkf_X11_19_11 (o_100 W) (r_100_1 W) ?_
  refine Sx.iload_n dX11_ask_4 rfl ?_
  refine Sx.callV1 dX11_ask_5 lkv_X11_189 (rcv_6 (o_103 W)) (by decide) (by decide) (Nat.le_of_ble_eq_true rfl) rfl rfl (d_isPerson W C.2.1 (by omega) ?_)
  refine Sx.if_eqD (t := 22) dX11_ask_8 (by decide) (fun c8 => ?_) (fun c8 => ?_)
  · refine Sx.iconst (v := (iI (-1))) dX11_ask_22 (by decide) ?_
    refine Sx.iret dX11_ask_23 rfl rfl ?_
    have hn : ¬ askC V x := fun z => by have := z.1; omega
    exact pXX (by unfold askR; rw [if_neg hn]; rfl) (h I R L C (CF.rf R I L))
  · have hH := hG.1.hv (by omega)
    have hK := (hG.2.2 (by omega)).2
    have hs := hG.1.si
    obtain ⟨p, rfl, hp⟩ := x_ex (x := x) (n := V 2 35) ⟨by omega, by omega⟩
    have tp := x_toN (p := p) (by omega)
    refine Sx.sub' [(0, .ref 100), (1, .int (nI p))] rfl ?_
    refine Sx.aload_n dX11_ask_11 rfl ?_
    refine Sx.getfR dX11_ask_12 lkf_X11_75_11 (o_100 W) (r_100_9 W) ?_
    refine Sx.iload_n dX11_ask_15 rfl ?_
    refine Sx.callV1 dX11_ask_16 lkv_X11_326 (rcv_10 (o_136 W)) (by decide) (by decide) (Nat.le_of_ble_eq_true rfl) rfl rfl (d_bestQ W C hb hH hK hs (by omega) (fun I1 C1 o1 => ?_))
    refine Sx.goto (t := 23) dX11_ask_19 (by decide) ?_
    refine Sx.iret dX11_ask_23 rfl rfl ?_
    refine pXX ?_ (h I1 R L C1 o1.cf)
    unfold askR
    by_cases c0 : cntB (fitB V p) (V 2 34) = 0
    · rw [if_neg (fun z => z.2 (by rw [xN_n (by omega)]; exact c0)), if_pos c0]
    · rw [if_pos ⟨⟨by omega, by omega⟩, by rw [xN_n (by omega)]; exact c0⟩, if_neg c0, xN_n (by omega)]
