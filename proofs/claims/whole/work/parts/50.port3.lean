/-! a seaport's text: the reference reads it all -/
theorem rdV2_b (T : Nat → Nat) (n c : Nat) : rdV T n c 2 < 1000 := by
  have h := rdv_b T n 2 (nx T n c) 0 0 (by decide)
  have e : (10 : Nat) ^ (0 + 2) = 100 := by decide
  unfold rdV
  omega
theorem itR_L (T : Nat → Nat) (n kc : Nat) : ∀ q met c f, (∀ z, f z < 1000) → ∀ z, (itR T n kc q met c f).2.2 z < 1000
  | 0, _, _, f => fun h z => h z
  | q + 1, met, c, f => fun h z => by
    unfold itR
    split
    · exact h z
    · split
      · exact h z
      · split
        · refine itR_L T n kc q _ _ _ (fun y => ?_) z
          unfold upn
          split
          · exact rdV2_b T n _
          · exact h y
        · exact h z
theorem itR_b (T : Nat → Nat) (n kc : Nat) : ∀ q met c f, (itR T n kc q met c f).2.1 ≤ max n c + q
  | 0, _, c, f => by show c ≤ _; omega
  | q + 1, met, c, f => by
    have h1 := nx_b T n c
    have h2 := nx_b T n (nx T n c + 1)
    have h3 := rdc_b T n 2 (nx T n (nx T n c + 1))
    unfold itR
    split
    · show nx T n c ≤ _; omega
    · split
      · show nx T n c ≤ _; omega
      · split
        · have h4 := itR_b T n kc q (met ||| 2 ^ (itW T n kc c - 1)) (rdE T n (nx T n c + 1) 2) (upn f (itW T n kc c - 1) (rdV T n (nx T n c + 1) 2))
          unfold rdE at h4 ⊢
          omega
        · have h4 := rdP_b T n (nx T n c + 1) 2 (loN kc (itW T n kc c - 1)) (mostN kc (itW T n kc c - 1))
          show rdP T n _ 2 _ _ ≤ _
          omega
theorem clR_b (T : Nat → Nat) (n c : Nat) (Q : Nat → Nat) : (clR T n c Q).2.1 ≤ max n c + 5 := by
  have h1 := nx_b T n c
  have h2 : ∀ kc x Q', (cl1 T n c kc x Q').2.1 ≤ max n c + 5 := fun kc x Q' => by
    have := itR_b T n kc 4 0 (nx T n c + 1) (usualN kc)
    show (itR T n kc 4 0 (nx T n c + 1) (usualN kc)).2.1 ≤ _
    omega
  unfold clR
  split
  · exact h2 _ _ _
  · split
    · exact h2 _ _ _
    · split
      · exact h2 _ _ _
      · show nx T n c ≤ _; omega
theorem usualN_L (kc w : Nat) : usualN kc w < 1000 := by unfold usualN; (repeat' split) <;> omega
def QL (Q : Nat → Nat) : Prop := ∀ z, Q z < 1000
theorem putQ_L {kc x : Nat} {Q f : Nat → Nat} (h : QL Q) (hf : QL f) : QL (putQ kc x Q f) := by
  intro z
  unfold putQ
  (repeat' split) <;> first | exact hf _ | exact h _
theorem upn_L {Q : Nat → Nat} {k x : Nat} (h : QL Q) (hx : x < 1000) : QL (upn Q k x) := by
  intro z
  unfold upn
  split
  · exact hx
  · exact h z
theorem cl1_L {T : Nat → Nat} {n c kc x : Nat} {Q : Nat → Nat} (h : QL Q) : QL (cl1 T n c kc x Q).2.2 := putQ_L h (itR_L T n kc 4 0 _ _ (usualN_L kc))
theorem clR_L {T : Nat → Nat} {n c : Nat} {Q : Nat → Nat} (h : QL Q) : QL (clR T n c Q).2.2 := by
  have h33 := h 33
  unfold clR
  split
  · exact cl1_L (upn_L h (by decide))
  · split
    · exact cl1_L (upn_L h (by omega))
    · split
      · exact cl1_L (upn_L h (by omega))
      · exact h
/-- nothing told yet -/
def usQ (z : Nat) : Nat := if z = 0 then 8 else if z = 1 then 20 else if z < 3 then 0 else if z < 9 then 3 else if z < 15 then 4 else if z < 21 then 0 else if z < 27 then 2 else 0
theorem usQ_L : QL usQ := by
  intro z
  unfold usQ
  (repeat' split) <;> omega
theorem RQ_.fsr {I I' : It} {k : Nat} {x : Int32} {Q : Nat → Nat} (h : RQ_ I Q) (hk : k ≠ 28 ∧ k ≠ 29 ∧ k ≠ 31) (e : I' 253 = upd (I 253) k x) (o : ∀ q, q ≠ 253 → I' q = I q) : RQ_ I' Q := h.of (fun j hj => by rw [e, upd_nj _ _ (by omega)]) (fun q hq => o q (by omega))
set_option maxRecDepth 20000 in
set_option maxHeartbeats 1000000 in
theorem l_rport {G : Gt} {l : Launch} {Z : Zt} {R : Rt} {L : Lt} {post : Pt'} {tx b n dp : Nat} {T : Nat → Nat} {r : Bool × Nat × (Nat → Nat)} {I0 : It} (W : WF Z R) (hno : r.1 = false → ∀ I', FS I0 I' → I' 253 11 = nI r.2.1 → post none Z R I' L) (hyes : r.1 = true → ∀ I', FS I0 I' → I' 253 11 = iI (-1) → RQ_ I' r.2.2 → post none Z R I' L) :
    ∀ (k q0 : Nat), q0 < k → ∀ (I : It) (c : Nat) (Q : Nat → Nat), ptR T n q0 c Q = r → cntQ Q + q0 = 14 → CB Q → QL Q → MR R I tx b n c T → I 253 11 = iI (-1) → I 253 12 = nI dp → FS I0 I → RQ_ I Q →
      Sx G l mX12_readPort 8 0 0 55 [(1, .int (nI 1)), (0, .ref 253)] [] Z R I L post := by
  intro k
  induction k with
  | zero => intro q0 h1; omega
  | succ k ih =>
    intro q0 h1 I c Q hR hp hQB hQ8 hM hf hd hFS hQ
    have hcnt : cntQ Q ≤ 13 := by unfold cntQ; obtain ⟨q1, q2, q3⟩ := hQB; omega
    obtain ⟨q, rfl⟩ : ∃ z, q0 = z + 1 := ⟨q0 - 1, by omega⟩
    have hQ9 := clR_L (T := T) (n := n) (c := c) hQ8
    have hn0 := hM.2.2.2.2.2.1
    refine Sx.iload_n dX12_readPort_55 rfl ?_
    refine Sx.if_eqV (t := 111) dX12_readPort_56 (by decide) (vN (by decide)) (fun c56 => False.elim (by omega)) (fun c56 => ?_)
    refine Sx.aload_n dX12_readPort_59 rfl ?_
    refine Sx.getfV (v := (iI (-1))) dX12_readPort_60 lkf_X12_141_12 (o_253 W) hf ?_
    refine Sx.iconst (v := (iI (-1))) dX12_readPort_63 (by decide) ?_
    refine Sx.icmp_neV (t := 111) dX12_readPort_64 (by decide) (vZ (by decide)) (vZ (by decide)) (fun c64 => False.elim (by omega)) (fun c64 => ?_)
    refine Sx.aload_n dX12_readPort_67 rfl ?_
    refine Sx.callV0 dX12_readPort_68 lkv_X12_271 (rcv_12 (o_253 W)) (by decide) (by decide) (Nat.le_of_ble_eq_true rfl) rfl rfl (k_readClause W hM hf hd hQ rfl (fun x1 I1 g1 f1 => ?_) (fun x1 I1 g1 hM1 f1 d1 hQ1 => ?_))
    · skip
      have hF1 := (hFS).tr g1
      have hcb1 := clR_b T n c Q
      have hcc1 := hM.2.2.2.2.2.2.1
      refine Sx.aload_n dX12_readPort_71 rfl ?_
      refine Sx.getfV (v := (nI ((clR T n c Q).2.1))) dX12_readPort_72 lkf_X12_141_12 (o_253 W) f1 ?_
      refine Sx.iconst (v := (iI (-1))) dX12_readPort_75 (by decide) ?_
      refine Sx.icmp_neV (t := 92) dX12_readPort_76 (by decide) (vN (by omega)) (vZ (by decide)) (fun c76 => ?_) (fun c76 => False.elim (by omega))
      refine Sx.iconst (v := (nI 0)) dX12_readPort_92 (by decide) ?_
      refine Sx.istore_n (lv' := [(1, .int (nI 0)), (0, .ref 253)]) dX12_readPort_93 (by decide) rfl ?_
      refine Sx.iload_n dX12_readPort_94 rfl ?_
      refine Sx.if_eqV (t := 55) dX12_readPort_95 (by decide) (vN (by decide)) (fun c95 => ?_) (fun c95 => False.elim (by omega))
      refine Sx.iload_n dX12_readPort_55 rfl ?_
      refine Sx.if_eqV (t := 111) dX12_readPort_56 (by decide) (vN (by decide)) (fun c56 => ?_) (fun c56 => False.elim (by omega))
      refine Sx.aload_n dX12_readPort_111 rfl ?_
      refine Sx.getfV (v := (nI ((clR T n c Q).2.1))) dX12_readPort_112 lkf_X12_141_12 (o_253 W) f1 ?_
      refine Sx.iconst (v := (iI (-1))) dX12_readPort_115 (by decide) ?_
      refine Sx.icmp_neV (t := 139) dX12_readPort_116 (by decide) (vN (by omega)) (vZ (by decide)) (fun c116 => ?_) (fun c116 => False.elim (by omega))
      refine Sx.vret dX12_readPort_139 rfl ?_
      rw [ptR, if_neg (by rw [x1]; decide)] at hR
      subst hR
      exact hno rfl I1 hF1 f1
    · skip
      have hF1 := (hFS).tr g1
      have hk1 := lkN_or T n ((clR T n c Q).2.1)
      have ht1 := hM1.2.2.2.2.2.2.2.1 ((clR T n c Q).2.1)
      have hc1 := hM1.2.2.2.2.2.2.1
      have hn1 := hM1.2.2.2.2.2.1
      have hs1 := sgn_or T n ((clR T n c Q).2.1)
      refine Sx.aload_n dX12_readPort_71 rfl ?_
      refine Sx.getfV (v := (iI (-1))) dX12_readPort_72 lkf_X12_141_12 (o_253 W) f1 ?_
      refine Sx.iconst (v := (iI (-1))) dX12_readPort_75 (by decide) ?_
      refine Sx.icmp_neV (t := 92) dX12_readPort_76 (by decide) (vZ (by decide)) (vZ (by decide)) (fun c76 => False.elim (by omega)) (fun c76 => ?_)
      refine Sx.aload_n dX12_readPort_79 rfl ?_
      refine Sx.callV0 dX12_readPort_80 lkv_X12_151 (rcv_12 (o_253 W)) (by decide) (by decide) (Nat.le_of_ble_eq_true rfl) rfl rfl (k_look W hM1 (fun I2 hM2 g2 f2 d2 => ?_))
      have hF2 := (hF1).tr (FA.fs g2)
      have hf2 := f2.trans f1
      have hd2 := d2.trans d1
      have hx2 := nx_b T n ((clR T n c Q).2.1)
      have hk2 := lkN_or T n (nx T n ((clR T n c Q).2.1))
      have ht2 := hM2.2.2.2.2.2.2.2.1 (nx T n ((clR T n c Q).2.1))
      have hc2 := hM2.2.2.2.2.2.2.1
      have hn2 := hM2.2.2.2.2.2.1
      have hs2 := sgn_or T n (nx T n ((clR T n c Q).2.1))
      have hQ2 := hQ1.fa g2
      refine Sx.bipush (v := (nI 59)) dX12_readPort_83 (by decide) ?_
      refine Sx.icmp_neV (t := 92) dX12_readPort_85 (by decide) (vZ (by omega)) (vN (by decide)) (fun c85 => ?_) (fun c85 => ?_)
      · refine Sx.iconst (v := (nI 0)) dX12_readPort_92 (by decide) ?_
        refine Sx.istore_n (lv' := [(1, .int (nI 0)), (0, .ref 253)]) dX12_readPort_93 (by decide) rfl ?_
        refine Sx.iload_n dX12_readPort_94 rfl ?_
        refine Sx.if_eqV (t := 55) dX12_readPort_95 (by decide) (vN (by decide)) (fun c95 => ?_) (fun c95 => False.elim (by omega))
        refine Sx.iload_n dX12_readPort_55 rfl ?_
        refine Sx.if_eqV (t := 111) dX12_readPort_56 (by decide) (vN (by decide)) (fun c56 => ?_) (fun c56 => False.elim (by omega))
        refine Sx.aload_n dX12_readPort_111 rfl ?_
        refine Sx.getfV (v := (iI (-1))) dX12_readPort_112 lkf_X12_141_12 (o_253 W) hf2 ?_
        refine Sx.iconst (v := (iI (-1))) dX12_readPort_115 (by decide) ?_
        refine Sx.icmp_neV (t := 139) dX12_readPort_116 (by decide) (vZ (by decide)) (vZ (by decide)) (fun c116 => False.elim (by omega)) (fun c116 => ?_)
        have hnn := nx_nx T n (clR T n c Q).2.1
        have hll : lkN T n (nx T n (nx T n (clR T n c Q).2.1)) = lkN T n (nx T n (clR T n c Q).2.1) := by rw [hnn]
        refine Sx.aload_n dX12_readPort_119 rfl ?_
        refine Sx.callV0 dX12_readPort_120 lkv_X12_151 (rcv_12 (o_253 W)) (by decide) (by decide) (Nat.le_of_ble_eq_true rfl) rfl rfl (k_look W hM2 (fun I3 hM3 g3 f3 d3 => ?_))
        have hF3 := (hF2).tr (FA.fs g3)
        have hf3 := f3.trans hf2
        have hd3 := d3.trans hd2
        have hx3 := nx_b T n (nx T n ((clR T n c Q).2.1))
        have hk3 := lkN_or T n (nx T n (nx T n ((clR T n c Q).2.1)))
        have ht3 := hM3.2.2.2.2.2.2.2.1 (nx T n (nx T n ((clR T n c Q).2.1)))
        have hc3 := hM3.2.2.2.2.2.2.1
        have hn3 := hM3.2.2.2.2.2.1
        have hs3 := sgn_or T n (nx T n (nx T n ((clR T n c Q).2.1)))
        have hQ3 := hQ2.fa g3
        refine Sx.iconst (v := (iI (-1))) dX12_readPort_123 (by decide) ?_
        refine Sx.icmp_neV (t := 134) dX12_readPort_124 (by decide) (vZ (by omega)) (vZ (by decide)) (fun c124 => ?_) (fun c124 => ?_)
        · refine Sx.aload_n dX12_readPort_134 rfl ?_
          refine Sx.callV0 dX12_readPort_135 lkv_X12_147 (rcv_12 (o_253 W)) (by decide) (by decide) (Nat.le_of_ble_eq_true rfl) rfl rfl (k_fails W hM3 hf3 (fun I4 g4 f4 d4 a4 => ?_))
          have hF4 := (hF3).tr (FA.fs g4)
          refine Sx.pop dX12_readPort_138 rfl ?_
          refine Sx.vret dX12_readPort_139 rfl ?_
          rw [ptR, if_pos x1] at hR
          rw [if_neg (by omega), if_neg (by omega)] at hR
          subst hR
          exact hno rfl I4 hF4 (by rw [← nx_nx T n (clR T n c Q).2.1]; exact f4)
        · refine Sx.aload_n dX12_readPort_127 rfl ?_
          refine Sx.callV0 dX12_readPort_128 lkv_X12_274 (rcv_12 (o_253 W)) (by decide) (by decide) (Nat.le_of_ble_eq_true rfl) rfl rfl (k_isWhole W hQ3 (fun p _ => hQ9 _) ?_)
          refine Sx.if_neB (t := 139) dX12_readPort_131 (by decide) (fun c131 => ?_) (fun c131 => ?_)
          · refine Sx.vret dX12_readPort_139 rfl ?_
            rw [ptR, if_pos x1] at hR
            rw [if_pos (by omega)] at hR
            subst hR
            exact hyes c131 I3 hF3 hf3 hQ3
          · refine Sx.aload_n dX12_readPort_134 rfl ?_
            refine Sx.callV0 dX12_readPort_135 lkv_X12_147 (rcv_12 (o_253 W)) (by decide) (by decide) (Nat.le_of_ble_eq_true rfl) rfl rfl (k_fails W hM3 hf3 (fun I5 g5 f5 d5 a5 => ?_))
            have hF5 := (hF3).tr (FA.fs g5)
            refine Sx.pop dX12_readPort_138 rfl ?_
            refine Sx.vret dX12_readPort_139 rfl ?_
            rw [ptR, if_pos x1] at hR
            rw [if_pos (by omega)] at hR
            subst hR
            exact hno c131 I5 hF5 (by rw [← nx_nx T n (clR T n c Q).2.1]; exact f5)
      · refine Sx.iconst (v := (nI 1)) dX12_readPort_88 (by decide) ?_
        refine Sx.goto (t := 93) dX12_readPort_89 (by decide) ?_
        refine Sx.istore_n (lv' := [(1, .int (nI 1)), (0, .ref 253)]) dX12_readPort_93 (by decide) rfl ?_
        refine Sx.iload_n dX12_readPort_94 rfl ?_
        refine Sx.if_eqV (t := 55) dX12_readPort_95 (by decide) (vN (by decide)) (fun c95 => False.elim (by omega)) (fun c95 => ?_)
        refine Sx.aload_n dX12_readPort_98 rfl ?_
        refine Sx.dup dX12_readPort_99 rfl ?_
        refine Sx.getfV (v := (nI (nx T n ((clR T n c Q).2.1)))) dX12_readPort_100 lkf_X12_132_12 (o_253 W) hM2.at_ ?_
        refine Sx.iconst (v := (nI 1)) dX12_readPort_103 (by decide) ?_
        refine Sx.iaddN dX12_readPort_104 ?_
        refine Sx.putfV dX12_readPort_105 lkp_X12_132_12 (o_253 W) rfl rfl (fun I6 e6 o6 => ?_)
        have hM6 : MR R I6 tx b n ((nx T n ((clR T n c Q).2.1)) + 1) T := hM2.mv ((nx T n ((clR T n c Q).2.1)) + 1) (by omega) (FA.up (by decide) e6 o6) (by rw [e6, upd_at])
        have hF6 := (hF2).tr (FA.fs (FA.up (by decide) e6 o6))
        have hf6 := Eq.trans (by rw [e6, upd_nj _ _ (by decide)] : I6 253 11 = I2 253 11) hf2
        have hd6 := Eq.trans (by rw [e6, upd_nj _ _ (by decide)] : I6 253 12 = I2 253 12) hd2
        have hk6 := lkN_or T n ((nx T n ((clR T n c Q).2.1)) + 1)
        have ht6 := hM6.2.2.2.2.2.2.2.1 ((nx T n ((clR T n c Q).2.1)) + 1)
        have hc6 := hM6.2.2.2.2.2.2.1
        have hn6 := hM6.2.2.2.2.2.1
        have hs6 := sgn_or T n ((nx T n ((clR T n c Q).2.1)) + 1)
        have hQ6 := hQ2.fsr (by decide) e6 o6
        refine Sx.goto (t := 55) dX12_readPort_108 (by decide) ?_
        refine Sx.sub' [(1, .int (nI 1)), (0, .ref 253)] rfl ?_
        rw [ptR, if_pos x1] at hR
        rw [if_neg (by omega), if_pos (by omega)] at hR
        obtain ⟨hc1, hc2⟩ := clR_c hQB x1
        refine ih q (by omega) I6 _ _ hR (by omega) hc1 (clR_L hQ8) hM6 hf6 hd6 hF6 hQ6
set_option maxRecDepth 20000 in
set_option maxHeartbeats 1000000 in
theorem l_rule {G : Gt} {l : Launch} {Z : Zt} {R : Rt} {L : Lt} {post : Pt'} {I0 : It} (W : WF Z R) (h : ∀ I', (∀ z, z < 3 → I' 259 z = nI (usualN 115 z)) → (∀ q, q ≠ 259 → I' q = I0 q) → Sx G l mX12_readPort 8 0 0 53 [(1, .int (nI 3)), (0, .ref 253)] [] Z R I' L post) :
    ∀ (k j : Nat), j ≤ 3 → 3 < j + k → ∀ (I : It), (∀ z, z < j → I 259 z = nI (usualN 115 z)) → (∀ q, q ≠ 259 → I q = I0 q) → Sx G l mX12_readPort 8 0 0 30 [(1, .int (nI j)), (0, .ref 253)] [] Z R I L post := by
  intro k
  induction k with
  | zero => intro j h1 h2; omega
  | succ k ih =>
    intro j h1 h2 I hu hI
    refine Sx.iload_n dX12_readPort_30 rfl ?_
    refine Sx.iconst (v := (nI 3)) dX12_readPort_31 (by decide) ?_
    refine Sx.icmp_geV (t := 53) dX12_readPort_32 (by decide) (vN (by omega)) (vN (by decide)) (fun c32 => ?_) (fun c32 => ?_)
    · have hj : j = 3 := by omega
      subst hj
      exact h I hu hI
    · refine Sx.aload_n dX12_readPort_35 rfl ?_
      refine Sx.getfR dX12_readPort_36 lkf_X12_40_12 (o_253 W) (r_253_19 W) ?_
      refine Sx.iload_n dX12_readPort_39 rfl ?_
      refine Sx.bipush (v := (nI 115)) dX12_readPort_40 (by decide) ?_
      refine Sx.iload_n dX12_readPort_42 rfl ?_
      refine Sx.callS2 dX12_readPort_43 lkc_X12_234  (by decide) (by decide) (Nat.le_of_ble_eq_true rfl) rfl rfl (k_usual (k0 := 115) (by decide) (by omega) ?_)
      refine Sx.iastN dX12_readPort_46 (a_259 W) (by omega) (by decide) (fun I1 e1 o1 => ?_)
      refine Sx.iinc (v := (nI (j + 1))) (lv' := [(1, .int (nI (j + 1))), (0, .ref 253)]) dX12_readPort_47 rfl (nI_add j 1) (by decide) rfl ?_
      refine Sx.goto (t := 30) dX12_readPort_50 (by decide) ?_
      refine ih (j + 1) (by omega) (by omega) I1 (fun z hz => ?_) (fun q hq => (o1 q hq).trans (hI q hq))
      rw [e1]
      by_cases e : z = j
      · rw [e, upd_at]
      · rw [upd_nj _ _ (by omega)]; exact hu z (by omega)
set_option maxRecDepth 20000 in
set_option maxHeartbeats 1000000 in
theorem k_readPort {G : Gt} {l : Launch} {Z : Zt} {R : Rt} {I : It} {L : Lt} {post : Pt'} {n : Nat} {T : Nat → Nat} (W : WF Z R) (hT : MT I T n) (hno : (ptR T n 14 0 usQ).1 = false → ∀ I' R', R' = up2R R 253 5 (some 254) → FS I I' → I' 253 11 = nI (ptR T n 14 0 usQ).2.1 → post none Z R' I' L) (hyes : (ptR T n 14 0 usQ).1 = true → ∀ I' R', R' = up2R R 253 5 (some 254) → FS I I' → I' 253 11 = iI (-1) → RQ_ I' (ptR T n 14 0 usQ).2.2 → post none Z R' I' L) : Cx G l mX12_readPort 8 0 0 [.ref 253] Z R I L post := by
  refine Cx.of (by decide +kernel) (by exact Nat.le_of_ble_eq_true rfl) ?_
  refine Sx.aload_n dX12_readPort_0 rfl ?_
  refine Sx.aload_n dX12_readPort_1 rfl ?_
  refine Sx.getfR dX12_readPort_2 lkf_X12_9_12 (o_253 W) (r_253_1 W) ?_
  refine Sx.iconst (v := (nI 0)) dX12_readPort_5 (by decide) ?_
  refine Sx.aload_n dX12_readPort_6 rfl ?_
  refine Sx.getfV (v := (nI n)) dX12_readPort_7 lkf_X12_122_12 (o_253 W) hT.1 ?_
  refine Sx.callV3 dX12_readPort_10 lkv_X12_220 (rcv_12 (o_253 W)) (by decide) (by decide) (Nat.le_of_ble_eq_true rfl) rfl rfl (k_starts W (fun I1 R1 hR1 f0 f1 f2 f3 f4 f5 => ?_))
  have hM1 := hT.mr hR1 f0 f2 f3 f4
  have W : WF Z R1 := by rw [hR1]; exact W.tx _
  obtain ⟨dp, hd1⟩ := x_nI (I1 253 12)
  refine Sx.aload_n dX12_readPort_13 rfl ?_
  refine Sx.iconst (v := (nI 0)) dX12_readPort_14 (by decide) ?_
  refine Sx.putfV dX12_readPort_15 lkp_X12_255_12 (o_253 W) rfl rfl (fun I2 e2 o2 => ?_)
  have hF2 := ((FS.st f0 f1)).tr (FS.fld (show ¬ fsJ 28 by unfold fsJ; omega) e2 o2)
  have hf2 := Eq.trans (by rw [e2, upd_nj _ _ (by decide)] : I2 253 11 = I1 253 11) f5
  have hM2 := hM1.fld (by decide) e2 o2
  have hd2 := Eq.trans (by rw [e2, upd_nj _ _ (by decide)] : I2 253 12 = I1 253 12) hd1
  refine Sx.aload_n dX12_readPort_18 rfl ?_
  refine Sx.iconst (v := (nI 0)) dX12_readPort_19 (by decide) ?_
  refine Sx.putfV dX12_readPort_20 lkp_X12_258_12 (o_253 W) rfl rfl (fun I3 e3 o3 => ?_)
  have hF3 := (hF2).tr (FS.fld (show ¬ fsJ 29 by unfold fsJ; omega) e3 o3)
  have hf3 := Eq.trans (by rw [e3, upd_nj _ _ (by decide)] : I3 253 11 = I2 253 11) hf2
  have hM3 := hM2.fld (by decide) e3 o3
  have hd3 := Eq.trans (by rw [e3, upd_nj _ _ (by decide)] : I3 253 12 = I2 253 12) hd2
  refine Sx.aload_n dX12_readPort_23 rfl ?_
  refine Sx.iconst (v := (nI 0)) dX12_readPort_24 (by decide) ?_
  refine Sx.putfV dX12_readPort_25 lkp_X12_252_12 (o_253 W) rfl rfl (fun I4 e4 o4 => ?_)
  have hF4 := (hF3).tr (FS.fld (show ¬ fsJ 31 by unfold fsJ; omega) e4 o4)
  have hf4 := Eq.trans (by rw [e4, upd_nj _ _ (by decide)] : I4 253 11 = I3 253 11) hf3
  have hM4 := hM3.fld (by decide) e4 o4
  have hd4 := Eq.trans (by rw [e4, upd_nj _ _ (by decide)] : I4 253 12 = I3 253 12) hd3
  refine Sx.iconst (v := (nI 0)) dX12_readPort_28 (by decide) ?_
  refine Sx.istore_n (lv' := [(1, .int (nI 0)), (0, .ref 253)]) dX12_readPort_29 (by decide) rfl ?_
  refine Sx.sub' [(1, .int (nI 0)), (0, .ref 253)] rfl ?_
  refine l_rule W (I0 := I4) (fun I9 hu hI9 => ?_) 4 0 (by decide) (by decide) I4 (fun z hz => by omega) (fun _ _ => rfl)
  have hF9 : FS I4 I9 := ⟨fun q hq => hI9 q hq.2.1, fun z _ => by rw [hI9 264 (by decide)], fun z _ => by rw [hI9 265 (by decide)], fun j _ => by rw [hI9 253 (by decide)]⟩
  have hM9 : MR R1 I9 254 0 n 0 T := hM4.mvB (a := 259) 0 (Nat.zero_le _) (FB.ar hI9 (by decide)) (by decide) (by rw [hI9 253 (by decide)]; exact hM4.at_)
  have hf9 : I9 253 11 = iI (-1) := by rw [hI9 253 (by decide)]; exact hf4
  have hd9 : I9 253 12 = nI dp := by rw [hI9 253 (by decide)]; exact hd4
  have hQ0 : RQ_ I9 usQ := by
    refine ⟨by rw [hI9 253 (by decide), e4, upd_at]; rfl, by rw [hI9 253 (by decide), e4, upd_nj _ _ (by decide), e3, upd_nj _ _ (by decide), e2, upd_at]; rfl, by rw [hI9 253 (by decide), e4, upd_nj _ _ (by decide), e3, upd_at]; rfl, ⟨by decide, by decide, by decide⟩, fun z hz => ?_, fun k w hk => absurd hk (by show ¬ k < 0; omega), fun p w hp => absurd hp (by show ¬ p < 0; omega)⟩
    rw [hu z hz]
    have : z = 0 ∨ z = 1 ∨ z = 2 := by omega
    rcases this with e | e | e <;> subst e <;> rfl
  refine Sx.iconst (v := (nI 1)) dX12_readPort_53 (by decide) ?_
  refine Sx.istore_n (lv' := [(1, .int (nI 1)), (0, .ref 253)]) dX12_readPort_54 (by decide) rfl ?_
  exact l_rport W (fun z I2 g f => hno z I2 R1 hR1 ((hF4.tr hF9).tr g) f) (fun z I2 g f p => hyes z I2 R1 hR1 ((hF4.tr hF9).tr g) f p) 15 14 (by decide) I9 0 usQ rfl (by decide) ⟨by decide, by decide, by decide⟩ usQ_L hM9 hf9 hd9 (FS.rf I9) hQ0
