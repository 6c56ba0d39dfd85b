/-! the reference reads laws: clauses, the whole -/
theorem pz_all {G : Gt} {l : Launch} {Z : Zt} {R : Rt} {L : Lt} {tx b n : Nat} {T : Nat → Nat} {e : Nat → Int} (W : WF Z R) (hE0 : ∀ s, bd6 (e s)) : ∀ k, PzAll G l Z R L tx b n T e k
  | 0 => ⟨fun {_} {_} {_} {_} {_} _ _ _ _ _ _ hk _ _ => by omega, fun {_} {_} {_} {_} {_} _ _ _ _ _ _ hk _ _ => by omega, fun {_} {_} {_} {_} {_} _ _ _ _ _ _ hk _ _ => by omega, fun {_} {_} {_} {_} {_} _ _ _ _ _ _ hk _ _ => by omega, fun {_} {_} {_} {_} {_} _ _ _ _ _ _ hk _ _ => by omega, fun {_} {_} {_} {_} {_} _ _ _ _ _ _ hk _ _ => by omega, fun {_} {_} {_} {_} {_} _ _ _ _ _ _ hk _ _ => by omega, fun {_} {_} {_} {_} {_} _ _ _ _ _ _ hk _ _ => by omega, fun {_} {_} {_} {_} {_} _ _ _ _ _ _ hk _ _ => by omega, fun {_} {_} {_} {_} {_} _ _ _ _ _ _ hk _ _ => by omega, fun {_} {_} {_} {_} {_} _ _ _ _ _ _ hk _ _ => by omega, fun {_} {_} {_} {_} {_} _ _ _ _ _ _ hk _ _ => by omega, fun {_} {_} {_} {_} {_} _ _ _ _ _ _ hk _ _ => by omega, fun {_} {_} {_} {_} {_} _ _ _ _ _ _ hk _ _ => by omega, fun {_} {_} {_} {_} {_} _ _ _ _ _ _ hk _ _ => by omega⟩
  | k + 1 => by
    have ih := pz_all (L := L) (G := G) (l := l) (tx := tx) (b := b) (n := n) (T := T) W hE0 k
    exact ⟨s_atom W hE0 k ih, s_term W hE0 k ih, s_sum W hE0 k ih, s_cmp W hE0 k ih, s_unit W hE0 k ih, s_part W hE0 k ih, s_cond W hE0 k ih, s_l7 W hE0 k ih, s_l8 W hE0 k ih, s_l9 W hE0 k ih, s_l10 W hE0 k ih, s_c13 W hE0 k ih, s_cmp1 W hE0 k ih (s_c13 W hE0 k ih), s_part1 W hE0 k ih, s_cond1 W hE0 k ih⟩
/-- what a clause writes -/
def FC (I I' : It) : Prop := (∀ q, q ≠ 253 → I' q = I q) ∧ ∀ j, j ≠ 10 ∧ j ≠ 11 ∧ j ≠ 12 ∧ j ≠ 14 ∧ j ≠ 17 → I' 253 j = I 253 j
theorem FC.rf (I : It) : FC I I := ⟨fun _ _ => rfl, fun _ _ => rfl⟩
theorem FC.tr {I J K : It} (h : FC I J) (g : FC J K) : FC I K := ⟨fun q hq => (g.1 q hq).trans (h.1 q hq), fun j hj => (g.2 j hj).trans (h.2 j hj)⟩
theorem FA.fc {I J : It} (h : FA I J) : FC I J := ⟨h.1, fun j hj => h.2 j (by omega)⟩
theorem FC.fs {I J : It} (h : FC I J) : FS I J := ⟨fun q hq => h.1 q hq.1, fun z _ => by rw [h.1 264 (by decide)], fun z _ => by rw [h.1 265 (by decide)], fun j hj => h.2 j (by unfold fsJ at hj; omega)⟩
theorem FC.up {I I' : It} {j : Nat} {x : Int32} (hj : j = 14 ∨ j = 17) (e : I' 253 = upd (I 253) j x) (o : ∀ q, q ≠ 253 → I' q = I q) : FC I I' := ⟨o, fun k hk => by rw [e, upd_nj _ _ (by omega)]⟩
theorem EL.fc {I I' : It} {e : Nat → Int} (h : EL I e) (F : FC I I') : EL I' e := fun s hs => by rw [F.1 257 (by decide)]; exact h s hs
def FO (I : It) (o : Option Int) : Prop := match o with
  | none => I 253 17 = nI 0 ∧ I 253 14 = iI 0
  | some w => I 253 17 = nI 1 ∧ I 253 14 = iI w
theorem FO.of {I I' : It} {o : Option Int} (h : FO I o) (h1 : I' 253 17 = I 253 17) (h2 : I' 253 14 = I 253 14) : FO I' o := by
  cases o with
  | none => exact ⟨h1.trans h.1, h2.trans h.2⟩
  | some w => exact ⟨h1.trans h.1, h2.trans h.2⟩
theorem FO.fa {I I' : It} {o : Option Int} (h : FO I o) (F : FA I I') : FO I' o := h.of (F.2 17 (by decide)) (F.2 14 (by decide))
theorem FO.n {I : It} {o : Option Int} (h : FO I o) (c : (I 253 17).toInt = 0) : o = none := by
  cases o with
  | none => rfl
  | some w => rw [h.1] at c; exact absurd c (by decide)
theorem FO.s {I : It} {o : Option Int} (h : FO I o) (c : ¬ (I 253 17).toInt = 0) (x : Option Int) : o.or x = o := by
  cases o with
  | none => rw [h.1] at c; exact absurd (by decide) c
  | some w => rfl
theorem y_is : ∀ s, s < 256 → (spN 0 (nI s) ≠ 0 ↔ s = 121) := by decide +kernel
theorem or_none' (o : Option Int) : o.or none = o := by cases o <;> rfl
set_option maxRecDepth 20000 in
set_option maxHeartbeats 1000000 in
theorem l_c134 {G : Gt} {l : Launch} {Z : Zt} {R : Rt} {I : It} {L : Lt} {post : Pt'} {tx b n q : Nat} {T : Nat → Nat} {v : Int} {bb : Bool} {o : Option Int} (W : WF Z R) (hM : MR R I tx b n q T) (hf : I 253 11 = iI (-1)) (hd : I 253 12 = nI 0) (hlb : I 253 13 = nI 121) (hFO : FO I o)
    (h : ∀ I', FC I I' → MR R I' tx b n q T → I' 253 11 = iI (-1) → I' 253 12 = nI 0 → FO I' (o.or (if bb = true then some v else none)) → post none Z R I' L) : Sx G l mX12_clause 31 0 0 134 [(1, .int (nI 121)), (2, .int (b2i bb)), (3, .int (iI v)), (0, .ref 253)] [] Z R I L post := by
  refine Sx.aload_n dX12_clause_134 rfl ?_
  refine Sx.getfV (v := (iI (-1))) dX12_clause_135 lkf_X12_141_12 (o_253 W) hf ?_
  refine Sx.iconst (v := (iI (-1))) dX12_clause_138 (by decide) ?_
  refine Sx.icmp_neV (t := 161) dX12_clause_139 (by decide) (vZ (by decide)) (vZ (by decide)) (fun c139 => False.elim (by omega)) (fun c139 => ?_)
  refine Sx.aload_n dX12_clause_142 rfl ?_
  refine Sx.getfI dX12_clause_143 lkf_X12_210_12 (o_253 W) ?_
  refine Sx.if_neV (t := 161) dX12_clause_146 (by decide) (vX (I 253 17)) (fun c146 => ?_) (fun c146 => ?_)
  · refine Sx.vret dX12_clause_161 rfl ?_
    exact h I (FC.rf I) hM hf hd (by rw [hFO.s c146]; exact hFO)
  · refine Sx.iload_n dX12_clause_149 rfl ?_
    refine Sx.aload_n dX12_clause_150 rfl ?_
    refine Sx.getfV (v := (nI 121)) dX12_clause_151 lkf_X12_214_12 (o_253 W) hlb ?_
    refine Sx.icmp_neV (t := 161) dX12_clause_154 (by decide) (vN (by decide)) (vN (by decide)) (fun c154 => False.elim (by omega)) (fun c154 => ?_)
    refine Sx.iload_n dX12_clause_157 rfl ?_
    refine Sx.if_neB (t := 162) dX12_clause_158 (by decide) (fun c158 => ?_) (fun c158 => ?_)
    · refine Sx.aload_n dX12_clause_162 rfl ?_
      refine Sx.iconst (v := (nI 1)) dX12_clause_163 (by decide) ?_
      refine Sx.putfV dX12_clause_164 lkp_X12_210_12 (o_253 W) rfl rfl (fun I1 e1 o1 => ?_)
      have hG1 := FC.tr (FA.fc (FA.rf I)) (FC.up (by decide) e1 o1)
      have hM1 := hM.fld (by decide) e1 o1
      have hf1 := Eq.trans (by rw [e1, upd_nj _ _ (by decide)] : I1 253 11 = I 253 11) hf
      have hd1 := Eq.trans (by rw [e1, upd_nj _ _ (by decide)] : I1 253 12 = I 253 12) hd
      refine Sx.aload_n dX12_clause_167 rfl ?_
      refine Sx.iload_n dX12_clause_168 rfl ?_
      refine Sx.putfV dX12_clause_169 lkp_X12_217_12 (o_253 W) rfl rfl (fun I2 e2 o2 => ?_)
      have hG2 := FC.tr hG1 (FC.up (by decide) e2 o2)
      have hM2 := hM1.fld (by decide) e2 o2
      have hf2 := Eq.trans (by rw [e2, upd_nj _ _ (by decide)] : I2 253 11 = I1 253 11) hf1
      have hd2 := Eq.trans (by rw [e2, upd_nj _ _ (by decide)] : I2 253 12 = I1 253 12) hd1
      refine Sx.vret dX12_clause_172 rfl ?_
      exact h I2 hG2 hM2 hf2 hd2 (by rw [hFO.n c146, if_pos c158]; exact ⟨by rw [e2, upd_nj _ _ (by decide), e1, upd_at], by rw [e2, upd_at]⟩)
    · refine Sx.vret dX12_clause_161 rfl ?_
      exact h I (FC.rf I) hM hf hd (by rw [c158, if_neg (by decide), or_none']; exact hFO)
set_option maxRecDepth 20000 in
set_option maxHeartbeats 1000000 in
theorem l_c134q {G : Gt} {l : Launch} {Z : Zt} {R : Rt} {I : It} {L : Lt} {post : Pt'} {q : Nat} (W : WF Z R) (hf : I 253 11 = nI q) (hq : q < 1000) (h : post none Z R I L) : Sx G l mX12_clause 31 0 0 134 [(0, .ref 253)] [] Z R I L post := by
  refine Sx.aload_n dX12_clause_134 rfl ?_
  refine Sx.getfV (v := (nI q)) dX12_clause_135 lkf_X12_141_12 (o_253 W) hf ?_
  refine Sx.iconst (v := (iI (-1))) dX12_clause_138 (by decide) ?_
  refine Sx.icmp_neV (t := 161) dX12_clause_139 (by decide) (vN (by omega)) (vZ (by decide)) (fun c139 => ?_) (fun c139 => False.elim (by omega))
  refine Sx.vret dX12_clause_161 rfl ?_
  exact h
set_option maxRecDepth 20000 in
set_option maxHeartbeats 1000000 in
theorem l_c71 {G : Gt} {l : Launch} {Z : Zt} {R : Rt} {I : It} {L : Lt} {post : Pt'} {tx b n k : Nat} {T : Nat → Nat} {e : Nat → Int} {o : Option Int} {rr : Bool × Nat × Int} {r : Bool × Nat × Option Int} (W : WF Z R) (hE0 : ∀ s, bd6 (e s)) (hr1 : rr.1 = true) (hM : MR R I tx b n rr.2.1 T) (hf : I 253 11 = iI (-1)) (hd : I 253 12 = nI 0) (hE : EL I e) (hlb : I 253 13 = nI 121) (hFO : FO I o) (hk : 3900 ≤ k) (hR : pcl.pclQ T n e k rr = r)
    (hno : r.1 = false → ∀ I', FC I I' → I' 253 11 = nI r.2.1 → post none Z R I' L)
    (hyes : r.1 = true → ∀ I', FC I I' → MR R I' tx b n r.2.1 T → I' 253 11 = iI (-1) → I' 253 12 = nI 0 → rr.2.1 ≤ r.2.1 → FO I' (o.or r.2.2) → post none Z R I' L) : Sx G l mX12_clause 31 0 0 71 [(1, .int (nI 121)), (2, .int (b2i (decide (rr.2.2 ≠ 0)))), (0, .ref 253)] [] Z R I L post := by
  have ih := pz_all (L := L) (G := G) (l := l) (tx := tx) (b := b) (n := n) (T := T) W hE0 k
  obtain ⟨hAt, hTe, hSu, hCo, hUn, hPa, hCn, hL7, hL8, hL9, hL10, hK, hC1, hP1, hD1⟩ := ih
  have hn0 := hM.2.2.2.2.2.1
  have hc0 := hM.2.2.2.2.2.2.1
  have hRt := hM.1
  refine Sx.aload_n dX12_clause_71 rfl ?_
  refine Sx.bipush (v := (nI 63)) dX12_clause_72 (by decide) ?_
  refine Sx.callV1 dX12_clause_74 lkv_X12_177 (rcv_12 (o_253 W)) (by omega) (by decide) (Nat.le_of_ble_eq_true rfl) rfl rfl (k_takes W hM hf hd (by decide) (fun x1 I1 g1 f1 => ?_) (fun x1 I1 g1 hM1 f1 d1 => ?_))
  · skip
    have hF1 := (FA.rf I).tr g1
    have hxx1 := nx_b T n rr.2.1
    refine Sx.if_neB (t := 81) dX12_clause_77 (by decide) (fun c77 => False.elim (by cases c77)) (fun c77 => ?_)
    refine Sx.vret dX12_clause_80 rfl ?_
    rw [pcl.pclQ, if_neg (by rw [hr1]; decide), if_pos x1] at hR
    subst hR
    exact hno rfl I1 (FA.fc hF1) f1
  · skip
    have hF1 := (FA.rf I).tr g1
    have hxx1 := nx_b T n rr.2.1
    have hss1 := sgn_or T n (nx T n rr.2.1)
    have hk1 := lkN_or T n (nx T n rr.2.1 + 1)
    have ht1 := hM1.2.2.2.2.2.2.2.1 (nx T n rr.2.1 + 1)
    have hc1 := hM1.2.2.2.2.2.2.1
    have hn1 := hM1.2.2.2.2.2.1
    have hs1 := sgn_or T n (nx T n rr.2.1 + 1)
    refine Sx.if_neB (t := 81) dX12_clause_77 (by decide) (fun c77 => ?_) (fun c77 => False.elim (by cases c77))
    refine Sx.aload_n dX12_clause_81 rfl ?_
    refine Sx.callV0 dX12_clause_82 lkv_X12_174 (rcv_12 (o_253 W)) (by omega) (by decide) (Nat.le_of_ble_eq_true rfl) rfl rfl (hSu (v := 0) hM1 f1 d1 (by omega) (hE.fa hF1) bd6_0 (by omega) (fun x2 I2 v2 g2 f2 => ?_) (fun x2 I2 g2 hM2 f2 d2 => ?_))
    · skip
      have hF2 := (hF1).tr g2
      have hq2 := pz_q (T := T) (e := e) k 2 0 (nx T n rr.2.1 + 1) 0 hM1.2.2.2.2.2.2.1
      refine Sx.istore_n (lv' := [(3, .int v2), (1, .int (nI 121)), (2, .int (b2i (decide (rr.2.2 ≠ 0)))), (0, .ref 253)]) dX12_clause_85 (by decide) rfl ?_
      refine Sx.goto (t := 134) dX12_clause_86 (by decide) ?_
      rw [pcl.pclQ, if_neg (by rw [hr1]; decide), if_neg (fun q => q x1), if_pos x2] at hR
      subst hR
      refine Sx.sub' [(0, .ref 253)] rfl ?_
      exact l_c134q W f2 (by omega) (hno rfl I2 (FA.fc hF2) f2)
    · skip
      have hF2 := (hF1).tr g2
      obtain ⟨hp2, hb2⟩ := pz_bd hE0 k 2 0 (nx T n rr.2.1 + 1) 0 bd6_0 x2
      have hbb2 : -1000000 ≤ (pz T n e k 2 0 (nx T n rr.2.1 + 1) 0).2.2 ∧ (pz T n e k 2 0 (nx T n rr.2.1 + 1) 0).2.2 ≤ 1000000 := hb2
      have hk2 := lkN_or T n ((pz T n e k 2 0 (nx T n rr.2.1 + 1) 0).2.1)
      have ht2 := hM2.2.2.2.2.2.2.2.1 ((pz T n e k 2 0 (nx T n rr.2.1 + 1) 0).2.1)
      have hc2 := hM2.2.2.2.2.2.2.1
      have hn2 := hM2.2.2.2.2.2.1
      have hs2 := sgn_or T n ((pz T n e k 2 0 (nx T n rr.2.1 + 1) 0).2.1)
      refine Sx.istore_n (lv' := [(3, .int (iI ((pz T n e k 2 0 (nx T n rr.2.1 + 1) 0).2.2))), (1, .int (nI 121)), (2, .int (b2i (decide (rr.2.2 ≠ 0)))), (0, .ref 253)]) dX12_clause_85 (by decide) rfl ?_
      refine Sx.goto (t := 134) dX12_clause_86 (by decide) ?_
      rw [pcl.pclQ, if_neg (by rw [hr1]; decide), if_neg (fun q => q x1), if_neg (by rw [x2]; decide)] at hR
      subst hR
      refine Sx.sub' [(1, .int (nI 121)), (2, .int (b2i (decide (rr.2.2 ≠ 0)))), (3, .int (iI (pz T n e k 2 0 (nx T n rr.2.1 + 1) 0).2.2)), (0, .ref 253)] rfl ?_
      refine l_c134 (o := o) W hM2 f2 d2 (((hF2).2 13 (by decide)).trans hlb) (hFO.fa hF2) (fun I9 F9 M9 f9 d9 O9 => hyes rfl I9 (FC.tr (FA.fc hF2) F9) M9 f9 d9 (by show rr.2.1 ≤ (pz T n e k 2 0 (nx T n rr.2.1 + 1) 0).2.1; omega) ?_)
      have hz9 : (if decide (rr.2.2 ≠ 0) = true then some (pz T n e k 2 0 (nx T n rr.2.1 + 1) 0).2.2 else none) = if rr.2.2 = 0 then none else some (pz T n e k 2 0 (nx T n rr.2.1 + 1) 0).2.2 := by
        by_cases z : rr.2.2 = 0
        · rw [if_pos z, if_neg (by rw [decide_eq_false (fun q => q z)]; decide)]
        · rw [if_neg z, if_pos (decide_eq_true z)]
      show FO I9 (o.or (if rr.2.2 = 0 then none else some (pz T n e k 2 0 (nx T n rr.2.1 + 1) 0).2.2))
      rw [← hz9]
      exact O9
set_option maxRecDepth 20000 in
set_option maxHeartbeats 1000000 in
theorem l_c119 {G : Gt} {l : Launch} {Z : Zt} {R : Rt} {I : It} {L : Lt} {post : Pt'} {tx b n k : Nat} {T : Nat → Nat} {e : Nat → Int} {o : Option Int} {rr : Bool × Nat × Int} {r : Bool × Nat × Option Int} (W : WF Z R) (hE0 : ∀ s, bd6 (e s)) (hr1 : rr.1 = true) (hM : MR R I tx b n rr.2.1 T) (hf : I 253 11 = iI (-1)) (hd : I 253 12 = nI 0) (hE : EL I e) (hlb : I 253 13 = nI 121) (hFO : FO I o) (hk : 3900 ≤ k) (hR : pcl.pclQ T n e k rr = r)
    (hno : r.1 = false → ∀ I', FC I I' → I' 253 11 = nI r.2.1 → post none Z R I' L)
    (hyes : r.1 = true → ∀ I', FC I I' → MR R I' tx b n r.2.1 T → I' 253 11 = iI (-1) → I' 253 12 = nI 0 → rr.2.1 ≤ r.2.1 → FO I' (o.or r.2.2) → post none Z R I' L) : Sx G l mX12_clause 31 0 0 119 [(1, .int (nI 121)), (2, .int (b2i (decide (rr.2.2 ≠ 0)))), (0, .ref 253)] [] Z R I L post := by
  have ih := pz_all (L := L) (G := G) (l := l) (tx := tx) (b := b) (n := n) (T := T) W hE0 k
  obtain ⟨hAt, hTe, hSu, hCo, hUn, hPa, hCn, hL7, hL8, hL9, hL10, hK, hC1, hP1, hD1⟩ := ih
  have hn0 := hM.2.2.2.2.2.1
  have hc0 := hM.2.2.2.2.2.2.1
  have hRt := hM.1
  refine Sx.aload_n dX12_clause_119 rfl ?_
  refine Sx.bipush (v := (nI 63)) dX12_clause_120 (by decide) ?_
  refine Sx.callV1 dX12_clause_122 lkv_X12_177 (rcv_12 (o_253 W)) (by omega) (by decide) (Nat.le_of_ble_eq_true rfl) rfl rfl (k_takes W hM hf hd (by decide) (fun x1 I1 g1 f1 => ?_) (fun x1 I1 g1 hM1 f1 d1 => ?_))
  · skip
    have hF1 := (FA.rf I).tr g1
    have hxx1 := nx_b T n rr.2.1
    refine Sx.if_neB (t := 129) dX12_clause_125 (by decide) (fun c125 => False.elim (by cases c125)) (fun c125 => ?_)
    refine Sx.vret dX12_clause_128 rfl ?_
    rw [pcl.pclQ, if_neg (by rw [hr1]; decide), if_pos x1] at hR
    subst hR
    exact hno rfl I1 (FA.fc hF1) f1
  · skip
    have hF1 := (FA.rf I).tr g1
    have hxx1 := nx_b T n rr.2.1
    have hss1 := sgn_or T n (nx T n rr.2.1)
    have hk1 := lkN_or T n (nx T n rr.2.1 + 1)
    have ht1 := hM1.2.2.2.2.2.2.2.1 (nx T n rr.2.1 + 1)
    have hc1 := hM1.2.2.2.2.2.2.1
    have hn1 := hM1.2.2.2.2.2.1
    have hs1 := sgn_or T n (nx T n rr.2.1 + 1)
    refine Sx.if_neB (t := 129) dX12_clause_125 (by decide) (fun c125 => ?_) (fun c125 => False.elim (by cases c125))
    refine Sx.aload_n dX12_clause_129 rfl ?_
    refine Sx.callV0 dX12_clause_130 lkv_X12_174 (rcv_12 (o_253 W)) (by omega) (by decide) (Nat.le_of_ble_eq_true rfl) rfl rfl (hSu (v := 0) hM1 f1 d1 (by omega) (hE.fa hF1) bd6_0 (by omega) (fun x2 I2 v2 g2 f2 => ?_) (fun x2 I2 g2 hM2 f2 d2 => ?_))
    · skip
      have hF2 := (hF1).tr g2
      have hq2 := pz_q (T := T) (e := e) k 2 0 (nx T n rr.2.1 + 1) 0 hM1.2.2.2.2.2.2.1
      refine Sx.istore_n (lv' := [(3, .int v2), (1, .int (nI 121)), (2, .int (b2i (decide (rr.2.2 ≠ 0)))), (0, .ref 253)]) dX12_clause_133 (by decide) rfl ?_
      rw [pcl.pclQ, if_neg (by rw [hr1]; decide), if_neg (fun q => q x1), if_pos x2] at hR
      subst hR
      refine Sx.sub' [(0, .ref 253)] rfl ?_
      exact l_c134q W f2 (by omega) (hno rfl I2 (FA.fc hF2) f2)
    · skip
      have hF2 := (hF1).tr g2
      obtain ⟨hp2, hb2⟩ := pz_bd hE0 k 2 0 (nx T n rr.2.1 + 1) 0 bd6_0 x2
      have hbb2 : -1000000 ≤ (pz T n e k 2 0 (nx T n rr.2.1 + 1) 0).2.2 ∧ (pz T n e k 2 0 (nx T n rr.2.1 + 1) 0).2.2 ≤ 1000000 := hb2
      have hk2 := lkN_or T n ((pz T n e k 2 0 (nx T n rr.2.1 + 1) 0).2.1)
      have ht2 := hM2.2.2.2.2.2.2.2.1 ((pz T n e k 2 0 (nx T n rr.2.1 + 1) 0).2.1)
      have hc2 := hM2.2.2.2.2.2.2.1
      have hn2 := hM2.2.2.2.2.2.1
      have hs2 := sgn_or T n ((pz T n e k 2 0 (nx T n rr.2.1 + 1) 0).2.1)
      refine Sx.istore_n (lv' := [(3, .int (iI ((pz T n e k 2 0 (nx T n rr.2.1 + 1) 0).2.2))), (1, .int (nI 121)), (2, .int (b2i (decide (rr.2.2 ≠ 0)))), (0, .ref 253)]) dX12_clause_133 (by decide) rfl ?_
      rw [pcl.pclQ, if_neg (by rw [hr1]; decide), if_neg (fun q => q x1), if_neg (by rw [x2]; decide)] at hR
      subst hR
      refine Sx.sub' [(1, .int (nI 121)), (2, .int (b2i (decide (rr.2.2 ≠ 0)))), (3, .int (iI (pz T n e k 2 0 (nx T n rr.2.1 + 1) 0).2.2)), (0, .ref 253)] rfl ?_
      refine l_c134 (o := o) W hM2 f2 d2 (((hF2).2 13 (by decide)).trans hlb) (hFO.fa hF2) (fun I9 F9 M9 f9 d9 O9 => hyes rfl I9 (FC.tr (FA.fc hF2) F9) M9 f9 d9 (by show rr.2.1 ≤ (pz T n e k 2 0 (nx T n rr.2.1 + 1) 0).2.1; omega) ?_)
      have hz9 : (if decide (rr.2.2 ≠ 0) = true then some (pz T n e k 2 0 (nx T n rr.2.1 + 1) 0).2.2 else none) = if rr.2.2 = 0 then none else some (pz T n e k 2 0 (nx T n rr.2.1 + 1) 0).2.2 := by
        by_cases z : rr.2.2 = 0
        · rw [if_pos z, if_neg (by rw [decide_eq_false (fun q => q z)]; decide)]
        · rw [if_neg z, if_pos (decide_eq_true z)]
      show FO I9 (o.or (if rr.2.2 = 0 then none else some (pz T n e k 2 0 (nx T n rr.2.1 + 1) 0).2.2))
      rw [← hz9]
      exact O9
set_option maxRecDepth 20000 in
set_option maxHeartbeats 1000000 in
theorem k_clause {G : Gt} {l : Launch} {Z : Zt} {R : Rt} {I : It} {L : Lt} {post : Pt'} {tx b n c k : Nat} {T : Nat → Nat} {e : Nat → Int} {o : Option Int} {r : Bool × Nat × Option Int} (W : WF Z R) (hE0 : ∀ s, bd6 (e s)) (hM : MR R I tx b n c T) (hf : I 253 11 = iI (-1)) (hd : I 253 12 = nI 0) (hE : EL I e) (hlb : I 253 13 = nI 121) (hFO : FO I o) (hk : 3900 ≤ k) (hR : pcl T n e k c = r) (hno : r.1 = false → ∀ I', FC I I' → I' 253 11 = nI r.2.1 → post none Z R I' L) (hyes : r.1 = true → ∀ I', FC I I' → MR R I' tx b n r.2.1 T → I' 253 11 = iI (-1) → I' 253 12 = nI 0 → c ≤ r.2.1 → FO I' (o.or r.2.2) → post none Z R I' L) : Cx G l mX12_clause 31 0 0 [.ref 253] Z R I L post := by
  refine Cx.of (by decide +kernel) (by exact Nat.le_of_ble_eq_true rfl) ?_
  have ih := pz_all (L := L) (G := G) (l := l) (tx := tx) (b := b) (n := n) (T := T) W hE0 k
  obtain ⟨hAt, hTe, hSu, hCo, hUn, hPa, hCn, hL7, hL8, hL9, hL10, hK, hC1, hP1, hD1⟩ := ih
  have hn0 := hM.2.2.2.2.2.1
  have hc0 := hM.2.2.2.2.2.2.1
  have hRt := hM.1
  refine Sx.aload_n dX12_clause_0 rfl ?_
  refine Sx.callV0 dX12_clause_1 lkv_X12_151 (rcv_12 (o_253 W)) (by omega) (by decide) (Nat.le_of_ble_eq_true rfl) rfl rfl (k_look W hM (fun I1 hM1 g1 f1 d1 => ?_))
  have hF1 := (FA.rf I).tr g1
  have hf1 := f1.trans hf
  have hd1 := d1.trans hd
  have hx1 := nx_b T n c
  have hk1 := lkN_or T n (nx T n c)
  have ht1 := hM1.2.2.2.2.2.2.2.1 (nx T n c)
  have hc1 := hM1.2.2.2.2.2.2.1
  have hn1 := hM1.2.2.2.2.2.1
  have hs1 := sgn_or T n (nx T n c)
  refine Sx.istore_n (lv' := [(1, .int (iI (lkN T n (nx T n c)))), (0, .ref 253)]) dX12_clause_4 (by decide) rfl ?_
  refine Sx.ldcS (k := 0) dX12_clause_5 rfl (by decide) rfl ?_
  refine Sx.iload_n dX12_clause_7 rfl ?_
  refine Sx.callS2 dX12_clause_8 lkc_X12_167  (by omega) (by decide) (Nat.le_of_ble_eq_true rfl) rfl rfl (k_amLk (k0 := 0) (by decide) ?_)
  refine Sx.if_neD (t := 20) dX12_clause_11 (by decide) (fun c11 => ?_) (fun c11 => ?_)
  · have hy : sgn T n (nx T n c) = 121 := (y_is _ (by omega)).mp c11
    refine Sx.aload_n dX12_clause_20 rfl ?_
    refine Sx.dup dX12_clause_21 rfl ?_
    refine Sx.getfV (v := (nI (nx T n c))) dX12_clause_22 lkf_X12_132_12 (o_253 W) hM1.at_ ?_
    refine Sx.iconst (v := (nI 1)) dX12_clause_25 (by decide) ?_
    refine Sx.iaddN dX12_clause_26 ?_
    refine Sx.putfV dX12_clause_27 lkp_X12_132_12 (o_253 W) rfl rfl (fun I2 e2 o2 => ?_)
    have hM2 : MR R I2 tx b n ((nx T n c) + 1) T := hM1.mv ((nx T n c) + 1) (by omega) (FA.up (by decide) e2 o2) (by rw [e2, upd_at])
    have hF2 := (hF1).tr (FA.up (by decide) e2 o2)
    have hf2 := Eq.trans (by rw [e2, upd_nj _ _ (by decide)] : I2 253 11 = I1 253 11) hf1
    have hd2 := Eq.trans (by rw [e2, upd_nj _ _ (by decide)] : I2 253 12 = I1 253 12) hd1
    have hk2 := lkN_or T n ((nx T n c) + 1)
    have ht2 := hM2.2.2.2.2.2.2.2.1 ((nx T n c) + 1)
    have hc2 := hM2.2.2.2.2.2.2.1
    have hn2 := hM2.2.2.2.2.2.1
    have hs2 := sgn_or T n ((nx T n c) + 1)
    refine Sx.aload_n dX12_clause_30 rfl ?_
    refine Sx.bipush (v := (nI 58)) dX12_clause_31 (by decide) ?_
    refine Sx.callV1 dX12_clause_33 lkv_X12_177 (rcv_12 (o_253 W)) (by omega) (by decide) (Nat.le_of_ble_eq_true rfl) rfl rfl (k_takes W hM2 hf2 hd2 (by decide) (fun x3 I3 g3 f3 => ?_) (fun x3 I3 g3 hM3 f3 d3 => ?_))
    · skip
      have hF3 := (hF2).tr g3
      have hxx3 := nx_b T n ((nx T n c) + 1)
      refine Sx.if_neB (t := 40) dX12_clause_36 (by decide) (fun c36 => False.elim (by cases c36)) (fun c36 => ?_)
      refine Sx.vret dX12_clause_39 rfl ?_
      rw [pcl, if_neg (show ¬ sgn T n (nx T n c) ≠ 121 from fun q => q hy), if_pos x3] at hR
      subst hR
      exact hno rfl I3 (FA.fc hF3) f3
    · skip
      have hF3 := (hF2).tr g3
      have hxx3 := nx_b T n ((nx T n c) + 1)
      have hss3 := sgn_or T n (nx T n ((nx T n c) + 1))
      have hk3 := lkN_or T n (nx T n ((nx T n c) + 1) + 1)
      have ht3 := hM3.2.2.2.2.2.2.2.1 (nx T n ((nx T n c) + 1) + 1)
      have hc3 := hM3.2.2.2.2.2.2.1
      have hn3 := hM3.2.2.2.2.2.1
      have hs3 := sgn_or T n (nx T n ((nx T n c) + 1) + 1)
      refine Sx.if_neB (t := 40) dX12_clause_36 (by decide) (fun c36 => ?_) (fun c36 => False.elim (by cases c36))
      refine Sx.iconst (v := (nI 1)) dX12_clause_40 (by decide) ?_
      refine Sx.istore_n (lv' := [(2, .int (nI 1)), (1, .int (iI (lkN T n (nx T n c)))), (0, .ref 253)]) dX12_clause_41 (by decide) rfl ?_
      refine Sx.iconst (v := (nI 0)) dX12_clause_42 (by decide) ?_
      refine Sx.istore_n (lv' := [(3, .int (nI 0)), (2, .int (nI 1)), (1, .int (iI (lkN T n (nx T n c)))), (0, .ref 253)]) dX12_clause_43 (by decide) rfl ?_
      refine Sx.aload_n dX12_clause_44 rfl ?_
      refine Sx.callV0 dX12_clause_45 lkv_X12_151 (rcv_12 (o_253 W)) (by omega) (by decide) (Nat.le_of_ble_eq_true rfl) rfl rfl (k_look W hM3 (fun I4 hM4 g4 f4 d4 => ?_))
      have hF4 := (hF3).tr g4
      have hf4 := f4.trans f3
      have hd4 := d4.trans d3
      have hx4 := nx_b T n (nx T n ((nx T n c) + 1) + 1)
      have hk4 := lkN_or T n (nx T n (nx T n ((nx T n c) + 1) + 1))
      have ht4 := hM4.2.2.2.2.2.2.2.1 (nx T n (nx T n ((nx T n c) + 1) + 1))
      have hc4 := hM4.2.2.2.2.2.2.1
      have hn4 := hM4.2.2.2.2.2.1
      have hs4 := sgn_or T n (nx T n (nx T n ((nx T n c) + 1) + 1))
      refine Sx.istore (lv' := [(4, .int (iI (lkN T n (nx T n (nx T n ((nx T n c) + 1) + 1))))), (3, .int (nI 0)), (2, .int (nI 1)), (1, .int (iI (lkN T n (nx T n c)))), (0, .ref 253)]) dX12_clause_48 (by decide) rfl ?_
      refine Sx.iload dX12_clause_50 rfl ?_
      refine Sx.bipush (v := (nI 33)) dX12_clause_52 (by decide) ?_
      refine Sx.icmp_eqV (t := 64) dX12_clause_54 (by decide) (vZ (by omega)) (vN (by decide)) (fun c54 => ?_) (fun c54 => ?_)
      · refine Sx.aload_n dX12_clause_64 rfl ?_
        refine Sx.iconst (v := (nI 0)) dX12_clause_65 (by decide) ?_
        refine Sx.iconst (v := (nI 0)) dX12_clause_66 (by decide) ?_
        refine Sx.callV2 dX12_clause_67 lkv_X12_200 (rcv_12 (o_253 W)) (by omega) (by decide) (Nat.le_of_ble_eq_true rfl) rfl rfl (hCn (v := 0) hM4 hf4 hd4 (by omega) (hE.fa hF4) bd6_0 (by omega) (fun x5 I5 v5 g5 f5 => ?_) (fun x5 I5 g5 hM5 f5 d5 => ?_))
        · skip
          have hF5 := (hF4).tr g5
          have hq5 := pz_q (T := T) (e := e) k 6 0 (nx T n (nx T n ((nx T n c) + 1) + 1)) 0 hM4.2.2.2.2.2.2.1
          refine Sx.istore_n (lv' := [(2, .int (b2i v5)), (4, .int (iI (lkN T n (nx T n (nx T n ((nx T n c) + 1) + 1))))), (3, .int (nI 0)), (1, .int (iI (lkN T n (nx T n c)))), (0, .ref 253)]) dX12_clause_70 (by decide) rfl ?_
          refine Sx.aload_n dX12_clause_71 rfl ?_
          refine Sx.bipush (v := (nI 63)) dX12_clause_72 (by decide) ?_
          refine Sx.callV1 dX12_clause_74 lkv_X12_177 (rcv_12 (o_253 W)) (by omega) (by decide) (Nat.le_of_ble_eq_true rfl) rfl rfl (k_takes2 W f5 (by omega) ?_)
          refine Sx.if_neB (t := 81) dX12_clause_77 (by decide) (fun c77 => False.elim (by cases c77)) (fun c77 => ?_)
          refine Sx.vret dX12_clause_80 rfl ?_
          rw [pcl, if_neg (show ¬ sgn T n (nx T n c) ≠ 121 from fun q => q hy), if_neg (fun q => q x3), pcl.pclB, if_pos (by omega), pcl.pclQ, if_pos x5] at hR
          subst hR
          exact hno rfl I5 (FA.fc hF5) f5
        · skip
          have hF5 := (hF4).tr g5
          obtain ⟨hp5, hb5⟩ := pz_bd hE0 k 6 0 (nx T n (nx T n ((nx T n c) + 1) + 1)) 0 bd6_0 x5
          have hbb5 : -1000000 ≤ (pz T n e k 6 0 (nx T n (nx T n ((nx T n c) + 1) + 1)) 0).2.2 ∧ (pz T n e k 6 0 (nx T n (nx T n ((nx T n c) + 1) + 1)) 0).2.2 ≤ 1000000 := hb5
          have hk5 := lkN_or T n ((pz T n e k 6 0 (nx T n (nx T n ((nx T n c) + 1) + 1)) 0).2.1)
          have ht5 := hM5.2.2.2.2.2.2.2.1 ((pz T n e k 6 0 (nx T n (nx T n ((nx T n c) + 1) + 1)) 0).2.1)
          have hc5 := hM5.2.2.2.2.2.2.1
          have hn5 := hM5.2.2.2.2.2.1
          have hs5 := sgn_or T n ((pz T n e k 6 0 (nx T n (nx T n ((nx T n c) + 1) + 1)) 0).2.1)
          refine Sx.istore_n (lv' := [(2, .int (b2i (decide ((pz T n e k 6 0 (nx T n (nx T n ((nx T n c) + 1) + 1)) 0).2.2 ≠ 0)))), (4, .int (iI (lkN T n (nx T n (nx T n ((nx T n c) + 1) + 1))))), (3, .int (nI 0)), (1, .int (iI (lkN T n (nx T n c)))), (0, .ref 253)]) dX12_clause_70 (by decide) rfl ?_
          rw [pcl, if_neg (show ¬ sgn T n (nx T n c) ≠ 121 from fun q => q hy), if_neg (fun q => q x3), pcl.pclB, if_pos (by omega)] at hR
          refine Sx.sub' [(1, .int (nI 121)), (2, .int (b2i (decide ((pz T n e k 6 0 (nx T n (nx T n ((nx T n c) + 1) + 1)) 0).2.2 ≠ 0)))), (0, .ref 253)] (by rw [show (iI (lkN T n (nx T n c))) = nI 121 from eZN (by omega)]; rfl) ?_
          exact l_c71 (rr := pz T n e k 6 0 (nx T n (nx T n ((nx T n c) + 1) + 1)) 0) (o := o) W hE0 x5 hM5 f5 d5 (hE.fa hF5) (((hF5).2 13 (by decide)).trans hlb) (hFO.fa hF5) hk hR (fun x I2 F f => hno x I2 (FC.tr (FA.fc hF5) F) f) (fun x I2 F M f d g O => hyes x I2 (FC.tr (FA.fc hF5) F) M f d (by omega) O)
      · refine Sx.iload dX12_clause_57 rfl ?_
        refine Sx.bipush (v := (nI 40)) dX12_clause_59 (by decide) ?_
        refine Sx.icmp_neV (t := 89) dX12_clause_61 (by decide) (vZ (by omega)) (vN (by decide)) (fun c61 => ?_) (fun c61 => ?_)
        · refine Sx.aload_n dX12_clause_89 rfl ?_
          refine Sx.callV0 dX12_clause_90 lkv_X12_174 (rcv_12 (o_253 W)) (by omega) (by decide) (Nat.le_of_ble_eq_true rfl) rfl rfl (hSu (v := 0) hM4 hf4 hd4 (by omega) (hE.fa hF4) bd6_0 (by omega) (fun x7 I7 v7 g7 f7 => ?_) (fun x7 I7 g7 hM7 f7 d7 => ?_))
          · skip
            have hF7 := (hF4).tr g7
            have hq7 := pz_q (T := T) (e := e) k 2 0 (nx T n (nx T n ((nx T n c) + 1) + 1)) 0 hM4.2.2.2.2.2.2.1
            refine Sx.istore_n (lv' := [(3, .int v7), (4, .int (iI (lkN T n (nx T n (nx T n ((nx T n c) + 1) + 1))))), (2, .int (nI 1)), (1, .int (iI (lkN T n (nx T n c)))), (0, .ref 253)]) dX12_clause_93 (by decide) rfl ?_
            refine Sx.aload_n dX12_clause_94 rfl ?_
            refine Sx.getfV (v := (nI ((pz T n e k 2 0 (nx T n (nx T n ((nx T n c) + 1) + 1)) 0).2.1))) dX12_clause_95 lkf_X12_141_12 (o_253 W) f7 ?_
            refine Sx.iconst (v := (iI (-1))) dX12_clause_98 (by decide) ?_
            refine Sx.icmp_neV (t := 134) dX12_clause_99 (by decide) (vN (by omega)) (vZ (by decide)) (fun c99 => ?_) (fun c99 => False.elim (by omega))
            rw [pcl, if_neg (show ¬ sgn T n (nx T n c) ≠ 121 from fun q => q hy), if_neg (fun q => q x3), pcl.pclB, if_neg (by omega), if_pos x7] at hR
            subst hR
            refine Sx.sub' [(0, .ref 253)] rfl ?_
            exact l_c134q W f7 (by omega) (hno rfl I7 (FA.fc hF7) f7)
          · skip
            have hF7 := (hF4).tr g7
            obtain ⟨hp7, hb7⟩ := pz_bd hE0 k 2 0 (nx T n (nx T n ((nx T n c) + 1) + 1)) 0 bd6_0 x7
            have hbb7 : -1000000 ≤ (pz T n e k 2 0 (nx T n (nx T n ((nx T n c) + 1) + 1)) 0).2.2 ∧ (pz T n e k 2 0 (nx T n (nx T n ((nx T n c) + 1) + 1)) 0).2.2 ≤ 1000000 := hb7
            have hk7 := lkN_or T n ((pz T n e k 2 0 (nx T n (nx T n ((nx T n c) + 1) + 1)) 0).2.1)
            have ht7 := hM7.2.2.2.2.2.2.2.1 ((pz T n e k 2 0 (nx T n (nx T n ((nx T n c) + 1) + 1)) 0).2.1)
            have hc7 := hM7.2.2.2.2.2.2.1
            have hn7 := hM7.2.2.2.2.2.1
            have hs7 := sgn_or T n ((pz T n e k 2 0 (nx T n (nx T n ((nx T n c) + 1) + 1)) 0).2.1)
            refine Sx.istore_n (lv' := [(3, .int (iI ((pz T n e k 2 0 (nx T n (nx T n ((nx T n c) + 1) + 1)) 0).2.2))), (4, .int (iI (lkN T n (nx T n (nx T n ((nx T n c) + 1) + 1))))), (2, .int (nI 1)), (1, .int (iI (lkN T n (nx T n c)))), (0, .ref 253)]) dX12_clause_93 (by decide) rfl ?_
            refine Sx.aload_n dX12_clause_94 rfl ?_
            refine Sx.getfV (v := (iI (-1))) dX12_clause_95 lkf_X12_141_12 (o_253 W) f7 ?_
            refine Sx.iconst (v := (iI (-1))) dX12_clause_98 (by decide) ?_
            refine Sx.icmp_neV (t := 134) dX12_clause_99 (by decide) (vZ (by decide)) (vZ (by decide)) (fun c99 => False.elim (by omega)) (fun c99 => ?_)
            refine Sx.aload_n dX12_clause_102 rfl ?_
            refine Sx.callV0 dX12_clause_103 lkv_X12_151 (rcv_12 (o_253 W)) (by omega) (by decide) (Nat.le_of_ble_eq_true rfl) rfl rfl (k_look W hM7 (fun I8 hM8 g8 f8 d8 => ?_))
            have hF8 := (hF7).tr g8
            have hf8 := f8.trans f7
            have hd8 := d8.trans d7
            have hx8 := nx_b T n ((pz T n e k 2 0 (nx T n (nx T n ((nx T n c) + 1) + 1)) 0).2.1)
            have hk8 := lkN_or T n (nx T n ((pz T n e k 2 0 (nx T n (nx T n ((nx T n c) + 1) + 1)) 0).2.1))
            have ht8 := hM8.2.2.2.2.2.2.2.1 (nx T n ((pz T n e k 2 0 (nx T n (nx T n ((nx T n c) + 1) + 1)) 0).2.1))
            have hc8 := hM8.2.2.2.2.2.2.1
            have hn8 := hM8.2.2.2.2.2.1
            have hs8 := sgn_or T n (nx T n ((pz T n e k 2 0 (nx T n (nx T n ((nx T n c) + 1) + 1)) 0).2.1))
            refine Sx.callS1 dX12_clause_106 lkc_X12_194  (by omega) (by decide) (Nat.le_of_ble_eq_true rfl) rfl rfl (k_isSign (by omega) ?_)
            refine Sx.if_eqD (t := 134) dX12_clause_109 (by decide) (fun c109 => ?_) (fun c109 => ?_)
            · rw [pcl, if_neg (show ¬ sgn T n (nx T n c) ≠ 121 from fun q => q hy), if_neg (fun q => q x3), pcl.pclB, if_neg (by omega), if_neg (by rw [x7]; decide), if_neg (by omega)] at hR
              subst hR
              refine Sx.sub' [(1, .int (nI 121)), (2, .int (b2i true)), (3, .int (iI (pz T n e k 2 0 (nx T n (nx T n ((nx T n c) + 1) + 1)) 0).2.2)), (0, .ref 253)] (by rw [show (iI (lkN T n (nx T n c))) = nI 121 from eZN (by omega)]; rfl) ?_
              exact l_c134 (o := o) W hM8 hf8 hd8 (((hF8).2 13 (by decide)).trans hlb) (hFO.fa hF8) (fun I9 F9 M9 f9 d9 O9 => hyes rfl I9 (FC.tr (FA.fc hF8) F9) M9 f9 d9 (by show c ≤ nx T n ((pz T n e k 2 0 (nx T n (nx T n ((nx T n c) + 1) + 1)) 0).2.1); omega) O9)
            · refine Sx.aload_n dX12_clause_112 rfl ?_
              refine Sx.iconst (v := (nI 1)) dX12_clause_113 (by decide) ?_
              refine Sx.iload_n dX12_clause_114 rfl ?_
              refine Sx.callV2 dX12_clause_115 lkv_X12_200 (rcv_12 (o_253 W)) (by omega) (by decide) (Nat.le_of_ble_eq_true rfl) rfl rfl (hD1 (v := (pz T n e k 2 0 (nx T n (nx T n ((nx T n c) + 1) + 1)) 0).2.2) hM8 hf8 hd8 (by omega) (hE.fa hF8) hb7 (by omega) (fun x9 I9 v9 g9 f9 => ?_) (fun x9 I9 g9 hM9 f9 d9 => ?_))
              · skip
                have hF9 := (hF8).tr g9
                have hq9 := pz_q (T := T) (e := e) k 13 0 (nx T n ((pz T n e k 2 0 (nx T n (nx T n ((nx T n c) + 1) + 1)) 0).2.1)) ((pz T n e k 2 0 (nx T n (nx T n ((nx T n c) + 1) + 1)) 0).2.2) hM8.2.2.2.2.2.2.1
                refine Sx.istore_n (lv' := [(2, .int (b2i v9)), (3, .int (iI ((pz T n e k 2 0 (nx T n (nx T n ((nx T n c) + 1) + 1)) 0).2.2))), (4, .int (iI (lkN T n (nx T n (nx T n ((nx T n c) + 1) + 1))))), (1, .int (iI (lkN T n (nx T n c)))), (0, .ref 253)]) dX12_clause_118 (by decide) rfl ?_
                refine Sx.aload_n dX12_clause_119 rfl ?_
                refine Sx.bipush (v := (nI 63)) dX12_clause_120 (by decide) ?_
                refine Sx.callV1 dX12_clause_122 lkv_X12_177 (rcv_12 (o_253 W)) (by omega) (by decide) (Nat.le_of_ble_eq_true rfl) rfl rfl (k_takes2 W f9 (by omega) ?_)
                refine Sx.if_neB (t := 129) dX12_clause_125 (by decide) (fun c125 => False.elim (by cases c125)) (fun c125 => ?_)
                refine Sx.vret dX12_clause_128 rfl ?_
                rw [pcl, if_neg (show ¬ sgn T n (nx T n c) ≠ 121 from fun q => q hy), if_neg (fun q => q x3), pcl.pclB, if_neg (by omega), if_neg (by rw [x7]; decide), if_pos (by omega), pcl.pclQ, if_pos x9] at hR
                subst hR
                exact hno rfl I9 (FA.fc hF9) f9
              · skip
                have hF9 := (hF8).tr g9
                obtain ⟨hp9, hb9⟩ := pz_bd hE0 k 13 0 (nx T n ((pz T n e k 2 0 (nx T n (nx T n ((nx T n c) + 1) + 1)) 0).2.1)) ((pz T n e k 2 0 (nx T n (nx T n ((nx T n c) + 1) + 1)) 0).2.2) hb7 x9
                have hbb9 : -1000000 ≤ (pz T n e k 13 0 (nx T n ((pz T n e k 2 0 (nx T n (nx T n ((nx T n c) + 1) + 1)) 0).2.1)) ((pz T n e k 2 0 (nx T n (nx T n ((nx T n c) + 1) + 1)) 0).2.2)).2.2 ∧ (pz T n e k 13 0 (nx T n ((pz T n e k 2 0 (nx T n (nx T n ((nx T n c) + 1) + 1)) 0).2.1)) ((pz T n e k 2 0 (nx T n (nx T n ((nx T n c) + 1) + 1)) 0).2.2)).2.2 ≤ 1000000 := hb9
                have hk9 := lkN_or T n ((pz T n e k 13 0 (nx T n ((pz T n e k 2 0 (nx T n (nx T n ((nx T n c) + 1) + 1)) 0).2.1)) ((pz T n e k 2 0 (nx T n (nx T n ((nx T n c) + 1) + 1)) 0).2.2)).2.1)
                have ht9 := hM9.2.2.2.2.2.2.2.1 ((pz T n e k 13 0 (nx T n ((pz T n e k 2 0 (nx T n (nx T n ((nx T n c) + 1) + 1)) 0).2.1)) ((pz T n e k 2 0 (nx T n (nx T n ((nx T n c) + 1) + 1)) 0).2.2)).2.1)
                have hc9 := hM9.2.2.2.2.2.2.1
                have hn9 := hM9.2.2.2.2.2.1
                have hs9 := sgn_or T n ((pz T n e k 13 0 (nx T n ((pz T n e k 2 0 (nx T n (nx T n ((nx T n c) + 1) + 1)) 0).2.1)) ((pz T n e k 2 0 (nx T n (nx T n ((nx T n c) + 1) + 1)) 0).2.2)).2.1)
                refine Sx.istore_n (lv' := [(2, .int (b2i (decide ((pz T n e k 13 0 (nx T n ((pz T n e k 2 0 (nx T n (nx T n ((nx T n c) + 1) + 1)) 0).2.1)) ((pz T n e k 2 0 (nx T n (nx T n ((nx T n c) + 1) + 1)) 0).2.2)).2.2 ≠ 0)))), (3, .int (iI ((pz T n e k 2 0 (nx T n (nx T n ((nx T n c) + 1) + 1)) 0).2.2))), (4, .int (iI (lkN T n (nx T n (nx T n ((nx T n c) + 1) + 1))))), (1, .int (iI (lkN T n (nx T n c)))), (0, .ref 253)]) dX12_clause_118 (by decide) rfl ?_
                rw [pcl, if_neg (show ¬ sgn T n (nx T n c) ≠ 121 from fun q => q hy), if_neg (fun q => q x3), pcl.pclB, if_neg (by omega), if_neg (by rw [x7]; decide), if_pos (by omega)] at hR
                refine Sx.sub' [(1, .int (nI 121)), (2, .int (b2i (decide ((pz T n e k 13 0 (nx T n ((pz T n e k 2 0 (nx T n (nx T n ((nx T n c) + 1) + 1)) 0).2.1)) ((pz T n e k 2 0 (nx T n (nx T n ((nx T n c) + 1) + 1)) 0).2.2)).2.2 ≠ 0)))), (0, .ref 253)] (by rw [show (iI (lkN T n (nx T n c))) = nI 121 from eZN (by omega)]; rfl) ?_
                exact l_c119 (rr := pz T n e k 13 0 (nx T n ((pz T n e k 2 0 (nx T n (nx T n ((nx T n c) + 1) + 1)) 0).2.1)) ((pz T n e k 2 0 (nx T n (nx T n ((nx T n c) + 1) + 1)) 0).2.2)) (o := o) W hE0 x9 hM9 f9 d9 (hE.fa hF9) (((hF9).2 13 (by decide)).trans hlb) (hFO.fa hF9) hk hR (fun x I2 F f => hno x I2 (FC.tr (FA.fc hF9) F) f) (fun x I2 F M f d g O => hyes x I2 (FC.tr (FA.fc hF9) F) M f d (by omega) O)
        · refine Sx.aload_n dX12_clause_64 rfl ?_
          refine Sx.iconst (v := (nI 0)) dX12_clause_65 (by decide) ?_
          refine Sx.iconst (v := (nI 0)) dX12_clause_66 (by decide) ?_
          refine Sx.callV2 dX12_clause_67 lkv_X12_200 (rcv_12 (o_253 W)) (by omega) (by decide) (Nat.le_of_ble_eq_true rfl) rfl rfl (hCn (v := 0) hM4 hf4 hd4 (by omega) (hE.fa hF4) bd6_0 (by omega) (fun x11 I11 v11 g11 f11 => ?_) (fun x11 I11 g11 hM11 f11 d11 => ?_))
          · skip
            have hF11 := (hF4).tr g11
            have hq11 := pz_q (T := T) (e := e) k 6 0 (nx T n (nx T n ((nx T n c) + 1) + 1)) 0 hM4.2.2.2.2.2.2.1
            refine Sx.istore_n (lv' := [(2, .int (b2i v11)), (4, .int (iI (lkN T n (nx T n (nx T n ((nx T n c) + 1) + 1))))), (3, .int (nI 0)), (1, .int (iI (lkN T n (nx T n c)))), (0, .ref 253)]) dX12_clause_70 (by decide) rfl ?_
            refine Sx.aload_n dX12_clause_71 rfl ?_
            refine Sx.bipush (v := (nI 63)) dX12_clause_72 (by decide) ?_
            refine Sx.callV1 dX12_clause_74 lkv_X12_177 (rcv_12 (o_253 W)) (by omega) (by decide) (Nat.le_of_ble_eq_true rfl) rfl rfl (k_takes2 W f11 (by omega) ?_)
            refine Sx.if_neB (t := 81) dX12_clause_77 (by decide) (fun c77 => False.elim (by cases c77)) (fun c77 => ?_)
            refine Sx.vret dX12_clause_80 rfl ?_
            rw [pcl, if_neg (show ¬ sgn T n (nx T n c) ≠ 121 from fun q => q hy), if_neg (fun q => q x3), pcl.pclB, if_pos (by omega), pcl.pclQ, if_pos x11] at hR
            subst hR
            exact hno rfl I11 (FA.fc hF11) f11
          · skip
            have hF11 := (hF4).tr g11
            obtain ⟨hp11, hb11⟩ := pz_bd hE0 k 6 0 (nx T n (nx T n ((nx T n c) + 1) + 1)) 0 bd6_0 x11
            have hbb11 : -1000000 ≤ (pz T n e k 6 0 (nx T n (nx T n ((nx T n c) + 1) + 1)) 0).2.2 ∧ (pz T n e k 6 0 (nx T n (nx T n ((nx T n c) + 1) + 1)) 0).2.2 ≤ 1000000 := hb11
            have hk11 := lkN_or T n ((pz T n e k 6 0 (nx T n (nx T n ((nx T n c) + 1) + 1)) 0).2.1)
            have ht11 := hM11.2.2.2.2.2.2.2.1 ((pz T n e k 6 0 (nx T n (nx T n ((nx T n c) + 1) + 1)) 0).2.1)
            have hc11 := hM11.2.2.2.2.2.2.1
            have hn11 := hM11.2.2.2.2.2.1
            have hs11 := sgn_or T n ((pz T n e k 6 0 (nx T n (nx T n ((nx T n c) + 1) + 1)) 0).2.1)
            refine Sx.istore_n (lv' := [(2, .int (b2i (decide ((pz T n e k 6 0 (nx T n (nx T n ((nx T n c) + 1) + 1)) 0).2.2 ≠ 0)))), (4, .int (iI (lkN T n (nx T n (nx T n ((nx T n c) + 1) + 1))))), (3, .int (nI 0)), (1, .int (iI (lkN T n (nx T n c)))), (0, .ref 253)]) dX12_clause_70 (by decide) rfl ?_
            rw [pcl, if_neg (show ¬ sgn T n (nx T n c) ≠ 121 from fun q => q hy), if_neg (fun q => q x3), pcl.pclB, if_pos (by omega)] at hR
            refine Sx.sub' [(1, .int (nI 121)), (2, .int (b2i (decide ((pz T n e k 6 0 (nx T n (nx T n ((nx T n c) + 1) + 1)) 0).2.2 ≠ 0)))), (0, .ref 253)] (by rw [show (iI (lkN T n (nx T n c))) = nI 121 from eZN (by omega)]; rfl) ?_
            exact l_c71 (rr := pz T n e k 6 0 (nx T n (nx T n ((nx T n c) + 1) + 1)) 0) (o := o) W hE0 x11 hM11 f11 d11 (hE.fa hF11) (((hF11).2 13 (by decide)).trans hlb) (hFO.fa hF11) hk hR (fun x I2 F f => hno x I2 (FC.tr (FA.fc hF11) F) f) (fun x I2 F M f d g O => hyes x I2 (FC.tr (FA.fc hF11) F) M f d (by omega) O)
  · refine Sx.aload_n dX12_clause_14 rfl ?_
    refine Sx.callV0 dX12_clause_15 lkv_X12_147 (rcv_12 (o_253 W)) (by omega) (by decide) (Nat.le_of_ble_eq_true rfl) rfl rfl (k_fails W hM1 hf1 (fun I13 g13 f13 d13 a13 => ?_))
    have hF13 := (hF1).tr g13
    have hM13 := hM1.mv (nx T n c) (by omega) g13 (a13.trans hM1.at_)
    refine Sx.pop dX12_clause_18 rfl ?_
    refine Sx.vret dX12_clause_19 rfl ?_
    rw [pcl, if_pos (show sgn T n (nx T n c) ≠ 121 from fun q => c11 ((y_is _ (by omega)).mpr q))] at hR
    subst hR
    exact hno rfl I13 (FA.fc hF13) f13
