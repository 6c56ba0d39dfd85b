/-! the reference: where a reader starts; a whole plan -/
/-- what readers may write -/
def fsJ (j : Nat) : Prop := j < 8 ∨ j = 15 ∨ j = 16 ∨ (17 < j ∧ j < 28) ∨ j = 30 ∨ 31 < j
def FS (I I' : It) : Prop := (∀ q, q ≠ 253 ∧ q ≠ 259 ∧ q ≠ 261 ∧ q ≠ 263 ∧ q ≠ 264 ∧ q ≠ 265 → I' q = I q) ∧ (∀ z, z < 240 → I' 264 z = I 264 z) ∧ (∀ z, z < 4 → I' 265 z = I 265 z) ∧ ∀ j, fsJ j → I' 253 j = I 253 j
theorem FS.rf (I : It) : FS I I := ⟨fun _ _ => rfl, fun _ _ => rfl, fun _ _ => rfl, fun _ _ => rfl⟩
theorem FS.tr {I J K : It} (h : FS I J) (g : FS J K) : FS I K := ⟨fun q hq => (g.1 q hq).trans (h.1 q hq), fun q hq => (g.2.1 q hq).trans (h.2.1 q hq), fun q hq => (g.2.2.1 q hq).trans (h.2.2.1 q hq), fun q hq => (g.2.2.2 q hq).trans (h.2.2.2 q hq)⟩
theorem FA.fs {I J : It} (h : FA I J) : FS I J := ⟨fun q hq => h.1 q hq.1, fun z _ => by rw [h.1 264 (by decide)], fun z _ => by rw [h.1 265 (by decide)], fun j hj => h.2 j (by unfold fsJ at hj; omega)⟩
theorem FB.fs {I J : It} (h : FB 264 I J) (g : ∀ q, q < 240 → J 264 q = I 264 q) : FS I J := ⟨fun q hq => h.1 q ⟨hq.1, hq.2.2.2.2.1⟩, g, fun z _ => by rw [h.1 265 (by decide)], fun j hj => h.2 j (by unfold fsJ at hj; omega)⟩
theorem FS.ar5 {I I' : It} {k : Nat} {x : Int32} (hk : 4 ≤ k) (e : I' 265 = upd (I 265) k x) (o : ∀ q, q ≠ 265 → I' q = I q) : FS I I' := ⟨fun q hq => o q hq.2.2.2.2.2, fun z _ => by rw [o 264 (by decide)], fun z hz => by rw [e, upd_nj _ _ (by omega)], fun j _ => by rw [o 253 (by decide)]⟩
theorem FS.fld {I I' : It} {k : Nat} {x : Int32} (hk : ¬ fsJ k) (e : I' 253 = upd (I 253) k x) (o : ∀ q, q ≠ 253 → I' q = I q) : FS I I' := ⟨fun q hq => o q hq.1, fun z _ => by rw [o 264 (by decide)], fun z hz => by rw [o 265 (by decide)], fun j hj => by rw [e, upd_nj _ _ (fun q => hk (by rw [← q]; exact hj))]⟩
theorem stpE_le (T : Nat → Nat) (n c : Nat) : stpE T n c ≤ max n c + 3 := by
  have h1 := nx_b T n c
  have h2 := nx_b T n (nx T n c + 1)
  have h3 := nx_b T n (nx T n (nx T n c + 1) + 1)
  unfold stpE stpB enC
  repeat' split
  all_goals omega
/-- the tape of the reference -/
def MT (I : It) (T : Nat → Nat) (n : Nat) : Prop := I 253 6 = nI n ∧ n ≤ 240 ∧ (∀ j, j < n → I 254 j = by8 (T j)) ∧ ∀ j, j < n → 0 < T j ∧ T j < 256
theorem WF.tx {Z : Zt} {R : Rt} (h : WF Z R) (x : Option Nat) : WF Z (up2R R 253 5 x) := by
  refine ⟨h.1, h.2.1, fun i q hq => ?_⟩
  have hd : ∀ q ∈ RFl, ¬ (q.1 = 253 ∧ q.2.1 = 5) := by decide +kernel
  have hm := hd q (List.mem_of_getElem? hq)
  rw [← h.2.2 i q hq]
  unfold up2R va_up
  by_cases c : q.1 = 253
  · rw [if_pos c]
    show (if q.2.1 = 5 then x else R 253 q.2.1) = R q.1 q.2.1
    rw [if_neg (fun e => hm ⟨c, e⟩), c]
  · rw [if_neg c]
theorem up2R_at (R : Rt) (a j : Nat) (x : Option Nat) : up2R R a j x a j = x := by simp [up2R, va_up]
set_option maxRecDepth 20000 in
set_option maxHeartbeats 1000000 in
theorem k_starts {G : Gt} {l : Launch} {Z : Zt} {R : Rt} {I : It} {L : Lt} {post : Pt'} {tx b m : Nat} (W : WF Z R) (h : ∀ I' R', R' = up2R R 253 5 (some tx) → (∀ q, q ≠ 253 → I' q = I q) → (∀ j, j < 8 ∨ 11 < j → I' 253 j = I 253 j) → I' 253 8 = nI b → I' 253 9 = nI m → I' 253 10 = nI 0 → I' 253 11 = iI (-1) → post none Z R' I' L) : Cx G l mX12_starts 1 0 0 [.ref 253, .ref tx, .int (nI b), .int (nI m)] Z R I L post := by
  refine Cx.of (by decide +kernel) (by exact Nat.le_of_ble_eq_true rfl) ?_
  refine Sx.aload_n dX12_starts_0 rfl ?_
  refine Sx.aload_n dX12_starts_1 rfl ?_
  refine Sx.putfR (r := (some tx)) dX12_starts_2 lkp_X12_23_12 (fun h => by cases h) (o_253 W) rfl (fun _ => rfl) rfl (fun _ => rfl) ?_
  have W := W.tx (some tx)
  refine Sx.aload_n dX12_starts_5 rfl ?_
  refine Sx.iload_n dX12_starts_6 rfl ?_
  refine Sx.putfV dX12_starts_7 lkp_X12_138_12 (o_253 W) rfl rfl (fun I1 e1 o1 => ?_)
  refine Sx.aload_n dX12_starts_10 rfl ?_
  refine Sx.iload_n dX12_starts_11 rfl ?_
  refine Sx.putfV dX12_starts_12 lkp_X12_135_12 (o_253 W) rfl rfl (fun I2 e2 o2 => ?_)
  refine Sx.aload_n dX12_starts_15 rfl ?_
  refine Sx.iconst (v := (nI 0)) dX12_starts_16 (by decide) ?_
  refine Sx.putfV dX12_starts_17 lkp_X12_132_12 (o_253 W) rfl rfl (fun I3 e3 o3 => ?_)
  refine Sx.aload_n dX12_starts_20 rfl ?_
  refine Sx.iconst (v := (iI (-1))) dX12_starts_21 (by decide) ?_
  refine Sx.putfV dX12_starts_22 lkp_X12_141_12 (o_253 W) rfl rfl (fun I4 e4 o4 => ?_)
  refine Sx.vret dX12_starts_25 rfl ?_
  refine h I4 _ rfl (fun q hq => by rw [o4 q hq, o3 q hq, o2 q hq, o1 q hq]) (fun j hj => ?_) ?_ ?_ ?_ ?_
  · rw [e4, upd_nj _ _ (by omega), e3, upd_nj _ _ (by omega), e2, upd_nj _ _ (by omega), e1, upd_nj _ _ (by omega)]
  · rw [e4, upd_nj _ _ (by decide), e3, upd_nj _ _ (by decide), e2, upd_nj _ _ (by decide), e1, upd_at]
  · rw [e4, upd_nj _ _ (by decide), e3, upd_nj _ _ (by decide), e2, upd_at]
  · rw [e4, upd_nj _ _ (by decide), e3, upd_at]
  · rw [e4, upd_at]
theorem MT.mr {R R' : Rt} {I I' : It} {T : Nat → Nat} {n : Nat} (h : MT I T n) (hR : R' = up2R R 253 5 (some 254)) (h1 : ∀ q, q ≠ 253 → I' q = I q) (h2 : I' 253 8 = nI 0) (h3 : I' 253 9 = nI n) (h4 : I' 253 10 = nI 0) : MR R' I' 254 0 n 0 T :=
  ⟨by rw [hR]; exact up2R_at _ _ _ _, h2, h3, h4, fun j hj => by rw [Nat.zero_add, h1 254 (by decide)]; exact h.2.2.1 j hj, h.2.1, Nat.zero_le _, h.2.2.2, Or.inl ⟨rfl, rfl⟩⟩
theorem FS.st {I I' : It} (h1 : ∀ q, q ≠ 253 → I' q = I q) (h2 : ∀ j, j < 8 ∨ 11 < j → I' 253 j = I 253 j) : FS I I' := ⟨fun q hq => h1 q hq.1, fun z _ => by rw [h1 264 (by decide)], fun z hz => by rw [h1 265 (by decide)], fun j hj => h2 j (by unfold fsJ at hj; omega)⟩
set_option maxRecDepth 20000 in
set_option maxHeartbeats 1000000 in
theorem l_plan {G : Gt} {l : Launch} {Z : Zt} {R : Rt} {L : Lt} {post : Pt'} {tx b n dp N : Nat} {T : Nat → Nat} {O : Bool} {E : Nat} {FF : Nat → Int32} {I0 : It} (W : WF Z R) (hno : O = false → ∀ I', FS I0 I' → I' 253 11 = nI E → post none Z R I' L) (hyes : O = true → ∀ I', FS I0 I' → I' 253 11 = iI (-1) → I' 265 4 = nI N → (∀ z, z < 3 * N → I' 264 (240 + z) = FF z) → post none Z R I' L) :
    ∀ (k j : Nat), j ≤ 19 → 19 < j + k → ∀ (I : It) (c : Nat) (f : Nat → Int32), MR R I tx b n c T → I 253 11 = iI (-1) → I 253 12 = nI dp → FS I0 I → (∀ z, z < 3 * j → I 264 (240 + z) = f z) → cpO T n (20 - j) c = O → cpE T n (20 - j) c = E → j + cpN T n (20 - j) c = N → cpF T n (20 - j) c j f = FF →
      Sx G l mX12_readPlan 7 0 0 17 [(1, .int (nI j)), (2, .int (nI 1)), (0, .ref 253)] [] Z R I L post := by
  intro k
  induction k with
  | zero => intro j h1 h2; omega
  | succ k ih =>
    intro j h1 h2 I c f hM hf hd hFS hf0 hO hE hN hFF
    refine Sx.iload_n dX12_readPlan_17 rfl ?_
    refine Sx.if_eqV (t := 91) dX12_readPlan_18 (by decide) (vN (by decide)) (fun c18 => False.elim (by omega)) (fun c18 => ?_)
    have hj9 : j ≤ 19 := by omega
    refine Sx.aload_n dX12_readPlan_21 rfl ?_
    refine Sx.iconst (v := (nI 3)) dX12_readPlan_22 (by decide) ?_
    refine Sx.bipush (v := (nI 80)) dX12_readPlan_23 (by decide) ?_
    refine Sx.iload_n dX12_readPlan_25 rfl ?_
    refine Sx.iaddN dX12_readPlan_26 ?_
    refine Sx.imulN dX12_readPlan_27 ?_
    refine Sx.callV1 dX12_readPlan_28 lkv_X12_282 (rcv_12 (o_253 W)) (by decide) (by decide) (Nat.le_of_ble_eq_true rfl) rfl rfl (k_readStep W hM hf hd (by omega) (fun x1 I1 g1 f1 z1 => ?_) (fun x1 I1 g1 hM1 f1 d1 u1 v1 w1 z1 => ?_))
    · skip
      have hF1 := (hFS).tr (FB.fs g1 (fun q hq => z1 q (Or.inl (by omega))))
      have hse := stpE_le T n c
      have hcn := hM.2.2.2.2.2.2.1
      have hnn := hM.2.2.2.2.2.1
      refine Sx.aload_n dX12_readPlan_31 rfl ?_
      refine Sx.getfV (v := (nI (stpE T n c))) dX12_readPlan_32 lkf_X12_141_12 (o_253 W) f1 ?_
      refine Sx.iconst (v := (iI (-1))) dX12_readPlan_35 (by decide) ?_
      refine Sx.icmp_eqV (t := 40) dX12_readPlan_36 (by decide) (vN (by omega)) (vZ (by decide)) (fun c36 => False.elim (by omega)) (fun c36 => ?_)
      refine Sx.vret dX12_readPlan_39 rfl ?_
      rw [show 20 - j = (20 - (j + 1)) + 1 by omega] at hO hE hN hFF
      rw [cpO, x1] at hO
      rw [cpE, if_neg (by rw [x1]; decide)] at hE
      exact hno hO.symm I1 hF1 (by rw [← hE]; exact f1)
    · skip
      have hF1 := (hFS).tr (FB.fs g1 (fun q hq => z1 q (Or.inl (by omega))))
      have hk1 := lkN_or T n (stpE T n c)
      have ht1 := hM1.2.2.2.2.2.2.2.1 (stpE T n c)
      have hc1 := hM1.2.2.2.2.2.2.1
      have hn1 := hM1.2.2.2.2.2.1
      have hs1 := sgn_or T n (stpE T n c)
      refine Sx.aload_n dX12_readPlan_31 rfl ?_
      refine Sx.getfV (v := (iI (-1))) dX12_readPlan_32 lkf_X12_141_12 (o_253 W) f1 ?_
      refine Sx.iconst (v := (iI (-1))) dX12_readPlan_35 (by decide) ?_
      refine Sx.icmp_eqV (t := 40) dX12_readPlan_36 (by decide) (vZ (by decide)) (vZ (by decide)) (fun c36 => ?_) (fun c36 => False.elim (by omega))
      refine Sx.iinc (v := (nI (j + 1))) (lv' := [(1, .int (nI (j + 1))), (2, .int (nI 1)), (0, .ref 253)]) dX12_readPlan_40 rfl (nI_add j 1) (by decide) rfl ?_
      refine Sx.aload_n dX12_readPlan_43 rfl ?_
      refine Sx.callV0 dX12_readPlan_44 lkv_X12_151 (rcv_12 (o_253 W)) (by decide) (by decide) (Nat.le_of_ble_eq_true rfl) rfl rfl (k_look W hM1 (fun I2 hM2 g2 f2 d2 => ?_))
      have hF2 := (hF1).tr (FA.fs g2)
      have hf2 := f2.trans f1
      have hd2 := d2.trans d1
      have hx2 := nx_b T n (stpE T n c)
      have hk2 := lkN_or T n (nx T n (stpE T n c))
      have ht2 := hM2.2.2.2.2.2.2.2.1 (nx T n (stpE T n c))
      have hc2 := hM2.2.2.2.2.2.2.1
      have hn2 := hM2.2.2.2.2.2.1
      have hs2 := sgn_or T n (nx T n (stpE T n c))
      refine Sx.bipush (v := (nI 59)) dX12_readPlan_47 (by decide) ?_
      refine Sx.icmp_neV (t := 56) dX12_readPlan_49 (by decide) (vZ (by omega)) (vN (by decide)) (fun c49 => ?_) (fun c49 => ?_)
      · refine Sx.iconst (v := (nI 0)) dX12_readPlan_56 (by decide) ?_
        refine Sx.istore_n (lv' := [(2, .int (nI 0)), (1, .int (nI (j + 1))), (0, .ref 253)]) dX12_readPlan_57 (by decide) rfl ?_
        refine Sx.iload_n dX12_readPlan_58 rfl ?_
        refine Sx.if_eqV (t := 74) dX12_readPlan_59 (by decide) (vN (by decide)) (fun c59 => ?_) (fun c59 => False.elim (by omega))
        refine Sx.iload_n dX12_readPlan_74 rfl ?_
        refine Sx.if_eqV (t := 17) dX12_readPlan_75 (by decide) (vN (by decide)) (fun c75 => ?_) (fun c75 => False.elim (by omega))
        refine Sx.iload_n dX12_readPlan_17 rfl ?_
        refine Sx.if_eqV (t := 91) dX12_readPlan_18 (by decide) (vN (by decide)) (fun c18 => ?_) (fun c18 => False.elim (by omega))
        have hnn := nx_nx T n (stpE T n c)
        refine Sx.aload_n dX12_readPlan_91 rfl ?_
        refine Sx.getfR dX12_readPlan_92 lkf_X12_58_12 (o_253 W) (r_253_25 W) ?_
        refine Sx.iconst (v := (nI 4)) dX12_readPlan_95 (by decide) ?_
        refine Sx.iload_n dX12_readPlan_96 rfl ?_
        refine Sx.iastN dX12_readPlan_97 (a_265 W) (by decide) (by decide) (fun I3 e3 o3 => ?_)
        have hF3 := (hF2).tr (FS.ar5 (by decide) e3 o3)
        have hf3 := Eq.trans (by rw [o3 _ (by decide)] : I3 253 11 = I2 253 11) hf2
        have hM3 : MR R I3 tx b n (nx T n (stpE T n c)) T := hM2.mvB (nx T n (stpE T n c)) (by omega) (FB.ar o3) (by omega) (by rw [o3 _ (by omega)]; exact hM2.at_)
        have hd3 := Eq.trans (by rw [o3 _ (by omega)] : I3 253 12 = I2 253 12) hd2
        refine Sx.aload_n dX12_readPlan_98 rfl ?_
        refine Sx.callV0 dX12_readPlan_99 lkv_X12_151 (rcv_12 (o_253 W)) (by decide) (by decide) (Nat.le_of_ble_eq_true rfl) rfl rfl (k_look W hM3 (fun I4 hM4 g4 f4 d4 => ?_))
        have hF4 := (hF3).tr (FA.fs g4)
        have hf4 := f4.trans hf3
        have hd4 := d4.trans hd3
        have hx4 := nx_b T n (nx T n (stpE T n c))
        have hk4 := lkN_or T n (nx T n (nx T n (stpE T n c)))
        have ht4 := hM4.2.2.2.2.2.2.2.1 (nx T n (nx T n (stpE T n c)))
        have hc4 := hM4.2.2.2.2.2.2.1
        have hn4 := hM4.2.2.2.2.2.1
        have hs4 := sgn_or T n (nx T n (nx T n (stpE T n c)))
        refine Sx.iconst (v := (iI (-1))) dX12_readPlan_102 (by decide) ?_
        refine Sx.icmp_eqV (t := 111) dX12_readPlan_103 (by decide) (vZ (by omega)) (vZ (by decide)) (fun c103 => ?_) (fun c103 => ?_)
        · refine Sx.vret dX12_readPlan_111 rfl ?_
          rw [show 20 - j = (20 - (j + 1)) + 1 by omega] at hO hE hN hFF
          have h0 : sgn T n (stpN T n c) = 0 := by unfold stpN; omega
          have n9 : ¬ (sgn T n (stpN T n c) = 59 ∧ 20 - (j + 1) ≠ 0) := fun q => by omega
          rw [cpO, x1, decide_eq_true h0] at hO
          rw [cpN, if_neg n9] at hN
          rw [cpF, if_neg n9] at hFF
          refine hyes hO.symm I4 hF4 hf4 (by rw [g4.1 265 (by omega), e3, upd_at, hN]) (fun z hz => ?_)
          rw [← hFF]
          have hz3 : I4 264 (240 + z) = I1 264 (240 + z) := by rw [g4.1 264 (by omega), o3 264 (by omega), g2.1 264 (by omega)]
          rw [hz3]
          unfold stpR
          simp only [upd]
          by_cases e2 : z = 3 * j + 2
          · rw [if_pos e2, e2]; exact (show 240 + (3 * j + 2) = 3 * (80 + j) + 2 by omega) ▸ w1
          · rw [if_neg e2]
            by_cases e1 : z = 3 * j + 1
            · rw [if_pos e1, e1]; exact (show 240 + (3 * j + 1) = 3 * (80 + j) + 1 by omega) ▸ v1
            · rw [if_neg e1]
              by_cases e0 : z = 3 * j
              · rw [if_pos e0, e0]; exact (show 240 + 3 * j = 3 * (80 + j) by omega) ▸ u1
              · rw [if_neg e0, z1 _ (Or.inl (by omega))]; exact hf0 z (by omega)
        · refine Sx.aload_n dX12_readPlan_106 rfl ?_
          refine Sx.callV0 dX12_readPlan_107 lkv_X12_147 (rcv_12 (o_253 W)) (by decide) (by decide) (Nat.le_of_ble_eq_true rfl) rfl rfl (k_fails W hM4 hf4 (fun I5 g5 f5 d5 a5 => ?_))
          have hF5 := (hF4).tr (FA.fs g5)
          refine Sx.pop dX12_readPlan_110 rfl ?_
          refine Sx.vret dX12_readPlan_111 rfl ?_
          rw [show 20 - j = (20 - (j + 1)) + 1 by omega] at hO hE hN hFF
          have n9 : ¬ (sgn T n (stpN T n c) = 59 ∧ 20 - (j + 1) ≠ 0) := fun q => by unfold stpN at q; omega
          rw [cpO, x1, decide_eq_false (show ¬ sgn T n (stpN T n c) = 0 by unfold stpN; omega), decide_eq_false n9] at hO
          rw [cpE, if_pos x1, if_neg n9] at hE
          exact hno hO.symm I5 hF5 (by rw [← hE, stpN]; first | exact f5 | (rw [← nx_nx T n (stpE T n c)]; exact f5))
      · refine Sx.iconst (v := (nI 1)) dX12_readPlan_52 (by decide) ?_
        refine Sx.goto (t := 57) dX12_readPlan_53 (by decide) ?_
        refine Sx.istore_n (lv' := [(2, .int (nI 1)), (1, .int (nI (j + 1))), (0, .ref 253)]) dX12_readPlan_57 (by decide) rfl ?_
        refine Sx.iload_n dX12_readPlan_58 rfl ?_
        refine Sx.if_eqV (t := 74) dX12_readPlan_59 (by decide) (vN (by decide)) (fun c59 => False.elim (by omega)) (fun c59 => ?_)
        refine Sx.iload_n dX12_readPlan_62 rfl ?_
        refine Sx.bipush (v := (nI 20)) dX12_readPlan_63 (by decide) ?_
        refine Sx.icmp_neV (t := 74) dX12_readPlan_65 (by decide) (vN (by omega)) (vN (by decide)) (fun c65 => ?_) (fun c65 => ?_)
        · refine Sx.iload_n dX12_readPlan_74 rfl ?_
          refine Sx.if_eqV (t := 17) dX12_readPlan_75 (by decide) (vN (by decide)) (fun c75 => False.elim (by omega)) (fun c75 => ?_)
          refine Sx.aload_n dX12_readPlan_78 rfl ?_
          refine Sx.dup dX12_readPlan_79 rfl ?_
          refine Sx.getfV (v := (nI (nx T n (stpE T n c)))) dX12_readPlan_80 lkf_X12_132_12 (o_253 W) hM2.at_ ?_
          refine Sx.iconst (v := (nI 1)) dX12_readPlan_83 (by decide) ?_
          refine Sx.iaddN dX12_readPlan_84 ?_
          refine Sx.putfV dX12_readPlan_85 lkp_X12_132_12 (o_253 W) rfl rfl (fun I6 e6 o6 => ?_)
          have hM6 : MR R I6 tx b n ((nx T n (stpE T n c)) + 1) T := hM2.mv ((nx T n (stpE T n c)) + 1) (by omega) (FA.up (by decide) e6 o6) (by rw [e6, upd_at])
          have hF6 := (hF2).tr (FA.fs (FA.up (by decide) e6 o6))
          have hf6 := Eq.trans (by rw [e6, upd_nj _ _ (by decide)] : I6 253 11 = I2 253 11) hf2
          have hd6 := Eq.trans (by rw [e6, upd_nj _ _ (by decide)] : I6 253 12 = I2 253 12) hd2
          have hk6 := lkN_or T n ((nx T n (stpE T n c)) + 1)
          have ht6 := hM6.2.2.2.2.2.2.2.1 ((nx T n (stpE T n c)) + 1)
          have hc6 := hM6.2.2.2.2.2.2.1
          have hn6 := hM6.2.2.2.2.2.1
          have hs6 := sgn_or T n ((nx T n (stpE T n c)) + 1)
          refine Sx.goto (t := 17) dX12_readPlan_88 (by decide) ?_
          refine Sx.sub' [(1, .int (nI (j + 1))), (2, .int (nI 1)), (0, .ref 253)] rfl ?_
          have h9 : sgn T n (stpN T n c) = 59 ∧ 20 - (j + 1) ≠ 0 := ⟨show sgn T n (stpN T n c) = 59 by unfold stpN; omega, show 20 - (j + 1) ≠ 0 by omega⟩
          rw [show 20 - j = (20 - (j + 1)) + 1 by omega] at hO hE hN hFF
          rw [cpO, x1, decide_eq_false (show ¬ sgn T n (stpN T n c) = 0 by omega), decide_eq_true h9] at hO
          rw [cpE, if_pos x1, if_pos h9] at hE
          rw [cpN, if_pos h9] at hN
          rw [cpF, if_pos h9] at hFF
          refine ih (j + 1) (by omega) (by omega) I6 (stpN T n c + 1) (stpR T n c j f) hM6 hf6 hd6 hF6 (fun z hz => ?_) hO hE (by omega) hFF
          have hz3 : I6 264 (240 + z) = I1 264 (240 + z) := by rw [o6 264 (by omega), g2.1 264 (by omega)]
          rw [hz3]
          unfold stpR
          simp only [upd]
          by_cases e2 : z = 3 * j + 2
          · rw [if_pos e2, e2]; exact (show 240 + (3 * j + 2) = 3 * (80 + j) + 2 by omega) ▸ w1
          · rw [if_neg e2]
            by_cases e1 : z = 3 * j + 1
            · rw [if_pos e1, e1]; exact (show 240 + (3 * j + 1) = 3 * (80 + j) + 1 by omega) ▸ v1
            · rw [if_neg e1]
              by_cases e0 : z = 3 * j
              · rw [if_pos e0, e0]; exact (show 240 + 3 * j = 3 * (80 + j) by omega) ▸ u1
              · rw [if_neg e0, z1 _ (Or.inl (by omega))]; exact hf0 z (by omega)
        · refine Sx.aload_n dX12_readPlan_68 rfl ?_
          refine Sx.callV0 dX12_readPlan_69 lkv_X12_147 (rcv_12 (o_253 W)) (by decide) (by decide) (Nat.le_of_ble_eq_true rfl) rfl rfl (k_fails W hM2 hf2 (fun I7 g7 f7 d7 a7 => ?_))
          have hF7 := (hF2).tr (FA.fs g7)
          refine Sx.pop dX12_readPlan_72 rfl ?_
          refine Sx.vret dX12_readPlan_73 rfl ?_
          rw [show 20 - j = (20 - (j + 1)) + 1 by omega] at hO hE hN hFF
          have n9 : ¬ (sgn T n (stpN T n c) = 59 ∧ 20 - (j + 1) ≠ 0) := fun q => by unfold stpN at q; omega
          rw [cpO, x1, decide_eq_false (show ¬ sgn T n (stpN T n c) = 0 by unfold stpN; omega), decide_eq_false n9] at hO
          rw [cpE, if_pos x1, if_neg n9] at hE
          exact hno hO.symm I7 hF7 (by rw [← hE, stpN]; first | exact f7 | (rw [← nx_nx T n (stpE T n c)]; exact f7))
theorem x_nI (x : Int32) : ∃ m, x = nI m := ⟨x.toBitVec.toNat, Int32.toBitVec_inj.1 (by show _ = BitVec.ofNat 32 _; simp)⟩
set_option maxRecDepth 20000 in
set_option maxHeartbeats 1000000 in
theorem k_readPlan {G : Gt} {l : Launch} {Z : Zt} {R : Rt} {I : It} {L : Lt} {post : Pt'} {n : Nat} {T : Nat → Nat} (W : WF Z R) (hT : MT I T n) (hno : cpO T n 20 0 = false → ∀ I' R', R' = up2R R 253 5 (some 254) → FS I I' → I' 253 11 = nI (cpE T n 20 0) → post none Z R' I' L) (hyes : cpO T n 20 0 = true → ∀ I' R', R' = up2R R 253 5 (some 254) → FS I I' → I' 253 11 = iI (-1) → I' 265 4 = nI (cpN T n 20 0) → (∀ z, z < 3 * cpN T n 20 0 → I' 264 (240 + z) = cpF T n 20 0 0 (fun _ => 0) z) → post none Z R' I' L) : Cx G l mX12_readPlan 7 0 0 [.ref 253] Z R I L post := by
  refine Cx.of (by decide +kernel) (by exact Nat.le_of_ble_eq_true rfl) ?_
  refine Sx.aload_n dX12_readPlan_0 rfl ?_
  refine Sx.aload_n dX12_readPlan_1 rfl ?_
  refine Sx.getfR dX12_readPlan_2 lkf_X12_9_12 (o_253 W) (r_253_1 W) ?_
  refine Sx.iconst (v := (nI 0)) dX12_readPlan_5 (by decide) ?_
  refine Sx.aload_n dX12_readPlan_6 rfl ?_
  refine Sx.getfV (v := (nI n)) dX12_readPlan_7 lkf_X12_122_12 (o_253 W) hT.1 ?_
  refine Sx.callV3 dX12_readPlan_10 lkv_X12_220 (rcv_12 (o_253 W)) (by decide) (by decide) (Nat.le_of_ble_eq_true rfl) rfl rfl (k_starts W (fun I1 R1 hR f0 f1 f2 f3 f4 f5 => ?_))
  have hM := hT.mr hR f0 f2 f3 f4
  have W : WF Z R1 := by rw [hR]; exact W.tx _
  obtain ⟨dp, hd⟩ := x_nI (I1 253 12)
  refine Sx.iconst (v := (nI 0)) dX12_readPlan_13 (by decide) ?_
  refine Sx.istore_n (lv' := [(1, .int (nI 0)), (0, .ref 253)]) dX12_readPlan_14 (by decide) rfl ?_
  refine Sx.iconst (v := (nI 1)) dX12_readPlan_15 (by decide) ?_
  refine Sx.istore_n (lv' := [(2, .int (nI 1)), (1, .int (nI 0)), (0, .ref 253)]) dX12_readPlan_16 (by decide) rfl ?_
  refine Sx.sub' [(1, .int (nI 0)), (2, .int (nI 1)), (0, .ref 253)] rfl ?_
  refine l_plan W (O := cpO T n 20 0) (E := cpE T n 20 0) (N := cpN T n 20 0) (FF := cpF T n 20 0 0 (fun _ => 0)) (fun z I2 g f => hno z I2 R1 hR ((FS.st f0 f1).tr g) f) (fun z I2 g f p q => hyes z I2 R1 hR ((FS.st f0 f1).tr g) f p q) 20 0 (by decide) (by decide) I1 0 (fun _ => 0) hM f5 hd (FS.rf I1) (fun z hz => by omega) rfl rfl (Nat.zero_add _) rfl
