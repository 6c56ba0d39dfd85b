/-! the reference: steps and plans of a calendar -/
theorem skp_stop (T : Nat → Nat) (n : Nat) : ∀ f c, n ≤ c + f → ¬ (skp T n f c < n ∧ T (skp T n f c) = 32)
  | 0, c => fun h q => by simp [skp] at q; omega
  | f + 1, c => fun h => by
    unfold skp
    split
    · exact skp_stop T n f (c + 1) (by omega)
    · assumption
theorem nx_stop (T : Nat → Nat) (n c : Nat) : ¬ (nx T n c < n ∧ T (nx T n c) = 32) := skp_stop T n _ c (by omega)
theorem nx_nx (T : Nat → Nat) (n c : Nat) : nx T n (nx T n c) = nx T n c := nx_at (nx_stop T n c)
theorem spN_end : ∀ k, k < 6 → spN k (iI (-1)) = 0 ∧ spN k (nI 0) = 0 := by decide +kernel
theorem spN_lk (k0 : Nat) (hk : k0 < 6) (T : Nat → Nat) (n q : Nat) : spN k0 (iI (lkN T n q)) = spN k0 (nI (sgn T n q)) := by
  rcases lkN_or T n q with ⟨h, e⟩ | ⟨h, e⟩
  · rw [e, ← nI_iI, sgn, if_pos h]
  · rw [e, sgn, if_neg (by omega), (spN_end k0 hk).1, (spN_end k0 hk).2]
theorem spN_le (k0 : Nat) (x : Int32) : spN k0 x ≤ stkL.getD k0 0 := by
  rcases fst1_le (sch k0) x (stkL.getD k0 0) 0 with e | ⟨e1, e2, e3⟩
  · unfold spN; omega
  · unfold spN; omega
theorem spN_W (T : Nat → Nat) (n c : Nat) : spN 5 (nI (sgn T n (nx T n c))) = stpW T n c := rfl
theorem k_spotLk {G : Gt} {l : Launch} {Z : Zt} {R : Rt} {I : It} {L : Lt} {post : Pt'} {k0 : Nat} {T : Nat → Nat} {n q : Nat} (hk : k0 < 6) (h : post (some (.int (iI ((spN k0 (nI (sgn T n q)) : Int) - 1)))) Z R I L) : Cx G l mX12_spotOf 5 0 0 [.ref (20 + k0), .int (iI (lkN T n q))] Z R I L post :=
  k_spotOf hk (by rw [spN_lk k0 hk]; exact h)
theorem stp0 {T : Nat → Nat} {n c : Nat} (h : stpW T n c ≠ 0) (d : dgs (stpW T n c - 1) = 0) : stpK T n c = true ∧ stpE T n c = nx T n c + 1 ∧ enV T n (stpW T n c - 1) 1 (nx T n c + 1) = iI (-1) ∧ enV T n (stpW T n c - 1) 2 (stpB T n c) = iI (-1) := by
  unfold stpK stpE stpB enK enC enV
  simp [h, d]
  decide
theorem stp1f {T : Nat → Nat} {n c : Nat} (h : stpW T n c ≠ 0) (d : 1 ≤ dgs (stpW T n c - 1)) (e : isDN (sgn T n (nx T n (nx T n c + 1))) = false) : stpK T n c = false ∧ stpE T n c = nx T n (nx T n c + 1) := by
  unfold stpK stpE stpB enK enC
  simp [h, d, e]
theorem stp1 {T : Nat → Nat} {n c : Nat} (h : stpW T n c ≠ 0) (d : dgs (stpW T n c - 1) = 1) (e : isDN (sgn T n (nx T n (nx T n c + 1))) = true) : stpK T n c = true ∧ stpE T n c = nx T n (nx T n c + 1) + 1 ∧ enV T n (stpW T n c - 1) 1 (nx T n c + 1) = nI (sgn T n (nx T n (nx T n c + 1)) - 48) ∧ enV T n (stpW T n c - 1) 2 (stpB T n c) = iI (-1) := by
  unfold stpK stpE stpB enK enC enV
  simp [h, d, e]
  decide
theorem stp2f {T : Nat → Nat} {n c : Nat} (h : stpW T n c ≠ 0) (d : dgs (stpW T n c - 1) = 2) (e : isDN (sgn T n (nx T n (nx T n c + 1))) = true) (e2 : isDN (sgn T n (nx T n (nx T n (nx T n c + 1) + 1))) = false) : stpK T n c = false ∧ stpE T n c = nx T n (nx T n (nx T n c + 1) + 1) := by
  unfold stpK stpE stpB enK enC
  simp [h, d, e, e2]
theorem stp2 {T : Nat → Nat} {n c : Nat} (h : stpW T n c ≠ 0) (d : dgs (stpW T n c - 1) = 2) (e : isDN (sgn T n (nx T n (nx T n c + 1))) = true) (e2 : isDN (sgn T n (nx T n (nx T n (nx T n c + 1) + 1))) = true) : stpK T n c = true ∧ stpE T n c = nx T n (nx T n (nx T n c + 1) + 1) + 1 ∧ enV T n (stpW T n c - 1) 1 (nx T n c + 1) = nI (sgn T n (nx T n (nx T n c + 1)) - 48) ∧ enV T n (stpW T n c - 1) 2 (stpB T n c) = nI (sgn T n (nx T n (nx T n (nx T n c + 1) + 1)) - 48) := by
  unfold stpK stpE stpB enK enC enV
  simp [h, d, e, e2]
/-- the cursor behind a step and the blanks after it -/
def stpN (T : Nat → Nat) (n c : Nat) : Nat := nx T n (stpE T n c)
def cpO (T : Nat → Nat) (n : Nat) : Nat → Nat → Bool
  | 0, _ => false
  | k + 1, c => stpK T n c && (decide (sgn T n (stpN T n c) = 0) || (decide (sgn T n (stpN T n c) = 59 ∧ k ≠ 0) && cpO T n k (stpN T n c + 1)))
def cpE (T : Nat → Nat) (n : Nat) : Nat → Nat → Nat
  | 0, c => c
  | k + 1, c => if stpK T n c = true then (if sgn T n (stpN T n c) = 59 ∧ k ≠ 0 then cpE T n k (stpN T n c + 1) else stpN T n c) else stpE T n c
def cpN (T : Nat → Nat) (n : Nat) : Nat → Nat → Nat
  | 0, _ => 0
  | k + 1, c => if sgn T n (stpN T n c) = 59 ∧ k ≠ 0 then cpN T n k (stpN T n c + 1) + 1 else 1
def cpF (T : Nat → Nat) (n : Nat) : Nat → Nat → Nat → (Nat → Int32) → Nat → Int32
  | 0, _, _, f => f
  | k + 1, c, st, f => if sgn T n (stpN T n c) = 59 ∧ k ≠ 0 then cpF T n k (stpN T n c + 1) (st + 1) (stpR T n c st f) else stpR T n c st f
theorem cpN_le (T : Nat → Nat) (n : Nat) : ∀ k c, cpN T n k c ≤ k
  | 0, _ => Nat.le_refl _
  | k + 1, c => by
    unfold cpN
    split
    · have := cpN_le T n k (stpN T n c + 1); omega
    · omega
set_option maxRecDepth 20000 in
set_option maxHeartbeats 1000000 in
theorem k_readStep {G : Gt} {l : Launch} {Z : Zt} {R : Rt} {I : It} {L : Lt} {post : Pt'} {tx b n c dp r : Nat} {T : Nat → Nat} (W : WF Z R) (hM : MR R I tx b n c T) (hf : I 253 11 = iI (-1)) (hd : I 253 12 = nI dp) (hr : r + 3 ≤ 300) (hno : stpK T n c = false → ∀ I', FB 264 I I' → I' 253 11 = nI (stpE T n c) → (∀ q, q < r ∨ r + 3 ≤ q → I' 264 q = I 264 q) → post none Z R I' L) (hyes : stpK T n c = true → ∀ I', FB 264 I I' → MR R I' tx b n (stpE T n c) T → I' 253 11 = iI (-1) → I' 253 12 = nI dp → I' 264 r = nI (stpW T n c - 1) → I' 264 (r + 1) = enV T n (stpW T n c - 1) 1 (nx T n c + 1) → I' 264 (r + 2) = enV T n (stpW T n c - 1) 2 (stpB T n c) → (∀ q, q < r ∨ r + 3 ≤ q → I' 264 q = I 264 q) → post none Z R I' L) : Cx G l mX12_readStep 6 0 0 [.ref 253, .int (nI r)] Z R I L post := by
  refine Cx.of (by decide +kernel) (by exact Nat.le_of_ble_eq_true rfl) ?_
  refine Sx.ldcwS (k := 5) dX12_readStep_0 rfl (by decide) rfl ?_
  refine Sx.aload_n dX12_readStep_3 rfl ?_
  refine Sx.callV0 dX12_readStep_4 lkv_X12_151 (rcv_12 (o_253 W)) (by decide) (by decide) (Nat.le_of_ble_eq_true rfl) rfl rfl (k_look W hM (fun I1 hM1 g1 f1 d1 => ?_))
  have hF1 := (FB.rf 264 I).tr (FB.of g1)
  have hf1 := f1.trans hf
  have hd1 := d1.trans hd
  have hx1 := nx_b T n c
  have hk1 := lkN_or T n (nx T n c)
  have ht1 := hM1.2.2.2.2.2.2.2.1 (nx T n c)
  have hc1 := hM1.2.2.2.2.2.2.1
  have hn1 := hM1.2.2.2.2.2.1
  have hs1 := sgn_or T n (nx T n c)
  refine Sx.callS2 dX12_readStep_7 lkc_X12_238  (by decide) (by decide) (Nat.le_of_ble_eq_true rfl) rfl rfl (k_spotLk (k0 := 5) (by decide) ?_)
  refine Sx.istore_n (lv' := [(2, .int (iI ((spN 5 (nI (sgn T n (nx T n c))) : Int) - 1))), (0, .ref 253), (1, .int (nI r))]) dX12_readStep_10 (by decide) rfl ?_
  have hw := spN_W T n c
  have hwl := stpW_le T n c
  refine Sx.iload_n dX12_readStep_11 rfl ?_
  refine Sx.iconst (v := (iI (-1))) dX12_readStep_12 (by decide) ?_
  refine Sx.icmp_neV (t := 22) dX12_readStep_13 (by decide) (vZ (by omega)) (vZ (by decide)) (fun c13 => ?_) (fun c13 => ?_)
  · have hnz : stpW T n c ≠ 0 := by omega
    have hpos := stpW_pos hnz
    refine Sx.aload_n dX12_readStep_22 rfl ?_
    refine Sx.dup dX12_readStep_23 rfl ?_
    refine Sx.getfV (v := (nI (nx T n c))) dX12_readStep_24 lkf_X12_132_12 (o_253 W) hM1.at_ ?_
    refine Sx.iconst (v := (nI 1)) dX12_readStep_27 (by decide) ?_
    refine Sx.iaddN dX12_readStep_28 ?_
    refine Sx.putfV dX12_readStep_29 lkp_X12_132_12 (o_253 W) rfl rfl (fun I2 e2 o2 => ?_)
    have hM2 : MR R I2 tx b n ((nx T n c) + 1) T := hM1.mv ((nx T n c) + 1) (by omega) (FA.up (by decide) e2 o2) (by rw [e2, upd_at])
    have hF2 := (hF1).tr (FB.of (FA.up (by decide) e2 o2))
    have hf2 := Eq.trans (by rw [e2, upd_nj _ _ (by decide)] : I2 253 11 = I1 253 11) hf1
    have hd2 := Eq.trans (by rw [e2, upd_nj _ _ (by decide)] : I2 253 12 = I1 253 12) hd1
    have hk2 := lkN_or T n ((nx T n c) + 1)
    have ht2 := hM2.2.2.2.2.2.2.2.1 ((nx T n c) + 1)
    have hc2 := hM2.2.2.2.2.2.2.1
    have hn2 := hM2.2.2.2.2.2.1
    have hs2 := sgn_or T n ((nx T n c) + 1)
    refine Sx.aload_n dX12_readStep_32 rfl ?_
    refine Sx.getfR dX12_readStep_33 lkf_X12_55_12 (o_253 W) (r_253_24 W) ?_
    refine Sx.iload_n dX12_readStep_36 rfl ?_
    refine Sx.iload_n dX12_readStep_37 rfl ?_
    refine Sx.iastN dX12_readStep_38 (a_264 W) (by omega) (by decide) (fun I3 e3 o3 => ?_)
    have hF3 := (hF2).tr (FB.ar o3)
    have hf3 := Eq.trans (by rw [o3 _ (by omega)] : I3 253 11 = I2 253 11) hf2
    have hM3 : MR R I3 tx b n ((nx T n c) + 1) T := hM2.mvB ((nx T n c) + 1) (by omega) (FB.ar o3) (by omega) (by rw [o3 _ (by omega)]; exact hM2.at_)
    have hd3 := Eq.trans (by rw [o3 _ (by omega)] : I3 253 12 = I2 253 12) hd2
    refine Sx.aload_n dX12_readStep_39 rfl ?_
    refine Sx.getfR dX12_readStep_40 lkf_X12_55_12 (o_253 W) (r_253_24 W) ?_
    refine Sx.iload_n dX12_readStep_43 rfl ?_
    refine Sx.iconst (v := (nI 1)) dX12_readStep_44 (by decide) ?_
    refine Sx.iaddN dX12_readStep_45 ?_
    refine Sx.iconst (v := (iI (-1))) dX12_readStep_46 (by decide) ?_
    refine Sx.iastN dX12_readStep_47 (a_264 W) (by omega) (by decide) (fun I4 e4 o4 => ?_)
    have hF4 := (hF3).tr (FB.ar o4)
    have hf4 := Eq.trans (by rw [o4 _ (by omega)] : I4 253 11 = I3 253 11) hf3
    have hM4 : MR R I4 tx b n ((nx T n c) + 1) T := hM3.mvB ((nx T n c) + 1) (by omega) (FB.ar o4) (by omega) (by rw [o4 _ (by omega)]; exact hM3.at_)
    have hd4 := Eq.trans (by rw [o4 _ (by omega)] : I4 253 12 = I3 253 12) hd3
    refine Sx.aload_n dX12_readStep_48 rfl ?_
    refine Sx.getfR dX12_readStep_49 lkf_X12_55_12 (o_253 W) (r_253_24 W) ?_
    refine Sx.iload_n dX12_readStep_52 rfl ?_
    refine Sx.iconst (v := (nI 2)) dX12_readStep_53 (by decide) ?_
    refine Sx.iaddN dX12_readStep_54 ?_
    refine Sx.iconst (v := (iI (-1))) dX12_readStep_55 (by decide) ?_
    refine Sx.iastN dX12_readStep_56 (a_264 W) (by omega) (by decide) (fun I5 e5 o5 => ?_)
    have hF5 := (hF4).tr (FB.ar o5)
    have hf5 := Eq.trans (by rw [o5 _ (by omega)] : I5 253 11 = I4 253 11) hf4
    have hM5 : MR R I5 tx b n ((nx T n c) + 1) T := hM4.mvB ((nx T n c) + 1) (by omega) (FB.ar o5) (by omega) (by rw [o5 _ (by omega)]; exact hM4.at_)
    have hd5 := Eq.trans (by rw [o5 _ (by omega)] : I5 253 12 = I4 253 12) hd4
    refine Sx.iload_n dX12_readStep_57 rfl ?_
    refine Sx.if_eqV (t := 66) dX12_readStep_58 (by decide) (vZ (by omega)) (fun c58 => ?_) (fun c58 => ?_)
    · have hd0 : dgs (stpW T n c - 1) = 0 := by unfold dgs; rw [if_neg (by omega), if_neg (by omega)]
      refine Sx.vret dX12_readStep_66 rfl ?_
      obtain ⟨z1, z2, z3, z4⟩ := stp0 hnz hd0
      exact hyes z1 I5 hF5 (by rw [z2]; exact hM5) hf5 hd5 (by rw [e5, e4, e3, o2 264 (by omega), g1.1 264 (by omega)]; all_goals (try simp only [upd]); all_goals (repeat' split); all_goals first | rfl | (exfalso; omega) | contradiction | exact eZN (by omega)) (by rw [z3]; rw [e5, e4, e3, o2 264 (by omega), g1.1 264 (by omega)]; all_goals (try simp only [upd]); all_goals (repeat' split); all_goals first | rfl | (exfalso; omega) | contradiction | fail) (by rw [z4]; rw [e5, e4, e3, o2 264 (by omega), g1.1 264 (by omega)]; all_goals (try simp only [upd]); all_goals (repeat' split); all_goals first | rfl | (exfalso; omega) | contradiction | fail) (fun q hq => by rw [e5, e4, e3, o2 264 (by omega), g1.1 264 (by omega)]; all_goals (try simp only [upd]); all_goals (repeat' split); all_goals first | rfl | (exfalso; omega) | contradiction | fail)
    · refine Sx.iload_n dX12_readStep_61 rfl ?_
      refine Sx.iconst (v := (nI 4)) dX12_readStep_62 (by decide) ?_
      refine Sx.icmp_neV (t := 67) dX12_readStep_63 (by decide) (vZ (by omega)) (vN (by decide)) (fun c63 => ?_) (fun c63 => ?_)
      · have hd1 : 1 ≤ dgs (stpW T n c - 1) := by unfold dgs; split; omega; rw [if_pos (by omega)]; omega
        refine Sx.aload_n dX12_readStep_67 rfl ?_
        refine Sx.getfR dX12_readStep_68 lkf_X12_55_12 (o_253 W) (r_253_24 W) ?_
        refine Sx.iload_n dX12_readStep_71 rfl ?_
        refine Sx.iconst (v := (nI 1)) dX12_readStep_72 (by decide) ?_
        refine Sx.iaddN dX12_readStep_73 ?_
        refine Sx.aload_n dX12_readStep_74 rfl ?_
        refine Sx.callV0 dX12_readStep_75 lkv_X12_279 (rcv_12 (o_253 W)) (by decide) (by decide) (Nat.le_of_ble_eq_true rfl) rfl rfl (k_digit W hM5 hf5 hd5 (fun x6 I6 g6 f6 => ?_) (fun x6 I6 g6 hM6 f6 d6 => ?_))
        · skip
          have hF6 := (hF5).tr (FB.of g6)
          have hxx6 := nx_b T n ((nx T n c) + 1)
          refine Sx.iastN dX12_readStep_78 (a_264 W) (by omega) (by decide) (fun I7 e7 o7 => ?_)
          have hF7 := (hF6).tr (FB.ar o7)
          have hf7 := Eq.trans (by rw [o7 _ (by omega)] : I7 253 11 = I6 253 11) f6
          refine Sx.aload_n dX12_readStep_79 rfl ?_
          refine Sx.getfV (v := (nI (nx T n ((nx T n c) + 1)))) dX12_readStep_80 lkf_X12_141_12 (o_253 W) hf7 ?_
          refine Sx.iconst (v := (iI (-1))) dX12_readStep_83 (by decide) ?_
          refine Sx.icmp_neV (t := 104) dX12_readStep_84 (by decide) (vN (by omega)) (vZ (by decide)) (fun c84 => ?_) (fun c84 => False.elim (by omega))
          refine Sx.vret dX12_readStep_104 rfl ?_
          obtain ⟨z1, z2⟩ := stp1f hnz hd1 x6
          exact hno z1 I7 hF7 (by rw [z2]; exact hf7) (fun q hq => by rw [e7, g6.1 264 (by omega), e5, e4, e3, o2 264 (by omega), g1.1 264 (by omega)]; all_goals (try simp only [upd]); all_goals (repeat' split); all_goals first | rfl | (exfalso; omega) | contradiction | fail)
        · skip
          have hF6 := (hF5).tr (FB.of g6)
          have hxx6 := nx_b T n ((nx T n c) + 1)
          have hss6 := sgn_or T n (nx T n ((nx T n c) + 1))
          have hy6 := (isDN_iff _).mp x6
          have hk6 := lkN_or T n (nx T n ((nx T n c) + 1) + 1)
          have ht6 := hM6.2.2.2.2.2.2.2.1 (nx T n ((nx T n c) + 1) + 1)
          have hc6 := hM6.2.2.2.2.2.2.1
          have hn6 := hM6.2.2.2.2.2.1
          have hs6 := sgn_or T n (nx T n ((nx T n c) + 1) + 1)
          refine Sx.iastN dX12_readStep_78 (a_264 W) (by omega) (by decide) (fun I8 e8 o8 => ?_)
          have hF8 := (hF6).tr (FB.ar o8)
          have hf8 := Eq.trans (by rw [o8 _ (by omega)] : I8 253 11 = I6 253 11) f6
          have hM8 : MR R I8 tx b n (nx T n ((nx T n c) + 1) + 1) T := hM6.mvB (nx T n ((nx T n c) + 1) + 1) (by omega) (FB.ar o8) (by omega) (by rw [o8 _ (by omega)]; exact hM6.at_)
          have hd8 := Eq.trans (by rw [o8 _ (by omega)] : I8 253 12 = I6 253 12) d6
          refine Sx.aload_n dX12_readStep_79 rfl ?_
          refine Sx.getfV (v := (iI (-1))) dX12_readStep_80 lkf_X12_141_12 (o_253 W) hf8 ?_
          refine Sx.iconst (v := (iI (-1))) dX12_readStep_83 (by decide) ?_
          refine Sx.icmp_neV (t := 104) dX12_readStep_84 (by decide) (vZ (by decide)) (vZ (by decide)) (fun c84 => False.elim (by omega)) (fun c84 => ?_)
          refine Sx.iload_n dX12_readStep_87 rfl ?_
          refine Sx.iconst (v := (nI 1)) dX12_readStep_88 (by decide) ?_
          refine Sx.icmp_neV (t := 104) dX12_readStep_89 (by decide) (vZ (by omega)) (vN (by decide)) (fun c89 => ?_) (fun c89 => ?_)
          · refine Sx.vret dX12_readStep_104 rfl ?_
            have hd2 : dgs (stpW T n c - 1) = 1 := by unfold dgs; rw [if_neg (by omega), if_pos (by omega)]
            obtain ⟨z1, z2, z3, z4⟩ := stp1 hnz hd2 x6
            exact hyes z1 I8 hF8 (by rw [z2]; exact hM8) hf8 hd8 (by rw [e8, g6.1 264 (by omega), e5, e4, e3, o2 264 (by omega), g1.1 264 (by omega)]; all_goals (try simp only [upd]); all_goals (repeat' split); all_goals first | rfl | (exfalso; omega) | contradiction | exact eZN (by omega)) (by rw [z3]; rw [e8, g6.1 264 (by omega), e5, e4, e3, o2 264 (by omega), g1.1 264 (by omega)]; all_goals (try simp only [upd]); all_goals (repeat' split); all_goals first | rfl | (exfalso; omega) | contradiction | fail) (by rw [z4]; rw [e8, g6.1 264 (by omega), e5, e4, e3, o2 264 (by omega), g1.1 264 (by omega)]; all_goals (try simp only [upd]); all_goals (repeat' split); all_goals first | rfl | (exfalso; omega) | contradiction | fail) (fun q hq => by rw [e8, g6.1 264 (by omega), e5, e4, e3, o2 264 (by omega), g1.1 264 (by omega)]; all_goals (try simp only [upd]); all_goals (repeat' split); all_goals first | rfl | (exfalso; omega) | contradiction | fail)
          · refine Sx.aload_n dX12_readStep_92 rfl ?_
            refine Sx.getfR dX12_readStep_93 lkf_X12_55_12 (o_253 W) (r_253_24 W) ?_
            refine Sx.iload_n dX12_readStep_96 rfl ?_
            refine Sx.iconst (v := (nI 2)) dX12_readStep_97 (by decide) ?_
            refine Sx.iaddN dX12_readStep_98 ?_
            refine Sx.aload_n dX12_readStep_99 rfl ?_
            refine Sx.callV0 dX12_readStep_100 lkv_X12_279 (rcv_12 (o_253 W)) (by decide) (by decide) (Nat.le_of_ble_eq_true rfl) rfl rfl (k_digit W hM8 hf8 hd8 (fun x9 I9 g9 f9 => ?_) (fun x9 I9 g9 hM9 f9 d9 => ?_))
            · skip
              have hF9 := (hF8).tr (FB.of g9)
              have hxx9 := nx_b T n (nx T n ((nx T n c) + 1) + 1)
              refine Sx.iastN dX12_readStep_103 (a_264 W) (by omega) (by decide) (fun I10 e10 o10 => ?_)
              have hF10 := (hF9).tr (FB.ar o10)
              have hf10 := Eq.trans (by rw [o10 _ (by omega)] : I10 253 11 = I9 253 11) f9
              refine Sx.vret dX12_readStep_104 rfl ?_
              have hd2 : dgs (stpW T n c - 1) = 2 := by unfold dgs; rw [if_pos (by omega)]
              obtain ⟨z1, z2⟩ := stp2f hnz hd2 x6 x9
              exact hno z1 I10 hF10 (by rw [z2]; exact hf10) (fun q hq => by rw [e10, g9.1 264 (by omega), e8, g6.1 264 (by omega), e5, e4, e3, o2 264 (by omega), g1.1 264 (by omega)]; all_goals (try simp only [upd]); all_goals (repeat' split); all_goals first | rfl | (exfalso; omega) | contradiction | fail)
            · skip
              have hF9 := (hF8).tr (FB.of g9)
              have hxx9 := nx_b T n (nx T n ((nx T n c) + 1) + 1)
              have hss9 := sgn_or T n (nx T n (nx T n ((nx T n c) + 1) + 1))
              have hy9 := (isDN_iff _).mp x9
              have hk9 := lkN_or T n (nx T n (nx T n ((nx T n c) + 1) + 1) + 1)
              have ht9 := hM9.2.2.2.2.2.2.2.1 (nx T n (nx T n ((nx T n c) + 1) + 1) + 1)
              have hc9 := hM9.2.2.2.2.2.2.1
              have hn9 := hM9.2.2.2.2.2.1
              have hs9 := sgn_or T n (nx T n (nx T n ((nx T n c) + 1) + 1) + 1)
              refine Sx.iastN dX12_readStep_103 (a_264 W) (by omega) (by decide) (fun I11 e11 o11 => ?_)
              have hF11 := (hF9).tr (FB.ar o11)
              have hf11 := Eq.trans (by rw [o11 _ (by omega)] : I11 253 11 = I9 253 11) f9
              have hM11 : MR R I11 tx b n (nx T n (nx T n ((nx T n c) + 1) + 1) + 1) T := hM9.mvB (nx T n (nx T n ((nx T n c) + 1) + 1) + 1) (by omega) (FB.ar o11) (by omega) (by rw [o11 _ (by omega)]; exact hM9.at_)
              have hd11 := Eq.trans (by rw [o11 _ (by omega)] : I11 253 12 = I9 253 12) d9
              refine Sx.vret dX12_readStep_104 rfl ?_
              have hd2 : dgs (stpW T n c - 1) = 2 := by unfold dgs; rw [if_pos (by omega)]
              obtain ⟨z1, z2, z3, z4⟩ := stp2 hnz hd2 x6 x9
              exact hyes z1 I11 hF11 (by rw [z2]; exact hM11) hf11 hd11 (by rw [e11, g9.1 264 (by omega), e8, g6.1 264 (by omega), e5, e4, e3, o2 264 (by omega), g1.1 264 (by omega)]; all_goals (try simp only [upd]); all_goals (repeat' split); all_goals first | rfl | (exfalso; omega) | contradiction | exact eZN (by omega)) (by rw [z3]; rw [e11, g9.1 264 (by omega), e8, g6.1 264 (by omega), e5, e4, e3, o2 264 (by omega), g1.1 264 (by omega)]; all_goals (try simp only [upd]); all_goals (repeat' split); all_goals first | rfl | (exfalso; omega) | contradiction | fail) (by rw [z4]; rw [e11, g9.1 264 (by omega), e8, g6.1 264 (by omega), e5, e4, e3, o2 264 (by omega), g1.1 264 (by omega)]; all_goals (try simp only [upd]); all_goals (repeat' split); all_goals first | rfl | (exfalso; omega) | contradiction | fail) (fun q hq => by rw [e11, g9.1 264 (by omega), e8, g6.1 264 (by omega), e5, e4, e3, o2 264 (by omega), g1.1 264 (by omega)]; all_goals (try simp only [upd]); all_goals (repeat' split); all_goals first | rfl | (exfalso; omega) | contradiction | fail)
      · have hd0 : dgs (stpW T n c - 1) = 0 := by unfold dgs; rw [if_neg (by omega), if_neg (by omega)]
        refine Sx.vret dX12_readStep_66 rfl ?_
        obtain ⟨z1, z2, z3, z4⟩ := stp0 hnz hd0
        exact hyes z1 I5 hF5 (by rw [z2]; exact hM5) hf5 hd5 (by rw [e5, e4, e3, o2 264 (by omega), g1.1 264 (by omega)]; all_goals (try simp only [upd]); all_goals (repeat' split); all_goals first | rfl | (exfalso; omega) | contradiction | exact eZN (by omega)) (by rw [z3]; rw [e5, e4, e3, o2 264 (by omega), g1.1 264 (by omega)]; all_goals (try simp only [upd]); all_goals (repeat' split); all_goals first | rfl | (exfalso; omega) | contradiction | fail) (by rw [z4]; rw [e5, e4, e3, o2 264 (by omega), g1.1 264 (by omega)]; all_goals (try simp only [upd]); all_goals (repeat' split); all_goals first | rfl | (exfalso; omega) | contradiction | fail) (fun q hq => by rw [e5, e4, e3, o2 264 (by omega), g1.1 264 (by omega)]; all_goals (try simp only [upd]); all_goals (repeat' split); all_goals first | rfl | (exfalso; omega) | contradiction | fail)
  · refine Sx.aload_n dX12_readStep_16 rfl ?_
    refine Sx.callV0 dX12_readStep_17 lkv_X12_147 (rcv_12 (o_253 W)) (by decide) (by decide) (Nat.le_of_ble_eq_true rfl) rfl rfl (k_fails W hM1 hf1 (fun I12 g12 f12 d12 a12 => ?_))
    have hF12 := (hF1).tr (FB.of g12)
    refine Sx.pop dX12_readStep_20 rfl ?_
    refine Sx.vret dX12_readStep_21 rfl ?_
    exact hno (by rw [stpK, show stpW T n c = 0 by omega]; rfl) I12 hF12 (by rw [stpE, if_pos (show stpW T n c = 0 by omega)]; exact f12) (fun q hq => by rw [g12.1 264 (by omega), g1.1 264 (by omega)]; all_goals (try simp only [upd]); all_goals (repeat' split); all_goals first | rfl | (exfalso; omega) | contradiction | fail)
