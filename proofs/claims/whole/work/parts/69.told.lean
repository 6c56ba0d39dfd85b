/-! what is told of kinds -/
set_option maxRecDepth 20000 in
set_option maxHeartbeats 1000000 in
theorem l_pty {G : Gt} {l : Launch} {Z : Zt} {R : Rt} {I : It} {L : Lt} {post : Pt'} {V : Vt} {F : Nat → Nat} {c : Nat} (W : WF Z R) (hM : MI0 V I L) (h35 : V 2 35 ≤ 6) (hF : MW (I 266) F) (hf : ∀ j, j < 6 → F j < 1000) (hc : c < 1000) (h : post (some (.int (nI (partyN F c (V 2 35))))) Z R I L) :
    ∀ (k j : Nat), j ≤ V 2 35 → V 2 35 < j + k → ∀ b, b = partyN F c j → Sx G l mX12_party 1 0 0 4 [(3, .int (nI j)), (2, .int (nI b)), (0, .ref 253), (1, .int (nI c))] [] Z R I L post := by
  intro k
  induction k with
  | zero => intro j h1 h2; omega
  | succ k ih =>
    intro j h1 h2 b hb0
    have hfj := hf j
    refine Sx.iload_n dX12_party_4 rfl ?_
    refine Sx.aload_n dX12_party_5 rfl ?_
    refine Sx.getfV (v := (nI (V 2 35))) dX12_party_6 lkf_X12_307_12 (o_253 W) hM.1.2.2.2.1 ?_
    refine Sx.icmp_geV (t := 38) dX12_party_9 (by decide) (vN (by omega)) (vN (by omega)) (fun c9 => ?_) (fun c9 => ?_)
    · refine Sx.iload_n dX12_party_38 rfl ?_
      refine Sx.iret dX12_party_39 rfl rfl ?_
      have hj : j = V 2 35 := by omega
      subst hj
      subst hb0
      exact h
    · refine Sx.iload_n dX12_party_12 rfl ?_
      refine Sx.aload_n dX12_party_13 rfl ?_
      refine Sx.getfR dX12_party_14 lkf_X12_61_12 (o_253 W) (r_253_32 W) ?_
      refine Sx.iload_n dX12_party_17 rfl ?_
      refine Sx.ialdN dX12_party_18 (a_266 W) (by omega) (by decide) (v := (nI (F j))) (hF.1 j (by omega)) ?_
      refine Sx.iload_n dX12_party_19 rfl ?_
      refine Sx.icmp_neV (t := 29) dX12_party_20 (by decide) (vN (by omega)) (vN (by omega)) (fun c20 => ?_) (fun c20 => ?_)
      · refine Sx.iconst (v := (nI 0)) dX12_party_29 (by decide) ?_
        refine Sx.iorN dX12_party_30 ?_
        refine Sx.istore_n (lv' := [(2, .int (nI (b ||| 0))), (3, .int (nI j)), (0, .ref 253), (1, .int (nI c))]) dX12_party_31 (by decide) rfl ?_
        refine Sx.iinc (v := (nI (j + 1))) (lv' := [(3, .int (nI (j + 1))), (2, .int (nI (b ||| 0))), (0, .ref 253), (1, .int (nI c))]) dX12_party_32 rfl (nI_add j 1) (by decide) rfl ?_
        refine Sx.goto (t := 4) dX12_party_35 (by decide) ?_
        refine Sx.sub' [(3, .int (nI (j + 1))), (2, .int (nI (b ||| 0))), (0, .ref 253), (1, .int (nI c))] rfl ?_
        refine ih (j + 1) (by omega) (by omega) _ ?_
        rw [partyN, hb0]
        first | rw [if_pos (by omega)] | rw [if_neg (by omega)]
      · refine Sx.iconst (v := (nI 1)) dX12_party_23 (by decide) ?_
        refine Sx.iload_n dX12_party_24 rfl ?_
        refine Sx.ishl1 dX12_party_25 (by omega) ?_
        refine Sx.goto (t := 30) dX12_party_26 (by decide) ?_
        refine Sx.iorN dX12_party_30 ?_
        refine Sx.istore_n (lv' := [(2, .int (nI (b ||| (2 ^ j)))), (3, .int (nI j)), (0, .ref 253), (1, .int (nI c))]) dX12_party_31 (by decide) rfl ?_
        refine Sx.iinc (v := (nI (j + 1))) (lv' := [(3, .int (nI (j + 1))), (2, .int (nI (b ||| (2 ^ j)))), (0, .ref 253), (1, .int (nI c))]) dX12_party_32 rfl (nI_add j 1) (by decide) rfl ?_
        refine Sx.goto (t := 4) dX12_party_35 (by decide) ?_
        refine Sx.sub' [(3, .int (nI (j + 1))), (2, .int (nI (b ||| (2 ^ j)))), (0, .ref 253), (1, .int (nI c))] rfl ?_
        refine ih (j + 1) (by omega) (by omega) _ ?_
        rw [partyN, hb0]
        first | rw [if_pos (by omega)] | rw [if_neg (by omega)]
set_option maxRecDepth 20000 in
set_option maxHeartbeats 1000000 in
theorem k_party {G : Gt} {l : Launch} {Z : Zt} {R : Rt} {I : It} {L : Lt} {post : Pt'} {V : Vt} {F : Nat → Nat} {c : Nat} (W : WF Z R) (hM : MI0 V I L) (h35 : V 2 35 ≤ 6) (hF : MW (I 266) F) (hf : ∀ j, j < 6 → F j < 1000) (hc : c < 1000) (h : post (some (.int (nI (partyN F c (V 2 35))))) Z R I L) : Cx G l mX12_party 1 0 0 [.ref 253, .int (nI c)] Z R I L post := by
  refine Cx.of (by decide +kernel) (by exact Nat.le_of_ble_eq_true rfl) ?_
  refine Sx.iconst (v := (nI 0)) dX12_party_0 (by decide) ?_
  refine Sx.istore_n (lv' := [(2, .int (nI 0)), (0, .ref 253), (1, .int (nI c))]) dX12_party_1 (by decide) rfl ?_
  refine Sx.iconst (v := (nI 0)) dX12_party_2 (by decide) ?_
  refine Sx.istore_n (lv' := [(3, .int (nI 0)), (2, .int (nI 0)), (0, .ref 253), (1, .int (nI c))]) dX12_party_3 (by decide) rfl ?_
  refine Sx.sub' [(3, .int (nI 0)), (2, .int (nI 0)), (0, .ref 253), (1, .int (nI c))] rfl ?_
  exact l_pty W hM h35 hF hf hc h (V 2 35 + 1) 0 (by omega) (by omega) 0 rfl
