/-! the trial of the reference goes on up to the year's end -/
theorem pd_145 (P : Nat → Nat) (w : Wt) (F : Nat → Nat) (h34 : P 34 ≤ 6) : pdN P w F 145 = if P 0 ≤ F 145 + 1 then 0 else F 145 + 1 := by
  unfold pdN
  split
  · unfold eyN upn trnN
    rw [if_neg (by omega), if_neg (by omega), if_neg (by omega), if_pos (by omega)]
  · unfold nextN upn
    rw [if_pos rfl]
theorem seen_o {P : Nat → Nat} {w : Wt} {F : Nat → Nat} (h35 : P 35 ≤ 6) {q : Nat} (h1 : q ≠ 142) (h2 : ¬ (6 ≤ q ∧ q < 12)) (h3 : q ≠ 18 + F 145) (h4 : q ≠ 48 + F 145) : seenN P w F q = F q := by
  unfold seenN
  rw [brs_o _ _ _ _ _ h1 (by omega)]
  unfold upn
  rw [if_neg h4, if_neg h3]
theorem pd_144 {P : Nat → Nat} {w : Wt} {F : Nat → Nat} (h34 : P 34 ≤ 6) (h35 : P 35 ≤ 6) (h : F 145 < 30) : pdN P w F 144 = if P 0 ≤ F 145 + 1 then F 144 + 1 else F 144 := by
  have e : nextN (seenN P w F) (F 145 + 1) 144 = F 144 := by
    unfold nextN upn
    rw [if_neg (by omega), if_neg (by omega), if_neg (by omega)]
    exact seen_o h35 (by omega) (by omega) (by omega) (by omega)
  unfold pdN
  split
  · unfold eyN upn trnN
    rw [if_neg (by omega), if_neg (by omega), if_neg (by omega), if_neg (by omega), if_neg (by omega), if_pos rfl, e]
  · exact e
/-- days pass until the year's first one -/
def gyR (P : Nat → Nat) (w : Wt) : Nat → (Nat → Nat) → Nat → Nat
  | 0, F => F
  | n + 1, F => if pdN P w F 145 = 0 then pdN P w F else gyR P w n (pdN P w F)
def goY (P : Nat → Nat) (w : Wt) (F : Nat → Nat) : Nat → Nat := gyR P w (P 0 - F 145) F
/-- the frame of what works on the trial -/
def FT (R : Rt) (I : It) (L : Lt) (R' : Rt) (I' : It) (L' : Lt) : Prop := (∀ q, q ≠ 253 ∧ q ≠ 257 ∧ q ≠ 270 ∧ q ≠ 267 → I' q = I q) ∧ (∀ j, gfJ j → j ≠ 39 → I' 253 j = I 253 j) ∧ (∀ q, q ≠ 269 → L' q = L q) ∧ ∀ a j, ¬ (a = 253 ∧ j = 5) → R' a j = R a j
theorem FT.rf (R : Rt) (I : It) (L : Lt) : FT R I L R I L := ⟨fun _ _ => rfl, fun _ _ _ => rfl, fun _ _ => rfl, fun _ _ _ => rfl⟩
theorem FT.tr {R R1 R2 : Rt} {I I1 I2 : It} {L L1 L2 : Lt} (h : FT R I L R1 I1 L1) (g : FT R1 I1 L1 R2 I2 L2) : FT R I L R2 I2 L2 := ⟨fun q hq => (g.1 q hq).trans (h.1 q hq), fun j hj h39 => (g.2.1 j hj h39).trans (h.2.1 j hj h39), fun q hq => (g.2.2.1 q hq).trans (h.2.2.1 q hq), fun a j hj => (g.2.2.2 a j hj).trans (h.2.2.2 a j hj)⟩
set_option maxRecDepth 20000 in
set_option maxHeartbeats 1000000 in
theorem l_gy {G : Gt} {l : Launch} {Z : Zt} {post : Pt'} {V : Vt} {FF : Nat → Nat} {R0 : Rt} {I0 : It} {L0 : Lt} (hP : PB (V 2)) (hG : ∀ i, i < V 0 1 → LOK (V (10 + i)) (V (10 + i) 240)) (hV : V 0 1 ≤ 4 ∧ V 0 2 ≤ V 0 1) (h : ∀ I' R' L', MI0 V I' L' → MW (I' 267) FF → FT R0 I0 L0 R' I' L' → post none Z R' I' L') :
    ∀ (k n0 : Nat), n0 < k → ∀ (Gg : Nat → Nat) (I : It) (R : Rt) (L : Lt), WF Z R → MI0 V I L → MW (I 267) Gg → SB (V 2) Gg → (Gg 145 ≠ 0 → V 2 0 - Gg 145 ≤ n0) → (Gg 145 ≠ 0 → Gg 144 + 1 < 1048576) → FT R0 I0 L0 R I L → (if Gg 145 = 0 then Gg else gyR (V 2) (wlV V) n0 Gg) = FF → Sx G l mX12_goYear 38 0 0 9 [(0, .ref 253)] [] Z R I L post := by
  obtain ⟨p1, p2, p3, p4, p5, p6, p7, p8, p9⟩ := id hP
  intro k
  induction k with
  | zero => intro n0 h1; omega
  | succ k ih =>
    intro n0 h1 Gg I R L W hM hF hS hn hy hT hR
    have hd := hS.2.2.2.2.2.2.2.2.2.2.2.2.2.1
    refine Sx.aload_n dX12_goYear_9 rfl ?_
    refine Sx.getfR dX12_goYear_10 lkf_X12_64_12 (o_253 W) (r_253_33 W) ?_
    refine Sx.bipush (v := (nI 25)) dX12_goYear_13 (by decide) ?_
    refine Sx.ialdN dX12_goYear_15 (a_267 W) (by decide) (by decide) (v := (nI (Gg 145))) hF.2.2.2.2.2.2.2.2.1 ?_
    refine Sx.if_leV (t := 31) dX12_goYear_16 (by decide) (vN (by omega)) (fun c16 => ?_) (fun c16 => ?_)
    · refine Sx.vret dX12_goYear_31 rfl ?_
      rw [if_pos (by omega)] at hR
      subst hR
      exact h I R L hM hF hT
    · obtain ⟨n, rfl⟩ : ∃ z, n0 = z + 1 := ⟨n0 - 1, by have := hn (by omega); omega⟩
      have hyy := hy (by omega)
      have hnn := hn (by omega)
      refine Sx.aload_n dX12_goYear_19 rfl ?_
      refine Sx.aload_n dX12_goYear_20 rfl ?_
      refine Sx.getfR dX12_goYear_21 lkf_X12_64_12 (o_253 W) (r_253_33 W) ?_
      refine Sx.callV1 dX12_goYear_24 lkv_X12_372 (rcv_12 (o_253 W)) (by decide) (by decide) (Nat.le_of_ble_eq_true rfl) rfl rfl (k_passes W hM hP hS hF (Or.inr rfl) hG hV (fun I1 R1 L1 hM1 hF1 q1 q2 q3 q4 q5 q6 => ?_))
      have W := W.fr q5
      have hT1 : FT R0 I0 L0 R1 I1 L1 := hT.tr ⟨q1, q2, q4, q5⟩
      have hS1 := pdN_SB (w := wlV V) hP hS (by omega)
      have h5 := pd_145 (V 2) (wlV V) Gg p6
      have h4 := pd_144 (P := V 2) (w := wlV V) (F := Gg) p6 p8 (by omega)
      refine Sx.istore_n (lv' := [(1, .int (nI (litN (V 2) (wlV V) Gg (Gg 145) (Gg 139) (upc (V 2) Gg)))), (0, .ref 253)]) dX12_goYear_27 (by decide) rfl ?_
      refine Sx.goto (t := 9) dX12_goYear_28 (by decide) ?_
      refine Sx.sub' [(0, .ref 253)] rfl ?_
      refine ih n (by omega) (pdN (V 2) (wlV V) Gg) I1 R1 L1 W hM1 hF1 hS1 ?_ ?_ hT1 ?_
      · intro z; rw [h5] at z ⊢; split <;> first | omega | (rename_i q; rw [if_pos q] at z; omega)
      · intro z
        rw [h5] at z
        have : ¬ V 2 0 ≤ Gg 145 + 1 := fun q => z (if_pos q)
        rw [h4, if_neg this]
        exact hy (by omega)
      · by_cases z : pdN (V 2) (wlV V) Gg 145 = 0
        · rw [if_pos z]
          rw [if_neg (by omega), gyR, if_pos z] at hR
          exact hR
        · rw [if_neg z]
          rw [if_neg (by omega), gyR, if_neg z] at hR
          exact hR
set_option maxRecDepth 20000 in
set_option maxHeartbeats 1000000 in
theorem k_goYear {G : Gt} {l : Launch} {Z : Zt} {R : Rt} {I : It} {L : Lt} {post : Pt'} {V : Vt} {F : Nat → Nat} (W : WF Z R) (hM : MI0 V I L) (hP : PB (V 2)) (hG : ∀ i, i < V 0 1 → LOK (V (10 + i)) (V (10 + i) 240)) (hV : V 0 1 ≤ 4 ∧ V 0 2 ≤ V 0 1) (hS : SB (V 2) F) (hF : MW (I 267) F) (hy : F 144 + 1 < 1048576) (h : ∀ I' R' L', MI0 V I' L' → MW (I' 267) (goY (V 2) (wlV V) F) → FT R I L R' I' L' → post none Z R' I' L') : Cx G l mX12_goYear 38 0 0 [.ref 253] Z R I L post := by
  refine Cx.of (by decide +kernel) (by exact Nat.le_of_ble_eq_true rfl) ?_
  obtain ⟨p1, p2, p3, p4, p5, p6, p7, p8, p9⟩ := id hP
  have hd := hS.2.2.2.2.2.2.2.2.2.2.2.2.2.1
  refine Sx.aload_n dX12_goYear_0 rfl ?_
  refine Sx.aload_n dX12_goYear_1 rfl ?_
  refine Sx.getfR dX12_goYear_2 lkf_X12_64_12 (o_253 W) (r_253_33 W) ?_
  refine Sx.callV1 dX12_goYear_5 lkv_X12_372 (rcv_12 (o_253 W)) (by decide) (by decide) (Nat.le_of_ble_eq_true rfl) rfl rfl (k_passes W hM hP hS hF (Or.inr rfl) hG hV (fun I1 R1 L1 hM1 hF1 q1 q2 q3 q4 q5 q6 => ?_))
  have W := W.fr q5
  have hT1 : FT R I L R1 I1 L1 := ⟨q1, q2, q4, q5⟩
  have hS1 := pdN_SB (w := wlV V) hP hS (by omega)
  have h5 := pd_145 (V 2) (wlV V) F p6
  have h4 := pd_144 (P := V 2) (w := wlV V) (F := F) p6 p8 (by omega)
  refine Sx.istore_n (lv' := [(1, .int (nI (litN (V 2) (wlV V) F (F 145) (F 139) (upc (V 2) F)))), (0, .ref 253)]) dX12_goYear_8 (by decide) rfl ?_
  refine Sx.sub' [(0, .ref 253)] rfl ?_
  refine l_gy hP hG hV h (V 2 0) (V 2 0 - F 145 - 1) (by omega) (pdN (V 2) (wlV V) F) I1 R1 L1 W hM1 hF1 hS1 ?_ ?_ hT1 ?_
  · intro z
    rw [h5] at z ⊢
    have : ¬ V 2 0 ≤ F 145 + 1 := fun q => z (if_pos q)
    rw [if_neg this]
    omega
  · intro z
    rw [h5] at z
    have : ¬ V 2 0 ≤ F 145 + 1 := fun q => z (if_pos q)
    rw [h4, if_neg this]
    exact hy
  · show _ = gyR (V 2) (wlV V) (V 2 0 - F 145) F
    rw [show V 2 0 - F 145 = (V 2 0 - F 145 - 1) + 1 by omega, gyR, Nat.add_sub_cancel]
