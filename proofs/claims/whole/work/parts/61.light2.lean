/-! the reference's lights -/
theorem vabs {x : Int32} {a : Int} (h : VZ x a) (h1 : -2147483648 < a) : iabs x = iI (if 0 ≤ a then a else -a) := by
  have r := vz_ok h
  rw [vz_i h, iabs_i h1 r.2]
theorem upN2 : ∀ n, n < 7 → ∀ b, b < 64 → nI (2 ^ n - 1) &&& (nI b ^^^ iI (-1)) = nI (upN n b) := by decide +kernel
theorem upN_lt (n b : Nat) (hn : n < 7) (hb : b < 64) : upN n b < 64 := (upN_bit n hn b hb).2
theorem k_bitc {G : Gt} {l : Launch} {Z : Zt} {R : Rt} {I : It} {L : Lt} {post : Pt'} {x : Nat} (hx : x < 64) (h : post (some (.int (nI (popN x)))) Z R I L) : Cx G l mJ6_bitCount_0f7a4 1 0 0 [.int (nI x)] Z R I L post := c_bitc (by rw [(popN_bit x hx).1]; exact h)
theorem wrow {Z : Zt} {R : Rt} (W : WF Z R) {w : Nat} (hw : w = 266 ∨ w = 267) : ∃ N, ar Z w 50 N ∧ 236 ≤ N ∧ N < 2147483648 := by
  rcases hw with e | e <;> subst e
  · exact ⟨417, a_266 W, by decide, by decide⟩
  · exact ⟨236, a_267 W, by decide, by decide⟩
theorem gv_b {P F : Nat → Nat} (h : SB P F) : gvN F < 7 := by
  unfold gvN
  split
  · omega
  · next e =>
    have h1 := h.2.2.2.2.2.2.2.2.2.2.2.1
    have h2 := h.2.2.1 (F 143 - 1) (by omega)
    rw [show 11 + F 143 = 12 + (F 143 - 1) by omega]
    omega
theorem gv_y {F : Nat → Nat} (h : F 143 ≠ 0) : gvN F = F (11 + F 143) := if_neg h
theorem gv_n {F : Nat → Nat} (h : F 143 = 0) : gvN F = 0 := if_pos h
theorem wor_n {V : Vt} {F : Nat → Nat} {d f u : Nat} (h : V 0 2 = 0) : worV (V 2) (wlV V) F d f u = 2 * (if 0 ≤ (d : Int) - (V 2 0 / 2 : Nat) then (d : Int) - (V 2 0 / 2 : Nat) else -((d : Int) - (V 2 0 / 2 : Nat))) + 4 - f := by
  unfold wlV
  rw [if_pos h]
  rfl
theorem wor_y {V : Vt} {F : Nat → Nat} {d f u : Nat} (h : V 0 2 ≠ 0) : worV (V 2) (wlV V) F d f u = lawG (V (10 + (V 0 2 - 1))) d (V 2 0) f u (F 144 % 100) (gvN F) := by
  unfold wlV
  rw [if_neg h]
  rfl
theorem law_b (row : Nat → Nat) {d e f u y r : Nat} (h : d < 1000 ∧ e < 1000 ∧ f < 1000 ∧ u < 1000 ∧ y < 1000 ∧ r < 1000) : bd6 (lawG row d e f u y r) := by
  have he := env_bd h
  have b0 : bd6 0 := by unfold bd6; omega
  have hQ : ∀ rr w, (pcl.pclQ row (row 240) (envN d e f u y r) 4000 rr).2.2 = some w → bd6 w := by
    intro rr w
    unfold pcl.pclQ
    split
    · intro q; cases q
    · split
      · intro q; cases q
      · split
        · intro q; cases q
        · next h3 =>
          show (if _ then none else some _) = some w → _
          split
          · intro q; cases q
          · intro q; cases q; exact (pz_bd he 4000 2 0 _ 0 b0 (by cases hx : (pz row (row 240) (envN d e f u y r) 4000 2 0 (nx row (row 240) rr.2.1 + 1) 0).1 with | true => rfl | false => exact absurd hx h3)).2
  have hP : ∀ c w, (pcl row (row 240) (envN d e f u y r) 4000 c).2.2 = some w → bd6 w := by
    intro c w
    unfold pcl
    split
    · intro q; cases q
    · split
      · intro q; cases q
      · unfold pcl.pclB
        split
        · exact hQ _ w
        · split
          · intro q; cases q
          · next h3 =>
            split
            · exact hQ _ w
            · intro q; cases q; exact (pz_bd he 4000 2 0 _ 0 b0 (by cases hx : (pz row (row 240) (envN d e f u y r) 4000 2 0 (nx row (row 240) (nx row (row 240) (nx row (row 240) c + 1) + 1)) 0).1 with | true => rfl | false => exact absurd hx h3)).2
  have hW : ∀ q c o, (∀ w, o = some w → bd6 w) → ∀ w, (plw row (row 240) (envN d e f u y r) 4000 q c o).2.2 = some w → bd6 w := by
    intro q
    induction q with
    | zero => intro c o ho w hw; exact ho w hw
    | succ q ih =>
      intro c o ho w
      have hor : ∀ w, o.or (pcl row (row 240) (envN d e f u y r) 4000 c).2.2 = some w → bd6 w := by
        intro w hw
        cases o with
        | none => exact hP c w hw
        | some x => exact ho w hw
      unfold plw
      split
      · intro z; cases z
      · split
        · exact ih _ _ hor w
        · split
          · exact hor w
          · intro z; cases z
  unfold lawG lawE
  cases hc : (plw row (row 240) (envN d e f u y r) 4000 (row 240 + 1) 0 none).2.2 with
  | none => exact b0
  | some w => exact hW _ _ _ (fun w q => by cases q) w hc
theorem wor_b {V : Vt} {F : Nat → Nat} {d f u : Nat} (hP : V 2 0 ≤ 30) (hS : SB (V 2) F) (hd : d < 1000) (hf : f < 1000) (hu : u < 1000) : bd6 (worV (V 2) (wlV V) F d f u) := by
  by_cases h : V 0 2 = 0
  · rw [wor_n h]
    unfold bd6
    split <;> omega
  · rw [wor_y h]
    exact law_b _ ⟨hd, by omega, hf, hu, by omega, by have := gv_b hS; omega⟩
set_option maxRecDepth 20000 in
set_option maxHeartbeats 1000000 in
theorem k_isPerson {G : Gt} {l : Launch} {Z : Zt} {R : Rt} {I : It} {L : Lt} {post : Pt'} {V : Vt} {x : Int32} (W : WF Z R) (hM : MI0 V I L) (hb : V 2 35 < 2147483648) (h : post (some (.int (b2i (decide (0 ≤ x.toInt ∧ x.toInt < (V 2 35 : Int)))))) Z R I L) : Cx G l mX12_isPerson 1 0 0 [.ref 253, .int x] Z R I L post := by
  refine Cx.of (by decide +kernel) (by exact Nat.le_of_ble_eq_true rfl) ?_
  have hx := x_rg x
  refine Sx.iload_n dX12_isPerson_0 rfl ?_
  refine Sx.if_ltV (t := 16) dX12_isPerson_1 (by decide) (vX x) (fun c1 => ?_) (fun c1 => ?_)
  · refine Sx.iconst (v := (nI 0)) dX12_isPerson_16 (by decide) ?_
    refine Sx.top (show _ = b2i false from rfl) ?_
    refine Sx.iret dX12_isPerson_17 rfl (b2i_n _) ?_
    exact pBB (decide_eq_false (by omega)) h
  · refine Sx.iload_n dX12_isPerson_4 rfl ?_
    refine Sx.aload_n dX12_isPerson_5 rfl ?_
    refine Sx.getfV (v := (nI (V 2 35))) dX12_isPerson_6 lkf_X12_307_12 (o_253 W) hM.1.2.2.2.1 ?_
    refine Sx.icmp_geV (t := 16) dX12_isPerson_9 (by decide) (vX x) (vN (by omega)) (fun c9 => ?_) (fun c9 => ?_)
    · refine Sx.iconst (v := (nI 0)) dX12_isPerson_16 (by decide) ?_
      refine Sx.top (show _ = b2i false from rfl) ?_
      refine Sx.iret dX12_isPerson_17 rfl (b2i_n _) ?_
      exact pBB (decide_eq_false (by omega)) h
    · refine Sx.iconst (v := (nI 1)) dX12_isPerson_12 (by decide) ?_
      refine Sx.goto (t := 17) dX12_isPerson_13 (by decide) ?_
      refine Sx.top (show _ = b2i true from rfl) ?_
      refine Sx.iret dX12_isPerson_17 rfl (b2i_n _) ?_
      exact pBB (decide_eq_true (by omega)) h
set_option maxRecDepth 20000 in
set_option maxHeartbeats 1000000 in
theorem k_isKind {G : Gt} {l : Launch} {Z : Zt} {R : Rt} {I : It} {L : Lt} {post : Pt'} {V : Vt} {x : Int32} (W : WF Z R) (hM : MI0 V I L) (hb : V 2 34 < 2147483648) (h : post (some (.int (b2i (decide (0 ≤ x.toInt ∧ x.toInt < (V 2 34 : Int)))))) Z R I L) : Cx G l mX12_isKind 1 0 0 [.ref 253, .int x] Z R I L post := by
  refine Cx.of (by decide +kernel) (by exact Nat.le_of_ble_eq_true rfl) ?_
  have hx := x_rg x
  refine Sx.iload_n dX12_isKind_0 rfl ?_
  refine Sx.if_ltV (t := 16) dX12_isKind_1 (by decide) (vX x) (fun c1 => ?_) (fun c1 => ?_)
  · refine Sx.iconst (v := (nI 0)) dX12_isKind_16 (by decide) ?_
    refine Sx.top (show _ = b2i false from rfl) ?_
    refine Sx.iret dX12_isKind_17 rfl (b2i_n _) ?_
    exact pBB (decide_eq_false (by omega)) h
  · refine Sx.iload_n dX12_isKind_4 rfl ?_
    refine Sx.aload_n dX12_isKind_5 rfl ?_
    refine Sx.getfV (v := (nI (V 2 34))) dX12_isKind_6 lkf_X12_304_12 (o_253 W) hM.1.2.2.1 ?_
    refine Sx.icmp_geV (t := 16) dX12_isKind_9 (by decide) (vX x) (vN (by omega)) (fun c9 => ?_) (fun c9 => ?_)
    · refine Sx.iconst (v := (nI 0)) dX12_isKind_16 (by decide) ?_
      refine Sx.top (show _ = b2i false from rfl) ?_
      refine Sx.iret dX12_isKind_17 rfl (b2i_n _) ?_
      exact pBB (decide_eq_false (by omega)) h
    · refine Sx.iconst (v := (nI 1)) dX12_isKind_12 (by decide) ?_
      refine Sx.goto (t := 17) dX12_isKind_13 (by decide) ?_
      refine Sx.top (show _ = b2i true from rfl) ?_
      refine Sx.iret dX12_isKind_17 rfl (b2i_n _) ?_
      exact pBB (decide_eq_true (by omega)) h
set_option maxRecDepth 20000 in
set_option maxHeartbeats 1000000 in
theorem k_up {G : Gt} {l : Launch} {Z : Zt} {R : Rt} {I : It} {L : Lt} {post : Pt'} {V : Vt} {w : Nat} {F : Nat → Nat} (W : WF Z R) (hM : MI0 V I L) (hP : PB (V 2)) (hS : SB (V 2) F) (hF : MW (I w) F) (hw : w = 266 ∨ w = 267) (h : post (some (.int (nI (upN (V 2 35) (F 138))))) Z R I L) : Cx G l mX12_up 1 0 0 [.ref 253, .ref w] Z R I L post := by
  refine Cx.of (by decide +kernel) (by exact Nat.le_of_ble_eq_true rfl) ?_
  obtain ⟨f1, f2, f3, f4, f5, f6, f7, f8, f9, f10, f11, f12, f13, f14, f15, f16⟩ := id hS
  obtain ⟨p1, p2, p3, p4, p5, p6, p7, p8, p9⟩ := id hP
  obtain ⟨w1, w2, w3, w4, w5, w6, w7, w8, w9, w10, w11⟩ := id hF
  obtain ⟨N, hA, hN1, hN2⟩ := wrow W hw
  refine Sx.iconst (v := (nI 1)) dX12_up_0 (by decide) ?_
  refine Sx.aload_n dX12_up_1 rfl ?_
  refine Sx.getfV (v := (nI (V 2 35))) dX12_up_2 lkf_X12_307_12 (o_253 W) hM.1.2.2.2.1 ?_
  refine Sx.ishl1 dX12_up_5 (by omega) ?_
  refine Sx.iconst (v := (nI 1)) dX12_up_6 (by decide) ?_
  refine Sx.isubN dX12_up_7 (by have := Nat.two_pow_pos (V 2 35); omega) ?_
  refine Sx.aload_n dX12_up_8 rfl ?_
  refine Sx.bipush (v := (nI 18)) dX12_up_9 (by decide) ?_
  refine Sx.ialdN dX12_up_11 hA (by omega) hN2 (v := (nI (F 138))) w2 ?_
  refine Sx.iconst (v := (iI (-1))) dX12_up_12 (by decide) ?_
  refine Sx.ixor dX12_up_13 ?_
  refine Sx.top (show _ = (nI (F 138) ^^^ iI (-1)) from rfl) ?_
  refine Sx.iand dX12_up_14 ?_
  refine Sx.top (show _ = (nI (upN (V 2 35) (F 138))) from upN2 _ (by omega) _ (by omega)) ?_
  refine Sx.iret dX12_up_15 rfl rfl ?_
  exact h
set_option maxRecDepth 20000 in
set_option maxHeartbeats 1000000 in
theorem k_plainLight {G : Gt} {l : Launch} {Z : Zt} {R : Rt} {I : It} {L : Lt} {post : Pt'} {V : Vt} {w : Nat} {F : Nat → Nat} {day fog : Nat} (W : WF Z R) (hM : MI0 V I L) (hP : PB (V 2)) (hS : SB (V 2) F) (hF : MW (I w) F) (hw : w = 266 ∨ w = 267) (hG : ∀ i, i < V 0 1 → LOK (V (10 + i)) (V (10 + i) 240)) (hV : V 0 1 ≤ 4 ∧ V 0 2 ≤ V 0 1) (hdy : day < 30) (hfg : fog ≤ 9) (h : ∀ I' R' L', FL R I L R' I' L' → MLt (I' 257) → MEm V (L' 269) (I' 270) → post (some (.int (nI (clN (worV (V 2) (wlV V) F day fog (upc (V 2) F)))))) Z R' I' L') : Cx G l mX12_plainLight 34 0 0 [.ref 253, .ref w, .int (nI day), .int (nI fog)] Z R I L post := by
  refine Cx.of (by decide +kernel) (by exact Nat.le_of_ble_eq_true rfl) ?_
  obtain ⟨f1, f2, f3, f4, f5, f6, f7, f8, f9, f10, f11, f12, f13, f14, f15, f16⟩ := id hS
  obtain ⟨p1, p2, p3, p4, p5, p6, p7, p8, p9⟩ := id hP
  obtain ⟨w1, w2, w3, w4, w5, w6, w7, w8, w9, w10, w11⟩ := id hF
  obtain ⟨N, hA, hN1, hN2⟩ := wrow W hw
  have hu0 : upc (V 2) F ≤ 6 := (popN_bit _ (upN_lt _ _ (by omega) f7)).2
  have hu1 : popN (upN (V 2 35) (F 138)) ≤ 6 := hu0
  have hgb := gv_b hS
  refine Sx.iconst (v := (nI 2)) dX12_plainLight_0 (by decide) ?_
  refine Sx.iload_n dX12_plainLight_1 rfl ?_
  refine Sx.aload_n dX12_plainLight_2 rfl ?_
  refine Sx.getfR dX12_plainLight_3 lkf_X12_37_12 (o_253 W) (r_253_18 W) ?_
  refine Sx.iconst (v := (nI 0)) dX12_plainLight_6 (by decide) ?_
  refine Sx.ialdN dX12_plainLight_7 (a_258 W) (by decide) (by decide) (v := (nI (V 2 0))) (hM.2.2.2.1.1 0 (by decide)) ?_
  refine Sx.iconst (v := (nI 2)) dX12_plainLight_8 (by decide) ?_
  refine Sx.idivN dX12_plainLight_9 (by omega) (by decide) (by decide) ?_
  refine Sx.isubV dX12_plainLight_10 (vN (by omega)) (vN (by omega)) ?_
  refine Sx.mabs dX12_plainLight_11 lkm_X12_335 (by decide) (Nat.le_of_ble_eq_true rfl) ?_
  refine Sx.top (show _ = iI (if 0 ≤ (((day : Nat) : Int) - (((V 2 0) / 2 : Nat) : Int)) then (((day : Nat) : Int) - (((V 2 0) / 2 : Nat) : Int)) else -(((day : Nat) : Int) - (((V 2 0) / 2 : Nat) : Int))) from vabs (vZ (by omega)) (by omega)) ?_
  refine Sx.imulV dX12_plainLight_14 (vN (by decide)) (vZ (by omega)) ?_
  refine Sx.iconst (v := (nI 4)) dX12_plainLight_15 (by decide) ?_
  refine Sx.iaddV dX12_plainLight_16 (vZ (by omega)) (vN (by decide)) ?_
  refine Sx.iload_n dX12_plainLight_17 rfl ?_
  refine Sx.isubV dX12_plainLight_18 (vZ (by omega)) (vN (by omega)) ?_
  refine Sx.istore (lv' := [(4, .int (iI (((2 * (if 0 ≤ (((day : Nat) : Int) - (((V 2 0) / 2 : Nat) : Int)) then (((day : Nat) : Int) - (((V 2 0) / 2 : Nat) : Int)) else -(((day : Nat) : Int) - (((V 2 0) / 2 : Nat) : Int)))) + 4) - ((fog : Nat) : Int)))), (0, .ref 253), (1, .ref w), (2, .int (nI day)), (3, .int (nI fog))]) dX12_plainLight_19 (by decide) rfl ?_
  refine Sx.aload_n dX12_plainLight_21 rfl ?_
  refine Sx.getfV (v := (iI ((V 0 2 : Int) - 1))) dX12_plainLight_22 lkf_X12_70_12 (o_253 W) hM.1.2.2.2.2.2.1 ?_
  refine Sx.iconst (v := (iI (-1))) dX12_plainLight_25 (by decide) ?_
  refine Sx.icmp_eqV (t := 73) dX12_plainLight_26 (by decide) (vZ (by omega)) (vZ (by decide)) (fun c26 => ?_) (fun c26 => ?_)
  · refine Sx.sub' [(4, .int (iI (worV (V 2) (wlV V) F day fog (upc (V 2) F)))), (0, .ref 253), (1, .ref w), (2, .int (nI day)), (3, .int (nI fog))] (by rw [wor_n (show V 0 2 = 0 by omega)]; rfl) ?_
    have hwb := wor_b (u := upc (V 2) F) p2 hS (show day < 1000 by omega) (show fog < 1000 by omega) (by omega)
    unfold bd6 at hwb
    refine Sx.iconst (v := (nI 0)) dX12_plainLight_73 (by decide) ?_
    refine Sx.bipush (v := (nI 99)) dX12_plainLight_74 (by decide) ?_
    refine Sx.iload dX12_plainLight_76 rfl ?_
    refine Sx.mmin dX12_plainLight_78 lkm_X12_351 (by decide) (Nat.le_of_ble_eq_true rfl) ?_
    refine Sx.top (show _ = (imin 99 (iI (worV (V 2) (wlV V) F day fog (upc (V 2) F)))) from rfl) ?_
    refine Sx.mmax dX12_plainLight_81 lkm_X12_353 (by decide) (Nat.le_of_ble_eq_true rfl) ?_
    refine Sx.top (show _ = (nI (clN (worV (V 2) (wlV V) F day fog (upc (V 2) F)))) from clN_int (by omega) (by omega)) ?_
    refine Sx.iret dX12_plainLight_84 rfl rfl ?_
    exact h I R L (FL.rf R I L) hM.2.2.2.2.2.2.2.2.2.1 hM.2.2.2.2.2.2.2.2.2.2
  · refine Sx.aload_n dX12_plainLight_29 rfl ?_
    refine Sx.iload_n dX12_plainLight_30 rfl ?_
    refine Sx.iload_n dX12_plainLight_31 rfl ?_
    refine Sx.aload_n dX12_plainLight_32 rfl ?_
    refine Sx.aload_n dX12_plainLight_33 rfl ?_
    refine Sx.callV1 dX12_plainLight_34 lkv_X12_338 (rcv_12 (o_253 W)) (by decide) (by decide) (Nat.le_of_ble_eq_true rfl) rfl rfl (k_up W hM hP hS hF hw ?_)
    refine Sx.callS1 dX12_plainLight_37 lkc_X12_342  (by decide) (by decide) (Nat.le_of_ble_eq_true rfl) rfl rfl (k_bitc (upN_lt _ _ (by omega) f7) ?_)
    refine Sx.aload_n dX12_plainLight_40 rfl ?_
    refine Sx.bipush (v := (nI 24)) dX12_plainLight_41 (by decide) ?_
    refine Sx.ialdN dX12_plainLight_43 hA (by omega) hN2 (v := (nI (F 144))) w8 ?_
    refine Sx.bipush (v := (nI 100)) dX12_plainLight_44 (by decide) ?_
    refine Sx.iremN dX12_plainLight_46 (by omega) (by decide) (by decide) ?_
    refine Sx.aload_n dX12_plainLight_47 rfl ?_
    refine Sx.bipush (v := (nI 23)) dX12_plainLight_48 (by decide) ?_
    refine Sx.ialdN dX12_plainLight_50 hA (by omega) hN2 (v := (iI ((F 143 : Int) - 1))) w7 ?_
    refine Sx.iconst (v := (iI (-1))) dX12_plainLight_51 (by decide) ?_
    refine Sx.icmp_neV (t := 59) dX12_plainLight_52 (by decide) (vZ (by omega)) (vZ (by decide)) (fun c52 => ?_) (fun c52 => ?_)
    · have hgv : gvN F = F (11 + F 143) := gv_y (by omega)
      have hgq := f3 (F 143 - 1) (by omega)
      rw [show 12 + (F 143 - 1) = 11 + F 143 by omega] at hgq
      refine Sx.aload_n dX12_plainLight_59 rfl ?_
      refine Sx.bipush (v := (nI 12)) dX12_plainLight_60 (by decide) ?_
      refine Sx.aload_n dX12_plainLight_62 rfl ?_
      refine Sx.bipush (v := (nI 23)) dX12_plainLight_63 (by decide) ?_
      refine Sx.ialdN dX12_plainLight_65 hA (by omega) hN2 (v := (iI ((F 143 : Int) - 1))) w7 ?_
      refine Sx.iaddV dX12_plainLight_66 (vN (by decide)) (vZ (by omega)) ?_
      refine Sx.ialdV (k := 11 + F 143) dX12_plainLight_67 hA (vZ (by omega)) (by omega) (by omega) hN2 (v := (nI (F (11 + F 143)))) (by rw [w1 _ (by omega)]) ?_
      refine Sx.callV5 dX12_plainLight_68 lkv_X12_347 (rcv_12 (o_253 W)) (by decide) (by decide) (Nat.le_of_ble_eq_true rfl) rfl rfl (k_worthOf (li := V 0 2 - 1) W hM (by omega) (by omega) (by omega) (hG _ (by omega)) ⟨by omega, by omega, by omega, by omega, by omega, by omega⟩ (fun I1 R1 L1 hF1 hL1 hE1 => ?_))
      refine Sx.top (show _ = iI (worV (V 2) (wlV V) F day fog (upc (V 2) F)) by rw [wor_y (by omega), hgv]; rfl) ?_
      have W := W.fr hF1.2.2.2
      refine Sx.istore (lv' := [(4, .int (iI (worV (V 2) (wlV V) F day fog (upc (V 2) F)))), (0, .ref 253), (1, .ref w), (2, .int (nI day)), (3, .int (nI fog))]) dX12_plainLight_71 (by decide) rfl ?_
      have hwb := wor_b (u := upc (V 2) F) p2 hS (show day < 1000 by omega) (show fog < 1000 by omega) (by omega)
      unfold bd6 at hwb
      refine Sx.iconst (v := (nI 0)) dX12_plainLight_73 (by decide) ?_
      refine Sx.bipush (v := (nI 99)) dX12_plainLight_74 (by decide) ?_
      refine Sx.iload dX12_plainLight_76 rfl ?_
      refine Sx.mmin dX12_plainLight_78 lkm_X12_351 (by decide) (Nat.le_of_ble_eq_true rfl) ?_
      refine Sx.top (show _ = (imin 99 (iI (worV (V 2) (wlV V) F day fog (upc (V 2) F)))) from rfl) ?_
      refine Sx.mmax dX12_plainLight_81 lkm_X12_353 (by decide) (Nat.le_of_ble_eq_true rfl) ?_
      refine Sx.top (show _ = (nI (clN (worV (V 2) (wlV V) F day fog (upc (V 2) F)))) from clN_int (by omega) (by omega)) ?_
      refine Sx.iret dX12_plainLight_84 rfl rfl ?_
      exact h I1 R1 L1 hF1 hL1 hE1
    · have hgv : gvN F = 0 := gv_n (by omega)
      refine Sx.iconst (v := (nI 0)) dX12_plainLight_55 (by decide) ?_
      refine Sx.goto (t := 68) dX12_plainLight_56 (by decide) ?_
      refine Sx.callV5 dX12_plainLight_68 lkv_X12_347 (rcv_12 (o_253 W)) (by decide) (by decide) (Nat.le_of_ble_eq_true rfl) rfl rfl (k_worthOf (li := V 0 2 - 1) W hM (by omega) (by omega) (by omega) (hG _ (by omega)) ⟨by omega, by omega, by omega, by omega, by omega, by omega⟩ (fun I2 R2 L2 hF2 hL2 hE2 => ?_))
      refine Sx.top (show _ = iI (worV (V 2) (wlV V) F day fog (upc (V 2) F)) by rw [wor_y (by omega), hgv]; rfl) ?_
      have W := W.fr hF2.2.2.2
      refine Sx.istore (lv' := [(4, .int (iI (worV (V 2) (wlV V) F day fog (upc (V 2) F)))), (0, .ref 253), (1, .ref w), (2, .int (nI day)), (3, .int (nI fog))]) dX12_plainLight_71 (by decide) rfl ?_
      have hwb := wor_b (u := upc (V 2) F) p2 hS (show day < 1000 by omega) (show fog < 1000 by omega) (by omega)
      unfold bd6 at hwb
      refine Sx.iconst (v := (nI 0)) dX12_plainLight_73 (by decide) ?_
      refine Sx.bipush (v := (nI 99)) dX12_plainLight_74 (by decide) ?_
      refine Sx.iload dX12_plainLight_76 rfl ?_
      refine Sx.mmin dX12_plainLight_78 lkm_X12_351 (by decide) (Nat.le_of_ble_eq_true rfl) ?_
      refine Sx.top (show _ = (imin 99 (iI (worV (V 2) (wlV V) F day fog (upc (V 2) F)))) from rfl) ?_
      refine Sx.mmax dX12_plainLight_81 lkm_X12_353 (by decide) (Nat.le_of_ble_eq_true rfl) ?_
      refine Sx.top (show _ = (nI (clN (worV (V 2) (wlV V) F day fog (upc (V 2) F)))) from clN_int (by omega) (by omega)) ?_
      refine Sx.iret dX12_plainLight_84 rfl rfl ?_
      exact h I2 R2 L2 hF2 hL2 hE2
set_option maxRecDepth 20000 in
set_option maxHeartbeats 1000000 in
theorem k_lightBy {G : Gt} {l : Launch} {Z : Zt} {R : Rt} {I : It} {L : Lt} {post : Pt'} {V : Vt} {w : Nat} {F : Nat → Nat} {day fog : Nat} (W : WF Z R) (hM : MI0 V I L) (hP : PB (V 2)) (hS : SB (V 2) F) (hF : MW (I w) F) (hw : w = 266 ∨ w = 267) (hG : ∀ i, i < V 0 1 → LOK (V (10 + i)) (V (10 + i) 240)) (hV : V 0 1 ≤ 4 ∧ V 0 2 ≤ V 0 1) (hdy : day < 30) (hfg : fog ≤ 9) (hda : F 145 ≤ day) (h : ∀ I' R' L', FL R I L R' I' L' → MLt (I' 257) → MEm V (L' 269) (I' 270) → post (some (.int (nI (litN (V 2) (wlV V) F day fog (upc (V 2) F))))) Z R' I' L') : Cx G l mX12_lightBy 35 0 0 [.ref 253, .ref w, .int (nI day), .int (nI fog)] Z R I L post := by
  refine Cx.of (by decide +kernel) (by exact Nat.le_of_ble_eq_true rfl) ?_
  obtain ⟨f1, f2, f3, f4, f5, f6, f7, f8, f9, f10, f11, f12, f13, f14, f15, f16⟩ := id hS
  obtain ⟨p1, p2, p3, p4, p5, p6, p7, p8, p9⟩ := id hP
  obtain ⟨w1, w2, w3, w4, w5, w6, w7, w8, w9, w10, w11⟩ := id hF
  obtain ⟨N, hA, hN1, hN2⟩ := wrow W hw
  refine Sx.aload_n dX12_lightBy_0 rfl ?_
  refine Sx.aload_n dX12_lightBy_1 rfl ?_
  refine Sx.iload_n dX12_lightBy_2 rfl ?_
  refine Sx.iload_n dX12_lightBy_3 rfl ?_
  refine Sx.callV3 dX12_lightBy_4 lkv_X12_355 (rcv_12 (o_253 W)) (by decide) (by decide) (Nat.le_of_ble_eq_true rfl) rfl rfl (k_plainLight W hM hP hS hF hw hG hV hdy hfg (fun I1 R1 L1 hF1 hL1 hE1 => ?_))
  have W := W.fr hF1.2.2.2
  have hM1 := hM.fl hF1 hL1 hE1
  have hFw : I1 w = I w := hF1.1 w (by omega)
  have hcl := clN_le (worV (V 2) (wlV V) F day fog (upc (V 2) F))
  refine Sx.istore (lv' := [(4, .int (nI (clN (worV (V 2) (wlV V) F day fog (upc (V 2) F))))), (0, .ref 253), (1, .ref w), (2, .int (nI day)), (3, .int (nI fog))]) dX12_lightBy_7 (by decide) rfl ?_
  refine Sx.iload_n dX12_lightBy_9 rfl ?_
  refine Sx.aload_n dX12_lightBy_10 rfl ?_
  refine Sx.bipush (v := (nI 25)) dX12_lightBy_11 (by decide) ?_
  refine Sx.ialdN dX12_lightBy_13 hA (by omega) hN2 (v := (nI (F 145))) (by rw [hFw]; exact w9) ?_
  refine Sx.icmp_leV (t := 20) dX12_lightBy_14 (by decide) (vN (by omega)) (vN (by omega)) (fun c14 => ?_) (fun c14 => ?_)
  · refine Sx.aload_n dX12_lightBy_20 rfl ?_
    refine Sx.bipush (v := (nI 20)) dX12_lightBy_21 (by decide) ?_
    refine Sx.ialdN dX12_lightBy_23 hA (by omega) hN2 (v := (nI (F 140))) (by rw [hFw]; exact w4) ?_
    refine Sx.iconst (v := (nI 1)) dX12_lightBy_24 (by decide) ?_
    refine Sx.icmp_neV (t := 32) dX12_lightBy_25 (by decide) (vN (by omega)) (vN (by decide)) (fun c25 => ?_) (fun c25 => ?_)
    · refine Sx.bipush (v := (nI 99)) dX12_lightBy_32 (by decide) ?_
      refine Sx.iload dX12_lightBy_34 rfl ?_
      refine Sx.iconst (v := (nI 2)) dX12_lightBy_36 (by decide) ?_
      refine Sx.aload_n dX12_lightBy_37 rfl ?_
      refine Sx.bipush (v := (nI 21)) dX12_lightBy_38 (by decide) ?_
      refine Sx.ialdN dX12_lightBy_40 hA (by omega) hN2 (v := (nI (F 141))) (by rw [hFw]; exact w5) ?_
      refine Sx.imulN dX12_lightBy_41 ?_
      refine Sx.iaddN dX12_lightBy_42 ?_
      refine Sx.mmin dX12_lightBy_43 lkm_X12_351 (by decide) (Nat.le_of_ble_eq_true rfl) ?_
      refine Sx.top (n_min (by decide) (by omega)) ?_
      refine Sx.iret dX12_lightBy_46 rfl rfl ?_
      exact pNN (by unfold litN; rw [if_neg (by omega), if_pos (by omega)]) (h I1 R1 L1 hF1 hL1 hE1)
    · refine Sx.iconst (v := (nI 0)) dX12_lightBy_28 (by decide) ?_
      refine Sx.goto (t := 46) dX12_lightBy_29 (by decide) ?_
      refine Sx.iret dX12_lightBy_46 rfl rfl ?_
      exact pNN (by unfold litN; rw [if_pos (by omega)]) (h I1 R1 L1 hF1 hL1 hE1)
  · refine Sx.iload dX12_lightBy_17 rfl ?_
    refine Sx.iret dX12_lightBy_19 rfl rfl ?_
    exact pNN (by unfold litN; rw [if_neg (by omega), if_neg (by omega)]) (h I1 R1 L1 hF1 hL1 hE1)
set_option maxRecDepth 20000 in
set_option maxHeartbeats 1000000 in
theorem k_lightOf {G : Gt} {l : Launch} {Z : Zt} {R : Rt} {I : It} {L : Lt} {post : Pt'} {V : Vt} {w : Nat} {F : Nat → Nat} {day : Nat} (W : WF Z R) (hM : MI0 V I L) (hP : PB (V 2)) (hS : SB (V 2) F) (hF : MW (I w) F) (hw : w = 266 ∨ w = 267) (hG : ∀ i, i < V 0 1 → LOK (V (10 + i)) (V (10 + i) 240)) (hV : V 0 1 ≤ 4 ∧ V 0 2 ≤ V 0 1) (hdy : day < 30) (h : ∀ I' R' L', FL R I L R' I' L' → MLt (I' 257) → MEm V (L' 269) (I' 270) → post (some (.int (nI (lofN (V 2) (wlV V) F (upc (V 2) F) day)))) Z R' I' L') : Cx G l mX12_lightOf 36 0 0 [.ref 253, .ref w, .int (nI day)] Z R I L post := by
  refine Cx.of (by decide +kernel) (by exact Nat.le_of_ble_eq_true rfl) ?_
  obtain ⟨f1, f2, f3, f4, f5, f6, f7, f8, f9, f10, f11, f12, f13, f14, f15, f16⟩ := id hS
  obtain ⟨p1, p2, p3, p4, p5, p6, p7, p8, p9⟩ := id hP
  obtain ⟨w1, w2, w3, w4, w5, w6, w7, w8, w9, w10, w11⟩ := id hF
  obtain ⟨N, hA, hN1, hN2⟩ := wrow W hw
  refine Sx.iload_n dX12_lightOf_0 rfl ?_
  refine Sx.aload_n dX12_lightOf_1 rfl ?_
  refine Sx.bipush (v := (nI 25)) dX12_lightOf_2 (by decide) ?_
  refine Sx.ialdN dX12_lightOf_4 hA (by omega) hN2 (v := (nI (F 145))) w9 ?_
  refine Sx.icmp_geV (t := 17) dX12_lightOf_5 (by decide) (vN (by omega)) (vN (by omega)) (fun c5 => ?_) (fun c5 => ?_)
  · refine Sx.aload_n dX12_lightOf_17 rfl ?_
    refine Sx.aload_n dX12_lightOf_18 rfl ?_
    refine Sx.iload_n dX12_lightOf_19 rfl ?_
    refine Sx.aload_n dX12_lightOf_20 rfl ?_
    refine Sx.bipush (v := (nI 19)) dX12_lightOf_21 (by decide) ?_
    refine Sx.ialdN dX12_lightOf_23 hA (by omega) hN2 (v := (nI (F 139))) w3 ?_
    refine Sx.callV3 dX12_lightOf_24 lkv_X12_359 (rcv_12 (o_253 W)) (by decide) (by decide) (Nat.le_of_ble_eq_true rfl) rfl rfl (k_lightBy W hM hP hS hF hw hG hV hdy f8 (by omega) (fun I1 R1 L1 hF1 hL1 hE1 => ?_))
    refine Sx.iret dX12_lightOf_27 rfl rfl ?_
    exact pNN (by rw [lofN, if_neg (by omega)]) (h I1 R1 L1 hF1 hL1 hE1)
  · refine Sx.aload_n dX12_lightOf_8 rfl ?_
    refine Sx.bipush (v := (nI 26)) dX12_lightOf_9 (by decide) ?_
    refine Sx.iload_n dX12_lightOf_11 rfl ?_
    refine Sx.iaddN dX12_lightOf_12 ?_
    refine Sx.ialdN dX12_lightOf_13 hA (by omega) hN2 (v := (nI (F (18 + day)))) (w10 day hdy) ?_
    refine Sx.goto (t := 27) dX12_lightOf_14 (by decide) ?_
    refine Sx.iret dX12_lightOf_27 rfl rfl ?_
    exact pNN (by rw [lofN, if_pos (by omega)]) (h I R L (FL.rf R I L) hM.2.2.2.2.2.2.2.2.2.1 hM.2.2.2.2.2.2.2.2.2.2)
