/-! the reference: questions -/
abbrev QK (post : Pt') (Z : Zt) (R : Rt) (I : It) (L : Lt) (V : Vt) (v : Int32) : Prop := ∀ I' R' L', MI V I' L' → FM R I L R' I' L' → post (some (.int v)) Z R' I' L'
theorem x_ex {x : Int32} {n : Nat} (h : 0 ≤ x.toInt ∧ x.toInt < (n : Int)) : ∃ p, x = nI p ∧ p < n := ⟨x.toInt.toNat, x_nn h.1, by omega⟩
abbrev HID : Int32 := iI (-1000000)
def kindN (V : Vt) (p q : Nat) : Int32 := if q < 2 then nI (V 2 (3 + 6 * q + p)) else if q = 2 then nI (V 3 (12 + p)) else nI (partyN (V 3) p (V 2 35))
abbrev kindC (V : Vt) (x y : Int32) : Prop := (0 ≤ x.toInt ∧ x.toInt < (V 2 34 : Int)) ∧ 0 ≤ y.toInt ∧ y.toInt ≤ 3
def kindR (V : Vt) (x y : Int32) : Int32 := if kindC V x y then kindN V (xN x) (xN y) else HID
def persN (V : Vt) (p q : Nat) : Int32 := if q = 0 then nI (V 3 p) else if q = 1 then nI (V 2 (21 + p)) else if q = 2 then nI (V 3 138 / 2 ^ p % 2) else nI (V 3 (6 + p))
abbrev persC (V : Vt) (x y : Int32) : Prop := (0 ≤ x.toInt ∧ x.toInt < (V 2 35 : Int)) ∧ 0 ≤ y.toInt ∧ y.toInt ≤ 3
abbrev didC (V : Vt) (x y : Int32) : Prop := V 2 35 ≠ 0 ∧ (0 ≤ x.toInt ∧ x.toInt < (V 3 145 : Int)) ∧ 0 ≤ y.toInt ∧ y.toInt < (V 2 34 : Int)
def didR (V : Vt) (x y : Int32) : Int32 := if didC V x y then nI (doN (V 3 (48 + xN x)) (xN y) 6) else -1
abbrev statC (x : Int32) : Prop := 0 ≤ x.toInt ∧ x.toInt ≤ 4
def statR (V : Vt) (x : Int32) : Int32 := if statC x then nI (V 4 (xN x)) else -1
abbrev logC (V : Vt) (x y : Int32) : Prop := (0 ≤ x.toInt ∧ x.toInt < ((min 60 (V 3 144) : Nat) : Int)) ∧ 0 ≤ y.toInt ∧ y.toInt ≤ 2
def logR (V : Vt) (x y : Int32) : Int32 := if logC V x y then lgd (V 3) (xN x) y else HID
abbrev stepC (V : Vt) (x y z : Int32) : Prop := (0 ≤ x.toInt ∧ x.toInt < (V 0 3 : Int)) ∧ (0 ≤ y.toInt ∧ y.toInt < (V (20 + xN x) 60 : Int)) ∧ 0 ≤ z.toInt ∧ z.toInt ≤ 2
def stepR (V : Vt) (x y z : Int32) : Int32 := if stepC V x y z then iI ((V (20 + xN x) (3 * xN y + xN z) : Int) - 1) else HID
abbrev lightC (V : Vt) (x : Int32) : Prop := V 2 35 ≠ 0 ∧ 0 ≤ x.toInt ∧ x.toInt < (V 2 0 : Int)
def lightR (V : Vt) (x : Int32) : Int32 := if lightC V x then nI (lofN (V 2) (wlV V) (V 3) (upc (V 2) (V 3)) (xN x)) else -1
theorem x_toN {p : Nat} (h : p < 2147483648) : (nI p).toInt = (p : Int) := nI_toInt h
/-- the bounds of what is told and of now, with or without a seaport -/
theorem GV.bnd {N : Nat} {V : Vt} (h : GV N V) : (∀ z, z < 36 → V 2 z < 1000 ∨ V 2 35 ≠ 0 ∧ 33 ≤ z) ∧ (∀ z, z < 146 → V 3 z < 2 ^ 24) ∧ V 3 144 ≤ 999 ∧ V 3 145 < 30 ∧ (∀ k, k < 6 → V 3 k < 6) ∧ V 3 138 < 64 ∧ ∀ k, k < 6 → V 2 (3 + k) ≤ 9 ∧ V 2 (9 + k) ≤ 30 ∧ V 2 (15 + k) < 6 ∧ V 2 (21 + k) ≤ 9 ∧ V 2 (27 + k) ≤ 1 := by
  rcases h.2.2.2.2.2.2 with ⟨z1, z2, z3, -⟩ | ⟨hP, hS, -⟩
  · have e : ∀ z, z < 146 → V 3 z ≤ 1 := fun z hz => by rw [z3 z hz]; unfold F00; split <;> omega
    refine ⟨fun z _ => Or.inl (by rw [z2 z]; decide), fun z hz => by have := e z hz; omega, by have := e 144 (by decide); omega, by have := e 145 (by decide); omega, fun k hk => by have := e k (by omega); omega, by have := e 138 (by decide); omega, fun k hk => ?_⟩
    rw [z2, z2, z2, z2, z2]; decide
  · refine ⟨fun z hz => ?_, hS.1.all hP, hS.2.1, ?_, hS.1.1, hS.1.2.2.2.2.2.2.1, hP.2.2.2.2.2.2.2.2⟩
    · obtain ⟨p1, p2, p3, p4, p5, p6, p7, p8, p9⟩ := id hP
      by_cases c : z < 3
      · refine Or.inl ?_
        match z with
        | 0 => omega
        | 1 => omega
        | 2 => omega
        | z + 3 => omega
      · by_cases c1 : z < 9
        · have := (p9 (z - 3) (by omega)).1; rw [show 3 + (z - 3) = z by omega] at this; exact Or.inl (by omega)
        · by_cases c2 : z < 15
          · have := (p9 (z - 9) (by omega)).2.1; rw [show 9 + (z - 9) = z by omega] at this; exact Or.inl (by omega)
          · by_cases c3 : z < 21
            · have := (p9 (z - 15) (by omega)).2.2.1; rw [show 15 + (z - 15) = z by omega] at this; exact Or.inl (by omega)
            · by_cases c4 : z < 27
              · have := (p9 (z - 21) (by omega)).2.2.2.1; rw [show 21 + (z - 21) = z by omega] at this; exact Or.inl (by omega)
              · by_cases c5 : z < 33
                · have := (p9 (z - 27) (by omega)).2.2.2.2; rw [show 27 + (z - 27) = z by omega] at this; exact Or.inl (by omega)
                · exact Or.inr ⟨by omega, by omega⟩
    · have := hS.1.2.2.2.2.2.2.2.2.2.2.2.2.2.1
      have := hP.2.1
      omega
set_option maxRecDepth 20000 in
set_option maxHeartbeats 1000000 in
theorem k_kind {G : Gt} {l : Launch} {Z : Zt} {R : Rt} {I : It} {L : Lt} {post : Pt'} {V : Vt} {N : Nat} {x y : Int32} (W : WF Z R) (hM : MI V I L) (hG : GV N V) (hN : N < 2147483647) (h : QK post Z R I L V (kindR V x y)) : Cx G l mX12_kind 2 0 0 [.ref 253, .int x, .int y] Z R I L post := by
  refine Cx.of (by decide +kernel) (by exact Nat.le_of_ble_eq_true rfl) ?_
  refine Sx.aload_n dX12_kind_0 rfl ?_
  refine Sx.iconst (v := (nI 0)) dX12_kind_1 (by decide) ?_
  refine Sx.putfV dX12_kind_2 lkp_X12_109_12 (o_253 W) rfl rfl (fun I1 e1 o1 => ?_)
  have M1 := hM.th (j := 0) (by unfold sfJ; decide) e1 o1
  have hf1 : FM R I L R I1 L := FM.i fun q hq => o1 q (by omega)
  have hp6 := hG.p
  have hb := hG.b
  have hB := hG.bnd
  refine Sx.aload_n dX12_kind_5 rfl ?_
  refine Sx.iload_n dX12_kind_6 rfl ?_
  refine Sx.callV1 dX12_kind_7 lkv_X12_375 (rcv_12 (o_253 W)) (by decide) (by decide) (Nat.le_of_ble_eq_true rfl) rfl rfl (k_isKind W M1.1 (by omega) ?_)
  refine Sx.if_eqD (t := 25) dX12_kind_10 (by decide) (fun c10 => ?_) (fun c10 => ?_)
  · refine Sx.ldc_w dX12_kind_25 lkk_X12_380 ?_
    refine Sx.top (show _ = (iI (-1000000)) by decide) ?_
    refine Sx.iret dX12_kind_28 rfl rfl ?_
    have hn : ¬ kindC V x y := fun z => by omega
    exact pXX (by unfold kindR; rw [if_neg hn]) (h I1 R L M1 hf1)
  · refine Sx.iload_n dX12_kind_13 rfl ?_
    refine Sx.i2l dX12_kind_14 ?_
    refine Sx.lconst (v := 0) dX12_kind_15 (by decide) ?_
    refine Sx.ldc2 dX12_kind_16 lkk_X12_378 ?_
    refine Sx.callS3 dX12_kind_19 lkc_X12_230  (by decide) (by decide) (Nat.le_of_ble_eq_true rfl) rfl rfl (k_isIn (vLi (vX y)) (show VL 0 0 from rfl) (show VL 3 3 from rfl) ?_)
    refine Sx.if_neD (t := 29) dX12_kind_22 (by decide) (fun c22 => ?_) (fun c22 => ?_)
    · obtain ⟨p, rfl, hp⟩ := x_ex (x := x) (n := V 2 34) ⟨by omega, by omega⟩
      obtain ⟨q, rfl, hq⟩ := x_ex (x := y) (n := 4) ⟨by omega, by omega⟩
      have hv : kindR V (nI p) (nI q) = kindN V p q := by unfold kindR; rw [if_pos ⟨⟨by omega, by omega⟩, by omega, by omega⟩, xN_n (by omega), xN_n (by omega)]
      have tq := x_toN (p := q) (by omega)
      refine Sx.sub' [(0, .ref 253), (1, .int (nI p)), (2, .int (nI q))] rfl ?_
      refine Sx.iload_n dX12_kind_29 rfl ?_
      refine Sx.iconst (v := (nI 2)) dX12_kind_30 (by decide) ?_
      refine Sx.icmp_geV (t := 47) dX12_kind_31 (by decide) (vN (by omega)) (vN (by decide)) (fun c31 => ?_) (fun c31 => ?_)
      · refine Sx.iload_n dX12_kind_47 rfl ?_
        refine Sx.iconst (v := (nI 2)) dX12_kind_48 (by decide) ?_
        refine Sx.icmp_neV (t := 64) dX12_kind_49 (by decide) (vN (by omega)) (vN (by decide)) (fun c49 => ?_) (fun c49 => ?_)
        · refine Sx.aload_n dX12_kind_64 rfl ?_
          refine Sx.iload_n dX12_kind_65 rfl ?_
          refine Sx.callV1 dX12_kind_66 lkv_X12_381 (rcv_12 (o_253 W)) (by decide) (by decide) (Nat.le_of_ble_eq_true rfl) rfl rfl (k_party W M1.1 hp6.1 M1.2.1 (fun j hj => by have := hB.2.2.2.2.1 j hj; omega) (by omega) ?_)
          refine Sx.iret dX12_kind_69 rfl rfl ?_
          exact pXX (by rw [hv]; unfold kindN; first | rw [if_pos (by omega)] | rw [if_neg (by omega), if_pos (by omega)] | rw [if_neg (by omega), if_neg (by omega)]) (h I1 R L M1 hf1)
        · refine Sx.aload_n dX12_kind_52 rfl ?_
          refine Sx.getfR dX12_kind_53 lkf_X12_61_12 (o_253 W) (r_253_32 W) ?_
          refine Sx.bipush (v := (nI 12)) dX12_kind_56 (by decide) ?_
          refine Sx.iload_n dX12_kind_58 rfl ?_
          refine Sx.iaddN dX12_kind_59 ?_
          refine Sx.ialdN dX12_kind_60 (a_266 W) (by omega) (by decide) (v := (nI (V 3 (12 + p)))) (M1.2.1.1 _ (by omega)) ?_
          refine Sx.goto (t := 69) dX12_kind_61 (by decide) ?_
          refine Sx.iret dX12_kind_69 rfl rfl ?_
          exact pXX (by rw [hv]; unfold kindN; first | rw [if_pos (by omega)] | rw [if_neg (by omega), if_pos (by omega)] | rw [if_neg (by omega), if_neg (by omega)]) (h I1 R L M1 hf1)
      · refine Sx.aload_n dX12_kind_34 rfl ?_
        refine Sx.getfR dX12_kind_35 lkf_X12_43_12 (o_253 W) (r_253_20 W) ?_
        refine Sx.iconst (v := (nI 2)) dX12_kind_38 (by decide) ?_
        refine Sx.iload_n dX12_kind_39 rfl ?_
        refine Sx.imulN dX12_kind_40 ?_
        refine Sx.iload_n dX12_kind_41 rfl ?_
        refine Sx.iaddN dX12_kind_42 ?_
        refine Sx.ialdN dX12_kind_43 (a_260 W) (by omega) (by decide) (v := (nI (V 2 (3 + 6 * q + p)))) (M1.1.2.2.2.1.2.1 p q (by omega) (by omega)) ?_
        refine Sx.goto (t := 69) dX12_kind_44 (by decide) ?_
        refine Sx.iret dX12_kind_69 rfl rfl ?_
        exact pXX (by rw [hv]; unfold kindN; first | rw [if_pos (by omega)] | rw [if_neg (by omega), if_pos (by omega)] | rw [if_neg (by omega), if_neg (by omega)]) (h I1 R L M1 hf1)
    · refine Sx.ldc_w dX12_kind_25 lkk_X12_380 ?_
      refine Sx.top (show _ = (iI (-1000000)) by decide) ?_
      refine Sx.iret dX12_kind_28 rfl rfl ?_
      have hn : ¬ kindC V x y := fun z => by omega
      exact pXX (by unfold kindR; rw [if_neg hn]) (h I1 R L M1 hf1)
set_option maxRecDepth 20000 in
set_option maxHeartbeats 1000000 in
theorem k_person {G : Gt} {l : Launch} {Z : Zt} {R : Rt} {I : It} {L : Lt} {post : Pt'} {V : Vt} {N : Nat} {x y : Int32} (W : WF Z R) (hM : MI V I L) (hG : GV N V) (hN : N < 2147483647) (h1 : ∀ I', persC V x y → MI V I' L → FM R I L R I' L → I' 253 0 = nI 0 → post (some (.int (persN V (xN x) (xN y)))) Z R I' L) (h2 : ∀ I', ¬ persC V x y → MI V I' L → FM R I L R I' L → I' 253 0 = nI 1 → post (some (.int (nI 0))) Z R I' L) : Cx G l mX12_person 2 0 0 [.ref 253, .int x, .int y] Z R I L post := by
  refine Cx.of (by decide +kernel) (by exact Nat.le_of_ble_eq_true rfl) ?_
  have hp6 := hG.p
  have hB := hG.bnd
  have M1 := hM
  refine Sx.aload_n dX12_person_0 rfl ?_
  refine Sx.aload_n dX12_person_1 rfl ?_
  refine Sx.iload_n dX12_person_2 rfl ?_
  refine Sx.callV1 dX12_person_3 lkv_X12_384 (rcv_12 (o_253 W)) (by decide) (by decide) (Nat.le_of_ble_eq_true rfl) rfl rfl (k_isPerson W M1.1 (by omega) ?_)
  refine Sx.if_eqD (t := 25) dX12_person_6 (by decide) (fun c6 => ?_) (fun c6 => ?_)
  · refine Sx.iconst (v := (nI 1)) dX12_person_25 (by decide) ?_
    refine Sx.putfV dX12_person_26 lkp_X12_109_12 (o_253 W) rfl rfl (fun I1 e1 o1 => ?_)
    have M1 := hM.th (j := 0) (by unfold sfJ; decide) e1 o1
    have hf1 : FM R I L R I1 L := FM.i fun q hq => o1 q (by omega)
    have t1 : I1 253 0 = (nI 1) := by rw [e1, upd_at]
    refine Sx.aload_n dX12_person_29 rfl ?_
    refine Sx.getfV (v := (nI 1)) dX12_person_30 lkf_X12_109_12 (o_253 W) t1 ?_
    refine Sx.if_leV (t := 38) dX12_person_33 (by decide) (vN (by decide)) (fun c33 => False.elim (by omega)) (fun c33 => ?_)
    refine Sx.iconst (v := (nI 0)) dX12_person_36 (by decide) ?_
    refine Sx.iret dX12_person_37 rfl rfl ?_
    exact h2 I1 (fun z => by omega) M1 hf1 t1
  · refine Sx.iload_n dX12_person_9 rfl ?_
    refine Sx.i2l dX12_person_10 ?_
    refine Sx.lconst (v := 0) dX12_person_11 (by decide) ?_
    refine Sx.ldc2 dX12_person_12 lkk_X12_378 ?_
    refine Sx.callS3 dX12_person_15 lkc_X12_230  (by decide) (by decide) (Nat.le_of_ble_eq_true rfl) rfl rfl (k_isIn (vLi (vX y)) (show VL 0 0 from rfl) (show VL 3 3 from rfl) ?_)
    refine Sx.if_eqD (t := 25) dX12_person_18 (by decide) (fun c18 => ?_) (fun c18 => ?_)
    · refine Sx.iconst (v := (nI 1)) dX12_person_25 (by decide) ?_
      refine Sx.putfV dX12_person_26 lkp_X12_109_12 (o_253 W) rfl rfl (fun I2 e2 o2 => ?_)
      have M2 := hM.th (j := 0) (by unfold sfJ; decide) e2 o2
      have hf2 : FM R I L R I2 L := FM.i fun q hq => o2 q (by omega)
      have t2 : I2 253 0 = (nI 1) := by rw [e2, upd_at]
      refine Sx.aload_n dX12_person_29 rfl ?_
      refine Sx.getfV (v := (nI 1)) dX12_person_30 lkf_X12_109_12 (o_253 W) t2 ?_
      refine Sx.if_leV (t := 38) dX12_person_33 (by decide) (vN (by decide)) (fun c33 => False.elim (by omega)) (fun c33 => ?_)
      refine Sx.iconst (v := (nI 0)) dX12_person_36 (by decide) ?_
      refine Sx.iret dX12_person_37 rfl rfl ?_
      exact h2 I2 (fun z => by omega) M2 hf2 t2
    · refine Sx.iconst (v := (nI 0)) dX12_person_21 (by decide) ?_
      refine Sx.goto (t := 26) dX12_person_22 (by decide) ?_
      refine Sx.putfV dX12_person_26 lkp_X12_109_12 (o_253 W) rfl rfl (fun I3 e3 o3 => ?_)
      have M3 := hM.th (j := 0) (by unfold sfJ; decide) e3 o3
      have hf3 : FM R I L R I3 L := FM.i fun q hq => o3 q (by omega)
      have t3 : I3 253 0 = (nI 0) := by rw [e3, upd_at]
      refine Sx.aload_n dX12_person_29 rfl ?_
      refine Sx.getfV (v := (nI 0)) dX12_person_30 lkf_X12_109_12 (o_253 W) t3 ?_
      refine Sx.if_leV (t := 38) dX12_person_33 (by decide) (vN (by decide)) (fun c33 => ?_) (fun c33 => False.elim (by omega))
      have hc : persC V x y := ⟨by omega, by omega, by omega⟩
      obtain ⟨p, rfl, hp⟩ := x_ex (x := x) (n := V 2 35) ⟨by omega, by omega⟩
      obtain ⟨q, rfl, hq⟩ := x_ex (x := y) (n := 4) ⟨by omega, by omega⟩
      have tq := x_toN (p := q) (by omega)
      refine Sx.sub' [(0, .ref 253), (1, .int (nI p)), (2, .int (nI q))] rfl ?_
      refine Sx.iload_n dX12_person_38 rfl ?_
      have vw39 : VZ (nI q) ((q : Nat) : Int) := (vN (by omega))
      by_cases k39_0 : ((q : Nat) : Int) = 0
      · refine Sx.tableIn (t := 64) dX12_person_39 (by rw [show _ = _ from vw39, k39_0]; decide) (by rw [show _ = _ from vw39, k39_0]; decide) (by rw [show _ = _ from vw39, k39_0]; rfl) (by decide) ?_
        refine Sx.aload_n dX12_person_64 rfl ?_
        refine Sx.getfR dX12_person_65 lkf_X12_61_12 (o_253 W) (r_253_32 W) ?_
        refine Sx.iload_n dX12_person_68 rfl ?_
        refine Sx.ialdN dX12_person_69 (a_266 W) (by omega) (by decide) (v := (nI (V 3 (p)))) (by rw [o3 266 (by decide)]; exact M1.2.1.1 _ (by omega)) ?_
        refine Sx.iret dX12_person_70 rfl rfl ?_
        exact pXX (by rw [xN_n (by omega), xN_n (by omega)]; unfold persN; rw [if_pos (by omega)]) (h1 I3 hc M3 hf3 t3)
      by_cases k39_1 : ((q : Nat) : Int) = 1
      · refine Sx.tableIn (t := 71) dX12_person_39 (by rw [show _ = _ from vw39, k39_1]; decide) (by rw [show _ = _ from vw39, k39_1]; decide) (by rw [show _ = _ from vw39, k39_1]; rfl) (by decide) ?_
        refine Sx.aload_n dX12_person_71 rfl ?_
        refine Sx.getfR dX12_person_72 lkf_X12_49_12 (o_253 W) (r_253_22 W) ?_
        refine Sx.iconst (v := (nI 3)) dX12_person_75 (by decide) ?_
        refine Sx.iload_n dX12_person_76 rfl ?_
        refine Sx.imulN dX12_person_77 ?_
        refine Sx.iconst (v := (nI 1)) dX12_person_78 (by decide) ?_
        refine Sx.iaddN dX12_person_79 ?_
        refine Sx.ialdN dX12_person_80 (a_262 W) (by omega) (by decide) (v := (nI (V 2 (21 + p)))) (by rw [o3 262 (by decide)]; exact M1.1.2.2.2.1.2.2 p 1 (by omega) (by decide)) ?_
        refine Sx.iret dX12_person_81 rfl rfl ?_
        exact pXX (by rw [xN_n (by omega), xN_n (by omega)]; unfold persN; first | rw [if_neg (by omega), if_pos (by omega)] | rw [if_neg (by omega), if_neg (by omega), if_pos (by omega)] | rw [if_neg (by omega), if_neg (by omega), if_neg (by omega)]) (h1 I3 hc M3 hf3 t3)
      by_cases k39_2 : ((q : Nat) : Int) = 2
      · refine Sx.tableIn (t := 82) dX12_person_39 (by rw [show _ = _ from vw39, k39_2]; decide) (by rw [show _ = _ from vw39, k39_2]; decide) (by rw [show _ = _ from vw39, k39_2]; rfl) (by decide) ?_
        refine Sx.aload_n dX12_person_82 rfl ?_
        refine Sx.getfR dX12_person_83 lkf_X12_61_12 (o_253 W) (r_253_32 W) ?_
        refine Sx.bipush (v := (nI 18)) dX12_person_86 (by decide) ?_
        refine Sx.ialdN dX12_person_88 (a_266 W) (by decide) (by decide) (v := (nI (V 3 138))) (by rw [o3 266 (by decide)]; exact M1.2.1.2.1) ?_
        refine Sx.iload_n dX12_person_89 rfl ?_
        refine Sx.ishrN dX12_person_90 (by omega) (by omega) ?_
        refine Sx.iconst (v := (nI 1)) dX12_person_91 (by decide) ?_
        refine Sx.iand1 dX12_person_92 (Nat.lt_of_le_of_lt (Nat.div_le_self _ _) (by omega)) ?_
        refine Sx.iret dX12_person_93 rfl rfl ?_
        exact pXX (by rw [xN_n (by omega), xN_n (by omega)]; unfold persN; first | rw [if_neg (by omega), if_pos (by omega)] | rw [if_neg (by omega), if_neg (by omega), if_pos (by omega)] | rw [if_neg (by omega), if_neg (by omega), if_neg (by omega)]) (h1 I3 hc M3 hf3 t3)
      refine Sx.tableOut (t := 94) dX12_person_39 (by rw [show _ = _ from vw39]; omega) (by decide) ?_
      refine Sx.aload_n dX12_person_94 rfl ?_
      refine Sx.getfR dX12_person_95 lkf_X12_61_12 (o_253 W) (r_253_32 W) ?_
      refine Sx.bipush (v := (nI 6)) dX12_person_98 (by decide) ?_
      refine Sx.iload_n dX12_person_100 rfl ?_
      refine Sx.iaddN dX12_person_101 ?_
      refine Sx.ialdN dX12_person_102 (a_266 W) (by omega) (by decide) (v := (nI (V 3 (6 + p)))) (by rw [o3 266 (by decide)]; exact M1.2.1.1 _ (by omega)) ?_
      refine Sx.iret dX12_person_103 rfl rfl ?_
      exact pXX (by rw [xN_n (by omega), xN_n (by omega)]; unfold persN; first | rw [if_neg (by omega), if_pos (by omega)] | rw [if_neg (by omega), if_neg (by omega), if_pos (by omega)] | rw [if_neg (by omega), if_neg (by omega), if_neg (by omega)]) (h1 I3 hc M3 hf3 t3)
set_option maxRecDepth 20000 in
set_option maxHeartbeats 1000000 in
theorem k_did {G : Gt} {l : Launch} {Z : Zt} {R : Rt} {I : It} {L : Lt} {post : Pt'} {V : Vt} {N : Nat} {x y : Int32} (W : WF Z R) (hM : MI V I L) (hG : GV N V) (hN : N < 2147483647) (h : QK post Z R I L V (didR V x y)) : Cx G l mX12_did 2 0 0 [.ref 253, .int x, .int y] Z R I L post := by
  refine Cx.of (by decide +kernel) (by exact Nat.le_of_ble_eq_true rfl) ?_
  refine Sx.aload_n dX12_did_0 rfl ?_
  refine Sx.iconst (v := (nI 0)) dX12_did_1 (by decide) ?_
  refine Sx.putfV dX12_did_2 lkp_X12_109_12 (o_253 W) rfl rfl (fun I1 e1 o1 => ?_)
  have M1 := hM.th (j := 0) (by unfold sfJ; decide) e1 o1
  have hf1 : FM R I L R I1 L := FM.i fun q hq => o1 q (by omega)
  have hp6 := hG.p
  have hb := hG.b
  have hB := hG.bnd
  refine Sx.aload_n dX12_did_5 rfl ?_
  refine Sx.getfV (v := (nI (V 2 35))) dX12_did_6 lkf_X12_307_12 (o_253 W) M1.1.1.2.2.2.1 ?_
  refine Sx.if_leV (t := 56) dX12_did_9 (by decide) (vN (by omega)) (fun c9 => ?_) (fun c9 => ?_)
  · refine Sx.iconst (v := (iI (-1))) dX12_did_56 (by decide) ?_
    refine Sx.iret dX12_did_57 rfl rfl ?_
    have hn : ¬ didC V x y := fun z => by omega
    exact pXX (by unfold didR; rw [if_neg hn]; rfl) (h I1 R L M1 hf1)
  · refine Sx.iload_n dX12_did_12 rfl ?_
    refine Sx.i2l dX12_did_13 ?_
    refine Sx.lconst (v := 0) dX12_did_14 (by decide) ?_
    refine Sx.aload_n dX12_did_15 rfl ?_
    refine Sx.getfR dX12_did_16 lkf_X12_61_12 (o_253 W) (r_253_32 W) ?_
    refine Sx.bipush (v := (nI 25)) dX12_did_19 (by decide) ?_
    refine Sx.ialdN dX12_did_21 (a_266 W) (by decide) (by decide) (v := (nI (V 3 145))) (M1.2.1.2.2.2.2.2.2.2.2.1) ?_
    refine Sx.iconst (v := (nI 1)) dX12_did_22 (by decide) ?_
    refine Sx.isubV dX12_did_23 (vN (by omega)) (vN (by decide)) ?_
    refine Sx.i2l dX12_did_24 ?_
    refine Sx.callS3 dX12_did_25 lkc_X12_230  (by decide) (by decide) (Nat.le_of_ble_eq_true rfl) rfl rfl (k_isIn (vLi (vX x)) (show VL 0 0 from rfl) (vLi (vZ (by omega))) ?_)
    refine Sx.if_eqD (t := 56) dX12_did_28 (by decide) (fun c28 => ?_) (fun c28 => ?_)
    · refine Sx.iconst (v := (iI (-1))) dX12_did_56 (by decide) ?_
      refine Sx.iret dX12_did_57 rfl rfl ?_
      have hn : ¬ didC V x y := fun z => by omega
      exact pXX (by unfold didR; rw [if_neg hn]; rfl) (h I1 R L M1 hf1)
    · refine Sx.aload_n dX12_did_31 rfl ?_
      refine Sx.iload_n dX12_did_32 rfl ?_
      refine Sx.callV1 dX12_did_33 lkv_X12_375 (rcv_12 (o_253 W)) (by decide) (by decide) (Nat.le_of_ble_eq_true rfl) rfl rfl (k_isKind W M1.1 (by omega) ?_)
      refine Sx.if_eqD (t := 56) dX12_did_36 (by decide) (fun c36 => ?_) (fun c36 => ?_)
      · refine Sx.iconst (v := (iI (-1))) dX12_did_56 (by decide) ?_
        refine Sx.iret dX12_did_57 rfl rfl ?_
        have hn : ¬ didC V x y := fun z => by omega
        exact pXX (by unfold didR; rw [if_neg hn]; rfl) (h I1 R L M1 hf1)
      · have hc : didC V x y := ⟨by omega, ⟨by omega, by omega⟩, by omega, by omega⟩
        obtain ⟨p, rfl, hp⟩ := x_ex (x := x) (n := V 3 145) ⟨by omega, by omega⟩
        obtain ⟨q, rfl, hq⟩ := x_ex (x := y) (n := V 2 34) ⟨by omega, by omega⟩
        have tq := x_toN (p := q) (by omega)
        refine Sx.sub' [(0, .ref 253), (1, .int (nI p)), (2, .int (nI q))] rfl ?_
        refine Sx.aload_n dX12_did_39 rfl ?_
        refine Sx.getfR dX12_did_40 lkf_X12_61_12 (o_253 W) (r_253_32 W) ?_
        refine Sx.bipush (v := (nI 56)) dX12_did_43 (by decide) ?_
        refine Sx.bipush (v := (nI 6)) dX12_did_45 (by decide) ?_
        refine Sx.iload_n dX12_did_47 rfl ?_
        refine Sx.imulN dX12_did_48 ?_
        refine Sx.iaddN dX12_did_49 ?_
        refine Sx.iload_n dX12_did_50 rfl ?_
        refine Sx.iaddN dX12_did_51 ?_
        refine Sx.ialdN dX12_did_52 (a_266 W) (by omega) (by decide) (v := (nI (doN (V 3 (48 + p)) q 6))) (M1.2.1.2.2.2.2.2.2.2.2.2.2 p q (by omega) (by omega)) ?_
        refine Sx.goto (t := 57) dX12_did_53 (by decide) ?_
        refine Sx.iret dX12_did_57 rfl rfl ?_
        exact pXX (by unfold didR; rw [if_pos hc, xN_n (by omega), xN_n (by omega)]) (h I1 R L M1 hf1)
set_option maxRecDepth 20000 in
set_option maxHeartbeats 1000000 in
theorem k_status {G : Gt} {l : Launch} {Z : Zt} {R : Rt} {I : It} {L : Lt} {post : Pt'} {V : Vt} {N : Nat} {x : Int32} (W : WF Z R) (hM : MI V I L) (hG : GV N V) (hN : N < 2147483647) (h : QK post Z R I L V (statR V x)) : Cx G l mX12_status 2 0 0 [.ref 253, .int x] Z R I L post := by
  refine Cx.of (by decide +kernel) (by exact Nat.le_of_ble_eq_true rfl) ?_
  refine Sx.aload_n dX12_status_0 rfl ?_
  refine Sx.iconst (v := (nI 0)) dX12_status_1 (by decide) ?_
  refine Sx.putfV dX12_status_2 lkp_X12_109_12 (o_253 W) rfl rfl (fun I1 e1 o1 => ?_)
  have M1 := hM.th (j := 0) (by unfold sfJ; decide) e1 o1
  have hf1 : FM R I L R I1 L := FM.i fun q hq => o1 q (by omega)
  have hp6 := hG.p
  have hb := hG.b
  have hB := hG.bnd
  refine Sx.iload_n dX12_status_5 rfl ?_
  refine Sx.i2l dX12_status_6 ?_
  refine Sx.lconst (v := 0) dX12_status_7 (by decide) ?_
  refine Sx.ldc2 dX12_status_8 lkk_X12_429 ?_
  refine Sx.callS3 dX12_status_11 lkc_X12_230  (by decide) (by decide) (Nat.le_of_ble_eq_true rfl) rfl rfl (k_isIn (vLi (vX x)) (show VL 0 0 from rfl) (show VL 4 4 from rfl) ?_)
  refine Sx.if_eqD (t := 26) dX12_status_14 (by decide) (fun c14 => ?_) (fun c14 => ?_)
  · refine Sx.iconst (v := (iI (-1))) dX12_status_26 (by decide) ?_
    refine Sx.iret dX12_status_27 rfl rfl ?_
    have hn : ¬ statC x := fun z => by omega
    exact pXX (by unfold statR; rw [if_neg hn]; rfl) (h I1 R L M1 hf1)
  · have hc : statC x := ⟨by omega, by omega⟩
    obtain ⟨p, rfl, hp⟩ := x_ex (x := x) (n := 5) ⟨by omega, by omega⟩
    refine Sx.sub' [(0, .ref 253), (1, .int (nI p))] rfl ?_
    refine Sx.aload_n dX12_status_17 rfl ?_
    refine Sx.getfR dX12_status_18 lkf_X12_67_12 (o_253 W) (r_253_34 W) ?_
    refine Sx.iload_n dX12_status_21 rfl ?_
    refine Sx.ialdN dX12_status_22 (a_268 W) (by omega) (by decide) (v := (nI (V 4 p))) (M1.1.2.2.2.2.2.1 p (by omega)) ?_
    refine Sx.goto (t := 27) dX12_status_23 (by decide) ?_
    refine Sx.iret dX12_status_27 rfl rfl ?_
    exact pXX (by unfold statR; rw [if_pos hc, xN_n (by omega)]) (h I1 R L M1 hf1)
set_option maxRecDepth 20000 in
set_option maxHeartbeats 1000000 in
theorem k_log {G : Gt} {l : Launch} {Z : Zt} {R : Rt} {I : It} {L : Lt} {post : Pt'} {V : Vt} {N : Nat} {x y : Int32} (W : WF Z R) (hM : MI V I L) (hG : GV N V) (hN : N < 2147483647) (h : QK post Z R I L V (logR V x y)) : Cx G l mX12_log 2 0 0 [.ref 253, .int x, .int y] Z R I L post := by
  refine Cx.of (by decide +kernel) (by exact Nat.le_of_ble_eq_true rfl) ?_
  refine Sx.aload_n dX12_log_0 rfl ?_
  refine Sx.iconst (v := (nI 0)) dX12_log_1 (by decide) ?_
  refine Sx.putfV dX12_log_2 lkp_X12_109_12 (o_253 W) rfl rfl (fun I1 e1 o1 => ?_)
  have M1 := hM.th (j := 0) (by unfold sfJ; decide) e1 o1
  have hf1 : FM R I L R I1 L := FM.i fun q hq => o1 q (by omega)
  have hp6 := hG.p
  have hb := hG.b
  have hB := hG.bnd
  refine Sx.iload_n dX12_log_5 rfl ?_
  refine Sx.i2l dX12_log_6 ?_
  refine Sx.lconst (v := 0) dX12_log_7 (by decide) ?_
  refine Sx.aload_n dX12_log_8 rfl ?_
  refine Sx.getfR dX12_log_9 lkf_X12_61_12 (o_253 W) (r_253_32 W) ?_
  refine Sx.sipush (v := (nI 236)) dX12_log_12 (by decide) ?_
  refine Sx.ialdN dX12_log_15 (a_266 W) (by decide) (by decide) (v := (nI (min 60 (V 3 144)))) M1.2.2.1 ?_
  refine Sx.iconst (v := (nI 1)) dX12_log_16 (by decide) ?_
  refine Sx.isubV dX12_log_17 (vN (by omega)) (vN (by decide)) ?_
  refine Sx.i2l dX12_log_18 ?_
  refine Sx.callS3 dX12_log_19 lkc_X12_230  (by decide) (by decide) (Nat.le_of_ble_eq_true rfl) rfl rfl (k_isIn (vLi (vX x)) (show VL 0 0 from rfl) (vLi (vZ (by omega))) ?_)
  refine Sx.if_eqD (t := 65) dX12_log_22 (by decide) (fun c22 => ?_) (fun c22 => ?_)
  · refine Sx.ldc_w dX12_log_65 lkk_X12_380 ?_
    refine Sx.top (show _ = (iI (-1000000)) by decide) ?_
    refine Sx.iret dX12_log_68 rfl rfl ?_
    have hn : ¬ logC V x y := fun z => by omega
    exact pXX (by unfold logR; rw [if_neg hn]) (h I1 R L M1 hf1)
  · refine Sx.iload_n dX12_log_25 rfl ?_
    refine Sx.i2l dX12_log_26 ?_
    refine Sx.lconst (v := 0) dX12_log_27 (by decide) ?_
    refine Sx.ldc2 dX12_log_28 lkk_X12_285 ?_
    refine Sx.callS3 dX12_log_31 lkc_X12_230  (by decide) (by decide) (Nat.le_of_ble_eq_true rfl) rfl rfl (k_isIn (vLi (vX y)) (show VL 0 0 from rfl) (show VL 2 2 from rfl) ?_)
    refine Sx.if_eqD (t := 65) dX12_log_34 (by decide) (fun c34 => ?_) (fun c34 => ?_)
    · refine Sx.ldc_w dX12_log_65 lkk_X12_380 ?_
      refine Sx.top (show _ = (iI (-1000000)) by decide) ?_
      refine Sx.iret dX12_log_68 rfl rfl ?_
      have hn : ¬ logC V x y := fun z => by omega
      exact pXX (by unfold logR; rw [if_neg hn]) (h I1 R L M1 hf1)
    · have hc : logC V x y := ⟨⟨by omega, by omega⟩, by omega, by omega⟩
      obtain ⟨p, rfl, hp⟩ := x_ex (x := x) (n := min 60 (V 3 144)) ⟨by omega, by omega⟩
      obtain ⟨q, rfl, hq⟩ := x_ex (x := y) (n := 3) ⟨by omega, by omega⟩
      refine Sx.sub' [(0, .ref 253), (1, .int (nI p)), (2, .int (nI q))] rfl ?_
      refine Sx.aload_n dX12_log_37 rfl ?_
      refine Sx.getfR dX12_log_38 lkf_X12_61_12 (o_253 W) (r_253_32 W) ?_
      refine Sx.sipush (v := (nI 237)) dX12_log_41 (by decide) ?_
      refine Sx.iconst (v := (nI 3)) dX12_log_44 (by decide) ?_
      refine Sx.aload_n dX12_log_45 rfl ?_
      refine Sx.getfR dX12_log_46 lkf_X12_61_12 (o_253 W) (r_253_32 W) ?_
      refine Sx.sipush (v := (nI 236)) dX12_log_49 (by decide) ?_
      refine Sx.ialdN dX12_log_52 (a_266 W) (by decide) (by decide) (v := (nI (min 60 (V 3 144)))) M1.2.2.1 ?_
      refine Sx.iconst (v := (nI 1)) dX12_log_53 (by decide) ?_
      refine Sx.isubN dX12_log_54 (by omega) ?_
      refine Sx.iload_n dX12_log_55 rfl ?_
      refine Sx.isubN dX12_log_56 (by omega) ?_
      refine Sx.imulN dX12_log_57 ?_
      refine Sx.iaddN dX12_log_58 ?_
      refine Sx.iload_n dX12_log_59 rfl ?_
      refine Sx.iaddN dX12_log_60 ?_
      refine Sx.ialdN dX12_log_61 (a_266 W) (by omega) (by decide) (v := (lgd (V 3) p (nI q))) (M1.2.2.2 p q (by omega) (by omega)) ?_
      refine Sx.goto (t := 68) dX12_log_62 (by decide) ?_
      refine Sx.iret dX12_log_68 rfl rfl ?_
      exact pXX (by unfold logR; rw [if_pos hc, xN_n (by omega)]) (h I1 R L M1 hf1)
set_option maxRecDepth 20000 in
set_option maxHeartbeats 1000000 in
theorem k_isPlan {G : Gt} {l : Launch} {Z : Zt} {R : Rt} {I : It} {L : Lt} {post : Pt'} {V : Vt} {x : Int32} (W : WF Z R) (hM : MI0 V I L) (hb : V 0 3 ≤ 4) (h : post (some (.int (b2i (decide (0 ≤ x.toInt ∧ x.toInt < (V 0 3 : Int)))))) Z R I L) : Cx G l mX12_isPlan 1 0 0 [.ref 253, .int x] Z R I L post := by
  refine Cx.of (by decide +kernel) (by exact Nat.le_of_ble_eq_true rfl) ?_
  have hx := x_rg x
  refine Sx.iload_n dX12_isPlan_0 rfl ?_
  refine Sx.if_ltV (t := 16) dX12_isPlan_1 (by decide) (vX x) (fun c1 => ?_) (fun c1 => ?_)
  · refine Sx.iconst (v := (nI 0)) dX12_isPlan_16 (by decide) ?_
    refine Sx.top (show _ = b2i false from rfl) ?_
    refine Sx.iret dX12_isPlan_17 rfl (b2i_n _) ?_
    exact pBB (by first | exact (decide_eq_true (by omega)).symm | exact (decide_eq_false (by omega)).symm | exact decide_eq_true (by omega) | exact decide_eq_false (by omega)) h
  · refine Sx.iload_n dX12_isPlan_4 rfl ?_
    refine Sx.aload_n dX12_isPlan_5 rfl ?_
    refine Sx.getfV (v := (nI (V 0 3))) dX12_isPlan_6 lkf_X12_299_12 (o_253 W) hM.1.2.2.2.2.1 ?_
    refine Sx.icmp_geV (t := 16) dX12_isPlan_9 (by decide) (vX x) (vN (by omega)) (fun c9 => ?_) (fun c9 => ?_)
    · refine Sx.iconst (v := (nI 0)) dX12_isPlan_16 (by decide) ?_
      refine Sx.top (show _ = b2i false from rfl) ?_
      refine Sx.iret dX12_isPlan_17 rfl (b2i_n _) ?_
      exact pBB (by first | exact (decide_eq_true (by omega)).symm | exact (decide_eq_false (by omega)).symm | exact decide_eq_true (by omega) | exact decide_eq_false (by omega)) h
    · refine Sx.iconst (v := (nI 1)) dX12_isPlan_12 (by decide) ?_
      refine Sx.goto (t := 17) dX12_isPlan_13 (by decide) ?_
      refine Sx.top (show _ = b2i true from rfl) ?_
      refine Sx.iret dX12_isPlan_17 rfl (b2i_n _) ?_
      exact pBB (by first | exact (decide_eq_true (by omega)).symm | exact (decide_eq_false (by omega)).symm | exact decide_eq_true (by omega) | exact decide_eq_false (by omega)) h
set_option maxRecDepth 20000 in
set_option maxHeartbeats 1000000 in
theorem k_step {G : Gt} {l : Launch} {Z : Zt} {R : Rt} {I : It} {L : Lt} {post : Pt'} {V : Vt} {N : Nat} {x y z : Int32} (W : WF Z R) (hM : MI V I L) (hG : GV N V) (hN : N < 2147483647) (h : QK post Z R I L V (stepR V x y z)) : Cx G l mX12_step 2 0 0 [.ref 253, .int x, .int y, .int z] Z R I L post := by
  refine Cx.of (by decide +kernel) (by exact Nat.le_of_ble_eq_true rfl) ?_
  refine Sx.aload_n dX12_step_0 rfl ?_
  refine Sx.iconst (v := (nI 0)) dX12_step_1 (by decide) ?_
  refine Sx.putfV dX12_step_2 lkp_X12_109_12 (o_253 W) rfl rfl (fun I1 e1 o1 => ?_)
  have M1 := hM.th (j := 0) (by unfold sfJ; decide) e1 o1
  have hf1 : FM R I L R I1 L := FM.i fun q hq => o1 q (by omega)
  have hp6 := hG.p
  have hb := hG.b
  have hB := hG.bnd
  refine Sx.aload_n dX12_step_5 rfl ?_
  refine Sx.iload_n dX12_step_6 rfl ?_
  refine Sx.callV1 dX12_step_7 lkv_X12_431 (rcv_12 (o_253 W)) (by decide) (by decide) (Nat.le_of_ble_eq_true rfl) rfl rfl (k_isPlan W M1.1 hb.2 ?_)
  refine Sx.if_eqD (t := 61) dX12_step_10 (by decide) (fun c10 => ?_) (fun c10 => ?_)
  · refine Sx.ldc_w dX12_step_61 lkk_X12_380 ?_
    refine Sx.top (show _ = (iI (-1000000)) by decide) ?_
    refine Sx.iret dX12_step_64 rfl rfl ?_
    have hn : ¬ stepC V x y z := fun w => by have := w.1; omega
    exact pXX (by unfold stepR; rw [if_neg hn]) (h I1 R L M1 hf1)
  · have hxx : 0 ≤ x.toInt ∧ x.toInt < (V 0 3 : Int) := by omega
    obtain ⟨p, rfl, hp⟩ := x_ex (x := x) (n := V 0 3) ⟨by omega, by omega⟩
    have tp := x_toN (p := p) (by omega)
    have xp := xN_n (j := p) (by omega)
    have hcal := hG.2.2.1.2 p hp
    refine Sx.sub' [(0, .ref 253), (1, .int (nI p)), (2, .int y), (3, .int z)] rfl ?_
    refine Sx.iload_n dX12_step_13 rfl ?_
    refine Sx.i2l dX12_step_14 ?_
    refine Sx.lconst (v := 0) dX12_step_15 (by decide) ?_
    refine Sx.aload_n dX12_step_16 rfl ?_
    refine Sx.getfR dX12_step_17 lkf_X12_58_12 (o_253 W) (r_253_25 W) ?_
    refine Sx.iload_n dX12_step_20 rfl ?_
    refine Sx.ialdN dX12_step_21 (a_265 W) (by omega) (by decide) (v := (nI (V (20 + p) 60))) (M1.1.2.2.2.2.1 p hp).1 ?_
    refine Sx.iconst (v := (nI 1)) dX12_step_22 (by decide) ?_
    refine Sx.isubV dX12_step_23 (vN (by omega)) (vN (by decide)) ?_
    refine Sx.i2l dX12_step_24 ?_
    refine Sx.callS3 dX12_step_25 lkc_X12_230  (by decide) (by decide) (Nat.le_of_ble_eq_true rfl) rfl rfl (k_isIn (vLi (vX y)) (show VL 0 0 from rfl) (vLi (vZ (by omega))) ?_)
    refine Sx.if_eqD (t := 61) dX12_step_28 (by decide) (fun c28 => ?_) (fun c28 => ?_)
    · refine Sx.ldc_w dX12_step_61 lkk_X12_380 ?_
      refine Sx.top (show _ = (iI (-1000000)) by decide) ?_
      refine Sx.iret dX12_step_64 rfl rfl ?_
      have hn : ¬ stepC V (nI p) y z := fun w => by unfold stepC at w; rw [xp] at w; omega
      exact pXX (by unfold stepR; rw [if_neg hn]) (h I1 R L M1 hf1)
    · refine Sx.iload_n dX12_step_31 rfl ?_
      refine Sx.i2l dX12_step_32 ?_
      refine Sx.lconst (v := 0) dX12_step_33 (by decide) ?_
      refine Sx.ldc2 dX12_step_34 lkk_X12_285 ?_
      refine Sx.callS3 dX12_step_37 lkc_X12_230  (by decide) (by decide) (Nat.le_of_ble_eq_true rfl) rfl rfl (k_isIn (vLi (vX z)) (show VL 0 0 from rfl) (show VL 2 2 from rfl) ?_)
      refine Sx.if_eqD (t := 61) dX12_step_40 (by decide) (fun c40 => ?_) (fun c40 => ?_)
      · refine Sx.ldc_w dX12_step_61 lkk_X12_380 ?_
        refine Sx.top (show _ = (iI (-1000000)) by decide) ?_
        refine Sx.iret dX12_step_64 rfl rfl ?_
        have hn : ¬ stepC V (nI p) y z := fun w => by unfold stepC at w; rw [xp] at w; omega
        exact pXX (by unfold stepR; rw [if_neg hn]) (h I1 R L M1 hf1)
      · have hc : stepC V (nI p) y z := by unfold stepC; rw [xp]; exact ⟨⟨by omega, by omega⟩, ⟨by omega, by omega⟩, by omega, by omega⟩
        obtain ⟨q, rfl, hq⟩ := x_ex (x := y) (n := V (20 + p) 60) ⟨by omega, by omega⟩
        obtain ⟨r, rfl, hr⟩ := x_ex (x := z) (n := 3) ⟨by omega, by omega⟩
        refine Sx.sub' [(0, .ref 253), (1, .int (nI p)), (2, .int (nI q)), (3, .int (nI r))] rfl ?_
        refine Sx.aload_n dX12_step_43 rfl ?_
        refine Sx.getfR dX12_step_44 lkf_X12_55_12 (o_253 W) (r_253_24 W) ?_
        refine Sx.iconst (v := (nI 3)) dX12_step_47 (by decide) ?_
        refine Sx.bipush (v := (nI 20)) dX12_step_48 (by decide) ?_
        refine Sx.iload_n dX12_step_50 rfl ?_
        refine Sx.imulN dX12_step_51 ?_
        refine Sx.iload_n dX12_step_52 rfl ?_
        refine Sx.iaddN dX12_step_53 ?_
        refine Sx.imulN dX12_step_54 ?_
        refine Sx.iload_n dX12_step_55 rfl ?_
        refine Sx.iaddN dX12_step_56 ?_
        refine Sx.ialdN dX12_step_57 (a_264 W) (by omega) (by decide) (v := (iI ((V (20 + p) (3 * q + r) : Int) - 1))) (by rw [show 3 * (20 * p + q) + r = 60 * p + (3 * q + r) by omega]; exact (M1.1.2.2.2.2.1 p hp).2 (3 * q + r) (by omega)) ?_
        refine Sx.goto (t := 64) dX12_step_58 (by decide) ?_
        refine Sx.iret dX12_step_64 rfl rfl ?_
        exact pXX (by unfold stepR; rw [if_pos hc, xN_n (by omega), xN_n (by omega), xN_n (by omega)]) (h I1 R L M1 hf1)
set_option maxRecDepth 20000 in
set_option maxHeartbeats 1000000 in
theorem k_lofN {G : Gt} {l : Launch} {Z : Zt} {R : Rt} {I : It} {L : Lt} {post : Pt'} {V : Vt} {dy : Nat} (W : WF Z R) (hM : MI V I L) (hH : HV V) (hd : dy < 30) (h : ∀ I' R' L', MI V I' L' → FL R I L R' I' L' → post (some (.int (nI (lofN (V 2) (wlV V) (V 3) (upc (V 2) (V 3)) dy)))) Z R' I' L') : Cx G l mX12_lightOf 36 0 0 [.ref 253, .ref 266, .int (nI dy)] Z R I L post :=
  k_lightOf W hM.1 hH.2.2.2.1 hH.2.2.2.2.1 hM.2.1 (Or.inl rfl) hH.1.2.2 ⟨hH.1.1, hH.1.2.1⟩ hd (fun I' R' L' f m1 m2 => h I' R' L' ⟨hM.1.fl f m1 m2, by rw [f.1 266 (by decide)]; exact hM.2⟩ f)
set_option maxRecDepth 20000 in
set_option maxHeartbeats 1000000 in
theorem k_light {G : Gt} {l : Launch} {Z : Zt} {R : Rt} {I : It} {L : Lt} {post : Pt'} {V : Vt} {N : Nat} {x : Int32} (W : WF Z R) (hM : MI V I L) (hG : GV N V) (hN : N < 2147483647) (h : QK post Z R I L V (lightR V x)) : Cx G l mX12_light 37 0 0 [.ref 253, .int x] Z R I L post := by
  refine Cx.of (by decide +kernel) (by exact Nat.le_of_ble_eq_true rfl) ?_
  refine Sx.aload_n dX12_light_0 rfl ?_
  refine Sx.iconst (v := (nI 0)) dX12_light_1 (by decide) ?_
  refine Sx.putfV dX12_light_2 lkp_X12_109_12 (o_253 W) rfl rfl (fun I1 e1 o1 => ?_)
  have M1 := hM.th (j := 0) (by unfold sfJ; decide) e1 o1
  have hf1 : FM R I L R I1 L := FM.i fun q hq => o1 q (by omega)
  have hp6 := hG.p
  have hb := hG.b
  have hB := hG.bnd
  have h2z := hB.1 0 (by decide)
  refine Sx.iload_n dX12_light_5 rfl ?_
  refine Sx.i2l dX12_light_6 ?_
  refine Sx.lconst (v := 0) dX12_light_7 (by decide) ?_
  refine Sx.aload_n dX12_light_8 rfl ?_
  refine Sx.getfR dX12_light_9 lkf_X12_37_12 (o_253 W) (r_253_18 W) ?_
  refine Sx.iconst (v := (nI 0)) dX12_light_12 (by decide) ?_
  refine Sx.ialdN dX12_light_13 (a_258 W) (by decide) (by decide) (v := (nI (V 2 0))) (M1.1.2.2.2.1.1 0 (by decide)) ?_
  refine Sx.iconst (v := (nI 1)) dX12_light_14 (by decide) ?_
  refine Sx.isubV dX12_light_15 (vN (by omega)) (vN (by decide)) ?_
  refine Sx.i2l dX12_light_16 ?_
  refine Sx.callS3 dX12_light_17 lkc_X12_230  (by decide) (by decide) (Nat.le_of_ble_eq_true rfl) rfl rfl (k_isIn (vLi (vX x)) (show VL 0 0 from rfl) (vLi (vZ (by omega))) ?_)
  refine Sx.if_eqD (t := 42) dX12_light_20 (by decide) (fun c20 => ?_) (fun c20 => ?_)
  · refine Sx.iconst (v := (iI (-1))) dX12_light_42 (by decide) ?_
    refine Sx.iret dX12_light_43 rfl rfl ?_
    have hn : ¬ lightC V x := fun z => by omega
    exact pXX (by unfold lightR; rw [if_neg hn]; rfl) (h I1 R L M1 hf1)
  · refine Sx.aload_n dX12_light_23 rfl ?_
    refine Sx.getfV (v := (nI (V 2 35))) dX12_light_24 lkf_X12_307_12 (o_253 W) M1.1.1.2.2.2.1 ?_
    refine Sx.if_leV (t := 42) dX12_light_27 (by decide) (vN (by omega)) (fun c27 => ?_) (fun c27 => ?_)
    · refine Sx.iconst (v := (iI (-1))) dX12_light_42 (by decide) ?_
      refine Sx.iret dX12_light_43 rfl rfl ?_
      have hn : ¬ lightC V x := fun z => by omega
      exact pXX (by unfold lightR; rw [if_neg hn]; rfl) (h I1 R L M1 hf1)
    · have hH := hG.hv (by omega)
      have p2 := hH.2.2.2.1.2.1
      have hc : lightC V x := ⟨by omega, by omega, by omega⟩
      obtain ⟨p, rfl, hp⟩ := x_ex (x := x) (n := V 2 0) ⟨by omega, by omega⟩
      refine Sx.sub' [(0, .ref 253), (1, .int (nI p))] rfl ?_
      refine Sx.aload_n dX12_light_30 rfl ?_
      refine Sx.aload_n dX12_light_31 rfl ?_
      refine Sx.getfR dX12_light_32 lkf_X12_61_12 (o_253 W) (r_253_32 W) ?_
      refine Sx.iload_n dX12_light_35 rfl ?_
      refine Sx.callV2 dX12_light_36 lkv_X12_365 (rcv_12 (o_253 W)) (by decide) (by decide) (Nat.le_of_ble_eq_true rfl) rfl rfl (k_lofN W M1 hH (by omega) (fun I2 R2 L2 hM2 fl2 => ?_))
      have hf2 := hf1.tr fl2.fm
      have W := fl2.fm.wf W
      refine Sx.goto (t := 43) dX12_light_39 (by decide) ?_
      refine Sx.iret dX12_light_43 rfl rfl ?_
      exact pXX (by unfold lightR; rw [if_pos hc, xN_n (by omega)]) (h I2 R2 L2 hM2 hf2)
