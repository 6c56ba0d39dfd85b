/-! the reference: games of two, rests -/
def gmT (V : Vt) (a b x y : Nat) : Nat → Nat := goY (V 2) (wlV V) (upn (upn (V 3) a x) b y)
def gmN (V : Vt) (a b x y q : Nat) : Int := (gmT V a b x y (6 + (if q = 0 then a else b)) : Int) - (V 3 (6 + (if q = 0 then a else b)) : Int) + (if gmT V a b x y 143 = (if q = 0 then x else y) + 1 then 5 else 0)
abbrev playC (V : Vt) (a b : Int32) : Prop := (0 ≤ a.toInt ∧ a.toInt < (V 2 35 : Int)) ∧ (0 ≤ b.toInt ∧ b.toInt < (V 2 35 : Int)) ∧ a.toInt ≠ b.toInt ∧ hbN (V 3 138) (xN a) = false ∧ hbN (V 3 138) (xN b) = false
abbrev gameC (V : Vt) (a b x y q : Int32) : Prop := playC V a b ∧ (0 ≤ x.toInt ∧ x.toInt < (V 2 34 : Int)) ∧ (0 ≤ y.toInt ∧ y.toInt < (V 2 34 : Int)) ∧ 0 ≤ q.toInt ∧ q.toInt ≤ 1
def gameR (V : Vt) (a b x y q : Int32) : Int32 := if gameC V a b x y q then iI (gmN V (xN a) (xN b) (xN x) (xN y) (xN q)) else HID
theorem SB.hab {P F : Nat → Nat} (hP : PB P) (h : SB P F) {p x : Nat} (hp : p < 6) (hx : x < P 34) : SB P (upn F p x) := SB.up hP h _ _ (by rw [sbB_1 P hp]; exact hx)
set_option maxRecDepth 20000 in
set_option maxHeartbeats 1000000 in
theorem k_gameOf {G : Gt} {l : Launch} {Z : Zt} {R : Rt} {I : It} {L : Lt} {post : Pt'} {V : Vt} {a b x y q : Nat} (W : WF Z R) (hM : MI V I L) (hH : HV V) (ha : a < V 2 35) (hb : b < V 2 35) (hab : a ≠ b) (hx : x < V 2 34) (hy : y < V 2 34) (hq : q ≤ 1) (h : ∀ I' R' L', MI V I' L' → FM R I L R' I' L' → (∀ q, q ≠ 253 ∧ q ≠ 257 ∧ q ≠ 270 ∧ q ≠ 267 → I' q = I q) → post (some (.int (iI (gmN V a b x y q)))) Z R' I' L') : Cx G l mX12_gameOf 39 0 0 [.ref 253, .int (nI a), .int (nI b), .int (nI x), .int (nI y), .int (nI q)] Z R I L post := by
  refine Cx.of (by decide +kernel) (by exact Nat.le_of_ble_eq_true rfl) ?_
  obtain ⟨p1, p2, p3, p4, p5, p6, p7, p8, p9⟩ := id hH.2.2.2.1
  have hS0 := hH.2.2.2.2.1
  have hy0 := hH.2.2.2.2.2.1
  have hST : SB (V 2) (upn (upn (V 3) a x) b y) := SB.hab hH.2.2.2.1 (SB.hab hH.2.2.2.1 hS0 (by omega) hx) (by omega) hy
  refine Sx.aload_n dX12_gameOf_0 rfl ?_
  refine Sx.getfR dX12_gameOf_1 lkf_X12_61_12 (o_253 W) (r_253_32 W) ?_
  refine Sx.aload_n dX12_gameOf_4 rfl ?_
  refine Sx.getfR dX12_gameOf_5 lkf_X12_64_12 (o_253 W) (r_253_33 W) ?_
  refine Sx.callS2 dX12_gameOf_8 lkc_X12_434  (by decide) (by decide) (Nat.le_of_ble_eq_true rfl) rfl rfl (k_cpT W hM (fun I1 hM1 hF1 o1 fc1 => ?_))
  refine Sx.aload_n dX12_gameOf_11 rfl ?_
  refine Sx.getfR dX12_gameOf_12 lkf_X12_64_12 (o_253 W) (r_253_33 W) ?_
  refine Sx.iload_n dX12_gameOf_15 rfl ?_
  refine Sx.iload_n dX12_gameOf_16 rfl ?_
  refine Sx.iastN dX12_gameOf_17 (a_267 W) (by omega) (by decide) (fun I2 e2 o2 => ?_)
  refine Sx.aload_n dX12_gameOf_18 rfl ?_
  refine Sx.getfR dX12_gameOf_19 lkf_X12_64_12 (o_253 W) (r_253_33 W) ?_
  refine Sx.iload_n dX12_gameOf_22 rfl ?_
  refine Sx.iload dX12_gameOf_23 rfl ?_
  refine Sx.iastN dX12_gameOf_25 (a_267 W) (by omega) (by decide) (fun I3 e3 o3 => ?_)
  refine Sx.aload_n dX12_gameOf_26 rfl ?_
  refine Sx.callV0 dX12_gameOf_27 lkv_X12_451 (rcv_12 (o_253 W)) (by decide) (by decide) (Nat.le_of_ble_eq_true rfl) rfl rfl (k_gyT W (hM1.sc (a := 267) (by unfold scr; decide) ?_) hH hST (F := upn (upn (V 3) a x) b y) ?_ (by rw [upn_ne _ _ (by omega), upn_ne _ _ (by omega)]; omega) (fun I4 R4 L4 hM4 hF4 og4 fl4 => ?_))
  · exact fun q hq => by rw [o3 q hq, o2 q hq]
  · have mn := ((hF1.set (b := a) (x := x) (by omega) (v := nI x) (by rw [if_neg (by omega)])).set (b := b) (x := y) (by omega) (v := nI y) (by rw [if_neg (by omega)]))
    rw [cw_p (p := a) (by omega), cw_p (p := b) (by omega)] at mn
    rw [e3, e2]
    exact mn
  obtain ⟨g1, g2, g3⟩ := goY_ok (w := wlV V) hH.2.2.2.1 hST (by rw [upn_ne _ _ (by omega), upn_ne _ _ (by omega)]; omega)
  have hfa := (fc1.tr (FM.i (R := R) (L := L) (I := I1) (I' := I3) fun q hq => by rw [o3 q (by omega), o2 q (by omega)])).tr fl4
  have W := fl4.wf W
  have hoo : ∀ q, q ≠ 253 ∧ q ≠ 257 ∧ q ≠ 270 ∧ q ≠ 267 → I4 q = I q := fun q hq => by rw [og4 q hq, o3 q hq.2.2.2, o2 q hq.2.2.2, o1 q hq.2.2.2]
  refine Sx.iload dX12_gameOf_30 rfl ?_
  refine Sx.if_neV (t := 39) dX12_gameOf_32 (by decide) (vN (by omega)) (fun c32 => ?_) (fun c32 => ?_)
  · refine Sx.iload_n dX12_gameOf_39 rfl ?_
    refine Sx.istore (lv' := [(6, .int (nI b)), (0, .ref 253), (1, .int (nI a)), (2, .int (nI b)), (3, .int (nI x)), (4, .int (nI y)), (5, .int (nI q))]) dX12_gameOf_40 (by decide) rfl ?_
    have z1 := g1.2.1 b (by omega)
    have z2 := hS0.2.1 b (by omega)
    have z3 := g1.2.2.2.2.2.2.2.2.2.2.2.1
    have hgm : gmT V a b x y = goY (V 2) (wlV V) (upn (upn (V 3) a x) b y) := rfl
    rw [← hgm] at z1 z3
    refine Sx.aload_n dX12_gameOf_42 rfl ?_
    refine Sx.getfR dX12_gameOf_43 lkf_X12_64_12 (o_253 W) (r_253_33 W) ?_
    refine Sx.bipush (v := (nI 6)) dX12_gameOf_46 (by decide) ?_
    refine Sx.iload dX12_gameOf_48 rfl ?_
    refine Sx.iaddN dX12_gameOf_50 ?_
    refine Sx.ialdN dX12_gameOf_51 (a_267 W) (by omega) (by decide) (v := (nI (gmT V a b x y (6 + b)))) (hF4.1 (6 + b) (by omega)) ?_
    refine Sx.aload_n dX12_gameOf_52 rfl ?_
    refine Sx.getfR dX12_gameOf_53 lkf_X12_61_12 (o_253 W) (r_253_32 W) ?_
    refine Sx.bipush (v := (nI 6)) dX12_gameOf_56 (by decide) ?_
    refine Sx.iload dX12_gameOf_58 rfl ?_
    refine Sx.iaddN dX12_gameOf_60 ?_
    refine Sx.ialdN dX12_gameOf_61 (a_266 W) (by omega) (by decide) (v := (nI (V 3 (6 + b)))) (hM4.2.1.1 (6 + b) (by omega)) ?_
    refine Sx.isubV dX12_gameOf_62 (vN (by omega)) (vN (by omega)) ?_
    refine Sx.aload_n dX12_gameOf_63 rfl ?_
    refine Sx.getfR dX12_gameOf_64 lkf_X12_64_12 (o_253 W) (r_253_33 W) ?_
    refine Sx.bipush (v := (nI 23)) dX12_gameOf_67 (by decide) ?_
    refine Sx.ialdN dX12_gameOf_69 (a_267 W) (by decide) (by decide) (v := (iI ((gmT V a b x y 143 : Int) - 1))) hF4.2.2.2.2.2.2.1 ?_
    refine Sx.iload dX12_gameOf_70 rfl ?_
    refine Sx.if_neV (t := 79) dX12_gameOf_72 (by decide) (vN (by omega)) (fun c72 => ?_) (fun c72 => False.elim (by omega))
    refine Sx.iload dX12_gameOf_79 rfl ?_
    refine Sx.icmp_neV (t := 88) dX12_gameOf_81 (by decide) (vZ (by omega)) (vN (by omega)) (fun c81 => ?_) (fun c81 => ?_)
    · refine Sx.iconst (v := (nI 0)) dX12_gameOf_88 (by decide) ?_
      refine Sx.iaddV dX12_gameOf_89 (vZ (by omega)) (vN (by decide)) ?_
      refine Sx.iret dX12_gameOf_90 rfl rfl ?_
      have hq0 : ¬ q = 0 := by omega
      exact pZZ (by unfold gmN; rw [if_neg hq0, if_neg hq0, if_neg (by omega)]; rfl) (h I4 R4 L4 hM4 hfa hoo)
    · refine Sx.iconst (v := (nI 5)) dX12_gameOf_84 (by decide) ?_
      refine Sx.goto (t := 89) dX12_gameOf_85 (by decide) ?_
      refine Sx.iaddV dX12_gameOf_89 (vZ (by omega)) (vN (by decide)) ?_
      refine Sx.iret dX12_gameOf_90 rfl rfl ?_
      have hq0 : ¬ q = 0 := by omega
      exact pZZ (by unfold gmN; rw [if_neg hq0, if_neg hq0, if_pos (by omega)]; rfl) (h I4 R4 L4 hM4 hfa hoo)
  · refine Sx.iload_n dX12_gameOf_35 rfl ?_
    refine Sx.goto (t := 40) dX12_gameOf_36 (by decide) ?_
    refine Sx.istore (lv' := [(6, .int (nI a)), (0, .ref 253), (1, .int (nI a)), (2, .int (nI b)), (3, .int (nI x)), (4, .int (nI y)), (5, .int (nI q))]) dX12_gameOf_40 (by decide) rfl ?_
    have z1 := g1.2.1 a (by omega)
    have z2 := hS0.2.1 a (by omega)
    have z3 := g1.2.2.2.2.2.2.2.2.2.2.2.1
    have hgm : gmT V a b x y = goY (V 2) (wlV V) (upn (upn (V 3) a x) b y) := rfl
    rw [← hgm] at z1 z3
    refine Sx.aload_n dX12_gameOf_42 rfl ?_
    refine Sx.getfR dX12_gameOf_43 lkf_X12_64_12 (o_253 W) (r_253_33 W) ?_
    refine Sx.bipush (v := (nI 6)) dX12_gameOf_46 (by decide) ?_
    refine Sx.iload dX12_gameOf_48 rfl ?_
    refine Sx.iaddN dX12_gameOf_50 ?_
    refine Sx.ialdN dX12_gameOf_51 (a_267 W) (by omega) (by decide) (v := (nI (gmT V a b x y (6 + a)))) (hF4.1 (6 + a) (by omega)) ?_
    refine Sx.aload_n dX12_gameOf_52 rfl ?_
    refine Sx.getfR dX12_gameOf_53 lkf_X12_61_12 (o_253 W) (r_253_32 W) ?_
    refine Sx.bipush (v := (nI 6)) dX12_gameOf_56 (by decide) ?_
    refine Sx.iload dX12_gameOf_58 rfl ?_
    refine Sx.iaddN dX12_gameOf_60 ?_
    refine Sx.ialdN dX12_gameOf_61 (a_266 W) (by omega) (by decide) (v := (nI (V 3 (6 + a)))) (hM4.2.1.1 (6 + a) (by omega)) ?_
    refine Sx.isubV dX12_gameOf_62 (vN (by omega)) (vN (by omega)) ?_
    refine Sx.aload_n dX12_gameOf_63 rfl ?_
    refine Sx.getfR dX12_gameOf_64 lkf_X12_64_12 (o_253 W) (r_253_33 W) ?_
    refine Sx.bipush (v := (nI 23)) dX12_gameOf_67 (by decide) ?_
    refine Sx.ialdN dX12_gameOf_69 (a_267 W) (by decide) (by decide) (v := (iI ((gmT V a b x y 143 : Int) - 1))) hF4.2.2.2.2.2.2.1 ?_
    refine Sx.iload dX12_gameOf_70 rfl ?_
    refine Sx.if_neV (t := 79) dX12_gameOf_72 (by decide) (vN (by omega)) (fun c72 => False.elim (by omega)) (fun c72 => ?_)
    refine Sx.iload_n dX12_gameOf_75 rfl ?_
    refine Sx.goto (t := 81) dX12_gameOf_76 (by decide) ?_
    refine Sx.icmp_neV (t := 88) dX12_gameOf_81 (by decide) (vZ (by omega)) (vN (by omega)) (fun c81 => ?_) (fun c81 => ?_)
    · refine Sx.iconst (v := (nI 0)) dX12_gameOf_88 (by decide) ?_
      refine Sx.iaddV dX12_gameOf_89 (vZ (by omega)) (vN (by decide)) ?_
      refine Sx.iret dX12_gameOf_90 rfl rfl ?_
      have hq0 : q = 0 := by omega
      exact pZZ (by unfold gmN; rw [if_pos hq0, if_pos hq0, if_neg (by omega)]; rfl) (h I4 R4 L4 hM4 hfa hoo)
    · refine Sx.iconst (v := (nI 5)) dX12_gameOf_84 (by decide) ?_
      refine Sx.goto (t := 89) dX12_gameOf_85 (by decide) ?_
      refine Sx.iaddV dX12_gameOf_89 (vZ (by omega)) (vN (by decide)) ?_
      refine Sx.iret dX12_gameOf_90 rfl rfl ?_
      have hq0 : q = 0 := by omega
      exact pZZ (by unfold gmN; rw [if_pos hq0, if_pos hq0, if_pos (by omega)]; rfl) (h I4 R4 L4 hM4 hfa hoo)
set_option maxRecDepth 20000 in
set_option maxHeartbeats 1000000 in
theorem k_canPlay {G : Gt} {l : Launch} {Z : Zt} {R : Rt} {I : It} {L : Lt} {post : Pt'} {V : Vt} {x y : Int32} (W : WF Z R) (hM : MI V I L) (h35 : V 2 35 ≤ 6) (h138 : V 3 138 < 64) (h : post (some (.int (b2i (decide (playC V x y))))) Z R I L) : Cx G l mX12_canPlay 2 0 0 [.ref 253, .int x, .int y] Z R I L post := by
  refine Cx.of (by decide +kernel) (by exact Nat.le_of_ble_eq_true rfl) ?_
  refine Sx.aload_n dX12_canPlay_0 rfl ?_
  refine Sx.iload_n dX12_canPlay_1 rfl ?_
  refine Sx.callV1 dX12_canPlay_2 lkv_X12_384 (rcv_12 (o_253 W)) (by decide) (by decide) (Nat.le_of_ble_eq_true rfl) rfl rfl (k_isPerson W hM.1 (by omega) ?_)
  refine Sx.if_eqD (t := 53) dX12_canPlay_5 (by decide) (fun c5 => ?_) (fun c5 => ?_)
  · refine Sx.iconst (v := (nI 0)) dX12_canPlay_53 (by decide) ?_
    refine Sx.top (show _ = b2i false from rfl) ?_
    refine Sx.iret dX12_canPlay_54 rfl (b2i_n _) ?_
    exact pBB (decide_eq_false (fun z => by have := z.1; have := z.2.1; omega)) h
  · refine Sx.aload_n dX12_canPlay_8 rfl ?_
    refine Sx.iload_n dX12_canPlay_9 rfl ?_
    refine Sx.callV1 dX12_canPlay_10 lkv_X12_384 (rcv_12 (o_253 W)) (by decide) (by decide) (Nat.le_of_ble_eq_true rfl) rfl rfl (k_isPerson W hM.1 (by omega) ?_)
    refine Sx.if_eqD (t := 53) dX12_canPlay_13 (by decide) (fun c13 => ?_) (fun c13 => ?_)
    · refine Sx.iconst (v := (nI 0)) dX12_canPlay_53 (by decide) ?_
      refine Sx.top (show _ = b2i false from rfl) ?_
      refine Sx.iret dX12_canPlay_54 rfl (b2i_n _) ?_
      exact pBB (decide_eq_false (fun z => by have := z.1; have := z.2.1; omega)) h
    · obtain ⟨p, rfl, hp⟩ := x_ex (x := x) (n := V 2 35) ⟨by omega, by omega⟩
      obtain ⟨q, rfl, hq⟩ := x_ex (x := y) (n := V 2 35) ⟨by omega, by omega⟩
      have tp := x_toN (p := p) (by omega)
      have tq := x_toN (p := q) (by omega)
      have ep := xN_n (j := p) (by omega)
      have eq := xN_n (j := q) (by omega)
      refine Sx.sub' [(0, .ref 253), (1, .int (nI p)), (2, .int (nI q))] rfl ?_
      refine Sx.iload_n dX12_canPlay_16 rfl ?_
      refine Sx.iload_n dX12_canPlay_17 rfl ?_
      refine Sx.icmp_eqV (t := 53) dX12_canPlay_18 (by decide) (vN (by omega)) (vN (by omega)) (fun c18 => ?_) (fun c18 => ?_)
      · refine Sx.iconst (v := (nI 0)) dX12_canPlay_53 (by decide) ?_
        refine Sx.top (show _ = b2i false from rfl) ?_
        refine Sx.iret dX12_canPlay_54 rfl (b2i_n _) ?_
        refine pBB (decide_eq_false (fun z => ?_)) h
        unfold playC at z
        rw [ep, eq] at z
        first | omega | (exact absurd z.2.2.2.1 (by simp_all)) | (exact absurd z.2.2.2.2 (by simp_all))
      · refine Sx.aload_n dX12_canPlay_21 rfl ?_
        refine Sx.getfR dX12_canPlay_22 lkf_X12_61_12 (o_253 W) (r_253_32 W) ?_
        refine Sx.bipush (v := (nI 18)) dX12_canPlay_25 (by decide) ?_
        refine Sx.ialdN dX12_canPlay_27 (a_266 W) (by decide) (by decide) (v := (nI (V 3 138))) hM.2.1.2.1 ?_
        refine Sx.iload_n dX12_canPlay_28 rfl ?_
        refine Sx.callS2 dX12_canPlay_29 lkc_X12_242  (by decide) (by decide) (Nat.le_of_ble_eq_true rfl) rfl rfl (k_has (by omega) (by omega) ?_)
        refine Sx.if_neB (t := 53) dX12_canPlay_32 (by decide) (fun c32 => ?_) (fun c32 => ?_)
        · refine Sx.iconst (v := (nI 0)) dX12_canPlay_53 (by decide) ?_
          refine Sx.top (show _ = b2i false from rfl) ?_
          refine Sx.iret dX12_canPlay_54 rfl (b2i_n _) ?_
          refine pBB (decide_eq_false (fun z => ?_)) h
          unfold playC at z
          rw [ep, eq] at z
          first | omega | (exact absurd z.2.2.2.1 (by simp_all)) | (exact absurd z.2.2.2.2 (by simp_all))
        · refine Sx.aload_n dX12_canPlay_35 rfl ?_
          refine Sx.getfR dX12_canPlay_36 lkf_X12_61_12 (o_253 W) (r_253_32 W) ?_
          refine Sx.bipush (v := (nI 18)) dX12_canPlay_39 (by decide) ?_
          refine Sx.ialdN dX12_canPlay_41 (a_266 W) (by decide) (by decide) (v := (nI (V 3 138))) hM.2.1.2.1 ?_
          refine Sx.iload_n dX12_canPlay_42 rfl ?_
          refine Sx.callS2 dX12_canPlay_43 lkc_X12_242  (by decide) (by decide) (Nat.le_of_ble_eq_true rfl) rfl rfl (k_has (by omega) (by omega) ?_)
          refine Sx.if_neB (t := 53) dX12_canPlay_46 (by decide) (fun c46 => ?_) (fun c46 => ?_)
          · refine Sx.iconst (v := (nI 0)) dX12_canPlay_53 (by decide) ?_
            refine Sx.top (show _ = b2i false from rfl) ?_
            refine Sx.iret dX12_canPlay_54 rfl (b2i_n _) ?_
            refine pBB (decide_eq_false (fun z => ?_)) h
            unfold playC at z
            rw [ep, eq] at z
            first | omega | (exact absurd z.2.2.2.1 (by simp_all)) | (exact absurd z.2.2.2.2 (by simp_all))
          · refine Sx.iconst (v := (nI 1)) dX12_canPlay_49 (by decide) ?_
            refine Sx.goto (t := 54) dX12_canPlay_50 (by decide) ?_
            refine Sx.top (show _ = b2i true from rfl) ?_
            refine Sx.iret dX12_canPlay_54 rfl (b2i_n _) ?_
            exact pBB (decide_eq_true (by unfold playC; rw [ep, eq]; exact ⟨⟨by omega, by omega⟩, ⟨by omega, by omega⟩, by omega, by first | assumption | (cases hz : hbN (V 3 138) p <;> simp_all), by first | assumption | (cases hz : hbN (V 3 138) q <;> simp_all)⟩)) h
set_option maxRecDepth 20000 in
set_option maxHeartbeats 1000000 in
theorem k_game {G : Gt} {l : Launch} {Z : Zt} {R : Rt} {I : It} {L : Lt} {post : Pt'} {V : Vt} {N : Nat} {a b x y q : Int32} (W : WF Z R) (hM : MI V I L) (hG : GV N V) (hN : N < 2147483647) (h : QK post Z R I L V (gameR V a b x y q)) : Cx G l mX12_game 40 0 0 [.ref 253, .int a, .int b, .int x, .int y, .int q] Z R I L post := by
  refine Cx.of (by decide +kernel) (by exact Nat.le_of_ble_eq_true rfl) ?_
  refine Sx.aload_n dX12_game_0 rfl ?_
  refine Sx.iconst (v := (nI 0)) dX12_game_1 (by decide) ?_
  refine Sx.putfV dX12_game_2 lkp_X12_109_12 (o_253 W) rfl rfl (fun I1 e1 o1 => ?_)
  have M1 := hM.th (j := 0) (by unfold sfJ; decide) e1 o1
  have hf1 : FM R I L R I1 L := FM.i fun q hq => o1 q (by omega)
  have hp6 := hG.p
  have hb := hG.b
  have hB := hG.bnd
  refine Sx.aload_n dX12_game_5 rfl ?_
  refine Sx.iload_n dX12_game_6 rfl ?_
  refine Sx.iload_n dX12_game_7 rfl ?_
  refine Sx.callV2 dX12_game_8 lkv_X12_465 (rcv_12 (o_253 W)) (by decide) (by decide) (Nat.le_of_ble_eq_true rfl) rfl rfl (k_canPlay W M1 hp6.1 hB.2.2.2.2.2.1 ?_)
  refine Sx.if_eqD (t := 56) dX12_game_11 (by decide) (fun c11 => ?_) (fun c11 => ?_)
  · refine Sx.ldc_w dX12_game_56 lkk_X12_380 ?_
    refine Sx.top (show _ = (iI (-1000000)) by decide) ?_
    refine Sx.iret dX12_game_59 rfl rfl ?_
    have hn : ¬ gameC V a b x y q := fun z => by obtain ⟨z1, z2, z3, z4, z5⟩ := z; first | (exact absurd z1 (by assumption)) | omega
    exact pXX (by unfold gameR; rw [if_neg hn]) (h I1 R L M1 hf1)
  · refine Sx.aload_n dX12_game_14 rfl ?_
    refine Sx.iload_n dX12_game_15 rfl ?_
    refine Sx.callV1 dX12_game_16 lkv_X12_375 (rcv_12 (o_253 W)) (by decide) (by decide) (Nat.le_of_ble_eq_true rfl) rfl rfl (k_isKind W M1.1 (by omega) ?_)
    refine Sx.if_eqD (t := 56) dX12_game_19 (by decide) (fun c19 => ?_) (fun c19 => ?_)
    · refine Sx.ldc_w dX12_game_56 lkk_X12_380 ?_
      refine Sx.top (show _ = (iI (-1000000)) by decide) ?_
      refine Sx.iret dX12_game_59 rfl rfl ?_
      have hn : ¬ gameC V a b x y q := fun z => by obtain ⟨z1, z2, z3, z4, z5⟩ := z; first | (exact absurd z1 (by assumption)) | omega
      exact pXX (by unfold gameR; rw [if_neg hn]) (h I1 R L M1 hf1)
    · refine Sx.aload_n dX12_game_22 rfl ?_
      refine Sx.iload dX12_game_23 rfl ?_
      refine Sx.callV1 dX12_game_25 lkv_X12_375 (rcv_12 (o_253 W)) (by decide) (by decide) (Nat.le_of_ble_eq_true rfl) rfl rfl (k_isKind W M1.1 (by omega) ?_)
      refine Sx.if_eqD (t := 56) dX12_game_28 (by decide) (fun c28 => ?_) (fun c28 => ?_)
      · refine Sx.ldc_w dX12_game_56 lkk_X12_380 ?_
        refine Sx.top (show _ = (iI (-1000000)) by decide) ?_
        refine Sx.iret dX12_game_59 rfl rfl ?_
        have hn : ¬ gameC V a b x y q := fun z => by obtain ⟨z1, z2, z3, z4, z5⟩ := z; first | (exact absurd z1 (by assumption)) | omega
        exact pXX (by unfold gameR; rw [if_neg hn]) (h I1 R L M1 hf1)
      · refine Sx.iload dX12_game_31 rfl ?_
        refine Sx.i2l dX12_game_33 ?_
        refine Sx.lconst (v := 0) dX12_game_34 (by decide) ?_
        refine Sx.lconst (v := 1) dX12_game_35 (by decide) ?_
        refine Sx.callS3 dX12_game_36 lkc_X12_230  (by decide) (by decide) (Nat.le_of_ble_eq_true rfl) rfl rfl (k_isIn (vLi (vX q)) (show VL 0 0 from rfl) (show VL 1 1 from rfl) ?_)
        refine Sx.if_eqD (t := 56) dX12_game_39 (by decide) (fun c39 => ?_) (fun c39 => ?_)
        · refine Sx.ldc_w dX12_game_56 lkk_X12_380 ?_
          refine Sx.top (show _ = (iI (-1000000)) by decide) ?_
          refine Sx.iret dX12_game_59 rfl rfl ?_
          have hn : ¬ gameC V a b x y q := fun z => by obtain ⟨z1, z2, z3, z4, z5⟩ := z; first | (exact absurd z1 (by assumption)) | omega
          exact pXX (by unfold gameR; rw [if_neg hn]) (h I1 R L M1 hf1)
        · have hc : gameC V a b x y q := ⟨c11, ⟨by omega, by omega⟩, ⟨by omega, by omega⟩, by omega, by omega⟩
          have hH := hG.hv (by have := c11.1; omega)
          obtain ⟨p1, p2, p3, p4, p5, p6, p7, p8, p9⟩ := id hH.2.2.2.1
          obtain ⟨ca, cb, cab, -, -⟩ := id c11
          obtain ⟨a0, ha0, ha1⟩ := x_ex (x := a) (n := V 2 35) ⟨by omega, by omega⟩
          obtain ⟨b0, hb0, hb1⟩ := x_ex (x := b) (n := V 2 35) ⟨by omega, by omega⟩
          obtain ⟨x0, hx0, hx1⟩ := x_ex (x := x) (n := V 2 34) ⟨by omega, by omega⟩
          obtain ⟨y0, hy0, hy1⟩ := x_ex (x := y) (n := V 2 34) ⟨by omega, by omega⟩
          obtain ⟨q0, hq0, hq1⟩ := x_ex (x := q) (n := 2) ⟨by omega, by omega⟩
          have ta := x_toN (p := a0) (by omega)
          have tb := x_toN (p := b0) (by omega)
          rw [← ha0] at ta
          rw [← hb0] at tb
          refine Sx.sub' [(0, .ref 253), (1, .int (nI a0)), (2, .int (nI b0)), (3, .int (nI x0)), (4, .int (nI y0)), (5, .int (nI q0))] (by rw [ha0, hb0, hx0, hy0, hq0]; rfl) ?_
          refine Sx.aload_n dX12_game_42 rfl ?_
          refine Sx.iload_n dX12_game_43 rfl ?_
          refine Sx.iload_n dX12_game_44 rfl ?_
          refine Sx.iload_n dX12_game_45 rfl ?_
          refine Sx.iload dX12_game_46 rfl ?_
          refine Sx.iload dX12_game_48 rfl ?_
          refine Sx.callV5 dX12_game_50 lkv_X12_468 (rcv_12 (o_253 W)) (by decide) (by decide) (Nat.le_of_ble_eq_true rfl) rfl rfl (k_gameOf W M1 hH (by omega) (by omega) (by omega) (by omega) (by omega) (by omega) (fun I2 R2 L2 hM2 fl2 _ => ?_))
          have hf2 := hf1.tr fl2
          refine Sx.goto (t := 59) dX12_game_53 (by decide) ?_
          refine Sx.iret dX12_game_59 rfl rfl ?_
          exact pXX (by unfold gameR; rw [if_pos hc, ha0, hb0, hx0, hy0, hq0, xN_n (by omega), xN_n (by omega), xN_n (by omega), xN_n (by omega), xN_n (by omega)]) (h I2 R2 L2 hM2 hf2)
