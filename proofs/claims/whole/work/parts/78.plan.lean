/-! the reference: calendars -/
def CA (V : Vt) : Prop := ∀ i, i < V 0 3 → ∀ s, s < V (20 + i) 60 → 1 ≤ V (20 + i) (3 * s) ∧ V (20 + i) (3 * s) ≤ 6
def rnG {α : Type} (can : Nat → α → Bool) (go : Nat → α → α) : Nat → Nat → α → Nat × α
  | 0, i, a => (i, a)
  | m + 1, i, a => if can i a = true then rnG can go m (i + 1) (go i a) else (i, a)
theorem rnG_0 {α : Type} (can : Nat → α → Bool) (go : Nat → α → α) (i : Nat) (a : α) : rnG can go 0 i a = (i, a) := rfl
theorem rnG_y {α : Type} {can : Nat → α → Bool} {go : Nat → α → α} {m i : Nat} {a : α} (h : can i a = true) : rnG can go (m + 1) i a = rnG can go m (i + 1) (go i a) := by rw [rnG]; exact if_pos h
theorem rnG_n {α : Type} {can : Nat → α → Bool} {go : Nat → α → α} {m i : Nat} {a : α} (h : ¬ can i a = true) : rnG can go (m + 1) i a = (i, a) := by rw [rnG]; exact if_neg h
/-- a calendar's steps: an act and its numbers -/
def cA (C : Nat → Nat) (s : Nat) : Int32 := iI ((C (3 * s) : Int) - 1)
def cX (C : Nat → Nat) (s : Nat) : Int32 := iI ((C (3 * s + 1) : Int) - 1)
def cY (C : Nat → Nat) (s : Nat) : Int32 := iI ((C (3 * s + 2) : Int) - 1)
theorem can_0 {P F : Nat → Nat} (hP : PB P) (hS : SG P F) (x y : Int32) : decide (F 144 < 999 ∨ F 145 + 1 < P 0) = decide (whN P F 0 x y = -1) := by
  have p7 := hP.2.2.2.2.2.2.1
  have e : whN P F 0 x y = if 0 < dpN P F then -1 else 4 := by unfold whN; rw [if_neg (by omega), if_pos rfl]
  rw [e]
  refine decide_eq_decide.mpr ((dpN_p hP hS).symm.trans ?_)
  split
  · next c => exact ⟨fun _ => rfl, fun _ => c⟩
  · next c => exact ⟨fun z => absurd z c, fun z => absurd z (by decide)⟩
theorem can_2 {P F : Nat → Nat} (hP : PB P) (x y : Int32) : decide (0 ≤ x.toInt ∧ x.toInt < (P 35 : Int)) = decide (whN P F 2 x y = -1) := by
  have p7 := hP.2.2.2.2.2.2.1
  have p8 := hP.2.2.2.2.2.2.2.1
  have e : whN P F 2 x y = if isN (P 35) x = true then -1 else 0 := by unfold whN; rw [if_neg (by omega), if_neg (by decide), if_neg (by decide), if_pos rfl]
  rw [e, isN_D (by omega)]
  by_cases c : 0 ≤ x.toInt ∧ x.toInt < (P 35 : Int)
  · rw [decide_eq_true c, if_pos rfl]; exact (decide_eq_true rfl).symm
  · rw [decide_eq_false c, if_neg (by decide)]; exact (decide_eq_false (by decide)).symm
set_option maxRecDepth 20000 in
set_option maxHeartbeats 1000000 in
theorem k_canStep {G : Gt} {l : Launch} {Z : Zt} {R : Rt} {I : It} {L : Lt} {post : Pt'} {V : Vt} {w i s : Nat} {F : Nat → Nat} (W : WF Z R) (hM : MI0 V I L) (hF : MW (I w) F) (hw : w = 266 ∨ w = 267) (hP : PB (V 2)) (hS : SG (V 2) F) (hi : i < V 0 3) (hi4 : V 0 3 ≤ 4) (hcb : V (20 + i) 60 ≤ 20 ∧ ∀ z, z < 60 → V (20 + i) z ≤ 10) (hs : s < V (20 + i) 60) (hA : 1 ≤ V (20 + i) (3 * s) ∧ V (20 + i) (3 * s) ≤ 6) (h : post (some (.int (b2i (decide (whN (V 2) F (iI ((V (20 + i) (3 * s) : Int) - 1)) (iI ((V (20 + i) (3 * s + 1) : Int) - 1)) (iI ((V (20 + i) (3 * s + 2) : Int) - 1)) = -1))))) Z R I L) : Cx G l mX12_canStep 3 0 0 [.ref 253, .ref w, .int (nI (3 * (20 * i + s)))] Z R I L post := by
  refine Cx.of (by decide +kernel) (by exact Nat.le_of_ble_eq_true rfl) ?_
  have p8 := hP.2.2.2.2.2.2.2.1
  have p6 := hP.2.2.2.2.2.1
  have p7 := hP.2.2.2.2.2.2.1
  have hx := hcb.2 (3 * s + 1) (by omega)
  have hy := hcb.2 (3 * s + 2) (by omega)
  obtain ⟨w1, w2, w3, w4, w5, w6, w7, w8, w9, w10, w11⟩ := id hF
  obtain ⟨N, hAr, hN1, hN2⟩ := wrow W hw
  refine Sx.aload_n dX12_canStep_0 rfl ?_
  refine Sx.getfR dX12_canStep_1 lkf_X12_55_12 (o_253 W) (r_253_24 W) ?_
  refine Sx.iload_n dX12_canStep_4 rfl ?_
  refine Sx.iconst (v := (nI 1)) dX12_canStep_5 (by decide) ?_
  refine Sx.iaddN dX12_canStep_6 ?_
  refine Sx.ialdN dX12_canStep_7 (a_264 W) (by omega) (by decide) (v := (iI ((V (20 + i) (3 * s + 1) : Int) - 1))) (by rw [show (3 * (20 * i + s)) + 1 = 60 * i + (3 * s + 1) by omega]; exact (hM.2.2.2.2.1 i hi).2 (3 * s + 1) (by omega)) ?_
  refine Sx.istore_n (lv' := [(3, .int (iI ((V (20 + i) (3 * s + 1) : Int) - 1))), (0, .ref 253), (1, .ref w), (2, .int (nI (3 * (20 * i + s))))]) dX12_canStep_8 (by decide) rfl ?_
  refine Sx.aload_n dX12_canStep_9 rfl ?_
  refine Sx.getfR dX12_canStep_10 lkf_X12_55_12 (o_253 W) (r_253_24 W) ?_
  refine Sx.iload_n dX12_canStep_13 rfl ?_
  refine Sx.ialdN dX12_canStep_14 (a_264 W) (by omega) (by decide) (v := (iI ((V (20 + i) (3 * s) : Int) - 1))) (by rw [show 3 * (20 * i + s) = 60 * i + (3 * s) by omega]; exact (hM.2.2.2.2.1 i hi).2 (3 * s) (by omega)) ?_
  have vw15 : VZ (iI ((V (20 + i) (3 * s) : Int) - 1)) ((V (20 + i) (3 * s) : Int) - 1) := (vZ (by omega))
  by_cases k15_0 : ((V (20 + i) (3 * s) : Int) - 1) = 0
  · refine Sx.tableIn (t := 48) dX12_canStep_15 (by rw [show _ = _ from vw15, k15_0]; decide) (by rw [show _ = _ from vw15, k15_0]; decide) (by rw [show _ = _ from vw15, k15_0]; rfl) (by decide) ?_
    refine Sx.aload_n dX12_canStep_48 rfl ?_
    refine Sx.aload_n dX12_canStep_49 rfl ?_
    refine Sx.callV1 dX12_canStep_50 lkv_X12_392 (rcv_12 (o_253 W)) (by decide) (by decide) (Nat.le_of_ble_eq_true rfl) rfl rfl (k_canPass W hM hP hS.1 hF hw ?_)
    refine Sx.iret dX12_canStep_53 rfl (b2i_n _) ?_
    have ha : (iI ((V (20 + i) (3 * s) : Int) - 1)) = 0 := by rw [k15_0]; rfl
    exact pBB (by rw [ha]; exact (can_0 hP hS _ _).symm) h
  by_cases k15_1 : ((V (20 + i) (3 * s) : Int) - 1) = 1
  · refine Sx.tableIn (t := 54) dX12_canStep_15 (by rw [show _ = _ from vw15, k15_1]; decide) (by rw [show _ = _ from vw15, k15_1]; decide) (by rw [show _ = _ from vw15, k15_1]; rfl) (by decide) ?_
    refine Sx.aload_n dX12_canStep_54 rfl ?_
    refine Sx.aload_n dX12_canStep_55 rfl ?_
    refine Sx.iload_n dX12_canStep_56 rfl ?_
    refine Sx.aload_n dX12_canStep_57 rfl ?_
    refine Sx.getfR dX12_canStep_58 lkf_X12_55_12 (o_253 W) (r_253_24 W) ?_
    refine Sx.iload_n dX12_canStep_61 rfl ?_
    refine Sx.iconst (v := (nI 2)) dX12_canStep_62 (by decide) ?_
    refine Sx.iaddN dX12_canStep_63 ?_
    refine Sx.ialdN dX12_canStep_64 (a_264 W) (by omega) (by decide) (v := (iI ((V (20 + i) (3 * s + 2) : Int) - 1))) (by rw [show (3 * (20 * i + s)) + 2 = 60 * i + (3 * s + 2) by omega]; exact (hM.2.2.2.2.1 i hi).2 (3 * s + 2) (by omega)) ?_
    refine Sx.callV3 dX12_canStep_65 lkv_X12_402 (rcv_12 (o_253 W)) (by decide) (by decide) (Nat.le_of_ble_eq_true rfl) rfl rfl (k_stopsHabit  W hM hF hw p8 p6 (fun _ => ⟨hP, hS.1⟩) ?_)
    refine Sx.iconst (v := (iI (-1))) dX12_canStep_68 (by decide) ?_
    refine Sx.icmp_neV (t := 76) dX12_canStep_69 (by decide) (vX (whH (V 2) F (iI ((V (20 + i) (3 * s + 1) : Int) - 1)) (iI ((V (20 + i) (3 * s + 2) : Int) - 1)))) (vZ (by decide)) (fun c69 => ?_) (fun c69 => ?_)
    · refine Sx.iconst (v := (nI 0)) dX12_canStep_76 (by decide) ?_
      refine Sx.top (show _ = b2i false from rfl) ?_
      refine Sx.iret dX12_canStep_77 rfl (b2i_n _) ?_
      have ha : (iI ((V (20 + i) (3 * s) : Int) - 1)) = 1 := by rw [k15_1]; rfl
      exact pBB (by rw [ha, whN_1]; exact decide_eq_false (x_n1 c69)) h
    · refine Sx.iconst (v := (nI 1)) dX12_canStep_72 (by decide) ?_
      refine Sx.goto (t := 77) dX12_canStep_73 (by decide) ?_
      refine Sx.top (show _ = b2i true from rfl) ?_
      refine Sx.iret dX12_canStep_77 rfl (b2i_n _) ?_
      have ha : (iI ((V (20 + i) (3 * s) : Int) - 1)) = 1 := by rw [k15_1]; rfl
      exact pBB (by rw [ha, whN_1]; exact decide_eq_true (x_m1 c69)) h
  by_cases k15_2 : ((V (20 + i) (3 * s) : Int) - 1) = 2
  · refine Sx.tableIn (t := 78) dX12_canStep_15 (by rw [show _ = _ from vw15, k15_2]; decide) (by rw [show _ = _ from vw15, k15_2]; decide) (by rw [show _ = _ from vw15, k15_2]; rfl) (by decide) ?_
    refine Sx.aload_n dX12_canStep_78 rfl ?_
    refine Sx.iload_n dX12_canStep_79 rfl ?_
    refine Sx.callV1 dX12_canStep_80 lkv_X12_384 (rcv_12 (o_253 W)) (by decide) (by decide) (Nat.le_of_ble_eq_true rfl) rfl rfl (k_isPerson W hM (by omega) ?_)
    refine Sx.iret dX12_canStep_83 rfl (b2i_n _) ?_
    have ha : (iI ((V (20 + i) (3 * s) : Int) - 1)) = 2 := by rw [k15_2]; rfl
    exact pBB (by rw [ha]; exact (can_2 hP _ _).symm) h
  by_cases k15_3 : ((V (20 + i) (3 * s) : Int) - 1) = 3
  · refine Sx.tableIn (t := 84) dX12_canStep_15 (by rw [show _ = _ from vw15, k15_3]; decide) (by rw [show _ = _ from vw15, k15_3]; decide) (by rw [show _ = _ from vw15, k15_3]; rfl) (by decide) ?_
    refine Sx.aload_n dX12_canStep_84 rfl ?_
    refine Sx.aload_n dX12_canStep_85 rfl ?_
    refine Sx.iload_n dX12_canStep_86 rfl ?_
    refine Sx.callV2 dX12_canStep_87 lkv_X12_405 (rcv_12 (o_253 W)) (by decide) (by decide) (Nat.le_of_ble_eq_true rfl) rfl rfl (k_stopsFog (y := (iI ((V (20 + i) (3 * s + 2) : Int) - 1))) W hM hF hw p8 p6 (fun _ => ⟨hP, hS.1⟩) ?_)
    refine Sx.iconst (v := (iI (-1))) dX12_canStep_90 (by decide) ?_
    refine Sx.icmp_neV (t := 98) dX12_canStep_91 (by decide) (vX (whN (V 2) F 3 (iI ((V (20 + i) (3 * s + 1) : Int) - 1)) (iI ((V (20 + i) (3 * s + 2) : Int) - 1)))) (vZ (by decide)) (fun c91 => ?_) (fun c91 => ?_)
    · refine Sx.iconst (v := (nI 0)) dX12_canStep_98 (by decide) ?_
      refine Sx.top (show _ = b2i false from rfl) ?_
      refine Sx.iret dX12_canStep_99 rfl (b2i_n _) ?_
      have ha : (iI ((V (20 + i) (3 * s) : Int) - 1)) = 3 := by rw [k15_3]; rfl
      exact pBB (by rw [ha]; exact decide_eq_false (x_n1 c91)) h
    · refine Sx.iconst (v := (nI 1)) dX12_canStep_94 (by decide) ?_
      refine Sx.goto (t := 99) dX12_canStep_95 (by decide) ?_
      refine Sx.top (show _ = b2i true from rfl) ?_
      refine Sx.iret dX12_canStep_99 rfl (b2i_n _) ?_
      have ha : (iI ((V (20 + i) (3 * s) : Int) - 1)) = 3 := by rw [k15_3]; rfl
      exact pBB (by rw [ha]; exact decide_eq_true (x_m1 c91)) h
  by_cases k15_4 : ((V (20 + i) (3 * s) : Int) - 1) = 4
  · refine Sx.tableIn (t := 100) dX12_canStep_15 (by rw [show _ = _ from vw15, k15_4]; decide) (by rw [show _ = _ from vw15, k15_4]; decide) (by rw [show _ = _ from vw15, k15_4]; rfl) (by decide) ?_
    refine Sx.aload_n dX12_canStep_100 rfl ?_
    refine Sx.aload_n dX12_canStep_101 rfl ?_
    refine Sx.callV1 dX12_canStep_102 lkv_X12_408 (rcv_12 (o_253 W)) (by decide) (by decide) (Nat.le_of_ble_eq_true rfl) rfl rfl (k_stopsEclipse (x := (iI ((V (20 + i) (3 * s + 1) : Int) - 1))) (y := (iI ((V (20 + i) (3 * s + 2) : Int) - 1))) W hM hF hw p8 p6 (fun _ => ⟨hP, hS.1⟩) ?_)
    refine Sx.iconst (v := (iI (-1))) dX12_canStep_105 (by decide) ?_
    refine Sx.icmp_neV (t := 113) dX12_canStep_106 (by decide) (vX (whN (V 2) F 4 (iI ((V (20 + i) (3 * s + 1) : Int) - 1)) (iI ((V (20 + i) (3 * s + 2) : Int) - 1)))) (vZ (by decide)) (fun c106 => ?_) (fun c106 => ?_)
    · refine Sx.iconst (v := (nI 0)) dX12_canStep_113 (by decide) ?_
      refine Sx.top (show _ = b2i false from rfl) ?_
      refine Sx.iret dX12_canStep_114 rfl (b2i_n _) ?_
      have ha : (iI ((V (20 + i) (3 * s) : Int) - 1)) = 4 := by rw [k15_4]; rfl
      exact pBB (by rw [ha]; exact decide_eq_false (x_n1 c106)) h
    · refine Sx.iconst (v := (nI 1)) dX12_canStep_109 (by decide) ?_
      refine Sx.goto (t := 114) dX12_canStep_110 (by decide) ?_
      refine Sx.top (show _ = b2i true from rfl) ?_
      refine Sx.iret dX12_canStep_114 rfl (b2i_n _) ?_
      have ha : (iI ((V (20 + i) (3 * s) : Int) - 1)) = 4 := by rw [k15_4]; rfl
      exact pBB (by rw [ha]; exact decide_eq_true (x_m1 c106)) h
  refine Sx.tableOut (t := 115) dX12_canStep_15 (by rw [show _ = _ from vw15]; omega) (by decide) ?_
  refine Sx.aload_n dX12_canStep_115 rfl ?_
  refine Sx.aload_n dX12_canStep_116 rfl ?_
  refine Sx.iload_n dX12_canStep_117 rfl ?_
  refine Sx.callV2 dX12_canStep_118 lkv_X12_411 (rcv_12 (o_253 W)) (by decide) (by decide) (Nat.le_of_ble_eq_true rfl) rfl rfl (k_stopsCandles (y := (iI ((V (20 + i) (3 * s + 2) : Int) - 1))) W hM hF hw p8 p6 (fun _ => ⟨hP, hS.1⟩) ?_)
  refine Sx.iconst (v := (iI (-1))) dX12_canStep_121 (by decide) ?_
  refine Sx.icmp_neV (t := 129) dX12_canStep_122 (by decide) (vX (whN (V 2) F 5 (iI ((V (20 + i) (3 * s + 1) : Int) - 1)) (iI ((V (20 + i) (3 * s + 2) : Int) - 1)))) (vZ (by decide)) (fun c122 => ?_) (fun c122 => ?_)
  · refine Sx.iconst (v := (nI 0)) dX12_canStep_129 (by decide) ?_
    refine Sx.top (show _ = b2i false from rfl) ?_
    refine Sx.iret dX12_canStep_130 rfl (b2i_n _) ?_
    have ha : (iI ((V (20 + i) (3 * s) : Int) - 1)) = 5 := by rw [show (V (20 + i) (3 * s) : Int) - 1 = 5 by omega]; rfl
    exact pBB (by rw [ha]; exact decide_eq_false (x_n1 c122)) h
  · refine Sx.iconst (v := (nI 1)) dX12_canStep_125 (by decide) ?_
    refine Sx.goto (t := 130) dX12_canStep_126 (by decide) ?_
    refine Sx.top (show _ = b2i true from rfl) ?_
    refine Sx.iret dX12_canStep_130 rfl (b2i_n _) ?_
    have ha : (iI ((V (20 + i) (3 * s) : Int) - 1)) = 5 := by rw [show (V (20 + i) (3 * s) : Int) - 1 = 5 by omega]; rfl
    exact pBB (by rw [ha]; exact decide_eq_true (x_m1 c122)) h
set_option maxRecDepth 20000 in
set_option maxHeartbeats 1000000 in
theorem k_goStep1 {G : Gt} {l : Launch} {Z : Zt} {R : Rt} {I : It} {L : Lt} {post : Pt'} {V : Vt} {w i s : Nat} {F : Nat → Nat} (W : WF Z R) (hM : MI0 V I L) (hF : MW (I w) F) (hw : w = 266 ∨ w = 267) (hP : PB (V 2)) (hS : SG (V 2) F) (hi : i < V 0 3) (hi4 : V 0 3 ≤ 4) (hcb : V (20 + i) 60 ≤ 20 ∧ ∀ z, z < 60 → V (20 + i) z ≤ 10) (hs : s < V (20 + i) 60) (hA : 1 ≤ V (20 + i) (3 * s) ∧ V (20 + i) (3 * s) ≤ 6) (hact : V (20 + i) (3 * s) = 2) (hk : whN (V 2) F (iI ((V (20 + i) (3 * s) : Int) - 1)) (iI ((V (20 + i) (3 * s + 1) : Int) - 1)) (iI ((V (20 + i) (3 * s + 2) : Int) - 1)) = -1) (h : ∀ I', MW (I' w) (coN (V 2) (wlV V) F (iI ((V (20 + i) (3 * s) : Int) - 1)) (iI ((V (20 + i) (3 * s + 1) : Int) - 1)) (iI ((V (20 + i) (3 * s + 2) : Int) - 1))) → (∀ q, q ≠ w → I' q = I q) → (∀ z, 236 ≤ z → I' w z = I w z) → post none Z R I' L) : Cx G l mX12_goStep 1 0 0 [.ref 253, .ref w, .int (nI (3 * (20 * i + s)))] Z R I L post := by
  refine Cx.of (by decide +kernel) (by exact Nat.le_of_ble_eq_true rfl) ?_
  have p8 := hP.2.2.2.2.2.2.2.1
  have p6 := hP.2.2.2.2.2.1
  have p7 := hP.2.2.2.2.2.2.1
  have hx := hcb.2 (3 * s + 1) (by omega)
  have hy := hcb.2 (3 * s + 2) (by omega)
  obtain ⟨w1, w2, w3, w4, w5, w6, w7, w8, w9, w10, w11⟩ := id hF
  obtain ⟨N, hAr, hN1, hN2⟩ := wrow W hw
  obtain ⟨f1, f2, f3, f4, f5, f6, f7, f8, f9, f10, f11, f12, f13, f14, f15, f16⟩ := id hS.1
  have hO := Ok_of hP hS.1 (show whN (V 2) F 1 (iI ((V (20 + i) (3 * s + 1) : Int) - 1)) (iI ((V (20 + i) (3 * s + 2) : Int) - 1)) = -1 by have z := hk; rw [show (iI ((V (20 + i) (3 * s) : Int) - 1)) = 1 from (by rw [hact]; rfl)] at z; exact z)
  obtain ⟨⟨p, q, hxp, hyq, hp, hq, hne⟩, hc⟩ := ok_1 hO
  refine Sx.aload_n dX12_goStep_0 rfl ?_
  refine Sx.getfR dX12_goStep_1 lkf_X12_55_12 (o_253 W) (r_253_24 W) ?_
  refine Sx.iload_n dX12_goStep_4 rfl ?_
  refine Sx.iconst (v := (nI 1)) dX12_goStep_5 (by decide) ?_
  refine Sx.iaddN dX12_goStep_6 ?_
  refine Sx.ialdN dX12_goStep_7 (a_264 W) (by omega) (by decide) (v := (nI p)) (by rw [show (3 * (20 * i + s)) + 1 = 60 * i + (3 * s + 1) by omega]; exact ((hM.2.2.2.2.1 i hi).2 (3 * s + 1) (by omega)).trans hxp) ?_
  refine Sx.istore_n (lv' := [(3, .int (nI p)), (0, .ref 253), (1, .ref w), (2, .int (nI (3 * (20 * i + s))))]) dX12_goStep_8 (by decide) rfl ?_
  refine Sx.aload_n dX12_goStep_9 rfl ?_
  refine Sx.getfR dX12_goStep_10 lkf_X12_55_12 (o_253 W) (r_253_24 W) ?_
  refine Sx.iload_n dX12_goStep_13 rfl ?_
  refine Sx.ialdN dX12_goStep_14 (a_264 W) (by omega) (by decide) (v := (nI 1)) (by rw [show 3 * (20 * i + s) = 60 * i + (3 * s) by omega]; exact ((hM.2.2.2.2.1 i hi).2 (3 * s) (by omega)).trans (by rw [hact]; rfl)) ?_
  refine Sx.iconst (v := (nI 1)) dX12_goStep_15 (by decide) ?_
  refine Sx.icmp_neV (t := 38) dX12_goStep_16 (by decide) (vN (by decide)) (vN (by decide)) (fun c16 => False.elim (by omega)) (fun c16 => ?_)
  refine Sx.aload_n dX12_goStep_19 rfl ?_
  refine Sx.bipush (v := (nI 22)) dX12_goStep_20 (by decide) ?_
  refine Sx.dup2 dX12_goStep_22 rfl rfl ?_
  refine Sx.ialdN dX12_goStep_23 hAr (by omega) hN2 (v := (nI (F 142))) (by exact hF.2.2.2.2.2.1) ?_
  refine Sx.iconst (v := (nI 1)) dX12_goStep_24 (by decide) ?_
  refine Sx.isubN dX12_goStep_25 (by omega) ?_
  refine Sx.iastN dX12_goStep_26 hAr (by omega) hN2 (fun I1 e1 o1 => ?_)
  refine Sx.aload_n dX12_goStep_27 rfl ?_
  refine Sx.iload_n dX12_goStep_28 rfl ?_
  refine Sx.aload_n dX12_goStep_29 rfl ?_
  refine Sx.getfR dX12_goStep_30 lkf_X12_55_12 (o_253 W) (r_253_24 W) ?_
  refine Sx.iload_n dX12_goStep_33 rfl ?_
  refine Sx.iconst (v := (nI 2)) dX12_goStep_34 (by decide) ?_
  refine Sx.iaddN dX12_goStep_35 ?_
  refine Sx.ialdN dX12_goStep_36 (a_264 W) (by omega) (by decide) (v := (nI q)) (by rw [o1 264 (by omega), show (3 * (20 * i + s)) + 2 = 60 * i + (3 * s + 2) by omega]; exact ((hM.2.2.2.2.1 i hi).2 (3 * s + 2) (by omega)).trans hyq) ?_
  refine Sx.iastN dX12_goStep_37 hAr (by omega) hN2 (fun I2 e2 o2 => ?_)
  refine Sx.aload_n dX12_goStep_38 rfl ?_
  refine Sx.getfR dX12_goStep_39 lkf_X12_55_12 (o_253 W) (r_253_24 W) ?_
  refine Sx.iload_n dX12_goStep_42 rfl ?_
  refine Sx.ialdN dX12_goStep_43 (a_264 W) (by omega) (by decide) (v := (nI 1)) (by rw [o2 264 (by omega), o1 264 (by omega), show 3 * (20 * i + s) = 60 * i + (3 * s) by omega]; exact ((hM.2.2.2.2.1 i hi).2 (3 * s) (by omega)).trans (by rw [hact]; rfl)) ?_
  refine Sx.iconst (v := (nI 2)) dX12_goStep_44 (by decide) ?_
  refine Sx.icmp_neV (t := 58) dX12_goStep_45 (by decide) (vN (by decide)) (vN (by decide)) (fun c45 => ?_) (fun c45 => False.elim (by omega))
  refine Sx.aload_n dX12_goStep_58 rfl ?_
  refine Sx.getfR dX12_goStep_59 lkf_X12_55_12 (o_253 W) (r_253_24 W) ?_
  refine Sx.iload_n dX12_goStep_62 rfl ?_
  refine Sx.ialdN dX12_goStep_63 (a_264 W) (by omega) (by decide) (v := (nI 1)) (by rw [o2 264 (by omega), o1 264 (by omega), show 3 * (20 * i + s) = 60 * i + (3 * s) by omega]; exact ((hM.2.2.2.2.1 i hi).2 (3 * s) (by omega)).trans (by rw [hact]; rfl)) ?_
  refine Sx.iconst (v := (nI 3)) dX12_goStep_64 (by decide) ?_
  refine Sx.icmp_neV (t := 73) dX12_goStep_65 (by decide) (vN (by decide)) (vN (by decide)) (fun c65 => ?_) (fun c65 => False.elim (by omega))
  refine Sx.aload_n dX12_goStep_73 rfl ?_
  refine Sx.getfR dX12_goStep_74 lkf_X12_55_12 (o_253 W) (r_253_24 W) ?_
  refine Sx.iload_n dX12_goStep_77 rfl ?_
  refine Sx.ialdN dX12_goStep_78 (a_264 W) (by omega) (by decide) (v := (nI 1)) (by rw [o2 264 (by omega), o1 264 (by omega), show 3 * (20 * i + s) = 60 * i + (3 * s) by omega]; exact ((hM.2.2.2.2.1 i hi).2 (3 * s) (by omega)).trans (by rw [hact]; rfl)) ?_
  refine Sx.iconst (v := (nI 4)) dX12_goStep_79 (by decide) ?_
  refine Sx.icmp_neV (t := 97) dX12_goStep_80 (by decide) (vN (by decide)) (vN (by decide)) (fun c80 => ?_) (fun c80 => False.elim (by omega))
  refine Sx.aload_n dX12_goStep_97 rfl ?_
  refine Sx.getfR dX12_goStep_98 lkf_X12_55_12 (o_253 W) (r_253_24 W) ?_
  refine Sx.iload_n dX12_goStep_101 rfl ?_
  refine Sx.ialdN dX12_goStep_102 (a_264 W) (by omega) (by decide) (v := (nI 1)) (by rw [o2 264 (by omega), o1 264 (by omega), show 3 * (20 * i + s) = 60 * i + (3 * s) by omega]; exact ((hM.2.2.2.2.1 i hi).2 (3 * s) (by omega)).trans (by rw [hact]; rfl)) ?_
  refine Sx.iconst (v := (nI 5)) dX12_goStep_103 (by decide) ?_
  refine Sx.icmp_neV (t := 123) dX12_goStep_104 (by decide) (vN (by decide)) (vN (by decide)) (fun c104 => ?_) (fun c104 => False.elim (by omega))
  refine Sx.vret dX12_goStep_123 rfl ?_
  have mn := ((hF.set (b := 142) (x := F 142 - 1) (by omega) (v := nI (F 142 - 1)) (by rw [if_neg (by omega)])).set (b := p) (x := q) (by omega) (v := nI (q)) (by rw [if_neg (by omega)]))
  rw [cw_p (p := p) (by omega)] at mn
  refine h I2 ?_ (fun q hq => by rw [o2 q hq, o1 q hq]) (fun z hz => by rw [e2, upd_nj _ _ (by omega), e1, upd_nj _ _ (by omega)])
  rw [show (iI ((V (20 + i) (3 * s) : Int) - 1)) = 1 from (by rw [hact]; rfl), hxp, hyq, cq_1 _ _ _ (by omega) (by omega), e2, e1]
  exact mn.cg (fun j _ => upn_cm _ (by omega) j)
set_option maxRecDepth 20000 in
set_option maxHeartbeats 1000000 in
theorem k_goStep2 {G : Gt} {l : Launch} {Z : Zt} {R : Rt} {I : It} {L : Lt} {post : Pt'} {V : Vt} {w i s : Nat} {F : Nat → Nat} (W : WF Z R) (hM : MI0 V I L) (hF : MW (I w) F) (hw : w = 266 ∨ w = 267) (hP : PB (V 2)) (hS : SG (V 2) F) (hi : i < V 0 3) (hi4 : V 0 3 ≤ 4) (hcb : V (20 + i) 60 ≤ 20 ∧ ∀ z, z < 60 → V (20 + i) z ≤ 10) (hs : s < V (20 + i) 60) (hA : 1 ≤ V (20 + i) (3 * s) ∧ V (20 + i) (3 * s) ≤ 6) (hact : V (20 + i) (3 * s) = 3) (hk : whN (V 2) F (iI ((V (20 + i) (3 * s) : Int) - 1)) (iI ((V (20 + i) (3 * s + 1) : Int) - 1)) (iI ((V (20 + i) (3 * s + 2) : Int) - 1)) = -1) (h : ∀ I', MW (I' w) (coN (V 2) (wlV V) F (iI ((V (20 + i) (3 * s) : Int) - 1)) (iI ((V (20 + i) (3 * s + 1) : Int) - 1)) (iI ((V (20 + i) (3 * s + 2) : Int) - 1))) → (∀ q, q ≠ w → I' q = I q) → (∀ z, 236 ≤ z → I' w z = I w z) → post none Z R I' L) : Cx G l mX12_goStep 1 0 0 [.ref 253, .ref w, .int (nI (3 * (20 * i + s)))] Z R I L post := by
  refine Cx.of (by decide +kernel) (by exact Nat.le_of_ble_eq_true rfl) ?_
  have p8 := hP.2.2.2.2.2.2.2.1
  have p6 := hP.2.2.2.2.2.1
  have p7 := hP.2.2.2.2.2.2.1
  have hx := hcb.2 (3 * s + 1) (by omega)
  have hy := hcb.2 (3 * s + 2) (by omega)
  obtain ⟨w1, w2, w3, w4, w5, w6, w7, w8, w9, w10, w11⟩ := id hF
  obtain ⟨N, hAr, hN1, hN2⟩ := wrow W hw
  obtain ⟨f1, f2, f3, f4, f5, f6, f7, f8, f9, f10, f11, f12, f13, f14, f15, f16⟩ := id hS.1
  have hO := Ok_of hP hS.1 (show whN (V 2) F 2 (iI ((V (20 + i) (3 * s + 1) : Int) - 1)) (iI ((V (20 + i) (3 * s + 2) : Int) - 1)) = -1 by have z := hk; rw [show (iI ((V (20 + i) (3 * s) : Int) - 1)) = 2 from (by rw [hact]; rfl)] at z; exact z)
  obtain ⟨p, hxp, hp⟩ := ok_2 hO
  refine Sx.aload_n dX12_goStep_0 rfl ?_
  refine Sx.getfR dX12_goStep_1 lkf_X12_55_12 (o_253 W) (r_253_24 W) ?_
  refine Sx.iload_n dX12_goStep_4 rfl ?_
  refine Sx.iconst (v := (nI 1)) dX12_goStep_5 (by decide) ?_
  refine Sx.iaddN dX12_goStep_6 ?_
  refine Sx.ialdN dX12_goStep_7 (a_264 W) (by omega) (by decide) (v := (nI p)) (by rw [show (3 * (20 * i + s)) + 1 = 60 * i + (3 * s + 1) by omega]; exact ((hM.2.2.2.2.1 i hi).2 (3 * s + 1) (by omega)).trans hxp) ?_
  refine Sx.istore_n (lv' := [(3, .int (nI p)), (0, .ref 253), (1, .ref w), (2, .int (nI (3 * (20 * i + s))))]) dX12_goStep_8 (by decide) rfl ?_
  refine Sx.aload_n dX12_goStep_9 rfl ?_
  refine Sx.getfR dX12_goStep_10 lkf_X12_55_12 (o_253 W) (r_253_24 W) ?_
  refine Sx.iload_n dX12_goStep_13 rfl ?_
  refine Sx.ialdN dX12_goStep_14 (a_264 W) (by omega) (by decide) (v := (nI 2)) (by rw [show 3 * (20 * i + s) = 60 * i + (3 * s) by omega]; exact ((hM.2.2.2.2.1 i hi).2 (3 * s) (by omega)).trans (by rw [hact]; rfl)) ?_
  refine Sx.iconst (v := (nI 1)) dX12_goStep_15 (by decide) ?_
  refine Sx.icmp_neV (t := 38) dX12_goStep_16 (by decide) (vN (by decide)) (vN (by decide)) (fun c16 => ?_) (fun c16 => False.elim (by omega))
  refine Sx.aload_n dX12_goStep_38 rfl ?_
  refine Sx.getfR dX12_goStep_39 lkf_X12_55_12 (o_253 W) (r_253_24 W) ?_
  refine Sx.iload_n dX12_goStep_42 rfl ?_
  refine Sx.ialdN dX12_goStep_43 (a_264 W) (by omega) (by decide) (v := (nI 2)) (by rw [show 3 * (20 * i + s) = 60 * i + (3 * s) by omega]; exact ((hM.2.2.2.2.1 i hi).2 (3 * s) (by omega)).trans (by rw [hact]; rfl)) ?_
  refine Sx.iconst (v := (nI 2)) dX12_goStep_44 (by decide) ?_
  refine Sx.icmp_neV (t := 58) dX12_goStep_45 (by decide) (vN (by decide)) (vN (by decide)) (fun c45 => False.elim (by omega)) (fun c45 => ?_)
  refine Sx.aload_n dX12_goStep_48 rfl ?_
  refine Sx.bipush (v := (nI 18)) dX12_goStep_49 (by decide) ?_
  refine Sx.dup2 dX12_goStep_51 rfl rfl ?_
  refine Sx.ialdN dX12_goStep_52 hAr (by omega) hN2 (v := (nI (F 138))) (by exact hF.2.1) ?_
  refine Sx.iconst (v := (nI 1)) dX12_goStep_53 (by decide) ?_
  refine Sx.iload_n dX12_goStep_54 rfl ?_
  refine Sx.ishl1 dX12_goStep_55 (by omega) ?_
  refine Sx.ixorN dX12_goStep_56 ?_
  refine Sx.iastN dX12_goStep_57 hAr (by omega) hN2 (fun I1 e1 o1 => ?_)
  refine Sx.aload_n dX12_goStep_58 rfl ?_
  refine Sx.getfR dX12_goStep_59 lkf_X12_55_12 (o_253 W) (r_253_24 W) ?_
  refine Sx.iload_n dX12_goStep_62 rfl ?_
  refine Sx.ialdN dX12_goStep_63 (a_264 W) (by omega) (by decide) (v := (nI 2)) (by rw [o1 264 (by omega), show 3 * (20 * i + s) = 60 * i + (3 * s) by omega]; exact ((hM.2.2.2.2.1 i hi).2 (3 * s) (by omega)).trans (by rw [hact]; rfl)) ?_
  refine Sx.iconst (v := (nI 3)) dX12_goStep_64 (by decide) ?_
  refine Sx.icmp_neV (t := 73) dX12_goStep_65 (by decide) (vN (by decide)) (vN (by decide)) (fun c65 => ?_) (fun c65 => False.elim (by omega))
  refine Sx.aload_n dX12_goStep_73 rfl ?_
  refine Sx.getfR dX12_goStep_74 lkf_X12_55_12 (o_253 W) (r_253_24 W) ?_
  refine Sx.iload_n dX12_goStep_77 rfl ?_
  refine Sx.ialdN dX12_goStep_78 (a_264 W) (by omega) (by decide) (v := (nI 2)) (by rw [o1 264 (by omega), show 3 * (20 * i + s) = 60 * i + (3 * s) by omega]; exact ((hM.2.2.2.2.1 i hi).2 (3 * s) (by omega)).trans (by rw [hact]; rfl)) ?_
  refine Sx.iconst (v := (nI 4)) dX12_goStep_79 (by decide) ?_
  refine Sx.icmp_neV (t := 97) dX12_goStep_80 (by decide) (vN (by decide)) (vN (by decide)) (fun c80 => ?_) (fun c80 => False.elim (by omega))
  refine Sx.aload_n dX12_goStep_97 rfl ?_
  refine Sx.getfR dX12_goStep_98 lkf_X12_55_12 (o_253 W) (r_253_24 W) ?_
  refine Sx.iload_n dX12_goStep_101 rfl ?_
  refine Sx.ialdN dX12_goStep_102 (a_264 W) (by omega) (by decide) (v := (nI 2)) (by rw [o1 264 (by omega), show 3 * (20 * i + s) = 60 * i + (3 * s) by omega]; exact ((hM.2.2.2.2.1 i hi).2 (3 * s) (by omega)).trans (by rw [hact]; rfl)) ?_
  refine Sx.iconst (v := (nI 5)) dX12_goStep_103 (by decide) ?_
  refine Sx.icmp_neV (t := 123) dX12_goStep_104 (by decide) (vN (by decide)) (vN (by decide)) (fun c104 => ?_) (fun c104 => False.elim (by omega))
  refine Sx.vret dX12_goStep_123 rfl ?_
  have mn := (hF.set (b := 138) (x := F 138 ^^^ 2 ^ p) (by omega) (v := nI (F 138 ^^^ 2 ^ p)) (by rw [if_neg (by omega)]))
  refine h I1 ?_ (fun q hq => by rw [o1 q hq]) (fun z hz => by rw [e1, upd_nj _ _ (by omega)])
  rw [show (iI ((V (20 + i) (3 * s) : Int) - 1)) = 2 from (by rw [hact]; rfl), hxp, cq_2 _ _ _ _ (by omega), e1]
  exact mn
set_option maxRecDepth 20000 in
set_option maxHeartbeats 1000000 in
theorem k_goStep3 {G : Gt} {l : Launch} {Z : Zt} {R : Rt} {I : It} {L : Lt} {post : Pt'} {V : Vt} {w i s : Nat} {F : Nat → Nat} (W : WF Z R) (hM : MI0 V I L) (hF : MW (I w) F) (hw : w = 266 ∨ w = 267) (hP : PB (V 2)) (hS : SG (V 2) F) (hi : i < V 0 3) (hi4 : V 0 3 ≤ 4) (hcb : V (20 + i) 60 ≤ 20 ∧ ∀ z, z < 60 → V (20 + i) z ≤ 10) (hs : s < V (20 + i) 60) (hA : 1 ≤ V (20 + i) (3 * s) ∧ V (20 + i) (3 * s) ≤ 6) (hact : V (20 + i) (3 * s) = 4) (hk : whN (V 2) F (iI ((V (20 + i) (3 * s) : Int) - 1)) (iI ((V (20 + i) (3 * s + 1) : Int) - 1)) (iI ((V (20 + i) (3 * s + 2) : Int) - 1)) = -1) (h : ∀ I', MW (I' w) (coN (V 2) (wlV V) F (iI ((V (20 + i) (3 * s) : Int) - 1)) (iI ((V (20 + i) (3 * s + 1) : Int) - 1)) (iI ((V (20 + i) (3 * s + 2) : Int) - 1))) → (∀ q, q ≠ w → I' q = I q) → (∀ z, 236 ≤ z → I' w z = I w z) → post none Z R I' L) : Cx G l mX12_goStep 1 0 0 [.ref 253, .ref w, .int (nI (3 * (20 * i + s)))] Z R I L post := by
  refine Cx.of (by decide +kernel) (by exact Nat.le_of_ble_eq_true rfl) ?_
  have p8 := hP.2.2.2.2.2.2.2.1
  have p6 := hP.2.2.2.2.2.1
  have p7 := hP.2.2.2.2.2.2.1
  have hx := hcb.2 (3 * s + 1) (by omega)
  have hy := hcb.2 (3 * s + 2) (by omega)
  obtain ⟨w1, w2, w3, w4, w5, w6, w7, w8, w9, w10, w11⟩ := id hF
  obtain ⟨N, hAr, hN1, hN2⟩ := wrow W hw
  obtain ⟨f1, f2, f3, f4, f5, f6, f7, f8, f9, f10, f11, f12, f13, f14, f15, f16⟩ := id hS.1
  have hO := Ok_of hP hS.1 (show whN (V 2) F 3 (iI ((V (20 + i) (3 * s + 1) : Int) - 1)) (iI ((V (20 + i) (3 * s + 2) : Int) - 1)) = -1 by have z := hk; rw [show (iI ((V (20 + i) (3 * s) : Int) - 1)) = 3 from (by rw [hact]; rfl)] at z; exact z)
  obtain ⟨p, hxp, hp, hne⟩ := ok_3 hO
  refine Sx.aload_n dX12_goStep_0 rfl ?_
  refine Sx.getfR dX12_goStep_1 lkf_X12_55_12 (o_253 W) (r_253_24 W) ?_
  refine Sx.iload_n dX12_goStep_4 rfl ?_
  refine Sx.iconst (v := (nI 1)) dX12_goStep_5 (by decide) ?_
  refine Sx.iaddN dX12_goStep_6 ?_
  refine Sx.ialdN dX12_goStep_7 (a_264 W) (by omega) (by decide) (v := (nI p)) (by rw [show (3 * (20 * i + s)) + 1 = 60 * i + (3 * s + 1) by omega]; exact ((hM.2.2.2.2.1 i hi).2 (3 * s + 1) (by omega)).trans hxp) ?_
  refine Sx.istore_n (lv' := [(3, .int (nI p)), (0, .ref 253), (1, .ref w), (2, .int (nI (3 * (20 * i + s))))]) dX12_goStep_8 (by decide) rfl ?_
  refine Sx.aload_n dX12_goStep_9 rfl ?_
  refine Sx.getfR dX12_goStep_10 lkf_X12_55_12 (o_253 W) (r_253_24 W) ?_
  refine Sx.iload_n dX12_goStep_13 rfl ?_
  refine Sx.ialdN dX12_goStep_14 (a_264 W) (by omega) (by decide) (v := (nI 3)) (by rw [show 3 * (20 * i + s) = 60 * i + (3 * s) by omega]; exact ((hM.2.2.2.2.1 i hi).2 (3 * s) (by omega)).trans (by rw [hact]; rfl)) ?_
  refine Sx.iconst (v := (nI 1)) dX12_goStep_15 (by decide) ?_
  refine Sx.icmp_neV (t := 38) dX12_goStep_16 (by decide) (vN (by decide)) (vN (by decide)) (fun c16 => ?_) (fun c16 => False.elim (by omega))
  refine Sx.aload_n dX12_goStep_38 rfl ?_
  refine Sx.getfR dX12_goStep_39 lkf_X12_55_12 (o_253 W) (r_253_24 W) ?_
  refine Sx.iload_n dX12_goStep_42 rfl ?_
  refine Sx.ialdN dX12_goStep_43 (a_264 W) (by omega) (by decide) (v := (nI 3)) (by rw [show 3 * (20 * i + s) = 60 * i + (3 * s) by omega]; exact ((hM.2.2.2.2.1 i hi).2 (3 * s) (by omega)).trans (by rw [hact]; rfl)) ?_
  refine Sx.iconst (v := (nI 2)) dX12_goStep_44 (by decide) ?_
  refine Sx.icmp_neV (t := 58) dX12_goStep_45 (by decide) (vN (by decide)) (vN (by decide)) (fun c45 => ?_) (fun c45 => False.elim (by omega))
  refine Sx.aload_n dX12_goStep_58 rfl ?_
  refine Sx.getfR dX12_goStep_59 lkf_X12_55_12 (o_253 W) (r_253_24 W) ?_
  refine Sx.iload_n dX12_goStep_62 rfl ?_
  refine Sx.ialdN dX12_goStep_63 (a_264 W) (by omega) (by decide) (v := (nI 3)) (by rw [show 3 * (20 * i + s) = 60 * i + (3 * s) by omega]; exact ((hM.2.2.2.2.1 i hi).2 (3 * s) (by omega)).trans (by rw [hact]; rfl)) ?_
  refine Sx.iconst (v := (nI 3)) dX12_goStep_64 (by decide) ?_
  refine Sx.icmp_neV (t := 73) dX12_goStep_65 (by decide) (vN (by decide)) (vN (by decide)) (fun c65 => False.elim (by omega)) (fun c65 => ?_)
  refine Sx.aload_n dX12_goStep_68 rfl ?_
  refine Sx.bipush (v := (nI 19)) dX12_goStep_69 (by decide) ?_
  refine Sx.iload_n dX12_goStep_71 rfl ?_
  refine Sx.iastN dX12_goStep_72 hAr (by omega) hN2 (fun I1 e1 o1 => ?_)
  refine Sx.aload_n dX12_goStep_73 rfl ?_
  refine Sx.getfR dX12_goStep_74 lkf_X12_55_12 (o_253 W) (r_253_24 W) ?_
  refine Sx.iload_n dX12_goStep_77 rfl ?_
  refine Sx.ialdN dX12_goStep_78 (a_264 W) (by omega) (by decide) (v := (nI 3)) (by rw [o1 264 (by omega), show 3 * (20 * i + s) = 60 * i + (3 * s) by omega]; exact ((hM.2.2.2.2.1 i hi).2 (3 * s) (by omega)).trans (by rw [hact]; rfl)) ?_
  refine Sx.iconst (v := (nI 4)) dX12_goStep_79 (by decide) ?_
  refine Sx.icmp_neV (t := 97) dX12_goStep_80 (by decide) (vN (by decide)) (vN (by decide)) (fun c80 => ?_) (fun c80 => False.elim (by omega))
  refine Sx.aload_n dX12_goStep_97 rfl ?_
  refine Sx.getfR dX12_goStep_98 lkf_X12_55_12 (o_253 W) (r_253_24 W) ?_
  refine Sx.iload_n dX12_goStep_101 rfl ?_
  refine Sx.ialdN dX12_goStep_102 (a_264 W) (by omega) (by decide) (v := (nI 3)) (by rw [o1 264 (by omega), show 3 * (20 * i + s) = 60 * i + (3 * s) by omega]; exact ((hM.2.2.2.2.1 i hi).2 (3 * s) (by omega)).trans (by rw [hact]; rfl)) ?_
  refine Sx.iconst (v := (nI 5)) dX12_goStep_103 (by decide) ?_
  refine Sx.icmp_neV (t := 123) dX12_goStep_104 (by decide) (vN (by decide)) (vN (by decide)) (fun c104 => ?_) (fun c104 => False.elim (by omega))
  refine Sx.vret dX12_goStep_123 rfl ?_
  have mn := (hF.set (b := 139) (x := p) (by omega) (v := nI (p)) (by rw [if_neg (by omega)]))
  refine h I1 ?_ (fun q hq => by rw [o1 q hq]) (fun z hz => by rw [e1, upd_nj _ _ (by omega)])
  rw [show (iI ((V (20 + i) (3 * s) : Int) - 1)) = 3 from (by rw [hact]; rfl), hxp, cq_3 _ _ _ _ (by omega), e1]
  exact mn
set_option maxRecDepth 20000 in
set_option maxHeartbeats 1000000 in
theorem k_goStep4 {G : Gt} {l : Launch} {Z : Zt} {R : Rt} {I : It} {L : Lt} {post : Pt'} {V : Vt} {w i s : Nat} {F : Nat → Nat} (W : WF Z R) (hM : MI0 V I L) (hF : MW (I w) F) (hw : w = 266 ∨ w = 267) (hP : PB (V 2)) (hS : SG (V 2) F) (hi : i < V 0 3) (hi4 : V 0 3 ≤ 4) (hcb : V (20 + i) 60 ≤ 20 ∧ ∀ z, z < 60 → V (20 + i) z ≤ 10) (hs : s < V (20 + i) 60) (hA : 1 ≤ V (20 + i) (3 * s) ∧ V (20 + i) (3 * s) ≤ 6) (hact : V (20 + i) (3 * s) = 5) (hk : whN (V 2) F (iI ((V (20 + i) (3 * s) : Int) - 1)) (iI ((V (20 + i) (3 * s + 1) : Int) - 1)) (iI ((V (20 + i) (3 * s + 2) : Int) - 1)) = -1) (h : ∀ I', MW (I' w) (coN (V 2) (wlV V) F (iI ((V (20 + i) (3 * s) : Int) - 1)) (iI ((V (20 + i) (3 * s + 1) : Int) - 1)) (iI ((V (20 + i) (3 * s + 2) : Int) - 1))) → (∀ q, q ≠ w → I' q = I q) → (∀ z, 236 ≤ z → I' w z = I w z) → post none Z R I' L) : Cx G l mX12_goStep 1 0 0 [.ref 253, .ref w, .int (nI (3 * (20 * i + s)))] Z R I L post := by
  refine Cx.of (by decide +kernel) (by exact Nat.le_of_ble_eq_true rfl) ?_
  have p8 := hP.2.2.2.2.2.2.2.1
  have p6 := hP.2.2.2.2.2.1
  have p7 := hP.2.2.2.2.2.2.1
  have hx := hcb.2 (3 * s + 1) (by omega)
  have hy := hcb.2 (3 * s + 2) (by omega)
  obtain ⟨w1, w2, w3, w4, w5, w6, w7, w8, w9, w10, w11⟩ := id hF
  obtain ⟨N, hAr, hN1, hN2⟩ := wrow W hw
  obtain ⟨f1, f2, f3, f4, f5, f6, f7, f8, f9, f10, f11, f12, f13, f14, f15, f16⟩ := id hS.1
  have hO := Ok_of hP hS.1 (show whN (V 2) F 4 (iI ((V (20 + i) (3 * s + 1) : Int) - 1)) (iI ((V (20 + i) (3 * s + 2) : Int) - 1)) = -1 by have z := hk; rw [show (iI ((V (20 + i) (3 * s) : Int) - 1)) = 4 from (by rw [hact]; rfl)] at z; exact z)
  obtain ⟨hc0, hc⟩ := ok_4 hO
  refine Sx.aload_n dX12_goStep_0 rfl ?_
  refine Sx.getfR dX12_goStep_1 lkf_X12_55_12 (o_253 W) (r_253_24 W) ?_
  refine Sx.iload_n dX12_goStep_4 rfl ?_
  refine Sx.iconst (v := (nI 1)) dX12_goStep_5 (by decide) ?_
  refine Sx.iaddN dX12_goStep_6 ?_
  refine Sx.ialdN dX12_goStep_7 (a_264 W) (by omega) (by decide) (v := (iI ((V (20 + i) (3 * s + 1) : Int) - 1))) (by rw [show (3 * (20 * i + s)) + 1 = 60 * i + (3 * s + 1) by omega]; exact (hM.2.2.2.2.1 i hi).2 (3 * s + 1) (by omega)) ?_
  refine Sx.istore_n (lv' := [(3, .int (iI ((V (20 + i) (3 * s + 1) : Int) - 1))), (0, .ref 253), (1, .ref w), (2, .int (nI (3 * (20 * i + s))))]) dX12_goStep_8 (by decide) rfl ?_
  refine Sx.aload_n dX12_goStep_9 rfl ?_
  refine Sx.getfR dX12_goStep_10 lkf_X12_55_12 (o_253 W) (r_253_24 W) ?_
  refine Sx.iload_n dX12_goStep_13 rfl ?_
  refine Sx.ialdN dX12_goStep_14 (a_264 W) (by omega) (by decide) (v := (nI 4)) (by rw [show 3 * (20 * i + s) = 60 * i + (3 * s) by omega]; exact ((hM.2.2.2.2.1 i hi).2 (3 * s) (by omega)).trans (by rw [hact]; rfl)) ?_
  refine Sx.iconst (v := (nI 1)) dX12_goStep_15 (by decide) ?_
  refine Sx.icmp_neV (t := 38) dX12_goStep_16 (by decide) (vN (by decide)) (vN (by decide)) (fun c16 => ?_) (fun c16 => False.elim (by omega))
  refine Sx.aload_n dX12_goStep_38 rfl ?_
  refine Sx.getfR dX12_goStep_39 lkf_X12_55_12 (o_253 W) (r_253_24 W) ?_
  refine Sx.iload_n dX12_goStep_42 rfl ?_
  refine Sx.ialdN dX12_goStep_43 (a_264 W) (by omega) (by decide) (v := (nI 4)) (by rw [show 3 * (20 * i + s) = 60 * i + (3 * s) by omega]; exact ((hM.2.2.2.2.1 i hi).2 (3 * s) (by omega)).trans (by rw [hact]; rfl)) ?_
  refine Sx.iconst (v := (nI 2)) dX12_goStep_44 (by decide) ?_
  refine Sx.icmp_neV (t := 58) dX12_goStep_45 (by decide) (vN (by decide)) (vN (by decide)) (fun c45 => ?_) (fun c45 => False.elim (by omega))
  refine Sx.aload_n dX12_goStep_58 rfl ?_
  refine Sx.getfR dX12_goStep_59 lkf_X12_55_12 (o_253 W) (r_253_24 W) ?_
  refine Sx.iload_n dX12_goStep_62 rfl ?_
  refine Sx.ialdN dX12_goStep_63 (a_264 W) (by omega) (by decide) (v := (nI 4)) (by rw [show 3 * (20 * i + s) = 60 * i + (3 * s) by omega]; exact ((hM.2.2.2.2.1 i hi).2 (3 * s) (by omega)).trans (by rw [hact]; rfl)) ?_
  refine Sx.iconst (v := (nI 3)) dX12_goStep_64 (by decide) ?_
  refine Sx.icmp_neV (t := 73) dX12_goStep_65 (by decide) (vN (by decide)) (vN (by decide)) (fun c65 => ?_) (fun c65 => False.elim (by omega))
  refine Sx.aload_n dX12_goStep_73 rfl ?_
  refine Sx.getfR dX12_goStep_74 lkf_X12_55_12 (o_253 W) (r_253_24 W) ?_
  refine Sx.iload_n dX12_goStep_77 rfl ?_
  refine Sx.ialdN dX12_goStep_78 (a_264 W) (by omega) (by decide) (v := (nI 4)) (by rw [show 3 * (20 * i + s) = 60 * i + (3 * s) by omega]; exact ((hM.2.2.2.2.1 i hi).2 (3 * s) (by omega)).trans (by rw [hact]; rfl)) ?_
  refine Sx.iconst (v := (nI 4)) dX12_goStep_79 (by decide) ?_
  refine Sx.icmp_neV (t := 97) dX12_goStep_80 (by decide) (vN (by decide)) (vN (by decide)) (fun c80 => False.elim (by omega)) (fun c80 => ?_)
  refine Sx.aload_n dX12_goStep_83 rfl ?_
  refine Sx.bipush (v := (nI 20)) dX12_goStep_84 (by decide) ?_
  refine Sx.iconst (v := (nI 1)) dX12_goStep_86 (by decide) ?_
  refine Sx.iastN dX12_goStep_87 hAr (by omega) hN2 (fun I1 e1 o1 => ?_)
  refine Sx.aload_n dX12_goStep_88 rfl ?_
  refine Sx.bipush (v := (nI 22)) dX12_goStep_89 (by decide) ?_
  refine Sx.dup2 dX12_goStep_91 rfl rfl ?_
  refine Sx.ialdN dX12_goStep_92 hAr (by omega) hN2 (v := (nI (F 142))) (by rw [e1, upd_nj _ _ (by omega)]; exact hF.2.2.2.2.2.1) ?_
  refine Sx.bipush (v := (nI 10)) dX12_goStep_93 (by decide) ?_
  refine Sx.isubN dX12_goStep_95 (by omega) ?_
  refine Sx.iastN dX12_goStep_96 hAr (by omega) hN2 (fun I2 e2 o2 => ?_)
  refine Sx.aload_n dX12_goStep_97 rfl ?_
  refine Sx.getfR dX12_goStep_98 lkf_X12_55_12 (o_253 W) (r_253_24 W) ?_
  refine Sx.iload_n dX12_goStep_101 rfl ?_
  refine Sx.ialdN dX12_goStep_102 (a_264 W) (by omega) (by decide) (v := (nI 4)) (by rw [o2 264 (by omega), o1 264 (by omega), show 3 * (20 * i + s) = 60 * i + (3 * s) by omega]; exact ((hM.2.2.2.2.1 i hi).2 (3 * s) (by omega)).trans (by rw [hact]; rfl)) ?_
  refine Sx.iconst (v := (nI 5)) dX12_goStep_103 (by decide) ?_
  refine Sx.icmp_neV (t := 123) dX12_goStep_104 (by decide) (vN (by decide)) (vN (by decide)) (fun c104 => ?_) (fun c104 => False.elim (by omega))
  refine Sx.vret dX12_goStep_123 rfl ?_
  have mn := ((hF.set (b := 140) (x := 1) (by omega) (v := nI (1)) (by rw [if_neg (by omega)])).set (b := 142) (x := F 142 - 10) (by omega) (v := nI (F 142 - 10)) (by rw [if_neg (by omega)]))
  refine h I2 ?_ (fun q hq => by rw [o2 q hq, o1 q hq]) (fun z hz => by rw [e2, upd_nj _ _ (by omega), e1, upd_nj _ _ (by omega)])
  rw [show (iI ((V (20 + i) (3 * s) : Int) - 1)) = 4 from (by rw [hact]; rfl), cq_4, e2, e1]
  exact mn
set_option maxRecDepth 20000 in
set_option maxHeartbeats 1000000 in
theorem k_goStep5 {G : Gt} {l : Launch} {Z : Zt} {R : Rt} {I : It} {L : Lt} {post : Pt'} {V : Vt} {w i s : Nat} {F : Nat → Nat} (W : WF Z R) (hM : MI0 V I L) (hF : MW (I w) F) (hw : w = 266 ∨ w = 267) (hP : PB (V 2)) (hS : SG (V 2) F) (hi : i < V 0 3) (hi4 : V 0 3 ≤ 4) (hcb : V (20 + i) 60 ≤ 20 ∧ ∀ z, z < 60 → V (20 + i) z ≤ 10) (hs : s < V (20 + i) 60) (hA : 1 ≤ V (20 + i) (3 * s) ∧ V (20 + i) (3 * s) ≤ 6) (hact : V (20 + i) (3 * s) = 6) (hk : whN (V 2) F (iI ((V (20 + i) (3 * s) : Int) - 1)) (iI ((V (20 + i) (3 * s + 1) : Int) - 1)) (iI ((V (20 + i) (3 * s + 2) : Int) - 1)) = -1) (h : ∀ I', MW (I' w) (coN (V 2) (wlV V) F (iI ((V (20 + i) (3 * s) : Int) - 1)) (iI ((V (20 + i) (3 * s + 1) : Int) - 1)) (iI ((V (20 + i) (3 * s + 2) : Int) - 1))) → (∀ q, q ≠ w → I' q = I q) → (∀ z, 236 ≤ z → I' w z = I w z) → post none Z R I' L) : Cx G l mX12_goStep 1 0 0 [.ref 253, .ref w, .int (nI (3 * (20 * i + s)))] Z R I L post := by
  refine Cx.of (by decide +kernel) (by exact Nat.le_of_ble_eq_true rfl) ?_
  have p8 := hP.2.2.2.2.2.2.2.1
  have p6 := hP.2.2.2.2.2.1
  have p7 := hP.2.2.2.2.2.2.1
  have hx := hcb.2 (3 * s + 1) (by omega)
  have hy := hcb.2 (3 * s + 2) (by omega)
  obtain ⟨w1, w2, w3, w4, w5, w6, w7, w8, w9, w10, w11⟩ := id hF
  obtain ⟨N, hAr, hN1, hN2⟩ := wrow W hw
  obtain ⟨f1, f2, f3, f4, f5, f6, f7, f8, f9, f10, f11, f12, f13, f14, f15, f16⟩ := id hS.1
  have hO := Ok_of hP hS.1 (show whN (V 2) F 5 (iI ((V (20 + i) (3 * s + 1) : Int) - 1)) (iI ((V (20 + i) (3 * s + 2) : Int) - 1)) = -1 by have z := hk; rw [show (iI ((V (20 + i) (3 * s) : Int) - 1)) = 5 from (by rw [hact]; rfl)] at z; exact z)
  obtain ⟨p, hxp, hp, hp9, hp2, hp20⟩ := ok_5 hO
  refine Sx.aload_n dX12_goStep_0 rfl ?_
  refine Sx.getfR dX12_goStep_1 lkf_X12_55_12 (o_253 W) (r_253_24 W) ?_
  refine Sx.iload_n dX12_goStep_4 rfl ?_
  refine Sx.iconst (v := (nI 1)) dX12_goStep_5 (by decide) ?_
  refine Sx.iaddN dX12_goStep_6 ?_
  refine Sx.ialdN dX12_goStep_7 (a_264 W) (by omega) (by decide) (v := (nI p)) (by rw [show (3 * (20 * i + s)) + 1 = 60 * i + (3 * s + 1) by omega]; exact ((hM.2.2.2.2.1 i hi).2 (3 * s + 1) (by omega)).trans hxp) ?_
  refine Sx.istore_n (lv' := [(3, .int (nI p)), (0, .ref 253), (1, .ref w), (2, .int (nI (3 * (20 * i + s))))]) dX12_goStep_8 (by decide) rfl ?_
  refine Sx.aload_n dX12_goStep_9 rfl ?_
  refine Sx.getfR dX12_goStep_10 lkf_X12_55_12 (o_253 W) (r_253_24 W) ?_
  refine Sx.iload_n dX12_goStep_13 rfl ?_
  refine Sx.ialdN dX12_goStep_14 (a_264 W) (by omega) (by decide) (v := (nI 5)) (by rw [show 3 * (20 * i + s) = 60 * i + (3 * s) by omega]; exact ((hM.2.2.2.2.1 i hi).2 (3 * s) (by omega)).trans (by rw [hact]; rfl)) ?_
  refine Sx.iconst (v := (nI 1)) dX12_goStep_15 (by decide) ?_
  refine Sx.icmp_neV (t := 38) dX12_goStep_16 (by decide) (vN (by decide)) (vN (by decide)) (fun c16 => ?_) (fun c16 => False.elim (by omega))
  refine Sx.aload_n dX12_goStep_38 rfl ?_
  refine Sx.getfR dX12_goStep_39 lkf_X12_55_12 (o_253 W) (r_253_24 W) ?_
  refine Sx.iload_n dX12_goStep_42 rfl ?_
  refine Sx.ialdN dX12_goStep_43 (a_264 W) (by omega) (by decide) (v := (nI 5)) (by rw [show 3 * (20 * i + s) = 60 * i + (3 * s) by omega]; exact ((hM.2.2.2.2.1 i hi).2 (3 * s) (by omega)).trans (by rw [hact]; rfl)) ?_
  refine Sx.iconst (v := (nI 2)) dX12_goStep_44 (by decide) ?_
  refine Sx.icmp_neV (t := 58) dX12_goStep_45 (by decide) (vN (by decide)) (vN (by decide)) (fun c45 => ?_) (fun c45 => False.elim (by omega))
  refine Sx.aload_n dX12_goStep_58 rfl ?_
  refine Sx.getfR dX12_goStep_59 lkf_X12_55_12 (o_253 W) (r_253_24 W) ?_
  refine Sx.iload_n dX12_goStep_62 rfl ?_
  refine Sx.ialdN dX12_goStep_63 (a_264 W) (by omega) (by decide) (v := (nI 5)) (by rw [show 3 * (20 * i + s) = 60 * i + (3 * s) by omega]; exact ((hM.2.2.2.2.1 i hi).2 (3 * s) (by omega)).trans (by rw [hact]; rfl)) ?_
  refine Sx.iconst (v := (nI 3)) dX12_goStep_64 (by decide) ?_
  refine Sx.icmp_neV (t := 73) dX12_goStep_65 (by decide) (vN (by decide)) (vN (by decide)) (fun c65 => ?_) (fun c65 => False.elim (by omega))
  refine Sx.aload_n dX12_goStep_73 rfl ?_
  refine Sx.getfR dX12_goStep_74 lkf_X12_55_12 (o_253 W) (r_253_24 W) ?_
  refine Sx.iload_n dX12_goStep_77 rfl ?_
  refine Sx.ialdN dX12_goStep_78 (a_264 W) (by omega) (by decide) (v := (nI 5)) (by rw [show 3 * (20 * i + s) = 60 * i + (3 * s) by omega]; exact ((hM.2.2.2.2.1 i hi).2 (3 * s) (by omega)).trans (by rw [hact]; rfl)) ?_
  refine Sx.iconst (v := (nI 4)) dX12_goStep_79 (by decide) ?_
  refine Sx.icmp_neV (t := 97) dX12_goStep_80 (by decide) (vN (by decide)) (vN (by decide)) (fun c80 => ?_) (fun c80 => False.elim (by omega))
  refine Sx.aload_n dX12_goStep_97 rfl ?_
  refine Sx.getfR dX12_goStep_98 lkf_X12_55_12 (o_253 W) (r_253_24 W) ?_
  refine Sx.iload_n dX12_goStep_101 rfl ?_
  refine Sx.ialdN dX12_goStep_102 (a_264 W) (by omega) (by decide) (v := (nI 5)) (by rw [show 3 * (20 * i + s) = 60 * i + (3 * s) by omega]; exact ((hM.2.2.2.2.1 i hi).2 (3 * s) (by omega)).trans (by rw [hact]; rfl)) ?_
  refine Sx.iconst (v := (nI 5)) dX12_goStep_103 (by decide) ?_
  refine Sx.icmp_neV (t := 123) dX12_goStep_104 (by decide) (vN (by decide)) (vN (by decide)) (fun c104 => False.elim (by omega)) (fun c104 => ?_)
  refine Sx.aload_n dX12_goStep_107 rfl ?_
  refine Sx.bipush (v := (nI 21)) dX12_goStep_108 (by decide) ?_
  refine Sx.dup2 dX12_goStep_110 rfl rfl ?_
  refine Sx.ialdN dX12_goStep_111 hAr (by omega) hN2 (v := (nI (F 141))) (by exact hF.2.2.2.2.1) ?_
  refine Sx.iload_n dX12_goStep_112 rfl ?_
  refine Sx.iaddN dX12_goStep_113 ?_
  refine Sx.iastN dX12_goStep_114 hAr (by omega) hN2 (fun I1 e1 o1 => ?_)
  refine Sx.aload_n dX12_goStep_115 rfl ?_
  refine Sx.bipush (v := (nI 22)) dX12_goStep_116 (by decide) ?_
  refine Sx.dup2 dX12_goStep_118 rfl rfl ?_
  refine Sx.ialdN dX12_goStep_119 hAr (by omega) hN2 (v := (nI (F 142))) (by rw [e1, upd_nj _ _ (by omega)]; exact hF.2.2.2.2.2.1) ?_
  refine Sx.iload_n dX12_goStep_120 rfl ?_
  refine Sx.isubN dX12_goStep_121 (by omega) ?_
  refine Sx.iastN dX12_goStep_122 hAr (by omega) hN2 (fun I2 e2 o2 => ?_)
  refine Sx.vret dX12_goStep_123 rfl ?_
  have mn := ((hF.set (b := 141) (x := F 141 + p) (by omega) (v := nI (F 141 + p)) (by rw [if_neg (by omega)])).set (b := 142) (x := F 142 - p) (by omega) (v := nI (F 142 - p)) (by rw [if_neg (by omega)]))
  refine h I2 ?_ (fun q hq => by rw [o2 q hq, o1 q hq]) (fun z hz => by rw [e2, upd_nj _ _ (by omega), e1, upd_nj _ _ (by omega)])
  rw [show (iI ((V (20 + i) (3 * s) : Int) - 1)) = 5 from (by rw [hact]; rfl), hxp, cq_5 _ _ _ _ (by omega), e2, e1]
  exact mn
set_option maxRecDepth 20000 in
set_option maxHeartbeats 1000000 in
theorem k_goStep {G : Gt} {l : Launch} {Z : Zt} {R : Rt} {I : It} {L : Lt} {post : Pt'} {V : Vt} {w i s : Nat} {F : Nat → Nat} (W : WF Z R) (hM : MI0 V I L) (hF : MW (I w) F) (hw : w = 266 ∨ w = 267) (hP : PB (V 2)) (hS : SG (V 2) F) (hi : i < V 0 3) (hi4 : V 0 3 ≤ 4) (hcb : V (20 + i) 60 ≤ 20 ∧ ∀ z, z < 60 → V (20 + i) z ≤ 10) (hs : s < V (20 + i) 60) (hA : 1 ≤ V (20 + i) (3 * s) ∧ V (20 + i) (3 * s) ≤ 6) (hn0 : V (20 + i) (3 * s) ≠ 1) (hk : whN (V 2) F (iI ((V (20 + i) (3 * s) : Int) - 1)) (iI ((V (20 + i) (3 * s + 1) : Int) - 1)) (iI ((V (20 + i) (3 * s + 2) : Int) - 1)) = -1) (h : ∀ I', MW (I' w) (coN (V 2) (wlV V) F (iI ((V (20 + i) (3 * s) : Int) - 1)) (iI ((V (20 + i) (3 * s + 1) : Int) - 1)) (iI ((V (20 + i) (3 * s + 2) : Int) - 1))) → (∀ q, q ≠ w → I' q = I q) → (∀ z, 236 ≤ z → I' w z = I w z) → post none Z R I' L) : Cx G l mX12_goStep 1 0 0 [.ref 253, .ref w, .int (nI (3 * (20 * i + s)))] Z R I L post := by
  have hc : V (20 + i) (3 * s) = 2 ∨ V (20 + i) (3 * s) = 3 ∨ V (20 + i) (3 * s) = 4 ∨ V (20 + i) (3 * s) = 5 ∨ V (20 + i) (3 * s) = 6 := by omega
  rcases hc with c | c | c | c | c
  · exact k_goStep1 W hM hF hw hP hS hi hi4 hcb hs hA c hk h
  · exact k_goStep2 W hM hF hw hP hS hi hi4 hcb hs hA c hk h
  · exact k_goStep3 W hM hF hw hP hS hi hi4 hcb hs hA c hk h
  · exact k_goStep4 W hM hF hw hP hS hi hi4 hcb hs hA c hk h
  · exact k_goStep5 W hM hF hw hP hS hi hi4 hcb hs hA c hk h
