/-! a day passes in the reference -/
theorem brs_o (P G : Nat → Nat) (lt : Nat) : ∀ j q, q ≠ 142 → ¬ (6 ≤ q ∧ q < 6 + j) → brs P G lt j q = G q
  | 0, _, _, _ => rfl
  | j + 1, q, h1, h2 => by
    have ih := brs_o P G lt j q h1 (by omega)
    unfold brs
    split
    · exact ih
    · unfold brN
      split
      · exact ih
      · unfold upn
        rw [if_neg h1, if_neg (by omega)]
        exact ih
theorem brs_b {P G : Nat → Nat} (lt : Nat) (h : (∀ p, p < 6 → G (6 + p) ≤ 9999) ∧ G 142 ≤ 999) : ∀ j, (∀ p, p < 6 → brs P G lt j (6 + p) ≤ 9999) ∧ brs P G lt j 142 ≤ 999
  | 0 => h
  | j + 1 => by
    have ih := brs_b (P := P) lt h j
    unfold brs
    split
    · exact ih
    · unfold brN
      split
      · exact ih
      · unfold upn
        refine ⟨fun p hp => ?_, ?_⟩
        · rw [if_neg (by omega)]
          split
          · omega
          · exact ih.1 p hp
        · rw [if_pos rfl]; omega
set_option maxRecDepth 20000 in
set_option maxHeartbeats 1000000 in
theorem l_ps1 {G : Gt} {l : Launch} {Z : Zt} {R : Rt} {L : Lt} {post : Pt'} {w lt dy : Nat} {Gg : Nat → Nat} {I0 : It} (W : WF Z R) (hw : w = 266 ∨ w = 267) (hdy : dy < 30) (h : ∀ (I : It), MWp (fun d => d ≠ dy) (I w) Gg → (∀ z, z < 6 → I w (56 + 6 * dy + z) = nI 0) → (∀ q, q ≠ w → I q = I0 q) → (∀ z, 236 ≤ z → I w z = I0 w z) → Sx G l mX12_passes 37 0 0 48 [(3, .int (nI lt)), (2, .int (nI dy)), (0, .ref 253), (1, .ref w)] [] Z R I L post) :
    ∀ (k j : Nat), j ≤ 6 → 6 < j + k → ∀ (I : It), MWp (fun d => d ≠ dy) (I w) Gg → (∀ z, z < j → I w (56 + 6 * dy + z) = nI 0) → (∀ q, q ≠ w → I q = I0 q) → (∀ z, 236 ≤ z → I w z = I0 w z) → Sx G l mX12_passes 37 0 0 22 [(4, .int (nI j)), (3, .int (nI lt)), (2, .int (nI dy)), (0, .ref 253), (1, .ref w)] [] Z R I L post := by
  obtain ⟨N, hA, hN1, hN2⟩ := wrow W hw
  intro k
  induction k with
  | zero => intro j h1 h2; omega
  | succ k ih =>
    intro j h1 h2 I hG hc hI hZ
    refine Sx.iload dX12_passes_22 rfl ?_
    refine Sx.bipush (v := (nI 6)) dX12_passes_24 (by decide) ?_
    refine Sx.icmp_geV (t := 48) dX12_passes_26 (by decide) (vN (by omega)) (vN (by decide)) (fun c26 => ?_) (fun c26 => ?_)
    · refine Sx.sub' [(3, .int (nI lt)), (2, .int (nI dy)), (0, .ref 253), (1, .ref w)] rfl ?_
      have hj : j = 6 := by omega
      subst hj
      exact h I hG hc hI hZ
    · refine Sx.aload_n dX12_passes_29 rfl ?_
      refine Sx.bipush (v := (nI 56)) dX12_passes_30 (by decide) ?_
      refine Sx.bipush (v := (nI 6)) dX12_passes_32 (by decide) ?_
      refine Sx.iload_n dX12_passes_34 rfl ?_
      refine Sx.imulN dX12_passes_35 ?_
      refine Sx.iaddN dX12_passes_36 ?_
      refine Sx.iload dX12_passes_37 rfl ?_
      refine Sx.iaddN dX12_passes_39 ?_
      refine Sx.iconst (v := (nI 0)) dX12_passes_40 (by decide) ?_
      refine Sx.iastN dX12_passes_41 hA (by omega) hN2 (fun I1 e1 o1 => ?_)
      refine Sx.iinc (v := (nI (j + 1))) (lv' := [(4, .int (nI (j + 1))), (3, .int (nI lt)), (2, .int (nI dy)), (0, .ref 253), (1, .ref w)]) dX12_passes_42 rfl (nI_add j 1) (by decide) rfl ?_
      refine Sx.goto (t := 22) dX12_passes_45 (by decide) ?_
      refine Sx.sub' [(4, .int (nI (j + 1))), (3, .int (nI lt)), (2, .int (nI dy)), (0, .ref 253), (1, .ref w)] rfl ?_
      refine ih (j + 1) (by omega) (by omega) I1 ?_ (fun z hz => ?_) (fun q hq => (o1 q hq).trans (hI q hq)) (fun z hz => by rw [e1, upd_nj _ _ (by omega)]; exact hZ z hz)
      · rw [e1]; exact hG.out (fun q => q rfl) hdy (by omega) _
      · rw [e1]
        by_cases e : z = j
        · rw [e, upd_at]
        · rw [upd_nj _ _ (by omega)]; exact hc z (by omega)
set_option maxRecDepth 20000 in
set_option maxHeartbeats 1000000 in
theorem l_ps2 {G : Gt} {l : Launch} {Z : Zt} {R : Rt} {L : Lt} {post : Pt'} {V : Vt} {w lt dy : Nat} {F Gg : Nat → Nat} {I0 : It} (W : WF Z R) (hM : MI0 V I0 L) (hP : PB (V 2)) (hS : SB (V 2) F) (hw : w = 266 ∨ w = 267) (hdy : dy < 30) (hlt : lt ≤ 99) (hg : ∀ q, ¬ (18 ≤ q ∧ q < 78) → Gg q = F q) (h : ∀ (I : It), MWp (fun d => d ≠ dy) (I w) (brs (V 2) Gg lt (V 2 35)) → (∀ k, k < 6 → I w (56 + 6 * dy + k) = nI (doN (dnN F (V 2 35)) k 6)) → (∀ q, q ≠ w → I q = I0 q) → (∀ z, 236 ≤ z → I w z = I0 w z) → Sx G l mX12_passes 37 0 0 183 [(3, .int (nI lt)), (2, .int (nI dy)), (0, .ref 253), (1, .ref w)] [] Z R I L post) :
    ∀ (k j : Nat), j ≤ V 2 35 → V 2 35 < j + k → ∀ (I : It), MWp (fun d => d ≠ dy) (I w) (brs (V 2) Gg lt j) → (∀ k, k < 6 → I w (56 + 6 * dy + k) = nI (doN (dnN F j) k 6)) → (∀ q, q ≠ w → I q = I0 q) → (∀ z, 236 ≤ z → I w z = I0 w z) → Sx G l mX12_passes 37 0 0 51 [(4, .int (nI j)), (3, .int (nI lt)), (2, .int (nI dy)), (0, .ref 253), (1, .ref w)] [] Z R I L post := by
  obtain ⟨N, hA, hN1, hN2⟩ := wrow W hw
  obtain ⟨f1, f2, f3, f4, f5, f6, f7, f8, f9, f10, f11, f12, f13, f14, f15, f16⟩ := id hS
  obtain ⟨p1, p2, p3, p4, p5, p6, p7, p8, p9⟩ := id hP
  have hgb : (∀ p, p < 6 → Gg (6 + p) ≤ 9999) ∧ Gg 142 ≤ 999 := ⟨fun p hp => by rw [hg _ (by omega)]; exact f2 p hp, by rw [hg _ (by omega)]; exact f11⟩
  intro k
  induction k with
  | zero => intro j h1 h2; omega
  | succ k ih =>
    intro j h1 h2 I hG hc hI hZ
    refine Sx.iload dX12_passes_51 rfl ?_
    refine Sx.aload_n dX12_passes_53 rfl ?_
    refine Sx.getfV (v := (nI (V 2 35))) dX12_passes_54 lkf_X12_307_12 (o_253 W) (by rw [hI 253 (by omega)]; exact hM.1.2.2.2.1) ?_
    refine Sx.icmp_geV (t := 183) dX12_passes_57 (by decide) (vN (by omega)) (vN (by omega)) (fun c57 => ?_) (fun c57 => ?_)
    · refine Sx.sub' [(3, .int (nI lt)), (2, .int (nI dy)), (0, .ref 253), (1, .ref w)] rfl ?_
      have hj : j = V 2 35 := by omega
      subst hj
      exact h I hG hc hI hZ
    · have hj6 : j < 6 := by omega
      have hg138 : Gg 138 = F 138 := hg 138 (by omega)
      have hB138 : brs (V 2) Gg lt j 138 = F 138 := (brs_o _ _ _ _ _ (by decide) (by omega)).trans (hg 138 (by omega))
      have hBj : brs (V 2) Gg lt j j = F j := (brs_o _ _ _ _ _ (by omega) (by omega)).trans (hg j (by omega))
      have hfj := f15 j hj6
      have hfj2 := hS.1 j hj6
      have hBv : brs (V 2) Gg lt j (12 + F j) = F (12 + F j) := (brs_o _ _ _ _ _ (by omega) (by omega)).trans (hg _ (by omega))
      have hbb := brs_b (P := V 2) lt hgb j
      have hb6 := hbb.1 j hj6
      have hb7 := hbb.2
      have hp9 := p9 (F j) hfj2
      have hv9 := f3 (F j) hfj2
      refine Sx.aload_n dX12_passes_60 rfl ?_
      refine Sx.bipush (v := (nI 18)) dX12_passes_61 (by decide) ?_
      refine Sx.ialdN dX12_passes_63 hA (by omega) hN2 (v := (nI (F 138))) (by rw [hG.2.1, hB138]) ?_
      refine Sx.iload dX12_passes_64 rfl ?_
      refine Sx.callS2 dX12_passes_66 lkc_X12_242  (by decide) (by decide) (Nat.le_of_ble_eq_true rfl) rfl rfl (k_has (by omega) (by omega) ?_)
      refine Sx.if_eqB (t := 75) dX12_passes_69 (by decide) (fun c69 => ?_) (fun c69 => ?_)
      · refine Sx.aload_n dX12_passes_75 rfl ?_
        refine Sx.iload dX12_passes_76 rfl ?_
        refine Sx.ialdN dX12_passes_78 hA (by omega) hN2 (v := (nI (F j))) (by rw [hG.1 j (by omega), hBj]) ?_
        refine Sx.istore (lv' := [(5, .int (nI (F j))), (4, .int (nI j)), (3, .int (nI lt)), (2, .int (nI dy)), (0, .ref 253), (1, .ref w)]) dX12_passes_79 (by decide) rfl ?_
        refine Sx.aload_n dX12_passes_81 rfl ?_
        refine Sx.bipush (v := (nI 56)) dX12_passes_82 (by decide) ?_
        refine Sx.bipush (v := (nI 6)) dX12_passes_84 (by decide) ?_
        refine Sx.iload_n dX12_passes_86 rfl ?_
        refine Sx.imulN dX12_passes_87 ?_
        refine Sx.iaddN dX12_passes_88 ?_
        refine Sx.iload dX12_passes_89 rfl ?_
        refine Sx.iaddN dX12_passes_91 ?_
        refine Sx.dup2 dX12_passes_92 rfl rfl ?_
        refine Sx.ialdN dX12_passes_93 hA (by omega) hN2 (v := (nI (doN (dnN F j) (F j) 6))) (hc (F j) (by omega)) ?_
        refine Sx.iconst (v := (nI 1)) dX12_passes_94 (by decide) ?_
        refine Sx.iload dX12_passes_95 rfl ?_
        refine Sx.ishl1 dX12_passes_97 (by omega) ?_
        refine Sx.iorN dX12_passes_98 ?_
        refine Sx.iastN dX12_passes_99 hA (by omega) hN2 (fun I1 e1 o1 => ?_)
        refine Sx.iload_n dX12_passes_100 rfl ?_
        refine Sx.aload_n dX12_passes_101 rfl ?_
        refine Sx.getfR dX12_passes_102 lkf_X12_43_12 (o_253 W) (r_253_20 W) ?_
        refine Sx.iconst (v := (nI 2)) dX12_passes_105 (by decide) ?_
        refine Sx.iload dX12_passes_106 rfl ?_
        refine Sx.imulN dX12_passes_108 ?_
        refine Sx.iconst (v := (nI 1)) dX12_passes_109 (by decide) ?_
        refine Sx.iaddN dX12_passes_110 ?_
        refine Sx.ialdN dX12_passes_111 (a_260 W) (by omega) (by decide) (v := (nI (V 2 (9 + F j)))) (by rw [o1 260 (by omega), hI 260 (by omega), hM.2.2.2.1.2.1 (F j) 1 (by omega) (by decide)]) ?_
        refine Sx.icmp_geV (t := 118) dX12_passes_112 (by decide) (vN (by omega)) (vN (by omega)) (fun c112 => ?_) (fun c112 => ?_)
        · refine Sx.aload_n dX12_passes_118 rfl ?_
          refine Sx.getfR dX12_passes_119 lkf_X12_43_12 (o_253 W) (r_253_20 W) ?_
          refine Sx.iconst (v := (nI 2)) dX12_passes_122 (by decide) ?_
          refine Sx.iload dX12_passes_123 rfl ?_
          refine Sx.imulN dX12_passes_125 ?_
          refine Sx.ialdN dX12_passes_126 (a_260 W) (by omega) (by decide) (v := (nI (V 2 (3 + F j)))) (by rw [o1 260 (by omega), hI 260 (by omega), show 2 * F j = 2 * F j + 0 from rfl, hM.2.2.2.1.2.1 (F j) 0 (by omega) (by decide)]) ?_
          refine Sx.aload_n dX12_passes_127 rfl ?_
          refine Sx.bipush (v := (nI 12)) dX12_passes_128 (by decide) ?_
          refine Sx.iload dX12_passes_130 rfl ?_
          refine Sx.iaddN dX12_passes_132 ?_
          refine Sx.ialdN dX12_passes_133 hA (by omega) hN2 (v := (nI (F (12 + F j)))) (by rw [e1, upd_nj _ _ (by omega), hG.1 (12 + F j) (by omega), hBv]) ?_
          refine Sx.iaddN dX12_passes_134 ?_
          refine Sx.istore (lv' := [(6, .int (nI ((V 2 (3 + F j)) + (F (12 + F j))))), (5, .int (nI (F j))), (4, .int (nI j)), (3, .int (nI lt)), (2, .int (nI dy)), (0, .ref 253), (1, .ref w)]) dX12_passes_135 (by decide) rfl ?_
          refine Sx.aload_n dX12_passes_137 rfl ?_
          refine Sx.bipush (v := (nI 6)) dX12_passes_138 (by decide) ?_
          refine Sx.iload dX12_passes_140 rfl ?_
          refine Sx.iaddN dX12_passes_142 ?_
          refine Sx.sipush (v := (nI 9999)) dX12_passes_143 (by decide) ?_
          refine Sx.aload_n dX12_passes_146 rfl ?_
          refine Sx.bipush (v := (nI 6)) dX12_passes_147 (by decide) ?_
          refine Sx.iload dX12_passes_149 rfl ?_
          refine Sx.iaddN dX12_passes_151 ?_
          refine Sx.ialdN dX12_passes_152 hA (by omega) hN2 (v := (nI (brs (V 2) Gg lt j (6 + j)))) (by rw [e1, upd_nj _ _ (by omega), hG.1 (6 + j) (by omega)]) ?_
          refine Sx.iload dX12_passes_153 rfl ?_
          refine Sx.iaddN dX12_passes_155 ?_
          refine Sx.mmin dX12_passes_156 lkm_X12_351 (by decide) (Nat.le_of_ble_eq_true rfl) ?_
          refine Sx.top (n_min (by decide) (by omega)) ?_
          refine Sx.iastN dX12_passes_159 hA (by omega) hN2 (fun I2 e2 o2 => ?_)
          refine Sx.aload_n dX12_passes_160 rfl ?_
          refine Sx.bipush (v := (nI 22)) dX12_passes_161 (by decide) ?_
          refine Sx.sipush (v := (nI 999)) dX12_passes_163 (by decide) ?_
          refine Sx.aload_n dX12_passes_166 rfl ?_
          refine Sx.bipush (v := (nI 22)) dX12_passes_167 (by decide) ?_
          refine Sx.ialdN dX12_passes_169 hA (by omega) hN2 (v := (nI (brs (V 2) Gg lt j 142))) (by rw [e2, upd_nj _ _ (by omega), e1, upd_nj _ _ (by omega), hG.2.2.2.2.2.1]) ?_
          refine Sx.iload dX12_passes_170 rfl ?_
          refine Sx.iaddN dX12_passes_172 ?_
          refine Sx.mmin dX12_passes_173 lkm_X12_351 (by decide) (Nat.le_of_ble_eq_true rfl) ?_
          refine Sx.top (n_min (by decide) (by omega)) ?_
          refine Sx.iastN dX12_passes_176 hA (by omega) hN2 (fun I3 e3 o3 => ?_)
          refine Sx.iinc (v := (nI (j + 1))) (lv' := [(4, .int (nI (j + 1))), (6, .int (nI ((V 2 (3 + F j)) + (F (12 + F j))))), (5, .int (nI (F j))), (3, .int (nI lt)), (2, .int (nI dy)), (0, .ref 253), (1, .ref w)]) dX12_passes_177 rfl (nI_add j 1) (by decide) rfl ?_
          refine Sx.goto (t := 51) dX12_passes_180 (by decide) ?_
          refine Sx.sub' [(4, .int (nI (j + 1))), (3, .int (nI lt)), (2, .int (nI dy)), (0, .ref 253), (1, .ref w)] rfl ?_
          have hbr : brs (V 2) Gg lt (j + 1) = upn (upn (brs (V 2) Gg lt j) (6 + j) (min 9999 (brs (V 2) Gg lt j (6 + j) + (V 2 (3 + F j) + F (12 + F j))))) 142 (min 999 (brs (V 2) Gg lt j 142 + (V 2 (3 + F j) + F (12 + F j)))) := by
            rw [brs, if_neg (by rw [hg138, c69]; decide), brN, if_neg (by rw [hBj]; omega), hBj, hBv]
          refine ih (j + 1) (by omega) (by omega) I3 ?_ (fun k hk => ?_) (fun q hq => by rw [o3 q hq, o2 q hq, o1 q hq]; exact hI q hq) (fun z hz => by rw [e3, upd_nj _ _ (by omega), e2, upd_nj _ _ (by omega), e1, upd_nj _ _ (by omega)]; exact hZ z hz)
          · rw [hbr, e3, e2, e1]
            have q1 := hG.out (d0 := dy) (k0 := F j) (fun q => q rfl) hdy (by omega) (nI (doN (dnN F j) (F j) 6 ||| 2 ^ j))
            have q2 := q1.set (b := 6 + j) (x := min 9999 (brs (V 2) Gg lt j (6 + j) + (V 2 (3 + F j) + F (12 + F j)))) (by omega) (v := nI (min 9999 (brs (V 2) Gg lt j (6 + j) + (V 2 (3 + F j) + F (12 + F j))))) (by rw [if_neg (by omega)])
            rw [show cwN (6 + j) = 6 + j by unfold cwN; rw [if_pos (by omega)]] at q2
            exact q2.set (b := 142) (by omega) (by rw [if_neg (by decide)])
          · rw [e3, upd_nj _ _ (by omega), e2, upd_nj _ _ (by omega), e1, do_s hS.1 (by omega) k 6 (by omega)]
            by_cases e : k = F j
            · subst e; rw [upd_at, if_pos ⟨by omega, by rw [c69]; decide, rfl⟩]
            · rw [upd_nj _ _ (by omega), hc k hk, if_neg (fun q => e q.2.2.symm), Nat.or_zero]
        · refine Sx.goto (t := 177) dX12_passes_115 (by decide) ?_
          refine Sx.iinc (v := (nI (j + 1))) (lv' := [(4, .int (nI (j + 1))), (5, .int (nI (F j))), (3, .int (nI lt)), (2, .int (nI dy)), (0, .ref 253), (1, .ref w)]) dX12_passes_177 rfl (nI_add j 1) (by decide) rfl ?_
          refine Sx.goto (t := 51) dX12_passes_180 (by decide) ?_
          refine Sx.sub' [(4, .int (nI (j + 1))), (3, .int (nI lt)), (2, .int (nI dy)), (0, .ref 253), (1, .ref w)] rfl ?_
          have hbr : brs (V 2) Gg lt (j + 1) = brs (V 2) Gg lt j := by rw [brs, if_neg (by rw [hg138, c69]; decide), brN, if_pos (by rw [hBj]; omega)]
          refine ih (j + 1) (by omega) (by omega) I1 (by rw [hbr, e1]; exact hG.out (fun q => q rfl) hdy (by omega) _) (fun k hk => ?_) (fun q hq => by rw [o1 q hq]; exact hI q hq) (fun z hz => by rw [e1, upd_nj _ _ (by omega)]; exact hZ z hz)
          rw [e1, do_s hS.1 (by omega) k 6 (by omega)]
          by_cases e : k = F j
          · subst e; rw [upd_at, if_pos ⟨by omega, by rw [c69]; decide, rfl⟩]
          · rw [upd_nj _ _ (by omega), hc k hk, if_neg (fun q => e q.2.2.symm), Nat.or_zero]
      · refine Sx.goto (t := 177) dX12_passes_72 (by decide) ?_
        refine Sx.iinc (v := (nI (j + 1))) (lv' := [(4, .int (nI (j + 1))), (3, .int (nI lt)), (2, .int (nI dy)), (0, .ref 253), (1, .ref w)]) dX12_passes_177 rfl (nI_add j 1) (by decide) rfl ?_
        refine Sx.goto (t := 51) dX12_passes_180 (by decide) ?_
        refine Sx.sub' [(4, .int (nI (j + 1))), (3, .int (nI lt)), (2, .int (nI dy)), (0, .ref 253), (1, .ref w)] rfl ?_
        have hbr : brs (V 2) Gg lt (j + 1) = brs (V 2) Gg lt j := by rw [brs, if_pos (by rw [hg138]; exact c69)]
        refine ih (j + 1) (by omega) (by omega) I (by rw [hbr]; exact hG) (fun k hk => ?_) hI hZ
        rw [hc k hk, do_s hS.1 (by omega) k 6 (by omega), if_neg (fun q => q.2.1 c69), Nat.or_zero]
