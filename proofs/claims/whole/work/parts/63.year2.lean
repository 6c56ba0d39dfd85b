/-! the reference ends a year -/
theorem dk_b (F : Nat → Nat) : ∀ j, 1 ≤ j → 1 ≤ dkN F j ∧ dkN F j ≤ j
  | 0, h => by omega
  | j + 1, _ => by
    unfold dkN
    split
    · omega
    · next h =>
      rcases Nat.eq_zero_or_pos j with e | e
      · subst e; exact absurd (Or.inl rfl) h
      · have := dk_b F j e; omega
theorem vc_lt (x k : Nat) : vcN x k ≤ 6 := (popN_bit _ (doN_lt x k 6)).2
theorem amp_b (c : Nat → Nat) : ∀ j, amp c j ≤ j := amp_le c
theorem amp_v {c : Nat → Nat} : ∀ j, amp c j ≠ 0 → 0 < c (amp c j - 1)
  | 0, h => absurd rfl h
  | j + 1, h => by
    by_cases q : ampV c j < c j
    · rw [amp_yes q, Nat.add_sub_cancel]
      omega
    · rw [amp_no q] at h ⊢
      exact amp_v j h
set_option maxRecDepth 20000 in
set_option maxHeartbeats 1000000 in
theorem l_ey1 {G : Gt} {l : Launch} {Z : Zt} {R : Rt} {L : Lt} {post : Pt'} {V : Vt} {w : Nat} {F : Nat → Nat} {I0 : It} (W : WF Z R) (hM : MI0 V I0 L) (hP : PB (V 2)) (hw : w = 266 ∨ w = 267) (hF : MW (I0 w) F) (hl : ∀ d, d < 30 → F (18 + d) < 100) (h : ∀ (I : It), (∀ q, q ≠ 253 → I q = I0 q) → (∀ j, j ≠ 39 → I 253 j = I0 253 j) → I 253 39 = nI (dkN F (V 2 0) - 1) → Sx G l mX12_endsYear 2 0 0 53 [(0, .ref 253), (1, .ref w)] [] Z R I L post) :
    ∀ (k j : Nat), 1 ≤ j → j ≤ V 2 0 → V 2 0 < j + k → ∀ (I : It), (∀ q, q ≠ 253 → I q = I0 q) → (∀ j, j ≠ 39 → I 253 j = I0 253 j) → I 253 39 = nI (dkN F j - 1) → Sx G l mX12_endsYear 2 0 0 7 [(2, .int (nI j)), (0, .ref 253), (1, .ref w)] [] Z R I L post := by
  obtain ⟨p1, p2, p3, p4, p5, p6, p7, p8, p9⟩ := id hP
  obtain ⟨N, hA, hN1, hN2⟩ := wrow W hw
  intro k
  induction k with
  | zero => intro j h1 h2; omega
  | succ k ih =>
    intro j hj1 h1 h2 I hI hJ hr
    refine Sx.iload_n dX12_endsYear_7 rfl ?_
    refine Sx.aload_n dX12_endsYear_8 rfl ?_
    refine Sx.getfR dX12_endsYear_9 lkf_X12_37_12 (o_253 W) (r_253_18 W) ?_
    refine Sx.iconst (v := (nI 0)) dX12_endsYear_12 (by decide) ?_
    refine Sx.ialdN dX12_endsYear_13 (a_258 W) (by decide) (by decide) (v := (nI (V 2 0))) (by rw [hI 258 (by omega)]; exact hM.2.2.2.1.1 0 (by decide)) ?_
    refine Sx.icmp_geV (t := 53) dX12_endsYear_14 (by decide) (vN (by omega)) (vN (by omega)) (fun c14 => ?_) (fun c14 => ?_)
    · refine Sx.sub' [(0, .ref 253), (1, .ref w)] rfl ?_
      have hj : j = V 2 0 := by omega
      subst hj
      exact h I hI hJ hr
    · have hdk := dk_b F j hj1
      have hl1 := hl j (by omega)
      have hl2 := hl (dkN F j - 1) (by omega)
      refine Sx.aload_n dX12_endsYear_17 rfl ?_
      refine Sx.aload_n dX12_endsYear_18 rfl ?_
      refine Sx.bipush (v := (nI 26)) dX12_endsYear_19 (by decide) ?_
      refine Sx.iload_n dX12_endsYear_21 rfl ?_
      refine Sx.iaddN dX12_endsYear_22 ?_
      refine Sx.ialdN dX12_endsYear_23 hA (by omega) hN2 (v := (nI (F (18 + j)))) (by rw [hI w (by omega)]; exact hF.2.2.2.2.2.2.2.2.2.1 j (by omega)) ?_
      refine Sx.aload_n dX12_endsYear_24 rfl ?_
      refine Sx.bipush (v := (nI 26)) dX12_endsYear_25 (by decide) ?_
      refine Sx.aload_n dX12_endsYear_27 rfl ?_
      refine Sx.getfV (v := (nI (dkN F j - 1))) dX12_endsYear_28 lkf_X12_362_12 (o_253 W) hr ?_
      refine Sx.iaddN dX12_endsYear_31 ?_
      refine Sx.ialdN dX12_endsYear_32 hA (by omega) hN2 (v := (nI (F (18 + (dkN F j - 1))))) (by rw [hI w (by omega)]; exact hF.2.2.2.2.2.2.2.2.2.1 _ (by omega)) ?_
      refine Sx.icmp_geV (t := 40) dX12_endsYear_33 (by decide) (vN (by omega)) (vN (by omega)) (fun c33 => ?_) (fun c33 => ?_)
      · refine Sx.aload_n dX12_endsYear_40 rfl ?_
        refine Sx.getfV (v := (nI (dkN F j - 1))) dX12_endsYear_41 lkf_X12_362_12 (o_253 W) hr ?_
        refine Sx.putfV dX12_endsYear_44 lkp_X12_362_12 (o_253 W) rfl rfl (fun I1 e1 o1 => ?_)
        refine Sx.iinc (v := (nI (j + 1))) (lv' := [(2, .int (nI (j + 1))), (0, .ref 253), (1, .ref w)]) dX12_endsYear_47 rfl (nI_add j 1) (by decide) rfl ?_
        refine Sx.goto (t := 7) dX12_endsYear_50 (by decide) ?_
        refine Sx.sub' [(2, .int (nI (j + 1))), (0, .ref 253), (1, .ref w)] rfl ?_
        refine ih (j + 1) (by omega) (by omega) (by omega) I1 (fun q hq => (o1 q hq).trans (hI q hq)) (fun z hz => by rw [e1, upd_nj _ _ hz]; exact hJ z hz) (by rw [e1, upd_at]; congr 1; rw [dkN, if_neg (by omega)])
      · refine Sx.iload_n dX12_endsYear_36 rfl ?_
        refine Sx.goto (t := 44) dX12_endsYear_37 (by decide) ?_
        refine Sx.putfV dX12_endsYear_44 lkp_X12_362_12 (o_253 W) rfl rfl (fun I2 e2 o2 => ?_)
        refine Sx.iinc (v := (nI (j + 1))) (lv' := [(2, .int (nI (j + 1))), (0, .ref 253), (1, .ref w)]) dX12_endsYear_47 rfl (nI_add j 1) (by decide) rfl ?_
        refine Sx.goto (t := 7) dX12_endsYear_50 (by decide) ?_
        refine Sx.sub' [(2, .int (nI (j + 1))), (0, .ref 253), (1, .ref w)] rfl ?_
        refine ih (j + 1) (by omega) (by omega) (by omega) I2 (fun q hq => (o2 q hq).trans (hI q hq)) (fun z hz => by rw [e2, upd_nj _ _ hz]; exact hJ z hz) (by rw [e2, upd_at]; congr 1; rw [dkN, if_pos (by omega)]; rfl)
set_option maxRecDepth 20000 in
set_option maxHeartbeats 1000000 in
theorem l_ey2 {G : Gt} {l : Launch} {Z : Zt} {R : Rt} {L : Lt} {post : Pt'} {V : Vt} {w : Nat} {F : Nat → Nat} {I0 : It} {x rl : Nat} (W : WF Z R) (hM : MI0 V I0 L) (hP : PB (V 2)) (hw : w = 266 ∨ w = 267) (hrl9 : rl < 30) (hr : I0 253 39 = nI rl) (hx : F (48 + rl) = x) (h : ∀ (I : It), MW (I w) (vo1 F x (V 2 34)) → (∀ q, q ≠ 253 ∧ q ≠ w → I q = I0 q) → (∀ z, I 253 z = I0 253 z) → (∀ z, 236 ≤ z → I w z = I0 w z) → Sx G l mX12_endsYear 2 0 0 125 [(2, .int (iI ((amp (vcN x) (V 2 34) : Int) - 1))), (0, .ref 253), (1, .ref w)] [] Z R I L post) :
    ∀ (k j : Nat), j ≤ V 2 34 → V 2 34 < j + k → ∀ (I : It), MW (I w) (vo1 F x j) → (∀ q, q ≠ 253 ∧ q ≠ w → I q = I0 q) → (∀ z, I 253 z = I0 253 z) → (∀ z, 236 ≤ z → I w z = I0 w z) → Sx G l mX12_endsYear 2 0 0 57 [(2, .int (iI ((amp (vcN x) j : Int) - 1))), (3, .int (nI j)), (0, .ref 253), (1, .ref w)] [] Z R I L post := by
  obtain ⟨p1, p2, p3, p4, p5, p6, p7, p8, p9⟩ := id hP
  obtain ⟨N, hA, hN1, hN2⟩ := wrow W hw
  intro k
  induction k with
  | zero => intro j h1 h2; omega
  | succ k ih =>
    intro j h1 h2 I hF hI hJ hZ
    refine Sx.iload_n dX12_endsYear_57 rfl ?_
    refine Sx.aload_n dX12_endsYear_58 rfl ?_
    refine Sx.getfV (v := (nI (V 2 34))) dX12_endsYear_59 lkf_X12_304_12 (o_253 W) ((hJ 26).trans hM.1.2.2.1) ?_
    refine Sx.icmp_geV (t := 125) dX12_endsYear_62 (by decide) (vN (by omega)) (vN (by omega)) (fun c62 => ?_) (fun c62 => ?_)
    · refine Sx.sub' [(2, .int (iI ((amp (vcN x) j : Int) - 1))), (0, .ref 253), (1, .ref w)] rfl ?_
      have hj : j = V 2 34 := by omega
      subst hj
      exact h I hF hI hJ hZ
    · have hvl := vc_lt x j
      have hal := amp_le (vcN x) j
      have hva := vc_lt x (amp (vcN x) j - 1)
      have hjk : j < 6 := by omega
      refine Sx.aload_n dX12_endsYear_65 rfl ?_
      refine Sx.bipush (v := (nI 12)) dX12_endsYear_66 (by decide) ?_
      refine Sx.iload_n dX12_endsYear_68 rfl ?_
      refine Sx.iaddN dX12_endsYear_69 ?_
      refine Sx.aload_n dX12_endsYear_70 rfl ?_
      refine Sx.bipush (v := (nI 56)) dX12_endsYear_71 (by decide) ?_
      refine Sx.bipush (v := (nI 6)) dX12_endsYear_73 (by decide) ?_
      refine Sx.aload_n dX12_endsYear_75 rfl ?_
      have hrl : I 253 39 = nI rl := (hJ 39).trans hr
      refine Sx.getfV (v := (nI rl)) dX12_endsYear_76 lkf_X12_362_12 (o_253 W) hrl ?_
      refine Sx.imulN dX12_endsYear_79 ?_
      refine Sx.iaddN dX12_endsYear_80 ?_
      refine Sx.iload_n dX12_endsYear_81 rfl ?_
      refine Sx.iaddN dX12_endsYear_82 ?_
      refine Sx.ialdN dX12_endsYear_83 hA (by omega) hN2 (v := (nI (doN x j 6))) (by rw [show 56 + 6 * rl + j = 56 + 6 * rl + j from rfl, hF.2.2.2.2.2.2.2.2.2.2 rl j (by omega) (by omega)]; congr 2; unfold vo1; rw [if_neg (by omega)]; exact hx) ?_
      refine Sx.callS1 dX12_endsYear_84 lkc_X12_342  (by decide) (by decide) (Nat.le_of_ble_eq_true rfl) rfl rfl (k_bitc (doN_lt x j 6) ?_)
      refine Sx.iastN dX12_endsYear_87 hA (by omega) hN2 (fun I1 e1 o1 => ?_)
      have hF1 : MW (I1 w) (vo1 F x (j + 1)) := by
        rw [e1, show 12 + j = cwN (12 + j) by unfold cwN; rw [if_pos (by omega)]]
        refine (hF.set (b := 12 + j) (x := vcN x j) (by omega) (by rw [if_neg (by omega)]; rfl)).cg (fun q _ => ?_)
        simp only [vo1, upn]
        by_cases c : q = 12 + j
        · rw [if_pos c, if_pos (by omega), show q - 12 = j by omega]
        · rw [if_neg c]
          by_cases c2 : 12 ≤ q ∧ q < 12 + j
          · rw [if_pos c2, if_pos (by omega)]
          · rw [if_neg c2, if_neg (by omega)]
      refine Sx.aload_n dX12_endsYear_88 rfl ?_
      refine Sx.bipush (v := (nI 12)) dX12_endsYear_89 (by decide) ?_
      refine Sx.iload_n dX12_endsYear_91 rfl ?_
      refine Sx.iaddN dX12_endsYear_92 ?_
      refine Sx.ialdN dX12_endsYear_93 hA (by omega) hN2 (v := (nI (vcN x j))) (by rw [hF1.1 (12 + j) (by omega)]; unfold vo1; rw [if_pos (by omega), show 12 + j - 12 = j by omega]) ?_
      refine Sx.if_leV (t := 119) dX12_endsYear_94 (by decide) (vN (by omega)) (fun c94 => ?_) (fun c94 => ?_)
      · refine Sx.iinc (v := (nI (j + 1))) (lv' := [(3, .int (nI (j + 1))), (2, .int (iI ((amp (vcN x) j : Int) - 1))), (0, .ref 253), (1, .ref w)]) dX12_endsYear_119 rfl (nI_add j 1) (by decide) rfl ?_
        refine Sx.goto (t := 57) dX12_endsYear_122 (by decide) ?_
        have hup : amp (vcN x) (j + 1) = amp (vcN x) j := by
          rw [amp, if_neg]
          split <;> omega
        refine Sx.sub' [(2, .int (iI ((amp (vcN x) (j + 1) : Int) - 1))), (3, .int (nI (j + 1))), (0, .ref 253), (1, .ref w)] (by rw [show (amp (vcN x) j : Int) = (amp (vcN x) (j + 1) : Int) by rw [hup]]; rfl) ?_
        exact ih (j + 1) (by omega) (by omega) I1 hF1 (fun q hq => (o1 q hq.2).trans (hI q hq)) (fun z => by rw [o1 253 (by omega)]; exact hJ z) (fun z hz => by rw [e1, upd_nj _ _ (by omega)]; exact hZ z hz)
      · refine Sx.iload_n dX12_endsYear_97 rfl ?_
        refine Sx.iconst (v := (iI (-1))) dX12_endsYear_98 (by decide) ?_
        refine Sx.icmp_eqV (t := 117) dX12_endsYear_99 (by decide) (vZ (by omega)) (vZ (by decide)) (fun c99 => ?_) (fun c99 => ?_)
        · refine Sx.iload_n dX12_endsYear_117 rfl ?_
          refine Sx.istore_n (lv' := [(2, .int (nI j)), (3, .int (nI j)), (0, .ref 253), (1, .ref w)]) dX12_endsYear_118 (by decide) rfl ?_
          refine Sx.iinc (v := (nI (j + 1))) (lv' := [(3, .int (nI (j + 1))), (2, .int (nI j)), (0, .ref 253), (1, .ref w)]) dX12_endsYear_119 rfl (nI_add j 1) (by decide) rfl ?_
          refine Sx.goto (t := 57) dX12_endsYear_122 (by decide) ?_
          have hup : amp (vcN x) (j + 1) = j + 1 := by
            rw [amp, if_pos]
            split <;> omega
          refine Sx.sub' [(2, .int (iI ((amp (vcN x) (j + 1) : Int) - 1))), (3, .int (nI (j + 1))), (0, .ref 253), (1, .ref w)] (by rw [show nI j = iI ((amp (vcN x) (j + 1) : Int) - 1) from (eZN (by rw [hup]; omega)).symm]; rfl) ?_
          exact ih (j + 1) (by omega) (by omega) I1 hF1 (fun q hq => (o1 q hq.2).trans (hI q hq)) (fun z => by rw [o1 253 (by omega)]; exact hJ z) (fun z hz => by rw [e1, upd_nj _ _ (by omega)]; exact hZ z hz)
        · refine Sx.aload_n dX12_endsYear_102 rfl ?_
          refine Sx.bipush (v := (nI 12)) dX12_endsYear_103 (by decide) ?_
          refine Sx.iload_n dX12_endsYear_105 rfl ?_
          refine Sx.iaddN dX12_endsYear_106 ?_
          refine Sx.ialdN dX12_endsYear_107 hA (by omega) hN2 (v := (nI (vcN x j))) (by rw [hF1.1 (12 + j) (by omega)]; unfold vo1; rw [if_pos (by omega), show 12 + j - 12 = j by omega]) ?_
          refine Sx.aload_n dX12_endsYear_108 rfl ?_
          refine Sx.bipush (v := (nI 12)) dX12_endsYear_109 (by decide) ?_
          refine Sx.iload_n dX12_endsYear_111 rfl ?_
          refine Sx.iaddV dX12_endsYear_112 (vN (by decide)) (vZ (by omega)) ?_
          refine Sx.ialdV (k := 12 + (amp (vcN x) j - 1)) dX12_endsYear_113 hA (vZ (by omega)) (by omega) (by omega) hN2 (v := (nI (vcN x (amp (vcN x) j - 1)))) (by rw [hF1.1 (12 + (amp (vcN x) j - 1)) (by omega)]; unfold vo1; rw [if_pos (by omega), show 12 + (amp (vcN x) j - 1) - 12 = amp (vcN x) j - 1 by omega]) ?_
          refine Sx.icmp_leV (t := 119) dX12_endsYear_114 (by decide) (vN (by omega)) (vN (by omega)) (fun c114 => ?_) (fun c114 => ?_)
          · refine Sx.iinc (v := (nI (j + 1))) (lv' := [(3, .int (nI (j + 1))), (2, .int (iI ((amp (vcN x) j : Int) - 1))), (0, .ref 253), (1, .ref w)]) dX12_endsYear_119 rfl (nI_add j 1) (by decide) rfl ?_
            refine Sx.goto (t := 57) dX12_endsYear_122 (by decide) ?_
            have hup : amp (vcN x) (j + 1) = amp (vcN x) j := by
              rw [amp, if_neg]
              split <;> omega
            refine Sx.sub' [(2, .int (iI ((amp (vcN x) (j + 1) : Int) - 1))), (3, .int (nI (j + 1))), (0, .ref 253), (1, .ref w)] (by rw [show (amp (vcN x) j : Int) = (amp (vcN x) (j + 1) : Int) by rw [hup]]; rfl) ?_
            exact ih (j + 1) (by omega) (by omega) I1 hF1 (fun q hq => (o1 q hq.2).trans (hI q hq)) (fun z => by rw [o1 253 (by omega)]; exact hJ z) (fun z hz => by rw [e1, upd_nj _ _ (by omega)]; exact hZ z hz)
          · refine Sx.iload_n dX12_endsYear_117 rfl ?_
            refine Sx.istore_n (lv' := [(2, .int (nI j)), (3, .int (nI j)), (0, .ref 253), (1, .ref w)]) dX12_endsYear_118 (by decide) rfl ?_
            refine Sx.iinc (v := (nI (j + 1))) (lv' := [(3, .int (nI (j + 1))), (2, .int (nI j)), (0, .ref 253), (1, .ref w)]) dX12_endsYear_119 rfl (nI_add j 1) (by decide) rfl ?_
            refine Sx.goto (t := 57) dX12_endsYear_122 (by decide) ?_
            have hup : amp (vcN x) (j + 1) = j + 1 := by
              rw [amp, if_pos]
              split <;> omega
            refine Sx.sub' [(2, .int (iI ((amp (vcN x) (j + 1) : Int) - 1))), (3, .int (nI (j + 1))), (0, .ref 253), (1, .ref w)] (by rw [show nI j = iI ((amp (vcN x) (j + 1) : Int) - 1) from (eZN (by rw [hup]; omega)).symm]; rfl) ?_
            exact ih (j + 1) (by omega) (by omega) I1 hF1 (fun q hq => (o1 q hq.2).trans (hI q hq)) (fun z => by rw [o1 253 (by omega)]; exact hJ z) (fun z hz => by rw [e1, upd_nj _ _ (by omega)]; exact hZ z hz)
set_option maxRecDepth 20000 in
set_option maxHeartbeats 1000000 in
theorem l_ey3 {G : Gt} {l : Launch} {Z : Zt} {R : Rt} {L : Lt} {post : Pt'} {V : Vt} {w : Nat} {F : Nat → Nat} {I0 : It} {a v : Nat} {Gg : Nat → Nat} (W : WF Z R) (hM : MI0 V I0 L) (hP : PB (V 2)) (hw : w = 266 ∨ w = 267) (ha : 1 ≤ a ∧ a ≤ 6) (hv : Gg (12 + (a - 1)) = v) (hv6 : v ≤ 6) (h : ∀ (I : It), MW (I w) (ha1 (V 2) Gg (a - 1) v (V 2 35)) → (∀ q, q ≠ 253 ∧ q ≠ w → I q = I0 q) → (∀ z, I 253 z = I0 253 z) → (∀ z, 236 ≤ z → I w z = I0 w z) → Sx G l mX12_endsYear 2 0 0 174 [(0, .ref 253), (1, .ref w)] [] Z R I L post) :
    ∀ (k j : Nat), j ≤ V 2 35 → V 2 35 < j + k → ∀ (I : It), MW (I w) (ha1 (V 2) Gg (a - 1) v j) → (∀ q, q ≠ 253 ∧ q ≠ w → I q = I0 q) → (∀ z, I 253 z = I0 253 z) → (∀ z, 236 ≤ z → I w z = I0 w z) → Sx G l mX12_endsYear 2 0 0 132 [(2, .int (iI ((a : Int) - 1))), (3, .int (nI j)), (0, .ref 253), (1, .ref w)] [] Z R I L post := by
  obtain ⟨p1, p2, p3, p4, p5, p6, p7, p8, p9⟩ := id hP
  obtain ⟨N, hA, hN1, hN2⟩ := wrow W hw
  intro k
  induction k with
  | zero => intro j h1 h2; omega
  | succ k ih =>
    intro j h1 h2 I hF hI hJ hZ
    refine Sx.iload_n dX12_endsYear_132 rfl ?_
    refine Sx.aload_n dX12_endsYear_133 rfl ?_
    refine Sx.getfV (v := (nI (V 2 35))) dX12_endsYear_134 lkf_X12_307_12 (o_253 W) ((hJ 27).trans hM.1.2.2.2.1) ?_
    refine Sx.icmp_geV (t := 174) dX12_endsYear_137 (by decide) (vN (by omega)) (vN (by omega)) (fun c137 => ?_) (fun c137 => ?_)
    · refine Sx.sub' [(0, .ref 253), (1, .ref w)] rfl ?_
      have hj : j = V 2 35 := by omega
      subst hj
      exact h I hF hI hJ hZ
    · refine Sx.iload_n dX12_endsYear_140 rfl ?_
      refine Sx.iconst (v := (iI (-1))) dX12_endsYear_141 (by decide) ?_
      refine Sx.icmp_eqV (t := 174) dX12_endsYear_142 (by decide) (vZ (by omega)) (vZ (by decide)) (fun c142 => False.elim (by omega)) (fun c142 => ?_)
      have hp9 := p9 j (by omega)
      refine Sx.aload_n dX12_endsYear_145 rfl ?_
      refine Sx.getfR dX12_endsYear_146 lkf_X12_49_12 (o_253 W) (r_253_22 W) ?_
      refine Sx.iconst (v := (nI 3)) dX12_endsYear_149 (by decide) ?_
      refine Sx.iload_n dX12_endsYear_150 rfl ?_
      refine Sx.imulN dX12_endsYear_151 ?_
      refine Sx.iconst (v := (nI 1)) dX12_endsYear_152 (by decide) ?_
      refine Sx.iaddN dX12_endsYear_153 ?_
      refine Sx.ialdN dX12_endsYear_154 (a_262 W) (by omega) (by decide) (v := (nI (V 2 (21 + j)))) (by rw [hI 262 (by omega), hM.2.2.2.1.2.2 j 1 (by omega) (by decide)]) ?_
      refine Sx.aload_n dX12_endsYear_155 rfl ?_
      refine Sx.bipush (v := (nI 12)) dX12_endsYear_156 (by decide) ?_
      refine Sx.iload_n dX12_endsYear_158 rfl ?_
      refine Sx.iaddV dX12_endsYear_159 (vN (by decide)) (vZ (by omega)) ?_
      refine Sx.ialdV (k := 12 + (a - 1)) dX12_endsYear_160 hA (vZ (by omega)) (by omega) (by omega) hN2 (v := (nI v)) (by rw [hF.1 (12 + (a - 1)) (by omega)]; unfold ha1; rw [if_neg (by omega), hv]) ?_
      refine Sx.icmp_gtV (t := 168) dX12_endsYear_161 (by decide) (vN (by omega)) (vN (by omega)) (fun c161 => ?_) (fun c161 => ?_)
      · refine Sx.iinc (v := (nI (j + 1))) (lv' := [(3, .int (nI (j + 1))), (2, .int (iI ((a : Int) - 1))), (0, .ref 253), (1, .ref w)]) dX12_endsYear_168 rfl (nI_add j 1) (by decide) rfl ?_
        refine Sx.goto (t := 132) dX12_endsYear_171 (by decide) ?_
        refine Sx.sub' [(2, .int (iI ((a : Int) - 1))), (3, .int (nI (j + 1))), (0, .ref 253), (1, .ref w)] rfl ?_
        have hF1 : MW (I w) (ha1 (V 2) Gg (a - 1) v (j + 1)) := by
          refine hF.cg (fun q _ => ?_)
          simp only [ha1]
          by_cases c : q = j
          · rw [if_neg (fun z => by have z2 := z.2; rw [c] at z2; omega), if_neg (by omega)]
          · by_cases c2 : q < j ∧ V 2 (21 + q) ≤ v
            · rw [if_pos c2, if_pos ⟨by omega, c2.2⟩]
            · rw [if_neg c2, if_neg (fun z => c2 ⟨by omega, z.2⟩)]
        exact ih (j + 1) (by omega) (by omega) I hF1 hI hJ hZ
      · refine Sx.aload_n dX12_endsYear_164 rfl ?_
        refine Sx.iload_n dX12_endsYear_165 rfl ?_
        refine Sx.iload_n dX12_endsYear_166 rfl ?_
        refine Sx.iastN dX12_endsYear_167 hA (by omega) hN2 (fun I1 e1 o1 => ?_)
        refine Sx.iinc (v := (nI (j + 1))) (lv' := [(3, .int (nI (j + 1))), (2, .int (iI ((a : Int) - 1))), (0, .ref 253), (1, .ref w)]) dX12_endsYear_168 rfl (nI_add j 1) (by decide) rfl ?_
        refine Sx.goto (t := 132) dX12_endsYear_171 (by decide) ?_
        refine Sx.sub' [(2, .int (iI ((a : Int) - 1))), (3, .int (nI (j + 1))), (0, .ref 253), (1, .ref w)] rfl ?_
        have hF1 : MW (I1 w) (ha1 (V 2) Gg (a - 1) v (j + 1)) := by
          rw [e1, show j = cwN j by unfold cwN; rw [if_pos (by omega)]]
          refine (hF.set (b := j) (x := a - 1) (by omega) (by rw [if_neg (by omega)]; exact eZN (by omega))).cg (fun q _ => ?_)
          rw [show cwN j = j by unfold cwN; rw [if_pos (by omega)]]
          simp only [ha1, upn]
          by_cases c : q = j
          · rw [if_pos c, if_pos ⟨by omega, by rw [c]; omega⟩]
          · rw [if_neg c]
            by_cases c2 : q < j ∧ V 2 (21 + q) ≤ v
            · rw [if_pos c2, if_pos ⟨by omega, c2.2⟩]
            · rw [if_neg c2, if_neg (fun z => c2 ⟨by omega, z.2⟩)]
        exact ih (j + 1) (by omega) (by omega) I1 hF1 (fun q hq => (o1 q hq.2).trans (hI q hq)) (fun z => by rw [o1 253 (by omega)]; exact hJ z) (fun z hz => by rw [e1, upd_nj _ _ (by omega)]; exact hZ z hz)
