/-! the reference: a seaport laid out, treasuries by habits -/
def PX (P : Nat → Nat) : Prop := ∀ p, P 35 ≤ p → p < 6 → P (15 + p) = 0 ∧ P (27 + p) = 0
def lyF (P : Nat → Nat) (j : Nat) : Nat → Nat := fun q => if q < 6 then (if q < j then P (15 + q) else 0) else if q = 138 then bedsN P j else if q = 143 then 1 else 0
theorem ly_0 {f : Nat → Int32} (P : Nat → Nat) (h : ∀ z, z < 236 → f z = nI 0) : MW f (lyF P 0) := by
  refine ⟨fun p hp => ?_, ?_, ?_, ?_, ?_, ?_, ?_, ?_, ?_, fun d hd => ?_, fun d k hd hk => ?_⟩
  · rw [h p (by omega), show lyF P 0 p = 0 by unfold lyF; split; (· rw [if_neg (by omega)]); (· rw [if_neg (by omega), if_neg (by omega)])]
  · rw [h 18 (by decide)]; rfl
  · rw [h 19 (by decide)]; rfl
  · rw [h 20 (by decide)]; rfl
  · rw [h 21 (by decide)]; rfl
  · rw [h 22 (by decide)]; rfl
  · rw [h 23 (by decide)]; rfl
  · rw [h 24 (by decide)]; rfl
  · rw [h 25 (by decide)]; rfl
  · rw [h _ (by omega), show lyF P 0 (18 + d) = 0 by unfold lyF; rw [if_neg (by omega), if_neg (by omega), if_neg (by omega)]]
  · rw [h _ (by omega), show lyF P 0 (48 + d) = 0 by unfold lyF; rw [if_neg (by omega), if_neg (by omega), if_neg (by omega)], do_0]
theorem bedsN_x {P : Nat → Nat} (h : PX P) : ∀ j, P 35 ≤ j → j ≤ 6 → bedsN P j = bedsN P (P 35)
  | 0 => fun h1 _ => by rw [show P 35 = 0 by omega]
  | j + 1 => fun h1 h2 => by
    by_cases c : P 35 = j + 1
    · rw [c]
    · rw [bedsN, (h j (by omega) (by omega)).2, Nat.zero_mul, Nat.or_zero]
      exact bedsN_x h j (by omega) (by omega)
theorem ly_n {P : Nat → Nat} (hX : PX P) (h35 : P 35 ≤ 6) (q : Nat) : upn (upn (upn (lyF P (P 35)) 139 (P 2)) 142 (P 1)) 143 0 q = begN P q := by
  unfold upn begN lyF
  by_cases c1 : q < 6
  · rw [if_neg (by omega), if_neg (by omega), if_neg (by omega), if_pos c1, if_pos c1]
    by_cases c2 : q < P 35
    · rw [if_pos c2]
    · rw [if_neg c2, (hX q (by omega) c1).1]
  · rw [if_neg c1, if_neg c1]
    by_cases c2 : q = 138
    · subst c2; rw [if_neg (by omega), if_neg (by omega), if_neg (by omega), if_pos rfl, if_pos rfl]; exact (bedsN_x hX 6 h35 (by omega)).symm
    · rw [if_neg c2, if_neg c2]
      by_cases c3 : q = 139
      · subst c3; rw [if_neg (by omega), if_neg (by omega), if_pos rfl, if_pos rfl]
      · rw [if_neg c3, if_neg c3]
        by_cases c4 : q = 142
        · subst c4; rw [if_neg (by omega), if_pos rfl, if_pos rfl]
        · rw [if_neg c4, if_neg c4]
          by_cases c5 : q = 143
          · rw [if_pos c5]
          · rw [if_neg c5, if_neg c5]
set_option maxRecDepth 20000 in
set_option maxHeartbeats 1000000 in
theorem l_ly2 {G : Gt} {l : Launch} {Z : Zt} {R : Rt} {L : Lt} {post : Pt'} {I1 : It} {P : Nat → Nat} {w N : Nat} (W : WF Z R) (hA : ar Z w 50 N) (hN : 236 ≤ N ∧ N ≤ 417) (h : ∀ I', (∀ z, z < N → I' w z = nI 0) → (∀ q, q ≠ w → I' q = I1 q) → Sx G l mX12_lays 1 0 0 18 [(0, .ref 253), (1, .ref w)] [] Z R I' L post) :
    ∀ (r j : Nat), j ≤ N → N < j + r → ∀ (I : It), (∀ z, z < j → I w z = nI 0) → (∀ q, q ≠ w → I q = I1 q) → Sx G l mX12_lays 1 0 0 2 [(2, .int (nI j)), (0, .ref 253), (1, .ref w)] [] Z R I L post := by
  intro r
  induction r with
  | zero => intro j h1 h2; omega
  | succ r ih =>
    intro j h1 h2 I hc hI
    refine Sx.iload_n dX12_lays_2 rfl ?_
    refine Sx.aload_n dX12_lays_3 rfl ?_
    refine Sx.alen (v := nI N) dX12_lays_4 hA (by decide) (by decide) rfl ?_
    refine Sx.icmp_geV (t := 18) dX12_lays_5 (by decide) (vN (by omega)) (vN (by omega)) (fun c5 => ?_) (fun c5 => ?_)
    · have hj : j = N := by omega
      subst hj
      refine Sx.sub' [(0, .ref 253), (1, .ref w)] rfl ?_
      exact h I hc hI
    · refine Sx.aload_n dX12_lays_8 rfl ?_
      refine Sx.iload_n dX12_lays_9 rfl ?_
      refine Sx.iconst (v := (nI 0)) dX12_lays_10 (by decide) ?_
      refine Sx.iastN dX12_lays_11 hA (by omega) (by omega) (fun I1 e1 o1 => ?_)
      refine Sx.iinc (v := (nI (j + 1))) (lv' := [(2, .int (nI (j + 1))), (0, .ref 253), (1, .ref w)]) dX12_lays_12 rfl (nI_add j 1) (by decide) rfl ?_
      refine Sx.goto (t := 2) dX12_lays_15 (by decide) ?_
      refine Sx.sub' [(2, .int (nI (j + 1))), (0, .ref 253), (1, .ref w)] rfl ?_
      refine ih (j + 1) (by omega) (by omega) I1 (fun z hz => ?_) (fun q hq => (o1 q hq).trans (hI q hq))
      rw [e1]
      by_cases c : z = j
      · rw [c, upd_at]
      · rw [upd_nj _ _ c]; exact hc z (by omega)
set_option maxRecDepth 20000 in
set_option maxHeartbeats 1000000 in
theorem l_ly20 {G : Gt} {l : Launch} {Z : Zt} {R : Rt} {L : Lt} {post : Pt'} {I1 : It} {P : Nat → Nat} {w N : Nat} (W : WF Z R) (hA : ar Z w 50 N) (hN : 236 ≤ N ∧ N ≤ 417) (hw : w = 266 ∨ w = 267) (h27 : I1 253 27 = nI (P 35)) (hR : MPt P (I1 258) (I1 260) (I1 262)) (h35 : P 35 ≤ 6) (hX : PX P) (hB : ∀ k, k < 6 → P (27 + k) ≤ 1) (h : ∀ I', MW (I' w) (begN P) → (∀ z, 236 ≤ z → z < N → I' w z = nI 0) → (∀ q, q ≠ w → I' q = I1 q) → post none Z R I' L) :
    ∀ (r j : Nat), j ≤ P 35 → P 35 < j + r → ∀ (I : It), MW (I w) (lyF P j) → (∀ z, 236 ≤ z ∧ z < N → I w z = nI 0) → (∀ q, q ≠ w → I q = I1 q) → Sx G l mX12_lays 1 0 0 20 [(2, .int (nI j)), (0, .ref 253), (1, .ref w)] [] Z R I L post := by
  intro r
  induction r with
  | zero => intro j h1 h2; omega
  | succ r ih =>
    intro j h1 h2 I hF hz0 hI
    refine Sx.iload_n dX12_lays_20 rfl ?_
    refine Sx.aload_n dX12_lays_21 rfl ?_
    refine Sx.getfV (v := (nI (P 35))) dX12_lays_22 lkf_X12_307_12 (o_253 W) (by rw [hI 253 (by omega)]; exact h27) ?_
    refine Sx.icmp_geV (t := 64) dX12_lays_25 (by decide) (vN (by omega)) (vN (by omega)) (fun c25 => ?_) (fun c25 => ?_)
    · have hj : j = P 35 := by omega
      subst hj
      refine Sx.aload_n dX12_lays_64 rfl ?_
      refine Sx.bipush (v := (nI 19)) dX12_lays_65 (by decide) ?_
      refine Sx.aload_n dX12_lays_67 rfl ?_
      refine Sx.getfR dX12_lays_68 lkf_X12_37_12 (o_253 W) (r_253_18 W) ?_
      refine Sx.iconst (v := (nI 2)) dX12_lays_71 (by decide) ?_
      refine Sx.ialdN dX12_lays_72 (a_258 W) (by decide) (by decide) (v := (nI (P 2))) (by rw [hI 258 (by omega)]; exact hR.1 2 (by decide)) ?_
      refine Sx.iastN dX12_lays_73 hA (by omega) (by omega) (fun I1 e1 o1 => ?_)
      refine Sx.aload_n dX12_lays_74 rfl ?_
      refine Sx.bipush (v := (nI 22)) dX12_lays_75 (by decide) ?_
      refine Sx.aload_n dX12_lays_77 rfl ?_
      refine Sx.getfR dX12_lays_78 lkf_X12_37_12 (o_253 W) (r_253_18 W) ?_
      refine Sx.iconst (v := (nI 1)) dX12_lays_81 (by decide) ?_
      refine Sx.ialdN dX12_lays_82 (a_258 W) (by decide) (by decide) (v := (nI (P 1))) (by rw [o1 258 (by omega), hI 258 (by omega)]; exact hR.1 1 (by decide)) ?_
      refine Sx.iastN dX12_lays_83 hA (by omega) (by omega) (fun I2 e2 o2 => ?_)
      refine Sx.aload_n dX12_lays_84 rfl ?_
      refine Sx.bipush (v := (nI 23)) dX12_lays_85 (by decide) ?_
      refine Sx.iconst (v := (iI (-1))) dX12_lays_87 (by decide) ?_
      refine Sx.iastN dX12_lays_88 hA (by omega) (by omega) (fun I3 e3 o3 => ?_)
      refine Sx.vret dX12_lays_89 rfl ?_
      have mn := ((hF.set (b := 139) (x := P 2) (by omega) (v := nI (P 2)) (by rw [if_neg (by omega)])).set (b := 142) (x := P 1) (by omega) (v := nI (P 1)) (by rw [if_neg (by omega)])).set (b := 143) (x := 0) (by omega) (v := iI (-1)) (by rw [if_pos rfl]; rfl)
      exact h I3 (by rw [e3, e2, e1]; exact mn.cg (fun q _ => (ly_n hX h35 q).symm)) (fun z z1 z2 => by rw [e3, upd_nj _ _ (by omega), e2, upd_nj _ _ (by omega), e1, upd_nj _ _ (by omega)]; exact hz0 z ⟨z1, z2⟩) (fun q hq => by rw [o3 q hq, o2 q hq, o1 q hq, hI q hq])
    · have hj6 : j < 6 := by omega
      have hb1 := hB j hj6
      have hp2 : 2 ^ j ≤ 2 ^ 5 := Nat.pow_le_pow_right (by decide) (by omega)
      refine Sx.aload_n dX12_lays_28 rfl ?_
      refine Sx.iload_n dX12_lays_29 rfl ?_
      refine Sx.aload_n dX12_lays_30 rfl ?_
      refine Sx.getfR dX12_lays_31 lkf_X12_49_12 (o_253 W) (r_253_22 W) ?_
      refine Sx.iconst (v := (nI 3)) dX12_lays_34 (by decide) ?_
      refine Sx.iload_n dX12_lays_35 rfl ?_
      refine Sx.imulN dX12_lays_36 ?_
      refine Sx.ialdN dX12_lays_37 (a_262 W) (by omega) (by decide) (v := (nI (P (15 + j)))) (by rw [hI 262 (by omega)]; exact hR.2.2 j 0 (by omega) (by decide)) ?_
      refine Sx.iastN dX12_lays_38 hA (by omega) (by omega) (fun I4 e4 o4 => ?_)
      refine Sx.aload_n dX12_lays_39 rfl ?_
      refine Sx.bipush (v := (nI 18)) dX12_lays_40 (by decide) ?_
      refine Sx.dup2 dX12_lays_42 rfl rfl ?_
      refine Sx.ialdN dX12_lays_43 hA (by omega) (by omega) (v := (nI (bedsN P j))) (by rw [e4, upd_nj _ _ (by omega)]; exact hF.2.1) ?_
      refine Sx.aload_n dX12_lays_44 rfl ?_
      refine Sx.getfR dX12_lays_45 lkf_X12_49_12 (o_253 W) (r_253_22 W) ?_
      refine Sx.iconst (v := (nI 3)) dX12_lays_48 (by decide) ?_
      refine Sx.iload_n dX12_lays_49 rfl ?_
      refine Sx.imulN dX12_lays_50 ?_
      refine Sx.iconst (v := (nI 2)) dX12_lays_51 (by decide) ?_
      refine Sx.iaddN dX12_lays_52 ?_
      refine Sx.ialdN dX12_lays_53 (a_262 W) (by omega) (by decide) (v := (nI (P (27 + j)))) (by rw [o4 262 (by omega), hI 262 (by omega)]; exact hR.2.2 j 2 (by omega) (by decide)) ?_
      refine Sx.iload_n dX12_lays_54 rfl ?_
      refine Sx.ishlN dX12_lays_55 (by omega) (by rcases (show P (27 + j) = 0 ∨ P (27 + j) = 1 by omega) with z | z <;> rw [z] <;> omega) ?_
      refine Sx.iorN dX12_lays_56 ?_
      refine Sx.iastN dX12_lays_57 hA (by omega) (by omega) (fun I5 e5 o5 => ?_)
      refine Sx.iinc (v := (nI (j + 1))) (lv' := [(2, .int (nI (j + 1))), (0, .ref 253), (1, .ref w)]) dX12_lays_58 rfl (nI_add j 1) (by decide) rfl ?_
      refine Sx.goto (t := 20) dX12_lays_61 (by decide) ?_
      refine Sx.sub' [(2, .int (nI (j + 1))), (0, .ref 253), (1, .ref w)] rfl ?_
      refine ih (j + 1) (by omega) (by omega) I5 ?_ (fun z hz => by rw [e5, upd_nj _ _ (by omega), e4, upd_nj _ _ (by omega)]; exact hz0 z hz) (fun q hq => (o5 q hq).trans ((o4 q hq).trans (hI q hq)))
      have mn := (hF.set (b := j) (x := P (15 + j)) (by omega) (v := nI (P (15 + j))) (by rw [if_neg (by omega)])).set (b := 138) (x := bedsN P j ||| P (27 + j) * 2 ^ j) (by omega) (v := nI (bedsN P j ||| P (27 + j) * 2 ^ j)) (by rw [if_neg (by omega)])
      rw [cw_p (p := j) (by omega)] at mn
      rw [e5, e4]
      refine mn.cg (fun q _ => ?_)
      unfold upn
      by_cases c : q = 138
      · subst c; rw [if_pos rfl]; rfl
      · rw [if_neg c]
        by_cases d : q = j
        · subst d; rw [if_pos rfl]; unfold lyF; rw [if_pos (by omega), if_pos (by omega)]
        · rw [if_neg d]
          unfold lyF
          by_cases c6 : q < 6
          · rw [if_pos c6, if_pos c6]
            by_cases cj : q < j
            · rw [if_pos cj, if_pos (by omega)]
            · rw [if_neg cj, if_neg (by omega)]
          · rw [if_neg c6, if_neg c6, if_neg c, if_neg c]
set_option maxRecDepth 20000 in
set_option maxHeartbeats 1000000 in
theorem k_lays {G : Gt} {l : Launch} {Z : Zt} {R : Rt} {I : It} {L : Lt} {post : Pt'}  {P : Nat → Nat} {w N : Nat} (W : WF Z R) (hA : ar Z w 50 N) (hN : 236 ≤ N ∧ N ≤ 417) (hw : w = 266 ∨ w = 267) (h27 : I 253 27 = nI (P 35)) (hR : MPt P (I 258) (I 260) (I 262)) (h35 : P 35 ≤ 6) (hX : PX P) (hB : ∀ k, k < 6 → P (27 + k) ≤ 1) (h : ∀ I', MW (I' w) (begN P) → (∀ z, 236 ≤ z → z < N → I' w z = nI 0) → (∀ q, q ≠ w → I' q = I q) → post none Z R I' L) : Cx G l mX12_lays 1 0 0 [.ref 253, .ref w] Z R I L post := by
  refine Cx.of (by decide +kernel) (by exact Nat.le_of_ble_eq_true rfl) ?_
  refine Sx.iconst (v := (nI 0)) dX12_lays_0 (by decide) ?_
  refine Sx.istore_n (lv' := [(2, .int (nI 0)), (0, .ref 253), (1, .ref w)]) dX12_lays_1 (by decide) rfl ?_
  refine Sx.sub' [(2, .int (nI 0)), (0, .ref 253), (1, .ref w)] rfl ?_
  refine l_ly2 (P := P) W hA hN (fun J j1 j2 => ?_) (N + 1) 0 (by omega) (by omega) I (fun z hz => by omega) (fun _ _ => rfl)
  refine Sx.iconst (v := (nI 0)) dX12_lays_18 (by decide) ?_
  refine Sx.istore_n (lv' := [(2, .int (nI 0)), (0, .ref 253), (1, .ref w)]) dX12_lays_19 (by decide) rfl ?_
  refine Sx.sub' [(2, .int (nI 0)), (0, .ref 253), (1, .ref w)] rfl ?_
  exact l_ly20 W hA hN hw (by rw [j2 253 (by omega)]; exact h27) (by rw [j2 258 (by omega), j2 260 (by omega), j2 262 (by omega)]; exact hR) h35 hX hB (fun K k1 k2 k3 => h K k1 k2 (fun q hq => (k3 q hq).trans (j2 q hq))) (P 35 + 1) 0 (by omega) (by omega) J (ly_0 P (fun z hz => j1 z (by omega))) (fun z hz => j1 z hz.2) (fun _ _ => rfl)
