/-! the class: outlooks -/
theorem d_rget {G : Gt} {l : Launch} {Z : Zt} {R : Rt} {I : It} {L : Lt} {post : Pt'} {a c n k : Nat} {v : Int32} (hr : rwo Z R a c n) (hc : rowC c) (hn : n < 2 ^ 31) (hk : k < n) (hv : I (a + 1) k = v) (h : post (some (.int v)) Z R I L) : Cx G l mX7_get 1 0 0 [.ref a, .int (nI k)] Z R I L post :=
  c_X7_get hr hc hn (by unfold rget; rw [if_pos ⟨nI_pos' (by omega), nI_lt hk hn⟩, nI_clamp (by omega), hv]; exact h)
def mnL (g : Nat → Nat) : Nat → Nat
  | 0 => 99
  | j + 1 => min (mnL g j) (g j)
theorem mnL_amn {g : Nat → Nat} (hg : ∀ d, d < 30 → g d ≤ 99) : ∀ j, j ≤ 29 → mnL g (j + 1) = g (amn g (j + 1) - 1)
  | 0, _ => by
    have := hg 0 (by decide)
    rw [mnL, mnL, amn_1]
    show min 99 (g 0) = g 0
    omega
  | j + 1, hj => by
    have ih := mnL_amn hg j (by omega)
    have hp := amn_pos g (j + 1) (by omega)
    have e : amn g (j + 1 + 1) = if amn g (j + 1) = 0 ∨ g (j + 1) < g (amn g (j + 1) - 1) then j + 1 + 1 else amn g (j + 1) := by rw [amn]
    have m : mnL g (j + 1 + 1) = min (mnL g (j + 1)) (g (j + 1)) := rfl
    rw [m, ih, e]
    by_cases c : amn g (j + 1) = 0 ∨ g (j + 1) < g (amn g (j + 1) - 1)
    · rw [if_pos c, Nat.add_sub_cancel]
      omega
    · rw [if_neg c]
      have : ¬ g (j + 1) < g (amn g (j + 1) - 1) := fun z => c (Or.inr z)
      omega
/-- the frame of an outlook -/
def OF (I I' : It) : Prop := ∀ q, ¬ (115 ≤ q ∧ q ≤ 135) → I' q = I q
theorem OF.rf (I : It) : OF I I := fun _ _ => rfl
theorem OF.tr {I J K : It} (h : OF I J) (g : OF J K) : OF I K := fun q hq => (g q hq).trans (h q hq)
theorem OF.ci {V : Vt} {R : Rt} {I I' : It} {L : Lt} (h : OF I I') (C : CI V R I L) (hb : V 0 1 ≤ 4 ∧ V 0 3 ≤ 4) : CI V R I' L := C.sc hb (fun q hq => h q (by unfold csc at hq; omega))
theorem OF.cf {R : Rt} {I I' : It} {L : Lt} (h : OF I I') : CF R I L R I' L := CF.i fun q hq => h q (by omega)
abbrev OQ (post : Pt') (Z : Zt) (R : Rt) (I : It) (L : Lt) (v : Int32) : Prop := ∀ I', OF I I' → post (some (.int v)) Z R I' L
theorem mnL_le (g : Nat → Nat) : ∀ j, mnL g j ≤ 99
  | 0 => Nat.le_refl _
  | j + 1 => by have := mnL_le g j; rw [mnL]; omega
set_option maxRecDepth 20000 in
set_option maxHeartbeats 1000000 in
theorem l_cm1 {G : Gt} {l : Launch} {Z : Zt} {R : Rt} {L : Lt} {post : Pt'} {V : Vt} {I0 : It} {e : Nat} (W : WF Z R) (hH : HV V) (hb : V 0 1 ≤ 4 ∧ V 0 3 ≤ 4) (h : ∀ I', CI V R I' L → OF I0 I' → (∀ d, d < V 2 0 → I' 123 d = nI (lofN (V 2) (wlV V) (V 3) (upc (V 2) (V 3)) d)) → ∀ ls, ls = mnL (lofN (V 2) (wlV V) (V 3) (upc (V 2) (V 3))) (V 2 0) → Sx G l mX5_maybeDarkest 5 0 0 58 [(3, .int (nI ls)), (0, .ref 119), (1, .ref 229), (2, .int (nI e))] [] Z R I' L post) :
    ∀ (r j : Nat), j ≤ V 2 0 → V 2 0 < j + r → ∀ ls, ls = mnL (lofN (V 2) (wlV V) (V 3) (upc (V 2) (V 3))) j → ∀ (I : It), CI V R I L → OF I0 I → (∀ d, d < j → I 123 d = nI (lofN (V 2) (wlV V) (V 3) (upc (V 2) (V 3)) d)) → Sx G l mX5_maybeDarkest 5 0 0 6 [(4, .int (nI j)), (3, .int (nI ls)), (0, .ref 119), (1, .ref 229), (2, .int (nI e))] [] Z R I L post := by
  obtain ⟨p1, p2, p3, p4, p5, p6, p7, p8, p9⟩ := id hH.2.2.2.1
  intro r
  induction r with
  | zero => intro j h1 h2; omega
  | succ r ih =>
    intro j h1 h2 ls hls I C hf hl
    have hl99 : ls ≤ 99 := by rw [hls]; exact mnL_le _ _
    refine Sx.iload dX5_maybeDarkest_6 rfl ?_
    refine Sx.aload_n dX5_maybeDarkest_8 rfl ?_
    refine Sx.getfR dX5_maybeDarkest_9 lkf_X5_45_5 (o_119 W) (r_119_0 W) ?_
    refine Sx.iconst (v := (nI 0)) dX5_maybeDarkest_12 (by decide) ?_
    refine Sx.callU1 dX5_maybeDarkest_13 lku_X5_84 (rcv_6 (o_103 W)) (by decide) (by decide) (Nat.le_of_ble_eq_true rfl) rfl rfl (c_rg (w_103r W) (by unfold rowC; decide) (by decide) C.2.1 (0) rfl (by omega) ?_)
    refine Sx.icmp_geV (t := 58) dX5_maybeDarkest_16 (by decide) (vN (by omega)) (vN (by omega)) (fun c16 => ?_) (fun c16 => ?_)
    · have hj : j = V 2 0 := by omega
      subst hj
      refine Sx.sub' [(3, .int (nI ls)), (0, .ref 119), (1, .ref 229), (2, .int (nI e))] rfl ?_
      exact h I C hf hl ls hls
    · refine Sx.aload_n dX5_maybeDarkest_19 rfl ?_
      refine Sx.getfR dX5_maybeDarkest_20 lkf_X5_23_5 (o_119 W) (r_119_3 W) ?_
      refine Sx.iload dX5_maybeDarkest_23 rfl ?_
      refine Sx.aload_n dX5_maybeDarkest_25 rfl ?_
      refine Sx.getfR dX5_maybeDarkest_26 lkf_X5_49_5 (o_119 W) (r_119_1 W) ?_
      refine Sx.aload_n dX5_maybeDarkest_29 rfl ?_
      refine Sx.iload dX5_maybeDarkest_30 rfl ?_
      refine Sx.callV2 dX5_maybeDarkest_32 lkv_X5_85 (rcv_1 (o_114 W)) (by decide) (by decide) (Nat.le_of_ble_eq_true rfl) rfl rfl (c_lightOf W C.2.1 hH.2.2.2.1 (w_229r W) C.2.2.1 (by decide) (C.lw ⟨hH.1.1, hH.1.2.1⟩) hH.2.2.2.2.1 (by omega) (fun I1 o1 => ?_))
      have hlj := lof_le (w := wlV V) (u := upc (V 2) (V 3)) (d := j) hH.2.2.2.2.1 (by omega)
      refine Sx.callV2 dX5_maybeDarkest_35 lkv_X5_89 (rcv_7 (o_122 W)) (by decide) (by decide) (Nat.le_of_ble_eq_true rfl) rfl rfl (d_rset (w_122r W) (by unfold rowC; decide) (by decide) (k := j) (by omega) (fun I2 e2 o2 => ?_))
      refine Sx.iload_n dX5_maybeDarkest_38 rfl ?_
      refine Sx.aload_n dX5_maybeDarkest_39 rfl ?_
      refine Sx.getfR dX5_maybeDarkest_40 lkf_X5_23_5 (o_119 W) (r_119_3 W) ?_
      refine Sx.iload dX5_maybeDarkest_43 rfl ?_
      refine Sx.callV1 dX5_maybeDarkest_45 lkv_X5_93 (rcv_7 (o_122 W)) (by decide) (by decide) (Nat.le_of_ble_eq_true rfl) rfl rfl (d_rget (w_122r W) (by unfold rowC; decide) (by decide) (k := j) (v := nI (lofN (V 2) (wlV V) (V 3) (upc (V 2) (V 3)) j)) (by omega) (by rw [e2, upd_at]) ?_)
      refine Sx.mmin dX5_maybeDarkest_48 lkm_X5_94 (by decide) (Nat.le_of_ble_eq_true rfl) ?_
      refine Sx.top (n_min (by omega) (by omega)) ?_
      refine Sx.istore_n (lv' := [(3, .int (nI (min ls (lofN (V 2) (wlV V) (V 3) (upc (V 2) (V 3)) j)))), (4, .int (nI j)), (0, .ref 119), (1, .ref 229), (2, .int (nI e))]) dX5_maybeDarkest_51 (by decide) rfl ?_
      refine Sx.iinc (v := (nI (j + 1))) (lv' := [(4, .int (nI (j + 1))), (3, .int (nI (min ls (lofN (V 2) (wlV V) (V 3) (upc (V 2) (V 3)) j)))), (0, .ref 119), (1, .ref 229), (2, .int (nI e))]) dX5_maybeDarkest_52 rfl (nI_add j 1) (by decide) rfl ?_
      refine Sx.goto (t := 6) dX5_maybeDarkest_55 (by decide) ?_
      refine Sx.sub' [(4, .int (nI (j + 1))), (3, .int (nI (min ls (lofN (V 2) (wlV V) (V 3) (upc (V 2) (V 3)) j)))), (0, .ref 119), (1, .ref 229), (2, .int (nI e))] rfl ?_
      have ho : OF I I2 := fun q hq => by rw [o2 q (by omega), o1 q (by omega) (by omega)]
      refine ih (j + 1) (by omega) (by omega) _ (by rw [mnL, ← hls]) I2 (ho.ci C hb) (hf.tr ho) (fun d hd => ?_)
      rw [e2]
      by_cases q : d = j
      · rw [q, upd_at]
      · rw [upd_nj _ _ q, o1 123 (by decide) (by decide)]; exact hl d (by omega)
set_option maxRecDepth 20000 in
set_option maxHeartbeats 1000000 in
theorem l_cm2 {G : Gt} {l : Launch} {Z : Zt} {R : Rt} {I : It} {L : Lt} {post : Pt'} {V : Vt} {e ls : Nat} (W : WF Z R) (C : CI V R I L) (hH : HV V) (he : e ≤ 20) (hls : ls ≤ 99) (hl : ∀ d, d < V 2 0 → I 123 d = nI (lofN (V 2) (wlV V) (V 3) (upc (V 2) (V 3)) d)) (h : post (some (.int (nI (myN (lofN (V 2) (wlV V) (V 3) (upc (V 2) (V 3))) (ls + 2 * e) (V 2 0))))) Z R I L) :
    ∀ (r j : Nat), j ≤ V 2 0 → V 2 0 < j + r → ∀ bt, bt = myN (lofN (V 2) (wlV V) (V 3) (upc (V 2) (V 3))) (ls + 2 * e) j → Sx G l mX5_maybeDarkest 5 0 0 64 [(5, .int (nI j)), (4, .int (nI bt)), (3, .int (nI ls)), (0, .ref 119), (1, .ref 229), (2, .int (nI e))] [] Z R I L post := by
  obtain ⟨p1, p2, p3, p4, p5, p6, p7, p8, p9⟩ := id hH.2.2.2.1
  intro r
  induction r with
  | zero => intro j h1 h2; omega
  | succ r ih =>
    intro j h1 h2 bt hbt
    refine Sx.iload dX5_maybeDarkest_64 rfl ?_
    refine Sx.aload_n dX5_maybeDarkest_66 rfl ?_
    refine Sx.getfR dX5_maybeDarkest_67 lkf_X5_45_5 (o_119 W) (r_119_0 W) ?_
    refine Sx.iconst (v := (nI 0)) dX5_maybeDarkest_70 (by decide) ?_
    refine Sx.callU1 dX5_maybeDarkest_71 lku_X5_84 (rcv_6 (o_103 W)) (by decide) (by decide) (Nat.le_of_ble_eq_true rfl) rfl rfl (c_rg (w_103r W) (by unfold rowC; decide) (by decide) C.2.1 (0) rfl (by omega) ?_)
    refine Sx.icmp_geV (t := 113) dX5_maybeDarkest_74 (by decide) (vN (by omega)) (vN (by omega)) (fun c74 => ?_) (fun c74 => ?_)
    · refine Sx.iload dX5_maybeDarkest_113 rfl ?_
      refine Sx.iret dX5_maybeDarkest_115 rfl rfl ?_
      have hj : j = V 2 0 := by omega
      subst hj
      subst hbt
      exact h
    · refine Sx.iload dX5_maybeDarkest_77 rfl ?_
      refine Sx.aload_n dX5_maybeDarkest_79 rfl ?_
      refine Sx.getfR dX5_maybeDarkest_80 lkf_X5_23_5 (o_119 W) (r_119_3 W) ?_
      refine Sx.iload dX5_maybeDarkest_83 rfl ?_
      refine Sx.callV1 dX5_maybeDarkest_85 lkv_X5_93 (rcv_7 (o_122 W)) (by decide) (by decide) (Nat.le_of_ble_eq_true rfl) rfl rfl (d_rget (w_122r W) (by unfold rowC; decide) (by decide) (k := j) (v := nI (lofN (V 2) (wlV V) (V 3) (upc (V 2) (V 3)) j)) (by omega) (hl j (by omega)) ?_)
      refine Sx.iload_n dX5_maybeDarkest_88 rfl ?_
      refine Sx.iconst (v := (nI 2)) dX5_maybeDarkest_89 (by decide) ?_
      refine Sx.iload_n dX5_maybeDarkest_90 rfl ?_
      refine Sx.imulN dX5_maybeDarkest_91 ?_
      refine Sx.iaddN dX5_maybeDarkest_92 ?_
      have hlj := lof_le (w := wlV V) (u := upc (V 2) (V 3)) (d := j) hH.2.2.2.2.1 (by omega)
      refine Sx.icmp_gtV (t := 103) dX5_maybeDarkest_93 (by decide) (vN (by omega)) (vN (by omega)) (fun c93 => ?_) (fun c93 => ?_)
      · refine Sx.iconst (v := (nI 0)) dX5_maybeDarkest_103 (by decide) ?_
        refine Sx.iorN dX5_maybeDarkest_104 ?_
        refine Sx.istore (lv' := [(4, .int (nI (bt ||| 0))), (5, .int (nI j)), (3, .int (nI ls)), (0, .ref 119), (1, .ref 229), (2, .int (nI e))]) dX5_maybeDarkest_105 (by decide) rfl ?_
        refine Sx.iinc (v := (nI (j + 1))) (lv' := [(5, .int (nI (j + 1))), (4, .int (nI (bt ||| 0))), (3, .int (nI ls)), (0, .ref 119), (1, .ref 229), (2, .int (nI e))]) dX5_maybeDarkest_107 rfl (nI_add j 1) (by decide) rfl ?_
        refine Sx.goto (t := 64) dX5_maybeDarkest_110 (by decide) ?_
        refine Sx.sub' [(5, .int (nI (j + 1))), (4, .int (nI (bt ||| 0))), (3, .int (nI ls)), (0, .ref 119), (1, .ref 229), (2, .int (nI e))] rfl ?_
        exact ih (j + 1) (by omega) (by omega) _ (by rw [myN, ← hbt, if_neg (by omega)])
      · refine Sx.iconst (v := (nI 1)) dX5_maybeDarkest_96 (by decide) ?_
        refine Sx.iload dX5_maybeDarkest_97 rfl ?_
        refine Sx.ishl1 dX5_maybeDarkest_99 (by omega) ?_
        refine Sx.goto (t := 104) dX5_maybeDarkest_100 (by decide) ?_
        refine Sx.iorN dX5_maybeDarkest_104 ?_
        refine Sx.istore (lv' := [(4, .int (nI (bt ||| (2 ^ j)))), (5, .int (nI j)), (3, .int (nI ls)), (0, .ref 119), (1, .ref 229), (2, .int (nI e))]) dX5_maybeDarkest_105 (by decide) rfl ?_
        refine Sx.iinc (v := (nI (j + 1))) (lv' := [(5, .int (nI (j + 1))), (4, .int (nI (bt ||| (2 ^ j)))), (3, .int (nI ls)), (0, .ref 119), (1, .ref 229), (2, .int (nI e))]) dX5_maybeDarkest_107 rfl (nI_add j 1) (by decide) rfl ?_
        refine Sx.goto (t := 64) dX5_maybeDarkest_110 (by decide) ?_
        refine Sx.sub' [(5, .int (nI (j + 1))), (4, .int (nI (bt ||| (2 ^ j)))), (3, .int (nI ls)), (0, .ref 119), (1, .ref 229), (2, .int (nI e))] rfl ?_
        exact ih (j + 1) (by omega) (by omega) _ (by rw [myN, ← hbt, if_pos (by omega)])
set_option maxRecDepth 20000 in
set_option maxHeartbeats 1000000 in
theorem d_mayO {G : Gt} {l : Launch} {Z : Zt} {R : Rt} {I : It} {L : Lt} {post : Pt'} {V : Vt} {e : Nat} (W : WF Z R) (C : CI V R I L) (hH : HV V) (hb : V 0 1 ≤ 4 ∧ V 0 3 ≤ 4) (he : e ≤ 20) (h : ∀ I', OF I I' → ∀ ls, ls = mnL (lofN (V 2) (wlV V) (V 3) (upc (V 2) (V 3))) (V 2 0) → post (some (.int (nI (myN (lofN (V 2) (wlV V) (V 3) (upc (V 2) (V 3))) (ls + 2 * e) (V 2 0))))) Z R I' L) : Cx G l mX5_maybeDarkest 5 0 0 [.ref 119, .ref 229, .int (nI e)] Z R I L post := by
  refine Cx.of (by decide +kernel) (by exact Nat.le_of_ble_eq_true rfl) ?_
  refine Sx.bipush (v := (nI 99)) dX5_maybeDarkest_0 (by decide) ?_
  refine Sx.istore_n (lv' := [(3, .int (nI 99)), (0, .ref 119), (1, .ref 229), (2, .int (nI e))]) dX5_maybeDarkest_2 (by decide) rfl ?_
  refine Sx.iconst (v := (nI 0)) dX5_maybeDarkest_3 (by decide) ?_
  refine Sx.istore (lv' := [(4, .int (nI 0)), (3, .int (nI 99)), (0, .ref 119), (1, .ref 229), (2, .int (nI e))]) dX5_maybeDarkest_4 (by decide) rfl ?_
  refine Sx.sub' [(4, .int (nI 0)), (3, .int (nI 99)), (0, .ref 119), (1, .ref 229), (2, .int (nI e))] rfl ?_
  refine l_cm1 W hH hb (I0 := I) (fun J C1 hf hl ls hls => ?_) (V 2 0 + 1) 0 (by omega) (by omega) 99 rfl I C (OF.rf I) (fun d hd => by omega)
  refine Sx.iconst (v := (nI 0)) dX5_maybeDarkest_58 (by decide) ?_
  refine Sx.istore (lv' := [(4, .int (nI 0)), (3, .int (nI ls)), (0, .ref 119), (1, .ref 229), (2, .int (nI e))]) dX5_maybeDarkest_59 (by decide) rfl ?_
  refine Sx.iconst (v := (nI 0)) dX5_maybeDarkest_61 (by decide) ?_
  refine Sx.istore (lv' := [(5, .int (nI 0)), (4, .int (nI 0)), (3, .int (nI ls)), (0, .ref 119), (1, .ref 229), (2, .int (nI e))]) dX5_maybeDarkest_62 (by decide) rfl ?_
  refine Sx.sub' [(5, .int (nI 0)), (4, .int (nI 0)), (3, .int (nI ls)), (0, .ref 119), (1, .ref 229), (2, .int (nI e))] rfl ?_
  exact l_cm2 W C1 hH he (by rw [hls]; exact mnL_le _ _) hl (h J hf ls hls) (V 2 0 + 1) 0 (by omega) (by omega) 0 rfl
set_option maxRecDepth 20000 in
set_option maxHeartbeats 1000000 in
theorem d_may {G : Gt} {l : Launch} {Z : Zt} {R : Rt} {I : It} {L : Lt} {post : Pt'} {V : Vt} {N : Nat} {x : Int32} (W : WF Z R) (C : CI V R I L) (hG : GG N V) (hN : N < 2147483647) (h : CQ post Z R I L V (mayR V x)) : Cx G l mX11_may 6 0 0 [.ref 100, .int x] Z R I L post := by
  refine Cx.of (by decide +kernel) (by exact Nat.le_of_ble_eq_true rfl) ?_
  have hB := hG.1.bnd
  have hp6 := hG.1.p
  have hb := hG.1.b
  have h00 := hG.1.1.1
  refine Sx.aload_n dX11_may_0 rfl ?_
  refine Sx.callV0 dX11_may_1 lkv_X11_223 (rcv_11 (o_100 W)) (by decide) (by decide) (Nat.le_of_ble_eq_true rfl) rfl rfl (d_isPort W C (by omega) ?_)
  refine Sx.if_eqD (t := 17) dX11_may_4 (by decide) (fun c4 => ?_) (fun c4 => ?_)
  · refine Sx.iconst (v := (iI (-1))) dX11_may_17 (by decide) ?_
    refine Sx.goto (t := 33) dX11_may_18 (by decide) ?_
    refine Sx.iret dX11_may_33 rfl rfl ?_
    have hn : ¬ mayC V x := fun z => by omega
    exact pXX (by unfold mayR; rw [if_neg hn]; rfl) (h I R L C (CF.rf R I L))
  · refine Sx.iload_n dX11_may_7 rfl ?_
    refine Sx.if_ltV (t := 17) dX11_may_8 (by decide) (vX x) (fun c8 => ?_) (fun c8 => ?_)
    · refine Sx.iconst (v := (iI (-1))) dX11_may_17 (by decide) ?_
      refine Sx.goto (t := 33) dX11_may_18 (by decide) ?_
      refine Sx.iret dX11_may_33 rfl rfl ?_
      have hn : ¬ mayC V x := fun z => by omega
      exact pXX (by unfold mayR; rw [if_neg hn]; rfl) (h I R L C (CF.rf R I L))
    · refine Sx.iload_n dX11_may_11 rfl ?_
      refine Sx.bipush (v := (nI 20)) dX11_may_12 (by decide) ?_
      refine Sx.icmp_leV (t := 21) dX11_may_14 (by decide) (vX x) (vN (by decide)) (fun c14 => ?_) (fun c14 => ?_)
      · have hH := hG.1.hv (by omega)
        have hc : mayC V x := ⟨by omega, by omega, by omega⟩
        obtain ⟨p, rfl, hp⟩ := x_ex (x := x) (n := 21) ⟨by omega, by omega⟩
        refine Sx.sub' [(0, .ref 100), (1, .int (nI p))] rfl ?_
        refine Sx.aload_n dX11_may_21 rfl ?_
        refine Sx.getfR dX11_may_22 lkf_X11_68_11 (o_100 W) (r_100_8 W) ?_
        refine Sx.aload_n dX11_may_25 rfl ?_
        refine Sx.getfR dX11_may_26 lkf_X11_89_11 (o_100 W) (r_100_11 W) ?_
        refine Sx.iload_n dX11_may_29 rfl ?_
        refine Sx.callV2 dX11_may_30 lkv_X11_285 (rcv_5 (o_119 W)) (by decide) (by decide) (Nat.le_of_ble_eq_true rfl) rfl rfl (d_mayO W C hH hb (by omega) (fun I1 o1 ls hls => ?_))
        refine Sx.iret dX11_may_33 rfl rfl ?_
        have p2 := hH.2.2.2.1.2.1
        have p1 := hH.2.2.2.1.1
        have hm := mnL_amn (g := lofN (V 2) (wlV V) (V 3) (upc (V 2) (V 3))) (fun d hd => lof_le hH.2.2.2.2.1 hd) (V 2 0 - 1) (by omega)
        rw [show V 2 0 - 1 + 1 = V 2 0 by omega] at hm
        exact pXX (by unfold mayR; rw [if_pos hc, xN_n (by omega), hls, hm]; rfl) (h I1 R L (o1.ci C hb) o1.cf)
      · refine Sx.iconst (v := (iI (-1))) dX11_may_17 (by decide) ?_
        refine Sx.goto (t := 33) dX11_may_18 (by decide) ?_
        refine Sx.iret dX11_may_33 rfl rfl ?_
        have hn : ¬ mayC V x := fun z => by omega
        exact pXX (by unfold mayR; rw [if_neg hn]; rfl) (h I R L C (CF.rf R I L))
