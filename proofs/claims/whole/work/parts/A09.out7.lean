/-! the class: bedding -/
set_option maxRecDepth 20000 in
set_option maxHeartbeats 1000000 in
theorem l_cbd3 {G : Gt} {l : Launch} {Z : Zt} {R : Rt} {L : Lt} {post : Pt'} {V : Vt} {I0 : It} {m k : Nat} (W : WF Z R) (hH : HV V) (hb : V 0 1 ≤ 4 ∧ V 0 3 ≤ 4) (hk : k < V 2 34) (hm : m < 64) (hM : m = upN (V 2 35) (V 3 138)) (h : ∀ I', CI V R I' L → OF I0 I' → post (some (.int (iI ((soF (bdO V k) (m + 1) : Int) - 1)))) Z R I' L) :
    ∀ (r s : Nat), s ≤ m + 1 → m + 1 < s + r → ∀ (I : It), CI V R I L → OF I0 I → (∀ z, z ≤ popN m → I 131 z = nI (ruU V z)) → ∀ fw, fw = soF (bdO V k) s → Sx G l mX5_fewestInBed 5 0 0 55 [(5, .int (nI s)), (4, .int (iI ((fw : Int) - 1))), (3, .int (nI m)), (2, .int (nI k)), (1, .ref 229), (0, .ref 119)] [] Z R I L post := by
  obtain ⟨p1, p2, p3, p4, p5, p6, p7, p8, p9⟩ := id hH.2.2.2.1
  intro r
  induction r with
  | zero => intro s h1 h2; omega
  | succ r ih =>
    intro s h1 h2 I C hf hl fw hfw
    have hfl : fw ≤ s := by rw [hfw]; exact soF_le _ _
    refine Sx.iload dX5_fewestInBed_55 rfl ?_
    refine Sx.iload_n dX5_fewestInBed_57 rfl ?_
    refine Sx.icmp_gtV (t := 186) dX5_fewestInBed_58 (by decide) (vN (by omega)) (vN (by omega)) (fun c58 => ?_) (fun c58 => ?_)
    · refine Sx.iload dX5_fewestInBed_186 rfl ?_
      refine Sx.iret dX5_fewestInBed_188 rfl rfl ?_
      have hj : s = m + 1 := by omega
      subst hj
      subst hfw
      exact h I C hf
    · have hfs := soF_le (bdO V k) s
      have hq1 := (popN_bit s (by omega)).2
      have hq2 := (popN_bit (fw - 1) (by omega)).2
      refine Sx.iload dX5_fewestInBed_61 rfl ?_
      refine Sx.iconst (v := (iI (-1))) dX5_fewestInBed_63 (by decide) ?_
      refine Sx.icmp_eqV (t := 80) dX5_fewestInBed_64 (by decide) (vZ (by omega)) (vZ (by decide)) (fun c64 => ?_) (fun c64 => ?_)
      · refine Sx.iconst (v := (nI 1)) dX5_fewestInBed_80 (by decide) ?_
        refine Sx.goto (t := 85) dX5_fewestInBed_81 (by decide) ?_
        refine Sx.istore (lv' := [(6, .int (nI 1)), (5, .int (nI s)), (4, .int (iI ((fw : Int) - 1))), (3, .int (nI m)), (2, .int (nI k)), (1, .ref 229), (0, .ref 119)]) dX5_fewestInBed_85 (by decide) rfl ?_
        refine Sx.iload dX5_fewestInBed_87 rfl ?_
        refine Sx.if_eqV (t := 180) dX5_fewestInBed_89 (by decide) (vN (by decide)) (fun c89 => False.elim (by omega)) (fun c89 => ?_)
        have hlt : soF (bdO V k) s = 0 ∨ popN s < popN (soF (bdO V k) s - 1) := by rw [← hfw]; omega
        refine Sx.sub' [(6, .int (nI 1)), (5, .int (nI s)), (4, .int (iI ((fw : Int) - 1))), (3, .int (nI m)), (2, .int (nI k)), (1, .ref 229), (0, .ref 119)] rfl ?_
        refine l_cbd2 (I0 := I0) W hH hb hk (by omega) hm hM hl hfw hlt C hf (fun I2 C2 hf2 hl2 fw2 hfw2 => ?_)
        refine Sx.iinc (v := (nI (s + 1))) (lv' := [(5, .int (nI (s + 1))), (4, .int (iI ((fw2 : Int) - 1))), (3, .int (nI m)), (2, .int (nI k)), (1, .ref 229), (0, .ref 119)]) dX5_fewestInBed_180 rfl (nI_add s 1) (by decide) rfl ?_
        refine Sx.goto (t := 55) dX5_fewestInBed_183 (by decide) ?_
        refine Sx.sub' [(5, .int (nI (s + 1))), (4, .int (iI ((fw2 : Int) - 1))), (3, .int (nI m)), (2, .int (nI k)), (1, .ref 229), (0, .ref 119)] rfl ?_
        exact ih (s + 1) (by omega) (by omega) I2 C2 hf2 hl2 fw2 hfw2
      · refine Sx.iload dX5_fewestInBed_67 rfl ?_
        refine Sx.callS1 dX5_fewestInBed_69 lkc_X5_118  (by decide) (by decide) (Nat.le_of_ble_eq_true rfl) rfl rfl (k_bitc (x := s) (by omega) ?_)
        refine Sx.iload dX5_fewestInBed_72 rfl ?_
        refine Sx.callS1 dX5_fewestInBed_74 lkc_X5_118  (by decide) (by decide) (Nat.le_of_ble_eq_true rfl) rfl rfl (k_bitcZ (x := fw - 1) (by omega) (by omega) ?_)
        refine Sx.icmp_geV (t := 84) dX5_fewestInBed_77 (by decide) (vN (by omega)) (vN (by omega)) (fun c77 => ?_) (fun c77 => ?_)
        · refine Sx.iconst (v := (nI 0)) dX5_fewestInBed_84 (by decide) ?_
          refine Sx.istore (lv' := [(6, .int (nI 0)), (5, .int (nI s)), (4, .int (iI ((fw : Int) - 1))), (3, .int (nI m)), (2, .int (nI k)), (1, .ref 229), (0, .ref 119)]) dX5_fewestInBed_85 (by decide) rfl ?_
          refine Sx.iload dX5_fewestInBed_87 rfl ?_
          refine Sx.if_eqV (t := 180) dX5_fewestInBed_89 (by decide) (vN (by decide)) (fun c89 => ?_) (fun c89 => False.elim (by omega))
          refine Sx.iinc (v := (nI (s + 1))) (lv' := [(5, .int (nI (s + 1))), (6, .int (nI 0)), (4, .int (iI ((fw : Int) - 1))), (3, .int (nI m)), (2, .int (nI k)), (1, .ref 229), (0, .ref 119)]) dX5_fewestInBed_180 rfl (nI_add s 1) (by decide) rfl ?_
          refine Sx.goto (t := 55) dX5_fewestInBed_183 (by decide) ?_
          have hlt : ¬ (soF (bdO V k) s = 0 ∨ popN s < popN (soF (bdO V k) s - 1)) := by rw [← hfw]; omega
          refine Sx.sub' [(5, .int (nI (s + 1))), (4, .int (iI ((fw : Int) - 1))), (3, .int (nI m)), (2, .int (nI k)), (1, .ref 229), (0, .ref 119)] rfl ?_
          exact ih (s + 1) (by omega) (by omega) I C hf hl fw (by rw [soF, if_neg (fun z => absurd z.1 hlt)]; exact hfw)
        · refine Sx.iconst (v := (nI 1)) dX5_fewestInBed_80 (by decide) ?_
          refine Sx.goto (t := 85) dX5_fewestInBed_81 (by decide) ?_
          refine Sx.istore (lv' := [(6, .int (nI 1)), (5, .int (nI s)), (4, .int (iI ((fw : Int) - 1))), (3, .int (nI m)), (2, .int (nI k)), (1, .ref 229), (0, .ref 119)]) dX5_fewestInBed_85 (by decide) rfl ?_
          refine Sx.iload dX5_fewestInBed_87 rfl ?_
          refine Sx.if_eqV (t := 180) dX5_fewestInBed_89 (by decide) (vN (by decide)) (fun c89 => False.elim (by omega)) (fun c89 => ?_)
          have hlt : soF (bdO V k) s = 0 ∨ popN s < popN (soF (bdO V k) s - 1) := by rw [← hfw]; omega
          refine Sx.sub' [(6, .int (nI 1)), (5, .int (nI s)), (4, .int (iI ((fw : Int) - 1))), (3, .int (nI m)), (2, .int (nI k)), (1, .ref 229), (0, .ref 119)] rfl ?_
          refine l_cbd2 (I0 := I0) W hH hb hk (by omega) hm hM hl hfw hlt C hf (fun I2 C2 hf2 hl2 fw2 hfw2 => ?_)
          refine Sx.iinc (v := (nI (s + 1))) (lv' := [(5, .int (nI (s + 1))), (4, .int (iI ((fw2 : Int) - 1))), (3, .int (nI m)), (2, .int (nI k)), (1, .ref 229), (0, .ref 119)]) dX5_fewestInBed_180 rfl (nI_add s 1) (by decide) rfl ?_
          refine Sx.goto (t := 55) dX5_fewestInBed_183 (by decide) ?_
          refine Sx.sub' [(5, .int (nI (s + 1))), (4, .int (iI ((fw2 : Int) - 1))), (3, .int (nI m)), (2, .int (nI k)), (1, .ref 229), (0, .ref 119)] rfl ?_
          exact ih (s + 1) (by omega) (by omega) I2 C2 hf2 hl2 fw2 hfw2
theorem d_upB {G : Gt} {l : Launch} {Z : Zt} {R : Rt} {I : It} {L : Lt} {post : Pt'} {s : Nat} {F : Nat → Nat} {n m : Nat} (hr : rwo Z R s 8 146) (hs : rs (I (s + 1)) F) (hb : F 138 < 64) (hn : n < 7) (hm : m = upN n (F 138)) (h : post (some (.int (nI m))) Z R I L) : Cx G l mX8_upBits 2 0 0 [.ref s, .int (nI n)] Z R I L post := c_X8_upBits hr hs hb hn (hm ▸ h)
theorem upN_top {n b : Nat} (hn : n ≤ 6) : upN n b < 2 ^ n := by
  have h0 : 0 < 2 ^ n := Nat.two_pow_pos n
  have := Nat.and_le_left (n := 2 ^ n - 1) (m := 63 ^^^ b)
  unfold upN
  omega
set_option maxRecDepth 20000 in
set_option maxHeartbeats 1000000 in
theorem d_fbd {G : Gt} {l : Launch} {Z : Zt} {R : Rt} {I : It} {L : Lt} {post : Pt'} {V : Vt} {k m : Nat} (W : WF Z R) (C : CI V R I L) (hH : HV V) (hb : V 0 1 ≤ 4 ∧ V 0 3 ≤ 4) (hk : k < V 2 34) (hm : m < 64) (hM : m = upN (V 2 35) (V 3 138)) (h : ∀ I', CI V R I' L → OF I I' → post (some (.int (iI ((soF (bdO V k) (m + 1) : Int) - 1)))) Z R I' L) : Cx G l mX5_fewestInBed 5 0 0 [.ref 119, .ref 229, .int (nI k)] Z R I L post := by
  refine Cx.of (by decide +kernel) (by exact Nat.le_of_ble_eq_true rfl) ?_
  obtain ⟨p1, p2, p3, p4, p5, p6, p7, p8, p9⟩ := id hH.2.2.2.1
  refine Sx.aload_n dX5_fewestInBed_0 rfl ?_
  refine Sx.aload_n dX5_fewestInBed_1 rfl ?_
  refine Sx.getfR dX5_fewestInBed_2 lkf_X5_45_5 (o_119 W) (r_119_0 W) ?_
  refine Sx.callV0 dX5_fewestInBed_5 lkv_X5_103 (rcv_6 (o_103 W)) (by decide) (by decide) (Nat.le_of_ble_eq_true rfl) rfl rfl (c_pers (w_103r W) C.2.1 ?_)
  refine Sx.callV1 dX5_fewestInBed_8 lkv_X5_134 (rcv_8 (o_229 W)) (by decide) (by decide) (Nat.le_of_ble_eq_true rfl) rfl rfl (d_upB (w_229r W) C.2.2.1 hH.2.2.2.2.1.2.2.2.2.2.2.1 (by omega) hM ?_)
  refine Sx.istore_n (lv' := [(3, .int (nI m)), (0, .ref 119), (1, .ref 229), (2, .int (nI k))]) dX5_fewestInBed_11 (by decide) rfl ?_
  refine Sx.iconst (v := (nI 0)) dX5_fewestInBed_12 (by decide) ?_
  refine Sx.istore (lv' := [(4, .int (nI 0)), (3, .int (nI m)), (0, .ref 119), (1, .ref 229), (2, .int (nI k))]) dX5_fewestInBed_13 (by decide) rfl ?_
  refine Sx.sub' [(4, .int (nI 0)), (3, .int (nI m)), (2, .int (nI k)), (1, .ref 229), (0, .ref 119)] rfl ?_
  refine l_cbd1 W hH hb hm (I0 := I) (fun I1 C1 hf1 hl1 => ?_) (popN m + 2) 0 (by omega) (by omega) I C (OF.rf I) (fun z hz => by omega)
  refine Sx.iconst (v := (iI (-1))) dX5_fewestInBed_49 (by decide) ?_
  refine Sx.istore (lv' := [(4, .int (iI (-1))), (3, .int (nI m)), (2, .int (nI k)), (1, .ref 229), (0, .ref 119)]) dX5_fewestInBed_50 (by decide) rfl ?_
  refine Sx.iconst (v := (nI 0)) dX5_fewestInBed_52 (by decide) ?_
  refine Sx.istore (lv' := [(5, .int (nI 0)), (4, .int (iI (-1))), (3, .int (nI m)), (2, .int (nI k)), (1, .ref 229), (0, .ref 119)]) dX5_fewestInBed_53 (by decide) rfl ?_
  refine Sx.sub' [(5, .int (nI 0)), (4, .int (iI (((0 : Nat) : Int) - 1))), (3, .int (nI m)), (2, .int (nI k)), (1, .ref 229), (0, .ref 119)] rfl ?_
  exact l_cbd3 W hH hb hk hm hM (I0 := I) h (m + 2) 0 (by omega) (by omega) I1 C1 hf1 hl1 0 rfl
set_option maxRecDepth 20000 in
set_option maxHeartbeats 1000000 in
theorem d_bedding {G : Gt} {l : Launch} {Z : Zt} {R : Rt} {I : It} {L : Lt} {post : Pt'} {V : Vt} {N : Nat} {x : Int32} (W : WF Z R) (C : CI V R I L) (hG : GG N V) (hN : N < 2147483647) (h : CQ post Z R I L V (bedR V x)) : Cx G l mX11_bedding 6 0 0 [.ref 100, .int x] Z R I L post := by
  refine Cx.of (by decide +kernel) (by exact Nat.le_of_ble_eq_true rfl) ?_
  have hB := hG.1.bnd
  have hp6 := hG.1.p
  have hb := hG.1.b
  have h00 := hG.1.1.1
  refine Sx.aload_n dX11_bedding_0 rfl ?_
  refine Sx.getfR dX11_bedding_1 lkf_X11_19_11 (o_100 W) (r_100_1 W) ?_
  refine Sx.iload_n dX11_bedding_4 rfl ?_
  refine Sx.callV1 dX11_bedding_5 lkv_X11_177 (rcv_6 (o_103 W)) (by decide) (by decide) (Nat.le_of_ble_eq_true rfl) rfl rfl (d_isKind W C.2.1 (by omega) ?_)
  refine Sx.if_eqD (t := 26) dX11_bedding_8 (by decide) (fun c8 => ?_) (fun c8 => ?_)
  · refine Sx.iconst (v := (iI (-1))) dX11_bedding_26 (by decide) ?_
    refine Sx.iret dX11_bedding_27 rfl rfl ?_
    have hn : ¬ swiC V x := fun z => by omega
    exact pXX (by unfold bedR; rw [if_neg hn]; rfl) (h I R L C (CF.rf R I L))
  · have hH := hG.1.hk (by omega)
    obtain ⟨p, rfl, hp⟩ := x_ex (x := x) (n := V 2 34) ⟨by omega, by omega⟩
    have hm : upN (V 2 35) (V 3 138) < 64 := (upN_bit _ (by have := hH.2.2.2.1.2.2.2.2.2.2.2.1; omega) _ hH.2.2.2.2.1.2.2.2.2.2.2.1).2
    have hc : swiC V (nI p) := ⟨by rw [nI_toInt (by omega)]; omega, by rw [nI_toInt (by omega)]; omega⟩
    refine Sx.sub' [(0, .ref 100), (1, .int (nI p))] rfl ?_
    refine Sx.aload_n dX11_bedding_11 rfl ?_
    refine Sx.getfR dX11_bedding_12 lkf_X11_68_11 (o_100 W) (r_100_8 W) ?_
    refine Sx.aload_n dX11_bedding_15 rfl ?_
    refine Sx.getfR dX11_bedding_16 lkf_X11_89_11 (o_100 W) (r_100_11 W) ?_
    refine Sx.iload_n dX11_bedding_19 rfl ?_
    refine Sx.callV2 dX11_bedding_20 lkv_X11_297 (rcv_5 (o_119 W)) (by decide) (by decide) (Nat.le_of_ble_eq_true rfl) rfl rfl (d_fbd W C hH hb (by omega) hm rfl (fun I1 C1 o1 => ?_))
    refine Sx.goto (t := 27) dX11_bedding_23 (by decide) ?_
    refine Sx.iret dX11_bedding_27 rfl rfl ?_
    have h35 := hH.2.2.2.1.2.2.2.2.2.2.2.1
    have h64 := p2_64 h35
    have htop := upN_top (b := V 3 138) h35
    have es : soF (bdK V p) (2 ^ V 2 35) = soF (bdO V p) (upN (V 2 35) (V 3 138) + 1) := by
      rw [soF_cg _ (fun s hs => bd_same hH (show s < 64 by omega)), show 2 ^ V 2 35 = upN (V 2 35) (V 3 138) + 1 + (2 ^ V 2 35 - (upN (V 2 35) (V 3 138) + 1)) by omega]
      refine soF_top _ (fun s h1 h2 => decide_eq_false (fun z => sub_gt _ hm s (by omega) (by omega) z.1))
    exact pXX (by unfold bedR; rw [if_pos hc, xN_n (by omega), es]) (h I1 R L C1 o1.cf)
