/-! the class: odds -/
set_option maxRecDepth 20000 in
set_option maxHeartbeats 1000000 in
theorem l_cpt {G : Gt} {l : Launch} {Z : Zt} {R : Rt} {I : It} {L : Lt} {post : Pt'} {m n c FF : Nat} (hm : m < 256) (hn : n ≤ 8) (hc : c ≤ 100) (h : post (some (.int (nI FF))) Z R I L) :
    ∀ (k r : Nat), r < k → ∀ (i part : Nat), i + r = n → part ≤ 1000000000 → prF c r (m / 2 ^ i) part = FF → Sx G l mX5_partOf 2 0 0 7 [(5, .int (nI i)), (3, .long (nI (part)).toInt64), (2, .int (nI c)), (1, .int (nI n)), (0, .int (nI m))] [] Z R I L post := by
  intro k
  induction k with
  | zero => intro r h1; omega
  | succ k ih =>
    intro r h1 i part hir hp hF
    have hm3 : part * c ≤ part * 100 := Nat.mul_le_mul_left _ hc
    have hq : part * c / 100 ≤ part := by omega
    refine Sx.iload dX5_partOf_7 rfl ?_
    refine Sx.iload_n dX5_partOf_9 rfl ?_
    refine Sx.icmp_geV (t := 48) dX5_partOf_10 (by decide) (vN (by omega)) (vN (by omega)) (fun c10 => ?_) (fun c10 => ?_)
    · have hr0 : r = 0 := by omega
      subst hr0
      refine Sx.lload_n dX5_partOf_48 rfl ?_
      refine Sx.l2i dX5_partOf_49 ?_
      refine Sx.iret dX5_partOf_50 rfl rfl ?_
      exact pXX (by rw [l_i32 hp, ← hF]; rfl) h
    · refine Sx.lload_n dX5_partOf_13 rfl ?_
      refine Sx.iload_n dX5_partOf_14 rfl ?_
      refine Sx.i2l dX5_partOf_15 ?_
      refine Sx.lmul dX5_partOf_16 ?_
      refine Sx.ldc2 dX5_partOf_17 lkk_X5_170 ?_
      refine Sx.ldiv dX5_partOf_20 (by decide) ?_
      refine Sx.lstore (lv' := [(6, .long ((((nI part).toInt64 * ((nI c)).toInt64) / 100))), (5, .int (nI i)), (3, .long ((nI part).toInt64)), (2, .int (nI c)), (1, .int (nI n)), (0, .int (nI m))]) dX5_partOf_21 (by decide) rfl ?_
      refine Sx.iload_n dX5_partOf_23 rfl ?_
      refine Sx.iload dX5_partOf_24 rfl ?_
      refine Sx.callSN2 dX5_partOf_26 lkc_X5_123  (by decide) (by decide) (Nat.le_of_ble_eq_true rfl) rfl rfl (c_hasBit (by omega) (by omega) ?_)
      refine Sx.if_eqB (t := 37) dX5_partOf_29 (by decide) (fun c29 => ?_) (fun c29 => ?_)
      · have hbt : ¬ m / 2 ^ i % 2 = 1 := by have h := c29; unfold hbN at h; simpa using h
        refine Sx.lload_n dX5_partOf_37 rfl ?_
        refine Sx.lload dX5_partOf_38 rfl ?_
        refine Sx.lsub dX5_partOf_40 ?_
        refine Sx.lstore_n (lv' := [(3, .long (((nI part).toInt64 - (((nI part).toInt64 * ((nI c)).toInt64) / 100)))), (6, .long ((((nI part).toInt64 * ((nI c)).toInt64) / 100))), (5, .int (nI i)), (2, .int (nI c)), (1, .int (nI n)), (0, .int (nI m))]) dX5_partOf_41 (by decide) rfl ?_
        refine Sx.iinc (v := (nI (i + 1))) (lv' := [(5, .int (nI (i + 1))), (3, .long (((nI part).toInt64 - (((nI part).toInt64 * ((nI c)).toInt64) / 100)))), (6, .long ((((nI part).toInt64 * ((nI c)).toInt64) / 100))), (2, .int (nI c)), (1, .int (nI n)), (0, .int (nI m))]) dX5_partOf_42 rfl (nI_add i 1) (by decide) rfl ?_
        refine Sx.goto (t := 7) dX5_partOf_45 (by decide) ?_
        refine Sx.sub' (lv' := [(5, .int (nI (i + 1))), (3, .long (nI (part - part * c / 100)).toInt64), (2, .int (nI c)), (1, .int (nI n)), (0, .int (nI m))]) (by rw [← sub_l hq hp, ← of_l hp hc]; rfl) ?_
        exact ih (r - 1) (by omega) (i + 1) (part - part * c / 100) (by omega) (by omega) (by rw [← hF, show r = r - 1 + 1 by omega, prF, Nat.pow_succ, Nat.div_div_eq_div_mul, Nat.add_sub_cancel, if_neg hbt])
      · have hbt : m / 2 ^ i % 2 = 1 := by have h := c29; unfold hbN at h; simpa using h
        refine Sx.lload dX5_partOf_32 rfl ?_
        refine Sx.goto (t := 41) dX5_partOf_34 (by decide) ?_
        refine Sx.lstore_n (lv' := [(3, .long ((((nI part).toInt64 * ((nI c)).toInt64) / 100))), (6, .long ((((nI part).toInt64 * ((nI c)).toInt64) / 100))), (5, .int (nI i)), (2, .int (nI c)), (1, .int (nI n)), (0, .int (nI m))]) dX5_partOf_41 (by decide) rfl ?_
        refine Sx.iinc (v := (nI (i + 1))) (lv' := [(5, .int (nI (i + 1))), (3, .long ((((nI part).toInt64 * ((nI c)).toInt64) / 100))), (6, .long ((((nI part).toInt64 * ((nI c)).toInt64) / 100))), (2, .int (nI c)), (1, .int (nI n)), (0, .int (nI m))]) dX5_partOf_42 rfl (nI_add i 1) (by decide) rfl ?_
        refine Sx.goto (t := 7) dX5_partOf_45 (by decide) ?_
        refine Sx.sub' (lv' := [(5, .int (nI (i + 1))), (3, .long (nI (part * c / 100)).toInt64), (2, .int (nI c)), (1, .int (nI n)), (0, .int (nI m))]) (by rw [← of_l hp hc]; rfl) ?_
        exact ih (r - 1) (by omega) (i + 1) (part * c / 100) (by omega) (by omega) (by rw [← hF, show r = r - 1 + 1 by omega, prF, Nat.pow_succ, Nat.div_div_eq_div_mul, Nat.add_sub_cancel, if_pos hbt])
set_option maxRecDepth 20000 in
set_option maxHeartbeats 1000000 in
theorem d_partOf {G : Gt} {l : Launch} {Z : Zt} {R : Rt} {I : It} {L : Lt} {post : Pt'} {m n c : Nat} (hm : m < 256) (hn : n ≤ 8) (hc : c ≤ 100) (h : post (some (.int (nI (prF c n m 1000000000)))) Z R I L) : Cx G l mX5_partOf 2 0 0 [.int (nI m), .int (nI n), .int (nI c)] Z R I L post := by
  refine Cx.of (by decide +kernel) (by exact Nat.le_of_ble_eq_true rfl) ?_
  refine Sx.ldc2 dX5_partOf_0 lkk_X5_168 ?_
  refine Sx.lstore_n (lv' := [(3, .long 1000000000), (0, .int (nI m)), (1, .int (nI n)), (2, .int (nI c))]) dX5_partOf_3 (by decide) rfl ?_
  refine Sx.iconst (v := (nI 0)) dX5_partOf_4 (by decide) ?_
  refine Sx.istore (lv' := [(5, .int (nI 0)), (3, .long 1000000000), (0, .int (nI m)), (1, .int (nI n)), (2, .int (nI c))]) dX5_partOf_5 (by decide) rfl ?_
  refine Sx.sub' [(5, .int (nI 0)), (3, .long (nI (1000000000)).toInt64), (2, .int (nI c)), (1, .int (nI n)), (0, .int (nI m))] (by rw [show (nI 1000000000).toInt64 = 1000000000 by decide]; rfl) ?_
  exact l_cpt hm hn hc h (n + 1) n (by omega) 0 1000000000 (by omega) (by omega) (by rw [Nat.pow_zero, Nat.div_one])
theorem rb_s {E : Nat → Nat} {j am ls lt : Nat} (ha : am = amn E j) (hl : ls = if j = 0 then 100 else E (am - 1)) (he : E j = lt) (h99 : lt ≤ 99) : (lt < ls → j + 1 = amn E (j + 1) ∧ lt = if j + 1 = 0 then 100 else E (j + 1 - 1)) ∧ (¬ lt < ls → am = amn E (j + 1) ∧ ls = if j + 1 = 0 then 100 else E (am - 1)) := by
  have e : amn E (j + 1) = if amn E j = 0 ∨ E j < E (amn E j - 1) then j + 1 else amn E j := by rw [amn]
  have hp := amn_pos E j
  rw [e, ← ha, he, if_neg (show ¬ j + 1 = 0 by omega), if_neg (show ¬ j + 1 = 0 by omega), Nat.add_sub_cancel, he]
  by_cases c : j = 0
  · rw [if_pos c] at hl
    subst c
    have h0 : am = 0 := ha
    rw [if_pos (Or.inl h0)]
    exact ⟨fun _ => ⟨rfl, rfl⟩, fun z => by omega⟩
  · rw [if_neg c] at hl
    have := hp (by omega)
    constructor
    · intro z
      rw [if_pos (Or.inr (by omega))]
      exact ⟨rfl, rfl⟩
    · intro z
      rw [if_neg (by omega)]
      exact ⟨rfl, hl⟩
theorem d_dark {G : Gt} {l : Launch} {Z : Zt} {R : Rt} {I : It} {L : Lt} {post : Pt'} {s dk : Nat} {F : Nat → Nat} (hr : rwo Z R s 8 146) (hs : rs (I (s + 1)) F) (hb : ∀ j, j < 146 → F j < 2 ^ 31) (hd : F 145 ≤ 30) (hk : dk = dkN F (F 145)) (h : post (some (.int (iI ((dk : Int) - 1)))) Z R I L) : Cx G l mX8_darkestOver 2 0 0 [.ref s] Z R I L post :=
  c_X8_dark hr hs hb hd (by rw [← hk, show nI dk - 1 = iI ((dk : Int) - 1) by rw [nI_iI, show (1 : Int32) = iI 1 by decide, iI_sub]]; exact h)
set_option maxRecDepth 20000 in
set_option maxHeartbeats 1000000 in
theorem l_crb {G : Gt} {l : Launch} {Z : Zt} {R : Rt} {I : It} {L : Lt} {post : Pt'} {V : Vt} {m n : Nat} (W : WF Z R) (C : CI V R I L) (hH : HV V) (hm : m < 256) (hn : V 3 145 + n = V 2 0) (h8 : n ≤ 8) (hl : ∀ i, i < n → I 123 i = nI (ltO V (V 3 145 + i)) ∧ I 125 i = nI (ltH V (V 3 145 + i))) (hE99 : ∀ d, d < V 2 0 → (exF (ltO V) (ltH V) n (V 3 145) (fun d => V 3 (18 + d)) m) d ≤ 99) (h : post (some (.int (iI ((amn (exF (ltO V) (ltH V) n (V 3 145) (fun d => V 3 (18 + d)) m) (V 2 0) : Int) - 1)))) Z R I L) :
    ∀ (k r : Nat), r < k → ∀ (i am ls : Nat), i + r = n → am = amn (exF (ltO V) (ltH V) n (V 3 145) (fun d => V 3 (18 + d)) m) (V 3 145 + i) → ls = (if V 3 145 + i = 0 then 100 else (exF (ltO V) (ltH V) n (V 3 145) (fun d => V 3 (18 + d)) m) (am - 1)) → Sx G l mX5_rulerBy 3 0 0 31 [(6, .int (nI i)), (5, .int (nI ls)), (4, .int (iI ((am : Int) - 1))), (3, .int (nI n)), (2, .int (nI m)), (1, .ref 229), (0, .ref 119)] [] Z R I L post := by
  obtain ⟨p1, p2, p3, p4, p5, p6, p7, p8, p9⟩ := id hH.2.2.2.1
  intro k
  induction k with
  | zero => intro r h1; omega
  | succ k ih =>
    intro r h1 i am ls hir ham hls
    have hal := amn_le (exF (ltO V) (ltH V) n (V 3 145) (fun d => V 3 (18 + d)) m) (V 3 145 + i)
    refine Sx.iload dX5_rulerBy_31 rfl ?_
    refine Sx.iload_n dX5_rulerBy_33 rfl ?_
    refine Sx.icmp_geV (t := 98) dX5_rulerBy_34 (by decide) (vN (by omega)) (vN (by omega)) (fun c34 => ?_) (fun c34 => ?_)
    · have hr0 : r = 0 := by omega
      subst hr0
      have hin : V 3 145 + i = V 2 0 := by omega
      refine Sx.iload dX5_rulerBy_98 rfl ?_
      refine Sx.iret dX5_rulerBy_100 rfl rfl ?_
      exact pXX (by rw [ham, hin]) h
    · have hl1 : ltO V (V 3 145 + i) ≤ 99 := litN_le _ _ _ _ _ _
      have hl2 : ltH V (V 3 145 + i) ≤ 99 := litN_le _ _ _ _ _ _
      have hlb : ls ≤ 100 := by
        have hq := hE99 (am - 1) (by omega)
        rw [hls]; split <;> omega
      refine Sx.iload_n dX5_rulerBy_37 rfl ?_
      refine Sx.iload dX5_rulerBy_38 rfl ?_
      refine Sx.callSN2 dX5_rulerBy_40 lkc_X5_123  (by decide) (by decide) (Nat.le_of_ble_eq_true rfl) rfl rfl (c_hasBit (by omega) (by omega) ?_)
      refine Sx.if_eqB (t := 58) dX5_rulerBy_43 (by decide) (fun c43 => ?_) (fun c43 => ?_)
      · refine Sx.aload_n dX5_rulerBy_58 rfl ?_
        refine Sx.getfR dX5_rulerBy_59 lkf_X5_23_5 (o_119 W) (r_119_3 W) ?_
        refine Sx.iload dX5_rulerBy_62 rfl ?_
        refine Sx.callV1 dX5_rulerBy_64 lkv_X5_93 (rcv_7 (o_122 W)) (by decide) (by decide) (Nat.le_of_ble_eq_true rfl) rfl rfl (d_rget (w_122r W) (by unfold rowC; decide) (by decide) (k := i) (v := nI (ltO V (V 3 145 + i))) (by omega) (hl i (by omega)).1 ?_)
        refine Sx.istore (lv' := [(7, .int (nI (ltO V (V 3 145 + i)))), (6, .int (nI i)), (5, .int (nI ls)), (4, .int (iI ((am : Int) - 1))), (3, .int (nI n)), (2, .int (nI m)), (1, .ref 229), (0, .ref 119)]) dX5_rulerBy_67 (by decide) rfl ?_
        refine Sx.iload dX5_rulerBy_69 rfl ?_
        refine Sx.iload dX5_rulerBy_71 rfl ?_
        refine Sx.icmp_geV (t := 92) dX5_rulerBy_73 (by decide) (vN (by omega)) (vN (by omega)) (fun c73 => ?_) (fun c73 => ?_)
        · refine Sx.iinc (v := (nI (i + 1))) (lv' := [(6, .int (nI (i + 1))), (7, .int (nI (ltO V (V 3 145 + i)))), (5, .int (nI ls)), (4, .int (iI ((am : Int) - 1))), (3, .int (nI n)), (2, .int (nI m)), (1, .ref 229), (0, .ref 119)]) dX5_rulerBy_92 rfl (nI_add i 1) (by decide) rfl ?_
          refine Sx.goto (t := 31) dX5_rulerBy_95 (by decide) ?_
          refine Sx.sub' (lv' := [(6, .int (nI (i + 1))), (5, .int (nI (ls))), (4, .int (iI (((am : Nat) : Int) - 1))), (3, .int (nI n)), (2, .int (nI m)), (1, .ref 229), (0, .ref 119)]) rfl ?_
          have hE : (exF (ltO V) (ltH V) n (V 3 145) (fun d => V 3 (18 + d)) m) (V 3 145 + i) = ltO V (V 3 145 + i) := by rw [exF_at _ _ _ _ _ (by omega)]; exact if_neg (by simp_all)
          have hh := (rb_s ham hls hE (by omega)).2 (by omega)
          exact ih (r - 1) (by omega) (i + 1) (am) (ls) (by omega) hh.1 hh.2
        · refine Sx.iload dX5_rulerBy_76 rfl ?_
          refine Sx.istore (lv' := [(5, .int (nI (ltO V (V 3 145 + i)))), (7, .int (nI (ltO V (V 3 145 + i)))), (6, .int (nI i)), (4, .int (iI ((am : Int) - 1))), (3, .int (nI n)), (2, .int (nI m)), (1, .ref 229), (0, .ref 119)]) dX5_rulerBy_78 (by decide) rfl ?_
          refine Sx.aload_n dX5_rulerBy_80 rfl ?_
          refine Sx.sipush (v := (nI 145)) dX5_rulerBy_81 (by decide) ?_
          refine Sx.callU1 dX5_rulerBy_84 lku_X5_78 (rcv_8 (o_229 W)) (by decide) (by decide) (Nat.le_of_ble_eq_true rfl) rfl rfl (c_sg (w_229r W) C.2.2.1 (145) rfl (by omega) (by omega) ?_)
          refine Sx.iload dX5_rulerBy_87 rfl ?_
          refine Sx.iaddN dX5_rulerBy_89 ?_
          refine Sx.istore (lv' := [(4, .int (nI ((V 3 145) + i))), (5, .int (nI (ltO V (V 3 145 + i)))), (7, .int (nI (ltO V (V 3 145 + i)))), (6, .int (nI i)), (3, .int (nI n)), (2, .int (nI m)), (1, .ref 229), (0, .ref 119)]) dX5_rulerBy_90 (by decide) rfl ?_
          refine Sx.iinc (v := (nI (i + 1))) (lv' := [(6, .int (nI (i + 1))), (4, .int (nI ((V 3 145) + i))), (5, .int (nI (ltO V (V 3 145 + i)))), (7, .int (nI (ltO V (V 3 145 + i)))), (3, .int (nI n)), (2, .int (nI m)), (1, .ref 229), (0, .ref 119)]) dX5_rulerBy_92 rfl (nI_add i 1) (by decide) rfl ?_
          refine Sx.goto (t := 31) dX5_rulerBy_95 (by decide) ?_
          refine Sx.sub' (lv' := [(6, .int (nI (i + 1))), (5, .int (nI (ltO V (V 3 145 + i)))), (4, .int (iI (((V 3 145 + i + 1 : Nat) : Int) - 1))), (3, .int (nI n)), (2, .int (nI m)), (1, .ref 229), (0, .ref 119)]) (by rw [show iI (((V 3 145 + i + 1 : Nat) : Int) - 1) = nI (V 3 145 + i) by rw [nI_iI]; congr 1; omega]; rfl) ?_
          have hE : (exF (ltO V) (ltH V) n (V 3 145) (fun d => V 3 (18 + d)) m) (V 3 145 + i) = ltO V (V 3 145 + i) := by rw [exF_at _ _ _ _ _ (by omega)]; exact if_neg (by simp_all)
          have hh := (rb_s ham hls hE (by omega)).1 (by omega)
          exact ih (r - 1) (by omega) (i + 1) (V 3 145 + i + 1) (ltO V (V 3 145 + i)) (by omega) hh.1 hh.2
      · refine Sx.aload_n dX5_rulerBy_46 rfl ?_
        refine Sx.getfR dX5_rulerBy_47 lkf_X5_27_5 (o_119 W) (r_119_4 W) ?_
        refine Sx.iload dX5_rulerBy_50 rfl ?_
        refine Sx.callV1 dX5_rulerBy_52 lkv_X5_93 (rcv_7 (o_124 W)) (by decide) (by decide) (Nat.le_of_ble_eq_true rfl) rfl rfl (d_rget (w_124r W) (by unfold rowC; decide) (by decide) (k := i) (v := nI (ltH V (V 3 145 + i))) (by omega) (hl i (by omega)).2 ?_)
        refine Sx.goto (t := 67) dX5_rulerBy_55 (by decide) ?_
        refine Sx.istore (lv' := [(7, .int (nI (ltH V (V 3 145 + i)))), (6, .int (nI i)), (5, .int (nI ls)), (4, .int (iI ((am : Int) - 1))), (3, .int (nI n)), (2, .int (nI m)), (1, .ref 229), (0, .ref 119)]) dX5_rulerBy_67 (by decide) rfl ?_
        refine Sx.iload dX5_rulerBy_69 rfl ?_
        refine Sx.iload dX5_rulerBy_71 rfl ?_
        refine Sx.icmp_geV (t := 92) dX5_rulerBy_73 (by decide) (vN (by omega)) (vN (by omega)) (fun c73 => ?_) (fun c73 => ?_)
        · refine Sx.iinc (v := (nI (i + 1))) (lv' := [(6, .int (nI (i + 1))), (7, .int (nI (ltH V (V 3 145 + i)))), (5, .int (nI ls)), (4, .int (iI ((am : Int) - 1))), (3, .int (nI n)), (2, .int (nI m)), (1, .ref 229), (0, .ref 119)]) dX5_rulerBy_92 rfl (nI_add i 1) (by decide) rfl ?_
          refine Sx.goto (t := 31) dX5_rulerBy_95 (by decide) ?_
          refine Sx.sub' (lv' := [(6, .int (nI (i + 1))), (5, .int (nI (ls))), (4, .int (iI (((am : Nat) : Int) - 1))), (3, .int (nI n)), (2, .int (nI m)), (1, .ref 229), (0, .ref 119)]) rfl ?_
          have hE : (exF (ltO V) (ltH V) n (V 3 145) (fun d => V 3 (18 + d)) m) (V 3 145 + i) = ltH V (V 3 145 + i) := by rw [exF_at _ _ _ _ _ (by omega)]; exact if_pos (by simp_all)
          have hh := (rb_s ham hls hE (by omega)).2 (by omega)
          exact ih (r - 1) (by omega) (i + 1) (am) (ls) (by omega) hh.1 hh.2
        · refine Sx.iload dX5_rulerBy_76 rfl ?_
          refine Sx.istore (lv' := [(5, .int (nI (ltH V (V 3 145 + i)))), (7, .int (nI (ltH V (V 3 145 + i)))), (6, .int (nI i)), (4, .int (iI ((am : Int) - 1))), (3, .int (nI n)), (2, .int (nI m)), (1, .ref 229), (0, .ref 119)]) dX5_rulerBy_78 (by decide) rfl ?_
          refine Sx.aload_n dX5_rulerBy_80 rfl ?_
          refine Sx.sipush (v := (nI 145)) dX5_rulerBy_81 (by decide) ?_
          refine Sx.callU1 dX5_rulerBy_84 lku_X5_78 (rcv_8 (o_229 W)) (by decide) (by decide) (Nat.le_of_ble_eq_true rfl) rfl rfl (c_sg (w_229r W) C.2.2.1 (145) rfl (by omega) (by omega) ?_)
          refine Sx.iload dX5_rulerBy_87 rfl ?_
          refine Sx.iaddN dX5_rulerBy_89 ?_
          refine Sx.istore (lv' := [(4, .int (nI ((V 3 145) + i))), (5, .int (nI (ltH V (V 3 145 + i)))), (7, .int (nI (ltH V (V 3 145 + i)))), (6, .int (nI i)), (3, .int (nI n)), (2, .int (nI m)), (1, .ref 229), (0, .ref 119)]) dX5_rulerBy_90 (by decide) rfl ?_
          refine Sx.iinc (v := (nI (i + 1))) (lv' := [(6, .int (nI (i + 1))), (4, .int (nI ((V 3 145) + i))), (5, .int (nI (ltH V (V 3 145 + i)))), (7, .int (nI (ltH V (V 3 145 + i)))), (3, .int (nI n)), (2, .int (nI m)), (1, .ref 229), (0, .ref 119)]) dX5_rulerBy_92 rfl (nI_add i 1) (by decide) rfl ?_
          refine Sx.goto (t := 31) dX5_rulerBy_95 (by decide) ?_
          refine Sx.sub' (lv' := [(6, .int (nI (i + 1))), (5, .int (nI (ltH V (V 3 145 + i)))), (4, .int (iI (((V 3 145 + i + 1 : Nat) : Int) - 1))), (3, .int (nI n)), (2, .int (nI m)), (1, .ref 229), (0, .ref 119)]) (by rw [show iI (((V 3 145 + i + 1 : Nat) : Int) - 1) = nI (V 3 145 + i) by rw [nI_iI]; congr 1; omega]; rfl) ?_
          have hE : (exF (ltO V) (ltH V) n (V 3 145) (fun d => V 3 (18 + d)) m) (V 3 145 + i) = ltH V (V 3 145 + i) := by rw [exF_at _ _ _ _ _ (by omega)]; exact if_pos (by simp_all)
          have hh := (rb_s ham hls hE (by omega)).1 (by omega)
          exact ih (r - 1) (by omega) (i + 1) (V 3 145 + i + 1) (ltH V (V 3 145 + i)) (by omega) hh.1 hh.2
theorem ex_99 {V : Vt} (hH : HV V) {m n : Nat} (hn : V 3 145 + n = V 2 0) {d : Nat} (hd : d < V 2 0) : (exF (ltO V) (ltH V) n (V 3 145) (fun d => V 3 (18 + d)) m) d ≤ 99 := by
  by_cases c : d < V 3 145
  · rw [exF_lt _ _ _ _ _ c]; exact hH.2.2.2.2.1.2.2.2.1 d (by have := hH.2.2.2.1.2.1; omega)
  · rw [show d = V 3 145 + (d - V 3 145) by omega, exF_at _ _ _ _ _ (by omega)]
    split
    · exact litN_le _ _ _ _ _ _
    · exact litN_le _ _ _ _ _ _
set_option maxRecDepth 20000 in
set_option maxHeartbeats 1000000 in
theorem d_rulerBy {G : Gt} {l : Launch} {Z : Zt} {R : Rt} {I : It} {L : Lt} {post : Pt'} {V : Vt} {m n : Nat} (W : WF Z R) (C : CI V R I L) (hH : HV V) (hm : m < 256) (hn : V 3 145 + n = V 2 0) (h8 : n ≤ 8) (hl : ∀ i, i < n → I 123 i = nI (ltO V (V 3 145 + i)) ∧ I 125 i = nI (ltH V (V 3 145 + i))) (h : post (some (.int (iI ((amn (exF (ltO V) (ltH V) n (V 3 145) (fun d => V 3 (18 + d)) m) (V 2 0) : Int) - 1)))) Z R I L) : Cx G l mX5_rulerBy 3 0 0 [.ref 119, .ref 229, .int (nI m), .int (nI n)] Z R I L post := by
  refine Cx.of (by decide +kernel) (by exact Nat.le_of_ble_eq_true rfl) ?_
  obtain ⟨p1, p2, p3, p4, p5, p6, p7, p8, p9⟩ := id hH.2.2.2.1
  have hd9 := hH.2.2.2.2.1.2.2.2.2.2.2.2.2.2.2.2.2.2.1
  obtain ⟨dk, hdk⟩ : ∃ p, p = dkN (V 3) (V 3 145) := ⟨_, rfl⟩
  have hdl := dkN_le (V 3) (V 3 145)
  have hdp := dkN_pos (V 3) (V 3 145)
  have hda : dk = amn (exF (ltO V) (ltH V) n (V 3 145) (fun d => V 3 (18 + d)) m) (V 3 145 + 0) := by
    rw [hdk, dkN_amn]
    exact amn_congr _ (fun d hd => (exF_lt n (V 3 145) (fun d => V 3 (18 + d)) m d hd).symm)
  refine Sx.aload_n dX5_rulerBy_0 rfl ?_
  refine Sx.callV0 dX5_rulerBy_1 lkv_X5_165 (rcv_8 (o_229 W)) (by decide) (by decide) (Nat.le_of_ble_eq_true rfl) rfl rfl (d_dark (w_229r W) C.2.2.1 (fun j hj => by have := hH.2.2.2.2.1.lt j hj; have := sbB_le (V 2) (j := j) (by omega) (by omega); omega) (by omega) hdk ?_)
  refine Sx.istore (lv' := [(4, .int (iI ((dk : Int) - 1))), (0, .ref 119), (1, .ref 229), (2, .int (nI m)), (3, .int (nI n))]) dX5_rulerBy_4 (by decide) rfl ?_
  refine Sx.iload dX5_rulerBy_6 rfl ?_
  refine Sx.iconst (v := (iI (-1))) dX5_rulerBy_8 (by decide) ?_
  refine Sx.icmp_neV (t := 17) dX5_rulerBy_9 (by decide) (vZ (by omega)) (vZ (by decide)) (fun c9 => ?_) (fun c9 => ?_)
  · have hls9 := hH.2.2.2.2.1.2.2.2.1 (dk - 1) (by omega)
    refine Sx.sub' [(4, .int (nI (dk - 1))), (3, .int (nI n)), (2, .int (nI m)), (1, .ref 229), (0, .ref 119)] (by rw [show iI ((dk : Int) - 1) = nI (dk - 1) by rw [nI_iI]; congr 1; omega]; rfl) ?_
    refine Sx.aload_n dX5_rulerBy_17 rfl ?_
    refine Sx.bipush (v := (nI 18)) dX5_rulerBy_18 (by decide) ?_
    refine Sx.iload dX5_rulerBy_20 rfl ?_
    refine Sx.iaddN dX5_rulerBy_22 ?_
    refine Sx.callU1 dX5_rulerBy_23 lku_X5_78 (rcv_8 (o_229 W)) (by decide) (by decide) (Nat.le_of_ble_eq_true rfl) rfl rfl (c_sg (w_229r W) C.2.2.1 (18 + (dk - 1)) rfl (by omega) (by omega) ?_)
    refine Sx.istore (lv' := [(5, .int (nI (V 3 (18 + (dk - 1))))), (4, .int (nI (dk - 1))), (3, .int (nI n)), (2, .int (nI m)), (1, .ref 229), (0, .ref 119)]) dX5_rulerBy_26 (by decide) rfl ?_
    refine Sx.iconst (v := (nI 0)) dX5_rulerBy_28 (by decide) ?_
    refine Sx.istore (lv' := [(6, .int (nI 0)), (5, .int (nI (V 3 (18 + (dk - 1))))), (4, .int (nI (dk - 1))), (3, .int (nI n)), (2, .int (nI m)), (1, .ref 229), (0, .ref 119)]) dX5_rulerBy_29 (by decide) rfl ?_
    refine Sx.sub' (lv' := [(6, .int (nI 0)), (5, .int (nI (V 3 (18 + (dk - 1))))), (4, .int (iI ((dk : Int) - 1))), (3, .int (nI n)), (2, .int (nI m)), (1, .ref 229), (0, .ref 119)]) (by rw [show iI ((dk : Int) - 1) = nI (dk - 1) by rw [nI_iI]; congr 1; omega]; rfl) ?_
    exact l_crb W C hH hm hn h8 hl (fun d hd => ex_99 hH hn hd) h (n + 1) n (by omega) 0 dk (V 3 (18 + (dk - 1))) (by omega) hda (by rw [if_neg (by omega), exF_lt _ _ _ _ _ (by omega)])
  · refine Sx.bipush (v := (nI 100)) dX5_rulerBy_12 (by decide) ?_
    refine Sx.goto (t := 26) dX5_rulerBy_14 (by decide) ?_
    refine Sx.istore (lv' := [(5, .int (nI 100)), (4, .int (iI ((dk : Int) - 1))), (0, .ref 119), (1, .ref 229), (2, .int (nI m)), (3, .int (nI n))]) dX5_rulerBy_26 (by decide) rfl ?_
    refine Sx.iconst (v := (nI 0)) dX5_rulerBy_28 (by decide) ?_
    refine Sx.istore (lv' := [(6, .int (nI 0)), (5, .int (nI 100)), (4, .int (iI ((dk : Int) - 1))), (0, .ref 119), (1, .ref 229), (2, .int (nI m)), (3, .int (nI n))]) dX5_rulerBy_29 (by decide) rfl ?_
    refine Sx.sub' (lv' := [(6, .int (nI 0)), (5, .int (nI (100))), (4, .int (iI ((dk : Int) - 1))), (3, .int (nI n)), (2, .int (nI m)), (1, .ref 229), (0, .ref 119)]) rfl ?_
    exact l_crb W C hH hm hn h8 hl (fun d hd => ex_99 hH hn hd) h (n + 1) n (by omega) 0 dk (100) (by omega) hda (by rw [if_pos (by omega)])
