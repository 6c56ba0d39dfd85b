/-! the class: the reader of laws: what waits is handed on -/
def LX (I : It) (s : Lm) : Prop := LR I (upn s.2.1 1 s.1.length) (fun j => s.1.reverse.getD j 0)
def LK (I : It) (a : Nat) (k : List Int32) : Prop := I a 1 = nI k.length ∧ ∀ j, j < k.length → I (a + 1) j = k.getD j 0
theorem LR.cg {I : It} {M M' S S' : Nat → Nat} (h : LR I M S) (hM : ∀ j, 1 ≤ j → j ≤ 8 → M j = M' j) (hS : ∀ j, j < M 1 → S j = S' j) : LR I M' S' := by
  have h1 := hM 1 (by decide) (by decide)
  refine ⟨fun j a b => by rw [← hM j a b]; exact h.1 j a b, fun j hj => ?_, ?_⟩
  · rw [← h1] at hj
    rw [← hS j hj]; exact h.2.1 j hj
  · rw [← h1]; exact h.2.2
theorem LK.o {I I' : It} {a : Nat} {k : List Int32} (h : LK I a k) (e1 : I' a = I a) (e2 : I' (a + 1) = I (a + 1)) : LK I' a k := ⟨by rw [e1]; exact h.1, fun j hj => by rw [e2]; exact h.2 j hj⟩
theorem d_addK {G : Gt} {l : Launch} {Z : Zt} {R : Rt} {I : It} {L : Lt} {post : Pt'} {a : Nat} {k : List Int32} {v : Int32} (hr : rwo Z R a 3 240) (hk : LK I a k) (hl : k.length < 240) (h : ∀ I', LK I' a (k ++ [v]) → (∀ q, q ≠ a → q ≠ a + 1 → I' q = I q) → post none Z R I' L) : Cx G l mX3_add 2 0 0 [.ref a, .int v] Z R I L post :=
  c_X3_add hr hk.1 hl (fun I' e1 e2 o => h I' ⟨by rw [e2, List.length_append]; rfl, fun j hj => by
    rw [List.length_append] at hj
    have hj' : j < k.length + 1 := hj
    rw [e1]
    by_cases c : j = k.length
    · rw [c, upd_at]; simp
    · rw [upd_nj _ _ c, hk.2 j (by omega)]
      simp only [List.getD_eq_getElem?_getD]
      rw [List.getElem?_append_left (by omega)]⟩ o)
theorem stI_K : ∀ x, x < 256 → stI (nI x) = stK x := by decide +kernel
theorem d_strN {G : Gt} {l : Launch} {Z : Zt} {R : Rt} {I : It} {L : Lt} {post : Pt'} {x : Nat} (hx : x < 256) (h : post (some (.int (nI (stK x)))) Z R I L) : Cx G l mX4_strengthOf 1 0 0 [.int (nI x)] Z R I L post := d_stren (by rw [stI_K x hx]; exact h)
theorem d_wget {G : Gt} {l : Launch} {Z : Zt} {R : Rt} {I : It} {L : Lt} {post : Pt'} {j x : Nat} (W : WF Z R) (hj : j < 64) (hv : I 109 j = nI x) (h : post (some (.int (nI x))) Z R I L) : Cx G l mX7_get 1 0 0 [.ref 108, .int (nI j)] Z R I L post :=
  c_get (w_108r W) (by unfold rowC; decide) (by decide) j rfl hj (by rw [hv]; exact h)
theorem negS_iI (x : Nat) : iI (-(x : Int)) = negS x := by unfold negS; rw [nI_iI, iI_neg]
set_option maxRecDepth 20000 in
set_option maxHeartbeats 1000000 in
theorem l_rel1 {G : Gt} {l : Launch} {Z : Zt} {R : Rt} {L : Lt} {post : Pt'} {I : It} {M S : Nat → Nat} {a ww st x : Nat} {k : List Int32} (W : WF Z R) (hL : LR I M S) (hr : rwo Z R a 3 240) (ha : 233 ≤ a) (hst : st < 100) (h3 : M 3 < 1000) (hw : M 1 = ww + 1) (hx : S ww = x) (hx2 : x < 256) (hs : st ≤ stK x) (hk : LK I a k) (hkl : k.length < 240) (hn : x = 33 → 1 ≤ M 3) (h : ∀ I', LR I' (upn (upn M 1 ww) 3 (M 3 - n33 x)) S → LK I' a (k ++ [negS x]) → (∀ q, q ≠ 107 → q ≠ a → q ≠ a + 1 → I' q = I q) → Sx G l mX4_release 3 0 0 0 [(0, .ref 107), (1, .int (nI st)), (2, .ref a)] [] Z R I' L post) : Sx G l mX4_release 3 0 0 0 [(0, .ref 107), (1, .int (nI st)), (2, .ref a)] [] Z R I L post := by
  have h64 := hL.2.2
  have hsx := stK_le x
  refine Sx.aload_n dX4_release_0 rfl ?_
  refine Sx.getfV (v := (nI (ww + 1))) dX4_release_1 lkf_X4_20_4 (o_107 W) (by rw [← hw]; exact hL.1 1 (by decide) (by decide)) ?_
  refine Sx.if_leV (t := 86) dX4_release_4 (by decide) (vN (by omega)) (fun c4 => False.elim (by omega)) (fun c4 => ?_)
  refine Sx.aload_n dX4_release_7 rfl ?_
  refine Sx.getfR dX4_release_8 lkf_X4_16_4 (o_107 W) (r_107_0 W) ?_
  refine Sx.aload_n dX4_release_11 rfl ?_
  refine Sx.getfV (v := (nI (ww + 1))) dX4_release_12 lkf_X4_20_4 (o_107 W) (by rw [← hw]; exact hL.1 1 (by decide) (by decide)) ?_
  refine Sx.iconst (v := (nI 1)) dX4_release_15 (by decide) ?_
  refine Sx.isubN dX4_release_16 (by omega) ?_
  refine Sx.callV1 dX4_release_17 lkv_X4_134 (rcv_7 (o_108 W)) (by decide) (by decide) (Nat.le_of_ble_eq_true rfl) rfl rfl (d_wget (x := x) W (by omega) (by rw [← hx]; exact hL.2.1 ww (by omega)) ?_)
  refine Sx.callS1 dX4_release_20 lkc_X4_114  (by decide) (by decide) (Nat.le_of_ble_eq_true rfl) rfl rfl (d_strN hx2 ?_)
  refine Sx.iload_n dX4_release_23 rfl ?_
  refine Sx.icmp_ltV (t := 86) dX4_release_24 (by decide) (vN (by omega)) (vN (by omega)) (fun c24 => False.elim (by omega)) (fun c24 => ?_)
  refine Sx.aload_n dX4_release_27 rfl ?_
  refine Sx.dup dX4_release_28 rfl ?_
  refine Sx.getfV (v := (nI (ww + 1))) dX4_release_29 lkf_X4_20_4 (o_107 W) (by rw [← hw]; exact hL.1 1 (by decide) (by decide)) ?_
  refine Sx.iconst (v := (nI 1)) dX4_release_32 (by decide) ?_
  refine Sx.isubN dX4_release_33 (by omega) ?_
  refine Sx.putfV dX4_release_34 lkp_X4_20_4 (o_107 W) rfl rfl (fun I1 e1 o1 => ?_)
  refine Sx.aload_n dX4_release_37 rfl ?_
  refine Sx.aload_n dX4_release_38 rfl ?_
  refine Sx.getfR dX4_release_39 lkf_X4_16_4 (o_107 W) (r_107_0 W) ?_
  refine Sx.aload_n dX4_release_42 rfl ?_
  refine Sx.getfV (v := (nI ww)) dX4_release_43 lkf_X4_20_4 (o_107 W) (by rw [e1, upd_at, Nat.add_sub_cancel]) ?_
  refine Sx.callV1 dX4_release_46 lkv_X4_134 (rcv_7 (o_108 W)) (by decide) (by decide) (Nat.le_of_ble_eq_true rfl) rfl rfl (d_wget (x := x) W (by omega) (by rw [o1 109 (by decide), ← hx]; exact hL.2.1 ww (by omega)) ?_)
  refine Sx.inegV dX4_release_49 (vN (by omega)) ?_
  refine Sx.callV1 dX4_release_50 lkv_X4_103 (rcv_3 hr.1) (by decide) (by decide) (Nat.le_of_ble_eq_true rfl) rfl rfl (d_addK (k := k) hr (hk.o (o1 a (by omega)) (o1 (a + 1) (by omega))) hkl (fun I2 k2 o2 => ?_))
  refine Sx.aload_n dX4_release_53 rfl ?_
  refine Sx.dup dX4_release_54 rfl ?_
  refine Sx.getfV (v := (nI (M 3))) dX4_release_55 lkf_X4_27_4 (o_107 W) (by rw [o2 107 (by omega) (by omega), e1, upd_nj _ _ (by decide)]; exact hL.1 3 (by decide) (by decide)) ?_
  refine Sx.aload_n dX4_release_58 rfl ?_
  refine Sx.getfR dX4_release_59 lkf_X4_16_4 (o_107 W) (r_107_0 W) ?_
  refine Sx.aload_n dX4_release_62 rfl ?_
  refine Sx.getfV (v := (nI ww)) dX4_release_63 lkf_X4_20_4 (o_107 W) (by rw [o2 107 (by omega) (by omega), e1, upd_at, Nat.add_sub_cancel]) ?_
  refine Sx.callV1 dX4_release_66 lkv_X4_134 (rcv_7 (o_108 W)) (by decide) (by decide) (Nat.le_of_ble_eq_true rfl) rfl rfl (d_wget (x := x) W (by omega) (by rw [o2 109 (by omega) (by omega), o1 109 (by decide), ← hx]; exact hL.2.1 ww (by omega)) ?_)
  refine Sx.bipush (v := (nI 33)) dX4_release_69 (by decide) ?_
  refine Sx.icmp_neV (t := 78) dX4_release_71 (by decide) (vN (by omega)) (vN (by decide)) (fun c71 => ?_) (fun c71 => ?_)
  · refine Sx.iconst (v := (nI 0)) dX4_release_78 (by decide) ?_
    refine Sx.isubN dX4_release_79 (by omega) ?_
    refine Sx.putfV dX4_release_80 lkp_X4_27_4 (o_107 W) rfl rfl (fun I3 e3 o3 => ?_)
    refine Sx.goto (t := 0) dX4_release_83 (by decide) ?_
    have h64 := hL.2.2
    have hsx := stK_le x
    refine h I3 ?_ ?_ (fun q q1 q2 q3 => by rw [o3 q q1, o2 q q2 q3, o1 q q1])
    · have h1 : LR I1 (upn M 1 ww) S := hL.w1 (by omega) (by rw [e1, Nat.add_sub_cancel]) o1
      have h2 : LR I2 (upn M 1 ww) S := h1.o fun q hq => o2 q (by omega) (by omega)
      exact h2.up (by decide) (by rw [e3]; exact congrArg (fun y => upd (I2 107) 3 (nI y)) (by unfold n33; split <;> omega)) o3
    · rw [negS_iI] at k2
      exact k2.o (o3 a (by omega)) (o3 (a + 1) (by omega))
  · refine Sx.iconst (v := (nI 1)) dX4_release_74 (by decide) ?_
    refine Sx.goto (t := 79) dX4_release_75 (by decide) ?_
    refine Sx.isubN dX4_release_79 (by omega) ?_
    refine Sx.putfV dX4_release_80 lkp_X4_27_4 (o_107 W) rfl rfl (fun I4 e4 o4 => ?_)
    refine Sx.goto (t := 0) dX4_release_83 (by decide) ?_
    have h64 := hL.2.2
    have hsx := stK_le x
    refine h I4 ?_ ?_ (fun q q1 q2 q3 => by rw [o4 q q1, o2 q q2 q3, o1 q q1])
    · have h1 : LR I1 (upn M 1 ww) S := hL.w1 (by omega) (by rw [e1, Nat.add_sub_cancel]) o1
      have h2 : LR I2 (upn M 1 ww) S := h1.o fun q hq => o2 q (by omega) (by omega)
      exact h2.up (by decide) (by rw [e4]; exact congrArg (fun y => upd (I2 107) 3 (nI y)) (by unfold n33; split <;> omega)) o4
    · rw [negS_iI] at k2
      exact k2.o (o4 a (by omega)) (o4 (a + 1) (by omega))
set_option maxRecDepth 20000 in
set_option maxHeartbeats 1000000 in
theorem l_rel2 {G : Gt} {l : Launch} {Z : Zt} {R : Rt} {L : Lt} {post : Pt'} {I : It} {M S : Nat → Nat} {a ww st x : Nat} (W : WF Z R) (hL : LR I M S) (hr : rwo Z R a 3 240) (ha : 233 ≤ a) (hst : st < 100) (h3 : M 3 < 1000) (hw : M 1 = ww + 1) (hx : S ww = x) (hx2 : x < 256) (hs : stK x < st) (h : post none Z R I L) : Sx G l mX4_release 3 0 0 0 [(0, .ref 107), (1, .int (nI st)), (2, .ref a)] [] Z R I L post := by
  have h64 := hL.2.2
  have hsx := stK_le x
  refine Sx.aload_n dX4_release_0 rfl ?_
  refine Sx.getfV (v := (nI (ww + 1))) dX4_release_1 lkf_X4_20_4 (o_107 W) (by rw [← hw]; exact hL.1 1 (by decide) (by decide)) ?_
  refine Sx.if_leV (t := 86) dX4_release_4 (by decide) (vN (by omega)) (fun c4 => False.elim (by omega)) (fun c4 => ?_)
  refine Sx.aload_n dX4_release_7 rfl ?_
  refine Sx.getfR dX4_release_8 lkf_X4_16_4 (o_107 W) (r_107_0 W) ?_
  refine Sx.aload_n dX4_release_11 rfl ?_
  refine Sx.getfV (v := (nI (ww + 1))) dX4_release_12 lkf_X4_20_4 (o_107 W) (by rw [← hw]; exact hL.1 1 (by decide) (by decide)) ?_
  refine Sx.iconst (v := (nI 1)) dX4_release_15 (by decide) ?_
  refine Sx.isubN dX4_release_16 (by omega) ?_
  refine Sx.callV1 dX4_release_17 lkv_X4_134 (rcv_7 (o_108 W)) (by decide) (by decide) (Nat.le_of_ble_eq_true rfl) rfl rfl (d_wget (x := x) W (by omega) (by rw [← hx]; exact hL.2.1 ww (by omega)) ?_)
  refine Sx.callS1 dX4_release_20 lkc_X4_114  (by decide) (by decide) (Nat.le_of_ble_eq_true rfl) rfl rfl (d_strN hx2 ?_)
  refine Sx.iload_n dX4_release_23 rfl ?_
  refine Sx.icmp_ltV (t := 86) dX4_release_24 (by decide) (vN (by omega)) (vN (by omega)) (fun c24 => ?_) (fun c24 => False.elim (by omega))
  refine Sx.vret dX4_release_86 rfl ?_
  exact h
set_option maxRecDepth 20000 in
set_option maxHeartbeats 1000000 in
theorem l_rel0 {G : Gt} {l : Launch} {Z : Zt} {R : Rt} {L : Lt} {post : Pt'} {I : It} {M S : Nat → Nat} {a st : Nat} (W : WF Z R) (hL : LR I M S) (hr : rwo Z R a 3 240) (ha : 233 ≤ a) (hst : st < 100) (h3 : M 3 < 1000) (hw : M 1 = 0) (h : post none Z R I L) : Sx G l mX4_release 3 0 0 0 [(0, .ref 107), (1, .int (nI st)), (2, .ref a)] [] Z R I L post := by
  refine Sx.aload_n dX4_release_0 rfl ?_
  refine Sx.getfV (v := (nI 0)) dX4_release_1 lkf_X4_20_4 (o_107 W) (by rw [hL.1 1 (by decide) (by decide), hw]) ?_
  refine Sx.if_leV (t := 86) dX4_release_4 (by decide) (vN (by decide)) (fun c4 => ?_) (fun c4 => False.elim (by omega))
  refine Sx.vret dX4_release_86 rfl ?_
  exact h
theorem rev_at (x : Nat) (w : List Nat) : (x :: w).reverse.getD w.length 0 = x := by
  rw [List.reverse_cons, List.getD_eq_getElem?_getD, List.getElem?_append_right (by simp)]
  simp
theorem rev_lt {x j : Nat} {w : List Nat} (h : j < w.length) : (x :: w).reverse.getD j 0 = w.reverse.getD j 0 := by
  rw [List.reverse_cons, List.getD_eq_getElem?_getD, List.getElem?_append_left (by simpa using h), List.getD_eq_getElem?_getD]
theorem l_release {G : Gt} {l : Launch} {Z : Zt} {R : Rt} {L : Lt} {post : Pt'} {a st : Nat} (W : WF Z R) (hr : rwo Z R a 3 240) (ha : 233 ≤ a) (hst : st < 100) : ∀ (w : List Nat) (I : It) (M : Nat → Nat) (k : List Int32), LX I (w, M, k) → okw w → M 3 < 1000 → rlN st w ≤ M 3 → LK I a k → k.length + w.length ≤ 240 → (∀ I', LX I' (rlW st w, upn M 3 (M 3 - rlN st w), k ++ rlK st w) → LK I' a (k ++ rlK st w) → (∀ q, q ≠ 107 → q ≠ a → q ≠ a + 1 → I' q = I q) → post none Z R I' L) → Sx G l mX4_release 3 0 0 0 [(0, .ref 107), (1, .int (nI st)), (2, .ref a)] [] Z R I L post
  | [], I, M, k => fun hX _ h3 _ hk _ h => l_rel0 W hX hr ha hst h3 rfl (h I (by
      have hX' : LR I (upn M 1 0) (fun j => ([] : List Nat).reverse.getD j 0) := hX
      refine hX'.cg (fun j a b => ?_) (fun j hj => rfl)
      show upn M 1 0 j = upn (upn M 3 (M 3 - 0)) 1 0 j
      unfold upn
      by_cases c : j = 1
      · rw [if_pos c, if_pos c]
      · rw [if_neg c, if_neg c]; split
        · next q => rw [q]; rfl
        · rfl) (by
      show LK I a (k ++ [])
      rw [List.append_nil]; exact hk) (fun _ _ _ _ => rfl))
  | x :: w, I, M, k => fun hX hok h3 hn hk hkl h => by
    have hX' : LR I (upn M 1 (w.length + 1)) (fun j => (x :: w).reverse.getD j 0) := hX
    by_cases c : st ≤ stK x
    · have e1 : rlW st (x :: w) = rlW st w := by simp only [rlW]; rw [if_pos c]
      have e2 : rlK st (x :: w) = negS x :: rlK st w := by simp only [rlK]; rw [if_pos c]
      have e3 : rlN st (x :: w) = n33 x + rlN st w := by simp only [rlN]; rw [if_pos c]
      rw [e1, e2, e3] at h
      rw [e3] at hn
      refine l_rel1 (k := k) (x := x) (ww := w.length) W hX' hr ha hst h3 (upn_eq _ _ _) (rev_at x w) hok.2.1 c hk (by simp only [List.length_cons] at hkl; omega) (fun q => by show 1 ≤ M 3; rw [q] at hn; have : n33 33 = 1 := rfl; omega) (fun I1 l1 k1 o1 => ?_)
      refine l_release W hr ha hst w I1 (upn M 3 (M 3 - n33 x)) (k ++ [negS x]) ?_ hok.2.2 ?_ ?_ k1 ?_ (fun I2 x2 k2 o2 => ?_)
      · refine l1.cg (fun j a b => ?_) (fun j hj => ?_)
        · show upn (upn (upn M 1 (w.length + 1)) 1 w.length) 3 (M 3 - n33 x) j = upn (upn M 3 (M 3 - n33 x)) 1 w.length j
          unfold upn
          by_cases c1 : j = 1
          · rw [if_neg (by omega), if_pos c1, if_pos c1]
          · by_cases c3 : j = 3
            · rw [if_pos c3, if_neg c1, if_pos c3]
            · rw [if_neg c3, if_neg c1, if_neg c1, if_neg c1, if_neg c3]
        · exact rev_lt (by simpa [upn] using hj)
      · show M 3 - n33 x < 1000; omega
      · show rlN st w ≤ M 3 - n33 x; omega
      · rw [List.length_append]; simp only [List.length_cons, List.length_nil] at hkl ⊢; omega
      · have e4 : upn (upn M 3 (M 3 - n33 x)) 3 (upn M 3 (M 3 - n33 x) 3 - rlN st w) = upn M 3 (M 3 - (n33 x + rlN st w)) := by
          rw [upn_bb]; show upn M 3 (M 3 - n33 x - rlN st w) = _; rw [Nat.sub_sub]
        have e5 : k ++ [negS x] ++ rlK st w = k ++ negS x :: rlK st w := by rw [List.append_assoc]; rfl
        rw [e4, e5] at x2
        rw [e5] at k2
        exact h I2 x2 k2 (fun q q1 q2 q3 => by rw [o2 q q1 q2 q3, o1 q q1 q2 q3])
    · have e1 : rlW st (x :: w) = x :: w := by simp only [rlW]; rw [if_neg c]
      have e2 : rlK st (x :: w) = [] := by simp only [rlK]; rw [if_neg c]
      have e3 : rlN st (x :: w) = 0 := by simp only [rlN]; rw [if_neg c]
      rw [e1, e2, e3, List.append_nil] at h
      have e4 : upn M 3 (M 3 - 0) = M := by rw [Nat.sub_zero]; exact upn_self M 3
      rw [e4] at h
      exact l_rel2 (x := x) (ww := w.length) W hX' hr ha hst h3 (upn_eq _ _ _) (rev_at x w) hok.2.1 (by omega) (h I hX hk (fun _ _ _ _ => rfl))
theorem d_release {G : Gt} {l : Launch} {Z : Zt} {R : Rt} {L : Lt} {post : Pt'} {I : It} {a st : Nat} {s : Lm} (W : WF Z R) (hr : rwo Z R a 3 240) (ha : 233 ≤ a) (hst : st < 100) (hX : LX I s) (hok : okw s.1) (h3 : s.2.1 3 < 1000) (hn : rlN st s.1 ≤ s.2.1 3) (hk : LK I a s.2.2) (hkl : s.2.2.length + s.1.length ≤ 240) (h : ∀ I', LX I' (rlW st s.1, upn s.2.1 3 (s.2.1 3 - rlN st s.1), s.2.2 ++ rlK st s.1) → LK I' a (s.2.2 ++ rlK st s.1) → (∀ q, q ≠ 107 → q ≠ a → q ≠ a + 1 → I' q = I q) → post none Z R I' L) : Cx G l mX4_release 3 0 0 [.ref 107, .int (nI st), .ref a] Z R I L post := by
  refine Cx.of (by decide +kernel) (by exact Nat.le_of_ble_eq_true rfl) ?_
  exact l_release W hr ha hst s.1 I s.2.1 s.2.2 hX hok h3 hn hk hkl h
