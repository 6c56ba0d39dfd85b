/-! the class: the reader of laws: a step of the machine -/
set_option maxRecDepth 20000 in
set_option maxHeartbeats 1000000 in
theorem d_goOnP {G : Gt} {l : Launch} {Z : Zt} {R : Rt} {I : It} {L : Lt} {post : Pt'} {a x c : Nat} {s : Lm} (W : WF Z R) (hr : rwo Z R a 3 240) (ha : 233 ≤ a) (hX : LX I s) (hk : LK I a s.2.2) (hv : Iv s c) (hc : c ≤ 240) (hx2 : x < 256) (h : ∀ I', LX I' (lmR x s) → LK I' a (lmR x s).2.2 → (∀ q, q ≠ 107 → q ≠ a → q ≠ a + 1 → I' q = I q) → Sx G l mX4_goOnBehind 4 0 0 13 [(0, .ref 107), (1, .int (nI x)), (2, .ref a)] [] Z R I' L post) : Cx G l mX4_goOnBehind 4 0 0 [.ref 107, .int (nI x), .ref a] Z R I L post := by
  refine Cx.of (by decide +kernel) (by exact Nat.le_of_ble_eq_true rfl) ?_
  have hk6 := stK_le x
  have hrl := (rl_iv (max 1 (stK x)) s.1 hv.1).2.2.1
  have h3 := hv.2.2.1
  have h36 := hv.2.2.2.1
  have hl := hv.2.2.2.2.2.2
  refine Sx.aload_n dX4_goOnBehind_0 rfl ?_
  refine Sx.iconst (v := (nI 1)) dX4_goOnBehind_1 (by decide) ?_
  refine Sx.iload_n dX4_goOnBehind_2 rfl ?_
  refine Sx.callS1 dX4_goOnBehind_3 lkc_X4_114  (by decide) (by decide) (Nat.le_of_ble_eq_true rfl) rfl rfl (d_strN hx2 ?_)
  refine Sx.mmax dX4_goOnBehind_6 lkm_X4_118 (by decide) (Nat.le_of_ble_eq_true rfl) ?_
  refine Sx.top (n_max (by decide) (by omega)) ?_
  refine Sx.aload_n dX4_goOnBehind_9 rfl ?_
  refine Sx.callV2 dX4_goOnBehind_10 lkv_X4_124 (rcv_4 (o_107 W)) (by decide) (by decide) (Nat.le_of_ble_eq_true rfl) rfl rfl (d_release W hr ha (by omega) hX hv.1 (by omega) (by omega) hk (by omega) (fun I1 x1 k1 o1 => ?_))
  exact h I1 x1 k1 o1
theorem d_goOn43 {G : Gt} {l : Launch} {Z : Zt} {R : Rt} {I : It} {L : Lt} {post : Pt'} {a c : Nat} {s : Lm} (W : WF Z R) (hr : rwo Z R a 3 240) (ha : 233 ≤ a) (hX : LX I s) (hk : LK I a s.2.2) (hv : Iv s c) (hc : c ≤ 240) (hf : lmFit s.2.1 43) (hp4 : 4 ≤ s.2.1 2) (h : ∀ I', LX I' (lmGo 43 s) → LK I' a (lmGo 43 s).2.2 → (∀ q, q ≠ 107 → q ≠ 109 → q ≠ a → q ≠ a + 1 → I' q = I q) → post none Z R I' L) : Cx G l mX4_goOnBehind 4 0 0 [.ref 107, .int (nI 43), .ref a] Z R I L post := by
  obtain ⟨r1, r2, r3, r4, r5, r6, r7⟩ := Iv_R (x := 43) hv
  have hle := hv.2.2.2.2.2.2
  rw [if_neg (show ¬ s.2.1 2 = 0 by omega)] at hle
  have hlen := hv.len
  have hl2 := okw_len _ r1
  have hl3 := tsW_le (lmR 43 s).1
  refine d_goOnP W hr ha hX hk hv hc (by decide) (fun I1 x1 k1 o1 => ?_)
  have u4 : (lmR 43 s).2.1 4 = s.2.1 4 := rfl
  have u5 : (lmR 43 s).2.1 5 = s.2.1 5 := rfl
  refine l_go43 W hr ha x1 k1 (show (lmR 43 s).1.length < 64 by omega) (fun I2 x2 k2 o2 => ?_)
  rw [lmGo_ar (by decide)] at h
  refine h I2 ?_ k2 (fun q q1 q2 q3 q4 => by rw [o2 q q1 q2 q3 q4, o1 q q1 q3 q4])
  refine cg8 x2 rfl rfl rfl rfl rfl rfl rfl rfl (fun j hj => ?_)
  have hj' : j < (lmR 43 s).1.length + 1 := hj
  show upn (fun j => (lmR 43 s).1.reverse.getD j 0) (lmR 43 s).1.length 43 j = (43 :: (lmR 43 s).1).reverse.getD j 0
  by_cases q : j = (lmR 43 s).1.length
  · rw [q, upn_eq, rev_at]
  · rw [upn_ne _ _ q, rev_lt (by omega)]
theorem d_goOn45 {G : Gt} {l : Launch} {Z : Zt} {R : Rt} {I : It} {L : Lt} {post : Pt'} {a c : Nat} {s : Lm} (W : WF Z R) (hr : rwo Z R a 3 240) (ha : 233 ≤ a) (hX : LX I s) (hk : LK I a s.2.2) (hv : Iv s c) (hc : c ≤ 240) (hf : lmFit s.2.1 45) (hp4 : 4 ≤ s.2.1 2) (h : ∀ I', LX I' (lmGo 45 s) → LK I' a (lmGo 45 s).2.2 → (∀ q, q ≠ 107 → q ≠ 109 → q ≠ a → q ≠ a + 1 → I' q = I q) → post none Z R I' L) : Cx G l mX4_goOnBehind 4 0 0 [.ref 107, .int (nI 45), .ref a] Z R I L post := by
  obtain ⟨r1, r2, r3, r4, r5, r6, r7⟩ := Iv_R (x := 45) hv
  have hle := hv.2.2.2.2.2.2
  rw [if_neg (show ¬ s.2.1 2 = 0 by omega)] at hle
  have hlen := hv.len
  have hl2 := okw_len _ r1
  have hl3 := tsW_le (lmR 45 s).1
  refine d_goOnP W hr ha hX hk hv hc (by decide) (fun I1 x1 k1 o1 => ?_)
  have u4 : (lmR 45 s).2.1 4 = s.2.1 4 := rfl
  have u5 : (lmR 45 s).2.1 5 = s.2.1 5 := rfl
  refine l_go45 W hr ha x1 k1 (show (lmR 45 s).1.length < 64 by omega) (fun I2 x2 k2 o2 => ?_)
  rw [lmGo_ar (by decide)] at h
  refine h I2 ?_ k2 (fun q q1 q2 q3 q4 => by rw [o2 q q1 q2 q3 q4, o1 q q1 q3 q4])
  refine cg8 x2 rfl rfl rfl rfl rfl rfl rfl rfl (fun j hj => ?_)
  have hj' : j < (lmR 45 s).1.length + 1 := hj
  show upn (fun j => (lmR 45 s).1.reverse.getD j 0) (lmR 45 s).1.length 45 j = (45 :: (lmR 45 s).1).reverse.getD j 0
  by_cases q : j = (lmR 45 s).1.length
  · rw [q, upn_eq, rev_at]
  · rw [upn_ne _ _ q, rev_lt (by omega)]
theorem d_goOn42 {G : Gt} {l : Launch} {Z : Zt} {R : Rt} {I : It} {L : Lt} {post : Pt'} {a c : Nat} {s : Lm} (W : WF Z R) (hr : rwo Z R a 3 240) (ha : 233 ≤ a) (hX : LX I s) (hk : LK I a s.2.2) (hv : Iv s c) (hc : c ≤ 240) (hf : lmFit s.2.1 42) (hp4 : 4 ≤ s.2.1 2) (h : ∀ I', LX I' (lmGo 42 s) → LK I' a (lmGo 42 s).2.2 → (∀ q, q ≠ 107 → q ≠ 109 → q ≠ a → q ≠ a + 1 → I' q = I q) → post none Z R I' L) : Cx G l mX4_goOnBehind 4 0 0 [.ref 107, .int (nI 42), .ref a] Z R I L post := by
  obtain ⟨r1, r2, r3, r4, r5, r6, r7⟩ := Iv_R (x := 42) hv
  have hle := hv.2.2.2.2.2.2
  rw [if_neg (show ¬ s.2.1 2 = 0 by omega)] at hle
  have hlen := hv.len
  have hl2 := okw_len _ r1
  have hl3 := tsW_le (lmR 42 s).1
  refine d_goOnP W hr ha hX hk hv hc (by decide) (fun I1 x1 k1 o1 => ?_)
  have u4 : (lmR 42 s).2.1 4 = s.2.1 4 := rfl
  have u5 : (lmR 42 s).2.1 5 = s.2.1 5 := rfl
  refine l_go42 W hr ha x1 k1 (show (lmR 42 s).1.length < 64 by omega) (fun I2 x2 k2 o2 => ?_)
  rw [lmGo_ar (by decide)] at h
  refine h I2 ?_ k2 (fun q q1 q2 q3 q4 => by rw [o2 q q1 q2 q3 q4, o1 q q1 q3 q4])
  refine cg8 x2 rfl rfl rfl rfl rfl rfl rfl rfl (fun j hj => ?_)
  have hj' : j < (lmR 42 s).1.length + 1 := hj
  show upn (fun j => (lmR 42 s).1.reverse.getD j 0) (lmR 42 s).1.length 42 j = (42 :: (lmR 42 s).1).reverse.getD j 0
  by_cases q : j = (lmR 42 s).1.length
  · rw [q, upn_eq, rev_at]
  · rw [upn_ne _ _ q, rev_lt (by omega)]
theorem d_goOn47 {G : Gt} {l : Launch} {Z : Zt} {R : Rt} {I : It} {L : Lt} {post : Pt'} {a c : Nat} {s : Lm} (W : WF Z R) (hr : rwo Z R a 3 240) (ha : 233 ≤ a) (hX : LX I s) (hk : LK I a s.2.2) (hv : Iv s c) (hc : c ≤ 240) (hf : lmFit s.2.1 47) (hp4 : 4 ≤ s.2.1 2) (h : ∀ I', LX I' (lmGo 47 s) → LK I' a (lmGo 47 s).2.2 → (∀ q, q ≠ 107 → q ≠ 109 → q ≠ a → q ≠ a + 1 → I' q = I q) → post none Z R I' L) : Cx G l mX4_goOnBehind 4 0 0 [.ref 107, .int (nI 47), .ref a] Z R I L post := by
  obtain ⟨r1, r2, r3, r4, r5, r6, r7⟩ := Iv_R (x := 47) hv
  have hle := hv.2.2.2.2.2.2
  rw [if_neg (show ¬ s.2.1 2 = 0 by omega)] at hle
  have hlen := hv.len
  have hl2 := okw_len _ r1
  have hl3 := tsW_le (lmR 47 s).1
  refine d_goOnP W hr ha hX hk hv hc (by decide) (fun I1 x1 k1 o1 => ?_)
  have u4 : (lmR 47 s).2.1 4 = s.2.1 4 := rfl
  have u5 : (lmR 47 s).2.1 5 = s.2.1 5 := rfl
  refine l_go47 W hr ha x1 k1 (show (lmR 47 s).1.length < 64 by omega) (fun I2 x2 k2 o2 => ?_)
  rw [lmGo_ar (by decide)] at h
  refine h I2 ?_ k2 (fun q q1 q2 q3 q4 => by rw [o2 q q1 q2 q3 q4, o1 q q1 q3 q4])
  refine cg8 x2 rfl rfl rfl rfl rfl rfl rfl rfl (fun j hj => ?_)
  have hj' : j < (lmR 47 s).1.length + 1 := hj
  show upn (fun j => (lmR 47 s).1.reverse.getD j 0) (lmR 47 s).1.length 47 j = (47 :: (lmR 47 s).1).reverse.getD j 0
  by_cases q : j = (lmR 47 s).1.length
  · rw [q, upn_eq, rev_at]
  · rw [upn_ne _ _ q, rev_lt (by omega)]
theorem d_goOn61 {G : Gt} {l : Launch} {Z : Zt} {R : Rt} {I : It} {L : Lt} {post : Pt'} {a c : Nat} {s : Lm} (W : WF Z R) (hr : rwo Z R a 3 240) (ha : 233 ≤ a) (hX : LX I s) (hk : LK I a s.2.2) (hv : Iv s c) (hc : c ≤ 240) (hf : lmFit s.2.1 61) (hp4 : 4 ≤ s.2.1 2) (h : ∀ I', LX I' (lmGo 61 s) → LK I' a (lmGo 61 s).2.2 → (∀ q, q ≠ 107 → q ≠ 109 → q ≠ a → q ≠ a + 1 → I' q = I q) → post none Z R I' L) : Cx G l mX4_goOnBehind 4 0 0 [.ref 107, .int (nI 61), .ref a] Z R I L post := by
  obtain ⟨r1, r2, r3, r4, r5, r6, r7⟩ := Iv_R (x := 61) hv
  have hle := hv.2.2.2.2.2.2
  rw [if_neg (show ¬ s.2.1 2 = 0 by omega)] at hle
  have hlen := hv.len
  have hl2 := okw_len _ r1
  have hl3 := tsW_le (lmR 61 s).1
  refine d_goOnP W hr ha hX hk hv hc (by decide) (fun I1 x1 k1 o1 => ?_)
  have u4 : (lmR 61 s).2.1 4 = s.2.1 4 := rfl
  have u5 : (lmR 61 s).2.1 5 = s.2.1 5 := rfl
  refine l_go61 W hr ha x1 k1 (show (lmR 61 s).1.length < 64 by omega) (fun I2 x2 k2 o2 => ?_)
  rw [lmGo_cmp (Or.inl rfl)] at h
  refine h I2 ?_ k2 (fun q q1 q2 q3 q4 => by rw [o2 q q1 q2 q3 q4, o1 q q1 q3 q4])
  refine cg8 x2 rfl rfl rfl rfl rfl rfl rfl rfl (fun j hj => ?_)
  have hj' : j < (lmR 61 s).1.length + 1 := hj
  show upn (fun j => (lmR 61 s).1.reverse.getD j 0) (lmR 61 s).1.length 61 j = (61 :: (lmR 61 s).1).reverse.getD j 0
  by_cases q : j = (lmR 61 s).1.length
  · rw [q, upn_eq, rev_at]
  · rw [upn_ne _ _ q, rev_lt (by omega)]
theorem d_goOn60 {G : Gt} {l : Launch} {Z : Zt} {R : Rt} {I : It} {L : Lt} {post : Pt'} {a c : Nat} {s : Lm} (W : WF Z R) (hr : rwo Z R a 3 240) (ha : 233 ≤ a) (hX : LX I s) (hk : LK I a s.2.2) (hv : Iv s c) (hc : c ≤ 240) (hf : lmFit s.2.1 60) (hp4 : 4 ≤ s.2.1 2) (h : ∀ I', LX I' (lmGo 60 s) → LK I' a (lmGo 60 s).2.2 → (∀ q, q ≠ 107 → q ≠ 109 → q ≠ a → q ≠ a + 1 → I' q = I q) → post none Z R I' L) : Cx G l mX4_goOnBehind 4 0 0 [.ref 107, .int (nI 60), .ref a] Z R I L post := by
  obtain ⟨r1, r2, r3, r4, r5, r6, r7⟩ := Iv_R (x := 60) hv
  have hle := hv.2.2.2.2.2.2
  rw [if_neg (show ¬ s.2.1 2 = 0 by omega)] at hle
  have hlen := hv.len
  have hl2 := okw_len _ r1
  have hl3 := tsW_le (lmR 60 s).1
  refine d_goOnP W hr ha hX hk hv hc (by decide) (fun I1 x1 k1 o1 => ?_)
  have u4 : (lmR 60 s).2.1 4 = s.2.1 4 := rfl
  have u5 : (lmR 60 s).2.1 5 = s.2.1 5 := rfl
  refine l_go60 W hr ha x1 k1 (show (lmR 60 s).1.length < 64 by omega) (fun I2 x2 k2 o2 => ?_)
  rw [lmGo_cmp (Or.inr (Or.inl rfl))] at h
  refine h I2 ?_ k2 (fun q q1 q2 q3 q4 => by rw [o2 q q1 q2 q3 q4, o1 q q1 q3 q4])
  refine cg8 x2 rfl rfl rfl rfl rfl rfl rfl rfl (fun j hj => ?_)
  have hj' : j < (lmR 60 s).1.length + 1 := hj
  show upn (fun j => (lmR 60 s).1.reverse.getD j 0) (lmR 60 s).1.length 60 j = (60 :: (lmR 60 s).1).reverse.getD j 0
  by_cases q : j = (lmR 60 s).1.length
  · rw [q, upn_eq, rev_at]
  · rw [upn_ne _ _ q, rev_lt (by omega)]
theorem d_goOn62 {G : Gt} {l : Launch} {Z : Zt} {R : Rt} {I : It} {L : Lt} {post : Pt'} {a c : Nat} {s : Lm} (W : WF Z R) (hr : rwo Z R a 3 240) (ha : 233 ≤ a) (hX : LX I s) (hk : LK I a s.2.2) (hv : Iv s c) (hc : c ≤ 240) (hf : lmFit s.2.1 62) (hp4 : 4 ≤ s.2.1 2) (h : ∀ I', LX I' (lmGo 62 s) → LK I' a (lmGo 62 s).2.2 → (∀ q, q ≠ 107 → q ≠ 109 → q ≠ a → q ≠ a + 1 → I' q = I q) → post none Z R I' L) : Cx G l mX4_goOnBehind 4 0 0 [.ref 107, .int (nI 62), .ref a] Z R I L post := by
  obtain ⟨r1, r2, r3, r4, r5, r6, r7⟩ := Iv_R (x := 62) hv
  have hle := hv.2.2.2.2.2.2
  rw [if_neg (show ¬ s.2.1 2 = 0 by omega)] at hle
  have hlen := hv.len
  have hl2 := okw_len _ r1
  have hl3 := tsW_le (lmR 62 s).1
  refine d_goOnP W hr ha hX hk hv hc (by decide) (fun I1 x1 k1 o1 => ?_)
  have u4 : (lmR 62 s).2.1 4 = s.2.1 4 := rfl
  have u5 : (lmR 62 s).2.1 5 = s.2.1 5 := rfl
  refine l_go62 W hr ha x1 k1 (show (lmR 62 s).1.length < 64 by omega) (fun I2 x2 k2 o2 => ?_)
  rw [lmGo_cmp (Or.inr (Or.inr rfl))] at h
  refine h I2 ?_ k2 (fun q q1 q2 q3 q4 => by rw [o2 q q1 q2 q3 q4, o1 q q1 q3 q4])
  refine cg8 x2 rfl rfl rfl rfl rfl rfl rfl rfl (fun j hj => ?_)
  have hj' : j < (lmR 62 s).1.length + 1 := hj
  show upn (fun j => (lmR 62 s).1.reverse.getD j 0) (lmR 62 s).1.length 62 j = (62 :: (lmR 62 s).1).reverse.getD j 0
  by_cases q : j = (lmR 62 s).1.length
  · rw [q, upn_eq, rev_at]
  · rw [upn_ne _ _ q, rev_lt (by omega)]
theorem d_goOn93 {G : Gt} {l : Launch} {Z : Zt} {R : Rt} {I : It} {L : Lt} {post : Pt'} {a c : Nat} {s : Lm} (W : WF Z R) (hr : rwo Z R a 3 240) (ha : 233 ≤ a) (hX : LX I s) (hk : LK I a s.2.2) (hv : Iv s c) (hc : c ≤ 240) (hf : lmFit s.2.1 93) (hp4 : 4 ≤ s.2.1 2) (h : ∀ I', LX I' (lmGo 93 s) → LK I' a (lmGo 93 s).2.2 → (∀ q, q ≠ 107 → q ≠ 109 → q ≠ a → q ≠ a + 1 → I' q = I q) → post none Z R I' L) : Cx G l mX4_goOnBehind 4 0 0 [.ref 107, .int (nI 93), .ref a] Z R I L post := by
  obtain ⟨r1, r2, r3, r4, r5, r6, r7⟩ := Iv_R (x := 93) hv
  have hle := hv.2.2.2.2.2.2
  rw [if_neg (show ¬ s.2.1 2 = 0 by omega)] at hle
  have hlen := hv.len
  have hl2 := okw_len _ r1
  have hl3 := tsW_le (lmR 93 s).1
  refine d_goOnP W hr ha hX hk hv hc (by decide) (fun I1 x1 k1 o1 => ?_)
  have u4 : (lmR 93 s).2.1 4 = s.2.1 4 := rfl
  have u5 : (lmR 93 s).2.1 5 = s.2.1 5 := rfl
  have hne : s.2.1 5 ≠ 0 := by
    have := (fit_n (by decide)).mp hf
    unfold lmFit' at this
    omega
  obtain ⟨y, w', hw, hy⟩ := okw_0 r1 r6 (by omega)
  have hc1 : 1 ≤ cntBr (lmR 93 s).1 := by omega
  refine l_go93 W hr ha x1 k1 (show 1 ≤ (lmR 93 s).1.length by rw [hw]; exact Nat.le_add_left _ _) ⟨show 1 ≤ (lmR 93 s).2.1 3 by omega, show (lmR 93 s).2.1 3 < 1000 by omega⟩ ⟨show 1 ≤ (lmR 93 s).2.1 5 by omega, show (lmR 93 s).2.1 5 < 1000 by omega⟩ (fun I2 x2 k2 o2 => ?_)
  rw [lmGo_93] at h
  refine h I2 ?_ k2 (fun q q1 q2 q3 q4 => by rw [o2 q q1 q2 q3 q4, o1 q q1 q3 q4])
  refine cg8 x2 ?_ rfl rfl rfl rfl rfl rfl rfl (fun j hj => ?_)
  · show (lmR 93 s).1.length - 1 = (lmR 93 s).1.tail.length
    rw [hw]; rfl
  · have hj' : j < (lmR 93 s).1.length - 1 := hj
    rw [hw] at hj' ⊢
    exact rev_lt (w := w') hj'
theorem d_goOn38 {G : Gt} {l : Launch} {Z : Zt} {R : Rt} {I : It} {L : Lt} {post : Pt'} {a c : Nat} {s : Lm} (W : WF Z R) (hr : rwo Z R a 3 240) (ha : 233 ≤ a) (hX : LX I s) (hk : LK I a s.2.2) (hv : Iv s c) (hc : c ≤ 240) (hf : lmFit s.2.1 38) (hp4 : 4 ≤ s.2.1 2) (h : ∀ I', LX I' (lmGo 38 s) → LK I' a (lmGo 38 s).2.2 → (∀ q, q ≠ 107 → q ≠ 109 → q ≠ a → q ≠ a + 1 → I' q = I q) → post none Z R I' L) : Cx G l mX4_goOnBehind 4 0 0 [.ref 107, .int (nI 38), .ref a] Z R I L post := by
  obtain ⟨r1, r2, r3, r4, r5, r6, r7⟩ := Iv_R (x := 38) hv
  have hle := hv.2.2.2.2.2.2
  rw [if_neg (show ¬ s.2.1 2 = 0 by omega)] at hle
  have hlen := hv.len
  have hl2 := okw_len _ r1
  have hl3 := tsW_le (lmR 38 s).1
  refine d_goOnP W hr ha hX hk hv hc (by decide) (fun I1 x1 k1 o1 => ?_)
  have u4 : (lmR 38 s).2.1 4 = s.2.1 4 := rfl
  have u5 : (lmR 38 s).2.1 5 = s.2.1 5 := rfl
  refine l_go38 W hr ha x1 k1 (show (lmR 38 s).1.length < 64 by omega) (fun I2 x2 k2 o2 => ?_)
  rw [lmGo_lo (Or.inl rfl)] at h
  refine h I2 ?_ k2 (fun q q1 q2 q3 q4 => by rw [o2 q q1 q2 q3 q4, o1 q q1 q3 q4])
  refine cg8 x2 rfl rfl rfl rfl rfl rfl rfl rfl (fun j hj => ?_)
  have hj' : j < (lmR 38 s).1.length + 1 := hj
  show upn (fun j => (lmR 38 s).1.reverse.getD j 0) (lmR 38 s).1.length 38 j = (38 :: (lmR 38 s).1).reverse.getD j 0
  by_cases q : j = (lmR 38 s).1.length
  · rw [q, upn_eq, rev_at]
  · rw [upn_ne _ _ q, rev_lt (by omega)]
theorem d_goOn124 {G : Gt} {l : Launch} {Z : Zt} {R : Rt} {I : It} {L : Lt} {post : Pt'} {a c : Nat} {s : Lm} (W : WF Z R) (hr : rwo Z R a 3 240) (ha : 233 ≤ a) (hX : LX I s) (hk : LK I a s.2.2) (hv : Iv s c) (hc : c ≤ 240) (hf : lmFit s.2.1 124) (hp4 : 4 ≤ s.2.1 2) (h : ∀ I', LX I' (lmGo 124 s) → LK I' a (lmGo 124 s).2.2 → (∀ q, q ≠ 107 → q ≠ 109 → q ≠ a → q ≠ a + 1 → I' q = I q) → post none Z R I' L) : Cx G l mX4_goOnBehind 4 0 0 [.ref 107, .int (nI 124), .ref a] Z R I L post := by
  obtain ⟨r1, r2, r3, r4, r5, r6, r7⟩ := Iv_R (x := 124) hv
  have hle := hv.2.2.2.2.2.2
  rw [if_neg (show ¬ s.2.1 2 = 0 by omega)] at hle
  have hlen := hv.len
  have hl2 := okw_len _ r1
  have hl3 := tsW_le (lmR 124 s).1
  refine d_goOnP W hr ha hX hk hv hc (by decide) (fun I1 x1 k1 o1 => ?_)
  have u4 : (lmR 124 s).2.1 4 = s.2.1 4 := rfl
  have u5 : (lmR 124 s).2.1 5 = s.2.1 5 := rfl
  refine l_go124 W hr ha x1 k1 (show (lmR 124 s).1.length < 64 by omega) (fun I2 x2 k2 o2 => ?_)
  rw [lmGo_lo (Or.inr rfl)] at h
  refine h I2 ?_ k2 (fun q q1 q2 q3 q4 => by rw [o2 q q1 q2 q3 q4, o1 q q1 q3 q4])
  refine cg8 x2 rfl rfl rfl rfl rfl rfl rfl rfl (fun j hj => ?_)
  have hj' : j < (lmR 124 s).1.length + 1 := hj
  show upn (fun j => (lmR 124 s).1.reverse.getD j 0) (lmR 124 s).1.length 124 j = (124 :: (lmR 124 s).1).reverse.getD j 0
  by_cases q : j = (lmR 124 s).1.length
  · rw [q, upn_eq, rev_at]
  · rw [upn_ne _ _ q, rev_lt (by omega)]
theorem d_goOn41 {G : Gt} {l : Launch} {Z : Zt} {R : Rt} {I : It} {L : Lt} {post : Pt'} {a c : Nat} {s : Lm} (W : WF Z R) (hr : rwo Z R a 3 240) (ha : 233 ≤ a) (hX : LX I s) (hk : LK I a s.2.2) (hv : Iv s c) (hc : c ≤ 240) (hf : lmFit s.2.1 41) (hp4 : 4 ≤ s.2.1 2) (h : ∀ I', LX I' (lmGo 41 s) → LK I' a (lmGo 41 s).2.2 → (∀ q, q ≠ 107 → q ≠ 109 → q ≠ a → q ≠ a + 1 → I' q = I q) → post none Z R I' L) : Cx G l mX4_goOnBehind 4 0 0 [.ref 107, .int (nI 41), .ref a] Z R I L post := by
  obtain ⟨r1, r2, r3, r4, r5, r6, r7⟩ := Iv_R (x := 41) hv
  have hle := hv.2.2.2.2.2.2
  rw [if_neg (show ¬ s.2.1 2 = 0 by omega)] at hle
  have hlen := hv.len
  have hl2 := okw_len _ r1
  have hl3 := tsW_le (lmR 41 s).1
  refine d_goOnP W hr ha hX hk hv hc (by decide) (fun I1 x1 k1 o1 => ?_)
  have u4 : (lmR 41 s).2.1 4 = s.2.1 4 := rfl
  have u5 : (lmR 41 s).2.1 5 = s.2.1 5 := rfl
  have hne : s.2.1 4 ≠ 0 := by
    have := (fit_n (by decide)).mp hf
    unfold lmFit' at this
    omega
  obtain ⟨y, w', hw, hy⟩ := okw_0 r1 r6 (by omega)
  have hc1 : 1 ≤ cntBr (lmR 41 s).1 := by omega
  refine l_go41 W hr ha x1 k1 (show 1 ≤ (lmR 41 s).1.length by rw [hw]; exact Nat.le_add_left _ _) ⟨show 1 ≤ (lmR 41 s).2.1 3 by omega, show (lmR 41 s).2.1 3 < 1000 by omega⟩ ⟨show 1 ≤ (lmR 41 s).2.1 4 by omega, show (lmR 41 s).2.1 4 < 1000 by omega⟩ (fun I2 x2 k2 o2 => ?_)
  rw [lmGo_41] at h
  refine h I2 ?_ k2 (fun q q1 q2 q3 q4 => by rw [o2 q q1 q2 q3 q4, o1 q q1 q3 q4])
  refine cg8 x2 ?_ rfl rfl rfl rfl rfl rfl rfl (fun j hj => ?_)
  · show (lmR 41 s).1.length - 1 = (lmR 41 s).1.tail.length
    rw [hw]; rfl
  · have hj' : j < (lmR 41 s).1.length - 1 := hj
    rw [hw] at hj' ⊢
    exact rev_lt (w := w') hj'
theorem d_goOn63 {G : Gt} {l : Launch} {Z : Zt} {R : Rt} {I : It} {L : Lt} {post : Pt'} {a c : Nat} {s : Lm} (W : WF Z R) (hr : rwo Z R a 3 240) (ha : 233 ≤ a) (hX : LX I s) (hk : LK I a s.2.2) (hv : Iv s c) (hc : c ≤ 240) (hf : lmFit s.2.1 63) (hp4 : 4 ≤ s.2.1 2) (h : ∀ I', LX I' (lmGo 63 s) → LK I' a (lmGo 63 s).2.2 → (∀ q, q ≠ 107 → q ≠ 109 → q ≠ a → q ≠ a + 1 → I' q = I q) → post none Z R I' L) : Cx G l mX4_goOnBehind 4 0 0 [.ref 107, .int (nI 63), .ref a] Z R I L post := by
  obtain ⟨r1, r2, r3, r4, r5, r6, r7⟩ := Iv_R (x := 63) hv
  have hle := hv.2.2.2.2.2.2
  rw [if_neg (show ¬ s.2.1 2 = 0 by omega)] at hle
  have hlen := hv.len
  have hl2 := okw_len _ r1
  have hl3 := tsW_le (lmR 63 s).1
  refine d_goOnP W hr ha hX hk hv hc (by decide) (fun I1 x1 k1 o1 => ?_)
  have u4 : (lmR 63 s).2.1 4 = s.2.1 4 := rfl
  have u5 : (lmR 63 s).2.1 5 = s.2.1 5 := rfl
  have hkl : (lmR 63 s).2.2.length < 240 := by omega
  refine l_go63 W hr ha x1 k1 hkl (fun I2 x2 k2 o2 => ?_)
  rw [lmGo_63] at h
  refine h I2 ?_ k2 (fun q q1 q2 q3 q4 => by rw [o2 q q1 q2 q3 q4, o1 q q1 q3 q4])
  exact cg8 x2 rfl rfl rfl rfl rfl rfl rfl rfl (fun j hj => rfl)
theorem d_goOn59 {G : Gt} {l : Launch} {Z : Zt} {R : Rt} {I : It} {L : Lt} {post : Pt'} {a c : Nat} {s : Lm} (W : WF Z R) (hr : rwo Z R a 3 240) (ha : 233 ≤ a) (hX : LX I s) (hk : LK I a s.2.2) (hv : Iv s c) (hc : c ≤ 240) (hf : lmFit s.2.1 59) (hp4 : 4 ≤ s.2.1 2) (h : ∀ I', LX I' (lmGo 59 s) → LK I' a (lmGo 59 s).2.2 → (∀ q, q ≠ 107 → q ≠ 109 → q ≠ a → q ≠ a + 1 → I' q = I q) → post none Z R I' L) : Cx G l mX4_goOnBehind 4 0 0 [.ref 107, .int (nI 59), .ref a] Z R I L post := by
  obtain ⟨r1, r2, r3, r4, r5, r6, r7⟩ := Iv_R (x := 59) hv
  have hle := hv.2.2.2.2.2.2
  rw [if_neg (show ¬ s.2.1 2 = 0 by omega)] at hle
  have hlen := hv.len
  have hl2 := okw_len _ r1
  have hl3 := tsW_le (lmR 59 s).1
  refine d_goOnP W hr ha hX hk hv hc (by decide) (fun I1 x1 k1 o1 => ?_)
  have u4 : (lmR 59 s).2.1 4 = s.2.1 4 := rfl
  have u5 : (lmR 59 s).2.1 5 = s.2.1 5 := rfl
  have hkl : (lmR 59 s).2.2.length < 240 := by omega
  refine l_go59 W hr ha x1 k1 hkl (fun I2 x2 k2 o2 => ?_)
  rw [lmGo_59] at h
  refine h I2 ?_ k2 (fun q q1 q2 q3 q4 => by rw [o2 q q1 q2 q3 q4, o1 q q1 q3 q4])
  exact cg8 x2 rfl rfl rfl rfl rfl rfl rfl rfl (fun j hj => rfl)
theorem d_goOn {G : Gt} {l : Launch} {Z : Zt} {R : Rt} {I : It} {L : Lt} {post : Pt'} {a c x : Nat} {s : Lm} (W : WF Z R) (hr : rwo Z R a 3 240) (ha : 233 ≤ a) (hX : LX I s) (hk : LK I a s.2.2) (hv : Iv s c) (hc : c ≤ 240) (hf : lmFit s.2.1 x) (hp4 : 4 ≤ s.2.1 2) (h : ∀ I', LX I' (lmGo x s) → LK I' a (lmGo x s).2.2 → (∀ q, q ≠ 107 → q ≠ 109 → q ≠ a → q ≠ a + 1 → I' q = I q) → post none Z R I' L) : Cx G l mX4_goOnBehind 4 0 0 [.ref 107, .int (nI x), .ref a] Z R I L post := by
  by_cases n43 : x = 43
  · subst n43; exact d_goOn43 W hr ha hX hk hv hc hf hp4 h
  by_cases n45 : x = 45
  · subst n45; exact d_goOn45 W hr ha hX hk hv hc hf hp4 h
  by_cases n42 : x = 42
  · subst n42; exact d_goOn42 W hr ha hX hk hv hc hf hp4 h
  by_cases n47 : x = 47
  · subst n47; exact d_goOn47 W hr ha hX hk hv hc hf hp4 h
  by_cases n61 : x = 61
  · subst n61; exact d_goOn61 W hr ha hX hk hv hc hf hp4 h
  by_cases n60 : x = 60
  · subst n60; exact d_goOn60 W hr ha hX hk hv hc hf hp4 h
  by_cases n62 : x = 62
  · subst n62; exact d_goOn62 W hr ha hX hk hv hc hf hp4 h
  by_cases n93 : x = 93
  · subst n93; exact d_goOn93 W hr ha hX hk hv hc hf hp4 h
  by_cases n38 : x = 38
  · subst n38; exact d_goOn38 W hr ha hX hk hv hc hf hp4 h
  by_cases n124 : x = 124
  · subst n124; exact d_goOn124 W hr ha hX hk hv hc hf hp4 h
  by_cases n41 : x = 41
  · subst n41; exact d_goOn41 W hr ha hX hk hv hc hf hp4 h
  by_cases n63 : x = 63
  · subst n63; exact d_goOn63 W hr ha hX hk hv hc hf hp4 h
  by_cases n59 : x = 59
  · subst n59; exact d_goOn59 W hr ha hX hk hv hc hf hp4 h
  exact absurd ((fit_n n59).mp hf) (by unfold lmFit'; omega)
