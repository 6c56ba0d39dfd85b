/-! the class: the reader of laws: small steps.
The reader's state: M j = field j of object 107 (1 waits 2 phase 3 nested 4 rounds 5 squares 6 conditional 7 answering 8 compared), S = what waits -/
def LR (I : It) (M S : Nat → Nat) : Prop := (∀ j, 1 ≤ j → j ≤ 8 → I 107 j = nI (M j)) ∧ (∀ j, j < M 1 → I 109 j = nI (S j)) ∧ M 1 ≤ 64
/-- how strongly a sign binds -/
def stN (s : Int) : Nat := if s = 124 then 1 else if s = 38 then 2 else if s = 33 then 3 else if s = 61 ∨ s = 60 ∨ s = 62 then 4 else if s = 43 ∨ s = 45 then 5 else if s = 42 ∨ s = 47 then 6 else 0
theorem LR.up {I I' : It} {M S : Nat → Nat} {j v : Nat} (h : LR I M S) (hj : 1 < j ∧ j ≤ 8) (e : I' 107 = upd (I 107) j (nI v)) (o : ∀ q, q ≠ 107 → I' q = I q) : LR I' (upn M j v) S := by
  refine ⟨fun k k1 k2 => ?_, fun k hk => ?_, ?_⟩
  · rw [e]
    by_cases c : k = j
    · rw [c, upd_at, upn_eq]
    · rw [upd_nj _ _ c, upn_ne _ _ c]; exact h.1 k k1 k2
  · rw [upn_ne _ _ (by omega)] at hk
    rw [o 109 (by decide)]; exact h.2.1 k hk
  · rw [upn_ne _ _ (by omega)]; exact h.2.2
theorem LR.w1 {I I' : It} {M S : Nat → Nat} {v : Nat} (h : LR I M S) (hv : v ≤ M 1) (e : I' 107 = upd (I 107) 1 (nI v)) (o : ∀ q, q ≠ 107 → I' q = I q) : LR I' (upn M 1 v) S := by
  refine ⟨fun k k1 k2 => ?_, fun k hk => ?_, ?_⟩
  · rw [e]
    by_cases c : k = 1
    · rw [c, upd_at, upn_eq]
    · rw [upd_nj _ _ c, upn_ne _ _ c]; exact h.1 k k1 k2
  · rw [upn_eq] at hk
    rw [o 109 (by decide)]; exact h.2.1 k (by omega)
  · rw [upn_eq]; exact Nat.le_trans hv h.2.2
set_option maxRecDepth 20000 in
set_option maxHeartbeats 1000000 in
theorem d_mayEnd {G : Gt} {l : Launch} {Z : Zt} {R : Rt} {I : It} {L : Lt} {post : Pt'} {M S : Nat → Nat} (W : WF Z R) (hL : LR I M S) (hb : ∀ j, j ≤ 8 → M j < 1000) (h : post (some (.int (b2i (decide (M 2 = 4 ∧ M 5 = 0 ∧ M 4 = 0 ∧ (M 7 ≠ 0 ∨ M 6 = 0)))))) Z R I L) : Cx G l mX4_mayEnd 1 0 0 [.ref 107] Z R I L post := by
  refine Cx.of (by decide +kernel) (by exact Nat.le_of_ble_eq_true rfl) ?_
  have b2 := hb 2 (by decide)
  have b4 := hb 4 (by decide)
  have b5 := hb 5 (by decide)
  have b6 := hb 6 (by decide)
  have b7 := hb 7 (by decide)
  refine Sx.aload_n dX4_mayEnd_0 rfl ?_
  refine Sx.getfV (v := (nI (M 2))) dX4_mayEnd_1 lkf_X4_24_4 (o_107 W) (hL.1 2 (by decide) (by decide)) ?_
  refine Sx.iconst (v := (nI 4)) dX4_mayEnd_4 (by decide) ?_
  refine Sx.icmp_neV (t := 40) dX4_mayEnd_5 (by decide) (vN (by omega)) (vN (by decide)) (fun c5 => ?_) (fun c5 => ?_)
  · refine Sx.iconst (v := (nI 0)) dX4_mayEnd_40 (by decide) ?_
    refine Sx.top (show _ = b2i false from rfl) ?_
    refine Sx.iret dX4_mayEnd_41 rfl (b2i_n _) ?_
    exact pBB (decide_eq_false (by omega)) h
  · refine Sx.aload_n dX4_mayEnd_8 rfl ?_
    refine Sx.getfV (v := (nI (M 5))) dX4_mayEnd_9 lkf_X4_33_4 (o_107 W) (hL.1 5 (by decide) (by decide)) ?_
    refine Sx.if_neV (t := 40) dX4_mayEnd_12 (by decide) (vN (by omega)) (fun c12 => ?_) (fun c12 => ?_)
    · refine Sx.iconst (v := (nI 0)) dX4_mayEnd_40 (by decide) ?_
      refine Sx.top (show _ = b2i false from rfl) ?_
      refine Sx.iret dX4_mayEnd_41 rfl (b2i_n _) ?_
      exact pBB (decide_eq_false (by omega)) h
    · refine Sx.aload_n dX4_mayEnd_15 rfl ?_
      refine Sx.getfV (v := (nI (M 4))) dX4_mayEnd_16 lkf_X4_30_4 (o_107 W) (hL.1 4 (by decide) (by decide)) ?_
      refine Sx.if_neV (t := 40) dX4_mayEnd_19 (by decide) (vN (by omega)) (fun c19 => ?_) (fun c19 => ?_)
      · refine Sx.iconst (v := (nI 0)) dX4_mayEnd_40 (by decide) ?_
        refine Sx.top (show _ = b2i false from rfl) ?_
        refine Sx.iret dX4_mayEnd_41 rfl (b2i_n _) ?_
        exact pBB (decide_eq_false (by omega)) h
      · refine Sx.aload_n dX4_mayEnd_22 rfl ?_
        refine Sx.getfV (v := (nI (M 7))) dX4_mayEnd_23 lkf_X4_40_4 (o_107 W) (hL.1 7 (by decide) (by decide)) ?_
        refine Sx.if_neV (t := 36) dX4_mayEnd_26 (by decide) (vN (by omega)) (fun c26 => ?_) (fun c26 => ?_)
        · refine Sx.iconst (v := (nI 1)) dX4_mayEnd_36 (by decide) ?_
          refine Sx.goto (t := 41) dX4_mayEnd_37 (by decide) ?_
          refine Sx.top (show _ = b2i true from rfl) ?_
          refine Sx.iret dX4_mayEnd_41 rfl (b2i_n _) ?_
          exact pBB (decide_eq_true (by omega)) h
        · refine Sx.aload_n dX4_mayEnd_29 rfl ?_
          refine Sx.getfV (v := (nI (M 6))) dX4_mayEnd_30 lkf_X4_36_4 (o_107 W) (hL.1 6 (by decide) (by decide)) ?_
          refine Sx.if_neV (t := 40) dX4_mayEnd_33 (by decide) (vN (by omega)) (fun c33 => ?_) (fun c33 => ?_)
          · refine Sx.iconst (v := (nI 0)) dX4_mayEnd_40 (by decide) ?_
            refine Sx.top (show _ = b2i false from rfl) ?_
            refine Sx.iret dX4_mayEnd_41 rfl (b2i_n _) ?_
            exact pBB (decide_eq_false (by omega)) h
          · refine Sx.iconst (v := (nI 1)) dX4_mayEnd_36 (by decide) ?_
            refine Sx.goto (t := 41) dX4_mayEnd_37 (by decide) ?_
            refine Sx.top (show _ = b2i true from rfl) ?_
            refine Sx.iret dX4_mayEnd_41 rfl (b2i_n _) ?_
            exact pBB (decide_eq_true (by omega)) h
set_option maxRecDepth 20000 in
set_option maxHeartbeats 1000000 in
theorem d_lrBegin {G : Gt} {l : Launch} {Z : Zt} {R : Rt} {I : It} {L : Lt} {post : Pt'} {c a : Nat} (W : WF Z R) (hz : ∀ j, j = 6 ∨ j = 7 → I 107 j = nI (if j = 6 then c else a)) (h : ∀ I', LR I' (fun j => if j = 6 then c else if j = 7 then a else 0) (fun _ => 0) → (∀ q, q ≠ 107 → I' q = I q) → post none Z R I' L) : Cx G l mX4_begin 1 0 0 [.ref 107] Z R I L post := by
  refine Cx.of (by decide +kernel) (by exact Nat.le_of_ble_eq_true rfl) ?_
  refine Sx.aload_n dX4_begin_0 rfl ?_
  refine Sx.iconst (v := (nI 0)) dX4_begin_1 (by decide) ?_
  refine Sx.putfV dX4_begin_2 lkp_X4_20_4 (o_107 W) rfl rfl (fun I1 e1 o1 => ?_)
  refine Sx.aload_n dX4_begin_5 rfl ?_
  refine Sx.iconst (v := (nI 0)) dX4_begin_6 (by decide) ?_
  refine Sx.putfV dX4_begin_7 lkp_X4_24_4 (o_107 W) rfl rfl (fun I2 e2 o2 => ?_)
  refine Sx.aload_n dX4_begin_10 rfl ?_
  refine Sx.iconst (v := (nI 0)) dX4_begin_11 (by decide) ?_
  refine Sx.putfV dX4_begin_12 lkp_X4_27_4 (o_107 W) rfl rfl (fun I3 e3 o3 => ?_)
  refine Sx.aload_n dX4_begin_15 rfl ?_
  refine Sx.iconst (v := (nI 0)) dX4_begin_16 (by decide) ?_
  refine Sx.putfV dX4_begin_17 lkp_X4_30_4 (o_107 W) rfl rfl (fun I4 e4 o4 => ?_)
  refine Sx.aload_n dX4_begin_20 rfl ?_
  refine Sx.iconst (v := (nI 0)) dX4_begin_21 (by decide) ?_
  refine Sx.putfV dX4_begin_22 lkp_X4_33_4 (o_107 W) rfl rfl (fun I5 e5 o5 => ?_)
  refine Sx.aload_n dX4_begin_25 rfl ?_
  refine Sx.iconst (v := (nI 0)) dX4_begin_26 (by decide) ?_
  refine Sx.putfV dX4_begin_27 lkp_X4_43_4 (o_107 W) rfl rfl (fun I6 e6 o6 => ?_)
  refine Sx.vret dX4_begin_30 rfl ?_
  refine h I6 ⟨fun k k1 k2 => ?_, fun k hk => absurd hk (Nat.not_lt_zero _), Nat.zero_le _⟩ (fun q q1 => by rw [o6 q q1, o5 q q1, o4 q q1, o3 q q1, o2 q q1, o1 q q1])
  rw [e6, e5, e4, e3, e2, e1]
  have : k = 1 ∨ k = 2 ∨ k = 3 ∨ k = 4 ∨ k = 5 ∨ k = 6 ∨ k = 7 ∨ k = 8 := by omega
  rcases this with rfl | rfl | rfl | rfl | rfl | rfl | rfl | rfl
  all_goals first | rfl | exact hz 6 (Or.inl rfl) | exact hz 7 (Or.inr rfl)
set_option maxRecDepth 20000 in
set_option maxHeartbeats 1000000 in
theorem d_await {G : Gt} {l : Launch} {Z : Zt} {R : Rt} {I : It} {L : Lt} {post : Pt'} {M S : Nat → Nat} {s : Nat} (W : WF Z R) (hL : LR I M S) (hw : M 1 < 64) (h : ∀ I', LR I' (upn M 1 (M 1 + 1)) (upn S (M 1) s) → (∀ q, q ≠ 107 → q ≠ 109 → I' q = I q) → post none Z R I' L) : Cx G l mX4_await 2 0 0 [.ref 107, .int (nI s)] Z R I L post := by
  refine Cx.of (by decide +kernel) (by exact Nat.le_of_ble_eq_true rfl) ?_
  refine Sx.aload_n dX4_await_0 rfl ?_
  refine Sx.getfV (v := (nI (M 1))) dX4_await_1 lkf_X4_20_4 (o_107 W) (hL.1 1 (by decide) (by decide)) ?_
  refine Sx.bipush (v := (nI 64)) dX4_await_4 (by decide) ?_
  refine Sx.icmp_geV (t := 31) dX4_await_6 (by decide) (vN (by omega)) (vN (by decide)) (fun c6 => ?_) (fun c6 => ?_)
  · refine Sx.vret dX4_await_31 rfl ?_
    exact absurd hw (by omega)
  · refine Sx.aload_n dX4_await_9 rfl ?_
    refine Sx.getfR dX4_await_10 lkf_X4_16_4 (o_107 W) (r_107_0 W) ?_
    refine Sx.aload_n dX4_await_13 rfl ?_
    refine Sx.getfV (v := (nI (M 1))) dX4_await_14 lkf_X4_20_4 (o_107 W) (hL.1 1 (by decide) (by decide)) ?_
    refine Sx.iload_n dX4_await_17 rfl ?_
    refine Sx.callV2 dX4_await_18 lkv_X4_130 (rcv_7 (o_108 W)) (by decide) (by decide) (Nat.le_of_ble_eq_true rfl) rfl rfl (d_rset (w_108r W) (by unfold rowC; decide) (by decide) (k := M 1) (by omega) (fun I1 e1 o1 => ?_))
    refine Sx.aload_n dX4_await_21 rfl ?_
    refine Sx.dup dX4_await_22 rfl ?_
    refine Sx.getfV (v := (nI (M 1))) dX4_await_23 lkf_X4_20_4 (o_107 W) (by rw [o1 107 (by decide)]; exact hL.1 1 (by decide) (by decide)) ?_
    refine Sx.iconst (v := (nI 1)) dX4_await_26 (by decide) ?_
    refine Sx.iaddN dX4_await_27 ?_
    refine Sx.putfV dX4_await_28 lkp_X4_20_4 (o_107 W) rfl rfl (fun I2 e2 o2 => ?_)
    refine Sx.vret dX4_await_31 rfl ?_
    refine h I2 ⟨fun k k1 k2 => ?_, fun k hk => ?_, ?_⟩ (fun q q1 q2 => by rw [o2 q q1, o1 q q2])
    · rw [e2, o1 107 (by decide)]
      by_cases c : k = 1
      · rw [c, upd_at, upn_eq]
      · rw [upd_nj _ _ c, upn_ne _ _ c]; exact hL.1 k k1 k2
    · rw [upn_eq] at hk
      rw [o2 109 (by decide), e1]
      by_cases c : k = M 1
      · rw [c, upd_at, upn_eq]
      · rw [upd_nj _ _ c, upn_ne _ _ c]; exact hL.2.1 k (by omega)
    · rw [upn_eq]; omega
set_option maxRecDepth 20000 in
set_option maxHeartbeats 1000000 in
theorem d_close {G : Gt} {l : Launch} {Z : Zt} {R : Rt} {I : It} {L : Lt} {post : Pt'} {M S : Nat → Nat} (W : WF Z R) (hL : LR I M S) (h1 : 1 ≤ M 1) (h3 : 1 ≤ M 3 ∧ M 3 < 1000) (h : ∀ I', LR I' (upn (upn M 1 (M 1 - 1)) 3 (M 3 - 1)) S → (∀ q, q ≠ 107 → I' q = I q) → post none Z R I' L) : Cx G l mX4_closeBracket 1 0 0 [.ref 107] Z R I L post := by
  refine Cx.of (by decide +kernel) (by exact Nat.le_of_ble_eq_true rfl) ?_
  have h64 := hL.2.2
  refine Sx.aload_n dX4_closeBracket_0 rfl ?_
  refine Sx.iconst (v := (nI 0)) dX4_closeBracket_1 (by decide) ?_
  refine Sx.aload_n dX4_closeBracket_2 rfl ?_
  refine Sx.getfV (v := (nI (M 1))) dX4_closeBracket_3 lkf_X4_20_4 (o_107 W) (hL.1 1 (by decide) (by decide)) ?_
  refine Sx.iconst (v := (nI 1)) dX4_closeBracket_6 (by decide) ?_
  refine Sx.isubN dX4_closeBracket_7 (by omega) ?_
  refine Sx.mmax dX4_closeBracket_8 lkm_X4_118 (by decide) (Nat.le_of_ble_eq_true rfl) ?_
  refine Sx.top (n_max (by decide) (by omega)) ?_
  refine Sx.putfV dX4_closeBracket_11 lkp_X4_20_4 (o_107 W) rfl rfl (fun I1 e1 o1 => ?_)
  refine Sx.aload_n dX4_closeBracket_14 rfl ?_
  refine Sx.dup dX4_closeBracket_15 rfl ?_
  refine Sx.getfV (v := (nI (M 3))) dX4_closeBracket_16 lkf_X4_27_4 (o_107 W) (by rw [e1, upd_nj _ _ (by decide)]; exact hL.1 3 (by decide) (by decide)) ?_
  refine Sx.iconst (v := (nI 1)) dX4_closeBracket_19 (by decide) ?_
  refine Sx.isubN dX4_closeBracket_20 (by omega) ?_
  refine Sx.putfV dX4_closeBracket_21 lkp_X4_27_4 (o_107 W) rfl rfl (fun I2 e2 o2 => ?_)
  refine Sx.vret dX4_closeBracket_24 rfl ?_
  have h1 : LR I1 (upn M 1 (M 1 - 1)) S := hL.w1 (by omega) (by rw [e1, Nat.max_eq_right (Nat.zero_le _)]) o1
  refine h I2 ?_ (fun q q1 => by rw [o2 q q1, o1 q q1])
  have h2 := h1.up (I' := I2) (j := 3) (v := M 3 - 1) (by decide) (by rw [e2]) o2
  exact h2
