/-! Tape: the signs of a text -/
def TS (I : It) (T : Nat → Nat) (n c : Nat) : Prop := I 101 1 = nI n ∧ I 101 2 = nI c ∧ n ≤ 240 ∧ c ≤ n ∧ (∀ j, j < n → I 102 j = nI (T j)) ∧ ∀ j, j < n → 0 < T j ∧ T j < 256
def sgn (T : Nat → Nat) (n c : Nat) : Nat := if c < n then T c else 0
/-- the next place that is no blank -/
def skp (T : Nat → Nat) (n : Nat) : Nat → Nat → Nat
  | 0, c => c
  | f + 1, c => if c < n ∧ T c = 32 then skp T n f (c + 1) else c
def nx (T : Nat → Nat) (n c : Nat) : Nat := skp T n (n - c) c
theorem nx_go {T : Nat → Nat} {n c : Nat} (h : c < n) (hb : T c = 32) : nx T n c = nx T n (c + 1) := by
  unfold nx
  rw [show n - c = (n - (c + 1)) + 1 by omega, skp, if_pos ⟨h, hb⟩]
theorem nx_at {T : Nat → Nat} {n c : Nat} (h : ¬ (c < n ∧ T c = 32)) : nx T n c = c := by
  unfold nx
  cases n - c with
  | zero => rfl
  | succ f => rw [skp, if_neg h]
theorem skp_b (T : Nat → Nat) (n : Nat) : ∀ f c, c ≤ skp T n f c ∧ skp T n f c ≤ max n c
  | 0, c => by simp [skp]; omega
  | f + 1, c => by
    unfold skp
    split
    · next h => have := skp_b T n f (c + 1); omega
    · omega
theorem nx_b (T : Nat → Nat) (n c : Nat) : c ≤ nx T n c ∧ nx T n c ≤ max n c := skp_b T n _ c
theorem up2_at (I : It) (a j : Nat) (x : Int32) : up2 I a j x a j = x := by simp [up2, va_up, upd]
theorem up2_ne (I : It) (a j : Nat) (x : Int32) {b : Nat} (h : b ≠ a) : up2 I a j x b = I b := by unfold up2 va_up; rw [if_neg h]
theorem up2_nj (I : It) (a j : Nat) (x : Int32) {k : Nat} (h : k ≠ j) : up2 I a j x a k = I a k := by simp [up2, va_up, upd, h]
theorem TS.mv {I : It} {T : Nat → Nat} {n c : Nat} (h : TS I T n c) (d : Nat) (hd : d ≤ n) (v : Int32) (hv : v = nI d) : TS (up2 I 101 2 v) T n d :=
  ⟨by rw [up2_nj _ _ _ _ (by decide)]; exact h.1, by rw [up2_at, hv], h.2.2.1, hd, fun j hj => by rw [up2_ne _ _ _ _ (by decide)]; exact h.2.2.2.2.1 j hj, h.2.2.2.2.2⟩
set_option maxRecDepth 20000 in
set_option maxHeartbeats 1000000 in
theorem c_cur {G : Gt} {l : Launch} {Z : Zt} {R : Rt} {I : It} {L : Lt} {post : Pt'} {T : Nat → Nat} {n c : Nat} (W : WF Z R) (hT : TS I T n c) (h : post (some (.int (nI c))) Z R I L) : Cx G l mX9_cursor 1 0 0 [.ref 101] Z R I L post := by
  refine Cx.of (by decide +kernel) (by exact Nat.le_of_ble_eq_true rfl) ?_
  refine Sx.aload_n dX9_cursor_0 rfl ?_
  refine Sx.getfI dX9_cursor_1 lkf_X9_19_9 (o_101 W) ?_
  refine Sx.iret dX9_cursor_4 rfl rfl ?_
  rw [hT.2.1]
  exact h
set_option maxRecDepth 20000 in
set_option maxHeartbeats 1000000 in
theorem c_len {G : Gt} {l : Launch} {Z : Zt} {R : Rt} {I : It} {L : Lt} {post : Pt'} {T : Nat → Nat} {n c : Nat} (W : WF Z R) (hT : TS I T n c) (h : post (some (.int (nI n))) Z R I L) : Cx G l mX9_length 1 0 0 [.ref 101] Z R I L post := by
  refine Cx.of (by decide +kernel) (by exact Nat.le_of_ble_eq_true rfl) ?_
  refine Sx.aload_n dX9_length_0 rfl ?_
  refine Sx.getfI dX9_length_1 lkf_X9_15_9 (o_101 W) ?_
  refine Sx.iret dX9_length_4 rfl rfl ?_
  rw [hT.1]
  exact h
set_option maxRecDepth 20000 in
set_option maxHeartbeats 1000000 in
theorem c_num {G : Gt} {l : Launch} {Z : Zt} {R : Rt} {I : It} {L : Lt} {post : Pt'}  (W : WF Z R) (h : post (some (.int (I 101 3))) Z R I L) : Cx G l mX9_number 1 0 0 [.ref 101] Z R I L post := by
  refine Cx.of (by decide +kernel) (by exact Nat.le_of_ble_eq_true rfl) ?_
  refine Sx.aload_n dX9_number_0 rfl ?_
  refine Sx.getfI dX9_number_1 lkf_X9_22_9 (o_101 W) ?_
  refine Sx.iret dX9_number_4 rfl rfl ?_
  exact h
set_option maxRecDepth 20000 in
set_option maxHeartbeats 1000000 in
theorem c_rewind {G : Gt} {l : Launch} {Z : Zt} {R : Rt} {I : It} {L : Lt} {post : Pt'} {T : Nat → Nat} {n c : Nat} (W : WF Z R) (hT : TS I T n c) (h : ∀ I', TS I' T n 0 → (I' 101 3 = I 101 3) → (∀ q, q ≠ 101 → I' q = I q) → post none Z R I' L) : Cx G l mX9_rewind 1 0 0 [.ref 101] Z R I L post := by
  refine Cx.of (by decide +kernel) (by exact Nat.le_of_ble_eq_true rfl) ?_
  refine Sx.aload_n dX9_rewind_0 rfl ?_
  refine Sx.iconst (v := 0) dX9_rewind_1 (by decide) ?_
  refine Sx.putfI dX9_rewind_2 lkp_X9_19_9 (o_101 W) rfl rfl ?_
  refine Sx.vret dX9_rewind_5 rfl ?_
  refine h _ (hT.mv 0 (by omega) _ rfl) (up2_nj _ _ _ _ (by decide)) (fun q hq => up2_ne _ _ _ _ hq)
set_option maxRecDepth 20000 in
set_option maxHeartbeats 1000000 in
theorem c_adv {G : Gt} {l : Launch} {Z : Zt} {R : Rt} {I : It} {L : Lt} {post : Pt'} {T : Nat → Nat} {n c : Nat} (W : WF Z R) (hT : TS I T n c) (hc : c < n) (h : ∀ I', TS I' T n (c + 1) → (I' 101 3 = I 101 3) → (∀ q, q ≠ 101 → I' q = I q) → post none Z R I' L) : Cx G l mX9_advance 1 0 0 [.ref 101] Z R I L post := by
  refine Cx.of (by decide +kernel) (by exact Nat.le_of_ble_eq_true rfl) ?_
  refine Sx.aload_n dX9_advance_0 rfl ?_
  refine Sx.dup dX9_advance_1 rfl ?_
  refine Sx.getfI dX9_advance_2 lkf_X9_19_9 (o_101 W) ?_
  refine Sx.iconst (v := 1) dX9_advance_5 (by decide) ?_
  refine Sx.iadd dX9_advance_6 ?_
  refine Sx.putfI dX9_advance_7 lkp_X9_19_9 (o_101 W) rfl rfl ?_
  refine Sx.vret dX9_advance_10 rfl ?_
  refine h _ (hT.mv (c + 1) hc _ (by rw [hT.2.1, nI_1])) (up2_nj _ _ _ _ (by decide)) (fun q hq => up2_ne _ _ _ _ hq)
set_option maxRecDepth 20000 in
set_option maxHeartbeats 1000000 in
theorem c_signAt {G : Gt} {l : Launch} {Z : Zt} {R : Rt} {I : It} {L : Lt} {post : Pt'} {T : Nat → Nat} {n c : Nat} {i : Nat} (W : WF Z R) (hT : TS I T n c) (hi : i < 2 ^ 20) (h : post (some (.int (nI (sgn T n i)))) Z R I L) : Cx G l mX9_signAt 1 0 0 [.ref 101, .int (nI i)] Z R I L post := by
  refine Cx.of (by decide +kernel) (by exact Nat.le_of_ble_eq_true rfl) ?_
  obtain ⟨t1, t2, t3, t4, t5, t6⟩ := hT
  refine Sx.iload_n dX9_signAt_0 rfl ?_
  refine Sx.if_lt (t := 30) dX9_signAt_1 (by decide) (fun c1 => absurd c1 (by intro q; exact absurd ((n_lt (b := 0) (by omega) (by decide)).mp q) (by omega))) (fun c1 => ?_)
  refine Sx.iload_n dX9_signAt_4 rfl ?_
  refine Sx.aload_n dX9_signAt_5 rfl ?_
  refine Sx.getfI dX9_signAt_6 lkf_X9_15_9 (o_101 W) ?_
  refine Sx.icmp_ge (t := 30) dX9_signAt_9 (by decide) (fun c9 => ?_) (fun c9 => ?_)
  · refine Sx.iconst (v := 0) dX9_signAt_30 (by decide) ?_
    refine Sx.iret dX9_signAt_31 rfl rfl ?_
    rw [t1] at c9
    have hno : ¬ i < n := by have := (n_le (by omega) (by omega)).mp c9; omega
    rw [sgn, if_neg hno] at h
    exact h
  · rw [t1] at c9
    have hin : i < n := Nat.not_le.mp (fun q => c9 ((n_le (by omega) (by omega)).mpr q))
    refine Sx.iload_n dX9_signAt_12 rfl ?_
    refine Sx.aload_n dX9_signAt_13 rfl ?_
    refine Sx.getfR dX9_signAt_14 lkf_X9_9_9 (o_101 W) (r_101_0 W) ?_
    refine Sx.alen dX9_signAt_17 (a_102 W) (by decide) (by decide) rfl ?_
    refine Sx.icmp_ge (t := 30) dX9_signAt_18 (by decide) (fun c18 => absurd c18 (by intro q; exact absurd ((n_le (a := 240) (by decide) (by omega)).mp q) (by omega))) (fun c18 => ?_)
    refine Sx.aload_n dX9_signAt_21 rfl ?_
    refine Sx.getfR dX9_signAt_22 lkf_X9_9_9 (o_101 W) (r_101_0 W) ?_
    refine Sx.iload_n dX9_signAt_25 rfl ?_
    refine Sx.iald dX9_signAt_26 (a_102 W) (vp_in_nI (by omega) (by omega)) ?_
    refine Sx.goto (t := 31) dX9_signAt_27 (by decide) ?_
    refine Sx.iret dX9_signAt_31 rfl rfl ?_
    rw [sgn, if_pos hin] at h
    rw [nI_clamp (by omega), t5 i hin]
    exact h
set_option maxRecDepth 20000 in
set_option maxHeartbeats 1000000 in
theorem l_next {G : Gt} {l : Launch} {Z : Zt} {R : Rt} {L : Lt} {post : Pt'} {T : Nat → Nat} {n : Nat} (W : WF Z R) : ∀ (k c : Nat), n < c + k → ∀ {I : It} (h : ∀ I', TS I' T n (nx T n c) → (I' 101 3 = I 101 3) → (∀ q, q ≠ 101 → I' q = I q) → post (some (.int (nI (sgn T n (nx T n c))))) Z R I' L) (hT : TS I T n c), Sx G l mX9_nextSign 1 0 0 0 [(0, .ref 101)] [] Z R I L post := by
  intro k
  induction k with
  | zero => intro c h1 I h hT; have := hT.2.2.2.1; omega
  | succ k ih =>
    intro c hk I h hT
    obtain ⟨t1, t2, t3, t4, t5, t6⟩ := hT
    refine Sx.aload_n dX9_nextSign_0 rfl ?_
    refine Sx.getfI dX9_nextSign_1 lkf_X9_19_9 (o_101 W) ?_
    refine Sx.if_lt (t := 67) dX9_nextSign_4 (by decide) (fun c4 => absurd c4 (by rw [t2]; intro q; exact absurd ((n_lt (b := 0) (by omega) (by decide)).mp q) (by omega))) (fun c4 => ?_)
    refine Sx.aload_n dX9_nextSign_7 rfl ?_
    refine Sx.getfI dX9_nextSign_8 lkf_X9_19_9 (o_101 W) ?_
    refine Sx.aload_n dX9_nextSign_11 rfl ?_
    refine Sx.getfI dX9_nextSign_12 lkf_X9_15_9 (o_101 W) ?_
    refine Sx.icmp_ge (t := 67) dX9_nextSign_15 (by decide) (fun c15 => ?_) (fun c15 => ?_)
    · refine Sx.iconst (v := 0) dX9_nextSign_67 (by decide) ?_
      refine Sx.iret dX9_nextSign_68 rfl rfl ?_
      rw [t1, t2] at c15
      have hno : ¬ c < n := by have := (n_le (by omega) (by omega)).mp c15; omega
      rw [nx_at (fun q => hno q.1), sgn, if_neg hno] at h
      exact h I ⟨t1, t2, t3, t4, t5, t6⟩ rfl (fun _ _ => rfl)
    · rw [t1, t2] at c15
      have hin : c < n := Nat.not_le.mp (fun q => c15 ((n_le (by omega) (by omega)).mpr q))
      have hTc := t6 c hin
      refine Sx.aload_n dX9_nextSign_18 rfl ?_
      refine Sx.getfI dX9_nextSign_19 lkf_X9_19_9 (o_101 W) ?_
      refine Sx.aload_n dX9_nextSign_22 rfl ?_
      refine Sx.getfR dX9_nextSign_23 lkf_X9_9_9 (o_101 W) (r_101_0 W) ?_
      refine Sx.alen dX9_nextSign_26 (a_102 W) (by decide) (by decide) rfl ?_
      refine Sx.icmp_ge (t := 67) dX9_nextSign_27 (by decide) (fun c27 => absurd c27 (by rw [t2]; intro q; exact absurd ((n_le (a := 240) (by decide) (by omega)).mp q) (by omega))) (fun c27 => ?_)
      refine Sx.aload_n dX9_nextSign_30 rfl ?_
      refine Sx.getfR dX9_nextSign_31 lkf_X9_9_9 (o_101 W) (r_101_0 W) ?_
      refine Sx.aload_n dX9_nextSign_34 rfl ?_
      refine Sx.getfI dX9_nextSign_35 lkf_X9_19_9 (o_101 W) ?_
      refine Sx.iald dX9_nextSign_38 (a_102 W) (by rw [t2]; exact vp_in_nI (by omega) (by omega)) ?_
      refine Sx.bipush (v := 32) dX9_nextSign_39 (by decide) ?_
      refine Sx.icmp_eq (t := 54) dX9_nextSign_41 (by decide) (fun c41 => ?_) (fun c41 => ?_)
      · refine Sx.aload_n dX9_nextSign_54 rfl ?_
        refine Sx.dup dX9_nextSign_55 rfl ?_
        refine Sx.getfI dX9_nextSign_56 lkf_X9_19_9 (o_101 W) ?_
        refine Sx.iconst (v := 1) dX9_nextSign_59 (by decide) ?_
        refine Sx.iadd dX9_nextSign_60 ?_
        refine Sx.putfI dX9_nextSign_61 lkp_X9_19_9 (o_101 W) rfl rfl ?_
        refine Sx.goto (t := 0) dX9_nextSign_64 (by decide) ?_
        rw [t2, nI_clamp (by omega), t5 c hin] at c41
        have hb : T c = 32 := (n_eq (b := 32) (by omega) (by decide)).mp c41
        refine ih (c + 1) (by omega) (fun I' h1 h2 h3 => ?_) (TS.mv ⟨t1, t2, t3, t4, t5, t6⟩ (c + 1) hin _ (by rw [t2, nI_1]))
        rw [nx_go hin hb] at h
        exact h I' h1 (h2.trans (up2_nj _ _ _ _ (by decide))) (fun q hq => (h3 q hq).trans (up2_ne _ _ _ _ hq))
      · rw [t2, nI_clamp (by omega), t5 c hin] at c41
        have hne : ¬ (c < n ∧ T c = 32) := fun q => c41 (by rw [q.2]; rfl)
        rw [nx_at hne] at h
        refine Sx.aload_n dX9_nextSign_44 rfl ?_
        refine Sx.getfR dX9_nextSign_45 lkf_X9_9_9 (o_101 W) (r_101_0 W) ?_
        refine Sx.aload_n dX9_nextSign_48 rfl ?_
        refine Sx.getfI dX9_nextSign_49 lkf_X9_19_9 (o_101 W) ?_
        refine Sx.iald dX9_nextSign_52 (a_102 W) (by rw [t2]; exact vp_in_nI (by omega) (by omega)) ?_
        refine Sx.iret dX9_nextSign_53 rfl rfl ?_
        rw [t2, nI_clamp (by omega), t5 c hin]
        rw [sgn, if_pos hin] at h
        exact h I ⟨t1, t2, t3, t4, t5, t6⟩ rfl (fun _ _ => rfl)
set_option maxRecDepth 20000 in
set_option maxHeartbeats 1000000 in
theorem c_next {G : Gt} {l : Launch} {Z : Zt} {R : Rt} {I : It} {L : Lt} {post : Pt'} {T : Nat → Nat} {n c : Nat} (W : WF Z R) (hT : TS I T n c) (h : ∀ I', TS I' T n (nx T n c) → (I' 101 3 = I 101 3) → (∀ q, q ≠ 101 → I' q = I q) → post (some (.int (nI (sgn T n (nx T n c))))) Z R I' L) : Cx G l mX9_nextSign 1 0 0 [.ref 101] Z R I L post := by
  refine Cx.of (by decide +kernel) (by exact Nat.le_of_ble_eq_true rfl) ?_
  exact l_next W (n + 1) c (by omega) h hT
