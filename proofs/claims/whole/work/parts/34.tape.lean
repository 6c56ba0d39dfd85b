/-! Tape: the signs of a text -/
def TS (I : It) (T : Nat → Nat) (n c : Nat) : Prop := I 101 1 = nI n ∧ I 101 2 = nI c ∧ n ≤ 240 ∧ c ≤ n ∧ (∀ j, j < n → I 102 j = nI (T j)) ∧ ∀ j, j < n → 0 < T j ∧ T j < 256
def sgn (T : Nat → Nat) (n c : Nat) : Nat := if c < n then T c else 0
/-- the next place that is no blank -/
def skp (T : Nat → Nat) (n : Nat) : Nat → Nat → Nat
  | 0, c => c
  | f + 1, c => if c < n ∧ T c = 32 then skp T n f (c + 1) else c
def nx (T : Nat → Nat) (n c : Nat) : Nat := skp T n (n - c) c
theorem nx_go {T : Nat → Nat} {n c : Nat} (h : c < n) (hb : T c = 32) : nx T n c = nx T n (c + 1) := by
  unfold nx
  rw [show n - c = (n - (c + 1)) + 1 by omega, skp, if_pos ⟨h, hb⟩]
theorem nx_at {T : Nat → Nat} {n c : Nat} (h : ¬ (c < n ∧ T c = 32)) : nx T n c = c := by
  unfold nx
  cases n - c with
  | zero => rfl
  | succ f => rw [skp, if_neg h]
theorem skp_b (T : Nat → Nat) (n : Nat) : ∀ f c, c ≤ skp T n f c ∧ skp T n f c ≤ max n c
  | 0, c => by simp [skp]; omega
  | f + 1, c => by
    unfold skp
    split
    · next h => have := skp_b T n f (c + 1); omega
    · omega
theorem nx_b (T : Nat → Nat) (n c : Nat) : c ≤ nx T n c ∧ nx T n c ≤ max n c := skp_b T n _ c
theorem up2_at (I : It) (a j : Nat) (x : Int32) : up2 I a j x a j = x := by simp [up2, va_up, upd]
theorem up2_ne (I : It) (a j : Nat) (x : Int32) {b : Nat} (h : b ≠ a) : up2 I a j x b = I b := by unfold up2 va_up; rw [if_neg h]
theorem up2_nj (I : It) (a j : Nat) (x : Int32) {k : Nat} (h : k ≠ j) : up2 I a j x a k = I a k := by simp [up2, va_up, upd, h]
theorem TS.mv {I : It} {T : Nat → Nat} {n c : Nat} (h : TS I T n c) (d : Nat) (hd : d ≤ n) (v : Int32) (hv : v = nI d) : TS (up2 I 101 2 v) T n d :=
  ⟨by rw [up2_nj _ _ _ _ (by decide)]; exact h.1, by rw [up2_at, hv], h.2.2.1, hd, fun j hj => by rw [up2_ne _ _ _ _ (by decide)]; exact h.2.2.2.2.1 j hj, h.2.2.2.2.2⟩
set_option maxRecDepth 20000 in
set_option maxHeartbeats 1000000 in
theorem c_cur {G : Gt} {l : Launch} {Z : Zt} {R : Rt} {I : It} {L : Lt} {post : Pt'} {T : Nat → Nat} {n c : Nat} (W : WF Z R) (hT : TS I T n c) (h : post (some (.int (nI c))) Z R I L) : Cx G l mX9_cursor 1 0 0 [.ref 101] Z R I L post := by
  refine Cx.of (by decide +kernel) (by exact Nat.le_of_ble_eq_true rfl) ?_
  refine Sx.aload_n dX9_cursor_0 rfl ?_
  refine Sx.getfI dX9_cursor_1 lkf_X9_19_9 (o_101 W) ?_
  refine Sx.iret dX9_cursor_4 rfl rfl ?_
  rw [hT.2.1]
  exact h
set_option maxRecDepth 20000 in
set_option maxHeartbeats 1000000 in
theorem c_len {G : Gt} {l : Launch} {Z : Zt} {R : Rt} {I : It} {L : Lt} {post : Pt'} {T : Nat → Nat} {n c : Nat} (W : WF Z R) (hT : TS I T n c) (h : post (some (.int (nI n))) Z R I L) : Cx G l mX9_length 1 0 0 [.ref 101] Z R I L post := by
  refine Cx.of (by decide +kernel) (by exact Nat.le_of_ble_eq_true rfl) ?_
  refine Sx.aload_n dX9_length_0 rfl ?_
  refine Sx.getfI dX9_length_1 lkf_X9_15_9 (o_101 W) ?_
  refine Sx.iret dX9_length_4 rfl rfl ?_
  rw [hT.1]
  exact h
set_option maxRecDepth 20000 in
set_option maxHeartbeats 1000000 in
theorem c_num {G : Gt} {l : Launch} {Z : Zt} {R : Rt} {I : It} {L : Lt} {post : Pt'}  (W : WF Z R) (h : post (some (.int (I 101 3))) Z R I L) : Cx G l mX9_number 1 0 0 [.ref 101] Z R I L post := by
  refine Cx.of (by decide +kernel) (by exact Nat.le_of_ble_eq_true rfl) ?_
  refine Sx.aload_n dX9_number_0 rfl ?_
  refine Sx.getfI dX9_number_1 lkf_X9_22_9 (o_101 W) ?_
  refine Sx.iret dX9_number_4 rfl rfl ?_
  exact h
set_option maxRecDepth 20000 in
set_option maxHeartbeats 1000000 in
theorem c_rewind {G : Gt} {l : Launch} {Z : Zt} {R : Rt} {I : It} {L : Lt} {post : Pt'} {T : Nat → Nat} {n c : Nat} (W : WF Z R) (hT : TS I T n c) (h : ∀ I', TS I' T n 0 → (I' 101 3 = I 101 3) → (∀ q, q ≠ 101 → I' q = I q) → post none Z R I' L) : Cx G l mX9_rewind 1 0 0 [.ref 101] Z R I L post := by
  refine Cx.of (by decide +kernel) (by exact Nat.le_of_ble_eq_true rfl) ?_
  refine Sx.aload_n dX9_rewind_0 rfl ?_
  refine Sx.iconst (v := 0) dX9_rewind_1 (by decide) ?_
  refine Sx.putfI dX9_rewind_2 lkp_X9_19_9 (o_101 W) rfl rfl ?_
  refine Sx.vret dX9_rewind_5 rfl ?_
  refine h _ (hT.mv 0 (by omega) _ rfl) (up2_nj _ _ _ _ (by decide)) (fun q hq => up2_ne _ _ _ _ hq)
set_option maxRecDepth 20000 in
set_option maxHeartbeats 1000000 in
theorem c_adv {G : Gt} {l : Launch} {Z : Zt} {R : Rt} {I : It} {L : Lt} {post : Pt'} {T : Nat → Nat} {n c : Nat} (W : WF Z R) (hT : TS I T n c) (hc : c < n) (h : ∀ I', TS I' T n (c + 1) → (I' 101 3 = I 101 3) → (∀ q, q ≠ 101 → I' q = I q) → post none Z R I' L) : Cx G l mX9_advance 1 0 0 [.ref 101] Z R I L post := by
  refine Cx.of (by decide +kernel) (by exact Nat.le_of_ble_eq_true rfl) ?_
  refine Sx.aload_n dX9_advance_0 rfl ?_
  refine Sx.dup dX9_advance_1 rfl ?_
  refine Sx.getfI dX9_advance_2 lkf_X9_19_9 (o_101 W) ?_
  refine Sx.iconst (v := 1) dX9_advance_5 (by decide) ?_
  refine Sx.iadd dX9_advance_6 ?_
  refine Sx.putfI dX9_advance_7 lkp_X9_19_9 (o_101 W) rfl rfl ?_
  refine Sx.vret dX9_advance_10 rfl ?_
  refine h _ (hT.mv (c + 1) hc _ (by rw [hT.2.1, nI_1])) (up2_nj _ _ _ _ (by decide)) (fun q hq => up2_ne _ _ _ _ hq)
