/-! the class: the reader of laws: takesIf, opens -/
theorem LR.o {I I' : It} {M S : Nat → Nat} (h : LR I M S) (o : ∀ q, q = 107 ∨ q = 109 → I' q = I q) : LR I' M S := by
  refine ⟨fun k k1 k2 => ?_, fun k hk => ?_, h.2.2⟩
  · rw [o 107 (Or.inl rfl)]; exact h.1 k k1 k2
  · rw [o 109 (Or.inr rfl)]; exact h.2.1 k hk
theorem TS.o {I I' : It} {T : Nat → Nat} {n c : Nat} (h : TS I T n c) (o : ∀ q, q = 101 ∨ q = 102 → I' q = I q) : TS I' T n c := by
  obtain ⟨h1, h2, h3, h4, h5, h6⟩ := h
  exact ⟨by rw [o 101 (Or.inl rfl)]; exact h1, by rw [o 101 (Or.inl rfl)]; exact h2, h3, h4, fun j hj => by rw [o 102 (Or.inr rfl)]; exact h5 j hj, h6⟩
set_option maxRecDepth 20000 in
set_option maxHeartbeats 1000000 in
theorem d_tIf1 {G : Gt} {l : Launch} {Z : Zt} {R : Rt} {I : It} {L : Lt} {post : Pt'} {M S T : Nat → Nat} {n c nx : Nat} (W : WF Z R) (hL : LR I M S) (hT : TS I T n c) (hc : c < n) (h : ∀ I', TS I' T n (c + 1) → LR I' (upn M 2 nx) S → (∀ q, q ≠ 101 → q ≠ 107 → I' q = I q) → post (some (.int (b2i true))) Z R I' L) : Cx G l mX4_takesIf 2 0 0 [.ref 107, .int (b2i true), .int (nI nx), .ref 101] Z R I L post := by
  refine Cx.of (by decide +kernel) (by exact Nat.le_of_ble_eq_true rfl) ?_
  refine Sx.iload_n dX4_takesIf_0 rfl ?_
  refine Sx.if_eqB (t := 13) dX4_takesIf_1 (by decide) (fun c1 => False.elim (by cases c1)) (fun c1 => ?_)
  refine Sx.aload_n dX4_takesIf_4 rfl ?_
  refine Sx.callV0 dX4_takesIf_5 lkv_X4_68 (rcv_9 (o_101 W)) (by decide) (by decide) (Nat.le_of_ble_eq_true rfl) rfl rfl (c_adv W hT hc (fun I1 t1 a1 o1 => ?_))
  refine Sx.aload_n dX4_takesIf_8 rfl ?_
  refine Sx.iload_n dX4_takesIf_9 rfl ?_
  refine Sx.putfV dX4_takesIf_10 lkp_X4_24_4 (o_107 W) rfl rfl (fun I2 e2 o2 => ?_)
  refine Sx.iload_n dX4_takesIf_13 rfl ?_
  refine Sx.iret dX4_takesIf_14 rfl (b2i_n _) ?_
  exact h I2 (t1.o fun q hq => o2 q (by omega)) ((hL.o (I' := I1) fun q hq => o1 q (by omega)).up (j := 2) (by decide) e2 o2) (fun q q1 q2 => by rw [o2 q q2, o1 q q1])
set_option maxRecDepth 20000 in
set_option maxHeartbeats 1000000 in
theorem d_tIf0 {G : Gt} {l : Launch} {Z : Zt} {R : Rt} {I : It} {L : Lt} {post : Pt'} {nx : Nat} (W : WF Z R) (h : post (some (.int (b2i false))) Z R I L) : Cx G l mX4_takesIf 2 0 0 [.ref 107, .int (b2i false), .int (nI nx), .ref 101] Z R I L post := by
  refine Cx.of (by decide +kernel) (by exact Nat.le_of_ble_eq_true rfl) ?_
  refine Sx.iload_n dX4_takesIf_0 rfl ?_
  refine Sx.if_eqB (t := 13) dX4_takesIf_1 (by decide) (fun c1 => ?_) (fun c1 => False.elim (by cases c1))
  refine Sx.iload_n dX4_takesIf_13 rfl ?_
  refine Sx.iret dX4_takesIf_14 rfl (b2i_n _) ?_
  exact h
