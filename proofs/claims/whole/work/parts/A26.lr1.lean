/-! the class: the reader of laws: small steps.
The reader's state: M j = field j of object 107 (1 waits 2 phase 3 nested 4 rounds 5 squares 6 conditional 7 answering 8 compared), S = what waits -/
def LR (I : It) (M S : Nat → Nat) : Prop := (∀ j, 1 ≤ j → j ≤ 8 → I 107 j = nI (M j)) ∧ (∀ j, j < M 1 → I 109 j = nI (S j)) ∧ M 1 ≤ 64
/-- how strongly a sign binds -/
def stN (s : Nat) : Nat := if s = 124 then 1 else if s = 38 then 2 else if s = 33 then 3 else if s = 61 ∨ s = 60 ∨ s = 62 then 4 else if s = 43 ∨ s = 45 then 5 else if s = 42 ∨ s = 47 then 6 else 0
theorem LR.up {I I' : It} {M S : Nat → Nat} {j v : Nat} (h : LR I M S) (hj : 1 < j ∧ j ≤ 8) (e : I' 107 = upd (I 107) j (nI v)) (o : ∀ q, q ≠ 107 → I' q = I q) : LR I' (upn M j v) S := by
  refine ⟨fun k k1 k2 => ?_, fun k hk => ?_, ?_⟩
  · rw [e]
    by_cases c : k = j
    · rw [c, upd_at, upn_eq]
    · rw [upd_nj _ _ c, upn_ne _ _ c]; exact h.1 k k1 k2
  · rw [upn_ne _ _ (by omega)] at hk
    rw [o 109 (by decide)]; exact h.2.1 k hk
  · rw [upn_ne _ _ (by omega)]; exact h.2.2
theorem LR.w1 {I I' : It} {M S : Nat → Nat} {v : Nat} (h : LR I M S) (hv : v ≤ M 1) (e : I' 107 = upd (I 107) 1 (nI v)) (o : ∀ q, q ≠ 107 → I' q = I q) : LR I' (upn M 1 v) S := by
  refine ⟨fun k k1 k2 => ?_, fun k hk => ?_, ?_⟩
  · rw [e]
    by_cases c : k = 1
    · rw [c, upd_at, upn_eq]
    · rw [upd_nj _ _ c, upn_ne _ _ c]; exact h.1 k k1 k2
  · rw [upn_eq] at hk
    rw [o 109 (by decide)]; exact h.2.1 k (by omega)
  · rw [upn_eq]; exact Nat.le_trans hv h.2.2
set_option maxRecDepth 20000 in
set_option maxHeartbeats 1000000 in
theorem d_mayEnd {G : Gt} {l : Launch} {Z : Zt} {R : Rt} {I : It} {L : Lt} {post : Pt'} {M S : Nat → Nat} (W : WF Z R) (hL : LR I M S) (hb : ∀ j, j ≤ 8 → M j < 1000) (h : post (some (.int (b2i (decide (M 2 = 4 ∧ M 5 = 0 ∧ M 4 = 0 ∧ (M 7 ≠ 0 ∨ M 6 = 0)))))) Z R I L) : Cx G l mX4_mayEnd 1 0 0 [.ref 107] Z R I L post := by
  refine Cx.of (by decide +kernel) (by exact Nat.le_of_ble_eq_true rfl) ?_
  have b2 := hb 2 (by decide)
  have b4 := hb 4 (by decide)
  have b5 := hb 5 (by decide)
  have b6 := hb 6 (by decide)
  have b7 := hb 7 (by decide)
  refine Sx.aload_n dX4_mayEnd_0 rfl ?_
  refine Sx.getfV (v := (nI (M 2))) dX4_mayEnd_1 lkf_X4_24_4 (o_107 W) (hL.1 2 (by decide) (by decide)) ?_
  refine Sx.iconst (v := (nI 4)) dX4_mayEnd_4 (by decide) ?_
  refine Sx.icmp_neV (t := 40) dX4_mayEnd_5 (by decide) (vN (by omega)) (vN (by decide)) (fun c5 => ?_) (fun c5 => ?_)
  · refine Sx.iconst (v := (nI 0)) dX4_mayEnd_40 (by decide) ?_
    refine Sx.top (show _ = b2i false from rfl) ?_
    refine Sx.iret dX4_mayEnd_41 rfl (b2i_n _) ?_
    exact pBB (decide_eq_false (by omega)) h
  · refine Sx.aload_n dX4_mayEnd_8 rfl ?_
    refine Sx.getfV (v := (nI (M 5))) dX4_mayEnd_9 lkf_X4_33_4 (o_107 W) (hL.1 5 (by decide) (by decide)) ?_
    refine Sx.if_neV (t := 40) dX4_mayEnd_12 (by decide) (vN (by omega)) (fun c12 => ?_) (fun c12 => ?_)
    · refine Sx.iconst (v := (nI 0)) dX4_mayEnd_40 (by decide) ?_
      refine Sx.top (show _ = b2i false from rfl) ?_
      refine Sx.iret dX4_mayEnd_41 rfl (b2i_n _) ?_
      exact pBB (decide_eq_false (by omega)) h
    · refine Sx.aload_n dX4_mayEnd_15 rfl ?_
      refine Sx.getfV (v := (nI (M 4))) dX4_mayEnd_16 lkf_X4_30_4 (o_107 W) (hL.1 4 (by decide) (by decide)) ?_
      refine Sx.if_neV (t := 40) dX4_mayEnd_19 (by decide) (vN (by omega)) (fun c19 => ?_) (fun c19 => ?_)
      · refine Sx.iconst (v := (nI 0)) dX4_mayEnd_40 (by decide) ?_
        refine Sx.top (show _ = b2i false from rfl) ?_
        refine Sx.iret dX4_mayEnd_41 rfl (b2i_n _) ?_
        exact pBB (decide_eq_false (by omega)) h
      · refine Sx.aload_n dX4_mayEnd_22 rfl ?_
        refine Sx.getfV (v := (nI (M 7))) dX4_mayEnd_23 lkf_X4_40_4 (o_107 W) (hL.1 7 (by decide) (by decide)) ?_
        refine Sx.if_neV (t := 36) dX4_mayEnd_26 (by decide) (vN (by omega)) (fun c26 => ?_) (fun c26 => ?_)
        · refine Sx.iconst (v := (nI 1)) dX4_mayEnd_36 (by decide) ?_
          refine Sx.goto (t := 41) dX4_mayEnd_37 (by decide) ?_
          refine Sx.top (show _ = b2i true from rfl) ?_
          refine Sx.iret dX4_mayEnd_41 rfl (b2i_n _) ?_
          exact pBB (decide_eq_true (by omega)) h
        · refine Sx.aload_n dX4_mayEnd_29 rfl ?_
          refine Sx.getfV (v := (nI (M 6))) dX4_mayEnd_30 lkf_X4_36_4 (o_107 W) (hL.1 6 (by decide) (by decide)) ?_
          refine Sx.if_neV (t := 40) dX4_mayEnd_33 (by decide) (vN (by omega)) (fun c33 => ?_) (fun c33 => ?_)
          · refine Sx.iconst (v := (nI 0)) dX4_mayEnd_40 (by decide) ?_
            refine Sx.top (show _ = b2i false from rfl) ?_
            refine Sx.iret dX4_mayEnd_41 rfl (b2i_n _) ?_
            exact pBB (decide_eq_false (by omega)) h
          · refine Sx.iconst (v := (nI 1)) dX4_mayEnd_36 (by decide) ?_
            refine Sx.goto (t := 41) dX4_mayEnd_37 (by decide) ?_
            refine Sx.top (show _ = b2i true from rfl) ?_
            refine Sx.iret dX4_mayEnd_41 rfl (b2i_n _) ?_
            exact pBB (decide_eq_true (by omega)) h
