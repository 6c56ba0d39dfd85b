/-! entries of the constant tables, parties -/
set_option maxRecDepth 20000 in
set_option maxHeartbeats 1000000 in
theorem c_entry {G : Gt} {l : Launch} {Z : Zt} {R : Rt} {I : It} {L : Lt} {post : Pt'} {a : Nat} {r : String × String × String × Nat × List Int32} {j : Nat} (hr : stc[a]? = some r) (hk : a < 100) (ht : r.2.2.2.1 = 50) (hn : r.2.2.2.2.length < 1000) (hj : j < r.2.2.2.2.length) (h : post (some (.int (lsF r.2.2.2.2 j))) Z R I L) : Cx G l mX11_entry 1 0 0 [.ref a, .int (nI j)] Z R I L post := by
  refine Cx.of (by decide +kernel) (by exact Nat.le_of_ble_eq_true rfl) ?_
  refine Sx.aload_n dX11_entry_0 rfl ?_
  refine Sx.ifnull dX11_entry_1 ?_
  refine Sx.iload_n dX11_entry_4 rfl ?_
  refine Sx.if_lt (t := 20) dX11_entry_5 (by decide) (fun c5 => absurd c5 (by intro q; exact absurd ((n_lt (b := 0) (by omega) (by decide)).mp q) (by omega))) (fun c5 => ?_)
  refine Sx.iload_n dX11_entry_8 rfl ?_
  refine Sx.aload_n dX11_entry_9 rfl ?_
  refine Sx.alenS dX11_entry_10 hr hk rfl ?_
  refine Sx.icmp_ge (t := 20) dX11_entry_11 (by decide) (fun c11 => absurd c11 (by intro q; exact absurd ((n_le (a := r.2.2.2.2.length) (by omega) (by omega)).mp q) (by omega))) (fun c11 => ?_)
  refine Sx.aload_n dX11_entry_14 rfl ?_
  refine Sx.iload_n dX11_entry_15 rfl ?_
  refine Sx.ialdS dX11_entry_16 hr hk ht (vp_in_nI (by omega) (by omega)) ?_
  refine Sx.goto (t := 21) dX11_entry_17 (by decide) ?_
  refine Sx.iret dX11_entry_21 rfl rfl ?_
  rw [nI_clamp (by omega)]
  exact h
