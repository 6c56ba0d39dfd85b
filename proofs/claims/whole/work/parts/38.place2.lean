/-! entries of the constant tables, parties -/
set_option maxRecDepth 20000 in
set_option maxHeartbeats 1000000 in
theorem c_entry {G : Gt} {l : Launch} {Z : Zt} {R : Rt} {I : It} {L : Lt} {post : Pt'} {a : Nat} {r : String × String × String × Nat × List Int32} {j : Nat} (hr : stc[a]? = some r) (hk : a < 100) (ht : r.2.2.2.1 = 50) (hn : r.2.2.2.2.length < 1000) (hj : j < r.2.2.2.2.length) (h : post (some (.int (lsF r.2.2.2.2 j))) Z R I L) : Cx G l mX11_entry 1 0 0 [.ref a, .int (nI j)] Z R I L post := by
  refine Cx.of (by decide +kernel) (by exact Nat.le_of_ble_eq_true rfl) ?_
  refine Sx.aload_n dX11_entry_0 rfl ?_
  refine Sx.ifnull dX11_entry_1 ?_
  refine Sx.iload_n dX11_entry_4 rfl ?_
  refine Sx.if_lt (t := 20) dX11_entry_5 (by decide) (fun c5 => absurd c5 (by intro q; exact absurd ((n_lt (b := 0) (by omega) (by decide)).mp q) (by omega))) (fun c5 => ?_)
  refine Sx.iload_n dX11_entry_8 rfl ?_
  refine Sx.aload_n dX11_entry_9 rfl ?_
  refine Sx.alenS dX11_entry_10 hr hk rfl ?_
  refine Sx.icmp_ge (t := 20) dX11_entry_11 (by decide) (fun c11 => absurd c11 (by intro q; exact absurd ((n_le (a := r.2.2.2.2.length) (by omega) (by omega)).mp q) (by omega))) (fun c11 => ?_)
  refine Sx.aload_n dX11_entry_14 rfl ?_
  refine Sx.iload_n dX11_entry_15 rfl ?_
  refine Sx.ialdS dX11_entry_16 hr hk ht (vp_in_nI (by omega) (by omega)) ?_
  refine Sx.goto (t := 21) dX11_entry_17 (by decide) ?_
  refine Sx.iret dX11_entry_21 rfl rfl ?_
  rw [nI_clamp (by omega)]
  exact h
set_option maxRecDepth 20000 in
set_option maxHeartbeats 1000000 in
theorem c_X8_party {G : Gt} {l : Launch} {Z : Zt} {R : Rt} {I : It} {L : Lt} {post : Pt'} {s : Nat} {F : Nat → Nat} {k0 n : Nat} (hr : rwo Z R s 8 146) (hs : rs (I (s + 1)) F) (hb : ∀ j, j < 6 → F j < 2 ^ 24) (hn : n < 7) (hk : k0 < 2 ^ 24) (h : post (some (.int (nI (partyN F k0 n)))) Z R I L) : Cx G l mX8_party 2 0 0 [.ref s, .int (nI k0), .int (nI n)] Z R I L post := by
  refine Cx.of (by decide +kernel) (by exact Nat.le_of_ble_eq_true rfl) ?_
  refine Sx.iconst (v := 0) dX8_party_0 (by decide) ?_
  refine Sx.ist_n (fun zz => [(3, .int zz), (0, .ref s), (1, .int (nI k0)), (2, .int (nI n))]) dX8_party_1 (by decide) (fun _ => rfl) (fun x3_1 ex3_1 => ?_)
  refine Sx.iconst (v := 0) dX8_party_2 (by decide) ?_
  refine Sx.ist (fun zz => [(4, .int zz), (3, .int x3_1), (0, .ref s), (1, .int (nI k0)), (2, .int (nI n))]) dX8_party_3 (by decide) (fun _ => rfl) (fun x4_3 ex4_3 => ?_)
  exact l_X8_party hr hb hn hk (fun I' e => by rw [e]; exact h) (n + 1) 0 (by omega) (by omega) I _ rfl hs ex3_1 _ ex4_3
