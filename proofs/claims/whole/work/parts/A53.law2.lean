/-! the law: person's case, its loop, its start -/
theorem k_thrN {G : Gt} {l : Launch} {Z : Zt} {R : Rt} {I : It} {L : Lt} {post : Pt'} {k : Nat} (W : WF Z R) (hv : I 253 0 = nI k) (h : post (some (.int (nI k))) Z R I L) : Cx G l mX12_thrown 1 0 0 [.ref 253] Z R I L post := k_thrown W (by rw [hv]; exact h)
theorem MI.l {V : Vt} {I : It} {L L' : Lt} (h : MI V I L) (e : L' 269 = L 269) : MI V I L' := by
  unfold MI MI0 at h ⊢
  rw [e]; exact h
theorem th_lnk : Cond.methodLink RL 42 yL_person ∈ lw_tbl ∧ goodWord (Cond.methodLink RL 42 yL_person) = true := by decide +kernel
theorem SX.callP {q0 : Nat × (Nat → Int32)} {G : Gt} {l : Launch} {Z : Zt} {R : Rt} {I : It} {L : Lt} {post : Pt'} {x y : Int32} {lv : List (Nat × Value)} {bc' bs' : Nat}
    (hM : vx_Met l yL_person WSp (rm 20 1 6) (Pcy G [.ref 100, .int x, .int y, .ref 279] Z R I L) (Qx G (fun v Z' R' I' L' => SX q0 G l mL_law 60 bc' bs' (423 + 3) lv (psh v []) Z' R' I' L' post)) XC0 1 6 (gA G)) :
    SX q0 G l mL_law 60 (bc' + 1) (bs' + 6) 423 lv [.ref 279, .int y, .int x, .ref 100] Z R I L post := by
  intro p e s m args below meth c0 mc ms E hX0 H locs cells slots ls a1 a2 hS hH hl
  have hts := E.2.2.2.2.2.1
  have gd : ∀ w, w ∈ lw_tbl → goodWord w = true → w.before args s = true := fun w h g => hts _ (TB.of h g)
  have hcw : vx_CSW (rm 60 mc ms) s args RL 42 yL_person cL_person 5 (some .int) tbP WSp (rm 20 1 6) 1 6 4 := by
    refine ⟨⟨rfl, rfl, (rmok (d' := 20) (mc' := 1) (ms' := 6) (mc := mc) (ms := ms) (n := 5) (d := 60) (by decide) (by decide)).1, (rmok (d' := 20) (mc' := 1) (ms' := 6) (mc := mc) (ms := ms) (n := 5) (d := 60) (by decide) (by decide)).2, pay_in hts WSp_in, List.mem_cons_self⟩, gd _ (th_m _ (by simp)) (th_mg _ (by simp)), gd _ (th_m _ (by simp [yL_person])) (th_mg _ (by simp [yL_person])), by decide +kernel, fun sig h => ?_, gd _ th_lnk.1 th_lnk.2, gd _ (th_m _ (by simp)) (th_mg _ (by simp))⟩
    have h2 : (parseMethodDescriptor yL_person.desc).map (fun d => d.parameters.length) = some 4 := by decide +kernel
    rw [h] at h2
    exact (Option.some.inj h2).symm
  have hrun := vx_runSX (meth := meth) (hh := tbP) (As := ([.ref 100, .int x, .int y, .ref 279] : List Value).map (tr G)) (rest := []) (own := RL) (index := 42) (n := 4) (nL := mL_law.2.2.1) (Ts := TB) (R := rm 60 mc ms) (H := H) (locs := locs) (cells := cells) (slots := slots) (p := p) (e := e) (below := below) (g := F0 m 423 ls (([.ref 279, .int y, .int x, .ref 100] : List Value).map (tr G))) ⟨E.1, E.2.1, E.2.2.2.1, E.2.2.2.2.1, hts⟩ hM hcw ⟨Pcy.blind, fun U hU hW => ⟨⟨rfl, E.2.2.2.2.2.2.2.2.move hS hU hW, by rw [hU]; exact hH⟩, hX0.2.2.2.move hS hU hW⟩⟩ rfl rfl hl.1 rfl (lv_room (Nat.le_of_ble_eq_true rfl)) dL_law_423 ⟨by show cells + 1 ≤ mc; omega, by show slots + 6 ≤ ms; omega⟩
  refine SX.back E hX0 (a := (([.ref 100, .int x, .int y, .ref 279] : List Value).map (tr G)).toArray) (bc' := bc') (bs' := bs') (mc' := 1) (ms' := 6) (rest := []) (fun T hT X => ?_) a1 a2 hS hl
  rcases hrun T hT X with h | ⟨q, st₀, t, T', L1, En, ce, h0, X', hL, e1, e2, hE, -⟩
  · exact h
  · exact absurd hE id
theorem lg_same (x : Int64) : lg_cmp x x = 0 := by
  unfold lg_cmp
  simp
section LAW2
variable {q0 : Nat × (Nat → Int32)} {G : Gt} {l : Launch} {Z : Zt} {R : Rt} {I : It} {L : Lt} {post : Pt'} {V : Vt} {N i bc bs : Nat}
set_option maxRecDepth 20000 in
set_option maxHeartbeats 1000000 in
theorem L_person (hl : l.stackTraces = false) (hi : i + 6 ≤ q0.1) (hq : q0.1 ≤ 3072) (W : WF Z R) (C : CI V R I L) (M : MI V I L) (hG : GG N V) (hN : N < 2147483647) (h : ∀ Z' R' I' L' V', WF Z' R' → CI V' R' I' L' → MI V' I' L' → GG (N + 1) V' → SX q0 G l mL_law 60 bc bs 1581 (lvL i) [] Z' R' I' L' post) : SX q0 G l mL_law 60 (bc + 1) (bs + 6) 409 (lvL i) [] Z R I L post := by
  have hb : V 2 35 < 2147483648 := by have := hG.1.p; omega
  have hG2 : GG (N + 1) V := hG.mono (Nat.le_succ N)
  refine SX.aload_n dL_law_409 rfl ?_
  refine SX.arg (k := 1) hi hq (by decide) rfl rfl dL_law_410 dL_law_411 dL_law_413 rfl dL_law_414 dL_law_415 ?_
  refine SX.arg (k := 2) hi hq (by decide) rfl rfl dL_law_416 dL_law_417 dL_law_419 rfl dL_law_420 dL_law_421 ?_
  refine SX.aload_n dL_law_422 rfl ?_
  refine SX.callP (c_Lp hl W C hG hN hb (fun hc => ?_) (fun hc k => ?_))
  · refine SX.istore (lv' := (5, .int (nI 0)) :: lvL i) dL_law_426 (by decide) rfl ?_
    refine SX.aload_n dL_law_428 rfl ?_
    refine SX.arg (k := 1) hi hq (by decide) rfl rfl dL_law_429 dL_law_430 dL_law_432 rfl dL_law_433 dL_law_434 ?_
    refine SX.arg (k := 2) hi hq (by decide) rfl rfl dL_law_435 dL_law_436 dL_law_438 rfl dL_law_439 dL_law_440 ?_
    refine SX.callV2 dL_law_441 lkv_L_47 (rcv_12 (o_253 W)) (by decide) (by decide) (Nat.le_of_ble_eq_true rfl) rfl rfl (k_person W (M.l (by unfold up2L; exact mu_ne _ _ (by decide))) hG.1 hN (fun I2 hc2 m2 f2 t2 => ?_) (fun I2 n2 _ _ _ => absurd hc n2))
    refine SX.istore (lv' := (6, .int (persN V (xN (q0.2 (i + 1))) (xN (q0.2 (i + 2))))) :: (5, .int (nI 0)) :: lvL i) dL_law_444 (by decide) rfl ?_
    refine SX.aload_n dL_law_446 rfl ?_
    refine SX.callV0 dL_law_447 lkv_L_48 (rcv_12 (o_253 W)) (by decide) (by decide) (Nat.le_of_ble_eq_true rfl) rfl rfl (k_thrN (k := 0) W t2 ?_)
    refine SX.iload dL_law_450 rfl ?_
    refine SX.icmp_eq (t := 457) dL_law_452 (by decide) (fun _ => ?_) (fun z => absurd rfl z)
    refine SX.iload dL_law_457 rfl ?_
    refine SX.if_ne (t := 474) dL_law_459 (by decide) (fun z => absurd rfl z) (fun _ => ?_)
    refine SX.aload_n dL_law_462 rfl ?_
    refine SX.iconst (v := nI 0) dL_law_463 (by decide) ?_
    refine SX.lald dL_law_464 (a_279 W) (vp_in_nI (n := 0) (by decide) (by decide)) ?_
    refine SX.iload dL_law_465 rfl ?_
    refine SX.i2l dL_law_467 ?_
    refine SX.lcmp dL_law_468 ?_
    refine SX.if_eq (t := 474) dL_law_469 (by decide) (fun _ => ?_) (fun z => absurd (by rw [nI_clamp (by decide)]; unfold up2L; rw [mu_eq]; simp only [vp_updL]; rw [if_pos trivial]; exact lg_same _) z)
    refine SX.goto (t := 1581) dL_law_474 (by decide) ?_
    refine SX.sub (lvL i) (fun q hq => List.mem_cons_of_mem _ (List.mem_cons_of_mem _ hq)) ?_
    exact h Z R I2 _ V W (CI.fm (show CI V R I (up2L L 279 0 (persN V (xN (q0.2 (i + 1))) (xN (q0.2 (i + 2)))).toInt64) from C) hG2 f2) m2 hG2
  · have W2 := W.junk k
    refine SX.istore (lv' := (5, .int (nI 1)) :: lvL i) dL_law_426 (by decide) rfl ?_
    refine SX.aload_n dL_law_428 rfl ?_
    refine SX.arg (k := 1) hi hq (by decide) rfl rfl dL_law_429 dL_law_430 dL_law_432 rfl dL_law_433 dL_law_434 ?_
    refine SX.arg (k := 2) hi hq (by decide) rfl rfl dL_law_435 dL_law_436 dL_law_438 rfl dL_law_439 dL_law_440 ?_
    refine SX.callV2 dL_law_441 lkv_L_47 (rcv_12 (o_253 W2)) (by decide) (by decide) (Nat.le_of_ble_eq_true rfl) rfl rfl (k_person W2 M hG.1 hN (fun I2 hc2 _ _ _ => absurd hc2 hc) (fun I2 n2 m2 f2 t2 => ?_))
    refine SX.istore (lv' := (6, .int (nI 0)) :: (5, .int (nI 1)) :: lvL i) dL_law_444 (by decide) rfl ?_
    refine SX.aload_n dL_law_446 rfl ?_
    refine SX.callV0 dL_law_447 lkv_L_48 (rcv_12 (o_253 W2)) (by decide) (by decide) (Nat.le_of_ble_eq_true rfl) rfl rfl (k_thrN (k := 1) W2 t2 ?_)
    refine SX.iload dL_law_450 rfl ?_
    refine SX.icmp_eq (t := 457) dL_law_452 (by decide) (fun _ => ?_) (fun z => absurd rfl z)
    refine SX.iload dL_law_457 rfl ?_
    refine SX.if_ne (t := 474) dL_law_459 (by decide) (fun _ => ?_) (fun z => absurd z (by decide))
    refine SX.goto (t := 1581) dL_law_474 (by decide) ?_
    refine SX.sub (lvL i) (fun q hq => List.mem_cons_of_mem _ (List.mem_cons_of_mem _ hq)) ?_
    exact h (jkZ Z k) R I2 L V W2 (C.fm hG2 f2) m2 hG2
end LAW2
