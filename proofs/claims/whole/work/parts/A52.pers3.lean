/-! the law's own person: it catches -/
abbrev mL_person : Mi := (yL_person, cL_person, 5, some .int)
abbrev tbP : List (Nat × Nat × Nat × Nat) := [(0, 10, 13, 13)]
def WSp : List Cond := Cond.codeWith yL_person cL_person 5 (some .int) tbP :: TB
theorem WSp_in : GoodIn TB WSp := by
  intro w hw
  rcases List.mem_cons.mp hw with rfl | h1
  · exact ⟨TB.of (th_m _ (by simp)) (th_mg _ (by simp)), good_of_word (th_mg _ (by simp))⟩
  · exact ⟨h1, TB_good h1⟩
def XC0 : String → State → State → Prop := fun _ _ _ => False
/-- the call that throws, and what catches it -/
theorem SY.callTh {G : Gt} {l : Launch} {Z : Zt} {R : Rt} {I : It} {L : Lt} {post : Pt'} {x y : Int32} {lv : List (Nat × Value)} (Wf : WF Z R) (hlv : lv = [(0, .ref 100), (1, .int x), (2, .int y), (3, .ref 279)])
    (hM : vx_Met l mX11_person.1 (WS mX11_person) (rm 9 1 6) (Pcy G [.ref 100, .int x, .int y] Z R I L) (Qx G Pt0) (XCp G Z R I L) 1 6 (gA G))
    (kk : ∀ k, SY (tableOf tbP) XC0 G l mL_person 20 0 0 15 lv [] (jkZ Z k) R I L post) :
    SY (tableOf tbP) XC0 G l mL_person 20 1 6 5 lv [.int y, .int x, .ref 100, .int (nI 0), .ref 279] Z R I L post := by
  intro p e s m args below meth c0 mc ms E hY0 H locs cells slots ls a1 a2 hS hH hl
  have hts := E.2.2.2.2.2.1
  have hr : rcv Z 100 mX11_person.1.cls := rcv_11 (o_100 Wf)
  obtain ⟨k1, k2, k3, k4, k5, k6⟩ := lkv_L_7
  have hrun := vx_runV (meth := meth) (mc := 1) (ms := 6) (As := ([.int x, .int y] : List Value).map (tr G)) (rest := ([.int (nI 0), .ref 279] : List Value).map (tr G)) (b := ad G 100) (own := mL_person.1.cls) (C := mX11_person.1.cls) (index := 7) (n := 2) (nL := mL_person.2.2.1) (Ts := TB) (R := rm 20 mc ms) (H := H) (locs := locs) (cells := cells) (slots := slots) (l := l) (p := p) (e := e) (below := below) (g := F0 m 5 ls (([.int y, .int x, .ref 100, .int (nI 0), .ref 279] : List Value).map (tr G))) ⟨E.1, E.2.1, E.2.2.2.1, E.2.2.2.2.1, hts⟩ hM ⟨callB_of 2 hts (WS_in k5) rfl rfl rfl (hts _ k4) (hts _ k1) k6 (rmok (by decide) (by decide)), hts _ k2, hts _ k3⟩ ⟨Pcy.blind, Rcv.cell hr E.2.2.2.2.2.2.2.2 hS hH, fun U hU hW => ⟨⟨rfl, E.2.2.2.2.2.2.2.2.move hS hU hW, by rw [hU]; exact hH⟩, hY0.1.move hS hU hW⟩⟩ rfl rfl hl.1 rfl (lv_room (Nat.le_of_ble_eq_true rfl)) dL_person_5 ⟨by show cells + 1 ≤ mc; omega, by show slots + 6 ≤ ms; omega⟩
  intro T hT X
  rcases hrun T hT X with ⟨v, st₀, t, T', L1, h0, X', hL, e1, e2, ⟨⟨v', Z', R', I', L', hv, hp, hh⟩, hF⟩, stp⟩ | ⟨q, st₀, t, T', L1, En, ce, h0, X', hL, e1, e2, ⟨hE, ⟨k, hk⟩, hz, hq⟩, hce, hcv, hcl, stp⟩
  · exact absurd hp id
  · rw [h0] at hz hq
    have hS' : va_S (gA G) s.heap T'.heap (locs ++ L1) := ⟨Nat.le_trans hS.1 (by rw [e1]; exact hz), fun q h1 h2 => by rw [e1, hq q (Nat.lt_of_lt_of_le h1 hS.1) h2]; exact hS.2.1 q h1 h2, fun q hq => by
      rcases List.mem_append.mp hq with h | h
      · exact hS.2.2 q h
      · exact hL q h⟩
    have hH' : Hp G (jkZ Z k) R I L T'.heap := by rw [e1]; exact hk
    have hb : W p l e (rm 20 mc ms) s m args below meth c0 T'.heap (locs ++ L1) (cells + 1) (slots + 6) (vx_MQ below (Qx G post) XC0 args s mc ms (gA G)) (F0 m 13 ls [.ref q]) := by
      refine lv_astore (nL := mL_person.2.2.1) E.1 E.2.1 (i := 4) dL_person_13 hl (by decide) (lv' := (4, .ref q) :: (trL G lv).filter (fun z => !(z.1 == 4) && !(z.1 + 1 == 4 && z.2.category == 2))) rfl (fun ls' hl' => ?_)
      refine kk k p e s m args below meth c0 mc ms E hY0 T'.heap (locs ++ L1) (cells + 1) (slots + 6) ls' (by omega) (by omega) hS' hH' ⟨hl'.1, hl'.2.1, fun z hz => hl'.2.2 z ?_⟩
      subst hlv
      refine List.mem_cons_of_mem _ (List.mem_filter.mpr ⟨hz, ?_⟩)
      have hz' : z ∈ [((0 : Nat), tr G (.ref 100)), (1, tr G (.int x)), (2, tr G (.int y)), (3, tr G (.ref 279))] := hz
      rcases List.mem_cons.mp hz' with rfl | hz'
      · rfl
      rcases List.mem_cons.mp hz' with rfl | hz'
      · rfl
      rcases List.mem_cons.mp hz' with rfl | hz'
      · rfl
      rcases List.mem_cons.mp hz' with rfl | hz'
      · rfl
      · exact absurd hz' List.not_mem_nil
    have hE' : En = nseC := hE
    subst hE'
    have hcat := vx_catch (p := p) (l := l) (e := e) (R := rm 20 mc ms) (s := s) (m := m) (args := args) (below := below) (meth := meth) (c := c0) (H := T'.heap) (locs := locs ++ L1) (cells := cells + 1) (slots := slots + 6) (Q := vx_MQ below (Qx G post) XC0 args s mc ms (gA G)) (own := RL) (name := nseC) (E := nseC) (ce := ce) (q := q) (pc := 5) (ls := ls) (rest := ([.int (nI 0), .ref 279] : List Value).map (tr G)) E.2.2.2.2.1 [] ⟨0, 10, 13, 13⟩ [] hY0.2 (fun z hz => absurd hz List.not_mem_nil) (by decide) (by decide) (hts _ (TB.of (th_m _ (by simp)) (th_mg _ (by simp)))) (va_Nw.use rfl hY0.1.2.2.1) (by rw [e1]; exact hce) hcv hcl hb
    obtain ⟨t2, s2, q2⟩ := hcat T' rfl X'
    exact ⟨t2, stp.trans s2, q2⟩
set_option maxRecDepth 20000 in
set_option maxHeartbeats 1000000 in
theorem c_Lp {G : Gt} {l : Launch} {Z : Zt} {R : Rt} {I : It} {L : Lt} {post : Pt'} {V : Vt} {N : Nat} {x y : Int32} (hl : l.stackTraces = false) (W : WF Z R) (C : CI V R I L) (hG : GG N V) (hN : N < 2147483647) (hb : V 2 35 < 2147483648) (h1 : persC V x y → post (some (.int (nI 0))) Z R I (up2L L 279 0 (persN V (xN x) (xN y)).toInt64)) (h2 : ¬ persC V x y → ∀ k, post (some (.int (nI 1))) (jkZ Z k) R I L) : vx_Met l yL_person WSp (rm 20 1 6) (Pcy G [.ref 100, .int x, .int y, .ref 279] Z R I L) (Qx G post) XC0 1 6 (gA G) := by
  refine vx_ofWH (cc := cL_person) (maxL := 5) (ret := some .int) (hh := tbP) (ws' := TB) (by decide +kernel) rfl ?_
  intro p e s m args below meth c s₁ B hml hv
  obtain ⟨⟨rfl, hg, hH⟩, hx⟩ := hv
  have hts := atoms_spec (ws := WSp) B.pre
  have htb := vx_table (x := yL_person) (y := yL_person) B (hts _ List.mem_cons_self)
  have hlv := lv_entry (([.ref 100, .int x, .int y, .ref 279] : List Value).map (tr G)) (n := 5) (by rw [lg_sl_len]; exact Nat.le_of_ble_eq_true rfl)
  rw [lg_entry_eq]
  rw [trL_args] at hlv
  have key : SY (tableOf tbP) XC0 G l mL_person 20 1 6 0 (lv_args 0 [.ref 100, .int x, .int y, .ref 279]) [] Z R I L post := by
    refine SY.aload_n dL_person_0 rfl ?_
    refine SY.iconst (v := nI 0) dL_person_1 (by decide) ?_
    refine SY.aload_n dL_person_2 rfl ?_
    refine SY.iload_n dL_person_3 rfl ?_
    refine SY.iload_n dL_person_4 rfl ?_
    by_cases hc : persC V x y
    · obtain ⟨a, rfl, ha⟩ := x_ex (x := x) (n := V 2 35) hc.1
      obtain ⟨b, rfl, hb3⟩ := x_ex (x := y) (n := 4) ⟨hc.2.1, by have := hc.2.2; omega⟩
      have e1 : xN (nI a) = a := by unfold xN; rw [nI_toInt (by omega)]; exact Int.toNat_natCast a
      have e2 : xN (nI b) = b := by unfold xN; rw [nI_toInt (by omega)]; exact Int.toNat_natCast b
      refine SY.callV2 (bc' := 1) (bs' := 6) dL_person_5 lkv_L_7 (rcv_11 (o_100 W)) (by decide) (by decide) (Nat.le_of_ble_eq_true rfl) rfl rfl (d_personP W C hG hN ha (by omega) ?_)
      refine SY.i2l dL_person_8 ?_
      refine SY.last dL_person_9 (a_279 W) (vp_in_nI (n := 0) (by decide) (by decide)) ?_
      refine SY.goto (t := 17) dL_person_10 (by decide) ?_
      refine SY.iconst (v := nI 0) dL_person_17 (by decide) ?_
      refine SY.iret dL_person_18 rfl rfl ?_
      have := h1 hc
      rw [e1, e2] at this
      exact this
    · refine SY.callTh W rfl (t_person hl W C hb hc) (fun k => ?_)
      refine SY.iconst (v := nI 1) dL_person_15 (by decide) ?_
      refine SY.iret dL_person_16 rfl rfl ?_
      exact h2 hc k
  exact key p e s m _ below meth c 1 6 ⟨B.exec, B.bytes, B.returns, hml, findClass_of_methodNamed B.named, fun w hw => hts w (List.mem_cons_of_mem _ hw), B.notSynchronized, (name_of_methodNamed B.named B.method).1, hg⟩ ⟨hx, htb⟩ s.heap [] 0 0 _ (by omega) (by omega) va_S.rf hH hlv
