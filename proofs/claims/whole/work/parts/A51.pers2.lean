/-! a person's answer, or none: what is thrown, what catches it -/
def jkZ (Z : Zt) (k : Nat) : Zt := (Z.1 + k, fun q => if q < Z.1 then Z.2 q else (99, 0))
theorem Hp.junk {G : Gt} {Z : Zt} {R : Rt} {I : It} {L : Lt} {H H' : Heap} (h : Hp G Z R I L H) (hs : H.size ≤ H'.size) (ho : ∀ q : Nat, q < H.size → H'[q]? = H[q]?) : Hp G (jkZ Z (H'.size - H.size)) R I L H' := by
  have h1 := h.1
  have h2 := h.2.1
  refine ⟨Nat.le_trans h.1 (Nat.le_add_right _ _), ?_, fun k k1 k2 k9 => ?_⟩
  · show H'.size = G.1 + (Z.1 + (H'.size - H.size) - 100)
    omega
  · by_cases c : k < Z.1
    · have e : (jkZ Z (H'.size - H.size)).2 k = Z.2 k := if_pos c
      rw [e] at k9 ⊢
      refine (h.2.2 k k1 c k9).kept (ho _ ?_)
      rw [ad_reg k1]
      omega
    · have e : (jkZ Z (H'.size - H.size)).2 k = (99, 0) := if_neg c
      rw [e] at k9
      exact absurd rfl k9
theorem WF.junk {Z : Zt} {R : Rt} (h : WF Z R) (k : Nat) : WF (jkZ Z k) R := by
  refine ⟨Nat.le_trans h.1 (Nat.le_add_right _ _), fun i q hq => ?_, h.2.2⟩
  have hi : i < 180 := by rw [← sh_len]; exact (List.getElem?_eq_some_iff.mp hq).1
  have h1 := h.1
  show (if 100 + i < Z.1 then Z.2 (100 + i) else (99, 0)) = q
  rw [if_pos (by omega)]
  exact h.2.1 i q hq
def XCp (G : Gt) (Z : Zt) (R : Rt) (I : It) (L : Lt) : String → State → State → Prop := fun E st t => E = nseC ∧ (∃ k, Hp G (jkZ Z k) R I L t.heap) ∧ va_F (gA G) st t
theorem SY.throw {G : Gt} {l : Launch} {μ : Mi} {d bc bs pc : Nat} {lv : List (Nat × Value)} {Z : Zt} {R : Rt} {I : It} {L : Lt} {post : Pt'} (hl : l.stackTraces = false) (hμ : μ.1.cls = RX11) (d0 : decode μ.2.1 pc = .ok (.new 192, 3)) (d3 : decode μ.2.1 (pc + 3) = .ok (.dup, 1)) (d4 : decode μ.2.1 (pc + 4) = .ok (.invokespecial 194, 3)) (d7 : decode μ.2.1 (pc + 7) = .ok (.athrow, 1)) (hd : 6 ≤ d) (hc : 1 ≤ bc) (hs : 6 ≤ bs) : SY [] (XCp G Z R I L) G l μ d bc bs pc lv [] Z R I L post := by
  intro p e s m args below meth c mc ms E hY0 H locs cells slots ls a1 a2 hS hH hl2
  have hts := E.2.2.2.2.2.1
  refine vx_throw0 E.1 E.2.1 hl (own := RX11) (cls := nseC) (names := nseN) (ik := 192) (ic := 194) (A := gA G) (by rw [← hμ]; exact E.2.2.2.2.1) (by decide +kernel) (by decide +kernel) (hts _ (TB.of (th_m _ (by simp)) (th_mg _ (by simp)))) (hts _ (TB.of (th_m _ (by simp)) (th_mg _ (by simp)))) (hY0.1.hat hts) th_ot hY0.1.1 hY0.1.2.1 hS (hl2.1.trans E.2.2.2.1.symm) d0 d3 d4 d7 (fun x hx => by rw [hY0.2] at hx; cases hx) ?_ ?_ ?_ ?_ E.2.2.2.2.2.2.1 ?_ hS.2.2 (by omega) (by omega)
  · show 2 + 3 < d; omega
  · show 0 + (13 * (2 + 1) + 42) ≤ 100 * d; omega
  · show cells + 1 ≤ mc; omega
  · show slots + 6 ≤ ms; omega
  · intro t _ h1 h2
    exact ⟨rfl, ⟨_, hH.junk h1 h2⟩, Nat.le_trans hS.1 h1, fun q q1 q2 => (h2 q (Nat.lt_of_lt_of_le q1 hS.1)).trans (hS.2.1 q q1 q2)⟩
/-- a contract's start, with what a throw wants -/
def Pcy (G : Gt) (As : List Value) (Z : Zt) (R : Rt) (I : It) (L : Lt) : Array Value → State → Prop := fun a U => Pcx G As Z R I L a U ∧ XT G U
theorem Pcy.blind {G : Gt} {As : List Value} {Z : Zt} {R : Rt} {I : It} {L : Lt} : FrameBlind (Pcy G As Z R I L) := by
  intro a U g mk h
  exact ⟨Pcx.blind a U g mk h.1, h.2.blind⟩
abbrev Pt0 : Pt' := fun _ _ _ _ _ => False
set_option maxRecDepth 20000 in
set_option maxHeartbeats 1000000 in
theorem t_person {G : Gt} {l : Launch} {Z : Zt} {R : Rt} {I : It} {L : Lt} {V : Vt} {x y : Int32} (hl : l.stackTraces = false) (W : WF Z R) (C : CI V R I L) (hb : V 2 35 < 2147483648) (hn : ¬ persC V x y) : vx_Met l mX11_person.1 (WS mX11_person) (rm 9 1 6) (Pcy G [.ref 100, .int x, .int y] Z R I L) (Qx G Pt0) (XCp G Z R I L) 1 6 (gA G) := by
  refine vx_ofW (cc := mX11_person.2.1) (maxL := mX11_person.2.2.1) (ret := mX11_person.2.2.2) (by decide +kernel) rfl ?_
  intro p e s m args below meth c s₁ B hml ht hv
  obtain ⟨⟨rfl, hg, hH⟩, hx⟩ := hv
  have hts := atoms_spec (ws := WS mX11_person) B.pre
  have hlv := lv_entry (([.ref 100, .int x, .int y] : List Value).map (tr G)) (n := mX11_person.2.2.1) (by rw [lg_sl_len]; exact Nat.le_of_ble_eq_true rfl)
  rw [lg_entry_eq]
  rw [trL_args] at hlv
  have key : SY [] (XCp G Z R I L) G l mX11_person 9 1 6 0 (lv_args 0 [.ref 100, .int x, .int y]) [] Z R I L Pt0 := by
    have th : SY [] (XCp G Z R I L) G l mX11_person 9 1 6 20 (lv_args 0 [.ref 100, .int x, .int y]) [] Z R I L Pt0 := SY.throw hl rfl dX11_person_20 dX11_person_23 dX11_person_24 dX11_person_27 (by decide) (by decide) (by decide)
    refine SY.aload_n dX11_person_0 rfl ?_
    refine SY.getfR dX11_person_1 lkf_X11_19_11 (o_100 W) (r_100_1 W) ?_
    refine SY.iload_n dX11_person_4 rfl ?_
    refine SY.callV1 (bc' := 1) (bs' := 6) dX11_person_5 lkv_X11_189 (rcv_6 (o_103 W)) (by decide) (by decide) (Nat.le_of_ble_eq_true rfl) rfl rfl (d_isPerson W C.2.1 hb ?_)
    refine SY.if_eq (t := 20) dX11_person_8 (by decide) (fun _ => th) (fun z1 => ?_)
    refine SY.iload_n dX11_person_11 rfl ?_
    refine SY.if_lt (t := 20) dX11_person_12 (by decide) (fun _ => th) (fun z2 => ?_)
    refine SY.iload_n dX11_person_15 rfl ?_
    refine SY.iconst (v := nI 3) dX11_person_16 (by decide) ?_
    refine SY.icmp_le (t := 28) dX11_person_17 (by decide) (fun z3 => ?_) (fun _ => th)
    refine absurd ⟨of_decide_eq_true (b2i_ne.mp z1), ?_, ?_⟩ hn
    · have := Int32.not_lt.mp z2
      have h2 := Int32.le_iff_toInt_le.mp this
      exact h2
    · exact Int32.le_iff_toInt_le.mp z3
  exact key p e s m _ below meth c 1 6 ⟨B.exec, B.bytes, B.returns, hml, findClass_of_methodNamed B.named, fun w hw => hts w (List.mem_cons_of_mem _ hw), B.notSynchronized, (name_of_methodNamed B.named B.method).1, hg⟩ ⟨hx, List.eq_nil_iff_forall_not_mem.mpr ht⟩ s.heap [] 0 0 _ (by omega) (by omega) va_S.rf hH hlv
