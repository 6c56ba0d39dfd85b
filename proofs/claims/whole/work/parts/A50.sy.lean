/-! bodies that may throw: the judgement again, with what is thrown -/
def SY (t0 : List ExceptionTableEntry) (XC : String → State → State → Prop) (G : Gt) (l : Launch) (μ : Mi) (d : Nat) (bc bs : Nat) (pc : Nat) (lv : List (Nat × Value)) (st : List Value) (Z : Zt) (R : Rt) (I : It) (L : Lt) (post : Pt') : Prop :=
  ∀ (p : Program) (e : Env) (s : State) (m : MethodId) (args : Array Value) (below : List Frame) (meth : Method) (c : Code) (mc ms : Nat), Ev G μ p s m args meth c → (XT G s ∧ c.exceptionTable.toList = t0) →
    ∀ (H : Heap) (locs : List Loc) (cells slots : Nat) (ls : Array Slot), cells + bc ≤ mc → slots + bs ≤ ms → va_S (gA G) s.heap H locs → Hp G Z R I L H → lv_has ls μ.2.2.1 (trL G lv) →
      W p l e (rm d mc ms) s m args below meth c H locs cells slots (vx_MQ below (Qx G post) XC args s mc ms (gA G)) (F0 m pc ls (st.map (tr G)))
section SYY
variable {t0 : List ExceptionTableEntry} {XC : String → State → State → Prop} {G : Gt} {l : Launch} {μ : Mi} {d bc bs pc : Nat} {lv : List (Nat × Value)} {st : List Value} {Z : Zt} {R : Rt} {I : It} {L : Lt} {post : Pt'}
theorem SY.iconst  {n : Int} {v : Int32} (hd : decode μ.2.1 pc = .ok (.iconst n, 1)) (hv : Int32.ofInt n = v) (k : SY t0 XC G l μ d bc bs (pc + 1) lv (.int v :: st) Z R I L post) : SY t0 XC G l μ d bc bs (pc) lv (st) Z R I L post := by
  intro p e s m args below meth c mc ms E hY0 H locs cells slots ls a1 a2 hS hH hl
  exact lv_iconst E.1 E.2.1 hd hv (k p e s m args below meth c mc ms E hY0 H locs cells slots ls a1 a2 hS hH hl)
theorem SY.iload_n  {q : Fin 4} {x : Int32} (hd : decode μ.2.1 pc = .ok (.iload_n q, 1)) (hg : lvg lv (q : Nat) = some (.int x)) (k : SY t0 XC G l μ d bc bs (pc + 1) lv (.int x :: st) Z R I L post) : SY t0 XC G l μ d bc bs (pc) lv (st) Z R I L post := by
  intro p e s m args below meth c mc ms E hY0 H locs cells slots ls a1 a2 hS hH hl
  exact lv_iload_n E.1 E.2.1 hd rfl (lvg_at hl hg) (k p e s m args below meth c mc ms E hY0 H locs cells slots ls a1 a2 hS hH hl)
theorem SY.aload_n  {q : Fin 4} {x : Nat} (hd : decode μ.2.1 pc = .ok (.aload_n q, 1)) (hg : lvg lv (q : Nat) = some (.ref x)) (k : SY t0 XC G l μ d bc bs (pc + 1) lv (.ref x :: st) Z R I L post) : SY t0 XC G l μ d bc bs (pc) lv (st) Z R I L post := by
  intro p e s m args below meth c mc ms E hY0 H locs cells slots ls a1 a2 hS hH hl
  exact lv_aload_n E.1 E.2.1 hd rfl (lvg_at hl hg) (k p e s m args below meth c mc ms E hY0 H locs cells slots ls a1 a2 hS hH hl)
theorem SY.astore  {i : Nat} {lv' : List (Nat × Value)} {x : Nat} (hd : decode μ.2.1 pc = .ok (.astore i, 2)) (hn : i < μ.2.2.1) (he : lvs lv i (.ref x) = lv') (k : SY t0 XC G l μ d bc bs (pc + 2) lv' (st) Z R I L post) : SY t0 XC G l μ d bc bs (pc) lv (.ref x :: st) Z R I L post := by
  intro p e s m args below meth c mc ms E hY0 H locs cells slots ls a1 a2 hS hH hl
  subst he
  exact lv_astore E.1 E.2.1 hd hl hn (trL_lvs G lv i (.ref x)) (fun ls' hl' => k p e s m args below meth c mc ms E hY0 H locs cells slots ls' a1 a2 hS hH hl')
theorem SY.i2l  {x : Int32} (hd : decode μ.2.1 pc = .ok (.i2l, 1)) (k : SY t0 XC G l μ d bc bs (pc + 1) lv (.long x.toInt64 :: st) Z R I L post) : SY t0 XC G l μ d bc bs (pc) lv (.int x :: st) Z R I L post := by
  intro p e s m args below meth c mc ms E hY0 H locs cells slots ls a1 a2 hS hH hl
  exact lv_i2l E.1 E.2.1 hd rfl (k p e s m args below meth c mc ms E hY0 H locs cells slots ls a1 a2 hS hH hl)
theorem SY.if_eq  {x : Int32} {o : Int} {t : Nat} (hd : decode μ.2.1 pc = .ok (.ifCond .eq o, 3)) (ht : (pc : Int) + o = (t : Int)) (kt : (x = 0) → SY t0 XC G l μ d bc bs (t) lv (st) Z R I L post) (kf : ¬ (x = 0) → SY t0 XC G l μ d bc bs (pc + 3) lv (st) Z R I L post) : SY t0 XC G l μ d bc bs (pc) lv (.int x :: st) Z R I L post := by
  intro p e s m args below meth c mc ms E hY0 H locs cells slots ls a1 a2 hS hH hl
  exact lv_if_eq E.1 E.2.1 hd ht (fun h => kt h p e s m args below meth c mc ms E hY0 H locs cells slots ls a1 a2 hS hH hl) (fun h => kf h p e s m args below meth c mc ms E hY0 H locs cells slots ls a1 a2 hS hH hl)
theorem SY.if_lt  {x : Int32} {o : Int} {t : Nat} (hd : decode μ.2.1 pc = .ok (.ifCond .lt o, 3)) (ht : (pc : Int) + o = (t : Int)) (kt : (x < 0) → SY t0 XC G l μ d bc bs (t) lv (st) Z R I L post) (kf : ¬ (x < 0) → SY t0 XC G l μ d bc bs (pc + 3) lv (st) Z R I L post) : SY t0 XC G l μ d bc bs (pc) lv (.int x :: st) Z R I L post := by
  intro p e s m args below meth c mc ms E hY0 H locs cells slots ls a1 a2 hS hH hl
  exact lv_if_lt E.1 E.2.1 hd ht (fun h => kt h p e s m args below meth c mc ms E hY0 H locs cells slots ls a1 a2 hS hH hl) (fun h => kf h p e s m args below meth c mc ms E hY0 H locs cells slots ls a1 a2 hS hH hl)
theorem SY.icmp_le  {x y : Int32} {o : Int} {t : Nat} (hd : decode μ.2.1 pc = .ok (.if_icmp .le o, 3)) (ht : (pc : Int) + o = (t : Int)) (kt : (x ≤ y) → SY t0 XC G l μ d bc bs (t) lv (st) Z R I L post) (kf : ¬ (x ≤ y) → SY t0 XC G l μ d bc bs (pc + 3) lv (st) Z R I L post) : SY t0 XC G l μ d bc bs (pc) lv (.int y :: .int x :: st) Z R I L post := by
  intro p e s m args below meth c mc ms E hY0 H locs cells slots ls a1 a2 hS hH hl
  exact lv_icmp_le E.1 E.2.1 hd ht (fun h => kt h p e s m args below meth c mc ms E hY0 H locs cells slots ls a1 a2 hS hH hl) (fun h => kf h p e s m args below meth c mc ms E hY0 H locs cells slots ls a1 a2 hS hH hl)
theorem SY.goto  {o : Int} {t : Nat} (hd : decode μ.2.1 pc = .ok (.goto o, 3)) (ht : (pc : Int) + o = (t : Int)) (k : SY t0 XC G l μ d bc bs (t) lv (st) Z R I L post) : SY t0 XC G l μ d bc bs (pc) lv (st) Z R I L post := by
  intro p e s m args below meth c mc ms E hY0 H locs cells slots ls a1 a2 hS hH hl
  exact lv_goto E.1 E.2.1 hd ht (k p e s m args below meth c mc ms E hY0 H locs cells slots ls a1 a2 hS hH hl)
theorem SY.getf {i a c j kd : Nat} (hd : decode μ.2.1 pc = .ok (.getfield i, 3)) (hk : LkF μ.1.cls i c j kd) (ha : ob Z a c) (k : SY t0 XC G l μ d bc bs (pc + 3) lv (fv R I L c a j :: st) Z R I L post) : SY t0 XC G l μ d bc bs pc lv (.ref a :: st) Z R I L post := by
  intro p e s m args below meth c0 mc ms E hY0 H locs cells slots ls a1 a2 hS hH hl
  obtain ⟨C, T, N, h1, h2, h3, h4, h5, h6, h7⟩ := hk
  obtain ⟨cell, q1, q2, q3, q4⟩ := hH.obj ha h6 h1 h7
  have hK := E.2.2.2.2.2.2.2.2.1
  obtain ⟨hSl, hfc, kC, hkC, hkind⟩ := hK.1 c _ h1
  obtain ⟨cf, kf, fi, f, hi, hsl⟩ := hSl j h2
  refine W.getf E.1 E.2.1 E.2.2.2.2.1 (E.2.2.2.2.2.1 _ h4) hi (u_facts hfc hkC (u_lays (ws := TB) E.2.2.2.2.2.1 h3 h2) hi).1 q1 (by rw [q3]; exact fun h => by cases h) (v := tr G (fv R I L c a j)) ?_ rfl rfl hd (k p e s m args below meth c0 mc ms E hY0 H locs cells slots ls a1 a2 hS hH hl)
  rw [hsl, q4 j h2]
theorem SY.getfR {i a c j q : Nat} (hd : decode μ.2.1 pc = .ok (.getfield i, 3)) (hk : LkF μ.1.cls i c j 2) (ha : ob Z a c) (hr : R a j = some q) (k : SY t0 XC G l μ d bc bs (pc + 3) lv (.ref q :: st) Z R I L post) : SY t0 XC G l μ d bc bs pc lv (.ref a :: st) Z R I L post :=
  SY.getf hd hk ha (by obtain ⟨C, T, N, h1, h2, h3, h4, h5, h6, h7⟩ := hk; rw [fv_r h5, hr]; exact k)
theorem SY.last {a n : Nat} {i : Int32} {x : Int64} (hd : decode μ.2.1 pc = .ok (.lastore, 1)) (ha : ar Z a 54 n) (hi : vp_in i n) (k : SY t0 XC G l μ d bc bs (pc + 1) lv st Z R I (up2L L a i.toNatClampNeg x) post) : SY t0 XC G l μ d bc bs pc lv (.long x :: .int i :: .ref a :: st) Z R I L post := by
  intro p e s m args below meth c0 mc ms E hY0 H locs cells slots ls a1 a2 hS hH hl
  have hc := hH.arrL ha 0 _ rfl
  refine W.last E.1 E.2.1 (hc : H[ad G a]? = some _) ((E.2.2.2.2.2.2.2.2.1.2 4 _ (tys_at (t := 54) (by decide) (by decide))).1 n (fun j => .long (L a j))) (fun q => by cases q) (by show ¬ (i < 0 ∨ (arrV _ _ _).slots.size ≤ _); rw [arrV_size]; exact hi) rfl rfl hd fun H1 e1 z oq => ?_
  refine k p e s m args below meth c0 mc ms E hY0 H1 _ cells slots ls a1 a2 (hS.put z oq (ad_A ha.1)) (hH.updt ha.1 z ?_ oq (fun k hk => ce_eqL (by simp [up2L, va_up, hk]))) hl
  rw [ha.2.2, ce_arL]
  show H1[ad G a]? = some (vp_cell _ _)
  rw [e1, vp_cell_l, vp_cell_l, arrV_store]
  congr 2
  funext q
  by_cases hq : q = i.toNatClampNeg
  · subst hq
    simp [updV, vp_updL, up2L, va_up]
  · simp [updV, vp_updL, up2L, va_up, hq]
theorem SY.back {p : Program} {e : Env} {s : State} {m : MethodId} {args : Array Value} {below : List Frame} {meth : Method} {c0 : Code} {mc ms : Nat} (E : Ev G μ p s m args meth c0) (hY0 : XT G s ∧ c0.exceptionTable.toList = t0) {H : Heap} {locs : List Loc} {cells slots : Nat} {ls : Array Slot} {bc' bs' mc' ms' : Nat} {rest st0 : List Value} {a : Array Value}
    (hr : va_Run p l e (rm d mc ms) s m args below meth c0 H locs cells slots mc' ms' (F0 m pc ls st0) (rest.map (tr G)) (Qx G (fun v Z' R' I' L' => SY t0 XC G l μ d bc' bs' (pc + 3) lv (psh v rest) Z' R' I' L' post) a) (gA G))
    (a1 : cells + (bc' + mc') ≤ mc) (a2 : slots + (bs' + ms') ≤ ms) (hS : va_S (gA G) s.heap H locs) (hl : lv_has ls μ.2.2.1 (trL G lv)) :
    W p l e (rm d mc ms) s m args below meth c0 H locs cells slots (vx_MQ below (Qx G post) XC args s mc ms (gA G)) (F0 m pc ls st0) := by
  intro T hT X
  obtain ⟨v, st₀, t, T', L1, h0, X', hL, e1, e2, ⟨⟨v', Z', R', I', L', hv, hp, hh⟩, hz, hk⟩, stp⟩ := hr T hT X
  have hv' : v = v'.map (tr G) := Outcome.returned.inj hv
  subst hv'
  rw [h0] at hz hk
  have hst : (v'.map (tr G)).toList ++ rest.map (tr G) = (psh v' rest).map (tr G) := by cases v' <;> rfl
  have hS' : va_S (gA G) s.heap T'.heap (locs ++ L1) := ⟨Nat.le_trans hS.1 (by rw [e1]; exact hz), fun q h1 h2 => by rw [e1, hk q (Nat.lt_of_lt_of_le h1 hS.1) h2]; exact hS.2.1 q h1 h2, fun q hq => by
      rcases List.mem_append.mp hq with h | h
      · exact hS.2.2 q h
      · exact hL q h⟩
  obtain ⟨t2, b1, b2⟩ := hp p e s m args below meth c0 mc ms E hY0 T'.heap (locs ++ L1) (cells + mc') (slots + ms') ls (by omega) (by omega) hS' (by rw [e1]; exact hh) hl T' rfl X'
  rw [← hst] at b1
  exact ⟨t2, stp t2 b1, b2⟩
theorem SY.callV {i n d' mc' ms' a : Nat} {y : Mi} {As : List Value} (hd : decode μ.2.1 pc = .ok (.invokevirtual i, 3)) (hk : LkV μ.1.cls i y n) (hr : rcv Z a y.1.cls) (hn : As.length = n) (hdd : d' + 1 ≤ d) (hm : y.2.2.1 ≤ 80) (hml : stW st ≤ 8) {bc' bs' : Nat} (hb : bc = bc' + mc') (hs : bs = bs' + ms')
    (hC : Cx G l y d' mc' ms' (.ref a :: As) Z R I L (fun v Z' R' I' L' => SY t0 XC G l μ d bc' bs' (pc + 3) lv (psh v st) Z' R' I' L' post)) : SY t0 XC G l μ d bc bs pc lv (As.reverse ++ .ref a :: st) Z R I L post := by
  intro p e s m args below meth c0 mc ms E hY0 H locs cells slots ls a1 a2 hS hH hl
  obtain ⟨k1, k2, k3, k4, k5, k6⟩ := hk
  subst hb; subst hs
  have hts := E.2.2.2.2.2.1
  refine SY.back E hY0 (va_runV (As := As.map (tr G)) (rest := st.map (tr G)) (b := ad G a) (own := μ.1.cls) (C := y.1.cls) (index := i) (n := n) (nL := μ.2.2.1) (Ts := TB) ⟨E.1, E.2.1, E.2.2.2.1, E.2.2.2.2.1, hts⟩ hC ⟨callB_of n hts (WS_in k5) rfl rfl rfl (hts _ k4) (hts _ k1) k6 (rmok hdd hm), hts _ k2, hts _ k3⟩ ⟨Pcx.blind, Rcv.cell hr E.2.2.2.2.2.2.2.2 hS hH, fun U hU hW => ⟨rfl, E.2.2.2.2.2.2.2.2.move hS hU hW, by rw [hU]; exact hH⟩⟩ rfl (by simpa using hn) hl.1 ?_ ?_ hd ⟨by show cells + mc' ≤ mc; omega, by show slots + ms' ≤ ms; omega⟩) a1 a2 hS hl
  · simp [tr]
  · refine lv_room ?_
    rw [List.map_map]
    have : (fun v => v.category) ∘ tr G = fun v : Value => v.category := by funext v; exact tr_cat G v
    rw [this]
    exact hml
theorem SY.iret {x : Int32} (hd : decode μ.2.1 pc = .ok (.ireturn, 1)) {ty : FieldType} (hr : μ.2.2.2 = some ty) (hn : narrow ty (.int x) = .int x) (h : post (some (.int x)) Z R I L) : SY t0 XC G l μ d bc bs pc lv [.int x] Z R I L post := by
  intro p e s m args below meth c0 mc ms E hY0 H locs cells slots ls a1 a2 hS hH hl
  refine W.widen (k := mc) (n := ms) (by omega) (by omega) ?_
  exact vx_ret (W.zret E.1 E.2.1 (E.2.2.1.trans hr) hn (fun t ht hW => ⟨⟨some (.int x), Z, R, I, L, rfl, h, by rw [ht]; exact hH⟩, hS.F ht⟩) hS.2.2 hd E.2.2.2.2.2.2.1)
theorem SY.callV1 {i d' mc' ms' : Nat} {y : Mi} {a : Nat} {v1 : Value} (hd : decode μ.2.1 pc = .ok (.invokevirtual i, 3)) (hk : LkV μ.1.cls i y 1) (hr : rcv Z a y.1.cls) (hdd : d' + 1 ≤ d) (hm : y.2.2.1 ≤ 80) (hml : stW st ≤ 8) {bc' bs' : Nat} (hb : bc = bc' + mc') (hs : bs = bs' + ms')
    (hC : Cx G l y d' mc' ms' [.ref a, v1] Z R I L (fun v Z' R' I' L' => SY t0 XC G l μ d bc' bs' (pc + 3) lv (psh v st) Z' R' I' L' post)) : SY t0 XC G l μ d bc bs pc lv (v1 :: .ref a :: st) Z R I L post :=
  SY.callV (As := [v1]) hd hk hr rfl hdd hm hml hb hs hC
theorem SY.callV2 {i d' mc' ms' : Nat} {y : Mi} {a : Nat} {v1 v2 : Value} (hd : decode μ.2.1 pc = .ok (.invokevirtual i, 3)) (hk : LkV μ.1.cls i y 2) (hr : rcv Z a y.1.cls) (hdd : d' + 1 ≤ d) (hm : y.2.2.1 ≤ 80) (hml : stW st ≤ 8) {bc' bs' : Nat} (hb : bc = bc' + mc') (hs : bs = bs' + ms')
    (hC : Cx G l y d' mc' ms' [.ref a, v1, v2] Z R I L (fun v Z' R' I' L' => SY t0 XC G l μ d bc' bs' (pc + 3) lv (psh v st) Z' R' I' L' post)) : SY t0 XC G l μ d bc bs pc lv (v2 :: v1 :: .ref a :: st) Z R I L post :=
  SY.callV (As := [v1, v2]) hd hk hr rfl hdd hm hml hb hs hC
end SYY
