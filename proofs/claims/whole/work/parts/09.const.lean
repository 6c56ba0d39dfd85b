/-! constants: static arrays, Strings; copies; arrays of references written -/
section CONST
variable {G : Gt} {l : Launch} {μ : Mi} {d bc bs pc : Nat} {lv : List (Nat × Value)} {st : List Value} {Z : Zt} {R : Rt} {I : It} {L : Lt} {post : Pt'}
theorem ad_low {k : Nat} (h : k < 100) : ad G k = G.2.1 k := by unfold ad; rw [if_neg (by omega)]
theorem Sx.gets {i k : Nat} {r : String × String × String × Nat × List Int32} (hd : decode μ.2.1 pc = .ok (.getstatic i, 3)) (hr : stc[k]? = some r) (hk : k < 100) (hw : Cond.fieldLink μ.1.cls i r.1 r.2.1 r.2.2.1 ∈ TB) (kk : Sx G l μ d bc bs (pc + 3) lv (.ref k :: st) Z R I L post) : Sx G l μ d bc bs pc lv st Z R I L post := by
  intro p e s m args below meth c0 mc ms E H locs cells slots ls a1 a2 hS hH hl
  have := kk p e s m args below meth c0 mc ms E H locs cells slots ls a1 a2 hS hH hl
  rw [show (Value.ref k :: st).map (tr G) = .ref (G.2.1 k) :: st.map (tr G) by show Value.ref (ad G k) :: _ = _; rw [ad_low hk]] at this
  exact va_gets E.1 E.2.1 (E.2.2.2.2.2.2.2.2.2.2.1 k r hr).1 hS E.2.2.2.2.1 (E.2.2.2.2.2.1 _ hw) (fun _ h => h) hd this
theorem Sx.getCS {i : Nat} (hd : decode μ.2.1 pc = .ok (.getstatic i, 3)) (hw : Cond.fieldLink μ.1.cls i "java/lang/String" "COMPACT_STRINGS" "Z" ∈ TB) (kk : Sx G l μ d bc bs (pc + 3) lv (.int 1 :: st) Z R I L post) : Sx G l μ d bc bs pc lv st Z R I L post := by
  intro p e s m args below meth c0 mc ms E H locs cells slots ls a1 a2 hS hH hl
  exact va_gets E.1 E.2.1 E.2.2.2.2.2.2.2.2.2.2.2.1 hS E.2.2.2.2.1 (E.2.2.2.2.2.1 _ hw) (fun _ h => h) hd (kk p e s m args below meth c0 mc ms E H locs cells slots ls a1 a2 hS hH hl)
/-- a static of the JDK's of which only this is known: a reference or null -/
theorem Sx.getFm {i : Nat} (hd : decode μ.2.1 pc = .ok (.getstatic i, 3)) (hw : Cond.fieldLink μ.1.cls i "jdk/internal/util/Preconditions" "SIOOBE_FORMATTER" "Ljava/util/function/BiFunction;" ∈ TB) (kn : Sx G l μ d bc bs (pc + 3) lv (.null :: st) Z R I L post) (kk : Sx G l μ d bc bs (pc + 3) lv (.ref 50 :: st) Z R I L post) : Sx G l μ d bc bs pc lv st Z R I L post := by
  intro p e s m args below meth c0 mc ms E H locs cells slots ls a1 a2 hS hH hl
  rcases E.2.2.2.2.2.2.2.2.2.2.2.2.2.2.2.2 with h | h
  · exact va_gets E.1 E.2.1 h hS E.2.2.2.2.1 (E.2.2.2.2.2.1 _ hw) (fun _ h => h) hd (kn p e s m args below meth c0 mc ms E H locs cells slots ls a1 a2 hS hH hl)
  · have := kk p e s m args below meth c0 mc ms E H locs cells slots ls a1 a2 hS hH hl
    rw [show (Value.ref 50 :: st).map (tr G) = .ref (G.2.1 50) :: st.map (tr G) by show Value.ref (ad G 50) :: _ = _; rw [ad_low (by decide)]] at this
    exact va_gets E.1 E.2.1 h hS E.2.2.2.2.1 (E.2.2.2.2.2.1 _ hw) (fun _ h => h) hd this
theorem Sx.caldS {a : Nat} {r : String × String × String × Nat × List Int32} {i : Int32} (hd : decode μ.2.1 pc = .ok (.caload, 1)) (hr : stc[a]? = some r) (hk : a < 100) (ht : r.2.2.2.1 = 53) (hi : vp_in i r.2.2.2.2.length) (kk : Sx G l μ d bc bs (pc + 1) lv (.int (r.2.2.2.2.getD i.toNatClampNeg 0) :: st) Z R I L post) : Sx G l μ d bc bs pc lv (.int i :: .ref a :: st) Z R I L post := by
  intro p e s m args below meth c0 mc ms E H locs cells slots ls a1 a2 hS hH hl
  have hT := (E.2.2.2.2.2.2.2.2.2.2.1 a r hr).2
  rw [ht] at hT
  rw [show (Value.int i :: Value.ref a :: st).map (tr G) = .int i :: .ref (G.2.1 a) :: st.map (tr G) by show Value.int i :: Value.ref (ad G a) :: _ = _; rw [ad_low hk]]
  exact va_tc E.1 E.2.1 hT hS hi rfl hd (kk p e s m args below meth c0 mc ms E H locs cells slots ls a1 a2 hS hH hl)
theorem Sx.ialdS {a : Nat} {r : String × String × String × Nat × List Int32} {i : Int32} (hd : decode μ.2.1 pc = .ok (.iaload, 1)) (hr : stc[a]? = some r) (hk : a < 100) (ht : r.2.2.2.1 = 50) (hi : vp_in i r.2.2.2.2.length) (kk : Sx G l μ d bc bs (pc + 1) lv (.int (r.2.2.2.2.getD i.toNatClampNeg 0) :: st) Z R I L post) : Sx G l μ d bc bs pc lv (.int i :: .ref a :: st) Z R I L post := by
  intro p e s m args below meth c0 mc ms E H locs cells slots ls a1 a2 hS hH hl
  have hT := (E.2.2.2.2.2.2.2.2.2.2.1 a r hr).2
  rw [ht] at hT
  rw [show (Value.int i :: Value.ref a :: st).map (tr G) = .int i :: .ref (G.2.1 a) :: st.map (tr G) by show Value.int i :: Value.ref (ad G a) :: _ = _; rw [ad_low hk]]
  exact va_ti E.1 E.2.1 hT hS hi rfl hd (kk p e s m args below meth c0 mc ms E H locs cells slots ls a1 a2 hS hH hl)
theorem Sx.alenS {a : Nat} {r : String × String × String × Nat × List Int32} {v : Int32} (hd : decode μ.2.1 pc = .ok (.arraylength, 1)) (hr : stc[a]? = some r) (hk : a < 100) (hv : Int32.ofNat r.2.2.2.2.length = v) (kk : Sx G l μ d bc bs (pc + 1) lv (.int v :: st) Z R I L post) : Sx G l μ d bc bs pc lv (.ref a :: st) Z R I L post := by
  intro p e s m args below meth c0 mc ms E H locs cells slots ls a1 a2 hS hH hl
  rw [show (Value.ref a :: st).map (tr G) = .ref (G.2.1 a) :: st.map (tr G) by show Value.ref (ad G a) :: _ = _; rw [ad_low hk]]
  exact va_tlen E.1 E.2.1 (E.2.2.2.2.2.2.2.2.2.2.1 a r hr).2 hS hv hd (kk p e s m args below meth c0 mc ms E H locs cells slots ls a1 a2 hS hH hl)
theorem Sx.ldcS {k : Nat} {r : Nat × String × List Int32} (hd : decode μ.2.1 pc = .ok (.ldc r.1, 2)) (hr : stk[k]? = some r) (hk : k < 6) (hc : μ.1.cls = RX12) (kk : Sx G l μ d bc bs (pc + 2) lv (.ref (20 + k) :: st) Z R I L post) : Sx G l μ d bc bs pc lv st Z R I L post := by
  intro p e s m args below meth c0 mc ms E H locs cells slots ls a1 a2 hS hH hl
  have := kk p e s m args below meth c0 mc ms E H locs cells slots ls a1 a2 hS hH hl
  rw [show (Value.ref (20 + k) :: st).map (tr G) = .ref (G.2.1 (20 + k)) :: st.map (tr G) by show Value.ref (ad G (20 + k)) :: _ = _; rw [ad_low (by omega)]] at this
  exact va_ldcS E.1 E.2.1 (E.2.2.2.2.1) (by rw [hc]; exact E.2.2.2.2.2.2.2.2.2.2.2.2.2.1 k r hr) hd this
theorem ldcw_str {p : Program} {e : Env} {R0 : Room} {s : State} {m : MethodId} {args : Array Value} {below : List Frame} {meth : Method} {c : Code} {T : State} {locs : List Loc} {cells slots : Nat}
    (X : Stand p l e R0 s m args below meth c T locs cells slots) (hexec : p.tables.exec = Jvm.exec) {own text : String} {index : Nat} {a : Addr} (hown : s.vm.findClass own = some m.cls)
    {a0 : Array Value} (hconst : (Cond.stringRef own index text).before a0 s = true) (hev : (Term.string own index).eval a0 s none [] s = some (.ref a)) {g : JFrame} (hg : g.method = m) (hdg : decode c.code g.pc = .ok (.ldc_w index, 3)) :
    ∀ target, Steps p.tables e below (T.setTop { g with pc := g.pc + 3, stack := .ref a :: g.stack }) target → Steps p.tables e below (T.setTop g) target := by
  obtain ⟨k, cf, i, a', hk, hcf, hcp, -, hr, hev'⟩ := Cond.stringRef_spec hown hconst
  cases hev.symm.trans hev'
  obtain ⟨k', hk', he⟩ := X.warmed.alike.2.2 _ _ hk
  have hr' : k'.resolved[index]? = some (some (.string a)) := by
    rcases X.warmed.entry hk hk' index with h | ⟨h, -⟩
    · rw [h]; exact hr
    · rw [hr] at h; cases h
  intro target hrest
  subst hg
  jvm_step X.here [hexec, hdg, ldc_w.wp_string (e := e) (s := T) (f := g) X.here.top hk' (by rw [he]; exact hcf) hcp hr']
  exact hrest
theorem Sx.ldcwS {k : Nat} {r : Nat × String × List Int32} (hd : decode μ.2.1 pc = .ok (.ldc_w r.1, 3)) (hr : stk[k]? = some r) (hk : k < 6) (hc : μ.1.cls = RX12) (kk : Sx G l μ d bc bs (pc + 3) lv (.ref (20 + k) :: st) Z R I L post) : Sx G l μ d bc bs pc lv st Z R I L post := by
  intro p e s m args below meth c0 mc ms E H locs cells slots ls a1 a2 hS hH hl
  have := kk p e s m args below meth c0 mc ms E H locs cells slots ls a1 a2 hS hH hl
  rw [show (Value.ref (20 + k) :: st).map (tr G) = .ref (G.2.1 (20 + k)) :: st.map (tr G) by show Value.ref (ad G (20 + k)) :: _ = _; rw [ad_low (by omega)]] at this
  intro T hT X
  obtain ⟨t, b1, b2⟩ := this T hT X
  have hz := E.2.2.2.2.2.2.2.2.2.2.2.2.2.1 k r hr
  exact ⟨t, ldcw_str X E.1 E.2.2.2.2.1 (by rw [hc]; exact hz.1) (by rw [hc]; exact hz.2) (g := F0 m pc ls (st.map (tr G))) rfl (by rw [E.2.1]; exact hd) t b1, b2⟩
/-- String's own fields -/
theorem Sx.getCoder {i k : Nat} (hd : decode μ.2.1 pc = .ok (.getfield i, 3)) (hk : k < 6) (hw : Cond.fieldLink μ.1.cls i "java/lang/String" "coder" "B" ∈ TB) (kk : Sx G l μ d bc bs (pc + 3) lv (.int 0 :: st) Z R I L post) : Sx G l μ d bc bs pc lv (.ref (20 + k) :: st) Z R I L post := by
  intro p e s m args below meth c0 mc ms E H locs cells slots ls a1 a2 hS hH hl
  rw [show (Value.ref (20 + k) :: st).map (tr G) = .ref (G.2.1 (20 + k)) :: st.map (tr G) by show Value.ref (ad G (20 + k)) :: _ = _; rw [ad_low (by omega)]]
  exact vk_getf E.1 E.2.1 (E.2.2.2.2.2.2.2.2.2.2.2.2.1.1 k hk).2.1 hS E.2.2.2.2.1 (E.2.2.2.2.2.1 _ hw) (fun _ h => h) hd (kk p e s m args below meth c0 mc ms E H locs cells slots ls a1 a2 hS hH hl)
theorem Sx.getVal {i k : Nat} (hd : decode μ.2.1 pc = .ok (.getfield i, 3)) (hk : k < 6) (hw : Cond.fieldLink μ.1.cls i "java/lang/String" "value" "[B" ∈ TB) (kk : Sx G l μ d bc bs (pc + 3) lv (.ref (30 + k) :: st) Z R I L post) : Sx G l μ d bc bs pc lv (.ref (20 + k) :: st) Z R I L post := by
  intro p e s m args below meth c0 mc ms E H locs cells slots ls a1 a2 hS hH hl
  have := kk p e s m args below meth c0 mc ms E H locs cells slots ls a1 a2 hS hH hl
  rw [show (Value.ref (30 + k) :: st).map (tr G) = .ref (G.2.1 (30 + k)) :: st.map (tr G) by show Value.ref (ad G (30 + k)) :: _ = _; rw [ad_low (by omega)]] at this
  rw [show (Value.ref (20 + k) :: st).map (tr G) = .ref (G.2.1 (20 + k)) :: st.map (tr G) by show Value.ref (ad G (20 + k)) :: _ = _; rw [ad_low (by omega)]]
  exact vk_getf E.1 E.2.1 (E.2.2.2.2.2.2.2.2.2.2.2.2.1.1 k hk).2.2.1 hS E.2.2.2.2.1 (E.2.2.2.2.2.1 _ hw) (fun _ h => h) hd this
theorem Sx.baldS {k : Nat} {i : Int32} (hd : decode μ.2.1 pc = .ok (.baload, 1)) (hk : k < 6) (hi : vp_in i (stkL.getD k 0)) (kk : Sx G l μ d bc bs (pc + 1) lv (.int ((stkB.getD k []).getD i.toNatClampNeg 0) :: st) Z R I L post) : Sx G l μ d bc bs pc lv (.int i :: .ref (30 + k) :: st) Z R I L post := by
  intro p e s m args below meth c0 mc ms E H locs cells slots ls a1 a2 hS hH hl
  rw [show (Value.int i :: Value.ref (30 + k) :: st).map (tr G) = .int i :: .ref (G.2.1 (30 + k)) :: st.map (tr G) by show Value.int i :: Value.ref (ad G (30 + k)) :: _ = _; rw [ad_low (by omega)]]
  exact va_tb E.1 E.2.1 (E.2.2.2.2.2.2.2.2.2.2.2.2.1.1 k hk).2.2.2 hS hi rfl hd (kk p e s m args below meth c0 mc ms E H locs cells slots ls a1 a2 hS hH hl)
theorem Sx.blenS {k : Nat} {v : Int32} (hd : decode μ.2.1 pc = .ok (.arraylength, 1)) (hk : k < 6) (hv : Int32.ofNat (stkL.getD k 0) = v) (kk : Sx G l μ d bc bs (pc + 1) lv (.int v :: st) Z R I L post) : Sx G l μ d bc bs pc lv (.ref (30 + k) :: st) Z R I L post := by
  intro p e s m args below meth c0 mc ms E H locs cells slots ls a1 a2 hS hH hl
  rw [show (Value.ref (30 + k) :: st).map (tr G) = .ref (G.2.1 (30 + k)) :: st.map (tr G) by show Value.ref (ad G (30 + k)) :: _ = _; rw [ad_low (by omega)]]
  exact va_tlen E.1 E.2.1 (E.2.2.2.2.2.2.2.2.2.2.2.2.1.1 k hk).2.2.2 hS hv hd (kk p e s m args below meth c0 mc ms E H locs cells slots ls a1 a2 hS hH hl)
/-- an array of references is written -/
theorem Sx.aast {a t n q c : Nat} {i : Int32} (hd : decode μ.2.1 pc = .ok (.aastore, 1)) (ha : ar Z a t n) (h1 : 55 ≤ t) (h2 : t < 58) (hi : vp_in i n) {C : String} {T : u_T} {N : Nat} (hq : ob Z q c) (hc : c < 50) (hcl : cls[c]? = some (C, T, N)) (hN : N = fN c) (hty : aty t = .object C)
    (kk : Sx G l μ d bc bs (pc + 1) lv st Z (up2R R a i.toNatClampNeg (some q)) I L post) : Sx G l μ d bc bs pc lv (.ref q :: .int i :: .ref a :: st) Z R I L post := by
  intro p e s m args below meth c0 mc ms E H locs cells slots ls a1 a2 hS hH hl
  have hlt : i.toNatClampNeg < n := Nat.not_le.mp fun q => hi (Or.inr q)
  have h0 : ¬ i < 0 := fun q => hi (Or.inl q)
  have hK := E.2.2.2.2.2.2.2.2.1
  have ht := hK.2 _ _ (tys_at (G := G) (t := t) (by omega) h2)
  rw [hty] at ht
  obtain ⟨hA1, kA, comp, g1, g2, g3, g4⟩ := ht
  have hc1 : H[ad G a]? = some _ := hH.arrR ha h1 h2 0 _ rfl
  obtain ⟨cell, q1, q2, q3, q4⟩ := hH.obj hq hc hcl hN
  have hCA := (hK.1 c _ hcl).2
  obtain ⟨hfc, kC, hkC, hkind⟩ := hCA
  have hcomp : comp = G.2.2.1.1 c := Option.some.inj (g3.symm.trans hfc)
  subst hcomp
  refine W.aast E.1 E.2.1 (t := .object C) (k := kA) (kv := kC) (kcomp := kC) (comp := G.2.2.1.1 c) hc1 (fun _ h => by cases h) (fun h => by cases h) g1 g2 rfl hkC ⟨h0, by show _ < (arrV _ _ _).slots.size; rw [arrV_size]; exact hlt⟩ q1 (fun z h => by rw [q3] at h; cases h) (by rw [q2]; exact hkC) (by rw [q2]; exact va_assign (hK.1 c _ hcl).2) rfl rfl hd fun H1 e1 z oq => ?_
  refine kk p e s m args below meth c0 mc ms E H1 _ cells slots ls a1 a2 (hS.put z oq (ad_A ha.1)) (hH.updt ha.1 z ?_ oq (fun k hk => ce_eqR (by simp [up2R, va_up, hk]))) hl
  rw [ha.2.2, ce_arR h1]
  show H1[ad G a]? = some (vp_cell _ _)
  rw [e1, vp_cell_q, vp_cell_q, arrV_store]
  congr 2
  funext j
  by_cases hj : j = i.toNatClampNeg
  · subst hj
    simp [updV, up2R, va_up, va_rf]
  · simp [updV, up2R, va_up, hj]
/-- System.arraycopy of ints, between cells of this run -/
theorem Sx.copyi {ix a0 a1 n0 n1 : Nat} {sp dp n : Int32} (hd : decode μ.2.1 pc = .ok (.invokestatic ix, 3)) (hw1 : Cond.methodLink μ.1.cls ix arraycopyName ∈ TB) (hw2 : Cond.native arraycopyName ∈ TB) (hw3 : Cond.static arraycopyName ∈ TB) (hw4 : Cond.initialized "java/lang/System" ∈ TB) (ha0 : ar Z a0 50 n0) (ha1 : ar Z a1 50 n1)
    (h1 : ¬ sp < 0) (h2 : ¬ dp < 0) (h3 : ¬ n < 0) (h4 : sp.toNatClampNeg + n.toNatClampNeg ≤ n0) (h5 : dp.toNatClampNeg + n.toNatClampNeg ≤ n1) (hml : stW st ≤ 8) (hdd : 2 ≤ d)
    (kk : Sx G l μ d bc bs (pc + 3) lv st Z R (va_up I a1 (va_cpy (I a0) (I a1) sp.toNatClampNeg dp.toNatClampNeg n.toNatClampNeg)) L post) : Sx G l μ d bc bs pc lv (.int n :: .int dp :: .ref a1 :: .int sp :: .ref a0 :: st) Z R I L post := by
  intro p e s m args below meth c0 mc ms E H locs cells slots ls b1 b2 hS hH hl
  have nn : ∀ z : Int32, ¬ z < 0 → z.toInt = (z.toNatClampNeg : Int) := by
    intro z hz
    have hz0 : (0 : Int) ≤ z.toInt := by
      have := Int32.not_lt.mp hz
      simpa using Int32.le_iff_toInt_le.mp this
    show z.toInt = ((z.toInt.toNat : Nat) : Int)
    omega
  intro T hT X
  have hts := E.2.2.2.2.2.1
  have hK := E.2.2.2.2.2.2.2.2.1
  have hc0 : H[ad G a0]? = some (vp_cell (G.2.2.2 50) (n0, .inl (I a0))) := hH.arr ha0 (by decide) (by decide) 0 _ rfl
  have hc1 : H[ad G a1]? = some (vp_cell (G.2.2.2 50) (n1, .inl (I a1))) := hH.arr ha1 (by decide) (by decide) 0 _ rfl
  have hty := (hK.2 0 _ (tys_at (t := 50) (by decide) (by decide))).1
  obtain ⟨-, k0, hk0, cm0, hkk0⟩ := hty n0 (fun j => .int (I a0 j))
  obtain ⟨vm', X', step⟩ := X.arraycopy E.1 E.2.2.2.2.1 (hts _ hw1) (hts _ hw2) (hts _ hw3) (hts _ hw4) (src := ad G a0) (dst := ad G a1) (cs := vp_cell (G.2.2.2 50) (n0, .inl (I a0))) (cd := vp_cell (G.2.2.2 50) (n1, .inl (I a1))) (srcPos := sp) (destPos := dp) (n := n) (by rw [hT]; exact hc0) (by rw [hT]; exact hc1)
    (fun _ h => by cases h) (fun _ h => by cases h) (fun h => by cases h) (fun h => by cases h) hk0 hk0 hkk0 hkk0 (by simp [refKind, aty]) h1 h2 h3
    (by rw [nn sp h1, nn n h3]; show ¬ _ > ((arrV _ n0 (fun j => .int (I a0 j))).slots.size : Int); rw [arrV_size]; omega)
    (by rw [nn dp h2, nn n h3]; show ¬ _ > ((arrV _ n1 (fun j => .int (I a1 j))).slots.size : Int); rw [arrV_size]; omega)
    (fun vm₁ _ i hi => by
      have e : (vp_cell (G.2.2.2 50) (n0, .inl (I a0))).slots.getD (sp.toNatClampNeg + i) .null = .int (I a0 (sp.toNatClampNeg + i)) := by
        show (arrV _ n0 (fun j => .int (I a0 j))).slots.getD _ _ = _
        rw [Array.getD_eq_getD_getElem?, arrV_read _ _ (by omega)]
        rfl
      refine ⟨?_, ?_⟩
      · rw [e]
        rfl
      · rw [e]
        exact trivial)
    (g := F0 m pc ls ((Value.int n :: .int dp :: .ref a1 :: .int sp :: .ref a0 :: st).map (tr G))) rfl (hl.1.trans E.2.2.2.1.symm) (rest := st.map (tr G)) rfl (by rw [E.2.1]; exact hd) (by show 1 ≤ d; omega) (by
      have : ((st.map (tr G)).map fun v => v.category).sum ≤ 8 := by
        rw [List.map_map]
        have : (fun v => v.category) ∘ tr G = fun v : Value => v.category := by funext v; exact tr_cat G v
        rw [this]
        exact hml
      show 2 * 0 + _ + _ ≤ 100 * d
      have hnf : nativeFrameWords "java/lang/System" "arraycopy" 5 ≤ 120 := by decide +kernel
      omega)
  have e1 : copied (vp_cell (G.2.2.2 50) (n0, .inl (I a0))) (vp_cell (G.2.2.2 50) (n1, .inl (I a1))) sp dp n = vp_cell (G.2.2.2 50) (n1, .inl (va_cpy (I a0) (I a1) sp.toNatClampNeg dp.toNatClampNeg n.toNatClampNeg)) := va_copied (fun z => .int z) _ _ (I a0) (I a1) h4
  rw [e1] at X' step
  have hlt : ad G a1 < H.size := (Array.getElem?_eq_some_iff.mp hc1).1
  have hheap : ((T.setVm vm').setCell (ad G a1) (vp_cell (G.2.2.2 50) (n1, .inl (va_cpy (I a0) (I a1) sp.toNatClampNeg dp.toNatClampNeg n.toNatClampNeg)))).heap = H.setIfInBounds (ad G a1) (vp_cell (G.2.2.2 50) (n1, .inl (va_cpy (I a0) (I a1) sp.toNatClampNeg dp.toNatClampNeg n.toNatClampNeg))) := by rw [← hT]; rfl
  have oq : ∀ q : Nat, q ≠ ad G a1 → (H.setIfInBounds (ad G a1) (vp_cell (G.2.2.2 50) (n1, .inl (va_cpy (I a0) (I a1) sp.toNatClampNeg dp.toNatClampNeg n.toNatClampNeg))))[q]? = H[q]? := fun q hq => by simp [Array.getElem?_setIfInBounds, Ne.symm hq]
  obtain ⟨t, c1, c2⟩ := kk p e s m args below meth c0 mc ms E _ _ cells slots ls b1 b2 ⟨by simp; exact hS.1, fun q g1 g2 => by
      rw [oq q (fun e => g2 (by rw [e]; exact ad_A ha1.1))]
      exact hS.2.1 q g1 g2, fun q hq => by
      rcases List.mem_append.mp hq with h | h
      · exact hS.2.2 q h
      · obtain ⟨z, -, hz⟩ := List.mem_map.mp h
        rw [← hz]
        exact ad_A ha1.1⟩ (hH.updt ha1.1 (by simp) (by
          rw [ha1.2.2, ce_ar (by decide) (by decide)]
          show (H.setIfInBounds (ad G a1) _)[ad G a1]? = some (vp_cell _ _)
          simp [Array.getElem?_setIfInBounds, hlt, va_up]) oq (fun k hk => ce_eqI (by simp [va_up, hk]))) hl _ hheap X'
  exact ⟨t, step t c1, c2⟩
end CONST
