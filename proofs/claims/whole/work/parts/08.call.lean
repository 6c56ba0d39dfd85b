/-! new cells, calls, returns, constants -/
def LkN (own : String) (i c : Nat) : Prop := ∃ (C : String) (T : u_T) (N : Nat), cls[c]? = some (C, T, N) ∧ N = fN c ∧ c < 50 ∧ (∀ w ∈ u_ws C T N, w ∈ TB) ∧ (∀ k, k < N → parseFieldDescriptor (T k).2.2.1 = some (fty c k)) ∧ Cond.classLink own i C ∈ TB ∧ Cond.instantiable C N ∈ TB ∧ Cond.initialized C ∈ TB ∧
  (∀ k, k < N → defaultValue (fty c k) = match kdo (fty c k) with | 0 => Value.int 0 | 1 => Value.long 0 | _ => Value.null)
/-- the memory with a new cell, all 0 -/
def mkZ (Z : Zt) (t n : Nat) : Zt := (Z.1 + 1, va_up Z.2 Z.1 (t, n))
def mkR (Z : Zt) (R : Rt) : Rt := va_up R Z.1 (fun _ => none)
def mkI (Z : Zt) (I : It) : It := va_up I Z.1 (fun _ => 0)
def mkL (Z : Zt) (L : Lt) : Lt := va_up L Z.1 (fun _ => 0)
/-- links of calls: the receiver's own method; an inherited one; a static one; a constructor; a nest mate's private one -/
def plainY (y : MethodName) (n : Nat) : Prop := y.cls ≠ "java/lang/invoke/MethodHandle" ∧ y.cls ≠ "java/lang/invoke/VarHandle" ∧ (parseMethodDescriptor y.desc).map (fun d => d.parameters.length) = some n
def LkV (own : String) (i : Nat) (y : Mi) (n : Nat) : Prop := Cond.methodLink own i y.1 ∈ TB ∧ Cond.instanceMethod y.1 ∈ TB ∧ Cond.selects y.1.cls y.1 y.1 ∈ TB ∧ Cond.initialized y.1.cls ∈ TB ∧ Cond.code y.1 y.2.1 y.2.2.1 y.2.2.2 ∈ TB ∧ plainY y.1 n
def LkU (own : String) (i : Nat) (C owner : String) (x : MethodName) (y : Mi) (n : Nat) : Prop := Cond.methodLink own i x ∈ TB ∧ Cond.sameMethod x.cls owner x.name x.desc ∈ TB ∧ Cond.selects C x y.1 ∈ TB ∧ Cond.instanceMethod y.1 ∈ TB ∧ Cond.initialized y.1.cls ∈ TB ∧ Cond.code y.1 y.2.1 y.2.2.1 y.2.2.2 ∈ TB ∧ y.1 = ⟨owner, x.name, x.desc⟩ ∧ (owner ≠ "java/lang/invoke/MethodHandle" ∧ owner ≠ "java/lang/invoke/VarHandle" ∧ (parseMethodDescriptor x.desc).map (fun d => d.parameters.length) = some n)
def LkS (own : String) (i : Nat) (y : Mi) (n : Nat) : Prop := Cond.methodLink own i y.1 ∈ TB ∧ Cond.static y.1 ∈ TB ∧ Cond.initialized y.1.cls ∈ TB ∧ Cond.code y.1 y.2.1 y.2.2.1 y.2.2.2 ∈ TB ∧ plainY y.1 n
def LkI (own : String) (i : Nat) (y : Mi) (n : Nat) : Prop := Cond.methodLink own i y.1 ∈ TB ∧ y.1.name = "<init>" ∧ Cond.instanceMethod y.1 ∈ TB ∧ Cond.initialized y.1.cls ∈ TB ∧ Cond.code y.1 y.2.1 y.2.2.1 y.2.2.2 ∈ TB ∧ y.2.2.2 = none ∧ plainY y.1 n
def LkIN (own : String) (i : Nat) (y : Mi) (host : String) (n : Nat) : Prop := Cond.methodLinkNest own i y.1 host ∈ lw_tbl ∧ y.1.name = "<init>" ∧ Cond.instanceMethod y.1 ∈ TB ∧ Cond.initialized y.1.cls ∈ TB ∧ Cond.code y.1 y.2.1 y.2.2.1 y.2.2.2 ∈ TB ∧ y.2.2.2 = none ∧ plainY y.1 n
def LkSN (own : String) (i : Nat) (y : Mi) (host : String) (n : Nat) : Prop := Cond.methodLinkNest own i y.1 host ∈ lw_tbl ∧ Cond.static y.1 ∈ TB ∧ Cond.initialized y.1.cls ∈ TB ∧ Cond.code y.1 y.2.1 y.2.2.1 y.2.2.2 ∈ TB ∧ plainY y.1 n
/-- the class of a cell that is called -/
def rcv (Z : Zt) (a : Nat) (C : String) : Prop := (∃ (c : Nat) (T : u_T) (N : Nat), ob Z a c ∧ c < 50 ∧ cls[c]? = some (C, T, N) ∧ N = fN c) ∨ (∃ k, k < 6 ∧ a = 20 + k ∧ C = "java/lang/String")
abbrev psh (v : Option Value) (st : List Value) : List Value := match v with
  | none => st
  | some x => x :: st
def stW (st : List Value) : Nat := (st.map fun v => v.category).sum
theorem TB_good {w : Cond} (h : w ∈ TB) : (w.onTables && w.keeps) = true ∨ ∃ ty, w = .arrayClass ty := good_of_word (List.mem_filter.mp h).2
theorem WS_in {μ : Mi} (h : Cond.code μ.1 μ.2.1 μ.2.2.1 μ.2.2.2 ∈ TB) : GoodIn TB (WS μ) := by
  intro w hw
  rcases List.mem_cons.mp hw with rfl | h1
  · exact ⟨h, TB_good h⟩
  · exact ⟨h1, TB_good h1⟩
theorem Pcx.blind {G : Gt} {As : List Value} {Z : Zt} {R : Rt} {I : It} {L : Lt} : FrameBlind (Pcx G As Z R I L) := by
  intro a U g mk h
  obtain ⟨h1, ⟨g1, g2, g3, g4, g5, g6, g7, g8, g9⟩, h3⟩ := h
  have hv : U.vm.Alike (U.calling g mk a).vm := Vm.Alike.refl U.vm
  exact ⟨h1, ⟨va_K.moved hv g1, g2, fun k r hr => ⟨(g3 k r hr).1.moved hv, (g3 k r hr).2.moved hv⟩, g4.moved hv, g5.moved hv, fun k r hr => vk_R.same (u := U) rfl (g6 k r hr), fun a i x q hz => va_Nw.same (u := U) rfl rfl (g7 a i x q hz), fun C hz => va_AO.moved hv (g8 C hz), g9.imp (fun z => z.moved hv) (fun z => z.moved hv)⟩, h3⟩
section CALL
variable {G : Gt} {l : Launch} {μ : Mi} {d bc bs pc : Nat} {lv : List (Nat × Value)} {st : List Value} {Z : Zt} {R : Rt} {I : It} {L : Lt} {post : Pt'}
theorem Hp.mk' {H H' : Heap} {t n : Nat} (h : Hp G Z R I L H) (e : va_at G.2.2.1 cls (ad G Z.1, ce G (mkR Z R) (mkI Z I) (mkL Z L) (t, n) Z.1) H') (z : H'.size = H.size + 1) (oq : ∀ q, q < H.size → H'[q]? = H[q]?) : Hp G (mkZ Z t n) (mkR Z R) (mkI Z I) (mkL Z L) H' := by
  have h0 := h.1
  have hs := h.2.1
  refine ⟨Nat.le_trans h.1 (Nat.le_succ _), ?_, fun k h1 h2 h9 => ?_⟩
  · show H'.size = G.1 + (Z.1 + 1 - 100)
    omega
  · by_cases hk : k = Z.1
    · subst hk
      show va_at _ _ (_, ce G _ _ _ (va_up Z.2 Z.1 (t, n) Z.1) _) _
      rw [mu_eq]
      exact e
    · have h3 : k < Z.1 := by
        have : k < Z.1 + 1 := h2
        omega
      have h4 := h.2.2 k h1 h3 (by have h8 : (va_up Z.2 Z.1 (t, n) k).1 ≠ 99 := h9; rwa [mu_ne _ _ hk] at h8)
      show va_at _ _ (_, ce G _ _ _ (va_up Z.2 Z.1 (t, n) k) _) _
      rw [mu_ne _ _ hk, ← ce_eq3 (R := R) (I := I) (L := L) (by simp [mkR, va_up, hk]) (by simp [mkI, va_up, hk]) (by simp [mkL, va_up, hk])]
      refine h4.kept (oq _ ?_)
      rw [ad_reg h1]
      omega
theorem Sx.new {i c : Nat} (hd : decode μ.2.1 pc = .ok (.new i, 3)) (hk : LkN μ.1.cls i c) {bc' bs' : Nat} (hb : bc = bc' + 1) (hs : bs = bs' + fN c)
    (k : Sx G l μ d bc' bs' (pc + 3) lv (.ref Z.1 :: st) (mkZ Z c 0) (mkR Z R) (mkI Z I) (mkL Z L) post) : Sx G l μ d bc bs pc lv st Z R I L post := by
  intro p e s m args below meth c0 mc ms E H locs cells slots ls a1 a2 hS hH hl
  obtain ⟨C, T, N, h1, h2, h3, h4, h5, h6, h7, h8, h9⟩ := hk
  subst hb; subst hs; subst h2
  have hK := E.2.2.2.2.2.2.2.2.1
  have hKn := hK.1 c _ h1
  refine W.newcK E.1 E.2.1 E.2.2.2.2.1 (E.2.2.2.2.2.1 _ h6) (E.2.2.2.2.2.1 _ h7) (E.2.2.2.2.2.1 _ h8) rfl hd (by show cells + 1 ≤ mc; omega) (by show slots + fN c ≤ ms; omega) hKn.2.1 rfl fun H1 kC hkC e1 z1 o1 => ?_
  have had : ad G Z.1 = H.size := by rw [ad_reg hH.1, hH.2.1]
  have := k p e s m args below meth c0 mc ms E H1 locs (cells + 1) (slots + fN c) ls (by omega) (by omega) ⟨Nat.le_trans hS.1 (by omega), fun x g1 g2 => (o1 x (Nat.lt_of_lt_of_le g1 hS.1)).trans (hS.2.1 x g1 g2), hS.2.2⟩ (hH.mk' (t := c) (n := 0) (by
    rw [ce_ob h3, had]
    refine ⟨_, h1, (u_born (fty c) (ws := TB) E.2.2.2.2.2.1 h4 hKn hkC e1 h5).to (fun j hj => ?_)⟩
    rw [vpV_range _ _ hj, h9 j hj]
    unfold fv
    generalize kdo (fty c j) = q
    match q with
    | 0 => simp [mkI, va_up, tr]
    | 1 => simp [mkL, va_up, tr]
    | _ + 2 => simp [mkR, va_up, tr, rv]) z1 o1) hl
  rw [show (Value.ref Z.1 :: st).map (tr G) = .ref H.size :: st.map (tr G) by show Value.ref (ad G Z.1) :: _ = _; rw [had]] at this
  exact this
theorem Sx.newarr {t N : Nat} {ty : ArrayType} {n : Int32} (hd : decode μ.2.1 pc = .ok (.newarray ty, 2)) (ht1 : 50 ≤ t) (ht2 : t < 55) (hty : newarray.typeOf ty = aty t) (hw : Cond.arrayClass (aty t) ∈ TB) (hn : ¬ n < 0) (hN : n.toNatClampNeg = N) (hby : N ≤ 60000000) {bc' bs' : Nat} (hb : bc = bc' + 1) (hs : bs = bs' + N)
    (k : Sx G l μ d bc' bs' (pc + 2) lv (.ref Z.1 :: st) (mkZ Z t N) (mkR Z R) (mkI Z I) (mkL Z L) post) : Sx G l μ d bc bs pc lv (.int n :: st) Z R I L post := by
  intro p e s m args below meth c0 mc ms E H locs cells slots ls a1 a2 hS hH hl
  subst hb; subst hs
  have hK := E.2.2.2.2.2.2.2.2.1
  have had : ad G Z.1 = H.size := by rw [ad_reg hH.1, hH.2.1]
  have hta := hK.2 (t - 50) _ (tys_at ht1 (by omega))
  refine va_newaK E.1 E.2.1 (atype := ty) (by rw [hty]; exact E.2.2.2.2.2.1 _ hw) rfl hd rfl hn hN (by
    have : componentBytes (newarray.typeOf ty) ≤ 8 := by cases ty <;> decide
    calc N * componentBytes (newarray.typeOf ty) ≤ N * 8 := Nat.mul_le_mul_left _ this
      _ ≤ 536870912 := by omega) (by show cells + 1 ≤ mc; omega) (by show slots + N ≤ ms; omega) rfl fun H1 cA e1 z1 o1 hAr hNm => ?_
  have hcA : cA = G.2.2.2 t := by
    have h2 := hta.2
    rw [hty] at hNm
    have : s.vm.findClass ("[" ++ (aty t).toString) = some (G.2.2.2 t) := by
      have h3 : t = 50 ∨ t = 51 ∨ t = 52 ∨ t = 53 ∨ t = 54 := by omega
      rcases h3 with rfl | rfl | rfl | rfl | rfl <;> exact h2
    exact Option.some.inj (hNm.symm.trans this)
  subst hcA
  have := k p e s m args below meth c0 mc ms E H1 locs (cells + 1) (slots + N) ls (by omega) (by omega) ⟨Nat.le_trans hS.1 (by omega), fun x g1 g2 => (o1 x (Nat.lt_of_lt_of_le g1 hS.1)).trans (hS.2.1 x g1 g2), hS.2.2⟩ (hH.mk' (t := t) (n := N) (by
    rw [had]
    rw [hty] at e1
    by_cases h4 : t < 54
    · rw [ce_ar ht1 h4]
      show H1[H.size]? = some (vp_cell _ _)
      rw [e1, vp_cell_i]
      have h3 : t = 50 ∨ t = 51 ∨ t = 52 ∨ t = 53 := by omega
      rcases h3 with rfl | rfl | rfl | rfl <;> simp [mkI, va_up, aty, defaultValue]
    · have h3 : t = 54 := by omega
      subst h3
      rw [ce_arL]
      show H1[H.size]? = some (vp_cell _ _)
      rw [e1, vp_cell_l]
      simp [mkL, va_up, aty, defaultValue]) z1 o1) hl
  rw [show (Value.ref Z.1 :: st).map (tr G) = .ref H.size :: st.map (tr G) by show Value.ref (ad G Z.1) :: _ = _; rw [had]] at this
  exact this
theorem Sx.anewarr {t N i : Nat} {C : String} {n : Int32} (hd : decode μ.2.1 pc = .ok (.anewarray i, 3)) (ht1 : 55 ≤ t) (ht2 : t < 58) (hty : aty t = .object C) (hw : Cond.classLink μ.1.cls i C ∈ TB) (hw2 : Cond.arrayOver (.object C) ∈ lw_tbl) (hn : ¬ n < 0) (hN : n.toNatClampNeg = N) (hby : N ≤ 60000000) {bc' bs' : Nat} (hb : bc = bc' + 1) (hs : bs = bs' + N)
    (k : Sx G l μ d bc' bs' (pc + 3) lv (.ref Z.1 :: st) (mkZ Z t N) (mkR Z R) (mkI Z I) (mkL Z L) post) : Sx G l μ d bc bs pc lv (.int n :: st) Z R I L post := by
  intro p e s m args below meth c0 mc ms E H locs cells slots ls a1 a2 hS hH hl
  subst hb; subst hs; subst hN
  have hK := E.2.2.2.2.2.2.2.2.1
  have had : ad G Z.1 = H.size := by rw [ad_reg hH.1, hH.2.1]
  have hta := hK.2 (t - 50) _ (tys_at (by omega) (by omega))
  rw [hty] at hta
  refine W.anew E.1 E.2.1 E.2.2.2.2.1 (E.2.2.2.2.2.1 _ hw) (va_AO.use (E.2.2.2.2.2.2.2.2.2.2.2.2.2.2.2.1 _ hw2)) rfl hd rfl hn (by omega) (by show cells + 1 ≤ mc; omega) (by show slots + _ ≤ ms; omega) fun cA kA comp h1 h2 h3 h4 => ?_
  obtain ⟨kA', comp', g1, g2, g3, g4⟩ := hta.2
  have hcA : cA = G.2.2.2 t := Option.some.inj (h1.symm.trans g4)
  subst hcA
  have o1 : ∀ q, q < H.size → (H.push { cls := G.2.2.2 t, slots := Array.replicate n.toNatClampNeg .null, vm := .none })[q]? = H[q]? := by
    intro q hq
    rw [Array.getElem?_push, if_neg (Nat.ne_of_lt hq)]
  have := k p e s m args below meth c0 mc ms E (H.push { cls := G.2.2.2 t, slots := Array.replicate n.toNatClampNeg .null, vm := .none }) locs (cells + 1) (slots + n.toNatClampNeg) ls (by omega) (by omega) ⟨Nat.le_trans hS.1 (by simp), fun x g1 g2 => (o1 x (Nat.lt_of_lt_of_le g1 hS.1)).trans (hS.2.1 x g1 g2), hS.2.2⟩ (hH.mk' (t := t) (n := n.toNatClampNeg) (by
    rw [had, ce_arR ht1]
    show (Array.push H _)[H.size]? = some (vp_cell _ _)
    rw [vp_cell_q, arrV_new]
    simp [mkR, va_up, va_rf]) (by simp) o1) hl
  rw [show (Value.ref Z.1 :: st).map (tr G) = .ref H.size :: st.map (tr G) by show Value.ref (ad G Z.1) :: _ = _; rw [had]] at this
  exact this
/-- behind a call -/
theorem Sx.back {p : Program} {e : Env} {s : State} {m : MethodId} {args : Array Value} {below : List Frame} {meth : Method} {c0 : Code} {mc ms : Nat} (E : Ev G μ p s m args meth c0) {H : Heap} {locs : List Loc} {cells slots : Nat} {ls : Array Slot} {bc' bs' mc' ms' : Nat} {rest st0 : List Value} {a : Array Value}
    (hr : va_Run p l e (rm d mc ms) s m args below meth c0 H locs cells slots mc' ms' (F0 m pc ls st0) (rest.map (tr G)) (Qx G (fun v Z' R' I' L' => Sx G l μ d bc' bs' (pc + 3) lv (psh v rest) Z' R' I' L' post) a) (gA G))
    (a1 : cells + (bc' + mc') ≤ mc) (a2 : slots + (bs' + ms') ≤ ms) (hS : va_S (gA G) s.heap H locs) (hl : lv_has ls μ.2.2.1 (trL G lv)) :
    W p l e (rm d mc ms) s m args below meth c0 H locs cells slots (MQ below (Qx G post) args s mc ms (gA G)) (F0 m pc ls st0) := by
  intro T hT X
  obtain ⟨v, st₀, t, T', L1, h0, X', hL, e1, e2, ⟨⟨v', Z', R', I', L', hv, hp, hh⟩, hz, hk⟩, stp⟩ := hr T hT X
  have hv' : v = v'.map (tr G) := Outcome.returned.inj hv
  subst hv'
  rw [h0] at hz hk
  have hst : (v'.map (tr G)).toList ++ rest.map (tr G) = (psh v' rest).map (tr G) := by cases v' <;> rfl
  have hS' : va_S (gA G) s.heap T'.heap (locs ++ L1) := ⟨Nat.le_trans hS.1 (by rw [e1]; exact hz), fun q h1 h2 => by rw [e1, hk q (Nat.lt_of_lt_of_le h1 hS.1) h2]; exact hS.2.1 q h1 h2, fun q hq => by
      rcases List.mem_append.mp hq with h | h
      · exact hS.2.2 q h
      · exact hL q h⟩
  obtain ⟨t2, b1, b2⟩ := hp p e s m args below meth c0 mc ms E T'.heap (locs ++ L1) (cells + mc') (slots + ms') ls (by omega) (by omega) hS' (by rw [e1]; exact hh) hl T' rfl X'
  rw [← hst] at b1
  exact ⟨t2, stp t2 b1, b2⟩
theorem Rcv.cell {H : Heap} {locs : List Loc} {s : State} {a : Nat} {C : String} (h : rcv Z a C) (hg : Sg G s) (hS : va_S (gA G) s.heap H locs) (hH : Hp G Z R I L H) : ∃ cellB : Cell, H[ad G a]? = some cellB ∧ cellB.vm.isStatics = false ∧ s.vm.findClass C = some cellB.cls := by
  rcases h with ⟨c, T, N, h1, h2, h3, h4⟩ | ⟨k, h1, rfl, rfl⟩
  · obtain ⟨cell, q1, q2, q3, -⟩ := hH.obj h1 h2 h3 h4
    exact ⟨cell, q1, by rw [q3]; rfl, by rw [q2]; exact (hg.1.1 c _ h3).2.1⟩
  · have had : ad G (20 + k) = G.2.1 (20 + k) := by unfold ad; rw [if_neg (by omega)]
    rw [had]
    exact vk_recv (adK := fun k => G.2.1 (20 + k)) (i := k) hg.2.2.2.2.1 h1 hS
theorem rmok {d' mc' ms' mc ms n : Nat} (h : d' + 1 ≤ d) (hn : n ≤ 80) : (rm d' mc' ms').frames + 1 ≤ (rm d mc ms).frames ∧ 8 + (n + 11) + (rm d' mc' ms').locals ≤ (rm d mc ms).locals := by
  refine ⟨h, ?_⟩
  show 8 + (n + 11) + 100 * d' ≤ 100 * d
  omega
theorem Sx.callV {i n d' mc' ms' a : Nat} {y : Mi} {As : List Value} (hd : decode μ.2.1 pc = .ok (.invokevirtual i, 3)) (hk : LkV μ.1.cls i y n) (hr : rcv Z a y.1.cls) (hn : As.length = n) (hdd : d' + 1 ≤ d) (hm : y.2.2.1 ≤ 80) (hml : stW st ≤ 8) {bc' bs' : Nat} (hb : bc = bc' + mc') (hs : bs = bs' + ms')
    (hC : Cx G l y d' mc' ms' (.ref a :: As) Z R I L (fun v Z' R' I' L' => Sx G l μ d bc' bs' (pc + 3) lv (psh v st) Z' R' I' L' post)) : Sx G l μ d bc bs pc lv (As.reverse ++ .ref a :: st) Z R I L post := by
  intro p e s m args below meth c0 mc ms E H locs cells slots ls a1 a2 hS hH hl
  obtain ⟨k1, k2, k3, k4, k5, k6⟩ := hk
  subst hb; subst hs
  have hts := E.2.2.2.2.2.1
  refine Sx.back E (va_runV (As := As.map (tr G)) (rest := st.map (tr G)) (b := ad G a) (own := μ.1.cls) (C := y.1.cls) (index := i) (n := n) (nL := μ.2.2.1) (Ts := TB) ⟨E.1, E.2.1, E.2.2.2.1, E.2.2.2.2.1, hts⟩ hC ⟨callB_of n hts (WS_in k5) rfl rfl rfl (hts _ k4) (hts _ k1) k6 (rmok hdd hm), hts _ k2, hts _ k3⟩ ⟨Pcx.blind, Rcv.cell hr E.2.2.2.2.2.2.2.2 hS hH, fun U hU hW => ⟨rfl, E.2.2.2.2.2.2.2.2.move hS hU hW, by rw [hU]; exact hH⟩⟩ rfl (by simpa using hn) hl.1 ?_ ?_ hd ⟨by show cells + mc' ≤ mc; omega, by show slots + ms' ≤ ms; omega⟩) a1 a2 hS hl
  · simp [tr]
  · refine lv_room ?_
    rw [List.map_map]
    have : (fun v => v.category) ∘ tr G = fun v : Value => v.category := by funext v; exact tr_cat G v
    rw [this]
    exact hml
theorem Sx.callU {i n d' mc' ms' a : Nat} {C owner : String} {x : MethodName} {y : Mi} {As : List Value} (hd : decode μ.2.1 pc = .ok (.invokevirtual i, 3)) (hk : LkU μ.1.cls i C owner x y n) (hr : rcv Z a C) (hn : As.length = n) (hdd : d' + 1 ≤ d) (hm : y.2.2.1 ≤ 80) (hml : stW st ≤ 8) {bc' bs' : Nat} (hb : bc = bc' + mc') (hs : bs = bs' + ms')
    (hC : Cx G l y d' mc' ms' (.ref a :: As) Z R I L (fun v Z' R' I' L' => Sx G l μ d bc' bs' (pc + 3) lv (psh v st) Z' R' I' L' post)) : Sx G l μ d bc bs pc lv (As.reverse ++ .ref a :: st) Z R I L post := by
  intro p e s m args below meth c0 mc ms E H locs cells slots ls a1 a2 hS hH hl
  obtain ⟨k1, k2, k3, k4, k5, k6, k7, k8⟩ := hk
  subst hb; subst hs
  have hts := E.2.2.2.2.2.1
  have hG : GoodIn TB (va_wsU μ.1.cls i C owner x y.1 (WS y)) := by
    intro w hw
    unfold va_wsU at hw
    rcases List.mem_append.mp hw with h | h
    · have : w ∈ TB := by
        simp only [List.mem_cons, List.mem_nil_iff, or_false] at h
        rcases h with rfl | rfl | rfl | rfl | rfl <;> assumption
      exact ⟨this, TB_good this⟩
    · exact WS_in k6 w h
  refine Sx.back E (va_runU (As := As.map (tr G)) (rest := st.map (tr G)) (b := ad G a) (own := μ.1.cls) (C := C) (owner := owner) (index := i) (n := n) (nL := μ.2.2.1) (Ts := TB) ⟨E.1, E.2.1, E.2.2.2.1, E.2.2.2.2.1, hts⟩ hC (va_cwU n hts hG rfl rfl rfl k7 k8 (rmok hdd hm)) ⟨Pcx.blind, Rcv.cell hr E.2.2.2.2.2.2.2.2 hS hH, fun U hU hW => ⟨rfl, E.2.2.2.2.2.2.2.2.move hS hU hW, by rw [hU]; exact hH⟩⟩ rfl (by simpa using hn) hl.1 ?_ ?_ hd ⟨by show cells + mc' ≤ mc; omega, by show slots + ms' ≤ ms; omega⟩) a1 a2 hS hl
  · simp [tr]
  · refine lv_room ?_
    rw [List.map_map]
    have : (fun v => v.category) ∘ tr G = fun v : Value => v.category := by funext v; exact tr_cat G v
    rw [this]
    exact hml
theorem Sx.callS {i n d' mc' ms' : Nat} {y : Mi} {As : List Value} (hd : decode μ.2.1 pc = .ok (.invokestatic i, 3)) (hk : LkS μ.1.cls i y n) (hn : As.length = n) (hdd : d' + 1 ≤ d) (hm : y.2.2.1 ≤ 80) (hml : stW st ≤ 8) {bc' bs' : Nat} (hb : bc = bc' + mc') (hs : bs = bs' + ms')
    (hC : Cx G l y d' mc' ms' As Z R I L (fun v Z' R' I' L' => Sx G l μ d bc' bs' (pc + 3) lv (psh v st) Z' R' I' L' post)) : Sx G l μ d bc bs pc lv (As.reverse ++ st) Z R I L post := by
  intro p e s m args below meth c0 mc ms E H locs cells slots ls a1 a2 hS hH hl
  obtain ⟨k1, k2, k4, k5, k6⟩ := hk
  subst hb; subst hs
  have hts := E.2.2.2.2.2.1
  refine Sx.back E (va_runS (As := As.map (tr G)) (rest := st.map (tr G)) (own := μ.1.cls) (index := i) (n := n) (nL := μ.2.2.1) (Ts := TB) ⟨E.1, E.2.1, E.2.2.2.1, E.2.2.2.2.1, hts⟩ hC ⟨callB_of n hts (WS_in k5) rfl rfl rfl (hts _ k4) (hts _ k1) k6 (rmok hdd hm), hts _ k2⟩ ⟨Pcx.blind, fun U hU hW => ⟨rfl, E.2.2.2.2.2.2.2.2.move hS hU hW, by rw [hU]; exact hH⟩⟩ rfl (by simpa using hn) hl.1 ?_ ?_ hd ⟨by show cells + mc' ≤ mc; omega, by show slots + ms' ≤ ms; omega⟩) a1 a2 hS hl
  · simp
  · refine lv_room ?_
    rw [List.map_map]
    have : (fun v => v.category) ∘ tr G = fun v : Value => v.category := by funext v; exact tr_cat G v
    rw [this]
    exact hml
theorem Sx.callI {i n d' mc' ms' a : Nat} {y : Mi} {As : List Value} (hd : decode μ.2.1 pc = .ok (.invokespecial i, 3)) (hk : LkI μ.1.cls i y n) (hn : As.length = n) (hdd : d' + 1 ≤ d) (hm : y.2.2.1 ≤ 80) (hml : stW st ≤ 8) {bc' bs' : Nat} (hb : bc = bc' + mc') (hs : bs = bs' + ms')
    (hC : Cx G l y d' mc' ms' (.ref a :: As) Z R I L (fun v Z' R' I' L' => Sx G l μ d bc' bs' (pc + 3) lv (psh v st) Z' R' I' L' post)) : Sx G l μ d bc bs pc lv (As.reverse ++ .ref a :: st) Z R I L post := by
  intro p e s m args below meth c0 mc ms E H locs cells slots ls a1 a2 hS hH hl
  obtain ⟨k1, k2, k3, k4, k5, k7, k6⟩ := hk
  subst hb; subst hs
  have hts := E.2.2.2.2.2.1
  have hcb := callB_of (R := rm d mc ms) (ws := WS y) (rm := rm d' mc' ms') (mc := mc') (ms := ms') n hts (WS_in k5) rfl rfl rfl (hts _ k4) (hts _ k1) k6 (rmok hdd hm)
  rw [k7] at hcb
  refine Sx.back E (va_runI (As := As.map (tr G)) (rest := st.map (tr G)) (b := ad G a) (own := μ.1.cls) (index := i) (n := n) (nL := μ.2.2.1) (Ts := TB) ⟨E.1, E.2.1, E.2.2.2.1, E.2.2.2.2.1, hts⟩ hC ⟨hcb, k2, hts _ k3⟩ ⟨Pcx.blind, fun U hU hW => ⟨rfl, E.2.2.2.2.2.2.2.2.move hS hU hW, by rw [hU]; exact hH⟩⟩ rfl (by simpa using hn) hl.1 ?_ ?_ hd ⟨by show cells + mc' ≤ mc; omega, by show slots + ms' ≤ ms; omega⟩) a1 a2 hS hl
  · simp [tr]
  · refine lv_room ?_
    rw [List.map_map]
    have : (fun v => v.category) ∘ tr G = fun v : Value => v.category := by funext v; exact tr_cat G v
    rw [this]
    exact hml
theorem Sx.callIN {i n d' mc' ms' a : Nat} {y : Mi} {host : String} {As : List Value} (hd : decode μ.2.1 pc = .ok (.invokespecial i, 3)) (hk : LkIN μ.1.cls i y host n) (hn : As.length = n) (hdd : d' + 1 ≤ d) (hm : y.2.2.1 ≤ 80) (hml : stW st ≤ 8) {bc' bs' : Nat} (hb : bc = bc' + mc') (hs : bs = bs' + ms')
    (hC : Cx G l y d' mc' ms' (.ref a :: As) Z R I L (fun v Z' R' I' L' => Sx G l μ d bc' bs' (pc + 3) lv (psh v st) Z' R' I' L' post)) : Sx G l μ d bc bs pc lv (As.reverse ++ .ref a :: st) Z R I L post := by
  intro p e s m args below meth c0 mc ms E H locs cells slots ls a1 a2 hS hH hl
  obtain ⟨k1, k2, k3, k4, k5, k7, k6⟩ := hk
  subst hb; subst hs
  have hts := E.2.2.2.2.2.1
  have hcb := va_cnB (R := rm d mc ms) (args := args) (ws := WS y) (rm := rm d' mc' ms') (mc := mc') (ms := ms') n hts (WS_in k5) rfl rfl rfl (E.2.2.2.2.2.2.2.2.2.2.2.2.2.2.1 _ _ _ _ k1) (hts _ k4) k6 (rmok hdd hm)
  rw [k7] at hcb
  refine Sx.back E (va_runIN (As := As.map (tr G)) (rest := st.map (tr G)) (b := ad G a) (own := μ.1.cls) (host := host) (index := i) (n := n) (nL := μ.2.2.1) (Ts := TB) ⟨E.1, E.2.1, E.2.2.2.1, E.2.2.2.2.1, hts⟩ hC ⟨hcb, k2, hts _ k3⟩ ⟨Pcx.blind, fun U hU hW => ⟨rfl, E.2.2.2.2.2.2.2.2.move hS hU hW, by rw [hU]; exact hH⟩⟩ rfl (by simpa using hn) hl.1 ?_ ?_ hd ⟨by show cells + mc' ≤ mc; omega, by show slots + ms' ≤ ms; omega⟩) a1 a2 hS hl
  · simp [tr]
  · refine lv_room ?_
    rw [List.map_map]
    have : (fun v => v.category) ∘ tr G = fun v : Value => v.category := by funext v; exact tr_cat G v
    rw [this]
    exact hml
theorem Sx.callSN {i n d' mc' ms' : Nat} {y : Mi} {host : String} {As : List Value} (hd : decode μ.2.1 pc = .ok (.invokestatic i, 3)) (hk : LkSN μ.1.cls i y host n) (hn : As.length = n) (hdd : d' + 1 ≤ d) (hm : y.2.2.1 ≤ 80) (hml : stW st ≤ 8) {bc' bs' : Nat} (hb : bc = bc' + mc') (hs : bs = bs' + ms')
    (hC : Cx G l y d' mc' ms' As Z R I L (fun v Z' R' I' L' => Sx G l μ d bc' bs' (pc + 3) lv (psh v st) Z' R' I' L' post)) : Sx G l μ d bc bs pc lv (As.reverse ++ st) Z R I L post := by
  intro p e s m args below meth c0 mc ms E H locs cells slots ls a1 a2 hS hH hl
  obtain ⟨k1, k2, k4, k5, k6⟩ := hk
  subst hb; subst hs
  have hts := E.2.2.2.2.2.1
  refine Sx.back E (va_runSN (As := As.map (tr G)) (rest := st.map (tr G)) (own := μ.1.cls) (host := host) (index := i) (n := n) (nL := μ.2.2.1) (Ts := TB) ⟨E.1, E.2.1, E.2.2.2.1, E.2.2.2.2.1, hts⟩ hC ⟨va_cnB n hts (WS_in k5) rfl rfl rfl (E.2.2.2.2.2.2.2.2.2.2.2.2.2.2.1 _ _ _ _ k1) (hts _ k4) k6 (rmok hdd hm), hts _ k2, trivial⟩ ⟨Pcx.blind, fun U hU hW => ⟨rfl, E.2.2.2.2.2.2.2.2.move hS hU hW, by rw [hU]; exact hH⟩⟩ rfl (by simpa using hn) hl.1 ?_ ?_ hd ⟨by show cells + mc' ≤ mc; omega, by show slots + ms' ≤ ms; omega⟩) a1 a2 hS hl
  · simp
  · refine lv_room ?_
    rw [List.map_map]
    have : (fun v => v.category) ∘ tr G = fun v : Value => v.category := by funext v; exact tr_cat G v
    rw [this]
    exact hml
/-- Object's own constructor -/
theorem Sx.objInit {i a : Nat} (hd : decode μ.2.1 pc = .ok (.invokespecial i, 3)) (h1 : Cond.methodLink μ.1.cls i Lib.objectInit ∈ TB) (h2 : Cond.instanceMethod Lib.objectInit ∈ TB) (h3 : Cond.code Lib.objectInit ⟨#[0xb1]⟩ 1 none ∈ TB) (hdd : 1 ≤ d) (hml : stW st ≤ 8)
    (k : Sx G l μ d bc bs (pc + 3) lv st Z R I L post) : Sx G l μ d bc bs pc lv (.ref a :: st) Z R I L post := by
  intro p e s m args below meth c0 mc ms E H locs cells slots ls a1 a2 hS hH hl
  have hts := E.2.2.2.2.2.1
  refine W.objInit E.1 E.2.1 E.2.2.2.2.1 (hts _ h1) (hts _ h2) (hts _ h3) rfl (hl.1.trans E.2.2.2.1.symm) rfl hd hdd ?_ (k p e s m args below meth c0 mc ms E H locs cells slots ls a1 a2 hS hH hl)
  have : ((st.map (tr G)).map fun v => v.category).sum ≤ 8 := by
    rw [List.map_map]
    have : (fun v => v.category) ∘ tr G = fun v : Value => v.category := by funext v; exact tr_cat G v
    rw [this]
    exact hml
  show 2 * 0 + _ + 12 ≤ 100 * d
  omega
/-! returns -/
theorem Sx.iret {x : Int32} (hd : decode μ.2.1 pc = .ok (.ireturn, 1)) {ty : FieldType} (hr : μ.2.2.2 = some ty) (hn : narrow ty (.int x) = .int x) (h : post (some (.int x)) Z R I L) : Sx G l μ d bc bs pc lv [.int x] Z R I L post := by
  intro p e s m args below meth c0 mc ms E H locs cells slots ls a1 a2 hS hH hl
  refine W.widen (k := mc) (n := ms) (by omega) (by omega) ?_
  exact W.zret E.1 E.2.1 (E.2.2.1.trans hr) hn (fun t ht hW => ⟨⟨some (.int x), Z, R, I, L, rfl, h, by rw [ht]; exact hH⟩, hS.F ht⟩) hS.2.2 hd E.2.2.2.2.2.2.1
theorem Sx.lret {x : Int64} (hd : decode μ.2.1 pc = .ok (.lreturn, 1)) (hr : μ.2.2.2 = some .long) (h : post (some (.long x)) Z R I L) : Sx G l μ d bc bs pc lv [.long x] Z R I L post := by
  intro p e s m args below meth c0 mc ms E H locs cells slots ls a1 a2 hS hH hl
  refine W.widen (k := mc) (n := ms) (by omega) (by omega) ?_
  exact W.lret E.1 E.2.1 (E.2.2.1.trans hr) (fun t ht hW => ⟨⟨some (.long x), Z, R, I, L, rfl, h, by rw [ht]; exact hH⟩, hS.F ht⟩) hS.2.2 hd E.2.2.2.2.2.2.1
theorem Sx.aret {r : Option Nat} {ty : FieldType} (hd : decode μ.2.1 pc = .ok (.areturn, 1)) (hr : μ.2.2.2 = some ty) (hty : (∃ n, ty = .object n) ∨ ∃ t, ty = .array t) (h : post (some (rv r)) Z R I L) : Sx G l μ d bc bs pc lv [rv r] Z R I L post := by
  intro p e s m args below meth c0 mc ms E H locs cells slots ls a1 a2 hS hH hl
  refine W.widen (k := mc) (n := ms) (by omega) (by omega) ?_
  exact W.aret (v := tr G (rv r)) E.1 E.2.1 (E.2.2.1.trans hr) hty (by cases r with | none => exact Or.inl rfl | some q => exact Or.inr ⟨_, rfl⟩) (fun t ht hW => ⟨⟨some (rv r), Z, R, I, L, rfl, h, by rw [ht]; exact hH⟩, hS.F ht⟩) hS.2.2 hd E.2.2.2.2.2.2.1
theorem Sx.vret (hd : decode μ.2.1 pc = .ok (.return_, 1)) (hr : μ.2.2.2 = none) (h : post none Z R I L) : Sx G l μ d bc bs pc lv [] Z R I L post := by
  intro p e s m args below meth c0 mc ms E H locs cells slots ls a1 a2 hS hH hl
  refine W.widen (k := mc) (n := ms) (by omega) (by omega) ?_
  exact W.vret E.1 E.2.1 (E.2.2.1.trans hr) (fun t ht hW => ⟨⟨none, Z, R, I, L, rfl, h, by rw [ht]; exact hH⟩, hS.F ht⟩) hS.2.2 hd E.2.2.2.2.2.2.1
end CALL
