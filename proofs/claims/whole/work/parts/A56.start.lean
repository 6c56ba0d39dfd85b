/-! THE CLAIM OUT OF ONE WALK OF THE LAW'S BODY. Your part is whole_start (and what it stands on); all else here is the same for every law, but numbers. -/
def R_law : String := "DarkestDayLaw"
def lw_P (b : Addr) (xs : List Int32) (args : Array Value) (s : State) : Prop := args = #[.ref b] ∧ s.IntsAt b xs ∧ xs.length ≤ 3072 ∧ (Jvm.Cond.and given_1 narrow_1).before args s = true
def lw_Q (_ : Array Value) (s : State) (o : Outcome) (t : State) : Prop := o = .returned (some (.int 1)) ∧ Framed s o t [] 601024 7293034
def lw_Z (below : List Frame) (a : Array Value) (s : State) : State → Prop := fun t => ∃ o, t.status = .running ∧ Ended t below o ∧ lw_Q a s o t
/-- the law's own end, with 1 on the stack, nothing written that was there before, its room as the claim has it -/
theorem lw_ret {p : Program} {l : Launch} {e : Env} {s : State} {m : MethodId} {below : List Frame} {meth : Method} {c : Code} {b : Nat} (hx : p.tables.exec = Jvm.exec) (hb : c.code = code) (hr : meth.sig.returnType = ret) (hlocks : meth.locks = false) {pc : Nat} {H : Heap} {ls : Array Slot} (hdg : decode code pc = .ok (.ireturn, 1)) : W p l e room_1 s m #[Value.ref b] below meth c H [] 601024 7293034 (lw_Z below #[Value.ref b] s) (F0 m pc ls [.int 1]) := by
  intro T hT X
  obtain ⟨fs, hret, hrun, hended, hW, hframe⟩ := X.leave (v := some (.int 1)) (hlocks := hlocks) (fun h => by rw [hr] at h; cases h)
  have hmeth' : T.vm.method? m = some meth := X.method'
  refine ⟨T.setFrames fs, ?_, .returned (some (.int 1)), hrun, hended, rfl, ⟨_, rfl⟩, hW, hframe⟩
  jvm_step X.here [X.here.top, hx, hb, hdg, hmeth', hr, ret, narrow_b1]
  (try refine ⟨rfl, ?_⟩); (try refine ⟨rfl, ?_⟩)
  first | (intro acts; rw [hret _ acts rfl rfl rfl]) | rw [hret _ _ rfl rfl rfl]
  exact Steps.refl _
/-- what holds at the law's entry: the machine, the code, the tables' words (any of lw_tbl by 'hts w (by decide +kernel)'), the script of L ints xs at the cell b, what the Statement gives of the start (any of its parts by flat_of_before) -/
def lw_At (p : Program) (s : State) (m : MethodId) (meth : Method) (c : Code) (b L : Nat) (xs : Nat → Int32) : Prop :=
  p.tables.exec = Jvm.exec ∧ c.code = code ∧ meth.sig.returnType = ret ∧ c.maxLocals = 7 ∧ s.vm.findClass R_law = some m.cls ∧ (∀ w ∈ lw_tbl, w.before #[Value.ref b] s = true) ∧ va_X b L xs s s.heap ∧ b < s.heap.size ∧ meth.locks = false ∧ (Jvm.Cond.and given_1 narrow_1).before #[Value.ref b] s = true ∧ meth.name = yL_law.name
theorem cls_i : ∀ q ∈ cls, Cond.instantiable q.1 q.2.2 ∈ lw_tbl := by decide +kernel
theorem cls_w : ∀ q ∈ cls, ∀ w ∈ u_ws q.1 q.2.1 q.2.2, w ∈ lw_tbl := by decide +kernel
theorem arr_of {s : State} {args : Array Value} (hts : ∀ w ∈ TB, w.before args s = true) (hao : ∀ C : String, Cond.arrayOver (.object C) ∈ lw_tbl → va_AO C s) : ∀ k : Nat, ∃ c : ClassId, k < 8 → ArrOfT s c (aty (50 + k)) ∧ va_RA s c (aty (50 + k)) := by
  intro k
  have prim : ∀ ty : FieldType, Cond.arrayClass ty ∈ TB → ∃ (c : ClassId) (kA : Class) (comp : ClassId), s.vm.findClass ("[" ++ ty.toString) = some c ∧ s.vm.classes[c]? = some kA ∧ kA.kind = .array comp ty := fun ty h => Cond.arrayClass_spec (hts _ h)
  by_cases hk : k < 8
  · have h8 : k = 0 ∨ k = 1 ∨ k = 2 ∨ k = 3 ∨ k = 4 ∨ k = 5 ∨ k = 6 ∨ k = 7 := by omega
    rcases h8 with rfl | rfl | rfl | rfl | rfl | rfl | rfl | rfl
    · obtain ⟨c, kA, comp, h1, h2, h3⟩ := prim _ wac_int
      exact ⟨c, fun _ => ⟨fun n z => ⟨fun k h => (by cases h), kA, h2, comp, h3⟩, h1⟩⟩
    · obtain ⟨c, kA, comp, h1, h2, h3⟩ := prim _ wac_byte
      exact ⟨c, fun _ => ⟨fun n z => ⟨fun k h => (by cases h), kA, h2, comp, h3⟩, h1⟩⟩
    · obtain ⟨c, kA, comp, h1, h2, h3⟩ := prim _ wac_boolean
      exact ⟨c, fun _ => ⟨fun n z => ⟨fun k h => (by cases h), kA, h2, comp, h3⟩, h1⟩⟩
    · obtain ⟨c, kA, comp, h1, h2, h3⟩ := prim _ wac_char
      exact ⟨c, fun _ => ⟨fun n z => ⟨fun k h => (by cases h), kA, h2, comp, h3⟩, h1⟩⟩
    · obtain ⟨c, kA, comp, h1, h2, h3⟩ := prim _ wac_long
      exact ⟨c, fun _ => ⟨fun n z => ⟨fun k h => (by cases h), kA, h2, comp, h3⟩, h1⟩⟩
    · obtain ⟨comp, c, kA, h1, h2, h3, h4, h5⟩ := Cond.arrayOver_spec (hao _ wao_Law)
      exact ⟨c, fun _ => ⟨fun n z => ⟨fun k h => (by cases h), kA, h3, comp, h4⟩, kA, comp, h3, h4, h1, h5⟩⟩
    · obtain ⟨comp, c, kA, h1, h2, h3, h4, h5⟩ := Cond.arrayOver_spec (hao _ wao_Calendar)
      exact ⟨c, fun _ => ⟨fun n z => ⟨fun k h => (by cases h), kA, h3, comp, h4⟩, kA, comp, h3, h4, h1, h5⟩⟩
    · obtain ⟨comp, c, kA, h1, h2, h3, h4, h5⟩ := Cond.arrayOver_spec (hao _ wao_State)
      exact ⟨c, fun _ => ⟨fun n z => ⟨fun k h => (by cases h), kA, h3, comp, h4⟩, kA, comp, h3, h4, h1, h5⟩⟩
  · obtain ⟨c, -⟩ := prim _ wac_int
    exact ⟨c, fun h => absurd h hk⟩
theorem sg_of {s : State} {args : Array Value} {b : Nat} (hts : ∀ w ∈ lw_tbl, w.before args s = true) (hnw : ∀ w ∈ nw, w.before args s = true) : ∃ G : Gt, G.1 = s.heap.size ∧ G.2.1 60 = b ∧ Sg G s ∧ XT G s := by
  have htb : ∀ w ∈ TB, w.before args s = true := fun w hw => hts w (List.mem_filter.mp hw).1
  have hA : ∀ a : Nat, a < s.heap.size → ¬ (fun q : Nat => s.heap.size ≤ q) a := fun a ha => Nat.not_le.mpr ha
  have hao : ∀ C : String, Cond.arrayOver (.object C) ∈ lw_tbl → va_AO C s := fun C h => va_AO.of (hts _ h)
  -- classes
  have hc0 : ∀ k : Nat, ∃ d : ClassId × (Nat → Nat), ∀ q, cls[k]? = some q → u_Kn s q.1 q.2.1 q.2.2 d.1 d.2 := by
    intro k
    cases hk : cls[k]? with
    | none =>
      obtain ⟨c, -⟩ := arr_of htb hao 0
      exact ⟨(c, fun _ => 0), fun q h => by cases h⟩
    | some q =>
      have hm := List.mem_of_getElem? hk
      obtain ⟨c, iS, h⟩ := u_known (C := q.1) (T := q.2.1) (N := q.2.2) (n := q.2.2) hts (cls_w q hm) (hts _ (cls_i q hm))
      exact ⟨(c, iS), fun q' h' => by cases h'; exact h⟩
  obtain ⟨dd, hdd⟩ := Classical.axiomOfChoice hc0
  obtain ⟨ca, hca⟩ := Classical.axiomOfChoice (arr_of htb hao)
  -- static arrays
  have hs0 : ∀ k : Nat, ∃ t : Nat, ∀ r, stc[k]? = some r → va_Z r.1 r.2.1 r.2.2.1 (.ref t) (fun q : Nat => s.heap.size ≤ q) s s.heap ∧ va_T (aty r.2.2.2.1) t r.2.2.2.2.length (fun j => .int (r.2.2.2.2.getD j 0)) (fun q : Nat => s.heap.size ≤ q) s s.heap := by
    intro k
    cases hk : stc[k]? with
    | none => exact ⟨0, fun q h => by cases h⟩
    | some r =>
      have hm := List.mem_of_getElem? hk
      obtain ⟨h1, h2, h3, h4, h5⟩ := st_ok r hm
      obtain ⟨t, ht, hT⟩ := va_Tof (N := r.2.2.2.2.length) (f := fun j => .int (r.2.2.2.2.getD j 0)) (by omega) (hnw _ h1) (va_eqt (hnw _ h2)) (fun j hj => va_eqt (hnw _ (st_el r hm j hj))) hA
      exact ⟨t, fun r' h' => by cases h'; exact ⟨va_Zof (hts _ h3) (hts _ h4) ht hA, hT⟩⟩
  obtain ⟨cs, hcs⟩ := Classical.axiomOfChoice hs0
  -- texts
  obtain ⟨adK, adV, ⟨hk1, hk2⟩, hk3⟩ := vk_Sof (args := args) (s := s) (N := 6) (tm := tmS) (len := stkL) (byt := stkB) (A := fun q : Nat => s.heap.size ≤ q) (fun i hi => by have := (sk_ok i hi).2.2.2.2; omega) (fun i hi => hnw _ (sk_ok i hi).1) (fun i hi => hnw _ (sk_ok i hi).2.1) (fun i hi => hnw _ (sk_ok i hi).2.2.1) (fun i hi => hnw _ (sk_ok i hi).2.2.2.1) (fun i hi j hj => hnw _ (sk_el i hi j hj)) (fun i j hi hj hij => (sk_ne i hi j hj hij).imp (hnw _) (hnw _)) hA
  -- the formatter
  have hz : ∃ z : Nat, va_Z "jdk/internal/util/Preconditions" "SIOOBE_FORMATTER" "Ljava/util/function/BiFunction;" .null (fun q : Nat => s.heap.size ≤ q) s s.heap ∨ va_Z "jdk/internal/util/Preconditions" "SIOOBE_FORMATTER" "Ljava/util/function/BiFunction;" (.ref z) (fun q : Nat => s.heap.size ≤ q) s s.heap := by
    rcases va_Zqof (A := fun q : Nat => s.heap.size ≤ q) (hts _ jd_ok.2.2.2.2.1) (hts _ jd_ok.2.2.2.2.2.1) (hnw _ jd_ok.2.2.2.1) hA with h | ⟨t, h⟩
    · exact ⟨0, Or.inl h⟩
    · exact ⟨t, Or.inr h⟩
  obtain ⟨z, hz⟩ := hz
  let cst : Nat → Nat := fun q => if q < 9 then cs q else if q = 50 then z else if q = 60 then b else if q < 30 then adK (q - 20) else adV (q - 30)
  have e1 : ∀ k, k < 9 → cst k = cs k := fun k hk => if_pos hk
  have eK : ∀ k, k < 6 → cst (20 + k) = adK k := fun k hk => by
    show (if 20 + k < 9 then _ else if 20 + k = 50 then _ else if 20 + k = 60 then _ else if 20 + k < 30 then adK (20 + k - 20) else _) = _
    rw [if_neg (by omega), if_neg (by omega), if_neg (by omega), if_pos (by omega), show 20 + k - 20 = k by omega]
  have eV : ∀ k, k < 6 → cst (30 + k) = adV k := fun k hk => by
    show (if 30 + k < 9 then _ else if 30 + k = 50 then _ else if 30 + k = 60 then _ else if 30 + k < 30 then _ else adV (30 + k - 30)) = _
    rw [if_neg (by omega), if_neg (by omega), if_neg (by omega), if_neg (by omega), show 30 + k - 30 = k by omega]
  have stl : ∀ k r, stc[k]? = some r → k < 9 := fun k r h => (List.getElem?_eq_some_iff.mp h).1
  have skl : ∀ k r, stk[k]? = some r → k < 6 := fun k r h => (List.getElem?_eq_some_iff.mp h).1
  refine ⟨(s.heap.size, cst, (fun k => (dd k).1, fun k => (dd k).2), fun t => ca (t - 50)), rfl, rfl, ⟨⟨fun k q hq => hdd k q hq, fun k q hq => ?_⟩, Nat.le_refl _, fun k r hr => ?_, ?_, ⟨fun i hi => ?_, fun i j hi hj h => ?_⟩, fun k r hr => ?_, fun a i x h hm => va_Nw.of rfl (hts _ hm), hao, hz⟩, ?_, ?_, va_Nw.of rfl (hts _ (th_m _ (by simp))), va_Nw.of rfl (hts _ (th_m _ (by simp))), va_Nw.of rfl (hts _ (th_m _ (by simp))), va_Nw.of rfl (hts _ (th_m _ (by simp)))⟩
  · have hk : k < 8 := by
      have := (List.getElem?_eq_some_iff.mp hq).1
      simpa [tysG] using this
    have hq' : q = (ca k, aty (50 + k)) := by
      unfold tysG at hq
      rw [List.getElem?_map, List.getElem?_range hk] at hq
      have := Option.some.inj hq
      rw [← this]
      show (ca (50 + k - 50), aty (50 + k)) = _
      rw [show 50 + k - 50 = k by omega]
    rw [hq']
    exact hca k hk
  · show va_Z r.1 r.2.1 r.2.2.1 (.ref (cst k)) (fun q : Nat => s.heap.size ≤ q) s s.heap ∧ va_T (aty r.2.2.2.1) (cst k) r.2.2.2.2.length (fun j => .int (r.2.2.2.2.getD j 0)) (fun q : Nat => s.heap.size ≤ q) s s.heap
    rw [e1 k (stl k r hr)]
    exact hcs k r hr
  · exact va_Zof (hts _ jd_ok.2.1) (hts _ jd_ok.2.2.1) (va_eqt (hnw _ jd_ok.1)) hA
  · show va_O "java/lang/String" (cst (20 + i)) (fun q : Nat => s.heap.size ≤ q) s s.heap ∧ va_OF "java/lang/String" "coder" "B" (.int 0) (cst (20 + i)) (fun q : Nat => s.heap.size ≤ q) s s.heap ∧ va_OF "java/lang/String" "value" "[B" (.ref (cst (30 + i))) (cst (20 + i)) (fun q : Nat => s.heap.size ≤ q) s s.heap ∧ va_T .byte (cst (30 + i)) (stkL.getD i 0) (fun j => .int ((stkB.getD i []).getD j 0)) (fun q : Nat => s.heap.size ≤ q) s s.heap
    rw [eK i hi, eV i hi]
    exact hk1 i hi
  · have h' : cst (20 + i) = cst (20 + j) := h
    rw [eK i hi, eK j hj] at h'
    exact hk2 i j hi hj h'
  · have hk := skl k r hr
    obtain ⟨r', hr', hR, hE⟩ := sk_R k hk
    rw [hr] at hr'
    cases hr'
    show vk_R RX12 r.1 r.2.1 (cst (20 + k)) s
    rw [eK k hk]
    have := hk3 k hk
    rw [hE] at this
    exact vk_R.of (hts _ hR) this
  · exact vx_Zqof (hts _ (th_m _ (by simp))) (hts _ (th_m _ (by simp))) (hnw _ jd_ok.2.2.2.2.2.2.1) hA
  · exact vx_Zqof (hts _ (th_m _ (by simp))) (hts _ (th_m _ (by simp))) (hnw _ jd_ok.2.2.2.2.2.2.2) hA
theorem room_mono {s : State} {pl : Platform} {r r' : Room} (hf : r.frames ≤ r'.frames) (hl : r.locals ≤ r'.locals) (hc : r.cells ≤ r'.cells) (hs : r.slots ≤ r'.slots) (h : s.hasRoom pl r' = true) : s.hasRoom pl r = true := by
  simp only [State.hasRoom, Bool.and_eq_true, decide_eq_true_eq] at h ⊢
  obtain ⟨⟨⟨⟨y, a, b, c, d, e⟩, f⟩, g⟩, i⟩ := h
  exact ⟨⟨⟨⟨by omega, by omega, by omega, by omega, by omega, e⟩, by omega⟩, by omega⟩, i⟩
/-- from the entry, for every script of at most 3072 ints, the law comes to its end with true -/
theorem whole_start {p : Program} {e : Env} {s : State} {m : MethodId} {below : List Frame} {meth : Method} {c : Code} (l : Launch) (hflags : l.flags = flags0) {b L : Nat} {xs : Nat → Int32} (hL : L ≤ 3072) (C0 : lw_At p s m meth c b L xs) : W p l e room_1 s m #[Value.ref b] below meth c s.heap [] 0 0 (lw_Z below #[Value.ref b] s) (entryFrame m ([Value.ref b] : List Value).toArray 7) := by
  obtain ⟨hx, hb, hr, hml, hown, hts, hX, hbl, hlocks, hgv, hname⟩ := C0
  have hnw : ∀ w ∈ nw, w.before #[Value.ref b] s = true := flat_of_before _ hgv
  have htr : l.stackTraces = false := by
    unfold Launch.stackTraces
    rw [hflags]
    decide +kernel
  obtain ⟨G, g1, g60, hG, hXT⟩ := sg_of (b := b) hts hnw
  have hE : Ev G mL_law p s m #[Value.ref b] meth c := ⟨hx, hb, hr, hml, hown, fun w hw => hts w (List.mem_filter.mp hw).1, hlocks, hname, hG⟩
  have hX0 : SXp (L, xs) G s := ⟨by rw [g60]; exact hX, by rw [g60]; exact hbl, by show ¬ G.1 ≤ G.2.1 60; rw [g60, g1]; exact Nat.not_le.mpr hbl, hXT⟩
  have hlv := lv_entry (([.ref 60] : List Value).map (tr G)) (n := 7) (by rw [lg_sl_len]; exact Nat.le_of_ble_eq_true rfl)
  have hv : ([.ref 60] : List Value).map (tr G) = [Value.ref b] := by
    show [Value.ref (ad G 60)] = _
    unfold ad
    rw [if_neg (by decide), g60]
  rw [lg_entry_eq]
  rw [trL_args, hv] at hlv
  have key := law_go (q0 := (L, xs)) (G := G) (l := l) (post := fun v _ _ _ _ => v = some (.int 1)) (R := fun _ _ => none) (I := fun _ _ => 0) (L := fun _ _ => 0) htr hL (fun _ _ _ _ => rfl)
  have K := key p e s m #[Value.ref b] below meth c 692 49397 hE hX0 s.heap [] 0 0 _ (by omega) (by omega) va_S.rf ⟨Nat.le_refl _, by rw [g1]; rfl, fun k k1 k2 => absurd k1 (Nat.not_le.mpr k2)⟩ hlv
  intro T hT X
  have X' : Stand p l e (rm 60 692 49397) s m #[Value.ref b] below meth c T [] 0 0 := { X with room := room_mono (by decide) (by decide) (by decide) (by decide) X.room }
  obtain ⟨t, a1, o, b1, b2, ⟨⟨v, Z', R', I', L', ho, hp, hh⟩, hF⟩, Lc, ⟨w1, w2, w3⟩, w4⟩ := K T hT X'
  refine ⟨t, a1, o, b1, b2, ?_, w1, w2, w3.weaken (fun y hy hlt => absurd hlt (Nat.not_lt.mpr (by have := w4 y hy; unfold gA at this; rw [g1] at this; exact this))) (by decide) (by decide)⟩
  rw [ho, hp]
  rfl
set_option maxHeartbeats 4000000 in
theorem lw_walk (l : Launch) (hflags : l.flags = flags0) (b : Addr) (xs : List Int32) : MetFree l x (headSpec (Jvm.Cond.code x code maxLocals ret :: tables_1) room_1) (lw_P b xs) (fun _ _ _ _ _ => True) lw_Q := by
  refine MetFree.of_bodyS (code := code) (maxLocals := maxLocals) (ret := ret) (by decide) ?_ ?_
  · intro args s m h hn
    obtain ⟨meth, c, h1, h2, h3, h4, h5, h6, -, -⟩ := Cond.code_spec hn (atoms_spec (ws := Jvm.Cond.code x code maxLocals ret :: tables_1) h _ List.mem_cons_self)
    exact ⟨meth, c, h1, h2, h3, h4, h5, h6⟩
  · intro p e s m args below meth c s₁ B hml0 hP _
    obtain ⟨rfl, hx, hbd, hgv⟩ := hP
    obtain ⟨scr, harrAt, hlist, hof, hsmall⟩ := hx
    obtain ⟨hcb, hkn, -, -⟩ := State.arrayAt?_spec harrAt
    have hown : s.vm.findClass R_law = some m.cls := findClass_of_methodNamed B.named
    have hts0 : ∀ c ∈ (Jvm.Cond.code x code maxLocals ret :: tables_1), c.before #[Value.ref b] s = true := atoms_spec (ws := Jvm.Cond.code x code maxLocals ret :: tables_1) B.pre
    have hts : ∀ w ∈ lw_tbl, w.before #[Value.ref b] s = true := k2_hts_sels lw_privs (fun w hw => hts0 w (List.mem_cons_of_mem _ hw)) lw_privs_ok
    have hml : c.maxLocals = 7 := B.maxLocals_eq (hts0 _ List.mem_cons_self)
    have X₀ : Stand p l e room_1 s m #[Value.ref b] below meth c s₁ [] 0 0 := Stand.of_body B
    have hh0 : s₁.heap = s.heap := by rw [B.state]; rfl
    have hsz : scr.slots.size = xs.length := by rw [← Array.length_toList, hlist, List.length_map]
    have hval : ∀ j : Nat, j < xs.length → scr.slots[j]? = some (.int (xs.getD j 0)) := fun j hj => by
      rw [← Array.getElem?_toList, hlist]
      simp [hj]
    have hbl : b < s.heap.size := (Array.getElem?_eq_some_iff.mp hcb).1
    have hX : va_X b xs.length (fun j => xs.getD j 0) s s.heap := ⟨scr, hcb, hof, hkn, hsz, hval⟩
    have K : W p l e room_1 s m #[Value.ref b] below meth c s₁.heap [] 0 0 (lw_Z below #[Value.ref b] s) (entryFrame m ([Value.ref b] : List Value).toArray 7) := by
      rw [hh0]
      exact whole_start l hflags hbd ⟨B.exec, B.bytes, B.returns, hml, hown, hts, hX, hbl, B.notSynchronized, hgv, (name_of_methodNamed B.named B.method).1⟩
    obtain ⟨t, a1, o, b1, b2, b3⟩ := K s₁ rfl X₀
    exact ⟨t, o, a1, b1, b2, b3⟩
theorem lw_pre_spec {args : Array Value} {s : State} (h : (Jvm.Cond.and given_1 narrow_1).before args s = true) (hr : rest_1_c.before args s = true) : ∃ (b : Addr) (xs : List Int32), lw_P b xs args s := by
  have hs := flat_of_before _ h
  have hq := flat_of_before _ hr
  have hc : (Cond.count 1).before args s = true := hs _ (by decide +kernel)
  have harr : (Cond.arrayOf (.arg 0) .int).before args s = true := hs _ (by decide +kernel)
  have hle : (Cond.le (.length (.arg 0)) (.int 3072)).before args s = true := hs _ (by decide +kernel)
  have hlen : (Cond.isInt (.length (.arg 0))).before args s = true := hq _ (by decide +kernel)
  have hall : (Cond.all (.arg 0) (.isInt (.elem (.arg 0) (.index 0)))).before args s = true := hq _ (by decide +kernel)
  obtain ⟨b, xs, hb, hx⟩ := State.ints_of_pre rfl harr hlen hall
  have hsm : xs.length < 2 ^ 31 := hx.choose_spec.2.2.2
  have hev : (Term.length (.arg 0)).eval args s none [] s = some (.int xs.length.toInt32) := hx.length_eval hb
  have hv := Cond.le_ints hev (show (Term.int 3072).eval args s none [] s = some (.int 3072) from rfl)
  have hd : xs.length.toInt32 ≤ 3072 := by
    simpa [Cond.before, Cond.holds, hv] using hle
  have hN : xs.length ≤ 3072 := (Int32.ofNat_le_ofNat hsm (by decide)).mp (show Int32.ofNat xs.length ≤ Int32.ofNat 3072 from hd)
  exact ⟨b, xs, Cond.one_arg hc (show args[0]? = some (.ref b) from hb), hx, hN, h⟩
theorem lw_comes (l : Launch) (hflags : l.flags = flags0) : Comes l x (Jvm.Cond.code x code maxLocals ret :: tables_1) room_1 (fun tb e args s => Calls_1 tb e args s ∧ rest_1 tb e args s ∧ Pre_1 tb e args s)
    (fun _ _ args s o t => lw_Q args s o t) := by
  intro p e ha hc hk s m args below hf hfit hheap happ hpre
  obtain ⟨b, xs, hP⟩ := lw_pre_spec hpre.2.2 hpre.2.1
  obtain ⟨k, o, h1, h2, h3, hQ⟩ := lw_walk l hflags b xs p e ha hc hk s m args below hf ((Spec.applies_iff_loose hf).mp happ).1 hP trivial
  exact ⟨k, o, h1, h2, h3, hQ⟩
theorem lw_frame {s t : State} {o : Outcome} {args : Array Value} (h : Framed s o t [] 601024 7293034) :
    Framed s o t (fieldLocs frame_1_writes args s ++ arrayLocs frame_1_arrays args s ++ staticLocs frame_1_statics s) 601024 7293034 := h
theorem lw_limb (L : Cond) (hL : ∀ (args : Array Value) (s t : State), L.after args s (.returned (some (.int 1))) t = true) :
    ArmFor flags0 classFile x code maxLocals ret World_1 tables_1 room_1 Calls_1 rest_1 Pre_1
      (fun tb e a s o t => postC L tb e a s o t ∧ Framed s o t (fieldLocs frame_1_writes a s ++ arrayLocs frame_1_arrays a s ++ staticLocs frame_1_statics s) 601024 7293034) := by
  intro l hflags _ _ p e ha hc hk s m args below hf hfit hheap happ hpre
  obtain ⟨k, o, h1, h2, h3, rfl, hF⟩ := lw_comes l hflags p e ha hc hk s m args below hf hfit hheap happ hpre
  exact ⟨k, _, h1, h2, h3, hL args s _, lw_frame hF⟩
theorem i_vc : Claimed_1_1 ∧ Claimed_1_2 := ⟨lw_limb limb_1_1 (fun args s t => by simp [limb_1_1, Cond.after, Cond.holds, Cond.value]), lw_limb limb_1_2 (fun args s t => Cond.after_iff.mpr (by
  first | (rw [show limb_1_2 = Cond.eq .result (.int 1) from rfl, Cond.eq_ints (x := 1) (y := 1) rfl rfl]; simp; done) | (simp [limb_1_2, Cond.value, Term.eval]; done)))⟩
