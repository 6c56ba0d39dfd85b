/-! THE JUDGEMENT. A method's run, over an abstract memory: cells by their own numbers (100 and on: what this run has made, in its order; below: constants), what each holds by place -/
abbrev Zt : Type := Nat × (Nat → Nat × Nat)
abbrev Rt : Type := Nat → Nat → Option Nat
abbrev It : Type := Nat → Nat → Int32
abbrev Lt : Type := Nat → Nat → Int64
abbrev Gt : Type := Nat × (Nat → Nat) × va_G × (Nat → ClassId)
abbrev Mi : Type := MethodName × ByteArray × Nat × Option FieldType
abbrev Pt' : Type := Option Value → Zt → Rt → It → Lt → Prop
abbrev cls : List vw_C := [(RX0, TX0, 2), (RX1, TX1, 5), (RX2, TX2, 3), (RX3, TX3, 2), (RX4, TX4, 9), (RX5, TX5, 10), (RX6, TX6, 1), (RX7, TX7, 1), (RX8, TX8, 1), (RX9, TX9, 4), (RX10, TX10, 8), (RX11, TX11, 18), (RX12, TX12, 52)]
/-- what a field is: 0 an int (or boolean), 1 a long, 2 a reference -/
def kdo (t : FieldType) : Nat := match t with
  | .object _ => 2
  | .array _ => 2
  | .long => 1
  | _ => 0
def fty (c j : Nat) : FieldType := match c with
  | 0 => tyX0 j
  | 1 => tyX1 j
  | 2 => tyX2 j
  | 3 => tyX3 j
  | 4 => tyX4 j
  | 5 => tyX5 j
  | 6 => tyX6 j
  | 7 => tyX7 j
  | 8 => tyX8 j
  | 9 => tyX9 j
  | 10 => tyX10 j
  | 11 => tyX11 j
  | _ => tyX12 j
def fN (c : Nat) : Nat := match cls[c]? with
  | some q => q.2.2
  | none => 0
def ad (G : Gt) (k : Nat) : Nat := if 100 ≤ k then G.1 + (k - 100) else G.2.1 k
def tr (G : Gt) (v : Value) : Value := match v with
  | .ref k => .ref (ad G k)
  | .int x => .int x
  | .long x => .long x
  | .float x => .float x
  | .double x => .double x
  | .null => .null
  | .retAddr x => .retAddr x
def trL (G : Gt) (lv : List (Nat × Value)) : List (Nat × Value) := lv.map fun q => (q.1, tr G q.2)
def rv (r : Option Nat) : Value := match r with
  | none => .null
  | some k => .ref k
def fv (R : Rt) (I : It) (L : Lt) (c k j : Nat) : Value := match kdo (fty c j) with
  | 0 => .int (I k j)
  | 1 => .long (L k j)
  | _ => rv (R k j)
def ce (G : Gt) (R : Rt) (I : It) (L : Lt) (sh : Nat × Nat) (k : Nat) : va_E :=
  if sh.1 < 50 then .inr (sh.1, (List.range (fN sh.1)).map fun j => tr G (fv R I L sh.1 k j))
  else if sh.1 < 54 then .inl (G.2.2.2 sh.1, sh.2, .inl (I k))
  else if sh.1 = 54 then .inl (G.2.2.2 sh.1, sh.2, .inr (.inl (L k)))
  else .inl (G.2.2.2 sh.1, sh.2, .inr (.inr (.inr (.inr fun j => (R k j).map (ad G)))))
def Hp (G : Gt) (Z : Zt) (R : Rt) (I : It) (L : Lt) (H : Heap) : Prop := 100 ≤ Z.1 ∧ H.size = G.1 + (Z.1 - 100) ∧ ∀ k, 100 ≤ k → k < Z.1 → (Z.2 k).1 ≠ 99 → va_at G.2.2.1 cls (ad G k, ce G R I L (Z.2 k) k) H
def aty (t : Nat) : FieldType := if t = 50 then .int else if t = 51 then .byte else if t = 52 then .boolean else if t = 53 then .char else if t = 54 then .long else if t = 55 then .object RX3 else if t = 56 then .object RX0 else .object RX8
def tysG (G : Gt) : List (ClassId × FieldType) := (List.range 8).map fun i => (G.2.2.2 (50 + i), aty (50 + i))
def gA (G : Gt) : Nat → Prop := fun q => G.1 ≤ q
/-- constant arrays: class, name, descriptor, kind, contents; the k-th is cell k -/
def stc : List (String × String × String × Nat × List Int32) := [
  ("DarkestDay$Law", "LETTERS", "[C", 53, [105, 100, 102, 117, 121, 114]),
  ("DarkestDay$Calendar", "LETTERS", "[C", 53, [100, 104, 98, 102, 101, 99]),
  ("DarkestDay$Calendar", "DIGITS", "[I", 50, [0, 2, 1, 1, 0, 1]),
  ("DarkestDay$Port", "CELLS", "[I", 50, [0, 1, 2, 3, 9, 15, 21, 27]),
  ("DarkestDay$Port", "USUAL", "[I", 50, [8, 20, 0, 3, 4, 0, 2, 0]),
  ("DarkestDay$Port", "LETTERS", "[C", 53, [100, 116, 102, 118, 110, 104, 111, 98]),
  ("DarkestDay$Port", "CLAUSES", "[C", 53, [115, 115, 115, 107, 107, 112, 112, 112]),
  ("DarkestDay$Port", "LEAST", "[I", 50, [2, 0, 0, 0, 0, 0, 0, 0]),
  ("DarkestDay$Port", "MOST", "[I", 50, [30, 99, 9, 9, 30, 5, 9, 1])]
/-- String constants: the class's entry, the text; the k-th is cell 20 + k, its bytes cell 30 + k -/
def stk : List (Nat × String × List Int32) := [(26, "y", [121]), (32, "idfuyr", [105, 100, 102, 117, 121, 114]), (261, "dtf", [100, 116, 102]), (267, "vn", [118, 110]), (269, "hob", [104, 111, 98]), (277, "dhbfec", [100, 104, 98, 102, 101, 99])]
def stkL : List Nat := [1, 6, 3, 2, 3, 6]
def stkB : List (List Int32) := [[121], [105, 100, 102, 117, 121, 114], [100, 116, 102], [118, 110], [104, 111, 98], [100, 104, 98, 102, 101, 99]]
/-- what stands for the whole run: the tables, the constants -/
def Sg (G : Gt) (s : State) : Prop := va_K G.2.2.1 cls (tysG G) s ∧ G.1 ≤ s.heap.size ∧
  (∀ (k : Nat) (r : String × String × String × Nat × List Int32), stc[k]? = some r → va_Z r.1 r.2.1 r.2.2.1 (.ref (G.2.1 k)) (gA G) s s.heap ∧ va_T (aty r.2.2.2.1) (G.2.1 k) r.2.2.2.2.length (fun j => .int (r.2.2.2.2.getD j 0)) (gA G) s s.heap) ∧
  va_Z "java/lang/String" "COMPACT_STRINGS" "Z" (.int 1) (gA G) s s.heap ∧
  vk_S 6 stkL stkB (fun k => G.2.1 (20 + k)) (fun k => G.2.1 (30 + k)) (gA G) s s.heap ∧
  (∀ (k : Nat) (r : Nat × String × List Int32), stk[k]? = some r → vk_R RX12 r.1 r.2.1 (G.2.1 (20 + k)) s) ∧
  (∀ (a : String) (i : Nat) (x : MethodName) (h : String), Cond.methodLinkNest a i x h ∈ lw_tbl → va_Nw (.methodLinkNest a i x h) s) ∧ (∀ C : String, Cond.arrayOver (.object C) ∈ lw_tbl → va_AO C s) ∧
  (va_Z "jdk/internal/util/Preconditions" "SIOOBE_FORMATTER" "Ljava/util/function/BiFunction;" .null (gA G) s s.heap ∨ va_Z "jdk/internal/util/Preconditions" "SIOOBE_FORMATTER" "Ljava/util/function/BiFunction;" (.ref (G.2.1 50)) (gA G) s s.heap)
theorem va_S.keep {A : Nat → Prop} {H0 H : Heap} {locs : List Loc} (h : va_S A H0 H locs) : ∀ a : Nat, a < H0.size → ¬ A a → H[a]? = H0[a]? := h.2.1
theorem Sg.move {G : Gt} {s U : State} {H : Heap} {locs : List Loc} (h : Sg G s) (hS : va_S (gA G) s.heap H locs) (hU : U.heap = H) (hW : s.WarmedH U.vm) : Sg G U := by
  obtain ⟨h1, h2, h3, h4, h5, h6, h7, h8, h9⟩ := h
  have hk : ∀ a : Nat, a < s.heap.size → ¬ gA G a → U.heap[a]? = s.heap[a]? := by rw [hU]; exact hS.2.1
  refine ⟨va_K.moved hW.alike h1, by rw [hU]; exact Nat.le_trans h2 hS.1, fun k r hr => ⟨((h3 k r hr).1.moved hW.alike).kept hk, ((h3 k r hr).2.moved hW.alike).kept hk⟩, (h4.moved hW.alike).kept hk, (h5.moved hW.alike).kept hk, fun k r hr => vk_R.warm hW (h6 k r hr), fun a i x q hz => va_Nw.warmM hW (h7 a i x q hz), fun C hz => va_AO.moved hW.alike (h8 C hz), h9.imp (fun z => (z.moved hW.alike).kept hk) (fun z => (z.moved hW.alike).kept hk)⟩
def TB : List Cond := lw_tbl.filter goodWord
def WS (μ : Mi) : List Cond := Cond.code μ.1 μ.2.1 μ.2.2.1 μ.2.2.2 :: TB
def rm (d mc ms : Nat) : Room := { frames := d, cells := mc, slots := ms, locals := 100 * d }
def Ev (G : Gt) (μ : Mi) (p : Program) (s : State) (m : MethodId) (args : Array Value) (meth : Method) (c : Code) : Prop :=
  p.tables.exec = Jvm.exec ∧ c.code = μ.2.1 ∧ meth.sig.returnType = μ.2.2.2 ∧ c.maxLocals = μ.2.2.1 ∧ s.vm.findClass μ.1.cls = some m.cls ∧ (∀ w ∈ TB, w.before args s = true) ∧ meth.locks = false ∧ meth.name = μ.1.name ∧ Sg G s
def Pcx (G : Gt) (As : List Value) (Z : Zt) (R : Rt) (I : It) (L : Lt) : Array Value → State → Prop := fun args U => args = (As.map (tr G)).toArray ∧ Sg G U ∧ Hp G Z R I L U.heap
def Qx (G : Gt) (post : Pt') : Array Value → State → Outcome → State → Prop := fun _ st o t =>
  (∃ (v : Option Value) (Z' : Zt) (R' : Rt) (I' : It) (L' : Lt), o = .returned (v.map (tr G)) ∧ post v Z' R' I' L' ∧ Hp G Z' R' I' L' t.heap) ∧ va_F (gA G) st t
/-- a method's contract -/
def Cx (G : Gt) (l : Launch) (μ : Mi) (d mc ms : Nat) (As : List Value) (Z : Zt) (R : Rt) (I : It) (L : Lt) (post : Pt') : Prop :=
  Met l μ.1 (WS μ) (rm d mc ms) (Pcx G As Z R I L) (Qx G post) mc ms (gA G)
/-- a method at an instruction -/
def Sx (G : Gt) (l : Launch) (μ : Mi) (d : Nat) (bc bs : Nat) (pc : Nat) (lv : List (Nat × Value)) (st : List Value) (Z : Zt) (R : Rt) (I : It) (L : Lt) (post : Pt') : Prop :=
  ∀ (p : Program) (e : Env) (s : State) (m : MethodId) (args : Array Value) (below : List Frame) (meth : Method) (c : Code) (mc ms : Nat), Ev G μ p s m args meth c →
    ∀ (H : Heap) (locs : List Loc) (cells slots : Nat) (ls : Array Slot), cells + bc ≤ mc → slots + bs ≤ ms → va_S (gA G) s.heap H locs → Hp G Z R I L H → lv_has ls μ.2.2.1 (trL G lv) →
      W p l e (rm d mc ms) s m args below meth c H locs cells slots (MQ below (Qx G post) args s mc ms (gA G)) (F0 m pc ls (st.map (tr G)))
theorem tr_cat (G : Gt) (v : Value) : (tr G v).category = v.category := by cases v <;> rfl
theorem tr_rv (G : Gt) (r : Option Nat) : tr G (rv r) = va_rf (r.map (ad G)) := by cases r <;> rfl
theorem trL_args (G : Gt) : ∀ (i : Nat) (vs : List Value), lv_args i (vs.map (tr G)) = trL G (lv_args i vs) := by
  intro i vs
  induction vs generalizing i with
  | nil => rfl
  | cons v vs ih =>
    show (i, tr G v) :: lv_args (if (tr G v).category = 2 then i + 2 else i + 1) (vs.map (tr G)) = (i, tr G v) :: trL G (lv_args (if v.category = 2 then i + 2 else i + 1) vs)
    rw [ih, tr_cat]
theorem lg_sl_len (G : Gt) (vs : List Value) : (lg_sl (vs.map (tr G))).length = (lg_sl vs).length := by
  induction vs with
  | nil => rfl
  | cons v vs ih =>
    have h1 : lg_sl ((v :: vs).map (tr G)) = (if (tr G v).category = 2 then [Slot.val (tr G v), Slot.second] else [Slot.val (tr G v)]) ++ lg_sl (vs.map (tr G)) := by simp [lg_sl]
    have h2 : lg_sl (v :: vs) = (if v.category = 2 then [Slot.val v, Slot.second] else [Slot.val v]) ++ lg_sl vs := by simp [lg_sl]
    rw [h1, h2, List.length_append, List.length_append, ih, tr_cat]
    split <;> rfl
theorem plain_lem {c : String} (h : plainName c = true) : plainName c = true := h
theorem Cx.of {G : Gt} {l : Launch} {μ : Mi} {d mc ms : Nat} {As : List Value} {Z : Zt} {R : Rt} {I : It} {L : Lt} {post : Pt'} (hy : plainName μ.1.cls = true) (hn : (lg_sl As).length ≤ μ.2.2.1)
    (h : Sx G l μ d mc ms 0 (lv_args 0 As) [] Z R I L post) : Cx G l μ d mc ms As Z R I L post := by
  refine Met.ofW (cc := μ.2.1) (maxL := μ.2.2.1) (ret := μ.2.2.2) hy rfl ?_
  intro p e s m args below meth c s₁ B hml hv
  obtain ⟨rfl, hg, hH⟩ := hv
  have hts := atoms_spec (ws := WS μ) B.pre
  have hl := lv_entry (As.map (tr G)) (n := μ.2.2.1) (by rw [lg_sl_len]; exact hn)
  rw [lg_entry_eq]
  rw [trL_args] at hl
  exact h p e s m _ below meth c mc ms ⟨B.exec, B.bytes, B.returns, hml, findClass_of_methodNamed B.named, fun w hw => hts w (List.mem_cons_of_mem _ hw), B.notSynchronized, (name_of_methodNamed B.named B.method).1, hg⟩ s.heap [] 0 0 _ (by omega) (by omega) va_S.rf hH hl
theorem Sx.weaken {G : Gt} {l : Launch} {μ : Mi} {d bc bs bc' bs' pc : Nat} {lv : List (Nat × Value)} {st : List Value} {Z : Zt} {R : Rt} {I : It} {L : Lt} {post : Pt'} (h1 : bc' ≤ bc) (h2 : bs' ≤ bs) (h : Sx G l μ d bc' bs' pc lv st Z R I L post) : Sx G l μ d bc bs pc lv st Z R I L post :=
  fun p e s m args below meth c mc ms E H locs cells slots ls a1 a2 => h p e s m args below meth c mc ms E H locs cells slots ls (by omega) (by omega)
/-! locals -/
def lvg (lv : List (Nat × Value)) (i : Nat) : Option Value := match lv with
  | [] => none
  | q :: r => if q.1 = i then some q.2 else lvg r i
theorem lvg_mem {lv : List (Nat × Value)} {i : Nat} {v : Value} (h : lvg lv i = some v) : (i, v) ∈ lv := by
  induction lv with
  | nil => cases h
  | cons q r ih =>
    unfold lvg at h
    split at h
    next e => cases h; subst e; exact List.mem_cons_self
    next => exact List.mem_cons_of_mem _ (ih h)
theorem lvg_at {G : Gt} {ls : Array Slot} {n : Nat} {lv : List (Nat × Value)} {i : Nat} {v : Value} (h : lv_has ls n (trL G lv)) (hi : lvg lv i = some v) : ls[i]? = some (.val (tr G v)) :=
  h.2.2 (i, tr G v) (List.mem_map.mpr ⟨(i, v), lvg_mem hi, rfl⟩)
/-- the locals behind a store -/
def lvs (lv : List (Nat × Value)) (i : Nat) (v : Value) : List (Nat × Value) := (i, v) :: lv.filter fun q => !(q.1 == i) && !(q.1 + 1 == i && q.2.category == 2)
def lvs2 (lv : List (Nat × Value)) (i : Nat) (v : Value) : List (Nat × Value) := (i, v) :: lv.filter fun q => !(q.1 == i) && (!(q.1 == i + 1) && !(q.1 + 1 == i && q.2.category == 2))
theorem trL_lvs (G : Gt) (lv : List (Nat × Value)) (i : Nat) (v : Value) : (i, tr G v) :: (trL G lv).filter (fun q => !(q.1 == i) && !(q.1 + 1 == i && q.2.category == 2)) = trL G (lvs lv i v) := by
  show _ = (i, tr G v) :: trL G (lv.filter _)
  congr 1
  unfold trL
  rw [List.filter_map]
  congr 1
  apply List.filter_congr
  intro q _
  simp [tr_cat]
theorem trL_lvs2 (G : Gt) (lv : List (Nat × Value)) (i : Nat) (v : Value) : (i, tr G v) :: (trL G lv).filter (fun q => !(q.1 == i) && (!(q.1 == i + 1) && !(q.1 + 1 == i && q.2.category == 2))) = trL G (lvs2 lv i v) := by
  show _ = (i, tr G v) :: trL G (lv.filter _)
  congr 1
  unfold trL
  rw [List.filter_map]
  congr 1
  apply List.filter_congr
  intro q _
  simp [tr_cat]
/-- other names for locals that say less: every pair of lv' is one of lv -/
theorem Sx.sub {G : Gt} {l : Launch} {μ : Mi} {d bc bs pc : Nat} {lv : List (Nat × Value)} {st : List Value} {Z : Zt} {R : Rt} {I : It} {L : Lt} {post : Pt'} (lv' : List (Nat × Value)) (hs : ∀ q ∈ lv', q ∈ lv) (h : Sx G l μ d bc bs pc lv' st Z R I L post) : Sx G l μ d bc bs pc lv st Z R I L post :=
  fun p e s m args below meth c mc ms E H locs cells slots ls a1 a2 hS hH hl => h p e s m args below meth c mc ms E H locs cells slots ls a1 a2 hS hH ⟨hl.1, hl.2.1, fun q hq => by
    obtain ⟨z, hz, rfl⟩ := List.mem_map.mp hq
    exact hl.2.2 _ (List.mem_map.mpr ⟨z, hs z hz, rfl⟩)⟩
/-- .. by reading each -/
theorem Sx.sub' {G : Gt} {l : Launch} {μ : Mi} {d bc bs pc : Nat} {lv : List (Nat × Value)} {st : List Value} {Z : Zt} {R : Rt} {I : It} {L : Lt} {post : Pt'} (lv' : List (Nat × Value)) (hs : lv'.map (fun q => lvg lv q.1) = lv'.map (fun q => some q.2)) (h : Sx G l μ d bc bs pc lv' st Z R I L post) : Sx G l μ d bc bs pc lv st Z R I L post :=
  Sx.sub lv' (fun q hq => by
    obtain ⟨k, hk⟩ := List.getElem?_of_mem hq
    have h1 : (lv'.map (fun q => lvg lv q.1))[k]? = (lv'.map (fun q => some q.2))[k]? := by rw [hs]
    rw [List.getElem?_map, List.getElem?_map, hk] at h1
    exact lvg_mem (Option.some.inj h1)) h
