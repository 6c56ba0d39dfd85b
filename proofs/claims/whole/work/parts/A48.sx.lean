/-! the law's own body: the judgement with the script at hand (cell 60); its rules are those of Sx over again -/
def SXp (q0 : Nat × (Nat → Int32)) (G : Gt) (s : State) : Prop := va_X (G.2.1 60) q0.1 q0.2 s s.heap ∧ G.2.1 60 < s.heap.size ∧ ¬ gA G (G.2.1 60) ∧ XT G s
def SX (q0 : Nat × (Nat → Int32)) (G : Gt) (l : Launch) (μ : Mi) (d : Nat) (bc bs : Nat) (pc : Nat) (lv : List (Nat × Value)) (st : List Value) (Z : Zt) (R : Rt) (I : It) (L : Lt) (post : Pt') : Prop :=
  ∀ (p : Program) (e : Env) (s : State) (m : MethodId) (args : Array Value) (below : List Frame) (meth : Method) (c : Code) (mc ms : Nat), Ev G μ p s m args meth c → SXp q0 G s →
    ∀ (H : Heap) (locs : List Loc) (cells slots : Nat) (ls : Array Slot), cells + bc ≤ mc → slots + bs ≤ ms → va_S (gA G) s.heap H locs → Hp G Z R I L H → lv_has ls μ.2.2.1 (trL G lv) →
      W p l e (rm d mc ms) s m args below meth c H locs cells slots (MQ below (Qx G post) args s mc ms (gA G)) (F0 m pc ls (st.map (tr G)))
section SXX
variable {q0 : Nat × (Nat → Int32)} {G : Gt} {l : Launch} {μ : Mi} {d bc bs pc : Nat} {lv : List (Nat × Value)} {st : List Value} {Z : Zt} {R : Rt} {I : It} {L : Lt} {post : Pt'}
theorem SX.iconst  {n : Int} {v : Int32} (hd : decode μ.2.1 pc = .ok (.iconst n, 1)) (hv : Int32.ofInt n = v) (k : SX q0 G l μ d bc bs (pc + 1) lv (.int v :: st) Z R I L post) : SX q0 G l μ d bc bs (pc) lv (st) Z R I L post := by
  intro p e s m args below meth c mc ms E hX0 H locs cells slots ls a1 a2 hS hH hl
  exact lv_iconst E.1 E.2.1 hd hv (k p e s m args below meth c mc ms E hX0 H locs cells slots ls a1 a2 hS hH hl)
theorem SX.bipush  {n : Int} {v : Int32} (hd : decode μ.2.1 pc = .ok (.bipush n, 2)) (hv : (Int8.ofInt n).toInt32 = v) (k : SX q0 G l μ d bc bs (pc + 2) lv (.int v :: st) Z R I L post) : SX q0 G l μ d bc bs (pc) lv (st) Z R I L post := by
  intro p e s m args below meth c mc ms E hX0 H locs cells slots ls a1 a2 hS hH hl
  exact lv_bipush E.1 E.2.1 hd hv (k p e s m args below meth c mc ms E hX0 H locs cells slots ls a1 a2 hS hH hl)
theorem SX.ldc2  {i : Nat} {v : Int64} (hd : decode μ.2.1 pc = .ok (.ldc2_w i, 3)) (hw : Cond.constantLong μ.1.cls i v ∈ TB) (k : SX q0 G l μ d bc bs (pc + 3) lv (.long v :: st) Z R I L post) : SX q0 G l μ d bc bs (pc) lv (st) Z R I L post := by
  intro p e s m args below meth c mc ms E hX0 H locs cells slots ls a1 a2 hS hH hl
  exact lv_ldc2 E.1 E.2.1 E.2.2.2.2.1 (E.2.2.2.2.2.1 _ hw) hd (k p e s m args below meth c mc ms E hX0 H locs cells slots ls a1 a2 hS hH hl)
theorem SX.iload  {i : Nat} {x : Int32} (hd : decode μ.2.1 pc = .ok (.iload i, 2)) (hg : lvg lv i = some (.int x)) (k : SX q0 G l μ d bc bs (pc + 2) lv (.int x :: st) Z R I L post) : SX q0 G l μ d bc bs (pc) lv (st) Z R I L post := by
  intro p e s m args below meth c mc ms E hX0 H locs cells slots ls a1 a2 hS hH hl
  exact lv_iload E.1 E.2.1 hd (lvg_at hl hg) (k p e s m args below meth c mc ms E hX0 H locs cells slots ls a1 a2 hS hH hl)
theorem SX.iload_n  {q : Fin 4} {x : Int32} (hd : decode μ.2.1 pc = .ok (.iload_n q, 1)) (hg : lvg lv (q : Nat) = some (.int x)) (k : SX q0 G l μ d bc bs (pc + 1) lv (.int x :: st) Z R I L post) : SX q0 G l μ d bc bs (pc) lv (st) Z R I L post := by
  intro p e s m args below meth c mc ms E hX0 H locs cells slots ls a1 a2 hS hH hl
  exact lv_iload_n E.1 E.2.1 hd rfl (lvg_at hl hg) (k p e s m args below meth c mc ms E hX0 H locs cells slots ls a1 a2 hS hH hl)
theorem SX.aload_n  {q : Fin 4} {x : Nat} (hd : decode μ.2.1 pc = .ok (.aload_n q, 1)) (hg : lvg lv (q : Nat) = some (.ref x)) (k : SX q0 G l μ d bc bs (pc + 1) lv (.ref x :: st) Z R I L post) : SX q0 G l μ d bc bs (pc) lv (st) Z R I L post := by
  intro p e s m args below meth c mc ms E hX0 H locs cells slots ls a1 a2 hS hH hl
  exact lv_aload_n E.1 E.2.1 hd rfl (lvg_at hl hg) (k p e s m args below meth c mc ms E hX0 H locs cells slots ls a1 a2 hS hH hl)
theorem SX.istore  {i : Nat} {lv' : List (Nat × Value)} {x : Int32} (hd : decode μ.2.1 pc = .ok (.istore i, 2)) (hn : i < μ.2.2.1) (he : lvs lv i (.int x) = lv') (k : SX q0 G l μ d bc bs (pc + 2) lv' (st) Z R I L post) : SX q0 G l μ d bc bs (pc) lv (.int x :: st) Z R I L post := by
  intro p e s m args below meth c mc ms E hX0 H locs cells slots ls a1 a2 hS hH hl
  subst he
  exact lv_istore E.1 E.2.1 hd hl hn (trL_lvs G lv i (.int x)) (fun ls' hl' => k p e s m args below meth c mc ms E hX0 H locs cells slots ls' a1 a2 hS hH hl')
theorem SX.astore_n  {q : Fin 4} {lv' : List (Nat × Value)} {x : Nat} (hd : decode μ.2.1 pc = .ok (.astore_n q, 1)) (hn : (q : Nat) < μ.2.2.1) (he : lvs lv (q : Nat) (.ref x) = lv') (k : SX q0 G l μ d bc bs (pc + 1) lv' (st) Z R I L post) : SX q0 G l μ d bc bs (pc) lv (.ref x :: st) Z R I L post := by
  intro p e s m args below meth c mc ms E hX0 H locs cells slots ls a1 a2 hS hH hl
  subst he
  exact lv_astore_n E.1 E.2.1 hd rfl hl hn (trL_lvs G lv _ (.ref x)) (fun ls' hl' => k p e s m args below meth c mc ms E hX0 H locs cells slots ls' a1 a2 hS hH hl')
theorem SX.iinc  {i : Nat} {n : Int} {x v : Int32} {lv' : List (Nat × Value)} (hd : decode μ.2.1 pc = .ok (.iinc i n, 3)) (hg : lvg lv i = some (.int x)) (hv : x + Int32.ofInt n = v) (hn : i < μ.2.2.1) (he : lvs lv i (.int v) = lv') (k : SX q0 G l μ d bc bs (pc + 3) lv' (st) Z R I L post) : SX q0 G l μ d bc bs (pc) lv (st) Z R I L post := by
  intro p e s m args below meth c mc ms E hX0 H locs cells slots ls a1 a2 hS hH hl
  subst he
  obtain ⟨j, hj⟩ := List.getElem?_of_mem (List.mem_map.mpr ⟨(i, .int x), lvg_mem hg, rfl⟩ : (i, tr G (.int x)) ∈ trL G lv)
  exact lv_iinc E.1 E.2.1 hd hl hj hv hn (trL_lvs G lv i (.int v)) (fun ls' hl' => k p e s m args below meth c mc ms E hX0 H locs cells slots ls' a1 a2 hS hH hl')
theorem SX.iadd  {x y : Int32} (hd : decode μ.2.1 pc = .ok (.iadd, 1)) (k : SX q0 G l μ d bc bs (pc + 1) lv (.int (x + y) :: st) Z R I L post) : SX q0 G l μ d bc bs (pc) lv (.int y :: .int x :: st) Z R I L post := by
  intro p e s m args below meth c mc ms E hX0 H locs cells slots ls a1 a2 hS hH hl
  exact lv_iadd E.1 E.2.1 hd (k p e s m args below meth c mc ms E hX0 H locs cells slots ls a1 a2 hS hH hl)
theorem SX.isub  {x y : Int32} (hd : decode μ.2.1 pc = .ok (.isub, 1)) (k : SX q0 G l μ d bc bs (pc + 1) lv (.int (x - y) :: st) Z R I L post) : SX q0 G l μ d bc bs (pc) lv (.int y :: .int x :: st) Z R I L post := by
  intro p e s m args below meth c mc ms E hX0 H locs cells slots ls a1 a2 hS hH hl
  exact lv_isub E.1 E.2.1 hd (k p e s m args below meth c mc ms E hX0 H locs cells slots ls a1 a2 hS hH hl)
theorem SX.iand  {x y : Int32} (hd : decode μ.2.1 pc = .ok (.iand, 1)) (k : SX q0 G l μ d bc bs (pc + 1) lv (.int (x &&& y) :: st) Z R I L post) : SX q0 G l μ d bc bs (pc) lv (.int y :: .int x :: st) Z R I L post := by
  intro p e s m args below meth c mc ms E hX0 H locs cells slots ls a1 a2 hS hH hl
  exact lv_iand E.1 E.2.1 hd (k p e s m args below meth c mc ms E hX0 H locs cells slots ls a1 a2 hS hH hl)
theorem SX.land  {x y : Int64} (hd : decode μ.2.1 pc = .ok (.land, 1)) (k : SX q0 G l μ d bc bs (pc + 1) lv (.long (x &&& y) :: st) Z R I L post) : SX q0 G l μ d bc bs (pc) lv (.long y :: .long x :: st) Z R I L post := by
  intro p e s m args below meth c mc ms E hX0 H locs cells slots ls a1 a2 hS hH hl
  exact lv_land E.1 E.2.1 hd (k p e s m args below meth c mc ms E hX0 H locs cells slots ls a1 a2 hS hH hl)
theorem SX.lor  {x y : Int64} (hd : decode μ.2.1 pc = .ok (.lor, 1)) (k : SX q0 G l μ d bc bs (pc + 1) lv (.long (x ||| y) :: st) Z R I L post) : SX q0 G l μ d bc bs (pc) lv (.long y :: .long x :: st) Z R I L post := by
  intro p e s m args below meth c mc ms E hX0 H locs cells slots ls a1 a2 hS hH hl
  exact lv_lor E.1 E.2.1 hd (k p e s m args below meth c mc ms E hX0 H locs cells slots ls a1 a2 hS hH hl)
theorem SX.lcmp  {x y : Int64} (hd : decode μ.2.1 pc = .ok (.lcmp, 1)) (k : SX q0 G l μ d bc bs (pc + 1) lv (.int (lg_cmp x y) :: st) Z R I L post) : SX q0 G l μ d bc bs (pc) lv (.long y :: .long x :: st) Z R I L post := by
  intro p e s m args below meth c mc ms E hX0 H locs cells slots ls a1 a2 hS hH hl
  exact W.lcmp E.1 E.2.1 hd (k p e s m args below meth c mc ms E hX0 H locs cells slots ls a1 a2 hS hH hl)
theorem SX.lshl  {x : Int64} {y : Int32} (hd : decode μ.2.1 pc = .ok (.lshl, 1)) (k : SX q0 G l μ d bc bs (pc + 1) lv (.long (x <<< (y.toInt64 &&& 63)) :: st) Z R I L post) : SX q0 G l μ d bc bs (pc) lv (.int y :: .long x :: st) Z R I L post := by
  intro p e s m args below meth c mc ms E hX0 H locs cells slots ls a1 a2 hS hH hl
  exact lv_lshl E.1 E.2.1 hd rfl (k p e s m args below meth c mc ms E hX0 H locs cells slots ls a1 a2 hS hH hl)
theorem SX.i2l  {x : Int32} (hd : decode μ.2.1 pc = .ok (.i2l, 1)) (k : SX q0 G l μ d bc bs (pc + 1) lv (.long x.toInt64 :: st) Z R I L post) : SX q0 G l μ d bc bs (pc) lv (.int x :: st) Z R I L post := by
  intro p e s m args below meth c mc ms E hX0 H locs cells slots ls a1 a2 hS hH hl
  exact lv_i2l E.1 E.2.1 hd rfl (k p e s m args below meth c mc ms E hX0 H locs cells slots ls a1 a2 hS hH hl)
theorem SX.dup  {v : Value} (hd : decode μ.2.1 pc = .ok (.dup, 1)) (hv : v.category = 1) (k : SX q0 G l μ d bc bs (pc + 1) lv (v :: v :: st) Z R I L post) : SX q0 G l μ d bc bs (pc) lv (v :: st) Z R I L post := by
  intro p e s m args below meth c mc ms E hX0 H locs cells slots ls a1 a2 hS hH hl
  exact lv_dup E.1 E.2.1 hd ((tr_cat G v).trans hv) (k p e s m args below meth c mc ms E hX0 H locs cells slots ls a1 a2 hS hH hl)
theorem SX.if_eq  {x : Int32} {o : Int} {t : Nat} (hd : decode μ.2.1 pc = .ok (.ifCond .eq o, 3)) (ht : (pc : Int) + o = (t : Int)) (kt : (x = 0) → SX q0 G l μ d bc bs (t) lv (st) Z R I L post) (kf : ¬ (x = 0) → SX q0 G l μ d bc bs (pc + 3) lv (st) Z R I L post) : SX q0 G l μ d bc bs (pc) lv (.int x :: st) Z R I L post := by
  intro p e s m args below meth c mc ms E hX0 H locs cells slots ls a1 a2 hS hH hl
  exact lv_if_eq E.1 E.2.1 hd ht (fun h => kt h p e s m args below meth c mc ms E hX0 H locs cells slots ls a1 a2 hS hH hl) (fun h => kf h p e s m args below meth c mc ms E hX0 H locs cells slots ls a1 a2 hS hH hl)
theorem SX.icmp_eq  {x y : Int32} {o : Int} {t : Nat} (hd : decode μ.2.1 pc = .ok (.if_icmp .eq o, 3)) (ht : (pc : Int) + o = (t : Int)) (kt : (x = y) → SX q0 G l μ d bc bs (t) lv (st) Z R I L post) (kf : ¬ (x = y) → SX q0 G l μ d bc bs (pc + 3) lv (st) Z R I L post) : SX q0 G l μ d bc bs (pc) lv (.int y :: .int x :: st) Z R I L post := by
  intro p e s m args below meth c mc ms E hX0 H locs cells slots ls a1 a2 hS hH hl
  exact lv_icmp_eq E.1 E.2.1 hd ht (fun h => kt h p e s m args below meth c mc ms E hX0 H locs cells slots ls a1 a2 hS hH hl) (fun h => kf h p e s m args below meth c mc ms E hX0 H locs cells slots ls a1 a2 hS hH hl)
theorem SX.if_ne  {x : Int32} {o : Int} {t : Nat} (hd : decode μ.2.1 pc = .ok (.ifCond .ne o, 3)) (ht : (pc : Int) + o = (t : Int)) (kt : (¬ x = 0) → SX q0 G l μ d bc bs (t) lv (st) Z R I L post) (kf : (x = 0) → SX q0 G l μ d bc bs (pc + 3) lv (st) Z R I L post) : SX q0 G l μ d bc bs (pc) lv (.int x :: st) Z R I L post := by
  intro p e s m args below meth c mc ms E hX0 H locs cells slots ls a1 a2 hS hH hl
  exact lv_if_ne E.1 E.2.1 hd ht (fun h => kt h p e s m args below meth c mc ms E hX0 H locs cells slots ls a1 a2 hS hH hl) (fun h => kf h p e s m args below meth c mc ms E hX0 H locs cells slots ls a1 a2 hS hH hl)
theorem SX.icmp_gt  {x y : Int32} {o : Int} {t : Nat} (hd : decode μ.2.1 pc = .ok (.if_icmp .gt o, 3)) (ht : (pc : Int) + o = (t : Int)) (kt : (y < x) → SX q0 G l μ d bc bs (t) lv (st) Z R I L post) (kf : ¬ (y < x) → SX q0 G l μ d bc bs (pc + 3) lv (st) Z R I L post) : SX q0 G l μ d bc bs (pc) lv (.int y :: .int x :: st) Z R I L post := by
  intro p e s m args below meth c mc ms E hX0 H locs cells slots ls a1 a2 hS hH hl
  exact lv_icmp_gt E.1 E.2.1 hd ht (fun h => kt h p e s m args below meth c mc ms E hX0 H locs cells slots ls a1 a2 hS hH hl) (fun h => kf h p e s m args below meth c mc ms E hX0 H locs cells slots ls a1 a2 hS hH hl)
theorem SX.goto  {o : Int} {t : Nat} (hd : decode μ.2.1 pc = .ok (.goto o, 3)) (ht : (pc : Int) + o = (t : Int)) (k : SX q0 G l μ d bc bs (t) lv (st) Z R I L post) : SX q0 G l μ d bc bs (pc) lv (st) Z R I L post := by
  intro p e s m args below meth c mc ms E hX0 H locs cells slots ls a1 a2 hS hH hl
  exact lv_goto E.1 E.2.1 hd ht (k p e s m args below meth c mc ms E hX0 H locs cells slots ls a1 a2 hS hH hl)
theorem SX.tableOut  {dflt lo hi : Int} {offs : Array Int} {len : Nat} {x : Int32} {t : Nat} (hd : decode μ.2.1 pc = .ok (.tableswitch dflt lo hi offs, len)) (h : x.toInt < lo ∨ hi < x.toInt) (ht : (pc : Int) + dflt = (t : Int)) (k : SX q0 G l μ d bc bs (t) lv (st) Z R I L post) : SX q0 G l μ d bc bs (pc) lv (.int x :: st) Z R I L post := by
  intro p e s m args below meth c mc ms E hX0 H locs cells slots ls a1 a2 hS hH hl
  exact lv_tableOut E.1 E.2.1 hd h ht (k p e s m args below meth c mc ms E hX0 H locs cells slots ls a1 a2 hS hH hl)
theorem SX.tableIn  {dflt lo hi : Int} {offs : Array Int} {len : Nat} {x : Int32} {o : Int} {t : Nat} (hd : decode μ.2.1 pc = .ok (.tableswitch dflt lo hi offs, len)) (h1 : ¬ x.toInt < lo) (h2 : ¬ hi < x.toInt) (ho : offs[(x.toInt - lo).toNat]? = some o) (ht : (pc : Int) + o = (t : Int)) (k : SX q0 G l μ d bc bs (t) lv (st) Z R I L post) : SX q0 G l μ d bc bs (pc) lv (.int x :: st) Z R I L post := by
  intro p e s m args below meth c mc ms E hX0 H locs cells slots ls a1 a2 hS hH hl
  exact lv_tableIn E.1 E.2.1 hd h1 h2 ho ht (k p e s m args below meth c mc ms E hX0 H locs cells slots ls a1 a2 hS hH hl)

theorem SX.lald {a n : Nat} {i : Int32} (hd : decode μ.2.1 pc = .ok (.laload, 1)) (ha : ar Z a 54 n) (hi : vp_in i n) (k : SX q0 G l μ d bc bs (pc + 1) lv (.long (L a i.toNatClampNeg) :: st) Z R I L post) : SX q0 G l μ d bc bs pc lv (.int i :: .ref a :: st) Z R I L post := by
  intro p e s m args below meth c0 mc ms E hX0 H locs cells slots ls a1 a2 hS hH hl
  exact va_lald E.1 E.2.1 E.2.2.2.2.2.2.2.2.1 (hH.arrL ha) 0 4 rfl (tys_at (t := 54) (by decide) (by decide)) hi hd (k p e s m args below meth c0 mc ms E hX0 H locs cells slots ls a1 a2 hS hH hl)
theorem SX.new {i c : Nat} (hd : decode μ.2.1 pc = .ok (.new i, 3)) (hk : LkN μ.1.cls i c) {bc' bs' : Nat} (hb : bc = bc' + 1) (hs : bs = bs' + fN c)
    (k : SX q0 G l μ d bc' bs' (pc + 3) lv (.ref Z.1 :: st) (mkZ Z c 0) (mkR Z R) (mkI Z I) (mkL Z L) post) : SX q0 G l μ d bc bs pc lv st Z R I L post := by
  intro p e s m args below meth c0 mc ms E hX0 H locs cells slots ls a1 a2 hS hH hl
  obtain ⟨C, T, N, h1, h2, h3, h4, h5, h6, h7, h8, h9⟩ := hk
  subst hb; subst hs; subst h2
  have hK := E.2.2.2.2.2.2.2.2.1
  have hKn := hK.1 c _ h1
  refine W.newcK E.1 E.2.1 E.2.2.2.2.1 (E.2.2.2.2.2.1 _ h6) (E.2.2.2.2.2.1 _ h7) (E.2.2.2.2.2.1 _ h8) rfl hd (by show cells + 1 ≤ mc; omega) (by show slots + fN c ≤ ms; omega) hKn.2.1 rfl fun H1 kC hkC e1 z1 o1 => ?_
  have had : ad G Z.1 = H.size := by rw [ad_reg hH.1, hH.2.1]
  have := k p e s m args below meth c0 mc ms E hX0 H1 locs (cells + 1) (slots + fN c) ls (by omega) (by omega) ⟨Nat.le_trans hS.1 (by omega), fun x g1 g2 => (o1 x (Nat.lt_of_lt_of_le g1 hS.1)).trans (hS.2.1 x g1 g2), hS.2.2⟩ (hH.mk' (t := c) (n := 0) (by
    rw [ce_ob h3, had]
    refine ⟨_, h1, (u_born (fty c) (ws := TB) E.2.2.2.2.2.1 h4 hKn hkC e1 h5).to (fun j hj => ?_)⟩
    rw [vpV_range _ _ hj, h9 j hj]
    unfold fv
    generalize kdo (fty c j) = q
    match q with
    | 0 => simp [mkI, va_up, tr]
    | 1 => simp [mkL, va_up, tr]
    | _ + 2 => simp [mkR, va_up, tr, rv]) z1 o1) hl
  rw [show (Value.ref Z.1 :: st).map (tr G) = .ref H.size :: st.map (tr G) by show Value.ref (ad G Z.1) :: _ = _; rw [had]] at this
  exact this
theorem SX.newarr {t N : Nat} {ty : ArrayType} {n : Int32} (hd : decode μ.2.1 pc = .ok (.newarray ty, 2)) (ht1 : 50 ≤ t) (ht2 : t < 55) (hty : newarray.typeOf ty = aty t) (hw : Cond.arrayClass (aty t) ∈ TB) (hn : ¬ n < 0) (hN : n.toNatClampNeg = N) (hby : N ≤ 60000000) {bc' bs' : Nat} (hb : bc = bc' + 1) (hs : bs = bs' + N)
    (k : SX q0 G l μ d bc' bs' (pc + 2) lv (.ref Z.1 :: st) (mkZ Z t N) (mkR Z R) (mkI Z I) (mkL Z L) post) : SX q0 G l μ d bc bs pc lv (.int n :: st) Z R I L post := by
  intro p e s m args below meth c0 mc ms E hX0 H locs cells slots ls a1 a2 hS hH hl
  subst hb; subst hs
  have hK := E.2.2.2.2.2.2.2.2.1
  have had : ad G Z.1 = H.size := by rw [ad_reg hH.1, hH.2.1]
  have hta := hK.2 (t - 50) _ (tys_at ht1 (by omega))
  refine va_newaK E.1 E.2.1 (atype := ty) (by rw [hty]; exact E.2.2.2.2.2.1 _ hw) rfl hd rfl hn hN (by
    have : componentBytes (newarray.typeOf ty) ≤ 8 := by cases ty <;> decide
    calc N * componentBytes (newarray.typeOf ty) ≤ N * 8 := Nat.mul_le_mul_left _ this
      _ ≤ 536870912 := by omega) (by show cells + 1 ≤ mc; omega) (by show slots + N ≤ ms; omega) rfl fun H1 cA e1 z1 o1 hAr hNm => ?_
  have hcA : cA = G.2.2.2 t := by
    have h2 := hta.2
    rw [hty] at hNm
    have : s.vm.findClass ("[" ++ (aty t).toString) = some (G.2.2.2 t) := by
      have h3 : t = 50 ∨ t = 51 ∨ t = 52 ∨ t = 53 ∨ t = 54 := by omega
      rcases h3 with rfl | rfl | rfl | rfl | rfl <;> exact h2
    exact Option.some.inj (hNm.symm.trans this)
  subst hcA
  have := k p e s m args below meth c0 mc ms E hX0 H1 locs (cells + 1) (slots + N) ls (by omega) (by omega) ⟨Nat.le_trans hS.1 (by omega), fun x g1 g2 => (o1 x (Nat.lt_of_lt_of_le g1 hS.1)).trans (hS.2.1 x g1 g2), hS.2.2⟩ (hH.mk' (t := t) (n := N) (by
    rw [had]
    rw [hty] at e1
    by_cases h4 : t < 54
    · rw [ce_ar ht1 h4]
      show H1[H.size]? = some (vp_cell _ _)
      rw [e1, vp_cell_i]
      have h3 : t = 50 ∨ t = 51 ∨ t = 52 ∨ t = 53 := by omega
      rcases h3 with rfl | rfl | rfl | rfl <;> simp [mkI, va_up, aty, defaultValue]
    · have h3 : t = 54 := by omega
      subst h3
      rw [ce_arL]
      show H1[H.size]? = some (vp_cell _ _)
      rw [e1, vp_cell_l]
      simp [mkL, va_up, aty, defaultValue]) z1 o1) hl
  rw [show (Value.ref Z.1 :: st).map (tr G) = .ref H.size :: st.map (tr G) by show Value.ref (ad G Z.1) :: _ = _; rw [had]] at this
  exact this
theorem SX.back {p : Program} {e : Env} {s : State} {m : MethodId} {args : Array Value} {below : List Frame} {meth : Method} {c0 : Code} {mc ms : Nat} (E : Ev G μ p s m args meth c0) (hX0 : SXp q0 G s) {H : Heap} {locs : List Loc} {cells slots : Nat} {ls : Array Slot} {bc' bs' mc' ms' : Nat} {rest st0 : List Value} {a : Array Value}
    (hr : va_Run p l e (rm d mc ms) s m args below meth c0 H locs cells slots mc' ms' (F0 m pc ls st0) (rest.map (tr G)) (Qx G (fun v Z' R' I' L' => SX q0 G l μ d bc' bs' (pc + 3) lv (psh v rest) Z' R' I' L' post) a) (gA G))
    (a1 : cells + (bc' + mc') ≤ mc) (a2 : slots + (bs' + ms') ≤ ms) (hS : va_S (gA G) s.heap H locs) (hl : lv_has ls μ.2.2.1 (trL G lv)) :
    W p l e (rm d mc ms) s m args below meth c0 H locs cells slots (MQ below (Qx G post) args s mc ms (gA G)) (F0 m pc ls st0) := by
  intro T hT X
  obtain ⟨v, st₀, t, T', L1, h0, X', hL, e1, e2, ⟨⟨v', Z', R', I', L', hv, hp, hh⟩, hz, hk⟩, stp⟩ := hr T hT X
  have hv' : v = v'.map (tr G) := Outcome.returned.inj hv
  subst hv'
  rw [h0] at hz hk
  have hst : (v'.map (tr G)).toList ++ rest.map (tr G) = (psh v' rest).map (tr G) := by cases v' <;> rfl
  have hS' : va_S (gA G) s.heap T'.heap (locs ++ L1) := ⟨Nat.le_trans hS.1 (by rw [e1]; exact hz), fun q h1 h2 => by rw [e1, hk q (Nat.lt_of_lt_of_le h1 hS.1) h2]; exact hS.2.1 q h1 h2, fun q hq => by
      rcases List.mem_append.mp hq with h | h
      · exact hS.2.2 q h
      · exact hL q h⟩
  obtain ⟨t2, b1, b2⟩ := hp p e s m args below meth c0 mc ms E hX0 T'.heap (locs ++ L1) (cells + mc') (slots + ms') ls (by omega) (by omega) hS' (by rw [e1]; exact hh) hl T' rfl X'
  rw [← hst] at b1
  exact ⟨t2, stp t2 b1, b2⟩
theorem SX.callV {i n d' mc' ms' a : Nat} {y : Mi} {As : List Value} (hd : decode μ.2.1 pc = .ok (.invokevirtual i, 3)) (hk : LkV μ.1.cls i y n) (hr : rcv Z a y.1.cls) (hn : As.length = n) (hdd : d' + 1 ≤ d) (hm : y.2.2.1 ≤ 80) (hml : stW st ≤ 8) {bc' bs' : Nat} (hb : bc = bc' + mc') (hs : bs = bs' + ms')
    (hC : Cx G l y d' mc' ms' (.ref a :: As) Z R I L (fun v Z' R' I' L' => SX q0 G l μ d bc' bs' (pc + 3) lv (psh v st) Z' R' I' L' post)) : SX q0 G l μ d bc bs pc lv (As.reverse ++ .ref a :: st) Z R I L post := by
  intro p e s m args below meth c0 mc ms E hX0 H locs cells slots ls a1 a2 hS hH hl
  obtain ⟨k1, k2, k3, k4, k5, k6⟩ := hk
  subst hb; subst hs
  have hts := E.2.2.2.2.2.1
  refine SX.back E hX0 (va_runV (As := As.map (tr G)) (rest := st.map (tr G)) (b := ad G a) (own := μ.1.cls) (C := y.1.cls) (index := i) (n := n) (nL := μ.2.2.1) (Ts := TB) ⟨E.1, E.2.1, E.2.2.2.1, E.2.2.2.2.1, hts⟩ hC ⟨callB_of n hts (WS_in k5) rfl rfl rfl (hts _ k4) (hts _ k1) k6 (rmok hdd hm), hts _ k2, hts _ k3⟩ ⟨Pcx.blind, Rcv.cell hr E.2.2.2.2.2.2.2.2 hS hH, fun U hU hW => ⟨rfl, E.2.2.2.2.2.2.2.2.move hS hU hW, by rw [hU]; exact hH⟩⟩ rfl (by simpa using hn) hl.1 ?_ ?_ hd ⟨by show cells + mc' ≤ mc; omega, by show slots + ms' ≤ ms; omega⟩) a1 a2 hS hl
  · simp [tr]
  · refine lv_room ?_
    rw [List.map_map]
    have : (fun v => v.category) ∘ tr G = fun v : Value => v.category := by funext v; exact tr_cat G v
    rw [this]
    exact hml
theorem SX.callI {i n d' mc' ms' a : Nat} {y : Mi} {As : List Value} (hd : decode μ.2.1 pc = .ok (.invokespecial i, 3)) (hk : LkI μ.1.cls i y n) (hn : As.length = n) (hdd : d' + 1 ≤ d) (hm : y.2.2.1 ≤ 80) (hml : stW st ≤ 8) {bc' bs' : Nat} (hb : bc = bc' + mc') (hs : bs = bs' + ms')
    (hC : Cx G l y d' mc' ms' (.ref a :: As) Z R I L (fun v Z' R' I' L' => SX q0 G l μ d bc' bs' (pc + 3) lv (psh v st) Z' R' I' L' post)) : SX q0 G l μ d bc bs pc lv (As.reverse ++ .ref a :: st) Z R I L post := by
  intro p e s m args below meth c0 mc ms E hX0 H locs cells slots ls a1 a2 hS hH hl
  obtain ⟨k1, k2, k3, k4, k5, k7, k6⟩ := hk
  subst hb; subst hs
  have hts := E.2.2.2.2.2.1
  have hcb := callB_of (R := rm d mc ms) (ws := WS y) (rm := rm d' mc' ms') (mc := mc') (ms := ms') n hts (WS_in k5) rfl rfl rfl (hts _ k4) (hts _ k1) k6 (rmok hdd hm)
  rw [k7] at hcb
  refine SX.back E hX0 (va_runI (As := As.map (tr G)) (rest := st.map (tr G)) (b := ad G a) (own := μ.1.cls) (index := i) (n := n) (nL := μ.2.2.1) (Ts := TB) ⟨E.1, E.2.1, E.2.2.2.1, E.2.2.2.2.1, hts⟩ hC ⟨hcb, k2, hts _ k3⟩ ⟨Pcx.blind, fun U hU hW => ⟨rfl, E.2.2.2.2.2.2.2.2.move hS hU hW, by rw [hU]; exact hH⟩⟩ rfl (by simpa using hn) hl.1 ?_ ?_ hd ⟨by show cells + mc' ≤ mc; omega, by show slots + ms' ≤ ms; omega⟩) a1 a2 hS hl
  · simp [tr]
  · refine lv_room ?_
    rw [List.map_map]
    have : (fun v => v.category) ∘ tr G = fun v : Value => v.category := by funext v; exact tr_cat G v
    rw [this]
    exact hml
theorem SX.iret {x : Int32} (hd : decode μ.2.1 pc = .ok (.ireturn, 1)) {ty : FieldType} (hr : μ.2.2.2 = some ty) (hn : narrow ty (.int x) = .int x) (h : post (some (.int x)) Z R I L) : SX q0 G l μ d bc bs pc lv [.int x] Z R I L post := by
  intro p e s m args below meth c0 mc ms E hX0 H locs cells slots ls a1 a2 hS hH hl
  refine W.widen (k := mc) (n := ms) (by omega) (by omega) ?_
  exact W.zret E.1 E.2.1 (E.2.2.1.trans hr) hn (fun t ht hW => ⟨⟨some (.int x), Z, R, I, L, rfl, h, by rw [ht]; exact hH⟩, hS.F ht⟩) hS.2.2 hd E.2.2.2.2.2.2.1
theorem SX.callV0 {i d' mc' ms' : Nat} {y : Mi} {a : Nat} (hd : decode μ.2.1 pc = .ok (.invokevirtual i, 3)) (hk : LkV μ.1.cls i y 0) (hr : rcv Z a y.1.cls) (hdd : d' + 1 ≤ d) (hm : y.2.2.1 ≤ 80) (hml : stW st ≤ 8) {bc' bs' : Nat} (hb : bc = bc' + mc') (hs : bs = bs' + ms')
    (hC : Cx G l y d' mc' ms' [.ref a] Z R I L (fun v Z' R' I' L' => SX q0 G l μ d bc' bs' (pc + 3) lv (psh v st) Z' R' I' L' post)) : SX q0 G l μ d bc bs pc lv (.ref a :: st) Z R I L post :=
  SX.callV (As := []) hd hk hr rfl hdd hm hml hb hs hC
theorem SX.callV1 {i d' mc' ms' : Nat} {y : Mi} {a : Nat} {v1 : Value} (hd : decode μ.2.1 pc = .ok (.invokevirtual i, 3)) (hk : LkV μ.1.cls i y 1) (hr : rcv Z a y.1.cls) (hdd : d' + 1 ≤ d) (hm : y.2.2.1 ≤ 80) (hml : stW st ≤ 8) {bc' bs' : Nat} (hb : bc = bc' + mc') (hs : bs = bs' + ms')
    (hC : Cx G l y d' mc' ms' [.ref a, v1] Z R I L (fun v Z' R' I' L' => SX q0 G l μ d bc' bs' (pc + 3) lv (psh v st) Z' R' I' L' post)) : SX q0 G l μ d bc bs pc lv (v1 :: .ref a :: st) Z R I L post :=
  SX.callV (As := [v1]) hd hk hr rfl hdd hm hml hb hs hC
theorem SX.callV2 {i d' mc' ms' : Nat} {y : Mi} {a : Nat} {v1 v2 : Value} (hd : decode μ.2.1 pc = .ok (.invokevirtual i, 3)) (hk : LkV μ.1.cls i y 2) (hr : rcv Z a y.1.cls) (hdd : d' + 1 ≤ d) (hm : y.2.2.1 ≤ 80) (hml : stW st ≤ 8) {bc' bs' : Nat} (hb : bc = bc' + mc') (hs : bs = bs' + ms')
    (hC : Cx G l y d' mc' ms' [.ref a, v1, v2] Z R I L (fun v Z' R' I' L' => SX q0 G l μ d bc' bs' (pc + 3) lv (psh v st) Z' R' I' L' post)) : SX q0 G l μ d bc bs pc lv (v2 :: v1 :: .ref a :: st) Z R I L post :=
  SX.callV (As := [v1, v2]) hd hk hr rfl hdd hm hml hb hs hC
theorem SX.callV3 {i d' mc' ms' : Nat} {y : Mi} {a : Nat} {v1 v2 v3 : Value} (hd : decode μ.2.1 pc = .ok (.invokevirtual i, 3)) (hk : LkV μ.1.cls i y 3) (hr : rcv Z a y.1.cls) (hdd : d' + 1 ≤ d) (hm : y.2.2.1 ≤ 80) (hml : stW st ≤ 8) {bc' bs' : Nat} (hb : bc = bc' + mc') (hs : bs = bs' + ms')
    (hC : Cx G l y d' mc' ms' [.ref a, v1, v2, v3] Z R I L (fun v Z' R' I' L' => SX q0 G l μ d bc' bs' (pc + 3) lv (psh v st) Z' R' I' L' post)) : SX q0 G l μ d bc bs pc lv (v3 :: v2 :: v1 :: .ref a :: st) Z R I L post :=
  SX.callV (As := [v1, v2, v3]) hd hk hr rfl hdd hm hml hb hs hC
theorem SX.callV5 {i d' mc' ms' : Nat} {y : Mi} {a : Nat} {v1 v2 v3 v4 v5 : Value} (hd : decode μ.2.1 pc = .ok (.invokevirtual i, 3)) (hk : LkV μ.1.cls i y 5) (hr : rcv Z a y.1.cls) (hdd : d' + 1 ≤ d) (hm : y.2.2.1 ≤ 80) (hml : stW st ≤ 8) {bc' bs' : Nat} (hb : bc = bc' + mc') (hs : bs = bs' + ms')
    (hC : Cx G l y d' mc' ms' [.ref a, v1, v2, v3, v4, v5] Z R I L (fun v Z' R' I' L' => SX q0 G l μ d bc' bs' (pc + 3) lv (psh v st) Z' R' I' L' post)) : SX q0 G l μ d bc bs pc lv (v5 :: v4 :: v3 :: v2 :: v1 :: .ref a :: st) Z R I L post :=
  SX.callV (As := [v1, v2, v3, v4, v5]) hd hk hr rfl hdd hm hml hb hs hC
theorem SX.top {x y : Int32} (e : x = y) (k : SX q0 G l μ d bc bs pc lv (.int y :: st) Z R I L post) : SX q0 G l μ d bc bs pc lv (.int x :: st) Z R I L post := e ▸ k
theorem SX.topL {x y : Int64} (e : x = y) (k : SX q0 G l μ d bc bs pc lv (.long y :: st) Z R I L post) : SX q0 G l μ d bc bs pc lv (.long x :: st) Z R I L post := e ▸ k
theorem SX.sub (lv' : List (Nat × Value)) (hs : ∀ q ∈ lv', q ∈ lv) (h : SX q0 G l μ d bc bs pc lv' st Z R I L post) : SX q0 G l μ d bc bs pc lv st Z R I L post :=
  fun p e s m args below meth c mc ms E hX0 H locs cells slots ls a1 a2 hS hH hl => h p e s m args below meth c mc ms E hX0 H locs cells slots ls a1 a2 hS hH ⟨hl.1, hl.2.1, fun q hq => by
    obtain ⟨z, hz, rfl⟩ := List.mem_map.mp hq
    exact hl.2.2 _ (List.mem_map.mpr ⟨z, hs z hz, rfl⟩)⟩
theorem SX.weaken {bc' bs' : Nat} (h1 : bc' ≤ bc) (h2 : bs' ≤ bs) (h : SX q0 G l μ d bc' bs' pc lv st Z R I L post) : SX q0 G l μ d bc bs pc lv st Z R I L post :=
  fun p e s m args below meth c mc ms E hX0 H locs cells slots ls a1 a2 => h p e s m args below meth c mc ms E hX0 H locs cells slots ls (by omega) (by omega)
theorem SX.slen {v : Int32} (hd : decode μ.2.1 pc = .ok (.arraylength, 1)) (hv : Int32.ofNat q0.1 = v) (k : SX q0 G l μ d bc bs (pc + 1) lv (.int v :: st) Z R I L post) : SX q0 G l μ d bc bs pc lv (.ref 60 :: st) Z R I L post := by
  intro p e s m args below meth c mc ms E hX0 H locs cells slots ls a1 a2 hS hH hl
  subst hv
  exact va_slen E.1 E.2.1 hX0.1 hX0.2.1 hX0.2.2.1 hS hd (k p e s m args below meth c mc ms E hX0 H locs cells slots ls a1 a2 hS hH hl)
theorem SX.sld {i : Int32} (hd : decode μ.2.1 pc = .ok (.iaload, 1)) (hi : vp_in i q0.1) (k : SX q0 G l μ d bc bs (pc + 1) lv (.int (q0.2 i.toNatClampNeg) :: st) Z R I L post) : SX q0 G l μ d bc bs pc lv (.int i :: .ref 60 :: st) Z R I L post := by
  intro p e s m args below meth c mc ms E hX0 H locs cells slots ls a1 a2 hS hH hl
  exact va_sld E.1 E.2.1 hX0.1 hX0.2.1 hX0.2.2.1 hS hi hd (k p e s m args below meth c mc ms E hX0 H locs cells slots ls a1 a2 hS hH hl)
end SXX
