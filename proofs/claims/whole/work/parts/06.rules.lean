theorem Sx.iconst {G : Gt} {l : Launch} {μ : Mi} {d bc bs pc : Nat} {lv : List (Nat × Value)} {st : List Value} {Z : Zt} {R : Rt} {I : It} {L : Lt} {post : Pt'} {n : Int} {v : Int32} (hd : decode μ.2.1 pc = .ok (.iconst n, 1)) (hv : Int32.ofInt n = v) (k : Sx G l μ d bc bs (pc + 1) lv (.int v :: st) Z R I L post) : Sx G l μ d bc bs (pc) lv (st) Z R I L post := by
  intro p e s m args below meth c mc ms E H locs cells slots ls a1 a2 hS hH hl
  exact lv_iconst E.1 E.2.1 hd hv (k p e s m args below meth c mc ms E H locs cells slots ls a1 a2 hS hH hl)
theorem Sx.bipush {G : Gt} {l : Launch} {μ : Mi} {d bc bs pc : Nat} {lv : List (Nat × Value)} {st : List Value} {Z : Zt} {R : Rt} {I : It} {L : Lt} {post : Pt'} {n : Int} {v : Int32} (hd : decode μ.2.1 pc = .ok (.bipush n, 2)) (hv : (Int8.ofInt n).toInt32 = v) (k : Sx G l μ d bc bs (pc + 2) lv (.int v :: st) Z R I L post) : Sx G l μ d bc bs (pc) lv (st) Z R I L post := by
  intro p e s m args below meth c mc ms E H locs cells slots ls a1 a2 hS hH hl
  exact lv_bipush E.1 E.2.1 hd hv (k p e s m args below meth c mc ms E H locs cells slots ls a1 a2 hS hH hl)
theorem Sx.sipush {G : Gt} {l : Launch} {μ : Mi} {d bc bs pc : Nat} {lv : List (Nat × Value)} {st : List Value} {Z : Zt} {R : Rt} {I : It} {L : Lt} {post : Pt'} {n : Int} {v : Int32} (hd : decode μ.2.1 pc = .ok (.sipush n, 3)) (hv : (Int16.ofInt n).toInt32 = v) (k : Sx G l μ d bc bs (pc + 3) lv (.int v :: st) Z R I L post) : Sx G l μ d bc bs (pc) lv (st) Z R I L post := by
  intro p e s m args below meth c mc ms E H locs cells slots ls a1 a2 hS hH hl
  exact lv_sipush E.1 E.2.1 hd hv (k p e s m args below meth c mc ms E H locs cells slots ls a1 a2 hS hH hl)
theorem Sx.lconst {G : Gt} {l : Launch} {μ : Mi} {d bc bs pc : Nat} {lv : List (Nat × Value)} {st : List Value} {Z : Zt} {R : Rt} {I : It} {L : Lt} {post : Pt'} {n : Fin 2} {v : Int64} (hd : decode μ.2.1 pc = .ok (.lconst n, 1)) (hv : Int64.ofNat (n : Nat) = v) (k : Sx G l μ d bc bs (pc + 1) lv (.long v :: st) Z R I L post) : Sx G l μ d bc bs (pc) lv (st) Z R I L post := by
  intro p e s m args below meth c mc ms E H locs cells slots ls a1 a2 hS hH hl
  exact lv_lconst E.1 E.2.1 hd hv (k p e s m args below meth c mc ms E H locs cells slots ls a1 a2 hS hH hl)
theorem Sx.aconst_null {G : Gt} {l : Launch} {μ : Mi} {d bc bs pc : Nat} {lv : List (Nat × Value)} {st : List Value} {Z : Zt} {R : Rt} {I : It} {L : Lt} {post : Pt'}  (hd : decode μ.2.1 pc = .ok (.aconst_null, 1)) (k : Sx G l μ d bc bs (pc + 1) lv (.null :: st) Z R I L post) : Sx G l μ d bc bs (pc) lv (st) Z R I L post := by
  intro p e s m args below meth c mc ms E H locs cells slots ls a1 a2 hS hH hl
  exact lv_null E.1 E.2.1 hd (k p e s m args below meth c mc ms E H locs cells slots ls a1 a2 hS hH hl)
theorem Sx.ldc {G : Gt} {l : Launch} {μ : Mi} {d bc bs pc : Nat} {lv : List (Nat × Value)} {st : List Value} {Z : Zt} {R : Rt} {I : It} {L : Lt} {post : Pt'} {i : Nat} {v : Int32} (hd : decode μ.2.1 pc = .ok (.ldc i, 2)) (hw : Cond.constant μ.1.cls i v ∈ TB) (k : Sx G l μ d bc bs (pc + 2) lv (.int v :: st) Z R I L post) : Sx G l μ d bc bs (pc) lv (st) Z R I L post := by
  intro p e s m args below meth c mc ms E H locs cells slots ls a1 a2 hS hH hl
  exact lv_ldc E.1 E.2.1 E.2.2.2.2.1 (E.2.2.2.2.2.1 _ hw) hd (k p e s m args below meth c mc ms E H locs cells slots ls a1 a2 hS hH hl)
theorem Sx.ldc_w {G : Gt} {l : Launch} {μ : Mi} {d bc bs pc : Nat} {lv : List (Nat × Value)} {st : List Value} {Z : Zt} {R : Rt} {I : It} {L : Lt} {post : Pt'} {i : Nat} {v : Int32} (hd : decode μ.2.1 pc = .ok (.ldc_w i, 3)) (hw : Cond.constant μ.1.cls i v ∈ TB) (k : Sx G l μ d bc bs (pc + 3) lv (.int v :: st) Z R I L post) : Sx G l μ d bc bs (pc) lv (st) Z R I L post := by
  intro p e s m args below meth c mc ms E H locs cells slots ls a1 a2 hS hH hl
  exact lv_ldcw E.1 E.2.1 E.2.2.2.2.1 (E.2.2.2.2.2.1 _ hw) hd (k p e s m args below meth c mc ms E H locs cells slots ls a1 a2 hS hH hl)
theorem Sx.ldc2 {G : Gt} {l : Launch} {μ : Mi} {d bc bs pc : Nat} {lv : List (Nat × Value)} {st : List Value} {Z : Zt} {R : Rt} {I : It} {L : Lt} {post : Pt'} {i : Nat} {v : Int64} (hd : decode μ.2.1 pc = .ok (.ldc2_w i, 3)) (hw : Cond.constantLong μ.1.cls i v ∈ TB) (k : Sx G l μ d bc bs (pc + 3) lv (.long v :: st) Z R I L post) : Sx G l μ d bc bs (pc) lv (st) Z R I L post := by
  intro p e s m args below meth c mc ms E H locs cells slots ls a1 a2 hS hH hl
  exact lv_ldc2 E.1 E.2.1 E.2.2.2.2.1 (E.2.2.2.2.2.1 _ hw) hd (k p e s m args below meth c mc ms E H locs cells slots ls a1 a2 hS hH hl)
theorem Sx.iload {G : Gt} {l : Launch} {μ : Mi} {d bc bs pc : Nat} {lv : List (Nat × Value)} {st : List Value} {Z : Zt} {R : Rt} {I : It} {L : Lt} {post : Pt'} {i : Nat} {x : Int32} (hd : decode μ.2.1 pc = .ok (.iload i, 2)) (hg : lvg lv i = some (.int x)) (k : Sx G l μ d bc bs (pc + 2) lv (.int x :: st) Z R I L post) : Sx G l μ d bc bs (pc) lv (st) Z R I L post := by
  intro p e s m args below meth c mc ms E H locs cells slots ls a1 a2 hS hH hl
  exact lv_iload E.1 E.2.1 hd (lvg_at hl hg) (k p e s m args below meth c mc ms E H locs cells slots ls a1 a2 hS hH hl)
theorem Sx.iload_n {G : Gt} {l : Launch} {μ : Mi} {d bc bs pc : Nat} {lv : List (Nat × Value)} {st : List Value} {Z : Zt} {R : Rt} {I : It} {L : Lt} {post : Pt'} {q : Fin 4} {x : Int32} (hd : decode μ.2.1 pc = .ok (.iload_n q, 1)) (hg : lvg lv (q : Nat) = some (.int x)) (k : Sx G l μ d bc bs (pc + 1) lv (.int x :: st) Z R I L post) : Sx G l μ d bc bs (pc) lv (st) Z R I L post := by
  intro p e s m args below meth c mc ms E H locs cells slots ls a1 a2 hS hH hl
  exact lv_iload_n E.1 E.2.1 hd rfl (lvg_at hl hg) (k p e s m args below meth c mc ms E H locs cells slots ls a1 a2 hS hH hl)
theorem Sx.lload {G : Gt} {l : Launch} {μ : Mi} {d bc bs pc : Nat} {lv : List (Nat × Value)} {st : List Value} {Z : Zt} {R : Rt} {I : It} {L : Lt} {post : Pt'} {i : Nat} {x : Int64} (hd : decode μ.2.1 pc = .ok (.lload i, 2)) (hg : lvg lv i = some (.long x)) (k : Sx G l μ d bc bs (pc + 2) lv (.long x :: st) Z R I L post) : Sx G l μ d bc bs (pc) lv (st) Z R I L post := by
  intro p e s m args below meth c mc ms E H locs cells slots ls a1 a2 hS hH hl
  exact lv_lload E.1 E.2.1 hd (lvg_at hl hg) (k p e s m args below meth c mc ms E H locs cells slots ls a1 a2 hS hH hl)
theorem Sx.lload_n {G : Gt} {l : Launch} {μ : Mi} {d bc bs pc : Nat} {lv : List (Nat × Value)} {st : List Value} {Z : Zt} {R : Rt} {I : It} {L : Lt} {post : Pt'} {q : Fin 4} {x : Int64} (hd : decode μ.2.1 pc = .ok (.lload_n q, 1)) (hg : lvg lv (q : Nat) = some (.long x)) (k : Sx G l μ d bc bs (pc + 1) lv (.long x :: st) Z R I L post) : Sx G l μ d bc bs (pc) lv (st) Z R I L post := by
  intro p e s m args below meth c mc ms E H locs cells slots ls a1 a2 hS hH hl
  exact lv_lload_n E.1 E.2.1 hd rfl (lvg_at hl hg) (k p e s m args below meth c mc ms E H locs cells slots ls a1 a2 hS hH hl)
theorem Sx.aload {G : Gt} {l : Launch} {μ : Mi} {d bc bs pc : Nat} {lv : List (Nat × Value)} {st : List Value} {Z : Zt} {R : Rt} {I : It} {L : Lt} {post : Pt'} {i : Nat} {x : Nat} (hd : decode μ.2.1 pc = .ok (.aload i, 2)) (hg : lvg lv i = some (.ref x)) (k : Sx G l μ d bc bs (pc + 2) lv (.ref x :: st) Z R I L post) : Sx G l μ d bc bs (pc) lv (st) Z R I L post := by
  intro p e s m args below meth c mc ms E H locs cells slots ls a1 a2 hS hH hl
  exact lv_aload E.1 E.2.1 hd (lvg_at hl hg) (k p e s m args below meth c mc ms E H locs cells slots ls a1 a2 hS hH hl)
theorem Sx.aload_n {G : Gt} {l : Launch} {μ : Mi} {d bc bs pc : Nat} {lv : List (Nat × Value)} {st : List Value} {Z : Zt} {R : Rt} {I : It} {L : Lt} {post : Pt'} {q : Fin 4} {x : Nat} (hd : decode μ.2.1 pc = .ok (.aload_n q, 1)) (hg : lvg lv (q : Nat) = some (.ref x)) (k : Sx G l μ d bc bs (pc + 1) lv (.ref x :: st) Z R I L post) : Sx G l μ d bc bs (pc) lv (st) Z R I L post := by
  intro p e s m args below meth c mc ms E H locs cells slots ls a1 a2 hS hH hl
  exact lv_aload_n E.1 E.2.1 hd rfl (lvg_at hl hg) (k p e s m args below meth c mc ms E H locs cells slots ls a1 a2 hS hH hl)
theorem Sx.aloadN {G : Gt} {l : Launch} {μ : Mi} {d bc bs pc : Nat} {lv : List (Nat × Value)} {st : List Value} {Z : Zt} {R : Rt} {I : It} {L : Lt} {post : Pt'} {i : Nat} (hd : decode μ.2.1 pc = .ok (.aload i, 2)) (hg : lvg lv i = some (.null)) (k : Sx G l μ d bc bs (pc + 2) lv (.null :: st) Z R I L post) : Sx G l μ d bc bs (pc) lv (st) Z R I L post := by
  intro p e s m args below meth c mc ms E H locs cells slots ls a1 a2 hS hH hl
  exact lv_aloadN E.1 E.2.1 hd (lvg_at hl hg) (k p e s m args below meth c mc ms E H locs cells slots ls a1 a2 hS hH hl)
theorem Sx.aload_nN {G : Gt} {l : Launch} {μ : Mi} {d bc bs pc : Nat} {lv : List (Nat × Value)} {st : List Value} {Z : Zt} {R : Rt} {I : It} {L : Lt} {post : Pt'} {q : Fin 4}  (hd : decode μ.2.1 pc = .ok (.aload_n q, 1)) (hg : lvg lv (q : Nat) = some (.null)) (k : Sx G l μ d bc bs (pc + 1) lv (.null :: st) Z R I L post) : Sx G l μ d bc bs (pc) lv (st) Z R I L post := by
  intro p e s m args below meth c mc ms E H locs cells slots ls a1 a2 hS hH hl
  exact lv_aload_nN E.1 E.2.1 hd rfl (lvg_at hl hg) (k p e s m args below meth c mc ms E H locs cells slots ls a1 a2 hS hH hl)
theorem Sx.istore {G : Gt} {l : Launch} {μ : Mi} {d bc bs pc : Nat} {lv : List (Nat × Value)} {st : List Value} {Z : Zt} {R : Rt} {I : It} {L : Lt} {post : Pt'} {i : Nat} {lv' : List (Nat × Value)} {x : Int32} (hd : decode μ.2.1 pc = .ok (.istore i, 2)) (hn : i < μ.2.2.1) (he : lvs lv i (.int x) = lv') (k : Sx G l μ d bc bs (pc + 2) lv' (st) Z R I L post) : Sx G l μ d bc bs (pc) lv (.int x :: st) Z R I L post := by
  intro p e s m args below meth c mc ms E H locs cells slots ls a1 a2 hS hH hl
  subst he
  exact lv_istore E.1 E.2.1 hd hl hn (trL_lvs G lv i (.int x)) (fun ls' hl' => k p e s m args below meth c mc ms E H locs cells slots ls' a1 a2 hS hH hl')
theorem Sx.istore_n {G : Gt} {l : Launch} {μ : Mi} {d bc bs pc : Nat} {lv : List (Nat × Value)} {st : List Value} {Z : Zt} {R : Rt} {I : It} {L : Lt} {post : Pt'} {q : Fin 4} {lv' : List (Nat × Value)} {x : Int32} (hd : decode μ.2.1 pc = .ok (.istore_n q, 1)) (hn : (q : Nat) < μ.2.2.1) (he : lvs lv (q : Nat) (.int x) = lv') (k : Sx G l μ d bc bs (pc + 1) lv' (st) Z R I L post) : Sx G l μ d bc bs (pc) lv (.int x :: st) Z R I L post := by
  intro p e s m args below meth c mc ms E H locs cells slots ls a1 a2 hS hH hl
  subst he
  exact lv_istore_n E.1 E.2.1 hd rfl hl hn (trL_lvs G lv _ (.int x)) (fun ls' hl' => k p e s m args below meth c mc ms E H locs cells slots ls' a1 a2 hS hH hl')
theorem Sx.lstore {G : Gt} {l : Launch} {μ : Mi} {d bc bs pc : Nat} {lv : List (Nat × Value)} {st : List Value} {Z : Zt} {R : Rt} {I : It} {L : Lt} {post : Pt'} {i : Nat} {lv' : List (Nat × Value)} {x : Int64} (hd : decode μ.2.1 pc = .ok (.lstore i, 2)) (hn : i + 1 < μ.2.2.1) (he : lvs2 lv i (.long x) = lv') (k : Sx G l μ d bc bs (pc + 2) lv' (st) Z R I L post) : Sx G l μ d bc bs (pc) lv (.long x :: st) Z R I L post := by
  intro p e s m args below meth c mc ms E H locs cells slots ls a1 a2 hS hH hl
  subst he
  exact lv_lstore E.1 E.2.1 hd hl hn (trL_lvs2 G lv i (.long x)) (fun ls' hl' => k p e s m args below meth c mc ms E H locs cells slots ls' a1 a2 hS hH hl')
theorem Sx.lstore_n {G : Gt} {l : Launch} {μ : Mi} {d bc bs pc : Nat} {lv : List (Nat × Value)} {st : List Value} {Z : Zt} {R : Rt} {I : It} {L : Lt} {post : Pt'} {q : Fin 4} {lv' : List (Nat × Value)} {x : Int64} (hd : decode μ.2.1 pc = .ok (.lstore_n q, 1)) (hn : (q : Nat) + 1 < μ.2.2.1) (he : lvs2 lv (q : Nat) (.long x) = lv') (k : Sx G l μ d bc bs (pc + 1) lv' (st) Z R I L post) : Sx G l μ d bc bs (pc) lv (.long x :: st) Z R I L post := by
  intro p e s m args below meth c mc ms E H locs cells slots ls a1 a2 hS hH hl
  subst he
  exact lv_lstore_n E.1 E.2.1 hd rfl hl hn (trL_lvs2 G lv _ (.long x)) (fun ls' hl' => k p e s m args below meth c mc ms E H locs cells slots ls' a1 a2 hS hH hl')
theorem Sx.astore {G : Gt} {l : Launch} {μ : Mi} {d bc bs pc : Nat} {lv : List (Nat × Value)} {st : List Value} {Z : Zt} {R : Rt} {I : It} {L : Lt} {post : Pt'} {i : Nat} {lv' : List (Nat × Value)} {x : Nat} (hd : decode μ.2.1 pc = .ok (.astore i, 2)) (hn : i < μ.2.2.1) (he : lvs lv i (.ref x) = lv') (k : Sx G l μ d bc bs (pc + 2) lv' (st) Z R I L post) : Sx G l μ d bc bs (pc) lv (.ref x :: st) Z R I L post := by
  intro p e s m args below meth c mc ms E H locs cells slots ls a1 a2 hS hH hl
  subst he
  exact lv_astore E.1 E.2.1 hd hl hn (trL_lvs G lv i (.ref x)) (fun ls' hl' => k p e s m args below meth c mc ms E H locs cells slots ls' a1 a2 hS hH hl')
theorem Sx.astore_n {G : Gt} {l : Launch} {μ : Mi} {d bc bs pc : Nat} {lv : List (Nat × Value)} {st : List Value} {Z : Zt} {R : Rt} {I : It} {L : Lt} {post : Pt'} {q : Fin 4} {lv' : List (Nat × Value)} {x : Nat} (hd : decode μ.2.1 pc = .ok (.astore_n q, 1)) (hn : (q : Nat) < μ.2.2.1) (he : lvs lv (q : Nat) (.ref x) = lv') (k : Sx G l μ d bc bs (pc + 1) lv' (st) Z R I L post) : Sx G l μ d bc bs (pc) lv (.ref x :: st) Z R I L post := by
  intro p e s m args below meth c mc ms E H locs cells slots ls a1 a2 hS hH hl
  subst he
  exact lv_astore_n E.1 E.2.1 hd rfl hl hn (trL_lvs G lv _ (.ref x)) (fun ls' hl' => k p e s m args below meth c mc ms E H locs cells slots ls' a1 a2 hS hH hl')
theorem Sx.astoreN {G : Gt} {l : Launch} {μ : Mi} {d bc bs pc : Nat} {lv : List (Nat × Value)} {st : List Value} {Z : Zt} {R : Rt} {I : It} {L : Lt} {post : Pt'} {i : Nat} {lv' : List (Nat × Value)} (hd : decode μ.2.1 pc = .ok (.astore i, 2)) (hn : i < μ.2.2.1) (he : lvs lv i (.null) = lv') (k : Sx G l μ d bc bs (pc + 2) lv' (st) Z R I L post) : Sx G l μ d bc bs (pc) lv (.null :: st) Z R I L post := by
  intro p e s m args below meth c mc ms E H locs cells slots ls a1 a2 hS hH hl
  subst he
  exact lv_astoreN E.1 E.2.1 hd hl hn (trL_lvs G lv i (.null)) (fun ls' hl' => k p e s m args below meth c mc ms E H locs cells slots ls' a1 a2 hS hH hl')
theorem Sx.astore_nN {G : Gt} {l : Launch} {μ : Mi} {d bc bs pc : Nat} {lv : List (Nat × Value)} {st : List Value} {Z : Zt} {R : Rt} {I : It} {L : Lt} {post : Pt'} {q : Fin 4} {lv' : List (Nat × Value)} (hd : decode μ.2.1 pc = .ok (.astore_n q, 1)) (hn : (q : Nat) < μ.2.2.1) (he : lvs lv (q : Nat) (.null) = lv') (k : Sx G l μ d bc bs (pc + 1) lv' (st) Z R I L post) : Sx G l μ d bc bs (pc) lv (.null :: st) Z R I L post := by
  intro p e s m args below meth c mc ms E H locs cells slots ls a1 a2 hS hH hl
  subst he
  exact lv_astore_nN E.1 E.2.1 hd rfl hl hn (trL_lvs G lv _ (.null)) (fun ls' hl' => k p e s m args below meth c mc ms E H locs cells slots ls' a1 a2 hS hH hl')
theorem Sx.iinc {G : Gt} {l : Launch} {μ : Mi} {d bc bs pc : Nat} {lv : List (Nat × Value)} {st : List Value} {Z : Zt} {R : Rt} {I : It} {L : Lt} {post : Pt'} {i : Nat} {n : Int} {x v : Int32} {lv' : List (Nat × Value)} (hd : decode μ.2.1 pc = .ok (.iinc i n, 3)) (hg : lvg lv i = some (.int x)) (hv : x + Int32.ofInt n = v) (hn : i < μ.2.2.1) (he : lvs lv i (.int v) = lv') (k : Sx G l μ d bc bs (pc + 3) lv' (st) Z R I L post) : Sx G l μ d bc bs (pc) lv (st) Z R I L post := by
  intro p e s m args below meth c mc ms E H locs cells slots ls a1 a2 hS hH hl
  subst he
  obtain ⟨j, hj⟩ := List.getElem?_of_mem (List.mem_map.mpr ⟨(i, .int x), lvg_mem hg, rfl⟩ : (i, tr G (.int x)) ∈ trL G lv)
  exact lv_iinc E.1 E.2.1 hd hl hj hv hn (trL_lvs G lv i (.int v)) (fun ls' hl' => k p e s m args below meth c mc ms E H locs cells slots ls' a1 a2 hS hH hl')
theorem Sx.iadd {G : Gt} {l : Launch} {μ : Mi} {d bc bs pc : Nat} {lv : List (Nat × Value)} {st : List Value} {Z : Zt} {R : Rt} {I : It} {L : Lt} {post : Pt'} {x y : Int32} (hd : decode μ.2.1 pc = .ok (.iadd, 1)) (k : Sx G l μ d bc bs (pc + 1) lv (.int (x + y) :: st) Z R I L post) : Sx G l μ d bc bs (pc) lv (.int y :: .int x :: st) Z R I L post := by
  intro p e s m args below meth c mc ms E H locs cells slots ls a1 a2 hS hH hl
  exact lv_iadd E.1 E.2.1 hd (k p e s m args below meth c mc ms E H locs cells slots ls a1 a2 hS hH hl)
theorem Sx.isub {G : Gt} {l : Launch} {μ : Mi} {d bc bs pc : Nat} {lv : List (Nat × Value)} {st : List Value} {Z : Zt} {R : Rt} {I : It} {L : Lt} {post : Pt'} {x y : Int32} (hd : decode μ.2.1 pc = .ok (.isub, 1)) (k : Sx G l μ d bc bs (pc + 1) lv (.int (x - y) :: st) Z R I L post) : Sx G l μ d bc bs (pc) lv (.int y :: .int x :: st) Z R I L post := by
  intro p e s m args below meth c mc ms E H locs cells slots ls a1 a2 hS hH hl
  exact lv_isub E.1 E.2.1 hd (k p e s m args below meth c mc ms E H locs cells slots ls a1 a2 hS hH hl)
theorem Sx.imul {G : Gt} {l : Launch} {μ : Mi} {d bc bs pc : Nat} {lv : List (Nat × Value)} {st : List Value} {Z : Zt} {R : Rt} {I : It} {L : Lt} {post : Pt'} {x y : Int32} (hd : decode μ.2.1 pc = .ok (.imul, 1)) (k : Sx G l μ d bc bs (pc + 1) lv (.int (x * y) :: st) Z R I L post) : Sx G l μ d bc bs (pc) lv (.int y :: .int x :: st) Z R I L post := by
  intro p e s m args below meth c mc ms E H locs cells slots ls a1 a2 hS hH hl
  exact lv_imul E.1 E.2.1 hd (k p e s m args below meth c mc ms E H locs cells slots ls a1 a2 hS hH hl)
theorem Sx.iand {G : Gt} {l : Launch} {μ : Mi} {d bc bs pc : Nat} {lv : List (Nat × Value)} {st : List Value} {Z : Zt} {R : Rt} {I : It} {L : Lt} {post : Pt'} {x y : Int32} (hd : decode μ.2.1 pc = .ok (.iand, 1)) (k : Sx G l μ d bc bs (pc + 1) lv (.int (x &&& y) :: st) Z R I L post) : Sx G l μ d bc bs (pc) lv (.int y :: .int x :: st) Z R I L post := by
  intro p e s m args below meth c mc ms E H locs cells slots ls a1 a2 hS hH hl
  exact lv_iand E.1 E.2.1 hd (k p e s m args below meth c mc ms E H locs cells slots ls a1 a2 hS hH hl)
theorem Sx.ior {G : Gt} {l : Launch} {μ : Mi} {d bc bs pc : Nat} {lv : List (Nat × Value)} {st : List Value} {Z : Zt} {R : Rt} {I : It} {L : Lt} {post : Pt'} {x y : Int32} (hd : decode μ.2.1 pc = .ok (.ior, 1)) (k : Sx G l μ d bc bs (pc + 1) lv (.int (x ||| y) :: st) Z R I L post) : Sx G l μ d bc bs (pc) lv (.int y :: .int x :: st) Z R I L post := by
  intro p e s m args below meth c mc ms E H locs cells slots ls a1 a2 hS hH hl
  exact lv_ior E.1 E.2.1 hd (k p e s m args below meth c mc ms E H locs cells slots ls a1 a2 hS hH hl)
theorem Sx.ixor {G : Gt} {l : Launch} {μ : Mi} {d bc bs pc : Nat} {lv : List (Nat × Value)} {st : List Value} {Z : Zt} {R : Rt} {I : It} {L : Lt} {post : Pt'} {x y : Int32} (hd : decode μ.2.1 pc = .ok (.ixor, 1)) (k : Sx G l μ d bc bs (pc + 1) lv (.int (x ^^^ y) :: st) Z R I L post) : Sx G l μ d bc bs (pc) lv (.int y :: .int x :: st) Z R I L post := by
  intro p e s m args below meth c mc ms E H locs cells slots ls a1 a2 hS hH hl
  exact lv_ixor E.1 E.2.1 hd (k p e s m args below meth c mc ms E H locs cells slots ls a1 a2 hS hH hl)
theorem Sx.ishl {G : Gt} {l : Launch} {μ : Mi} {d bc bs pc : Nat} {lv : List (Nat × Value)} {st : List Value} {Z : Zt} {R : Rt} {I : It} {L : Lt} {post : Pt'} {x y : Int32} (hd : decode μ.2.1 pc = .ok (.ishl, 1)) (k : Sx G l μ d bc bs (pc + 1) lv (.int (x <<< (y &&& 31)) :: st) Z R I L post) : Sx G l μ d bc bs (pc) lv (.int y :: .int x :: st) Z R I L post := by
  intro p e s m args below meth c mc ms E H locs cells slots ls a1 a2 hS hH hl
  exact lv_ishl E.1 E.2.1 hd (k p e s m args below meth c mc ms E H locs cells slots ls a1 a2 hS hH hl)
theorem Sx.ishr {G : Gt} {l : Launch} {μ : Mi} {d bc bs pc : Nat} {lv : List (Nat × Value)} {st : List Value} {Z : Zt} {R : Rt} {I : It} {L : Lt} {post : Pt'} {x y : Int32} (hd : decode μ.2.1 pc = .ok (.ishr, 1)) (k : Sx G l μ d bc bs (pc + 1) lv (.int (x >>> (y &&& 31)) :: st) Z R I L post) : Sx G l μ d bc bs (pc) lv (.int y :: .int x :: st) Z R I L post := by
  intro p e s m args below meth c mc ms E H locs cells slots ls a1 a2 hS hH hl
  exact lv_ishr E.1 E.2.1 hd (k p e s m args below meth c mc ms E H locs cells slots ls a1 a2 hS hH hl)
theorem Sx.idiv {G : Gt} {l : Launch} {μ : Mi} {d bc bs pc : Nat} {lv : List (Nat × Value)} {st : List Value} {Z : Zt} {R : Rt} {I : It} {L : Lt} {post : Pt'} {x y : Int32} (hd : decode μ.2.1 pc = .ok (.idiv, 1)) (hne : ¬ y = 0) (k : Sx G l μ d bc bs (pc + 1) lv (.int (x / y) :: st) Z R I L post) : Sx G l μ d bc bs (pc) lv (.int y :: .int x :: st) Z R I L post := by
  intro p e s m args below meth c mc ms E H locs cells slots ls a1 a2 hS hH hl
  exact lv_idiv E.1 E.2.1 hd hne (k p e s m args below meth c mc ms E H locs cells slots ls a1 a2 hS hH hl)
theorem Sx.irem {G : Gt} {l : Launch} {μ : Mi} {d bc bs pc : Nat} {lv : List (Nat × Value)} {st : List Value} {Z : Zt} {R : Rt} {I : It} {L : Lt} {post : Pt'} {x y : Int32} (hd : decode μ.2.1 pc = .ok (.irem, 1)) (hne : ¬ y = 0) (k : Sx G l μ d bc bs (pc + 1) lv (.int (x - (x / y) * y) :: st) Z R I L post) : Sx G l μ d bc bs (pc) lv (.int y :: .int x :: st) Z R I L post := by
  intro p e s m args below meth c mc ms E H locs cells slots ls a1 a2 hS hH hl
  exact lv_irem E.1 E.2.1 hd hne (k p e s m args below meth c mc ms E H locs cells slots ls a1 a2 hS hH hl)
theorem Sx.ineg {G : Gt} {l : Launch} {μ : Mi} {d bc bs pc : Nat} {lv : List (Nat × Value)} {st : List Value} {Z : Zt} {R : Rt} {I : It} {L : Lt} {post : Pt'} {x : Int32} (hd : decode μ.2.1 pc = .ok (.ineg, 1)) (k : Sx G l μ d bc bs (pc + 1) lv (.int (-x) :: st) Z R I L post) : Sx G l μ d bc bs (pc) lv (.int x :: st) Z R I L post := by
  intro p e s m args below meth c mc ms E H locs cells slots ls a1 a2 hS hH hl
  exact lv_ineg E.1 E.2.1 hd (k p e s m args below meth c mc ms E H locs cells slots ls a1 a2 hS hH hl)
theorem Sx.iushr {G : Gt} {l : Launch} {μ : Mi} {d bc bs pc : Nat} {lv : List (Nat × Value)} {st : List Value} {Z : Zt} {R : Rt} {I : It} {L : Lt} {post : Pt'} {x y : Int32} (hd : decode μ.2.1 pc = .ok (.iushr, 1)) (k : Sx G l μ d bc bs (pc + 1) lv (.int (x.toUInt32 >>> (y.toUInt32 &&& Int32.toUInt32 31)).toInt32 :: st) Z R I L post) : Sx G l μ d bc bs (pc) lv (.int y :: .int x :: st) Z R I L post := by
  intro p e s m args below meth c mc ms E H locs cells slots ls a1 a2 hS hH hl
  exact lv_iushr E.1 E.2.1 hd rfl (k p e s m args below meth c mc ms E H locs cells slots ls a1 a2 hS hH hl)
theorem Sx.ladd {G : Gt} {l : Launch} {μ : Mi} {d bc bs pc : Nat} {lv : List (Nat × Value)} {st : List Value} {Z : Zt} {R : Rt} {I : It} {L : Lt} {post : Pt'} {x y : Int64} (hd : decode μ.2.1 pc = .ok (.ladd, 1)) (k : Sx G l μ d bc bs (pc + 1) lv (.long (x + y) :: st) Z R I L post) : Sx G l μ d bc bs (pc) lv (.long y :: .long x :: st) Z R I L post := by
  intro p e s m args below meth c mc ms E H locs cells slots ls a1 a2 hS hH hl
  exact lv_ladd E.1 E.2.1 hd (k p e s m args below meth c mc ms E H locs cells slots ls a1 a2 hS hH hl)
theorem Sx.lsub {G : Gt} {l : Launch} {μ : Mi} {d bc bs pc : Nat} {lv : List (Nat × Value)} {st : List Value} {Z : Zt} {R : Rt} {I : It} {L : Lt} {post : Pt'} {x y : Int64} (hd : decode μ.2.1 pc = .ok (.lsub, 1)) (k : Sx G l μ d bc bs (pc + 1) lv (.long (x - y) :: st) Z R I L post) : Sx G l μ d bc bs (pc) lv (.long y :: .long x :: st) Z R I L post := by
  intro p e s m args below meth c mc ms E H locs cells slots ls a1 a2 hS hH hl
  exact lv_lsub E.1 E.2.1 hd (k p e s m args below meth c mc ms E H locs cells slots ls a1 a2 hS hH hl)
theorem Sx.lmul {G : Gt} {l : Launch} {μ : Mi} {d bc bs pc : Nat} {lv : List (Nat × Value)} {st : List Value} {Z : Zt} {R : Rt} {I : It} {L : Lt} {post : Pt'} {x y : Int64} (hd : decode μ.2.1 pc = .ok (.lmul, 1)) (k : Sx G l μ d bc bs (pc + 1) lv (.long (x * y) :: st) Z R I L post) : Sx G l μ d bc bs (pc) lv (.long y :: .long x :: st) Z R I L post := by
  intro p e s m args below meth c mc ms E H locs cells slots ls a1 a2 hS hH hl
  exact lv_lmul E.1 E.2.1 hd (k p e s m args below meth c mc ms E H locs cells slots ls a1 a2 hS hH hl)
theorem Sx.land {G : Gt} {l : Launch} {μ : Mi} {d bc bs pc : Nat} {lv : List (Nat × Value)} {st : List Value} {Z : Zt} {R : Rt} {I : It} {L : Lt} {post : Pt'} {x y : Int64} (hd : decode μ.2.1 pc = .ok (.land, 1)) (k : Sx G l μ d bc bs (pc + 1) lv (.long (x &&& y) :: st) Z R I L post) : Sx G l μ d bc bs (pc) lv (.long y :: .long x :: st) Z R I L post := by
  intro p e s m args below meth c mc ms E H locs cells slots ls a1 a2 hS hH hl
  exact lv_land E.1 E.2.1 hd (k p e s m args below meth c mc ms E H locs cells slots ls a1 a2 hS hH hl)
theorem Sx.lor {G : Gt} {l : Launch} {μ : Mi} {d bc bs pc : Nat} {lv : List (Nat × Value)} {st : List Value} {Z : Zt} {R : Rt} {I : It} {L : Lt} {post : Pt'} {x y : Int64} (hd : decode μ.2.1 pc = .ok (.lor, 1)) (k : Sx G l μ d bc bs (pc + 1) lv (.long (x ||| y) :: st) Z R I L post) : Sx G l μ d bc bs (pc) lv (.long y :: .long x :: st) Z R I L post := by
  intro p e s m args below meth c mc ms E H locs cells slots ls a1 a2 hS hH hl
  exact lv_lor E.1 E.2.1 hd (k p e s m args below meth c mc ms E H locs cells slots ls a1 a2 hS hH hl)
theorem Sx.ldiv {G : Gt} {l : Launch} {μ : Mi} {d bc bs pc : Nat} {lv : List (Nat × Value)} {st : List Value} {Z : Zt} {R : Rt} {I : It} {L : Lt} {post : Pt'} {x y : Int64} (hd : decode μ.2.1 pc = .ok (.ldiv, 1)) (hne : ¬ y = 0) (k : Sx G l μ d bc bs (pc + 1) lv (.long (x / y) :: st) Z R I L post) : Sx G l μ d bc bs (pc) lv (.long y :: .long x :: st) Z R I L post := by
  intro p e s m args below meth c mc ms E H locs cells slots ls a1 a2 hS hH hl
  exact lv_ldiv E.1 E.2.1 hd hne (k p e s m args below meth c mc ms E H locs cells slots ls a1 a2 hS hH hl)
theorem Sx.lrem {G : Gt} {l : Launch} {μ : Mi} {d bc bs pc : Nat} {lv : List (Nat × Value)} {st : List Value} {Z : Zt} {R : Rt} {I : It} {L : Lt} {post : Pt'} {x y : Int64} (hd : decode μ.2.1 pc = .ok (.lrem, 1)) (hne : ¬ y = 0) (k : Sx G l μ d bc bs (pc + 1) lv (.long (x - (x / y) * y) :: st) Z R I L post) : Sx G l μ d bc bs (pc) lv (.long y :: .long x :: st) Z R I L post := by
  intro p e s m args below meth c mc ms E H locs cells slots ls a1 a2 hS hH hl
  exact lv_lrem E.1 E.2.1 hd hne (k p e s m args below meth c mc ms E H locs cells slots ls a1 a2 hS hH hl)
theorem Sx.lcmp {G : Gt} {l : Launch} {μ : Mi} {d bc bs pc : Nat} {lv : List (Nat × Value)} {st : List Value} {Z : Zt} {R : Rt} {I : It} {L : Lt} {post : Pt'} {x y : Int64} (hd : decode μ.2.1 pc = .ok (.lcmp, 1)) (k : Sx G l μ d bc bs (pc + 1) lv (.int (lg_cmp x y) :: st) Z R I L post) : Sx G l μ d bc bs (pc) lv (.long y :: .long x :: st) Z R I L post := by
  intro p e s m args below meth c mc ms E H locs cells slots ls a1 a2 hS hH hl
  exact W.lcmp E.1 E.2.1 hd (k p e s m args below meth c mc ms E H locs cells slots ls a1 a2 hS hH hl)
theorem Sx.lushr {G : Gt} {l : Launch} {μ : Mi} {d bc bs pc : Nat} {lv : List (Nat × Value)} {st : List Value} {Z : Zt} {R : Rt} {I : It} {L : Lt} {post : Pt'} {x : Int64} {y : Int32} (hd : decode μ.2.1 pc = .ok (.lushr, 1)) (k : Sx G l μ d bc bs (pc + 1) lv (.long (x.toUInt64 >>> (y.toInt64.toUInt64 &&& Int64.toUInt64 63)).toInt64 :: st) Z R I L post) : Sx G l μ d bc bs (pc) lv (.int y :: .long x :: st) Z R I L post := by
  intro p e s m args below meth c mc ms E H locs cells slots ls a1 a2 hS hH hl
  exact lv_lushr E.1 E.2.1 hd rfl (k p e s m args below meth c mc ms E H locs cells slots ls a1 a2 hS hH hl)
theorem Sx.lshl {G : Gt} {l : Launch} {μ : Mi} {d bc bs pc : Nat} {lv : List (Nat × Value)} {st : List Value} {Z : Zt} {R : Rt} {I : It} {L : Lt} {post : Pt'} {x : Int64} {y : Int32} (hd : decode μ.2.1 pc = .ok (.lshl, 1)) (k : Sx G l μ d bc bs (pc + 1) lv (.long (x <<< (y.toInt64 &&& 63)) :: st) Z R I L post) : Sx G l μ d bc bs (pc) lv (.int y :: .long x :: st) Z R I L post := by
  intro p e s m args below meth c mc ms E H locs cells slots ls a1 a2 hS hH hl
  exact lv_lshl E.1 E.2.1 hd rfl (k p e s m args below meth c mc ms E H locs cells slots ls a1 a2 hS hH hl)
theorem Sx.i2l {G : Gt} {l : Launch} {μ : Mi} {d bc bs pc : Nat} {lv : List (Nat × Value)} {st : List Value} {Z : Zt} {R : Rt} {I : It} {L : Lt} {post : Pt'} {x : Int32} (hd : decode μ.2.1 pc = .ok (.i2l, 1)) (k : Sx G l μ d bc bs (pc + 1) lv (.long x.toInt64 :: st) Z R I L post) : Sx G l μ d bc bs (pc) lv (.int x :: st) Z R I L post := by
  intro p e s m args below meth c mc ms E H locs cells slots ls a1 a2 hS hH hl
  exact lv_i2l E.1 E.2.1 hd rfl (k p e s m args below meth c mc ms E H locs cells slots ls a1 a2 hS hH hl)
theorem Sx.l2i {G : Gt} {l : Launch} {μ : Mi} {d bc bs pc : Nat} {lv : List (Nat × Value)} {st : List Value} {Z : Zt} {R : Rt} {I : It} {L : Lt} {post : Pt'} {x : Int64} (hd : decode μ.2.1 pc = .ok (.l2i, 1)) (k : Sx G l μ d bc bs (pc + 1) lv (.int x.toInt32 :: st) Z R I L post) : Sx G l μ d bc bs (pc) lv (.long x :: st) Z R I L post := by
  intro p e s m args below meth c mc ms E H locs cells slots ls a1 a2 hS hH hl
  exact lv_l2i E.1 E.2.1 hd rfl (k p e s m args below meth c mc ms E H locs cells slots ls a1 a2 hS hH hl)
theorem Sx.i2b {G : Gt} {l : Launch} {μ : Mi} {d bc bs pc : Nat} {lv : List (Nat × Value)} {st : List Value} {Z : Zt} {R : Rt} {I : It} {L : Lt} {post : Pt'} {x : Int32} (hd : decode μ.2.1 pc = .ok (.i2b, 1)) (k : Sx G l μ d bc bs (pc + 1) lv (.int x.toInt8.toInt32 :: st) Z R I L post) : Sx G l μ d bc bs (pc) lv (.int x :: st) Z R I L post := by
  intro p e s m args below meth c mc ms E H locs cells slots ls a1 a2 hS hH hl
  exact lv_i2b E.1 E.2.1 hd rfl (k p e s m args below meth c mc ms E H locs cells slots ls a1 a2 hS hH hl)
theorem Sx.i2c {G : Gt} {l : Launch} {μ : Mi} {d bc bs pc : Nat} {lv : List (Nat × Value)} {st : List Value} {Z : Zt} {R : Rt} {I : It} {L : Lt} {post : Pt'} {x : Int32} (hd : decode μ.2.1 pc = .ok (.i2c, 1)) (k : Sx G l μ d bc bs (pc + 1) lv (.int (x.toUInt32 % 65536).toInt32 :: st) Z R I L post) : Sx G l μ d bc bs (pc) lv (.int x :: st) Z R I L post := by
  intro p e s m args below meth c mc ms E H locs cells slots ls a1 a2 hS hH hl
  exact lv_i2c E.1 E.2.1 hd rfl (k p e s m args below meth c mc ms E H locs cells slots ls a1 a2 hS hH hl)
theorem Sx.dup {G : Gt} {l : Launch} {μ : Mi} {d bc bs pc : Nat} {lv : List (Nat × Value)} {st : List Value} {Z : Zt} {R : Rt} {I : It} {L : Lt} {post : Pt'} {v : Value} (hd : decode μ.2.1 pc = .ok (.dup, 1)) (hv : v.category = 1) (k : Sx G l μ d bc bs (pc + 1) lv (v :: v :: st) Z R I L post) : Sx G l μ d bc bs (pc) lv (v :: st) Z R I L post := by
  intro p e s m args below meth c mc ms E H locs cells slots ls a1 a2 hS hH hl
  exact lv_dup E.1 E.2.1 hd ((tr_cat G v).trans hv) (k p e s m args below meth c mc ms E H locs cells slots ls a1 a2 hS hH hl)
theorem Sx.pop {G : Gt} {l : Launch} {μ : Mi} {d bc bs pc : Nat} {lv : List (Nat × Value)} {st : List Value} {Z : Zt} {R : Rt} {I : It} {L : Lt} {post : Pt'} {v : Value} (hd : decode μ.2.1 pc = .ok (.pop, 1)) (hv : v.category = 1) (k : Sx G l μ d bc bs (pc + 1) lv (st) Z R I L post) : Sx G l μ d bc bs (pc) lv (v :: st) Z R I L post := by
  intro p e s m args below meth c mc ms E H locs cells slots ls a1 a2 hS hH hl
  exact lv_pop E.1 E.2.1 hd ((tr_cat G v).trans hv) (k p e s m args below meth c mc ms E H locs cells slots ls a1 a2 hS hH hl)
theorem Sx.dup_x1 {G : Gt} {l : Launch} {μ : Mi} {d bc bs pc : Nat} {lv : List (Nat × Value)} {st : List Value} {Z : Zt} {R : Rt} {I : It} {L : Lt} {post : Pt'} {v w : Value} (hd : decode μ.2.1 pc = .ok (.dup_x1, 1)) (hv : v.category = 1) (hw : w.category = 1) (k : Sx G l μ d bc bs (pc + 1) lv (v :: w :: v :: st) Z R I L post) : Sx G l μ d bc bs (pc) lv (v :: w :: st) Z R I L post := by
  intro p e s m args below meth c mc ms E H locs cells slots ls a1 a2 hS hH hl
  exact lv_dup_x1 E.1 E.2.1 hd ((tr_cat G v).trans hv) ((tr_cat G w).trans hw) (k p e s m args below meth c mc ms E H locs cells slots ls a1 a2 hS hH hl)
theorem Sx.dup2 {G : Gt} {l : Launch} {μ : Mi} {d bc bs pc : Nat} {lv : List (Nat × Value)} {st : List Value} {Z : Zt} {R : Rt} {I : It} {L : Lt} {post : Pt'} {v w : Value} (hd : decode μ.2.1 pc = .ok (.dup2, 1)) (hv : v.category = 1) (hw : w.category = 1) (k : Sx G l μ d bc bs (pc + 1) lv (v :: w :: v :: w :: st) Z R I L post) : Sx G l μ d bc bs (pc) lv (v :: w :: st) Z R I L post := by
  intro p e s m args below meth c mc ms E H locs cells slots ls a1 a2 hS hH hl
  exact lv_dup2_11 E.1 E.2.1 hd ((tr_cat G v).trans hv) ((tr_cat G w).trans hw) (k p e s m args below meth c mc ms E H locs cells slots ls a1 a2 hS hH hl)
theorem Sx.dup2L {G : Gt} {l : Launch} {μ : Mi} {d bc bs pc : Nat} {lv : List (Nat × Value)} {st : List Value} {Z : Zt} {R : Rt} {I : It} {L : Lt} {post : Pt'} {v : Value} (hd : decode μ.2.1 pc = .ok (.dup2, 1)) (hv : v.category = 2) (k : Sx G l μ d bc bs (pc + 1) lv (v :: v :: st) Z R I L post) : Sx G l μ d bc bs (pc) lv (v :: st) Z R I L post := by
  intro p e s m args below meth c mc ms E H locs cells slots ls a1 a2 hS hH hl
  exact lv_dup2_2 E.1 E.2.1 hd ((tr_cat G v).trans hv) (k p e s m args below meth c mc ms E H locs cells slots ls a1 a2 hS hH hl)
theorem Sx.if_eq {G : Gt} {l : Launch} {μ : Mi} {d bc bs pc : Nat} {lv : List (Nat × Value)} {st : List Value} {Z : Zt} {R : Rt} {I : It} {L : Lt} {post : Pt'} {x : Int32} {o : Int} {t : Nat} (hd : decode μ.2.1 pc = .ok (.ifCond .eq o, 3)) (ht : (pc : Int) + o = (t : Int)) (kt : (x = 0) → Sx G l μ d bc bs (t) lv (st) Z R I L post) (kf : ¬ (x = 0) → Sx G l μ d bc bs (pc + 3) lv (st) Z R I L post) : Sx G l μ d bc bs (pc) lv (.int x :: st) Z R I L post := by
  intro p e s m args below meth c mc ms E H locs cells slots ls a1 a2 hS hH hl
  exact lv_if_eq E.1 E.2.1 hd ht (fun h => kt h p e s m args below meth c mc ms E H locs cells slots ls a1 a2 hS hH hl) (fun h => kf h p e s m args below meth c mc ms E H locs cells slots ls a1 a2 hS hH hl)
theorem Sx.icmp_eq {G : Gt} {l : Launch} {μ : Mi} {d bc bs pc : Nat} {lv : List (Nat × Value)} {st : List Value} {Z : Zt} {R : Rt} {I : It} {L : Lt} {post : Pt'} {x y : Int32} {o : Int} {t : Nat} (hd : decode μ.2.1 pc = .ok (.if_icmp .eq o, 3)) (ht : (pc : Int) + o = (t : Int)) (kt : (x = y) → Sx G l μ d bc bs (t) lv (st) Z R I L post) (kf : ¬ (x = y) → Sx G l μ d bc bs (pc + 3) lv (st) Z R I L post) : Sx G l μ d bc bs (pc) lv (.int y :: .int x :: st) Z R I L post := by
  intro p e s m args below meth c mc ms E H locs cells slots ls a1 a2 hS hH hl
  exact lv_icmp_eq E.1 E.2.1 hd ht (fun h => kt h p e s m args below meth c mc ms E H locs cells slots ls a1 a2 hS hH hl) (fun h => kf h p e s m args below meth c mc ms E H locs cells slots ls a1 a2 hS hH hl)
theorem Sx.if_ne {G : Gt} {l : Launch} {μ : Mi} {d bc bs pc : Nat} {lv : List (Nat × Value)} {st : List Value} {Z : Zt} {R : Rt} {I : It} {L : Lt} {post : Pt'} {x : Int32} {o : Int} {t : Nat} (hd : decode μ.2.1 pc = .ok (.ifCond .ne o, 3)) (ht : (pc : Int) + o = (t : Int)) (kt : (¬ x = 0) → Sx G l μ d bc bs (t) lv (st) Z R I L post) (kf : (x = 0) → Sx G l μ d bc bs (pc + 3) lv (st) Z R I L post) : Sx G l μ d bc bs (pc) lv (.int x :: st) Z R I L post := by
  intro p e s m args below meth c mc ms E H locs cells slots ls a1 a2 hS hH hl
  exact lv_if_ne E.1 E.2.1 hd ht (fun h => kt h p e s m args below meth c mc ms E H locs cells slots ls a1 a2 hS hH hl) (fun h => kf h p e s m args below meth c mc ms E H locs cells slots ls a1 a2 hS hH hl)
theorem Sx.icmp_ne {G : Gt} {l : Launch} {μ : Mi} {d bc bs pc : Nat} {lv : List (Nat × Value)} {st : List Value} {Z : Zt} {R : Rt} {I : It} {L : Lt} {post : Pt'} {x y : Int32} {o : Int} {t : Nat} (hd : decode μ.2.1 pc = .ok (.if_icmp .ne o, 3)) (ht : (pc : Int) + o = (t : Int)) (kt : (¬ x = y) → Sx G l μ d bc bs (t) lv (st) Z R I L post) (kf : (x = y) → Sx G l μ d bc bs (pc + 3) lv (st) Z R I L post) : Sx G l μ d bc bs (pc) lv (.int y :: .int x :: st) Z R I L post := by
  intro p e s m args below meth c mc ms E H locs cells slots ls a1 a2 hS hH hl
  exact lv_icmp_ne E.1 E.2.1 hd ht (fun h => kt h p e s m args below meth c mc ms E H locs cells slots ls a1 a2 hS hH hl) (fun h => kf h p e s m args below meth c mc ms E H locs cells slots ls a1 a2 hS hH hl)
theorem Sx.if_lt {G : Gt} {l : Launch} {μ : Mi} {d bc bs pc : Nat} {lv : List (Nat × Value)} {st : List Value} {Z : Zt} {R : Rt} {I : It} {L : Lt} {post : Pt'} {x : Int32} {o : Int} {t : Nat} (hd : decode μ.2.1 pc = .ok (.ifCond .lt o, 3)) (ht : (pc : Int) + o = (t : Int)) (kt : (x < 0) → Sx G l μ d bc bs (t) lv (st) Z R I L post) (kf : ¬ (x < 0) → Sx G l μ d bc bs (pc + 3) lv (st) Z R I L post) : Sx G l μ d bc bs (pc) lv (.int x :: st) Z R I L post := by
  intro p e s m args below meth c mc ms E H locs cells slots ls a1 a2 hS hH hl
  exact lv_if_lt E.1 E.2.1 hd ht (fun h => kt h p e s m args below meth c mc ms E H locs cells slots ls a1 a2 hS hH hl) (fun h => kf h p e s m args below meth c mc ms E H locs cells slots ls a1 a2 hS hH hl)
theorem Sx.icmp_lt {G : Gt} {l : Launch} {μ : Mi} {d bc bs pc : Nat} {lv : List (Nat × Value)} {st : List Value} {Z : Zt} {R : Rt} {I : It} {L : Lt} {post : Pt'} {x y : Int32} {o : Int} {t : Nat} (hd : decode μ.2.1 pc = .ok (.if_icmp .lt o, 3)) (ht : (pc : Int) + o = (t : Int)) (kt : (x < y) → Sx G l μ d bc bs (t) lv (st) Z R I L post) (kf : ¬ (x < y) → Sx G l μ d bc bs (pc + 3) lv (st) Z R I L post) : Sx G l μ d bc bs (pc) lv (.int y :: .int x :: st) Z R I L post := by
  intro p e s m args below meth c mc ms E H locs cells slots ls a1 a2 hS hH hl
  exact lv_icmp_lt E.1 E.2.1 hd ht (fun h => kt h p e s m args below meth c mc ms E H locs cells slots ls a1 a2 hS hH hl) (fun h => kf h p e s m args below meth c mc ms E H locs cells slots ls a1 a2 hS hH hl)
theorem Sx.if_ge {G : Gt} {l : Launch} {μ : Mi} {d bc bs pc : Nat} {lv : List (Nat × Value)} {st : List Value} {Z : Zt} {R : Rt} {I : It} {L : Lt} {post : Pt'} {x : Int32} {o : Int} {t : Nat} (hd : decode μ.2.1 pc = .ok (.ifCond .ge o, 3)) (ht : (pc : Int) + o = (t : Int)) (kt : (0 ≤ x) → Sx G l μ d bc bs (t) lv (st) Z R I L post) (kf : ¬ (0 ≤ x) → Sx G l μ d bc bs (pc + 3) lv (st) Z R I L post) : Sx G l μ d bc bs (pc) lv (.int x :: st) Z R I L post := by
  intro p e s m args below meth c mc ms E H locs cells slots ls a1 a2 hS hH hl
  exact lv_if_ge E.1 E.2.1 hd ht (fun h => kt h p e s m args below meth c mc ms E H locs cells slots ls a1 a2 hS hH hl) (fun h => kf h p e s m args below meth c mc ms E H locs cells slots ls a1 a2 hS hH hl)
theorem Sx.icmp_ge {G : Gt} {l : Launch} {μ : Mi} {d bc bs pc : Nat} {lv : List (Nat × Value)} {st : List Value} {Z : Zt} {R : Rt} {I : It} {L : Lt} {post : Pt'} {x y : Int32} {o : Int} {t : Nat} (hd : decode μ.2.1 pc = .ok (.if_icmp .ge o, 3)) (ht : (pc : Int) + o = (t : Int)) (kt : (y ≤ x) → Sx G l μ d bc bs (t) lv (st) Z R I L post) (kf : ¬ (y ≤ x) → Sx G l μ d bc bs (pc + 3) lv (st) Z R I L post) : Sx G l μ d bc bs (pc) lv (.int y :: .int x :: st) Z R I L post := by
  intro p e s m args below meth c mc ms E H locs cells slots ls a1 a2 hS hH hl
  exact lv_icmp_ge E.1 E.2.1 hd ht (fun h => kt h p e s m args below meth c mc ms E H locs cells slots ls a1 a2 hS hH hl) (fun h => kf h p e s m args below meth c mc ms E H locs cells slots ls a1 a2 hS hH hl)
theorem Sx.if_gt {G : Gt} {l : Launch} {μ : Mi} {d bc bs pc : Nat} {lv : List (Nat × Value)} {st : List Value} {Z : Zt} {R : Rt} {I : It} {L : Lt} {post : Pt'} {x : Int32} {o : Int} {t : Nat} (hd : decode μ.2.1 pc = .ok (.ifCond .gt o, 3)) (ht : (pc : Int) + o = (t : Int)) (kt : (0 < x) → Sx G l μ d bc bs (t) lv (st) Z R I L post) (kf : ¬ (0 < x) → Sx G l μ d bc bs (pc + 3) lv (st) Z R I L post) : Sx G l μ d bc bs (pc) lv (.int x :: st) Z R I L post := by
  intro p e s m args below meth c mc ms E H locs cells slots ls a1 a2 hS hH hl
  exact lv_if_gt E.1 E.2.1 hd ht (fun h => kt h p e s m args below meth c mc ms E H locs cells slots ls a1 a2 hS hH hl) (fun h => kf h p e s m args below meth c mc ms E H locs cells slots ls a1 a2 hS hH hl)
theorem Sx.icmp_gt {G : Gt} {l : Launch} {μ : Mi} {d bc bs pc : Nat} {lv : List (Nat × Value)} {st : List Value} {Z : Zt} {R : Rt} {I : It} {L : Lt} {post : Pt'} {x y : Int32} {o : Int} {t : Nat} (hd : decode μ.2.1 pc = .ok (.if_icmp .gt o, 3)) (ht : (pc : Int) + o = (t : Int)) (kt : (y < x) → Sx G l μ d bc bs (t) lv (st) Z R I L post) (kf : ¬ (y < x) → Sx G l μ d bc bs (pc + 3) lv (st) Z R I L post) : Sx G l μ d bc bs (pc) lv (.int y :: .int x :: st) Z R I L post := by
  intro p e s m args below meth c mc ms E H locs cells slots ls a1 a2 hS hH hl
  exact lv_icmp_gt E.1 E.2.1 hd ht (fun h => kt h p e s m args below meth c mc ms E H locs cells slots ls a1 a2 hS hH hl) (fun h => kf h p e s m args below meth c mc ms E H locs cells slots ls a1 a2 hS hH hl)
theorem Sx.if_le {G : Gt} {l : Launch} {μ : Mi} {d bc bs pc : Nat} {lv : List (Nat × Value)} {st : List Value} {Z : Zt} {R : Rt} {I : It} {L : Lt} {post : Pt'} {x : Int32} {o : Int} {t : Nat} (hd : decode μ.2.1 pc = .ok (.ifCond .le o, 3)) (ht : (pc : Int) + o = (t : Int)) (kt : (x ≤ 0) → Sx G l μ d bc bs (t) lv (st) Z R I L post) (kf : ¬ (x ≤ 0) → Sx G l μ d bc bs (pc + 3) lv (st) Z R I L post) : Sx G l μ d bc bs (pc) lv (.int x :: st) Z R I L post := by
  intro p e s m args below meth c mc ms E H locs cells slots ls a1 a2 hS hH hl
  exact lv_if_le E.1 E.2.1 hd ht (fun h => kt h p e s m args below meth c mc ms E H locs cells slots ls a1 a2 hS hH hl) (fun h => kf h p e s m args below meth c mc ms E H locs cells slots ls a1 a2 hS hH hl)
theorem Sx.icmp_le {G : Gt} {l : Launch} {μ : Mi} {d bc bs pc : Nat} {lv : List (Nat × Value)} {st : List Value} {Z : Zt} {R : Rt} {I : It} {L : Lt} {post : Pt'} {x y : Int32} {o : Int} {t : Nat} (hd : decode μ.2.1 pc = .ok (.if_icmp .le o, 3)) (ht : (pc : Int) + o = (t : Int)) (kt : (x ≤ y) → Sx G l μ d bc bs (t) lv (st) Z R I L post) (kf : ¬ (x ≤ y) → Sx G l μ d bc bs (pc + 3) lv (st) Z R I L post) : Sx G l μ d bc bs (pc) lv (.int y :: .int x :: st) Z R I L post := by
  intro p e s m args below meth c mc ms E H locs cells slots ls a1 a2 hS hH hl
  exact lv_icmp_le E.1 E.2.1 hd ht (fun h => kt h p e s m args below meth c mc ms E H locs cells slots ls a1 a2 hS hH hl) (fun h => kf h p e s m args below meth c mc ms E H locs cells slots ls a1 a2 hS hH hl)
theorem Sx.goto {G : Gt} {l : Launch} {μ : Mi} {d bc bs pc : Nat} {lv : List (Nat × Value)} {st : List Value} {Z : Zt} {R : Rt} {I : It} {L : Lt} {post : Pt'} {o : Int} {t : Nat} (hd : decode μ.2.1 pc = .ok (.goto o, 3)) (ht : (pc : Int) + o = (t : Int)) (k : Sx G l μ d bc bs (t) lv (st) Z R I L post) : Sx G l μ d bc bs (pc) lv (st) Z R I L post := by
  intro p e s m args below meth c mc ms E H locs cells slots ls a1 a2 hS hH hl
  exact lv_goto E.1 E.2.1 hd ht (k p e s m args below meth c mc ms E H locs cells slots ls a1 a2 hS hH hl)
theorem Sx.ifnonnull {G : Gt} {l : Launch} {μ : Mi} {d bc bs pc : Nat} {lv : List (Nat × Value)} {st : List Value} {Z : Zt} {R : Rt} {I : It} {L : Lt} {post : Pt'} {x : Nat} {o : Int} {t : Nat} (hd : decode μ.2.1 pc = .ok (.ifnonnull o, 3)) (ht : (pc : Int) + o = (t : Int)) (k : Sx G l μ d bc bs (t) lv (st) Z R I L post) : Sx G l μ d bc bs (pc) lv (.ref x :: st) Z R I L post := by
  intro p e s m args below meth c mc ms E H locs cells slots ls a1 a2 hS hH hl
  exact lv_ifnonnull E.1 E.2.1 hd ht (k p e s m args below meth c mc ms E H locs cells slots ls a1 a2 hS hH hl)
theorem Sx.ifnull {G : Gt} {l : Launch} {μ : Mi} {d bc bs pc : Nat} {lv : List (Nat × Value)} {st : List Value} {Z : Zt} {R : Rt} {I : It} {L : Lt} {post : Pt'} {x : Nat} {o : Int} (hd : decode μ.2.1 pc = .ok (.ifnull o, 3)) (k : Sx G l μ d bc bs (pc + 3) lv (st) Z R I L post) : Sx G l μ d bc bs (pc) lv (.ref x :: st) Z R I L post := by
  intro p e s m args below meth c mc ms E H locs cells slots ls a1 a2 hS hH hl
  exact lv_ifnull E.1 E.2.1 hd (k p e s m args below meth c mc ms E H locs cells slots ls a1 a2 hS hH hl)
theorem Sx.ifnullN {G : Gt} {l : Launch} {μ : Mi} {d bc bs pc : Nat} {lv : List (Nat × Value)} {st : List Value} {Z : Zt} {R : Rt} {I : It} {L : Lt} {post : Pt'} {o : Int} {t : Nat} (hd : decode μ.2.1 pc = .ok (.ifnull o, 3)) (ht : (pc : Int) + o = (t : Int)) (k : Sx G l μ d bc bs (t) lv (st) Z R I L post) : Sx G l μ d bc bs (pc) lv (.null :: st) Z R I L post := by
  intro p e s m args below meth c mc ms E H locs cells slots ls a1 a2 hS hH hl
  exact lv_ifnullN E.1 E.2.1 hd ht (k p e s m args below meth c mc ms E H locs cells slots ls a1 a2 hS hH hl)
theorem Sx.ifnonnullN {G : Gt} {l : Launch} {μ : Mi} {d bc bs pc : Nat} {lv : List (Nat × Value)} {st : List Value} {Z : Zt} {R : Rt} {I : It} {L : Lt} {post : Pt'} {o : Int} (hd : decode μ.2.1 pc = .ok (.ifnonnull o, 3)) (k : Sx G l μ d bc bs (pc + 3) lv (st) Z R I L post) : Sx G l μ d bc bs (pc) lv (.null :: st) Z R I L post := by
  intro p e s m args below meth c mc ms E H locs cells slots ls a1 a2 hS hH hl
  exact lv_ifnonnullN E.1 E.2.1 hd (k p e s m args below meth c mc ms E H locs cells slots ls a1 a2 hS hH hl)
theorem Sx.lookup {G : Gt} {l : Launch} {μ : Mi} {d bc bs pc : Nat} {lv : List (Nat × Value)} {st : List Value} {Z : Zt} {R : Rt} {I : It} {L : Lt} {post : Pt'} {dflt : Int} {ps : Array (Int × Int)} {len : Nat} {x : Int32} {o : Int} {t : Nat} (hd : decode μ.2.1 pc = .ok (.lookupswitch dflt ps, len)) (hp : (ps.toList.zip (ps.toList.drop 1)).all (fun (a, next) => a.1 < next.1) = true) (ho : Op.lookupswitch.offset ps.toList dflt x.toInt = o) (ht : (pc : Int) + o = (t : Int)) (k : Sx G l μ d bc bs (t) lv (st) Z R I L post) : Sx G l μ d bc bs (pc) lv (.int x :: st) Z R I L post := by
  intro p e s m args below meth c mc ms E H locs cells slots ls a1 a2 hS hH hl
  exact lv_lookup E.1 E.2.1 hd hp ho ht (k p e s m args below meth c mc ms E H locs cells slots ls a1 a2 hS hH hl)
theorem Sx.tableOut {G : Gt} {l : Launch} {μ : Mi} {d bc bs pc : Nat} {lv : List (Nat × Value)} {st : List Value} {Z : Zt} {R : Rt} {I : It} {L : Lt} {post : Pt'} {dflt lo hi : Int} {offs : Array Int} {len : Nat} {x : Int32} {t : Nat} (hd : decode μ.2.1 pc = .ok (.tableswitch dflt lo hi offs, len)) (h : x.toInt < lo ∨ hi < x.toInt) (ht : (pc : Int) + dflt = (t : Int)) (k : Sx G l μ d bc bs (t) lv (st) Z R I L post) : Sx G l μ d bc bs (pc) lv (.int x :: st) Z R I L post := by
  intro p e s m args below meth c mc ms E H locs cells slots ls a1 a2 hS hH hl
  exact lv_tableOut E.1 E.2.1 hd h ht (k p e s m args below meth c mc ms E H locs cells slots ls a1 a2 hS hH hl)
theorem Sx.tableIn {G : Gt} {l : Launch} {μ : Mi} {d bc bs pc : Nat} {lv : List (Nat × Value)} {st : List Value} {Z : Zt} {R : Rt} {I : It} {L : Lt} {post : Pt'} {dflt lo hi : Int} {offs : Array Int} {len : Nat} {x : Int32} {o : Int} {t : Nat} (hd : decode μ.2.1 pc = .ok (.tableswitch dflt lo hi offs, len)) (h1 : ¬ x.toInt < lo) (h2 : ¬ hi < x.toInt) (ho : offs[(x.toInt - lo).toNat]? = some o) (ht : (pc : Int) + o = (t : Int)) (k : Sx G l μ d bc bs (t) lv (st) Z R I L post) : Sx G l μ d bc bs (pc) lv (.int x :: st) Z R I L post := by
  intro p e s m args below meth c mc ms E H locs cells slots ls a1 a2 hS hH hl
  exact lv_tableIn E.1 E.2.1 hd h1 h2 ho ht (k p e s m args below meth c mc ms E H locs cells slots ls a1 a2 hS hH hl)
