/-! the reference: fault of any sort, text -/
theorem sor_c {x : Int32} (h : sorC x) : x = nI 0 ∨ x = nI 1 ∨ x = nI 2 := by
  have h1 := h.1
  have h2 := h.2
  rcases (show x.toInt = 0 ∨ x.toInt = 1 ∨ x.toInt = 2 by omega) with c | c | c
  · exact Or.inl ((x_eqN (n := 0) (by decide)).mpr c)
  · exact Or.inr (Or.inl ((x_eqN (n := 1) (by decide)).mpr c))
  · exact Or.inr (Or.inr ((x_eqN (n := 2) (by decide)).mpr c))
theorem sor_0 : sorC (nI 0) := by decide
theorem sor_1 : sorC (nI 1) := by decide
theorem sor_2 : sorC (nI 2) := by decide
set_option maxRecDepth 20000 in
set_option maxHeartbeats 1000000 in
theorem k_faultX {G : Gt} {l : Launch} {Z : Zt} {R : Rt} {I : It} {L : Lt} {post : Pt'} {V : Vt} {N : Nat} {x : Int32} (W : WF Z R) (hM : MI V I L) (hG : GV N V) (hN : N < 2147483647) (hn : ¬ sorC x) (h : ∀ I' R', MI V I' L → FM R I L R' I' L → post (some (.int (fauR V x))) Z R' I' L) : Cx G l mX12_fault 33 0 0 [.ref 253, .int x] Z R I L post := by
  refine Cx.of (by decide +kernel) (by exact Nat.le_of_ble_eq_true rfl) ?_
  refine Sx.aload_n dX12_fault_0 rfl ?_
  refine Sx.iconst (v := (nI 0)) dX12_fault_1 (by decide) ?_
  refine Sx.putfV dX12_fault_2 lkp_X12_109_12 (o_253 W) rfl rfl (fun I1 e1 o1 => ?_)
  have M1 := hM.th (j := 0) (by unfold sfJ; decide) e1 o1
  have hf1 : FM R I L R I1 L := FM.i fun q hq => o1 q (by omega)
  have hp6 := hG.p
  have hb := hG.b
  refine Sx.iload_n dX12_fault_5 rfl ?_
  refine Sx.i2l dX12_fault_6 ?_
  refine Sx.lconst (v := 0) dX12_fault_7 (by decide) ?_
  refine Sx.ldc2 dX12_fault_8 lkk_X12_285 ?_
  refine Sx.callS3 dX12_fault_11 lkc_X12_230  (by decide) (by decide) (Nat.le_of_ble_eq_true rfl) rfl rfl (k_isIn (vLi (vX x)) (show VL 0 0 from rfl) (show VL 2 2 from rfl) ?_)
  refine Sx.if_neD (t := 20) dX12_fault_14 (by decide) (fun c14 => False.elim (by exact hn ⟨c14.1, c14.2⟩)) (fun c14 => ?_)
  refine Sx.bipush (v := (iI (-2))) dX12_fault_17 (by decide) ?_
  refine Sx.iret dX12_fault_19 rfl rfl ?_
  exact pXX (by unfold fauR; rw [if_neg hn]) (h I1 R M1 hf1)
set_option maxRecDepth 20000 in
set_option maxHeartbeats 1000000 in
theorem k_fault {G : Gt} {l : Launch} {Z : Zt} {R : Rt} {I : It} {L : Lt} {post : Pt'} {V : Vt} {N : Nat} {x : Int32} (W : WF Z R) (hM : MI V I L) (hG : GV N V) (hN : N < 2147483647) (h : ∀ I' R', MI V I' L → FM R I L R' I' L → post (some (.int (fauR V x))) Z R' I' L) : Cx G l mX12_fault 33 0 0 [.ref 253, .int x] Z R I L post := by
  by_cases c : sorC x
  · rcases sor_c c with e | e | e <;> subst e
    · exact k_fault0 W hM hG hN (fun I' R' m f _ => pXX (by unfold fauR; rw [if_pos c]; rfl) (h I' R' m f))
    · exact k_fault1 W hM hG hN (fun I' R' m f _ => pXX (by unfold fauR; rw [if_pos c]; rfl) (h I' R' m f))
    · exact k_fault2 W hM hG hN (fun I' R' m f _ => pXX (by unfold fauR; rw [if_pos c]; rfl) (h I' R' m f))
  · exact k_faultX W hM hG hN c h
/-! the states behind a text that is taken -/
def lwV (V : Vt) : Vt := fun a => if a = 0 then upn (upn (V 0) 0 0) 1 (V 0 1 + 1) else if a = 10 + V 0 1 then upn (V 1) 240 (V 0 0) else V a
def clV (V : Vt) : Vt := fun a => if a = 0 then upn (upn (V 0) 0 0) 3 (V 0 3 + 1) else if a = 20 + V 0 3 then (fun z => if z = 60 then cpN (V 1) (V 0 0) 20 0 else if z < 3 * cpN (V 1) (V 0 0) 20 0 then ((cpF (V 1) (V 0 0) 20 0 0 (fun _ => 0) z).toInt + 1).toNat else 0) else V a
def poV (V : Vt) (Q : Nat → Nat) : Vt := fun a => if a = 0 then upn (upn (upn (upn (V 0) 0 0) 4 0) 5 0) 7 0 else if a = 2 then Q else if a = 3 then begN Q else V a
abbrev texC (V : Vt) (s : Nat) : Prop := (s = 1 → V 0 1 ≠ 4) ∧ (s = 2 → V 0 3 ≠ 4) ∧ (fauP V s).1 = true
def texV (V : Vt) (x : Int32) : Vt := if sorC x ∧ texC V (xN x) then (if xN x = 0 then poV V (ptR (V 1) (V 0 0) 14 0 usQ).2.2 else if xN x = 1 then lwV V else clV V) else V
def texR (V : Vt) (x : Int32) : Int32 := if sorC x ∧ texC V (xN x) then (if xN x = 0 then nI ((ptR (V 1) (V 0 0) 14 0 usQ).2.2 35) else if xN x = 1 then nI (V 0 1) else nI (V 0 3)) else -1
theorem lw_0 (V : Vt) {q : Nat} (h0 : q ≠ 0) (h1 : q ≠ 1) : lwV V 0 q = V 0 q := by unfold lwV upn; rw [if_pos rfl, if_neg h1, if_neg h0]
theorem lw_00 (V : Vt) : lwV V 0 0 = 0 := rfl
theorem lw_01 (V : Vt) : lwV V 0 1 = V 0 1 + 1 := rfl
theorem lw_n (V : Vt) : lwV V (10 + V 0 1) = upn (V 1) 240 (V 0 0) := by unfold lwV; rw [if_neg (by omega), if_pos rfl]
theorem lw_o (V : Vt) {p : Nat} (h0 : p ≠ 0) (h1 : p ≠ 10 + V 0 1) : lwV V p = V p := by unfold lwV; rw [if_neg h0, if_neg h1]
theorem cl_0 (V : Vt) {q : Nat} (h0 : q ≠ 0) (h1 : q ≠ 3) : clV V 0 q = V 0 q := by unfold clV upn; rw [if_pos rfl, if_neg h1, if_neg h0]
theorem cl_00 (V : Vt) : clV V 0 0 = 0 := rfl
theorem cl_03 (V : Vt) : clV V 0 3 = V 0 3 + 1 := rfl
theorem cl_o (V : Vt) {p : Nat} (h0 : p ≠ 0) (h1 : p ≠ 20 + V 0 3) : clV V p = V p := by unfold clV; rw [if_neg h0, if_neg h1]
theorem po_o (V : Vt) (Q : Nat → Nat) {p : Nat} (h0 : p ≠ 0) (h2 : p ≠ 2) (h3 : p ≠ 3) : poV V Q p = V p := by unfold poV; rw [if_neg h0, if_neg h2, if_neg h3]
theorem po_0 (V : Vt) (Q : Nat → Nat) {q : Nat} (h0 : q ≠ 0) (h4 : q ≠ 4) (h5 : q ≠ 5) (h7 : q ≠ 7) : poV V Q 0 q = V 0 q := by unfold poV upn; rw [if_pos rfl, if_neg h7, if_neg h5, if_neg h4, if_neg h0]
theorem po_2 (V : Vt) (Q : Nat → Nat) : poV V Q 2 = Q := rfl
theorem po_3 (V : Vt) (Q : Nat → Nat) : poV V Q 3 = begN Q := rfl
theorem po_z (V : Vt) (Q : Nat → Nat) {q : Nat} (h : q = 0 ∨ q = 4 ∨ q = 5 ∨ q = 7) : poV V Q 0 q = 0 := by rcases h with h | h | h | h <;> subst h <;> rfl
theorem MEm.tr {V V' : Vt} {k : Nat → Int64} {f : Nat → Int32} (h : MEm V k f) (c : V 0 1 ≤ V' 0 1) (r : ∀ i, i < V 0 1 → V' (10 + i) = V (10 + i)) : MEm V' k f := by
  intro s hs
  rcases h s hs with z | ⟨li, d, e, g, u, y, rr, h1, h2, h3, h4, h5, h6, h7, h8, h9⟩
  · exact Or.inl z
  · exact Or.inr ⟨li, d, e, g, u, y, rr, by omega, h2, h3, h4, h5, h6, h7, h8, by rw [r li h1]; exact h9⟩
theorem MI.lw {V : Vt} {I I' : It} {L : Lt} (h : MI V I L) (hb : V 0 1 < 4 ∧ V 0 3 ≤ 4 ∧ V 0 0 ≤ 240) (e6 : I' 253 6 = nI 0) (e7 : I' 253 7 = nI (V 0 1 + 1)) (eo : ∀ j, j ≠ 6 → j ≠ 7 → ¬ sfJ j → I' 253 j = I 253 j) (t1 : ∀ z, z < 240 * V 0 1 → I' 255 z = I 255 z) (t2 : ∀ j, j < V 0 0 → I' 255 (240 * V 0 1 + j) = by8 (V 1 j)) (t3 : ∀ i, i < V 0 1 → I' 256 i = I 256 i) (t4 : I' 256 (V 0 1) = nI (V 0 0)) (o : ∀ q, q ≠ 253 → q ≠ 255 → q ≠ 256 → I' q = I q) (hv : ∀ i, i < V 0 1 → V (10 + i) 240 ≤ 240) : MI (lwV V) I' L := by
  obtain ⟨⟨a1, a2, a3, a4, a5, a6, a7, a8, a9, a10, a11⟩, b⟩ := h
  obtain ⟨m1, m2, m3, m4, m5, m6, m7, m8, m9, m10⟩ := a1
  have r : ∀ p, p ≠ 0 → p < 10 → lwV V p = V p := fun p h0 h1 => lw_o V h0 (by omega)
  have s : ∀ j, j = 26 ∨ j = 27 ∨ j = 30 ∨ j = 35 ∨ j = 36 ∨ j = 41 ∨ j = 45 ∨ j = 51 → I' 253 j = I 253 j := fun j hj => eo j (by omega) (by omega) (by unfold sfJ; omega)
  refine ⟨⟨⟨e6, e7, ?_, ?_, ?_, ?_, ?_, ?_, ?_, ?_⟩, fun j hj => by rw [lw_00] at hj; omega, ?_, ?_, ?_, ?_, ?_, ?_, ?_, ?_, ?_⟩, ?_⟩
  · rw [s 26 (by decide), r 2 (by decide) (by decide)]; exact m3
  · rw [s 27 (by decide), r 2 (by decide) (by decide)]; exact m4
  · rw [s 30 (by decide), lw_0 V (by decide) (by decide)]; exact m5
  · rw [s 35 (by decide), lw_0 V (by decide) (by decide)]; exact m6
  · rw [s 36 (by decide), lw_0 V (by decide) (by decide)]; exact m7
  · rw [s 41 (by decide), lw_0 V (by decide) (by decide)]; exact m8
  · rw [s 45 (by decide), lw_0 V (by decide) (by decide)]; exact m9
  · rw [s 51 (by decide), lw_0 V (by decide) (by decide)]; exact m10
  · intro i hi
    rw [lw_01] at hi
    by_cases c : i = V 0 1
    · subst c
      rw [lw_n, upn_eq]
      refine ⟨t4, fun j hj => ?_⟩
      rw [upn_ne _ _ (by omega)]
      exact t2 j hj
    · have hi' : i < V 0 1 := by omega
      rw [lw_o V (by omega) (by omega)]
      have hvi := hv i hi'
      refine ⟨by rw [t3 i hi']; exact (a3 i hi').1, fun j hj => ?_⟩
      rw [t1 _ (by omega)]
      exact (a3 i hi').2 j hj
  · rw [o 258 (by decide) (by decide) (by decide), o 260 (by decide) (by decide) (by decide), o 262 (by decide) (by decide) (by decide), r 2 (by decide) (by decide)]; exact a4
  · rw [o 264 (by decide) (by decide) (by decide), o 265 (by decide) (by decide) (by decide)]; intro i hi; rw [lw_0 V (by decide) (by decide)] at hi; rw [lw_o V (by omega) (by omega)]; exact a5 i hi
  · rw [o 268 (by decide) (by decide) (by decide), r 4 (by decide) (by decide)]; exact a6
  · rw [o 271 (by decide) (by decide) (by decide)]; intro i hi; rw [lw_0 V (by decide) (by decide)] at hi ⊢; rw [lw_o V (by omega) (by omega)]; exact a7 i hi
  · rw [o 273 (by decide) (by decide) (by decide)]; intro i hi; rw [lw_0 V (by decide) (by decide)] at hi; rw [r 6 (by decide) (by decide), r 7 (by decide) (by decide), r 8 (by decide) (by decide)]; exact a8 i hi
  · rw [o 278 (by decide) (by decide) (by decide)]; intro z; rw [lw_0 V (by decide) (by decide)] at z; rw [r 5 (by decide) (by decide)]; exact a9 z
  · rw [o 257 (by decide) (by decide) (by decide)]; exact a10
  · rw [o 270 (by decide) (by decide) (by decide)]; exact a11.tr (by rw [lw_01]; omega) (fun i hi => lw_o V (by omega) (by omega))
  · rw [o 266 (by decide) (by decide) (by decide), r 3 (by decide) (by decide)]; exact b
theorem MI.cl {V : Vt} {I I' : It} {L : Lt} (h : MI V I L) (hb : V 0 1 ≤ 4 ∧ V 0 3 < 4) (hn : cpN (V 1) (V 0 0) 20 0 ≤ 20) (e6 : I' 253 6 = nI 0) (e30 : I' 253 30 = nI (V 0 3 + 1)) (eo : ∀ j, j ≠ 6 → j ≠ 30 → ¬ sfJ j → I' 253 j = I 253 j) (t1 : ∀ z, z < 60 * V 0 3 → I' 264 z = I 264 z) (t2 : ∀ z, z < 3 * cpN (V 1) (V 0 0) 20 0 → I' 264 (60 * V 0 3 + z) = iI (((clV V (20 + V 0 3) z : Nat) : Int) - 1)) (t3 : ∀ i, i < V 0 3 → I' 265 i = I 265 i) (t4 : I' 265 (V 0 3) = nI (cpN (V 1) (V 0 0) 20 0)) (o : ∀ q, q ≠ 253 → q ≠ 264 → q ≠ 265 → I' q = I q) (hv : ∀ i, i < V 0 3 → V (20 + i) 60 ≤ 20) : MI (clV V) I' L := by
  obtain ⟨⟨a1, a2, a3, a4, a5, a6, a7, a8, a9, a10, a11⟩, b⟩ := h
  obtain ⟨m1, m2, m3, m4, m5, m6, m7, m8, m9, m10⟩ := a1
  have r : ∀ p, p ≠ 0 → p < 20 → clV V p = V p := fun p h0 h1 => cl_o V h0 (by omega)
  have s : ∀ j, j = 7 ∨ j = 26 ∨ j = 27 ∨ j = 35 ∨ j = 36 ∨ j = 41 ∨ j = 45 ∨ j = 51 → I' 253 j = I 253 j := fun j hj => eo j (by omega) (by omega) (by unfold sfJ; omega)
  have h60 : clV V (20 + V 0 3) 60 = cpN (V 1) (V 0 0) 20 0 := by unfold clV; rw [if_neg (by omega), if_pos rfl]; rfl
  refine ⟨⟨⟨e6, ?_, ?_, ?_, e30, ?_, ?_, ?_, ?_, ?_⟩, fun j hj => by rw [cl_00] at hj; omega, ?_, ?_, ?_, ?_, ?_, ?_, ?_, ?_, ?_⟩, ?_⟩
  · rw [s 7 (by decide), cl_0 V (by decide) (by decide)]; exact m2
  · rw [s 26 (by decide), r 2 (by decide) (by decide)]; exact m3
  · rw [s 27 (by decide), r 2 (by decide) (by decide)]; exact m4
  · rw [s 35 (by decide), cl_0 V (by decide) (by decide)]; exact m6
  · rw [s 36 (by decide), cl_0 V (by decide) (by decide)]; exact m7
  · rw [s 41 (by decide), cl_0 V (by decide) (by decide)]; exact m8
  · rw [s 45 (by decide), cl_0 V (by decide) (by decide)]; exact m9
  · rw [s 51 (by decide), cl_0 V (by decide) (by decide)]; exact m10
  · rw [o 255 (by decide) (by decide) (by decide), o 256 (by decide) (by decide) (by decide)]; intro i hi; rw [cl_0 V (by decide) (by decide)] at hi; rw [cl_o V (by omega) (by omega)]; exact a3 i hi
  · rw [o 258 (by decide) (by decide) (by decide), o 260 (by decide) (by decide) (by decide), o 262 (by decide) (by decide) (by decide), r 2 (by decide) (by decide)]; exact a4
  · intro i hi
    rw [cl_03] at hi
    by_cases c : i = V 0 3
    · subst c
      rw [h60]
      exact ⟨t4, t2⟩
    · have hi' : i < V 0 3 := by omega
      rw [cl_o V (by omega) (by omega)]
      have hvi := hv i hi'
      refine ⟨by rw [t3 i hi']; exact (a5 i hi').1, fun z hz => ?_⟩
      rw [t1 _ (by omega)]
      exact (a5 i hi').2 z hz
  · rw [o 268 (by decide) (by decide) (by decide), r 4 (by decide) (by decide)]; exact a6
  · rw [o 271 (by decide) (by decide) (by decide)]; intro i hi; rw [cl_0 V (by decide) (by decide)] at hi ⊢; rw [cl_o V (by omega) (by omega)]; exact a7 i hi
  · rw [o 273 (by decide) (by decide) (by decide)]; intro i hi; rw [cl_0 V (by decide) (by decide)] at hi; rw [r 6 (by decide) (by decide), r 7 (by decide) (by decide), r 8 (by decide) (by decide)]; exact a8 i hi
  · rw [o 278 (by decide) (by decide) (by decide)]; intro z; rw [cl_0 V (by decide) (by decide)] at z; rw [r 5 (by decide) (by decide)]; exact a9 z
  · rw [o 257 (by decide) (by decide) (by decide)]; exact a10
  · rw [o 270 (by decide) (by decide) (by decide)]; exact a11.tr (by rw [cl_0 V (by decide) (by decide)]; exact Nat.le_refl _) (fun i hi => cl_o V (by omega) (by omega))
  · rw [o 266 (by decide) (by decide) (by decide), r 3 (by decide) (by decide)]; exact b
theorem MI.po {V : Vt} {I I' : It} {L : Lt} {Q : Nat → Nat} (h : MI V I L) (hb : V 0 1 ≤ 4 ∧ V 0 3 ≤ 4) (z : ∀ j, j = 6 ∨ j = 41 ∨ j = 45 ∨ j = 51 → I' 253 j = nI 0) (e26 : I' 253 26 = nI (Q 34)) (e27 : I' 253 27 = nI (Q 35)) (eo : ∀ j, j = 7 ∨ j = 30 ∨ j = 35 ∨ j = 36 → I' 253 j = I 253 j) (hp : MPt Q (I' 258) (I' 260) (I' 262)) (hn : MN (I' 266) (begN Q)) (o : ∀ q, q ≠ 253 → q ≠ 258 → q ≠ 260 → q ≠ 262 → q ≠ 266 → I' q = I q) : MI (poV V Q) I' L := by
  obtain ⟨⟨a1, a2, a3, a4, a5, a6, a7, a8, a9, a10, a11⟩, b⟩ := h
  obtain ⟨m1, m2, m3, m4, m5, m6, m7, m8, m9, m10⟩ := a1
  have d : ∀ q, q = 254 ∨ q = 255 ∨ q = 256 ∨ q = 257 ∨ q = 264 ∨ q = 265 ∨ q = 268 ∨ q = 270 → I' q = I q := fun q hq => o q (by omega) (by omega) (by omega) (by omega) (by omega)
  refine ⟨⟨⟨z 6 (by decide), ?_, e26, e27, ?_, ?_, ?_, z 41 (by decide), z 45 (by decide), z 51 (by decide)⟩, fun j hj => by rw [po_z V Q (by decide)] at hj; omega, ?_, hp, ?_, ?_, fun i hi => by rw [po_z V Q (by decide)] at hi; omega, fun i hi => by rw [po_z V Q (by decide)] at hi; omega, fun q => by rw [po_z V Q (by decide)] at q; omega, ?_, ?_⟩, hn⟩
  · rw [eo 7 (by decide), po_0 V Q (by decide) (by decide) (by decide) (by decide)]; exact m2
  · rw [eo 30 (by decide), po_0 V Q (by decide) (by decide) (by decide) (by decide)]; exact m5
  · rw [eo 35 (by decide), po_0 V Q (by decide) (by decide) (by decide) (by decide)]; exact m6
  · rw [eo 36 (by decide), po_0 V Q (by decide) (by decide) (by decide) (by decide)]; exact m7
  · rw [d 255 (by decide), d 256 (by decide)]; intro i hi; rw [po_0 V Q (by decide) (by decide) (by decide) (by decide)] at hi; rw [po_o V Q (by omega) (by omega) (by omega)]; exact a3 i hi
  · rw [d 264 (by decide), d 265 (by decide)]; intro i hi; rw [po_0 V Q (by decide) (by decide) (by decide) (by decide)] at hi; rw [po_o V Q (by omega) (by omega) (by omega)]; exact a5 i hi
  · rw [d 268 (by decide), po_o V Q (by decide) (by decide) (by decide)]; exact a6
  · rw [d 257 (by decide)]; exact a10
  · rw [d 270 (by decide)]; exact a11.tr (by rw [po_0 V Q (by decide) (by decide) (by decide) (by decide)]; exact Nat.le_refl _) (fun i hi => po_o V Q (by omega) (by omega) (by omega))
