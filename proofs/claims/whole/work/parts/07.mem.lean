/-! memory: updates, and what the heap holds behind them -/
def up2 (I : It) (a j : Nat) (x : Int32) : It := va_up I a (upd (I a) j x)
def up2L (L : Lt) (a j : Nat) (x : Int64) : Lt := va_up L a (vp_updL (L a) j x)
def up2R (R : Rt) (a j : Nat) (x : Option Nat) : Rt := va_up R a (va_up (R a) j x)
theorem mu_eq {α : Type} (f : Nat → α) (k : Nat) (v : α) : va_up f k v k = v := by simp [va_up]
theorem mu_ne {α : Type} (f : Nat → α) {k j : Nat} (v : α) (h : j ≠ k) : va_up f k v j = f j := by simp [va_up, h]
theorem ad_reg {G : Gt} {a : Nat} (h : 100 ≤ a) : ad G a = G.1 + (a - 100) := by simp [ad, h]
theorem ad_inj {G : Gt} {a b : Nat} (ha : 100 ≤ a) (hb : 100 ≤ b) (h : ad G a = ad G b) : a = b := by
  rw [ad_reg ha, ad_reg hb] at h
  omega
theorem ad_A {G : Gt} {a : Nat} (h : 100 ≤ a) : gA G (ad G a) := by
  rw [ad_reg h]
  exact Nat.le_add_right _ _
theorem Hp.updt {G : Gt} {Z : Zt} {R R' : Rt} {I I' : It} {L L' : Lt} {H H' : Heap} {a : Nat} (h : Hp G Z R I L H) (ha : 100 ≤ a) (hz : H'.size = H.size) (he : va_at G.2.2.1 cls (ad G a, ce G R' I' L' (Z.2 a) a) H') (oq : ∀ q, q ≠ ad G a → H'[q]? = H[q]?)
    (hne : ∀ k, k ≠ a → ce G R I L (Z.2 k) k = ce G R' I' L' (Z.2 k) k) : Hp G Z R' I' L' H' := by
  refine ⟨h.1, hz.trans h.2.1, fun k h1 h2 h3 => ?_⟩
  by_cases hk : k = a
  · subst hk
    exact he
  · rw [← hne k hk]
    exact (h.2.2 k h1 h2 h3).kept (oq _ (fun e => hk (ad_inj h1 ha e)))
/-- region cells: an object of class c, an array of kind t and length n -/
def ob (Z : Zt) (a c : Nat) : Prop := 100 ≤ a ∧ a < Z.1 ∧ Z.2 a = (c, 0)
def ar (Z : Zt) (a t n : Nat) : Prop := 100 ≤ a ∧ a < Z.1 ∧ Z.2 a = (t, n)
def LkF (own : String) (i c j kd : Nat) : Prop := ∃ (C : String) (T : u_T) (N : Nat), cls[c]? = some (C, T, N) ∧ j < N ∧ (∀ w ∈ u_ws C T N, w ∈ TB) ∧ Cond.fieldLink own i (T j).1 (T j).2.1 (T j).2.2.1 ∈ TB ∧ kdo (fty c j) = kd ∧ c < 50 ∧ N = fN c
def LkP (own : String) (i c j kd : Nat) (fin : Bool) : Prop := ∃ (C : String) (T : u_T) (N : Nat), cls[c]? = some (C, T, N) ∧ j < N ∧ (∀ w ∈ u_ws C T N, w ∈ TB) ∧ Cond.fieldLink own i (T j).1 (T j).2.1 (T j).2.2.1 ∈ TB ∧ kdo (fty c j) = kd ∧ c < 50 ∧ N = fN c ∧
  (∀ k, k < N → parseFieldDescriptor (T k).2.2.1 = some (fty c k)) ∧ (∀ a, a < N → ∀ b, b < N → a ≠ b → (T a).2.1 ≠ (T b).2.1) ∧ (T j).2.2.2 = fin ∧ (fin = true → (T j).1 = own)
theorem ce_ob {G : Gt} {R : Rt} {I : It} {L : Lt} {c k : Nat} (hc : c < 50) : ce G R I L (c, 0) k = .inr (c, (List.range (fN c)).map fun j => tr G (fv R I L c k j)) := by
  unfold ce
  rw [if_pos hc]
theorem ce_ar {G : Gt} {R : Rt} {I : It} {L : Lt} {t n k : Nat} (h1 : 50 ≤ t) (h2 : t < 54) : ce G R I L (t, n) k = .inl (G.2.2.2 t, n, .inl (I k)) := by
  unfold ce
  rw [if_neg (by show ¬ t < 50; omega), if_pos h2]
theorem ce_arL {G : Gt} {R : Rt} {I : It} {L : Lt} {n k : Nat} : ce G R I L (54, n) k = .inl (G.2.2.2 54, n, .inr (.inl (L k))) := rfl
theorem ce_arR {G : Gt} {R : Rt} {I : It} {L : Lt} {t n k : Nat} (h1 : 55 ≤ t) : ce G R I L (t, n) k = .inl (G.2.2.2 t, n, .inr (.inr (.inr (.inr fun j => (R k j).map (ad G))))) := by
  unfold ce
  rw [if_neg (by show ¬ t < 50; omega), if_neg (by show ¬ t < 54; omega), if_neg (by show ¬ t = 54; omega)]
theorem ce_eqI {G : Gt} {R : Rt} {I I' : It} {L : Lt} {sh : Nat × Nat} {k : Nat} (h : I k = I' k) : ce G R I L sh k = ce G R I' L sh k := by
  unfold ce fv
  rw [h]
theorem ce_eqL {G : Gt} {R : Rt} {I : It} {L L' : Lt} {sh : Nat × Nat} {k : Nat} (h : L k = L' k) : ce G R I L sh k = ce G R I L' sh k := by
  unfold ce fv
  rw [h]
theorem ce_eqR {G : Gt} {R R' : Rt} {I : It} {L : Lt} {sh : Nat × Nat} {k : Nat} (h : R k = R' k) : ce G R I L sh k = ce G R' I L sh k := by
  unfold ce fv
  rw [h]
theorem ce_eq3 {G : Gt} {R R' : Rt} {I I' : It} {L L' : Lt} {sh : Nat × Nat} {k : Nat} (hR : R k = R' k) (hI : I k = I' k) (hL : L k = L' k) : ce G R I L sh k = ce G R' I' L' sh k := by
  unfold ce fv
  rw [hR, hI, hL]
theorem vpV_range (n : Nat) (f : Nat → Value) {j : Nat} (h : j < n) : vp_V ((List.range n).map f) j = f j := by
  unfold vp_V
  rw [List.getD_eq_getElem?_getD, List.getElem?_map, List.getElem?_range h]
  rfl
/-- the cell of an object -/
theorem Hp.obj {G : Gt} {Z : Zt} {R : Rt} {I : It} {L : Lt} {H : Heap} {a c : Nat} {C : String} {T : u_T} {N : Nat} (h : Hp G Z R I L H) (ha : ob Z a c) (hc : c < 50) (hcl : cls[c]? = some (C, T, N)) (hN : N = fN c) :
    ∃ cell : Cell, H[ad G a]? = some cell ∧ cell.cls = G.2.2.1.1 c ∧ cell.vm = .none ∧ ∀ k, k < N → cell.slots[G.2.2.1.2 c k]? = some (tr G (fv R I L c a k)) := by
  obtain ⟨h1, h2, h3⟩ := ha
  have h4 := h.2.2 a h1 h2 (by rw [h3]; show c ≠ 99; omega)
  rw [h3, ce_ob hc] at h4
  obtain ⟨r, q1, cell, q2, q3, q4, q5⟩ := h4
  have hr : r = (C, T, N) := Option.some.inj (q1.symm.trans hcl)
  subst hr
  refine ⟨cell, q2, q3, q4, fun k hk => ?_⟩
  rw [q5 k hk, vpV_range _ _ (hN ▸ hk)]
section MEM
variable {G : Gt} {l : Launch} {μ : Mi} {d bc bs pc : Nat} {lv : List (Nat × Value)} {st : List Value} {Z : Zt} {R : Rt} {I : It} {L : Lt} {post : Pt'}
theorem fv_i {c k j : Nat} (h : kdo (fty c j) = 0) : fv R I L c k j = .int (I k j) := by unfold fv; rw [h]; rfl
theorem fv_l {c k j : Nat} (h : kdo (fty c j) = 1) : fv R I L c k j = .long (L k j) := by unfold fv; rw [h]; rfl
theorem fv_r {c k j : Nat} (h : kdo (fty c j) = 2) : fv R I L c k j = rv (R k j) := by unfold fv; rw [h]; rfl
theorem Sx.getf {i a c j kd : Nat} (hd : decode μ.2.1 pc = .ok (.getfield i, 3)) (hk : LkF μ.1.cls i c j kd) (ha : ob Z a c) (k : Sx G l μ d bc bs (pc + 3) lv (fv R I L c a j :: st) Z R I L post) : Sx G l μ d bc bs pc lv (.ref a :: st) Z R I L post := by
  intro p e s m args below meth c0 mc ms E H locs cells slots ls a1 a2 hS hH hl
  obtain ⟨C, T, N, h1, h2, h3, h4, h5, h6, h7⟩ := hk
  obtain ⟨cell, q1, q2, q3, q4⟩ := hH.obj ha h6 h1 h7
  have hK := E.2.2.2.2.2.2.2.2.1
  obtain ⟨hSl, hfc, kC, hkC, hkind⟩ := hK.1 c _ h1
  obtain ⟨cf, kf, fi, f, hi, hsl⟩ := hSl j h2
  refine W.getf E.1 E.2.1 E.2.2.2.2.1 (E.2.2.2.2.2.1 _ h4) hi (u_facts hfc hkC (u_lays (ws := TB) E.2.2.2.2.2.1 h3 h2) hi).1 q1 (by rw [q3]; exact fun h => by cases h) (v := tr G (fv R I L c a j)) ?_ rfl rfl hd (k p e s m args below meth c0 mc ms E H locs cells slots ls a1 a2 hS hH hl)
  rw [hsl, q4 j h2]
theorem Sx.getfI {i a c j : Nat} (hd : decode μ.2.1 pc = .ok (.getfield i, 3)) (hk : LkF μ.1.cls i c j 0) (ha : ob Z a c) (k : Sx G l μ d bc bs (pc + 3) lv (.int (I a j) :: st) Z R I L post) : Sx G l μ d bc bs pc lv (.ref a :: st) Z R I L post :=
  Sx.getf hd hk ha (by obtain ⟨C, T, N, h1, h2, h3, h4, h5, h6, h7⟩ := hk; rw [fv_i h5]; exact k)
theorem Sx.getfL {i a c j : Nat} (hd : decode μ.2.1 pc = .ok (.getfield i, 3)) (hk : LkF μ.1.cls i c j 1) (ha : ob Z a c) (k : Sx G l μ d bc bs (pc + 3) lv (.long (L a j) :: st) Z R I L post) : Sx G l μ d bc bs pc lv (.ref a :: st) Z R I L post :=
  Sx.getf hd hk ha (by obtain ⟨C, T, N, h1, h2, h3, h4, h5, h6, h7⟩ := hk; rw [fv_l h5]; exact k)
theorem Sx.getfR {i a c j q : Nat} (hd : decode μ.2.1 pc = .ok (.getfield i, 3)) (hk : LkF μ.1.cls i c j 2) (ha : ob Z a c) (hr : R a j = some q) (k : Sx G l μ d bc bs (pc + 3) lv (.ref q :: st) Z R I L post) : Sx G l μ d bc bs pc lv (.ref a :: st) Z R I L post :=
  Sx.getf hd hk ha (by obtain ⟨C, T, N, h1, h2, h3, h4, h5, h6, h7⟩ := hk; rw [fv_r h5, hr]; exact k)
theorem Sx.getfN {i a c j : Nat} (hd : decode μ.2.1 pc = .ok (.getfield i, 3)) (hk : LkF μ.1.cls i c j 2) (ha : ob Z a c) (hr : R a j = none) (k : Sx G l μ d bc bs (pc + 3) lv (.null :: st) Z R I L post) : Sx G l μ d bc bs pc lv (.ref a :: st) Z R I L post :=
  Sx.getf hd hk ha (by obtain ⟨C, T, N, h1, h2, h3, h4, h5, h6, h7⟩ := hk; rw [fv_r h5, hr]; exact k)
/-- a field is written: what the memory is then, R' I' L' -/
theorem Sx.putf {i a c j kd : Nat} {fin : Bool} {v : Value} {R' : Rt} {I' : It} {L' : Lt} (hd : decode μ.2.1 pc = .ok (.putfield i, 3)) (hk : LkP μ.1.cls i c j kd fin) (hin : fin = true → μ.1.name = "<init>") (ha : ob Z a c) (hn : narrow (fty c j) (tr G v) = tr G v) (hfit : fits (fty c j) (tr G v) = true)
    (hv : fv R' I' L' c a j = v) (hj : ∀ j', j' ≠ j → fv R' I' L' c a j' = fv R I L c a j') (hne : ∀ k, k ≠ a → R k = R' k ∧ I k = I' k ∧ L k = L' k)
    (k : Sx G l μ d bc bs (pc + 3) lv st Z R' I' L' post) : Sx G l μ d bc bs pc lv (v :: .ref a :: st) Z R I L post := by
  intro p e s m args below meth c0 mc ms E H locs cells slots ls a1 a2 hS hH hl
  obtain ⟨C, T, N, h1, h2, h3, h4, h5, h6, h7, h8, h9, h10, h11⟩ := hk
  obtain ⟨cell, q1, q2, q3, q4⟩ := hH.obj ha h6 h1 h7
  have hK := E.2.2.2.2.2.2.2.2.1
  have hap := va_apart (own := C) (Ts := TB) E.2.2.2.2.2.1 h3 (fty c) h8 h9 hK h1
  obtain ⟨hSl, hfc, kC, hkC, hkind⟩ := hK.1 c _ h1
  obtain ⟨cf, kf, fi, f, hi, hsl⟩ := hSl j h2
  have hst := (u_facts hfc hkC (u_lays (ws := TB) E.2.2.2.2.2.1 h3 h2) hi).1
  have hlay := E.2.2.2.2.2.1 _ (h3 _ (u_in_lay h2))
  unfold u_lay at hlay
  have fin' : ∀ H' : Heap, H'[ad G a]? = some (cell.setSlot f.slot (tr G v)) → H'.size = H.size → (∀ q, q ≠ ad G a → H'[q]? = H[q]?) → Hp G Z R' I' L' H' := by
    intro H' e1 e2 e3
    refine hH.updt ha.1 e2 ?_ e3 (fun k hk => ce_eq3 (hne k hk).1 (hne k hk).2.1 (hne k hk).2.2)
    rw [ha.2.2, ce_ob h6]
    rw [hsl] at e1
    have ht := t_set q4 hap h2 (tr G v)
    refine ⟨_, h1, _, e1, q2, q3, fun k hk => ?_⟩
    rw [ht k hk, vpV_range _ _ (h7 ▸ hk)]
    by_cases hkj : k = j
    · subst hkj
      simp [updV, hv]
    · simp [updV, hkj, hj k hkj]
  cases fin with
  | false =>
    rw [if_neg (by rw [h10]; decide)] at hlay
    have h12 := u_store hfc hkC hkind hlay hi (h8 j h2) hn hfit
    refine W.putK E.1 E.2.1 (f := f) ⟨E.2.2.2.2.1, E.2.2.2.2.2.1 _ h4, ⟨_, _, _, hi⟩, hst⟩ (by rw [q2]; exact h12) q1 q3 (by rw [hsl]; exact k2_hasslot (q4 j h2)) rfl rfl hd fun H' e1 e2 e3 => ?_
    exact k p e s m args below meth c0 mc ms E H' _ cells slots ls a1 a2 (hS.put e2 e3 (ad_A ha.1)) (fin' H' e1 e2 e3) hl
  | true =>
    rw [if_pos h10] at hlay
    have hcf : m.cls = cf := by
      obtain ⟨_, _, c', _, _, _, -, -, hf', -, -, -, hown2, -⟩ := Cond.laysFinal_spec hlay
      have e1 : c' = cf := by have := hi.symm.trans hf'; simp at this; exact this.1.symm
      rw [h11 rfl] at hown2
      rw [← e1]; exact Option.some.inj (E.2.2.2.2.1.symm.trans hown2)
    have h12 := u_fits hfc hkC hkind (Or.inr hlay) hi (h8 j h2) hn hfit
    refine W.putFinK E.1 E.2.1 E.2.2.2.2.1 (E.2.2.2.2.2.1 _ h4) hi hst hcf (E.2.2.2.2.2.2.2.1.trans (hin rfl)) (by rw [q2]; exact h12) q1 q3 (by rw [hsl]; exact k2_hasslot (q4 j h2)) rfl rfl hd fun H' e1 e2 e3 => ?_
    exact k p e s m args below meth c0 mc ms E H' _ cells slots ls a1 a2 (hS.put e2 e3 (ad_A ha.1)) (fin' H' e1 e2 e3) hl
theorem Sx.putfI {i a c j : Nat} {x : Int32} (hd : decode μ.2.1 pc = .ok (.putfield i, 3)) (hk : LkP μ.1.cls i c j 0 false) (ha : ob Z a c) (hn : narrow (fty c j) (.int x) = .int x) (hfit : fits (fty c j) (.int x) = true)
    (k : Sx G l μ d bc bs (pc + 3) lv st Z R (up2 I a j x) L post) : Sx G l μ d bc bs pc lv (.int x :: .ref a :: st) Z R I L post := by
  have h5 := hk.choose_spec.choose_spec.choose_spec.2.2.2.2.1
  refine Sx.putf hd hk (fun h => by cases h) ha hn hfit (v := .int x) (R' := R) (I' := up2 I a j x) (L' := L) ?_ ?_ ?_ k
  · rw [fv_i h5]; simp [up2, va_up, upd]
  · intro j' hj'
    unfold fv
    simp [up2, va_up, upd, hj']
  · intro q hq
    exact ⟨rfl, by simp [up2, va_up, hq], rfl⟩
theorem Sx.putfL {i a c j : Nat} {x : Int64} (hd : decode μ.2.1 pc = .ok (.putfield i, 3)) (hk : LkP μ.1.cls i c j 1 false) (ha : ob Z a c) (hn : narrow (fty c j) (.long x) = .long x) (hfit : fits (fty c j) (.long x) = true)
    (k : Sx G l μ d bc bs (pc + 3) lv st Z R I (up2L L a j x) post) : Sx G l μ d bc bs pc lv (.long x :: .ref a :: st) Z R I L post := by
  have h5 := hk.choose_spec.choose_spec.choose_spec.2.2.2.2.1
  refine Sx.putf hd hk (fun h => by cases h) ha hn hfit (v := .long x) (R' := R) (I' := I) (L' := up2L L a j x) ?_ ?_ ?_ k
  · rw [fv_l h5]; simp [up2L, va_up, vp_updL]
  · intro j' hj'
    unfold fv
    simp [up2L, va_up, vp_updL, hj']
  · intro q hq
    exact ⟨rfl, rfl, by simp [up2L, va_up, hq]⟩
theorem Sx.putfR {i a c j : Nat} {fin : Bool} {r : Option Nat} (hd : decode μ.2.1 pc = .ok (.putfield i, 3)) (hk : LkP μ.1.cls i c j 2 fin) (hin : fin = true → μ.1.name = "<init>") (ha : ob Z a c) (hn : narrow (fty c j) .null = .null) (hn2 : ∀ q, narrow (fty c j) (.ref q) = .ref q) (hfit : fits (fty c j) .null = true) (hfit2 : ∀ q, fits (fty c j) (.ref q) = true)
    (k : Sx G l μ d bc bs (pc + 3) lv st Z (up2R R a j r) I L post) : Sx G l μ d bc bs pc lv (rv r :: .ref a :: st) Z R I L post := by
  have h5 := hk.choose_spec.choose_spec.choose_spec.2.2.2.2.1
  refine Sx.putf hd hk hin ha ?_ ?_ (v := rv r) (R' := up2R R a j r) (I' := I) (L' := L) ?_ ?_ ?_ k
  · cases r with
    | none => exact hn
    | some q => exact hn2 _
  · cases r with
    | none => exact hfit
    | some q => exact hfit2 _
  · rw [fv_r h5]; simp [up2R, va_up]
  · intro j' hj'
    unfold fv
    simp [up2R, va_up, hj']
  · intro q hq
    exact ⟨by simp [up2R, va_up, hq], rfl, rfl⟩
/-! arrays -/
theorem tys_at {G : Gt} {t : Nat} (h1 : 50 ≤ t) (h2 : t < 58) : (tysG G)[t - 50]? = some (G.2.2.2 t, aty t) := by
  unfold tysG
  rw [List.getElem?_map, List.getElem?_range (by omega)]
  show some (G.2.2.2 (50 + (t - 50)), aty (50 + (t - 50))) = _
  rw [show 50 + (t - 50) = t by omega]
theorem Hp.arr {H : Heap} {a t n : Nat} (h : Hp G Z R I L H) (ha : ar Z a t n) (h1 : 50 ≤ t) (h2 : t < 54) : va_P G.2.2.1 cls [(ad G a, .inl (G.2.2.2 t, n, .inl (I a)))] H := by
  intro k q hq
  have h3 := h.2.2 a ha.1 ha.2.1 (by rw [ha.2.2]; show t ≠ 99; omega)
  rw [ha.2.2, ce_ar h1 h2] at h3
  cases k with
  | zero => cases hq; exact h3
  | succ k => cases hq
theorem Hp.arrL {H : Heap} {a n : Nat} (h : Hp G Z R I L H) (ha : ar Z a 54 n) : va_P G.2.2.1 cls [(ad G a, .inl (G.2.2.2 54, n, .inr (.inl (L a))))] H := by
  intro k q hq
  have h3 := h.2.2 a ha.1 ha.2.1 (by rw [ha.2.2]; show 54 ≠ 99; omega)
  rw [ha.2.2, ce_arL] at h3
  cases k with
  | zero => cases hq; exact h3
  | succ k => cases hq
theorem Hp.arrR {H : Heap} {a t n : Nat} (h : Hp G Z R I L H) (ha : ar Z a t n) (h1 : 55 ≤ t) (h2 : t < 58) : va_P G.2.2.1 cls [(ad G a, .inl (G.2.2.2 t, n, .inr (.inr (.inr (.inr fun j => (R a j).map (ad G))))))] H := by
  intro k q hq
  have h3 := h.2.2 a ha.1 ha.2.1 (by rw [ha.2.2]; show t ≠ 99; omega)
  rw [ha.2.2, ce_arR h1] at h3
  cases k with
  | zero => cases hq; exact h3
  | succ k => cases hq
theorem Sx.iald {a n : Nat} {i : Int32} (hd : decode μ.2.1 pc = .ok (.iaload, 1)) (ha : ar Z a 50 n) (hi : vp_in i n) (k : Sx G l μ d bc bs (pc + 1) lv (.int (I a i.toNatClampNeg) :: st) Z R I L post) : Sx G l μ d bc bs pc lv (.int i :: .ref a :: st) Z R I L post := by
  intro p e s m args below meth c0 mc ms E H locs cells slots ls a1 a2 hS hH hl
  exact va_iald E.1 E.2.1 E.2.2.2.2.2.2.2.2.1 (hH.arr ha (by decide) (by decide)) 0 0 rfl (tys_at (t := 50) (by decide) (by decide)) hi hd (k p e s m args below meth c0 mc ms E H locs cells slots ls a1 a2 hS hH hl)
theorem Sx.bald {a n : Nat} {i : Int32} (hd : decode μ.2.1 pc = .ok (.baload, 1)) (ha : ar Z a 51 n) (hi : vp_in i n) (k : Sx G l μ d bc bs (pc + 1) lv (.int (I a i.toNatClampNeg) :: st) Z R I L post) : Sx G l μ d bc bs pc lv (.int i :: .ref a :: st) Z R I L post := by
  intro p e s m args below meth c0 mc ms E H locs cells slots ls a1 a2 hS hH hl
  exact va_bald E.1 E.2.1 E.2.2.2.2.2.2.2.2.1 (hH.arr ha (by decide) (by decide)) 0 1 rfl (tys_at (t := 51) (by decide) (by decide)) hi hd (k p e s m args below meth c0 mc ms E H locs cells slots ls a1 a2 hS hH hl)
theorem Sx.zald {a n : Nat} {i : Int32} (hd : decode μ.2.1 pc = .ok (.baload, 1)) (ha : ar Z a 52 n) (hi : vp_in i n) (k : Sx G l μ d bc bs (pc + 1) lv (.int (I a i.toNatClampNeg) :: st) Z R I L post) : Sx G l μ d bc bs pc lv (.int i :: .ref a :: st) Z R I L post := by
  intro p e s m args below meth c0 mc ms E H locs cells slots ls a1 a2 hS hH hl
  exact va_zald E.1 E.2.1 E.2.2.2.2.2.2.2.2.1 (hH.arr ha (by decide) (by decide)) 0 2 rfl (tys_at (t := 52) (by decide) (by decide)) hi hd (k p e s m args below meth c0 mc ms E H locs cells slots ls a1 a2 hS hH hl)
theorem Sx.lald {a n : Nat} {i : Int32} (hd : decode μ.2.1 pc = .ok (.laload, 1)) (ha : ar Z a 54 n) (hi : vp_in i n) (k : Sx G l μ d bc bs (pc + 1) lv (.long (L a i.toNatClampNeg) :: st) Z R I L post) : Sx G l μ d bc bs pc lv (.int i :: .ref a :: st) Z R I L post := by
  intro p e s m args below meth c0 mc ms E H locs cells slots ls a1 a2 hS hH hl
  exact va_lald E.1 E.2.1 E.2.2.2.2.2.2.2.2.1 (hH.arrL ha) 0 4 rfl (tys_at (t := 54) (by decide) (by decide)) hi hd (k p e s m args below meth c0 mc ms E H locs cells slots ls a1 a2 hS hH hl)
theorem aty_R {t : Nat} (h1 : 55 ≤ t) : ∃ C, aty t = .object C := by
  unfold aty
  rw [if_neg (by omega), if_neg (by omega), if_neg (by omega), if_neg (by omega), if_neg (by omega)]
  split
  · exact ⟨_, rfl⟩
  · split
    · exact ⟨_, rfl⟩
    · exact ⟨_, rfl⟩
theorem Sx.aald {a t n q : Nat} {i : Int32} (hd : decode μ.2.1 pc = .ok (.aaload, 1)) (ha : ar Z a t n) (h1 : 55 ≤ t) (h2 : t < 58) (hi : vp_in i n) (hr : R a i.toNatClampNeg = some q) (k : Sx G l μ d bc bs (pc + 1) lv (.ref q :: st) Z R I L post) : Sx G l μ d bc bs pc lv (.int i :: .ref a :: st) Z R I L post := by
  intro p e s m args below meth c0 mc ms E H locs cells slots ls a1 a2 hS hH hl
  obtain ⟨C, hC⟩ := aty_R h1
  have ht := tys_at (G := G) (t := t) (by omega) h2
  rw [hC] at ht
  refine va_aldq E.1 E.2.1 E.2.2.2.2.2.2.2.2.1 (hH.arrR ha h1 h2) 0 (t - 50) rfl ht hi hd ?_
  rw [hr]
  exact k p e s m args below meth c0 mc ms E H locs cells slots ls a1 a2 hS hH hl
theorem Sx.alen {a t n : Nat} {v : Int32} (hd : decode μ.2.1 pc = .ok (.arraylength, 1)) (ha : ar Z a t n) (h1 : 50 ≤ t) (h2 : t < 58) (hv : Int32.ofNat n = v) (k : Sx G l μ d bc bs (pc + 1) lv (.int v :: st) Z R I L post) : Sx G l μ d bc bs pc lv (.ref a :: st) Z R I L post := by
  intro p e s m args below meth c0 mc ms E H locs cells slots ls a1 a2 hS hH hl
  have ht := tys_at (G := G) (t := t) h1 h2
  have kk := k p e s m args below meth c0 mc ms E H locs cells slots ls a1 a2 hS hH hl
  by_cases h3 : t < 54
  · exact va_alen E.1 E.2.1 E.2.2.2.2.2.2.2.2.1 (hH.arr ha h1 h3) 0 (t - 50) rfl ht hv hd kk
  · by_cases h4 : t = 54
    · subst h4
      exact va_alen E.1 E.2.1 E.2.2.2.2.2.2.2.2.1 (hH.arrL ha) 0 4 rfl ht hv hd kk
    · exact va_alen E.1 E.2.1 E.2.2.2.2.2.2.2.2.1 (hH.arrR ha (by omega) h2) 0 (t - 50) rfl ht hv hd kk
/-- a store into an array of ints, bytes, booleans -/
theorem Hp.sti {H H1 : Heap} {a t n j : Nat} {x : Int32} (h : Hp G Z R I L H) (ha : ar Z a t n) (h1 : 50 ≤ t) (h2 : t < 54) (e : H1[ad G a]? = some ((vp_cell (G.2.2.2 t) (n, .inl (I a))).setSlot j (.int x))) (z : H1.size = H.size) (oq : ∀ q, q ≠ ad G a → H1[q]? = H[q]?) : Hp G Z R (up2 I a j x) L H1 := by
  refine h.updt ha.1 z ?_ oq (fun k hk => ce_eqI (by simp [up2, va_up, hk]))
  rw [ha.2.2, ce_ar h1 h2]
  show H1[ad G a]? = some (vp_cell _ _)
  rw [e, vp_cell_i, vp_cell_i, arrV_store]
  congr 2
  funext q
  by_cases hq : q = j
  · subst hq
    simp [updV, upd, up2, va_up]
  · simp [updV, upd, up2, va_up, hq]
theorem Sx.iast {a n : Nat} {i x : Int32} (hd : decode μ.2.1 pc = .ok (.iastore, 1)) (ha : ar Z a 50 n) (hi : vp_in i n) (k : Sx G l μ d bc bs (pc + 1) lv st Z R (up2 I a i.toNatClampNeg x) L post) : Sx G l μ d bc bs pc lv (.int x :: .int i :: .ref a :: st) Z R I L post := by
  intro p e s m args below meth c0 mc ms E H locs cells slots ls a1 a2 hS hH hl
  have hc := hH.arr ha (by decide) (by decide) 0 _ rfl
  exact W.iast E.1 E.2.1 (hc : H[ad G a]? = some _) ((E.2.2.2.2.2.2.2.2.1.2 0 _ (tys_at (t := 50) (by decide) (by decide))).1 n (fun j => .int (I a j))) (fun q => by cases q) (by show ¬ (i < 0 ∨ (arrV _ _ _).slots.size ≤ _); rw [arrV_size]; exact hi) rfl rfl hd fun H1 e1 z oq =>
    k p e s m args below meth c0 mc ms E H1 _ cells slots ls a1 a2 (hS.put z oq (ad_A ha.1)) (hH.sti ha (by decide) (by decide) e1 z oq) hl
theorem Sx.bast {a n : Nat} {i x : Int32} (hd : decode μ.2.1 pc = .ok (.bastore, 1)) (ha : ar Z a 51 n) (hi : vp_in i n) (k : Sx G l μ d bc bs (pc + 1) lv st Z R (up2 I a i.toNatClampNeg x.toInt8.toInt32) L post) : Sx G l μ d bc bs pc lv (.int x :: .int i :: .ref a :: st) Z R I L post := by
  intro p e s m args below meth c0 mc ms E H locs cells slots ls a1 a2 hS hH hl
  have hc := hH.arr ha (by decide) (by decide) 0 _ rfl
  exact W.bast E.1 E.2.1 (hc : H[ad G a]? = some _) ((E.2.2.2.2.2.2.2.2.1.2 1 _ (tys_at (t := 51) (by decide) (by decide))).1 n (fun j => .int (I a j))) (fun q => by cases q) (by show ¬ (i < 0 ∨ (arrV _ _ _).slots.size ≤ _); rw [arrV_size]; exact hi) rfl rfl hd fun H1 e1 z oq =>
    k p e s m args below meth c0 mc ms E H1 _ cells slots ls a1 a2 (hS.put z oq (ad_A ha.1)) (hH.sti ha (by decide) (by decide) e1 z oq) hl
theorem Sx.zast {a n : Nat} {i x : Int32} (hd : decode μ.2.1 pc = .ok (.bastore, 1)) (ha : ar Z a 52 n) (hi : vp_in i n) (k : Sx G l μ d bc bs (pc + 1) lv st Z R (up2 I a i.toNatClampNeg (vp_nar .boolean x)) L post) : Sx G l μ d bc bs pc lv (.int x :: .int i :: .ref a :: st) Z R I L post := by
  intro p e s m args below meth c0 mc ms E H locs cells slots ls a1 a2 hS hH hl
  have hc := hH.arr ha (by decide) (by decide) 0 _ rfl
  exact W.zast E.1 E.2.1 (hc : H[ad G a]? = some _) ((E.2.2.2.2.2.2.2.2.1.2 2 _ (tys_at (t := 52) (by decide) (by decide))).1 n (fun j => .int (I a j))) (fun q => by cases q) (by show ¬ (i < 0 ∨ (arrV _ _ _).slots.size ≤ _); rw [arrV_size]; exact hi) rfl rfl hd fun H1 e1 z oq =>
    k p e s m args below meth c0 mc ms E H1 _ cells slots ls a1 a2 (hS.put z oq (ad_A ha.1)) (hH.sti ha (by decide) (by decide) e1 z oq) hl
theorem Sx.last {a n : Nat} {i : Int32} {x : Int64} (hd : decode μ.2.1 pc = .ok (.lastore, 1)) (ha : ar Z a 54 n) (hi : vp_in i n) (k : Sx G l μ d bc bs (pc + 1) lv st Z R I (up2L L a i.toNatClampNeg x) post) : Sx G l μ d bc bs pc lv (.long x :: .int i :: .ref a :: st) Z R I L post := by
  intro p e s m args below meth c0 mc ms E H locs cells slots ls a1 a2 hS hH hl
  have hc := hH.arrL ha 0 _ rfl
  refine W.last E.1 E.2.1 (hc : H[ad G a]? = some _) ((E.2.2.2.2.2.2.2.2.1.2 4 _ (tys_at (t := 54) (by decide) (by decide))).1 n (fun j => .long (L a j))) (fun q => by cases q) (by show ¬ (i < 0 ∨ (arrV _ _ _).slots.size ≤ _); rw [arrV_size]; exact hi) rfl rfl hd fun H1 e1 z oq => ?_
  refine k p e s m args below meth c0 mc ms E H1 _ cells slots ls a1 a2 (hS.put z oq (ad_A ha.1)) (hH.updt ha.1 z ?_ oq (fun k hk => ce_eqL (by simp [up2L, va_up, hk]))) hl
  rw [ha.2.2, ce_arL]
  show H1[ad G a]? = some (vp_cell _ _)
  rw [e1, vp_cell_l, vp_cell_l, arrV_store]
  congr 2
  funext q
  by_cases hq : q = i.toNatClampNeg
  · subst hq
    simp [updV, vp_updL, up2L, va_up]
  · simp [updV, vp_updL, up2L, va_up, hq]
end MEM
