/-! the abstract state, and what the reference holds of it. V: 0 scalars (0 tape's length, 1 laws, 2 the law that holds and 1, 3 calendars, 4 acts, 5 pictured, 6 whim, 7 sights), 1 tape, 2 the seaport told, 3 now, 4 refusals, 5 picture, 6 7 8 sights, 10 .. 13 laws (240: how long), 20 .. 23 calendars (cells and 1; 60: steps), 30 .. 69 kept states, the latest first -/
abbrev Vt : Type := Nat → Nat → Nat
def lawE (T : Nat → Nat) (n : Nat) (e : Nat → Int) : Int := (plw T n e 4000 (n + 1) 0 none).2.2.getD 0
def envN (d e f u y r : Nat) : Nat → Int := fun s => if s = 105 then d else if s = 100 then e else if s = 102 then f else if s = 117 then u else if s = 121 then y else if s = 114 then r else 0
def lawG (row : Nat → Nat) (d e f u y r : Nat) : Int := lawE row (row 240) (envN d e f u y r)
def wlV (V : Vt) : Wt := if V 0 2 = 0 then none else some (lawG (V (10 + (V 0 2 - 1))))
def MW (f : Nat → Int32) (F : Nat → Nat) : Prop :=
  (∀ p, p < 18 → f p = nI (F p)) ∧ f 18 = nI (F 138) ∧ f 19 = nI (F 139) ∧ f 20 = nI (F 140) ∧ f 21 = nI (F 141) ∧ f 22 = nI (F 142) ∧ f 23 = iI ((F 143 : Int) - 1) ∧ f 24 = nI (F 144) ∧ f 25 = nI (F 145) ∧ (∀ d, d < 30 → f (26 + d) = nI (F (18 + d))) ∧ ∀ d k, d < 30 → k < 6 → f (56 + 6 * d + k) = nI (doN (F (48 + d)) k 6)
def LGm (f : Nat → Int32) (F : Nat → Nat) : Prop := f 236 = nI (min 60 (F 144)) ∧ ∀ i w, i < min 60 (F 144) → w < 3 → f (237 + 3 * (min 60 (F 144) - 1 - i) + w) = lgd F i (nI w)
def MN (f : Nat → Int32) (F : Nat → Nat) : Prop := MW f F ∧ LGm f F
def MFd (V : Vt) (f : Nat → Int32) : Prop := f 6 = nI (V 0 0) ∧ f 7 = nI (V 0 1) ∧ f 26 = nI (V 2 34) ∧ f 27 = nI (V 2 35) ∧ f 30 = nI (V 0 3) ∧ f 35 = iI ((V 0 2 : Int) - 1) ∧ f 36 = nI (V 0 6) ∧ f 41 = nI (V 0 4) ∧ f 45 = nI (V 0 7) ∧ f 51 = nI (V 0 5)
def MTp (V : Vt) (f : Nat → Int32) : Prop := ∀ j, j < V 0 0 → f j = by8 (V 1 j)
def MLw (V : Vt) (f g : Nat → Int32) : Prop := ∀ i, i < V 0 1 → g i = nI (V (10 + i) 240) ∧ ∀ j, j < V (10 + i) 240 → f (240 * i + j) = by8 (V (10 + i) j)
def MPt (P : Nat → Nat) (f g h : Nat → Int32) : Prop := (∀ z, z < 3 → f z = nI (P z)) ∧ (∀ k w, k < P 34 → w < 2 → g (2 * k + w) = nI (P (3 + 6 * w + k))) ∧ ∀ p w, p < P 35 → w < 3 → h (3 * p + w) = nI (P (15 + 6 * w + p))
def MCl (V : Vt) (f g : Nat → Int32) : Prop := ∀ i, i < V 0 3 → g i = nI (V (20 + i) 60) ∧ ∀ z, z < 3 * V (20 + i) 60 → f (60 * i + z) = iI ((V (20 + i) z : Int) - 1)
def MSt (S : Nat → Nat) (f : Nat → Int32) : Prop := ∀ k, k < 5 → f k = nI (S k)
def MHi (V : Vt) (f : Nat → Int32) : Prop := ∀ i, i < V 0 4 → MN (fun k => f (417 * (V 0 4 - 1 - i) + k)) (V (30 + i))
def MSi (V : Vt) (f : Nat → Int32) : Prop := ∀ i, i < V 0 7 → f (3 * i) = nI (V 6 i) ∧ f (3 * i + 1) = nI (V 7 i) ∧ f (3 * i + 2) = nI (V 8 i)
def MIm (V : Vt) (f : Nat → Int32) : Prop := V 0 5 = 1 → MN f (V 5)
def ltr (s : Nat) : Prop := s = 105 ∨ s = 100 ∨ s = 102 ∨ s = 117 ∨ s = 121 ∨ s = 114
def MLt (f : Nat → Int32) : Prop := ∀ s, s < 128 → (¬ ltr s → f s = nI 0) ∧ ∃ z, z ≤ 1000 ∧ f s = nI z
def keyN (li d e f u y r : Nat) : Nat := 7 * (100 * (7 * (10 * (31 * (30 * (1 + li) + d) + e) + f) + u) + y) + r
def MEm (V : Vt) (k : Nat → Int64) (f : Nat → Int32) : Prop := ∀ s, s < 8191 → k s = 0 ∨ ∃ li d e g u y r, li < V 0 1 ∧ d < 30 ∧ e < 31 ∧ g < 10 ∧ u < 7 ∧ y < 100 ∧ r < 7 ∧ VL (k s) (keyN li d e g u y r : Int) ∧ f s = iI (lawG (V (10 + li)) d e g u y r)
/-- all but the row of now -/
def MI0 (V : Vt) (I : It) (L : Lt) : Prop := MFd V (I 253) ∧ MTp V (I 254) ∧ MLw V (I 255) (I 256) ∧ MPt (V 2) (I 258) (I 260) (I 262) ∧ MCl V (I 264) (I 265) ∧ MSt (V 4) (I 268) ∧ MHi V (I 271) ∧ MSi V (I 273) ∧ MIm V (I 278) ∧ MLt (I 257) ∧ MEm V (L 269) (I 270)
def MI (V : Vt) (I : It) (L : Lt) : Prop := MI0 V I L ∧ MN (I 266) (V 3)
/-- a law's text that is one -/
def LOK (T : Nat → Nat) (n : Nat) : Prop := n ≤ 240 ∧ (∀ j, j < n → 0 < T j ∧ T j < 256) ∧ ∀ e, (plw T n e 4000 (n + 1) 0 none).1 = true
/-- bounds of a seaport and a state of it -/
def SG (P F : Nat → Nat) : Prop := SB P F ∧ F 144 ≤ 999 ∧ (∀ p, P 35 ≤ p → p < 6 → F p = 0) ∧ ∀ k, P 34 ≤ k → k < 6 → F (12 + k) = 0
def F00 (j : Nat) : Nat := if j = 143 then 1 else 0
/-- bounds of all, behind N calls -/
def GV (N : Nat) (V : Vt) : Prop := (V 0 0 ≤ 240 ∧ ∀ j, j < V 0 0 → 0 < V 1 j ∧ V 1 j < 256) ∧ (V 0 1 ≤ 4 ∧ V 0 2 ≤ V 0 1 ∧ ∀ i, i < V 0 1 → LOK (V (10 + i)) (V (10 + i) 240)) ∧
  (V 0 3 ≤ 4 ∧ ∀ i, i < V 0 3 → V (20 + i) 60 ≤ 20 ∧ ∀ z, z < 60 → V (20 + i) z ≤ 10) ∧ (V 0 4 ≤ 40 ∧ V 0 5 ≤ 1 ∧ V 0 6 ≤ 9 ∧ V 0 7 ≤ 10) ∧ (∀ k, k < 5 → V 4 k ≤ N) ∧ (∀ i, i < V 0 7 → 1 ≤ V 6 i ∧ V 6 i ≤ 60 ∧ V 7 i ≤ 999 ∧ V 8 i ≤ 1) ∧
  ((V 2 35 = 0 ∧ (∀ z, V 2 z = 0) ∧ (∀ z, z < 146 → V 3 z = F00 z) ∧ V 0 4 = 0 ∧ V 0 5 = 0 ∧ V 0 7 = 0) ∨ (PB (V 2) ∧ SG (V 2) (V 3) ∧ (∀ i, i < V 0 4 → SG (V 2) (V (30 + i))) ∧ (V 0 5 = 1 → SG (V 2) (V 5))))
/-! the frame of what only works out lights -/
def FL (R : Rt) (I : It) (L : Lt) (R' : Rt) (I' : It) (L' : Lt) : Prop := (∀ q, q ≠ 253 ∧ q ≠ 257 ∧ q ≠ 270 → I' q = I q) ∧ (∀ j, gfJ j → I' 253 j = I 253 j) ∧ (∀ q, q ≠ 269 → L' q = L q) ∧ ∀ a j, ¬ (a = 253 ∧ j = 5) → R' a j = R a j
theorem FL.rf (R : Rt) (I : It) (L : Lt) : FL R I L R I L := ⟨fun _ _ => rfl, fun _ _ => rfl, fun _ _ => rfl, fun _ _ _ => rfl⟩
theorem FL.tr {R R1 R2 : Rt} {I I1 I2 : It} {L L1 L2 : Lt} (h : FL R I L R1 I1 L1) (g : FL R1 I1 L1 R2 I2 L2) : FL R I L R2 I2 L2 := ⟨fun q hq => (g.1 q hq).trans (h.1 q hq), fun j hj => (g.2.1 j hj).trans (h.2.1 j hj), fun q hq => (g.2.2.1 q hq).trans (h.2.2.1 q hq), fun a j hj => (g.2.2.2 a j hj).trans (h.2.2.2 a j hj)⟩
theorem WF.fr {Z : Zt} {R R' : Rt} (h : WF Z R) (g : ∀ a j, ¬ (a = 253 ∧ j = 5) → R' a j = R a j) : WF Z R' := by
  refine ⟨h.1, h.2.1, fun i q hq => ?_⟩
  have hd : ∀ q ∈ RFl, ¬ (q.1 = 253 ∧ q.2.1 = 5) := by decide +kernel
  rw [g _ _ (hd q (List.mem_of_getElem? hq))]
  exact h.2.2 i q hq
theorem MFd.of {V : Vt} {f g : Nat → Int32} (h : MFd V f) (e : ∀ j, gfJ j → g j = f j) : MFd V g := by
  unfold MFd
  rw [e 6 (by unfold gfJ; omega), e 7 (by unfold gfJ; omega), e 26 (by unfold gfJ; omega), e 27 (by unfold gfJ; omega), e 30 (by unfold gfJ; omega), e 35 (by unfold gfJ; omega), e 36 (by unfold gfJ; omega), e 41 (by unfold gfJ; omega), e 45 (by unfold gfJ; omega), e 51 (by unfold gfJ; omega)]
  exact h
theorem MI0.fl {V : Vt} {R R' : Rt} {I I' : It} {L L' : Lt} (h : MI0 V I L) (F : FL R I L R' I' L') (h1 : MLt (I' 257)) (h2 : MEm V (L' 269) (I' 270)) : MI0 V I' L' := by
  obtain ⟨a1, a2, a3, a4, a5, a6, a7, a8, a9, a10, a11⟩ := h
  refine ⟨a1.of F.2.1, ?_, ?_, ?_, ?_, ?_, ?_, ?_, ?_, h1, h2⟩
  · rw [F.1 254 (by decide)]; exact a2
  · rw [F.1 255 (by decide), F.1 256 (by decide)]; exact a3
  · rw [F.1 258 (by decide), F.1 260 (by decide), F.1 262 (by decide)]; exact a4
  · rw [F.1 264 (by decide), F.1 265 (by decide)]; exact a5
  · rw [F.1 268 (by decide)]; exact a6
  · rw [F.1 271 (by decide)]; exact a7
  · rw [F.1 273 (by decide)]; exact a8
  · rw [F.1 278 (by decide)]; exact a9
theorem FS.fd {V : Vt} {I I' : It} (h : MFd V (I 253)) (F : FS I I') : MFd V (I' 253) := by
  unfold MFd
  rw [F.2.2.2 6 (by unfold fsJ; omega), F.2.2.2 7 (by unfold fsJ; omega), F.2.2.2 26 (by unfold fsJ; omega), F.2.2.2 27 (by unfold fsJ; omega), F.2.2.2 30 (by unfold fsJ; omega), F.2.2.2 35 (by unfold fsJ; omega), F.2.2.2 36 (by unfold fsJ; omega), F.2.2.2 41 (by unfold fsJ; omega), F.2.2.2 45 (by unfold fsJ; omega), F.2.2.2 51 (by unfold fsJ; omega)]
  exact h
theorem MCl.of {V : Vt} {f g f' g' : Nat → Int32} (h : MCl V f g) (hv : V 0 3 ≤ 4 ∧ ∀ i, i < V 0 3 → V (20 + i) 60 ≤ 20 ∧ ∀ z, z < 60 → V (20 + i) z ≤ 10) (e1 : ∀ z, z < 240 → f' z = f z) (e2 : ∀ z, z < 4 → g' z = g z) : MCl V f' g' := by
  intro i hi
  have h1 := hv.2 i hi
  exact ⟨by rw [e2 i (by omega)]; exact (h i hi).1, fun z hz => by rw [e1 _ (by omega)]; exact (h i hi).2 z hz⟩
theorem MI0.fs {V : Vt} {I I' : It} {L : Lt} (h : MI0 V I L) (hv : V 0 3 ≤ 4 ∧ ∀ i, i < V 0 3 → V (20 + i) 60 ≤ 20 ∧ ∀ z, z < 60 → V (20 + i) z ≤ 10) (F : FS I I') : MI0 V I' L := by
  obtain ⟨a1, a2, a3, a4, a5, a6, a7, a8, a9, a10, a11⟩ := h
  refine ⟨FS.fd a1 F, ?_, ?_, ?_, a5.of hv F.2.1 F.2.2.1, ?_, ?_, ?_, ?_, ?_, ?_⟩
  · rw [F.1 254 (by decide)]; exact a2
  · rw [F.1 255 (by decide), F.1 256 (by decide)]; exact a3
  · rw [F.1 258 (by decide), F.1 260 (by decide), F.1 262 (by decide)]; exact a4
  · rw [F.1 268 (by decide)]; exact a6
  · rw [F.1 271 (by decide)]; exact a7
  · rw [F.1 273 (by decide)]; exact a8
  · rw [F.1 278 (by decide)]; exact a9
  · rw [F.1 257 (by decide)]; exact a10
  · rw [F.1 270 (by decide)]; exact a11
theorem MI.fs {V : Vt} {I I' : It} {L : Lt} (h : MI V I L) (hv : V 0 3 ≤ 4 ∧ ∀ i, i < V 0 3 → V (20 + i) 60 ≤ 20 ∧ ∀ z, z < 60 → V (20 + i) z ≤ 10) (F : FS I I') : MI V I' L := ⟨h.1.fs hv F, by rw [F.1 266 (by decide)]; exact h.2⟩
theorem MI0.fd {V : Vt} {I : It} {L : Lt} (h : MI0 V I L) : MFd V (I 253) := h.1
/-- rows that nobody owns -/
def scr (q : Nat) : Prop := q = 259 ∨ q = 261 ∨ q = 263 ∨ q = 267 ∨ q = 272 ∨ q = 274 ∨ q = 275 ∨ q = 276 ∨ q = 277 ∨ q < 253 ∨ 278 < q
theorem MI0.sc {V : Vt} {I I' : It} {L : Lt} {a : Nat} (h : MI0 V I L) (ha : scr a ∨ a = 266) (o : ∀ q, q ≠ a → I' q = I q) : MI0 V I' L := by
  have e : ∀ q, 253 ≤ q → q ≤ 278 → ¬ (q = 259 ∨ q = 261 ∨ q = 263 ∨ q = 266 ∨ q = 267 ∨ q = 272 ∨ q = 274 ∨ q = 275 ∨ q = 276 ∨ q = 277) → I' q = I q := fun q h1 h2 h3 => o q (by unfold scr at ha; omega)
  unfold MI0
  rw [e 253 (by decide) (by decide) (by decide), e 254 (by decide) (by decide) (by decide), e 255 (by decide) (by decide) (by decide), e 256 (by decide) (by decide) (by decide), e 257 (by decide) (by decide) (by decide), e 258 (by decide) (by decide) (by decide), e 260 (by decide) (by decide) (by decide), e 262 (by decide) (by decide) (by decide), e 264 (by decide) (by decide) (by decide), e 265 (by decide) (by decide) (by decide), e 268 (by decide) (by decide) (by decide), e 270 (by decide) (by decide) (by decide), e 271 (by decide) (by decide) (by decide), e 273 (by decide) (by decide) (by decide), e 278 (by decide) (by decide) (by decide)]
  exact h
theorem MI.sc {V : Vt} {I I' : It} {L : Lt} {a : Nat} (h : MI V I L) (ha : scr a) (o : ∀ q, q ≠ a → I' q = I q) : MI V I' L := ⟨h.1.sc (Or.inl ha) o, by rw [o 266 (by unfold scr at ha; omega)]; exact h.2⟩
/-- a field that nobody owns -/
def sfJ (j : Nat) : Prop := ¬ (j = 6 ∨ j = 7 ∨ j = 26 ∨ j = 27 ∨ j = 30 ∨ j = 35 ∨ j = 36 ∨ j = 41 ∨ j = 45 ∨ j = 51)
theorem MI0.sf {V : Vt} {I I' : It} {L : Lt} {j : Nat} {x : Int32} (h : MI0 V I L) (hj : sfJ j) (e : I' 253 = upd (I 253) j x) (o : ∀ q, q ≠ 253 → I' q = I q) : MI0 V I' L := by
  obtain ⟨a1, a2⟩ := h
  refine ⟨?_, ?_⟩
  · unfold sfJ at hj
    unfold MFd
    rw [e, upd_nj _ _ (by omega), upd_nj _ _ (by omega), upd_nj _ _ (by omega), upd_nj _ _ (by omega), upd_nj _ _ (by omega), upd_nj _ _ (by omega), upd_nj _ _ (by omega), upd_nj _ _ (by omega), upd_nj _ _ (by omega), upd_nj _ _ (by omega)]
    exact a1
  · rw [o 254 (by decide), o 255 (by decide), o 256 (by decide), o 257 (by decide), o 258 (by decide), o 260 (by decide), o 262 (by decide), o 264 (by decide), o 265 (by decide), o 268 (by decide), o 270 (by decide), o 271 (by decide), o 273 (by decide), o 278 (by decide)]
    exact a2
theorem MI.sf {V : Vt} {I I' : It} {L : Lt} {j : Nat} {x : Int32} (h : MI V I L) (hj : sfJ j) (e : I' 253 = upd (I 253) j x) (o : ∀ q, q ≠ 253 → I' q = I q) : MI V I' L := ⟨h.1.sf hj e o, by rw [o 266 (by decide)]; exact h.2⟩
