/-! memory that is being built: from the cell b on n cells, as they will be; what refers to what (Ls); all ints 0 but those of x -/
def shF (k : Nat) : Nat × Nat := SHl.getD (k - 100) (0, 0)
def lkR : List (Nat × Nat × Nat) → Nat → Nat → Option Nat
  | [], _, _ => none
  | t :: r, a, j => if t.1 = a ∧ t.2.1 = j then some t.2.2 else lkR r a j
theorem lkR_none {Ls : List (Nat × Nat × Nat)} {n : Nat} (h : ∀ t, t ∈ Ls → t.1 < n) (j : Nat) : lkR Ls n j = none := by
  induction Ls with
  | nil => rfl
  | cons t r ih =>
    unfold lkR
    rw [if_neg (fun q => by have := h t List.mem_cons_self; omega)]
    exact ih (fun t ht => h t (List.mem_cons_of_mem _ ht))
abbrev Fr (b : Nat) (Z0 : Zt) (R0 : Rt) (I0 : It) (L0 : Lt) (Z : Zt) (R : Rt) (I : It) (L : Lt) : Prop := ∀ k, k < b → Z.2 k = Z0.2 k ∧ R k = R0 k ∧ I k = I0 k ∧ L k = L0 k
def Bd (b x n : Nat) (Ls : List (Nat × Nat × Nat)) (ι : Nat → Int32) (Z0 : Zt) (R0 : Rt) (I0 : It) (L0 : Lt) (Z : Zt) (R : Rt) (I : It) (L : Lt) : Prop :=
  Z.1 = n ∧ 100 ≤ b ∧ b ≤ n ∧ (∀ k, b ≤ k → k < n → Z.2 k = shF k ∧ (∀ j, R k j = lkR Ls k j) ∧ (∀ j, I k j = if k = x then ι j else 0) ∧ ∀ j, L k j = 0) ∧ Fr b Z0 R0 I0 L0 Z R I L ∧ ∀ t, t ∈ Ls → t.1 < n
section BD
variable {G : Gt} {l : Launch} {μ : Mi} {d bc bs pc : Nat} {lv : List (Nat × Value)} {st : List Value} {post : Pt'}
variable {b x n : Nat} {Ls : List (Nat × Nat × Nat)} {ι : Nat → Int32} {Z0 Z : Zt} {R0 R : Rt} {I0 I : It} {L0 L : Lt}
theorem Bd.ob (B : Bd b x n Ls ι Z0 R0 I0 L0 Z R I L) {a c : Nat} (h1 : b ≤ a) (h2 : a < n) (hs : shF a = (c, 0)) : _root_.Jvm.Pilot.CDarkestDayLaw_law_r7624_902408.ob Z a c :=
  ⟨Nat.le_trans B.2.1 h1, by rw [B.1]; exact h2, by rw [(B.2.2.2.1 a h1 h2).1, hs]⟩
theorem Bd.mk (B : Bd b x n Ls ι Z0 R0 I0 L0 Z R I L) {t N : Nat} (hs : shF n = (t, N)) (hx : n ≠ x ∨ ∀ j, ι j = 0) : Bd b x (n + 1) Ls ι Z0 R0 I0 L0 (mkZ Z t N) (mkR Z R) (mkI Z I) (mkL Z L) := by
  obtain ⟨h1, h2, h3, h4, h5, h6⟩ := B
  refine ⟨by show Z.1 + 1 = n + 1; rw [h1], h2, Nat.le_succ_of_le h3, fun k k1 k2 => ?_, fun k hk => ?_, fun t ht => Nat.lt_succ_of_lt (h6 t ht)⟩
  · by_cases q : k = n
    · subst q
      unfold mkZ mkR mkI mkL
      rw [h1]
      refine ⟨by rw [hs]; exact mu_eq _ _ _, fun j => ?_, fun j => ?_, fun j => ?_⟩
      · rw [mu_eq, lkR_none h6]
      · rw [mu_eq]
        split
        · next q =>
          rcases hx with w | w
          · exact absurd q w
          · exact (w j).symm
        · rfl
      · rw [mu_eq]
    · have := h4 k k1 (by omega)
      unfold mkZ mkR mkI mkL
      rw [h1]
      refine ⟨(mu_ne _ _ q).trans this.1, fun j => ?_, fun j => ?_, fun j => ?_⟩
      · rw [mu_ne _ _ q]; exact this.2.1 j
      · rw [mu_ne _ _ q]; exact this.2.2.1 j
      · rw [mu_ne _ _ q]; exact this.2.2.2 j
  · have := h5 k hk
    have q : k ≠ n := by omega
    unfold mkZ mkR mkI mkL
    rw [h1]
    exact ⟨(mu_ne _ _ q).trans this.1, (mu_ne _ _ q).trans this.2.1, (mu_ne _ _ q).trans this.2.2.1, (mu_ne _ _ q).trans this.2.2.2⟩
theorem Bd.rf (B : Bd b x n Ls ι Z0 R0 I0 L0 Z R I L) {a j t : Nat} (h1 : b ≤ a) (h2 : a < n) : Bd b x n ((a, j, t) :: Ls) ι Z0 R0 I0 L0 Z (up2R R a j (some t)) I L := by
  obtain ⟨q1, q2, q3, h4, h5, h6⟩ := B
  refine ⟨q1, q2, q3, fun k k1 k2 => ⟨(h4 k k1 k2).1, fun i => ?_, (h4 k k1 k2).2.2⟩, fun k hk => ⟨(h5 k hk).1, ?_, (h5 k hk).2.2⟩, fun t ht => ?_⟩
  · have := (h4 k k1 k2).2.1 i
    unfold up2R lkR
    by_cases c : a = k
    · subst c
      rw [mu_eq]
      by_cases e : j = i
      · subst e; rw [mu_eq, if_pos ⟨rfl, rfl⟩]
      · rw [mu_ne _ _ (Ne.symm e), if_neg (fun z => e z.2)]; exact this
    · rw [mu_ne _ _ (Ne.symm c), if_neg (fun z => c z.1)]; exact this
  · unfold up2R
    rw [mu_ne _ _ (by omega)]; exact (h5 k hk).2.1
  · rcases List.mem_cons.mp ht with rfl | q
    · exact h2
    · exact h6 t q
theorem Bd.rn (B : Bd b x n Ls ι Z0 R0 I0 L0 Z R I L) {a j : Nat} (h1 : b ≤ a) (h2 : a < n) (h : lkR Ls a j = none) : Bd b x n Ls ι Z0 R0 I0 L0 Z (up2R R a j none) I L := by
  obtain ⟨q1, q2, q3, h4, h5, h6⟩ := B
  refine ⟨q1, q2, q3, fun k k1 k2 => ⟨(h4 k k1 k2).1, fun i => ?_, (h4 k k1 k2).2.2⟩, fun k hk => ⟨(h5 k hk).1, ?_, (h5 k hk).2.2⟩, h6⟩
  · have := (h4 k k1 k2).2.1 i
    unfold up2R
    by_cases c : k = a
    · subst c
      rw [mu_eq]
      by_cases e : i = j
      · subst e; rw [mu_eq, h]
      · rw [mu_ne _ _ e]; exact this
    · rw [mu_ne _ _ c]; exact this
  · unfold up2R
    rw [mu_ne _ _ (by omega)]; exact (h5 k hk).2.1
theorem Bd.z0 (B : Bd b x n Ls ι Z0 R0 I0 L0 Z R I L) {a j : Nat} {v : Int32} (h1 : b ≤ a) (h2 : a < n) (hv : v = if a = x then ι j else 0) : Bd b x n Ls ι Z0 R0 I0 L0 Z R (up2 I a j v) L := by
  obtain ⟨q1, q2, q3, h4, h5, h6⟩ := B
  refine ⟨q1, q2, q3, fun k k1 k2 => ⟨(h4 k k1 k2).1, (h4 k k1 k2).2.1, fun i => ?_, (h4 k k1 k2).2.2.2⟩, fun k hk => ⟨(h5 k hk).1, (h5 k hk).2.1, ?_, (h5 k hk).2.2.2⟩, h6⟩
  · have := (h4 k k1 k2).2.2.1 i
    by_cases c : k = a
    · subst c
      by_cases e : i = j
      · subst e; rw [up2_at, hv]
      · rw [up2_nj _ _ _ _ e]; exact this
    · rw [up2_ne _ _ _ _ c]; exact this
  · rw [up2_ne _ _ _ _ (by omega)]; exact (h5 k hk).2.2.1
theorem Bd.zx (B : Bd b x n Ls ι Z0 R0 I0 L0 Z R I L) {j : Nat} {v : Int32} (h1 : b ≤ x) (h2 : x < n) : Bd b x n Ls (upd ι j v) Z0 R0 I0 L0 Z R (up2 I x j v) L := by
  obtain ⟨q1, q2, q3, h4, h5, h6⟩ := B
  refine ⟨q1, q2, q3, fun k k1 k2 => ⟨(h4 k k1 k2).1, (h4 k k1 k2).2.1, fun i => ?_, (h4 k k1 k2).2.2.2⟩, fun k hk => ⟨(h5 k hk).1, (h5 k hk).2.1, ?_, (h5 k hk).2.2.2⟩, h6⟩
  · have := (h4 k k1 k2).2.2.1 i
    by_cases c : k = x
    · subst c
      rw [if_pos rfl] at this ⊢
      by_cases e : i = j
      · subst e; rw [up2_at, upd_at]
      · rw [up2_nj _ _ _ _ e, upd_nj _ _ e]; exact this
    · rw [if_neg c] at this ⊢
      rw [up2_ne _ _ _ _ c]; exact this
  · rw [up2_ne _ _ _ _ (by omega)]; exact (h5 k hk).2.2.1
theorem Bd.l0 (B : Bd b x n Ls ι Z0 R0 I0 L0 Z R I L) {a j : Nat} {v : Int64} (h1 : b ≤ a) (h2 : a < n) (hv : v = 0) : Bd b x n Ls ι Z0 R0 I0 L0 Z R I (up2L L a j v) := by
  obtain ⟨q1, q2, q3, h4, h5, h6⟩ := B
  subst hv
  refine ⟨q1, q2, q3, fun k k1 k2 => ⟨(h4 k k1 k2).1, (h4 k k1 k2).2.1, (h4 k k1 k2).2.2.1, fun i => ?_⟩, fun k hk => ⟨(h5 k hk).1, (h5 k hk).2.1, (h5 k hk).2.2.1, ?_⟩, h6⟩
  · have := (h4 k k1 k2).2.2.2 i
    unfold up2L
    by_cases c : k = a
    · subst c
      rw [mu_eq]
      by_cases e : i = j
      · subst e; simp [vp_updL]
      · simp only [vp_updL]; rw [if_neg e]; exact this
    · rw [mu_ne _ _ c]; exact this
  · unfold up2L
    rw [mu_ne _ _ (by omega)]; exact (h5 k hk).2.2.2
theorem Bd.g (B : Bd b x n Ls ι Z0 R0 I0 L0 Z R I L) {a j t : Nat} (h1 : b ≤ a) (h2 : a < n) (h : lkR Ls a j = some t) : R a j = some t := ((B.2.2.2.1 a h1 h2).2.1 j).trans h
theorem Bs.new {i c : Nat} (B : Bd b x n Ls ι Z0 R0 I0 L0 Z R I L) (hd : decode μ.2.1 pc = .ok (.new i, 3)) (hk : LkN μ.1.cls i c) (hs : shF n = (c, 0)) (hx : n ≠ x ∨ ∀ j, ι j = 0) {bc' bs' : Nat} (hb : bc = bc' + 1) (hs2 : bs = bs' + fN c)
    (k : ∀ Z' R' I' L', Bd b x (n + 1) Ls ι Z0 R0 I0 L0 Z' R' I' L' → Sx G l μ d bc' bs' (pc + 3) lv (.ref n :: st) Z' R' I' L' post) : Sx G l μ d bc bs pc lv st Z R I L post := by
  have h1 := B.1
  refine Sx.new hd hk hb hs2 ?_
  rw [h1]
  have := k _ _ _ _ (B.mk hs hx)
  exact this
theorem Bs.newarr {t N : Nat} {ty : ArrayType} {v : Int32} (B : Bd b x n Ls ι Z0 R0 I0 L0 Z R I L) (hd : decode μ.2.1 pc = .ok (.newarray ty, 2)) (ht1 : 50 ≤ t) (ht2 : t < 55) (hty : newarray.typeOf ty = aty t) (hw : Cond.arrayClass (aty t) ∈ TB) (hv : v = nI N) (hN : N ≤ 60000000) (hs : shF n = (t, N)) (hx : n ≠ x ∨ ∀ j, ι j = 0) {bc' bs' : Nat} (hb : bc = bc' + 1) (hs2 : bs = bs' + N)
    (k : ∀ Z' R' I' L', Bd b x (n + 1) Ls ι Z0 R0 I0 L0 Z' R' I' L' → Sx G l μ d bc' bs' (pc + 2) lv (.ref n :: st) Z' R' I' L' post) : Sx G l μ d bc bs pc lv (.int v :: st) Z R I L post := by
  have h1 := B.1
  subst hv
  refine Sx.newarr hd ht1 ht2 hty hw (fun q => ?_) (nI_clamp (by omega)) hN hb hs2 ?_
  · have := (n_lt (a := N) (b := 0) (by omega) (by decide)).mp q
    omega
  · rw [h1]
    exact k _ _ _ _ (B.mk hs hx)
theorem Bs.anewarr {t N i : Nat} {C : String} {v : Int32} (B : Bd b x n Ls ι Z0 R0 I0 L0 Z R I L) (hd : decode μ.2.1 pc = .ok (.anewarray i, 3)) (ht1 : 55 ≤ t) (ht2 : t < 58) (hty : aty t = .object C) (hw : Cond.classLink μ.1.cls i C ∈ TB) (hw2 : Cond.arrayOver (.object C) ∈ lw_tbl) (hv : v = nI N) (hN : N ≤ 60000000) (hs : shF n = (t, N)) (hx : n ≠ x ∨ ∀ j, ι j = 0) {bc' bs' : Nat} (hb : bc = bc' + 1) (hs2 : bs = bs' + N)
    (k : ∀ Z' R' I' L', Bd b x (n + 1) Ls ι Z0 R0 I0 L0 Z' R' I' L' → Sx G l μ d bc' bs' (pc + 3) lv (.ref n :: st) Z' R' I' L' post) : Sx G l μ d bc bs pc lv (.int v :: st) Z R I L post := by
  have h1 := B.1
  subst hv
  refine Sx.anewarr hd ht1 ht2 hty hw hw2 (fun q => ?_) (nI_clamp (by omega)) hN hb hs2 ?_
  · have := (n_lt (a := N) (b := 0) (by omega) (by decide)).mp q
    omega
  · rw [h1]
    exact k _ _ _ _ (B.mk hs hx)
end BD
