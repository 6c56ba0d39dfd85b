/-! the reference: when all comes again -/
theorem itG_c {α : Type} (f : α → α) : ∀ (n : Nat) (a : α), itG f (n + 1) a = f (itG f n a)
  | 0, a => rfl
  | n + 1, a => by rw [itG_s, itG_c f n (f a), itG_s]
def yrs (V : Vt) (n : Nat) : Nat → Nat := itG (goY (V 2) (wlV V)) n (V 3)
theorem yrs_s (V : Vt) (n : Nat) : yrs V (n + 1) = goY (V 2) (wlV V) (yrs V n) := itG_c _ _ _
theorem yrs_ok {V : Vt} (hH : HV V) : ∀ n, n ≤ 60 → SB (V 2) (yrs V n) ∧ yrs V n 144 ≤ 999 + n
  | 0, _ => ⟨hH.2.2.2.2.1, hH.2.2.2.2.2.1⟩
  | n + 1, hn => by
    obtain ⟨h1, h2⟩ := yrs_ok hH n (by omega)
    obtain ⟨g1, g2, g3⟩ := goY_ok (w := wlV V) hH.2.2.2.1 h1 (by omega)
    rw [yrs_s]
    exact ⟨g1, by omega⟩
def pst (F : Nat → Nat) (k : Nat) : Nat := if k < 6 then F k else F (6 + k)
theorem pst_le {P F : Nat → Nat} (h : SB P F) {k : Nat} (hk : k < 12) : pst F k ≤ 6 := by
  unfold pst
  split
  · have := h.1 k (by omega); omega
  · have := h.2.2.1 (k - 6) (by omega); rw [show 12 + (k - 6) = 6 + k by omega] at this; exact this
def saJ (V : Vt) (m n j : Nat) : Bool := decide (∀ k, k < j → pst (yrs V m) k = pst (yrs V n) k)
theorem saJ_y {V : Vt} {m n j : Nat} (h : saJ V m n j = true) (g : pst (yrs V m) j = pst (yrs V n) j) : saJ V m n (j + 1) = true := decide_eq_true (fun k hk => by
  by_cases q : k = j
  · rw [q]; exact g
  · exact of_decide_eq_true h k (by omega))
theorem saJ_n {V : Vt} {m n j : Nat} (g : ¬ pst (yrs V m) j = pst (yrs V n) j) : saJ V m n (j + 1) = false := decide_eq_false (fun z => g (z j (by omega)))
theorem saJ_f {V : Vt} {m n j r : Nat} (h : saJ V m n j = false) (hr : j ≤ r) : saJ V m n r = false := decide_eq_false (fun z => (of_decide_eq_false h) (fun k hk => z k (by omega)))
/-- the first from i on, 0 if there is none -/
def fnd (p : Nat → Bool) : Nat → Nat → Nat
  | 0, _ => 0
  | r + 1, i => if p i = true then i else fnd p r (i + 1)
theorem fnd_0 (p : Nat → Bool) (i : Nat) : fnd p 0 i = 0 := rfl
theorem fnd_y {p : Nat → Bool} {r i : Nat} (h : p i = true) : fnd p (r + 1) i = i := by rw [fnd]; exact if_pos h
theorem fnd_n {p : Nat → Bool} {r i : Nat} (h : p i = false) : fnd p (r + 1) i = fnd p r (i + 1) := by rw [fnd]; exact if_neg (by rw [h]; decide)
def rdF (same : Nat → Nat → Bool) (q : Nat) : Nat → Nat → Int
  | 0, _ => -1
  | r + 1, n => if fnd (fun m => same m n) (n - 1) 1 = 0 then rdF same q r (n + 1) else if q = 0 then (fnd (fun m => same m n) (n - 1) 1 : Int) else (n : Int) - (fnd (fun m => same m n) (n - 1) 1 : Int)
theorem rdF_0 (same : Nat → Nat → Bool) (q n : Nat) : rdF same q 0 n = -1 := rfl
theorem rdF_s (same : Nat → Nat → Bool) (q r n : Nat) : rdF same q (r + 1) n = if fnd (fun m => same m n) (n - 1) 1 = 0 then rdF same q r (n + 1) else if q = 0 then (fnd (fun m => same m n) (n - 1) 1 : Int) else (n : Int) - (fnd (fun m => same m n) (n - 1) 1 : Int) := rfl
def saV (V : Vt) (m n : Nat) : Bool := saJ V m n 12
abbrev rouC (V : Vt) (x : Int32) : Prop := V 2 35 ≠ 0 ∧ 0 ≤ x.toInt ∧ x.toInt ≤ 1
def rouR (V : Vt) (x : Int32) : Int32 := if rouC V x then iI (rdF (saV V) (xN x) 60 1) else -1
def PA (V : Vt) (f : Nat → Int32) (n : Nat) : Prop := ∀ m k, 1 ≤ m → m < n → k < 12 → f (12 * m + k) = nI (pst (yrs V m) k)
set_option maxRecDepth 20000 in
set_option maxHeartbeats 1000000 in
theorem l_ro55 {G : Gt} {l : Launch} {Z : Zt} {R : Rt} {L : Lt} {post : Pt'} {V : Vt} {I1 : It} {q n : Nat} {F : Nat → Nat} (W : WF Z R) (hn : n ≤ 60) (h : ∀ I', MI V I' L → MW (I' 267) F → (∀ k, k < 6 → I' 272 (12 * n + k) = nI (pst F k)) → (∀ z, z < 12 * n → I' 272 z = I1 272 z) → (∀ q, q ≠ 272 → I' q = I1 q) → Sx G l mX12_round 39 0 0 84 [(3, .int (nI (12 * n))), (2, .int (nI n)), (0, .ref 253), (1, .int (nI q))] [] Z R I' L post) :
    ∀ (r j : Nat), j ≤ 6 → 6 < j + r → ∀ (I : It), MI V I L → MW (I 267) F → (∀ k, k < j → I 272 (12 * n + k) = nI (pst F k)) → (∀ z, z < 12 * n → I 272 z = I1 272 z) → (∀ q, q ≠ 272 → I q = I1 q) → Sx G l mX12_round 39 0 0 55 [(4, .int (nI j)), (3, .int (nI (12 * n))), (2, .int (nI n)), (0, .ref 253), (1, .int (nI q))] [] Z R I L post := by
  intro r
  induction r with
  | zero => intro j h1 h2; omega
  | succ r ih =>
    intro j h1 h2 I hM hF hc hz0 hI
    refine Sx.iload dX12_round_55 rfl ?_
    refine Sx.bipush (v := (nI 6)) dX12_round_57 (by decide) ?_
    refine Sx.icmp_geV (t := 84) dX12_round_59 (by decide) (vN (by omega)) (vN (by decide)) (fun c59 => ?_) (fun c59 => ?_)
    · have hj : j = 6 := by omega
      subst hj
      refine Sx.sub' [(3, .int (nI (12 * n))), (2, .int (nI n)), (0, .ref 253), (1, .int (nI q))] rfl ?_
      exact h I hM hF hc hz0 hI
    · refine Sx.aload_n dX12_round_62 rfl ?_
      refine Sx.getfR dX12_round_63 lkf_X12_87_12 (o_253 W) (r_253_43 W) ?_
      refine Sx.iload_n dX12_round_66 rfl ?_
      refine Sx.iload dX12_round_67 rfl ?_
      refine Sx.iaddN dX12_round_69 ?_
      refine Sx.aload_n dX12_round_70 rfl ?_
      refine Sx.getfR dX12_round_71 lkf_X12_64_12 (o_253 W) (r_253_33 W) ?_
      refine Sx.iload dX12_round_74 rfl ?_
      refine Sx.ialdN dX12_round_76 (a_267 W) (by omega) (by decide) (v := (nI (F j))) (hF.1 _ (by omega)) ?_
      refine Sx.iastN dX12_round_77 (a_272 W) (by omega) (by decide) (fun I1 e1 o1 => ?_)
      refine Sx.iinc (v := (nI (j + 1))) (lv' := [(4, .int (nI (j + 1))), (3, .int (nI (12 * n))), (2, .int (nI n)), (0, .ref 253), (1, .int (nI q))]) dX12_round_78 rfl (nI_add j 1) (by decide) rfl ?_
      refine Sx.goto (t := 55) dX12_round_81 (by decide) ?_
      refine Sx.sub' [(4, .int (nI (j + 1))), (3, .int (nI (12 * n))), (2, .int (nI n)), (0, .ref 253), (1, .int (nI q))] rfl ?_
      refine ih (j + 1) (by omega) (by omega) I1 (hM.sc (a := 272) (by unfold scr; decide) o1) (by rw [o1 267 (by decide)]; exact hF) (fun k hk => ?_) (fun z hz => ?_) (fun q hq => (o1 q hq).trans (hI q hq))
      · rw [e1]
        by_cases c : k = j
        · rw [c, upd_at]; unfold pst; rw [if_pos (by omega)]
        · rw [upd_nj _ _ (by omega)]; exact hc k (by omega)
      · rw [e1, upd_nj _ _ (by omega)]; exact hz0 z (by omega)
set_option maxRecDepth 20000 in
set_option maxHeartbeats 1000000 in
theorem l_ro87 {G : Gt} {l : Launch} {Z : Zt} {R : Rt} {L : Lt} {post : Pt'} {V : Vt} {I1 : It} {q n : Nat} {F : Nat → Nat} (W : WF Z R) (hn : n ≤ 60) (h : ∀ I', MI V I' L → MW (I' 267) F → (∀ k, k < 6 → I' 272 (12 * n + 6 + k) = nI (pst F (6 + k))) → (∀ z, z < 12 * n + 6 → I' 272 z = I1 272 z) → (∀ q, q ≠ 272 → I' q = I1 q) → Sx G l mX12_round 39 0 0 122 [(3, .int (nI (12 * n))), (2, .int (nI n)), (0, .ref 253), (1, .int (nI q))] [] Z R I' L post) :
    ∀ (r j : Nat), j ≤ 6 → 6 < j + r → ∀ (I : It), MI V I L → MW (I 267) F → (∀ k, k < j → I 272 (12 * n + 6 + k) = nI (pst F (6 + k))) → (∀ z, z < 12 * n + 6 → I 272 z = I1 272 z) → (∀ q, q ≠ 272 → I q = I1 q) → Sx G l mX12_round 39 0 0 87 [(4, .int (nI j)), (3, .int (nI (12 * n))), (2, .int (nI n)), (0, .ref 253), (1, .int (nI q))] [] Z R I L post := by
  intro r
  induction r with
  | zero => intro j h1 h2; omega
  | succ r ih =>
    intro j h1 h2 I hM hF hc hz0 hI
    refine Sx.iload dX12_round_87 rfl ?_
    refine Sx.bipush (v := (nI 6)) dX12_round_89 (by decide) ?_
    refine Sx.icmp_geV (t := 122) dX12_round_91 (by decide) (vN (by omega)) (vN (by decide)) (fun c91 => ?_) (fun c91 => ?_)
    · have hj : j = 6 := by omega
      subst hj
      refine Sx.sub' [(3, .int (nI (12 * n))), (2, .int (nI n)), (0, .ref 253), (1, .int (nI q))] rfl ?_
      exact h I hM hF hc hz0 hI
    · refine Sx.aload_n dX12_round_94 rfl ?_
      refine Sx.getfR dX12_round_95 lkf_X12_87_12 (o_253 W) (r_253_43 W) ?_
      refine Sx.iload_n dX12_round_98 rfl ?_
      refine Sx.bipush (v := (nI 6)) dX12_round_99 (by decide) ?_
      refine Sx.iaddN dX12_round_101 ?_
      refine Sx.iload dX12_round_102 rfl ?_
      refine Sx.iaddN dX12_round_104 ?_
      refine Sx.aload_n dX12_round_105 rfl ?_
      refine Sx.getfR dX12_round_106 lkf_X12_64_12 (o_253 W) (r_253_33 W) ?_
      refine Sx.bipush (v := (nI 12)) dX12_round_109 (by decide) ?_
      refine Sx.iload dX12_round_111 rfl ?_
      refine Sx.iaddN dX12_round_113 ?_
      refine Sx.ialdN dX12_round_114 (a_267 W) (by omega) (by decide) (v := (nI (F (12 + j)))) (hF.1 _ (by omega)) ?_
      refine Sx.iastN dX12_round_115 (a_272 W) (by omega) (by decide) (fun I1 e1 o1 => ?_)
      refine Sx.iinc (v := (nI (j + 1))) (lv' := [(4, .int (nI (j + 1))), (3, .int (nI (12 * n))), (2, .int (nI n)), (0, .ref 253), (1, .int (nI q))]) dX12_round_116 rfl (nI_add j 1) (by decide) rfl ?_
      refine Sx.goto (t := 87) dX12_round_119 (by decide) ?_
      refine Sx.sub' [(4, .int (nI (j + 1))), (3, .int (nI (12 * n))), (2, .int (nI n)), (0, .ref 253), (1, .int (nI q))] rfl ?_
      refine ih (j + 1) (by omega) (by omega) I1 (hM.sc (a := 272) (by unfold scr; decide) o1) (by rw [o1 267 (by decide)]; exact hF) (fun k hk => ?_) (fun z hz => ?_) (fun q hq => (o1 q hq).trans (hI q hq))
      · rw [e1]
        by_cases c : k = j
        · rw [c, upd_at]; unfold pst; rw [if_neg (by omega)]; congr 2; omega
        · rw [upd_nj _ _ (by omega)]; exact hc k (by omega)
      · rw [e1, upd_nj _ _ (by omega)]; exact hz0 z (by omega)
set_option maxRecDepth 20000 in
set_option maxHeartbeats 1000000 in
theorem l_ro137 {G : Gt} {l : Launch} {Z : Zt} {R : Rt} {I : It} {L : Lt} {post : Pt'} {V : Vt} {q n m : Nat} (W : WF Z R) (hM : MI V I L) (hH : HV V) (hn : 1 ≤ n ∧ n ≤ 60) (hP : PA V (I 272) (n + 1)) (hm : 1 ≤ m ∧ m < n) (h : Sx G l mX12_round 39 0 0 187 [(5, .int (b2i (saJ V m n 12))), (4, .int (nI m)), (3, .int (nI (12 * n))), (2, .int (nI n)), (0, .ref 253), (1, .int (nI q))] [] Z R I L post) :
    ∀ (r j : Nat), j ≤ 12 → 12 < j + r → ∀ e, e = saJ V m n j → Sx G l mX12_round 39 0 0 137 [(6, .int (nI j)), (5, .int (b2i e)), (4, .int (nI m)), (3, .int (nI (12 * n))), (2, .int (nI n)), (0, .ref 253), (1, .int (nI q))] [] Z R I L post := by
  intro r
  induction r with
  | zero => intro j h1 h2; omega
  | succ r ih =>
    intro j h1 h2 e he
    refine Sx.iload dX12_round_137 rfl ?_
    refine Sx.bipush (v := (nI 12)) dX12_round_139 (by decide) ?_
    refine Sx.icmp_geV (t := 187) dX12_round_141 (by decide) (vN (by omega)) (vN (by decide)) (fun c141 => ?_) (fun c141 => ?_)
    · have hj : j = 12 := by omega
      subst hj
      refine Sx.sub' [(5, .int (b2i (saJ V m n 12))), (4, .int (nI m)), (3, .int (nI (12 * n))), (2, .int (nI n)), (0, .ref 253), (1, .int (nI q))] (by first | rfl | rw [he]; rfl) ?_
      exact h
    · have b1 := pst_le ((yrs_ok hH m (by omega)).1) (k := j) (by omega)
      have b2 := pst_le ((yrs_ok hH n (by omega)).1) (k := j) (by omega)
      refine Sx.iload dX12_round_144 rfl ?_
      refine Sx.if_eqB (t := 187) dX12_round_146 (by decide) (fun c146 => ?_) (fun c146 => ?_)
      · have hse : saJ V m n 12 = false := saJ_f (j := j) (by rw [← he]; exact c146) (by omega)
        rw [show e = saJ V m n 12 by rw [hse]; exact c146]
        refine Sx.sub' [(5, .int (b2i (saJ V m n 12))), (4, .int (nI m)), (3, .int (nI (12 * n))), (2, .int (nI n)), (0, .ref 253), (1, .int (nI q))] (by first | rfl | rw [he]; rfl) ?_
        exact h
      · refine Sx.aload_n dX12_round_149 rfl ?_
        refine Sx.getfR dX12_round_150 lkf_X12_87_12 (o_253 W) (r_253_43 W) ?_
        refine Sx.iload dX12_round_153 rfl ?_
        refine Sx.bipush (v := (nI 12)) dX12_round_155 (by decide) ?_
        refine Sx.imulN dX12_round_157 ?_
        refine Sx.iload dX12_round_158 rfl ?_
        refine Sx.iaddN dX12_round_160 ?_
        refine Sx.ialdN dX12_round_161 (a_272 W) (by omega) (by decide) (v := (nI (pst (yrs V m) j))) (by rw [Nat.mul_comm m 12]; exact hP m j (by omega) (by omega) (by omega)) ?_
        refine Sx.aload_n dX12_round_162 rfl ?_
        refine Sx.getfR dX12_round_163 lkf_X12_87_12 (o_253 W) (r_253_43 W) ?_
        refine Sx.iload_n dX12_round_166 rfl ?_
        refine Sx.iload dX12_round_167 rfl ?_
        refine Sx.iaddN dX12_round_169 ?_
        refine Sx.ialdN dX12_round_170 (a_272 W) (by omega) (by decide) (v := (nI (pst (yrs V n) j))) (hP n j (by omega) (by omega) (by omega)) ?_
        refine Sx.icmp_neV (t := 178) dX12_round_171 (by decide) (vN (by omega)) (vN (by omega)) (fun c171 => ?_) (fun c171 => ?_)
        · refine Sx.iconst (v := (nI 0)) dX12_round_178 (by decide) ?_
          refine Sx.istore (lv' := [(5, .int (nI 0)), (6, .int (nI j)), (4, .int (nI m)), (3, .int (nI (12 * n))), (2, .int (nI n)), (0, .ref 253), (1, .int (nI q))]) dX12_round_179 (by decide) rfl ?_
          refine Sx.iinc (v := (nI (j + 1))) (lv' := [(6, .int (nI (j + 1))), (5, .int (nI 0)), (4, .int (nI m)), (3, .int (nI (12 * n))), (2, .int (nI n)), (0, .ref 253), (1, .int (nI q))]) dX12_round_181 rfl (nI_add j 1) (by decide) rfl ?_
          refine Sx.goto (t := 137) dX12_round_184 (by decide) ?_
          refine Sx.sub' [(6, .int (nI (j + 1))), (5, .int (b2i false)), (4, .int (nI m)), (3, .int (nI (12 * n))), (2, .int (nI n)), (0, .ref 253), (1, .int (nI q))] rfl ?_
          exact ih (j + 1) (by omega) (by omega) false (saJ_n (by omega)).symm
        · refine Sx.iconst (v := (nI 1)) dX12_round_174 (by decide) ?_
          refine Sx.goto (t := 179) dX12_round_175 (by decide) ?_
          refine Sx.istore (lv' := [(5, .int (nI 1)), (6, .int (nI j)), (4, .int (nI m)), (3, .int (nI (12 * n))), (2, .int (nI n)), (0, .ref 253), (1, .int (nI q))]) dX12_round_179 (by decide) rfl ?_
          refine Sx.iinc (v := (nI (j + 1))) (lv' := [(6, .int (nI (j + 1))), (5, .int (nI 1)), (4, .int (nI m)), (3, .int (nI (12 * n))), (2, .int (nI n)), (0, .ref 253), (1, .int (nI q))]) dX12_round_181 rfl (nI_add j 1) (by decide) rfl ?_
          refine Sx.goto (t := 137) dX12_round_184 (by decide) ?_
          refine Sx.sub' [(6, .int (nI (j + 1))), (5, .int (b2i true)), (4, .int (nI m)), (3, .int (nI (12 * n))), (2, .int (nI n)), (0, .ref 253), (1, .int (nI q))] rfl ?_
          exact ih (j + 1) (by omega) (by omega) true (saJ_y (by rw [← he]; exact c146) (by omega)).symm
set_option maxRecDepth 20000 in
set_option maxHeartbeats 1000000 in
theorem l_ro125 {G : Gt} {l : Launch} {Z : Zt} {R : Rt} {I : It} {L : Lt} {post : Pt'} {V : Vt} {q n : Nat} {res nxt : Int} (W : WF Z R) (hM : MI V I L) (hH : HV V) (hn : 1 ≤ n ∧ n ≤ 60) (hP : PA V (I 272) (n + 1)) (hq : q ≤ 1) (h : post (some (.int (iI res))) Z R I L) (h2 : nxt = res → Sx G l mX12_round 39 0 0 212 [(2, .int (nI n)), (0, .ref 253), (1, .int (nI q))] [] Z R I L post) :
    ∀ (r m : Nat), 1 ≤ m → m ≤ n → n < m + r → (if fnd (fun m => saV V m n) (n - m) m = 0 then nxt else if q = 0 then (fnd (fun m => saV V m n) (n - m) m : Int) else (n : Int) - (fnd (fun m => saV V m n) (n - m) m : Int)) = res → Sx G l mX12_round 39 0 0 125 [(4, .int (nI m)), (3, .int (nI (12 * n))), (2, .int (nI n)), (0, .ref 253), (1, .int (nI q))] [] Z R I L post := by
  intro r
  induction r with
  | zero => intro m h0 h1 h3; omega
  | succ r ih =>
    intro m h0 h1 h3 hR
    refine Sx.iload dX12_round_125 rfl ?_
    refine Sx.iload_n dX12_round_127 rfl ?_
    refine Sx.icmp_geV (t := 212) dX12_round_128 (by decide) (vN (by omega)) (vN (by omega)) (fun c128 => ?_) (fun c128 => ?_)
    · refine Sx.sub' [(2, .int (nI n)), (0, .ref 253), (1, .int (nI q))] rfl ?_
      have hmn : m = n := by omega
      subst hmn
      rw [Nat.sub_self, fnd_0] at hR
      exact h2 (by rw [← hR, if_pos rfl])
    · refine Sx.iconst (v := (nI 1)) dX12_round_131 (by decide) ?_
      refine Sx.istore (lv' := [(5, .int (nI 1)), (4, .int (nI m)), (3, .int (nI (12 * n))), (2, .int (nI n)), (0, .ref 253), (1, .int (nI q))]) dX12_round_132 (by decide) rfl ?_
      refine Sx.iconst (v := (nI 0)) dX12_round_134 (by decide) ?_
      refine Sx.istore (lv' := [(6, .int (nI 0)), (5, .int (nI 1)), (4, .int (nI m)), (3, .int (nI (12 * n))), (2, .int (nI n)), (0, .ref 253), (1, .int (nI q))]) dX12_round_135 (by decide) rfl ?_
      refine Sx.sub' [(6, .int (nI 0)), (5, .int (b2i true)), (4, .int (nI m)), (3, .int (nI (12 * n))), (2, .int (nI n)), (0, .ref 253), (1, .int (nI q))] rfl ?_
      refine l_ro137 W hM hH hn hP ⟨by omega, by omega⟩ ?_ 13 0 (by decide) (by decide) true (decide_eq_true (fun k hk => by omega)).symm
      obtain ⟨e, he⟩ : ∃ e, e = saJ V m n 12 := ⟨_, rfl⟩
      rw [← he]
      refine Sx.iload dX12_round_187 rfl ?_
      refine Sx.if_eqB (t := 206) dX12_round_189 (by decide) (fun c189 => ?_) (fun c189 => ?_)
      · refine Sx.iinc (v := (nI (m + 1))) (lv' := [(4, .int (nI (m + 1))), (5, .int (b2i e)), (3, .int (nI (12 * n))), (2, .int (nI n)), (0, .ref 253), (1, .int (nI q))]) dX12_round_206 rfl (nI_add m 1) (by decide) rfl ?_
        refine Sx.goto (t := 125) dX12_round_209 (by decide) ?_
        refine Sx.sub' [(4, .int (nI (m + 1))), (3, .int (nI (12 * n))), (2, .int (nI n)), (0, .ref 253), (1, .int (nI q))] rfl ?_
        have hsv : saV V m n = false := by unfold saV; rw [← he]; exact c189
        rw [show n - m = n - 1 - m + 1 by omega, fnd_n (p := fun m => saV V m n) hsv] at hR
        exact ih (m + 1) (by omega) (by omega) (by omega) (by rw [show n - (m + 1) = n - 1 - m by omega]; exact hR)
      · refine Sx.iload_n dX12_round_192 rfl ?_
        refine Sx.if_neV (t := 201) dX12_round_193 (by decide) (vN (by omega)) (fun c193 => ?_) (fun c193 => ?_)
        · refine Sx.iload_n dX12_round_201 rfl ?_
          refine Sx.iload dX12_round_202 rfl ?_
          refine Sx.isubV dX12_round_204 (vN (by omega)) (vN (by omega)) ?_
          refine Sx.iret dX12_round_205 rfl rfl ?_
          have hsv : saV V m n = true := by unfold saV; rw [← he]; first | exact c189 | simp_all
          rw [show n - m = n - 1 - m + 1 by omega, fnd_y (p := fun m => saV V m n) hsv] at hR
          refine pXX ?_ h
          rw [← hR, if_neg (by omega), if_neg (by omega)]
        · refine Sx.iload dX12_round_196 rfl ?_
          refine Sx.goto (t := 205) dX12_round_198 (by decide) ?_
          refine Sx.iret dX12_round_205 rfl rfl ?_
          have hsv : saV V m n = true := by unfold saV; rw [← he]; first | exact c189 | simp_all
          rw [show n - m = n - 1 - m + 1 by omega, fnd_y (p := fun m => saV V m n) hsv] at hR
          refine pXX ?_ h
          rw [← hR, if_neg (by omega), if_pos (by omega), nI_iI]
set_option maxRecDepth 20000 in
set_option maxHeartbeats 1000000 in
theorem l_ro37 {G : Gt} {l : Launch} {Z : Zt} {post : Pt'} {V : Vt} {R0 : Rt} {I0 : It} {L0 : Lt} {q : Nat} {res : Int} (hH : HV V) (hq : q ≤ 1) (h : ∀ R' I' L', MI V I' L' → FM R0 I0 L0 R' I' L' → post (some (.int (iI res))) Z R' I' L') :
    ∀ (k r0 : Nat), r0 < k → ∀ (n : Nat) (R : Rt) (I : It) (L : Lt), WF Z R → MI V I L → MW (I 267) (yrs V (n - 1)) → PA V (I 272) n → FM R0 I0 L0 R I L → 1 ≤ n → n + r0 = 61 → rdF (saV V) q r0 n = res → Sx G l mX12_round 39 0 0 37 [(2, .int (nI n)), (0, .ref 253), (1, .int (nI q))] [] Z R I L post := by
  intro k
  induction k with
  | zero => intro r0 h1; omega
  | succ k ih =>
    intro r0 h1 n R I L W hM hF hP hf hn1 hnr hR
    refine Sx.iload_n dX12_round_37 rfl ?_
    refine Sx.bipush (v := (nI 60)) dX12_round_38 (by decide) ?_
    refine Sx.icmp_gtV (t := 218) dX12_round_40 (by decide) (vN (by omega)) (vN (by decide)) (fun c40 => ?_) (fun c40 => ?_)
    · refine Sx.iconst (v := (iI (-1))) dX12_round_218 (by decide) ?_
      refine Sx.iret dX12_round_219 rfl rfl ?_
      have hr0 : r0 = 0 := by omega
      subst hr0
      rw [rdF_0] at hR
      subst hR
      exact h R I L hM hf
    · have hn : 1 ≤ n ∧ n ≤ 60 := ⟨by omega, by omega⟩
      obtain ⟨hS, hy⟩ := yrs_ok hH (n - 1) (by omega)
      refine Sx.aload_n dX12_round_43 rfl ?_
      refine Sx.callV0 dX12_round_44 lkv_X12_451 (rcv_12 (o_253 W)) (by decide) (by decide) (Nat.le_of_ble_eq_true rfl) rfl rfl (k_gyT W hM hH hS hF (by omega) (fun I1 R1 L1 hM1 hF1 og1 fl1 => ?_))
      have W := fl1.wf W
      have hF1 : MW (I1 267) (yrs V n) := by rw [show n = n - 1 + 1 by omega, yrs_s]; exact hF1
      refine Sx.iload_n dX12_round_47 rfl ?_
      refine Sx.bipush (v := (nI 12)) dX12_round_48 (by decide) ?_
      refine Sx.imulN dX12_round_50 ?_
      refine Sx.istore_n (lv' := [(3, .int (nI (n * 12))), (2, .int (nI n)), (0, .ref 253), (1, .int (nI q))]) dX12_round_51 (by decide) rfl ?_
      refine Sx.iconst (v := (nI 0)) dX12_round_52 (by decide) ?_
      refine Sx.istore (lv' := [(4, .int (nI 0)), (3, .int (nI (n * 12))), (2, .int (nI n)), (0, .ref 253), (1, .int (nI q))]) dX12_round_53 (by decide) rfl ?_
      refine Sx.sub' [(4, .int (nI 0)), (3, .int (nI (12 * n))), (2, .int (nI n)), (0, .ref 253), (1, .int (nI q))] (by rw [Nat.mul_comm]; rfl) ?_
      refine l_ro55 W hn.2 (I1 := I1) (fun J1 j1 j2 j3 j4 j5 => ?_) 7 0 (by decide) (by decide) I1 hM1 hF1 (fun k hk => by omega) (fun _ _ => rfl) (fun _ _ => rfl)
      refine Sx.iconst (v := (nI 0)) dX12_round_84 (by decide) ?_
      refine Sx.istore (lv' := [(4, .int (nI 0)), (3, .int (nI (12 * n))), (2, .int (nI n)), (0, .ref 253), (1, .int (nI q))]) dX12_round_85 (by decide) rfl ?_
      refine Sx.sub' [(4, .int (nI 0)), (3, .int (nI (12 * n))), (2, .int (nI n)), (0, .ref 253), (1, .int (nI q))] rfl ?_
      refine l_ro87 W hn.2 (I1 := J1) (fun J2 i1 i2 i3 i4 i5 => ?_) 7 0 (by decide) (by decide) J1 j1 j2 (fun k hk => by omega) (fun _ _ => rfl) (fun _ _ => rfl)
      refine Sx.iconst (v := (nI 1)) dX12_round_122 (by decide) ?_
      refine Sx.istore (lv' := [(4, .int (nI 1)), (3, .int (nI (12 * n))), (2, .int (nI n)), (0, .ref 253), (1, .int (nI q))]) dX12_round_123 (by decide) rfl ?_
      refine Sx.sub' [(4, .int (nI 1)), (3, .int (nI (12 * n))), (2, .int (nI n)), (0, .ref 253), (1, .int (nI q))] rfl ?_
      have hP2 : PA V (J2 272) (n + 1) := by
        intro m k m1 m2 hk
        by_cases c : m = n
        · rw [c]
          by_cases d : k < 6
          · rw [i4 _ (by omega)]; exact j3 k d
          · have := i3 (k - 6) (by omega)
            rw [show 12 * n + 6 + (k - 6) = 12 * n + k by omega, show 6 + (k - 6) = k by omega] at this
            exact this
        · rw [i4 _ (by omega), j4 _ (by omega), og1 272 (by decide)]
          exact hP m k m1 (by omega) hk
      have hfB := (hf.tr fl1).tr (FM.i (R := R1) (L := L1) (I' := J2) fun q hq => by rw [i5 q (by omega), j5 q (by omega)])
      rw [show r0 = r0 - 1 + 1 by omega, rdF_s] at hR
      refine l_ro125 (nxt := rdF (saV V) q (r0 - 1) (n + 1)) W i1 hH hn hP2 hq (h R1 J2 L1 i1 hfB) (fun e => ?_) n 1 (by decide) hn.1 (by omega) hR
      refine Sx.iinc (v := (nI (n + 1))) (lv' := [(2, .int (nI (n + 1))), (0, .ref 253), (1, .int (nI q))]) dX12_round_212 rfl (nI_add n 1) (by decide) rfl ?_
      refine Sx.goto (t := 37) dX12_round_215 (by decide) ?_
      refine Sx.sub' [(2, .int (nI (n + 1))), (0, .ref 253), (1, .int (nI q))] rfl ?_
      exact ih (r0 - 1) (by omega) (n + 1) R1 J2 L1 W i1 i2 hP2 hfB (by omega) (by omega) e
set_option maxRecDepth 20000 in
set_option maxHeartbeats 1000000 in
theorem k_round {G : Gt} {l : Launch} {Z : Zt} {R : Rt} {I : It} {L : Lt} {post : Pt'} {V : Vt} {N : Nat} {x : Int32} (W : WF Z R) (hM : MI V I L) (hG : GV N V) (hN : N < 2147483647) (h : QK post Z R I L V (rouR V x)) : Cx G l mX12_round 39 0 0 [.ref 253, .int x] Z R I L post := by
  refine Cx.of (by decide +kernel) (by exact Nat.le_of_ble_eq_true rfl) ?_
  refine Sx.aload_n dX12_round_0 rfl ?_
  refine Sx.iconst (v := (nI 0)) dX12_round_1 (by decide) ?_
  refine Sx.putfV dX12_round_2 lkp_X12_109_12 (o_253 W) rfl rfl (fun I1 e1 o1 => ?_)
  have M1 := hM.th (j := 0) (by unfold sfJ; decide) e1 o1
  have hf1 : FM R I L R I1 L := FM.i fun q hq => o1 q (by omega)
  have hp6 := hG.p
  have hb := hG.b
  have hB := hG.bnd
  refine Sx.aload_n dX12_round_5 rfl ?_
  refine Sx.getfV (v := (nI (V 2 35))) dX12_round_6 lkf_X12_307_12 (o_253 W) M1.1.1.2.2.2.1 ?_
  refine Sx.if_eqV (t := 22) dX12_round_9 (by decide) (vN (by omega)) (fun c9 => ?_) (fun c9 => ?_)
  · refine Sx.iconst (v := (iI (-1))) dX12_round_22 (by decide) ?_
    refine Sx.iret dX12_round_23 rfl rfl ?_
    have hn : ¬ rouC V x := fun z => by omega
    exact pXX (by unfold rouR; rw [if_neg hn]; rfl) (h I1 R L M1 hf1)
  · refine Sx.iload_n dX12_round_12 rfl ?_
    refine Sx.i2l dX12_round_13 ?_
    refine Sx.lconst (v := 0) dX12_round_14 (by decide) ?_
    refine Sx.lconst (v := 1) dX12_round_15 (by decide) ?_
    refine Sx.callS3 dX12_round_16 lkc_X12_230  (by decide) (by decide) (Nat.le_of_ble_eq_true rfl) rfl rfl (k_isIn (vLi (vX x)) (show VL 0 0 from rfl) (show VL 1 1 from rfl) ?_)
    refine Sx.if_neD (t := 24) dX12_round_19 (by decide) (fun c19 => ?_) (fun c19 => ?_)
    · have hH := hG.hv (by omega)
      obtain ⟨p1, p2, p3, p4, p5, p6, p7, p8, p9⟩ := id hH.2.2.2.1
      have hS0 := hH.2.2.2.2.1
      have hy0 := hH.2.2.2.2.2.1
      have hc : rouC V x := ⟨by omega, by omega, by omega⟩
      obtain ⟨p, rfl, hp⟩ := x_ex (x := x) (n := 2) ⟨by omega, by omega⟩
      refine Sx.sub' [(0, .ref 253), (1, .int (nI p))] rfl ?_
      refine Sx.aload_n dX12_round_24 rfl ?_
      refine Sx.getfR dX12_round_25 lkf_X12_61_12 (o_253 W) (r_253_32 W) ?_
      refine Sx.aload_n dX12_round_28 rfl ?_
      refine Sx.getfR dX12_round_29 lkf_X12_64_12 (o_253 W) (r_253_33 W) ?_
      refine Sx.callS2 dX12_round_32 lkc_X12_434  (by decide) (by decide) (Nat.le_of_ble_eq_true rfl) rfl rfl (k_cpT W M1 (fun I2 hM2 hF2 o2 fc2 => ?_))
      have hf2 := hf1.tr fc2
      refine Sx.iconst (v := (nI 1)) dX12_round_35 (by decide) ?_
      refine Sx.istore_n (lv' := [(2, .int (nI 1)), (0, .ref 253), (1, .int (nI p))]) dX12_round_36 (by decide) rfl ?_
      refine Sx.sub' [(2, .int (nI 1)), (0, .ref 253), (1, .int (nI p))] rfl ?_
      exact l_ro37 hH (by omega) (fun R' I' L' m f => pXX (by unfold rouR; rw [if_pos hc, xN_n (by omega)]) (h I' R' L' m f)) 61 60 (by decide) 1 R I2 L W hM2 hF2 (fun m k m1 m2 => by omega) hf2 (by decide) (by decide) rfl
    · refine Sx.iconst (v := (iI (-1))) dX12_round_22 (by decide) ?_
      refine Sx.iret dX12_round_23 rfl rfl ?_
      have hn : ¬ rouC V x := fun z => by omega
      exact pXX (by unfold rouR; rw [if_neg hn]; rfl) (h I1 R L M1 hf1)
