/-! the reference: acts are kept, a day of now, undo, pictures -/
def vr (V : Vt) (p : Nat) (F : Nat → Nat) : Vt := fun a => if a = p then F else V a
theorem vr_o (V : Vt) {p a : Nat} (F : Nat → Nat) (h : a ≠ p) : vr V p F a = V a := if_neg h
theorem vr_a (V : Vt) (p : Nat) (F : Nat → Nat) : vr V p F p = F := if_pos rfl
def rmV (V : Vt) : Vt := fun a => if a = 0 then upn (V 0) 4 (min (V 0 4) 39 + 1) else if a = 30 then V 3 else if 30 < a then V (a - 1) else V a
def unV (V : Vt) : Vt := fun a => if a = 0 then upn (V 0) 4 (V 0 4 - 1) else if a = 3 then V 30 else if 30 ≤ a then V (a + 1) else V a
def goV (V : Vt) : Vt := vr V 3 (pdN (V 2) (wlV V) (V 3))
def imV (V : Vt) : Vt := vr (vs V 0 5 1) 5 (V 3)
def bkV (V : Vt) : Vt := vr (vs V 0 4 0) 3 (V 5)
theorem MI0.mv {V V' : Vt} {I I' : It} {L : Lt} (h : MI0 V I L) (hb : V 0 1 ≤ 4 ∧ V 0 3 ≤ 4) (m : MFd V' (I' 253)) (c0 : V' 0 0 = V 0 0) (c1 : V' 0 1 = V 0 1) (c3 : V' 0 3 = V 0 3) (c7 : V' 0 7 = V 0 7) (r : ∀ p, p ≠ 0 → p ≠ 3 → p ≠ 5 → p < 30 → V' p = V p) (o : ∀ q, q ≠ 253 → q ≠ 266 → q ≠ 271 → q ≠ 278 → I' q = I q) (hh : MHi V' (I' 271)) (hi : MIm V' (I' 278)) : MI0 V' I' L := by
  obtain ⟨a1, a2, a3, a4, a5, a6, a7, a8, a9, a10, a11⟩ := h
  refine ⟨m, ?_, ?_, ?_, ?_, ?_, hh, ?_, hi, ?_, ?_⟩
  · unfold MTp; rw [o 254 (by decide) (by decide) (by decide) (by decide), c0, r 1 (by decide) (by decide) (by decide) (by decide)]; exact a2
  · rw [o 255 (by decide) (by decide) (by decide) (by decide), o 256 (by decide) (by decide) (by decide) (by decide)]; intro i hi; rw [c1] at hi; rw [r (10 + i) (by omega) (by omega) (by omega) (by omega)]; exact a3 i hi
  · rw [o 258 (by decide) (by decide) (by decide) (by decide), o 260 (by decide) (by decide) (by decide) (by decide), o 262 (by decide) (by decide) (by decide) (by decide), r 2 (by decide) (by decide) (by decide) (by decide)]; exact a4
  · rw [o 264 (by decide) (by decide) (by decide) (by decide), o 265 (by decide) (by decide) (by decide) (by decide)]; intro i hi; rw [c3] at hi; rw [r (20 + i) (by omega) (by omega) (by omega) (by omega)]; exact a5 i hi
  · rw [o 268 (by decide) (by decide) (by decide) (by decide), r 4 (by decide) (by decide) (by decide) (by decide)]; exact a6
  · rw [o 273 (by decide) (by decide) (by decide) (by decide)]; intro i hi; rw [c7] at hi; rw [r 6 (by decide) (by decide) (by decide) (by decide), r 7 (by decide) (by decide) (by decide) (by decide), r 8 (by decide) (by decide) (by decide) (by decide)]; exact a8 i hi
  · rw [o 257 (by decide) (by decide) (by decide) (by decide)]; exact a10
  · rw [o 270 (by decide) (by decide) (by decide) (by decide)]
    intro s hs
    rcases a11 s hs with z | ⟨li, d, e, g, u, y, rr, h1, h2, h3, h4, h5, h6, h7, h8, h9⟩
    · exact Or.inl z
    · exact Or.inr ⟨li, d, e, g, u, y, rr, by rw [c1]; exact h1, h2, h3, h4, h5, h6, h7, h8, by rw [r (10 + li) (by omega) (by omega) (by omega) (by omega)]; exact h9⟩
theorem MFd.c4 {V V' : Vt} {f g : Nat → Int32} (h : MFd V f) (e4 : g 41 = nI (V' 0 4)) (e5 : g 51 = nI (V' 0 5)) (eo : ∀ j, j ≠ 41 → j ≠ 51 → g j = f j) (r : ∀ q, q ≠ 4 → q ≠ 5 → V' 0 q = V 0 q) (r2 : V' 2 = V 2) : MFd V' g := by
  obtain ⟨m1, m2, m3, m4, m5, m6, m7, m8, m9, m10⟩ := h
  refine ⟨?_, ?_, ?_, ?_, ?_, ?_, ?_, e4, ?_, e5⟩
  · rw [eo 6 (by decide) (by decide), r 0 (by decide) (by decide)]; exact m1
  · rw [eo 7 (by decide) (by decide), r 1 (by decide) (by decide)]; exact m2
  · rw [eo 26 (by decide) (by decide), r2]; exact m3
  · rw [eo 27 (by decide) (by decide), r2]; exact m4
  · rw [eo 30 (by decide) (by decide), r 3 (by decide) (by decide)]; exact m5
  · rw [eo 35 (by decide) (by decide), r 2 (by decide) (by decide)]; exact m6
  · rw [eo 36 (by decide) (by decide), r 6 (by decide) (by decide)]; exact m7
  · rw [eo 45 (by decide) (by decide), r 7 (by decide) (by decide)]; exact m9
theorem MFd.cz {V V' : Vt} {f g : Nat → Int32} (h : MFd V f) (eo : ∀ j, ¬ sfJ j → g j = f j) (r : V' 0 = V 0) (r2 : V' 2 = V 2) : MFd V' g := by
  unfold MFd
  rw [r, r2, eo 6 (by unfold sfJ; omega), eo 7 (by unfold sfJ; omega), eo 26 (by unfold sfJ; omega), eo 27 (by unfold sfJ; omega), eo 30 (by unfold sfJ; omega), eo 35 (by unfold sfJ; omega), eo 36 (by unfold sfJ; omega), eo 41 (by unfold sfJ; omega), eo 45 (by unfold sfJ; omega), eo 51 (by unfold sfJ; omega)]
  exact h
theorem MN.co {f g : Nat → Int32} {F : Nat → Nat} (h : MN f F) (e : ∀ z, z < 417 → g z = f z) : MN g F := ⟨h.1.co (fun z hz => e z (by omega)), by rw [e 236 (by decide)]; exact h.2.1, fun i w hi hw => by rw [e _ (by omega)]; exact h.2.2 i w hi hw⟩
theorem MI0.v3 {V : Vt} {I : It} {L : Lt} (h : MI0 V I L) (hb : V 0 1 ≤ 4 ∧ V 0 3 ≤ 4) (F : Nat → Nat) : MI0 (vr V 3 F) I L := h.mv hb (by unfold MFd; rw [vr_o V F (show 0 ≠ 3 by decide), vr_o V F (show 2 ≠ 3 by decide)]; exact h.1) rfl rfl rfl rfl (fun p _ h3 _ _ => vr_o V F h3) (fun _ _ _ _ _ => rfl) (fun i hi => by rw [vr_o V F (show 30 + i ≠ 3 by omega)]; exact h.2.2.2.2.2.2.1 i hi) h.2.2.2.2.2.2.2.2.1
set_option maxRecDepth 20000 in
set_option maxHeartbeats 1000000 in
theorem l_rm1 {G : Gt} {l : Launch} {Z : Zt} {R : Rt} {L : Lt} {post : Pt'} {I0 : It} (W : WF Z R) (h : ∀ I', (∀ z, z < 16263 → I' 271 z = I0 271 (z + 417)) → (∀ q, q ≠ 271 → I' q = I0 q) → Sx G l mX12_remember 1 0 0 40 [(1, .int (nI 16263)), (0, .ref 253)] [] Z R I' L post) :
    ∀ (k j : Nat), j ≤ 16263 → 16263 < j + k → ∀ (I : It), (∀ z, z < j → I 271 z = I0 271 (z + 417)) → (∀ z, j ≤ z → I 271 z = I0 271 z) → (∀ q, q ≠ 271 → I q = I0 q) → Sx G l mX12_remember 1 0 0 11 [(1, .int (nI j)), (0, .ref 253)] [] Z R I L post := by
  intro k
  induction k with
  | zero => intro j h1 h2; omega
  | succ k ih =>
    intro j h1 h2 I hc hd hI
    refine Sx.iload_n dX12_remember_11 rfl ?_
    refine Sx.sipush (v := (nI 16263)) dX12_remember_12 (by decide) ?_
    refine Sx.icmp_geV (t := 40) dX12_remember_15 (by decide) (vN (by omega)) (vN (by decide)) (fun c15 => ?_) (fun c15 => ?_)
    · refine Sx.sub' [(1, .int (nI 16263)), (0, .ref 253)] (by rw [show j = 16263 by omega]; rfl) ?_
      have hj : j = 16263 := by omega
      subst hj
      exact h I hc hI
    · refine Sx.aload_n dX12_remember_18 rfl ?_
      refine Sx.getfR dX12_remember_19 lkf_X12_84_12 (o_253 W) (r_253_40 W) ?_
      refine Sx.iload_n dX12_remember_22 rfl ?_
      refine Sx.aload_n dX12_remember_23 rfl ?_
      refine Sx.getfR dX12_remember_24 lkf_X12_84_12 (o_253 W) (r_253_40 W) ?_
      refine Sx.iload_n dX12_remember_27 rfl ?_
      refine Sx.sipush (v := (nI 417)) dX12_remember_28 (by decide) ?_
      refine Sx.iaddN dX12_remember_31 ?_
      refine Sx.ialdN dX12_remember_32 (a_271 W) (by omega) (by decide) (v := (I0 271 (j + 417))) (by rw [hd _ (by omega)]) ?_
      refine Sx.iastN dX12_remember_33 (a_271 W) (by omega) (by decide) (fun I1 e1 o1 => ?_)
      refine Sx.iinc (v := (nI (j + 1))) (lv' := [(1, .int (nI (j + 1))), (0, .ref 253)]) dX12_remember_34 rfl (nI_add j 1) (by decide) rfl ?_
      refine Sx.goto (t := 11) dX12_remember_37 (by decide) ?_
      refine Sx.sub' [(1, .int (nI (j + 1))), (0, .ref 253)] rfl ?_
      refine ih (j + 1) (by omega) (by omega) I1 (fun z hz => ?_) (fun z hz => ?_) (fun q hq => (o1 q hq).trans (hI q hq))
      · rw [e1]
        by_cases e : z = j
        · rw [e, upd_at]
        · rw [upd_nj _ _ e]; exact hc z (by omega)
      · rw [e1, upd_nj _ _ (by omega)]; exact hd z (by omega)
set_option maxRecDepth 20000 in
set_option maxHeartbeats 1000000 in
theorem l_rm2 {G : Gt} {l : Launch} {Z : Zt} {R : Rt} {L : Lt} {post : Pt'} {I0 : It} {a : Nat} (W : WF Z R) (ha : I0 253 41 = nI a) (ha9 : a ≤ 39) (h : ∀ I', (∀ z, z < 417 → I' 271 (417 * a + z) = I0 266 z) → (∀ z, z < 417 * a → I' 271 z = I0 271 z) → (∀ q, q ≠ 253 → q ≠ 271 → I' q = I0 q) → I' 253 = upd (I0 253) 41 (nI (a + 1)) → post none Z R I' L) :
    ∀ (k j : Nat), j ≤ 417 → 417 < j + k → ∀ (I : It), (∀ z, z < j → I 271 (417 * a + z) = I0 266 z) → (∀ z, z < 417 * a → I 271 z = I0 271 z) → (∀ q, q ≠ 271 → I q = I0 q) → Sx G l mX12_remember 1 0 0 52 [(1, .int (nI j)), (0, .ref 253)] [] Z R I L post := by
  intro k
  induction k with
  | zero => intro j h1 h2; omega
  | succ k ih =>
    intro j h1 h2 I hc hd hI
    refine Sx.iload_n dX12_remember_52 rfl ?_
    refine Sx.sipush (v := (nI 417)) dX12_remember_53 (by decide) ?_
    refine Sx.icmp_geV (t := 86) dX12_remember_56 (by decide) (vN (by omega)) (vN (by decide)) (fun c56 => ?_) (fun c56 => ?_)
    · refine Sx.aload_n dX12_remember_86 rfl ?_
      refine Sx.dup dX12_remember_87 rfl ?_
      refine Sx.getfV (v := (nI a)) dX12_remember_88 lkf_X12_317_12 (o_253 W) (by rw [hI 253 (by decide)]; exact ha) ?_
      refine Sx.iconst (v := (nI 1)) dX12_remember_91 (by decide) ?_
      refine Sx.iaddN dX12_remember_92 ?_
      refine Sx.putfV dX12_remember_93 lkp_X12_317_12 (o_253 W) rfl rfl (fun I1 e1 o1 => ?_)
      refine Sx.vret dX12_remember_96 rfl ?_
      have hj : j = 417 := by omega
      subst hj
      exact h I1 (fun z hz => by rw [o1 271 (by decide)]; exact hc z hz) (fun z hz => by rw [o1 271 (by decide)]; exact hd z hz) (fun q q1 q2 => (o1 q q1).trans (hI q q2)) (by rw [e1, hI 253 (by decide)])
    · refine Sx.aload_n dX12_remember_59 rfl ?_
      refine Sx.getfR dX12_remember_60 lkf_X12_84_12 (o_253 W) (r_253_40 W) ?_
      refine Sx.sipush (v := (nI 417)) dX12_remember_63 (by decide) ?_
      refine Sx.aload_n dX12_remember_66 rfl ?_
      refine Sx.getfV (v := (nI a)) dX12_remember_67 lkf_X12_317_12 (o_253 W) (by rw [hI 253 (by decide)]; exact ha) ?_
      refine Sx.imulN dX12_remember_70 ?_
      refine Sx.iload_n dX12_remember_71 rfl ?_
      refine Sx.iaddN dX12_remember_72 ?_
      refine Sx.aload_n dX12_remember_73 rfl ?_
      refine Sx.getfR dX12_remember_74 lkf_X12_61_12 (o_253 W) (r_253_32 W) ?_
      refine Sx.iload_n dX12_remember_77 rfl ?_
      refine Sx.ialdN dX12_remember_78 (a_266 W) (by omega) (by decide) (v := (I0 266 j)) (by rw [hI 266 (by decide)]) ?_
      refine Sx.iastN dX12_remember_79 (a_271 W) (by omega) (by decide) (fun I2 e2 o2 => ?_)
      refine Sx.iinc (v := (nI (j + 1))) (lv' := [(1, .int (nI (j + 1))), (0, .ref 253)]) dX12_remember_80 rfl (nI_add j 1) (by decide) rfl ?_
      refine Sx.goto (t := 52) dX12_remember_83 (by decide) ?_
      refine Sx.sub' [(1, .int (nI (j + 1))), (0, .ref 253)] rfl ?_
      refine ih (j + 1) (by omega) (by omega) I2 (fun z hz => ?_) (fun z hz => ?_) (fun q hq => (o2 q hq).trans (hI q hq))
      · rw [e2]
        by_cases q : z = j
        · rw [q, upd_at]
        · rw [upd_nj _ _ (by omega)]; exact hc z (by omega)
      · rw [e2, upd_nj _ _ (by omega)]; exact hd z hz
theorem rm_0 (V : Vt) {q : Nat} (h : q ≠ 4) : rmV V 0 q = V 0 q := by unfold rmV upn; rw [if_pos rfl, if_neg h]
theorem rm_4 (V : Vt) : rmV V 0 4 = min (V 0 4) 39 + 1 := by unfold rmV upn; rw [if_pos rfl, if_pos rfl]
theorem rm_o (V : Vt) {p : Nat} (h0 : p ≠ 0) (h : p < 30) : rmV V p = V p := by unfold rmV; rw [if_neg h0, if_neg (by omega), if_neg (by omega)]
theorem rm_30 (V : Vt) : rmV V 30 = V 3 := rfl
theorem rm_31 (V : Vt) (i : Nat) : rmV V (30 + (i + 1)) = V (30 + i) := by unfold rmV; rw [if_neg (by omega), if_neg (by omega), if_pos (by omega)]; congr 1
theorem MI.rm {V : Vt} {I I' : It} {L : Lt} (h : MI V I L) (hb : V 0 1 ≤ 4 ∧ V 0 3 ≤ 4) (h4 : V 0 4 ≤ 40) (g1 : ∀ z, z < 417 → I' 271 (417 * min (V 0 4) 39 + z) = I 266 z) (g2 : ∀ i z, i < min (V 0 4) 39 → z < 417 → I' 271 (417 * (min (V 0 4) 39 - 1 - i) + z) = I 271 (417 * (V 0 4 - 1 - i) + z)) (o : ∀ q, q ≠ 253 → q ≠ 271 → I' q = I q) (e : I' 253 41 = nI (min (V 0 4) 39 + 1)) (eo : ∀ j, j ≠ 41 → I' 253 j = I 253 j) : MI (rmV V) I' L := by
  refine ⟨h.1.mv hb (h.1.1.c4 (by rw [rm_4]; exact e) (by rw [eo 51 (by decide), rm_0 V (by decide)]; exact h.1.1.2.2.2.2.2.2.2.2.2) (fun j j4 _ => eo j j4) (fun q q4 _ => rm_0 V q4) (rm_o V (by decide) (by decide))) (rm_0 V (by decide)) (rm_0 V (by decide)) (rm_0 V (by decide)) (rm_0 V (by decide)) (fun p p0 _ _ p3 => rm_o V p0 p3) (fun q q1 _ q3 _ => o q q1 q3) ?_ ?_, ?_⟩
  · intro i hi
    rw [rm_4] at hi ⊢
    match i with
    | 0 => rw [show 30 + 0 = 30 from rfl, rm_30]; exact h.2.co (fun z hz => g1 z hz)
    | i + 1 => rw [rm_31]; exact (h.1.2.2.2.2.2.2.1 i (by omega)).co (fun z hz => by show I' 271 (417 * (min (V 0 4) 39 + 1 - 1 - (i + 1)) + z) = _; rw [show min (V 0 4) 39 + 1 - 1 - (i + 1) = min (V 0 4) 39 - 1 - i by omega]; exact g2 i z (by omega) hz)
  · intro z
    rw [rm_0 V (by decide)] at z
    rw [o 278 (by decide) (by decide), rm_o V (by decide) (by decide)]
    exact h.1.2.2.2.2.2.2.2.2.1 z
  · rw [o 266 (by decide) (by decide), rm_o V (by decide) (by decide)]; exact h.2
set_option maxRecDepth 20000 in
set_option maxHeartbeats 1000000 in
theorem l_rm3 {G : Gt} {l : Launch} {Z : Zt} {R : Rt} {I : It} {L : Lt} {post : Pt'} {V : Vt} (W : WF Z R) (hM : MI V I L) (hb : V 0 1 ≤ 4 ∧ V 0 3 ≤ 4) (h4 : V 0 4 ≤ 40) (he : V 0 4 = 40) (h : ∀ I', MI (rmV V) I' L → (∀ q, q ≠ 253 → q ≠ 271 → I' q = I q) → (∀ j, j ≠ 41 → I' 253 j = I 253 j) → post none Z R I' L) (J : It) (j1 : ∀ z, z < 16263 → J 271 z = I 271 (z + 417)) (j2 : ∀ q, q ≠ 271 → J q = I q) : Sx G l mX12_remember 1 0 0 40 [(1, .int (nI 16263)), (0, .ref 253)] [] Z R J L post := by
  refine Sx.aload_n dX12_remember_40 rfl ?_
  refine Sx.dup dX12_remember_41 rfl ?_
  refine Sx.getfV (v := (nI 40)) dX12_remember_42 lkf_X12_317_12 (o_253 W) (by rw [j2 253 (by decide), hM.1.1.2.2.2.2.2.2.2.1, he]) ?_
  refine Sx.iconst (v := (nI 1)) dX12_remember_45 (by decide) ?_
  refine Sx.isubN dX12_remember_46 (by omega) ?_
  refine Sx.putfV dX12_remember_47 lkp_X12_317_12 (o_253 W) rfl rfl (fun I1 e1 o1 => ?_)
  refine Sx.iconst (v := (nI 0)) dX12_remember_50 (by decide) ?_
  refine Sx.istore_n (lv' := [(1, .int (nI 0)), (0, .ref 253)]) dX12_remember_51 (by decide) rfl ?_
  refine l_rm2 W (a := 39) (by rw [e1, upd_at]) (by omega) (fun K k1 k2 k3 k4 => ?_) 418 0 (by decide) (by decide) I1 (fun z hz => by omega) (fun _ _ => rfl) (fun _ _ => rfl)
  have hm : min (V 0 4) 39 = 39 := by omega
  have kk : ∀ j, j ≠ 41 → K 253 j = I 253 j := fun j hj => by rw [k4, upd_nj _ _ hj, e1, upd_nj _ _ hj, j2 253 (by decide)]
  have ko : ∀ q, q ≠ 253 → q ≠ 271 → K q = I q := fun q q1 q2 => by rw [k3 q q1 q2, o1 q q1, j2 q q2]
  refine h K (hM.rm hb h4 (fun z hz => ?_) (fun i z hi hz => ?_) ko (by rw [k4, upd_at, hm]) kk) ko kk
  · rw [hm, k1 z hz, o1 266 (by decide), j2 266 (by decide)]
  · rw [hm] at hi ⊢
    rw [k2 _ (by omega), o1 271 (by decide), j1 _ (by omega)]
    congr 1
    omega
set_option maxRecDepth 20000 in
set_option maxHeartbeats 1000000 in
theorem k_remember {G : Gt} {l : Launch} {Z : Zt} {R : Rt} {I : It} {L : Lt} {post : Pt'} {V : Vt} (W : WF Z R) (hM : MI V I L) (hb : V 0 1 ≤ 4 ∧ V 0 3 ≤ 4) (h4 : V 0 4 ≤ 40) (h : ∀ I', MI (rmV V) I' L → (∀ q, q ≠ 253 → q ≠ 271 → I' q = I q) → (∀ j, j ≠ 41 → I' 253 j = I 253 j) → post none Z R I' L) : Cx G l mX12_remember 1 0 0 [.ref 253] Z R I L post := by
  refine Cx.of (by decide +kernel) (by exact Nat.le_of_ble_eq_true rfl) ?_
  have hs := fun he => l_rm3 (G := G) (l := l) (post := post) W hM hb h4 he h
  refine Sx.aload_n dX12_remember_0 rfl ?_
  refine Sx.getfV (v := (nI (V 0 4))) dX12_remember_1 lkf_X12_317_12 (o_253 W) hM.1.1.2.2.2.2.2.2.2.1 ?_
  refine Sx.bipush (v := (nI 40)) dX12_remember_4 (by decide) ?_
  refine Sx.icmp_neV (t := 50) dX12_remember_6 (by decide) (vN (by omega)) (vN (by decide)) (fun c6 => ?_) (fun c6 => ?_)
  · refine Sx.iconst (v := (nI 0)) dX12_remember_50 (by decide) ?_
    refine Sx.istore_n (lv' := [(1, .int (nI 0)), (0, .ref 253)]) dX12_remember_51 (by decide) rfl ?_
    refine l_rm2 W hM.1.1.2.2.2.2.2.2.2.1 (by omega) (fun J j1 j2 j3 j4 => ?_) 418 0 (by decide) (by decide) I (fun z hz => by omega) (fun _ _ => rfl) (fun _ _ => rfl)
    exact h J (hM.rm hb h4 (fun z hz => by rw [show min (V 0 4) 39 = V 0 4 by omega]; exact j1 z hz) (fun i z hi hz => by rw [show min (V 0 4) 39 = V 0 4 by omega]; exact j2 _ (by omega)) j3 (by rw [j4, upd_at, show min (V 0 4) 39 = V 0 4 by omega]) (fun j hj => by rw [j4, upd_nj _ _ hj])) j3 (fun j hj => by rw [j4, upd_nj _ _ hj])
  · refine Sx.iconst (v := (nI 0)) dX12_remember_9 (by decide) ?_
    refine Sx.istore_n (lv' := [(1, .int (nI 0)), (0, .ref 253)]) dX12_remember_10 (by decide) rfl ?_
    refine Sx.sub' [(1, .int (nI 0)), (0, .ref 253)] rfl ?_
    exact l_rm1 W (fun J j1 j2 => hs (by omega) J j1 j2) 16264 0 (by decide) (by decide) I (fun z hz => by omega) (fun _ _ => rfl) (fun _ _ => rfl)
/-! the frame of a call of the reference -/
def FM (R : Rt) (I : It) (L : Lt) (R' : Rt) (I' : It) (L' : Lt) : Prop := (∀ q, q < 253 ∨ 278 < q → I' q = I q) ∧ (∀ q, q < 253 ∨ 278 < q → L' q = L q) ∧ ∀ a j, ¬ (a = 253 ∧ j = 5) → R' a j = R a j
theorem FM.rf (R : Rt) (I : It) (L : Lt) : FM R I L R I L := ⟨fun _ _ => rfl, fun _ _ => rfl, fun _ _ _ => rfl⟩
theorem FM.tr {R R1 R2 : Rt} {I I1 I2 : It} {L L1 L2 : Lt} (h : FM R I L R1 I1 L1) (g : FM R1 I1 L1 R2 I2 L2) : FM R I L R2 I2 L2 := ⟨fun q hq => (g.1 q hq).trans (h.1 q hq), fun q hq => (g.2.1 q hq).trans (h.2.1 q hq), fun a j hj => (g.2.2 a j hj).trans (h.2.2 a j hj)⟩
theorem FM.i {R : Rt} {I I' : It} {L : Lt} (h : ∀ q, q < 253 ∨ 278 < q → I' q = I q) : FM R I L R I' L := ⟨h, fun _ _ => rfl, fun _ _ _ => rfl⟩
theorem FL.fm {R R' : Rt} {I I' : It} {L L' : Lt} (h : FL R I L R' I' L') : FM R I L R' I' L' := ⟨fun q hq => h.1 q (by omega), fun q hq => h.2.2.1 q (by omega), h.2.2.2⟩
theorem FT.fm {R R' : Rt} {I I' : It} {L L' : Lt} (h : FT R I L R' I' L') : FM R I L R' I' L' := ⟨fun q hq => h.1 q (by omega), fun q hq => h.2.2.1 q (by omega), h.2.2.2⟩
theorem FM.wf {Z : Zt} {R R' : Rt} {I I' : It} {L L' : Lt} (W : WF Z R) (h : FM R I L R' I' L') : WF Z R' := W.fr h.2.2
def HV (V : Vt) : Prop := (V 0 1 ≤ 4 ∧ V 0 2 ≤ V 0 1 ∧ ∀ i, i < V 0 1 → LOK (V (10 + i)) (V (10 + i) 240)) ∧ V 0 3 ≤ 4 ∧ V 0 4 ≤ 40 ∧ PB (V 2) ∧ SG (V 2) (V 3)
theorem GV.hv {N : Nat} {V : Vt} (h : GV N V) (hp : V 2 35 ≠ 0) : HV V := by
  obtain ⟨-, g1, g2, g3, -, -, g7⟩ := h
  rcases g7 with z | ⟨z1, z2, -, -⟩
  · exact absurd z.1 hp
  · exact ⟨g1, g2.1, g3.1, z1, z2⟩
theorem HV.rm {V : Vt} (h : HV V) : HV (rmV V) := by
  obtain ⟨⟨g1, g2, g3⟩, h3, h4, hP, hS⟩ := h
  refine ⟨⟨by rw [rm_0 V (by decide)]; exact g1, by rw [rm_0 V (by decide), rm_0 V (by decide)]; exact g2, fun i hi => ?_⟩, by rw [rm_0 V (by decide)]; exact h3, by rw [rm_4]; omega, by rw [rm_o V (by decide) (by decide)]; exact hP, by rw [rm_o V (by decide) (by decide), rm_o V (by decide) (by decide)]; exact hS⟩
  rw [rm_0 V (by decide)] at hi
  rw [rm_o V (by omega) (by omega)]
  exact g3 i hi
theorem HV.v3 {V : Vt} (h : HV V) {F : Nat → Nat} (hF : SG (V 2) F) : HV (vr V 3 F) := by
  obtain ⟨⟨g1, g2, g3⟩, h3, h4, hP, hS⟩ := h
  exact ⟨⟨g1, g2, fun i hi => by rw [vr_o V F (show 10 + i ≠ 3 by omega)]; exact g3 i hi⟩, h3, h4, hP, hF⟩
theorem wl_rm {V : Vt} (h : HV V) : wlV (rmV V) = wlV V := by
  unfold wlV
  rw [rm_0 V (by decide)]
  split
  · rfl
  · rw [rm_o V (by omega) (by have := h.1; omega)]
theorem wl_v3 (V : Vt) (F : Nat → Nat) : wlV (vr V 3 F) = wlV V := by
  unfold wlV
  rw [vr_o V F (show 0 ≠ 3 by decide)]
  split
  · rfl
  · rw [vr_o V F (by omega)]
theorem pdN_SG {P F : Nat → Nat} {w : Wt} (hP : PB P) (h : SG P F) (hc : F 144 < 999 ∨ F 145 + 1 < P 0) : SG P (pdN P w F) := by
  obtain ⟨h1, h2, h3, h4⟩ := h
  obtain ⟨p1, p2, p3, p4, p5, p6, p7, p8, p9⟩ := id hP
  have e145 := h1.2.2.2.2.2.2.2.2.2.2.2.2.2.1
  refine ⟨pdN_SB hP h1 (by omega), ?_, fun p q1 q2 => ?_, fun k q1 q2 => ?_⟩
  · rw [pd_144 p6 p8 (by omega)]; split <;> omega
  · rw [← h3 p q1 q2]
    have e : nextN (seenN P w F) (F 145 + 1) p = F p := by
      unfold nextN upn
      rw [if_neg (by omega), if_neg (by omega), if_neg (by omega)]
      exact seen_o p8 (by omega) (by omega) (by omega) (by omega)
    unfold pdN
    split
    · unfold eyN upn trnN
      rw [if_neg (by omega), if_pos (by omega), if_neg (fun z => by omega), e]
    · exact e
  · rw [← h4 k q1 q2]
    have e : nextN (seenN P w F) (F 145 + 1) (12 + k) = F (12 + k) := by
      unfold nextN upn
      rw [if_neg (by omega), if_neg (by omega), if_neg (by omega)]
      exact seen_o p8 (by omega) (by omega) (by omega) (by omega)
    unfold pdN
    split
    · unfold eyN upn trnN
      rw [if_neg (by omega), if_neg (by omega), if_neg (by omega), if_neg (by omega), if_neg (by omega), if_neg (by omega), e]
    · exact e
theorem HV.go {V : Vt} (h : HV V) (hc : V 3 144 < 999 ∨ V 3 145 + 1 < V 2 0) : HV (goV V) := h.v3 (pdN_SG h.2.2.2.1 h.2.2.2.2 hc)
/-! the log of a year that ends -/
theorem lg_s {r q g : Nat} (hr : r < 256) (hq : q < 256) : lgN r q g = r + q * 256 + g * 65536 := by
  unfold lgN
  have h2 : r + q * 2 ^ 8 < 2 ^ 16 := by omega
  rw [dn_or (show r < 2 ^ 8 by omega), dn_or h2]
theorem lgd_c {F G : Nat → Nat} {i j : Nat} (w : Int32) (h : F (78 + (F 144 - 1 - i) % 60) = G (78 + (G 144 - 1 - j) % 60)) : lgd F i w = lgd G j w := by unfold lgd; rw [h]
theorem LGm.keep {f g : Nat → Int32} {F F' : Nat → Nat} (h : LGm f F) (e : ∀ z, 236 ≤ z → g z = f z) (e4 : F' 144 = F 144) (eo : ∀ j, j < 60 → F' (78 + j) = F (78 + j)) : LGm g F' := by
  refine ⟨by rw [e 236 (by decide), e4]; exact h.1, fun i w hi hw => ?_⟩
  rw [e4] at hi ⊢
  rw [e _ (by omega), h.2 i w hi hw]
  exact (lgd_c _ (by rw [e4]; exact eo _ (Nat.mod_lt _ (by decide)))).symm
theorem LGm.go {f g : Nat → Int32} {F F' : Nat → Nat} {r q v : Nat} (h : LGm f F) (hr : r < 256) (hq : q < 256) (hv : v < 256) (e0 : F' 144 = F 144 + 1) (eX : F' (78 + F 144 % 60) = lgN r q v) (eo : ∀ j, j < 60 → j ≠ F 144 % 60 → F' (78 + j) = F (78 + j)) (g0 : g 236 = nI (min 59 (F 144) + 1)) (g1 : g (237 + 3 * min 59 (F 144)) = nI r) (g2 : g (237 + 3 * min 59 (F 144) + 1) = nI q) (g3 : g (237 + 3 * min 59 (F 144) + 2) = iI ((v : Int) - 1)) (g4 : ∀ i w, i < min 59 (F 144) → w < 3 → g (237 + 3 * (min 59 (F 144) - 1 - i) + w) = f (237 + 3 * (min 60 (F 144) - 1 - i) + w)) : LGm g F' := by
  have hm : min 60 (F' 144) = min 59 (F 144) + 1 := by omega
  refine ⟨by rw [hm]; exact g0, fun i w hi hw => ?_⟩
  rw [hm] at hi ⊢
  match i with
  | 0 =>
    have hX : F' (78 + (F' 144 - 1 - 0) % 60) = r + q * 256 + v * 65536 := by rw [e0, show F 144 + 1 - 1 - 0 = F 144 by omega, eX, lg_s hr hq]
    unfold lgd
    rw [hX]
    match w with
    | 0 => rw [if_pos (show nI 0 = 0 from rfl), show (r + q * 256 + v * 65536) % 256 = r by omega]; exact g1
    | 1 => rw [if_neg (show ¬ nI 1 = 0 by decide), if_pos (show nI 1 = 1 from rfl), show (r + q * 256 + v * 65536) / 2 ^ 8 % 256 = q by omega]; exact g2
    | 2 => rw [if_neg (show ¬ nI 2 = 0 by decide), if_neg (show ¬ nI 2 = 1 by decide), show (r + q * 256 + v * 65536) / 2 ^ 16 = v by omega, nI_iI, show (1 : Int32) = iI 1 by decide, iI_sub]; exact g3
    | w + 3 => omega
  | i + 1 =>
    rw [show min 59 (F 144) + 1 - 1 - (i + 1) = min 59 (F 144) - 1 - i by omega, g4 i w (by omega) hw, h.2 i w (by omega) hw]
    refine lgd_c _ ?_
    rw [e0, show F 144 + 1 - 1 - (i + 1) = F 144 - 1 - i by omega]
    refine (eo _ (Nat.mod_lt _ (by decide)) ?_).symm
    omega
set_option maxRecDepth 20000 in
set_option maxHeartbeats 1000000 in
theorem l_gn1 {G : Gt} {l : Launch} {Z : Zt} {R : Rt} {L : Lt} {post : Pt'} {I0 : It} {lt : Nat} (W : WF Z R) (h : ∀ I', (∀ z, 1 ≤ z → z ≤ 177 → I' 266 (236 + z) = I0 266 (236 + z + 3)) → (∀ z, z ≤ 236 → I' 266 z = I0 266 z) → (∀ q, q ≠ 266 → I' q = I0 q) → Sx G l mX12_goNow 38 0 0 71 [(2, .int (nI 178)), (0, .ref 253), (1, .int (nI lt))] [] Z R I' L post) :
    ∀ (k j : Nat), 1 ≤ j → j ≤ 178 → 178 < j + k → ∀ (I : It), (∀ z, 1 ≤ z → z < j → I 266 (236 + z) = I0 266 (236 + z + 3)) → (∀ z, z ≤ 236 ∨ 236 + j ≤ z → I 266 z = I0 266 z) → (∀ q, q ≠ 266 → I q = I0 q) → Sx G l mX12_goNow 38 0 0 36 [(2, .int (nI j)), (0, .ref 253), (1, .int (nI lt))] [] Z R I L post := by
  intro k
  induction k with
  | zero => intro j h0 h1 h2; omega
  | succ k ih =>
    intro j h0 h1 h2 I hc hd hI
    refine Sx.iload_n dX12_goNow_36 rfl ?_
    refine Sx.sipush (v := (nI 177)) dX12_goNow_37 (by decide) ?_
    refine Sx.icmp_gtV (t := 71) dX12_goNow_40 (by decide) (vN (by omega)) (vN (by decide)) (fun c40 => ?_) (fun c40 => ?_)
    · refine Sx.sub' [(2, .int (nI 178)), (0, .ref 253), (1, .int (nI lt))] (by rw [show j = 178 by omega]; rfl) ?_
      have hj : j = 178 := by omega
      subst hj
      exact h I (fun z z1 z2 => hc z z1 (by omega)) (fun z hz => hd z (by omega)) hI
    · refine Sx.aload_n dX12_goNow_43 rfl ?_
      refine Sx.getfR dX12_goNow_44 lkf_X12_61_12 (o_253 W) (r_253_32 W) ?_
      refine Sx.sipush (v := (nI 236)) dX12_goNow_47 (by decide) ?_
      refine Sx.iload_n dX12_goNow_50 rfl ?_
      refine Sx.iaddN dX12_goNow_51 ?_
      refine Sx.aload_n dX12_goNow_52 rfl ?_
      refine Sx.getfR dX12_goNow_53 lkf_X12_61_12 (o_253 W) (r_253_32 W) ?_
      refine Sx.sipush (v := (nI 236)) dX12_goNow_56 (by decide) ?_
      refine Sx.iload_n dX12_goNow_59 rfl ?_
      refine Sx.iaddN dX12_goNow_60 ?_
      refine Sx.iconst (v := (nI 3)) dX12_goNow_61 (by decide) ?_
      refine Sx.iaddN dX12_goNow_62 ?_
      refine Sx.ialdN dX12_goNow_63 (a_266 W) (by omega) (by decide) (v := (I0 266 ((236 + j) + 3))) (by rw [hd _ (by omega)]) ?_
      refine Sx.iastN dX12_goNow_64 (a_266 W) (by omega) (by decide) (fun I1 e1 o1 => ?_)
      refine Sx.iinc (v := (nI (j + 1))) (lv' := [(2, .int (nI (j + 1))), (0, .ref 253), (1, .int (nI lt))]) dX12_goNow_65 rfl (nI_add j 1) (by decide) rfl ?_
      refine Sx.goto (t := 36) dX12_goNow_68 (by decide) ?_
      refine Sx.sub' [(2, .int (nI (j + 1))), (0, .ref 253), (1, .int (nI lt))] rfl ?_
      refine ih (j + 1) (by omega) (by omega) (by omega) I1 (fun z y1 y2 => ?_) (fun z hz => ?_) (fun q hq => (o1 q hq).trans (hI q hq))
      · rw [e1]
        by_cases q : 236 + z = 236 + j
        · rw [q, upd_at]
        · rw [upd_nj _ _ q]; exact hc z y1 (by omega)
      · rw [e1, upd_nj _ _ (by omega)]; exact hd z (by omega)
set_option maxRecDepth 20000 in
set_option maxHeartbeats 1000000 in
theorem l_gn2 {G : Gt} {l : Launch} {Z : Zt} {R : Rt} {I : It} {L : Lt} {post : Pt'} {lt m r : Nat} (W : WF Z R) (hm : I 266 236 = nI m) (hm9 : m ≤ 59) (hr : I 253 39 = nI r) (hr9 : r < 30) (h : ∀ I', I' 266 = upd (upd (upd (upd (I 266) (237 + 3 * m) (nI r)) (237 + 3 * m + 1) (I 266 (26 + r))) (237 + 3 * m + 2) (I 266 23)) 236 (nI (m + 1)) → (∀ q, q ≠ 266 → I' q = I q) → post (some (.int (nI lt))) Z R I' L) : Sx G l mX12_goNow 38 0 0 83 [(0, .ref 253), (1, .int (nI lt))] [] Z R I L post := by
  refine Sx.sipush (v := (nI 237)) dX12_goNow_83 (by decide) ?_
  refine Sx.iconst (v := (nI 3)) dX12_goNow_86 (by decide) ?_
  refine Sx.aload_n dX12_goNow_87 rfl ?_
  refine Sx.getfR dX12_goNow_88 lkf_X12_61_12 (o_253 W) (r_253_32 W) ?_
  refine Sx.sipush (v := (nI 236)) dX12_goNow_91 (by decide) ?_
  refine Sx.ialdN dX12_goNow_94 (a_266 W) (by omega) (by decide) (v := (nI m)) (by exact hm) ?_
  refine Sx.imulN dX12_goNow_95 ?_
  refine Sx.iaddN dX12_goNow_96 ?_
  refine Sx.istore_n (lv' := [(2, .int (nI (237 + (3 * m)))), (0, .ref 253), (1, .int (nI lt))]) dX12_goNow_97 (by decide) rfl ?_
  refine Sx.aload_n dX12_goNow_98 rfl ?_
  refine Sx.getfR dX12_goNow_99 lkf_X12_61_12 (o_253 W) (r_253_32 W) ?_
  refine Sx.iload_n dX12_goNow_102 rfl ?_
  refine Sx.aload_n dX12_goNow_103 rfl ?_
  refine Sx.getfV (v := (nI r)) dX12_goNow_104 lkf_X12_362_12 (o_253 W) hr ?_
  refine Sx.iastN dX12_goNow_107 (a_266 W) (by omega) (by decide) (fun I1 e1 o1 => ?_)
  refine Sx.aload_n dX12_goNow_108 rfl ?_
  refine Sx.getfR dX12_goNow_109 lkf_X12_61_12 (o_253 W) (r_253_32 W) ?_
  refine Sx.iload_n dX12_goNow_112 rfl ?_
  refine Sx.iconst (v := (nI 1)) dX12_goNow_113 (by decide) ?_
  refine Sx.iaddN dX12_goNow_114 ?_
  refine Sx.aload_n dX12_goNow_115 rfl ?_
  refine Sx.getfR dX12_goNow_116 lkf_X12_61_12 (o_253 W) (r_253_32 W) ?_
  refine Sx.bipush (v := (nI 26)) dX12_goNow_119 (by decide) ?_
  refine Sx.aload_n dX12_goNow_121 rfl ?_
  refine Sx.getfV (v := (nI r)) dX12_goNow_122 lkf_X12_362_12 (o_253 W) (by rw [o1 253 (by decide)]; exact hr) ?_
  refine Sx.iaddN dX12_goNow_125 ?_
  refine Sx.ialdN dX12_goNow_126 (a_266 W) (by omega) (by decide) (v := (I 266 (26 + r))) (by rw [e1, upd_nj _ _ (by omega)]) ?_
  refine Sx.iastN dX12_goNow_127 (a_266 W) (by omega) (by decide) (fun I2 e2 o2 => ?_)
  refine Sx.aload_n dX12_goNow_128 rfl ?_
  refine Sx.getfR dX12_goNow_129 lkf_X12_61_12 (o_253 W) (r_253_32 W) ?_
  refine Sx.iload_n dX12_goNow_132 rfl ?_
  refine Sx.iconst (v := (nI 2)) dX12_goNow_133 (by decide) ?_
  refine Sx.iaddN dX12_goNow_134 ?_
  refine Sx.aload_n dX12_goNow_135 rfl ?_
  refine Sx.getfR dX12_goNow_136 lkf_X12_61_12 (o_253 W) (r_253_32 W) ?_
  refine Sx.bipush (v := (nI 23)) dX12_goNow_139 (by decide) ?_
  refine Sx.ialdN dX12_goNow_141 (a_266 W) (by omega) (by decide) (v := (I 266 (23))) (by rw [e2, upd_nj _ _ (by omega), e1, upd_nj _ _ (by omega)]) ?_
  refine Sx.iastN dX12_goNow_142 (a_266 W) (by omega) (by decide) (fun I3 e3 o3 => ?_)
  refine Sx.aload_n dX12_goNow_143 rfl ?_
  refine Sx.getfR dX12_goNow_144 lkf_X12_61_12 (o_253 W) (r_253_32 W) ?_
  refine Sx.sipush (v := (nI 236)) dX12_goNow_147 (by decide) ?_
  refine Sx.dup2 dX12_goNow_150 rfl rfl ?_
  refine Sx.ialdN dX12_goNow_151 (a_266 W) (by omega) (by decide) (v := (nI m)) (by rw [e3, upd_nj _ _ (by omega), e2, upd_nj _ _ (by omega), e1, upd_nj _ _ (by omega)]; exact hm) ?_
  refine Sx.iconst (v := (nI 1)) dX12_goNow_152 (by decide) ?_
  refine Sx.iaddN dX12_goNow_153 ?_
  refine Sx.iastN dX12_goNow_154 (a_266 W) (by omega) (by decide) (fun I4 e4 o4 => ?_)
  refine Sx.iload_n dX12_goNow_155 rfl ?_
  refine Sx.iret dX12_goNow_156 rfl rfl ?_
  exact h I4 (by rw [e4, e3, e2, e1]) (fun q hq => by rw [o4 q hq, o3 q hq, o2 q hq, o1 q hq])
theorem nx_o {P F : Nat → Nat} {w : Wt} (h35 : P 35 ≤ 6) {q : Nat} (h1 : q ≠ 142) (h2 : ¬ (6 ≤ q ∧ q < 12)) (h3 : q ≠ 18 + F 145) (h4 : q ≠ 48 + F 145) (h5 : q ≠ 140) (h6 : q ≠ 141) (h7 : q ≠ 145) : nextN (seenN P w F) (F 145 + 1) q = F q := by
  unfold nextN upn
  rw [if_neg h7, if_neg h6, if_neg h5]
  exact seen_o h35 h1 h2 h3 h4
theorem pd_lo {P F : Nat → Nat} {w : Wt} (hP : PB P) (hS : SB P F) {j : Nat} (hj : j < 60) (h : j ≠ F 144 % 60 ∨ F 145 + 1 < P 0) : pdN P w F (78 + j) = F (78 + j) := by
  obtain ⟨p1, p2, p3, p4, p5, p6, p7, p8, p9⟩ := id hP
  have e145 := hS.2.2.2.2.2.2.2.2.2.2.2.2.2.1
  have e := nx_o (P := P) (F := F) (w := w) p8 (q := 78 + j) (by omega) (by omega) (by omega) (by omega) (by omega) (by omega) (by omega)
  have e4 := nx_o (P := P) (F := F) (w := w) p8 (q := 144) (by omega) (by omega) (by omega) (by omega) (by omega) (by omega) (by omega)
  unfold pdN
  split
  · unfold eyN upn
    rw [e4, if_neg (by omega)]
    unfold trnN
    rw [if_neg (by omega), if_neg (by omega), if_neg (by omega), if_neg (by omega), if_neg (by omega), e]
  · exact e
theorem pd_lg {P F : Nat → Nat} {w : Wt} (hP : PB P) (hS : SB P F) (hd : F 145 + 1 = P 0) : pdN P w F (78 + F 144 % 60) = lgN (dkN (nextN (seenN P w F) (F 145 + 1)) (P 0) - 1) (pdN P w F (18 + (dkN (nextN (seenN P w F) (F 145 + 1)) (P 0) - 1))) (pdN P w F 143) := by
  obtain ⟨p1, p2, p3, p4, p5, p6, p7, p8, p9⟩ := id hP
  have e145 := hS.2.2.2.2.2.2.2.2.2.2.2.2.2.1
  have e4 := nx_o (P := P) (F := F) (w := w) p8 (q := 144) (by omega) (by omega) (by omega) (by omega) (by omega) (by omega) (by omega)
  have e5 : nextN (seenN P w F) (F 145 + 1) 145 = P 0 := by unfold nextN upn; rw [if_pos rfl, hd]
  have hk := dkN_le (nextN (seenN P w F) (F 145 + 1)) (P 0)
  unfold pdN
  rw [if_pos (by omega)]
  unfold eyN
  rw [e4, e5]
  generalize hD : dkN (nextN (seenN P w F) (F 145 + 1)) (P 0) - 1 = D
  have hD9 : D < 30 := by omega
  have c1 : upn (trnN P (nextN (seenN P w F) (F 145 + 1)) (nextN (seenN P w F) (F 145 + 1) (48 + D))) (78 + F 144 % 60) (lgN D (nextN (seenN P w F) (F 145 + 1) (18 + D)) (amp (vcN (nextN (seenN P w F) (F 145 + 1) (48 + D))) (P 34))) (18 + D) = nextN (seenN P w F) (F 145 + 1) (18 + D) := by
    unfold upn
    rw [if_neg (by omega)]
    unfold trnN
    rw [if_neg (by omega), if_neg (by omega), if_neg (by omega), if_neg (by omega), if_neg (by omega)]
  have c2 : upn (trnN P (nextN (seenN P w F) (F 145 + 1)) (nextN (seenN P w F) (F 145 + 1) (48 + D))) (78 + F 144 % 60) (lgN D (nextN (seenN P w F) (F 145 + 1) (18 + D)) (amp (vcN (nextN (seenN P w F) (F 145 + 1) (48 + D))) (P 34))) 143 = amp (vcN (nextN (seenN P w F) (F 145 + 1) (48 + D))) (P 34) := by
    unfold upn
    rw [if_neg (by omega)]
    unfold trnN
    rw [if_neg (by omega), if_neg (by omega), if_neg (by omega), if_pos rfl]
  rw [c1, c2]
  exact upn_eq _ _ _
theorem gn_fin {V : Vt} {I I1 I' : It} {B : Nat → Int32} (hP : PB (V 2)) (hS : SB (V 2) (V 3)) (hd : V 3 145 + 1 = V 2 0) (hy : V 3 144 + 1 < 1048576) (hF1 : MW (I1 266) (pdN (V 2) (wlV V) (V 3))) (hL : LGm (I 266) (V 3)) (b1 : ∀ z, z < 236 → B z = I1 266 z) (b2 : ∀ i w, i < min 59 (V 3 144) → w < 3 → B (237 + 3 * (min 59 (V 3 144) - 1 - i) + w) = I 266 (237 + 3 * (min 60 (V 3 144) - 1 - i) + w))
    (e : I' 266 = upd (upd (upd (upd B (237 + 3 * min 59 (V 3 144)) (nI (dkN (nextN (seenN (V 2) (wlV V) (V 3)) (V 3 145 + 1)) (V 2 0) - 1))) (237 + 3 * min 59 (V 3 144) + 1) (B (26 + (dkN (nextN (seenN (V 2) (wlV V) (V 3)) (V 3 145 + 1)) (V 2 0) - 1)))) (237 + 3 * min 59 (V 3 144) + 2) (B 23)) 236 (nI (min 59 (V 3 144) + 1))) : MN (I' 266) (pdN (V 2) (wlV V) (V 3)) := by
  have hS1 := pdN_SB (w := wlV V) hP hS hy
  have hk := dkN_le (nextN (seenN (V 2) (wlV V) (V 3)) (V 3 145 + 1)) (V 2 0)
  have hX := pd_lg (w := wlV V) hP hS hd
  have p2 := hP.2.1
  have p1 := hP.1
  have p6 := hP.2.2.2.2.2.1
  have p8 := hP.2.2.2.2.2.2.2.1
  generalize hD : dkN (nextN (seenN (V 2) (wlV V) (V 3)) (V 3 145 + 1)) (V 2 0) - 1 = D at e hX
  have hD9 : D < 30 := by omega
  have h18 := hS1.2.2.2.1 D hD9
  have h143 := hS1.2.2.2.2.2.2.2.2.2.2.2.1
  have m : min 59 (V 3 144) ≤ 59 := by omega
  refine ⟨hF1.co (fun z hz => by rw [e, upd_nj _ _ (by omega), upd_nj _ _ (by omega), upd_nj _ _ (by omega), upd_nj _ _ (by omega)]; exact b1 z hz), hL.go (r := D) (q := pdN (V 2) (wlV V) (V 3) (18 + D)) (v := pdN (V 2) (wlV V) (V 3) 143) (by omega) (by omega) (by omega) (by rw [pd_144 p6 p8 (by omega), if_pos (by omega)]) hX (fun j hj hn => pd_lo hP hS hj (Or.inl hn)) ?_ ?_ ?_ ?_ (fun i w hi hw => ?_)⟩
  · rw [e, upd_at]
  · rw [e, upd_nj _ _ (by omega), upd_nj _ _ (by omega), upd_nj _ _ (by omega), upd_at]
  · rw [e, upd_nj _ _ (by omega), upd_nj _ _ (by omega), upd_at, b1 _ (by omega)]; exact hF1.2.2.2.2.2.2.2.2.2.1 D hD9
  · rw [e, upd_nj _ _ (by omega), upd_at, b1 _ (by omega)]; exact hF1.2.2.2.2.2.2.1
  · rw [e, upd_nj _ _ (by omega), upd_nj _ _ (by omega), upd_nj _ _ (by omega), upd_nj _ _ (by omega)]; exact b2 i w hi hw
set_option maxRecDepth 20000 in
set_option maxHeartbeats 1000000 in
theorem l_gn3 {G : Gt} {l : Launch} {Z : Zt} {R : Rt} {I : It} {L : Lt} {post : Pt'} {lt r : Nat} (W : WF Z R) (hm : I 266 236 = nI 60) (hr : I 253 39 = nI r) (hr9 : r < 30) (h : ∀ I' B, I' 266 = upd (upd (upd (upd B (237 + 3 * 59) (nI r)) (237 + 3 * 59 + 1) (B (26 + r))) (237 + 3 * 59 + 2) (B 23)) 236 (nI (59 + 1)) → (∀ z, z < 236 → B z = I 266 z) → (∀ z, 1 ≤ z → z ≤ 177 → B (236 + z) = I 266 (236 + z + 3)) → (∀ q, q ≠ 266 → I' q = I q) → post (some (.int (nI lt))) Z R I' L) (J : It) (j1 : ∀ z, 1 ≤ z → z ≤ 177 → J 266 (236 + z) = I 266 (236 + z + 3)) (j2 : ∀ z, z ≤ 236 → J 266 z = I 266 z) (j3 : ∀ q, q ≠ 266 → J q = I q) : Sx G l mX12_goNow 38 0 0 71 [(2, .int (nI 178)), (0, .ref 253), (1, .int (nI lt))] [] Z R J L post := by
  refine Sx.aload_n dX12_goNow_71 rfl ?_
  refine Sx.getfR dX12_goNow_72 lkf_X12_61_12 (o_253 W) (r_253_32 W) ?_
  refine Sx.sipush (v := (nI 236)) dX12_goNow_75 (by decide) ?_
  refine Sx.dup2 dX12_goNow_78 rfl rfl ?_
  refine Sx.ialdN dX12_goNow_79 (a_266 W) (by decide) (by decide) (v := (nI 60)) (by rw [j2 236 (by decide)]; exact hm) ?_
  refine Sx.iconst (v := (nI 1)) dX12_goNow_80 (by decide) ?_
  refine Sx.isubN dX12_goNow_81 (by omega) ?_
  refine Sx.iastN dX12_goNow_82 (a_266 W) (by decide) (by decide) (fun I1 e1 o1 => ?_)
  refine Sx.sub' [(0, .ref 253), (1, .int (nI lt))] rfl ?_
  refine l_gn2 (m := 59) W (by rw [e1, upd_at]) (by decide) (by rw [o1 253 (by decide), j3 253 (by decide)]; exact hr) hr9 (fun K k1 k2 => h K (upd (J 266) 236 (nI 59)) (by rw [e1] at k1; exact k1) (fun z hz => by rw [upd_nj _ _ (by omega)]; exact j2 z (by omega)) (fun z z1 z2 => by rw [upd_nj _ _ (by omega)]; exact j1 z z1 z2) (fun q hq => by rw [k2 q hq, o1 q hq, j3 q hq]))
set_option maxRecDepth 20000 in
set_option maxHeartbeats 1000000 in
theorem k_goNow {G : Gt} {l : Launch} {Z : Zt} {R : Rt} {I : It} {L : Lt} {post : Pt'} {V : Vt} (W : WF Z R) (hM : MI V I L) (hH : HV V) (h : ∀ I' R' L', MI (goV V) I' L' → FM R I L R' I' L' → (∀ q, q ≠ 269 → L' q = L q) → post (some (.int (nI (litN (V 2) (wlV V) (V 3) (V 3 145) (V 3 139) (upc (V 2) (V 3)))))) Z R' I' L') : Cx G l mX12_goNow 38 0 0 [.ref 253] Z R I L post := by
  refine Cx.of (by decide +kernel) (by exact Nat.le_of_ble_eq_true rfl) ?_
  obtain ⟨p1, p2, p3, p4, p5, p6, p7, p8, p9⟩ := id hH.2.2.2.1
  have hb : V 0 1 ≤ 4 ∧ V 0 3 ≤ 4 := ⟨hH.1.1, hH.2.1⟩
  refine Sx.aload_n dX12_goNow_0 rfl ?_
  refine Sx.aload_n dX12_goNow_1 rfl ?_
  refine Sx.getfR dX12_goNow_2 lkf_X12_61_12 (o_253 W) (r_253_32 W) ?_
  refine Sx.callV1 dX12_goNow_5 lkv_X12_372 (rcv_12 (o_253 W)) (by decide) (by decide) (Nat.le_of_ble_eq_true rfl) rfl rfl (k_passes W hM.1 hH.2.2.2.1 hH.2.2.2.2.1 hM.2.1 (Or.inl rfl) hH.1.2.2 ⟨hH.1.1, hH.1.2.1⟩ (fun I1 R1 L1 hM1 hF1 q1 q2 q3 q4 q5 q6 => ?_))
  have W := W.fr q5
  have hfm : FM R I L R1 I1 L1 := ⟨fun q hq => q1 q (by omega), fun q hq => q4 q (by omega), q5⟩
  have h5 := pd_145 (V 2) (wlV V) (V 3) p6
  have hy : V 3 144 ≤ 999 := hH.2.2.2.2.2.1
  have hd9 := hH.2.2.2.2.1.2.2.2.2.2.2.2.2.2.2.2.2.2.1
  have hpd := (pdN_SB (w := wlV V) hH.2.2.2.1 hH.2.2.2.2.1 (by omega)).2.2.2.2.2.2.2.2.2.2.2.2.2.1
  refine Sx.istore_n (lv' := [(1, .int (nI (litN (V 2) (wlV V) (V 3) (V 3 145) (V 3 139) (upc (V 2) (V 3))))), (0, .ref 253)]) dX12_goNow_8 (by decide) rfl ?_
  refine Sx.aload_n dX12_goNow_9 rfl ?_
  refine Sx.getfR dX12_goNow_10 lkf_X12_61_12 (o_253 W) (r_253_32 W) ?_
  refine Sx.bipush (v := (nI 25)) dX12_goNow_13 (by decide) ?_
  refine Sx.ialdN dX12_goNow_15 (a_266 W) (by decide) (by decide) (v := (nI (pdN (V 2) (wlV V) (V 3) 145))) hF1.2.2.2.2.2.2.2.2.1 ?_
  refine Sx.if_leV (t := 21) dX12_goNow_16 (by decide) (vN (by omega)) (fun c16 => ?_) (fun c16 => ?_)
  · refine Sx.aload_n dX12_goNow_21 rfl ?_
    refine Sx.getfR dX12_goNow_22 lkf_X12_61_12 (o_253 W) (r_253_32 W) ?_
    refine Sx.sipush (v := (nI 236)) dX12_goNow_25 (by decide) ?_
    refine Sx.ialdN dX12_goNow_28 (a_266 W) (by decide) (by decide) (v := (nI (min 60 (V 3 144)))) (by rw [q3 236 (by decide)]; exact hM.2.2.1) ?_
    refine Sx.bipush (v := (nI 60)) dX12_goNow_29 (by decide) ?_
    refine Sx.icmp_neV (t := 83) dX12_goNow_31 (by decide) (vN (by omega)) (vN (by decide)) (fun c31 => ?_) (fun c31 => ?_)
    · have hd : V 3 145 + 1 = V 2 0 := by
        rw [h5] at c16
        split at c16 <;> omega
      have hr := q6 hd
      have hk := dkN_le (nextN (seenN (V 2) (wlV V) (V 3)) (V 3 145 + 1)) (V 2 0)
      refine Sx.sub' [(0, .ref 253), (1, .int (nI (litN (V 2) (wlV V) (V 3) (V 3 145) (V 3 139) (upc (V 2) (V 3)))))] rfl ?_
      refine l_gn2 (m := min 59 (V 3 144)) W (by rw [q3 236 (by decide), hM.2.2.1]; congr 1; omega) (by omega) hr (by omega) (fun K k1 k2 => h K R1 L1 ⟨(hM1.cgw (Or.inl rfl) k2).v3 hb _, ?_⟩ (hfm.tr (FM.i fun q hq => k2 q (by omega))) q4)
      exact gn_fin (B := I1 266) hH.2.2.2.1 hH.2.2.2.2.1 hd (by omega) hF1 hM.2.2 (fun z hz => rfl) (fun i w hi hw => by rw [q3 _ (by omega), show min 59 (V 3 144) = min 60 (V 3 144) by omega]) k1
    · refine Sx.iconst (v := (nI 1)) dX12_goNow_34 (by decide) ?_
      refine Sx.istore_n (lv' := [(2, .int (nI 1)), (1, .int (nI (litN (V 2) (wlV V) (V 3) (V 3 145) (V 3 139) (upc (V 2) (V 3))))), (0, .ref 253)]) dX12_goNow_35 (by decide) rfl ?_
      have hd : V 3 145 + 1 = V 2 0 := by
        rw [h5] at c16
        split at c16 <;> omega
      have hr := q6 hd
      have hk := dkN_le (nextN (seenN (V 2) (wlV V) (V 3)) (V 3 145 + 1)) (V 2 0)
      refine Sx.sub' [(2, .int (nI 1)), (0, .ref 253), (1, .int (nI (litN (V 2) (wlV V) (V 3) (V 3 145) (V 3 139) (upc (V 2) (V 3)))))] rfl ?_
      refine l_gn1 W (fun J j1 j2 j3 => l_gn3 W (by rw [q3 236 (by decide), hM.2.2.1]; congr 1; omega) hr (by omega) (fun K B k1 k2 k3 k4 => h K R1 L1 ⟨(hM1.cgw (Or.inl rfl) k4).v3 hb _, ?_⟩ (hfm.tr (FM.i fun q hq => k4 q (by omega))) q4) J j1 j2 j3) 178 1 (by decide) (by decide) (by decide) I1 (fun z _ hz => by omega) (fun _ _ => rfl) (fun _ _ => rfl)
      have m : min 59 (V 3 144) = 59 := by omega
      refine gn_fin (B := B) hH.2.2.2.1 hH.2.2.2.2.1 hd (by omega) hF1 hM.2.2 k2 (fun i w hi hw => ?_) (by rw [m]; exact k1)
      rw [m] at hi ⊢
      rw [show 237 + 3 * (59 - 1 - i) + w = 236 + (1 + 3 * (58 - i) + w) by omega, k3 _ (by omega) (by omega), q3 _ (by omega)]
      congr 1
      omega
  · refine Sx.iload_n dX12_goNow_19 rfl ?_
    refine Sx.iret dX12_goNow_20 rfl rfl ?_
    refine h I1 R1 L1 ⟨hM1.v3 hb _, ⟨hF1, ?_⟩⟩ hfm q4
    refine hM.2.2.keep q3 ?_ (fun j hj => pd_lo hH.2.2.2.1 hH.2.2.2.2.1 hj (Or.inr ?_))
    · show pdN (V 2) (wlV V) (V 3) 144 = _
      rw [pd_144 p6 p8 (by omega), if_neg]
      intro z
      rw [h5, if_pos z] at c16
      omega
    · rw [h5] at c16
      split at c16 <;> omega
