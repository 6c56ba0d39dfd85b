/-! the class: the reader of laws: it reads -/
theorem d_takes {G : Gt} {l : Launch} {Z : Zt} {R : Rt} {I : It} {L : Lt} {post : Pt'} {T : Nat → Nat} {n a c : Nat} {s : Lm} (W : WF Z R) (hr : rwo Z R a 3 240) (ha : 233 ≤ a) (hX : LX I s) (hk : LK I a s.2.2) (hT : TS I T n c) (hx0 : sgn T n c ≠ 0) (hnx : nx T n c = c) (hv : Iv s c) (hp : s.2.1 2 < 4) (h0 : ∀ I', (lmTk T n c s).1 = false → TS I' T n (lmTk T n c s).2.1 → (∀ q, q ≠ 101 → q ≠ 107 → q ≠ 109 → q ≠ a → q ≠ a + 1 → I' q = I q) → post (some (.int (b2i false))) Z R I' L) (h1 : ∀ I', (lmTk T n c s).1 = true → TS I' T n (lmTk T n c s).2.1 → LX I' (lmTk T n c s).2.2 → LK I' a (lmTk T n c s).2.2.2.2 → (∀ q, q ≠ 101 → q ≠ 107 → q ≠ 109 → q ≠ a → q ≠ a + 1 → I' q = I q) → post (some (.int (b2i true))) Z R I' L) : Cx G l mX4_takes 4 0 0 [.ref 107, .int (nI (sgn T n c)), .ref 101, .ref a] Z R I L post := by
  have hcn := sgn_lt hx0
  have hn240 := hT.2.2.1
  have hx2 := sgn_b hT c
  have hlen := hv.len
  have hle := hv.2.2.2.2.2.2
  have h36 := hv.2.2.2.1
  have h45 := hv.2.1
  have h33 := hv.2.2.1
  have hkl : s.2.2.length < 240 := by omega
  have hX' : LR I (upn s.2.1 1 s.1.length) (fun j => s.1.reverse.getD j 0) := hX
  have u2 : upn s.2.1 1 s.1.length 2 = s.2.1 2 := rfl
  have push : ∀ (I' : It) (x : Nat) (M' : Nat → Nat), LR I' M' (upn (fun j => s.1.reverse.getD j 0) s.1.length x) → M' 1 = s.1.length + 1 → M' 2 = opM x s.2.1 2 → M' 3 = opM x s.2.1 3 → M' 4 = opM x s.2.1 4 → M' 5 = opM x s.2.1 5 → M' 6 = opM x s.2.1 6 → M' 7 = opM x s.2.1 7 → M' 8 = opM x s.2.1 8 → LX I' (x :: s.1, opM x s.2.1, s.2.2) := by
    intro I' x M' h m1 m2 m3 m4 m5 m6 m7 m8
    refine cg8 h m1 m2 m3 m4 m5 m6 m7 m8 (fun j hj => ?_)
    rw [m1] at hj
    show upn (fun j => s.1.reverse.getD j 0) s.1.length x j = (x :: s.1).reverse.getD j 0
    by_cases q : j = s.1.length
    · rw [q, upn_eq, rev_at]
    · rw [upn_ne _ _ q, rev_lt (by omega)]
  by_cases p0 : s.2.1 2 = 0
  · refine d_tk0 W hX' hT rfl hx0 hx2 p0 (fun q => ?_) (fun q I1 t1 l1 o1 => ?_)
    · have ht : lmTk T n c s = (false, c, s) := by unfold lmTk; rw [if_pos p0, if_neg q]
      rw [ht] at h0
      exact h0 I rfl hT (fun _ _ _ _ _ _ => rfl)
    · have ht : lmTk T n c s = (true, c + 1, (s.1, upn s.2.1 2 1, s.2.2)) := by unfold lmTk; rw [if_pos p0, if_pos q]
      rw [ht] at h1
      exact h1 I1 rfl t1 (cg8 l1 rfl rfl rfl rfl rfl rfl rfl rfl (fun j hj => rfl)) (hk.o (o1 a (by omega) (by omega)) (o1 (a + 1) (by omega) (by omega))) (fun q q1 q2 _ _ _ => o1 q q1 q2)
  · by_cases p1 : s.2.1 2 = 1
    · refine d_tk1 W hX' hT rfl hx0 hx2 p1 (fun q I1 t1 o1 => ?_) (fun q I1 t1 l1 o1 => ?_)
      · have ht : lmTk T n c s = (false, c, s) := by unfold lmTk; rw [if_neg p0, if_pos p1, if_neg q]
        rw [ht] at h0
        exact h0 I1 rfl t1 (fun q _ q2 _ _ _ => o1 q q2)
      · have ht : lmTk T n c s = (true, c + 1, (s.1, upn (upn (upn s.2.1 6 0) 7 0) 2 2, s.2.2)) := by unfold lmTk; rw [if_neg p0, if_pos p1, if_pos q]
        rw [ht] at h1
        exact h1 I1 rfl t1 (cg8 l1 rfl rfl rfl rfl rfl rfl rfl rfl (fun j hj => rfl)) (hk.o (o1 a (by omega) (by omega)) (o1 (a + 1) (by omega) (by omega))) (fun q q1 q2 _ _ _ => o1 q q1 q2)
    · by_cases po : sgn T n c = 91 ∨ (s.2.1 2 = 2 ∧ (sgn T n c = 33 ∨ sgn T n c = 40))
      · have ht : lmTk T n c s = if 6 ≤ s.2.1 3 then (false, c, s) else (true, c + 1, (sgn T n c :: s.1, opM (sgn T n c) s.2.1, s.2.2)) := by unfold lmTk; rw [if_neg p0, if_neg p1, if_pos po]
        by_cases c6 : 6 ≤ s.2.1 3
        · rw [if_pos c6] at ht
          rw [ht] at h0
          have hh := h0 I rfl hT (fun _ _ _ _ _ _ => rfl)
          have h6' : 6 ≤ upn s.2.1 1 s.1.length 3 := c6
          have h7' : upn s.2.1 1 s.1.length 3 < 1000 := show s.2.1 3 < 1000 by omega
          rcases po with q | ⟨p2, q | q⟩
          · rw [q]
            by_cases p2 : s.2.1 2 = 2
            · exact d_tkF2_91 W hX' h6' h7' p2 hh
            · exact d_tkF3_91 W hX' h6' h7' (show s.2.1 2 = 3 by omega) hh
          · rw [q]; exact d_tkF2_33 W hX' h6' h7' p2 hh
          · rw [q]; exact d_tkF2_40 W hX' h6' h7' p2 hh
        · rw [if_neg c6] at ht
          rw [ht] at h1
          have hw : upn s.2.1 1 s.1.length 1 < 64 := show s.1.length < 64 by omega
          have m3 : upn s.2.1 1 s.1.length 3 < 6 := show s.2.1 3 < 6 by omega
          have m4 : upn s.2.1 1 s.1.length 4 < 100 := show s.2.1 4 < 100 by omega
          have m5 : upn s.2.1 1 s.1.length 5 < 100 := show s.2.1 5 < 100 by omega
          rcases po with q | ⟨p2, q | q⟩
          · rw [q] at h1 ⊢
            by_cases p2 : s.2.1 2 = 2
            · exact d_tkO2_91 W hX' hT hcn hw m4 m5 m3 p2 (fun I1 t1 l1 o1 => h1 I1 rfl t1 (push I1 91 _ l1 rfl rfl rfl rfl rfl rfl rfl rfl) (hk.o (o1 a (by omega) (by omega) (by omega)) (o1 (a + 1) (by omega) (by omega) (by omega))) (fun q q1 q2 q3 _ _ => o1 q q1 q2 q3))
            · exact d_tkO3_91 W hX' hT hcn hw m4 m5 m3 (show s.2.1 2 = 3 by omega) (fun I1 t1 l1 o1 => h1 I1 rfl t1 (push I1 91 _ l1 rfl rfl rfl rfl rfl rfl rfl rfl) (hk.o (o1 a (by omega) (by omega) (by omega)) (o1 (a + 1) (by omega) (by omega) (by omega))) (fun q q1 q2 q3 _ _ => o1 q q1 q2 q3))
          · rw [q] at h1 ⊢
            exact d_tkO2_33 W hX' hT hcn hw m4 m5 m3 p2 (fun I1 t1 l1 o1 => h1 I1 rfl t1 (push I1 33 _ l1 rfl rfl rfl rfl rfl rfl rfl rfl) (hk.o (o1 a (by omega) (by omega) (by omega)) (o1 (a + 1) (by omega) (by omega) (by omega))) (fun q q1 q2 q3 _ _ => o1 q q1 q2 q3))
          · rw [q] at h1 ⊢
            exact d_tkO2_40 W hX' hT hcn hw m4 m5 m3 p2 (fun I1 t1 l1 o1 => h1 I1 rfl t1 (push I1 40 _ l1 rfl rfl rfl rfl rfl rfl rfl rfl) (hk.o (o1 a (by omega) (by omega) (by omega)) (o1 (a + 1) (by omega) (by omega) (by omega))) (fun q q1 q2 q3 _ _ => o1 q q1 q2 q3))
      · have hs : s.2.1 2 = 2 ∨ s.2.1 2 = 3 := by omega
        by_cases hd : isDN (sgn T n c) = true
        · have ht : lmTk T n c s = if isDN (sgn T n (rdE T n c 4)) = true then (false, rdE T n c 4, s) else (true, rdE T n c 4, (s.1, upn s.2.1 2 4, s.2.2 ++ [nI (rdV T n c 4)])) := by unfold lmTk; rw [if_neg p0, if_neg p1, if_neg po, if_pos hd]
          have k0 : ∀ I', isDN (sgn T n (rdE T n c 4)) = true → TS I' T n (rdE T n c 4) → (∀ q, q ≠ 101 → q ≠ 107 → q ≠ a → q ≠ a + 1 → I' q = I q) → post (some (.int (b2i false))) Z R I' L := fun I1 z t1 o1 => by
            rw [if_pos z] at ht
            rw [ht] at h0
            exact h0 I1 rfl t1 (fun q q1 q2 _ q4 q5 => o1 q q1 q2 q4 q5)
          have k1 : ∀ I', isDN (sgn T n (rdE T n c 4)) = false → TS I' T n (rdE T n c 4) → LR I' (upn (upn s.2.1 1 s.1.length) 2 4) (fun j => s.1.reverse.getD j 0) → LK I' a (s.2.2 ++ [nI (rdV T n c 4)]) → (∀ q, q ≠ 101 → q ≠ 107 → q ≠ a → q ≠ a + 1 → I' q = I q) → post (some (.int (b2i true))) Z R I' L := fun I1 z t1 l1 kk1 o1 => by
            rw [if_neg (by rw [z]; decide)] at ht
            rw [ht] at h1
            exact h1 I1 rfl t1 (cg8 l1 rfl rfl rfl rfl rfl rfl rfl rfl (fun j hj => rfl)) kk1 (fun q q1 q2 _ q4 q5 => o1 q q1 q2 q4 q5)
          rcases hs with p2 | p2
          · exact d_tkD2 W hX' hT rfl hx0 hx2 p2 (by omega) hr ha hk hkl hnx hd (fun z I1 t1 o1 => k0 I1 z t1 o1) (fun z I1 t1 l1 kk1 o1 => k1 I1 z t1 l1 kk1 o1)
          · exact d_tkD3 W hX' hT rfl hx0 hx2 p2 (by omega) hr ha hk hkl hnx hd (fun z I1 t1 o1 => k0 I1 z t1 o1) (fun z I1 t1 l1 kk1 o1 => k1 I1 z t1 l1 kk1 o1)
        · have hd' : isDN (sgn T n c) = false := by
            cases hh : isDN (sgn T n c) with
            | false => rfl
            | true => exact absurd hh hd
          by_cases hl : isLt (sgn T n c) = true
          · have ht : lmTk T n c s = (true, c + 1, (s.1, upn s.2.1 2 4, s.2.2 ++ [lco (sgn T n c)])) := by unfold lmTk; rw [if_neg p0, if_neg p1, if_neg po, if_neg hd, if_pos hl]
            rw [ht] at h1
            have k1 : ∀ I', TS I' T n (c + 1) → LR I' (upn (upn s.2.1 1 s.1.length) 2 4) (fun j => s.1.reverse.getD j 0) → LK I' a (s.2.2 ++ [lco (sgn T n c)]) → (∀ q, q ≠ 101 → q ≠ 107 → q ≠ a → q ≠ a + 1 → I' q = I q) → post (some (.int (b2i true))) Z R I' L := fun I1 t1 l1 kk1 o1 =>
              h1 I1 rfl t1 (cg8 l1 rfl rfl rfl rfl rfl rfl rfl rfl (fun j hj => rfl)) kk1 (fun q q1 q2 _ q4 q5 => o1 q q1 q2 q4 q5)
            rcases hs with p2 | p2
            · exact d_tkL2 W hX' hT rfl hx0 hx2 p2 (by omega) hr ha hk hkl hnx hd' hl k1
            · exact d_tkL3 W hX' hT rfl hx0 hx2 p2 (by omega) hr ha hk hkl hnx hd' hl k1
          · have ht : lmTk T n c s = (false, c, s) := by unfold lmTk; rw [if_neg p0, if_neg p1, if_neg po, if_neg hd, if_neg hl]
            rw [ht] at h0
            have hh := h0 I rfl hT (fun _ _ _ _ _ _ => rfl)
            rcases hs with p2 | p2
            · exact d_tkN2 W hX' hT rfl hx0 hx2 p2 (by omega) hr ha hk hkl hnx hd' hl hh
            · exact d_tkN3 W hX' hT rfl hx0 hx2 p2 (by omega) hr ha hk hkl hnx hd' hl hh
set_option maxRecDepth 20000 in
set_option maxHeartbeats 1000000 in
theorem d_mayEnd0 {G : Gt} {l : Launch} {Z : Zt} {R : Rt} {I : It} {L : Lt} {post : Pt'} {s : Lm} {c : Nat} (W : WF Z R) (hX' : LR I (upn s.2.1 1 s.1.length) (fun j => s.1.reverse.getD j 0)) (h2 : s.2.1 2 ≤ 5) (h4 : s.2.1 2 ≠ 4) (h : post (some (.int (b2i (lmEnd s.2.1)))) Z R I L) : Cx G l mX4_mayEnd 1 0 0 [.ref 107] Z R I L post := by
  refine Cx.of (by decide +kernel) (by exact Nat.le_of_ble_eq_true rfl) ?_
  refine Sx.aload_n dX4_mayEnd_0 rfl ?_
  refine Sx.getfV (v := (nI (s.2.1 2))) dX4_mayEnd_1 lkf_X4_24_4 (o_107 W) (hX'.1 2 (by decide) (by decide)) ?_
  refine Sx.iconst (v := (nI 4)) dX4_mayEnd_4 (by decide) ?_
  refine Sx.icmp_neV (t := 40) dX4_mayEnd_5 (by decide) (vN (by omega)) (vN (by decide)) (fun c5 => ?_) (fun c5 => False.elim (by omega))
  refine Sx.iconst (v := (nI 0)) dX4_mayEnd_40 (by decide) ?_
  refine Sx.top (show _ = b2i false from rfl) ?_
  refine Sx.iret dX4_mayEnd_41 rfl (b2i_n _) ?_
  exact pBB (by unfold lmEnd; exact decide_eq_false (by omega)) h
theorem hb_of {I : It} {s : Lm} {c : Nat} (hX : LX I s) (hv : Iv s c) (hp : 2 ≤ s.2.1 2) : ∃ M, LR I M (fun j => s.1.reverse.getD j 0) ∧ (∀ j, j ≤ 8 → M j < 1000) ∧ ∀ j, 2 ≤ j → M j = s.2.1 j := by
  have hlen := hv.len
  obtain ⟨-, h45, h3, h36, h2, ⟨h67, h8⟩, -⟩ := hv
  refine ⟨upn (upn s.2.1 1 s.1.length) 0 0, cg8 hX rfl rfl rfl rfl rfl rfl rfl rfl (fun j hj => rfl), fun j hj => ?_, fun j hj => ?_⟩
  · have : j = 0 ∨ j = 1 ∨ j = 2 ∨ j = 3 ∨ j = 4 ∨ j = 5 ∨ j = 6 ∨ j = 7 ∨ j = 8 := by omega
    rcases this with rfl | rfl | rfl | rfl | rfl | rfl | rfl | rfl | rfl
    · show 0 < 1000; decide
    · show s.1.length < 1000; omega
    · show s.2.1 2 < 1000; omega
    · show s.2.1 3 < 1000; omega
    · show s.2.1 4 < 1000; omega
    · show s.2.1 5 < 1000; omega
    · show s.2.1 6 < 1000; omega
    · show s.2.1 7 < 1000; omega
    · show s.2.1 8 < 1000; omega
  · rw [upn_ne _ _ (by omega), upn_ne _ _ (by omega)]
theorem d_mayEndX {G : Gt} {l : Launch} {Z : Zt} {R : Rt} {I : It} {L : Lt} {post : Pt'} {s : Lm} {c : Nat} (W : WF Z R) (hX : LX I s) (hv : Iv s c) (h : post (some (.int (b2i (lmEnd s.2.1)))) Z R I L) : Cx G l mX4_mayEnd 1 0 0 [.ref 107] Z R I L post := by
  by_cases q : s.2.1 2 = 4
  · obtain ⟨M, hM, hb, e⟩ := hb_of hX hv (by omega)
    refine d_mayEnd W hM hb ?_
    rw [e 2 (by decide), e 5 (by decide), e 4 (by decide), e 7 (by decide), e 6 (by decide)]
    exact h
  · exact d_mayEnd0 (c := c) W hX hv.2.2.2.2.1 q h
theorem d_fitX {G : Gt} {l : Launch} {Z : Zt} {R : Rt} {I : It} {L : Lt} {post : Pt'} {s : Lm} {c x : Nat} (W : WF Z R) (hX : LX I s) (hv : Iv s c) (hp : 2 ≤ s.2.1 2) (hx2 : x < 256) (h : post (some (.int (b2i (decide (lmFit s.2.1 x))))) Z R I L) : Cx G l mX4_fitsBehind 2 0 0 [.ref 107, .int (nI x)] Z R I L post := by
  obtain ⟨M, hM, hb, e⟩ := hb_of hX hv hp
  refine d_fitB W hM hb hx2 ?_
  refine pBB (decide_eq_decide.mpr ?_) h
  unfold lmFit lmUw lmEnd
  rw [e 2 (by decide), e 5 (by decide), e 4 (by decide), e 7 (by decide), e 6 (by decide), e 8 (by decide)]
set_option maxRecDepth 20000 in
set_option maxHeartbeats 1000000 in
theorem l_reads {G : Gt} {l : Launch} {Z : Zt} {R : Rt} {L : Lt} {post : Pt'} {I0 : It} {T : Nat → Nat} {n a : Nat} (W : WF Z R) (hr : rwo Z R a 3 240) (ha : 233 ≤ a) : ∀ (f i : Nat) (s : Lm) (c : Nat) (I : It), Iv s c → LX I s → LK I a s.2.2 → TS I T n c → i ≤ c → n - c < f → (∀ q, q ≠ 101 → q ≠ 107 → q ≠ 109 → q ≠ a → q ≠ a + 1 → I q = I0 q) → ((lmM T n f s c).1 = false → ∀ I', TS I' T n (lmM T n f s c).2.1 → (∀ q, q ≠ 101 → q ≠ 107 → q ≠ 109 → q ≠ a → q ≠ a + 1 → I' q = I0 q) → post (some (.int (b2i false))) Z R I' L) → ((lmM T n f s c).1 = true → ∀ I', TS I' T n (lmM T n f s c).2.1 → LK I' a (lmM T n f s c).2.2.2.2 → (lmM T n f s c).2.2.2.2.length ≤ 240 → (∀ q, q ≠ 101 → q ≠ 107 → q ≠ 109 → q ≠ a → q ≠ a + 1 → I' q = I0 q) → post (some (.int (b2i true))) Z R I' L) → Sx G l mX4_reads 5 0 0 20 [(3, .int (nI i)), (0, .ref 107), (1, .ref 101), (2, .ref a)] [] Z R I L post
  | 0, i, s, c, I => fun _ _ _ _ _ hf _ _ _ => absurd hf (Nat.not_lt_zero _)
  | f + 1, i, s, c, I => fun hv hX hk hT hi hf hJ h0 h1 => by
    have h240 := hT.2.2.1
    have hcn0 := hT.2.2.2.1
    have hx := (nx_b T n c).1
    have hxb := (nx_b T n c).2
    have h25 := hv.2.2.2.2.1
    refine Sx.iload_n dX4_reads_20 rfl ?_
    refine Sx.sipush (v := (nI 240)) dX4_reads_21 (by decide) ?_
    refine Sx.icmp_gtV (t := 101) dX4_reads_24 (by decide) (vN (by omega)) (vN (by decide)) (fun c24 => False.elim (by omega)) (fun c24 => ?_)
    refine Sx.aload_n dX4_reads_27 rfl ?_
    refine Sx.callV0 dX4_reads_28 lkv_X4_54 (rcv_9 (o_101 W)) (by decide) (by decide) (Nat.le_of_ble_eq_true rfl) rfl rfl (c_next W hT (fun I1 hT1 m1 g1 => ?_))
    have hX1 : LX I1 s := LR.o hX fun q hq => g1 q (by omega)
    have hk1 : LK I1 a s.2.2 := hk.o (g1 a (by omega)) (g1 (a + 1) (by omega))
    have hs := sgn_b hT1 (nx T n c)
    have hcn := hT1.2.2.2.1
    have hX1' : LR I1 (upn s.2.1 1 s.1.length) (fun j => s.1.reverse.getD j 0) := hX1
    refine Sx.istore (lv' := [(4, .int (nI (sgn T n (nx T n c)))), (3, .int (nI i)), (0, .ref 107), (1, .ref 101), (2, .ref a)]) dX4_reads_31 (by decide) rfl ?_
    refine Sx.iload dX4_reads_33 rfl ?_
    refine Sx.if_neV (t := 41) dX4_reads_35 (by decide) (vN (by omega)) (fun c35 => ?_) (fun c35 => ?_)
    · refine Sx.aload_n dX4_reads_41 rfl ?_
      refine Sx.getfV (v := (nI (s.2.1 2))) dX4_reads_42 lkf_X4_24_4 (o_107 W) (hX1'.1 2 (by decide) (by decide)) ?_
      refine Sx.iconst (v := (nI 4)) dX4_reads_45 (by decide) ?_
      refine Sx.icmp_eqV (t := 70) dX4_reads_46 (by decide) (vN (by omega)) (vN (by decide)) (fun c46 => ?_) (fun c46 => ?_)
      · refine Sx.aload_n dX4_reads_70 rfl ?_
        refine Sx.iload dX4_reads_71 rfl ?_
        refine Sx.callV1 dX4_reads_73 lkv_X4_64 (rcv_4 (o_107 W)) (by decide) (by decide) (Nat.le_of_ble_eq_true rfl) rfl rfl (d_fitX W hX1 (hv.at hx) (by omega) hs ?_)
        refine Sx.if_eqD (t := 93) dX4_reads_76 (by decide) (fun c76 => ?_) (fun c76 => ?_)
        · refine Sx.iconst (v := (nI 0)) dX4_reads_93 (by decide) ?_
          refine Sx.top (show _ = b2i false from rfl) ?_
          refine Sx.iret dX4_reads_94 rfl (b2i_n _) ?_
          have hm : (lmM T n (f + 1) s c).1 = false ∧ (lmM T n (f + 1) s c).2.1 = nx T n c := by rw [lmM_s, if_neg (by omega), if_neg (by omega), if_neg c76]; exact ⟨rfl, rfl⟩
          exact h0 hm.1 I1 (by rw [hm.2]; exact hT1) (fun q q1 q2 q3 q4 q5 => by rw [g1 q q1]; exact hJ q q1 q2 q3 q4 q5)
        · refine Sx.aload_n dX4_reads_79 rfl ?_
          refine Sx.callV0 dX4_reads_80 lkv_X4_68 (rcv_9 (o_101 W)) (by decide) (by decide) (Nat.le_of_ble_eq_true rfl) rfl rfl (c_adv W hT1 (sgn_lt (T := T) (n := n) (i := nx T n c) (by omega)) (fun I2 hT2 m2 g2 => ?_))
          have hX2 : LX I2 s := LR.o hX1 fun q hq => g2 q (by omega)
          have hk2 : LK I2 a s.2.2 := hk1.o (g2 a (by omega)) (g2 (a + 1) (by omega))
          refine Sx.aload_n dX4_reads_83 rfl ?_
          refine Sx.iload dX4_reads_84 rfl ?_
          refine Sx.aload_n dX4_reads_86 rfl ?_
          refine Sx.callV2 dX4_reads_87 lkv_X4_71 (rcv_4 (o_107 W)) (by decide) (by decide) (Nat.le_of_ble_eq_true rfl) rfl rfl (d_goOn W hr ha hX2 hk2 (hv.at hx) (by omega) c76 (by omega) (fun I3 x3 k3 o3 => ?_))
          refine Sx.goto (t := 95) dX4_reads_90 (by decide) ?_
          refine Sx.iinc (v := (nI (i + 1))) (lv' := [(3, .int (nI (i + 1))), (4, .int (nI (sgn T n (nx T n c)))), (0, .ref 107), (1, .ref 101), (2, .ref a)]) dX4_reads_95 rfl (nI_add i 1) (by decide) rfl ?_
          refine Sx.goto (t := 20) dX4_reads_98 (by decide) ?_
          refine Sx.sub' [(3, .int (nI (i + 1))), (0, .ref 107), (1, .ref 101), (2, .ref a)] rfl ?_
          have hm := lmM_f (T := T) (n := n) (s := s) (c := c) (f := f) (by omega) (by omega) c76
          rw [hm] at h0 h1
          exact l_reads W hr ha f (i + 1) _ _ I3 (Iv_go (hv.at hx) (by omega) c76) x3 k3 (hT2.o fun q hq => o3 q (by omega) (by omega) (by omega) (by omega)) (by omega) (by have := sgn_lt (T := T) (n := n) (i := nx T n c) (by omega); omega) (fun q q1 q2 q3 q4 q5 => by rw [o3 q q2 q3 q4 q5, g2 q q1, g1 q q1]; exact hJ q q1 q2 q3 q4 q5) h0 h1
      · refine Sx.aload_n dX4_reads_49 rfl ?_
        refine Sx.getfV (v := (nI (s.2.1 2))) dX4_reads_50 lkf_X4_24_4 (o_107 W) (hX1'.1 2 (by decide) (by decide)) ?_
        refine Sx.iconst (v := (nI 5)) dX4_reads_53 (by decide) ?_
        refine Sx.icmp_eqV (t := 70) dX4_reads_54 (by decide) (vN (by omega)) (vN (by decide)) (fun c54 => ?_) (fun c54 => ?_)
        · refine Sx.aload_n dX4_reads_70 rfl ?_
          refine Sx.iload dX4_reads_71 rfl ?_
          refine Sx.callV1 dX4_reads_73 lkv_X4_64 (rcv_4 (o_107 W)) (by decide) (by decide) (Nat.le_of_ble_eq_true rfl) rfl rfl (d_fitX W hX1 (hv.at hx) (by omega) hs ?_)
          refine Sx.if_eqD (t := 93) dX4_reads_76 (by decide) (fun c76 => ?_) (fun c76 => ?_)
          · refine Sx.iconst (v := (nI 0)) dX4_reads_93 (by decide) ?_
            refine Sx.top (show _ = b2i false from rfl) ?_
            refine Sx.iret dX4_reads_94 rfl (b2i_n _) ?_
            have hm : (lmM T n (f + 1) s c).1 = false ∧ (lmM T n (f + 1) s c).2.1 = nx T n c := by rw [lmM_s, if_neg (by omega), if_neg (by omega), if_neg c76]; exact ⟨rfl, rfl⟩
            exact h0 hm.1 I1 (by rw [hm.2]; exact hT1) (fun q q1 q2 q3 q4 q5 => by rw [g1 q q1]; exact hJ q q1 q2 q3 q4 q5)
          · refine Sx.aload_n dX4_reads_79 rfl ?_
            refine Sx.callV0 dX4_reads_80 lkv_X4_68 (rcv_9 (o_101 W)) (by decide) (by decide) (Nat.le_of_ble_eq_true rfl) rfl rfl (c_adv W hT1 (sgn_lt (T := T) (n := n) (i := nx T n c) (by omega)) (fun I2 hT2 m2 g2 => ?_))
            have hX2 : LX I2 s := LR.o hX1 fun q hq => g2 q (by omega)
            have hk2 : LK I2 a s.2.2 := hk1.o (g2 a (by omega)) (g2 (a + 1) (by omega))
            refine Sx.aload_n dX4_reads_83 rfl ?_
            refine Sx.iload dX4_reads_84 rfl ?_
            refine Sx.aload_n dX4_reads_86 rfl ?_
            refine Sx.callV2 dX4_reads_87 lkv_X4_71 (rcv_4 (o_107 W)) (by decide) (by decide) (Nat.le_of_ble_eq_true rfl) rfl rfl (d_goOn W hr ha hX2 hk2 (hv.at hx) (by omega) c76 (by omega) (fun I3 x3 k3 o3 => ?_))
            refine Sx.goto (t := 95) dX4_reads_90 (by decide) ?_
            refine Sx.iinc (v := (nI (i + 1))) (lv' := [(3, .int (nI (i + 1))), (4, .int (nI (sgn T n (nx T n c)))), (0, .ref 107), (1, .ref 101), (2, .ref a)]) dX4_reads_95 rfl (nI_add i 1) (by decide) rfl ?_
            refine Sx.goto (t := 20) dX4_reads_98 (by decide) ?_
            refine Sx.sub' [(3, .int (nI (i + 1))), (0, .ref 107), (1, .ref 101), (2, .ref a)] rfl ?_
            have hm := lmM_f (T := T) (n := n) (s := s) (c := c) (f := f) (by omega) (by omega) c76
            rw [hm] at h0 h1
            exact l_reads W hr ha f (i + 1) _ _ I3 (Iv_go (hv.at hx) (by omega) c76) x3 k3 (hT2.o fun q hq => o3 q (by omega) (by omega) (by omega) (by omega)) (by omega) (by have := sgn_lt (T := T) (n := n) (i := nx T n c) (by omega); omega) (fun q q1 q2 q3 q4 q5 => by rw [o3 q q2 q3 q4 q5, g2 q q1, g1 q q1]; exact hJ q q1 q2 q3 q4 q5) h0 h1
        · refine Sx.aload_n dX4_reads_57 rfl ?_
          refine Sx.iload dX4_reads_58 rfl ?_
          refine Sx.aload_n dX4_reads_60 rfl ?_
          refine Sx.aload_n dX4_reads_61 rfl ?_
          refine Sx.callV3 dX4_reads_62 lkv_X4_60 (rcv_4 (o_107 W)) (by decide) (by decide) (Nat.le_of_ble_eq_true rfl) rfl rfl (d_takes W hr ha hX1 hk1 hT1 (by omega) (nx_nx T n c) (hv.at hx) (by omega) (fun I2 z2 t2 o2 => ?_) (fun I2 z2 t2 x2 k2 o2 => ?_))
          · skip
            refine Sx.if_neB (t := 95) dX4_reads_65 (by decide) (fun c65 => False.elim (by cases c65)) (fun c65 => ?_)
            refine Sx.iconst (v := (nI 0)) dX4_reads_68 (by decide) ?_
            refine Sx.top (show _ = b2i false from rfl) ?_
            refine Sx.iret dX4_reads_69 rfl (b2i_n _) ?_
            have hm := lmM_tn (T := T) (n := n) (s := s) (c := c) (f := f) (by omega) (by omega) (show lmTk T n (nx T n c) s = (false, (lmTk T n (nx T n c) s).2.1, (lmTk T n (nx T n c) s).2.2) from Prod.ext z2 rfl)
            exact h0 hm.1 I2 (by rw [hm.2]; exact t2) (fun q q1 q2 q3 q4 q5 => by rw [o2 q q1 q2 q3 q4 q5, g1 q q1]; exact hJ q q1 q2 q3 q4 q5)
          · skip
            refine Sx.if_neB (t := 95) dX4_reads_65 (by decide) (fun c65 => ?_) (fun c65 => False.elim (by cases c65))
            refine Sx.iinc (v := (nI (i + 1))) (lv' := [(3, .int (nI (i + 1))), (4, .int (nI (sgn T n (nx T n c)))), (0, .ref 107), (1, .ref 101), (2, .ref a)]) dX4_reads_95 rfl (nI_add i 1) (by decide) rfl ?_
            refine Sx.goto (t := 20) dX4_reads_98 (by decide) ?_
            refine Sx.sub' [(3, .int (nI (i + 1))), (0, .ref 107), (1, .ref 101), (2, .ref a)] rfl ?_
            have hm := lmM_t (T := T) (n := n) (s := s) (c := c) (f := f) (by omega) (by omega) (show lmTk T n (nx T n c) s = (true, (lmTk T n (nx T n c) s).2.1, (lmTk T n (nx T n c) s).2.2) from Prod.ext z2 rfl)
            obtain ⟨hv2, hc2⟩ := Iv_tk (hv.at hx) (by omega) (show lmTk T n (nx T n c) s = (true, (lmTk T n (nx T n c) s).2.1, (lmTk T n (nx T n c) s).2.2) from Prod.ext z2 rfl)
            have hcn2 := t2.2.2.2.1
            rw [hm] at h0 h1
            exact l_reads W hr ha f (i + 1) _ _ I2 hv2 x2 k2 t2 (by omega) (by omega) (fun q q1 q2 q3 q4 q5 => by rw [o2 q q1 q2 q3 q4 q5, g1 q q1]; exact hJ q q1 q2 q3 q4 q5) h0 h1
    · refine Sx.goto (t := 101) dX4_reads_38 (by decide) ?_
      refine Sx.aload_n dX4_reads_101 rfl ?_
      refine Sx.callV0 dX4_reads_102 lkv_X4_75 (rcv_4 (o_107 W)) (by decide) (by decide) (Nat.le_of_ble_eq_true rfl) rfl rfl (d_mayEndX W hX1 (hv.at hx) ?_)
      refine Sx.if_neB (t := 110) dX4_reads_105 (by decide) (fun c105 => ?_) (fun c105 => ?_)
      · have hend : lmEnd s.2.1 = true := c105
        refine Sx.aload_n dX4_reads_110 rfl ?_
        refine Sx.bipush (v := (nI 59)) dX4_reads_111 (by decide) ?_
        refine Sx.aload_n dX4_reads_113 rfl ?_
        refine Sx.callV2 dX4_reads_114 lkv_X4_71 (rcv_4 (o_107 W)) (by decide) (by decide) (Nat.le_of_ble_eq_true rfl) rfl rfl (d_goOn59 W hr ha hX1 hk1 (hv.at hx) (by omega) (fit_59.mpr hend) (by have h4 := (of_decide_eq_true (show decide (s.2.1 2 = 4 ∧ s.2.1 5 = 0 ∧ s.2.1 4 = 0 ∧ (s.2.1 7 ≠ 0 ∨ s.2.1 6 = 0)) = true from hend)).1; omega) (fun I3 x3 k3 o3 => ?_))
        refine Sx.iconst (v := (nI 1)) dX4_reads_117 (by decide) ?_
        refine Sx.top (show _ = b2i true from rfl) ?_
        refine Sx.iret dX4_reads_118 rfl (b2i_n _) ?_
        have hm := lmM_e (T := T) (n := n) (s := s) (c := c) (f := f) (by omega) hend
        rw [hm] at h1
        refine h1 rfl I3 (hT1.o fun q hq => o3 q (by omega) (by omega) (by omega) (by omega)) k3 ?_ (fun q q1 q2 q3 q4 q5 => by rw [o3 q q2 q3 q4 q5, g1 q q1]; exact hJ q q1 q2 q3 q4 q5)
        have h4 : s.2.1 2 = 4 := by unfold lmEnd at hend; exact (of_decide_eq_true hend).1
        have hg := (Iv_go (hv.at hx) (by omega) (fit_59.mpr hend)).2.2.2.2.2.2
        have hg2 := (hv.at hx).2.2.2.2.2.2
        rw [if_neg (by omega)] at hg2
        have hR := (Iv_R (x := 59) (hv.at hx)).2.2.2.2.1
        rw [lmGo_59]
        show ((lmR 59 s).2.2 ++ [negS 59]).length ≤ 240
        rw [List.length_append]
        show _ + 1 ≤ 240
        omega
      · refine Sx.iconst (v := (nI 0)) dX4_reads_108 (by decide) ?_
        refine Sx.top (show _ = b2i false from rfl) ?_
        refine Sx.iret dX4_reads_109 rfl (b2i_n _) ?_
        have hm : (lmM T n (f + 1) s c).1 = false ∧ (lmM T n (f + 1) s c).2.1 = nx T n c := by rw [lmM_s, if_pos (by omega), if_neg (by rw [c105]; decide)]; exact ⟨rfl, rfl⟩
        exact h0 hm.1 I1 (by rw [hm.2]; exact hT1) (fun q q1 q2 q3 q4 q5 => by rw [g1 q q1]; exact hJ q q1 q2 q3 q4 q5)
