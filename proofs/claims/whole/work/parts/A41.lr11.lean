/-! the class: laws are read -/
theorem nI_all (x : Int32) : ∃ c, x = nI c := ⟨x.toBitVec.toNat, by
  apply Int32.toBitVec_inj.mp
  show x.toBitVec = BitVec.ofNat 32 x.toBitVec.toNat
  rw [BitVec.ofNat_toNat, BitVec.setWidth_eq]⟩
def lm0 (c0 a0 : Nat) : Lm := ([], fun j => if j = 6 then c0 else if j = 7 then a0 else 0, [])
abbrev plR (T : Nat → Nat) (n : Nat) : Bool × Nat × Option Int := plw T n ezZ 4000 (n + 1) 0 none
/-- a code that comes to what the law says -/
def KOK (T : Nat → Nat) (n : Nat) (K : List Int32) : Prop := K.length ≤ 240 ∧ ∀ e ℓ, EH T n e ℓ → xL ℓ K false [] = some (iI (lawE T n e))
theorem lm_plw {T : Nat → Nat} {n : Nat} (hn : n ≤ 240) (hT : ∀ i, sgn T n i < 256) (c0 a0 : Nat) :
    ((plR T n).1 = false → (lmM T n (n + 1) (lm0 c0 a0) 0).1 = false ∧ (lmM T n (n + 1) (lm0 c0 a0) 0).2.1 = (plR T n).2.1) ∧
    ((plR T n).1 = true → (lmM T n (n + 1) (lm0 c0 a0) 0).1 = true ∧ (lmM T n (n + 1) (lm0 c0 a0) 0).2.1 = (plR T n).2.1 ∧ ∀ e ℓ, EH T n e ℓ → xL ℓ (lmM T n (n + 1) (lm0 c0 a0) 0).2.2.2.2 false [] = some (iI (lawE T n e))) := by
  have hz : EH T n ezZ (fun _ => iI 0) := ⟨fun s => by show bd6 0; unfold bd6; omega, hT, fun j hj => rfl⟩
  have hd : Hd (lm0 c0 a0) := ⟨rfl, rfl, rfl, rfl, rfl, rfl⟩
  have h := s_lw hz (k := 4000) (by omega) (n + 1) (lm0 c0 a0) 0 (n + 1) none hd (Nat.zero_le _) (by omega) (by omega)
  refine ⟨h.1, fun q => ?_⟩
  obtain ⟨K, o', h1, h2, -, -, -⟩ := h.2 q
  refine ⟨h1, h2, fun e ℓ he => ?_⟩
  have hag := plw_ag T n e ezZ 4000 (n + 1) 0 none none
  have g := s_lw he (k := 4000) (by omega) (n + 1) (lm0 c0 a0) 0 (n + 1) none hd (Nat.zero_le _) (by omega) (by omega)
  obtain ⟨K2, o2, g1, g2, g3, g4, g5⟩ := g.2 (hag.1.trans q)
  rw [g3]
  have g5' : xL ℓ K2 false [] = some (iI (lawE T n e)) := by unfold lawE; rw [g4]; exact g5
  exact g5'
set_option maxRecDepth 20000 in
set_option maxHeartbeats 1000000 in
theorem d_reads {G : Gt} {l : Launch} {Z : Zt} {R : Rt} {I : It} {L : Lt} {post : Pt'} {T : Nat → Nat} {n a : Nat} (W : WF Z R) (hr : rwo Z R a 3 240) (ha : 233 ≤ a) (hT : TS I T n 0) (h : ∀ I' K, TS I' T n (plR T n).2.1 → ((plR T n).1 = true → LK I' a K ∧ KOK T n K) → (∀ q, q ≠ 101 → q ≠ 107 → q ≠ 109 → q ≠ a → q ≠ a + 1 → I' q = I q) → post (some (.int (b2i (plR T n).1))) Z R I' L) : Cx G l mX4_reads 5 0 0 [.ref 107, .ref 101, .ref a] Z R I L post := by
  refine Cx.of (by decide +kernel) (by exact Nat.le_of_ble_eq_true rfl) ?_
  obtain ⟨c0, hc0⟩ := nI_all (I 107 6)
  obtain ⟨a0, ha0⟩ := nI_all (I 107 7)
  refine Sx.aload_n dX4_reads_0 rfl ?_
  refine Sx.ifnull dX4_reads_1 ?_
  refine Sx.aload_n dX4_reads_4 rfl ?_
  refine Sx.ifnonnull (t := 10) dX4_reads_5 (by decide) ?_
  refine Sx.aload_n dX4_reads_10 rfl ?_
  refine Sx.callV0 dX4_reads_11 lkv_X4_46 (rcv_3 hr.1) (by decide) (by decide) (Nat.le_of_ble_eq_true rfl) rfl rfl (c_X3_clear hr ?_)
  refine Sx.aload_n dX4_reads_14 rfl ?_
  refine Sx.callV0 dX4_reads_15 lkv_X4_51 (rcv_4 (o_107 W)) (by decide) (by decide) (Nat.le_of_ble_eq_true rfl) rfl rfl (d_lrBegin (c := c0) (a := a0) W (by intro j hj; rw [up2_ne _ _ _ _ (by omega)]; rcases hj with rfl | rfl; (· exact hc0); (· exact ha0)) (fun I1 l1 o1 => ?_))
  refine Sx.iconst (v := (nI 0)) dX4_reads_18 (by decide) ?_
  refine Sx.istore_n (lv' := [(3, .int (nI 0)), (0, .ref 107), (1, .ref 101), (2, .ref a)]) dX4_reads_19 (by decide) rfl ?_
  refine Sx.sub' [(3, .int (nI 0)), (0, .ref 107), (1, .ref 101), (2, .ref a)] rfl ?_
  have e1 : ∀ q, q ≠ 107 → q ≠ a → I1 q = I q := fun q q1 q2 => by rw [o1 q q1, up2_ne _ _ _ _ q2]
  have hk0 : LK I1 a ([] : List Int32) := ⟨by rw [o1 a (by omega), up2_at]; rfl, fun j hj => absurd hj (Nat.not_lt_zero _)⟩
  obtain ⟨p0, p1⟩ := lm_plw hT.2.2.1 (sgn_b hT) c0 a0
  refine l_reads (I0 := I) W hr ha (n + 1) 0 (lm0 c0 a0) 0 I1 ⟨trivial, rfl, rfl, Nat.zero_le _, Nat.zero_le _, ⟨Or.inl (show (0 : Nat) < 2 by decide), Nat.zero_le _⟩, Nat.le_refl 0⟩ (cg8 l1 rfl rfl rfl rfl rfl rfl rfl rfl (fun j hj => absurd hj (Nat.not_lt_zero _))) hk0 (hT.o fun q hq => e1 q (by omega) (by omega)) (Nat.le_refl _) (by omega) (fun q q1 q2 _ q4 _ => e1 q q2 q4) (fun z I2 t2 o2 => ?_) (fun z I2 t2 k2 n2 o2 => ?_)
  · have hp : (plR T n).1 = false := by
      cases hh : (plR T n).1 with
      | false => rfl
      | true => rw [(p1 hh).1] at z; cases z
    rw [(p0 hp).2] at t2
    exact pBB hp (h I2 [] t2 (fun y => by rw [hp] at y; cases y) o2)
  · have hp : (plR T n).1 = true := by
      cases hh : (plR T n).1 with
      | true => rfl
      | false => rw [(p0 hh).1] at z; cases z
    obtain ⟨-, g2, g3⟩ := p1 hp
    rw [g2] at t2
    exact pBB hp (h I2 _ t2 (fun _ => ⟨k2, n2, g3⟩) o2)
set_option maxRecDepth 20000 in
set_option maxHeartbeats 1000000 in
theorem d_rdAs1 {G : Gt} {l : Launch} {Z : Zt} {R : Rt} {I : It} {L : Lt} {post : Pt'} {V : Vt} (W : WF Z R) (C : CI V R I L) (hb : V 0 1 ≤ 4 ∧ V 0 3 ≤ 4) (hB : V 0 0 ≤ 240 ∧ ∀ j, j < V 0 0 → 0 < V 1 j ∧ V 1 j < 256) (h : ∀ I' K, CI V R I' L → CF R I L R I' L → TS I' (V 1) (V 0 0) (plR (V 1) (V 0 0)).2.1 → ((plR (V 1) (V 0 0)).1 = true → LK I' (233 + 2 * V 0 1) K ∧ KOK (V 1) (V 0 0) K) → (∀ q, q ≠ 101 → q ≠ 107 → q ≠ 109 → q ≠ 233 + 2 * V 0 1 → q ≠ 233 + 2 * V 0 1 + 1 → I' q = I q) → post (some (.int (b2i (plR (V 1) (V 0 0)).1))) Z R I' L) : Cx G l mX11_readsAs 9 0 0 [.ref 100, .int (nI 1)] Z R I L post := by
  refine Cx.of (by decide +kernel) (by exact Nat.le_of_ble_eq_true rfl) ?_
  refine Sx.aload_n dX11_readsAs_0 rfl ?_
  refine Sx.getfR dX11_readsAs_1 lkf_X11_10_11 (o_100 W) (r_100_0 W) ?_
  refine Sx.callV0 dX11_readsAs_4 lkv_X11_145 (rcv_9 (o_101 W)) (by decide) (by decide) (Nat.le_of_ble_eq_true rfl) rfl rfl (d_rewind W C hB (fun I1 t1 h11 o1 => ?_))
  refine Sx.iload_n dX11_readsAs_7 rfl ?_
  refine Sx.iconst (v := (nI 1)) dX11_readsAs_8 (by decide) ?_
  refine Sx.icmp_neV (t := 32) dX11_readsAs_9 (by decide) (vN (by decide)) (vN (by decide)) (fun c9 => False.elim (by omega)) (fun c9 => ?_)
  refine Sx.aload_n dX11_readsAs_12 rfl ?_
  refine Sx.getfR dX11_readsAs_13 lkf_X11_29_11 (o_100 W) (r_100_3 W) ?_
  refine Sx.aload_n dX11_readsAs_16 rfl ?_
  refine Sx.getfR dX11_readsAs_17 lkf_X11_10_11 (o_100 W) (r_100_0 W) ?_
  refine Sx.aload_n dX11_readsAs_20 rfl ?_
  refine Sx.aload_n dX11_readsAs_21 rfl ?_
  refine Sx.getfV (v := (nI (V 0 1))) dX11_readsAs_22 lkf_X11_100_11 (o_100 W) (by rw [o1 100 (by decide)]; exact C.2.2.2.1.2.1) ?_
  refine Sx.callV1 dX11_readsAs_25 lkv_X11_148 (rcv_11 (o_100 W)) (by decide) (by decide) (Nat.le_of_ble_eq_true rfl) rfl rfl (d_lawAt W (k := V 0 1) (by omega) ?_)
  refine Sx.callV2 dX11_readsAs_28 lkv_X11_152 (rcv_4 (o_107 W)) (by decide) (by decide) (Nat.le_of_ble_eq_true rfl) rfl rfl (d_reads W (w_laws W (i := V 0 1) (by omega)) (by omega) t1 (fun I2 K t2 k2 o2 => ?_))
  refine Sx.iret dX11_readsAs_31 rfl (b2i_n _) ?_
  exact h I2 K (C.rd hb (by rw [t2.1, C.1.1]) (fun q q1 q2 q3 q4 _ _ => by rw [o2 q q1 (fun z => q2 (by unfold csc; omega)) (fun z => q2 (by unfold csc; omega)) q3 (by omega), o1 q q1])) (CF.i fun q hq => by rw [o2 q (by omega) (by omega) (by omega) (by omega) (by omega), o1 q (by omega)]) t2 k2 (fun q q1 q2 q3 q4 q5 => by rw [o2 q q1 q2 q3 q4 q5, o1 q q1])
set_option maxRecDepth 20000 in
set_option maxHeartbeats 1000000 in
theorem d_fault1 {G : Gt} {l : Launch} {Z : Zt} {R : Rt} {I : It} {L : Lt} {post : Pt'} {V : Vt} (W : WF Z R) (C : CI V R I L) (hb : V 0 1 ≤ 4 ∧ V 0 3 ≤ 4) (hB : V 0 0 ≤ 240 ∧ ∀ j, j < V 0 0 → 0 < V 1 j ∧ V 1 j < 256) (h : ∀ I', CI V R I' L → CF R I L R I' L → post (some (.int (fauN V 1))) Z R I' L) : Cx G l mX11_fault 10 0 0 [.ref 100, .int (nI 1)] Z R I L post := by
  refine Cx.of (by decide +kernel) (by exact Nat.le_of_ble_eq_true rfl) ?_
  refine Sx.iload_n dX11_fault_0 rfl ?_
  refine Sx.if_ltV (t := 9) dX11_fault_1 (by decide) (vN (by decide)) (fun c1 => False.elim (by omega)) (fun c1 => ?_)
  refine Sx.iload_n dX11_fault_4 rfl ?_
  refine Sx.iconst (v := (nI 2)) dX11_fault_5 (by decide) ?_
  refine Sx.icmp_leV (t := 12) dX11_fault_6 (by decide) (vN (by decide)) (vN (by decide)) (fun c6 => ?_) (fun c6 => False.elim (by omega))
  refine Sx.aload_n dX11_fault_12 rfl ?_
  refine Sx.iload_n dX11_fault_13 rfl ?_
  refine Sx.callV1 dX11_fault_14 lkv_X11_129 (rcv_11 (o_100 W)) (by decide) (by decide) (Nat.le_of_ble_eq_true rfl) rfl rfl (d_rdAs1 W C hb hB (fun I1 K C1 f1 t1 r1 o1 => ?_))
  refine Sx.if_eqB (t := 24) dX11_fault_17 (by decide) (fun c17 => ?_) (fun c17 => ?_)
  · refine Sx.aload_n dX11_fault_24 rfl ?_
    refine Sx.getfR dX11_fault_25 lkf_X11_10_11 (o_100 W) (r_100_0 W) ?_
    refine Sx.callV0 dX11_fault_28 lkv_X11_133 (rcv_9 (o_101 W)) (by decide) (by decide) (Nat.le_of_ble_eq_true rfl) rfl rfl (c_cur W t1 ?_)
    refine Sx.iret dX11_fault_31 rfl rfl ?_
    exact pXX (show fauN V 1 = _ from if_neg (by rw [show (fauP V 1).1 = (plR (V 1) (V 0 0)).1 from rfl]; intro z; rw [z] at c17; exact absurd c17 (by decide))) (h I1 C1 f1)
  · refine Sx.iconst (v := (iI (-1))) dX11_fault_20 (by decide) ?_
    refine Sx.goto (t := 31) dX11_fault_21 (by decide) ?_
    refine Sx.iret dX11_fault_31 rfl rfl ?_
    exact pXX (show fauN V 1 = _ from if_pos (by assumption)) (h I1 C1 f1)
theorem getD_len {K : List Int32} {f : Nat → Int32} (h : ∀ j, j < K.length → f j = K.getD j 0) : ∀ j, j < K.length → f (0 + j) = K.getD j 0 := fun j hj => by rw [Nat.zero_add]; exact h j hj
theorem CI.lwc {V : Vt} {R : Rt} {I I' : It} {L L' : Lt} {K : List Int32} (h : CI V R I L) (hb : V 0 1 < 4 ∧ V 0 3 ≤ 4) (h00 : V 0 0 ≤ 240 ∧ ∀ j, j < V 0 0 → 0 < V 1 j ∧ V 1 j < 256) (hk : LK I' (233 + 2 * V 0 1) K) (hK : KOK (V 1) (V 0 0) K) (hr : V 0 2 ≤ V 0 1) (e1 : I' 101 1 = nI 0) (eo : I' 100 = upd (I 100) 14 (nI (V 0 1 + 1))) (o : ∀ q, q ≠ 101 → ¬ csc q → q ≠ 100 → q ≠ 233 + 2 * V 0 1 → q ≠ 233 + 2 * V 0 1 + 1 → I' q = I q) : CI (lwV V) R I' L' := by
  obtain ⟨a1, a2, a3, ⟨c1, c2, c3, c4, c5⟩, a5, a6, a7, a8, a9, ⟨nx, b1, b2, b3, b4⟩, a11⟩ := h
  have r : ∀ a, a ≠ 0 → a ≠ 10 + V 0 1 → lwV V a = V a := fun a h0 h1 => lw_o V h0 h1
  have z : ∀ q, q ≠ 0 → q ≠ 1 → lwV V 0 q = V 0 q := fun q q0 q3 => lw_0 V q0 q3
  have e : ∀ q, q = 104 ∨ q = 113 ∨ q = 136 ∨ q = 140 ∨ q = 142 ∨ q = 144 ∨ q = 147 ∨ q = 230 ∨ q = 232 → I' q = I q := fun q hq => o q (by omega) (by unfold csc; omega) (by omega) (by omega) (by omega)
  refine ⟨⟨e1, fun j hj => absurd hj (Nat.not_lt_zero _)⟩, ?_, ?_, ⟨?_, by rw [eo, upd_at]; rfl, ?_, ?_, ?_⟩, fun i hi => ?_, ?_, fun i hi => ?_, ?_, fun q => ?_, ⟨nx, b1, ?_, ?_, fun i hi => ?_⟩, ?_⟩
  · rw [e 104 (by decide), r 2 (by decide) (by omega)]; exact a2
  · rw [e 230 (by decide), r 3 (by decide) (by omega)]; exact a3
  · rw [eo, upd_nj _ _ (by decide), z 5 (by decide) (by decide)]; exact c1
  · rw [eo, upd_nj _ _ (by decide), z 3 (by decide) (by decide)]; exact c3
  · rw [eo, upd_nj _ _ (by decide), z 2 (by decide) (by decide)]; exact c4
  · rw [eo, upd_nj _ _ (by decide), z 6 (by decide) (by decide)]; exact c5
  · rw [lw_01] at hi
    by_cases q : i = V 0 1
    · subst q
      refine ⟨K.length, hK.1, hk.1, fun d e f u y r2 hd he hf hu hy hr2 ℓ l0 l1 l2 l3 l4 l5 => ?_⟩
      rw [exC_xL _ ℓ K.length K (K.length + 1) 0 false [] (getD_len hk.2) (by omega) (by omega)]
      have hcg : ∀ j, j < V 0 0 → upn (V 1) 240 (V 0 0) j = V 1 j := fun j hj => upn_ne _ _ (by omega)
      have hE : lawG (lwV V (10 + V 0 1)) d e f u y r2 = lawE (V 1) (V 0 0) (envN d e f u y r2) := by
        rw [lw_n]
        unfold lawG lawE
        rw [upn_eq, plw_cg hcg]
      rw [hE]
      refine hK.2 _ ℓ ⟨fun s => ?_, fun i => ?_, fun j hj => ?_⟩
      · unfold envN bd6; (repeat' split) <;> omega
      · unfold sgn
        split
        · next w => exact (h00.2 i w).2
        · decide
      · have : j = 0 ∨ j = 1 ∨ j = 2 ∨ j = 3 ∨ j = 4 ∨ j = 5 := by omega
        rcases this with rfl | rfl | rfl | rfl | rfl | rfl
        · rw [l0, nI_iI]; rfl
        · rw [l1, nI_iI]; rfl
        · rw [l2, nI_iI]; rfl
        · rw [l3, nI_iI]; rfl
        · rw [l4, nI_iI]; rfl
        · rw [l5, nI_iI]; rfl
    · unfold LI; rw [o (233 + 2 * i) (by omega) (by unfold csc; omega) (by omega) (by omega) (by omega), o (233 + 2 * i + 1) (by omega) (by unfold csc; omega) (by omega) (by omega) (by omega), r (10 + i) (by omega) (by omega)]; exact a5 i (by omega)
  · rw [z 2 (by decide) (by decide)]; exact a6
  · rw [z 3 (by decide) (by decide)] at hi
    rw [o (243 + 2 * i) (by omega) (by unfold csc; omega) (by omega) (by omega) (by omega), o (243 + 2 * i + 1) (by omega) (by unfold csc; omega) (by omega) (by omega) (by omega), r (20 + i) (by omega) (by omega)]; exact a7 i hi
  · rw [e 113 (by decide), r 4 (by decide) (by omega)]; exact a8
  · rw [z 5 (by decide) (by decide)] at q
    rw [e 232 (by decide), r 5 (by decide) (by omega)]; exact a9 q
  · rw [e 147 (by decide)]; exact b2
  · rw [e 147 (by decide), z 4 (by decide) (by decide)]; exact b3
  · rw [z 4 (by decide) (by decide)] at hi
    have := Nat.mod_lt (nx + 39 - i) (show 0 < 40 by decide)
    rw [o (150 + 2 * ((nx + 39 - i) % 40)) (by omega) (by unfold csc; omega) (by omega) (by omega) (by omega), r (30 + i) (by omega) (by omega)]; exact b4 i hi
  · rw [e 136 (by decide), e 140 (by decide), e 142 (by decide), e 144 (by decide), z 7 (by decide) (by decide), r 6 (by decide) (by omega), r 7 (by decide) (by omega), r 8 (by decide) (by omega)]; exact a11
theorem tex1_y {V : Vt} (h3 : V 0 1 < 4) (h : (plR (V 1) (V 0 0)).1 = true) : texV V (nI 1) = lwV V ∧ texR V (nI 1) = nI (V 0 1) := by
  have e : xN (nI 1) = 1 := by decide
  have hc : sorC (nI 1) ∧ texC V (xN (nI 1)) := by rw [e]; exact ⟨⟨by decide, by decide⟩, fun _ => by omega, fun z => absurd z (by decide), h⟩
  unfold texV texR
  rw [if_pos hc, if_pos hc, e]
  exact ⟨rfl, rfl⟩
theorem tex1_n {V : Vt} (h : ¬ (V 0 1 ≠ 4 ∧ (plR (V 1) (V 0 0)).1 = true)) : texV V (nI 1) = V ∧ texR V (nI 1) = -1 := by
  have e : xN (nI 1) = 1 := by decide
  have hc : ¬ (sorC (nI 1) ∧ texC V (xN (nI 1))) := by rw [e]; exact fun z => h ⟨z.2.1 rfl, z.2.2.2⟩
  unfold texV texR
  rw [if_neg hc, if_neg hc]
  exact ⟨rfl, rfl⟩
set_option maxRecDepth 20000 in
set_option maxHeartbeats 1000000 in
theorem d_text1 {G : Gt} {l : Launch} {Z : Zt} {R : Rt} {I : It} {L : Lt} {post : Pt'} {V : Vt} (W : WF Z R) (C : CI V R I L) (hb : V 0 1 ≤ 4 ∧ V 0 3 ≤ 4) (hB : V 0 0 ≤ 240 ∧ ∀ j, j < V 0 0 → 0 < V 1 j ∧ V 1 j < 256) (hr2 : V 0 2 ≤ V 0 1) (h : ∀ I' R' L', CI (texV V (nI 1)) R' I' L' → CF R I L R' I' L' → post (some (.int (texR V (nI 1)))) Z R' I' L') : Cx G l mX11_text 10 0 0 [.ref 100, .int (nI 1)] Z R I L post := by
  refine Cx.of (by decide +kernel) (by exact Nat.le_of_ble_eq_true rfl) ?_
  refine Sx.iload_n dX11_text_0 rfl ?_
  refine Sx.if_ltV (t := 25) dX11_text_1 (by decide) (vN (by decide)) (fun c1 => False.elim (by omega)) (fun c1 => ?_)
  refine Sx.iload_n dX11_text_4 rfl ?_
  refine Sx.iconst (v := (nI 2)) dX11_text_5 (by decide) ?_
  refine Sx.icmp_gtV (t := 25) dX11_text_6 (by decide) (vN (by decide)) (vN (by decide)) (fun c6 => False.elim (by omega)) (fun c6 => ?_)
  refine Sx.aload_n dX11_text_9 rfl ?_
  refine Sx.iload_n dX11_text_10 rfl ?_
  refine Sx.callV1 dX11_text_11 lkv_X11_136 (rcv_11 (o_100 W)) (by decide) (by decide) (Nat.le_of_ble_eq_true rfl) rfl rfl (d_hp1 W C hb ?_)
  refine Sx.if_eqD (t := 25) dX11_text_14 (by decide) (fun c14 => ?_) (fun c14 => ?_)
  · refine Sx.iconst (v := (iI (-1))) dX11_text_25 (by decide) ?_
    refine Sx.iret dX11_text_26 rfl rfl ?_
    have hn : ¬ (V 0 1 ≠ 4 ∧ (plR (V 1) (V 0 0)).1 = true) := fun z => by first | omega | (have z2 := z.2; simp_all; done)
    obtain ⟨x1, x2⟩ := tex1_n hn
    exact pXX x2 (h I R L (by rw [x1]; exact C) (CF.rf R I L))
  · refine Sx.aload_n dX11_text_17 rfl ?_
    refine Sx.iload_n dX11_text_18 rfl ?_
    refine Sx.callV1 dX11_text_19 lkv_X11_129 (rcv_11 (o_100 W)) (by decide) (by decide) (Nat.le_of_ble_eq_true rfl) rfl rfl (d_rdAs1 W C hb hB (fun I1 K C1 f1 t1 r1 o1 => ?_))
    refine Sx.if_neB (t := 27) dX11_text_22 (by decide) (fun c22 => ?_) (fun c22 => ?_)
    · refine Sx.aload_n dX11_text_27 rfl ?_
      refine Sx.getfR dX11_text_28 lkf_X11_10_11 (o_100 W) (r_100_0 W) ?_
      refine Sx.iconst (v := (nI 0)) dX11_text_31 (by decide) ?_
      refine Sx.callV1 dX11_text_32 lkv_X11_126 (rcv_9 (o_101 W)) (by decide) (by decide) (Nat.le_of_ble_eq_true rfl) rfl rfl (d_cut W (fun I2 e2 o2 => ?_))
      have hok : (plR (V 1) (V 0 0)).1 = true := by assumption
      refine Sx.iload_n dX11_text_35 rfl ?_
      refine Sx.iconst (v := (nI 1)) dX11_text_36 (by decide) ?_
      refine Sx.icmp_neV (t := 52) dX11_text_37 (by decide) (vN (by decide)) (vN (by decide)) (fun c37 => False.elim (by omega)) (fun c37 => ?_)
      refine Sx.aload_n dX11_text_40 rfl ?_
      refine Sx.dup dX11_text_41 rfl ?_
      refine Sx.getfV (v := (nI (V 0 1))) dX11_text_42 lkf_X11_100_11 (o_100 W) (by rw [o2 100 (by decide)]; exact C1.2.2.2.1.2.1) ?_
      refine Sx.dup_x1 dX11_text_45 rfl rfl ?_
      refine Sx.iconst (v := (nI 1)) dX11_text_46 (by decide) ?_
      refine Sx.iaddN dX11_text_47 ?_
      refine Sx.putfV dX11_text_48 lkp_X11_100_11 (o_100 W) rfl rfl (fun I3 e3 o3 => ?_)
      refine Sx.iret dX11_text_51 rfl rfl ?_
      obtain ⟨x1, x2⟩ := tex1_y (by omega) hok
      obtain ⟨hcp, hK⟩ := r1 hok
      exact pXX x2 (h I3 R L (by rw [x1]; exact C1.lwc ⟨by omega, hb.2⟩ hB (hcp.o (by rw [o3 _ (by omega), o2 _ (by omega)]) (by rw [o3 _ (by omega), o2 _ (by omega)])) hK hr2 (by rw [o3 101 (by decide), e2, upd_at]) (by rw [e3, o2 100 (by decide)]) (fun q h1 _ h0 _ _ => by rw [o3 q h0, o2 q h1])) (f1.tr (CF.i fun q hq => by rw [o3 q (by omega), o2 q (by omega)])))
    · refine Sx.iconst (v := (iI (-1))) dX11_text_25 (by decide) ?_
      refine Sx.iret dX11_text_26 rfl rfl ?_
      have hn : ¬ (V 0 1 ≠ 4 ∧ (plR (V 1) (V 0 0)).1 = true) := fun z => by first | omega | (have z2 := z.2; simp_all; done)
      obtain ⟨x1, x2⟩ := tex1_n hn
      exact pXX x2 (h I1 R L (by rw [x1]; exact C1) f1)
theorem d_fault {G : Gt} {l : Launch} {Z : Zt} {R : Rt} {I : It} {L : Lt} {post : Pt'} {V : Vt} {x : Int32} (W : WF Z R) (C : CI V R I L) (hb : V 0 1 ≤ 4 ∧ V 0 3 ≤ 4) (hB : V 0 0 ≤ 240 ∧ ∀ j, j < V 0 0 → 0 < V 1 j ∧ V 1 j < 256) (h : CQ post Z R I L V (fauR V x)) : Cx G l mX11_fault 10 0 0 [.ref 100, .int x] Z R I L post := by
  by_cases c0 : x.toInt < 0
  · exact d_faultL W C hb hB c0 h
  by_cases c2 : 2 < x.toInt
  · exact d_faultG W C hb hB c2 h
  obtain ⟨p, rfl, hp⟩ := x_ex (x := x) (n := 3) ⟨by omega, by omega⟩
  have hs : sorC (nI p) := by rcases (show p = 0 ∨ p = 1 ∨ p = 2 by omega) with rfl | rfl | rfl <;> exact ⟨by decide, by decide⟩
  have hf : fauR V (nI p) = fauN V p := by
    unfold fauR
    rw [if_pos hs]
    rcases (show p = 0 ∨ p = 1 ∨ p = 2 by omega) with rfl | rfl | rfl <;> rfl
  rw [hf] at h
  rcases (show p = 0 ∨ p = 1 ∨ p = 2 by omega) with rfl | rfl | rfl
  · exact d_fault0 W C hb hB (fun I' a b => h I' R L a b)
  · exact d_fault1 W C hb hB (fun I' a b => h I' R L a b)
  · exact d_fault2 W C hb hB (fun I' a b => h I' R L a b)
theorem d_text {G : Gt} {l : Launch} {Z : Zt} {R : Rt} {I : It} {L : Lt} {post : Pt'} {V : Vt} {x : Int32} (W : WF Z R) (C : CI V R I L) (hb : V 0 1 ≤ 4 ∧ V 0 3 ≤ 4) (hB : V 0 0 ≤ 240 ∧ ∀ j, j < V 0 0 → 0 < V 1 j ∧ V 1 j < 256) (hr2 : V 0 2 ≤ V 0 1) (h : ∀ I' R' L', CI (texV V x) R' I' L' → CF R I L R' I' L' → post (some (.int (texR V x))) Z R' I' L') : Cx G l mX11_text 10 0 0 [.ref 100, .int x] Z R I L post := by
  by_cases c0 : x.toInt < 0
  · exact d_textL W C hb hB c0 h
  by_cases c2 : 2 < x.toInt
  · exact d_textG W C hb hB c2 h
  obtain ⟨p, rfl, hp⟩ := x_ex (x := x) (n := 3) ⟨by omega, by omega⟩
  rcases (show p = 0 ∨ p = 1 ∨ p = 2 by omega) with rfl | rfl | rfl
  · exact d_text0 W C hb hB h
  · exact d_text1 W C hb hB hr2 h
  · exact d_text2 W C hb hB h
