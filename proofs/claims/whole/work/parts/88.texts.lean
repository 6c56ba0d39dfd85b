/-! the reference: feed, end, fault -/
theorem tp_0 (V : Vt) (n : Nat) (T : Nat → Nat) {q : Nat} (h : q ≠ 0) : tpV V n T 0 q = V 0 q := by unfold tpV; rw [vr_o _ _ (by decide), vs_c _ h]
theorem tp_00 (V : Vt) (n : Nat) (T : Nat → Nat) : tpV V n T 0 0 = n := by unfold tpV; rw [vr_o _ _ (by decide), vs_a]
theorem tp_1 (V : Vt) (n : Nat) (T : Nat → Nat) : tpV V n T 1 = T := by unfold tpV; rw [vr_a]
theorem tp_o (V : Vt) (n : Nat) (T : Nat → Nat) {p : Nat} (h0 : p ≠ 0) (h1 : p ≠ 1) : tpV V n T p = V p := by unfold tpV; rw [vr_o _ _ h1, vs_o _ h0]
theorem MI.tp {V : Vt} {I I' : It} {L : Lt} {n : Nat} {T : Nat → Nat} (h : MI V I L) (e : I' 253 6 = nI n) (eo : ∀ j, j ≠ 6 → I' 253 j = I 253 j) (t : ∀ j, j < n → I' 254 j = by8 (T j)) (o : ∀ q, q ≠ 253 → q ≠ 254 → I' q = I q) : MI (tpV V n T) I' L := by
  obtain ⟨⟨a1, a2, a3, a4, a5, a6, a7, a8, a9, a10, a11⟩, b⟩ := h
  have r : ∀ p, p ≠ 0 → p ≠ 1 → tpV V n T p = V p := fun p h0 h1 => tp_o V n T h0 h1
  refine ⟨⟨?_, ?_, ?_, ?_, ?_, ?_, ?_, ?_, ?_, ?_, ?_⟩, ?_⟩
  · obtain ⟨m1, m2, m3, m4, m5, m6, m7, m8, m9, m10⟩ := a1
    refine ⟨by rw [tp_00]; exact e, ?_, ?_, ?_, ?_, ?_, ?_, ?_, ?_, ?_⟩
    all_goals first | (rw [eo _ (by decide), tp_0 V n T (by decide)]; assumption) | (rw [eo _ (by decide), r 2 (by decide) (by decide)]; assumption)
  · intro j hj; rw [tp_00] at hj; rw [tp_1]; exact t j hj
  · rw [o 255 (by decide) (by decide), o 256 (by decide) (by decide)]; intro i hi; rw [tp_0 V n T (by decide)] at hi; rw [r (10 + i) (by omega) (by omega)]; exact a3 i hi
  · rw [o 258 (by decide) (by decide), o 260 (by decide) (by decide), o 262 (by decide) (by decide), r 2 (by decide) (by decide)]; exact a4
  · rw [o 264 (by decide) (by decide), o 265 (by decide) (by decide)]; intro i hi; rw [tp_0 V n T (by decide)] at hi; rw [r (20 + i) (by omega) (by omega)]; exact a5 i hi
  · rw [o 268 (by decide) (by decide), r 4 (by decide) (by decide)]; exact a6
  · rw [o 271 (by decide) (by decide)]; intro i hi; rw [tp_0 V n T (by decide)] at hi ⊢; rw [r (30 + i) (by omega) (by omega)]; exact a7 i hi
  · rw [o 273 (by decide) (by decide)]; intro i hi; rw [tp_0 V n T (by decide)] at hi; rw [r 6 (by decide) (by decide), r 7 (by decide) (by decide), r 8 (by decide) (by decide)]; exact a8 i hi
  · rw [o 278 (by decide) (by decide)]; intro z; rw [tp_0 V n T (by decide)] at z; rw [r 5 (by decide) (by decide)]; exact a9 z
  · rw [o 257 (by decide) (by decide)]; exact a10
  · rw [o 270 (by decide) (by decide)]
    intro s hs
    rcases a11 s hs with z | ⟨li, d, e, g, u, y, rr, h1, h2, h3, h4, h5, h6, h7, h8, h9⟩
    · exact Or.inl z
    · exact Or.inr ⟨li, d, e, g, u, y, rr, by rw [tp_0 V n T (by decide)]; exact h1, h2, h3, h4, h5, h6, h7, h8, by rw [r (10 + li) (by omega) (by omega)]; exact h9⟩
  · rw [o 266 (by decide) (by decide), r 3 (by decide) (by decide)]; exact b
set_option maxRecDepth 20000 in
set_option maxHeartbeats 1000000 in
theorem k_feed {G : Gt} {l : Launch} {Z : Zt} {R : Rt} {I : It} {L : Lt} {post : Pt'} {V : Vt} {N : Nat} {a b c d e : Int32} (W : WF Z R) (hM : MI V I L) (hG : GV N V) (hN : N < 2147483647) (h : ∀ I' R' L', MI (feedV V a b c d e) I' L' → FM R I L R' I' L' → post (some (.int (feedR V a b c d e))) Z R' I' L') : Cx G l mX12_feed 2 0 0 [.ref 253, .int a, .int b, .int c, .int d, .int e] Z R I L post := by
  refine Cx.of (by decide +kernel) (by exact Nat.le_of_ble_eq_true rfl) ?_
  refine Sx.aload_n dX12_feed_0 rfl ?_
  refine Sx.iconst (v := (nI 0)) dX12_feed_1 (by decide) ?_
  refine Sx.putfV dX12_feed_2 lkp_X12_109_12 (o_253 W) rfl rfl (fun I1 e1 o1 => ?_)
  have M1 := hM.th (j := 0) (by unfold sfJ; decide) e1 o1
  have hf1 : FM R I L R I1 L := FM.i fun q hq => o1 q (by omega)
  have hp6 := hG.p
  have hb := hG.b
  have h00 := hG.1.1
  have bca := bcW_le a 4
  have bcb := bcW_le b 4
  have bcc := bcW_le c 4
  have bcd := bcW_le d 4
  have bce := bcW_le e 4
  refine Sx.aload_n dX12_feed_5 rfl ?_
  refine Sx.getfV (v := (nI (V 0 0))) dX12_feed_6 lkf_X12_122_12 (o_253 W) M1.1.1.1 ?_
  refine Sx.iload_n dX12_feed_9 rfl ?_
  refine Sx.callS1 dX12_feed_10 lkc_X12_124  (by decide) (by decide) (Nat.le_of_ble_eq_true rfl) rfl rfl (k_bytesIn ?_)
  refine Sx.iaddN dX12_feed_13 ?_
  refine Sx.iload_n dX12_feed_14 rfl ?_
  refine Sx.callS1 dX12_feed_15 lkc_X12_124  (by decide) (by decide) (Nat.le_of_ble_eq_true rfl) rfl rfl (k_bytesIn ?_)
  refine Sx.iaddN dX12_feed_18 ?_
  refine Sx.iload_n dX12_feed_19 rfl ?_
  refine Sx.callS1 dX12_feed_20 lkc_X12_124  (by decide) (by decide) (Nat.le_of_ble_eq_true rfl) rfl rfl (k_bytesIn ?_)
  refine Sx.iaddN dX12_feed_23 ?_
  refine Sx.iload dX12_feed_24 rfl ?_
  refine Sx.callS1 dX12_feed_26 lkc_X12_124  (by decide) (by decide) (Nat.le_of_ble_eq_true rfl) rfl rfl (k_bytesIn ?_)
  refine Sx.iaddN dX12_feed_29 ?_
  refine Sx.iload dX12_feed_30 rfl ?_
  refine Sx.callS1 dX12_feed_32 lkc_X12_124  (by decide) (by decide) (Nat.le_of_ble_eq_true rfl) rfl rfl (k_bytesIn ?_)
  refine Sx.iaddN dX12_feed_35 ?_
  refine Sx.sipush (v := (nI 240)) dX12_feed_36 (by decide) ?_
  refine Sx.icmp_leV (t := 44) dX12_feed_39 (by decide) (vN (by omega)) (vN (by decide)) (fun c39 => ?_) (fun c39 => ?_)
  · refine Sx.aload_n dX12_feed_44 rfl ?_
    refine Sx.iload_n dX12_feed_45 rfl ?_
    refine Sx.callV1 dX12_feed_46 lkv_X12_128 (rcv_12 (o_253 W)) (by decide) (by decide) (Nat.le_of_ble_eq_true rfl) rfl rfl (k_put (s := (V 0 0, V 1)) W M1.1.1.1 (by simp only [puW_1]; omega) M1.1.2.1 (fun I2 w2 u2 v2 z2 => ?_))
    refine Sx.aload_n dX12_feed_49 rfl ?_
    refine Sx.iload_n dX12_feed_50 rfl ?_
    refine Sx.callV1 dX12_feed_51 lkv_X12_128 (rcv_12 (o_253 W)) (by decide) (by decide) (Nat.le_of_ble_eq_true rfl) rfl rfl (k_put (s := puW a 4 ((V 0 0, V 1))) W w2 (by simp only [puW_1]; omega) u2 (fun I3 w3 u3 v3 z3 => ?_))
    refine Sx.aload_n dX12_feed_54 rfl ?_
    refine Sx.iload_n dX12_feed_55 rfl ?_
    refine Sx.callV1 dX12_feed_56 lkv_X12_128 (rcv_12 (o_253 W)) (by decide) (by decide) (Nat.le_of_ble_eq_true rfl) rfl rfl (k_put (s := puW b 4 (puW a 4 ((V 0 0, V 1)))) W w3 (by simp only [puW_1]; omega) u3 (fun I4 w4 u4 v4 z4 => ?_))
    refine Sx.aload_n dX12_feed_59 rfl ?_
    refine Sx.iload dX12_feed_60 rfl ?_
    refine Sx.callV1 dX12_feed_62 lkv_X12_128 (rcv_12 (o_253 W)) (by decide) (by decide) (Nat.le_of_ble_eq_true rfl) rfl rfl (k_put (s := puW c 4 (puW b 4 (puW a 4 ((V 0 0, V 1))))) W w4 (by simp only [puW_1]; omega) u4 (fun I5 w5 u5 v5 z5 => ?_))
    refine Sx.aload_n dX12_feed_65 rfl ?_
    refine Sx.iload dX12_feed_66 rfl ?_
    refine Sx.callV1 dX12_feed_68 lkv_X12_128 (rcv_12 (o_253 W)) (by decide) (by decide) (Nat.le_of_ble_eq_true rfl) rfl rfl (k_put (s := puW d 4 (puW c 4 (puW b 4 (puW a 4 ((V 0 0, V 1)))))) W w5 (by simp only [puW_1]; omega) u5 (fun I6 w6 u6 v6 z6 => ?_))
    refine Sx.aload_n dX12_feed_71 rfl ?_
    refine Sx.getfV (v := (nI ((puW e 4 (puW d 4 (puW c 4 (puW b 4 (puW a 4 ((V 0 0, V 1))))))).1))) dX12_feed_72 lkf_X12_122_12 (o_253 W) w6 ?_
    refine Sx.iret dX12_feed_75 rfl rfl ?_
    have hC : feedC V a b c d e := by omega
    have mm := M1.tp (I' := I6) (n := (fdS V a b c d e).1) (T := (fdS V a b c d e).2) w6 (fun j hj => by rw [z6 j hj, z5 j hj, z4 j hj, z3 j hj, z2 j hj]) u6 (fun q q1 q2 => by rw [v6 q q1 q2, v5 q q1 q2, v4 q q1 q2, v3 q q1 q2, v2 q q1 q2])
    exact pXX (by unfold feedR; rw [if_pos hC]; rfl) (h I6 R L (by unfold feedV; rw [if_pos hC]; exact mm) (hf1.tr (FM.i fun q hq => by rw [v6 q (by omega) (by omega), v5 q (by omega) (by omega), v4 q (by omega) (by omega), v3 q (by omega) (by omega), v2 q (by omega) (by omega)])))
  · refine Sx.iconst (v := (iI (-1))) dX12_feed_42 (by decide) ?_
    refine Sx.iret dX12_feed_43 rfl rfl ?_
    have hn : ¬ feedC V a b c d e := fun z => by omega
    exact pXX (by unfold feedR; rw [if_neg hn]; rfl) (h I1 R L (by unfold feedV; rw [if_neg hn]; exact M1) hf1)
set_option maxRecDepth 20000 in
set_option maxHeartbeats 1000000 in
theorem k_end {G : Gt} {l : Launch} {Z : Zt} {R : Rt} {I : It} {L : Lt} {post : Pt'} {V : Vt} {N : Nat} {x : Int32} (W : WF Z R) (hM : MI V I L) (hG : GV N V) (hN : N < 2147483647) (h : ∀ I' R' L', MI (endV V x) I' L' → FM R I L R' I' L' → post (some (.int (b2i (decide (endC V x))))) Z R' I' L') : Cx G l mX12_end 2 0 0 [.ref 253, .int x] Z R I L post := by
  refine Cx.of (by decide +kernel) (by exact Nat.le_of_ble_eq_true rfl) ?_
  refine Sx.aload_n dX12_end_0 rfl ?_
  refine Sx.iconst (v := (nI 0)) dX12_end_1 (by decide) ?_
  refine Sx.putfV dX12_end_2 lkp_X12_109_12 (o_253 W) rfl rfl (fun I1 e1 o1 => ?_)
  have M1 := hM.th (j := 0) (by unfold sfJ; decide) e1 o1
  have hf1 : FM R I L R I1 L := FM.i fun q hq => o1 q (by omega)
  have hp6 := hG.p
  have hb := hG.b
  have h00 := hG.1.1
  refine Sx.iload_n dX12_end_5 rfl ?_
  refine Sx.if_ltV (t := 17) dX12_end_6 (by decide) (vX x) (fun c6 => ?_) (fun c6 => ?_)
  · refine Sx.iconst (v := (nI 0)) dX12_end_17 (by decide) ?_
    refine Sx.top (show _ = b2i false from rfl) ?_
    refine Sx.iret dX12_end_18 rfl (b2i_n _) ?_
    have hn : ¬ endC V x := fun z => by omega
    exact pBB (decide_eq_false hn) (h I1 R L (by unfold endV; rw [if_neg hn]; exact M1) hf1)
  · refine Sx.iload_n dX12_end_9 rfl ?_
    refine Sx.aload_n dX12_end_10 rfl ?_
    refine Sx.getfV (v := (nI (V 0 0))) dX12_end_11 lkf_X12_122_12 (o_253 W) M1.1.1.1 ?_
    refine Sx.icmp_leV (t := 19) dX12_end_14 (by decide) (vX x) (vN (by omega)) (fun c14 => ?_) (fun c14 => ?_)
    · refine Sx.aload_n dX12_end_19 rfl ?_
      refine Sx.iload_n dX12_end_20 rfl ?_
      refine Sx.putfV dX12_end_21 lkp_X12_122_12 (o_253 W) rfl rfl (fun I2 e2 o2 => ?_)
      refine Sx.iconst (v := (nI 1)) dX12_end_24 (by decide) ?_
      refine Sx.top (show _ = b2i true from rfl) ?_
      refine Sx.iret dX12_end_25 rfl (b2i_n _) ?_
      have hC : endC V x := ⟨by omega, by omega⟩
      have mm := M1.tp (I' := I2) (n := xN x) (T := V 1) (by rw [e2, upd_at]; exact x_nn (by omega)) (fun j hj => by rw [e2, upd_nj _ _ hj]) (fun j hj => by rw [o2 254 (by decide)]; exact M1.1.2.1 j (by have : xN x = x.toInt.toNat := rfl; omega)) (fun q q1 _ => o2 q q1)
      exact pBB (decide_eq_true hC) (h I2 R L (by unfold endV; rw [if_pos hC]; exact mm) (hf1.tr (FM.i fun q hq => o2 q (by omega))))
    · refine Sx.iconst (v := (nI 0)) dX12_end_17 (by decide) ?_
      refine Sx.top (show _ = b2i false from rfl) ?_
      refine Sx.iret dX12_end_18 rfl (b2i_n _) ?_
      have hn : ¬ endC V x := fun z => by omega
      exact pBB (decide_eq_false hn) (h I1 R L (by unfold endV; rw [if_neg hn]; exact M1) hf1)
/-! a law's reading does not depend on what its letters are worth -/
def Ag (r r' : Bool × Nat × Int) : Prop := r.1 = r'.1 ∧ r.2.1 = r'.2.1
theorem Ag.rf (a : Bool) (b : Nat) (x y : Int) : Ag (a, b, x) (a, b, y) := ⟨rfl, rfl⟩
theorem Ag.ite {c : Prop} [Decidable c] {r s r' s' : Bool × Nat × Int} (h : Ag r r') (g : Ag s s') : Ag (if c then r else s) (if c then r' else s') := by
  by_cases q : c
  · rw [if_pos q, if_pos q]; exact h
  · rw [if_neg q, if_neg q]; exact g
theorem Ag.bb {r r' : Bool × Nat × Int} {f f' : Nat → Int → Bool × Nat × Int} (h : Ag r r') (g : ∀ q w w', Ag (f q w) (f' q w')) : Ag (pb r f) (pb r' f') := by
  unfold pb
  rw [← h.1, ← h.2]
  by_cases q : r.1 = true
  · rw [if_pos q, if_pos q]; exact g _ _ _
  · rw [if_neg q, if_neg q]; exact ⟨rfl, rfl⟩
theorem pz_ag (T : Nat → Nat) (n : Nat) (e e' : Nat → Int) : ∀ k m dp c v v', Ag (pz T n e k m dp c v) (pz T n e' k m dp c v')
  | 0, m, dp, c, v, v' => ⟨rfl, rfl⟩
  | k + 1, m, dp, c, v, v' => by
    have ih := pz_ag T n e e' k
    unfold pz
    repeat' first | exact ih _ _ _ _ _ | exact Ag.rf _ _ _ _ | refine Ag.bb (ih _ _ _ _ _) fun q w w' => ?_ | refine Ag.ite ?_ ?_
def Ao (r r' : Bool × Nat × Option Int) : Prop := r.1 = r'.1 ∧ r.2.1 = r'.2.1
theorem Ao.ite {c : Prop} [Decidable c] {r s r' s' : Bool × Nat × Option Int} (h : Ao r r') (g : Ao s s') : Ao (if c then r else s) (if c then r' else s') := by
  by_cases q : c
  · rw [if_pos q, if_pos q]; exact h
  · rw [if_neg q, if_neg q]; exact g
theorem pclQ_ag (T : Nat → Nat) (n : Nat) (e e' : Nat → Int) (k : Nat) {r r' : Bool × Nat × Int} (h : Ag r r') : Ao (pcl.pclQ T n e k r) (pcl.pclQ T n e' k r') := by
  unfold pcl.pclQ
  have g := pz_ag T n e e' k 2 0 (nx T n r'.2.1 + 1) 0 0
  rw [h.1, h.2, g.1, g.2]
  exact Ao.ite ⟨rfl, rfl⟩ (Ao.ite ⟨rfl, rfl⟩ (Ao.ite ⟨rfl, rfl⟩ ⟨rfl, rfl⟩))
theorem pclB_ag (T : Nat → Nat) (n : Nat) (e e' : Nat → Int) (k c : Nat) : Ao (pcl.pclB T n e k c) (pcl.pclB T n e' k c) := by
  unfold pcl.pclB
  have g := pz_ag T n e e' k 2 0 c 0 0
  rw [g.1, g.2]
  exact Ao.ite (pclQ_ag T n e e' k (pz_ag T n e e' k 6 0 c 0 0)) (Ao.ite ⟨rfl, rfl⟩ (Ao.ite (pclQ_ag T n e e' k (pz_ag T n e e' k 13 0 _ _ _)) ⟨rfl, rfl⟩))
theorem pcl_ag (T : Nat → Nat) (n : Nat) (e e' : Nat → Int) (k c : Nat) : Ao (pcl T n e k c) (pcl T n e' k c) := by
  unfold pcl
  exact Ao.ite ⟨rfl, rfl⟩ (Ao.ite ⟨rfl, rfl⟩ (pclB_ag T n e e' k _))
theorem plw_ag (T : Nat → Nat) (n : Nat) (e e' : Nat → Int) (k : Nat) : ∀ q c o o', Ao (plw T n e k q c o) (plw T n e' k q c o')
  | 0, c, o, o' => ⟨rfl, rfl⟩
  | q + 1, c, o, o' => by
    have h := pcl_ag T n e e' k c
    unfold plw
    rw [h.1, h.2]
    exact Ao.ite ⟨rfl, rfl⟩ (Ao.ite (plw_ag T n e e' k q _ _ _) (Ao.ite ⟨rfl, rfl⟩ ⟨rfl, rfl⟩))
def ezZ : Nat → Int := fun _ => 0
def fauP (V : Vt) (s : Nat) : Bool × Nat := if s = 0 then ((ptR (V 1) (V 0 0) 14 0 usQ).1, (ptR (V 1) (V 0 0) 14 0 usQ).2.1) else if s = 1 then ((plw (V 1) (V 0 0) ezZ 4000 (V 0 0 + 1) 0 none).1, (plw (V 1) (V 0 0) ezZ 4000 (V 0 0 + 1) 0 none).2.1) else (cpO (V 1) (V 0 0) 20 0, cpE (V 1) (V 0 0) 20 0)
def fauN (V : Vt) (s : Nat) : Int32 := if (fauP V s).1 = true then iI (-1) else nI (fauP V s).2
abbrev sorC (x : Int32) : Prop := 0 ≤ x.toInt ∧ x.toInt ≤ 2
def fauR (V : Vt) (x : Int32) : Int32 := if sorC x then fauN V (xN x) else iI (-2)
/-- what a reading leaves behind -/
def FX (V : Vt) (s : Nat) (I : It) : Prop := (fauP V s).1 = true → (s = 0 → RQ_ I (ptR (V 1) (V 0 0) 14 0 usQ).2.2) ∧ (s = 2 → I 265 4 = nI (cpN (V 1) (V 0 0) 20 0) ∧ ∀ z, z < 3 * cpN (V 1) (V 0 0) 20 0 → I 264 (240 + z) = cpF (V 1) (V 0 0) 20 0 0 (fun _ => 0) z)
theorem FS.fm {R R' : Rt} {I I' : It} {L : Lt} (h : FS I I') (g : ∀ a j, ¬ (a = 253 ∧ j = 5) → R' a j = R a j) : FM R I L R' I' L := ⟨fun q hq => h.1 q (by omega), fun _ _ => rfl, g⟩
theorem up2R_fr (R : Rt) (x : Option Nat) (a j : Nat) (h : ¬ (a = 253 ∧ j = 5)) : up2R R 253 5 x a j = R a j := by
  unfold up2R va_up
  by_cases c : a = 253
  · subst c
    rw [if_pos rfl, if_neg (fun q => h ⟨rfl, q⟩)]
  · rw [if_neg c]
theorem GV.cl {N : Nat} {V : Vt} (h : GV N V) : V 0 3 ≤ 4 ∧ ∀ i, i < V 0 3 → V (20 + i) 60 ≤ 20 ∧ ∀ z, z < 60 → V (20 + i) z ≤ 10 := h.2.2.1
theorem MI.mt {V : Vt} {I : It} {L : Lt} {N : Nat} (h : MI V I L) (g : GV N V) : MT I (V 1) (V 0 0) := ⟨h.1.1.1, g.1.1, h.1.2.1, g.1.2⟩
set_option maxRecDepth 20000 in
set_option maxHeartbeats 1000000 in
theorem k_fault0 {G : Gt} {l : Launch} {Z : Zt} {R : Rt} {I : It} {L : Lt} {post : Pt'} {V : Vt} {N : Nat} (W : WF Z R) (hM : MI V I L) (hG : GV N V) (hN : N < 2147483647) (h : ∀ I' R', MI V I' L → FM R I L R' I' L → FX V 0 I' → post (some (.int (fauN V 0))) Z R' I' L) : Cx G l mX12_fault 33 0 0 [.ref 253, .int (nI 0)] Z R I L post := by
  refine Cx.of (by decide +kernel) (by exact Nat.le_of_ble_eq_true rfl) ?_
  refine Sx.aload_n dX12_fault_0 rfl ?_
  refine Sx.iconst (v := (nI 0)) dX12_fault_1 (by decide) ?_
  refine Sx.putfV dX12_fault_2 lkp_X12_109_12 (o_253 W) rfl rfl (fun I1 e1 o1 => ?_)
  have M1 := hM.th (j := 0) (by unfold sfJ; decide) e1 o1
  have hf1 : FM R I L R I1 L := FM.i fun q hq => o1 q (by omega)
  have hp6 := hG.p
  have hb := hG.b
  refine Sx.iload_n dX12_fault_5 rfl ?_
  refine Sx.i2l dX12_fault_6 ?_
  refine Sx.lconst (v := 0) dX12_fault_7 (by decide) ?_
  refine Sx.ldc2 dX12_fault_8 lkk_X12_285 ?_
  refine Sx.callS3 dX12_fault_11 lkc_X12_230  (by decide) (by decide) (Nat.le_of_ble_eq_true rfl) rfl rfl (k_isIn (vLi (vN (by decide))) (show VL 0 0 from rfl) (show VL 2 2 from rfl) ?_)
  refine Sx.if_neD (t := 20) dX12_fault_14 (by decide) (fun c14 => ?_) (fun c14 => False.elim (by omega))
  refine Sx.iload_n dX12_fault_20 rfl ?_
  refine Sx.if_neV (t := 28) dX12_fault_21 (by decide) (vN (by decide)) (fun c21 => False.elim (by omega)) (fun c21 => ?_)
  refine Sx.aload_n dX12_fault_24 rfl ?_
  refine Sx.callV0 dX12_fault_25 lkv_X12_287 (rcv_12 (o_253 W)) (by decide) (by decide) (Nat.le_of_ble_eq_true rfl) rfl rfl (k_readPort W (M1.mt hG) (fun hok I8 R8 hr8 fs8 e8 => ?_) (fun hok I9 R9 hr9 fs9 e9 rq9 => ?_))
  · skip
    have hg8 : ∀ a j, ¬ (a = 253 ∧ j = 5) → R8 a j = R a j := fun a j z => by rw [hr8]; exact up2R_fr R _ a j z
    have W := W.fr hg8
    have mm := M1.fs hG.cl fs8
    have hff := hf1.tr ((fs8).fm (L := L) hg8)
    have hfp : fauP V 0 = (false, (ptR (V 1) (V 0 0) 14 0 usQ).2.1) := by unfold fauP; rw [if_pos rfl, hok]
    refine Sx.iload_n dX12_fault_28 rfl ?_
    refine Sx.iconst (v := (nI 1)) dX12_fault_29 (by decide) ?_
    refine Sx.icmp_neV (t := 46) dX12_fault_30 (by decide) (vN (by decide)) (vN (by decide)) (fun c30 => ?_) (fun c30 => False.elim (by omega))
    refine Sx.iload_n dX12_fault_46 rfl ?_
    refine Sx.iconst (v := (nI 2)) dX12_fault_47 (by decide) ?_
    refine Sx.icmp_neV (t := 55) dX12_fault_48 (by decide) (vN (by decide)) (vN (by decide)) (fun c48 => ?_) (fun c48 => False.elim (by omega))
    refine Sx.aload_n dX12_fault_55 rfl ?_
    refine Sx.getfV (v := (nI ((ptR (V 1) (V 0 0) 14 0 usQ).2.1))) dX12_fault_56 lkf_X12_141_12 (o_253 W) e8 ?_
    refine Sx.iret dX12_fault_59 rfl rfl ?_
    exact pXX (by unfold fauN; rw [hfp]; rfl) (h I8 R8 mm hff (fun z => by rw [hfp] at z; cases z))
  · skip
    have hg9 : ∀ a j, ¬ (a = 253 ∧ j = 5) → R9 a j = R a j := fun a j z => by rw [hr9]; exact up2R_fr R _ a j z
    have W := W.fr hg9
    have mm := M1.fs hG.cl fs9
    have hff := hf1.tr ((fs9).fm (L := L) hg9)
    have hfp : fauP V 0 = (true, (ptR (V 1) (V 0 0) 14 0 usQ).2.1) := by unfold fauP; rw [if_pos rfl, hok]
    refine Sx.iload_n dX12_fault_28 rfl ?_
    refine Sx.iconst (v := (nI 1)) dX12_fault_29 (by decide) ?_
    refine Sx.icmp_neV (t := 46) dX12_fault_30 (by decide) (vN (by decide)) (vN (by decide)) (fun c30 => ?_) (fun c30 => False.elim (by omega))
    refine Sx.iload_n dX12_fault_46 rfl ?_
    refine Sx.iconst (v := (nI 2)) dX12_fault_47 (by decide) ?_
    refine Sx.icmp_neV (t := 55) dX12_fault_48 (by decide) (vN (by decide)) (vN (by decide)) (fun c48 => ?_) (fun c48 => False.elim (by omega))
    refine Sx.aload_n dX12_fault_55 rfl ?_
    refine Sx.getfV (v := (iI (-1))) dX12_fault_56 lkf_X12_141_12 (o_253 W) e9 ?_
    refine Sx.iret dX12_fault_59 rfl rfl ?_
    exact pXX (by unfold fauN; rw [hfp]; rfl) (h I9 R9 mm hff (fun _ => ⟨(fun _ => rq9), (fun z => by cases z)⟩))
set_option maxRecDepth 20000 in
set_option maxHeartbeats 1000000 in
theorem k_fault1 {G : Gt} {l : Launch} {Z : Zt} {R : Rt} {I : It} {L : Lt} {post : Pt'} {V : Vt} {N : Nat} (W : WF Z R) (hM : MI V I L) (hG : GV N V) (hN : N < 2147483647) (h : ∀ I' R', MI V I' L → FM R I L R' I' L → FX V 1 I' → post (some (.int (fauN V 1))) Z R' I' L) : Cx G l mX12_fault 33 0 0 [.ref 253, .int (nI 1)] Z R I L post := by
  refine Cx.of (by decide +kernel) (by exact Nat.le_of_ble_eq_true rfl) ?_
  refine Sx.aload_n dX12_fault_0 rfl ?_
  refine Sx.iconst (v := (nI 0)) dX12_fault_1 (by decide) ?_
  refine Sx.putfV dX12_fault_2 lkp_X12_109_12 (o_253 W) rfl rfl (fun I1 e1 o1 => ?_)
  have M1 := hM.th (j := 0) (by unfold sfJ; decide) e1 o1
  have hf1 : FM R I L R I1 L := FM.i fun q hq => o1 q (by omega)
  have hp6 := hG.p
  have hb := hG.b
  refine Sx.iload_n dX12_fault_5 rfl ?_
  refine Sx.i2l dX12_fault_6 ?_
  refine Sx.lconst (v := 0) dX12_fault_7 (by decide) ?_
  refine Sx.ldc2 dX12_fault_8 lkk_X12_285 ?_
  refine Sx.callS3 dX12_fault_11 lkc_X12_230  (by decide) (by decide) (Nat.le_of_ble_eq_true rfl) rfl rfl (k_isIn (vLi (vN (by decide))) (show VL 0 0 from rfl) (show VL 2 2 from rfl) ?_)
  refine Sx.if_neD (t := 20) dX12_fault_14 (by decide) (fun c14 => ?_) (fun c14 => False.elim (by omega))
  refine Sx.iload_n dX12_fault_20 rfl ?_
  refine Sx.if_neV (t := 28) dX12_fault_21 (by decide) (vN (by decide)) (fun c21 => ?_) (fun c21 => False.elim (by omega))
  refine Sx.iload_n dX12_fault_28 rfl ?_
  refine Sx.iconst (v := (nI 1)) dX12_fault_29 (by decide) ?_
  refine Sx.icmp_neV (t := 46) dX12_fault_30 (by decide) (vN (by decide)) (vN (by decide)) (fun c30 => False.elim (by omega)) (fun c30 => ?_)
  have hE0 : ∀ s, bd6 ((fun s => if s < 128 then (I1 257 s).toInt else 0) s) := by
    intro s
    show bd6 (if s < 128 then (I1 257 s).toInt else 0)
    split
    · next c =>
      obtain ⟨-, z, hz, e⟩ := M1.1.2.2.2.2.2.2.2.2.2.1 s c
      rw [e, nI_toInt (by omega)]
      unfold bd6
      omega
    · unfold bd6; omega
  have hE : EL I1 (fun s => if s < 128 then (I1 257 s).toInt else 0) := fun s hs => by show _ = (if s < 128 then (I1 257 s).toInt else 0); rw [if_pos hs]
  refine Sx.aload_n dX12_fault_33 rfl ?_
  refine Sx.aload_n dX12_fault_34 rfl ?_
  refine Sx.getfR dX12_fault_35 lkf_X12_9_12 (o_253 W) (r_253_1 W) ?_
  refine Sx.iconst (v := (nI 0)) dX12_fault_38 (by decide) ?_
  refine Sx.aload_n dX12_fault_39 rfl ?_
  refine Sx.getfV (v := (nI (V 0 0))) dX12_fault_40 lkf_X12_122_12 (o_253 W) M1.1.1.1 ?_
  refine Sx.callV3 dX12_fault_43 lkv_X12_290 (rcv_12 (o_253 W)) (by decide) (by decide) (Nat.le_of_ble_eq_true rfl) rfl rfl (k_goThrough (n := V 0 0) (T := V 1) (e := (fun s => if s < 128 then (I1 257 s).toInt else 0)) W hE0 hE ⟨hG.1.1, fun j hj => by rw [Nat.zero_add]; exact M1.1.2.1 j hj, hG.1.2, Or.inl ⟨rfl, rfl⟩⟩ rfl (fun hok I8 R8 hr8 fs8 e8 => ?_) (fun hok I9 R9 hr9 fs9 e9 _ => ?_))
  · skip
    have hag := plw_ag (V 1) (V 0 0) (fun s => if s < 128 then (I1 257 s).toInt else 0) ezZ 4000 (V 0 0 + 1) 0 none none
    have hg8 : ∀ a j, ¬ (a = 253 ∧ j = 5) → R8 a j = R a j := fun a j z => by rw [hr8]; exact up2R_fr R _ a j z
    have W := W.fr hg8
    have mm := M1.fs hG.cl fs8.fs
    have hff := hf1.tr ((fs8.fs).fm (L := L) hg8)
    have hfp : fauP V 1 = (false, (plw (V 1) (V 0 0) ezZ 4000 (V 0 0 + 1) 0 none).2.1) := by unfold fauP; rw [if_neg (by decide), if_pos rfl, ← hag.1, hok]
    refine Sx.iload_n dX12_fault_46 rfl ?_
    refine Sx.iconst (v := (nI 2)) dX12_fault_47 (by decide) ?_
    refine Sx.icmp_neV (t := 55) dX12_fault_48 (by decide) (vN (by decide)) (vN (by decide)) (fun c48 => ?_) (fun c48 => False.elim (by omega))
    refine Sx.aload_n dX12_fault_55 rfl ?_
    refine Sx.getfV (v := (nI ((plw (V 1) (V 0 0) ezZ 4000 (V 0 0 + 1) 0 none).2.1))) dX12_fault_56 lkf_X12_141_12 (o_253 W) (by rw [← hag.2]; exact e8) ?_
    refine Sx.iret dX12_fault_59 rfl rfl ?_
    exact pXX (by unfold fauN; rw [hfp]; rfl) (h I8 R8 mm hff (fun z => by rw [hfp] at z; cases z))
  · skip
    have hag := plw_ag (V 1) (V 0 0) (fun s => if s < 128 then (I1 257 s).toInt else 0) ezZ 4000 (V 0 0 + 1) 0 none none
    have hg9 : ∀ a j, ¬ (a = 253 ∧ j = 5) → R9 a j = R a j := fun a j z => by rw [hr9]; exact up2R_fr R _ a j z
    have W := W.fr hg9
    have mm := M1.fs hG.cl fs9.fs
    have hff := hf1.tr ((fs9.fs).fm (L := L) hg9)
    have hfp : fauP V 1 = (true, (plw (V 1) (V 0 0) ezZ 4000 (V 0 0 + 1) 0 none).2.1) := by unfold fauP; rw [if_neg (by decide), if_pos rfl, ← hag.1, hok]
    refine Sx.iload_n dX12_fault_46 rfl ?_
    refine Sx.iconst (v := (nI 2)) dX12_fault_47 (by decide) ?_
    refine Sx.icmp_neV (t := 55) dX12_fault_48 (by decide) (vN (by decide)) (vN (by decide)) (fun c48 => ?_) (fun c48 => False.elim (by omega))
    refine Sx.aload_n dX12_fault_55 rfl ?_
    refine Sx.getfV (v := (iI (-1))) dX12_fault_56 lkf_X12_141_12 (o_253 W) e9 ?_
    refine Sx.iret dX12_fault_59 rfl rfl ?_
    exact pXX (by unfold fauN; rw [hfp]; rfl) (h I9 R9 mm hff (fun _ => ⟨(fun z => by cases z), (fun z => by cases z)⟩))
set_option maxRecDepth 20000 in
set_option maxHeartbeats 1000000 in
theorem k_fault2 {G : Gt} {l : Launch} {Z : Zt} {R : Rt} {I : It} {L : Lt} {post : Pt'} {V : Vt} {N : Nat} (W : WF Z R) (hM : MI V I L) (hG : GV N V) (hN : N < 2147483647) (h : ∀ I' R', MI V I' L → FM R I L R' I' L → FX V 2 I' → post (some (.int (fauN V 2))) Z R' I' L) : Cx G l mX12_fault 33 0 0 [.ref 253, .int (nI 2)] Z R I L post := by
  refine Cx.of (by decide +kernel) (by exact Nat.le_of_ble_eq_true rfl) ?_
  refine Sx.aload_n dX12_fault_0 rfl ?_
  refine Sx.iconst (v := (nI 0)) dX12_fault_1 (by decide) ?_
  refine Sx.putfV dX12_fault_2 lkp_X12_109_12 (o_253 W) rfl rfl (fun I1 e1 o1 => ?_)
  have M1 := hM.th (j := 0) (by unfold sfJ; decide) e1 o1
  have hf1 : FM R I L R I1 L := FM.i fun q hq => o1 q (by omega)
  have hp6 := hG.p
  have hb := hG.b
  refine Sx.iload_n dX12_fault_5 rfl ?_
  refine Sx.i2l dX12_fault_6 ?_
  refine Sx.lconst (v := 0) dX12_fault_7 (by decide) ?_
  refine Sx.ldc2 dX12_fault_8 lkk_X12_285 ?_
  refine Sx.callS3 dX12_fault_11 lkc_X12_230  (by decide) (by decide) (Nat.le_of_ble_eq_true rfl) rfl rfl (k_isIn (vLi (vN (by decide))) (show VL 0 0 from rfl) (show VL 2 2 from rfl) ?_)
  refine Sx.if_neD (t := 20) dX12_fault_14 (by decide) (fun c14 => ?_) (fun c14 => False.elim (by omega))
  refine Sx.iload_n dX12_fault_20 rfl ?_
  refine Sx.if_neV (t := 28) dX12_fault_21 (by decide) (vN (by decide)) (fun c21 => ?_) (fun c21 => False.elim (by omega))
  refine Sx.iload_n dX12_fault_28 rfl ?_
  refine Sx.iconst (v := (nI 1)) dX12_fault_29 (by decide) ?_
  refine Sx.icmp_neV (t := 46) dX12_fault_30 (by decide) (vN (by decide)) (vN (by decide)) (fun c30 => ?_) (fun c30 => False.elim (by omega))
  refine Sx.iload_n dX12_fault_46 rfl ?_
  refine Sx.iconst (v := (nI 2)) dX12_fault_47 (by decide) ?_
  refine Sx.icmp_neV (t := 55) dX12_fault_48 (by decide) (vN (by decide)) (vN (by decide)) (fun c48 => False.elim (by omega)) (fun c48 => ?_)
  refine Sx.aload_n dX12_fault_51 rfl ?_
  refine Sx.callV0 dX12_fault_52 lkv_X12_293 (rcv_12 (o_253 W)) (by decide) (by decide) (Nat.le_of_ble_eq_true rfl) rfl rfl (k_readPlan W (M1.mt hG) (fun hok I8 R8 hr8 fs8 e8 => ?_) (fun hok I9 R9 hr9 fs9 e9 c9 d9 => ?_))
  · skip
    have hg8 : ∀ a j, ¬ (a = 253 ∧ j = 5) → R8 a j = R a j := fun a j z => by rw [hr8]; exact up2R_fr R _ a j z
    have W := W.fr hg8
    have mm := M1.fs hG.cl fs8
    have hff := hf1.tr ((fs8).fm (L := L) hg8)
    have hfp : fauP V 2 = (false, cpE (V 1) (V 0 0) 20 0) := by unfold fauP; rw [if_neg (by decide), if_neg (by decide), hok]
    refine Sx.aload_n dX12_fault_55 rfl ?_
    refine Sx.getfV (v := (nI (cpE (V 1) (V 0 0) 20 0))) dX12_fault_56 lkf_X12_141_12 (o_253 W) e8 ?_
    refine Sx.iret dX12_fault_59 rfl rfl ?_
    exact pXX (by unfold fauN; rw [hfp]; rfl) (h I8 R8 mm hff (fun z => by rw [hfp] at z; cases z))
  · skip
    have hg9 : ∀ a j, ¬ (a = 253 ∧ j = 5) → R9 a j = R a j := fun a j z => by rw [hr9]; exact up2R_fr R _ a j z
    have W := W.fr hg9
    have mm := M1.fs hG.cl fs9
    have hff := hf1.tr ((fs9).fm (L := L) hg9)
    have hfp : fauP V 2 = (true, cpE (V 1) (V 0 0) 20 0) := by unfold fauP; rw [if_neg (by decide), if_neg (by decide), hok]
    refine Sx.aload_n dX12_fault_55 rfl ?_
    refine Sx.getfV (v := (iI (-1))) dX12_fault_56 lkf_X12_141_12 (o_253 W) e9 ?_
    refine Sx.iret dX12_fault_59 rfl rfl ?_
    exact pXX (by unfold fauN; rw [hfp]; rfl) (h I9 R9 mm hff (fun _ => ⟨(fun z => by cases z), (fun _ => ⟨c9, d9⟩)⟩))
