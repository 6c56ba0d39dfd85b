/-! the reference goes through a law -/
def plw (T : Nat → Nat) (n : Nat) (e : Nat → Int) (k : Nat) : Nat → Nat → Option Int → Bool × Nat × Option Int
  | 0, c, o => (false, c, o)
  | q + 1, c, o =>
    if (pcl T n e k c).1 = false then (false, (pcl T n e k c).2.1, none) else
    if sgn T n (nx T n (pcl T n e k c).2.1) = 59 then plw T n e k q (nx T n (pcl T n e k c).2.1 + 1) (o.or (pcl T n e k c).2.2) else
    if sgn T n (nx T n (pcl T n e k c).2.1) = 0 then (true, nx T n (pcl T n e k c).2.1, o.or (pcl T n e k c).2.2) else (false, nx T n (pcl T n e k c).2.1, none)
def plwR (T : Nat → Nat) (n : Nat) (e : Nat → Int) (k q p : Nat) (o : Option Int) : Bool × Nat × Option Int :=
  if sgn T n (nx T n p) = 59 then plw T n e k q (nx T n p + 1) o else
  if sgn T n (nx T n p) = 0 then (true, nx T n p, o) else (false, nx T n p, none)
def gfJ (j : Nat) : Prop := j < 8 ∨ 14 < j ∧ j ≠ 17
def FG (I I' : It) : Prop := (∀ q, q ≠ 253 → I' q = I q) ∧ ∀ j, gfJ j → I' 253 j = I 253 j
theorem FG.tr {I J K : It} (h : FG I J) (g : FG J K) : FG I K := ⟨fun q hq => (g.1 q hq).trans (h.1 q hq), fun q hq => (g.2 q hq).trans (h.2 q hq)⟩
theorem FC.fg {I J : It} (h : FC I J) : FG I J := ⟨h.1, fun j hj => h.2 j (by unfold gfJ at hj; omega)⟩
theorem FG.st {I I' : It} (h1 : ∀ q, q ≠ 253 → I' q = I q) (h2 : ∀ j, j < 8 ∨ 11 < j → I' 253 j = I 253 j) : FG I I' := ⟨h1, fun j hj => h2 j (by unfold gfJ at hj; omega)⟩
theorem FG.fld {I I' : It} {k : Nat} {x : Int32} (hk : ¬ gfJ k) (e : I' 253 = upd (I 253) k x) (o : ∀ q, q ≠ 253 → I' q = I q) : FG I I' := ⟨o, fun j hj => by rw [e, upd_nj _ _ (fun q => hk (by rw [← q]; exact hj))]⟩
theorem FG.fs {I J : It} (h : FG I J) : FS I J := ⟨fun q hq => h.1 q hq.1, fun z _ => by rw [h.1 264 (by decide)], fun z _ => by rw [h.1 265 (by decide)], fun j hj => h.2 j (by unfold fsJ at hj; unfold gfJ; omega)⟩
theorem plw_s (T : Nat → Nat) (n : Nat) (e : Nat → Int) (k q c : Nat) (o : Option Int) : plw T n e k (q + 1) c o = if (pcl T n e k c).1 = false then (false, (pcl T n e k c).2.1, none) else plwR T n e k q (pcl T n e k c).2.1 (o.or (pcl T n e k c).2.2) := rfl
theorem FC.lb {I I' : It} (F : FC I I') {x : Int32} (h : I 253 13 = x) : I' 253 13 = x := (F.2 13 (by decide)).trans h
theorem FO.fc0 {I I' : It} {o : Option Int} (h : FO I o) (F : FA I I') : FO I' o := h.fa F
/-- a text that lies somewhere -/
def MX (I : It) (tx b n : Nat) (T : Nat → Nat) : Prop := n ≤ 240 ∧ (∀ j, j < n → I tx (b + j) = by8 (T j)) ∧ (∀ j, j < n → 0 < T j ∧ T j < 256) ∧ ((tx = 254 ∧ b = 0) ∨ (tx = 255 ∧ b ≤ 720))
theorem MX.mr {R R' : Rt} {I I' : It} {tx b n : Nat} {T : Nat → Nat} (h : MX I tx b n T) (hR : R' = up2R R 253 5 (some tx)) (h1 : ∀ q, q ≠ 253 → I' q = I q) (h2 : I' 253 8 = nI b) (h3 : I' 253 9 = nI n) (h4 : I' 253 10 = nI 0) : MR R' I' tx b n 0 T :=
  ⟨by rw [hR]; exact up2R_at _ _ _ _, h2, h3, h4, fun j hj => by rw [h1 tx (by rcases h.2.2.2 with q | q <;> omega)]; exact h.2.1 j hj, h.1, Nat.zero_le _, h.2.2.1, h.2.2.2⟩
theorem MT.mx {I : It} {T : Nat → Nat} {n : Nat} (h : MT I T n) : MX I 254 0 n T := ⟨h.2.1, fun j hj => by rw [Nat.zero_add]; exact h.2.2.1 j hj, h.2.2.2, Or.inl ⟨rfl, rfl⟩⟩
theorem pcl_q {T : Nat → Nat} {n : Nat} {e : Nat → Int} {k : Nat} (c : Nat) (hc : c ≤ n) : (pcl T n e k c).2.1 ≤ n := by
  have hs : ∀ q, q ≤ n → nx T n q ≤ n := fun q hq => by have := nx_b T n q; omega
  have hu : ∀ q, q ≤ n → sgn T n (nx T n q) ≠ 0 → nx T n q + 1 ≤ n := fun q hq h => by
    have := sgn_or T n (nx T n q)
    omega
  have hQ : ∀ rr : Bool × Nat × Int, rr.2.1 ≤ n → (pcl.pclQ T n e k rr).2.1 ≤ n := by
    intro rr hr
    unfold pcl.pclQ
    split
    · exact hr
    · split
      · exact hs _ hr
      · next h2 =>
        have h3 := hu _ hr (fun q => h2 (by omega))
        split
        · exact pz_q k 2 0 _ 0 h3
        · exact pz_q k 2 0 _ 0 h3
  unfold pcl
  split
  · exact hs c hc
  · next h1 =>
    have h3 := hu c hc (fun q => h1 (by omega))
    split
    · exact hs _ h3
    · next h4 =>
      have h5 := hu _ h3 (fun q => h4 (by omega))
      have h6 := hs _ h5
      unfold pcl.pclB
      split
      · exact hQ _ (pz_q k 6 0 _ 0 h6)
      · have h7 := pz_q (T := T) (n := n) (e := e) k 2 0 _ 0 h6
        split
        · exact h7
        · split
          · exact hQ _ (pz_q k 13 0 _ _ (hs _ h7))
          · exact hs _ h7
set_option maxRecDepth 20000 in
set_option maxHeartbeats 1000000 in
theorem l_go {G : Gt} {l : Launch} {Z : Zt} {R : Rt} {L : Lt} {post : Pt'} {tx b n : Nat} {T : Nat → Nat} {e : Nat → Int} {r : Bool × Nat × Option Int} {I0 : It} (W : WF Z R) (hE0 : ∀ s, bd6 (e s)) (hE : EL I0 e) (hlb : I0 253 13 = nI 121) (hno : r.1 = false → ∀ I', FC I0 I' → I' 253 11 = nI r.2.1 → post none Z R I' L) (hyes : r.1 = true → ∀ I', FC I0 I' → I' 253 11 = iI (-1) → FO I' r.2.2 → post none Z R I' L) :
    ∀ (k q0 p : Nat) (o : Option Int) (I : It), q0 < k → plwR T n e 4000 q0 p o = r → n - p ≤ q0 → MR R I tx b n p T → I 253 11 = iI (-1) → I 253 12 = nI 0 → FC I0 I → FO I o → Sx G l mX12_goThrough 32 0 0 32 [(0, .ref 253)] [] Z R I L post := by
  intro k
  induction k with
  | zero => intro q0 p o I h1; omega
  | succ k ih =>
    intro q0 p o I h1 hR hq hM hf hd hF hO
    have ih := fun q p o I h => ih q p o I h
    have hn0 := hM.2.2.2.2.2.1
    have hc0 := hM.2.2.2.2.2.2.1
    have hs0 := sgn_or T n (nx T n p)
    have hx0 := nx_b T n p
    refine Sx.aload_n dX12_goThrough_32 rfl ?_
    refine Sx.getfV (v := (iI (-1))) dX12_goThrough_33 lkf_X12_141_12 (o_253 W) hf ?_
    refine Sx.iconst (v := (iI (-1))) dX12_goThrough_36 (by decide) ?_
    refine Sx.icmp_neV (t := 66) dX12_goThrough_37 (by decide) (vZ (by decide)) (vZ (by decide)) (fun c37 => False.elim (by omega)) (fun c37 => ?_)
    refine Sx.aload_n dX12_goThrough_40 rfl ?_
    refine Sx.callV0 dX12_goThrough_41 lkv_X12_151 (rcv_12 (o_253 W)) (by omega) (by decide) (Nat.le_of_ble_eq_true rfl) rfl rfl (k_look W hM (fun I1 hM1 g1 f1 d1 => ?_))
    have hF1 := (hF).tr (FA.fc g1)
    have hf1 := f1.trans hf
    have hd1 := d1.trans hd
    have hx1 := nx_b T n p
    have hk1 := lkN_or T n (nx T n p)
    have ht1 := hM1.2.2.2.2.2.2.2.1 (nx T n p)
    have hc1 := hM1.2.2.2.2.2.2.1
    have hn1 := hM1.2.2.2.2.2.1
    have hs1 := sgn_or T n (nx T n p)
    have hO1 := (hO).fa g1
    refine Sx.bipush (v := (nI 59)) dX12_goThrough_44 (by decide) ?_
    refine Sx.icmp_neV (t := 66) dX12_goThrough_46 (by decide) (vZ (by omega)) (vN (by decide)) (fun c46 => ?_) (fun c46 => ?_)
    · refine Sx.aload_n dX12_goThrough_66 rfl ?_
      refine Sx.getfV (v := (iI (-1))) dX12_goThrough_67 lkf_X12_141_12 (o_253 W) hf1 ?_
      refine Sx.iconst (v := (iI (-1))) dX12_goThrough_70 (by decide) ?_
      refine Sx.icmp_neV (t := 87) dX12_goThrough_71 (by decide) (vZ (by decide)) (vZ (by decide)) (fun c71 => False.elim (by omega)) (fun c71 => ?_)
      refine Sx.aload_n dX12_goThrough_74 rfl ?_
      refine Sx.callV0 dX12_goThrough_75 lkv_X12_151 (rcv_12 (o_253 W)) (by omega) (by decide) (Nat.le_of_ble_eq_true rfl) rfl rfl (k_lookS W hM1 (nx_stop T n _) ?_)
      refine Sx.iconst (v := (iI (-1))) dX12_goThrough_78 (by decide) ?_
      refine Sx.icmp_eqV (t := 87) dX12_goThrough_79 (by decide) (vZ (by omega)) (vZ (by decide)) (fun c79 => ?_) (fun c79 => ?_)
      · refine Sx.vret dX12_goThrough_87 rfl ?_
        rw [plwR, if_neg (by omega), if_pos (by omega)] at hR
        subst hR
        exact hyes rfl I1 hF1 hf1 hO1
      · refine Sx.aload_n dX12_goThrough_82 rfl ?_
        refine Sx.callV0 dX12_goThrough_83 lkv_X12_147 (rcv_12 (o_253 W)) (by omega) (by decide) (Nat.le_of_ble_eq_true rfl) rfl rfl (k_fails W hM1 hf1 (fun I2 g2 f2 d2 a2 => ?_))
        have hF2 := (hF1).tr (FA.fc g2)
        have hM2 := hM1.mv (nx T n p) (by omega) g2 (a2.trans hM1.at_)
        refine Sx.pop dX12_goThrough_86 rfl ?_
        refine Sx.vret dX12_goThrough_87 rfl ?_
        rw [plwR, if_neg (by omega), if_neg (by omega)] at hR
        subst hR
        exact hno rfl I2 hF2 f2
    · obtain ⟨q, hq9⟩ : ∃ q, q0 = q + 1 := ⟨q0 - 1, by omega⟩
      refine Sx.aload_n dX12_goThrough_49 rfl ?_
      refine Sx.dup dX12_goThrough_50 rfl ?_
      refine Sx.getfV (v := (nI (nx T n p))) dX12_goThrough_51 lkf_X12_132_12 (o_253 W) hM1.at_ ?_
      refine Sx.iconst (v := (nI 1)) dX12_goThrough_54 (by decide) ?_
      refine Sx.iaddN dX12_goThrough_55 ?_
      refine Sx.putfV dX12_goThrough_56 lkp_X12_132_12 (o_253 W) rfl rfl (fun I3 e3 o3 => ?_)
      have hM3 : MR R I3 tx b n ((nx T n p) + 1) T := hM1.mv ((nx T n p) + 1) (by omega) (FA.up (by decide) e3 o3) (by rw [e3, upd_at])
      have hF3 := (hF1).tr (FA.fc (FA.up (by decide) e3 o3))
      have hf3 := Eq.trans (by rw [e3, upd_nj _ _ (by decide)] : I3 253 11 = I1 253 11) hf1
      have hd3 := Eq.trans (by rw [e3, upd_nj _ _ (by decide)] : I3 253 12 = I1 253 12) hd1
      have hk3 := lkN_or T n ((nx T n p) + 1)
      have ht3 := hM3.2.2.2.2.2.2.2.1 ((nx T n p) + 1)
      have hc3 := hM3.2.2.2.2.2.2.1
      have hn3 := hM3.2.2.2.2.2.1
      have hs3 := sgn_or T n ((nx T n p) + 1)
      have hO3 := (hO1).fa (FA.up (by decide) e3 o3)
      refine Sx.aload_n dX12_goThrough_59 rfl ?_
      refine Sx.callV0 dX12_goThrough_60 lkv_X12_224 (rcv_12 (o_253 W)) (by omega) (by decide) (Nat.le_of_ble_eq_true rfl) rfl rfl (k_clause (k := 4000) (o := o) W hE0 hM3 hf3 hd3 (hE.fc hF3) (FC.lb hF3 hlb) hO3 (by decide) rfl (fun x4 I4 g4 f4 => ?_) (fun x4 I4 g4 hM4 f4 d4 z4 hO4 => ?_))
      · skip
        have hF4 := FC.tr hF3 g4
        have hq4 := pcl_q (T := T) (n := n) (e := e) (k := 4000) ((nx T n p) + 1) hM3.2.2.2.2.2.2.1
        refine Sx.goto (t := 32) dX12_goThrough_63 (by decide) ?_
        refine Sx.aload_n dX12_goThrough_32 rfl ?_
        refine Sx.getfV (v := (nI ((pcl T n e 4000 ((nx T n p) + 1)).2.1))) dX12_goThrough_33 lkf_X12_141_12 (o_253 W) f4 ?_
        refine Sx.iconst (v := (iI (-1))) dX12_goThrough_36 (by decide) ?_
        refine Sx.icmp_neV (t := 66) dX12_goThrough_37 (by decide) (vN (by omega)) (vZ (by decide)) (fun c37 => ?_) (fun c37 => False.elim (by omega))
        refine Sx.aload_n dX12_goThrough_66 rfl ?_
        refine Sx.getfV (v := (nI ((pcl T n e 4000 ((nx T n p) + 1)).2.1))) dX12_goThrough_67 lkf_X12_141_12 (o_253 W) f4 ?_
        refine Sx.iconst (v := (iI (-1))) dX12_goThrough_70 (by decide) ?_
        refine Sx.icmp_neV (t := 87) dX12_goThrough_71 (by decide) (vN (by omega)) (vZ (by decide)) (fun c71 => ?_) (fun c71 => False.elim (by omega))
        refine Sx.vret dX12_goThrough_87 rfl ?_
        rw [plwR, if_pos (by omega), show q0 = q + 1 from hq9, plw_s, if_pos x4] at hR
        subst hR
        exact hno rfl I4 hF4 f4
      · skip
        have hF4 := FC.tr hF3 g4
        have hk4 := lkN_or T n ((pcl T n e 4000 ((nx T n p) + 1)).2.1)
        have ht4 := hM4.2.2.2.2.2.2.2.1 ((pcl T n e 4000 ((nx T n p) + 1)).2.1)
        have hc4 := hM4.2.2.2.2.2.2.1
        have hn4 := hM4.2.2.2.2.2.1
        have hs4 := sgn_or T n ((pcl T n e 4000 ((nx T n p) + 1)).2.1)
        refine Sx.goto (t := 32) dX12_goThrough_63 (by decide) ?_
        refine Sx.sub' [(0, .ref 253)] rfl ?_
        rw [plwR, if_pos (by omega), show q0 = q + 1 from hq9, plw_s, if_neg (by rw [x4]; decide)] at hR
        exact ih q _ (((o).or (pcl T n e 4000 ((nx T n p) + 1)).2.2)) I4 (by omega) hR (by omega) hM4 f4 d4 hF4 hO4
set_option maxRecDepth 20000 in
set_option maxHeartbeats 1000000 in
theorem k_goThrough {G : Gt} {l : Launch} {Z : Zt} {R : Rt} {I : It} {L : Lt} {post : Pt'} {tx b n : Nat} {T : Nat → Nat} {e : Nat → Int} {r : Bool × Nat × Option Int} (W : WF Z R) (hE0 : ∀ s, bd6 (e s)) (hE : EL I e) (hX : MX I tx b n T) (hR : plw T n e 4000 (n + 1) 0 none = r) (hno : r.1 = false → ∀ I' R', R' = up2R R 253 5 (some tx) → FG I I' → I' 253 11 = nI r.2.1 → post none Z R' I' L) (hyes : r.1 = true → ∀ I' R', R' = up2R R 253 5 (some tx) → FG I I' → I' 253 11 = iI (-1) → FO I' r.2.2 → post none Z R' I' L) : Cx G l mX12_goThrough 32 0 0 [.ref 253, .ref tx, .int (nI b), .int (nI n)] Z R I L post := by
  refine Cx.of (by decide +kernel) (by exact Nat.le_of_ble_eq_true rfl) ?_
  refine Sx.aload_n dX12_goThrough_0 rfl ?_
  refine Sx.aload_n dX12_goThrough_1 rfl ?_
  refine Sx.iload_n dX12_goThrough_2 rfl ?_
  refine Sx.iload_n dX12_goThrough_3 rfl ?_
  refine Sx.callV3 dX12_goThrough_4 lkv_X12_220 (rcv_12 (o_253 W)) (by omega) (by decide) (Nat.le_of_ble_eq_true rfl) rfl rfl (k_starts W (fun I1 R1 hR1 f0 f1 f2 f3 f4 f5 => ?_))
  have hM1 := hX.mr hR1 f0 f2 f3 f4
  have W : WF Z R1 := by rw [hR1]; exact W.tx _
  have hFS1 : FG I I1 := FG.st f0 f1
  have hn0 := hX.1
  refine Sx.aload_n dX12_goThrough_7 rfl ?_
  refine Sx.bipush (v := (nI 121)) dX12_goThrough_8 (by decide) ?_
  refine Sx.putfV dX12_goThrough_10 lkp_X12_214_12 (o_253 W) rfl rfl (fun I2 e2 o2 => ?_)
  have hM2 := hM1.fld (by decide) e2 o2
  have hf2 := Eq.trans (by rw [e2, upd_nj _ _ (by decide)] : I2 253 11 = I1 253 11) f5
  have hFS2 := hFS1.tr (FG.fld (show ¬ gfJ 13 by unfold gfJ; omega) e2 o2)
  refine Sx.aload_n dX12_goThrough_13 rfl ?_
  refine Sx.iconst (v := (nI 0)) dX12_goThrough_14 (by decide) ?_
  refine Sx.putfV dX12_goThrough_15 lkp_X12_144_12 (o_253 W) rfl rfl (fun I3 e3 o3 => ?_)
  have hM3 := hM2.fld (by decide) e3 o3
  have hf3 := Eq.trans (by rw [e3, upd_nj _ _ (by decide)] : I3 253 11 = I2 253 11) hf2
  have hFS3 := hFS2.tr (FG.fld (show ¬ gfJ 12 by unfold gfJ; omega) e3 o3)
  refine Sx.aload_n dX12_goThrough_18 rfl ?_
  refine Sx.iconst (v := (nI 0)) dX12_goThrough_19 (by decide) ?_
  refine Sx.putfV dX12_goThrough_20 lkp_X12_210_12 (o_253 W) rfl rfl (fun I4 e4 o4 => ?_)
  have hM4 := hM3.fld (by decide) e4 o4
  have hf4 := Eq.trans (by rw [e4, upd_nj _ _ (by decide)] : I4 253 11 = I3 253 11) hf3
  have hFS4 := hFS3.tr (FG.fld (show ¬ gfJ 17 by unfold gfJ; omega) e4 o4)
  refine Sx.aload_n dX12_goThrough_23 rfl ?_
  refine Sx.iconst (v := (nI 0)) dX12_goThrough_24 (by decide) ?_
  refine Sx.putfV dX12_goThrough_25 lkp_X12_217_12 (o_253 W) rfl rfl (fun I5 e5 o5 => ?_)
  have hM5 := hM4.fld (by decide) e5 o5
  have hf5 := Eq.trans (by rw [e5, upd_nj _ _ (by decide)] : I5 253 11 = I4 253 11) hf4
  have hFS5 := hFS4.tr (FG.fld (show ¬ gfJ 14 by unfold gfJ; omega) e5 o5)
  have hlb : I5 253 13 = nI 121 := by rw [e5, upd_nj _ _ (by decide), e4, upd_nj _ _ (by decide), e3, upd_nj _ _ (by decide), e2, upd_at]
  have hd5 : I5 253 12 = nI 0 := by rw [e5, upd_nj _ _ (by decide), e4, upd_nj _ _ (by decide), e3, upd_at]
  have hO5 : FO I5 none := ⟨by rw [e5, upd_nj _ _ (by decide), e4, upd_at], by rw [e5, upd_at]; rfl⟩
  have hE : EL I5 e := fun s hs => by rw [o5 257 (by decide), o4 257 (by decide), o3 257 (by decide), o2 257 (by decide), f0 257 (by decide)]; exact hE s hs
  refine Sx.aload_n dX12_goThrough_28 rfl ?_
  refine Sx.callV0 dX12_goThrough_29 lkv_X12_224 (rcv_12 (o_253 W)) (by omega) (by decide) (Nat.le_of_ble_eq_true rfl) rfl rfl (k_clause (k := 4000) (o := none) W hE0 hM5 hf5 hd5 (hE.fc (FC.rf I5)) (FC.lb (FC.rf I5) hlb) hO5 (by decide) rfl (fun x6 I6 g6 f6 => ?_) (fun x6 I6 g6 hM6 f6 d6 z6 hO6 => ?_))
  · skip
    have hF6 := FC.tr (FC.rf I5) g6
    have hq6 := pcl_q (T := T) (n := n) (e := e) (k := 4000) 0 hM5.2.2.2.2.2.2.1
    refine Sx.aload_n dX12_goThrough_32 rfl ?_
    refine Sx.getfV (v := (nI ((pcl T n e 4000 0).2.1))) dX12_goThrough_33 lkf_X12_141_12 (o_253 W) f6 ?_
    refine Sx.iconst (v := (iI (-1))) dX12_goThrough_36 (by decide) ?_
    refine Sx.icmp_neV (t := 66) dX12_goThrough_37 (by decide) (vN (by omega)) (vZ (by decide)) (fun c37 => ?_) (fun c37 => False.elim (by omega))
    refine Sx.aload_n dX12_goThrough_66 rfl ?_
    refine Sx.getfV (v := (nI ((pcl T n e 4000 0).2.1))) dX12_goThrough_67 lkf_X12_141_12 (o_253 W) f6 ?_
    refine Sx.iconst (v := (iI (-1))) dX12_goThrough_70 (by decide) ?_
    refine Sx.icmp_neV (t := 87) dX12_goThrough_71 (by decide) (vN (by omega)) (vZ (by decide)) (fun c71 => ?_) (fun c71 => False.elim (by omega))
    refine Sx.vret dX12_goThrough_87 rfl ?_
    rw [plw_s, if_pos x6] at hR
    subst hR
    exact hno rfl I6 R1 hR1 (hFS5.tr hF6.fg) f6
  · skip
    have hF6 := FC.tr (FC.rf I5) g6
    have hk6 := lkN_or T n ((pcl T n e 4000 0).2.1)
    have ht6 := hM6.2.2.2.2.2.2.2.1 ((pcl T n e 4000 0).2.1)
    have hc6 := hM6.2.2.2.2.2.2.1
    have hn6 := hM6.2.2.2.2.2.1
    have hs6 := sgn_or T n ((pcl T n e 4000 0).2.1)
    refine Sx.sub' [(0, .ref 253)] rfl ?_
    rw [plw_s, if_neg (by rw [x6]; decide)] at hR
    exact l_go W hE0 hE hlb (fun x I2 F f => hno x I2 R1 hR1 (hFS5.tr F.fg) f) (fun x I2 F f O => hyes x I2 R1 hR1 (hFS5.tr F.fg) f O) (n + 1) n _ (((none).or (pcl T n e 4000 0).2.2)) I6 (by omega) hR (by omega) hM6 f6 d6 hF6 hO6
