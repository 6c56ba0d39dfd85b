/-! the reference: odds -/
theorem od_fog {p c : Nat} (hp : p ≤ 1000000000) (hc : c ≤ 100) : ((nI p).toInt64 * (nI c).toInt64 / 100).toInt32 = nI (p * c / 100) := by
  have e1 : ((nI p).toInt64).toInt = (p : Int) := by rw [Int32.toInt_toInt64, nI_toInt (by omega)]
  have e2 : ((nI c).toInt64).toInt = (c : Int) := by rw [Int32.toInt_toInt64, nI_toInt (by omega)]
  have hm : p * c ≤ 1000000000 * 100 := Nat.mul_le_mul hp hc
  have hd : p * c / 100 ≤ 1000000000 := by omega
  have c8 : (100 : Int64).toInt = 100 := by decide
  have hne : (100 : Int64) ≠ -1 := by decide
  have e3 : ((nI p).toInt64 * (nI c).toInt64).toInt = ((p * c : Nat) : Int) := by
    rw [Int64.toInt_mul, e1, e2, ← Int.natCast_mul]
    exact Int.bmod_eq_of_le (by omega) (by omega)
  have e4 : ((nI p).toInt64 * (nI c).toInt64 / 100).toInt = ((p * c / 100 : Nat) : Int) := by
    rw [Int64.toInt_div_of_ne_right _ _ hne, e3, c8]
    rfl
  apply Int32.toInt_inj.mp
  rw [Int64.toInt_toInt32, e4, nI_toInt (by omega)]
  exact Int.bmod_eq_of_le (by omega) (by omega)
def odF (P0 day chance : Nat) (lo hi : Nat → Nat) : Nat → Nat → (Nat → Nat) → Nat → Nat
  | 0, _, g, part => if amn g P0 = day + 1 then part else 0
  | r + 1, n, g, part => odF P0 day chance lo hi r (n + 1) (upn g n (hi n)) (part * chance / 100) + odF P0 day chance lo hi r (n + 1) (upn g n (lo n)) (part - part * chance / 100)
theorem od_le {P0 day chance : Nat} {lo hi : Nat → Nat} (hc : chance ≤ 100) : ∀ r n g part, odF P0 day chance lo hi r n g part ≤ part
  | 0, n, g, part => by unfold odF; split <;> omega
  | r + 1, n, g, part => by
    have h1 := od_le (P0 := P0) (day := day) (lo := lo) (hi := hi) hc r (n + 1) (upn g n (hi n)) (part * chance / 100)
    have h2 := od_le (P0 := P0) (day := day) (lo := lo) (hi := hi) hc r (n + 1) (upn g n (lo n)) (part - part * chance / 100)
    have h3 : part * chance ≤ part * 100 := Nat.mul_le_mul_left _ hc
    unfold odF
    omega
abbrev oddC (V : Vt) (x y : Int32) : Prop := V 2 35 ≠ 0 ∧ (0 ≤ x.toInt ∧ x.toInt < (V 2 0 : Int)) ∧ (0 ≤ y.toInt ∧ y.toInt ≤ 100) ∧ (V 2 0 : Int) - (V 3 145 : Int) ≤ 8
def ltO (V : Vt) (d : Nat) : Nat := litN (V 2) (wlV V) (V 3) d 0 (upc (V 2) (V 3))
def ltH (V : Vt) (d : Nat) : Nat := litN (V 2) (wlV V) (V 3) d 9 (upc (V 2) (V 3))
def oddN (V : Vt) (x c : Nat) : Nat := odF (V 2 0) x c (ltO V) (ltH V) (V 2 0 - V 3 145) (V 3 145) (fun d => V 3 (18 + d)) 1000000000
def oddR (V : Vt) (x y : Int32) : Int32 := if oddC V x y then nI (oddN V (xN x) (xN y)) else -1
set_option maxRecDepth 20000 in
set_option maxHeartbeats 1000000 in
theorem k_ltN {G : Gt} {l : Launch} {Z : Zt} {R : Rt} {I : It} {L : Lt} {post : Pt'} {V : Vt} {dy f : Nat} (W : WF Z R) (hM : MI V I L) (hH : HV V) (hd : dy < 30) (hf : f ≤ 9) (hge : V 3 145 ≤ dy) (h : ∀ I' R' L', MI V I' L' → FL R I L R' I' L' → post (some (.int (nI (litN (V 2) (wlV V) (V 3) dy f (upc (V 2) (V 3)))))) Z R' I' L') : Cx G l mX12_lightBy 35 0 0 [.ref 253, .ref 266, .int (nI dy), .int (nI f)] Z R I L post :=
  k_lightBy W hM.1 hH.2.2.2.1 hH.2.2.2.2.1 hM.2.1 (Or.inl rfl) hH.1.2.2 ⟨hH.1.1, hH.1.2.1⟩ hd hf hge (fun I' R' L' f m1 m2 => h I' R' L' ⟨hM.1.fl f m1 m2, by rw [f.1 266 (by decide)]; exact hM.2⟩ f)
set_option maxRecDepth 20000 in
set_option maxHeartbeats 1000000 in
theorem l_od {G : Gt} {l : Launch} {Z : Zt} {R : Rt} {I : It} {L : Lt} {post : Pt'} {V : Vt} {day chance : Nat} {n part : Nat} {g : Nat → Nat} (W : WF Z R) (hM : MI V I L) (hH : HV V) (hdy : day < 30) (hg : ∀ d, d < V 2 0 → I 277 d = nI (g d) ∧ g d ≤ 99) (h : post (some (.int (nI (if amn g (V 2 0) = day + 1 then part else 0)))) Z R I L) :
    ∀ (k j : Nat), 1 ≤ j → j ≤ V 2 0 → V 2 0 < j + k → ∀ b, b + 1 = amn g j → Sx G l mX12_oddsFrom 36 0 0 16 [(6, .int (nI j)), (5, .int (nI b)), (0, .ref 253), (1, .int (nI day)), (2, .int (nI n)), (3, .int (nI chance)), (4, .int (nI part))] [] Z R I L post := by
  obtain ⟨p1, p2, p3, p4, p5, p6, p7, p8, p9⟩ := id hH.2.2.2.1
  intro k
  induction k with
  | zero => intro j h0 h1 h2; omega
  | succ k ih =>
    intro j h0 h1 h2 b hb
    have ha := amn_le g j
    refine Sx.iload dX12_oddsFrom_16 rfl ?_
    refine Sx.aload_n dX12_oddsFrom_18 rfl ?_
    refine Sx.getfR dX12_oddsFrom_19 lkf_X12_37_12 (o_253 W) (r_253_18 W) ?_
    refine Sx.iconst (v := (nI 0)) dX12_oddsFrom_22 (by decide) ?_
    refine Sx.ialdN dX12_oddsFrom_23 (a_258 W) (by decide) (by decide) (v := (nI (V 2 0))) (hM.1.2.2.2.1.1 0 (by decide)) ?_
    refine Sx.icmp_geV (t := 59) dX12_oddsFrom_24 (by decide) (vN (by omega)) (vN (by omega)) (fun c24 => ?_) (fun c24 => ?_)
    · have hj : j = V 2 0 := by omega
      subst hj
      refine Sx.iload dX12_oddsFrom_59 rfl ?_
      refine Sx.iload_n dX12_oddsFrom_61 rfl ?_
      refine Sx.icmp_neV (t := 70) dX12_oddsFrom_62 (by decide) (vN (by omega)) (vN (by omega)) (fun c62 => ?_) (fun c62 => ?_)
      · refine Sx.iconst (v := (nI 0)) dX12_oddsFrom_70 (by decide) ?_
        refine Sx.iret dX12_oddsFrom_71 rfl rfl ?_
        exact pNN (by rw [← hb, if_neg (by omega)]) h
      · refine Sx.iload dX12_oddsFrom_65 rfl ?_
        refine Sx.goto (t := 71) dX12_oddsFrom_67 (by decide) ?_
        refine Sx.iret dX12_oddsFrom_71 rfl rfl ?_
        exact pNN (by rw [← hb, if_pos (by omega)]) h
    · refine Sx.aload_n dX12_oddsFrom_27 rfl ?_
      refine Sx.getfR dX12_oddsFrom_28 lkf_X12_103_12 (o_253 W) (r_253_49 W) ?_
      refine Sx.iload dX12_oddsFrom_31 rfl ?_
      refine Sx.ialdN dX12_oddsFrom_33 (a_277 W) (by omega) (by decide) (v := (nI (g j))) (hg j (by omega)).1 ?_
      refine Sx.aload_n dX12_oddsFrom_34 rfl ?_
      refine Sx.getfR dX12_oddsFrom_35 lkf_X12_103_12 (o_253 W) (r_253_49 W) ?_
      refine Sx.iload dX12_oddsFrom_38 rfl ?_
      refine Sx.ialdN dX12_oddsFrom_40 (a_277 W) (by omega) (by decide) (v := (nI (g b))) (hg b (by omega)).1 ?_
      have l1 := (hg j (by omega)).2
      have l2 := (hg b (by omega)).2
      refine Sx.icmp_geV (t := 49) dX12_oddsFrom_41 (by decide) (vN (by omega)) (vN (by omega)) (fun c41 => ?_) (fun c41 => ?_)
      · refine Sx.iload dX12_oddsFrom_49 rfl ?_
        refine Sx.istore (lv' := [(5, .int (nI b)), (6, .int (nI j)), (0, .ref 253), (1, .int (nI day)), (2, .int (nI n)), (3, .int (nI chance)), (4, .int (nI part))]) dX12_oddsFrom_51 (by decide) rfl ?_
        refine Sx.iinc (v := (nI (j + 1))) (lv' := [(6, .int (nI (j + 1))), (5, .int (nI b)), (0, .ref 253), (1, .int (nI day)), (2, .int (nI n)), (3, .int (nI chance)), (4, .int (nI part))]) dX12_oddsFrom_53 rfl (nI_add j 1) (by decide) rfl ?_
        refine Sx.goto (t := 16) dX12_oddsFrom_56 (by decide) ?_
        refine Sx.sub' [(6, .int (nI (j + 1))), (5, .int (nI b)), (0, .ref 253), (1, .int (nI day)), (2, .int (nI n)), (3, .int (nI chance)), (4, .int (nI part))] rfl ?_
        exact ih (j + 1) (by omega) (by omega) (by omega) b (by rw [amn, ← hb, if_neg (fun q => q.elim (fun z => by omega) (fun z => by rw [Nat.add_sub_cancel] at z; omega))])
      · refine Sx.iload dX12_oddsFrom_44 rfl ?_
        refine Sx.goto (t := 51) dX12_oddsFrom_46 (by decide) ?_
        refine Sx.istore (lv' := [(5, .int (nI j)), (6, .int (nI j)), (0, .ref 253), (1, .int (nI day)), (2, .int (nI n)), (3, .int (nI chance)), (4, .int (nI part))]) dX12_oddsFrom_51 (by decide) rfl ?_
        refine Sx.iinc (v := (nI (j + 1))) (lv' := [(6, .int (nI (j + 1))), (5, .int (nI j)), (0, .ref 253), (1, .int (nI day)), (2, .int (nI n)), (3, .int (nI chance)), (4, .int (nI part))]) dX12_oddsFrom_53 rfl (nI_add j 1) (by decide) rfl ?_
        refine Sx.goto (t := 16) dX12_oddsFrom_56 (by decide) ?_
        refine Sx.sub' [(6, .int (nI (j + 1))), (5, .int (nI j)), (0, .ref 253), (1, .int (nI day)), (2, .int (nI n)), (3, .int (nI chance)), (4, .int (nI part))] rfl ?_
        exact ih (j + 1) (by omega) (by omega) (by omega) j (by rw [amn, ← hb, if_pos (Or.inr (by show _ < _; rw [Nat.add_sub_cancel]; omega))])
set_option maxRecDepth 20000 in
set_option maxHeartbeats 1000000 in
theorem k_oddsF {G : Gt} {l : Launch} {Z : Zt} {V : Vt} {day chance : Nat} (hH : HV V) (hdy : day < 30) (hch : chance ≤ 100) : ∀ (r : Nat) {post : Pt'} {R : Rt} {I : It} {L : Lt} {n part : Nat} {g : Nat → Nat}, WF Z R → MI V I L → n + r = V 2 0 → V 3 145 ≤ n → part ≤ 1000000000 → (∀ d, d < n → I 277 d = nI (g d) ∧ g d ≤ 99) → (∀ R' I' L', MI V I' L' → FM R I L R' I' L' → (∀ d, d < n → I' 277 d = I 277 d) → post (some (.int (nI (odF (V 2 0) day chance (ltO V) (ltH V) r n g part)))) Z R' I' L') → Cx G l mX12_oddsFrom (36 + r) 0 0 [.ref 253, .int (nI day), .int (nI n), .int (nI chance), .int (nI part)] Z R I L post := by
  obtain ⟨p1, p2, p3, p4, p5, p6, p7, p8, p9⟩ := id hH.2.2.2.1
  intro r
  induction r with
  | zero =>
    intro post R I L n part g W hM hn hge hpt hg h
    refine Cx.of (by decide +kernel) (by exact Nat.le_of_ble_eq_true rfl) ?_
    refine Sx.iload_n dX12_oddsFrom_0 rfl ?_
    refine Sx.aload_n dX12_oddsFrom_1 rfl ?_
    refine Sx.getfR dX12_oddsFrom_2 lkf_X12_37_12 (o_253 W) (r_253_18 W) ?_
    refine Sx.iconst (v := (nI 0)) dX12_oddsFrom_5 (by decide) ?_
    refine Sx.ialdN dX12_oddsFrom_6 (a_258 W) (by decide) (by decide) (v := (nI (V 2 0))) (hM.1.2.2.2.1.1 0 (by decide)) ?_
    refine Sx.icmp_neV (t := 72) dX12_oddsFrom_7 (by decide) (vN (by omega)) (vN (by omega)) (fun c7 => False.elim (by omega)) (fun c7 => ?_)
    refine Sx.iconst (v := (nI 0)) dX12_oddsFrom_10 (by decide) ?_
    refine Sx.istore (lv' := [(5, .int (nI 0)), (0, .ref 253), (1, .int (nI day)), (2, .int (nI n)), (3, .int (nI chance)), (4, .int (nI part))]) dX12_oddsFrom_11 (by decide) rfl ?_
    refine Sx.iconst (v := (nI 1)) dX12_oddsFrom_13 (by decide) ?_
    refine Sx.istore (lv' := [(6, .int (nI 1)), (5, .int (nI 0)), (0, .ref 253), (1, .int (nI day)), (2, .int (nI n)), (3, .int (nI chance)), (4, .int (nI part))]) dX12_oddsFrom_14 (by decide) rfl ?_
    refine Sx.sub' [(6, .int (nI 1)), (5, .int (nI 0)), (0, .ref 253), (1, .int (nI day)), (2, .int (nI n)), (3, .int (nI chance)), (4, .int (nI part))] rfl ?_
    exact l_od W hM hH hdy (fun d hd => hg d (by omega)) (h R I L hM (FM.rf R I L) (fun _ _ => rfl)) (V 2 0) 1 (by decide) (by omega) (by omega) 0 (amn_1 g).symm
  | succ r ih =>
    intro post R I L n part g W hM hn hge hpt hg h
    have hfg : part * chance ≤ part * 100 := Nat.mul_le_mul_left _ hch
    refine Cx.of (by decide +kernel) (by exact Nat.le_of_ble_eq_true rfl) ?_
    refine Sx.iload_n dX12_oddsFrom_0 rfl ?_
    refine Sx.aload_n dX12_oddsFrom_1 rfl ?_
    refine Sx.getfR dX12_oddsFrom_2 lkf_X12_37_12 (o_253 W) (r_253_18 W) ?_
    refine Sx.iconst (v := (nI 0)) dX12_oddsFrom_5 (by decide) ?_
    refine Sx.ialdN dX12_oddsFrom_6 (a_258 W) (by decide) (by decide) (v := (nI (V 2 0))) (hM.1.2.2.2.1.1 0 (by decide)) ?_
    refine Sx.icmp_neV (t := 72) dX12_oddsFrom_7 (by decide) (vN (by omega)) (vN (by omega)) (fun c7 => ?_) (fun c7 => False.elim (by omega))
    refine Sx.iload dX12_oddsFrom_72 rfl ?_
    refine Sx.i2l dX12_oddsFrom_74 ?_
    refine Sx.iload_n dX12_oddsFrom_75 rfl ?_
    refine Sx.i2l dX12_oddsFrom_76 ?_
    refine Sx.lmul dX12_oddsFrom_77 ?_
    refine Sx.ldc2 dX12_oddsFrom_78 lkk_X12_331 ?_
    refine Sx.ldiv dX12_oddsFrom_81 (by decide) ?_
    refine Sx.l2i dX12_oddsFrom_82 ?_
    refine Sx.top (show _ = nI (part * chance / 100) from od_fog hpt hch) ?_
    refine Sx.istore (lv' := [(5, .int (nI (part * chance / 100))), (0, .ref 253), (1, .int (nI day)), (2, .int (nI n)), (3, .int (nI chance)), (4, .int (nI part))]) dX12_oddsFrom_83 (by decide) rfl ?_
    refine Sx.aload_n dX12_oddsFrom_85 rfl ?_
    refine Sx.getfR dX12_oddsFrom_86 lkf_X12_103_12 (o_253 W) (r_253_49 W) ?_
    refine Sx.iload_n dX12_oddsFrom_89 rfl ?_
    refine Sx.aload_n dX12_oddsFrom_90 rfl ?_
    refine Sx.aload_n dX12_oddsFrom_91 rfl ?_
    refine Sx.getfR dX12_oddsFrom_92 lkf_X12_61_12 (o_253 W) (r_253_32 W) ?_
    refine Sx.iload_n dX12_oddsFrom_95 rfl ?_
    refine Sx.bipush (v := (nI 9)) dX12_oddsFrom_96 (by decide) ?_
    refine Sx.callV3 dX12_oddsFrom_98 lkv_X12_359 (rcv_12 (o_253 W)) (by omega) (by decide) (Nat.le_of_ble_eq_true rfl) rfl rfl (k_ltN W hM hH (by omega) (by decide) (by omega) (fun I1 R1 L1 hM1 fl1 => ?_))
    have hf1 := (FM.rf R I L).tr fl1.fm
    have W := fl1.fm.wf W
    have lt1 := litN_le (V 2) (wlV V) (V 3) n 9 (upc (V 2) (V 3))
    refine Sx.iastN dX12_oddsFrom_101 (a_277 W) (by omega) (by decide) (fun I2 e2 o2 => ?_)
    have hM2 := hM1.sc (a := 277) (by unfold scr; decide) o2
    have hf2 := hf1.tr (FM.i (R := R1) (L := L1) fun q hq => o2 q (by omega))
    refine Sx.aload_n dX12_oddsFrom_102 rfl ?_
    refine Sx.iload_n dX12_oddsFrom_103 rfl ?_
    refine Sx.iload_n dX12_oddsFrom_104 rfl ?_
    refine Sx.iconst (v := (nI 1)) dX12_oddsFrom_105 (by decide) ?_
    refine Sx.iaddN dX12_oddsFrom_106 ?_
    refine Sx.iload_n dX12_oddsFrom_107 rfl ?_
    refine Sx.iload dX12_oddsFrom_108 rfl ?_
    refine Sx.callV4 dX12_oddsFrom_110 lkv_X12_471 (rcv_12 (o_253 W)) (by omega) (by decide) (Nat.le_of_ble_eq_true rfl) rfl rfl (ih (part := part * chance / 100) (g := upn g n (ltH V n)) (n := n + 1) W hM2 (by omega) (by omega) (by omega) (fun d hd => ?_) (fun R3 I3 L3 hM3 fm3 hk3 => ?_))
    · by_cases q : d = n
      · rw [q, e2, upd_at, upn_eq]
        exact ⟨rfl, lt1⟩
      · rw [e2, upd_nj _ _ q, upn_ne _ _ q, fl1.1 277 (by decide)]
        exact hg d (by omega)
    have hf3 := hf2.tr fm3
    have W := fm3.wf W
    have ol3 := od_le (P0 := V 2 0) (day := day) (lo := ltO V) (hi := ltH V) hch r (n + 1) (upn g n (ltH V n)) (part * chance / 100)
    refine Sx.istore (lv' := [(6, .int (nI (odF (V 2 0) day chance (ltO V) (ltH V) r (n + 1) (upn g n (ltH V n)) (part * chance / 100)))), (5, .int (nI (part * chance / 100))), (0, .ref 253), (1, .int (nI day)), (2, .int (nI n)), (3, .int (nI chance)), (4, .int (nI part))]) dX12_oddsFrom_113 (by decide) rfl ?_
    refine Sx.aload_n dX12_oddsFrom_115 rfl ?_
    refine Sx.getfR dX12_oddsFrom_116 lkf_X12_103_12 (o_253 W) (r_253_49 W) ?_
    refine Sx.iload_n dX12_oddsFrom_119 rfl ?_
    refine Sx.aload_n dX12_oddsFrom_120 rfl ?_
    refine Sx.aload_n dX12_oddsFrom_121 rfl ?_
    refine Sx.getfR dX12_oddsFrom_122 lkf_X12_61_12 (o_253 W) (r_253_32 W) ?_
    refine Sx.iload_n dX12_oddsFrom_125 rfl ?_
    refine Sx.iconst (v := (nI 0)) dX12_oddsFrom_126 (by decide) ?_
    refine Sx.callV3 dX12_oddsFrom_127 lkv_X12_359 (rcv_12 (o_253 W)) (by omega) (by decide) (Nat.le_of_ble_eq_true rfl) rfl rfl (k_ltN W hM3 hH (by omega) (by decide) (by omega) (fun I4 R4 L4 hM4 fl4 => ?_))
    have hf4 := hf3.tr fl4.fm
    have W := fl4.fm.wf W
    have lt4 := litN_le (V 2) (wlV V) (V 3) n 0 (upc (V 2) (V 3))
    refine Sx.iastN dX12_oddsFrom_130 (a_277 W) (by omega) (by decide) (fun I5 e5 o5 => ?_)
    have hM5 := hM4.sc (a := 277) (by unfold scr; decide) o5
    have hf5 := hf4.tr (FM.i (R := R4) (L := L4) fun q hq => o5 q (by omega))
    refine Sx.iload dX12_oddsFrom_131 rfl ?_
    refine Sx.aload_n dX12_oddsFrom_133 rfl ?_
    refine Sx.iload_n dX12_oddsFrom_134 rfl ?_
    refine Sx.iload_n dX12_oddsFrom_135 rfl ?_
    refine Sx.iconst (v := (nI 1)) dX12_oddsFrom_136 (by decide) ?_
    refine Sx.iaddN dX12_oddsFrom_137 ?_
    refine Sx.iload_n dX12_oddsFrom_138 rfl ?_
    refine Sx.iload dX12_oddsFrom_139 rfl ?_
    refine Sx.iload dX12_oddsFrom_141 rfl ?_
    refine Sx.isubN dX12_oddsFrom_143 (by omega) ?_
    refine Sx.callV4 dX12_oddsFrom_144 lkv_X12_471 (rcv_12 (o_253 W)) (by omega) (by decide) (Nat.le_of_ble_eq_true rfl) rfl rfl (ih (part := part - (part * chance / 100)) (g := upn g n (ltO V n)) (n := n + 1) W hM5 (by omega) (by omega) (by omega) (fun d hd => ?_) (fun R6 I6 L6 hM6 fm6 hk6 => ?_))
    · by_cases q : d = n
      · rw [q, e5, upd_at, upn_eq]
        exact ⟨rfl, lt4⟩
      · rw [e5, upd_nj _ _ q, upn_ne _ _ q, fl4.1 277 (by decide), hk3 d (by omega), e2, upd_nj _ _ (by omega), fl1.1 277 (by decide)]
        exact hg d (by omega)
    have hf6 := hf5.tr fm6
    have W := fm6.wf W
    have ol6 := od_le (P0 := V 2 0) (day := day) (lo := ltO V) (hi := ltH V) hch r (n + 1) (upn g n (ltO V n)) (part - (part * chance / 100))
    refine Sx.iaddN dX12_oddsFrom_147 ?_
    refine Sx.iret dX12_oddsFrom_148 rfl rfl ?_
    refine pNN (by rw [odF]) (h R6 I6 L6 hM6 hf6 (fun d hd => by rw [hk6 d (by omega), e5, upd_nj _ _ (by omega), fl4.1 277 (by decide), hk3 d (by omega), e2, upd_nj _ _ (by omega), fl1.1 277 (by decide)]))
set_option maxRecDepth 20000 in
set_option maxHeartbeats 1000000 in
theorem l_odd {G : Gt} {l : Launch} {Z : Zt} {R : Rt} {L : Lt} {post : Pt'} {V : Vt} {R0 : Rt} {I0 : It} {L0 : Lt} {x y : Nat} (W : WF Z R) (hH : HV V) (hx : x < V 2 0) (hy : y ≤ 100) (h8 : V 2 0 - V 3 145 ≤ 8) (h : ∀ R' I' L', MI V I' L' → FM R0 I0 L0 R' I' L' → post (some (.int (nI (oddN V x y)))) Z R' I' L') :
    ∀ (k j : Nat), j ≤ V 3 145 → V 3 145 < j + k → ∀ (I : It), MI V I L → FM R0 I0 L0 R I L → (∀ d, d < j → I 277 d = nI (V 3 (18 + d)) ∧ V 3 (18 + d) ≤ 99) → Sx G l mX12_odds 45 0 0 65 [(3, .int (nI j)), (0, .ref 253), (1, .int (nI x)), (2, .int (nI y))] [] Z R I L post := by
  obtain ⟨p1, p2, p3, p4, p5, p6, p7, p8, p9⟩ := id hH.2.2.2.1
  have hS4 := hH.2.2.2.2.1.2.2.2.1
  have hd9 := hH.2.2.2.2.1.2.2.2.2.2.2.2.2.2.2.2.2.2.1
  intro k
  induction k with
  | zero => intro j h1 h2; omega
  | succ k ih =>
    intro j h1 h2 I hM hf hg
    refine Sx.iload_n dX12_odds_65 rfl ?_
    refine Sx.aload_n dX12_odds_66 rfl ?_
    refine Sx.getfR dX12_odds_67 lkf_X12_61_12 (o_253 W) (r_253_32 W) ?_
    refine Sx.bipush (v := (nI 25)) dX12_odds_70 (by decide) ?_
    refine Sx.ialdN dX12_odds_72 (a_266 W) (by decide) (by decide) (v := (nI (V 3 145))) hM.2.1.2.2.2.2.2.2.2.2.1 ?_
    refine Sx.icmp_geV (t := 97) dX12_odds_73 (by decide) (vN (by omega)) (vN (by omega)) (fun c73 => ?_) (fun c73 => ?_)
    · have hjd : j = V 3 145 := by omega
      refine Sx.aload_n dX12_odds_97 rfl ?_
      refine Sx.iload_n dX12_odds_98 rfl ?_
      refine Sx.aload_n dX12_odds_99 rfl ?_
      refine Sx.getfR dX12_odds_100 lkf_X12_61_12 (o_253 W) (r_253_32 W) ?_
      refine Sx.bipush (v := (nI 25)) dX12_odds_103 (by decide) ?_
      refine Sx.ialdN dX12_odds_105 (a_266 W) (by decide) (by decide) (v := (nI (V 3 145))) hM.2.1.2.2.2.2.2.2.2.2.1 ?_
      refine Sx.iload_n dX12_odds_106 rfl ?_
      refine Sx.ldc_w dX12_odds_107 lkk_X12_475 ?_
      refine Sx.top (show _ = (nI 1000000000) by decide) ?_
      refine Sx.callV4 dX12_odds_110 lkv_X12_471 (rcv_12 (o_253 W)) (by omega) (by decide) (Nat.le_of_ble_eq_true rfl) rfl rfl (k_oddsF (part := 1000000000) (n := V 3 145) (g := fun d => V 3 (18 + d)) hH (by omega) (by omega) (V 2 0 - V 3 145) W hM (by omega) (by omega) (by omega) (fun d hd => hg d (by omega)) (fun R1 I1 L1 hM1 fm1 _ => ?_))
      refine Sx.iret dX12_odds_113 rfl rfl ?_
      exact h R1 I1 L1 hM1 (hf.tr fm1)
    · refine Sx.aload_n dX12_odds_76 rfl ?_
      refine Sx.getfR dX12_odds_77 lkf_X12_103_12 (o_253 W) (r_253_49 W) ?_
      refine Sx.iload_n dX12_odds_80 rfl ?_
      refine Sx.aload_n dX12_odds_81 rfl ?_
      refine Sx.getfR dX12_odds_82 lkf_X12_61_12 (o_253 W) (r_253_32 W) ?_
      refine Sx.bipush (v := (nI 26)) dX12_odds_85 (by decide) ?_
      refine Sx.iload_n dX12_odds_87 rfl ?_
      refine Sx.iaddN dX12_odds_88 ?_
      refine Sx.ialdN dX12_odds_89 (a_266 W) (by omega) (by decide) (v := (nI (V 3 (18 + j)))) (hM.2.1.2.2.2.2.2.2.2.2.2.1 j (by omega)) ?_
      refine Sx.iastN dX12_odds_90 (a_277 W) (by omega) (by decide) (fun I2 e2 o2 => ?_)
      refine Sx.iinc (v := (nI (j + 1))) (lv' := [(3, .int (nI (j + 1))), (0, .ref 253), (1, .int (nI x)), (2, .int (nI y))]) dX12_odds_91 rfl (nI_add j 1) (by decide) rfl ?_
      refine Sx.goto (t := 65) dX12_odds_94 (by decide) ?_
      refine Sx.sub' [(3, .int (nI (j + 1))), (0, .ref 253), (1, .int (nI x)), (2, .int (nI y))] rfl ?_
      refine ih (j + 1) (by omega) (by omega) I2 (hM.sc (a := 277) (by unfold scr; decide) o2) (hf.tr (FM.i fun q hq => o2 q (by omega))) (fun d hd => ?_)
      rw [e2]
      by_cases q : d = j
      · rw [q, upd_at]; exact ⟨rfl, hS4 j (by omega)⟩
      · rw [upd_nj _ _ q]; exact hg d (by omega)
set_option maxRecDepth 20000 in
set_option maxHeartbeats 1000000 in
theorem k_odds {G : Gt} {l : Launch} {Z : Zt} {R : Rt} {I : It} {L : Lt} {post : Pt'} {V : Vt} {N : Nat} {x y : Int32} (W : WF Z R) (hM : MI V I L) (hG : GV N V) (hN : N < 2147483647) (h : QK post Z R I L V (oddR V x y)) : Cx G l mX12_odds 45 0 0 [.ref 253, .int x, .int y] Z R I L post := by
  refine Cx.of (by decide +kernel) (by exact Nat.le_of_ble_eq_true rfl) ?_
  refine Sx.aload_n dX12_odds_0 rfl ?_
  refine Sx.iconst (v := (nI 0)) dX12_odds_1 (by decide) ?_
  refine Sx.putfV dX12_odds_2 lkp_X12_109_12 (o_253 W) rfl rfl (fun I1 e1 o1 => ?_)
  have M1 := hM.th (j := 0) (by unfold sfJ; decide) e1 o1
  have hf1 : FM R I L R I1 L := FM.i fun q hq => o1 q (by omega)
  have hp6 := hG.p
  have hb := hG.b
  have hB := hG.bnd
  have h2z := hB.1 0 (by decide)
  refine Sx.aload_n dX12_odds_5 rfl ?_
  refine Sx.getfV (v := (nI (V 2 35))) dX12_odds_6 lkf_X12_307_12 (o_253 W) M1.1.1.2.2.2.1 ?_
  refine Sx.if_eqV (t := 61) dX12_odds_9 (by decide) (vN (by omega)) (fun c9 => ?_) (fun c9 => ?_)
  · refine Sx.iconst (v := (iI (-1))) dX12_odds_61 (by decide) ?_
    refine Sx.iret dX12_odds_62 rfl rfl ?_
    have hn : ¬ oddC V x y := fun z => by omega
    exact pXX (by unfold oddR; rw [if_neg hn]; rfl) (h I1 R L M1 hf1)
  · refine Sx.iload_n dX12_odds_12 rfl ?_
    refine Sx.i2l dX12_odds_13 ?_
    refine Sx.lconst (v := 0) dX12_odds_14 (by decide) ?_
    refine Sx.aload_n dX12_odds_15 rfl ?_
    refine Sx.getfR dX12_odds_16 lkf_X12_37_12 (o_253 W) (r_253_18 W) ?_
    refine Sx.iconst (v := (nI 0)) dX12_odds_19 (by decide) ?_
    refine Sx.ialdN dX12_odds_20 (a_258 W) (by decide) (by decide) (v := (nI (V 2 0))) (M1.1.2.2.2.1.1 0 (by decide)) ?_
    refine Sx.iconst (v := (nI 1)) dX12_odds_21 (by decide) ?_
    refine Sx.isubV dX12_odds_22 (vN (by omega)) (vN (by decide)) ?_
    refine Sx.i2l dX12_odds_23 ?_
    refine Sx.callS3 dX12_odds_24 lkc_X12_230  (by decide) (by decide) (Nat.le_of_ble_eq_true rfl) rfl rfl (k_isIn (vLi (vX x)) (show VL 0 0 from rfl) (vLi (vZ (by omega))) ?_)
    refine Sx.if_eqD (t := 61) dX12_odds_27 (by decide) (fun c27 => ?_) (fun c27 => ?_)
    · refine Sx.iconst (v := (iI (-1))) dX12_odds_61 (by decide) ?_
      refine Sx.iret dX12_odds_62 rfl rfl ?_
      have hn : ¬ oddC V x y := fun z => by omega
      exact pXX (by unfold oddR; rw [if_neg hn]; rfl) (h I1 R L M1 hf1)
    · refine Sx.iload_n dX12_odds_30 rfl ?_
      refine Sx.i2l dX12_odds_31 ?_
      refine Sx.lconst (v := 0) dX12_odds_32 (by decide) ?_
      refine Sx.ldc2 dX12_odds_33 lkk_X12_331 ?_
      refine Sx.callS3 dX12_odds_36 lkc_X12_230  (by decide) (by decide) (Nat.le_of_ble_eq_true rfl) rfl rfl (k_isIn (vLi (vX y)) (show VL 0 0 from rfl) (show VL 100 100 from rfl) ?_)
      refine Sx.if_eqD (t := 61) dX12_odds_39 (by decide) (fun c39 => ?_) (fun c39 => ?_)
      · refine Sx.iconst (v := (iI (-1))) dX12_odds_61 (by decide) ?_
        refine Sx.iret dX12_odds_62 rfl rfl ?_
        have hn : ¬ oddC V x y := fun z => by omega
        exact pXX (by unfold oddR; rw [if_neg hn]; rfl) (h I1 R L M1 hf1)
      · refine Sx.aload_n dX12_odds_42 rfl ?_
        refine Sx.getfR dX12_odds_43 lkf_X12_37_12 (o_253 W) (r_253_18 W) ?_
        refine Sx.iconst (v := (nI 0)) dX12_odds_46 (by decide) ?_
        refine Sx.ialdN dX12_odds_47 (a_258 W) (by decide) (by decide) (v := (nI (V 2 0))) (M1.1.2.2.2.1.1 0 (by decide)) ?_
        refine Sx.aload_n dX12_odds_48 rfl ?_
        refine Sx.getfR dX12_odds_49 lkf_X12_61_12 (o_253 W) (r_253_32 W) ?_
        refine Sx.bipush (v := (nI 25)) dX12_odds_52 (by decide) ?_
        refine Sx.ialdN dX12_odds_54 (a_266 W) (by decide) (by decide) (v := (nI (V 3 145))) M1.2.1.2.2.2.2.2.2.2.2.1 ?_
        refine Sx.isubV dX12_odds_55 (vN (by omega)) (vN (by omega)) ?_
        refine Sx.bipush (v := (nI 8)) dX12_odds_56 (by decide) ?_
        refine Sx.icmp_leV (t := 63) dX12_odds_58 (by decide) (vZ (by omega)) (vN (by decide)) (fun c58 => ?_) (fun c58 => ?_)
        · have hH := hG.hv (by omega)
          obtain ⟨p1, p2, p3, p4, p5, p6, p7, p8, p9⟩ := id hH.2.2.2.1
          have hc : oddC V x y := ⟨by omega, ⟨by omega, by omega⟩, ⟨by omega, by omega⟩, by omega⟩
          obtain ⟨p, rfl, hp⟩ := x_ex (x := x) (n := V 2 0) ⟨by omega, by omega⟩
          obtain ⟨q, rfl, hq⟩ := x_ex (x := y) (n := 101) ⟨by omega, by omega⟩
          refine Sx.sub' [(0, .ref 253), (1, .int (nI p)), (2, .int (nI q))] rfl ?_
          refine Sx.iconst (v := (nI 0)) dX12_odds_63 (by decide) ?_
          refine Sx.istore_n (lv' := [(3, .int (nI 0)), (0, .ref 253), (1, .int (nI p)), (2, .int (nI q))]) dX12_odds_64 (by decide) rfl ?_
          refine Sx.sub' [(3, .int (nI 0)), (0, .ref 253), (1, .int (nI p)), (2, .int (nI q))] rfl ?_
          exact l_odd W hH (by omega) (by omega) (by omega) (fun R' I' L' m f => pXX (by unfold oddR; rw [if_pos hc, xN_n (by omega), xN_n (by omega)]) (h I' R' L' m f)) (V 3 145 + 1) 0 (by omega) (by omega) I1 M1 hf1 (fun d hd => by omega)
        · refine Sx.iconst (v := (iI (-1))) dX12_odds_61 (by decide) ?_
          refine Sx.iret dX12_odds_62 rfl rfl ?_
          have hn : ¬ oddC V x y := fun z => by omega
          exact pXX (by unfold oddR; rw [if_neg hn]; rfl) (h I1 R L M1 hf1)
