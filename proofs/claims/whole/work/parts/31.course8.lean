/-! Course: an act is carried out -/
def coN (P : Nat → Nat) (w : Wt) (F : Nat → Nat) (a x y : Int32) : Nat → Nat :=
  if a = 0 then pdN P w F else
  if a = 1 then upn (upn F (xN x) (xN y)) 142 (F 142 - 1) else
  if a = 2 then upn F 138 (F 138 ^^^ 2 ^ xN x) else
  if a = 3 then upn F 139 (xN x) else
  if a = 4 then upn (upn F 140 1) 142 (F 142 - 10) else
  if a = 5 then upn (upn F 141 (F 141 + xN x)) 142 (F 142 - xN x) else upn F 142 (F 142 + xN x)
theorem xN_eq {x : Int32} (h : 0 ≤ x) : x = nI (xN x) ∧ xN x < 2 ^ 31 := by
  have h1 : 0 ≤ x.toInt := by have := Int32.le_iff_toInt_le.mp h; simpa using this
  have h2 := Int32.toInt_lt x
  have h3 : xN x < 2 ^ 31 := by unfold xN; omega
  refine ⟨?_, h3⟩
  refine Int32.toInt_inj.mp ?_
  rw [nI_toInt h3]
  unfold xN
  omega
theorem xN_le {x : Int32} {n : Nat} (h : 0 ≤ x) (hx : x ≤ nI n) (hn : n < 2 ^ 31) : xN x ≤ n := by
  obtain ⟨e, b⟩ := xN_eq h
  rw [e] at hx
  exact (n_le b hn).mp hx
/-- what an act that can be has as its numbers -/
def Ok (P F : Nat → Nat) (a x y : Int32) : Prop :=
  (a = 0 ∧ 0 < dpN P F) ∨ (a = 1 ∧ (∃ p k, x = nI p ∧ y = nI k ∧ p < P 35 ∧ k < P 34 ∧ F p ≠ k) ∧ 1 ≤ F 142) ∨ (a = 2 ∧ ∃ p, x = nI p ∧ p < P 35) ∨ (a = 3 ∧ ∃ p, x = nI p ∧ p ≤ 9 ∧ p ≠ F 139) ∨
  (a = 4 ∧ F 140 = 0 ∧ 10 ≤ F 142) ∨ (a = 5 ∧ ∃ p, x = nI p ∧ 1 ≤ p ∧ p ≤ 9 ∧ p ≤ F 142 ∧ F 141 + p ≤ 20) ∨ (a = 6 ∧ ∃ p, x = nI p ∧ 1 ≤ p ∧ p ≤ 50 ∧ F 142 + p ≤ 999)
theorem Ok_of {P F : Nat → Nat} {a x y : Int32} (hP : PB P) (hF : SB P F) (h : whN P F a x y = -1) : Ok P F a x y := by
  obtain ⟨f1, f2, f3, f4, f5, f6, f7, f8, f9, f10, f11, f12, f13, f14, f15, f16⟩ := hF
  obtain ⟨p1, p2, p3, p4, p5, p6, p7, p8, p9⟩ := hP
  unfold whN at h
  rw [if_neg (by omega)] at h
  by_cases k0 : a = 0
  · rw [if_pos k0] at h
    by_cases c : 0 < dpN P F
    · exact Or.inl ⟨k0, c⟩
    · rw [if_neg c] at h; exact absurd h (by decide)
  rw [if_neg k0] at h
  refine Or.inr ?_
  by_cases k1 : a = 1
  · rw [if_pos k1] at h
    unfold whH at h
    by_cases c : isN (P 35) x = true ∧ isN (P 34) y = true
    · rw [if_pos c] at h
      obtain ⟨p, hp1, hp2⟩ := isN_of (by omega) c.1
      obtain ⟨k, hk1, hk2⟩ := isN_of (by omega) c.2
      rw [hp2, hk2, xN_n (by omega), xN_n (by omega)] at h
      by_cases c2 : F p = k
      · rw [if_pos c2] at h; exact absurd h (by decide)
      rw [if_neg c2] at h
      by_cases c3 : F 142 < 1
      · rw [if_pos c3] at h; exact absurd h (by decide)
      exact Or.inl ⟨k1, ⟨p, k, hp2, hk2, hp1, hk1, c2⟩, by omega⟩
    · rw [if_neg c] at h; exact absurd h (by decide)
  rw [if_neg k1] at h
  refine Or.inr ?_
  by_cases k2 : a = 2
  · rw [if_pos k2] at h
    by_cases c : isN (P 35) x = true
    · obtain ⟨p, hp1, hp2⟩ := isN_of (by omega) c
      exact Or.inl ⟨k2, p, hp2, hp1⟩
    · rw [if_neg c] at h; exact absurd h (by decide)
  rw [if_neg k2] at h
  refine Or.inr ?_
  by_cases k3 : a = 3
  · rw [if_pos k3] at h
    by_cases c : x < 0 ∨ 9 < x
    · rw [if_pos c] at h; exact absurd h (by decide)
    rw [if_neg c] at h
    have c0 : 0 ≤ x := Int32.not_lt.mp (fun q => c (Or.inl q))
    have c9 : xN x ≤ 9 := xN_le (n := 9) c0 (Int32.not_lt.mp (fun q => c (Or.inr q))) (by decide)
    have e := (xN_eq c0).1
    by_cases c2 : x = nI (F 139)
    · rw [if_pos c2] at h; exact absurd h (by decide)
    · exact Or.inl ⟨k3, xN x, e, c9, fun q => c2 (by rw [← q]; exact e)⟩
  rw [if_neg k3] at h
  refine Or.inr ?_
  by_cases k4 : a = 4
  · rw [if_pos k4] at h
    by_cases c : F 140 ≠ 0
    · rw [if_pos c] at h; exact absurd h (by decide)
    rw [if_neg c] at h
    by_cases c2 : F 142 < 10
    · rw [if_pos c2] at h; exact absurd h (by decide)
    · exact Or.inl ⟨k4, by omega, by omega⟩
  rw [if_neg k4] at h
  refine Or.inr ?_
  by_cases k5 : a = 5
  · rw [if_pos k5] at h
    by_cases c : x < 1 ∨ 9 < x
    · rw [if_pos c] at h; exact absurd h (by decide)
    rw [if_neg c] at h
    have c1 : 1 ≤ x := Int32.not_lt.mp (fun q => c (Or.inl q))
    have c0 : 0 ≤ x := Int32.le_trans (by decide) c1
    have c9 : xN x ≤ 9 := xN_le (n := 9) c0 (Int32.not_lt.mp (fun q => c (Or.inr q))) (by decide)
    have e := (xN_eq c0).1
    have e1 : 1 ≤ xN x := by rw [e] at c1; exact (n_le (a := 1) (by decide) (by omega)).mp c1
    by_cases c2 : nI (F 142) < x ∨ 20 < nI (F 141) + x
    · rw [if_pos c2] at h; exact absurd h (by decide)
    · refine Or.inl ⟨k5, xN x, e, e1, c9, ?_, ?_⟩
      · refine Nat.not_lt.mp (fun q => c2 (Or.inl ?_))
        rw [e]; exact (n_lt (by omega) (by omega)).mpr q
      · refine Nat.not_lt.mp (fun q => c2 (Or.inr ?_))
        rw [e, nI_add]; exact (n_lt (a := 20) (by decide) (by omega)).mpr q
  rw [if_neg k5] at h
  by_cases k6 : a = 6
  · rw [if_pos k6] at h
    by_cases c : x < 1 ∨ 50 < x
    · rw [if_pos c] at h; exact absurd h (by decide)
    rw [if_neg c] at h
    have c1 : 1 ≤ x := Int32.not_lt.mp (fun q => c (Or.inl q))
    have c0 : 0 ≤ x := Int32.le_trans (by decide) c1
    have c9 : xN x ≤ 50 := xN_le (n := 50) c0 (Int32.not_lt.mp (fun q => c (Or.inr q))) (by decide)
    have e := (xN_eq c0).1
    have e1 : 1 ≤ xN x := by rw [e] at c1; exact (n_le (a := 1) (by decide) (by omega)).mp c1
    by_cases c2 : 999 < nI (F 142) + x
    · rw [if_pos c2] at h; exact absurd h (by decide)
    · refine Or.inr ⟨k6, xN x, e, e1, c9, ?_⟩
      refine Nat.not_lt.mp (fun q => c2 ?_)
      rw [e, nI_add]; exact (n_lt (a := 999) (by decide) (by omega)).mpr q
  · rw [if_neg k6] at h; exact absurd h (by decide)
theorem xor_lt64 : ∀ b, b < 64 → ∀ p, p < 6 → b ^^^ 2 ^ p < 64 := by decide +kernel
theorem coN_SB {P F : Nat → Nat} {w : Wt} {a x y : Int32} (hP : PB P) (hF : SB P F) (hy : F 144 + 1 < 2 ^ 20) (h : Ok P F a x y) : SB P (coN P w F a x y) := by
  have p34 : P 34 ≤ 6 := hP.2.2.2.2.2.1
  have p35 : P 35 ≤ 6 := hP.2.2.2.2.2.2.2.1
  have f138 : F 138 < 64 := hF.lt 138 (by decide)
  have f142 : F 142 < 1000 := hF.lt 142 (by decide)
  have s142 : sbB P 142 = 1000 := rfl
  unfold coN
  rcases h with ⟨rfl, -⟩ | ⟨rfl, ⟨p, k, rfl, rfl, h1, h2, -⟩, h3⟩ | ⟨rfl, p, rfl, h1⟩ | ⟨rfl, p, rfl, h1, -⟩ | ⟨rfl, h1, h2⟩ | ⟨rfl, p, rfl, h1, h2, h3, h4⟩ | ⟨rfl, p, rfl, h1, h2, h3⟩
  · rw [if_pos rfl]; exact pdN_SB hP hF hy
  · rw [if_neg (by decide), if_pos rfl, xN_n (by omega), xN_n (by omega)]
    exact SB.up hP (SB.up hP hF _ _ (by rw [sbB_1 P (by omega)]; exact h2)) _ _ (by omega)
  · rw [if_neg (by decide), if_neg (by decide), if_pos rfl, xN_n (by omega)]
    exact SB.up hP hF _ _ (xor_lt64 _ f138 p (by omega))
  · rw [if_neg (by decide), if_neg (by decide), if_neg (by decide), if_pos rfl, xN_n (by omega)]
    exact SB.up hP hF _ _ (show p < 10 by omega)
  · rw [if_neg (by decide), if_neg (by decide), if_neg (by decide), if_neg (by decide), if_pos rfl]
    exact SB.up hP (SB.up hP hF _ _ (show 1 < 2 by decide)) _ _ (by omega)
  · rw [if_neg (by decide), if_neg (by decide), if_neg (by decide), if_neg (by decide), if_neg (by decide), if_pos rfl, xN_n (by omega)]
    exact SB.up hP (SB.up hP hF _ _ (show F 141 + p < 21 by omega)) _ _ (by omega)
  · rw [if_neg (by decide), if_neg (by decide), if_neg (by decide), if_neg (by decide), if_neg (by decide), if_neg (by decide), xN_n (by omega)]
    exact SB.up hP hF _ _ (by omega)
set_option maxRecDepth 20000 in
set_option maxHeartbeats 1000000 in
theorem c_carry {G : Gt} {l : Launch} {Z : Zt} {R : Rt} {I : It} {L : Lt} {post : Pt'} {s : Nat} {P F : Nat → Nat} {w : Wt} {a x y : Int32} (W : WF Z R) (hp : rep 36 (I 104) P) (hP : PB P) (hr : rwo Z R s 8 146) (hs : rs (I (s + 1)) F) (hx : 119 ≤ s ∧ s < 232) (hL : LW R I w) (hF : SB P F) (hy : F 144 + 1 < 2 ^ 20) (hok : Ok P F a x y) (h : ∀ I', rs (I' (s + 1)) (coN P w F a x y) → (∀ q, q ≠ 116 → q ≠ 118 → q ≠ s + 1 → I' q = I q) → post none Z R I' L) : Cx G l mX1_carryOut 7 0 0 [.ref 114, .ref s, .int a, .int x, .int y] Z R I L post := by
  refine Cx.of (by decide +kernel) (by exact Nat.le_of_ble_eq_true rfl) ?_
  have hall := hF.all hP
  have hP' := hP
  have hF' := hF
  obtain ⟨f1, f2, f3, f4, f5, f6, f7, f8, f9, f10, f11, f12, f13, f14, f15, f16⟩ := hF'
  obtain ⟨p1, p2, p3, p4, p5, p6, p7, p8, p9⟩ := hP'
  rcases hok with ⟨rfl, -⟩ | ⟨rfl, ⟨p, k, rfl, rfl, h1, h2, -⟩, h3⟩ | ⟨rfl, p, rfl, h1⟩ | ⟨rfl, p, rfl, h1, -⟩ | ⟨rfl, h1, h2⟩ | ⟨rfl, p, rfl, h1, h2, h3, h4⟩ | ⟨rfl, p, rfl, h1, h2, h3⟩
  · refine Sx.iload_n dX1_carryOut_0 rfl ?_
    refine Sx.tableIn (t := 44) dX1_carryOut_1 (by decide) (by decide) rfl (by decide) ?_
    refine Sx.aload_n dX1_carryOut_44 rfl ?_
    refine Sx.aload_n dX1_carryOut_45 rfl ?_
    refine Sx.callV1 dX1_carryOut_46 lkv_X1_146 (rcv_1 (o_114 W)) (by decide) (by decide) (Nat.le_of_ble_eq_true rfl) rfl rfl (c_pass W hp hP hr hs hx hL hF hy (fun I1 e1 e2 => ?_))
    refine Sx.goto (t := 155) dX1_carryOut_49 (by decide) ?_
    refine Sx.vret dX1_carryOut_155 rfl ?_
    refine h I1 ?_ e2
    rw [coN, if_pos rfl]
    exact e1
  · refine Sx.iload_n dX1_carryOut_0 rfl ?_
    refine Sx.tableIn (t := 52) dX1_carryOut_1 (by decide) (by decide) rfl (by decide) ?_
    refine Sx.aload_n dX1_carryOut_52 rfl ?_
    refine Sx.iconst (v := 0) dX1_carryOut_53 (by decide) ?_
    refine Sx.iload_n dX1_carryOut_54 rfl ?_
    refine Sx.iadd dX1_carryOut_55 ?_
    refine Sx.iload dX1_carryOut_56 rfl ?_
    refine Sx.callU2 dX1_carryOut_58 lku_X1_107 (rcv_8 hr.1) (by decide) (by decide) (Nat.le_of_ble_eq_true rfl) rfl rfl (c_ss hr hs p k (n_z p) (by omega) (by rw [sv_n (by omega)]) (fun I1 e1 e2 => ?_))
    refine Sx.aload_n dX1_carryOut_61 rfl ?_
    refine Sx.aload_n dX1_carryOut_62 rfl ?_
    refine Sx.iconst (v := 1) dX1_carryOut_63 (by decide) ?_
    refine Sx.callV2 dX1_carryOut_64 lkv_X1_149 (rcv_1 (o_114 W)) (by decide) (by decide) (Nat.le_of_ble_eq_true rfl) rfl rfl (c_spend hr e1 (F 142 - 1) (by rw [upn_ne _ _ (by omega)]; exact n_sub (b := 1) h3) (fun I2 e3 e4 => ?_))
    refine Sx.goto (t := 155) dX1_carryOut_67 (by decide) ?_
    refine Sx.vret dX1_carryOut_155 rfl ?_
    refine h I2 ?_ (fun q h1 h2 h3 => (e4 q h3).trans (e2 q h3))
    rw [coN, if_neg (by decide), if_pos rfl, xN_n (by omega), xN_n (by omega)]
    exact e3
  · refine Sx.iload_n dX1_carryOut_0 rfl ?_
    refine Sx.tableIn (t := 70) dX1_carryOut_1 (by decide) (by decide) rfl (by decide) ?_
    refine Sx.aload_n dX1_carryOut_70 rfl ?_
    refine Sx.sipush (v := 138) dX1_carryOut_71 (by decide) ?_
    refine Sx.aload_n dX1_carryOut_74 rfl ?_
    refine Sx.sipush (v := 138) dX1_carryOut_75 (by decide) ?_
    refine Sx.callU1 dX1_carryOut_78 lku_X1_43 (rcv_8 hr.1) (by decide) (by decide) (Nat.le_of_ble_eq_true rfl) rfl rfl (c_sg hr hs 138 rfl (by decide) (by decide) ?_)
    refine Sx.iconst (v := 1) dX1_carryOut_81 (by decide) ?_
    refine Sx.iload_n dX1_carryOut_82 rfl ?_
    refine Sx.ishl dX1_carryOut_83 ?_
    rw [n_p2 (by omega)]
    refine Sx.ixor dX1_carryOut_84 ?_
    rw [n_xor]
    refine Sx.callU2 dX1_carryOut_85 lku_X1_107 (rcv_8 hr.1) (by decide) (by decide) (Nat.le_of_ble_eq_true rfl) rfl rfl (c_ss hr hs 138 (F 138 ^^^ 2 ^ p) rfl (by decide) (by rw [sv_n (by decide)]) (fun I1 e1 e2 => ?_))
    refine Sx.goto (t := 155) dX1_carryOut_88 (by decide) ?_
    refine Sx.vret dX1_carryOut_155 rfl ?_
    refine h I1 ?_ (fun q h1 h2 h3 => e2 q h3)
    rw [coN, if_neg (by decide), if_neg (by decide), if_pos rfl, xN_n (by omega)]
    exact e1
  · refine Sx.iload_n dX1_carryOut_0 rfl ?_
    refine Sx.tableIn (t := 91) dX1_carryOut_1 (by decide) (by decide) rfl (by decide) ?_
    refine Sx.aload_n dX1_carryOut_91 rfl ?_
    refine Sx.sipush (v := 139) dX1_carryOut_92 (by decide) ?_
    refine Sx.iload_n dX1_carryOut_95 rfl ?_
    refine Sx.callU2 dX1_carryOut_96 lku_X1_107 (rcv_8 hr.1) (by decide) (by decide) (Nat.le_of_ble_eq_true rfl) rfl rfl (c_ss hr hs 139 p rfl (by decide) (by rw [sv_n (by decide)]) (fun I1 e1 e2 => ?_))
    refine Sx.goto (t := 155) dX1_carryOut_99 (by decide) ?_
    refine Sx.vret dX1_carryOut_155 rfl ?_
    refine h I1 ?_ (fun q h1 h2 h3 => e2 q h3)
    rw [coN, if_neg (by decide), if_neg (by decide), if_neg (by decide), if_pos rfl, xN_n (by omega)]
    exact e1
  · refine Sx.iload_n dX1_carryOut_0 rfl ?_
    refine Sx.tableIn (t := 102) dX1_carryOut_1 (by decide) (by decide) rfl (by decide) ?_
    refine Sx.aload_n dX1_carryOut_102 rfl ?_
    refine Sx.sipush (v := 140) dX1_carryOut_103 (by decide) ?_
    refine Sx.iconst (v := 1) dX1_carryOut_106 (by decide) ?_
    refine Sx.callU2 dX1_carryOut_107 lku_X1_107 (rcv_8 hr.1) (by decide) (by decide) (Nat.le_of_ble_eq_true rfl) rfl rfl (c_ss hr hs 140 1 rfl (by decide) (by rw [sv_n (by decide)]; rfl) (fun I1 e1 e2 => ?_))
    refine Sx.aload_n dX1_carryOut_110 rfl ?_
    refine Sx.aload_n dX1_carryOut_111 rfl ?_
    refine Sx.bipush (v := 10) dX1_carryOut_112 (by decide) ?_
    refine Sx.callV2 dX1_carryOut_114 lkv_X1_149 (rcv_1 (o_114 W)) (by decide) (by decide) (Nat.le_of_ble_eq_true rfl) rfl rfl (c_spend hr e1 (F 142 - 10) (by rw [upn_ne _ _ (by omega)]; exact n_sub (b := 10) h2) (fun I2 e3 e4 => ?_))
    refine Sx.goto (t := 155) dX1_carryOut_117 (by decide) ?_
    refine Sx.vret dX1_carryOut_155 rfl ?_
    refine h I2 ?_ (fun q h1 h2 h3 => (e4 q h3).trans (e2 q h3))
    rw [coN, if_neg (by decide), if_neg (by decide), if_neg (by decide), if_neg (by decide), if_pos rfl]
    exact e3
  · refine Sx.iload_n dX1_carryOut_0 rfl ?_
    refine Sx.tableIn (t := 120) dX1_carryOut_1 (by decide) (by decide) rfl (by decide) ?_
    refine Sx.aload_n dX1_carryOut_120 rfl ?_
    refine Sx.sipush (v := 141) dX1_carryOut_121 (by decide) ?_
    refine Sx.aload_n dX1_carryOut_124 rfl ?_
    refine Sx.sipush (v := 141) dX1_carryOut_125 (by decide) ?_
    refine Sx.callU1 dX1_carryOut_128 lku_X1_43 (rcv_8 hr.1) (by decide) (by decide) (Nat.le_of_ble_eq_true rfl) rfl rfl (c_sg hr hs 141 rfl (by decide) (by decide) ?_)
    refine Sx.iload_n dX1_carryOut_131 rfl ?_
    refine Sx.iadd dX1_carryOut_132 ?_
    refine Sx.callU2 dX1_carryOut_133 lku_X1_107 (rcv_8 hr.1) (by decide) (by decide) (Nat.le_of_ble_eq_true rfl) rfl rfl (c_ss hr hs 141 (F 141 + p) rfl (by decide) (by rw [sv_n (by decide), nI_add]) (fun I1 e1 e2 => ?_))
    refine Sx.aload_n dX1_carryOut_136 rfl ?_
    refine Sx.aload_n dX1_carryOut_137 rfl ?_
    refine Sx.iload_n dX1_carryOut_138 rfl ?_
    refine Sx.callV2 dX1_carryOut_139 lkv_X1_149 (rcv_1 (o_114 W)) (by decide) (by decide) (Nat.le_of_ble_eq_true rfl) rfl rfl (c_spend hr e1 (F 142 - p) (by rw [upn_ne _ _ (by omega)]; exact n_sub h3) (fun I2 e3 e4 => ?_))
    refine Sx.goto (t := 155) dX1_carryOut_142 (by decide) ?_
    refine Sx.vret dX1_carryOut_155 rfl ?_
    refine h I2 ?_ (fun q h1 h2 h3 => (e4 q h3).trans (e2 q h3))
    rw [coN, if_neg (by decide), if_neg (by decide), if_neg (by decide), if_neg (by decide), if_neg (by decide), if_pos rfl, xN_n (by omega)]
    exact e3
  · refine Sx.iload_n dX1_carryOut_0 rfl ?_
    refine Sx.tableIn (t := 145) dX1_carryOut_1 (by decide) (by decide) rfl (by decide) ?_
    refine Sx.aload_n dX1_carryOut_145 rfl ?_
    refine Sx.aload_n dX1_carryOut_146 rfl ?_
    refine Sx.iload_n dX1_carryOut_147 rfl ?_
    refine Sx.ineg dX1_carryOut_148 ?_
    refine Sx.callV2 dX1_carryOut_149 lkv_X1_149 (rcv_1 (o_114 W)) (by decide) (by decide) (Nat.le_of_ble_eq_true rfl) rfl rfl (c_spend hr hs (F 142 + p) (by rw [nI_iI p, nI_iI (F 142), nI_iI (F 142 + p), show -iI (p : Int) = iI (-(p : Int)) from (Int32.ofInt_neg _).symm, iI_sub]; congr 1; omega) (fun I2 e3 e4 => ?_))
    refine Sx.goto (t := 155) dX1_carryOut_152 (by decide) ?_
    refine Sx.vret dX1_carryOut_155 rfl ?_
    refine h I2 ?_ (fun q h1 h2 h3 => e4 q h3)
    rw [coN, if_neg (by decide), if_neg (by decide), if_neg (by decide), if_neg (by decide), if_neg (by decide), if_neg (by decide), xN_n (by omega)]
    exact e3
