/-! Course: acts -/
theorem tOut {x : Int32} (h0 : ¬ x = 0) (h1 : ¬ x = 1) (h2 : ¬ x = 2) (h3 : ¬ x = 3) (h4 : ¬ x = 4) (h5 : ¬ x = 5) (h6 : ¬ x = 6) : x.toInt < 0 ∨ 6 < x.toInt := by
  have e : ∀ (k : Int32), ¬ x = k → ¬ x.toInt = k.toInt := fun k hk q => hk (Int32.toInt_inj.mp q)
  have e0 := e 0 h0
  have e1 := e 1 h1
  have e2 := e 2 h2
  have e3 := e 3 h3
  have e4 := e 4 h4
  have e5 := e 5 h5
  have e6 := e 6 h6
  rw [show (0 : Int32).toInt = 0 from rfl] at e0
  rw [show (1 : Int32).toInt = 1 from rfl] at e1
  rw [show (2 : Int32).toInt = 2 from rfl] at e2
  rw [show (3 : Int32).toInt = 3 from rfl] at e3
  rw [show (4 : Int32).toInt = 4 from rfl] at e4
  rw [show (5 : Int32).toInt = 5 from rfl] at e5
  rw [show (6 : Int32).toInt = 6 from rfl] at e6
  omega
theorem dpN_b {P F : Nat → Nat} (hP : PB P) (h : SB P F) : -2147483648 < dpN P F ∧ dpN P F < 2147483648 := by
  have p1 : P 0 ≤ 30 := hP.2.1
  have f1 : F 144 < 2 ^ 20 := h.2.2.2.2.2.2.2.2.2.2.2.2.1
  have f2 : F 145 < P 0 := h.2.2.2.2.2.2.2.2.2.2.2.2.2.1
  have e : ∀ n : Nat, n ≤ 30 → ∀ y : Int, -1048576 < y → y < 1000 → -40000000 < y * (n : Int) ∧ y * (n : Int) < 40000 := by
    intro n hn y h1 h2
    have g : ∀ n : Nat, n ≤ 30 → n = 0 ∨ n = 1 ∨ n = 2 ∨ n = 3 ∨ n = 4 ∨ n = 5 ∨ n = 6 ∨ n = 7 ∨ n = 8 ∨ n = 9 ∨ n = 10 ∨ n = 11 ∨ n = 12 ∨ n = 13 ∨ n = 14 ∨ n = 15 ∨ n = 16 ∨ n = 17 ∨ n = 18 ∨ n = 19 ∨ n = 20 ∨ n = 21 ∨ n = 22 ∨ n = 23 ∨ n = 24 ∨ n = 25 ∨ n = 26 ∨ n = 27 ∨ n = 28 ∨ n = 29 ∨ n = 30 := by omega
    rcases g n hn with e | e | e | e | e | e | e | e | e | e | e | e | e | e | e | e | e | e | e | e | e | e | e | e | e | e | e | e | e | e | e <;> subst e <;> omega
  have := e (P 0) p1 (999 - (F 144 : Int)) (by omega) (by omega)
  unfold dpN
  omega
set_option maxRecDepth 20000 in
set_option maxHeartbeats 1000000 in
theorem c_why {G : Gt} {l : Launch} {Z : Zt} {R : Rt} {I : It} {L : Lt} {post : Pt'} {s : Nat} {P F : Nat → Nat} {a x y : Int32} (W : WF Z R) (hp : rep 36 (I 104) P) (hr : rwo Z R s 8 146) (hs : rs (I (s + 1)) F) (hx : 119 ≤ s ∧ s < 232) (h35 : P 35 < 2 ^ 31) (hPF : P 35 ≠ 0 → PB P ∧ SB P F) (h : post (some (.int (whN P F a x y))) Z R I L) : Cx G l mX1_whyNot 4 0 0 [.ref 114, .ref s, .int a, .int x, .int y] Z R I L post := by
  refine Cx.of (by decide +kernel) (by exact Nat.le_of_ble_eq_true rfl) ?_
  refine Sx.aload_n dX1_whyNot_0 rfl ?_
  refine Sx.getfR dX1_whyNot_1 lkf_X1_37_1 (o_114 W) (r_114_0 W) ?_
  refine Sx.callV0 dX1_whyNot_4 lkv_X1_74 (rcv_6 (o_103 W)) (by decide) (by decide) (Nat.le_of_ble_eq_true rfl) rfl rfl (c_pers (w_103r W) hp ?_)
  refine Sx.if_ne (t := 12) dX1_whyNot_7 (by decide) (fun c7 => ?_) (fun c7 => ?_)
  · have hnz : ¬ P 35 = 0 := fun q => c7 (by rw [q]; rfl)
    obtain ⟨hP, hF⟩ := hPF hnz
    have hP' := hP
    have hF' := hF
    obtain ⟨f1, f2, f3, f4, f5, f6, f7, f8, f9, f10, f11, f12, f13, f14, f15, f16⟩ := hF'
    obtain ⟨p1, p2, p3, p4, p5, p6, p7, p8, p9⟩ := hP'
    have hdb := dpN_b hP hF
    refine Sx.aload_n dX1_whyNot_12 rfl ?_
    refine Sx.sipush (v := 142) dX1_whyNot_13 (by decide) ?_
    refine Sx.callU1 dX1_whyNot_16 lku_X1_43 (rcv_8 hr.1) (by decide) (by decide) (Nat.le_of_ble_eq_true rfl) rfl rfl (c_sg hr hs 142 rfl (by decide) (by decide) ?_)
    refine Sx.ist (fun zz => [(5, .int zz), (0, .ref 114), (1, .ref s), (2, .int a), (3, .int x), (4, .int y)]) dX1_whyNot_19 (by decide) (fun _ => rfl) (fun x5_19 ex5_19 => ?_)
    refine Sx.iload_n dX1_whyNot_21 rfl ?_
    refine Sx.sub' [(5, .int (nI (F 142))), (0, .ref 114), (1, .ref s), (2, .int a), (3, .int x), (4, .int y)] (by rw [← ex5_19]; rfl) ?_
    by_cases k22_0 : a = 0
    · refine Sx.tableIn (t := 64) dX1_whyNot_22 (by rw [k22_0]; decide) (by rw [k22_0]; decide) (by rw [k22_0]; rfl) (by decide) ?_
      refine Sx.aload_n dX1_whyNot_64 rfl ?_
      refine Sx.aload_n dX1_whyNot_65 rfl ?_
      refine Sx.callV1 dX1_whyNot_66 lkv_X1_133 (rcv_1 (o_114 W)) (by decide) (by decide) (Nat.le_of_ble_eq_true rfl) rfl rfl (c_dp W hp hP hr hs hx hF ?_)
      refine Sx.if_le (t := 76) dX1_whyNot_69 (by decide) (fun c69 => ?_) (fun c69 => ?_)
      · refine Sx.iconst (v := 4) dX1_whyNot_76 (by decide) ?_
        refine Sx.iret dX1_whyNot_77 rfl rfl ?_
        rw [whN, if_neg hnz, if_pos k22_0] at h
        rw [if_neg (fun q => (Int32.not_lt.mpr c69) (by rw [show (0 : Int32) = iI 0 from rfl]; exact (iI_lt (by decide) (by decide) (by omega) (by omega)).mpr q))] at h
        exact h
      · refine Sx.iconst (v := (-1)) dX1_whyNot_72 (by decide) ?_
        refine Sx.goto (t := 77) dX1_whyNot_73 (by decide) ?_
        refine Sx.iret dX1_whyNot_77 rfl rfl ?_
        rw [whN, if_neg hnz, if_pos k22_0] at h
        rw [if_pos ((iI_lt (by decide) (by decide) (by omega) (by omega)).mp (Int32.not_le.mp c69))] at h
        exact h
    by_cases k22_1 : a = 1
    · refine Sx.tableIn (t := 78) dX1_whyNot_22 (by rw [k22_1]; decide) (by rw [k22_1]; decide) (by rw [k22_1]; rfl) (by decide) ?_
      refine Sx.aload_n dX1_whyNot_78 rfl ?_
      refine Sx.aload_n dX1_whyNot_79 rfl ?_
      refine Sx.iload_n dX1_whyNot_80 rfl ?_
      refine Sx.iload dX1_whyNot_81 rfl ?_
      refine Sx.callV3 dX1_whyNot_83 lkv_X1_136 (rcv_1 (o_114 W)) (by decide) (by decide) (Nat.le_of_ble_eq_true rfl) rfl rfl (c_whH W hp hP hr hs hx hF ?_)
      refine Sx.iret dX1_whyNot_86 rfl rfl ?_
      rw [whN, if_neg hnz, if_neg k22_0, if_pos k22_1] at h
      exact h
    by_cases k22_2 : a = 2
    · refine Sx.tableIn (t := 87) dX1_whyNot_22 (by rw [k22_2]; decide) (by rw [k22_2]; decide) (by rw [k22_2]; rfl) (by decide) ?_
      refine Sx.aload_n dX1_whyNot_87 rfl ?_
      refine Sx.getfR dX1_whyNot_88 lkf_X1_37_1 (o_114 W) (r_114_0 W) ?_
      refine Sx.iload_n dX1_whyNot_91 rfl ?_
      refine Sx.callV1 dX1_whyNot_92 lkv_X1_140 (rcv_6 (o_103 W)) (by decide) (by decide) (Nat.le_of_ble_eq_true rfl) rfl rfl (c_isPerson (w_103r W) hp ?_)
      refine Sx.if_eq (t := 102) dX1_whyNot_95 (by decide) (fun c95 => ?_) (fun c95 => ?_)
      · refine Sx.iconst (v := 0) dX1_whyNot_102 (by decide) ?_
        refine Sx.iret dX1_whyNot_103 rfl rfl ?_
        rw [whN, if_neg hnz, if_neg k22_0, if_neg k22_1, if_pos k22_2] at h
        rw [if_neg (by rw [b2i_0.mp c95]; decide)] at h
        exact h
      · refine Sx.iconst (v := (-1)) dX1_whyNot_98 (by decide) ?_
        refine Sx.goto (t := 103) dX1_whyNot_99 (by decide) ?_
        refine Sx.iret dX1_whyNot_103 rfl rfl ?_
        rw [whN, if_neg hnz, if_neg k22_0, if_neg k22_1, if_pos k22_2] at h
        rw [if_pos (b2i_ne.mp c95)] at h
        exact h
    by_cases k22_3 : a = 3
    · refine Sx.tableIn (t := 104) dX1_whyNot_22 (by rw [k22_3]; decide) (by rw [k22_3]; decide) (by rw [k22_3]; rfl) (by decide) ?_
      refine Sx.iload_n dX1_whyNot_104 rfl ?_
      refine Sx.if_lt (t := 114) dX1_whyNot_105 (by decide) (fun c105 => ?_) (fun c105 => ?_)
      · refine Sx.iconst (v := 1) dX1_whyNot_114 (by decide) ?_
        refine Sx.iret dX1_whyNot_115 rfl rfl ?_
        rw [whN, if_neg hnz, if_neg k22_0, if_neg k22_1, if_neg k22_2, if_pos k22_3] at h
        rw [if_pos (Or.inl c105)] at h
        exact h
      · refine Sx.iload_n dX1_whyNot_108 rfl ?_
        refine Sx.bipush (v := 9) dX1_whyNot_109 (by decide) ?_
        refine Sx.icmp_le (t := 116) dX1_whyNot_111 (by decide) (fun c111 => ?_) (fun c111 => ?_)
        · refine Sx.iload_n dX1_whyNot_116 rfl ?_
          refine Sx.aload_n dX1_whyNot_117 rfl ?_
          refine Sx.sipush (v := 139) dX1_whyNot_118 (by decide) ?_
          refine Sx.callU1 dX1_whyNot_121 lku_X1_43 (rcv_8 hr.1) (by decide) (by decide) (Nat.le_of_ble_eq_true rfl) rfl rfl (c_sg hr hs 139 rfl (by decide) (by decide) ?_)
          refine Sx.icmp_ne (t := 131) dX1_whyNot_124 (by decide) (fun c124 => ?_) (fun c124 => ?_)
          · refine Sx.iconst (v := (-1)) dX1_whyNot_131 (by decide) ?_
            refine Sx.iret dX1_whyNot_132 rfl rfl ?_
            have n9 : ¬ (x < 0 ∨ 9 < x) := fun q => q.elim (fun z => c105 z) (fun z => absurd z (Int32.not_lt.mpr c111))
            rw [whN, if_neg hnz, if_neg k22_0, if_neg k22_1, if_neg k22_2, if_pos k22_3] at h
            rw [if_neg n9, if_neg c124] at h
            exact h
          · refine Sx.iconst (v := 2) dX1_whyNot_127 (by decide) ?_
            refine Sx.goto (t := 132) dX1_whyNot_128 (by decide) ?_
            refine Sx.iret dX1_whyNot_132 rfl rfl ?_
            have n9 : ¬ (x < 0 ∨ 9 < x) := fun q => q.elim (fun z => c105 z) (fun z => absurd z (Int32.not_lt.mpr c111))
            rw [whN, if_neg hnz, if_neg k22_0, if_neg k22_1, if_neg k22_2, if_pos k22_3] at h
            rw [if_neg n9, if_pos c124] at h
            exact h
        · refine Sx.iconst (v := 1) dX1_whyNot_114 (by decide) ?_
          refine Sx.iret dX1_whyNot_115 rfl rfl ?_
          rw [whN, if_neg hnz, if_neg k22_0, if_neg k22_1, if_neg k22_2, if_pos k22_3] at h
          rw [if_pos (Or.inr (Int32.not_le.mp c111))] at h
          exact h
    by_cases k22_4 : a = 4
    · refine Sx.tableIn (t := 133) dX1_whyNot_22 (by rw [k22_4]; decide) (by rw [k22_4]; decide) (by rw [k22_4]; rfl) (by decide) ?_
      refine Sx.aload_n dX1_whyNot_133 rfl ?_
      refine Sx.sipush (v := 140) dX1_whyNot_134 (by decide) ?_
      refine Sx.callU1 dX1_whyNot_137 lku_X1_43 (rcv_8 hr.1) (by decide) (by decide) (Nat.le_of_ble_eq_true rfl) rfl rfl (c_sg hr hs 140 rfl (by decide) (by decide) ?_)
      refine Sx.if_eq (t := 145) dX1_whyNot_140 (by decide) (fun c140 => ?_) (fun c140 => ?_)
      · refine Sx.iload dX1_whyNot_145 rfl ?_
        refine Sx.bipush (v := 10) dX1_whyNot_147 (by decide) ?_
        refine Sx.icmp_ge (t := 156) dX1_whyNot_149 (by decide) (fun c149 => ?_) (fun c149 => ?_)
        · refine Sx.iconst (v := (-1)) dX1_whyNot_156 (by decide) ?_
          refine Sx.iret dX1_whyNot_157 rfl rfl ?_
          have g : ¬ F 140 ≠ 0 := fun q => nI_ne0 (Nat.pos_of_ne_zero q) (by omega) c140
          rw [whN, if_neg hnz, if_neg k22_0, if_neg k22_1, if_neg k22_2, if_neg k22_3, if_pos k22_4] at h
          rw [if_neg g, if_neg (fun q => absurd ((n_lt (by omega) (by decide)).mpr q) (Int32.not_lt.mpr c149))] at h
          exact h
        · refine Sx.iconst (v := 3) dX1_whyNot_152 (by decide) ?_
          refine Sx.goto (t := 157) dX1_whyNot_153 (by decide) ?_
          refine Sx.iret dX1_whyNot_157 rfl rfl ?_
          have g : ¬ F 140 ≠ 0 := fun q => nI_ne0 (Nat.pos_of_ne_zero q) (by omega) c140
          rw [whN, if_neg hnz, if_neg k22_0, if_neg k22_1, if_neg k22_2, if_neg k22_3, if_pos k22_4] at h
          rw [if_neg g, if_pos ((n_lt (by omega) (by decide)).mp (Int32.not_le.mp c149))] at h
          exact h
      · refine Sx.iconst (v := 2) dX1_whyNot_143 (by decide) ?_
        refine Sx.iret dX1_whyNot_144 rfl rfl ?_
        rw [whN, if_neg hnz, if_neg k22_0, if_neg k22_1, if_neg k22_2, if_neg k22_3, if_pos k22_4] at h
        rw [if_pos (fun q => c140 (by rw [q]; rfl))] at h
        exact h
    by_cases k22_5 : a = 5
    · refine Sx.tableIn (t := 158) dX1_whyNot_22 (by rw [k22_5]; decide) (by rw [k22_5]; decide) (by rw [k22_5]; rfl) (by decide) ?_
      refine Sx.iload_n dX1_whyNot_158 rfl ?_
      refine Sx.iconst (v := 1) dX1_whyNot_159 (by decide) ?_
      refine Sx.icmp_lt (t := 169) dX1_whyNot_160 (by decide) (fun c160 => ?_) (fun c160 => ?_)
      · refine Sx.iconst (v := 1) dX1_whyNot_169 (by decide) ?_
        refine Sx.iret dX1_whyNot_170 rfl rfl ?_
        rw [whN, if_neg hnz, if_neg k22_0, if_neg k22_1, if_neg k22_2, if_neg k22_3, if_neg k22_4, if_pos k22_5] at h
        rw [if_pos (Or.inl c160)] at h
        exact h
      · refine Sx.iload_n dX1_whyNot_163 rfl ?_
        refine Sx.bipush (v := 9) dX1_whyNot_164 (by decide) ?_
        refine Sx.icmp_le (t := 171) dX1_whyNot_166 (by decide) (fun c166 => ?_) (fun c166 => ?_)
        · refine Sx.iload dX1_whyNot_171 rfl ?_
          refine Sx.iload_n dX1_whyNot_173 rfl ?_
          refine Sx.icmp_lt (t := 191) dX1_whyNot_174 (by decide) (fun c174 => ?_) (fun c174 => ?_)
          · refine Sx.iconst (v := 3) dX1_whyNot_191 (by decide) ?_
            refine Sx.goto (t := 196) dX1_whyNot_192 (by decide) ?_
            refine Sx.iret dX1_whyNot_196 rfl rfl ?_
            have n9 : ¬ (x < 1 ∨ 9 < x) := fun q => q.elim (fun z => c160 z) (fun z => absurd z (Int32.not_lt.mpr c166))
            rw [whN, if_neg hnz, if_neg k22_0, if_neg k22_1, if_neg k22_2, if_neg k22_3, if_neg k22_4, if_pos k22_5] at h
            rw [if_neg n9, if_pos (Or.inl c174)] at h
            exact h
          · refine Sx.aload_n dX1_whyNot_177 rfl ?_
            refine Sx.sipush (v := 141) dX1_whyNot_178 (by decide) ?_
            refine Sx.callU1 dX1_whyNot_181 lku_X1_43 (rcv_8 hr.1) (by decide) (by decide) (Nat.le_of_ble_eq_true rfl) rfl rfl (c_sg hr hs 141 rfl (by decide) (by decide) ?_)
            refine Sx.iload_n dX1_whyNot_184 rfl ?_
            refine Sx.iadd dX1_whyNot_185 ?_
            refine Sx.bipush (v := 20) dX1_whyNot_186 (by decide) ?_
            refine Sx.icmp_le (t := 195) dX1_whyNot_188 (by decide) (fun c188 => ?_) (fun c188 => ?_)
            · refine Sx.iconst (v := (-1)) dX1_whyNot_195 (by decide) ?_
              refine Sx.iret dX1_whyNot_196 rfl rfl ?_
              have n9 : ¬ (x < 1 ∨ 9 < x) := fun q => q.elim (fun z => c160 z) (fun z => absurd z (Int32.not_lt.mpr c166))
              rw [whN, if_neg hnz, if_neg k22_0, if_neg k22_1, if_neg k22_2, if_neg k22_3, if_neg k22_4, if_pos k22_5] at h
              rw [if_neg n9, if_neg (fun q => q.elim c174 (fun z => absurd z (Int32.not_lt.mpr c188)))] at h
              exact h
            · refine Sx.iconst (v := 3) dX1_whyNot_191 (by decide) ?_
              refine Sx.goto (t := 196) dX1_whyNot_192 (by decide) ?_
              refine Sx.iret dX1_whyNot_196 rfl rfl ?_
              have n9 : ¬ (x < 1 ∨ 9 < x) := fun q => q.elim (fun z => c160 z) (fun z => absurd z (Int32.not_lt.mpr c166))
              rw [whN, if_neg hnz, if_neg k22_0, if_neg k22_1, if_neg k22_2, if_neg k22_3, if_neg k22_4, if_pos k22_5] at h
              rw [if_neg n9, if_pos (Or.inr (Int32.not_le.mp c188))] at h
              exact h
        · refine Sx.iconst (v := 1) dX1_whyNot_169 (by decide) ?_
          refine Sx.iret dX1_whyNot_170 rfl rfl ?_
          rw [whN, if_neg hnz, if_neg k22_0, if_neg k22_1, if_neg k22_2, if_neg k22_3, if_neg k22_4, if_pos k22_5] at h
          rw [if_pos (Or.inr (Int32.not_le.mp c166))] at h
          exact h
    by_cases k22_6 : a = 6
    · refine Sx.tableIn (t := 197) dX1_whyNot_22 (by rw [k22_6]; decide) (by rw [k22_6]; decide) (by rw [k22_6]; rfl) (by decide) ?_
      refine Sx.iload_n dX1_whyNot_197 rfl ?_
      refine Sx.iconst (v := 1) dX1_whyNot_198 (by decide) ?_
      refine Sx.icmp_lt (t := 208) dX1_whyNot_199 (by decide) (fun c199 => ?_) (fun c199 => ?_)
      · refine Sx.iconst (v := 1) dX1_whyNot_208 (by decide) ?_
        refine Sx.iret dX1_whyNot_209 rfl rfl ?_
        rw [whN, if_neg hnz, if_neg k22_0, if_neg k22_1, if_neg k22_2, if_neg k22_3, if_neg k22_4, if_neg k22_5, if_pos k22_6] at h
        rw [if_pos (Or.inl c199)] at h
        exact h
      · refine Sx.iload_n dX1_whyNot_202 rfl ?_
        refine Sx.bipush (v := 50) dX1_whyNot_203 (by decide) ?_
        refine Sx.icmp_le (t := 210) dX1_whyNot_205 (by decide) (fun c205 => ?_) (fun c205 => ?_)
        · refine Sx.iload dX1_whyNot_210 rfl ?_
          refine Sx.iload_n dX1_whyNot_212 rfl ?_
          refine Sx.iadd dX1_whyNot_213 ?_
          refine Sx.sipush (v := 999) dX1_whyNot_214 (by decide) ?_
          refine Sx.icmp_le (t := 224) dX1_whyNot_217 (by decide) (fun c217 => ?_) (fun c217 => ?_)
          · refine Sx.iconst (v := (-1)) dX1_whyNot_224 (by decide) ?_
            refine Sx.iret dX1_whyNot_225 rfl rfl ?_
            have n9 : ¬ (x < 1 ∨ 50 < x) := fun q => q.elim (fun z => c199 z) (fun z => absurd z (Int32.not_lt.mpr c205))
            rw [whN, if_neg hnz, if_neg k22_0, if_neg k22_1, if_neg k22_2, if_neg k22_3, if_neg k22_4, if_neg k22_5, if_pos k22_6] at h
            rw [if_neg n9, if_neg (fun z => absurd z (Int32.not_lt.mpr c217))] at h
            exact h
          · refine Sx.iconst (v := 3) dX1_whyNot_220 (by decide) ?_
            refine Sx.goto (t := 225) dX1_whyNot_221 (by decide) ?_
            refine Sx.iret dX1_whyNot_225 rfl rfl ?_
            have n9 : ¬ (x < 1 ∨ 50 < x) := fun q => q.elim (fun z => c199 z) (fun z => absurd z (Int32.not_lt.mpr c205))
            rw [whN, if_neg hnz, if_neg k22_0, if_neg k22_1, if_neg k22_2, if_neg k22_3, if_neg k22_4, if_neg k22_5, if_pos k22_6] at h
            rw [if_neg n9, if_pos (Int32.not_le.mp c217)] at h
            exact h
        · refine Sx.iconst (v := 1) dX1_whyNot_208 (by decide) ?_
          refine Sx.iret dX1_whyNot_209 rfl rfl ?_
          rw [whN, if_neg hnz, if_neg k22_0, if_neg k22_1, if_neg k22_2, if_neg k22_3, if_neg k22_4, if_neg k22_5, if_pos k22_6] at h
          rw [if_pos (Or.inr (Int32.not_le.mp c205))] at h
          exact h
    refine Sx.tableOut (t := 226) dX1_whyNot_22 (tOut k22_0 k22_1 k22_2 k22_3 k22_4 k22_5 k22_6) (by decide) ?_
    refine Sx.iconst (v := 0) dX1_whyNot_226 (by decide) ?_
    refine Sx.iret dX1_whyNot_227 rfl rfl ?_
    rw [whN, if_neg hnz, if_neg k22_0, if_neg k22_1, if_neg k22_2, if_neg k22_3, if_neg k22_4, if_neg k22_5, if_neg k22_6] at h
    exact h
  · have hz : P 35 = 0 := Classical.byContradiction fun q => nI_ne0 (Nat.pos_of_ne_zero q) (by omega) c7
    refine Sx.iconst (v := 0) dX1_whyNot_10 (by decide) ?_
    refine Sx.iret dX1_whyNot_11 rfl rfl ?_
    rw [whN, if_pos hz] at h
    exact h
