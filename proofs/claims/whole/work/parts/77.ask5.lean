/-! the reference: counts, all -/
def cntN (V : Vt) (k : Nat) : Int32 := [nI (V 2 35), nI (V 2 34), nI (V 2 0), nI (V 0 1), nI (V 0 3), nI (V 0 0), iI ((V 0 2 : Int) - 1), nI (V 3 144), nI (V 3 145), nI (V 3 142), nI (V 3 139), nI (V 3 140), nI (V 3 141), nI (V 0 6), nI (V 0 7), nI (min 60 (V 3 144)), nI (V 0 4)].getD k HID
def cntR (V : Vt) (x : Int32) : Int32 := if 0 ≤ x.toInt ∧ x.toInt ≤ 16 then cntN V (xN x) else HID
def swN (G F : Nat → Nat) : Nat → Nat
  | 0 => 0
  | j + 1 => swN G F j ||| (if G j = F j then 0 else 2 ^ j)
theorem swN_lt (G F : Nat → Nat) : ∀ j, swN G F j < 2 ^ j
  | 0 => by simp [swN]
  | j + 1 => by
    have h1 := swN_lt G F j
    unfold swN
    refine Nat.or_lt_two_pow (by rw [Nat.pow_succ]; omega) ?_
    split
    · exact Nat.two_pow_pos _
    · rw [Nat.pow_succ]; have := Nat.two_pow_pos j; omega
def allN (V : Vt) (k : Nat) : Int32 := [nI (amxN (fun p => V 3 (6 + p)) (V 2 35)), nI (amxN (fun p => V 2 (21 + p)) (V 2 35)), nI (amxN (fun p => V 2 (3 + p)) (V 2 34)), nI (upN (V 2 35) (V 3 138)), nI (idN (V 2) (V 3) (lofN (V 2) (wlV V) (V 3) (upc (V 2) (V 3)) (V 3 145)) (V 2 35)), iI ((dkN (V 3) (V 3 145) : Int) - 1), nI (V 2 0 - V 3 145), nI (swN (goY (V 2) (wlV V) (V 3)) (V 3) (V 2 35)), iI ((V 3 143 : Int) - 1)].getD k HID
abbrev allC (V : Vt) (x : Int32) : Prop := V 2 35 ≠ 0 ∧ 0 ≤ x.toInt ∧ x.toInt ≤ 8
def allR (V : Vt) (x : Int32) : Int32 := if allC V x then allN V (xN x) else HID
theorem xN_k {x : Int32} {k : Nat} (h : x.toInt = (k : Int)) : xN x = k := by unfold xN; omega
set_option maxRecDepth 20000 in
set_option maxHeartbeats 1000000 in
theorem k_count {G : Gt} {l : Launch} {Z : Zt} {R : Rt} {I : It} {L : Lt} {post : Pt'} {V : Vt} {N : Nat} {x : Int32} (W : WF Z R) (hM : MI V I L) (hG : GV N V) (hN : N < 2147483647) (h : QK post Z R I L V (cntR V x)) : Cx G l mX12_count 1 0 0 [.ref 253, .int x] Z R I L post := by
  refine Cx.of (by decide +kernel) (by exact Nat.le_of_ble_eq_true rfl) ?_
  refine Sx.aload_n dX12_count_0 rfl ?_
  refine Sx.iconst (v := (nI 0)) dX12_count_1 (by decide) ?_
  refine Sx.putfV dX12_count_2 lkp_X12_109_12 (o_253 W) rfl rfl (fun I1 e1 o1 => ?_)
  have M1 := hM.th (j := 0) (by unfold sfJ; decide) e1 o1
  have hf1 : FM R I L R I1 L := FM.i fun q hq => o1 q (by omega)
  have hp6 := hG.p
  have hb := hG.b
  refine Sx.iload_n dX12_count_5 rfl ?_
  have vw6 : VZ x x.toInt := (vX x)
  by_cases k6_0 : x.toInt = 0
  · refine Sx.tableIn (t := 88) dX12_count_6 (by rw [show _ = _ from vw6, k6_0]; decide) (by rw [show _ = _ from vw6, k6_0]; decide) (by rw [show _ = _ from vw6, k6_0]; rfl) (by decide) ?_
    refine Sx.aload_n dX12_count_88 rfl ?_
    refine Sx.getfV (v := (nI (V 2 35))) dX12_count_89 lkf_X12_307_12 (o_253 W) M1.1.1.2.2.2.1 ?_
    refine Sx.iret dX12_count_92 rfl rfl ?_
    exact pXX (by unfold cntR; rw [if_pos (by omega), xN_k (k := 0) k6_0]; rfl) (h I1 R L M1 hf1)
  by_cases k6_1 : x.toInt = 1
  · refine Sx.tableIn (t := 93) dX12_count_6 (by rw [show _ = _ from vw6, k6_1]; decide) (by rw [show _ = _ from vw6, k6_1]; decide) (by rw [show _ = _ from vw6, k6_1]; rfl) (by decide) ?_
    refine Sx.aload_n dX12_count_93 rfl ?_
    refine Sx.getfV (v := (nI (V 2 34))) dX12_count_94 lkf_X12_304_12 (o_253 W) M1.1.1.2.2.1 ?_
    refine Sx.iret dX12_count_97 rfl rfl ?_
    exact pXX (by unfold cntR; rw [if_pos (by omega), xN_k (k := 1) k6_1]; rfl) (h I1 R L M1 hf1)
  by_cases k6_2 : x.toInt = 2
  · refine Sx.tableIn (t := 98) dX12_count_6 (by rw [show _ = _ from vw6, k6_2]; decide) (by rw [show _ = _ from vw6, k6_2]; decide) (by rw [show _ = _ from vw6, k6_2]; rfl) (by decide) ?_
    refine Sx.aload_n dX12_count_98 rfl ?_
    refine Sx.getfR dX12_count_99 lkf_X12_37_12 (o_253 W) (r_253_18 W) ?_
    refine Sx.iconst (v := (nI 0)) dX12_count_102 (by decide) ?_
    refine Sx.ialdN dX12_count_103 (a_258 W) (by decide) (by decide) (v := (nI (V 2 0))) (M1.1.2.2.2.1.1 0 (by decide)) ?_
    refine Sx.iret dX12_count_104 rfl rfl ?_
    exact pXX (by unfold cntR; rw [if_pos (by omega), xN_k (k := 2) k6_2]; rfl) (h I1 R L M1 hf1)
  by_cases k6_3 : x.toInt = 3
  · refine Sx.tableIn (t := 105) dX12_count_6 (by rw [show _ = _ from vw6, k6_3]; decide) (by rw [show _ = _ from vw6, k6_3]; decide) (by rw [show _ = _ from vw6, k6_3]; rfl) (by decide) ?_
    refine Sx.aload_n dX12_count_105 rfl ?_
    refine Sx.getfV (v := (nI (V 0 1))) dX12_count_106 lkf_X12_296_12 (o_253 W) M1.1.1.2.1 ?_
    refine Sx.iret dX12_count_109 rfl rfl ?_
    exact pXX (by unfold cntR; rw [if_pos (by omega), xN_k (k := 3) k6_3]; rfl) (h I1 R L M1 hf1)
  by_cases k6_4 : x.toInt = 4
  · refine Sx.tableIn (t := 110) dX12_count_6 (by rw [show _ = _ from vw6, k6_4]; decide) (by rw [show _ = _ from vw6, k6_4]; decide) (by rw [show _ = _ from vw6, k6_4]; rfl) (by decide) ?_
    refine Sx.aload_n dX12_count_110 rfl ?_
    refine Sx.getfV (v := (nI (V 0 3))) dX12_count_111 lkf_X12_299_12 (o_253 W) M1.1.1.2.2.2.2.1 ?_
    refine Sx.iret dX12_count_114 rfl rfl ?_
    exact pXX (by unfold cntR; rw [if_pos (by omega), xN_k (k := 4) k6_4]; rfl) (h I1 R L M1 hf1)
  by_cases k6_5 : x.toInt = 5
  · refine Sx.tableIn (t := 115) dX12_count_6 (by rw [show _ = _ from vw6, k6_5]; decide) (by rw [show _ = _ from vw6, k6_5]; decide) (by rw [show _ = _ from vw6, k6_5]; rfl) (by decide) ?_
    refine Sx.aload_n dX12_count_115 rfl ?_
    refine Sx.getfV (v := (nI (V 0 0))) dX12_count_116 lkf_X12_122_12 (o_253 W) M1.1.1.1 ?_
    refine Sx.iret dX12_count_119 rfl rfl ?_
    exact pXX (by unfold cntR; rw [if_pos (by omega), xN_k (k := 5) k6_5]; rfl) (h I1 R L M1 hf1)
  by_cases k6_6 : x.toInt = 6
  · refine Sx.tableIn (t := 120) dX12_count_6 (by rw [show _ = _ from vw6, k6_6]; decide) (by rw [show _ = _ from vw6, k6_6]; decide) (by rw [show _ = _ from vw6, k6_6]; rfl) (by decide) ?_
    refine Sx.aload_n dX12_count_120 rfl ?_
    refine Sx.getfV (v := (iI ((V 0 2 : Int) - 1))) dX12_count_121 lkf_X12_70_12 (o_253 W) M1.1.1.2.2.2.2.2.1 ?_
    refine Sx.iret dX12_count_124 rfl rfl ?_
    exact pXX (by unfold cntR; rw [if_pos (by omega), xN_k (k := 6) k6_6]; rfl) (h I1 R L M1 hf1)
  by_cases k6_7 : x.toInt = 7
  · refine Sx.tableIn (t := 125) dX12_count_6 (by rw [show _ = _ from vw6, k6_7]; decide) (by rw [show _ = _ from vw6, k6_7]; decide) (by rw [show _ = _ from vw6, k6_7]; rfl) (by decide) ?_
    refine Sx.aload_n dX12_count_125 rfl ?_
    refine Sx.getfR dX12_count_126 lkf_X12_61_12 (o_253 W) (r_253_32 W) ?_
    refine Sx.bipush (v := (nI 24)) dX12_count_129 (by decide) ?_
    refine Sx.ialdN dX12_count_131 (a_266 W) (by decide) (by decide) (v := (nI (V 3 144))) M1.2.1.2.2.2.2.2.2.2.1 ?_
    refine Sx.iret dX12_count_132 rfl rfl ?_
    exact pXX (by unfold cntR; rw [if_pos (by omega), xN_k (k := 7) k6_7]; rfl) (h I1 R L M1 hf1)
  by_cases k6_8 : x.toInt = 8
  · refine Sx.tableIn (t := 133) dX12_count_6 (by rw [show _ = _ from vw6, k6_8]; decide) (by rw [show _ = _ from vw6, k6_8]; decide) (by rw [show _ = _ from vw6, k6_8]; rfl) (by decide) ?_
    refine Sx.aload_n dX12_count_133 rfl ?_
    refine Sx.getfR dX12_count_134 lkf_X12_61_12 (o_253 W) (r_253_32 W) ?_
    refine Sx.bipush (v := (nI 25)) dX12_count_137 (by decide) ?_
    refine Sx.ialdN dX12_count_139 (a_266 W) (by decide) (by decide) (v := (nI (V 3 145))) M1.2.1.2.2.2.2.2.2.2.2.1 ?_
    refine Sx.iret dX12_count_140 rfl rfl ?_
    exact pXX (by unfold cntR; rw [if_pos (by omega), xN_k (k := 8) k6_8]; rfl) (h I1 R L M1 hf1)
  by_cases k6_9 : x.toInt = 9
  · refine Sx.tableIn (t := 141) dX12_count_6 (by rw [show _ = _ from vw6, k6_9]; decide) (by rw [show _ = _ from vw6, k6_9]; decide) (by rw [show _ = _ from vw6, k6_9]; rfl) (by decide) ?_
    refine Sx.aload_n dX12_count_141 rfl ?_
    refine Sx.getfR dX12_count_142 lkf_X12_61_12 (o_253 W) (r_253_32 W) ?_
    refine Sx.bipush (v := (nI 22)) dX12_count_145 (by decide) ?_
    refine Sx.ialdN dX12_count_147 (a_266 W) (by decide) (by decide) (v := (nI (V 3 142))) M1.2.1.2.2.2.2.2.1 ?_
    refine Sx.iret dX12_count_148 rfl rfl ?_
    exact pXX (by unfold cntR; rw [if_pos (by omega), xN_k (k := 9) k6_9]; rfl) (h I1 R L M1 hf1)
  by_cases k6_10 : x.toInt = 10
  · refine Sx.tableIn (t := 149) dX12_count_6 (by rw [show _ = _ from vw6, k6_10]; decide) (by rw [show _ = _ from vw6, k6_10]; decide) (by rw [show _ = _ from vw6, k6_10]; rfl) (by decide) ?_
    refine Sx.aload_n dX12_count_149 rfl ?_
    refine Sx.getfR dX12_count_150 lkf_X12_61_12 (o_253 W) (r_253_32 W) ?_
    refine Sx.bipush (v := (nI 19)) dX12_count_153 (by decide) ?_
    refine Sx.ialdN dX12_count_155 (a_266 W) (by decide) (by decide) (v := (nI (V 3 139))) M1.2.1.2.2.1 ?_
    refine Sx.iret dX12_count_156 rfl rfl ?_
    exact pXX (by unfold cntR; rw [if_pos (by omega), xN_k (k := 10) k6_10]; rfl) (h I1 R L M1 hf1)
  by_cases k6_11 : x.toInt = 11
  · refine Sx.tableIn (t := 157) dX12_count_6 (by rw [show _ = _ from vw6, k6_11]; decide) (by rw [show _ = _ from vw6, k6_11]; decide) (by rw [show _ = _ from vw6, k6_11]; rfl) (by decide) ?_
    refine Sx.aload_n dX12_count_157 rfl ?_
    refine Sx.getfR dX12_count_158 lkf_X12_61_12 (o_253 W) (r_253_32 W) ?_
    refine Sx.bipush (v := (nI 20)) dX12_count_161 (by decide) ?_
    refine Sx.ialdN dX12_count_163 (a_266 W) (by decide) (by decide) (v := (nI (V 3 140))) M1.2.1.2.2.2.1 ?_
    refine Sx.iret dX12_count_164 rfl rfl ?_
    exact pXX (by unfold cntR; rw [if_pos (by omega), xN_k (k := 11) k6_11]; rfl) (h I1 R L M1 hf1)
  by_cases k6_12 : x.toInt = 12
  · refine Sx.tableIn (t := 165) dX12_count_6 (by rw [show _ = _ from vw6, k6_12]; decide) (by rw [show _ = _ from vw6, k6_12]; decide) (by rw [show _ = _ from vw6, k6_12]; rfl) (by decide) ?_
    refine Sx.aload_n dX12_count_165 rfl ?_
    refine Sx.getfR dX12_count_166 lkf_X12_61_12 (o_253 W) (r_253_32 W) ?_
    refine Sx.bipush (v := (nI 21)) dX12_count_169 (by decide) ?_
    refine Sx.ialdN dX12_count_171 (a_266 W) (by decide) (by decide) (v := (nI (V 3 141))) M1.2.1.2.2.2.2.1 ?_
    refine Sx.iret dX12_count_172 rfl rfl ?_
    exact pXX (by unfold cntR; rw [if_pos (by omega), xN_k (k := 12) k6_12]; rfl) (h I1 R L M1 hf1)
  by_cases k6_13 : x.toInt = 13
  · refine Sx.tableIn (t := 173) dX12_count_6 (by rw [show _ = _ from vw6, k6_13]; decide) (by rw [show _ = _ from vw6, k6_13]; decide) (by rw [show _ = _ from vw6, k6_13]; rfl) (by decide) ?_
    refine Sx.aload_n dX12_count_173 rfl ?_
    refine Sx.getfV (v := (nI (V 0 6))) dX12_count_174 lkf_X12_74_12 (o_253 W) M1.1.1.2.2.2.2.2.2.1 ?_
    refine Sx.iret dX12_count_177 rfl rfl ?_
    exact pXX (by unfold cntR; rw [if_pos (by omega), xN_k (k := 13) k6_13]; rfl) (h I1 R L M1 hf1)
  by_cases k6_14 : x.toInt = 14
  · refine Sx.tableIn (t := 178) dX12_count_6 (by rw [show _ = _ from vw6, k6_14]; decide) (by rw [show _ = _ from vw6, k6_14]; decide) (by rw [show _ = _ from vw6, k6_14]; rfl) (by decide) ?_
    refine Sx.aload_n dX12_count_178 rfl ?_
    refine Sx.getfV (v := (nI (V 0 7))) dX12_count_179 lkf_X12_314_12 (o_253 W) M1.1.1.2.2.2.2.2.2.2.2.1 ?_
    refine Sx.iret dX12_count_182 rfl rfl ?_
    exact pXX (by unfold cntR; rw [if_pos (by omega), xN_k (k := 14) k6_14]; rfl) (h I1 R L M1 hf1)
  by_cases k6_15 : x.toInt = 15
  · refine Sx.tableIn (t := 183) dX12_count_6 (by rw [show _ = _ from vw6, k6_15]; decide) (by rw [show _ = _ from vw6, k6_15]; decide) (by rw [show _ = _ from vw6, k6_15]; rfl) (by decide) ?_
    refine Sx.aload_n dX12_count_183 rfl ?_
    refine Sx.getfR dX12_count_184 lkf_X12_61_12 (o_253 W) (r_253_32 W) ?_
    refine Sx.sipush (v := (nI 236)) dX12_count_187 (by decide) ?_
    refine Sx.ialdN dX12_count_190 (a_266 W) (by decide) (by decide) (v := (nI (min 60 (V 3 144)))) M1.2.2.1 ?_
    refine Sx.iret dX12_count_191 rfl rfl ?_
    exact pXX (by unfold cntR; rw [if_pos (by omega), xN_k (k := 15) k6_15]; rfl) (h I1 R L M1 hf1)
  by_cases k6_16 : x.toInt = 16
  · refine Sx.tableIn (t := 192) dX12_count_6 (by rw [show _ = _ from vw6, k6_16]; decide) (by rw [show _ = _ from vw6, k6_16]; decide) (by rw [show _ = _ from vw6, k6_16]; rfl) (by decide) ?_
    refine Sx.aload_n dX12_count_192 rfl ?_
    refine Sx.getfV (v := (nI (V 0 4))) dX12_count_193 lkf_X12_317_12 (o_253 W) M1.1.1.2.2.2.2.2.2.2.1 ?_
    refine Sx.iret dX12_count_196 rfl rfl ?_
    exact pXX (by unfold cntR; rw [if_pos (by omega), xN_k (k := 16) k6_16]; rfl) (h I1 R L M1 hf1)
  refine Sx.tableOut (t := 197) dX12_count_6 (by rw [show _ = _ from vw6]; omega) (by decide) ?_
  refine Sx.ldc_w dX12_count_197 lkk_X12_380 ?_
  refine Sx.top (show _ = (iI (-1000000)) by decide) ?_
  refine Sx.iret dX12_count_200 rfl rfl ?_
  exact pXX (by unfold cntR; rw [if_neg (by omega)]) (h I1 R L M1 hf1)
def valN (V : Vt) (k j : Nat) : Nat := if k = 0 then V 3 (6 + j) else if k = 1 then V 2 (21 + j) else V 2 (3 + j)
set_option maxRecDepth 20000 in
set_option maxHeartbeats 1000000 in
theorem k_valueOf {G : Gt} {l : Launch} {Z : Zt} {R : Rt} {I : It} {L : Lt} {post : Pt'} {V : Vt} {k j : Nat} (W : WF Z R) (hM : MI V I L) (hH : HV V) (hk : k ≤ 2) (hj2 : k = 2 → j < V 2 34) (hj1 : k ≠ 2 → j < V 2 35) (h : post (some (.int (nI (valN V k j)))) Z R I L) : Cx G l mX12_valueOf 1 0 0 [.ref 253, .int (nI k), .int (nI j)] Z R I L post := by
  refine Cx.of (by decide +kernel) (by exact Nat.le_of_ble_eq_true rfl) ?_
  obtain ⟨p1, p2, p3, p4, p5, p6, p7, p8, p9⟩ := id hH.2.2.2.1
  have hj6 : j < 6 := by by_cases q : k = 2 <;> omega
  refine Sx.iload_n dX12_valueOf_0 rfl ?_
  refine Sx.if_neV (t := 16) dX12_valueOf_1 (by decide) (vN (by omega)) (fun c1 => ?_) (fun c1 => ?_)
  · refine Sx.iload_n dX12_valueOf_16 rfl ?_
    refine Sx.iconst (v := (nI 1)) dX12_valueOf_17 (by decide) ?_
    refine Sx.icmp_neV (t := 34) dX12_valueOf_18 (by decide) (vN (by omega)) (vN (by decide)) (fun c18 => ?_) (fun c18 => ?_)
    · refine Sx.aload_n dX12_valueOf_34 rfl ?_
      refine Sx.getfR dX12_valueOf_35 lkf_X12_43_12 (o_253 W) (r_253_20 W) ?_
      refine Sx.iconst (v := (nI 2)) dX12_valueOf_38 (by decide) ?_
      refine Sx.iload_n dX12_valueOf_39 rfl ?_
      refine Sx.imulN dX12_valueOf_40 ?_
      refine Sx.ialdN dX12_valueOf_41 (a_260 W) (by omega) (by decide) (v := (nI (V 2 (3 + j)))) (hM.1.2.2.2.1.2.1 j 0 (by omega) (by decide)) ?_
      refine Sx.iret dX12_valueOf_42 rfl rfl ?_
      exact pNN (by unfold valN; first | rw [if_pos (by omega)] | rw [if_neg (by omega), if_pos (by omega)] | rw [if_neg (by omega), if_neg (by omega)]) h
    · refine Sx.aload_n dX12_valueOf_21 rfl ?_
      refine Sx.getfR dX12_valueOf_22 lkf_X12_49_12 (o_253 W) (r_253_22 W) ?_
      refine Sx.iconst (v := (nI 3)) dX12_valueOf_25 (by decide) ?_
      refine Sx.iload_n dX12_valueOf_26 rfl ?_
      refine Sx.imulN dX12_valueOf_27 ?_
      refine Sx.iconst (v := (nI 1)) dX12_valueOf_28 (by decide) ?_
      refine Sx.iaddN dX12_valueOf_29 ?_
      refine Sx.ialdN dX12_valueOf_30 (a_262 W) (by omega) (by decide) (v := (nI (V 2 (21 + j)))) (hM.1.2.2.2.1.2.2 j 1 (by omega) (by decide)) ?_
      refine Sx.goto (t := 42) dX12_valueOf_31 (by decide) ?_
      refine Sx.iret dX12_valueOf_42 rfl rfl ?_
      exact pNN (by unfold valN; first | rw [if_pos (by omega)] | rw [if_neg (by omega), if_pos (by omega)] | rw [if_neg (by omega), if_neg (by omega)]) h
  · refine Sx.aload_n dX12_valueOf_4 rfl ?_
    refine Sx.getfR dX12_valueOf_5 lkf_X12_61_12 (o_253 W) (r_253_32 W) ?_
    refine Sx.bipush (v := (nI 6)) dX12_valueOf_8 (by decide) ?_
    refine Sx.iload_n dX12_valueOf_10 rfl ?_
    refine Sx.iaddN dX12_valueOf_11 ?_
    refine Sx.ialdN dX12_valueOf_12 (a_266 W) (by omega) (by decide) (v := (nI (V 3 (6 + j)))) (hM.2.1.1 _ (by omega)) ?_
    refine Sx.goto (t := 42) dX12_valueOf_13 (by decide) ?_
    refine Sx.iret dX12_valueOf_42 rfl rfl ?_
    exact pNN (by unfold valN; first | rw [if_pos (by omega)] | rw [if_neg (by omega), if_pos (by omega)] | rw [if_neg (by omega), if_neg (by omega)]) h
theorem amxN_lt (g : Nat → Nat) : ∀ k, 0 < k → amxN g k < k
  | 0 => fun h => by omega
  | k + 1 => fun _ => by
    unfold amxN
    split
    · omega
    · by_cases q : 0 < k
      · have := amxN_lt g k q; omega
      · have : k = 0 := by omega
        subst this
        unfold amxN
        omega
theorem valN_le {V : Vt} {k j : Nat} (hH : HV V) (hk : k ≤ 2) (hj : j < 6) : valN V k j ≤ 9999 := by
  have h1 := hH.2.2.2.2.1.2.1 j hj
  have h2 := hH.2.2.2.1.2.2.2.2.2.2.2.2 j hj
  unfold valN
  split
  · omega
  · split <;> omega
set_option maxRecDepth 20000 in
set_option maxHeartbeats 1000000 in
theorem l_gr {G : Gt} {l : Launch} {Z : Zt} {R : Rt} {I : It} {L : Lt} {post : Pt'} {V : Vt} {k n : Nat} (W : WF Z R) (hM : MI V I L) (hH : HV V) (hk : k ≤ 2) (hn2 : k = 2 → n = V 2 34) (hn1 : k ≠ 2 → n = V 2 35) (h : post (some (.int (nI (amxN (valN V k) n)))) Z R I L) :
    ∀ (r j : Nat), 1 ≤ j → j ≤ n → n < j + r → ∀ b, b = amxN (valN V k) j → Sx G l mX12_greatest 2 0 0 4 [(3, .int (nI j)), (0, .ref 253), (1, .int (nI k)), (2, .int (nI b))] [] Z R I L post := by
  obtain ⟨p1, p2, p3, p4, p5, p6, p7, p8, p9⟩ := id hH.2.2.2.1
  have hn6 : n ≤ 6 := by by_cases q : k = 2 <;> omega
  intro r
  induction r with
  | zero => intro j h0 h1 h2; omega
  | succ r ih =>
    intro j h0 h1 h2 b hb
    have hbj : b < j := by rw [hb]; exact amxN_lt _ _ (by omega)
    refine Sx.iload_n dX12_greatest_4 rfl ?_
    refine Sx.iload_n dX12_greatest_5 rfl ?_
    refine Sx.iconst (v := (nI 2)) dX12_greatest_6 (by decide) ?_
    refine Sx.icmp_neV (t := 17) dX12_greatest_7 (by decide) (vN (by omega)) (vN (by decide)) (fun c7 => ?_) (fun c7 => ?_)
    · refine Sx.aload_n dX12_greatest_17 rfl ?_
      refine Sx.getfV (v := (nI (V 2 35))) dX12_greatest_18 lkf_X12_307_12 (o_253 W) hM.1.1.2.2.2.1 ?_
      refine Sx.icmp_geV (t := 51) dX12_greatest_21 (by decide) (vN (by omega)) (vN (by omega)) (fun c21 => ?_) (fun c21 => ?_)
      · refine Sx.iload_n dX12_greatest_51 rfl ?_
        refine Sx.iret dX12_greatest_52 rfl rfl ?_
        have hj : j = n := by omega
        subst hj
        subst hb
        exact h
      · have v1 := valN_le hH hk (j := j) (by omega)
        have v2 := valN_le hH hk (j := b) (by omega)
        refine Sx.aload_n dX12_greatest_24 rfl ?_
        refine Sx.iload_n dX12_greatest_25 rfl ?_
        refine Sx.iload_n dX12_greatest_26 rfl ?_
        refine Sx.callV2 dX12_greatest_27 lkv_X12_476 (rcv_12 (o_253 W)) (by decide) (by decide) (Nat.le_of_ble_eq_true rfl) rfl rfl (k_valueOf W hM hH hk (by omega) (by omega) ?_)
        refine Sx.aload_n dX12_greatest_30 rfl ?_
        refine Sx.iload_n dX12_greatest_31 rfl ?_
        refine Sx.iload_n dX12_greatest_32 rfl ?_
        refine Sx.callV2 dX12_greatest_33 lkv_X12_476 (rcv_12 (o_253 W)) (by decide) (by decide) (Nat.le_of_ble_eq_true rfl) rfl rfl (k_valueOf W hM hH hk (by omega) (by omega) ?_)
        refine Sx.icmp_leV (t := 43) dX12_greatest_36 (by decide) (vN (by omega)) (vN (by omega)) (fun c36 => ?_) (fun c36 => ?_)
        · refine Sx.iload_n dX12_greatest_43 rfl ?_
          refine Sx.istore_n (lv' := [(2, .int (nI b)), (3, .int (nI j)), (0, .ref 253), (1, .int (nI k))]) dX12_greatest_44 (by decide) rfl ?_
          refine Sx.iinc (v := (nI (j + 1))) (lv' := [(3, .int (nI (j + 1))), (2, .int (nI b)), (0, .ref 253), (1, .int (nI k))]) dX12_greatest_45 rfl (nI_add j 1) (by decide) rfl ?_
          refine Sx.goto (t := 4) dX12_greatest_48 (by decide) ?_
          refine Sx.sub' [(3, .int (nI (j + 1))), (0, .ref 253), (1, .int (nI k)), (2, .int (nI b))] rfl ?_
          exact ih (j + 1) (by omega) (by omega) (by omega) b (by rw [amxN, ← hb, if_neg (by omega)])
        · refine Sx.iload_n dX12_greatest_39 rfl ?_
          refine Sx.goto (t := 44) dX12_greatest_40 (by decide) ?_
          refine Sx.istore_n (lv' := [(2, .int (nI j)), (3, .int (nI j)), (0, .ref 253), (1, .int (nI k))]) dX12_greatest_44 (by decide) rfl ?_
          refine Sx.iinc (v := (nI (j + 1))) (lv' := [(3, .int (nI (j + 1))), (2, .int (nI j)), (0, .ref 253), (1, .int (nI k))]) dX12_greatest_45 rfl (nI_add j 1) (by decide) rfl ?_
          refine Sx.goto (t := 4) dX12_greatest_48 (by decide) ?_
          refine Sx.sub' [(3, .int (nI (j + 1))), (0, .ref 253), (1, .int (nI k)), (2, .int (nI j))] rfl ?_
          exact ih (j + 1) (by omega) (by omega) (by omega) j (by rw [amxN, ← hb, if_pos (by omega)])
    · refine Sx.aload_n dX12_greatest_10 rfl ?_
      refine Sx.getfV (v := (nI (V 2 34))) dX12_greatest_11 lkf_X12_304_12 (o_253 W) hM.1.1.2.2.1 ?_
      refine Sx.goto (t := 21) dX12_greatest_14 (by decide) ?_
      refine Sx.icmp_geV (t := 51) dX12_greatest_21 (by decide) (vN (by omega)) (vN (by omega)) (fun c21 => ?_) (fun c21 => ?_)
      · refine Sx.iload_n dX12_greatest_51 rfl ?_
        refine Sx.iret dX12_greatest_52 rfl rfl ?_
        have hj : j = n := by omega
        subst hj
        subst hb
        exact h
      · have v1 := valN_le hH hk (j := j) (by omega)
        have v2 := valN_le hH hk (j := b) (by omega)
        refine Sx.aload_n dX12_greatest_24 rfl ?_
        refine Sx.iload_n dX12_greatest_25 rfl ?_
        refine Sx.iload_n dX12_greatest_26 rfl ?_
        refine Sx.callV2 dX12_greatest_27 lkv_X12_476 (rcv_12 (o_253 W)) (by decide) (by decide) (Nat.le_of_ble_eq_true rfl) rfl rfl (k_valueOf W hM hH hk (by omega) (by omega) ?_)
        refine Sx.aload_n dX12_greatest_30 rfl ?_
        refine Sx.iload_n dX12_greatest_31 rfl ?_
        refine Sx.iload_n dX12_greatest_32 rfl ?_
        refine Sx.callV2 dX12_greatest_33 lkv_X12_476 (rcv_12 (o_253 W)) (by decide) (by decide) (Nat.le_of_ble_eq_true rfl) rfl rfl (k_valueOf W hM hH hk (by omega) (by omega) ?_)
        refine Sx.icmp_leV (t := 43) dX12_greatest_36 (by decide) (vN (by omega)) (vN (by omega)) (fun c36 => ?_) (fun c36 => ?_)
        · refine Sx.iload_n dX12_greatest_43 rfl ?_
          refine Sx.istore_n (lv' := [(2, .int (nI b)), (3, .int (nI j)), (0, .ref 253), (1, .int (nI k))]) dX12_greatest_44 (by decide) rfl ?_
          refine Sx.iinc (v := (nI (j + 1))) (lv' := [(3, .int (nI (j + 1))), (2, .int (nI b)), (0, .ref 253), (1, .int (nI k))]) dX12_greatest_45 rfl (nI_add j 1) (by decide) rfl ?_
          refine Sx.goto (t := 4) dX12_greatest_48 (by decide) ?_
          refine Sx.sub' [(3, .int (nI (j + 1))), (0, .ref 253), (1, .int (nI k)), (2, .int (nI b))] rfl ?_
          exact ih (j + 1) (by omega) (by omega) (by omega) b (by rw [amxN, ← hb, if_neg (by omega)])
        · refine Sx.iload_n dX12_greatest_39 rfl ?_
          refine Sx.goto (t := 44) dX12_greatest_40 (by decide) ?_
          refine Sx.istore_n (lv' := [(2, .int (nI j)), (3, .int (nI j)), (0, .ref 253), (1, .int (nI k))]) dX12_greatest_44 (by decide) rfl ?_
          refine Sx.iinc (v := (nI (j + 1))) (lv' := [(3, .int (nI (j + 1))), (2, .int (nI j)), (0, .ref 253), (1, .int (nI k))]) dX12_greatest_45 rfl (nI_add j 1) (by decide) rfl ?_
          refine Sx.goto (t := 4) dX12_greatest_48 (by decide) ?_
          refine Sx.sub' [(3, .int (nI (j + 1))), (0, .ref 253), (1, .int (nI k)), (2, .int (nI j))] rfl ?_
          exact ih (j + 1) (by omega) (by omega) (by omega) j (by rw [amxN, ← hb, if_pos (by omega)])
set_option maxRecDepth 20000 in
set_option maxHeartbeats 1000000 in
theorem k_greatest {G : Gt} {l : Launch} {Z : Zt} {R : Rt} {I : It} {L : Lt} {post : Pt'} {V : Vt} {k n : Nat} (W : WF Z R) (hM : MI V I L) (hH : HV V) (hk : k ≤ 2) (hn2 : k = 2 → n = V 2 34) (hn1 : k ≠ 2 → n = V 2 35) (h : post (some (.int (nI (amxN (valN V k) n)))) Z R I L) : Cx G l mX12_greatest 2 0 0 [.ref 253, .int (nI k)] Z R I L post := by
  refine Cx.of (by decide +kernel) (by exact Nat.le_of_ble_eq_true rfl) ?_
  refine Sx.iconst (v := (nI 0)) dX12_greatest_0 (by decide) ?_
  refine Sx.istore_n (lv' := [(2, .int (nI 0)), (0, .ref 253), (1, .int (nI k))]) dX12_greatest_1 (by decide) rfl ?_
  refine Sx.iconst (v := (nI 1)) dX12_greatest_2 (by decide) ?_
  refine Sx.istore_n (lv' := [(3, .int (nI 1)), (2, .int (nI 0)), (0, .ref 253), (1, .int (nI k))]) dX12_greatest_3 (by decide) rfl ?_
  refine Sx.sub' [(3, .int (nI 1)), (0, .ref 253), (1, .int (nI k)), (2, .int (nI 0))] rfl ?_
  exact l_gr (n := n) W hM hH hk hn2 hn1 h n 1 (by decide) (by obtain ⟨p1, p2, p3, p4, p5, p6, p7, p8, p9⟩ := id hH.2.2.2.1; by_cases q : k = 2 <;> omega) (by omega) 0 (by unfold amxN amxN; split <;> rfl)
set_option maxRecDepth 20000 in
set_option maxHeartbeats 1000000 in
theorem l_dark {G : Gt} {l : Launch} {Z : Zt} {R : Rt} {I : It} {L : Lt} {post : Pt'} {V : Vt} (W : WF Z R) (hM : MI V I L) (hH : HV V) (h : post (some (.int (iI ((dkN (V 3) (V 3 145) : Int) - 1)))) Z R I L) :
    ∀ (k j : Nat), j ≤ V 3 145 → V 3 145 < j + k → ∀ b, b = dkN (V 3) j → Sx G l mX12_dark 1 0 0 4 [(2, .int (nI j)), (0, .ref 253), (1, .int (iI ((b : Int) - 1)))] [] Z R I L post := by
  obtain ⟨p1, p2, p3, p4, p5, p6, p7, p8, p9⟩ := id hH.2.2.2.1
  have s4 := hH.2.2.2.2.1.2.2.2.1
  have hd := hH.2.2.2.2.1.2.2.2.2.2.2.2.2.2.2.2.2.2.1
  intro k
  induction k with
  | zero => intro j h1 h2; omega
  | succ k ih =>
    intro j h1 h2 b hb
    have hbj : b ≤ j := by rw [hb]; exact dkN_le _ _
    refine Sx.iload_n dX12_dark_4 rfl ?_
    refine Sx.aload_n dX12_dark_5 rfl ?_
    refine Sx.getfR dX12_dark_6 lkf_X12_61_12 (o_253 W) (r_253_32 W) ?_
    refine Sx.bipush (v := (nI 25)) dX12_dark_9 (by decide) ?_
    refine Sx.ialdN dX12_dark_11 (a_266 W) (by decide) (by decide) (v := (nI (V 3 145))) (hM.2.1.2.2.2.2.2.2.2.2.1) ?_
    refine Sx.icmp_geV (t := 53) dX12_dark_12 (by decide) (vN (by omega)) (vN (by omega)) (fun c12 => ?_) (fun c12 => ?_)
    · refine Sx.iload_n dX12_dark_53 rfl ?_
      refine Sx.iret dX12_dark_54 rfl rfl ?_
      have hj : j = V 3 145 := by omega
      subst hj
      subst hb
      exact h
    · refine Sx.iload_n dX12_dark_15 rfl ?_
      refine Sx.iconst (v := (iI (-1))) dX12_dark_16 (by decide) ?_
      refine Sx.icmp_eqV (t := 41) dX12_dark_17 (by decide) (vZ (by omega)) (vZ (by decide)) (fun c17 => ?_) (fun c17 => ?_)
      · refine Sx.iload_n dX12_dark_41 rfl ?_
        refine Sx.goto (t := 46) dX12_dark_42 (by decide) ?_
        refine Sx.istore_n (lv' := [(1, .int (nI j)), (2, .int (nI j)), (0, .ref 253)]) dX12_dark_46 (by decide) rfl ?_
        refine Sx.iinc (v := (nI (j + 1))) (lv' := [(2, .int (nI (j + 1))), (1, .int (nI j)), (0, .ref 253)]) dX12_dark_47 rfl (nI_add j 1) (by decide) rfl ?_
        refine Sx.goto (t := 4) dX12_dark_50 (by decide) ?_
        refine Sx.sub' [(2, .int (nI (j + 1))), (0, .ref 253), (1, .int (iI (((j + 1 : Nat) : Int) - 1)))] (by rw [show ((j + 1 : Nat) : Int) - 1 = (j : Int) by omega, ← nI_iI]; rfl) ?_
        exact ih (j + 1) (by omega) (by omega) (j + 1) (by rw [dkN, ← hb, if_pos (by omega)])
      · refine Sx.aload_n dX12_dark_20 rfl ?_
        refine Sx.getfR dX12_dark_21 lkf_X12_61_12 (o_253 W) (r_253_32 W) ?_
        refine Sx.bipush (v := (nI 26)) dX12_dark_24 (by decide) ?_
        refine Sx.iload_n dX12_dark_26 rfl ?_
        refine Sx.iaddN dX12_dark_27 ?_
        refine Sx.ialdN dX12_dark_28 (a_266 W) (by omega) (by decide) (v := (nI (V 3 (18 + j)))) (hM.2.1.2.2.2.2.2.2.2.2.2.1 j (by omega)) ?_
        refine Sx.aload_n dX12_dark_29 rfl ?_
        refine Sx.getfR dX12_dark_30 lkf_X12_61_12 (o_253 W) (r_253_32 W) ?_
        refine Sx.bipush (v := (nI 26)) dX12_dark_33 (by decide) ?_
        refine Sx.iload_n dX12_dark_35 rfl ?_
        refine Sx.iaddV dX12_dark_36 (vN (by decide)) (vZ (by omega)) ?_
        refine Sx.ialdV (k := 26 + (b - 1)) dX12_dark_37 (a_266 W) (vZ (by omega)) (by omega) (by omega) (by decide) (v := (nI (V 3 (18 + (b - 1))))) (hM.2.1.2.2.2.2.2.2.2.2.2.1 (b - 1) (by omega)) ?_
        have hlj := s4 j (by omega)
        have hlb := s4 (b - 1) (by omega)
        refine Sx.icmp_geV (t := 45) dX12_dark_38 (by decide) (vN (by omega)) (vN (by omega)) (fun c38 => ?_) (fun c38 => ?_)
        · refine Sx.iload_n dX12_dark_45 rfl ?_
          refine Sx.istore_n (lv' := [(1, .int (iI ((b : Int) - 1))), (2, .int (nI j)), (0, .ref 253)]) dX12_dark_46 (by decide) rfl ?_
          refine Sx.iinc (v := (nI (j + 1))) (lv' := [(2, .int (nI (j + 1))), (1, .int (iI ((b : Int) - 1))), (0, .ref 253)]) dX12_dark_47 rfl (nI_add j 1) (by decide) rfl ?_
          refine Sx.goto (t := 4) dX12_dark_50 (by decide) ?_
          refine Sx.sub' [(2, .int (nI (j + 1))), (0, .ref 253), (1, .int (iI (((b : Nat) : Int) - 1)))] rfl ?_
          exact ih (j + 1) (by omega) (by omega) (b) (by rw [dkN, ← hb, if_neg (by omega)])
        · refine Sx.iload_n dX12_dark_41 rfl ?_
          refine Sx.goto (t := 46) dX12_dark_42 (by decide) ?_
          refine Sx.istore_n (lv' := [(1, .int (nI j)), (2, .int (nI j)), (0, .ref 253)]) dX12_dark_46 (by decide) rfl ?_
          refine Sx.iinc (v := (nI (j + 1))) (lv' := [(2, .int (nI (j + 1))), (1, .int (nI j)), (0, .ref 253)]) dX12_dark_47 rfl (nI_add j 1) (by decide) rfl ?_
          refine Sx.goto (t := 4) dX12_dark_50 (by decide) ?_
          refine Sx.sub' [(2, .int (nI (j + 1))), (0, .ref 253), (1, .int (iI (((j + 1 : Nat) : Int) - 1)))] (by rw [show ((j + 1 : Nat) : Int) - 1 = (j : Int) by omega, ← nI_iI]; rfl) ?_
          exact ih (j + 1) (by omega) (by omega) (j + 1) (by rw [dkN, ← hb, if_pos (by omega)])
set_option maxRecDepth 20000 in
set_option maxHeartbeats 1000000 in
theorem k_dark {G : Gt} {l : Launch} {Z : Zt} {R : Rt} {I : It} {L : Lt} {post : Pt'} {V : Vt} (W : WF Z R) (hM : MI V I L) (hH : HV V) (h : post (some (.int (iI ((dkN (V 3) (V 3 145) : Int) - 1)))) Z R I L) : Cx G l mX12_dark 1 0 0 [.ref 253] Z R I L post := by
  refine Cx.of (by decide +kernel) (by exact Nat.le_of_ble_eq_true rfl) ?_
  refine Sx.iconst (v := (iI (-1))) dX12_dark_0 (by decide) ?_
  refine Sx.istore_n (lv' := [(1, .int (iI (-1))), (0, .ref 253)]) dX12_dark_1 (by decide) rfl ?_
  refine Sx.iconst (v := (nI 0)) dX12_dark_2 (by decide) ?_
  refine Sx.istore_n (lv' := [(2, .int (nI 0)), (1, .int (iI (-1))), (0, .ref 253)]) dX12_dark_3 (by decide) rfl ?_
  refine Sx.sub' [(2, .int (nI 0)), (0, .ref 253), (1, .int (iI (((0 : Nat) : Int) - 1)))] rfl ?_
  exact l_dark W hM hH h (V 3 145 + 1) 0 (by omega) (by omega) 0 rfl
set_option maxRecDepth 20000 in
set_option maxHeartbeats 1000000 in
theorem l_id {G : Gt} {l : Launch} {Z : Zt} {R : Rt} {I : It} {L : Lt} {post : Pt'} {V : Vt} {lt : Nat} (W : WF Z R) (hM : MI V I L) (hH : HV V) (hlt : lt ≤ 99) (h : post (some (.int (nI (idN (V 2) (V 3) lt (V 2 35))))) Z R I L) :
    ∀ (k j : Nat), j ≤ V 2 35 → V 2 35 < j + k → ∀ b, b = idN (V 2) (V 3) lt j → Sx G l mX12_idle 37 0 0 20 [(3, .int (nI j)), (0, .ref 253), (1, .int (nI lt)), (2, .int (nI b))] [] Z R I L post := by
  obtain ⟨p1, p2, p3, p4, p5, p6, p7, p8, p9⟩ := id hH.2.2.2.1
  intro k
  induction k with
  | zero => intro j h1 h2; omega
  | succ k ih =>
    intro j h1 h2 b hb
    refine Sx.iload_n dX12_idle_20 rfl ?_
    refine Sx.aload_n dX12_idle_21 rfl ?_
    refine Sx.getfV (v := (nI (V 2 35))) dX12_idle_22 lkf_X12_307_12 (o_253 W) hM.1.1.2.2.2.1 ?_
    refine Sx.icmp_geV (t := 77) dX12_idle_25 (by decide) (vN (by omega)) (vN (by omega)) (fun c25 => ?_) (fun c25 => ?_)
    · refine Sx.iload_n dX12_idle_77 rfl ?_
      refine Sx.iret dX12_idle_78 rfl rfl ?_
      have hj : j = V 2 35 := by omega
      subst hj
      subst hb
      exact h
    · have s7 := hH.2.2.2.2.1.2.2.2.2.2.2.1
      have s15 := hH.2.2.2.2.1.2.2.2.2.2.2.2.2.2.2.2.2.2.2.1
      have hj15 := s15 j (by omega)
      have hn9 := (p9 (V 3 j) (by omega)).2.1
      refine Sx.iload_n dX12_idle_28 rfl ?_
      refine Sx.aload_n dX12_idle_29 rfl ?_
      refine Sx.getfR dX12_idle_30 lkf_X12_61_12 (o_253 W) (r_253_32 W) ?_
      refine Sx.bipush (v := (nI 18)) dX12_idle_33 (by decide) ?_
      refine Sx.ialdN dX12_idle_35 (a_266 W) (by decide) (by decide) (v := (nI (V 3 138))) hM.2.1.2.1 ?_
      refine Sx.iload_n dX12_idle_36 rfl ?_
      refine Sx.callS2 dX12_idle_37 lkc_X12_242  (by decide) (by decide) (Nat.le_of_ble_eq_true rfl) rfl rfl (k_has (by omega) (by omega) ?_)
      refine Sx.if_neB (t := 68) dX12_idle_40 (by decide) (fun c40 => ?_) (fun c40 => ?_)
      · refine Sx.iconst (v := (nI 0)) dX12_idle_68 (by decide) ?_
        refine Sx.iorN dX12_idle_69 ?_
        refine Sx.istore_n (lv' := [(2, .int (nI (b ||| 0))), (3, .int (nI j)), (0, .ref 253), (1, .int (nI lt))]) dX12_idle_70 (by decide) rfl ?_
        refine Sx.iinc (v := (nI (j + 1))) (lv' := [(3, .int (nI (j + 1))), (2, .int (nI (b ||| 0))), (0, .ref 253), (1, .int (nI lt))]) dX12_idle_71 rfl (nI_add j 1) (by decide) rfl ?_
        refine Sx.goto (t := 20) dX12_idle_74 (by decide) ?_
        refine Sx.sub' [(3, .int (nI (j + 1))), (0, .ref 253), (1, .int (nI lt)), (2, .int (nI (b ||| 0)))] rfl ?_
        exact ih (j + 1) (by omega) (by omega) _ (by rw [idN, ← hb, if_neg (fun z => by first | omega | exact absurd z.1 (by omega) | exact z.2 (by assumption) | simp_all)])
      · refine Sx.iload_n dX12_idle_43 rfl ?_
        refine Sx.aload_n dX12_idle_44 rfl ?_
        refine Sx.getfR dX12_idle_45 lkf_X12_43_12 (o_253 W) (r_253_20 W) ?_
        refine Sx.iconst (v := (nI 2)) dX12_idle_48 (by decide) ?_
        refine Sx.aload_n dX12_idle_49 rfl ?_
        refine Sx.getfR dX12_idle_50 lkf_X12_61_12 (o_253 W) (r_253_32 W) ?_
        refine Sx.iload_n dX12_idle_53 rfl ?_
        refine Sx.ialdN dX12_idle_54 (a_266 W) (by omega) (by decide) (v := (nI (V 3 j))) (hM.2.1.1 j (by omega)) ?_
        refine Sx.imulN dX12_idle_55 ?_
        refine Sx.iconst (v := (nI 1)) dX12_idle_56 (by decide) ?_
        refine Sx.iaddN dX12_idle_57 ?_
        refine Sx.ialdN dX12_idle_58 (a_260 W) (by omega) (by decide) (v := (nI (V 2 (9 + V 3 j)))) (hM.1.2.2.2.1.2.1 (V 3 j) 1 (s15 j (by omega)) (by decide)) ?_
        refine Sx.icmp_geV (t := 68) dX12_idle_59 (by decide) (vN (by omega)) (vN (by omega)) (fun c59 => ?_) (fun c59 => ?_)
        · refine Sx.iconst (v := (nI 0)) dX12_idle_68 (by decide) ?_
          refine Sx.iorN dX12_idle_69 ?_
          refine Sx.istore_n (lv' := [(2, .int (nI (b ||| 0))), (3, .int (nI j)), (0, .ref 253), (1, .int (nI lt))]) dX12_idle_70 (by decide) rfl ?_
          refine Sx.iinc (v := (nI (j + 1))) (lv' := [(3, .int (nI (j + 1))), (2, .int (nI (b ||| 0))), (0, .ref 253), (1, .int (nI lt))]) dX12_idle_71 rfl (nI_add j 1) (by decide) rfl ?_
          refine Sx.goto (t := 20) dX12_idle_74 (by decide) ?_
          refine Sx.sub' [(3, .int (nI (j + 1))), (0, .ref 253), (1, .int (nI lt)), (2, .int (nI (b ||| 0)))] rfl ?_
          exact ih (j + 1) (by omega) (by omega) _ (by rw [idN, ← hb, if_neg (fun z => by first | omega | exact absurd z.1 (by omega) | exact z.2 (by assumption) | simp_all)])
        · refine Sx.iconst (v := (nI 1)) dX12_idle_62 (by decide) ?_
          refine Sx.iload_n dX12_idle_63 rfl ?_
          refine Sx.ishl1 dX12_idle_64 (by omega) ?_
          refine Sx.goto (t := 69) dX12_idle_65 (by decide) ?_
          refine Sx.iorN dX12_idle_69 ?_
          refine Sx.istore_n (lv' := [(2, .int (nI (b ||| (2 ^ j)))), (3, .int (nI j)), (0, .ref 253), (1, .int (nI lt))]) dX12_idle_70 (by decide) rfl ?_
          refine Sx.iinc (v := (nI (j + 1))) (lv' := [(3, .int (nI (j + 1))), (2, .int (nI (b ||| (2 ^ j)))), (0, .ref 253), (1, .int (nI lt))]) dX12_idle_71 rfl (nI_add j 1) (by decide) rfl ?_
          refine Sx.goto (t := 20) dX12_idle_74 (by decide) ?_
          refine Sx.sub' [(3, .int (nI (j + 1))), (0, .ref 253), (1, .int (nI lt)), (2, .int (nI (b ||| (2 ^ j))))] rfl ?_
          exact ih (j + 1) (by omega) (by omega) _ (by rw [idN, ← hb, if_pos (by refine ⟨by omega, ?_⟩; first | assumption | omega | simp_all)])
set_option maxRecDepth 20000 in
set_option maxHeartbeats 1000000 in
theorem k_idle {G : Gt} {l : Launch} {Z : Zt} {R : Rt} {I : It} {L : Lt} {post : Pt'} {V : Vt} (W : WF Z R) (hM : MI V I L) (hH : HV V) (h : QK post Z R I L V (nI (idN (V 2) (V 3) (lofN (V 2) (wlV V) (V 3) (upc (V 2) (V 3)) (V 3 145)) (V 2 35)))) : Cx G l mX12_idle 37 0 0 [.ref 253] Z R I L post := by
  refine Cx.of (by decide +kernel) (by exact Nat.le_of_ble_eq_true rfl) ?_
  have hd := hH.2.2.2.2.1.2.2.2.2.2.2.2.2.2.2.2.2.2.1
  have p2 := hH.2.2.2.1.2.1
  refine Sx.aload_n dX12_idle_0 rfl ?_
  refine Sx.aload_n dX12_idle_1 rfl ?_
  refine Sx.getfR dX12_idle_2 lkf_X12_61_12 (o_253 W) (r_253_32 W) ?_
  refine Sx.aload_n dX12_idle_5 rfl ?_
  refine Sx.getfR dX12_idle_6 lkf_X12_61_12 (o_253 W) (r_253_32 W) ?_
  refine Sx.bipush (v := (nI 25)) dX12_idle_9 (by decide) ?_
  refine Sx.ialdN dX12_idle_11 (a_266 W) (by decide) (by decide) (v := (nI (V 3 145))) hM.2.1.2.2.2.2.2.2.2.2.1 ?_
  refine Sx.callV2 dX12_idle_12 lkv_X12_365 (rcv_12 (o_253 W)) (by decide) (by decide) (Nat.le_of_ble_eq_true rfl) rfl rfl (k_lofN W hM hH (by omega) (fun I1 R1 L1 hM1 fl1 => ?_))
  have hf1 := (FM.rf R I L).tr fl1.fm
  have W := fl1.fm.wf W
  refine Sx.istore_n (lv' := [(1, .int (nI (lofN (V 2) (wlV V) (V 3) (upc (V 2) (V 3)) (V 3 145)))), (0, .ref 253)]) dX12_idle_15 (by decide) rfl ?_
  refine Sx.iconst (v := (nI 0)) dX12_idle_16 (by decide) ?_
  refine Sx.istore_n (lv' := [(2, .int (nI 0)), (1, .int (nI (lofN (V 2) (wlV V) (V 3) (upc (V 2) (V 3)) (V 3 145)))), (0, .ref 253)]) dX12_idle_17 (by decide) rfl ?_
  refine Sx.iconst (v := (nI 0)) dX12_idle_18 (by decide) ?_
  refine Sx.istore_n (lv' := [(3, .int (nI 0)), (2, .int (nI 0)), (1, .int (nI (lofN (V 2) (wlV V) (V 3) (upc (V 2) (V 3)) (V 3 145)))), (0, .ref 253)]) dX12_idle_19 (by decide) rfl ?_
  refine Sx.sub' [(3, .int (nI 0)), (0, .ref 253), (1, .int (nI (lofN (V 2) (wlV V) (V 3) (upc (V 2) (V 3)) (V 3 145)))), (2, .int (nI 0))] rfl ?_
  exact l_id (lt := lofN (V 2) (wlV V) (V 3) (upc (V 2) (V 3)) (V 3 145)) W hM1 hH (lof_le hH.2.2.2.2.1 (by omega)) (h I1 R1 L1 hM1 hf1) (V 2 35 + 1) 0 (by omega) (by omega) 0 rfl
set_option maxRecDepth 20000 in
set_option maxHeartbeats 1000000 in
theorem l_sw {G : Gt} {l : Launch} {Z : Zt} {R : Rt} {I : It} {L : Lt} {post : Pt'} {V : Vt} {G0 : Nat → Nat} (W : WF Z R) (hM : MI V I L) (hH : HV V) (hF : MW (I 267) G0) (hS : SB (V 2) G0) (h : post (some (.int (nI (swN G0 (V 3) (V 2 35))))) Z R I L) :
    ∀ (k j : Nat), j ≤ V 2 35 → V 2 35 < j + k → ∀ b, b = swN G0 (V 3) j → Sx G l mX12_swayed 39 0 0 19 [(2, .int (nI j)), (0, .ref 253), (1, .int (nI b))] [] Z R I L post := by
  obtain ⟨p1, p2, p3, p4, p5, p6, p7, p8, p9⟩ := id hH.2.2.2.1
  intro k
  induction k with
  | zero => intro j h1 h2; omega
  | succ k ih =>
    intro j h1 h2 b hb
    refine Sx.iload_n dX12_swayed_19 rfl ?_
    refine Sx.aload_n dX12_swayed_20 rfl ?_
    refine Sx.getfV (v := (nI (V 2 35))) dX12_swayed_21 lkf_X12_307_12 (o_253 W) hM.1.1.2.2.2.1 ?_
    refine Sx.icmp_geV (t := 58) dX12_swayed_24 (by decide) (vN (by omega)) (vN (by omega)) (fun c24 => ?_) (fun c24 => ?_)
    · refine Sx.iload_n dX12_swayed_58 rfl ?_
      refine Sx.iret dX12_swayed_59 rfl rfl ?_
      have hj : j = V 2 35 := by omega
      subst hj
      subst hb
      exact h
    · have b1 := hS.1 j (by omega)
      have b2 := hH.2.2.2.2.1.1 j (by omega)
      refine Sx.iload_n dX12_swayed_27 rfl ?_
      refine Sx.aload_n dX12_swayed_28 rfl ?_
      refine Sx.getfR dX12_swayed_29 lkf_X12_64_12 (o_253 W) (r_253_33 W) ?_
      refine Sx.iload_n dX12_swayed_32 rfl ?_
      refine Sx.ialdN dX12_swayed_33 (a_267 W) (by omega) (by decide) (v := (nI (G0 j))) (hF.1 j (by omega)) ?_
      refine Sx.aload_n dX12_swayed_34 rfl ?_
      refine Sx.getfR dX12_swayed_35 lkf_X12_61_12 (o_253 W) (r_253_32 W) ?_
      refine Sx.iload_n dX12_swayed_38 rfl ?_
      refine Sx.ialdN dX12_swayed_39 (a_266 W) (by omega) (by decide) (v := (nI (V 3 j))) (hM.2.1.1 j (by omega)) ?_
      refine Sx.icmp_eqV (t := 49) dX12_swayed_40 (by decide) (vN (by omega)) (vN (by omega)) (fun c40 => ?_) (fun c40 => ?_)
      · refine Sx.iconst (v := (nI 0)) dX12_swayed_49 (by decide) ?_
        refine Sx.iorN dX12_swayed_50 ?_
        refine Sx.istore_n (lv' := [(1, .int (nI (b ||| 0))), (2, .int (nI j)), (0, .ref 253)]) dX12_swayed_51 (by decide) rfl ?_
        refine Sx.iinc (v := (nI (j + 1))) (lv' := [(2, .int (nI (j + 1))), (1, .int (nI (b ||| 0))), (0, .ref 253)]) dX12_swayed_52 rfl (nI_add j 1) (by decide) rfl ?_
        refine Sx.goto (t := 19) dX12_swayed_55 (by decide) ?_
        refine Sx.sub' [(2, .int (nI (j + 1))), (0, .ref 253), (1, .int (nI (b ||| 0)))] rfl ?_
        exact ih (j + 1) (by omega) (by omega) _ (by rw [swN, ← hb, if_pos (by omega)])
      · refine Sx.iconst (v := (nI 1)) dX12_swayed_43 (by decide) ?_
        refine Sx.iload_n dX12_swayed_44 rfl ?_
        refine Sx.ishl1 dX12_swayed_45 (by omega) ?_
        refine Sx.goto (t := 50) dX12_swayed_46 (by decide) ?_
        refine Sx.iorN dX12_swayed_50 ?_
        refine Sx.istore_n (lv' := [(1, .int (nI (b ||| (2 ^ j)))), (2, .int (nI j)), (0, .ref 253)]) dX12_swayed_51 (by decide) rfl ?_
        refine Sx.iinc (v := (nI (j + 1))) (lv' := [(2, .int (nI (j + 1))), (1, .int (nI (b ||| (2 ^ j)))), (0, .ref 253)]) dX12_swayed_52 rfl (nI_add j 1) (by decide) rfl ?_
        refine Sx.goto (t := 19) dX12_swayed_55 (by decide) ?_
        refine Sx.sub' [(2, .int (nI (j + 1))), (0, .ref 253), (1, .int (nI (b ||| (2 ^ j))))] rfl ?_
        exact ih (j + 1) (by omega) (by omega) _ (by rw [swN, ← hb, if_neg (by omega)])
set_option maxRecDepth 20000 in
set_option maxHeartbeats 1000000 in
theorem k_swayed {G : Gt} {l : Launch} {Z : Zt} {R : Rt} {I : It} {L : Lt} {post : Pt'} {V : Vt} (W : WF Z R) (hM : MI V I L) (hH : HV V) (h : QK post Z R I L V (nI (swN (goY (V 2) (wlV V) (V 3)) (V 3) (V 2 35)))) : Cx G l mX12_swayed 39 0 0 [.ref 253] Z R I L post := by
  refine Cx.of (by decide +kernel) (by exact Nat.le_of_ble_eq_true rfl) ?_
  have M1 := hM
  have hf1 := FM.rf R I L
  have hS0 := hH.2.2.2.2.1
  have hy0 := hH.2.2.2.2.2.1
  refine Sx.aload_n dX12_swayed_0 rfl ?_
  refine Sx.getfR dX12_swayed_1 lkf_X12_61_12 (o_253 W) (r_253_32 W) ?_
  refine Sx.aload_n dX12_swayed_4 rfl ?_
  refine Sx.getfR dX12_swayed_5 lkf_X12_64_12 (o_253 W) (r_253_33 W) ?_
  refine Sx.callS2 dX12_swayed_8 lkc_X12_434  (by decide) (by decide) (Nat.le_of_ble_eq_true rfl) rfl rfl (k_cpT W M1 (fun I1 hM1 hF1 o1 fc1 => ?_))
  have hf1 := hf1.tr fc1
  refine Sx.aload_n dX12_swayed_11 rfl ?_
  refine Sx.callV0 dX12_swayed_12 lkv_X12_451 (rcv_12 (o_253 W)) (by decide) (by decide) (Nat.le_of_ble_eq_true rfl) rfl rfl (k_gyT W hM1 hH hS0 hF1 (by omega) (fun I2 R2 L2 hM2 hF2 og2 fl2 => ?_))
  have W := fl2.wf W
  obtain ⟨g1, g2, g3⟩ := goY_ok (w := wlV V) hH.2.2.2.1 hS0 (by omega)
  refine Sx.iconst (v := (nI 0)) dX12_swayed_15 (by decide) ?_
  refine Sx.istore_n (lv' := [(1, .int (nI 0)), (0, .ref 253)]) dX12_swayed_16 (by decide) rfl ?_
  refine Sx.iconst (v := (nI 0)) dX12_swayed_17 (by decide) ?_
  refine Sx.istore_n (lv' := [(2, .int (nI 0)), (1, .int (nI 0)), (0, .ref 253)]) dX12_swayed_18 (by decide) rfl ?_
  refine Sx.sub' [(2, .int (nI 0)), (0, .ref 253), (1, .int (nI 0))] rfl ?_
  exact l_sw W hM2 hH hF2 g1 (h I2 R2 L2 hM2 (hf1.tr fl2)) (V 2 35 + 1) 0 (by omega) (by omega) 0 rfl
set_option maxRecDepth 20000 in
set_option maxHeartbeats 1000000 in
theorem k_all {G : Gt} {l : Launch} {Z : Zt} {R : Rt} {I : It} {L : Lt} {post : Pt'} {V : Vt} {N : Nat} {x : Int32} (W : WF Z R) (hM : MI V I L) (hG : GV N V) (hN : N < 2147483647) (h : QK post Z R I L V (allR V x)) : Cx G l mX12_all 40 0 0 [.ref 253, .int x] Z R I L post := by
  refine Cx.of (by decide +kernel) (by exact Nat.le_of_ble_eq_true rfl) ?_
  refine Sx.aload_n dX12_all_0 rfl ?_
  refine Sx.iconst (v := (nI 0)) dX12_all_1 (by decide) ?_
  refine Sx.putfV dX12_all_2 lkp_X12_109_12 (o_253 W) rfl rfl (fun I1 e1 o1 => ?_)
  have M1 := hM.th (j := 0) (by unfold sfJ; decide) e1 o1
  have hf1 : FM R I L R I1 L := FM.i fun q hq => o1 q (by omega)
  have hp6 := hG.p
  have hb := hG.b
  refine Sx.aload_n dX12_all_5 rfl ?_
  refine Sx.getfV (v := (nI (V 2 35))) dX12_all_6 lkf_X12_307_12 (o_253 W) M1.1.1.2.2.2.1 ?_
  refine Sx.if_neV (t := 16) dX12_all_9 (by decide) (vN (by omega)) (fun c9 => ?_) (fun c9 => ?_)
  · have hH := hG.hv (by omega)
    obtain ⟨p1, p2, p3, p4, p5, p6, p7, p8, p9⟩ := id hH.2.2.2.1
    have hd := hH.2.2.2.2.1.2.2.2.2.2.2.2.2.2.2.2.2.2.1
    refine Sx.iload_n dX12_all_16 rfl ?_
    have vw17 : VZ x x.toInt := (vX x)
    by_cases k17_0 : x.toInt = 0
    · refine Sx.tableIn (t := 68) dX12_all_17 (by rw [show _ = _ from vw17, k17_0]; decide) (by rw [show _ = _ from vw17, k17_0]; decide) (by rw [show _ = _ from vw17, k17_0]; rfl) (by decide) ?_
      have hx : x = nI 0 := (x_eqN (n := 0) (by decide)).mpr k17_0
      refine Sx.sub' [(0, .ref 253), (1, .int (nI 0))] (by rw [hx]; rfl) ?_
      refine Sx.aload_n dX12_all_68 rfl ?_
      refine Sx.iload_n dX12_all_69 rfl ?_
      refine Sx.callV1 dX12_all_70 lkv_X12_479 (rcv_12 (o_253 W)) (by decide) (by decide) (Nat.le_of_ble_eq_true rfl) rfl rfl (k_greatest (k := 0) (n := V 2 35) W M1 hH (by decide) (fun z => by first | rfl | exact absurd z (by decide)) (fun z => by first | rfl | exact absurd rfl z) ?_)
      have hc : allC V x := ⟨by omega, by omega, by omega⟩
      refine Sx.iret dX12_all_73 rfl rfl ?_
      exact pXX (by unfold allR; rw [if_pos hc, xN_k (k := 0) k17_0]; rfl) (h I1 R L M1 hf1)
    by_cases k17_1 : x.toInt = 1
    · refine Sx.tableIn (t := 68) dX12_all_17 (by rw [show _ = _ from vw17, k17_1]; decide) (by rw [show _ = _ from vw17, k17_1]; decide) (by rw [show _ = _ from vw17, k17_1]; rfl) (by decide) ?_
      have hx : x = nI 1 := (x_eqN (n := 1) (by decide)).mpr k17_1
      refine Sx.sub' [(0, .ref 253), (1, .int (nI 1))] (by rw [hx]; rfl) ?_
      refine Sx.aload_n dX12_all_68 rfl ?_
      refine Sx.iload_n dX12_all_69 rfl ?_
      refine Sx.callV1 dX12_all_70 lkv_X12_479 (rcv_12 (o_253 W)) (by decide) (by decide) (Nat.le_of_ble_eq_true rfl) rfl rfl (k_greatest (k := 1) (n := V 2 35) W M1 hH (by decide) (fun z => by first | rfl | exact absurd z (by decide)) (fun z => by first | rfl | exact absurd rfl z) ?_)
      have hc : allC V x := ⟨by omega, by omega, by omega⟩
      refine Sx.iret dX12_all_73 rfl rfl ?_
      exact pXX (by unfold allR; rw [if_pos hc, xN_k (k := 1) k17_1]; rfl) (h I1 R L M1 hf1)
    by_cases k17_2 : x.toInt = 2
    · refine Sx.tableIn (t := 68) dX12_all_17 (by rw [show _ = _ from vw17, k17_2]; decide) (by rw [show _ = _ from vw17, k17_2]; decide) (by rw [show _ = _ from vw17, k17_2]; rfl) (by decide) ?_
      have hx : x = nI 2 := (x_eqN (n := 2) (by decide)).mpr k17_2
      refine Sx.sub' [(0, .ref 253), (1, .int (nI 2))] (by rw [hx]; rfl) ?_
      refine Sx.aload_n dX12_all_68 rfl ?_
      refine Sx.iload_n dX12_all_69 rfl ?_
      refine Sx.callV1 dX12_all_70 lkv_X12_479 (rcv_12 (o_253 W)) (by decide) (by decide) (Nat.le_of_ble_eq_true rfl) rfl rfl (k_greatest (k := 2) (n := V 2 34) W M1 hH (by decide) (fun z => by first | rfl | exact absurd z (by decide)) (fun z => by first | rfl | exact absurd rfl z) ?_)
      have hc : allC V x := ⟨by omega, by omega, by omega⟩
      refine Sx.iret dX12_all_73 rfl rfl ?_
      exact pXX (by unfold allR; rw [if_pos hc, xN_k (k := 2) k17_2]; rfl) (h I1 R L M1 hf1)
    by_cases k17_3 : x.toInt = 3
    · refine Sx.tableIn (t := 74) dX12_all_17 (by rw [show _ = _ from vw17, k17_3]; decide) (by rw [show _ = _ from vw17, k17_3]; decide) (by rw [show _ = _ from vw17, k17_3]; rfl) (by decide) ?_
      have hc : allC V x := ⟨by omega, by omega, by omega⟩
      refine Sx.aload_n dX12_all_74 rfl ?_
      refine Sx.aload_n dX12_all_75 rfl ?_
      refine Sx.getfR dX12_all_76 lkf_X12_61_12 (o_253 W) (r_253_32 W) ?_
      refine Sx.callV1 dX12_all_79 lkv_X12_338 (rcv_12 (o_253 W)) (by decide) (by decide) (Nat.le_of_ble_eq_true rfl) rfl rfl (k_up W M1.1 hH.2.2.2.1 hH.2.2.2.2.1 M1.2.1 (Or.inl rfl) ?_)
      refine Sx.iret dX12_all_82 rfl rfl ?_
      exact pXX (by unfold allR; rw [if_pos hc, xN_k (k := 3) k17_3]; rfl) (h I1 R L M1 hf1)
    by_cases k17_4 : x.toInt = 4
    · refine Sx.tableIn (t := 83) dX12_all_17 (by rw [show _ = _ from vw17, k17_4]; decide) (by rw [show _ = _ from vw17, k17_4]; decide) (by rw [show _ = _ from vw17, k17_4]; rfl) (by decide) ?_
      have hc : allC V x := ⟨by omega, by omega, by omega⟩
      refine Sx.aload_n dX12_all_83 rfl ?_
      refine Sx.callV0 dX12_all_84 lkv_X12_482 (rcv_12 (o_253 W)) (by decide) (by decide) (Nat.le_of_ble_eq_true rfl) rfl rfl (k_idle W M1 hH (fun I2 R2 L2 hM2 fl2 => ?_))
      have hf2 := hf1.tr fl2
      refine Sx.iret dX12_all_87 rfl rfl ?_
      exact pXX (by unfold allR; rw [if_pos hc, xN_k (k := 4) k17_4]; rfl) (h I2 R2 L2 hM2 hf2)
    by_cases k17_5 : x.toInt = 5
    · refine Sx.tableIn (t := 88) dX12_all_17 (by rw [show _ = _ from vw17, k17_5]; decide) (by rw [show _ = _ from vw17, k17_5]; decide) (by rw [show _ = _ from vw17, k17_5]; rfl) (by decide) ?_
      have hc : allC V x := ⟨by omega, by omega, by omega⟩
      refine Sx.aload_n dX12_all_88 rfl ?_
      refine Sx.callV0 dX12_all_89 lkv_X12_485 (rcv_12 (o_253 W)) (by decide) (by decide) (Nat.le_of_ble_eq_true rfl) rfl rfl (k_dark W M1 hH ?_)
      refine Sx.iret dX12_all_92 rfl rfl ?_
      exact pXX (by unfold allR; rw [if_pos hc, xN_k (k := 5) k17_5]; rfl) (h I1 R L M1 hf1)
    by_cases k17_6 : x.toInt = 6
    · refine Sx.tableIn (t := 93) dX12_all_17 (by rw [show _ = _ from vw17, k17_6]; decide) (by rw [show _ = _ from vw17, k17_6]; decide) (by rw [show _ = _ from vw17, k17_6]; rfl) (by decide) ?_
      have hc : allC V x := ⟨by omega, by omega, by omega⟩
      refine Sx.aload_n dX12_all_93 rfl ?_
      refine Sx.getfR dX12_all_94 lkf_X12_37_12 (o_253 W) (r_253_18 W) ?_
      refine Sx.iconst (v := (nI 0)) dX12_all_97 (by decide) ?_
      refine Sx.ialdN dX12_all_98 (a_258 W) (by decide) (by decide) (v := (nI (V 2 0))) (M1.1.2.2.2.1.1 0 (by decide)) ?_
      refine Sx.aload_n dX12_all_99 rfl ?_
      refine Sx.getfR dX12_all_100 lkf_X12_61_12 (o_253 W) (r_253_32 W) ?_
      refine Sx.bipush (v := (nI 25)) dX12_all_103 (by decide) ?_
      refine Sx.ialdN dX12_all_105 (a_266 W) (by decide) (by decide) (v := (nI (V 3 145))) M1.2.1.2.2.2.2.2.2.2.2.1 ?_
      refine Sx.isubN dX12_all_106 (by omega) ?_
      refine Sx.iret dX12_all_107 rfl rfl ?_
      exact pXX (by unfold allR; rw [if_pos hc, xN_k (k := 6) k17_6]; rfl) (h I1 R L M1 hf1)
    by_cases k17_7 : x.toInt = 7
    · refine Sx.tableIn (t := 108) dX12_all_17 (by rw [show _ = _ from vw17, k17_7]; decide) (by rw [show _ = _ from vw17, k17_7]; decide) (by rw [show _ = _ from vw17, k17_7]; rfl) (by decide) ?_
      have hc : allC V x := ⟨by omega, by omega, by omega⟩
      refine Sx.aload_n dX12_all_108 rfl ?_
      refine Sx.callV0 dX12_all_109 lkv_X12_488 (rcv_12 (o_253 W)) (by decide) (by decide) (Nat.le_of_ble_eq_true rfl) rfl rfl (k_swayed W M1 hH (fun I3 R3 L3 hM3 fl3 => ?_))
      have hf3 := hf1.tr fl3
      refine Sx.iret dX12_all_112 rfl rfl ?_
      exact pXX (by unfold allR; rw [if_pos hc, xN_k (k := 7) k17_7]; rfl) (h I3 R3 L3 hM3 hf3)
    by_cases k17_8 : x.toInt = 8
    · refine Sx.tableIn (t := 113) dX12_all_17 (by rw [show _ = _ from vw17, k17_8]; decide) (by rw [show _ = _ from vw17, k17_8]; decide) (by rw [show _ = _ from vw17, k17_8]; rfl) (by decide) ?_
      have hc : allC V x := ⟨by omega, by omega, by omega⟩
      refine Sx.aload_n dX12_all_113 rfl ?_
      refine Sx.getfR dX12_all_114 lkf_X12_61_12 (o_253 W) (r_253_32 W) ?_
      refine Sx.bipush (v := (nI 23)) dX12_all_117 (by decide) ?_
      refine Sx.ialdN dX12_all_119 (a_266 W) (by decide) (by decide) (v := (iI ((V 3 143 : Int) - 1))) M1.2.1.2.2.2.2.2.2.1 ?_
      refine Sx.iret dX12_all_120 rfl rfl ?_
      exact pXX (by unfold allR; rw [if_pos hc, xN_k (k := 8) k17_8]; rfl) (h I1 R L M1 hf1)
    refine Sx.tableOut (t := 121) dX12_all_17 (by rw [show _ = _ from vw17]; omega) (by decide) ?_
    refine Sx.ldc_w dX12_all_121 lkk_X12_380 ?_
    refine Sx.top (show _ = (iI (-1000000)) by decide) ?_
    refine Sx.iret dX12_all_124 rfl rfl ?_
    have hn : ¬ allC V x := fun z => by omega
    exact pXX (by unfold allR; rw [if_neg hn]) (h I1 R L M1 hf1)
  · refine Sx.ldc_w dX12_all_12 lkk_X12_380 ?_
    refine Sx.top (show _ = (iI (-1000000)) by decide) ?_
    refine Sx.iret dX12_all_15 rfl rfl ?_
    have hn : ¬ allC V x := fun z => by omega
    exact pXX (by unfold allR; rw [if_neg hn]) (h I1 R L M1 hf1)
