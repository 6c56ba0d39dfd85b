/-! the class: games laid out -/
set_option maxRecDepth 20000 in
set_option maxHeartbeats 1000000 in
theorem l_cgn {G : Gt} {l : Launch} {Z : Zt} {R : Rt} {I : It} {L : Lt} {post : Pt'} {V : Vt} {p k : Nat} (W : WF Z R) (C : CI V R I L) (hH : HV V) (hp : p < V 2 35) (hk : k < V 2 34) (hl : ∀ d, V 3 145 ≤ d → d < V 2 0 → I 123 d = nI (lofN (V 2) (wlV V) (V 3) (upc (V 2) (V 3)) d)) (h : post (some (.int (nI (min 9999 (V 3 (6 + p) + gnV V k) - V 3 (6 + p))))) Z R I L) :
    ∀ (r i : Nat), V 3 145 + i ≤ V 2 0 → V 2 0 < V 3 145 + i + r → ∀ gn, gn = gnS (lofN (V 2) (wlV V) (V 3) (upc (V 2) (V 3))) (V 2 (9 + k)) (V 2 (3 + k) + V 3 (12 + k)) (V 3 145) i → Sx G l mX5_gainOf 2 0 0 33 [(6, .int (nI (V 3 145 + i))), (5, .int (nI gn)), (4, .int (nI (V 2 (3 + k) + V 3 (12 + k)))), (3, .int (nI k)), (2, .int (nI p)), (1, .ref 229), (0, .ref 119)] [] Z R I L post := by
  obtain ⟨p1, p2, p3, p4, p5, p6, p7, p8, p9⟩ := id hH.2.2.2.1
  have hd9 := hH.2.2.2.2.1.2.2.2.2.2.2.2.2.2.2.2.2.2.1
  have hv12 := hH.2.2.2.2.1.2.2.1 k (by omega)
  have hp9 := p9 k (by omega)
  intro r
  induction r with
  | zero => intro i h1 h2; omega
  | succ r ih =>
    intro i h1 h2 gn hgn
    refine Sx.iload dX5_gainOf_33 rfl ?_
    refine Sx.aload_n dX5_gainOf_35 rfl ?_
    refine Sx.getfR dX5_gainOf_36 lkf_X5_45_5 (o_119 W) (r_119_0 W) ?_
    refine Sx.iconst (v := (nI 0)) dX5_gainOf_39 (by decide) ?_
    refine Sx.callU1 dX5_gainOf_40 lku_X5_84 (rcv_6 (o_103 W)) (by decide) (by decide) (Nat.le_of_ble_eq_true rfl) rfl rfl (c_rg (w_103r W) (by unfold rowC; decide) (by decide) C.2.1 (0) rfl (by omega) ?_)
    refine Sx.icmp_geV (t := 86) dX5_gainOf_43 (by decide) (vN (by omega)) (vN (by omega)) (fun c43 => ?_) (fun c43 => ?_)
    · have hj : i = V 2 0 - V 3 145 := by omega
      subst hj
      have hgl := gnS_le (lofN (V 2) (wlV V) (V 3) (upc (V 2) (V 3))) (V 2 (9 + k)) (V 2 (3 + k) + V 3 (12 + k)) (V 3 145) (V 2 0 - V 3 145)
      have hml : (V 2 (3 + k) + V 3 (12 + k)) * (V 2 0 - V 3 145) ≤ 20 * 30 := Nat.mul_le_mul (by omega) (by omega)
      have hpu := hH.2.2.2.2.1.2.1 p (by omega)
      refine Sx.aload_n dX5_gainOf_86 rfl ?_
      refine Sx.bipush (v := (nI 6)) dX5_gainOf_87 (by decide) ?_
      refine Sx.iload_n dX5_gainOf_89 rfl ?_
      refine Sx.iaddN dX5_gainOf_90 ?_
      refine Sx.callU1 dX5_gainOf_91 lku_X5_78 (rcv_8 (o_229 W)) (by decide) (by decide) (Nat.le_of_ble_eq_true rfl) rfl rfl (c_sg (w_229r W) C.2.2.1 (6 + p) rfl (by omega) (by omega) ?_)
      refine Sx.istore (lv' := [(6, .int (nI (V 3 (6 + p)))), (5, .int (nI gn)), (4, .int (nI (V 2 (3 + k) + V 3 (12 + k)))), (3, .int (nI k)), (2, .int (nI p)), (1, .ref 229), (0, .ref 119)]) dX5_gainOf_94 (by decide) rfl ?_
      refine Sx.sipush (v := (nI 9999)) dX5_gainOf_96 (by decide) ?_
      refine Sx.iload dX5_gainOf_99 rfl ?_
      refine Sx.iload dX5_gainOf_101 rfl ?_
      refine Sx.iaddN dX5_gainOf_103 ?_
      refine Sx.mmin dX5_gainOf_104 lkm_X5_94 (by decide) (Nat.le_of_ble_eq_true rfl) ?_
      refine Sx.top (n_min (by decide) (by omega)) ?_
      refine Sx.iload dX5_gainOf_107 rfl ?_
      refine Sx.isubN dX5_gainOf_109 (by omega) ?_
      refine Sx.iret dX5_gainOf_110 rfl rfl ?_
      subst hgn
      exact h
    · have hlb := lof_le (w := wlV V) (u := upc (V 2) (V 3)) (d := V 3 145 + i) hH.2.2.2.2.1 (by omega)
      have hgl := gnS_le (lofN (V 2) (wlV V) (V 3) (upc (V 2) (V 3))) (V 2 (9 + k)) (V 2 (3 + k) + V 3 (12 + k)) (V 3 145) i
      have hml : (V 2 (3 + k) + V 3 (12 + k)) * i ≤ 20 * 30 := Nat.mul_le_mul (by omega) (by omega)
      refine Sx.iload dX5_gainOf_46 rfl ?_
      refine Sx.aload_n dX5_gainOf_48 rfl ?_
      refine Sx.getfR dX5_gainOf_49 lkf_X5_23_5 (o_119 W) (r_119_3 W) ?_
      refine Sx.iload dX5_gainOf_52 rfl ?_
      refine Sx.callV1 dX5_gainOf_54 lkv_X5_93 (rcv_7 (o_122 W)) (by decide) (by decide) (Nat.le_of_ble_eq_true rfl) rfl rfl (d_rget (w_122r W) (by unfold rowC; decide) (by decide) (k := V 3 145 + i) (v := nI (lofN (V 2) (wlV V) (V 3) (upc (V 2) (V 3)) (V 3 145 + i))) (by omega) (hl _ (by omega) (by omega)) ?_)
      refine Sx.aload_n dX5_gainOf_57 rfl ?_
      refine Sx.getfR dX5_gainOf_58 lkf_X5_45_5 (o_119 W) (r_119_0 W) ?_
      refine Sx.bipush (v := (nI 9)) dX5_gainOf_61 (by decide) ?_
      refine Sx.iload_n dX5_gainOf_63 rfl ?_
      refine Sx.iaddN dX5_gainOf_64 ?_
      refine Sx.callU1 dX5_gainOf_65 lku_X5_84 (rcv_6 (o_103 W)) (by decide) (by decide) (Nat.le_of_ble_eq_true rfl) rfl rfl (c_rg (w_103r W) (by unfold rowC; decide) (by decide) C.2.1 (9 + k) rfl (by omega) ?_)
      refine Sx.icmp_ltV (t := 76) dX5_gainOf_68 (by decide) (vN (by omega)) (vN (by omega)) (fun c68 => ?_) (fun c68 => ?_)
      · refine Sx.iconst (v := (nI 0)) dX5_gainOf_76 (by decide) ?_
        refine Sx.iaddN dX5_gainOf_77 ?_
        refine Sx.istore (lv' := [(5, .int (nI (gn + 0))), (6, .int (nI (V 3 145 + i))), (4, .int (nI (V 2 (3 + k) + V 3 (12 + k)))), (3, .int (nI k)), (2, .int (nI p)), (1, .ref 229), (0, .ref 119)]) dX5_gainOf_78 (by decide) rfl ?_
        refine Sx.iinc (v := (nI (V 3 145 + i + 1))) (lv' := [(6, .int (nI (V 3 145 + i + 1))), (5, .int (nI (gn + 0))), (4, .int (nI (V 2 (3 + k) + V 3 (12 + k)))), (3, .int (nI k)), (2, .int (nI p)), (1, .ref 229), (0, .ref 119)]) dX5_gainOf_80 rfl (nI_add (V 3 145 + i) 1) (by decide) rfl ?_
        refine Sx.goto (t := 33) dX5_gainOf_83 (by decide) ?_
        refine Sx.sub' [(6, .int (nI (V 3 145 + (i + 1)))), (5, .int (nI (gn + 0))), (4, .int (nI (V 2 (3 + k) + V 3 (12 + k)))), (3, .int (nI k)), (2, .int (nI p)), (1, .ref 229), (0, .ref 119)] rfl ?_
        exact ih (i + 1) (by omega) (by omega) _ (by rw [gnS, ← hgn, if_neg (by omega)])
      · refine Sx.iload dX5_gainOf_71 rfl ?_
        refine Sx.goto (t := 77) dX5_gainOf_73 (by decide) ?_
        refine Sx.iaddN dX5_gainOf_77 ?_
        refine Sx.istore (lv' := [(5, .int (nI (gn + (V 2 (3 + k) + V 3 (12 + k))))), (6, .int (nI (V 3 145 + i))), (4, .int (nI (V 2 (3 + k) + V 3 (12 + k)))), (3, .int (nI k)), (2, .int (nI p)), (1, .ref 229), (0, .ref 119)]) dX5_gainOf_78 (by decide) rfl ?_
        refine Sx.iinc (v := (nI (V 3 145 + i + 1))) (lv' := [(6, .int (nI (V 3 145 + i + 1))), (5, .int (nI (gn + (V 2 (3 + k) + V 3 (12 + k))))), (4, .int (nI (V 2 (3 + k) + V 3 (12 + k)))), (3, .int (nI k)), (2, .int (nI p)), (1, .ref 229), (0, .ref 119)]) dX5_gainOf_80 rfl (nI_add (V 3 145 + i) 1) (by decide) rfl ?_
        refine Sx.goto (t := 33) dX5_gainOf_83 (by decide) ?_
        refine Sx.sub' [(6, .int (nI (V 3 145 + (i + 1)))), (5, .int (nI (gn + (V 2 (3 + k) + V 3 (12 + k))))), (4, .int (nI (V 2 (3 + k) + V 3 (12 + k)))), (3, .int (nI k)), (2, .int (nI p)), (1, .ref 229), (0, .ref 119)] rfl ?_
        exact ih (i + 1) (by omega) (by omega) _ (by rw [gnS, ← hgn, if_pos (by omega)])
set_option maxRecDepth 20000 in
set_option maxHeartbeats 1000000 in
theorem d_gainOf {G : Gt} {l : Launch} {Z : Zt} {R : Rt} {I : It} {L : Lt} {post : Pt'} {V : Vt} {p k : Nat} (W : WF Z R) (C : CI V R I L) (hH : HV V) (hp : p < V 2 35) (hk : k < V 2 34) (hl : ∀ d, V 3 145 ≤ d → d < V 2 0 → I 123 d = nI (lofN (V 2) (wlV V) (V 3) (upc (V 2) (V 3)) d)) (h : post (some (.int (nI (min 9999 (V 3 (6 + p) + gnV V k) - V 3 (6 + p))))) Z R I L) : Cx G l mX5_gainOf 2 0 0 [.ref 119, .ref 229, .int (nI p), .int (nI k)] Z R I L post := by
  refine Cx.of (by decide +kernel) (by exact Nat.le_of_ble_eq_true rfl) ?_
  obtain ⟨p1, p2, p3, p4, p5, p6, p7, p8, p9⟩ := id hH.2.2.2.1
  have hd9 := hH.2.2.2.2.1.2.2.2.2.2.2.2.2.2.2.2.2.2.1
  have hv12 := hH.2.2.2.2.1.2.2.1 k (by omega)
  have hp9 := p9 k (by omega)
  refine Sx.aload_n dX5_gainOf_0 rfl ?_
  refine Sx.getfR dX5_gainOf_1 lkf_X5_45_5 (o_119 W) (r_119_0 W) ?_
  refine Sx.iconst (v := (nI 3)) dX5_gainOf_4 (by decide) ?_
  refine Sx.iload_n dX5_gainOf_5 rfl ?_
  refine Sx.iaddN dX5_gainOf_6 ?_
  refine Sx.callU1 dX5_gainOf_7 lku_X5_84 (rcv_6 (o_103 W)) (by decide) (by decide) (Nat.le_of_ble_eq_true rfl) rfl rfl (c_rg (w_103r W) (by unfold rowC; decide) (by decide) C.2.1 (3 + k) rfl (by omega) ?_)
  refine Sx.aload_n dX5_gainOf_10 rfl ?_
  refine Sx.bipush (v := (nI 12)) dX5_gainOf_11 (by decide) ?_
  refine Sx.iload_n dX5_gainOf_13 rfl ?_
  refine Sx.iaddN dX5_gainOf_14 ?_
  refine Sx.callU1 dX5_gainOf_15 lku_X5_78 (rcv_8 (o_229 W)) (by decide) (by decide) (Nat.le_of_ble_eq_true rfl) rfl rfl (c_sg (w_229r W) C.2.2.1 (12 + k) rfl (by omega) (by omega) ?_)
  refine Sx.iaddN dX5_gainOf_18 ?_
  refine Sx.istore (lv' := [(4, .int (nI ((V 2 (3 + k)) + (V 3 (12 + k))))), (0, .ref 119), (1, .ref 229), (2, .int (nI p)), (3, .int (nI k))]) dX5_gainOf_19 (by decide) rfl ?_
  refine Sx.iconst (v := (nI 0)) dX5_gainOf_21 (by decide) ?_
  refine Sx.istore (lv' := [(5, .int (nI 0)), (4, .int (nI ((V 2 (3 + k)) + (V 3 (12 + k))))), (0, .ref 119), (1, .ref 229), (2, .int (nI p)), (3, .int (nI k))]) dX5_gainOf_22 (by decide) rfl ?_
  refine Sx.aload_n dX5_gainOf_24 rfl ?_
  refine Sx.sipush (v := (nI 145)) dX5_gainOf_25 (by decide) ?_
  refine Sx.callU1 dX5_gainOf_28 lku_X5_78 (rcv_8 (o_229 W)) (by decide) (by decide) (Nat.le_of_ble_eq_true rfl) rfl rfl (c_sg (w_229r W) C.2.2.1 (145) rfl (by omega) (by omega) ?_)
  refine Sx.istore (lv' := [(6, .int (nI (V 3 145))), (5, .int (nI 0)), (4, .int (nI ((V 2 (3 + k)) + (V 3 (12 + k))))), (0, .ref 119), (1, .ref 229), (2, .int (nI p)), (3, .int (nI k))]) dX5_gainOf_31 (by decide) rfl ?_
  refine Sx.sub' [(6, .int (nI (V 3 145 + 0))), (5, .int (nI 0)), (4, .int (nI (V 2 (3 + k) + V 3 (12 + k)))), (3, .int (nI k)), (2, .int (nI p)), (1, .ref 229), (0, .ref 119)] rfl ?_
  exact l_cgn W C hH hp hk hl h (V 2 0 + 1) 0 (by omega) (by omega) 0 rfl
theorem upn_ab {F : Nat → Nat} {a b x0 y0 x : Nat} (hab : a ≠ b) : upn (upn (upn F a x0) b y0) a x = upn (upn F a x) b y0 := by
  funext q
  unfold upn
  by_cases c : q = a
  · rw [if_pos c, if_neg (by omega), if_pos c]
  · rw [if_neg c]
    by_cases d : q = b
    · rw [if_pos d, if_pos d]
    · rw [if_neg d, if_neg d, if_neg c, if_neg c]
theorem upn_bb {F : Nat → Nat} {b y0 y : Nat} : upn (upn F b y0) b y = upn F b y := by
  funext q
  unfold upn
  by_cases d : q = b
  · rw [if_pos d, if_pos d]
  · rw [if_neg d, if_neg d, if_neg d]
theorem upn_self (F : Nat → Nat) (b : Nat) : upn F b (F b) = F := by
  funext q
  unfold upn
  by_cases d : q = b
  · rw [if_pos d, d]
  · rw [if_neg d]
def GVp (V : Vt) (a b : Nat) (f : Nat → Int32) (x y : Nat) : Prop := ∀ x' y', x' < V 2 34 → y' < V 2 34 → (x' < x ∨ (x' = x ∧ y' < y)) → f (x' * 6 + y') = iI ((gvV V a b x' y' : Int) - 1)
def gaV (V : Vt) (a x : Nat) : Nat := min 9999 (V 3 (6 + a) + gnV V x) - V 3 (6 + a)
def GAp (V : Vt) (a b : Nat) (f : Nat → Int32) (x : Nat) : Prop := ∀ z, z < x → f z = nI (gaV V a z) ∧ f (6 + z) = nI (gaV V b z)
set_option maxRecDepth 20000 in
set_option maxHeartbeats 1000000 in
theorem l_clo3 {G : Gt} {l : Launch} {Z : Zt} {R : Rt} {L : Lt} {post : Pt'} {V : Vt} {I0 : It} {a b x : Nat} {f3 f2 : Nat → Int32} (W : WF Z R) (hH : HV V) (hb : V 0 1 ≤ 4 ∧ V 0 3 ≤ 4) (ha : a < V 2 35) (hb2 : b < V 2 35) (hab : a ≠ b) (hx : x < V 2 34) (h : ∀ I', CI V R I' L → OF I0 I' → I' 133 = f3 → I' 123 = f2 → (∃ y0, rs (I' 121) (upn (upn (V 3) a x) b y0)) → GVp V a b (I' 135) x (V 2 34) → Sx G l mX5_layOut 5 0 0 208 [(6, .int (nI (V 2 34))), (5, .int (nI x)), (4, .int (nI (dayD V))), (3, .int (nI b)), (2, .int (nI a)), (1, .ref 229), (0, .ref 119)] [] Z R I' L post) :
    ∀ (r y : Nat), y ≤ V 2 34 → V 2 34 < y + r → ∀ (I : It), CI V R I L → OF I0 I → I 133 = f3 → I 123 = f2 → (∃ y0, rs (I 121) (upn (upn (V 3) a x) b y0)) → GVp V a b (I 135) x y → Sx G l mX5_layOut 5 0 0 143 [(6, .int (nI y)), (5, .int (nI x)), (4, .int (nI (dayD V))), (3, .int (nI b)), (2, .int (nI a)), (1, .ref 229), (0, .ref 119)] [] Z R I L post := by
  obtain ⟨p1, p2, p3, p4, p5, p6, p7, p8, p9⟩ := id hH.2.2.2.1
  have hdd := dayD_lt hH
  intro r
  induction r with
  | zero => intro y h1 h2; omega
  | succ r ih =>
    intro y h1 h2 I C hf h3 h2l ⟨y0, hs⟩ hG
    refine Sx.iload dX5_layOut_143 rfl ?_
    refine Sx.aload_n dX5_layOut_145 rfl ?_
    refine Sx.getfR dX5_layOut_146 lkf_X5_45_5 (o_119 W) (r_119_0 W) ?_
    refine Sx.callV0 dX5_layOut_149 lkv_X5_109 (rcv_6 (o_103 W)) (by decide) (by decide) (Nat.le_of_ble_eq_true rfl) rfl rfl (c_kinds (w_103r W) C.2.1 ?_)
    refine Sx.icmp_geV (t := 208) dX5_layOut_152 (by decide) (vN (by omega)) (vN (by omega)) (fun c152 => ?_) (fun c152 => ?_)
    · have hj : y = V 2 34 := by omega
      subst hj
      exact h I C hf h3 h2l ⟨y0, hs⟩ hG
    · have hST : SB (V 2) (upn (upn (V 3) a x) b y) := SB.hab hH.2.2.2.1 (SB.hab hH.2.2.2.1 hH.2.2.2.2.1 (by omega) hx) (by omega) (by omega)
      have hal := amp_le (vcN (donN (V 2) (upn (upn (V 3) a x) b y) (dayD V))) (V 2 34)
      refine Sx.aload_n dX5_layOut_155 rfl ?_
      refine Sx.getfR dX5_layOut_156 lkf_X5_12_5 (o_119 W) (r_119_2 W) ?_
      refine Sx.iconst (v := (nI 0)) dX5_layOut_159 (by decide) ?_
      refine Sx.iload_n dX5_layOut_160 rfl ?_
      refine Sx.iaddN dX5_layOut_161 ?_
      refine Sx.iload dX5_layOut_162 rfl ?_
      refine Sx.callU2 dX5_layOut_164 lku_X5_127 (rcv_8 (o_120 W)) (by decide) (by decide) (Nat.le_of_ble_eq_true rfl) rfl rfl (c_ss (w_120r W) hs b y (by rw [Nat.zero_add]) (by omega) (sv_n (by omega)).symm (fun I1 r1 o1 => ?_))
      have r1 : rs (I1 121) (upn (upn (V 3) a x) b y) := by rw [upn_bb] at r1; exact r1
      have ho1 : OF I I1 := fun q hq => o1 q (by omega)
      have C1 := ho1.ci C hb
      refine Sx.aload_n dX5_layOut_167 rfl ?_
      refine Sx.getfR dX5_layOut_168 lkf_X5_42_5 (o_119 W) (r_119_9 W) ?_
      refine Sx.iload dX5_layOut_171 rfl ?_
      refine Sx.bipush (v := (nI 6)) dX5_layOut_173 (by decide) ?_
      refine Sx.imulN dX5_layOut_175 ?_
      refine Sx.iload dX5_layOut_176 rfl ?_
      refine Sx.iaddN dX5_layOut_178 ?_
      refine Sx.aload_n dX5_layOut_179 rfl ?_
      refine Sx.getfR dX5_layOut_180 lkf_X5_49_5 (o_119 W) (r_119_1 W) ?_
      refine Sx.aload_n dX5_layOut_183 rfl ?_
      refine Sx.getfR dX5_layOut_184 lkf_X5_49_5 (o_119 W) (r_119_1 W) ?_
      refine Sx.aload_n dX5_layOut_187 rfl ?_
      refine Sx.getfR dX5_layOut_188 lkf_X5_12_5 (o_119 W) (r_119_2 W) ?_
      refine Sx.iload dX5_layOut_191 rfl ?_
      refine Sx.callV2 dX5_layOut_193 lkv_X5_128 (rcv_1 (o_114 W)) (by decide) (by decide) (Nat.le_of_ble_eq_true rfl) rfl rfl (c_don (F := upn (upn (V 3) a x) b y) W C1.2.1 hH.2.2.2.1 (w_120r W) r1 (by decide) hST (by omega) ?_)
      refine Sx.callV1 dX5_layOut_196 lkv_X5_131 (rcv_1 (o_114 W)) (by decide) (by decide) (Nat.le_of_ble_eq_true rfl) rfl rfl (d_gb W C1.2.1 (by omega) (donN_lt hH.2.2.2.1 hST (by omega)) ?_)
      refine Sx.callV2 dX5_layOut_199 lkv_X5_89 (rcv_7 (o_134 W)) (by decide) (by decide) (Nat.le_of_ble_eq_true rfl) rfl rfl (d_rset (w_134r W) (by unfold rowC; decide) (by decide) (k := x * 6 + y) (by omega) (fun I2 e2 o2 => ?_))
      refine Sx.iinc (v := (nI (y + 1))) (lv' := [(6, .int (nI (y + 1))), (5, .int (nI x)), (4, .int (nI (dayD V))), (3, .int (nI b)), (2, .int (nI a)), (1, .ref 229), (0, .ref 119)]) dX5_layOut_202 rfl (nI_add y 1) (by decide) rfl ?_
      refine Sx.goto (t := 143) dX5_layOut_205 (by decide) ?_
      refine Sx.sub' [(6, .int (nI (y + 1))), (5, .int (nI x)), (4, .int (nI (dayD V))), (3, .int (nI b)), (2, .int (nI a)), (1, .ref 229), (0, .ref 119)] rfl ?_
      have ho : OF I I2 := fun q hq => by rw [o2 q (by omega), o1 q (by omega)]
      refine ih (y + 1) (by omega) (by omega) I2 (ho.ci C hb) (hf.tr ho) (by rw [o2 133 (by decide), o1 133 (by decide)]; exact h3) (by rw [o2 123 (by decide), o1 123 (by decide)]; exact h2l) ⟨y, by rw [o2 121 (by decide)]; exact r1⟩ (fun x' y' hx' hy' hc => ?_)
      rw [e2]
      by_cases q : x' = x ∧ y' = y
      · obtain ⟨rfl, rfl⟩ := q
        rw [upd_at]; rfl
      · rw [upd_nj _ _ (by omega), o1 135 (by decide)]; exact hG x' y' hx' hy' (by omega)
set_option maxRecDepth 20000 in
set_option maxHeartbeats 1000000 in
theorem l_clo2 {G : Gt} {l : Launch} {Z : Zt} {R : Rt} {L : Lt} {post : Pt'} {V : Vt} {I0 : It} {a b : Nat} (W : WF Z R) (hH : HV V) (hb : V 0 1 ≤ 4 ∧ V 0 3 ≤ 4) (ha : a < V 2 35) (hb2 : b < V 2 35) (hab : a ≠ b) (h : ∀ I', CI V R I' L → OF I0 I' → GAp V a b (I' 133) (V 2 34) → (∀ x y, x < V 2 34 → y < V 2 34 → I' 135 (x * 6 + y) = iI ((gvV V a b x y : Int) - 1)) → post none Z R I' L) :
    ∀ (r x : Nat), x ≤ V 2 34 → V 2 34 < x + r → ∀ (I : It), CI V R I L → OF I0 I → (∀ d, V 3 145 ≤ d → d < V 2 0 → I 123 d = nI (lofN (V 2) (wlV V) (V 3) (upc (V 2) (V 3)) d)) → (∃ x0 y0, rs (I 121) (upn (upn (V 3) a x0) b y0)) → GAp V a b (I 133) x → GVp V a b (I 135) x 0 → Sx G l mX5_layOut 5 0 0 79 [(5, .int (nI x)), (4, .int (nI (dayD V))), (3, .int (nI b)), (2, .int (nI a)), (1, .ref 229), (0, .ref 119)] [] Z R I L post := by
  obtain ⟨p1, p2, p3, p4, p5, p6, p7, p8, p9⟩ := id hH.2.2.2.1
  have hdd := dayD_lt hH
  intro r
  induction r with
  | zero => intro x h1 h2; omega
  | succ r ih =>
    intro x h1 h2 I C hf hl ⟨x0, y0, hs⟩ hA hG
    refine Sx.iload dX5_layOut_79 rfl ?_
    refine Sx.aload_n dX5_layOut_81 rfl ?_
    refine Sx.getfR dX5_layOut_82 lkf_X5_45_5 (o_119 W) (r_119_0 W) ?_
    refine Sx.callV0 dX5_layOut_85 lkv_X5_109 (rcv_6 (o_103 W)) (by decide) (by decide) (Nat.le_of_ble_eq_true rfl) rfl rfl (c_kinds (w_103r W) C.2.1 ?_)
    refine Sx.icmp_geV (t := 214) dX5_layOut_88 (by decide) (vN (by omega)) (vN (by omega)) (fun c88 => ?_) (fun c88 => ?_)
    · refine Sx.vret dX5_layOut_214 rfl ?_
      have hj : x = V 2 34 := by omega
      subst hj
      exact h I C hf hA (fun x' y' hx' hy' => hG x' y' hx' hy' (by omega))
    · have hx : x < V 2 34 := by omega
      have hpu1 := hH.2.2.2.2.1.2.1 a (by omega)
      have hpu2 := hH.2.2.2.2.1.2.1 b (by omega)
      refine Sx.aload_n dX5_layOut_91 rfl ?_
      refine Sx.getfR dX5_layOut_92 lkf_X5_39_5 (o_119 W) (r_119_8 W) ?_
      refine Sx.iload dX5_layOut_95 rfl ?_
      refine Sx.aload_n dX5_layOut_97 rfl ?_
      refine Sx.aload_n dX5_layOut_98 rfl ?_
      refine Sx.iload_n dX5_layOut_99 rfl ?_
      refine Sx.iload dX5_layOut_100 rfl ?_
      refine Sx.callV3 dX5_layOut_102 lkv_X5_151 (rcv_5 (o_119 W)) (by decide) (by decide) (Nat.le_of_ble_eq_true rfl) rfl rfl (d_gainOf W C hH ha hx hl ?_)
      refine Sx.callV2 dX5_layOut_105 lkv_X5_89 (rcv_7 (o_132 W)) (by decide) (by decide) (Nat.le_of_ble_eq_true rfl) rfl rfl (d_rset (w_132r W) (by unfold rowC; decide) (by decide) (k := x) (by omega) (fun I1 e1 o1 => ?_))
      have ho1 : OF I I1 := fun q hq => o1 q (by omega)
      have C1 := ho1.ci C hb
      refine Sx.aload_n dX5_layOut_108 rfl ?_
      refine Sx.getfR dX5_layOut_109 lkf_X5_39_5 (o_119 W) (r_119_8 W) ?_
      refine Sx.bipush (v := (nI 6)) dX5_layOut_112 (by decide) ?_
      refine Sx.iload dX5_layOut_114 rfl ?_
      refine Sx.iaddN dX5_layOut_116 ?_
      refine Sx.aload_n dX5_layOut_117 rfl ?_
      refine Sx.aload_n dX5_layOut_118 rfl ?_
      refine Sx.iload_n dX5_layOut_119 rfl ?_
      refine Sx.iload dX5_layOut_120 rfl ?_
      refine Sx.callV3 dX5_layOut_122 lkv_X5_151 (rcv_5 (o_119 W)) (by decide) (by decide) (Nat.le_of_ble_eq_true rfl) rfl rfl (d_gainOf W C1 hH hb2 hx (fun d d1 d2 => by rw [o1 123 (by decide)]; exact hl d d1 d2) ?_)
      refine Sx.callV2 dX5_layOut_125 lkv_X5_89 (rcv_7 (o_132 W)) (by decide) (by decide) (Nat.le_of_ble_eq_true rfl) rfl rfl (d_rset (w_132r W) (by unfold rowC; decide) (by decide) (k := 6 + x) (by omega) (fun I2 e2 o2 => ?_))
      refine Sx.aload_n dX5_layOut_128 rfl ?_
      refine Sx.getfR dX5_layOut_129 lkf_X5_12_5 (o_119 W) (r_119_2 W) ?_
      refine Sx.iconst (v := (nI 0)) dX5_layOut_132 (by decide) ?_
      refine Sx.iload_n dX5_layOut_133 rfl ?_
      refine Sx.iaddN dX5_layOut_134 ?_
      refine Sx.iload dX5_layOut_135 rfl ?_
      refine Sx.callU2 dX5_layOut_137 lku_X5_127 (rcv_8 (o_120 W)) (by decide) (by decide) (Nat.le_of_ble_eq_true rfl) rfl rfl (c_ss (w_120r W) (by rw [o2 121 (by decide), o1 121 (by decide)]; exact hs) a x (by rw [Nat.zero_add]) (by omega) (sv_n (by omega)).symm (fun I3 r3 o3 => ?_))
      have r3 : rs (I3 121) (upn (upn (V 3) a x) b y0) := by rw [upn_ab hab] at r3; exact r3
      have ho3 : OF I I3 := fun q hq => by rw [o3 q (by omega), o2 q (by omega), o1 q (by omega)]
      refine Sx.iconst (v := (nI 0)) dX5_layOut_140 (by decide) ?_
      refine Sx.istore (lv' := [(6, .int (nI 0)), (5, .int (nI x)), (4, .int (nI (dayD V))), (3, .int (nI b)), (2, .int (nI a)), (1, .ref 229), (0, .ref 119)]) dX5_layOut_141 (by decide) rfl ?_
      refine Sx.sub' [(6, .int (nI 0)), (5, .int (nI x)), (4, .int (nI (dayD V))), (3, .int (nI b)), (2, .int (nI a)), (1, .ref 229), (0, .ref 119)] rfl ?_
      have hrow : I3 133 = upd (upd (I 133) x (nI (gaV V a x))) (6 + x) (nI (gaV V b x)) := by rw [o3 133 (by decide), e2, e1]; rfl
      have hl2 : ∀ d, V 3 145 ≤ d → d < V 2 0 → I3 123 d = nI (lofN (V 2) (wlV V) (V 3) (upc (V 2) (V 3)) d) := fun d d1 d2 => by rw [o3 123 (by decide), o2 123 (by decide), o1 123 (by decide)]; exact hl d d1 d2
      refine l_clo3 (I0 := I0) (f3 := I3 133) (f2 := I3 123) W hH hb ha hb2 hab hx (fun J CJ hfJ j3 j2 ⟨jy, hy0⟩ hGJ => ?_) (V 2 34 + 1) 0 (by omega) (by omega) I3 (ho3.ci C hb) (hf.tr ho3) rfl rfl ⟨y0, r3⟩ (fun x' y' hx' hy' hc => by rw [o3 135 (by decide), o2 135 (by decide), o1 135 (by decide)]; exact hG x' y' hx' hy' (by omega))
      refine Sx.iinc (v := (nI (x + 1))) (lv' := [(5, .int (nI (x + 1))), (6, .int (nI (V 2 34))), (4, .int (nI (dayD V))), (3, .int (nI b)), (2, .int (nI a)), (1, .ref 229), (0, .ref 119)]) dX5_layOut_208 rfl (nI_add x 1) (by decide) rfl ?_
      refine Sx.goto (t := 79) dX5_layOut_211 (by decide) ?_
      refine Sx.sub' [(5, .int (nI (x + 1))), (4, .int (nI (dayD V))), (3, .int (nI b)), (2, .int (nI a)), (1, .ref 229), (0, .ref 119)] rfl ?_
      refine ih (x + 1) (by omega) (by omega) J CJ hfJ (by rw [j2]; exact hl2) ⟨x, jy, hy0⟩ (fun z hz => ?_) (fun x' y' hx' hy' hc => hGJ x' y' hx' hy' (by omega))
      rw [j3, hrow]
      by_cases q : z = x
      · subst q
        exact ⟨by rw [upd_nj _ _ (by omega), upd_at], by rw [upd_at]⟩
      · rw [upd_nj _ _ (by omega), upd_nj _ _ (by omega), upd_nj _ _ (by omega), upd_nj _ _ (by omega)]; exact hA z (by omega)
set_option maxRecDepth 20000 in
set_option maxHeartbeats 1000000 in
theorem l_clo1 {G : Gt} {l : Launch} {Z : Zt} {R : Rt} {L : Lt} {post : Pt'} {V : Vt} {I0 : It} {a b : Nat} (W : WF Z R) (hH : HV V) (hb : V 0 1 ≤ 4 ∧ V 0 3 ≤ 4) (h : ∀ I', CI V R I' L → OF I0 I' → (∀ d, V 3 145 ≤ d → d < V 2 0 → I' 123 d = nI (lofN (V 2) (wlV V) (V 3) (upc (V 2) (V 3)) d)) → Sx G l mX5_layOut 5 0 0 47 [(3, .int (nI b)), (2, .int (nI a)), (1, .ref 229), (0, .ref 119)] [] Z R I' L post) :
    ∀ (r j : Nat), j ≤ V 2 0 → V 2 0 < j + r → ∀ (I : It), CI V R I L → OF I0 I → (∀ d, V 3 145 ≤ d → d < j → I 123 d = nI (lofN (V 2) (wlV V) (V 3) (upc (V 2) (V 3)) d)) → Sx G l mX5_layOut 5 0 0 9 [(4, .int (nI j)), (3, .int (nI b)), (2, .int (nI a)), (1, .ref 229), (0, .ref 119)] [] Z R I L post := by
  obtain ⟨p1, p2, p3, p4, p5, p6, p7, p8, p9⟩ := id hH.2.2.2.1
  intro r
  induction r with
  | zero => intro j h1 h2; omega
  | succ r ih =>
    intro j h1 h2 I C hf hl
    refine Sx.iload dX5_layOut_9 rfl ?_
    refine Sx.aload_n dX5_layOut_11 rfl ?_
    refine Sx.getfR dX5_layOut_12 lkf_X5_45_5 (o_119 W) (r_119_0 W) ?_
    refine Sx.iconst (v := (nI 0)) dX5_layOut_15 (by decide) ?_
    refine Sx.callU1 dX5_layOut_16 lku_X5_84 (rcv_6 (o_103 W)) (by decide) (by decide) (Nat.le_of_ble_eq_true rfl) rfl rfl (c_rg (w_103r W) (by unfold rowC; decide) (by decide) C.2.1 0 rfl (by decide) ?_)
    refine Sx.icmp_geV (t := 47) dX5_layOut_19 (by decide) (vN (by omega)) (vN (by omega)) (fun c19 => ?_) (fun c19 => ?_)
    · have hj : j = V 2 0 := by omega
      subst hj
      refine Sx.sub' [(3, .int (nI b)), (2, .int (nI a)), (1, .ref 229), (0, .ref 119)] rfl ?_
      exact h I C hf hl
    · have hlj := lof_le (w := wlV V) (u := upc (V 2) (V 3)) (d := j) hH.2.2.2.2.1 (by omega)
      refine Sx.aload_n dX5_layOut_22 rfl ?_
      refine Sx.getfR dX5_layOut_23 lkf_X5_23_5 (o_119 W) (r_119_3 W) ?_
      refine Sx.iload dX5_layOut_26 rfl ?_
      refine Sx.aload_n dX5_layOut_28 rfl ?_
      refine Sx.getfR dX5_layOut_29 lkf_X5_49_5 (o_119 W) (r_119_1 W) ?_
      refine Sx.aload_n dX5_layOut_32 rfl ?_
      refine Sx.iload dX5_layOut_33 rfl ?_
      refine Sx.callV2 dX5_layOut_35 lkv_X5_85 (rcv_1 (o_114 W)) (by decide) (by decide) (Nat.le_of_ble_eq_true rfl) rfl rfl (c_lightOf W C.2.1 hH.2.2.2.1 (w_229r W) C.2.2.1 (by decide) (C.lw ⟨hH.1.1, hH.1.2.1⟩) hH.2.2.2.2.1 (by omega) (fun I1 o1 => ?_))
      refine Sx.callV2 dX5_layOut_38 lkv_X5_89 (rcv_7 (o_122 W)) (by decide) (by decide) (Nat.le_of_ble_eq_true rfl) rfl rfl (d_rset (w_122r W) (by unfold rowC; decide) (by decide) (k := j) (by omega) (fun I2 e2 o2 => ?_))
      refine Sx.iinc (v := (nI (j + 1))) (lv' := [(4, .int (nI (j + 1))), (3, .int (nI b)), (2, .int (nI a)), (1, .ref 229), (0, .ref 119)]) dX5_layOut_41 rfl (nI_add j 1) (by decide) rfl ?_
      refine Sx.goto (t := 9) dX5_layOut_44 (by decide) ?_
      refine Sx.sub' [(4, .int (nI (j + 1))), (3, .int (nI b)), (2, .int (nI a)), (1, .ref 229), (0, .ref 119)] rfl ?_
      have ho : OF I I2 := fun q hq => by rw [o2 q (by omega), o1 q (by omega) (by omega)]
      refine ih (j + 1) (by omega) (by omega) I2 (ho.ci C hb) (hf.tr ho) (fun d d1 d2 => ?_)
      rw [e2]
      by_cases q : d = j
      · rw [q, upd_at]
      · rw [upd_nj _ _ q, o1 123 (by decide) (by decide)]; exact hl d d1 (by omega)
set_option maxRecDepth 20000 in
set_option maxHeartbeats 1000000 in
theorem d_layOut {G : Gt} {l : Launch} {Z : Zt} {R : Rt} {I : It} {L : Lt} {post : Pt'} {V : Vt} {a b : Nat} (W : WF Z R) (C : CI V R I L) (hH : HV V) (hb : V 0 1 ≤ 4 ∧ V 0 3 ≤ 4) (ha : a < V 2 35) (hb2 : b < V 2 35) (hab : a ≠ b) (h : ∀ I', CI V R I' L → OF I I' → GAp V a b (I' 133) (V 2 34) → (∀ x y, x < V 2 34 → y < V 2 34 → I' 135 (x * 6 + y) = iI ((gvV V a b x y : Int) - 1)) → post none Z R I' L) : Cx G l mX5_layOut 5 0 0 [.ref 119, .ref 229, .int (nI a), .int (nI b)] Z R I L post := by
  refine Cx.of (by decide +kernel) (by exact Nat.le_of_ble_eq_true rfl) ?_
  obtain ⟨p1, p2, p3, p4, p5, p6, p7, p8, p9⟩ := id hH.2.2.2.1
  have hd9 := hH.2.2.2.2.1.2.2.2.2.2.2.2.2.2.2.2.2.2.1
  refine Sx.aload_n dX5_layOut_0 rfl ?_
  refine Sx.sipush (v := (nI 145)) dX5_layOut_1 (by decide) ?_
  refine Sx.callU1 dX5_layOut_4 lku_X5_78 (rcv_8 (o_229 W)) (by decide) (by decide) (Nat.le_of_ble_eq_true rfl) rfl rfl (c_sg (w_229r W) C.2.2.1 145 rfl (by decide) (by decide) ?_)
  refine Sx.istore (lv' := [(4, .int (nI (V 3 145))), (0, .ref 119), (1, .ref 229), (2, .int (nI a)), (3, .int (nI b))]) dX5_layOut_7 (by decide) rfl ?_
  refine Sx.sub' [(4, .int (nI (V 3 145))), (3, .int (nI b)), (2, .int (nI a)), (1, .ref 229), (0, .ref 119)] rfl ?_
  refine l_clo1 (I0 := I) W hH hb (fun I1 C1 hf1 hl1 => ?_) (V 2 0 + 1) (V 3 145) (by omega) (by omega) I C (OF.rf I) (fun d d1 d2 => by omega)
  refine Sx.aload_n dX5_layOut_47 rfl ?_
  refine Sx.getfR dX5_layOut_48 lkf_X5_49_5 (o_119 W) (r_119_1 W) ?_
  refine Sx.aload_n dX5_layOut_51 rfl ?_
  refine Sx.aload_n dX5_layOut_52 rfl ?_
  refine Sx.aload_n dX5_layOut_53 rfl ?_
  refine Sx.getfR dX5_layOut_54 lkf_X5_45_5 (o_119 W) (r_119_0 W) ?_
  refine Sx.callV0 dX5_layOut_57 lkv_X5_103 (rcv_6 (o_103 W)) (by decide) (by decide) (Nat.le_of_ble_eq_true rfl) rfl rfl (c_pers (w_103r W) C1.2.1 ?_)
  refine Sx.callV1 dX5_layOut_60 lkv_X5_112 (rcv_8 (o_229 W)) (by decide) (by decide) (Nat.le_of_ble_eq_true rfl) rfl rfl (c_X8_upCount (w_229r W) C1.2.2.1 hH.2.2.2.2.1.2.2.2.2.2.2.1 (by omega) ?_)
  refine Sx.callV2 dX5_layOut_63 lkv_X5_115 (rcv_1 (o_114 W)) (by decide) (by decide) (Nat.le_of_ble_eq_true rfl) rfl rfl (d_ruler W C1.2.1 hH.2.2.2.1 (w_229r W) C1.2.2.1 (by decide) (C1.lw ⟨hH.1.1, hH.1.2.1⟩) hH.2.2.2.2.1 (fun I2 o2 => ?_))
  have ho2 : OF I1 I2 := fun q hq => o2 q (by omega) (by omega)
  have C2 := ho2.ci C1 hb
  refine Sx.istore (lv' := [(4, .int (nI (dayD V))), (3, .int (nI b)), (2, .int (nI a)), (1, .ref 229), (0, .ref 119)]) dX5_layOut_66 (by decide) rfl ?_
  refine Sx.aload_n dX5_layOut_68 rfl ?_
  refine Sx.getfR dX5_layOut_69 lkf_X5_12_5 (o_119 W) (r_119_2 W) ?_
  refine Sx.aload_n dX5_layOut_72 rfl ?_
  refine Sx.callU1 dX5_layOut_73 lku_X5_54 (rcv_8 (o_120 W)) (by decide) (by decide) (Nat.le_of_ble_eq_true rfl) rfl rfl (c_X7_copy (w_120r W) (by unfold rowC; decide) (by decide) (w_229r W) (by unfold rowC; decide) (fun I3 e3 o3 => ?_))
  have ho3 : OF I2 I3 := fun q hq => o3 q (by omega)
  have C3 := ho3.ci C2 hb
  have hs3 : rs (I3 121) (V 3) := by rw [e3]; exact rs_c C2.2.2.1
  refine Sx.iconst (v := (nI 0)) dX5_layOut_76 (by decide) ?_
  refine Sx.istore (lv' := [(5, .int (nI 0)), (4, .int (nI (dayD V))), (3, .int (nI b)), (2, .int (nI a)), (1, .ref 229), (0, .ref 119)]) dX5_layOut_77 (by decide) rfl ?_
  refine Sx.sub' [(5, .int (nI 0)), (4, .int (nI (dayD V))), (3, .int (nI b)), (2, .int (nI a)), (1, .ref 229), (0, .ref 119)] rfl ?_
  exact l_clo2 (I0 := I) W hH hb ha hb2 hab h (V 2 34 + 1) 0 (by omega) (by omega) I3 C3 ((hf1.tr ho2).tr ho3) (fun d d1 d2 => by rw [o3 123 (by decide), o2 123 (by decide) (by decide)]; exact hl1 d d1 d2) ⟨V 3 a, V 3 b, by rw [upn_self, upn_self]; exact hs3⟩ (fun z hz => by omega) (fun x' y' hx' hy' hc => by omega)
