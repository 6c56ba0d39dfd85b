/-! the reference: a law's worth, kept -/
theorem vL_ma {c x y : Int64} {k a b : Int} (hc : VL c k) (hx : VL x a) (hy : VL y b) (h1 : 0 ≤ k ∧ k ≤ 100) (h2 : 0 ≤ a ∧ a ≤ 10000000000) (h3 : 0 ≤ b ∧ b ≤ 1000) : VL (c * x + y) (k * a + b) := by
  have hc' : c.toInt = k := hc
  have hx' : x.toInt = a := hx
  have hy' : y.toInt = b := hy
  have hm : 0 ≤ k * a := Int.mul_nonneg h1.1 h2.1
  have hm2 : k * a ≤ 100 * 10000000000 := Int.mul_le_mul h1.2 h2.2 h2.1 (by decide)
  have e1 : (c * x).toInt = k * a := by
    rw [Int64.toInt_mul, hc', hx']
    exact Int.bmod_eq_of_le (by omega) (by omega)
  show (c * x + y).toInt = _
  rw [Int64.toInt_add, e1, hy']
  exact Int.bmod_eq_of_le (by omega) (by omega)
theorem rem_ok {x : Int64} {k : Nat} (hx : VL x (k : Int)) (hk : k < 1000000000000) : (x - (x / 8191) * 8191).toInt32 = nI (k % 8191) := by
  have hx' : x.toInt = (k : Int) := hx
  have c8 : (8191 : Int64).toInt = 8191 := by decide
  have hne : (8191 : Int64) ≠ -1 := by decide
  have e1 : (x / 8191).toInt = ((k / 8191 : Nat) : Int) := by
    rw [Int64.toInt_div_of_ne_right _ _ hne, hx', c8]
    rfl
  have hd := Nat.div_add_mod k 8191
  have hm := Nat.mod_lt k (show 0 < 8191 by decide)
  have e2 : (x / 8191 * 8191).toInt = ((8191 * (k / 8191) : Nat) : Int) := by
    rw [Int64.toInt_mul, e1, c8]
    refine (Int.bmod_eq_of_le (by omega) (by omega)).trans (by omega)
  have e3 : (x - x / 8191 * 8191).toInt = ((k % 8191 : Nat) : Int) := by
    rw [Int64.toInt_sub, hx', e2]
    refine (Int.bmod_eq_of_le (by omega) (by omega)).trans (by omega)
  apply Int32.toInt_inj.mp
  rw [Int64.toInt_toInt32, e3, nI_toInt (by omega)]
  exact Int.bmod_eq_of_le (by omega) (by omega)
theorem lg_eq {x y : Int64} (h : (lg_cmp x y).toInt = 0) : x = y := by
  unfold lg_cmp at h
  split at h
  · exact absurd h (by decide)
  · split at h
    · assumption
    · exact absurd h (by decide)
theorem key_inj {li d e f u y r li' d' e' f' u' y' r' : Nat} (h : keyN li d e f u y r = keyN li' d' e' f' u' y' r') (h1 : d < 30 ∧ e < 31 ∧ f < 10 ∧ u < 7 ∧ y < 100 ∧ r < 7) (h2 : d' < 30 ∧ e' < 31 ∧ f' < 10 ∧ u' < 7 ∧ y' < 100 ∧ r' < 7) : li = li' ∧ d = d' ∧ e = e' ∧ f = f' ∧ u = u' ∧ y = y' ∧ r = r' := by
  unfold keyN at h
  have a1 : r = r' := by omega
  have a2 : 100 * (7 * (10 * (31 * (30 * (1 + li) + d) + e) + f) + u) + y = 100 * (7 * (10 * (31 * (30 * (1 + li') + d') + e') + f') + u') + y' := by omega
  have a3 : y = y' := by omega
  have a4 : 7 * (10 * (31 * (30 * (1 + li) + d) + e) + f) + u = 7 * (10 * (31 * (30 * (1 + li') + d') + e') + f') + u' := by omega
  have a5 : u = u' := by omega
  have a6 : 10 * (31 * (30 * (1 + li) + d) + e) + f = 10 * (31 * (30 * (1 + li') + d') + e') + f' := by omega
  have a7 : f = f' := by omega
  have a8 : 31 * (30 * (1 + li) + d) + e = 31 * (30 * (1 + li') + d') + e' := by omega
  have a9 : e = e' := by omega
  have a10 : 30 * (1 + li) + d = 30 * (1 + li') + d' := by omega
  exact ⟨by omega, by omega, a9, a7, a5, a3, a1⟩
theorem FO.v {I : It} {o : Option Int} (h : FO I o) : I 253 14 = iI (o.getD 0) := by
  cases o with
  | none => exact h.2
  | some w => exact h.2
theorem env_bd {d e f u y r : Nat} (h : d < 1000 ∧ e < 1000 ∧ f < 1000 ∧ u < 1000 ∧ y < 1000 ∧ r < 1000) (s : Nat) : bd6 (envN d e f u y r s) := by
  unfold bd6 envN
  (repeat' split) <;> omega
theorem key_b {li d e f u y r : Nat} (h0 : li < 4) (h1 : d < 30 ∧ e < 31 ∧ f < 10 ∧ u < 7 ∧ y < 100 ∧ r < 7) : keyN li d e f u y r < 1000000000 ∧ 1 ≤ keyN li d e f u y r := by
  unfold keyN
  omega
set_option maxRecDepth 20000 in
set_option maxHeartbeats 1000000 in
theorem k_worthOf {G : Gt} {l : Launch} {Z : Zt} {R : Rt} {I : It} {L : Lt} {post : Pt'} {V : Vt} {li d f u y r : Nat} (W : WF Z R) (hM : MI0 V I L) (hli : V 0 2 = li + 1) (hl1 : li < V 0 1) (hl4 : li < 4) (hLK : LOK (V (10 + li)) (V (10 + li) 240)) (hbd : d < 30 ∧ V 2 0 < 31 ∧ f < 10 ∧ u < 7 ∧ y < 100 ∧ r < 7) (h : ∀ I' R' L', FL R I L R' I' L' → MLt (I' 257) → MEm V (L' 269) (I' 270) → post (some (.int (iI (lawG (V (10 + li)) d (V 2 0) f u y r)))) Z R' I' L') : Cx G l mX12_worthOf 33 0 0 [.ref 253, .int (nI d), .int (nI f), .int (nI u), .int (nI y), .int (nI r)] Z R I L post := by
  refine Cx.of (by decide +kernel) (by exact Nat.le_of_ble_eq_true rfl) ?_
  obtain ⟨h1, h2, h3, h4, h5, h6, h7, h8, h9, h10, h11⟩ := hM
  obtain ⟨hb1, hb2, hb3, hb4, hb5, hb6⟩ := id hbd
  have hEB := env_bd (d := d) (e := V 2 0) (f := f) (u := u) (y := y) (r := r) (by omega)
  refine Sx.lconst (v := 1) dX12_worthOf_0 (by decide) ?_
  refine Sx.aload_n dX12_worthOf_1 rfl ?_
  refine Sx.getfV (v := (nI li)) dX12_worthOf_2 lkf_X12_70_12 (o_253 W) (by rw [h1.2.2.2.2.2.1]; exact eZN (by omega)) ?_
  refine Sx.i2l dX12_worthOf_5 ?_
  refine Sx.ladd dX12_worthOf_6 ?_
  obtain ⟨ka, h_ka⟩ : ∃ z : Int64, z = (1 + ((nI li)).toInt64) := ⟨_, rfl⟩
  rw [← h_ka]
  refine Sx.lstore (lv' := [(6, .long ka), (0, .ref 253), (1, .int (nI d)), (2, .int (nI f)), (3, .int (nI u)), (4, .int (nI y)), (5, .int (nI r))]) dX12_worthOf_7 (by decide) rfl ?_
  have v_ka : VL ka ((1 + li : Nat) : Int) := by
    rw [h_ka]
    refine Eq.trans (vL_add (show VL 1 1 from rfl) (vLi (vN (by omega))) (by unfold bd6; omega) (by unfold bd6; omega) ) (by omega)
  refine Sx.ldc2 dX12_worthOf_9 lkk_X12_323 ?_
  refine Sx.lload dX12_worthOf_12 rfl ?_
  refine Sx.lmul dX12_worthOf_14 ?_
  refine Sx.iload_n dX12_worthOf_15 rfl ?_
  refine Sx.i2l dX12_worthOf_16 ?_
  refine Sx.ladd dX12_worthOf_17 ?_
  obtain ⟨kb, h_kb⟩ : ∃ z : Int64, z = ((30 * ka) + ((nI d)).toInt64) := ⟨_, rfl⟩
  rw [← h_kb]
  refine Sx.lstore (lv' := [(6, .long kb), (0, .ref 253), (1, .int (nI d)), (2, .int (nI f)), (3, .int (nI u)), (4, .int (nI y)), (5, .int (nI r))]) dX12_worthOf_18 (by decide) rfl ?_
  have v_kb : VL kb ((30 * (1 + li) + d : Nat) : Int) := by
    rw [h_kb]
    exact Eq.trans (vL_ma (show VL 30 30 from rfl) v_ka (vLi (vN (n := d) (by omega))) (by omega) (by omega) (by omega)) (by omega)
  refine Sx.ldc2 dX12_worthOf_20 lkk_X12_325 ?_
  refine Sx.lload dX12_worthOf_23 rfl ?_
  refine Sx.lmul dX12_worthOf_25 ?_
  refine Sx.aload_n dX12_worthOf_26 rfl ?_
  refine Sx.getfR dX12_worthOf_27 lkf_X12_37_12 (o_253 W) (r_253_18 W) ?_
  refine Sx.iconst (v := (nI 0)) dX12_worthOf_30 (by decide) ?_
  refine Sx.ialdN dX12_worthOf_31 (a_258 W) (by decide) (by decide) (v := (nI (V 2 0))) (h4.1 0 (by decide)) ?_
  refine Sx.i2l dX12_worthOf_32 ?_
  refine Sx.ladd dX12_worthOf_33 ?_
  obtain ⟨kc, h_kc⟩ : ∃ z : Int64, z = ((31 * kb) + ((nI (V 2 0))).toInt64) := ⟨_, rfl⟩
  rw [← h_kc]
  refine Sx.lstore (lv' := [(6, .long kc), (0, .ref 253), (1, .int (nI d)), (2, .int (nI f)), (3, .int (nI u)), (4, .int (nI y)), (5, .int (nI r))]) dX12_worthOf_34 (by decide) rfl ?_
  have v_kc : VL kc ((31 * (30 * (1 + li) + d) + V 2 0 : Nat) : Int) := by
    rw [h_kc]
    exact Eq.trans (vL_ma (show VL 31 31 from rfl) v_kb (vLi (vN (n := V 2 0) (by omega))) (by omega) (by omega) (by omega)) (by omega)
  refine Sx.ldc2 dX12_worthOf_36 lkk_X12_327 ?_
  refine Sx.lload dX12_worthOf_39 rfl ?_
  refine Sx.lmul dX12_worthOf_41 ?_
  refine Sx.iload_n dX12_worthOf_42 rfl ?_
  refine Sx.i2l dX12_worthOf_43 ?_
  refine Sx.ladd dX12_worthOf_44 ?_
  obtain ⟨kd, h_kd⟩ : ∃ z : Int64, z = ((10 * kc) + ((nI f)).toInt64) := ⟨_, rfl⟩
  rw [← h_kd]
  refine Sx.lstore (lv' := [(6, .long kd), (0, .ref 253), (1, .int (nI d)), (2, .int (nI f)), (3, .int (nI u)), (4, .int (nI y)), (5, .int (nI r))]) dX12_worthOf_45 (by decide) rfl ?_
  have v_kd : VL kd ((10 * (31 * (30 * (1 + li) + d) + V 2 0) + f : Nat) : Int) := by
    rw [h_kd]
    exact Eq.trans (vL_ma (show VL 10 10 from rfl) v_kc (vLi (vN (n := f) (by omega))) (by omega) (by omega) (by omega)) (by omega)
  refine Sx.ldc2 dX12_worthOf_47 lkk_X12_329 ?_
  refine Sx.lload dX12_worthOf_50 rfl ?_
  refine Sx.lmul dX12_worthOf_52 ?_
  refine Sx.iload_n dX12_worthOf_53 rfl ?_
  refine Sx.i2l dX12_worthOf_54 ?_
  refine Sx.ladd dX12_worthOf_55 ?_
  obtain ⟨ke, h_ke⟩ : ∃ z : Int64, z = ((7 * kd) + ((nI u)).toInt64) := ⟨_, rfl⟩
  rw [← h_ke]
  refine Sx.lstore (lv' := [(6, .long ke), (0, .ref 253), (1, .int (nI d)), (2, .int (nI f)), (3, .int (nI u)), (4, .int (nI y)), (5, .int (nI r))]) dX12_worthOf_56 (by decide) rfl ?_
  have v_ke : VL ke ((7 * (10 * (31 * (30 * (1 + li) + d) + V 2 0) + f) + u : Nat) : Int) := by
    rw [h_ke]
    exact Eq.trans (vL_ma (show VL 7 7 from rfl) v_kd (vLi (vN (n := u) (by omega))) (by omega) (by omega) (by omega)) (by omega)
  refine Sx.ldc2 dX12_worthOf_58 lkk_X12_331 ?_
  refine Sx.lload dX12_worthOf_61 rfl ?_
  refine Sx.lmul dX12_worthOf_63 ?_
  refine Sx.iload dX12_worthOf_64 rfl ?_
  refine Sx.i2l dX12_worthOf_66 ?_
  refine Sx.ladd dX12_worthOf_67 ?_
  obtain ⟨kf, h_kf⟩ : ∃ z : Int64, z = ((100 * ke) + ((nI y)).toInt64) := ⟨_, rfl⟩
  rw [← h_kf]
  refine Sx.lstore (lv' := [(6, .long kf), (0, .ref 253), (1, .int (nI d)), (2, .int (nI f)), (3, .int (nI u)), (4, .int (nI y)), (5, .int (nI r))]) dX12_worthOf_68 (by decide) rfl ?_
  have v_kf : VL kf ((100 * (7 * (10 * (31 * (30 * (1 + li) + d) + V 2 0) + f) + u) + y : Nat) : Int) := by
    rw [h_kf]
    exact Eq.trans (vL_ma (show VL 100 100 from rfl) v_ke (vLi (vN (n := y) (by omega))) (by omega) (by omega) (by omega)) (by omega)
  refine Sx.ldc2 dX12_worthOf_70 lkk_X12_329 ?_
  refine Sx.lload dX12_worthOf_73 rfl ?_
  refine Sx.lmul dX12_worthOf_75 ?_
  refine Sx.iload dX12_worthOf_76 rfl ?_
  refine Sx.i2l dX12_worthOf_78 ?_
  refine Sx.ladd dX12_worthOf_79 ?_
  obtain ⟨kg, h_kg⟩ : ∃ z : Int64, z = ((7 * kf) + ((nI r)).toInt64) := ⟨_, rfl⟩
  rw [← h_kg]
  refine Sx.lstore (lv' := [(6, .long kg), (0, .ref 253), (1, .int (nI d)), (2, .int (nI f)), (3, .int (nI u)), (4, .int (nI y)), (5, .int (nI r))]) dX12_worthOf_80 (by decide) rfl ?_
  have v_kg : VL kg ((keyN li d (V 2 0) f u y r : Nat) : Int) := by
    rw [h_kg]
    exact Eq.trans (vL_ma (show VL 7 7 from rfl) v_kf (vLi (vN (n := r) (by omega))) (by omega) (by omega) (by omega)) (by unfold keyN; omega)
  have hkb := key_b (e := V 2 0) hl4 hbd
  have hsp := Nat.mod_lt (keyN li d (V 2 0) f u y r) (show 0 < 8191 by decide)
  refine Sx.lload dX12_worthOf_82 rfl ?_
  refine Sx.ldc2 dX12_worthOf_84 lkk_X12_333 ?_
  refine Sx.lrem dX12_worthOf_87 (by decide) ?_
  refine Sx.l2i dX12_worthOf_88 ?_
  refine Sx.top (show _ = nI (keyN li d (V 2 0) f u y r % 8191) from rem_ok v_kg (by omega)) ?_
  refine Sx.istore (lv' := [(8, .int (nI (keyN li d (V 2 0) f u y r % 8191))), (6, .long kg), (0, .ref 253), (1, .int (nI d)), (2, .int (nI f)), (3, .int (nI u)), (4, .int (nI y)), (5, .int (nI r))]) dX12_worthOf_89 (by decide) rfl ?_
  refine Sx.aload_n dX12_worthOf_91 rfl ?_
  refine Sx.getfR dX12_worthOf_92 lkf_X12_77_12 (o_253 W) (r_253_37 W) ?_
  refine Sx.iload dX12_worthOf_95 rfl ?_
  refine Sx.laldN dX12_worthOf_97 (a_269 W) (by omega) (by decide) (v := L 269 (keyN li d (V 2 0) f u y r % 8191)) rfl ?_
  refine Sx.lload dX12_worthOf_98 rfl ?_
  refine Sx.lcmp dX12_worthOf_100 ?_
  refine Sx.if_neV (t := 112) dX12_worthOf_101 (by decide) (vX (lg_cmp (L 269 (keyN li d (V 2 0) f u y r % 8191)) kg)) (fun c101 => ?_) (fun c101 => ?_)
  · refine Sx.aload_n dX12_worthOf_112 rfl ?_
    refine Sx.getfR dX12_worthOf_113 lkf_X12_20_12 (o_253 W) (r_253_4 W) ?_
    refine Sx.bipush (v := (nI 105)) dX12_worthOf_116 (by decide) ?_
    refine Sx.iload_n dX12_worthOf_118 rfl ?_
    refine Sx.iastN dX12_worthOf_119 (a_257 W) (by decide) (by decide) (fun I1 e1 o1 => ?_)
    refine Sx.aload_n dX12_worthOf_120 rfl ?_
    refine Sx.getfR dX12_worthOf_121 lkf_X12_20_12 (o_253 W) (r_253_4 W) ?_
    refine Sx.bipush (v := (nI 100)) dX12_worthOf_124 (by decide) ?_
    refine Sx.aload_n dX12_worthOf_126 rfl ?_
    refine Sx.getfR dX12_worthOf_127 lkf_X12_37_12 (o_253 W) (r_253_18 W) ?_
    refine Sx.iconst (v := (nI 0)) dX12_worthOf_130 (by decide) ?_
    refine Sx.ialdN dX12_worthOf_131 (a_258 W) (by decide) (by decide) (v := (nI (V 2 0))) (by rw [o1 258 (by decide), h4.1 0 (by decide)]) ?_
    refine Sx.iastN dX12_worthOf_132 (a_257 W) (by decide) (by decide) (fun I2 e2 o2 => ?_)
    refine Sx.aload_n dX12_worthOf_133 rfl ?_
    refine Sx.getfR dX12_worthOf_134 lkf_X12_20_12 (o_253 W) (r_253_4 W) ?_
    refine Sx.bipush (v := (nI 102)) dX12_worthOf_137 (by decide) ?_
    refine Sx.iload_n dX12_worthOf_139 rfl ?_
    refine Sx.iastN dX12_worthOf_140 (a_257 W) (by decide) (by decide) (fun I3 e3 o3 => ?_)
    refine Sx.aload_n dX12_worthOf_141 rfl ?_
    refine Sx.getfR dX12_worthOf_142 lkf_X12_20_12 (o_253 W) (r_253_4 W) ?_
    refine Sx.bipush (v := (nI 117)) dX12_worthOf_145 (by decide) ?_
    refine Sx.iload_n dX12_worthOf_147 rfl ?_
    refine Sx.iastN dX12_worthOf_148 (a_257 W) (by decide) (by decide) (fun I4 e4 o4 => ?_)
    refine Sx.aload_n dX12_worthOf_149 rfl ?_
    refine Sx.getfR dX12_worthOf_150 lkf_X12_20_12 (o_253 W) (r_253_4 W) ?_
    refine Sx.bipush (v := (nI 121)) dX12_worthOf_153 (by decide) ?_
    refine Sx.iload dX12_worthOf_155 rfl ?_
    refine Sx.iastN dX12_worthOf_157 (a_257 W) (by decide) (by decide) (fun I5 e5 o5 => ?_)
    refine Sx.aload_n dX12_worthOf_158 rfl ?_
    refine Sx.getfR dX12_worthOf_159 lkf_X12_20_12 (o_253 W) (r_253_4 W) ?_
    refine Sx.bipush (v := (nI 114)) dX12_worthOf_162 (by decide) ?_
    refine Sx.iload dX12_worthOf_164 rfl ?_
    refine Sx.iastN dX12_worthOf_166 (a_257 W) (by decide) (by decide) (fun I6 e6 o6 => ?_)
    refine Sx.aload_n dX12_worthOf_167 rfl ?_
    refine Sx.aload_n dX12_worthOf_168 rfl ?_
    refine Sx.getfR dX12_worthOf_169 lkf_X12_13_12 (o_253 W) (r_253_2 W) ?_
    refine Sx.sipush (v := (nI 240)) dX12_worthOf_172 (by decide) ?_
    refine Sx.aload_n dX12_worthOf_175 rfl ?_
    refine Sx.getfV (v := (nI li)) dX12_worthOf_176 lkf_X12_70_12 (o_253 W) (by rw [o6 253 (by decide), o5 253 (by decide), o4 253 (by decide), o3 253 (by decide), o2 253 (by decide), o1 253 (by decide), h1.2.2.2.2.2.1]; exact eZN (by omega)) ?_
    refine Sx.imulN dX12_worthOf_179 ?_
    refine Sx.aload_n dX12_worthOf_180 rfl ?_
    refine Sx.getfR dX12_worthOf_181 lkf_X12_16_12 (o_253 W) (r_253_3 W) ?_
    refine Sx.aload_n dX12_worthOf_184 rfl ?_
    refine Sx.getfV (v := (nI li)) dX12_worthOf_185 lkf_X12_70_12 (o_253 W) (by rw [o6 253 (by decide), o5 253 (by decide), o4 253 (by decide), o3 253 (by decide), o2 253 (by decide), o1 253 (by decide), h1.2.2.2.2.2.1]; exact eZN (by omega)) ?_
    refine Sx.ialdN dX12_worthOf_188 (a_256 W) (by omega) (by decide) (v := (nI (V (10 + li) 240))) (by rw [o6 256 (by decide), o5 256 (by decide), o4 256 (by decide), o3 256 (by decide), o2 256 (by decide), o1 256 (by decide)]; exact (h3 li hl1).1) ?_
    have hEL : EL I6 (envN d (V 2 0) f u y r) := by
      intro q hq
      have hl := h10 q hq
      rw [e6, e5, e4, e3, e2, e1]
      simp only [upd]
      unfold envN
      by_cases a6 : q = 114
      · subst a6; exact vN (by omega)
      by_cases a5 : q = 121
      · subst a5; exact vN (by omega)
      by_cases a4 : q = 117
      · subst a4; exact vN (by omega)
      by_cases a3 : q = 102
      · subst a3; exact vN (by omega)
      by_cases a2 : q = 100
      · subst a2; exact vN (by omega)
      by_cases a1 : q = 105
      · subst a1; exact vN (by omega)
      rw [if_neg a6, if_neg a5, if_neg a4, if_neg a3, if_neg a2, if_neg a1, if_neg a1, if_neg a2, if_neg a3, if_neg a4, if_neg a5, if_neg a6, hl.1 (by unfold ltr; omega)]
      exact vN (by decide)
    have hMX : MX I6 255 (240 * li) (V (10 + li) 240) (V (10 + li)) := ⟨hLK.1, fun j hj => by rw [o6 255 (by decide), o5 255 (by decide), o4 255 (by decide), o3 255 (by decide), o2 255 (by decide), o1 255 (by decide)]; exact (h3 li hl1).2 j hj, hLK.2.1, Or.inr ⟨rfl, by omega⟩⟩
    have hML : MLt (I6 257) := by
      intro q hq
      have hl := h10 q hq
      rw [e6, e5, e4, e3, e2, e1]
      simp only [upd]
      refine ⟨fun hn => ?_, ?_⟩
      · unfold ltr at hn
        rw [if_neg (by omega), if_neg (by omega), if_neg (by omega), if_neg (by omega), if_neg (by omega), if_neg (by omega)]
        exact hl.1 hn
      · (repeat' split) <;> first | exact ⟨_, by omega, rfl⟩ | exact hl.2
    have hFR : ∀ q, q ≠ 257 → I6 q = I q := fun q hq => by rw [o6 q hq, o5 q hq, o4 q hq, o3 q hq, o2 q hq, o1 q hq]
    refine Sx.callV3 dX12_worthOf_189 lkv_X12_290 (rcv_12 (o_253 W)) (by decide) (by decide) (Nat.le_of_ble_eq_true rfl) rfl rfl (k_goThrough (e := envN d (V 2 0) f u y r) W hEB hEL hMX rfl (fun x _ _ _ _ _ => absurd (hLK.2.2 (envN d (V 2 0) f u y r)) (by rw [x]; decide)) (fun x7 I7 R7 hR7 hF7 f7 hO7 => ?_))
    have W := W.tx (some 255)
    rw [← hR7] at W
    have hv14 : I7 253 14 = iI (lawG (V (10 + li)) d (V 2 0) f u y r) := hO7.v
    refine Sx.aload_n dX12_worthOf_192 rfl ?_
    refine Sx.getfR dX12_worthOf_193 lkf_X12_77_12 (o_253 W) (r_253_37 W) ?_
    refine Sx.iload dX12_worthOf_196 rfl ?_
    refine Sx.lload dX12_worthOf_198 rfl ?_
    refine Sx.lastN dX12_worthOf_200 (a_269 W) (by omega) (by decide) (fun L8 eL8 oL8 => ?_)
    refine Sx.aload_n dX12_worthOf_201 rfl ?_
    refine Sx.getfR dX12_worthOf_202 lkf_X12_81_12 (o_253 W) (r_253_38 W) ?_
    refine Sx.iload dX12_worthOf_205 rfl ?_
    refine Sx.aload_n dX12_worthOf_207 rfl ?_
    refine Sx.getfV (v := (iI (lawG (V (10 + li)) d (V 2 0) f u y r))) dX12_worthOf_208 lkf_X12_217_12 (o_253 W) hv14 ?_
    refine Sx.iastN dX12_worthOf_211 (a_270 W) (by omega) (by decide) (fun I9 e9 o9 => ?_)
    refine Sx.aload_n dX12_worthOf_212 rfl ?_
    refine Sx.getfV (v := (iI (lawG (V (10 + li)) d (V 2 0) f u y r))) dX12_worthOf_213 lkf_X12_217_12 (o_253 W) (by rw [o9 253 (by decide), hv14]) ?_
    refine Sx.iret dX12_worthOf_216 rfl rfl ?_
    refine h I9 R7 L8 ⟨fun q hq => ?_, fun j hj => ?_, fun q hq => oL8 q hq, fun a j hj => ?_⟩ ?_ ?_
    · rw [o9 q hq.2.2, hF7.1 q hq.1, hFR q hq.2.1]
    · rw [o9 253 (by decide), hF7.2 j hj, hFR 253 (by decide)]
    · rw [hR7]; unfold up2R va_up; split
      · next e => show (if j = 5 then _ else R 253 j) = R a j; rw [if_neg (fun q => hj ⟨e, q⟩), e]
      · rfl
    · rw [o9 257 (by decide), hF7.1 257 (by decide)]; exact hML
    · intro s0 hs0
      rw [eL8, e9]
      by_cases e : s0 = keyN li d (V 2 0) f u y r % 8191
      · refine Or.inr ⟨li, d, V 2 0, f, u, y, r, hl1, hbd.1, hbd.2.1, hbd.2.2.1, hbd.2.2.2.1, hbd.2.2.2.2.1, hbd.2.2.2.2.2, ?_, ?_⟩
        · rw [e]; simp only [vp_updL]; exact v_kg
        · rw [e, upd_at]
      · rw [upd_nj _ _ e, hF7.1 270 (by decide), hFR 270 (by decide)]
        have q := h11 s0 hs0
        simp only [vp_updL]
        rw [if_neg e]
        exact q
  · have hke := lg_eq c101
    have hmw : I 270 (keyN li d (V 2 0) f u y r % 8191) = iI (lawG (V (10 + li)) d (V 2 0) f u y r) := by
      rcases h11 _ hsp with q | ⟨li', d', e', g', u', y', r', b1, b2, b3, b4, b5, b6, b7, b8, b9⟩
      · exfalso
        rw [q] at hke
        have q2 : VL (0 : Int64) ((keyN li d (V 2 0) f u y r : Nat) : Int) := hke ▸ v_kg
        have q3 : (0 : Int) = ((keyN li d (V 2 0) f u y r : Nat) : Int) := q2
        omega
      · rw [hke] at b8
        have q2 : ((keyN li d (V 2 0) f u y r : Nat) : Int) = ((keyN li' d' e' g' u' y' r' : Nat) : Int) := Eq.trans (Eq.symm v_kg) b8
        obtain ⟨z1, z2, z3, z4, z5, z6, z7⟩ := key_inj (Int.ofNat.inj q2) hbd ⟨b2, b3, b4, b5, b6, b7⟩
        rw [b9, z1, z2, z3, z4, z5, z6, z7]
    refine Sx.aload_n dX12_worthOf_104 rfl ?_
    refine Sx.getfR dX12_worthOf_105 lkf_X12_81_12 (o_253 W) (r_253_38 W) ?_
    refine Sx.iload dX12_worthOf_108 rfl ?_
    refine Sx.ialdN dX12_worthOf_110 (a_270 W) (by omega) (by decide) (v := (iI (lawG (V (10 + li)) d (V 2 0) f u y r))) hmw ?_
    refine Sx.iret dX12_worthOf_111 rfl rfl ?_
    exact h I R L (FL.rf R I L) h10 h11
