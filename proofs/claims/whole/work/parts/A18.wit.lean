/-! the class: treasuries by habits -/
/-- the frame of the one who follows treasuries -/
def OW (I I' : It) : Prop := ∀ q, q ≠ 116 → q ≠ 118 → q ≠ 138 → q ≠ 146 → I' q = I q
theorem OW.rf (I : It) : OW I I := fun _ _ _ _ _ => rfl
theorem OW.tr {I J K : It} (h : OW I J) (g : OW J K) : OW I K := fun q a b c d => (g q a b c d).trans (h q a b c d)
theorem OW.ci {V : Vt} {R : Rt} {I I' : It} {L : Lt} (h : OW I I') (C : CI V R I L) (hb : V 0 1 ≤ 4 ∧ V 0 3 ≤ 4) : CI V R I' L := C.sc hb (fun q hq => h q (fun z => hq (by unfold csc; omega)) (fun z => hq (by unfold csc; omega)) (fun z => hq (by unfold csc; omega)) (fun z => hq (by unfold csc; omega)))
theorem OW.cf {R : Rt} {I I' : It} {L : Lt} (h : OW I I') : CF R I L R I' L := CF.i fun q hq => h q (by omega) (by omega) (by omega) (by omega)
def btN (f : Nat → Bool) : Nat → Nat
  | 0 => 0
  | j + 1 => btN f j ||| (if f j = true then 2 ^ j else 0)
theorem btN_lt (f : Nat → Bool) : ∀ j, btN f j < 2 ^ j
  | 0 => by simp [btN]
  | j + 1 => by
    have h1 := btN_lt f j
    rw [btN, Nat.pow_succ]
    split
    · refine Nat.lt_of_lt_of_eq (Nat.or_lt_two_pow (n := j + 1) (by rw [Nat.pow_succ]; omega) (Nat.pow_lt_pow_right (by decide) (by omega))) (Nat.pow_succ ..)
    · rw [Nat.or_zero]; omega
set_option maxRecDepth 20000 in
set_option maxHeartbeats 1000000 in
theorem d_trOf {G : Gt} {l : Launch} {Z : Zt} {R : Rt} {I : It} {L : Lt} {post : Pt'} {k n t : Nat} (W : WF Z R) (hk : k < 6) (hn : n ≤ 60) (hT : I 146 (k * 61 + n) = nI t) (h : post (some (.int (nI t))) Z R I L) : Cx G l mX10_treasuryOf 2 0 0 [.ref 136, .int (nI k), .int (nI n)] Z R I L post := by
  refine Cx.of (by decide +kernel) (by exact Nat.le_of_ble_eq_true rfl) ?_
  refine Sx.aload_n dX10_treasuryOf_0 rfl ?_
  refine Sx.getfR dX10_treasuryOf_1 lkf_X10_33_10 (o_136 W) (r_136_6 W) ?_
  refine Sx.iload_n dX10_treasuryOf_4 rfl ?_
  refine Sx.bipush (v := (nI 61)) dX10_treasuryOf_5 (by decide) ?_
  refine Sx.imulN dX10_treasuryOf_7 ?_
  refine Sx.iload_n dX10_treasuryOf_8 rfl ?_
  refine Sx.iaddN dX10_treasuryOf_9 ?_
  refine Sx.callV1 dX10_treasuryOf_10 lkv_X10_52 (rcv_7 (o_145 W)) (by decide) (by decide) (Nat.le_of_ble_eq_true rfl) rfl rfl (d_rget (w_145r W) (by unfold rowC; decide) (by decide) (k := k * 61 + n) (v := nI t) (by omega) hT ?_)
  refine Sx.iret dX10_treasuryOf_13 rfl rfl ?_
  exact h
set_option maxRecDepth 20000 in
set_option maxHeartbeats 1000000 in
theorem l_cft {G : Gt} {l : Launch} {Z : Zt} {R : Rt} {I : It} {L : Lt} {post : Pt'} {V : Vt} {p k : Nat} (W : WF Z R) (C : CI V R I L) (hH : HV V) (hK : PK (V 2)) (hs : SI V) (hp : p < V 2 35) (hk : k < V 2 34) (hT : ∀ i, i < V 0 7 → I 146 (k * 61 + V 6 i) = nI (crC V p k (V 6 i))) (h : post (some (.int (b2i (fitB V p k)))) Z R I L) :
    ∀ (r i : Nat), i ≤ V 0 7 → V 0 7 < i + r → fitJ V p k i = true → Sx G l mX10_fits 3 0 0 2 [(2, .int (nI i)), (1, .int (nI k)), (0, .ref 136)] [] Z R I L post := by
  obtain ⟨p1, p2, p3, p4, p5, p6, p7, p8, p9⟩ := id hH.2.2.2.1
  have hs1 := hs.1
  intro r
  induction r with
  | zero => intro i h1 h2; omega
  | succ r ih =>
    intro i h1 h2 hj
    refine Sx.iload_n dX10_fits_2 rfl ?_
    refine Sx.aload_n dX10_fits_3 rfl ?_
    refine Sx.getfV (v := (nI (V 0 7))) dX10_fits_4 lkf_X10_36_10 (o_136 W) C.2.2.2.2.2.2.2.2.2.2.1 ?_
    refine Sx.icmp_geV (t := 69) dX10_fits_7 (by decide) (vN (by omega)) (vN (by omega)) (fun c7 => ?_) (fun c7 => ?_)
    · refine Sx.iconst (v := (nI 1)) dX10_fits_69 (by decide) ?_
      refine Sx.top (show _ = b2i true from rfl) ?_
      refine Sx.iret dX10_fits_70 rfl (b2i_n _) ?_
      have hz : i = V 0 7 := by omega
      subst hz
      exact pBB hj h
    · obtain ⟨s1, s2, s3, s4⟩ := hs.2 i (by omega)
      have hcl := crC_le hH hK (p := p) (k := k) (n := V 6 i) (by omega) hk (by omega)
      refine Sx.aload_n dX10_fits_10 rfl ?_
      refine Sx.iload_n dX10_fits_11 rfl ?_
      refine Sx.aload_n dX10_fits_12 rfl ?_
      refine Sx.getfR dX10_fits_13 lkf_X10_23_10 (o_136 W) (r_136_3 W) ?_
      refine Sx.iload_n dX10_fits_16 rfl ?_
      refine Sx.callV1 dX10_fits_17 lkv_X10_52 (rcv_7 (o_139 W)) (by decide) (by decide) (Nat.le_of_ble_eq_true rfl) rfl rfl (d_rget (w_139r W) (by unfold rowC; decide) (by decide) (k := i) (v := nI (V 6 i)) (by omega) (C.2.2.2.2.2.2.2.2.2.2.2 i (by omega)).1 ?_)
      refine Sx.callV2 dX10_fits_20 lkv_X10_72 (rcv_10 (o_136 W)) (by decide) (by decide) (Nat.le_of_ble_eq_true rfl) rfl rfl (d_trOf W (by omega) (by omega) (hT i (by omega)) ?_)
      refine Sx.aload_n dX10_fits_23 rfl ?_
      refine Sx.getfR dX10_fits_24 lkf_X10_27_10 (o_136 W) (r_136_4 W) ?_
      refine Sx.iload_n dX10_fits_27 rfl ?_
      refine Sx.callV1 dX10_fits_28 lkv_X10_52 (rcv_7 (o_141 W)) (by decide) (by decide) (Nat.le_of_ble_eq_true rfl) rfl rfl (d_rget (w_141r W) (by unfold rowC; decide) (by decide) (k := i) (v := nI (V 7 i)) (by omega) (C.2.2.2.2.2.2.2.2.2.2.2 i (by omega)).2.1 ?_)
      refine Sx.icmp_ltV (t := 38) dX10_fits_31 (by decide) (vN (by omega)) (vN (by omega)) (fun c31 => ?_) (fun c31 => ?_)
      · refine Sx.iconst (v := (nI 0)) dX10_fits_38 (by decide) ?_
        refine Sx.istore_n (lv' := [(3, .int (nI 0)), (2, .int (nI i)), (1, .int (nI k)), (0, .ref 136)]) dX10_fits_39 (by decide) rfl ?_
        refine Sx.iload_n dX10_fits_40 rfl ?_
        refine Sx.aload_n dX10_fits_41 rfl ?_
        refine Sx.getfR dX10_fits_42 lkf_X10_30_10 (o_136 W) (r_136_5 W) ?_
        refine Sx.iload_n dX10_fits_45 rfl ?_
        refine Sx.callV1 dX10_fits_46 lkv_X10_52 (rcv_7 (o_143 W)) (by decide) (by decide) (Nat.le_of_ble_eq_true rfl) rfl rfl (d_rget (w_143r W) (by unfold rowC; decide) (by decide) (k := i) (v := nI (V 8 i)) (by omega) (C.2.2.2.2.2.2.2.2.2.2.2 i (by omega)).2.2 ?_)
        refine Sx.iconst (v := (nI 1)) dX10_fits_49 (by decide) ?_
        refine Sx.icmp_neV (t := 57) dX10_fits_50 (by decide) (vN (by omega)) (vN (by decide)) (fun c50 => ?_) (fun c50 => ?_)
        · refine Sx.iconst (v := (nI 0)) dX10_fits_57 (by decide) ?_
          refine Sx.icmp_eqV (t := 63) dX10_fits_58 (by decide) (vN (by decide)) (vN (by decide)) (fun c58 => ?_) (fun c58 => False.elim (by omega))
          refine Sx.iinc (v := (nI (i + 1))) (lv' := [(2, .int (nI (i + 1))), (3, .int (nI 0)), (1, .int (nI k)), (0, .ref 136)]) dX10_fits_63 rfl (nI_add i 1) (by decide) rfl ?_
          refine Sx.goto (t := 2) dX10_fits_66 (by decide) ?_
          refine Sx.sub' [(2, .int (nI (i + 1))), (1, .int (nI k)), (0, .ref 136)] rfl ?_
          exact ih (i + 1) (by omega) (by omega) (fitJ_y hj (by omega))
        · refine Sx.iconst (v := (nI 1)) dX10_fits_53 (by decide) ?_
          refine Sx.goto (t := 58) dX10_fits_54 (by decide) ?_
          refine Sx.icmp_eqV (t := 63) dX10_fits_58 (by decide) (vN (by decide)) (vN (by decide)) (fun c58 => False.elim (by omega)) (fun c58 => ?_)
          refine Sx.iconst (v := (nI 0)) dX10_fits_61 (by decide) ?_
          refine Sx.top (show _ = b2i false from rfl) ?_
          refine Sx.iret dX10_fits_62 rfl (b2i_n _) ?_
          have hz : fitB V p k = false := decide_eq_false (fun z => by have := z i (by omega); omega)
          exact pBB hz h
      · refine Sx.iconst (v := (nI 1)) dX10_fits_34 (by decide) ?_
        refine Sx.goto (t := 39) dX10_fits_35 (by decide) ?_
        refine Sx.istore_n (lv' := [(3, .int (nI 1)), (2, .int (nI i)), (1, .int (nI k)), (0, .ref 136)]) dX10_fits_39 (by decide) rfl ?_
        refine Sx.iload_n dX10_fits_40 rfl ?_
        refine Sx.aload_n dX10_fits_41 rfl ?_
        refine Sx.getfR dX10_fits_42 lkf_X10_30_10 (o_136 W) (r_136_5 W) ?_
        refine Sx.iload_n dX10_fits_45 rfl ?_
        refine Sx.callV1 dX10_fits_46 lkv_X10_52 (rcv_7 (o_143 W)) (by decide) (by decide) (Nat.le_of_ble_eq_true rfl) rfl rfl (d_rget (w_143r W) (by unfold rowC; decide) (by decide) (k := i) (v := nI (V 8 i)) (by omega) (C.2.2.2.2.2.2.2.2.2.2.2 i (by omega)).2.2 ?_)
        refine Sx.iconst (v := (nI 1)) dX10_fits_49 (by decide) ?_
        refine Sx.icmp_neV (t := 57) dX10_fits_50 (by decide) (vN (by omega)) (vN (by decide)) (fun c50 => ?_) (fun c50 => ?_)
        · refine Sx.iconst (v := (nI 0)) dX10_fits_57 (by decide) ?_
          refine Sx.icmp_eqV (t := 63) dX10_fits_58 (by decide) (vN (by decide)) (vN (by decide)) (fun c58 => False.elim (by omega)) (fun c58 => ?_)
          refine Sx.iconst (v := (nI 0)) dX10_fits_61 (by decide) ?_
          refine Sx.top (show _ = b2i false from rfl) ?_
          refine Sx.iret dX10_fits_62 rfl (b2i_n _) ?_
          have hz : fitB V p k = false := decide_eq_false (fun z => by have := z i (by omega); omega)
          exact pBB hz h
        · refine Sx.iconst (v := (nI 1)) dX10_fits_53 (by decide) ?_
          refine Sx.goto (t := 58) dX10_fits_54 (by decide) ?_
          refine Sx.icmp_eqV (t := 63) dX10_fits_58 (by decide) (vN (by decide)) (vN (by decide)) (fun c58 => ?_) (fun c58 => False.elim (by omega))
          refine Sx.iinc (v := (nI (i + 1))) (lv' := [(2, .int (nI (i + 1))), (3, .int (nI 1)), (1, .int (nI k)), (0, .ref 136)]) dX10_fits_63 rfl (nI_add i 1) (by decide) rfl ?_
          refine Sx.goto (t := 2) dX10_fits_66 (by decide) ?_
          refine Sx.sub' [(2, .int (nI (i + 1))), (1, .int (nI k)), (0, .ref 136)] rfl ?_
          exact ih (i + 1) (by omega) (by omega) (fitJ_y hj (by omega))
set_option maxRecDepth 20000 in
set_option maxHeartbeats 1000000 in
theorem d_fits {G : Gt} {l : Launch} {Z : Zt} {R : Rt} {I : It} {L : Lt} {post : Pt'} {V : Vt} {p k : Nat} (W : WF Z R) (C : CI V R I L) (hH : HV V) (hK : PK (V 2)) (hs : SI V) (hp : p < V 2 35) (hk : k < V 2 34) (hT : ∀ i, i < V 0 7 → I 146 (k * 61 + V 6 i) = nI (crC V p k (V 6 i))) (h : post (some (.int (b2i (fitB V p k)))) Z R I L) : Cx G l mX10_fits 3 0 0 [.ref 136, .int (nI k)] Z R I L post := by
  refine Cx.of (by decide +kernel) (by exact Nat.le_of_ble_eq_true rfl) ?_
  refine Sx.iconst (v := (nI 0)) dX10_fits_0 (by decide) ?_
  refine Sx.istore_n (lv' := [(2, .int (nI 0)), (0, .ref 136), (1, .int (nI k))]) dX10_fits_1 (by decide) rfl ?_
  refine Sx.sub' [(2, .int (nI 0)), (1, .int (nI k)), (0, .ref 136)] rfl ?_
  exact l_cft W C hH hK hs hp hk hT h (V 0 7 + 1) 0 (by omega) (by omega) (decide_eq_true (fun i hi => by omega))
set_option maxRecDepth 20000 in
set_option maxHeartbeats 1000000 in
theorem l_cfa1 {G : Gt} {l : Launch} {Z : Zt} {R : Rt} {L : Lt} {post : Pt'} {V : Vt} {I0 : It} {p k bt ls : Nat} {f6 : Nat → Int32} (W : WF Z R) (hb : V 0 1 ≤ 4 ∧ V 0 3 ≤ 4) (hH : HV V) (hK : PK (V 2)) (hs : SI V) (hp : p < V 2 35) (hk : k < V 2 34) (hls : ls ≤ 60) (h : ∀ I', CI V R I' L → OW I0 I' → (∀ z, 1 ≤ z → z ≤ ls → I' 146 (k * 61 + z) = nI (crC V p k z)) → (∀ z, z < k * 61 + 1 → I' 146 z = f6 z) → Sx G l mX10_followAll 7 0 0 91 [(4, .int (nI k)), (3, .int (nI bt)), (2, .int (nI ls)), (1, .int (nI p)), (0, .ref 136)] [] Z R I' L post) :
    ∀ (r n : Nat), 1 ≤ n → n ≤ ls + 1 → ls + 1 < n + r → ∀ (I : It), CI V R I L → OW I0 I → rs (I 138) (crF V p k (n - 1)) → (∀ z, 1 ≤ z → z < n → I 146 (k * 61 + z) = nI (crC V p k z)) → (∀ z, z < k * 61 + 1 → I 146 z = f6 z) → Sx G l mX10_followAll 7 0 0 43 [(5, .int (nI n)), (4, .int (nI k)), (3, .int (nI bt)), (2, .int (nI ls)), (1, .int (nI p)), (0, .ref 136)] [] Z R I L post := by
  obtain ⟨p1, p2, p3, p4, p5, p6, p7, p8, p9⟩ := id hH.2.2.2.1
  intro r
  induction r with
  | zero => intro n h1 h2; omega
  | succ r ih =>
    intro n hn1 h1 h2 I C hf hs2 hT hZ
    refine Sx.iload dX10_followAll_43 rfl ?_
    refine Sx.iload_n dX10_followAll_45 rfl ?_
    refine Sx.icmp_gtV (t := 91) dX10_followAll_46 (by decide) (vN (by omega)) (vN (by omega)) (fun c46 => ?_) (fun c46 => ?_)
    · refine Sx.sub' [(4, .int (nI k)), (3, .int (nI bt)), (2, .int (nI ls)), (1, .int (nI p)), (0, .ref 136)] rfl ?_
      exact h I C hf (fun z z1 z2 => hT z z1 (by omega)) hZ
    · obtain ⟨hS, hy⟩ := crF_ok hH hK (p := p) (k := k) (by omega) hk (n - 1) (by omega)
      have hcl := crC_le hH hK (p := p) (k := k) (n := n) (by omega) hk (by omega)
      refine Sx.aload_n dX10_followAll_49 rfl ?_
      refine Sx.getfR dX10_followAll_50 lkf_X10_44_10 (o_136 W) (r_136_1 W) ?_
      refine Sx.aload_n dX10_followAll_53 rfl ?_
      refine Sx.getfR dX10_followAll_54 lkf_X10_12_10 (o_136 W) (r_136_2 W) ?_
      refine Sx.callV1 dX10_followAll_57 lkv_X10_86 (rcv_1 (o_114 W)) (by decide) (by decide) (Nat.le_of_ble_eq_true rfl) rfl rfl (c_pass W C.2.1 hH.2.2.2.1 (w_137r W) hs2 (by decide) (C.lw ⟨hH.1.1, hH.1.2.1⟩) hS (by omega) (fun I1 r1 o1 => ?_))
      have r1 : rs (I1 138) (crF V p k n) := by rw [show n = n - 1 + 1 by omega, crF_s]; exact r1
      have ho1 : OW I I1 := fun q q1 q2 q3 _ => o1 q q1 q2 q3
      refine Sx.aload_n dX10_followAll_60 rfl ?_
      refine Sx.getfR dX10_followAll_61 lkf_X10_33_10 (o_136 W) (r_136_6 W) ?_
      refine Sx.iload dX10_followAll_64 rfl ?_
      refine Sx.bipush (v := (nI 61)) dX10_followAll_66 (by decide) ?_
      refine Sx.imulN dX10_followAll_68 ?_
      refine Sx.iload dX10_followAll_69 rfl ?_
      refine Sx.iaddN dX10_followAll_71 ?_
      refine Sx.aload_n dX10_followAll_72 rfl ?_
      refine Sx.getfR dX10_followAll_73 lkf_X10_12_10 (o_136 W) (r_136_2 W) ?_
      refine Sx.sipush (v := (nI 142)) dX10_followAll_76 (by decide) ?_
      refine Sx.callU1 dX10_followAll_79 lku_X10_92 (rcv_8 (o_137 W)) (by decide) (by decide) (Nat.le_of_ble_eq_true rfl) rfl rfl (c_sg (w_137r W) r1 142 rfl (by decide) (by decide) ?_)
      refine Sx.callV2 dX10_followAll_82 lkv_X10_48 (rcv_7 (o_145 W)) (by decide) (by decide) (Nat.le_of_ble_eq_true rfl) rfl rfl (d_rset (w_145r W) (by unfold rowC; decide) (by decide) (k := k * 61 + n) (by omega) (fun I2 e2 o2 => ?_))
      refine Sx.iinc (v := (nI (n + 1))) (lv' := [(5, .int (nI (n + 1))), (4, .int (nI k)), (3, .int (nI bt)), (2, .int (nI ls)), (1, .int (nI p)), (0, .ref 136)]) dX10_followAll_85 rfl (nI_add n 1) (by decide) rfl ?_
      refine Sx.goto (t := 43) dX10_followAll_88 (by decide) ?_
      refine Sx.sub' [(5, .int (nI (n + 1))), (4, .int (nI k)), (3, .int (nI bt)), (2, .int (nI ls)), (1, .int (nI p)), (0, .ref 136)] rfl ?_
      have ho : OW I I2 := fun q q1 q2 q3 q4 => by rw [o2 q q4, ho1 q q1 q2 q3 q4]
      refine ih (n + 1) (by omega) (by omega) (by omega) I2 (ho.ci C hb) (hf.tr ho) (by rw [Nat.add_sub_cancel, o2 138 (by decide)]; exact r1) (fun z z1 z2 => ?_) (fun z hz => ?_)
      · rw [e2]
        by_cases q : z = n
        · rw [q, upd_at]; rfl
        · rw [upd_nj _ _ (by omega), o1 146 (by decide) (by decide) (by decide)]; exact hT z z1 (by omega)
      · rw [e2, upd_nj _ _ (by omega), o1 146 (by decide) (by decide) (by decide)]; exact hZ z hz
set_option maxRecDepth 20000 in
set_option maxHeartbeats 1000000 in
theorem l_cfa2 {G : Gt} {l : Launch} {Z : Zt} {R : Rt} {L : Lt} {post : Pt'} {V : Vt} {I0 : It} {p ls : Nat} (W : WF Z R) (hb : V 0 1 ≤ 4 ∧ V 0 3 ≤ 4) (hH : HV V) (hK : PK (V 2)) (hs : SI V) (hp : p < V 2 35) (hls : ls ≤ 60) (hV6 : ∀ i, i < V 0 7 → V 6 i ≤ ls) (h : ∀ I', CI V R I' L → OW I0 I' → (∀ k z, k < V 2 34 → 1 ≤ z → z ≤ ls → I' 146 (k * 61 + z) = nI (crC V p k z)) → post (some (.int (nI (btN (fitB V p) (V 2 34))))) Z R I' L) :
    ∀ (r k : Nat), k ≤ V 2 34 → V 2 34 < k + r → ∀ (I : It), CI V R I L → OW I0 I → (∀ k' z, k' < k → 1 ≤ z → z ≤ ls → I 146 (k' * 61 + z) = nI (crC V p k' z)) → ∀ bt, bt = btN (fitB V p) k → Sx G l mX10_followAll 7 0 0 5 [(4, .int (nI k)), (3, .int (nI bt)), (2, .int (nI ls)), (1, .int (nI p)), (0, .ref 136)] [] Z R I L post := by
  obtain ⟨p1, p2, p3, p4, p5, p6, p7, p8, p9⟩ := id hH.2.2.2.1
  intro r
  induction r with
  | zero => intro k h1 h2; omega
  | succ r ih =>
    intro k h1 h2 I C hf hT bt hbt
    refine Sx.iload dX10_followAll_5 rfl ?_
    refine Sx.aload_n dX10_followAll_7 rfl ?_
    refine Sx.getfR dX10_followAll_8 lkf_X10_40_10 (o_136 W) (r_136_0 W) ?_
    refine Sx.callV0 dX10_followAll_11 lkv_X10_75 (rcv_6 (o_103 W)) (by decide) (by decide) (Nat.le_of_ble_eq_true rfl) rfl rfl (c_kinds (w_103r W) C.2.1 ?_)
    refine Sx.icmp_geV (t := 117) dX10_followAll_14 (by decide) (vN (by omega)) (vN (by omega)) (fun c14 => ?_) (fun c14 => ?_)
    · refine Sx.iload_n dX10_followAll_117 rfl ?_
      refine Sx.iret dX10_followAll_118 rfl rfl ?_
      have hj : k = V 2 34 := by omega
      subst hj
      subst hbt
      exact h I C hf hT
    · have hk : k < V 2 34 := by omega
      have hbl : bt < 2 ^ 6 := by rw [hbt]; exact Nat.lt_of_lt_of_le (btN_lt _ k) (Nat.pow_le_pow_right (by decide) (by omega))
      refine Sx.aload_n dX10_followAll_17 rfl ?_
      refine Sx.getfR dX10_followAll_18 lkf_X10_12_10 (o_136 W) (r_136_2 W) ?_
      refine Sx.aload_n dX10_followAll_21 rfl ?_
      refine Sx.getfR dX10_followAll_22 lkf_X10_40_10 (o_136 W) (r_136_0 W) ?_
      refine Sx.callV1 dX10_followAll_25 lkv_X10_81 (rcv_8 (o_137 W)) (by decide) (by decide) (Nat.le_of_ble_eq_true rfl) rfl rfl (c_X8_begin (w_137r W) (w_103r W) (by decide) (fun j hj => (p9 j hj).2.2.2.2) C.2.1 (fun I1 r1 o1 => ?_))
      refine Sx.aload_n dX10_followAll_28 rfl ?_
      refine Sx.getfR dX10_followAll_29 lkf_X10_12_10 (o_136 W) (r_136_2 W) ?_
      refine Sx.iconst (v := (nI 0)) dX10_followAll_32 (by decide) ?_
      refine Sx.iload_n dX10_followAll_33 rfl ?_
      refine Sx.iaddN dX10_followAll_34 ?_
      refine Sx.iload dX10_followAll_35 rfl ?_
      refine Sx.callU2 dX10_followAll_37 lku_X10_85 (rcv_8 (o_137 W)) (by decide) (by decide) (Nat.le_of_ble_eq_true rfl) rfl rfl (c_ss (w_137r W) r1 p k (by rw [Nat.zero_add]) (by omega) (sv_n (by omega)).symm (fun I2 r2 o2 => ?_))
      have hE : ∀ q, q ≠ 116 → q ≠ 118 → q ≠ 138 → I2 q = I q := fun q _ _ q3 => by rw [o2 q q3, o1 q q3]
      have ho2 : OW I I2 := fun q q1 q2 q3 _ => hE q q1 q2 q3
      refine Sx.iconst (v := (nI 1)) dX10_followAll_40 (by decide) ?_
      refine Sx.istore (lv' := [(5, .int (nI 1)), (4, .int (nI k)), (3, .int (nI bt)), (2, .int (nI ls)), (1, .int (nI p)), (0, .ref 136)]) dX10_followAll_41 (by decide) rfl ?_
      refine Sx.sub' [(5, .int (nI 1)), (4, .int (nI k)), (3, .int (nI bt)), (2, .int (nI ls)), (1, .int (nI p)), (0, .ref 136)] rfl ?_
      refine l_cfa1 (I0 := I0) (f6 := I2 146) W hb hH hK hs hp hk hls (fun J CJ hfJ hTJ hZJ => ?_) (ls + 2) 1 (by omega) (by omega) (by omega) I2 (ho2.ci C hb) (hf.tr ho2) r2 (fun z z1 z2 => by omega) (fun z hz => rfl)
      refine Sx.iload_n dX10_followAll_91 rfl ?_
      refine Sx.aload_n dX10_followAll_92 rfl ?_
      refine Sx.iload dX10_followAll_93 rfl ?_
      refine Sx.callV1 dX10_followAll_95 lkv_X10_93 (rcv_10 (o_136 W)) (by decide) (by decide) (Nat.le_of_ble_eq_true rfl) rfl rfl (d_fits W CJ hH hK hs hp hk (fun i hi => hTJ _ (hs.2 i hi).1 (hV6 i hi)) ?_)
      refine Sx.if_eqB (t := 108) dX10_followAll_98 (by decide) (fun c98 => ?_) (fun c98 => ?_)
      · refine Sx.iconst (v := (nI 0)) dX10_followAll_108 (by decide) ?_
        refine Sx.iorN dX10_followAll_109 ?_
        refine Sx.istore_n (lv' := [(3, .int (nI (bt ||| 0))), (4, .int (nI k)), (2, .int (nI ls)), (1, .int (nI p)), (0, .ref 136)]) dX10_followAll_110 (by decide) rfl ?_
        refine Sx.iinc (v := (nI (k + 1))) (lv' := [(4, .int (nI (k + 1))), (3, .int (nI (bt ||| 0))), (2, .int (nI ls)), (1, .int (nI p)), (0, .ref 136)]) dX10_followAll_111 rfl (nI_add k 1) (by decide) rfl ?_
        refine Sx.goto (t := 5) dX10_followAll_114 (by decide) ?_
        refine Sx.sub' [(4, .int (nI (k + 1))), (3, .int (nI (bt ||| 0))), (2, .int (nI ls)), (1, .int (nI p)), (0, .ref 136)] rfl ?_
        exact ih (k + 1) (by omega) (by omega) J CJ hfJ (fun k' z hk' z1 z2 => by
          by_cases q : k' = k
          · rw [q]; exact hTJ z z1 z2
          · rw [hZJ _ (by omega), hE _ (by decide) (by decide) (by decide)]; exact hT k' z (by omega) z1 z2) _ (by rw [btN, ← hbt, if_neg (by simp_all)])
      · refine Sx.iconst (v := (nI 1)) dX10_followAll_101 (by decide) ?_
        refine Sx.iload dX10_followAll_102 rfl ?_
        refine Sx.ishl1 dX10_followAll_104 (by omega) ?_
        refine Sx.goto (t := 109) dX10_followAll_105 (by decide) ?_
        refine Sx.iorN dX10_followAll_109 ?_
        refine Sx.istore_n (lv' := [(3, .int (nI (bt ||| (2 ^ k)))), (4, .int (nI k)), (2, .int (nI ls)), (1, .int (nI p)), (0, .ref 136)]) dX10_followAll_110 (by decide) rfl ?_
        refine Sx.iinc (v := (nI (k + 1))) (lv' := [(4, .int (nI (k + 1))), (3, .int (nI (bt ||| (2 ^ k)))), (2, .int (nI ls)), (1, .int (nI p)), (0, .ref 136)]) dX10_followAll_111 rfl (nI_add k 1) (by decide) rfl ?_
        refine Sx.goto (t := 5) dX10_followAll_114 (by decide) ?_
        refine Sx.sub' [(4, .int (nI (k + 1))), (3, .int (nI (bt ||| (2 ^ k)))), (2, .int (nI ls)), (1, .int (nI p)), (0, .ref 136)] rfl ?_
        exact ih (k + 1) (by omega) (by omega) J CJ hfJ (fun k' z hk' z1 z2 => by
          by_cases q : k' = k
          · rw [q]; exact hTJ z z1 z2
          · rw [hZJ _ (by omega), hE _ (by decide) (by decide) (by decide)]; exact hT k' z (by omega) z1 z2) _ (by rw [btN, ← hbt, if_pos (by assumption)])
set_option maxRecDepth 20000 in
set_option maxHeartbeats 1000000 in
theorem d_followAll {G : Gt} {l : Launch} {Z : Zt} {R : Rt} {I : It} {L : Lt} {post : Pt'} {V : Vt} {p ls : Nat} (W : WF Z R) (C : CI V R I L) (hb : V 0 1 ≤ 4 ∧ V 0 3 ≤ 4) (hH : HV V) (hK : PK (V 2)) (hs : SI V) (hp : p < V 2 35) (hls : ls ≤ 60) (hV6 : ∀ i, i < V 0 7 → V 6 i ≤ ls) (h : ∀ I', CI V R I' L → OW I I' → (∀ k z, k < V 2 34 → 1 ≤ z → z ≤ ls → I' 146 (k * 61 + z) = nI (crC V p k z)) → post (some (.int (nI (btN (fitB V p) (V 2 34))))) Z R I' L) : Cx G l mX10_followAll 7 0 0 [.ref 136, .int (nI p), .int (nI ls)] Z R I L post := by
  refine Cx.of (by decide +kernel) (by exact Nat.le_of_ble_eq_true rfl) ?_
  refine Sx.iconst (v := (nI 0)) dX10_followAll_0 (by decide) ?_
  refine Sx.istore_n (lv' := [(3, .int (nI 0)), (0, .ref 136), (1, .int (nI p)), (2, .int (nI ls))]) dX10_followAll_1 (by decide) rfl ?_
  refine Sx.iconst (v := (nI 0)) dX10_followAll_2 (by decide) ?_
  refine Sx.istore (lv' := [(4, .int (nI 0)), (3, .int (nI 0)), (0, .ref 136), (1, .int (nI p)), (2, .int (nI ls))]) dX10_followAll_3 (by decide) rfl ?_
  refine Sx.sub' [(4, .int (nI 0)), (3, .int (nI 0)), (2, .int (nI ls)), (1, .int (nI p)), (0, .ref 136)] rfl ?_
  exact l_cfa2 W hb hH hK hs hp hls hV6 (I0 := I) h (V 2 34 + 1) 0 (by omega) (by omega) I C (OW.rf I) (fun k z hk => by omega) 0 rfl
