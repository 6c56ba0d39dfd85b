/-! the class: faults and texts of seaports and calendars -/
set_option maxRecDepth 20000 in
set_option maxHeartbeats 1000000 in
theorem d_fault0 {G : Gt} {l : Launch} {Z : Zt} {R : Rt} {I : It} {L : Lt} {post : Pt'} {V : Vt} (W : WF Z R) (C : CI V R I L) (hb : V 0 1 ≤ 4 ∧ V 0 3 ≤ 4) (hB : V 0 0 ≤ 240 ∧ ∀ j, j < V 0 0 → 0 < V 1 j ∧ V 1 j < 256) (h : ∀ I', CI V R I' L → CF R I L R I' L → post (some (.int (fauN V 0))) Z R I' L) : Cx G l mX11_fault 10 0 0 [.ref 100, .int (nI 0)] Z R I L post := by
  refine Cx.of (by decide +kernel) (by exact Nat.le_of_ble_eq_true rfl) ?_
  refine Sx.iload_n dX11_fault_0 rfl ?_
  refine Sx.if_ltV (t := 9) dX11_fault_1 (by decide) (vN (by decide)) (fun c1 => False.elim (by omega)) (fun c1 => ?_)
  refine Sx.iload_n dX11_fault_4 rfl ?_
  refine Sx.iconst (v := (nI 2)) dX11_fault_5 (by decide) ?_
  refine Sx.icmp_leV (t := 12) dX11_fault_6 (by decide) (vN (by decide)) (vN (by decide)) (fun c6 => ?_) (fun c6 => False.elim (by omega))
  refine Sx.aload_n dX11_fault_12 rfl ?_
  refine Sx.iload_n dX11_fault_13 rfl ?_
  refine Sx.callV1 dX11_fault_14 lkv_X11_129 (rcv_11 (o_100 W)) (by decide) (by decide) (Nat.le_of_ble_eq_true rfl) rfl rfl (d_rdAs0 W C hb hB (fun I1 C1 f1 t1 r1 o1 => ?_))
  refine Sx.if_eqB (t := 24) dX11_fault_17 (by decide) (fun c17 => ?_) (fun c17 => ?_)
  · refine Sx.aload_n dX11_fault_24 rfl ?_
    refine Sx.getfR dX11_fault_25 lkf_X11_10_11 (o_100 W) (r_100_0 W) ?_
    refine Sx.callV0 dX11_fault_28 lkv_X11_133 (rcv_9 (o_101 W)) (by decide) (by decide) (Nat.le_of_ble_eq_true rfl) rfl rfl (c_cur W t1 ?_)
    refine Sx.iret dX11_fault_31 rfl rfl ?_
    exact pXX (show fauN V 0 = _ from if_neg (by rw [show (fauP V 0).1 = (ptR (V 1) (V 0 0) 14 0 usQ).1 from rfl]; intro z; rw [z] at c17; exact absurd c17 (by decide))) (h I1 C1 f1)
  · refine Sx.iconst (v := (iI (-1))) dX11_fault_20 (by decide) ?_
    refine Sx.goto (t := 31) dX11_fault_21 (by decide) ?_
    refine Sx.iret dX11_fault_31 rfl rfl ?_
    exact pXX (show fauN V 0 = _ from if_pos (by assumption)) (h I1 C1 f1)
set_option maxRecDepth 20000 in
set_option maxHeartbeats 1000000 in
theorem d_fault2 {G : Gt} {l : Launch} {Z : Zt} {R : Rt} {I : It} {L : Lt} {post : Pt'} {V : Vt} (W : WF Z R) (C : CI V R I L) (hb : V 0 1 ≤ 4 ∧ V 0 3 ≤ 4) (hB : V 0 0 ≤ 240 ∧ ∀ j, j < V 0 0 → 0 < V 1 j ∧ V 1 j < 256) (h : ∀ I', CI V R I' L → CF R I L R I' L → post (some (.int (fauN V 2))) Z R I' L) : Cx G l mX11_fault 10 0 0 [.ref 100, .int (nI 2)] Z R I L post := by
  refine Cx.of (by decide +kernel) (by exact Nat.le_of_ble_eq_true rfl) ?_
  refine Sx.iload_n dX11_fault_0 rfl ?_
  refine Sx.if_ltV (t := 9) dX11_fault_1 (by decide) (vN (by decide)) (fun c1 => False.elim (by omega)) (fun c1 => ?_)
  refine Sx.iload_n dX11_fault_4 rfl ?_
  refine Sx.iconst (v := (nI 2)) dX11_fault_5 (by decide) ?_
  refine Sx.icmp_leV (t := 12) dX11_fault_6 (by decide) (vN (by decide)) (vN (by decide)) (fun c6 => ?_) (fun c6 => False.elim (by omega))
  refine Sx.aload_n dX11_fault_12 rfl ?_
  refine Sx.iload_n dX11_fault_13 rfl ?_
  refine Sx.callV1 dX11_fault_14 lkv_X11_129 (rcv_11 (o_100 W)) (by decide) (by decide) (Nat.le_of_ble_eq_true rfl) rfl rfl (d_rdAs2 W C hb hB (fun I1 C1 f1 t1 r1 o1 => ?_))
  refine Sx.if_eqB (t := 24) dX11_fault_17 (by decide) (fun c17 => ?_) (fun c17 => ?_)
  · refine Sx.aload_n dX11_fault_24 rfl ?_
    refine Sx.getfR dX11_fault_25 lkf_X11_10_11 (o_100 W) (r_100_0 W) ?_
    refine Sx.callV0 dX11_fault_28 lkv_X11_133 (rcv_9 (o_101 W)) (by decide) (by decide) (Nat.le_of_ble_eq_true rfl) rfl rfl (c_cur W t1 ?_)
    refine Sx.iret dX11_fault_31 rfl rfl ?_
    exact pXX (show fauN V 2 = _ from if_neg (by rw [show (fauP V 2).1 = cpO (V 1) (V 0 0) 20 0 from rfl]; intro z; rw [z] at c17; exact absurd c17 (by decide))) (h I1 C1 f1)
  · refine Sx.iconst (v := (iI (-1))) dX11_fault_20 (by decide) ?_
    refine Sx.goto (t := 31) dX11_fault_21 (by decide) ?_
    refine Sx.iret dX11_fault_31 rfl rfl ?_
    exact pXX (show fauN V 2 = _ from if_pos (by assumption)) (h I1 C1 f1)
set_option maxRecDepth 20000 in
set_option maxHeartbeats 1000000 in
theorem d_hp0 {G : Gt} {l : Launch} {Z : Zt} {R : Rt} {I : It} {L : Lt} {post : Pt'} {V : Vt} (W : WF Z R) (C : CI V R I L) (hb : V 0 1 ≤ 4 ∧ V 0 3 ≤ 4) (h : post (some (.int (b2i (true)))) Z R I L) : Cx G l mX11_hasPlaceFor 1 0 0 [.ref 100, .int (nI 0)] Z R I L post := by
  refine Cx.of (by decide +kernel) (by exact Nat.le_of_ble_eq_true rfl) ?_
  refine Sx.iload_n dX11_hasPlaceFor_0 rfl ?_
  refine Sx.if_eqV (t := 24) dX11_hasPlaceFor_1 (by decide) (vN (by decide)) (fun c1 => ?_) (fun c1 => False.elim (by omega))
  refine Sx.iconst (v := (nI 1)) dX11_hasPlaceFor_24 (by decide) ?_
  refine Sx.goto (t := 29) dX11_hasPlaceFor_25 (by decide) ?_
  refine Sx.top (show _ = b2i true from rfl) ?_
  refine Sx.iret dX11_hasPlaceFor_29 rfl (b2i_n _) ?_
  exact h
set_option maxRecDepth 20000 in
set_option maxHeartbeats 1000000 in
theorem d_hp1 {G : Gt} {l : Launch} {Z : Zt} {R : Rt} {I : It} {L : Lt} {post : Pt'} {V : Vt} (W : WF Z R) (C : CI V R I L) (hb : V 0 1 ≤ 4 ∧ V 0 3 ≤ 4) (h : post (some (.int (b2i (decide (V 0 1 < 4))))) Z R I L) : Cx G l mX11_hasPlaceFor 1 0 0 [.ref 100, .int (nI 1)] Z R I L post := by
  refine Cx.of (by decide +kernel) (by exact Nat.le_of_ble_eq_true rfl) ?_
  refine Sx.iload_n dX11_hasPlaceFor_0 rfl ?_
  refine Sx.if_eqV (t := 24) dX11_hasPlaceFor_1 (by decide) (vN (by decide)) (fun c1 => False.elim (by omega)) (fun c1 => ?_)
  refine Sx.iload_n dX11_hasPlaceFor_4 rfl ?_
  refine Sx.iconst (v := (nI 1)) dX11_hasPlaceFor_5 (by decide) ?_
  refine Sx.icmp_neV (t := 16) dX11_hasPlaceFor_6 (by decide) (vN (by decide)) (vN (by decide)) (fun c6 => False.elim (by omega)) (fun c6 => ?_)
  refine Sx.aload_n dX11_hasPlaceFor_9 rfl ?_
  refine Sx.getfV (v := (nI (V 0 1))) dX11_hasPlaceFor_10 lkf_X11_100_11 (o_100 W) C.2.2.2.1.2.1 ?_
  refine Sx.goto (t := 20) dX11_hasPlaceFor_13 (by decide) ?_
  refine Sx.iconst (v := (nI 4)) dX11_hasPlaceFor_20 (by decide) ?_
  refine Sx.icmp_geV (t := 28) dX11_hasPlaceFor_21 (by decide) (vN (by omega)) (vN (by decide)) (fun c21 => ?_) (fun c21 => ?_)
  · refine Sx.iconst (v := (nI 0)) dX11_hasPlaceFor_28 (by decide) ?_
    refine Sx.top (show _ = b2i false from rfl) ?_
    refine Sx.iret dX11_hasPlaceFor_29 rfl (b2i_n _) ?_
    exact pBB (decide_eq_false (by omega)) h
  · refine Sx.iconst (v := (nI 1)) dX11_hasPlaceFor_24 (by decide) ?_
    refine Sx.goto (t := 29) dX11_hasPlaceFor_25 (by decide) ?_
    refine Sx.top (show _ = b2i true from rfl) ?_
    refine Sx.iret dX11_hasPlaceFor_29 rfl (b2i_n _) ?_
    exact pBB (decide_eq_true (by omega)) h
set_option maxRecDepth 20000 in
set_option maxHeartbeats 1000000 in
theorem d_hp2 {G : Gt} {l : Launch} {Z : Zt} {R : Rt} {I : It} {L : Lt} {post : Pt'} {V : Vt} (W : WF Z R) (C : CI V R I L) (hb : V 0 1 ≤ 4 ∧ V 0 3 ≤ 4) (h : post (some (.int (b2i (decide (V 0 3 < 4))))) Z R I L) : Cx G l mX11_hasPlaceFor 1 0 0 [.ref 100, .int (nI 2)] Z R I L post := by
  refine Cx.of (by decide +kernel) (by exact Nat.le_of_ble_eq_true rfl) ?_
  refine Sx.iload_n dX11_hasPlaceFor_0 rfl ?_
  refine Sx.if_eqV (t := 24) dX11_hasPlaceFor_1 (by decide) (vN (by decide)) (fun c1 => False.elim (by omega)) (fun c1 => ?_)
  refine Sx.iload_n dX11_hasPlaceFor_4 rfl ?_
  refine Sx.iconst (v := (nI 1)) dX11_hasPlaceFor_5 (by decide) ?_
  refine Sx.icmp_neV (t := 16) dX11_hasPlaceFor_6 (by decide) (vN (by decide)) (vN (by decide)) (fun c6 => ?_) (fun c6 => False.elim (by omega))
  refine Sx.aload_n dX11_hasPlaceFor_16 rfl ?_
  refine Sx.getfV (v := (nI (V 0 3))) dX11_hasPlaceFor_17 lkf_X11_104_11 (o_100 W) C.2.2.2.1.2.2.1 ?_
  refine Sx.iconst (v := (nI 4)) dX11_hasPlaceFor_20 (by decide) ?_
  refine Sx.icmp_geV (t := 28) dX11_hasPlaceFor_21 (by decide) (vN (by omega)) (vN (by decide)) (fun c21 => ?_) (fun c21 => ?_)
  · refine Sx.iconst (v := (nI 0)) dX11_hasPlaceFor_28 (by decide) ?_
    refine Sx.top (show _ = b2i false from rfl) ?_
    refine Sx.iret dX11_hasPlaceFor_29 rfl (b2i_n _) ?_
    exact pBB (decide_eq_false (by omega)) h
  · refine Sx.iconst (v := (nI 1)) dX11_hasPlaceFor_24 (by decide) ?_
    refine Sx.goto (t := 29) dX11_hasPlaceFor_25 (by decide) ?_
    refine Sx.top (show _ = b2i true from rfl) ?_
    refine Sx.iret dX11_hasPlaceFor_29 rfl (b2i_n _) ?_
    exact pBB (decide_eq_true (by omega)) h
set_option maxRecDepth 20000 in
set_option maxHeartbeats 1000000 in
theorem d_forget {G : Gt} {l : Launch} {Z : Zt} {R : Rt} {I : It} {L : Lt} {post : Pt'}  (W : WF Z R) (h : ∀ I', I' 136 = upd (I 136) 7 (nI 0) → (∀ q, q ≠ 136 → I' q = I q) → post none Z R I' L) : Cx G l mX10_forget 1 0 0 [.ref 136] Z R I L post := by
  refine Cx.of (by decide +kernel) (by exact Nat.le_of_ble_eq_true rfl) ?_
  refine Sx.aload_n dX10_forget_0 rfl ?_
  refine Sx.iconst (v := (nI 0)) dX10_forget_1 (by decide) ?_
  refine Sx.putfV dX10_forget_2 lkp_X10_36_10 (o_136 W) rfl rfl (fun I1 e1 o1 => ?_)
  refine Sx.vret dX10_forget_5 rfl ?_
  exact h I1 e1 o1
set_option maxRecDepth 20000 in
set_option maxHeartbeats 1000000 in
theorem d_openPort {G : Gt} {l : Launch} {Z : Zt} {R : Rt} {I : It} {L : Lt} {post : Pt'} {Q : Nat → Nat} (W : WF Z R) (hQ : rep 36 (I 106) Q) (hQ1 : ∀ j, j < 6 → Q (27 + j) ≤ 1) (h : ∀ I', rep 36 (I' 104) Q → rs (I' 230) (begN Q) → I' 147 = upd (I 147) 1 (nI 0) → I' 136 = upd (I 136) 7 (nI 0) → I' 100 = upd (I 100) 13 (nI 0) → (∀ q, q ≠ 104 → q ≠ 230 → q ≠ 147 → q ≠ 136 → q ≠ 100 → I' q = I q) → post none Z R I' L) : Cx G l mX11_openPort 3 0 0 [.ref 100] Z R I L post := by
  refine Cx.of (by decide +kernel) (by exact Nat.le_of_ble_eq_true rfl) ?_
  refine Sx.aload_n dX11_openPort_0 rfl ?_
  refine Sx.getfR dX11_openPort_1 lkf_X11_19_11 (o_100 W) (r_100_1 W) ?_
  refine Sx.aload_n dX11_openPort_4 rfl ?_
  refine Sx.getfR dX11_openPort_5 lkf_X11_23_11 (o_100 W) (r_100_2 W) ?_
  refine Sx.callU1 dX11_openPort_8 lku_X11_164 (rcv_6 (o_103 W)) (by decide) (by decide) (Nat.le_of_ble_eq_true rfl) rfl rfl (c_X7_copy (w_103r W) (by unfold rowC; decide) (by decide) (w_105r W) (by unfold rowC; decide) (fun I1 e1 o1 => ?_))
  have hq1 : rep 36 (I1 104) Q := by rw [e1]; exact rep_cpy hQ
  refine Sx.aload_n dX11_openPort_11 rfl ?_
  refine Sx.getfR dX11_openPort_12 lkf_X11_89_11 (o_100 W) (r_100_11 W) ?_
  refine Sx.aload_n dX11_openPort_15 rfl ?_
  refine Sx.getfR dX11_openPort_16 lkf_X11_19_11 (o_100 W) (r_100_1 W) ?_
  refine Sx.callV1 dX11_openPort_19 lkv_X11_168 (rcv_8 (o_229 W)) (by decide) (by decide) (Nat.le_of_ble_eq_true rfl) rfl rfl (c_X8_begin (w_229r W) (w_103r W) (by decide) hQ1 hq1 (fun I2 r2 o2 => ?_))
  refine Sx.aload_n dX11_openPort_22 rfl ?_
  refine Sx.getfR dX11_openPort_23 lkf_X11_82_11 (o_100 W) (r_100_10 W) ?_
  refine Sx.callV0 dX11_openPort_26 lkv_X11_171 (rcv_2 (o_147 W)) (by decide) (by decide) (Nat.le_of_ble_eq_true rfl) rfl rfl (d_hclear W (fun I3 e3 o3 => ?_))
  refine Sx.aload_n dX11_openPort_29 rfl ?_
  refine Sx.getfR dX11_openPort_30 lkf_X11_75_11 (o_100 W) (r_100_9 W) ?_
  refine Sx.callV0 dX11_openPort_33 lkv_X11_174 (rcv_10 (o_136 W)) (by decide) (by decide) (Nat.le_of_ble_eq_true rfl) rfl rfl (d_forget W (fun I4 e4 o4 => ?_))
  refine Sx.aload_n dX11_openPort_36 rfl ?_
  refine Sx.iconst (v := (nI 0)) dX11_openPort_37 (by decide) ?_
  refine Sx.putfV dX11_openPort_38 lkp_X11_96_11 (o_100 W) rfl rfl (fun I5 e5 o5 => ?_)
  refine Sx.vret dX11_openPort_41 rfl ?_
  exact h I5 (by rw [o5 104 (by decide), o4 104 (by decide), o3 104 (by decide), o2 104 (by decide)]; exact hq1) (by rw [o5 230 (by decide), o4 230 (by decide), o3 230 (by decide)]; exact r2) (by rw [o5 147 (by decide), o4 147 (by decide), e3, o2 147 (by decide), o1 147 (by decide)]) (by rw [o5 136 (by decide), e4, o3 136 (by decide), o2 136 (by decide), o1 136 (by decide)]) (by rw [e5, o4 100 (by decide), o3 100 (by decide), o2 100 (by decide), o1 100 (by decide)]) (fun q q1 q2 q3 q4 q5 => by rw [o5 q q5, o4 q q4, o3 q q3, o2 q q2, o1 q q1])
