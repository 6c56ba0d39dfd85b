/-! the class: a person that is -/
set_option maxRecDepth 20000 in
set_option maxHeartbeats 1000000 in
theorem d_personP {G : Gt} {l : Launch} {Z : Zt} {R : Rt} {I : It} {L : Lt} {post : Pt'} {V : Vt} {N : Nat} {p q : Nat} (W : WF Z R) (C : CI V R I L) (hG : GG N V) (hN : N < 2147483647) (hp : p < V 2 35) (hq : q ≤ 3) (h : post (some (.int (persN V p q))) Z R I L) : Cx G l mX11_person 3 0 0 [.ref 100, .int (nI p), .int (nI q)] Z R I L post := by
  refine Cx.of (by decide +kernel) (by exact Nat.le_of_ble_eq_true rfl) ?_
  have hB := hG.1.bnd
  have hp6 := hG.1.p
  have hb := hG.1.b
  have h00 := hG.1.1.1
  have tp : (nI p).toInt = (p : Int) := nI_toInt (by omega)
  have tq : (nI q).toInt = (q : Int) := nI_toInt (by omega)
  refine Sx.aload_n dX11_person_0 rfl ?_
  refine Sx.getfR dX11_person_1 lkf_X11_19_11 (o_100 W) (r_100_1 W) ?_
  refine Sx.iload_n dX11_person_4 rfl ?_
  refine Sx.callV1 dX11_person_5 lkv_X11_189 (rcv_6 (o_103 W)) (by decide) (by decide) (Nat.le_of_ble_eq_true rfl) rfl rfl (d_isPerson W C.2.1 (by omega) ?_)
  refine Sx.if_eqD (t := 20) dX11_person_8 (by decide) (fun c8 => False.elim (by omega)) (fun c8 => ?_)
  refine Sx.iload_n dX11_person_11 rfl ?_
  refine Sx.if_ltV (t := 20) dX11_person_12 (by decide) (vN (by omega)) (fun c12 => False.elim (by omega)) (fun c12 => ?_)
  refine Sx.iload_n dX11_person_15 rfl ?_
  refine Sx.iconst (v := (nI 3)) dX11_person_16 (by decide) ?_
  refine Sx.icmp_leV (t := 28) dX11_person_17 (by decide) (vN (by omega)) (vN (by decide)) (fun c17 => ?_) (fun c17 => False.elim (by omega))
  refine Sx.iload_n dX11_person_28 rfl ?_
  have vw29 : VZ (nI q) ((q : Nat) : Int) := (vN (by omega))
  by_cases k29_0 : ((q : Nat) : Int) = 0
  · refine Sx.tableIn (t := 56) dX11_person_29 (by rw [show _ = _ from vw29, k29_0]; decide) (by rw [show _ = _ from vw29, k29_0]; decide) (by rw [show _ = _ from vw29, k29_0]; rfl) (by decide) ?_
    refine Sx.aload_n dX11_person_56 rfl ?_
    refine Sx.getfR dX11_person_57 lkf_X11_89_11 (o_100 W) (r_100_11 W) ?_
    refine Sx.iconst (v := (nI 0)) dX11_person_60 (by decide) ?_
    refine Sx.iload_n dX11_person_61 rfl ?_
    refine Sx.iaddN dX11_person_62 ?_
    refine Sx.callU1 dX11_person_63 lku_X11_184 (rcv_8 (o_229 W)) (by decide) (by decide) (Nat.le_of_ble_eq_true rfl) rfl rfl (c_sg (w_229r W) C.2.2.1 (0 + p) rfl (by omega) (by omega) ?_)
    refine Sx.iret dX11_person_66 rfl rfl ?_
    exact pXX (by unfold persN; rw [if_pos (by omega), Nat.zero_add]) h
  by_cases k29_1 : ((q : Nat) : Int) = 1
  · refine Sx.tableIn (t := 67) dX11_person_29 (by rw [show _ = _ from vw29, k29_1]; decide) (by rw [show _ = _ from vw29, k29_1]; decide) (by rw [show _ = _ from vw29, k29_1]; rfl) (by decide) ?_
    refine Sx.aload_n dX11_person_67 rfl ?_
    refine Sx.getfR dX11_person_68 lkf_X11_19_11 (o_100 W) (r_100_1 W) ?_
    refine Sx.bipush (v := (nI 21)) dX11_person_71 (by decide) ?_
    refine Sx.iload_n dX11_person_73 rfl ?_
    refine Sx.iaddN dX11_person_74 ?_
    refine Sx.callU1 dX11_person_75 lku_X11_181 (rcv_6 (o_103 W)) (by decide) (by decide) (Nat.le_of_ble_eq_true rfl) rfl rfl (c_rg (w_103r W) (by unfold rowC; decide) (by decide) C.2.1 (21 + p) rfl (by omega) ?_)
    refine Sx.iret dX11_person_78 rfl rfl ?_
    exact pXX (by unfold persN; rw [if_neg (by omega), if_pos (by omega)]) h
  by_cases k29_2 : ((q : Nat) : Int) = 2
  · refine Sx.tableIn (t := 79) dX11_person_29 (by rw [show _ = _ from vw29, k29_2]; decide) (by rw [show _ = _ from vw29, k29_2]; decide) (by rw [show _ = _ from vw29, k29_2]; rfl) (by decide) ?_
    refine Sx.aload_n dX11_person_79 rfl ?_
    refine Sx.getfR dX11_person_80 lkf_X11_89_11 (o_100 W) (r_100_11 W) ?_
    refine Sx.iload_n dX11_person_83 rfl ?_
    refine Sx.callV1 dX11_person_84 lkv_X11_195 (rcv_8 (o_229 W)) (by decide) (by decide) (Nat.le_of_ble_eq_true rfl) rfl rfl (c_X8_isInBed (w_229r W) C.2.2.1 (by omega) (by omega) ?_)
    refine Sx.if_eqB (t := 94) dX11_person_87 (by decide) (fun c87 => ?_) (fun c87 => ?_)
    · refine Sx.iconst (v := (nI 0)) dX11_person_94 (by decide) ?_
      refine Sx.iret dX11_person_95 rfl rfl ?_
      have eb : V 3 138 / 2 ^ p % 2 = 0 := by unfold hbN at c87; simp at c87; omega
      exact pXX (by unfold persN; rw [if_neg (by omega), if_neg (by omega), if_pos (by omega), eb]) h
    · refine Sx.iconst (v := (nI 1)) dX11_person_90 (by decide) ?_
      refine Sx.goto (t := 95) dX11_person_91 (by decide) ?_
      refine Sx.iret dX11_person_95 rfl rfl ?_
      have eb : V 3 138 / 2 ^ p % 2 = 1 := by unfold hbN at c87; simp at c87; omega
      exact pXX (by unfold persN; rw [if_neg (by omega), if_neg (by omega), if_pos (by omega), eb]) h
  refine Sx.tableOut (t := 96) dX11_person_29 (by rw [show _ = _ from vw29]; omega) (by decide) ?_
  refine Sx.aload_n dX11_person_96 rfl ?_
  refine Sx.getfR dX11_person_97 lkf_X11_89_11 (o_100 W) (r_100_11 W) ?_
  refine Sx.bipush (v := (nI 6)) dX11_person_100 (by decide) ?_
  refine Sx.iload_n dX11_person_102 rfl ?_
  refine Sx.iaddN dX11_person_103 ?_
  refine Sx.callU1 dX11_person_104 lku_X11_184 (rcv_8 (o_229 W)) (by decide) (by decide) (Nat.le_of_ble_eq_true rfl) rfl rfl (c_sg (w_229r W) C.2.2.1 (6 + p) rfl (by omega) (by omega) ?_)
  refine Sx.iret dX11_person_107 rfl rfl ?_
  exact pXX (by unfold persN; rw [if_neg (by omega), if_neg (by omega), if_neg (by omega)]) h
