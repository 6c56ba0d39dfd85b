/-! Course: a day is drawn; who is idle -/
def ddC (c : Int64) (wh : Nat) : Int64 := if drV (drC (drC c)) 10 < wh then drC (drC (drC (drC (drC c)))) else drC (drC (drC c))
def dd1 (P F : Nat → Nat) (c : Int64) (wh : Nat) : Nat → Nat :=
  if drV (drC (drC c)) 10 < wh then upn (upn F 139 (drV (drC c) 10)) (drV (drC (drC (drC c))) (P 35)) (drV (drC (drC (drC (drC c)))) (P 34)) else upn F 139 (drV (drC c) 10)
def ddF (P F : Nat → Nat) (c : Int64) (wh : Nat) : Nat → Nat := if drV (ddC c wh) 100 < 3 then upn (dd1 P F c wh) 140 1 else dd1 P F c wh
theorem dd1_SB {P F : Nat → Nat} (hP : PB P) (hF : SB P F) (c : Int64) (wh : Nat) : SB P (dd1 P F c wh) := by
  have p5 : 1 ≤ P 34 := hP.2.2.2.2.1
  have p7 : 2 ≤ P 35 := hP.2.2.2.2.2.2.1
  have p8 : P 35 ≤ 6 := hP.2.2.2.2.2.2.2.1
  have h1 : SB P (upn F 139 (drV (drC c) 10)) := SB.up hP hF _ _ (drV_lt _ (by decide))
  unfold dd1
  split
  · refine SB.up hP h1 _ _ ?_
    have := drV_lt (drC (drC (drC c))) (n := P 35) (by omega)
    rw [sbB_1 P (by omega)]
    exact drV_lt _ (by omega)
  · exact h1
theorem ddF_SB {P F : Nat → Nat} (hP : PB P) (hF : SB P F) (c : Int64) (wh : Nat) : SB P (ddF P F c wh) := by
  have h1 := dd1_SB hP hF c wh
  unfold ddF
  split
  · exact SB.up hP h1 _ _ (show 1 < 2 by decide)
  · exact h1
theorem up2L_ne (L : Lt) (a j : Nat) (x : Int64) {b : Nat} (h : b ≠ a) : up2L L a j x b = L b := by unfold up2L va_up; rw [if_neg h]
theorem c_drw {G : Gt} {l : Launch} {Z : Zt} {R : Rt} {I : It} {L : Lt} {post : Pt'} {n : Nat} {c : Int64} (W : WF Z R) (hc : L 114 4 = c) (h0 : 0 < n) (hn : n < 2 ^ 31) (h : ∀ L', L' 114 4 = drC c → (∀ a, a ≠ 114 → L' a = L a) → post (some (.int (nI (drV (drC c) n)))) Z R I L') : Cx G l mX1_draw 1 0 0 [.ref 114, .int (nI n)] Z R I L post := by
  refine c_draw W h0 hn ?_
  rw [hc]
  exact h _ (up2L_at _ _ _ _) (fun a ha => up2L_ne _ _ _ _ ha)
set_option maxRecDepth 20000 in
set_option maxHeartbeats 1000000 in
theorem c_drawDay {G : Gt} {l : Launch} {Z : Zt} {R : Rt} {I : It} {L : Lt} {post : Pt'} {s : Nat} {P F : Nat → Nat} {wh : Nat} {c : Int64} (W : WF Z R) (hp : rep 36 (I 104) P) (hP : PB P) (hr : rwo Z R s 8 146) (hs : rs (I (s + 1)) F) (hx : 119 ≤ s ∧ s < 232) (hwh : wh ≤ 10) (hc : L 114 4 = c) (h : ∀ I' L', rs (I' (s + 1)) (ddF P F c wh) → (∀ q, q ≠ s + 1 → I' q = I q) → L' 114 4 = ddC c wh → (∀ q, q ≠ 114 → L' q = L q) → post none Z R I' L') : Cx G l mX1_drawDay 3 0 0 [.ref 114, .ref s, .int (nI wh)] Z R I L post := by
  refine Cx.of (by decide +kernel) (by exact Nat.le_of_ble_eq_true rfl) ?_
  have p5 : 1 ≤ P 34 := hP.2.2.2.2.1
  have p6 : P 34 ≤ 6 := hP.2.2.2.2.2.1
  have p7 : 2 ≤ P 35 := hP.2.2.2.2.2.2.1
  have p8 : P 35 ≤ 6 := hP.2.2.2.2.2.2.2.1
  have J : ∀ (lv : List (Nat × Value)) (I1 : It) (L1 : Lt) (c1 : Int64), rs (I1 (s + 1)) (dd1 P F c wh) → (∀ q, q ≠ s + 1 → I1 q = I q) → L1 114 4 = c1 → drC c1 = ddC c wh → (∀ q, q ≠ 114 → L1 q = L q) → Sx G l mX1_drawDay 3 0 0 53 [(0, .ref 114), (1, .ref s), (2, .int (nI wh))] [] Z R I1 L1 post := by
    intro _ I1 L1 c1 e1 e2 hc1 hc2 m1
    refine Sx.aload_n dX1_drawDay_53 rfl ?_
    refine Sx.bipush (v := 100) dX1_drawDay_54 (by decide) ?_
    refine Sx.callV1 dX1_drawDay_56 lkv_X1_160 (rcv_1 (o_114 W)) (by decide) (by decide) (Nat.le_of_ble_eq_true rfl) rfl rfl (c_drw W hc1 (n := 100) (by decide) (by decide) (fun L6 l6 m6 => ?_))
    refine Sx.iconst (v := 3) dX1_drawDay_59 (by decide) ?_
    refine Sx.icmp_ge (t := 71) dX1_drawDay_60 (by decide) (fun c60 => ?_) (fun c60 => ?_)
    · refine Sx.vret dX1_drawDay_71 rfl ?_
      refine h I1 L6 ?_ e2 (by rw [l6, hc2]) (fun q hq => (m6 q hq).trans (m1 q hq))
      rw [ddF, if_neg (fun q => absurd ((n_lt (b := 3) (by have := drV_lt (ddC c wh) (n := 100) (by decide); omega) (by decide)).mpr q) (Int32.not_lt.mpr (hc2 ▸ c60)))]
      exact e1
    · refine Sx.aload_n dX1_drawDay_63 rfl ?_
      refine Sx.sipush (v := 140) dX1_drawDay_64 (by decide) ?_
      refine Sx.iconst (v := 1) dX1_drawDay_67 (by decide) ?_
      refine Sx.callU2 dX1_drawDay_68 lku_X1_107 (rcv_8 hr.1) (by decide) (by decide) (Nat.le_of_ble_eq_true rfl) rfl rfl (c_ss hr e1 140 1 rfl (by decide) (by rw [sv_n (by decide)]; rfl) (fun I3 e3 e4 => ?_))
      refine Sx.vret dX1_drawDay_71 rfl ?_
      refine h I3 L6 ?_ (fun q hq => (e4 q hq).trans (e2 q hq)) (by rw [l6, hc2]) (fun q hq => (m6 q hq).trans (m1 q hq))
      rw [ddF, if_pos ((n_lt (b := 3) (by have := drV_lt (ddC c wh) (n := 100) (by decide); omega) (by decide)).mp (Int32.not_le.mp (hc2 ▸ c60)))]
      exact e3
  refine Sx.aload_n dX1_drawDay_0 rfl ?_
  refine Sx.sipush (v := 139) dX1_drawDay_1 (by decide) ?_
  refine Sx.aload_n dX1_drawDay_4 rfl ?_
  refine Sx.bipush (v := 10) dX1_drawDay_5 (by decide) ?_
  refine Sx.callV1 dX1_drawDay_7 lkv_X1_160 (rcv_1 (o_114 W)) (by decide) (by decide) (Nat.le_of_ble_eq_true rfl) rfl rfl (c_drw W hc (n := 10) (by decide) (by decide) (fun L1 l1 m1 => ?_))
  refine Sx.callU2 dX1_drawDay_10 lku_X1_107 (rcv_8 hr.1) (by decide) (by decide) (Nat.le_of_ble_eq_true rfl) rfl rfl (c_ss hr hs 139 (drV (drC c) 10) rfl (by decide) (by rw [sv_n (by decide)]) (fun I1 e1 e2 => ?_))
  refine Sx.aload_n dX1_drawDay_13 rfl ?_
  refine Sx.bipush (v := 10) dX1_drawDay_14 (by decide) ?_
  refine Sx.callV1 dX1_drawDay_16 lkv_X1_160 (rcv_1 (o_114 W)) (by decide) (by decide) (Nat.le_of_ble_eq_true rfl) rfl rfl (c_drw W l1 (n := 10) (by decide) (by decide) (fun L2 l2 m2 => ?_))
  refine Sx.iload_n dX1_drawDay_19 rfl ?_
  refine Sx.icmp_ge (t := 53) dX1_drawDay_20 (by decide) (fun c20 => ?_) (fun c20 => ?_)
  · have h10 := drV_lt (drC (drC c)) (n := 10) (by decide)
    have hno : ¬ drV (drC (drC c)) 10 < wh := fun q => absurd ((n_lt (by omega) (by omega)).mpr q) (Int32.not_lt.mpr c20)
    refine J [] I1 L2 _ ?_ e2 l2 ?_ (fun q hq => (m2 q hq).trans (m1 q hq))
    · rw [dd1, if_neg hno]; exact e1
    · rw [ddC, if_neg hno]
  · refine Sx.aload_n dX1_drawDay_23 rfl ?_
    refine Sx.aload_n dX1_drawDay_24 rfl ?_
    refine Sx.getfR dX1_drawDay_25 lkf_X1_37_1 (o_114 W) (r_114_0 W) ?_
    refine Sx.callV0 dX1_drawDay_28 lkv_X1_74 (rcv_6 (o_103 W)) (by decide) (by decide) (Nat.le_of_ble_eq_true rfl) rfl rfl (c_pers (w_103r W) (by rw [e2 _ (by omega)]; exact hp) ?_)
    refine Sx.callV1 dX1_drawDay_31 lkv_X1_160 (rcv_1 (o_114 W)) (by decide) (by decide) (Nat.le_of_ble_eq_true rfl) rfl rfl (c_drw W l2 (by omega) (by omega) (fun L3 l3 m3 => ?_))
    refine Sx.ist_n (fun zz => [(3, .int zz), (0, .ref 114), (1, .ref s), (2, .int (nI wh))]) dX1_drawDay_34 (by decide) (fun _ => rfl) (fun x3_34 ex3_34 => ?_)
    have hq := drV_lt (drC (drC (drC c))) (n := P 35) (by omega)
    refine Sx.aload_n dX1_drawDay_35 rfl ?_
    refine Sx.iconst (v := 0) dX1_drawDay_36 (by decide) ?_
    refine Sx.iload_n dX1_drawDay_37 rfl ?_
    refine Sx.iadd dX1_drawDay_38 ?_
    refine Sx.aload_n dX1_drawDay_39 rfl ?_
    refine Sx.aload_n dX1_drawDay_40 rfl ?_
    refine Sx.getfR dX1_drawDay_41 lkf_X1_37_1 (o_114 W) (r_114_0 W) ?_
    refine Sx.callV0 dX1_drawDay_44 lkv_X1_163 (rcv_6 (o_103 W)) (by decide) (by decide) (Nat.le_of_ble_eq_true rfl) rfl rfl (c_kinds (w_103r W) (by rw [e2 _ (by omega)]; exact hp) ?_)
    refine Sx.callV1 dX1_drawDay_47 lkv_X1_160 (rcv_1 (o_114 W)) (by decide) (by decide) (Nat.le_of_ble_eq_true rfl) rfl rfl (c_drw W l3 (by omega) (by omega) (fun L4 l4 m4 => ?_))
    refine Sx.callU2 dX1_drawDay_50 lku_X1_107 (rcv_8 hr.1) (by decide) (by decide) (Nat.le_of_ble_eq_true rfl) rfl rfl (c_ss hr e1 (drV (drC (drC (drC c))) (P 35)) (drV (drC (drC (drC (drC c)))) (P 34)) (by rw [ex3_34]; exact n_z _) (by omega) (by rw [sv_n (by omega)]) (fun I2 e3 e4 => ?_))
    have h10 := drV_lt (drC (drC c)) (n := 10) (by decide)
    have hyes : drV (drC (drC c)) 10 < wh := (n_lt (by omega) (by omega)).mp (Int32.not_le.mp c20)
    refine Sx.sub' [(0, .ref 114), (1, .ref s), (2, .int (nI wh))] rfl ?_
    refine J [] I2 L4 _ ?_ (fun q hq => (e4 q hq).trans (e2 q hq)) l4 ?_ (fun q hq => (m4 q hq).trans ((m3 q hq).trans ((m2 q hq).trans (m1 q hq))))
    · rw [dd1, if_pos hyes]; exact e3
    · rw [ddC, if_pos hyes]
/-- who may not do his kind for want of light, of the first persons, at a light -/
def idN (P F : Nat → Nat) (lt : Nat) : Nat → Nat
  | 0 => 0
  | j + 1 => idN P F lt j ||| (if lt < P (9 + F j) ∧ ¬ hbN (F 138) j = true then 2 ^ j else 0)
theorem idN_lt (P F : Nat → Nat) (lt : Nat) : ∀ j, idN P F lt j < 2 ^ j
  | 0 => by simp [idN]
  | j + 1 => by
    have h1 := idN_lt P F lt j
    unfold idN
    refine Nat.or_lt_two_pow (by rw [Nat.pow_succ]; omega) ?_
    split
    · rw [Nat.pow_succ]; have := Nat.two_pow_pos j; omega
    · exact Nat.two_pow_pos _
set_option maxRecDepth 20000 in
set_option maxHeartbeats 1000000 in
theorem l_idle {G : Gt} {l : Launch} {Z : Zt} {R : Rt} {L : Lt} {post : Pt'} {s : Nat} {P F : Nat → Nat} {lt : Nat} {I0 : It} (W : WF Z R) (hp : rep 36 (I0 104) P) (hP : PB P) (hF : SB P F) (hr : rwo Z R s 8 146) (hs : rs (I0 (s + 1)) F) (hlt : lt ≤ 99) (h : ∀ I', I' = I0 → post (some (.int (nI (idN P F lt (P 35))))) Z R I' L) :
    ∀ (k j : Nat), j ≤ P 35 → P 35 < j + k → ∀ (I : It) (v : Int32), (I = I0) → (v = nI (idN P F lt j)) → ∀ (y : Int32), y = nI j → Sx G l mX1_idle 5 0 0 18 [(4, .int y), (3, .int v), (2, .int (nI lt)), (0, .ref 114), (1, .ref s)] [] Z R I L post := by
  have hall := hF.all hP
  have hP' := hP
  have hF' := hF
  obtain ⟨f1, f2, f3, f4, f5, f6, f7, f8, f9, f10, f11, f12, f13, f14, f15, f16⟩ := hF'
  obtain ⟨p1, p2, p3, p4, p5, p6, p7, p8, p9⟩ := hP'
  intro k
  induction k with
  | zero => intro j h1 h2; omega
  | succ k ih =>
    intro j h1 h2 I v hI hv y hy
    subst hy
    refine Sx.iload dX1_idle_18 rfl ?_
    refine Sx.aload_n dX1_idle_20 rfl ?_
    refine Sx.getfR dX1_idle_21 lkf_X1_37_1 (o_114 W) (r_114_0 W) ?_
    refine Sx.callV0 dX1_idle_24 lkv_X1_74 (rcv_6 (o_103 W)) (by decide) (by decide) (Nat.le_of_ble_eq_true rfl) rfl rfl (c_pers (w_103r W) (by rw [hI]; exact hp) ?_)
    refine Sx.icmp_ge (t := 90) dX1_idle_27 (by decide) (fun c27 => ?_) (fun c27 => ?_)
    · refine Sx.iload_n dX1_idle_90 rfl ?_
      refine Sx.iret dX1_idle_91 rfl rfl ?_
      have hj := lp_end rfl (by omega) h1 c27
      subst hj
      rw [hv]
      exact h I hI
    · have hlt2 := lp_lt rfl (by omega) h1 c27
      have hFj := f1 j (by omega)
      have hpn := (p9 (F j) hFj).2.1
      refine Sx.iload_n dX1_idle_30 rfl ?_
      refine Sx.aload_n dX1_idle_31 rfl ?_
      refine Sx.getfR dX1_idle_32 lkf_X1_37_1 (o_114 W) (r_114_0 W) ?_
      refine Sx.bipush (v := 9) dX1_idle_35 (by decide) ?_
      refine Sx.aload_n dX1_idle_37 rfl ?_
      refine Sx.iconst (v := 0) dX1_idle_38 (by decide) ?_
      refine Sx.iload dX1_idle_39 rfl ?_
      refine Sx.iadd dX1_idle_41 ?_
      refine Sx.callU1 dX1_idle_42 lku_X1_43 (rcv_8 hr.1) (by decide) (by decide) (Nat.le_of_ble_eq_true rfl) rfl rfl (c_sg hr (by rw [hI]; exact hs) j (n_z j) (by omega) (by omega) ?_)
      refine Sx.iadd dX1_idle_45 ?_
      refine Sx.callU1 dX1_idle_46 lku_X1_49 (rcv_6 (o_103 W)) (by decide) (by decide) (Nat.le_of_ble_eq_true rfl) rfl rfl (c_rg (w_103r W) rC6 (by decide) (by rw [hI]; exact hp) (9 + F j) (nI_add 9 _) (by omega) ?_)
      refine Sx.icmp_ge (t := 56) dX1_idle_49 (by decide) (fun c49 => ?_) (fun c49 => ?_)
      · refine Sx.iconst (v := 0) dX1_idle_56 (by decide) ?_
        refine Sx.ist (fun zz => [(5, .int zz), (4, .int (nI j)), (3, .int v), (2, .int (nI lt)), (0, .ref 114), (1, .ref s)]) dX1_idle_57 (by decide) (fun _ => rfl) (fun x5_57 ex5_57 => ?_)
        refine Sx.iload_n dX1_idle_59 rfl ?_
        refine Sx.iload dX1_idle_60 rfl ?_
        refine Sx.if_eq (t := 81) dX1_idle_62 (by decide) (fun c62 => ?_) (fun c62 => ?_)
        · refine Sx.iconst (v := 0) dX1_idle_81 (by decide) ?_
          refine Sx.ior dX1_idle_82 ?_
          refine Sx.ist_n (fun zz => [(3, .int zz), (5, .int x5_57), (4, .int (nI j)), (2, .int (nI lt)), (0, .ref 114), (1, .ref s)]) dX1_idle_83 (by decide) (fun _ => rfl) (fun x3_83 ex3_83 => ?_)
          refine Sx.iincN (fun zz => [(4, .int zz), (3, .int x3_83), (5, .int x5_57), (2, .int (nI lt)), (0, .ref 114), (1, .ref s)]) dX1_idle_84 rfl (by decide) (fun _ => rfl) (fun x4_84 ex4_84 => ?_)
          refine Sx.goto (t := 18) dX1_idle_87 (by decide) ?_
          have hno : ¬ (lt < P (9 + F j) ∧ ¬ hbN (F 138) j = true) := fun q => absurd ((n_lt (by omega) (by omega)).mpr q.1) (Int32.not_lt.mpr c49)
          refine Sx.sub' [(4, .int x4_84), (3, .int x3_83), (2, .int (nI lt)), (0, .ref 114), (1, .ref s)] rfl ?_
          exact ih (j + 1) (by omega) (by omega) I _ hI (by rw [ex3_83, hv, idN, if_neg hno]; rw [Nat.or_zero]; exact n_or_0 _) _ (by rw [ex4_84]; exact nI_1 j)
        · refine Sx.aload_n dX1_idle_65 rfl ?_
          refine Sx.iload dX1_idle_66 rfl ?_
          refine Sx.callV1 dX1_idle_68 lkv_X1_91 (rcv_8 hr.1) (by decide) (by decide) (Nat.le_of_ble_eq_true rfl) rfl rfl (c_X8_isInBed hr (by rw [hI]; exact hs) hF.2.2.2.2.2.2.1 (by omega) ?_)
          refine Sx.if_ne (t := 81) dX1_idle_71 (by decide) (fun c71 => ?_) (fun c71 => ?_)
          · refine Sx.iconst (v := 0) dX1_idle_81 (by decide) ?_
            refine Sx.ior dX1_idle_82 ?_
            refine Sx.ist_n (fun zz => [(3, .int zz), (5, .int x5_57), (4, .int (nI j)), (2, .int (nI lt)), (0, .ref 114), (1, .ref s)]) dX1_idle_83 (by decide) (fun _ => rfl) (fun x3_83 ex3_83 => ?_)
            refine Sx.iincN (fun zz => [(4, .int zz), (3, .int x3_83), (5, .int x5_57), (2, .int (nI lt)), (0, .ref 114), (1, .ref s)]) dX1_idle_84 rfl (by decide) (fun _ => rfl) (fun x4_84 ex4_84 => ?_)
            refine Sx.goto (t := 18) dX1_idle_87 (by decide) ?_
            exact absurd ex5_57 c62
          · refine Sx.iconst (v := 1) dX1_idle_74 (by decide) ?_
            refine Sx.iload dX1_idle_75 rfl ?_
            refine Sx.ishl dX1_idle_77 ?_
            refine Sx.goto (t := 82) dX1_idle_78 (by decide) ?_
            refine Sx.ior dX1_idle_82 ?_
            refine Sx.ist_n (fun zz => [(3, .int zz), (5, .int x5_57), (4, .int (nI j)), (2, .int (nI lt)), (0, .ref 114), (1, .ref s)]) dX1_idle_83 (by decide) (fun _ => rfl) (fun x3_83 ex3_83 => ?_)
            refine Sx.iincN (fun zz => [(4, .int zz), (3, .int x3_83), (5, .int x5_57), (2, .int (nI lt)), (0, .ref 114), (1, .ref s)]) dX1_idle_84 rfl (by decide) (fun _ => rfl) (fun x4_84 ex4_84 => ?_)
            refine Sx.goto (t := 18) dX1_idle_87 (by decide) ?_
            exact absurd ex5_57 c62
      · refine Sx.iconst (v := 1) dX1_idle_52 (by decide) ?_
        refine Sx.goto (t := 57) dX1_idle_53 (by decide) ?_
        refine Sx.ist (fun zz => [(5, .int zz), (4, .int (nI j)), (3, .int v), (2, .int (nI lt)), (0, .ref 114), (1, .ref s)]) dX1_idle_57 (by decide) (fun _ => rfl) (fun x5_57 ex5_57 => ?_)
        refine Sx.iload_n dX1_idle_59 rfl ?_
        refine Sx.iload dX1_idle_60 rfl ?_
        refine Sx.if_eq (t := 81) dX1_idle_62 (by decide) (fun c62 => ?_) (fun c62 => ?_)
        · refine Sx.iconst (v := 0) dX1_idle_81 (by decide) ?_
          refine Sx.ior dX1_idle_82 ?_
          refine Sx.ist_n (fun zz => [(3, .int zz), (5, .int x5_57), (4, .int (nI j)), (2, .int (nI lt)), (0, .ref 114), (1, .ref s)]) dX1_idle_83 (by decide) (fun _ => rfl) (fun x3_83 ex3_83 => ?_)
          refine Sx.iincN (fun zz => [(4, .int zz), (3, .int x3_83), (5, .int x5_57), (2, .int (nI lt)), (0, .ref 114), (1, .ref s)]) dX1_idle_84 rfl (by decide) (fun _ => rfl) (fun x4_84 ex4_84 => ?_)
          refine Sx.goto (t := 18) dX1_idle_87 (by decide) ?_
          rw [ex5_57] at c62
          exact absurd c62 (by decide)
        · refine Sx.aload_n dX1_idle_65 rfl ?_
          refine Sx.iload dX1_idle_66 rfl ?_
          refine Sx.callV1 dX1_idle_68 lkv_X1_91 (rcv_8 hr.1) (by decide) (by decide) (Nat.le_of_ble_eq_true rfl) rfl rfl (c_X8_isInBed hr (by rw [hI]; exact hs) hF.2.2.2.2.2.2.1 (by omega) ?_)
          refine Sx.if_ne (t := 81) dX1_idle_71 (by decide) (fun c71 => ?_) (fun c71 => ?_)
          · refine Sx.iconst (v := 0) dX1_idle_81 (by decide) ?_
            refine Sx.ior dX1_idle_82 ?_
            refine Sx.ist_n (fun zz => [(3, .int zz), (5, .int x5_57), (4, .int (nI j)), (2, .int (nI lt)), (0, .ref 114), (1, .ref s)]) dX1_idle_83 (by decide) (fun _ => rfl) (fun x3_83 ex3_83 => ?_)
            refine Sx.iincN (fun zz => [(4, .int zz), (3, .int x3_83), (5, .int x5_57), (2, .int (nI lt)), (0, .ref 114), (1, .ref s)]) dX1_idle_84 rfl (by decide) (fun _ => rfl) (fun x4_84 ex4_84 => ?_)
            refine Sx.goto (t := 18) dX1_idle_87 (by decide) ?_
            have hno : ¬ (lt < P (9 + F j) ∧ ¬ hbN (F 138) j = true) := fun q => q.2 (b2i_ne.mp c71)
            refine Sx.sub' [(4, .int x4_84), (3, .int x3_83), (2, .int (nI lt)), (0, .ref 114), (1, .ref s)] rfl ?_
            exact ih (j + 1) (by omega) (by omega) I _ hI (by rw [ex3_83, hv, idN, if_neg hno]; rw [Nat.or_zero]; exact n_or_0 _) _ (by rw [ex4_84]; exact nI_1 j)
          · refine Sx.iconst (v := 1) dX1_idle_74 (by decide) ?_
            refine Sx.iload dX1_idle_75 rfl ?_
            refine Sx.ishl dX1_idle_77 ?_
            refine Sx.goto (t := 82) dX1_idle_78 (by decide) ?_
            refine Sx.ior dX1_idle_82 ?_
            refine Sx.ist_n (fun zz => [(3, .int zz), (5, .int x5_57), (4, .int (nI j)), (2, .int (nI lt)), (0, .ref 114), (1, .ref s)]) dX1_idle_83 (by decide) (fun _ => rfl) (fun x3_83 ex3_83 => ?_)
            refine Sx.iincN (fun zz => [(4, .int zz), (3, .int x3_83), (5, .int x5_57), (2, .int (nI lt)), (0, .ref 114), (1, .ref s)]) dX1_idle_84 rfl (by decide) (fun _ => rfl) (fun x4_84 ex4_84 => ?_)
            refine Sx.goto (t := 18) dX1_idle_87 (by decide) ?_
            have hyes : lt < P (9 + F j) ∧ ¬ hbN (F 138) j = true := ⟨(n_lt (by omega) (by omega)).mp (Int32.not_le.mp c49), by rw [b2i_0.mp c71]; decide⟩
            refine Sx.sub' [(4, .int x4_84), (3, .int x3_83), (2, .int (nI lt)), (0, .ref 114), (1, .ref s)] rfl ?_
            exact ih (j + 1) (by omega) (by omega) I _ hI (by rw [ex3_83, hv, idN, if_pos hyes]; rw [n_p2 (by omega)]; exact n_or _ _) _ (by rw [ex4_84]; exact nI_1 j)
set_option maxRecDepth 20000 in
set_option maxHeartbeats 1000000 in
theorem c_idle {G : Gt} {l : Launch} {Z : Zt} {R : Rt} {I : It} {L : Lt} {post : Pt'} {s : Nat} {P F : Nat → Nat} {w : Wt} (W : WF Z R) (hp : rep 36 (I 104) P) (hP : PB P) (hr : rwo Z R s 8 146) (hs : rs (I (s + 1)) F) (hx : 119 ≤ s ∧ s < 232) (hL : LW R I w) (hF : SB P F) (h : ∀ I', (∀ q, q ≠ 116 → q ≠ 118 → I' q = I q) → post (some (.int (nI (idN P F (lofN P w F (upc P F) (F 145)) (P 35))))) Z R I' L) : Cx G l mX1_idle 5 0 0 [.ref 114, .ref s] Z R I L post := by
  refine Cx.of (by decide +kernel) (by exact Nat.le_of_ble_eq_true rfl) ?_
  have hall := hF.all hP
  have hP' := hP
  have hF' := hF
  obtain ⟨f1, f2, f3, f4, f5, f6, f7, f8, f9, f10, f11, f12, f13, f14, f15, f16⟩ := hF'
  obtain ⟨p1, p2, p3, p4, p5, p6, p7, p8, p9⟩ := hP'
  refine Sx.aload_n dX1_idle_0 rfl ?_
  refine Sx.aload_n dX1_idle_1 rfl ?_
  refine Sx.aload_n dX1_idle_2 rfl ?_
  refine Sx.sipush (v := 145) dX1_idle_3 (by decide) ?_
  refine Sx.callU1 dX1_idle_6 lku_X1_43 (rcv_8 hr.1) (by decide) (by decide) (Nat.le_of_ble_eq_true rfl) rfl rfl (c_sg hr hs 145 rfl (by decide) (by decide) ?_)
  refine Sx.callV2 dX1_idle_9 lkv_X1_87 (rcv_1 (o_114 W)) (by decide) (by decide) (Nat.le_of_ble_eq_true rfl) rfl rfl (c_lightOf W hp hP hr hs hx hL hF (by omega) (fun I1 hJ1 => ?_))
  refine Sx.ist_n (fun zz => [(2, .int zz), (0, .ref 114), (1, .ref s)]) dX1_idle_12 (by decide) (fun _ => rfl) (fun x2_12 ex2_12 => ?_)
  refine Sx.iconst (v := 0) dX1_idle_13 (by decide) ?_
  refine Sx.ist_n (fun zz => [(3, .int zz), (2, .int x2_12), (0, .ref 114), (1, .ref s)]) dX1_idle_14 (by decide) (fun _ => rfl) (fun x3_14 ex3_14 => ?_)
  refine Sx.iconst (v := 0) dX1_idle_15 (by decide) ?_
  refine Sx.ist (fun zz => [(4, .int zz), (3, .int x3_14), (2, .int x2_12), (0, .ref 114), (1, .ref s)]) dX1_idle_16 (by decide) (fun _ => rfl) (fun x4_16 ex4_16 => ?_)
  refine Sx.sub' [(4, .int x4_16), (3, .int x3_14), (2, .int (nI (lofN P w F (upc P F) (F 145)))), (0, .ref 114), (1, .ref s)] (by rw [← ex2_12]; rfl) ?_
  exact l_idle W (by rw [hJ1 _ (by omega) (by omega)]; exact hp) hP hF hr (by rw [hJ1 _ (by omega) (by omega)]; exact hs) (lofN_le hF (by omega)) (fun I' e => by rw [e]; exact h I1 hJ1) (P 35 + 1) 0 (by omega) (by omega) I1 _ rfl ex3_14 _ ex4_16
