/-! the class: the reader of laws: it goes on behind an atom or a unit -/
set_option maxRecDepth 20000 in
set_option maxHeartbeats 1000000 in
theorem l_go43 {G : Gt} {l : Launch} {Z : Zt} {R : Rt} {L : Lt} {post : Pt'} {I : It} {M S : Nat → Nat} {a : Nat} {k : List Int32} (W : WF Z R) (hr : rwo Z R a 3 240) (ha : 233 ≤ a) (hL : LR I M S) (hk : LK I a k) (hw : M 1 < 64) (h : ∀ I', LR I' (upn (upn M 1 (M 1 + 1)) 2 3) (upn S (M 1) 43) → LK I' a k → (∀ q, q ≠ 107 → q ≠ 109 → q ≠ a → q ≠ a + 1 → I' q = I q) → post none Z R I' L) : Sx G l mX4_goOnBehind 4 0 0 13 [(0, .ref 107), (1, .int (nI 43)), (2, .ref a)] [] Z R I L post := by
  refine Sx.iload_n dX4_goOnBehind_13 rfl ?_
  refine Sx.lookup (t := 172) dX4_goOnBehind_14 (by decide) (o := 158) (by decide) (by decide) ?_
  refine Sx.aload_n dX4_goOnBehind_172 rfl ?_
  refine Sx.iload_n dX4_goOnBehind_173 rfl ?_
  refine Sx.callV1 dX4_goOnBehind_174 lkv_X4_90 (rcv_4 (o_107 W)) (by decide) (by decide) (Nat.le_of_ble_eq_true rfl) rfl rfl (d_await W hL hw (fun I1 L1 o1 => ?_))
  have K1 : LK I1 a k := hk.o (o1 a (by omega) (by omega)) (o1 (a + 1) (by omega) (by omega))
  refine Sx.iload_n dX4_goOnBehind_177 rfl ?_
  refine Sx.bipush (v := (nI 61)) dX4_goOnBehind_178 (by decide) ?_
  refine Sx.icmp_eqV (t := 195) dX4_goOnBehind_180 (by decide) (vN (by decide)) (vN (by decide)) (fun c180 => False.elim (by omega)) (fun c180 => ?_)
  refine Sx.iload_n dX4_goOnBehind_183 rfl ?_
  refine Sx.bipush (v := (nI 60)) dX4_goOnBehind_184 (by decide) ?_
  refine Sx.icmp_eqV (t := 195) dX4_goOnBehind_186 (by decide) (vN (by decide)) (vN (by decide)) (fun c186 => False.elim (by omega)) (fun c186 => ?_)
  refine Sx.iload_n dX4_goOnBehind_189 rfl ?_
  refine Sx.bipush (v := (nI 62)) dX4_goOnBehind_190 (by decide) ?_
  refine Sx.icmp_neV (t := 205) dX4_goOnBehind_192 (by decide) (vN (by decide)) (vN (by decide)) (fun c192 => ?_) (fun c192 => False.elim (by omega))
  refine Sx.aload_n dX4_goOnBehind_205 rfl ?_
  refine Sx.iconst (v := (nI 3)) dX4_goOnBehind_206 (by decide) ?_
  refine Sx.putfV dX4_goOnBehind_207 lkp_X4_24_4 (o_107 W) rfl rfl (fun I2 e2 o2 => ?_)
  have L2 : LR I2 (upn (upn M 1 (M 1 + 1)) 2 (3)) (upn S (M 1) 43) := L1.up (j := 2) (by decide) e2 o2
  have K2 : LK I2 a k := K1.o (o2 a (by omega)) (o2 (a + 1) (by omega))
  refine Sx.vret dX4_goOnBehind_210 rfl ?_
  exact h I2 L2 K2 (fun q q1 q2 q3 q4 => by rw [o2 q q1, o1 q q1 q2])
set_option maxRecDepth 20000 in
set_option maxHeartbeats 1000000 in
theorem l_go45 {G : Gt} {l : Launch} {Z : Zt} {R : Rt} {L : Lt} {post : Pt'} {I : It} {M S : Nat → Nat} {a : Nat} {k : List Int32} (W : WF Z R) (hr : rwo Z R a 3 240) (ha : 233 ≤ a) (hL : LR I M S) (hk : LK I a k) (hw : M 1 < 64) (h : ∀ I', LR I' (upn (upn M 1 (M 1 + 1)) 2 3) (upn S (M 1) 45) → LK I' a k → (∀ q, q ≠ 107 → q ≠ 109 → q ≠ a → q ≠ a + 1 → I' q = I q) → post none Z R I' L) : Sx G l mX4_goOnBehind 4 0 0 13 [(0, .ref 107), (1, .int (nI 45)), (2, .ref a)] [] Z R I L post := by
  refine Sx.iload_n dX4_goOnBehind_13 rfl ?_
  refine Sx.lookup (t := 172) dX4_goOnBehind_14 (by decide) (o := 158) (by decide) (by decide) ?_
  refine Sx.aload_n dX4_goOnBehind_172 rfl ?_
  refine Sx.iload_n dX4_goOnBehind_173 rfl ?_
  refine Sx.callV1 dX4_goOnBehind_174 lkv_X4_90 (rcv_4 (o_107 W)) (by decide) (by decide) (Nat.le_of_ble_eq_true rfl) rfl rfl (d_await W hL hw (fun I1 L1 o1 => ?_))
  have K1 : LK I1 a k := hk.o (o1 a (by omega) (by omega)) (o1 (a + 1) (by omega) (by omega))
  refine Sx.iload_n dX4_goOnBehind_177 rfl ?_
  refine Sx.bipush (v := (nI 61)) dX4_goOnBehind_178 (by decide) ?_
  refine Sx.icmp_eqV (t := 195) dX4_goOnBehind_180 (by decide) (vN (by decide)) (vN (by decide)) (fun c180 => False.elim (by omega)) (fun c180 => ?_)
  refine Sx.iload_n dX4_goOnBehind_183 rfl ?_
  refine Sx.bipush (v := (nI 60)) dX4_goOnBehind_184 (by decide) ?_
  refine Sx.icmp_eqV (t := 195) dX4_goOnBehind_186 (by decide) (vN (by decide)) (vN (by decide)) (fun c186 => False.elim (by omega)) (fun c186 => ?_)
  refine Sx.iload_n dX4_goOnBehind_189 rfl ?_
  refine Sx.bipush (v := (nI 62)) dX4_goOnBehind_190 (by decide) ?_
  refine Sx.icmp_neV (t := 205) dX4_goOnBehind_192 (by decide) (vN (by decide)) (vN (by decide)) (fun c192 => ?_) (fun c192 => False.elim (by omega))
  refine Sx.aload_n dX4_goOnBehind_205 rfl ?_
  refine Sx.iconst (v := (nI 3)) dX4_goOnBehind_206 (by decide) ?_
  refine Sx.putfV dX4_goOnBehind_207 lkp_X4_24_4 (o_107 W) rfl rfl (fun I2 e2 o2 => ?_)
  have L2 : LR I2 (upn (upn M 1 (M 1 + 1)) 2 (3)) (upn S (M 1) 45) := L1.up (j := 2) (by decide) e2 o2
  have K2 : LK I2 a k := K1.o (o2 a (by omega)) (o2 (a + 1) (by omega))
  refine Sx.vret dX4_goOnBehind_210 rfl ?_
  exact h I2 L2 K2 (fun q q1 q2 q3 q4 => by rw [o2 q q1, o1 q q1 q2])
set_option maxRecDepth 20000 in
set_option maxHeartbeats 1000000 in
theorem l_go42 {G : Gt} {l : Launch} {Z : Zt} {R : Rt} {L : Lt} {post : Pt'} {I : It} {M S : Nat → Nat} {a : Nat} {k : List Int32} (W : WF Z R) (hr : rwo Z R a 3 240) (ha : 233 ≤ a) (hL : LR I M S) (hk : LK I a k) (hw : M 1 < 64) (h : ∀ I', LR I' (upn (upn M 1 (M 1 + 1)) 2 3) (upn S (M 1) 42) → LK I' a k → (∀ q, q ≠ 107 → q ≠ 109 → q ≠ a → q ≠ a + 1 → I' q = I q) → post none Z R I' L) : Sx G l mX4_goOnBehind 4 0 0 13 [(0, .ref 107), (1, .int (nI 42)), (2, .ref a)] [] Z R I L post := by
  refine Sx.iload_n dX4_goOnBehind_13 rfl ?_
  refine Sx.lookup (t := 172) dX4_goOnBehind_14 (by decide) (o := 158) (by decide) (by decide) ?_
  refine Sx.aload_n dX4_goOnBehind_172 rfl ?_
  refine Sx.iload_n dX4_goOnBehind_173 rfl ?_
  refine Sx.callV1 dX4_goOnBehind_174 lkv_X4_90 (rcv_4 (o_107 W)) (by decide) (by decide) (Nat.le_of_ble_eq_true rfl) rfl rfl (d_await W hL hw (fun I1 L1 o1 => ?_))
  have K1 : LK I1 a k := hk.o (o1 a (by omega) (by omega)) (o1 (a + 1) (by omega) (by omega))
  refine Sx.iload_n dX4_goOnBehind_177 rfl ?_
  refine Sx.bipush (v := (nI 61)) dX4_goOnBehind_178 (by decide) ?_
  refine Sx.icmp_eqV (t := 195) dX4_goOnBehind_180 (by decide) (vN (by decide)) (vN (by decide)) (fun c180 => False.elim (by omega)) (fun c180 => ?_)
  refine Sx.iload_n dX4_goOnBehind_183 rfl ?_
  refine Sx.bipush (v := (nI 60)) dX4_goOnBehind_184 (by decide) ?_
  refine Sx.icmp_eqV (t := 195) dX4_goOnBehind_186 (by decide) (vN (by decide)) (vN (by decide)) (fun c186 => False.elim (by omega)) (fun c186 => ?_)
  refine Sx.iload_n dX4_goOnBehind_189 rfl ?_
  refine Sx.bipush (v := (nI 62)) dX4_goOnBehind_190 (by decide) ?_
  refine Sx.icmp_neV (t := 205) dX4_goOnBehind_192 (by decide) (vN (by decide)) (vN (by decide)) (fun c192 => ?_) (fun c192 => False.elim (by omega))
  refine Sx.aload_n dX4_goOnBehind_205 rfl ?_
  refine Sx.iconst (v := (nI 3)) dX4_goOnBehind_206 (by decide) ?_
  refine Sx.putfV dX4_goOnBehind_207 lkp_X4_24_4 (o_107 W) rfl rfl (fun I2 e2 o2 => ?_)
  have L2 : LR I2 (upn (upn M 1 (M 1 + 1)) 2 (3)) (upn S (M 1) 42) := L1.up (j := 2) (by decide) e2 o2
  have K2 : LK I2 a k := K1.o (o2 a (by omega)) (o2 (a + 1) (by omega))
  refine Sx.vret dX4_goOnBehind_210 rfl ?_
  exact h I2 L2 K2 (fun q q1 q2 q3 q4 => by rw [o2 q q1, o1 q q1 q2])
set_option maxRecDepth 20000 in
set_option maxHeartbeats 1000000 in
theorem l_go47 {G : Gt} {l : Launch} {Z : Zt} {R : Rt} {L : Lt} {post : Pt'} {I : It} {M S : Nat → Nat} {a : Nat} {k : List Int32} (W : WF Z R) (hr : rwo Z R a 3 240) (ha : 233 ≤ a) (hL : LR I M S) (hk : LK I a k) (hw : M 1 < 64) (h : ∀ I', LR I' (upn (upn M 1 (M 1 + 1)) 2 3) (upn S (M 1) 47) → LK I' a k → (∀ q, q ≠ 107 → q ≠ 109 → q ≠ a → q ≠ a + 1 → I' q = I q) → post none Z R I' L) : Sx G l mX4_goOnBehind 4 0 0 13 [(0, .ref 107), (1, .int (nI 47)), (2, .ref a)] [] Z R I L post := by
  refine Sx.iload_n dX4_goOnBehind_13 rfl ?_
  refine Sx.lookup (t := 172) dX4_goOnBehind_14 (by decide) (o := 158) (by decide) (by decide) ?_
  refine Sx.aload_n dX4_goOnBehind_172 rfl ?_
  refine Sx.iload_n dX4_goOnBehind_173 rfl ?_
  refine Sx.callV1 dX4_goOnBehind_174 lkv_X4_90 (rcv_4 (o_107 W)) (by decide) (by decide) (Nat.le_of_ble_eq_true rfl) rfl rfl (d_await W hL hw (fun I1 L1 o1 => ?_))
  have K1 : LK I1 a k := hk.o (o1 a (by omega) (by omega)) (o1 (a + 1) (by omega) (by omega))
  refine Sx.iload_n dX4_goOnBehind_177 rfl ?_
  refine Sx.bipush (v := (nI 61)) dX4_goOnBehind_178 (by decide) ?_
  refine Sx.icmp_eqV (t := 195) dX4_goOnBehind_180 (by decide) (vN (by decide)) (vN (by decide)) (fun c180 => False.elim (by omega)) (fun c180 => ?_)
  refine Sx.iload_n dX4_goOnBehind_183 rfl ?_
  refine Sx.bipush (v := (nI 60)) dX4_goOnBehind_184 (by decide) ?_
  refine Sx.icmp_eqV (t := 195) dX4_goOnBehind_186 (by decide) (vN (by decide)) (vN (by decide)) (fun c186 => False.elim (by omega)) (fun c186 => ?_)
  refine Sx.iload_n dX4_goOnBehind_189 rfl ?_
  refine Sx.bipush (v := (nI 62)) dX4_goOnBehind_190 (by decide) ?_
  refine Sx.icmp_neV (t := 205) dX4_goOnBehind_192 (by decide) (vN (by decide)) (vN (by decide)) (fun c192 => ?_) (fun c192 => False.elim (by omega))
  refine Sx.aload_n dX4_goOnBehind_205 rfl ?_
  refine Sx.iconst (v := (nI 3)) dX4_goOnBehind_206 (by decide) ?_
  refine Sx.putfV dX4_goOnBehind_207 lkp_X4_24_4 (o_107 W) rfl rfl (fun I2 e2 o2 => ?_)
  have L2 : LR I2 (upn (upn M 1 (M 1 + 1)) 2 (3)) (upn S (M 1) 47) := L1.up (j := 2) (by decide) e2 o2
  have K2 : LK I2 a k := K1.o (o2 a (by omega)) (o2 (a + 1) (by omega))
  refine Sx.vret dX4_goOnBehind_210 rfl ?_
  exact h I2 L2 K2 (fun q q1 q2 q3 q4 => by rw [o2 q q1, o1 q q1 q2])
set_option maxRecDepth 20000 in
set_option maxHeartbeats 1000000 in
theorem l_go61 {G : Gt} {l : Launch} {Z : Zt} {R : Rt} {L : Lt} {post : Pt'} {I : It} {M S : Nat → Nat} {a : Nat} {k : List Int32} (W : WF Z R) (hr : rwo Z R a 3 240) (ha : 233 ≤ a) (hL : LR I M S) (hk : LK I a k) (hw : M 1 < 64) (h : ∀ I', LR I' (upn (upn (upn (upn M 1 (M 1 + 1)) 8 1) 6 1) 2 3) (upn S (M 1) 61) → LK I' a k → (∀ q, q ≠ 107 → q ≠ 109 → q ≠ a → q ≠ a + 1 → I' q = I q) → post none Z R I' L) : Sx G l mX4_goOnBehind 4 0 0 13 [(0, .ref 107), (1, .int (nI 61)), (2, .ref a)] [] Z R I L post := by
  refine Sx.iload_n dX4_goOnBehind_13 rfl ?_
  refine Sx.lookup (t := 172) dX4_goOnBehind_14 (by decide) (o := 158) (by decide) (by decide) ?_
  refine Sx.aload_n dX4_goOnBehind_172 rfl ?_
  refine Sx.iload_n dX4_goOnBehind_173 rfl ?_
  refine Sx.callV1 dX4_goOnBehind_174 lkv_X4_90 (rcv_4 (o_107 W)) (by decide) (by decide) (Nat.le_of_ble_eq_true rfl) rfl rfl (d_await W hL hw (fun I1 L1 o1 => ?_))
  have K1 : LK I1 a k := hk.o (o1 a (by omega) (by omega)) (o1 (a + 1) (by omega) (by omega))
  refine Sx.iload_n dX4_goOnBehind_177 rfl ?_
  refine Sx.bipush (v := (nI 61)) dX4_goOnBehind_178 (by decide) ?_
  refine Sx.icmp_eqV (t := 195) dX4_goOnBehind_180 (by decide) (vN (by decide)) (vN (by decide)) (fun c180 => ?_) (fun c180 => False.elim (by omega))
  refine Sx.aload_n dX4_goOnBehind_195 rfl ?_
  refine Sx.iconst (v := (nI 1)) dX4_goOnBehind_196 (by decide) ?_
  refine Sx.putfV dX4_goOnBehind_197 lkp_X4_43_4 (o_107 W) rfl rfl (fun I2 e2 o2 => ?_)
  have L2 : LR I2 (upn (upn M 1 (M 1 + 1)) 8 (1)) (upn S (M 1) 61) := L1.up (j := 8) (by decide) e2 o2
  have K2 : LK I2 a k := K1.o (o2 a (by omega)) (o2 (a + 1) (by omega))
  refine Sx.aload_n dX4_goOnBehind_200 rfl ?_
  refine Sx.iconst (v := (nI 1)) dX4_goOnBehind_201 (by decide) ?_
  refine Sx.putfV dX4_goOnBehind_202 lkp_X4_36_4 (o_107 W) rfl rfl (fun I3 e3 o3 => ?_)
  have L3 : LR I3 (upn (upn (upn M 1 (M 1 + 1)) 8 (1)) 6 (1)) (upn S (M 1) 61) := L2.up (j := 6) (by decide) e3 o3
  have K3 : LK I3 a k := K2.o (o3 a (by omega)) (o3 (a + 1) (by omega))
  refine Sx.aload_n dX4_goOnBehind_205 rfl ?_
  refine Sx.iconst (v := (nI 3)) dX4_goOnBehind_206 (by decide) ?_
  refine Sx.putfV dX4_goOnBehind_207 lkp_X4_24_4 (o_107 W) rfl rfl (fun I4 e4 o4 => ?_)
  have L4 : LR I4 (upn (upn (upn (upn M 1 (M 1 + 1)) 8 (1)) 6 (1)) 2 (3)) (upn S (M 1) 61) := L3.up (j := 2) (by decide) e4 o4
  have K4 : LK I4 a k := K3.o (o4 a (by omega)) (o4 (a + 1) (by omega))
  refine Sx.vret dX4_goOnBehind_210 rfl ?_
  exact h I4 L4 K4 (fun q q1 q2 q3 q4 => by rw [o4 q q1, o3 q q1, o2 q q1, o1 q q1 q2])
set_option maxRecDepth 20000 in
set_option maxHeartbeats 1000000 in
theorem l_go60 {G : Gt} {l : Launch} {Z : Zt} {R : Rt} {L : Lt} {post : Pt'} {I : It} {M S : Nat → Nat} {a : Nat} {k : List Int32} (W : WF Z R) (hr : rwo Z R a 3 240) (ha : 233 ≤ a) (hL : LR I M S) (hk : LK I a k) (hw : M 1 < 64) (h : ∀ I', LR I' (upn (upn (upn (upn M 1 (M 1 + 1)) 8 1) 6 1) 2 3) (upn S (M 1) 60) → LK I' a k → (∀ q, q ≠ 107 → q ≠ 109 → q ≠ a → q ≠ a + 1 → I' q = I q) → post none Z R I' L) : Sx G l mX4_goOnBehind 4 0 0 13 [(0, .ref 107), (1, .int (nI 60)), (2, .ref a)] [] Z R I L post := by
  refine Sx.iload_n dX4_goOnBehind_13 rfl ?_
  refine Sx.lookup (t := 172) dX4_goOnBehind_14 (by decide) (o := 158) (by decide) (by decide) ?_
  refine Sx.aload_n dX4_goOnBehind_172 rfl ?_
  refine Sx.iload_n dX4_goOnBehind_173 rfl ?_
  refine Sx.callV1 dX4_goOnBehind_174 lkv_X4_90 (rcv_4 (o_107 W)) (by decide) (by decide) (Nat.le_of_ble_eq_true rfl) rfl rfl (d_await W hL hw (fun I1 L1 o1 => ?_))
  have K1 : LK I1 a k := hk.o (o1 a (by omega) (by omega)) (o1 (a + 1) (by omega) (by omega))
  refine Sx.iload_n dX4_goOnBehind_177 rfl ?_
  refine Sx.bipush (v := (nI 61)) dX4_goOnBehind_178 (by decide) ?_
  refine Sx.icmp_eqV (t := 195) dX4_goOnBehind_180 (by decide) (vN (by decide)) (vN (by decide)) (fun c180 => False.elim (by omega)) (fun c180 => ?_)
  refine Sx.iload_n dX4_goOnBehind_183 rfl ?_
  refine Sx.bipush (v := (nI 60)) dX4_goOnBehind_184 (by decide) ?_
  refine Sx.icmp_eqV (t := 195) dX4_goOnBehind_186 (by decide) (vN (by decide)) (vN (by decide)) (fun c186 => ?_) (fun c186 => False.elim (by omega))
  refine Sx.aload_n dX4_goOnBehind_195 rfl ?_
  refine Sx.iconst (v := (nI 1)) dX4_goOnBehind_196 (by decide) ?_
  refine Sx.putfV dX4_goOnBehind_197 lkp_X4_43_4 (o_107 W) rfl rfl (fun I2 e2 o2 => ?_)
  have L2 : LR I2 (upn (upn M 1 (M 1 + 1)) 8 (1)) (upn S (M 1) 60) := L1.up (j := 8) (by decide) e2 o2
  have K2 : LK I2 a k := K1.o (o2 a (by omega)) (o2 (a + 1) (by omega))
  refine Sx.aload_n dX4_goOnBehind_200 rfl ?_
  refine Sx.iconst (v := (nI 1)) dX4_goOnBehind_201 (by decide) ?_
  refine Sx.putfV dX4_goOnBehind_202 lkp_X4_36_4 (o_107 W) rfl rfl (fun I3 e3 o3 => ?_)
  have L3 : LR I3 (upn (upn (upn M 1 (M 1 + 1)) 8 (1)) 6 (1)) (upn S (M 1) 60) := L2.up (j := 6) (by decide) e3 o3
  have K3 : LK I3 a k := K2.o (o3 a (by omega)) (o3 (a + 1) (by omega))
  refine Sx.aload_n dX4_goOnBehind_205 rfl ?_
  refine Sx.iconst (v := (nI 3)) dX4_goOnBehind_206 (by decide) ?_
  refine Sx.putfV dX4_goOnBehind_207 lkp_X4_24_4 (o_107 W) rfl rfl (fun I4 e4 o4 => ?_)
  have L4 : LR I4 (upn (upn (upn (upn M 1 (M 1 + 1)) 8 (1)) 6 (1)) 2 (3)) (upn S (M 1) 60) := L3.up (j := 2) (by decide) e4 o4
  have K4 : LK I4 a k := K3.o (o4 a (by omega)) (o4 (a + 1) (by omega))
  refine Sx.vret dX4_goOnBehind_210 rfl ?_
  exact h I4 L4 K4 (fun q q1 q2 q3 q4 => by rw [o4 q q1, o3 q q1, o2 q q1, o1 q q1 q2])
set_option maxRecDepth 20000 in
set_option maxHeartbeats 1000000 in
theorem l_go62 {G : Gt} {l : Launch} {Z : Zt} {R : Rt} {L : Lt} {post : Pt'} {I : It} {M S : Nat → Nat} {a : Nat} {k : List Int32} (W : WF Z R) (hr : rwo Z R a 3 240) (ha : 233 ≤ a) (hL : LR I M S) (hk : LK I a k) (hw : M 1 < 64) (h : ∀ I', LR I' (upn (upn (upn (upn M 1 (M 1 + 1)) 8 1) 6 1) 2 3) (upn S (M 1) 62) → LK I' a k → (∀ q, q ≠ 107 → q ≠ 109 → q ≠ a → q ≠ a + 1 → I' q = I q) → post none Z R I' L) : Sx G l mX4_goOnBehind 4 0 0 13 [(0, .ref 107), (1, .int (nI 62)), (2, .ref a)] [] Z R I L post := by
  refine Sx.iload_n dX4_goOnBehind_13 rfl ?_
  refine Sx.lookup (t := 172) dX4_goOnBehind_14 (by decide) (o := 158) (by decide) (by decide) ?_
  refine Sx.aload_n dX4_goOnBehind_172 rfl ?_
  refine Sx.iload_n dX4_goOnBehind_173 rfl ?_
  refine Sx.callV1 dX4_goOnBehind_174 lkv_X4_90 (rcv_4 (o_107 W)) (by decide) (by decide) (Nat.le_of_ble_eq_true rfl) rfl rfl (d_await W hL hw (fun I1 L1 o1 => ?_))
  have K1 : LK I1 a k := hk.o (o1 a (by omega) (by omega)) (o1 (a + 1) (by omega) (by omega))
  refine Sx.iload_n dX4_goOnBehind_177 rfl ?_
  refine Sx.bipush (v := (nI 61)) dX4_goOnBehind_178 (by decide) ?_
  refine Sx.icmp_eqV (t := 195) dX4_goOnBehind_180 (by decide) (vN (by decide)) (vN (by decide)) (fun c180 => False.elim (by omega)) (fun c180 => ?_)
  refine Sx.iload_n dX4_goOnBehind_183 rfl ?_
  refine Sx.bipush (v := (nI 60)) dX4_goOnBehind_184 (by decide) ?_
  refine Sx.icmp_eqV (t := 195) dX4_goOnBehind_186 (by decide) (vN (by decide)) (vN (by decide)) (fun c186 => False.elim (by omega)) (fun c186 => ?_)
  refine Sx.iload_n dX4_goOnBehind_189 rfl ?_
  refine Sx.bipush (v := (nI 62)) dX4_goOnBehind_190 (by decide) ?_
  refine Sx.icmp_neV (t := 205) dX4_goOnBehind_192 (by decide) (vN (by decide)) (vN (by decide)) (fun c192 => False.elim (by omega)) (fun c192 => ?_)
  refine Sx.aload_n dX4_goOnBehind_195 rfl ?_
  refine Sx.iconst (v := (nI 1)) dX4_goOnBehind_196 (by decide) ?_
  refine Sx.putfV dX4_goOnBehind_197 lkp_X4_43_4 (o_107 W) rfl rfl (fun I2 e2 o2 => ?_)
  have L2 : LR I2 (upn (upn M 1 (M 1 + 1)) 8 (1)) (upn S (M 1) 62) := L1.up (j := 8) (by decide) e2 o2
  have K2 : LK I2 a k := K1.o (o2 a (by omega)) (o2 (a + 1) (by omega))
  refine Sx.aload_n dX4_goOnBehind_200 rfl ?_
  refine Sx.iconst (v := (nI 1)) dX4_goOnBehind_201 (by decide) ?_
  refine Sx.putfV dX4_goOnBehind_202 lkp_X4_36_4 (o_107 W) rfl rfl (fun I3 e3 o3 => ?_)
  have L3 : LR I3 (upn (upn (upn M 1 (M 1 + 1)) 8 (1)) 6 (1)) (upn S (M 1) 62) := L2.up (j := 6) (by decide) e3 o3
  have K3 : LK I3 a k := K2.o (o3 a (by omega)) (o3 (a + 1) (by omega))
  refine Sx.aload_n dX4_goOnBehind_205 rfl ?_
  refine Sx.iconst (v := (nI 3)) dX4_goOnBehind_206 (by decide) ?_
  refine Sx.putfV dX4_goOnBehind_207 lkp_X4_24_4 (o_107 W) rfl rfl (fun I4 e4 o4 => ?_)
  have L4 : LR I4 (upn (upn (upn (upn M 1 (M 1 + 1)) 8 (1)) 6 (1)) 2 (3)) (upn S (M 1) 62) := L3.up (j := 2) (by decide) e4 o4
  have K4 : LK I4 a k := K3.o (o4 a (by omega)) (o4 (a + 1) (by omega))
  refine Sx.vret dX4_goOnBehind_210 rfl ?_
  exact h I4 L4 K4 (fun q q1 q2 q3 q4 => by rw [o4 q q1, o3 q q1, o2 q q1, o1 q q1 q2])
set_option maxRecDepth 20000 in
set_option maxHeartbeats 1000000 in
theorem l_go93 {G : Gt} {l : Launch} {Z : Zt} {R : Rt} {L : Lt} {post : Pt'} {I : It} {M S : Nat → Nat} {a : Nat} {k : List Int32} (W : WF Z R) (hr : rwo Z R a 3 240) (ha : 233 ≤ a) (hL : LR I M S) (hk : LK I a k) (h1 : 1 ≤ M 1) (h3 : 1 ≤ M 3 ∧ M 3 < 1000) (h5 : 1 ≤ M 5 ∧ M 5 < 1000) (h : ∀ I', LR I' (upn (upn (upn (upn M 1 (M 1 - 1)) 3 (M 3 - 1)) 5 (M 5 - 1)) 2 4) S → LK I' a k → (∀ q, q ≠ 107 → q ≠ 109 → q ≠ a → q ≠ a + 1 → I' q = I q) → post none Z R I' L) : Sx G l mX4_goOnBehind 4 0 0 13 [(0, .ref 107), (1, .int (nI 93)), (2, .ref a)] [] Z R I L post := by
  refine Sx.iload_n dX4_goOnBehind_13 rfl ?_
  refine Sx.lookup (t := 72) dX4_goOnBehind_14 (by decide) (o := 58) (by decide) (by decide) ?_
  refine Sx.aload_n dX4_goOnBehind_72 rfl ?_
  refine Sx.callV0 dX4_goOnBehind_73 lkv_X4_127 (rcv_4 (o_107 W)) (by decide) (by decide) (Nat.le_of_ble_eq_true rfl) rfl rfl (d_close W hL h1 h3 (fun I1 L1 o1 => ?_))
  have K1 : LK I1 a k := hk.o (o1 a (by omega)) (o1 (a + 1) (by omega))
  refine Sx.aload_n dX4_goOnBehind_76 rfl ?_
  refine Sx.dup dX4_goOnBehind_77 rfl ?_
  refine Sx.getfV (v := (nI (M 5))) dX4_goOnBehind_78 lkf_X4_33_4 (o_107 W) (L1.1 5 (by decide) (by decide)) ?_
  refine Sx.iconst (v := (nI 1)) dX4_goOnBehind_81 (by decide) ?_
  refine Sx.isubN dX4_goOnBehind_82 (by omega) ?_
  refine Sx.putfV dX4_goOnBehind_83 lkp_X4_33_4 (o_107 W) rfl rfl (fun I2 e2 o2 => ?_)
  have L2 : LR I2 (upn (upn (upn M 1 (M 1 - 1)) 3 (M 3 - 1)) 5 ((M 5) - 1)) S := L1.up (j := 5) (by decide) e2 o2
  have K2 : LK I2 a k := K1.o (o2 a (by omega)) (o2 (a + 1) (by omega))
  refine Sx.aload_n dX4_goOnBehind_86 rfl ?_
  refine Sx.iconst (v := (nI 4)) dX4_goOnBehind_87 (by decide) ?_
  refine Sx.putfV dX4_goOnBehind_88 lkp_X4_24_4 (o_107 W) rfl rfl (fun I3 e3 o3 => ?_)
  have L3 : LR I3 (upn (upn (upn (upn M 1 (M 1 - 1)) 3 (M 3 - 1)) 5 ((M 5) - 1)) 2 (4)) S := L2.up (j := 2) (by decide) e3 o3
  have K3 : LK I3 a k := K2.o (o3 a (by omega)) (o3 (a + 1) (by omega))
  refine Sx.goto (t := 210) dX4_goOnBehind_91 (by decide) ?_
  refine Sx.vret dX4_goOnBehind_210 rfl ?_
  exact h I3 L3 K3 (fun q q1 q2 q3 q4 => by rw [o3 q q1, o2 q q1, o1 q q1])
set_option maxRecDepth 20000 in
set_option maxHeartbeats 1000000 in
theorem l_go38 {G : Gt} {l : Launch} {Z : Zt} {R : Rt} {L : Lt} {post : Pt'} {I : It} {M S : Nat → Nat} {a : Nat} {k : List Int32} (W : WF Z R) (hr : rwo Z R a 3 240) (ha : 233 ≤ a) (hL : LR I M S) (hk : LK I a k) (hw : M 1 < 64) (h : ∀ I', LR I' (upn (upn (upn M 1 (M 1 + 1)) 8 0) 2 2) (upn S (M 1) 38) → LK I' a k → (∀ q, q ≠ 107 → q ≠ 109 → q ≠ a → q ≠ a + 1 → I' q = I q) → post none Z R I' L) : Sx G l mX4_goOnBehind 4 0 0 13 [(0, .ref 107), (1, .int (nI 38)), (2, .ref a)] [] Z R I L post := by
  refine Sx.iload_n dX4_goOnBehind_13 rfl ?_
  refine Sx.lookup (t := 154) dX4_goOnBehind_14 (by decide) (o := 140) (by decide) (by decide) ?_
  refine Sx.aload_n dX4_goOnBehind_154 rfl ?_
  refine Sx.iload_n dX4_goOnBehind_155 rfl ?_
  refine Sx.callV1 dX4_goOnBehind_156 lkv_X4_90 (rcv_4 (o_107 W)) (by decide) (by decide) (Nat.le_of_ble_eq_true rfl) rfl rfl (d_await W hL hw (fun I1 L1 o1 => ?_))
  have K1 : LK I1 a k := hk.o (o1 a (by omega) (by omega)) (o1 (a + 1) (by omega) (by omega))
  refine Sx.aload_n dX4_goOnBehind_159 rfl ?_
  refine Sx.iconst (v := (nI 0)) dX4_goOnBehind_160 (by decide) ?_
  refine Sx.putfV dX4_goOnBehind_161 lkp_X4_43_4 (o_107 W) rfl rfl (fun I2 e2 o2 => ?_)
  have L2 : LR I2 (upn (upn M 1 (M 1 + 1)) 8 (0)) (upn S (M 1) 38) := L1.up (j := 8) (by decide) e2 o2
  have K2 : LK I2 a k := K1.o (o2 a (by omega)) (o2 (a + 1) (by omega))
  refine Sx.aload_n dX4_goOnBehind_164 rfl ?_
  refine Sx.iconst (v := (nI 2)) dX4_goOnBehind_165 (by decide) ?_
  refine Sx.putfV dX4_goOnBehind_166 lkp_X4_24_4 (o_107 W) rfl rfl (fun I3 e3 o3 => ?_)
  have L3 : LR I3 (upn (upn (upn M 1 (M 1 + 1)) 8 (0)) 2 (2)) (upn S (M 1) 38) := L2.up (j := 2) (by decide) e3 o3
  have K3 : LK I3 a k := K2.o (o3 a (by omega)) (o3 (a + 1) (by omega))
  refine Sx.goto (t := 210) dX4_goOnBehind_169 (by decide) ?_
  refine Sx.vret dX4_goOnBehind_210 rfl ?_
  exact h I3 L3 K3 (fun q q1 q2 q3 q4 => by rw [o3 q q1, o2 q q1, o1 q q1 q2])
set_option maxRecDepth 20000 in
set_option maxHeartbeats 1000000 in
theorem l_go124 {G : Gt} {l : Launch} {Z : Zt} {R : Rt} {L : Lt} {post : Pt'} {I : It} {M S : Nat → Nat} {a : Nat} {k : List Int32} (W : WF Z R) (hr : rwo Z R a 3 240) (ha : 233 ≤ a) (hL : LR I M S) (hk : LK I a k) (hw : M 1 < 64) (h : ∀ I', LR I' (upn (upn (upn M 1 (M 1 + 1)) 8 0) 2 2) (upn S (M 1) 124) → LK I' a k → (∀ q, q ≠ 107 → q ≠ 109 → q ≠ a → q ≠ a + 1 → I' q = I q) → post none Z R I' L) : Sx G l mX4_goOnBehind 4 0 0 13 [(0, .ref 107), (1, .int (nI 124)), (2, .ref a)] [] Z R I L post := by
  refine Sx.iload_n dX4_goOnBehind_13 rfl ?_
  refine Sx.lookup (t := 154) dX4_goOnBehind_14 (by decide) (o := 140) (by decide) (by decide) ?_
  refine Sx.aload_n dX4_goOnBehind_154 rfl ?_
  refine Sx.iload_n dX4_goOnBehind_155 rfl ?_
  refine Sx.callV1 dX4_goOnBehind_156 lkv_X4_90 (rcv_4 (o_107 W)) (by decide) (by decide) (Nat.le_of_ble_eq_true rfl) rfl rfl (d_await W hL hw (fun I1 L1 o1 => ?_))
  have K1 : LK I1 a k := hk.o (o1 a (by omega) (by omega)) (o1 (a + 1) (by omega) (by omega))
  refine Sx.aload_n dX4_goOnBehind_159 rfl ?_
  refine Sx.iconst (v := (nI 0)) dX4_goOnBehind_160 (by decide) ?_
  refine Sx.putfV dX4_goOnBehind_161 lkp_X4_43_4 (o_107 W) rfl rfl (fun I2 e2 o2 => ?_)
  have L2 : LR I2 (upn (upn M 1 (M 1 + 1)) 8 (0)) (upn S (M 1) 124) := L1.up (j := 8) (by decide) e2 o2
  have K2 : LK I2 a k := K1.o (o2 a (by omega)) (o2 (a + 1) (by omega))
  refine Sx.aload_n dX4_goOnBehind_164 rfl ?_
  refine Sx.iconst (v := (nI 2)) dX4_goOnBehind_165 (by decide) ?_
  refine Sx.putfV dX4_goOnBehind_166 lkp_X4_24_4 (o_107 W) rfl rfl (fun I3 e3 o3 => ?_)
  have L3 : LR I3 (upn (upn (upn M 1 (M 1 + 1)) 8 (0)) 2 (2)) (upn S (M 1) 124) := L2.up (j := 2) (by decide) e3 o3
  have K3 : LK I3 a k := K2.o (o3 a (by omega)) (o3 (a + 1) (by omega))
  refine Sx.goto (t := 210) dX4_goOnBehind_169 (by decide) ?_
  refine Sx.vret dX4_goOnBehind_210 rfl ?_
  exact h I3 L3 K3 (fun q q1 q2 q3 q4 => by rw [o3 q q1, o2 q q1, o1 q q1 q2])
set_option maxRecDepth 20000 in
set_option maxHeartbeats 1000000 in
theorem l_go41 {G : Gt} {l : Launch} {Z : Zt} {R : Rt} {L : Lt} {post : Pt'} {I : It} {M S : Nat → Nat} {a : Nat} {k : List Int32} (W : WF Z R) (hr : rwo Z R a 3 240) (ha : 233 ≤ a) (hL : LR I M S) (hk : LK I a k) (h1 : 1 ≤ M 1) (h3 : 1 ≤ M 3 ∧ M 3 < 1000) (h5 : 1 ≤ M 4 ∧ M 4 < 1000) (h : ∀ I', LR I' (upn (upn (upn (upn M 1 (M 1 - 1)) 3 (M 3 - 1)) 4 (M 4 - 1)) 2 5) S → LK I' a k → (∀ q, q ≠ 107 → q ≠ 109 → q ≠ a → q ≠ a + 1 → I' q = I q) → post none Z R I' L) : Sx G l mX4_goOnBehind 4 0 0 13 [(0, .ref 107), (1, .int (nI 41)), (2, .ref a)] [] Z R I L post := by
  refine Sx.iload_n dX4_goOnBehind_13 rfl ?_
  refine Sx.lookup (t := 94) dX4_goOnBehind_14 (by decide) (o := 80) (by decide) (by decide) ?_
  refine Sx.aload_n dX4_goOnBehind_94 rfl ?_
  refine Sx.callV0 dX4_goOnBehind_95 lkv_X4_127 (rcv_4 (o_107 W)) (by decide) (by decide) (Nat.le_of_ble_eq_true rfl) rfl rfl (d_close W hL h1 h3 (fun I1 L1 o1 => ?_))
  have K1 : LK I1 a k := hk.o (o1 a (by omega)) (o1 (a + 1) (by omega))
  refine Sx.aload_n dX4_goOnBehind_98 rfl ?_
  refine Sx.dup dX4_goOnBehind_99 rfl ?_
  refine Sx.getfV (v := (nI (M 4))) dX4_goOnBehind_100 lkf_X4_30_4 (o_107 W) (L1.1 4 (by decide) (by decide)) ?_
  refine Sx.iconst (v := (nI 1)) dX4_goOnBehind_103 (by decide) ?_
  refine Sx.isubN dX4_goOnBehind_104 (by omega) ?_
  refine Sx.putfV dX4_goOnBehind_105 lkp_X4_30_4 (o_107 W) rfl rfl (fun I2 e2 o2 => ?_)
  have L2 : LR I2 (upn (upn (upn M 1 (M 1 - 1)) 3 (M 3 - 1)) 4 ((M 4) - 1)) S := L1.up (j := 4) (by decide) e2 o2
  have K2 : LK I2 a k := K1.o (o2 a (by omega)) (o2 (a + 1) (by omega))
  refine Sx.aload_n dX4_goOnBehind_108 rfl ?_
  refine Sx.iconst (v := (nI 5)) dX4_goOnBehind_109 (by decide) ?_
  refine Sx.putfV dX4_goOnBehind_110 lkp_X4_24_4 (o_107 W) rfl rfl (fun I3 e3 o3 => ?_)
  have L3 : LR I3 (upn (upn (upn (upn M 1 (M 1 - 1)) 3 (M 3 - 1)) 4 ((M 4) - 1)) 2 (5)) S := L2.up (j := 2) (by decide) e3 o3
  have K3 : LK I3 a k := K2.o (o3 a (by omega)) (o3 (a + 1) (by omega))
  refine Sx.goto (t := 210) dX4_goOnBehind_113 (by decide) ?_
  refine Sx.vret dX4_goOnBehind_210 rfl ?_
  exact h I3 L3 K3 (fun q q1 q2 q3 q4 => by rw [o3 q q1, o2 q q1, o1 q q1])
set_option maxRecDepth 20000 in
set_option maxHeartbeats 1000000 in
theorem l_go63 {G : Gt} {l : Launch} {Z : Zt} {R : Rt} {L : Lt} {post : Pt'} {I : It} {M S : Nat → Nat} {a : Nat} {k : List Int32} (W : WF Z R) (hr : rwo Z R a 3 240) (ha : 233 ≤ a) (hL : LR I M S) (hk : LK I a k) (hkl : k.length < 240) (h : ∀ I', LR I' (upn (upn (upn M 7 1) 8 0) 2 3) S → LK I' a (k ++ [negS 63]) → (∀ q, q ≠ 107 → q ≠ 109 → q ≠ a → q ≠ a + 1 → I' q = I q) → post none Z R I' L) : Sx G l mX4_goOnBehind 4 0 0 13 [(0, .ref 107), (1, .int (nI 63)), (2, .ref a)] [] Z R I L post := by
  refine Sx.iload_n dX4_goOnBehind_13 rfl ?_
  refine Sx.lookup (t := 130) dX4_goOnBehind_14 (by decide) (o := 116) (by decide) (by decide) ?_
  refine Sx.aload_n dX4_goOnBehind_130 rfl ?_
  refine Sx.bipush (v := (iI (-63))) dX4_goOnBehind_131 (by decide) ?_
  refine Sx.callV1 dX4_goOnBehind_133 lkv_X4_103 (rcv_3 hr.1) (by decide) (by decide) (Nat.le_of_ble_eq_true rfl) rfl rfl (d_addK (k := k) hr hk hkl (fun I1 K1 o1 => ?_))
  have L1 : LR I1 M S := hL.o fun q hq => o1 q (by omega) (by omega)
  refine Sx.aload_n dX4_goOnBehind_136 rfl ?_
  refine Sx.iconst (v := (nI 1)) dX4_goOnBehind_137 (by decide) ?_
  refine Sx.putfV dX4_goOnBehind_138 lkp_X4_40_4 (o_107 W) rfl rfl (fun I2 e2 o2 => ?_)
  have L2 : LR I2 (upn M 7 (1)) S := L1.up (j := 7) (by decide) e2 o2
  have K2 : LK I2 a (k ++ [iI (-63)]) := K1.o (o2 a (by omega)) (o2 (a + 1) (by omega))
  refine Sx.aload_n dX4_goOnBehind_141 rfl ?_
  refine Sx.iconst (v := (nI 0)) dX4_goOnBehind_142 (by decide) ?_
  refine Sx.putfV dX4_goOnBehind_143 lkp_X4_43_4 (o_107 W) rfl rfl (fun I3 e3 o3 => ?_)
  have L3 : LR I3 (upn (upn M 7 (1)) 8 (0)) S := L2.up (j := 8) (by decide) e3 o3
  have K3 : LK I3 a (k ++ [iI (-63)]) := K2.o (o3 a (by omega)) (o3 (a + 1) (by omega))
  refine Sx.aload_n dX4_goOnBehind_146 rfl ?_
  refine Sx.iconst (v := (nI 3)) dX4_goOnBehind_147 (by decide) ?_
  refine Sx.putfV dX4_goOnBehind_148 lkp_X4_24_4 (o_107 W) rfl rfl (fun I4 e4 o4 => ?_)
  have L4 : LR I4 (upn (upn (upn M 7 (1)) 8 (0)) 2 (3)) S := L3.up (j := 2) (by decide) e4 o4
  have K4 : LK I4 a (k ++ [iI (-63)]) := K3.o (o4 a (by omega)) (o4 (a + 1) (by omega))
  refine Sx.goto (t := 210) dX4_goOnBehind_151 (by decide) ?_
  refine Sx.vret dX4_goOnBehind_210 rfl ?_
  exact h I4 L4 K4 (fun q q1 q2 q3 q4 => by rw [o4 q q1, o3 q q1, o2 q q1, o1 q q3 q4])
set_option maxRecDepth 20000 in
set_option maxHeartbeats 1000000 in
theorem l_go59 {G : Gt} {l : Launch} {Z : Zt} {R : Rt} {L : Lt} {post : Pt'} {I : It} {M S : Nat → Nat} {a : Nat} {k : List Int32} (W : WF Z R) (hr : rwo Z R a 3 240) (ha : 233 ≤ a) (hL : LR I M S) (hk : LK I a k) (hkl : k.length < 240) (h : ∀ I', LR I' (upn M 2 0) S → LK I' a (k ++ [negS 59]) → (∀ q, q ≠ 107 → q ≠ 109 → q ≠ a → q ≠ a + 1 → I' q = I q) → post none Z R I' L) : Sx G l mX4_goOnBehind 4 0 0 13 [(0, .ref 107), (1, .int (nI 59)), (2, .ref a)] [] Z R I L post := by
  refine Sx.iload_n dX4_goOnBehind_13 rfl ?_
  refine Sx.lookup (t := 116) dX4_goOnBehind_14 (by decide) (o := 102) (by decide) (by decide) ?_
  refine Sx.aload_n dX4_goOnBehind_116 rfl ?_
  refine Sx.bipush (v := (iI (-59))) dX4_goOnBehind_117 (by decide) ?_
  refine Sx.callV1 dX4_goOnBehind_119 lkv_X4_103 (rcv_3 hr.1) (by decide) (by decide) (Nat.le_of_ble_eq_true rfl) rfl rfl (d_addK (k := k) hr hk hkl (fun I1 K1 o1 => ?_))
  have L1 : LR I1 M S := hL.o fun q hq => o1 q (by omega) (by omega)
  refine Sx.aload_n dX4_goOnBehind_122 rfl ?_
  refine Sx.iconst (v := (nI 0)) dX4_goOnBehind_123 (by decide) ?_
  refine Sx.putfV dX4_goOnBehind_124 lkp_X4_24_4 (o_107 W) rfl rfl (fun I2 e2 o2 => ?_)
  have L2 : LR I2 (upn M 2 (0)) S := L1.up (j := 2) (by decide) e2 o2
  have K2 : LK I2 a (k ++ [iI (-59)]) := K1.o (o2 a (by omega)) (o2 (a + 1) (by omega))
  refine Sx.goto (t := 210) dX4_goOnBehind_127 (by decide) ?_
  refine Sx.vret dX4_goOnBehind_210 rfl ?_
  exact h I2 L2 K2 (fun q q1 q2 q3 q4 => by rw [o2 q q1, o1 q q3 q4])
