/-! a seaport's numbers and a state's, as naturals (a governor by one more, 0 none) -/
def rep (n : Nat) (f : Nat → Int32) (F : Nat → Nat) : Prop := ∀ j, j < n → f j = nI (F j)
def sv (j x : Nat) : Int32 := if j = 143 then nI x - 1 else nI x
def rs (f : Nat → Int32) (F : Nat → Nat) : Prop := ∀ j, j < 146 → f j = sv j (F j)
def upn (F : Nat → Nat) (k x : Nat) : Nat → Nat := fun j => if j = k then x else F j
theorem upn_eq (F : Nat → Nat) (k x : Nat) : upn F k x k = x := by simp [upn]
theorem upn_ne (F : Nat → Nat) {k j : Nat} (x : Nat) (h : j ≠ k) : upn F k x j = F j := by simp [upn, h]
/-- all that a state holds is small -/
def bnd (F : Nat → Nat) : Prop := ∀ j, j < 146 → F j < 2 ^ 24
theorem sv_n {j x : Nat} (h : j ≠ 143) : sv j x = nI x := by unfold sv; rw [if_neg h]
theorem rs_upd {f : Nat → Int32} {F : Nat → Nat} {k x : Nat} {v : Int32} (h : rs f F) (hv : v = sv k x) : rs (upd f k v) (upn F k x) := by
  intro j hj
  unfold upd upn
  split
  · next e => subst e; exact hv
  · exact h j hj
theorem rep_upd {n : Nat} {f : Nat → Int32} {F : Nat → Nat} {k x : Nat} {v : Int32} (h : rep n f F) (hv : v = nI x) : rep n (upd f k v) (upn F k x) := by
  intro j hj
  unfold upd upn
  split
  · exact hv
  · exact h j hj
theorem rs_cpy {f g : Nat → Int32} {F : Nat → Nat} (h : rs f F) : rs (rcpy 146 f g) F := by
  intro j hj
  rw [rcpy, if_pos hj]
  exact h j hj
theorem rep_cpy {n : Nat} {f g : Nat → Int32} {F : Nat → Nat} (h : rep n f F) : rep n (rcpy n f g) F := by
  intro j hj
  rw [rcpy, if_pos hj]
  exact h j hj
theorem rC6 : rowC 6 := by unfold rowC; omega
theorem rC7 : rowC 7 := by unfold rowC; omega
theorem rC8 : rowC 8 := by unfold rowC; omega
theorem rC3 : rowC 3 := by unfold rowC; omega
theorem rC0 : rowC 0 := by unfold rowC; omega
theorem c_sg {G : Gt} {l : Launch} {Z : Zt} {R : Rt} {I : It} {L : Lt} {post : Pt'} {s : Nat} {F : Nat → Nat} {i : Int32} (hr : rwo Z R s 8 146) (hs : rs (I (s + 1)) F) (k : Nat) (hi : i = nI k) (hk : k < 146) (hk2 : k ≠ 143) (h : post (some (.int (nI (F k)))) Z R I L) : Cx G l mX7_get 1 0 0 [.ref s, .int i] Z R I L post :=
  c_get hr rC8 (by decide) k hi hk (by rw [hs k hk, sv_n hk2]; exact h)
theorem c_sgv {G : Gt} {l : Launch} {Z : Zt} {R : Rt} {I : It} {L : Lt} {post : Pt'} {s : Nat} {F : Nat → Nat} (hr : rwo Z R s 8 146) (hs : rs (I (s + 1)) F) (h : post (some (.int (nI (F 143) - 1))) Z R I L) : Cx G l mX7_get 1 0 0 [.ref s, .int 143] Z R I L post :=
  c_get hr rC8 (by decide) 143 rfl (by decide) (by rw [hs 143 (by decide)]; exact h)
theorem c_ss {G : Gt} {l : Launch} {Z : Zt} {R : Rt} {I : It} {L : Lt} {post : Pt'} {s : Nat} {F : Nat → Nat} {i v : Int32} (hr : rwo Z R s 8 146) (hs : rs (I (s + 1)) F) (k x : Nat) (hi : i = nI k) (hk : k < 146) (hv : v = sv k x) (h : ∀ I', rs (I' (s + 1)) (upn F k x) → (∀ q, q ≠ s + 1 → I' q = I q) → post none Z R I' L) : Cx G l mX7_set 1 0 0 [.ref s, .int i, .int v] Z R I L post :=
  c_set hr rC8 (by decide) k hi hk (fun I' e1 e2 => h I' (by rw [e1]; exact rs_upd hs hv) e2)
theorem c_rg {G : Gt} {l : Launch} {Z : Zt} {R : Rt} {I : It} {L : Lt} {post : Pt'} {a c n : Nat} {F : Nat → Nat} {i : Int32} (hr : rwo Z R a c n) (hc : rowC c) (hn : n < 2 ^ 31) (hs : rep n (I (a + 1)) F) (k : Nat) (hi : i = nI k) (hk : k < n) (h : post (some (.int (nI (F k)))) Z R I L) : Cx G l mX7_get 1 0 0 [.ref a, .int i] Z R I L post :=
  c_get hr hc hn k hi hk (by rw [hs k hk]; exact h)
theorem c_rs {G : Gt} {l : Launch} {Z : Zt} {R : Rt} {I : It} {L : Lt} {post : Pt'} {a c n : Nat} {F : Nat → Nat} {i v : Int32} (hr : rwo Z R a c n) (hc : rowC c) (hn : n < 2 ^ 31) (hs : rep n (I (a + 1)) F) (k x : Nat) (hi : i = nI k) (hk : k < n) (hv : v = nI x) (h : ∀ I', rep n (I' (a + 1)) (upn F k x) → (∀ q, q ≠ a + 1 → I' q = I q) → post none Z R I' L) : Cx G l mX7_set 1 0 0 [.ref a, .int i, .int v] Z R I L post :=
  c_set hr hc hn k hi hk (fun I' e1 e2 => h I' (by rw [e1]; exact rep_upd hs hv) e2)
set_option maxRecDepth 20000 in
set_option maxHeartbeats 1000000 in
theorem c_hasBit {G : Gt} {l : Launch} {Z : Zt} {R : Rt} {I : It} {L : Lt} {post : Pt'} {x p : Nat} (hx : x < 2 ^ 31) (hp : p < 32) (h : post (some (.int (b2i (hbN x p)))) Z R I L) : Cx G l mX11_hasBit 1 0 0 [.int (nI x), .int (nI p)] Z R I L post := by
  refine Cx.of (by decide +kernel) (by exact Nat.le_of_ble_eq_true rfl) ?_
  refine Sx.iload_n dX11_hasBit_0 rfl ?_
  refine Sx.iload_n dX11_hasBit_1 rfl ?_
  refine Sx.ishr dX11_hasBit_2 ?_
  refine Sx.iconst (v := 1) dX11_hasBit_3 (by decide) ?_
  refine Sx.iand dX11_hasBit_4 ?_
  rw [n_shr hx hp, n_and1 (by have := Nat.div_le_self x (2 ^ p); omega)]
  refine Sx.if_eq (t := 12) dX11_hasBit_5 (by decide) (fun c5 => ?_) (fun c5 => ?_)
  · refine Sx.iconst (v := 0) dX11_hasBit_12 (by decide) ?_
    refine Sx.iret dX11_hasBit_13 rfl rfl ?_
    have e : hbN x p = false := by
      have := (n_eq (by omega) (by decide)).mp (show nI (x / 2 ^ p % 2) = nI 0 from c5)
      simp [hbN, this]
    rw [e] at h; exact h
  · refine Sx.iconst (v := 1) dX11_hasBit_8 (by decide) ?_
    refine Sx.goto (t := 13) dX11_hasBit_9 (by decide) ?_
    refine Sx.iret dX11_hasBit_13 rfl rfl ?_
    have e : hbN x p = true := by
      have h2 : ¬ x / 2 ^ p % 2 = 0 := fun q => c5 (by rw [q]; rfl)
      have h3 : x / 2 ^ p % 2 = 1 := by omega
      simp [hbN, h3]
    rw [e] at h; exact h
def isDg (x : Int32) : Bool := decide (48 ≤ x ∧ x ≤ 57)
set_option maxRecDepth 20000 in
set_option maxHeartbeats 1000000 in
theorem c_isDigit {G : Gt} {l : Launch} {Z : Zt} {R : Rt} {I : It} {L : Lt} {post : Pt'} {x : Int32} (h : post (some (.int (b2i (isDg x)))) Z R I L) : Cx G l mX11_isDigit 1 0 0 [.int x] Z R I L post := by
  refine Cx.of (by decide +kernel) (by exact Nat.le_of_ble_eq_true rfl) ?_
  refine Sx.iload_n dX11_isDigit_0 rfl ?_
  refine Sx.bipush (v := 48) dX11_isDigit_1 (by decide) ?_
  refine Sx.icmp_lt (t := 16) dX11_isDigit_3 (by decide) (fun c3 => ?_) (fun c3 => ?_)
  · refine Sx.iconst (v := 0) dX11_isDigit_16 (by decide) ?_
    refine Sx.iret dX11_isDigit_17 rfl rfl ?_
    have e : isDg x = false := by simp [isDg]; intro q; exact absurd c3 (Int32.not_lt.mpr q)
    rw [e] at h; exact h
  · refine Sx.iload_n dX11_isDigit_6 rfl ?_
    refine Sx.bipush (v := 57) dX11_isDigit_7 (by decide) ?_
    refine Sx.icmp_gt (t := 16) dX11_isDigit_9 (by decide) (fun c9 => ?_) (fun c9 => ?_)
    · refine Sx.iconst (v := 0) dX11_isDigit_16 (by decide) ?_
      refine Sx.iret dX11_isDigit_17 rfl rfl ?_
      have e : isDg x = false := by simp [isDg]; intro _; exact c9
      rw [e] at h; exact h
    · refine Sx.iconst (v := 1) dX11_isDigit_12 (by decide) ?_
      refine Sx.goto (t := 17) dX11_isDigit_13 (by decide) ?_
      refine Sx.iret dX11_isDigit_17 rfl rfl ?_
      have e : isDg x = true := by simp [isDg]; exact ⟨Int32.not_lt.mp c3, Int32.not_lt.mp c9⟩
      rw [e] at h; exact h
set_option maxRecDepth 20000 in
set_option maxHeartbeats 1000000 in
theorem c_X8_isInBed {G : Gt} {l : Launch} {Z : Zt} {R : Rt} {I : It} {L : Lt} {post : Pt'} {s : Nat} {F : Nat → Nat} {j : Nat} (hr : rwo Z R s 8 146) (hs : rs (I (s + 1)) F) (hb : F 138 < 64) (hj : j < 32) (h : post (some (.int (b2i (hbN (F 138) j)))) Z R I L) : Cx G l mX8_isInBed 2 0 0 [.ref s, .int (nI j)] Z R I L post := by
  refine Cx.of (by decide +kernel) (by exact Nat.le_of_ble_eq_true rfl) ?_
  refine Sx.aload_n dX8_isInBed_0 rfl ?_
  refine Sx.sipush (v := 138) dX8_isInBed_1 (by decide) ?_
  refine Sx.callU1 dX8_isInBed_4 lku_X8_24 (rcv_8 hr.1) (by decide) (by decide) (Nat.le_of_ble_eq_true rfl) rfl rfl (c_sg hr hs 138 rfl (by decide) (by decide) ?_)
  refine Sx.iload_n dX8_isInBed_7 rfl ?_
  refine Sx.callSN2 dX8_isInBed_8 lkc_X8_25  (by decide) (by decide) (Nat.le_of_ble_eq_true rfl) rfl rfl (c_hasBit (by omega) hj ?_)
  refine Sx.iret dX8_isInBed_11 rfl (b2i_n _) ?_
  exact h
set_option maxRecDepth 20000 in
set_option maxHeartbeats 1000000 in
theorem c_X8_upBits {G : Gt} {l : Launch} {Z : Zt} {R : Rt} {I : It} {L : Lt} {post : Pt'} {s : Nat} {F : Nat → Nat} {n : Nat} (hr : rwo Z R s 8 146) (hs : rs (I (s + 1)) F) (hb : F 138 < 64) (hn : n < 7) (h : post (some (.int (nI (upN n (F 138))))) Z R I L) : Cx G l mX8_upBits 2 0 0 [.ref s, .int (nI n)] Z R I L post := by
  refine Cx.of (by decide +kernel) (by exact Nat.le_of_ble_eq_true rfl) ?_
  refine Sx.iconst (v := 1) dX8_upBits_0 (by decide) ?_
  refine Sx.iload_n dX8_upBits_1 rfl ?_
  refine Sx.ishl dX8_upBits_2 ?_
  refine Sx.iconst (v := 1) dX8_upBits_3 (by decide) ?_
  refine Sx.isub dX8_upBits_4 ?_
  refine Sx.aload_n dX8_upBits_5 rfl ?_
  refine Sx.sipush (v := 138) dX8_upBits_6 (by decide) ?_
  refine Sx.callU1 dX8_upBits_9 lku_X8_24 (rcv_8 hr.1) (by decide) (by decide) (Nat.le_of_ble_eq_true rfl) rfl rfl (c_sg hr hs 138 rfl (by decide) (by decide) ?_)
  refine Sx.iconst (v := (-1)) dX8_upBits_12 (by decide) ?_
  refine Sx.ixor dX8_upBits_13 ?_
  refine Sx.iand dX8_upBits_14 ?_
  rw [(upN_bit n hn _ hb).1]
  refine Sx.iret dX8_upBits_15 rfl rfl ?_
  exact h
set_option maxRecDepth 20000 in
set_option maxHeartbeats 1000000 in
theorem c_X8_upCount {G : Gt} {l : Launch} {Z : Zt} {R : Rt} {I : It} {L : Lt} {post : Pt'} {s : Nat} {F : Nat → Nat} {n : Nat} (hr : rwo Z R s 8 146) (hs : rs (I (s + 1)) F) (hb : F 138 < 64) (hn : n < 7) (h : post (some (.int (nI (popN (upN n (F 138)))))) Z R I L) : Cx G l mX8_upCount 3 0 0 [.ref s, .int (nI n)] Z R I L post := by
  refine Cx.of (by decide +kernel) (by exact Nat.le_of_ble_eq_true rfl) ?_
  refine Sx.aload_n dX8_upCount_0 rfl ?_
  refine Sx.iload_n dX8_upCount_1 rfl ?_
  refine Sx.callV1 dX8_upCount_2 lkv_X8_29 (rcv_8 hr.1) (by decide) (by decide) (Nat.le_of_ble_eq_true rfl) rfl rfl (c_X8_upBits hr hs hb hn ?_)
  refine Sx.callS1 dX8_upCount_5 lkc_X8_32  (by decide) (by decide) (Nat.le_of_ble_eq_true rfl) rfl rfl (c_bitc ?_)
  rw [(popN_bit _ (upN_bit n hn _ hb).2).1]
  refine Sx.iret dX8_upCount_8 rfl rfl ?_
  exact h
def partyN (F : Nat → Nat) (k : Nat) : Nat → Nat
  | 0 => 0
  | j + 1 => partyN F k j ||| (if F j = k then 2 ^ j else 0)
theorem partyN_lt (F : Nat → Nat) (k : Nat) : ∀ j, partyN F k j < 2 ^ j
  | 0 => by simp [partyN]
  | j + 1 => by
    have h1 := partyN_lt F k j
    unfold partyN
    refine Nat.or_lt_two_pow (by rw [Nat.pow_succ]; omega) ?_
    split
    · rw [Nat.pow_succ]; have := Nat.two_pow_pos j; omega
    · exact Nat.two_pow_pos _
set_option maxRecDepth 20000 in
set_option maxHeartbeats 1000000 in
theorem l_X8_party {G : Gt} {l : Launch} {Z : Zt} {R : Rt} {L : Lt} {post : Pt'} {s : Nat} {F : Nat → Nat} {k0 n : Nat} {I0 : It} (hr : rwo Z R s 8 146) (hb : ∀ j, j < 6 → F j < 2 ^ 24) (hn : n < 7) (hk : k0 < 2 ^ 24) (h : ∀ I', I' = I0 → post (some (.int (nI (partyN F k0 n)))) Z R I' L) :
    ∀ (k j : Nat), j ≤ n → n < j + k → ∀ (I : It) (v : Int32), (I = I0) → (rs (I (s + 1)) F) → (v = nI (partyN F k0 j)) → ∀ (y : Int32), y = nI j → Sx G l mX8_party 2 0 0 5 [(4, .int y), (3, .int v), (0, .ref s), (1, .int (nI k0)), (2, .int (nI n))] [] Z R I L post := by
  intro k
  induction k with
  | zero => intro j h1 h2; omega
  | succ k ih =>
    intro j h1 h2 I v hI hs hv y hy
    refine Sx.iload dX8_party_5 rfl ?_
    refine Sx.iload_n dX8_party_7 rfl ?_
    refine Sx.icmp_ge (t := 47) dX8_party_8 (by decide) (fun c8 => ?_) (fun c8 => ?_)
    · refine Sx.iload_n dX8_party_47 rfl ?_
      refine Sx.iret dX8_party_48 rfl rfl ?_
      have hj : j = n := by
        rcases Nat.lt_or_ge j n with q | q
        · exact absurd c8 (by rw [hy]; exact nI_ge q (by omega))
        · omega
      subst hj
      rw [hv]
      exact h I hI
    · have hlt : j < n := by rcases Nat.lt_or_ge j n with q | q; exact q; exact absurd (by rw [hy]; exact nI_le q (by omega)) c8
      refine Sx.iload dX8_party_11 rfl ?_
      refine Sx.bipush (v := 6) dX8_party_13 (by decide) ?_
      refine Sx.icmp_ge (t := 47) dX8_party_15 (by decide) (fun c15 => absurd c15 (by rw [hy]; exact nI_ge (show j < 6 by omega) (by decide))) (fun c15 => ?_)
      refine Sx.iload_n dX8_party_18 rfl ?_
      refine Sx.aload_n dX8_party_19 rfl ?_
      refine Sx.iconst (v := 0) dX8_party_20 (by decide) ?_
      refine Sx.iload dX8_party_21 rfl ?_
      refine Sx.iadd dX8_party_23 ?_
      refine Sx.callU1 dX8_party_24 lku_X8_24 (rcv_8 hr.1) (by decide) (by decide) (Nat.le_of_ble_eq_true rfl) rfl rfl (c_sg hr hs j (by rw [hy]; exact nI_add 0 j |>.trans (by rw [Nat.zero_add])) (by omega) (by omega) ?_)
      refine Sx.iload_n dX8_party_27 rfl ?_
      refine Sx.icmp_ne (t := 38) dX8_party_28 (by decide) (fun c28 => ?_) (fun c28 => ?_)
      · have hne : ¬ F j = k0 := fun q => c28 (by rw [q])
        refine Sx.iconst (v := 0) dX8_party_38 (by decide) ?_
        refine Sx.ior dX8_party_39 ?_
        refine Sx.ist_n (fun zz => [(3, .int zz), (4, .int y), (0, .ref s), (1, .int (nI k0)), (2, .int (nI n))]) dX8_party_40 (by decide) (fun _ => rfl) (fun x3_40 ex3_40 => ?_)
        refine Sx.iincN (fun zz => [(4, .int zz), (3, .int x3_40), (0, .ref s), (1, .int (nI k0)), (2, .int (nI n))]) dX8_party_41 rfl (by decide) (fun _ => rfl) (fun x4_41 ex4_41 => ?_)
        refine Sx.goto (t := 5) dX8_party_44 (by decide) ?_
        refine Sx.sub' [(4, .int x4_41), (3, .int x3_40), (0, .ref s), (1, .int (nI k0)), (2, .int (nI n))] rfl ?_
        exact ih (j + 1) (by omega) (by omega) I _ hI hs (by rw [ex3_40, hv, partyN, if_neg hne]; exact n_or _ _) _ (by rw [ex4_41, hy]; exact nI_1 j)
      · refine Sx.iconst (v := 1) dX8_party_31 (by decide) ?_
        refine Sx.iload dX8_party_32 rfl ?_
        refine Sx.ishl dX8_party_34 ?_
        have heq : F j = k0 := (n_eq (by have := hb j (by omega); omega) (by omega)).mp (Classical.byContradiction fun q => absurd c28 (by simpa using q))
        rw [hy, show (1 : Int32) = nI 1 from rfl, n_shl (by omega) (by rw [Nat.one_mul]; exact Nat.lt_of_le_of_lt (Nat.pow_le_pow_right (by decide) (show j ≤ 6 by omega)) (by decide)), Nat.one_mul, ← hy]
        refine Sx.goto (t := 39) dX8_party_35 (by decide) ?_
        refine Sx.ior dX8_party_39 ?_
        refine Sx.ist_n (fun zz => [(3, .int zz), (4, .int y), (0, .ref s), (1, .int (nI k0)), (2, .int (nI n))]) dX8_party_40 (by decide) (fun _ => rfl) (fun x3_40 ex3_40 => ?_)
        refine Sx.iincN (fun zz => [(4, .int zz), (3, .int x3_40), (0, .ref s), (1, .int (nI k0)), (2, .int (nI n))]) dX8_party_41 rfl (by decide) (fun _ => rfl) (fun x4_41 ex4_41 => ?_)
        refine Sx.goto (t := 5) dX8_party_44 (by decide) ?_
        refine Sx.sub' [(4, .int x4_41), (3, .int x3_40), (0, .ref s), (1, .int (nI k0)), (2, .int (nI n))] rfl ?_
        exact ih (j + 1) (by omega) (by omega) I _ hI hs (by rw [ex3_40, hv, partyN, if_pos heq]; exact n_or _ _) _ (by rw [ex4_41, hy]; exact nI_1 j)
/-- how many voices the governor has -/
def gvN (F : Nat → Nat) : Nat := if F 143 = 0 then 0 else F (11 + F 143)
set_option maxRecDepth 20000 in
set_option maxHeartbeats 1000000 in
theorem c_X8_gv {G : Gt} {l : Launch} {Z : Zt} {R : Rt} {I : It} {L : Lt} {post : Pt'} {s : Nat} {F : Nat → Nat} (hr : rwo Z R s 8 146) (hs : rs (I (s + 1)) F) (hg : F 143 ≤ 6) (h : post (some (.int (nI (gvN F)))) Z R I L) : Cx G l mX8_governingVoices 2 0 0 [.ref s] Z R I L post := by
  refine Cx.of (by decide +kernel) (by exact Nat.le_of_ble_eq_true rfl) ?_
  refine Sx.aload_n dX8_governingVoices_0 rfl ?_
  refine Sx.sipush (v := 143) dX8_governingVoices_1 (by decide) ?_
  refine Sx.callU1 dX8_governingVoices_4 lku_X8_24 (rcv_8 hr.1) (by decide) (by decide) (Nat.le_of_ble_eq_true rfl) rfl rfl (c_sgv hr hs ?_)
  refine Sx.ist_n (fun zz => [(1, .int zz), (0, .ref s)]) dX8_governingVoices_7 (by decide) (fun _ => rfl) (fun x1_7 ex1_7 => ?_)
  refine Sx.iload_n dX8_governingVoices_8 rfl ?_
  refine Sx.if_lt (t := 18) dX8_governingVoices_9 (by decide) (fun c9 => ?_) (fun c9 => ?_)
  · refine Sx.iconst (v := 0) dX8_governingVoices_18 (by decide) ?_
    refine Sx.goto (t := 30) dX8_governingVoices_19 (by decide) ?_
    refine Sx.iret dX8_governingVoices_30 rfl rfl ?_
    have e : gvN F = 0 := by
      unfold gvN
      rw [if_pos]
      rcases Nat.eq_zero_or_pos (F 143) with q | q
      · exact q
      · exfalso
        rw [ex1_7, show nI (F 143) - 1 = nI (F 143 - 1) from n_sub (a := F 143) (b := 1) q] at c9
        exact nI_pos (by omega) c9
    rw [e] at h; exact h
  · have hk0 : ¬ F 143 = 0 := fun q => c9 (by rw [ex1_7, q]; decide)
    have hk1 : nI (F 143) - 1 = nI (F 143 - 1) := n_sub (a := F 143) (b := 1) (by omega)
    refine Sx.iload_n dX8_governingVoices_12 rfl ?_
    refine Sx.bipush (v := 6) dX8_governingVoices_13 (by decide) ?_
    refine Sx.icmp_lt (t := 22) dX8_governingVoices_15 (by decide) (fun c15 => ?_) (fun c15 => absurd (by rw [ex1_7, hk1]; exact nI_lt (show F 143 - 1 < 6 by omega) (by decide)) c15)
    refine Sx.aload_n dX8_governingVoices_22 rfl ?_
    refine Sx.bipush (v := 12) dX8_governingVoices_23 (by decide) ?_
    refine Sx.iload_n dX8_governingVoices_25 rfl ?_
    refine Sx.iadd dX8_governingVoices_26 ?_
    refine Sx.callU1 dX8_governingVoices_27 lku_X8_24 (rcv_8 hr.1) (by decide) (by decide) (Nat.le_of_ble_eq_true rfl) rfl rfl (c_sg hr hs (12 + (F 143 - 1)) (by rw [ex1_7, hk1]; exact nI_add 12 _) (by omega) (by omega) ?_)
    refine Sx.iret dX8_governingVoices_30 rfl rfl ?_
    have e : gvN F = F (12 + (F 143 - 1)) := by
      unfold gvN
      rw [if_neg hk0, show 11 + F 143 = 12 + (F 143 - 1) by omega]
    rw [e] at h; exact h
/-- the darkest of the first days (of several the first), by one more; 0: none -/
def dkN (F : Nat → Nat) : Nat → Nat
  | 0 => 0
  | j + 1 => if dkN F j = 0 ∨ F (18 + j) < F (18 + (dkN F j - 1)) then j + 1 else dkN F j
theorem dkN_le (F : Nat → Nat) : ∀ j, dkN F j ≤ j
  | 0 => Nat.le_refl _
  | j + 1 => by
    have := dkN_le F j
    unfold dkN
    split <;> omega
theorem dkN_pos (F : Nat → Nat) : ∀ j, 0 < j → 0 < dkN F j
  | 0 => fun h => by omega
  | j + 1 => fun _ => by
    unfold dkN
    split
    · omega
    · next h => omega
set_option maxRecDepth 20000 in
set_option maxHeartbeats 1000000 in
theorem l_X8_dark {G : Gt} {l : Launch} {Z : Zt} {R : Rt} {L : Lt} {post : Pt'} {s : Nat} {F : Nat → Nat} {I0 : It} (hr : rwo Z R s 8 146) (hb : ∀ j, j < 146 → F j < 2 ^ 31) (hd : F 145 ≤ 30) (h : ∀ I', I' = I0 → post (some (.int (nI (dkN F (F 145)) - 1))) Z R I' L) :
    ∀ (k j : Nat), j ≤ F 145 → F 145 < j + k → ∀ (I : It) (v : Int32), (I = I0) → (rs (I (s + 1)) F) → (v = nI (dkN F j) - 1) → ∀ (y : Int32), y = nI j → Sx G l mX8_darkestOver 2 0 0 4 [(2, .int y), (1, .int v), (0, .ref s)] [] Z R I L post := by
  intro k
  induction k with
  | zero => intro j h1 h2; omega
  | succ k ih =>
    intro j h1 h2 I v hI hs hv y hy
    refine Sx.iload_n dX8_darkestOver_4 rfl ?_
    refine Sx.aload_n dX8_darkestOver_5 rfl ?_
    refine Sx.sipush (v := 145) dX8_darkestOver_6 (by decide) ?_
    refine Sx.callU1 dX8_darkestOver_9 lku_X8_24 (rcv_8 hr.1) (by decide) (by decide) (Nat.le_of_ble_eq_true rfl) rfl rfl (c_sg hr hs 145 rfl (by decide) (by decide) ?_)
    refine Sx.icmp_ge (t := 53) dX8_darkestOver_12 (by decide) (fun c12 => ?_) (fun c12 => ?_)
    · refine Sx.iload_n dX8_darkestOver_53 rfl ?_
      refine Sx.iret dX8_darkestOver_54 rfl rfl ?_
      have hj := lp_end hy (by omega) h1 c12
      subst hj
      rw [hv]
      exact h I hI
    · have hlt := lp_lt hy (by omega) h1 c12
      have hdk := dkN_le F j
      refine Sx.iload_n dX8_darkestOver_15 rfl ?_
      refine Sx.bipush (v := 30) dX8_darkestOver_16 (by decide) ?_
      refine Sx.icmp_ge (t := 53) dX8_darkestOver_18 (by decide) (fun c18 => absurd c18 (by rw [hy]; exact nI_ge (show j < 30 by omega) (by decide))) (fun c18 => ?_)
      refine Sx.iload_n dX8_darkestOver_21 rfl ?_
      refine Sx.iconst (v := (-1)) dX8_darkestOver_22 (by decide) ?_
      refine Sx.icmp_eq (t := 45) dX8_darkestOver_23 (by decide) (fun c23 => ?_) (fun c23 => ?_)
      · have hz : dkN F j = 0 := by
          rcases Nat.eq_zero_or_pos (dkN F j) with q | q
          · exact q
          · exfalso
            rw [hv, show nI (dkN F j) - 1 = nI (dkN F j - 1) from n_sub (a := dkN F j) (b := 1) q] at c23
            have := congrArg Int32.toInt c23
            rw [nI_toInt (by omega), show (-1 : Int32).toInt = -1 by decide] at this
            omega
        refine Sx.iload_n dX8_darkestOver_45 rfl ?_
        refine Sx.ist_n (fun zz => [(1, .int zz), (2, .int y), (0, .ref s)]) dX8_darkestOver_46 (by decide) (fun _ => rfl) (fun x1_46 ex1_46 => ?_)
        refine Sx.iincN (fun zz => [(2, .int zz), (1, .int x1_46), (0, .ref s)]) dX8_darkestOver_47 rfl (by decide) (fun _ => rfl) (fun x2_47 ex2_47 => ?_)
        refine Sx.goto (t := 4) dX8_darkestOver_50 (by decide) ?_
        refine Sx.sub' [(2, .int x2_47), (1, .int x1_46), (0, .ref s)] rfl ?_
        exact ih (j + 1) (by omega) (by omega) I _ hI hs (by rw [ex1_46, hy, dkN, if_pos (Or.inl hz), n_m1]) _ (by rw [ex2_47, hy]; exact nI_1 j)
      · have hz : ¬ dkN F j = 0 := fun q => c23 (by rw [hv, q]; decide)
        have hz1 : nI (dkN F j) - 1 = nI (dkN F j - 1) := n_sub (a := dkN F j) (b := 1) (by omega)
        refine Sx.aload_n dX8_darkestOver_26 rfl ?_
        refine Sx.bipush (v := 18) dX8_darkestOver_27 (by decide) ?_
        refine Sx.iload_n dX8_darkestOver_29 rfl ?_
        refine Sx.iadd dX8_darkestOver_30 ?_
        refine Sx.callU1 dX8_darkestOver_31 lku_X8_24 (rcv_8 hr.1) (by decide) (by decide) (Nat.le_of_ble_eq_true rfl) rfl rfl (c_sg hr hs (18 + j) (by rw [hy]; exact nI_add 18 j) (by omega) (by omega) ?_)
        refine Sx.aload_n dX8_darkestOver_34 rfl ?_
        refine Sx.bipush (v := 18) dX8_darkestOver_35 (by decide) ?_
        refine Sx.iload_n dX8_darkestOver_37 rfl ?_
        refine Sx.iadd dX8_darkestOver_38 ?_
        refine Sx.callU1 dX8_darkestOver_39 lku_X8_24 (rcv_8 hr.1) (by decide) (by decide) (Nat.le_of_ble_eq_true rfl) rfl rfl (c_sg hr hs (18 + (dkN F j - 1)) (by rw [hv, hz1]; exact nI_add 18 _) (by omega) (by omega) ?_)
        refine Sx.icmp_ge (t := 47) dX8_darkestOver_42 (by decide) (fun c42 => ?_) (fun c42 => ?_)
        · have hlow : ¬ F (18 + j) < F (18 + (dkN F j - 1)) := fun q => absurd ((n_lt (hb _ (by omega)) (hb _ (by omega))).mpr q) (Int32.not_lt.mpr c42)
          refine Sx.iincN (fun zz => [(2, .int zz), (1, .int v), (0, .ref s)]) dX8_darkestOver_47 rfl (by decide) (fun _ => rfl) (fun x2_47 ex2_47 => ?_)
          refine Sx.goto (t := 4) dX8_darkestOver_50 (by decide) ?_
          refine Sx.sub' [(2, .int x2_47), (1, .int v), (0, .ref s)] rfl ?_
          exact ih (j + 1) (by omega) (by omega) I _ hI hs (by rw [hv, dkN, if_neg (fun q => q.elim hz hlow)]) _ (by rw [ex2_47, hy]; exact nI_1 j)
        · have hlow : F (18 + j) < F (18 + (dkN F j - 1)) := (n_lt (hb _ (by omega)) (hb _ (by omega))).mp (Int32.not_le.mp c42)
          refine Sx.iload_n dX8_darkestOver_45 rfl ?_
          refine Sx.ist_n (fun zz => [(1, .int zz), (2, .int y), (0, .ref s)]) dX8_darkestOver_46 (by decide) (fun _ => rfl) (fun x1_46 ex1_46 => ?_)
          refine Sx.iincN (fun zz => [(2, .int zz), (1, .int x1_46), (0, .ref s)]) dX8_darkestOver_47 rfl (by decide) (fun _ => rfl) (fun x2_47 ex2_47 => ?_)
          refine Sx.goto (t := 4) dX8_darkestOver_50 (by decide) ?_
          refine Sx.sub' [(2, .int x2_47), (1, .int x1_46), (0, .ref s)] rfl ?_
          exact ih (j + 1) (by omega) (by omega) I _ hI hs (by rw [ex1_46, hy, dkN, if_pos (Or.inr hlow), n_m1]) _ (by rw [ex2_47, hy]; exact nI_1 j)
set_option maxRecDepth 20000 in
set_option maxHeartbeats 1000000 in
theorem c_X8_dark {G : Gt} {l : Launch} {Z : Zt} {R : Rt} {I : It} {L : Lt} {post : Pt'} {s : Nat} {F : Nat → Nat} (hr : rwo Z R s 8 146) (hs : rs (I (s + 1)) F) (hb : ∀ j, j < 146 → F j < 2 ^ 31) (hd : F 145 ≤ 30) (h : post (some (.int (nI (dkN F (F 145)) - 1))) Z R I L) : Cx G l mX8_darkestOver 2 0 0 [.ref s] Z R I L post := by
  refine Cx.of (by decide +kernel) (by exact Nat.le_of_ble_eq_true rfl) ?_
  refine Sx.iconst (v := (-1)) dX8_darkestOver_0 (by decide) ?_
  refine Sx.ist_n (fun zz => [(1, .int zz), (0, .ref s)]) dX8_darkestOver_1 (by decide) (fun _ => rfl) (fun x1_1 ex1_1 => ?_)
  refine Sx.iconst (v := 0) dX8_darkestOver_2 (by decide) ?_
  refine Sx.ist_n (fun zz => [(2, .int zz), (1, .int x1_1), (0, .ref s)]) dX8_darkestOver_3 (by decide) (fun _ => rfl) (fun x2_3 ex2_3 => ?_)
  exact l_X8_dark hr hb hd (fun I' e => by rw [e]; exact h) (F 145 + 1) 0 (by omega) (by omega) I _ rfl hs (by rw [ex1_1]; exact n_neg1.symm) _ ex2_3
/-- a year in the log -/
def lgN (ruler light gov : Nat) : Nat := (ruler ||| light * 2 ^ 8) ||| gov * 2 ^ 16
set_option maxRecDepth 20000 in
set_option maxHeartbeats 1000000 in
theorem c_X8_writeLog {G : Gt} {l : Launch} {Z : Zt} {R : Rt} {I : It} {L : Lt} {post : Pt'} {s : Nat} {F : Nat → Nat} {y r q : Nat} (hr : rwo Z R s 8 146) (hs : rs (I (s + 1)) F) (hy : y < 2 ^ 24) (hq : q < 128) (hg : F 143 ≤ 6) (h : ∀ I', rs (I' (s + 1)) (upn F (78 + y % 60) (lgN r q (F 143))) → (∀ z, z ≠ s + 1 → I' z = I z) → post none Z R I' L) : Cx G l mX8_writeLog 2 0 0 [.ref s, .int (nI y), .int (nI r), .int (nI q)] Z R I L post := by
  refine Cx.of (by decide +kernel) (by exact Nat.le_of_ble_eq_true rfl) ?_
  refine Sx.aload_n dX8_writeLog_0 rfl ?_
  refine Sx.bipush (v := 78) dX8_writeLog_1 (by decide) ?_
  refine Sx.iload_n dX8_writeLog_3 rfl ?_
  refine Sx.bipush (v := 60) dX8_writeLog_4 (by decide) ?_
  refine Sx.irem dX8_writeLog_6 (by decide) ?_
  rw [show nI y - nI y / 60 * 60 = nI (y % 60) from pk_rem (d := 60) (by omega) (by decide) (by decide)]
  refine Sx.iadd dX8_writeLog_7 ?_
  refine Sx.iload_n dX8_writeLog_8 rfl ?_
  refine Sx.iload_n dX8_writeLog_9 rfl ?_
  refine Sx.bipush (v := 8) dX8_writeLog_10 (by decide) ?_
  refine Sx.ishl dX8_writeLog_12 ?_
  rw [show nI q <<< ((8 : Int32) &&& 31) = nI (q * 2 ^ 8) from n_shl (p := 8) (by decide) (by omega)]
  refine Sx.ior dX8_writeLog_13 ?_
  rw [n_or]
  refine Sx.aload_n dX8_writeLog_14 rfl ?_
  refine Sx.sipush (v := 143) dX8_writeLog_15 (by decide) ?_
  refine Sx.callU1 dX8_writeLog_18 lku_X8_24 (rcv_8 hr.1) (by decide) (by decide) (Nat.le_of_ble_eq_true rfl) rfl rfl (c_sgv hr hs ?_)
  refine Sx.iconst (v := 1) dX8_writeLog_21 (by decide) ?_
  refine Sx.iadd dX8_writeLog_22 ?_
  refine Sx.bipush (v := 16) dX8_writeLog_23 (by decide) ?_
  refine Sx.ishl dX8_writeLog_25 ?_
  rw [n_pm, show nI (F 143) <<< ((16 : Int32) &&& 31) = nI (F 143 * 2 ^ 16) from n_shl (p := 16) (by decide) (by omega)]
  refine Sx.ior dX8_writeLog_26 ?_
  rw [n_or]
  refine Sx.callU2 dX8_writeLog_27 lku_X8_20 (rcv_8 hr.1) (by decide) (by decide) (Nat.le_of_ble_eq_true rfl) rfl rfl (c_ss hr hs (78 + y % 60) (lgN r q (F 143)) (nI_add 78 _) (by omega) (by rw [sv_n (by omega)]; rfl) (fun I' e1 e2 => ?_))
  refine Sx.vret dX8_writeLog_30 rfl ?_
  exact h _ e1 e2
set_option maxRecDepth 20000 in
set_option maxHeartbeats 1000000 in
theorem c_X8_yl {G : Gt} {l : Launch} {Z : Zt} {R : Rt} {I : It} {L : Lt} {post : Pt'} {s : Nat} {F : Nat → Nat} (hr : rwo Z R s 8 146) (hs : rs (I (s + 1)) F) (hy : F 144 < 2 ^ 24) (h : post (some (.int (nI (min 60 (F 144))))) Z R I L) : Cx G l mX8_yearsLogged 2 0 0 [.ref s] Z R I L post := by
  refine Cx.of (by decide +kernel) (by exact Nat.le_of_ble_eq_true rfl) ?_
  refine Sx.bipush (v := 60) dX8_yearsLogged_0 (by decide) ?_
  refine Sx.aload_n dX8_yearsLogged_2 rfl ?_
  refine Sx.sipush (v := 144) dX8_yearsLogged_3 (by decide) ?_
  refine Sx.callU1 dX8_yearsLogged_6 lku_X8_24 (rcv_8 hr.1) (by decide) (by decide) (Nat.le_of_ble_eq_true rfl) rfl rfl (c_sg hr hs 144 rfl (by decide) (by decide) ?_)
  refine Sx.mmin dX8_yearsLogged_9 lkm_X8_37 (by decide) (Nat.le_of_ble_eq_true rfl) ?_
  have e : imin 60 (nI (F 144)) = nI (min 60 (F 144)) := by
    unfold imin
    by_cases hc : F 144 < 60
    · rw [if_pos (show nI (F 144) < (60 : Int32) from (n_lt (b := 60) (by omega) (by decide)).mpr hc), Nat.min_eq_right (by omega)]
    · rw [if_neg (fun z : nI (F 144) < (60 : Int32) => hc ((n_lt (b := 60) (by omega) (by decide)).mp z)), Nat.min_eq_left (by omega)]; rfl
  rw [e]
  refine Sx.iret dX8_yearsLogged_12 rfl rfl ?_
  exact h
/-- what the log says of the year i ahead of the latest -/
def lgd (F : Nat → Nat) (i : Nat) (w : Int32) : Int32 := if w = 0 then nI (F (78 + (F 144 - 1 - i) % 60) % 256) else if w = 1 then nI (F (78 + (F 144 - 1 - i) % 60) / 2 ^ 8 % 256) else nI (F (78 + (F 144 - 1 - i) % 60) / 2 ^ 16) - 1
set_option maxRecDepth 20000 in
set_option maxHeartbeats 1000000 in
theorem c_X8_logged {G : Gt} {l : Launch} {Z : Zt} {R : Rt} {I : It} {L : Lt} {post : Pt'} {s : Nat} {F : Nat → Nat} {i : Nat} {w : Int32} (hr : rwo Z R s 8 146) (hs : rs (I (s + 1)) F) (hy : F 144 < 2 ^ 24) (hb : ∀ j, j < 146 → F j < 2 ^ 31) (hi : i < F 144) (h : post (some (.int (lgd F i w))) Z R I L) : Cx G l mX8_logged 2 0 0 [.ref s, .int (nI i), .int w] Z R I L post := by
  refine Cx.of (by decide +kernel) (by exact Nat.le_of_ble_eq_true rfl) ?_
  refine Sx.aload_n dX8_logged_0 rfl ?_
  refine Sx.sipush (v := 144) dX8_logged_1 (by decide) ?_
  refine Sx.callU1 dX8_logged_4 lku_X8_24 (rcv_8 hr.1) (by decide) (by decide) (Nat.le_of_ble_eq_true rfl) rfl rfl (c_sg hr hs 144 rfl (by decide) (by decide) ?_)
  refine Sx.iconst (v := 1) dX8_logged_7 (by decide) ?_
  refine Sx.isub dX8_logged_8 ?_
  refine Sx.iload_n dX8_logged_9 rfl ?_
  refine Sx.isub dX8_logged_10 ?_
  rw [show nI (F 144) - 1 - nI i = nI (F 144 - 1 - i) from by rw [show (1 : Int32) = nI 1 from rfl, n_sub (by omega), n_sub (by omega)]]
  refine Sx.ist_n (fun zz => [(3, .int zz), (0, .ref s), (1, .int (nI i)), (2, .int w)]) dX8_logged_11 (by decide) (fun _ => rfl) (fun x3_11 ex3_11 => ?_)
  refine Sx.iload_n dX8_logged_12 rfl ?_
  refine Sx.if_ge (t := 20) dX8_logged_13 (by decide) (fun c13 => ?_) (fun c13 => absurd (by rw [ex3_11]; exact nI_pos' (by omega)) c13)
  refine Sx.aload_n dX8_logged_20 rfl ?_
  refine Sx.bipush (v := 78) dX8_logged_21 (by decide) ?_
  refine Sx.iload_n dX8_logged_23 rfl ?_
  refine Sx.bipush (v := 60) dX8_logged_24 (by decide) ?_
  refine Sx.irem dX8_logged_26 (by decide) ?_
  rw [show x3_11 - x3_11 / 60 * 60 = nI ((F 144 - 1 - i) % 60) from by rw [ex3_11]; exact pk_rem (d := 60) (by omega) (by decide) (by decide)]
  refine Sx.iadd dX8_logged_27 ?_
  refine Sx.callU1 dX8_logged_28 lku_X8_24 (rcv_8 hr.1) (by decide) (by decide) (Nat.le_of_ble_eq_true rfl) rfl rfl (c_sg hr hs (78 + (F 144 - 1 - i) % 60) (nI_add 78 _) (by omega) (by omega) ?_)
  refine Sx.ist (fun zz => [(4, .int zz), (3, .int x3_11), (0, .ref s), (1, .int (nI i)), (2, .int w)]) dX8_logged_31 (by decide) (fun _ => rfl) (fun x4_31 ex4_31 => ?_)
  have hv := hb (78 + (F 144 - 1 - i) % 60) (by omega)
  refine Sx.iload_n dX8_logged_33 rfl ?_
  refine Sx.if_ne (t := 46) dX8_logged_34 (by decide) (fun c34 => ?_) (fun c34 => ?_)
  · refine Sx.iload_n dX8_logged_46 rfl ?_
    refine Sx.iconst (v := 1) dX8_logged_47 (by decide) ?_
    refine Sx.icmp_ne (t := 63) dX8_logged_48 (by decide) (fun c48 => ?_) (fun c48 => ?_)
    · refine Sx.iload dX8_logged_63 rfl ?_
      refine Sx.bipush (v := 16) dX8_logged_65 (by decide) ?_
      refine Sx.ishr dX8_logged_67 ?_
      refine Sx.iconst (v := 1) dX8_logged_68 (by decide) ?_
      refine Sx.isub dX8_logged_69 ?_
      refine Sx.iret dX8_logged_70 rfl rfl ?_
      rw [ex4_31, show nI (F (78 + (F 144 - 1 - i) % 60)) >>> ((16 : Int32) &&& 31) = _ from n_shr (p := 16) hv (by decide)]
      rw [lgd, if_neg c34, if_neg c48] at h
      exact h
    · refine Sx.iload dX8_logged_51 rfl ?_
      refine Sx.bipush (v := 8) dX8_logged_53 (by decide) ?_
      refine Sx.ishr dX8_logged_55 ?_
      refine Sx.sipush (v := 255) dX8_logged_56 (by decide) ?_
      refine Sx.iand dX8_logged_59 ?_
      refine Sx.goto (t := 70) dX8_logged_60 (by decide) ?_
      refine Sx.iret dX8_logged_70 rfl rfl ?_
      rw [ex4_31, show nI (F (78 + (F 144 - 1 - i) % 60)) >>> ((8 : Int32) &&& 31) = _ from n_shr (p := 8) hv (by decide), n_and255 (by have := Nat.div_le_self (F (78 + (F 144 - 1 - i) % 60)) (2 ^ 8); omega)]
      rw [lgd, if_neg c34, if_pos c48] at h
      exact h
  · refine Sx.iload dX8_logged_37 rfl ?_
    refine Sx.sipush (v := 255) dX8_logged_39 (by decide) ?_
    refine Sx.iand dX8_logged_42 ?_
    refine Sx.goto (t := 70) dX8_logged_43 (by decide) ?_
    refine Sx.iret dX8_logged_70 rfl rfl ?_
    rw [ex4_31, n_and255 (by omega)]
    rw [lgd, if_pos c34] at h
    exact h
/-- a seaport's state as told -/
def bedsN (P : Nat → Nat) : Nat → Nat
  | 0 => 0
  | j + 1 => bedsN P j ||| P (27 + j) * 2 ^ j
def begN (P : Nat → Nat) : Nat → Nat := fun j => if j < 6 then P (15 + j) else if j = 138 then bedsN P 6 else if j = 139 then P 2 else if j = 142 then P 1 else 0
def beg1 (P : Nat → Nat) (n : Nat) : Nat → Nat := fun j => if j < n then P (15 + j) else if j = 143 then 1 else 0
theorem bedsN_lt (P : Nat → Nat) (hP : ∀ j, j < 6 → P (27 + j) ≤ 1) : ∀ j, j ≤ 6 → bedsN P j < 2 ^ j
  | 0 => fun _ => by simp [bedsN]
  | j + 1 => fun hj => by
    have h1 := bedsN_lt P hP j (by omega)
    have h2 := hP j (by omega)
    unfold bedsN
    refine Nat.or_lt_two_pow (by rw [Nat.pow_succ]; omega) ?_
    have h3 := Nat.two_pow_pos j
    calc P (27 + j) * 2 ^ j ≤ 1 * 2 ^ j := Nat.mul_le_mul_right _ h2
      _ < 2 ^ (j + 1) := by rw [Nat.pow_succ]; omega
set_option maxRecDepth 20000 in
set_option maxHeartbeats 1000000 in
theorem l_X8_begin {G : Gt} {l : Launch} {Z : Zt} {R : Rt} {L : Lt} {post : Pt'} {s a : Nat} {P : Nat → Nat} {I0 : It} (hr : rwo Z R s 8 146) (hp : rwo Z R a 6 36) (hsa : a ≠ s) (hP1 : ∀ j, j < 6 → P (27 + j) ≤ 1) (hP : rep 36 (I0 (a + 1)) P) (h : ∀ I', rs (I' (s + 1)) (begN P) → (∀ z, z ≠ s + 1 → I' z = I0 z) → post none Z R I' L) :
    ∀ (k j : Nat), j ≤ 6 → 6 < j + k → ∀ (I : It) (v : Int32), (rs (I (s + 1)) (beg1 P j)) → (∀ q, q ≠ s + 1 → I q = I0 q) → (v = nI (bedsN P j)) → ∀ (y : Int32), y = nI j → Sx G l mX8_begin 2 0 0 9 [(3, .int y), (2, .int v), (0, .ref s), (1, .ref a)] [] Z R I L post := by
  intro k
  induction k with
  | zero => intro j h1 h2; omega
  | succ k ih =>
    intro j h1 h2 I v hs hJ hv y hy
    refine Sx.iload_n dX8_begin_9 rfl ?_
    refine Sx.bipush (v := 6) dX8_begin_10 (by decide) ?_
    refine Sx.icmp_ge (t := 49) dX8_begin_12 (by decide) (fun c12 => ?_) (fun c12 => ?_)
    · have hj := lp_end (N := 6) hy (by decide) h1 c12
      subst hj
      refine Sx.aload_n dX8_begin_49 rfl ?_
      refine Sx.sipush (v := 138) dX8_begin_50 (by decide) ?_
      refine Sx.iload_n dX8_begin_53 rfl ?_
      refine Sx.callU2 dX8_begin_54 lku_X8_20 (rcv_8 hr.1) (by decide) (by decide) (Nat.le_of_ble_eq_true rfl) rfl rfl (c_ss hr hs 138 (bedsN P 6) rfl (by decide) (by rw [hv]; rfl) (fun I3 e3 e4 => ?_))
      refine Sx.aload_n dX8_begin_57 rfl ?_
      refine Sx.sipush (v := 139) dX8_begin_58 (by decide) ?_
      refine Sx.aload_n dX8_begin_61 rfl ?_
      refine Sx.iconst (v := 2) dX8_begin_62 (by decide) ?_
      refine Sx.callU1 dX8_begin_63 lku_X8_16 (rcv_6 hp.1) (by decide) (by decide) (Nat.le_of_ble_eq_true rfl) rfl rfl (c_rg hp rC6 (by decide) (by rw [e4 _ (by omega), hJ _ (by omega)]; exact hP) 2 rfl (by decide) ?_)
      refine Sx.callU2 dX8_begin_66 lku_X8_20 (rcv_8 hr.1) (by decide) (by decide) (Nat.le_of_ble_eq_true rfl) rfl rfl (c_ss hr e3 139 (P 2) rfl (by decide) rfl (fun I4 e5 e6 => ?_))
      refine Sx.aload_n dX8_begin_69 rfl ?_
      refine Sx.sipush (v := 142) dX8_begin_70 (by decide) ?_
      refine Sx.aload_n dX8_begin_73 rfl ?_
      refine Sx.iconst (v := 1) dX8_begin_74 (by decide) ?_
      refine Sx.callU1 dX8_begin_75 lku_X8_16 (rcv_6 hp.1) (by decide) (by decide) (Nat.le_of_ble_eq_true rfl) rfl rfl (c_rg hp rC6 (by decide) (by rw [e6 _ (by omega), e4 _ (by omega), hJ _ (by omega)]; exact hP) 1 rfl (by decide) ?_)
      refine Sx.callU2 dX8_begin_78 lku_X8_20 (rcv_8 hr.1) (by decide) (by decide) (Nat.le_of_ble_eq_true rfl) rfl rfl (c_ss hr e5 142 (P 1) rfl (by decide) rfl (fun I5 e7 e8 => ?_))
      refine Sx.aload_n dX8_begin_81 rfl ?_
      refine Sx.sipush (v := 143) dX8_begin_82 (by decide) ?_
      refine Sx.iconst (v := (-1)) dX8_begin_85 (by decide) ?_
      refine Sx.callU2 dX8_begin_86 lku_X8_20 (rcv_8 hr.1) (by decide) (by decide) (Nat.le_of_ble_eq_true rfl) rfl rfl (c_ss hr e7 143 0 rfl (by decide) (by decide) (fun I6 e9 e10 => ?_))
      refine Sx.vret dX8_begin_89 rfl ?_
      refine h I6 ?_ (fun z hz => by rw [e10 z hz, e8 z hz, e6 z hz, e4 z hz, hJ z hz])
      intro q hq
      rw [e9 q hq]
      congr 1
      unfold upn beg1 begN
      by_cases h3 : q = 143
      · subst h3; rfl
      · rw [if_neg h3]
        by_cases h4 : q = 142
        · subst h4; rfl
        · rw [if_neg h4]
          by_cases h5 : q = 139
          · subst h5; rfl
          · rw [if_neg h5]
            by_cases h6 : q = 138
            · subst h6; rfl
            · rw [if_neg h6, if_neg h3, if_neg h6, if_neg h5, if_neg h4]
    · have hlt := lp_lt (N := 6) hy (by decide) h1 c12
      refine Sx.aload_n dX8_begin_15 rfl ?_
      refine Sx.iconst (v := 0) dX8_begin_16 (by decide) ?_
      refine Sx.iload_n dX8_begin_17 rfl ?_
      refine Sx.iadd dX8_begin_18 ?_
      refine Sx.aload_n dX8_begin_19 rfl ?_
      refine Sx.bipush (v := 15) dX8_begin_20 (by decide) ?_
      refine Sx.iload_n dX8_begin_22 rfl ?_
      refine Sx.iadd dX8_begin_23 ?_
      refine Sx.callU1 dX8_begin_24 lku_X8_16 (rcv_6 hp.1) (by decide) (by decide) (Nat.le_of_ble_eq_true rfl) rfl rfl (c_rg hp rC6 (by decide) (by rw [hJ _ (by omega)]; exact hP) (15 + j) (by rw [hy]; exact nI_add 15 j) (by omega) ?_)
      refine Sx.callU2 dX8_begin_27 lku_X8_20 (rcv_8 hr.1) (by decide) (by decide) (Nat.le_of_ble_eq_true rfl) rfl rfl (c_ss hr hs j (P (15 + j)) (by rw [hy]; exact n_z j) (by omega) (by rw [sv_n (by omega)]) (fun I2 e1 e2 => ?_))
      refine Sx.iload_n dX8_begin_30 rfl ?_
      refine Sx.aload_n dX8_begin_31 rfl ?_
      refine Sx.bipush (v := 27) dX8_begin_32 (by decide) ?_
      refine Sx.iload_n dX8_begin_34 rfl ?_
      refine Sx.iadd dX8_begin_35 ?_
      refine Sx.callU1 dX8_begin_36 lku_X8_16 (rcv_6 hp.1) (by decide) (by decide) (Nat.le_of_ble_eq_true rfl) rfl rfl (c_rg hp rC6 (by decide) (by rw [e2 _ (by omega), hJ _ (by omega)]; exact hP) (27 + j) (by rw [hy]; exact nI_add 27 j) (by omega) ?_)
      refine Sx.iload_n dX8_begin_39 rfl ?_
      refine Sx.ishl dX8_begin_40 ?_
      refine Sx.ior dX8_begin_41 ?_
      have hsh : P (27 + j) * 2 ^ j < 2 ^ 32 := by
        have h6 : 2 ^ j ≤ 2 ^ 6 := Nat.pow_le_pow_right (by decide) (by omega)
        have : P (27 + j) * 2 ^ j ≤ 1 * 2 ^ 6 := Nat.mul_le_mul (hP1 j hlt) h6
        omega
      rw [hv, hy, n_shl (by omega) hsh, n_or, ← hy]
      refine Sx.ist_n (fun zz => [(2, .int zz), (3, .int y), (0, .ref s), (1, .ref a)]) dX8_begin_42 (by decide) (fun _ => rfl) (fun x2_42 ex2_42 => ?_)
      refine Sx.iincN (fun zz => [(3, .int zz), (2, .int x2_42), (0, .ref s), (1, .ref a)]) dX8_begin_43 rfl (by decide) (fun _ => rfl) (fun x3_43 ex3_43 => ?_)
      refine Sx.goto (t := 9) dX8_begin_46 (by decide) ?_
      refine Sx.sub' [(3, .int x3_43), (2, .int x2_42), (0, .ref s), (1, .ref a)] rfl ?_
      refine ih (j + 1) (by omega) (by omega) I2 _ ?_ ?_ (by rw [ex2_42]; rfl) _ (by rw [ex3_43, hy]; exact nI_1 j)
      · intro q hq
        rw [e1 q hq]
        congr 1
        unfold upn beg1
        by_cases hqj : q = j
        · rw [if_pos hqj, if_pos (by omega), hqj]
        · rw [if_neg hqj]
          by_cases hq2 : q < j
          · rw [if_pos hq2, if_pos (by omega)]
          · rw [if_neg hq2, if_neg (show ¬ q < j + 1 by omega)]
      · intro q hq
        rw [e2 q hq, hJ q hq]
set_option maxRecDepth 20000 in
set_option maxHeartbeats 1000000 in
theorem c_X8_begin {G : Gt} {l : Launch} {Z : Zt} {R : Rt} {I : It} {L : Lt} {post : Pt'} {s a : Nat} {P : Nat → Nat} (hr : rwo Z R s 8 146) (hp : rwo Z R a 6 36) (hsa : a ≠ s) (hP1 : ∀ j, j < 6 → P (27 + j) ≤ 1) (hP : rep 36 (I (a + 1)) P) (h : ∀ I', rs (I' (s + 1)) (begN P) → (∀ z, z ≠ s + 1 → I' z = I z) → post none Z R I' L) : Cx G l mX8_begin 2 0 0 [.ref s, .ref a] Z R I L post := by
  refine Cx.of (by decide +kernel) (by exact Nat.le_of_ble_eq_true rfl) ?_
  refine Sx.aload_n dX8_begin_0 rfl ?_
  refine Sx.iconst (v := 0) dX8_begin_1 (by decide) ?_
  refine Sx.callU1 dX8_begin_2 lku_X8_11 (rcv_8 hr.1) (by decide) (by decide) (Nat.le_of_ble_eq_true rfl) rfl rfl (c_X7_fill hr rC8 (by decide) (fun I1 e1 e2 => ?_))
  refine Sx.iconst (v := 0) dX8_begin_5 (by decide) ?_
  refine Sx.ist_n (fun zz => [(2, .int zz), (0, .ref s), (1, .ref a)]) dX8_begin_6 (by decide) (fun _ => rfl) (fun x2_6 ex2_6 => ?_)
  refine Sx.iconst (v := 0) dX8_begin_7 (by decide) ?_
  refine Sx.ist_n (fun zz => [(3, .int zz), (2, .int x2_6), (0, .ref s), (1, .ref a)]) dX8_begin_8 (by decide) (fun _ => rfl) (fun x3_8 ex3_8 => ?_)
  refine l_X8_begin hr hp hsa hP1 hP h 7 0 (by omega) (by omega) I1 _ ?_ e2 ex2_6 _ ex3_8
  intro q hq
  rw [e1, rfil, if_pos hq]
  unfold beg1 sv
  rw [if_neg (Nat.not_lt_zero q)]
  by_cases h9 : q = 143
  · rw [if_pos h9, if_pos h9]; decide
  · rw [if_neg h9, if_neg h9]; rfl
set_option maxRecDepth 20000 in
set_option maxHeartbeats 1000000 in
theorem c_pers {G : Gt} {l : Launch} {Z : Zt} {R : Rt} {I : It} {L : Lt} {post : Pt'} {a : Nat} {P : Nat → Nat} (hr : rwo Z R a 6 36) (hp : rep 36 (I (a + 1)) P) (h : post (some (.int (nI (P 35)))) Z R I L) : Cx G l mX6_persons 2 0 0 [.ref a] Z R I L post := by
  refine Cx.of (by decide +kernel) (by exact Nat.le_of_ble_eq_true rfl) ?_
  refine Sx.aload_n dX6_persons_0 rfl ?_
  refine Sx.bipush (v := 35) dX6_persons_1 (by decide) ?_
  refine Sx.callU1 dX6_persons_3 lku_X6_11 (rcv_6 hr.1) (by decide) (by decide) (Nat.le_of_ble_eq_true rfl) rfl rfl (c_rg hr rC6 (by decide) hp 35 rfl (by decide) ?_)
  refine Sx.iret dX6_persons_6 rfl rfl ?_
  exact h
set_option maxRecDepth 20000 in
set_option maxHeartbeats 1000000 in
theorem c_kinds {G : Gt} {l : Launch} {Z : Zt} {R : Rt} {I : It} {L : Lt} {post : Pt'} {a : Nat} {P : Nat → Nat} (hr : rwo Z R a 6 36) (hp : rep 36 (I (a + 1)) P) (h : post (some (.int (nI (P 34)))) Z R I L) : Cx G l mX6_kinds 2 0 0 [.ref a] Z R I L post := by
  refine Cx.of (by decide +kernel) (by exact Nat.le_of_ble_eq_true rfl) ?_
  refine Sx.aload_n dX6_kinds_0 rfl ?_
  refine Sx.bipush (v := 34) dX6_kinds_1 (by decide) ?_
  refine Sx.callU1 dX6_kinds_3 lku_X6_11 (rcv_6 hr.1) (by decide) (by decide) (Nat.le_of_ble_eq_true rfl) rfl rfl (c_rg hr rC6 (by decide) hp 34 rfl (by decide) ?_)
  refine Sx.iret dX6_kinds_6 rfl rfl ?_
  exact h
/-- x is one of 0 .. n - 1 -/
def isN (n : Nat) (x : Int32) : Bool := decide (0 ≤ x ∧ x < nI n)
theorem isN_of {n : Nat} {x : Int32} (hn : n < 2 ^ 31) (h : isN n x = true) : ∃ j, j < n ∧ x = nI j := by
  have h1 := of_decide_eq_true h
  obtain ⟨j, hj, rfl⟩ := nI_of (Int32.not_lt.mpr h1.1)
  exact ⟨j, (n_lt hj hn).mp h1.2, rfl⟩
theorem isN_n {n j : Nat} (hn : n < 2 ^ 31) (h : j < n) : isN n (nI j) = true := decide_eq_true ⟨nI_pos' (by omega), nI_lt h hn⟩
set_option maxRecDepth 20000 in
set_option maxHeartbeats 1000000 in
theorem c_isPerson {G : Gt} {l : Launch} {Z : Zt} {R : Rt} {I : It} {L : Lt} {post : Pt'} {a : Nat} {P : Nat → Nat} {x : Int32} (hr : rwo Z R a 6 36) (hp : rep 36 (I (a + 1)) P) (h : post (some (.int (b2i (isN (P 35) x)))) Z R I L) : Cx G l mX6_isPerson 2 0 0 [.ref a, .int x] Z R I L post := by
  refine Cx.of (by decide +kernel) (by exact Nat.le_of_ble_eq_true rfl) ?_
  refine Sx.iload_n dX6_isPerson_0 rfl ?_
  refine Sx.if_lt (t := 18) dX6_isPerson_1 (by decide) (fun c1 => ?_) (fun c1 => ?_)
  · refine Sx.iconst (v := 0) dX6_isPerson_18 (by decide) ?_
    refine Sx.iret dX6_isPerson_19 rfl rfl ?_
    have e : isN (P 35) x = false := by simp [isN]; intro q; exact absurd c1 (Int32.not_lt.mpr q)
    rw [e] at h; exact h
  · refine Sx.iload_n dX6_isPerson_4 rfl ?_
    refine Sx.aload_n dX6_isPerson_5 rfl ?_
    refine Sx.bipush (v := 35) dX6_isPerson_6 (by decide) ?_
    refine Sx.callU1 dX6_isPerson_8 lku_X6_11 (rcv_6 hr.1) (by decide) (by decide) (Nat.le_of_ble_eq_true rfl) rfl rfl (c_rg hr rC6 (by decide) hp 35 rfl (by decide) ?_)
    refine Sx.icmp_ge (t := 18) dX6_isPerson_11 (by decide) (fun c11 => ?_) (fun c11 => ?_)
    · refine Sx.iconst (v := 0) dX6_isPerson_18 (by decide) ?_
      refine Sx.iret dX6_isPerson_19 rfl rfl ?_
      have e : isN (P 35) x = false := by simp [isN]; intro _; exact c11
      rw [e] at h; exact h
    · refine Sx.iconst (v := 1) dX6_isPerson_14 (by decide) ?_
      refine Sx.goto (t := 19) dX6_isPerson_15 (by decide) ?_
      refine Sx.iret dX6_isPerson_19 rfl rfl ?_
      have e : isN (P 35) x = true := by simp [isN]; exact ⟨Int32.not_lt.mp c1, Int32.not_le.mp c11⟩
      rw [e] at h; exact h
set_option maxRecDepth 20000 in
set_option maxHeartbeats 1000000 in
theorem c_isKind {G : Gt} {l : Launch} {Z : Zt} {R : Rt} {I : It} {L : Lt} {post : Pt'} {a : Nat} {P : Nat → Nat} {x : Int32} (hr : rwo Z R a 6 36) (hp : rep 36 (I (a + 1)) P) (h : post (some (.int (b2i (isN (P 34) x)))) Z R I L) : Cx G l mX6_isKind 2 0 0 [.ref a, .int x] Z R I L post := by
  refine Cx.of (by decide +kernel) (by exact Nat.le_of_ble_eq_true rfl) ?_
  refine Sx.iload_n dX6_isKind_0 rfl ?_
  refine Sx.if_lt (t := 18) dX6_isKind_1 (by decide) (fun c1 => ?_) (fun c1 => ?_)
  · refine Sx.iconst (v := 0) dX6_isKind_18 (by decide) ?_
    refine Sx.iret dX6_isKind_19 rfl rfl ?_
    have e : isN (P 34) x = false := by simp [isN]; intro q; exact absurd c1 (Int32.not_lt.mpr q)
    rw [e] at h; exact h
  · refine Sx.iload_n dX6_isKind_4 rfl ?_
    refine Sx.aload_n dX6_isKind_5 rfl ?_
    refine Sx.bipush (v := 34) dX6_isKind_6 (by decide) ?_
    refine Sx.callU1 dX6_isKind_8 lku_X6_11 (rcv_6 hr.1) (by decide) (by decide) (Nat.le_of_ble_eq_true rfl) rfl rfl (c_rg hr rC6 (by decide) hp 34 rfl (by decide) ?_)
    refine Sx.icmp_ge (t := 18) dX6_isKind_11 (by decide) (fun c11 => ?_) (fun c11 => ?_)
    · refine Sx.iconst (v := 0) dX6_isKind_18 (by decide) ?_
      refine Sx.iret dX6_isKind_19 rfl rfl ?_
      have e : isN (P 34) x = false := by simp [isN]; intro _; exact c11
      rw [e] at h; exact h
    · refine Sx.iconst (v := 1) dX6_isKind_14 (by decide) ?_
      refine Sx.goto (t := 19) dX6_isKind_15 (by decide) ?_
      refine Sx.iret dX6_isKind_19 rfl rfl ?_
      have e : isN (P 34) x = true := by simp [isN]; exact ⟨Int32.not_lt.mp c1, Int32.not_le.mp c11⟩
      rw [e] at h; exact h
set_option maxRecDepth 20000 in
set_option maxHeartbeats 1000000 in
theorem c_isDay {G : Gt} {l : Launch} {Z : Zt} {R : Rt} {I : It} {L : Lt} {post : Pt'} {a : Nat} {P : Nat → Nat} {x : Int32} (hr : rwo Z R a 6 36) (hp : rep 36 (I (a + 1)) P) (h : post (some (.int (b2i (isN (P 0) x)))) Z R I L) : Cx G l mX6_isDay 2 0 0 [.ref a, .int x] Z R I L post := by
  refine Cx.of (by decide +kernel) (by exact Nat.le_of_ble_eq_true rfl) ?_
  refine Sx.iload_n dX6_isDay_0 rfl ?_
  refine Sx.if_lt (t := 17) dX6_isDay_1 (by decide) (fun c1 => ?_) (fun c1 => ?_)
  · refine Sx.iconst (v := 0) dX6_isDay_17 (by decide) ?_
    refine Sx.iret dX6_isDay_18 rfl rfl ?_
    have e : isN (P 0) x = false := by simp [isN]; intro q; exact absurd c1 (Int32.not_lt.mpr q)
    rw [e] at h; exact h
  · refine Sx.iload_n dX6_isDay_4 rfl ?_
    refine Sx.aload_n dX6_isDay_5 rfl ?_
    refine Sx.iconst (v := 0) dX6_isDay_6 (by decide) ?_
    refine Sx.callU1 dX6_isDay_7 lku_X6_11 (rcv_6 hr.1) (by decide) (by decide) (Nat.le_of_ble_eq_true rfl) rfl rfl (c_rg hr rC6 (by decide) hp 0 rfl (by decide) ?_)
    refine Sx.icmp_ge (t := 17) dX6_isDay_10 (by decide) (fun c10 => ?_) (fun c10 => ?_)
    · refine Sx.iconst (v := 0) dX6_isDay_17 (by decide) ?_
      refine Sx.iret dX6_isDay_18 rfl rfl ?_
      have e : isN (P 0) x = false := by simp [isN]; intro _; exact c10
      rw [e] at h; exact h
    · refine Sx.iconst (v := 1) dX6_isDay_13 (by decide) ?_
      refine Sx.goto (t := 18) dX6_isDay_14 (by decide) ?_
      refine Sx.iret dX6_isDay_18 rfl rfl ?_
      have e : isN (P 0) x = true := by simp [isN]; exact ⟨Int32.not_lt.mp c1, Int32.not_le.mp c10⟩
      rw [e] at h; exact h
