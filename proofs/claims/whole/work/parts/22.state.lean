/-! a seaport's numbers and a state's, as naturals (a governor by one more, 0 none) -/
def rep (n : Nat) (f : Nat → Int32) (F : Nat → Nat) : Prop := ∀ j, j < n → f j = nI (F j)
def sv (j x : Nat) : Int32 := if j = 143 then nI x - 1 else nI x
def rs (f : Nat → Int32) (F : Nat → Nat) : Prop := ∀ j, j < 146 → f j = sv j (F j)
def upn (F : Nat → Nat) (k x : Nat) : Nat → Nat := fun j => if j = k then x else F j
theorem upn_eq (F : Nat → Nat) (k x : Nat) : upn F k x k = x := by simp [upn]
theorem upn_ne (F : Nat → Nat) {k j : Nat} (x : Nat) (h : j ≠ k) : upn F k x j = F j := by simp [upn, h]
/-- all that a state holds is small -/
def bnd (F : Nat → Nat) : Prop := ∀ j, j < 146 → F j < 2 ^ 24
theorem sv_n {j x : Nat} (h : j ≠ 143) : sv j x = nI x := by unfold sv; rw [if_neg h]
theorem rs_upd {f : Nat → Int32} {F : Nat → Nat} {k x : Nat} {v : Int32} (h : rs f F) (hv : v = sv k x) : rs (upd f k v) (upn F k x) := by
  intro j hj
  unfold upd upn
  split
  · next e => subst e; exact hv
  · exact h j hj
theorem rep_upd {n : Nat} {f : Nat → Int32} {F : Nat → Nat} {k x : Nat} {v : Int32} (h : rep n f F) (hv : v = nI x) : rep n (upd f k v) (upn F k x) := by
  intro j hj
  unfold upd upn
  split
  · exact hv
  · exact h j hj
theorem rs_cpy {f g : Nat → Int32} {F : Nat → Nat} (h : rs f F) : rs (rcpy 146 f g) F := by
  intro j hj
  rw [rcpy, if_pos hj]
  exact h j hj
theorem rep_cpy {n : Nat} {f g : Nat → Int32} {F : Nat → Nat} (h : rep n f F) : rep n (rcpy n f g) F := by
  intro j hj
  rw [rcpy, if_pos hj]
  exact h j hj
theorem rC6 : rowC 6 := by unfold rowC; omega
theorem rC7 : rowC 7 := by unfold rowC; omega
theorem rC8 : rowC 8 := by unfold rowC; omega
theorem rC3 : rowC 3 := by unfold rowC; omega
theorem rC0 : rowC 0 := by unfold rowC; omega
theorem c_sg {G : Gt} {l : Launch} {Z : Zt} {R : Rt} {I : It} {L : Lt} {post : Pt'} {s : Nat} {F : Nat → Nat} {i : Int32} (hr : rwo Z R s 8 146) (hs : rs (I (s + 1)) F) (k : Nat) (hi : i = nI k) (hk : k < 146) (hk2 : k ≠ 143) (h : post (some (.int (nI (F k)))) Z R I L) : Cx G l mX7_get 1 0 0 [.ref s, .int i] Z R I L post :=
  c_get hr rC8 (by decide) k hi hk (by rw [hs k hk, sv_n hk2]; exact h)
theorem c_sgv {G : Gt} {l : Launch} {Z : Zt} {R : Rt} {I : It} {L : Lt} {post : Pt'} {s : Nat} {F : Nat → Nat} (hr : rwo Z R s 8 146) (hs : rs (I (s + 1)) F) (h : post (some (.int (nI (F 143) - 1))) Z R I L) : Cx G l mX7_get 1 0 0 [.ref s, .int 143] Z R I L post :=
  c_get hr rC8 (by decide) 143 rfl (by decide) (by rw [hs 143 (by decide)]; exact h)
theorem c_ss {G : Gt} {l : Launch} {Z : Zt} {R : Rt} {I : It} {L : Lt} {post : Pt'} {s : Nat} {F : Nat → Nat} {i v : Int32} (hr : rwo Z R s 8 146) (hs : rs (I (s + 1)) F) (k x : Nat) (hi : i = nI k) (hk : k < 146) (hv : v = sv k x) (h : ∀ I', rs (I' (s + 1)) (upn F k x) → (∀ q, q ≠ s + 1 → I' q = I q) → post none Z R I' L) : Cx G l mX7_set 1 0 0 [.ref s, .int i, .int v] Z R I L post :=
  c_set hr rC8 (by decide) k hi hk (fun I' e1 e2 => h I' (by rw [e1]; exact rs_upd hs hv) e2)
theorem c_rg {G : Gt} {l : Launch} {Z : Zt} {R : Rt} {I : It} {L : Lt} {post : Pt'} {a c n : Nat} {F : Nat → Nat} {i : Int32} (hr : rwo Z R a c n) (hc : rowC c) (hn : n < 2 ^ 31) (hs : rep n (I (a + 1)) F) (k : Nat) (hi : i = nI k) (hk : k < n) (h : post (some (.int (nI (F k)))) Z R I L) : Cx G l mX7_get 1 0 0 [.ref a, .int i] Z R I L post :=
  c_get hr hc hn k hi hk (by rw [hs k hk]; exact h)
theorem c_rs {G : Gt} {l : Launch} {Z : Zt} {R : Rt} {I : It} {L : Lt} {post : Pt'} {a c n : Nat} {F : Nat → Nat} {i v : Int32} (hr : rwo Z R a c n) (hc : rowC c) (hn : n < 2 ^ 31) (hs : rep n (I (a + 1)) F) (k x : Nat) (hi : i = nI k) (hk : k < n) (hv : v = nI x) (h : ∀ I', rep n (I' (a + 1)) (upn F k x) → (∀ q, q ≠ a + 1 → I' q = I q) → post none Z R I' L) : Cx G l mX7_set 1 0 0 [.ref a, .int i, .int v] Z R I L post :=
  c_set hr hc hn k hi hk (fun I' e1 e2 => h I' (by rw [e1]; exact rep_upd hs hv) e2)
set_option maxRecDepth 20000 in
set_option maxHeartbeats 1000000 in
theorem c_hasBit {G : Gt} {l : Launch} {Z : Zt} {R : Rt} {I : It} {L : Lt} {post : Pt'} {x p : Nat} (hx : x < 2 ^ 31) (hp : p < 32) (h : post (some (.int (b2i (hbN x p)))) Z R I L) : Cx G l mX11_hasBit 1 0 0 [.int (nI x), .int (nI p)] Z R I L post := by
  refine Cx.of (by decide +kernel) (by exact Nat.le_of_ble_eq_true rfl) ?_
  refine Sx.iload_n dX11_hasBit_0 rfl ?_
  refine Sx.iload_n dX11_hasBit_1 rfl ?_
  refine Sx.ishr dX11_hasBit_2 ?_
  refine Sx.iconst (v := 1) dX11_hasBit_3 (by decide) ?_
  refine Sx.iand dX11_hasBit_4 ?_
  rw [n_shr hx hp, n_and1 (by have := Nat.div_le_self x (2 ^ p); omega)]
  refine Sx.if_eq (t := 12) dX11_hasBit_5 (by decide) (fun c5 => ?_) (fun c5 => ?_)
  · refine Sx.iconst (v := 0) dX11_hasBit_12 (by decide) ?_
    refine Sx.iret dX11_hasBit_13 rfl rfl ?_
    have e : hbN x p = false := by
      have := (n_eq (by omega) (by decide)).mp (show nI (x / 2 ^ p % 2) = nI 0 from c5)
      simp [hbN, this]
    rw [e] at h; exact h
  · refine Sx.iconst (v := 1) dX11_hasBit_8 (by decide) ?_
    refine Sx.goto (t := 13) dX11_hasBit_9 (by decide) ?_
    refine Sx.iret dX11_hasBit_13 rfl rfl ?_
    have e : hbN x p = true := by
      have h2 : ¬ x / 2 ^ p % 2 = 0 := fun q => c5 (by rw [q]; rfl)
      have h3 : x / 2 ^ p % 2 = 1 := by omega
      simp [hbN, h3]
    rw [e] at h; exact h
def isDg (x : Int32) : Bool := decide (48 ≤ x ∧ x ≤ 57)
set_option maxRecDepth 20000 in
set_option maxHeartbeats 1000000 in
theorem c_isDigit {G : Gt} {l : Launch} {Z : Zt} {R : Rt} {I : It} {L : Lt} {post : Pt'} {x : Int32} (h : post (some (.int (b2i (isDg x)))) Z R I L) : Cx G l mX11_isDigit 1 0 0 [.int x] Z R I L post := by
  refine Cx.of (by decide +kernel) (by exact Nat.le_of_ble_eq_true rfl) ?_
  refine Sx.iload_n dX11_isDigit_0 rfl ?_
  refine Sx.bipush (v := 48) dX11_isDigit_1 (by decide) ?_
  refine Sx.icmp_lt (t := 16) dX11_isDigit_3 (by decide) (fun c3 => ?_) (fun c3 => ?_)
  · refine Sx.iconst (v := 0) dX11_isDigit_16 (by decide) ?_
    refine Sx.iret dX11_isDigit_17 rfl rfl ?_
    have e : isDg x = false := by simp [isDg]; intro q; exact absurd c3 (Int32.not_lt.mpr q)
    rw [e] at h; exact h
  · refine Sx.iload_n dX11_isDigit_6 rfl ?_
    refine Sx.bipush (v := 57) dX11_isDigit_7 (by decide) ?_
    refine Sx.icmp_gt (t := 16) dX11_isDigit_9 (by decide) (fun c9 => ?_) (fun c9 => ?_)
    · refine Sx.iconst (v := 0) dX11_isDigit_16 (by decide) ?_
      refine Sx.iret dX11_isDigit_17 rfl rfl ?_
      have e : isDg x = false := by simp [isDg]; intro _; exact c9
      rw [e] at h; exact h
    · refine Sx.iconst (v := 1) dX11_isDigit_12 (by decide) ?_
      refine Sx.goto (t := 17) dX11_isDigit_13 (by decide) ?_
      refine Sx.iret dX11_isDigit_17 rfl rfl ?_
      have e : isDg x = true := by simp [isDg]; exact ⟨Int32.not_lt.mp c3, Int32.not_lt.mp c9⟩
      rw [e] at h; exact h
set_option maxRecDepth 20000 in
set_option maxHeartbeats 1000000 in
theorem c_X8_isInBed {G : Gt} {l : Launch} {Z : Zt} {R : Rt} {I : It} {L : Lt} {post : Pt'} {s : Nat} {F : Nat → Nat} {j : Nat} (hr : rwo Z R s 8 146) (hs : rs (I (s + 1)) F) (hb : F 138 < 64) (hj : j < 32) (h : post (some (.int (b2i (hbN (F 138) j)))) Z R I L) : Cx G l mX8_isInBed 2 0 0 [.ref s, .int (nI j)] Z R I L post := by
  refine Cx.of (by decide +kernel) (by exact Nat.le_of_ble_eq_true rfl) ?_
  refine Sx.aload_n dX8_isInBed_0 rfl ?_
  refine Sx.sipush (v := 138) dX8_isInBed_1 (by decide) ?_
  refine Sx.callU1 dX8_isInBed_4 lku_X8_24 (rcv_8 hr.1) (by decide) (by decide) (Nat.le_of_ble_eq_true rfl) rfl rfl (c_sg hr hs 138 rfl (by decide) (by decide) ?_)
  refine Sx.iload_n dX8_isInBed_7 rfl ?_
  refine Sx.callSN2 dX8_isInBed_8 lkc_X8_25  (by decide) (by decide) (Nat.le_of_ble_eq_true rfl) rfl rfl (c_hasBit (by omega) hj ?_)
  refine Sx.iret dX8_isInBed_11 rfl (b2i_n _) ?_
  exact h
set_option maxRecDepth 20000 in
set_option maxHeartbeats 1000000 in
theorem c_X8_upBits {G : Gt} {l : Launch} {Z : Zt} {R : Rt} {I : It} {L : Lt} {post : Pt'} {s : Nat} {F : Nat → Nat} {n : Nat} (hr : rwo Z R s 8 146) (hs : rs (I (s + 1)) F) (hb : F 138 < 64) (hn : n < 7) (h : post (some (.int (nI (upN n (F 138))))) Z R I L) : Cx G l mX8_upBits 2 0 0 [.ref s, .int (nI n)] Z R I L post := by
  refine Cx.of (by decide +kernel) (by exact Nat.le_of_ble_eq_true rfl) ?_
  refine Sx.iconst (v := 1) dX8_upBits_0 (by decide) ?_
  refine Sx.iload_n dX8_upBits_1 rfl ?_
  refine Sx.ishl dX8_upBits_2 ?_
  refine Sx.iconst (v := 1) dX8_upBits_3 (by decide) ?_
  refine Sx.isub dX8_upBits_4 ?_
  refine Sx.aload_n dX8_upBits_5 rfl ?_
  refine Sx.sipush (v := 138) dX8_upBits_6 (by decide) ?_
  refine Sx.callU1 dX8_upBits_9 lku_X8_24 (rcv_8 hr.1) (by decide) (by decide) (Nat.le_of_ble_eq_true rfl) rfl rfl (c_sg hr hs 138 rfl (by decide) (by decide) ?_)
  refine Sx.iconst (v := (-1)) dX8_upBits_12 (by decide) ?_
  refine Sx.ixor dX8_upBits_13 ?_
  refine Sx.iand dX8_upBits_14 ?_
  rw [(upN_bit n hn _ hb).1]
  refine Sx.iret dX8_upBits_15 rfl rfl ?_
  exact h
set_option maxRecDepth 20000 in
set_option maxHeartbeats 1000000 in
theorem c_X8_upCount {G : Gt} {l : Launch} {Z : Zt} {R : Rt} {I : It} {L : Lt} {post : Pt'} {s : Nat} {F : Nat → Nat} {n : Nat} (hr : rwo Z R s 8 146) (hs : rs (I (s + 1)) F) (hb : F 138 < 64) (hn : n < 7) (h : post (some (.int (nI (popN (upN n (F 138)))))) Z R I L) : Cx G l mX8_upCount 3 0 0 [.ref s, .int (nI n)] Z R I L post := by
  refine Cx.of (by decide +kernel) (by exact Nat.le_of_ble_eq_true rfl) ?_
  refine Sx.aload_n dX8_upCount_0 rfl ?_
  refine Sx.iload_n dX8_upCount_1 rfl ?_
  refine Sx.callV1 dX8_upCount_2 lkv_X8_29 (rcv_8 hr.1) (by decide) (by decide) (Nat.le_of_ble_eq_true rfl) rfl rfl (c_X8_upBits hr hs hb hn ?_)
  refine Sx.callS1 dX8_upCount_5 lkc_X8_32  (by decide) (by decide) (Nat.le_of_ble_eq_true rfl) rfl rfl (c_bitc ?_)
  rw [(popN_bit _ (upN_bit n hn _ hb).2).1]
  refine Sx.iret dX8_upCount_8 rfl rfl ?_
  exact h
def partyN (F : Nat → Nat) (k : Nat) : Nat → Nat
  | 0 => 0
  | j + 1 => partyN F k j ||| (if F j = k then 2 ^ j else 0)
theorem partyN_lt (F : Nat → Nat) (k : Nat) : ∀ j, partyN F k j < 2 ^ j
  | 0 => by simp [partyN]
  | j + 1 => by
    have h1 := partyN_lt F k j
    unfold partyN
    refine Nat.or_lt_two_pow (by rw [Nat.pow_succ]; omega) ?_
    split
    · rw [Nat.pow_succ]; have := Nat.two_pow_pos j; omega
    · exact Nat.two_pow_pos _
set_option maxRecDepth 20000 in
set_option maxHeartbeats 1000000 in
theorem l_X8_party {G : Gt} {l : Launch} {Z : Zt} {R : Rt} {L : Lt} {post : Pt'} {s : Nat} {F : Nat → Nat} {k0 n : Nat} {I0 : It} (hr : rwo Z R s 8 146) (hb : ∀ j, j < 6 → F j < 2 ^ 24) (hn : n < 7) (hk : k0 < 2 ^ 24) (h : ∀ I', I' = I0 → post (some (.int (nI (partyN F k0 n)))) Z R I' L) :
    ∀ (k j : Nat), j ≤ n → n < j + k → ∀ (I : It) (v : Int32), (I = I0) → (rs (I (s + 1)) F) → (v = nI (partyN F k0 j)) → ∀ (y : Int32), y = nI j → Sx G l mX8_party 2 0 0 5 [(4, .int y), (3, .int v), (0, .ref s), (1, .int (nI k0)), (2, .int (nI n))] [] Z R I L post := by
  intro k
  induction k with
  | zero => intro j h1 h2; omega
  | succ k ih =>
    intro j h1 h2 I v hI hs hv y hy
    refine Sx.iload dX8_party_5 rfl ?_
    refine Sx.iload_n dX8_party_7 rfl ?_
    refine Sx.icmp_ge (t := 47) dX8_party_8 (by decide) (fun c8 => ?_) (fun c8 => ?_)
    · refine Sx.iload_n dX8_party_47 rfl ?_
      refine Sx.iret dX8_party_48 rfl rfl ?_
      have hj : j = n := by
        rcases Nat.lt_or_ge j n with q | q
        · exact absurd c8 (by rw [hy]; exact nI_ge q (by omega))
        · omega
      subst hj
      rw [hv]
      exact h I hI
    · have hlt : j < n := by rcases Nat.lt_or_ge j n with q | q; exact q; exact absurd (by rw [hy]; exact nI_le q (by omega)) c8
      refine Sx.iload dX8_party_11 rfl ?_
      refine Sx.bipush (v := 6) dX8_party_13 (by decide) ?_
      refine Sx.icmp_ge (t := 47) dX8_party_15 (by decide) (fun c15 => absurd c15 (by rw [hy]; exact nI_ge (show j < 6 by omega) (by decide))) (fun c15 => ?_)
      refine Sx.iload_n dX8_party_18 rfl ?_
      refine Sx.aload_n dX8_party_19 rfl ?_
      refine Sx.iconst (v := 0) dX8_party_20 (by decide) ?_
      refine Sx.iload dX8_party_21 rfl ?_
      refine Sx.iadd dX8_party_23 ?_
      refine Sx.callU1 dX8_party_24 lku_X8_24 (rcv_8 hr.1) (by decide) (by decide) (Nat.le_of_ble_eq_true rfl) rfl rfl (c_sg hr hs j (by rw [hy]; exact nI_add 0 j |>.trans (by rw [Nat.zero_add])) (by omega) (by omega) ?_)
      refine Sx.iload_n dX8_party_27 rfl ?_
      refine Sx.icmp_ne (t := 38) dX8_party_28 (by decide) (fun c28 => ?_) (fun c28 => ?_)
      · have hne : ¬ F j = k0 := fun q => c28 (by rw [q])
        refine Sx.iconst (v := 0) dX8_party_38 (by decide) ?_
        refine Sx.ior dX8_party_39 ?_
        refine Sx.ist_n (fun zz => [(3, .int zz), (4, .int y), (0, .ref s), (1, .int (nI k0)), (2, .int (nI n))]) dX8_party_40 (by decide) (fun _ => rfl) (fun x3_40 ex3_40 => ?_)
        refine Sx.iincN (fun zz => [(4, .int zz), (3, .int x3_40), (0, .ref s), (1, .int (nI k0)), (2, .int (nI n))]) dX8_party_41 rfl (by decide) (fun _ => rfl) (fun x4_41 ex4_41 => ?_)
        refine Sx.goto (t := 5) dX8_party_44 (by decide) ?_
        refine Sx.sub' [(4, .int x4_41), (3, .int x3_40), (0, .ref s), (1, .int (nI k0)), (2, .int (nI n))] rfl ?_
        exact ih (j + 1) (by omega) (by omega) I _ hI hs (by rw [ex3_40, hv, partyN, if_neg hne]; exact n_or _ _) _ (by rw [ex4_41, hy]; exact nI_1 j)
      · refine Sx.iconst (v := 1) dX8_party_31 (by decide) ?_
        refine Sx.iload dX8_party_32 rfl ?_
        refine Sx.ishl dX8_party_34 ?_
        have heq : F j = k0 := (n_eq (by have := hb j (by omega); omega) (by omega)).mp (Classical.byContradiction fun q => absurd c28 (by simpa using q))
        rw [hy, show (1 : Int32) = nI 1 from rfl, n_shl (by omega) (by rw [Nat.one_mul]; exact Nat.lt_of_le_of_lt (Nat.pow_le_pow_right (by decide) (show j ≤ 6 by omega)) (by decide)), Nat.one_mul, ← hy]
        refine Sx.goto (t := 39) dX8_party_35 (by decide) ?_
        refine Sx.ior dX8_party_39 ?_
        refine Sx.ist_n (fun zz => [(3, .int zz), (4, .int y), (0, .ref s), (1, .int (nI k0)), (2, .int (nI n))]) dX8_party_40 (by decide) (fun _ => rfl) (fun x3_40 ex3_40 => ?_)
        refine Sx.iincN (fun zz => [(4, .int zz), (3, .int x3_40), (0, .ref s), (1, .int (nI k0)), (2, .int (nI n))]) dX8_party_41 rfl (by decide) (fun _ => rfl) (fun x4_41 ex4_41 => ?_)
        refine Sx.goto (t := 5) dX8_party_44 (by decide) ?_
        refine Sx.sub' [(4, .int x4_41), (3, .int x3_40), (0, .ref s), (1, .int (nI k0)), (2, .int (nI n))] rfl ?_
        exact ih (j + 1) (by omega) (by omega) I _ hI hs (by rw [ex3_40, hv, partyN, if_pos heq]; exact n_or _ _) _ (by rw [ex4_41, hy]; exact nI_1 j)
/-- how many voices the governor has -/
def gvN (F : Nat → Nat) : Nat := if F 143 = 0 then 0 else F (11 + F 143)
set_option maxRecDepth 20000 in
set_option maxHeartbeats 1000000 in
theorem c_X8_gv {G : Gt} {l : Launch} {Z : Zt} {R : Rt} {I : It} {L : Lt} {post : Pt'} {s : Nat} {F : Nat → Nat} (hr : rwo Z R s 8 146) (hs : rs (I (s + 1)) F) (hg : F 143 ≤ 6) (h : post (some (.int (nI (gvN F)))) Z R I L) : Cx G l mX8_governingVoices 2 0 0 [.ref s] Z R I L post := by
  refine Cx.of (by decide +kernel) (by exact Nat.le_of_ble_eq_true rfl) ?_
  refine Sx.aload_n dX8_governingVoices_0 rfl ?_
  refine Sx.sipush (v := 143) dX8_governingVoices_1 (by decide) ?_
  refine Sx.callU1 dX8_governingVoices_4 lku_X8_24 (rcv_8 hr.1) (by decide) (by decide) (Nat.le_of_ble_eq_true rfl) rfl rfl (c_sgv hr hs ?_)
  refine Sx.ist_n (fun zz => [(1, .int zz), (0, .ref s)]) dX8_governingVoices_7 (by decide) (fun _ => rfl) (fun x1_7 ex1_7 => ?_)
  refine Sx.iload_n dX8_governingVoices_8 rfl ?_
  refine Sx.if_lt (t := 18) dX8_governingVoices_9 (by decide) (fun c9 => ?_) (fun c9 => ?_)
  · refine Sx.iconst (v := 0) dX8_governingVoices_18 (by decide) ?_
    refine Sx.goto (t := 30) dX8_governingVoices_19 (by decide) ?_
    refine Sx.iret dX8_governingVoices_30 rfl rfl ?_
    have e : gvN F = 0 := by
      unfold gvN
      rw [if_pos]
      rcases Nat.eq_zero_or_pos (F 143) with q | q
      · exact q
      · exfalso
        rw [ex1_7, show nI (F 143) - 1 = nI (F 143 - 1) from n_sub (a := F 143) (b := 1) q] at c9
        exact nI_pos (by omega) c9
    rw [e] at h; exact h
  · have hk0 : ¬ F 143 = 0 := fun q => c9 (by rw [ex1_7, q]; decide)
    have hk1 : nI (F 143) - 1 = nI (F 143 - 1) := n_sub (a := F 143) (b := 1) (by omega)
    refine Sx.iload_n dX8_governingVoices_12 rfl ?_
    refine Sx.bipush (v := 6) dX8_governingVoices_13 (by decide) ?_
    refine Sx.icmp_lt (t := 22) dX8_governingVoices_15 (by decide) (fun c15 => ?_) (fun c15 => absurd (by rw [ex1_7, hk1]; exact nI_lt (show F 143 - 1 < 6 by omega) (by decide)) c15)
    refine Sx.aload_n dX8_governingVoices_22 rfl ?_
    refine Sx.bipush (v := 12) dX8_governingVoices_23 (by decide) ?_
    refine Sx.iload_n dX8_governingVoices_25 rfl ?_
    refine Sx.iadd dX8_governingVoices_26 ?_
    refine Sx.callU1 dX8_governingVoices_27 lku_X8_24 (rcv_8 hr.1) (by decide) (by decide) (Nat.le_of_ble_eq_true rfl) rfl rfl (c_sg hr hs (12 + (F 143 - 1)) (by rw [ex1_7, hk1]; exact nI_add 12 _) (by omega) (by omega) ?_)
    refine Sx.iret dX8_governingVoices_30 rfl rfl ?_
    have e : gvN F = F (12 + (F 143 - 1)) := by
      unfold gvN
      rw [if_neg hk0, show 11 + F 143 = 12 + (F 143 - 1) by omega]
    rw [e] at h; exact h
/-- the darkest of the first days (of several the first), by one more; 0: none -/
def dkN (F : Nat → Nat) : Nat → Nat
  | 0 => 0
  | j + 1 => if dkN F j = 0 ∨ F (18 + j) < F (18 + (dkN F j - 1)) then j + 1 else dkN F j
theorem dkN_le (F : Nat → Nat) : ∀ j, dkN F j ≤ j
  | 0 => Nat.le_refl _
  | j + 1 => by
    have := dkN_le F j
    unfold dkN
    split <;> omega
theorem dkN_pos (F : Nat → Nat) : ∀ j, 0 < j → 0 < dkN F j
  | 0 => fun h => by omega
  | j + 1 => fun _ => by
    unfold dkN
    split
    · omega
    · next h => omega
set_option maxRecDepth 20000 in
set_option maxHeartbeats 1000000 in
theorem l_X8_dark {G : Gt} {l : Launch} {Z : Zt} {R : Rt} {L : Lt} {post : Pt'} {s : Nat} {F : Nat → Nat} {I0 : It} (hr : rwo Z R s 8 146) (hb : ∀ j, j < 146 → F j < 2 ^ 31) (hd : F 145 ≤ 30) (h : ∀ I', I' = I0 → post (some (.int (nI (dkN F (F 145)) - 1))) Z R I' L) :
    ∀ (k j : Nat), j ≤ F 145 → F 145 < j + k → ∀ (I : It) (v : Int32), (I = I0) → (rs (I (s + 1)) F) → (v = nI (dkN F j) - 1) → ∀ (y : Int32), y = nI j → Sx G l mX8_darkestOver 2 0 0 4 [(2, .int y), (1, .int v), (0, .ref s)] [] Z R I L post := by
  intro k
  induction k with
  | zero => intro j h1 h2; omega
  | succ k ih =>
    intro j h1 h2 I v hI hs hv y hy
    refine Sx.iload_n dX8_darkestOver_4 rfl ?_
    refine Sx.aload_n dX8_darkestOver_5 rfl ?_
    refine Sx.sipush (v := 145) dX8_darkestOver_6 (by decide) ?_
    refine Sx.callU1 dX8_darkestOver_9 lku_X8_24 (rcv_8 hr.1) (by decide) (by decide) (Nat.le_of_ble_eq_true rfl) rfl rfl (c_sg hr hs 145 rfl (by decide) (by decide) ?_)
    refine Sx.icmp_ge (t := 53) dX8_darkestOver_12 (by decide) (fun c12 => ?_) (fun c12 => ?_)
    · refine Sx.iload_n dX8_darkestOver_53 rfl ?_
      refine Sx.iret dX8_darkestOver_54 rfl rfl ?_
      have hj := lp_end hy (by omega) h1 c12
      subst hj
      rw [hv]
      exact h I hI
    · have hlt := lp_lt hy (by omega) h1 c12
      have hdk := dkN_le F j
      refine Sx.iload_n dX8_darkestOver_15 rfl ?_
      refine Sx.bipush (v := 30) dX8_darkestOver_16 (by decide) ?_
      refine Sx.icmp_ge (t := 53) dX8_darkestOver_18 (by decide) (fun c18 => absurd c18 (by rw [hy]; exact nI_ge (show j < 30 by omega) (by decide))) (fun c18 => ?_)
      refine Sx.iload_n dX8_darkestOver_21 rfl ?_
      refine Sx.iconst (v := (-1)) dX8_darkestOver_22 (by decide) ?_
      refine Sx.icmp_eq (t := 45) dX8_darkestOver_23 (by decide) (fun c23 => ?_) (fun c23 => ?_)
      · have hz : dkN F j = 0 := by
          rcases Nat.eq_zero_or_pos (dkN F j) with q | q
          · exact q
          · exfalso
            rw [hv, show nI (dkN F j) - 1 = nI (dkN F j - 1) from n_sub (a := dkN F j) (b := 1) q] at c23
            have := congrArg Int32.toInt c23
            rw [nI_toInt (by omega), show (-1 : Int32).toInt = -1 by decide] at this
            omega
        refine Sx.iload_n dX8_darkestOver_45 rfl ?_
        refine Sx.ist_n (fun zz => [(1, .int zz), (2, .int y), (0, .ref s)]) dX8_darkestOver_46 (by decide) (fun _ => rfl) (fun x1_46 ex1_46 => ?_)
        refine Sx.iincN (fun zz => [(2, .int zz), (1, .int x1_46), (0, .ref s)]) dX8_darkestOver_47 rfl (by decide) (fun _ => rfl) (fun x2_47 ex2_47 => ?_)
        refine Sx.goto (t := 4) dX8_darkestOver_50 (by decide) ?_
        refine Sx.sub' [(2, .int x2_47), (1, .int x1_46), (0, .ref s)] rfl ?_
        exact ih (j + 1) (by omega) (by omega) I _ hI hs (by rw [ex1_46, hy, dkN, if_pos (Or.inl hz), n_m1]) _ (by rw [ex2_47, hy]; exact nI_1 j)
      · have hz : ¬ dkN F j = 0 := fun q => c23 (by rw [hv, q]; decide)
        have hz1 : nI (dkN F j) - 1 = nI (dkN F j - 1) := n_sub (a := dkN F j) (b := 1) (by omega)
        refine Sx.aload_n dX8_darkestOver_26 rfl ?_
        refine Sx.bipush (v := 18) dX8_darkestOver_27 (by decide) ?_
        refine Sx.iload_n dX8_darkestOver_29 rfl ?_
        refine Sx.iadd dX8_darkestOver_30 ?_
        refine Sx.callU1 dX8_darkestOver_31 lku_X8_24 (rcv_8 hr.1) (by decide) (by decide) (Nat.le_of_ble_eq_true rfl) rfl rfl (c_sg hr hs (18 + j) (by rw [hy]; exact nI_add 18 j) (by omega) (by omega) ?_)
        refine Sx.aload_n dX8_darkestOver_34 rfl ?_
        refine Sx.bipush (v := 18) dX8_darkestOver_35 (by decide) ?_
        refine Sx.iload_n dX8_darkestOver_37 rfl ?_
        refine Sx.iadd dX8_darkestOver_38 ?_
        refine Sx.callU1 dX8_darkestOver_39 lku_X8_24 (rcv_8 hr.1) (by decide) (by decide) (Nat.le_of_ble_eq_true rfl) rfl rfl (c_sg hr hs (18 + (dkN F j - 1)) (by rw [hv, hz1]; exact nI_add 18 _) (by omega) (by omega) ?_)
        refine Sx.icmp_ge (t := 47) dX8_darkestOver_42 (by decide) (fun c42 => ?_) (fun c42 => ?_)
        · have hlow : ¬ F (18 + j) < F (18 + (dkN F j - 1)) := fun q => absurd ((n_lt (hb _ (by omega)) (hb _ (by omega))).mpr q) (Int32.not_lt.mpr c42)
          refine Sx.iincN (fun zz => [(2, .int zz), (1, .int v), (0, .ref s)]) dX8_darkestOver_47 rfl (by decide) (fun _ => rfl) (fun x2_47 ex2_47 => ?_)
          refine Sx.goto (t := 4) dX8_darkestOver_50 (by decide) ?_
          refine Sx.sub' [(2, .int x2_47), (1, .int v), (0, .ref s)] rfl ?_
          exact ih (j + 1) (by omega) (by omega) I _ hI hs (by rw [hv, dkN, if_neg (fun q => q.elim hz hlow)]) _ (by rw [ex2_47, hy]; exact nI_1 j)
        · have hlow : F (18 + j) < F (18 + (dkN F j - 1)) := (n_lt (hb _ (by omega)) (hb _ (by omega))).mp (Int32.not_le.mp c42)
          refine Sx.iload_n dX8_darkestOver_45 rfl ?_
          refine Sx.ist_n (fun zz => [(1, .int zz), (2, .int y), (0, .ref s)]) dX8_darkestOver_46 (by decide) (fun _ => rfl) (fun x1_46 ex1_46 => ?_)
          refine Sx.iincN (fun zz => [(2, .int zz), (1, .int x1_46), (0, .ref s)]) dX8_darkestOver_47 rfl (by decide) (fun _ => rfl) (fun x2_47 ex2_47 => ?_)
          refine Sx.goto (t := 4) dX8_darkestOver_50 (by decide) ?_
          refine Sx.sub' [(2, .int x2_47), (1, .int x1_46), (0, .ref s)] rfl ?_
          exact ih (j + 1) (by omega) (by omega) I _ hI hs (by rw [ex1_46, hy, dkN, if_pos (Or.inr hlow), n_m1]) _ (by rw [ex2_47, hy]; exact nI_1 j)
set_option maxRecDepth 20000 in
set_option maxHeartbeats 1000000 in
theorem c_X8_dark {G : Gt} {l : Launch} {Z : Zt} {R : Rt} {I : It} {L : Lt} {post : Pt'} {s : Nat} {F : Nat → Nat} (hr : rwo Z R s 8 146) (hs : rs (I (s + 1)) F) (hb : ∀ j, j < 146 → F j < 2 ^ 31) (hd : F 145 ≤ 30) (h : post (some (.int (nI (dkN F (F 145)) - 1))) Z R I L) : Cx G l mX8_darkestOver 2 0 0 [.ref s] Z R I L post := by
  refine Cx.of (by decide +kernel) (by exact Nat.le_of_ble_eq_true rfl) ?_
  refine Sx.iconst (v := (-1)) dX8_darkestOver_0 (by decide) ?_
  refine Sx.ist_n (fun zz => [(1, .int zz), (0, .ref s)]) dX8_darkestOver_1 (by decide) (fun _ => rfl) (fun x1_1 ex1_1 => ?_)
  refine Sx.iconst (v := 0) dX8_darkestOver_2 (by decide) ?_
  refine Sx.ist_n (fun zz => [(2, .int zz), (1, .int x1_1), (0, .ref s)]) dX8_darkestOver_3 (by decide) (fun _ => rfl) (fun x2_3 ex2_3 => ?_)
  exact l_X8_dark hr hb hd (fun I' e => by rw [e]; exact h) (F 145 + 1) 0 (by omega) (by omega) I _ rfl hs (by rw [ex1_1]; decide) _ ex2_3
