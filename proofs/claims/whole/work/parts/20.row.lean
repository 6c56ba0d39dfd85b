/-! Row -/
def rget (n : Nat) (f : Nat → Int32) (i : Int32) : Int32 := if 0 ≤ i ∧ i < Int32.ofNat n then f i.toNatClampNeg else 0
def rset (n : Nat) (f : Nat → Int32) (i x : Int32) : Nat → Int32 := if 0 ≤ i ∧ i < Int32.ofNat n then upd f i.toNatClampNeg x else f
def rfil (n : Nat) (f : Nat → Int32) (v : Int32) : Nat → Int32 := fun j => if j < n then v else f j
def rcpy (n : Nat) (f g : Nat → Int32) : Nat → Int32 := fun j => if j < n then f j else g j
/-- where the greatest stands, of several the first: among the places p .. p + k - 1, counted from p -/
def amx (f : Nat → Int32) (p : Nat) : Nat → Nat
  | 0 => 0
  | j + 1 => if f (p + amx f p j) < f (p + j) then j else amx f p j
theorem amx_le (f : Nat → Int32) (p : Nat) : ∀ k, amx f p k ≤ k
  | 0 => Nat.le_refl _
  | j + 1 => by
    have := amx_le f p j
    unfold amx
    split <;> omega
theorem amx_lt (f : Nat → Int32) (p : Nat) : ∀ k, 0 < k → amx f p k < k
  | 0 => fun h => by omega
  | j + 1 => fun _ => by
    have := amx_le f p j
    unfold amx
    split
    · omega
    · cases j with
      | zero => simp [amx]
      | succ j => have := amx_lt f p (j + 1) (by omega); omega
theorem r_in {i : Int32} {n : Nat} (hn : n < 2 ^ 31) (h0 : ¬ i < 0) (h1 : ¬ Int32.ofNat n ≤ i) : vp_in i n := by
  have e0 : (0 : Int32).toInt = 0 := by decide
  have e1 : (Int32.ofNat n).toInt = n := nI_toInt hn
  rw [Int32.lt_iff_toInt_lt, e0] at h0
  rw [Int32.le_iff_toInt_le, e1] at h1
  exact vp_in_iff.mpr ⟨by omega, by omega⟩
theorem r_nn {i : Int32} (h : ¬ i < 0) : 0 ≤ i := Int32.not_lt.mp h
theorem r_lt {i j : Int32} (h : ¬ j ≤ i) : i < j := Int32.not_le.mp h
theorem r_nlt {i j : Int32} (h : j ≤ i) : ¬ i < j := Int32.not_lt.mpr h
theorem r_nle {i : Int32} (h : i < 0) : ¬ 0 ≤ i := Int32.not_le.mpr h
theorem up_at (I : It) (a : Nat) (f : Nat → Int32) : va_up I a f a = f := mu_eq I a f
theorem up_off (I : It) {a q : Nat} (f : Nat → Int32) (h : q ≠ a) : va_up I a f q = I q := mu_ne I f h
theorem rget_n {n k : Nat} (f : Nat → Int32) {i : Int32} (hi : i = nI k) (hk : k < n) (hn : n < 2 ^ 31) : rget n f i = f k := by
  subst hi
  rw [rget, if_pos ⟨nI_pos' (by omega), nI_lt hk hn⟩, nI_clamp (by omega)]
theorem rset_n {n k : Nat} (f : Nat → Int32) {i x : Int32} (hi : i = nI k) (hk : k < n) (hn : n < 2 ^ 31) : rset n f i x = upd f k x := by
  subst hi
  rw [rset, if_pos ⟨nI_pos' (by omega), nI_lt hk hn⟩, nI_clamp (by omega)]
set_option maxRecDepth 20000 in
set_option maxHeartbeats 1000000 in
theorem c_X7_get {G : Gt} {l : Launch} {Z : Zt} {R : Rt} {I : It} {L : Lt} {post : Pt'} {a c n : Nat} {i : Int32} (hr : rwo Z R a c n) (hc : rowC c) (hn : n < 2 ^ 31) (h : post (some (.int (rget n (I (a + 1)) i))) Z R I L) : Cx G l mX7_get 1 0 0 [.ref a, .int i] Z R I L post := by
  refine Cx.of (by decide +kernel) (by exact Nat.le_of_ble_eq_true rfl) ?_
  refine Sx.iload_n dX7_get_0 rfl ?_
  refine Sx.if_lt (t := 22) dX7_get_1 (by decide) (fun c1 => ?_) (fun c1 => ?_)
  · refine Sx.iconst (v := 0) dX7_get_22 (by decide) ?_
    refine Sx.iret dX7_get_23 rfl rfl ?_
    rw [rget, if_neg (fun q => r_nle c1 q.1)] at h; exact h
  · refine Sx.iload_n dX7_get_4 rfl ?_
    refine Sx.aload_n dX7_get_5 rfl ?_
    refine Sx.getfR dX7_get_6 (lkRow hc) hr.1 hr.2.1 ?_
    refine Sx.alen dX7_get_9 hr.2.2 (by decide) (by decide) rfl ?_
    refine Sx.icmp_ge (t := 22) dX7_get_10 (by decide) (fun c10 => ?_) (fun c10 => ?_)
    · refine Sx.iconst (v := 0) dX7_get_22 (by decide) ?_
      refine Sx.iret dX7_get_23 rfl rfl ?_
      rw [rget, if_neg (fun q => r_nlt c10 q.2)] at h; exact h
    · refine Sx.aload_n dX7_get_13 rfl ?_
      refine Sx.getfR dX7_get_14 (lkRow hc) hr.1 hr.2.1 ?_
      refine Sx.iload_n dX7_get_17 rfl ?_
      refine Sx.iald dX7_get_18 hr.2.2 (r_in hn c1 c10) ?_
      refine Sx.goto (t := 23) dX7_get_19 (by decide) ?_
      refine Sx.iret dX7_get_23 rfl rfl ?_
      rw [rget, if_pos ⟨r_nn c1, r_lt c10⟩] at h; exact h
theorem c_get {G : Gt} {l : Launch} {Z : Zt} {R : Rt} {I : It} {L : Lt} {post : Pt'} {a c n : Nat} {i : Int32} (hr : rwo Z R a c n) (hc : rowC c) (hn : n < 2 ^ 31) (k : Nat) (hi : i = nI k) (hk : k < n) (h : post (some (.int (I (a + 1) k))) Z R I L) : Cx G l mX7_get 1 0 0 [.ref a, .int i] Z R I L post :=
  c_X7_get hr hc hn (by rw [rget_n _ hi hk hn]; exact h)
set_option maxRecDepth 20000 in
set_option maxHeartbeats 1000000 in
theorem c_X7_set {G : Gt} {l : Launch} {Z : Zt} {R : Rt} {I : It} {L : Lt} {post : Pt'} {a c n : Nat} {i x : Int32} (hr : rwo Z R a c n) (hc : rowC c) (hn : n < 2 ^ 31) (h : ∀ I', I' (a + 1) = rset n (I (a + 1)) i x → (∀ q, q ≠ a + 1 → I' q = I q) → post none Z R I' L) : Cx G l mX7_set 1 0 0 [.ref a, .int i, .int x] Z R I L post := by
  refine Cx.of (by decide +kernel) (by exact Nat.le_of_ble_eq_true rfl) ?_
  refine Sx.iload_n dX7_set_0 rfl ?_
  refine Sx.if_lt (t := 20) dX7_set_1 (by decide) (fun c1 => ?_) (fun c1 => ?_)
  · refine Sx.vret dX7_set_20 rfl ?_
    exact h I (by rw [rset, if_neg (fun q => r_nle c1 q.1)]) (fun _ _ => rfl)
  · refine Sx.iload_n dX7_set_4 rfl ?_
    refine Sx.aload_n dX7_set_5 rfl ?_
    refine Sx.getfR dX7_set_6 (lkRow hc) hr.1 hr.2.1 ?_
    refine Sx.alen dX7_set_9 hr.2.2 (by decide) (by decide) rfl ?_
    refine Sx.icmp_ge (t := 20) dX7_set_10 (by decide) (fun c10 => ?_) (fun c10 => ?_)
    · refine Sx.vret dX7_set_20 rfl ?_
      exact h I (by rw [rset, if_neg (fun q => r_nlt c10 q.2)]) (fun _ _ => rfl)
    · refine Sx.aload_n dX7_set_13 rfl ?_
      refine Sx.getfR dX7_set_14 (lkRow hc) hr.1 hr.2.1 ?_
      refine Sx.iload_n dX7_set_17 rfl ?_
      refine Sx.iload_n dX7_set_18 rfl ?_
      refine Sx.iast dX7_set_19 hr.2.2 (r_in hn c1 c10) ?_
      refine Sx.vret dX7_set_20 rfl ?_
      exact h _ (by rw [rset, if_pos ⟨r_nn c1, r_lt c10⟩]; exact up_at _ _ _) (fun q hq => up_off _ _ hq)
theorem c_set {G : Gt} {l : Launch} {Z : Zt} {R : Rt} {I : It} {L : Lt} {post : Pt'} {a c n : Nat} {i x : Int32} (hr : rwo Z R a c n) (hc : rowC c) (hn : n < 2 ^ 31) (k : Nat) (hi : i = nI k) (hk : k < n) (h : ∀ I', I' (a + 1) = upd (I (a + 1)) k x → (∀ q, q ≠ a + 1 → I' q = I q) → post none Z R I' L) : Cx G l mX7_set 1 0 0 [.ref a, .int i, .int x] Z R I L post :=
  c_X7_set hr hc hn (fun I' e1 e2 => h I' (by rw [e1, rset_n _ hi hk hn]) e2)
set_option maxRecDepth 20000 in
set_option maxHeartbeats 1000000 in
theorem l_X7_fill {G : Gt} {l : Launch} {Z : Zt} {R : Rt} {L : Lt} {post : Pt'} {a c n : Nat} {v : Int32} {I0 : It} (hr : rwo Z R a c n) (hc : rowC c) (hn : n < 2 ^ 31) (h : ∀ I', I' (a + 1) = rfil n (I0 (a + 1)) v → (∀ q, q ≠ a + 1 → I' q = I0 q) → post none Z R I' L) :
    ∀ (k j : Nat), j ≤ n → n < j + k → ∀ (I : It) , (I (a + 1) = rfil j (I0 (a + 1)) v) → (∀ q, q ≠ a + 1 → I q = I0 q) → ∀ (y : Int32), y = nI j → Sx G l mX7_fill 1 0 0 2 [(2, .int y), (0, .ref a), (1, .int v)] [] Z R I L post := by
  intro k
  induction k with
  | zero => intro j h1 h2; omega
  | succ k ih =>
    intro j h1 h2 I  hI hJ y hy
    refine Sx.iload_n dX7_fill_2 rfl ?_
    refine Sx.aload_n dX7_fill_3 rfl ?_
    refine Sx.getfR dX7_fill_4 (lkRow hc) hr.1 hr.2.1 ?_
    refine Sx.alen dX7_fill_7 hr.2.2 (by decide) (by decide) rfl ?_
    refine Sx.icmp_ge (t := 24) dX7_fill_8 (by decide) (fun c8 => ?_) (fun c8 => ?_)
    · refine Sx.vret dX7_fill_24 rfl ?_
      have hj : j = n := by
        rcases Nat.lt_or_ge j n with q | q
        · exact absurd c8 (by rw [hy]; exact nI_ge q hn)
        · omega
      subst hj
      exact h I hI hJ
    · have hlt : j < n := by rcases Nat.lt_or_ge j n with q | q; exact q; exact absurd (by rw [hy]; exact nI_le q (by omega)) c8
      refine Sx.aload_n dX7_fill_11 rfl ?_
      refine Sx.getfR dX7_fill_12 (lkRow hc) hr.1 hr.2.1 ?_
      refine Sx.iload_n dX7_fill_15 rfl ?_
      refine Sx.iload_n dX7_fill_16 rfl ?_
      refine Sx.iast dX7_fill_17 hr.2.2 (by rw [hy]; exact vp_in_nI hlt hn) ?_
      refine Sx.iincN (fun zz => [(2, .int zz), (0, .ref a), (1, .int v)]) dX7_fill_18 rfl (by decide) (fun _ => rfl) (fun x2_18 ex2_18 => ?_)
      refine Sx.goto (t := 2) dX7_fill_21 (by decide) ?_
      refine ih (j + 1) hlt (by omega) _ ?_ ?_ _ (by rw [ex2_18, hy]; exact nI_1 j)
      · rw [up2, up_at, hI, hy, nI_clamp (by omega)]
        funext q
        simp only [rfil, upd]
        split
        · rw [if_pos (by omega)]
        · split
          · rw [if_pos (by omega)]
          · rw [if_neg (by omega)]
      · intro q hq
        rw [up2, up_off _ _ hq]
        exact hJ q hq
set_option maxRecDepth 20000 in
set_option maxHeartbeats 1000000 in
theorem c_X7_fill {G : Gt} {l : Launch} {Z : Zt} {R : Rt} {I : It} {L : Lt} {post : Pt'} {a c n : Nat} {v : Int32} (hr : rwo Z R a c n) (hc : rowC c) (hn : n < 2 ^ 31) (h : ∀ I', I' (a + 1) = rfil n (I (a + 1)) v → (∀ q, q ≠ a + 1 → I' q = I q) → post none Z R I' L) : Cx G l mX7_fill 1 0 0 [.ref a, .int v] Z R I L post := by
  refine Cx.of (by decide +kernel) (by exact Nat.le_of_ble_eq_true rfl) ?_
  refine Sx.iconst (v := 0) dX7_fill_0 (by decide) ?_
  refine Sx.ist_n (fun zz => [(2, .int zz), (0, .ref a), (1, .int v)]) dX7_fill_1 (by decide) (fun _ => rfl) (fun x2_1 ex2_1 => ?_)
  exact l_X7_fill hr hc hn h (n + 1) 0 (by omega) (by omega) I (by funext q; simp [rfil]) (fun _ _ => rfl) _ ex2_1
set_option maxRecDepth 20000 in
set_option maxHeartbeats 1000000 in
theorem c_X7_copy {G : Gt} {l : Launch} {Z : Zt} {R : Rt} {I : It} {L : Lt} {post : Pt'} {a b c c2 n : Nat} (hr : rwo Z R a c n) (hc : rowC c) (hn : n < 2 ^ 31) (ho : rwo Z R b c2 n) (hc2 : rowC c2) (h : ∀ I', I' (a + 1) = rcpy n (I (b + 1)) (I (a + 1)) → (∀ q, q ≠ a + 1 → I' q = I q) → post none Z R I' L) : Cx G l mX7_copy 2 0 0 [.ref a, .ref b] Z R I L post := by
  refine Cx.of (by decide +kernel) (by exact Nat.le_of_ble_eq_true rfl) ?_
  refine Sx.aload_n dX7_copy_0 rfl ?_
  refine Sx.ifnull dX7_copy_1 ?_
  refine Sx.aload_n dX7_copy_4 rfl ?_
  refine Sx.getfR dX7_copy_5 (by first | exact lkRow hc | exact lkRow hc2) ho.1 ho.2.1 ?_
  refine Sx.iconst (v := 0) dX7_copy_8 (by decide) ?_
  refine Sx.aload_n dX7_copy_9 rfl ?_
  refine Sx.getfR dX7_copy_10 (by first | exact lkRow hc | exact lkRow hc2) hr.1 hr.2.1 ?_
  refine Sx.iconst (v := 0) dX7_copy_13 (by decide) ?_
  refine Sx.aload_n dX7_copy_14 rfl ?_
  refine Sx.getfR dX7_copy_15 (by first | exact lkRow hc | exact lkRow hc2) hr.1 hr.2.1 ?_
  refine Sx.alen dX7_copy_18 hr.2.2 (by decide) (by decide) rfl ?_
  refine Sx.aload_n dX7_copy_19 rfl ?_
  refine Sx.getfR dX7_copy_20 (by first | exact lkRow hc | exact lkRow hc2) ho.1 ho.2.1 ?_
  refine Sx.alen dX7_copy_23 ho.2.2 (by decide) (by decide) rfl ?_
  refine Sx.mmin dX7_copy_24 lkm_X7_13 (by decide) (Nat.le_of_ble_eq_true rfl) ?_
  rw [imin, ite_self]
  refine Sx.copyi dX7_copy_27 lkn_X7_19 wnat wnatS wnatI ho.2.2 hr.2.2 (by decide) (by decide) (nI_pos hn) (by rw [show (Int32.ofNat n).toNatClampNeg = n from nI_clamp hn]; show 0 + n ≤ n; omega) (by rw [show (Int32.ofNat n).toNatClampNeg = n from nI_clamp hn]; show 0 + n ≤ n; omega) (Nat.le_of_ble_eq_true rfl) (by decide) ?_
  refine Sx.vret dX7_copy_30 rfl ?_
  refine h _ ?_ (fun q hq => up_off _ _ hq)
  rw [up_at, show (Int32.ofNat n).toNatClampNeg = n from nI_clamp hn]
  funext q
  show (if 0 ≤ q ∧ q < 0 + n then I (b + 1) (0 + (q - 0)) else I (a + 1) q) = rcpy n _ _ q
  rw [rcpy]
  by_cases hq : q < n
  · rw [if_pos ⟨Nat.zero_le _, by omega⟩, if_pos hq, Nat.zero_add, Nat.sub_zero]
  · rw [if_neg (fun z => hq (by omega)), if_neg hq]
