/-! the reference: small functions, the ground of its readers -/
def VL (x : Int64) (z : Int) : Prop := x.toInt = z
theorem vLi {x : Int32} {z : Int} (h : VZ x z) : VL x.toInt64 z := by
  have e : x.toInt = z := h
  show x.toInt64.toInt = z
  rw [Int32.toInt_toInt64]
  exact e
def sgI (a b : Int) : Int := if b < a then 1 else if a = b then 0 else -1
theorem sgI_or (a b : Int) : (b < a ∧ sgI a b = 1) ∨ (a = b ∧ sgI a b = 0) ∨ (a < b ∧ sgI a b = -1) := by
  unfold sgI
  split
  · omega
  · split <;> omega
theorem lgc_lt {x y : Int64} {a b : Int} (ha : VL x a) (hb : VL y b) : VZ (lg_cmp x y) (sgI a b) := by
  have ha' : x.toInt = a := ha
  have hb' : y.toInt = b := hb
  unfold lg_cmp sgI
  by_cases h1 : b < a
  · rw [if_pos h1, if_pos (show x > y from Int64.lt_iff_toInt_lt.mpr (by omega))]
    rfl
  · rw [if_neg h1, if_neg (fun q => h1 (by have := Int64.lt_iff_toInt_lt.mp q; omega))]
    by_cases h2 : a = b
    · rw [if_pos h2, if_pos (Int64.toInt_inj.mp (by omega))]
      rfl
    · rw [if_neg h2, if_neg (fun q => h2 (by rw [← ha', ← hb', q]))]
      rfl
theorem b2i_10 : (if (true : Bool) = true then nI 1 else nI 0) = b2i true := rfl
def s8 (m : Nat) : Int := if m < 128 then (m : Int) else (m : Int) - 256
def by8 (m : Nat) : Int32 := (nI m).toInt8.toInt32
theorem v8 : ∀ m, m < 256 → VZ (by8 m) (s8 m) := by unfold VZ; decide +kernel
theorem s8_or (m : Nat) : (m < 128 ∧ s8 m = (m : Int)) ∨ (128 ≤ m ∧ s8 m = (m : Int) - 256) := by unfold s8; split <;> omega
theorem by8_255 : ∀ m, m < 256 → by8 m &&& nI 255 = nI m := by decide +kernel
theorem by8_b : ∀ m, m < 256 → by8 m = by8 m := fun _ _ => rfl
/-- only what a reader writes: where it stands, the fault, how deep -/
def FA (I I' : It) : Prop := (∀ q, q ≠ 253 → I' q = I q) ∧ ∀ j, j ≠ 10 ∧ j ≠ 11 ∧ j ≠ 12 → I' 253 j = I 253 j
theorem FA.rf (I : It) : FA I I := ⟨fun _ _ => rfl, fun _ _ => rfl⟩
theorem FA.tr {I J K : It} (h : FA I J) (g : FA J K) : FA I K := ⟨fun q hq => (g.1 q hq).trans (h.1 q hq), fun j hj => (g.2 j hj).trans (h.2 j hj)⟩
theorem FA.up {I I' : It} {j : Nat} {x : Int32} (hj : j = 10 ∨ j = 11 ∨ j = 12) (e : I' 253 = upd (I 253) j x) (o : ∀ q, q ≠ 253 → I' q = I q) : FA I I' :=
  ⟨o, fun k hk => by rw [e, upd_nj _ _ (by omega)]⟩
/-- a text under a reader: which array, from where, how long, where it stands -/
def MR (R : Rt) (I : It) (tx b n c : Nat) (T : Nat → Nat) : Prop :=
  R 253 5 = some tx ∧ I 253 8 = nI b ∧ I 253 9 = nI n ∧ I 253 10 = nI c ∧ (∀ j, j < n → I tx (b + j) = by8 (T j)) ∧ n ≤ 240 ∧ c ≤ n ∧ (∀ j, j < n → 0 < T j ∧ T j < 256) ∧ ((tx = 254 ∧ b = 0) ∨ (tx = 255 ∧ b ≤ 720))
theorem MR.ar {Z : Zt} {R : Rt} {I : It} {tx b n c : Nat} {T : Nat → Nat} (W : WF Z R) (h : MR R I tx b n c T) : ∃ N, ar Z tx 51 N ∧ b + n ≤ N ∧ N < 2147483648 := by
  obtain ⟨h1, h2, h3, h4, h5, h6, h7, h8, h9⟩ := h
  rcases h9 with ⟨e, f⟩ | ⟨e, f⟩
  · subst e; exact ⟨240, a_254 W, by omega, by decide⟩
  · subst e; exact ⟨960, a_255 W, by omega, by decide⟩
theorem MR.mv {R : Rt} {I I' : It} {tx b n c : Nat} {T : Nat → Nat} (h : MR R I tx b n c T) (c' : Nat) (hc : c' ≤ n) (F : FA I I') (e : I' 253 10 = nI c') : MR R I' tx b n c' T := by
  obtain ⟨h1, h2, h3, h4, h5, h6, h7, h8, h9⟩ := h
  refine ⟨h1, (F.2 8 (by decide)).trans h2, (F.2 9 (by decide)).trans h3, e, fun j hj => ?_, h6, hc, h8, h9⟩
  rw [F.1 tx (by rcases h9 with q | q <;> omega)]
  exact h5 j hj
theorem MR.at_ {R : Rt} {I : It} {tx b n c : Nat} {T : Nat → Nat} (h : MR R I tx b n c T) : I 253 10 = nI c := h.2.2.2.1
/-- the sign at the cursor, none behind the end -/
def lkN (T : Nat → Nat) (n c : Nat) : Int := if c < n then (T c : Int) else -1
theorem sgn_or (T : Nat → Nat) (n c : Nat) : (c < n ∧ sgn T n c = T c) ∨ (n ≤ c ∧ sgn T n c = 0) := by unfold sgn; split <;> omega
theorem lkN_or (T : Nat → Nat) (n c : Nat) : (c < n ∧ lkN T n c = (T c : Int)) ∨ (n ≤ c ∧ lkN T n c = -1) := by unfold lkN; split <;> omega
/-! small functions -/
set_option maxRecDepth 20000 in
set_option maxHeartbeats 1000000 in
theorem k_isIn {G : Gt} {l : Launch} {Z : Zt} {R : Rt} {I : It} {L : Lt} {post : Pt'} {a b c : Int64} {za zb zc : Int} (ha : VL a za) (hb : VL b zb) (hc : VL c zc) (h : post (some (.int (b2i (decide (zb ≤ za ∧ za ≤ zc))))) Z R I L) : Cx G l mX12_isIn 1 0 0 [.long a, .long b, .long c] Z R I L post := by
  refine Cx.of (by decide +kernel) (by exact Nat.le_of_ble_eq_true rfl) ?_
  refine Sx.lload_n dX12_isIn_0 rfl ?_
  refine Sx.lload_n dX12_isIn_1 rfl ?_
  refine Sx.lcmp dX12_isIn_2 ?_
  have q1 := lgc_lt ha hb
  have r1 := sgI_or za zb
  refine Sx.if_ltV (t := 17) dX12_isIn_3 (by decide) q1 (fun c3 => ?_) (fun c3 => ?_)
  · refine Sx.iconst (v := (nI 0)) dX12_isIn_17 (by decide) ?_
    refine Sx.top (show _ = b2i false from rfl) ?_
    refine Sx.iret dX12_isIn_18 rfl (b2i_n _) ?_
    exact pBB (decide_eq_false (by omega)) h
  · refine Sx.lload_n dX12_isIn_6 rfl ?_
    refine Sx.lload dX12_isIn_7 rfl ?_
    refine Sx.lcmp dX12_isIn_9 ?_
    have q2 := lgc_lt ha hc
    have r2 := sgI_or za zc
    refine Sx.if_gtV (t := 17) dX12_isIn_10 (by decide) q2 (fun c10 => ?_) (fun c10 => ?_)
    · refine Sx.iconst (v := (nI 0)) dX12_isIn_17 (by decide) ?_
      refine Sx.top (show _ = b2i false from rfl) ?_
      refine Sx.iret dX12_isIn_18 rfl (b2i_n _) ?_
      exact pBB (decide_eq_false (by omega)) h
    · refine Sx.iconst (v := (nI 1)) dX12_isIn_13 (by decide) ?_
      refine Sx.goto (t := 18) dX12_isIn_14 (by decide) ?_
      refine Sx.top (show _ = b2i true from rfl) ?_
      refine Sx.iret dX12_isIn_18 rfl (b2i_n _) ?_
      exact pBB (decide_eq_true (by omega)) h
set_option maxRecDepth 20000 in
set_option maxHeartbeats 1000000 in
theorem k_has {G : Gt} {l : Launch} {Z : Zt} {R : Rt} {I : It} {L : Lt} {post : Pt'} {x p : Nat} (hx : x < 2147483648) (hp : p < 32) (h : post (some (.int (b2i (hbN x p)))) Z R I L) : Cx G l mX12_has 1 0 0 [.int (nI x), .int (nI p)] Z R I L post := by
  refine Cx.of (by decide +kernel) (by exact Nat.le_of_ble_eq_true rfl) ?_
  refine Sx.iload_n dX12_has_0 rfl ?_
  refine Sx.iload_n dX12_has_1 rfl ?_
  refine Sx.ishrN dX12_has_2 (by omega) (by omega) ?_
  refine Sx.iconst (v := (nI 1)) dX12_has_3 (by decide) ?_
  refine Sx.iand1 dX12_has_4 (by have := Nat.div_le_self x (2 ^ p); omega) ?_
  refine Sx.iconst (v := (nI 1)) dX12_has_5 (by decide) ?_
  refine Sx.icmp_neV (t := 13) dX12_has_6 (by decide) (vN (by omega)) (vN (by decide)) (fun c6 => ?_) (fun c6 => ?_)
  · refine Sx.iconst (v := (nI 0)) dX12_has_13 (by decide) ?_
    refine Sx.top (show _ = b2i false from rfl) ?_
    refine Sx.iret dX12_has_14 rfl (b2i_n _) ?_
    exact pBB (by rw [hbN]; exact beq_false_of_ne (by omega)) h
  · refine Sx.iconst (v := (nI 1)) dX12_has_9 (by decide) ?_
    refine Sx.goto (t := 14) dX12_has_10 (by decide) ?_
    refine Sx.top (show _ = b2i true from rfl) ?_
    refine Sx.iret dX12_has_14 rfl (b2i_n _) ?_
    exact pBB (by rw [hbN]; exact beq_iff_eq.mpr (by omega)) h
set_option maxRecDepth 20000 in
set_option maxHeartbeats 1000000 in
theorem k_isDigit {G : Gt} {l : Launch} {Z : Zt} {R : Rt} {I : It} {L : Lt} {post : Pt'} {tx b n c : Nat} {T : Nat → Nat} (W : WF Z R) (hM : MR R I tx b n c T) (h : post (some (.int (b2i (isDN (sgn T n c))))) Z R I L) : Cx G l mX12_isDigit 1 0 0 [.ref 253] Z R I L post := by
  refine Cx.of (by decide +kernel) (by exact Nat.le_of_ble_eq_true rfl) ?_
  obtain ⟨N, hA, hbN, hN⟩ := hM.ar W
  obtain ⟨h1, h2, h3, h4, h5, h6, h7, h8, h9⟩ := id hM
  have hTb := fun q : c < n => h8 c q
  have hT8 := s8_or (T c)
  refine Sx.aload_n dX12_isDigit_0 rfl ?_
  refine Sx.getfV (v := (nI c)) dX12_isDigit_1 lkf_X12_132_12 (o_253 W) h4 ?_
  refine Sx.aload_n dX12_isDigit_4 rfl ?_
  refine Sx.getfV (v := (nI n)) dX12_isDigit_5 lkf_X12_135_12 (o_253 W) h3 ?_
  refine Sx.icmp_geV (t := 53) dX12_isDigit_8 (by decide) (vN (by omega)) (vN (by omega)) (fun c8 => ?_) (fun c8 => ?_)
  · refine Sx.iconst (v := (nI 0)) dX12_isDigit_53 (by decide) ?_
    refine Sx.top (show _ = b2i false from rfl) ?_
    refine Sx.iret dX12_isDigit_54 rfl (b2i_n _) ?_
    exact pBB (by rw [sgn, if_neg (by omega)]; rfl) h
  · refine Sx.aload_n dX12_isDigit_11 rfl ?_
    refine Sx.getfR dX12_isDigit_12 lkf_X12_23_12 (o_253 W) h1 ?_
    refine Sx.aload_n dX12_isDigit_15 rfl ?_
    refine Sx.getfV (v := (nI b)) dX12_isDigit_16 lkf_X12_138_12 (o_253 W) h2 ?_
    refine Sx.aload_n dX12_isDigit_19 rfl ?_
    refine Sx.getfV (v := (nI c)) dX12_isDigit_20 lkf_X12_132_12 (o_253 W) h4 ?_
    refine Sx.iaddN dX12_isDigit_23 ?_
    refine Sx.baldN dX12_isDigit_24 hA (by omega) hN (v := (by8 (T c))) (h5 c (by omega)) ?_
    refine Sx.bipush (v := (nI 48)) dX12_isDigit_25 (by decide) ?_
    refine Sx.icmp_ltV (t := 53) dX12_isDigit_27 (by decide) (v8 (T c) (by have := hTb (by omega); omega)) (vN (by decide)) (fun c27 => ?_) (fun c27 => ?_)
    · refine Sx.iconst (v := (nI 0)) dX12_isDigit_53 (by decide) ?_
      refine Sx.top (show _ = b2i false from rfl) ?_
      refine Sx.iret dX12_isDigit_54 rfl (b2i_n _) ?_
      exact pBB (by rw [sgn, if_pos (by omega)]; exact decide_eq_false (by have := hTb (by omega); omega)) h
    · refine Sx.aload_n dX12_isDigit_30 rfl ?_
      refine Sx.getfR dX12_isDigit_31 lkf_X12_23_12 (o_253 W) h1 ?_
      refine Sx.aload_n dX12_isDigit_34 rfl ?_
      refine Sx.getfV (v := (nI b)) dX12_isDigit_35 lkf_X12_138_12 (o_253 W) h2 ?_
      refine Sx.aload_n dX12_isDigit_38 rfl ?_
      refine Sx.getfV (v := (nI c)) dX12_isDigit_39 lkf_X12_132_12 (o_253 W) h4 ?_
      refine Sx.iaddN dX12_isDigit_42 ?_
      refine Sx.baldN dX12_isDigit_43 hA (by omega) hN (v := (by8 (T c))) (h5 c (by omega)) ?_
      refine Sx.bipush (v := (nI 57)) dX12_isDigit_44 (by decide) ?_
      refine Sx.icmp_gtV (t := 53) dX12_isDigit_46 (by decide) (v8 (T c) (by have := hTb (by omega); omega)) (vN (by decide)) (fun c46 => ?_) (fun c46 => ?_)
      · refine Sx.iconst (v := (nI 0)) dX12_isDigit_53 (by decide) ?_
        refine Sx.top (show _ = b2i false from rfl) ?_
        refine Sx.iret dX12_isDigit_54 rfl (b2i_n _) ?_
        exact pBB (by rw [sgn, if_pos (by omega)]; exact decide_eq_false (by have := hTb (by omega); omega)) h
      · refine Sx.iconst (v := (nI 1)) dX12_isDigit_49 (by decide) ?_
        refine Sx.goto (t := 54) dX12_isDigit_50 (by decide) ?_
        refine Sx.top (show _ = b2i true from rfl) ?_
        refine Sx.iret dX12_isDigit_54 rfl (b2i_n _) ?_
        exact pBB (by rw [sgn, if_pos (by omega)]; exact decide_eq_true (by have := hTb (by omega); omega)) h
set_option maxRecDepth 20000 in
set_option maxHeartbeats 1000000 in
theorem k_here {G : Gt} {l : Launch} {Z : Zt} {R : Rt} {I : It} {L : Lt} {post : Pt'} {tx b n c : Nat} {T : Nat → Nat} (W : WF Z R) (hM : MR R I tx b n c T) (h : post (some (.int (iI (lkN T n c)))) Z R I L) : Cx G l mX12_here 1 0 0 [.ref 253] Z R I L post := by
  refine Cx.of (by decide +kernel) (by exact Nat.le_of_ble_eq_true rfl) ?_
  obtain ⟨N, hA, hbN, hN⟩ := hM.ar W
  obtain ⟨h1, h2, h3, h4, h5, h6, h7, h8, h9⟩ := id hM
  have hTb := fun q : c < n => h8 c q
  have hT8 := s8_or (T c)
  refine Sx.aload_n dX12_here_0 rfl ?_
  refine Sx.getfV (v := (nI c)) dX12_here_1 lkf_X12_132_12 (o_253 W) h4 ?_
  refine Sx.aload_n dX12_here_4 rfl ?_
  refine Sx.getfV (v := (nI n)) dX12_here_5 lkf_X12_135_12 (o_253 W) h3 ?_
  refine Sx.icmp_geV (t := 32) dX12_here_8 (by decide) (vN (by omega)) (vN (by omega)) (fun c8 => ?_) (fun c8 => ?_)
  · refine Sx.iconst (v := (iI (-1))) dX12_here_32 (by decide) ?_
    refine Sx.iret dX12_here_33 rfl rfl ?_
    exact pZZ (by have := lkN_or T n c; omega) h
  · refine Sx.aload_n dX12_here_11 rfl ?_
    refine Sx.getfR dX12_here_12 lkf_X12_23_12 (o_253 W) h1 ?_
    refine Sx.aload_n dX12_here_15 rfl ?_
    refine Sx.getfV (v := (nI b)) dX12_here_16 lkf_X12_138_12 (o_253 W) h2 ?_
    refine Sx.aload_n dX12_here_19 rfl ?_
    refine Sx.getfV (v := (nI c)) dX12_here_20 lkf_X12_132_12 (o_253 W) h4 ?_
    refine Sx.iaddN dX12_here_23 ?_
    refine Sx.baldN dX12_here_24 hA (by omega) hN (v := (by8 (T c))) (h5 c (by omega)) ?_
    refine Sx.sipush (v := (nI 255)) dX12_here_25 (by decide) ?_
    refine Sx.iand dX12_here_28 ?_
    refine Sx.top (show _ = (nI (T c)) from by8_255 (T c) (by have := hTb (by omega); omega)) ?_
    refine Sx.goto (t := 33) dX12_here_29 (by decide) ?_
    refine Sx.iret dX12_here_33 rfl rfl ?_
    exact pZN (by have := lkN_or T n c; omega) h
set_option maxRecDepth 20000 in
set_option maxHeartbeats 1000000 in
theorem k_fails {G : Gt} {l : Launch} {Z : Zt} {R : Rt} {I : It} {L : Lt} {post : Pt'} {tx b n c : Nat} {T : Nat → Nat} (W : WF Z R) (hM : MR R I tx b n c T) (hf : I 253 11 = iI (-1)) (h : ∀ I', FA I I' → I' 253 11 = nI c → I' 253 12 = I 253 12 → I' 253 10 = I 253 10 → post (some (.int (b2i false))) Z R I' L) : Cx G l mX12_fails 1 0 0 [.ref 253] Z R I L post := by
  refine Cx.of (by decide +kernel) (by exact Nat.le_of_ble_eq_true rfl) ?_
  obtain ⟨h1, h2, h3, h4, h5, h6, h7, h8, h9⟩ := hM
  refine Sx.aload_n dX12_fails_0 rfl ?_
  refine Sx.getfV (v := (iI (-1))) dX12_fails_1 lkf_X12_141_12 (o_253 W) hf ?_
  refine Sx.iconst (v := (iI (-1))) dX12_fails_4 (by decide) ?_
  refine Sx.icmp_neV (t := 16) dX12_fails_5 (by decide) (vZ (by decide)) (vZ (by decide)) (fun c5 => False.elim (by omega)) (fun c5 => ?_)
  refine Sx.aload_n dX12_fails_8 rfl ?_
  refine Sx.aload_n dX12_fails_9 rfl ?_
  refine Sx.getfV (v := (nI c)) dX12_fails_10 lkf_X12_132_12 (o_253 W) h4 ?_
  refine Sx.putfV dX12_fails_13 lkp_X12_141_12 (o_253 W) rfl rfl (fun I1 e1 o1 => ?_)
  refine Sx.iconst (v := (nI 0)) dX12_fails_16 (by decide) ?_
  refine Sx.top (show _ = b2i false from rfl) ?_
  refine Sx.iret dX12_fails_17 rfl (b2i_n _) ?_
  exact h I1 (FA.up (by decide) e1 o1) (by rw [e1, upd_at]) (by rw [e1, upd_nj _ _ (by decide)]) (by rw [e1, upd_nj _ _ (by decide)])
set_option maxRecDepth 20000 in
set_option maxHeartbeats 1000000 in
theorem k_fails2 {G : Gt} {l : Launch} {Z : Zt} {R : Rt} {I : It} {L : Lt} {post : Pt'} {q : Nat} (W : WF Z R) (hf : I 253 11 = nI q) (hq : q < 1000) (h : post (some (.int (b2i false))) Z R I L) : Cx G l mX12_fails 1 0 0 [.ref 253] Z R I L post := by
  refine Cx.of (by decide +kernel) (by exact Nat.le_of_ble_eq_true rfl) ?_
  refine Sx.aload_n dX12_fails_0 rfl ?_
  refine Sx.getfV (v := (nI q)) dX12_fails_1 lkf_X12_141_12 (o_253 W) hf ?_
  refine Sx.iconst (v := (iI (-1))) dX12_fails_4 (by decide) ?_
  refine Sx.icmp_neV (t := 16) dX12_fails_5 (by decide) (vN (by omega)) (vZ (by decide)) (fun c5 => ?_) (fun c5 => False.elim (by omega))
  refine Sx.iconst (v := (nI 0)) dX12_fails_16 (by decide) ?_
  refine Sx.top (show _ = b2i false from rfl) ?_
  refine Sx.iret dX12_fails_17 rfl (b2i_n _) ?_
  exact h
set_option maxRecDepth 20000 in
set_option maxHeartbeats 1000000 in
theorem l_look0 {G : Gt} {l : Launch} {Z : Zt} {R : Rt} {I : It} {L : Lt} {post : Pt'} {tx b n c : Nat} {T : Nat → Nat} (W : WF Z R) (hM : MR R I tx b n c T) (hs : ¬ (c < n ∧ T c = 32)) (h : ∀ I', MR R I' tx b n (nx T n c) T → FA I I' → I' 253 11 = I 253 11 → I' 253 12 = I 253 12 → post (some (.int (iI (lkN T n (nx T n c))))) Z R I' L) : Sx G l mX12_look 1 0 0 43 [(0, .ref 253)] [] Z R I L post := by
  obtain ⟨N, hA, hbN, hN⟩ := hM.ar W
  obtain ⟨h1, h2, h3, h4, h5, h6, h7, h8, h9⟩ := id hM
  have hTb := fun q : c < n => h8 c q
  have hT8 := s8_or (T c)
  rw [nx_at hs] at h
  refine Sx.aload_n dX12_look_43 rfl ?_
  refine Sx.getfV (v := (nI c)) dX12_look_44 lkf_X12_132_12 (o_253 W) h4 ?_
  refine Sx.aload_n dX12_look_47 rfl ?_
  refine Sx.getfV (v := (nI n)) dX12_look_48 lkf_X12_135_12 (o_253 W) h3 ?_
  refine Sx.icmp_geV (t := 75) dX12_look_51 (by decide) (vN (by omega)) (vN (by omega)) (fun c51 => ?_) (fun c51 => ?_)
  · refine Sx.iconst (v := (iI (-1))) dX12_look_75 (by decide) ?_
    refine Sx.iret dX12_look_76 rfl rfl ?_
    exact pZZ (by have := lkN_or T n c; omega) (h I hM (FA.rf I) rfl rfl)
  · refine Sx.aload_n dX12_look_54 rfl ?_
    refine Sx.getfR dX12_look_55 lkf_X12_23_12 (o_253 W) h1 ?_
    refine Sx.aload_n dX12_look_58 rfl ?_
    refine Sx.getfV (v := (nI b)) dX12_look_59 lkf_X12_138_12 (o_253 W) h2 ?_
    refine Sx.aload_n dX12_look_62 rfl ?_
    refine Sx.getfV (v := (nI c)) dX12_look_63 lkf_X12_132_12 (o_253 W) h4 ?_
    refine Sx.iaddN dX12_look_66 ?_
    refine Sx.baldN dX12_look_67 hA (by omega) hN (v := (by8 (T c))) (h5 c (by omega)) ?_
    refine Sx.sipush (v := (nI 255)) dX12_look_68 (by decide) ?_
    refine Sx.iand dX12_look_71 ?_
    refine Sx.top (show _ = (nI (T c)) from by8_255 (T c) (by have := hTb (by omega); omega)) ?_
    refine Sx.goto (t := 76) dX12_look_72 (by decide) ?_
    refine Sx.iret dX12_look_76 rfl rfl ?_
    exact pZN (by have := lkN_or T n c; omega) (h I hM (FA.rf I) rfl rfl)
set_option maxRecDepth 20000 in
set_option maxHeartbeats 1000000 in
theorem l_look {G : Gt} {l : Launch} {Z : Zt} {R : Rt} {L : Lt} {post : Pt'} {tx b n : Nat} {T : Nat → Nat} (W : WF Z R) : ∀ (k c : Nat), n < c + k → ∀ {I : It} (hM : MR R I tx b n c T) (h : ∀ I', MR R I' tx b n (nx T n c) T → FA I I' → I' 253 11 = I 253 11 → I' 253 12 = I 253 12 → post (some (.int (iI (lkN T n (nx T n c))))) Z R I' L), Sx G l mX12_look 1 0 0 0 [(0, .ref 253)] [] Z R I L post := by
  intro k
  induction k with
  | zero => intro c h1 I hM h; have := hM.2.2.2.2.2.2.1; omega
  | succ k ih =>
    intro c hk I hM h
    obtain ⟨N, hA, hbN, hN⟩ := hM.ar W
    obtain ⟨h1, h2, h3, h4, h5, h6, h7, h8, h9⟩ := id hM
    have hTb := fun q : c < n => h8 c q
    have hT8 := s8_or (T c)
    refine Sx.aload_n dX12_look_0 rfl ?_
    refine Sx.getfV (v := (nI c)) dX12_look_1 lkf_X12_132_12 (o_253 W) h4 ?_
    refine Sx.aload_n dX12_look_4 rfl ?_
    refine Sx.getfV (v := (nI n)) dX12_look_5 lkf_X12_135_12 (o_253 W) h3 ?_
    refine Sx.icmp_geV (t := 43) dX12_look_8 (by decide) (vN (by omega)) (vN (by omega)) (fun c8 => ?_) (fun c8 => ?_)
    · exact l_look0 W hM (fun q => by have := hTb (by omega); omega) h
    · refine Sx.aload_n dX12_look_11 rfl ?_
      refine Sx.getfR dX12_look_12 lkf_X12_23_12 (o_253 W) h1 ?_
      refine Sx.aload_n dX12_look_15 rfl ?_
      refine Sx.getfV (v := (nI b)) dX12_look_16 lkf_X12_138_12 (o_253 W) h2 ?_
      refine Sx.aload_n dX12_look_19 rfl ?_
      refine Sx.getfV (v := (nI c)) dX12_look_20 lkf_X12_132_12 (o_253 W) h4 ?_
      refine Sx.iaddN dX12_look_23 ?_
      refine Sx.baldN dX12_look_24 hA (by omega) hN (v := (by8 (T c))) (h5 c (by omega)) ?_
      refine Sx.bipush (v := (nI 32)) dX12_look_25 (by decide) ?_
      refine Sx.icmp_neV (t := 43) dX12_look_27 (by decide) (v8 (T c) (by have := hTb (by omega); omega)) (vN (by decide)) (fun c27 => ?_) (fun c27 => ?_)
      · exact l_look0 W hM (fun q => by have := hTb (by omega); omega) h
      · refine Sx.aload_n dX12_look_30 rfl ?_
        refine Sx.dup dX12_look_31 rfl ?_
        refine Sx.getfV (v := (nI c)) dX12_look_32 lkf_X12_132_12 (o_253 W) h4 ?_
        refine Sx.iconst (v := (nI 1)) dX12_look_35 (by decide) ?_
        refine Sx.iaddN dX12_look_36 ?_
        refine Sx.putfV dX12_look_37 lkp_X12_132_12 (o_253 W) rfl rfl (fun I1 e1 o1 => ?_)
        refine Sx.goto (t := 0) dX12_look_40 (by decide) ?_
        refine ih (c + 1) (by omega) (MR.mv hM (c + 1) (by omega) (FA.up (by decide) e1 o1) (by rw [e1, upd_at])) (fun I' g1 g2 g3 g4 => ?_)
        rw [nx_go (by omega) (show T c = 32 by have := hTb (by omega); omega)] at h
        exact h I' g1 ((FA.up (by decide) e1 o1).tr g2) (g3.trans (by rw [e1, upd_nj _ _ (by decide)])) (g4.trans (by rw [e1, upd_nj _ _ (by decide)]))
set_option maxRecDepth 20000 in
set_option maxHeartbeats 1000000 in
theorem k_look {G : Gt} {l : Launch} {Z : Zt} {R : Rt} {I : It} {L : Lt} {post : Pt'} {tx b n c : Nat} {T : Nat → Nat} (W : WF Z R) (hM : MR R I tx b n c T) (h : ∀ I', MR R I' tx b n (nx T n c) T → FA I I' → I' 253 11 = I 253 11 → I' 253 12 = I 253 12 → post (some (.int (iI (lkN T n (nx T n c))))) Z R I' L) : Cx G l mX12_look 1 0 0 [.ref 253] Z R I L post := by
  refine Cx.of (by decide +kernel) (by exact Nat.le_of_ble_eq_true rfl) ?_
  exact l_look W (n + 1) c (by omega) hM h
