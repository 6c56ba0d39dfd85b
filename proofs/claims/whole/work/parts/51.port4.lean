/-! Port: reading -/
def celN (j : Nat) : Nat := [0, 1, 2, 3, 9, 15, 21, 27].getD j 33
def plcN (j : Nat) : Nat := if celN j < 3 then 1 else 6
def uslN (j : Nat) : Nat := [8, 20, 0, 3, 4, 0, 2, 0].getD j 0
def clcN (j : Nat) : Nat := [115, 115, 115, 107, 107, 112, 112, 112].getD j 0
theorem cel_ok : ∀ j, j < 8 → lsF [0, 1, 2, 3, 9, 15, 21, 27] j = nI (celN j) ∧ lsF [8, 20, 0, 3, 4, 0, 2, 0] j = nI (uslN j) ∧ celN j + plcN j = celN (j + 1) ∧ celN j ≤ 27 ∧ uslN j < 100 := by decide +kernel
theorem cel_u : ∀ j, j < 8 → ∀ i, i < 6 → i < plcN j → usQ (celN j + i) = uslN j := by decide +kernel
theorem clc_ok : ∀ j, j < 8 → [115, 115, 115, 107, 107, 112, 112, (112 : Int32)].getD j 0 = nI (clcN j) ∧ clcN j < 256 := by decide +kernel
theorem us8 (z : Nat) : (if z < celN 8 then usQ z else 0) = usQ z := by
  by_cases e : z < 33
  · exact if_pos e
  · rw [if_neg (show ¬ z < celN 8 from e)]
    unfold usQ
    (repeat' split) <;> omega
def L8 : List Int32 := [100, 116, 102, 118, 110, 104, 111, 98]
def offN (kc : Nat) : Nat := if kc = 115 then 0 else if kc = 107 then 3 else 5
theorem let_s : ∀ s, s < 256 → plN L8 (nI s) ≤ 8 ∧ (plN L8 (nI s) = 0 → spN 2 (nI s) = 0) ∧ (plN L8 (nI s) ≠ 0 → clcN (plN L8 (nI s) - 1) = 115 → spN 2 (nI s) + 0 = plN L8 (nI s) ∧ 1 ≤ spN 2 (nI s)) ∧ (plN L8 (nI s) ≠ 0 → clcN (plN L8 (nI s) - 1) ≠ 115 → spN 2 (nI s) = 0) := by decide +kernel
theorem let_k : ∀ s, s < 256 → plN L8 (nI s) ≤ 8 ∧ (plN L8 (nI s) = 0 → spN 3 (nI s) = 0) ∧ (plN L8 (nI s) ≠ 0 → clcN (plN L8 (nI s) - 1) = 107 → spN 3 (nI s) + 3 = plN L8 (nI s) ∧ 1 ≤ spN 3 (nI s)) ∧ (plN L8 (nI s) ≠ 0 → clcN (plN L8 (nI s) - 1) ≠ 107 → spN 3 (nI s) = 0) := by decide +kernel
theorem let_p : ∀ s, s < 256 → plN L8 (nI s) ≤ 8 ∧ (plN L8 (nI s) = 0 → spN 4 (nI s) = 0) ∧ (plN L8 (nI s) ≠ 0 → clcN (plN L8 (nI s) - 1) = 112 → spN 4 (nI s) + 5 = plN L8 (nI s) ∧ 1 ≤ spN 4 (nI s)) ∧ (plN L8 (nI s) ≠ 0 → clcN (plN L8 (nI s) - 1) ≠ 112 → spN 4 (nI s) = 0) := by decide +kernel
theorem let_ok {kc : Nat} (h : kcO kc) (s : Nat) (hs : s < 256) : plN L8 (nI s) ≤ 8 ∧ (plN L8 (nI s) = 0 → spN (stri kc) (nI s) = 0) ∧ (plN L8 (nI s) ≠ 0 → clcN (plN L8 (nI s) - 1) = kc → spN (stri kc) (nI s) + offN kc = plN L8 (nI s) ∧ 1 ≤ spN (stri kc) (nI s)) ∧ (plN L8 (nI s) ≠ 0 → clcN (plN L8 (nI s) - 1) ≠ kc → spN (stri kc) (nI s) = 0) := by
  rcases h with e | e | e <;> subst e
  · exact let_s s hs
  · exact let_k s hs
  · exact let_p s hs
def cnN (kc : Nat) : Nat := stkL.getD (stri kc) 0
theorem ent_ok {kc : Nat} (h : kcO kc) : ∀ w, w < cnN kc → lsF [2, 0, 0, 0, 0, 0, 0, 0] (offN kc + w) = nI (loN kc w) ∧ lsF [30, 99, 9, 9, 30, 5, 9, 1] (offN kc + w) = nI (mostN kc w) ∧ offN kc + w < 8 := by
  rcases h with e | e | e <;> subst e <;> decide +kernel
theorem off_b {kc : Nat} (h : kcO kc) : ∀ m, m < 8 → ∀ w, w < 3 → hbN (m * 2 ^ offN kc) (offN kc + w) = hbN m w ∧ (m * 2 ^ offN kc ||| 2 ^ (offN kc + w)) = (m ||| 2 ^ w) * 2 ^ offN kc ∧ m * 2 ^ offN kc < 256 := by
  rcases h with e | e | e <;> subst e <;> decide +kernel
theorem putQ_up {kc x : Nat} (h : kcO kc) (hx : x < 6) (Q f : Nat → Nat) {w : Nat} (hw : w < cnN kc) (v : Nat) : upn (putQ kc x Q f) (celN (offN kc + w) + x * (if kc = 115 then 0 else 1)) v = putQ kc x Q (upn f w v) := by
  funext z
  rcases h with e | e | e <;> subst e
  · have hc : w = 0 ∨ w = 1 ∨ w = 2 := by have : cnN 115 = 3 := rfl; omega
    rcases hc with e | e | e <;> subst e
    · show upn (putQ 115 x Q f) (0 + x * 0) v z = _
      simp only [upn, putQ]
      (repeat' split) <;> first | rfl | omega | (exfalso; omega) | simp_all
    · show upn (putQ 115 x Q f) (1 + x * 0) v z = _
      simp only [upn, putQ]
      (repeat' split) <;> first | rfl | omega | (exfalso; omega) | simp_all
    · show upn (putQ 115 x Q f) (2 + x * 0) v z = _
      simp only [upn, putQ]
      (repeat' split) <;> first | rfl | omega | (exfalso; omega) | simp_all
  · have hc : w = 0 ∨ w = 1 := by have : cnN 107 = 2 := rfl; omega
    rcases hc with e | e <;> subst e
    · show upn (putQ 107 x Q f) (3 + x * 1) v z = _
      simp only [upn, putQ]
      (repeat' split) <;> first | rfl | omega | (exfalso; omega) | simp_all
    · show upn (putQ 107 x Q f) (9 + x * 1) v z = _
      simp only [upn, putQ]
      (repeat' split) <;> first | rfl | omega | (exfalso; omega) | simp_all
  · have hc : w = 0 ∨ w = 1 ∨ w = 2 := by have : cnN 112 = 3 := rfl; omega
    rcases hc with e | e | e <;> subst e
    · show upn (putQ 112 x Q f) (15 + x * 1) v z = _
      simp only [upn, putQ]
      (repeat' split) <;> first | rfl | omega | (exfalso; omega) | simp_all
    · show upn (putQ 112 x Q f) (21 + x * 1) v z = _
      simp only [upn, putQ]
      (repeat' split) <;> first | rfl | omega | (exfalso; omega) | simp_all
    · show upn (putQ 112 x Q f) (27 + x * 1) v z = _
      simp only [upn, putQ]
      (repeat' split) <;> first | rfl | omega | (exfalso; omega) | simp_all
theorem rdP_ok {T : Nat → Nat} {n c D lo hi : Nat} (h : rdR T n c D lo hi = true) : rdP T n c D lo hi = rdE T n c D := by
  unfold rdR at h
  simp only [Bool.and_eq_true, Bool.not_eq_true', decide_eq_true_eq] at h
  unfold rdP
  rw [if_pos h.1.1, if_neg (by rw [h.1.2]; decide), if_pos h.2]
theorem isN_d {m n : Nat} (h : m < 2147483648) (hn : n < 2147483648) : isN n (nI m) = decide (m < n) := by
  unfold isN
  refine decide_eq_decide.mpr ⟨fun q => (n_lt h hn).mp q.2, fun q => ⟨?_, (n_lt h hn).mpr q⟩⟩
  rw [show (0 : Int32) = nI 0 from rfl]
  exact (n_le (by decide) h).mpr (Nat.zero_le _)
theorem c_entryN {G : Gt} {l : Launch} {Z : Zt} {R : Rt} {I : It} {L : Lt} {post : Pt'} {a : Nat} {r : String × String × String × Nat × List Int32} {j v : Nat} (hr : stc[a]? = some r) (hk : a < 100) (ht : r.2.2.2.1 = 50) (hn : r.2.2.2.2.length < 1000) (hj : j < r.2.2.2.2.length) (hv : lsF r.2.2.2.2 j = nI v) (h : post (some (.int (nI v))) Z R I L) : Cx G l mX11_entry 1 0 0 [.ref a, .int (nI j)] Z R I L post :=
  c_entry hr hk ht hn hj (by rw [hv]; exact h)
theorem c_isKindD {G : Gt} {l : Launch} {Z : Zt} {R : Rt} {I : It} {L : Lt} {post : Pt'} {a m : Nat} {Q : Nat → Nat} (hr : rwo Z R a 6 36) (hp : rep 36 (I (a + 1)) Q) (hm : m < 2147483648) (hQ : Q 34 < 2147483648) (h : post (some (.int (b2i (decide (m < Q 34))))) Z R I L) : Cx G l mX6_isKind 2 0 0 [.ref a, .int (nI m)] Z R I L post :=
  c_isKind hr hp (by rw [isN_d hm hQ]; exact h)
theorem c_numN {G : Gt} {l : Launch} {Z : Zt} {R : Rt} {I : It} {L : Lt} {post : Pt'} {v : Nat} (W : WF Z R) (hv : I 101 3 = nI v) (h : post (some (.int (nI v))) Z R I L) : Cx G l mX9_number 1 0 0 [.ref 101] Z R I L post := c_num W (by rw [hv]; exact h)
theorem c_placeZ {G : Gt} {l : Launch} {Z : Zt} {R : Rt} {I : It} {L : Lt} {post : Pt'} {a : Nat} {r : String × String × String × Nat × List Int32} {x : Int32} (hr : stc[a]? = some r) (hk : a < 100) (ht : r.2.2.2.1 = 53) (hn : r.2.2.2.2.length < 1000) (h : post (some (.int (iI ((plN r.2.2.2.2 x : Int) - 1)))) Z R I L) : Cx G l mX11_placeIn 1 0 0 [.ref a, .int x] Z R I L post :=
  c_placeIn hr hk ht hn (by rw [show nI (plN r.2.2.2.2 x) - 1 = iI ((plN r.2.2.2.2 x : Int) - 1) by rw [nI_iI, show (1 : Int32) = iI 1 from rfl, iI_sub]]; exact h)
set_option maxRecDepth 20000 in
set_option maxHeartbeats 1000000 in
theorem l_fu1 {G : Gt} {l : Launch} {Z : Zt} {R : Rt} {L : Lt} {post : Pt'} {j : Nat} {I0 : It} (W : WF Z R) (hj : j < 8) (h : ∀ I', rep 36 (I' 106) (fun z => if z < celN j + plcN j then usQ z else 0) → (∀ q, q ≠ 106 → I' q = I0 q) → Sx G l mX6_fillUsual 3 0 0 66 [(3, .int (nI (plcN j))), (2, .int (nI (plcN j))), (1, .int (nI j)), (0, .ref 105)] [] Z R I' L post) :
    ∀ (k i : Nat), i ≤ plcN j → plcN j < i + k → ∀ (I : It), rep 36 (I 106) (fun z => if z < celN j + i then usQ z else 0) → (∀ q, q ≠ 106 → I q = I0 q) → Sx G l mX6_fillUsual 3 0 0 35 [(3, .int (nI i)), (2, .int (nI (plcN j))), (1, .int (nI j)), (0, .ref 105)] [] Z R I L post := by
  have hpl : plcN j ≤ 6 := by unfold plcN; split <;> omega
  intro k
  induction k with
  | zero => intro i h1 h2; omega
  | succ k ih =>
    intro i h1 h2 I hp hI
    refine Sx.iload_n dX6_fillUsual_35 rfl ?_
    refine Sx.iload_n dX6_fillUsual_36 rfl ?_
    refine Sx.icmp_geV (t := 66) dX6_fillUsual_37 (by decide) (vN (by omega)) (vN (by omega)) (fun c37 => ?_) (fun c37 => ?_)
    · have hi : i = plcN j := by omega
      subst hi
      exact h I hp hI
    · have hco := cel_ok j hj
      have hcu := cel_u j hj i (by omega) (by omega)
      refine Sx.aload_n dX6_fillUsual_40 rfl ?_
      refine Sx.gets dX6_fillUsual_41 (k := 3) rfl (by decide) lks_X6_39 ?_
      refine Sx.iload_n dX6_fillUsual_44 rfl ?_
      refine Sx.callSN2 dX6_fillUsual_45 lkc_X6_43  (by decide) (by decide) (Nat.le_of_ble_eq_true rfl) rfl rfl (c_entryN (r := ("DarkestDay$Port", "CELLS", "[I", 50, [0, 1, 2, 3, 9, 15, 21, 27])) rfl (by decide) rfl (by decide) (show j < 8 by omega) (cel_ok j (by omega)).1 ?_)
      refine Sx.iload_n dX6_fillUsual_48 rfl ?_
      refine Sx.iaddN dX6_fillUsual_49 ?_
      refine Sx.gets dX6_fillUsual_50 (k := 4) rfl (by decide) lks_X6_47 ?_
      refine Sx.iload_n dX6_fillUsual_53 rfl ?_
      refine Sx.callSN2 dX6_fillUsual_54 lkc_X6_43  (by decide) (by decide) (Nat.le_of_ble_eq_true rfl) rfl rfl (c_entryN (r := ("DarkestDay$Port", "USUAL", "[I", 50, [8, 20, 0, 3, 4, 0, 2, 0])) rfl (by decide) rfl (by decide) (show j < 8 by omega) (cel_ok j (by omega)).2.1 ?_)
      refine Sx.callU2 dX6_fillUsual_57 lku_X6_50 (rcv_6 (o_105 W)) (by decide) (by decide) (Nat.le_of_ble_eq_true rfl) rfl rfl (c_rs (w_105r W) rC6 (by decide) hp (celN j + i) (uslN j) rfl (by omega) rfl (fun I1 hp1 g1 => ?_))
      refine Sx.iinc (v := (nI (i + 1))) (lv' := [(3, .int (nI (i + 1))), (2, .int (nI (plcN j))), (1, .int (nI j)), (0, .ref 105)]) dX6_fillUsual_60 rfl (nI_add i 1) (by decide) rfl ?_
      refine Sx.goto (t := 35) dX6_fillUsual_63 (by decide) ?_
      refine Sx.sub' [(3, .int (nI (i + 1))), (2, .int (nI (plcN j))), (1, .int (nI j)), (0, .ref 105)] rfl ?_
      refine ih (i + 1) (by omega) (by omega) I1 (fun z hz => ?_) (fun q hq => (g1 q hq).trans (hI q hq))
      rw [hp1 z hz]
      simp only [upn]
      congr 1
      by_cases e : z = celN j + i
      · rw [if_pos e, e, if_pos (by omega), hcu]
      · rw [if_neg e]
        by_cases e2 : z < celN j + i
        · rw [if_pos e2, if_pos (by omega)]
        · rw [if_neg e2, if_neg (by omega)]
set_option maxRecDepth 20000 in
set_option maxHeartbeats 1000000 in
theorem l_fu2 {G : Gt} {l : Launch} {Z : Zt} {R : Rt} {L : Lt} {post : Pt'} {I0 : It} (W : WF Z R) (h : ∀ I', rep 36 (I' 106) usQ → (∀ q, q ≠ 106 → I' q = I0 q) → post none Z R I' L) :
    ∀ (k j : Nat), j ≤ 8 → 8 < j + k → ∀ (I : It), rep 36 (I 106) (fun z => if z < celN j then usQ z else 0) → (∀ q, q ≠ 106 → I q = I0 q) → Sx G l mX6_fillUsual 3 0 0 7 [(1, .int (nI j)), (0, .ref 105)] [] Z R I L post := by
  intro k
  induction k with
  | zero => intro i h1 h2; omega
  | succ k ih =>
    intro j h1 h2 I hp hI
    refine Sx.iload_n dX6_fillUsual_7 rfl ?_
    refine Sx.gets dX6_fillUsual_8 (k := 3) rfl (by decide) lks_X6_39 ?_
    refine Sx.alenS dX6_fillUsual_11 (v := nI 8) rfl (by decide) rfl ?_
    refine Sx.icmp_geV (t := 72) dX6_fillUsual_12 (by decide) (vN (by omega)) (vN (by decide)) (fun c12 => ?_) (fun c12 => ?_)
    · refine Sx.vret dX6_fillUsual_72 rfl ?_
      have hj : j = 8 := by omega
      subst hj
      exact h I (fun z hz => by rw [hp z hz]; exact congrArg nI (us8 z)) hI
    · have hco := cel_ok j (by omega)
      refine Sx.gets dX6_fillUsual_15 (k := 3) rfl (by decide) lks_X6_39 ?_
      refine Sx.iload_n dX6_fillUsual_18 rfl ?_
      refine Sx.callSN2 dX6_fillUsual_19 lkc_X6_43  (by decide) (by decide) (Nat.le_of_ble_eq_true rfl) rfl rfl (c_entryN (r := ("DarkestDay$Port", "CELLS", "[I", 50, [0, 1, 2, 3, 9, 15, 21, 27])) rfl (by decide) rfl (by decide) (show j < 8 by omega) (cel_ok j (by omega)).1 ?_)
      refine Sx.iconst (v := (nI 3)) dX6_fillUsual_22 (by decide) ?_
      refine Sx.icmp_geV (t := 30) dX6_fillUsual_23 (by decide) (vN (by omega)) (vN (by decide)) (fun c23 => ?_) (fun c23 => ?_)
      · refine Sx.bipush (v := (nI 6)) dX6_fillUsual_30 (by decide) ?_
        refine Sx.istore_n (lv' := [(2, .int (nI 6)), (1, .int (nI j)), (0, .ref 105)]) dX6_fillUsual_32 (by decide) rfl ?_
        refine Sx.iconst (v := (nI 0)) dX6_fillUsual_33 (by decide) ?_
        refine Sx.istore_n (lv' := [(3, .int (nI 0)), (2, .int (nI 6)), (1, .int (nI j)), (0, .ref 105)]) dX6_fillUsual_34 (by decide) rfl ?_
        have hpl : plcN j = 6 := by unfold plcN; rw [if_neg (by omega)]
        refine Sx.sub' [(3, .int (nI 0)), (2, .int (nI (plcN j))), (1, .int (nI j)), (0, .ref 105)] (by rw [hpl]; rfl) ?_
        refine l_fu1 W (I0 := I0) (by omega) (fun I2 hp2 hI2 => ?_) (plcN j + 1) 0 (by omega) (by omega) I (by rw [Nat.add_zero]; exact hp) hI
        refine Sx.iinc (v := nI (j + 1)) (lv' := [(1, .int (nI (j + 1))), (3, .int (nI (plcN j))), (2, .int (nI (plcN j))), (0, .ref 105)]) dX6_fillUsual_66 rfl (nI_add j 1) (by decide) rfl ?_
        refine Sx.goto (t := 7) dX6_fillUsual_69 (by decide) ?_
        refine Sx.sub' [(1, .int (nI (j + 1))), (0, .ref 105)] rfl ?_
        exact ih (j + 1) (by omega) (by omega) I2 (by rw [← (cel_ok j (by omega)).2.2.1]; exact hp2) hI2
      · refine Sx.iconst (v := (nI 1)) dX6_fillUsual_26 (by decide) ?_
        refine Sx.goto (t := 32) dX6_fillUsual_27 (by decide) ?_
        refine Sx.istore_n (lv' := [(2, .int (nI 1)), (1, .int (nI j)), (0, .ref 105)]) dX6_fillUsual_32 (by decide) rfl ?_
        refine Sx.iconst (v := (nI 0)) dX6_fillUsual_33 (by decide) ?_
        refine Sx.istore_n (lv' := [(3, .int (nI 0)), (2, .int (nI 1)), (1, .int (nI j)), (0, .ref 105)]) dX6_fillUsual_34 (by decide) rfl ?_
        have hpl : plcN j = 1 := by unfold plcN; rw [if_pos (by omega)]
        refine Sx.sub' [(3, .int (nI 0)), (2, .int (nI (plcN j))), (1, .int (nI j)), (0, .ref 105)] (by rw [hpl]; rfl) ?_
        refine l_fu1 W (I0 := I0) (by omega) (fun I2 hp2 hI2 => ?_) (plcN j + 1) 0 (by omega) (by omega) I (by rw [Nat.add_zero]; exact hp) hI
        refine Sx.iinc (v := nI (j + 1)) (lv' := [(1, .int (nI (j + 1))), (3, .int (nI (plcN j))), (2, .int (nI (plcN j))), (0, .ref 105)]) dX6_fillUsual_66 rfl (nI_add j 1) (by decide) rfl ?_
        refine Sx.goto (t := 7) dX6_fillUsual_69 (by decide) ?_
        refine Sx.sub' [(1, .int (nI (j + 1))), (0, .ref 105)] rfl ?_
        exact ih (j + 1) (by omega) (by omega) I2 (by rw [← (cel_ok j (by omega)).2.2.1]; exact hp2) hI2
set_option maxRecDepth 20000 in
set_option maxHeartbeats 1000000 in
theorem c_fillU {G : Gt} {l : Launch} {Z : Zt} {R : Rt} {I : It} {L : Lt} {post : Pt'}  (W : WF Z R) (h : ∀ I', rep 36 (I' 106) usQ → (∀ q, q ≠ 106 → I' q = I q) → post none Z R I' L) : Cx G l mX6_fillUsual 3 0 0 [.ref 105] Z R I L post := by
  refine Cx.of (by decide +kernel) (by exact Nat.le_of_ble_eq_true rfl) ?_
  refine Sx.aload_n dX6_fillUsual_0 rfl ?_
  refine Sx.iconst (v := (nI 0)) dX6_fillUsual_1 (by decide) ?_
  refine Sx.callU1 dX6_fillUsual_2 lku_X6_36 (rcv_6 (o_105 W)) (by decide) (by decide) (Nat.le_of_ble_eq_true rfl) rfl rfl (c_X7_fill (v := nI 0) (w_105r W) rC6 (by decide) (fun I1 e1 o1 => ?_))
  refine Sx.iconst (v := (nI 0)) dX6_fillUsual_5 (by decide) ?_
  refine Sx.istore_n (lv' := [(1, .int (nI 0)), (0, .ref 105)]) dX6_fillUsual_6 (by decide) rfl ?_
  refine Sx.sub' [(1, .int (nI 0)), (0, .ref 105)] rfl ?_
  exact l_fu2 W (I0 := I) h 9 0 (by decide) (by decide) I1 (fun z hz => by rw [e1, rfil, if_pos hz]; exact congrArg nI (if_neg (show ¬ z < celN 0 by show ¬ z < 0; omega)).symm) o1
set_option maxRecDepth 20000 in
set_option maxHeartbeats 1000000 in
theorem l_cwh {G : Gt} {l : Launch} {Z : Zt} {R : Rt} {I : It} {L : Lt} {post : Pt'} {Q : Nat → Nat} (W : WF Z R) (hp : rep 36 (I 106) Q) (hC : CB Q) (hL : QL Q) (h1 : 1 ≤ Q 34) (h2 : 2 ≤ Q 35) (h : post (some (.int (b2i (whQ Q)))) Z R I L) :
    ∀ (k j : Nat), j ≤ Q 35 → Q 35 < j + k → whL Q j = true → Sx G l mX6_isWhole 3 0 0 20 [(1, .int (nI j)), (0, .ref 105)] [] Z R I L post := by
  obtain ⟨g1, g2, g3⟩ := hC
  intro k
  induction k with
  | zero => intro i h1 h2; omega
  | succ k ih =>
    intro j h3 h4 hw
    refine Sx.iload_n dX6_isWhole_20 rfl ?_
    refine Sx.aload_n dX6_isWhole_21 rfl ?_
    refine Sx.callV0 dX6_isWhole_22 lkv_X6_57 (rcv_6 (o_105 W)) (by decide) (by decide) (Nat.le_of_ble_eq_true rfl) rfl rfl (c_pers (w_105r W) hp ?_)
    refine Sx.icmp_geV (t := 57) dX6_isWhole_25 (by decide) (vN (by omega)) (vN (by omega)) (fun c25 => ?_) (fun c25 => ?_)
    · refine Sx.iconst (v := (nI 1)) dX6_isWhole_57 (by decide) ?_
      refine Sx.top (show _ = b2i true from rfl) ?_
      refine Sx.iret dX6_isWhole_58 rfl (b2i_n _) ?_
      have hj : j = Q 35 := by omega
      subst hj
      exact pBB (by rw [whQ, hw, decide_eq_true (by omega)]; rfl) h
    · refine Sx.iload_n dX6_isWhole_28 rfl ?_
      refine Sx.bipush (v := (nI 6)) dX6_isWhole_29 (by decide) ?_
      refine Sx.icmp_geV (t := 57) dX6_isWhole_31 (by decide) (vN (by omega)) (vN (by decide)) (fun c31 => False.elim (by omega)) (fun c31 => ?_)
      refine Sx.aload_n dX6_isWhole_34 rfl ?_
      refine Sx.aload_n dX6_isWhole_35 rfl ?_
      refine Sx.bipush (v := (nI 15)) dX6_isWhole_36 (by decide) ?_
      refine Sx.iload_n dX6_isWhole_38 rfl ?_
      refine Sx.iaddN dX6_isWhole_39 ?_
      refine Sx.callU1 dX6_isWhole_40 lku_X6_11 (rcv_6 (o_105 W)) (by decide) (by decide) (Nat.le_of_ble_eq_true rfl) rfl rfl (c_rg (w_105r W) rC6 (by decide) hp (15 + j) rfl (by omega) ?_)
      refine Sx.callV1 dX6_isWhole_43 lkv_X6_60 (rcv_6 (o_105 W)) (by decide) (by decide) (Nat.le_of_ble_eq_true rfl) rfl rfl (c_isKindD (w_105r W) hp (by have := hL (15 + j); omega) (by omega) ?_)
      refine Sx.if_neD (t := 51) dX6_isWhole_46 (by decide) (fun c46 => ?_) (fun c46 => ?_)
      · refine Sx.iinc (v := (nI (j + 1))) (lv' := [(1, .int (nI (j + 1))), (0, .ref 105)]) dX6_isWhole_51 rfl (nI_add j 1) (by decide) rfl ?_
        refine Sx.goto (t := 20) dX6_isWhole_54 (by decide) ?_
        refine ih (j + 1) (by omega) (by omega) ?_
        rw [whL, hw, decide_eq_true (by omega)]; rfl
      · refine Sx.iconst (v := (nI 0)) dX6_isWhole_49 (by decide) ?_
        refine Sx.top (show _ = b2i false from rfl) ?_
        refine Sx.iret dX6_isWhole_50 rfl (b2i_n _) ?_
        exact pBB (by rw [whQ, whL_f Q (j := j) (by omega) _ (by omega)]; rfl) h
set_option maxRecDepth 20000 in
set_option maxHeartbeats 1000000 in
theorem c_isWholeP {G : Gt} {l : Launch} {Z : Zt} {R : Rt} {I : It} {L : Lt} {post : Pt'} {Q : Nat → Nat} (W : WF Z R) (hp : rep 36 (I 106) Q) (hC : CB Q) (hL : QL Q) (h : post (some (.int (b2i (whQ Q)))) Z R I L) : Cx G l mX6_isWhole 3 0 0 [.ref 105] Z R I L post := by
  refine Cx.of (by decide +kernel) (by exact Nat.le_of_ble_eq_true rfl) ?_
  have hC2 := hC
  obtain ⟨g1, g2, g3⟩ := hC2
  refine Sx.aload_n dX6_isWhole_0 rfl ?_
  refine Sx.callV0 dX6_isWhole_1 lkv_X6_54 (rcv_6 (o_105 W)) (by decide) (by decide) (Nat.le_of_ble_eq_true rfl) rfl rfl (c_kinds (w_105r W) hp ?_)
  refine Sx.iconst (v := (nI 1)) dX6_isWhole_4 (by decide) ?_
  refine Sx.icmp_ltV (t := 16) dX6_isWhole_5 (by decide) (vN (by omega)) (vN (by decide)) (fun c5 => ?_) (fun c5 => ?_)
  · refine Sx.iconst (v := (nI 0)) dX6_isWhole_16 (by decide) ?_
    refine Sx.top (show _ = b2i false from rfl) ?_
    refine Sx.iret dX6_isWhole_17 rfl (b2i_n _) ?_
    exact pBB (by rw [whQ, decide_eq_false (by omega), Bool.and_false]) h
  · refine Sx.aload_n dX6_isWhole_8 rfl ?_
    refine Sx.callV0 dX6_isWhole_9 lkv_X6_57 (rcv_6 (o_105 W)) (by decide) (by decide) (Nat.le_of_ble_eq_true rfl) rfl rfl (c_pers (w_105r W) hp ?_)
    refine Sx.iconst (v := (nI 2)) dX6_isWhole_12 (by decide) ?_
    refine Sx.icmp_geV (t := 18) dX6_isWhole_13 (by decide) (vN (by omega)) (vN (by decide)) (fun c13 => ?_) (fun c13 => ?_)
    · refine Sx.iconst (v := (nI 0)) dX6_isWhole_18 (by decide) ?_
      refine Sx.istore_n (lv' := [(1, .int (nI 0)), (0, .ref 105)]) dX6_isWhole_19 (by decide) rfl ?_
      refine Sx.sub' [(1, .int (nI 0)), (0, .ref 105)] rfl ?_
      exact l_cwh W hp hC hL (by omega) (by omega) h (Q 35 + 1) 0 (by omega) (by omega) rfl
    · refine Sx.iconst (v := (nI 0)) dX6_isWhole_16 (by decide) ?_
      refine Sx.top (show _ = b2i false from rfl) ?_
      refine Sx.iret dX6_isWhole_17 rfl (b2i_n _) ?_
      exact pBB (by rw [whQ, decide_eq_false (by omega), Bool.and_false]) h
set_option maxRecDepth 20000 in
set_option maxHeartbeats 1000000 in
theorem l_citems {G : Gt} {l : Launch} {Z : Zt} {R : Rt} {L : Lt} {post : Pt'} {kc x n : Nat} {T Q : Nat → Nat} {r : Bool × Nat × (Nat → Nat)} {I0 : It} (W : WF Z R) (hkc : kcO kc) (hx : x < 6) (hxk : x = x * (if kc = 115 then 0 else 1)) (h : ∀ I', TS I' T n r.2.1 → (r.1 = true → rep 36 (I' 106) (putQ kc x Q r.2.2)) → (∀ q, q ≠ 101 → q ≠ 106 → I' q = I0 q) → post (some (.int (b2i r.1))) Z R I' L) :
    ∀ (k i q0 : Nat), q0 < k → ∀ (met c : Nat) (f : Nat → Nat) (I : It), itR T n kc q0 met c f = r → pop3 met + q0 = 4 → 1 ≤ q0 → i + q0 = 4 → met < 8 → TS I T n c → rep 36 (I 106) (putQ kc x Q f) → (∀ q, q ≠ 101 → q ≠ 106 → I q = I0 q) →
      Sx G l mX6_readsItems 3 0 0 6 [(5, .int (nI i)), (4, .int (nI (met * 2 ^ offN kc))), (0, .ref 105), (1, .ref 101), (2, .int (nI kc)), (3, .int (nI x))] [] Z R I L post := by
  have hkb : kc < 256 := by rcases hkc with e | e | e <;> omega
  have hcx : ∀ w, w < cnN kc → celN (offN kc + w) + x * (if kc = 115 then 0 else 1) < 36 := fun w hw => by
    have e1 := ent_ok hkc w hw
    have e2 := cel_ok _ e1.2.2
    rw [← hxk]
    omega
  intro k
  induction k with
  | zero => intro i q0 h1; omega
  | succ k ih =>
    intro i q0 h1 met c f I hR hp hq1 hi4 hm8 hT hA hI
    obtain ⟨q, rfl⟩ : ∃ z, q0 = z + 1 := ⟨q0 - 1, by omega⟩
    have hn0 := hT.2.2.1
    refine Sx.iload dX6_readsItems_6 rfl ?_
    refine Sx.gets dX6_readsItems_8 (k := 5) rfl (by decide) lks_X6_68 ?_
    refine Sx.alenS dX6_readsItems_11 (v := nI 8) rfl (by decide) rfl ?_
    refine Sx.icmp_gtV (t := 129) dX6_readsItems_12 (by decide) (vN (by omega)) (vN (by decide)) (fun c12 => False.elim (by omega)) (fun c12 => ?_)
    refine Sx.gets dX6_readsItems_15 (k := 5) rfl (by decide) lks_X6_68 ?_
    refine Sx.aload_n dX6_readsItems_18 rfl ?_
    refine Sx.callV0 dX6_readsItems_19 lkv_X6_23 (rcv_9 (o_101 W)) (by decide) (by decide) (Nat.le_of_ble_eq_true rfl) rfl rfl (c_next W hT (fun I1 hT1 m1 g1 => ?_))
    have hx1 := nx_b T n c
    have ht1 := hT1.2.2.2.2.2 (nx T n c)
    have hc1 := hT1.2.2.2.1
    have hn1 := hT1.2.2.1
    have hs1 := sgn_or T n (nx T n c)
    refine Sx.callSN2 dX6_readsItems_22 lkc_X6_72  (by decide) (by decide) (Nat.le_of_ble_eq_true rfl) rfl rfl (c_placeZ (r := ("DarkestDay$Port", "LETTERS", "[C", 53, [100, 116, 102, 118, 110, 104, 111, 98])) rfl (by decide) rfl (by decide) ?_)
    refine Sx.istore (lv' := [(6, .int (iI ((plN L8 (nI (sgn T n (nx T n c))) : Int) - 1))), (5, .int (nI i)), (4, .int (nI (met * 2 ^ offN kc))), (0, .ref 105), (1, .ref 101), (2, .int (nI kc)), (3, .int (nI x))]) dX6_readsItems_25 (by decide) rfl ?_
    have hlo := let_ok hkc (sgn T n (nx T n c)) (by omega)
    have hWd : spN (stri kc) (nI (sgn T n (nx T n c))) = itW T n kc c := rfl
    obtain ⟨hl1, hl2, hl3, hl4⟩ := hlo
    refine Sx.iload dX6_readsItems_27 rfl ?_
    refine Sx.iconst (v := (iI (-1))) dX6_readsItems_29 (by decide) ?_
    refine Sx.icmp_eqV (t := 52) dX6_readsItems_30 (by decide) (vZ (by omega)) (vZ (by decide)) (fun c30 => ?_) (fun c30 => ?_)
    · refine Sx.iconst (v := (nI 1)) dX6_readsItems_52 (by decide) ?_
      refine Sx.top (show _ = b2i true from rfl) ?_
      refine Sx.iret dX6_readsItems_53 rfl (b2i_n _) ?_
      have hW0 : itW T n kc c = 0 := by first | exact hWd ▸ hl2 (by omega) | exact hWd ▸ hl4 (by omega) (by omega)
      rw [itR, if_pos hW0] at hR
      subst hR
      exact h I1 hT1 (fun _ => by rw [g1 106 (by omega)]; exact hA) (fun q h1 h2 => by rw [g1 q h1]; exact hI q h1 h2)
    · refine Sx.sub' [(6, .int (nI (plN L8 (nI (sgn T n (nx T n c))) - 1))), (5, .int (nI i)), (4, .int (nI (met * 2 ^ offN kc))), (0, .ref 105), (1, .ref 101), (2, .int (nI kc)), (3, .int (nI x))] (by rw [show iI ((plN L8 (nI (sgn T n (nx T n c))) : Int) - 1) = nI (plN L8 (nI (sgn T n (nx T n c))) - 1) from eZN (by omega)]; rfl) ?_
      refine Sx.iload dX6_readsItems_33 rfl ?_
      refine Sx.gets dX6_readsItems_35 (k := 6) rfl (by decide) lks_X6_76 ?_
      refine Sx.alenS dX6_readsItems_38 (v := nI 8) rfl (by decide) rfl ?_
      refine Sx.icmp_geV (t := 52) dX6_readsItems_39 (by decide) (vN (by omega)) (vN (by decide)) (fun c39 => False.elim (by omega)) (fun c39 => ?_)
      refine Sx.gets dX6_readsItems_42 (k := 6) rfl (by decide) lks_X6_76 ?_
      refine Sx.iload dX6_readsItems_45 rfl ?_
      refine Sx.caldS dX6_readsItems_47 rfl (by decide) rfl (vp_in_nI (show plN L8 (nI (sgn T n (nx T n c))) - 1 < 8 by omega) (by decide)) ?_
      refine Sx.top (show _ = nI (clcN (plN L8 (nI (sgn T n (nx T n c))) - 1)) from ?_) ?_
      · rw [nI_clamp (by omega)]; exact (clc_ok _ (by omega)).1
      refine Sx.iload_n dX6_readsItems_48 rfl ?_
      have hcb := (clc_ok (plN L8 (nI (sgn T n (nx T n c))) - 1) (by omega)).2
      refine Sx.icmp_eqV (t := 54) dX6_readsItems_49 (by decide) (vN (by omega)) (vN (by omega)) (fun c49 => ?_) (fun c49 => ?_)
      · have hD0 : plN L8 (nI (sgn T n (nx T n c))) ≠ 0 := by omega
        obtain ⟨hl5, hl6⟩ := hl3 hD0 (by omega)
        have hWn : itW T n kc c ≤ cnN kc := spN_le _ _
        have hcn := (stri_b hkc).2.1
        have hcn2 : cnN kc = stkL.getD (stri kc) 0 := rfl
        obtain ⟨ho1, ho2, ho3⟩ := off_b hkc met hm8 (itW T n kc c - 1) (by omega)
        obtain ⟨hE1, hE2, hE3⟩ := ent_ok hkc (itW T n kc c - 1) (by omega)
        have hpos := itW_pos hkc (show itW T n kc c ≠ 0 by omega)
        rw [itR, if_neg (by omega)] at hR
        refine Sx.sub' [(6, .int (nI (offN kc + (itW T n kc c - 1)))), (5, .int (nI i)), (4, .int (nI (met * 2 ^ offN kc))), (0, .ref 105), (1, .ref 101), (2, .int (nI kc)), (3, .int (nI x))] (by rw [show plN L8 (nI (sgn T n (nx T n c))) - 1 = offN kc + (itW T n kc c - 1) by omega]; rfl) ?_
        refine Sx.iload dX6_readsItems_54 rfl ?_
        refine Sx.iload dX6_readsItems_56 rfl ?_
        refine Sx.callSN2 dX6_readsItems_58 lkc_X6_79  (by decide) (by decide) (Nat.le_of_ble_eq_true rfl) rfl rfl (c_hasBit (by omega) (by omega) ?_)
        refine Sx.if_eqB (t := 66) dX6_readsItems_61 (by decide) (fun c61 => ?_) (fun c61 => ?_)
        · refine Sx.iload dX6_readsItems_66 rfl ?_
          refine Sx.iconst (v := (nI 1)) dX6_readsItems_68 (by decide) ?_
          refine Sx.iload dX6_readsItems_69 rfl ?_
          refine Sx.ishl1 dX6_readsItems_71 (by omega) ?_
          refine Sx.iorN dX6_readsItems_72 ?_
          refine Sx.istore (lv' := [(4, .int (nI ((met * 2 ^ offN kc) ||| (2 ^ (offN kc + (itW T n kc c - 1)))))), (6, .int (nI (offN kc + (itW T n kc c - 1)))), (5, .int (nI i)), (0, .ref 105), (1, .ref 101), (2, .int (nI kc)), (3, .int (nI x))]) dX6_readsItems_73 (by decide) rfl ?_
          refine Sx.aload_n dX6_readsItems_75 rfl ?_
          refine Sx.callV0 dX6_readsItems_76 lkv_X6_33 (rcv_9 (o_101 W)) (by decide) (by decide) (Nat.le_of_ble_eq_true rfl) rfl rfl (c_adv W hT1 (by omega) (fun I2 hT2 m2 g2 => ?_))
          have ht2 := hT2.2.2.2.2.2 (nx T n c + 1)
          have hc2 := hT2.2.2.2.1
          have hn2 := hT2.2.2.1
          have hs2 := sgn_or T n (nx T n c + 1)
          refine Sx.aload_n dX6_readsItems_79 rfl ?_
          refine Sx.iconst (v := (nI 2)) dX6_readsItems_80 (by decide) ?_
          refine Sx.gets dX6_readsItems_81 (k := 7) rfl (by decide) lks_X6_83 ?_
          refine Sx.iload dX6_readsItems_84 rfl ?_
          refine Sx.callSN2 dX6_readsItems_86 lkc_X6_43  (by decide) (by decide) (Nat.le_of_ble_eq_true rfl) rfl rfl (c_entryN (r := ("DarkestDay$Port", "LEAST", "[I", 50, [2, 0, 0, 0, 0, 0, 0, 0])) rfl (by decide) rfl (by decide) hE3 hE1 ?_)
          refine Sx.gets dX6_readsItems_89 (k := 8) rfl (by decide) lks_X6_86 ?_
          refine Sx.iload dX6_readsItems_92 rfl ?_
          refine Sx.callSN2 dX6_readsItems_94 lkc_X6_43  (by decide) (by decide) (Nat.le_of_ble_eq_true rfl) rfl rfl (c_entryN (r := ("DarkestDay$Port", "MOST", "[I", 50, [30, 99, 9, 9, 30, 5, 9, 1])) rfl (by decide) rfl (by decide) hE3 hE2 ?_)
          refine Sx.callV3 dX6_readsItems_97 lkv_X6_89 (rcv_9 (o_101 W)) (by decide) (by decide) (Nat.le_of_ble_eq_true rfl) rfl rfl (c_rnum W hT2 (by decide) (by decide) (by have := loN_b kc (itW T n kc c - 1); omega) (by have := mostN_b kc (itW T n kc c - 1); omega) (fun I3 hT3 u3 g3 => ?_))
          refine Sx.if_neB (t := 105) dX6_readsItems_100 (by decide) (fun c100 => ?_) (fun c100 => ?_)
          · refine Sx.aload_n dX6_readsItems_105 rfl ?_
            refine Sx.gets dX6_readsItems_106 (k := 3) rfl (by decide) lks_X6_39 ?_
            refine Sx.iload dX6_readsItems_109 rfl ?_
            refine Sx.callSN2 dX6_readsItems_111 lkc_X6_43  (by decide) (by decide) (Nat.le_of_ble_eq_true rfl) rfl rfl (c_entryN (r := ("DarkestDay$Port", "CELLS", "[I", 50, [0, 1, 2, 3, 9, 15, 21, 27])) rfl (by decide) rfl (by decide) hE3 (cel_ok _ hE3).1 ?_)
            refine Sx.iload_n dX6_readsItems_114 rfl ?_
            refine Sx.iaddN dX6_readsItems_115 ?_
            refine Sx.aload_n dX6_readsItems_116 rfl ?_
            refine Sx.callV0 dX6_readsItems_117 lkv_X6_93 (rcv_9 (o_101 W)) (by decide) (by decide) (Nat.le_of_ble_eq_true rfl) rfl rfl (c_numN W (u3 c100) ?_)
            refine Sx.callU2 dX6_readsItems_120 lku_X6_50 (rcv_6 (o_105 W)) (by decide) (by decide) (Nat.le_of_ble_eq_true rfl) rfl rfl (c_rs (w_105r W) rC6 (by decide) (by rw [g3 ((105 + 1)) (by omega), g2 ((105 + 1)) (by omega), g1 ((105 + 1)) (by omega)]; exact hA) (celN (offN kc + (itW T n kc c - 1)) + x * (if kc = 115 then 0 else 1)) (rdV T n (nx T n c + 1) 2) (by rw [← hxk]) (hcx (itW T n kc c - 1) (by omega)) rfl (fun I4 hA4 g4 => ?_))
            have hT4 := hT3.kp (g4 _ (by omega)) (g4 _ (by omega))
            refine Sx.iinc (v := (nI (i + 1))) (lv' := [(5, .int (nI (i + 1))), (4, .int (nI ((met * 2 ^ offN kc) ||| (2 ^ (offN kc + (itW T n kc c - 1)))))), (6, .int (nI (offN kc + (itW T n kc c - 1)))), (0, .ref 105), (1, .ref 101), (2, .int (nI kc)), (3, .int (nI x))]) dX6_readsItems_123 rfl (nI_add i 1) (by decide) rfl ?_
            refine Sx.goto (t := 6) dX6_readsItems_126 (by decide) ?_
            refine Sx.sub' [(5, .int (nI (i + 1))), (4, .int (nI ((met ||| 2 ^ (itW T n kc c - 1)) * 2 ^ offN kc))), (0, .ref 105), (1, .ref 101), (2, .int (nI kc)), (3, .int (nI x))] (by rw [← ho2]; rfl) ?_
            have hb0 : hbN met (itW T n kc c - 1) = false := ho1 ▸ c61
            obtain ⟨hp3, hp5⟩ := pop3_up met hm8 _ (by omega) hb0
            have hp4 := pop3_le _ hp5
            rw [if_neg (by rw [hb0]; decide), if_pos c100] at hR
            refine ih (i + 1) q (by omega) _ _ _ I4 hR (by omega) (by omega) (by omega) hp5 (by rw [← rdP_ok c100]; exact hT4) ?_ (fun q h1 h2 => by rw [g4 q h2, g3 q h1, g2 q h1, g1 q h1]; exact hI q h1 h2)
            rw [← putQ_up hkc hx Q f (by omega)]
            exact hA4
          · refine Sx.iconst (v := (nI 0)) dX6_readsItems_103 (by decide) ?_
            refine Sx.top (show _ = b2i false from rfl) ?_
            refine Sx.iret dX6_readsItems_104 rfl (b2i_n _) ?_
            have hb0 : hbN met (itW T n kc c - 1) = false := ho1 ▸ c61
            rw [if_neg (by rw [hb0]; decide), if_neg (by rw [c100]; decide)] at hR
            subst hR
            exact h I3 hT3 (fun q => by cases q) (fun q h1 h2 => by rw [g3 q h1, g2 q h1, g1 q h1]; exact hI q h1 h2)
        · refine Sx.iconst (v := (nI 0)) dX6_readsItems_64 (by decide) ?_
          refine Sx.top (show _ = b2i false from rfl) ?_
          refine Sx.iret dX6_readsItems_65 rfl (b2i_n _) ?_
          rw [if_pos (ho1 ▸ c61)] at hR
          subst hR
          exact h I1 hT1 (fun q => by cases q) (fun q h1 h2 => by rw [g1 q h1]; exact hI q h1 h2)
      · refine Sx.iconst (v := (nI 1)) dX6_readsItems_52 (by decide) ?_
        refine Sx.top (show _ = b2i true from rfl) ?_
        refine Sx.iret dX6_readsItems_53 rfl (b2i_n _) ?_
        have hW0 : itW T n kc c = 0 := by first | exact hWd ▸ hl2 (by omega) | exact hWd ▸ hl4 (by omega) (by omega)
        rw [itR, if_pos hW0] at hR
        subst hR
        exact h I1 hT1 (fun _ => by rw [g1 106 (by omega)]; exact hA) (fun q h1 h2 => by rw [g1 q h1]; exact hI q h1 h2)
set_option maxRecDepth 20000 in
set_option maxHeartbeats 1000000 in
theorem c_readsItems {G : Gt} {l : Launch} {Z : Zt} {R : Rt} {I : It} {L : Lt} {post : Pt'} {kc x n c : Nat} {T Q : Nat → Nat} {r : Bool × Nat × (Nat → Nat)} (W : WF Z R) (hkc : kcO kc) (hx : x < 6) (hxk : x = x * (if kc = 115 then 0 else 1)) (hT : TS I T n c) (hA : rep 36 (I 106) (putQ kc x Q (usualN kc))) (hR : itR T n kc 4 0 c (usualN kc) = r) (h : ∀ I', TS I' T n r.2.1 → (r.1 = true → rep 36 (I' 106) (putQ kc x Q r.2.2)) → (∀ q, q ≠ 101 → q ≠ 106 → I' q = I q) → post (some (.int (b2i r.1))) Z R I' L) : Cx G l mX6_readsItems 3 0 0 [.ref 105, .ref 101, .int (nI kc), .int (nI x)] Z R I L post := by
  refine Cx.of (by decide +kernel) (by exact Nat.le_of_ble_eq_true rfl) ?_
  refine Sx.iconst (v := (nI 0)) dX6_readsItems_0 (by decide) ?_
  refine Sx.istore (lv' := [(4, .int (nI 0)), (0, .ref 105), (1, .ref 101), (2, .int (nI kc)), (3, .int (nI x))]) dX6_readsItems_1 (by decide) rfl ?_
  refine Sx.iconst (v := (nI 0)) dX6_readsItems_3 (by decide) ?_
  refine Sx.istore (lv' := [(5, .int (nI 0)), (4, .int (nI 0)), (0, .ref 105), (1, .ref 101), (2, .int (nI kc)), (3, .int (nI x))]) dX6_readsItems_4 (by decide) rfl ?_
  refine Sx.sub' [(5, .int (nI 0)), (4, .int (nI (0 * 2 ^ offN kc))), (0, .ref 105), (1, .ref 101), (2, .int (nI kc)), (3, .int (nI x))] (by rw [Nat.zero_mul]; rfl) ?_
  exact l_citems W hkc hx hxk h 5 0 4 (by decide) 0 c (usualN kc) I hR (by decide) (by decide) (by decide) (by decide) hT hA (fun _ _ _ => rfl)
def UQ (Q : Nat → Nat) : Prop := (Q 33 = 0 → Q 0 = 8 ∧ Q 1 = 20 ∧ Q 2 = 0) ∧ (∀ k, Q 34 ≤ k → k < 6 → Q (3 + k) = 3 ∧ Q (9 + k) = 4) ∧ ∀ p, Q 35 ≤ p → p < 6 → Q (15 + p) = 0 ∧ Q (21 + p) = 2 ∧ Q (27 + p) = 0
theorem putQ_s {Q : Nat → Nat} (h : UQ Q) (h3 : Q 33 = 0) : putQ 115 0 (upn Q 33 1) (usualN 115) = upn Q 33 1 := by
  obtain ⟨e0, e1, e2⟩ := h.1 h3
  funext z
  unfold putQ
  rw [if_pos rfl]
  by_cases c : z < 3
  · rw [if_pos c]
    have : z = 0 ∨ z = 1 ∨ z = 2 := by omega
    rcases this with e | e | e <;> subst e
    · exact e0.symm
    · exact e1.symm
    · exact e2.symm
  · rw [if_neg c]
theorem putQ_k {Q : Nat → Nat} (h : UQ Q) (h3 : Q 34 < 6) : putQ 107 (Q 34) (upn Q 34 (Q 34 + 1)) (usualN 107) = upn Q 34 (Q 34 + 1) := by
  obtain ⟨e0, e1⟩ := h.2.1 (Q 34) (Nat.le_refl _) h3
  funext z
  unfold putQ
  rw [if_neg (by decide), if_pos rfl]
  by_cases c : z = 3 + Q 34
  · rw [if_pos c, c]
    unfold upn
    rw [if_neg (by omega), e0]
    rfl
  · rw [if_neg c]
    by_cases c2 : z = 9 + Q 34
    · rw [if_pos c2, c2]
      unfold upn
      rw [if_neg (by omega), e1]
      rfl
    · rw [if_neg c2]
theorem putQ_p {Q : Nat → Nat} (h : UQ Q) (h3 : Q 35 < 6) : putQ 112 (Q 35) (upn Q 35 (Q 35 + 1)) (usualN 112) = upn Q 35 (Q 35 + 1) := by
  obtain ⟨e0, e1, e2⟩ := h.2.2 (Q 35) (Nat.le_refl _) h3
  funext z
  unfold putQ
  rw [if_neg (by decide), if_neg (by decide)]
  by_cases c : z = 15 + Q 35
  · rw [if_pos c, c]
    unfold upn
    rw [if_neg (by omega), e0]
    rfl
  · rw [if_neg c]
    by_cases c2 : z = 21 + Q 35
    · rw [if_pos c2, c2]
      unfold upn
      rw [if_neg (by omega), e1]
      rfl
    · rw [if_neg c2]
      by_cases c3 : z = 27 + Q 35
      · rw [if_pos c3, c3]
        unfold upn
        rw [if_neg (by omega), e2]
        rfl
      · rw [if_neg c3]
theorem UQ.putS {Q f : Nat → Nat} (h : UQ Q) : UQ (putQ 115 0 (upn Q 33 1) f) := by
  refine ⟨fun q => absurd q (by show ¬ (1 = 0); decide), fun k hk hk2 => ?_, fun p hp hp2 => ?_⟩
  · have := h.2.1 k hk hk2
    unfold putQ upn
    rw [if_pos rfl, if_neg (by omega), if_neg (by omega), if_pos rfl, if_neg (by omega), if_neg (by omega)]
    exact this
  · have := h.2.2 p hp hp2
    unfold putQ upn
    rw [if_pos rfl, if_neg (by omega), if_neg (by omega), if_pos rfl, if_neg (by omega), if_neg (by omega), if_pos rfl, if_neg (by omega), if_neg (by omega)]
    exact this
theorem UQ.putK {Q f : Nat → Nat} (h : UQ Q) (h6 : Q 34 < 6) : UQ (putQ 107 (Q 34) (upn Q 34 (Q 34 + 1)) f) := by
  have p1 : putQ 107 (Q 34) (upn Q 34 (Q 34 + 1)) f 33 = Q 33 := putQ_c _ _ _ _ h6 (by omega)
  have p2 : putQ 107 (Q 34) (upn Q 34 (Q 34 + 1)) f 34 = Q 34 + 1 := putQ_c _ _ _ _ h6 (by omega)
  have p3 : putQ 107 (Q 34) (upn Q 34 (Q 34 + 1)) f 35 = Q 35 := putQ_c _ _ _ _ h6 (by omega)
  have o : ∀ z, z ≠ 3 + Q 34 → z ≠ 9 + Q 34 → z ≠ 34 → putQ 107 (Q 34) (upn Q 34 (Q 34 + 1)) f z = Q z := fun z a b c => by
    unfold putQ upn
    rw [if_neg (by decide), if_pos rfl, if_neg a, if_neg b, if_neg c]
  refine ⟨fun q => ?_, fun k hk hk2 => ?_, fun p hp hp2 => ?_⟩
  · rw [o 0 (by omega) (by omega) (by omega), o 1 (by omega) (by omega) (by omega), o 2 (by omega) (by omega) (by omega)]
    exact h.1 (p1 ▸ q)
  · rw [p2] at hk
    rw [o _ (by omega) (by omega) (by omega), o _ (by omega) (by omega) (by omega)]
    exact h.2.1 k (by omega) hk2
  · rw [p3] at hp
    rw [o _ (by omega) (by omega) (by omega), o _ (by omega) (by omega) (by omega), o _ (by omega) (by omega) (by omega)]
    exact h.2.2 p hp hp2
theorem UQ.putP {Q f : Nat → Nat} (h : UQ Q) (h6 : Q 35 < 6) : UQ (putQ 112 (Q 35) (upn Q 35 (Q 35 + 1)) f) := by
  have p1 : putQ 112 (Q 35) (upn Q 35 (Q 35 + 1)) f 33 = Q 33 := putQ_c _ _ _ _ h6 (by omega)
  have p2 : putQ 112 (Q 35) (upn Q 35 (Q 35 + 1)) f 34 = Q 34 := putQ_c _ _ _ _ h6 (by omega)
  have p3 : putQ 112 (Q 35) (upn Q 35 (Q 35 + 1)) f 35 = Q 35 + 1 := putQ_c _ _ _ _ h6 (by omega)
  have o : ∀ z, z ≠ 15 + Q 35 → z ≠ 21 + Q 35 → z ≠ 27 + Q 35 → z ≠ 35 → putQ 112 (Q 35) (upn Q 35 (Q 35 + 1)) f z = Q z := fun z a b c d => by
    unfold putQ upn
    rw [if_neg (by decide), if_neg (by decide), if_neg a, if_neg b, if_neg c, if_neg d]
  refine ⟨fun q => ?_, fun k hk hk2 => ?_, fun p hp hp2 => ?_⟩
  · rw [o 0 (by omega) (by omega) (by omega) (by omega), o 1 (by omega) (by omega) (by omega) (by omega), o 2 (by omega) (by omega) (by omega) (by omega)]
    exact h.1 (p1 ▸ q)
  · rw [p2] at hk
    rw [o _ (by omega) (by omega) (by omega) (by omega), o _ (by omega) (by omega) (by omega) (by omega)]
    exact h.2.1 k hk hk2
  · rw [p3] at hp
    rw [o _ (by omega) (by omega) (by omega) (by omega), o _ (by omega) (by omega) (by omega) (by omega), o _ (by omega) (by omega) (by omega) (by omega)]
    exact h.2.2 p (by omega) hp2
theorem clR_U {T : Nat → Nat} {n c : Nat} {Q : Nat → Nat} (h : UQ Q) (hr : (clR T n c Q).1 = true) : UQ (clR T n c Q).2.2 := by
  unfold clR at hr ⊢
  split
  · exact h.putS
  · next c1 =>
    rw [if_neg c1] at hr
    split
    · next c2 => exact h.putK c2.2
    · next c2 =>
      rw [if_neg c2] at hr
      split
      · next c3 => exact h.putP c3.2
      · next c3 => rw [if_neg c3] at hr; cases hr
theorem usQ_U : UQ usQ := by
  refine ⟨fun _ => ⟨rfl, rfl, rfl⟩, ?_, ?_⟩
  · show ∀ k, 0 ≤ k → k < 6 → usQ (3 + k) = 3 ∧ usQ (9 + k) = 4
    intro k _ h
    have : k = 0 ∨ k = 1 ∨ k = 2 ∨ k = 3 ∨ k = 4 ∨ k = 5 := by omega
    rcases this with e | e | e | e | e | e <;> subst e <;> exact ⟨rfl, rfl⟩
  · show ∀ k, 0 ≤ k → k < 6 → usQ (15 + k) = 0 ∧ usQ (21 + k) = 2 ∧ usQ (27 + k) = 0
    intro k _ h
    have : k = 0 ∨ k = 1 ∨ k = 2 ∨ k = 3 ∨ k = 4 ∨ k = 5 := by omega
    rcases this with e | e | e | e | e | e <;> subst e <;> exact ⟨rfl, rfl, rfl⟩
