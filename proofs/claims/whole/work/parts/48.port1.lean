/-! a seaport's text, read -/
def stri (kc : Nat) : Nat := if kc = 115 then 2 else if kc = 107 then 3 else 4
def loN (kc w : Nat) : Nat := if kc = 115 ∧ w = 0 then 2 else 0
def itW (T : Nat → Nat) (n kc c : Nat) : Nat := spN (stri kc) (nI (sgn T n (nx T n c)))
/-- items: is it well told, where one stands then, what was told -/
def itR (T : Nat → Nat) (n kc : Nat) : Nat → Nat → Nat → (Nat → Nat) → Bool × Nat × (Nat → Nat)
  | 0, _, c, f => (true, c, f)
  | q + 1, met, c, f =>
    if itW T n kc c = 0 then (true, nx T n c, f) else
    if hbN met (itW T n kc c - 1) = true then (false, nx T n c, f) else
    if rdR T n (nx T n c + 1) 2 (loN kc (itW T n kc c - 1)) (mostN kc (itW T n kc c - 1)) = true then itR T n kc q (met ||| 2 ^ (itW T n kc c - 1)) (rdE T n (nx T n c + 1) 2) (upn f (itW T n kc c - 1) (rdV T n (nx T n c + 1) 2))
    else (false, rdP T n (nx T n c + 1) 2 (loN kc (itW T n kc c - 1)) (mostN kc (itW T n kc c - 1)), f)
def pop3 (m : Nat) : Nat := m % 2 + m / 2 % 2 + m / 4 % 2
theorem pop3_le : ∀ m, m < 8 → pop3 m ≤ 3 := by decide
theorem pop3_up : ∀ m, m < 8 → ∀ w, w < 3 → hbN m w = false → pop3 (m ||| 2 ^ w) = pop3 m + 1 ∧ m ||| 2 ^ w < 8 := by decide
def kcO (kc : Nat) : Prop := kc = 115 ∨ kc = 107 ∨ kc = 112
theorem stri_b {kc : Nat} (h : kcO kc) : stri kc < 6 ∧ stkL.getD (stri kc) 0 ≤ 3 ∧ 1 ≤ stkL.getD (stri kc) 0 := by
  rcases h with e | e | e <;> subst e <;> decide
theorem itW_pos {T : Nat → Nat} {n kc c : Nat} (h : kcO kc) (hw : itW T n kc c ≠ 0) : nx T n c < n := by
  rcases Nat.lt_or_ge (nx T n c) n with q | q
  · exact q
  · refine absurd ?_ hw
    unfold itW sgn
    rw [if_neg (by omega)]
    exact (spN_end _ (stri_b h).1).2
theorem mostN_b (kc w : Nat) : mostN kc w < 1000 := by unfold mostN; (repeat' split) <;> omega
theorem loN_b (kc w : Nat) : loN kc w < 1000 := by unfold loN; split <;> omega
set_option maxRecDepth 20000 in
set_option maxHeartbeats 1000000 in
theorem l_usu {G : Gt} {l : Launch} {Z : Zt} {R : Rt} {L : Lt} {post : Pt'} {to N row kc : Nat} {I0 : It} (W : WF Z R) (hto : to = 259 ∨ to = 261 ∨ to = 263) (hA : ar Z to 50 N) (hrow : row + stkL.getD (stri kc) 0 ≤ N) (hN : N < 2147483648) (hkc : kcO kc)
    (h : ∀ I' (v : Int32), (∀ z, z < stkL.getD (stri kc) 0 → I' to (row + z) = nI (usualN kc z)) → (∀ z, z < row ∨ row + stkL.getD (stri kc) 0 ≤ z → I' to z = I0 to z) → (∀ q, q ≠ to → I' q = I0 q) → Sx G l mX12_readItems 6 0 0 31 [(5, .int v), (0, .ref 253), (1, .int (nI kc)), (2, .ref to), (3, .int (nI row)), (4, .ref (20 + stri kc))] [] Z R I' L post) :
    ∀ (k j : Nat), j ≤ stkL.getD (stri kc) 0 → stkL.getD (stri kc) 0 < j + k → ∀ (I : It), (∀ z, z < j → I to (row + z) = nI (usualN kc z)) → (∀ z, z < row ∨ row + stkL.getD (stri kc) 0 ≤ z → I to z = I0 to z) → (∀ q, q ≠ to → I q = I0 q) → Sx G l mX12_readItems 6 0 0 3 [(5, .int (nI j)), (0, .ref 253), (1, .int (nI kc)), (2, .ref to), (3, .int (nI row)), (4, .ref (20 + stri kc))] [] Z R I L post := by
  obtain ⟨hS6, hS3, hS1⟩ := stri_b hkc
  have hkb : kc < 256 := by rcases hkc with e | e | e <;> omega
  intro k
  induction k with
  | zero => intro j h1 h2; omega
  | succ k ih =>
    intro j h1 h2 I hu ho hI
    refine Sx.iload dX12_readItems_3 rfl ?_
    refine Sx.aload dX12_readItems_5 rfl ?_
    refine Sx.callV0 dX12_readItems_7 lkv_X12_112 (rcv_s hS6) (by decide) (by decide) (Nat.le_of_ble_eq_true rfl) rfl rfl (c_slen hS6 ?_)
    refine Sx.icmp_geV (t := 31) dX12_readItems_10 (by decide) (vN (by omega)) (vN (by omega)) (fun c10 => ?_) (fun c10 => ?_)
    · have hj : j = stkL.getD (stri kc) 0 := by omega
      subst hj
      exact h I _ hu ho hI
    · have hlt : j < stkL.getD (stri kc) 0 := by omega
      refine Sx.aload_n dX12_readItems_13 rfl ?_
      refine Sx.iload_n dX12_readItems_14 rfl ?_
      refine Sx.iload dX12_readItems_15 rfl ?_
      refine Sx.iaddN dX12_readItems_17 ?_
      refine Sx.iload_n dX12_readItems_18 rfl ?_
      refine Sx.iload dX12_readItems_19 rfl ?_
      refine Sx.callS2 dX12_readItems_21 lkc_X12_234  (by decide) (by decide) (Nat.le_of_ble_eq_true rfl) rfl rfl (k_usual (by omega) (by omega) ?_)
      refine Sx.iastN dX12_readItems_24 hA (by omega) hN (fun I1 e1 o1 => ?_)
      refine Sx.iinc (v := (nI (j + 1))) (lv' := [(5, .int (nI (j + 1))), (0, .ref 253), (1, .int (nI kc)), (2, .ref to), (3, .int (nI row)), (4, .ref (20 + stri kc))]) dX12_readItems_25 rfl (nI_add j 1) (by decide) rfl ?_
      refine Sx.goto (t := 3) dX12_readItems_28 (by decide) ?_
      refine Sx.sub' [(5, .int (nI (j + 1))), (0, .ref 253), (1, .int (nI kc)), (2, .ref to), (3, .int (nI row)), (4, .ref (20 + stri kc))] rfl ?_
      refine ih (j + 1) (by omega) (by omega) I1 (fun z hz => ?_) (fun z hz => ?_) (fun q hq => (o1 q hq).trans (hI q hq))
      · rw [e1]
        by_cases e : z = j
        · rw [e, upd_at]
        · rw [upd_nj _ _ (by omega)]; exact hu z (by omega)
      · rw [e1, upd_nj _ _ (by omega)]; exact ho z (by omega)
set_option maxRecDepth 20000 in
set_option maxHeartbeats 1000000 in
theorem l_items {G : Gt} {l : Launch} {Z : Zt} {R : Rt} {L : Lt} {post : Pt'} {tx b n dp to N row kc : Nat} {T : Nat → Nat} {r : Bool × Nat × (Nat → Nat)} {I0 : It} (W : WF Z R) (hto : to = 259 ∨ to = 261 ∨ to = 263) (hA : ar Z to 50 N) (hrow : row + stkL.getD (stri kc) 0 ≤ N) (hN : N < 2147483648) (hkc : kcO kc) (hno : r.1 = false → ∀ I', FB to I0 I' → I' 253 11 = nI r.2.1 → (∀ z, z < row ∨ row + stkL.getD (stri kc) 0 ≤ z → I' to z = I0 to z) → post none Z R I' L) (hyes : r.1 = true → ∀ I', FB to I0 I' → MR R I' tx b n r.2.1 T → I' 253 11 = iI (-1) → I' 253 12 = nI dp → (∀ z, z < stkL.getD (stri kc) 0 → I' to (row + z) = nI (r.2.2 z)) → (∀ z, z < row ∨ row + stkL.getD (stri kc) 0 ≤ z → I' to z = I0 to z) → post none Z R I' L) :
    ∀ (k q : Nat), q < k → ∀ (met c : Nat) (f : Nat → Nat) (I : It), itR T n kc q met c f = r → pop3 met + q = 4 → 1 ≤ q → met < 8 → MR R I tx b n (nx T n c) T → I 253 11 = iI (-1) → I 253 12 = nI dp → FB to I0 I → (∀ z, z < stkL.getD (stri kc) 0 → I to (row + z) = nI (f z)) → (∀ z, z < row ∨ row + stkL.getD (stri kc) 0 ≤ z → I to z = I0 to z) →
      Sx G l mX12_readItems 6 0 0 45 [(5, .int (nI met)), (6, .int (iI ((itW T n kc c : Int) - 1))), (0, .ref 253), (1, .int (nI kc)), (2, .ref to), (3, .int (nI row)), (4, .ref (20 + stri kc))] [] Z R I L post := by
  obtain ⟨hS6, hS3, hS1⟩ := stri_b hkc
  have hkb : kc < 256 := by rcases hkc with e | e | e <;> omega
  intro k
  induction k with
  | zero => intro q h1; omega
  | succ k ih =>
    intro q0 h1 met c f I hR hp hq1 hm8 hM hf hd hFB hcell hoth
    obtain ⟨q, rfl⟩ : ∃ z, q0 = z + 1 := ⟨q0 - 1, by omega⟩
    have hWl : itW T n kc c ≤ stkL.getD (stri kc) 0 := spN_le _ _
    have hn0 := hM.2.2.2.2.2.1
    refine Sx.iload dX12_readItems_45 rfl ?_
    refine Sx.iconst (v := (iI (-1))) dX12_readItems_47 (by decide) ?_
    refine Sx.icmp_eqV (t := 148) dX12_readItems_48 (by decide) (vZ (by omega)) (vZ (by decide)) (fun c48 => ?_) (fun c48 => ?_)
    · refine Sx.vret dX12_readItems_148 rfl ?_
      rw [itR, if_pos (show itW T n kc c = 0 by omega)] at hR
      subst hR
      exact hyes rfl I hFB hM hf hd hcell hoth
    · refine Sx.aload_n dX12_readItems_51 rfl ?_
      refine Sx.getfV (v := (iI (-1))) dX12_readItems_52 lkf_X12_141_12 (o_253 W) hf ?_
      refine Sx.iconst (v := (iI (-1))) dX12_readItems_55 (by decide) ?_
      refine Sx.icmp_neV (t := 148) dX12_readItems_56 (by decide) (vZ (by decide)) (vZ (by decide)) (fun c56 => False.elim (by omega)) (fun c56 => ?_)
      have hw0 : itW T n kc c ≠ 0 := by omega
      have hpos := itW_pos hkc hw0
      have hw3 : itW T n kc c - 1 < 3 := by omega
      rw [itR, if_neg hw0] at hR
      refine Sx.sub' [(5, .int (nI met)), (6, .int (nI (itW T n kc c - 1))), (0, .ref 253), (1, .int (nI kc)), (2, .ref to), (3, .int (nI row)), (4, .ref (20 + stri kc))] (by rw [show iI ((itW T n kc c : Int) - 1) = nI (itW T n kc c - 1) from eZN (by omega)]; rfl) ?_
      refine Sx.iload dX12_readItems_59 rfl ?_
      refine Sx.iload dX12_readItems_61 rfl ?_
      refine Sx.callS2 dX12_readItems_63 lkc_X12_242  (by decide) (by decide) (Nat.le_of_ble_eq_true rfl) rfl rfl (k_has (by omega) (by omega) ?_)
      refine Sx.if_eqB (t := 75) dX12_readItems_66 (by decide) (fun c66 => ?_) (fun c66 => ?_)
      · refine Sx.iload dX12_readItems_75 rfl ?_
        refine Sx.iconst (v := (nI 1)) dX12_readItems_77 (by decide) ?_
        refine Sx.iload dX12_readItems_78 rfl ?_
        refine Sx.ishl1 dX12_readItems_80 (by omega) ?_
        refine Sx.iorN dX12_readItems_81 ?_
        refine Sx.istore (lv' := [(5, .int (nI (met ||| (2 ^ (itW T n kc c - 1))))), (6, .int (nI (itW T n kc c - 1))), (0, .ref 253), (1, .int (nI kc)), (2, .ref to), (3, .int (nI row)), (4, .ref (20 + stri kc))]) dX12_readItems_82 (by decide) rfl ?_
        refine Sx.aload_n dX12_readItems_84 rfl ?_
        refine Sx.dup dX12_readItems_85 rfl ?_
        refine Sx.getfV (v := (nI (nx T n c))) dX12_readItems_86 lkf_X12_132_12 (o_253 W) hM.at_ ?_
        refine Sx.iconst (v := (nI 1)) dX12_readItems_89 (by decide) ?_
        refine Sx.iaddN dX12_readItems_90 ?_
        refine Sx.putfV dX12_readItems_91 lkp_X12_132_12 (o_253 W) rfl rfl (fun I1 e1 o1 => ?_)
        have hM1 : MR R I1 tx b n ((nx T n c) + 1) T := hM.mv ((nx T n c) + 1) (by omega) (FA.up (by decide) e1 o1) (by rw [e1, upd_at])
        have hF1 := (hFB).tr (FB.of (FA.up (by decide) e1 o1))
        have hf1 := Eq.trans (by rw [e1, upd_nj _ _ (by decide)] : I1 253 11 = I 253 11) hf
        have hd1 := Eq.trans (by rw [e1, upd_nj _ _ (by decide)] : I1 253 12 = I 253 12) hd
        have hk1 := lkN_or T n ((nx T n c) + 1)
        have ht1 := hM1.2.2.2.2.2.2.2.1 ((nx T n c) + 1)
        have hc1 := hM1.2.2.2.2.2.2.1
        have hn1 := hM1.2.2.2.2.2.1
        have hs1 := sgn_or T n ((nx T n c) + 1)
        refine Sx.aload_n dX12_readItems_94 rfl ?_
        refine Sx.iload_n dX12_readItems_95 rfl ?_
        refine Sx.iload dX12_readItems_96 rfl ?_
        refine Sx.iaddN dX12_readItems_98 ?_
        refine Sx.aload_n dX12_readItems_99 rfl ?_
        refine Sx.iload_n dX12_readItems_100 rfl ?_
        refine Sx.bipush (v := (nI 115)) dX12_readItems_101 (by decide) ?_
        refine Sx.icmp_neV (t := 115) dX12_readItems_103 (by decide) (vN (by omega)) (vN (by decide)) (fun c103 => ?_) (fun c103 => ?_)
        · refine Sx.iconst (v := (nI 0)) dX12_readItems_115 (by decide) ?_
          have hlo : loN kc (itW T n kc c - 1) = 0 := by unfold loN; first | rw [if_neg (by omega)] | rw [if_pos (by omega)]
          refine Sx.iload_n dX12_readItems_116 rfl ?_
          refine Sx.iload dX12_readItems_117 rfl ?_
          refine Sx.callS2 dX12_readItems_119 lkc_X12_246  (by decide) (by decide) (Nat.le_of_ble_eq_true rfl) rfl rfl (k_mostOf (by omega) (by omega) ?_)
          refine Sx.callV2 dX12_readItems_122 lkv_X12_249 (rcv_12 (o_253 W)) (by decide) (by decide) (Nat.le_of_ble_eq_true rfl) rfl rfl (k_number W hM1 hf1 hd1 (by decide) (mostN_b _ _) (fun x2 I2 g2 f2 v2 => ?_) (fun x2 I2 g2 hM2 f2 d2 => ?_))
          · skip
            have hF2 := (hF1).tr (FB.of g2)
            have hrb2 := rdP_b T n ((nx T n c) + 1) 2 0 (mostN kc (itW T n kc c - 1))
            refine Sx.iastN dX12_readItems_125 hA (by omega) hN (fun I3 e3 o3 => ?_)
            have hF3 := (hF2).tr (FB.ar o3)
            have hf3 := Eq.trans (by rw [o3 _ (by omega)] : I3 253 11 = I2 253 11) f2
            refine Sx.aload_n dX12_readItems_126 rfl ?_
            refine Sx.getfV (v := (nI (rdP T n ((nx T n c) + 1) 2 0 (mostN kc (itW T n kc c - 1))))) dX12_readItems_127 lkf_X12_141_12 (o_253 W) hf3 ?_
            refine Sx.iconst (v := (iI (-1))) dX12_readItems_130 (by decide) ?_
            refine Sx.icmp_neV (t := 45) dX12_readItems_131 (by decide) (vN (by omega)) (vZ (by decide)) (fun c131 => ?_) (fun c131 => False.elim (by omega))
            refine Sx.iload dX12_readItems_45 rfl ?_
            refine Sx.iconst (v := (iI (-1))) dX12_readItems_47 (by decide) ?_
            refine Sx.icmp_eqV (t := 148) dX12_readItems_48 (by decide) (vN (by omega)) (vZ (by decide)) (fun c48 => False.elim (by omega)) (fun c48 => ?_)
            refine Sx.aload_n dX12_readItems_51 rfl ?_
            refine Sx.getfV (v := (nI (rdP T n ((nx T n c) + 1) 2 0 (mostN kc (itW T n kc c - 1))))) dX12_readItems_52 lkf_X12_141_12 (o_253 W) hf3 ?_
            refine Sx.iconst (v := (iI (-1))) dX12_readItems_55 (by decide) ?_
            refine Sx.icmp_neV (t := 148) dX12_readItems_56 (by decide) (vN (by omega)) (vZ (by decide)) (fun c56 => ?_) (fun c56 => False.elim (by omega))
            refine Sx.vret dX12_readItems_148 rfl ?_
            rw [if_neg (by rw [c66]; decide), hlo, if_neg (by rw [x2]; decide)] at hR
            subst hR
            exact hno rfl I3 hF3 hf3 (fun z hz => by rw [e3, g2.1 to (by omega), o1 to (by omega), upd_nj _ _ (by omega)]; exact hoth z hz)
          · skip
            have hF2 := (hF1).tr (FB.of g2)
            have hk2 := lkN_or T n (rdE T n ((nx T n c) + 1) 2)
            have ht2 := hM2.2.2.2.2.2.2.2.1 (rdE T n ((nx T n c) + 1) 2)
            have hc2 := hM2.2.2.2.2.2.2.1
            have hn2 := hM2.2.2.2.2.2.1
            have hs2 := sgn_or T n (rdE T n ((nx T n c) + 1) 2)
            refine Sx.iastN dX12_readItems_125 hA (by omega) hN (fun I4 e4 o4 => ?_)
            have hF4 := (hF2).tr (FB.ar o4)
            have hf4 := Eq.trans (by rw [o4 _ (by omega)] : I4 253 11 = I2 253 11) f2
            have hM4 : MR R I4 tx b n (rdE T n ((nx T n c) + 1) 2) T := hM2.mvB (rdE T n ((nx T n c) + 1) 2) (by omega) (FB.ar o4) (by omega) (by rw [o4 _ (by omega)]; exact hM2.at_)
            have hd4 := Eq.trans (by rw [o4 _ (by omega)] : I4 253 12 = I2 253 12) d2
            refine Sx.aload_n dX12_readItems_126 rfl ?_
            refine Sx.getfV (v := (iI (-1))) dX12_readItems_127 lkf_X12_141_12 (o_253 W) hf4 ?_
            refine Sx.iconst (v := (iI (-1))) dX12_readItems_130 (by decide) ?_
            refine Sx.icmp_neV (t := 45) dX12_readItems_131 (by decide) (vZ (by decide)) (vZ (by decide)) (fun c131 => False.elim (by omega)) (fun c131 => ?_)
            refine Sx.aload dX12_readItems_134 rfl ?_
            refine Sx.aload_n dX12_readItems_136 rfl ?_
            refine Sx.callV0 dX12_readItems_137 lkv_X12_151 (rcv_12 (o_253 W)) (by decide) (by decide) (Nat.le_of_ble_eq_true rfl) rfl rfl (k_look W hM4 (fun I5 hM5 g5 f5 d5 => ?_))
            have hF5 := (hF4).tr (FB.of g5)
            have hf5 := f5.trans hf4
            have hd5 := d5.trans hd4
            have hx5 := nx_b T n (rdE T n ((nx T n c) + 1) 2)
            have hk5 := lkN_or T n (nx T n (rdE T n ((nx T n c) + 1) 2))
            have ht5 := hM5.2.2.2.2.2.2.2.1 (nx T n (rdE T n ((nx T n c) + 1) 2))
            have hc5 := hM5.2.2.2.2.2.2.1
            have hn5 := hM5.2.2.2.2.2.1
            have hs5 := sgn_or T n (nx T n (rdE T n ((nx T n c) + 1) 2))
            refine Sx.callS2 dX12_readItems_140 lkc_X12_238  (by decide) (by decide) (Nat.le_of_ble_eq_true rfl) rfl rfl (k_spotLk hS6 ?_)
            refine Sx.istore (lv' := [(6, .int (iI ((itW T n kc (rdE T n ((nx T n c) + 1) 2) : Int) - 1))), (5, .int (nI (met ||| (2 ^ (itW T n kc c - 1))))), (0, .ref 253), (1, .int (nI kc)), (2, .ref to), (3, .int (nI row)), (4, .ref (20 + stri kc))]) dX12_readItems_143 (by decide) rfl ?_
            refine Sx.goto (t := 45) dX12_readItems_145 (by decide) ?_
            refine Sx.sub' [(5, .int (nI (met ||| 2 ^ (itW T n kc c - 1)))), (6, .int (iI ((itW T n kc (rdE T n (nx T n c + 1) 2) : Int) - 1))), (0, .ref 253), (1, .int (nI kc)), (2, .ref to), (3, .int (nI row)), (4, .ref (20 + stri kc))] rfl ?_
            have hp3 := pop3_up met hm8 _ hw3 c66
            rw [if_neg (by rw [c66]; decide), hlo, if_pos x2] at hR
            have hp4 := pop3_le _ hp3.2
            refine ih q (by omega) _ _ _ I5 hR (by omega) (by omega) hp3.2 hM5 hf5 hd5 hF5 (fun z hz => ?_) (fun z hz => ?_)
            · rw [g5.1 to (by omega), e4, g2.1 to (by omega), o1 to (by omega)]
              unfold upn
              by_cases e : z = itW T n kc c - 1
              · rw [if_pos e, e, upd_at]
              · rw [if_neg e, upd_nj _ _ (by omega)]; exact hcell z (by omega)
            · rw [g5.1 to (by omega), e4, g2.1 to (by omega), o1 to (by omega), upd_nj _ _ (by omega)]; exact hoth z hz
        · refine Sx.iload dX12_readItems_106 rfl ?_
          refine Sx.if_neV (t := 115) dX12_readItems_108 (by decide) (vN (by omega)) (fun c108 => ?_) (fun c108 => ?_)
          · refine Sx.iconst (v := (nI 0)) dX12_readItems_115 (by decide) ?_
            have hlo : loN kc (itW T n kc c - 1) = 0 := by unfold loN; first | rw [if_neg (by omega)] | rw [if_pos (by omega)]
            refine Sx.iload_n dX12_readItems_116 rfl ?_
            refine Sx.iload dX12_readItems_117 rfl ?_
            refine Sx.callS2 dX12_readItems_119 lkc_X12_246  (by decide) (by decide) (Nat.le_of_ble_eq_true rfl) rfl rfl (k_mostOf (by omega) (by omega) ?_)
            refine Sx.callV2 dX12_readItems_122 lkv_X12_249 (rcv_12 (o_253 W)) (by decide) (by decide) (Nat.le_of_ble_eq_true rfl) rfl rfl (k_number W hM1 hf1 hd1 (by decide) (mostN_b _ _) (fun x6 I6 g6 f6 v6 => ?_) (fun x6 I6 g6 hM6 f6 d6 => ?_))
            · skip
              have hF6 := (hF1).tr (FB.of g6)
              have hrb6 := rdP_b T n ((nx T n c) + 1) 2 0 (mostN kc (itW T n kc c - 1))
              refine Sx.iastN dX12_readItems_125 hA (by omega) hN (fun I7 e7 o7 => ?_)
              have hF7 := (hF6).tr (FB.ar o7)
              have hf7 := Eq.trans (by rw [o7 _ (by omega)] : I7 253 11 = I6 253 11) f6
              refine Sx.aload_n dX12_readItems_126 rfl ?_
              refine Sx.getfV (v := (nI (rdP T n ((nx T n c) + 1) 2 0 (mostN kc (itW T n kc c - 1))))) dX12_readItems_127 lkf_X12_141_12 (o_253 W) hf7 ?_
              refine Sx.iconst (v := (iI (-1))) dX12_readItems_130 (by decide) ?_
              refine Sx.icmp_neV (t := 45) dX12_readItems_131 (by decide) (vN (by omega)) (vZ (by decide)) (fun c131 => ?_) (fun c131 => False.elim (by omega))
              refine Sx.iload dX12_readItems_45 rfl ?_
              refine Sx.iconst (v := (iI (-1))) dX12_readItems_47 (by decide) ?_
              refine Sx.icmp_eqV (t := 148) dX12_readItems_48 (by decide) (vN (by omega)) (vZ (by decide)) (fun c48 => False.elim (by omega)) (fun c48 => ?_)
              refine Sx.aload_n dX12_readItems_51 rfl ?_
              refine Sx.getfV (v := (nI (rdP T n ((nx T n c) + 1) 2 0 (mostN kc (itW T n kc c - 1))))) dX12_readItems_52 lkf_X12_141_12 (o_253 W) hf7 ?_
              refine Sx.iconst (v := (iI (-1))) dX12_readItems_55 (by decide) ?_
              refine Sx.icmp_neV (t := 148) dX12_readItems_56 (by decide) (vN (by omega)) (vZ (by decide)) (fun c56 => ?_) (fun c56 => False.elim (by omega))
              refine Sx.vret dX12_readItems_148 rfl ?_
              rw [if_neg (by rw [c66]; decide), hlo, if_neg (by rw [x6]; decide)] at hR
              subst hR
              exact hno rfl I7 hF7 hf7 (fun z hz => by rw [e7, g6.1 to (by omega), o1 to (by omega), upd_nj _ _ (by omega)]; exact hoth z hz)
            · skip
              have hF6 := (hF1).tr (FB.of g6)
              have hk6 := lkN_or T n (rdE T n ((nx T n c) + 1) 2)
              have ht6 := hM6.2.2.2.2.2.2.2.1 (rdE T n ((nx T n c) + 1) 2)
              have hc6 := hM6.2.2.2.2.2.2.1
              have hn6 := hM6.2.2.2.2.2.1
              have hs6 := sgn_or T n (rdE T n ((nx T n c) + 1) 2)
              refine Sx.iastN dX12_readItems_125 hA (by omega) hN (fun I8 e8 o8 => ?_)
              have hF8 := (hF6).tr (FB.ar o8)
              have hf8 := Eq.trans (by rw [o8 _ (by omega)] : I8 253 11 = I6 253 11) f6
              have hM8 : MR R I8 tx b n (rdE T n ((nx T n c) + 1) 2) T := hM6.mvB (rdE T n ((nx T n c) + 1) 2) (by omega) (FB.ar o8) (by omega) (by rw [o8 _ (by omega)]; exact hM6.at_)
              have hd8 := Eq.trans (by rw [o8 _ (by omega)] : I8 253 12 = I6 253 12) d6
              refine Sx.aload_n dX12_readItems_126 rfl ?_
              refine Sx.getfV (v := (iI (-1))) dX12_readItems_127 lkf_X12_141_12 (o_253 W) hf8 ?_
              refine Sx.iconst (v := (iI (-1))) dX12_readItems_130 (by decide) ?_
              refine Sx.icmp_neV (t := 45) dX12_readItems_131 (by decide) (vZ (by decide)) (vZ (by decide)) (fun c131 => False.elim (by omega)) (fun c131 => ?_)
              refine Sx.aload dX12_readItems_134 rfl ?_
              refine Sx.aload_n dX12_readItems_136 rfl ?_
              refine Sx.callV0 dX12_readItems_137 lkv_X12_151 (rcv_12 (o_253 W)) (by decide) (by decide) (Nat.le_of_ble_eq_true rfl) rfl rfl (k_look W hM8 (fun I9 hM9 g9 f9 d9 => ?_))
              have hF9 := (hF8).tr (FB.of g9)
              have hf9 := f9.trans hf8
              have hd9 := d9.trans hd8
              have hx9 := nx_b T n (rdE T n ((nx T n c) + 1) 2)
              have hk9 := lkN_or T n (nx T n (rdE T n ((nx T n c) + 1) 2))
              have ht9 := hM9.2.2.2.2.2.2.2.1 (nx T n (rdE T n ((nx T n c) + 1) 2))
              have hc9 := hM9.2.2.2.2.2.2.1
              have hn9 := hM9.2.2.2.2.2.1
              have hs9 := sgn_or T n (nx T n (rdE T n ((nx T n c) + 1) 2))
              refine Sx.callS2 dX12_readItems_140 lkc_X12_238  (by decide) (by decide) (Nat.le_of_ble_eq_true rfl) rfl rfl (k_spotLk hS6 ?_)
              refine Sx.istore (lv' := [(6, .int (iI ((itW T n kc (rdE T n ((nx T n c) + 1) 2) : Int) - 1))), (5, .int (nI (met ||| (2 ^ (itW T n kc c - 1))))), (0, .ref 253), (1, .int (nI kc)), (2, .ref to), (3, .int (nI row)), (4, .ref (20 + stri kc))]) dX12_readItems_143 (by decide) rfl ?_
              refine Sx.goto (t := 45) dX12_readItems_145 (by decide) ?_
              refine Sx.sub' [(5, .int (nI (met ||| 2 ^ (itW T n kc c - 1)))), (6, .int (iI ((itW T n kc (rdE T n (nx T n c + 1) 2) : Int) - 1))), (0, .ref 253), (1, .int (nI kc)), (2, .ref to), (3, .int (nI row)), (4, .ref (20 + stri kc))] rfl ?_
              have hp3 := pop3_up met hm8 _ hw3 c66
              rw [if_neg (by rw [c66]; decide), hlo, if_pos x6] at hR
              have hp4 := pop3_le _ hp3.2
              refine ih q (by omega) _ _ _ I9 hR (by omega) (by omega) hp3.2 hM9 hf9 hd9 hF9 (fun z hz => ?_) (fun z hz => ?_)
              · rw [g9.1 to (by omega), e8, g6.1 to (by omega), o1 to (by omega)]
                unfold upn
                by_cases e : z = itW T n kc c - 1
                · rw [if_pos e, e, upd_at]
                · rw [if_neg e, upd_nj _ _ (by omega)]; exact hcell z (by omega)
              · rw [g9.1 to (by omega), e8, g6.1 to (by omega), o1 to (by omega), upd_nj _ _ (by omega)]; exact hoth z hz
          · refine Sx.iconst (v := (nI 2)) dX12_readItems_111 (by decide) ?_
            refine Sx.goto (t := 116) dX12_readItems_112 (by decide) ?_
            have hlo : loN kc (itW T n kc c - 1) = 2 := by unfold loN; first | rw [if_neg (by omega)] | rw [if_pos (by omega)]
            refine Sx.iload_n dX12_readItems_116 rfl ?_
            refine Sx.iload dX12_readItems_117 rfl ?_
            refine Sx.callS2 dX12_readItems_119 lkc_X12_246  (by decide) (by decide) (Nat.le_of_ble_eq_true rfl) rfl rfl (k_mostOf (by omega) (by omega) ?_)
            refine Sx.callV2 dX12_readItems_122 lkv_X12_249 (rcv_12 (o_253 W)) (by decide) (by decide) (Nat.le_of_ble_eq_true rfl) rfl rfl (k_number W hM1 hf1 hd1 (by decide) (mostN_b _ _) (fun x10 I10 g10 f10 v10 => ?_) (fun x10 I10 g10 hM10 f10 d10 => ?_))
            · skip
              have hF10 := (hF1).tr (FB.of g10)
              have hrb10 := rdP_b T n ((nx T n c) + 1) 2 2 (mostN kc (itW T n kc c - 1))
              refine Sx.iastN dX12_readItems_125 hA (by omega) hN (fun I11 e11 o11 => ?_)
              have hF11 := (hF10).tr (FB.ar o11)
              have hf11 := Eq.trans (by rw [o11 _ (by omega)] : I11 253 11 = I10 253 11) f10
              refine Sx.aload_n dX12_readItems_126 rfl ?_
              refine Sx.getfV (v := (nI (rdP T n ((nx T n c) + 1) 2 2 (mostN kc (itW T n kc c - 1))))) dX12_readItems_127 lkf_X12_141_12 (o_253 W) hf11 ?_
              refine Sx.iconst (v := (iI (-1))) dX12_readItems_130 (by decide) ?_
              refine Sx.icmp_neV (t := 45) dX12_readItems_131 (by decide) (vN (by omega)) (vZ (by decide)) (fun c131 => ?_) (fun c131 => False.elim (by omega))
              refine Sx.iload dX12_readItems_45 rfl ?_
              refine Sx.iconst (v := (iI (-1))) dX12_readItems_47 (by decide) ?_
              refine Sx.icmp_eqV (t := 148) dX12_readItems_48 (by decide) (vN (by omega)) (vZ (by decide)) (fun c48 => False.elim (by omega)) (fun c48 => ?_)
              refine Sx.aload_n dX12_readItems_51 rfl ?_
              refine Sx.getfV (v := (nI (rdP T n ((nx T n c) + 1) 2 2 (mostN kc (itW T n kc c - 1))))) dX12_readItems_52 lkf_X12_141_12 (o_253 W) hf11 ?_
              refine Sx.iconst (v := (iI (-1))) dX12_readItems_55 (by decide) ?_
              refine Sx.icmp_neV (t := 148) dX12_readItems_56 (by decide) (vN (by omega)) (vZ (by decide)) (fun c56 => ?_) (fun c56 => False.elim (by omega))
              refine Sx.vret dX12_readItems_148 rfl ?_
              rw [if_neg (by rw [c66]; decide), hlo, if_neg (by rw [x10]; decide)] at hR
              subst hR
              exact hno rfl I11 hF11 hf11 (fun z hz => by rw [e11, g10.1 to (by omega), o1 to (by omega), upd_nj _ _ (by omega)]; exact hoth z hz)
            · skip
              have hF10 := (hF1).tr (FB.of g10)
              have hk10 := lkN_or T n (rdE T n ((nx T n c) + 1) 2)
              have ht10 := hM10.2.2.2.2.2.2.2.1 (rdE T n ((nx T n c) + 1) 2)
              have hc10 := hM10.2.2.2.2.2.2.1
              have hn10 := hM10.2.2.2.2.2.1
              have hs10 := sgn_or T n (rdE T n ((nx T n c) + 1) 2)
              refine Sx.iastN dX12_readItems_125 hA (by omega) hN (fun I12 e12 o12 => ?_)
              have hF12 := (hF10).tr (FB.ar o12)
              have hf12 := Eq.trans (by rw [o12 _ (by omega)] : I12 253 11 = I10 253 11) f10
              have hM12 : MR R I12 tx b n (rdE T n ((nx T n c) + 1) 2) T := hM10.mvB (rdE T n ((nx T n c) + 1) 2) (by omega) (FB.ar o12) (by omega) (by rw [o12 _ (by omega)]; exact hM10.at_)
              have hd12 := Eq.trans (by rw [o12 _ (by omega)] : I12 253 12 = I10 253 12) d10
              refine Sx.aload_n dX12_readItems_126 rfl ?_
              refine Sx.getfV (v := (iI (-1))) dX12_readItems_127 lkf_X12_141_12 (o_253 W) hf12 ?_
              refine Sx.iconst (v := (iI (-1))) dX12_readItems_130 (by decide) ?_
              refine Sx.icmp_neV (t := 45) dX12_readItems_131 (by decide) (vZ (by decide)) (vZ (by decide)) (fun c131 => False.elim (by omega)) (fun c131 => ?_)
              refine Sx.aload dX12_readItems_134 rfl ?_
              refine Sx.aload_n dX12_readItems_136 rfl ?_
              refine Sx.callV0 dX12_readItems_137 lkv_X12_151 (rcv_12 (o_253 W)) (by decide) (by decide) (Nat.le_of_ble_eq_true rfl) rfl rfl (k_look W hM12 (fun I13 hM13 g13 f13 d13 => ?_))
              have hF13 := (hF12).tr (FB.of g13)
              have hf13 := f13.trans hf12
              have hd13 := d13.trans hd12
              have hx13 := nx_b T n (rdE T n ((nx T n c) + 1) 2)
              have hk13 := lkN_or T n (nx T n (rdE T n ((nx T n c) + 1) 2))
              have ht13 := hM13.2.2.2.2.2.2.2.1 (nx T n (rdE T n ((nx T n c) + 1) 2))
              have hc13 := hM13.2.2.2.2.2.2.1
              have hn13 := hM13.2.2.2.2.2.1
              have hs13 := sgn_or T n (nx T n (rdE T n ((nx T n c) + 1) 2))
              refine Sx.callS2 dX12_readItems_140 lkc_X12_238  (by decide) (by decide) (Nat.le_of_ble_eq_true rfl) rfl rfl (k_spotLk hS6 ?_)
              refine Sx.istore (lv' := [(6, .int (iI ((itW T n kc (rdE T n ((nx T n c) + 1) 2) : Int) - 1))), (5, .int (nI (met ||| (2 ^ (itW T n kc c - 1))))), (0, .ref 253), (1, .int (nI kc)), (2, .ref to), (3, .int (nI row)), (4, .ref (20 + stri kc))]) dX12_readItems_143 (by decide) rfl ?_
              refine Sx.goto (t := 45) dX12_readItems_145 (by decide) ?_
              refine Sx.sub' [(5, .int (nI (met ||| 2 ^ (itW T n kc c - 1)))), (6, .int (iI ((itW T n kc (rdE T n (nx T n c + 1) 2) : Int) - 1))), (0, .ref 253), (1, .int (nI kc)), (2, .ref to), (3, .int (nI row)), (4, .ref (20 + stri kc))] rfl ?_
              have hp3 := pop3_up met hm8 _ hw3 c66
              rw [if_neg (by rw [c66]; decide), hlo, if_pos x10] at hR
              have hp4 := pop3_le _ hp3.2
              refine ih q (by omega) _ _ _ I13 hR (by omega) (by omega) hp3.2 hM13 hf13 hd13 hF13 (fun z hz => ?_) (fun z hz => ?_)
              · rw [g13.1 to (by omega), e12, g10.1 to (by omega), o1 to (by omega)]
                unfold upn
                by_cases e : z = itW T n kc c - 1
                · rw [if_pos e, e, upd_at]
                · rw [if_neg e, upd_nj _ _ (by omega)]; exact hcell z (by omega)
              · rw [g13.1 to (by omega), e12, g10.1 to (by omega), o1 to (by omega), upd_nj _ _ (by omega)]; exact hoth z hz
      · refine Sx.aload_n dX12_readItems_69 rfl ?_
        refine Sx.callV0 dX12_readItems_70 lkv_X12_147 (rcv_12 (o_253 W)) (by decide) (by decide) (Nat.le_of_ble_eq_true rfl) rfl rfl (k_fails W hM hf (fun I14 g14 f14 d14 a14 => ?_))
        have hF14 := (hFB).tr (FB.of g14)
        refine Sx.pop dX12_readItems_73 rfl ?_
        refine Sx.vret dX12_readItems_74 rfl ?_
        rw [if_pos c66] at hR
        subst hR
        exact hno rfl I14 hF14 f14 (fun z hz => by rw [g14.1 to (by omega)]; exact hoth z hz)
set_option maxRecDepth 20000 in
set_option maxHeartbeats 1000000 in
theorem k_readItems {G : Gt} {l : Launch} {Z : Zt} {R : Rt} {I : It} {L : Lt} {post : Pt'} {tx b n c dp to N row kc : Nat} {T : Nat → Nat} {r : Bool × Nat × (Nat → Nat)} (W : WF Z R) (hM : MR R I tx b n c T) (hf : I 253 11 = iI (-1)) (hd : I 253 12 = nI dp) (hto : to = 259 ∨ to = 261 ∨ to = 263) (hA : ar Z to 50 N) (hrow : row + stkL.getD (stri kc) 0 ≤ N) (hN : N < 2147483648) (hkc : kcO kc) (hR : itR T n kc 4 0 c (usualN kc) = r) (hno : r.1 = false → ∀ I', FB to I I' → I' 253 11 = nI r.2.1 → (∀ z, z < row ∨ row + stkL.getD (stri kc) 0 ≤ z → I' to z = I to z) → post none Z R I' L) (hyes : r.1 = true → ∀ I', FB to I I' → MR R I' tx b n r.2.1 T → I' 253 11 = iI (-1) → I' 253 12 = nI dp → (∀ z, z < stkL.getD (stri kc) 0 → I' to (row + z) = nI (r.2.2 z)) → (∀ z, z < row ∨ row + stkL.getD (stri kc) 0 ≤ z → I' to z = I to z) → post none Z R I' L) : Cx G l mX12_readItems 6 0 0 [.ref 253, .int (nI kc), .ref to, .int (nI row), .ref (20 + stri kc)] Z R I L post := by
  refine Cx.of (by decide +kernel) (by exact Nat.le_of_ble_eq_true rfl) ?_
  obtain ⟨hS6, hS3, hS1⟩ := stri_b hkc
  refine Sx.iconst (v := (nI 0)) dX12_readItems_0 (by decide) ?_
  refine Sx.istore (lv' := [(5, .int (nI 0)), (0, .ref 253), (1, .int (nI kc)), (2, .ref to), (3, .int (nI row)), (4, .ref (20 + stri kc))]) dX12_readItems_1 (by decide) rfl ?_
  refine Sx.sub' [(5, .int (nI 0)), (0, .ref 253), (1, .int (nI kc)), (2, .ref to), (3, .int (nI row)), (4, .ref (20 + stri kc))] rfl ?_
  refine l_usu W hto hA hrow hN hkc (I0 := I) (fun I1 v0 hu ho hI => ?_) (stkL.getD (stri kc) 0 + 1) 0 (by omega) (by omega) I (fun z hz => by omega) (fun _ _ => rfl) (fun _ _ => rfl)
  have hF1 : FB to I I1 := FB.ar hI
  have hM1 : MR R I1 tx b n c T := hM.mvB c hM.2.2.2.2.2.2.1 hF1 (by omega) (by rw [hI _ (by omega)]; exact hM.at_)
  have hf1 : I1 253 11 = iI (-1) := by rw [hI _ (by omega)]; exact hf
  have hd1 : I1 253 12 = nI dp := by rw [hI _ (by omega)]; exact hd
  refine Sx.iconst (v := (nI 0)) dX12_readItems_31 (by decide) ?_
  refine Sx.istore (lv' := [(5, .int (nI 0)), (0, .ref 253), (1, .int (nI kc)), (2, .ref to), (3, .int (nI row)), (4, .ref (20 + stri kc))]) dX12_readItems_32 (by decide) rfl ?_
  refine Sx.aload dX12_readItems_34 rfl ?_
  refine Sx.aload_n dX12_readItems_36 rfl ?_
  refine Sx.callV0 dX12_readItems_37 lkv_X12_151 (rcv_12 (o_253 W)) (by decide) (by decide) (Nat.le_of_ble_eq_true rfl) rfl rfl (k_look W hM1 (fun I2 hM2 g2 f2 d2 => ?_))
  have hF2 := (hF1).tr (FB.of g2)
  have hf2 := f2.trans hf1
  have hd2 := d2.trans hd1
  have hx2 := nx_b T n c
  have hk2 := lkN_or T n (nx T n c)
  have ht2 := hM2.2.2.2.2.2.2.2.1 (nx T n c)
  have hc2 := hM2.2.2.2.2.2.2.1
  have hn2 := hM2.2.2.2.2.2.1
  have hs2 := sgn_or T n (nx T n c)
  refine Sx.callS2 dX12_readItems_40 lkc_X12_238  (by decide) (by decide) (Nat.le_of_ble_eq_true rfl) rfl rfl (k_spotLk hS6 ?_)
  refine Sx.istore (lv' := [(6, .int (iI ((itW T n kc c : Int) - 1))), (5, .int (nI 0)), (0, .ref 253), (1, .int (nI kc)), (2, .ref to), (3, .int (nI row)), (4, .ref (20 + stri kc))]) dX12_readItems_43 (by decide) rfl ?_
  refine Sx.sub' [(5, .int (nI 0)), (6, .int (iI ((itW T n kc c : Int) - 1))), (0, .ref 253), (1, .int (nI kc)), (2, .ref to), (3, .int (nI row)), (4, .ref (20 + stri kc))] rfl ?_
  exact l_items W hto hA hrow hN hkc hno hyes 5 4 (by decide) 0 c (usualN kc) I2 hR (by decide) (by decide) (by decide) hM2 hf2 hd2 hF2 (fun z hz => by rw [g2.1 to (by omega)]; exact hu z hz) (fun z hz => by rw [g2.1 to (by omega)]; exact ho z hz)
