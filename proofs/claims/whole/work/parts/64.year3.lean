/-! a year's end of the reference; a day's doings by digits -/
theorem dn_or {a b k : Nat} (h : a < 2 ^ k) : a ||| b * 2 ^ k = a + b * 2 ^ k := by
  rw [Nat.or_comm, Nat.mul_comm b, ← Nat.two_pow_add_eq_or_of_lt h, Nat.add_comm]
theorem dn_s {F : Nat → Nat} (hF : ∀ p, p < 6 → F p < 6) {n : Nat} (hn : n < 6) : ∃ v, dnN F (n + 1) = dnN F n + v * 2 ^ (3 * n) ∧ dnN F n < 2 ^ (3 * n) ∧ v = if hbN (F 138) n = true then 0 else F n + 1 := by
  have h1 := dnN_lt hF n (by omega)
  by_cases c : hbN (F 138) n = true
  · exact ⟨0, by rw [dnN, if_pos c]; simp, h1, by rw [if_pos c]⟩
  · exact ⟨F n + 1, by rw [dnN, if_neg c, dn_or h1], h1, by rw [if_neg c]⟩
theorem dig_s (A v : Nat) (hv : v ≤ 6) {n p : Nat} (hn : n < 6) (hp : p < 6) (hA : A < 2 ^ (3 * n)) : (A + v * 2 ^ (3 * n)) / 2 ^ (3 * p) % 8 = if p = n then v else A / 2 ^ (3 * p) % 8 := by
  have hn' : n = 0 ∨ n = 1 ∨ n = 2 ∨ n = 3 ∨ n = 4 ∨ n = 5 := by omega
  have hp' : p = 0 ∨ p = 1 ∨ p = 2 ∨ p = 3 ∨ p = 4 ∨ p = 5 := by omega
  rcases hn' with e | e | e | e | e | e <;> subst e <;> rcases hp' with e | e | e | e | e | e <;> subst e <;> simp at hA ⊢ <;> omega
theorem dig_n {A n : Nat} (hn : n < 6) (hA : A < 2 ^ (3 * n)) : A / 2 ^ (3 * n) % 8 = 0 := by rw [Nat.div_eq_of_lt hA]
theorem do_s {F : Nat → Nat} (hF : ∀ p, p < 6 → F p < 6) {n : Nat} (hn : n < 6) (k : Nat) : ∀ m, m ≤ 6 → doN (dnN F (n + 1)) k m = doN (dnN F n) k m ||| (if n < m ∧ ¬ hbN (F 138) n = true ∧ F n = k then 2 ^ n else 0)
  | 0, _ => by simp [doN]
  | m + 1, hm => by
    have ih := do_s hF hn k m (by omega)
    obtain ⟨v, e1, e2, e3⟩ := dn_s hF hn
    have hv : v ≤ 6 := by
      have := hF n hn
      rw [e3]
      split <;> omega
    have hd := dig_s (dnN F n) v hv hn (show m < 6 by omega) e2
    rw [← e1] at hd
    rw [doN, doN, ih, hd]
    by_cases c : m = n
    · rw [if_pos c, c, dig_n hn e2]
      rw [if_neg (show ¬ (n < n ∧ ¬ hbN (F 138) n = true ∧ F n = k) from fun q => by omega), if_neg (show ¬ (0 = k + 1) by omega), Nat.or_zero]
      congr 1
      by_cases c2 : hbN (F 138) n = true
      · rw [if_neg (show ¬ (n < n + 1 ∧ ¬ hbN (F 138) n = true ∧ F n = k) from fun q => q.2.1 c2), if_neg (by rw [e3, if_pos c2]; omega)]
      · by_cases c3 : F n = k
        · rw [if_pos (show n < n + 1 ∧ ¬ hbN (F 138) n = true ∧ F n = k from ⟨by omega, c2, c3⟩), if_pos (by rw [e3, if_neg c2, c3])]
        · rw [if_neg (show ¬ (n < n + 1 ∧ ¬ hbN (F 138) n = true ∧ F n = k) from fun q => c3 q.2.2), if_neg (by rw [e3, if_neg c2]; omega)]
    · rw [if_neg c]
      have e4 : (n < m + 1 ∧ ¬ hbN (F 138) n = true ∧ F n = k) ↔ (n < m ∧ ¬ hbN (F 138) n = true ∧ F n = k) := ⟨fun q => ⟨by omega, q.2⟩, fun q => ⟨by omega, q.2⟩⟩
      rw [Nat.or_assoc, Nat.or_assoc, Nat.or_comm (if n < m ∧ _ then _ else _)]
      congr 2
      by_cases c4 : n < m ∧ ¬ hbN (F 138) n = true ∧ F n = k
      · rw [if_pos c4, if_pos (e4.mpr c4)]
      · rw [if_neg c4, if_neg (fun q => c4 (e4.mp q))]
set_option maxRecDepth 20000 in
set_option maxHeartbeats 1000000 in
theorem l_ey4 {G : Gt} {l : Launch} {Z : Zt} {R : Rt} {I : It} {L : Lt} {post : Pt'} {w : Nat} {Gg : Nat → Nat} (W : WF Z R) (hw : w = 266 ∨ w = 267) (hF : MW (I w) Gg) (h : ∀ I', MW (I' w) (upn (upn Gg 144 (Gg 144 + 1)) 145 0) → (∀ q, q ≠ 253 ∧ q ≠ w → I' q = I q) → (∀ z, I' 253 z = I 253 z) → (∀ z, 236 ≤ z → I' w z = I w z) → post none Z R I' L) : Sx G l mX12_endsYear 2 0 0 174 [(0, .ref 253), (1, .ref w)] [] Z R I L post := by
  obtain ⟨N, hA, hN1, hN2⟩ := wrow W hw
  refine Sx.aload_n dX12_endsYear_174 rfl ?_
  refine Sx.bipush (v := (nI 24)) dX12_endsYear_175 (by decide) ?_
  refine Sx.dup2 dX12_endsYear_177 rfl rfl ?_
  refine Sx.ialdN dX12_endsYear_178 hA (by omega) hN2 (v := (nI (Gg 144))) hF.2.2.2.2.2.2.2.1 ?_
  refine Sx.iconst (v := (nI 1)) dX12_endsYear_179 (by decide) ?_
  refine Sx.iaddN dX12_endsYear_180 ?_
  refine Sx.iastN dX12_endsYear_181 hA (by omega) hN2 (fun I1 e1 o1 => ?_)
  refine Sx.aload_n dX12_endsYear_182 rfl ?_
  refine Sx.bipush (v := (nI 25)) dX12_endsYear_183 (by decide) ?_
  refine Sx.iconst (v := (nI 0)) dX12_endsYear_185 (by decide) ?_
  refine Sx.iastN dX12_endsYear_186 hA (by omega) hN2 (fun I2 e2 o2 => ?_)
  refine Sx.vret dX12_endsYear_187 rfl ?_
  refine h I2 ?_ (fun q hq => by rw [o2 q hq.2, o1 q hq.2]) (fun z => by rw [o2 253 (by omega), o1 253 (by omega)]) (fun z hz => by rw [e2, upd_nj _ _ (by omega), e1, upd_nj _ _ (by omega)])
  rw [e2, e1]
  exact (hF.set (b := 144) (x := Gg 144 + 1) (by omega) (by rw [if_neg (by decide)])).set (b := 145) (x := 0) (by omega) (by rw [if_neg (by decide)])
theorem ey_fin {P F : Nat → Nat} {x a q : Nat} (hx : F (48 + (dkN F (F 145) - 1)) = x) (ha : amp (vcN x) (P 34) = a) (hz : F 140 = 0 ∧ F 141 = 0) (h34 : P 34 ≤ 6) (h35 : P 35 ≤ 6) (hq : q < 78 ∨ (138 ≤ q ∧ q < 146)) : eyN P F q = upn (upn (if a = 0 then upn (vo1 F x (P 34)) 143 a else ha1 P (upn (vo1 F x (P 34)) 143 a) (a - 1) (vcN x (a - 1)) (P 35)) 144 (F 144 + 1)) 145 0 q := by
  unfold eyN
  rw [hx]
  have e0 : ∀ G : Nat → Nat, ∀ v, upn G (78 + F 144 % 60) v q = G q := fun G v => by unfold upn; rw [if_neg (by omega)]
  rw [e0]
  unfold trnN
  rw [ha]
  have u1 : ∀ (G : Nat → Nat) (k v : Nat), q ≠ k → upn G k v q = G q := fun G k v h => by unfold upn; rw [if_neg h]
  have u2 : ∀ (G : Nat → Nat) (k v : Nat), q = k → upn G k v q = v := fun G k v h => by unfold upn; rw [if_pos h]
  by_cases c5 : q = 145
  · rw [u2 _ _ _ c5, if_neg (by omega), if_neg (by omega), if_pos (by omega)]
  rw [u1 _ _ _ c5]
  by_cases c4 : q = 144
  · rw [u2 _ _ _ c4, if_neg (by omega), if_neg (by omega), if_neg (by omega), if_neg (by omega), if_pos c4]
  rw [u1 _ _ _ c4]
  have hG : (if a = 0 then upn (vo1 F x (P 34)) 143 a else ha1 P (upn (vo1 F x (P 34)) 143 a) (a - 1) (vcN x (a - 1)) (P 35)) q = if q < P 35 ∧ a ≠ 0 ∧ P (21 + q) ≤ vcN x (a - 1) then a - 1 else upn (vo1 F x (P 34)) 143 a q := by
    by_cases a0 : a = 0
    · rw [if_pos a0, if_neg (fun z => z.2.1 a0)]
    · rw [if_neg a0]
      unfold ha1
      by_cases c : q < P 35 ∧ P (21 + q) ≤ vcN x (a - 1)
      · rw [if_pos c, if_pos ⟨c.1, a0, c.2⟩]
      · rw [if_neg c, if_neg (fun z => c ⟨z.1, z.2.2⟩)]
  rw [hG]
  by_cases c6 : q < 6
  · rw [if_pos c6]
    have e1 : upn (vo1 F x (P 34)) 143 a q = F q := by
      rw [u1 _ _ _ (by omega)]
      unfold vo1
      rw [if_neg (by omega)]
    rw [e1]
  · rw [if_neg c6, if_neg (show ¬ (q < P 35 ∧ a ≠ 0 ∧ P (21 + q) ≤ vcN x (a - 1)) from fun z => by omega)]
    by_cases c3 : q = 143
    · rw [u2 _ _ _ c3, if_neg (by omega), if_neg (by omega), if_pos c3]
    rw [u1 _ _ _ c3]
    unfold vo1
    by_cases c7 : 12 ≤ q ∧ q < 12 + P 34
    · rw [if_pos c7, if_pos c7]
    rw [if_neg c7, if_neg c7]
    by_cases c8 : q = 140 ∨ q = 141 ∨ q = 145
    · rw [if_pos c8]
      have c9 : q = 140 ∨ q = 141 := by omega
      rcases c9 with e | e
      · rw [e]; exact hz.1.symm
      · rw [e]; exact hz.2.symm
    · rw [if_neg c8, if_neg c3, if_neg c4]
theorem MI0.cg2 {V : Vt} {I I' : It} {L : Lt} (h : MI0 V I L) (o : ∀ q, q ≠ 253 → I' q = I q) (e : ∀ j, ¬ sfJ j → I' 253 j = I 253 j) : MI0 V I' L := by
  obtain ⟨a1, a2⟩ := h
  refine ⟨?_, ?_⟩
  · unfold MFd
    rw [e 6 (by unfold sfJ; omega), e 7 (by unfold sfJ; omega), e 26 (by unfold sfJ; omega), e 27 (by unfold sfJ; omega), e 30 (by unfold sfJ; omega), e 35 (by unfold sfJ; omega), e 36 (by unfold sfJ; omega), e 41 (by unfold sfJ; omega), e 45 (by unfold sfJ; omega), e 51 (by unfold sfJ; omega)]
    exact a1
  · rw [o 254 (by decide), o 255 (by decide), o 256 (by decide), o 257 (by decide), o 258 (by decide), o 260 (by decide), o 262 (by decide), o 264 (by decide), o 265 (by decide), o 268 (by decide), o 270 (by decide), o 271 (by decide), o 273 (by decide), o 278 (by decide)]
    exact a2
theorem MI0.cg3 {V : Vt} {I I' : It} {L : Lt} {w : Nat} (h : MI0 V I L) (hw : w = 266 ∨ w = 267) (o : ∀ q, q ≠ 253 ∧ q ≠ w → I' q = I q) (e : ∀ j, I' 253 j = I 253 j) : MI0 V I' L := by
  have e' : I' 253 = I 253 := funext e
  unfold MI0
  rw [e', o 254 (by omega), o 255 (by omega), o 256 (by omega), o 257 (by omega), o 258 (by omega), o 260 (by omega), o 262 (by omega), o 264 (by omega), o 265 (by omega), o 268 (by omega), o 270 (by omega), o 271 (by omega), o 273 (by omega), o 278 (by omega)]
  exact h
set_option maxRecDepth 20000 in
set_option maxHeartbeats 1000000 in
theorem k_endsYear {G : Gt} {l : Launch} {Z : Zt} {R : Rt} {I : It} {L : Lt} {post : Pt'} {V : Vt} {w : Nat} {F : Nat → Nat} (W : WF Z R) (hM : MI0 V I L) (hP : PB (V 2)) (hw : w = 266 ∨ w = 267) (hF : MW (I w) F) (hl : ∀ d, d < 30 → F (18 + d) < 100) (hz : F 140 = 0 ∧ F 141 = 0) (hd : F 145 = V 2 0) (h : ∀ I', MW (I' w) (eyN (V 2) F) → I' 253 39 = nI (dkN F (V 2 0) - 1) → (∀ q, q ≠ 253 ∧ q ≠ w → I' q = I q) → (∀ j, j ≠ 39 → I' 253 j = I 253 j) → (∀ z, 236 ≤ z → I' w z = I w z) → post none Z R I' L) : Cx G l mX12_endsYear 2 0 0 [.ref 253, .ref w] Z R I L post := by
  refine Cx.of (by decide +kernel) (by exact Nat.le_of_ble_eq_true rfl) ?_
  obtain ⟨p1, p2, p3, p4, p5, p6, p7, p8, p9⟩ := id hP
  obtain ⟨N, hA, hN1, hN2⟩ := wrow W hw
  have hdkb := dk_b F (V 2 0) (by omega)
  refine Sx.aload_n dX12_endsYear_0 rfl ?_
  refine Sx.iconst (v := (nI 0)) dX12_endsYear_1 (by decide) ?_
  refine Sx.putfV dX12_endsYear_2 lkp_X12_362_12 (o_253 W) rfl rfl (fun I1 e1 o1 => ?_)
  refine Sx.iconst (v := (nI 1)) dX12_endsYear_5 (by decide) ?_
  refine Sx.istore_n (lv' := [(2, .int (nI 1)), (0, .ref 253), (1, .ref w)]) dX12_endsYear_6 (by decide) rfl ?_
  refine Sx.sub' [(2, .int (nI 1)), (0, .ref 253), (1, .ref w)] rfl ?_
  have hM1 : MI0 V I1 L := hM.sf (show sfJ 39 by unfold sfJ; omega) e1 o1
  have hF1 : MW (I1 w) F := by rw [o1 w (by omega)]; exact hF
  refine l_ey1 W hM1 hP hw hF1 hl (fun I2 hI2 hJ2 hr2 => ?_) 31 1 (by omega) (by omega) (by omega) I1 (fun _ _ => rfl) (fun _ _ => rfl) (by rw [e1, upd_at, show dkN F 1 = 1 from if_pos (Or.inl rfl)])
  have hF2 : MW (I2 w) F := by rw [hI2 w (by omega)]; exact hF1
  have hM2 : MI0 V I2 L := hM1.cg2 hI2 (fun j hj => hJ2 j (by unfold sfJ at hj; omega))
  refine Sx.iconst (v := (iI (-1))) dX12_endsYear_53 (by decide) ?_
  refine Sx.istore_n (lv' := [(2, .int (iI (-1))), (0, .ref 253), (1, .ref w)]) dX12_endsYear_54 (by decide) rfl ?_
  refine Sx.iconst (v := (nI 0)) dX12_endsYear_55 (by decide) ?_
  refine Sx.istore_n (lv' := [(3, .int (nI 0)), (2, .int (iI (-1))), (0, .ref 253), (1, .ref w)]) dX12_endsYear_56 (by decide) rfl ?_
  refine Sx.sub' [(2, .int (iI ((amp (vcN (F (48 + (dkN F (V 2 0) - 1)))) 0 : Int) - 1))), (3, .int (nI 0)), (0, .ref 253), (1, .ref w)] rfl ?_
  refine l_ey2 (F := F) W hM2 hP hw (show dkN F (V 2 0) - 1 < 30 by omega) hr2 rfl (fun I3 hF3 hI3 hJ3 hZ3 => ?_) 7 0 (by omega) (by omega) I2 (hF2.cg (fun q _ => by unfold vo1; rw [if_neg (by omega)])) (fun _ _ => rfl) (fun _ => rfl) (fun _ _ => rfl)
  obtain ⟨x, hx⟩ : ∃ x, x = F (48 + (dkN F (V 2 0) - 1)) := ⟨_, rfl⟩
  rw [← hx] at hF3 ⊢
  obtain ⟨a, ha⟩ : ∃ a, a = amp (vcN x) (V 2 34) := ⟨_, rfl⟩
  have hal := amp_le (vcN x) (V 2 34)
  rw [← ha] at hal ⊢
  refine Sx.aload_n dX12_endsYear_125 rfl ?_
  refine Sx.bipush (v := (nI 23)) dX12_endsYear_126 (by decide) ?_
  refine Sx.iload_n dX12_endsYear_128 rfl ?_
  refine Sx.iastN dX12_endsYear_129 hA (by omega) hN2 (fun I4 e4 o4 => ?_)
  refine Sx.iconst (v := (nI 0)) dX12_endsYear_130 (by decide) ?_
  refine Sx.istore_n (lv' := [(3, .int (nI 0)), (2, .int (iI ((a : Int) - 1))), (0, .ref 253), (1, .ref w)]) dX12_endsYear_131 (by decide) rfl ?_
  refine Sx.sub' [(2, .int (iI ((a : Int) - 1))), (3, .int (nI 0)), (0, .ref 253), (1, .ref w)] rfl ?_
  have hF4 : MW (I4 w) (upn (vo1 F x (V 2 34)) 143 a) := by
    rw [e4]
    exact hF3.set (b := 143) (x := a) (by omega) (by rw [if_pos rfl])
  have hM4 : MI0 V I4 L := (hM2.cg3 hw hI3 hJ3).sc (by unfold scr; omega) o4
  have fin : ∀ (I5 : It) (Gg : Nat → Nat), MW (I5 w) Gg → Gg = (if a = 0 then upn (vo1 F x (V 2 34)) 143 a else ha1 (V 2) (upn (vo1 F x (V 2 34)) 143 a) (a - 1) (vcN x (a - 1)) (V 2 35)) → Gg 144 = F 144 → (∀ q, q ≠ 253 ∧ q ≠ w → I5 q = I4 q) → (∀ z, I5 253 z = I4 253 z) → (∀ z, 236 ≤ z → I5 w z = I4 w z) → Sx G l mX12_endsYear 2 0 0 174 [(0, .ref 253), (1, .ref w)] [] Z R I5 L post := by
    intro I5 Gg hF5 hGg hG4 hI5 hJ5 hZ5
    refine l_ey4 W hw hF5 (fun I6 hF6 hI6 hJ6 hZ6 => ?_)
    refine h I6 (hF6.cg (fun q hq => ?_)) ?_ ?_ ?_ ?_
    · rw [ey_fin (hd ▸ hx.symm) ha.symm hz (by omega) (by omega) hq, hG4, ← hGg]
    · rw [hJ6 39, hJ5 39, o4 253 (by omega), hJ3 39]; exact hr2
    · intro q hq
      rw [hI6 q hq, hI5 q hq, o4 q hq.2, hI3 q hq, hI2 q hq.1, o1 q hq.1]
    · intro j hj
      rw [hJ6 j, hJ5 j, o4 253 (by omega), hJ3 j, hJ2 j hj, e1, upd_nj _ _ hj]
    · intro z hz1
      rw [hZ6 z hz1, hZ5 z hz1, e4, upd_nj _ _ (by omega), hZ3 z hz1, hI2 w (by omega), o1 w (by omega)]
  by_cases ha0 : a = 0
  · refine Sx.iload_n dX12_endsYear_132 rfl ?_
    refine Sx.aload_n dX12_endsYear_133 rfl ?_
    refine Sx.getfV (v := (nI (V 2 35))) dX12_endsYear_134 lkf_X12_307_12 (o_253 W) (hM4.1.2.2.2.1) ?_
    refine Sx.icmp_geV (t := 174) dX12_endsYear_137 (by decide) (vN (by decide)) (vN (by omega)) (fun c137 => False.elim (by omega)) (fun c137 => ?_)
    refine Sx.iload_n dX12_endsYear_140 rfl ?_
    refine Sx.iconst (v := (iI (-1))) dX12_endsYear_141 (by decide) ?_
    refine Sx.icmp_eqV (t := 174) dX12_endsYear_142 (by decide) (vZ (by omega)) (vZ (by decide)) (fun c142 => ?_) (fun c142 => False.elim (by omega))
    refine Sx.sub' [(0, .ref 253), (1, .ref w)] rfl ?_
    exact fin I4 _ hF4 (by rw [if_pos ha0]) (by unfold upn vo1; rw [if_neg (by omega), if_neg (by omega)]) (fun _ _ => rfl) (fun _ => rfl) (fun _ _ => rfl)
  · refine l_ey3 (F := F) W hM4 hP hw (by omega) (Gg := upn (vo1 F x (V 2 34)) 143 a) (a := a) (v := vcN x (a - 1)) (by unfold upn vo1; rw [if_neg (by omega), if_pos (by omega)]; congr 1; omega) (vc_lt _ _) (fun I5 hF5 hI5 hJ5 hZ5 => ?_) 7 0 (by omega) (by omega) I4 (hF4.cg (fun q _ => by unfold ha1; rw [if_neg (by omega)])) (fun _ _ => rfl) (fun _ => rfl) (fun _ _ => rfl)
    exact fin I5 _ hF5 (by rw [if_neg ha0]) (by unfold ha1 upn vo1; rw [if_neg (by omega), if_neg (by omega), if_neg (by omega)]) hI5 hJ5 hZ5
