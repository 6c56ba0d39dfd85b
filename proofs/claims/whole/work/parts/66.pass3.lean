/-! a day passes in the reference, the whole -/
theorem do_0 (k : Nat) : ∀ m, doN 0 k m = 0
  | 0 => rfl
  | m + 1 => by
    rw [doN, do_0 k m, Nat.zero_div, if_neg (by omega)]
    rfl
theorem lit_le (P : Nat → Nat) (w : Wt) (F : Nat → Nat) (d f u : Nat) : litN P w F d f u ≤ 99 := by
  have h := clN_le (worV P w F d f u)
  unfold litN
  (repeat' split) <;> omega
theorem MWp.cgd {d0 : Nat} {f : Nat → Int32} {F F' : Nat → Nat} (h : MWp (fun d => d ≠ d0) f F) (hd0 : d0 < 30) (c : ∀ j, j ≠ 48 + d0 → F' j = F j) : MWp (fun d => d ≠ d0) f F' := by
  refine ⟨fun p hp => by rw [c p (by omega)]; exact h.1 p hp, ?_, ?_, ?_, ?_, ?_, ?_, ?_, ?_, fun d hd => by rw [c _ (by omega)]; exact h.2.2.2.2.2.2.2.2.2.1 d hd, fun d k hd hD hk => by rw [c _ (fun q => hD (by omega))]; exact h.2.2.2.2.2.2.2.2.2.2 d k hd hD hk⟩
  · rw [c 138 (by omega)]; exact h.2.1
  · rw [c 139 (by omega)]; exact h.2.2.1
  · rw [c 140 (by omega)]; exact h.2.2.2.1
  · rw [c 141 (by omega)]; exact h.2.2.2.2.1
  · rw [c 142 (by omega)]; exact h.2.2.2.2.2.1
  · rw [c 143 (by omega)]; exact h.2.2.2.2.2.2.1
  · rw [c 144 (by omega)]; exact h.2.2.2.2.2.2.2.1
  · rw [c 145 (by omega)]; exact h.2.2.2.2.2.2.2.2.1
theorem MI0.cgw {V : Vt} {I I' : It} {L : Lt} {w : Nat} (h : MI0 V I L) (hw : w = 266 ∨ w = 267) (o : ∀ q, q ≠ w → I' q = I q) : MI0 V I' L := h.cg3 hw (fun q hq => o q hq.2) (fun j => by rw [o 253 (by omega)])
theorem MI0.cg4 {V : Vt} {I I' : It} {L : Lt} {w : Nat} (h : MI0 V I L) (hw : w = 266 ∨ w = 267) (o : ∀ q, q ≠ 253 ∧ q ≠ w → I' q = I q) (e : ∀ j, j ≠ 39 → I' 253 j = I 253 j) : MI0 V I' L := by
  have hm : MI0 V (va_up I' 253 (I 253)) L := h.cg3 hw (fun q hq => by rw [mu_ne _ _ hq.1]; exact o q hq) (fun j => by rw [mu_eq])
  refine hm.cg2 (fun q hq => by rw [mu_ne _ _ hq]) (fun j hj => ?_)
  rw [mu_eq, e j (fun q => hj (by rw [q]; unfold sfJ; omega))]
set_option maxRecDepth 20000 in
set_option maxHeartbeats 1000000 in
theorem k_passes {G : Gt} {l : Launch} {Z : Zt} {R : Rt} {I : It} {L : Lt} {post : Pt'} {V : Vt} {w : Nat} {F : Nat → Nat} (W : WF Z R) (hM : MI0 V I L) (hP : PB (V 2)) (hS : SB (V 2) F) (hF : MW (I w) F) (hw : w = 266 ∨ w = 267) (hG : ∀ i, i < V 0 1 → LOK (V (10 + i)) (V (10 + i) 240)) (hV : V 0 1 ≤ 4 ∧ V 0 2 ≤ V 0 1) (h : ∀ I' R' L', MI0 V I' L' → MW (I' w) (pdN (V 2) (wlV V) F) → (∀ q, q ≠ 253 ∧ q ≠ 257 ∧ q ≠ 270 ∧ q ≠ w → I' q = I q) → (∀ j, gfJ j → j ≠ 39 → I' 253 j = I 253 j) → (∀ z, 236 ≤ z → I' w z = I w z) → (∀ q, q ≠ 269 → L' q = L q) → (∀ a j, ¬ (a = 253 ∧ j = 5) → R' a j = R a j) → (F 145 + 1 = V 2 0 → I' 253 39 = nI (dkN (nextN (seenN (V 2) (wlV V) F) (F 145 + 1)) (V 2 0) - 1)) → post (some (.int (nI (litN (V 2) (wlV V) F (F 145) (F 139) (upc (V 2) F))))) Z R' I' L') : Cx G l mX12_passes 37 0 0 [.ref 253, .ref w] Z R I L post := by
  refine Cx.of (by decide +kernel) (by exact Nat.le_of_ble_eq_true rfl) ?_
  obtain ⟨f1, f2, f3, f4, f5, f6, f7, f8, f9, f10, f11, f12, f13, f14, f15, f16⟩ := id hS
  obtain ⟨p1, p2, p3, p4, p5, p6, p7, p8, p9⟩ := id hP
  obtain ⟨w1, w2, w3, w4, w5, w6, w7, w8, w9, w10, w11⟩ := id hF
  obtain ⟨N, hA, hN1, hN2⟩ := wrow W hw
  refine Sx.aload_n dX12_passes_0 rfl ?_
  refine Sx.bipush (v := (nI 25)) dX12_passes_1 (by decide) ?_
  refine Sx.ialdN dX12_passes_3 hA (by omega) hN2 (v := (nI (F 145))) w9 ?_
  refine Sx.istore_n (lv' := [(2, .int (nI (F 145))), (0, .ref 253), (1, .ref w)]) dX12_passes_4 (by decide) rfl ?_
  refine Sx.aload_n dX12_passes_5 rfl ?_
  refine Sx.aload_n dX12_passes_6 rfl ?_
  refine Sx.iload_n dX12_passes_7 rfl ?_
  refine Sx.callV2 dX12_passes_8 lkv_X12_365 (rcv_12 (o_253 W)) (by decide) (by decide) (Nat.le_of_ble_eq_true rfl) rfl rfl (k_lightOf W hM hP hS hF hw hG hV (show F 145 < 30 by omega) (fun I1 R1 L1 hF1 hL1 hE1 => ?_))
  have W := W.fr hF1.2.2.2
  have hM1 := hM.fl hF1 hL1 hE1
  have hFw : I1 w = I w := hF1.1 w (by omega)
  have hlo : lofN (V 2) (wlV V) F (upc (V 2) F) (F 145) = litN (V 2) (wlV V) F (F 145) (F 139) (upc (V 2) F) := by rw [lofN, if_neg (by omega)]
  have hlb := lit_le (V 2) (wlV V) F (F 145) (F 139) (upc (V 2) F)
  obtain ⟨lt, hlt⟩ : ∃ z, z = litN (V 2) (wlV V) F (F 145) (F 139) (upc (V 2) F) := ⟨_, rfl⟩
  rw [hlo, ← hlt]
  rw [← hlt] at hlb
  refine Sx.istore_n (lv' := [(3, .int (nI lt)), (2, .int (nI (F 145))), (0, .ref 253), (1, .ref w)]) dX12_passes_11 (by decide) rfl ?_
  refine Sx.aload_n dX12_passes_12 rfl ?_
  refine Sx.bipush (v := (nI 26)) dX12_passes_13 (by decide) ?_
  refine Sx.iload_n dX12_passes_15 rfl ?_
  refine Sx.iaddN dX12_passes_16 ?_
  refine Sx.iload_n dX12_passes_17 rfl ?_
  refine Sx.iastN dX12_passes_18 hA (by omega) hN2 (fun I2 e2 o2 => ?_)
  refine Sx.iconst (v := (nI 0)) dX12_passes_19 (by decide) ?_
  refine Sx.istore (lv' := [(4, .int (nI 0)), (3, .int (nI lt)), (2, .int (nI (F 145))), (0, .ref 253), (1, .ref w)]) dX12_passes_20 (by decide) rfl ?_
  refine Sx.sub' [(4, .int (nI 0)), (3, .int (nI lt)), (2, .int (nI (F 145))), (0, .ref 253), (1, .ref w)] rfl ?_
  have hG2 : MWp (fun d => d ≠ F 145) (I2 w) (upn (upn F (18 + F 145) lt) (48 + F 145) (dnN F (V 2 35))) := by
    rw [e2, hFw, show 26 + F 145 = cwN (18 + F 145) by unfold cwN; rw [if_neg (by omega), if_pos (by omega)]; omega]
    refine ((hF.p fun d => d ≠ F 145).set (b := 18 + F 145) (x := lt) (by omega) (by rw [if_neg (by omega)])).cgd (by omega) (fun j hj => ?_)
    show upn (upn F (18 + F 145) lt) (48 + F 145) (dnN F (V 2 35)) j = upn F (18 + F 145) lt j
    exact if_neg hj
  have hM2 : MI0 V I2 L1 := hM1.cgw hw o2
  refine l_ps1 W hw (show F 145 < 30 by omega) (Gg := upn (upn F (18 + F 145) lt) (48 + F 145) (dnN F (V 2 35))) (I0 := I2) (fun I3 hG3 hc3 hI3 hZ3 => ?_) 7 0 (by omega) (by omega) I2 hG2 (fun z hz => by omega) (fun _ _ => rfl) (fun _ _ => rfl)
  have hM3 : MI0 V I3 L1 := hM2.cgw hw hI3
  refine Sx.iconst (v := (nI 0)) dX12_passes_48 (by decide) ?_
  refine Sx.istore (lv' := [(4, .int (nI 0)), (3, .int (nI lt)), (2, .int (nI (F 145))), (0, .ref 253), (1, .ref w)]) dX12_passes_49 (by decide) rfl ?_
  refine Sx.sub' [(4, .int (nI 0)), (3, .int (nI lt)), (2, .int (nI (F 145))), (0, .ref 253), (1, .ref w)] rfl ?_
  refine l_ps2 (F := F) (Gg := upn (upn F (18 + F 145) lt) (48 + F 145) (dnN F (V 2 35))) (I0 := I3) W hM3 hP hS hw (show F 145 < 30 by omega) hlb (fun q hq => by unfold upn; rw [if_neg (by omega), if_neg (by omega)]) (fun I4 hG4 hc4 hI4 hZ4 => ?_) 7 0 (by omega) (by omega) I3 hG3 (fun k hk => by rw [hc3 k hk]; exact congrArg nI (do_0 k 6).symm) (fun _ _ => rfl) (fun _ _ => rfl)
  have hs : brs (V 2) (upn (upn F (18 + F 145) lt) (48 + F 145) (dnN F (V 2 35))) lt (V 2 35) = seenN (V 2) (wlV V) F := by rw [hlt]; rfl
  rw [hs] at hG4
  have hF4 : MW (I4 w) (seenN (V 2) (wlV V) F) := by
    refine hG4.w (fun d k hd hD hk => ?_)
    have e : d = F 145 := Classical.byContradiction hD
    rw [e, hc4 k hk, ← hs, brs_o _ _ _ _ _ (by omega) (by omega)]
    exact congrArg (fun z => nI (doN z k 6)) (if_pos rfl).symm
  have hsd : seenN (V 2) (wlV V) F 145 = F 145 := by
    rw [← hs, brs_o _ _ _ _ _ (by omega) (by omega)]
    unfold upn
    rw [if_neg (by omega), if_neg (by omega)]
  have hM4 : MI0 V I4 L1 := hM3.cgw hw hI4
  refine Sx.aload_n dX12_passes_183 rfl ?_
  refine Sx.bipush (v := (nI 20)) dX12_passes_184 (by decide) ?_
  refine Sx.iconst (v := (nI 0)) dX12_passes_186 (by decide) ?_
  refine Sx.iastN dX12_passes_187 hA (by omega) hN2 (fun I5 e5 o5 => ?_)
  refine Sx.aload_n dX12_passes_188 rfl ?_
  refine Sx.bipush (v := (nI 21)) dX12_passes_189 (by decide) ?_
  refine Sx.iconst (v := (nI 0)) dX12_passes_191 (by decide) ?_
  refine Sx.iastN dX12_passes_192 hA (by omega) hN2 (fun I6 e6 o6 => ?_)
  refine Sx.aload_n dX12_passes_193 rfl ?_
  refine Sx.bipush (v := (nI 25)) dX12_passes_194 (by decide) ?_
  refine Sx.dup2 dX12_passes_196 rfl rfl ?_
  refine Sx.ialdN dX12_passes_197 hA (by omega) hN2 (v := (nI (F 145))) (by rw [e6, upd_nj _ _ (by omega), e5, upd_nj _ _ (by omega), hF4.2.2.2.2.2.2.2.2.1, hsd]) ?_
  refine Sx.iconst (v := (nI 1)) dX12_passes_198 (by decide) ?_
  refine Sx.iaddN dX12_passes_199 ?_
  refine Sx.iastN dX12_passes_200 hA (by omega) hN2 (fun I7 e7 o7 => ?_)
  have hF7 : MW (I7 w) (nextN (seenN (V 2) (wlV V) F) (F 145 + 1)) := by
    rw [e7, e6, e5]
    exact ((hF4.set (b := 140) (x := 0) (by omega) (by rw [if_neg (by decide)])).set (b := 141) (x := 0) (by omega) (by rw [if_neg (by decide)])).set (b := 145) (x := F 145 + 1) (by omega) (by rw [if_neg (by decide)])
  have hM7 : MI0 V I7 L1 := ((hM4.cgw hw o5).cgw hw o6).cgw hw o7
  have hl7 : ∀ d, d < 30 → nextN (seenN (V 2) (wlV V) F) (F 145 + 1) (18 + d) < 100 := by
    intro d hd
    have e0 : nextN (seenN (V 2) (wlV V) F) (F 145 + 1) (18 + d) = seenN (V 2) (wlV V) F (18 + d) := by
      unfold nextN upn
      rw [if_neg (by omega), if_neg (by omega), if_neg (by omega)]
    rw [e0, ← hs, brs_o _ _ _ _ _ (by omega) (by omega)]
    unfold upn
    rw [if_neg (by omega)]
    split
    · omega
    · have := f4 d hd; omega
  have hrow : ∀ q, q ≠ 253 ∧ q ≠ 257 ∧ q ≠ 270 ∧ q ≠ w → I7 q = I q := fun q hq => by rw [o7 q hq.2.2.2, o6 q hq.2.2.2, o5 q hq.2.2.2, hI4 q hq.2.2.2, hI3 q hq.2.2.2, o2 q hq.2.2.2, hF1.1 q ⟨hq.1, hq.2.1, hq.2.2.1⟩]
  have hfl : ∀ j, gfJ j → I7 253 j = I 253 j := fun j hj => by rw [o7 253 (by omega), o6 253 (by omega), o5 253 (by omega), hI4 253 (by omega), hI3 253 (by omega), o2 253 (by omega), hF1.2.1 j hj]
  have hzz : ∀ z, 236 ≤ z → I7 w z = I w z := fun z hz => by rw [e7, upd_nj _ _ (by omega), e6, upd_nj _ _ (by omega), e5, upd_nj _ _ (by omega), hZ4 z hz, hZ3 z hz, e2, upd_nj _ _ (by omega), hFw]
  refine Sx.aload_n dX12_passes_201 rfl ?_
  refine Sx.bipush (v := (nI 25)) dX12_passes_202 (by decide) ?_
  refine Sx.ialdN dX12_passes_204 hA (by omega) hN2 (v := (nI (F 145 + 1))) hF7.2.2.2.2.2.2.2.2.1 ?_
  refine Sx.aload_n dX12_passes_205 rfl ?_
  refine Sx.getfR dX12_passes_206 lkf_X12_37_12 (o_253 W) (r_253_18 W) ?_
  refine Sx.iconst (v := (nI 0)) dX12_passes_209 (by decide) ?_
  refine Sx.ialdN dX12_passes_210 (a_258 W) (by decide) (by decide) (v := (nI (V 2 0))) (hM7.2.2.2.1.1 0 (by decide)) ?_
  refine Sx.icmp_neV (t := 219) dX12_passes_211 (by decide) (vN (by omega)) (vN (by omega)) (fun c211 => ?_) (fun c211 => ?_)
  · refine Sx.iload_n dX12_passes_219 rfl ?_
    refine Sx.iret dX12_passes_220 rfl rfl ?_
    exact hlt ▸ h I7 R1 L1 hM7 (by rw [pdN, if_neg (by omega)]; exact hF7) hrow (fun j hj _ => hfl j hj) hzz hF1.2.2.1 hF1.2.2.2 (fun q => by omega)
  · refine Sx.aload_n dX12_passes_214 rfl ?_
    refine Sx.aload_n dX12_passes_215 rfl ?_
    refine Sx.callV1 dX12_passes_216 lkv_X12_369 (rcv_12 (o_253 W)) (by decide) (by decide) (Nat.le_of_ble_eq_true rfl) rfl rfl (k_endsYear W hM7 hP hw hF7 hl7 ⟨rfl, rfl⟩ (show F 145 + 1 = V 2 0 by omega) (fun I8 hF8 hr8 hI8 hJ8 hZ8 => ?_))
    refine Sx.iload_n dX12_passes_219 rfl ?_
    refine Sx.iret dX12_passes_220 rfl rfl ?_
    exact hlt ▸ h I8 R1 L1 (MI0.cg4 hM7 hw hI8 hJ8) (by rw [pdN, if_pos (by omega)]; exact hF8) (fun q hq => (hI8 q ⟨hq.1, hq.2.2.2⟩).trans (hrow q hq)) (fun j hj h39 => (hJ8 j h39).trans (hfl j hj)) (fun z hz => (hZ8 z hz).trans (hzz z hz)) hF1.2.2.1 hF1.2.2.2 (fun _ => hr8)
