/-! words and their bytes -/
theorem and255 (y : Int32) : ∃ n, n < 256 ∧ y &&& nI 255 = nI n := by
  refine ⟨y.toBitVec.toNat % 256, Nat.mod_lt _ (by decide), ?_⟩
  apply Int32.toBitVec_inj.mp
  apply BitVec.eq_of_toNat_eq
  have h := Nat.and_two_pow_sub_one_eq_mod y.toBitVec.toNat 8
  have h2 : (nI 255).toBitVec.toNat = 2 ^ 8 - 1 := by decide
  rw [Int32.toBitVec_and, BitVec.toNat_and, h2, h]
  show _ = (BitVec.ofNat 32 _).toNat
  rw [BitVec.toNat_ofNat]
  omega
def lowN (y : Int32) : Nat := (y &&& nI 255).toInt.toNat
theorem low_e (y : Int32) : y &&& nI 255 = nI (lowN y) ∧ lowN y < 256 := by
  obtain ⟨n, hn, e⟩ := and255 y
  have : lowN y = n := by unfold lowN; rw [e, nI_toInt (by omega)]; omega
  rw [this]
  exact ⟨e, hn⟩
theorem low_8 (y : Int32) : y.toInt8.toInt32.toInt8.toInt32 = by8 (lowN y) := by
  unfold by8
  rw [← (low_e y).1]
  have h : (y &&& nI 255).toInt8 = y.toInt8 := by
    apply Int8.toBitVec_inj.mp
    rw [Int32.toBitVec_toInt8, Int32.toBitVec_toInt8, Int32.toBitVec_and]
    apply BitVec.eq_of_getLsbD_eq
    intro i hi
    have h255 : (nI 255).toBitVec = 255#32 := by decide
    rw [h255, BitVec.signExtend_eq_setWidth_of_le _ (by decide), BitVec.signExtend_eq_setWidth_of_le _ (by decide), BitVec.getLsbD_setWidth, BitVec.getLsbD_setWidth, BitVec.getLsbD_and]
    have : ∀ i, i < 8 → (255#32).getLsbD i = true := by decide
    rw [this i hi, Bool.and_true]
  rw [h, Int8.toInt8_toInt32]
def byN (x : Int32) (m : Nat) : Nat := lowN (x >>> (nI (8 * (m - 1)) &&& 31))
def pb1 (s : Nat × (Nat → Nat)) (b : Nat) : Nat × (Nat → Nat) := if b = 0 then s else (s.1 + 1, upn s.2 s.1 b)
def puW (x : Int32) : Nat → Nat × (Nat → Nat) → Nat × (Nat → Nat)
  | 0, s => s
  | m + 1, s => puW x m (pb1 s (byN x (m + 1)))
def bcW (x : Int32) : Nat → Nat
  | 0 => 0
  | m + 1 => bcW x m + (if byN x (m + 1) = 0 then 0 else 1)
theorem bcW_le (x : Int32) : ∀ m, bcW x m ≤ m
  | 0 => Nat.le_refl _
  | m + 1 => by have := bcW_le x m; unfold bcW; split <;> omega
theorem puW_0 (x : Int32) (s : Nat × (Nat → Nat)) : puW x 0 s = s := rfl
theorem puW_s (x : Int32) (m : Nat) (s : Nat × (Nat → Nat)) : puW x (m + 1) s = puW x m (pb1 s (byN x (m + 1))) := rfl
theorem puW_1 (x : Int32) : ∀ m s, (puW x m s).1 = s.1 + bcW x m
  | 0, s => rfl
  | m + 1, s => by
    rw [puW_s, puW_1 x m, bcW]
    unfold pb1
    split <;> simp <;> omega
/-- bytes that are signs -/
def BT (n : Nat) (T : Nat → Nat) : Prop := ∀ j, j < n → 0 < T j ∧ T j < 256
theorem pb1_B {s : Nat × (Nat → Nat)} {b : Nat} (h : BT s.1 s.2) (hb : b < 256) : BT (pb1 s b).1 (pb1 s b).2 := by
  unfold pb1
  split
  · exact h
  · intro j hj
    show 0 < upn s.2 s.1 b j ∧ upn s.2 s.1 b j < 256
    have hj' : j < s.1 + 1 := hj
    unfold upn
    split
    · omega
    · exact h j (by omega)
theorem puW_B (x : Int32) : ∀ m s, BT s.1 s.2 → BT (puW x m s).1 (puW x m s).2
  | 0, s, h => h
  | m + 1, s, h => puW_B x m _ (pb1_B h (low_e _).2)
def fdS (V : Vt) (a b c d e : Int32) : Nat × (Nat → Nat) := puW e 4 (puW d 4 (puW c 4 (puW b 4 (puW a 4 (V 0 0, V 1)))))
def tpV (V : Vt) (n : Nat) (T : Nat → Nat) : Vt := vr (vs V 0 0 n) 1 T
abbrev feedC (V : Vt) (a b c d e : Int32) : Prop := V 0 0 + bcW a 4 + bcW b 4 + bcW c 4 + bcW d 4 + bcW e 4 ≤ 240
def feedV (V : Vt) (a b c d e : Int32) : Vt := if feedC V a b c d e then tpV V (fdS V a b c d e).1 (fdS V a b c d e).2 else V
def feedR (V : Vt) (a b c d e : Int32) : Int32 := if feedC V a b c d e then nI (fdS V a b c d e).1 else -1
abbrev endC (V : Vt) (x : Int32) : Prop := 0 ≤ x.toInt ∧ x.toInt ≤ (V 0 0 : Int)
def endV (V : Vt) (x : Int32) : Vt := if endC V x then tpV V (xN x) (V 1) else V
set_option maxRecDepth 20000 in
set_option maxHeartbeats 1000000 in
theorem l_bik {G : Gt} {l : Launch} {Z : Zt} {R : Rt} {I : It} {L : Lt} {post : Pt'} {x : Int32} (h : post (some (.int (nI (bcW x 4)))) Z R I L) :
    ∀ (r m : Nat), m < r → m ≤ 4 → ∀ c, c + bcW x m = bcW x 4 → Sx G l mX12_bytesIn 1 0 0 5 [(2, .int (iI (8 * (m : Int) - 8))), (1, .int (nI c)), (0, .int x)] [] Z R I L post := by
  intro r
  induction r with
  | zero => intro m h1; omega
  | succ r ih =>
    intro m h1 h4 c hc
    have hcb := bcW_le x 4
    refine Sx.iload_n dX12_bytesIn_5 rfl ?_
    refine Sx.if_ltV (t := 33) dX12_bytesIn_6 (by decide) (vZ (by omega)) (fun c6 => ?_) (fun c6 => ?_)
    · have hm0 : m = 0 := by omega
      subst hm0
      refine Sx.iload_n dX12_bytesIn_33 rfl ?_
      refine Sx.iret dX12_bytesIn_34 rfl rfl ?_
      exact pNN (by rw [← hc]; rfl) h
    · have hm1 : 1 ≤ m := by omega
      have hlo : byN x m < 256 := (low_e _).2
      refine Sx.sub' [(2, .int (nI (8 * (m - 1)))), (1, .int (nI c)), (0, .int x)] (by rw [show (8 * (m : Int) - 8) = ((8 * (m - 1) : Nat) : Int) by omega, ← nI_iI]; rfl) ?_
      refine Sx.iload_n dX12_bytesIn_9 rfl ?_
      refine Sx.iload_n dX12_bytesIn_10 rfl ?_
      refine Sx.iload_n dX12_bytesIn_11 rfl ?_
      refine Sx.ishr dX12_bytesIn_12 ?_
      refine Sx.top (show _ = (x >>> (nI (8 * (m - 1)) &&& 31)) from rfl) ?_
      refine Sx.sipush (v := (nI 255)) dX12_bytesIn_13 (by decide) ?_
      refine Sx.iand dX12_bytesIn_16 ?_
      refine Sx.top (show _ = (nI (byN x m)) from (low_e _).1) ?_
      refine Sx.if_eqV (t := 24) dX12_bytesIn_17 (by decide) (vN (by omega)) (fun c17 => ?_) (fun c17 => ?_)
      · refine Sx.iconst (v := (nI 0)) dX12_bytesIn_24 (by decide) ?_
        refine Sx.iaddN dX12_bytesIn_25 ?_
        refine Sx.istore_n (lv' := [(1, .int (nI (c + 0))), (2, .int (nI (8 * (m - 1)))), (0, .int x)]) dX12_bytesIn_26 (by decide) rfl ?_
        refine Sx.sub' [(1, .int (nI (c + 0))), (2, .int (iI (8 * (m : Int) - 8))), (0, .int x)] (by rw [show (8 * (m : Int) - 8) = ((8 * (m - 1) : Nat) : Int) by omega, ← nI_iI]; rfl) ?_
        refine Sx.iinc (v := (iI ((8 * (m : Int) - 8) + (-8)))) (lv' := [(2, .int (iI ((8 * (m : Int) - 8) + (-8)))), (1, .int (nI (c + 0))), (0, .int x)]) dX12_bytesIn_27 rfl (iI_add _ _) (by decide) rfl ?_
        refine Sx.goto (t := 5) dX12_bytesIn_30 (by decide) ?_
        refine Sx.sub' [(2, .int (iI (8 * ((m - 1 : Nat) : Int) - 8))), (1, .int (nI (c + 0))), (0, .int x)] (by rw [show (8 * ((m - 1 : Nat) : Int) - 8) = 8 * (m : Int) - 8 + (-8) by omega]; rfl) ?_
        exact ih (m - 1) (by omega) (by omega) _ (by rw [← hc, show bcW x m = bcW x (m - 1) + (if byN x m = 0 then 0 else 1) by rw [show m = m - 1 + 1 by omega, bcW, Nat.add_sub_cancel]]; first | (rw [if_pos (by omega)]; omega) | (rw [if_neg (by omega)]; omega))
      · refine Sx.iconst (v := (nI 1)) dX12_bytesIn_20 (by decide) ?_
        refine Sx.goto (t := 25) dX12_bytesIn_21 (by decide) ?_
        refine Sx.iaddN dX12_bytesIn_25 ?_
        refine Sx.istore_n (lv' := [(1, .int (nI (c + 1))), (2, .int (nI (8 * (m - 1)))), (0, .int x)]) dX12_bytesIn_26 (by decide) rfl ?_
        refine Sx.sub' [(1, .int (nI (c + 1))), (2, .int (iI (8 * (m : Int) - 8))), (0, .int x)] (by rw [show (8 * (m : Int) - 8) = ((8 * (m - 1) : Nat) : Int) by omega, ← nI_iI]; rfl) ?_
        refine Sx.iinc (v := (iI ((8 * (m : Int) - 8) + (-8)))) (lv' := [(2, .int (iI ((8 * (m : Int) - 8) + (-8)))), (1, .int (nI (c + 1))), (0, .int x)]) dX12_bytesIn_27 rfl (iI_add _ _) (by decide) rfl ?_
        refine Sx.goto (t := 5) dX12_bytesIn_30 (by decide) ?_
        refine Sx.sub' [(2, .int (iI (8 * ((m - 1 : Nat) : Int) - 8))), (1, .int (nI (c + 1))), (0, .int x)] (by rw [show (8 * ((m - 1 : Nat) : Int) - 8) = 8 * (m : Int) - 8 + (-8) by omega]; rfl) ?_
        exact ih (m - 1) (by omega) (by omega) _ (by rw [← hc, show bcW x m = bcW x (m - 1) + (if byN x m = 0 then 0 else 1) by rw [show m = m - 1 + 1 by omega, bcW, Nat.add_sub_cancel]]; first | (rw [if_pos (by omega)]; omega) | (rw [if_neg (by omega)]; omega))
set_option maxRecDepth 20000 in
set_option maxHeartbeats 1000000 in
theorem k_bytesIn {G : Gt} {l : Launch} {Z : Zt} {R : Rt} {I : It} {L : Lt} {post : Pt'} {x : Int32} (h : post (some (.int (nI (bcW x 4)))) Z R I L) : Cx G l mX12_bytesIn 1 0 0 [.int x] Z R I L post := by
  refine Cx.of (by decide +kernel) (by exact Nat.le_of_ble_eq_true rfl) ?_
  refine Sx.iconst (v := (nI 0)) dX12_bytesIn_0 (by decide) ?_
  refine Sx.istore_n (lv' := [(1, .int (nI 0)), (0, .int x)]) dX12_bytesIn_1 (by decide) rfl ?_
  refine Sx.bipush (v := (nI 24)) dX12_bytesIn_2 (by decide) ?_
  refine Sx.istore_n (lv' := [(2, .int (nI 24)), (1, .int (nI 0)), (0, .int x)]) dX12_bytesIn_4 (by decide) rfl ?_
  refine Sx.sub' [(2, .int (iI (8 * ((4 : Nat) : Int) - 8))), (1, .int (nI 0)), (0, .int x)] rfl ?_
  exact l_bik h 5 4 (by decide) (by decide) 0 (by omega)
set_option maxRecDepth 20000 in
set_option maxHeartbeats 1000000 in
theorem l_bic {G : Gt} {l : Launch} {Z : Zt} {R : Rt} {I : It} {L : Lt} {post : Pt'} {x : Int32} (h : post (some (.int (nI (bcW x 4)))) Z R I L) :
    ∀ (r m : Nat), m < r → m ≤ 4 → ∀ c, c + bcW x m = bcW x 4 → Sx G l mX9_bytesIn 1 0 0 5 [(2, .int (iI (8 * (m : Int) - 8))), (1, .int (nI c)), (0, .int x)] [] Z R I L post := by
  intro r
  induction r with
  | zero => intro m h1; omega
  | succ r ih =>
    intro m h1 h4 c hc
    have hcb := bcW_le x 4
    refine Sx.iload_n dX9_bytesIn_5 rfl ?_
    refine Sx.if_ltV (t := 33) dX9_bytesIn_6 (by decide) (vZ (by omega)) (fun c6 => ?_) (fun c6 => ?_)
    · have hm0 : m = 0 := by omega
      subst hm0
      refine Sx.iload_n dX9_bytesIn_33 rfl ?_
      refine Sx.iret dX9_bytesIn_34 rfl rfl ?_
      exact pNN (by rw [← hc]; rfl) h
    · have hm1 : 1 ≤ m := by omega
      have hlo : byN x m < 256 := (low_e _).2
      refine Sx.sub' [(2, .int (nI (8 * (m - 1)))), (1, .int (nI c)), (0, .int x)] (by rw [show (8 * (m : Int) - 8) = ((8 * (m - 1) : Nat) : Int) by omega, ← nI_iI]; rfl) ?_
      refine Sx.iload_n dX9_bytesIn_9 rfl ?_
      refine Sx.iload_n dX9_bytesIn_10 rfl ?_
      refine Sx.iload_n dX9_bytesIn_11 rfl ?_
      refine Sx.ishr dX9_bytesIn_12 ?_
      refine Sx.top (show _ = (x >>> (nI (8 * (m - 1)) &&& 31)) from rfl) ?_
      refine Sx.sipush (v := (nI 255)) dX9_bytesIn_13 (by decide) ?_
      refine Sx.iand dX9_bytesIn_16 ?_
      refine Sx.top (show _ = (nI (byN x m)) from (low_e _).1) ?_
      refine Sx.if_eqV (t := 24) dX9_bytesIn_17 (by decide) (vN (by omega)) (fun c17 => ?_) (fun c17 => ?_)
      · refine Sx.iconst (v := (nI 0)) dX9_bytesIn_24 (by decide) ?_
        refine Sx.iaddN dX9_bytesIn_25 ?_
        refine Sx.istore_n (lv' := [(1, .int (nI (c + 0))), (2, .int (nI (8 * (m - 1)))), (0, .int x)]) dX9_bytesIn_26 (by decide) rfl ?_
        refine Sx.sub' [(1, .int (nI (c + 0))), (2, .int (iI (8 * (m : Int) - 8))), (0, .int x)] (by rw [show (8 * (m : Int) - 8) = ((8 * (m - 1) : Nat) : Int) by omega, ← nI_iI]; rfl) ?_
        refine Sx.iinc (v := (iI ((8 * (m : Int) - 8) + (-8)))) (lv' := [(2, .int (iI ((8 * (m : Int) - 8) + (-8)))), (1, .int (nI (c + 0))), (0, .int x)]) dX9_bytesIn_27 rfl (iI_add _ _) (by decide) rfl ?_
        refine Sx.goto (t := 5) dX9_bytesIn_30 (by decide) ?_
        refine Sx.sub' [(2, .int (iI (8 * ((m - 1 : Nat) : Int) - 8))), (1, .int (nI (c + 0))), (0, .int x)] (by rw [show (8 * ((m - 1 : Nat) : Int) - 8) = 8 * (m : Int) - 8 + (-8) by omega]; rfl) ?_
        exact ih (m - 1) (by omega) (by omega) _ (by rw [← hc, show bcW x m = bcW x (m - 1) + (if byN x m = 0 then 0 else 1) by rw [show m = m - 1 + 1 by omega, bcW, Nat.add_sub_cancel]]; first | (rw [if_pos (by omega)]; omega) | (rw [if_neg (by omega)]; omega))
      · refine Sx.iconst (v := (nI 1)) dX9_bytesIn_20 (by decide) ?_
        refine Sx.goto (t := 25) dX9_bytesIn_21 (by decide) ?_
        refine Sx.iaddN dX9_bytesIn_25 ?_
        refine Sx.istore_n (lv' := [(1, .int (nI (c + 1))), (2, .int (nI (8 * (m - 1)))), (0, .int x)]) dX9_bytesIn_26 (by decide) rfl ?_
        refine Sx.sub' [(1, .int (nI (c + 1))), (2, .int (iI (8 * (m : Int) - 8))), (0, .int x)] (by rw [show (8 * (m : Int) - 8) = ((8 * (m - 1) : Nat) : Int) by omega, ← nI_iI]; rfl) ?_
        refine Sx.iinc (v := (iI ((8 * (m : Int) - 8) + (-8)))) (lv' := [(2, .int (iI ((8 * (m : Int) - 8) + (-8)))), (1, .int (nI (c + 1))), (0, .int x)]) dX9_bytesIn_27 rfl (iI_add _ _) (by decide) rfl ?_
        refine Sx.goto (t := 5) dX9_bytesIn_30 (by decide) ?_
        refine Sx.sub' [(2, .int (iI (8 * ((m - 1 : Nat) : Int) - 8))), (1, .int (nI (c + 1))), (0, .int x)] (by rw [show (8 * ((m - 1 : Nat) : Int) - 8) = 8 * (m : Int) - 8 + (-8) by omega]; rfl) ?_
        exact ih (m - 1) (by omega) (by omega) _ (by rw [← hc, show bcW x m = bcW x (m - 1) + (if byN x m = 0 then 0 else 1) by rw [show m = m - 1 + 1 by omega, bcW, Nat.add_sub_cancel]]; first | (rw [if_pos (by omega)]; omega) | (rw [if_neg (by omega)]; omega))
set_option maxRecDepth 20000 in
set_option maxHeartbeats 1000000 in
theorem c_bytesIn {G : Gt} {l : Launch} {Z : Zt} {R : Rt} {I : It} {L : Lt} {post : Pt'} {x : Int32} (h : post (some (.int (nI (bcW x 4)))) Z R I L) : Cx G l mX9_bytesIn 1 0 0 [.int x] Z R I L post := by
  refine Cx.of (by decide +kernel) (by exact Nat.le_of_ble_eq_true rfl) ?_
  refine Sx.iconst (v := (nI 0)) dX9_bytesIn_0 (by decide) ?_
  refine Sx.istore_n (lv' := [(1, .int (nI 0)), (0, .int x)]) dX9_bytesIn_1 (by decide) rfl ?_
  refine Sx.bipush (v := (nI 24)) dX9_bytesIn_2 (by decide) ?_
  refine Sx.istore_n (lv' := [(2, .int (nI 24)), (1, .int (nI 0)), (0, .int x)]) dX9_bytesIn_4 (by decide) rfl ?_
  refine Sx.sub' [(2, .int (iI (8 * ((4 : Nat) : Int) - 8))), (1, .int (nI 0)), (0, .int x)] rfl ?_
  exact l_bic h 5 4 (by decide) (by decide) 0 (by omega)
set_option maxRecDepth 20000 in
set_option maxHeartbeats 1000000 in
theorem l_k_put {G : Gt} {l : Launch} {Z : Zt} {R : Rt} {L : Lt} {post : Pt'} {x : Int32} {I0 : It} {sf : Nat × (Nat → Nat)} (W : WF Z R) (h : ∀ I', I' 253 6 = nI sf.1 → (∀ j, j < sf.1 → I' 254 j = by8 (sf.2 j)) → (∀ q, q ≠ 253 → q ≠ 254 → I' q = I0 q) → (∀ j, j ≠ 6 → I' 253 j = I0 253 j) → post none Z R I' L) :
    ∀ (r m : Nat), m < r → m ≤ 4 → ∀ (s : Nat × (Nat → Nat)) (I : It), I 253 6 = nI s.1 → s.1 + bcW x m ≤ 240 → (∀ j, j < s.1 → I 254 j = by8 (s.2 j)) → puW x m s = sf → (∀ q, q ≠ 253 → q ≠ 254 → I q = I0 q) → (∀ j, j ≠ 6 → I 253 j = I0 253 j) → Sx G l mX12_put 1 0 0 3 [(2, .int (iI (8 * (m : Int) - 8))), (0, .ref 253), (1, .int x)] [] Z R I L post := by
  intro r
  induction r with
  | zero => intro m h1; omega
  | succ r ih =>
    intro m h1 h4 s I hn hbs hc hR hI hf
    refine Sx.iload_n dX12_put_3 rfl ?_
    refine Sx.if_ltV (t := 49) dX12_put_4 (by decide) (vZ (by omega)) (fun c4 => ?_) (fun c4 => ?_)
    · have hm0 : m = 0 := by omega
      subst hm0
      refine Sx.vret dX12_put_49 rfl ?_
      rw [puW_0] at hR
      subst hR
      exact h I hn hc hI hf
    · have hm1 : 1 ≤ m := by omega
      have hlo : byN x m < 256 := (low_e _).2
      have hps : puW x m s = puW x (m - 1) (pb1 s (byN x m)) := by rw [show m = m - 1 + 1 by omega, puW_s, Nat.add_sub_cancel]
      have hbm : bcW x m = bcW x (m - 1) + (if byN x m = 0 then 0 else 1) := by rw [show m = m - 1 + 1 by omega, bcW, Nat.add_sub_cancel]
      have hb1 : byN x m ≠ 0 → bcW x m = bcW x (m - 1) + 1 := fun z => by rw [hbm, if_neg z]
      have hb0 : byN x m = 0 → bcW x m = bcW x (m - 1) := fun z => by rw [hbm, if_pos z]; rfl
      clear hbm
      refine Sx.sub' [(2, .int (nI (8 * (m - 1)))), (0, .ref 253), (1, .int x)] (by rw [show (8 * (m : Int) - 8) = ((8 * (m - 1) : Nat) : Int) by omega, ← nI_iI]; rfl) ?_
      refine Sx.iload_n dX12_put_7 rfl ?_
      refine Sx.iload_n dX12_put_8 rfl ?_
      refine Sx.ishr dX12_put_9 ?_
      refine Sx.top (show _ = (x >>> (nI (8 * (m - 1)) &&& 31)) from rfl) ?_
      refine Sx.sipush (v := (nI 255)) dX12_put_10 (by decide) ?_
      refine Sx.iand dX12_put_13 ?_
      refine Sx.top (show _ = (nI (byN x m)) from (low_e _).1) ?_
      refine Sx.if_neV (t := 20) dX12_put_14 (by decide) (vN (by omega)) (fun c14 => ?_) (fun c14 => ?_)
      · refine Sx.aload_n dX12_put_20 rfl ?_
        refine Sx.getfR dX12_put_21 lkf_X12_9_12 (o_253 W) (r_253_1 W) ?_
        refine Sx.aload_n dX12_put_24 rfl ?_
        refine Sx.getfV (v := (nI s.1)) dX12_put_25 lkf_X12_122_12 (o_253 W) hn ?_
        refine Sx.iload_n dX12_put_28 rfl ?_
        refine Sx.iload_n dX12_put_29 rfl ?_
        refine Sx.ishr dX12_put_30 ?_
        refine Sx.top (show _ = (x >>> (nI (8 * (m - 1)) &&& 31)) from rfl) ?_
        refine Sx.i2b dX12_put_31 ?_
        refine Sx.bastN dX12_put_32 (a_254 W) (by omega) (by decide) (fun I1 e1 o1 => ?_)
        refine Sx.aload_n dX12_put_33 rfl ?_
        refine Sx.dup dX12_put_34 rfl ?_
        refine Sx.getfV (v := (nI s.1)) dX12_put_35 lkf_X12_122_12 (o_253 W) (by rw [o1 253 (by decide)]; exact hn) ?_
        refine Sx.iconst (v := (nI 1)) dX12_put_38 (by decide) ?_
        refine Sx.iaddN dX12_put_39 ?_
        refine Sx.putfV dX12_put_40 lkp_X12_122_12 (o_253 W) rfl rfl (fun I2 e2 o2 => ?_)
        refine Sx.sub' [(2, .int (iI (8 * (m : Int) - 8))), (0, .ref 253), (1, .int x)] (by rw [show (8 * (m : Int) - 8) = ((8 * (m - 1) : Nat) : Int) by omega, ← nI_iI]; rfl) ?_
        refine Sx.iinc (v := (iI ((8 * (m : Int) - 8) + (-8)))) (lv' := [(2, .int (iI ((8 * (m : Int) - 8) + (-8)))), (0, .ref 253), (1, .int x)]) dX12_put_43 rfl (iI_add _ _) (by decide) rfl ?_
        refine Sx.goto (t := 3) dX12_put_46 (by decide) ?_
        refine Sx.sub' [(2, .int (iI (8 * ((m - 1 : Nat) : Int) - 8))), (0, .ref 253), (1, .int x)] (by rw [show (8 * ((m - 1 : Nat) : Int) - 8) = 8 * (m : Int) - 8 + (-8) by omega]; rfl) ?_
        refine ih (m - 1) (by omega) (by omega) (s.1 + 1, upn s.2 s.1 (byN x m)) I2 (by rw [e2, upd_at]) (by show s.1 + 1 + _ ≤ 240; omega) (fun j hj => ?_) (by rw [← hR, hps, pb1, if_neg (by omega)]) (fun q q1 q2 => by rw [o2 q q1, o1 q q2]; exact hI q q1 q2) (fun j hj => by rw [e2, upd_nj _ _ hj, o1 253 (by decide)]; exact hf j hj)
        have hj' : j < s.1 + 1 := hj
        show _ = by8 (upn s.2 s.1 (byN x m) j)
        rw [o2 254 (by decide), e1]
        by_cases q : j = s.1
        · rw [q, upd_at, upn_eq]; exact low_8 _
        · rw [upd_nj _ _ q, upn_ne _ _ q]; exact hc j (by omega)
      · refine Sx.goto (t := 43) dX12_put_17 (by decide) ?_
        refine Sx.sub' [(2, .int (iI (8 * (m : Int) - 8))), (0, .ref 253), (1, .int x)] (by rw [show (8 * (m : Int) - 8) = ((8 * (m - 1) : Nat) : Int) by omega, ← nI_iI]; rfl) ?_
        refine Sx.iinc (v := (iI ((8 * (m : Int) - 8) + (-8)))) (lv' := [(2, .int (iI ((8 * (m : Int) - 8) + (-8)))), (0, .ref 253), (1, .int x)]) dX12_put_43 rfl (iI_add _ _) (by decide) rfl ?_
        refine Sx.goto (t := 3) dX12_put_46 (by decide) ?_
        refine Sx.sub' [(2, .int (iI (8 * ((m - 1 : Nat) : Int) - 8))), (0, .ref 253), (1, .int x)] (by rw [show (8 * ((m - 1 : Nat) : Int) - 8) = 8 * (m : Int) - 8 + (-8) by omega]; rfl) ?_
        exact ih (m - 1) (by omega) (by omega) s I hn (by omega) hc (by rw [← hR, hps, pb1, if_pos (by omega)]) hI hf
set_option maxRecDepth 20000 in
set_option maxHeartbeats 1000000 in
theorem k_put {G : Gt} {l : Launch} {Z : Zt} {R : Rt} {I : It} {L : Lt} {post : Pt'} {x : Int32} {s : Nat × (Nat → Nat)} (W : WF Z R) (hn : I 253 6 = nI s.1) (hbs : s.1 + bcW x 4 ≤ 240) (hc : ∀ j, j < s.1 → I 254 j = by8 (s.2 j)) (h : ∀ I', I' 253 6 = nI (puW x 4 s).1 → (∀ j, j < (puW x 4 s).1 → I' 254 j = by8 ((puW x 4 s).2 j)) → (∀ q, q ≠ 253 → q ≠ 254 → I' q = I q) → (∀ j, j ≠ 6 → I' 253 j = I 253 j) → post none Z R I' L) : Cx G l mX12_put 1 0 0 [.ref 253, .int x] Z R I L post := by
  refine Cx.of (by decide +kernel) (by exact Nat.le_of_ble_eq_true rfl) ?_
  refine Sx.bipush (v := (nI 24)) dX12_put_0 (by decide) ?_
  refine Sx.istore_n (lv' := [(2, .int (nI 24)), (0, .ref 253), (1, .int x)]) dX12_put_2 (by decide) rfl ?_
  refine Sx.sub' [(2, .int (iI (8 * ((4 : Nat) : Int) - 8))), (0, .ref 253), (1, .int x)] rfl ?_
  exact l_k_put W h 5 4 (by decide) (by decide) s I hn hbs hc rfl (fun _ _ _ => rfl) (fun _ _ => rfl)
set_option maxRecDepth 20000 in
set_option maxHeartbeats 1000000 in
theorem l_c_append {G : Gt} {l : Launch} {Z : Zt} {R : Rt} {L : Lt} {post : Pt'} {x : Int32} {I0 : It} {sf : Nat × (Nat → Nat)} (W : WF Z R) (h : ∀ I', I' 101 1 = nI sf.1 → (∀ j, j < sf.1 → I' 102 j = nI (sf.2 j)) → (∀ q, q ≠ 101 → q ≠ 102 → I' q = I0 q) → (∀ j, j ≠ 1 → I' 101 j = I0 101 j) → post none Z R I' L) :
    ∀ (r m : Nat), m < r → m ≤ 4 → ∀ (s : Nat × (Nat → Nat)) (I : It), I 101 1 = nI s.1 → s.1 + bcW x m ≤ 240 → (∀ j, j < s.1 → I 102 j = nI (s.2 j)) → puW x m s = sf → (∀ q, q ≠ 101 → q ≠ 102 → I q = I0 q) → (∀ j, j ≠ 1 → I 101 j = I0 101 j) → Sx G l mX9_append 1 0 0 3 [(2, .int (iI (8 * (m : Int) - 8))), (0, .ref 101), (1, .int x)] [] Z R I L post := by
  intro r
  induction r with
  | zero => intro m h1; omega
  | succ r ih =>
    intro m h1 h4 s I hn hbs hc hR hI hf
    refine Sx.iload_n dX9_append_3 rfl ?_
    refine Sx.if_ltV (t := 64) dX9_append_4 (by decide) (vZ (by omega)) (fun c4 => ?_) (fun c4 => ?_)
    · have hm0 : m = 0 := by omega
      subst hm0
      refine Sx.vret dX9_append_64 rfl ?_
      rw [puW_0] at hR
      subst hR
      exact h I hn hc hI hf
    · have hm1 : 1 ≤ m := by omega
      have hlo : byN x m < 256 := (low_e _).2
      have hps : puW x m s = puW x (m - 1) (pb1 s (byN x m)) := by rw [show m = m - 1 + 1 by omega, puW_s, Nat.add_sub_cancel]
      have hbm : bcW x m = bcW x (m - 1) + (if byN x m = 0 then 0 else 1) := by rw [show m = m - 1 + 1 by omega, bcW, Nat.add_sub_cancel]
      have hb1 : byN x m ≠ 0 → bcW x m = bcW x (m - 1) + 1 := fun z => by rw [hbm, if_neg z]
      have hb0 : byN x m = 0 → bcW x m = bcW x (m - 1) := fun z => by rw [hbm, if_pos z]; rfl
      clear hbm
      refine Sx.sub' [(2, .int (nI (8 * (m - 1)))), (0, .ref 101), (1, .int x)] (by rw [show (8 * (m : Int) - 8) = ((8 * (m - 1) : Nat) : Int) by omega, ← nI_iI]; rfl) ?_
      refine Sx.iload_n dX9_append_7 rfl ?_
      refine Sx.iload_n dX9_append_8 rfl ?_
      refine Sx.ishr dX9_append_9 ?_
      refine Sx.top (show _ = (x >>> (nI (8 * (m - 1)) &&& 31)) from rfl) ?_
      refine Sx.sipush (v := (nI 255)) dX9_append_10 (by decide) ?_
      refine Sx.iand dX9_append_13 ?_
      refine Sx.top (show _ = (nI (byN x m)) from (low_e _).1) ?_
      refine Sx.istore_n (lv' := [(3, .int (nI (byN x m))), (2, .int (nI (8 * (m - 1)))), (0, .ref 101), (1, .int x)]) dX9_append_14 (by decide) rfl ?_
      refine Sx.iload_n dX9_append_15 rfl ?_
      refine Sx.if_eqV (t := 58) dX9_append_16 (by decide) (vN (by omega)) (fun c16 => ?_) (fun c16 => ?_)
      · refine Sx.sub' [(3, .int (nI (byN x m))), (2, .int (iI (8 * (m : Int) - 8))), (0, .ref 101), (1, .int x)] (by rw [show (8 * (m : Int) - 8) = ((8 * (m - 1) : Nat) : Int) by omega, ← nI_iI]; rfl) ?_
        refine Sx.iinc (v := (iI ((8 * (m : Int) - 8) + (-8)))) (lv' := [(2, .int (iI ((8 * (m : Int) - 8) + (-8)))), (3, .int (nI (byN x m))), (0, .ref 101), (1, .int x)]) dX9_append_58 rfl (iI_add _ _) (by decide) rfl ?_
        refine Sx.goto (t := 3) dX9_append_61 (by decide) ?_
        refine Sx.sub' [(2, .int (iI (8 * ((m - 1 : Nat) : Int) - 8))), (0, .ref 101), (1, .int x)] (by rw [show (8 * ((m - 1 : Nat) : Int) - 8) = 8 * (m : Int) - 8 + (-8) by omega]; rfl) ?_
        exact ih (m - 1) (by omega) (by omega) s I hn (by omega) hc (by rw [← hR, hps, pb1, if_pos (by omega)]) hI hf
      · refine Sx.aload_n dX9_append_19 rfl ?_
        refine Sx.getfV (v := (nI s.1)) dX9_append_20 lkf_X9_15_9 (o_101 W) hn ?_
        refine Sx.if_ltV (t := 58) dX9_append_23 (by decide) (vN (by omega)) (fun c23 => False.elim (by omega)) (fun c23 => ?_)
        refine Sx.aload_n dX9_append_26 rfl ?_
        refine Sx.getfV (v := (nI s.1)) dX9_append_27 lkf_X9_15_9 (o_101 W) hn ?_
        refine Sx.aload_n dX9_append_30 rfl ?_
        refine Sx.getfR dX9_append_31 lkf_X9_9_9 (o_101 W) (r_101_0 W) ?_
        refine Sx.alen (v := nI 240) dX9_append_34 (a_102 W) (by decide) (by decide) rfl ?_
        refine Sx.icmp_geV (t := 58) dX9_append_35 (by decide) (vN (by omega)) (vN (by decide)) (fun c35 => ?_) (fun c35 => ?_)
        · refine Sx.sub' [(3, .int (nI (byN x m))), (2, .int (iI (8 * (m : Int) - 8))), (0, .ref 101), (1, .int x)] (by rw [show (8 * (m : Int) - 8) = ((8 * (m - 1) : Nat) : Int) by omega, ← nI_iI]; rfl) ?_
          refine Sx.iinc (v := (iI ((8 * (m : Int) - 8) + (-8)))) (lv' := [(2, .int (iI ((8 * (m : Int) - 8) + (-8)))), (3, .int (nI (byN x m))), (0, .ref 101), (1, .int x)]) dX9_append_58 rfl (iI_add _ _) (by decide) rfl ?_
          refine Sx.goto (t := 3) dX9_append_61 (by decide) ?_
          refine Sx.sub' [(2, .int (iI (8 * ((m - 1 : Nat) : Int) - 8))), (0, .ref 101), (1, .int x)] (by rw [show (8 * ((m - 1 : Nat) : Int) - 8) = 8 * (m : Int) - 8 + (-8) by omega]; rfl) ?_
          exact ih (m - 1) (by omega) (by omega) s I hn (by omega) hc (by rw [← hR, hps, pb1, if_pos (by omega)]) hI hf
        · refine Sx.aload_n dX9_append_38 rfl ?_
          refine Sx.getfR dX9_append_39 lkf_X9_9_9 (o_101 W) (r_101_0 W) ?_
          refine Sx.aload_n dX9_append_42 rfl ?_
          refine Sx.getfV (v := (nI s.1)) dX9_append_43 lkf_X9_15_9 (o_101 W) hn ?_
          refine Sx.iload_n dX9_append_46 rfl ?_
          refine Sx.iastN dX9_append_47 (a_102 W) (by omega) (by decide) (fun I1 e1 o1 => ?_)
          refine Sx.aload_n dX9_append_48 rfl ?_
          refine Sx.dup dX9_append_49 rfl ?_
          refine Sx.getfV (v := (nI s.1)) dX9_append_50 lkf_X9_15_9 (o_101 W) (by rw [o1 101 (by decide)]; exact hn) ?_
          refine Sx.iconst (v := (nI 1)) dX9_append_53 (by decide) ?_
          refine Sx.iaddN dX9_append_54 ?_
          refine Sx.putfV dX9_append_55 lkp_X9_15_9 (o_101 W) rfl rfl (fun I2 e2 o2 => ?_)
          refine Sx.sub' [(3, .int (nI (byN x m))), (2, .int (iI (8 * (m : Int) - 8))), (0, .ref 101), (1, .int x)] (by rw [show (8 * (m : Int) - 8) = ((8 * (m - 1) : Nat) : Int) by omega, ← nI_iI]; rfl) ?_
          refine Sx.iinc (v := (iI ((8 * (m : Int) - 8) + (-8)))) (lv' := [(2, .int (iI ((8 * (m : Int) - 8) + (-8)))), (3, .int (nI (byN x m))), (0, .ref 101), (1, .int x)]) dX9_append_58 rfl (iI_add _ _) (by decide) rfl ?_
          refine Sx.goto (t := 3) dX9_append_61 (by decide) ?_
          refine Sx.sub' [(2, .int (iI (8 * ((m - 1 : Nat) : Int) - 8))), (0, .ref 101), (1, .int x)] (by rw [show (8 * ((m - 1 : Nat) : Int) - 8) = 8 * (m : Int) - 8 + (-8) by omega]; rfl) ?_
          refine ih (m - 1) (by omega) (by omega) (s.1 + 1, upn s.2 s.1 (byN x m)) I2 (by rw [e2, upd_at]) (by show s.1 + 1 + _ ≤ 240; omega) (fun j hj => ?_) (by rw [← hR, hps, pb1, if_neg (by omega)]) (fun q q1 q2 => by rw [o2 q q1, o1 q q2]; exact hI q q1 q2) (fun j hj => by rw [e2, upd_nj _ _ hj, o1 101 (by decide)]; exact hf j hj)
          have hj' : j < s.1 + 1 := hj
          show _ = nI (upn s.2 s.1 (byN x m) j)
          rw [o2 102 (by decide), e1]
          by_cases q : j = s.1
          · rw [q, upd_at, upn_eq]
          · rw [upd_nj _ _ q, upn_ne _ _ q]; exact hc j (by omega)
set_option maxRecDepth 20000 in
set_option maxHeartbeats 1000000 in
theorem c_append {G : Gt} {l : Launch} {Z : Zt} {R : Rt} {I : It} {L : Lt} {post : Pt'} {x : Int32} {s : Nat × (Nat → Nat)} (W : WF Z R) (hn : I 101 1 = nI s.1) (hbs : s.1 + bcW x 4 ≤ 240) (hc : ∀ j, j < s.1 → I 102 j = nI (s.2 j)) (h : ∀ I', I' 101 1 = nI (puW x 4 s).1 → (∀ j, j < (puW x 4 s).1 → I' 102 j = nI ((puW x 4 s).2 j)) → (∀ q, q ≠ 101 → q ≠ 102 → I' q = I q) → (∀ j, j ≠ 1 → I' 101 j = I 101 j) → post none Z R I' L) : Cx G l mX9_append 1 0 0 [.ref 101, .int x] Z R I L post := by
  refine Cx.of (by decide +kernel) (by exact Nat.le_of_ble_eq_true rfl) ?_
  refine Sx.bipush (v := (nI 24)) dX9_append_0 (by decide) ?_
  refine Sx.istore_n (lv' := [(2, .int (nI 24)), (0, .ref 101), (1, .int x)]) dX9_append_2 (by decide) rfl ?_
  refine Sx.sub' [(2, .int (iI (8 * ((4 : Nat) : Int) - 8))), (0, .ref 101), (1, .int x)] rfl ?_
  exact l_c_append W h 5 4 (by decide) (by decide) s I hn hbs hc rfl (fun _ _ _ => rfl) (fun _ _ => rfl)
