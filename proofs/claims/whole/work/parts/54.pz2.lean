/-! the reference reads laws -/
section PZQ
variable {T : Nat → Nat} {n : Nat} {e : Nat → Int} {k dp c : Nat} {v : Int}
theorem pb_q {N : Nat} {r : Bool × Nat × Int} {f : Nat → Int → Bool × Nat × Int} (h1 : r.2.1 ≤ N) (h2 : ∀ q w, q ≤ N → (f q w).2.1 ≤ N) : (pb r f).2.1 ≤ N := by
  cases hr : r.1 with
  | true => rw [pb_t hr]; exact h2 _ _ h1
  | false => rw [pb_f hr]; exact h1
theorem pz_q : ∀ k m dp c v, c ≤ n → (pz T n e k m dp c v).2.1 ≤ n
  | 0, _, _, c, _ => fun h => h
  | k + 1, m, dp, c, v => fun hc => by
    have ih := fun m dp c v => pz_q k m dp c v
    have hx := nx_b T n c
    have hs := sgn_or T n (nx T n c)
    have hn : nx T n c ≤ n := by omega
    have close : ∀ (s : Nat), 0 < s → ∀ (q : Nat) (w : Int), q ≤ n → (if sgn T n (nx T n q) = s then ((true, nx T n q + 1, w) : Bool × Nat × Int) else (false, nx T n q, 0)).2.1 ≤ n := by
      intro s h0 q w hq
      have h1 := nx_b T n q
      have h2 := sgn_or T n (nx T n q)
      split
      · show nx T n q + 1 ≤ n; omega
      · show nx T n q ≤ n; omega
    unfold pz
    by_cases c0 : m = 0
    · rw [if_pos c0]
      split
      · next h =>
        have : sgn T n (nx T n c) ≠ 0 := by
          intro q
          rw [q] at h
          exact absurd h (by decide)
        show nx T n c + 1 ≤ n; omega
      · split
        · split
          · exact hn
          · exact pb_q (ih 2 _ _ 0 (by omega)) (close 93 (by decide))
        · have h3 := rdc_b T n 4 (nx T n c)
          split
          · split
            · show rdc T n 4 (nx T n c) ≤ n; omega
            · show rdc T n 4 (nx T n c) ≤ n; omega
          · exact hn
    rw [if_neg c0]
    by_cases c1 : m = 1
    · rw [if_pos c1]; exact pb_q (ih 0 dp c 0 hc) (fun q w hq => ih 7 dp q w hq)
    rw [if_neg c1]
    by_cases c2 : m = 2
    · rw [if_pos c2]; exact pb_q (ih 1 dp c 0 hc) (fun q w hq => ih 8 dp q w hq)
    rw [if_neg c2]
    by_cases c3 : m = 3
    · rw [if_pos c3]; exact pb_q (ih 2 dp c 0 hc) (fun q w hq => ih 11 dp q w hq)
    rw [if_neg c3]
    by_cases c4 : m = 4
    · rw [if_pos c4]
      split
      · split
        · exact hn
        · exact pb_q (ih 4 _ _ 0 (by omega)) (fun q w hq => hq)
      · split
        · split
          · exact hn
          · exact pb_q (ih 6 _ _ 0 (by omega)) (close 41 (by decide))
        · exact ih 3 dp _ 0 hn
    rw [if_neg c4]
    by_cases c5 : m = 5
    · rw [if_pos c5]; exact pb_q (ih 4 dp c 0 hc) (fun q w hq => ih 9 dp q w hq)
    rw [if_neg c5]
    by_cases c6 : m = 6
    · rw [if_pos c6]; exact pb_q (ih 5 dp c 0 hc) (fun q w hq => ih 10 dp q w hq)
    rw [if_neg c6]
    by_cases c7 : m = 7
    · rw [if_pos c7]
      split
      · exact pb_q (ih 0 dp _ 0 (by omega)) (fun q w hq => ih 7 dp q _ hq)
      · exact hn
    rw [if_neg c7]
    by_cases c8 : m = 8
    · rw [if_pos c8]
      split
      · exact pb_q (ih 1 dp _ 0 (by omega)) (fun q w hq => ih 8 dp q _ hq)
      · exact hn
    rw [if_neg c8]
    by_cases c9 : m = 9
    · rw [if_pos c9]
      split
      · exact pb_q (ih 4 dp _ 0 (by omega)) (fun q w hq => ih 9 dp q _ hq)
      · exact hn
    rw [if_neg c9]
    by_cases c10 : m = 10
    · rw [if_pos c10]
      split
      · exact pb_q (ih 5 dp _ 0 (by omega)) (fun q w hq => ih 10 dp q _ hq)
      · exact hn
    rw [if_neg c10]
    by_cases c11 : m = 11
    · rw [if_pos c11]
      split
      · exact pb_q (ih 2 dp _ 0 (by omega)) (fun q w hq => hq)
      · exact hn
    rw [if_neg c11]
    by_cases c12 : m = 12
    · rw [if_pos c12]; exact pb_q (ih 11 dp c v hc) (fun q w hq => ih 9 dp q w hq)
    rw [if_neg c12]
    exact pb_q (ih 12 dp c v hc) (fun q w hq => ih 10 dp q w hq)
end PZQ
def EL (I : It) (e : Nat → Int) : Prop := ∀ s, s < 128 → VZ (I 257 s) (e s)
theorem EL.fa {I I' : It} {e : Nat → Int} (h : EL I e) (F : FA I I') : EL I' e := fun s hs => by rw [F.1 257 (by decide)]; exact h s hs
theorem isLt_b : ∀ s, s < 256 → isLt s = true → s < 128 ∧ 0 < s := by decide +kernel
theorem by8_lo : ∀ m, m < 128 → by8 m = nI m := by decide +kernel
theorem l_lookS {G : Gt} {l : Launch} {Z : Zt} {R : Rt} {I : It} {L : Lt} {post : Pt'} {tx b n c : Nat} {T : Nat → Nat} (W : WF Z R) (hM : MR R I tx b n c T) (h : post (some (.int (iI (lkN T n c)))) Z R I L) : Sx G l mX12_look 1 0 0 43 [(0, .ref 253)] [] Z R I L post := by
  obtain ⟨N, hA, hbN, hN⟩ := hM.ar W
  obtain ⟨h1, h2, h3, h4, h5, h6, h7, h8, h9⟩ := id hM
  have hTb := fun q : c < n => h8 c q
  have hT8 := s8_or (T c)
  refine Sx.aload_n dX12_look_43 rfl ?_
  refine Sx.getfV (v := (nI c)) dX12_look_44 lkf_X12_132_12 (o_253 W) h4 ?_
  refine Sx.aload_n dX12_look_47 rfl ?_
  refine Sx.getfV (v := (nI n)) dX12_look_48 lkf_X12_135_12 (o_253 W) h3 ?_
  refine Sx.icmp_geV (t := 75) dX12_look_51 (by decide) (vN (by omega)) (vN (by omega)) (fun c51 => ?_) (fun c51 => ?_)
  · refine Sx.iconst (v := (iI (-1))) dX12_look_75 (by decide) ?_
    refine Sx.iret dX12_look_76 rfl rfl ?_
    exact pZZ (by have := lkN_or T n c; omega) h
  · refine Sx.aload_n dX12_look_54 rfl ?_
    refine Sx.getfR dX12_look_55 lkf_X12_23_12 (o_253 W) h1 ?_
    refine Sx.aload_n dX12_look_58 rfl ?_
    refine Sx.getfV (v := (nI b)) dX12_look_59 lkf_X12_138_12 (o_253 W) h2 ?_
    refine Sx.aload_n dX12_look_62 rfl ?_
    refine Sx.getfV (v := (nI c)) dX12_look_63 lkf_X12_132_12 (o_253 W) h4 ?_
    refine Sx.iaddN dX12_look_66 ?_
    refine Sx.baldN dX12_look_67 hA (by omega) hN (v := (by8 (T c))) (h5 c (by omega)) ?_
    refine Sx.sipush (v := (nI 255)) dX12_look_68 (by decide) ?_
    refine Sx.iand dX12_look_71 ?_
    refine Sx.top (show _ = (nI (T c)) from by8_255 (T c) (by have := hTb (by omega); omega)) ?_
    refine Sx.goto (t := 76) dX12_look_72 (by decide) ?_
    refine Sx.iret dX12_look_76 rfl rfl ?_
    exact pZN (by have := lkN_or T n c; omega) h
theorem k_lookS {G : Gt} {l : Launch} {Z : Zt} {R : Rt} {I : It} {L : Lt} {post : Pt'} {tx b n c : Nat} {T : Nat → Nat} (W : WF Z R) (hM : MR R I tx b n c T) (hs : ¬ (c < n ∧ T c = 32)) (h : post (some (.int (iI (lkN T n c)))) Z R I L) : Cx G l mX12_look 1 0 0 [.ref 253] Z R I L post := by
  refine Cx.of (by decide +kernel) (by exact Nat.le_of_ble_eq_true rfl) ?_
  have key := l_lookS (G := G) (l := l) W hM h
  obtain ⟨N, hA, hbN, hN⟩ := hM.ar W
  obtain ⟨h1, h2, h3, h4, h5, h6, h7, h8, h9⟩ := id hM
  have hTb := fun q : c < n => h8 c q
  have hT8 := s8_or (T c)
  refine Sx.aload_n dX12_look_0 rfl ?_
  refine Sx.getfV (v := (nI c)) dX12_look_1 lkf_X12_132_12 (o_253 W) h4 ?_
  refine Sx.aload_n dX12_look_4 rfl ?_
  refine Sx.getfV (v := (nI n)) dX12_look_5 lkf_X12_135_12 (o_253 W) h3 ?_
  refine Sx.icmp_geV (t := 43) dX12_look_8 (by decide) (vN (by omega)) (vN (by omega)) (fun c8 => ?_) (fun c8 => ?_)
  · exact key
  · refine Sx.aload_n dX12_look_11 rfl ?_
    refine Sx.getfR dX12_look_12 lkf_X12_23_12 (o_253 W) h1 ?_
    refine Sx.aload_n dX12_look_15 rfl ?_
    refine Sx.getfV (v := (nI b)) dX12_look_16 lkf_X12_138_12 (o_253 W) h2 ?_
    refine Sx.aload_n dX12_look_19 rfl ?_
    refine Sx.getfV (v := (nI c)) dX12_look_20 lkf_X12_132_12 (o_253 W) h4 ?_
    refine Sx.iaddN dX12_look_23 ?_
    refine Sx.baldN dX12_look_24 hA (by omega) hN (v := (by8 (T c))) (h5 c (by omega)) ?_
    refine Sx.bipush (v := (nI 32)) dX12_look_25 (by decide) ?_
    refine Sx.icmp_neV (t := 43) dX12_look_27 (by decide) (v8 (T c) (by have := hTb (by omega); omega)) (vN (by decide)) (fun c27 => ?_) (fun c27 => ?_)
    · exact key
    · exfalso; exact hs ⟨by omega, by have := hTb (by omega); omega⟩
theorem k_amLk {G : Gt} {l : Launch} {Z : Zt} {R : Rt} {I : It} {L : Lt} {post : Pt'} {k0 : Nat} {T : Nat → Nat} {n q : Nat} (hk : k0 < 6) (h : post (some (.int (b2i (decide (spN k0 (nI (sgn T n q)) ≠ 0))))) Z R I L) : Cx G l mX12_isAmong 5 0 0 [.ref (20 + k0), .int (iI (lkN T n q))] Z R I L post :=
  k_isAmong hk (by rw [spN_lk k0 hk]; exact h)
def PzI (G : Gt) (l : Launch) (Z : Zt) (R : Rt) (L : Lt) (tx b n : Nat) (T : Nat → Nat) (e : Nat → Int) (μ : Mi) (d0 rk m : Nat) (as : Int → List Value) (k : Nat) : Prop := ∀ {I : It} {c dp : Nat} {v : Int} {post : Pt'}, MR R I tx b n c T → I 253 11 = iI (-1) → I 253 12 = nI dp → dp ≤ 6 → EL I e → bd6 v → 16 * (n - c) + rk ≤ k → ((pz T n e k m dp c v).1 = false → ∀ (I' : It) (x : Int32), FA I I' → I' 253 11 = nI (pz T n e k m dp c v).2.1 → post (some (.int x)) Z R I' L) → ((pz T n e k m dp c v).1 = true → ∀ I', FA I I' → MR R I' tx b n (pz T n e k m dp c v).2.1 T → I' 253 11 = iI (-1) → I' 253 12 = nI dp → post (some (.int (iI (pz T n e k m dp c v).2.2))) Z R I' L) → Cx G l μ (d0 - 3 * dp) 0 0 (as v) Z R I L post
def PzB (G : Gt) (l : Launch) (Z : Zt) (R : Rt) (L : Lt) (tx b n : Nat) (T : Nat → Nat) (e : Nat → Int) (μ : Mi) (d0 rk m : Nat) (as : Int → List Value) (k : Nat) : Prop := ∀ {I : It} {c dp : Nat} {v : Int} {post : Pt'}, MR R I tx b n c T → I 253 11 = iI (-1) → I 253 12 = nI dp → dp ≤ 6 → EL I e → bd6 v → 16 * (n - c) + rk ≤ k → ((pz T n e k m dp c v).1 = false → ∀ (I' : It) (x : Bool), FA I I' → I' 253 11 = nI (pz T n e k m dp c v).2.1 → post (some (.int (b2i x))) Z R I' L) → ((pz T n e k m dp c v).1 = true → ∀ I', FA I I' → MR R I' tx b n (pz T n e k m dp c v).2.1 T → I' 253 11 = iI (-1) → I' 253 12 = nI dp → post (some (.int (b2i (decide ((pz T n e k m dp c v).2.2 ≠ 0))))) Z R I' L) → Cx G l μ (d0 - 3 * dp) 0 0 (as v) Z R I L post
def PzIL (G : Gt) (l : Launch) (Z : Zt) (R : Rt) (L : Lt) (tx b n : Nat) (T : Nat → Nat) (e : Nat → Int) (μ : Mi) (d0 rk m : Nat) (pc : Nat) (as : Int → List (Nat × Value)) (k : Nat) : Prop := ∀ {I : It} {c dp : Nat} {v : Int} {post : Pt'}, MR R I tx b n c T → I 253 11 = iI (-1) → I 253 12 = nI dp → dp ≤ 6 → EL I e → bd6 v → 16 * (n - c) + rk ≤ k → ((pz T n e k m dp c v).1 = false → ∀ (I' : It) (x : Int32), FA I I' → I' 253 11 = nI (pz T n e k m dp c v).2.1 → post (some (.int x)) Z R I' L) → ((pz T n e k m dp c v).1 = true → ∀ I', FA I I' → MR R I' tx b n (pz T n e k m dp c v).2.1 T → I' 253 11 = iI (-1) → I' 253 12 = nI dp → post (some (.int (iI (pz T n e k m dp c v).2.2))) Z R I' L) → Sx G l μ (d0 - 3 * dp) 0 0 pc (as v) [] Z R I L post
def PzBL (G : Gt) (l : Launch) (Z : Zt) (R : Rt) (L : Lt) (tx b n : Nat) (T : Nat → Nat) (e : Nat → Int) (μ : Mi) (d0 rk m : Nat) (pc : Nat) (as : Int → List (Nat × Value)) (k : Nat) : Prop := ∀ {I : It} {c dp : Nat} {v : Int} {post : Pt'}, MR R I tx b n c T → I 253 11 = iI (-1) → I 253 12 = nI dp → dp ≤ 6 → EL I e → bd6 v → 16 * (n - c) + rk ≤ k → ((pz T n e k m dp c v).1 = false → ∀ (I' : It) (x : Bool), FA I I' → I' 253 11 = nI (pz T n e k m dp c v).2.1 → post (some (.int (b2i x))) Z R I' L) → ((pz T n e k m dp c v).1 = true → ∀ I', FA I I' → MR R I' tx b n (pz T n e k m dp c v).2.1 T → I' 253 11 = iI (-1) → I' 253 12 = nI dp → post (some (.int (b2i (decide ((pz T n e k m dp c v).2.2 ≠ 0))))) Z R I' L) → Sx G l μ (d0 - 3 * dp) 0 0 pc (as v) [] Z R I L post
def PzAll (G : Gt) (l : Launch) (Z : Zt) (R : Rt) (L : Lt) (tx b n : Nat) (T : Nat → Nat) (e : Nat → Int) (k : Nat) : Prop := PzI G l Z R L tx b n T e mX12_atom 24 1 0 (fun _ => [.ref 253]) k ∧ PzI G l Z R L tx b n T e mX12_term 25 2 1 (fun _ => [.ref 253]) k ∧ PzI G l Z R L tx b n T e mX12_sum 26 3 2 (fun _ => [.ref 253]) k ∧ PzB G l Z R L tx b n T e mX12_compares 27 4 3 (fun _ => [.ref 253, .int (nI 0), .int (nI 0)]) k ∧ PzB G l Z R L tx b n T e mX12_unit 28 5 4 (fun _ => [.ref 253]) k ∧ PzB G l Z R L tx b n T e mX12_part 29 6 5 (fun _ => [.ref 253, .int (nI 0), .int (nI 0)]) k ∧ PzB G l Z R L tx b n T e mX12_condition 30 7 6 (fun _ => [.ref 253, .int (nI 0), .int (nI 0)]) k ∧ PzIL G l Z R L tx b n T e mX12_term 25 1 7 5 (fun v => [(1, .int (iI v)), (0, .ref 253)]) k ∧ PzIL G l Z R L tx b n T e mX12_sum 26 1 8 5 (fun v => [(1, .int (iI v)), (0, .ref 253)]) k ∧ PzBL G l Z R L tx b n T e mX12_part 29 1 9 18 (fun v => [(3, .int (b2i (decide (v ≠ 0)))), (0, .ref 253)]) k ∧ PzBL G l Z R L tx b n T e mX12_condition 30 1 10 7 (fun v => [(3, .int (b2i (decide (v ≠ 0)))), (0, .ref 253)]) k ∧ PzBL G l Z R L tx b n T e mX12_compares 27 3 11 13 (fun v => [(3, .int (iI v)), (0, .ref 253)]) k ∧ PzB G l Z R L tx b n T e mX12_compares 27 3 11 (fun v => [.ref 253, .int (nI 1), .int (iI v)]) k ∧ PzB G l Z R L tx b n T e mX12_part 29 4 12 (fun v => [.ref 253, .int (nI 1), .int (iI v)]) k ∧ PzB G l Z R L tx b n T e mX12_condition 30 5 13 (fun v => [.ref 253, .int (nI 1), .int (iI v)]) k
theorem bd6_0 : bd6 0 := by unfold bd6; omega
set_option maxRecDepth 20000 in
set_option maxHeartbeats 1000000 in
theorem s_atom {G : Gt} {l : Launch} {Z : Zt} {R : Rt} {L : Lt} {tx b n : Nat} {T : Nat → Nat} {e : Nat → Int} (W : WF Z R) (hE0 : ∀ s, bd6 (e s)) (k : Nat) (ih : PzAll G l Z R L tx b n T e k) : PzI G l Z R L tx b n T e mX12_atom 24 1 0 (fun _ => [.ref 253]) (k + 1) := by
  obtain ⟨hAt, hTe, hSu, hCo, hUn, hPa, hCn, hL7, hL8, hL9, hL10, hK, hC1, hP1, hD1⟩ := ih
  intro I c dp v post hM hf hd hdp hE hbv hk hno hyes
  have hbv2 : -1000000 ≤ v ∧ v ≤ 1000000 := hbv
  have hn0 := hM.2.2.2.2.2.1
  have hc0 := hM.2.2.2.2.2.2.1
  have hRt := hM.1
  obtain ⟨N, hA, hbN, hN⟩ := hM.ar W
  obtain ⟨r, hR⟩ : ∃ r, pz T n e (k + 1) 0 dp c v = r := ⟨_, rfl⟩
  rw [hR] at hno hyes
  refine Cx.of (by decide +kernel) (by exact Nat.le_of_ble_eq_true rfl) ?_
  refine Sx.aload_n dX12_atom_0 rfl ?_
  refine Sx.callV0 dX12_atom_1 lkv_X12_151 (rcv_12 (o_253 W)) (by omega) (by decide) (Nat.le_of_ble_eq_true rfl) rfl rfl (k_look W hM (fun I1 hM1 g1 f1 d1 => ?_))
  have hF1 := (FA.rf I).tr g1
  have hf1 := f1.trans hf
  have hd1 := d1.trans hd
  have hx1 := nx_b T n c
  have hk1 := lkN_or T n (nx T n c)
  have ht1 := hM1.2.2.2.2.2.2.2.1 (nx T n c)
  have hc1 := hM1.2.2.2.2.2.2.1
  have hn1 := hM1.2.2.2.2.2.1
  have hs1 := sgn_or T n (nx T n c)
  refine Sx.istore_n (lv' := [(1, .int (iI (lkN T n (nx T n c)))), (0, .ref 253)]) dX12_atom_4 (by decide) rfl ?_
  refine Sx.ldcS (k := 1) dX12_atom_5 rfl (by decide) rfl ?_
  refine Sx.iload_n dX12_atom_7 rfl ?_
  refine Sx.callS2 dX12_atom_8 lkc_X12_167  (by omega) (by decide) (Nat.le_of_ble_eq_true rfl) rfl rfl (k_amLk (k0 := 1) (by decide) ?_)
  refine Sx.if_eqB (t := 31) dX12_atom_11 (by decide) (fun c11 => ?_) (fun c11 => ?_)
  · have c11 : isLt (sgn T n (nx T n c)) = false := c11
    refine Sx.iload_n dX12_atom_31 rfl ?_
    refine Sx.bipush (v := (nI 91)) dX12_atom_32 (by decide) ?_
    refine Sx.icmp_neV (t := 74) dX12_atom_34 (by decide) (vZ (by omega)) (vN (by decide)) (fun c34 => ?_) (fun c34 => ?_)
    · refine Sx.aload_n dX12_atom_74 rfl ?_
      refine Sx.callV0 dX12_atom_75 lkv_X12_181 (rcv_12 (o_253 W)) (by omega) (by decide) (Nat.le_of_ble_eq_true rfl) rfl rfl (k_isDigit W hM1 ?_)
      refine Sx.if_neB (t := 86) dX12_atom_78 (by decide) (fun c78 => ?_) (fun c78 => ?_)
      · refine Sx.iconst (v := (nI 0)) dX12_atom_86 (by decide) ?_
        refine Sx.istore_n (lv' := [(2, .int (nI 0)), (1, .int (iI (lkN T n (nx T n c)))), (0, .ref 253)]) dX12_atom_87 (by decide) rfl ?_
        refine Sx.iconst (v := (nI 0)) dX12_atom_88 (by decide) ?_
        refine Sx.istore_n (lv' := [(3, .int (nI 0)), (2, .int (nI 0)), (1, .int (iI (lkN T n (nx T n c)))), (0, .ref 253)]) dX12_atom_89 (by decide) rfl ?_
        refine Sx.aload_n dX12_atom_90 rfl ?_
        refine Sx.callV0 dX12_atom_91 lkv_X12_181 (rcv_12 (o_253 W)) (by omega) (by decide) (Nat.le_of_ble_eq_true rfl) rfl rfl (k_isDigit W hM1 ?_)
        refine Sx.if_eqB (t := 156) dX12_atom_94 (by decide) (fun c94 => False.elim (by rw [c78] at c94; cases c94)) (fun c94 => ?_)
        have yy0 := (isDN_iff _).mp c78
        have yz0 := sgn_or T n (nx T n c)
        refine Sx.aload_n dX12_atom_97 rfl ?_
        refine Sx.getfV (v := (iI (-1))) dX12_atom_98 lkf_X12_141_12 (o_253 W) hf1 ?_
        refine Sx.iconst (v := (iI (-1))) dX12_atom_101 (by decide) ?_
        refine Sx.icmp_neV (t := 156) dX12_atom_102 (by decide) (vZ (by decide)) (vZ (by decide)) (fun c102 => False.elim (by omega)) (fun c102 => ?_)
        refine Sx.iload_n dX12_atom_105 rfl ?_
        refine Sx.iconst (v := (nI 4)) dX12_atom_106 (by decide) ?_
        refine Sx.icmp_neV (t := 117) dX12_atom_107 (by decide) (vN (by decide)) (vN (by decide)) (fun c107 => ?_) (fun c107 => False.elim (by omega))
        refine Sx.bipush (v := (nI 10)) dX12_atom_117 (by decide) ?_
        refine Sx.iload_n dX12_atom_119 rfl ?_
        refine Sx.imulN dX12_atom_120 ?_
        refine Sx.aload_n dX12_atom_121 rfl ?_
        refine Sx.getfR dX12_atom_122 lkf_X12_23_12 (o_253 W) hRt ?_
        refine Sx.aload_n dX12_atom_125 rfl ?_
        refine Sx.getfV (v := (nI b)) dX12_atom_126 lkf_X12_138_12 (o_253 W) hM1.2.1 ?_
        refine Sx.aload_n dX12_atom_129 rfl ?_
        refine Sx.getfV (v := (nI (nx T n c))) dX12_atom_130 lkf_X12_132_12 (o_253 W) hM1.at_ ?_
        refine Sx.iaddN dX12_atom_133 ?_
        refine Sx.baldN dX12_atom_134 hA (by omega) hN (v := (nI (T (nx T n c)))) ((hM1.2.2.2.2.1 (nx T n c) (by omega)).trans (by8_lo _ (by omega))) ?_
        refine Sx.iaddN dX12_atom_135 ?_
        refine Sx.bipush (v := (nI 48)) dX12_atom_136 (by decide) ?_
        refine Sx.isubN dX12_atom_138 (by omega) ?_
        refine Sx.istore_n (lv' := [(2, .int (nI (((10 * 0) + (T (nx T n c))) - 48))), (3, .int (nI 0)), (1, .int (iI (lkN T n (nx T n c)))), (0, .ref 253)]) dX12_atom_139 (by decide) rfl ?_
        refine Sx.aload_n dX12_atom_140 rfl ?_
        refine Sx.dup dX12_atom_141 rfl ?_
        refine Sx.getfV (v := (nI (nx T n c))) dX12_atom_142 lkf_X12_132_12 (o_253 W) hM1.at_ ?_
        refine Sx.iconst (v := (nI 1)) dX12_atom_145 (by decide) ?_
        refine Sx.iaddN dX12_atom_146 ?_
        refine Sx.putfV dX12_atom_147 lkp_X12_132_12 (o_253 W) rfl rfl (fun I2 e2 o2 => ?_)
        have hM2 : MR R I2 tx b n ((nx T n c) + 1) T := hM1.mv ((nx T n c) + 1) (by omega) (FA.up (by decide) e2 o2) (by rw [e2, upd_at])
        have hF2 := (hF1).tr (FA.up (by decide) e2 o2)
        have hf2 := Eq.trans (by rw [e2, upd_nj _ _ (by decide)] : I2 253 11 = I1 253 11) hf1
        have hd2 := Eq.trans (by rw [e2, upd_nj _ _ (by decide)] : I2 253 12 = I1 253 12) hd1
        have hk2 := lkN_or T n ((nx T n c) + 1)
        have ht2 := hM2.2.2.2.2.2.2.2.1 ((nx T n c) + 1)
        have hc2 := hM2.2.2.2.2.2.2.1
        have hn2 := hM2.2.2.2.2.2.1
        have hs2 := sgn_or T n ((nx T n c) + 1)
        refine Sx.iinc (v := (nI 1)) (lv' := [(3, .int (nI 1)), (2, .int (nI (((10 * 0) + (T (nx T n c))) - 48))), (1, .int (iI (lkN T n (nx T n c)))), (0, .ref 253)]) dX12_atom_150 rfl (nI_add 0 1) (by decide) rfl ?_
        refine Sx.goto (t := 90) dX12_atom_153 (by decide) ?_
        refine Sx.aload_n dX12_atom_90 rfl ?_
        refine Sx.callV0 dX12_atom_91 lkv_X12_181 (rcv_12 (o_253 W)) (by omega) (by decide) (Nat.le_of_ble_eq_true rfl) rfl rfl (k_isDigit W hM2 ?_)
        refine Sx.if_eqB (t := 156) dX12_atom_94 (by decide) (fun c94 => ?_) (fun c94 => ?_)
        · refine Sx.iload_n dX12_atom_156 rfl ?_
          refine Sx.iret dX12_atom_157 rfl rfl ?_
          have hE4 : rdE T n c 4 = nx T n c + 1 := by unfold rdE; rw [rdc, if_pos c78, rdc, if_neg (by rw [c94]; decide)]
          have hV4 : (rdV T n c 4 : Int) = ((((10 * 0) + (T (nx T n c))) - 48 : Nat) : Int) := by unfold rdV; rw [rdv, if_pos c78, rdv, if_neg (by rw [c94]; decide)]; omega
          rw [pz_0, if_neg (by rw [c11]; decide), if_neg (by omega), if_pos c78] at hR
          rw [hE4, if_neg (by rw [c94]; decide)] at hR
          subst hR
          have hres := hyes rfl I2 hF2 hM2 hf2 hd2
          rw [hV4, ← nI_iI] at hres
          exact hres -- (nI (((10 * 0) + (T (nx T n c))) - 48)) = iI (rdV T n c 4 : Int) by rw [hV4, ← nI_iI]]
          
        · have y1 := c94
          have yy1 := (isDN_iff _).mp y1
          have yz1 := sgn_or T n ((nx T n c) + 1)
          refine Sx.aload_n dX12_atom_97 rfl ?_
          refine Sx.getfV (v := (iI (-1))) dX12_atom_98 lkf_X12_141_12 (o_253 W) hf2 ?_
          refine Sx.iconst (v := (iI (-1))) dX12_atom_101 (by decide) ?_
          refine Sx.icmp_neV (t := 156) dX12_atom_102 (by decide) (vZ (by decide)) (vZ (by decide)) (fun c102 => False.elim (by omega)) (fun c102 => ?_)
          refine Sx.iload_n dX12_atom_105 rfl ?_
          refine Sx.iconst (v := (nI 4)) dX12_atom_106 (by decide) ?_
          refine Sx.icmp_neV (t := 117) dX12_atom_107 (by decide) (vN (by decide)) (vN (by decide)) (fun c107 => ?_) (fun c107 => False.elim (by omega))
          refine Sx.bipush (v := (nI 10)) dX12_atom_117 (by decide) ?_
          refine Sx.iload_n dX12_atom_119 rfl ?_
          refine Sx.imulN dX12_atom_120 ?_
          refine Sx.aload_n dX12_atom_121 rfl ?_
          refine Sx.getfR dX12_atom_122 lkf_X12_23_12 (o_253 W) hRt ?_
          refine Sx.aload_n dX12_atom_125 rfl ?_
          refine Sx.getfV (v := (nI b)) dX12_atom_126 lkf_X12_138_12 (o_253 W) hM2.2.1 ?_
          refine Sx.aload_n dX12_atom_129 rfl ?_
          refine Sx.getfV (v := (nI ((nx T n c) + 1))) dX12_atom_130 lkf_X12_132_12 (o_253 W) hM2.at_ ?_
          refine Sx.iaddN dX12_atom_133 ?_
          refine Sx.baldN dX12_atom_134 hA (by omega) hN (v := (nI (T ((nx T n c) + 1)))) ((hM2.2.2.2.2.1 ((nx T n c) + 1) (by omega)).trans (by8_lo _ (by omega))) ?_
          refine Sx.iaddN dX12_atom_135 ?_
          refine Sx.bipush (v := (nI 48)) dX12_atom_136 (by decide) ?_
          refine Sx.isubN dX12_atom_138 (by omega) ?_
          refine Sx.istore_n (lv' := [(2, .int (nI (((10 * (((10 * 0) + (T (nx T n c))) - 48)) + (T ((nx T n c) + 1))) - 48))), (3, .int (nI 1)), (1, .int (iI (lkN T n (nx T n c)))), (0, .ref 253)]) dX12_atom_139 (by decide) rfl ?_
          refine Sx.aload_n dX12_atom_140 rfl ?_
          refine Sx.dup dX12_atom_141 rfl ?_
          refine Sx.getfV (v := (nI ((nx T n c) + 1))) dX12_atom_142 lkf_X12_132_12 (o_253 W) hM2.at_ ?_
          refine Sx.iconst (v := (nI 1)) dX12_atom_145 (by decide) ?_
          refine Sx.iaddN dX12_atom_146 ?_
          refine Sx.putfV dX12_atom_147 lkp_X12_132_12 (o_253 W) rfl rfl (fun I3 e3 o3 => ?_)
          have hM3 : MR R I3 tx b n (((nx T n c) + 1) + 1) T := hM2.mv (((nx T n c) + 1) + 1) (by omega) (FA.up (by decide) e3 o3) (by rw [e3, upd_at])
          have hF3 := (hF2).tr (FA.up (by decide) e3 o3)
          have hf3 := Eq.trans (by rw [e3, upd_nj _ _ (by decide)] : I3 253 11 = I2 253 11) hf2
          have hd3 := Eq.trans (by rw [e3, upd_nj _ _ (by decide)] : I3 253 12 = I2 253 12) hd2
          have hk3 := lkN_or T n (((nx T n c) + 1) + 1)
          have ht3 := hM3.2.2.2.2.2.2.2.1 (((nx T n c) + 1) + 1)
          have hc3 := hM3.2.2.2.2.2.2.1
          have hn3 := hM3.2.2.2.2.2.1
          have hs3 := sgn_or T n (((nx T n c) + 1) + 1)
          refine Sx.iinc (v := (nI 2)) (lv' := [(3, .int (nI 2)), (2, .int (nI (((10 * (((10 * 0) + (T (nx T n c))) - 48)) + (T ((nx T n c) + 1))) - 48))), (1, .int (iI (lkN T n (nx T n c)))), (0, .ref 253)]) dX12_atom_150 rfl (nI_add 1 1) (by decide) rfl ?_
          refine Sx.goto (t := 90) dX12_atom_153 (by decide) ?_
          refine Sx.aload_n dX12_atom_90 rfl ?_
          refine Sx.callV0 dX12_atom_91 lkv_X12_181 (rcv_12 (o_253 W)) (by omega) (by decide) (Nat.le_of_ble_eq_true rfl) rfl rfl (k_isDigit W hM3 ?_)
          refine Sx.if_eqB (t := 156) dX12_atom_94 (by decide) (fun c94 => ?_) (fun c94 => ?_)
          · refine Sx.iload_n dX12_atom_156 rfl ?_
            refine Sx.iret dX12_atom_157 rfl rfl ?_
            have hE4 : rdE T n c 4 = nx T n c + 2 := by unfold rdE; rw [rdc, if_pos c78, rdc, if_pos y1, rdc, if_neg (by rw [c94]; decide)]
            have hV4 : (rdV T n c 4 : Int) = ((((10 * (((10 * 0) + (T (nx T n c))) - 48)) + (T ((nx T n c) + 1))) - 48 : Nat) : Int) := by unfold rdV; rw [rdv, if_pos c78, rdv, if_pos y1, rdv, if_neg (by rw [c94]; decide)]; omega
            rw [pz_0, if_neg (by rw [c11]; decide), if_neg (by omega), if_pos c78] at hR
            rw [hE4, if_neg (by rw [c94]; decide)] at hR
            subst hR
            have hres := hyes rfl I3 hF3 hM3 hf3 hd3
            rw [hV4, ← nI_iI] at hres
            exact hres -- (nI (((10 * (((10 * 0) + (T (nx T n c))) - 48)) + (T ((nx T n c) + 1))) - 48)) = iI (rdV T n c 4 : Int) by rw [hV4, ← nI_iI]]
            
          · have y2 := c94
            have yy2 := (isDN_iff _).mp y2
            have yz2 := sgn_or T n (((nx T n c) + 1) + 1)
            refine Sx.aload_n dX12_atom_97 rfl ?_
            refine Sx.getfV (v := (iI (-1))) dX12_atom_98 lkf_X12_141_12 (o_253 W) hf3 ?_
            refine Sx.iconst (v := (iI (-1))) dX12_atom_101 (by decide) ?_
            refine Sx.icmp_neV (t := 156) dX12_atom_102 (by decide) (vZ (by decide)) (vZ (by decide)) (fun c102 => False.elim (by omega)) (fun c102 => ?_)
            refine Sx.iload_n dX12_atom_105 rfl ?_
            refine Sx.iconst (v := (nI 4)) dX12_atom_106 (by decide) ?_
            refine Sx.icmp_neV (t := 117) dX12_atom_107 (by decide) (vN (by decide)) (vN (by decide)) (fun c107 => ?_) (fun c107 => False.elim (by omega))
            refine Sx.bipush (v := (nI 10)) dX12_atom_117 (by decide) ?_
            refine Sx.iload_n dX12_atom_119 rfl ?_
            refine Sx.imulN dX12_atom_120 ?_
            refine Sx.aload_n dX12_atom_121 rfl ?_
            refine Sx.getfR dX12_atom_122 lkf_X12_23_12 (o_253 W) hRt ?_
            refine Sx.aload_n dX12_atom_125 rfl ?_
            refine Sx.getfV (v := (nI b)) dX12_atom_126 lkf_X12_138_12 (o_253 W) hM3.2.1 ?_
            refine Sx.aload_n dX12_atom_129 rfl ?_
            refine Sx.getfV (v := (nI (((nx T n c) + 1) + 1))) dX12_atom_130 lkf_X12_132_12 (o_253 W) hM3.at_ ?_
            refine Sx.iaddN dX12_atom_133 ?_
            refine Sx.baldN dX12_atom_134 hA (by omega) hN (v := (nI (T (((nx T n c) + 1) + 1)))) ((hM3.2.2.2.2.1 (((nx T n c) + 1) + 1) (by omega)).trans (by8_lo _ (by omega))) ?_
            refine Sx.iaddN dX12_atom_135 ?_
            refine Sx.bipush (v := (nI 48)) dX12_atom_136 (by decide) ?_
            refine Sx.isubN dX12_atom_138 (by omega) ?_
            refine Sx.istore_n (lv' := [(2, .int (nI (((10 * (((10 * (((10 * 0) + (T (nx T n c))) - 48)) + (T ((nx T n c) + 1))) - 48)) + (T (((nx T n c) + 1) + 1))) - 48))), (3, .int (nI 2)), (1, .int (iI (lkN T n (nx T n c)))), (0, .ref 253)]) dX12_atom_139 (by decide) rfl ?_
            refine Sx.aload_n dX12_atom_140 rfl ?_
            refine Sx.dup dX12_atom_141 rfl ?_
            refine Sx.getfV (v := (nI (((nx T n c) + 1) + 1))) dX12_atom_142 lkf_X12_132_12 (o_253 W) hM3.at_ ?_
            refine Sx.iconst (v := (nI 1)) dX12_atom_145 (by decide) ?_
            refine Sx.iaddN dX12_atom_146 ?_
            refine Sx.putfV dX12_atom_147 lkp_X12_132_12 (o_253 W) rfl rfl (fun I4 e4 o4 => ?_)
            have hM4 : MR R I4 tx b n ((((nx T n c) + 1) + 1) + 1) T := hM3.mv ((((nx T n c) + 1) + 1) + 1) (by omega) (FA.up (by decide) e4 o4) (by rw [e4, upd_at])
            have hF4 := (hF3).tr (FA.up (by decide) e4 o4)
            have hf4 := Eq.trans (by rw [e4, upd_nj _ _ (by decide)] : I4 253 11 = I3 253 11) hf3
            have hd4 := Eq.trans (by rw [e4, upd_nj _ _ (by decide)] : I4 253 12 = I3 253 12) hd3
            have hk4 := lkN_or T n ((((nx T n c) + 1) + 1) + 1)
            have ht4 := hM4.2.2.2.2.2.2.2.1 ((((nx T n c) + 1) + 1) + 1)
            have hc4 := hM4.2.2.2.2.2.2.1
            have hn4 := hM4.2.2.2.2.2.1
            have hs4 := sgn_or T n ((((nx T n c) + 1) + 1) + 1)
            refine Sx.iinc (v := (nI 3)) (lv' := [(3, .int (nI 3)), (2, .int (nI (((10 * (((10 * (((10 * 0) + (T (nx T n c))) - 48)) + (T ((nx T n c) + 1))) - 48)) + (T (((nx T n c) + 1) + 1))) - 48))), (1, .int (iI (lkN T n (nx T n c)))), (0, .ref 253)]) dX12_atom_150 rfl (nI_add 2 1) (by decide) rfl ?_
            refine Sx.goto (t := 90) dX12_atom_153 (by decide) ?_
            refine Sx.aload_n dX12_atom_90 rfl ?_
            refine Sx.callV0 dX12_atom_91 lkv_X12_181 (rcv_12 (o_253 W)) (by omega) (by decide) (Nat.le_of_ble_eq_true rfl) rfl rfl (k_isDigit W hM4 ?_)
            refine Sx.if_eqB (t := 156) dX12_atom_94 (by decide) (fun c94 => ?_) (fun c94 => ?_)
            · refine Sx.iload_n dX12_atom_156 rfl ?_
              refine Sx.iret dX12_atom_157 rfl rfl ?_
              have hE4 : rdE T n c 4 = nx T n c + 3 := by unfold rdE; rw [rdc, if_pos c78, rdc, if_pos y1, rdc, if_pos y2, rdc, if_neg (by rw [c94]; decide)]
              have hV4 : (rdV T n c 4 : Int) = ((((10 * (((10 * (((10 * 0) + (T (nx T n c))) - 48)) + (T ((nx T n c) + 1))) - 48)) + (T (((nx T n c) + 1) + 1))) - 48 : Nat) : Int) := by unfold rdV; rw [rdv, if_pos c78, rdv, if_pos y1, rdv, if_pos y2, rdv, if_neg (by rw [c94]; decide)]; omega
              rw [pz_0, if_neg (by rw [c11]; decide), if_neg (by omega), if_pos c78] at hR
              rw [hE4, if_neg (by rw [c94]; decide)] at hR
              subst hR
              have hres := hyes rfl I4 hF4 hM4 hf4 hd4
              rw [hV4, ← nI_iI] at hres
              exact hres -- (nI (((10 * (((10 * (((10 * 0) + (T (nx T n c))) - 48)) + (T ((nx T n c) + 1))) - 48)) + (T (((nx T n c) + 1) + 1))) - 48)) = iI (rdV T n c 4 : Int) by rw [hV4, ← nI_iI]]
              
            · have y3 := c94
              have yy3 := (isDN_iff _).mp y3
              have yz3 := sgn_or T n ((((nx T n c) + 1) + 1) + 1)
              refine Sx.aload_n dX12_atom_97 rfl ?_
              refine Sx.getfV (v := (iI (-1))) dX12_atom_98 lkf_X12_141_12 (o_253 W) hf4 ?_
              refine Sx.iconst (v := (iI (-1))) dX12_atom_101 (by decide) ?_
              refine Sx.icmp_neV (t := 156) dX12_atom_102 (by decide) (vZ (by decide)) (vZ (by decide)) (fun c102 => False.elim (by omega)) (fun c102 => ?_)
              refine Sx.iload_n dX12_atom_105 rfl ?_
              refine Sx.iconst (v := (nI 4)) dX12_atom_106 (by decide) ?_
              refine Sx.icmp_neV (t := 117) dX12_atom_107 (by decide) (vN (by decide)) (vN (by decide)) (fun c107 => ?_) (fun c107 => False.elim (by omega))
              refine Sx.bipush (v := (nI 10)) dX12_atom_117 (by decide) ?_
              refine Sx.iload_n dX12_atom_119 rfl ?_
              refine Sx.imulN dX12_atom_120 ?_
              refine Sx.aload_n dX12_atom_121 rfl ?_
              refine Sx.getfR dX12_atom_122 lkf_X12_23_12 (o_253 W) hRt ?_
              refine Sx.aload_n dX12_atom_125 rfl ?_
              refine Sx.getfV (v := (nI b)) dX12_atom_126 lkf_X12_138_12 (o_253 W) hM4.2.1 ?_
              refine Sx.aload_n dX12_atom_129 rfl ?_
              refine Sx.getfV (v := (nI ((((nx T n c) + 1) + 1) + 1))) dX12_atom_130 lkf_X12_132_12 (o_253 W) hM4.at_ ?_
              refine Sx.iaddN dX12_atom_133 ?_
              refine Sx.baldN dX12_atom_134 hA (by omega) hN (v := (nI (T ((((nx T n c) + 1) + 1) + 1)))) ((hM4.2.2.2.2.1 ((((nx T n c) + 1) + 1) + 1) (by omega)).trans (by8_lo _ (by omega))) ?_
              refine Sx.iaddN dX12_atom_135 ?_
              refine Sx.bipush (v := (nI 48)) dX12_atom_136 (by decide) ?_
              refine Sx.isubN dX12_atom_138 (by omega) ?_
              refine Sx.istore_n (lv' := [(2, .int (nI (((10 * (((10 * (((10 * (((10 * 0) + (T (nx T n c))) - 48)) + (T ((nx T n c) + 1))) - 48)) + (T (((nx T n c) + 1) + 1))) - 48)) + (T ((((nx T n c) + 1) + 1) + 1))) - 48))), (3, .int (nI 3)), (1, .int (iI (lkN T n (nx T n c)))), (0, .ref 253)]) dX12_atom_139 (by decide) rfl ?_
              refine Sx.aload_n dX12_atom_140 rfl ?_
              refine Sx.dup dX12_atom_141 rfl ?_
              refine Sx.getfV (v := (nI ((((nx T n c) + 1) + 1) + 1))) dX12_atom_142 lkf_X12_132_12 (o_253 W) hM4.at_ ?_
              refine Sx.iconst (v := (nI 1)) dX12_atom_145 (by decide) ?_
              refine Sx.iaddN dX12_atom_146 ?_
              refine Sx.putfV dX12_atom_147 lkp_X12_132_12 (o_253 W) rfl rfl (fun I5 e5 o5 => ?_)
              have hM5 : MR R I5 tx b n (((((nx T n c) + 1) + 1) + 1) + 1) T := hM4.mv (((((nx T n c) + 1) + 1) + 1) + 1) (by omega) (FA.up (by decide) e5 o5) (by rw [e5, upd_at])
              have hF5 := (hF4).tr (FA.up (by decide) e5 o5)
              have hf5 := Eq.trans (by rw [e5, upd_nj _ _ (by decide)] : I5 253 11 = I4 253 11) hf4
              have hd5 := Eq.trans (by rw [e5, upd_nj _ _ (by decide)] : I5 253 12 = I4 253 12) hd4
              have hk5 := lkN_or T n (((((nx T n c) + 1) + 1) + 1) + 1)
              have ht5 := hM5.2.2.2.2.2.2.2.1 (((((nx T n c) + 1) + 1) + 1) + 1)
              have hc5 := hM5.2.2.2.2.2.2.1
              have hn5 := hM5.2.2.2.2.2.1
              have hs5 := sgn_or T n (((((nx T n c) + 1) + 1) + 1) + 1)
              refine Sx.iinc (v := (nI 4)) (lv' := [(3, .int (nI 4)), (2, .int (nI (((10 * (((10 * (((10 * (((10 * 0) + (T (nx T n c))) - 48)) + (T ((nx T n c) + 1))) - 48)) + (T (((nx T n c) + 1) + 1))) - 48)) + (T ((((nx T n c) + 1) + 1) + 1))) - 48))), (1, .int (iI (lkN T n (nx T n c)))), (0, .ref 253)]) dX12_atom_150 rfl (nI_add 3 1) (by decide) rfl ?_
              refine Sx.goto (t := 90) dX12_atom_153 (by decide) ?_
              refine Sx.aload_n dX12_atom_90 rfl ?_
              refine Sx.callV0 dX12_atom_91 lkv_X12_181 (rcv_12 (o_253 W)) (by omega) (by decide) (Nat.le_of_ble_eq_true rfl) rfl rfl (k_isDigit W hM5 ?_)
              refine Sx.if_eqB (t := 156) dX12_atom_94 (by decide) (fun c94 => ?_) (fun c94 => ?_)
              · refine Sx.iload_n dX12_atom_156 rfl ?_
                refine Sx.iret dX12_atom_157 rfl rfl ?_
                have hE4 : rdE T n c 4 = nx T n c + 4 := by unfold rdE; rw [rdc, if_pos c78, rdc, if_pos y1, rdc, if_pos y2, rdc, if_pos y3, rdc]
                have hV4 : (rdV T n c 4 : Int) = ((((10 * (((10 * (((10 * (((10 * 0) + (T (nx T n c))) - 48)) + (T ((nx T n c) + 1))) - 48)) + (T (((nx T n c) + 1) + 1))) - 48)) + (T ((((nx T n c) + 1) + 1) + 1))) - 48 : Nat) : Int) := by unfold rdV; rw [rdv, if_pos c78, rdv, if_pos y1, rdv, if_pos y2, rdv, if_pos y3, rdv]; omega
                rw [pz_0, if_neg (by rw [c11]; decide), if_neg (by omega), if_pos c78] at hR
                rw [hE4, if_neg (by rw [c94]; decide)] at hR
                subst hR
                have hres := hyes rfl I5 hF5 hM5 hf5 hd5
                rw [hV4, ← nI_iI] at hres
                exact hres -- (nI (((10 * (((10 * (((10 * (((10 * 0) + (T (nx T n c))) - 48)) + (T ((nx T n c) + 1))) - 48)) + (T (((nx T n c) + 1) + 1))) - 48)) + (T ((((nx T n c) + 1) + 1) + 1))) - 48)) = iI (rdV T n c 4 : Int) by rw [hV4, ← nI_iI]]
                
              · have y4 := c94
                have yy4 := (isDN_iff _).mp y4
                have yz4 := sgn_or T n (((((nx T n c) + 1) + 1) + 1) + 1)
                refine Sx.aload_n dX12_atom_97 rfl ?_
                refine Sx.getfV (v := (iI (-1))) dX12_atom_98 lkf_X12_141_12 (o_253 W) hf5 ?_
                refine Sx.iconst (v := (iI (-1))) dX12_atom_101 (by decide) ?_
                refine Sx.icmp_neV (t := 156) dX12_atom_102 (by decide) (vZ (by decide)) (vZ (by decide)) (fun c102 => False.elim (by omega)) (fun c102 => ?_)
                refine Sx.iload_n dX12_atom_105 rfl ?_
                refine Sx.iconst (v := (nI 4)) dX12_atom_106 (by decide) ?_
                refine Sx.icmp_neV (t := 117) dX12_atom_107 (by decide) (vN (by decide)) (vN (by decide)) (fun c107 => False.elim (by omega)) (fun c107 => ?_)
                refine Sx.aload_n dX12_atom_110 rfl ?_
                refine Sx.callV0 dX12_atom_111 lkv_X12_147 (rcv_12 (o_253 W)) (by omega) (by decide) (Nat.le_of_ble_eq_true rfl) rfl rfl (k_fails W hM5 hf5 (fun I6 g6 f6 d6 a6 => ?_))
                have hF6 := (hF5).tr g6
                have hM6 := hM5.mv (((((nx T n c) + 1) + 1) + 1) + 1) (by omega) g6 (a6.trans hM5.at_)
                refine Sx.pop dX12_atom_114 rfl ?_
                refine Sx.iconst (v := (nI 0)) dX12_atom_115 (by decide) ?_
                refine Sx.iret dX12_atom_116 rfl rfl ?_
                have hE4 : rdE T n c 4 = nx T n c + 4 := by unfold rdE; rw [rdc, if_pos c78, rdc, if_pos y1, rdc, if_pos y2, rdc, if_pos y3, rdc]
                rw [pz_0, if_neg (by rw [c11]; decide), if_neg (by omega), if_pos c78] at hR
                rw [hE4, if_pos y4] at hR
                subst hR
                exact hno rfl I6 _ hF6 f6
      · refine Sx.aload_n dX12_atom_81 rfl ?_
        refine Sx.callV0 dX12_atom_82 lkv_X12_147 (rcv_12 (o_253 W)) (by omega) (by decide) (Nat.le_of_ble_eq_true rfl) rfl rfl (k_fails W hM1 hf1 (fun I7 g7 f7 d7 a7 => ?_))
        have hF7 := (hF1).tr g7
        have hM7 := hM1.mv (nx T n c) (by omega) g7 (a7.trans hM1.at_)
        refine Sx.pop dX12_atom_85 rfl ?_
        refine Sx.iconst (v := (nI 0)) dX12_atom_86 (by decide) ?_
        refine Sx.istore_n (lv' := [(2, .int (nI 0)), (1, .int (iI (lkN T n (nx T n c)))), (0, .ref 253)]) dX12_atom_87 (by decide) rfl ?_
        refine Sx.iconst (v := (nI 0)) dX12_atom_88 (by decide) ?_
        refine Sx.istore_n (lv' := [(3, .int (nI 0)), (2, .int (nI 0)), (1, .int (iI (lkN T n (nx T n c)))), (0, .ref 253)]) dX12_atom_89 (by decide) rfl ?_
        refine Sx.aload_n dX12_atom_90 rfl ?_
        refine Sx.callV0 dX12_atom_91 lkv_X12_181 (rcv_12 (o_253 W)) (by omega) (by decide) (Nat.le_of_ble_eq_true rfl) rfl rfl (k_isDigit W hM7 ?_)
        refine Sx.if_eqB (t := 156) dX12_atom_94 (by decide) (fun c94 => ?_) (fun c94 => False.elim (by rw [c78] at c94; cases c94))
        refine Sx.iload_n dX12_atom_156 rfl ?_
        refine Sx.iret dX12_atom_157 rfl rfl ?_
        rw [pz_0, if_neg (by rw [c11]; decide), if_neg (by omega), if_neg (by rw [c78]; decide)] at hR
        subst hR
        exact hno rfl I7 _ hF7 f7
    · refine Sx.aload_n dX12_atom_37 rfl ?_
      refine Sx.callV0 dX12_atom_38 lkv_X12_171 (rcv_12 (o_253 W)) (by omega) (by decide) (Nat.le_of_ble_eq_true rfl) rfl rfl (k_goesIn W hM1 (by omega) hf1 hd1 (by omega) (fun x8 I8 g8 f8 => ?_) (fun x8 I8 g8 hM8 f8 d8 => ?_))
      · skip
        have hF8 := (hF1).tr g8
        refine Sx.if_neB (t := 46) dX12_atom_41 (by decide) (fun c41 => False.elim (by cases c41)) (fun c41 => ?_)
        refine Sx.iconst (v := (nI 0)) dX12_atom_44 (by decide) ?_
        refine Sx.iret dX12_atom_45 rfl rfl ?_
        rw [pz_0, if_neg (by rw [c11]; decide), if_pos (by omega), if_pos x8] at hR
        subst hR
        exact hno rfl I8 _ hF8 f8
      · skip
        have hF8 := (hF1).tr g8
        have hk8 := lkN_or T n (nx T n c + 1)
        have ht8 := hM8.2.2.2.2.2.2.2.1 (nx T n c + 1)
        have hc8 := hM8.2.2.2.2.2.2.1
        have hn8 := hM8.2.2.2.2.2.1
        have hs8 := sgn_or T n (nx T n c + 1)
        refine Sx.if_neB (t := 46) dX12_atom_41 (by decide) (fun c41 => ?_) (fun c41 => False.elim (by cases c41))
        refine Sx.aload_n dX12_atom_46 rfl ?_
        refine Sx.callV0 dX12_atom_47 lkv_X12_174 (rcv_12 (o_253 W)) (by omega) (by decide) (Nat.le_of_ble_eq_true rfl) rfl rfl (hSu (v := 0) hM8 f8 d8 (by omega) (hE.fa hF8) bd6_0 (by omega) (fun x9 I9 v9 g9 f9 => ?_) (fun x9 I9 g9 hM9 f9 d9 => ?_))
        · skip
          have hF9 := (hF8).tr g9
          have hq9 := pz_q (T := T) (e := e) k 2 (dp + 1) (nx T n c + 1) 0 hM8.2.2.2.2.2.2.1
          refine Sx.istore_n (lv' := [(2, .int v9), (1, .int (iI (lkN T n (nx T n c)))), (0, .ref 253)]) dX12_atom_50 (by decide) rfl ?_
          refine Sx.aload_n dX12_atom_51 rfl ?_
          refine Sx.bipush (v := (nI 93)) dX12_atom_52 (by decide) ?_
          refine Sx.callV1 dX12_atom_54 lkv_X12_177 (rcv_12 (o_253 W)) (by omega) (by decide) (Nat.le_of_ble_eq_true rfl) rfl rfl (k_takes2 W f9 (by omega) ?_)
          refine Sx.if_neB (t := 62) dX12_atom_57 (by decide) (fun c57 => False.elim (by cases c57)) (fun c57 => ?_)
          refine Sx.iconst (v := (nI 0)) dX12_atom_60 (by decide) ?_
          refine Sx.iret dX12_atom_61 rfl rfl ?_
          rw [pz_0, if_neg (by rw [c11]; decide), if_pos (by omega), if_neg x8, pb_f x9] at hR
          subst hR
          exact hno rfl I9 _ hF9 f9
        · skip
          have hF9 := (hF8).tr g9
          obtain ⟨hp9, hb9⟩ := pz_bd hE0 k 2 (dp + 1) (nx T n c + 1) 0 bd6_0 x9
          have hbb9 : -1000000 ≤ (pz T n e k 2 (dp + 1) (nx T n c + 1) 0).2.2 ∧ (pz T n e k 2 (dp + 1) (nx T n c + 1) 0).2.2 ≤ 1000000 := hb9
          have hk9 := lkN_or T n ((pz T n e k 2 (dp + 1) (nx T n c + 1) 0).2.1)
          have ht9 := hM9.2.2.2.2.2.2.2.1 ((pz T n e k 2 (dp + 1) (nx T n c + 1) 0).2.1)
          have hc9 := hM9.2.2.2.2.2.2.1
          have hn9 := hM9.2.2.2.2.2.1
          have hs9 := sgn_or T n ((pz T n e k 2 (dp + 1) (nx T n c + 1) 0).2.1)
          refine Sx.istore_n (lv' := [(2, .int (iI ((pz T n e k 2 (dp + 1) (nx T n c + 1) 0).2.2))), (1, .int (iI (lkN T n (nx T n c)))), (0, .ref 253)]) dX12_atom_50 (by decide) rfl ?_
          refine Sx.aload_n dX12_atom_51 rfl ?_
          refine Sx.bipush (v := (nI 93)) dX12_atom_52 (by decide) ?_
          refine Sx.callV1 dX12_atom_54 lkv_X12_177 (rcv_12 (o_253 W)) (by omega) (by decide) (Nat.le_of_ble_eq_true rfl) rfl rfl (k_takes W hM9 f9 d9 (by decide) (fun x11 I11 g11 f11 => ?_) (fun x11 I11 g11 hM11 f11 d11 => ?_))
          · skip
            have hF11 := (hF9).tr g11
            have hxx11 := nx_b T n ((pz T n e k 2 (dp + 1) (nx T n c + 1) 0).2.1)
            refine Sx.if_neB (t := 62) dX12_atom_57 (by decide) (fun c57 => False.elim (by cases c57)) (fun c57 => ?_)
            refine Sx.iconst (v := (nI 0)) dX12_atom_60 (by decide) ?_
            refine Sx.iret dX12_atom_61 rfl rfl ?_
            rw [pz_0, if_neg (by rw [c11]; decide), if_pos (by omega), if_neg x8, pb_t x9, if_neg x11] at hR
            subst hR
            exact hno rfl I11 _ hF11 f11
          · skip
            have hF11 := (hF9).tr g11
            have hxx11 := nx_b T n ((pz T n e k 2 (dp + 1) (nx T n c + 1) 0).2.1)
            have hss11 := sgn_or T n (nx T n ((pz T n e k 2 (dp + 1) (nx T n c + 1) 0).2.1))
            have hk11 := lkN_or T n (nx T n ((pz T n e k 2 (dp + 1) (nx T n c + 1) 0).2.1) + 1)
            have ht11 := hM11.2.2.2.2.2.2.2.1 (nx T n ((pz T n e k 2 (dp + 1) (nx T n c + 1) 0).2.1) + 1)
            have hc11 := hM11.2.2.2.2.2.2.1
            have hn11 := hM11.2.2.2.2.2.1
            have hs11 := sgn_or T n (nx T n ((pz T n e k 2 (dp + 1) (nx T n c + 1) 0).2.1) + 1)
            refine Sx.if_neB (t := 62) dX12_atom_57 (by decide) (fun c57 => ?_) (fun c57 => False.elim (by cases c57))
            refine Sx.aload_n dX12_atom_62 rfl ?_
            refine Sx.dup dX12_atom_63 rfl ?_
            refine Sx.getfV (v := (nI (dp + 1))) dX12_atom_64 lkf_X12_144_12 (o_253 W) d11 ?_
            refine Sx.iconst (v := (nI 1)) dX12_atom_67 (by decide) ?_
            refine Sx.isubN dX12_atom_68 (by omega) ?_
            refine Sx.putfV dX12_atom_69 lkp_X12_144_12 (o_253 W) rfl rfl (fun I12 e12 o12 => ?_)
            have hM12 : MR R I12 tx b n (nx T n ((pz T n e k 2 (dp + 1) (nx T n c + 1) 0).2.1) + 1) T := hM11.mv (nx T n ((pz T n e k 2 (dp + 1) (nx T n c + 1) 0).2.1) + 1) (by omega) (FA.up (by decide) e12 o12) (by rw [e12, upd_nj _ _ (by decide)]; exact hM11.at_)
            have hF12 := (hF11).tr (FA.up (by decide) e12 o12)
            have hf12 := Eq.trans (by rw [e12, upd_nj _ _ (by decide)] : I12 253 11 = I11 253 11) f11
            have hd12 : I12 253 12 = nI ((dp + 1) - 1) := by rw [e12, upd_at]
            refine Sx.iload_n dX12_atom_72 rfl ?_
            refine Sx.iret dX12_atom_73 rfl rfl ?_
            rw [pz_0, if_neg (by rw [c11]; decide), if_pos (by omega), if_neg x8, pb_t x9, if_pos x11] at hR
            subst hR
            exact hyes rfl I12 hF12 hM12 hf12 (by have q := hd12; rwa [Nat.add_sub_cancel] at q)
  · have c11 : isLt (sgn T n (nx T n c)) = true := c11
    have hl7 := isLt_b (sgn T n (nx T n c)) (by omega) c11
    refine Sx.aload_n dX12_atom_14 rfl ?_
    refine Sx.dup dX12_atom_15 rfl ?_
    refine Sx.getfV (v := (nI (nx T n c))) dX12_atom_16 lkf_X12_132_12 (o_253 W) hM1.at_ ?_
    refine Sx.iconst (v := (nI 1)) dX12_atom_19 (by decide) ?_
    refine Sx.iaddN dX12_atom_20 ?_
    refine Sx.putfV dX12_atom_21 lkp_X12_132_12 (o_253 W) rfl rfl (fun I13 e13 o13 => ?_)
    have hM13 : MR R I13 tx b n ((nx T n c) + 1) T := hM1.mv ((nx T n c) + 1) (by omega) (FA.up (by decide) e13 o13) (by rw [e13, upd_at])
    have hF13 := (hF1).tr (FA.up (by decide) e13 o13)
    have hf13 := Eq.trans (by rw [e13, upd_nj _ _ (by decide)] : I13 253 11 = I1 253 11) hf1
    have hd13 := Eq.trans (by rw [e13, upd_nj _ _ (by decide)] : I13 253 12 = I1 253 12) hd1
    have hk13 := lkN_or T n ((nx T n c) + 1)
    have ht13 := hM13.2.2.2.2.2.2.2.1 ((nx T n c) + 1)
    have hc13 := hM13.2.2.2.2.2.2.1
    have hn13 := hM13.2.2.2.2.2.1
    have hs13 := sgn_or T n ((nx T n c) + 1)
    refine Sx.aload_n dX12_atom_24 rfl ?_
    refine Sx.getfR dX12_atom_25 lkf_X12_20_12 (o_253 W) (r_253_4 W) ?_
    refine Sx.iload_n dX12_atom_28 rfl ?_
    refine Sx.ialdV (k := sgn T n (nx T n c)) dX12_atom_29 (a_257 W) (vZ (by omega)) (by omega) (by omega) (by decide) (v := (iI (e (sgn T n (nx T n c))))) (vz_i ((hE.fa hF13) _ hl7.1)) ?_
    refine Sx.iret dX12_atom_30 rfl rfl ?_
    rw [pz_0, if_pos c11] at hR
    subst hR
    exact hyes rfl I13 hF13 hM13 hf13 hd13
