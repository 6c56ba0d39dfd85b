/-! the law: its loop and its start -/
theorem and63x (x : Int32) : ∃ t, t < 64 ∧ x &&& nI 63 = nI t := by
  obtain ⟨c, rfl⟩ := nI_all x
  exact ⟨c &&& 63, Nat.lt_of_le_of_lt Nat.and_le_right (by decide), n_andN c 63⟩
theorem nI_all0 (n : Nat) : Int32.ofNat n = nI n := rfl
section LAW3
variable {q0 : Nat × (Nat → Int32)} {G : Gt} {l : Launch} {post : Pt'}
set_option maxRecDepth 20000 in
set_option maxHeartbeats 1000000 in
theorem l_law (hl : l.stackTraces = false) (hq : q0.1 ≤ 3072) (hpost : ∀ Z R I L, post (some (.int (nI 1))) Z R I L) : ∀ (n i N : Nat) (V : Vt) (Z : Zt) (R : Rt) (I : It) (L : Lt), q0.1 < i + 6 * n + 6 → i ≤ 4000 → N + n < 1000 → WF Z R → CI V R I L → MI V I L → GG N V → SX q0 G l mL_law 60 n (6 * n) 23 (lvL i) [] Z R I L post := by
  intro n
  induction n with
  | zero =>
    intro i N V Z R I L hle hi4 hNn W C M hG
    refine SX.iload dL_law_23 rfl ?_
    refine SX.aload_n dL_law_25 rfl ?_
    refine SX.slen dL_law_26 (v := nI q0.1) rfl ?_
    refine SX.bipush (v := nI 6) dL_law_27 (by decide) ?_
    refine SX.isub dL_law_29 ?_
    have e : nI q0.1 - nI 6 = iI ((q0.1 : Int) - 6) := by rw [nI_iI, nI_iI, iI_sub]; rfl
    rw [e]
    refine SX.icmp_gt (t := 1587) dL_law_30 (by decide) (fun _ => ?_) (fun z => absurd (by rw [nI_iI]; exact (iI_lt (by omega) (by omega) (by omega) (by omega)).mpr (by omega)) z)
    refine SX.iconst (v := nI 1) dL_law_1587 (by decide) ?_
    exact SX.iret dL_law_1588 rfl rfl (hpost Z R I L)
  | succ n ih =>
    intro i N V Z R I L hle hi4 hNn W C M hG
    refine SX.iload dL_law_23 rfl ?_
    refine SX.aload_n dL_law_25 rfl ?_
    refine SX.slen dL_law_26 (v := nI q0.1) rfl ?_
    refine SX.bipush (v := nI 6) dL_law_27 (by decide) ?_
    refine SX.isub dL_law_29 ?_
    have e : nI q0.1 - nI 6 = iI ((q0.1 : Int) - 6) := by rw [nI_iI, nI_iI, iI_sub]; rfl
    rw [e]
    refine SX.icmp_gt (t := 1587) dL_law_30 (by decide) (fun _ => ?_) (fun z => ?_)
    · refine SX.iconst (v := nI 1) dL_law_1587 (by decide) ?_
      exact SX.weaken (Nat.zero_le _) (Nat.zero_le _) (SX.iret (bc := 0) (bs := 0) dL_law_1588 rfl rfl (hpost Z R I L))
    have hi : i + 6 ≤ q0.1 := by
      rw [nI_iI, iI_lt (by omega) (by omega) (by omega) (by omega)] at z
      omega
    have hN : N < 2147483647 := by omega
    have nxt : ∀ Z' R' I' L' V', WF Z' R' → CI V' R' I' L' → MI V' I' L' → GG (N + 1) V' → SX q0 G l mL_law 60 n (6 * n) 1581 (lvL i) [] Z' R' I' L' post := by
      intro Z' R' I' L' V' w c m g
      refine SX.iinc (v := nI (i + 6)) (lv' := lvL (i + 6)) dL_law_1581 rfl (nI_add i 6) (by decide) rfl ?_
      refine SX.goto (t := 23) dL_law_1584 (by decide) ?_
      exact ih (i + 6) (N + 1) V' Z' R' I' L' (by omega) (by omega) (by omega) w c m g
    refine SX.aload_n dL_law_33 rfl ?_
    refine SX.iload dL_law_34 rfl ?_
    refine SX.sld dL_law_36 (vp_in_nI (by omega) (by omega)) ?_
    rw [nI_clamp (by omega)]
    refine SX.bipush (v := nI 63) dL_law_37 (by decide) ?_
    refine SX.iand dL_law_39 ?_
    obtain ⟨t, ht, et⟩ := and63x (q0.2 i)
    rw [et]
    by_cases c42 : 42 ≤ t
    · refine SX.tableOut (t := 1581) dL_law_40 (Or.inr (by rw [nI_toInt (by omega)]; omega)) (by decide) ?_
      exact SX.weaken (bc' := n) (bs' := 6 * n) (Nat.le_succ n) (by omega) (nxt Z R I L V W C M (hG.mono (Nat.le_succ N)))
    have hor : t = 0 ∨ t = 1 ∨ t = 2 ∨ t = 3 ∨ t = 4 ∨ t = 5 ∨ t = 6 ∨ t = 7 ∨ t = 8 ∨ t = 9 ∨ t = 10 ∨ t = 11 ∨ t = 12 ∨ t = 13 ∨ t = 14 ∨ t = 15 ∨ t = 16 ∨ t = 17 ∨ t = 18 ∨ t = 19 ∨ t = 20 ∨ t = 21 ∨ t = 22 ∨ t = 23 ∨ t = 24 ∨ t = 25 ∨ t = 26 ∨ t = 27 ∨ t = 28 ∨ t = 29 ∨ t = 30 ∨ t = 31 ∨ t = 32 ∨ t = 33 ∨ t = 34 ∨ t = 35 ∨ t = 36 ∨ t = 37 ∨ t = 38 ∨ t = 39 ∨ t = 40 ∨ t = 41 := by omega
    rcases hor with rfl | rfl | rfl | rfl | rfl | rfl | rfl | rfl | rfl | rfl | rfl | rfl | rfl | rfl | rfl | rfl | rfl | rfl | rfl | rfl | rfl | rfl | rfl | rfl | rfl | rfl | rfl | rfl | rfl | rfl | rfl | rfl | rfl | rfl | rfl | rfl | rfl | rfl | rfl | rfl | rfl | rfl
    · refine SX.tableIn (t := 224) dL_law_40 (by decide) (by decide) (o := 184) (by decide) (by decide) ?_
      exact SX.weaken (bc' := n) (bs' := 6 * n) (Nat.le_succ n) (by omega) (L_feed hi hq W C M hG hN (fun R' I' L' V' w c m g => nxt Z R' I' L' V' w c m g))
    · refine SX.tableIn (t := 297) dL_law_40 (by decide) (by decide) (o := 257) (by decide) (by decide) ?_
      exact SX.weaken (bc' := n) (bs' := 6 * n) (Nat.le_succ n) (by omega) (L_end hi hq W C M hG hN (fun R' I' L' V' w c m g => nxt Z R' I' L' V' w c m g))
    · refine SX.tableIn (t := 322) dL_law_40 (by decide) (by decide) (o := 282) (by decide) (by decide) ?_
      exact SX.weaken (bc' := n) (bs' := 6 * n) (Nat.le_succ n) (by omega) (L_fault hi hq W C M hG hN (fun R' I' L' V' w c m g => nxt Z R' I' L' V' w c m g))
    · refine SX.tableIn (t := 347) dL_law_40 (by decide) (by decide) (o := 307) (by decide) (by decide) ?_
      exact SX.weaken (bc' := n) (bs' := 6 * n) (Nat.le_succ n) (by omega) (L_text hi hq W C M hG hN (fun R' I' L' V' w c m g => nxt Z R' I' L' V' w c m g))
    · refine SX.tableIn (t := 372) dL_law_40 (by decide) (by decide) (o := 332) (by decide) (by decide) ?_
      exact SX.weaken (bc' := n) (bs' := 6 * n) (Nat.le_succ n) (by omega) (L_kind hi hq W C M hG hN (fun R' I' L' V' w c m g => nxt Z R' I' L' V' w c m g))
    · refine SX.tableIn (t := 409) dL_law_40 (by decide) (by decide) (o := 369) (by decide) (by decide) ?_
      exact L_person hl hi hq W C M hG hN nxt
    · refine SX.tableIn (t := 477) dL_law_40 (by decide) (by decide) (o := 437) (by decide) (by decide) ?_
      exact SX.weaken (bc' := n) (bs' := 6 * n) (Nat.le_succ n) (by omega) (L_law hi hq W C M hG hN (fun R' I' L' V' w c m g => nxt Z R' I' L' V' w c m g))
    · refine SX.tableIn (t := 502) dL_law_40 (by decide) (by decide) (o := 462) (by decide) (by decide) ?_
      exact SX.weaken (bc' := n) (bs' := 6 * n) (Nat.le_succ n) (by omega) (L_whim hi hq W C M hG hN (fun R' I' L' V' w c m g => nxt Z R' I' L' V' w c m g))
    · refine SX.tableIn (t := 527) dL_law_40 (by decide) (by decide) (o := 487) (by decide) (by decide) ?_
      exact SX.weaken (bc' := n) (bs' := 6 * n) (Nat.le_succ n) (by omega) (L_pass hi hq W C M hG hN (fun R' I' L' V' w c m g => nxt Z R' I' L' V' w c m g))
    · refine SX.tableIn (t := 540) dL_law_40 (by decide) (by decide) (o := 500) (by decide) (by decide) ?_
      exact SX.weaken (bc' := n) (bs' := 6 * n) (Nat.le_succ n) (by omega) (L_habit hi hq W C M hG hN (fun R' I' L' V' w c m g => nxt Z R' I' L' V' w c m g))
    · refine SX.tableIn (t := 577) dL_law_40 (by decide) (by decide) (o := 537) (by decide) (by decide) ?_
      exact SX.weaken (bc' := n) (bs' := 6 * n) (Nat.le_succ n) (by omega) (L_bed hi hq W C M hG hN (fun R' I' L' V' w c m g => nxt Z R' I' L' V' w c m g))
    · refine SX.tableIn (t := 602) dL_law_40 (by decide) (by decide) (o := 562) (by decide) (by decide) ?_
      exact SX.weaken (bc' := n) (bs' := 6 * n) (Nat.le_succ n) (by omega) (L_fog hi hq W C M hG hN (fun R' I' L' V' w c m g => nxt Z R' I' L' V' w c m g))
    · refine SX.tableIn (t := 627) dL_law_40 (by decide) (by decide) (o := 587) (by decide) (by decide) ?_
      exact SX.weaken (bc' := n) (bs' := 6 * n) (Nat.le_succ n) (by omega) (L_eclipse hi hq W C M hG hN (fun R' I' L' V' w c m g => nxt Z R' I' L' V' w c m g))
    · refine SX.tableIn (t := 640) dL_law_40 (by decide) (by decide) (o := 600) (by decide) (by decide) ?_
      exact SX.weaken (bc' := n) (bs' := 6 * n) (Nat.le_succ n) (by omega) (L_candles hi hq W C M hG hN (fun R' I' L' V' w c m g => nxt Z R' I' L' V' w c m g))
    · refine SX.tableIn (t := 665) dL_law_40 (by decide) (by decide) (o := 625) (by decide) (by decide) ?_
      exact SX.weaken (bc' := n) (bs' := 6 * n) (Nat.le_succ n) (by omega) (L_give hi hq W C M hG hN (fun R' I' L' V' w c m g => nxt Z R' I' L' V' w c m g))
    · refine SX.tableIn (t := 690) dL_law_40 (by decide) (by decide) (o := 650) (by decide) (by decide) ?_
      exact SX.weaken (bc' := n) (bs' := 6 * n) (Nat.le_succ n) (by omega) (L_years hi hq W C M hG hN (fun R' I' L' V' w c m g => nxt Z R' I' L' V' w c m g))
    · refine SX.tableIn (t := 759) dL_law_40 (by decide) (by decide) (o := 719) (by decide) (by decide) ?_
      exact SX.weaken (bc' := n) (bs' := 6 * n) (Nat.le_succ n) (by omega) (L_status hi hq W C M hG hN (fun R' I' L' V' w c m g => nxt Z R' I' L' V' w c m g))
    · refine SX.tableIn (t := 784) dL_law_40 (by decide) (by decide) (o := 744) (by decide) (by decide) ?_
      exact SX.weaken (bc' := n) (bs' := 6 * n) (Nat.le_succ n) (by omega) (L_undo hi hq W C M hG hN (fun R' I' L' V' w c m g => nxt Z R' I' L' V' w c m g))
    · refine SX.tableIn (t := 797) dL_law_40 (by decide) (by decide) (o := 757) (by decide) (by decide) ?_
      exact SX.weaken (bc' := n) (bs' := 6 * n) (Nat.le_succ n) (by omega) (L_log hi hq W C M hG hN (fun R' I' L' V' w c m g => nxt Z R' I' L' V' w c m g))
    · refine SX.tableIn (t := 834) dL_law_40 (by decide) (by decide) (o := 794) (by decide) (by decide) ?_
      exact SX.weaken (bc' := n) (bs' := 6 * n) (Nat.le_succ n) (by omega) (L_step hi hq W C M hG hN (fun R' I' L' V' w c m g => nxt Z R' I' L' V' w c m g))
    · refine SX.tableIn (t := 883) dL_law_40 (by decide) (by decide) (o := 843) (by decide) (by decide) ?_
      exact SX.weaken (bc' := n) (bs' := 6 * n) (Nat.le_succ n) (by omega) (L_run hi hq W C M hG hN (fun R' I' L' V' w c m g => nxt Z R' I' L' V' w c m g))
    · refine SX.tableIn (t := 920) dL_law_40 (by decide) (by decide) (o := 880) (by decide) (by decide) ?_
      exact SX.weaken (bc' := n) (bs' := 6 * n) (Nat.le_succ n) (by omega) (L_perform hi hq W C M hG hN (fun R' I' L' V' w c m g => nxt Z R' I' L' V' w c m g))
    · refine SX.tableIn (t := 945) dL_law_40 (by decide) (by decide) (o := 905) (by decide) (by decide) ?_
      exact SX.weaken (bc' := n) (bs' := 6 * n) (Nat.le_succ n) (by omega) (L_light hi hq W C M hG hN (fun R' I' L' V' w c m g => nxt Z R' I' L' V' w c m g))
    · refine SX.tableIn (t := 970) dL_law_40 (by decide) (by decide) (o := 930) (by decide) (by decide) ?_
      exact SX.weaken (bc' := n) (bs' := 6 * n) (Nat.le_succ n) (by omega) (L_coming hi hq W C M hG hN (fun R' I' L' V' w c m g => nxt Z R' I' L' V' w c m g))
    · refine SX.tableIn (t := 995) dL_law_40 (by decide) (by decide) (o := 955) (by decide) (by decide) ?_
      exact SX.weaken (bc' := n) (bs' := 6 * n) (Nat.le_succ n) (by omega) (L_may hi hq W C M hG hN (fun R' I' L' V' w c m g => nxt Z R' I' L' V' w c m g))
    · refine SX.tableIn (t := 1020) dL_law_40 (by decide) (by decide) (o := 980) (by decide) (by decide) ?_
      exact SX.weaken (bc' := n) (bs' := 6 * n) (Nat.le_succ n) (by omega) (L_governs hi hq W C M hG hN (fun R' I' L' V' w c m g => nxt Z R' I' L' V' w c m g))
    · refine SX.tableIn (t := 1045) dL_law_40 (by decide) (by decide) (o := 1005) (by decide) (by decide) ?_
      exact SX.weaken (bc' := n) (bs' := 6 * n) (Nat.le_succ n) (by omega) (L_round hi hq W C M hG hN (fun R' I' L' V' w c m g => nxt Z R' I' L' V' w c m g))
    · refine SX.tableIn (t := 1070) dL_law_40 (by decide) (by decide) (o := 1030) (by decide) (by decide) ?_
      exact SX.weaken (bc' := n) (bs' := 6 * n) (Nat.le_succ n) (by omega) (L_swings hi hq W C M hG hN (fun R' I' L' V' w c m g => nxt Z R' I' L' V' w c m g))
    · refine SX.tableIn (t := 1095) dL_law_40 (by decide) (by decide) (o := 1055) (by decide) (by decide) ?_
      exact SX.weaken (bc' := n) (bs' := 6 * n) (Nat.le_succ n) (by omega) (L_bedding hi hq W C M hG hN (fun R' I' L' V' w c m g => nxt Z R' I' L' V' w c m g))
    · refine SX.tableIn (t := 1120) dL_law_40 (by decide) (by decide) (o := 1080) (by decide) (by decide) ?_
      exact SX.weaken (bc' := n) (bs' := 6 * n) (Nat.le_succ n) (by omega) (L_coins hi hq W C M hG hN (fun R' I' L' V' w c m g => nxt Z R' I' L' V' w c m g))
    · refine SX.tableIn (t := 1145) dL_law_40 (by decide) (by decide) (o := 1105) (by decide) (by decide) ?_
      exact SX.weaken (bc' := n) (bs' := 6 * n) (Nat.le_succ n) (by omega) (L_seen hi hq W C M hG hN (fun R' I' L' V' w c m g => nxt Z R' I' L' V' w c m g))
    · refine SX.tableIn (t := 1210) dL_law_40 (by decide) (by decide) (o := 1170) (by decide) (by decide) ?_
      exact SX.weaken (bc' := n) (bs' := 6 * n) (Nat.le_succ n) (by omega) (L_habits hi hq W C M hG hN (fun R' I' L' V' w c m g => nxt Z R' I' L' V' w c m g))
    · refine SX.tableIn (t := 1247) dL_law_40 (by decide) (by decide) (o := 1207) (by decide) (by decide) ?_
      exact SX.weaken (bc' := n) (bs' := 6 * n) (Nat.le_succ n) (by omega) (L_ask hi hq W C M hG hN (fun R' I' L' V' w c m g => nxt Z R' I' L' V' w c m g))
    · refine SX.tableIn (t := 1272) dL_law_40 (by decide) (by decide) (o := 1232) (by decide) (by decide) ?_
      exact SX.weaken (bc' := n) (bs' := 6 * n) (Nat.le_succ n) (by omega) (L_game hi hq W C M hG hN (fun R' I' L' V' w c m g => nxt Z R' I' L' V' w c m g))
    · refine SX.tableIn (t := 1345) dL_law_40 (by decide) (by decide) (o := 1305) (by decide) (by decide) ?_
      exact SX.weaken (bc' := n) (bs' := 6 * n) (Nat.le_succ n) (by omega) (L_rests hi hq W C M hG hN (fun R' I' L' V' w c m g => nxt Z R' I' L' V' w c m g))
    · refine SX.tableIn (t := 1394) dL_law_40 (by decide) (by decide) (o := 1354) (by decide) (by decide) ?_
      exact SX.weaken (bc' := n) (bs' := 6 * n) (Nat.le_succ n) (by omega) (L_odds hi hq W C M hG hN (fun R' I' L' V' w c m g => nxt Z R' I' L' V' w c m g))
    · refine SX.tableIn (t := 1431) dL_law_40 (by decide) (by decide) (o := 1391) (by decide) (by decide) ?_
      exact SX.weaken (bc' := n) (bs' := 6 * n) (Nat.le_succ n) (by omega) (L_shares hi hq W C M hG hN (fun R' I' L' V' w c m g => nxt Z R' I' L' V' w c m g))
    · refine SX.tableIn (t := 1468) dL_law_40 (by decide) (by decide) (o := 1428) (by decide) (by decide) ?_
      exact SX.weaken (bc' := n) (bs' := 6 * n) (Nat.le_succ n) (by omega) (L_did hi hq W C M hG hN (fun R' I' L' V' w c m g => nxt Z R' I' L' V' w c m g))
    · refine SX.tableIn (t := 1505) dL_law_40 (by decide) (by decide) (o := 1465) (by decide) (by decide) ?_
      exact SX.weaken (bc' := n) (bs' := 6 * n) (Nat.le_succ n) (by omega) (L_all hi hq W C M hG hN (fun R' I' L' V' w c m g => nxt Z R' I' L' V' w c m g))
    · refine SX.tableIn (t := 1530) dL_law_40 (by decide) (by decide) (o := 1490) (by decide) (by decide) ?_
      exact SX.weaken (bc' := n) (bs' := 6 * n) (Nat.le_succ n) (by omega) (L_image hi hq W C M hG hN (fun R' I' L' V' w c m g => nxt Z R' I' L' V' w c m g))
    · refine SX.tableIn (t := 1543) dL_law_40 (by decide) (by decide) (o := 1503) (by decide) (by decide) ?_
      exact SX.weaken (bc' := n) (bs' := 6 * n) (Nat.le_succ n) (by omega) (L_back hi hq W C M hG hN (fun R' I' L' V' w c m g => nxt Z R' I' L' V' w c m g))
    · refine SX.tableIn (t := 1556) dL_law_40 (by decide) (by decide) (o := 1516) (by decide) (by decide) ?_
      exact SX.weaken (bc' := n) (bs' := 6 * n) (Nat.le_succ n) (by omega) (L_count hi hq W C M hG hN (fun R' I' L' V' w c m g => nxt Z R' I' L' V' w c m g))
set_option maxRecDepth 20000 in
set_option maxHeartbeats 1000000 in
theorem law_go (hl : l.stackTraces = false) (hq : q0.1 ≤ 3072) (hpost : ∀ Z R I L, post (some (.int (nI 1))) Z R I L) {R : Rt} {I : It} {L : Lt} : SX q0 G l mL_law 60 692 49397 0 [(0, .ref 60)] [] (100, fun _ => (99, 0)) R I L post := by
  have B0 : Bd 100 100 100 [] (fun _ => 0) (100, fun _ => (99, 0)) R I L (100, fun _ => (99, 0)) R I L := ⟨rfl, Nat.le_refl _, Nat.le_refl _, fun k k1 k2 => absurd k1 (by omega), fun k hk => ⟨rfl, rfl, rfl, rfl⟩, fun t ht => absurd ht List.not_mem_nil⟩
  refine SX.new (bc' := 691) (bs' := 49379) dL_law_0 lkn_L_8 rfl rfl ?_
  have B1 := B0.mk (t := 11) (N := 0) (by decide +kernel) (Or.inr fun _ => rfl)
  refine SX.dup dL_law_3 rfl ?_
  refine SX.callI (As := []) (bc' := 539) (bs' := 40201) dL_law_4 lki_L_15 rfl (by decide) (by decide) (Nat.le_of_ble_eq_true rfl) rfl rfl (i_11 B1 (fun Z1 R1 I1 L1 A => ?_))
  refine SX.astore_n (lv' := [(1, .ref 100), (0, .ref 60)]) dL_law_7 (by decide) rfl ?_
  refine SX.new (bc' := 538) (bs' := 40149) dL_law_8 lkn_L_16 rfl rfl ?_
  rw [A.1]
  have B2 : Bd 253 253 253 [] (fun _ => 0) Z1 R1 I1 L1 Z1 R1 I1 L1 := ⟨A.1, by decide, Nat.le_refl _, fun k k1 k2 => absurd k1 (by omega), fun k hk => ⟨rfl, rfl, rfl, rfl⟩, fun t ht => absurd ht List.not_mem_nil⟩
  have B3 := B2.mk (t := 12) (N := 0) (by decide +kernel) (Or.inr fun _ => rfl)
  refine SX.dup dL_law_11 rfl ?_
  refine SX.callI (As := []) (bc' := 513) (bs' := 3073) dL_law_12 lki_L_18 rfl (by decide) (by decide) (Nat.le_of_ble_eq_true rfl) rfl rfl (i_12 B3 (fun Z2 R2 I2 L2 B4 => ?_))
  refine SX.astore_n (lv' := [(2, .ref 253), (1, .ref 100), (0, .ref 60)]) dL_law_15 (by decide) rfl ?_
  refine SX.iconst (v := nI 1) dL_law_16 (by decide) ?_
  refine SX.newarr (t := 54) (N := 1) (bc' := 512) (bs' := 3072) dL_law_17 (by decide) (by decide) rfl wac_long (by decide) (nI_clamp (by decide)) (by decide) rfl rfl ?_
  rw [B4.1]
  have B5 := B4.mk (t := 54) (N := 1) (by decide +kernel) (Or.inl (by decide))
  refine SX.astore_n (lv' := [(3, .ref 279), (2, .ref 253), (1, .ref 100), (0, .ref 60)]) dL_law_19 (by decide) rfl ?_
  refine SX.iconst (v := nI 0) dL_law_20 (by decide) ?_
  refine SX.istore (lv' := [(4, .int (nI 0)), (3, .ref 279), (2, .ref 253), (1, .ref 100), (0, .ref 60)]) dL_law_21 (by decide) rfl ?_
  refine SX.sub (lvL 0) (fun q hq => ?_) ?_
  · rcases List.mem_cons.mp hq with rfl | hq
    · exact List.mem_cons_self
    rcases List.mem_cons.mp hq with rfl | hq
    · simp
    rcases List.mem_cons.mp hq with rfl | hq
    · simp
    rcases List.mem_cons.mp hq with rfl | hq
    · simp
    rcases List.mem_cons.mp hq with rfl | hq
    · simp
    · exact absurd hq List.not_mem_nil
  exact l_law hl hq hpost 512 0 0 V0 _ _ _ _ (by omega) (by decide) (by decide) (first_WF A B5) (first_CI A B5) (first_MI A B5) first_GG
end LAW3
