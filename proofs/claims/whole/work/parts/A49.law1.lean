/-! the law: what a case does -/
abbrev mL_law : Mi := (yL_law, cL_law, 7, some .boolean)
abbrev lvL (i : Nat) : List (Nat × Value) := [(4, .int (nI i)), (0, .ref 60), (1, .ref 100), (2, .ref 253), (3, .ref 279)]
theorem SX.arg {q0 : Nat × (Nat → Int32)} {G : Gt} {l : Launch} {μ : Mi} {d bc bs pc i k : Nat} {n : Int} {lv : List (Nat × Value)} {st : List Value} {Z : Zt} {R : Rt} {I : It} {L : Lt} {post : Pt'} (hi : i + 6 ≤ q0.1) (hq : q0.1 ≤ 3072) (hk : k ≤ 5) (h0 : lvg lv 0 = some (.ref 60)) (h4 : lvg lv 4 = some (.int (nI i))) (d0 : decode μ.2.1 pc = .ok (.aload_n 0, 1)) (d1 : decode μ.2.1 (pc + 1) = .ok (.iload 4, 2)) (d3 : decode μ.2.1 (pc + 3) = .ok (.iconst n, 1)) (hn : Int32.ofInt n = nI k) (d4 : decode μ.2.1 (pc + 4) = .ok (.iadd, 1)) (d5 : decode μ.2.1 (pc + 5) = .ok (.iaload, 1)) (kk : SX q0 G l μ d bc bs (pc + 6) lv (.int (q0.2 (i + k)) :: st) Z R I L post) : SX q0 G l μ d bc bs pc lv st Z R I L post := by
  refine SX.aload_n d0 h0 ?_
  refine SX.iload d1 h4 ?_
  refine SX.iconst d3 hn ?_
  refine SX.iadd d4 ?_
  refine SX.top (nI_add i k) ?_
  refine SX.sld d5 (vp_in_nI (by omega) (by omega)) ?_
  rw [nI_clamp (by omega)]
  exact kk
set_option maxRecDepth 20000 in
set_option maxHeartbeats 1000000 in
theorem L_feed {q0 : Nat × (Nat → Int32)} {G : Gt} {l : Launch} {bc bs i : Nat} {Z : Zt} {R : Rt} {I : It} {L : Lt} {post : Pt'} {V : Vt} {N : Nat} (hi : i + 6 ≤ q0.1) (hq : q0.1 ≤ 3072) (W : WF Z R) (C : CI V R I L) (M : MI V I L) (hG : GG N V) (hN : N < 2147483647) (h : ∀ R' I' L' V', WF Z R' → CI V' R' I' L' → MI V' I' L' → GG (N + 1) V' → SX q0 G l mL_law 60 bc bs 1581 (lvL i) [] Z R' I' L' post) : SX q0 G l mL_law 60 bc bs 224 (lvL i) [] Z R I L post := by
  refine SX.aload_n dL_law_224 rfl ?_
  refine SX.arg (k := 1) hi hq (by decide) rfl rfl dL_law_225 dL_law_226 dL_law_228 rfl dL_law_229 dL_law_230 ?_
  refine SX.arg (k := 2) hi hq (by decide) rfl rfl dL_law_231 dL_law_232 dL_law_234 rfl dL_law_235 dL_law_236 ?_
  refine SX.arg (k := 3) hi hq (by decide) rfl rfl dL_law_237 dL_law_238 dL_law_240 rfl dL_law_241 dL_law_242 ?_
  refine SX.arg (k := 4) hi hq (by decide) rfl rfl dL_law_243 dL_law_244 dL_law_246 rfl dL_law_247 dL_law_248 ?_
  refine SX.arg (k := 5) hi hq (by decide) rfl rfl dL_law_249 dL_law_250 dL_law_252 rfl dL_law_253 dL_law_254 ?_
  refine SX.callV5 dL_law_255 lkv_L_19 (rcv_11 (o_100 W)) (by decide) (by decide) (Nat.le_of_ble_eq_true rfl) rfl rfl (D_feed W C M hG hN (fun I1 R1 L1 W1 C1 M1 => ?_))
  refine SX.aload_n dL_law_258 rfl ?_
  refine SX.arg (k := 1) hi hq (by decide) rfl rfl dL_law_259 dL_law_260 dL_law_262 rfl dL_law_263 dL_law_264 ?_
  refine SX.arg (k := 2) hi hq (by decide) rfl rfl dL_law_265 dL_law_266 dL_law_268 rfl dL_law_269 dL_law_270 ?_
  refine SX.arg (k := 3) hi hq (by decide) rfl rfl dL_law_271 dL_law_272 dL_law_274 rfl dL_law_275 dL_law_276 ?_
  refine SX.arg (k := 4) hi hq (by decide) rfl rfl dL_law_277 dL_law_278 dL_law_280 rfl dL_law_281 dL_law_282 ?_
  refine SX.arg (k := 5) hi hq (by decide) rfl rfl dL_law_283 dL_law_284 dL_law_286 rfl dL_law_287 dL_law_288 ?_
  refine SX.callV5 dL_law_289 lkv_L_23 (rcv_12 (o_253 W1)) (by decide) (by decide) (Nat.le_of_ble_eq_true rfl) rfl rfl (K_feed W1 C1 M1 hG (hG.feed.mono (Nat.le_succ N)) hN (fun I2 R2 L2 W2 C2 M2 => ?_))
  refine SX.icmp_eq (t := 1581) dL_law_292 (by decide) (fun _ => ?_) (fun z => absurd rfl z)
  exact h R2 I2 L2 _ W2 C2 M2 (hG.feed.mono (Nat.le_succ N))
set_option maxRecDepth 20000 in
set_option maxHeartbeats 1000000 in
theorem L_end {q0 : Nat × (Nat → Int32)} {G : Gt} {l : Launch} {bc bs i : Nat} {Z : Zt} {R : Rt} {I : It} {L : Lt} {post : Pt'} {V : Vt} {N : Nat} (hi : i + 6 ≤ q0.1) (hq : q0.1 ≤ 3072) (W : WF Z R) (C : CI V R I L) (M : MI V I L) (hG : GG N V) (hN : N < 2147483647) (h : ∀ R' I' L' V', WF Z R' → CI V' R' I' L' → MI V' I' L' → GG (N + 1) V' → SX q0 G l mL_law 60 bc bs 1581 (lvL i) [] Z R' I' L' post) : SX q0 G l mL_law 60 bc bs 297 (lvL i) [] Z R I L post := by
  refine SX.aload_n dL_law_297 rfl ?_
  refine SX.arg (k := 1) hi hq (by decide) rfl rfl dL_law_298 dL_law_299 dL_law_301 rfl dL_law_302 dL_law_303 ?_
  refine SX.callV1 dL_law_304 lkv_L_24 (rcv_11 (o_100 W)) (by decide) (by decide) (Nat.le_of_ble_eq_true rfl) rfl rfl (D_end W C M hG hN (fun I1 R1 L1 W1 C1 M1 => ?_))
  refine SX.aload_n dL_law_307 rfl ?_
  refine SX.arg (k := 1) hi hq (by decide) rfl rfl dL_law_308 dL_law_309 dL_law_311 rfl dL_law_312 dL_law_313 ?_
  refine SX.callV1 dL_law_314 lkv_L_28 (rcv_12 (o_253 W1)) (by decide) (by decide) (Nat.le_of_ble_eq_true rfl) rfl rfl (K_end W1 C1 M1 hG (hG.nd.mono (Nat.le_succ N)) hN (fun I2 R2 L2 W2 C2 M2 => ?_))
  refine SX.icmp_eq (t := 1581) dL_law_317 (by decide) (fun _ => ?_) (fun z => absurd rfl z)
  exact h R2 I2 L2 _ W2 C2 M2 (hG.nd.mono (Nat.le_succ N))
set_option maxRecDepth 20000 in
set_option maxHeartbeats 1000000 in
theorem L_fault {q0 : Nat × (Nat → Int32)} {G : Gt} {l : Launch} {bc bs i : Nat} {Z : Zt} {R : Rt} {I : It} {L : Lt} {post : Pt'} {V : Vt} {N : Nat} (hi : i + 6 ≤ q0.1) (hq : q0.1 ≤ 3072) (W : WF Z R) (C : CI V R I L) (M : MI V I L) (hG : GG N V) (hN : N < 2147483647) (h : ∀ R' I' L' V', WF Z R' → CI V' R' I' L' → MI V' I' L' → GG (N + 1) V' → SX q0 G l mL_law 60 bc bs 1581 (lvL i) [] Z R' I' L' post) : SX q0 G l mL_law 60 bc bs 322 (lvL i) [] Z R I L post := by
  refine SX.aload_n dL_law_322 rfl ?_
  refine SX.arg (k := 1) hi hq (by decide) rfl rfl dL_law_323 dL_law_324 dL_law_326 rfl dL_law_327 dL_law_328 ?_
  refine SX.callV1 dL_law_329 lkv_L_29 (rcv_11 (o_100 W)) (by decide) (by decide) (Nat.le_of_ble_eq_true rfl) rfl rfl (D_fault W C M hG hN (fun I1 R1 L1 W1 C1 M1 => ?_))
  refine SX.aload_n dL_law_332 rfl ?_
  refine SX.arg (k := 1) hi hq (by decide) rfl rfl dL_law_333 dL_law_334 dL_law_336 rfl dL_law_337 dL_law_338 ?_
  refine SX.callV1 dL_law_339 lkv_L_33 (rcv_12 (o_253 W1)) (by decide) (by decide) (Nat.le_of_ble_eq_true rfl) rfl rfl (K_fault W1 C1 M1 hG (hG.mono (Nat.le_succ N)) hN (fun I2 R2 L2 W2 C2 M2 => ?_))
  refine SX.icmp_eq (t := 1581) dL_law_342 (by decide) (fun _ => ?_) (fun z => absurd rfl z)
  exact h R2 I2 L2 _ W2 C2 M2 (hG.mono (Nat.le_succ N))
set_option maxRecDepth 20000 in
set_option maxHeartbeats 1000000 in
theorem L_text {q0 : Nat × (Nat → Int32)} {G : Gt} {l : Launch} {bc bs i : Nat} {Z : Zt} {R : Rt} {I : It} {L : Lt} {post : Pt'} {V : Vt} {N : Nat} (hi : i + 6 ≤ q0.1) (hq : q0.1 ≤ 3072) (W : WF Z R) (C : CI V R I L) (M : MI V I L) (hG : GG N V) (hN : N < 2147483647) (h : ∀ R' I' L' V', WF Z R' → CI V' R' I' L' → MI V' I' L' → GG (N + 1) V' → SX q0 G l mL_law 60 bc bs 1581 (lvL i) [] Z R' I' L' post) : SX q0 G l mL_law 60 bc bs 347 (lvL i) [] Z R I L post := by
  refine SX.aload_n dL_law_347 rfl ?_
  refine SX.arg (k := 1) hi hq (by decide) rfl rfl dL_law_348 dL_law_349 dL_law_351 rfl dL_law_352 dL_law_353 ?_
  refine SX.callV1 dL_law_354 lkv_L_34 (rcv_11 (o_100 W)) (by decide) (by decide) (Nat.le_of_ble_eq_true rfl) rfl rfl (D_text W C M hG hN (fun I1 R1 L1 W1 C1 M1 => ?_))
  refine SX.aload_n dL_law_357 rfl ?_
  refine SX.arg (k := 1) hi hq (by decide) rfl rfl dL_law_358 dL_law_359 dL_law_361 rfl dL_law_362 dL_law_363 ?_
  refine SX.callV1 dL_law_364 lkv_L_37 (rcv_12 (o_253 W1)) (by decide) (by decide) (Nat.le_of_ble_eq_true rfl) rfl rfl (K_text W1 C1 M1 hG (hG.tx.mono (Nat.le_succ N)) hN (fun I2 R2 L2 W2 C2 M2 => ?_))
  refine SX.icmp_eq (t := 1581) dL_law_367 (by decide) (fun _ => ?_) (fun z => absurd rfl z)
  exact h R2 I2 L2 _ W2 C2 M2 (hG.tx.mono (Nat.le_succ N))
set_option maxRecDepth 20000 in
set_option maxHeartbeats 1000000 in
theorem L_kind {q0 : Nat × (Nat → Int32)} {G : Gt} {l : Launch} {bc bs i : Nat} {Z : Zt} {R : Rt} {I : It} {L : Lt} {post : Pt'} {V : Vt} {N : Nat} (hi : i + 6 ≤ q0.1) (hq : q0.1 ≤ 3072) (W : WF Z R) (C : CI V R I L) (M : MI V I L) (hG : GG N V) (hN : N < 2147483647) (h : ∀ R' I' L' V', WF Z R' → CI V' R' I' L' → MI V' I' L' → GG (N + 1) V' → SX q0 G l mL_law 60 bc bs 1581 (lvL i) [] Z R' I' L' post) : SX q0 G l mL_law 60 bc bs 372 (lvL i) [] Z R I L post := by
  refine SX.aload_n dL_law_372 rfl ?_
  refine SX.arg (k := 1) hi hq (by decide) rfl rfl dL_law_373 dL_law_374 dL_law_376 rfl dL_law_377 dL_law_378 ?_
  refine SX.arg (k := 2) hi hq (by decide) rfl rfl dL_law_379 dL_law_380 dL_law_382 rfl dL_law_383 dL_law_384 ?_
  refine SX.callV2 dL_law_385 lkv_L_38 (rcv_11 (o_100 W)) (by decide) (by decide) (Nat.le_of_ble_eq_true rfl) rfl rfl (D_kind W C M hG hN (fun I1 R1 L1 W1 C1 M1 => ?_))
  refine SX.aload_n dL_law_388 rfl ?_
  refine SX.arg (k := 1) hi hq (by decide) rfl rfl dL_law_389 dL_law_390 dL_law_392 rfl dL_law_393 dL_law_394 ?_
  refine SX.arg (k := 2) hi hq (by decide) rfl rfl dL_law_395 dL_law_396 dL_law_398 rfl dL_law_399 dL_law_400 ?_
  refine SX.callV2 dL_law_401 lkv_L_41 (rcv_12 (o_253 W1)) (by decide) (by decide) (Nat.le_of_ble_eq_true rfl) rfl rfl (K_kind W1 C1 M1 hG (hG.mono (Nat.le_succ N)) hN (fun I2 R2 L2 W2 C2 M2 => ?_))
  refine SX.icmp_eq (t := 1581) dL_law_404 (by decide) (fun _ => ?_) (fun z => absurd rfl z)
  exact h R2 I2 L2 _ W2 C2 M2 (hG.mono (Nat.le_succ N))
set_option maxRecDepth 20000 in
set_option maxHeartbeats 1000000 in
theorem L_law {q0 : Nat × (Nat → Int32)} {G : Gt} {l : Launch} {bc bs i : Nat} {Z : Zt} {R : Rt} {I : It} {L : Lt} {post : Pt'} {V : Vt} {N : Nat} (hi : i + 6 ≤ q0.1) (hq : q0.1 ≤ 3072) (W : WF Z R) (C : CI V R I L) (M : MI V I L) (hG : GG N V) (hN : N < 2147483647) (h : ∀ R' I' L' V', WF Z R' → CI V' R' I' L' → MI V' I' L' → GG (N + 1) V' → SX q0 G l mL_law 60 bc bs 1581 (lvL i) [] Z R' I' L' post) : SX q0 G l mL_law 60 bc bs 477 (lvL i) [] Z R I L post := by
  refine SX.aload_n dL_law_477 rfl ?_
  refine SX.arg (k := 1) hi hq (by decide) rfl rfl dL_law_478 dL_law_479 dL_law_481 rfl dL_law_482 dL_law_483 ?_
  refine SX.callV1 dL_law_484 lkv_L_52 (rcv_11 (o_100 W)) (by decide) (by decide) (Nat.le_of_ble_eq_true rfl) rfl rfl (D_law W C M hG hN (fun I1 R1 L1 W1 C1 M1 => ?_))
  refine SX.aload_n dL_law_487 rfl ?_
  refine SX.arg (k := 1) hi hq (by decide) rfl rfl dL_law_488 dL_law_489 dL_law_491 rfl dL_law_492 dL_law_493 ?_
  refine SX.callV1 dL_law_494 lkv_L_55 (rcv_12 (o_253 W1)) (by decide) (by decide) (Nat.le_of_ble_eq_true rfl) rfl rfl (K_law W1 C1 M1 hG ((gg_lawV hG).mono (Nat.le_succ N)) hN (fun I2 R2 L2 W2 C2 M2 => ?_))
  refine SX.icmp_eq (t := 1581) dL_law_497 (by decide) (fun _ => ?_) (fun z => absurd rfl z)
  exact h R2 I2 L2 _ W2 C2 M2 ((gg_lawV hG).mono (Nat.le_succ N))
set_option maxRecDepth 20000 in
set_option maxHeartbeats 1000000 in
theorem L_whim {q0 : Nat × (Nat → Int32)} {G : Gt} {l : Launch} {bc bs i : Nat} {Z : Zt} {R : Rt} {I : It} {L : Lt} {post : Pt'} {V : Vt} {N : Nat} (hi : i + 6 ≤ q0.1) (hq : q0.1 ≤ 3072) (W : WF Z R) (C : CI V R I L) (M : MI V I L) (hG : GG N V) (hN : N < 2147483647) (h : ∀ R' I' L' V', WF Z R' → CI V' R' I' L' → MI V' I' L' → GG (N + 1) V' → SX q0 G l mL_law 60 bc bs 1581 (lvL i) [] Z R' I' L' post) : SX q0 G l mL_law 60 bc bs 502 (lvL i) [] Z R I L post := by
  refine SX.aload_n dL_law_502 rfl ?_
  refine SX.arg (k := 1) hi hq (by decide) rfl rfl dL_law_503 dL_law_504 dL_law_506 rfl dL_law_507 dL_law_508 ?_
  refine SX.callV1 dL_law_509 lkv_L_56 (rcv_11 (o_100 W)) (by decide) (by decide) (Nat.le_of_ble_eq_true rfl) rfl rfl (D_whim W C M hG hN (fun I1 R1 L1 W1 C1 M1 => ?_))
  refine SX.aload_n dL_law_512 rfl ?_
  refine SX.arg (k := 1) hi hq (by decide) rfl rfl dL_law_513 dL_law_514 dL_law_516 rfl dL_law_517 dL_law_518 ?_
  refine SX.callV1 dL_law_519 lkv_L_59 (rcv_12 (o_253 W1)) (by decide) (by decide) (Nat.le_of_ble_eq_true rfl) rfl rfl (K_whim W1 C1 M1 hG ((gg_whiV hG).mono (Nat.le_succ N)) hN (fun I2 R2 L2 W2 C2 M2 => ?_))
  refine SX.icmp_eq (t := 1581) dL_law_522 (by decide) (fun _ => ?_) (fun z => absurd rfl z)
  exact h R2 I2 L2 _ W2 C2 M2 ((gg_whiV hG).mono (Nat.le_succ N))
set_option maxRecDepth 20000 in
set_option maxHeartbeats 1000000 in
theorem L_pass {q0 : Nat × (Nat → Int32)} {G : Gt} {l : Launch} {bc bs i : Nat} {Z : Zt} {R : Rt} {I : It} {L : Lt} {post : Pt'} {V : Vt} {N : Nat} (hi : i + 6 ≤ q0.1) (hq : q0.1 ≤ 3072) (W : WF Z R) (C : CI V R I L) (M : MI V I L) (hG : GG N V) (hN : N < 2147483647) (h : ∀ R' I' L' V', WF Z R' → CI V' R' I' L' → MI V' I' L' → GG (N + 1) V' → SX q0 G l mL_law 60 bc bs 1581 (lvL i) [] Z R' I' L' post) : SX q0 G l mL_law 60 bc bs 527 (lvL i) [] Z R I L post := by
  refine SX.aload_n dL_law_527 rfl ?_
  refine SX.callV0 dL_law_528 lkv_L_60 (rcv_11 (o_100 W)) (by decide) (by decide) (Nat.le_of_ble_eq_true rfl) rfl rfl (D_pass W C M hG hN (fun I1 R1 L1 W1 C1 M1 => ?_))
  refine SX.aload_n dL_law_531 rfl ?_
  refine SX.callV0 dL_law_532 lkv_L_63 (rcv_12 (o_253 W1)) (by decide) (by decide) (Nat.le_of_ble_eq_true rfl) rfl rfl (K_pass W1 C1 M1 hG (hG.act _ _ _) hN (fun I2 R2 L2 W2 C2 M2 => ?_))
  refine SX.icmp_eq (t := 1581) dL_law_535 (by decide) (fun _ => ?_) (fun z => absurd rfl z)
  exact h R2 I2 L2 _ W2 C2 M2 (hG.act _ _ _)
set_option maxRecDepth 20000 in
set_option maxHeartbeats 1000000 in
theorem L_habit {q0 : Nat × (Nat → Int32)} {G : Gt} {l : Launch} {bc bs i : Nat} {Z : Zt} {R : Rt} {I : It} {L : Lt} {post : Pt'} {V : Vt} {N : Nat} (hi : i + 6 ≤ q0.1) (hq : q0.1 ≤ 3072) (W : WF Z R) (C : CI V R I L) (M : MI V I L) (hG : GG N V) (hN : N < 2147483647) (h : ∀ R' I' L' V', WF Z R' → CI V' R' I' L' → MI V' I' L' → GG (N + 1) V' → SX q0 G l mL_law 60 bc bs 1581 (lvL i) [] Z R' I' L' post) : SX q0 G l mL_law 60 bc bs 540 (lvL i) [] Z R I L post := by
  refine SX.aload_n dL_law_540 rfl ?_
  refine SX.arg (k := 1) hi hq (by decide) rfl rfl dL_law_541 dL_law_542 dL_law_544 rfl dL_law_545 dL_law_546 ?_
  refine SX.arg (k := 2) hi hq (by decide) rfl rfl dL_law_547 dL_law_548 dL_law_550 rfl dL_law_551 dL_law_552 ?_
  refine SX.callV2 dL_law_553 lkv_L_64 (rcv_11 (o_100 W)) (by decide) (by decide) (Nat.le_of_ble_eq_true rfl) rfl rfl (D_habit W C M hG hN (fun I1 R1 L1 W1 C1 M1 => ?_))
  refine SX.aload_n dL_law_556 rfl ?_
  refine SX.arg (k := 1) hi hq (by decide) rfl rfl dL_law_557 dL_law_558 dL_law_560 rfl dL_law_561 dL_law_562 ?_
  refine SX.arg (k := 2) hi hq (by decide) rfl rfl dL_law_563 dL_law_564 dL_law_566 rfl dL_law_567 dL_law_568 ?_
  refine SX.callV2 dL_law_569 lkv_L_67 (rcv_12 (o_253 W1)) (by decide) (by decide) (Nat.le_of_ble_eq_true rfl) rfl rfl (K_habit W1 C1 M1 hG (hG.act _ _ _) hN (fun I2 R2 L2 W2 C2 M2 => ?_))
  refine SX.icmp_eq (t := 1581) dL_law_572 (by decide) (fun _ => ?_) (fun z => absurd rfl z)
  exact h R2 I2 L2 _ W2 C2 M2 (hG.act _ _ _)
set_option maxRecDepth 20000 in
set_option maxHeartbeats 1000000 in
theorem L_bed {q0 : Nat × (Nat → Int32)} {G : Gt} {l : Launch} {bc bs i : Nat} {Z : Zt} {R : Rt} {I : It} {L : Lt} {post : Pt'} {V : Vt} {N : Nat} (hi : i + 6 ≤ q0.1) (hq : q0.1 ≤ 3072) (W : WF Z R) (C : CI V R I L) (M : MI V I L) (hG : GG N V) (hN : N < 2147483647) (h : ∀ R' I' L' V', WF Z R' → CI V' R' I' L' → MI V' I' L' → GG (N + 1) V' → SX q0 G l mL_law 60 bc bs 1581 (lvL i) [] Z R' I' L' post) : SX q0 G l mL_law 60 bc bs 577 (lvL i) [] Z R I L post := by
  refine SX.aload_n dL_law_577 rfl ?_
  refine SX.arg (k := 1) hi hq (by decide) rfl rfl dL_law_578 dL_law_579 dL_law_581 rfl dL_law_582 dL_law_583 ?_
  refine SX.callV1 dL_law_584 lkv_L_68 (rcv_11 (o_100 W)) (by decide) (by decide) (Nat.le_of_ble_eq_true rfl) rfl rfl (D_bed W C M hG hN (fun I1 R1 L1 W1 C1 M1 => ?_))
  refine SX.aload_n dL_law_587 rfl ?_
  refine SX.arg (k := 1) hi hq (by decide) rfl rfl dL_law_588 dL_law_589 dL_law_591 rfl dL_law_592 dL_law_593 ?_
  refine SX.callV1 dL_law_594 lkv_L_71 (rcv_12 (o_253 W1)) (by decide) (by decide) (Nat.le_of_ble_eq_true rfl) rfl rfl (K_bed W1 C1 M1 hG (hG.act _ _ _) hN (fun I2 R2 L2 W2 C2 M2 => ?_))
  refine SX.icmp_eq (t := 1581) dL_law_597 (by decide) (fun _ => ?_) (fun z => absurd rfl z)
  exact h R2 I2 L2 _ W2 C2 M2 (hG.act _ _ _)
set_option maxRecDepth 20000 in
set_option maxHeartbeats 1000000 in
theorem L_fog {q0 : Nat × (Nat → Int32)} {G : Gt} {l : Launch} {bc bs i : Nat} {Z : Zt} {R : Rt} {I : It} {L : Lt} {post : Pt'} {V : Vt} {N : Nat} (hi : i + 6 ≤ q0.1) (hq : q0.1 ≤ 3072) (W : WF Z R) (C : CI V R I L) (M : MI V I L) (hG : GG N V) (hN : N < 2147483647) (h : ∀ R' I' L' V', WF Z R' → CI V' R' I' L' → MI V' I' L' → GG (N + 1) V' → SX q0 G l mL_law 60 bc bs 1581 (lvL i) [] Z R' I' L' post) : SX q0 G l mL_law 60 bc bs 602 (lvL i) [] Z R I L post := by
  refine SX.aload_n dL_law_602 rfl ?_
  refine SX.arg (k := 1) hi hq (by decide) rfl rfl dL_law_603 dL_law_604 dL_law_606 rfl dL_law_607 dL_law_608 ?_
  refine SX.callV1 dL_law_609 lkv_L_72 (rcv_11 (o_100 W)) (by decide) (by decide) (Nat.le_of_ble_eq_true rfl) rfl rfl (D_fog W C M hG hN (fun I1 R1 L1 W1 C1 M1 => ?_))
  refine SX.aload_n dL_law_612 rfl ?_
  refine SX.arg (k := 1) hi hq (by decide) rfl rfl dL_law_613 dL_law_614 dL_law_616 rfl dL_law_617 dL_law_618 ?_
  refine SX.callV1 dL_law_619 lkv_L_75 (rcv_12 (o_253 W1)) (by decide) (by decide) (Nat.le_of_ble_eq_true rfl) rfl rfl (K_fog W1 C1 M1 hG (hG.act _ _ _) hN (fun I2 R2 L2 W2 C2 M2 => ?_))
  refine SX.icmp_eq (t := 1581) dL_law_622 (by decide) (fun _ => ?_) (fun z => absurd rfl z)
  exact h R2 I2 L2 _ W2 C2 M2 (hG.act _ _ _)
set_option maxRecDepth 20000 in
set_option maxHeartbeats 1000000 in
theorem L_eclipse {q0 : Nat × (Nat → Int32)} {G : Gt} {l : Launch} {bc bs i : Nat} {Z : Zt} {R : Rt} {I : It} {L : Lt} {post : Pt'} {V : Vt} {N : Nat} (hi : i + 6 ≤ q0.1) (hq : q0.1 ≤ 3072) (W : WF Z R) (C : CI V R I L) (M : MI V I L) (hG : GG N V) (hN : N < 2147483647) (h : ∀ R' I' L' V', WF Z R' → CI V' R' I' L' → MI V' I' L' → GG (N + 1) V' → SX q0 G l mL_law 60 bc bs 1581 (lvL i) [] Z R' I' L' post) : SX q0 G l mL_law 60 bc bs 627 (lvL i) [] Z R I L post := by
  refine SX.aload_n dL_law_627 rfl ?_
  refine SX.callV0 dL_law_628 lkv_L_76 (rcv_11 (o_100 W)) (by decide) (by decide) (Nat.le_of_ble_eq_true rfl) rfl rfl (D_eclipse W C M hG hN (fun I1 R1 L1 W1 C1 M1 => ?_))
  refine SX.aload_n dL_law_631 rfl ?_
  refine SX.callV0 dL_law_632 lkv_L_79 (rcv_12 (o_253 W1)) (by decide) (by decide) (Nat.le_of_ble_eq_true rfl) rfl rfl (K_eclipse W1 C1 M1 hG (hG.act _ _ _) hN (fun I2 R2 L2 W2 C2 M2 => ?_))
  refine SX.icmp_eq (t := 1581) dL_law_635 (by decide) (fun _ => ?_) (fun z => absurd rfl z)
  exact h R2 I2 L2 _ W2 C2 M2 (hG.act _ _ _)
set_option maxRecDepth 20000 in
set_option maxHeartbeats 1000000 in
theorem L_candles {q0 : Nat × (Nat → Int32)} {G : Gt} {l : Launch} {bc bs i : Nat} {Z : Zt} {R : Rt} {I : It} {L : Lt} {post : Pt'} {V : Vt} {N : Nat} (hi : i + 6 ≤ q0.1) (hq : q0.1 ≤ 3072) (W : WF Z R) (C : CI V R I L) (M : MI V I L) (hG : GG N V) (hN : N < 2147483647) (h : ∀ R' I' L' V', WF Z R' → CI V' R' I' L' → MI V' I' L' → GG (N + 1) V' → SX q0 G l mL_law 60 bc bs 1581 (lvL i) [] Z R' I' L' post) : SX q0 G l mL_law 60 bc bs 640 (lvL i) [] Z R I L post := by
  refine SX.aload_n dL_law_640 rfl ?_
  refine SX.arg (k := 1) hi hq (by decide) rfl rfl dL_law_641 dL_law_642 dL_law_644 rfl dL_law_645 dL_law_646 ?_
  refine SX.callV1 dL_law_647 lkv_L_80 (rcv_11 (o_100 W)) (by decide) (by decide) (Nat.le_of_ble_eq_true rfl) rfl rfl (D_candles W C M hG hN (fun I1 R1 L1 W1 C1 M1 => ?_))
  refine SX.aload_n dL_law_650 rfl ?_
  refine SX.arg (k := 1) hi hq (by decide) rfl rfl dL_law_651 dL_law_652 dL_law_654 rfl dL_law_655 dL_law_656 ?_
  refine SX.callV1 dL_law_657 lkv_L_83 (rcv_12 (o_253 W1)) (by decide) (by decide) (Nat.le_of_ble_eq_true rfl) rfl rfl (K_candles W1 C1 M1 hG (hG.act _ _ _) hN (fun I2 R2 L2 W2 C2 M2 => ?_))
  refine SX.icmp_eq (t := 1581) dL_law_660 (by decide) (fun _ => ?_) (fun z => absurd rfl z)
  exact h R2 I2 L2 _ W2 C2 M2 (hG.act _ _ _)
set_option maxRecDepth 20000 in
set_option maxHeartbeats 1000000 in
theorem L_give {q0 : Nat × (Nat → Int32)} {G : Gt} {l : Launch} {bc bs i : Nat} {Z : Zt} {R : Rt} {I : It} {L : Lt} {post : Pt'} {V : Vt} {N : Nat} (hi : i + 6 ≤ q0.1) (hq : q0.1 ≤ 3072) (W : WF Z R) (C : CI V R I L) (M : MI V I L) (hG : GG N V) (hN : N < 2147483647) (h : ∀ R' I' L' V', WF Z R' → CI V' R' I' L' → MI V' I' L' → GG (N + 1) V' → SX q0 G l mL_law 60 bc bs 1581 (lvL i) [] Z R' I' L' post) : SX q0 G l mL_law 60 bc bs 665 (lvL i) [] Z R I L post := by
  refine SX.aload_n dL_law_665 rfl ?_
  refine SX.arg (k := 1) hi hq (by decide) rfl rfl dL_law_666 dL_law_667 dL_law_669 rfl dL_law_670 dL_law_671 ?_
  refine SX.callV1 dL_law_672 lkv_L_84 (rcv_11 (o_100 W)) (by decide) (by decide) (Nat.le_of_ble_eq_true rfl) rfl rfl (D_give W C M hG hN (fun I1 R1 L1 W1 C1 M1 => ?_))
  refine SX.aload_n dL_law_675 rfl ?_
  refine SX.arg (k := 1) hi hq (by decide) rfl rfl dL_law_676 dL_law_677 dL_law_679 rfl dL_law_680 dL_law_681 ?_
  refine SX.callV1 dL_law_682 lkv_L_87 (rcv_12 (o_253 W1)) (by decide) (by decide) (Nat.le_of_ble_eq_true rfl) rfl rfl (K_give W1 C1 M1 hG (hG.act _ _ _) hN (fun I2 R2 L2 W2 C2 M2 => ?_))
  refine SX.icmp_eq (t := 1581) dL_law_685 (by decide) (fun _ => ?_) (fun z => absurd rfl z)
  exact h R2 I2 L2 _ W2 C2 M2 (hG.act _ _ _)
set_option maxRecDepth 20000 in
set_option maxHeartbeats 1000000 in
theorem L_years {q0 : Nat × (Nat → Int32)} {G : Gt} {l : Launch} {bc bs i : Nat} {Z : Zt} {R : Rt} {I : It} {L : Lt} {post : Pt'} {V : Vt} {N : Nat} (hi : i + 6 ≤ q0.1) (hq : q0.1 ≤ 3072) (W : WF Z R) (C : CI V R I L) (M : MI V I L) (hG : GG N V) (hN : N < 2147483647) (h : ∀ R' I' L' V', WF Z R' → CI V' R' I' L' → MI V' I' L' → GG (N + 1) V' → SX q0 G l mL_law 60 bc bs 1581 (lvL i) [] Z R' I' L' post) : SX q0 G l mL_law 60 bc bs 690 (lvL i) [] Z R I L post := by
  refine SX.aload_n dL_law_690 rfl ?_
  refine SX.arg (k := 1) hi hq (by decide) rfl rfl dL_law_691 dL_law_692 dL_law_694 rfl dL_law_695 dL_law_696 ?_
  refine SX.arg (k := 2) hi hq (by decide) rfl rfl dL_law_697 dL_law_698 dL_law_700 rfl dL_law_701 dL_law_702 ?_
  refine SX.i2l dL_law_703 ?_
  refine SX.bipush (v := nI 32) dL_law_704 (by decide) ?_
  refine SX.lshl dL_law_706 ?_
  refine SX.arg (k := 3) hi hq (by decide) rfl rfl dL_law_707 dL_law_708 dL_law_710 rfl dL_law_711 dL_law_712 ?_
  refine SX.i2l dL_law_713 ?_
  refine SX.ldc2 dL_law_714 lkk_L_88 ?_
  refine SX.land dL_law_717 ?_
  refine SX.lor dL_law_718 ?_
  refine SX.callV2 dL_law_719 lkv_L_90 (rcv_11 (o_100 W)) (by decide) (by decide) (Nat.le_of_ble_eq_true rfl) rfl rfl (D_years W C M hG hN (fun I1 R1 L1 W1 C1 M1 => ?_))
  refine SX.aload_n dL_law_722 rfl ?_
  refine SX.arg (k := 1) hi hq (by decide) rfl rfl dL_law_723 dL_law_724 dL_law_726 rfl dL_law_727 dL_law_728 ?_
  refine SX.arg (k := 2) hi hq (by decide) rfl rfl dL_law_729 dL_law_730 dL_law_732 rfl dL_law_733 dL_law_734 ?_
  refine SX.i2l dL_law_735 ?_
  refine SX.bipush (v := nI 32) dL_law_736 (by decide) ?_
  refine SX.lshl dL_law_738 ?_
  refine SX.arg (k := 3) hi hq (by decide) rfl rfl dL_law_739 dL_law_740 dL_law_742 rfl dL_law_743 dL_law_744 ?_
  refine SX.i2l dL_law_745 ?_
  refine SX.ldc2 dL_law_746 lkk_L_88 ?_
  refine SX.land dL_law_749 ?_
  refine SX.lor dL_law_750 ?_
  refine SX.callV2 dL_law_751 lkv_L_94 (rcv_12 (o_253 W1)) (by decide) (by decide) (Nat.le_of_ble_eq_true rfl) rfl rfl (K_years W1 C1 M1 hG (hG.yrs.mono (Nat.le_succ N)) hN (fun I2 R2 L2 W2 C2 M2 => ?_))
  refine SX.icmp_eq (t := 1581) dL_law_754 (by decide) (fun _ => ?_) (fun z => absurd rfl z)
  exact h R2 I2 L2 _ W2 C2 M2 (hG.yrs.mono (Nat.le_succ N))
set_option maxRecDepth 20000 in
set_option maxHeartbeats 1000000 in
theorem L_status {q0 : Nat × (Nat → Int32)} {G : Gt} {l : Launch} {bc bs i : Nat} {Z : Zt} {R : Rt} {I : It} {L : Lt} {post : Pt'} {V : Vt} {N : Nat} (hi : i + 6 ≤ q0.1) (hq : q0.1 ≤ 3072) (W : WF Z R) (C : CI V R I L) (M : MI V I L) (hG : GG N V) (hN : N < 2147483647) (h : ∀ R' I' L' V', WF Z R' → CI V' R' I' L' → MI V' I' L' → GG (N + 1) V' → SX q0 G l mL_law 60 bc bs 1581 (lvL i) [] Z R' I' L' post) : SX q0 G l mL_law 60 bc bs 759 (lvL i) [] Z R I L post := by
  refine SX.aload_n dL_law_759 rfl ?_
  refine SX.arg (k := 1) hi hq (by decide) rfl rfl dL_law_760 dL_law_761 dL_law_763 rfl dL_law_764 dL_law_765 ?_
  refine SX.callV1 dL_law_766 lkv_L_95 (rcv_11 (o_100 W)) (by decide) (by decide) (Nat.le_of_ble_eq_true rfl) rfl rfl (D_status W C M hG hN (fun I1 R1 L1 W1 C1 M1 => ?_))
  refine SX.aload_n dL_law_769 rfl ?_
  refine SX.arg (k := 1) hi hq (by decide) rfl rfl dL_law_770 dL_law_771 dL_law_773 rfl dL_law_774 dL_law_775 ?_
  refine SX.callV1 dL_law_776 lkv_L_98 (rcv_12 (o_253 W1)) (by decide) (by decide) (Nat.le_of_ble_eq_true rfl) rfl rfl (K_status W1 C1 M1 hG (hG.mono (Nat.le_succ N)) hN (fun I2 R2 L2 W2 C2 M2 => ?_))
  refine SX.icmp_eq (t := 1581) dL_law_779 (by decide) (fun _ => ?_) (fun z => absurd rfl z)
  exact h R2 I2 L2 _ W2 C2 M2 (hG.mono (Nat.le_succ N))
set_option maxRecDepth 20000 in
set_option maxHeartbeats 1000000 in
theorem L_undo {q0 : Nat × (Nat → Int32)} {G : Gt} {l : Launch} {bc bs i : Nat} {Z : Zt} {R : Rt} {I : It} {L : Lt} {post : Pt'} {V : Vt} {N : Nat} (hi : i + 6 ≤ q0.1) (hq : q0.1 ≤ 3072) (W : WF Z R) (C : CI V R I L) (M : MI V I L) (hG : GG N V) (hN : N < 2147483647) (h : ∀ R' I' L' V', WF Z R' → CI V' R' I' L' → MI V' I' L' → GG (N + 1) V' → SX q0 G l mL_law 60 bc bs 1581 (lvL i) [] Z R' I' L' post) : SX q0 G l mL_law 60 bc bs 784 (lvL i) [] Z R I L post := by
  refine SX.aload_n dL_law_784 rfl ?_
  refine SX.callV0 dL_law_785 lkv_L_99 (rcv_11 (o_100 W)) (by decide) (by decide) (Nat.le_of_ble_eq_true rfl) rfl rfl (D_undo W C M hG hN (fun I1 R1 L1 W1 C1 M1 => ?_))
  refine SX.aload_n dL_law_788 rfl ?_
  refine SX.callV0 dL_law_789 lkv_L_102 (rcv_12 (o_253 W1)) (by decide) (by decide) (Nat.le_of_ble_eq_true rfl) rfl rfl (K_undo W1 C1 M1 hG ((gg_undV hG).mono (Nat.le_succ N)) hN (fun I2 R2 L2 W2 C2 M2 => ?_))
  refine SX.icmp_eq (t := 1581) dL_law_792 (by decide) (fun _ => ?_) (fun z => absurd rfl z)
  exact h R2 I2 L2 _ W2 C2 M2 ((gg_undV hG).mono (Nat.le_succ N))
set_option maxRecDepth 20000 in
set_option maxHeartbeats 1000000 in
theorem L_log {q0 : Nat × (Nat → Int32)} {G : Gt} {l : Launch} {bc bs i : Nat} {Z : Zt} {R : Rt} {I : It} {L : Lt} {post : Pt'} {V : Vt} {N : Nat} (hi : i + 6 ≤ q0.1) (hq : q0.1 ≤ 3072) (W : WF Z R) (C : CI V R I L) (M : MI V I L) (hG : GG N V) (hN : N < 2147483647) (h : ∀ R' I' L' V', WF Z R' → CI V' R' I' L' → MI V' I' L' → GG (N + 1) V' → SX q0 G l mL_law 60 bc bs 1581 (lvL i) [] Z R' I' L' post) : SX q0 G l mL_law 60 bc bs 797 (lvL i) [] Z R I L post := by
  refine SX.aload_n dL_law_797 rfl ?_
  refine SX.arg (k := 1) hi hq (by decide) rfl rfl dL_law_798 dL_law_799 dL_law_801 rfl dL_law_802 dL_law_803 ?_
  refine SX.arg (k := 2) hi hq (by decide) rfl rfl dL_law_804 dL_law_805 dL_law_807 rfl dL_law_808 dL_law_809 ?_
  refine SX.callV2 dL_law_810 lkv_L_103 (rcv_11 (o_100 W)) (by decide) (by decide) (Nat.le_of_ble_eq_true rfl) rfl rfl (D_log W C M hG hN (fun I1 R1 L1 W1 C1 M1 => ?_))
  refine SX.aload_n dL_law_813 rfl ?_
  refine SX.arg (k := 1) hi hq (by decide) rfl rfl dL_law_814 dL_law_815 dL_law_817 rfl dL_law_818 dL_law_819 ?_
  refine SX.arg (k := 2) hi hq (by decide) rfl rfl dL_law_820 dL_law_821 dL_law_823 rfl dL_law_824 dL_law_825 ?_
  refine SX.callV2 dL_law_826 lkv_L_106 (rcv_12 (o_253 W1)) (by decide) (by decide) (Nat.le_of_ble_eq_true rfl) rfl rfl (K_log W1 C1 M1 hG (hG.mono (Nat.le_succ N)) hN (fun I2 R2 L2 W2 C2 M2 => ?_))
  refine SX.icmp_eq (t := 1581) dL_law_829 (by decide) (fun _ => ?_) (fun z => absurd rfl z)
  exact h R2 I2 L2 _ W2 C2 M2 (hG.mono (Nat.le_succ N))
set_option maxRecDepth 20000 in
set_option maxHeartbeats 1000000 in
theorem L_step {q0 : Nat × (Nat → Int32)} {G : Gt} {l : Launch} {bc bs i : Nat} {Z : Zt} {R : Rt} {I : It} {L : Lt} {post : Pt'} {V : Vt} {N : Nat} (hi : i + 6 ≤ q0.1) (hq : q0.1 ≤ 3072) (W : WF Z R) (C : CI V R I L) (M : MI V I L) (hG : GG N V) (hN : N < 2147483647) (h : ∀ R' I' L' V', WF Z R' → CI V' R' I' L' → MI V' I' L' → GG (N + 1) V' → SX q0 G l mL_law 60 bc bs 1581 (lvL i) [] Z R' I' L' post) : SX q0 G l mL_law 60 bc bs 834 (lvL i) [] Z R I L post := by
  refine SX.aload_n dL_law_834 rfl ?_
  refine SX.arg (k := 1) hi hq (by decide) rfl rfl dL_law_835 dL_law_836 dL_law_838 rfl dL_law_839 dL_law_840 ?_
  refine SX.arg (k := 2) hi hq (by decide) rfl rfl dL_law_841 dL_law_842 dL_law_844 rfl dL_law_845 dL_law_846 ?_
  refine SX.arg (k := 3) hi hq (by decide) rfl rfl dL_law_847 dL_law_848 dL_law_850 rfl dL_law_851 dL_law_852 ?_
  refine SX.callV3 dL_law_853 lkv_L_107 (rcv_11 (o_100 W)) (by decide) (by decide) (Nat.le_of_ble_eq_true rfl) rfl rfl (D_step W C M hG hN (fun I1 R1 L1 W1 C1 M1 => ?_))
  refine SX.aload_n dL_law_856 rfl ?_
  refine SX.arg (k := 1) hi hq (by decide) rfl rfl dL_law_857 dL_law_858 dL_law_860 rfl dL_law_861 dL_law_862 ?_
  refine SX.arg (k := 2) hi hq (by decide) rfl rfl dL_law_863 dL_law_864 dL_law_866 rfl dL_law_867 dL_law_868 ?_
  refine SX.arg (k := 3) hi hq (by decide) rfl rfl dL_law_869 dL_law_870 dL_law_872 rfl dL_law_873 dL_law_874 ?_
  refine SX.callV3 dL_law_875 lkv_L_111 (rcv_12 (o_253 W1)) (by decide) (by decide) (Nat.le_of_ble_eq_true rfl) rfl rfl (K_step W1 C1 M1 hG (hG.mono (Nat.le_succ N)) hN (fun I2 R2 L2 W2 C2 M2 => ?_))
  refine SX.icmp_eq (t := 1581) dL_law_878 (by decide) (fun _ => ?_) (fun z => absurd rfl z)
  exact h R2 I2 L2 _ W2 C2 M2 (hG.mono (Nat.le_succ N))
set_option maxRecDepth 20000 in
set_option maxHeartbeats 1000000 in
theorem L_run {q0 : Nat × (Nat → Int32)} {G : Gt} {l : Launch} {bc bs i : Nat} {Z : Zt} {R : Rt} {I : It} {L : Lt} {post : Pt'} {V : Vt} {N : Nat} (hi : i + 6 ≤ q0.1) (hq : q0.1 ≤ 3072) (W : WF Z R) (C : CI V R I L) (M : MI V I L) (hG : GG N V) (hN : N < 2147483647) (h : ∀ R' I' L' V', WF Z R' → CI V' R' I' L' → MI V' I' L' → GG (N + 1) V' → SX q0 G l mL_law 60 bc bs 1581 (lvL i) [] Z R' I' L' post) : SX q0 G l mL_law 60 bc bs 883 (lvL i) [] Z R I L post := by
  refine SX.aload_n dL_law_883 rfl ?_
  refine SX.arg (k := 1) hi hq (by decide) rfl rfl dL_law_884 dL_law_885 dL_law_887 rfl dL_law_888 dL_law_889 ?_
  refine SX.arg (k := 2) hi hq (by decide) rfl rfl dL_law_890 dL_law_891 dL_law_893 rfl dL_law_894 dL_law_895 ?_
  refine SX.callV2 dL_law_896 lkv_L_112 (rcv_11 (o_100 W)) (by decide) (by decide) (Nat.le_of_ble_eq_true rfl) rfl rfl (D_run W C M hG hN (fun I1 R1 L1 W1 C1 M1 => ?_))
  refine SX.aload_n dL_law_899 rfl ?_
  refine SX.arg (k := 1) hi hq (by decide) rfl rfl dL_law_900 dL_law_901 dL_law_903 rfl dL_law_904 dL_law_905 ?_
  refine SX.arg (k := 2) hi hq (by decide) rfl rfl dL_law_906 dL_law_907 dL_law_909 rfl dL_law_910 dL_law_911 ?_
  refine SX.callV2 dL_law_912 lkv_L_115 (rcv_12 (o_253 W1)) (by decide) (by decide) (Nat.le_of_ble_eq_true rfl) rfl rfl (K_run W1 C1 M1 hG (hG.mono (Nat.le_succ N)) hN (fun I2 R2 L2 W2 C2 M2 => ?_))
  refine SX.icmp_eq (t := 1581) dL_law_915 (by decide) (fun _ => ?_) (fun z => absurd rfl z)
  exact h R2 I2 L2 _ W2 C2 M2 (hG.mono (Nat.le_succ N))
set_option maxRecDepth 20000 in
set_option maxHeartbeats 1000000 in
theorem L_perform {q0 : Nat × (Nat → Int32)} {G : Gt} {l : Launch} {bc bs i : Nat} {Z : Zt} {R : Rt} {I : It} {L : Lt} {post : Pt'} {V : Vt} {N : Nat} (hi : i + 6 ≤ q0.1) (hq : q0.1 ≤ 3072) (W : WF Z R) (C : CI V R I L) (M : MI V I L) (hG : GG N V) (hN : N < 2147483647) (h : ∀ R' I' L' V', WF Z R' → CI V' R' I' L' → MI V' I' L' → GG (N + 1) V' → SX q0 G l mL_law 60 bc bs 1581 (lvL i) [] Z R' I' L' post) : SX q0 G l mL_law 60 bc bs 920 (lvL i) [] Z R I L post := by
  refine SX.aload_n dL_law_920 rfl ?_
  refine SX.arg (k := 1) hi hq (by decide) rfl rfl dL_law_921 dL_law_922 dL_law_924 rfl dL_law_925 dL_law_926 ?_
  refine SX.callV1 dL_law_927 lkv_L_116 (rcv_11 (o_100 W)) (by decide) (by decide) (Nat.le_of_ble_eq_true rfl) rfl rfl (D_perform W C M hG hN (fun I1 R1 L1 W1 C1 M1 => ?_))
  refine SX.aload_n dL_law_930 rfl ?_
  refine SX.arg (k := 1) hi hq (by decide) rfl rfl dL_law_931 dL_law_932 dL_law_934 rfl dL_law_935 dL_law_936 ?_
  refine SX.callV1 dL_law_937 lkv_L_119 (rcv_12 (o_253 W1)) (by decide) (by decide) (Nat.le_of_ble_eq_true rfl) rfl rfl (K_perform W1 C1 M1 hG (hG.per.mono (Nat.le_succ N)) hN (fun I2 R2 L2 W2 C2 M2 => ?_))
  refine SX.icmp_eq (t := 1581) dL_law_940 (by decide) (fun _ => ?_) (fun z => absurd rfl z)
  exact h R2 I2 L2 _ W2 C2 M2 (hG.per.mono (Nat.le_succ N))
set_option maxRecDepth 20000 in
set_option maxHeartbeats 1000000 in
theorem L_light {q0 : Nat × (Nat → Int32)} {G : Gt} {l : Launch} {bc bs i : Nat} {Z : Zt} {R : Rt} {I : It} {L : Lt} {post : Pt'} {V : Vt} {N : Nat} (hi : i + 6 ≤ q0.1) (hq : q0.1 ≤ 3072) (W : WF Z R) (C : CI V R I L) (M : MI V I L) (hG : GG N V) (hN : N < 2147483647) (h : ∀ R' I' L' V', WF Z R' → CI V' R' I' L' → MI V' I' L' → GG (N + 1) V' → SX q0 G l mL_law 60 bc bs 1581 (lvL i) [] Z R' I' L' post) : SX q0 G l mL_law 60 bc bs 945 (lvL i) [] Z R I L post := by
  refine SX.aload_n dL_law_945 rfl ?_
  refine SX.arg (k := 1) hi hq (by decide) rfl rfl dL_law_946 dL_law_947 dL_law_949 rfl dL_law_950 dL_law_951 ?_
  refine SX.callV1 dL_law_952 lkv_L_120 (rcv_11 (o_100 W)) (by decide) (by decide) (Nat.le_of_ble_eq_true rfl) rfl rfl (D_light W C M hG hN (fun I1 R1 L1 W1 C1 M1 => ?_))
  refine SX.aload_n dL_law_955 rfl ?_
  refine SX.arg (k := 1) hi hq (by decide) rfl rfl dL_law_956 dL_law_957 dL_law_959 rfl dL_law_960 dL_law_961 ?_
  refine SX.callV1 dL_law_962 lkv_L_123 (rcv_12 (o_253 W1)) (by decide) (by decide) (Nat.le_of_ble_eq_true rfl) rfl rfl (K_light W1 C1 M1 hG (hG.mono (Nat.le_succ N)) hN (fun I2 R2 L2 W2 C2 M2 => ?_))
  refine SX.icmp_eq (t := 1581) dL_law_965 (by decide) (fun _ => ?_) (fun z => absurd rfl z)
  exact h R2 I2 L2 _ W2 C2 M2 (hG.mono (Nat.le_succ N))
set_option maxRecDepth 20000 in
set_option maxHeartbeats 1000000 in
theorem L_coming {q0 : Nat × (Nat → Int32)} {G : Gt} {l : Launch} {bc bs i : Nat} {Z : Zt} {R : Rt} {I : It} {L : Lt} {post : Pt'} {V : Vt} {N : Nat} (hi : i + 6 ≤ q0.1) (hq : q0.1 ≤ 3072) (W : WF Z R) (C : CI V R I L) (M : MI V I L) (hG : GG N V) (hN : N < 2147483647) (h : ∀ R' I' L' V', WF Z R' → CI V' R' I' L' → MI V' I' L' → GG (N + 1) V' → SX q0 G l mL_law 60 bc bs 1581 (lvL i) [] Z R' I' L' post) : SX q0 G l mL_law 60 bc bs 970 (lvL i) [] Z R I L post := by
  refine SX.aload_n dL_law_970 rfl ?_
  refine SX.arg (k := 1) hi hq (by decide) rfl rfl dL_law_971 dL_law_972 dL_law_974 rfl dL_law_975 dL_law_976 ?_
  refine SX.callV1 dL_law_977 lkv_L_124 (rcv_11 (o_100 W)) (by decide) (by decide) (Nat.le_of_ble_eq_true rfl) rfl rfl (D_coming W C M hG hN (fun I1 R1 L1 W1 C1 M1 => ?_))
  refine SX.aload_n dL_law_980 rfl ?_
  refine SX.arg (k := 1) hi hq (by decide) rfl rfl dL_law_981 dL_law_982 dL_law_984 rfl dL_law_985 dL_law_986 ?_
  refine SX.callV1 dL_law_987 lkv_L_127 (rcv_12 (o_253 W1)) (by decide) (by decide) (Nat.le_of_ble_eq_true rfl) rfl rfl (K_coming W1 C1 M1 hG (hG.mono (Nat.le_succ N)) hN (fun I2 R2 L2 W2 C2 M2 => ?_))
  refine SX.icmp_eq (t := 1581) dL_law_990 (by decide) (fun _ => ?_) (fun z => absurd rfl z)
  exact h R2 I2 L2 _ W2 C2 M2 (hG.mono (Nat.le_succ N))
set_option maxRecDepth 20000 in
set_option maxHeartbeats 1000000 in
theorem L_may {q0 : Nat × (Nat → Int32)} {G : Gt} {l : Launch} {bc bs i : Nat} {Z : Zt} {R : Rt} {I : It} {L : Lt} {post : Pt'} {V : Vt} {N : Nat} (hi : i + 6 ≤ q0.1) (hq : q0.1 ≤ 3072) (W : WF Z R) (C : CI V R I L) (M : MI V I L) (hG : GG N V) (hN : N < 2147483647) (h : ∀ R' I' L' V', WF Z R' → CI V' R' I' L' → MI V' I' L' → GG (N + 1) V' → SX q0 G l mL_law 60 bc bs 1581 (lvL i) [] Z R' I' L' post) : SX q0 G l mL_law 60 bc bs 995 (lvL i) [] Z R I L post := by
  refine SX.aload_n dL_law_995 rfl ?_
  refine SX.arg (k := 1) hi hq (by decide) rfl rfl dL_law_996 dL_law_997 dL_law_999 rfl dL_law_1000 dL_law_1001 ?_
  refine SX.callV1 dL_law_1002 lkv_L_128 (rcv_11 (o_100 W)) (by decide) (by decide) (Nat.le_of_ble_eq_true rfl) rfl rfl (D_may W C M hG hN (fun I1 R1 L1 W1 C1 M1 => ?_))
  refine SX.aload_n dL_law_1005 rfl ?_
  refine SX.arg (k := 1) hi hq (by decide) rfl rfl dL_law_1006 dL_law_1007 dL_law_1009 rfl dL_law_1010 dL_law_1011 ?_
  refine SX.callV1 dL_law_1012 lkv_L_131 (rcv_12 (o_253 W1)) (by decide) (by decide) (Nat.le_of_ble_eq_true rfl) rfl rfl (K_may W1 C1 M1 hG (hG.mono (Nat.le_succ N)) hN (fun I2 R2 L2 W2 C2 M2 => ?_))
  refine SX.icmp_eq (t := 1581) dL_law_1015 (by decide) (fun _ => ?_) (fun z => absurd rfl z)
  exact h R2 I2 L2 _ W2 C2 M2 (hG.mono (Nat.le_succ N))
set_option maxRecDepth 20000 in
set_option maxHeartbeats 1000000 in
theorem L_governs {q0 : Nat × (Nat → Int32)} {G : Gt} {l : Launch} {bc bs i : Nat} {Z : Zt} {R : Rt} {I : It} {L : Lt} {post : Pt'} {V : Vt} {N : Nat} (hi : i + 6 ≤ q0.1) (hq : q0.1 ≤ 3072) (W : WF Z R) (C : CI V R I L) (M : MI V I L) (hG : GG N V) (hN : N < 2147483647) (h : ∀ R' I' L' V', WF Z R' → CI V' R' I' L' → MI V' I' L' → GG (N + 1) V' → SX q0 G l mL_law 60 bc bs 1581 (lvL i) [] Z R' I' L' post) : SX q0 G l mL_law 60 bc bs 1020 (lvL i) [] Z R I L post := by
  refine SX.aload_n dL_law_1020 rfl ?_
  refine SX.arg (k := 1) hi hq (by decide) rfl rfl dL_law_1021 dL_law_1022 dL_law_1024 rfl dL_law_1025 dL_law_1026 ?_
  refine SX.callV1 dL_law_1027 lkv_L_132 (rcv_11 (o_100 W)) (by decide) (by decide) (Nat.le_of_ble_eq_true rfl) rfl rfl (D_governs W C M hG hN (fun I1 R1 L1 W1 C1 M1 => ?_))
  refine SX.aload_n dL_law_1030 rfl ?_
  refine SX.arg (k := 1) hi hq (by decide) rfl rfl dL_law_1031 dL_law_1032 dL_law_1034 rfl dL_law_1035 dL_law_1036 ?_
  refine SX.callV1 dL_law_1037 lkv_L_135 (rcv_12 (o_253 W1)) (by decide) (by decide) (Nat.le_of_ble_eq_true rfl) rfl rfl (K_governs W1 C1 M1 hG (hG.mono (Nat.le_succ N)) hN (fun I2 R2 L2 W2 C2 M2 => ?_))
  refine SX.icmp_eq (t := 1581) dL_law_1040 (by decide) (fun _ => ?_) (fun z => absurd rfl z)
  exact h R2 I2 L2 _ W2 C2 M2 (hG.mono (Nat.le_succ N))
set_option maxRecDepth 20000 in
set_option maxHeartbeats 1000000 in
theorem L_round {q0 : Nat × (Nat → Int32)} {G : Gt} {l : Launch} {bc bs i : Nat} {Z : Zt} {R : Rt} {I : It} {L : Lt} {post : Pt'} {V : Vt} {N : Nat} (hi : i + 6 ≤ q0.1) (hq : q0.1 ≤ 3072) (W : WF Z R) (C : CI V R I L) (M : MI V I L) (hG : GG N V) (hN : N < 2147483647) (h : ∀ R' I' L' V', WF Z R' → CI V' R' I' L' → MI V' I' L' → GG (N + 1) V' → SX q0 G l mL_law 60 bc bs 1581 (lvL i) [] Z R' I' L' post) : SX q0 G l mL_law 60 bc bs 1045 (lvL i) [] Z R I L post := by
  refine SX.aload_n dL_law_1045 rfl ?_
  refine SX.arg (k := 1) hi hq (by decide) rfl rfl dL_law_1046 dL_law_1047 dL_law_1049 rfl dL_law_1050 dL_law_1051 ?_
  refine SX.callV1 dL_law_1052 lkv_L_136 (rcv_11 (o_100 W)) (by decide) (by decide) (Nat.le_of_ble_eq_true rfl) rfl rfl (D_round W C M hG hN (fun I1 R1 L1 W1 C1 M1 => ?_))
  refine SX.aload_n dL_law_1055 rfl ?_
  refine SX.arg (k := 1) hi hq (by decide) rfl rfl dL_law_1056 dL_law_1057 dL_law_1059 rfl dL_law_1060 dL_law_1061 ?_
  refine SX.callV1 dL_law_1062 lkv_L_139 (rcv_12 (o_253 W1)) (by decide) (by decide) (Nat.le_of_ble_eq_true rfl) rfl rfl (K_round W1 C1 M1 hG (hG.mono (Nat.le_succ N)) hN (fun I2 R2 L2 W2 C2 M2 => ?_))
  refine SX.icmp_eq (t := 1581) dL_law_1065 (by decide) (fun _ => ?_) (fun z => absurd rfl z)
  exact h R2 I2 L2 _ W2 C2 M2 (hG.mono (Nat.le_succ N))
set_option maxRecDepth 20000 in
set_option maxHeartbeats 1000000 in
theorem L_swings {q0 : Nat × (Nat → Int32)} {G : Gt} {l : Launch} {bc bs i : Nat} {Z : Zt} {R : Rt} {I : It} {L : Lt} {post : Pt'} {V : Vt} {N : Nat} (hi : i + 6 ≤ q0.1) (hq : q0.1 ≤ 3072) (W : WF Z R) (C : CI V R I L) (M : MI V I L) (hG : GG N V) (hN : N < 2147483647) (h : ∀ R' I' L' V', WF Z R' → CI V' R' I' L' → MI V' I' L' → GG (N + 1) V' → SX q0 G l mL_law 60 bc bs 1581 (lvL i) [] Z R' I' L' post) : SX q0 G l mL_law 60 bc bs 1070 (lvL i) [] Z R I L post := by
  refine SX.aload_n dL_law_1070 rfl ?_
  refine SX.arg (k := 1) hi hq (by decide) rfl rfl dL_law_1071 dL_law_1072 dL_law_1074 rfl dL_law_1075 dL_law_1076 ?_
  refine SX.callV1 dL_law_1077 lkv_L_140 (rcv_11 (o_100 W)) (by decide) (by decide) (Nat.le_of_ble_eq_true rfl) rfl rfl (D_swings W C M hG hN (fun I1 R1 L1 W1 C1 M1 => ?_))
  refine SX.aload_n dL_law_1080 rfl ?_
  refine SX.arg (k := 1) hi hq (by decide) rfl rfl dL_law_1081 dL_law_1082 dL_law_1084 rfl dL_law_1085 dL_law_1086 ?_
  refine SX.callV1 dL_law_1087 lkv_L_143 (rcv_12 (o_253 W1)) (by decide) (by decide) (Nat.le_of_ble_eq_true rfl) rfl rfl (K_swings W1 C1 M1 hG (hG.mono (Nat.le_succ N)) hN (fun I2 R2 L2 W2 C2 M2 => ?_))
  refine SX.icmp_eq (t := 1581) dL_law_1090 (by decide) (fun _ => ?_) (fun z => absurd rfl z)
  exact h R2 I2 L2 _ W2 C2 M2 (hG.mono (Nat.le_succ N))
set_option maxRecDepth 20000 in
set_option maxHeartbeats 1000000 in
theorem L_bedding {q0 : Nat × (Nat → Int32)} {G : Gt} {l : Launch} {bc bs i : Nat} {Z : Zt} {R : Rt} {I : It} {L : Lt} {post : Pt'} {V : Vt} {N : Nat} (hi : i + 6 ≤ q0.1) (hq : q0.1 ≤ 3072) (W : WF Z R) (C : CI V R I L) (M : MI V I L) (hG : GG N V) (hN : N < 2147483647) (h : ∀ R' I' L' V', WF Z R' → CI V' R' I' L' → MI V' I' L' → GG (N + 1) V' → SX q0 G l mL_law 60 bc bs 1581 (lvL i) [] Z R' I' L' post) : SX q0 G l mL_law 60 bc bs 1095 (lvL i) [] Z R I L post := by
  refine SX.aload_n dL_law_1095 rfl ?_
  refine SX.arg (k := 1) hi hq (by decide) rfl rfl dL_law_1096 dL_law_1097 dL_law_1099 rfl dL_law_1100 dL_law_1101 ?_
  refine SX.callV1 dL_law_1102 lkv_L_144 (rcv_11 (o_100 W)) (by decide) (by decide) (Nat.le_of_ble_eq_true rfl) rfl rfl (D_bedding W C M hG hN (fun I1 R1 L1 W1 C1 M1 => ?_))
  refine SX.aload_n dL_law_1105 rfl ?_
  refine SX.arg (k := 1) hi hq (by decide) rfl rfl dL_law_1106 dL_law_1107 dL_law_1109 rfl dL_law_1110 dL_law_1111 ?_
  refine SX.callV1 dL_law_1112 lkv_L_147 (rcv_12 (o_253 W1)) (by decide) (by decide) (Nat.le_of_ble_eq_true rfl) rfl rfl (K_bedding W1 C1 M1 hG (hG.mono (Nat.le_succ N)) hN (fun I2 R2 L2 W2 C2 M2 => ?_))
  refine SX.icmp_eq (t := 1581) dL_law_1115 (by decide) (fun _ => ?_) (fun z => absurd rfl z)
  exact h R2 I2 L2 _ W2 C2 M2 (hG.mono (Nat.le_succ N))
set_option maxRecDepth 20000 in
set_option maxHeartbeats 1000000 in
theorem L_coins {q0 : Nat × (Nat → Int32)} {G : Gt} {l : Launch} {bc bs i : Nat} {Z : Zt} {R : Rt} {I : It} {L : Lt} {post : Pt'} {V : Vt} {N : Nat} (hi : i + 6 ≤ q0.1) (hq : q0.1 ≤ 3072) (W : WF Z R) (C : CI V R I L) (M : MI V I L) (hG : GG N V) (hN : N < 2147483647) (h : ∀ R' I' L' V', WF Z R' → CI V' R' I' L' → MI V' I' L' → GG (N + 1) V' → SX q0 G l mL_law 60 bc bs 1581 (lvL i) [] Z R' I' L' post) : SX q0 G l mL_law 60 bc bs 1120 (lvL i) [] Z R I L post := by
  refine SX.aload_n dL_law_1120 rfl ?_
  refine SX.arg (k := 1) hi hq (by decide) rfl rfl dL_law_1121 dL_law_1122 dL_law_1124 rfl dL_law_1125 dL_law_1126 ?_
  refine SX.callV1 dL_law_1127 lkv_L_148 (rcv_11 (o_100 W)) (by decide) (by decide) (Nat.le_of_ble_eq_true rfl) rfl rfl (D_coins W C M hG hN (fun I1 R1 L1 W1 C1 M1 => ?_))
  refine SX.aload_n dL_law_1130 rfl ?_
  refine SX.arg (k := 1) hi hq (by decide) rfl rfl dL_law_1131 dL_law_1132 dL_law_1134 rfl dL_law_1135 dL_law_1136 ?_
  refine SX.callV1 dL_law_1137 lkv_L_151 (rcv_12 (o_253 W1)) (by decide) (by decide) (Nat.le_of_ble_eq_true rfl) rfl rfl (K_coins W1 C1 M1 hG (hG.mono (Nat.le_succ N)) hN (fun I2 R2 L2 W2 C2 M2 => ?_))
  refine SX.icmp_eq (t := 1581) dL_law_1140 (by decide) (fun _ => ?_) (fun z => absurd rfl z)
  exact h R2 I2 L2 _ W2 C2 M2 (hG.mono (Nat.le_succ N))
set_option maxRecDepth 20000 in
set_option maxHeartbeats 1000000 in
theorem L_seen {q0 : Nat × (Nat → Int32)} {G : Gt} {l : Launch} {bc bs i : Nat} {Z : Zt} {R : Rt} {I : It} {L : Lt} {post : Pt'} {V : Vt} {N : Nat} (hi : i + 6 ≤ q0.1) (hq : q0.1 ≤ 3072) (W : WF Z R) (C : CI V R I L) (M : MI V I L) (hG : GG N V) (hN : N < 2147483647) (h : ∀ R' I' L' V', WF Z R' → CI V' R' I' L' → MI V' I' L' → GG (N + 1) V' → SX q0 G l mL_law 60 bc bs 1581 (lvL i) [] Z R' I' L' post) : SX q0 G l mL_law 60 bc bs 1145 (lvL i) [] Z R I L post := by
  by_cases cb : ¬ q0.2 (i + 3) = 0
  · refine SX.aload_n dL_law_1145 rfl ?_
    refine SX.arg (k := 1) hi hq (by decide) rfl rfl dL_law_1146 dL_law_1147 dL_law_1149 rfl dL_law_1150 dL_law_1151 ?_
    refine SX.arg (k := 2) hi hq (by decide) rfl rfl dL_law_1152 dL_law_1153 dL_law_1155 rfl dL_law_1156 dL_law_1157 ?_
    refine SX.arg (k := 3) hi hq (by decide) rfl rfl dL_law_1158 dL_law_1159 dL_law_1161 rfl dL_law_1162 dL_law_1163 ?_
    refine SX.if_eq (t := 1171) dL_law_1164 (by decide) (fun z => absurd z cb) (fun _ => ?_)
    refine SX.iconst (v := nI 1) dL_law_1167 (by decide) ?_
    refine SX.top (show nI 1 = b2i true from rfl) ?_
    refine SX.goto (t := 1172) dL_law_1168 (by decide) ?_
    refine SX.callV3 dL_law_1172 lkv_L_152 (rcv_11 (o_100 W)) (by decide) (by decide) (Nat.le_of_ble_eq_true rfl) rfl rfl (D_seen W C M hG hN (fun I1 R1 L1 W1 C1 M1 => ?_))
    refine SX.aload_n dL_law_1175 rfl ?_
    refine SX.arg (k := 1) hi hq (by decide) rfl rfl dL_law_1176 dL_law_1177 dL_law_1179 rfl dL_law_1180 dL_law_1181 ?_
    refine SX.arg (k := 2) hi hq (by decide) rfl rfl dL_law_1182 dL_law_1183 dL_law_1185 rfl dL_law_1186 dL_law_1187 ?_
    refine SX.arg (k := 3) hi hq (by decide) rfl rfl dL_law_1188 dL_law_1189 dL_law_1191 rfl dL_law_1192 dL_law_1193 ?_
    refine SX.if_eq (t := 1201) dL_law_1194 (by decide) (fun z => absurd z cb) (fun _ => ?_)
    refine SX.iconst (v := nI 1) dL_law_1197 (by decide) ?_
    refine SX.top (show nI 1 = b2i true from rfl) ?_
    refine SX.goto (t := 1202) dL_law_1198 (by decide) ?_
    refine SX.callV3 dL_law_1202 lkv_L_156 (rcv_12 (o_253 W1)) (by decide) (by decide) (Nat.le_of_ble_eq_true rfl) rfl rfl (K_seen W1 C1 M1 hG ((gg_seenV hG).mono (Nat.le_succ N)) hN (fun I2 R2 L2 W2 C2 M2 => ?_))
    refine SX.icmp_eq (t := 1581) dL_law_1205 (by decide) (fun _ => ?_) (fun z => absurd rfl z)
    exact h R2 I2 L2 _ W2 C2 M2 ((gg_seenV hG).mono (Nat.le_succ N))
  · refine SX.aload_n dL_law_1145 rfl ?_
    refine SX.arg (k := 1) hi hq (by decide) rfl rfl dL_law_1146 dL_law_1147 dL_law_1149 rfl dL_law_1150 dL_law_1151 ?_
    refine SX.arg (k := 2) hi hq (by decide) rfl rfl dL_law_1152 dL_law_1153 dL_law_1155 rfl dL_law_1156 dL_law_1157 ?_
    refine SX.arg (k := 3) hi hq (by decide) rfl rfl dL_law_1158 dL_law_1159 dL_law_1161 rfl dL_law_1162 dL_law_1163 ?_
    refine SX.if_eq (t := 1171) dL_law_1164 (by decide) (fun _ => ?_) (fun z => absurd z cb)
    refine SX.iconst (v := nI 0) dL_law_1171 (by decide) ?_
    refine SX.top (show nI 0 = b2i false from rfl) ?_
    refine SX.callV3 dL_law_1172 lkv_L_152 (rcv_11 (o_100 W)) (by decide) (by decide) (Nat.le_of_ble_eq_true rfl) rfl rfl (D_seen W C M hG hN (fun I1 R1 L1 W1 C1 M1 => ?_))
    refine SX.aload_n dL_law_1175 rfl ?_
    refine SX.arg (k := 1) hi hq (by decide) rfl rfl dL_law_1176 dL_law_1177 dL_law_1179 rfl dL_law_1180 dL_law_1181 ?_
    refine SX.arg (k := 2) hi hq (by decide) rfl rfl dL_law_1182 dL_law_1183 dL_law_1185 rfl dL_law_1186 dL_law_1187 ?_
    refine SX.arg (k := 3) hi hq (by decide) rfl rfl dL_law_1188 dL_law_1189 dL_law_1191 rfl dL_law_1192 dL_law_1193 ?_
    refine SX.if_eq (t := 1201) dL_law_1194 (by decide) (fun _ => ?_) (fun z => absurd z cb)
    refine SX.iconst (v := nI 0) dL_law_1201 (by decide) ?_
    refine SX.top (show nI 0 = b2i false from rfl) ?_
    refine SX.callV3 dL_law_1202 lkv_L_156 (rcv_12 (o_253 W1)) (by decide) (by decide) (Nat.le_of_ble_eq_true rfl) rfl rfl (K_seen W1 C1 M1 hG ((gg_seenV hG).mono (Nat.le_succ N)) hN (fun I2 R2 L2 W2 C2 M2 => ?_))
    refine SX.icmp_eq (t := 1581) dL_law_1205 (by decide) (fun _ => ?_) (fun z => absurd rfl z)
    exact h R2 I2 L2 _ W2 C2 M2 ((gg_seenV hG).mono (Nat.le_succ N))
set_option maxRecDepth 20000 in
set_option maxHeartbeats 1000000 in
theorem L_habits {q0 : Nat × (Nat → Int32)} {G : Gt} {l : Launch} {bc bs i : Nat} {Z : Zt} {R : Rt} {I : It} {L : Lt} {post : Pt'} {V : Vt} {N : Nat} (hi : i + 6 ≤ q0.1) (hq : q0.1 ≤ 3072) (W : WF Z R) (C : CI V R I L) (M : MI V I L) (hG : GG N V) (hN : N < 2147483647) (h : ∀ R' I' L' V', WF Z R' → CI V' R' I' L' → MI V' I' L' → GG (N + 1) V' → SX q0 G l mL_law 60 bc bs 1581 (lvL i) [] Z R' I' L' post) : SX q0 G l mL_law 60 bc bs 1210 (lvL i) [] Z R I L post := by
  refine SX.aload_n dL_law_1210 rfl ?_
  refine SX.arg (k := 1) hi hq (by decide) rfl rfl dL_law_1211 dL_law_1212 dL_law_1214 rfl dL_law_1215 dL_law_1216 ?_
  refine SX.arg (k := 2) hi hq (by decide) rfl rfl dL_law_1217 dL_law_1218 dL_law_1220 rfl dL_law_1221 dL_law_1222 ?_
  refine SX.callV2 dL_law_1223 lkv_L_157 (rcv_11 (o_100 W)) (by decide) (by decide) (Nat.le_of_ble_eq_true rfl) rfl rfl (D_habits W C M hG hN (fun I1 R1 L1 W1 C1 M1 => ?_))
  refine SX.aload_n dL_law_1226 rfl ?_
  refine SX.arg (k := 1) hi hq (by decide) rfl rfl dL_law_1227 dL_law_1228 dL_law_1230 rfl dL_law_1231 dL_law_1232 ?_
  refine SX.arg (k := 2) hi hq (by decide) rfl rfl dL_law_1233 dL_law_1234 dL_law_1236 rfl dL_law_1237 dL_law_1238 ?_
  refine SX.callV2 dL_law_1239 lkv_L_160 (rcv_12 (o_253 W1)) (by decide) (by decide) (Nat.le_of_ble_eq_true rfl) rfl rfl (K_habits W1 C1 M1 hG (hG.mono (Nat.le_succ N)) hN (fun I2 R2 L2 W2 C2 M2 => ?_))
  refine SX.icmp_eq (t := 1581) dL_law_1242 (by decide) (fun _ => ?_) (fun z => absurd rfl z)
  exact h R2 I2 L2 _ W2 C2 M2 (hG.mono (Nat.le_succ N))
set_option maxRecDepth 20000 in
set_option maxHeartbeats 1000000 in
theorem L_ask {q0 : Nat × (Nat → Int32)} {G : Gt} {l : Launch} {bc bs i : Nat} {Z : Zt} {R : Rt} {I : It} {L : Lt} {post : Pt'} {V : Vt} {N : Nat} (hi : i + 6 ≤ q0.1) (hq : q0.1 ≤ 3072) (W : WF Z R) (C : CI V R I L) (M : MI V I L) (hG : GG N V) (hN : N < 2147483647) (h : ∀ R' I' L' V', WF Z R' → CI V' R' I' L' → MI V' I' L' → GG (N + 1) V' → SX q0 G l mL_law 60 bc bs 1581 (lvL i) [] Z R' I' L' post) : SX q0 G l mL_law 60 bc bs 1247 (lvL i) [] Z R I L post := by
  refine SX.aload_n dL_law_1247 rfl ?_
  refine SX.arg (k := 1) hi hq (by decide) rfl rfl dL_law_1248 dL_law_1249 dL_law_1251 rfl dL_law_1252 dL_law_1253 ?_
  refine SX.callV1 dL_law_1254 lkv_L_161 (rcv_11 (o_100 W)) (by decide) (by decide) (Nat.le_of_ble_eq_true rfl) rfl rfl (D_ask W C M hG hN (fun I1 R1 L1 W1 C1 M1 => ?_))
  refine SX.aload_n dL_law_1257 rfl ?_
  refine SX.arg (k := 1) hi hq (by decide) rfl rfl dL_law_1258 dL_law_1259 dL_law_1261 rfl dL_law_1262 dL_law_1263 ?_
  refine SX.callV1 dL_law_1264 lkv_L_164 (rcv_12 (o_253 W1)) (by decide) (by decide) (Nat.le_of_ble_eq_true rfl) rfl rfl (K_ask W1 C1 M1 hG (hG.mono (Nat.le_succ N)) hN (fun I2 R2 L2 W2 C2 M2 => ?_))
  refine SX.icmp_eq (t := 1581) dL_law_1267 (by decide) (fun _ => ?_) (fun z => absurd rfl z)
  exact h R2 I2 L2 _ W2 C2 M2 (hG.mono (Nat.le_succ N))
set_option maxRecDepth 20000 in
set_option maxHeartbeats 1000000 in
theorem L_game {q0 : Nat × (Nat → Int32)} {G : Gt} {l : Launch} {bc bs i : Nat} {Z : Zt} {R : Rt} {I : It} {L : Lt} {post : Pt'} {V : Vt} {N : Nat} (hi : i + 6 ≤ q0.1) (hq : q0.1 ≤ 3072) (W : WF Z R) (C : CI V R I L) (M : MI V I L) (hG : GG N V) (hN : N < 2147483647) (h : ∀ R' I' L' V', WF Z R' → CI V' R' I' L' → MI V' I' L' → GG (N + 1) V' → SX q0 G l mL_law 60 bc bs 1581 (lvL i) [] Z R' I' L' post) : SX q0 G l mL_law 60 bc bs 1272 (lvL i) [] Z R I L post := by
  refine SX.aload_n dL_law_1272 rfl ?_
  refine SX.arg (k := 1) hi hq (by decide) rfl rfl dL_law_1273 dL_law_1274 dL_law_1276 rfl dL_law_1277 dL_law_1278 ?_
  refine SX.arg (k := 2) hi hq (by decide) rfl rfl dL_law_1279 dL_law_1280 dL_law_1282 rfl dL_law_1283 dL_law_1284 ?_
  refine SX.arg (k := 3) hi hq (by decide) rfl rfl dL_law_1285 dL_law_1286 dL_law_1288 rfl dL_law_1289 dL_law_1290 ?_
  refine SX.arg (k := 4) hi hq (by decide) rfl rfl dL_law_1291 dL_law_1292 dL_law_1294 rfl dL_law_1295 dL_law_1296 ?_
  refine SX.arg (k := 5) hi hq (by decide) rfl rfl dL_law_1297 dL_law_1298 dL_law_1300 rfl dL_law_1301 dL_law_1302 ?_
  refine SX.callV5 dL_law_1303 lkv_L_165 (rcv_11 (o_100 W)) (by decide) (by decide) (Nat.le_of_ble_eq_true rfl) rfl rfl (D_game W C M hG hN (fun I1 R1 L1 W1 C1 M1 => ?_))
  refine SX.aload_n dL_law_1306 rfl ?_
  refine SX.arg (k := 1) hi hq (by decide) rfl rfl dL_law_1307 dL_law_1308 dL_law_1310 rfl dL_law_1311 dL_law_1312 ?_
  refine SX.arg (k := 2) hi hq (by decide) rfl rfl dL_law_1313 dL_law_1314 dL_law_1316 rfl dL_law_1317 dL_law_1318 ?_
  refine SX.arg (k := 3) hi hq (by decide) rfl rfl dL_law_1319 dL_law_1320 dL_law_1322 rfl dL_law_1323 dL_law_1324 ?_
  refine SX.arg (k := 4) hi hq (by decide) rfl rfl dL_law_1325 dL_law_1326 dL_law_1328 rfl dL_law_1329 dL_law_1330 ?_
  refine SX.arg (k := 5) hi hq (by decide) rfl rfl dL_law_1331 dL_law_1332 dL_law_1334 rfl dL_law_1335 dL_law_1336 ?_
  refine SX.callV5 dL_law_1337 lkv_L_168 (rcv_12 (o_253 W1)) (by decide) (by decide) (Nat.le_of_ble_eq_true rfl) rfl rfl (K_game W1 C1 M1 hG (hG.mono (Nat.le_succ N)) hN (fun I2 R2 L2 W2 C2 M2 => ?_))
  refine SX.icmp_eq (t := 1581) dL_law_1340 (by decide) (fun _ => ?_) (fun z => absurd rfl z)
  exact h R2 I2 L2 _ W2 C2 M2 (hG.mono (Nat.le_succ N))
set_option maxRecDepth 20000 in
set_option maxHeartbeats 1000000 in
theorem L_rests {q0 : Nat × (Nat → Int32)} {G : Gt} {l : Launch} {bc bs i : Nat} {Z : Zt} {R : Rt} {I : It} {L : Lt} {post : Pt'} {V : Vt} {N : Nat} (hi : i + 6 ≤ q0.1) (hq : q0.1 ≤ 3072) (W : WF Z R) (C : CI V R I L) (M : MI V I L) (hG : GG N V) (hN : N < 2147483647) (h : ∀ R' I' L' V', WF Z R' → CI V' R' I' L' → MI V' I' L' → GG (N + 1) V' → SX q0 G l mL_law 60 bc bs 1581 (lvL i) [] Z R' I' L' post) : SX q0 G l mL_law 60 bc bs 1345 (lvL i) [] Z R I L post := by
  refine SX.aload_n dL_law_1345 rfl ?_
  refine SX.arg (k := 1) hi hq (by decide) rfl rfl dL_law_1346 dL_law_1347 dL_law_1349 rfl dL_law_1350 dL_law_1351 ?_
  refine SX.arg (k := 2) hi hq (by decide) rfl rfl dL_law_1352 dL_law_1353 dL_law_1355 rfl dL_law_1356 dL_law_1357 ?_
  refine SX.arg (k := 3) hi hq (by decide) rfl rfl dL_law_1358 dL_law_1359 dL_law_1361 rfl dL_law_1362 dL_law_1363 ?_
  refine SX.callV3 dL_law_1364 lkv_L_169 (rcv_11 (o_100 W)) (by decide) (by decide) (Nat.le_of_ble_eq_true rfl) rfl rfl (D_rests W C M hG hN (fun I1 R1 L1 W1 C1 M1 => ?_))
  refine SX.aload_n dL_law_1367 rfl ?_
  refine SX.arg (k := 1) hi hq (by decide) rfl rfl dL_law_1368 dL_law_1369 dL_law_1371 rfl dL_law_1372 dL_law_1373 ?_
  refine SX.arg (k := 2) hi hq (by decide) rfl rfl dL_law_1374 dL_law_1375 dL_law_1377 rfl dL_law_1378 dL_law_1379 ?_
  refine SX.arg (k := 3) hi hq (by decide) rfl rfl dL_law_1380 dL_law_1381 dL_law_1383 rfl dL_law_1384 dL_law_1385 ?_
  refine SX.callV3 dL_law_1386 lkv_L_172 (rcv_12 (o_253 W1)) (by decide) (by decide) (Nat.le_of_ble_eq_true rfl) rfl rfl (K_rests W1 C1 M1 hG (hG.mono (Nat.le_succ N)) hN (fun I2 R2 L2 W2 C2 M2 => ?_))
  refine SX.icmp_eq (t := 1581) dL_law_1389 (by decide) (fun _ => ?_) (fun z => absurd rfl z)
  exact h R2 I2 L2 _ W2 C2 M2 (hG.mono (Nat.le_succ N))
set_option maxRecDepth 20000 in
set_option maxHeartbeats 1000000 in
theorem L_odds {q0 : Nat × (Nat → Int32)} {G : Gt} {l : Launch} {bc bs i : Nat} {Z : Zt} {R : Rt} {I : It} {L : Lt} {post : Pt'} {V : Vt} {N : Nat} (hi : i + 6 ≤ q0.1) (hq : q0.1 ≤ 3072) (W : WF Z R) (C : CI V R I L) (M : MI V I L) (hG : GG N V) (hN : N < 2147483647) (h : ∀ R' I' L' V', WF Z R' → CI V' R' I' L' → MI V' I' L' → GG (N + 1) V' → SX q0 G l mL_law 60 bc bs 1581 (lvL i) [] Z R' I' L' post) : SX q0 G l mL_law 60 bc bs 1394 (lvL i) [] Z R I L post := by
  refine SX.aload_n dL_law_1394 rfl ?_
  refine SX.arg (k := 1) hi hq (by decide) rfl rfl dL_law_1395 dL_law_1396 dL_law_1398 rfl dL_law_1399 dL_law_1400 ?_
  refine SX.arg (k := 2) hi hq (by decide) rfl rfl dL_law_1401 dL_law_1402 dL_law_1404 rfl dL_law_1405 dL_law_1406 ?_
  refine SX.callV2 dL_law_1407 lkv_L_173 (rcv_11 (o_100 W)) (by decide) (by decide) (Nat.le_of_ble_eq_true rfl) rfl rfl (D_odds W C M hG hN (fun I1 R1 L1 W1 C1 M1 => ?_))
  refine SX.aload_n dL_law_1410 rfl ?_
  refine SX.arg (k := 1) hi hq (by decide) rfl rfl dL_law_1411 dL_law_1412 dL_law_1414 rfl dL_law_1415 dL_law_1416 ?_
  refine SX.arg (k := 2) hi hq (by decide) rfl rfl dL_law_1417 dL_law_1418 dL_law_1420 rfl dL_law_1421 dL_law_1422 ?_
  refine SX.callV2 dL_law_1423 lkv_L_176 (rcv_12 (o_253 W1)) (by decide) (by decide) (Nat.le_of_ble_eq_true rfl) rfl rfl (K_odds W1 C1 M1 hG (hG.mono (Nat.le_succ N)) hN (fun I2 R2 L2 W2 C2 M2 => ?_))
  refine SX.icmp_eq (t := 1581) dL_law_1426 (by decide) (fun _ => ?_) (fun z => absurd rfl z)
  exact h R2 I2 L2 _ W2 C2 M2 (hG.mono (Nat.le_succ N))
set_option maxRecDepth 20000 in
set_option maxHeartbeats 1000000 in
theorem L_shares {q0 : Nat × (Nat → Int32)} {G : Gt} {l : Launch} {bc bs i : Nat} {Z : Zt} {R : Rt} {I : It} {L : Lt} {post : Pt'} {V : Vt} {N : Nat} (hi : i + 6 ≤ q0.1) (hq : q0.1 ≤ 3072) (W : WF Z R) (C : CI V R I L) (M : MI V I L) (hG : GG N V) (hN : N < 2147483647) (h : ∀ R' I' L' V', WF Z R' → CI V' R' I' L' → MI V' I' L' → GG (N + 1) V' → SX q0 G l mL_law 60 bc bs 1581 (lvL i) [] Z R' I' L' post) : SX q0 G l mL_law 60 bc bs 1431 (lvL i) [] Z R I L post := by
  refine SX.aload_n dL_law_1431 rfl ?_
  refine SX.arg (k := 1) hi hq (by decide) rfl rfl dL_law_1432 dL_law_1433 dL_law_1435 rfl dL_law_1436 dL_law_1437 ?_
  refine SX.arg (k := 2) hi hq (by decide) rfl rfl dL_law_1438 dL_law_1439 dL_law_1441 rfl dL_law_1442 dL_law_1443 ?_
  refine SX.callV2 dL_law_1444 lkv_L_177 (rcv_11 (o_100 W)) (by decide) (by decide) (Nat.le_of_ble_eq_true rfl) rfl rfl (D_shares W C M hG hN (fun I1 R1 L1 W1 C1 M1 => ?_))
  refine SX.aload_n dL_law_1447 rfl ?_
  refine SX.arg (k := 1) hi hq (by decide) rfl rfl dL_law_1448 dL_law_1449 dL_law_1451 rfl dL_law_1452 dL_law_1453 ?_
  refine SX.arg (k := 2) hi hq (by decide) rfl rfl dL_law_1454 dL_law_1455 dL_law_1457 rfl dL_law_1458 dL_law_1459 ?_
  refine SX.callV2 dL_law_1460 lkv_L_180 (rcv_12 (o_253 W1)) (by decide) (by decide) (Nat.le_of_ble_eq_true rfl) rfl rfl (K_shares W1 C1 M1 hG (hG.mono (Nat.le_succ N)) hN (fun I2 R2 L2 W2 C2 M2 => ?_))
  refine SX.icmp_eq (t := 1581) dL_law_1463 (by decide) (fun _ => ?_) (fun z => absurd rfl z)
  exact h R2 I2 L2 _ W2 C2 M2 (hG.mono (Nat.le_succ N))
set_option maxRecDepth 20000 in
set_option maxHeartbeats 1000000 in
theorem L_did {q0 : Nat × (Nat → Int32)} {G : Gt} {l : Launch} {bc bs i : Nat} {Z : Zt} {R : Rt} {I : It} {L : Lt} {post : Pt'} {V : Vt} {N : Nat} (hi : i + 6 ≤ q0.1) (hq : q0.1 ≤ 3072) (W : WF Z R) (C : CI V R I L) (M : MI V I L) (hG : GG N V) (hN : N < 2147483647) (h : ∀ R' I' L' V', WF Z R' → CI V' R' I' L' → MI V' I' L' → GG (N + 1) V' → SX q0 G l mL_law 60 bc bs 1581 (lvL i) [] Z R' I' L' post) : SX q0 G l mL_law 60 bc bs 1468 (lvL i) [] Z R I L post := by
  refine SX.aload_n dL_law_1468 rfl ?_
  refine SX.arg (k := 1) hi hq (by decide) rfl rfl dL_law_1469 dL_law_1470 dL_law_1472 rfl dL_law_1473 dL_law_1474 ?_
  refine SX.arg (k := 2) hi hq (by decide) rfl rfl dL_law_1475 dL_law_1476 dL_law_1478 rfl dL_law_1479 dL_law_1480 ?_
  refine SX.callV2 dL_law_1481 lkv_L_181 (rcv_11 (o_100 W)) (by decide) (by decide) (Nat.le_of_ble_eq_true rfl) rfl rfl (D_did W C M hG hN (fun I1 R1 L1 W1 C1 M1 => ?_))
  refine SX.aload_n dL_law_1484 rfl ?_
  refine SX.arg (k := 1) hi hq (by decide) rfl rfl dL_law_1485 dL_law_1486 dL_law_1488 rfl dL_law_1489 dL_law_1490 ?_
  refine SX.arg (k := 2) hi hq (by decide) rfl rfl dL_law_1491 dL_law_1492 dL_law_1494 rfl dL_law_1495 dL_law_1496 ?_
  refine SX.callV2 dL_law_1497 lkv_L_184 (rcv_12 (o_253 W1)) (by decide) (by decide) (Nat.le_of_ble_eq_true rfl) rfl rfl (K_did W1 C1 M1 hG (hG.mono (Nat.le_succ N)) hN (fun I2 R2 L2 W2 C2 M2 => ?_))
  refine SX.icmp_eq (t := 1581) dL_law_1500 (by decide) (fun _ => ?_) (fun z => absurd rfl z)
  exact h R2 I2 L2 _ W2 C2 M2 (hG.mono (Nat.le_succ N))
set_option maxRecDepth 20000 in
set_option maxHeartbeats 1000000 in
theorem L_all {q0 : Nat × (Nat → Int32)} {G : Gt} {l : Launch} {bc bs i : Nat} {Z : Zt} {R : Rt} {I : It} {L : Lt} {post : Pt'} {V : Vt} {N : Nat} (hi : i + 6 ≤ q0.1) (hq : q0.1 ≤ 3072) (W : WF Z R) (C : CI V R I L) (M : MI V I L) (hG : GG N V) (hN : N < 2147483647) (h : ∀ R' I' L' V', WF Z R' → CI V' R' I' L' → MI V' I' L' → GG (N + 1) V' → SX q0 G l mL_law 60 bc bs 1581 (lvL i) [] Z R' I' L' post) : SX q0 G l mL_law 60 bc bs 1505 (lvL i) [] Z R I L post := by
  refine SX.aload_n dL_law_1505 rfl ?_
  refine SX.arg (k := 1) hi hq (by decide) rfl rfl dL_law_1506 dL_law_1507 dL_law_1509 rfl dL_law_1510 dL_law_1511 ?_
  refine SX.callV1 dL_law_1512 lkv_L_185 (rcv_11 (o_100 W)) (by decide) (by decide) (Nat.le_of_ble_eq_true rfl) rfl rfl (D_all W C M hG hN (fun I1 R1 L1 W1 C1 M1 => ?_))
  refine SX.aload_n dL_law_1515 rfl ?_
  refine SX.arg (k := 1) hi hq (by decide) rfl rfl dL_law_1516 dL_law_1517 dL_law_1519 rfl dL_law_1520 dL_law_1521 ?_
  refine SX.callV1 dL_law_1522 lkv_L_188 (rcv_12 (o_253 W1)) (by decide) (by decide) (Nat.le_of_ble_eq_true rfl) rfl rfl (K_all W1 C1 M1 hG (hG.mono (Nat.le_succ N)) hN (fun I2 R2 L2 W2 C2 M2 => ?_))
  refine SX.icmp_eq (t := 1581) dL_law_1525 (by decide) (fun _ => ?_) (fun z => absurd rfl z)
  exact h R2 I2 L2 _ W2 C2 M2 (hG.mono (Nat.le_succ N))
set_option maxRecDepth 20000 in
set_option maxHeartbeats 1000000 in
theorem L_image {q0 : Nat × (Nat → Int32)} {G : Gt} {l : Launch} {bc bs i : Nat} {Z : Zt} {R : Rt} {I : It} {L : Lt} {post : Pt'} {V : Vt} {N : Nat} (hi : i + 6 ≤ q0.1) (hq : q0.1 ≤ 3072) (W : WF Z R) (C : CI V R I L) (M : MI V I L) (hG : GG N V) (hN : N < 2147483647) (h : ∀ R' I' L' V', WF Z R' → CI V' R' I' L' → MI V' I' L' → GG (N + 1) V' → SX q0 G l mL_law 60 bc bs 1581 (lvL i) [] Z R' I' L' post) : SX q0 G l mL_law 60 bc bs 1530 (lvL i) [] Z R I L post := by
  refine SX.aload_n dL_law_1530 rfl ?_
  refine SX.callV0 dL_law_1531 lkv_L_189 (rcv_11 (o_100 W)) (by decide) (by decide) (Nat.le_of_ble_eq_true rfl) rfl rfl (D_image W C M hG hN (fun I1 R1 L1 W1 C1 M1 => ?_))
  refine SX.aload_n dL_law_1534 rfl ?_
  refine SX.callV0 dL_law_1535 lkv_L_192 (rcv_12 (o_253 W1)) (by decide) (by decide) (Nat.le_of_ble_eq_true rfl) rfl rfl (K_image W1 C1 M1 hG ((gg_imgV hG).mono (Nat.le_succ N)) hN (fun I2 R2 L2 W2 C2 M2 => ?_))
  refine SX.icmp_eq (t := 1581) dL_law_1538 (by decide) (fun _ => ?_) (fun z => absurd rfl z)
  exact h R2 I2 L2 _ W2 C2 M2 ((gg_imgV hG).mono (Nat.le_succ N))
set_option maxRecDepth 20000 in
set_option maxHeartbeats 1000000 in
theorem L_back {q0 : Nat × (Nat → Int32)} {G : Gt} {l : Launch} {bc bs i : Nat} {Z : Zt} {R : Rt} {I : It} {L : Lt} {post : Pt'} {V : Vt} {N : Nat} (hi : i + 6 ≤ q0.1) (hq : q0.1 ≤ 3072) (W : WF Z R) (C : CI V R I L) (M : MI V I L) (hG : GG N V) (hN : N < 2147483647) (h : ∀ R' I' L' V', WF Z R' → CI V' R' I' L' → MI V' I' L' → GG (N + 1) V' → SX q0 G l mL_law 60 bc bs 1581 (lvL i) [] Z R' I' L' post) : SX q0 G l mL_law 60 bc bs 1543 (lvL i) [] Z R I L post := by
  refine SX.aload_n dL_law_1543 rfl ?_
  refine SX.callV0 dL_law_1544 lkv_L_193 (rcv_11 (o_100 W)) (by decide) (by decide) (Nat.le_of_ble_eq_true rfl) rfl rfl (D_back W C M hG hN (fun I1 R1 L1 W1 C1 M1 => ?_))
  refine SX.aload_n dL_law_1547 rfl ?_
  refine SX.callV0 dL_law_1548 lkv_L_196 (rcv_12 (o_253 W1)) (by decide) (by decide) (Nat.le_of_ble_eq_true rfl) rfl rfl (K_back W1 C1 M1 hG ((gg_bacV hG).mono (Nat.le_succ N)) hN (fun I2 R2 L2 W2 C2 M2 => ?_))
  refine SX.icmp_eq (t := 1581) dL_law_1551 (by decide) (fun _ => ?_) (fun z => absurd rfl z)
  exact h R2 I2 L2 _ W2 C2 M2 ((gg_bacV hG).mono (Nat.le_succ N))
set_option maxRecDepth 20000 in
set_option maxHeartbeats 1000000 in
theorem L_count {q0 : Nat × (Nat → Int32)} {G : Gt} {l : Launch} {bc bs i : Nat} {Z : Zt} {R : Rt} {I : It} {L : Lt} {post : Pt'} {V : Vt} {N : Nat} (hi : i + 6 ≤ q0.1) (hq : q0.1 ≤ 3072) (W : WF Z R) (C : CI V R I L) (M : MI V I L) (hG : GG N V) (hN : N < 2147483647) (h : ∀ R' I' L' V', WF Z R' → CI V' R' I' L' → MI V' I' L' → GG (N + 1) V' → SX q0 G l mL_law 60 bc bs 1581 (lvL i) [] Z R' I' L' post) : SX q0 G l mL_law 60 bc bs 1556 (lvL i) [] Z R I L post := by
  refine SX.aload_n dL_law_1556 rfl ?_
  refine SX.arg (k := 1) hi hq (by decide) rfl rfl dL_law_1557 dL_law_1558 dL_law_1560 rfl dL_law_1561 dL_law_1562 ?_
  refine SX.callV1 dL_law_1563 lkv_L_197 (rcv_11 (o_100 W)) (by decide) (by decide) (Nat.le_of_ble_eq_true rfl) rfl rfl (D_count W C M hG hN (fun I1 R1 L1 W1 C1 M1 => ?_))
  refine SX.aload_n dL_law_1566 rfl ?_
  refine SX.arg (k := 1) hi hq (by decide) rfl rfl dL_law_1567 dL_law_1568 dL_law_1570 rfl dL_law_1571 dL_law_1572 ?_
  refine SX.callV1 dL_law_1573 lkv_L_200 (rcv_12 (o_253 W1)) (by decide) (by decide) (Nat.le_of_ble_eq_true rfl) rfl rfl (K_count W1 C1 M1 hG (hG.mono (Nat.le_succ N)) hN (fun I2 R2 L2 W2 C2 M2 => ?_))
  refine SX.icmp_eq (t := 1581) dL_law_1576 (by decide) (fun _ => ?_) (fun z => absurd rfl z)
  exact h R2 I2 L2 _ W2 C2 M2 (hG.mono (Nat.le_succ N))
