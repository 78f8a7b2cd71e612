set_option maxHeartbeats 400000 in
set_option maxRecDepth 100000 in
theorem law_feed {n : Nat} {xs : Nat → Int32} {kc ks j : Nat} {s : Sta} {I : Im} {G : Gm} (h : LI s I G) (hj : 7 * j + 7 ≤ n) (hn : n ≤ 3584) (k : ∀ s2 I2 G2, LI s2 I2 G2 → wpS (PL n xs) EL 60 kc ks YL_law 1665 (Lh j) [] (I2, G2) QL) : wpS (PL n xs) EL 60 (18 + kc) (539 + ks) YL_law 184 (Lh j) [] (I, G) QL := by
  refine T_more (kc := kc) (ks := ks) (by omega) (by omega) ?_
  show wpS _ _ _ _ _ _ _ [none, some (.ref 0), some (.ref 256), some (.ref 281), some (.int (nI (7 * j))), none, none] _ _ _
  refine T_aload_n (pc := 184) dL_law_184 rfl ?_
  refine T_scr (pc := 185) (a := 7 * j) (k := 1) hn dL_law_185 dL_law_186 dL_law_188 dL_law_189 dL_law_190 rfl rfl (by omega) ?_
  refine T_scr (pc := 191) (a := 7 * j) (k := 2) hn dL_law_191 dL_law_192 dL_law_194 dL_law_195 dL_law_196 rfl rfl (by omega) ?_
  refine T_scr (pc := 197) (a := 7 * j) (k := 3) hn dL_law_197 dL_law_198 dL_law_200 dL_law_201 dL_law_202 rfl rfl (by omega) ?_
  refine T_scr (pc := 203) (a := 7 * j) (k := 4) hn dL_law_203 dL_law_204 dL_law_206 dL_law_207 dL_law_208 rfl rfl (by omega) ?_
  refine T_scr (pc := 209) (a := 7 * j) (k := 5) hn dL_law_209 dL_law_210 dL_law_212 dL_law_213 dL_law_214 rfl rfl (by omega) ?_
  refine T_callV_X (pc := 215) (b := 0) (As := [.int (xs (7 * j + 1)), .int (xs (7 * j + 2)), .int (xs (7 * j + 3)), .int (xs (7 * j + 4)), .int (xs (7 * j + 5))]) 9 19 dL_law_215 lk_X9_feed (ml_RL_19 rfl) im_X9_feed se_X9_feed (by decide) (c9_o h.1.1.1) (Nat.le_of_ble_eq_true rfl) rfl (feed_c h.1) (fun v M hq => ?_)
  obtain ⟨I2, G2, rfl, rfl, h2⟩ := li_c h sn_feed hq
  refine T_aload_n (pc := 218) dL_law_218 rfl ?_
  refine T_scr (pc := 219) (a := 7 * j) (k := 1) hn dL_law_219 dL_law_220 dL_law_222 dL_law_223 dL_law_224 rfl rfl (by omega) ?_
  refine T_scr (pc := 225) (a := 7 * j) (k := 2) hn dL_law_225 dL_law_226 dL_law_228 dL_law_229 dL_law_230 rfl rfl (by omega) ?_
  refine T_scr (pc := 231) (a := 7 * j) (k := 3) hn dL_law_231 dL_law_232 dL_law_234 dL_law_235 dL_law_236 rfl rfl (by omega) ?_
  refine T_scr (pc := 237) (a := 7 * j) (k := 4) hn dL_law_237 dL_law_238 dL_law_240 dL_law_241 dL_law_242 rfl rfl (by omega) ?_
  refine T_scr (pc := 243) (a := 7 * j) (k := 5) hn dL_law_243 dL_law_244 dL_law_246 dL_law_247 dL_law_248 rfl rfl (by omega) ?_
  refine T_callV_M (pc := 249) (b := 256) (As := [.int (xs (7 * j + 1)), .int (xs (7 * j + 2)), .int (xs (7 * j + 3)), .int (xs (7 * j + 4)), .int (xs (7 * j + 5))]) 10 23 dL_law_249 lk_X10_feed (ml_RL_23 rfl) im_X10_feed se_X10_feed (by decide) (c10_o h2.2.2.1) (Nat.le_of_ble_eq_true rfl) rfl (feed_m h2.2.2.1 h2.2.1) (fun v I3 hq => ?_)
  obtain ⟨rfl, h3⟩ := li_m h2 hq
  exact T_icmp_eq (pc := 252) (tgt := 1665) dL_law_252 (by decide) (fun _ => k _ _ _ h3) (fun z => absurd rfl z)

set_option maxHeartbeats 400000 in
set_option maxRecDepth 100000 in
theorem law_end {n : Nat} {xs : Nat → Int32} {kc ks j : Nat} {s : Sta} {I : Im} {G : Gm} (h : LI s I G) (hj : 7 * j + 7 ≤ n) (hn : n ≤ 3584) (k : ∀ s2 I2 G2, LI s2 I2 G2 → wpS (PL n xs) EL 60 kc ks YL_law 1665 (Lh j) [] (I2, G2) QL) : wpS (PL n xs) EL 60 (18 + kc) (539 + ks) YL_law 257 (Lh j) [] (I, G) QL := by
  refine T_more (kc := kc) (ks := ks) (by omega) (by omega) ?_
  show wpS _ _ _ _ _ _ _ [none, some (.ref 0), some (.ref 256), some (.ref 281), some (.int (nI (7 * j))), none, none] _ _ _
  refine T_aload_n (pc := 257) dL_law_257 rfl ?_
  refine T_scr (pc := 258) (a := 7 * j) (k := 1) hn dL_law_258 dL_law_259 dL_law_261 dL_law_262 dL_law_263 rfl rfl (by omega) ?_
  refine T_callV_X (pc := 264) (b := 0) (As := [.int (xs (7 * j + 1))]) 9 24 dL_law_264 lk_X9_end (ml_RL_24 rfl) im_X9_end se_X9_end (by decide) (c9_o h.1.1.1) (Nat.le_of_ble_eq_true rfl) rfl (end_c h.1) (fun v M hq => ?_)
  obtain ⟨I2, G2, rfl, rfl, h2⟩ := li_c h sn_end hq
  refine T_aload_n (pc := 267) dL_law_267 rfl ?_
  refine T_scr (pc := 268) (a := 7 * j) (k := 1) hn dL_law_268 dL_law_269 dL_law_271 dL_law_272 dL_law_273 rfl rfl (by omega) ?_
  refine T_callV_M (pc := 274) (b := 256) (As := [.int (xs (7 * j + 1))]) 10 28 dL_law_274 lk_X10_end (ml_RL_28 rfl) im_X10_end se_X10_end (by decide) (c10_o h2.2.2.1) (Nat.le_of_ble_eq_true rfl) rfl (end_m h2.2.2.1 h2.2.1) (fun v I3 hq => ?_)
  obtain ⟨rfl, h3⟩ := li_m h2 hq
  exact T_icmp_eq (pc := 277) (tgt := 1665) dL_law_277 (by decide) (fun _ => k _ _ _ h3) (fun z => absurd rfl z)

set_option maxHeartbeats 400000 in
set_option maxRecDepth 100000 in
theorem law_fault {n : Nat} {xs : Nat → Int32} {kc ks j : Nat} {s : Sta} {I : Im} {G : Gm} (h : LI s I G) (hj : 7 * j + 7 ≤ n) (hn : n ≤ 3584) (k : ∀ s2 I2 G2, LI s2 I2 G2 → wpS (PL n xs) EL 60 kc ks YL_law 1665 (Lh j) [] (I2, G2) QL) : wpS (PL n xs) EL 60 (18 + kc) (539 + ks) YL_law 282 (Lh j) [] (I, G) QL := by
  refine T_more (kc := kc) (ks := ks) (by omega) (by omega) ?_
  show wpS _ _ _ _ _ _ _ [none, some (.ref 0), some (.ref 256), some (.ref 281), some (.int (nI (7 * j))), none, none] _ _ _
  refine T_aload_n (pc := 282) dL_law_282 rfl ?_
  refine T_callV_X (pc := 283) (b := 0) (As := []) 9 29 dL_law_283 lk_X9_fault (ml_RL_29 rfl) im_X9_fault se_X9_fault (by decide) (c9_o h.1.1.1) (Nat.le_of_ble_eq_true rfl) rfl (fault_c h.1) (fun v M hq => ?_)
  obtain ⟨I2, G2, rfl, rfl, h2⟩ := li_c h rfl hq
  refine T_aload_n (pc := 286) dL_law_286 rfl ?_
  refine T_callV_M (pc := 287) (b := 256) (As := []) 10 33 dL_law_287 lk_X10_fault (ml_RL_33 rfl) im_X10_fault se_X10_fault (by decide) (c10_o h2.2.2.1) (Nat.le_of_ble_eq_true rfl) rfl (fault_m h2.2.2.1 h2.2.1) (fun v I3 hq => ?_)
  obtain ⟨rfl, h3⟩ := li_m h2 hq
  exact T_icmp_eq (pc := 290) (tgt := 1665) dL_law_290 (by decide) (fun _ => k _ _ _ h3) (fun z => absurd rfl z)

set_option maxHeartbeats 400000 in
set_option maxRecDepth 100000 in
theorem law_trade {n : Nat} {xs : Nat → Int32} {kc ks j : Nat} {s : Sta} {I : Im} {G : Gm} (h : LI s I G) (hj : 7 * j + 7 ≤ n) (hn : n ≤ 3584) (k : ∀ s2 I2 G2, LI s2 I2 G2 → wpS (PL n xs) EL 60 kc ks YL_law 1665 (Lh j) [] (I2, G2) QL) : wpS (PL n xs) EL 60 (18 + kc) (539 + ks) YL_law 295 (Lh j) [] (I, G) QL := by
  show wpS _ _ _ _ _ _ _ [none, some (.ref 0), some (.ref 256), some (.ref 281), some (.int (nI (7 * j))), none, none] _ _ _
  refine T_aload_n (pc := 295) dL_law_295 rfl ?_
  refine T_callV (d := 59) (kc1 := 18) (ks1 := 539) (kc := kc) (ks := ks) (pc := 296) (b := 0) (st := []) (As := []) 9 34 dL_law_296 lk_X9_trade (ml_RL_34 rfl) im_X9_trade se_X9_trade (by decide) (c9_o h.1.1.1) (Nat.le_of_ble_eq_true rfl) rfl (trade_c (d := 52) h.1 h.2.2.2.1) (fun r M hq _ => ?_)
  obtain ⟨v, rfl, hq⟩ := hq
  obtain ⟨I2, G2, rfl, rfl, h2⟩ := li_t h hq
  show wpS _ _ _ _ _ _ _ _ [.int (fTrade s).1] _ _
  refine T_aload_n (pc := 299) dL_law_299 rfl ?_
  refine T_callV_M (pc := 300) (b := 256) (As := []) 10 37 dL_law_300 lk_X10_trade (ml_RL_37 rfl) im_X10_trade se_X10_trade (by decide) (c10_o h2.2.2.1) (Nat.le_of_ble_eq_true rfl) rfl (trade_m h2.2.2.1 h2.2.1) (fun v I3 hq => ?_)
  obtain ⟨rfl, h3⟩ := li_m h2 hq
  exact T_icmp_eq (pc := 303) (tgt := 1665) dL_law_303 (by decide) (fun _ => k _ _ _ h3) (fun z => absurd rfl z)

set_option maxHeartbeats 400000 in
set_option maxRecDepth 100000 in
theorem law_houses {n : Nat} {xs : Nat → Int32} {kc ks j : Nat} {s : Sta} {I : Im} {G : Gm} (h : LI s I G) (hj : 7 * j + 7 ≤ n) (hn : n ≤ 3584) (k : ∀ s2 I2 G2, LI s2 I2 G2 → wpS (PL n xs) EL 60 kc ks YL_law 1665 (Lh j) [] (I2, G2) QL) : wpS (PL n xs) EL 60 (18 + kc) (539 + ks) YL_law 388 (Lh j) [] (I, G) QL := by
  refine T_more (kc := kc) (ks := ks) (by omega) (by omega) ?_
  show wpS _ _ _ _ _ _ _ [none, some (.ref 0), some (.ref 256), some (.ref 281), some (.int (nI (7 * j))), none, none] _ _ _
  refine T_aload_n (pc := 388) dL_law_388 rfl ?_
  refine T_scr (pc := 389) (a := 7 * j) (k := 1) hn dL_law_389 dL_law_390 dL_law_392 dL_law_393 dL_law_394 rfl rfl (by omega) ?_
  refine T_callV_X (pc := 395) (b := 0) (As := [.int (xs (7 * j + 1))]) 9 47 dL_law_395 lk_X9_houses (ml_RL_47 rfl) im_X9_houses se_X9_houses (by decide) (c9_o h.1.1.1) (Nat.le_of_ble_eq_true rfl) rfl (houses_c h.1) (fun v M hq => ?_)
  obtain ⟨I2, G2, rfl, rfl, h2⟩ := li_c h rfl hq
  refine T_aload_n (pc := 398) dL_law_398 rfl ?_
  refine T_scr (pc := 399) (a := 7 * j) (k := 1) hn dL_law_399 dL_law_400 dL_law_402 dL_law_403 dL_law_404 rfl rfl (by omega) ?_
  refine T_callV_M (pc := 405) (b := 256) (As := [.int (xs (7 * j + 1))]) 10 51 dL_law_405 lk_X10_houses (ml_RL_51 rfl) im_X10_houses se_X10_houses (by decide) (c10_o h2.2.2.1) (Nat.le_of_ble_eq_true rfl) rfl (houses_m h2.2.2.1 h2.2.1) (fun v I3 hq => ?_)
  obtain ⟨rfl, h3⟩ := li_m h2 hq
  exact T_icmp_eq (pc := 408) (tgt := 1665) dL_law_408 (by decide) (fun _ => k _ _ _ h3) (fun z => absurd rfl z)

set_option maxHeartbeats 400000 in
set_option maxRecDepth 100000 in
theorem law_want {n : Nat} {xs : Nat → Int32} {kc ks j : Nat} {s : Sta} {I : Im} {G : Gm} (h : LI s I G) (hj : 7 * j + 7 ≤ n) (hn : n ≤ 3584) (k : ∀ s2 I2 G2, LI s2 I2 G2 → wpS (PL n xs) EL 60 kc ks YL_law 1665 (Lh j) [] (I2, G2) QL) : wpS (PL n xs) EL 60 (18 + kc) (539 + ks) YL_law 413 (Lh j) [] (I, G) QL := by
  refine T_more (kc := kc) (ks := ks) (by omega) (by omega) ?_
  show wpS _ _ _ _ _ _ _ [none, some (.ref 0), some (.ref 256), some (.ref 281), some (.int (nI (7 * j))), none, none] _ _ _
  refine T_aload_n (pc := 413) dL_law_413 rfl ?_
  refine T_scr (pc := 414) (a := 7 * j) (k := 1) hn dL_law_414 dL_law_415 dL_law_417 dL_law_418 dL_law_419 rfl rfl (by omega) ?_
  refine T_scr (pc := 420) (a := 7 * j) (k := 2) hn dL_law_420 dL_law_421 dL_law_423 dL_law_424 dL_law_425 rfl rfl (by omega) ?_
  refine T_scr (pc := 426) (a := 7 * j) (k := 3) hn dL_law_426 dL_law_427 dL_law_429 dL_law_430 dL_law_431 rfl rfl (by omega) ?_
  refine T_callV_X (pc := 432) (b := 0) (As := [.int (xs (7 * j + 1)), .int (xs (7 * j + 2)), .int (xs (7 * j + 3))]) 9 52 dL_law_432 lk_X9_want (ml_RL_52 rfl) im_X9_want se_X9_want (by decide) (c9_o h.1.1.1) (Nat.le_of_ble_eq_true rfl) rfl (want_c h.1) (fun v M hq => ?_)
  obtain ⟨I2, G2, rfl, rfl, h2⟩ := li_c h rfl hq
  refine T_aload_n (pc := 435) dL_law_435 rfl ?_
  refine T_scr (pc := 436) (a := 7 * j) (k := 1) hn dL_law_436 dL_law_437 dL_law_439 dL_law_440 dL_law_441 rfl rfl (by omega) ?_
  refine T_scr (pc := 442) (a := 7 * j) (k := 2) hn dL_law_442 dL_law_443 dL_law_445 dL_law_446 dL_law_447 rfl rfl (by omega) ?_
  refine T_scr (pc := 448) (a := 7 * j) (k := 3) hn dL_law_448 dL_law_449 dL_law_451 dL_law_452 dL_law_453 rfl rfl (by omega) ?_
  refine T_callV_M (pc := 454) (b := 256) (As := [.int (xs (7 * j + 1)), .int (xs (7 * j + 2)), .int (xs (7 * j + 3))]) 10 55 dL_law_454 lk_X10_want (ml_RL_55 rfl) im_X10_want se_X10_want (by decide) (c10_o h2.2.2.1) (Nat.le_of_ble_eq_true rfl) rfl (want_m h2.2.2.1 h2.2.1) (fun v I3 hq => ?_)
  obtain ⟨rfl, h3⟩ := li_m h2 hq
  exact T_icmp_eq (pc := 457) (tgt := 1665) dL_law_457 (by decide) (fun _ => k _ _ _ h3) (fun z => absurd rfl z)

set_option maxHeartbeats 400000 in
set_option maxRecDepth 100000 in
theorem law_join {n : Nat} {xs : Nat → Int32} {kc ks j : Nat} {s : Sta} {I : Im} {G : Gm} (h : LI s I G) (hj : 7 * j + 7 ≤ n) (hn : n ≤ 3584) (k : ∀ s2 I2 G2, LI s2 I2 G2 → wpS (PL n xs) EL 60 kc ks YL_law 1665 (Lh j) [] (I2, G2) QL) : wpS (PL n xs) EL 60 (18 + kc) (539 + ks) YL_law 462 (Lh j) [] (I, G) QL := by
  refine T_more (kc := kc) (ks := ks) (by omega) (by omega) ?_
  show wpS _ _ _ _ _ _ _ [none, some (.ref 0), some (.ref 256), some (.ref 281), some (.int (nI (7 * j))), none, none] _ _ _
  refine T_aload_n (pc := 462) dL_law_462 rfl ?_
  refine T_scr (pc := 463) (a := 7 * j) (k := 1) hn dL_law_463 dL_law_464 dL_law_466 dL_law_467 dL_law_468 rfl rfl (by omega) ?_
  refine T_scr (pc := 469) (a := 7 * j) (k := 2) hn dL_law_469 dL_law_470 dL_law_472 dL_law_473 dL_law_474 rfl rfl (by omega) ?_
  refine T_callV_X (pc := 475) (b := 0) (As := [.int (xs (7 * j + 1)), .int (xs (7 * j + 2))]) 9 56 dL_law_475 lk_X9_join (ml_RL_56 rfl) im_X9_join se_X9_join (by decide) (c9_o h.1.1.1) (Nat.le_of_ble_eq_true rfl) rfl (join_c h.1) (fun v M hq => ?_)
  obtain ⟨I2, G2, rfl, rfl, h2⟩ := li_c h sn_join hq
  refine T_aload_n (pc := 478) dL_law_478 rfl ?_
  refine T_scr (pc := 479) (a := 7 * j) (k := 1) hn dL_law_479 dL_law_480 dL_law_482 dL_law_483 dL_law_484 rfl rfl (by omega) ?_
  refine T_scr (pc := 485) (a := 7 * j) (k := 2) hn dL_law_485 dL_law_486 dL_law_488 dL_law_489 dL_law_490 rfl rfl (by omega) ?_
  refine T_callV_M (pc := 491) (b := 256) (As := [.int (xs (7 * j + 1)), .int (xs (7 * j + 2))]) 10 60 dL_law_491 lk_X10_join (ml_RL_60 rfl) im_X10_join se_X10_join (by decide) (c10_o h2.2.2.1) (Nat.le_of_ble_eq_true rfl) rfl (join_m h2.2.2.1 h2.2.1) (fun v I3 hq => ?_)
  obtain ⟨rfl, h3⟩ := li_m h2 hq
  exact T_icmp_eq (pc := 494) (tgt := 1665) dL_law_494 (by decide) (fun _ => k _ _ _ h3) (fun z => absurd rfl z)

set_option maxHeartbeats 400000 in
set_option maxRecDepth 100000 in
theorem law_law {n : Nat} {xs : Nat → Int32} {kc ks j : Nat} {s : Sta} {I : Im} {G : Gm} (h : LI s I G) (hj : 7 * j + 7 ≤ n) (hn : n ≤ 3584) (k : ∀ s2 I2 G2, LI s2 I2 G2 → wpS (PL n xs) EL 60 kc ks YL_law 1665 (Lh j) [] (I2, G2) QL) : wpS (PL n xs) EL 60 (18 + kc) (539 + ks) YL_law 499 (Lh j) [] (I, G) QL := by
  refine T_more (kc := kc) (ks := ks) (by omega) (by omega) ?_
  show wpS _ _ _ _ _ _ _ [none, some (.ref 0), some (.ref 256), some (.ref 281), some (.int (nI (7 * j))), none, none] _ _ _
  by_cases hb : xs (7 * j + 3) = 0
  · skip
    refine T_aload_n (pc := 499) dL_law_499 rfl ?_
    refine T_scr (pc := 500) (a := 7 * j) (k := 1) hn dL_law_500 dL_law_501 dL_law_503 dL_law_504 dL_law_505 rfl rfl (by omega) ?_
    refine T_scr (pc := 506) (a := 7 * j) (k := 2) hn dL_law_506 dL_law_507 dL_law_509 dL_law_510 dL_law_511 rfl rfl (by omega) ?_
    refine T_scr (pc := 512) (a := 7 * j) (k := 3) hn dL_law_512 dL_law_513 dL_law_515 dL_law_516 dL_law_517 rfl rfl (by omega) ?_
    refine T_if_eq (pc := 518) (x := (xs (7 * j + 3))) (tgt := 525) dL_law_518 (by decide) (fun _ => ?_) (fun z => absurd hb z)
    refine T_iconst (pc := 525) (v := bz (false = true)) dL_law_525 (by decide) ?_
    refine T_callV_X (pc := 526) (b := 0) (As := [.int (xs (7 * j + 1)), .int (xs (7 * j + 2)), .int (bz (false = true))]) 9 61 dL_law_526 lk_X9_law (ml_RL_61 rfl) im_X9_law se_X9_law (by decide) (c9_o h.1.1.1) (Nat.le_of_ble_eq_true rfl) rfl (law_c h.1 (a := false)) (fun v M hq => ?_)
    obtain ⟨I2, G2, rfl, rfl, h2⟩ := li_c h sn_law hq
    refine T_aload_n (pc := 529) dL_law_529 rfl ?_
    refine T_scr (pc := 530) (a := 7 * j) (k := 1) hn dL_law_530 dL_law_531 dL_law_533 dL_law_534 dL_law_535 rfl rfl (by omega) ?_
    refine T_scr (pc := 536) (a := 7 * j) (k := 2) hn dL_law_536 dL_law_537 dL_law_539 dL_law_540 dL_law_541 rfl rfl (by omega) ?_
    refine T_scr (pc := 542) (a := 7 * j) (k := 3) hn dL_law_542 dL_law_543 dL_law_545 dL_law_546 dL_law_547 rfl rfl (by omega) ?_
    refine T_if_eq (pc := 548) (x := (xs (7 * j + 3))) (tgt := 555) dL_law_548 (by decide) (fun _ => ?_) (fun z => absurd hb z)
    refine T_iconst (pc := 555) (v := bz (false = true)) dL_law_555 (by decide) ?_
    refine T_callV_M (pc := 556) (b := 256) (As := [.int (xs (7 * j + 1)), .int (xs (7 * j + 2)), .int (bz (false = true))]) 10 65 dL_law_556 lk_X10_law (ml_RL_65 rfl) im_X10_law se_X10_law (by decide) (c10_o h2.2.2.1) (Nat.le_of_ble_eq_true rfl) rfl (law_m h2.2.2.1 h2.2.1 (a := false)) (fun v I3 hq => ?_)
    obtain ⟨rfl, h3⟩ := li_m h2 hq
    exact T_icmp_eq (pc := 559) (tgt := 1665) dL_law_559 (by decide) (fun _ => k _ _ _ h3) (fun z => absurd rfl z)
  · skip
    refine T_aload_n (pc := 499) dL_law_499 rfl ?_
    refine T_scr (pc := 500) (a := 7 * j) (k := 1) hn dL_law_500 dL_law_501 dL_law_503 dL_law_504 dL_law_505 rfl rfl (by omega) ?_
    refine T_scr (pc := 506) (a := 7 * j) (k := 2) hn dL_law_506 dL_law_507 dL_law_509 dL_law_510 dL_law_511 rfl rfl (by omega) ?_
    refine T_scr (pc := 512) (a := 7 * j) (k := 3) hn dL_law_512 dL_law_513 dL_law_515 dL_law_516 dL_law_517 rfl rfl (by omega) ?_
    refine T_if_eq (pc := 518) (x := (xs (7 * j + 3))) (tgt := 525) dL_law_518 (by decide) (fun z => absurd z hb) (fun _ => ?_)
    refine T_iconst (pc := 521) (v := bz (true = true)) dL_law_521 (by decide) ?_
    refine T_goto (pc := 522) (tgt := 526) dL_law_522 (by decide) ?_
    refine T_callV_X (pc := 526) (b := 0) (As := [.int (xs (7 * j + 1)), .int (xs (7 * j + 2)), .int (bz (true = true))]) 9 61 dL_law_526 lk_X9_law (ml_RL_61 rfl) im_X9_law se_X9_law (by decide) (c9_o h.1.1.1) (Nat.le_of_ble_eq_true rfl) rfl (law_c h.1 (a := true)) (fun v M hq => ?_)
    obtain ⟨I2, G2, rfl, rfl, h2⟩ := li_c h sn_law hq
    refine T_aload_n (pc := 529) dL_law_529 rfl ?_
    refine T_scr (pc := 530) (a := 7 * j) (k := 1) hn dL_law_530 dL_law_531 dL_law_533 dL_law_534 dL_law_535 rfl rfl (by omega) ?_
    refine T_scr (pc := 536) (a := 7 * j) (k := 2) hn dL_law_536 dL_law_537 dL_law_539 dL_law_540 dL_law_541 rfl rfl (by omega) ?_
    refine T_scr (pc := 542) (a := 7 * j) (k := 3) hn dL_law_542 dL_law_543 dL_law_545 dL_law_546 dL_law_547 rfl rfl (by omega) ?_
    refine T_if_eq (pc := 548) (x := (xs (7 * j + 3))) (tgt := 555) dL_law_548 (by decide) (fun z => absurd z hb) (fun _ => ?_)
    refine T_iconst (pc := 551) (v := bz (true = true)) dL_law_551 (by decide) ?_
    refine T_goto (pc := 552) (tgt := 556) dL_law_552 (by decide) ?_
    refine T_callV_M (pc := 556) (b := 256) (As := [.int (xs (7 * j + 1)), .int (xs (7 * j + 2)), .int (bz (true = true))]) 10 65 dL_law_556 lk_X10_law (ml_RL_65 rfl) im_X10_law se_X10_law (by decide) (c10_o h2.2.2.1) (Nat.le_of_ble_eq_true rfl) rfl (law_m h2.2.2.1 h2.2.1 (a := true)) (fun v I3 hq => ?_)
    obtain ⟨rfl, h3⟩ := li_m h2 hq
    exact T_icmp_eq (pc := 559) (tgt := 1665) dL_law_559 (by decide) (fun _ => k _ _ _ h3) (fun z => absurd rfl z)

set_option maxHeartbeats 400000 in
set_option maxRecDepth 100000 in
theorem law_halve {n : Nat} {xs : Nat → Int32} {kc ks j : Nat} {s : Sta} {I : Im} {G : Gm} (h : LI s I G) (hj : 7 * j + 7 ≤ n) (hn : n ≤ 3584) (k : ∀ s2 I2 G2, LI s2 I2 G2 → wpS (PL n xs) EL 60 kc ks YL_law 1665 (Lh j) [] (I2, G2) QL) : wpS (PL n xs) EL 60 (18 + kc) (539 + ks) YL_law 564 (Lh j) [] (I, G) QL := by
  refine T_more (kc := kc) (ks := ks) (by omega) (by omega) ?_
  show wpS _ _ _ _ _ _ _ [none, some (.ref 0), some (.ref 256), some (.ref 281), some (.int (nI (7 * j))), none, none] _ _ _
  by_cases hb : xs (7 * j + 2) = 0
  · skip
    refine T_aload_n (pc := 564) dL_law_564 rfl ?_
    refine T_scr (pc := 565) (a := 7 * j) (k := 1) hn dL_law_565 dL_law_566 dL_law_568 dL_law_569 dL_law_570 rfl rfl (by omega) ?_
    refine T_scr (pc := 571) (a := 7 * j) (k := 2) hn dL_law_571 dL_law_572 dL_law_574 dL_law_575 dL_law_576 rfl rfl (by omega) ?_
    refine T_if_eq (pc := 577) (x := (xs (7 * j + 2))) (tgt := 584) dL_law_577 (by decide) (fun _ => ?_) (fun z => absurd hb z)
    refine T_iconst (pc := 584) (v := bz (false = true)) dL_law_584 (by decide) ?_
    refine T_callV_X (pc := 585) (b := 0) (As := [.int (xs (7 * j + 1)), .int (bz (false = true))]) 9 66 dL_law_585 lk_X9_halve (ml_RL_66 rfl) im_X9_halve se_X9_halve (by decide) (c9_o h.1.1.1) (Nat.le_of_ble_eq_true rfl) rfl (halve_c h.1 (a := false)) (fun v M hq => ?_)
    obtain ⟨I2, G2, rfl, rfl, h2⟩ := li_c h sn_halve hq
    refine T_aload_n (pc := 588) dL_law_588 rfl ?_
    refine T_scr (pc := 589) (a := 7 * j) (k := 1) hn dL_law_589 dL_law_590 dL_law_592 dL_law_593 dL_law_594 rfl rfl (by omega) ?_
    refine T_scr (pc := 595) (a := 7 * j) (k := 2) hn dL_law_595 dL_law_596 dL_law_598 dL_law_599 dL_law_600 rfl rfl (by omega) ?_
    refine T_if_eq (pc := 601) (x := (xs (7 * j + 2))) (tgt := 608) dL_law_601 (by decide) (fun _ => ?_) (fun z => absurd hb z)
    refine T_iconst (pc := 608) (v := bz (false = true)) dL_law_608 (by decide) ?_
    refine T_callV_M (pc := 609) (b := 256) (As := [.int (xs (7 * j + 1)), .int (bz (false = true))]) 10 70 dL_law_609 lk_X10_halve (ml_RL_70 rfl) im_X10_halve se_X10_halve (by decide) (c10_o h2.2.2.1) (Nat.le_of_ble_eq_true rfl) rfl (halve_m h2.2.2.1 h2.2.1 (a := false)) (fun v I3 hq => ?_)
    obtain ⟨rfl, h3⟩ := li_m h2 hq
    exact T_icmp_eq (pc := 612) (tgt := 1665) dL_law_612 (by decide) (fun _ => k _ _ _ h3) (fun z => absurd rfl z)
  · skip
    refine T_aload_n (pc := 564) dL_law_564 rfl ?_
    refine T_scr (pc := 565) (a := 7 * j) (k := 1) hn dL_law_565 dL_law_566 dL_law_568 dL_law_569 dL_law_570 rfl rfl (by omega) ?_
    refine T_scr (pc := 571) (a := 7 * j) (k := 2) hn dL_law_571 dL_law_572 dL_law_574 dL_law_575 dL_law_576 rfl rfl (by omega) ?_
    refine T_if_eq (pc := 577) (x := (xs (7 * j + 2))) (tgt := 584) dL_law_577 (by decide) (fun z => absurd z hb) (fun _ => ?_)
    refine T_iconst (pc := 580) (v := bz (true = true)) dL_law_580 (by decide) ?_
    refine T_goto (pc := 581) (tgt := 585) dL_law_581 (by decide) ?_
    refine T_callV_X (pc := 585) (b := 0) (As := [.int (xs (7 * j + 1)), .int (bz (true = true))]) 9 66 dL_law_585 lk_X9_halve (ml_RL_66 rfl) im_X9_halve se_X9_halve (by decide) (c9_o h.1.1.1) (Nat.le_of_ble_eq_true rfl) rfl (halve_c h.1 (a := true)) (fun v M hq => ?_)
    obtain ⟨I2, G2, rfl, rfl, h2⟩ := li_c h sn_halve hq
    refine T_aload_n (pc := 588) dL_law_588 rfl ?_
    refine T_scr (pc := 589) (a := 7 * j) (k := 1) hn dL_law_589 dL_law_590 dL_law_592 dL_law_593 dL_law_594 rfl rfl (by omega) ?_
    refine T_scr (pc := 595) (a := 7 * j) (k := 2) hn dL_law_595 dL_law_596 dL_law_598 dL_law_599 dL_law_600 rfl rfl (by omega) ?_
    refine T_if_eq (pc := 601) (x := (xs (7 * j + 2))) (tgt := 608) dL_law_601 (by decide) (fun z => absurd z hb) (fun _ => ?_)
    refine T_iconst (pc := 604) (v := bz (true = true)) dL_law_604 (by decide) ?_
    refine T_goto (pc := 605) (tgt := 609) dL_law_605 (by decide) ?_
    refine T_callV_M (pc := 609) (b := 256) (As := [.int (xs (7 * j + 1)), .int (bz (true = true))]) 10 70 dL_law_609 lk_X10_halve (ml_RL_70 rfl) im_X10_halve se_X10_halve (by decide) (c10_o h2.2.2.1) (Nat.le_of_ble_eq_true rfl) rfl (halve_m h2.2.2.1 h2.2.1 (a := true)) (fun v I3 hq => ?_)
    obtain ⟨rfl, h3⟩ := li_m h2 hq
    exact T_icmp_eq (pc := 612) (tgt := 1665) dL_law_612 (by decide) (fun _ => k _ _ _ h3) (fun z => absurd rfl z)

set_option maxHeartbeats 400000 in
set_option maxRecDepth 100000 in
theorem law_ask {n : Nat} {xs : Nat → Int32} {kc ks j : Nat} {s : Sta} {I : Im} {G : Gm} (h : LI s I G) (hj : 7 * j + 7 ≤ n) (hn : n ≤ 3584) (k : ∀ s2 I2 G2, LI s2 I2 G2 → wpS (PL n xs) EL 60 kc ks YL_law 1665 (Lh j) [] (I2, G2) QL) : wpS (PL n xs) EL 60 (18 + kc) (539 + ks) YL_law 617 (Lh j) [] (I, G) QL := by
  refine T_more (kc := kc) (ks := ks) (by omega) (by omega) ?_
  show wpS _ _ _ _ _ _ _ [none, some (.ref 0), some (.ref 256), some (.ref 281), some (.int (nI (7 * j))), none, none] _ _ _
  refine T_aload_n (pc := 617) dL_law_617 rfl ?_
  refine T_scr (pc := 618) (a := 7 * j) (k := 1) hn dL_law_618 dL_law_619 dL_law_621 dL_law_622 dL_law_623 rfl rfl (by omega) ?_
  refine T_scr (pc := 624) (a := 7 * j) (k := 2) hn dL_law_624 dL_law_625 dL_law_627 dL_law_628 dL_law_629 rfl rfl (by omega) ?_
  refine T_scr (pc := 630) (a := 7 * j) (k := 3) hn dL_law_630 dL_law_631 dL_law_633 dL_law_634 dL_law_635 rfl rfl (by omega) ?_
  refine T_callV_X (pc := 636) (b := 0) (As := [.int (xs (7 * j + 1)), .int (xs (7 * j + 2)), .int (xs (7 * j + 3))]) 9 71 dL_law_636 lk_X9_ask (ml_RL_71 rfl) im_X9_ask se_X9_ask (by decide) (c9_o h.1.1.1) (Nat.le_of_ble_eq_true rfl) rfl (ask_c h.1) (fun v M hq => ?_)
  obtain ⟨I2, G2, rfl, rfl, h2⟩ := li_c h rfl hq
  refine T_aload_n (pc := 639) dL_law_639 rfl ?_
  refine T_scr (pc := 640) (a := 7 * j) (k := 1) hn dL_law_640 dL_law_641 dL_law_643 dL_law_644 dL_law_645 rfl rfl (by omega) ?_
  refine T_scr (pc := 646) (a := 7 * j) (k := 2) hn dL_law_646 dL_law_647 dL_law_649 dL_law_650 dL_law_651 rfl rfl (by omega) ?_
  refine T_scr (pc := 652) (a := 7 * j) (k := 3) hn dL_law_652 dL_law_653 dL_law_655 dL_law_656 dL_law_657 rfl rfl (by omega) ?_
  refine T_callV_M (pc := 658) (b := 256) (As := [.int (xs (7 * j + 1)), .int (xs (7 * j + 2)), .int (xs (7 * j + 3))]) 10 74 dL_law_658 lk_X10_ask (ml_RL_74 rfl) im_X10_ask se_X10_ask (by decide) (c10_o h2.2.2.1) (Nat.le_of_ble_eq_true rfl) rfl (ask_m h2.2.2.1 h2.2.1) (fun v I3 hq => ?_)
  obtain ⟨rfl, h3⟩ := li_m h2 hq
  exact T_icmp_eq (pc := 661) (tgt := 1665) dL_law_661 (by decide) (fun _ => k _ _ _ h3) (fun z => absurd rfl z)

set_option maxHeartbeats 400000 in
set_option maxRecDepth 100000 in
theorem law_take {n : Nat} {xs : Nat → Int32} {kc ks j : Nat} {s : Sta} {I : Im} {G : Gm} (h : LI s I G) (hj : 7 * j + 7 ≤ n) (hn : n ≤ 3584) (k : ∀ s2 I2 G2, LI s2 I2 G2 → wpS (PL n xs) EL 60 kc ks YL_law 1665 (Lh j) [] (I2, G2) QL) : wpS (PL n xs) EL 60 (18 + kc) (539 + ks) YL_law 666 (Lh j) [] (I, G) QL := by
  refine T_more (kc := kc) (ks := ks) (by omega) (by omega) ?_
  show wpS _ _ _ _ _ _ _ [none, some (.ref 0), some (.ref 256), some (.ref 281), some (.int (nI (7 * j))), none, none] _ _ _
  refine T_aload_n (pc := 666) dL_law_666 rfl ?_
  refine T_scr (pc := 667) (a := 7 * j) (k := 1) hn dL_law_667 dL_law_668 dL_law_670 dL_law_671 dL_law_672 rfl rfl (by omega) ?_
  refine T_scr (pc := 673) (a := 7 * j) (k := 2) hn dL_law_673 dL_law_674 dL_law_676 dL_law_677 dL_law_678 rfl rfl (by omega) ?_
  refine T_scr (pc := 679) (a := 7 * j) (k := 3) hn dL_law_679 dL_law_680 dL_law_682 dL_law_683 dL_law_684 rfl rfl (by omega) ?_
  refine T_callV_X (pc := 685) (b := 0) (As := [.int (xs (7 * j + 1)), .int (xs (7 * j + 2)), .int (xs (7 * j + 3))]) 9 75 dL_law_685 lk_X9_take (ml_RL_75 rfl) im_X9_take se_X9_take (by decide) (c9_o h.1.1.1) (Nat.le_of_ble_eq_true rfl) rfl (take_c h.1) (fun v M hq => ?_)
  obtain ⟨I2, G2, rfl, rfl, h2⟩ := li_c h rfl hq
  refine T_aload_n (pc := 688) dL_law_688 rfl ?_
  refine T_scr (pc := 689) (a := 7 * j) (k := 1) hn dL_law_689 dL_law_690 dL_law_692 dL_law_693 dL_law_694 rfl rfl (by omega) ?_
  refine T_scr (pc := 695) (a := 7 * j) (k := 2) hn dL_law_695 dL_law_696 dL_law_698 dL_law_699 dL_law_700 rfl rfl (by omega) ?_
  refine T_scr (pc := 701) (a := 7 * j) (k := 3) hn dL_law_701 dL_law_702 dL_law_704 dL_law_705 dL_law_706 rfl rfl (by omega) ?_
  refine T_callV_M (pc := 707) (b := 256) (As := [.int (xs (7 * j + 1)), .int (xs (7 * j + 2)), .int (xs (7 * j + 3))]) 10 78 dL_law_707 lk_X10_take (ml_RL_78 rfl) im_X10_take se_X10_take (by decide) (c10_o h2.2.2.1) (Nat.le_of_ble_eq_true rfl) rfl (take_m h2.2.2.1 h2.2.1) (fun v I3 hq => ?_)
  obtain ⟨rfl, h3⟩ := li_m h2 hq
  exact T_icmp_eq (pc := 710) (tgt := 1665) dL_law_710 (by decide) (fun _ => k _ _ _ h3) (fun z => absurd rfl z)

set_option maxHeartbeats 400000 in
set_option maxRecDepth 100000 in
theorem law_outcome {n : Nat} {xs : Nat → Int32} {kc ks j : Nat} {s : Sta} {I : Im} {G : Gm} (h : LI s I G) (hj : 7 * j + 7 ≤ n) (hn : n ≤ 3584) (k : ∀ s2 I2 G2, LI s2 I2 G2 → wpS (PL n xs) EL 60 kc ks YL_law 1665 (Lh j) [] (I2, G2) QL) : wpS (PL n xs) EL 60 (18 + kc) (539 + ks) YL_law 715 (Lh j) [] (I, G) QL := by
  refine T_more (kc := kc) (ks := ks) (by omega) (by omega) ?_
  show wpS _ _ _ _ _ _ _ [none, some (.ref 0), some (.ref 256), some (.ref 281), some (.int (nI (7 * j))), none, none] _ _ _
  refine T_aload_n (pc := 715) dL_law_715 rfl ?_
  refine T_scr (pc := 716) (a := 7 * j) (k := 1) hn dL_law_716 dL_law_717 dL_law_719 dL_law_720 dL_law_721 rfl rfl (by omega) ?_
  refine T_scr (pc := 722) (a := 7 * j) (k := 2) hn dL_law_722 dL_law_723 dL_law_725 dL_law_726 dL_law_727 rfl rfl (by omega) ?_
  refine T_scr (pc := 728) (a := 7 * j) (k := 3) hn dL_law_728 dL_law_729 dL_law_731 dL_law_732 dL_law_733 rfl rfl (by omega) ?_
  refine T_callV_X (pc := 734) (b := 0) (As := [.int (xs (7 * j + 1)), .int (xs (7 * j + 2)), .int (xs (7 * j + 3))]) 9 79 dL_law_734 lk_X9_outcome (ml_RL_79 rfl) im_X9_outcome se_X9_outcome (by decide) (c9_o h.1.1.1) (Nat.le_of_ble_eq_true rfl) rfl (outcome_c h.1) (fun v M hq => ?_)
  obtain ⟨I2, G2, rfl, rfl, h2⟩ := li_c h rfl hq
  refine T_aload_n (pc := 737) dL_law_737 rfl ?_
  refine T_scr (pc := 738) (a := 7 * j) (k := 1) hn dL_law_738 dL_law_739 dL_law_741 dL_law_742 dL_law_743 rfl rfl (by omega) ?_
  refine T_scr (pc := 744) (a := 7 * j) (k := 2) hn dL_law_744 dL_law_745 dL_law_747 dL_law_748 dL_law_749 rfl rfl (by omega) ?_
  refine T_scr (pc := 750) (a := 7 * j) (k := 3) hn dL_law_750 dL_law_751 dL_law_753 dL_law_754 dL_law_755 rfl rfl (by omega) ?_
  refine T_callV_M (pc := 756) (b := 256) (As := [.int (xs (7 * j + 1)), .int (xs (7 * j + 2)), .int (xs (7 * j + 3))]) 10 82 dL_law_756 lk_X10_outcome (ml_RL_82 rfl) im_X10_outcome se_X10_outcome (by decide) (c10_o h2.2.2.1) (Nat.le_of_ble_eq_true rfl) rfl (outcome_m h2.2.2.1 h2.2.1) (fun v I3 hq => ?_)
  obtain ⟨rfl, h3⟩ := li_m h2 hq
  exact T_icmp_eq (pc := 759) (tgt := 1665) dL_law_759 (by decide) (fun _ => k _ _ _ h3) (fun z => absurd rfl z)

set_option maxHeartbeats 400000 in
set_option maxRecDepth 100000 in
theorem law_sum {n : Nat} {xs : Nat → Int32} {kc ks j : Nat} {s : Sta} {I : Im} {G : Gm} (h : LI s I G) (hj : 7 * j + 7 ≤ n) (hn : n ≤ 3584) (k : ∀ s2 I2 G2, LI s2 I2 G2 → wpS (PL n xs) EL 60 kc ks YL_law 1665 (Lh j) [] (I2, G2) QL) : wpS (PL n xs) EL 60 (18 + kc) (539 + ks) YL_law 764 (Lh j) [] (I, G) QL := by
  refine T_more (kc := kc) (ks := ks) (by omega) (by omega) ?_
  show wpS _ _ _ _ _ _ _ [none, some (.ref 0), some (.ref 256), some (.ref 281), some (.int (nI (7 * j))), none, none] _ _ _
  refine T_aload_n (pc := 764) dL_law_764 rfl ?_
  refine T_scr (pc := 765) (a := 7 * j) (k := 1) hn dL_law_765 dL_law_766 dL_law_768 dL_law_769 dL_law_770 rfl rfl (by omega) ?_
  refine T_scr (pc := 771) (a := 7 * j) (k := 2) hn dL_law_771 dL_law_772 dL_law_774 dL_law_775 dL_law_776 rfl rfl (by omega) ?_
  refine T_callV_X (pc := 777) (b := 0) (As := [.int (xs (7 * j + 1)), .int (xs (7 * j + 2))]) 9 83 dL_law_777 lk_X9_sum (ml_RL_83 rfl) im_X9_sum se_X9_sum (by decide) (c9_o h.1.1.1) (Nat.le_of_ble_eq_true rfl) rfl (sum_c h.1) (fun v M hq => ?_)
  obtain ⟨I2, G2, rfl, rfl, h2⟩ := li_c h rfl hq
  refine T_aload_n (pc := 780) dL_law_780 rfl ?_
  refine T_scr (pc := 781) (a := 7 * j) (k := 1) hn dL_law_781 dL_law_782 dL_law_784 dL_law_785 dL_law_786 rfl rfl (by omega) ?_
  refine T_scr (pc := 787) (a := 7 * j) (k := 2) hn dL_law_787 dL_law_788 dL_law_790 dL_law_791 dL_law_792 rfl rfl (by omega) ?_
  refine T_callV_M (pc := 793) (b := 256) (As := [.int (xs (7 * j + 1)), .int (xs (7 * j + 2))]) 10 87 dL_law_793 lk_X10_sum (ml_RL_87 rfl) im_X10_sum se_X10_sum (by decide) (c10_o h2.2.2.1) (Nat.le_of_ble_eq_true rfl) rfl (sum_m h2.2.2.1 h2.2.1) (fun v I3 hq => ?_)
  obtain ⟨rfl, h3⟩ := li_m h2 hq
  exact T_icmp_eq (pc := 796) (tgt := 1665) dL_law_796 (by decide) (fun _ => k _ _ _ h3) (fun z => absurd rfl z)

set_option maxHeartbeats 400000 in
set_option maxRecDepth 100000 in
theorem law_passed {n : Nat} {xs : Nat → Int32} {kc ks j : Nat} {s : Sta} {I : Im} {G : Gm} (h : LI s I G) (hj : 7 * j + 7 ≤ n) (hn : n ≤ 3584) (k : ∀ s2 I2 G2, LI s2 I2 G2 → wpS (PL n xs) EL 60 kc ks YL_law 1665 (Lh j) [] (I2, G2) QL) : wpS (PL n xs) EL 60 (18 + kc) (539 + ks) YL_law 801 (Lh j) [] (I, G) QL := by
  refine T_more (kc := kc) (ks := ks) (by omega) (by omega) ?_
  show wpS _ _ _ _ _ _ _ [none, some (.ref 0), some (.ref 256), some (.ref 281), some (.int (nI (7 * j))), none, none] _ _ _
  refine T_aload_n (pc := 801) dL_law_801 rfl ?_
  refine T_scr (pc := 802) (a := 7 * j) (k := 1) hn dL_law_802 dL_law_803 dL_law_805 dL_law_806 dL_law_807 rfl rfl (by omega) ?_
  refine T_scr (pc := 808) (a := 7 * j) (k := 2) hn dL_law_808 dL_law_809 dL_law_811 dL_law_812 dL_law_813 rfl rfl (by omega) ?_
  refine T_scr (pc := 814) (a := 7 * j) (k := 3) hn dL_law_814 dL_law_815 dL_law_817 dL_law_818 dL_law_819 rfl rfl (by omega) ?_
  refine T_scr (pc := 820) (a := 7 * j) (k := 4) hn dL_law_820 dL_law_821 dL_law_823 dL_law_824 dL_law_825 rfl rfl (by omega) ?_
  refine T_callV_X (pc := 826) (b := 0) (As := [.int (xs (7 * j + 1)), .int (xs (7 * j + 2)), .int (xs (7 * j + 3)), .int (xs (7 * j + 4))]) 9 88 dL_law_826 lk_X9_passed (ml_RL_88 rfl) im_X9_passed se_X9_passed (by decide) (c9_o h.1.1.1) (Nat.le_of_ble_eq_true rfl) rfl (passed_c h.1) (fun v M hq => ?_)
  obtain ⟨I2, G2, rfl, rfl, h2⟩ := li_c h rfl hq
  refine T_aload_n (pc := 829) dL_law_829 rfl ?_
  refine T_scr (pc := 830) (a := 7 * j) (k := 1) hn dL_law_830 dL_law_831 dL_law_833 dL_law_834 dL_law_835 rfl rfl (by omega) ?_
  refine T_scr (pc := 836) (a := 7 * j) (k := 2) hn dL_law_836 dL_law_837 dL_law_839 dL_law_840 dL_law_841 rfl rfl (by omega) ?_
  refine T_scr (pc := 842) (a := 7 * j) (k := 3) hn dL_law_842 dL_law_843 dL_law_845 dL_law_846 dL_law_847 rfl rfl (by omega) ?_
  refine T_scr (pc := 848) (a := 7 * j) (k := 4) hn dL_law_848 dL_law_849 dL_law_851 dL_law_852 dL_law_853 rfl rfl (by omega) ?_
  refine T_callV_M (pc := 854) (b := 256) (As := [.int (xs (7 * j + 1)), .int (xs (7 * j + 2)), .int (xs (7 * j + 3)), .int (xs (7 * j + 4))]) 10 92 dL_law_854 lk_X10_passed (ml_RL_92 rfl) im_X10_passed se_X10_passed (by decide) (c10_o h2.2.2.1) (Nat.le_of_ble_eq_true rfl) rfl (passed_m h2.2.2.1 h2.2.1) (fun v I3 hq => ?_)
  obtain ⟨rfl, h3⟩ := li_m h2 hq
  exact T_icmp_eq (pc := 857) (tgt := 1665) dL_law_857 (by decide) (fun _ => k _ _ _ h3) (fun z => absurd rfl z)

set_option maxHeartbeats 400000 in
set_option maxRecDepth 100000 in
theorem law_gain {n : Nat} {xs : Nat → Int32} {kc ks j : Nat} {s : Sta} {I : Im} {G : Gm} (h : LI s I G) (hj : 7 * j + 7 ≤ n) (hn : n ≤ 3584) (k : ∀ s2 I2 G2, LI s2 I2 G2 → wpS (PL n xs) EL 60 kc ks YL_law 1665 (Lh j) [] (I2, G2) QL) : wpS (PL n xs) EL 60 (18 + kc) (539 + ks) YL_law 862 (Lh j) [] (I, G) QL := by
  refine T_more (kc := kc) (ks := ks) (by omega) (by omega) ?_
  show wpS _ _ _ _ _ _ _ [none, some (.ref 0), some (.ref 256), some (.ref 281), some (.int (nI (7 * j))), none, none] _ _ _
  refine T_aload_n (pc := 862) dL_law_862 rfl ?_
  refine T_scr (pc := 863) (a := 7 * j) (k := 1) hn dL_law_863 dL_law_864 dL_law_866 dL_law_867 dL_law_868 rfl rfl (by omega) ?_
  refine T_scr (pc := 869) (a := 7 * j) (k := 2) hn dL_law_869 dL_law_870 dL_law_872 dL_law_873 dL_law_874 rfl rfl (by omega) ?_
  refine T_callV_X (pc := 875) (b := 0) (As := [.int (xs (7 * j + 1)), .int (xs (7 * j + 2))]) 9 93 dL_law_875 lk_X9_gain (ml_RL_93 rfl) im_X9_gain se_X9_gain (by decide) (c9_o h.1.1.1) (Nat.le_of_ble_eq_true rfl) rfl (gain_c h.1) (fun v M hq => ?_)
  obtain ⟨I2, G2, rfl, rfl, h2⟩ := li_c h rfl hq
  refine T_aload_n (pc := 878) dL_law_878 rfl ?_
  refine T_scr (pc := 879) (a := 7 * j) (k := 1) hn dL_law_879 dL_law_880 dL_law_882 dL_law_883 dL_law_884 rfl rfl (by omega) ?_
  refine T_scr (pc := 885) (a := 7 * j) (k := 2) hn dL_law_885 dL_law_886 dL_law_888 dL_law_889 dL_law_890 rfl rfl (by omega) ?_
  refine T_callV_M (pc := 891) (b := 256) (As := [.int (xs (7 * j + 1)), .int (xs (7 * j + 2))]) 10 96 dL_law_891 lk_X10_gain (ml_RL_96 rfl) im_X10_gain se_X10_gain (by decide) (c10_o h2.2.2.1) (Nat.le_of_ble_eq_true rfl) rfl (gain_m h2.2.2.1 h2.2.1) (fun v I3 hq => ?_)
  obtain ⟨rfl, h3⟩ := li_m h2 hq
  exact T_icmp_eq (pc := 894) (tgt := 1665) dL_law_894 (by decide) (fun _ => k _ _ _ h3) (fun z => absurd rfl z)
