/-! ===== the law: house, and its loop ===== -/
theorem gr_j {G : Gm} {J : Nat → Nat → Int64} : Gr G (G.1, J, G.2.2) := ⟨Nat.le_refl _, fun _ _ => rfl, fun _ _ _ _ => rfl⟩
theorem li_j {s : Sta} {I : Im} {G : Gm} (h : LI s I G) (J : Nat → Nat → Int64) : LI s I (G.1, J, G.2.2) := by
  obtain ⟨⟨⟨g1, g2, g3, g4⟩, hi, m1, m2, m3⟩, hM, h10, hN, hS⟩ := h
  exact ⟨⟨⟨isC9_gr gr_j g1, fun k hk => isC8_gr gr_j (g2 k hk), g3, g4⟩, hi, m1, m2, m3⟩, hM, isC10_gr gr_j h10, hN, hS⟩
theorem lg_self (x : Int64) : lg_cmp x x = 0 := by
  unfold lg_cmp
  rw [if_neg Int64.lt_irrefl, if_pos rfl]
theorem li_ar {s : Sta} {I : Im} {G : Gm} (h : LI s I G) : ar (I, G) 281 4 1 := ⟨by show 281 < G.2.2.2; rw [h.2.2.2.1]; have := tA_is (sN s + 1); omega, h.2.2.2.2⟩
set_option maxHeartbeats 400000 in
set_option maxRecDepth 100000 in
theorem law_house {n : Nat} {xs : Nat → Int32} {kc ks j : Nat} {s : Sta} {I : Im} {G : Gm} (h : LI s I G) (hj : 7 * j + 7 ≤ n) (hn : n ≤ 3584) (k : ∀ s2 I2 G2, LI s2 I2 G2 → wpS (PL n xs) EL 60 kc ks YL_law 1665 (Lh j) [] (I2, G2) QL) : wpS (PL n xs) EL 60 (18 + kc) (539 + ks) YL_law 308 (Lh j) [] (I, G) QL := by
  refine T_more (kc := 1 + kc) (ks := 6 + ks) (by omega) (by omega) ?_
  show wpS _ _ _ _ _ _ _ [none, some (.ref 0), some (.ref 256), some (.ref 281), some (.int (nI (7 * j))), none, none] _ _ _
  refine T_aload_n (pc := 308) dL_law_308 rfl ?_
  refine T_scr (pc := 309) (a := 7 * j) (k := 1) hn dL_law_309 dL_law_310 dL_law_312 dL_law_313 dL_law_314 rfl rfl (by omega) ?_
  refine T_scr (pc := 315) (a := 7 * j) (k := 2) hn dL_law_315 dL_law_316 dL_law_318 dL_law_319 dL_law_320 rfl rfl (by omega) ?_
  refine T_scr (pc := 321) (a := 7 * j) (k := 3) hn dL_law_321 dL_law_322 dL_law_324 dL_law_325 dL_law_326 rfl rfl (by omega) ?_
  refine T_aload_n (pc := 327) dL_law_327 rfl ?_
  refine T_callH (d := 50) (pc := 328) PL_tw h.1 (li_ar h) dL_law_328 rfl (fun r M hq => ?_)
  rcases hq with ⟨x, hx, rfl, rfl⟩ | ⟨hx, rfl, rfl⟩
  · skip
    show wpS _ _ _ _ _ _ _ _ [.int 0] _ _
    have h2 := li_j h (up2 G.2.1 281 0 x.toInt64)
    obtain ⟨G2, hG2⟩ : ∃ z : Gm, z = (G.1, up2 G.2.1 281 0 x.toInt64, G.2.2) := ⟨_, rfl⟩
    rw [← hG2] at h2
    refine T_M (M2 := (I, G2)) (by subst hG2; rfl) ?_
    refine T_istore (pc := 331) (L' := [none, some (.ref 0), some (.ref 256), some (.ref 281), some (.int (nI (7 * j))), some (.int 0), none]) dL_law_331 (by decide) rfl (PL_ex (by decide)) rfl ?_
    refine T_aload_n (pc := 333) dL_law_333 rfl ?_
    refine T_scr (pc := 334) (a := 7 * j) (k := 1) hn dL_law_334 dL_law_335 dL_law_337 dL_law_338 dL_law_339 rfl rfl (by omega) ?_
    refine T_scr (pc := 340) (a := 7 * j) (k := 2) hn dL_law_340 dL_law_341 dL_law_343 dL_law_344 dL_law_345 rfl rfl (by omega) ?_
    refine T_scr (pc := 346) (a := 7 * j) (k := 3) hn dL_law_346 dL_law_347 dL_law_349 dL_law_350 dL_law_351 rfl rfl (by omega) ?_
    refine T_callV_M (pc := 352) (b := 256) (As := [.int (xs (7 * j + 1)), .int (xs (7 * j + 2)), .int (xs (7 * j + 3))]) 10 43 dL_law_352 lk_X10_house (ml_RL_43 rfl) im_X10_house se_X10_house (by decide) (c10_o h2.2.2.1) (Nat.le_of_ble_eq_true rfl) rfl (house_m h2.2.2.1 h2.2.1) (fun v I3 hq => ?_)
    obtain ⟨hq1, hq2, hM3, hF3⟩ := hq
    have h3 : LI s I3 G2 := ⟨h2.1.far hF3, hM3, h2.2.2⟩
    obtain ⟨rfl, hth⟩ := hq1 x hx
    refine T_istore (pc := 355) (L' := [none, some (.ref 0), some (.ref 256), some (.ref 281), some (.int (nI (7 * j))), some (.int 0), some (.int v)]) dL_law_355 (by decide) rfl (PL_ex (by decide)) rfl ?_
    refine T_aload_n (pc := 357) dL_law_357 rfl ?_
    refine T_callV_P (pc := 358) (b := 256) (As := []) (v := I3 256 0) 10 44 dL_law_358 lk_X10_thrown (ml_RL_44 rfl) im_X10_thrown se_X10_thrown (by decide) (c10_o h2.2.2.1) (Nat.le_of_ble_eq_true rfl) rfl (thrown_m h2.2.2.1) ?_
    refine T_iload (pc := 361) dL_law_361 rfl ?_
    refine T_icmp_eq (pc := 363) (x := I3 256 0) (z := 0) (tgt := 368) dL_law_363 (by decide) (fun _ => ?_) (fun z => absurd hth z)
    refine T_iload (pc := 368) dL_law_368 rfl ?_
    refine T_if_ne (pc := 370) (x := 0) (tgt := 385) dL_law_370 (by decide) (fun z => absurd rfl z) (fun _ => ?_)
    refine T_aload_n (pc := 373) dL_law_373 rfl ?_
    refine T_iconst (pc := 374) (v := 0) dL_law_374 (by decide) ?_
    refine T_lald (pc := 375) (a := 281) (n := 1) (i := 0) dL_law_375 (li_ar h3) (vp_in_nI (n := 0) (by decide) (by decide)) ?_
    refine T_iload (pc := 376) dL_law_376 rfl ?_
    refine T_i2l (pc := 378) (x := v) dL_law_378 ?_
    refine T_lcmp (pc := 379) dL_law_379 ?_
    have hj0 : mJ (I3, G2) 281 (0 : Int32).toNatClampNeg = v.toInt64 := by rw [hG2]; show up2 G.2.1 281 0 v.toInt64 281 0 = _; exact up2_at
    refine T_if_eq (pc := 380) (tgt := 385) dL_law_380 (by decide) (fun _ => ?_) (fun z => absurd (by rw [hj0]; exact lg_self _) z)
    refine T_goto (pc := 385) (tgt := 1665) dL_law_385 (by decide) ?_
    refine T_sub [none, some (.ref 0), some (.ref 256), some (.ref 281), some (.int (nI (7 * j))), none, none] ⟨rfl, ⟨rfl, ⟨rfl, ⟨rfl, trivial⟩⟩⟩⟩ ?_
    exact k _ _ _ h3
  · skip
    show wpS _ _ _ _ _ _ _ _ [.int 1] _ _
    refine T_istore (pc := 331) (L' := [none, some (.ref 0), some (.ref 256), some (.ref 281), some (.int (nI (7 * j))), some (.int 1), none]) dL_law_331 (by decide) rfl (PL_ex (by decide)) rfl ?_
    refine T_aload_n (pc := 333) dL_law_333 rfl ?_
    refine T_scr (pc := 334) (a := 7 * j) (k := 1) hn dL_law_334 dL_law_335 dL_law_337 dL_law_338 dL_law_339 rfl rfl (by omega) ?_
    refine T_scr (pc := 340) (a := 7 * j) (k := 2) hn dL_law_340 dL_law_341 dL_law_343 dL_law_344 dL_law_345 rfl rfl (by omega) ?_
    refine T_scr (pc := 346) (a := 7 * j) (k := 3) hn dL_law_346 dL_law_347 dL_law_349 dL_law_350 dL_law_351 rfl rfl (by omega) ?_
    refine T_callV_M (pc := 352) (b := 256) (As := [.int (xs (7 * j + 1)), .int (xs (7 * j + 2)), .int (xs (7 * j + 3))]) 10 43 dL_law_352 lk_X10_house (ml_RL_43 rfl) im_X10_house se_X10_house (by decide) (c10_o h.2.2.1) (Nat.le_of_ble_eq_true rfl) rfl (house_m h.2.2.1 h.2.1) (fun v I3 hq => ?_)
    obtain ⟨hq1, hq2, hM3, hF3⟩ := hq
    have h3 : LI s I3 G := ⟨h.1.far hF3, hM3, h.2.2⟩
    have hth := hq2 hx
    refine T_istore (pc := 355) (L' := [none, some (.ref 0), some (.ref 256), some (.ref 281), some (.int (nI (7 * j))), some (.int 1), some (.int v)]) dL_law_355 (by decide) rfl (PL_ex (by decide)) rfl ?_
    refine T_aload_n (pc := 357) dL_law_357 rfl ?_
    refine T_callV_P (pc := 358) (b := 256) (As := []) (v := I3 256 0) 10 44 dL_law_358 lk_X10_thrown (ml_RL_44 rfl) im_X10_thrown se_X10_thrown (by decide) (c10_o h.2.2.1) (Nat.le_of_ble_eq_true rfl) rfl (thrown_m h.2.2.1) ?_
    refine T_iload (pc := 361) dL_law_361 rfl ?_
    refine T_icmp_eq (pc := 363) (x := I3 256 0) (z := 1) (tgt := 368) dL_law_363 (by decide) (fun _ => ?_) (fun z => absurd hth z)
    refine T_iload (pc := 368) dL_law_368 rfl ?_
    refine T_if_ne (pc := 370) (x := 1) (tgt := 385) dL_law_370 (by decide) (fun _ => ?_) (fun z => absurd z (by decide))
    refine T_goto (pc := 385) (tgt := 1665) dL_law_385 (by decide) ?_
    refine T_sub [none, some (.ref 0), some (.ref 256), some (.ref 281), some (.int (nI (7 * j))), none, none] ⟨rfl, ⟨rfl, ⟨rfl, ⟨rfl, trivial⟩⟩⟩⟩ ?_
    exact k _ _ _ h3

theorem law_mask (x : Int32) : ∃ c, c < 32 ∧ x &&& 31 = nI c := ⟨x.toBitVec.toNat % 2 ^ 5, Nat.mod_lt _ (by decide), pk_and x 5 (by decide)⟩
theorem law_cmp {n j : Nat} (hn : n ≤ 3584) (hj : 7 * j ≤ 3584) : nI n - nI 7 < nI (7 * j) ↔ n < 7 * j + 7 := by
  rw [Int32.lt_iff_toInt_lt, pk_sub_toInt (by omega) (by omega), nI_toInt (by omega)]
  omega
set_option maxHeartbeats 1000000 in
set_option maxRecDepth 100000 in
theorem law_body {n : Nat} {xs : Nat → Int32} {kc ks j : Nat} {s : Sta} {I : Im} {G : Gm} (h : LI s I G) (hj : 7 * j + 7 ≤ n) (hn : n ≤ 3584) (k : ∀ s2 I2 G2, LI s2 I2 G2 → wpS (PL n xs) EL 60 kc ks YL_law 1665 (Lh j) [] (I2, G2) QL) : wpS (PL n xs) EL 60 (18 + kc) (539 + ks) YL_law 33 (Lh j) [] (I, G) QL := by
  refine T_scr0 (pc := 33) (a := 7 * j) hn dL_law_33 dL_law_34 dL_law_36 rfl (by omega) ?_
  refine T_bipush (pc := 37) (v := 31) dL_law_37 (by decide) ?_
  refine T_iand (pc := 39) (x := xs (7 * j)) (z := 31) dL_law_39 ?_
  obtain ⟨c, hc, e⟩ := law_mask (xs (7 * j))
  rw [e]
  match c, hc with
  | 0, _ => exact T_tblIn (pc := 40) (x := nI 0) (off := 144) (tgt := 184) dL_law_40 (by decide) (by decide) (by decide) (by decide) (law_feed h hj hn k)
  | 1, _ => exact T_tblIn (pc := 40) (x := nI 1) (off := 217) (tgt := 257) dL_law_40 (by decide) (by decide) (by decide) (by decide) (law_end h hj hn k)
  | 2, _ => exact T_tblIn (pc := 40) (x := nI 2) (off := 242) (tgt := 282) dL_law_40 (by decide) (by decide) (by decide) (by decide) (law_fault h hj hn k)
  | 3, _ => exact T_tblIn (pc := 40) (x := nI 3) (off := 255) (tgt := 295) dL_law_40 (by decide) (by decide) (by decide) (by decide) (law_trade h hj hn k)
  | 4, _ => exact T_tblIn (pc := 40) (x := nI 4) (off := 268) (tgt := 308) dL_law_40 (by decide) (by decide) (by decide) (by decide) (law_house h hj hn k)
  | 5, _ => exact T_tblIn (pc := 40) (x := nI 5) (off := 348) (tgt := 388) dL_law_40 (by decide) (by decide) (by decide) (by decide) (law_houses h hj hn k)
  | 6, _ => exact T_tblIn (pc := 40) (x := nI 6) (off := 373) (tgt := 413) dL_law_40 (by decide) (by decide) (by decide) (by decide) (law_want h hj hn k)
  | 7, _ => exact T_tblIn (pc := 40) (x := nI 7) (off := 422) (tgt := 462) dL_law_40 (by decide) (by decide) (by decide) (by decide) (law_join h hj hn k)
  | 8, _ => exact T_tblIn (pc := 40) (x := nI 8) (off := 459) (tgt := 499) dL_law_40 (by decide) (by decide) (by decide) (by decide) (law_law h hj hn k)
  | 9, _ => exact T_tblIn (pc := 40) (x := nI 9) (off := 524) (tgt := 564) dL_law_40 (by decide) (by decide) (by decide) (by decide) (law_halve h hj hn k)
  | 10, _ => exact T_tblIn (pc := 40) (x := nI 10) (off := 577) (tgt := 617) dL_law_40 (by decide) (by decide) (by decide) (by decide) (law_ask h hj hn k)
  | 11, _ => exact T_tblIn (pc := 40) (x := nI 11) (off := 626) (tgt := 666) dL_law_40 (by decide) (by decide) (by decide) (by decide) (law_take h hj hn k)
  | 12, _ => exact T_tblIn (pc := 40) (x := nI 12) (off := 675) (tgt := 715) dL_law_40 (by decide) (by decide) (by decide) (by decide) (law_outcome h hj hn k)
  | 13, _ => exact T_tblIn (pc := 40) (x := nI 13) (off := 724) (tgt := 764) dL_law_40 (by decide) (by decide) (by decide) (by decide) (law_sum h hj hn k)
  | 14, _ => exact T_tblIn (pc := 40) (x := nI 14) (off := 761) (tgt := 801) dL_law_40 (by decide) (by decide) (by decide) (by decide) (law_passed h hj hn k)
  | 15, _ => exact T_tblIn (pc := 40) (x := nI 15) (off := 822) (tgt := 862) dL_law_40 (by decide) (by decide) (by decide) (by decide) (law_gain h hj hn k)
  | 16, _ => exact T_tblIn (pc := 40) (x := nI 16) (off := 859) (tgt := 899) dL_law_40 (by decide) (by decide) (by decide) (by decide) (law_tell h hj hn k)
  | 17, _ => exact T_tblIn (pc := 40) (x := nI 17) (off := 936) (tgt := 976) dL_law_40 (by decide) (by decide) (by decide) (by decide) (law_given h hj hn k)
  | 18, _ => exact T_tblIn (pc := 40) (x := nI 18) (off := 973) (tgt := 1013) dL_law_40 (by decide) (by decide) (by decide) (by decide) (law_doers h hj hn k)
  | 19, _ => exact T_tblIn (pc := 40) (x := nI 19) (off := 998) (tgt := 1038) dL_law_40 (by decide) (by decide) (by decide) (by decide) (law_fee h hj hn k)
  | 20, _ => exact T_tblIn (pc := 40) (x := nI 20) (off := 1047) (tgt := 1087) dL_law_40 (by decide) (by decide) (by decide) (by decide) (law_parts h hj hn k)
  | 21, _ => exact T_tblIn (pc := 40) (x := nI 21) (off := 1096) (tgt := 1136) dL_law_40 (by decide) (by decide) (by decide) (by decide) (law_takings h hj hn k)
  | 22, _ => exact T_tblIn (pc := 40) (x := nI 22) (off := 1145) (tgt := 1185) dL_law_40 (by decide) (by decide) (by decide) (by decide) (law_rivals h hj hn k)
  | 23, _ => exact T_tblIn (pc := 40) (x := nI 23) (off := 1232) (tgt := 1272) dL_law_40 (by decide) (by decide) (by decide) (by decide) (law_makers h hj hn k)
  | 24, _ => exact T_tblIn (pc := 40) (x := nI 24) (off := 1305) (tgt := 1345) dL_law_40 (by decide) (by decide) (by decide) (by decide) (law_chance h hj hn k)
  | 25, _ => exact T_tblIn (pc := 40) (x := nI 25) (off := 1342) (tgt := 1382) dL_law_40 (by decide) (by decide) (by decide) (by decide) (law_clear h hj hn k)
  | 26, _ => exact T_tblIn (pc := 40) (x := nI 26) (off := 1355) (tgt := 1395) dL_law_40 (by decide) (by decide) (by decide) (by decide) (law_expects h hj hn k)
  | 27, _ => exact T_tblIn (pc := 40) (x := nI 27) (off := 1416) (tgt := 1456) dL_law_40 (by decide) (by decide) (by decide) (by decide) (law_stock h hj hn k)
  | 28, _ => exact T_tblIn (pc := 40) (x := nI 28) (off := 1465) (tgt := 1505) dL_law_40 (by decide) (by decide) (by decide) (by decide) (law_seller h hj hn k)
  | 29, _ => exact T_tblIn (pc := 40) (x := nI 29) (off := 1526) (tgt := 1566) dL_law_40 (by decide) (by decide) (by decide) (by decide) (law_rather h hj hn k)
  | 30, _ => exact T_tblIn (pc := 40) (x := nI 30) (off := 1563) (tgt := 1603) dL_law_40 (by decide) (by decide) (by decide) (by decide) (law_rests h hj hn k)
  | 31, _ => exact T_tblIn (pc := 40) (x := nI 31) (off := 1600) (tgt := 1640) dL_law_40 (by decide) (by decide) (by decide) (by decide) (law_count h hj hn k)
  | c + 32, hc => exact absurd hc (by omega)
set_option maxRecDepth 100000 in
theorem law_loop {n : Nat} {xs : Nat → Int32} (hn : n ≤ 3584) : ∀ (r j : Nat) (s : Sta) (I : Im) (G : Gm), n / 7 = j + r → LI s I G → wpS (PL n xs) EL 60 (18 * r) (539 * r) YL_law 23 (Lh j) [] (I, G) QL := by
  intro r
  induction r with
  | zero =>
    intro j s I G hr h
    refine T_iload (pc := 23) dL_law_23 rfl ?_
    refine T_slen (pc := 25) dL_law_25 dL_law_26 ?_
    refine T_bipush (pc := 27) (v := nI 7) dL_law_27 (by decide) ?_
    refine T_isub (pc := 29) (x := nI n) (z := nI 7) dL_law_29 ?_
    refine T_icmp_gt (pc := 30) (x := nI (7 * j)) (z := nI n - nI 7) (tgt := 1671) dL_law_30 (by decide) (fun _ => ?_) (fun z => absurd ((law_cmp hn (by omega)).mpr (by omega)) z)
    refine T_iconst (pc := 1671) (v := 1) dL_law_1671 (by decide) ?_
    exact T_end (pc := 1672) (r := some (.int 1)) ⟨rfl, rfl⟩ rfl trivial
  | succ r ih =>
    intro j s I G hr h
    have hj : 7 * j + 7 ≤ n := by omega
    rw [show 18 * (r + 1) = 18 + 18 * r by omega, show 539 * (r + 1) = 539 + 539 * r by omega]
    refine T_iload (pc := 23) dL_law_23 rfl ?_
    refine T_slen (pc := 25) dL_law_25 dL_law_26 ?_
    refine T_bipush (pc := 27) (v := nI 7) dL_law_27 (by decide) ?_
    refine T_isub (pc := 29) (x := nI n) (z := nI 7) dL_law_29 ?_
    refine T_icmp_gt (pc := 30) (x := nI (7 * j)) (z := nI n - nI 7) (tgt := 1671) dL_law_30 (by decide) (fun z => absurd ((law_cmp hn (by omega)).mp z) (by omega)) (fun _ => ?_)
    refine law_body h hj hn (fun s2 I2 G2 h2 => ?_)
    refine T_iinc (pc := 1665) (i := 4) (n := 7) (x := nI (7 * j)) (v := nI (7 * (j + 1))) (L' := Lh (j + 1)) dL_law_1665 rfl (by rw [show Int32.ofInt 7 = nI 7 from rfl, nI_add]; rfl) (by decide) rfl (PL_ex (by decide)) rfl ?_
    refine T_goto (pc := 1668) (tgt := 23) dL_law_1668 (by decide) ?_
    exact ih (j + 1) s2 I2 G2 (by omega) h2
