/-! ===== sums, and the chances ===== -/
def sm (f : Nat → Int32) : Nat → Int32
  | 0 => 0
  | k + 1 => sm f k + f k
/-- what is left of a chance's weight -/
def lfF (I : Im) (c : Nat) (q : Int32) : Nat → Int32 := fun k => I (c + 2) k * (if 0 < q - I (c + 1) k then q - I (c + 1) k else 0)
/-- what is expected -/
def exF (I : Im) (c sz : Nat) (p cost back q : Int32) : Int32 := p * (q * I c 3 - sm (lfF I c q) sz) + back * sm (lfF I c q) sz - cost * q * I c 3
/-- the lowest of the best, of 0 .. n -/
def bsF (f : Nat → Int32) : Nat → Nat
  | 0 => 0
  | q + 1 => if f (bsF f q) < f (q + 1) then q + 1 else bsF f q
def stF (I : Im) (c sz : Nat) (p cost back : Int32) : Nat := bsF (fun q => exF I c sz p cost back (nI q)) 60
def seF (I : Im) (c sz : Nat) (p cost m back : Int32) : Int32 := (cost - m) * nI (stF I c sz p cost back) * I c 3 - back * sm (lfF I c (nI (stF I c sz p cost back))) sz

set_option maxRecDepth 100000 in
theorem leftOf_ct {d : Nat} {I : Im} {G : Gm} {c : Nat} (hc : isC0 G c) {sz : Nat} (hs : I c 2 = nI sz) (hz : sz ≤ 12) {q : Int32} : Ct (d + 1) 0 0 YX0_leftOf [.ref c, .int q] (I, G) (qP (sm (lfF I c q) sz) (I, G)) := by
  refine Ct.of (by decide) (by simp [Value.category]) (Nat.le_of_ble_eq_true rfl) ?_
  show wp _ _ _ _ 0 [some (.ref c), some (.int q), none, none] [] _ _
  refine r_iconst (pc := 0) (v := 0) dX0_leftOf_0 (by decide) ?_
  refine r_istore_n (pc := 1) (L' := [some (.ref c), some (.int q), some (.int (nI 0)), none]) dX0_leftOf_1 (by decide) rfl rfl ?_
  refine r_iconst (pc := 2) (v := 0) dX0_leftOf_2 (by decide) ?_
  refine r_istore_n (pc := 3) (L' := [some (.ref c), some (.int q), some (.int (nI 0)), some (.int (nI 0))]) dX0_leftOf_3 (by decide) rfl rfl ?_
  have lp4 : ∀ (n4 : Nat), ∀ (k : Nat) (lf : Int32), sz - k = n4 → (k ≤ sz) → (lf = sm (lfF I c q) k) → wp (d + 1) 0 0 YX0_leftOf 4 [some (.ref c), some (.int q), some (.int lf), some (.int (nI k))] [] (I, G) (qP (sm (lfF I c q) sz) (I, G)) := by
    intro n4
    induction n4 using Nat.strongRecOn with
    | ind n4 ih4 =>
      intro k lf hmu4 hk hl
      refine r_iload_n (pc := 4) dX0_leftOf_4 rfl ?_
      refine r_aload_n (pc := 5) dX0_leftOf_5 rfl ?_
      refine r_getIv (pc := 6) 0 2 18 dX0_leftOf_6 (fl_RX0_18 rfl) (by decide) rfl (c0_o hc) (v := nI sz) (hs) ?_
      refine r_icmp_ge_n (pc := 9) (a := k) (b := sz) (tgt := 40) dX0_leftOf_9 (by decide) (by omega) (by omega) (fun c9 => ?_) (fun c9 => ?_)
      · skip
        refine r_iload_n (pc := 40) dX0_leftOf_40 rfl ?_
        refine r_ret_i (pc := 41) dX0_leftOf_41 rfl ?_
        exact ⟨by rw [hl, show k = sz by omega], rfl⟩
      · skip
        refine r_iload_n (pc := 12) dX0_leftOf_12 rfl ?_
        refine r_aload_n (pc := 13) dX0_leftOf_13 rfl ?_
        refine r_get1 (pc := 14) 0 1 15 dX0_leftOf_14 (fl_RX0_15 rfl) (by decide) rfl (c0_o hc) (c0_p1 hc) ?_
        refine r_iload_n (pc := 17) dX0_leftOf_17 rfl ?_
        refine r_iald_n (pc := 18) (i := k) dX0_leftOf_18 (c0_a1 hc) (by decide) (by omega) rfl ?_
        refine r_iconst (pc := 19) (v := 0) dX0_leftOf_19 (by decide) ?_
        refine r_iload_n (pc := 20) dX0_leftOf_20 rfl ?_
        refine r_aload_n (pc := 21) dX0_leftOf_21 rfl ?_
        refine r_get1 (pc := 22) 0 0 9 dX0_leftOf_22 (fl_RX0_9 rfl) (by decide) rfl (c0_o hc) (c0_p0 hc) ?_
        refine r_iload_n (pc := 25) dX0_leftOf_25 rfl ?_
        refine r_iald_n (pc := 26) (i := k) dX0_leftOf_26 (c0_a0 hc) (by decide) (by omega) rfl ?_
        refine r_isub (pc := 27) (x := q) (z := I (c + 1) k) dX0_leftOf_27 ?_
        refine r_max (pc := 28) (x := 0) (z := q - (I (c + 1) k)) 25 dX0_leftOf_28 (mm_RX0_25 rfl) mt_max_s mt_i mt_max_c (Nat.le_of_ble_eq_true rfl) ?_
        refine r_imul (pc := 31) (x := I (c + 2) k) (z := if 0 < q - (I (c + 1) k) then q - (I (c + 1) k) else 0) dX0_leftOf_31 ?_
        refine r_iadd (pc := 32) (x := lf) (z := (I (c + 2) k) * (if 0 < q - (I (c + 1) k) then q - (I (c + 1) k) else 0)) dX0_leftOf_32 ?_
        refine r_istore_n (pc := 33) (L' := [some (.ref c), some (.int q), some (.int (lf + ((I (c + 2) k) * (if 0 < q - (I (c + 1) k) then q - (I (c + 1) k) else 0)))), some (.int (nI k))]) dX0_leftOf_33 (by decide) rfl rfl ?_
        refine r_iinc (pc := 34) (v := nI (k + 1)) (L' := [some (.ref c), some (.int q), some (.int (lf + ((I (c + 2) k) * (if 0 < q - (I (c + 1) k) then q - (I (c + 1) k) else 0)))), some (.int (nI (k + 1)))]) dX0_leftOf_34 rfl (nI_inc _) (by decide) rfl rfl ?_
        refine r_goto (pc := 37) (tgt := 4) dX0_leftOf_37 (by decide) ?_
        exact ih4 _ (by omega) (k + 1) (lf + ((I (c + 2) k) * (if 0 < q - (I (c + 1) k) then q - (I (c + 1) k) else 0))) rfl (by omega) (by rw [hl]; rfl)
  exact lp4 _ 0 0 rfl (by omega) (by rfl)

set_option maxRecDepth 100000 in
theorem expected_ct {d : Nat} {I : Im} {G : Gm} {c : Nat} (hc : isC0 G c) {sz : Nat} (hs : I c 2 = nI sz) (hz : sz ≤ 12) {p co bk q : Int32} : Ct (d + 2) 0 0 YX0_expected [.ref c, .int p, .int co, .int bk, .int q] (I, G) (qP (exF I c sz p co bk q) (I, G)) := by
  refine Ct.of (by decide) (by simp [Value.category]) (Nat.le_of_ble_eq_true rfl) ?_
  show wp _ _ _ _ 0 [some (.ref c), some (.int p), some (.int co), some (.int bk), some (.int q), none, none] [] _ _
  refine r_aload_n (pc := 0) dX0_expected_0 rfl ?_
  refine r_iload (pc := 1) dX0_expected_1 rfl ?_
  refine r_callV_P (pc := 3) (b := c) (As := [.int q]) 0 31 dX0_expected_3 lk_X0_leftOf (ml_RX0_31 rfl) im_X0_leftOf se_X0_leftOf (by decide) (c0_o hc) (Nat.le_of_ble_eq_true rfl) rfl (leftOf_ct hc hs hz) ?_
  refine r_istore (pc := 6) (L' := [some (.ref c), some (.int p), some (.int co), some (.int bk), some (.int q), some (.int (sm (lfF I c q) sz)), none]) dX0_expected_6 (by decide) rfl rfl ?_
  refine r_iload (pc := 8) dX0_expected_8 rfl ?_
  refine r_aload_n (pc := 10) dX0_expected_10 rfl ?_
  refine r_getI (pc := 11) 0 3 22 dX0_expected_11 (fl_RX0_22 rfl) (by decide) rfl (c0_o hc) ?_
  refine r_imul (pc := 14) (x := q) (z := I c 3) dX0_expected_14 ?_
  refine r_iload (pc := 15) dX0_expected_15 rfl ?_
  refine r_isub (pc := 17) (x := q * (I c 3)) (z := sm (lfF I c q) sz) dX0_expected_17 ?_
  refine r_istore (pc := 18) (L' := [some (.ref c), some (.int p), some (.int co), some (.int bk), some (.int q), some (.int (sm (lfF I c q) sz)), some (.int ((q * (I c 3)) - (sm (lfF I c q) sz)))]) dX0_expected_18 (by decide) rfl rfl ?_
  refine r_iload_n (pc := 20) dX0_expected_20 rfl ?_
  refine r_iload (pc := 21) dX0_expected_21 rfl ?_
  refine r_imul (pc := 23) (x := p) (z := (q * (I c 3)) - (sm (lfF I c q) sz)) dX0_expected_23 ?_
  refine r_iload_n (pc := 24) dX0_expected_24 rfl ?_
  refine r_iload (pc := 25) dX0_expected_25 rfl ?_
  refine r_imul (pc := 27) (x := bk) (z := sm (lfF I c q) sz) dX0_expected_27 ?_
  refine r_iadd (pc := 28) (x := p * ((q * (I c 3)) - (sm (lfF I c q) sz))) (z := bk * (sm (lfF I c q) sz)) dX0_expected_28 ?_
  refine r_iload_n (pc := 29) dX0_expected_29 rfl ?_
  refine r_iload (pc := 30) dX0_expected_30 rfl ?_
  refine r_imul (pc := 32) (x := co) (z := q) dX0_expected_32 ?_
  refine r_aload_n (pc := 33) dX0_expected_33 rfl ?_
  refine r_getI (pc := 34) 0 3 22 dX0_expected_34 (fl_RX0_22 rfl) (by decide) rfl (c0_o hc) ?_
  refine r_imul (pc := 37) (x := co * q) (z := I c 3) dX0_expected_37 ?_
  refine r_isub (pc := 38) (x := (p * ((q * (I c 3)) - (sm (lfF I c q) sz))) + (bk * (sm (lfF I c q) sz))) (z := (co * q) * (I c 3)) dX0_expected_38 ?_
  refine r_ret_i (pc := 39) dX0_expected_39 rfl ?_
  exact ⟨rfl, rfl⟩

theorem bsF_step (f : Nat → Int32) {k : Nat} (h : 1 ≤ k) : bsF f k = if f (bsF f (k - 1)) < f k then k else bsF f (k - 1) := by
  obtain ⟨j, rfl⟩ : ∃ j, k = j + 1 := ⟨k - 1, by omega⟩
  rfl
theorem bsF_le (f : Nat → Int32) : ∀ k, bsF f k ≤ k
  | 0 => Nat.le_refl _
  | k + 1 => by
    unfold bsF
    have := bsF_le f k
    split <;> omega

set_option maxRecDepth 100000 in
theorem bestStock_ct {d : Nat} {I : Im} {G : Gm} {c : Nat} (hc : isC0 G c) {sz : Nat} (hs : I c 2 = nI sz) (hz : sz ≤ 12) {p co bk : Int32} : Ct (d + 3) 0 0 YX0_bestStock [.ref c, .int p, .int co, .int bk] (I, G) (qP (nI (stF I c sz p co bk)) (I, G)) := by
  refine Ct.of (by decide) (by simp [Value.category]) (Nat.le_of_ble_eq_true rfl) ?_
  show wp _ _ _ _ 0 [some (.ref c), some (.int p), some (.int co), some (.int bk), none, none, none, none] [] _ _
  refine r_iconst (pc := 0) (v := 0) dX0_bestStock_0 (by decide) ?_
  refine r_istore (pc := 1) (L' := [some (.ref c), some (.int p), some (.int co), some (.int bk), some (.int (nI 0)), none, none, none]) dX0_bestStock_1 (by decide) rfl rfl ?_
  refine r_aload_n (pc := 3) dX0_bestStock_3 rfl ?_
  refine r_iload_n (pc := 4) dX0_bestStock_4 rfl ?_
  refine r_iload_n (pc := 5) dX0_bestStock_5 rfl ?_
  refine r_iload_n (pc := 6) dX0_bestStock_6 rfl ?_
  refine r_iconst (pc := 7) (v := 0) dX0_bestStock_7 (by decide) ?_
  refine r_callV_P (pc := 8) (b := c) (As := [.int p, .int co, .int bk, .int (nI 0)]) 0 35 dX0_bestStock_8 lk_X0_expected (ml_RX0_35 rfl) im_X0_expected se_X0_expected (by decide) (c0_o hc) (Nat.le_of_ble_eq_true rfl) rfl (expected_ct hc hs hz) ?_
  refine r_istore (pc := 11) (L' := [some (.ref c), some (.int p), some (.int co), some (.int bk), some (.int (nI 0)), some (.int (exF I c sz p co bk (nI 0))), none, none]) dX0_bestStock_11 (by decide) rfl rfl ?_
  refine r_iconst (pc := 13) (v := 1) dX0_bestStock_13 (by decide) ?_
  refine r_istore (pc := 14) (L' := [some (.ref c), some (.int p), some (.int co), some (.int bk), some (.int (nI 0)), some (.int (exF I c sz p co bk (nI 0))), some (.int (nI 1)), none]) dX0_bestStock_14 (by decide) rfl rfl ?_
  have lp16 : ∀ (n16 : Nat), ∀ (k : Nat) (bst : Nat) (mo : Int32), 61 - k = n16 → (1 ≤ k ∧ k ≤ 61) → (bst = bsF (fun q => exF I c sz p co bk (nI q)) (k - 1)) → (mo = exF I c sz p co bk (nI bst)) → wp (d + 3) 0 0 YX0_bestStock 16 [some (.ref c), some (.int p), some (.int co), some (.int bk), some (.int (nI bst)), some (.int mo), some (.int (nI k)), none] [] (I, G) (qP (nI (stF I c sz p co bk)) (I, G)) := by
    intro n16
    induction n16 using Nat.strongRecOn with
    | ind n16 ih16 =>
      intro k bst mo hmu16 hk hb hm
      refine r_iload (pc := 16) dX0_bestStock_16 rfl ?_
      refine r_bipush (pc := 18) (v := 60) dX0_bestStock_18 (by decide) ?_
      refine r_icmp_gt_n (pc := 20) (a := k) (b := 60) (tgt := 55) dX0_bestStock_20 (by decide) (by omega) (by omega) (fun c20 => ?_) (fun c20 => ?_)
      · skip
        refine r_iload (pc := 55) dX0_bestStock_55 rfl ?_
        refine r_ret_i (pc := 57) dX0_bestStock_57 rfl ?_
        exact ⟨by rw [hb, show k - 1 = 60 by omega]; rfl, rfl⟩
      · skip
        refine r_aload_n (pc := 23) dX0_bestStock_23 rfl ?_
        refine r_iload_n (pc := 24) dX0_bestStock_24 rfl ?_
        refine r_iload_n (pc := 25) dX0_bestStock_25 rfl ?_
        refine r_iload_n (pc := 26) dX0_bestStock_26 rfl ?_
        refine r_iload (pc := 27) dX0_bestStock_27 rfl ?_
        refine r_callV_P (pc := 29) (b := c) (As := [.int p, .int co, .int bk, .int (nI k)]) 0 35 dX0_bestStock_29 lk_X0_expected (ml_RX0_35 rfl) im_X0_expected se_X0_expected (by decide) (c0_o hc) (Nat.le_of_ble_eq_true rfl) rfl (expected_ct hc hs hz) ?_
        refine r_istore (pc := 32) (L' := [some (.ref c), some (.int p), some (.int co), some (.int bk), some (.int (nI bst)), some (.int mo), some (.int (nI k)), some (.int (exF I c sz p co bk (nI k)))]) dX0_bestStock_32 (by decide) rfl rfl ?_
        refine r_iload (pc := 34) dX0_bestStock_34 rfl ?_
        refine r_iload (pc := 36) dX0_bestStock_36 rfl ?_
        refine r_icmp_le (pc := 38) (x := exF I c sz p co bk (nI k)) (z := mo) (tgt := 49) dX0_bestStock_38 (by decide) (fun c38 => ?_) (fun c38 => ?_)
        · skip
          refine r_iinc (pc := 49) (v := nI (k + 1)) (L' := [some (.ref c), some (.int p), some (.int co), some (.int bk), some (.int (nI bst)), some (.int mo), some (.int (nI (k + 1))), some (.int (exF I c sz p co bk (nI k)))]) dX0_bestStock_49 rfl (nI_inc _) (by decide) rfl rfl ?_
          refine r_goto (pc := 52) (tgt := 16) dX0_bestStock_52 (by decide) ?_
          refine wp_sub [some (.ref c), some (.int p), some (.int co), some (.int bk), some (.int (nI bst)), some (.int mo), some (.int (nI (k + 1))), none] ⟨rfl, ⟨rfl, ⟨rfl, ⟨rfl, ⟨rfl, ⟨rfl, ⟨rfl, trivial⟩⟩⟩⟩⟩⟩⟩ ?_
          exact ih16 _ (by omega) (k + 1) bst mo rfl (by omega) (by rw [Nat.add_sub_cancel, bsF_step _ hk.1, ← hb]; first | exact (if_pos (Int32.not_le.mp (by rw [← hm]; exact c38))).symm | exact (if_neg (Int32.not_lt.mpr (by rw [← hm]; exact c38))).symm) (by first | rfl | exact hm)
        · skip
          refine r_iload (pc := 41) dX0_bestStock_41 rfl ?_
          refine r_istore (pc := 43) (L' := [some (.ref c), some (.int p), some (.int co), some (.int bk), some (.int (nI bst)), some (.int (exF I c sz p co bk (nI k))), some (.int (nI k)), some (.int (exF I c sz p co bk (nI k)))]) dX0_bestStock_43 (by decide) rfl rfl ?_
          refine r_iload (pc := 45) dX0_bestStock_45 rfl ?_
          refine r_istore (pc := 47) (L' := [some (.ref c), some (.int p), some (.int co), some (.int bk), some (.int (nI k)), some (.int (exF I c sz p co bk (nI k))), some (.int (nI k)), some (.int (exF I c sz p co bk (nI k)))]) dX0_bestStock_47 (by decide) rfl rfl ?_
          refine r_iinc (pc := 49) (v := nI (k + 1)) (L' := [some (.ref c), some (.int p), some (.int co), some (.int bk), some (.int (nI k)), some (.int (exF I c sz p co bk (nI k))), some (.int (nI (k + 1))), some (.int (exF I c sz p co bk (nI k)))]) dX0_bestStock_49 rfl (nI_inc _) (by decide) rfl rfl ?_
          refine r_goto (pc := 52) (tgt := 16) dX0_bestStock_52 (by decide) ?_
          refine wp_sub [some (.ref c), some (.int p), some (.int co), some (.int bk), some (.int (nI k)), some (.int (exF I c sz p co bk (nI k))), some (.int (nI (k + 1))), none] ⟨rfl, ⟨rfl, ⟨rfl, ⟨rfl, ⟨rfl, ⟨rfl, ⟨rfl, trivial⟩⟩⟩⟩⟩⟩⟩ ?_
          exact ih16 _ (by omega) (k + 1) k (exF I c sz p co bk (nI k)) rfl (by omega) (by rw [Nat.add_sub_cancel, bsF_step _ hk.1, ← hb]; first | exact (if_pos (Int32.not_le.mp (by rw [← hm]; exact c38))).symm | exact (if_neg (Int32.not_lt.mpr (by rw [← hm]; exact c38))).symm) (by first | rfl | exact hm)
  exact lp16 _ 1 0 (exF I c sz p co bk (nI 0)) rfl (by omega) (by rfl) (by rfl)

set_option maxRecDepth 100000 in
theorem sellerExpects_ct {d : Nat} {I : Im} {G : Gm} {c : Nat} (hc : isC0 G c) {sz : Nat} (hs : I c 2 = nI sz) (hz : sz ≤ 12) {p co m bk : Int32} : Ct (d + 4) 0 0 YX0_sellerExpects [.ref c, .int p, .int co, .int m, .int bk] (I, G) (qP (seF I c sz p co m bk) (I, G)) := by
  refine Ct.of (by decide) (by simp [Value.category]) (Nat.le_of_ble_eq_true rfl) ?_
  show wp _ _ _ _ 0 [some (.ref c), some (.int p), some (.int co), some (.int m), some (.int bk), none] [] _ _
  refine r_aload_n (pc := 0) dX0_sellerExpects_0 rfl ?_
  refine r_iload_n (pc := 1) dX0_sellerExpects_1 rfl ?_
  refine r_iload_n (pc := 2) dX0_sellerExpects_2 rfl ?_
  refine r_iload (pc := 3) dX0_sellerExpects_3 rfl ?_
  refine r_callV_P (pc := 5) (b := c) (As := [.int p, .int co, .int bk]) 0 39 dX0_sellerExpects_5 lk_X0_bestStock (ml_RX0_39 rfl) im_X0_bestStock se_X0_bestStock (by decide) (c0_o hc) (Nat.le_of_ble_eq_true rfl) rfl (bestStock_ct hc hs hz) ?_
  refine r_istore (pc := 8) (L' := [some (.ref c), some (.int p), some (.int co), some (.int m), some (.int bk), some (.int (nI (stF I c sz p co bk)))]) dX0_sellerExpects_8 (by decide) rfl rfl ?_
  refine r_iload_n (pc := 10) dX0_sellerExpects_10 rfl ?_
  refine r_iload_n (pc := 11) dX0_sellerExpects_11 rfl ?_
  refine r_isub (pc := 12) (x := co) (z := m) dX0_sellerExpects_12 ?_
  refine r_iload (pc := 13) dX0_sellerExpects_13 rfl ?_
  refine r_imul (pc := 15) (x := co - m) (z := nI (stF I c sz p co bk)) dX0_sellerExpects_15 ?_
  refine r_aload_n (pc := 16) dX0_sellerExpects_16 rfl ?_
  refine r_getI (pc := 17) 0 3 22 dX0_sellerExpects_17 (fl_RX0_22 rfl) (by decide) rfl (c0_o hc) ?_
  refine r_imul (pc := 20) (x := (co - m) * (nI (stF I c sz p co bk))) (z := I c 3) dX0_sellerExpects_20 ?_
  refine r_iload (pc := 21) dX0_sellerExpects_21 rfl ?_
  refine r_aload_n (pc := 23) dX0_sellerExpects_23 rfl ?_
  refine r_iload (pc := 24) dX0_sellerExpects_24 rfl ?_
  refine r_callV_P (pc := 26) (b := c) (As := [.int (nI (stF I c sz p co bk))]) 0 31 dX0_sellerExpects_26 lk_X0_leftOf (ml_RX0_31 rfl) im_X0_leftOf se_X0_leftOf (by decide) (c0_o hc) (Nat.le_of_ble_eq_true rfl) rfl (leftOf_ct hc hs hz) ?_
  refine r_imul (pc := 29) (x := bk) (z := sm (lfF I c (nI (stF I c sz p co bk))) sz) dX0_sellerExpects_29 ?_
  refine r_isub (pc := 30) (x := ((co - m) * (nI (stF I c sz p co bk))) * (I c 3)) (z := bk * (sm (lfF I c (nI (stF I c sz p co bk))) sz)) dX0_sellerExpects_30 ?_
  refine r_ret_i (pc := 31) dX0_sellerExpects_31 rfl ?_
  exact ⟨rfl, rfl⟩

set_option maxRecDepth 100000 in
theorem bestBack_ct {d : Nat} {I : Im} {G : Gm} {c : Nat} (hc : isC0 G c) {sz : Nat} (hs : I c 2 = nI sz) (hz : sz ≤ 12) {p m : Int32} {co : Nat} (hco : co ≤ 41) : Ct (d + 5) 0 0 YX0_bestBack [.ref c, .int p, .int (nI co), .int m] (I, G) (qP (nI (bsF (fun b => seF I c sz p (nI co) m (nI b)) co)) (I, G)) := by
  refine Ct.of (by decide) (by simp [Value.category]) (Nat.le_of_ble_eq_true rfl) ?_
  show wp _ _ _ _ 0 [some (.ref c), some (.int p), some (.int (nI co)), some (.int m), none, none, none, none] [] _ _
  refine r_iconst (pc := 0) (v := 0) dX0_bestBack_0 (by decide) ?_
  refine r_istore (pc := 1) (L' := [some (.ref c), some (.int p), some (.int (nI co)), some (.int m), some (.int (nI 0)), none, none, none]) dX0_bestBack_1 (by decide) rfl rfl ?_
  refine r_aload_n (pc := 3) dX0_bestBack_3 rfl ?_
  refine r_iload_n (pc := 4) dX0_bestBack_4 rfl ?_
  refine r_iload_n (pc := 5) dX0_bestBack_5 rfl ?_
  refine r_iload_n (pc := 6) dX0_bestBack_6 rfl ?_
  refine r_iconst (pc := 7) (v := 0) dX0_bestBack_7 (by decide) ?_
  refine r_callV_P (pc := 8) (b := c) (As := [.int p, .int (nI co), .int m, .int (nI 0)]) 0 43 dX0_bestBack_8 lk_X0_sellerExpects (ml_RX0_43 rfl) im_X0_sellerExpects se_X0_sellerExpects (by decide) (c0_o hc) (Nat.le_of_ble_eq_true rfl) rfl (sellerExpects_ct hc hs hz) ?_
  refine r_istore (pc := 11) (L' := [some (.ref c), some (.int p), some (.int (nI co)), some (.int m), some (.int (nI 0)), some (.int (seF I c sz p (nI co) m (nI 0))), none, none]) dX0_bestBack_11 (by decide) rfl rfl ?_
  refine r_iconst (pc := 13) (v := 1) dX0_bestBack_13 (by decide) ?_
  refine r_istore (pc := 14) (L' := [some (.ref c), some (.int p), some (.int (nI co)), some (.int m), some (.int (nI 0)), some (.int (seF I c sz p (nI co) m (nI 0))), some (.int (nI 1)), none]) dX0_bestBack_14 (by decide) rfl rfl ?_
  have lp16 : ∀ (n16 : Nat), ∀ (k : Nat) (bst : Nat) (mo : Int32), co + 1 - k = n16 → (1 ≤ k ∧ k ≤ co + 1) → (bst = bsF (fun b => seF I c sz p (nI co) m (nI b)) (k - 1)) → (mo = seF I c sz p (nI co) m (nI bst)) → wp (d + 5) 0 0 YX0_bestBack 16 [some (.ref c), some (.int p), some (.int (nI co)), some (.int m), some (.int (nI bst)), some (.int mo), some (.int (nI k)), none] [] (I, G) (qP (nI (bsF (fun b => seF I c sz p (nI co) m (nI b)) co)) (I, G)) := by
    intro n16
    induction n16 using Nat.strongRecOn with
    | ind n16 ih16 =>
      intro k bst mo hmu16 hk hb hm
      refine r_iload (pc := 16) dX0_bestBack_16 rfl ?_
      refine r_iload_n (pc := 18) dX0_bestBack_18 rfl ?_
      refine r_icmp_gt_n (pc := 19) (a := k) (b := co) (tgt := 54) dX0_bestBack_19 (by decide) (by omega) (by omega) (fun c19 => ?_) (fun c19 => ?_)
      · skip
        refine r_iload (pc := 54) dX0_bestBack_54 rfl ?_
        refine r_ret_i (pc := 56) dX0_bestBack_56 rfl ?_
        exact ⟨by rw [hb, show k - 1 = co by omega], rfl⟩
      · skip
        refine r_aload_n (pc := 22) dX0_bestBack_22 rfl ?_
        refine r_iload_n (pc := 23) dX0_bestBack_23 rfl ?_
        refine r_iload_n (pc := 24) dX0_bestBack_24 rfl ?_
        refine r_iload_n (pc := 25) dX0_bestBack_25 rfl ?_
        refine r_iload (pc := 26) dX0_bestBack_26 rfl ?_
        refine r_callV_P (pc := 28) (b := c) (As := [.int p, .int (nI co), .int m, .int (nI k)]) 0 43 dX0_bestBack_28 lk_X0_sellerExpects (ml_RX0_43 rfl) im_X0_sellerExpects se_X0_sellerExpects (by decide) (c0_o hc) (Nat.le_of_ble_eq_true rfl) rfl (sellerExpects_ct hc hs hz) ?_
        refine r_istore (pc := 31) (L' := [some (.ref c), some (.int p), some (.int (nI co)), some (.int m), some (.int (nI bst)), some (.int mo), some (.int (nI k)), some (.int (seF I c sz p (nI co) m (nI k)))]) dX0_bestBack_31 (by decide) rfl rfl ?_
        refine r_iload (pc := 33) dX0_bestBack_33 rfl ?_
        refine r_iload (pc := 35) dX0_bestBack_35 rfl ?_
        refine r_icmp_le (pc := 37) (x := seF I c sz p (nI co) m (nI k)) (z := mo) (tgt := 48) dX0_bestBack_37 (by decide) (fun c37 => ?_) (fun c37 => ?_)
        · skip
          refine r_iinc (pc := 48) (v := nI (k + 1)) (L' := [some (.ref c), some (.int p), some (.int (nI co)), some (.int m), some (.int (nI bst)), some (.int mo), some (.int (nI (k + 1))), some (.int (seF I c sz p (nI co) m (nI k)))]) dX0_bestBack_48 rfl (nI_inc _) (by decide) rfl rfl ?_
          refine r_goto (pc := 51) (tgt := 16) dX0_bestBack_51 (by decide) ?_
          refine wp_sub [some (.ref c), some (.int p), some (.int (nI co)), some (.int m), some (.int (nI bst)), some (.int mo), some (.int (nI (k + 1))), none] ⟨rfl, ⟨rfl, ⟨rfl, ⟨rfl, ⟨rfl, ⟨rfl, ⟨rfl, trivial⟩⟩⟩⟩⟩⟩⟩ ?_
          exact ih16 _ (by omega) (k + 1) bst mo rfl (by omega) (by rw [Nat.add_sub_cancel, bsF_step _ hk.1, ← hb]; first | exact (if_pos (Int32.not_le.mp (by rw [← hm]; exact c37))).symm | exact (if_neg (Int32.not_lt.mpr (by rw [← hm]; exact c37))).symm) (by first | rfl | exact hm)
        · skip
          refine r_iload (pc := 40) dX0_bestBack_40 rfl ?_
          refine r_istore (pc := 42) (L' := [some (.ref c), some (.int p), some (.int (nI co)), some (.int m), some (.int (nI bst)), some (.int (seF I c sz p (nI co) m (nI k))), some (.int (nI k)), some (.int (seF I c sz p (nI co) m (nI k)))]) dX0_bestBack_42 (by decide) rfl rfl ?_
          refine r_iload (pc := 44) dX0_bestBack_44 rfl ?_
          refine r_istore (pc := 46) (L' := [some (.ref c), some (.int p), some (.int (nI co)), some (.int m), some (.int (nI k)), some (.int (seF I c sz p (nI co) m (nI k))), some (.int (nI k)), some (.int (seF I c sz p (nI co) m (nI k)))]) dX0_bestBack_46 (by decide) rfl rfl ?_
          refine r_iinc (pc := 48) (v := nI (k + 1)) (L' := [some (.ref c), some (.int p), some (.int (nI co)), some (.int m), some (.int (nI k)), some (.int (seF I c sz p (nI co) m (nI k))), some (.int (nI (k + 1))), some (.int (seF I c sz p (nI co) m (nI k)))]) dX0_bestBack_48 rfl (nI_inc _) (by decide) rfl rfl ?_
          refine r_goto (pc := 51) (tgt := 16) dX0_bestBack_51 (by decide) ?_
          refine wp_sub [some (.ref c), some (.int p), some (.int (nI co)), some (.int m), some (.int (nI k)), some (.int (seF I c sz p (nI co) m (nI k))), some (.int (nI (k + 1))), none] ⟨rfl, ⟨rfl, ⟨rfl, ⟨rfl, ⟨rfl, ⟨rfl, ⟨rfl, trivial⟩⟩⟩⟩⟩⟩⟩ ?_
          exact ih16 _ (by omega) (k + 1) k (seF I c sz p (nI co) m (nI k)) rfl (by omega) (by rw [Nat.add_sub_cancel, bsF_step _ hk.1, ← hb]; first | exact (if_pos (Int32.not_le.mp (by rw [← hm]; exact c37))).symm | exact (if_neg (Int32.not_lt.mpr (by rw [← hm]; exact c37))).symm) (by first | rfl | exact hm)
  exact lp16 _ 1 0 (seF I c sz p (nI co) m (nI 0)) rfl (by omega) (by rfl) (by rfl)

set_option maxRecDepth 100000 in
theorem forget_ct {d : Nat} {I : Im} {G : Gm} {c : Nat} (hc : isC0 G c) {sz : Nat} (hs : I c 2 = nI sz) (hz : sz ≤ 12) : Ct (d + 1) 0 0 YX0_forget [.ref c] (I, G) (qM G (fun v I2 => v = nI sz ∧ I2 = up2 (up2 I c 2 0) c 3 0)) := by
  refine Ct.of (by decide) (by simp [Value.category]) (Nat.le_of_ble_eq_true rfl) ?_
  show wp _ _ _ _ 0 [some (.ref c), none] [] _ _
  refine r_aload_n (pc := 0) dX0_forget_0 rfl ?_
  refine r_getIv (pc := 1) 0 2 18 dX0_forget_1 (fl_RX0_18 rfl) (by decide) rfl (c0_o hc) (v := nI sz) (hs) ?_
  refine r_istore_n (pc := 4) (L' := [some (.ref c), some (.int (nI sz))]) dX0_forget_4 (by decide) rfl rfl ?_
  refine r_aload_n (pc := 5) dX0_forget_5 rfl ?_
  refine r_iconst (pc := 6) (v := 0) dX0_forget_6 (by decide) ?_
  refine r_putI (pc := 7) (v := nI 0) 0 2 18 dX0_forget_7 (fl_RX0_18 rfl) (by decide) rfl rfl (c0_o hc) ?_
  refine r_aload_n (pc := 10) dX0_forget_10 rfl ?_
  refine r_iconst (pc := 11) (v := 0) dX0_forget_11 (by decide) ?_
  refine r_putI (pc := 12) (v := nI 0) 0 3 22 dX0_forget_12 (fl_RX0_22 rfl) (by decide) rfl rfl (c0_o hc) ?_
  refine r_iload_n (pc := 15) dX0_forget_15 rfl ?_
  refine r_ret_i (pc := 16) dX0_forget_16 rfl ?_
  exact ⟨_, _, rfl, rfl, rfl, rfl⟩

set_option maxRecDepth 100000 in
theorem more_ct {d : Nat} {I : Im} {G : Gm} {c : Nat} (hc : isC0 G c) {sz : Nat} (hs : I c 2 = nI sz) (hz : sz ≤ 12) {a b : Int32} : Ct (d + 1) 0 0 YX0_more [.ref c, .int a, .int b] (I, G) (qM G (fun v I2 => (sz = 12 ∧ v = -1 ∧ I2 = I) ∨ (sz < 12 ∧ v = nI (sz + 1) ∧ I2 = up2 (up2 (up2 (up2 I (c + 1) sz a) (c + 2) sz b) c 3 (I c 3 + b)) c 2 (nI (sz + 1))))) := by
  refine Ct.of (by decide) (by simp [Value.category]) (Nat.le_of_ble_eq_true rfl) ?_
  show wp _ _ _ _ 0 [some (.ref c), some (.int a), some (.int b)] [] _ _
  refine r_aload_n (pc := 0) dX0_more_0 rfl ?_
  refine r_getIv (pc := 1) 0 2 18 dX0_more_1 (fl_RX0_18 rfl) (by decide) rfl (c0_o hc) (v := nI sz) (hs) ?_
  refine r_bipush (pc := 4) (v := 12) dX0_more_4 (by decide) ?_
  refine r_icmp_lt_n (pc := 6) (a := sz) (b := 12) (tgt := 11) dX0_more_6 (by decide) (by omega) (by omega) (fun c6 => ?_) (fun c6 => ?_)
  · skip
    refine r_aload_n (pc := 11) dX0_more_11 rfl ?_
    refine r_get1 (pc := 12) 0 0 9 dX0_more_12 (fl_RX0_9 rfl) (by decide) rfl (c0_o hc) (c0_p0 hc) ?_
    refine r_aload_n (pc := 15) dX0_more_15 rfl ?_
    refine r_getIv (pc := 16) 0 2 18 dX0_more_16 (fl_RX0_18 rfl) (by decide) rfl (c0_o hc) (v := nI sz) (hs) ?_
    refine r_iload_n (pc := 19) dX0_more_19 rfl ?_
    refine r_iast_n (pc := 20) (i := sz) (v := a) dX0_more_20 (c0_a0 hc) (by decide) (by omega) ?_
    refine r_aload_n (pc := 21) dX0_more_21 rfl ?_
    refine r_get1 (pc := 22) 0 1 15 dX0_more_22 (fl_RX0_15 rfl) (by decide) rfl (c0_o hc) (c0_p1 hc) ?_
    refine r_aload_n (pc := 25) dX0_more_25 rfl ?_
    refine r_getIv (pc := 26) 0 2 18 dX0_more_26 (fl_RX0_18 rfl) (by decide) rfl (c0_o hc) (v := nI sz) ((up2_rd (by omega)).trans (hs)) ?_
    refine r_iload_n (pc := 29) dX0_more_29 rfl ?_
    refine r_iast_n (pc := 30) (i := sz) (v := b) dX0_more_30 (c0_a1 hc) (by decide) (by omega) ?_
    refine r_aload_n (pc := 31) dX0_more_31 rfl ?_
    refine r_dup (pc := 32) dX0_more_32 rfl ?_
    refine r_getIv (pc := 33) 0 3 22 dX0_more_33 (fl_RX0_22 rfl) (by decide) rfl (c0_o hc) (v := I c 3) ((up2_rd (by omega)).trans ((up2_rd (by omega)).trans (rfl))) ?_
    refine r_iload_n (pc := 36) dX0_more_36 rfl ?_
    refine r_iadd (pc := 37) (x := I c 3) (z := b) dX0_more_37 ?_
    refine r_putI (pc := 38) (v := (I c 3) + b) 0 3 22 dX0_more_38 (fl_RX0_22 rfl) (by decide) rfl rfl (c0_o hc) ?_
    refine r_aload_n (pc := 41) dX0_more_41 rfl ?_
    refine r_dup (pc := 42) dX0_more_42 rfl ?_
    refine r_getIv (pc := 43) 0 2 18 dX0_more_43 (fl_RX0_18 rfl) (by decide) rfl (c0_o hc) (v := nI sz) ((up2_rd (by omega)).trans ((up2_rd (by omega)).trans ((up2_rd (by omega)).trans (hs)))) ?_
    refine r_iconst (pc := 46) (v := 1) dX0_more_46 (by decide) ?_
    refine r_iadd_n (pc := 47) (a := sz) (b := 1) dX0_more_47 ?_
    refine r_putI (pc := 48) (v := nI (sz + 1)) 0 2 18 dX0_more_48 (fl_RX0_18 rfl) (by decide) rfl rfl (c0_o hc) ?_
    refine r_aload_n (pc := 51) dX0_more_51 rfl ?_
    refine r_getIv (pc := 52) 0 2 18 dX0_more_52 (fl_RX0_18 rfl) (by decide) rfl (c0_o hc) (v := nI (sz + 1)) (up2_at) ?_
    refine r_ret_i (pc := 55) dX0_more_55 rfl ?_
    exact ⟨_, _, rfl, rfl, Or.inr ⟨by omega, rfl, rfl⟩⟩
  · skip
    refine r_iconst (pc := 9) (v := -1) dX0_more_9 (by decide) ?_
    refine r_ret_i (pc := 10) dX0_more_10 rfl ?_
    exact ⟨_, _, rfl, rfl, Or.inl ⟨by omega, rfl, rfl⟩⟩
