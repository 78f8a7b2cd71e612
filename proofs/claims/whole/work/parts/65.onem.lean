/-! ===== the reference: chances ===== -/
def ChM (I : Im) (m sz : Nat) (cw cg : Nat → Nat) : Prop := I m 37 = nI sz ∧ sz ≤ 12 ∧ (∀ k, k < sz → I (m + 23) k = nI (cw k) ∧ I (m + 24) k = nI (cg k)) ∧ ∀ k, cw k ≤ 60
def waA (cg : Nat → Nat) (sz : Nat) : Int32 := sm (fun k => nI (cg k)) sz
def laA (cw cg : Nat → Nat) (sz q : Nat) : Int32 := sm (fun k => nI (cg k) * nI (q - cw k)) sz
def exA (cw cg : Nat → Nat) (sz : Nat) (p co bk : Int32) (q : Nat) : Int32 := p * (nI q * waA cg sz - laA cw cg sz q) + bk * laA cw cg sz q - co * nI q * waA cg sz
def stA2 (cw cg : Nat → Nat) (sz : Nat) (p co bk : Int32) : Nat := bsF (exA cw cg sz p co bk) 60
def seA (cw cg : Nat → Nat) (sz : Nat) (p co m bk : Int32) : Int32 := (co - m) * nI (stA2 cw cg sz p co bk) * waA cg sz - bk * laA cw cg sz (stA2 cw cg sz p co bk)
theorem mn_eq {w q : Nat} (hw : w < 2 ^ 31) (hq : q < 2 ^ 31) : (if nI w < nI q then nI w else nI q) = nI q - nI (q - w) := by
  by_cases c : w < q
  · rw [if_pos (nI_lt c hq), pk_sub (by omega), show q - (q - w) = w by omega]
  · rw [if_neg (fun z => c ((nI_ltI hw hq).mp z)), show q - w = 0 by omega, nI_0, Int32.sub_zero]
theorem mx_eq {w q : Nat} (hw : w ≤ 60) (hq : q ≤ 60) : (if 0 < nI q - nI w then nI q - nI w else 0) = nI (q - w) := by
  have e : (nI q - nI w).toInt = (q : Int) - w := pk_sub_toInt (by omega) (by omega)
  by_cases c : w < q
  · rw [if_pos (by rw [Int32.lt_iff_toInt_lt, e]; show (0 : Int) < _; omega), pk_sub (by omega)]
  · rw [if_neg (by rw [Int32.lt_iff_toInt_lt, e]; show ¬ (0 : Int) < _; omega), show q - w = 0 by omega, nI_0]
/-- one chance, as the reference reckons it -/
def exG (cw cg : Nat → Nat) (p co bk : Int32) (q k : Nat) : Int32 := nI (cg k) * (p * (if nI (cw k) < nI q then nI (cw k) else nI q) + bk * (nI q - (if nI (cw k) < nI q then nI (cw k) else nI q)) - co * nI q)
def seG (cw cg : Nat → Nat) (co m bk : Int32) (q k : Nat) : Int32 := nI (cg k) * ((co - m) * nI q - bk * (nI q - (if nI (cw k) < nI q then nI (cw k) else nI q)))
theorem exG_sum {cw cg : Nat → Nat} {p co bk : Int32} {q : Nat} (hw : ∀ k, cw k ≤ 60) (hq : q ≤ 60) : ∀ sz, sm (exG cw cg p co bk q) sz = exA cw cg sz p co bk q
  | 0 => by
    show (0 : Int32) = p * (nI q * 0 - 0) + bk * 0 - co * nI q * 0
    grind
  | sz + 1 => by
    show sm (exG cw cg p co bk q) sz + exG cw cg p co bk q sz = p * (nI q * (waA cg sz + nI (cg sz)) - (laA cw cg sz q + nI (cg sz) * nI (q - cw sz))) + bk * (laA cw cg sz q + nI (cg sz) * nI (q - cw sz)) - co * nI q * (waA cg sz + nI (cg sz))
    have := hw sz
    rw [exG_sum hw hq sz]
    unfold exG exA
    rw [mn_eq (by omega) (by omega)]
    grind
theorem seG_sum {cw cg : Nat → Nat} {co m bk : Int32} {q : Nat} (hw : ∀ k, cw k ≤ 60) (hq : q ≤ 60) : ∀ sz, sm (seG cw cg co m bk q) sz = (co - m) * nI q * waA cg sz - bk * laA cw cg sz q
  | 0 => by
    show (0 : Int32) = (co - m) * nI q * 0 - bk * 0
    grind
  | sz + 1 => by
    show sm (seG cw cg co m bk q) sz + seG cw cg co m bk q sz = (co - m) * nI q * (waA cg sz + nI (cg sz)) - bk * (laA cw cg sz q + nI (cg sz) * nI (q - cw sz))
    have := hw sz
    rw [seG_sum hw hq sz]
    unfold seG
    rw [mn_eq (by omega) (by omega)]
    grind

set_option maxRecDepth 100000 in
theorem expectedM_ct {d : Nat} {I : Im} {G : Gm} {m sz : Nat} {cw cg : Nat → Nat} (hm : isC10 G m) (hC : ChM I m sz cw cg) {p co bk : Int32} {q : Nat} (hq : q ≤ 60) : Ct (d + 1) 0 0 YX10_expected [.ref m, .int p, .int co, .int bk, .int (nI q)] (I, G) (qP (exA cw cg sz p co bk q) (I, G)) := by
  refine Ct.of (by decide) (by simp [Value.category]) (Nat.le_of_ble_eq_true rfl) ?_
  have hsz := hC.2.1
  show wp _ _ _ _ 0 [some (.ref m), some (.int p), some (.int co), some (.int bk), some (.int (nI q)), none, none, none] [] _ _
  refine r_iconst (pc := 0) (v := 0) dX10_expected_0 (by decide) ?_
  refine r_istore (pc := 1) (L' := [some (.ref m), some (.int p), some (.int co), some (.int bk), some (.int (nI q)), some (.int (nI 0)), none, none]) dX10_expected_1 (by decide) rfl rfl ?_
  refine r_iconst (pc := 3) (v := 0) dX10_expected_3 (by decide) ?_
  refine r_istore (pc := 4) (L' := [some (.ref m), some (.int p), some (.int co), some (.int bk), some (.int (nI q)), some (.int (nI 0)), some (.int (nI 0)), none]) dX10_expected_4 (by decide) rfl rfl ?_
  have lp6 : ∀ (n6 : Nat), ∀ (k : Nat) (s : Int32), sz - k = n6 → (k ≤ sz) → (s = sm (exG cw cg p co bk q) k) → wp (d + 1) 0 0 YX10_expected 6 [some (.ref m), some (.int p), some (.int co), some (.int bk), some (.int (nI q)), some (.int s), some (.int (nI k)), none] [] (I, G) (qP (exA cw cg sz p co bk q) (I, G)) := by
    intro n6
    induction n6 using Nat.strongRecOn with
    | ind n6 ih6 =>
      intro k s hmu6 hk hs
      refine r_iload (pc := 6) dX10_expected_6 rfl ?_
      refine r_aload_n (pc := 8) dX10_expected_8 rfl ?_
      refine r_getIv (pc := 9) 10 37 296 dX10_expected_9 (fl_RX10_296 rfl) (by decide) rfl (c10_o hm) (v := nI sz) (hC.1) ?_
      refine r_icmp_ge_n (pc := 12) (a := k) (b := sz) (tgt := 65) dX10_expected_12 (by decide) (by omega) (by omega) (fun c12 => ?_) (fun c12 => ?_)
      · skip
        refine r_iload (pc := 65) dX10_expected_65 rfl ?_
        refine r_ret_i (pc := 67) dX10_expected_67 rfl ?_
        exact ⟨by rw [hs, show k = sz by omega, exG_sum hC.2.2.2 hq], rfl⟩
      · skip
        refine r_iload (pc := 15) dX10_expected_15 rfl ?_
        refine r_aload_n (pc := 17) dX10_expected_17 rfl ?_
        refine r_get1 (pc := 18) 10 35 78 dX10_expected_18 (fl_RX10_78 rfl) (by decide) rfl (c10_o hm) (c10_p35 hm) ?_
        refine r_iload (pc := 21) dX10_expected_21 rfl ?_
        refine r_iald_n (pc := 23) (i := k) dX10_expected_23 (c10_a35 hm) (by decide) (by omega) (v := nI (cw k)) ((hC.2.2.1 _ (by omega)).1) ?_
        refine r_min (pc := 24) (x := nI q) (z := nI (cw k)) 291 dX10_expected_24 (mm_RX10_291 rfl) mt_min_s mt_i mt_min_c (Nat.le_of_ble_eq_true rfl) ?_
        refine r_istore (pc := 27) (L' := [some (.ref m), some (.int p), some (.int co), some (.int bk), some (.int (nI q)), some (.int s), some (.int (nI k)), some (.int (if nI (cw k) < nI q then nI (cw k) else nI q))]) dX10_expected_27 (by decide) rfl rfl ?_
        refine r_iload (pc := 29) dX10_expected_29 rfl ?_
        refine r_aload_n (pc := 31) dX10_expected_31 rfl ?_
        refine r_get1 (pc := 32) 10 36 81 dX10_expected_32 (fl_RX10_81 rfl) (by decide) rfl (c10_o hm) (c10_p36 hm) ?_
        refine r_iload (pc := 35) dX10_expected_35 rfl ?_
        refine r_iald_n (pc := 37) (i := k) dX10_expected_37 (c10_a36 hm) (by decide) (by omega) (v := nI (cg k)) ((hC.2.2.1 _ (by omega)).2) ?_
        refine r_iload_n (pc := 38) dX10_expected_38 rfl ?_
        refine r_iload (pc := 39) dX10_expected_39 rfl ?_
        refine r_imul (pc := 41) (x := p) (z := if nI (cw k) < nI q then nI (cw k) else nI q) dX10_expected_41 ?_
        refine r_iload_n (pc := 42) dX10_expected_42 rfl ?_
        refine r_iload (pc := 43) dX10_expected_43 rfl ?_
        refine r_iload (pc := 45) dX10_expected_45 rfl ?_
        refine r_isub (pc := 47) (x := nI q) (z := if nI (cw k) < nI q then nI (cw k) else nI q) dX10_expected_47 ?_
        refine r_imul (pc := 48) (x := bk) (z := (nI q) - (if nI (cw k) < nI q then nI (cw k) else nI q)) dX10_expected_48 ?_
        refine r_iadd (pc := 49) (x := p * (if nI (cw k) < nI q then nI (cw k) else nI q)) (z := bk * ((nI q) - (if nI (cw k) < nI q then nI (cw k) else nI q))) dX10_expected_49 ?_
        refine r_iload_n (pc := 50) dX10_expected_50 rfl ?_
        refine r_iload (pc := 51) dX10_expected_51 rfl ?_
        refine r_imul (pc := 53) (x := co) (z := nI q) dX10_expected_53 ?_
        refine r_isub (pc := 54) (x := (p * (if nI (cw k) < nI q then nI (cw k) else nI q)) + (bk * ((nI q) - (if nI (cw k) < nI q then nI (cw k) else nI q)))) (z := co * (nI q)) dX10_expected_54 ?_
        refine r_imul (pc := 55) (x := nI (cg k)) (z := ((p * (if nI (cw k) < nI q then nI (cw k) else nI q)) + (bk * ((nI q) - (if nI (cw k) < nI q then nI (cw k) else nI q)))) - (co * (nI q))) dX10_expected_55 ?_
        refine r_iadd (pc := 56) (x := s) (z := (nI (cg k)) * (((p * (if nI (cw k) < nI q then nI (cw k) else nI q)) + (bk * ((nI q) - (if nI (cw k) < nI q then nI (cw k) else nI q)))) - (co * (nI q)))) dX10_expected_56 ?_
        refine r_istore (pc := 57) (L' := [some (.ref m), some (.int p), some (.int co), some (.int bk), some (.int (nI q)), some (.int (s + ((nI (cg k)) * (((p * (if nI (cw k) < nI q then nI (cw k) else nI q)) + (bk * ((nI q) - (if nI (cw k) < nI q then nI (cw k) else nI q)))) - (co * (nI q)))))), some (.int (nI k)), some (.int (if nI (cw k) < nI q then nI (cw k) else nI q))]) dX10_expected_57 (by decide) rfl rfl ?_
        refine r_iinc (pc := 59) (v := nI (k + 1)) (L' := [some (.ref m), some (.int p), some (.int co), some (.int bk), some (.int (nI q)), some (.int (s + ((nI (cg k)) * (((p * (if nI (cw k) < nI q then nI (cw k) else nI q)) + (bk * ((nI q) - (if nI (cw k) < nI q then nI (cw k) else nI q)))) - (co * (nI q)))))), some (.int (nI (k + 1))), some (.int (if nI (cw k) < nI q then nI (cw k) else nI q))]) dX10_expected_59 rfl (nI_inc _) (by decide) rfl rfl ?_
        refine r_goto (pc := 62) (tgt := 6) dX10_expected_62 (by decide) ?_
        refine wp_sub [some (.ref m), some (.int p), some (.int co), some (.int bk), some (.int (nI q)), some (.int (s + ((nI (cg k)) * (((p * (if nI (cw k) < nI q then nI (cw k) else nI q)) + (bk * ((nI q) - (if nI (cw k) < nI q then nI (cw k) else nI q)))) - (co * (nI q)))))), some (.int (nI (k + 1))), none] ⟨rfl, ⟨rfl, ⟨rfl, ⟨rfl, ⟨rfl, ⟨rfl, ⟨rfl, trivial⟩⟩⟩⟩⟩⟩⟩ ?_
        exact ih6 _ (by omega) (k + 1) (s + ((nI (cg k)) * (((p * (if nI (cw k) < nI q then nI (cw k) else nI q)) + (bk * ((nI q) - (if nI (cw k) < nI q then nI (cw k) else nI q)))) - (co * (nI q))))) rfl (by omega) (by rw [hs]; rfl)
  exact lp6 _ 0 (nI 0) rfl (by omega) (by rfl)

set_option maxRecDepth 100000 in
theorem bestStockM_ct {d : Nat} {I : Im} {G : Gm} {m sz : Nat} {cw cg : Nat → Nat} (hm : isC10 G m) (hC : ChM I m sz cw cg) {p co bk : Int32} : Ct (d + 2) 0 0 YX10_bestStock [.ref m, .int p, .int co, .int bk] (I, G) (qP (nI (stA2 cw cg sz p co bk)) (I, G)) := by
  refine Ct.of (by decide) (by simp [Value.category]) (Nat.le_of_ble_eq_true rfl) ?_
  have hsz := hC.2.1
  show wp _ _ _ _ 0 [some (.ref m), some (.int p), some (.int co), some (.int bk), none, none] [] _ _
  refine r_iconst (pc := 0) (v := 0) dX10_bestStock_0 (by decide) ?_
  refine r_istore (pc := 1) (L' := [some (.ref m), some (.int p), some (.int co), some (.int bk), some (.int (nI 0)), none]) dX10_bestStock_1 (by decide) rfl rfl ?_
  refine r_iconst (pc := 3) (v := 1) dX10_bestStock_3 (by decide) ?_
  refine r_istore (pc := 4) (L' := [some (.ref m), some (.int p), some (.int co), some (.int bk), some (.int (nI 0)), some (.int (nI 1))]) dX10_bestStock_4 (by decide) rfl rfl ?_
  have lp6 : ∀ (n6 : Nat), ∀ (q : Nat) (be : Nat), 61 - q = n6 → (1 ≤ q ∧ q ≤ 61) → (be = bsF (exA cw cg sz p co bk) (q - 1)) → wp (d + 2) 0 0 YX10_bestStock 6 [some (.ref m), some (.int p), some (.int co), some (.int bk), some (.int (nI be)), some (.int (nI q))] [] (I, G) (qP (nI (stA2 cw cg sz p co bk)) (I, G)) := by
    intro n6
    induction n6 using Nat.strongRecOn with
    | ind n6 ih6 =>
      intro q be hmu6 hq hbe
      refine r_iload (pc := 6) dX10_bestStock_6 rfl ?_
      refine r_bipush (pc := 8) (v := 60) dX10_bestStock_8 (by decide) ?_
      refine r_icmp_gt_n (pc := 10) (a := q) (b := 60) (tgt := 44) dX10_bestStock_10 (by decide) (by omega) (by omega) (fun c10 => ?_) (fun c10 => ?_)
      · skip
        refine r_iload (pc := 44) dX10_bestStock_44 rfl ?_
        refine r_ret_i (pc := 46) dX10_bestStock_46 rfl ?_
        exact ⟨by rw [hbe, show q - 1 = 60 by omega]; rfl, rfl⟩
      · skip
        obtain ⟨q0, hq0⟩ : ∃ q0, q = q0 + 1 := ⟨q - 1, by omega⟩
        have hbu : bsF (exA cw cg sz p co bk) (q + 1 - 1) = if (exA cw cg sz p co bk) be < (exA cw cg sz p co bk) q then q else be := by rw [hbe, hq0]; rfl
        refine r_aload_n (pc := 13) dX10_bestStock_13 rfl ?_
        refine r_iload_n (pc := 14) dX10_bestStock_14 rfl ?_
        refine r_iload_n (pc := 15) dX10_bestStock_15 rfl ?_
        refine r_iload_n (pc := 16) dX10_bestStock_16 rfl ?_
        refine r_iload (pc := 17) dX10_bestStock_17 rfl ?_
        refine r_callV_P (pc := 19) (b := m) (As := [.int p, .int co, .int bk, .int (nI q)]) 10 302 dX10_bestStock_19 lk_X10_expected (ml_RX10_302 rfl) im_X10_expected se_X10_expected (by decide) (c10_o hm) (Nat.le_of_ble_eq_true rfl) rfl (expectedM_ct hm hC (by first | omega | (have := bsF_le (exA cw cg sz p co bk) (q - 1); omega))) ?_
        refine r_aload_n (pc := 22) dX10_bestStock_22 rfl ?_
        refine r_iload_n (pc := 23) dX10_bestStock_23 rfl ?_
        refine r_iload_n (pc := 24) dX10_bestStock_24 rfl ?_
        refine r_iload_n (pc := 25) dX10_bestStock_25 rfl ?_
        refine r_iload (pc := 26) dX10_bestStock_26 rfl ?_
        refine r_callV_P (pc := 28) (b := m) (As := [.int p, .int co, .int bk, .int (nI be)]) 10 302 dX10_bestStock_28 lk_X10_expected (ml_RX10_302 rfl) im_X10_expected se_X10_expected (by decide) (c10_o hm) (Nat.le_of_ble_eq_true rfl) rfl (expectedM_ct hm hC (by first | omega | (have := bsF_le (exA cw cg sz p co bk) (q - 1); omega))) ?_
        refine r_icmp_le (pc := 31) (x := exA cw cg sz p co bk q) (z := exA cw cg sz p co bk be) (tgt := 38) dX10_bestStock_31 (by decide) (fun c31 => ?_) (fun c31 => ?_)
        · skip
          have hb2 : be = bsF (exA cw cg sz p co bk) (q + 1 - 1) := by rw [hbu, if_neg (Int32.not_lt.mpr c31)]
          refine r_iinc (pc := 38) (v := nI (q + 1)) (L' := [some (.ref m), some (.int p), some (.int co), some (.int bk), some (.int (nI be)), some (.int (nI (q + 1)))]) dX10_bestStock_38 rfl (nI_inc _) (by decide) rfl rfl ?_
          refine r_goto (pc := 41) (tgt := 6) dX10_bestStock_41 (by decide) ?_
          exact ih6 _ (by omega) (q + 1) be rfl (by omega) (by first | exact hb1 | exact hb2)
        · skip
          have hb1 : q = bsF (exA cw cg sz p co bk) (q + 1 - 1) := by rw [hbu, if_pos (Int32.not_le.mp c31)]
          refine r_iload (pc := 34) dX10_bestStock_34 rfl ?_
          refine r_istore (pc := 36) (L' := [some (.ref m), some (.int p), some (.int co), some (.int bk), some (.int (nI q)), some (.int (nI q))]) dX10_bestStock_36 (by decide) rfl rfl ?_
          refine r_iinc (pc := 38) (v := nI (q + 1)) (L' := [some (.ref m), some (.int p), some (.int co), some (.int bk), some (.int (nI q)), some (.int (nI (q + 1)))]) dX10_bestStock_38 rfl (nI_inc _) (by decide) rfl rfl ?_
          refine r_goto (pc := 41) (tgt := 6) dX10_bestStock_41 (by decide) ?_
          exact ih6 _ (by omega) (q + 1) q rfl (by omega) (by first | exact hb1 | exact hb2)
  exact lp6 _ 1 0 rfl (by omega) (by rfl)

set_option maxRecDepth 100000 in
theorem sellerExpectsM_ct {d : Nat} {I : Im} {G : Gm} {m sz : Nat} {cw cg : Nat → Nat} (hm : isC10 G m) (hC : ChM I m sz cw cg) {p co mm bk : Int32} : Ct (d + 3) 0 0 YX10_sellerExpects [.ref m, .int p, .int co, .int mm, .int bk] (I, G) (qP (seA cw cg sz p co mm bk) (I, G)) := by
  refine Ct.of (by decide) (by simp [Value.category]) (Nat.le_of_ble_eq_true rfl) ?_
  have hsz := hC.2.1
  show wp _ _ _ _ 0 [some (.ref m), some (.int p), some (.int co), some (.int mm), some (.int bk), none, none, none] [] _ _
  refine r_aload_n (pc := 0) dX10_sellerExpects_0 rfl ?_
  refine r_iload_n (pc := 1) dX10_sellerExpects_1 rfl ?_
  refine r_iload_n (pc := 2) dX10_sellerExpects_2 rfl ?_
  refine r_iload (pc := 3) dX10_sellerExpects_3 rfl ?_
  refine r_callV_P (pc := 5) (b := m) (As := [.int p, .int co, .int bk]) 10 306 dX10_sellerExpects_5 lk_X10_bestStock (ml_RX10_306 rfl) im_X10_bestStock se_X10_bestStock (by decide) (c10_o hm) (Nat.le_of_ble_eq_true rfl) rfl (bestStockM_ct hm hC) ?_
  refine r_istore (pc := 8) (L' := [some (.ref m), some (.int p), some (.int co), some (.int mm), some (.int bk), some (.int (nI (stA2 cw cg sz p co bk))), none, none]) dX10_sellerExpects_8 (by decide) rfl rfl ?_
  refine r_iconst (pc := 10) (v := 0) dX10_sellerExpects_10 (by decide) ?_
  refine r_istore (pc := 11) (L' := [some (.ref m), some (.int p), some (.int co), some (.int mm), some (.int bk), some (.int (nI (stA2 cw cg sz p co bk))), some (.int (nI 0)), none]) dX10_sellerExpects_11 (by decide) rfl rfl ?_
  refine r_iconst (pc := 13) (v := 0) dX10_sellerExpects_13 (by decide) ?_
  refine r_istore (pc := 14) (L' := [some (.ref m), some (.int p), some (.int co), some (.int mm), some (.int bk), some (.int (nI (stA2 cw cg sz p co bk))), some (.int (nI 0)), some (.int (nI 0))]) dX10_sellerExpects_14 (by decide) rfl rfl ?_
  have lp16 : ∀ (n16 : Nat), ∀ (k : Nat) (s : Int32), sz - k = n16 → (k ≤ sz) → (s = sm (seG cw cg co mm bk (stA2 cw cg sz p co bk)) k) → wp (d + 3) 0 0 YX10_sellerExpects 16 [some (.ref m), some (.int p), some (.int co), some (.int mm), some (.int bk), some (.int (nI (stA2 cw cg sz p co bk))), some (.int s), some (.int (nI k))] [] (I, G) (qP (seA cw cg sz p co mm bk) (I, G)) := by
    intro n16
    induction n16 using Nat.strongRecOn with
    | ind n16 ih16 =>
      intro k s hmu16 hk hs
      refine r_iload (pc := 16) dX10_sellerExpects_16 rfl ?_
      refine r_aload_n (pc := 18) dX10_sellerExpects_18 rfl ?_
      refine r_getIv (pc := 19) 10 37 296 dX10_sellerExpects_19 (fl_RX10_296 rfl) (by decide) rfl (c10_o hm) (v := nI sz) (hC.1) ?_
      refine r_icmp_ge_n (pc := 22) (a := k) (b := sz) (tgt := 69) dX10_sellerExpects_22 (by decide) (by omega) (by omega) (fun c22 => ?_) (fun c22 => ?_)
      · skip
        refine r_iload (pc := 69) dX10_sellerExpects_69 rfl ?_
        refine r_ret_i (pc := 71) dX10_sellerExpects_71 rfl ?_
        exact ⟨by rw [hs, show k = sz by omega, seG_sum hC.2.2.2 (show stA2 cw cg sz p co bk ≤ 60 from bsF_le _ 60)]; rfl, rfl⟩
      · skip
        refine r_iload (pc := 25) dX10_sellerExpects_25 rfl ?_
        refine r_aload_n (pc := 27) dX10_sellerExpects_27 rfl ?_
        refine r_get1 (pc := 28) 10 36 81 dX10_sellerExpects_28 (fl_RX10_81 rfl) (by decide) rfl (c10_o hm) (c10_p36 hm) ?_
        refine r_iload (pc := 31) dX10_sellerExpects_31 rfl ?_
        refine r_iald_n (pc := 33) (i := k) dX10_sellerExpects_33 (c10_a36 hm) (by decide) (by omega) (v := nI (cg k)) ((hC.2.2.1 _ (by omega)).2) ?_
        refine r_iload_n (pc := 34) dX10_sellerExpects_34 rfl ?_
        refine r_iload_n (pc := 35) dX10_sellerExpects_35 rfl ?_
        refine r_isub (pc := 36) (x := co) (z := mm) dX10_sellerExpects_36 ?_
        refine r_iload (pc := 37) dX10_sellerExpects_37 rfl ?_
        refine r_imul (pc := 39) (x := co - mm) (z := nI (stA2 cw cg sz p co bk)) dX10_sellerExpects_39 ?_
        refine r_iload (pc := 40) dX10_sellerExpects_40 rfl ?_
        refine r_iload (pc := 42) dX10_sellerExpects_42 rfl ?_
        refine r_iload (pc := 44) dX10_sellerExpects_44 rfl ?_
        refine r_aload_n (pc := 46) dX10_sellerExpects_46 rfl ?_
        refine r_get1 (pc := 47) 10 35 78 dX10_sellerExpects_47 (fl_RX10_78 rfl) (by decide) rfl (c10_o hm) (c10_p35 hm) ?_
        refine r_iload (pc := 50) dX10_sellerExpects_50 rfl ?_
        refine r_iald_n (pc := 52) (i := k) dX10_sellerExpects_52 (c10_a35 hm) (by decide) (by omega) (v := nI (cw k)) ((hC.2.2.1 _ (by omega)).1) ?_
        refine r_min (pc := 53) (x := nI (stA2 cw cg sz p co bk)) (z := nI (cw k)) 291 dX10_sellerExpects_53 (mm_RX10_291 rfl) mt_min_s mt_i mt_min_c (Nat.le_of_ble_eq_true rfl) ?_
        refine r_isub (pc := 56) (x := nI (stA2 cw cg sz p co bk)) (z := if nI (cw k) < nI (stA2 cw cg sz p co bk) then nI (cw k) else nI (stA2 cw cg sz p co bk)) dX10_sellerExpects_56 ?_
        refine r_imul (pc := 57) (x := bk) (z := (nI (stA2 cw cg sz p co bk)) - (if nI (cw k) < nI (stA2 cw cg sz p co bk) then nI (cw k) else nI (stA2 cw cg sz p co bk))) dX10_sellerExpects_57 ?_
        refine r_isub (pc := 58) (x := (co - mm) * (nI (stA2 cw cg sz p co bk))) (z := bk * ((nI (stA2 cw cg sz p co bk)) - (if nI (cw k) < nI (stA2 cw cg sz p co bk) then nI (cw k) else nI (stA2 cw cg sz p co bk)))) dX10_sellerExpects_58 ?_
        refine r_imul (pc := 59) (x := nI (cg k)) (z := ((co - mm) * (nI (stA2 cw cg sz p co bk))) - (bk * ((nI (stA2 cw cg sz p co bk)) - (if nI (cw k) < nI (stA2 cw cg sz p co bk) then nI (cw k) else nI (stA2 cw cg sz p co bk))))) dX10_sellerExpects_59 ?_
        refine r_iadd (pc := 60) (x := s) (z := (nI (cg k)) * (((co - mm) * (nI (stA2 cw cg sz p co bk))) - (bk * ((nI (stA2 cw cg sz p co bk)) - (if nI (cw k) < nI (stA2 cw cg sz p co bk) then nI (cw k) else nI (stA2 cw cg sz p co bk)))))) dX10_sellerExpects_60 ?_
        refine r_istore (pc := 61) (L' := [some (.ref m), some (.int p), some (.int co), some (.int mm), some (.int bk), some (.int (nI (stA2 cw cg sz p co bk))), some (.int (s + ((nI (cg k)) * (((co - mm) * (nI (stA2 cw cg sz p co bk))) - (bk * ((nI (stA2 cw cg sz p co bk)) - (if nI (cw k) < nI (stA2 cw cg sz p co bk) then nI (cw k) else nI (stA2 cw cg sz p co bk)))))))), some (.int (nI k))]) dX10_sellerExpects_61 (by decide) rfl rfl ?_
        refine r_iinc (pc := 63) (v := nI (k + 1)) (L' := [some (.ref m), some (.int p), some (.int co), some (.int mm), some (.int bk), some (.int (nI (stA2 cw cg sz p co bk))), some (.int (s + ((nI (cg k)) * (((co - mm) * (nI (stA2 cw cg sz p co bk))) - (bk * ((nI (stA2 cw cg sz p co bk)) - (if nI (cw k) < nI (stA2 cw cg sz p co bk) then nI (cw k) else nI (stA2 cw cg sz p co bk)))))))), some (.int (nI (k + 1)))]) dX10_sellerExpects_63 rfl (nI_inc _) (by decide) rfl rfl ?_
        refine r_goto (pc := 66) (tgt := 16) dX10_sellerExpects_66 (by decide) ?_
        exact ih16 _ (by omega) (k + 1) (s + ((nI (cg k)) * (((co - mm) * (nI (stA2 cw cg sz p co bk))) - (bk * ((nI (stA2 cw cg sz p co bk)) - (if nI (cw k) < nI (stA2 cw cg sz p co bk) then nI (cw k) else nI (stA2 cw cg sz p co bk))))))) rfl (by omega) (by rw [hs]; rfl)
  exact lp16 _ 0 (nI 0) rfl (by omega) (by rfl)

set_option maxRecDepth 100000 in
theorem isAsked_ct {d : Nat} {I : Im} {G : Gm} {m sz : Nat} {cw cg : Nat → Nat} (hm : isC10 G m) (hC : ChM I m sz cw cg) {p co bk : Int32} : Ct (d + 3) 0 0 YX10_isAsked [.ref m, .int p, .int co, .int bk] (I, G) (qM G (fun v I2 => v = bz ((0 ≤ p ∧ p ≤ 41) ∧ (0 ≤ co ∧ co ≤ 41) ∧ (0 ≤ bk ∧ bk ≤ 41) ∧ 0 < sz) ∧ I2 = up2 I m 0 0)) := by
  refine Ct.of (by decide) (by simp [Value.category]) (Nat.le_of_ble_eq_true rfl) ?_
  have hsz := hC.2.1
  show wp _ _ _ _ 0 [some (.ref m), some (.int p), some (.int co), some (.int bk)] [] _ _
  refine r_aload_n (pc := 0) dX10_isAsked_0 rfl ?_
  refine r_iconst (pc := 1) (v := 0) dX10_isAsked_1 (by decide) ?_
  refine r_putI (pc := 2) (v := nI 0) 10 0 84 dX10_isAsked_2 (fl_RX10_84 rfl) (by decide) rfl rfl (c10_o hm) ?_
  refine r_iload_n (pc := 5) dX10_isAsked_5 rfl ?_
  refine r_callS_P (pc := 6) (As := [.int p]) 172 dX10_isAsked_6 lk_X10_isPrice (ml_RX10_172 rfl) sm_X10_isPrice (Nat.le_of_ble_eq_true rfl) rfl (isPriceM_ct) ?_
  refine r_if_eq_b (pc := 9) (tgt := 37) dX10_isAsked_9 (by decide) (fun c9 => ?_) (fun c9 => ?_)
  · skip
    refine r_iconst (pc := 37) (v := 0) dX10_isAsked_37 (by decide) ?_
    refine r_ret_z (pc := 38) dX10_isAsked_38 rfl (by decide) ?_
    exact ⟨_, _, rfl, rfl, by first | exact bz_t ⟨c9, c16, c23, by omega⟩ | exact bz_f (fun z => c9 z.1) | exact bz_f (fun z => c16 z.2.1) | exact bz_f (fun z => c23 z.2.2.1) | exact bz_f (fun z => absurd z.2.2.2 (by omega)), rfl⟩
  · skip
    refine r_iload_n (pc := 12) dX10_isAsked_12 rfl ?_
    refine r_callS_P (pc := 13) (As := [.int co]) 172 dX10_isAsked_13 lk_X10_isPrice (ml_RX10_172 rfl) sm_X10_isPrice (Nat.le_of_ble_eq_true rfl) rfl (isPriceM_ct) ?_
    refine r_if_eq_b (pc := 16) (tgt := 37) dX10_isAsked_16 (by decide) (fun c16 => ?_) (fun c16 => ?_)
    · skip
      refine r_iconst (pc := 37) (v := 0) dX10_isAsked_37 (by decide) ?_
      refine r_ret_z (pc := 38) dX10_isAsked_38 rfl (by decide) ?_
      exact ⟨_, _, rfl, rfl, by first | exact bz_t ⟨c9, c16, c23, by omega⟩ | exact bz_f (fun z => c9 z.1) | exact bz_f (fun z => c16 z.2.1) | exact bz_f (fun z => c23 z.2.2.1) | exact bz_f (fun z => absurd z.2.2.2 (by omega)), rfl⟩
    · skip
      refine r_iload_n (pc := 19) dX10_isAsked_19 rfl ?_
      refine r_callS_P (pc := 20) (As := [.int bk]) 172 dX10_isAsked_20 lk_X10_isPrice (ml_RX10_172 rfl) sm_X10_isPrice (Nat.le_of_ble_eq_true rfl) rfl (isPriceM_ct) ?_
      refine r_if_eq_b (pc := 23) (tgt := 37) dX10_isAsked_23 (by decide) (fun c23 => ?_) (fun c23 => ?_)
      · skip
        refine r_iconst (pc := 37) (v := 0) dX10_isAsked_37 (by decide) ?_
        refine r_ret_z (pc := 38) dX10_isAsked_38 rfl (by decide) ?_
        exact ⟨_, _, rfl, rfl, by first | exact bz_t ⟨c9, c16, c23, by omega⟩ | exact bz_f (fun z => c9 z.1) | exact bz_f (fun z => c16 z.2.1) | exact bz_f (fun z => c23 z.2.2.1) | exact bz_f (fun z => absurd z.2.2.2 (by omega)), rfl⟩
      · skip
        refine r_aload_n (pc := 26) dX10_isAsked_26 rfl ?_
        refine r_getIv (pc := 27) 10 37 296 dX10_isAsked_27 (fl_RX10_296 rfl) (by decide) rfl (c10_o hm) (v := nI sz) ((up2_rd (by omega)).trans (hC.1)) ?_
        refine r_if_le_n (pc := 30) (a := sz) (tgt := 37) dX10_isAsked_30 (by decide) (by omega) (fun c30 => ?_) (fun c30 => ?_)
        · skip
          refine r_iconst (pc := 37) (v := 0) dX10_isAsked_37 (by decide) ?_
          refine r_ret_z (pc := 38) dX10_isAsked_38 rfl (by decide) ?_
          exact ⟨_, _, rfl, rfl, by first | exact bz_t ⟨c9, c16, c23, by omega⟩ | exact bz_f (fun z => c9 z.1) | exact bz_f (fun z => c16 z.2.1) | exact bz_f (fun z => c23 z.2.2.1) | exact bz_f (fun z => absurd z.2.2.2 (by omega)), rfl⟩
        · skip
          refine r_iconst (pc := 33) (v := 1) dX10_isAsked_33 (by decide) ?_
          refine r_goto (pc := 34) (tgt := 38) dX10_isAsked_34 (by decide) ?_
          refine r_ret_z (pc := 38) dX10_isAsked_38 rfl (by decide) ?_
          exact ⟨_, _, rfl, rfl, by first | exact bz_t ⟨c9, c16, c23, by omega⟩ | exact bz_f (fun z => c9 z.1) | exact bz_f (fun z => c16 z.2.1) | exact bz_f (fun z => c23 z.2.2.1) | exact bz_f (fun z => absurd z.2.2.2 (by omega)), rfl⟩

/-! ===== the reference: houses that are one ===== -/
def OwO (s : Nat → Option Nat) (n : Nat) (P : Nat → Bool) (h r : Nat) (X : Nat → Prop) : Prop := (∀ c, c < 8 → X c → c < n ∧ hdF s P c = hdF s P h) ∧ (∃ x, x < 8 ∧ X x ∧ hdF s P x = hdF s P h ∧ (x = hdF s P h ∨ x + r ≤ h)) ∧ (r = 8 → ∀ c, c < n → hdF s P c = hdF s P h → X c)
def OwI (s : Nat → Option Nat) (n : Nat) (P : Nat → Bool) (h r b : Nat) (X : Nat → Prop) : Prop := (∀ c, c < 8 → X c → c < n ∧ hdF s P c = hdF s P h) ∧ (∃ x, x < 8 ∧ X x ∧ hdF s P x = hdF s P h ∧ ((x = hdF s P h ∨ x + (r + 1) ≤ h) ∨ (x + r ≤ h ∧ b ≤ x))) ∧ (r = 7 → X (hdF s P h) ∧ ∀ c, c < b → c < n → hdF s P c = hdF s P h → X c)
theorem ow_in {s : Nat → Option Nat} {n : Nat} {P : Nat → Bool} {h r : Nat} {X : Nat → Prop} (hs : ∀ b a, s b = some a → a < b) (h8 : h < 8) (H : OwO s n P h r X) : OwI s n P h r 0 X := by
  obtain ⟨x, hx, hX, hxh, hr⟩ := H.2.1
  refine ⟨H.1, ⟨x, hx, hX, hxh, hr.elim (fun e => Or.inl (Or.inl e)) (fun e => Or.inr ⟨e, Nat.zero_le _⟩)⟩, fun e => ⟨?_, fun c hc => absurd hc (Nat.not_lt_zero _)⟩⟩
  rcases hr with hr | hr
  · rw [← hr]
    exact hX
  · have : x = 0 := by omega
    subst this
    rw [← hxh, hdF_none hs (by omega) (show s 0 = none by
      cases hz : s 0 with
      | none => rfl
      | some a => exact absurd (hs 0 a hz) (Nat.not_lt_zero _))]
    exact hX
theorem ow_out {s : Nat → Option Nat} {n : Nat} {P : Nat → Bool} {h r : Nat} {X : Nat → Prop} (H : OwI s n P h r n X) : OwO s n P h (r + 1) X := by
  obtain ⟨x, hx, hX, hxh, hr⟩ := H.2.1
  refine ⟨H.1, ⟨x, hx, hX, hxh, ?_⟩, fun e c hc hh => (H.2.2 (by omega)).2 c hc hc hh⟩
  rcases hr with hr | ⟨_, hr⟩
  · exact hr
  · have := H.1 x hx hX
    omega
theorem ow_skip {s : Nat → Option Nat} {n : Nat} {P : Nat → Bool} {h r b : Nat} {X : Nat → Prop} (hs : ∀ b a, s b = some a → a < b) (hb : b < 8) (H : OwI s n P h r b X) (hk : ∀ a, s b = some a → P b = true → ¬ X a ∧ ¬ X b) : OwI s n P h r (b + 1) X := by
  obtain ⟨x, hx, hX, hxh, hr⟩ := H.2.1
  refine ⟨H.1, ⟨x, hx, hX, hxh, ?_⟩, fun e => ⟨(H.2.2 e).1, fun c hc hn hh => ?_⟩⟩
  · rcases hr with hr | ⟨h1, h2⟩
    · exact Or.inl hr
    · by_cases e : x = b
      · subst e
        left; left
        rw [← hxh]
        cases hz : s x with
        | none => exact (hdF_none hs hx hz).symm
        | some a =>
          by_cases hp : P x = true
          · exact absurd hX (hk a hz hp).2
          · exact (hdF_out hs hx hp).symm
      · exact Or.inr ⟨h1, by omega⟩
  · by_cases e2 : c = b
    · subst e2
      cases hz : s c with
      | none =>
        have := hdF_none (P := P) hs hb hz
        rw [← this, hh]
        exact (H.2.2 e).1
      | some a =>
        by_cases hp : P c = true
        · have h1 := hs c a hz
          refine absurd ((H.2.2 e).2 a h1 (by omega) ?_) (hk a hz hp).1
          rw [← hh, hdF_in hs hb hz hp]
        · have := hdF_out hs hb hp
          rw [← this, hh]
          exact (H.2.2 e).1
    · exact (H.2.2 e).2 c (by omega) hn hh
theorem ow_take {s : Nat → Option Nat} {n : Nat} {P : Nat → Bool} {h r b a : Nat} {X Y : Nat → Prop} (hs : ∀ b a, s b = some a → a < b) (hb : b < 8) (hbn : b < n) (H : OwI s n P h r b X) (hz : s b = some a) (hp : P b = true) (hx : X a ∨ X b) (hY : ∀ c, c < 8 → (Y c ↔ X c ∨ c = a ∨ c = b)) : OwI s n P h r (b + 1) Y := by
  have hab := hs b a hz
  have hin := hdF_in hs hb hz hp
  have hh : hdF s P b = hdF s P h := hx.elim (fun z => hin.trans (H.1 a (by omega) z).2) (fun z => (H.1 b hb z).2)
  have hha : hdF s P a = hdF s P h := hin.symm.trans hh
  have hd8 : ∀ c, c < 8 → hdF s P c = hdF s P h → hdF s P h < 8 := fun c hc e => by
    have := hdF_le (P := P) hs c hc
    omega
  refine ⟨fun c hc hc2 => ?_, ?_, fun e => ⟨(hY _ (hd8 b hb hh)).mpr (Or.inl (H.2.2 e).1), fun c hc hn hch => ?_⟩⟩
  · rcases (hY c hc).mp hc2 with z | z | z
    · exact H.1 c hc z
    · subst z
      exact ⟨by omega, hha⟩
    · subst z
      exact ⟨hbn, hh⟩
  · obtain ⟨x, hx8, hX, hxh, hr⟩ := H.2.1
    rcases hr with hr | ⟨h1, h2⟩
    · exact ⟨x, hx8, (hY x hx8).mpr (Or.inl hX), hxh, Or.inl hr⟩
    · by_cases e : x = b
      · exact ⟨a, by omega, (hY a (by omega)).mpr (Or.inr (Or.inl rfl)), hha, Or.inl (Or.inr (by omega))⟩
      · exact ⟨x, hx8, (hY x hx8).mpr (Or.inl hX), hxh, Or.inr ⟨h1, by omega⟩⟩
  · by_cases e2 : c = b
    · exact (hY c (by omega)).mpr (Or.inr (Or.inr e2))
    · exact (hY c (by omega)).mpr (Or.inl ((H.2.2 e).2 c (by omega) hn hch))
theorem and1 (x : Int32) : x &&& 1 = 0 ↔ bt x 0 = false := by
  have h1 : ∀ c, bt 1 c = decide (c = 0) := fun c => by
    rw [show (1 : Int32) = nI 1 from rfl, bt_nI (by omega)]
    cases c with
    | zero => rfl
    | succ c => rw [Nat.testBit_succ]; simp
  constructor
  · intro h
    have := congrArg (fun z => bt z 0) h
    simp only [bt_and, h1, bt_zero] at this
    simpa using this
  · intro h
    apply bt_ext
    intro c _
    rw [bt_and, h1, bt_zero]
    cases c with
    | zero => rw [h]; rfl
    | succ c => simp
theorem or_and1 {x y : Int32} : (x ||| y) &&& 1 = 0 ↔ x &&& 1 = 0 ∧ y &&& 1 = 0 := by
  rw [and1, and1, and1, bt_or, Bool.or_eq_false_iff]
theorem jn_add {B : Int32} {a b c : Nat} (ha : a < 8) (hb : b < 8) (hc : c < 8) : jn (B ||| (1 <<< (nI a &&& 31) ||| 1 <<< (nI b &&& 31))) (nI c) ↔ jn B (nI c) ∨ c = a ∨ c = b := by
  rw [jn_bt hc, jn_bt hc, bt_or, bt_or, bt_shl ha, bt_shl hb, Bool.or_eq_true, Bool.or_eq_true, decide_eq_true_iff, decide_eq_true_iff]
  constructor
  · rintro (h | h | h)
    · exact Or.inl h
    · exact Or.inr (Or.inl h.symm)
    · exact Or.inr (Or.inr h.symm)
  · rintro (h | h | h)
    · exact Or.inl h
    · exact Or.inr (Or.inl h.symm)
    · exact Or.inr (Or.inr h.symm)
theorem jn_shl {h c : Nat} (hh : h < 8) (hc : c < 8) : jn (1 <<< (nI h &&& 31)) (nI c) ↔ c = h := by
  rw [jn_bt hc, bt_shl hh, decide_eq_true_iff]
  exact ⟨fun z => z.symm, fun z => z.symm⟩

set_option maxRecDepth 100000 in
theorem oneWith_ct {d : Nat} {I : Im} {G : Gm} {m k cn : Nat} {E : Ec} {T : Lt} (hm : isC10 G m) (hk : MtC I m k E T) (hcn : I m 20 = nI cn) (hcn10 : cn ≤ 10) (hkc : k < cn) {set : Int32} {h : Nat} (hh : h < eN E) : Ct (d + 1) 0 0 YX10_oneWith [.ref m, .int (nI k), .int set, .int (nI h)] (I, G) (qM G (fun v I2 => (∀ c, c < 8 → (jn v (nI c) ↔ c < eN E ∧ hdF (eS E) (jP set) c = hdF (eS E) (jP set) h)) ∧ I2 = I)) := by
  refine Ct.of (by decide) (by simp [Value.category]) (Nat.le_of_ble_eq_true rfl) ?_
  have hn8 := hk.2.1
  have hk10 : k ≤ 10 := by omega
  have hSS : ∀ b a, eS E b = some a → a < b := fun b a z => (hk.2.2.2.1 b a z).1
  show wp _ _ _ _ 0 [some (.ref m), some (.int (nI k)), some (.int set), some (.int (nI h)), none, none, none, none] [] _ _
  refine r_iconst (pc := 0) (v := 1) dX10_oneWith_0 (by decide) ?_
  refine r_iload_n (pc := 1) dX10_oneWith_1 rfl ?_
  refine r_ishl (pc := 2) (x := 1) (z := nI h) dX10_oneWith_2 ?_
  refine r_istore (pc := 3) (L' := [some (.ref m), some (.int (nI k)), some (.int set), some (.int (nI h)), some (.int (1 <<< ((nI h) &&& 31))), none, none, none]) dX10_oneWith_3 (by decide) rfl rfl ?_
  refine r_iconst (pc := 5) (v := 0) dX10_oneWith_5 (by decide) ?_
  refine r_istore (pc := 6) (L' := [some (.ref m), some (.int (nI k)), some (.int set), some (.int (nI h)), some (.int (1 <<< ((nI h) &&& 31))), some (.int (nI 0)), none, none]) dX10_oneWith_6 (by decide) rfl rfl ?_
  have lp8 : ∀ (n8 : Nat), ∀ (r : Nat) (B : Int32), 8 - r = n8 → (r ≤ 8) → (OwO (eS E) (eN E) (jP set) h r (fun c => jn B (nI c))) → wp (d + 1) 0 0 YX10_oneWith 8 [some (.ref m), some (.int (nI k)), some (.int set), some (.int (nI h)), some (.int B), some (.int (nI r)), none, none] [] (I, G) (qM G (fun v I2 => (∀ c, c < 8 → (jn v (nI c) ↔ c < eN E ∧ hdF (eS E) (jP set) c = hdF (eS E) (jP set) h)) ∧ I2 = I)) := by
    intro n8
    induction n8 using Nat.strongRecOn with
    | ind n8 ih8 =>
      intro r B hmu8 hr hO
      refine r_iload (pc := 8) dX10_oneWith_8 rfl ?_
      refine r_bipush (pc := 10) (v := 8) dX10_oneWith_10 (by decide) ?_
      refine r_icmp_ge_n (pc := 12) (a := r) (b := 8) (tgt := 103) dX10_oneWith_12 (by decide) (by omega) (by omega) (fun c12 => ?_) (fun c12 => ?_)
      · skip
        refine r_iload (pc := 103) dX10_oneWith_103 rfl ?_
        refine r_ret_i (pc := 105) dX10_oneWith_105 rfl ?_
        obtain rfl : r = 8 := (by omega)
        exact ⟨_, I, rfl, rfl, fun c hc => ⟨fun z => hO.1 c hc z, fun z => hO.2.2 rfl c z.1 z.2⟩, rfl⟩
      · skip
        refine r_iconst (pc := 15) (v := 0) dX10_oneWith_15 (by decide) ?_
        refine r_istore (pc := 16) (L' := [some (.ref m), some (.int (nI k)), some (.int set), some (.int (nI h)), some (.int B), some (.int (nI r)), some (.int (nI 0)), none]) dX10_oneWith_16 (by decide) rfl rfl ?_
        have lp18 : ∀ (n18 : Nat), ∀ (b : Nat) (B2 : Int32), eN E - b = n18 → (b ≤ eN E) → (OwI (eS E) (eN E) (jP set) h r b (fun c => jn B2 (nI c))) → wp (d + 1) 0 0 YX10_oneWith 18 [some (.ref m), some (.int (nI k)), some (.int set), some (.int (nI h)), some (.int B2), some (.int (nI r)), some (.int (nI b)), none] [] (I, G) (qM G (fun v I2 => (∀ c, c < 8 → (jn v (nI c) ↔ c < eN E ∧ hdF (eS E) (jP set) c = hdF (eS E) (jP set) h)) ∧ I2 = I)) := by
          intro n18
          induction n18 using Nat.strongRecOn with
          | ind n18 ih18 =>
            intro b B2 hmu18 hb hI2
            refine r_iload (pc := 18) dX10_oneWith_18 rfl ?_
            refine r_aload_n (pc := 20) dX10_oneWith_20 rfl ?_
            refine r_get1 (pc := 21) 10 6 13 dX10_oneWith_21 (fl_RX10_13 rfl) (by decide) rfl (c10_o hm) (c10_p6 hm) ?_
            refine r_iload_n (pc := 24) dX10_oneWith_24 rfl ?_
            refine r_iald_n (pc := 25) (i := k) dX10_oneWith_25 (c10_a6 hm) (by decide) (by omega) (v := nI (eN E)) (hk.1) ?_
            refine r_icmp_ge_n (pc := 26) (a := b) (b := eN E) (tgt := 97) dX10_oneWith_26 (by decide) (by omega) (by omega) (fun c26 => ?_) (fun c26 => ?_)
            · skip
              have hI9 : OwI (eS E) (eN E) (jP set) h r (eN E) (fun c => jn B2 (nI c)) := (show b = eN E by omega) ▸ hI2
              refine r_iinc (pc := 97) (v := nI (r + 1)) (L' := [some (.ref m), some (.int (nI k)), some (.int set), some (.int (nI h)), some (.int B2), some (.int (nI (r + 1))), some (.int (nI b)), none]) dX10_oneWith_97 rfl (nI_inc _) (by decide) rfl rfl ?_
              refine r_goto (pc := 100) (tgt := 8) dX10_oneWith_100 (by decide) ?_
              refine wp_sub [some (.ref m), some (.int (nI k)), some (.int set), some (.int (nI h)), some (.int B2), some (.int (nI (r + 1))), none, none] ⟨rfl, ⟨rfl, ⟨rfl, ⟨rfl, ⟨rfl, ⟨rfl, trivial⟩⟩⟩⟩⟩⟩ ?_
              exact ih8 _ (by omega) (r + 1) B2 rfl (by omega) (ow_out hI9)
            · skip
              refine r_aload_n (pc := 29) dX10_oneWith_29 rfl ?_
              refine r_get1 (pc := 30) 10 8 20 dX10_oneWith_30 (fl_RX10_20 rfl) (by decide) rfl (c10_o hm) (c10_p8 hm) ?_
              refine r_bipush (pc := 33) (v := 8) dX10_oneWith_33 (by decide) ?_
              refine r_iload_n (pc := 35) dX10_oneWith_35 rfl ?_
              refine r_imul_n (pc := 36) (a := 8) (b := k) dX10_oneWith_36 ?_
              refine r_iload (pc := 37) dX10_oneWith_37 rfl ?_
              refine r_iadd_n (pc := 39) (a := 8 * k) (b := b) dX10_oneWith_39 ?_
              refine r_iald_n (pc := 40) (i := (8 * k) + b) dX10_oneWith_40 (c10_a8 hm) (by decide) (by omega) (v := sI (eS E b)) (hk.2.2.1 _ (by omega)) ?_
              rcases hsr : eS E b with _ | a
              · skip
                show wp _ _ _ _ _ _ [.int (-1)] _ _
                have hnx : OwI (eS E) (eN E) (jP set) h r (b + 1) (fun c => jn B2 (nI c)) := ow_skip hSS (by omega) hI2 (fun a z => by rw [hsr] at z; cases z)
                refine r_istore (pc := 41) (L' := [some (.ref m), some (.int (nI k)), some (.int set), some (.int (nI h)), some (.int B2), some (.int (nI r)), some (.int (nI b)), some (.int (-1))]) dX10_oneWith_41 (by decide) rfl rfl ?_
                refine r_iload (pc := 43) dX10_oneWith_43 rfl ?_
                refine r_iconst (pc := 45) (v := -1) dX10_oneWith_45 (by decide) ?_
                refine r_icmp_eq (pc := 46) (x := (-1)) (z := (-1)) (tgt := 91) dX10_oneWith_46 (by decide) (fun c46 => ?_) (fun c46 => ?_)
                · skip
                  refine r_iinc (pc := 91) (v := nI (b + 1)) (L' := [some (.ref m), some (.int (nI k)), some (.int set), some (.int (nI h)), some (.int B2), some (.int (nI r)), some (.int (nI (b + 1))), some (.int (-1))]) dX10_oneWith_91 rfl (nI_inc _) (by decide) rfl rfl ?_
                  refine r_goto (pc := 94) (tgt := 18) dX10_oneWith_94 (by decide) ?_
                  refine wp_sub [some (.ref m), some (.int (nI k)), some (.int set), some (.int (nI h)), some (.int B2), some (.int (nI r)), some (.int (nI (b + 1))), none] ⟨rfl, ⟨rfl, ⟨rfl, ⟨rfl, ⟨rfl, ⟨rfl, ⟨rfl, trivial⟩⟩⟩⟩⟩⟩⟩ ?_
                  exact ih18 _ (by omega) (b + 1) B2 rfl (by omega) hnx
                · exfalso; exact c46 rfl
              · skip
                show wp _ _ _ _ _ _ [.int (nI a)] _ _
                have hal := hk.2.2.2.1 b a hsr
                refine r_istore (pc := 41) (L' := [some (.ref m), some (.int (nI k)), some (.int set), some (.int (nI h)), some (.int B2), some (.int (nI r)), some (.int (nI b)), some (.int (nI a))]) dX10_oneWith_41 (by decide) rfl rfl ?_
                refine r_iload (pc := 43) dX10_oneWith_43 rfl ?_
                refine r_iconst (pc := 45) (v := -1) dX10_oneWith_45 (by decide) ?_
                refine r_icmp_eq (pc := 46) (x := nI a) (z := (-1)) (tgt := 91) dX10_oneWith_46 (by decide) (fun c46 => ?_) (fun c46 => ?_)
                · exfalso; exact m1_ne (by omega) c46.symm
                · skip
                  refine r_iload_n (pc := 49) dX10_oneWith_49 rfl ?_
                  refine r_iload (pc := 50) dX10_oneWith_50 rfl ?_
                  refine r_ishr (pc := 52) (x := set) (z := nI b) dX10_oneWith_52 ?_
                  refine r_iconst (pc := 53) (v := 1) dX10_oneWith_53 (by decide) ?_
                  refine r_iand (pc := 54) (x := set >>> ((nI b) &&& 31)) (z := 1) dX10_oneWith_54 ?_
                  refine r_if_eq (pc := 55) (x := (set >>> ((nI b) &&& 31)) &&& 1) (tgt := 91) dX10_oneWith_55 (by decide) (fun c55 => ?_) (fun c55 => ?_)
                  · skip
                    have hnx : OwI (eS E) (eN E) (jP set) h r (b + 1) (fun c => jn B2 (nI c)) := ow_skip hSS (by omega) hI2 (fun a _ z => absurd c55 (of_decide_eq_true z))
                    refine r_iinc (pc := 91) (v := nI (b + 1)) (L' := [some (.ref m), some (.int (nI k)), some (.int set), some (.int (nI h)), some (.int B2), some (.int (nI r)), some (.int (nI (b + 1))), some (.int (nI a))]) dX10_oneWith_91 rfl (nI_inc _) (by decide) rfl rfl ?_
                    refine r_goto (pc := 94) (tgt := 18) dX10_oneWith_94 (by decide) ?_
                    refine wp_sub [some (.ref m), some (.int (nI k)), some (.int set), some (.int (nI h)), some (.int B2), some (.int (nI r)), some (.int (nI (b + 1))), none] ⟨rfl, ⟨rfl, ⟨rfl, ⟨rfl, ⟨rfl, ⟨rfl, ⟨rfl, trivial⟩⟩⟩⟩⟩⟩⟩ ?_
                    exact ih18 _ (by omega) (b + 1) B2 rfl (by omega) hnx
                  · skip
                    refine r_iload (pc := 58) dX10_oneWith_58 rfl ?_
                    refine r_iload (pc := 60) dX10_oneWith_60 rfl ?_
                    refine r_ishr (pc := 62) (x := B2) (z := nI a) dX10_oneWith_62 ?_
                    refine r_iload (pc := 63) dX10_oneWith_63 rfl ?_
                    refine r_iload (pc := 65) dX10_oneWith_65 rfl ?_
                    refine r_ishr (pc := 67) (x := B2) (z := nI b) dX10_oneWith_67 ?_
                    refine r_ior (pc := 68) (x := B2 >>> ((nI a) &&& 31)) (z := B2 >>> ((nI b) &&& 31)) dX10_oneWith_68 ?_
                    refine r_iconst (pc := 69) (v := 1) dX10_oneWith_69 (by decide) ?_
                    refine r_iand (pc := 70) (x := (B2 >>> ((nI a) &&& 31)) ||| (B2 >>> ((nI b) &&& 31))) (z := 1) dX10_oneWith_70 ?_
                    refine r_if_ne (pc := 71) (x := ((B2 >>> ((nI a) &&& 31)) ||| (B2 >>> ((nI b) &&& 31))) &&& 1) (tgt := 77) dX10_oneWith_71 (by decide) (fun c71 => ?_) (fun c71 => ?_)
                    · skip
                      have hnx : OwI (eS E) (eN E) (jP set) h r (b + 1) (fun c => jn (B2 ||| (1 <<< (nI a &&& 31) ||| 1 <<< (nI b &&& 31))) (nI c)) := ow_take hSS (by omega) (by omega) hI2 hsr (decide_eq_true c55) (Decidable.byContradiction (fun z => c71 (or_and1.mpr ⟨Decidable.byContradiction (fun y => z (Or.inl y)), Decidable.byContradiction (fun y => z (Or.inr y))⟩))) (fun c hc => jn_add (by omega) (by omega) hc)
                      refine r_iload (pc := 77) dX10_oneWith_77 rfl ?_
                      refine r_iconst (pc := 79) (v := 1) dX10_oneWith_79 (by decide) ?_
                      refine r_iload (pc := 80) dX10_oneWith_80 rfl ?_
                      refine r_ishl (pc := 82) (x := 1) (z := nI a) dX10_oneWith_82 ?_
                      refine r_iconst (pc := 83) (v := 1) dX10_oneWith_83 (by decide) ?_
                      refine r_iload (pc := 84) dX10_oneWith_84 rfl ?_
                      refine r_ishl (pc := 86) (x := 1) (z := nI b) dX10_oneWith_86 ?_
                      refine r_ior (pc := 87) (x := 1 <<< ((nI a) &&& 31)) (z := 1 <<< ((nI b) &&& 31)) dX10_oneWith_87 ?_
                      refine r_ior (pc := 88) (x := B2) (z := (1 <<< ((nI a) &&& 31)) ||| (1 <<< ((nI b) &&& 31))) dX10_oneWith_88 ?_
                      refine r_istore (pc := 89) (L' := [some (.ref m), some (.int (nI k)), some (.int set), some (.int (nI h)), some (.int (B2 ||| ((1 <<< ((nI a) &&& 31)) ||| (1 <<< ((nI b) &&& 31))))), some (.int (nI r)), some (.int (nI b)), some (.int (nI a))]) dX10_oneWith_89 (by decide) rfl rfl ?_
                      refine r_iinc (pc := 91) (v := nI (b + 1)) (L' := [some (.ref m), some (.int (nI k)), some (.int set), some (.int (nI h)), some (.int (B2 ||| ((1 <<< ((nI a) &&& 31)) ||| (1 <<< ((nI b) &&& 31))))), some (.int (nI r)), some (.int (nI (b + 1))), some (.int (nI a))]) dX10_oneWith_91 rfl (nI_inc _) (by decide) rfl rfl ?_
                      refine r_goto (pc := 94) (tgt := 18) dX10_oneWith_94 (by decide) ?_
                      refine wp_sub [some (.ref m), some (.int (nI k)), some (.int set), some (.int (nI h)), some (.int (B2 ||| ((1 <<< ((nI a) &&& 31)) ||| (1 <<< ((nI b) &&& 31))))), some (.int (nI r)), some (.int (nI (b + 1))), none] ⟨rfl, ⟨rfl, ⟨rfl, ⟨rfl, ⟨rfl, ⟨rfl, ⟨rfl, trivial⟩⟩⟩⟩⟩⟩⟩ ?_
                      exact ih18 _ (by omega) (b + 1) (B2 ||| ((1 <<< ((nI a) &&& 31)) ||| (1 <<< ((nI b) &&& 31)))) rfl (by omega) hnx
                    · skip
                      have hnx : OwI (eS E) (eN E) (jP set) h r (b + 1) (fun c => jn B2 (nI c)) := ow_skip hSS (by omega) hI2 (fun a2 z _ => by rw [hsr] at z; cases z; have q := or_and1.mp c71; exact ⟨fun y => y q.1, fun y => y q.2⟩)
                      refine r_goto (pc := 74) (tgt := 91) dX10_oneWith_74 (by decide) ?_
                      refine r_iinc (pc := 91) (v := nI (b + 1)) (L' := [some (.ref m), some (.int (nI k)), some (.int set), some (.int (nI h)), some (.int B2), some (.int (nI r)), some (.int (nI (b + 1))), some (.int (nI a))]) dX10_oneWith_91 rfl (nI_inc _) (by decide) rfl rfl ?_
                      refine r_goto (pc := 94) (tgt := 18) dX10_oneWith_94 (by decide) ?_
                      refine wp_sub [some (.ref m), some (.int (nI k)), some (.int set), some (.int (nI h)), some (.int B2), some (.int (nI r)), some (.int (nI (b + 1))), none] ⟨rfl, ⟨rfl, ⟨rfl, ⟨rfl, ⟨rfl, ⟨rfl, ⟨rfl, trivial⟩⟩⟩⟩⟩⟩⟩ ?_
                      exact ih18 _ (by omega) (b + 1) B2 rfl (by omega) hnx
        exact lp18 _ 0 B rfl (by omega) (ow_in hSS (by omega) hO)
  exact lp8 _ 0 (1 <<< ((nI h) &&& 31)) rfl (by omega) (by exact ⟨fun c hc z => by rw [(jn_shl (by omega) hc).mp z]; exact ⟨hh, rfl⟩, ⟨h, by omega, (jn_shl (by omega) (by omega)).mpr rfl, rfl, Or.inr (by omega)⟩, fun z => by omega⟩)

theorem setJ_b {E : Ec} {j : Int32} (hE : SrC E) (hW : WbC E) : BdM (setJ E j) := bdm (E := setJ E j) hE hW

set_option maxRecDepth 100000 in
theorem earnTogether_ct {d : Nat} {I : Im} {G : Gm} {m k cn : Nat} {E : Ec} {T : Lt} (hm : isC10 G m) (hk : MtC I m k E T) (hcn : I m 20 = nI cn) (hcn10 : cn ≤ 10) (hkc : k < cn) {cb : Nat} (hcb : ∀ b, eC E b ≤ cb) (hcb6 : cb ≤ 60) (hW : WbC E) (ht : TmM I m k E) {set grp : Int32} : Ct (d + 45) 0 0 YX10_earnTogether [.ref m, .int (nI k), .int set, .int grp] (I, G) (qM G (fun v I2 => v = sm (fun x => if jn grp (nI x) then erM (setJ E set) x else 0) (eN E) ∧ FrW I I2 m)) := by
  refine Ct.of (by decide) (by simp [Value.category]) (Nat.le_of_ble_eq_true rfl) ?_
  have hn8 := hk.2.1
  have hk10 : k ≤ 10 := by omega
  have hE : SrC E := ⟨hk.2.1, hk.2.2.2.1⟩
  show wp _ _ _ _ 0 [some (.ref m), some (.int (nI k)), some (.int set), some (.int grp), none, none] [] _ _
  refine r_aload_n (pc := 0) dX10_earnTogether_0 rfl ?_
  refine r_iload_n (pc := 1) dX10_earnTogether_1 rfl ?_
  refine r_iload_n (pc := 2) dX10_earnTogether_2 rfl ?_
  refine r_aload_n (pc := 3) dX10_earnTogether_3 rfl ?_
  refine r_get1 (pc := 4) 10 15 41 dX10_earnTogether_4 (fl_RX10_41 rfl) (by decide) rfl (c10_o hm) (c10_p15 hm) ?_
  refine r_iload_n (pc := 7) dX10_earnTogether_7 rfl ?_
  refine r_iald_n (pc := 8) (i := k) dX10_earnTogether_8 (c10_a15 hm) (by decide) (by omega) (v := nI (eK E)) (ht.2.1) ?_
  refine r_aload_n (pc := 9) dX10_earnTogether_9 rfl ?_
  refine r_get1 (pc := 10) 10 18 50 dX10_earnTogether_10 (fl_RX10_50 rfl) (by decide) rfl (c10_o hm) (c10_p18 hm) ?_
  refine r_iload_n (pc := 13) dX10_earnTogether_13 rfl ?_
  refine r_zald_n (pc := 14) (i := k) dX10_earnTogether_14 (c10_a18 hm) (by decide) (by omega) (v := bz (eA E = true)) (ht.2.2.2.1) ?_
  refine r_aload_n (pc := 15) dX10_earnTogether_15 rfl ?_
  refine r_get1 (pc := 16) 10 19 54 dX10_earnTogether_16 (fl_RX10_54 rfl) (by decide) rfl (c10_o hm) (c10_p19 hm) ?_
  refine r_iload_n (pc := 19) dX10_earnTogether_19 rfl ?_
  refine r_zald_n (pc := 20) (i := k) dX10_earnTogether_20 (c10_a19 hm) (by decide) (by omega) (v := bz (eH E = true)) (ht.2.2.2.2) ?_
  refine r_callV_V (pc := 21) (b := m) (As := [.int (nI k), .int set, .int (nI (eK E)), .int (bz (eA E = true)), .int (bz (eH E = true))]) 10 191 dX10_earnTogether_21 lk_X10_terms (ml_RX10_191 rfl) im_X10_terms se_X10_terms (by decide) (c10_o hm) (Nat.le_of_ble_eq_true rfl) rfl (terms_e (E := setJ E set) hm hk ht.2.2.1 hcn hcn10 hkc) (fun I1 h1 => ?_)
  obtain ⟨hS1, hF1⟩ := h1
  refine r_aload_n (pc := 24) dX10_earnTogether_24 rfl ?_
  refine r_callV_V (pc := 25) (b := m) (As := []) 10 227 dX10_earnTogether_25 lk_X10_layOutcome (ml_RX10_227 rfl) im_X10_layOutcome se_X10_layOutcome (by decide) (c10_o hm) (Nat.le_of_ble_eq_true rfl) rfl (layOutcome_ct (d := d) hm hS1 hcb hcb6 (setJ_b hE hW) hW) (fun I2 h2 => ?_)
  obtain ⟨hK2, hF2, hO2⟩ := h2
  have hS2 := hS1.keepO hF2 hK2
  refine r_iconst (pc := 28) (v := 0) dX10_earnTogether_28 (by decide) ?_
  refine r_istore (pc := 29) (L' := [some (.ref m), some (.int (nI k)), some (.int set), some (.int grp), some (.int (nI 0)), none]) dX10_earnTogether_29 (by decide) rfl rfl ?_
  refine r_iconst (pc := 31) (v := 0) dX10_earnTogether_31 (by decide) ?_
  refine r_istore (pc := 32) (L' := [some (.ref m), some (.int (nI k)), some (.int set), some (.int grp), some (.int (nI 0)), some (.int (nI 0))]) dX10_earnTogether_32 (by decide) rfl rfl ?_
  have lp34 : ∀ (n34 : Nat), ∀ (h : Nat) (s : Int32) (I3 : Im), eN E - h = n34 → (h ≤ eN E) → (s = sm (fun x => if jn grp (nI x) then erM (setJ E set) x else 0) h) → (KV I3 m (setJ E set)) → (FrK I2 I3 m) → wp (d + 45) 0 0 YX10_earnTogether 34 [some (.ref m), some (.int (nI k)), some (.int set), some (.int grp), some (.int s), some (.int (nI h))] [] (I3, G) (qM G (fun v I2 => v = sm (fun x => if jn grp (nI x) then erM (setJ E set) x else 0) (eN E) ∧ FrW I I2 m)) := by
    intro n34
    induction n34 using Nat.strongRecOn with
    | ind n34 ih34 =>
      intro h s I3 hmu34 hh hs hK3 hF3
      have hS3 := hS2.keep hF3 hK3
      have hO3 := hO2.k hF3
      refine r_iload (pc := 34) dX10_earnTogether_34 rfl ?_
      refine r_aload_n (pc := 36) dX10_earnTogether_36 rfl ?_
      refine r_get1 (pc := 37) 10 6 13 dX10_earnTogether_37 (fl_RX10_13 rfl) (by decide) rfl (c10_o hm) (c10_p6 hm) ?_
      refine r_iload_n (pc := 40) dX10_earnTogether_40 rfl ?_
      refine r_iald_n (pc := 41) (i := k) dX10_earnTogether_41 (c10_a6 hm) (by decide) (by omega) (v := nI (eN E)) (hS3.1.1) ?_
      refine r_icmp_ge_n (pc := 42) (a := h) (b := eN E) (tgt := 76) dX10_earnTogether_42 (by decide) (by omega) (by omega) (fun c42 => ?_) (fun c42 => ?_)
      · skip
        refine r_iload (pc := 76) dX10_earnTogether_76 rfl ?_
        refine r_ret_i (pc := 78) dX10_earnTogether_78 rfl ?_
        exact ⟨_, I3, rfl, rfl, by rw [hs, show h = eN E by omega], (hF1.tr hF2.w).tr hF3.w⟩
      · skip
        refine r_iload (pc := 45) dX10_earnTogether_45 rfl ?_
        refine r_iload_n (pc := 47) dX10_earnTogether_47 rfl ?_
        refine r_iload (pc := 48) dX10_earnTogether_48 rfl ?_
        refine r_ishr (pc := 50) (x := grp) (z := nI h) dX10_earnTogether_50 ?_
        refine r_iconst (pc := 51) (v := 1) dX10_earnTogether_51 (by decide) ?_
        refine r_iand (pc := 52) (x := grp >>> ((nI h) &&& 31)) (z := 1) dX10_earnTogether_52 ?_
        refine r_iconst (pc := 53) (v := 1) dX10_earnTogether_53 (by decide) ?_
        refine r_icmp_ne (pc := 54) (x := (grp >>> ((nI h) &&& 31)) &&& 1) (z := 1) (tgt := 66) dX10_earnTogether_54 (by decide) (fun c54 => ?_) (fun c54 => ?_)
        · skip
          have hcase : sm (fun x => if jn grp (nI x) then erM (setJ E set) x else 0) h + nI 0 = sm (fun x => if jn grp (nI x) then erM (setJ E set) x else 0) (h + 1) := congrArg (_ + ·) (if_neg (fun z => c54 ((and_one _).resolve_left z))).symm
          refine r_iconst (pc := 66) (v := 0) dX10_earnTogether_66 (by decide) ?_
          refine r_iadd (pc := 67) (x := s) (z := 0) dX10_earnTogether_67 ?_
          refine r_istore (pc := 68) (L' := [some (.ref m), some (.int (nI k)), some (.int set), some (.int grp), some (.int (s + 0)), some (.int (nI h))]) dX10_earnTogether_68 (by decide) rfl rfl ?_
          refine r_iinc (pc := 70) (v := nI (h + 1)) (L' := [some (.ref m), some (.int (nI k)), some (.int set), some (.int grp), some (.int (s + 0)), some (.int (nI (h + 1)))]) dX10_earnTogether_70 rfl (nI_inc _) (by decide) rfl rfl ?_
          refine r_goto (pc := 73) (tgt := 34) dX10_earnTogether_73 (by decide) ?_
          exact ih34 _ (by omega) (h + 1) (s + 0) I3 rfl (by omega) (by rw [hs]; exact hcase) (by first | exact hK5 | exact hK3) (by first | exact hF3.tr hF5 | exact hF3)
        · skip
          have hcase : sm (fun x => if jn grp (nI x) then erM (setJ E set) x else 0) h + erM (setJ E set) h = sm (fun x => if jn grp (nI x) then erM (setJ E set) x else 0) (h + 1) := congrArg (_ + ·) (if_pos (fun z => absurd (z.symm.trans c54) (by decide))).symm
          refine r_aload_n (pc := 57) dX10_earnTogether_57 rfl ?_
          refine r_iload (pc := 58) dX10_earnTogether_58 rfl ?_
          refine r_callV_M (pc := 60) (b := m) (As := [.int (nI h)]) 10 230 dX10_earnTogether_60 lk_X10_earnsOf (ml_RX10_230 rfl) im_X10_earnsOf se_X10_earnsOf (by decide) (c10_o hm) (Nat.le_of_ble_eq_true rfl) rfl (earnsOf_ct (d := d + 3) hm hS3 hcb hcb6 (setJ_b hE hW) hW hO3 (h := h) (by show h < eN E; omega)) (fun v60 I5 h5 => ?_)
          obtain ⟨rfl, hK5, hF5⟩ := h5
          refine r_goto (pc := 63) (tgt := 67) dX10_earnTogether_63 (by decide) ?_
          refine r_iadd (pc := 67) (x := s) (z := erM (setJ E set) h) dX10_earnTogether_67 ?_
          refine r_istore (pc := 68) (L' := [some (.ref m), some (.int (nI k)), some (.int set), some (.int grp), some (.int (s + (erM (setJ E set) h))), some (.int (nI h))]) dX10_earnTogether_68 (by decide) rfl rfl ?_
          refine r_iinc (pc := 70) (v := nI (h + 1)) (L' := [some (.ref m), some (.int (nI k)), some (.int set), some (.int grp), some (.int (s + (erM (setJ E set) h))), some (.int (nI (h + 1)))]) dX10_earnTogether_70 rfl (nI_inc _) (by decide) rfl rfl ?_
          refine r_goto (pc := 73) (tgt := 34) dX10_earnTogether_73 (by decide) ?_
          exact ih34 _ (by omega) (h + 1) (s + (erM (setJ E set) h)) I5 rfl (by omega) (by rw [hs]; exact hcase) (by first | exact hK5 | exact hK3) (by first | exact hF3.tr hF5 | exact hF3)
  exact lp34 _ 0 (nI 0) I2 rfl (by omega) (by rfl) hK2 FrK.rf

theorem hd_more {s : Nat → Option Nat} {P Q : Nat → Bool} {h a : Nat} (hs : ∀ b a, s b = some a → a < b) (h8 : h < 8) (hz : s h = some a) (hp : ¬ P h = true) (hQ : ∀ c, c < 8 → (Q c = true ↔ P c = true ∨ c = h)) : ∀ c, c < 8 → hdF s Q c = if hdF s P c = h then hdF s P a else hdF s P c := by
  have hah := hs h a hz
  intro c
  induction c using Nat.strongRecOn with
  | ind c ih =>
    intro hc
    by_cases e : c = h
    · subst e
      rw [hdF_out hs hc hp, if_pos rfl, hdF_in hs hc hz ((hQ c hc).mpr (Or.inr rfl)), ih a hah (by omega)]
      have := hdF_le (P := P) hs a (by omega)
      rw [if_neg (by omega)]
    · cases hc2 : s c with
      | none => rw [hdF_none hs hc hc2, hdF_none hs hc hc2, if_neg e]
      | some x =>
        by_cases hpc : P c = true
        · rw [hdF_in hs hc hc2 hpc, hdF_in hs hc hc2 ((hQ c hc).mpr (Or.inl hpc))]
          have := hs c x hc2
          exact ih x this (by omega)
        · rw [hdF_out hs hc hpc, if_neg e, hdF_out hs hc (fun z => ((hQ c hc).mp z).elim hpc e)]
theorem hd_grp {s : Nat → Option Nat} {P Q : Nat → Bool} {h a : Nat} (hs : ∀ b a, s b = some a → a < b) (h8 : h < 8) (hz : s h = some a) (hp : ¬ P h = true) (hQ : ∀ c, c < 8 → (Q c = true ↔ P c = true ∨ c = h)) {c : Nat} (hc : c < 8) : (hdF s P c = hdF s P h ∨ hdF s P c = hdF s P a) ↔ hdF s Q c = hdF s Q h := by
  have hah := hs h a hz
  have := hdF_le (P := P) hs a (by omega)
  rw [hd_more hs h8 hz hp hQ c hc, hd_more hs h8 hz hp hQ h h8, hdF_out hs h8 hp, if_pos rfl]
  by_cases e : hdF s P c = h
  · rw [if_pos e]
    exact ⟨fun _ => rfl, fun _ => Or.inl e⟩
  · rw [if_neg e]
    exact ⟨fun z => z.resolve_left e, Or.inr⟩
/-- what h and those that would be one with it would earn more -/
def rbF (E : Ec) (set : Int32) (h : Nat) : Int32 := btF (eS E) (eN E) (jP (set ||| 1 <<< (nI h &&& 31))) h (erM (setJ E set)) (erM (setJ E (set ||| 1 <<< (nI h &&& 31))))
theorem sm_sub (f g : Nat → Int32) : ∀ n, sm f n - sm g n = sm (fun k => f k - g k) n
  | 0 => by show (0 : Int32) - 0 = 0; grind
  | n + 1 => by
    show sm f n + f n - (sm g n + g n) = sm (fun k => f k - g k) n + (f n - g n)
    rw [← sm_sub f g n]
    grind
theorem rb_sum {E : Ec} {set grp : Int32} {h a : Nat} (hE : SrC E) (hh : h < eN E) (hz : eS E h = some a) (hp : ¬ jn set (nI h)) (hg : ∀ c, c < 8 → (jn grp (nI c) ↔ (c < eN E ∧ hdF (eS E) (jP set) c = hdF (eS E) (jP set) h) ∨ (c < eN E ∧ hdF (eS E) (jP set) c = hdF (eS E) (jP set) a))) :
    sm (fun x => if jn grp (nI x) then erM (setJ E (set ||| 1 <<< (nI h &&& 31))) x else 0) (eN E) - sm (fun x => if jn grp (nI x) then erM (setJ E set) x else 0) (eN E) = rbF E set h := by
  have h8 := hE.1
  have hSS : ∀ b a, eS E b = some a → a < b := fun b a z => (hE.2 b a z).1
  rw [sm_sub]
  unfold rbF btF
  apply sm_congr
  intro c hc
  have hQ : ∀ c, c < 8 → (jP (set ||| 1 <<< (nI h &&& 31)) c = true ↔ jP set c = true ∨ c = h) := fun c hc => by
    show decide _ = true ↔ decide _ = true ∨ _
    rw [decide_eq_true_iff, decide_eq_true_iff, jn_bt hc, jn_bt hc, bt_or, bt_shl (by omega), Bool.or_eq_true, decide_eq_true_iff]
    exact ⟨fun z => z.imp id Eq.symm, fun z => z.imp id Eq.symm⟩
  have q := hd_grp hSS (show h < 8 by omega) hz (fun z => hp (of_decide_eq_true z)) hQ (c := c) (by omega)
  by_cases g : jn grp (nI c)
  · rw [if_pos g, if_pos g, if_pos (q.mp (((hg c (by omega)).mp g).imp (fun z => z.2) (fun z => z.2)))]
  · rw [if_neg g, if_neg g, if_neg (fun z => g ((hg c (by omega)).mpr ((q.mpr z).imp (fun y => ⟨hc, y⟩) (fun y => ⟨hc, y⟩))))]
    rfl
theorem TmM.w {I I2 : Im} {m k : Nat} {E : Ec} (h : TmM I m k E) (hf : FrW I I2 m) : TmM I2 m k E := ⟨(hf _ _ (by omega) (by omega)).trans h.1, (hf _ _ (by omega) (by omega)).trans h.2.1, h.2.2.1, (hf _ _ (by omega) (by omega)).trans h.2.2.2.1, (hf _ _ (by omega) (by omega)).trans h.2.2.2.2⟩
theorem jn_or {x y : Int32} {c : Nat} (hc : c < 8) : jn (x ||| y) (nI c) ↔ jn x (nI c) ∨ jn y (nI c) := by
  rw [jn_bt hc, jn_bt hc, jn_bt hc, bt_or, Bool.or_eq_true]

set_option maxRecDepth 100000 in
theorem ratherBy_ct {d : Nat} {I : Im} {G : Gm} {m k cn : Nat} {E : Ec} {T : Lt} (hm : isC10 G m) (hk : MtC I m k E T) (hcn : I m 20 = nI cn) (hcn10 : cn ≤ 10) (hkc : k < cn) {cb : Nat} (hcb : ∀ b, eC E b ≤ cb) (hcb6 : cb ≤ 60) (hW : WbC E) (ht : TmM I m k E) {set : Int32} {h a : Nat} (hh : h < eN E) (hz : eS E h = some a) (hp : ¬ jn set (nI h)) : Ct (d + 46) 0 0 YX10_ratherBy [.ref m, .int (nI k), .int set, .int (nI h)] (I, G) (qM G (fun v I2 => v = rbF E set h ∧ FrW I I2 m)) := by
  refine Ct.of (by decide) (by simp [Value.category]) (Nat.le_of_ble_eq_true rfl) ?_
  have hn8 := hk.2.1
  have hk10 : k ≤ 10 := by omega
  have hE : SrC E := ⟨hk.2.1, hk.2.2.2.1⟩
  show wp _ _ _ _ 0 [some (.ref m), some (.int (nI k)), some (.int set), some (.int (nI h)), none] [] _ _
  refine r_aload_n (pc := 0) dX10_ratherBy_0 rfl ?_
  refine r_iload_n (pc := 1) dX10_ratherBy_1 rfl ?_
  refine r_iload_n (pc := 2) dX10_ratherBy_2 rfl ?_
  refine r_iload_n (pc := 3) dX10_ratherBy_3 rfl ?_
  refine r_callV_M (pc := 4) (b := m) (As := [.int (nI k), .int set, .int (nI h)]) 10 312 dX10_ratherBy_4 lk_X10_oneWith (ml_RX10_312 rfl) im_X10_oneWith se_X10_oneWith (by decide) (c10_o hm) (Nat.le_of_ble_eq_true rfl) rfl (oneWith_ct hm hk hcn hcn10 hkc hh) (fun v4 I1 h1 => ?_)
  obtain ⟨hg1, rfl⟩ := h1
  refine r_aload_n (pc := 7) dX10_ratherBy_7 rfl ?_
  refine r_iload_n (pc := 8) dX10_ratherBy_8 rfl ?_
  refine r_iload_n (pc := 9) dX10_ratherBy_9 rfl ?_
  refine r_aload_n (pc := 10) dX10_ratherBy_10 rfl ?_
  refine r_get1 (pc := 11) 10 8 20 dX10_ratherBy_11 (fl_RX10_20 rfl) (by decide) rfl (c10_o hm) (c10_p8 hm) ?_
  refine r_bipush (pc := 14) (v := 8) dX10_ratherBy_14 (by decide) ?_
  refine r_iload_n (pc := 16) dX10_ratherBy_16 rfl ?_
  refine r_imul_n (pc := 17) (a := 8) (b := k) dX10_ratherBy_17 ?_
  refine r_iload_n (pc := 18) dX10_ratherBy_18 rfl ?_
  refine r_iadd_n (pc := 19) (a := 8 * k) (b := h) dX10_ratherBy_19 ?_
  refine r_iald_n (pc := 20) (i := (8 * k) + h) dX10_ratherBy_20 (c10_a8 hm) (by decide) (by omega) (v := nI a) ((hk.2.2.1 _ (by omega)).trans (by rw [hz]; rfl)) ?_
  refine r_callV_M (pc := 21) (b := m) (As := [.int (nI k), .int set, .int (nI a)]) 10 312 dX10_ratherBy_21 lk_X10_oneWith (ml_RX10_312 rfl) im_X10_oneWith se_X10_oneWith (by decide) (c10_o hm) (Nat.le_of_ble_eq_true rfl) rfl (oneWith_ct hm hk hcn hcn10 hkc (h := a) (by have := hk.2.2.2.1 h a hz; omega)) (fun v21 I2 h2 => ?_)
  obtain ⟨hg2, rfl⟩ := h2
  refine r_ior (pc := 24) (x := v4) (z := v21) dX10_ratherBy_24 ?_
  refine r_istore (pc := 25) (L' := [some (.ref m), some (.int (nI k)), some (.int set), some (.int (nI h)), some (.int (v4 ||| v21))]) dX10_ratherBy_25 (by decide) rfl rfl ?_
  refine r_aload_n (pc := 27) dX10_ratherBy_27 rfl ?_
  refine r_iload_n (pc := 28) dX10_ratherBy_28 rfl ?_
  refine r_iload_n (pc := 29) dX10_ratherBy_29 rfl ?_
  refine r_iconst (pc := 30) (v := 1) dX10_ratherBy_30 (by decide) ?_
  refine r_iload_n (pc := 31) dX10_ratherBy_31 rfl ?_
  refine r_ishl (pc := 32) (x := 1) (z := nI h) dX10_ratherBy_32 ?_
  refine r_ior (pc := 33) (x := set) (z := 1 <<< ((nI h) &&& 31)) dX10_ratherBy_33 ?_
  refine r_iload (pc := 34) dX10_ratherBy_34 rfl ?_
  refine r_callV_M (pc := 36) (b := m) (As := [.int (nI k), .int (set ||| (1 <<< ((nI h) &&& 31))), .int (v4 ||| v21)]) 10 315 dX10_ratherBy_36 lk_X10_earnTogether (ml_RX10_315 rfl) im_X10_earnTogether se_X10_earnTogether (by decide) (c10_o hm) (Nat.le_of_ble_eq_true rfl) rfl (earnTogether_ct hm hk hcn hcn10 hkc hcb hcb6 hW ht) (fun v36 I3 h3 => ?_)
  obtain ⟨hv3, hF3⟩ := h3
  refine r_aload_n (pc := 39) dX10_ratherBy_39 rfl ?_
  refine r_iload_n (pc := 40) dX10_ratherBy_40 rfl ?_
  refine r_iload_n (pc := 41) dX10_ratherBy_41 rfl ?_
  refine r_iload (pc := 42) dX10_ratherBy_42 rfl ?_
  refine r_callV_M (pc := 44) (b := m) (As := [.int (nI k), .int set, .int (v4 ||| v21)]) 10 315 dX10_ratherBy_44 lk_X10_earnTogether (ml_RX10_315 rfl) im_X10_earnTogether se_X10_earnTogether (by decide) (c10_o hm) (Nat.le_of_ble_eq_true rfl) rfl (earnTogether_ct hm (hk.fw hF3) ((hF3 _ _ (by omega) (by omega)).trans hcn) hcn10 hkc hcb hcb6 hW (ht.w hF3)) (fun v44 I5 h5 => ?_)
  obtain ⟨hv5, hF5⟩ := h5
  refine r_isub (pc := 47) (x := v36) (z := v44) dX10_ratherBy_47 ?_
  refine r_ret_i (pc := 48) dX10_ratherBy_48 rfl ?_
  refine ⟨_, I5, rfl, rfl, ?_, hF3.tr hF5⟩
  rw [hv3, hv5]
  exact rb_sum hE hh hz hp (fun c hc => by rw [jn_or hc, hg1 c hc, hg2 c hc])
