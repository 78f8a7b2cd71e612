/-! ===== the reference: leaves ===== -/
abbrev Lt : Type := Nat × (Nat → Nat) × (Nat → Nat) × (Nat → Nat)
/-- the wants of h at p, out of the lots -/
def wS (T : Lt) (h p : Nat) : Nat → Nat
  | 0 => 0
  | i + 1 => wS T h p i + (if T.2.1 i = h ∧ p ≤ T.2.2.1 i then T.2.2.2 i else 0)
theorem wS_le (T : Lt) (h p : Nat) (hm : ∀ i, i < T.1 → T.2.2.2 i ≤ 30) : ∀ k, k ≤ T.1 → wS T h p k ≤ 30 * k
  | 0, _ => Nat.le_refl _
  | k + 1, hk => by
    unfold wS
    have := wS_le T h p hm k (by omega)
    have := hm k (by omega)
    split <;> omega
theorem wS_41 (T : Lt) (h : Nat) (hp : ∀ i, i < T.1 → T.2.2.1 i ≤ 40) : ∀ k, k ≤ T.1 → wS T h 41 k = 0
  | 0, _ => rfl
  | k + 1, hk => by
    unfold wS
    have := hp k (by omega)
    rw [wS_41 T h hp k (by omega), if_neg (by omega)]
/-- the trade k of the reference is E's, its lots are T -/
def MtC (I : Im) (m k : Nat) (E : Ec) (T : Lt) : Prop := I (m + 2) k = nI (eN E) ∧ eN E ≤ 8 ∧ (∀ b, b < 8 → I (m + 4) (8 * k + b) = sI (eS E b)) ∧ (∀ b a, eS E b = some a → a < b ∧ b < eN E) ∧ (∀ b, b < 8 → I (m + 3) (8 * k + b) = nI (eC E b)) ∧ (∀ b, eC E b ≤ 60) ∧ I (m + 6) k = nI T.1 ∧ T.1 ≤ 20 ∧ (∀ i, i < T.1 → I (m + 7) (20 * k + i) = nI (T.2.1 i) ∧ I (m + 8) (20 * k + i) = nI (T.2.2.1 i) ∧ I (m + 9) (20 * k + i) = nI (T.2.2.2 i) ∧ T.2.1 i < 8 ∧ T.2.2.1 i ≤ 40 ∧ T.2.2.2 i ≤ 30) ∧ (∀ h p, eW E h p = wS T h p T.1)
/-- the terms of the reference are E's, of the trade k -/
def MtT (I : Im) (m k : Nat) (E : Ec) : Prop := I m 21 = nI k ∧ I m 22 = eJ E ∧ I m 23 = nI (eK E) ∧ eK E ≤ 41 ∧ I m 24 = bz (eA E = true) ∧ I m 25 = bz (eH E = true)
theorem MtC.lt {I : Im} {m k : Nat} {E : Ec} {T : Lt} (h : MtC I m k E T) (b : Nat) : ∀ c, eS E b = some c → c < 2 ^ 31 := fun c hc => by
  have := h.2.2.2.1 b c hc
  have := h.2.1
  omega
theorem MtC.w {I : Im} {m k : Nat} {E : Ec} {T : Lt} (h : MtC I m k E T) (x p : Nat) : eW E x p ≤ 600 := by
  rw [h.2.2.2.2.2.2.2.2.2 x p]
  have := wS_le T x p (fun i hi => (h.2.2.2.2.2.2.2.2.1 i hi).2.2.2.2.2) T.1 (Nat.le_refl _)
  have := h.2.2.2.2.2.2.2.1
  omega
theorem MtC.w41 {I : Im} {m k : Nat} {E : Ec} {T : Lt} (h : MtC I m k E T) (x : Nat) : eW E x 41 = 0 := by
  rw [h.2.2.2.2.2.2.2.2.2 x 41]
  exact wS_41 T x (fun i hi => (h.2.2.2.2.2.2.2.2.1 i hi).2.2.2.2.1) T.1 (Nat.le_refl _)

set_option maxRecDepth 100000 in
theorem isIn_ct {d : Nat} {I : Im} {G : Gm} {v lo hi : Int32} : Ct (d + 1) 0 0 YX10_isIn [.int v, .int lo, .int hi] (I, G) (qP (bz (lo ≤ v ∧ v ≤ hi)) (I, G)) := by
  refine Ct.of (by decide) (by simp [Value.category]) (Nat.le_of_ble_eq_true rfl) ?_
  show wp _ _ _ _ 0 [some (.int v), some (.int lo), some (.int hi)] [] _ _
  refine r_iload_n (pc := 0) dX10_isIn_0 rfl ?_
  refine r_iload_n (pc := 1) dX10_isIn_1 rfl ?_
  refine r_icmp_lt (pc := 2) (x := v) (z := lo) (tgt := 14) dX10_isIn_2 (by decide) (fun c2 => ?_) (fun c2 => ?_)
  · skip
    refine r_iconst (pc := 14) (v := 0) dX10_isIn_14 (by decide) ?_
    refine r_ret_z (pc := 15) dX10_isIn_15 rfl (by decide) ?_
    exact ⟨congrArg (fun z => some (Value.int z)) (by first | exact bz_t ⟨Int32.not_lt.mp c2, Int32.not_lt.mp c7⟩ | exact bz_f (fun q => absurd c7 (Int32.not_lt.mpr q.2)) | exact bz_f (fun q => absurd c2 (Int32.not_lt.mpr q.1))), rfl⟩
  · skip
    refine r_iload_n (pc := 5) dX10_isIn_5 rfl ?_
    refine r_iload_n (pc := 6) dX10_isIn_6 rfl ?_
    refine r_icmp_gt (pc := 7) (x := v) (z := hi) (tgt := 14) dX10_isIn_7 (by decide) (fun c7 => ?_) (fun c7 => ?_)
    · skip
      refine r_iconst (pc := 14) (v := 0) dX10_isIn_14 (by decide) ?_
      refine r_ret_z (pc := 15) dX10_isIn_15 rfl (by decide) ?_
      exact ⟨congrArg (fun z => some (Value.int z)) (by first | exact bz_t ⟨Int32.not_lt.mp c2, Int32.not_lt.mp c7⟩ | exact bz_f (fun q => absurd c7 (Int32.not_lt.mpr q.2)) | exact bz_f (fun q => absurd c2 (Int32.not_lt.mpr q.1))), rfl⟩
    · skip
      refine r_iconst (pc := 10) (v := 1) dX10_isIn_10 (by decide) ?_
      refine r_goto (pc := 11) (tgt := 15) dX10_isIn_11 (by decide) ?_
      refine r_ret_z (pc := 15) dX10_isIn_15 rfl (by decide) ?_
      exact ⟨congrArg (fun z => some (Value.int z)) (by first | exact bz_t ⟨Int32.not_lt.mp c2, Int32.not_lt.mp c7⟩ | exact bz_f (fun q => absurd c7 (Int32.not_lt.mpr q.2)) | exact bz_f (fun q => absurd c2 (Int32.not_lt.mpr q.1))), rfl⟩

set_option maxRecDepth 100000 in
theorem isPriceM_ct {d : Nat} {I : Im} {G : Gm} {p : Int32} : Ct (d + 2) 0 0 YX10_isPrice [.int p] (I, G) (qP (bz (0 ≤ p ∧ p ≤ 41)) (I, G)) := by
  refine Ct.of (by decide) (by simp [Value.category]) (Nat.le_of_ble_eq_true rfl) ?_
  show wp _ _ _ _ 0 [some (.int p)] [] _ _
  refine r_iload_n (pc := 0) dX10_isPrice_0 rfl ?_
  refine r_iconst (pc := 1) (v := 0) dX10_isPrice_1 (by decide) ?_
  refine r_bipush (pc := 2) (v := 41) dX10_isPrice_2 (by decide) ?_
  refine r_callS_P (pc := 4) (As := [.int p, .int (nI 0), .int (nI 41)]) 123 dX10_isPrice_4 lk_X10_isIn (ml_RX10_123 rfl) sm_X10_isIn (Nat.le_of_ble_eq_true rfl) rfl (isIn_ct ) ?_
  refine r_ret_z (pc := 7) dX10_isPrice_7 rfl (bz_01 _) ?_
  exact ⟨rfl, rfl⟩

set_option maxRecDepth 100000 in
theorem isTrade_ct {d : Nat} {I : Im} {G : Gm} {m : Nat} (hm : isC10 G m) {t : Int32} : Ct (d + 1) 0 0 YX10_isTrade [.ref m, .int t] (I, G) (qP (bz (0 ≤ t ∧ t < I m 20)) (I, G)) := by
  refine Ct.of (by decide) (by simp [Value.category]) (Nat.le_of_ble_eq_true rfl) ?_
  show wp _ _ _ _ 0 [some (.ref m), some (.int t)] [] _ _
  refine r_iload_n (pc := 0) dX10_isTrade_0 rfl ?_
  refine r_if_lt (pc := 1) (x := t) (tgt := 16) dX10_isTrade_1 (by decide) (fun c1 => ?_) (fun c1 => ?_)
  · skip
    refine r_iconst (pc := 16) (v := 0) dX10_isTrade_16 (by decide) ?_
    refine r_ret_z (pc := 17) dX10_isTrade_17 rfl (by decide) ?_
    exact ⟨congrArg (fun z => some (Value.int z)) (by first | exact bz_t ⟨Int32.not_lt.mp c1, Int32.not_le.mp c9⟩ | exact bz_f (fun q => absurd c9 (Int32.not_le.mpr q.2)) | exact bz_f (fun q => absurd c1 (Int32.not_lt.mpr q.1))), rfl⟩
  · skip
    refine r_iload_n (pc := 4) dX10_isTrade_4 rfl ?_
    refine r_aload_n (pc := 5) dX10_isTrade_5 rfl ?_
    refine r_getI (pc := 6) 10 20 139 dX10_isTrade_6 (fl_RX10_139 rfl) (by decide) rfl (c10_o hm) ?_
    refine r_icmp_ge (pc := 9) (x := t) (z := I m 20) (tgt := 16) dX10_isTrade_9 (by decide) (fun c9 => ?_) (fun c9 => ?_)
    · skip
      refine r_iconst (pc := 16) (v := 0) dX10_isTrade_16 (by decide) ?_
      refine r_ret_z (pc := 17) dX10_isTrade_17 rfl (by decide) ?_
      exact ⟨congrArg (fun z => some (Value.int z)) (by first | exact bz_t ⟨Int32.not_lt.mp c1, Int32.not_le.mp c9⟩ | exact bz_f (fun q => absurd c9 (Int32.not_le.mpr q.2)) | exact bz_f (fun q => absurd c1 (Int32.not_lt.mpr q.1))), rfl⟩
    · skip
      refine r_iconst (pc := 12) (v := 1) dX10_isTrade_12 (by decide) ?_
      refine r_goto (pc := 13) (tgt := 17) dX10_isTrade_13 (by decide) ?_
      refine r_ret_z (pc := 17) dX10_isTrade_17 rfl (by decide) ?_
      exact ⟨congrArg (fun z => some (Value.int z)) (by first | exact bz_t ⟨Int32.not_lt.mp c1, Int32.not_le.mp c9⟩ | exact bz_f (fun q => absurd c9 (Int32.not_le.mpr q.2)) | exact bz_f (fun q => absurd c1 (Int32.not_lt.mpr q.1))), rfl⟩

set_option maxRecDepth 100000 in
theorem costOf_ct {d : Nat} {I : Im} {G : Gm} {m k : Nat} {E : Ec} {T : Lt} (hm : isC10 G m) (hk : MtC I m k E T) (hk10 : k ≤ 10) {b : Nat} (hb : b < 8) : Ct (d + 1) 0 0 YX10_costOf [.ref m, .int (nI k), .int (nI b)] (I, G) (qP (nI (eC E b)) (I, G)) := by
  refine Ct.of (by decide) (by simp [Value.category]) (Nat.le_of_ble_eq_true rfl) ?_
  show wp _ _ _ _ 0 [some (.ref m), some (.int (nI k)), some (.int (nI b))] [] _ _
  refine r_aload_n (pc := 0) dX10_costOf_0 rfl ?_
  refine r_get1 (pc := 1) 10 7 17 dX10_costOf_1 (fl_RX10_17 rfl) (by decide) rfl (c10_o hm) (c10_p7 hm) ?_
  refine r_bipush (pc := 4) (v := 8) dX10_costOf_4 (by decide) ?_
  refine r_iload_n (pc := 6) dX10_costOf_6 rfl ?_
  refine r_imul_n (pc := 7) (a := 8) (b := k) dX10_costOf_7 ?_
  refine r_iload_n (pc := 8) dX10_costOf_8 rfl ?_
  refine r_iadd_n (pc := 9) (a := 8 * k) (b := b) dX10_costOf_9 ?_
  refine r_iald_n (pc := 10) (i := (8 * k) + b) dX10_costOf_10 (c10_a7 hm) (by decide) (by omega) (v := nI (eC E b)) (hk.2.2.2.2.1 _ (by omega)) ?_
  refine r_ret_i (pc := 11) dX10_costOf_11 rfl ?_
  exact ⟨rfl, rfl⟩

set_option maxRecDepth 100000 in
theorem buys_ct {d : Nat} {I : Im} {G : Gm} {m k : Nat} {E : Ec} {T : Lt} (hm : isC10 G m) (hk : MtC I m k E T) (hk10 : k ≤ 10) {a b : Nat} (hb : b < 8) (ha : a < 8) : Ct (d + 1) 0 0 YX10_buys [.ref m, .int (nI k), .int (nI b), .int (nI a)] (I, G) (qP (bz (eS E b = some a)) (I, G)) := by
  refine Ct.of (by decide) (by simp [Value.category]) (Nat.le_of_ble_eq_true rfl) ?_
  show wp _ _ _ _ 0 [some (.ref m), some (.int (nI k)), some (.int (nI b)), some (.int (nI a))] [] _ _
  refine r_aload_n (pc := 0) dX10_buys_0 rfl ?_
  refine r_get1 (pc := 1) 10 8 20 dX10_buys_1 (fl_RX10_20 rfl) (by decide) rfl (c10_o hm) (c10_p8 hm) ?_
  refine r_bipush (pc := 4) (v := 8) dX10_buys_4 (by decide) ?_
  refine r_iload_n (pc := 6) dX10_buys_6 rfl ?_
  refine r_imul_n (pc := 7) (a := 8) (b := k) dX10_buys_7 ?_
  refine r_iload_n (pc := 8) dX10_buys_8 rfl ?_
  refine r_iadd_n (pc := 9) (a := 8 * k) (b := b) dX10_buys_9 ?_
  refine r_iald_n (pc := 10) (i := (8 * k) + b) dX10_buys_10 (c10_a8 hm) (by decide) (by omega) (v := sI (eS E b)) (hk.2.2.1 _ (by omega)) ?_
  refine r_iload_n (pc := 11) dX10_buys_11 rfl ?_
  refine r_icmp_ne (pc := 12) (x := sI (eS E b)) (z := nI a) (tgt := 19) dX10_buys_12 (by decide) (fun c12 => ?_) (fun c12 => ?_)
  · skip
    have hz := bz_f (c := eS E b = some a) (fun q => c12 ((sI_eq (by omega) (hk.lt b)).mpr q))
    refine r_iconst (pc := 19) (v := 0) dX10_buys_19 (by decide) ?_
    refine r_ret_z (pc := 20) dX10_buys_20 rfl (by decide) ?_
    exact ⟨congrArg (fun z => some (Value.int z)) hz, rfl⟩
  · skip
    have hz := bz_t (c := eS E b = some a) ((sI_eq (by omega) (hk.lt b)).mp c12)
    refine r_iconst (pc := 15) (v := 1) dX10_buys_15 (by decide) ?_
    refine r_goto (pc := 16) (tgt := 20) dX10_buys_16 (by decide) ?_
    refine r_ret_z (pc := 20) dX10_buys_20 rfl (by decide) ?_
    exact ⟨congrArg (fun z => some (Value.int z)) hz, rfl⟩

set_option maxRecDepth 100000 in
theorem isMaker_ct {d : Nat} {I : Im} {G : Gm} {m k : Nat} {E : Ec} {T : Lt} (hm : isC10 G m) (hk : MtC I m k E T) (hk10 : k ≤ 10) {b : Nat} (hb : b < 8) : Ct (d + 1) 0 0 YX10_isMaker [.ref m, .int (nI k), .int (nI b)] (I, G) (qP (bz (eS E b = none)) (I, G)) := by
  refine Ct.of (by decide) (by simp [Value.category]) (Nat.le_of_ble_eq_true rfl) ?_
  show wp _ _ _ _ 0 [some (.ref m), some (.int (nI k)), some (.int (nI b))] [] _ _
  refine r_aload_n (pc := 0) dX10_isMaker_0 rfl ?_
  refine r_get1 (pc := 1) 10 8 20 dX10_isMaker_1 (fl_RX10_20 rfl) (by decide) rfl (c10_o hm) (c10_p8 hm) ?_
  refine r_bipush (pc := 4) (v := 8) dX10_isMaker_4 (by decide) ?_
  refine r_iload_n (pc := 6) dX10_isMaker_6 rfl ?_
  refine r_imul_n (pc := 7) (a := 8) (b := k) dX10_isMaker_7 ?_
  refine r_iload_n (pc := 8) dX10_isMaker_8 rfl ?_
  refine r_iadd_n (pc := 9) (a := 8 * k) (b := b) dX10_isMaker_9 ?_
  refine r_iald_n (pc := 10) (i := (8 * k) + b) dX10_isMaker_10 (c10_a8 hm) (by decide) (by omega) (v := sI (eS E b)) (hk.2.2.1 _ (by omega)) ?_
  refine r_iconst (pc := 11) (v := -1) dX10_isMaker_11 (by decide) ?_
  refine r_icmp_ne (pc := 12) (x := sI (eS E b)) (z := (-1)) (tgt := 19) dX10_isMaker_12 (by decide) (fun c12 => ?_) (fun c12 => ?_)
  · skip
    have hz := bz_f (c := eS E b = none) (fun q => c12 ((sI_m1 (hk.lt b)).mpr q))
    refine r_iconst (pc := 19) (v := 0) dX10_isMaker_19 (by decide) ?_
    refine r_ret_z (pc := 20) dX10_isMaker_20 rfl (by decide) ?_
    exact ⟨congrArg (fun z => some (Value.int z)) hz, rfl⟩
  · skip
    have hz := bz_t (c := eS E b = none) ((sI_m1 (hk.lt b)).mp c12)
    refine r_iconst (pc := 15) (v := 1) dX10_isMaker_15 (by decide) ?_
    refine r_goto (pc := 16) (tgt := 20) dX10_isMaker_16 (by decide) ?_
    refine r_ret_z (pc := 20) dX10_isMaker_20 rfl (by decide) ?_
    exact ⟨congrArg (fun z => some (Value.int z)) hz, rfl⟩

set_option maxRecDepth 100000 in
theorem buyers_ct {d : Nat} {I : Im} {G : Gm} {m k : Nat} {E : Ec} {T : Lt} (hm : isC10 G m) (hk : MtC I m k E T) (hk10 : k ≤ 10) {h : Nat} (hh : h < 8) : Ct (d + 2) 0 0 YX10_buyers [.ref m, .int (nI k), .int (nI h)] (I, G) (qP (nI (cnt (eS E) h (eN E))) (I, G)) := by
  refine Ct.of (by decide) (by simp [Value.category]) (Nat.le_of_ble_eq_true rfl) ?_
  have hn8 := hk.2.1
  show wp _ _ _ _ 0 [some (.ref m), some (.int (nI k)), some (.int (nI h)), none, none] [] _ _
  refine r_iconst (pc := 0) (v := 0) dX10_buyers_0 (by decide) ?_
  refine r_istore_n (pc := 1) (L' := [some (.ref m), some (.int (nI k)), some (.int (nI h)), some (.int (nI 0)), none]) dX10_buyers_1 (by decide) rfl rfl ?_
  refine r_iconst (pc := 2) (v := 0) dX10_buyers_2 (by decide) ?_
  refine r_istore (pc := 3) (L' := [some (.ref m), some (.int (nI k)), some (.int (nI h)), some (.int (nI 0)), some (.int (nI 0))]) dX10_buyers_3 (by decide) rfl rfl ?_
  have lp5 : ∀ (n5 : Nat), ∀ (b : Nat) (c : Nat), eN E - b = n5 → (b ≤ eN E) → (c = cnt (eS E) h b) → wp (d + 2) 0 0 YX10_buyers 5 [some (.ref m), some (.int (nI k)), some (.int (nI h)), some (.int (nI c)), some (.int (nI b))] [] (I, G) (qP (nI (cnt (eS E) h (eN E))) (I, G)) := by
    intro n5
    induction n5 using Nat.strongRecOn with
    | ind n5 ih5 =>
      intro b c hmu5 hb hc
      refine r_iload (pc := 5) dX10_buyers_5 rfl ?_
      refine r_aload_n (pc := 7) dX10_buyers_7 rfl ?_
      refine r_get1 (pc := 8) 10 6 13 dX10_buyers_8 (fl_RX10_13 rfl) (by decide) rfl (c10_o hm) (c10_p6 hm) ?_
      refine r_iload_n (pc := 11) dX10_buyers_11 rfl ?_
      refine r_iald_n (pc := 12) (i := k) dX10_buyers_12 (c10_a6 hm) (by decide) (by omega) (v := nI (eN E)) (hk.1) ?_
      refine r_icmp_ge_n (pc := 13) (a := b) (b := eN E) (tgt := 41) dX10_buyers_13 (by decide) (by have := cnt_le (eS E) h b; omega) (by have := cnt_le (eS E) h b; omega) (fun c13 => ?_) (fun c13 => ?_)
      · skip
        refine r_iload_n (pc := 41) dX10_buyers_41 rfl ?_
        refine r_ret_i (pc := 42) dX10_buyers_42 rfl ?_
        exact ⟨by rw [hc, show b = eN E by omega], rfl⟩
      · skip
        refine r_iload_n (pc := 16) dX10_buyers_16 rfl ?_
        refine r_aload_n (pc := 17) dX10_buyers_17 rfl ?_
        refine r_iload_n (pc := 18) dX10_buyers_18 rfl ?_
        refine r_iload (pc := 19) dX10_buyers_19 rfl ?_
        refine r_iload_n (pc := 21) dX10_buyers_21 rfl ?_
        refine r_callV_P (pc := 22) (b := m) (As := [.int (nI k), .int (nI b), .int (nI h)]) 10 151 dX10_buyers_22 lk_X10_buys (ml_RX10_151 rfl) im_X10_buys se_X10_buys (by decide) (c10_o hm) (Nat.le_of_ble_eq_true rfl) rfl (buys_ct hm hk hk10 (by omega) (by omega)) ?_
        refine r_if_eq_b (pc := 25) (tgt := 32) dX10_buyers_25 (by decide) (fun c25 => ?_) (fun c25 => ?_)
        · skip
          have hcase : cnt (eS E) h b + 0 = cnt (eS E) h (b + 1) := congrArg (cnt (eS E) h b + ·) (if_neg c25).symm
          refine r_iconst (pc := 32) (v := 0) dX10_buyers_32 (by decide) ?_
          refine r_iadd_n (pc := 33) (a := c) (b := 0) dX10_buyers_33 ?_
          refine r_istore_n (pc := 34) (L' := [some (.ref m), some (.int (nI k)), some (.int (nI h)), some (.int (nI (c + 0))), some (.int (nI b))]) dX10_buyers_34 (by decide) rfl rfl ?_
          refine r_iinc (pc := 35) (v := nI (b + 1)) (L' := [some (.ref m), some (.int (nI k)), some (.int (nI h)), some (.int (nI (c + 0))), some (.int (nI (b + 1)))]) dX10_buyers_35 rfl (nI_inc _) (by decide) rfl rfl ?_
          refine r_goto (pc := 38) (tgt := 5) dX10_buyers_38 (by decide) ?_
          exact ih5 _ (by omega) (b + 1) (c + 0) rfl (by omega) (by rw [hc]; exact hcase)
        · skip
          have hcase : cnt (eS E) h b + 1 = cnt (eS E) h (b + 1) := congrArg (cnt (eS E) h b + ·) (if_pos c25).symm
          refine r_iconst (pc := 28) (v := 1) dX10_buyers_28 (by decide) ?_
          refine r_goto (pc := 29) (tgt := 33) dX10_buyers_29 (by decide) ?_
          refine r_iadd_n (pc := 33) (a := c) (b := 1) dX10_buyers_33 ?_
          refine r_istore_n (pc := 34) (L' := [some (.ref m), some (.int (nI k)), some (.int (nI h)), some (.int (nI (c + 1))), some (.int (nI b))]) dX10_buyers_34 (by decide) rfl rfl ?_
          refine r_iinc (pc := 35) (v := nI (b + 1)) (L' := [some (.ref m), some (.int (nI k)), some (.int (nI h)), some (.int (nI (c + 1))), some (.int (nI (b + 1)))]) dX10_buyers_35 rfl (nI_inc _) (by decide) rfl rfl ?_
          refine r_goto (pc := 38) (tgt := 5) dX10_buyers_38 (by decide) ?_
          exact ih5 _ (by omega) (b + 1) (c + 1) rfl (by omega) (by rw [hc]; exact hcase)
  exact lp5 _ 0 0 rfl (by omega) (by rfl)

set_option maxRecDepth 100000 in
theorem isHouse_ct {d : Nat} {I : Im} {G : Gm} {m k : Nat} {E : Ec} {T : Lt} (hm : isC10 G m) (hk : MtC I m k E T) (hk10 : k ≤ 10) {cn : Nat} (hcn : I m 20 = nI cn) (hcn10 : cn ≤ 10) (hkc : k < cn) {h : Nat} (hh : h < eN E) : Ct (d + 2) 0 0 YX10_isHouse [.ref m, .int (nI k), .int (nI h)] (I, G) (qP 1 (I, G)) := by
  refine Ct.of (by decide) (by simp [Value.category]) (Nat.le_of_ble_eq_true rfl) ?_
  have hn8 := hk.2.1
  have hy1 : 0 ≤ nI k ∧ nI k < I m 20 := ⟨nI_pos' (by omega), by rw [hcn]; exact nI_lt hkc (by omega)⟩
  have hy2 : nI 0 ≤ nI h ∧ nI h ≤ nI (eN E) - nI 1 := ⟨nI_le (Nat.zero_le _) (by omega), by rw [pk_sub (by omega)]; exact nI_le (by omega) (by omega)⟩
  show wp _ _ _ _ 0 [some (.ref m), some (.int (nI k)), some (.int (nI h))] [] _ _
  refine r_aload_n (pc := 0) dX10_isHouse_0 rfl ?_
  refine r_iload_n (pc := 1) dX10_isHouse_1 rfl ?_
  refine r_callV_P (pc := 2) (b := m) (As := [.int (nI k)]) 10 148 dX10_isHouse_2 lk_X10_isTrade (ml_RX10_148 rfl) im_X10_isTrade se_X10_isTrade (by decide) (c10_o hm) (Nat.le_of_ble_eq_true rfl) rfl (isTrade_ct hm) ?_
  refine r_if_eq_b (pc := 5) (tgt := 28) dX10_isHouse_5 (by decide) (fun c5 => ?_) (fun c5 => ?_)
  · exfalso; exact c5 hy1
  · skip
    refine r_iload_n (pc := 8) dX10_isHouse_8 rfl ?_
    refine r_iconst (pc := 9) (v := 0) dX10_isHouse_9 (by decide) ?_
    refine r_aload_n (pc := 10) dX10_isHouse_10 rfl ?_
    refine r_get1 (pc := 11) 10 6 13 dX10_isHouse_11 (fl_RX10_13 rfl) (by decide) rfl (c10_o hm) (c10_p6 hm) ?_
    refine r_iload_n (pc := 14) dX10_isHouse_14 rfl ?_
    refine r_iald_n (pc := 15) (i := k) dX10_isHouse_15 (c10_a6 hm) (by decide) (by omega) (v := nI (eN E)) (hk.1) ?_
    refine r_iconst (pc := 16) (v := 1) dX10_isHouse_16 (by decide) ?_
    refine r_isub (pc := 17) (x := nI (eN E)) (z := 1) dX10_isHouse_17 ?_
    refine r_callS_P (pc := 18) (As := [.int (nI h), .int (nI 0), .int ((nI (eN E)) - 1)]) 123 dX10_isHouse_18 lk_X10_isIn (ml_RX10_123 rfl) sm_X10_isIn (Nat.le_of_ble_eq_true rfl) rfl (isIn_ct ) ?_
    refine r_if_eq_b (pc := 21) (tgt := 28) dX10_isHouse_21 (by decide) (fun c21 => ?_) (fun c21 => ?_)
    · exfalso; exact c21 hy2
    · skip
      refine r_iconst (pc := 24) (v := 1) dX10_isHouse_24 (by decide) ?_
      refine r_goto (pc := 25) (tgt := 29) dX10_isHouse_25 (by decide) ?_
      refine r_ret_z (pc := 29) dX10_isHouse_29 rfl (by decide) ?_
      exact ⟨rfl, rfl⟩

set_option maxRecDepth 100000 in
theorem isShopM_ct {d : Nat} {I : Im} {G : Gm} {m k : Nat} {E : Ec} {T : Lt} (hm : isC10 G m) (hk : MtC I m k E T) (hk10 : k ≤ 10) {cn : Nat} (hcn : I m 20 = nI cn) (hcn10 : cn ≤ 10) (hkc : k < cn) {h : Nat} (hh : h < eN E) : Ct (d + 3) 0 0 YX10_isShop [.ref m, .int (nI k), .int (nI h)] (I, G) (qP (bz (cnt (eS E) h (eN E) = 0)) (I, G)) := by
  refine Ct.of (by decide) (by simp [Value.category]) (Nat.le_of_ble_eq_true rfl) ?_
  have hn8 := hk.2.1
  show wp _ _ _ _ 0 [some (.ref m), some (.int (nI k)), some (.int (nI h))] [] _ _
  refine r_aload_n (pc := 0) dX10_isShop_0 rfl ?_
  refine r_iload_n (pc := 1) dX10_isShop_1 rfl ?_
  refine r_iload_n (pc := 2) dX10_isShop_2 rfl ?_
  refine r_callV_P (pc := 3) (b := m) (As := [.int (nI k), .int (nI h)]) 10 154 dX10_isShop_3 lk_X10_isHouse (ml_RX10_154 rfl) im_X10_isHouse se_X10_isHouse (by decide) (c10_o hm) (Nat.le_of_ble_eq_true rfl) rfl (isHouse_ct hm hk hk10 hcn hcn10 hkc (by omega)) ?_
  refine r_if_eq_n (pc := 6) (a := 1) (tgt := 22) dX10_isShop_6 (by decide) (by have := cnt_le (eS E) h (eN E); omega) (fun c6 => ?_) (fun c6 => ?_)
  · exfalso; omega
  · skip
    refine r_aload_n (pc := 9) dX10_isShop_9 rfl ?_
    refine r_iload_n (pc := 10) dX10_isShop_10 rfl ?_
    refine r_iload_n (pc := 11) dX10_isShop_11 rfl ?_
    refine r_callV_P (pc := 12) (b := m) (As := [.int (nI k), .int (nI h)]) 10 158 dX10_isShop_12 lk_X10_buyers (ml_RX10_158 rfl) im_X10_buyers se_X10_buyers (by decide) (c10_o hm) (Nat.le_of_ble_eq_true rfl) rfl (buyers_ct hm hk hk10 (by omega)) ?_
    refine r_if_ne_n (pc := 15) (a := cnt (eS E) h (eN E)) (tgt := 22) dX10_isShop_15 (by decide) (by have := cnt_le (eS E) h (eN E); omega) (fun c15 => ?_) (fun c15 => ?_)
    · skip
      refine r_iconst (pc := 22) (v := 0) dX10_isShop_22 (by decide) ?_
      refine r_ret_z (pc := 23) dX10_isShop_23 rfl (by decide) ?_
      exact ⟨congrArg (fun z => some (Value.int z)) (by first | exact bz_t (by simp_all) | exact bz_f (by simp_all)), rfl⟩
    · skip
      refine r_iconst (pc := 18) (v := 1) dX10_isShop_18 (by decide) ?_
      refine r_goto (pc := 19) (tgt := 23) dX10_isShop_19 (by decide) ?_
      refine r_ret_z (pc := 23) dX10_isShop_23 rfl (by decide) ?_
      exact ⟨congrArg (fun z => some (Value.int z)) (by first | exact bz_t (by simp_all) | exact bz_f (by simp_all)), rfl⟩

set_option maxRecDepth 100000 in
theorem wanted_ct {d : Nat} {I : Im} {G : Gm} {m k : Nat} {E : Ec} {T : Lt} (hm : isC10 G m) (hk : MtC I m k E T) (hk10 : k ≤ 10) {h p : Nat} (hh : h < 8) (hp : p ≤ 41) : Ct (d + 1) 0 0 YX10_wanted [.ref m, .int (nI k), .int (nI h), .int (nI p)] (I, G) (qP (nI (eW E h p)) (I, G)) := by
  refine Ct.of (by decide) (by simp [Value.category]) (Nat.le_of_ble_eq_true rfl) ?_
  have hL := hk.2.2.2.2.2.2.2.1
  show wp _ _ _ _ 0 [some (.ref m), some (.int (nI k)), some (.int (nI h)), some (.int (nI p)), none, none] [] _ _
  refine r_iconst (pc := 0) (v := 0) dX10_wanted_0 (by decide) ?_
  refine r_istore (pc := 1) (L' := [some (.ref m), some (.int (nI k)), some (.int (nI h)), some (.int (nI p)), some (.int (nI 0)), none]) dX10_wanted_1 (by decide) rfl rfl ?_
  refine r_iconst (pc := 3) (v := 0) dX10_wanted_3 (by decide) ?_
  refine r_istore (pc := 4) (L' := [some (.ref m), some (.int (nI k)), some (.int (nI h)), some (.int (nI p)), some (.int (nI 0)), some (.int (nI 0))]) dX10_wanted_4 (by decide) rfl rfl ?_
  have lp6 : ∀ (n6 : Nat), ∀ (i : Nat) (c : Nat), T.1 - i = n6 → (i ≤ T.1) → (c = wS T h p i) → wp (d + 1) 0 0 YX10_wanted 6 [some (.ref m), some (.int (nI k)), some (.int (nI h)), some (.int (nI p)), some (.int (nI c)), some (.int (nI i))] [] (I, G) (qP (nI (eW E h p)) (I, G)) := by
    intro n6
    induction n6 using Nat.strongRecOn with
    | ind n6 ih6 =>
      intro i c hmu6 hi hc
      refine r_iload (pc := 6) dX10_wanted_6 rfl ?_
      refine r_aload_n (pc := 8) dX10_wanted_8 rfl ?_
      refine r_get1 (pc := 9) 10 10 26 dX10_wanted_9 (fl_RX10_26 rfl) (by decide) rfl (c10_o hm) (c10_p10 hm) ?_
      refine r_iload_n (pc := 12) dX10_wanted_12 rfl ?_
      refine r_iald_n (pc := 13) (i := k) dX10_wanted_13 (c10_a10 hm) (by decide) (by omega) (v := nI T.1) (hk.2.2.2.2.2.2.1) ?_
      refine r_icmp_ge_n (pc := 14) (a := i) (b := T.1) (tgt := 76) dX10_wanted_14 (by decide) (by omega) (by omega) (fun c14 => ?_) (fun c14 => ?_)
      · skip
        refine r_iload (pc := 76) dX10_wanted_76 rfl ?_
        refine r_ret_i (pc := 78) dX10_wanted_78 rfl ?_
        exact ⟨by rw [hc, show i = T.1 by omega, ← hk.2.2.2.2.2.2.2.2.2 h p], rfl⟩
      · skip
        have hli := hk.2.2.2.2.2.2.2.2.1 i (by omega)
        refine r_iload (pc := 17) dX10_wanted_17 rfl ?_
        have k67 : ∀ (x : Nat), (x = if T.2.1 i = h ∧ p ≤ T.2.2.1 i then T.2.2.2 i else 0) → wp (d + 1) 0 0 YX10_wanted 67 [some (.ref m), some (.int (nI k)), some (.int (nI h)), some (.int (nI p)), some (.int (nI c)), some (.int (nI i))] [.int (nI x), .int (nI c)] (I, G) (qP (nI (eW E h p)) (I, G)) := by
          intro x hx
          refine r_iadd_n (pc := 67) (a := c) (b := x) dX10_wanted_67 ?_
          refine r_istore (pc := 68) (L' := [some (.ref m), some (.int (nI k)), some (.int (nI h)), some (.int (nI p)), some (.int (nI (c + x))), some (.int (nI i))]) dX10_wanted_68 (by decide) rfl rfl ?_
          refine r_iinc (pc := 70) (v := nI (i + 1)) (L' := [some (.ref m), some (.int (nI k)), some (.int (nI h)), some (.int (nI p)), some (.int (nI (c + x))), some (.int (nI (i + 1)))]) dX10_wanted_70 rfl (nI_inc _) (by decide) rfl rfl ?_
          refine r_goto (pc := 73) (tgt := 6) dX10_wanted_73 (by decide) ?_
          exact ih6 _ (by omega) (i + 1) (c + x) rfl (by omega) (by rw [hc, hx]; rfl)
        refine r_aload_n (pc := 19) dX10_wanted_19 rfl ?_
        refine r_get1 (pc := 20) 10 11 29 dX10_wanted_20 (fl_RX10_29 rfl) (by decide) rfl (c10_o hm) (c10_p11 hm) ?_
        refine r_bipush (pc := 23) (v := 20) dX10_wanted_23 (by decide) ?_
        refine r_iload_n (pc := 25) dX10_wanted_25 rfl ?_
        refine r_imul_n (pc := 26) (a := 20) (b := k) dX10_wanted_26 ?_
        refine r_iload (pc := 27) dX10_wanted_27 rfl ?_
        refine r_iadd_n (pc := 29) (a := 20 * k) (b := i) dX10_wanted_29 ?_
        refine r_iald_n (pc := 30) (i := (20 * k) + i) dX10_wanted_30 (c10_a11 hm) (by decide) (by omega) (v := nI (T.2.1 i)) ((hk.2.2.2.2.2.2.2.2.1 _ (by omega)).1) ?_
        refine r_iload_n (pc := 31) dX10_wanted_31 rfl ?_
        refine r_icmp_ne_n (pc := 32) (a := T.2.1 i) (b := h) (tgt := 66) dX10_wanted_32 (by decide) (by omega) (by omega) (fun c32 => ?_) (fun c32 => ?_)
        · skip
          have hxx : 0 = if T.2.1 i = h ∧ p ≤ T.2.2.1 i then T.2.2.2 i else 0 := (if_neg (fun q => c32 q.1)).symm
          refine r_iconst (pc := 66) (v := 0) dX10_wanted_66 (by decide) ?_
          exact k67 0 hxx
        · skip
          refine r_aload_n (pc := 35) dX10_wanted_35 rfl ?_
          refine r_get1 (pc := 36) 10 12 32 dX10_wanted_36 (fl_RX10_32 rfl) (by decide) rfl (c10_o hm) (c10_p12 hm) ?_
          refine r_bipush (pc := 39) (v := 20) dX10_wanted_39 (by decide) ?_
          refine r_iload_n (pc := 41) dX10_wanted_41 rfl ?_
          refine r_imul_n (pc := 42) (a := 20) (b := k) dX10_wanted_42 ?_
          refine r_iload (pc := 43) dX10_wanted_43 rfl ?_
          refine r_iadd_n (pc := 45) (a := 20 * k) (b := i) dX10_wanted_45 ?_
          refine r_iald_n (pc := 46) (i := (20 * k) + i) dX10_wanted_46 (c10_a12 hm) (by decide) (by omega) (v := nI (T.2.2.1 i)) ((hk.2.2.2.2.2.2.2.2.1 _ (by omega)).2.1) ?_
          refine r_iload_n (pc := 47) dX10_wanted_47 rfl ?_
          refine r_icmp_lt_n (pc := 48) (a := T.2.2.1 i) (b := p) (tgt := 66) dX10_wanted_48 (by decide) (by omega) (by omega) (fun c48 => ?_) (fun c48 => ?_)
          · skip
            have hxx : 0 = if T.2.1 i = h ∧ p ≤ T.2.2.1 i then T.2.2.2 i else 0 := (if_neg (fun q => absurd q.2 (Nat.not_le.mpr c48))).symm
            refine r_iconst (pc := 66) (v := 0) dX10_wanted_66 (by decide) ?_
            exact k67 0 hxx
          · skip
            have hxx : T.2.2.2 i = if T.2.1 i = h ∧ p ≤ T.2.2.1 i then T.2.2.2 i else 0 := (if_pos ⟨c32, Nat.not_lt.mp c48⟩).symm
            refine r_aload_n (pc := 51) dX10_wanted_51 rfl ?_
            refine r_get1 (pc := 52) 10 13 35 dX10_wanted_52 (fl_RX10_35 rfl) (by decide) rfl (c10_o hm) (c10_p13 hm) ?_
            refine r_bipush (pc := 55) (v := 20) dX10_wanted_55 (by decide) ?_
            refine r_iload_n (pc := 57) dX10_wanted_57 rfl ?_
            refine r_imul_n (pc := 58) (a := 20) (b := k) dX10_wanted_58 ?_
            refine r_iload (pc := 59) dX10_wanted_59 rfl ?_
            refine r_iadd_n (pc := 61) (a := 20 * k) (b := i) dX10_wanted_61 ?_
            refine r_iald_n (pc := 62) (i := (20 * k) + i) dX10_wanted_62 (c10_a13 hm) (by decide) (by omega) (v := nI (T.2.2.2 i)) ((hk.2.2.2.2.2.2.2.2.1 _ (by omega)).2.2.1) ?_
            refine r_goto (pc := 63) (tgt := 67) dX10_wanted_63 (by decide) ?_
            exact k67 (T.2.2.2 i) hxx
  exact lp6 _ 0 0 rfl (by omega) (by rfl)

theorem and_one (x : Int32) : x &&& 1 = 0 ∨ x &&& 1 = 1 := by
  obtain ⟨j, hj, e⟩ := pk_andE x (m := 1) 1 (by decide)
  rw [e]
  have : j = 0 ∨ j = 1 := by omega
  rcases this with rfl | rfl
  · exact Or.inl rfl
  · exact Or.inr rfl

set_option maxRecDepth 100000 in
theorem isJoined_ct {d : Nat} {I : Im} {G : Gm} {m k : Nat} {E : Ec} (hm : isC10 G m) (hT : MtT I m k E) {h : Int32} : Ct (d + 1) 0 0 YX10_isJoined [.ref m, .int h] (I, G) (qP (bz (jn (eJ E) h)) (I, G)) := by
  refine Ct.of (by decide) (by simp [Value.category]) (Nat.le_of_ble_eq_true rfl) ?_
  show wp _ _ _ _ 0 [some (.ref m), some (.int h)] [] _ _
  refine r_aload_n (pc := 0) dX10_isJoined_0 rfl ?_
  refine r_getIv (pc := 1) 10 22 178 dX10_isJoined_1 (fl_RX10_178 rfl) (by decide) rfl (c10_o hm) (v := eJ E) (hT.2.1) ?_
  refine r_iload_n (pc := 4) dX10_isJoined_4 rfl ?_
  refine r_ishr (pc := 5) (x := eJ E) (z := h) dX10_isJoined_5 ?_
  refine r_iconst (pc := 6) (v := 1) dX10_isJoined_6 (by decide) ?_
  refine r_iand (pc := 7) (x := (eJ E) >>> (h &&& 31)) (z := 1) dX10_isJoined_7 ?_
  refine r_iconst (pc := 8) (v := 1) dX10_isJoined_8 (by decide) ?_
  refine r_icmp_ne (pc := 9) (x := ((eJ E) >>> (h &&& 31)) &&& 1) (z := 1) (tgt := 16) dX10_isJoined_9 (by decide) (fun c9 => ?_) (fun c9 => ?_)
  · skip
    have hz := bz_f (c := jn (eJ E) h) (fun q => (and_one _).elim q c9)
    refine r_iconst (pc := 16) (v := 0) dX10_isJoined_16 (by decide) ?_
    refine r_ret_z (pc := 17) dX10_isJoined_17 rfl (by decide) ?_
    exact ⟨congrArg (fun z => some (Value.int z)) hz, rfl⟩
  · skip
    have hz := bz_t (c := jn (eJ E) h) (fun q => by rw [q] at c9; exact absurd c9 (by decide))
    refine r_iconst (pc := 12) (v := 1) dX10_isJoined_12 (by decide) ?_
    refine r_goto (pc := 13) (tgt := 17) dX10_isJoined_13 (by decide) ?_
    refine r_ret_z (pc := 17) dX10_isJoined_17 rfl (by decide) ?_
    exact ⟨congrArg (fun z => some (Value.int z)) hz, rfl⟩

/-- upwards: the first of the best that may be asked -/
def auF (g : Nat → Int32) (ok : Nat → Bool) : Nat → Nat × Int32
  | 0 => (0, 0)
  | p + 1 => if ok p = true ∧ (p = 0 ∨ (auF g ok p).2 < g p) then (p, g p) else auF g ok p
def isB (g : Nat → Int32) (ok : Nat → Bool) (lo hi b : Nat) : Prop := lo ≤ b ∧ b < hi ∧ ok b = true ∧ (∀ p, lo ≤ p → p < hi → ok p = true → g p ≤ g b) ∧ ∀ p, lo ≤ p → p < b → ok p = true → g p < g b
theorem isB_un {g : Nat → Int32} {ok : Nat → Bool} {lo hi a b : Nat} (ha : isB g ok lo hi a) (hb : isB g ok lo hi b) : a = b := by
  rcases Nat.lt_trichotomy a b with h | h | h
  · exact absurd (ha.2.2.2.1 b hb.1 hb.2.1 hb.2.2.1) (Int32.not_le.mpr (hb.2.2.2.2 a ha.1 h ha.2.2.1))
  · exact h
  · exact absurd (hb.2.2.2.1 a ha.1 ha.2.1 ha.2.2.1) (Int32.not_le.mpr (ha.2.2.2.2 b hb.1 h hb.2.2.1))
theorem auF_B {g : Nat → Int32} {ok : Nat → Bool} (h0 : ok 0 = true) : ∀ k, isB g ok 0 (k + 1) (auF g ok (k + 1)).1 ∧ (auF g ok (k + 1)).2 = g (auF g ok (k + 1)).1
  | 0 => by
    have e : auF g ok 1 = (0, g 0) := if_pos ⟨h0, Or.inl rfl⟩
    rw [e]
    exact ⟨⟨Nat.le_refl _, by omega, h0, fun p _ hp _ => by obtain rfl : p = 0 := (by omega); exact Int32.le_refl _, fun p _ hp _ => absurd hp (Nat.not_lt_zero _)⟩, rfl⟩
  | k + 1 => by
    obtain ⟨⟨-, b1, b2, b3, b4⟩, hm⟩ := auF_B (g := g) h0 k
    show isB g ok 0 (k + 1 + 1) (if ok (k + 1) = true ∧ (k + 1 = 0 ∨ (auF g ok (k + 1)).2 < g (k + 1)) then (k + 1, g (k + 1)) else auF g ok (k + 1)).1 ∧ (if ok (k + 1) = true ∧ (k + 1 = 0 ∨ (auF g ok (k + 1)).2 < g (k + 1)) then (k + 1, g (k + 1)) else auF g ok (k + 1)).2 = g (if ok (k + 1) = true ∧ (k + 1 = 0 ∨ (auF g ok (k + 1)).2 < g (k + 1)) then (k + 1, g (k + 1)) else auF g ok (k + 1)).1
    by_cases c : ok (k + 1) = true ∧ (k + 1 = 0 ∨ (auF g ok (k + 1)).2 < g (k + 1))
    · rw [if_pos c]
      have c2 : g (auF g ok (k + 1)).1 < g (k + 1) := by
        rw [← hm]
        exact c.2.resolve_left (by omega)
      refine ⟨⟨Nat.zero_le _, by omega, c.1, fun p _ hp ho => ?_, fun p _ hp ho => Int32.lt_of_le_of_lt (b3 p (Nat.zero_le _) hp ho) c2⟩, rfl⟩
      by_cases e : p = k + 1
      · subst e
        exact Int32.le_refl _
      · exact Int32.le_of_lt (Int32.lt_of_le_of_lt (b3 p (Nat.zero_le _) (by omega) ho) c2)
    · rw [if_neg c]
      refine ⟨⟨Nat.zero_le _, by omega, b2, fun p _ hp ho => ?_, b4⟩, hm⟩
      by_cases e : p = k + 1
      · subst e
        rw [← hm]
        exact Int32.not_lt.mp (fun z => c ⟨ho, Or.inr z⟩)
      · exact b3 p (Nat.zero_le _) (by omega) ho
theorem bdn_B {g : Nat → Int32} {ok : Nat → Bool} (h1 : ok 41 = true) (hz : g 41 = 0) : ∀ j, j ≤ 41 → isB g ok (41 - j) 42 (bdn g ok (j + 1)).1 ∧ (bdn g ok (j + 1)).2 = g (bdn g ok (j + 1)).1
  | 0, _ => by
    have e : bdn g ok 1 = (41, g 41) := if_pos ⟨h1, by rw [show g (41 - 0) = 0 from hz]; exact Int32.le_refl _⟩
    rw [e]
    exact ⟨⟨Nat.le_refl _, by omega, h1, fun p h2 hp _ => by obtain rfl : p = 41 := (by omega); exact Int32.le_refl _, fun p h2 hp _ => absurd hp (by omega)⟩, rfl⟩
  | j + 1, hj => by
    obtain ⟨⟨b0, b1, b2, b3, b4⟩, hm⟩ := bdn_B (g := g) h1 hz j (by omega)
    have es : bdn g ok (j + 1 + 1) = if ok (41 - (j + 1)) = true ∧ (bdn g ok (j + 1)).2 ≤ g (41 - (j + 1)) then (41 - (j + 1), g (41 - (j + 1))) else bdn g ok (j + 1) := rfl
    rw [es]
    by_cases c : ok (41 - (j + 1)) = true ∧ (bdn g ok (j + 1)).2 ≤ g (41 - (j + 1))
    · rw [if_pos c]
      have c2 : g (bdn g ok (j + 1)).1 ≤ g (41 - (j + 1)) := by
        rw [← hm]
        exact c.2
      refine ⟨⟨Nat.le_refl _, by omega, c.1, fun p h2 hp ho => ?_, fun p h2 hp ho => absurd hp (by omega)⟩, rfl⟩
      by_cases e : p = 41 - (j + 1)
      · subst e
        exact Int32.le_refl _
      · exact Int32.le_trans (b3 p (by omega) hp ho) c2
    · rw [if_neg c]
      refine ⟨⟨by omega, b1, b2, fun p h2 hp ho => ?_, fun p h2 hp ho => ?_⟩, hm⟩
      · by_cases e : p = 41 - (j + 1)
        · subst e
          rw [← hm]
          exact Int32.le_of_lt (Int32.not_le.mp (fun z => c ⟨ho, z⟩))
        · exact b3 p (by omega) hp ho
      · by_cases e : p = 41 - (j + 1)
        · subst e
          rw [← hm]
          exact Int32.not_le.mp (fun z => c ⟨ho, z⟩)
        · exact b4 p (by omega) hp ho
theorem au_bd {g : Nat → Int32} {ok : Nat → Bool} (h0 : ok 0 = true) (h1 : ok 41 = true) (hz : g 41 = 0) : (auF g ok 42).1 = (bdn g ok 42).1 := isB_un (auF_B h0 41).1 (bdn_B h1 hz 41 (by omega)).1

set_option maxRecDepth 100000 in
theorem askBy_ct {d : Nat} {I : Im} {G : Gm} {m k : Nat} {E : Ec} {T : Lt} (hm : isC10 G m) (hk : MtC I m k E T) (hk10 : k ≤ 10) (hT : MtT I m k E) {h u : Nat} (hh : h < 8) (hu : u ≤ 600) : Ct (d + 2) 0 0 YX10_askBy [.ref m, .int (nI h), .int (nI u)] (I, G) (qP (nI (askF (eW E h) (eK E) u)) (I, G)) := by
  refine Ct.of (by decide) (by simp [Value.category]) (Nat.le_of_ble_eq_true rfl) ?_
  have hK := hT.2.2.2.1
  show wp _ _ _ _ 0 [some (.ref m), some (.int (nI h)), some (.int (nI u)), none, none, none, none] [] _ _
  refine r_iconst (pc := 0) (v := 0) dX10_askBy_0 (by decide) ?_
  refine r_istore_n (pc := 1) (L' := [some (.ref m), some (.int (nI h)), some (.int (nI u)), some (.int (nI 0)), none, none, none]) dX10_askBy_1 (by decide) rfl rfl ?_
  refine r_iconst (pc := 2) (v := 0) dX10_askBy_2 (by decide) ?_
  refine r_istore (pc := 3) (L' := [some (.ref m), some (.int (nI h)), some (.int (nI u)), some (.int (nI 0)), some (.int (nI 0)), none, none]) dX10_askBy_3 (by decide) rfl rfl ?_
  refine r_iconst (pc := 5) (v := 0) dX10_askBy_5 (by decide) ?_
  refine r_istore (pc := 6) (L' := [some (.ref m), some (.int (nI h)), some (.int (nI u)), some (.int (nI 0)), some (.int (nI 0)), some (.int (nI 0)), none]) dX10_askBy_6 (by decide) rfl rfl ?_
  have lp8 : ∀ (n8 : Nat), ∀ (p : Nat) (be : Nat) (mo : Int32), 42 - p = n8 → (p ≤ 42) → ((be, mo) = auF (fun p => (nI p - nI u) * nI (eW E h p)) (fun p => decide (p ≤ eK E ∨ p = 41)) p) → wp (d + 2) 0 0 YX10_askBy 8 [some (.ref m), some (.int (nI h)), some (.int (nI u)), some (.int (nI be)), some (.int mo), some (.int (nI p)), none] [] (I, G) (qP (nI (askF (eW E h) (eK E) u)) (I, G)) := by
    intro n8
    induction n8 using Nat.strongRecOn with
    | ind n8 ih8 =>
      intro p be mo hmu8 hp hbe
      refine r_iload (pc := 8) dX10_askBy_8 rfl ?_
      refine r_bipush (pc := 10) (v := 41) dX10_askBy_10 (by decide) ?_
      refine r_icmp_gt_n (pc := 12) (a := p) (b := 41) (tgt := 80) dX10_askBy_12 (by decide) (by omega) (by omega) (fun c12 => ?_) (fun c12 => ?_)
      · skip
        refine r_iload_n (pc := 80) dX10_askBy_80 rfl ?_
        refine r_ret_i (pc := 81) dX10_askBy_81 rfl ?_
        have hfin : be = askF (eW E h) (eK E) u := by
          unfold askF
          rw [← au_bd (by simp) (by simp) (by rw [hk.w41 h]; exact Int32.mul_zero), ← show (be, mo) = auF (fun p => (nI p - nI u) * nI (eW E h p)) (fun p => decide (p ≤ eK E ∨ p = 41)) 42 from (show p = 42 by omega) ▸ hbe]
        exact ⟨by rw [hfin], rfl⟩
      · skip
        refine r_iload (pc := 15) dX10_askBy_15 rfl ?_
        refine r_aload_n (pc := 17) dX10_askBy_17 rfl ?_
        refine r_getIv (pc := 18) 10 23 181 dX10_askBy_18 (fl_RX10_181 rfl) (by decide) rfl (c10_o hm) (v := nI (eK E)) (hT.2.2.1) ?_
        refine r_icmp_le_n (pc := 21) (a := p) (b := eK E) (tgt := 34) dX10_askBy_21 (by decide) (by omega) (by omega) (fun c21 => ?_) (fun c21 => ?_)
        · skip
          refine r_iload (pc := 34) dX10_askBy_34 rfl ?_
          refine r_iload_n (pc := 36) dX10_askBy_36 rfl ?_
          refine r_isub (pc := 37) (x := nI p) (z := nI u) dX10_askBy_37 ?_
          refine r_aload_n (pc := 38) dX10_askBy_38 rfl ?_
          refine r_aload_n (pc := 39) dX10_askBy_39 rfl ?_
          refine r_getIv (pc := 40) 10 21 175 dX10_askBy_40 (fl_RX10_175 rfl) (by decide) rfl (c10_o hm) (v := nI k) (hT.1) ?_
          refine r_iload_n (pc := 43) dX10_askBy_43 rfl ?_
          refine r_iload (pc := 44) dX10_askBy_44 rfl ?_
          refine r_callV_P (pc := 46) (b := m) (As := [.int (nI k), .int (nI h), .int (nI p)]) 10 168 dX10_askBy_46 lk_X10_wanted (ml_RX10_168 rfl) im_X10_wanted se_X10_wanted (by decide) (c10_o hm) (Nat.le_of_ble_eq_true rfl) rfl (wanted_ct hm hk hk10 (by omega) (by omega)) ?_
          refine r_imul (pc := 49) (x := (nI p) - (nI u)) (z := nI (eW E h p)) dX10_askBy_49 ?_
          refine r_istore (pc := 50) (L' := [some (.ref m), some (.int (nI h)), some (.int (nI u)), some (.int (nI be)), some (.int mo), some (.int (nI p)), some (.int (((nI p) - (nI u)) * (nI (eW E h p))))]) dX10_askBy_50 (by decide) rfl rfl ?_
          refine r_iload (pc := 52) dX10_askBy_52 rfl ?_
          refine r_if_le_n (pc := 54) (a := p) (tgt := 67) dX10_askBy_54 (by decide) (by omega) (fun c54 => ?_) (fun c54 => ?_)
          · skip
            have hcase : auF (fun p => (nI p - nI u) * nI (eW E h p)) (fun p => decide (p ≤ eK E ∨ p = 41)) (p + 1) = (p, (nI p - nI u) * nI (eW E h p)) := if_pos ⟨by simp; omega, Or.inl (by omega)⟩
            refine r_iload (pc := 67) dX10_askBy_67 rfl ?_
            refine r_istore (pc := 69) (L' := [some (.ref m), some (.int (nI h)), some (.int (nI u)), some (.int (nI be)), some (.int (((nI p) - (nI u)) * (nI (eW E h p)))), some (.int (nI p)), some (.int (((nI p) - (nI u)) * (nI (eW E h p))))]) dX10_askBy_69 (by decide) rfl rfl ?_
            refine r_iload (pc := 71) dX10_askBy_71 rfl ?_
            refine r_istore_n (pc := 73) (L' := [some (.ref m), some (.int (nI h)), some (.int (nI u)), some (.int (nI p)), some (.int (((nI p) - (nI u)) * (nI (eW E h p)))), some (.int (nI p)), some (.int (((nI p) - (nI u)) * (nI (eW E h p))))]) dX10_askBy_73 (by decide) rfl rfl ?_
            refine r_iinc (pc := 74) (v := nI (p + 1)) (L' := [some (.ref m), some (.int (nI h)), some (.int (nI u)), some (.int (nI p)), some (.int (((nI p) - (nI u)) * (nI (eW E h p)))), some (.int (nI (p + 1))), some (.int (((nI p) - (nI u)) * (nI (eW E h p))))]) dX10_askBy_74 rfl (nI_inc _) (by decide) rfl rfl ?_
            refine r_goto (pc := 77) (tgt := 8) dX10_askBy_77 (by decide) ?_
            refine wp_sub [some (.ref m), some (.int (nI h)), some (.int (nI u)), some (.int (nI p)), some (.int (((nI p) - (nI u)) * (nI (eW E h p)))), some (.int (nI (p + 1))), none] ⟨rfl, ⟨rfl, ⟨rfl, ⟨rfl, ⟨rfl, ⟨rfl, trivial⟩⟩⟩⟩⟩⟩ ?_
            exact ih8 _ (by omega) (p + 1) p (((nI p) - (nI u)) * (nI (eW E h p))) rfl (by omega) (by refine Eq.trans ?_ hcase.symm; first | rfl | exact hbe)
          · skip
            refine r_iload (pc := 57) dX10_askBy_57 rfl ?_
            refine r_iload (pc := 59) dX10_askBy_59 rfl ?_
            refine r_icmp_gt (pc := 61) (x := ((nI p) - (nI u)) * (nI (eW E h p))) (z := mo) (tgt := 67) dX10_askBy_61 (by decide) (fun c61 => ?_) (fun c61 => ?_)
            · skip
              have hcase : auF (fun p => (nI p - nI u) * nI (eW E h p)) (fun p => decide (p ≤ eK E ∨ p = 41)) (p + 1) = (p, (nI p - nI u) * nI (eW E h p)) := if_pos ⟨by simp; omega, Or.inr (by rw [← hbe]; exact c61)⟩
              refine r_iload (pc := 67) dX10_askBy_67 rfl ?_
              refine r_istore (pc := 69) (L' := [some (.ref m), some (.int (nI h)), some (.int (nI u)), some (.int (nI be)), some (.int (((nI p) - (nI u)) * (nI (eW E h p)))), some (.int (nI p)), some (.int (((nI p) - (nI u)) * (nI (eW E h p))))]) dX10_askBy_69 (by decide) rfl rfl ?_
              refine r_iload (pc := 71) dX10_askBy_71 rfl ?_
              refine r_istore_n (pc := 73) (L' := [some (.ref m), some (.int (nI h)), some (.int (nI u)), some (.int (nI p)), some (.int (((nI p) - (nI u)) * (nI (eW E h p)))), some (.int (nI p)), some (.int (((nI p) - (nI u)) * (nI (eW E h p))))]) dX10_askBy_73 (by decide) rfl rfl ?_
              refine r_iinc (pc := 74) (v := nI (p + 1)) (L' := [some (.ref m), some (.int (nI h)), some (.int (nI u)), some (.int (nI p)), some (.int (((nI p) - (nI u)) * (nI (eW E h p)))), some (.int (nI (p + 1))), some (.int (((nI p) - (nI u)) * (nI (eW E h p))))]) dX10_askBy_74 rfl (nI_inc _) (by decide) rfl rfl ?_
              refine r_goto (pc := 77) (tgt := 8) dX10_askBy_77 (by decide) ?_
              refine wp_sub [some (.ref m), some (.int (nI h)), some (.int (nI u)), some (.int (nI p)), some (.int (((nI p) - (nI u)) * (nI (eW E h p)))), some (.int (nI (p + 1))), none] ⟨rfl, ⟨rfl, ⟨rfl, ⟨rfl, ⟨rfl, ⟨rfl, trivial⟩⟩⟩⟩⟩⟩ ?_
              exact ih8 _ (by omega) (p + 1) p (((nI p) - (nI u)) * (nI (eW E h p))) rfl (by omega) (by refine Eq.trans ?_ hcase.symm; first | rfl | exact hbe)
            · skip
              have hcase : auF (fun p => (nI p - nI u) * nI (eW E h p)) (fun p => decide (p ≤ eK E ∨ p = 41)) (p + 1) = auF (fun p => (nI p - nI u) * nI (eW E h p)) (fun p => decide (p ≤ eK E ∨ p = 41)) p := if_neg (fun q => by have h2 := q.2.resolve_left c54; rw [← hbe] at h2; exact c61 h2)
              refine r_goto (pc := 64) (tgt := 74) dX10_askBy_64 (by decide) ?_
              refine r_iinc (pc := 74) (v := nI (p + 1)) (L' := [some (.ref m), some (.int (nI h)), some (.int (nI u)), some (.int (nI be)), some (.int mo), some (.int (nI (p + 1))), some (.int (((nI p) - (nI u)) * (nI (eW E h p))))]) dX10_askBy_74 rfl (nI_inc _) (by decide) rfl rfl ?_
              refine r_goto (pc := 77) (tgt := 8) dX10_askBy_77 (by decide) ?_
              refine wp_sub [some (.ref m), some (.int (nI h)), some (.int (nI u)), some (.int (nI be)), some (.int mo), some (.int (nI (p + 1))), none] ⟨rfl, ⟨rfl, ⟨rfl, ⟨rfl, ⟨rfl, ⟨rfl, trivial⟩⟩⟩⟩⟩⟩ ?_
              exact ih8 _ (by omega) (p + 1) be mo rfl (by omega) (by refine Eq.trans ?_ hcase.symm; first | rfl | exact hbe)
        · skip
          refine r_iload (pc := 24) dX10_askBy_24 rfl ?_
          refine r_bipush (pc := 26) (v := 41) dX10_askBy_26 (by decide) ?_
          refine r_icmp_eq_n (pc := 28) (a := p) (b := 41) (tgt := 34) dX10_askBy_28 (by decide) (by omega) (by omega) (fun c28 => ?_) (fun c28 => ?_)
          · skip
            refine r_iload (pc := 34) dX10_askBy_34 rfl ?_
            refine r_iload_n (pc := 36) dX10_askBy_36 rfl ?_
            refine r_isub (pc := 37) (x := nI p) (z := nI u) dX10_askBy_37 ?_
            refine r_aload_n (pc := 38) dX10_askBy_38 rfl ?_
            refine r_aload_n (pc := 39) dX10_askBy_39 rfl ?_
            refine r_getIv (pc := 40) 10 21 175 dX10_askBy_40 (fl_RX10_175 rfl) (by decide) rfl (c10_o hm) (v := nI k) (hT.1) ?_
            refine r_iload_n (pc := 43) dX10_askBy_43 rfl ?_
            refine r_iload (pc := 44) dX10_askBy_44 rfl ?_
            refine r_callV_P (pc := 46) (b := m) (As := [.int (nI k), .int (nI h), .int (nI p)]) 10 168 dX10_askBy_46 lk_X10_wanted (ml_RX10_168 rfl) im_X10_wanted se_X10_wanted (by decide) (c10_o hm) (Nat.le_of_ble_eq_true rfl) rfl (wanted_ct hm hk hk10 (by omega) (by omega)) ?_
            refine r_imul (pc := 49) (x := (nI p) - (nI u)) (z := nI (eW E h p)) dX10_askBy_49 ?_
            refine r_istore (pc := 50) (L' := [some (.ref m), some (.int (nI h)), some (.int (nI u)), some (.int (nI be)), some (.int mo), some (.int (nI p)), some (.int (((nI p) - (nI u)) * (nI (eW E h p))))]) dX10_askBy_50 (by decide) rfl rfl ?_
            refine r_iload (pc := 52) dX10_askBy_52 rfl ?_
            refine r_if_le_n (pc := 54) (a := p) (tgt := 67) dX10_askBy_54 (by decide) (by omega) (fun c54 => ?_) (fun c54 => ?_)
            · skip
              have hcase : auF (fun p => (nI p - nI u) * nI (eW E h p)) (fun p => decide (p ≤ eK E ∨ p = 41)) (p + 1) = (p, (nI p - nI u) * nI (eW E h p)) := if_pos ⟨by simp; omega, Or.inl (by omega)⟩
              refine r_iload (pc := 67) dX10_askBy_67 rfl ?_
              refine r_istore (pc := 69) (L' := [some (.ref m), some (.int (nI h)), some (.int (nI u)), some (.int (nI be)), some (.int (((nI p) - (nI u)) * (nI (eW E h p)))), some (.int (nI p)), some (.int (((nI p) - (nI u)) * (nI (eW E h p))))]) dX10_askBy_69 (by decide) rfl rfl ?_
              refine r_iload (pc := 71) dX10_askBy_71 rfl ?_
              refine r_istore_n (pc := 73) (L' := [some (.ref m), some (.int (nI h)), some (.int (nI u)), some (.int (nI p)), some (.int (((nI p) - (nI u)) * (nI (eW E h p)))), some (.int (nI p)), some (.int (((nI p) - (nI u)) * (nI (eW E h p))))]) dX10_askBy_73 (by decide) rfl rfl ?_
              refine r_iinc (pc := 74) (v := nI (p + 1)) (L' := [some (.ref m), some (.int (nI h)), some (.int (nI u)), some (.int (nI p)), some (.int (((nI p) - (nI u)) * (nI (eW E h p)))), some (.int (nI (p + 1))), some (.int (((nI p) - (nI u)) * (nI (eW E h p))))]) dX10_askBy_74 rfl (nI_inc _) (by decide) rfl rfl ?_
              refine r_goto (pc := 77) (tgt := 8) dX10_askBy_77 (by decide) ?_
              refine wp_sub [some (.ref m), some (.int (nI h)), some (.int (nI u)), some (.int (nI p)), some (.int (((nI p) - (nI u)) * (nI (eW E h p)))), some (.int (nI (p + 1))), none] ⟨rfl, ⟨rfl, ⟨rfl, ⟨rfl, ⟨rfl, ⟨rfl, trivial⟩⟩⟩⟩⟩⟩ ?_
              exact ih8 _ (by omega) (p + 1) p (((nI p) - (nI u)) * (nI (eW E h p))) rfl (by omega) (by refine Eq.trans ?_ hcase.symm; first | rfl | exact hbe)
            · skip
              refine r_iload (pc := 57) dX10_askBy_57 rfl ?_
              refine r_iload (pc := 59) dX10_askBy_59 rfl ?_
              refine r_icmp_gt (pc := 61) (x := ((nI p) - (nI u)) * (nI (eW E h p))) (z := mo) (tgt := 67) dX10_askBy_61 (by decide) (fun c61 => ?_) (fun c61 => ?_)
              · skip
                have hcase : auF (fun p => (nI p - nI u) * nI (eW E h p)) (fun p => decide (p ≤ eK E ∨ p = 41)) (p + 1) = (p, (nI p - nI u) * nI (eW E h p)) := if_pos ⟨by simp; omega, Or.inr (by rw [← hbe]; exact c61)⟩
                refine r_iload (pc := 67) dX10_askBy_67 rfl ?_
                refine r_istore (pc := 69) (L' := [some (.ref m), some (.int (nI h)), some (.int (nI u)), some (.int (nI be)), some (.int (((nI p) - (nI u)) * (nI (eW E h p)))), some (.int (nI p)), some (.int (((nI p) - (nI u)) * (nI (eW E h p))))]) dX10_askBy_69 (by decide) rfl rfl ?_
                refine r_iload (pc := 71) dX10_askBy_71 rfl ?_
                refine r_istore_n (pc := 73) (L' := [some (.ref m), some (.int (nI h)), some (.int (nI u)), some (.int (nI p)), some (.int (((nI p) - (nI u)) * (nI (eW E h p)))), some (.int (nI p)), some (.int (((nI p) - (nI u)) * (nI (eW E h p))))]) dX10_askBy_73 (by decide) rfl rfl ?_
                refine r_iinc (pc := 74) (v := nI (p + 1)) (L' := [some (.ref m), some (.int (nI h)), some (.int (nI u)), some (.int (nI p)), some (.int (((nI p) - (nI u)) * (nI (eW E h p)))), some (.int (nI (p + 1))), some (.int (((nI p) - (nI u)) * (nI (eW E h p))))]) dX10_askBy_74 rfl (nI_inc _) (by decide) rfl rfl ?_
                refine r_goto (pc := 77) (tgt := 8) dX10_askBy_77 (by decide) ?_
                refine wp_sub [some (.ref m), some (.int (nI h)), some (.int (nI u)), some (.int (nI p)), some (.int (((nI p) - (nI u)) * (nI (eW E h p)))), some (.int (nI (p + 1))), none] ⟨rfl, ⟨rfl, ⟨rfl, ⟨rfl, ⟨rfl, ⟨rfl, trivial⟩⟩⟩⟩⟩⟩ ?_
                exact ih8 _ (by omega) (p + 1) p (((nI p) - (nI u)) * (nI (eW E h p))) rfl (by omega) (by refine Eq.trans ?_ hcase.symm; first | rfl | exact hbe)
              · skip
                have hcase : auF (fun p => (nI p - nI u) * nI (eW E h p)) (fun p => decide (p ≤ eK E ∨ p = 41)) (p + 1) = auF (fun p => (nI p - nI u) * nI (eW E h p)) (fun p => decide (p ≤ eK E ∨ p = 41)) p := if_neg (fun q => by have h2 := q.2.resolve_left c54; rw [← hbe] at h2; exact c61 h2)
                refine r_goto (pc := 64) (tgt := 74) dX10_askBy_64 (by decide) ?_
                refine r_iinc (pc := 74) (v := nI (p + 1)) (L' := [some (.ref m), some (.int (nI h)), some (.int (nI u)), some (.int (nI be)), some (.int mo), some (.int (nI (p + 1))), some (.int (((nI p) - (nI u)) * (nI (eW E h p))))]) dX10_askBy_74 rfl (nI_inc _) (by decide) rfl rfl ?_
                refine r_goto (pc := 77) (tgt := 8) dX10_askBy_77 (by decide) ?_
                refine wp_sub [some (.ref m), some (.int (nI h)), some (.int (nI u)), some (.int (nI be)), some (.int mo), some (.int (nI (p + 1))), none] ⟨rfl, ⟨rfl, ⟨rfl, ⟨rfl, ⟨rfl, ⟨rfl, trivial⟩⟩⟩⟩⟩⟩ ?_
                exact ih8 _ (by omega) (p + 1) be mo rfl (by omega) (by refine Eq.trans ?_ hcase.symm; first | rfl | exact hbe)
          · skip
            have hcase : auF (fun p => (nI p - nI u) * nI (eW E h p)) (fun p => decide (p ≤ eK E ∨ p = 41)) (p + 1) = auF (fun p => (nI p - nI u) * nI (eW E h p)) (fun p => decide (p ≤ eK E ∨ p = 41)) p := if_neg (fun q => by have := q.1; simp at this; omega)
            refine r_goto (pc := 31) (tgt := 74) dX10_askBy_31 (by decide) ?_
            refine r_iinc (pc := 74) (v := nI (p + 1)) (L' := [some (.ref m), some (.int (nI h)), some (.int (nI u)), some (.int (nI be)), some (.int mo), some (.int (nI (p + 1))), none]) dX10_askBy_74 rfl (nI_inc _) (by decide) rfl rfl ?_
            refine r_goto (pc := 77) (tgt := 8) dX10_askBy_77 (by decide) ?_
            exact ih8 _ (by omega) (p + 1) be mo rfl (by omega) (by refine Eq.trans ?_ hcase.symm; first | rfl | exact hbe)
  exact lp8 _ 0 0 0 rfl (by omega) (by rfl)
