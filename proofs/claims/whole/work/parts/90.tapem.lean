/-! ===== the reference: tape and chances ===== -/

set_option maxHeartbeats 300000 in
set_option maxRecDepth 100000 in
theorem end_m {d : Nat} {I : Im} {G : Gm} {s : Sta} {m : Nat} (hm : isC10 G m) (hM : Mi s I m) {n : Int32} : Ct (d + 1) 0 0 YX10_end [.ref m, .int n] (I, G) (qM G (fun zv I2 => PmQ (fEnd s n).2 I m (fEnd s n).1 zv I2)) := by
  refine Ct.of (by decide) (by simp [Value.category]) (Nat.le_of_ble_eq_true rfl) ?_
  have hcn := hM.2.1
  have hcn10 := hM.2.2.1
  have hZ : FrZ I I m := FrZ.rf
  show wp _ _ _ _ 0 [some (.ref m), some (.int n)] [] _ _
  rcases in_cases (n := (sT s).1 + 1) (by have := hM.1.2.1; omega) n with ⟨nn, hnn, rfl, en⟩ | ⟨en, hnon⟩
  · skip
    refine r_aload_n (pc := 0) dX10_end_0 rfl ?_
    refine r_iconst (pc := 1) (v := 0) dX10_end_1 (by decide) ?_
    refine r_putI (pc := 2) (v := nI 0) 10 0 84 dX10_end_2 (fl_RX10_84 rfl) (by decide) rfl rfl (c10_o hm) ?_
    obtain ⟨Ia, hIa⟩ : ∃ zz0 : Im, zz0 = up2 I m 0 (nI 0) := ⟨_, rfl⟩
    refine wp_M (M2 := (Ia, G)) (by subst hIa; rfl) ?_
    have hZ : FrZ I Ia m := by rw [hIa]; exact FrZ.rf.u (by omega)
    refine r_iload_n (pc := 5) dX10_end_5 rfl ?_
    refine r_if_lt_n (pc := 6) (a := nn) (tgt := 17) dX10_end_6 (by decide) (by have := hM.1.2.1; omega) ?_
    refine r_iload_n (pc := 9) dX10_end_9 rfl ?_
    refine r_aload_n (pc := 10) dX10_end_10 rfl ?_
    refine r_getIv (pc := 11) 10 2 88 dX10_end_11 (fl_RX10_88 rfl) (by decide) rfl (c10_o hm) (v := nI ((sT s).1)) ((hZ _ _ (by omega) (by omega)).trans hM.1.1) ?_
    refine r_icmp_le_n (pc := 14) (a := nn) (b := (sT s).1) (tgt := 19) dX10_end_14 (by decide) (by have := hM.1.2.1; omega) (by have := hM.1.2.1; omega) (fun c14 => ?_) (fun c14 => ?_)
    · skip
      refine r_aload_n (pc := 19) dX10_end_19 rfl ?_
      refine r_iload_n (pc := 20) dX10_end_20 rfl ?_
      refine r_putI (pc := 21) (v := nI nn) 10 2 88 dX10_end_21 (fl_RX10_88 rfl) (by decide) rfl rfl (c10_o hm) ?_
      obtain ⟨Ib, hIb⟩ : ∃ zz0 : Im, zz0 = up2 Ia m 2 (nI nn) := ⟨_, rfl⟩
      refine wp_M (M2 := (Ib, G)) (by subst hIb; rfl) ?_
      have hM9 : Mi (sTp s (nn, (sT s).2)) Ib m := hM.tp ⟨by rw [hIb]; exact up2_at, by have := hM.1.2.1; show nn ≤ 300; omega, fun i hi => by rw [hIb, up2_rd (by omega), hIa, up2_rd (by omega)]; exact hM.1.2.2.1 i (by have hi : i < nn := hi; omega), hM.1.2.2.2⟩ (fun a y z1 z2 => by rw [hIb, up2_rd (by omega), hIa, up2_rd (by omega)])
      have hF9 : ∀ x j, ¬ (m ≤ x ∧ x ≤ m + 24) → Ib x j = I x j := fun x j z => by rw [hIb, up2_rd (by omega), hIa, up2_rd (by omega)]
      refine r_iconst (pc := 24) (v := 1) dX10_end_24 (by decide) ?_
      refine r_ret_z (pc := 25) dX10_end_25 rfl (by decide) ?_
      exact ⟨_, Ib, rfl, rfl, by unfold fEnd; rw [atQ_s en] <;> rfl, by unfold fEnd; rw [atQ_s en]; exact hM9, hF9⟩
    · exfalso; omega
  · skip
    refine r_aload_n (pc := 0) dX10_end_0 rfl ?_
    refine r_iconst (pc := 1) (v := 0) dX10_end_1 (by decide) ?_
    refine r_putI (pc := 2) (v := nI 0) 10 0 84 dX10_end_2 (fl_RX10_84 rfl) (by decide) rfl rfl (c10_o hm) ?_
    obtain ⟨Ia, hIa⟩ : ∃ zz0 : Im, zz0 = up2 I m 0 (nI 0) := ⟨_, rfl⟩
    refine wp_M (M2 := (Ia, G)) (by subst hIa; rfl) ?_
    have hZ : FrZ I Ia m := by rw [hIa]; exact FrZ.rf.u (by omega)
    refine r_iload_n (pc := 5) dX10_end_5 rfl ?_
    refine r_if_lt (pc := 6) (x := n) (tgt := 17) dX10_end_6 (by decide) (fun c6 => ?_) (fun c6 => ?_)
    · skip
      refine r_iconst (pc := 17) (v := 0) dX10_end_17 (by decide) ?_
      refine r_ret_z (pc := 18) dX10_end_18 rfl (by decide) ?_
      exact ⟨_, Ia, rfl, rfl, by unfold fEnd; rw [atQ_n en] <;> rfl, by unfold fEnd; rw [atQ_n en]; exact hM.z hZ, fun x j z => hZ x j (by omega) (by omega)⟩
    · skip
      refine r_iload_n (pc := 9) dX10_end_9 rfl ?_
      refine r_aload_n (pc := 10) dX10_end_10 rfl ?_
      refine r_getIv (pc := 11) 10 2 88 dX10_end_11 (fl_RX10_88 rfl) (by decide) rfl (c10_o hm) (v := nI ((sT s).1)) ((hZ _ _ (by omega) (by omega)).trans hM.1.1) ?_
      refine r_icmp_le (pc := 14) (x := n) (z := nI ((sT s).1)) (tgt := 19) dX10_end_14 (by decide) (fun c14 => ?_) (fun c14 => ?_)
      · exfalso; have := hM.1.2.1; exact rg_no (n := (sT s).1) (by omega) hnon c6 c14
      · skip
        refine r_iconst (pc := 17) (v := 0) dX10_end_17 (by decide) ?_
        refine r_ret_z (pc := 18) dX10_end_18 rfl (by decide) ?_
        exact ⟨_, Ia, rfl, rfl, by unfold fEnd; rw [atQ_n en] <;> rfl, by unfold fEnd; rw [atQ_n en]; exact hM.z hZ, fun x j z => hZ x j (by omega) (by omega)⟩

set_option maxHeartbeats 300000 in
set_option maxRecDepth 100000 in
theorem fault_m {d : Nat} {I : Im} {G : Gm} {s : Sta} {m : Nat} (hm : isC10 G m) (hM : Mi s I m) : Ct (d + 7) 0 0 YX10_fault [.ref m] (I, G) (qM G (fun zv I2 => PmQ s I m (aFault s) zv I2)) := by
  refine Ct.of (by decide) (by simp [Value.category]) (Nat.le_of_ble_eq_true rfl) ?_
  have hcn := hM.2.1
  have hcn10 := hM.2.2.1
  have hZ : FrZ I I m := FrZ.rf
  show wp _ _ _ _ 0 [some (.ref m), none] [] _ _
  refine r_aload_n (pc := 0) dX10_fault_0 rfl ?_
  refine r_iconst (pc := 1) (v := 0) dX10_fault_1 (by decide) ?_
  refine r_putI (pc := 2) (v := nI 0) 10 0 84 dX10_fault_2 (fl_RX10_84 rfl) (by decide) rfl rfl (c10_o hm) ?_
  obtain ⟨Ia, hIa⟩ : ∃ zz0 : Im, zz0 = up2 I m 0 (nI 0) := ⟨_, rfl⟩
  refine wp_M (M2 := (Ia, G)) (by subst hIa; rfl) ?_
  have hoa : ∀ a y, ¬ (a = m ∧ y = 0) → Ia a y = I a y := fun a y z => by rw [hIa, up2_rd (by omega)]
  refine r_aload_n (pc := 5) dX10_fault_5 rfl ?_
  refine r_callV_M (pc := 6) (b := m) (As := []) 10 145 dX10_fault_6 lk_X10_readTrade (ml_RX10_145 rfl) im_X10_readTrade se_X10_readTrade (by decide) (c10_o hm) (Nat.le_of_ble_eq_true rfl) rfl (readTrade_ct hm (hM.o hoa).1 hcn10 ((hM.o hoa).2.1)) (fun v6 Ib hIb => ?_)
  obtain ⟨hrd, hfb⟩ := hIb
  have hM9 := (hM.o hoa).rd hfb
  have hF9 : ∀ x j, ¬ (m ≤ x ∧ x ≤ m + 24) → Ib x j = I x j := fun x j z => (hfb x j (by omega) (by omega) (by omega) (by omega) (by omega)).trans (hoa x j (by omega))
  refine r_istore_n (pc := 9) (L' := [some (.ref m), some (.int v6)]) dX10_fault_9 (by decide) rfl rfl ?_
  refine r_aload_n (pc := 10) dX10_fault_10 rfl ?_
  refine r_getI (pc := 11) 10 4 106 dX10_fault_11 (fl_RX10_106 rfl) (by decide) rfl (c10_o hm) ?_
  refine r_ret_i (pc := 14) dX10_fault_14 rfl ?_
  refine ⟨_, Ib, rfl, rfl, ?_, hM9, hF9⟩
  unfold aFault
  rcases hrd with ⟨f, h1, h2, h3, h4⟩ | ⟨D, h1, h2, h3, h4, h5⟩
  · rw [h1]; exact h3
  · rw [h1]; exact h5

set_option maxHeartbeats 300000 in
set_option maxRecDepth 100000 in
theorem feed_m {d : Nat} {I : Im} {G : Gm} {s : Sta} {m : Nat} (hm : isC10 G m) (hM : Mi s I m) {a b c d1 e : Int32} : Ct (d + 2) 0 0 YX10_feed [.ref m, .int a, .int b, .int c, .int d1, .int e] (I, G) (qM G (fun zv I2 => PmQ (fFeed s a b c d1 e).2 I m (fFeed s a b c d1 e).1 zv I2)) := by
  refine Ct.of (by decide) (by simp [Value.category]) (Nat.le_of_ble_eq_true rfl) ?_
  have hcn := hM.2.1
  have hcn10 := hM.2.2.1
  have hZ : FrZ I I m := FrZ.rf
  show wp _ _ _ _ 0 [some (.ref m), some (.int a), some (.int b), some (.int c), some (.int d1), some (.int e)] [] _ _
  refine r_aload_n (pc := 0) dX10_feed_0 rfl ?_
  refine r_iconst (pc := 1) (v := 0) dX10_feed_1 (by decide) ?_
  refine r_putI (pc := 2) (v := nI 0) 10 0 84 dX10_feed_2 (fl_RX10_84 rfl) (by decide) rfl rfl (c10_o hm) ?_
  obtain ⟨Ia, hIa⟩ : ∃ zz0 : Im, zz0 = up2 I m 0 (nI 0) := ⟨_, rfl⟩
  refine wp_M (M2 := (Ia, G)) (by subst hIa; rfl) ?_
  have hoa : ∀ a y, ¬ (a = m ∧ y = 0) → Ia a y = I a y := fun a y z => by rw [hIa, up2_rd (by omega)]
  have hT0 := (hM.o hoa).1
  refine r_aload_n (pc := 5) dX10_feed_5 rfl ?_
  refine r_getIv (pc := 6) 10 2 88 dX10_feed_6 (fl_RX10_88 rfl) (by decide) rfl (c10_o hm) (v := nI ((sT s).1)) (hT0.1) ?_
  refine r_iload_n (pc := 9) dX10_feed_9 rfl ?_
  refine r_callS_P (pc := 10) (As := [.int a]) 91 dX10_feed_10 lk_X10_bytesIn (ml_RX10_91 rfl) sm_X10_bytesIn (Nat.le_of_ble_eq_true rfl) rfl (bytesInM_ct) ?_
  refine r_iadd_n (pc := 13) (a := (sT s).1) (b := bnF a 4) dX10_feed_13 ?_
  refine r_iload_n (pc := 14) dX10_feed_14 rfl ?_
  refine r_callS_P (pc := 15) (As := [.int b]) 91 dX10_feed_15 lk_X10_bytesIn (ml_RX10_91 rfl) sm_X10_bytesIn (Nat.le_of_ble_eq_true rfl) rfl (bytesInM_ct) ?_
  refine r_iadd_n (pc := 18) (a := ((sT s).1) + (bnF a 4)) (b := bnF b 4) dX10_feed_18 ?_
  refine r_iload_n (pc := 19) dX10_feed_19 rfl ?_
  refine r_callS_P (pc := 20) (As := [.int c]) 91 dX10_feed_20 lk_X10_bytesIn (ml_RX10_91 rfl) sm_X10_bytesIn (Nat.le_of_ble_eq_true rfl) rfl (bytesInM_ct) ?_
  refine r_iadd_n (pc := 23) (a := (((sT s).1) + (bnF a 4)) + (bnF b 4)) (b := bnF c 4) dX10_feed_23 ?_
  refine r_iload (pc := 24) dX10_feed_24 rfl ?_
  refine r_callS_P (pc := 26) (As := [.int d1]) 91 dX10_feed_26 lk_X10_bytesIn (ml_RX10_91 rfl) sm_X10_bytesIn (Nat.le_of_ble_eq_true rfl) rfl (bytesInM_ct) ?_
  refine r_iadd_n (pc := 29) (a := ((((sT s).1) + (bnF a 4)) + (bnF b 4)) + (bnF c 4)) (b := bnF d1 4) dX10_feed_29 ?_
  refine r_iload (pc := 30) dX10_feed_30 rfl ?_
  refine r_callS_P (pc := 32) (As := [.int e]) 91 dX10_feed_32 lk_X10_bytesIn (ml_RX10_91 rfl) sm_X10_bytesIn (Nat.le_of_ble_eq_true rfl) rfl (bytesInM_ct) ?_
  refine r_iadd_n (pc := 35) (a := (((((sT s).1) + (bnF a 4)) + (bnF b 4)) + (bnF c 4)) + (bnF d1 4)) (b := bnF e 4) dX10_feed_35 ?_
  refine r_sipush (pc := 36) (v := 300) dX10_feed_36 (by decide) ?_
  refine r_icmp_le_n (pc := 39) (a := ((((((sT s).1) + (bnF a 4)) + (bnF b 4)) + (bnF c 4)) + (bnF d1 4)) + (bnF e 4)) (b := 300) (tgt := 44) dX10_feed_39 (by decide) (by have := hT0.2.1; have := bnF_le a 4; have := bnF_le b 4; have := bnF_le c 4; have := bnF_le d1 4; have := bnF_le e 4; omega) (by have := hT0.2.1; have := bnF_le a 4; have := bnF_le b 4; have := bnF_le c 4; have := bnF_le d1 4; have := bnF_le e 4; omega) (fun c39 => ?_) (fun c39 => ?_)
  · skip
    refine r_aload_n (pc := 44) dX10_feed_44 rfl ?_
    refine r_iload_n (pc := 45) dX10_feed_45 rfl ?_
    refine r_callV_V (pc := 46) (b := m) (As := [.int a]) 10 95 dX10_feed_46 lk_X10_put (ml_RX10_95 rfl) im_X10_put se_X10_put (by decide) (c10_o hm) (Nat.le_of_ble_eq_true rfl) rfl (putM_ct hm hT0 (by first | omega | (simp only [puF_len]; omega))) (fun J1 hJ1 => ?_)
    obtain ⟨hT1, hf1⟩ := hJ1
    have hg1 : ∀ c j, c ≠ m + 1 → ¬ (c = m ∧ (j = 0 ∨ j = 2)) → J1 c j = I c j := fun c j z1 z2 => (hf1 c j z1 (by omega)).trans (hoa c j (by omega))
    refine r_aload_n (pc := 49) dX10_feed_49 rfl ?_
    refine r_iload_n (pc := 50) dX10_feed_50 rfl ?_
    refine r_callV_V (pc := 51) (b := m) (As := [.int b]) 10 95 dX10_feed_51 lk_X10_put (ml_RX10_95 rfl) im_X10_put se_X10_put (by decide) (c10_o hm) (Nat.le_of_ble_eq_true rfl) rfl (putM_ct hm hT1 (by first | omega | (simp only [puF_len]; omega))) (fun J2 hJ2 => ?_)
    obtain ⟨hT2, hf2⟩ := hJ2
    have hg2 : ∀ c j, c ≠ m + 1 → ¬ (c = m ∧ (j = 0 ∨ j = 2)) → J2 c j = I c j := fun c j z1 z2 => (hf2 c j z1 (by omega)).trans (hg1 c j z1 z2)
    refine r_aload_n (pc := 54) dX10_feed_54 rfl ?_
    refine r_iload_n (pc := 55) dX10_feed_55 rfl ?_
    refine r_callV_V (pc := 56) (b := m) (As := [.int c]) 10 95 dX10_feed_56 lk_X10_put (ml_RX10_95 rfl) im_X10_put se_X10_put (by decide) (c10_o hm) (Nat.le_of_ble_eq_true rfl) rfl (putM_ct hm hT2 (by first | omega | (simp only [puF_len]; omega))) (fun J3 hJ3 => ?_)
    obtain ⟨hT3, hf3⟩ := hJ3
    have hg3 : ∀ c j, c ≠ m + 1 → ¬ (c = m ∧ (j = 0 ∨ j = 2)) → J3 c j = I c j := fun c j z1 z2 => (hf3 c j z1 (by omega)).trans (hg2 c j z1 z2)
    refine r_aload_n (pc := 59) dX10_feed_59 rfl ?_
    refine r_iload (pc := 60) dX10_feed_60 rfl ?_
    refine r_callV_V (pc := 62) (b := m) (As := [.int d1]) 10 95 dX10_feed_62 lk_X10_put (ml_RX10_95 rfl) im_X10_put se_X10_put (by decide) (c10_o hm) (Nat.le_of_ble_eq_true rfl) rfl (putM_ct hm hT3 (by first | omega | (simp only [puF_len]; omega))) (fun J4 hJ4 => ?_)
    obtain ⟨hT4, hf4⟩ := hJ4
    have hg4 : ∀ c j, c ≠ m + 1 → ¬ (c = m ∧ (j = 0 ∨ j = 2)) → J4 c j = I c j := fun c j z1 z2 => (hf4 c j z1 (by omega)).trans (hg3 c j z1 z2)
    refine r_aload_n (pc := 65) dX10_feed_65 rfl ?_
    refine r_iload (pc := 66) dX10_feed_66 rfl ?_
    refine r_callV_V (pc := 68) (b := m) (As := [.int e]) 10 95 dX10_feed_68 lk_X10_put (ml_RX10_95 rfl) im_X10_put se_X10_put (by decide) (c10_o hm) (Nat.le_of_ble_eq_true rfl) rfl (putM_ct hm hT4 (by first | omega | (simp only [puF_len]; omega))) (fun J5 hJ5 => ?_)
    obtain ⟨hT5, hf5⟩ := hJ5
    have hg5 : ∀ c j, c ≠ m + 1 → ¬ (c = m ∧ (j = 0 ∨ j = 2)) → J5 c j = I c j := fun c j z1 z2 => (hf5 c j z1 (by omega)).trans (hg4 c j z1 z2)
    refine r_aload_n (pc := 71) dX10_feed_71 rfl ?_
    refine r_getIv (pc := 72) 10 2 88 dX10_feed_72 (fl_RX10_88 rfl) (by decide) rfl (c10_o hm) (v := nI ((puF (puF (puF (puF (puF (sT s) a 4) b 4) c 4) d1 4) e 4).1)) (hT5.1) ?_
    refine r_ret_i (pc := 75) dX10_feed_75 rfl ?_
    have e9 : fFeed s a b c d1 e = (nI (puF (puF (puF (puF (puF (sT s) a 4) b 4) c 4) d1 4) e 4).1, sTp s (puF (puF (puF (puF (puF (sT s) a 4) b 4) c 4) d1 4) e 4)) := if_pos (by omega)
    refine ⟨_, J5, rfl, rfl, by rw [e9], ?_, fun x j z => hg5 x j (by omega) (by omega)⟩
    rw [e9]
    exact hM.tp hT5 hg5
  · skip
    refine r_iconst (pc := 42) (v := -1) dX10_feed_42 (by decide) ?_
    refine r_ret_i (pc := 43) dX10_feed_43 rfl ?_
    have e9 : fFeed s a b c d1 e = (-1, s) := if_neg (by omega)
    exact ⟨_, Ia, rfl, rfl, by rw [e9], by rw [e9]; exact hM.o hoa, fun x j z => hoa x j (by omega)⟩

set_option maxHeartbeats 300000 in
set_option maxRecDepth 100000 in
theorem chance_m {d : Nat} {I : Im} {G : Gm} {s : Sta} {m : Nat} (hm : isC10 G m) (hM : Mi s I m) {w g : Int32} : Ct (d + 2) 0 0 YX10_chance [.ref m, .int w, .int g] (I, G) (qM G (fun zv I2 => PmQ (fChance s w g).2 I m (fChance s w g).1 zv I2)) := by
  refine Ct.of (by decide) (by simp [Value.category]) (Nat.le_of_ble_eq_true rfl) ?_
  have hcn := hM.2.1
  have hcn10 := hM.2.2.1
  have hZ : FrZ I I m := FrZ.rf
  have hz12 : sZ s ≤ 12 := hM.2.2.2.2.2.1
  show wp _ _ _ _ 0 [some (.ref m), some (.int w), some (.int g)] [] _ _
  rcases in_cases (n := 61) (by omega) w with ⟨wn, hwn, rfl, ew⟩ | ⟨ew, hnow⟩
  · skip
    rcases in_cases (n := 100) (by omega) g with ⟨gn, hgn, rfl, eg⟩ | ⟨eg, hnog⟩
    · skip
      refine r_aload_n (pc := 0) dX10_chance_0 rfl ?_
      refine r_iconst (pc := 1) (v := 0) dX10_chance_1 (by decide) ?_
      refine r_putI (pc := 2) (v := nI 0) 10 0 84 dX10_chance_2 (fl_RX10_84 rfl) (by decide) rfl rfl (c10_o hm) ?_
      obtain ⟨Ia, hIa⟩ : ∃ zz0 : Im, zz0 = up2 I m 0 (nI 0) := ⟨_, rfl⟩
      refine wp_M (M2 := (Ia, G)) (by subst hIa; rfl) ?_
      have hoa : ∀ a y, ¬ (a = m ∧ y = 0) → Ia a y = I a y := fun a y z => by rw [hIa, up2_rd (by omega)]
      have hZ : FrZ I Ia m := by rw [hIa]; exact FrZ.rf.u (by omega)
      refine r_aload_n (pc := 5) dX10_chance_5 rfl ?_
      refine r_getIv (pc := 6) 10 37 296 dX10_chance_6 (fl_RX10_296 rfl) (by decide) rfl (c10_o hm) (v := nI (sZ s)) ((hZ _ _ (by omega) (by omega)).trans hM.2.2.2.2.1) ?_
      refine r_bipush (pc := 9) (v := 12) dX10_chance_9 (by decide) ?_
      refine r_icmp_eq_n (pc := 11) (a := sZ s) (b := 12) (tgt := 34) dX10_chance_11 (by decide) (by have := hM.2.2.2.2.2.1; omega) (by have := hM.2.2.2.2.2.1; omega) (fun c11 => ?_) (fun c11 => ?_)
      · skip
        refine r_iconst (pc := 34) (v := -1) dX10_chance_34 (by decide) ?_
        refine r_ret_i (pc := 35) dX10_chance_35 rfl ?_
        have hn9 : ¬ (1 ≤ gn ∧ sZ s < 12) := fun z => by
          have := hM.2.2.2.2.2.1
          first
          | omega
          | exact c31 ⟨nI_le z.1 (by omega), nI_le (by omega) (by omega)⟩
        exact ⟨_, Ia, rfl, rfl, by unfold fChance; rw [atQ_s ew, atQ_s eg, if_neg hn9], by unfold fChance; rw [atQ_s ew, atQ_s eg, if_neg hn9]; exact hM.z hZ, fun x j z => hZ x j (by omega) (by omega)⟩
      · skip
        refine r_iload_n (pc := 14) dX10_chance_14 rfl ?_
        refine r_iconst (pc := 15) (v := 0) dX10_chance_15 (by decide) ?_
        refine r_bipush (pc := 16) (v := 60) dX10_chance_16 (by decide) ?_
        refine r_callS_P (pc := 18) (As := [.int (nI wn), .int (nI 0), .int (nI 60)]) 123 dX10_chance_18 lk_X10_isIn (ml_RX10_123 rfl) sm_X10_isIn (Nat.le_of_ble_eq_true rfl) rfl (isIn_y (n := 60) (by omega) hwn) ?_
        refine r_if_eq_n (pc := 21) (a := 1) (tgt := 34) dX10_chance_21 (by decide) (by have := hM.2.2.2.2.2.1; omega) (fun c21 => ?_) (fun c21 => ?_)
        · exfalso; omega
        · skip
          refine r_iload_n (pc := 24) dX10_chance_24 rfl ?_
          refine r_iconst (pc := 25) (v := 1) dX10_chance_25 (by decide) ?_
          refine r_bipush (pc := 26) (v := 99) dX10_chance_26 (by decide) ?_
          refine r_callS_P (pc := 28) (As := [.int (nI gn), .int (nI 1), .int (nI 99)]) 123 dX10_chance_28 lk_X10_isIn (ml_RX10_123 rfl) sm_X10_isIn (Nat.le_of_ble_eq_true rfl) rfl (isIn_ct) ?_
          refine r_if_ne_b (pc := 31) (tgt := 36) dX10_chance_31 (by decide) (fun c31 => ?_) (fun c31 => ?_)
          · skip
            have hg1 : 1 ≤ gn := by have := c31.1; rw [nI_leI (by omega) (by omega)] at this; exact this
            refine r_aload_n (pc := 36) dX10_chance_36 rfl ?_
            refine r_get1 (pc := 37) 10 35 78 dX10_chance_37 (fl_RX10_78 rfl) (by decide) rfl (c10_o hm) (c10_p35 hm) ?_
            refine r_aload_n (pc := 40) dX10_chance_40 rfl ?_
            refine r_getIv (pc := 41) 10 37 296 dX10_chance_41 (fl_RX10_296 rfl) (by decide) rfl (c10_o hm) (v := nI (sZ s)) ((hZ _ _ (by omega) (by omega)).trans hM.2.2.2.2.1) ?_
            refine r_iload_n (pc := 44) dX10_chance_44 rfl ?_
            refine r_iast_n (pc := 45) (i := sZ s) (v := nI wn) dX10_chance_45 (c10_a35 hm) (by decide) (by omega) ?_
            refine r_aload_n (pc := 46) dX10_chance_46 rfl ?_
            refine r_get1 (pc := 47) 10 36 81 dX10_chance_47 (fl_RX10_81 rfl) (by decide) rfl (c10_o hm) (c10_p36 hm) ?_
            refine r_aload_n (pc := 50) dX10_chance_50 rfl ?_
            refine r_getIv (pc := 51) 10 37 296 dX10_chance_51 (fl_RX10_296 rfl) (by decide) rfl (c10_o hm) (v := nI (sZ s)) ((up2_rd (by omega)).trans ((hZ _ _ (by omega) (by omega)).trans hM.2.2.2.2.1)) ?_
            refine r_iload_n (pc := 54) dX10_chance_54 rfl ?_
            refine r_iast_n (pc := 55) (i := sZ s) (v := nI gn) dX10_chance_55 (c10_a36 hm) (by decide) (by omega) ?_
            refine r_aload_n (pc := 56) dX10_chance_56 rfl ?_
            refine r_dup (pc := 57) dX10_chance_57 rfl ?_
            refine r_getIv (pc := 58) 10 37 296 dX10_chance_58 (fl_RX10_296 rfl) (by decide) rfl (c10_o hm) (v := nI (sZ s)) ((up2_rd (by omega)).trans ((up2_rd (by omega)).trans ((hZ _ _ (by omega) (by omega)).trans hM.2.2.2.2.1))) ?_
            refine r_iconst (pc := 61) (v := 1) dX10_chance_61 (by decide) ?_
            refine r_iadd_n (pc := 62) (a := sZ s) (b := 1) dX10_chance_62 ?_
            refine r_putI (pc := 63) (v := nI ((sZ s) + 1)) 10 37 296 dX10_chance_63 (fl_RX10_296 rfl) (by decide) rfl rfl (c10_o hm) ?_
            obtain ⟨Ib, hIb⟩ : ∃ zz0 : Im, zz0 = up2 (up2 (up2 Ia (m + 23) (sZ s) (nI wn)) (m + 24) (sZ s) (nI gn)) m 37 (nI ((sZ s) + 1)) := ⟨_, rfl⟩
            refine wp_M (M2 := (Ib, G)) (by subst hIb; rfl) ?_
            have hc := hM.2.2.2.2
            have hM9 : Mi (sCh s (sZ s + 1) (fu (sW s) (sZ s) wn) (fu (sV s) (sZ s) gn)) Ib m := by
              refine hM.ch ⟨by rw [hIb]; exact up2_at, by omega, fun k hk => ?_, fun k => ?_⟩ (fun a y z1 z2 z3 => by rw [hIb, up2_rd (by omega), up2_rd (by omega), up2_rd (by omega)]; exact hoa a y (by omega))
              · by_cases e : k = sZ s
                · rw [e, fu_at, fu_at, hIb]; exact ⟨(up2_rd (by omega)).trans ((up2_rd (by omega)).trans up2_at), (up2_rd (by omega)).trans up2_at⟩
                · rw [fu_ne e, fu_ne e, hIb]; exact ⟨(up2_rd (by omega)).trans ((up2_rd (by omega)).trans ((up2_rd (by omega)).trans ((hoa _ _ (by omega)).trans (hc.2.2.1 k (by omega)).1))), (up2_rd (by omega)).trans ((up2_rd (by omega)).trans ((up2_rd (by omega)).trans ((hoa _ _ (by omega)).trans (hc.2.2.1 k (by omega)).2)))⟩
              · unfold fu
                split
                · omega
                · exact hc.2.2.2 k
            have hF9 : ∀ x j, ¬ (m ≤ x ∧ x ≤ m + 24) → Ib x j = I x j := fun x j z => by rw [hIb, up2_rd (by omega), up2_rd (by omega), up2_rd (by omega)]; exact hoa x j (by omega)
            have h37 : Ib m 37 = nI (sZ s + 1) := by rw [hIb]; exact up2_at
            refine r_aload_n (pc := 66) dX10_chance_66 rfl ?_
            refine r_getIv (pc := 67) 10 37 296 dX10_chance_67 (fl_RX10_296 rfl) (by decide) rfl (c10_o hm) (v := nI (sZ s + 1)) (h37) ?_
            refine r_ret_i (pc := 70) dX10_chance_70 rfl ?_
            exact ⟨_, Ib, rfl, rfl, by unfold fChance; rw [atQ_s ew, atQ_s eg, if_pos (by omega)], by unfold fChance; rw [atQ_s ew, atQ_s eg, if_pos (by omega)]; exact hM9, hF9⟩
          · skip
            refine r_iconst (pc := 34) (v := -1) dX10_chance_34 (by decide) ?_
            refine r_ret_i (pc := 35) dX10_chance_35 rfl ?_
            have hn9 : ¬ (1 ≤ gn ∧ sZ s < 12) := fun z => by
              have := hM.2.2.2.2.2.1
              first
              | omega
              | exact c31 ⟨nI_le z.1 (by omega), nI_le (by omega) (by omega)⟩
            exact ⟨_, Ia, rfl, rfl, by unfold fChance; rw [atQ_s ew, atQ_s eg, if_neg hn9], by unfold fChance; rw [atQ_s ew, atQ_s eg, if_neg hn9]; exact hM.z hZ, fun x j z => hZ x j (by omega) (by omega)⟩
    · skip
      refine r_aload_n (pc := 0) dX10_chance_0 rfl ?_
      refine r_iconst (pc := 1) (v := 0) dX10_chance_1 (by decide) ?_
      refine r_putI (pc := 2) (v := nI 0) 10 0 84 dX10_chance_2 (fl_RX10_84 rfl) (by decide) rfl rfl (c10_o hm) ?_
      obtain ⟨Ia, hIa⟩ : ∃ zz0 : Im, zz0 = up2 I m 0 (nI 0) := ⟨_, rfl⟩
      refine wp_M (M2 := (Ia, G)) (by subst hIa; rfl) ?_
      have hoa : ∀ a y, ¬ (a = m ∧ y = 0) → Ia a y = I a y := fun a y z => by rw [hIa, up2_rd (by omega)]
      have hZ : FrZ I Ia m := by rw [hIa]; exact FrZ.rf.u (by omega)
      refine r_aload_n (pc := 5) dX10_chance_5 rfl ?_
      refine r_getIv (pc := 6) 10 37 296 dX10_chance_6 (fl_RX10_296 rfl) (by decide) rfl (c10_o hm) (v := nI (sZ s)) ((hZ _ _ (by omega) (by omega)).trans hM.2.2.2.2.1) ?_
      refine r_bipush (pc := 9) (v := 12) dX10_chance_9 (by decide) ?_
      refine r_icmp_eq_n (pc := 11) (a := sZ s) (b := 12) (tgt := 34) dX10_chance_11 (by decide) (by have := hM.2.2.2.2.2.1; omega) (by have := hM.2.2.2.2.2.1; omega) (fun c11 => ?_) (fun c11 => ?_)
      · skip
        refine r_iconst (pc := 34) (v := -1) dX10_chance_34 (by decide) ?_
        refine r_ret_i (pc := 35) dX10_chance_35 rfl ?_
        exact ⟨_, Ia, rfl, rfl, by unfold fChance; rw [atQ_s ew, atQ_n eg] <;> rfl, by unfold fChance; rw [atQ_s ew, atQ_n eg]; exact hM.z hZ, fun x j z => hZ x j (by omega) (by omega)⟩
      · skip
        refine r_iload_n (pc := 14) dX10_chance_14 rfl ?_
        refine r_iconst (pc := 15) (v := 0) dX10_chance_15 (by decide) ?_
        refine r_bipush (pc := 16) (v := 60) dX10_chance_16 (by decide) ?_
        refine r_callS_P (pc := 18) (As := [.int (nI wn), .int (nI 0), .int (nI 60)]) 123 dX10_chance_18 lk_X10_isIn (ml_RX10_123 rfl) sm_X10_isIn (Nat.le_of_ble_eq_true rfl) rfl (isIn_y (n := 60) (by omega) hwn) ?_
        refine r_if_eq_n (pc := 21) (a := 1) (tgt := 34) dX10_chance_21 (by decide) (by have := hM.2.2.2.2.2.1; omega) (fun c21 => ?_) (fun c21 => ?_)
        · exfalso; omega
        · skip
          refine r_iload_n (pc := 24) dX10_chance_24 rfl ?_
          refine r_iconst (pc := 25) (v := 1) dX10_chance_25 (by decide) ?_
          refine r_bipush (pc := 26) (v := 99) dX10_chance_26 (by decide) ?_
          refine r_callS_P (pc := 28) (As := [.int g, .int (nI 1), .int (nI 99)]) 123 dX10_chance_28 lk_X10_isIn (ml_RX10_123 rfl) sm_X10_isIn (Nat.le_of_ble_eq_true rfl) rfl (isIn_ct) ?_
          refine r_if_ne_b (pc := 31) (tgt := 36) dX10_chance_31 (by decide) (fun c31 => ?_) (fun c31 => ?_)
          · exfalso; exact hnog ((rg_iff (n := 99) (by omega)).mpr ⟨Int32.le_trans (by decide) c31.1, c31.2⟩)
          · skip
            refine r_iconst (pc := 34) (v := -1) dX10_chance_34 (by decide) ?_
            refine r_ret_i (pc := 35) dX10_chance_35 rfl ?_
            exact ⟨_, Ia, rfl, rfl, by unfold fChance; rw [atQ_s ew, atQ_n eg] <;> rfl, by unfold fChance; rw [atQ_s ew, atQ_n eg]; exact hM.z hZ, fun x j z => hZ x j (by omega) (by omega)⟩
  · skip
    refine r_aload_n (pc := 0) dX10_chance_0 rfl ?_
    refine r_iconst (pc := 1) (v := 0) dX10_chance_1 (by decide) ?_
    refine r_putI (pc := 2) (v := nI 0) 10 0 84 dX10_chance_2 (fl_RX10_84 rfl) (by decide) rfl rfl (c10_o hm) ?_
    obtain ⟨Ia, hIa⟩ : ∃ zz0 : Im, zz0 = up2 I m 0 (nI 0) := ⟨_, rfl⟩
    refine wp_M (M2 := (Ia, G)) (by subst hIa; rfl) ?_
    have hoa : ∀ a y, ¬ (a = m ∧ y = 0) → Ia a y = I a y := fun a y z => by rw [hIa, up2_rd (by omega)]
    have hZ : FrZ I Ia m := by rw [hIa]; exact FrZ.rf.u (by omega)
    refine r_aload_n (pc := 5) dX10_chance_5 rfl ?_
    refine r_getIv (pc := 6) 10 37 296 dX10_chance_6 (fl_RX10_296 rfl) (by decide) rfl (c10_o hm) (v := nI (sZ s)) ((hZ _ _ (by omega) (by omega)).trans hM.2.2.2.2.1) ?_
    refine r_bipush (pc := 9) (v := 12) dX10_chance_9 (by decide) ?_
    refine r_icmp_eq_n (pc := 11) (a := sZ s) (b := 12) (tgt := 34) dX10_chance_11 (by decide) (by have := hM.2.2.2.2.2.1; omega) (by have := hM.2.2.2.2.2.1; omega) (fun c11 => ?_) (fun c11 => ?_)
    · skip
      refine r_iconst (pc := 34) (v := -1) dX10_chance_34 (by decide) ?_
      refine r_ret_i (pc := 35) dX10_chance_35 rfl ?_
      exact ⟨_, Ia, rfl, rfl, by unfold fChance; rw [atQ_n ew] <;> rfl, by unfold fChance; rw [atQ_n ew]; exact hM.z hZ, fun x j z => hZ x j (by omega) (by omega)⟩
    · skip
      refine r_iload_n (pc := 14) dX10_chance_14 rfl ?_
      refine r_iconst (pc := 15) (v := 0) dX10_chance_15 (by decide) ?_
      refine r_bipush (pc := 16) (v := 60) dX10_chance_16 (by decide) ?_
      refine r_callS_P (pc := 18) (As := [.int w, .int (nI 0), .int (nI 60)]) 123 dX10_chance_18 lk_X10_isIn (ml_RX10_123 rfl) sm_X10_isIn (Nat.le_of_ble_eq_true rfl) rfl (isIn_no (n := 60) (by omega) hnow) ?_
      refine r_if_eq_n (pc := 21) (a := 0) (tgt := 34) dX10_chance_21 (by decide) (by have := hM.2.2.2.2.2.1; omega) (fun c21 => ?_) (fun c21 => ?_)
      · skip
        refine r_iconst (pc := 34) (v := -1) dX10_chance_34 (by decide) ?_
        refine r_ret_i (pc := 35) dX10_chance_35 rfl ?_
        exact ⟨_, Ia, rfl, rfl, by unfold fChance; rw [atQ_n ew] <;> rfl, by unfold fChance; rw [atQ_n ew]; exact hM.z hZ, fun x j z => hZ x j (by omega) (by omega)⟩
      · exfalso; omega

set_option maxHeartbeats 300000 in
set_option maxRecDepth 100000 in
theorem clear_m {d : Nat} {I : Im} {G : Gm} {s : Sta} {m : Nat} (hm : isC10 G m) (hM : Mi s I m) : Ct (d + 1) 0 0 YX10_clear [.ref m] (I, G) (qM G (fun zv I2 => PmQ (fClear s).2 I m (fClear s).1 zv I2)) := by
  refine Ct.of (by decide) (by simp [Value.category]) (Nat.le_of_ble_eq_true rfl) ?_
  have hcn := hM.2.1
  have hcn10 := hM.2.2.1
  have hZ : FrZ I I m := FrZ.rf
  show wp _ _ _ _ 0 [some (.ref m), none] [] _ _
  refine r_aload_n (pc := 0) dX10_clear_0 rfl ?_
  refine r_iconst (pc := 1) (v := 0) dX10_clear_1 (by decide) ?_
  refine r_putI (pc := 2) (v := nI 0) 10 0 84 dX10_clear_2 (fl_RX10_84 rfl) (by decide) rfl rfl (c10_o hm) ?_
  obtain ⟨Ia, hIa⟩ : ∃ zz0 : Im, zz0 = up2 I m 0 (nI 0) := ⟨_, rfl⟩
  refine wp_M (M2 := (Ia, G)) (by subst hIa; rfl) ?_
  have hoa : ∀ a y, ¬ (a = m ∧ y = 0) → Ia a y = I a y := fun a y z => by rw [hIa, up2_rd (by omega)]
  have hZ : FrZ I Ia m := by rw [hIa]; exact FrZ.rf.u (by omega)
  refine r_aload_n (pc := 5) dX10_clear_5 rfl ?_
  refine r_getIv (pc := 6) 10 37 296 dX10_clear_6 (fl_RX10_296 rfl) (by decide) rfl (c10_o hm) (v := nI (sZ s)) ((hZ _ _ (by omega) (by omega)).trans hM.2.2.2.2.1) ?_
  refine r_istore_n (pc := 9) (L' := [some (.ref m), some (.int (nI (sZ s)))]) dX10_clear_9 (by decide) rfl rfl ?_
  refine r_aload_n (pc := 10) dX10_clear_10 rfl ?_
  refine r_iconst (pc := 11) (v := 0) dX10_clear_11 (by decide) ?_
  refine r_putI (pc := 12) (v := nI 0) 10 37 296 dX10_clear_12 (fl_RX10_296 rfl) (by decide) rfl rfl (c10_o hm) ?_
  refine r_iload_n (pc := 15) dX10_clear_15 rfl ?_
  refine r_ret_i (pc := 16) dX10_clear_16 rfl ?_
  exact ⟨_, _, rfl, rfl, rfl, hM.ch ⟨up2_at, Nat.zero_le _, fun k hk => absurd hk (Nat.not_lt_zero _), hM.2.2.2.2.2.2.2⟩ (fun a y z1 z2 z3 => (up2_rd (by omega)).trans (hoa a y (by omega))), fun x j z => (up2_rd (by omega)).trans (hoa x j (by omega))⟩
