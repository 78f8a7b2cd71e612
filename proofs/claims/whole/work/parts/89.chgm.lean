/-! ===== the reference: changes ===== -/
theorem MdI.kp {I I2 : Im} {m k : Nat} {x : Td} (h : MdI I m k x) (hT : (dT (tdD x)).1 ≤ 20) (hf : ∀ a y, ((a = m + 2 ∨ a = m + 6 ∨ a = m + 10 ∨ a = m + 11 ∨ a = m + 14 ∨ a = m + 15) ∧ y = k) ∨ (((m + 3 ≤ a ∧ a ≤ m + 5) ∨ a = m + 12 ∨ a = m + 13) ∧ 8 * k ≤ y ∧ y < 8 * k + 8) ∨ ((m + 7 ≤ a ∧ a ≤ m + 9) ∧ 20 * k ≤ y ∧ y < 20 * k + 20) → I2 a y = I a y) : MdI I2 m k x := by
  obtain ⟨⟨d1, d2, d3, d4⟩, ⟨t1, t2, t3, t4, t5⟩, ⟨o1, o2, o3⟩⟩ := h
  exact ⟨⟨(hf _ _ (by omega)).trans d1, fun y hy => ⟨(hf _ _ (by omega)).trans (d2 y hy).1, (hf _ _ (by omega)).trans (d2 y hy).2.1, (hf _ _ (by omega)).trans (d2 y hy).2.2⟩, (hf _ _ (by omega)).trans d3, fun i hi => ⟨(hf _ _ (by omega)).trans (d4 i hi).1, (hf _ _ (by omega)).trans (d4 i hi).2.1, (hf _ _ (by omega)).trans (d4 i hi).2.2⟩⟩, ⟨(hf _ _ (by omega)).trans t1, (hf _ _ (by omega)).trans t2, t3, (hf _ _ (by omega)).trans t4, (hf _ _ (by omega)).trans t5⟩, ⟨fun y hy => (hf _ _ (by omega)).trans (o1 y hy), fun y hy => (hf _ _ (by omega)).trans (o2 y hy), o3⟩⟩
theorem Mi.up {s : Sta} {I I2 : Im} {m k : Nat} {x : Td} (h : Mi s I m) (hk : k < sN s) (hok : TdOK x) (hx : MdI I2 m k x) (hf : ∀ a y, ¬ (a = m ∧ y = 0) → ¬ ((a = m + 10 ∨ a = m + 11 ∨ a = m + 14 ∨ a = m + 15) ∧ y = k) → ¬ ((a = m + 12 ∨ a = m + 13) ∧ 8 * k ≤ y ∧ y < 8 * k + 8) → I2 a y = I a y) : Mi (sUp s k x) I2 m := by
  obtain ⟨h1, h2, h3, h4, h5⟩ := h
  refine ⟨⟨(hf _ _ (by omega) (by omega) (by omega)).trans h1.1, h1.2.1, fun i hi => by rw [hf _ _ (by omega) (by omega) (by omega)]; exact h1.2.2.1 i hi, h1.2.2.2⟩, (hf _ _ (by omega) (by omega) (by omega)).trans h2, h3, fun j hj => ?_, ⟨(hf _ _ (by omega) (by omega) (by omega)).trans h5.1, h5.2.1, fun k hk => ⟨(hf _ _ (by omega) (by omega) (by omega)).trans (h5.2.2.1 k hk).1, (hf _ _ (by omega) (by omega) (by omega)).trans (h5.2.2.1 k hk).2⟩, h5.2.2.2⟩⟩
  by_cases e : j = k
  · subst e
    rw [show sD (sUp s j x) j = x from fu_at]
    exact ⟨hok, hx⟩
  · rw [show sD (sUp s k x) j = sD s j from fu_ne e]
    obtain ⟨k1, k2⟩ := h4 j hj
    exact ⟨k1, k2.kp k1.1.2.2.2.2.1 (fun a y z => hf a y (by omega) (by omega) (by omega))⟩
theorem Mi.tp {s : Sta} {I I2 : Im} {m : Nat} {T : Tp} (h : Mi s I m) (hT : TpM I2 m T) (hf : ∀ a y, a ≠ m + 1 → ¬ (a = m ∧ (y = 0 ∨ y = 2)) → I2 a y = I a y) : Mi (sTp s T) I2 m := by
  obtain ⟨h1, h2, h3, h4, h5⟩ := h
  exact ⟨hT, (hf _ _ (by omega) (by omega)).trans h2, h3, fun j hj => ⟨(h4 j hj).1, (h4 j hj).2.kp (h4 j hj).1.1.2.2.2.2.1 (fun a y z => hf a y (by omega) (by omega))⟩, ⟨(hf _ _ (by omega) (by omega)).trans h5.1, h5.2.1, fun k hk => ⟨(hf _ _ (by omega) (by omega)).trans (h5.2.2.1 k hk).1, (hf _ _ (by omega) (by omega)).trans (h5.2.2.1 k hk).2⟩, h5.2.2.2⟩⟩
theorem Mi.ch {s : Sta} {I I2 : Im} {m z : Nat} {w g : Nat → Nat} (h : Mi s I m) (hc : ChM I2 m z w g) (hf : ∀ a y, a ≠ m + 23 → a ≠ m + 24 → ¬ (a = m ∧ (y = 0 ∨ y = 37)) → I2 a y = I a y) : Mi (sCh s z w g) I2 m := by
  obtain ⟨h1, h2, h3, h4, h5⟩ := h
  exact ⟨⟨(hf _ _ (by omega) (by omega) (by omega)).trans h1.1, h1.2.1, fun i hi => by rw [hf _ _ (by omega) (by omega) (by omega)]; exact h1.2.2.1 i hi, h1.2.2.2⟩, (hf _ _ (by omega) (by omega) (by omega)).trans h2, h3, fun j hj => ⟨(h4 j hj).1, (h4 j hj).2.kp (h4 j hj).1.1.2.2.2.2.1 (fun a y z => hf a y (by omega) (by omega) (by omega))⟩, hc⟩
/-- a text is read into the next row -/
theorem Mi.rd {s : Sta} {I I2 : Im} {m : Nat} (h : Mi s I m) (hf : FrP I I2 m (sN s)) : Mi s I2 m := by
  obtain ⟨h1, h2, h3, h4, h5⟩ := h
  exact ⟨h1.keepP hf, (hf _ _ (by omega) (by omega) (by omega) (by omega) (by omega)).trans h2, h3, fun j hj => ⟨(h4 j hj).1, (h4 j hj).2.kp (h4 j hj).1.1.2.2.2.2.1 (fun a y z => hf a y (by omega) (by omega) (by omega) (by omega) (by omega))⟩, ⟨(hf _ _ (by omega) (by omega) (by omega) (by omega) (by omega)).trans h5.1, h5.2.1, fun k hk => ⟨(hf _ _ (by omega) (by omega) (by omega) (by omega) (by omega)).trans (h5.2.2.1 k hk).1, (hf _ _ (by omega) (by omega) (by omega) (by omega) (by omega)).trans (h5.2.2.1 k hk).2⟩, h5.2.2.2⟩⟩
theorem Mi.o {s : Sta} {I I2 : Im} {m : Nat} (h : Mi s I m) (hf : ∀ a y, ¬ (a = m ∧ y = 0) → I2 a y = I a y) : Mi s I2 m := h.keep (fun a x z => hf a x (by omega))

set_option maxHeartbeats 300000 in
set_option maxRecDepth 100000 in
theorem join_m {d : Nat} {I : Im} {G : Gm} {s : Sta} {m : Nat} (hm : isC10 G m) (hM : Mi s I m) {t : Int32} {b : Int32} : Ct (d + 2) 0 0 YX10_join [.ref m, .int t, .int b] (I, G) (qM G (fun zv I2 => PmQ (fJoin s t b).2 I m (fJoin s t b).1 zv I2)) := by
  refine Ct.of (by decide) (by simp [Value.category]) (Nat.le_of_ble_eq_true rfl) ?_
  have hcn := hM.2.1
  have hcn10 := hM.2.2.1
  have hZ : FrZ I I m := FrZ.rf
  show wp _ _ _ _ 0 [some (.ref m), some (.int t), some (.int b)] [] _ _
  rcases in_cases (n := sN s) (by have := hcn10; omega) t with ⟨k, hk, rfl, et⟩ | ⟨et, hnot⟩
  · skip
    obtain ⟨hok, hMd⟩ := hM.2.2.2.1 k hk
    have hk0 : MtC I m k (eK' s k) (dT (dK s k)) := mtc_of hok.1 hMd.1 _
    have hn8 : dN (dK s k) ≤ 8 := hok.1.1.2
    have hE : SrC (eK' s k) := src_of hok.1 _
    have hW : WbC (eK' s k) := wbc_of hok.1 _
    have hc30 : ∀ b, dC (dK s k) b ≤ 30 := hok.1.2.1
    rcases in_cases (n := 2 ^ dN (dK s k)) (by have := pow_le hn8; omega) b with ⟨bn, hbn, rfl, eb⟩ | ⟨eb, hnob⟩
    · skip
      refine r_aload_n (pc := 0) dX10_join_0 rfl ?_
      refine r_iconst (pc := 1) (v := 0) dX10_join_1 (by decide) ?_
      refine r_putI (pc := 2) (v := nI 0) 10 0 84 dX10_join_2 (fl_RX10_84 rfl) (by decide) rfl rfl (c10_o hm) ?_
      obtain ⟨Ia, hIa⟩ : ∃ zz0 : Im, zz0 = up2 I m 0 (nI 0) := ⟨_, rfl⟩
      refine wp_M (M2 := (Ia, G)) (by subst hIa; rfl) ?_
      have hZ : FrZ I Ia m := by rw [hIa]; exact FrZ.rf.u (by omega)
      refine r_aload_n (pc := 5) dX10_join_5 rfl ?_
      refine r_iload_n (pc := 6) dX10_join_6 rfl ?_
      refine r_callV_P (pc := 7) (b := m) (As := [.int (nI k)]) 10 148 dX10_join_7 lk_X10_isTrade (ml_RX10_148 rfl) im_X10_isTrade se_X10_isTrade (by decide) (c10_o hm) (Nat.le_of_ble_eq_true rfl) rfl (isTrade_y hm (hZ.c hcn) hcn10 hk) ?_
      refine r_if_eq_n (pc := 10) (a := 1) (tgt := 29) dX10_join_10 (by decide) (by first | omega | (have := pow_le hn8; omega)) (fun c10 => ?_) (fun c10 => ?_)
      · exfalso; omega
      · skip
        refine r_iload_n (pc := 13) dX10_join_13 rfl ?_
        refine r_if_lt_n (pc := 14) (a := bn) (tgt := 29) dX10_join_14 (by decide) (by first | omega | (have := pow_le hn8; omega)) ?_
        refine r_iload_n (pc := 17) dX10_join_17 rfl ?_
        refine r_iconst (pc := 18) (v := 1) dX10_join_18 (by decide) ?_
        refine r_aload_n (pc := 19) dX10_join_19 rfl ?_
        refine r_get1 (pc := 20) 10 6 13 dX10_join_20 (fl_RX10_13 rfl) (by decide) rfl (c10_o hm) (c10_p6 hm) ?_
        refine r_iload_n (pc := 23) dX10_join_23 rfl ?_
        refine r_iald_n (pc := 24) (i := k) dX10_join_24 (c10_a6 hm) (by decide) (by omega) (v := nI (dN (dK s k))) ((hZ.mt hk0).1) ?_
        refine r_ishl (pc := 25) (x := 1) (z := nI (dN (dK s k))) dX10_join_25 ?_
        have hpw := pow_le hn8
        · skip
          refine wp_S (st2 := [.int (nI (2 ^ dN (dK s k))), .int (nI bn)]) (by rw [shl_all hn8]) ?_
          refine r_icmp_lt_n (pc := 26) (a := bn) (b := 2 ^ dN (dK s k)) (tgt := 31) dX10_join_26 (by decide) (by first | omega | (have := pow_le hn8; omega)) (by first | omega | (have := pow_le hn8; omega)) (fun c26 => ?_) (fun c26 => ?_)
          · skip
            refine r_aload_n (pc := 31) dX10_join_31 rfl ?_
            refine r_get1 (pc := 32) 10 14 38 dX10_join_32 (fl_RX10_38 rfl) (by decide) rfl (c10_o hm) (c10_p14 hm) ?_
            refine r_iload_n (pc := 35) dX10_join_35 rfl ?_
            refine r_iload_n (pc := 36) dX10_join_36 rfl ?_
            refine r_iast_n (pc := 37) (i := k) (v := nI bn) dX10_join_37 (c10_a14 hm) (by decide) (by omega) ?_
            obtain ⟨Ib, hIb⟩ : ∃ zz0 : Im, zz0 = up2 Ia (m + 10) k (nI bn) := ⟨_, rfl⟩
            refine wp_M (M2 := (Ib, G)) (by subst hIb; rfl) ?_
            have hfb : ∀ a y, ¬ (a = m ∧ y = 0) → ¬ ((a = m + 10 ∨ a = m + 11 ∨ a = m + 14 ∨ a = m + 15) ∧ y = k) → ¬ ((a = m + 12 ∨ a = m + 13) ∧ 8 * k ≤ y ∧ y < 8 * k + 8) → Ib a y = I a y := fun a y z1 z2 z3 => by rw [hIb, up2_rd (by omega), hIa, up2_rd (by omega)]
            have hia : ∀ a y, a ≠ m → Ia a y = I a y := fun a y z => by rw [hIa, up2_rd (by omega)]
            have hM9 : Mi (sUp s k (xJoin (sD s k) (nI bn))) Ib m := hM.up hk (hok.j _) ⟨⟨(hfb _ _ (by omega) (by omega) (by omega)).trans hMd.1.1, fun y hy => ⟨(hfb _ _ (by omega) (by omega) (by omega)).trans (hMd.1.2.1 y hy).1, (hfb _ _ (by omega) (by omega) (by omega)).trans (hMd.1.2.1 y hy).2.1, (hfb _ _ (by omega) (by omega) (by omega)).trans (hMd.1.2.1 y hy).2.2⟩, (hfb _ _ (by omega) (by omega) (by omega)).trans hMd.1.2.2.1, fun i hi => ⟨(hfb _ _ (by omega) (by omega) (by omega)).trans (hMd.1.2.2.2 i hi).1, (hfb _ _ (by omega) (by omega) (by omega)).trans (hMd.1.2.2.2 i hi).2.1, (hfb _ _ (by omega) (by omega) (by omega)).trans (hMd.1.2.2.2 i hi).2.2⟩⟩, ⟨(by rw [hIb]; exact up2_at), (by rw [hIb, up2_rd (by omega)]; exact (hia _ _ (by omega)).trans hMd.2.1.2.1), hMd.2.1.2.2.1, (by rw [hIb, up2_rd (by omega)]; exact (hia _ _ (by omega)).trans hMd.2.1.2.2.2.1), (by rw [hIb, up2_rd (by omega)]; exact (hia _ _ (by omega)).trans hMd.2.1.2.2.2.2)⟩, ⟨fun y hy => (by rw [hIb, up2_rd (by omega)]; exact (hia _ _ (by omega)).trans (hMd.2.2.1 y hy)), fun y hy => (by rw [hIb, up2_rd (by omega)]; exact (hia _ _ (by omega)).trans (hMd.2.2.2.1 y hy)), hMd.2.2.2.2⟩⟩ hfb
            have hF9 : ∀ x j, ¬ (m ≤ x ∧ x ≤ m + 24) → Ib x j = I x j := fun x j z => hfb x j (by omega) (by omega) (by omega)
            refine r_iconst (pc := 38) (v := 1) dX10_join_38 (by decide) ?_
            refine r_ret_z (pc := 39) dX10_join_39 rfl (by decide) ?_
            exact ⟨_, Ib, rfl, rfl, by unfold fJoin; rw [atQ_s et, atQ_s eb] <;> rfl, by unfold fJoin; rw [atQ_s et, atQ_s eb]; exact hM9, hF9⟩
          · exfalso; omega
    · skip
      refine r_aload_n (pc := 0) dX10_join_0 rfl ?_
      refine r_iconst (pc := 1) (v := 0) dX10_join_1 (by decide) ?_
      refine r_putI (pc := 2) (v := nI 0) 10 0 84 dX10_join_2 (fl_RX10_84 rfl) (by decide) rfl rfl (c10_o hm) ?_
      obtain ⟨Ia, hIa⟩ : ∃ zz0 : Im, zz0 = up2 I m 0 (nI 0) := ⟨_, rfl⟩
      refine wp_M (M2 := (Ia, G)) (by subst hIa; rfl) ?_
      have hZ : FrZ I Ia m := by rw [hIa]; exact FrZ.rf.u (by omega)
      refine r_aload_n (pc := 5) dX10_join_5 rfl ?_
      refine r_iload_n (pc := 6) dX10_join_6 rfl ?_
      refine r_callV_P (pc := 7) (b := m) (As := [.int (nI k)]) 10 148 dX10_join_7 lk_X10_isTrade (ml_RX10_148 rfl) im_X10_isTrade se_X10_isTrade (by decide) (c10_o hm) (Nat.le_of_ble_eq_true rfl) rfl (isTrade_y hm (hZ.c hcn) hcn10 hk) ?_
      refine r_if_eq_n (pc := 10) (a := 1) (tgt := 29) dX10_join_10 (by decide) (by first | omega | (have := pow_le hn8; omega)) (fun c10 => ?_) (fun c10 => ?_)
      · exfalso; omega
      · skip
        refine r_iload_n (pc := 13) dX10_join_13 rfl ?_
        refine r_if_lt (pc := 14) (x := b) (tgt := 29) dX10_join_14 (by decide) (fun c14 => ?_) (fun c14 => ?_)
        · skip
          refine r_iconst (pc := 29) (v := 0) dX10_join_29 (by decide) ?_
          refine r_ret_z (pc := 30) dX10_join_30 rfl (by decide) ?_
          exact ⟨_, Ia, rfl, rfl, by unfold fJoin; rw [atQ_s et, atQ_n eb] <;> rfl, by unfold fJoin; rw [atQ_s et, atQ_n eb]; exact hM.z hZ, fun x j z => hZ x j (by omega) (by omega)⟩
        · skip
          refine r_iload_n (pc := 17) dX10_join_17 rfl ?_
          refine r_iconst (pc := 18) (v := 1) dX10_join_18 (by decide) ?_
          refine r_aload_n (pc := 19) dX10_join_19 rfl ?_
          refine r_get1 (pc := 20) 10 6 13 dX10_join_20 (fl_RX10_13 rfl) (by decide) rfl (c10_o hm) (c10_p6 hm) ?_
          refine r_iload_n (pc := 23) dX10_join_23 rfl ?_
          refine r_iald_n (pc := 24) (i := k) dX10_join_24 (c10_a6 hm) (by decide) (by omega) (v := nI (dN (dK s k))) ((hZ.mt hk0).1) ?_
          refine r_ishl (pc := 25) (x := 1) (z := nI (dN (dK s k))) dX10_join_25 ?_
          have hpw := pow_le hn8
          · skip
            refine wp_S (st2 := [.int (nI (2 ^ dN (dK s k))), .int b]) (by rw [shl_all hn8]) ?_
            refine r_icmp_lt (pc := 26) (x := b) (z := nI (2 ^ dN (dK s k))) (tgt := 31) dX10_join_26 (by decide) (fun c26 => ?_) (fun c26 => ?_)
            · exfalso; exact hnob ⟨Int32.not_lt.mp c14, c26⟩
            · skip
              refine r_iconst (pc := 29) (v := 0) dX10_join_29 (by decide) ?_
              refine r_ret_z (pc := 30) dX10_join_30 rfl (by decide) ?_
              exact ⟨_, Ia, rfl, rfl, by unfold fJoin; rw [atQ_s et, atQ_n eb] <;> rfl, by unfold fJoin; rw [atQ_s et, atQ_n eb]; exact hM.z hZ, fun x j z => hZ x j (by omega) (by omega)⟩
  · skip
    refine r_aload_n (pc := 0) dX10_join_0 rfl ?_
    refine r_iconst (pc := 1) (v := 0) dX10_join_1 (by decide) ?_
    refine r_putI (pc := 2) (v := nI 0) 10 0 84 dX10_join_2 (fl_RX10_84 rfl) (by decide) rfl rfl (c10_o hm) ?_
    obtain ⟨Ia, hIa⟩ : ∃ zz0 : Im, zz0 = up2 I m 0 (nI 0) := ⟨_, rfl⟩
    refine wp_M (M2 := (Ia, G)) (by subst hIa; rfl) ?_
    have hZ : FrZ I Ia m := by rw [hIa]; exact FrZ.rf.u (by omega)
    refine r_aload_n (pc := 5) dX10_join_5 rfl ?_
    refine r_iload_n (pc := 6) dX10_join_6 rfl ?_
    refine r_callV_P (pc := 7) (b := m) (As := [.int t]) 10 148 dX10_join_7 lk_X10_isTrade (ml_RX10_148 rfl) im_X10_isTrade se_X10_isTrade (by decide) (c10_o hm) (Nat.le_of_ble_eq_true rfl) rfl (isTrade_n hm (hZ.c hcn) hnot) ?_
    refine r_if_eq_n (pc := 10) (a := 0) (tgt := 29) dX10_join_10 (by decide) (by first | omega | (have := pow_le hn8; omega)) (fun c10 => ?_) (fun c10 => ?_)
    · skip
      refine r_iconst (pc := 29) (v := 0) dX10_join_29 (by decide) ?_
      refine r_ret_z (pc := 30) dX10_join_30 rfl (by decide) ?_
      exact ⟨_, Ia, rfl, rfl, by unfold fJoin; rw [atQ_n et] <;> rfl, by unfold fJoin; rw [atQ_n et]; exact hM.z hZ, fun x j z => hZ x j (by omega) (by omega)⟩
    · exfalso; omega

set_option maxHeartbeats 300000 in
set_option maxRecDepth 100000 in
theorem law_m {d : Nat} {I : Im} {G : Gm} {s : Sta} {m : Nat} (hm : isC10 G m) (hM : Mi s I m) {t : Int32} {p : Int32} {a : Bool} : Ct (d + 3) 0 0 YX10_law [.ref m, .int t, .int p, .int (bz (a = true))] (I, G) (qM G (fun zv I2 => PmQ (fLaw s t p a).2 I m (fLaw s t p a).1 zv I2)) := by
  refine Ct.of (by decide) (by simp [Value.category]) (Nat.le_of_ble_eq_true rfl) ?_
  have hcn := hM.2.1
  have hcn10 := hM.2.2.1
  have hZ : FrZ I I m := FrZ.rf
  show wp _ _ _ _ 0 [some (.ref m), some (.int t), some (.int p), some (.int (bz (a = true)))] [] _ _
  rcases in_cases (n := sN s) (by have := hcn10; omega) t with ⟨k, hk, rfl, et⟩ | ⟨et, hnot⟩
  · skip
    obtain ⟨hok, hMd⟩ := hM.2.2.2.1 k hk
    have hk0 : MtC I m k (eK' s k) (dT (dK s k)) := mtc_of hok.1 hMd.1 _
    have hn8 : dN (dK s k) ≤ 8 := hok.1.1.2
    have hE : SrC (eK' s k) := src_of hok.1 _
    have hW : WbC (eK' s k) := wbc_of hok.1 _
    have hc30 : ∀ b, dC (dK s k) b ≤ 30 := hok.1.2.1
    rcases in_cases (n := 42) (by omega) p with ⟨pn, hpn, rfl, ep⟩ | ⟨ep, hnop⟩
    · skip
      refine r_aload_n (pc := 0) dX10_law_0 rfl ?_
      refine r_iconst (pc := 1) (v := 0) dX10_law_1 (by decide) ?_
      refine r_putI (pc := 2) (v := nI 0) 10 0 84 dX10_law_2 (fl_RX10_84 rfl) (by decide) rfl rfl (c10_o hm) ?_
      obtain ⟨Ia, hIa⟩ : ∃ zz0 : Im, zz0 = up2 I m 0 (nI 0) := ⟨_, rfl⟩
      refine wp_M (M2 := (Ia, G)) (by subst hIa; rfl) ?_
      have hZ : FrZ I Ia m := by rw [hIa]; exact FrZ.rf.u (by omega)
      refine r_aload_n (pc := 5) dX10_law_5 rfl ?_
      refine r_iload_n (pc := 6) dX10_law_6 rfl ?_
      refine r_callV_P (pc := 7) (b := m) (As := [.int (nI k)]) 10 148 dX10_law_7 lk_X10_isTrade (ml_RX10_148 rfl) im_X10_isTrade se_X10_isTrade (by decide) (c10_o hm) (Nat.le_of_ble_eq_true rfl) rfl (isTrade_y hm (hZ.c hcn) hcn10 hk) ?_
      refine r_if_eq_n (pc := 10) (a := 1) (tgt := 20) dX10_law_10 (by decide) (by omega) (fun c10 => ?_) (fun c10 => ?_)
      · exfalso; omega
      · skip
        refine r_iload_n (pc := 13) dX10_law_13 rfl ?_
        refine r_callS_P (pc := 14) (As := [.int (nI pn)]) 172 dX10_law_14 lk_X10_isPrice (ml_RX10_172 rfl) sm_X10_isPrice (Nat.le_of_ble_eq_true rfl) rfl (isPriceM_y hpn) ?_
        refine r_if_ne_n (pc := 17) (a := 1) (tgt := 22) dX10_law_17 (by decide) (by omega) (fun c17 => ?_) (fun c17 => ?_)
        · skip
          refine r_aload_n (pc := 22) dX10_law_22 rfl ?_
          refine r_get1 (pc := 23) 10 15 41 dX10_law_23 (fl_RX10_41 rfl) (by decide) rfl (c10_o hm) (c10_p15 hm) ?_
          refine r_iload_n (pc := 26) dX10_law_26 rfl ?_
          refine r_iload_n (pc := 27) dX10_law_27 rfl ?_
          refine r_iast_n (pc := 28) (i := k) (v := nI pn) dX10_law_28 (c10_a15 hm) (by decide) (by omega) ?_
          refine r_aload_n (pc := 29) dX10_law_29 rfl ?_
          refine r_get1 (pc := 30) 10 18 50 dX10_law_30 (fl_RX10_50 rfl) (by decide) rfl (c10_o hm) (c10_p18 hm) ?_
          refine r_iload_n (pc := 33) dX10_law_33 rfl ?_
          refine r_iload_n (pc := 34) dX10_law_34 rfl ?_
          refine r_zast_n (pc := 35) (i := k) (v := bz (a = true)) dX10_law_35 (c10_a18 hm) (by decide) (by omega) (bz_01 _) ?_
          obtain ⟨Ib, hIb⟩ : ∃ zz0 : Im, zz0 = up2 (up2 Ia (m + 11) k (nI pn)) (m + 14) k (bz (a = true)) := ⟨_, rfl⟩
          refine wp_M (M2 := (Ib, G)) (by subst hIb; rfl) ?_
          have hfb : ∀ a y, ¬ (a = m ∧ y = 0) → ¬ ((a = m + 10 ∨ a = m + 11 ∨ a = m + 14 ∨ a = m + 15) ∧ y = k) → ¬ ((a = m + 12 ∨ a = m + 13) ∧ 8 * k ≤ y ∧ y < 8 * k + 8) → Ib a y = I a y := fun a y z1 z2 z3 => by rw [hIb, up2_rd (by omega), up2_rd (by omega), hIa, up2_rd (by omega)]
          have hia : ∀ a y, a ≠ m → Ia a y = I a y := fun a y z => by rw [hIa, up2_rd (by omega)]
          have hM9 : Mi (sUp s k (xLaw (sD s k) pn a)) Ib m := hM.up hk (hok.l (by omega) _) ⟨⟨(hfb _ _ (by omega) (by omega) (by omega)).trans hMd.1.1, fun y hy => ⟨(hfb _ _ (by omega) (by omega) (by omega)).trans (hMd.1.2.1 y hy).1, (hfb _ _ (by omega) (by omega) (by omega)).trans (hMd.1.2.1 y hy).2.1, (hfb _ _ (by omega) (by omega) (by omega)).trans (hMd.1.2.1 y hy).2.2⟩, (hfb _ _ (by omega) (by omega) (by omega)).trans hMd.1.2.2.1, fun i hi => ⟨(hfb _ _ (by omega) (by omega) (by omega)).trans (hMd.1.2.2.2 i hi).1, (hfb _ _ (by omega) (by omega) (by omega)).trans (hMd.1.2.2.2 i hi).2.1, (hfb _ _ (by omega) (by omega) (by omega)).trans (hMd.1.2.2.2 i hi).2.2⟩⟩, ⟨(by rw [hIb, up2_rd (by omega), up2_rd (by omega)]; exact (hia _ _ (by omega)).trans hMd.2.1.1), (by rw [hIb]; exact (up2_rd (by omega)).trans (up2_at)), (show pn ≤ 41 by omega), (by rw [hIb]; exact up2_at), (by rw [hIb, up2_rd (by omega), up2_rd (by omega)]; exact (hia _ _ (by omega)).trans hMd.2.1.2.2.2.2)⟩, ⟨fun y hy => (by rw [hIb, up2_rd (by omega), up2_rd (by omega)]; exact (hia _ _ (by omega)).trans (hMd.2.2.1 y hy)), fun y hy => (by rw [hIb, up2_rd (by omega), up2_rd (by omega)]; exact (hia _ _ (by omega)).trans (hMd.2.2.2.1 y hy)), hMd.2.2.2.2⟩⟩ hfb
          have hF9 : ∀ x j, ¬ (m ≤ x ∧ x ≤ m + 24) → Ib x j = I x j := fun x j z => hfb x j (by omega) (by omega) (by omega)
          refine r_iconst (pc := 36) (v := 1) dX10_law_36 (by decide) ?_
          refine r_ret_z (pc := 37) dX10_law_37 rfl (by decide) ?_
          exact ⟨_, Ib, rfl, rfl, by unfold fLaw; rw [atQ_s et, atQ_s ep] <;> rfl, by unfold fLaw; rw [atQ_s et, atQ_s ep]; exact hM9, hF9⟩
        · exfalso; omega
    · skip
      refine r_aload_n (pc := 0) dX10_law_0 rfl ?_
      refine r_iconst (pc := 1) (v := 0) dX10_law_1 (by decide) ?_
      refine r_putI (pc := 2) (v := nI 0) 10 0 84 dX10_law_2 (fl_RX10_84 rfl) (by decide) rfl rfl (c10_o hm) ?_
      obtain ⟨Ia, hIa⟩ : ∃ zz0 : Im, zz0 = up2 I m 0 (nI 0) := ⟨_, rfl⟩
      refine wp_M (M2 := (Ia, G)) (by subst hIa; rfl) ?_
      have hZ : FrZ I Ia m := by rw [hIa]; exact FrZ.rf.u (by omega)
      refine r_aload_n (pc := 5) dX10_law_5 rfl ?_
      refine r_iload_n (pc := 6) dX10_law_6 rfl ?_
      refine r_callV_P (pc := 7) (b := m) (As := [.int (nI k)]) 10 148 dX10_law_7 lk_X10_isTrade (ml_RX10_148 rfl) im_X10_isTrade se_X10_isTrade (by decide) (c10_o hm) (Nat.le_of_ble_eq_true rfl) rfl (isTrade_y hm (hZ.c hcn) hcn10 hk) ?_
      refine r_if_eq_n (pc := 10) (a := 1) (tgt := 20) dX10_law_10 (by decide) (by omega) (fun c10 => ?_) (fun c10 => ?_)
      · exfalso; omega
      · skip
        refine r_iload_n (pc := 13) dX10_law_13 rfl ?_
        refine r_callS_P (pc := 14) (As := [.int p]) 172 dX10_law_14 lk_X10_isPrice (ml_RX10_172 rfl) sm_X10_isPrice (Nat.le_of_ble_eq_true rfl) rfl (isPriceM_n hnop) ?_
        refine r_if_ne_n (pc := 17) (a := 0) (tgt := 22) dX10_law_17 (by decide) (by omega) (fun c17 => ?_) (fun c17 => ?_)
        · exfalso; omega
        · skip
          refine r_iconst (pc := 20) (v := 0) dX10_law_20 (by decide) ?_
          refine r_ret_z (pc := 21) dX10_law_21 rfl (by decide) ?_
          exact ⟨_, Ia, rfl, rfl, by unfold fLaw; rw [atQ_s et, atQ_n ep] <;> rfl, by unfold fLaw; rw [atQ_s et, atQ_n ep]; exact hM.z hZ, fun x j z => hZ x j (by omega) (by omega)⟩
  · skip
    refine r_aload_n (pc := 0) dX10_law_0 rfl ?_
    refine r_iconst (pc := 1) (v := 0) dX10_law_1 (by decide) ?_
    refine r_putI (pc := 2) (v := nI 0) 10 0 84 dX10_law_2 (fl_RX10_84 rfl) (by decide) rfl rfl (c10_o hm) ?_
    obtain ⟨Ia, hIa⟩ : ∃ zz0 : Im, zz0 = up2 I m 0 (nI 0) := ⟨_, rfl⟩
    refine wp_M (M2 := (Ia, G)) (by subst hIa; rfl) ?_
    have hZ : FrZ I Ia m := by rw [hIa]; exact FrZ.rf.u (by omega)
    refine r_aload_n (pc := 5) dX10_law_5 rfl ?_
    refine r_iload_n (pc := 6) dX10_law_6 rfl ?_
    refine r_callV_P (pc := 7) (b := m) (As := [.int t]) 10 148 dX10_law_7 lk_X10_isTrade (ml_RX10_148 rfl) im_X10_isTrade se_X10_isTrade (by decide) (c10_o hm) (Nat.le_of_ble_eq_true rfl) rfl (isTrade_n hm (hZ.c hcn) hnot) ?_
    refine r_if_eq_n (pc := 10) (a := 0) (tgt := 20) dX10_law_10 (by decide) (by omega) (fun c10 => ?_) (fun c10 => ?_)
    · skip
      refine r_iconst (pc := 20) (v := 0) dX10_law_20 (by decide) ?_
      refine r_ret_z (pc := 21) dX10_law_21 rfl (by decide) ?_
      exact ⟨_, Ia, rfl, rfl, by unfold fLaw; rw [atQ_n et] <;> rfl, by unfold fLaw; rw [atQ_n et]; exact hM.z hZ, fun x j z => hZ x j (by omega) (by omega)⟩
    · exfalso; omega

set_option maxHeartbeats 300000 in
set_option maxRecDepth 100000 in
theorem halve_m {d : Nat} {I : Im} {G : Gm} {s : Sta} {m : Nat} (hm : isC10 G m) (hM : Mi s I m) {t : Int32} {a : Bool} : Ct (d + 2) 0 0 YX10_halve [.ref m, .int t, .int (bz (a = true))] (I, G) (qM G (fun zv I2 => PmQ (fHalve s t a).2 I m (fHalve s t a).1 zv I2)) := by
  refine Ct.of (by decide) (by simp [Value.category]) (Nat.le_of_ble_eq_true rfl) ?_
  have hcn := hM.2.1
  have hcn10 := hM.2.2.1
  have hZ : FrZ I I m := FrZ.rf
  show wp _ _ _ _ 0 [some (.ref m), some (.int t), some (.int (bz (a = true)))] [] _ _
  rcases in_cases (n := sN s) (by have := hcn10; omega) t with ⟨k, hk, rfl, et⟩ | ⟨et, hnot⟩
  · skip
    obtain ⟨hok, hMd⟩ := hM.2.2.2.1 k hk
    have hk0 : MtC I m k (eK' s k) (dT (dK s k)) := mtc_of hok.1 hMd.1 _
    have hn8 : dN (dK s k) ≤ 8 := hok.1.1.2
    have hE : SrC (eK' s k) := src_of hok.1 _
    have hW : WbC (eK' s k) := wbc_of hok.1 _
    have hc30 : ∀ b, dC (dK s k) b ≤ 30 := hok.1.2.1
    refine r_aload_n (pc := 0) dX10_halve_0 rfl ?_
    refine r_iconst (pc := 1) (v := 0) dX10_halve_1 (by decide) ?_
    refine r_putI (pc := 2) (v := nI 0) 10 0 84 dX10_halve_2 (fl_RX10_84 rfl) (by decide) rfl rfl (c10_o hm) ?_
    obtain ⟨Ia, hIa⟩ : ∃ zz0 : Im, zz0 = up2 I m 0 (nI 0) := ⟨_, rfl⟩
    refine wp_M (M2 := (Ia, G)) (by subst hIa; rfl) ?_
    have hZ : FrZ I Ia m := by rw [hIa]; exact FrZ.rf.u (by omega)
    refine r_aload_n (pc := 5) dX10_halve_5 rfl ?_
    refine r_iload_n (pc := 6) dX10_halve_6 rfl ?_
    refine r_callV_P (pc := 7) (b := m) (As := [.int (nI k)]) 10 148 dX10_halve_7 lk_X10_isTrade (ml_RX10_148 rfl) im_X10_isTrade se_X10_isTrade (by decide) (c10_o hm) (Nat.le_of_ble_eq_true rfl) rfl (isTrade_y hm (hZ.c hcn) hcn10 hk) ?_
    refine r_if_ne_n (pc := 10) (a := 1) (tgt := 15) dX10_halve_10 (by decide) (by omega) (fun c10 => ?_) (fun c10 => ?_)
    · skip
      refine r_aload_n (pc := 15) dX10_halve_15 rfl ?_
      refine r_get1 (pc := 16) 10 19 54 dX10_halve_16 (fl_RX10_54 rfl) (by decide) rfl (c10_o hm) (c10_p19 hm) ?_
      refine r_iload_n (pc := 19) dX10_halve_19 rfl ?_
      refine r_iload_n (pc := 20) dX10_halve_20 rfl ?_
      refine r_zast_n (pc := 21) (i := k) (v := bz (a = true)) dX10_halve_21 (c10_a19 hm) (by decide) (by omega) (bz_01 _) ?_
      obtain ⟨Ib, hIb⟩ : ∃ zz0 : Im, zz0 = up2 Ia (m + 15) k (bz (a = true)) := ⟨_, rfl⟩
      refine wp_M (M2 := (Ib, G)) (by subst hIb; rfl) ?_
      have hfb : ∀ a y, ¬ (a = m ∧ y = 0) → ¬ ((a = m + 10 ∨ a = m + 11 ∨ a = m + 14 ∨ a = m + 15) ∧ y = k) → ¬ ((a = m + 12 ∨ a = m + 13) ∧ 8 * k ≤ y ∧ y < 8 * k + 8) → Ib a y = I a y := fun a y z1 z2 z3 => by rw [hIb, up2_rd (by omega), hIa, up2_rd (by omega)]
      have hia : ∀ a y, a ≠ m → Ia a y = I a y := fun a y z => by rw [hIa, up2_rd (by omega)]
      have hM9 : Mi (sUp s k (xHalve (sD s k) a)) Ib m := hM.up hk hok ⟨⟨(hfb _ _ (by omega) (by omega) (by omega)).trans hMd.1.1, fun y hy => ⟨(hfb _ _ (by omega) (by omega) (by omega)).trans (hMd.1.2.1 y hy).1, (hfb _ _ (by omega) (by omega) (by omega)).trans (hMd.1.2.1 y hy).2.1, (hfb _ _ (by omega) (by omega) (by omega)).trans (hMd.1.2.1 y hy).2.2⟩, (hfb _ _ (by omega) (by omega) (by omega)).trans hMd.1.2.2.1, fun i hi => ⟨(hfb _ _ (by omega) (by omega) (by omega)).trans (hMd.1.2.2.2 i hi).1, (hfb _ _ (by omega) (by omega) (by omega)).trans (hMd.1.2.2.2 i hi).2.1, (hfb _ _ (by omega) (by omega) (by omega)).trans (hMd.1.2.2.2 i hi).2.2⟩⟩, ⟨(by rw [hIb, up2_rd (by omega)]; exact (hia _ _ (by omega)).trans hMd.2.1.1), (by rw [hIb, up2_rd (by omega)]; exact (hia _ _ (by omega)).trans hMd.2.1.2.1), hMd.2.1.2.2.1, (by rw [hIb, up2_rd (by omega)]; exact (hia _ _ (by omega)).trans hMd.2.1.2.2.2.1), (by rw [hIb]; exact up2_at)⟩, ⟨fun y hy => (by rw [hIb, up2_rd (by omega)]; exact (hia _ _ (by omega)).trans (hMd.2.2.1 y hy)), fun y hy => (by rw [hIb, up2_rd (by omega)]; exact (hia _ _ (by omega)).trans (hMd.2.2.2.1 y hy)), hMd.2.2.2.2⟩⟩ hfb
      have hF9 : ∀ x j, ¬ (m ≤ x ∧ x ≤ m + 24) → Ib x j = I x j := fun x j z => hfb x j (by omega) (by omega) (by omega)
      refine r_iconst (pc := 22) (v := 1) dX10_halve_22 (by decide) ?_
      refine r_ret_z (pc := 23) dX10_halve_23 rfl (by decide) ?_
      exact ⟨_, Ib, rfl, rfl, by unfold fHalve; rw [atQ_s et] <;> rfl, by unfold fHalve; rw [atQ_s et]; exact hM9, hF9⟩
    · exfalso; omega
  · skip
    refine r_aload_n (pc := 0) dX10_halve_0 rfl ?_
    refine r_iconst (pc := 1) (v := 0) dX10_halve_1 (by decide) ?_
    refine r_putI (pc := 2) (v := nI 0) 10 0 84 dX10_halve_2 (fl_RX10_84 rfl) (by decide) rfl rfl (c10_o hm) ?_
    obtain ⟨Ia, hIa⟩ : ∃ zz0 : Im, zz0 = up2 I m 0 (nI 0) := ⟨_, rfl⟩
    refine wp_M (M2 := (Ia, G)) (by subst hIa; rfl) ?_
    have hZ : FrZ I Ia m := by rw [hIa]; exact FrZ.rf.u (by omega)
    refine r_aload_n (pc := 5) dX10_halve_5 rfl ?_
    refine r_iload_n (pc := 6) dX10_halve_6 rfl ?_
    refine r_callV_P (pc := 7) (b := m) (As := [.int t]) 10 148 dX10_halve_7 lk_X10_isTrade (ml_RX10_148 rfl) im_X10_isTrade se_X10_isTrade (by decide) (c10_o hm) (Nat.le_of_ble_eq_true rfl) rfl (isTrade_n hm (hZ.c hcn) hnot) ?_
    refine r_if_ne_n (pc := 10) (a := 0) (tgt := 15) dX10_halve_10 (by decide) (by omega) (fun c10 => ?_) (fun c10 => ?_)
    · exfalso; omega
    · skip
      refine r_iconst (pc := 13) (v := 0) dX10_halve_13 (by decide) ?_
      refine r_ret_z (pc := 14) dX10_halve_14 rfl (by decide) ?_
      exact ⟨_, Ia, rfl, rfl, by unfold fHalve; rw [atQ_n et] <;> rfl, by unfold fHalve; rw [atQ_n et]; exact hM.z hZ, fun x j z => hZ x j (by omega) (by omega)⟩

set_option maxHeartbeats 300000 in
set_option maxRecDepth 100000 in
theorem tell_m {d : Nat} {I : Im} {G : Gm} {s : Sta} {m : Nat} (hm : isC10 G m) (hM : Mi s I m) {t h p : Int32} {c : Bool} : Ct (d + 3) 0 0 YX10_tell [.ref m, .int t, .int h, .int (bz (c = true)), .int p] (I, G) (qM G (fun zv I2 => PmQ (fTell s t h c p).2 I m (fTell s t h c p).1 zv I2)) := by
  refine Ct.of (by decide) (by simp [Value.category]) (Nat.le_of_ble_eq_true rfl) ?_
  have hcn := hM.2.1
  have hcn10 := hM.2.2.1
  have hZ : FrZ I I m := FrZ.rf
  show wp _ _ _ _ 0 [some (.ref m), some (.int t), some (.int h), some (.int (bz (c = true))), some (.int p)] [] _ _
  rcases in_cases (n := sN s) (by have := hcn10; omega) t with ⟨k, hk, rfl, et⟩ | ⟨et, hnot⟩
  · skip
    obtain ⟨hok, hMd⟩ := hM.2.2.2.1 k hk
    have hk0 : MtC I m k (eK' s k) (dT (dK s k)) := mtc_of hok.1 hMd.1 _
    have hn8 : dN (dK s k) ≤ 8 := hok.1.1.2
    have hE : SrC (eK' s k) := src_of hok.1 _
    have hW : WbC (eK' s k) := wbc_of hok.1 _
    have hc30 : ∀ b, dC (dK s k) b ≤ 30 := hok.1.2.1
    rcases in_cases (n := dN (dK s k)) (by have := hn8; omega) h with ⟨hn, hhn, rfl, eh⟩ | ⟨eh, hnoh⟩
    · skip
      rcases in_cases (n := 42) (by omega) p with ⟨pn, hpn, rfl, ep⟩ | ⟨ep, hnop⟩
      · skip
        refine r_aload_n (pc := 0) dX10_tell_0 rfl ?_
        refine r_iconst (pc := 1) (v := 0) dX10_tell_1 (by decide) ?_
        refine r_putI (pc := 2) (v := nI 0) 10 0 84 dX10_tell_2 (fl_RX10_84 rfl) (by decide) rfl rfl (c10_o hm) ?_
        obtain ⟨Ia, hIa⟩ : ∃ zz0 : Im, zz0 = up2 I m 0 (nI 0) := ⟨_, rfl⟩
        refine wp_M (M2 := (Ia, G)) (by subst hIa; rfl) ?_
        have hZ : FrZ I Ia m := by rw [hIa]; exact FrZ.rf.u (by omega)
        refine r_aload_n (pc := 5) dX10_tell_5 rfl ?_
        refine r_iload_n (pc := 6) dX10_tell_6 rfl ?_
        refine r_iload_n (pc := 7) dX10_tell_7 rfl ?_
        refine r_callV_P (pc := 8) (b := m) (As := [.int (nI k), .int (nI hn)]) 10 154 dX10_tell_8 lk_X10_isHouse (ml_RX10_154 rfl) im_X10_isHouse se_X10_isHouse (by decide) (c10_o hm) (Nat.le_of_ble_eq_true rfl) rfl (isHouse_ct hm (hZ.mt hk0) (by omega) (hZ.c hcn) hcn10 hk hhn) ?_
        refine r_if_eq_n (pc := 11) (a := 1) (tgt := 22) dX10_tell_11 (by decide) (by omega) (fun c11 => ?_) (fun c11 => ?_)
        · exfalso; omega
        · skip
          refine r_iload (pc := 14) dX10_tell_14 rfl ?_
          refine r_callS_P (pc := 16) (As := [.int (nI pn)]) 172 dX10_tell_16 lk_X10_isPrice (ml_RX10_172 rfl) sm_X10_isPrice (Nat.le_of_ble_eq_true rfl) rfl (isPriceM_y hpn) ?_
          refine r_if_ne_n (pc := 19) (a := 1) (tgt := 24) dX10_tell_19 (by decide) (by omega) (fun c19 => ?_) (fun c19 => ?_)
          · skip
            refine r_iload_n (pc := 24) dX10_tell_24 rfl ?_
            refine r_if_eq_b (pc := 25) (tgt := 44) dX10_tell_25 (by decide) (fun c25 => ?_) (fun c25 => ?_)
            · skip
              refine r_aload_n (pc := 44) dX10_tell_44 rfl ?_
              refine r_get1 (pc := 45) 10 16 44 dX10_tell_45 (fl_RX10_44 rfl) (by decide) rfl (c10_o hm) (c10_p16 hm) ?_
              refine r_bipush (pc := 48) (v := 8) dX10_tell_48 (by decide) ?_
              refine r_iload_n (pc := 50) dX10_tell_50 rfl ?_
              refine r_imul_n (pc := 51) (a := 8) (b := k) dX10_tell_51 ?_
              refine r_iload_n (pc := 52) dX10_tell_52 rfl ?_
              refine r_iadd_n (pc := 53) (a := 8 * k) (b := hn) dX10_tell_53 ?_
              refine r_iload (pc := 54) dX10_tell_54 rfl ?_
              refine r_iast_n (pc := 56) (i := (8 * k) + hn) (v := nI pn) dX10_tell_56 (c10_a16 hm) (by decide) (by omega) ?_
              obtain ⟨Ib, hIb⟩ : ∃ zz0 : Im, zz0 = up2 Ia (m + 12) ((8 * k) + hn) (nI pn) := ⟨_, rfl⟩
              refine wp_M (M2 := (Ib, G)) (by subst hIb; rfl) ?_
              have hfb : ∀ a y, ¬ (a = m ∧ y = 0) → ¬ ((a = m + 10 ∨ a = m + 11 ∨ a = m + 14 ∨ a = m + 15) ∧ y = k) → ¬ ((a = m + 12 ∨ a = m + 13) ∧ 8 * k ≤ y ∧ y < 8 * k + 8) → Ib a y = I a y := fun a y z1 z2 z3 => by rw [hIb, up2_rd (by omega), hIa, up2_rd (by omega)]
              have hia : ∀ a y, a ≠ m → Ia a y = I a y := fun a y z => by rw [hIa, up2_rd (by omega)]
              have hok9 : TdOK (xPay (sD s k) hn pn) := hok.p (by omega)
              have hrow : ∀ y, y < 8 → Ib (m + 12) (8 * k + y) = nI (fu (tdP (sD s k)) hn pn y) := fun y hy => by
                by_cases e : y = hn
                · rw [e, fu_at, hIb]; exact up2_at
                · rw [fu_ne e, hIb, up2_rd (by omega)]; exact (hia _ _ (by omega)).trans (hMd.2.2.1 y hy)
              have hM9 : Mi (sUp s k (xPay (sD s k) hn pn)) Ib m := hM.up hk hok9 ⟨⟨(hfb _ _ (by omega) (by omega) (by omega)).trans hMd.1.1, fun y hy => ⟨(hfb _ _ (by omega) (by omega) (by omega)).trans (hMd.1.2.1 y hy).1, (hfb _ _ (by omega) (by omega) (by omega)).trans (hMd.1.2.1 y hy).2.1, (hfb _ _ (by omega) (by omega) (by omega)).trans (hMd.1.2.1 y hy).2.2⟩, (hfb _ _ (by omega) (by omega) (by omega)).trans hMd.1.2.2.1, fun i hi => ⟨(hfb _ _ (by omega) (by omega) (by omega)).trans (hMd.1.2.2.2 i hi).1, (hfb _ _ (by omega) (by omega) (by omega)).trans (hMd.1.2.2.2 i hi).2.1, (hfb _ _ (by omega) (by omega) (by omega)).trans (hMd.1.2.2.2 i hi).2.2⟩⟩, ⟨(by rw [hIb, up2_rd (by omega)]; exact (hia _ _ (by omega)).trans hMd.2.1.1), (by rw [hIb, up2_rd (by omega)]; exact (hia _ _ (by omega)).trans hMd.2.1.2.1), hMd.2.1.2.2.1, (by rw [hIb, up2_rd (by omega)]; exact (hia _ _ (by omega)).trans hMd.2.1.2.2.2.1), (by rw [hIb, up2_rd (by omega)]; exact (hia _ _ (by omega)).trans hMd.2.1.2.2.2.2)⟩, ⟨hrow, (fun y hy => (by rw [hIb, up2_rd (by omega)]; exact (hia _ _ (by omega)).trans (hMd.2.2.2.1 y hy))), hok9.2.2⟩⟩ hfb
              have hF9 : ∀ x j, ¬ (m ≤ x ∧ x ≤ m + 24) → Ib x j = I x j := fun x j z => hfb x j (by omega) (by omega) (by omega)
              refine r_iconst (pc := 57) (v := 1) dX10_tell_57 (by decide) ?_
              refine r_ret_z (pc := 58) dX10_tell_58 rfl (by decide) ?_
              first
                | exact ⟨_, Ib, rfl, rfl, by unfold fTell; rw [atQ_s et, atQ_s eh, atQ_s ep] <;> rfl, by unfold fTell; rw [atQ_s et, atQ_s eh, atQ_s ep, if_pos c25]; exact hM9, hF9⟩
                | exact ⟨_, Ib, rfl, rfl, by unfold fTell; rw [atQ_s et, atQ_s eh, atQ_s ep] <;> rfl, by unfold fTell; rw [atQ_s et, atQ_s eh, atQ_s ep, if_neg c25]; exact hM9, hF9⟩
            · skip
              refine r_aload_n (pc := 28) dX10_tell_28 rfl ?_
              refine r_get1 (pc := 29) 10 17 47 dX10_tell_29 (fl_RX10_47 rfl) (by decide) rfl (c10_o hm) (c10_p17 hm) ?_
              refine r_bipush (pc := 32) (v := 8) dX10_tell_32 (by decide) ?_
              refine r_iload_n (pc := 34) dX10_tell_34 rfl ?_
              refine r_imul_n (pc := 35) (a := 8) (b := k) dX10_tell_35 ?_
              refine r_iload_n (pc := 36) dX10_tell_36 rfl ?_
              refine r_iadd_n (pc := 37) (a := 8 * k) (b := hn) dX10_tell_37 ?_
              refine r_iload (pc := 38) dX10_tell_38 rfl ?_
              refine r_iast_n (pc := 40) (i := (8 * k) + hn) (v := nI pn) dX10_tell_40 (c10_a17 hm) (by decide) (by omega) ?_
              obtain ⟨Ib, hIb⟩ : ∃ zz0 : Im, zz0 = up2 Ia (m + 13) ((8 * k) + hn) (nI pn) := ⟨_, rfl⟩
              refine wp_M (M2 := (Ib, G)) (by subst hIb; rfl) ?_
              have hfb : ∀ a y, ¬ (a = m ∧ y = 0) → ¬ ((a = m + 10 ∨ a = m + 11 ∨ a = m + 14 ∨ a = m + 15) ∧ y = k) → ¬ ((a = m + 12 ∨ a = m + 13) ∧ 8 * k ≤ y ∧ y < 8 * k + 8) → Ib a y = I a y := fun a y z1 z2 z3 => by rw [hIb, up2_rd (by omega), hIa, up2_rd (by omega)]
              have hia : ∀ a y, a ≠ m → Ia a y = I a y := fun a y z => by rw [hIa, up2_rd (by omega)]
              have hok9 : TdOK (xAsk (sD s k) hn pn) := hok.a (by omega)
              have hrow : ∀ y, y < 8 → Ib (m + 13) (8 * k + y) = nI (fu (tdA (sD s k)) hn pn y) := fun y hy => by
                by_cases e : y = hn
                · rw [e, fu_at, hIb]; exact up2_at
                · rw [fu_ne e, hIb, up2_rd (by omega)]; exact (hia _ _ (by omega)).trans (hMd.2.2.2.1 y hy)
              have hM9 : Mi (sUp s k (xAsk (sD s k) hn pn)) Ib m := hM.up hk hok9 ⟨⟨(hfb _ _ (by omega) (by omega) (by omega)).trans hMd.1.1, fun y hy => ⟨(hfb _ _ (by omega) (by omega) (by omega)).trans (hMd.1.2.1 y hy).1, (hfb _ _ (by omega) (by omega) (by omega)).trans (hMd.1.2.1 y hy).2.1, (hfb _ _ (by omega) (by omega) (by omega)).trans (hMd.1.2.1 y hy).2.2⟩, (hfb _ _ (by omega) (by omega) (by omega)).trans hMd.1.2.2.1, fun i hi => ⟨(hfb _ _ (by omega) (by omega) (by omega)).trans (hMd.1.2.2.2 i hi).1, (hfb _ _ (by omega) (by omega) (by omega)).trans (hMd.1.2.2.2 i hi).2.1, (hfb _ _ (by omega) (by omega) (by omega)).trans (hMd.1.2.2.2 i hi).2.2⟩⟩, ⟨(by rw [hIb, up2_rd (by omega)]; exact (hia _ _ (by omega)).trans hMd.2.1.1), (by rw [hIb, up2_rd (by omega)]; exact (hia _ _ (by omega)).trans hMd.2.1.2.1), hMd.2.1.2.2.1, (by rw [hIb, up2_rd (by omega)]; exact (hia _ _ (by omega)).trans hMd.2.1.2.2.2.1), (by rw [hIb, up2_rd (by omega)]; exact (hia _ _ (by omega)).trans hMd.2.1.2.2.2.2)⟩, ⟨(fun y hy => (by rw [hIb, up2_rd (by omega)]; exact (hia _ _ (by omega)).trans (hMd.2.2.1 y hy))), hrow, hok9.2.2⟩⟩ hfb
              have hF9 : ∀ x j, ¬ (m ≤ x ∧ x ≤ m + 24) → Ib x j = I x j := fun x j z => hfb x j (by omega) (by omega) (by omega)
              refine r_goto (pc := 41) (tgt := 57) dX10_tell_41 (by decide) ?_
              refine r_iconst (pc := 57) (v := 1) dX10_tell_57 (by decide) ?_
              refine r_ret_z (pc := 58) dX10_tell_58 rfl (by decide) ?_
              first
                | exact ⟨_, Ib, rfl, rfl, by unfold fTell; rw [atQ_s et, atQ_s eh, atQ_s ep] <;> rfl, by unfold fTell; rw [atQ_s et, atQ_s eh, atQ_s ep, if_pos c25]; exact hM9, hF9⟩
                | exact ⟨_, Ib, rfl, rfl, by unfold fTell; rw [atQ_s et, atQ_s eh, atQ_s ep] <;> rfl, by unfold fTell; rw [atQ_s et, atQ_s eh, atQ_s ep, if_neg c25]; exact hM9, hF9⟩
          · exfalso; omega
      · skip
        refine r_aload_n (pc := 0) dX10_tell_0 rfl ?_
        refine r_iconst (pc := 1) (v := 0) dX10_tell_1 (by decide) ?_
        refine r_putI (pc := 2) (v := nI 0) 10 0 84 dX10_tell_2 (fl_RX10_84 rfl) (by decide) rfl rfl (c10_o hm) ?_
        obtain ⟨Ia, hIa⟩ : ∃ zz0 : Im, zz0 = up2 I m 0 (nI 0) := ⟨_, rfl⟩
        refine wp_M (M2 := (Ia, G)) (by subst hIa; rfl) ?_
        have hZ : FrZ I Ia m := by rw [hIa]; exact FrZ.rf.u (by omega)
        refine r_aload_n (pc := 5) dX10_tell_5 rfl ?_
        refine r_iload_n (pc := 6) dX10_tell_6 rfl ?_
        refine r_iload_n (pc := 7) dX10_tell_7 rfl ?_
        refine r_callV_P (pc := 8) (b := m) (As := [.int (nI k), .int (nI hn)]) 10 154 dX10_tell_8 lk_X10_isHouse (ml_RX10_154 rfl) im_X10_isHouse se_X10_isHouse (by decide) (c10_o hm) (Nat.le_of_ble_eq_true rfl) rfl (isHouse_ct hm (hZ.mt hk0) (by omega) (hZ.c hcn) hcn10 hk hhn) ?_
        refine r_if_eq_n (pc := 11) (a := 1) (tgt := 22) dX10_tell_11 (by decide) (by omega) (fun c11 => ?_) (fun c11 => ?_)
        · exfalso; omega
        · skip
          refine r_iload (pc := 14) dX10_tell_14 rfl ?_
          refine r_callS_P (pc := 16) (As := [.int p]) 172 dX10_tell_16 lk_X10_isPrice (ml_RX10_172 rfl) sm_X10_isPrice (Nat.le_of_ble_eq_true rfl) rfl (isPriceM_n hnop) ?_
          refine r_if_ne_n (pc := 19) (a := 0) (tgt := 24) dX10_tell_19 (by decide) (by omega) (fun c19 => ?_) (fun c19 => ?_)
          · exfalso; omega
          · skip
            refine r_iconst (pc := 22) (v := 0) dX10_tell_22 (by decide) ?_
            refine r_ret_z (pc := 23) dX10_tell_23 rfl (by decide) ?_
            exact ⟨_, Ia, rfl, rfl, by unfold fTell; rw [atQ_s et, atQ_s eh, atQ_n ep] <;> rfl, by unfold fTell; rw [atQ_s et, atQ_s eh, atQ_n ep]; exact hM.z hZ, fun x j z => hZ x j (by omega) (by omega)⟩
    · skip
      refine r_aload_n (pc := 0) dX10_tell_0 rfl ?_
      refine r_iconst (pc := 1) (v := 0) dX10_tell_1 (by decide) ?_
      refine r_putI (pc := 2) (v := nI 0) 10 0 84 dX10_tell_2 (fl_RX10_84 rfl) (by decide) rfl rfl (c10_o hm) ?_
      obtain ⟨Ia, hIa⟩ : ∃ zz0 : Im, zz0 = up2 I m 0 (nI 0) := ⟨_, rfl⟩
      refine wp_M (M2 := (Ia, G)) (by subst hIa; rfl) ?_
      have hZ : FrZ I Ia m := by rw [hIa]; exact FrZ.rf.u (by omega)
      refine r_aload_n (pc := 5) dX10_tell_5 rfl ?_
      refine r_iload_n (pc := 6) dX10_tell_6 rfl ?_
      refine r_iload_n (pc := 7) dX10_tell_7 rfl ?_
      refine r_callV_P (pc := 8) (b := m) (As := [.int (nI k), .int h]) 10 154 dX10_tell_8 lk_X10_isHouse (ml_RX10_154 rfl) im_X10_isHouse se_X10_isHouse (by decide) (c10_o hm) (Nat.le_of_ble_eq_true rfl) rfl (isHouse_no hm (hZ.mt hk0) (hZ.c hcn) hcn10 hk hnoh) ?_
      refine r_if_eq_n (pc := 11) (a := 0) (tgt := 22) dX10_tell_11 (by decide) (by omega) (fun c11 => ?_) (fun c11 => ?_)
      · skip
        refine r_iconst (pc := 22) (v := 0) dX10_tell_22 (by decide) ?_
        refine r_ret_z (pc := 23) dX10_tell_23 rfl (by decide) ?_
        exact ⟨_, Ia, rfl, rfl, by unfold fTell; rw [atQ_s et, atQ_n eh] <;> rfl, by unfold fTell; rw [atQ_s et, atQ_n eh]; exact hM.z hZ, fun x j z => hZ x j (by omega) (by omega)⟩
      · exfalso; omega
  · skip
    refine r_aload_n (pc := 0) dX10_tell_0 rfl ?_
    refine r_iconst (pc := 1) (v := 0) dX10_tell_1 (by decide) ?_
    refine r_putI (pc := 2) (v := nI 0) 10 0 84 dX10_tell_2 (fl_RX10_84 rfl) (by decide) rfl rfl (c10_o hm) ?_
    obtain ⟨Ia, hIa⟩ : ∃ zz0 : Im, zz0 = up2 I m 0 (nI 0) := ⟨_, rfl⟩
    refine wp_M (M2 := (Ia, G)) (by subst hIa; rfl) ?_
    have hZ : FrZ I Ia m := by rw [hIa]; exact FrZ.rf.u (by omega)
    refine r_aload_n (pc := 5) dX10_tell_5 rfl ?_
    refine r_iload_n (pc := 6) dX10_tell_6 rfl ?_
    refine r_iload_n (pc := 7) dX10_tell_7 rfl ?_
    refine r_callV_P (pc := 8) (b := m) (As := [.int t, .int h]) 10 154 dX10_tell_8 lk_X10_isHouse (ml_RX10_154 rfl) im_X10_isHouse se_X10_isHouse (by decide) (c10_o hm) (Nat.le_of_ble_eq_true rfl) rfl (isHouse_nt hm (by rw [(hZ.c hcn)]; exact hnot)) ?_
    refine r_if_eq_n (pc := 11) (a := 0) (tgt := 22) dX10_tell_11 (by decide) (by omega) (fun c11 => ?_) (fun c11 => ?_)
    · skip
      refine r_iconst (pc := 22) (v := 0) dX10_tell_22 (by decide) ?_
      refine r_ret_z (pc := 23) dX10_tell_23 rfl (by decide) ?_
      exact ⟨_, Ia, rfl, rfl, by unfold fTell; rw [atQ_n et] <;> rfl, by unfold fTell; rw [atQ_n et]; exact hM.z hZ, fun x j z => hZ x j (by omega) (by omega)⟩
    · exfalso; omega
