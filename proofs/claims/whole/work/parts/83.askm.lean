/-! ===== the reference: questions ===== -/
def PmQ (s : Sta) (I : Im) (m : Nat) (a v : Int32) (I2 : Im) : Prop := v = a ∧ Mi s I2 m ∧ ∀ x j, ¬ (m ≤ x ∧ x ≤ m + 24) → I2 x j = I x j
theorem FrZ.tm {I I2 : Im} {m k : Nat} {E : Ec} (h : FrZ I I2 m) (ht : TmM I m k E) : TmM I2 m k E := ⟨(h _ _ (by omega) (by omega)).trans ht.1, (h _ _ (by omega) (by omega)).trans ht.2.1, ht.2.2.1, (h _ _ (by omega) (by omega)).trans ht.2.2.2.1, (h _ _ (by omega) (by omega)).trans ht.2.2.2.2⟩
theorem FrZ.to {I I2 : Im} {m k : Nat} {pay ask : Nat → Nat} (h : FrZ I I2 m) (ht : ToM I m k pay ask) : ToM I2 m k pay ask := ⟨fun x hx => (h _ _ (by omega) (by omega)).trans (ht.1 x hx), fun x hx => (h _ _ (by omega) (by omega)).trans (ht.2.1 x hx), ht.2.2⟩
theorem FrZ.c {I I2 : Im} {m : Nat} {v : Int32} (h : FrZ I I2 m) (hv : I m 20 = v) : I2 m 20 = v := (h m 20 (by omega) (by omega)).trans hv
theorem terms_q {d : Nat} {I : Im} {G : Gm} {m k cn c : Nat} {E : Ec} {T : Lt} {j va vh : Int32} (hm : isC10 G m) (hk : MtC I m k E T) (hK : eK E ≤ 41) (hcn : I m 20 = nI cn) (hcn10 : cn ≤ 10) (hkc : k < cn) (h1 : eJ E = j) (h2 : eK E = c) (h3 : bz (eA E = true) = va) (h4 : bz (eH E = true) = vh) : Ct (d + 1) 0 0 YX10_terms [.ref m, .int (nI k), .int j, .int (nI c), .int va, .int vh] (I, G) (qV G (fun I2 => MS I2 m k E T cn ∧ FrW I I2 m)) := by
  have g := terms_e (d := d) hm hk hK hcn hcn10 hkc
  rw [h1, h2, h3, h4] at g
  exact g

set_option maxHeartbeats 300000 in
set_option maxRecDepth 100000 in
theorem houses_m {d : Nat} {I : Im} {G : Gm} {s : Sta} {m : Nat} (hm : isC10 G m) (hM : Mi s I m) {t : Int32} : Ct (d + 2) 0 0 YX10_houses [.ref m, .int t] (I, G) (qM G (fun v I2 => PmQ s I m (aHouses s t) v I2)) := by
  refine Ct.of (by decide) (by simp [Value.category]) (Nat.le_of_ble_eq_true rfl) ?_
  have hcn := hM.2.1
  have hcn10 := hM.2.2.1
  have hZ : FrZ I I m := FrZ.rf
  show wp _ _ _ _ 0 [some (.ref m), some (.int t)] [] _ _
  rcases in_cases (n := sN s) (by have := hcn10; omega) t with ⟨k, hk, rfl, et⟩ | ⟨et, hnot⟩
  · skip
    obtain ⟨hok, hMd⟩ := hM.2.2.2.1 k hk
    have hk0 : MtC I m k (eK' s k) (dT (dK s k)) := mtc_of hok.1 hMd.1 _
    have hn8 : dN (dK s k) ≤ 8 := hok.1.1.2
    have hE : SrC (eK' s k) := src_of hok.1 _
    have hW : WbC (eK' s k) := wbc_of hok.1 _
    have hc30 : ∀ b, dC (dK s k) b ≤ 30 := hok.1.2.1
    refine r_aload_n (pc := 0) dX10_houses_0 rfl ?_
    refine r_iconst (pc := 1) (v := 0) dX10_houses_1 (by decide) ?_
    refine r_putI (pc := 2) (v := nI 0) 10 0 84 dX10_houses_2 (fl_RX10_84 rfl) (by decide) rfl rfl (c10_o hm) ?_
    obtain ⟨Ia, hIa⟩ : ∃ zz0 : Im, zz0 = up2 I m 0 (nI 0) := ⟨_, rfl⟩
    refine wp_M (M2 := (Ia, G)) (by subst hIa; rfl) ?_
    have hZ : FrZ I Ia m := by rw [hIa]; exact FrZ.rf.u (by omega)
    refine r_aload_n (pc := 5) dX10_houses_5 rfl ?_
    refine r_iload_n (pc := 6) dX10_houses_6 rfl ?_
    refine r_callV_P (pc := 7) (b := m) (As := [.int (nI k)]) 10 148 dX10_houses_7 lk_X10_isTrade (ml_RX10_148 rfl) im_X10_isTrade se_X10_isTrade (by decide) (c10_o hm) (Nat.le_of_ble_eq_true rfl) rfl (isTrade_y hm (hZ.c hcn) hcn10 hk) ?_
    refine r_if_eq_n (pc := 10) (a := 1) (tgt := 22) dX10_houses_10 (by decide) (by omega) (fun c10 => ?_) (fun c10 => ?_)
    · exfalso; omega
    · skip
      refine r_aload_n (pc := 13) dX10_houses_13 rfl ?_
      refine r_get1 (pc := 14) 10 6 13 dX10_houses_14 (fl_RX10_13 rfl) (by decide) rfl (c10_o hm) (c10_p6 hm) ?_
      refine r_iload_n (pc := 17) dX10_houses_17 rfl ?_
      refine r_iald_n (pc := 18) (i := k) dX10_houses_18 (c10_a6 hm) (by decide) (by omega) (v := nI (dN (dK s k))) ((hZ.mt hk0).1) ?_
      refine r_goto (pc := 19) (tgt := 23) dX10_houses_19 (by decide) ?_
      refine r_ret_i (pc := 23) dX10_houses_23 rfl ?_
      exact ⟨_, Ia, rfl, rfl, (by unfold aHouses; rw [atN_s et] <;> rfl), hM.z hZ, fun x j z => hZ x j (by omega) (by omega)⟩
  · skip
    refine r_aload_n (pc := 0) dX10_houses_0 rfl ?_
    refine r_iconst (pc := 1) (v := 0) dX10_houses_1 (by decide) ?_
    refine r_putI (pc := 2) (v := nI 0) 10 0 84 dX10_houses_2 (fl_RX10_84 rfl) (by decide) rfl rfl (c10_o hm) ?_
    obtain ⟨Ia, hIa⟩ : ∃ zz0 : Im, zz0 = up2 I m 0 (nI 0) := ⟨_, rfl⟩
    refine wp_M (M2 := (Ia, G)) (by subst hIa; rfl) ?_
    have hZ : FrZ I Ia m := by rw [hIa]; exact FrZ.rf.u (by omega)
    refine r_aload_n (pc := 5) dX10_houses_5 rfl ?_
    refine r_iload_n (pc := 6) dX10_houses_6 rfl ?_
    refine r_callV_P (pc := 7) (b := m) (As := [.int t]) 10 148 dX10_houses_7 lk_X10_isTrade (ml_RX10_148 rfl) im_X10_isTrade se_X10_isTrade (by decide) (c10_o hm) (Nat.le_of_ble_eq_true rfl) rfl (isTrade_n hm (hZ.c hcn) hnot) ?_
    refine r_if_eq_n (pc := 10) (a := 0) (tgt := 22) dX10_houses_10 (by decide) (by omega) (fun c10 => ?_) (fun c10 => ?_)
    · skip
      refine r_iconst (pc := 22) (v := -1) dX10_houses_22 (by decide) ?_
      refine r_ret_i (pc := 23) dX10_houses_23 rfl ?_
      exact ⟨_, Ia, rfl, rfl, (by unfold aHouses; rw [atN_n et] <;> rfl), hM.z hZ, fun x j z => hZ x j (by omega) (by omega)⟩
    · exfalso; omega

set_option maxHeartbeats 300000 in
set_option maxRecDepth 100000 in
theorem want_m {d : Nat} {I : Im} {G : Gm} {s : Sta} {m : Nat} (hm : isC10 G m) (hM : Mi s I m) {t : Int32} {h : Int32} {p : Int32} : Ct (d + 4) 0 0 YX10_want [.ref m, .int t, .int h, .int p] (I, G) (qM G (fun v I2 => PmQ s I m (aWant s t h p) v I2)) := by
  refine Ct.of (by decide) (by simp [Value.category]) (Nat.le_of_ble_eq_true rfl) ?_
  have hcn := hM.2.1
  have hcn10 := hM.2.2.1
  have hZ : FrZ I I m := FrZ.rf
  show wp _ _ _ _ 0 [some (.ref m), some (.int t), some (.int h), some (.int p)] [] _ _
  rcases in_cases (n := sN s) (by have := hcn10; omega) t with ⟨k, hk, rfl, et⟩ | ⟨et, hnot⟩
  · skip
    obtain ⟨hok, hMd⟩ := hM.2.2.2.1 k hk
    have hk0 : MtC I m k (eK' s k) (dT (dK s k)) := mtc_of hok.1 hMd.1 _
    have hn8 : dN (dK s k) ≤ 8 := hok.1.1.2
    have hE : SrC (eK' s k) := src_of hok.1 _
    have hW : WbC (eK' s k) := wbc_of hok.1 _
    have hc30 : ∀ b, dC (dK s k) b ≤ 30 := hok.1.2.1
    rcases in_cases (n := dN (dK s k)) (by have := hn8; omega) h with ⟨hn, hhn, rfl, eh⟩ | ⟨eh, hnoh⟩
    · skip
      by_cases hsh : shP (dK s k) hn
      · skip
        rcases in_cases (n := 42) (by omega) p with ⟨pn, hpn, rfl, ep⟩ | ⟨ep, hnop⟩
        · skip
          refine r_aload_n (pc := 0) dX10_want_0 rfl ?_
          refine r_iconst (pc := 1) (v := 0) dX10_want_1 (by decide) ?_
          refine r_putI (pc := 2) (v := nI 0) 10 0 84 dX10_want_2 (fl_RX10_84 rfl) (by decide) rfl rfl (c10_o hm) ?_
          obtain ⟨Ia, hIa⟩ : ∃ zz0 : Im, zz0 = up2 I m 0 (nI 0) := ⟨_, rfl⟩
          refine wp_M (M2 := (Ia, G)) (by subst hIa; rfl) ?_
          have hZ : FrZ I Ia m := by rw [hIa]; exact FrZ.rf.u (by omega)
          refine r_aload_n (pc := 5) dX10_want_5 rfl ?_
          refine r_iload_n (pc := 6) dX10_want_6 rfl ?_
          refine r_iload_n (pc := 7) dX10_want_7 rfl ?_
          refine r_callV_P (pc := 8) (b := m) (As := [.int (nI k), .int (nI hn)]) 10 165 dX10_want_8 lk_X10_isShop (ml_RX10_165 rfl) im_X10_isShop se_X10_isShop (by decide) (c10_o hm) (Nat.le_of_ble_eq_true rfl) rfl (isShopM_y hm (hZ.mt hk0) (hZ.c hcn) hcn10 hk hhn hsh) ?_
          refine r_if_eq_n (pc := 11) (a := 1) (tgt := 31) dX10_want_11 (by decide) (by omega) (fun c11 => ?_) (fun c11 => ?_)
          · exfalso; omega
          · skip
            refine r_iload_n (pc := 14) dX10_want_14 rfl ?_
            refine r_callS_P (pc := 15) (As := [.int (nI pn)]) 172 dX10_want_15 lk_X10_isPrice (ml_RX10_172 rfl) sm_X10_isPrice (Nat.le_of_ble_eq_true rfl) rfl (isPriceM_y hpn) ?_
            refine r_if_eq_n (pc := 18) (a := 1) (tgt := 31) dX10_want_18 (by decide) (by omega) (fun c18 => ?_) (fun c18 => ?_)
            · exfalso; omega
            · skip
              refine r_aload_n (pc := 21) dX10_want_21 rfl ?_
              refine r_iload_n (pc := 22) dX10_want_22 rfl ?_
              refine r_iload_n (pc := 23) dX10_want_23 rfl ?_
              refine r_iload_n (pc := 24) dX10_want_24 rfl ?_
              refine r_callV_P (pc := 25) (b := m) (As := [.int (nI k), .int (nI hn), .int (nI pn)]) 10 168 dX10_want_25 lk_X10_wanted (ml_RX10_168 rfl) im_X10_wanted se_X10_wanted (by decide) (c10_o hm) (Nat.le_of_ble_eq_true rfl) rfl (wanted_ct hm (hZ.mt hk0) (by omega) (by omega) (by omega)) ?_
              refine r_goto (pc := 28) (tgt := 32) dX10_want_28 (by decide) ?_
              refine r_ret_i (pc := 32) dX10_want_32 rfl ?_
              exact ⟨_, Ia, rfl, rfl, (by unfold aWant; rw [atN_s et, atN_s eh, if_pos hsh, atN_s ep] <;> rfl), hM.z hZ, fun x j z => hZ x j (by omega) (by omega)⟩
        · skip
          refine r_aload_n (pc := 0) dX10_want_0 rfl ?_
          refine r_iconst (pc := 1) (v := 0) dX10_want_1 (by decide) ?_
          refine r_putI (pc := 2) (v := nI 0) 10 0 84 dX10_want_2 (fl_RX10_84 rfl) (by decide) rfl rfl (c10_o hm) ?_
          obtain ⟨Ia, hIa⟩ : ∃ zz0 : Im, zz0 = up2 I m 0 (nI 0) := ⟨_, rfl⟩
          refine wp_M (M2 := (Ia, G)) (by subst hIa; rfl) ?_
          have hZ : FrZ I Ia m := by rw [hIa]; exact FrZ.rf.u (by omega)
          refine r_aload_n (pc := 5) dX10_want_5 rfl ?_
          refine r_iload_n (pc := 6) dX10_want_6 rfl ?_
          refine r_iload_n (pc := 7) dX10_want_7 rfl ?_
          refine r_callV_P (pc := 8) (b := m) (As := [.int (nI k), .int (nI hn)]) 10 165 dX10_want_8 lk_X10_isShop (ml_RX10_165 rfl) im_X10_isShop se_X10_isShop (by decide) (c10_o hm) (Nat.le_of_ble_eq_true rfl) rfl (isShopM_y hm (hZ.mt hk0) (hZ.c hcn) hcn10 hk hhn hsh) ?_
          refine r_if_eq_n (pc := 11) (a := 1) (tgt := 31) dX10_want_11 (by decide) (by omega) (fun c11 => ?_) (fun c11 => ?_)
          · exfalso; omega
          · skip
            refine r_iload_n (pc := 14) dX10_want_14 rfl ?_
            refine r_callS_P (pc := 15) (As := [.int p]) 172 dX10_want_15 lk_X10_isPrice (ml_RX10_172 rfl) sm_X10_isPrice (Nat.le_of_ble_eq_true rfl) rfl (isPriceM_n hnop) ?_
            refine r_if_eq_n (pc := 18) (a := 0) (tgt := 31) dX10_want_18 (by decide) (by omega) (fun c18 => ?_) (fun c18 => ?_)
            · skip
              refine r_iconst (pc := 31) (v := -1) dX10_want_31 (by decide) ?_
              refine r_ret_i (pc := 32) dX10_want_32 rfl ?_
              exact ⟨_, Ia, rfl, rfl, (by unfold aWant; rw [atN_s et, atN_s eh, if_pos hsh, atN_n ep] <;> rfl), hM.z hZ, fun x j z => hZ x j (by omega) (by omega)⟩
            · exfalso; omega
      · skip
        refine r_aload_n (pc := 0) dX10_want_0 rfl ?_
        refine r_iconst (pc := 1) (v := 0) dX10_want_1 (by decide) ?_
        refine r_putI (pc := 2) (v := nI 0) 10 0 84 dX10_want_2 (fl_RX10_84 rfl) (by decide) rfl rfl (c10_o hm) ?_
        obtain ⟨Ia, hIa⟩ : ∃ zz0 : Im, zz0 = up2 I m 0 (nI 0) := ⟨_, rfl⟩
        refine wp_M (M2 := (Ia, G)) (by subst hIa; rfl) ?_
        have hZ : FrZ I Ia m := by rw [hIa]; exact FrZ.rf.u (by omega)
        refine r_aload_n (pc := 5) dX10_want_5 rfl ?_
        refine r_iload_n (pc := 6) dX10_want_6 rfl ?_
        refine r_iload_n (pc := 7) dX10_want_7 rfl ?_
        refine r_callV_P (pc := 8) (b := m) (As := [.int (nI k), .int (nI hn)]) 10 165 dX10_want_8 lk_X10_isShop (ml_RX10_165 rfl) im_X10_isShop se_X10_isShop (by decide) (c10_o hm) (Nat.le_of_ble_eq_true rfl) rfl (isShopM_n hm (hZ.mt hk0) (hZ.c hcn) hcn10 hk hhn hsh) ?_
        refine r_if_eq_n (pc := 11) (a := 0) (tgt := 31) dX10_want_11 (by decide) (by omega) (fun c11 => ?_) (fun c11 => ?_)
        · skip
          refine r_iconst (pc := 31) (v := -1) dX10_want_31 (by decide) ?_
          refine r_ret_i (pc := 32) dX10_want_32 rfl ?_
          exact ⟨_, Ia, rfl, rfl, (by unfold aWant; rw [atN_s et, atN_s eh, if_neg hsh] <;> rfl), hM.z hZ, fun x j z => hZ x j (by omega) (by omega)⟩
        · exfalso; omega
    · skip
      refine r_aload_n (pc := 0) dX10_want_0 rfl ?_
      refine r_iconst (pc := 1) (v := 0) dX10_want_1 (by decide) ?_
      refine r_putI (pc := 2) (v := nI 0) 10 0 84 dX10_want_2 (fl_RX10_84 rfl) (by decide) rfl rfl (c10_o hm) ?_
      obtain ⟨Ia, hIa⟩ : ∃ zz0 : Im, zz0 = up2 I m 0 (nI 0) := ⟨_, rfl⟩
      refine wp_M (M2 := (Ia, G)) (by subst hIa; rfl) ?_
      have hZ : FrZ I Ia m := by rw [hIa]; exact FrZ.rf.u (by omega)
      refine r_aload_n (pc := 5) dX10_want_5 rfl ?_
      refine r_iload_n (pc := 6) dX10_want_6 rfl ?_
      refine r_iload_n (pc := 7) dX10_want_7 rfl ?_
      refine r_callV_P (pc := 8) (b := m) (As := [.int (nI k), .int h]) 10 165 dX10_want_8 lk_X10_isShop (ml_RX10_165 rfl) im_X10_isShop se_X10_isShop (by decide) (c10_o hm) (Nat.le_of_ble_eq_true rfl) rfl (isShopM_no hm (hZ.mt hk0) (hZ.c hcn) hcn10 hk hnoh) ?_
      refine r_if_eq_n (pc := 11) (a := 0) (tgt := 31) dX10_want_11 (by decide) (by omega) (fun c11 => ?_) (fun c11 => ?_)
      · skip
        refine r_iconst (pc := 31) (v := -1) dX10_want_31 (by decide) ?_
        refine r_ret_i (pc := 32) dX10_want_32 rfl ?_
        exact ⟨_, Ia, rfl, rfl, (by unfold aWant; rw [atN_s et, atN_n eh] <;> rfl), hM.z hZ, fun x j z => hZ x j (by omega) (by omega)⟩
      · exfalso; omega
  · skip
    refine r_aload_n (pc := 0) dX10_want_0 rfl ?_
    refine r_iconst (pc := 1) (v := 0) dX10_want_1 (by decide) ?_
    refine r_putI (pc := 2) (v := nI 0) 10 0 84 dX10_want_2 (fl_RX10_84 rfl) (by decide) rfl rfl (c10_o hm) ?_
    obtain ⟨Ia, hIa⟩ : ∃ zz0 : Im, zz0 = up2 I m 0 (nI 0) := ⟨_, rfl⟩
    refine wp_M (M2 := (Ia, G)) (by subst hIa; rfl) ?_
    have hZ : FrZ I Ia m := by rw [hIa]; exact FrZ.rf.u (by omega)
    refine r_aload_n (pc := 5) dX10_want_5 rfl ?_
    refine r_iload_n (pc := 6) dX10_want_6 rfl ?_
    refine r_iload_n (pc := 7) dX10_want_7 rfl ?_
    refine r_callV_P (pc := 8) (b := m) (As := [.int t, .int h]) 10 165 dX10_want_8 lk_X10_isShop (ml_RX10_165 rfl) im_X10_isShop se_X10_isShop (by decide) (c10_o hm) (Nat.le_of_ble_eq_true rfl) rfl (isShopM_nt hm (by rw [(hZ.c hcn)]; exact hnot)) ?_
    refine r_if_eq_n (pc := 11) (a := 0) (tgt := 31) dX10_want_11 (by decide) (by omega) (fun c11 => ?_) (fun c11 => ?_)
    · skip
      refine r_iconst (pc := 31) (v := -1) dX10_want_31 (by decide) ?_
      refine r_ret_i (pc := 32) dX10_want_32 rfl ?_
      exact ⟨_, Ia, rfl, rfl, (by unfold aWant; rw [atN_n et] <;> rfl), hM.z hZ, fun x j z => hZ x j (by omega) (by omega)⟩
    · exfalso; omega

set_option maxHeartbeats 300000 in
set_option maxRecDepth 100000 in
theorem ask_m {d : Nat} {I : Im} {G : Gm} {s : Sta} {m : Nat} (hm : isC10 G m) (hM : Mi s I m) {t : Int32} {h : Int32} {u : Int32} : Ct (d + 4) 0 0 YX10_ask [.ref m, .int t, .int h, .int u] (I, G) (qM G (fun v I2 => PmQ s I m (aAsk s t h u) v I2)) := by
  refine Ct.of (by decide) (by simp [Value.category]) (Nat.le_of_ble_eq_true rfl) ?_
  have hcn := hM.2.1
  have hcn10 := hM.2.2.1
  have hZ : FrZ I I m := FrZ.rf
  show wp _ _ _ _ 0 [some (.ref m), some (.int t), some (.int h), some (.int u)] [] _ _
  rcases in_cases (n := sN s) (by have := hcn10; omega) t with ⟨k, hk, rfl, et⟩ | ⟨et, hnot⟩
  · skip
    obtain ⟨hok, hMd⟩ := hM.2.2.2.1 k hk
    have hk0 : MtC I m k (eK' s k) (dT (dK s k)) := mtc_of hok.1 hMd.1 _
    have hn8 : dN (dK s k) ≤ 8 := hok.1.1.2
    have hE : SrC (eK' s k) := src_of hok.1 _
    have hW : WbC (eK' s k) := wbc_of hok.1 _
    have hc30 : ∀ b, dC (dK s k) b ≤ 30 := hok.1.2.1
    rcases in_cases (n := dN (dK s k)) (by have := hn8; omega) h with ⟨hn, hhn, rfl, eh⟩ | ⟨eh, hnoh⟩
    · skip
      by_cases hsh : shP (dK s k) hn
      · skip
        rcases in_cases (n := 301) (by omega) u with ⟨un, hun, rfl, eu⟩ | ⟨eu, hnou⟩
        · skip
          refine r_aload_n (pc := 0) dX10_ask_0 rfl ?_
          refine r_iconst (pc := 1) (v := 0) dX10_ask_1 (by decide) ?_
          refine r_putI (pc := 2) (v := nI 0) 10 0 84 dX10_ask_2 (fl_RX10_84 rfl) (by decide) rfl rfl (c10_o hm) ?_
          obtain ⟨Ia, hIa⟩ : ∃ zz0 : Im, zz0 = up2 I m 0 (nI 0) := ⟨_, rfl⟩
          refine wp_M (M2 := (Ia, G)) (by subst hIa; rfl) ?_
          have hZ : FrZ I Ia m := by rw [hIa]; exact FrZ.rf.u (by omega)
          refine r_aload_n (pc := 5) dX10_ask_5 rfl ?_
          refine r_iload_n (pc := 6) dX10_ask_6 rfl ?_
          refine r_iload_n (pc := 7) dX10_ask_7 rfl ?_
          refine r_callV_P (pc := 8) (b := m) (As := [.int (nI k), .int (nI hn)]) 10 165 dX10_ask_8 lk_X10_isShop (ml_RX10_165 rfl) im_X10_isShop se_X10_isShop (by decide) (c10_o hm) (Nat.le_of_ble_eq_true rfl) rfl (isShopM_y hm (hZ.mt hk0) (hZ.c hcn) hcn10 hk hhn hsh) ?_
          refine r_if_eq_n (pc := 11) (a := 1) (tgt := 25) dX10_ask_11 (by decide) (by omega) (fun c11 => ?_) (fun c11 => ?_)
          · exfalso; omega
          · skip
            refine r_iload_n (pc := 14) dX10_ask_14 rfl ?_
            refine r_iconst (pc := 15) (v := 0) dX10_ask_15 (by decide) ?_
            refine r_sipush (pc := 16) (v := 300) dX10_ask_16 (by decide) ?_
            refine r_callS_P (pc := 19) (As := [.int (nI un), .int (nI 0), .int (nI 300)]) 123 dX10_ask_19 lk_X10_isIn (ml_RX10_123 rfl) sm_X10_isIn (Nat.le_of_ble_eq_true rfl) rfl (isIn_y (n := 300) (by omega) hun) ?_
            refine r_if_ne_n (pc := 22) (a := 1) (tgt := 27) dX10_ask_22 (by decide) (by omega) (fun c22 => ?_) (fun c22 => ?_)
            · skip
              refine r_aload_n (pc := 27) dX10_ask_27 rfl ?_
              refine r_iload_n (pc := 28) dX10_ask_28 rfl ?_
              refine r_callV_V (pc := 29) (b := m) (As := [.int (nI k)]) 10 223 dX10_ask_29 lk_X10_termsOf (ml_RX10_223 rfl) im_X10_termsOf se_X10_termsOf (by decide) (c10_o hm) (Nat.le_of_ble_eq_true rfl) rfl (termsOf_e (E := (eK' s k)) hm (hZ.mt hk0) (hZ.c hcn) hcn10 hk (hZ.tm hMd.2.1)) (fun I1 h1 => ?_)
              obtain ⟨hS1, hF1⟩ := h1
              have hZ : FrZ I I1 m := hZ.tr hF1.z
              have hcnZ : I1 m 20 = nI (sN s) := hS1.2.2.1
              refine r_aload_n (pc := 32) dX10_ask_32 rfl ?_
              refine r_iload_n (pc := 33) dX10_ask_33 rfl ?_
              refine r_iload_n (pc := 34) dX10_ask_34 rfl ?_
              refine r_callV_P (pc := 35) (b := m) (As := [.int (nI hn), .int (nI un)]) 10 213 dX10_ask_35 lk_X10_askBy (ml_RX10_213 rfl) im_X10_askBy se_X10_askBy (by decide) (c10_o hm) (Nat.le_of_ble_eq_true rfl) rfl (askBy_ct hm hS1.1 (by omega) hS1.2.1 (by omega) (by omega)) ?_
              refine r_ret_i (pc := 38) dX10_ask_38 rfl ?_
              exact ⟨_, I1, rfl, rfl, (by unfold aAsk; rw [atN_s et, atN_s eh, if_pos hsh, atN_s eu] <;> rfl), hM.z hZ, fun x j z => hZ x j (by omega) (by omega)⟩
            · exfalso; omega
        · skip
          refine r_aload_n (pc := 0) dX10_ask_0 rfl ?_
          refine r_iconst (pc := 1) (v := 0) dX10_ask_1 (by decide) ?_
          refine r_putI (pc := 2) (v := nI 0) 10 0 84 dX10_ask_2 (fl_RX10_84 rfl) (by decide) rfl rfl (c10_o hm) ?_
          obtain ⟨Ia, hIa⟩ : ∃ zz0 : Im, zz0 = up2 I m 0 (nI 0) := ⟨_, rfl⟩
          refine wp_M (M2 := (Ia, G)) (by subst hIa; rfl) ?_
          have hZ : FrZ I Ia m := by rw [hIa]; exact FrZ.rf.u (by omega)
          refine r_aload_n (pc := 5) dX10_ask_5 rfl ?_
          refine r_iload_n (pc := 6) dX10_ask_6 rfl ?_
          refine r_iload_n (pc := 7) dX10_ask_7 rfl ?_
          refine r_callV_P (pc := 8) (b := m) (As := [.int (nI k), .int (nI hn)]) 10 165 dX10_ask_8 lk_X10_isShop (ml_RX10_165 rfl) im_X10_isShop se_X10_isShop (by decide) (c10_o hm) (Nat.le_of_ble_eq_true rfl) rfl (isShopM_y hm (hZ.mt hk0) (hZ.c hcn) hcn10 hk hhn hsh) ?_
          refine r_if_eq_n (pc := 11) (a := 1) (tgt := 25) dX10_ask_11 (by decide) (by omega) (fun c11 => ?_) (fun c11 => ?_)
          · exfalso; omega
          · skip
            refine r_iload_n (pc := 14) dX10_ask_14 rfl ?_
            refine r_iconst (pc := 15) (v := 0) dX10_ask_15 (by decide) ?_
            refine r_sipush (pc := 16) (v := 300) dX10_ask_16 (by decide) ?_
            refine r_callS_P (pc := 19) (As := [.int u, .int (nI 0), .int (nI 300)]) 123 dX10_ask_19 lk_X10_isIn (ml_RX10_123 rfl) sm_X10_isIn (Nat.le_of_ble_eq_true rfl) rfl (isIn_no (n := 300) (by omega) hnou) ?_
            refine r_if_ne_n (pc := 22) (a := 0) (tgt := 27) dX10_ask_22 (by decide) (by omega) (fun c22 => ?_) (fun c22 => ?_)
            · exfalso; omega
            · skip
              refine r_iconst (pc := 25) (v := -1) dX10_ask_25 (by decide) ?_
              refine r_ret_i (pc := 26) dX10_ask_26 rfl ?_
              exact ⟨_, Ia, rfl, rfl, (by unfold aAsk; rw [atN_s et, atN_s eh, if_pos hsh, atN_n eu] <;> rfl), hM.z hZ, fun x j z => hZ x j (by omega) (by omega)⟩
      · skip
        refine r_aload_n (pc := 0) dX10_ask_0 rfl ?_
        refine r_iconst (pc := 1) (v := 0) dX10_ask_1 (by decide) ?_
        refine r_putI (pc := 2) (v := nI 0) 10 0 84 dX10_ask_2 (fl_RX10_84 rfl) (by decide) rfl rfl (c10_o hm) ?_
        obtain ⟨Ia, hIa⟩ : ∃ zz0 : Im, zz0 = up2 I m 0 (nI 0) := ⟨_, rfl⟩
        refine wp_M (M2 := (Ia, G)) (by subst hIa; rfl) ?_
        have hZ : FrZ I Ia m := by rw [hIa]; exact FrZ.rf.u (by omega)
        refine r_aload_n (pc := 5) dX10_ask_5 rfl ?_
        refine r_iload_n (pc := 6) dX10_ask_6 rfl ?_
        refine r_iload_n (pc := 7) dX10_ask_7 rfl ?_
        refine r_callV_P (pc := 8) (b := m) (As := [.int (nI k), .int (nI hn)]) 10 165 dX10_ask_8 lk_X10_isShop (ml_RX10_165 rfl) im_X10_isShop se_X10_isShop (by decide) (c10_o hm) (Nat.le_of_ble_eq_true rfl) rfl (isShopM_n hm (hZ.mt hk0) (hZ.c hcn) hcn10 hk hhn hsh) ?_
        refine r_if_eq_n (pc := 11) (a := 0) (tgt := 25) dX10_ask_11 (by decide) (by omega) (fun c11 => ?_) (fun c11 => ?_)
        · skip
          refine r_iconst (pc := 25) (v := -1) dX10_ask_25 (by decide) ?_
          refine r_ret_i (pc := 26) dX10_ask_26 rfl ?_
          exact ⟨_, Ia, rfl, rfl, (by unfold aAsk; rw [atN_s et, atN_s eh, if_neg hsh] <;> rfl), hM.z hZ, fun x j z => hZ x j (by omega) (by omega)⟩
        · exfalso; omega
    · skip
      refine r_aload_n (pc := 0) dX10_ask_0 rfl ?_
      refine r_iconst (pc := 1) (v := 0) dX10_ask_1 (by decide) ?_
      refine r_putI (pc := 2) (v := nI 0) 10 0 84 dX10_ask_2 (fl_RX10_84 rfl) (by decide) rfl rfl (c10_o hm) ?_
      obtain ⟨Ia, hIa⟩ : ∃ zz0 : Im, zz0 = up2 I m 0 (nI 0) := ⟨_, rfl⟩
      refine wp_M (M2 := (Ia, G)) (by subst hIa; rfl) ?_
      have hZ : FrZ I Ia m := by rw [hIa]; exact FrZ.rf.u (by omega)
      refine r_aload_n (pc := 5) dX10_ask_5 rfl ?_
      refine r_iload_n (pc := 6) dX10_ask_6 rfl ?_
      refine r_iload_n (pc := 7) dX10_ask_7 rfl ?_
      refine r_callV_P (pc := 8) (b := m) (As := [.int (nI k), .int h]) 10 165 dX10_ask_8 lk_X10_isShop (ml_RX10_165 rfl) im_X10_isShop se_X10_isShop (by decide) (c10_o hm) (Nat.le_of_ble_eq_true rfl) rfl (isShopM_no hm (hZ.mt hk0) (hZ.c hcn) hcn10 hk hnoh) ?_
      refine r_if_eq_n (pc := 11) (a := 0) (tgt := 25) dX10_ask_11 (by decide) (by omega) (fun c11 => ?_) (fun c11 => ?_)
      · skip
        refine r_iconst (pc := 25) (v := -1) dX10_ask_25 (by decide) ?_
        refine r_ret_i (pc := 26) dX10_ask_26 rfl ?_
        exact ⟨_, Ia, rfl, rfl, (by unfold aAsk; rw [atN_s et, atN_n eh] <;> rfl), hM.z hZ, fun x j z => hZ x j (by omega) (by omega)⟩
      · exfalso; omega
  · skip
    refine r_aload_n (pc := 0) dX10_ask_0 rfl ?_
    refine r_iconst (pc := 1) (v := 0) dX10_ask_1 (by decide) ?_
    refine r_putI (pc := 2) (v := nI 0) 10 0 84 dX10_ask_2 (fl_RX10_84 rfl) (by decide) rfl rfl (c10_o hm) ?_
    obtain ⟨Ia, hIa⟩ : ∃ zz0 : Im, zz0 = up2 I m 0 (nI 0) := ⟨_, rfl⟩
    refine wp_M (M2 := (Ia, G)) (by subst hIa; rfl) ?_
    have hZ : FrZ I Ia m := by rw [hIa]; exact FrZ.rf.u (by omega)
    refine r_aload_n (pc := 5) dX10_ask_5 rfl ?_
    refine r_iload_n (pc := 6) dX10_ask_6 rfl ?_
    refine r_iload_n (pc := 7) dX10_ask_7 rfl ?_
    refine r_callV_P (pc := 8) (b := m) (As := [.int t, .int h]) 10 165 dX10_ask_8 lk_X10_isShop (ml_RX10_165 rfl) im_X10_isShop se_X10_isShop (by decide) (c10_o hm) (Nat.le_of_ble_eq_true rfl) rfl (isShopM_nt hm (by rw [(hZ.c hcn)]; exact hnot)) ?_
    refine r_if_eq_n (pc := 11) (a := 0) (tgt := 25) dX10_ask_11 (by decide) (by omega) (fun c11 => ?_) (fun c11 => ?_)
    · skip
      refine r_iconst (pc := 25) (v := -1) dX10_ask_25 (by decide) ?_
      refine r_ret_i (pc := 26) dX10_ask_26 rfl ?_
      exact ⟨_, Ia, rfl, rfl, (by unfold aAsk; rw [atN_n et] <;> rfl), hM.z hZ, fun x j z => hZ x j (by omega) (by omega)⟩
    · exfalso; omega

set_option maxHeartbeats 300000 in
set_option maxRecDepth 100000 in
theorem take_m {d : Nat} {I : Im} {G : Gm} {s : Sta} {m : Nat} (hm : isC10 G m) (hM : Mi s I m) {t : Int32} {h : Int32} {u : Int32} : Ct (d + 41) 0 0 YX10_take [.ref m, .int t, .int h, .int u] (I, G) (qM G (fun v I2 => PmQ s I m (aTake s t h u) v I2)) := by
  refine Ct.of (by decide) (by simp [Value.category]) (Nat.le_of_ble_eq_true rfl) ?_
  have hcn := hM.2.1
  have hcn10 := hM.2.2.1
  have hZ : FrZ I I m := FrZ.rf
  show wp _ _ _ _ 0 [some (.ref m), some (.int t), some (.int h), some (.int u)] [] _ _
  rcases in_cases (n := sN s) (by have := hcn10; omega) t with ⟨k, hk, rfl, et⟩ | ⟨et, hnot⟩
  · skip
    obtain ⟨hok, hMd⟩ := hM.2.2.2.1 k hk
    have hk0 : MtC I m k (eK' s k) (dT (dK s k)) := mtc_of hok.1 hMd.1 _
    have hn8 : dN (dK s k) ≤ 8 := hok.1.1.2
    have hE : SrC (eK' s k) := src_of hok.1 _
    have hW : WbC (eK' s k) := wbc_of hok.1 _
    have hc30 : ∀ b, dC (dK s k) b ≤ 30 := hok.1.2.1
    rcases in_cases (n := dN (dK s k)) (by have := hn8; omega) h with ⟨hn, hhn, rfl, eh⟩ | ⟨eh, hnoh⟩
    · skip
      rcases in_cases (n := 301) (by omega) u with ⟨un, hun, rfl, eu⟩ | ⟨eu, hnou⟩
      · skip
        refine r_aload_n (pc := 0) dX10_take_0 rfl ?_
        refine r_iconst (pc := 1) (v := 0) dX10_take_1 (by decide) ?_
        refine r_putI (pc := 2) (v := nI 0) 10 0 84 dX10_take_2 (fl_RX10_84 rfl) (by decide) rfl rfl (c10_o hm) ?_
        obtain ⟨Ia, hIa⟩ : ∃ zz0 : Im, zz0 = up2 I m 0 (nI 0) := ⟨_, rfl⟩
        refine wp_M (M2 := (Ia, G)) (by subst hIa; rfl) ?_
        have hZ : FrZ I Ia m := by rw [hIa]; exact FrZ.rf.u (by omega)
        refine r_aload_n (pc := 5) dX10_take_5 rfl ?_
        refine r_iload_n (pc := 6) dX10_take_6 rfl ?_
        refine r_iload_n (pc := 7) dX10_take_7 rfl ?_
        refine r_callV_P (pc := 8) (b := m) (As := [.int (nI k), .int (nI hn)]) 10 154 dX10_take_8 lk_X10_isHouse (ml_RX10_154 rfl) im_X10_isHouse se_X10_isHouse (by decide) (c10_o hm) (Nat.le_of_ble_eq_true rfl) rfl (isHouse_ct hm (hZ.mt hk0) (by omega) (hZ.c hcn) hcn10 hk hhn) ?_
        refine r_if_eq_n (pc := 11) (a := 1) (tgt := 25) dX10_take_11 (by decide) (by omega) (fun c11 => ?_) (fun c11 => ?_)
        · exfalso; omega
        · skip
          refine r_iload_n (pc := 14) dX10_take_14 rfl ?_
          refine r_iconst (pc := 15) (v := 0) dX10_take_15 (by decide) ?_
          refine r_sipush (pc := 16) (v := 300) dX10_take_16 (by decide) ?_
          refine r_callS_P (pc := 19) (As := [.int (nI un), .int (nI 0), .int (nI 300)]) 123 dX10_take_19 lk_X10_isIn (ml_RX10_123 rfl) sm_X10_isIn (Nat.le_of_ble_eq_true rfl) rfl (isIn_y (n := 300) (by omega) hun) ?_
          refine r_if_ne_n (pc := 22) (a := 1) (tgt := 27) dX10_take_22 (by decide) (by omega) (fun c22 => ?_) (fun c22 => ?_)
          · skip
            refine r_aload_n (pc := 27) dX10_take_27 rfl ?_
            refine r_iload_n (pc := 28) dX10_take_28 rfl ?_
            refine r_callV_V (pc := 29) (b := m) (As := [.int (nI k)]) 10 223 dX10_take_29 lk_X10_termsOf (ml_RX10_223 rfl) im_X10_termsOf se_X10_termsOf (by decide) (c10_o hm) (Nat.le_of_ble_eq_true rfl) rfl (termsOf_e (E := (eK' s k)) hm (hZ.mt hk0) (hZ.c hcn) hcn10 hk (hZ.tm hMd.2.1)) (fun I1 h1 => ?_)
            obtain ⟨hS1, hF1⟩ := h1
            have hZ : FrZ I I1 m := hZ.tr hF1.z
            have hcnZ : I1 m 20 = nI (sN s) := hS1.2.2.1
            refine r_aload_n (pc := 32) dX10_take_32 rfl ?_
            refine r_iload_n (pc := 33) dX10_take_33 rfl ?_
            refine r_iload_n (pc := 34) dX10_take_34 rfl ?_
            refine r_callV_M (pc := 35) (b := m) (As := [.int (nI hn), .int (nI un)]) 10 204 dX10_take_35 lk_X10_takeBy (ml_RX10_204 rfl) im_X10_takeBy se_X10_takeBy (by decide) (c10_o hm) (Nat.le_of_ble_eq_true rfl) rfl ((tk_all hm hc30 (by omega) (bdm hE hW) hE.2 hE.1 (8 - hn) hn rfl hhn (d + 40) (by omega)).1 I1 _ hS1 (by omega)) (fun v35 I2 h2 => ?_)
            obtain ⟨rfl, hK2, hF2⟩ := h2
            have hS2 := hS1.keep hF2 hK2
            have hZ : FrZ I I2 m := hZ.tr hF2.w.z
            refine r_ret_i (pc := 38) dX10_take_38 rfl ?_
            exact ⟨_, I2, rfl, rfl, (by unfold aTake; rw [atN_s et, atN_s eh, atN_s eu] <;> rfl), hM.z hZ, fun x j z => hZ x j (by omega) (by omega)⟩
          · exfalso; omega
      · skip
        refine r_aload_n (pc := 0) dX10_take_0 rfl ?_
        refine r_iconst (pc := 1) (v := 0) dX10_take_1 (by decide) ?_
        refine r_putI (pc := 2) (v := nI 0) 10 0 84 dX10_take_2 (fl_RX10_84 rfl) (by decide) rfl rfl (c10_o hm) ?_
        obtain ⟨Ia, hIa⟩ : ∃ zz0 : Im, zz0 = up2 I m 0 (nI 0) := ⟨_, rfl⟩
        refine wp_M (M2 := (Ia, G)) (by subst hIa; rfl) ?_
        have hZ : FrZ I Ia m := by rw [hIa]; exact FrZ.rf.u (by omega)
        refine r_aload_n (pc := 5) dX10_take_5 rfl ?_
        refine r_iload_n (pc := 6) dX10_take_6 rfl ?_
        refine r_iload_n (pc := 7) dX10_take_7 rfl ?_
        refine r_callV_P (pc := 8) (b := m) (As := [.int (nI k), .int (nI hn)]) 10 154 dX10_take_8 lk_X10_isHouse (ml_RX10_154 rfl) im_X10_isHouse se_X10_isHouse (by decide) (c10_o hm) (Nat.le_of_ble_eq_true rfl) rfl (isHouse_ct hm (hZ.mt hk0) (by omega) (hZ.c hcn) hcn10 hk hhn) ?_
        refine r_if_eq_n (pc := 11) (a := 1) (tgt := 25) dX10_take_11 (by decide) (by omega) (fun c11 => ?_) (fun c11 => ?_)
        · exfalso; omega
        · skip
          refine r_iload_n (pc := 14) dX10_take_14 rfl ?_
          refine r_iconst (pc := 15) (v := 0) dX10_take_15 (by decide) ?_
          refine r_sipush (pc := 16) (v := 300) dX10_take_16 (by decide) ?_
          refine r_callS_P (pc := 19) (As := [.int u, .int (nI 0), .int (nI 300)]) 123 dX10_take_19 lk_X10_isIn (ml_RX10_123 rfl) sm_X10_isIn (Nat.le_of_ble_eq_true rfl) rfl (isIn_no (n := 300) (by omega) hnou) ?_
          refine r_if_ne_n (pc := 22) (a := 0) (tgt := 27) dX10_take_22 (by decide) (by omega) (fun c22 => ?_) (fun c22 => ?_)
          · exfalso; omega
          · skip
            refine r_iconst (pc := 25) (v := -1) dX10_take_25 (by decide) ?_
            refine r_ret_i (pc := 26) dX10_take_26 rfl ?_
            exact ⟨_, Ia, rfl, rfl, (by unfold aTake; rw [atN_s et, atN_s eh, atN_n eu] <;> rfl), hM.z hZ, fun x j z => hZ x j (by omega) (by omega)⟩
    · skip
      refine r_aload_n (pc := 0) dX10_take_0 rfl ?_
      refine r_iconst (pc := 1) (v := 0) dX10_take_1 (by decide) ?_
      refine r_putI (pc := 2) (v := nI 0) 10 0 84 dX10_take_2 (fl_RX10_84 rfl) (by decide) rfl rfl (c10_o hm) ?_
      obtain ⟨Ia, hIa⟩ : ∃ zz0 : Im, zz0 = up2 I m 0 (nI 0) := ⟨_, rfl⟩
      refine wp_M (M2 := (Ia, G)) (by subst hIa; rfl) ?_
      have hZ : FrZ I Ia m := by rw [hIa]; exact FrZ.rf.u (by omega)
      refine r_aload_n (pc := 5) dX10_take_5 rfl ?_
      refine r_iload_n (pc := 6) dX10_take_6 rfl ?_
      refine r_iload_n (pc := 7) dX10_take_7 rfl ?_
      refine r_callV_P (pc := 8) (b := m) (As := [.int (nI k), .int h]) 10 154 dX10_take_8 lk_X10_isHouse (ml_RX10_154 rfl) im_X10_isHouse se_X10_isHouse (by decide) (c10_o hm) (Nat.le_of_ble_eq_true rfl) rfl (isHouse_no hm (hZ.mt hk0) (hZ.c hcn) hcn10 hk hnoh) ?_
      refine r_if_eq_n (pc := 11) (a := 0) (tgt := 25) dX10_take_11 (by decide) (by omega) (fun c11 => ?_) (fun c11 => ?_)
      · skip
        refine r_iconst (pc := 25) (v := -1) dX10_take_25 (by decide) ?_
        refine r_ret_i (pc := 26) dX10_take_26 rfl ?_
        exact ⟨_, Ia, rfl, rfl, (by unfold aTake; rw [atN_s et, atN_n eh] <;> rfl), hM.z hZ, fun x j z => hZ x j (by omega) (by omega)⟩
      · exfalso; omega
  · skip
    refine r_aload_n (pc := 0) dX10_take_0 rfl ?_
    refine r_iconst (pc := 1) (v := 0) dX10_take_1 (by decide) ?_
    refine r_putI (pc := 2) (v := nI 0) 10 0 84 dX10_take_2 (fl_RX10_84 rfl) (by decide) rfl rfl (c10_o hm) ?_
    obtain ⟨Ia, hIa⟩ : ∃ zz0 : Im, zz0 = up2 I m 0 (nI 0) := ⟨_, rfl⟩
    refine wp_M (M2 := (Ia, G)) (by subst hIa; rfl) ?_
    have hZ : FrZ I Ia m := by rw [hIa]; exact FrZ.rf.u (by omega)
    refine r_aload_n (pc := 5) dX10_take_5 rfl ?_
    refine r_iload_n (pc := 6) dX10_take_6 rfl ?_
    refine r_iload_n (pc := 7) dX10_take_7 rfl ?_
    refine r_callV_P (pc := 8) (b := m) (As := [.int t, .int h]) 10 154 dX10_take_8 lk_X10_isHouse (ml_RX10_154 rfl) im_X10_isHouse se_X10_isHouse (by decide) (c10_o hm) (Nat.le_of_ble_eq_true rfl) rfl (isHouse_nt hm (by rw [(hZ.c hcn)]; exact hnot)) ?_
    refine r_if_eq_n (pc := 11) (a := 0) (tgt := 25) dX10_take_11 (by decide) (by omega) (fun c11 => ?_) (fun c11 => ?_)
    · skip
      refine r_iconst (pc := 25) (v := -1) dX10_take_25 (by decide) ?_
      refine r_ret_i (pc := 26) dX10_take_26 rfl ?_
      exact ⟨_, Ia, rfl, rfl, (by unfold aTake; rw [atN_n et] <;> rfl), hM.z hZ, fun x j z => hZ x j (by omega) (by omega)⟩
    · exfalso; omega

set_option maxHeartbeats 300000 in
set_option maxRecDepth 100000 in
theorem outcome_m {d : Nat} {I : Im} {G : Gm} {s : Sta} {m : Nat} (hm : isC10 G m) (hM : Mi s I m) {t : Int32} {h : Int32} {w : Int32} : Ct (d + 45) 0 0 YX10_outcome [.ref m, .int t, .int h, .int w] (I, G) (qM G (fun v I2 => PmQ s I m (aOutcome s t h w) v I2)) := by
  refine Ct.of (by decide) (by simp [Value.category]) (Nat.le_of_ble_eq_true rfl) ?_
  have hcn := hM.2.1
  have hcn10 := hM.2.2.1
  have hZ : FrZ I I m := FrZ.rf
  show wp _ _ _ _ 0 [some (.ref m), some (.int t), some (.int h), some (.int w)] [] _ _
  rcases in_cases (n := sN s) (by have := hcn10; omega) t with ⟨k, hk, rfl, et⟩ | ⟨et, hnot⟩
  · skip
    obtain ⟨hok, hMd⟩ := hM.2.2.2.1 k hk
    have hk0 : MtC I m k (eK' s k) (dT (dK s k)) := mtc_of hok.1 hMd.1 _
    have hn8 : dN (dK s k) ≤ 8 := hok.1.1.2
    have hE : SrC (eK' s k) := src_of hok.1 _
    have hW : WbC (eK' s k) := wbc_of hok.1 _
    have hc30 : ∀ b, dC (dK s k) b ≤ 30 := hok.1.2.1
    rcases in_cases (n := dN (dK s k)) (by have := hn8; omega) h with ⟨hn, hhn, rfl, eh⟩ | ⟨eh, hnoh⟩
    · skip
      by_cases hsh : shP (dK s k) hn
      · skip
        rcases in_cases (n := 4) (by omega) w with ⟨wn, hwn, rfl, ew⟩ | ⟨ew, hnow⟩
        · skip
          rcases (show wn = 0 ∨ wn = 1 ∨ wn = 2 ∨ wn = 3 by omega) with rfl | rfl | rfl | rfl
          · skip
            refine r_aload_n (pc := 0) dX10_outcome_0 rfl ?_
            refine r_iconst (pc := 1) (v := 0) dX10_outcome_1 (by decide) ?_
            refine r_putI (pc := 2) (v := nI 0) 10 0 84 dX10_outcome_2 (fl_RX10_84 rfl) (by decide) rfl rfl (c10_o hm) ?_
            obtain ⟨Ia, hIa⟩ : ∃ zz0 : Im, zz0 = up2 I m 0 (nI 0) := ⟨_, rfl⟩
            refine wp_M (M2 := (Ia, G)) (by subst hIa; rfl) ?_
            have hZ : FrZ I Ia m := by rw [hIa]; exact FrZ.rf.u (by omega)
            refine r_aload_n (pc := 5) dX10_outcome_5 rfl ?_
            refine r_iload_n (pc := 6) dX10_outcome_6 rfl ?_
            refine r_iload_n (pc := 7) dX10_outcome_7 rfl ?_
            refine r_callV_P (pc := 8) (b := m) (As := [.int (nI k), .int (nI hn)]) 10 154 dX10_outcome_8 lk_X10_isHouse (ml_RX10_154 rfl) im_X10_isHouse se_X10_isHouse (by decide) (c10_o hm) (Nat.le_of_ble_eq_true rfl) rfl (isHouse_ct hm (hZ.mt hk0) (by omega) (hZ.c hcn) hcn10 hk hhn) ?_
            refine r_if_eq_n (pc := 11) (a := 1) (tgt := 23) dX10_outcome_11 (by decide) (by omega) (fun c11 => ?_) (fun c11 => ?_)
            · exfalso; omega
            · skip
              refine r_iload_n (pc := 14) dX10_outcome_14 rfl ?_
              refine r_iconst (pc := 15) (v := 0) dX10_outcome_15 (by decide) ?_
              refine r_iconst (pc := 16) (v := 3) dX10_outcome_16 (by decide) ?_
              refine r_callS_P (pc := 17) (As := [.int (nI 0), .int (nI 0), .int (nI 3)]) 123 dX10_outcome_17 lk_X10_isIn (ml_RX10_123 rfl) sm_X10_isIn (Nat.le_of_ble_eq_true rfl) rfl (isIn_y (n := 3) (by omega) (by omega)) ?_
              refine r_if_ne_n (pc := 20) (a := 1) (tgt := 26) dX10_outcome_20 (by decide) (by omega) (fun c20 => ?_) (fun c20 => ?_)
              · skip
                refine r_aload_n (pc := 26) dX10_outcome_26 rfl ?_
                refine r_iload_n (pc := 27) dX10_outcome_27 rfl ?_
                refine r_callV_V (pc := 28) (b := m) (As := [.int (nI k)]) 10 223 dX10_outcome_28 lk_X10_termsOf (ml_RX10_223 rfl) im_X10_termsOf se_X10_termsOf (by decide) (c10_o hm) (Nat.le_of_ble_eq_true rfl) rfl (termsOf_e (E := (eK' s k)) hm (hZ.mt hk0) (hZ.c hcn) hcn10 hk (hZ.tm hMd.2.1)) (fun I1 h1 => ?_)
                obtain ⟨hS1, hF1⟩ := h1
                have hZ : FrZ I I1 m := hZ.tr hF1.z
                have hcnZ : I1 m 20 = nI (sN s) := hS1.2.2.1
                refine r_aload_n (pc := 31) dX10_outcome_31 rfl ?_
                refine r_callV_V (pc := 32) (b := m) (As := []) 10 227 dX10_outcome_32 lk_X10_layOutcome (ml_RX10_227 rfl) im_X10_layOutcome se_X10_layOutcome (by decide) (c10_o hm) (Nat.le_of_ble_eq_true rfl) rfl (layOutcome_ct (d := d) hm hS1 hc30 (by omega) (bdm hE hW) hW) (fun I2 h2 => ?_)
                obtain ⟨hK2, hF2, hO2⟩ := h2
                have hS2 := hS1.keepO hF2 hK2
                have hZ : FrZ I I2 m := hZ.tr hF2.w.z
                refine r_iload_n (pc := 35) dX10_outcome_35 rfl ?_
                refine r_tblIn (pc := 36) (x := nI 0) (off := 28) (tgt := 64) dX10_outcome_36 (by decide) (by decide) (by decide) (by decide) ?_
                refine r_aload_n (pc := 64) dX10_outcome_64 rfl ?_
                refine r_get1 (pc := 65) 10 29 66 dX10_outcome_65 (fl_RX10_66 rfl) (by decide) rfl (c10_o hm) (c10_p29 hm) ?_
                refine r_iload_n (pc := 68) dX10_outcome_68 rfl ?_
                refine r_iald_n (pc := 69) (i := hn) dX10_outcome_69 (c10_a29 hm) (by decide) (by omega) (v := nI (pdF (eK' s k) idq hn)) ((hO2 hn hhn).1) ?_
                refine r_ret_i (pc := 70) dX10_outcome_70 rfl ?_
                exact ⟨_, I2, rfl, rfl, (by unfold aOutcome; rw [atN_s et, atN_s eh, atN_s ew] <;> rfl), hM.z hZ, fun x j z => hZ x j (by omega) (by omega)⟩
              · exfalso; omega
          · skip
            refine r_aload_n (pc := 0) dX10_outcome_0 rfl ?_
            refine r_iconst (pc := 1) (v := 0) dX10_outcome_1 (by decide) ?_
            refine r_putI (pc := 2) (v := nI 0) 10 0 84 dX10_outcome_2 (fl_RX10_84 rfl) (by decide) rfl rfl (c10_o hm) ?_
            obtain ⟨Ia, hIa⟩ : ∃ zz0 : Im, zz0 = up2 I m 0 (nI 0) := ⟨_, rfl⟩
            refine wp_M (M2 := (Ia, G)) (by subst hIa; rfl) ?_
            have hZ : FrZ I Ia m := by rw [hIa]; exact FrZ.rf.u (by omega)
            refine r_aload_n (pc := 5) dX10_outcome_5 rfl ?_
            refine r_iload_n (pc := 6) dX10_outcome_6 rfl ?_
            refine r_iload_n (pc := 7) dX10_outcome_7 rfl ?_
            refine r_callV_P (pc := 8) (b := m) (As := [.int (nI k), .int (nI hn)]) 10 154 dX10_outcome_8 lk_X10_isHouse (ml_RX10_154 rfl) im_X10_isHouse se_X10_isHouse (by decide) (c10_o hm) (Nat.le_of_ble_eq_true rfl) rfl (isHouse_ct hm (hZ.mt hk0) (by omega) (hZ.c hcn) hcn10 hk hhn) ?_
            refine r_if_eq_n (pc := 11) (a := 1) (tgt := 23) dX10_outcome_11 (by decide) (by omega) (fun c11 => ?_) (fun c11 => ?_)
            · exfalso; omega
            · skip
              refine r_iload_n (pc := 14) dX10_outcome_14 rfl ?_
              refine r_iconst (pc := 15) (v := 0) dX10_outcome_15 (by decide) ?_
              refine r_iconst (pc := 16) (v := 3) dX10_outcome_16 (by decide) ?_
              refine r_callS_P (pc := 17) (As := [.int (nI 1), .int (nI 0), .int (nI 3)]) 123 dX10_outcome_17 lk_X10_isIn (ml_RX10_123 rfl) sm_X10_isIn (Nat.le_of_ble_eq_true rfl) rfl (isIn_y (n := 3) (by omega) (by omega)) ?_
              refine r_if_ne_n (pc := 20) (a := 1) (tgt := 26) dX10_outcome_20 (by decide) (by omega) (fun c20 => ?_) (fun c20 => ?_)
              · skip
                refine r_aload_n (pc := 26) dX10_outcome_26 rfl ?_
                refine r_iload_n (pc := 27) dX10_outcome_27 rfl ?_
                refine r_callV_V (pc := 28) (b := m) (As := [.int (nI k)]) 10 223 dX10_outcome_28 lk_X10_termsOf (ml_RX10_223 rfl) im_X10_termsOf se_X10_termsOf (by decide) (c10_o hm) (Nat.le_of_ble_eq_true rfl) rfl (termsOf_e (E := (eK' s k)) hm (hZ.mt hk0) (hZ.c hcn) hcn10 hk (hZ.tm hMd.2.1)) (fun I1 h1 => ?_)
                obtain ⟨hS1, hF1⟩ := h1
                have hZ : FrZ I I1 m := hZ.tr hF1.z
                have hcnZ : I1 m 20 = nI (sN s) := hS1.2.2.1
                refine r_aload_n (pc := 31) dX10_outcome_31 rfl ?_
                refine r_callV_V (pc := 32) (b := m) (As := []) 10 227 dX10_outcome_32 lk_X10_layOutcome (ml_RX10_227 rfl) im_X10_layOutcome se_X10_layOutcome (by decide) (c10_o hm) (Nat.le_of_ble_eq_true rfl) rfl (layOutcome_ct (d := d) hm hS1 hc30 (by omega) (bdm hE hW) hW) (fun I2 h2 => ?_)
                obtain ⟨hK2, hF2, hO2⟩ := h2
                have hS2 := hS1.keepO hF2 hK2
                have hZ : FrZ I I2 m := hZ.tr hF2.w.z
                refine r_iload_n (pc := 35) dX10_outcome_35 rfl ?_
                refine r_tblIn (pc := 36) (x := nI 1) (off := 35) (tgt := 71) dX10_outcome_36 (by decide) (by decide) (by decide) (by decide) ?_
                refine r_aload_n (pc := 71) dX10_outcome_71 rfl ?_
                refine r_iload_n (pc := 72) dX10_outcome_72 rfl ?_
                refine r_iload_n (pc := 73) dX10_outcome_73 rfl ?_
                refine r_callV_P (pc := 74) (b := m) (As := [.int (nI k), .int (nI hn)]) 10 165 dX10_outcome_74 lk_X10_isShop (ml_RX10_165 rfl) im_X10_isShop se_X10_isShop (by decide) (c10_o hm) (Nat.le_of_ble_eq_true rfl) rfl (isShopM_y hm (hZ.mt hk0) (hZ.c hcn) hcn10 hk hhn hsh) ?_
                refine r_if_eq_n (pc := 77) (a := 1) (tgt := 94) dX10_outcome_77 (by decide) (by omega) (fun c77 => ?_) (fun c77 => ?_)
                · exfalso; omega
                · skip
                  refine r_aload_n (pc := 80) dX10_outcome_80 rfl ?_
                  refine r_iload_n (pc := 81) dX10_outcome_81 rfl ?_
                  refine r_aload_n (pc := 82) dX10_outcome_82 rfl ?_
                  refine r_get1 (pc := 83) 10 30 69 dX10_outcome_83 (fl_RX10_69 rfl) (by decide) rfl (c10_o hm) (c10_p30 hm) ?_
                  refine r_iload_n (pc := 86) dX10_outcome_86 rfl ?_
                  refine r_iald_n (pc := 87) (i := hn) dX10_outcome_87 (c10_a30 hm) (by decide) (by omega) (v := nI (spF (eK' s k) idq hn)) ((hO2 hn hhn).2) ?_
                  refine r_callV_P (pc := 88) (b := m) (As := [.int (nI hn), .int (nI (spF (eK' s k) idq hn))]) 10 213 dX10_outcome_88 lk_X10_askBy (ml_RX10_213 rfl) im_X10_askBy se_X10_askBy (by decide) (c10_o hm) (Nat.le_of_ble_eq_true rfl) rfl (askBy_ct hm hS2.1 (by omega) hS2.2.1 (by omega) (sp_ub hE hW hc30 (by omega) hhn).2) ?_
                  refine r_goto (pc := 91) (tgt := 95) dX10_outcome_91 (by decide) ?_
                  refine r_ret_i (pc := 95) dX10_outcome_95 rfl ?_
                  exact ⟨_, I2, rfl, rfl, (by unfold aOutcome; rw [atN_s et, atN_s eh, atN_s ew]; exact (show akF (eK' s k) idq hn = _ from if_pos hsh).symm), hM.z hZ, fun x j z => hZ x j (by omega) (by omega)⟩
              · exfalso; omega
          · skip
            refine r_aload_n (pc := 0) dX10_outcome_0 rfl ?_
            refine r_iconst (pc := 1) (v := 0) dX10_outcome_1 (by decide) ?_
            refine r_putI (pc := 2) (v := nI 0) 10 0 84 dX10_outcome_2 (fl_RX10_84 rfl) (by decide) rfl rfl (c10_o hm) ?_
            obtain ⟨Ia, hIa⟩ : ∃ zz0 : Im, zz0 = up2 I m 0 (nI 0) := ⟨_, rfl⟩
            refine wp_M (M2 := (Ia, G)) (by subst hIa; rfl) ?_
            have hZ : FrZ I Ia m := by rw [hIa]; exact FrZ.rf.u (by omega)
            refine r_aload_n (pc := 5) dX10_outcome_5 rfl ?_
            refine r_iload_n (pc := 6) dX10_outcome_6 rfl ?_
            refine r_iload_n (pc := 7) dX10_outcome_7 rfl ?_
            refine r_callV_P (pc := 8) (b := m) (As := [.int (nI k), .int (nI hn)]) 10 154 dX10_outcome_8 lk_X10_isHouse (ml_RX10_154 rfl) im_X10_isHouse se_X10_isHouse (by decide) (c10_o hm) (Nat.le_of_ble_eq_true rfl) rfl (isHouse_ct hm (hZ.mt hk0) (by omega) (hZ.c hcn) hcn10 hk hhn) ?_
            refine r_if_eq_n (pc := 11) (a := 1) (tgt := 23) dX10_outcome_11 (by decide) (by omega) (fun c11 => ?_) (fun c11 => ?_)
            · exfalso; omega
            · skip
              refine r_iload_n (pc := 14) dX10_outcome_14 rfl ?_
              refine r_iconst (pc := 15) (v := 0) dX10_outcome_15 (by decide) ?_
              refine r_iconst (pc := 16) (v := 3) dX10_outcome_16 (by decide) ?_
              refine r_callS_P (pc := 17) (As := [.int (nI 2), .int (nI 0), .int (nI 3)]) 123 dX10_outcome_17 lk_X10_isIn (ml_RX10_123 rfl) sm_X10_isIn (Nat.le_of_ble_eq_true rfl) rfl (isIn_y (n := 3) (by omega) (by omega)) ?_
              refine r_if_ne_n (pc := 20) (a := 1) (tgt := 26) dX10_outcome_20 (by decide) (by omega) (fun c20 => ?_) (fun c20 => ?_)
              · skip
                refine r_aload_n (pc := 26) dX10_outcome_26 rfl ?_
                refine r_iload_n (pc := 27) dX10_outcome_27 rfl ?_
                refine r_callV_V (pc := 28) (b := m) (As := [.int (nI k)]) 10 223 dX10_outcome_28 lk_X10_termsOf (ml_RX10_223 rfl) im_X10_termsOf se_X10_termsOf (by decide) (c10_o hm) (Nat.le_of_ble_eq_true rfl) rfl (termsOf_e (E := (eK' s k)) hm (hZ.mt hk0) (hZ.c hcn) hcn10 hk (hZ.tm hMd.2.1)) (fun I1 h1 => ?_)
                obtain ⟨hS1, hF1⟩ := h1
                have hZ : FrZ I I1 m := hZ.tr hF1.z
                have hcnZ : I1 m 20 = nI (sN s) := hS1.2.2.1
                refine r_aload_n (pc := 31) dX10_outcome_31 rfl ?_
                refine r_callV_V (pc := 32) (b := m) (As := []) 10 227 dX10_outcome_32 lk_X10_layOutcome (ml_RX10_227 rfl) im_X10_layOutcome se_X10_layOutcome (by decide) (c10_o hm) (Nat.le_of_ble_eq_true rfl) rfl (layOutcome_ct (d := d) hm hS1 hc30 (by omega) (bdm hE hW) hW) (fun I2 h2 => ?_)
                obtain ⟨hK2, hF2, hO2⟩ := h2
                have hS2 := hS1.keepO hF2 hK2
                have hZ : FrZ I I2 m := hZ.tr hF2.w.z
                refine r_iload_n (pc := 35) dX10_outcome_35 rfl ?_
                refine r_tblIn (pc := 36) (x := nI 2) (off := 60) (tgt := 96) dX10_outcome_36 (by decide) (by decide) (by decide) (by decide) ?_
                refine r_aload_n (pc := 96) dX10_outcome_96 rfl ?_
                refine r_iload_n (pc := 97) dX10_outcome_97 rfl ?_
                refine r_aload_n (pc := 98) dX10_outcome_98 rfl ?_
                refine r_get1 (pc := 99) 10 30 69 dX10_outcome_99 (fl_RX10_69 rfl) (by decide) rfl (c10_o hm) (c10_p30 hm) ?_
                refine r_iload_n (pc := 102) dX10_outcome_102 rfl ?_
                refine r_iald_n (pc := 103) (i := hn) dX10_outcome_103 (c10_a30 hm) (by decide) (by omega) (v := nI (spF (eK' s k) idq hn)) ((hO2 hn hhn).2) ?_
                refine r_callV_M (pc := 104) (b := m) (As := [.int (nI hn), .int (nI (spF (eK' s k) idq hn))]) 10 204 dX10_outcome_104 lk_X10_takeBy (ml_RX10_204 rfl) im_X10_takeBy se_X10_takeBy (by decide) (c10_o hm) (Nat.le_of_ble_eq_true rfl) rfl ((tk_all hm hc30 (by omega) (bdm hE hW) hE.2 hE.1 (8 - hn) hn rfl hhn (d + 44) (by omega)).1 I2 _ hS2 (sp_ub hE hW hc30 (by omega) hhn).1) (fun v104 I3 h3 => ?_)
                obtain ⟨rfl, hK3, hF3⟩ := h3
                have hS3 := hS2.keep hF3 hK3
                have hZ : FrZ I I3 m := hZ.tr hF3.w.z
                refine r_ret_i (pc := 107) dX10_outcome_107 rfl ?_
                exact ⟨_, I3, rfl, rfl, (by unfold aOutcome; rw [atN_s et, atN_s eh, atN_s ew] <;> rfl), hM.z hZ, fun x j z => hZ x j (by omega) (by omega)⟩
              · exfalso; omega
          · skip
            refine r_aload_n (pc := 0) dX10_outcome_0 rfl ?_
            refine r_iconst (pc := 1) (v := 0) dX10_outcome_1 (by decide) ?_
            refine r_putI (pc := 2) (v := nI 0) 10 0 84 dX10_outcome_2 (fl_RX10_84 rfl) (by decide) rfl rfl (c10_o hm) ?_
            obtain ⟨Ia, hIa⟩ : ∃ zz0 : Im, zz0 = up2 I m 0 (nI 0) := ⟨_, rfl⟩
            refine wp_M (M2 := (Ia, G)) (by subst hIa; rfl) ?_
            have hZ : FrZ I Ia m := by rw [hIa]; exact FrZ.rf.u (by omega)
            refine r_aload_n (pc := 5) dX10_outcome_5 rfl ?_
            refine r_iload_n (pc := 6) dX10_outcome_6 rfl ?_
            refine r_iload_n (pc := 7) dX10_outcome_7 rfl ?_
            refine r_callV_P (pc := 8) (b := m) (As := [.int (nI k), .int (nI hn)]) 10 154 dX10_outcome_8 lk_X10_isHouse (ml_RX10_154 rfl) im_X10_isHouse se_X10_isHouse (by decide) (c10_o hm) (Nat.le_of_ble_eq_true rfl) rfl (isHouse_ct hm (hZ.mt hk0) (by omega) (hZ.c hcn) hcn10 hk hhn) ?_
            refine r_if_eq_n (pc := 11) (a := 1) (tgt := 23) dX10_outcome_11 (by decide) (by omega) (fun c11 => ?_) (fun c11 => ?_)
            · exfalso; omega
            · skip
              refine r_iload_n (pc := 14) dX10_outcome_14 rfl ?_
              refine r_iconst (pc := 15) (v := 0) dX10_outcome_15 (by decide) ?_
              refine r_iconst (pc := 16) (v := 3) dX10_outcome_16 (by decide) ?_
              refine r_callS_P (pc := 17) (As := [.int (nI 3), .int (nI 0), .int (nI 3)]) 123 dX10_outcome_17 lk_X10_isIn (ml_RX10_123 rfl) sm_X10_isIn (Nat.le_of_ble_eq_true rfl) rfl (isIn_y (n := 3) (by omega) (by omega)) ?_
              refine r_if_ne_n (pc := 20) (a := 1) (tgt := 26) dX10_outcome_20 (by decide) (by omega) (fun c20 => ?_) (fun c20 => ?_)
              · skip
                refine r_aload_n (pc := 26) dX10_outcome_26 rfl ?_
                refine r_iload_n (pc := 27) dX10_outcome_27 rfl ?_
                refine r_callV_V (pc := 28) (b := m) (As := [.int (nI k)]) 10 223 dX10_outcome_28 lk_X10_termsOf (ml_RX10_223 rfl) im_X10_termsOf se_X10_termsOf (by decide) (c10_o hm) (Nat.le_of_ble_eq_true rfl) rfl (termsOf_e (E := (eK' s k)) hm (hZ.mt hk0) (hZ.c hcn) hcn10 hk (hZ.tm hMd.2.1)) (fun I1 h1 => ?_)
                obtain ⟨hS1, hF1⟩ := h1
                have hZ : FrZ I I1 m := hZ.tr hF1.z
                have hcnZ : I1 m 20 = nI (sN s) := hS1.2.2.1
                refine r_aload_n (pc := 31) dX10_outcome_31 rfl ?_
                refine r_callV_V (pc := 32) (b := m) (As := []) 10 227 dX10_outcome_32 lk_X10_layOutcome (ml_RX10_227 rfl) im_X10_layOutcome se_X10_layOutcome (by decide) (c10_o hm) (Nat.le_of_ble_eq_true rfl) rfl (layOutcome_ct (d := d) hm hS1 hc30 (by omega) (bdm hE hW) hW) (fun I2 h2 => ?_)
                obtain ⟨hK2, hF2, hO2⟩ := h2
                have hS2 := hS1.keepO hF2 hK2
                have hZ : FrZ I I2 m := hZ.tr hF2.w.z
                refine r_iload_n (pc := 35) dX10_outcome_35 rfl ?_
                refine r_tblOut (pc := 36) (x := nI 3) (tgt := 108) dX10_outcome_36 (by decide) (by decide) ?_
                refine r_aload_n (pc := 108) dX10_outcome_108 rfl ?_
                refine r_iload_n (pc := 109) dX10_outcome_109 rfl ?_
                refine r_callV_M (pc := 110) (b := m) (As := [.int (nI hn)]) 10 230 dX10_outcome_110 lk_X10_earnsOf (ml_RX10_230 rfl) im_X10_earnsOf se_X10_earnsOf (by decide) (c10_o hm) (Nat.le_of_ble_eq_true rfl) rfl (earnsOf_ct (d := d + 3) hm hS2 hc30 (by omega) (bdm hE hW) hW hO2 hhn) (fun v110 I3 h3 => ?_)
                obtain ⟨rfl, hK3, hF3⟩ := h3
                have hS3 := hS2.keep hF3 hK3
                have hZ : FrZ I I3 m := hZ.tr hF3.w.z
                have hO3 := hO2.k hF3
                refine r_ret_i (pc := 113) dX10_outcome_113 rfl ?_
                exact ⟨_, I3, rfl, rfl, (by unfold aOutcome; rw [atN_s et, atN_s eh, atN_s ew] <;> rfl), hM.z hZ, fun x j z => hZ x j (by omega) (by omega)⟩
              · exfalso; omega
        · skip
          refine r_aload_n (pc := 0) dX10_outcome_0 rfl ?_
          refine r_iconst (pc := 1) (v := 0) dX10_outcome_1 (by decide) ?_
          refine r_putI (pc := 2) (v := nI 0) 10 0 84 dX10_outcome_2 (fl_RX10_84 rfl) (by decide) rfl rfl (c10_o hm) ?_
          obtain ⟨Ia, hIa⟩ : ∃ zz0 : Im, zz0 = up2 I m 0 (nI 0) := ⟨_, rfl⟩
          refine wp_M (M2 := (Ia, G)) (by subst hIa; rfl) ?_
          have hZ : FrZ I Ia m := by rw [hIa]; exact FrZ.rf.u (by omega)
          refine r_aload_n (pc := 5) dX10_outcome_5 rfl ?_
          refine r_iload_n (pc := 6) dX10_outcome_6 rfl ?_
          refine r_iload_n (pc := 7) dX10_outcome_7 rfl ?_
          refine r_callV_P (pc := 8) (b := m) (As := [.int (nI k), .int (nI hn)]) 10 154 dX10_outcome_8 lk_X10_isHouse (ml_RX10_154 rfl) im_X10_isHouse se_X10_isHouse (by decide) (c10_o hm) (Nat.le_of_ble_eq_true rfl) rfl (isHouse_ct hm (hZ.mt hk0) (by omega) (hZ.c hcn) hcn10 hk hhn) ?_
          refine r_if_eq_n (pc := 11) (a := 1) (tgt := 23) dX10_outcome_11 (by decide) (by omega) (fun c11 => ?_) (fun c11 => ?_)
          · exfalso; omega
          · skip
            refine r_iload_n (pc := 14) dX10_outcome_14 rfl ?_
            refine r_iconst (pc := 15) (v := 0) dX10_outcome_15 (by decide) ?_
            refine r_iconst (pc := 16) (v := 3) dX10_outcome_16 (by decide) ?_
            refine r_callS_P (pc := 17) (As := [.int w, .int (nI 0), .int (nI 3)]) 123 dX10_outcome_17 lk_X10_isIn (ml_RX10_123 rfl) sm_X10_isIn (Nat.le_of_ble_eq_true rfl) rfl (isIn_no (n := 3) (by omega) hnow) ?_
            refine r_if_ne_n (pc := 20) (a := 0) (tgt := 26) dX10_outcome_20 (by decide) (by omega) (fun c20 => ?_) (fun c20 => ?_)
            · exfalso; omega
            · skip
              refine r_ldc (pc := 23) (v := -100000000) dX10_outcome_23 (kc_RX10_226 rfl) ?_
              refine r_ret_i (pc := 25) dX10_outcome_25 rfl ?_
              exact ⟨_, Ia, rfl, rfl, (by unfold aOutcome; rw [atN_s et, atN_s eh, atN_n ew] <;> rfl), hM.z hZ, fun x j z => hZ x j (by omega) (by omega)⟩
      · skip
        rcases in_cases (n := 4) (by omega) w with ⟨wn, hwn, rfl, ew⟩ | ⟨ew, hnow⟩
        · skip
          rcases (show wn = 0 ∨ wn = 1 ∨ wn = 2 ∨ wn = 3 by omega) with rfl | rfl | rfl | rfl
          · skip
            refine r_aload_n (pc := 0) dX10_outcome_0 rfl ?_
            refine r_iconst (pc := 1) (v := 0) dX10_outcome_1 (by decide) ?_
            refine r_putI (pc := 2) (v := nI 0) 10 0 84 dX10_outcome_2 (fl_RX10_84 rfl) (by decide) rfl rfl (c10_o hm) ?_
            obtain ⟨Ia, hIa⟩ : ∃ zz0 : Im, zz0 = up2 I m 0 (nI 0) := ⟨_, rfl⟩
            refine wp_M (M2 := (Ia, G)) (by subst hIa; rfl) ?_
            have hZ : FrZ I Ia m := by rw [hIa]; exact FrZ.rf.u (by omega)
            refine r_aload_n (pc := 5) dX10_outcome_5 rfl ?_
            refine r_iload_n (pc := 6) dX10_outcome_6 rfl ?_
            refine r_iload_n (pc := 7) dX10_outcome_7 rfl ?_
            refine r_callV_P (pc := 8) (b := m) (As := [.int (nI k), .int (nI hn)]) 10 154 dX10_outcome_8 lk_X10_isHouse (ml_RX10_154 rfl) im_X10_isHouse se_X10_isHouse (by decide) (c10_o hm) (Nat.le_of_ble_eq_true rfl) rfl (isHouse_ct hm (hZ.mt hk0) (by omega) (hZ.c hcn) hcn10 hk hhn) ?_
            refine r_if_eq_n (pc := 11) (a := 1) (tgt := 23) dX10_outcome_11 (by decide) (by omega) (fun c11 => ?_) (fun c11 => ?_)
            · exfalso; omega
            · skip
              refine r_iload_n (pc := 14) dX10_outcome_14 rfl ?_
              refine r_iconst (pc := 15) (v := 0) dX10_outcome_15 (by decide) ?_
              refine r_iconst (pc := 16) (v := 3) dX10_outcome_16 (by decide) ?_
              refine r_callS_P (pc := 17) (As := [.int (nI 0), .int (nI 0), .int (nI 3)]) 123 dX10_outcome_17 lk_X10_isIn (ml_RX10_123 rfl) sm_X10_isIn (Nat.le_of_ble_eq_true rfl) rfl (isIn_y (n := 3) (by omega) (by omega)) ?_
              refine r_if_ne_n (pc := 20) (a := 1) (tgt := 26) dX10_outcome_20 (by decide) (by omega) (fun c20 => ?_) (fun c20 => ?_)
              · skip
                refine r_aload_n (pc := 26) dX10_outcome_26 rfl ?_
                refine r_iload_n (pc := 27) dX10_outcome_27 rfl ?_
                refine r_callV_V (pc := 28) (b := m) (As := [.int (nI k)]) 10 223 dX10_outcome_28 lk_X10_termsOf (ml_RX10_223 rfl) im_X10_termsOf se_X10_termsOf (by decide) (c10_o hm) (Nat.le_of_ble_eq_true rfl) rfl (termsOf_e (E := (eK' s k)) hm (hZ.mt hk0) (hZ.c hcn) hcn10 hk (hZ.tm hMd.2.1)) (fun I1 h1 => ?_)
                obtain ⟨hS1, hF1⟩ := h1
                have hZ : FrZ I I1 m := hZ.tr hF1.z
                have hcnZ : I1 m 20 = nI (sN s) := hS1.2.2.1
                refine r_aload_n (pc := 31) dX10_outcome_31 rfl ?_
                refine r_callV_V (pc := 32) (b := m) (As := []) 10 227 dX10_outcome_32 lk_X10_layOutcome (ml_RX10_227 rfl) im_X10_layOutcome se_X10_layOutcome (by decide) (c10_o hm) (Nat.le_of_ble_eq_true rfl) rfl (layOutcome_ct (d := d) hm hS1 hc30 (by omega) (bdm hE hW) hW) (fun I2 h2 => ?_)
                obtain ⟨hK2, hF2, hO2⟩ := h2
                have hS2 := hS1.keepO hF2 hK2
                have hZ : FrZ I I2 m := hZ.tr hF2.w.z
                refine r_iload_n (pc := 35) dX10_outcome_35 rfl ?_
                refine r_tblIn (pc := 36) (x := nI 0) (off := 28) (tgt := 64) dX10_outcome_36 (by decide) (by decide) (by decide) (by decide) ?_
                refine r_aload_n (pc := 64) dX10_outcome_64 rfl ?_
                refine r_get1 (pc := 65) 10 29 66 dX10_outcome_65 (fl_RX10_66 rfl) (by decide) rfl (c10_o hm) (c10_p29 hm) ?_
                refine r_iload_n (pc := 68) dX10_outcome_68 rfl ?_
                refine r_iald_n (pc := 69) (i := hn) dX10_outcome_69 (c10_a29 hm) (by decide) (by omega) (v := nI (pdF (eK' s k) idq hn)) ((hO2 hn hhn).1) ?_
                refine r_ret_i (pc := 70) dX10_outcome_70 rfl ?_
                exact ⟨_, I2, rfl, rfl, (by unfold aOutcome; rw [atN_s et, atN_s eh, atN_s ew] <;> rfl), hM.z hZ, fun x j z => hZ x j (by omega) (by omega)⟩
              · exfalso; omega
          · skip
            refine r_aload_n (pc := 0) dX10_outcome_0 rfl ?_
            refine r_iconst (pc := 1) (v := 0) dX10_outcome_1 (by decide) ?_
            refine r_putI (pc := 2) (v := nI 0) 10 0 84 dX10_outcome_2 (fl_RX10_84 rfl) (by decide) rfl rfl (c10_o hm) ?_
            obtain ⟨Ia, hIa⟩ : ∃ zz0 : Im, zz0 = up2 I m 0 (nI 0) := ⟨_, rfl⟩
            refine wp_M (M2 := (Ia, G)) (by subst hIa; rfl) ?_
            have hZ : FrZ I Ia m := by rw [hIa]; exact FrZ.rf.u (by omega)
            refine r_aload_n (pc := 5) dX10_outcome_5 rfl ?_
            refine r_iload_n (pc := 6) dX10_outcome_6 rfl ?_
            refine r_iload_n (pc := 7) dX10_outcome_7 rfl ?_
            refine r_callV_P (pc := 8) (b := m) (As := [.int (nI k), .int (nI hn)]) 10 154 dX10_outcome_8 lk_X10_isHouse (ml_RX10_154 rfl) im_X10_isHouse se_X10_isHouse (by decide) (c10_o hm) (Nat.le_of_ble_eq_true rfl) rfl (isHouse_ct hm (hZ.mt hk0) (by omega) (hZ.c hcn) hcn10 hk hhn) ?_
            refine r_if_eq_n (pc := 11) (a := 1) (tgt := 23) dX10_outcome_11 (by decide) (by omega) (fun c11 => ?_) (fun c11 => ?_)
            · exfalso; omega
            · skip
              refine r_iload_n (pc := 14) dX10_outcome_14 rfl ?_
              refine r_iconst (pc := 15) (v := 0) dX10_outcome_15 (by decide) ?_
              refine r_iconst (pc := 16) (v := 3) dX10_outcome_16 (by decide) ?_
              refine r_callS_P (pc := 17) (As := [.int (nI 1), .int (nI 0), .int (nI 3)]) 123 dX10_outcome_17 lk_X10_isIn (ml_RX10_123 rfl) sm_X10_isIn (Nat.le_of_ble_eq_true rfl) rfl (isIn_y (n := 3) (by omega) (by omega)) ?_
              refine r_if_ne_n (pc := 20) (a := 1) (tgt := 26) dX10_outcome_20 (by decide) (by omega) (fun c20 => ?_) (fun c20 => ?_)
              · skip
                refine r_aload_n (pc := 26) dX10_outcome_26 rfl ?_
                refine r_iload_n (pc := 27) dX10_outcome_27 rfl ?_
                refine r_callV_V (pc := 28) (b := m) (As := [.int (nI k)]) 10 223 dX10_outcome_28 lk_X10_termsOf (ml_RX10_223 rfl) im_X10_termsOf se_X10_termsOf (by decide) (c10_o hm) (Nat.le_of_ble_eq_true rfl) rfl (termsOf_e (E := (eK' s k)) hm (hZ.mt hk0) (hZ.c hcn) hcn10 hk (hZ.tm hMd.2.1)) (fun I1 h1 => ?_)
                obtain ⟨hS1, hF1⟩ := h1
                have hZ : FrZ I I1 m := hZ.tr hF1.z
                have hcnZ : I1 m 20 = nI (sN s) := hS1.2.2.1
                refine r_aload_n (pc := 31) dX10_outcome_31 rfl ?_
                refine r_callV_V (pc := 32) (b := m) (As := []) 10 227 dX10_outcome_32 lk_X10_layOutcome (ml_RX10_227 rfl) im_X10_layOutcome se_X10_layOutcome (by decide) (c10_o hm) (Nat.le_of_ble_eq_true rfl) rfl (layOutcome_ct (d := d) hm hS1 hc30 (by omega) (bdm hE hW) hW) (fun I2 h2 => ?_)
                obtain ⟨hK2, hF2, hO2⟩ := h2
                have hS2 := hS1.keepO hF2 hK2
                have hZ : FrZ I I2 m := hZ.tr hF2.w.z
                refine r_iload_n (pc := 35) dX10_outcome_35 rfl ?_
                refine r_tblIn (pc := 36) (x := nI 1) (off := 35) (tgt := 71) dX10_outcome_36 (by decide) (by decide) (by decide) (by decide) ?_
                refine r_aload_n (pc := 71) dX10_outcome_71 rfl ?_
                refine r_iload_n (pc := 72) dX10_outcome_72 rfl ?_
                refine r_iload_n (pc := 73) dX10_outcome_73 rfl ?_
                refine r_callV_P (pc := 74) (b := m) (As := [.int (nI k), .int (nI hn)]) 10 165 dX10_outcome_74 lk_X10_isShop (ml_RX10_165 rfl) im_X10_isShop se_X10_isShop (by decide) (c10_o hm) (Nat.le_of_ble_eq_true rfl) rfl (isShopM_n hm (hZ.mt hk0) (hZ.c hcn) hcn10 hk hhn hsh) ?_
                refine r_if_eq_n (pc := 77) (a := 0) (tgt := 94) dX10_outcome_77 (by decide) (by omega) (fun c77 => ?_) (fun c77 => ?_)
                · skip
                  refine r_iconst (pc := 94) (v := -1) dX10_outcome_94 (by decide) ?_
                  refine r_ret_i (pc := 95) dX10_outcome_95 rfl ?_
                  exact ⟨_, I2, rfl, rfl, (by unfold aOutcome; rw [atN_s et, atN_s eh, atN_s ew]; exact (show akF (eK' s k) idq hn = _ from if_neg hsh).symm), hM.z hZ, fun x j z => hZ x j (by omega) (by omega)⟩
                · exfalso; omega
              · exfalso; omega
          · skip
            refine r_aload_n (pc := 0) dX10_outcome_0 rfl ?_
            refine r_iconst (pc := 1) (v := 0) dX10_outcome_1 (by decide) ?_
            refine r_putI (pc := 2) (v := nI 0) 10 0 84 dX10_outcome_2 (fl_RX10_84 rfl) (by decide) rfl rfl (c10_o hm) ?_
            obtain ⟨Ia, hIa⟩ : ∃ zz0 : Im, zz0 = up2 I m 0 (nI 0) := ⟨_, rfl⟩
            refine wp_M (M2 := (Ia, G)) (by subst hIa; rfl) ?_
            have hZ : FrZ I Ia m := by rw [hIa]; exact FrZ.rf.u (by omega)
            refine r_aload_n (pc := 5) dX10_outcome_5 rfl ?_
            refine r_iload_n (pc := 6) dX10_outcome_6 rfl ?_
            refine r_iload_n (pc := 7) dX10_outcome_7 rfl ?_
            refine r_callV_P (pc := 8) (b := m) (As := [.int (nI k), .int (nI hn)]) 10 154 dX10_outcome_8 lk_X10_isHouse (ml_RX10_154 rfl) im_X10_isHouse se_X10_isHouse (by decide) (c10_o hm) (Nat.le_of_ble_eq_true rfl) rfl (isHouse_ct hm (hZ.mt hk0) (by omega) (hZ.c hcn) hcn10 hk hhn) ?_
            refine r_if_eq_n (pc := 11) (a := 1) (tgt := 23) dX10_outcome_11 (by decide) (by omega) (fun c11 => ?_) (fun c11 => ?_)
            · exfalso; omega
            · skip
              refine r_iload_n (pc := 14) dX10_outcome_14 rfl ?_
              refine r_iconst (pc := 15) (v := 0) dX10_outcome_15 (by decide) ?_
              refine r_iconst (pc := 16) (v := 3) dX10_outcome_16 (by decide) ?_
              refine r_callS_P (pc := 17) (As := [.int (nI 2), .int (nI 0), .int (nI 3)]) 123 dX10_outcome_17 lk_X10_isIn (ml_RX10_123 rfl) sm_X10_isIn (Nat.le_of_ble_eq_true rfl) rfl (isIn_y (n := 3) (by omega) (by omega)) ?_
              refine r_if_ne_n (pc := 20) (a := 1) (tgt := 26) dX10_outcome_20 (by decide) (by omega) (fun c20 => ?_) (fun c20 => ?_)
              · skip
                refine r_aload_n (pc := 26) dX10_outcome_26 rfl ?_
                refine r_iload_n (pc := 27) dX10_outcome_27 rfl ?_
                refine r_callV_V (pc := 28) (b := m) (As := [.int (nI k)]) 10 223 dX10_outcome_28 lk_X10_termsOf (ml_RX10_223 rfl) im_X10_termsOf se_X10_termsOf (by decide) (c10_o hm) (Nat.le_of_ble_eq_true rfl) rfl (termsOf_e (E := (eK' s k)) hm (hZ.mt hk0) (hZ.c hcn) hcn10 hk (hZ.tm hMd.2.1)) (fun I1 h1 => ?_)
                obtain ⟨hS1, hF1⟩ := h1
                have hZ : FrZ I I1 m := hZ.tr hF1.z
                have hcnZ : I1 m 20 = nI (sN s) := hS1.2.2.1
                refine r_aload_n (pc := 31) dX10_outcome_31 rfl ?_
                refine r_callV_V (pc := 32) (b := m) (As := []) 10 227 dX10_outcome_32 lk_X10_layOutcome (ml_RX10_227 rfl) im_X10_layOutcome se_X10_layOutcome (by decide) (c10_o hm) (Nat.le_of_ble_eq_true rfl) rfl (layOutcome_ct (d := d) hm hS1 hc30 (by omega) (bdm hE hW) hW) (fun I2 h2 => ?_)
                obtain ⟨hK2, hF2, hO2⟩ := h2
                have hS2 := hS1.keepO hF2 hK2
                have hZ : FrZ I I2 m := hZ.tr hF2.w.z
                refine r_iload_n (pc := 35) dX10_outcome_35 rfl ?_
                refine r_tblIn (pc := 36) (x := nI 2) (off := 60) (tgt := 96) dX10_outcome_36 (by decide) (by decide) (by decide) (by decide) ?_
                refine r_aload_n (pc := 96) dX10_outcome_96 rfl ?_
                refine r_iload_n (pc := 97) dX10_outcome_97 rfl ?_
                refine r_aload_n (pc := 98) dX10_outcome_98 rfl ?_
                refine r_get1 (pc := 99) 10 30 69 dX10_outcome_99 (fl_RX10_69 rfl) (by decide) rfl (c10_o hm) (c10_p30 hm) ?_
                refine r_iload_n (pc := 102) dX10_outcome_102 rfl ?_
                refine r_iald_n (pc := 103) (i := hn) dX10_outcome_103 (c10_a30 hm) (by decide) (by omega) (v := nI (spF (eK' s k) idq hn)) ((hO2 hn hhn).2) ?_
                refine r_callV_M (pc := 104) (b := m) (As := [.int (nI hn), .int (nI (spF (eK' s k) idq hn))]) 10 204 dX10_outcome_104 lk_X10_takeBy (ml_RX10_204 rfl) im_X10_takeBy se_X10_takeBy (by decide) (c10_o hm) (Nat.le_of_ble_eq_true rfl) rfl ((tk_all hm hc30 (by omega) (bdm hE hW) hE.2 hE.1 (8 - hn) hn rfl hhn (d + 44) (by omega)).1 I2 _ hS2 (sp_ub hE hW hc30 (by omega) hhn).1) (fun v104 I3 h3 => ?_)
                obtain ⟨rfl, hK3, hF3⟩ := h3
                have hS3 := hS2.keep hF3 hK3
                have hZ : FrZ I I3 m := hZ.tr hF3.w.z
                refine r_ret_i (pc := 107) dX10_outcome_107 rfl ?_
                exact ⟨_, I3, rfl, rfl, (by unfold aOutcome; rw [atN_s et, atN_s eh, atN_s ew] <;> rfl), hM.z hZ, fun x j z => hZ x j (by omega) (by omega)⟩
              · exfalso; omega
          · skip
            refine r_aload_n (pc := 0) dX10_outcome_0 rfl ?_
            refine r_iconst (pc := 1) (v := 0) dX10_outcome_1 (by decide) ?_
            refine r_putI (pc := 2) (v := nI 0) 10 0 84 dX10_outcome_2 (fl_RX10_84 rfl) (by decide) rfl rfl (c10_o hm) ?_
            obtain ⟨Ia, hIa⟩ : ∃ zz0 : Im, zz0 = up2 I m 0 (nI 0) := ⟨_, rfl⟩
            refine wp_M (M2 := (Ia, G)) (by subst hIa; rfl) ?_
            have hZ : FrZ I Ia m := by rw [hIa]; exact FrZ.rf.u (by omega)
            refine r_aload_n (pc := 5) dX10_outcome_5 rfl ?_
            refine r_iload_n (pc := 6) dX10_outcome_6 rfl ?_
            refine r_iload_n (pc := 7) dX10_outcome_7 rfl ?_
            refine r_callV_P (pc := 8) (b := m) (As := [.int (nI k), .int (nI hn)]) 10 154 dX10_outcome_8 lk_X10_isHouse (ml_RX10_154 rfl) im_X10_isHouse se_X10_isHouse (by decide) (c10_o hm) (Nat.le_of_ble_eq_true rfl) rfl (isHouse_ct hm (hZ.mt hk0) (by omega) (hZ.c hcn) hcn10 hk hhn) ?_
            refine r_if_eq_n (pc := 11) (a := 1) (tgt := 23) dX10_outcome_11 (by decide) (by omega) (fun c11 => ?_) (fun c11 => ?_)
            · exfalso; omega
            · skip
              refine r_iload_n (pc := 14) dX10_outcome_14 rfl ?_
              refine r_iconst (pc := 15) (v := 0) dX10_outcome_15 (by decide) ?_
              refine r_iconst (pc := 16) (v := 3) dX10_outcome_16 (by decide) ?_
              refine r_callS_P (pc := 17) (As := [.int (nI 3), .int (nI 0), .int (nI 3)]) 123 dX10_outcome_17 lk_X10_isIn (ml_RX10_123 rfl) sm_X10_isIn (Nat.le_of_ble_eq_true rfl) rfl (isIn_y (n := 3) (by omega) (by omega)) ?_
              refine r_if_ne_n (pc := 20) (a := 1) (tgt := 26) dX10_outcome_20 (by decide) (by omega) (fun c20 => ?_) (fun c20 => ?_)
              · skip
                refine r_aload_n (pc := 26) dX10_outcome_26 rfl ?_
                refine r_iload_n (pc := 27) dX10_outcome_27 rfl ?_
                refine r_callV_V (pc := 28) (b := m) (As := [.int (nI k)]) 10 223 dX10_outcome_28 lk_X10_termsOf (ml_RX10_223 rfl) im_X10_termsOf se_X10_termsOf (by decide) (c10_o hm) (Nat.le_of_ble_eq_true rfl) rfl (termsOf_e (E := (eK' s k)) hm (hZ.mt hk0) (hZ.c hcn) hcn10 hk (hZ.tm hMd.2.1)) (fun I1 h1 => ?_)
                obtain ⟨hS1, hF1⟩ := h1
                have hZ : FrZ I I1 m := hZ.tr hF1.z
                have hcnZ : I1 m 20 = nI (sN s) := hS1.2.2.1
                refine r_aload_n (pc := 31) dX10_outcome_31 rfl ?_
                refine r_callV_V (pc := 32) (b := m) (As := []) 10 227 dX10_outcome_32 lk_X10_layOutcome (ml_RX10_227 rfl) im_X10_layOutcome se_X10_layOutcome (by decide) (c10_o hm) (Nat.le_of_ble_eq_true rfl) rfl (layOutcome_ct (d := d) hm hS1 hc30 (by omega) (bdm hE hW) hW) (fun I2 h2 => ?_)
                obtain ⟨hK2, hF2, hO2⟩ := h2
                have hS2 := hS1.keepO hF2 hK2
                have hZ : FrZ I I2 m := hZ.tr hF2.w.z
                refine r_iload_n (pc := 35) dX10_outcome_35 rfl ?_
                refine r_tblOut (pc := 36) (x := nI 3) (tgt := 108) dX10_outcome_36 (by decide) (by decide) ?_
                refine r_aload_n (pc := 108) dX10_outcome_108 rfl ?_
                refine r_iload_n (pc := 109) dX10_outcome_109 rfl ?_
                refine r_callV_M (pc := 110) (b := m) (As := [.int (nI hn)]) 10 230 dX10_outcome_110 lk_X10_earnsOf (ml_RX10_230 rfl) im_X10_earnsOf se_X10_earnsOf (by decide) (c10_o hm) (Nat.le_of_ble_eq_true rfl) rfl (earnsOf_ct (d := d + 3) hm hS2 hc30 (by omega) (bdm hE hW) hW hO2 hhn) (fun v110 I3 h3 => ?_)
                obtain ⟨rfl, hK3, hF3⟩ := h3
                have hS3 := hS2.keep hF3 hK3
                have hZ : FrZ I I3 m := hZ.tr hF3.w.z
                have hO3 := hO2.k hF3
                refine r_ret_i (pc := 113) dX10_outcome_113 rfl ?_
                exact ⟨_, I3, rfl, rfl, (by unfold aOutcome; rw [atN_s et, atN_s eh, atN_s ew] <;> rfl), hM.z hZ, fun x j z => hZ x j (by omega) (by omega)⟩
              · exfalso; omega
        · skip
          refine r_aload_n (pc := 0) dX10_outcome_0 rfl ?_
          refine r_iconst (pc := 1) (v := 0) dX10_outcome_1 (by decide) ?_
          refine r_putI (pc := 2) (v := nI 0) 10 0 84 dX10_outcome_2 (fl_RX10_84 rfl) (by decide) rfl rfl (c10_o hm) ?_
          obtain ⟨Ia, hIa⟩ : ∃ zz0 : Im, zz0 = up2 I m 0 (nI 0) := ⟨_, rfl⟩
          refine wp_M (M2 := (Ia, G)) (by subst hIa; rfl) ?_
          have hZ : FrZ I Ia m := by rw [hIa]; exact FrZ.rf.u (by omega)
          refine r_aload_n (pc := 5) dX10_outcome_5 rfl ?_
          refine r_iload_n (pc := 6) dX10_outcome_6 rfl ?_
          refine r_iload_n (pc := 7) dX10_outcome_7 rfl ?_
          refine r_callV_P (pc := 8) (b := m) (As := [.int (nI k), .int (nI hn)]) 10 154 dX10_outcome_8 lk_X10_isHouse (ml_RX10_154 rfl) im_X10_isHouse se_X10_isHouse (by decide) (c10_o hm) (Nat.le_of_ble_eq_true rfl) rfl (isHouse_ct hm (hZ.mt hk0) (by omega) (hZ.c hcn) hcn10 hk hhn) ?_
          refine r_if_eq_n (pc := 11) (a := 1) (tgt := 23) dX10_outcome_11 (by decide) (by omega) (fun c11 => ?_) (fun c11 => ?_)
          · exfalso; omega
          · skip
            refine r_iload_n (pc := 14) dX10_outcome_14 rfl ?_
            refine r_iconst (pc := 15) (v := 0) dX10_outcome_15 (by decide) ?_
            refine r_iconst (pc := 16) (v := 3) dX10_outcome_16 (by decide) ?_
            refine r_callS_P (pc := 17) (As := [.int w, .int (nI 0), .int (nI 3)]) 123 dX10_outcome_17 lk_X10_isIn (ml_RX10_123 rfl) sm_X10_isIn (Nat.le_of_ble_eq_true rfl) rfl (isIn_no (n := 3) (by omega) hnow) ?_
            refine r_if_ne_n (pc := 20) (a := 0) (tgt := 26) dX10_outcome_20 (by decide) (by omega) (fun c20 => ?_) (fun c20 => ?_)
            · exfalso; omega
            · skip
              refine r_ldc (pc := 23) (v := -100000000) dX10_outcome_23 (kc_RX10_226 rfl) ?_
              refine r_ret_i (pc := 25) dX10_outcome_25 rfl ?_
              exact ⟨_, Ia, rfl, rfl, (by unfold aOutcome; rw [atN_s et, atN_s eh, atN_n ew] <;> rfl), hM.z hZ, fun x j z => hZ x j (by omega) (by omega)⟩
    · skip
      refine r_aload_n (pc := 0) dX10_outcome_0 rfl ?_
      refine r_iconst (pc := 1) (v := 0) dX10_outcome_1 (by decide) ?_
      refine r_putI (pc := 2) (v := nI 0) 10 0 84 dX10_outcome_2 (fl_RX10_84 rfl) (by decide) rfl rfl (c10_o hm) ?_
      obtain ⟨Ia, hIa⟩ : ∃ zz0 : Im, zz0 = up2 I m 0 (nI 0) := ⟨_, rfl⟩
      refine wp_M (M2 := (Ia, G)) (by subst hIa; rfl) ?_
      have hZ : FrZ I Ia m := by rw [hIa]; exact FrZ.rf.u (by omega)
      refine r_aload_n (pc := 5) dX10_outcome_5 rfl ?_
      refine r_iload_n (pc := 6) dX10_outcome_6 rfl ?_
      refine r_iload_n (pc := 7) dX10_outcome_7 rfl ?_
      refine r_callV_P (pc := 8) (b := m) (As := [.int (nI k), .int h]) 10 154 dX10_outcome_8 lk_X10_isHouse (ml_RX10_154 rfl) im_X10_isHouse se_X10_isHouse (by decide) (c10_o hm) (Nat.le_of_ble_eq_true rfl) rfl (isHouse_no hm (hZ.mt hk0) (hZ.c hcn) hcn10 hk hnoh) ?_
      refine r_if_eq_n (pc := 11) (a := 0) (tgt := 23) dX10_outcome_11 (by decide) (by omega) (fun c11 => ?_) (fun c11 => ?_)
      · skip
        refine r_ldc (pc := 23) (v := -100000000) dX10_outcome_23 (kc_RX10_226 rfl) ?_
        refine r_ret_i (pc := 25) dX10_outcome_25 rfl ?_
        exact ⟨_, Ia, rfl, rfl, (by unfold aOutcome; rw [atN_s et, atN_n eh] <;> rfl), hM.z hZ, fun x j z => hZ x j (by omega) (by omega)⟩
      · exfalso; omega
  · skip
    refine r_aload_n (pc := 0) dX10_outcome_0 rfl ?_
    refine r_iconst (pc := 1) (v := 0) dX10_outcome_1 (by decide) ?_
    refine r_putI (pc := 2) (v := nI 0) 10 0 84 dX10_outcome_2 (fl_RX10_84 rfl) (by decide) rfl rfl (c10_o hm) ?_
    obtain ⟨Ia, hIa⟩ : ∃ zz0 : Im, zz0 = up2 I m 0 (nI 0) := ⟨_, rfl⟩
    refine wp_M (M2 := (Ia, G)) (by subst hIa; rfl) ?_
    have hZ : FrZ I Ia m := by rw [hIa]; exact FrZ.rf.u (by omega)
    refine r_aload_n (pc := 5) dX10_outcome_5 rfl ?_
    refine r_iload_n (pc := 6) dX10_outcome_6 rfl ?_
    refine r_iload_n (pc := 7) dX10_outcome_7 rfl ?_
    refine r_callV_P (pc := 8) (b := m) (As := [.int t, .int h]) 10 154 dX10_outcome_8 lk_X10_isHouse (ml_RX10_154 rfl) im_X10_isHouse se_X10_isHouse (by decide) (c10_o hm) (Nat.le_of_ble_eq_true rfl) rfl (isHouse_nt hm (by rw [(hZ.c hcn)]; exact hnot)) ?_
    refine r_if_eq_n (pc := 11) (a := 0) (tgt := 23) dX10_outcome_11 (by decide) (by omega) (fun c11 => ?_) (fun c11 => ?_)
    · skip
      refine r_ldc (pc := 23) (v := -100000000) dX10_outcome_23 (kc_RX10_226 rfl) ?_
      refine r_ret_i (pc := 25) dX10_outcome_25 rfl ?_
      exact ⟨_, Ia, rfl, rfl, (by unfold aOutcome; rw [atN_n et] <;> rfl), hM.z hZ, fun x j z => hZ x j (by omega) (by omega)⟩
    · exfalso; omega

set_option maxHeartbeats 300000 in
set_option maxRecDepth 100000 in
theorem sum_m {d : Nat} {I : Im} {G : Gm} {s : Sta} {m : Nat} (hm : isC10 G m) (hM : Mi s I m) {t : Int32} {w : Int32} : Ct (d + 46) 0 0 YX10_sum [.ref m, .int t, .int w] (I, G) (qM G (fun v I2 => PmQ s I m (aSum s t w) v I2)) := by
  refine Ct.of (by decide) (by simp [Value.category]) (Nat.le_of_ble_eq_true rfl) ?_
  have hcn := hM.2.1
  have hcn10 := hM.2.2.1
  have hZ : FrZ I I m := FrZ.rf
  show wp _ _ _ _ 0 [some (.ref m), some (.int t), some (.int w), none, none] [] _ _
  rcases in_cases (n := sN s) (by have := hcn10; omega) t with ⟨k, hk, rfl, et⟩ | ⟨et, hnot⟩
  · skip
    obtain ⟨hok, hMd⟩ := hM.2.2.2.1 k hk
    have hk0 : MtC I m k (eK' s k) (dT (dK s k)) := mtc_of hok.1 hMd.1 _
    have hn8 : dN (dK s k) ≤ 8 := hok.1.1.2
    have hE : SrC (eK' s k) := src_of hok.1 _
    have hW : WbC (eK' s k) := wbc_of hok.1 _
    have hc30 : ∀ b, dC (dK s k) b ≤ 30 := hok.1.2.1
    rcases in_cases (n := 4) (by omega) w with ⟨wn, hwn, rfl, ew⟩ | ⟨ew, hnow⟩
    · skip
      rcases (show wn = 0 ∨ wn = 1 ∨ wn = 2 ∨ wn = 3 by omega) with rfl | rfl | rfl | rfl
      · skip
        refine r_aload_n (pc := 0) dX10_sum_0 rfl ?_
        refine r_iconst (pc := 1) (v := 0) dX10_sum_1 (by decide) ?_
        refine r_putI (pc := 2) (v := nI 0) 10 0 84 dX10_sum_2 (fl_RX10_84 rfl) (by decide) rfl rfl (c10_o hm) ?_
        obtain ⟨Ia, hIa⟩ : ∃ zz0 : Im, zz0 = up2 I m 0 (nI 0) := ⟨_, rfl⟩
        refine wp_M (M2 := (Ia, G)) (by subst hIa; rfl) ?_
        have hZ : FrZ I Ia m := by rw [hIa]; exact FrZ.rf.u (by omega)
        refine r_aload_n (pc := 5) dX10_sum_5 rfl ?_
        refine r_iload_n (pc := 6) dX10_sum_6 rfl ?_
        refine r_callV_P (pc := 7) (b := m) (As := [.int (nI k)]) 10 148 dX10_sum_7 lk_X10_isTrade (ml_RX10_148 rfl) im_X10_isTrade se_X10_isTrade (by decide) (c10_o hm) (Nat.le_of_ble_eq_true rfl) rfl (isTrade_y hm (hZ.c hcn) hcn10 hk) ?_
        refine r_if_eq_n (pc := 10) (a := 1) (tgt := 22) dX10_sum_10 (by decide) (by omega) (fun c10 => ?_) (fun c10 => ?_)
        · exfalso; omega
        · skip
          refine r_iload_n (pc := 13) dX10_sum_13 rfl ?_
          refine r_iconst (pc := 14) (v := 0) dX10_sum_14 (by decide) ?_
          refine r_iconst (pc := 15) (v := 3) dX10_sum_15 (by decide) ?_
          refine r_callS_P (pc := 16) (As := [.int (nI 0), .int (nI 0), .int (nI 3)]) 123 dX10_sum_16 lk_X10_isIn (ml_RX10_123 rfl) sm_X10_isIn (Nat.le_of_ble_eq_true rfl) rfl (isIn_y (n := 3) (by omega) (by omega)) ?_
          refine r_if_ne_n (pc := 19) (a := 1) (tgt := 25) dX10_sum_19 (by decide) (by omega) (fun c19 => ?_) (fun c19 => ?_)
          · skip
            refine r_aload_n (pc := 25) dX10_sum_25 rfl ?_
            refine r_iload_n (pc := 26) dX10_sum_26 rfl ?_
            refine r_callV_V (pc := 27) (b := m) (As := [.int (nI k)]) 10 223 dX10_sum_27 lk_X10_termsOf (ml_RX10_223 rfl) im_X10_termsOf se_X10_termsOf (by decide) (c10_o hm) (Nat.le_of_ble_eq_true rfl) rfl (termsOf_e (E := (eK' s k)) hm (hZ.mt hk0) (hZ.c hcn) hcn10 hk (hZ.tm hMd.2.1)) (fun I1 h1 => ?_)
            obtain ⟨hS1, hF1⟩ := h1
            have hZ : FrZ I I1 m := hZ.tr hF1.z
            have hcnZ : I1 m 20 = nI (sN s) := hS1.2.2.1
            refine r_iload_n (pc := 30) dX10_sum_30 rfl ?_
            refine r_iconst (pc := 31) (v := 3) dX10_sum_31 (by decide) ?_
            refine r_icmp_ne_n (pc := 32) (a := 0) (b := 3) (tgt := 40) dX10_sum_32 (by decide) (by omega) (by omega) (fun c32 => ?_) (fun c32 => ?_)
            · skip
              refine r_aload_n (pc := 40) dX10_sum_40 rfl ?_
              refine r_callV_M (pc := 41) (b := m) (As := []) 10 236 dX10_sum_41 lk_X10_allEarn (ml_RX10_236 rfl) im_X10_allEarn se_X10_allEarn (by decide) (c10_o hm) (Nat.le_of_ble_eq_true rfl) rfl (allEarn_ct (d := d) hm hS1 hc30 (by omega) (bdm hE hW) hW) (fun v41 I2 h2 => ?_)
              obtain ⟨rfl, hK2, hF2, hO2⟩ := h2
              have hS2 := hS1.keepO hF2 hK2
              have hZ : FrZ I I2 m := hZ.tr hF2.w.z
              refine r_istore_n (pc := 44) (L' := [some (.ref m), some (.int (nI k)), some (.int (nI 0)), some (.int (sm (erM (eK' s k)) (dN (dK s k)))), none]) dX10_sum_44 (by decide) rfl rfl ?_
              refine r_iload_n (pc := 45) dX10_sum_45 rfl ?_
              refine r_if_ne_n (pc := 46) (a := 0) (tgt := 51) dX10_sum_46 (by decide) (by omega) (fun c46 => ?_) (fun c46 => ?_)
              · exfalso; omega
              · skip
                refine r_iload_n (pc := 49) dX10_sum_49 rfl ?_
                refine r_ret_i (pc := 50) dX10_sum_50 rfl ?_
                exact ⟨_, I2, rfl, rfl, (by unfold aSum; rw [atN_s et, atN_s ew] <;> rfl), hM.z hZ, fun x j z => hZ x j (by omega) (by omega)⟩
            · exfalso; omega
          · exfalso; omega
      · skip
        refine r_aload_n (pc := 0) dX10_sum_0 rfl ?_
        refine r_iconst (pc := 1) (v := 0) dX10_sum_1 (by decide) ?_
        refine r_putI (pc := 2) (v := nI 0) 10 0 84 dX10_sum_2 (fl_RX10_84 rfl) (by decide) rfl rfl (c10_o hm) ?_
        obtain ⟨Ia, hIa⟩ : ∃ zz0 : Im, zz0 = up2 I m 0 (nI 0) := ⟨_, rfl⟩
        refine wp_M (M2 := (Ia, G)) (by subst hIa; rfl) ?_
        have hZ : FrZ I Ia m := by rw [hIa]; exact FrZ.rf.u (by omega)
        refine r_aload_n (pc := 5) dX10_sum_5 rfl ?_
        refine r_iload_n (pc := 6) dX10_sum_6 rfl ?_
        refine r_callV_P (pc := 7) (b := m) (As := [.int (nI k)]) 10 148 dX10_sum_7 lk_X10_isTrade (ml_RX10_148 rfl) im_X10_isTrade se_X10_isTrade (by decide) (c10_o hm) (Nat.le_of_ble_eq_true rfl) rfl (isTrade_y hm (hZ.c hcn) hcn10 hk) ?_
        refine r_if_eq_n (pc := 10) (a := 1) (tgt := 22) dX10_sum_10 (by decide) (by omega) (fun c10 => ?_) (fun c10 => ?_)
        · exfalso; omega
        · skip
          refine r_iload_n (pc := 13) dX10_sum_13 rfl ?_
          refine r_iconst (pc := 14) (v := 0) dX10_sum_14 (by decide) ?_
          refine r_iconst (pc := 15) (v := 3) dX10_sum_15 (by decide) ?_
          refine r_callS_P (pc := 16) (As := [.int (nI 1), .int (nI 0), .int (nI 3)]) 123 dX10_sum_16 lk_X10_isIn (ml_RX10_123 rfl) sm_X10_isIn (Nat.le_of_ble_eq_true rfl) rfl (isIn_y (n := 3) (by omega) (by omega)) ?_
          refine r_if_ne_n (pc := 19) (a := 1) (tgt := 25) dX10_sum_19 (by decide) (by omega) (fun c19 => ?_) (fun c19 => ?_)
          · skip
            refine r_aload_n (pc := 25) dX10_sum_25 rfl ?_
            refine r_iload_n (pc := 26) dX10_sum_26 rfl ?_
            refine r_callV_V (pc := 27) (b := m) (As := [.int (nI k)]) 10 223 dX10_sum_27 lk_X10_termsOf (ml_RX10_223 rfl) im_X10_termsOf se_X10_termsOf (by decide) (c10_o hm) (Nat.le_of_ble_eq_true rfl) rfl (termsOf_e (E := (eK' s k)) hm (hZ.mt hk0) (hZ.c hcn) hcn10 hk (hZ.tm hMd.2.1)) (fun I1 h1 => ?_)
            obtain ⟨hS1, hF1⟩ := h1
            have hZ : FrZ I I1 m := hZ.tr hF1.z
            have hcnZ : I1 m 20 = nI (sN s) := hS1.2.2.1
            refine r_iload_n (pc := 30) dX10_sum_30 rfl ?_
            refine r_iconst (pc := 31) (v := 3) dX10_sum_31 (by decide) ?_
            refine r_icmp_ne_n (pc := 32) (a := 1) (b := 3) (tgt := 40) dX10_sum_32 (by decide) (by omega) (by omega) (fun c32 => ?_) (fun c32 => ?_)
            · skip
              refine r_aload_n (pc := 40) dX10_sum_40 rfl ?_
              refine r_callV_M (pc := 41) (b := m) (As := []) 10 236 dX10_sum_41 lk_X10_allEarn (ml_RX10_236 rfl) im_X10_allEarn se_X10_allEarn (by decide) (c10_o hm) (Nat.le_of_ble_eq_true rfl) rfl (allEarn_ct (d := d) hm hS1 hc30 (by omega) (bdm hE hW) hW) (fun v41 I2 h2 => ?_)
              obtain ⟨rfl, hK2, hF2, hO2⟩ := h2
              have hS2 := hS1.keepO hF2 hK2
              have hZ : FrZ I I2 m := hZ.tr hF2.w.z
              refine r_istore_n (pc := 44) (L' := [some (.ref m), some (.int (nI k)), some (.int (nI 1)), some (.int (sm (erM (eK' s k)) (dN (dK s k)))), none]) dX10_sum_44 (by decide) rfl rfl ?_
              refine r_iload_n (pc := 45) dX10_sum_45 rfl ?_
              refine r_if_ne_n (pc := 46) (a := 1) (tgt := 51) dX10_sum_46 (by decide) (by omega) (fun c46 => ?_) (fun c46 => ?_)
              · skip
                refine r_aload_n (pc := 51) dX10_sum_51 rfl ?_
                refine r_iload_n (pc := 52) dX10_sum_52 rfl ?_
                refine r_aload_n (pc := 53) dX10_sum_53 rfl ?_
                refine r_iload_n (pc := 54) dX10_sum_54 rfl ?_
                refine r_callV_P (pc := 55) (b := m) (As := [.int (nI k)]) 10 239 dX10_sum_55 lk_X10_everybody (ml_RX10_239 rfl) im_X10_everybody se_X10_everybody (by decide) (c10_o hm) (Nat.le_of_ble_eq_true rfl) rfl (everybody_ct hm (hZ.mt hk0) (hZ.c hcn) hcn10 hk) ?_
                refine r_aload_n (pc := 58) dX10_sum_58 rfl ?_
                refine r_get1 (pc := 59) 10 15 41 dX10_sum_59 (fl_RX10_41 rfl) (by decide) rfl (c10_o hm) (c10_p15 hm) ?_
                refine r_iload_n (pc := 62) dX10_sum_62 rfl ?_
                refine r_iald_n (pc := 63) (i := k) dX10_sum_63 (c10_a15 hm) (by decide) (by omega) (v := nI ((tdT (sD s k)).2.1)) ((hZ.tm hMd.2.1).2.1) ?_
                refine r_iconst (pc := 64) (v := 0) dX10_sum_64 (by decide) ?_
                refine r_iconst (pc := 65) (v := 0) dX10_sum_65 (by decide) ?_
                refine r_callV_V (pc := 66) (b := m) (As := [.int (nI k), .int (allJ (dK s k)), .int (nI ((tdT (sD s k)).2.1)), .int (nI 0), .int (nI 0)]) 10 191 dX10_sum_66 lk_X10_terms (ml_RX10_191 rfl) im_X10_terms se_X10_terms (by decide) (c10_o hm) (Nat.le_of_ble_eq_true rfl) rfl (terms_q (E := (eT (dK s k) (allJ (dK s k), (tdT (sD s k)).2.1, false, false))) hm (hZ.mt (mtc_of hok.1 hMd.1 (allJ (dK s k), (tdT (sD s k)).2.1, false, false))) hok.2.1 (hZ.c hcn) hcn10 hk rfl rfl rfl rfl) (fun I3 h3 => ?_)
                obtain ⟨hS3, hF3⟩ := h3
                have hZ : FrZ I I3 m := hZ.tr hF3.z
                refine r_aload_n (pc := 69) dX10_sum_69 rfl ?_
                refine r_callV_M (pc := 70) (b := m) (As := []) 10 236 dX10_sum_70 lk_X10_allEarn (ml_RX10_236 rfl) im_X10_allEarn se_X10_allEarn (by decide) (c10_o hm) (Nat.le_of_ble_eq_true rfl) rfl (allEarn_ct (d := d) hm hS3 hc30 (by omega) (bdm (src_of hok.1 (allJ (dK s k), (tdT (sD s k)).2.1, false, false)) (wbc_of hok.1 (allJ (dK s k), (tdT (sD s k)).2.1, false, false))) (wbc_of hok.1 (allJ (dK s k), (tdT (sD s k)).2.1, false, false))) (fun v70 I4 h4 => ?_)
                obtain ⟨rfl, hK4, hF4, hO4⟩ := h4
                have hS4 := hS3.keepO hF4 hK4
                have hZ : FrZ I I4 m := hZ.tr hF4.w.z
                refine r_istore (pc := 73) (L' := [some (.ref m), some (.int (nI k)), some (.int (nI 1)), some (.int (sm (erM (eK' s k)) (dN (dK s k)))), some (.int (sm (erM (eT (dK s k) (allJ (dK s k), (tdT (sD s k)).2.1, false, false))) (dN (dK s k))))]) dX10_sum_73 (by decide) rfl rfl ?_
                refine r_iload_n (pc := 75) dX10_sum_75 rfl ?_
                refine r_iconst (pc := 76) (v := 1) dX10_sum_76 (by decide) ?_
                refine r_icmp_ne_n (pc := 77) (a := 1) (b := 1) (tgt := 85) dX10_sum_77 (by decide) (by omega) (by omega) (fun c77 => ?_) (fun c77 => ?_)
                · exfalso; omega
                · skip
                  refine r_iload (pc := 80) dX10_sum_80 rfl ?_
                  refine r_goto (pc := 82) (tgt := 89) dX10_sum_82 (by decide) ?_
                  refine r_ret_i (pc := 89) dX10_sum_89 rfl ?_
                  exact ⟨_, I4, rfl, rfl, (by unfold aSum; rw [atN_s et, atN_s ew] <;> rfl), hM.z hZ, fun x j z => hZ x j (by omega) (by omega)⟩
              · exfalso; omega
            · exfalso; omega
          · exfalso; omega
      · skip
        refine r_aload_n (pc := 0) dX10_sum_0 rfl ?_
        refine r_iconst (pc := 1) (v := 0) dX10_sum_1 (by decide) ?_
        refine r_putI (pc := 2) (v := nI 0) 10 0 84 dX10_sum_2 (fl_RX10_84 rfl) (by decide) rfl rfl (c10_o hm) ?_
        obtain ⟨Ia, hIa⟩ : ∃ zz0 : Im, zz0 = up2 I m 0 (nI 0) := ⟨_, rfl⟩
        refine wp_M (M2 := (Ia, G)) (by subst hIa; rfl) ?_
        have hZ : FrZ I Ia m := by rw [hIa]; exact FrZ.rf.u (by omega)
        refine r_aload_n (pc := 5) dX10_sum_5 rfl ?_
        refine r_iload_n (pc := 6) dX10_sum_6 rfl ?_
        refine r_callV_P (pc := 7) (b := m) (As := [.int (nI k)]) 10 148 dX10_sum_7 lk_X10_isTrade (ml_RX10_148 rfl) im_X10_isTrade se_X10_isTrade (by decide) (c10_o hm) (Nat.le_of_ble_eq_true rfl) rfl (isTrade_y hm (hZ.c hcn) hcn10 hk) ?_
        refine r_if_eq_n (pc := 10) (a := 1) (tgt := 22) dX10_sum_10 (by decide) (by omega) (fun c10 => ?_) (fun c10 => ?_)
        · exfalso; omega
        · skip
          refine r_iload_n (pc := 13) dX10_sum_13 rfl ?_
          refine r_iconst (pc := 14) (v := 0) dX10_sum_14 (by decide) ?_
          refine r_iconst (pc := 15) (v := 3) dX10_sum_15 (by decide) ?_
          refine r_callS_P (pc := 16) (As := [.int (nI 2), .int (nI 0), .int (nI 3)]) 123 dX10_sum_16 lk_X10_isIn (ml_RX10_123 rfl) sm_X10_isIn (Nat.le_of_ble_eq_true rfl) rfl (isIn_y (n := 3) (by omega) (by omega)) ?_
          refine r_if_ne_n (pc := 19) (a := 1) (tgt := 25) dX10_sum_19 (by decide) (by omega) (fun c19 => ?_) (fun c19 => ?_)
          · skip
            refine r_aload_n (pc := 25) dX10_sum_25 rfl ?_
            refine r_iload_n (pc := 26) dX10_sum_26 rfl ?_
            refine r_callV_V (pc := 27) (b := m) (As := [.int (nI k)]) 10 223 dX10_sum_27 lk_X10_termsOf (ml_RX10_223 rfl) im_X10_termsOf se_X10_termsOf (by decide) (c10_o hm) (Nat.le_of_ble_eq_true rfl) rfl (termsOf_e (E := (eK' s k)) hm (hZ.mt hk0) (hZ.c hcn) hcn10 hk (hZ.tm hMd.2.1)) (fun I1 h1 => ?_)
            obtain ⟨hS1, hF1⟩ := h1
            have hZ : FrZ I I1 m := hZ.tr hF1.z
            have hcnZ : I1 m 20 = nI (sN s) := hS1.2.2.1
            refine r_iload_n (pc := 30) dX10_sum_30 rfl ?_
            refine r_iconst (pc := 31) (v := 3) dX10_sum_31 (by decide) ?_
            refine r_icmp_ne_n (pc := 32) (a := 2) (b := 3) (tgt := 40) dX10_sum_32 (by decide) (by omega) (by omega) (fun c32 => ?_) (fun c32 => ?_)
            · skip
              refine r_aload_n (pc := 40) dX10_sum_40 rfl ?_
              refine r_callV_M (pc := 41) (b := m) (As := []) 10 236 dX10_sum_41 lk_X10_allEarn (ml_RX10_236 rfl) im_X10_allEarn se_X10_allEarn (by decide) (c10_o hm) (Nat.le_of_ble_eq_true rfl) rfl (allEarn_ct (d := d) hm hS1 hc30 (by omega) (bdm hE hW) hW) (fun v41 I2 h2 => ?_)
              obtain ⟨rfl, hK2, hF2, hO2⟩ := h2
              have hS2 := hS1.keepO hF2 hK2
              have hZ : FrZ I I2 m := hZ.tr hF2.w.z
              refine r_istore_n (pc := 44) (L' := [some (.ref m), some (.int (nI k)), some (.int (nI 2)), some (.int (sm (erM (eK' s k)) (dN (dK s k)))), none]) dX10_sum_44 (by decide) rfl rfl ?_
              refine r_iload_n (pc := 45) dX10_sum_45 rfl ?_
              refine r_if_ne_n (pc := 46) (a := 2) (tgt := 51) dX10_sum_46 (by decide) (by omega) (fun c46 => ?_) (fun c46 => ?_)
              · skip
                refine r_aload_n (pc := 51) dX10_sum_51 rfl ?_
                refine r_iload_n (pc := 52) dX10_sum_52 rfl ?_
                refine r_aload_n (pc := 53) dX10_sum_53 rfl ?_
                refine r_iload_n (pc := 54) dX10_sum_54 rfl ?_
                refine r_callV_P (pc := 55) (b := m) (As := [.int (nI k)]) 10 239 dX10_sum_55 lk_X10_everybody (ml_RX10_239 rfl) im_X10_everybody se_X10_everybody (by decide) (c10_o hm) (Nat.le_of_ble_eq_true rfl) rfl (everybody_ct hm (hZ.mt hk0) (hZ.c hcn) hcn10 hk) ?_
                refine r_aload_n (pc := 58) dX10_sum_58 rfl ?_
                refine r_get1 (pc := 59) 10 15 41 dX10_sum_59 (fl_RX10_41 rfl) (by decide) rfl (c10_o hm) (c10_p15 hm) ?_
                refine r_iload_n (pc := 62) dX10_sum_62 rfl ?_
                refine r_iald_n (pc := 63) (i := k) dX10_sum_63 (c10_a15 hm) (by decide) (by omega) (v := nI ((tdT (sD s k)).2.1)) ((hZ.tm hMd.2.1).2.1) ?_
                refine r_iconst (pc := 64) (v := 0) dX10_sum_64 (by decide) ?_
                refine r_iconst (pc := 65) (v := 0) dX10_sum_65 (by decide) ?_
                refine r_callV_V (pc := 66) (b := m) (As := [.int (nI k), .int (allJ (dK s k)), .int (nI ((tdT (sD s k)).2.1)), .int (nI 0), .int (nI 0)]) 10 191 dX10_sum_66 lk_X10_terms (ml_RX10_191 rfl) im_X10_terms se_X10_terms (by decide) (c10_o hm) (Nat.le_of_ble_eq_true rfl) rfl (terms_q (E := (eT (dK s k) (allJ (dK s k), (tdT (sD s k)).2.1, false, false))) hm (hZ.mt (mtc_of hok.1 hMd.1 (allJ (dK s k), (tdT (sD s k)).2.1, false, false))) hok.2.1 (hZ.c hcn) hcn10 hk rfl rfl rfl rfl) (fun I3 h3 => ?_)
                obtain ⟨hS3, hF3⟩ := h3
                have hZ : FrZ I I3 m := hZ.tr hF3.z
                refine r_aload_n (pc := 69) dX10_sum_69 rfl ?_
                refine r_callV_M (pc := 70) (b := m) (As := []) 10 236 dX10_sum_70 lk_X10_allEarn (ml_RX10_236 rfl) im_X10_allEarn se_X10_allEarn (by decide) (c10_o hm) (Nat.le_of_ble_eq_true rfl) rfl (allEarn_ct (d := d) hm hS3 hc30 (by omega) (bdm (src_of hok.1 (allJ (dK s k), (tdT (sD s k)).2.1, false, false)) (wbc_of hok.1 (allJ (dK s k), (tdT (sD s k)).2.1, false, false))) (wbc_of hok.1 (allJ (dK s k), (tdT (sD s k)).2.1, false, false))) (fun v70 I4 h4 => ?_)
                obtain ⟨rfl, hK4, hF4, hO4⟩ := h4
                have hS4 := hS3.keepO hF4 hK4
                have hZ : FrZ I I4 m := hZ.tr hF4.w.z
                refine r_istore (pc := 73) (L' := [some (.ref m), some (.int (nI k)), some (.int (nI 2)), some (.int (sm (erM (eK' s k)) (dN (dK s k)))), some (.int (sm (erM (eT (dK s k) (allJ (dK s k), (tdT (sD s k)).2.1, false, false))) (dN (dK s k))))]) dX10_sum_73 (by decide) rfl rfl ?_
                refine r_iload_n (pc := 75) dX10_sum_75 rfl ?_
                refine r_iconst (pc := 76) (v := 1) dX10_sum_76 (by decide) ?_
                refine r_icmp_ne_n (pc := 77) (a := 2) (b := 1) (tgt := 85) dX10_sum_77 (by decide) (by omega) (by omega) (fun c77 => ?_) (fun c77 => ?_)
                · skip
                  refine r_iload (pc := 85) dX10_sum_85 rfl ?_
                  refine r_iload_n (pc := 87) dX10_sum_87 rfl ?_
                  refine r_isub (pc := 88) (x := sm (erM (eT (dK s k) (allJ (dK s k), (tdT (sD s k)).2.1, false, false))) (dN (dK s k))) (z := sm (erM (eK' s k)) (dN (dK s k))) dX10_sum_88 ?_
                  refine r_ret_i (pc := 89) dX10_sum_89 rfl ?_
                  exact ⟨_, I4, rfl, rfl, (by unfold aSum; rw [atN_s et, atN_s ew] <;> rfl), hM.z hZ, fun x j z => hZ x j (by omega) (by omega)⟩
                · exfalso; omega
              · exfalso; omega
            · exfalso; omega
          · exfalso; omega
      · skip
        refine r_aload_n (pc := 0) dX10_sum_0 rfl ?_
        refine r_iconst (pc := 1) (v := 0) dX10_sum_1 (by decide) ?_
        refine r_putI (pc := 2) (v := nI 0) 10 0 84 dX10_sum_2 (fl_RX10_84 rfl) (by decide) rfl rfl (c10_o hm) ?_
        obtain ⟨Ia, hIa⟩ : ∃ zz0 : Im, zz0 = up2 I m 0 (nI 0) := ⟨_, rfl⟩
        refine wp_M (M2 := (Ia, G)) (by subst hIa; rfl) ?_
        have hZ : FrZ I Ia m := by rw [hIa]; exact FrZ.rf.u (by omega)
        refine r_aload_n (pc := 5) dX10_sum_5 rfl ?_
        refine r_iload_n (pc := 6) dX10_sum_6 rfl ?_
        refine r_callV_P (pc := 7) (b := m) (As := [.int (nI k)]) 10 148 dX10_sum_7 lk_X10_isTrade (ml_RX10_148 rfl) im_X10_isTrade se_X10_isTrade (by decide) (c10_o hm) (Nat.le_of_ble_eq_true rfl) rfl (isTrade_y hm (hZ.c hcn) hcn10 hk) ?_
        refine r_if_eq_n (pc := 10) (a := 1) (tgt := 22) dX10_sum_10 (by decide) (by omega) (fun c10 => ?_) (fun c10 => ?_)
        · exfalso; omega
        · skip
          refine r_iload_n (pc := 13) dX10_sum_13 rfl ?_
          refine r_iconst (pc := 14) (v := 0) dX10_sum_14 (by decide) ?_
          refine r_iconst (pc := 15) (v := 3) dX10_sum_15 (by decide) ?_
          refine r_callS_P (pc := 16) (As := [.int (nI 3), .int (nI 0), .int (nI 3)]) 123 dX10_sum_16 lk_X10_isIn (ml_RX10_123 rfl) sm_X10_isIn (Nat.le_of_ble_eq_true rfl) rfl (isIn_y (n := 3) (by omega) (by omega)) ?_
          refine r_if_ne_n (pc := 19) (a := 1) (tgt := 25) dX10_sum_19 (by decide) (by omega) (fun c19 => ?_) (fun c19 => ?_)
          · skip
            refine r_aload_n (pc := 25) dX10_sum_25 rfl ?_
            refine r_iload_n (pc := 26) dX10_sum_26 rfl ?_
            refine r_callV_V (pc := 27) (b := m) (As := [.int (nI k)]) 10 223 dX10_sum_27 lk_X10_termsOf (ml_RX10_223 rfl) im_X10_termsOf se_X10_termsOf (by decide) (c10_o hm) (Nat.le_of_ble_eq_true rfl) rfl (termsOf_e (E := (eK' s k)) hm (hZ.mt hk0) (hZ.c hcn) hcn10 hk (hZ.tm hMd.2.1)) (fun I1 h1 => ?_)
            obtain ⟨hS1, hF1⟩ := h1
            have hZ : FrZ I I1 m := hZ.tr hF1.z
            have hcnZ : I1 m 20 = nI (sN s) := hS1.2.2.1
            refine r_iload_n (pc := 30) dX10_sum_30 rfl ?_
            refine r_iconst (pc := 31) (v := 3) dX10_sum_31 (by decide) ?_
            refine r_icmp_ne_n (pc := 32) (a := 3) (b := 3) (tgt := 40) dX10_sum_32 (by decide) (by omega) (by omega) (fun c32 => ?_) (fun c32 => ?_)
            · exfalso; omega
            · skip
              refine r_aload_n (pc := 35) dX10_sum_35 rfl ?_
              refine r_callV_M (pc := 36) (b := m) (As := []) 10 233 dX10_sum_36 lk_X10_saving (ml_RX10_233 rfl) im_X10_saving se_X10_saving (by decide) (c10_o hm) (Nat.le_of_ble_eq_true rfl) rfl (saving_ct (d := d) hm hS1 hc30 (by omega) (bdm hE hW) hW) (fun v36 I2 h2 => ?_)
              obtain ⟨rfl, hK2, hF2, hO2⟩ := h2
              have hS2 := hS1.keepO hF2 hK2
              have hZ : FrZ I I2 m := hZ.tr hF2.w.z
              refine r_ret_i (pc := 39) dX10_sum_39 rfl ?_
              exact ⟨_, I2, rfl, rfl, (by unfold aSum; rw [atN_s et, atN_s ew] <;> rfl), hM.z hZ, fun x j z => hZ x j (by omega) (by omega)⟩
          · exfalso; omega
    · skip
      refine r_aload_n (pc := 0) dX10_sum_0 rfl ?_
      refine r_iconst (pc := 1) (v := 0) dX10_sum_1 (by decide) ?_
      refine r_putI (pc := 2) (v := nI 0) 10 0 84 dX10_sum_2 (fl_RX10_84 rfl) (by decide) rfl rfl (c10_o hm) ?_
      obtain ⟨Ia, hIa⟩ : ∃ zz0 : Im, zz0 = up2 I m 0 (nI 0) := ⟨_, rfl⟩
      refine wp_M (M2 := (Ia, G)) (by subst hIa; rfl) ?_
      have hZ : FrZ I Ia m := by rw [hIa]; exact FrZ.rf.u (by omega)
      refine r_aload_n (pc := 5) dX10_sum_5 rfl ?_
      refine r_iload_n (pc := 6) dX10_sum_6 rfl ?_
      refine r_callV_P (pc := 7) (b := m) (As := [.int (nI k)]) 10 148 dX10_sum_7 lk_X10_isTrade (ml_RX10_148 rfl) im_X10_isTrade se_X10_isTrade (by decide) (c10_o hm) (Nat.le_of_ble_eq_true rfl) rfl (isTrade_y hm (hZ.c hcn) hcn10 hk) ?_
      refine r_if_eq_n (pc := 10) (a := 1) (tgt := 22) dX10_sum_10 (by decide) (by omega) (fun c10 => ?_) (fun c10 => ?_)
      · exfalso; omega
      · skip
        refine r_iload_n (pc := 13) dX10_sum_13 rfl ?_
        refine r_iconst (pc := 14) (v := 0) dX10_sum_14 (by decide) ?_
        refine r_iconst (pc := 15) (v := 3) dX10_sum_15 (by decide) ?_
        refine r_callS_P (pc := 16) (As := [.int w, .int (nI 0), .int (nI 3)]) 123 dX10_sum_16 lk_X10_isIn (ml_RX10_123 rfl) sm_X10_isIn (Nat.le_of_ble_eq_true rfl) rfl (isIn_no (n := 3) (by omega) hnow) ?_
        refine r_if_ne_n (pc := 19) (a := 0) (tgt := 25) dX10_sum_19 (by decide) (by omega) (fun c19 => ?_) (fun c19 => ?_)
        · exfalso; omega
        · skip
          refine r_ldc (pc := 22) (v := -100000000) dX10_sum_22 (kc_RX10_226 rfl) ?_
          refine r_ret_i (pc := 24) dX10_sum_24 rfl ?_
          exact ⟨_, Ia, rfl, rfl, (by unfold aSum; rw [atN_s et, atN_n ew] <;> rfl), hM.z hZ, fun x j z => hZ x j (by omega) (by omega)⟩
  · skip
    refine r_aload_n (pc := 0) dX10_sum_0 rfl ?_
    refine r_iconst (pc := 1) (v := 0) dX10_sum_1 (by decide) ?_
    refine r_putI (pc := 2) (v := nI 0) 10 0 84 dX10_sum_2 (fl_RX10_84 rfl) (by decide) rfl rfl (c10_o hm) ?_
    obtain ⟨Ia, hIa⟩ : ∃ zz0 : Im, zz0 = up2 I m 0 (nI 0) := ⟨_, rfl⟩
    refine wp_M (M2 := (Ia, G)) (by subst hIa; rfl) ?_
    have hZ : FrZ I Ia m := by rw [hIa]; exact FrZ.rf.u (by omega)
    refine r_aload_n (pc := 5) dX10_sum_5 rfl ?_
    refine r_iload_n (pc := 6) dX10_sum_6 rfl ?_
    refine r_callV_P (pc := 7) (b := m) (As := [.int t]) 10 148 dX10_sum_7 lk_X10_isTrade (ml_RX10_148 rfl) im_X10_isTrade se_X10_isTrade (by decide) (c10_o hm) (Nat.le_of_ble_eq_true rfl) rfl (isTrade_n hm (hZ.c hcn) hnot) ?_
    refine r_if_eq_n (pc := 10) (a := 0) (tgt := 22) dX10_sum_10 (by decide) (by omega) (fun c10 => ?_) (fun c10 => ?_)
    · skip
      refine r_ldc (pc := 22) (v := -100000000) dX10_sum_22 (kc_RX10_226 rfl) ?_
      refine r_ret_i (pc := 24) dX10_sum_24 rfl ?_
      exact ⟨_, Ia, rfl, rfl, (by unfold aSum; rw [atN_n et] <;> rfl), hM.z hZ, fun x j z => hZ x j (by omega) (by omega)⟩
    · exfalso; omega
