/-! ===== the reference: parts, rivals ===== -/
theorem isPartner_v {d : Nat} {I : Im} {G : Gm} {m k cn : Nat} {E : Ec} {T : Lt} (hm : isC10 G m) (hk : MtC I m k E T) (hcn : I m 20 = nI cn) (hcn10 : cn ≤ 10) (hkc : k < cn) {h : Nat} (hh : h < eN E) {p : Int32} (e : p = bz (cnt (eS E) h (eN E) = 0 ∧ ¬ eS E h = none)) : Ct (d + 4) 0 0 YX10_isPartner [.ref m, .int (nI k), .int (nI h)] (I, G) (qP p (I, G)) := by
  rw [e]
  exact isPartner_ct hm hk hcn hcn10 hkc hh
theorem sc_sI {R : Nat → Bool} {i : Int32} {N : Nat} (hi : ¬ i = -1) : sI (scF R i N) = scA R i N (fun r => r) := by
  unfold scA
  cases scF R i N with
  | none => rw [if_neg hi]; rfl
  | some p => rfl
theorem div_n {r : Nat} (h : r < 2 ^ 31) : nI r / 100 = nI (r / 100) := by
  apply Int32.toInt_inj.mp
  have h1 : (nI r).toInt = (r : Int) := nI_toInt h
  rw [Int32.toInt_div_of_ne_right (nI r) 100 (by decide), h1, nI_toInt (by omega)]
  show (r : Int).tdiv 100 = _
  rw [Int.tdiv_eq_ediv_of_nonneg (by omega)]
  omega
theorem rem_n {r : Nat} (h : r < 2 ^ 31) : nI r - nI r / 100 * 100 = nI (r % 100) := by
  rw [div_n h, show (100 : Int32) = nI 100 from rfl, pk_mul, pk_sub (by omega), show r - r / 100 * 100 = r % 100 by omega]
theorem ta_eq {D : Dr} {h r : Nat} (hD : DrOK D) (hr : r < 4100) : taF D h r = if 100 * (nI (aoF D h) - nI (ccF (e0 D) h)).toInt64 * (nI (wF D h (aoF D h))).toInt64 = 0 then 0 else (10000 * (ibG (wF D h) (100 - r % 100) (100 * (r / 100 + dC D h)) (aoF D h)).toInt64 / (100 * (nI (aoF D h) - nI (ccF (e0 D) h)).toInt64 * (nI (wF D h (aoF D h))).toInt64)).toInt32 := by
  have hao : aoF D h ≤ 41 := askF_le _ _ _
  have hw : wF D h (aoF D h) ≤ 600 := (wbc_of hD (0, 41, false, false)).2.2.2 h _
  have hc := hD.2.1 h
  unfold taF shF
  have e1 : (100 - (nI r - nI r / 100 * 100)) * nI (aoF D h) - 100 * (nI r / 100 + nI (dC D h)) = nI ((100 - r % 100) * aoF D h) - nI (100 * (r / 100 + dC D h)) := by
    rw [rem_n (by omega), div_n (by omega), show (100 : Int32) = nI 100 from rfl, pk_sub (by omega), pk_mul, nI_add, pk_mul]
  have h3 : (100 - r % 100) * aoF D h ≤ 100 * 41 := Nat.mul_le_mul (by omega) hao
  have e2 : (nI ((100 - r % 100) * aoF D h) - nI (100 * (r / 100 + dC D h))).toInt = ((100 - r % 100) * aoF D h : Nat) - (100 * (r / 100 + dC D h) : Nat) := pk_sub_toInt (by omega) (by omega)
  have e3 : (nI (wF D h (aoF D h))).toInt = (wF D h (aoF D h) : Int) := nI_toInt (by omega)
  have b1 : -8000 ≤ (((100 - r % 100) * aoF D h : Nat) - (100 * (r / 100 + dC D h) : Nat) : Int) := by omega
  have b2 : (((100 - r % 100) * aoF D h : Nat) - (100 * (r / 100 + dC D h) : Nat) : Int) ≤ 8000 := by omega
  obtain ⟨X, hX⟩ : ∃ X : Int, X = (((100 - r % 100) * aoF D h : Nat) - (100 * (r / 100 + dC D h) : Nat) : Int) := ⟨_, rfl⟩
  obtain ⟨Y, hY⟩ : ∃ Y : Int, Y = (wF D h (aoF D h) : Int) := ⟨_, rfl⟩
  have p1 : -8000 * 600 ≤ X * Y ∧ X * Y ≤ 8000 * 600 := by
    have y0 : 0 ≤ Y := by omega
    have y1 : Y ≤ 600 := by omega
    have a1 := Int.mul_le_mul_of_nonneg_right (show X ≤ 8000 by omega) y0
    have a2 := Int.mul_le_mul_of_nonneg_right (show -8000 ≤ X by omega) y0
    omega
  have e4 : (nI ((100 - r % 100) * aoF D h) - nI (100 * (r / 100 + dC D h))).toInt64 * (nI (wF D h (aoF D h))).toInt64 = (ibG (wF D h) (100 - r % 100) (100 * (r / 100 + dC D h)) (aoF D h)).toInt64 := by
    unfold ibG
    exact wid_mul (by rw [e2, e3, ← hX, ← hY]; omega) (by rw [e2, e3, ← hX, ← hY]; omega)
  rw [e1, e4]
theorem min_n {p q : Nat} (hp : p < 42) (hq : q < 42) : (if nI q < nI p then nI q else nI p) = nI (min p q) := by
  by_cases c : q < p
  · rw [if_pos (nI_lt c (by omega)), show min p q = q by omega]
  · rw [if_neg (fun z => c ((nI_ltI (by omega) (by omega)).mp z)), show min p q = p by omega]

set_option maxHeartbeats 300000 in
set_option maxRecDepth 100000 in
theorem parts_m {d : Nat} {I : Im} {G : Gm} {s : Sta} {m : Nat} (hm : isC10 G m) (hM : Mi s I m) {t : Int32} {h : Int32} {i : Int32} : Ct (d + 5) 0 0 YX10_parts [.ref m, .int t, .int h, .int i] (I, G) (qM G (fun zv I2 => PmQ s I m (aParts s t h i) zv I2)) := by
  refine Ct.of (by decide) (by simp [Value.category]) (Nat.le_of_ble_eq_true rfl) ?_
  have hcn := hM.2.1
  have hcn10 := hM.2.2.1
  have hZ : FrZ I I m := FrZ.rf
  show wp _ _ _ _ 0 [some (.ref m), some (.int t), some (.int h), some (.int i)] [] _ _
  rcases in_cases (n := sN s) (by have := hcn10; omega) t with ⟨k, hk, rfl, et⟩ | ⟨et, hnot⟩
  · skip
    obtain ⟨hok, hMd⟩ := hM.2.2.2.1 k hk
    have hk0 : MtC I m k (eK' s k) (dT (dK s k)) := mtc_of hok.1 hMd.1 _
    have hn8 : dN (dK s k) ≤ 8 := hok.1.1.2
    have hE : SrC (eK' s k) := src_of hok.1 _
    have hW : WbC (eK' s k) := wbc_of hok.1 _
    have hc30 : ∀ b, dC (dK s k) b ≤ 30 := hok.1.2.1
    rcases in_cases (n := dN (dK s k)) (by have := hn8; omega) h with ⟨hn, hhn, rfl, eh⟩ | ⟨eh, hnoh⟩
    · skip
      by_cases hsh : shP (dK s k) hn
      · skip
        by_cases hz : dS (dK s k) hn = none
        · skip
          refine r_aload_n (pc := 0) dX10_parts_0 rfl ?_
          refine r_iconst (pc := 1) (v := 0) dX10_parts_1 (by decide) ?_
          refine r_putI (pc := 2) (v := nI 0) 10 0 84 dX10_parts_2 (fl_RX10_84 rfl) (by decide) rfl rfl (c10_o hm) ?_
          obtain ⟨Ia, hIa⟩ : ∃ zz0 : Im, zz0 = up2 I m 0 (nI 0) := ⟨_, rfl⟩
          refine wp_M (M2 := (Ia, G)) (by subst hIa; rfl) ?_
          have hZ : FrZ I Ia m := by rw [hIa]; exact FrZ.rf.u (by omega)
          refine r_aload_n (pc := 5) dX10_parts_5 rfl ?_
          refine r_iload_n (pc := 6) dX10_parts_6 rfl ?_
          refine r_iload_n (pc := 7) dX10_parts_7 rfl ?_
          refine r_callV_P (pc := 8) (b := m) (As := [.int (nI k), .int (nI hn)]) 10 277 dX10_parts_8 lk_X10_isPartner (ml_RX10_277 rfl) im_X10_isPartner se_X10_isPartner (by decide) (c10_o hm) (Nat.le_of_ble_eq_true rfl) rfl (isPartner_v (p := 0) hm (hZ.mt hk0) (hZ.c hcn) hcn10 hk hhn (bz_f (fun z => z.2 hz))) ?_
          refine r_if_ne_n (pc := 11) (a := 0) (tgt := 16) dX10_parts_11 (by decide) (by omega) (fun c11 => ?_) (fun c11 => ?_)
          · exfalso; omega
          · skip
            refine r_iconst (pc := 14) (v := -1) dX10_parts_14 (by decide) ?_
            refine r_ret_i (pc := 15) dX10_parts_15 rfl ?_
            exact ⟨_, Ia, rfl, rfl, (by unfold aParts; rw [atN_s et, atN_s eh, if_pos hsh, if_pos hz] <;> rfl), hM.z hZ, fun x j z => hZ x j (by omega) (by omega)⟩
        · skip
          refine r_aload_n (pc := 0) dX10_parts_0 rfl ?_
          refine r_iconst (pc := 1) (v := 0) dX10_parts_1 (by decide) ?_
          refine r_putI (pc := 2) (v := nI 0) 10 0 84 dX10_parts_2 (fl_RX10_84 rfl) (by decide) rfl rfl (c10_o hm) ?_
          obtain ⟨Ia, hIa⟩ : ∃ zz0 : Im, zz0 = up2 I m 0 (nI 0) := ⟨_, rfl⟩
          refine wp_M (M2 := (Ia, G)) (by subst hIa; rfl) ?_
          have hZ : FrZ I Ia m := by rw [hIa]; exact FrZ.rf.u (by omega)
          refine r_aload_n (pc := 5) dX10_parts_5 rfl ?_
          refine r_iload_n (pc := 6) dX10_parts_6 rfl ?_
          refine r_iload_n (pc := 7) dX10_parts_7 rfl ?_
          refine r_callV_P (pc := 8) (b := m) (As := [.int (nI k), .int (nI hn)]) 10 277 dX10_parts_8 lk_X10_isPartner (ml_RX10_277 rfl) im_X10_isPartner se_X10_isPartner (by decide) (c10_o hm) (Nat.le_of_ble_eq_true rfl) rfl (isPartner_v (p := 1) hm (hZ.mt hk0) (hZ.c hcn) hcn10 hk hhn (bz_t ⟨hsh, hz⟩)) ?_
          refine r_if_ne_n (pc := 11) (a := 1) (tgt := 16) dX10_parts_11 (by decide) (by omega) (fun c11 => ?_) (fun c11 => ?_)
          · skip
            refine r_aload_n (pc := 16) dX10_parts_16 rfl ?_
            refine r_iload_n (pc := 17) dX10_parts_17 rfl ?_
            refine r_iload_n (pc := 18) dX10_parts_18 rfl ?_
            refine r_iload_n (pc := 19) dX10_parts_19 rfl ?_
            refine r_callV_V (pc := 20) (b := m) (As := [.int (nI k), .int (nI hn), .int i]) 10 280 dX10_parts_20 lk_X10_layPairs (ml_RX10_280 rfl) im_X10_layPairs se_X10_layPairs (by decide) (c10_o hm) (Nat.le_of_ble_eq_true rfl) rfl (layPairs_ct (E := e0 (dK s k)) (i := i) hm (hZ.mt (mtc_of hok.1 hMd.1 _)) (hZ.c hcn) hcn10 hk (h := hn) (by omega) ⟨rfl, rfl, rfl, rfl⟩) (fun I1 h1 => ?_)
            obtain ⟨hz1, hS1, hpm, hpn⟩ := h1
            have hpm : I1 m 31 = nI (ctB (paR (dK s k) hn) 4100) := hpm
            have hpn : I1 m 32 = sI (scF (paR (dK s k) hn) i 4100) := hpn
            have hcl := ctB_le (paR (dK s k) hn) 4100
            have hZ : FrZ I I1 m := hZ.tr hz1
            refine r_iload_n (pc := 23) dX10_parts_23 rfl ?_
            refine r_iconst (pc := 24) (v := -1) dX10_parts_24 (by decide) ?_
            refine r_icmp_ne (pc := 25) (x := i) (z := (-1)) (tgt := 35) dX10_parts_25 (by decide) (fun c25 => ?_) (fun c25 => ?_)
            · skip
              refine r_aload_n (pc := 35) dX10_parts_35 rfl ?_
              refine r_getIv (pc := 36) 10 32 267 dX10_parts_36 (fl_RX10_267 rfl) (by decide) rfl (c10_o hm) (v := sI (scF (paR (dK s k) hn) i 4100)) (hpn) ?_
              refine r_ret_i (pc := 39) dX10_parts_39 rfl ?_
              exact ⟨_, I1, rfl, rfl, (by unfold aParts; rw [atN_s et, atN_s eh, if_pos hsh, if_neg hz]; exact sc_sI c25), hM.z hZ, fun x j z => hZ x j (by omega) (by omega)⟩
            · skip
              refine r_aload_n (pc := 28) dX10_parts_28 rfl ?_
              refine r_getIv (pc := 29) 10 31 264 dX10_parts_29 (fl_RX10_264 rfl) (by decide) rfl (c10_o hm) (v := nI (ctB (paR (dK s k) hn) 4100)) (hpm) ?_
              refine r_goto (pc := 32) (tgt := 39) dX10_parts_32 (by decide) ?_
              refine r_ret_i (pc := 39) dX10_parts_39 rfl ?_
              exact ⟨_, I1, rfl, rfl, (by unfold aParts; rw [atN_s et, atN_s eh, if_pos hsh, if_neg hz, ← scA_miss (ls_no (by omega) (fun z => absurd z.1 (by rw [c25]; decide))), if_pos c25]), hM.z hZ, fun x j z => hZ x j (by omega) (by omega)⟩
          · exfalso; omega
      · skip
        refine r_aload_n (pc := 0) dX10_parts_0 rfl ?_
        refine r_iconst (pc := 1) (v := 0) dX10_parts_1 (by decide) ?_
        refine r_putI (pc := 2) (v := nI 0) 10 0 84 dX10_parts_2 (fl_RX10_84 rfl) (by decide) rfl rfl (c10_o hm) ?_
        obtain ⟨Ia, hIa⟩ : ∃ zz0 : Im, zz0 = up2 I m 0 (nI 0) := ⟨_, rfl⟩
        refine wp_M (M2 := (Ia, G)) (by subst hIa; rfl) ?_
        have hZ : FrZ I Ia m := by rw [hIa]; exact FrZ.rf.u (by omega)
        refine r_aload_n (pc := 5) dX10_parts_5 rfl ?_
        refine r_iload_n (pc := 6) dX10_parts_6 rfl ?_
        refine r_iload_n (pc := 7) dX10_parts_7 rfl ?_
        refine r_callV_P (pc := 8) (b := m) (As := [.int (nI k), .int (nI hn)]) 10 277 dX10_parts_8 lk_X10_isPartner (ml_RX10_277 rfl) im_X10_isPartner se_X10_isPartner (by decide) (c10_o hm) (Nat.le_of_ble_eq_true rfl) rfl (isPartner_v (p := 0) hm (hZ.mt hk0) (hZ.c hcn) hcn10 hk hhn (bz_f (fun z => hsh z.1))) ?_
        refine r_if_ne_n (pc := 11) (a := 0) (tgt := 16) dX10_parts_11 (by decide) (by omega) (fun c11 => ?_) (fun c11 => ?_)
        · exfalso; omega
        · skip
          refine r_iconst (pc := 14) (v := -1) dX10_parts_14 (by decide) ?_
          refine r_ret_i (pc := 15) dX10_parts_15 rfl ?_
          exact ⟨_, Ia, rfl, rfl, (by unfold aParts; rw [atN_s et, atN_s eh, if_neg hsh] <;> rfl), hM.z hZ, fun x j z => hZ x j (by omega) (by omega)⟩
    · skip
      refine r_aload_n (pc := 0) dX10_parts_0 rfl ?_
      refine r_iconst (pc := 1) (v := 0) dX10_parts_1 (by decide) ?_
      refine r_putI (pc := 2) (v := nI 0) 10 0 84 dX10_parts_2 (fl_RX10_84 rfl) (by decide) rfl rfl (c10_o hm) ?_
      obtain ⟨Ia, hIa⟩ : ∃ zz0 : Im, zz0 = up2 I m 0 (nI 0) := ⟨_, rfl⟩
      refine wp_M (M2 := (Ia, G)) (by subst hIa; rfl) ?_
      have hZ : FrZ I Ia m := by rw [hIa]; exact FrZ.rf.u (by omega)
      refine r_aload_n (pc := 5) dX10_parts_5 rfl ?_
      refine r_iload_n (pc := 6) dX10_parts_6 rfl ?_
      refine r_iload_n (pc := 7) dX10_parts_7 rfl ?_
      refine r_callV_P (pc := 8) (b := m) (As := [.int (nI k), .int h]) 10 277 dX10_parts_8 lk_X10_isPartner (ml_RX10_277 rfl) im_X10_isPartner se_X10_isPartner (by decide) (c10_o hm) (Nat.le_of_ble_eq_true rfl) rfl (isPartner_no hm (hZ.mt hk0) (hZ.c hcn) hcn10 hk hnoh) ?_
      refine r_if_ne_n (pc := 11) (a := 0) (tgt := 16) dX10_parts_11 (by decide) (by omega) (fun c11 => ?_) (fun c11 => ?_)
      · exfalso; omega
      · skip
        refine r_iconst (pc := 14) (v := -1) dX10_parts_14 (by decide) ?_
        refine r_ret_i (pc := 15) dX10_parts_15 rfl ?_
        exact ⟨_, Ia, rfl, rfl, (by unfold aParts; rw [atN_s et, atN_n eh] <;> rfl), hM.z hZ, fun x j z => hZ x j (by omega) (by omega)⟩
  · skip
    refine r_aload_n (pc := 0) dX10_parts_0 rfl ?_
    refine r_iconst (pc := 1) (v := 0) dX10_parts_1 (by decide) ?_
    refine r_putI (pc := 2) (v := nI 0) 10 0 84 dX10_parts_2 (fl_RX10_84 rfl) (by decide) rfl rfl (c10_o hm) ?_
    obtain ⟨Ia, hIa⟩ : ∃ zz0 : Im, zz0 = up2 I m 0 (nI 0) := ⟨_, rfl⟩
    refine wp_M (M2 := (Ia, G)) (by subst hIa; rfl) ?_
    have hZ : FrZ I Ia m := by rw [hIa]; exact FrZ.rf.u (by omega)
    refine r_aload_n (pc := 5) dX10_parts_5 rfl ?_
    refine r_iload_n (pc := 6) dX10_parts_6 rfl ?_
    refine r_iload_n (pc := 7) dX10_parts_7 rfl ?_
    refine r_callV_P (pc := 8) (b := m) (As := [.int t, .int h]) 10 277 dX10_parts_8 lk_X10_isPartner (ml_RX10_277 rfl) im_X10_isPartner se_X10_isPartner (by decide) (c10_o hm) (Nat.le_of_ble_eq_true rfl) rfl (isPartner_nt hm (by rw [(hZ.c hcn)]; exact hnot)) ?_
    refine r_if_ne_n (pc := 11) (a := 0) (tgt := 16) dX10_parts_11 (by decide) (by omega) (fun c11 => ?_) (fun c11 => ?_)
    · exfalso; omega
    · skip
      refine r_iconst (pc := 14) (v := -1) dX10_parts_14 (by decide) ?_
      refine r_ret_i (pc := 15) dX10_parts_15 rfl ?_
      exact ⟨_, Ia, rfl, rfl, (by unfold aParts; rw [atN_n et] <;> rfl), hM.z hZ, fun x j z => hZ x j (by omega) (by omega)⟩

set_option maxHeartbeats 300000 in
set_option maxRecDepth 100000 in
theorem takings_m {d : Nat} {I : Im} {G : Gm} {s : Sta} {m : Nat} (hm : isC10 G m) (hM : Mi s I m) {t : Int32} {h : Int32} {i : Int32} : Ct (d + 5) 0 0 YX10_takings [.ref m, .int t, .int h, .int i] (I, G) (qM G (fun zv I2 => PmQ s I m (aTakings s t h i) zv I2)) := by
  refine Ct.of (by decide) (by simp [Value.category]) (Nat.le_of_ble_eq_true rfl) ?_
  have hcn := hM.2.1
  have hcn10 := hM.2.2.1
  have hZ : FrZ I I m := FrZ.rf
  show wp _ _ _ _ 0 [some (.ref m), some (.int t), some (.int h), some (.int i), none, none, none] [] _ _
  rcases in_cases (n := sN s) (by have := hcn10; omega) t with ⟨k, hk, rfl, et⟩ | ⟨et, hnot⟩
  · skip
    obtain ⟨hok, hMd⟩ := hM.2.2.2.1 k hk
    have hk0 : MtC I m k (eK' s k) (dT (dK s k)) := mtc_of hok.1 hMd.1 _
    have hn8 : dN (dK s k) ≤ 8 := hok.1.1.2
    have hE : SrC (eK' s k) := src_of hok.1 _
    have hW : WbC (eK' s k) := wbc_of hok.1 _
    have hc30 : ∀ b, dC (dK s k) b ≤ 30 := hok.1.2.1
    rcases in_cases (n := dN (dK s k)) (by have := hn8; omega) h with ⟨hn, hhn, rfl, eh⟩ | ⟨eh, hnoh⟩
    · skip
      by_cases hsh : shP (dK s k) hn
      · skip
        by_cases hz : dS (dK s k) hn = none
        · skip
          refine r_aload_n (pc := 0) dX10_takings_0 rfl ?_
          refine r_iconst (pc := 1) (v := 0) dX10_takings_1 (by decide) ?_
          refine r_putI (pc := 2) (v := nI 0) 10 0 84 dX10_takings_2 (fl_RX10_84 rfl) (by decide) rfl rfl (c10_o hm) ?_
          obtain ⟨Ia, hIa⟩ : ∃ zz0 : Im, zz0 = up2 I m 0 (nI 0) := ⟨_, rfl⟩
          refine wp_M (M2 := (Ia, G)) (by subst hIa; rfl) ?_
          have hZ : FrZ I Ia m := by rw [hIa]; exact FrZ.rf.u (by omega)
          refine r_aload_n (pc := 5) dX10_takings_5 rfl ?_
          refine r_iload_n (pc := 6) dX10_takings_6 rfl ?_
          refine r_iload_n (pc := 7) dX10_takings_7 rfl ?_
          refine r_callV_P (pc := 8) (b := m) (As := [.int (nI k), .int (nI hn)]) 10 277 dX10_takings_8 lk_X10_isPartner (ml_RX10_277 rfl) im_X10_isPartner se_X10_isPartner (by decide) (c10_o hm) (Nat.le_of_ble_eq_true rfl) rfl (isPartner_v (p := 0) hm (hZ.mt hk0) (hZ.c hcn) hcn10 hk hhn (bz_f (fun z => z.2 hz))) ?_
          refine r_if_ne_n (pc := 11) (a := 0) (tgt := 17) dX10_takings_11 (by decide) (by omega) (fun c11 => ?_) (fun c11 => ?_)
          · exfalso; omega
          · skip
            refine r_ldc (pc := 14) (v := -100000000) dX10_takings_14 (kc_RX10_226 rfl) ?_
            refine r_ret_i (pc := 16) dX10_takings_16 rfl ?_
            exact ⟨_, Ia, rfl, rfl, (by unfold aTakings; rw [atN_s et, atN_s eh, if_pos hsh, if_pos hz] <;> rfl), hM.z hZ, fun x j z => hZ x j (by omega) (by omega)⟩
        · skip
          refine r_aload_n (pc := 0) dX10_takings_0 rfl ?_
          refine r_iconst (pc := 1) (v := 0) dX10_takings_1 (by decide) ?_
          refine r_putI (pc := 2) (v := nI 0) 10 0 84 dX10_takings_2 (fl_RX10_84 rfl) (by decide) rfl rfl (c10_o hm) ?_
          obtain ⟨Ia, hIa⟩ : ∃ zz0 : Im, zz0 = up2 I m 0 (nI 0) := ⟨_, rfl⟩
          refine wp_M (M2 := (Ia, G)) (by subst hIa; rfl) ?_
          have hZ : FrZ I Ia m := by rw [hIa]; exact FrZ.rf.u (by omega)
          refine r_aload_n (pc := 5) dX10_takings_5 rfl ?_
          refine r_iload_n (pc := 6) dX10_takings_6 rfl ?_
          refine r_iload_n (pc := 7) dX10_takings_7 rfl ?_
          refine r_callV_P (pc := 8) (b := m) (As := [.int (nI k), .int (nI hn)]) 10 277 dX10_takings_8 lk_X10_isPartner (ml_RX10_277 rfl) im_X10_isPartner se_X10_isPartner (by decide) (c10_o hm) (Nat.le_of_ble_eq_true rfl) rfl (isPartner_v (p := 1) hm (hZ.mt hk0) (hZ.c hcn) hcn10 hk hhn (bz_t ⟨hsh, hz⟩)) ?_
          refine r_if_ne_n (pc := 11) (a := 1) (tgt := 17) dX10_takings_11 (by decide) (by omega) (fun c11 => ?_) (fun c11 => ?_)
          · skip
            refine r_aload_n (pc := 17) dX10_takings_17 rfl ?_
            refine r_iload_n (pc := 18) dX10_takings_18 rfl ?_
            refine r_iload_n (pc := 19) dX10_takings_19 rfl ?_
            refine r_iload_n (pc := 20) dX10_takings_20 rfl ?_
            refine r_callV_V (pc := 21) (b := m) (As := [.int (nI k), .int (nI hn), .int i]) 10 280 dX10_takings_21 lk_X10_layPairs (ml_RX10_280 rfl) im_X10_layPairs se_X10_layPairs (by decide) (c10_o hm) (Nat.le_of_ble_eq_true rfl) rfl (layPairs_ct (E := e0 (dK s k)) (i := i) hm (hZ.mt (mtc_of hok.1 hMd.1 _)) (hZ.c hcn) hcn10 hk (h := hn) (by omega) ⟨rfl, rfl, rfl, rfl⟩) (fun I1 h1 => ?_)
            obtain ⟨hz1, hS1, hpm, hpn⟩ := h1
            have hpm : I1 m 31 = nI (ctB (paR (dK s k) hn) 4100) := hpm
            have hpn : I1 m 32 = sI (scF (paR (dK s k) hn) i 4100) := hpn
            have hcl := ctB_le (paR (dK s k) hn) 4100
            have hZ : FrZ I I1 m := hZ.tr hz1
            refine r_aload_n (pc := 24) dX10_takings_24 rfl ?_
            refine r_getIv (pc := 25) 10 32 267 dX10_takings_25 (fl_RX10_267 rfl) (by decide) rfl (c10_o hm) (v := sI (scF (paR (dK s k) hn) i 4100)) (hpn) ?_
            rcases hsc : scF (paR (dK s k) hn) i 4100 with _ | r
            · skip
              show wp _ _ _ _ _ _ [.int (-1)] _ _
              refine r_iconst (pc := 28) (v := -1) dX10_takings_28 (by decide) ?_
              refine r_icmp_ne (pc := 29) (x := (-1)) (z := (-1)) (tgt := 35) dX10_takings_29 (by decide) (fun c29 => ?_) (fun c29 => ?_)
              · exfalso; exact c29 rfl
              · skip
                refine r_ldc (pc := 32) (v := -100000000) dX10_takings_32 (kc_RX10_226 rfl) ?_
                refine r_ret_i (pc := 34) dX10_takings_34 rfl ?_
                exact ⟨_, I1, rfl, rfl, (by unfold aTakings; rw [atN_s et, atN_s eh, if_pos hsh, if_neg hz]; unfold tkS; rw [hsc]), hM.z hZ, fun x j z => hZ x j (by omega) (by omega)⟩
            · skip
              show wp _ _ _ _ _ _ [.int (nI r)] _ _
              have hr4 := (scF_some hsc).1
              refine r_iconst (pc := 28) (v := -1) dX10_takings_28 (by decide) ?_
              refine r_icmp_ne (pc := 29) (x := nI r) (z := (-1)) (tgt := 35) dX10_takings_29 (by decide) (fun c29 => ?_) (fun c29 => ?_)
              · skip
                refine r_aload_n (pc := 35) dX10_takings_35 rfl ?_
                refine r_iload_n (pc := 36) dX10_takings_36 rfl ?_
                refine r_aload_n (pc := 37) dX10_takings_37 rfl ?_
                refine r_iload_n (pc := 38) dX10_takings_38 rfl ?_
                refine r_iload_n (pc := 39) dX10_takings_39 rfl ?_
                refine r_callV_P (pc := 40) (b := m) (As := [.int (nI k), .int (nI hn)]) 10 251 dX10_takings_40 lk_X10_chainCost (ml_RX10_251 rfl) im_X10_chainCost se_X10_chainCost (by decide) (c10_o hm) (Nat.le_of_ble_eq_true rfl) rfl (chainCost_ct (E := e0 (dK s k)) hm hS1.1 hS1.2.2.1 hcn10 hk (h := hn) (by omega)) ?_
                refine r_callV_P (pc := 43) (b := m) (As := [.int (nI hn), .int (nI (ccF (e0 (dK s k)) hn))]) 10 213 dX10_takings_43 lk_X10_askBy (ml_RX10_213 rfl) im_X10_askBy se_X10_askBy (by decide) (c10_o hm) (Nat.le_of_ble_eq_true rfl) rfl (askBy_ct (E := e0 (dK s k)) hm hS1.1 (by omega) hS1.2.1 (h := hn) (by omega) (by have := ccF_le (E := e0 (dK s k)) (fun b a z => (hok.1.2.2.1 b a z).1) hS1.1.2.2.2.2.2.1 hn (by omega); omega)) ?_
                refine r_istore (pc := 46) (L' := [some (.ref m), some (.int (nI k)), some (.int (nI hn)), some (.int i), some (.int (nI (aoF (dK s k) hn))), none, none]) dX10_takings_46 (by decide) rfl rfl ?_
                refine r_ldc2 (pc := 48) (v := 100) dX10_takings_48 (kl_RX10_284 rfl) ?_
                refine r_iload (pc := 51) dX10_takings_51 rfl ?_
                refine r_aload_n (pc := 53) dX10_takings_53 rfl ?_
                refine r_iload_n (pc := 54) dX10_takings_54 rfl ?_
                refine r_iload_n (pc := 55) dX10_takings_55 rfl ?_
                refine r_callV_P (pc := 56) (b := m) (As := [.int (nI k), .int (nI hn)]) 10 251 dX10_takings_56 lk_X10_chainCost (ml_RX10_251 rfl) im_X10_chainCost se_X10_chainCost (by decide) (c10_o hm) (Nat.le_of_ble_eq_true rfl) rfl (chainCost_ct (E := e0 (dK s k)) hm hS1.1 hS1.2.2.1 hcn10 hk (h := hn) (by omega)) ?_
                refine r_isub (pc := 59) (x := nI (aoF (dK s k) hn)) (z := nI (ccF (e0 (dK s k)) hn)) dX10_takings_59 ?_
                refine r_i2l (pc := 60) (x := (nI (aoF (dK s k) hn)) - (nI (ccF (e0 (dK s k)) hn))) dX10_takings_60 ?_
                refine r_lmul (pc := 61) dX10_takings_61 ?_
                refine r_aload_n (pc := 62) dX10_takings_62 rfl ?_
                refine r_iload_n (pc := 63) dX10_takings_63 rfl ?_
                refine r_iload_n (pc := 64) dX10_takings_64 rfl ?_
                refine r_iload (pc := 65) dX10_takings_65 rfl ?_
                refine r_callV_P (pc := 67) (b := m) (As := [.int (nI k), .int (nI hn), .int (nI (aoF (dK s k) hn))]) 10 168 dX10_takings_67 lk_X10_wanted (ml_RX10_168 rfl) im_X10_wanted se_X10_wanted (by decide) (c10_o hm) (Nat.le_of_ble_eq_true rfl) rfl (wanted_ct (E := e0 (dK s k)) hm hS1.1 (by omega) (h := hn) (by omega) (askF_le _ _ _)) ?_
                refine r_i2l (pc := 70) (x := nI (wF (dK s k) hn (aoF (dK s k) hn))) dX10_takings_70 ?_
                refine r_lmul (pc := 71) dX10_takings_71 ?_
                refine r_lstore (pc := 72) (L' := [some (.ref m), some (.int (nI k)), some (.int (nI hn)), some (.int i), some (.int (nI (aoF (dK s k) hn))), some (.long (((100) * (((nI (aoF (dK s k) hn)) - (nI (ccF (e0 (dK s k)) hn))).toInt64)) * ((nI (wF (dK s k) hn (aoF (dK s k) hn))).toInt64))), none]) dX10_takings_72 (by decide) rfl rfl ?_
                refine r_lload (pc := 74) dX10_takings_74 rfl ?_
                refine r_lconst (pc := 76) (v := 0) dX10_takings_76 (by decide) ?_
                refine r_lcmp (pc := 77) dX10_takings_77 ?_
                refine r_if_ne (pc := 78) (x := lg_cmp (((100) * (((nI (aoF (dK s k) hn)) - (nI (ccF (e0 (dK s k)) hn))).toInt64)) * ((nI (wF (dK s k) hn (aoF (dK s k) hn))).toInt64)) 0) (tgt := 85) dX10_takings_78 (by decide) (fun c78 => ?_) (fun c78 => ?_)
                · skip
                  refine r_ldc2 (pc := 85) (v := 10000) dX10_takings_85 (kl_RX10_286 rfl) ?_
                  refine r_aload_n (pc := 88) dX10_takings_88 rfl ?_
                  refine r_iload_n (pc := 89) dX10_takings_89 rfl ?_
                  refine r_iload_n (pc := 90) dX10_takings_90 rfl ?_
                  refine r_aload_n (pc := 91) dX10_takings_91 rfl ?_
                  refine r_getIv (pc := 92) 10 32 267 dX10_takings_92 (fl_RX10_267 rfl) (by decide) rfl (c10_o hm) (v := nI r) (hpn.trans (by rw [hsc]; rfl)) ?_
                  refine r_bipush (pc := 95) (v := 100) dX10_takings_95 (by decide) ?_
                  refine r_idiv (pc := 97) (x := nI r) (z := 100) dX10_takings_97 (by decide) ?_
                  have hrl := (scF_some hsc).1
                  · skip
                    refine wp_S (st2 := [.int (nI (r / 100)), .int (nI hn), .int (nI k), .ref m, .long (10000)]) (by rw [div_n (by omega)]) ?_
                    refine r_aload_n (pc := 98) dX10_takings_98 rfl ?_
                    refine r_getIv (pc := 99) 10 32 267 dX10_takings_99 (fl_RX10_267 rfl) (by decide) rfl (c10_o hm) (v := nI r) (hpn.trans (by rw [hsc]; rfl)) ?_
                    refine r_bipush (pc := 102) (v := 100) dX10_takings_102 (by decide) ?_
                    refine r_irem (pc := 104) (x := nI r) (z := 100) dX10_takings_104 (by decide) ?_
                    have hrl := (scF_some hsc).1
                    · skip
                      refine wp_S (st2 := [.int (nI (r % 100)), .int (nI (r / 100)), .int (nI hn), .int (nI k), .ref m, .long (10000)]) (by rw [rem_n (by omega)]) ?_
                      refine r_iload (pc := 105) dX10_takings_105 rfl ?_
                      refine r_callV_P (pc := 107) (b := m) (As := [.int (nI k), .int (nI hn), .int (nI (r / 100)), .int (nI (r % 100)), .int (nI (aoF (dK s k) hn))]) 10 260 dX10_takings_107 lk_X10_bracket (ml_RX10_260 rfl) im_X10_bracket se_X10_bracket (by decide) (c10_o hm) (Nat.le_of_ble_eq_true rfl) rfl (bracket_ct (E := e0 (dK s k)) (w := r / 100) hm hS1.1 hS1.2.2.1 hcn10 hk (h := hn) (by omega) (s := r % 100) (by omega) (askF_le _ _ _)) ?_
                      refine r_i2l (pc := 110) (x := ibG (wF (dK s k) hn) (100 - r % 100) (100 * (r / 100 + dC (dK s k) hn)) (aoF (dK s k) hn)) dX10_takings_110 ?_
                      refine r_lmul (pc := 111) dX10_takings_111 ?_
                      refine r_lload (pc := 112) dX10_takings_112 rfl ?_
                      refine r_ldiv (pc := 114) dX10_takings_114 (by exact fun z => c78 (cmp_eq.mpr z)) ?_
                      refine r_l2i (pc := 115) dX10_takings_115 ?_
                      refine r_ret_i (pc := 116) dX10_takings_116 rfl ?_
                      exact ⟨_, I1, rfl, rfl, (by unfold aTakings; rw [atN_s et, atN_s eh, if_pos hsh, if_neg hz]; unfold tkS; rw [hsc]; show _ = taF (dK s k) hn r; rw [ta_eq hok.1 (scF_some hsc).1, if_neg (fun z => c78 (cmp_eq.mpr z))] <;> rfl), hM.z hZ, fun x j z => hZ x j (by omega) (by omega)⟩
                · skip
                  refine r_iconst (pc := 81) (v := 0) dX10_takings_81 (by decide) ?_
                  refine r_goto (pc := 82) (tgt := 116) dX10_takings_82 (by decide) ?_
                  refine r_ret_i (pc := 116) dX10_takings_116 rfl ?_
                  exact ⟨_, I1, rfl, rfl, (by unfold aTakings; rw [atN_s et, atN_s eh, if_pos hsh, if_neg hz]; unfold tkS; rw [hsc]; show _ = taF (dK s k) hn r; rw [ta_eq hok.1 (scF_some hsc).1, if_pos (cmp_eq.mp c78)] <;> rfl), hM.z hZ, fun x j z => hZ x j (by omega) (by omega)⟩
              · exfalso; exact m1_ne (by omega) c29.symm
          · exfalso; omega
      · skip
        refine r_aload_n (pc := 0) dX10_takings_0 rfl ?_
        refine r_iconst (pc := 1) (v := 0) dX10_takings_1 (by decide) ?_
        refine r_putI (pc := 2) (v := nI 0) 10 0 84 dX10_takings_2 (fl_RX10_84 rfl) (by decide) rfl rfl (c10_o hm) ?_
        obtain ⟨Ia, hIa⟩ : ∃ zz0 : Im, zz0 = up2 I m 0 (nI 0) := ⟨_, rfl⟩
        refine wp_M (M2 := (Ia, G)) (by subst hIa; rfl) ?_
        have hZ : FrZ I Ia m := by rw [hIa]; exact FrZ.rf.u (by omega)
        refine r_aload_n (pc := 5) dX10_takings_5 rfl ?_
        refine r_iload_n (pc := 6) dX10_takings_6 rfl ?_
        refine r_iload_n (pc := 7) dX10_takings_7 rfl ?_
        refine r_callV_P (pc := 8) (b := m) (As := [.int (nI k), .int (nI hn)]) 10 277 dX10_takings_8 lk_X10_isPartner (ml_RX10_277 rfl) im_X10_isPartner se_X10_isPartner (by decide) (c10_o hm) (Nat.le_of_ble_eq_true rfl) rfl (isPartner_v (p := 0) hm (hZ.mt hk0) (hZ.c hcn) hcn10 hk hhn (bz_f (fun z => hsh z.1))) ?_
        refine r_if_ne_n (pc := 11) (a := 0) (tgt := 17) dX10_takings_11 (by decide) (by omega) (fun c11 => ?_) (fun c11 => ?_)
        · exfalso; omega
        · skip
          refine r_ldc (pc := 14) (v := -100000000) dX10_takings_14 (kc_RX10_226 rfl) ?_
          refine r_ret_i (pc := 16) dX10_takings_16 rfl ?_
          exact ⟨_, Ia, rfl, rfl, (by unfold aTakings; rw [atN_s et, atN_s eh, if_neg hsh] <;> rfl), hM.z hZ, fun x j z => hZ x j (by omega) (by omega)⟩
    · skip
      refine r_aload_n (pc := 0) dX10_takings_0 rfl ?_
      refine r_iconst (pc := 1) (v := 0) dX10_takings_1 (by decide) ?_
      refine r_putI (pc := 2) (v := nI 0) 10 0 84 dX10_takings_2 (fl_RX10_84 rfl) (by decide) rfl rfl (c10_o hm) ?_
      obtain ⟨Ia, hIa⟩ : ∃ zz0 : Im, zz0 = up2 I m 0 (nI 0) := ⟨_, rfl⟩
      refine wp_M (M2 := (Ia, G)) (by subst hIa; rfl) ?_
      have hZ : FrZ I Ia m := by rw [hIa]; exact FrZ.rf.u (by omega)
      refine r_aload_n (pc := 5) dX10_takings_5 rfl ?_
      refine r_iload_n (pc := 6) dX10_takings_6 rfl ?_
      refine r_iload_n (pc := 7) dX10_takings_7 rfl ?_
      refine r_callV_P (pc := 8) (b := m) (As := [.int (nI k), .int h]) 10 277 dX10_takings_8 lk_X10_isPartner (ml_RX10_277 rfl) im_X10_isPartner se_X10_isPartner (by decide) (c10_o hm) (Nat.le_of_ble_eq_true rfl) rfl (isPartner_no hm (hZ.mt hk0) (hZ.c hcn) hcn10 hk hnoh) ?_
      refine r_if_ne_n (pc := 11) (a := 0) (tgt := 17) dX10_takings_11 (by decide) (by omega) (fun c11 => ?_) (fun c11 => ?_)
      · exfalso; omega
      · skip
        refine r_ldc (pc := 14) (v := -100000000) dX10_takings_14 (kc_RX10_226 rfl) ?_
        refine r_ret_i (pc := 16) dX10_takings_16 rfl ?_
        exact ⟨_, Ia, rfl, rfl, (by unfold aTakings; rw [atN_s et, atN_n eh] <;> rfl), hM.z hZ, fun x j z => hZ x j (by omega) (by omega)⟩
  · skip
    refine r_aload_n (pc := 0) dX10_takings_0 rfl ?_
    refine r_iconst (pc := 1) (v := 0) dX10_takings_1 (by decide) ?_
    refine r_putI (pc := 2) (v := nI 0) 10 0 84 dX10_takings_2 (fl_RX10_84 rfl) (by decide) rfl rfl (c10_o hm) ?_
    obtain ⟨Ia, hIa⟩ : ∃ zz0 : Im, zz0 = up2 I m 0 (nI 0) := ⟨_, rfl⟩
    refine wp_M (M2 := (Ia, G)) (by subst hIa; rfl) ?_
    have hZ : FrZ I Ia m := by rw [hIa]; exact FrZ.rf.u (by omega)
    refine r_aload_n (pc := 5) dX10_takings_5 rfl ?_
    refine r_iload_n (pc := 6) dX10_takings_6 rfl ?_
    refine r_iload_n (pc := 7) dX10_takings_7 rfl ?_
    refine r_callV_P (pc := 8) (b := m) (As := [.int t, .int h]) 10 277 dX10_takings_8 lk_X10_isPartner (ml_RX10_277 rfl) im_X10_isPartner se_X10_isPartner (by decide) (c10_o hm) (Nat.le_of_ble_eq_true rfl) rfl (isPartner_nt hm (by rw [(hZ.c hcn)]; exact hnot)) ?_
    refine r_if_ne_n (pc := 11) (a := 0) (tgt := 17) dX10_takings_11 (by decide) (by omega) (fun c11 => ?_) (fun c11 => ?_)
    · exfalso; omega
    · skip
      refine r_ldc (pc := 14) (v := -100000000) dX10_takings_14 (kc_RX10_226 rfl) ?_
      refine r_ret_i (pc := 16) dX10_takings_16 rfl ?_
      exact ⟨_, Ia, rfl, rfl, (by unfold aTakings; rw [atN_n et] <;> rfl), hM.z hZ, fun x j z => hZ x j (by omega) (by omega)⟩
