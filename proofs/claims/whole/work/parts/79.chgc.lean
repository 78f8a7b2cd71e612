/-! ===== the class: changes ===== -/

set_option maxHeartbeats 300000 in
set_option maxRecDepth 100000 in
theorem join_c {d : Nat} {I : Im} {G : Gm} {s : Sta} (hC : Ci s I G) {t : Int32} {b : Int32} : Ct (d + 2) 0 0 YX9_join [.ref 0, .int t, .int b] (I, G) (qX (fun v M => PcQ (fJoin s t b).2 I G (fJoin s t b).1 v M)) := by
  refine Ct.of (by decide) (by simp [Value.category]) (Nat.le_of_ble_eq_true rfl) ?_
  have h9 := hC.1.1
  have hcn10 := hC.2.1.2.1
  have hFr : FrC I I := FrC.rf
  have hGk : Geq G G := Geq.rf
  show wp _ _ _ _ 0 [some (.ref 0), some (.int t), some (.int b), none] [] _ _
  rcases in_cases (n := sN s) (by have := hcn10; omega) t with ⟨k, hk, rfl, et⟩ | ⟨et, hnot⟩
  · skip
    have h8 := hC.1.2.1 k (by omega)
    obtain ⟨hok, hTr⟩ := hC.ok hk
    have hn8 : dN (dK s k) ≤ 8 := hok.1.1.2
    have hoff := tA_off k
    have hE := src_of hok.1 (tdT (sD s k))
    have hW := wbc_of hok.1 (tdT (sD s k))
    have hc60 : ∀ b, dC (dK s k) b ≤ 60 := fun b => Nat.le_trans (hok.1.2.1 b) (by omega)
    have htc := trc_of hok.1 hTr.1 (tdT (sD s k))
    rcases in_cases (n := 2 ^ dN (dK s k)) (by have := pow_le hn8; omega) b with ⟨bn, hbn, rfl, eb⟩ | ⟨eb, hnob⟩
    · skip
      refine r_aload_n (pc := 0) dX9_join_0 rfl ?_
      refine r_iload_n (pc := 1) dX9_join_1 rfl ?_
      refine r_callV_R (pc := 2) (b := 0) (As := [.int (nI k)]) 9 98 dX9_join_2 lk_X9_find (ml_RX9_98 rfl) im_X9_find se_X9_find (by decide) (c9_o h9) (Nat.le_of_ble_eq_true rfl) rfl (find_ct hC.1.1 hC.2.1.1 hcn10 hk (hC.1.2.2.1 k hk)) ?_
      refine r_astore_n (pc := 5) (L' := [some (.ref 0), some (.int (nI k)), some (.int (nI bn)), some (.ref (tA k))]) dX9_join_5 (by decide) rfl rfl ?_
      refine r_aload_n (pc := 6) dX9_join_6 rfl ?_
      refine r_ifnullR (pc := 7) dX9_join_7 ?_
      refine r_iload_n (pc := 10) dX9_join_10 rfl ?_
      refine r_if_lt_n (pc := 11) (a := bn) (tgt := 22) dX9_join_11 (by decide) (by have := pow_le hn8; omega) ?_
      refine r_iload_n (pc := 14) dX9_join_14 rfl ?_
      refine r_aload_n (pc := 15) dX9_join_15 rfl ?_
      refine r_callV_P (pc := 16) (b := tA k) (As := []) 8 139 dX9_join_16 lk_X8_allHouses (ml_RX9_139 rfl) im_X8_allHouses se_X8_allHouses (by decide) (c8_o h8) (Nat.le_of_ble_eq_true rfl) rfl (allHouses_n h8 hTr.1.1 hn8) ?_
      refine r_icmp_le_n (pc := 19) (a := bn) (b := 2 ^ dN (dK s k) - 1) (tgt := 24) dX9_join_19 (by decide) (by have := pow_le hn8; omega) (by have := pow_le hn8; omega) (fun c19 => ?_) (fun c19 => ?_)
      · skip
        refine r_aload_n (pc := 24) dX9_join_24 rfl ?_
        refine r_get1 (pc := 25) 8 7 143 dX9_join_25 (fl_RX9_143 rfl) (by decide) rfl (c8_o h8) (c8_p7 h8) ?_
        refine r_iload_n (pc := 28) dX9_join_28 rfl ?_
        refine r_putI (pc := 29) (v := nI bn) 7 0 146 dX9_join_29 (fl_RX9_146 rfl) (by decide) rfl rfl (c7_o (c8_s7 h8)) ?_
        obtain ⟨Ia, hIa⟩ : ∃ zz0 : Im, zz0 = up2 I ((tA k) + 14) 0 (nI bn) := ⟨_, rfl⟩
        refine wp_M (M2 := (Ia, G)) (by subst hIa; rfl) ?_
        have hC9 : Ci (sUp s k (xJoin (sD s k) (nI bn))) Ia G := hC.td hk rfl (hok.j _) (hTr.join (by rw [hIa]; exact up2_at) (fun a j z => by rw [hIa]; exact up2_rd (by omega))) (fun a j z => by rw [hIa]; exact up2_rd (by omega))
        have hFm : ∀ x j, 256 ≤ x → x ≤ 281 → Ia x j = I x j := fun x j h1 h2 => by rw [hIa]; exact up2_rd (by omega)
        refine r_iconst (pc := 32) (v := 1) dX9_join_32 (by decide) ?_
        refine r_ret_z (pc := 33) dX9_join_33 rfl (by decide) ?_
        exact ⟨_, rfl, Ia, G, rfl, by unfold fJoin; rw [atQ_s et, atQ_s eb] <;> rfl, by unfold fJoin; rw [atQ_s et, atQ_s eb]; exact hC9, hFm, Geq.rf.gk⟩
      · exfalso; omega
    · skip
      refine r_aload_n (pc := 0) dX9_join_0 rfl ?_
      refine r_iload_n (pc := 1) dX9_join_1 rfl ?_
      refine r_callV_R (pc := 2) (b := 0) (As := [.int (nI k)]) 9 98 dX9_join_2 lk_X9_find (ml_RX9_98 rfl) im_X9_find se_X9_find (by decide) (c9_o h9) (Nat.le_of_ble_eq_true rfl) rfl (find_ct hC.1.1 hC.2.1.1 hcn10 hk (hC.1.2.2.1 k hk)) ?_
      refine r_astore_n (pc := 5) (L' := [some (.ref 0), some (.int (nI k)), some (.int b), some (.ref (tA k))]) dX9_join_5 (by decide) rfl rfl ?_
      refine r_aload_n (pc := 6) dX9_join_6 rfl ?_
      refine r_ifnullR (pc := 7) dX9_join_7 ?_
      refine r_iload_n (pc := 10) dX9_join_10 rfl ?_
      refine r_if_lt (pc := 11) (x := b) (tgt := 22) dX9_join_11 (by decide) (fun c11 => ?_) (fun c11 => ?_)
      · skip
        refine r_iconst (pc := 22) (v := 0) dX9_join_22 (by decide) ?_
        refine r_ret_z (pc := 23) dX9_join_23 rfl (by decide) ?_
        exact ⟨_, rfl, I, G, rfl, by unfold fJoin; rw [atQ_s et, atQ_n eb] <;> rfl, by unfold fJoin; rw [atQ_s et, atQ_n eb]; exact hC, hFr.m, Geq.rf.gk⟩
      · skip
        refine r_iload_n (pc := 14) dX9_join_14 rfl ?_
        refine r_aload_n (pc := 15) dX9_join_15 rfl ?_
        refine r_callV_P (pc := 16) (b := tA k) (As := []) 8 139 dX9_join_16 lk_X8_allHouses (ml_RX9_139 rfl) im_X8_allHouses se_X8_allHouses (by decide) (c8_o h8) (Nat.le_of_ble_eq_true rfl) rfl (allHouses_n h8 hTr.1.1 hn8) ?_
        refine r_icmp_le (pc := 19) (x := b) (z := nI (2 ^ dN (dK s k) - 1)) (tgt := 24) dX9_join_19 (by decide) (fun c19 => ?_) (fun c19 => ?_)
        · exfalso; have := pow_le hn8; exact rg_no (n := 2 ^ dN (dK s k) - 1) (by omega) (by rw [show 2 ^ dN (dK s k) - 1 + 1 = 2 ^ dN (dK s k) by omega]; exact hnob) c11 c19
        · skip
          refine r_iconst (pc := 22) (v := 0) dX9_join_22 (by decide) ?_
          refine r_ret_z (pc := 23) dX9_join_23 rfl (by decide) ?_
          exact ⟨_, rfl, I, G, rfl, by unfold fJoin; rw [atQ_s et, atQ_n eb] <;> rfl, by unfold fJoin; rw [atQ_s et, atQ_n eb]; exact hC, hFr.m, Geq.rf.gk⟩
  · skip
    refine r_aload_n (pc := 0) dX9_join_0 rfl ?_
    refine r_iload_n (pc := 1) dX9_join_1 rfl ?_
    refine r_callV_R (pc := 2) (b := 0) (As := [.int t]) 9 98 dX9_join_2 lk_X9_find (ml_RX9_98 rfl) im_X9_find se_X9_find (by decide) (c9_o h9) (Nat.le_of_ble_eq_true rfl) rfl (find_no hC.1.1 (by rw [hC.2.1.1]; exact hnot)) ?_
    refine r_astore_nN (pc := 5) (L' := [some (.ref 0), some (.int t), some (.int b), some (.null)]) dX9_join_5 (by decide) rfl rfl ?_
    refine r_aload_nN (pc := 6) dX9_join_6 rfl ?_
    refine r_ifnullN (pc := 7) (tgt := 22) dX9_join_7 (by decide) ?_
    refine r_iconst (pc := 22) (v := 0) dX9_join_22 (by decide) ?_
    refine r_ret_z (pc := 23) dX9_join_23 rfl (by decide) ?_
    exact ⟨_, rfl, I, G, rfl, by unfold fJoin; rw [atQ_n et] <;> rfl, by unfold fJoin; rw [atQ_n et]; exact hC, hFr.m, Geq.rf.gk⟩

set_option maxHeartbeats 300000 in
set_option maxRecDepth 100000 in
theorem law_c {d : Nat} {I : Im} {G : Gm} {s : Sta} (hC : Ci s I G) {t : Int32} {c : Int32} {a : Bool} : Ct (d + 2) 0 0 YX9_law [.ref 0, .int t, .int c, .int (bz (a = true))] (I, G) (qX (fun v M => PcQ (fLaw s t c a).2 I G (fLaw s t c a).1 v M)) := by
  refine Ct.of (by decide) (by simp [Value.category]) (Nat.le_of_ble_eq_true rfl) ?_
  have h9 := hC.1.1
  have hcn10 := hC.2.1.2.1
  have hFr : FrC I I := FrC.rf
  have hGk : Geq G G := Geq.rf
  show wp _ _ _ _ 0 [some (.ref 0), some (.int t), some (.int c), some (.int (bz (a = true))), none] [] _ _
  rcases in_cases (n := sN s) (by have := hcn10; omega) t with ⟨k, hk, rfl, et⟩ | ⟨et, hnot⟩
  · skip
    have h8 := hC.1.2.1 k (by omega)
    obtain ⟨hok, hTr⟩ := hC.ok hk
    have hn8 : dN (dK s k) ≤ 8 := hok.1.1.2
    have hoff := tA_off k
    have hE := src_of hok.1 (tdT (sD s k))
    have hW := wbc_of hok.1 (tdT (sD s k))
    have hc60 : ∀ b, dC (dK s k) b ≤ 60 := fun b => Nat.le_trans (hok.1.2.1 b) (by omega)
    have htc := trc_of hok.1 hTr.1 (tdT (sD s k))
    rcases in_cases (n := 42) (by omega) c with ⟨cn, hcn, rfl, ec⟩ | ⟨ec, hnoc⟩
    · skip
      refine r_aload_n (pc := 0) dX9_law_0 rfl ?_
      refine r_iload_n (pc := 1) dX9_law_1 rfl ?_
      refine r_callV_R (pc := 2) (b := 0) (As := [.int (nI k)]) 9 98 dX9_law_2 lk_X9_find (ml_RX9_98 rfl) im_X9_find se_X9_find (by decide) (c9_o h9) (Nat.le_of_ble_eq_true rfl) rfl (find_ct hC.1.1 hC.2.1.1 hcn10 hk (hC.1.2.2.1 k hk)) ?_
      refine r_astore (pc := 5) (L' := [some (.ref 0), some (.int (nI k)), some (.int (nI cn)), some (.int (bz (a = true))), some (.ref (tA k))]) dX9_law_5 (by decide) rfl rfl ?_
      refine r_aload (pc := 7) dX9_law_7 rfl ?_
      refine r_ifnullR (pc := 9) dX9_law_9 ?_
      refine r_iload_n (pc := 12) dX9_law_12 rfl ?_
      refine r_callS_P (pc := 13) (As := [.int (nI cn)]) 136 dX9_law_13 lk_X9_isPrice (ml_RX9_136 rfl) sm_X9_isPrice (Nat.le_of_ble_eq_true rfl) rfl (isPrice_y hcn) ?_
      refine r_if_ne_n (pc := 16) (a := 1) (tgt := 21) dX9_law_16 (by decide) (by omega) (fun c16 => ?_) (fun c16 => ?_)
      · skip
        refine r_aload (pc := 21) dX9_law_21 rfl ?_
        refine r_get1 (pc := 23) 8 7 143 dX9_law_23 (fl_RX9_143 rfl) (by decide) rfl (c8_o h8) (c8_p7 h8) ?_
        refine r_iload_n (pc := 26) dX9_law_26 rfl ?_
        refine r_putI (pc := 27) (v := nI cn) 7 1 149 dX9_law_27 (fl_RX9_149 rfl) (by decide) rfl rfl (c7_o (c8_s7 h8)) ?_
        refine r_aload (pc := 30) dX9_law_30 rfl ?_
        refine r_get1 (pc := 32) 8 7 143 dX9_law_32 (fl_RX9_143 rfl) (by decide) rfl (c8_o h8) (c8_p7 h8) ?_
        refine r_iload_n (pc := 35) dX9_law_35 rfl ?_
        refine r_putZ (pc := 36) (v := bz (a = true)) 7 2 152 dX9_law_36 (fl_RX9_152 rfl) (by decide) rfl rfl (c7_o (c8_s7 h8)) (bz_01 _) ?_
        refine r_aload (pc := 39) dX9_law_39 rfl ?_
        refine r_iconst (pc := 41) (v := 0) dX9_law_41 (by decide) ?_
        refine r_putZ (pc := 42) (v := nI 0) 8 12 156 dX9_law_42 (fl_RX9_156 rfl) (by decide) rfl rfl (c8_o h8) (by decide) ?_
        obtain ⟨Ia, hIa⟩ : ∃ zz0 : Im, zz0 = up2 (up2 (up2 I ((tA k) + 14) 1 (nI cn)) ((tA k) + 14) 2 (bz (a = true))) (tA k) 12 (nI 0) := ⟨_, rfl⟩
        refine wp_M (M2 := (Ia, G)) (by subst hIa; rfl) ?_
        have hC9 : Ci (sUp s k (xLaw (sD s k) cn a)) Ia G := hC.td hk rfl (hok.l (by omega) _) (hTr.law (by rw [hIa]; exact (up2_rd (by omega)).trans ((up2_rd (by omega)).trans up2_at)) (by rw [hIa]; exact (up2_rd (by omega)).trans up2_at) (by rw [hIa]; exact up2_at) (fun a j z1 z2 => by rw [hIa, up2_rd (by omega), up2_rd (by omega), up2_rd (by omega)])) (fun a j z => by rw [hIa, up2_rd (by omega), up2_rd (by omega), up2_rd (by omega)])
        have hFm : ∀ x j, 256 ≤ x → x ≤ 281 → Ia x j = I x j := fun x j h1 h2 => by rw [hIa, up2_rd (by omega), up2_rd (by omega), up2_rd (by omega)]
        refine r_iconst (pc := 45) (v := 1) dX9_law_45 (by decide) ?_
        refine r_ret_z (pc := 46) dX9_law_46 rfl (by decide) ?_
        exact ⟨_, rfl, Ia, G, rfl, by unfold fLaw; rw [atQ_s et, atQ_s ec] <;> rfl, by unfold fLaw; rw [atQ_s et, atQ_s ec]; exact hC9, hFm, Geq.rf.gk⟩
      · exfalso; omega
    · skip
      refine r_aload_n (pc := 0) dX9_law_0 rfl ?_
      refine r_iload_n (pc := 1) dX9_law_1 rfl ?_
      refine r_callV_R (pc := 2) (b := 0) (As := [.int (nI k)]) 9 98 dX9_law_2 lk_X9_find (ml_RX9_98 rfl) im_X9_find se_X9_find (by decide) (c9_o h9) (Nat.le_of_ble_eq_true rfl) rfl (find_ct hC.1.1 hC.2.1.1 hcn10 hk (hC.1.2.2.1 k hk)) ?_
      refine r_astore (pc := 5) (L' := [some (.ref 0), some (.int (nI k)), some (.int c), some (.int (bz (a = true))), some (.ref (tA k))]) dX9_law_5 (by decide) rfl rfl ?_
      refine r_aload (pc := 7) dX9_law_7 rfl ?_
      refine r_ifnullR (pc := 9) dX9_law_9 ?_
      refine r_iload_n (pc := 12) dX9_law_12 rfl ?_
      refine r_callS_P (pc := 13) (As := [.int c]) 136 dX9_law_13 lk_X9_isPrice (ml_RX9_136 rfl) sm_X9_isPrice (Nat.le_of_ble_eq_true rfl) rfl (isPrice_n hnoc) ?_
      refine r_if_ne_n (pc := 16) (a := 0) (tgt := 21) dX9_law_16 (by decide) (by omega) (fun c16 => ?_) (fun c16 => ?_)
      · exfalso; omega
      · skip
        refine r_iconst (pc := 19) (v := 0) dX9_law_19 (by decide) ?_
        refine r_ret_z (pc := 20) dX9_law_20 rfl (by decide) ?_
        exact ⟨_, rfl, I, G, rfl, by unfold fLaw; rw [atQ_s et, atQ_n ec] <;> rfl, by unfold fLaw; rw [atQ_s et, atQ_n ec]; exact hC, hFr.m, Geq.rf.gk⟩
  · skip
    refine r_aload_n (pc := 0) dX9_law_0 rfl ?_
    refine r_iload_n (pc := 1) dX9_law_1 rfl ?_
    refine r_callV_R (pc := 2) (b := 0) (As := [.int t]) 9 98 dX9_law_2 lk_X9_find (ml_RX9_98 rfl) im_X9_find se_X9_find (by decide) (c9_o h9) (Nat.le_of_ble_eq_true rfl) rfl (find_no hC.1.1 (by rw [hC.2.1.1]; exact hnot)) ?_
    refine r_astoreN (pc := 5) (L' := [some (.ref 0), some (.int t), some (.int c), some (.int (bz (a = true))), some (.null)]) dX9_law_5 (by decide) rfl rfl ?_
    refine r_aloadN (pc := 7) dX9_law_7 rfl ?_
    refine r_ifnullN (pc := 9) (tgt := 19) dX9_law_9 (by decide) ?_
    refine r_iconst (pc := 19) (v := 0) dX9_law_19 (by decide) ?_
    refine r_ret_z (pc := 20) dX9_law_20 rfl (by decide) ?_
    exact ⟨_, rfl, I, G, rfl, by unfold fLaw; rw [atQ_n et] <;> rfl, by unfold fLaw; rw [atQ_n et]; exact hC, hFr.m, Geq.rf.gk⟩

set_option maxHeartbeats 300000 in
set_option maxRecDepth 100000 in
theorem halve_c {d : Nat} {I : Im} {G : Gm} {s : Sta} (hC : Ci s I G) {t : Int32} {a : Bool} : Ct (d + 2) 0 0 YX9_halve [.ref 0, .int t, .int (bz (a = true))] (I, G) (qX (fun v M => PcQ (fHalve s t a).2 I G (fHalve s t a).1 v M)) := by
  refine Ct.of (by decide) (by simp [Value.category]) (Nat.le_of_ble_eq_true rfl) ?_
  have h9 := hC.1.1
  have hcn10 := hC.2.1.2.1
  have hFr : FrC I I := FrC.rf
  have hGk : Geq G G := Geq.rf
  show wp _ _ _ _ 0 [some (.ref 0), some (.int t), some (.int (bz (a = true))), none] [] _ _
  rcases in_cases (n := sN s) (by have := hcn10; omega) t with ⟨k, hk, rfl, et⟩ | ⟨et, hnot⟩
  · skip
    have h8 := hC.1.2.1 k (by omega)
    obtain ⟨hok, hTr⟩ := hC.ok hk
    have hn8 : dN (dK s k) ≤ 8 := hok.1.1.2
    have hoff := tA_off k
    have hE := src_of hok.1 (tdT (sD s k))
    have hW := wbc_of hok.1 (tdT (sD s k))
    have hc60 : ∀ b, dC (dK s k) b ≤ 60 := fun b => Nat.le_trans (hok.1.2.1 b) (by omega)
    have htc := trc_of hok.1 hTr.1 (tdT (sD s k))
    refine r_aload_n (pc := 0) dX9_halve_0 rfl ?_
    refine r_iload_n (pc := 1) dX9_halve_1 rfl ?_
    refine r_callV_R (pc := 2) (b := 0) (As := [.int (nI k)]) 9 98 dX9_halve_2 lk_X9_find (ml_RX9_98 rfl) im_X9_find se_X9_find (by decide) (c9_o h9) (Nat.le_of_ble_eq_true rfl) rfl (find_ct hC.1.1 hC.2.1.1 hcn10 hk (hC.1.2.2.1 k hk)) ?_
    refine r_astore_n (pc := 5) (L' := [some (.ref 0), some (.int (nI k)), some (.int (bz (a = true))), some (.ref (tA k))]) dX9_halve_5 (by decide) rfl rfl ?_
    refine r_aload_n (pc := 6) dX9_halve_6 rfl ?_
    refine r_ifnonnullR (pc := 7) (tgt := 12) dX9_halve_7 (by decide) ?_
    refine r_aload_n (pc := 12) dX9_halve_12 rfl ?_
    refine r_get1 (pc := 13) 8 7 143 dX9_halve_13 (fl_RX9_143 rfl) (by decide) rfl (c8_o h8) (c8_p7 h8) ?_
    refine r_iload_n (pc := 16) dX9_halve_16 rfl ?_
    refine r_putZ (pc := 17) (v := bz (a = true)) 7 3 159 dX9_halve_17 (fl_RX9_159 rfl) (by decide) rfl rfl (c7_o (c8_s7 h8)) (bz_01 _) ?_
    refine r_aload_n (pc := 20) dX9_halve_20 rfl ?_
    refine r_iconst (pc := 21) (v := 0) dX9_halve_21 (by decide) ?_
    refine r_putZ (pc := 22) (v := nI 0) 8 12 156 dX9_halve_22 (fl_RX9_156 rfl) (by decide) rfl rfl (c8_o h8) (by decide) ?_
    obtain ⟨Ia, hIa⟩ : ∃ zz0 : Im, zz0 = up2 (up2 I ((tA k) + 14) 3 (bz (a = true))) (tA k) 12 (nI 0) := ⟨_, rfl⟩
    refine wp_M (M2 := (Ia, G)) (by subst hIa; rfl) ?_
    have hC9 : Ci (sUp s k (xHalve (sD s k) a)) Ia G := hC.td hk rfl hok (hTr.halve (by rw [hIa]; exact (up2_rd (by omega)).trans up2_at) (by rw [hIa]; exact up2_at) (fun a j z1 z2 => by rw [hIa, up2_rd (by omega), up2_rd (by omega)])) (fun a j z => by rw [hIa, up2_rd (by omega), up2_rd (by omega)])
    have hFm : ∀ x j, 256 ≤ x → x ≤ 281 → Ia x j = I x j := fun x j h1 h2 => by rw [hIa, up2_rd (by omega), up2_rd (by omega)]
    refine r_iconst (pc := 25) (v := 1) dX9_halve_25 (by decide) ?_
    refine r_ret_z (pc := 26) dX9_halve_26 rfl (by decide) ?_
    exact ⟨_, rfl, Ia, G, rfl, by unfold fHalve; rw [atQ_s et] <;> rfl, by unfold fHalve; rw [atQ_s et]; exact hC9, hFm, Geq.rf.gk⟩
  · skip
    refine r_aload_n (pc := 0) dX9_halve_0 rfl ?_
    refine r_iload_n (pc := 1) dX9_halve_1 rfl ?_
    refine r_callV_R (pc := 2) (b := 0) (As := [.int t]) 9 98 dX9_halve_2 lk_X9_find (ml_RX9_98 rfl) im_X9_find se_X9_find (by decide) (c9_o h9) (Nat.le_of_ble_eq_true rfl) rfl (find_no hC.1.1 (by rw [hC.2.1.1]; exact hnot)) ?_
    refine r_astore_nN (pc := 5) (L' := [some (.ref 0), some (.int t), some (.int (bz (a = true))), some (.null)]) dX9_halve_5 (by decide) rfl rfl ?_
    refine r_aload_nN (pc := 6) dX9_halve_6 rfl ?_
    refine r_ifnonnullN (pc := 7) dX9_halve_7 ?_
    refine r_iconst (pc := 10) (v := 0) dX9_halve_10 (by decide) ?_
    refine r_ret_z (pc := 11) dX9_halve_11 rfl (by decide) ?_
    exact ⟨_, rfl, I, G, rfl, by unfold fHalve; rw [atQ_n et] <;> rfl, by unfold fHalve; rw [atQ_n et]; exact hC, hFr.m, Geq.rf.gk⟩

set_option maxHeartbeats 300000 in
set_option maxRecDepth 100000 in
theorem tell_c {d : Nat} {I : Im} {G : Gm} {s : Sta} (hC : Ci s I G) {t h p : Int32} {c : Bool} : Ct (d + 2) 0 0 YX9_tell [.ref 0, .int t, .int h, .int (bz (c = true)), .int p] (I, G) (qX (fun v M => PcQ (fTell s t h c p).2 I G (fTell s t h c p).1 v M)) := by
  refine Ct.of (by decide) (by simp [Value.category]) (Nat.le_of_ble_eq_true rfl) ?_
  have h9 := hC.1.1
  have hcn10 := hC.2.1.2.1
  have hFr : FrC I I := FrC.rf
  have hGk : Geq G G := Geq.rf
  show wp _ _ _ _ 0 [some (.ref 0), some (.int t), some (.int h), some (.int (bz (c = true))), some (.int p), none] [] _ _
  rcases in_cases (n := sN s) (by have := hcn10; omega) t with ⟨k, hk, rfl, et⟩ | ⟨et, hnot⟩
  · skip
    have h8 := hC.1.2.1 k (by omega)
    obtain ⟨hok, hTr⟩ := hC.ok hk
    have hn8 : dN (dK s k) ≤ 8 := hok.1.1.2
    have hoff := tA_off k
    have hE := src_of hok.1 (tdT (sD s k))
    have hW := wbc_of hok.1 (tdT (sD s k))
    have hc60 : ∀ b, dC (dK s k) b ≤ 60 := fun b => Nat.le_trans (hok.1.2.1 b) (by omega)
    have htc := trc_of hok.1 hTr.1 (tdT (sD s k))
    rcases in_cases (n := dN (dK s k)) (by have := hn8; omega) h with ⟨hn, hhn, rfl, eh⟩ | ⟨eh, hnoh⟩
    · skip
      rcases in_cases (n := 42) (by omega) p with ⟨pn, hpn, rfl, ep⟩ | ⟨ep, hnop⟩
      · skip
        refine r_aload_n (pc := 0) dX9_tell_0 rfl ?_
        refine r_iload_n (pc := 1) dX9_tell_1 rfl ?_
        refine r_callV_R (pc := 2) (b := 0) (As := [.int (nI k)]) 9 98 dX9_tell_2 lk_X9_find (ml_RX9_98 rfl) im_X9_find se_X9_find (by decide) (c9_o h9) (Nat.le_of_ble_eq_true rfl) rfl (find_ct hC.1.1 hC.2.1.1 hcn10 hk (hC.1.2.2.1 k hk)) ?_
        refine r_astore (pc := 5) (L' := [some (.ref 0), some (.int (nI k)), some (.int (nI hn)), some (.int (bz (c = true))), some (.int (nI pn)), some (.ref (tA k))]) dX9_tell_5 (by decide) rfl rfl ?_
        refine r_aload (pc := 7) dX9_tell_7 rfl ?_
        refine r_ifnullR (pc := 9) dX9_tell_9 ?_
        refine r_aload (pc := 12) dX9_tell_12 rfl ?_
        refine r_iload_n (pc := 14) dX9_tell_14 rfl ?_
        refine r_callV_P (pc := 15) (b := tA k) (As := [.int (nI hn)]) 8 102 dX9_tell_15 lk_X8_holds (ml_RX9_102 rfl) im_X8_holds se_X8_holds (by decide) (c8_o h8) (Nat.le_of_ble_eq_true rfl) rfl (holds_y h8 hTr.1.1 hn8 hhn) ?_
        refine r_if_eq_n (pc := 18) (a := 1) (tgt := 29) dX9_tell_18 (by decide) (by omega) (fun c18 => ?_) (fun c18 => ?_)
        · exfalso; omega
        · skip
          refine r_iload (pc := 21) dX9_tell_21 rfl ?_
          refine r_callS_P (pc := 23) (As := [.int (nI pn)]) 136 dX9_tell_23 lk_X9_isPrice (ml_RX9_136 rfl) sm_X9_isPrice (Nat.le_of_ble_eq_true rfl) rfl (isPrice_y hpn) ?_
          refine r_if_ne_n (pc := 26) (a := 1) (tgt := 31) dX9_tell_26 (by decide) (by omega) (fun c26 => ?_) (fun c26 => ?_)
          · skip
            refine r_iload_n (pc := 31) dX9_tell_31 rfl ?_
            refine r_if_eq_b (pc := 32) (tgt := 47) dX9_tell_32 (by decide) (fun c32 => ?_) (fun c32 => ?_)
            · skip
              refine r_aload (pc := 47) dX9_tell_47 rfl ?_
              refine r_get1 (pc := 49) 8 8 210 dX9_tell_49 (fl_RX9_210 rfl) (by decide) rfl (c8_o h8) (c8_p8 h8) ?_
              refine r_iload_n (pc := 52) dX9_tell_52 rfl ?_
              refine r_iload (pc := 53) dX9_tell_53 rfl ?_
              refine r_iast_n (pc := 55) (i := hn) (v := nI pn) dX9_tell_55 (c8_a8 h8) (by decide) (by omega) ?_
              obtain ⟨Ia, hIa⟩ : ∃ zz0 : Im, zz0 = up2 I ((tA k) + 15) hn (nI pn) := ⟨_, rfl⟩
              refine wp_M (M2 := (Ia, G)) (by subst hIa; rfl) ?_
              have hC9 : Ci (sUp s k (xPay (sD s k) hn pn)) Ia G := hC.td hk rfl (hok.p (by omega)) (hTr.pay (by rw [hIa]; exact up2_at) (fun a j z => by rw [hIa]; exact up2_rd (by omega))) (fun a j z => by rw [hIa]; exact up2_rd (by omega))
              have hFm : ∀ x j, 256 ≤ x → x ≤ 281 → Ia x j = I x j := fun x j h1 h2 => by rw [hIa]; exact up2_rd (by omega)
              refine r_iconst (pc := 56) (v := 1) dX9_tell_56 (by decide) ?_
              refine r_ret_z (pc := 57) dX9_tell_57 rfl (by decide) ?_
              first
                | exact ⟨_, rfl, Ia, G, rfl, by unfold fTell; rw [atQ_s et, atQ_s eh, atQ_s ep] <;> rfl, by unfold fTell; rw [atQ_s et, atQ_s eh, atQ_s ep, if_pos c32]; exact hC9, hFm, Geq.rf.gk⟩
                | exact ⟨_, rfl, Ia, G, rfl, by unfold fTell; rw [atQ_s et, atQ_s eh, atQ_s ep] <;> rfl, by unfold fTell; rw [atQ_s et, atQ_s eh, atQ_s ep, if_neg c32]; exact hC9, hFm, Geq.rf.gk⟩
            · skip
              refine r_aload (pc := 35) dX9_tell_35 rfl ?_
              refine r_get1 (pc := 37) 8 9 207 dX9_tell_37 (fl_RX9_207 rfl) (by decide) rfl (c8_o h8) (c8_p9 h8) ?_
              refine r_iload_n (pc := 40) dX9_tell_40 rfl ?_
              refine r_iload (pc := 41) dX9_tell_41 rfl ?_
              refine r_iast_n (pc := 43) (i := hn) (v := nI pn) dX9_tell_43 (c8_a9 h8) (by decide) (by omega) ?_
              obtain ⟨Ia, hIa⟩ : ∃ zz0 : Im, zz0 = up2 I ((tA k) + 16) hn (nI pn) := ⟨_, rfl⟩
              refine wp_M (M2 := (Ia, G)) (by subst hIa; rfl) ?_
              have hC9 : Ci (sUp s k (xAsk (sD s k) hn pn)) Ia G := hC.td hk rfl (hok.a (by omega)) (hTr.ask (by rw [hIa]; exact up2_at) (fun a j z => by rw [hIa]; exact up2_rd (by omega))) (fun a j z => by rw [hIa]; exact up2_rd (by omega))
              have hFm : ∀ x j, 256 ≤ x → x ≤ 281 → Ia x j = I x j := fun x j h1 h2 => by rw [hIa]; exact up2_rd (by omega)
              refine r_goto (pc := 44) (tgt := 56) dX9_tell_44 (by decide) ?_
              refine r_iconst (pc := 56) (v := 1) dX9_tell_56 (by decide) ?_
              refine r_ret_z (pc := 57) dX9_tell_57 rfl (by decide) ?_
              first
                | exact ⟨_, rfl, Ia, G, rfl, by unfold fTell; rw [atQ_s et, atQ_s eh, atQ_s ep] <;> rfl, by unfold fTell; rw [atQ_s et, atQ_s eh, atQ_s ep, if_pos c32]; exact hC9, hFm, Geq.rf.gk⟩
                | exact ⟨_, rfl, Ia, G, rfl, by unfold fTell; rw [atQ_s et, atQ_s eh, atQ_s ep] <;> rfl, by unfold fTell; rw [atQ_s et, atQ_s eh, atQ_s ep, if_neg c32]; exact hC9, hFm, Geq.rf.gk⟩
          · exfalso; omega
      · skip
        refine r_aload_n (pc := 0) dX9_tell_0 rfl ?_
        refine r_iload_n (pc := 1) dX9_tell_1 rfl ?_
        refine r_callV_R (pc := 2) (b := 0) (As := [.int (nI k)]) 9 98 dX9_tell_2 lk_X9_find (ml_RX9_98 rfl) im_X9_find se_X9_find (by decide) (c9_o h9) (Nat.le_of_ble_eq_true rfl) rfl (find_ct hC.1.1 hC.2.1.1 hcn10 hk (hC.1.2.2.1 k hk)) ?_
        refine r_astore (pc := 5) (L' := [some (.ref 0), some (.int (nI k)), some (.int (nI hn)), some (.int (bz (c = true))), some (.int p), some (.ref (tA k))]) dX9_tell_5 (by decide) rfl rfl ?_
        refine r_aload (pc := 7) dX9_tell_7 rfl ?_
        refine r_ifnullR (pc := 9) dX9_tell_9 ?_
        refine r_aload (pc := 12) dX9_tell_12 rfl ?_
        refine r_iload_n (pc := 14) dX9_tell_14 rfl ?_
        refine r_callV_P (pc := 15) (b := tA k) (As := [.int (nI hn)]) 8 102 dX9_tell_15 lk_X8_holds (ml_RX9_102 rfl) im_X8_holds se_X8_holds (by decide) (c8_o h8) (Nat.le_of_ble_eq_true rfl) rfl (holds_y h8 hTr.1.1 hn8 hhn) ?_
        refine r_if_eq_n (pc := 18) (a := 1) (tgt := 29) dX9_tell_18 (by decide) (by omega) (fun c18 => ?_) (fun c18 => ?_)
        · exfalso; omega
        · skip
          refine r_iload (pc := 21) dX9_tell_21 rfl ?_
          refine r_callS_P (pc := 23) (As := [.int p]) 136 dX9_tell_23 lk_X9_isPrice (ml_RX9_136 rfl) sm_X9_isPrice (Nat.le_of_ble_eq_true rfl) rfl (isPrice_n hnop) ?_
          refine r_if_ne_n (pc := 26) (a := 0) (tgt := 31) dX9_tell_26 (by decide) (by omega) (fun c26 => ?_) (fun c26 => ?_)
          · exfalso; omega
          · skip
            refine r_iconst (pc := 29) (v := 0) dX9_tell_29 (by decide) ?_
            refine r_ret_z (pc := 30) dX9_tell_30 rfl (by decide) ?_
            exact ⟨_, rfl, I, G, rfl, by unfold fTell; rw [atQ_s et, atQ_s eh, atQ_n ep] <;> rfl, by unfold fTell; rw [atQ_s et, atQ_s eh, atQ_n ep]; exact hC, hFr.m, Geq.rf.gk⟩
    · skip
      refine r_aload_n (pc := 0) dX9_tell_0 rfl ?_
      refine r_iload_n (pc := 1) dX9_tell_1 rfl ?_
      refine r_callV_R (pc := 2) (b := 0) (As := [.int (nI k)]) 9 98 dX9_tell_2 lk_X9_find (ml_RX9_98 rfl) im_X9_find se_X9_find (by decide) (c9_o h9) (Nat.le_of_ble_eq_true rfl) rfl (find_ct hC.1.1 hC.2.1.1 hcn10 hk (hC.1.2.2.1 k hk)) ?_
      refine r_astore (pc := 5) (L' := [some (.ref 0), some (.int (nI k)), some (.int h), some (.int (bz (c = true))), some (.int p), some (.ref (tA k))]) dX9_tell_5 (by decide) rfl rfl ?_
      refine r_aload (pc := 7) dX9_tell_7 rfl ?_
      refine r_ifnullR (pc := 9) dX9_tell_9 ?_
      refine r_aload (pc := 12) dX9_tell_12 rfl ?_
      refine r_iload_n (pc := 14) dX9_tell_14 rfl ?_
      refine r_callV_P (pc := 15) (b := tA k) (As := [.int h]) 8 102 dX9_tell_15 lk_X8_holds (ml_RX9_102 rfl) im_X8_holds se_X8_holds (by decide) (c8_o h8) (Nat.le_of_ble_eq_true rfl) rfl (holds_n h8 hTr.1.1 hnoh) ?_
      refine r_if_eq_n (pc := 18) (a := 0) (tgt := 29) dX9_tell_18 (by decide) (by omega) (fun c18 => ?_) (fun c18 => ?_)
      · skip
        refine r_iconst (pc := 29) (v := 0) dX9_tell_29 (by decide) ?_
        refine r_ret_z (pc := 30) dX9_tell_30 rfl (by decide) ?_
        exact ⟨_, rfl, I, G, rfl, by unfold fTell; rw [atQ_s et, atQ_n eh] <;> rfl, by unfold fTell; rw [atQ_s et, atQ_n eh]; exact hC, hFr.m, Geq.rf.gk⟩
      · exfalso; omega
  · skip
    refine r_aload_n (pc := 0) dX9_tell_0 rfl ?_
    refine r_iload_n (pc := 1) dX9_tell_1 rfl ?_
    refine r_callV_R (pc := 2) (b := 0) (As := [.int t]) 9 98 dX9_tell_2 lk_X9_find (ml_RX9_98 rfl) im_X9_find se_X9_find (by decide) (c9_o h9) (Nat.le_of_ble_eq_true rfl) rfl (find_no hC.1.1 (by rw [hC.2.1.1]; exact hnot)) ?_
    refine r_astoreN (pc := 5) (L' := [some (.ref 0), some (.int t), some (.int h), some (.int (bz (c = true))), some (.int p), some (.null)]) dX9_tell_5 (by decide) rfl rfl ?_
    refine r_aloadN (pc := 7) dX9_tell_7 rfl ?_
    refine r_ifnullN (pc := 9) (tgt := 29) dX9_tell_9 (by decide) ?_
    refine r_iconst (pc := 29) (v := 0) dX9_tell_29 (by decide) ?_
    refine r_ret_z (pc := 30) dX9_tell_30 rfl (by decide) ?_
    exact ⟨_, rfl, I, G, rfl, by unfold fTell; rw [atQ_n et] <;> rfl, by unfold fTell; rw [atQ_n et]; exact hC, hFr.m, Geq.rf.gk⟩

def fEnd (s : Sta) (n : Int32) : Int32 × Sta := atQ ((sT s).1 + 1) n (0, s) fun n => (1, sTp s (n, (sT s).2))
def aFault (s : Sta) : Int32 := match pA (sT s) with
  | .inl f => nI f
  | .inr _ => -1
def fFeed (s : Sta) (a b c d e : Int32) : Int32 × Sta := if (sT s).1 + (bnF a 4 + bnF b 4 + bnF c 4 + bnF d 4 + bnF e 4) ≤ 300 then (nI (puF (puF (puF (puF (puF (sT s) a 4) b 4) c 4) d 4) e 4).1, sTp s (puF (puF (puF (puF (puF (sT s) a 4) b 4) c 4) d 4) e 4)) else (-1, s)
theorem sTp_self (s : Sta) : sTp s (sT s) = s := rfl

set_option maxHeartbeats 300000 in
set_option maxRecDepth 100000 in
theorem end_c {d : Nat} {I : Im} {G : Gm} {s : Sta} (hC : Ci s I G) {n : Int32} : Ct (d + 1) 0 0 YX9_end [.ref 0, .int n] (I, G) (qX (fun v M => PcQ (fEnd s n).2 I G (fEnd s n).1 v M)) := by
  refine Ct.of (by decide) (by simp [Value.category]) (Nat.le_of_ble_eq_true rfl) ?_
  have h9 := hC.1.1
  have hcn10 := hC.2.1.2.1
  have hFr : FrC I I := FrC.rf
  have hGk : Geq G G := Geq.rf
  show wp _ _ _ _ 0 [some (.ref 0), some (.int n)] [] _ _
  rcases in_cases (n := (sT s).1 + 1) (by have := hC.2.1.2.2.1.2.1; omega) n with ⟨nn, hnn, rfl, en⟩ | ⟨en, hnon⟩
  · skip
    refine r_iload_n (pc := 0) dX9_end_0 rfl ?_
    refine r_if_lt_n (pc := 1) (a := nn) (tgt := 15) dX9_end_1 (by decide) (by have := hC.2.1.2.2.1.2.1; omega) ?_
    refine r_iload_n (pc := 4) dX9_end_4 rfl ?_
    refine r_aload_n (pc := 5) dX9_end_5 rfl ?_
    refine r_get1 (pc := 6) 9 0 12 dX9_end_6 (fl_RX9_12 rfl) (by decide) rfl (c9_o h9) (c9_p0 h9) ?_
    refine r_getIv (pc := 9) 6 1 87 dX9_end_9 (fl_RX9_87 rfl) (by decide) rfl (c6_o (c9_s0 h9)) (v := nI ((sT s).1)) (hC.2.1.2.2.1.1) ?_
    refine r_icmp_le_n (pc := 12) (a := nn) (b := (sT s).1) (tgt := 17) dX9_end_12 (by decide) (by have := hC.2.1.2.2.1.2.1; omega) (by have := hC.2.1.2.2.1.2.1; omega) (fun c12 => ?_) (fun c12 => ?_)
    · skip
      refine r_aload_n (pc := 17) dX9_end_17 rfl ?_
      refine r_get1 (pc := 18) 9 0 12 dX9_end_18 (fl_RX9_12 rfl) (by decide) rfl (c9_o h9) (c9_p0 h9) ?_
      refine r_iload_n (pc := 21) dX9_end_21 rfl ?_
      refine r_putI (pc := 22) (v := nI nn) 6 1 87 dX9_end_22 (fl_RX9_87 rfl) (by decide) rfl rfl (c6_o (c9_s0 h9)) ?_
      obtain ⟨Ia, hIa⟩ : ∃ zz0 : Im, zz0 = up2 I 1 1 (nI nn) := ⟨_, rfl⟩
      refine wp_M (M2 := (Ia, G)) (by subst hIa; rfl) ?_
      have htp := hC.2.1.2.2.1
      have hoff := tA_off (sN s)
      have hC9 : Ci (sTp s (nn, (sT s).2)) Ia G := hC.tp ⟨by rw [hIa]; exact up2_at, by have := htp.2.1; show nn ≤ 300; omega, fun i hi => by rw [hIa, up2_rd (by omega)]; exact htp.2.2.1 i (by have hi : i < nn := hi; omega), htp.2.2.2⟩ (hC.2.1.2.2.2.2.1.keep (fun a j z => by rw [hIa]; exact up2_rd (by omega))) (fun a j z1 z2 => by rw [hIa]; exact up2_rd (by omega))
      have hFm : ∀ x j, 256 ≤ x → x ≤ 281 → Ia x j = I x j := fun x j h1 h2 => by rw [hIa]; exact up2_rd (by omega)
      refine r_iconst (pc := 25) (v := 1) dX9_end_25 (by decide) ?_
      refine r_ret_z (pc := 26) dX9_end_26 rfl (by decide) ?_
      exact ⟨_, rfl, Ia, G, rfl, by unfold fEnd; rw [atQ_s en] <;> rfl, by unfold fEnd; rw [atQ_s en]; exact hC9, hFm, Geq.rf.gk⟩
    · exfalso; omega
  · skip
    refine r_iload_n (pc := 0) dX9_end_0 rfl ?_
    refine r_if_lt (pc := 1) (x := n) (tgt := 15) dX9_end_1 (by decide) (fun c1 => ?_) (fun c1 => ?_)
    · skip
      refine r_iconst (pc := 15) (v := 0) dX9_end_15 (by decide) ?_
      refine r_ret_z (pc := 16) dX9_end_16 rfl (by decide) ?_
      exact ⟨_, rfl, I, G, rfl, by unfold fEnd; rw [atQ_n en] <;> rfl, by unfold fEnd; rw [atQ_n en]; exact hC, hFr.m, Geq.rf.gk⟩
    · skip
      refine r_iload_n (pc := 4) dX9_end_4 rfl ?_
      refine r_aload_n (pc := 5) dX9_end_5 rfl ?_
      refine r_get1 (pc := 6) 9 0 12 dX9_end_6 (fl_RX9_12 rfl) (by decide) rfl (c9_o h9) (c9_p0 h9) ?_
      refine r_getIv (pc := 9) 6 1 87 dX9_end_9 (fl_RX9_87 rfl) (by decide) rfl (c6_o (c9_s0 h9)) (v := nI ((sT s).1)) (hC.2.1.2.2.1.1) ?_
      refine r_icmp_le (pc := 12) (x := n) (z := nI ((sT s).1)) (tgt := 17) dX9_end_12 (by decide) (fun c12 => ?_) (fun c12 => ?_)
      · exfalso; have := hC.2.1.2.2.1.2.1; exact rg_no (n := (sT s).1) (by omega) hnon c1 c12
      · skip
        refine r_iconst (pc := 15) (v := 0) dX9_end_15 (by decide) ?_
        refine r_ret_z (pc := 16) dX9_end_16 rfl (by decide) ?_
        exact ⟨_, rfl, I, G, rfl, by unfold fEnd; rw [atQ_n en] <;> rfl, by unfold fEnd; rw [atQ_n en]; exact hC, hFr.m, Geq.rf.gk⟩

set_option maxHeartbeats 300000 in
set_option maxRecDepth 100000 in
theorem fault_c {d : Nat} {I : Im} {G : Gm} {s : Sta} (hC : Ci s I G) : Ct (d + 6) 0 0 YX9_fault [.ref 0] (I, G) (qX (PcQ s I G (aFault s))) := by
  refine Ct.of (by decide) (by simp [Value.category]) (Nat.le_of_ble_eq_true rfl) ?_
  have h9 := hC.1.1
  have hcn10 := hC.2.1.2.1
  have hFr : FrC I I := FrC.rf
  have hGk : Geq G G := Geq.rf
  have hd8 := hC.1.2.1 (sN s) (Nat.le_refl _)
  have hoff := tA_off (sN s)
  show wp _ _ _ _ 0 [some (.ref 0)] [] _ _
  refine r_aload_n (pc := 0) dX9_fault_0 rfl ?_
  refine r_get1 (pc := 1) 9 0 12 dX9_fault_1 (fl_RX9_12 rfl) (by decide) rfl (c9_o h9) (c9_p0 h9) ?_
  refine r_aload_n (pc := 4) dX9_fault_4 rfl ?_
  refine r_getR (pc := 5) 9 3 27 dX9_fault_5 (fl_RX9_27 rfl) (by decide) rfl (c9_o h9) (x := some (tA (sN s))) (hC.1.2.2.2) ?_
  refine r_callV_M (pc := 8) (b := 1) (As := [.ref (tA (sN s))]) 6 94 dX9_fault_8 lk_X6_read (ml_RX9_94 rfl) im_X6_read se_X6_read (by decide) (c6_o (c9_s0 h9)) (Nat.le_of_ble_eq_true rfl) rfl (read_ct (c9_s0 h9) hd8 (by omega) hC.2.1.2.2.1) (fun v8 Ia hIa => ?_)
  obtain ⟨hrd, hfa⟩ := hIa
  have hC9 : Ci s Ia G := hC.tp (T := sT s) (hC.2.1.2.2.1.keepS hfa (by omega)) (hC.2.1.2.2.2.2.1.keep (fun a j z => hfa a j (by omega) (by omega))) (fun a j z1 z2 => hfa a j (by omega) (by omega))
  have hFm : ∀ x j, 256 ≤ x → x ≤ 281 → Ia x j = I x j := fun x j h1 h2 => hfa x j (by omega) (by omega)
  refine r_ret_i (pc := 11) dX9_fault_11 rfl ?_
  refine ⟨_, rfl, Ia, G, rfl, ?_, hC9, hFm, Geq.rf.gk⟩
  unfold aFault
  rcases hrd with ⟨f, h1, h2, _⟩ | ⟨D, h1, h2, _⟩
  · rw [h1]; exact h2
  · rw [h1]; exact h2

set_option maxHeartbeats 300000 in
set_option maxRecDepth 100000 in
theorem feed_c {d : Nat} {I : Im} {G : Gm} {s : Sta} (hC : Ci s I G) {a b c d1 e : Int32} : Ct (d + 2) 0 0 YX9_feed [.ref 0, .int a, .int b, .int c, .int d1, .int e] (I, G) (qX (fun v M => PcQ (fFeed s a b c d1 e).2 I G (fFeed s a b c d1 e).1 v M)) := by
  refine Ct.of (by decide) (by simp [Value.category]) (Nat.le_of_ble_eq_true rfl) ?_
  have h9 := hC.1.1
  have hcn10 := hC.2.1.2.1
  have hFr : FrC I I := FrC.rf
  have hGk : Geq G G := Geq.rf
  have hT0 := hC.2.1.2.2.1
  have hoff := tA_off (sN s)
  show wp _ _ _ _ 0 [some (.ref 0), some (.int a), some (.int b), some (.int c), some (.int d1), some (.int e), none] [] _ _
  refine r_iload_n (pc := 0) dX9_feed_0 rfl ?_
  refine r_callS_P (pc := 1) (As := [.int a]) 83 dX9_feed_1 lk_X6_bytesIn (ml_RX9_83 rfl) sm_X6_bytesIn (Nat.le_of_ble_eq_true rfl) rfl (bytesIn_ct) ?_
  refine r_iload_n (pc := 4) dX9_feed_4 rfl ?_
  refine r_callS_P (pc := 5) (As := [.int b]) 83 dX9_feed_5 lk_X6_bytesIn (ml_RX9_83 rfl) sm_X6_bytesIn (Nat.le_of_ble_eq_true rfl) rfl (bytesIn_ct) ?_
  refine r_iadd_n (pc := 8) (a := bnF a 4) (b := bnF b 4) dX9_feed_8 ?_
  refine r_iload_n (pc := 9) dX9_feed_9 rfl ?_
  refine r_callS_P (pc := 10) (As := [.int c]) 83 dX9_feed_10 lk_X6_bytesIn (ml_RX9_83 rfl) sm_X6_bytesIn (Nat.le_of_ble_eq_true rfl) rfl (bytesIn_ct) ?_
  refine r_iadd_n (pc := 13) (a := (bnF a 4) + (bnF b 4)) (b := bnF c 4) dX9_feed_13 ?_
  refine r_iload (pc := 14) dX9_feed_14 rfl ?_
  refine r_callS_P (pc := 16) (As := [.int d1]) 83 dX9_feed_16 lk_X6_bytesIn (ml_RX9_83 rfl) sm_X6_bytesIn (Nat.le_of_ble_eq_true rfl) rfl (bytesIn_ct) ?_
  refine r_iadd_n (pc := 19) (a := ((bnF a 4) + (bnF b 4)) + (bnF c 4)) (b := bnF d1 4) dX9_feed_19 ?_
  refine r_iload (pc := 20) dX9_feed_20 rfl ?_
  refine r_callS_P (pc := 22) (As := [.int e]) 83 dX9_feed_22 lk_X6_bytesIn (ml_RX9_83 rfl) sm_X6_bytesIn (Nat.le_of_ble_eq_true rfl) rfl (bytesIn_ct) ?_
  refine r_iadd_n (pc := 25) (a := (((bnF a 4) + (bnF b 4)) + (bnF c 4)) + (bnF d1 4)) (b := bnF e 4) dX9_feed_25 ?_
  refine r_istore (pc := 26) (L' := [some (.ref 0), some (.int a), some (.int b), some (.int c), some (.int d1), some (.int e), some (.int (nI (((((bnF a 4) + (bnF b 4)) + (bnF c 4)) + (bnF d1 4)) + (bnF e 4))))]) dX9_feed_26 (by decide) rfl rfl ?_
  refine r_aload_n (pc := 28) dX9_feed_28 rfl ?_
  refine r_get1 (pc := 29) 9 0 12 dX9_feed_29 (fl_RX9_12 rfl) (by decide) rfl (c9_o h9) (c9_p0 h9) ?_
  refine r_getIv (pc := 32) 6 1 87 dX9_feed_32 (fl_RX9_87 rfl) (by decide) rfl (c6_o (c9_s0 h9)) (v := nI ((sT s).1)) (hT0.1) ?_
  refine r_iload (pc := 35) dX9_feed_35 rfl ?_
  refine r_iadd_n (pc := 37) (a := (sT s).1) (b := ((((bnF a 4) + (bnF b 4)) + (bnF c 4)) + (bnF d1 4)) + (bnF e 4)) dX9_feed_37 ?_
  refine r_sipush (pc := 38) (v := 300) dX9_feed_38 (by decide) ?_
  refine r_icmp_le_n (pc := 41) (a := ((sT s).1) + (((((bnF a 4) + (bnF b 4)) + (bnF c 4)) + (bnF d1 4)) + (bnF e 4))) (b := 300) (tgt := 46) dX9_feed_41 (by decide) (by have := hT0.2.1; have := bnF_le a 4; have := bnF_le b 4; have := bnF_le c 4; have := bnF_le d1 4; have := bnF_le e 4; omega) (by have := hT0.2.1; have := bnF_le a 4; have := bnF_le b 4; have := bnF_le c 4; have := bnF_le d1 4; have := bnF_le e 4; omega) (fun c41 => ?_) (fun c41 => ?_)
  · skip
    refine r_aload_n (pc := 46) dX9_feed_46 rfl ?_
    refine r_get1 (pc := 47) 9 0 12 dX9_feed_47 (fl_RX9_12 rfl) (by decide) rfl (c9_o h9) (c9_p0 h9) ?_
    refine r_iload_n (pc := 50) dX9_feed_50 rfl ?_
    refine r_callV_V (pc := 51) (b := 1) (As := [.int a]) 6 90 dX9_feed_51 lk_X6_put (ml_RX9_90 rfl) im_X6_put se_X6_put (by decide) (c6_o (c9_s0 h9)) (Nat.le_of_ble_eq_true rfl) rfl (put_ct (c9_s0 h9) hT0 (by first | omega | (simp only [puF_len]; omega))) (fun J1 hJ1 => ?_)
    obtain ⟨hT1, hf1⟩ := hJ1
    have hg1 : ∀ c j, ¬ (c = 1 ∨ c = 2) → J1 c j = I c j := fun c j z => (hf1 c j (by omega) (by omega)).trans (rfl)
    refine r_aload_n (pc := 54) dX9_feed_54 rfl ?_
    refine r_get1 (pc := 55) 9 0 12 dX9_feed_55 (fl_RX9_12 rfl) (by decide) rfl (c9_o h9) (c9_p0 h9) ?_
    refine r_iload_n (pc := 58) dX9_feed_58 rfl ?_
    refine r_callV_V (pc := 59) (b := 1) (As := [.int b]) 6 90 dX9_feed_59 lk_X6_put (ml_RX9_90 rfl) im_X6_put se_X6_put (by decide) (c6_o (c9_s0 h9)) (Nat.le_of_ble_eq_true rfl) rfl (put_ct (c9_s0 h9) hT1 (by first | omega | (simp only [puF_len]; omega))) (fun J2 hJ2 => ?_)
    obtain ⟨hT2, hf2⟩ := hJ2
    have hg2 : ∀ c j, ¬ (c = 1 ∨ c = 2) → J2 c j = I c j := fun c j z => (hf2 c j (by omega) (by omega)).trans (hg1 c j z)
    refine r_aload_n (pc := 62) dX9_feed_62 rfl ?_
    refine r_get1 (pc := 63) 9 0 12 dX9_feed_63 (fl_RX9_12 rfl) (by decide) rfl (c9_o h9) (c9_p0 h9) ?_
    refine r_iload_n (pc := 66) dX9_feed_66 rfl ?_
    refine r_callV_V (pc := 67) (b := 1) (As := [.int c]) 6 90 dX9_feed_67 lk_X6_put (ml_RX9_90 rfl) im_X6_put se_X6_put (by decide) (c6_o (c9_s0 h9)) (Nat.le_of_ble_eq_true rfl) rfl (put_ct (c9_s0 h9) hT2 (by first | omega | (simp only [puF_len]; omega))) (fun J3 hJ3 => ?_)
    obtain ⟨hT3, hf3⟩ := hJ3
    have hg3 : ∀ c j, ¬ (c = 1 ∨ c = 2) → J3 c j = I c j := fun c j z => (hf3 c j (by omega) (by omega)).trans (hg2 c j z)
    refine r_aload_n (pc := 70) dX9_feed_70 rfl ?_
    refine r_get1 (pc := 71) 9 0 12 dX9_feed_71 (fl_RX9_12 rfl) (by decide) rfl (c9_o h9) (c9_p0 h9) ?_
    refine r_iload (pc := 74) dX9_feed_74 rfl ?_
    refine r_callV_V (pc := 76) (b := 1) (As := [.int d1]) 6 90 dX9_feed_76 lk_X6_put (ml_RX9_90 rfl) im_X6_put se_X6_put (by decide) (c6_o (c9_s0 h9)) (Nat.le_of_ble_eq_true rfl) rfl (put_ct (c9_s0 h9) hT3 (by first | omega | (simp only [puF_len]; omega))) (fun J4 hJ4 => ?_)
    obtain ⟨hT4, hf4⟩ := hJ4
    have hg4 : ∀ c j, ¬ (c = 1 ∨ c = 2) → J4 c j = I c j := fun c j z => (hf4 c j (by omega) (by omega)).trans (hg3 c j z)
    refine r_aload_n (pc := 79) dX9_feed_79 rfl ?_
    refine r_get1 (pc := 80) 9 0 12 dX9_feed_80 (fl_RX9_12 rfl) (by decide) rfl (c9_o h9) (c9_p0 h9) ?_
    refine r_iload (pc := 83) dX9_feed_83 rfl ?_
    refine r_callV_V (pc := 85) (b := 1) (As := [.int e]) 6 90 dX9_feed_85 lk_X6_put (ml_RX9_90 rfl) im_X6_put se_X6_put (by decide) (c6_o (c9_s0 h9)) (Nat.le_of_ble_eq_true rfl) rfl (put_ct (c9_s0 h9) hT4 (by first | omega | (simp only [puF_len]; omega))) (fun J5 hJ5 => ?_)
    obtain ⟨hT5, hf5⟩ := hJ5
    have hg5 : ∀ c j, ¬ (c = 1 ∨ c = 2) → J5 c j = I c j := fun c j z => (hf5 c j (by omega) (by omega)).trans (hg4 c j z)
    refine r_aload_n (pc := 88) dX9_feed_88 rfl ?_
    refine r_get1 (pc := 89) 9 0 12 dX9_feed_89 (fl_RX9_12 rfl) (by decide) rfl (c9_o h9) (c9_p0 h9) ?_
    refine r_getIv (pc := 92) 6 1 87 dX9_feed_92 (fl_RX9_87 rfl) (by decide) rfl (c6_o (c9_s0 h9)) (v := nI ((puF (puF (puF (puF (puF (sT s) a 4) b 4) c 4) d1 4) e 4).1)) (hT5.1) ?_
    refine r_ret_i (pc := 95) dX9_feed_95 rfl ?_
    have e9 : fFeed s a b c d1 e = (nI (puF (puF (puF (puF (puF (sT s) a 4) b 4) c 4) d1 4) e 4).1, sTp s (puF (puF (puF (puF (puF (sT s) a 4) b 4) c 4) d1 4) e 4)) := if_pos (by omega)
    refine ⟨_, rfl, J5, G, rfl, by rw [e9], ?_, fun x j h1 h2 => hg5 x j (by omega), Geq.rf.gk⟩
    rw [e9]
    exact hC.tp hT5 (hC.2.1.2.2.2.2.1.keep (fun a j z => hg5 a j (by omega))) (fun a j z1 z2 => hg5 a j z1)
  · skip
    refine r_iconst (pc := 44) (v := -1) dX9_feed_44 (by decide) ?_
    refine r_ret_i (pc := 45) dX9_feed_45 rfl ?_
    have e9 : fFeed s a b c d1 e = (-1, s) := if_neg (by omega)
    exact ⟨_, rfl, I, G, rfl, by rw [e9], by rw [e9]; exact hC, hFr.m, Geq.rf.gk⟩
