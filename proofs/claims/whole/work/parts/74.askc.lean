/-! ===== the class: questions ===== -/
theorem six {P : Nat → Prop} (h0 : P 0) (h1 : P 1) (h2 : P 2) (h3 : P 3) (h4 : P 4) (h5 : P 5) : ∀ j, j < 6 → P j := fun j hj => match j, hj with
  | 0, _ => h0
  | 1, _ => h1
  | 2, _ => h2
  | 3, _ => h3
  | 4, _ => h4
  | 5, _ => h5
theorem allHouses_y {d : Nat} {I : Im} {G : Gm} {t : Nat} {D : Dr} (ht : isC8 G t) (hn : I t 0 = nI (dN D)) : Ct (d + 1) 0 0 YX8_allHouses [.ref t] (I, G) (qP (allJ D) (I, G)) := by
  have g := allHouses_ct (d := d) (I := I) ht
  rw [hn] at g
  exact g
theorem setTm_at {I : Im} {a j : Nat} {v : Nat → Int32} (hj : j < 6) : setTm I a v a j = v j := if_pos ⟨rfl, hj⟩
theorem setTm_o {I : Im} {a b j : Nat} {v : Nat → Int32} (h : b ≠ a) : setTm I a v b j = I b j := if_neg (fun z => h z.1)

set_option maxRecDepth 100000 in
theorem houses_c {d : Nat} {I : Im} {G : Gm} {s : Sta} (hC : Ci s I G) {t : Int32} : Ct (d + 2) 0 0 YX9_houses [.ref 0, .int t] (I, G) (qX (PcQ s I G (aHouses s t))) := by
  refine Ct.of (by decide) (by simp [Value.category]) (Nat.le_of_ble_eq_true rfl) ?_
  have h9 := hC.1.1
  have hcn10 := hC.2.1.2.1
  have hFr : FrC I I := FrC.rf
  have hGk : Geq G G := Geq.rf
  show wp _ _ _ _ 0 [some (.ref 0), some (.int t), none] [] _ _
  rcases in_cases (n := sN s) (by have := hcn10; omega) t with ⟨k, hk, rfl, et⟩ | ⟨et, hnot⟩
  · skip
    have h8 := hC.1.2.1 k (by omega)
    obtain ⟨hok, hTr⟩ := hC.ok hk
    have hn8 : dN (dK s k) ≤ 8 := hok.1.1.2
    have hoff := tA_off k
    have hE := src_of hok.1 (tdT (sD s k))
    have hW := wbc_of hok.1 (tdT (sD s k))
    have hc60 : ∀ b, dC (dK s k) b ≤ 60 := fun b => Nat.le_trans (hok.1.2.1 b) (by omega)
    have htc := trc_of hok.1 hTr.1 (tdT (sD s k))
    refine r_aload_n (pc := 0) dX9_houses_0 rfl ?_
    refine r_iload_n (pc := 1) dX9_houses_1 rfl ?_
    refine r_callV_R (pc := 2) (b := 0) (As := [.int (nI k)]) 9 98 dX9_houses_2 lk_X9_find (ml_RX9_98 rfl) im_X9_find se_X9_find (by decide) (c9_o h9) (Nat.le_of_ble_eq_true rfl) rfl (find_ct hC.1.1 hC.2.1.1 hcn10 hk (hC.1.2.2.1 k hk)) ?_
    refine r_astore_n (pc := 5) (L' := [some (.ref 0), some (.int (nI k)), some (.ref (tA k))]) dX9_houses_5 (by decide) rfl rfl ?_
    refine r_aload_n (pc := 6) dX9_houses_6 rfl ?_
    refine r_ifnonnullR (pc := 7) (tgt := 14) dX9_houses_7 (by decide) ?_
    refine r_aload_n (pc := 14) dX9_houses_14 rfl ?_
    refine r_getIv (pc := 15) 8 0 133 dX9_houses_15 (fl_RX9_133 rfl) (by decide) rfl (c8_o h8) (v := nI (dN (dK s k))) (hTr.1.1) ?_
    refine r_ret_i (pc := 18) dX9_houses_18 rfl ?_
    exact ⟨_, rfl, I, G, rfl, (by unfold aHouses; rw [atN_s et] <;> rfl), hC, hFr.m, hGk.gk⟩
  · skip
    refine r_aload_n (pc := 0) dX9_houses_0 rfl ?_
    refine r_iload_n (pc := 1) dX9_houses_1 rfl ?_
    refine r_callV_R (pc := 2) (b := 0) (As := [.int t]) 9 98 dX9_houses_2 lk_X9_find (ml_RX9_98 rfl) im_X9_find se_X9_find (by decide) (c9_o h9) (Nat.le_of_ble_eq_true rfl) rfl (find_no hC.1.1 (by rw [hC.2.1.1]; exact hnot)) ?_
    refine r_astore_nN (pc := 5) (L' := [some (.ref 0), some (.int t), some (.null)]) dX9_houses_5 (by decide) rfl rfl ?_
    refine r_aload_nN (pc := 6) dX9_houses_6 rfl ?_
    refine r_ifnonnullN (pc := 7) dX9_houses_7 ?_
    refine r_iconst (pc := 10) (v := -1) dX9_houses_10 (by decide) ?_
    refine r_goto (pc := 11) (tgt := 18) dX9_houses_11 (by decide) ?_
    refine r_ret_i (pc := 18) dX9_houses_18 rfl ?_
    exact ⟨_, rfl, I, G, rfl, (by unfold aHouses; rw [atN_n et] <;> rfl), hC, hFr.m, hGk.gk⟩

set_option maxRecDepth 100000 in
theorem want_c {d : Nat} {I : Im} {G : Gm} {s : Sta} (hC : Ci s I G) {t : Int32} {h : Int32} {p : Int32} : Ct (d + 3) 0 0 YX9_want [.ref 0, .int t, .int h, .int p] (I, G) (qX (PcQ s I G (aWant s t h p))) := by
  refine Ct.of (by decide) (by simp [Value.category]) (Nat.le_of_ble_eq_true rfl) ?_
  have h9 := hC.1.1
  have hcn10 := hC.2.1.2.1
  have hFr : FrC I I := FrC.rf
  have hGk : Geq G G := Geq.rf
  show wp _ _ _ _ 0 [some (.ref 0), some (.int t), some (.int h), some (.int p), none] [] _ _
  rcases in_cases (n := sN s) (by have := hcn10; omega) t with ⟨k, hk, rfl, et⟩ | ⟨et, hnot⟩
  · skip
    have h8 := hC.1.2.1 k (by omega)
    obtain ⟨hok, hTr⟩ := hC.ok hk
    have hn8 : dN (dK s k) ≤ 8 := hok.1.1.2
    have hoff := tA_off k
    have hE := src_of hok.1 (tdT (sD s k))
    have hW := wbc_of hok.1 (tdT (sD s k))
    have hc60 : ∀ b, dC (dK s k) b ≤ 60 := fun b => Nat.le_trans (hok.1.2.1 b) (by omega)
    have htc := trc_of hok.1 hTr.1 (tdT (sD s k))
    rcases in_cases (n := dN (dK s k)) (by have := hn8; omega) h with ⟨hn, hhn, rfl, eh⟩ | ⟨eh, hnoh⟩
    · skip
      by_cases hsh : shP (dK s k) hn
      · skip
        rcases in_cases (n := 42) (by omega) p with ⟨pn, hpn, rfl, ep⟩ | ⟨ep, hnop⟩
        · skip
          refine r_aload_n (pc := 0) dX9_want_0 rfl ?_
          refine r_iload_n (pc := 1) dX9_want_1 rfl ?_
          refine r_callV_R (pc := 2) (b := 0) (As := [.int (nI k)]) 9 98 dX9_want_2 lk_X9_find (ml_RX9_98 rfl) im_X9_find se_X9_find (by decide) (c9_o h9) (Nat.le_of_ble_eq_true rfl) rfl (find_ct hC.1.1 hC.2.1.1 hcn10 hk (hC.1.2.2.1 k hk)) ?_
          refine r_astore (pc := 5) (L' := [some (.ref 0), some (.int (nI k)), some (.int (nI hn)), some (.int (nI pn)), some (.ref (tA k))]) dX9_want_5 (by decide) rfl rfl ?_
          refine r_aload (pc := 7) dX9_want_7 rfl ?_
          refine r_ifnullR (pc := 9) dX9_want_9 ?_
          refine r_aload (pc := 12) dX9_want_12 rfl ?_
          refine r_iload_n (pc := 14) dX9_want_14 rfl ?_
          refine r_callV_P (pc := 15) (b := tA k) (As := [.int (nI hn)]) 8 126 dX9_want_15 lk_X8_isShop (ml_RX9_126 rfl) im_X8_isShop se_X8_isShop (by decide) (c8_o h8) (Nat.le_of_ble_eq_true rfl) rfl (isShop_y h8 htc hhn hsh) ?_
          refine r_if_eq_n (pc := 18) (a := 1) (tgt := 28) dX9_want_18 (by decide) (by omega) (fun c18 => ?_) (fun c18 => ?_)
          · exfalso; omega
          · skip
            refine r_iload_n (pc := 21) dX9_want_21 rfl ?_
            refine r_callS_P (pc := 22) (As := [.int (nI pn)]) 136 dX9_want_22 lk_X9_isPrice (ml_RX9_136 rfl) sm_X9_isPrice (Nat.le_of_ble_eq_true rfl) rfl (isPrice_y hpn) ?_
            refine r_if_ne_n (pc := 25) (a := 1) (tgt := 30) dX9_want_25 (by decide) (by omega) (fun c25 => ?_) (fun c25 => ?_)
            · skip
              refine r_aload (pc := 30) dX9_want_30 rfl ?_
              refine r_get1 (pc := 32) 8 6 129 dX9_want_32 (fl_RX9_129 rfl) (by decide) rfl (c8_o h8) (c8_p6 h8) ?_
              refine r_iload_n (pc := 35) dX9_want_35 rfl ?_
              refine r_aald1_n (pc := 36) (i := hn) 6 dX9_want_36 (by decide) (c8_a6 h8) (by decide) (by omega) (c8_q6 h8 (by omega)) ?_
              refine r_iload_n (pc := 37) dX9_want_37 rfl ?_
              refine r_iald_n (pc := 38) (i := pn) dX9_want_38 (c8_r6 h8 (by omega)) (by decide) (by omega) (v := nI (wF (dK s k) hn pn)) (hTr.1.2.2.2 _ _ (by omega) (by omega)) ?_
              refine r_ret_i (pc := 39) dX9_want_39 rfl ?_
              exact ⟨_, rfl, I, G, rfl, (by unfold aWant; rw [atN_s et, atN_s eh, if_pos hsh, atN_s ep]), hC, hFr.m, hGk.gk⟩
            · exfalso; omega
        · skip
          refine r_aload_n (pc := 0) dX9_want_0 rfl ?_
          refine r_iload_n (pc := 1) dX9_want_1 rfl ?_
          refine r_callV_R (pc := 2) (b := 0) (As := [.int (nI k)]) 9 98 dX9_want_2 lk_X9_find (ml_RX9_98 rfl) im_X9_find se_X9_find (by decide) (c9_o h9) (Nat.le_of_ble_eq_true rfl) rfl (find_ct hC.1.1 hC.2.1.1 hcn10 hk (hC.1.2.2.1 k hk)) ?_
          refine r_astore (pc := 5) (L' := [some (.ref 0), some (.int (nI k)), some (.int (nI hn)), some (.int p), some (.ref (tA k))]) dX9_want_5 (by decide) rfl rfl ?_
          refine r_aload (pc := 7) dX9_want_7 rfl ?_
          refine r_ifnullR (pc := 9) dX9_want_9 ?_
          refine r_aload (pc := 12) dX9_want_12 rfl ?_
          refine r_iload_n (pc := 14) dX9_want_14 rfl ?_
          refine r_callV_P (pc := 15) (b := tA k) (As := [.int (nI hn)]) 8 126 dX9_want_15 lk_X8_isShop (ml_RX9_126 rfl) im_X8_isShop se_X8_isShop (by decide) (c8_o h8) (Nat.le_of_ble_eq_true rfl) rfl (isShop_y h8 htc hhn hsh) ?_
          refine r_if_eq_n (pc := 18) (a := 1) (tgt := 28) dX9_want_18 (by decide) (by omega) (fun c18 => ?_) (fun c18 => ?_)
          · exfalso; omega
          · skip
            refine r_iload_n (pc := 21) dX9_want_21 rfl ?_
            refine r_callS_P (pc := 22) (As := [.int p]) 136 dX9_want_22 lk_X9_isPrice (ml_RX9_136 rfl) sm_X9_isPrice (Nat.le_of_ble_eq_true rfl) rfl (isPrice_n hnop) ?_
            refine r_if_ne_n (pc := 25) (a := 0) (tgt := 30) dX9_want_25 (by decide) (by omega) (fun c25 => ?_) (fun c25 => ?_)
            · exfalso; omega
            · skip
              refine r_iconst (pc := 28) (v := -1) dX9_want_28 (by decide) ?_
              refine r_ret_i (pc := 29) dX9_want_29 rfl ?_
              exact ⟨_, rfl, I, G, rfl, (by unfold aWant; rw [atN_s et, atN_s eh, if_pos hsh, atN_n ep] <;> rfl), hC, hFr.m, hGk.gk⟩
      · skip
        refine r_aload_n (pc := 0) dX9_want_0 rfl ?_
        refine r_iload_n (pc := 1) dX9_want_1 rfl ?_
        refine r_callV_R (pc := 2) (b := 0) (As := [.int (nI k)]) 9 98 dX9_want_2 lk_X9_find (ml_RX9_98 rfl) im_X9_find se_X9_find (by decide) (c9_o h9) (Nat.le_of_ble_eq_true rfl) rfl (find_ct hC.1.1 hC.2.1.1 hcn10 hk (hC.1.2.2.1 k hk)) ?_
        refine r_astore (pc := 5) (L' := [some (.ref 0), some (.int (nI k)), some (.int (nI hn)), some (.int p), some (.ref (tA k))]) dX9_want_5 (by decide) rfl rfl ?_
        refine r_aload (pc := 7) dX9_want_7 rfl ?_
        refine r_ifnullR (pc := 9) dX9_want_9 ?_
        refine r_aload (pc := 12) dX9_want_12 rfl ?_
        refine r_iload_n (pc := 14) dX9_want_14 rfl ?_
        refine r_callV_P (pc := 15) (b := tA k) (As := [.int (nI hn)]) 8 126 dX9_want_15 lk_X8_isShop (ml_RX9_126 rfl) im_X8_isShop se_X8_isShop (by decide) (c8_o h8) (Nat.le_of_ble_eq_true rfl) rfl (isShop_n h8 htc hhn hsh) ?_
        refine r_if_eq_n (pc := 18) (a := 0) (tgt := 28) dX9_want_18 (by decide) (by omega) (fun c18 => ?_) (fun c18 => ?_)
        · skip
          refine r_iconst (pc := 28) (v := -1) dX9_want_28 (by decide) ?_
          refine r_ret_i (pc := 29) dX9_want_29 rfl ?_
          exact ⟨_, rfl, I, G, rfl, (by unfold aWant; rw [atN_s et, atN_s eh, if_neg hsh] <;> rfl), hC, hFr.m, hGk.gk⟩
        · exfalso; omega
    · skip
      refine r_aload_n (pc := 0) dX9_want_0 rfl ?_
      refine r_iload_n (pc := 1) dX9_want_1 rfl ?_
      refine r_callV_R (pc := 2) (b := 0) (As := [.int (nI k)]) 9 98 dX9_want_2 lk_X9_find (ml_RX9_98 rfl) im_X9_find se_X9_find (by decide) (c9_o h9) (Nat.le_of_ble_eq_true rfl) rfl (find_ct hC.1.1 hC.2.1.1 hcn10 hk (hC.1.2.2.1 k hk)) ?_
      refine r_astore (pc := 5) (L' := [some (.ref 0), some (.int (nI k)), some (.int h), some (.int p), some (.ref (tA k))]) dX9_want_5 (by decide) rfl rfl ?_
      refine r_aload (pc := 7) dX9_want_7 rfl ?_
      refine r_ifnullR (pc := 9) dX9_want_9 ?_
      refine r_aload (pc := 12) dX9_want_12 rfl ?_
      refine r_iload_n (pc := 14) dX9_want_14 rfl ?_
      refine r_callV_P (pc := 15) (b := tA k) (As := [.int h]) 8 126 dX9_want_15 lk_X8_isShop (ml_RX9_126 rfl) im_X8_isShop se_X8_isShop (by decide) (c8_o h8) (Nat.le_of_ble_eq_true rfl) rfl (isShop_no h8 (by rw [hTr.1.1]; exact hnoh)) ?_
      refine r_if_eq_n (pc := 18) (a := 0) (tgt := 28) dX9_want_18 (by decide) (by omega) (fun c18 => ?_) (fun c18 => ?_)
      · skip
        refine r_iconst (pc := 28) (v := -1) dX9_want_28 (by decide) ?_
        refine r_ret_i (pc := 29) dX9_want_29 rfl ?_
        exact ⟨_, rfl, I, G, rfl, (by unfold aWant; rw [atN_s et, atN_n eh] <;> rfl), hC, hFr.m, hGk.gk⟩
      · exfalso; omega
  · skip
    refine r_aload_n (pc := 0) dX9_want_0 rfl ?_
    refine r_iload_n (pc := 1) dX9_want_1 rfl ?_
    refine r_callV_R (pc := 2) (b := 0) (As := [.int t]) 9 98 dX9_want_2 lk_X9_find (ml_RX9_98 rfl) im_X9_find se_X9_find (by decide) (c9_o h9) (Nat.le_of_ble_eq_true rfl) rfl (find_no hC.1.1 (by rw [hC.2.1.1]; exact hnot)) ?_
    refine r_astoreN (pc := 5) (L' := [some (.ref 0), some (.int t), some (.int h), some (.int p), some (.null)]) dX9_want_5 (by decide) rfl rfl ?_
    refine r_aloadN (pc := 7) dX9_want_7 rfl ?_
    refine r_ifnullN (pc := 9) (tgt := 28) dX9_want_9 (by decide) ?_
    refine r_iconst (pc := 28) (v := -1) dX9_want_28 (by decide) ?_
    refine r_ret_i (pc := 29) dX9_want_29 rfl ?_
    exact ⟨_, rfl, I, G, rfl, (by unfold aWant; rw [atN_n et] <;> rfl), hC, hFr.m, hGk.gk⟩

set_option maxRecDepth 100000 in
theorem ask_c {d : Nat} {I : Im} {G : Gm} {s : Sta} (hC : Ci s I G) {t : Int32} {h : Int32} {u : Int32} : Ct (d + 3) 0 0 YX9_ask [.ref 0, .int t, .int h, .int u] (I, G) (qX (PcQ s I G (aAsk s t h u))) := by
  refine Ct.of (by decide) (by simp [Value.category]) (Nat.le_of_ble_eq_true rfl) ?_
  have h9 := hC.1.1
  have hcn10 := hC.2.1.2.1
  have hFr : FrC I I := FrC.rf
  have hGk : Geq G G := Geq.rf
  show wp _ _ _ _ 0 [some (.ref 0), some (.int t), some (.int h), some (.int u), none] [] _ _
  rcases in_cases (n := sN s) (by have := hcn10; omega) t with ⟨k, hk, rfl, et⟩ | ⟨et, hnot⟩
  · skip
    have h8 := hC.1.2.1 k (by omega)
    obtain ⟨hok, hTr⟩ := hC.ok hk
    have hn8 : dN (dK s k) ≤ 8 := hok.1.1.2
    have hoff := tA_off k
    have hE := src_of hok.1 (tdT (sD s k))
    have hW := wbc_of hok.1 (tdT (sD s k))
    have hc60 : ∀ b, dC (dK s k) b ≤ 60 := fun b => Nat.le_trans (hok.1.2.1 b) (by omega)
    have htc := trc_of hok.1 hTr.1 (tdT (sD s k))
    rcases in_cases (n := dN (dK s k)) (by have := hn8; omega) h with ⟨hn, hhn, rfl, eh⟩ | ⟨eh, hnoh⟩
    · skip
      by_cases hsh : shP (dK s k) hn
      · skip
        rcases in_cases (n := 301) (by omega) u with ⟨un, hun, rfl, eu⟩ | ⟨eu, hnou⟩
        · skip
          refine r_aload_n (pc := 0) dX9_ask_0 rfl ?_
          refine r_iload_n (pc := 1) dX9_ask_1 rfl ?_
          refine r_callV_R (pc := 2) (b := 0) (As := [.int (nI k)]) 9 98 dX9_ask_2 lk_X9_find (ml_RX9_98 rfl) im_X9_find se_X9_find (by decide) (c9_o h9) (Nat.le_of_ble_eq_true rfl) rfl (find_ct hC.1.1 hC.2.1.1 hcn10 hk (hC.1.2.2.1 k hk)) ?_
          refine r_astore (pc := 5) (L' := [some (.ref 0), some (.int (nI k)), some (.int (nI hn)), some (.int (nI un)), some (.ref (tA k))]) dX9_ask_5 (by decide) rfl rfl ?_
          refine r_aload (pc := 7) dX9_ask_7 rfl ?_
          refine r_ifnullR (pc := 9) dX9_ask_9 ?_
          refine r_aload (pc := 12) dX9_ask_12 rfl ?_
          refine r_iload_n (pc := 14) dX9_ask_14 rfl ?_
          refine r_callV_P (pc := 15) (b := tA k) (As := [.int (nI hn)]) 8 126 dX9_ask_15 lk_X8_isShop (ml_RX9_126 rfl) im_X8_isShop se_X8_isShop (by decide) (c8_o h8) (Nat.le_of_ble_eq_true rfl) rfl (isShop_y h8 htc hhn hsh) ?_
          refine r_if_eq_n (pc := 18) (a := 1) (tgt := 32) dX9_ask_18 (by decide) (by omega) (fun c18 => ?_) (fun c18 => ?_)
          · exfalso; omega
          · skip
            refine r_iload_n (pc := 21) dX9_ask_21 rfl ?_
            refine r_if_lt_n (pc := 22) (a := un) (tgt := 32) dX9_ask_22 (by decide) (by omega) ?_
            refine r_iload_n (pc := 25) dX9_ask_25 rfl ?_
            refine r_sipush (pc := 26) (v := 300) dX9_ask_26 (by decide) ?_
            refine r_icmp_le_n (pc := 29) (a := un) (b := 300) (tgt := 34) dX9_ask_29 (by decide) (by omega) (by omega) (fun c29 => ?_) (fun c29 => ?_)
            · skip
              refine r_aload (pc := 34) dX9_ask_34 rfl ?_
              refine r_get1 (pc := 36) 8 6 129 dX9_ask_36 (fl_RX9_129 rfl) (by decide) rfl (c8_o h8) (c8_p6 h8) ?_
              refine r_iload_n (pc := 39) dX9_ask_39 rfl ?_
              refine r_aald1_n (pc := 40) (i := hn) 6 dX9_ask_40 (by decide) (c8_a6 h8) (by decide) (by omega) (c8_q6 h8 (by omega)) ?_
              refine r_aload (pc := 41) dX9_ask_41 rfl ?_
              refine r_get1 (pc := 43) 8 7 143 dX9_ask_43 (fl_RX9_143 rfl) (by decide) rfl (c8_o h8) (c8_p7 h8) ?_
              refine r_getIv (pc := 46) 7 1 149 dX9_ask_46 (fl_RX9_149 rfl) (by decide) rfl (c7_o (c8_s7 h8)) (v := nI ((tdT (sD s k)).2.1)) (hTr.2.1 1 (by omega)) ?_
              refine r_iload_n (pc := 49) dX9_ask_49 rfl ?_
              refine r_callS_P (pc := 50) (As := [.ref ((tA k) + 5 + 1 + hn), .int (nI ((tdT (sD s k)).2.1)), .int (nI un)]) 162 dX9_ask_50 lk_X9_bestPrice (ml_RX9_162 rfl) sm_X9_bestPrice (Nat.le_of_ble_eq_true rfl) rfl (bestPrice_ct (w := wF (dK s k) hn) (c8_r6 h8 (by omega)) (fun p hp => hTr.1.2.2.2 _ _ (by omega) hp) hok.2.1 (by omega)) ?_
              refine r_ret_i (pc := 53) dX9_ask_53 rfl ?_
              exact ⟨_, rfl, I, G, rfl, (by unfold aAsk; rw [atN_s et, atN_s eh, if_pos hsh, atN_s eu]), hC, hFr.m, hGk.gk⟩
            · exfalso; omega
        · skip
          refine r_aload_n (pc := 0) dX9_ask_0 rfl ?_
          refine r_iload_n (pc := 1) dX9_ask_1 rfl ?_
          refine r_callV_R (pc := 2) (b := 0) (As := [.int (nI k)]) 9 98 dX9_ask_2 lk_X9_find (ml_RX9_98 rfl) im_X9_find se_X9_find (by decide) (c9_o h9) (Nat.le_of_ble_eq_true rfl) rfl (find_ct hC.1.1 hC.2.1.1 hcn10 hk (hC.1.2.2.1 k hk)) ?_
          refine r_astore (pc := 5) (L' := [some (.ref 0), some (.int (nI k)), some (.int (nI hn)), some (.int u), some (.ref (tA k))]) dX9_ask_5 (by decide) rfl rfl ?_
          refine r_aload (pc := 7) dX9_ask_7 rfl ?_
          refine r_ifnullR (pc := 9) dX9_ask_9 ?_
          refine r_aload (pc := 12) dX9_ask_12 rfl ?_
          refine r_iload_n (pc := 14) dX9_ask_14 rfl ?_
          refine r_callV_P (pc := 15) (b := tA k) (As := [.int (nI hn)]) 8 126 dX9_ask_15 lk_X8_isShop (ml_RX9_126 rfl) im_X8_isShop se_X8_isShop (by decide) (c8_o h8) (Nat.le_of_ble_eq_true rfl) rfl (isShop_y h8 htc hhn hsh) ?_
          refine r_if_eq_n (pc := 18) (a := 1) (tgt := 32) dX9_ask_18 (by decide) (by omega) (fun c18 => ?_) (fun c18 => ?_)
          · exfalso; omega
          · skip
            refine r_iload_n (pc := 21) dX9_ask_21 rfl ?_
            refine r_if_lt (pc := 22) (x := u) (tgt := 32) dX9_ask_22 (by decide) (fun c22 => ?_) (fun c22 => ?_)
            · skip
              refine r_iconst (pc := 32) (v := -1) dX9_ask_32 (by decide) ?_
              refine r_ret_i (pc := 33) dX9_ask_33 rfl ?_
              exact ⟨_, rfl, I, G, rfl, (by unfold aAsk; rw [atN_s et, atN_s eh, if_pos hsh, atN_n eu] <;> rfl), hC, hFr.m, hGk.gk⟩
            · skip
              refine r_iload_n (pc := 25) dX9_ask_25 rfl ?_
              refine r_sipush (pc := 26) (v := 300) dX9_ask_26 (by decide) ?_
              refine r_icmp_le (pc := 29) (x := u) (z := 300) (tgt := 34) dX9_ask_29 (by decide) (fun c29 => ?_) (fun c29 => ?_)
              · exfalso; exact rg_no (n := 300) (by omega) hnou c22 c29
              · skip
                refine r_iconst (pc := 32) (v := -1) dX9_ask_32 (by decide) ?_
                refine r_ret_i (pc := 33) dX9_ask_33 rfl ?_
                exact ⟨_, rfl, I, G, rfl, (by unfold aAsk; rw [atN_s et, atN_s eh, if_pos hsh, atN_n eu] <;> rfl), hC, hFr.m, hGk.gk⟩
      · skip
        refine r_aload_n (pc := 0) dX9_ask_0 rfl ?_
        refine r_iload_n (pc := 1) dX9_ask_1 rfl ?_
        refine r_callV_R (pc := 2) (b := 0) (As := [.int (nI k)]) 9 98 dX9_ask_2 lk_X9_find (ml_RX9_98 rfl) im_X9_find se_X9_find (by decide) (c9_o h9) (Nat.le_of_ble_eq_true rfl) rfl (find_ct hC.1.1 hC.2.1.1 hcn10 hk (hC.1.2.2.1 k hk)) ?_
        refine r_astore (pc := 5) (L' := [some (.ref 0), some (.int (nI k)), some (.int (nI hn)), some (.int u), some (.ref (tA k))]) dX9_ask_5 (by decide) rfl rfl ?_
        refine r_aload (pc := 7) dX9_ask_7 rfl ?_
        refine r_ifnullR (pc := 9) dX9_ask_9 ?_
        refine r_aload (pc := 12) dX9_ask_12 rfl ?_
        refine r_iload_n (pc := 14) dX9_ask_14 rfl ?_
        refine r_callV_P (pc := 15) (b := tA k) (As := [.int (nI hn)]) 8 126 dX9_ask_15 lk_X8_isShop (ml_RX9_126 rfl) im_X8_isShop se_X8_isShop (by decide) (c8_o h8) (Nat.le_of_ble_eq_true rfl) rfl (isShop_n h8 htc hhn hsh) ?_
        refine r_if_eq_n (pc := 18) (a := 0) (tgt := 32) dX9_ask_18 (by decide) (by omega) (fun c18 => ?_) (fun c18 => ?_)
        · skip
          refine r_iconst (pc := 32) (v := -1) dX9_ask_32 (by decide) ?_
          refine r_ret_i (pc := 33) dX9_ask_33 rfl ?_
          exact ⟨_, rfl, I, G, rfl, (by unfold aAsk; rw [atN_s et, atN_s eh, if_neg hsh] <;> rfl), hC, hFr.m, hGk.gk⟩
        · exfalso; omega
    · skip
      refine r_aload_n (pc := 0) dX9_ask_0 rfl ?_
      refine r_iload_n (pc := 1) dX9_ask_1 rfl ?_
      refine r_callV_R (pc := 2) (b := 0) (As := [.int (nI k)]) 9 98 dX9_ask_2 lk_X9_find (ml_RX9_98 rfl) im_X9_find se_X9_find (by decide) (c9_o h9) (Nat.le_of_ble_eq_true rfl) rfl (find_ct hC.1.1 hC.2.1.1 hcn10 hk (hC.1.2.2.1 k hk)) ?_
      refine r_astore (pc := 5) (L' := [some (.ref 0), some (.int (nI k)), some (.int h), some (.int u), some (.ref (tA k))]) dX9_ask_5 (by decide) rfl rfl ?_
      refine r_aload (pc := 7) dX9_ask_7 rfl ?_
      refine r_ifnullR (pc := 9) dX9_ask_9 ?_
      refine r_aload (pc := 12) dX9_ask_12 rfl ?_
      refine r_iload_n (pc := 14) dX9_ask_14 rfl ?_
      refine r_callV_P (pc := 15) (b := tA k) (As := [.int h]) 8 126 dX9_ask_15 lk_X8_isShop (ml_RX9_126 rfl) im_X8_isShop se_X8_isShop (by decide) (c8_o h8) (Nat.le_of_ble_eq_true rfl) rfl (isShop_no h8 (by rw [hTr.1.1]; exact hnoh)) ?_
      refine r_if_eq_n (pc := 18) (a := 0) (tgt := 32) dX9_ask_18 (by decide) (by omega) (fun c18 => ?_) (fun c18 => ?_)
      · skip
        refine r_iconst (pc := 32) (v := -1) dX9_ask_32 (by decide) ?_
        refine r_ret_i (pc := 33) dX9_ask_33 rfl ?_
        exact ⟨_, rfl, I, G, rfl, (by unfold aAsk; rw [atN_s et, atN_n eh] <;> rfl), hC, hFr.m, hGk.gk⟩
      · exfalso; omega
  · skip
    refine r_aload_n (pc := 0) dX9_ask_0 rfl ?_
    refine r_iload_n (pc := 1) dX9_ask_1 rfl ?_
    refine r_callV_R (pc := 2) (b := 0) (As := [.int t]) 9 98 dX9_ask_2 lk_X9_find (ml_RX9_98 rfl) im_X9_find se_X9_find (by decide) (c9_o h9) (Nat.le_of_ble_eq_true rfl) rfl (find_no hC.1.1 (by rw [hC.2.1.1]; exact hnot)) ?_
    refine r_astoreN (pc := 5) (L' := [some (.ref 0), some (.int t), some (.int h), some (.int u), some (.null)]) dX9_ask_5 (by decide) rfl rfl ?_
    refine r_aloadN (pc := 7) dX9_ask_7 rfl ?_
    refine r_ifnullN (pc := 9) (tgt := 32) dX9_ask_9 (by decide) ?_
    refine r_iconst (pc := 32) (v := -1) dX9_ask_32 (by decide) ?_
    refine r_ret_i (pc := 33) dX9_ask_33 rfl ?_
    exact ⟨_, rfl, I, G, rfl, (by unfold aAsk; rw [atN_n et] <;> rfl), hC, hFr.m, hGk.gk⟩

set_option maxRecDepth 100000 in
theorem take_c {d : Nat} {I : Im} {G : Gm} {s : Sta} (hC : Ci s I G) {t : Int32} {h : Int32} {u : Int32} : Ct (d + 6) 0 0 YX9_take [.ref 0, .int t, .int h, .int u] (I, G) (qX (PcQ s I G (aTake s t h u))) := by
  refine Ct.of (by decide) (by simp [Value.category]) (Nat.le_of_ble_eq_true rfl) ?_
  have h9 := hC.1.1
  have hcn10 := hC.2.1.2.1
  have hFr : FrC I I := FrC.rf
  have hGk : Geq G G := Geq.rf
  show wp _ _ _ _ 0 [some (.ref 0), some (.int t), some (.int h), some (.int u), none] [] _ _
  rcases in_cases (n := sN s) (by have := hcn10; omega) t with ⟨k, hk, rfl, et⟩ | ⟨et, hnot⟩
  · skip
    have h8 := hC.1.2.1 k (by omega)
    obtain ⟨hok, hTr⟩ := hC.ok hk
    have hn8 : dN (dK s k) ≤ 8 := hok.1.1.2
    have hoff := tA_off k
    have hE := src_of hok.1 (tdT (sD s k))
    have hW := wbc_of hok.1 (tdT (sD s k))
    have hc60 : ∀ b, dC (dK s k) b ≤ 60 := fun b => Nat.le_trans (hok.1.2.1 b) (by omega)
    have htc := trc_of hok.1 hTr.1 (tdT (sD s k))
    rcases in_cases (n := dN (dK s k)) (by have := hn8; omega) h with ⟨hn, hhn, rfl, eh⟩ | ⟨eh, hnoh⟩
    · skip
      rcases in_cases (n := 301) (by omega) u with ⟨un, hun, rfl, eu⟩ | ⟨eu, hnou⟩
      · skip
        refine r_aload_n (pc := 0) dX9_take_0 rfl ?_
        refine r_iload_n (pc := 1) dX9_take_1 rfl ?_
        refine r_callV_R (pc := 2) (b := 0) (As := [.int (nI k)]) 9 98 dX9_take_2 lk_X9_find (ml_RX9_98 rfl) im_X9_find se_X9_find (by decide) (c9_o h9) (Nat.le_of_ble_eq_true rfl) rfl (find_ct hC.1.1 hC.2.1.1 hcn10 hk (hC.1.2.2.1 k hk)) ?_
        refine r_astore (pc := 5) (L' := [some (.ref 0), some (.int (nI k)), some (.int (nI hn)), some (.int (nI un)), some (.ref (tA k))]) dX9_take_5 (by decide) rfl rfl ?_
        refine r_aload (pc := 7) dX9_take_7 rfl ?_
        refine r_ifnullR (pc := 9) dX9_take_9 ?_
        refine r_aload (pc := 12) dX9_take_12 rfl ?_
        refine r_iload_n (pc := 14) dX9_take_14 rfl ?_
        refine r_callV_P (pc := 15) (b := tA k) (As := [.int (nI hn)]) 8 102 dX9_take_15 lk_X8_holds (ml_RX9_102 rfl) im_X8_holds se_X8_holds (by decide) (c8_o h8) (Nat.le_of_ble_eq_true rfl) rfl (holds_y h8 hTr.1.1 hn8 hhn) ?_
        refine r_if_eq_n (pc := 18) (a := 1) (tgt := 32) dX9_take_18 (by decide) (by omega) (fun c18 => ?_) (fun c18 => ?_)
        · exfalso; omega
        · skip
          refine r_iload_n (pc := 21) dX9_take_21 rfl ?_
          refine r_if_lt_n (pc := 22) (a := un) (tgt := 32) dX9_take_22 (by decide) (by omega) ?_
          refine r_iload_n (pc := 25) dX9_take_25 rfl ?_
          refine r_sipush (pc := 26) (v := 300) dX9_take_26 (by decide) ?_
          refine r_icmp_le_n (pc := 29) (a := un) (b := 300) (tgt := 34) dX9_take_29 (by decide) (by omega) (by omega) (fun c29 => ?_) (fun c29 => ?_)
          · skip
            refine r_aload_n (pc := 34) dX9_take_34 rfl ?_
            refine r_get1 (pc := 35) 9 5 41 dX9_take_35 (fl_RX9_41 rfl) (by decide) rfl (c9_o h9) (c9_p5 h9) ?_
            refine r_aload (pc := 38) dX9_take_38 rfl ?_
            refine r_aload (pc := 40) dX9_take_40 rfl ?_
            refine r_get1 (pc := 42) 8 7 143 dX9_take_42 (fl_RX9_143 rfl) (by decide) rfl (c8_o h8) (c8_p7 h8) ?_
            refine r_callV_U (pc := 45) (b := 23) (As := [.ref (tA k), .ref ((tA k) + 14)]) 5 166 dX9_take_45 lk_X5_settle (ml_RX9_166 rfl) im_X5_settle se_X5_settle (by decide) (c5_o (c9_s5 h9)) (Nat.le_of_ble_eq_true rfl) rfl (settle_t (τ := (tdT (sD s k))) hC hk (by omega) (Or.inr rfl) hok.2.1 hTr.2.1) (fun M1 h1 => ?_)
            obtain ⟨I1, G1, rfl, hC, hg1, hV1, hf1, hm1, hτ1, hce1⟩ := h1
            have hO1 : OcE I1 23 (eT (dK s k) (tdT (sD s k))) := oce_of (src_of hok.1 _) (wbc_of hok.1 _) hc60 hV1
            have hFr : FrC I I1 := hFr.tr (fun a j z => hf1 a j (by omega))
            have hGk : Geq G G1 := hGk.tr hg1
            have hTr := (hC.ok hk).2
            have h9 := hC.1.1
            have h8 := hC.1.2.1 k (by omega)
            have htc := trc_of hok.1 hTr.1 (tdT (sD s k))
            refine r_aload_n (pc := 48) dX9_take_48 rfl ?_
            refine r_get1 (pc := 49) 9 5 41 dX9_take_49 (fl_RX9_41 rfl) (by decide) rfl (c9_o h9) (c9_p5 h9) ?_
            refine r_aload (pc := 52) dX9_take_52 rfl ?_
            refine r_iload_n (pc := 54) dX9_take_54 rfl ?_
            refine r_iload_n (pc := 55) dX9_take_55 rfl ?_
            refine r_callV_M (pc := 56) (b := 23) (As := [.ref (tA k), .int (nI hn), .int (nI un)]) 5 170 dX9_take_56 lk_X5_takenAt (ml_RX9_170 rfl) im_X5_takenAt se_X5_takenAt (by decide) (c5_o (c9_s5 h9)) (Nat.le_of_ble_eq_true rfl) rfl (takenAt_ct (c9_s5 h9) h8 (by omega) hV1.1 htc hV1 hhn (by omega)) (fun v56 I9 h9b => ?_)
            obtain ⟨rfl, hV9, hf9⟩ := h9b
            have e9 : I9 (23 + 1) = I1 (23 + 1) := funext fun j => hf9 _ j (by omega)
            have hce9 : cE (dK s k) (I9 (23 + 1)) = eK' s k := by rw [e9]; exact hce1
            have hC : Ci s I9 G1 := hC.mk (fun a j z => hf9 a j (by omega)) Geq.rf (fun _ => rfl) rfl (mki_of hk hm1 (by rw [e9]; exact hτ1) (by rw [hce9]; exact hV9)) (hC.2.2.2.1.keep (fun k hk => (hC.ok hk).1) rfl (fun a j g1 g2 => hf9 a j (by omega))) (hC.2.2.2.2.keep rfl (fun a j z => hf9 a j (by omega)))
            have hFr : FrC I I9 := hFr.tr (fun a j z => hf9 a j (by omega))
            refine r_ret_i (pc := 59) dX9_take_59 rfl ?_
            exact ⟨_, rfl, I9, G1, rfl, (by unfold aTake; rw [atN_s et, atN_s eh, atN_s eu, mk_row hE hW hc60 (8 - hn) hn rfl hhn un (by omega)]), hC, hFr.m, hGk.gk⟩
          · exfalso; omega
      · skip
        refine r_aload_n (pc := 0) dX9_take_0 rfl ?_
        refine r_iload_n (pc := 1) dX9_take_1 rfl ?_
        refine r_callV_R (pc := 2) (b := 0) (As := [.int (nI k)]) 9 98 dX9_take_2 lk_X9_find (ml_RX9_98 rfl) im_X9_find se_X9_find (by decide) (c9_o h9) (Nat.le_of_ble_eq_true rfl) rfl (find_ct hC.1.1 hC.2.1.1 hcn10 hk (hC.1.2.2.1 k hk)) ?_
        refine r_astore (pc := 5) (L' := [some (.ref 0), some (.int (nI k)), some (.int (nI hn)), some (.int u), some (.ref (tA k))]) dX9_take_5 (by decide) rfl rfl ?_
        refine r_aload (pc := 7) dX9_take_7 rfl ?_
        refine r_ifnullR (pc := 9) dX9_take_9 ?_
        refine r_aload (pc := 12) dX9_take_12 rfl ?_
        refine r_iload_n (pc := 14) dX9_take_14 rfl ?_
        refine r_callV_P (pc := 15) (b := tA k) (As := [.int (nI hn)]) 8 102 dX9_take_15 lk_X8_holds (ml_RX9_102 rfl) im_X8_holds se_X8_holds (by decide) (c8_o h8) (Nat.le_of_ble_eq_true rfl) rfl (holds_y h8 hTr.1.1 hn8 hhn) ?_
        refine r_if_eq_n (pc := 18) (a := 1) (tgt := 32) dX9_take_18 (by decide) (by omega) (fun c18 => ?_) (fun c18 => ?_)
        · exfalso; omega
        · skip
          refine r_iload_n (pc := 21) dX9_take_21 rfl ?_
          refine r_if_lt (pc := 22) (x := u) (tgt := 32) dX9_take_22 (by decide) (fun c22 => ?_) (fun c22 => ?_)
          · skip
            refine r_iconst (pc := 32) (v := -1) dX9_take_32 (by decide) ?_
            refine r_ret_i (pc := 33) dX9_take_33 rfl ?_
            exact ⟨_, rfl, I, G, rfl, (by unfold aTake; rw [atN_s et, atN_s eh, atN_n eu] <;> rfl), hC, hFr.m, hGk.gk⟩
          · skip
            refine r_iload_n (pc := 25) dX9_take_25 rfl ?_
            refine r_sipush (pc := 26) (v := 300) dX9_take_26 (by decide) ?_
            refine r_icmp_le (pc := 29) (x := u) (z := 300) (tgt := 34) dX9_take_29 (by decide) (fun c29 => ?_) (fun c29 => ?_)
            · exfalso; exact rg_no (n := 300) (by omega) hnou c22 c29
            · skip
              refine r_iconst (pc := 32) (v := -1) dX9_take_32 (by decide) ?_
              refine r_ret_i (pc := 33) dX9_take_33 rfl ?_
              exact ⟨_, rfl, I, G, rfl, (by unfold aTake; rw [atN_s et, atN_s eh, atN_n eu] <;> rfl), hC, hFr.m, hGk.gk⟩
    · skip
      refine r_aload_n (pc := 0) dX9_take_0 rfl ?_
      refine r_iload_n (pc := 1) dX9_take_1 rfl ?_
      refine r_callV_R (pc := 2) (b := 0) (As := [.int (nI k)]) 9 98 dX9_take_2 lk_X9_find (ml_RX9_98 rfl) im_X9_find se_X9_find (by decide) (c9_o h9) (Nat.le_of_ble_eq_true rfl) rfl (find_ct hC.1.1 hC.2.1.1 hcn10 hk (hC.1.2.2.1 k hk)) ?_
      refine r_astore (pc := 5) (L' := [some (.ref 0), some (.int (nI k)), some (.int h), some (.int u), some (.ref (tA k))]) dX9_take_5 (by decide) rfl rfl ?_
      refine r_aload (pc := 7) dX9_take_7 rfl ?_
      refine r_ifnullR (pc := 9) dX9_take_9 ?_
      refine r_aload (pc := 12) dX9_take_12 rfl ?_
      refine r_iload_n (pc := 14) dX9_take_14 rfl ?_
      refine r_callV_P (pc := 15) (b := tA k) (As := [.int h]) 8 102 dX9_take_15 lk_X8_holds (ml_RX9_102 rfl) im_X8_holds se_X8_holds (by decide) (c8_o h8) (Nat.le_of_ble_eq_true rfl) rfl (holds_n h8 hTr.1.1 hnoh) ?_
      refine r_if_eq_n (pc := 18) (a := 0) (tgt := 32) dX9_take_18 (by decide) (by omega) (fun c18 => ?_) (fun c18 => ?_)
      · skip
        refine r_iconst (pc := 32) (v := -1) dX9_take_32 (by decide) ?_
        refine r_ret_i (pc := 33) dX9_take_33 rfl ?_
        exact ⟨_, rfl, I, G, rfl, (by unfold aTake; rw [atN_s et, atN_n eh] <;> rfl), hC, hFr.m, hGk.gk⟩
      · exfalso; omega
  · skip
    refine r_aload_n (pc := 0) dX9_take_0 rfl ?_
    refine r_iload_n (pc := 1) dX9_take_1 rfl ?_
    refine r_callV_R (pc := 2) (b := 0) (As := [.int t]) 9 98 dX9_take_2 lk_X9_find (ml_RX9_98 rfl) im_X9_find se_X9_find (by decide) (c9_o h9) (Nat.le_of_ble_eq_true rfl) rfl (find_no hC.1.1 (by rw [hC.2.1.1]; exact hnot)) ?_
    refine r_astoreN (pc := 5) (L' := [some (.ref 0), some (.int t), some (.int h), some (.int u), some (.null)]) dX9_take_5 (by decide) rfl rfl ?_
    refine r_aloadN (pc := 7) dX9_take_7 rfl ?_
    refine r_ifnullN (pc := 9) (tgt := 32) dX9_take_9 (by decide) ?_
    refine r_iconst (pc := 32) (v := -1) dX9_take_32 (by decide) ?_
    refine r_ret_i (pc := 33) dX9_take_33 rfl ?_
    exact ⟨_, rfl, I, G, rfl, (by unfold aTake; rw [atN_n et] <;> rfl), hC, hFr.m, hGk.gk⟩

theorem dear_ok {v : Nat → Int32} {τ : Tm} {h x : Nat} (hτ : τ.2.1 ≤ 41) (hx : x ≤ 30) (h0 : v 0 = τ.1) (h1 : v 1 = nI τ.2.1) (h2 : v 2 = bz (τ.2.2.1 = true)) (h3 : v 3 = bz (τ.2.2.2 = true)) (h4 : v 4 = nI h) (h5 : v 5 = nI x) : TmOK v ∧ ∀ D : Dr, cE D v = eDear (eT D τ) h x := by
  have c1 : (v 1).toNatClampNeg = τ.2.1 := by rw [h1, nI_clamp (by omega)]
  have c5 : (v 5).toNatClampNeg = x := by rw [h5, nI_clamp (by omega)]
  refine ⟨⟨⟨by rw [c1]; exact h1, by rw [c1]; exact hτ⟩, by rw [h2]; exact bz_01 _, by rw [h3]; exact bz_01 _, by rw [c5]; exact h5, by rw [c5]; exact hx⟩, fun D => ?_⟩
  unfold cE mkE eDear eT
  rw [c1, h2, h3, bz_ne0, bz_ne0, h0, c5, h4]

set_option maxRecDepth 100000 in
theorem settleTogether_ct {d : Nat} {I : Im} {G : Gm} {s : Sta} (hC : Ci s I G) {k : Nat} (hk : k < sN s) {cap : Nat} (hcap : cap ≤ 41) : Ct (d + 6) 0 0 YX9_settleTogether [.ref 0, .ref (tA k), .int (nI cap)] (I, G) (qU (fun M => ∃ (I2 : Im) (G2 : Gm), M = (I2, G2) ∧ Ci s I2 G2 ∧ Geq G G2 ∧ MkV I2 67 (eT (dK s k) (allJ (dK s k), cap, false, false)) ∧ (∀ a j, a ≠ 22 → ¬ (67 ≤ a ∧ a < 111) → I2 a j = I a j))) := by
  refine Ct.of (by decide) (by simp [Value.category]) (Nat.le_of_ble_eq_true rfl) ?_
  have h9 := hC.1.1
  have hcn10 := hC.2.1.2.1
  have hFr : FrC I I := FrC.rf
  have hGk : Geq G G := Geq.rf
  have h8 := hC.1.2.1 k (by omega)
  obtain ⟨hok, hTr⟩ := hC.ok hk
  have hn8 : dN (dK s k) ≤ 8 := hok.1.1.2
  have hoff := tA_off k
  have hE := src_of hok.1 (tdT (sD s k))
  have hW := wbc_of hok.1 (tdT (sD s k))
  have hc60 : ∀ b, dC (dK s k) b ≤ 60 := fun b => Nat.le_trans (hok.1.2.1 b) (by omega)
  have htc := trc_of hok.1 hTr.1 (tdT (sD s k))
  show wp _ _ _ _ 0 [some (.ref 0), some (.ref (tA k)), some (.int (nI cap))] [] _ _
  refine r_aload_n (pc := 0) dX9_settleTogether_0 rfl ?_
  refine r_get1 (pc := 1) 9 4 34 dX9_settleTogether_1 (fl_RX9_34 rfl) (by decide) rfl (c9_o h9) (c9_p4 h9) ?_
  refine r_callV_V (pc := 4) (b := 22) (As := []) 7 304 dX9_settleTogether_4 lk_X7_reset (ml_RX9_304 rfl) im_X7_reset se_X7_reset (by decide) (c7_o (c9_s4 h9)) (Nat.le_of_ble_eq_true rfl) rfl (reset_ct (c9_s4 h9)) (fun Ia hIa => ?_)
  have hC : Ci s Ia G := hC.kq (fun a j z => by rw [hIa]; exact setTm_o (by omega))
  have hfa : ∀ a j, a ≠ 22 → Ia a j = I a j := fun a j z => by rw [hIa]; exact setTm_o z
  have hFr : FrC I Ia := hFr.tr (fun a j z => hfa a j (by omega))
  have hTr := (hC.ok hk).2
  have h9 := hC.1.1
  have h8 := hC.1.2.1 k (by omega)
  have htc := trc_of hok.1 hTr.1 (tdT (sD s k))
  refine r_aload_n (pc := 7) dX9_settleTogether_7 rfl ?_
  refine r_get1 (pc := 8) 9 4 34 dX9_settleTogether_8 (fl_RX9_34 rfl) (by decide) rfl (c9_o h9) (c9_p4 h9) ?_
  refine r_aload_n (pc := 11) dX9_settleTogether_11 rfl ?_
  refine r_callV_P (pc := 12) (b := tA k) (As := []) 8 139 dX9_settleTogether_12 lk_X8_allHouses (ml_RX9_139 rfl) im_X8_allHouses se_X8_allHouses (by decide) (c8_o h8) (Nat.le_of_ble_eq_true rfl) rfl (allHouses_y h8 hTr.1.1) ?_
  refine r_putI (pc := 15) (v := allJ (dK s k)) 7 0 146 dX9_settleTogether_15 (fl_RX9_146 rfl) (by decide) rfl rfl (c7_o (c9_s4 h9)) ?_
  refine r_aload_n (pc := 18) dX9_settleTogether_18 rfl ?_
  refine r_get1 (pc := 19) 9 4 34 dX9_settleTogether_19 (fl_RX9_34 rfl) (by decide) rfl (c9_o h9) (c9_p4 h9) ?_
  refine r_iload_n (pc := 22) dX9_settleTogether_22 rfl ?_
  refine r_putI (pc := 23) (v := nI cap) 7 1 149 dX9_settleTogether_23 (fl_RX9_149 rfl) (by decide) rfl rfl (c7_o (c9_s4 h9)) ?_
  obtain ⟨Ib, hIb⟩ : ∃ zz0 : Im, zz0 = up2 (up2 Ia 22 0 (allJ (dK s k))) 22 1 (nI cap) := ⟨_, rfl⟩
  refine wp_M (M2 := (Ib, G)) (by subst hIb; rfl) ?_
  have hfb : ∀ a j, a ≠ 22 → Ib a j = Ia a j := fun a j z => by rw [hIb, up2_rd (by omega), up2_rd (by omega)]
  have hvb : ∀ j, j < 6 → Ib 22 j = tmv (allJ (dK s k), cap, false, false) j := six (by rw [hIb]; exact (up2_rd (by omega)).trans up2_at) (by rw [hIb]; exact up2_at) (by rw [hIb, up2_rd (by omega), up2_rd (by omega), hIa]; exact setTm_at (by omega)) (by rw [hIb, up2_rd (by omega), up2_rd (by omega), hIa]; exact setTm_at (by omega)) (by rw [hIb, up2_rd (by omega), up2_rd (by omega), hIa]; exact setTm_at (by omega)) (by rw [hIb, up2_rd (by omega), up2_rd (by omega), hIa]; exact setTm_at (by omega))
  have hC : Ci s Ib G := hC.kq (fun a j z => hfb a j (by omega))
  have hFr : FrC I Ib := hFr.tr (fun a j z => hfb a j (by omega))
  have hTr := (hC.ok hk).2
  have h9 := hC.1.1
  have h8 := hC.1.2.1 k (by omega)
  have htc := trc_of hok.1 hTr.1 (tdT (sD s k))
  refine r_aload_n (pc := 26) dX9_settleTogether_26 rfl ?_
  refine r_get1 (pc := 27) 9 6 45 dX9_settleTogether_27 (fl_RX9_45 rfl) (by decide) rfl (c9_o h9) (c9_p6 h9) ?_
  refine r_aload_n (pc := 30) dX9_settleTogether_30 rfl ?_
  refine r_aload_n (pc := 31) dX9_settleTogether_31 rfl ?_
  refine r_get1 (pc := 32) 9 4 34 dX9_settleTogether_32 (fl_RX9_34 rfl) (by decide) rfl (c9_o h9) (c9_p4 h9) ?_
  refine r_callV_U (pc := 35) (b := 67) (As := [.ref (tA k), .ref 22]) 5 166 dX9_settleTogether_35 lk_X5_settle (ml_RX9_166 rfl) im_X5_settle se_X5_settle (by decide) (c5_o (c9_s6 h9)) (Nat.le_of_ble_eq_true rfl) rfl (settle_t (τ := (allJ (dK s k), cap, false, false)) hC hk (by omega) (Or.inl rfl) hcap hvb) (fun M1 h1 => ?_)
  obtain ⟨I1, G1, rfl, hC, hg1, hV1, hf1, hm1, hτ1, hce1⟩ := h1
  have hO1 : OcE I1 67 (eT (dK s k) (allJ (dK s k), cap, false, false)) := oce_of (src_of hok.1 _) (wbc_of hok.1 _) hc60 hV1
  have hFr : FrC I I1 := hFr.tr (fun a j z => hf1 a j (by omega))
  have hGk : Geq G G1 := hGk.tr hg1
  have hTr := (hC.ok hk).2
  have h9 := hC.1.1
  have h8 := hC.1.2.1 k (by omega)
  have htc := trc_of hok.1 hTr.1 (tdT (sD s k))
  refine r_ret_v (pc := 38) dX9_settleTogether_38 rfl ?_
  exact ⟨rfl, I1, G1, rfl, hC, hGk, hV1, fun a j z1 z2 => (hf1 a j z2).trans ((hfb a j z1).trans (hfa a j z1))⟩

set_option maxRecDepth 100000 in
theorem settleFree_ct {d : Nat} {I : Im} {G : Gm} {s : Sta} (hC : Ci s I G) {k : Nat} (hk : k < sN s) : Ct (d + 6) 0 0 YX9_settleFree [.ref 0, .ref (tA k)] (I, G) (qU (fun M => ∃ (I2 : Im) (G2 : Gm), M = (I2, G2) ∧ Ci s I2 G2 ∧ Geq G G2 ∧ MkV I2 67 (eT (dK s k) (0, 41, false, false)) ∧ (∀ a j, a ≠ 22 → ¬ (67 ≤ a ∧ a < 111) → I2 a j = I a j))) := by
  refine Ct.of (by decide) (by simp [Value.category]) (Nat.le_of_ble_eq_true rfl) ?_
  have h9 := hC.1.1
  have hcn10 := hC.2.1.2.1
  have hFr : FrC I I := FrC.rf
  have hGk : Geq G G := Geq.rf
  have h8 := hC.1.2.1 k (by omega)
  obtain ⟨hok, hTr⟩ := hC.ok hk
  have hn8 : dN (dK s k) ≤ 8 := hok.1.1.2
  have hoff := tA_off k
  have hE := src_of hok.1 (tdT (sD s k))
  have hW := wbc_of hok.1 (tdT (sD s k))
  have hc60 : ∀ b, dC (dK s k) b ≤ 60 := fun b => Nat.le_trans (hok.1.2.1 b) (by omega)
  have htc := trc_of hok.1 hTr.1 (tdT (sD s k))
  show wp _ _ _ _ 0 [some (.ref 0), some (.ref (tA k))] [] _ _
  refine r_aload_n (pc := 0) dX9_settleFree_0 rfl ?_
  refine r_get1 (pc := 1) 9 4 34 dX9_settleFree_1 (fl_RX9_34 rfl) (by decide) rfl (c9_o h9) (c9_p4 h9) ?_
  refine r_callV_V (pc := 4) (b := 22) (As := []) 7 304 dX9_settleFree_4 lk_X7_reset (ml_RX9_304 rfl) im_X7_reset se_X7_reset (by decide) (c7_o (c9_s4 h9)) (Nat.le_of_ble_eq_true rfl) rfl (reset_ct (c9_s4 h9)) (fun Ia hIa => ?_)
  have hC : Ci s Ia G := hC.kq (fun a j z => by rw [hIa]; exact setTm_o (by omega))
  have hfa : ∀ a j, a ≠ 22 → Ia a j = I a j := fun a j z => by rw [hIa]; exact setTm_o z
  have hFr : FrC I Ia := hFr.tr (fun a j z => hfa a j (by omega))
  have hTr := (hC.ok hk).2
  have h9 := hC.1.1
  have h8 := hC.1.2.1 k (by omega)
  have htc := trc_of hok.1 hTr.1 (tdT (sD s k))
  refine r_aload_n (pc := 7) dX9_settleFree_7 rfl ?_
  have hva : ∀ j, j < 6 → Ia 22 j = tmv (0, 41, false, false) j := fun j hj => by rw [hIa, setTm_at hj]; rfl
  refine r_get1 (pc := 8) 9 6 45 dX9_settleFree_8 (fl_RX9_45 rfl) (by decide) rfl (c9_o h9) (c9_p6 h9) ?_
  refine r_aload_n (pc := 11) dX9_settleFree_11 rfl ?_
  refine r_aload_n (pc := 12) dX9_settleFree_12 rfl ?_
  refine r_get1 (pc := 13) 9 4 34 dX9_settleFree_13 (fl_RX9_34 rfl) (by decide) rfl (c9_o h9) (c9_p4 h9) ?_
  refine r_callV_U (pc := 16) (b := 67) (As := [.ref (tA k), .ref 22]) 5 166 dX9_settleFree_16 lk_X5_settle (ml_RX9_166 rfl) im_X5_settle se_X5_settle (by decide) (c5_o (c9_s6 h9)) (Nat.le_of_ble_eq_true rfl) rfl (settle_t (τ := (0, 41, false, false)) hC hk (by omega) (Or.inl rfl) (Nat.le_refl 41) hva) (fun M1 h1 => ?_)
  obtain ⟨I1, G1, rfl, hC, hg1, hV1, hf1, hm1, hτ1, hce1⟩ := h1
  have hO1 : OcE I1 67 (eT (dK s k) (0, 41, false, false)) := oce_of (src_of hok.1 _) (wbc_of hok.1 _) hc60 hV1
  have hFr : FrC I I1 := hFr.tr (fun a j z => hf1 a j (by omega))
  have hGk : Geq G G1 := hGk.tr hg1
  have hTr := (hC.ok hk).2
  have h9 := hC.1.1
  have h8 := hC.1.2.1 k (by omega)
  have htc := trc_of hok.1 hTr.1 (tdT (sD s k))
  refine r_ret_v (pc := 19) dX9_settleFree_19 rfl ?_
  exact ⟨rfl, I1, G1, rfl, hC, hGk, hV1, fun a j z1 z2 => (hf1 a j z2).trans (hfa a j z1)⟩

set_option maxRecDepth 100000 in
theorem outcome_c {d : Nat} {I : Im} {G : Gm} {s : Sta} (hC : Ci s I G) {t : Int32} {h : Int32} {w : Int32} : Ct (d + 6) 0 0 YX9_outcome [.ref 0, .int t, .int h, .int w] (I, G) (qX (PcQ s I G (aOutcome s t h w))) := by
  refine Ct.of (by decide) (by simp [Value.category]) (Nat.le_of_ble_eq_true rfl) ?_
  have h9 := hC.1.1
  have hcn10 := hC.2.1.2.1
  have hFr : FrC I I := FrC.rf
  have hGk : Geq G G := Geq.rf
  show wp _ _ _ _ 0 [some (.ref 0), some (.int t), some (.int h), some (.int w), none] [] _ _
  rcases in_cases (n := sN s) (by have := hcn10; omega) t with ⟨k, hk, rfl, et⟩ | ⟨et, hnot⟩
  · skip
    have h8 := hC.1.2.1 k (by omega)
    obtain ⟨hok, hTr⟩ := hC.ok hk
    have hn8 : dN (dK s k) ≤ 8 := hok.1.1.2
    have hoff := tA_off k
    have hE := src_of hok.1 (tdT (sD s k))
    have hW := wbc_of hok.1 (tdT (sD s k))
    have hc60 : ∀ b, dC (dK s k) b ≤ 60 := fun b => Nat.le_trans (hok.1.2.1 b) (by omega)
    have htc := trc_of hok.1 hTr.1 (tdT (sD s k))
    rcases in_cases (n := dN (dK s k)) (by have := hn8; omega) h with ⟨hn, hhn, rfl, eh⟩ | ⟨eh, hnoh⟩
    · skip
      rcases in_cases (n := 4) (by omega) w with ⟨wn, hwn, rfl, ew⟩ | ⟨ew, hnow⟩
      · skip
        rcases (show wn = 0 ∨ wn = 1 ∨ wn = 2 ∨ wn = 3 by omega) with rfl | rfl | rfl | rfl
        · skip
          refine r_aload_n (pc := 0) dX9_outcome_0 rfl ?_
          refine r_iload_n (pc := 1) dX9_outcome_1 rfl ?_
          refine r_callV_R (pc := 2) (b := 0) (As := [.int (nI k)]) 9 98 dX9_outcome_2 lk_X9_find (ml_RX9_98 rfl) im_X9_find se_X9_find (by decide) (c9_o h9) (Nat.le_of_ble_eq_true rfl) rfl (find_ct hC.1.1 hC.2.1.1 hcn10 hk (hC.1.2.2.1 k hk)) ?_
          refine r_astore (pc := 5) (L' := [some (.ref 0), some (.int (nI k)), some (.int (nI hn)), some (.int (nI 0)), some (.ref (tA k))]) dX9_outcome_5 (by decide) rfl rfl ?_
          refine r_aload (pc := 7) dX9_outcome_7 rfl ?_
          refine r_ifnullR (pc := 9) dX9_outcome_9 ?_
          refine r_aload (pc := 12) dX9_outcome_12 rfl ?_
          refine r_iload_n (pc := 14) dX9_outcome_14 rfl ?_
          refine r_callV_P (pc := 15) (b := tA k) (As := [.int (nI hn)]) 8 102 dX9_outcome_15 lk_X8_holds (ml_RX9_102 rfl) im_X8_holds se_X8_holds (by decide) (c8_o h8) (Nat.le_of_ble_eq_true rfl) rfl (holds_y h8 hTr.1.1 hn8 hhn) ?_
          refine r_if_eq_n (pc := 18) (a := 1) (tgt := 30) dX9_outcome_18 (by decide) (by omega) (fun c18 => ?_) (fun c18 => ?_)
          · exfalso; omega
          · skip
            refine r_iload_n (pc := 21) dX9_outcome_21 rfl ?_
            refine r_if_lt_n (pc := 22) (a := 0) (tgt := 30) dX9_outcome_22 (by decide) (by omega) ?_
            refine r_iload_n (pc := 25) dX9_outcome_25 rfl ?_
            refine r_iconst (pc := 26) (v := 3) dX9_outcome_26 (by decide) ?_
            refine r_icmp_le_n (pc := 27) (a := 0) (b := 3) (tgt := 33) dX9_outcome_27 (by decide) (by omega) (by omega) (fun c27 => ?_) (fun c27 => ?_)
            · skip
              refine r_aload_n (pc := 33) dX9_outcome_33 rfl ?_
              refine r_get1 (pc := 34) 9 5 41 dX9_outcome_34 (fl_RX9_41 rfl) (by decide) rfl (c9_o h9) (c9_p5 h9) ?_
              refine r_aload (pc := 37) dX9_outcome_37 rfl ?_
              refine r_aload (pc := 39) dX9_outcome_39 rfl ?_
              refine r_get1 (pc := 41) 8 7 143 dX9_outcome_41 (fl_RX9_143 rfl) (by decide) rfl (c8_o h8) (c8_p7 h8) ?_
              refine r_callV_U (pc := 44) (b := 23) (As := [.ref (tA k), .ref ((tA k) + 14)]) 5 166 dX9_outcome_44 lk_X5_settle (ml_RX9_166 rfl) im_X5_settle se_X5_settle (by decide) (c5_o (c9_s5 h9)) (Nat.le_of_ble_eq_true rfl) rfl (settle_t (τ := (tdT (sD s k))) hC hk (by omega) (Or.inr rfl) hok.2.1 hTr.2.1) (fun M1 h1 => ?_)
              obtain ⟨I1, G1, rfl, hC, hg1, hV1, hf1, hm1, hτ1, hce1⟩ := h1
              have hO1 : OcE I1 23 (eT (dK s k) (tdT (sD s k))) := oce_of (src_of hok.1 _) (wbc_of hok.1 _) hc60 hV1
              have hFr : FrC I I1 := hFr.tr (fun a j z => hf1 a j (by omega))
              have hGk : Geq G G1 := hGk.tr hg1
              have hTr := (hC.ok hk).2
              have h9 := hC.1.1
              have h8 := hC.1.2.1 k (by omega)
              have htc := trc_of hok.1 hTr.1 (tdT (sD s k))
              refine r_iload_n (pc := 47) dX9_outcome_47 rfl ?_
              refine r_tblIn (pc := 48) (x := nI 0) (off := 28) (tgt := 76) dX9_outcome_48 (by decide) (by decide) (by decide) (by decide) ?_
              refine r_aload_n (pc := 76) dX9_outcome_76 rfl ?_
              refine r_get1 (pc := 77) 9 5 41 dX9_outcome_77 (fl_RX9_41 rfl) (by decide) rfl (c9_o h9) (c9_p5 h9) ?_
              refine r_get1 (pc := 80) 5 7 175 dX9_outcome_80 (fl_RX9_175 rfl) (by decide) rfl (c5_o (c9_s5 h9)) (c5_p7 (c9_s5 h9)) ?_
              refine r_iload_n (pc := 83) dX9_outcome_83 rfl ?_
              refine r_iald_n (pc := 84) (i := hn) dX9_outcome_84 (c5_a7 (c9_s5 h9)) (by decide) (by omega) (v := nI (pdF (eT (dK s k) (tdT (sD s k))) idq hn)) ((hO1 hn (by show hn < dN (dK s k); omega)).1) ?_
              refine r_ret_i (pc := 85) dX9_outcome_85 rfl ?_
              exact ⟨_, rfl, I1, G1, rfl, (by unfold aOutcome; rw [atN_s et, atN_s eh, atN_s ew] <;> rfl), hC, hFr.m, hGk.gk⟩
            · exfalso; omega
        · skip
          refine r_aload_n (pc := 0) dX9_outcome_0 rfl ?_
          refine r_iload_n (pc := 1) dX9_outcome_1 rfl ?_
          refine r_callV_R (pc := 2) (b := 0) (As := [.int (nI k)]) 9 98 dX9_outcome_2 lk_X9_find (ml_RX9_98 rfl) im_X9_find se_X9_find (by decide) (c9_o h9) (Nat.le_of_ble_eq_true rfl) rfl (find_ct hC.1.1 hC.2.1.1 hcn10 hk (hC.1.2.2.1 k hk)) ?_
          refine r_astore (pc := 5) (L' := [some (.ref 0), some (.int (nI k)), some (.int (nI hn)), some (.int (nI 1)), some (.ref (tA k))]) dX9_outcome_5 (by decide) rfl rfl ?_
          refine r_aload (pc := 7) dX9_outcome_7 rfl ?_
          refine r_ifnullR (pc := 9) dX9_outcome_9 ?_
          refine r_aload (pc := 12) dX9_outcome_12 rfl ?_
          refine r_iload_n (pc := 14) dX9_outcome_14 rfl ?_
          refine r_callV_P (pc := 15) (b := tA k) (As := [.int (nI hn)]) 8 102 dX9_outcome_15 lk_X8_holds (ml_RX9_102 rfl) im_X8_holds se_X8_holds (by decide) (c8_o h8) (Nat.le_of_ble_eq_true rfl) rfl (holds_y h8 hTr.1.1 hn8 hhn) ?_
          refine r_if_eq_n (pc := 18) (a := 1) (tgt := 30) dX9_outcome_18 (by decide) (by omega) (fun c18 => ?_) (fun c18 => ?_)
          · exfalso; omega
          · skip
            refine r_iload_n (pc := 21) dX9_outcome_21 rfl ?_
            refine r_if_lt_n (pc := 22) (a := 1) (tgt := 30) dX9_outcome_22 (by decide) (by omega) ?_
            refine r_iload_n (pc := 25) dX9_outcome_25 rfl ?_
            refine r_iconst (pc := 26) (v := 3) dX9_outcome_26 (by decide) ?_
            refine r_icmp_le_n (pc := 27) (a := 1) (b := 3) (tgt := 33) dX9_outcome_27 (by decide) (by omega) (by omega) (fun c27 => ?_) (fun c27 => ?_)
            · skip
              refine r_aload_n (pc := 33) dX9_outcome_33 rfl ?_
              refine r_get1 (pc := 34) 9 5 41 dX9_outcome_34 (fl_RX9_41 rfl) (by decide) rfl (c9_o h9) (c9_p5 h9) ?_
              refine r_aload (pc := 37) dX9_outcome_37 rfl ?_
              refine r_aload (pc := 39) dX9_outcome_39 rfl ?_
              refine r_get1 (pc := 41) 8 7 143 dX9_outcome_41 (fl_RX9_143 rfl) (by decide) rfl (c8_o h8) (c8_p7 h8) ?_
              refine r_callV_U (pc := 44) (b := 23) (As := [.ref (tA k), .ref ((tA k) + 14)]) 5 166 dX9_outcome_44 lk_X5_settle (ml_RX9_166 rfl) im_X5_settle se_X5_settle (by decide) (c5_o (c9_s5 h9)) (Nat.le_of_ble_eq_true rfl) rfl (settle_t (τ := (tdT (sD s k))) hC hk (by omega) (Or.inr rfl) hok.2.1 hTr.2.1) (fun M1 h1 => ?_)
              obtain ⟨I1, G1, rfl, hC, hg1, hV1, hf1, hm1, hτ1, hce1⟩ := h1
              have hO1 : OcE I1 23 (eT (dK s k) (tdT (sD s k))) := oce_of (src_of hok.1 _) (wbc_of hok.1 _) hc60 hV1
              have hFr : FrC I I1 := hFr.tr (fun a j z => hf1 a j (by omega))
              have hGk : Geq G G1 := hGk.tr hg1
              have hTr := (hC.ok hk).2
              have h9 := hC.1.1
              have h8 := hC.1.2.1 k (by omega)
              have htc := trc_of hok.1 hTr.1 (tdT (sD s k))
              refine r_iload_n (pc := 47) dX9_outcome_47 rfl ?_
              refine r_tblIn (pc := 48) (x := nI 1) (off := 38) (tgt := 86) dX9_outcome_48 (by decide) (by decide) (by decide) (by decide) ?_
              refine r_aload_n (pc := 86) dX9_outcome_86 rfl ?_
              refine r_get1 (pc := 87) 9 5 41 dX9_outcome_87 (fl_RX9_41 rfl) (by decide) rfl (c9_o h9) (c9_p5 h9) ?_
              refine r_get1 (pc := 90) 5 9 178 dX9_outcome_90 (fl_RX9_178 rfl) (by decide) rfl (c5_o (c9_s5 h9)) (c5_p9 (c9_s5 h9)) ?_
              refine r_iload_n (pc := 93) dX9_outcome_93 rfl ?_
              refine r_iald_n (pc := 94) (i := hn) dX9_outcome_94 (c5_a9 (c9_s5 h9)) (by decide) (by omega) (v := akF (eT (dK s k) (tdT (sD s k))) idq hn) ((hO1 hn (by show hn < dN (dK s k); omega)).2.2.1) ?_
              refine r_ret_i (pc := 95) dX9_outcome_95 rfl ?_
              exact ⟨_, rfl, I1, G1, rfl, (by unfold aOutcome; rw [atN_s et, atN_s eh, atN_s ew] <;> rfl), hC, hFr.m, hGk.gk⟩
            · exfalso; omega
        · skip
          refine r_aload_n (pc := 0) dX9_outcome_0 rfl ?_
          refine r_iload_n (pc := 1) dX9_outcome_1 rfl ?_
          refine r_callV_R (pc := 2) (b := 0) (As := [.int (nI k)]) 9 98 dX9_outcome_2 lk_X9_find (ml_RX9_98 rfl) im_X9_find se_X9_find (by decide) (c9_o h9) (Nat.le_of_ble_eq_true rfl) rfl (find_ct hC.1.1 hC.2.1.1 hcn10 hk (hC.1.2.2.1 k hk)) ?_
          refine r_astore (pc := 5) (L' := [some (.ref 0), some (.int (nI k)), some (.int (nI hn)), some (.int (nI 2)), some (.ref (tA k))]) dX9_outcome_5 (by decide) rfl rfl ?_
          refine r_aload (pc := 7) dX9_outcome_7 rfl ?_
          refine r_ifnullR (pc := 9) dX9_outcome_9 ?_
          refine r_aload (pc := 12) dX9_outcome_12 rfl ?_
          refine r_iload_n (pc := 14) dX9_outcome_14 rfl ?_
          refine r_callV_P (pc := 15) (b := tA k) (As := [.int (nI hn)]) 8 102 dX9_outcome_15 lk_X8_holds (ml_RX9_102 rfl) im_X8_holds se_X8_holds (by decide) (c8_o h8) (Nat.le_of_ble_eq_true rfl) rfl (holds_y h8 hTr.1.1 hn8 hhn) ?_
          refine r_if_eq_n (pc := 18) (a := 1) (tgt := 30) dX9_outcome_18 (by decide) (by omega) (fun c18 => ?_) (fun c18 => ?_)
          · exfalso; omega
          · skip
            refine r_iload_n (pc := 21) dX9_outcome_21 rfl ?_
            refine r_if_lt_n (pc := 22) (a := 2) (tgt := 30) dX9_outcome_22 (by decide) (by omega) ?_
            refine r_iload_n (pc := 25) dX9_outcome_25 rfl ?_
            refine r_iconst (pc := 26) (v := 3) dX9_outcome_26 (by decide) ?_
            refine r_icmp_le_n (pc := 27) (a := 2) (b := 3) (tgt := 33) dX9_outcome_27 (by decide) (by omega) (by omega) (fun c27 => ?_) (fun c27 => ?_)
            · skip
              refine r_aload_n (pc := 33) dX9_outcome_33 rfl ?_
              refine r_get1 (pc := 34) 9 5 41 dX9_outcome_34 (fl_RX9_41 rfl) (by decide) rfl (c9_o h9) (c9_p5 h9) ?_
              refine r_aload (pc := 37) dX9_outcome_37 rfl ?_
              refine r_aload (pc := 39) dX9_outcome_39 rfl ?_
              refine r_get1 (pc := 41) 8 7 143 dX9_outcome_41 (fl_RX9_143 rfl) (by decide) rfl (c8_o h8) (c8_p7 h8) ?_
              refine r_callV_U (pc := 44) (b := 23) (As := [.ref (tA k), .ref ((tA k) + 14)]) 5 166 dX9_outcome_44 lk_X5_settle (ml_RX9_166 rfl) im_X5_settle se_X5_settle (by decide) (c5_o (c9_s5 h9)) (Nat.le_of_ble_eq_true rfl) rfl (settle_t (τ := (tdT (sD s k))) hC hk (by omega) (Or.inr rfl) hok.2.1 hTr.2.1) (fun M1 h1 => ?_)
              obtain ⟨I1, G1, rfl, hC, hg1, hV1, hf1, hm1, hτ1, hce1⟩ := h1
              have hO1 : OcE I1 23 (eT (dK s k) (tdT (sD s k))) := oce_of (src_of hok.1 _) (wbc_of hok.1 _) hc60 hV1
              have hFr : FrC I I1 := hFr.tr (fun a j z => hf1 a j (by omega))
              have hGk : Geq G G1 := hGk.tr hg1
              have hTr := (hC.ok hk).2
              have h9 := hC.1.1
              have h8 := hC.1.2.1 k (by omega)
              have htc := trc_of hok.1 hTr.1 (tdT (sD s k))
              refine r_iload_n (pc := 47) dX9_outcome_47 rfl ?_
              refine r_tblIn (pc := 48) (x := nI 2) (off := 48) (tgt := 96) dX9_outcome_48 (by decide) (by decide) (by decide) (by decide) ?_
              refine r_aload_n (pc := 96) dX9_outcome_96 rfl ?_
              refine r_get1 (pc := 97) 9 5 41 dX9_outcome_97 (fl_RX9_41 rfl) (by decide) rfl (c9_o h9) (c9_p5 h9) ?_
              refine r_get1 (pc := 100) 5 10 181 dX9_outcome_100 (fl_RX9_181 rfl) (by decide) rfl (c5_o (c9_s5 h9)) (c5_p10 (c9_s5 h9)) ?_
              refine r_iload_n (pc := 103) dX9_outcome_103 rfl ?_
              refine r_iald_n (pc := 104) (i := hn) dX9_outcome_104 (c5_a10 (c9_s5 h9)) (by decide) (by omega) (v := (mk (eT (dK s k) (tdT (sD s k))) idq hn (spF (eT (dK s k) (tdT (sD s k))) idq hn)).1) ((hO1 hn (by show hn < dN (dK s k); omega)).2.2.2.1) ?_
              refine r_ret_i (pc := 105) dX9_outcome_105 rfl ?_
              exact ⟨_, rfl, I1, G1, rfl, (by unfold aOutcome; rw [atN_s et, atN_s eh, atN_s ew] <;> rfl), hC, hFr.m, hGk.gk⟩
            · exfalso; omega
        · skip
          refine r_aload_n (pc := 0) dX9_outcome_0 rfl ?_
          refine r_iload_n (pc := 1) dX9_outcome_1 rfl ?_
          refine r_callV_R (pc := 2) (b := 0) (As := [.int (nI k)]) 9 98 dX9_outcome_2 lk_X9_find (ml_RX9_98 rfl) im_X9_find se_X9_find (by decide) (c9_o h9) (Nat.le_of_ble_eq_true rfl) rfl (find_ct hC.1.1 hC.2.1.1 hcn10 hk (hC.1.2.2.1 k hk)) ?_
          refine r_astore (pc := 5) (L' := [some (.ref 0), some (.int (nI k)), some (.int (nI hn)), some (.int (nI 3)), some (.ref (tA k))]) dX9_outcome_5 (by decide) rfl rfl ?_
          refine r_aload (pc := 7) dX9_outcome_7 rfl ?_
          refine r_ifnullR (pc := 9) dX9_outcome_9 ?_
          refine r_aload (pc := 12) dX9_outcome_12 rfl ?_
          refine r_iload_n (pc := 14) dX9_outcome_14 rfl ?_
          refine r_callV_P (pc := 15) (b := tA k) (As := [.int (nI hn)]) 8 102 dX9_outcome_15 lk_X8_holds (ml_RX9_102 rfl) im_X8_holds se_X8_holds (by decide) (c8_o h8) (Nat.le_of_ble_eq_true rfl) rfl (holds_y h8 hTr.1.1 hn8 hhn) ?_
          refine r_if_eq_n (pc := 18) (a := 1) (tgt := 30) dX9_outcome_18 (by decide) (by omega) (fun c18 => ?_) (fun c18 => ?_)
          · exfalso; omega
          · skip
            refine r_iload_n (pc := 21) dX9_outcome_21 rfl ?_
            refine r_if_lt_n (pc := 22) (a := 3) (tgt := 30) dX9_outcome_22 (by decide) (by omega) ?_
            refine r_iload_n (pc := 25) dX9_outcome_25 rfl ?_
            refine r_iconst (pc := 26) (v := 3) dX9_outcome_26 (by decide) ?_
            refine r_icmp_le_n (pc := 27) (a := 3) (b := 3) (tgt := 33) dX9_outcome_27 (by decide) (by omega) (by omega) (fun c27 => ?_) (fun c27 => ?_)
            · skip
              refine r_aload_n (pc := 33) dX9_outcome_33 rfl ?_
              refine r_get1 (pc := 34) 9 5 41 dX9_outcome_34 (fl_RX9_41 rfl) (by decide) rfl (c9_o h9) (c9_p5 h9) ?_
              refine r_aload (pc := 37) dX9_outcome_37 rfl ?_
              refine r_aload (pc := 39) dX9_outcome_39 rfl ?_
              refine r_get1 (pc := 41) 8 7 143 dX9_outcome_41 (fl_RX9_143 rfl) (by decide) rfl (c8_o h8) (c8_p7 h8) ?_
              refine r_callV_U (pc := 44) (b := 23) (As := [.ref (tA k), .ref ((tA k) + 14)]) 5 166 dX9_outcome_44 lk_X5_settle (ml_RX9_166 rfl) im_X5_settle se_X5_settle (by decide) (c5_o (c9_s5 h9)) (Nat.le_of_ble_eq_true rfl) rfl (settle_t (τ := (tdT (sD s k))) hC hk (by omega) (Or.inr rfl) hok.2.1 hTr.2.1) (fun M1 h1 => ?_)
              obtain ⟨I1, G1, rfl, hC, hg1, hV1, hf1, hm1, hτ1, hce1⟩ := h1
              have hO1 : OcE I1 23 (eT (dK s k) (tdT (sD s k))) := oce_of (src_of hok.1 _) (wbc_of hok.1 _) hc60 hV1
              have hFr : FrC I I1 := hFr.tr (fun a j z => hf1 a j (by omega))
              have hGk : Geq G G1 := hGk.tr hg1
              have hTr := (hC.ok hk).2
              have h9 := hC.1.1
              have h8 := hC.1.2.1 k (by omega)
              have htc := trc_of hok.1 hTr.1 (tdT (sD s k))
              refine r_iload_n (pc := 47) dX9_outcome_47 rfl ?_
              refine r_tblOut (pc := 48) (x := nI 3) (tgt := 106) dX9_outcome_48 (by decide) (by decide) ?_
              refine r_aload_n (pc := 106) dX9_outcome_106 rfl ?_
              refine r_get1 (pc := 107) 9 5 41 dX9_outcome_107 (fl_RX9_41 rfl) (by decide) rfl (c9_o h9) (c9_p5 h9) ?_
              refine r_get1 (pc := 110) 5 11 184 dX9_outcome_110 (fl_RX9_184 rfl) (by decide) rfl (c5_o (c9_s5 h9)) (c5_p11 (c9_s5 h9)) ?_
              refine r_iload_n (pc := 113) dX9_outcome_113 rfl ?_
              refine r_iald_n (pc := 114) (i := hn) dX9_outcome_114 (c5_a11 (c9_s5 h9)) (by decide) (by omega) (v := erM (eT (dK s k) (tdT (sD s k))) hn) ((hO1 hn (by show hn < dN (dK s k); omega)).2.2.2.2) ?_
              refine r_ret_i (pc := 115) dX9_outcome_115 rfl ?_
              exact ⟨_, rfl, I1, G1, rfl, (by unfold aOutcome; rw [atN_s et, atN_s eh, atN_s ew] <;> rfl), hC, hFr.m, hGk.gk⟩
            · exfalso; omega
      · skip
        refine r_aload_n (pc := 0) dX9_outcome_0 rfl ?_
        refine r_iload_n (pc := 1) dX9_outcome_1 rfl ?_
        refine r_callV_R (pc := 2) (b := 0) (As := [.int (nI k)]) 9 98 dX9_outcome_2 lk_X9_find (ml_RX9_98 rfl) im_X9_find se_X9_find (by decide) (c9_o h9) (Nat.le_of_ble_eq_true rfl) rfl (find_ct hC.1.1 hC.2.1.1 hcn10 hk (hC.1.2.2.1 k hk)) ?_
        refine r_astore (pc := 5) (L' := [some (.ref 0), some (.int (nI k)), some (.int (nI hn)), some (.int w), some (.ref (tA k))]) dX9_outcome_5 (by decide) rfl rfl ?_
        refine r_aload (pc := 7) dX9_outcome_7 rfl ?_
        refine r_ifnullR (pc := 9) dX9_outcome_9 ?_
        refine r_aload (pc := 12) dX9_outcome_12 rfl ?_
        refine r_iload_n (pc := 14) dX9_outcome_14 rfl ?_
        refine r_callV_P (pc := 15) (b := tA k) (As := [.int (nI hn)]) 8 102 dX9_outcome_15 lk_X8_holds (ml_RX9_102 rfl) im_X8_holds se_X8_holds (by decide) (c8_o h8) (Nat.le_of_ble_eq_true rfl) rfl (holds_y h8 hTr.1.1 hn8 hhn) ?_
        refine r_if_eq_n (pc := 18) (a := 1) (tgt := 30) dX9_outcome_18 (by decide) (by omega) (fun c18 => ?_) (fun c18 => ?_)
        · exfalso; omega
        · skip
          refine r_iload_n (pc := 21) dX9_outcome_21 rfl ?_
          refine r_if_lt (pc := 22) (x := w) (tgt := 30) dX9_outcome_22 (by decide) (fun c22 => ?_) (fun c22 => ?_)
          · skip
            refine r_ldc (pc := 30) (v := -100000000) dX9_outcome_30 (kc_RX9_174 rfl) ?_
            refine r_ret_i (pc := 32) dX9_outcome_32 rfl ?_
            exact ⟨_, rfl, I, G, rfl, (by unfold aOutcome; rw [atN_s et, atN_s eh, atN_n ew] <;> rfl), hC, hFr.m, hGk.gk⟩
          · skip
            refine r_iload_n (pc := 25) dX9_outcome_25 rfl ?_
            refine r_iconst (pc := 26) (v := 3) dX9_outcome_26 (by decide) ?_
            refine r_icmp_le (pc := 27) (x := w) (z := 3) (tgt := 33) dX9_outcome_27 (by decide) (fun c27 => ?_) (fun c27 => ?_)
            · exfalso; exact rg_no (n := 3) (by omega) hnow c22 c27
            · skip
              refine r_ldc (pc := 30) (v := -100000000) dX9_outcome_30 (kc_RX9_174 rfl) ?_
              refine r_ret_i (pc := 32) dX9_outcome_32 rfl ?_
              exact ⟨_, rfl, I, G, rfl, (by unfold aOutcome; rw [atN_s et, atN_s eh, atN_n ew] <;> rfl), hC, hFr.m, hGk.gk⟩
    · skip
      refine r_aload_n (pc := 0) dX9_outcome_0 rfl ?_
      refine r_iload_n (pc := 1) dX9_outcome_1 rfl ?_
      refine r_callV_R (pc := 2) (b := 0) (As := [.int (nI k)]) 9 98 dX9_outcome_2 lk_X9_find (ml_RX9_98 rfl) im_X9_find se_X9_find (by decide) (c9_o h9) (Nat.le_of_ble_eq_true rfl) rfl (find_ct hC.1.1 hC.2.1.1 hcn10 hk (hC.1.2.2.1 k hk)) ?_
      refine r_astore (pc := 5) (L' := [some (.ref 0), some (.int (nI k)), some (.int h), some (.int w), some (.ref (tA k))]) dX9_outcome_5 (by decide) rfl rfl ?_
      refine r_aload (pc := 7) dX9_outcome_7 rfl ?_
      refine r_ifnullR (pc := 9) dX9_outcome_9 ?_
      refine r_aload (pc := 12) dX9_outcome_12 rfl ?_
      refine r_iload_n (pc := 14) dX9_outcome_14 rfl ?_
      refine r_callV_P (pc := 15) (b := tA k) (As := [.int h]) 8 102 dX9_outcome_15 lk_X8_holds (ml_RX9_102 rfl) im_X8_holds se_X8_holds (by decide) (c8_o h8) (Nat.le_of_ble_eq_true rfl) rfl (holds_n h8 hTr.1.1 hnoh) ?_
      refine r_if_eq_n (pc := 18) (a := 0) (tgt := 30) dX9_outcome_18 (by decide) (by omega) (fun c18 => ?_) (fun c18 => ?_)
      · skip
        refine r_ldc (pc := 30) (v := -100000000) dX9_outcome_30 (kc_RX9_174 rfl) ?_
        refine r_ret_i (pc := 32) dX9_outcome_32 rfl ?_
        exact ⟨_, rfl, I, G, rfl, (by unfold aOutcome; rw [atN_s et, atN_n eh] <;> rfl), hC, hFr.m, hGk.gk⟩
      · exfalso; omega
  · skip
    refine r_aload_n (pc := 0) dX9_outcome_0 rfl ?_
    refine r_iload_n (pc := 1) dX9_outcome_1 rfl ?_
    refine r_callV_R (pc := 2) (b := 0) (As := [.int t]) 9 98 dX9_outcome_2 lk_X9_find (ml_RX9_98 rfl) im_X9_find se_X9_find (by decide) (c9_o h9) (Nat.le_of_ble_eq_true rfl) rfl (find_no hC.1.1 (by rw [hC.2.1.1]; exact hnot)) ?_
    refine r_astoreN (pc := 5) (L' := [some (.ref 0), some (.int t), some (.int h), some (.int w), some (.null)]) dX9_outcome_5 (by decide) rfl rfl ?_
    refine r_aloadN (pc := 7) dX9_outcome_7 rfl ?_
    refine r_ifnullN (pc := 9) (tgt := 30) dX9_outcome_9 (by decide) ?_
    refine r_ldc (pc := 30) (v := -100000000) dX9_outcome_30 (kc_RX9_174 rfl) ?_
    refine r_ret_i (pc := 32) dX9_outcome_32 rfl ?_
    exact ⟨_, rfl, I, G, rfl, (by unfold aOutcome; rw [atN_n et] <;> rfl), hC, hFr.m, hGk.gk⟩

theorem allEarned_s {d : Nat} {I : Im} {G : Gm} {mb t : Nat} {E : Ec} (hM : isC5 G mb) (hT : isC8 G t) (hsp : mb + 44 ≤ t ∨ t + 18 ≤ mb) (ht : TrC I t E) (hk : MkC I mb E) (hO : OcE I mb E) : Ct (d + 1) 0 0 YX5_allEarned [.ref mb, .ref t] (I, G) (qP (sm (erM E) (eN E)) (I, G)) := by
  have g := allEarned_ct (d := d) hM hT hsp hk ht
  rw [sum_er hO] at g
  exact g
theorem saved_s {d : Nat} {I : Im} {G : Gm} {mb t : Nat} {E : Ec} (hM : isC5 G mb) (hT : isC8 G t) (hsp : mb + 44 ≤ t ∨ t + 18 ≤ mb) (ht : TrC I t E) (hV : MkV I mb E) (hE : SrC E) (hW : WbC E) (hc : ∀ b, eC E b ≤ 60) : Ct (d + 3) 0 0 YX5_saved [.ref mb, .ref t] (I, G) (qP (svF E idq) (I, G)) := by
  have g := saved_ct (d := d) hM hT hsp hV.1 ht hV.2.2.1
  rw [sv_same hE hW hc] at g
  exact g

set_option maxRecDepth 100000 in
theorem sum_c {d : Nat} {I : Im} {G : Gm} {s : Sta} (hC : Ci s I G) {t : Int32} {w : Int32} : Ct (d + 7) 0 0 YX9_sum [.ref 0, .int t, .int w] (I, G) (qX (PcQ s I G (aSum s t w))) := by
  refine Ct.of (by decide) (by simp [Value.category]) (Nat.le_of_ble_eq_true rfl) ?_
  have h9 := hC.1.1
  have hcn10 := hC.2.1.2.1
  have hFr : FrC I I := FrC.rf
  have hGk : Geq G G := Geq.rf
  show wp _ _ _ _ 0 [some (.ref 0), some (.int t), some (.int w), none] [] _ _
  rcases in_cases (n := sN s) (by have := hcn10; omega) t with ⟨k, hk, rfl, et⟩ | ⟨et, hnot⟩
  · skip
    have h8 := hC.1.2.1 k (by omega)
    obtain ⟨hok, hTr⟩ := hC.ok hk
    have hn8 : dN (dK s k) ≤ 8 := hok.1.1.2
    have hoff := tA_off k
    have hE := src_of hok.1 (tdT (sD s k))
    have hW := wbc_of hok.1 (tdT (sD s k))
    have hc60 : ∀ b, dC (dK s k) b ≤ 60 := fun b => Nat.le_trans (hok.1.2.1 b) (by omega)
    have htc := trc_of hok.1 hTr.1 (tdT (sD s k))
    rcases in_cases (n := 4) (by omega) w with ⟨wn, hwn, rfl, ew⟩ | ⟨ew, hnow⟩
    · skip
      rcases (show wn = 0 ∨ wn = 1 ∨ wn = 2 ∨ wn = 3 by omega) with rfl | rfl | rfl | rfl
      · skip
        refine r_aload_n (pc := 0) dX9_sum_0 rfl ?_
        refine r_iload_n (pc := 1) dX9_sum_1 rfl ?_
        refine r_callV_R (pc := 2) (b := 0) (As := [.int (nI k)]) 9 98 dX9_sum_2 lk_X9_find (ml_RX9_98 rfl) im_X9_find se_X9_find (by decide) (c9_o h9) (Nat.le_of_ble_eq_true rfl) rfl (find_ct hC.1.1 hC.2.1.1 hcn10 hk (hC.1.2.2.1 k hk)) ?_
        refine r_astore_n (pc := 5) (L' := [some (.ref 0), some (.int (nI k)), some (.int (nI 0)), some (.ref (tA k))]) dX9_sum_5 (by decide) rfl rfl ?_
        refine r_aload_n (pc := 6) dX9_sum_6 rfl ?_
        refine r_ifnullR (pc := 7) dX9_sum_7 ?_
        refine r_iload_n (pc := 10) dX9_sum_10 rfl ?_
        refine r_if_lt_n (pc := 11) (a := 0) (tgt := 19) dX9_sum_11 (by decide) (by omega) ?_
        refine r_iload_n (pc := 14) dX9_sum_14 rfl ?_
        refine r_iconst (pc := 15) (v := 3) dX9_sum_15 (by decide) ?_
        refine r_icmp_le_n (pc := 16) (a := 0) (b := 3) (tgt := 22) dX9_sum_16 (by decide) (by omega) (by omega) (fun c16 => ?_) (fun c16 => ?_)
        · skip
          refine r_aload_n (pc := 22) dX9_sum_22 rfl ?_
          refine r_get1 (pc := 23) 9 5 41 dX9_sum_23 (fl_RX9_41 rfl) (by decide) rfl (c9_o h9) (c9_p5 h9) ?_
          refine r_aload_n (pc := 26) dX9_sum_26 rfl ?_
          refine r_aload_n (pc := 27) dX9_sum_27 rfl ?_
          refine r_get1 (pc := 28) 8 7 143 dX9_sum_28 (fl_RX9_143 rfl) (by decide) rfl (c8_o h8) (c8_p7 h8) ?_
          refine r_callV_U (pc := 31) (b := 23) (As := [.ref (tA k), .ref ((tA k) + 14)]) 5 166 dX9_sum_31 lk_X5_settle (ml_RX9_166 rfl) im_X5_settle se_X5_settle (by decide) (c5_o (c9_s5 h9)) (Nat.le_of_ble_eq_true rfl) rfl (settle_t (τ := (tdT (sD s k))) hC hk (by omega) (Or.inr rfl) hok.2.1 hTr.2.1) (fun M1 h1 => ?_)
          obtain ⟨I1, G1, rfl, hC, hg1, hV1, hf1, hm1, hτ1, hce1⟩ := h1
          have hO1 : OcE I1 23 (eT (dK s k) (tdT (sD s k))) := oce_of (src_of hok.1 _) (wbc_of hok.1 _) hc60 hV1
          have hFr : FrC I I1 := hFr.tr (fun a j z => hf1 a j (by omega))
          have hGk : Geq G G1 := hGk.tr hg1
          have hTr := (hC.ok hk).2
          have h9 := hC.1.1
          have h8 := hC.1.2.1 k (by omega)
          have htc := trc_of hok.1 hTr.1 (tdT (sD s k))
          refine r_iload_n (pc := 34) dX9_sum_34 rfl ?_
          refine r_if_ne_n (pc := 35) (a := 0) (tgt := 47) dX9_sum_35 (by decide) (by omega) (fun c35 => ?_) (fun c35 => ?_)
          · exfalso; omega
          · skip
            refine r_aload_n (pc := 38) dX9_sum_38 rfl ?_
            refine r_get1 (pc := 39) 9 5 41 dX9_sum_39 (fl_RX9_41 rfl) (by decide) rfl (c9_o h9) (c9_p5 h9) ?_
            refine r_aload_n (pc := 42) dX9_sum_42 rfl ?_
            refine r_callV_P (pc := 43) (b := 23) (As := [.ref (tA k)]) 5 187 dX9_sum_43 lk_X5_allEarned (ml_RX9_187 rfl) im_X5_allEarned se_X5_allEarned (by decide) (c5_o (c9_s5 h9)) (Nat.le_of_ble_eq_true rfl) rfl (allEarned_s (E := (eT (dK s k) (tdT (sD s k)))) (c9_s5 h9) h8 (by omega) (trc_of hok.1 hTr.1 _) hV1.1 hO1) ?_
            refine r_ret_i (pc := 46) dX9_sum_46 rfl ?_
            exact ⟨_, rfl, I1, G1, rfl, (by unfold aSum; rw [atN_s et, atN_s ew] <;> rfl), hC, hFr.m, hGk.gk⟩
        · exfalso; omega
      · skip
        refine r_aload_n (pc := 0) dX9_sum_0 rfl ?_
        refine r_iload_n (pc := 1) dX9_sum_1 rfl ?_
        refine r_callV_R (pc := 2) (b := 0) (As := [.int (nI k)]) 9 98 dX9_sum_2 lk_X9_find (ml_RX9_98 rfl) im_X9_find se_X9_find (by decide) (c9_o h9) (Nat.le_of_ble_eq_true rfl) rfl (find_ct hC.1.1 hC.2.1.1 hcn10 hk (hC.1.2.2.1 k hk)) ?_
        refine r_astore_n (pc := 5) (L' := [some (.ref 0), some (.int (nI k)), some (.int (nI 1)), some (.ref (tA k))]) dX9_sum_5 (by decide) rfl rfl ?_
        refine r_aload_n (pc := 6) dX9_sum_6 rfl ?_
        refine r_ifnullR (pc := 7) dX9_sum_7 ?_
        refine r_iload_n (pc := 10) dX9_sum_10 rfl ?_
        refine r_if_lt_n (pc := 11) (a := 1) (tgt := 19) dX9_sum_11 (by decide) (by omega) ?_
        refine r_iload_n (pc := 14) dX9_sum_14 rfl ?_
        refine r_iconst (pc := 15) (v := 3) dX9_sum_15 (by decide) ?_
        refine r_icmp_le_n (pc := 16) (a := 1) (b := 3) (tgt := 22) dX9_sum_16 (by decide) (by omega) (by omega) (fun c16 => ?_) (fun c16 => ?_)
        · skip
          refine r_aload_n (pc := 22) dX9_sum_22 rfl ?_
          refine r_get1 (pc := 23) 9 5 41 dX9_sum_23 (fl_RX9_41 rfl) (by decide) rfl (c9_o h9) (c9_p5 h9) ?_
          refine r_aload_n (pc := 26) dX9_sum_26 rfl ?_
          refine r_aload_n (pc := 27) dX9_sum_27 rfl ?_
          refine r_get1 (pc := 28) 8 7 143 dX9_sum_28 (fl_RX9_143 rfl) (by decide) rfl (c8_o h8) (c8_p7 h8) ?_
          refine r_callV_U (pc := 31) (b := 23) (As := [.ref (tA k), .ref ((tA k) + 14)]) 5 166 dX9_sum_31 lk_X5_settle (ml_RX9_166 rfl) im_X5_settle se_X5_settle (by decide) (c5_o (c9_s5 h9)) (Nat.le_of_ble_eq_true rfl) rfl (settle_t (τ := (tdT (sD s k))) hC hk (by omega) (Or.inr rfl) hok.2.1 hTr.2.1) (fun M1 h1 => ?_)
          obtain ⟨I1, G1, rfl, hC, hg1, hV1, hf1, hm1, hτ1, hce1⟩ := h1
          have hO1 : OcE I1 23 (eT (dK s k) (tdT (sD s k))) := oce_of (src_of hok.1 _) (wbc_of hok.1 _) hc60 hV1
          have hFr : FrC I I1 := hFr.tr (fun a j z => hf1 a j (by omega))
          have hGk : Geq G G1 := hGk.tr hg1
          have hTr := (hC.ok hk).2
          have h9 := hC.1.1
          have h8 := hC.1.2.1 k (by omega)
          have htc := trc_of hok.1 hTr.1 (tdT (sD s k))
          refine r_iload_n (pc := 34) dX9_sum_34 rfl ?_
          refine r_if_ne_n (pc := 35) (a := 1) (tgt := 47) dX9_sum_35 (by decide) (by omega) (fun c35 => ?_) (fun c35 => ?_)
          · skip
            refine r_iload_n (pc := 47) dX9_sum_47 rfl ?_
            refine r_iconst (pc := 48) (v := 3) dX9_sum_48 (by decide) ?_
            refine r_icmp_ne_n (pc := 49) (a := 1) (b := 3) (tgt := 61) dX9_sum_49 (by decide) (by omega) (by omega) (fun c49 => ?_) (fun c49 => ?_)
            · skip
              refine r_aload_n (pc := 61) dX9_sum_61 rfl ?_
              refine r_aload_n (pc := 62) dX9_sum_62 rfl ?_
              refine r_aload_n (pc := 63) dX9_sum_63 rfl ?_
              refine r_get1 (pc := 64) 8 7 143 dX9_sum_64 (fl_RX9_143 rfl) (by decide) rfl (c8_o h8) (c8_p7 h8) ?_
              refine r_getIv (pc := 67) 7 1 149 dX9_sum_67 (fl_RX9_149 rfl) (by decide) rfl (c7_o (c8_s7 h8)) (v := nI ((tdT (sD s k)).2.1)) (hTr.2.1 1 (by omega)) ?_
              refine r_callV_U (pc := 70) (b := 0) (As := [.ref (tA k), .int (nI ((tdT (sD s k)).2.1))]) 9 193 dX9_sum_70 lk_X9_settleTogether (ml_RX9_193 rfl) im_X9_settleTogether se_X9_settleTogether (by decide) (c9_o h9) (Nat.le_of_ble_eq_true rfl) rfl (settleTogether_ct (cap := (tdT (sD s k)).2.1) hC hk hok.2.1) (fun M2 h2 => ?_)
              obtain ⟨I2, G2, rfl, hC, hg2, hV2, hf2⟩ := h2
              have hO2 : OcE I2 67 (eT (dK s k) (allJ (dK s k), (tdT (sD s k)).2.1, false, false)) := oce_of (src_of hok.1 _) (wbc_of hok.1 _) hc60 hV2
              have hFr : FrC I I2 := hFr.tr (fun a j z => hf2 a j (by omega) (by omega))
              have hGk : Geq G G2 := hGk.tr hg2
              have hTr := (hC.ok hk).2
              have h9 := hC.1.1
              have h8 := hC.1.2.1 k (by omega)
              have htc := trc_of hok.1 hTr.1 (tdT (sD s k))
              have hO1 : OcE I2 23 (eK' s k) := hO1.keep (fun a j g1 g2 => hf2 a j (by omega) (by omega))
              refine r_iload_n (pc := 73) dX9_sum_73 rfl ?_
              refine r_iconst (pc := 74) (v := 1) dX9_sum_74 (by decide) ?_
              refine r_icmp_ne_n (pc := 75) (a := 1) (b := 1) (tgt := 89) dX9_sum_75 (by decide) (by omega) (by omega) (fun c75 => ?_) (fun c75 => ?_)
              · exfalso; omega
              · skip
                refine r_aload_n (pc := 78) dX9_sum_78 rfl ?_
                refine r_get1 (pc := 79) 9 6 45 dX9_sum_79 (fl_RX9_45 rfl) (by decide) rfl (c9_o h9) (c9_p6 h9) ?_
                refine r_aload_n (pc := 82) dX9_sum_82 rfl ?_
                refine r_callV_P (pc := 83) (b := 67) (As := [.ref (tA k)]) 5 187 dX9_sum_83 lk_X5_allEarned (ml_RX9_187 rfl) im_X5_allEarned se_X5_allEarned (by decide) (c5_o (c9_s6 h9)) (Nat.le_of_ble_eq_true rfl) rfl (allEarned_s (E := (eT (dK s k) (allJ (dK s k), (tdT (sD s k)).2.1, false, false))) (c9_s6 h9) h8 (by omega) (trc_of hok.1 hTr.1 _) hV2.1 hO2) ?_
                refine r_goto (pc := 86) (tgt := 106) dX9_sum_86 (by decide) ?_
                refine r_ret_i (pc := 106) dX9_sum_106 rfl ?_
                exact ⟨_, rfl, I2, G2, rfl, (by unfold aSum; rw [atN_s et, atN_s ew] <;> rfl), hC, hFr.m, hGk.gk⟩
            · exfalso; omega
          · exfalso; omega
        · exfalso; omega
      · skip
        refine r_aload_n (pc := 0) dX9_sum_0 rfl ?_
        refine r_iload_n (pc := 1) dX9_sum_1 rfl ?_
        refine r_callV_R (pc := 2) (b := 0) (As := [.int (nI k)]) 9 98 dX9_sum_2 lk_X9_find (ml_RX9_98 rfl) im_X9_find se_X9_find (by decide) (c9_o h9) (Nat.le_of_ble_eq_true rfl) rfl (find_ct hC.1.1 hC.2.1.1 hcn10 hk (hC.1.2.2.1 k hk)) ?_
        refine r_astore_n (pc := 5) (L' := [some (.ref 0), some (.int (nI k)), some (.int (nI 2)), some (.ref (tA k))]) dX9_sum_5 (by decide) rfl rfl ?_
        refine r_aload_n (pc := 6) dX9_sum_6 rfl ?_
        refine r_ifnullR (pc := 7) dX9_sum_7 ?_
        refine r_iload_n (pc := 10) dX9_sum_10 rfl ?_
        refine r_if_lt_n (pc := 11) (a := 2) (tgt := 19) dX9_sum_11 (by decide) (by omega) ?_
        refine r_iload_n (pc := 14) dX9_sum_14 rfl ?_
        refine r_iconst (pc := 15) (v := 3) dX9_sum_15 (by decide) ?_
        refine r_icmp_le_n (pc := 16) (a := 2) (b := 3) (tgt := 22) dX9_sum_16 (by decide) (by omega) (by omega) (fun c16 => ?_) (fun c16 => ?_)
        · skip
          refine r_aload_n (pc := 22) dX9_sum_22 rfl ?_
          refine r_get1 (pc := 23) 9 5 41 dX9_sum_23 (fl_RX9_41 rfl) (by decide) rfl (c9_o h9) (c9_p5 h9) ?_
          refine r_aload_n (pc := 26) dX9_sum_26 rfl ?_
          refine r_aload_n (pc := 27) dX9_sum_27 rfl ?_
          refine r_get1 (pc := 28) 8 7 143 dX9_sum_28 (fl_RX9_143 rfl) (by decide) rfl (c8_o h8) (c8_p7 h8) ?_
          refine r_callV_U (pc := 31) (b := 23) (As := [.ref (tA k), .ref ((tA k) + 14)]) 5 166 dX9_sum_31 lk_X5_settle (ml_RX9_166 rfl) im_X5_settle se_X5_settle (by decide) (c5_o (c9_s5 h9)) (Nat.le_of_ble_eq_true rfl) rfl (settle_t (τ := (tdT (sD s k))) hC hk (by omega) (Or.inr rfl) hok.2.1 hTr.2.1) (fun M1 h1 => ?_)
          obtain ⟨I1, G1, rfl, hC, hg1, hV1, hf1, hm1, hτ1, hce1⟩ := h1
          have hO1 : OcE I1 23 (eT (dK s k) (tdT (sD s k))) := oce_of (src_of hok.1 _) (wbc_of hok.1 _) hc60 hV1
          have hFr : FrC I I1 := hFr.tr (fun a j z => hf1 a j (by omega))
          have hGk : Geq G G1 := hGk.tr hg1
          have hTr := (hC.ok hk).2
          have h9 := hC.1.1
          have h8 := hC.1.2.1 k (by omega)
          have htc := trc_of hok.1 hTr.1 (tdT (sD s k))
          refine r_iload_n (pc := 34) dX9_sum_34 rfl ?_
          refine r_if_ne_n (pc := 35) (a := 2) (tgt := 47) dX9_sum_35 (by decide) (by omega) (fun c35 => ?_) (fun c35 => ?_)
          · skip
            refine r_iload_n (pc := 47) dX9_sum_47 rfl ?_
            refine r_iconst (pc := 48) (v := 3) dX9_sum_48 (by decide) ?_
            refine r_icmp_ne_n (pc := 49) (a := 2) (b := 3) (tgt := 61) dX9_sum_49 (by decide) (by omega) (by omega) (fun c49 => ?_) (fun c49 => ?_)
            · skip
              refine r_aload_n (pc := 61) dX9_sum_61 rfl ?_
              refine r_aload_n (pc := 62) dX9_sum_62 rfl ?_
              refine r_aload_n (pc := 63) dX9_sum_63 rfl ?_
              refine r_get1 (pc := 64) 8 7 143 dX9_sum_64 (fl_RX9_143 rfl) (by decide) rfl (c8_o h8) (c8_p7 h8) ?_
              refine r_getIv (pc := 67) 7 1 149 dX9_sum_67 (fl_RX9_149 rfl) (by decide) rfl (c7_o (c8_s7 h8)) (v := nI ((tdT (sD s k)).2.1)) (hTr.2.1 1 (by omega)) ?_
              refine r_callV_U (pc := 70) (b := 0) (As := [.ref (tA k), .int (nI ((tdT (sD s k)).2.1))]) 9 193 dX9_sum_70 lk_X9_settleTogether (ml_RX9_193 rfl) im_X9_settleTogether se_X9_settleTogether (by decide) (c9_o h9) (Nat.le_of_ble_eq_true rfl) rfl (settleTogether_ct (cap := (tdT (sD s k)).2.1) hC hk hok.2.1) (fun M2 h2 => ?_)
              obtain ⟨I2, G2, rfl, hC, hg2, hV2, hf2⟩ := h2
              have hO2 : OcE I2 67 (eT (dK s k) (allJ (dK s k), (tdT (sD s k)).2.1, false, false)) := oce_of (src_of hok.1 _) (wbc_of hok.1 _) hc60 hV2
              have hFr : FrC I I2 := hFr.tr (fun a j z => hf2 a j (by omega) (by omega))
              have hGk : Geq G G2 := hGk.tr hg2
              have hTr := (hC.ok hk).2
              have h9 := hC.1.1
              have h8 := hC.1.2.1 k (by omega)
              have htc := trc_of hok.1 hTr.1 (tdT (sD s k))
              have hO1 : OcE I2 23 (eK' s k) := hO1.keep (fun a j g1 g2 => hf2 a j (by omega) (by omega))
              refine r_iload_n (pc := 73) dX9_sum_73 rfl ?_
              refine r_iconst (pc := 74) (v := 1) dX9_sum_74 (by decide) ?_
              refine r_icmp_ne_n (pc := 75) (a := 2) (b := 1) (tgt := 89) dX9_sum_75 (by decide) (by omega) (by omega) (fun c75 => ?_) (fun c75 => ?_)
              · skip
                refine r_aload_n (pc := 89) dX9_sum_89 rfl ?_
                refine r_get1 (pc := 90) 9 6 45 dX9_sum_90 (fl_RX9_45 rfl) (by decide) rfl (c9_o h9) (c9_p6 h9) ?_
                refine r_aload_n (pc := 93) dX9_sum_93 rfl ?_
                refine r_callV_P (pc := 94) (b := 67) (As := [.ref (tA k)]) 5 187 dX9_sum_94 lk_X5_allEarned (ml_RX9_187 rfl) im_X5_allEarned se_X5_allEarned (by decide) (c5_o (c9_s6 h9)) (Nat.le_of_ble_eq_true rfl) rfl (allEarned_s (E := (eT (dK s k) (allJ (dK s k), (tdT (sD s k)).2.1, false, false))) (c9_s6 h9) h8 (by omega) (trc_of hok.1 hTr.1 _) hV2.1 hO2) ?_
                refine r_aload_n (pc := 97) dX9_sum_97 rfl ?_
                refine r_get1 (pc := 98) 9 5 41 dX9_sum_98 (fl_RX9_41 rfl) (by decide) rfl (c9_o h9) (c9_p5 h9) ?_
                refine r_aload_n (pc := 101) dX9_sum_101 rfl ?_
                refine r_callV_P (pc := 102) (b := 23) (As := [.ref (tA k)]) 5 187 dX9_sum_102 lk_X5_allEarned (ml_RX9_187 rfl) im_X5_allEarned se_X5_allEarned (by decide) (c5_o (c9_s5 h9)) (Nat.le_of_ble_eq_true rfl) rfl (allEarned_s (E := (eT (dK s k) (tdT (sD s k)))) (c9_s5 h9) h8 (by omega) (trc_of hok.1 hTr.1 _) (hV1.1.keep (fun a j g1 g2 => hf2 a j (by omega) (by omega))) hO1) ?_
                refine r_isub (pc := 105) (x := sm (erM (eT (dK s k) (allJ (dK s k), (tdT (sD s k)).2.1, false, false))) (dN (dK s k))) (z := sm (erM (eT (dK s k) (tdT (sD s k)))) (dN (dK s k))) dX9_sum_105 ?_
                refine r_ret_i (pc := 106) dX9_sum_106 rfl ?_
                exact ⟨_, rfl, I2, G2, rfl, (by unfold aSum; rw [atN_s et, atN_s ew] <;> rfl), hC, hFr.m, hGk.gk⟩
              · exfalso; omega
            · exfalso; omega
          · exfalso; omega
        · exfalso; omega
      · skip
        refine r_aload_n (pc := 0) dX9_sum_0 rfl ?_
        refine r_iload_n (pc := 1) dX9_sum_1 rfl ?_
        refine r_callV_R (pc := 2) (b := 0) (As := [.int (nI k)]) 9 98 dX9_sum_2 lk_X9_find (ml_RX9_98 rfl) im_X9_find se_X9_find (by decide) (c9_o h9) (Nat.le_of_ble_eq_true rfl) rfl (find_ct hC.1.1 hC.2.1.1 hcn10 hk (hC.1.2.2.1 k hk)) ?_
        refine r_astore_n (pc := 5) (L' := [some (.ref 0), some (.int (nI k)), some (.int (nI 3)), some (.ref (tA k))]) dX9_sum_5 (by decide) rfl rfl ?_
        refine r_aload_n (pc := 6) dX9_sum_6 rfl ?_
        refine r_ifnullR (pc := 7) dX9_sum_7 ?_
        refine r_iload_n (pc := 10) dX9_sum_10 rfl ?_
        refine r_if_lt_n (pc := 11) (a := 3) (tgt := 19) dX9_sum_11 (by decide) (by omega) ?_
        refine r_iload_n (pc := 14) dX9_sum_14 rfl ?_
        refine r_iconst (pc := 15) (v := 3) dX9_sum_15 (by decide) ?_
        refine r_icmp_le_n (pc := 16) (a := 3) (b := 3) (tgt := 22) dX9_sum_16 (by decide) (by omega) (by omega) (fun c16 => ?_) (fun c16 => ?_)
        · skip
          refine r_aload_n (pc := 22) dX9_sum_22 rfl ?_
          refine r_get1 (pc := 23) 9 5 41 dX9_sum_23 (fl_RX9_41 rfl) (by decide) rfl (c9_o h9) (c9_p5 h9) ?_
          refine r_aload_n (pc := 26) dX9_sum_26 rfl ?_
          refine r_aload_n (pc := 27) dX9_sum_27 rfl ?_
          refine r_get1 (pc := 28) 8 7 143 dX9_sum_28 (fl_RX9_143 rfl) (by decide) rfl (c8_o h8) (c8_p7 h8) ?_
          refine r_callV_U (pc := 31) (b := 23) (As := [.ref (tA k), .ref ((tA k) + 14)]) 5 166 dX9_sum_31 lk_X5_settle (ml_RX9_166 rfl) im_X5_settle se_X5_settle (by decide) (c5_o (c9_s5 h9)) (Nat.le_of_ble_eq_true rfl) rfl (settle_t (τ := (tdT (sD s k))) hC hk (by omega) (Or.inr rfl) hok.2.1 hTr.2.1) (fun M1 h1 => ?_)
          obtain ⟨I1, G1, rfl, hC, hg1, hV1, hf1, hm1, hτ1, hce1⟩ := h1
          have hO1 : OcE I1 23 (eT (dK s k) (tdT (sD s k))) := oce_of (src_of hok.1 _) (wbc_of hok.1 _) hc60 hV1
          have hFr : FrC I I1 := hFr.tr (fun a j z => hf1 a j (by omega))
          have hGk : Geq G G1 := hGk.tr hg1
          have hTr := (hC.ok hk).2
          have h9 := hC.1.1
          have h8 := hC.1.2.1 k (by omega)
          have htc := trc_of hok.1 hTr.1 (tdT (sD s k))
          refine r_iload_n (pc := 34) dX9_sum_34 rfl ?_
          refine r_if_ne_n (pc := 35) (a := 3) (tgt := 47) dX9_sum_35 (by decide) (by omega) (fun c35 => ?_) (fun c35 => ?_)
          · skip
            refine r_iload_n (pc := 47) dX9_sum_47 rfl ?_
            refine r_iconst (pc := 48) (v := 3) dX9_sum_48 (by decide) ?_
            refine r_icmp_ne_n (pc := 49) (a := 3) (b := 3) (tgt := 61) dX9_sum_49 (by decide) (by omega) (by omega) (fun c49 => ?_) (fun c49 => ?_)
            · exfalso; omega
            · skip
              refine r_aload_n (pc := 52) dX9_sum_52 rfl ?_
              refine r_get1 (pc := 53) 9 5 41 dX9_sum_53 (fl_RX9_41 rfl) (by decide) rfl (c9_o h9) (c9_p5 h9) ?_
              refine r_aload_n (pc := 56) dX9_sum_56 rfl ?_
              refine r_callV_P (pc := 57) (b := 23) (As := [.ref (tA k)]) 5 190 dX9_sum_57 lk_X5_saved (ml_RX9_190 rfl) im_X5_saved se_X5_saved (by decide) (c5_o (c9_s5 h9)) (Nat.le_of_ble_eq_true rfl) rfl (saved_s (E := (eT (dK s k) (tdT (sD s k)))) (c9_s5 h9) h8 (by omega) (trc_of hok.1 hTr.1 _) hV1 (src_of hok.1 _) (wbc_of hok.1 _) hc60) ?_
              refine r_ret_i (pc := 60) dX9_sum_60 rfl ?_
              exact ⟨_, rfl, I1, G1, rfl, (by unfold aSum; rw [atN_s et, atN_s ew] <;> rfl), hC, hFr.m, hGk.gk⟩
          · exfalso; omega
        · exfalso; omega
    · skip
      refine r_aload_n (pc := 0) dX9_sum_0 rfl ?_
      refine r_iload_n (pc := 1) dX9_sum_1 rfl ?_
      refine r_callV_R (pc := 2) (b := 0) (As := [.int (nI k)]) 9 98 dX9_sum_2 lk_X9_find (ml_RX9_98 rfl) im_X9_find se_X9_find (by decide) (c9_o h9) (Nat.le_of_ble_eq_true rfl) rfl (find_ct hC.1.1 hC.2.1.1 hcn10 hk (hC.1.2.2.1 k hk)) ?_
      refine r_astore_n (pc := 5) (L' := [some (.ref 0), some (.int (nI k)), some (.int w), some (.ref (tA k))]) dX9_sum_5 (by decide) rfl rfl ?_
      refine r_aload_n (pc := 6) dX9_sum_6 rfl ?_
      refine r_ifnullR (pc := 7) dX9_sum_7 ?_
      refine r_iload_n (pc := 10) dX9_sum_10 rfl ?_
      refine r_if_lt (pc := 11) (x := w) (tgt := 19) dX9_sum_11 (by decide) (fun c11 => ?_) (fun c11 => ?_)
      · skip
        refine r_ldc (pc := 19) (v := -100000000) dX9_sum_19 (kc_RX9_174 rfl) ?_
        refine r_ret_i (pc := 21) dX9_sum_21 rfl ?_
        exact ⟨_, rfl, I, G, rfl, (by unfold aSum; rw [atN_s et, atN_n ew] <;> rfl), hC, hFr.m, hGk.gk⟩
      · skip
        refine r_iload_n (pc := 14) dX9_sum_14 rfl ?_
        refine r_iconst (pc := 15) (v := 3) dX9_sum_15 (by decide) ?_
        refine r_icmp_le (pc := 16) (x := w) (z := 3) (tgt := 22) dX9_sum_16 (by decide) (fun c16 => ?_) (fun c16 => ?_)
        · exfalso; exact rg_no (n := 3) (by omega) hnow c11 c16
        · skip
          refine r_ldc (pc := 19) (v := -100000000) dX9_sum_19 (kc_RX9_174 rfl) ?_
          refine r_ret_i (pc := 21) dX9_sum_21 rfl ?_
          exact ⟨_, rfl, I, G, rfl, (by unfold aSum; rw [atN_s et, atN_n ew] <;> rfl), hC, hFr.m, hGk.gk⟩
  · skip
    refine r_aload_n (pc := 0) dX9_sum_0 rfl ?_
    refine r_iload_n (pc := 1) dX9_sum_1 rfl ?_
    refine r_callV_R (pc := 2) (b := 0) (As := [.int t]) 9 98 dX9_sum_2 lk_X9_find (ml_RX9_98 rfl) im_X9_find se_X9_find (by decide) (c9_o h9) (Nat.le_of_ble_eq_true rfl) rfl (find_no hC.1.1 (by rw [hC.2.1.1]; exact hnot)) ?_
    refine r_astore_nN (pc := 5) (L' := [some (.ref 0), some (.int t), some (.int w), some (.null)]) dX9_sum_5 (by decide) rfl rfl ?_
    refine r_aload_nN (pc := 6) dX9_sum_6 rfl ?_
    refine r_ifnullN (pc := 7) (tgt := 19) dX9_sum_7 (by decide) ?_
    refine r_ldc (pc := 19) (v := -100000000) dX9_sum_19 (kc_RX9_174 rfl) ?_
    refine r_ret_i (pc := 21) dX9_sum_21 rfl ?_
    exact ⟨_, rfl, I, G, rfl, (by unfold aSum; rw [atN_n et] <;> rfl), hC, hFr.m, hGk.gk⟩
