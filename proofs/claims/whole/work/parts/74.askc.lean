/-! ===== the class: questions ===== -/
theorem six {P : Nat → Prop} (h0 : P 0) (h1 : P 1) (h2 : P 2) (h3 : P 3) (h4 : P 4) (h5 : P 5) : ∀ j, j < 6 → P j := fun j hj => match j, hj with
  | 0, _ => h0
  | 1, _ => h1
  | 2, _ => h2
  | 3, _ => h3
  | 4, _ => h4
  | 5, _ => h5
theorem allHouses_y {d : Nat} {I : Im} {G : Gm} {t : Nat} {D : Dr} (ht : isC8 G t) (hn : I t 0 = nI (dN D)) : Ct (d + 1) 0 0 YX8_allHouses [.ref t] (I, G) (qP (allJ D) (I, G)) := by
  have g := allHouses_ct (d := d) (I := I) ht
  rw [hn] at g
  exact g
theorem setTm_at {I : Im} {a j : Nat} {v : Nat → Int32} (hj : j < 6) : setTm I a v a j = v j := if_pos ⟨rfl, hj⟩
theorem setTm_o {I : Im} {a b j : Nat} {v : Nat → Int32} (h : b ≠ a) : setTm I a v b j = I b j := if_neg (fun z => h z.1)

set_option maxRecDepth 100000 in
theorem houses_c {d : Nat} {I : Im} {G : Gm} {s : Sta} (hC : Ci s I G) {t : Int32} : Ct (d + 2) 0 0 YX9_houses [.ref 0, .int t] (I, G) (qX (PcQ s I G (aHouses s t))) := by
  refine Ct.of (by decide) (by simp [Value.category]) (Nat.le_of_ble_eq_true rfl) ?_
  have h9 := hC.1.1
  have hcn10 := hC.2.1.2.1
  have hFr : FrC I I := FrC.rf
  have hGk : Geq G G := Geq.rf
  show wp _ _ _ _ 0 [some (.ref 0), some (.int t), none] [] _ _
  rcases in_cases (n := sN s) (by have := hcn10; omega) t with ⟨k, hk, rfl, et⟩ | ⟨et, hnot⟩
  · skip
    have h8 := hC.1.2.1 k (by omega)
    obtain ⟨hok, hTr⟩ := hC.ok hk
    have hn8 : dN (dK s k) ≤ 8 := hok.1.1.2
    have hoff := tA_off k
    have hE := src_of hok.1 (tdT (sD s k))
    have hW := wbc_of hok.1 (tdT (sD s k))
    have hc60 : ∀ b, dC (dK s k) b ≤ 60 := fun b => Nat.le_trans (hok.1.2.1 b) (by omega)
    have htc := trc_of hok.1 hTr.1 (tdT (sD s k))
    refine r_aload_n (pc := 0) dX9_houses_0 rfl ?_
    refine r_iload_n (pc := 1) dX9_houses_1 rfl ?_
    refine r_callV_R (pc := 2) (b := 0) (As := [.int (nI k)]) 9 98 dX9_houses_2 lk_X9_find (ml_RX9_98 rfl) im_X9_find se_X9_find (by decide) (c9_o h9) (Nat.le_of_ble_eq_true rfl) rfl (find_ct hC.1.1 hC.2.1.1 hcn10 hk (hC.1.2.2.1 k hk)) ?_
    refine r_astore_n (pc := 5) (L' := [some (.ref 0), some (.int (nI k)), some (.ref (tA k))]) dX9_houses_5 (by decide) rfl rfl ?_
    refine r_aload_n (pc := 6) dX9_houses_6 rfl ?_
    refine r_ifnonnullR (pc := 7) (tgt := 14) dX9_houses_7 (by decide) ?_
    refine r_aload_n (pc := 14) dX9_houses_14 rfl ?_
    refine r_getIv (pc := 15) 8 0 133 dX9_houses_15 (fl_RX9_133 rfl) (by decide) rfl (c8_o h8) (v := nI (dN (dK s k))) (hTr.1.1) ?_
    refine r_ret_i (pc := 18) dX9_houses_18 rfl ?_
    exact ⟨_, rfl, I, G, rfl, (by unfold aHouses; rw [atN_s et] <;> rfl), hC, hFr.m, hGk.gk⟩
  · skip
    refine r_aload_n (pc := 0) dX9_houses_0 rfl ?_
    refine r_iload_n (pc := 1) dX9_houses_1 rfl ?_
    refine r_callV_R (pc := 2) (b := 0) (As := [.int t]) 9 98 dX9_houses_2 lk_X9_find (ml_RX9_98 rfl) im_X9_find se_X9_find (by decide) (c9_o h9) (Nat.le_of_ble_eq_true rfl) rfl (find_no hC.1.1 (by rw [hC.2.1.1]; exact hnot)) ?_
    refine r_astore_nN (pc := 5) (L' := [some (.ref 0), some (.int t), some (.null)]) dX9_houses_5 (by decide) rfl rfl ?_
    refine r_aload_nN (pc := 6) dX9_houses_6 rfl ?_
    refine r_ifnonnullN (pc := 7) dX9_houses_7 ?_
    refine r_iconst (pc := 10) (v := -1) dX9_houses_10 (by decide) ?_
    refine r_goto (pc := 11) (tgt := 18) dX9_houses_11 (by decide) ?_
    refine r_ret_i (pc := 18) dX9_houses_18 rfl ?_
    exact ⟨_, rfl, I, G, rfl, (by unfold aHouses; rw [atN_n et] <;> rfl), hC, hFr.m, hGk.gk⟩

set_option maxRecDepth 100000 in
theorem want_c {d : Nat} {I : Im} {G : Gm} {s : Sta} (hC : Ci s I G) {t : Int32} {h : Int32} {p : Int32} : Ct (d + 3) 0 0 YX9_want [.ref 0, .int t, .int h, .int p] (I, G) (qX (PcQ s I G (aWant s t h p))) := by
  refine Ct.of (by decide) (by simp [Value.category]) (Nat.le_of_ble_eq_true rfl) ?_
  have h9 := hC.1.1
  have hcn10 := hC.2.1.2.1
  have hFr : FrC I I := FrC.rf
  have hGk : Geq G G := Geq.rf
  show wp _ _ _ _ 0 [some (.ref 0), some (.int t), some (.int h), some (.int p), none] [] _ _
  rcases in_cases (n := sN s) (by have := hcn10; omega) t with ⟨k, hk, rfl, et⟩ | ⟨et, hnot⟩
  · skip
    have h8 := hC.1.2.1 k (by omega)
    obtain ⟨hok, hTr⟩ := hC.ok hk
    have hn8 : dN (dK s k) ≤ 8 := hok.1.1.2
    have hoff := tA_off k
    have hE := src_of hok.1 (tdT (sD s k))
    have hW := wbc_of hok.1 (tdT (sD s k))
    have hc60 : ∀ b, dC (dK s k) b ≤ 60 := fun b => Nat.le_trans (hok.1.2.1 b) (by omega)
    have htc := trc_of hok.1 hTr.1 (tdT (sD s k))
    rcases in_cases (n := dN (dK s k)) (by have := hn8; omega) h with ⟨hn, hhn, rfl, eh⟩ | ⟨eh, hnoh⟩
    · skip
      by_cases hsh : shP (dK s k) hn
      · skip
        rcases in_cases (n := 42) (by omega) p with ⟨pn, hpn, rfl, ep⟩ | ⟨ep, hnop⟩
        · skip
          refine r_aload_n (pc := 0) dX9_want_0 rfl ?_
          refine r_iload_n (pc := 1) dX9_want_1 rfl ?_
          refine r_callV_R (pc := 2) (b := 0) (As := [.int (nI k)]) 9 98 dX9_want_2 lk_X9_find (ml_RX9_98 rfl) im_X9_find se_X9_find (by decide) (c9_o h9) (Nat.le_of_ble_eq_true rfl) rfl (find_ct hC.1.1 hC.2.1.1 hcn10 hk (hC.1.2.2.1 k hk)) ?_
          refine r_astore (pc := 5) (L' := [some (.ref 0), some (.int (nI k)), some (.int (nI hn)), some (.int (nI pn)), some (.ref (tA k))]) dX9_want_5 (by decide) rfl rfl ?_
          refine r_aload (pc := 7) dX9_want_7 rfl ?_
          refine r_ifnullR (pc := 9) dX9_want_9 ?_
          refine r_aload (pc := 12) dX9_want_12 rfl ?_
          refine r_iload_n (pc := 14) dX9_want_14 rfl ?_
          refine r_callV_P (pc := 15) (b := tA k) (As := [.int (nI hn)]) 8 126 dX9_want_15 lk_X8_isShop (ml_RX9_126 rfl) im_X8_isShop se_X8_isShop (by decide) (c8_o h8) (Nat.le_of_ble_eq_true rfl) rfl (isShop_y h8 htc hhn hsh) ?_
          refine r_if_eq_n (pc := 18) (a := 1) (tgt := 28) dX9_want_18 (by decide) (by omega) (fun c18 => ?_) (fun c18 => ?_)
          · exfalso; omega
          · skip
            refine r_iload_n (pc := 21) dX9_want_21 rfl ?_
            refine r_callS_P (pc := 22) (As := [.int (nI pn)]) 136 dX9_want_22 lk_X9_isPrice (ml_RX9_136 rfl) sm_X9_isPrice (Nat.le_of_ble_eq_true rfl) rfl (isPrice_y hpn) ?_
            refine r_if_ne_n (pc := 25) (a := 1) (tgt := 30) dX9_want_25 (by decide) (by omega) (fun c25 => ?_) (fun c25 => ?_)
            · skip
              refine r_aload (pc := 30) dX9_want_30 rfl ?_
              refine r_get1 (pc := 32) 8 6 129 dX9_want_32 (fl_RX9_129 rfl) (by decide) rfl (c8_o h8) (c8_p6 h8) ?_
              refine r_iload_n (pc := 35) dX9_want_35 rfl ?_
              refine r_aald1_n (pc := 36) (i := hn) 6 dX9_want_36 (by decide) (c8_a6 h8) (by decide) (by omega) (c8_q6 h8 (by omega)) ?_
              refine r_iload_n (pc := 37) dX9_want_37 rfl ?_
              refine r_iald_n (pc := 38) (i := pn) dX9_want_38 (c8_r6 h8 (by omega)) (by decide) (by omega) (v := nI (wF (dK s k) hn pn)) (hTr.1.2.2.2 _ _ (by omega) (by omega)) ?_
              refine r_ret_i (pc := 39) dX9_want_39 rfl ?_
              exact ⟨_, rfl, I, G, rfl, (by unfold aWant; rw [atN_s et, atN_s eh, if_pos hsh, atN_s ep]), hC, hFr.m, hGk.gk⟩
            · exfalso; omega
        · skip
          refine r_aload_n (pc := 0) dX9_want_0 rfl ?_
          refine r_iload_n (pc := 1) dX9_want_1 rfl ?_
          refine r_callV_R (pc := 2) (b := 0) (As := [.int (nI k)]) 9 98 dX9_want_2 lk_X9_find (ml_RX9_98 rfl) im_X9_find se_X9_find (by decide) (c9_o h9) (Nat.le_of_ble_eq_true rfl) rfl (find_ct hC.1.1 hC.2.1.1 hcn10 hk (hC.1.2.2.1 k hk)) ?_
          refine r_astore (pc := 5) (L' := [some (.ref 0), some (.int (nI k)), some (.int (nI hn)), some (.int p), some (.ref (tA k))]) dX9_want_5 (by decide) rfl rfl ?_
          refine r_aload (pc := 7) dX9_want_7 rfl ?_
          refine r_ifnullR (pc := 9) dX9_want_9 ?_
          refine r_aload (pc := 12) dX9_want_12 rfl ?_
          refine r_iload_n (pc := 14) dX9_want_14 rfl ?_
          refine r_callV_P (pc := 15) (b := tA k) (As := [.int (nI hn)]) 8 126 dX9_want_15 lk_X8_isShop (ml_RX9_126 rfl) im_X8_isShop se_X8_isShop (by decide) (c8_o h8) (Nat.le_of_ble_eq_true rfl) rfl (isShop_y h8 htc hhn hsh) ?_
          refine r_if_eq_n (pc := 18) (a := 1) (tgt := 28) dX9_want_18 (by decide) (by omega) (fun c18 => ?_) (fun c18 => ?_)
          · exfalso; omega
          · skip
            refine r_iload_n (pc := 21) dX9_want_21 rfl ?_
            refine r_callS_P (pc := 22) (As := [.int p]) 136 dX9_want_22 lk_X9_isPrice (ml_RX9_136 rfl) sm_X9_isPrice (Nat.le_of_ble_eq_true rfl) rfl (isPrice_n hnop) ?_
            refine r_if_ne_n (pc := 25) (a := 0) (tgt := 30) dX9_want_25 (by decide) (by omega) (fun c25 => ?_) (fun c25 => ?_)
            · exfalso; omega
            · skip
              refine r_iconst (pc := 28) (v := -1) dX9_want_28 (by decide) ?_
              refine r_ret_i (pc := 29) dX9_want_29 rfl ?_
              exact ⟨_, rfl, I, G, rfl, (by unfold aWant; rw [atN_s et, atN_s eh, if_pos hsh, atN_n ep] <;> rfl), hC, hFr.m, hGk.gk⟩
      · skip
        refine r_aload_n (pc := 0) dX9_want_0 rfl ?_
        refine r_iload_n (pc := 1) dX9_want_1 rfl ?_
        refine r_callV_R (pc := 2) (b := 0) (As := [.int (nI k)]) 9 98 dX9_want_2 lk_X9_find (ml_RX9_98 rfl) im_X9_find se_X9_find (by decide) (c9_o h9) (Nat.le_of_ble_eq_true rfl) rfl (find_ct hC.1.1 hC.2.1.1 hcn10 hk (hC.1.2.2.1 k hk)) ?_
        refine r_astore (pc := 5) (L' := [some (.ref 0), some (.int (nI k)), some (.int (nI hn)), some (.int p), some (.ref (tA k))]) dX9_want_5 (by decide) rfl rfl ?_
        refine r_aload (pc := 7) dX9_want_7 rfl ?_
        refine r_ifnullR (pc := 9) dX9_want_9 ?_
        refine r_aload (pc := 12) dX9_want_12 rfl ?_
        refine r_iload_n (pc := 14) dX9_want_14 rfl ?_
        refine r_callV_P (pc := 15) (b := tA k) (As := [.int (nI hn)]) 8 126 dX9_want_15 lk_X8_isShop (ml_RX9_126 rfl) im_X8_isShop se_X8_isShop (by decide) (c8_o h8) (Nat.le_of_ble_eq_true rfl) rfl (isShop_n h8 htc hhn hsh) ?_
        refine r_if_eq_n (pc := 18) (a := 0) (tgt := 28) dX9_want_18 (by decide) (by omega) (fun c18 => ?_) (fun c18 => ?_)
        · skip
          refine r_iconst (pc := 28) (v := -1) dX9_want_28 (by decide) ?_
          refine r_ret_i (pc := 29) dX9_want_29 rfl ?_
          exact ⟨_, rfl, I, G, rfl, (by unfold aWant; rw [atN_s et, atN_s eh, if_neg hsh] <;> rfl), hC, hFr.m, hGk.gk⟩
        · exfalso; omega
    · skip
      refine r_aload_n (pc := 0) dX9_want_0 rfl ?_
      refine r_iload_n (pc := 1) dX9_want_1 rfl ?_
      refine r_callV_R (pc := 2) (b := 0) (As := [.int (nI k)]) 9 98 dX9_want_2 lk_X9_find (ml_RX9_98 rfl) im_X9_find se_X9_find (by decide) (c9_o h9) (Nat.le_of_ble_eq_true rfl) rfl (find_ct hC.1.1 hC.2.1.1 hcn10 hk (hC.1.2.2.1 k hk)) ?_
      refine r_astore (pc := 5) (L' := [some (.ref 0), some (.int (nI k)), some (.int h), some (.int p), some (.ref (tA k))]) dX9_want_5 (by decide) rfl rfl ?_
      refine r_aload (pc := 7) dX9_want_7 rfl ?_
      refine r_ifnullR (pc := 9) dX9_want_9 ?_
      refine r_aload (pc := 12) dX9_want_12 rfl ?_
      refine r_iload_n (pc := 14) dX9_want_14 rfl ?_
      refine r_callV_P (pc := 15) (b := tA k) (As := [.int h]) 8 126 dX9_want_15 lk_X8_isShop (ml_RX9_126 rfl) im_X8_isShop se_X8_isShop (by decide) (c8_o h8) (Nat.le_of_ble_eq_true rfl) rfl (isShop_no h8 (by rw [hTr.1.1]; exact hnoh)) ?_
      refine r_if_eq_n (pc := 18) (a := 0) (tgt := 28) dX9_want_18 (by decide) (by omega) (fun c18 => ?_) (fun c18 => ?_)
      · skip
        refine r_iconst (pc := 28) (v := -1) dX9_want_28 (by decide) ?_
        refine r_ret_i (pc := 29) dX9_want_29 rfl ?_
        exact ⟨_, rfl, I, G, rfl, (by unfold aWant; rw [atN_s et, atN_n eh] <;> rfl), hC, hFr.m, hGk.gk⟩
      · exfalso; omega
  · skip
    refine r_aload_n (pc := 0) dX9_want_0 rfl ?_
    refine r_iload_n (pc := 1) dX9_want_1 rfl ?_
    refine r_callV_R (pc := 2) (b := 0) (As := [.int t]) 9 98 dX9_want_2 lk_X9_find (ml_RX9_98 rfl) im_X9_find se_X9_find (by decide) (c9_o h9) (Nat.le_of_ble_eq_true rfl) rfl (find_no hC.1.1 (by rw [hC.2.1.1]; exact hnot)) ?_
    refine r_astoreN (pc := 5) (L' := [some (.ref 0), some (.int t), some (.int h), some (.int p), some (.null)]) dX9_want_5 (by decide) rfl rfl ?_
    refine r_aloadN (pc := 7) dX9_want_7 rfl ?_
    refine r_ifnullN (pc := 9) (tgt := 28) dX9_want_9 (by decide) ?_
    refine r_iconst (pc := 28) (v := -1) dX9_want_28 (by decide) ?_
    refine r_ret_i (pc := 29) dX9_want_29 rfl ?_
    exact ⟨_, rfl, I, G, rfl, (by unfold aWant; rw [atN_n et] <;> rfl), hC, hFr.m, hGk.gk⟩

set_option maxRecDepth 100000 in
theorem ask_c {d : Nat} {I : Im} {G : Gm} {s : Sta} (hC : Ci s I G) {t : Int32} {h : Int32} {u : Int32} : Ct (d + 3) 0 0 YX9_ask [.ref 0, .int t, .int h, .int u] (I, G) (qX (PcQ s I G (aAsk s t h u))) := by
  refine Ct.of (by decide) (by simp [Value.category]) (Nat.le_of_ble_eq_true rfl) ?_
  have h9 := hC.1.1
  have hcn10 := hC.2.1.2.1
  have hFr : FrC I I := FrC.rf
  have hGk : Geq G G := Geq.rf
  show wp _ _ _ _ 0 [some (.ref 0), some (.int t), some (.int h), some (.int u), none] [] _ _
  rcases in_cases (n := sN s) (by have := hcn10; omega) t with ⟨k, hk, rfl, et⟩ | ⟨et, hnot⟩
  · skip
    have h8 := hC.1.2.1 k (by omega)
    obtain ⟨hok, hTr⟩ := hC.ok hk
    have hn8 : dN (dK s k) ≤ 8 := hok.1.1.2
    have hoff := tA_off k
    have hE := src_of hok.1 (tdT (sD s k))
    have hW := wbc_of hok.1 (tdT (sD s k))
    have hc60 : ∀ b, dC (dK s k) b ≤ 60 := fun b => Nat.le_trans (hok.1.2.1 b) (by omega)
    have htc := trc_of hok.1 hTr.1 (tdT (sD s k))
    rcases in_cases (n := dN (dK s k)) (by have := hn8; omega) h with ⟨hn, hhn, rfl, eh⟩ | ⟨eh, hnoh⟩
    · skip
      by_cases hsh : shP (dK s k) hn
      · skip
        rcases in_cases (n := 301) (by omega) u with ⟨un, hun, rfl, eu⟩ | ⟨eu, hnou⟩
        · skip
          refine r_aload_n (pc := 0) dX9_ask_0 rfl ?_
          refine r_iload_n (pc := 1) dX9_ask_1 rfl ?_
          refine r_callV_R (pc := 2) (b := 0) (As := [.int (nI k)]) 9 98 dX9_ask_2 lk_X9_find (ml_RX9_98 rfl) im_X9_find se_X9_find (by decide) (c9_o h9) (Nat.le_of_ble_eq_true rfl) rfl (find_ct hC.1.1 hC.2.1.1 hcn10 hk (hC.1.2.2.1 k hk)) ?_
          refine r_astore (pc := 5) (L' := [some (.ref 0), some (.int (nI k)), some (.int (nI hn)), some (.int (nI un)), some (.ref (tA k))]) dX9_ask_5 (by decide) rfl rfl ?_
          refine r_aload (pc := 7) dX9_ask_7 rfl ?_
          refine r_ifnullR (pc := 9) dX9_ask_9 ?_
          refine r_aload (pc := 12) dX9_ask_12 rfl ?_
          refine r_iload_n (pc := 14) dX9_ask_14 rfl ?_
          refine r_callV_P (pc := 15) (b := tA k) (As := [.int (nI hn)]) 8 126 dX9_ask_15 lk_X8_isShop (ml_RX9_126 rfl) im_X8_isShop se_X8_isShop (by decide) (c8_o h8) (Nat.le_of_ble_eq_true rfl) rfl (isShop_y h8 htc hhn hsh) ?_
          refine r_if_eq_n (pc := 18) (a := 1) (tgt := 32) dX9_ask_18 (by decide) (by omega) (fun c18 => ?_) (fun c18 => ?_)
          · exfalso; omega
          · skip
            refine r_iload_n (pc := 21) dX9_ask_21 rfl ?_
            refine r_if_lt_n (pc := 22) (a := un) (tgt := 32) dX9_ask_22 (by decide) (by omega) ?_
            refine r_iload_n (pc := 25) dX9_ask_25 rfl ?_
            refine r_sipush (pc := 26) (v := 300) dX9_ask_26 (by decide) ?_
            refine r_icmp_le_n (pc := 29) (a := un) (b := 300) (tgt := 34) dX9_ask_29 (by decide) (by omega) (by omega) (fun c29 => ?_) (fun c29 => ?_)
            · skip
              refine r_aload (pc := 34) dX9_ask_34 rfl ?_
              refine r_get1 (pc := 36) 8 6 129 dX9_ask_36 (fl_RX9_129 rfl) (by decide) rfl (c8_o h8) (c8_p6 h8) ?_
              refine r_iload_n (pc := 39) dX9_ask_39 rfl ?_
              refine r_aald1_n (pc := 40) (i := hn) 6 dX9_ask_40 (by decide) (c8_a6 h8) (by decide) (by omega) (c8_q6 h8 (by omega)) ?_
              refine r_aload (pc := 41) dX9_ask_41 rfl ?_
              refine r_get1 (pc := 43) 8 7 143 dX9_ask_43 (fl_RX9_143 rfl) (by decide) rfl (c8_o h8) (c8_p7 h8) ?_
              refine r_getIv (pc := 46) 7 1 149 dX9_ask_46 (fl_RX9_149 rfl) (by decide) rfl (c7_o (c8_s7 h8)) (v := nI ((tdT (sD s k)).2.1)) (hTr.2.1 1 (by omega)) ?_
              refine r_iload_n (pc := 49) dX9_ask_49 rfl ?_
              refine r_callS_P (pc := 50) (As := [.ref ((tA k) + 5 + 1 + hn), .int (nI ((tdT (sD s k)).2.1)), .int (nI un)]) 162 dX9_ask_50 lk_X9_bestPrice (ml_RX9_162 rfl) sm_X9_bestPrice (Nat.le_of_ble_eq_true rfl) rfl (bestPrice_ct (w := wF (dK s k) hn) (c8_r6 h8 (by omega)) (fun p hp => hTr.1.2.2.2 _ _ (by omega) hp) hok.2.1 (by omega)) ?_
              refine r_ret_i (pc := 53) dX9_ask_53 rfl ?_
              exact ⟨_, rfl, I, G, rfl, (by unfold aAsk; rw [atN_s et, atN_s eh, if_pos hsh, atN_s eu]), hC, hFr.m, hGk.gk⟩
            · exfalso; omega
        · skip
          refine r_aload_n (pc := 0) dX9_ask_0 rfl ?_
          refine r_iload_n (pc := 1) dX9_ask_1 rfl ?_
          refine r_callV_R (pc := 2) (b := 0) (As := [.int (nI k)]) 9 98 dX9_ask_2 lk_X9_find (ml_RX9_98 rfl) im_X9_find se_X9_find (by decide) (c9_o h9) (Nat.le_of_ble_eq_true rfl) rfl (find_ct hC.1.1 hC.2.1.1 hcn10 hk (hC.1.2.2.1 k hk)) ?_
          refine r_astore (pc := 5) (L' := [some (.ref 0), some (.int (nI k)), some (.int (nI hn)), some (.int u), some (.ref (tA k))]) dX9_ask_5 (by decide) rfl rfl ?_
          refine r_aload (pc := 7) dX9_ask_7 rfl ?_
          refine r_ifnullR (pc := 9) dX9_ask_9 ?_
          refine r_aload (pc := 12) dX9_ask_12 rfl ?_
          refine r_iload_n (pc := 14) dX9_ask_14 rfl ?_
          refine r_callV_P (pc := 15) (b := tA k) (As := [.int (nI hn)]) 8 126 dX9_ask_15 lk_X8_isShop (ml_RX9_126 rfl) im_X8_isShop se_X8_isShop (by decide) (c8_o h8) (Nat.le_of_ble_eq_true rfl) rfl (isShop_y h8 htc hhn hsh) ?_
          refine r_if_eq_n (pc := 18) (a := 1) (tgt := 32) dX9_ask_18 (by decide) (by omega) (fun c18 => ?_) (fun c18 => ?_)
          · exfalso; omega
          · skip
            refine r_iload_n (pc := 21) dX9_ask_21 rfl ?_
            refine r_if_lt (pc := 22) (x := u) (tgt := 32) dX9_ask_22 (by decide) (fun c22 => ?_) (fun c22 => ?_)
            · skip
              refine r_iconst (pc := 32) (v := -1) dX9_ask_32 (by decide) ?_
              refine r_ret_i (pc := 33) dX9_ask_33 rfl ?_
              exact ⟨_, rfl, I, G, rfl, (by unfold aAsk; rw [atN_s et, atN_s eh, if_pos hsh, atN_n eu] <;> rfl), hC, hFr.m, hGk.gk⟩
            · skip
              refine r_iload_n (pc := 25) dX9_ask_25 rfl ?_
              refine r_sipush (pc := 26) (v := 300) dX9_ask_26 (by decide) ?_
              refine r_icmp_le (pc := 29) (x := u) (z := 300) (tgt := 34) dX9_ask_29 (by decide) (fun c29 => ?_) (fun c29 => ?_)
              · exfalso; exact rg_no (n := 300) (by omega) hnou c22 c29
              · skip
                refine r_iconst (pc := 32) (v := -1) dX9_ask_32 (by decide) ?_
                refine r_ret_i (pc := 33) dX9_ask_33 rfl ?_
                exact ⟨_, rfl, I, G, rfl, (by unfold aAsk; rw [atN_s et, atN_s eh, if_pos hsh, atN_n eu] <;> rfl), hC, hFr.m, hGk.gk⟩
      · skip
        refine r_aload_n (pc := 0) dX9_ask_0 rfl ?_
        refine r_iload_n (pc := 1) dX9_ask_1 rfl ?_
        refine r_callV_R (pc := 2) (b := 0) (As := [.int (nI k)]) 9 98 dX9_ask_2 lk_X9_find (ml_RX9_98 rfl) im_X9_find se_X9_find (by decide) (c9_o h9) (Nat.le_of_ble_eq_true rfl) rfl (find_ct hC.1.1 hC.2.1.1 hcn10 hk (hC.1.2.2.1 k hk)) ?_
        refine r_astore (pc := 5) (L' := [some (.ref 0), some (.int (nI k)), some (.int (nI hn)), some (.int u), some (.ref (tA k))]) dX9_ask_5 (by decide) rfl rfl ?_
        refine r_aload (pc := 7) dX9_ask_7 rfl ?_
        refine r_ifnullR (pc := 9) dX9_ask_9 ?_
        refine r_aload (pc := 12) dX9_ask_12 rfl ?_
        refine r_iload_n (pc := 14) dX9_ask_14 rfl ?_
        refine r_callV_P (pc := 15) (b := tA k) (As := [.int (nI hn)]) 8 126 dX9_ask_15 lk_X8_isShop (ml_RX9_126 rfl) im_X8_isShop se_X8_isShop (by decide) (c8_o h8) (Nat.le_of_ble_eq_true rfl) rfl (isShop_n h8 htc hhn hsh) ?_
        refine r_if_eq_n (pc := 18) (a := 0) (tgt := 32) dX9_ask_18 (by decide) (by omega) (fun c18 => ?_) (fun c18 => ?_)
        · skip
          refine r_iconst (pc := 32) (v := -1) dX9_ask_32 (by decide) ?_
          refine r_ret_i (pc := 33) dX9_ask_33 rfl ?_
          exact ⟨_, rfl, I, G, rfl, (by unfold aAsk; rw [atN_s et, atN_s eh, if_neg hsh] <;> rfl), hC, hFr.m, hGk.gk⟩
        · exfalso; omega
    · skip
      refine r_aload_n (pc := 0) dX9_ask_0 rfl ?_
      refine r_iload_n (pc := 1) dX9_ask_1 rfl ?_
      refine r_callV_R (pc := 2) (b := 0) (As := [.int (nI k)]) 9 98 dX9_ask_2 lk_X9_find (ml_RX9_98 rfl) im_X9_find se_X9_find (by decide) (c9_o h9) (Nat.le_of_ble_eq_true rfl) rfl (find_ct hC.1.1 hC.2.1.1 hcn10 hk (hC.1.2.2.1 k hk)) ?_
      refine r_astore (pc := 5) (L' := [some (.ref 0), some (.int (nI k)), some (.int h), some (.int u), some (.ref (tA k))]) dX9_ask_5 (by decide) rfl rfl ?_
      refine r_aload (pc := 7) dX9_ask_7 rfl ?_
      refine r_ifnullR (pc := 9) dX9_ask_9 ?_
      refine r_aload (pc := 12) dX9_ask_12 rfl ?_
      refine r_iload_n (pc := 14) dX9_ask_14 rfl ?_
      refine r_callV_P (pc := 15) (b := tA k) (As := [.int h]) 8 126 dX9_ask_15 lk_X8_isShop (ml_RX9_126 rfl) im_X8_isShop se_X8_isShop (by decide) (c8_o h8) (Nat.le_of_ble_eq_true rfl) rfl (isShop_no h8 (by rw [hTr.1.1]; exact hnoh)) ?_
      refine r_if_eq_n (pc := 18) (a := 0) (tgt := 32) dX9_ask_18 (by decide) (by omega) (fun c18 => ?_) (fun c18 => ?_)
      · skip
        refine r_iconst (pc := 32) (v := -1) dX9_ask_32 (by decide) ?_
        refine r_ret_i (pc := 33) dX9_ask_33 rfl ?_
        exact ⟨_, rfl, I, G, rfl, (by unfold aAsk; rw [atN_s et, atN_n eh] <;> rfl), hC, hFr.m, hGk.gk⟩
      · exfalso; omega
  · skip
    refine r_aload_n (pc := 0) dX9_ask_0 rfl ?_
    refine r_iload_n (pc := 1) dX9_ask_1 rfl ?_
    refine r_callV_R (pc := 2) (b := 0) (As := [.int t]) 9 98 dX9_ask_2 lk_X9_find (ml_RX9_98 rfl) im_X9_find se_X9_find (by decide) (c9_o h9) (Nat.le_of_ble_eq_true rfl) rfl (find_no hC.1.1 (by rw [hC.2.1.1]; exact hnot)) ?_
    refine r_astoreN (pc := 5) (L' := [some (.ref 0), some (.int t), some (.int h), some (.int u), some (.null)]) dX9_ask_5 (by decide) rfl rfl ?_
    refine r_aloadN (pc := 7) dX9_ask_7 rfl ?_
    refine r_ifnullN (pc := 9) (tgt := 32) dX9_ask_9 (by decide) ?_
    refine r_iconst (pc := 32) (v := -1) dX9_ask_32 (by decide) ?_
    refine r_ret_i (pc := 33) dX9_ask_33 rfl ?_
    exact ⟨_, rfl, I, G, rfl, (by unfold aAsk; rw [atN_n et] <;> rfl), hC, hFr.m, hGk.gk⟩

set_option maxRecDepth 100000 in
theorem take_c {d : Nat} {I : Im} {G : Gm} {s : Sta} (hC : Ci s I G) {t : Int32} {h : Int32} {u : Int32} : Ct (d + 6) 0 0 YX9_take [.ref 0, .int t, .int h, .int u] (I, G) (qX (PcQ s I G (aTake s t h u))) := by
  refine Ct.of (by decide) (by simp [Value.category]) (Nat.le_of_ble_eq_true rfl) ?_
  have h9 := hC.1.1
  have hcn10 := hC.2.1.2.1
  have hFr : FrC I I := FrC.rf
  have hGk : Geq G G := Geq.rf
  show wp _ _ _ _ 0 [some (.ref 0), some (.int t), some (.int h), some (.int u), none] [] _ _
  rcases in_cases (n := sN s) (by have := hcn10; omega) t with ⟨k, hk, rfl, et⟩ | ⟨et, hnot⟩
  · skip
    have h8 := hC.1.2.1 k (by omega)
    obtain ⟨hok, hTr⟩ := hC.ok hk
    have hn8 : dN (dK s k) ≤ 8 := hok.1.1.2
    have hoff := tA_off k
    have hE := src_of hok.1 (tdT (sD s k))
    have hW := wbc_of hok.1 (tdT (sD s k))
    have hc60 : ∀ b, dC (dK s k) b ≤ 60 := fun b => Nat.le_trans (hok.1.2.1 b) (by omega)
    have htc := trc_of hok.1 hTr.1 (tdT (sD s k))
    rcases in_cases (n := dN (dK s k)) (by have := hn8; omega) h with ⟨hn, hhn, rfl, eh⟩ | ⟨eh, hnoh⟩
    · skip
      rcases in_cases (n := 301) (by omega) u with ⟨un, hun, rfl, eu⟩ | ⟨eu, hnou⟩
      · skip
        refine r_aload_n (pc := 0) dX9_take_0 rfl ?_
        refine r_iload_n (pc := 1) dX9_take_1 rfl ?_
        refine r_callV_R (pc := 2) (b := 0) (As := [.int (nI k)]) 9 98 dX9_take_2 lk_X9_find (ml_RX9_98 rfl) im_X9_find se_X9_find (by decide) (c9_o h9) (Nat.le_of_ble_eq_true rfl) rfl (find_ct hC.1.1 hC.2.1.1 hcn10 hk (hC.1.2.2.1 k hk)) ?_
        refine r_astore (pc := 5) (L' := [some (.ref 0), some (.int (nI k)), some (.int (nI hn)), some (.int (nI un)), some (.ref (tA k))]) dX9_take_5 (by decide) rfl rfl ?_
        refine r_aload (pc := 7) dX9_take_7 rfl ?_
        refine r_ifnullR (pc := 9) dX9_take_9 ?_
        refine r_aload (pc := 12) dX9_take_12 rfl ?_
        refine r_iload_n (pc := 14) dX9_take_14 rfl ?_
        refine r_callV_P (pc := 15) (b := tA k) (As := [.int (nI hn)]) 8 102 dX9_take_15 lk_X8_holds (ml_RX9_102 rfl) im_X8_holds se_X8_holds (by decide) (c8_o h8) (Nat.le_of_ble_eq_true rfl) rfl (holds_y h8 hTr.1.1 hn8 hhn) ?_
        refine r_if_eq_n (pc := 18) (a := 1) (tgt := 32) dX9_take_18 (by decide) (by omega) (fun c18 => ?_) (fun c18 => ?_)
        · exfalso; omega
        · skip
          refine r_iload_n (pc := 21) dX9_take_21 rfl ?_
          refine r_if_lt_n (pc := 22) (a := un) (tgt := 32) dX9_take_22 (by decide) (by omega) ?_
          refine r_iload_n (pc := 25) dX9_take_25 rfl ?_
          refine r_sipush (pc := 26) (v := 300) dX9_take_26 (by decide) ?_
          refine r_icmp_le_n (pc := 29) (a := un) (b := 300) (tgt := 34) dX9_take_29 (by decide) (by omega) (by omega) (fun c29 => ?_) (fun c29 => ?_)
          · skip
            refine r_aload_n (pc := 34) dX9_take_34 rfl ?_
            refine r_get1 (pc := 35) 9 5 41 dX9_take_35 (fl_RX9_41 rfl) (by decide) rfl (c9_o h9) (c9_p5 h9) ?_
            refine r_aload (pc := 38) dX9_take_38 rfl ?_
            refine r_aload (pc := 40) dX9_take_40 rfl ?_
            refine r_get1 (pc := 42) 8 7 143 dX9_take_42 (fl_RX9_143 rfl) (by decide) rfl (c8_o h8) (c8_p7 h8) ?_
            refine r_callV_U (pc := 45) (b := 23) (As := [.ref (tA k), .ref ((tA k) + 14)]) 5 166 dX9_take_45 lk_X5_settle (ml_RX9_166 rfl) im_X5_settle se_X5_settle (by decide) (c5_o (c9_s5 h9)) (Nat.le_of_ble_eq_true rfl) rfl (settle_t (τ := (tdT (sD s k))) hC hk (by omega) (Or.inr rfl) hok.2.1 hTr.2.1) (fun M1 h1 => ?_)
            obtain ⟨I1, G1, rfl, hC, hg1, hV1, hf1, hm1, hτ1, hce1⟩ := h1
            have hO1 : OcE I1 23 (eT (dK s k) (tdT (sD s k))) := oce_of (src_of hok.1 _) (wbc_of hok.1 _) hc60 hV1
            have hFr : FrC I I1 := hFr.tr (fun a j z => hf1 a j (by omega))
            have hGk : Geq G G1 := hGk.tr hg1
            have hTr := (hC.ok hk).2
            have h9 := hC.1.1
            have h8 := hC.1.2.1 k (by omega)
            have htc := trc_of hok.1 hTr.1 (tdT (sD s k))
            refine r_aload_n (pc := 48) dX9_take_48 rfl ?_
            refine r_get1 (pc := 49) 9 5 41 dX9_take_49 (fl_RX9_41 rfl) (by decide) rfl (c9_o h9) (c9_p5 h9) ?_
            refine r_aload (pc := 52) dX9_take_52 rfl ?_
            refine r_iload_n (pc := 54) dX9_take_54 rfl ?_
            refine r_iload_n (pc := 55) dX9_take_55 rfl ?_
            refine r_callV_M (pc := 56) (b := 23) (As := [.ref (tA k), .int (nI hn), .int (nI un)]) 5 170 dX9_take_56 lk_X5_takenAt (ml_RX9_170 rfl) im_X5_takenAt se_X5_takenAt (by decide) (c5_o (c9_s5 h9)) (Nat.le_of_ble_eq_true rfl) rfl (takenAt_ct (c9_s5 h9) h8 (by omega) hV1.1 htc hV1 hhn (by omega)) (fun v56 I9 h9b => ?_)
            obtain ⟨rfl, hV9, hf9⟩ := h9b
            have e9 : I9 (23 + 1) = I1 (23 + 1) := funext fun j => hf9 _ j (by omega)
            have hce9 : cE (dK s k) (I9 (23 + 1)) = eK' s k := by rw [e9]; exact hce1
            have hC : Ci s I9 G1 := hC.mk (fun a j z => hf9 a j (by omega)) Geq.rf (fun _ => rfl) rfl (mki_of hk hm1 (by rw [e9]; exact hτ1) (by rw [hce9]; exact hV9)) (hC.2.2.2.1.keep (fun k hk => (hC.ok hk).1) rfl (fun a j g1 g2 => hf9 a j (by omega))) (hC.2.2.2.2.keep rfl (fun a j z => hf9 a j (by omega)))
            have hFr : FrC I I9 := hFr.tr (fun a j z => hf9 a j (by omega))
            refine r_ret_i (pc := 59) dX9_take_59 rfl ?_
            exact ⟨_, rfl, I9, G1, rfl, (by unfold aTake; rw [atN_s et, atN_s eh, atN_s eu, mk_row hE hW hc60 (8 - hn) hn rfl hhn un (by omega)]), hC, hFr.m, hGk.gk⟩
          · exfalso; omega
      · skip
        refine r_aload_n (pc := 0) dX9_take_0 rfl ?_
        refine r_iload_n (pc := 1) dX9_take_1 rfl ?_
        refine r_callV_R (pc := 2) (b := 0) (As := [.int (nI k)]) 9 98 dX9_take_2 lk_X9_find (ml_RX9_98 rfl) im_X9_find se_X9_find (by decide) (c9_o h9) (Nat.le_of_ble_eq_true rfl) rfl (find_ct hC.1.1 hC.2.1.1 hcn10 hk (hC.1.2.2.1 k hk)) ?_
        refine r_astore (pc := 5) (L' := [some (.ref 0), some (.int (nI k)), some (.int (nI hn)), some (.int u), some (.ref (tA k))]) dX9_take_5 (by decide) rfl rfl ?_
        refine r_aload (pc := 7) dX9_take_7 rfl ?_
        refine r_ifnullR (pc := 9) dX9_take_9 ?_
        refine r_aload (pc := 12) dX9_take_12 rfl ?_
        refine r_iload_n (pc := 14) dX9_take_14 rfl ?_
        refine r_callV_P (pc := 15) (b := tA k) (As := [.int (nI hn)]) 8 102 dX9_take_15 lk_X8_holds (ml_RX9_102 rfl) im_X8_holds se_X8_holds (by decide) (c8_o h8) (Nat.le_of_ble_eq_true rfl) rfl (holds_y h8 hTr.1.1 hn8 hhn) ?_
        refine r_if_eq_n (pc := 18) (a := 1) (tgt := 32) dX9_take_18 (by decide) (by omega) (fun c18 => ?_) (fun c18 => ?_)
        · exfalso; omega
        · skip
          refine r_iload_n (pc := 21) dX9_take_21 rfl ?_
          refine r_if_lt (pc := 22) (x := u) (tgt := 32) dX9_take_22 (by decide) (fun c22 => ?_) (fun c22 => ?_)
          · skip
            refine r_iconst (pc := 32) (v := -1) dX9_take_32 (by decide) ?_
            refine r_ret_i (pc := 33) dX9_take_33 rfl ?_
            exact ⟨_, rfl, I, G, rfl, (by unfold aTake; rw [atN_s et, atN_s eh, atN_n eu] <;> rfl), hC, hFr.m, hGk.gk⟩
          · skip
            refine r_iload_n (pc := 25) dX9_take_25 rfl ?_
            refine r_sipush (pc := 26) (v := 300) dX9_take_26 (by decide) ?_
            refine r_icmp_le (pc := 29) (x := u) (z := 300) (tgt := 34) dX9_take_29 (by decide) (fun c29 => ?_) (fun c29 => ?_)
            · exfalso; exact rg_no (n := 300) (by omega) hnou c22 c29
            · skip
              refine r_iconst (pc := 32) (v := -1) dX9_take_32 (by decide) ?_
              refine r_ret_i (pc := 33) dX9_take_33 rfl ?_
              exact ⟨_, rfl, I, G, rfl, (by unfold aTake; rw [atN_s et, atN_s eh, atN_n eu] <;> rfl), hC, hFr.m, hGk.gk⟩
    · skip
      refine r_aload_n (pc := 0) dX9_take_0 rfl ?_
      refine r_iload_n (pc := 1) dX9_take_1 rfl ?_
      refine r_callV_R (pc := 2) (b := 0) (As := [.int (nI k)]) 9 98 dX9_take_2 lk_X9_find (ml_RX9_98 rfl) im_X9_find se_X9_find (by decide) (c9_o h9) (Nat.le_of_ble_eq_true rfl) rfl (find_ct hC.1.1 hC.2.1.1 hcn10 hk (hC.1.2.2.1 k hk)) ?_
      refine r_astore (pc := 5) (L' := [some (.ref 0), some (.int (nI k)), some (.int h), some (.int u), some (.ref (tA k))]) dX9_take_5 (by decide) rfl rfl ?_
      refine r_aload (pc := 7) dX9_take_7 rfl ?_
      refine r_ifnullR (pc := 9) dX9_take_9 ?_
      refine r_aload (pc := 12) dX9_take_12 rfl ?_
      refine r_iload_n (pc := 14) dX9_take_14 rfl ?_
      refine r_callV_P (pc := 15) (b := tA k) (As := [.int h]) 8 102 dX9_take_15 lk_X8_holds (ml_RX9_102 rfl) im_X8_holds se_X8_holds (by decide) (c8_o h8) (Nat.le_of_ble_eq_true rfl) rfl (holds_n h8 hTr.1.1 hnoh) ?_
      refine r_if_eq_n (pc := 18) (a := 0) (tgt := 32) dX9_take_18 (by decide) (by omega) (fun c18 => ?_) (fun c18 => ?_)
      · skip
        refine r_iconst (pc := 32) (v := -1) dX9_take_32 (by decide) ?_
        refine r_ret_i (pc := 33) dX9_take_33 rfl ?_
        exact ⟨_, rfl, I, G, rfl, (by unfold aTake; rw [atN_s et, atN_n eh] <;> rfl), hC, hFr.m, hGk.gk⟩
      · exfalso; omega
  · skip
    refine r_aload_n (pc := 0) dX9_take_0 rfl ?_
    refine r_iload_n (pc := 1) dX9_take_1 rfl ?_
    refine r_callV_R (pc := 2) (b := 0) (As := [.int t]) 9 98 dX9_take_2 lk_X9_find (ml_RX9_98 rfl) im_X9_find se_X9_find (by decide) (c9_o h9) (Nat.le_of_ble_eq_true rfl) rfl (find_no hC.1.1 (by rw [hC.2.1.1]; exact hnot)) ?_
    refine r_astoreN (pc := 5) (L' := [some (.ref 0), some (.int t), some (.int h), some (.int u), some (.null)]) dX9_take_5 (by decide) rfl rfl ?_
    refine r_aloadN (pc := 7) dX9_take_7 rfl ?_
    refine r_ifnullN (pc := 9) (tgt := 32) dX9_take_9 (by decide) ?_
    refine r_iconst (pc := 32) (v := -1) dX9_take_32 (by decide) ?_
    refine r_ret_i (pc := 33) dX9_take_33 rfl ?_
    exact ⟨_, rfl, I, G, rfl, (by unfold aTake; rw [atN_n et] <;> rfl), hC, hFr.m, hGk.gk⟩
