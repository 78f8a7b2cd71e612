/-! ===== the class: rivals, joining ===== -/

set_option maxHeartbeats 300000 in
set_option maxRecDepth 100000 in
theorem rivals_c {d : Nat} {I : Im} {G : Gm} {s : Sta} (hC : Ci s I G) {t x y u v i : Int32} : Ct (d + 4) 0 0 YX9_rivals [.ref 0, .int t, .int x, .int y, .int u, .int v, .int i] (I, G) (qX (PcQ s I G (aRivals s t x y u v i))) := by
  refine Ct.of (by decide) (by simp [Value.category]) (Nat.le_of_ble_eq_true rfl) ?_
  have h9 := hC.1.1
  have hcn10 := hC.2.1.2.1
  have hFr : FrC I I := FrC.rf
  have hGk : Geq G G := Geq.rf
  show wp _ _ _ _ 0 [some (.ref 0), some (.int t), some (.int x), some (.int y), some (.int u), some (.int v), some (.int i), none] [] _ _
  rcases in_cases (n := sN s) (by have := hcn10; omega) t with ⟨k, hk, rfl, et⟩ | ⟨et, hnot⟩
  · skip
    have h8 := hC.1.2.1 k (by omega)
    obtain ⟨hok, hTr⟩ := hC.ok hk
    have hn8 : dN (dK s k) ≤ 8 := hok.1.1.2
    have hoff := tA_off k
    have hE := src_of hok.1 (tdT (sD s k))
    have hW := wbc_of hok.1 (tdT (sD s k))
    have hc60 : ∀ b, dC (dK s k) b ≤ 60 := fun b => Nat.le_trans (hok.1.2.1 b) (by omega)
    have htc := trc_of hok.1 hTr.1 (tdT (sD s k))
    rcases in_cases (n := dN (dK s k)) (by have := hn8; omega) x with ⟨xn, hxn, rfl, ex⟩ | ⟨ex, hnox⟩
    · skip
      by_cases hsx : shP (dK s k) xn
      · skip
        rcases in_cases (n := dN (dK s k)) (by have := hn8; omega) y with ⟨yn, hyn, rfl, ey⟩ | ⟨ey, hnoy⟩
        · skip
          by_cases hsy : shP (dK s k) yn
          · skip
            by_cases hxy : xn = yn
            · skip
              refine r_aload_n (pc := 0) dX9_rivals_0 rfl ?_
              refine r_iload_n (pc := 1) dX9_rivals_1 rfl ?_
              refine r_callV_R (pc := 2) (b := 0) (As := [.int (nI k)]) 9 98 dX9_rivals_2 lk_X9_find (ml_RX9_98 rfl) im_X9_find se_X9_find (by decide) (c9_o h9) (Nat.le_of_ble_eq_true rfl) rfl (find_ct hC.1.1 hC.2.1.1 hcn10 hk (hC.1.2.2.1 k hk)) ?_
              refine r_astore (pc := 5) (L' := [some (.ref 0), some (.int (nI k)), some (.int (nI xn)), some (.int (nI yn)), some (.int u), some (.int v), some (.int i), some (.ref (tA k))]) dX9_rivals_5 (by decide) rfl rfl ?_
              refine r_aload (pc := 7) dX9_rivals_7 rfl ?_
              refine r_ifnullR (pc := 9) dX9_rivals_9 ?_
              refine r_aload (pc := 12) dX9_rivals_12 rfl ?_
              refine r_iload_n (pc := 14) dX9_rivals_14 rfl ?_
              refine r_callV_P (pc := 15) (b := tA k) (As := [.int (nI xn)]) 8 126 dX9_rivals_15 lk_X8_isShop (ml_RX9_126 rfl) im_X8_isShop se_X8_isShop (by decide) (c8_o h8) (Nat.le_of_ble_eq_true rfl) rfl (isShop_y h8 htc hxn hsx) ?_
              refine r_if_eq_n (pc := 18) (a := 1) (tgt := 51) dX9_rivals_18 (by decide) (by omega) (fun c18 => ?_) (fun c18 => ?_)
              · exfalso; omega
              · skip
                refine r_aload (pc := 21) dX9_rivals_21 rfl ?_
                refine r_iload_n (pc := 23) dX9_rivals_23 rfl ?_
                refine r_callV_P (pc := 24) (b := tA k) (As := [.int (nI yn)]) 8 126 dX9_rivals_24 lk_X8_isShop (ml_RX9_126 rfl) im_X8_isShop se_X8_isShop (by decide) (c8_o h8) (Nat.le_of_ble_eq_true rfl) rfl (isShop_y h8 htc hyn hsy) ?_
                refine r_if_eq_n (pc := 27) (a := 1) (tgt := 51) dX9_rivals_27 (by decide) (by omega) (fun c27 => ?_) (fun c27 => ?_)
                · exfalso; omega
                · skip
                  refine r_iload_n (pc := 30) dX9_rivals_30 rfl ?_
                  refine r_iload_n (pc := 31) dX9_rivals_31 rfl ?_
                  refine r_icmp_eq_n (pc := 32) (a := xn) (b := yn) (tgt := 51) dX9_rivals_32 (by decide) (by omega) (by omega) (fun c32 => ?_) (fun c32 => ?_)
                  · skip
                    refine r_iconst (pc := 51) (v := -1) dX9_rivals_51 (by decide) ?_
                    refine r_ret_i (pc := 52) dX9_rivals_52 rfl ?_
                    exact ⟨_, rfl, I, G, rfl, (by unfold aRivals; rw [atN_s et, atN_s ex, if_pos hsx, atN_s ey, if_pos hsy, if_pos hxy] <;> rfl), hC, hFr.m, hGk.gk⟩
                  · exfalso; exact c32 hxy
            · skip
              rcases in_cases (n := 42) (by omega) u with ⟨un, hun, rfl, eu⟩ | ⟨eu, hnou⟩
              · skip
                rcases in_cases (n := 42) (by omega) v with ⟨vn, hvn, rfl, ev⟩ | ⟨ev, hnov⟩
                · skip
                  refine r_aload_n (pc := 0) dX9_rivals_0 rfl ?_
                  refine r_iload_n (pc := 1) dX9_rivals_1 rfl ?_
                  refine r_callV_R (pc := 2) (b := 0) (As := [.int (nI k)]) 9 98 dX9_rivals_2 lk_X9_find (ml_RX9_98 rfl) im_X9_find se_X9_find (by decide) (c9_o h9) (Nat.le_of_ble_eq_true rfl) rfl (find_ct hC.1.1 hC.2.1.1 hcn10 hk (hC.1.2.2.1 k hk)) ?_
                  refine r_astore (pc := 5) (L' := [some (.ref 0), some (.int (nI k)), some (.int (nI xn)), some (.int (nI yn)), some (.int (nI un)), some (.int (nI vn)), some (.int i), some (.ref (tA k))]) dX9_rivals_5 (by decide) rfl rfl ?_
                  refine r_aload (pc := 7) dX9_rivals_7 rfl ?_
                  refine r_ifnullR (pc := 9) dX9_rivals_9 ?_
                  refine r_aload (pc := 12) dX9_rivals_12 rfl ?_
                  refine r_iload_n (pc := 14) dX9_rivals_14 rfl ?_
                  refine r_callV_P (pc := 15) (b := tA k) (As := [.int (nI xn)]) 8 126 dX9_rivals_15 lk_X8_isShop (ml_RX9_126 rfl) im_X8_isShop se_X8_isShop (by decide) (c8_o h8) (Nat.le_of_ble_eq_true rfl) rfl (isShop_y h8 htc hxn hsx) ?_
                  refine r_if_eq_n (pc := 18) (a := 1) (tgt := 51) dX9_rivals_18 (by decide) (by omega) (fun c18 => ?_) (fun c18 => ?_)
                  · exfalso; omega
                  · skip
                    refine r_aload (pc := 21) dX9_rivals_21 rfl ?_
                    refine r_iload_n (pc := 23) dX9_rivals_23 rfl ?_
                    refine r_callV_P (pc := 24) (b := tA k) (As := [.int (nI yn)]) 8 126 dX9_rivals_24 lk_X8_isShop (ml_RX9_126 rfl) im_X8_isShop se_X8_isShop (by decide) (c8_o h8) (Nat.le_of_ble_eq_true rfl) rfl (isShop_y h8 htc hyn hsy) ?_
                    refine r_if_eq_n (pc := 27) (a := 1) (tgt := 51) dX9_rivals_27 (by decide) (by omega) (fun c27 => ?_) (fun c27 => ?_)
                    · exfalso; omega
                    · skip
                      refine r_iload_n (pc := 30) dX9_rivals_30 rfl ?_
                      refine r_iload_n (pc := 31) dX9_rivals_31 rfl ?_
                      refine r_icmp_eq_n (pc := 32) (a := xn) (b := yn) (tgt := 51) dX9_rivals_32 (by decide) (by omega) (by omega) (fun c32 => ?_) (fun c32 => ?_)
                      · exfalso; exact hxy c32
                      · skip
                        refine r_iload (pc := 35) dX9_rivals_35 rfl ?_
                        refine r_callS_P (pc := 37) (As := [.int (nI un)]) 136 dX9_rivals_37 lk_X9_isPrice (ml_RX9_136 rfl) sm_X9_isPrice (Nat.le_of_ble_eq_true rfl) rfl (isPrice_y hun) ?_
                        refine r_if_eq_n (pc := 40) (a := 1) (tgt := 51) dX9_rivals_40 (by decide) (by omega) (fun c40 => ?_) (fun c40 => ?_)
                        · exfalso; omega
                        · skip
                          refine r_iload (pc := 43) dX9_rivals_43 rfl ?_
                          refine r_callS_P (pc := 45) (As := [.int (nI vn)]) 136 dX9_rivals_45 lk_X9_isPrice (ml_RX9_136 rfl) sm_X9_isPrice (Nat.le_of_ble_eq_true rfl) rfl (isPrice_y hvn) ?_
                          refine r_if_ne_n (pc := 48) (a := 1) (tgt := 53) dX9_rivals_48 (by decide) (by omega) (fun c48 => ?_) (fun c48 => ?_)
                          · skip
                            refine r_aload_n (pc := 53) dX9_rivals_53 rfl ?_
                            refine r_get1 (pc := 54) 9 9 65 dX9_rivals_54 (fl_RX9_65 rfl) (by decide) rfl (c9_o h9) (c9_p9 h9) ?_
                            refine r_aload (pc := 57) dX9_rivals_57 rfl ?_
                            refine r_get1 (pc := 59) 8 6 129 dX9_rivals_59 (fl_RX9_129 rfl) (by decide) rfl (c8_o h8) (c8_p6 h8) ?_
                            refine r_iload_n (pc := 62) dX9_rivals_62 rfl ?_
                            refine r_aald1_n (pc := 63) (i := xn) 6 dX9_rivals_63 (by decide) (c8_a6 h8) (by decide) (by omega) (c8_q6 h8 (by omega)) ?_
                            refine r_aload (pc := 64) dX9_rivals_64 rfl ?_
                            refine r_get1 (pc := 66) 8 6 129 dX9_rivals_66 (fl_RX9_129 rfl) (by decide) rfl (c8_o h8) (c8_p6 h8) ?_
                            refine r_iload_n (pc := 69) dX9_rivals_69 rfl ?_
                            refine r_aald1_n (pc := 70) (i := yn) 6 dX9_rivals_70 (by decide) (c8_a6 h8) (by decide) (by omega) (c8_q6 h8 (by omega)) ?_
                            refine r_iload (pc := 71) dX9_rivals_71 rfl ?_
                            refine r_iload (pc := 73) dX9_rivals_73 rfl ?_
                            refine r_callV_V (pc := 75) (b := 115) (As := [.ref ((tA k) + 5 + 1 + xn), .ref ((tA k) + 5 + 1 + yn), .int (nI un), .int (nI vn)]) 1 254 dX9_rivals_75 lk_X1_setShops (ml_RX9_254 rfl) im_X1_setShops se_X1_setShops (by decide) (c1_o (c9_s9 h9)) (Nat.le_of_ble_eq_true rfl) rfl (setShops_ct (c9_s9 h9) (c8_r6 h8 (i := xn) (by omega)) (c8_r6 h8 (i := yn) (by omega)) (by omega) (by omega)) (fun Ia hIa => ?_)
                            obtain ⟨hva, hfa⟩ := hIa
                            have hC : Ci s Ia G := hC.kq (fun a j z => hfa a j (by omega))
                            have hFr : FrC I Ia := hFr.tr (fun a j z => hfa a j (by omega))
                            have hw1 : ∀ x, x < 42 → I (tA k + 5 + 1 + xn) x = nI (wF (dK s k) xn x) := fun x hx => hTr.1.2.2.2 _ _ (by omega) hx
                            have hw2 : ∀ x, x < 42 → I (tA k + 5 + 1 + yn) x = nI (wF (dK s k) yn x) := fun x hx => hTr.1.2.2.2 _ _ (by omega) hx
                            refine r_aload_n (pc := 78) dX9_rivals_78 rfl ?_
                            refine r_get1 (pc := 79) 9 9 65 dX9_rivals_79 (fl_RX9_65 rfl) (by decide) rfl (c9_o h9) (c9_p9 h9) ?_
                            refine r_iload (pc := 82) dX9_rivals_82 rfl ?_
                            refine r_callV_M (pc := 84) (b := 115) (As := [.int i]) 1 258 dX9_rivals_84 lk_X1_restAt (ml_RX9_258 rfl) im_X1_restAt se_X1_restAt (by decide) (c1_o (c9_s9 h9)) (Nat.le_of_ble_eq_true rfl) rfl (restAt_ct (c9_s9 h9)) (fun v84 Ic hIc => ?_)
                            obtain ⟨hvq, hfc⟩ := hIc
                            have hC : Ci s Ic G := hC.kq (fun a j z => hfc a j (by omega) (by omega))
                            have hFr : FrC I Ic := hFr.tr (fun a j z => hfc a j (by omega) (by omega))
                            refine r_ret_i (pc := 87) dX9_rivals_87 rfl ?_
                            exact ⟨_, rfl, Ic, G, rfl, (by unfold aRivals; rw [atN_s et, atN_s ex, if_pos hsx, atN_s ey, if_pos hsy, if_neg hxy, atN_s eu, atN_s ev, hvq]; unfold riF; refine scA_congr (duB_congr (fun x hx => by rw [(hva x hx).1, hw1 x hx, hw2 x hx]) (fun x hx => by rw [(hva x hx).2.2.1, hw1 x hx]) (fun x hx => by rw [(hva x hx).2.1, hw1 x hx, hw2 x hx]) (fun x hx => by rw [(hva x hx).2.2.2, hw2 x hx]))), hC, hFr.m, hGk.gk⟩
                          · exfalso; omega
                · skip
                  refine r_aload_n (pc := 0) dX9_rivals_0 rfl ?_
                  refine r_iload_n (pc := 1) dX9_rivals_1 rfl ?_
                  refine r_callV_R (pc := 2) (b := 0) (As := [.int (nI k)]) 9 98 dX9_rivals_2 lk_X9_find (ml_RX9_98 rfl) im_X9_find se_X9_find (by decide) (c9_o h9) (Nat.le_of_ble_eq_true rfl) rfl (find_ct hC.1.1 hC.2.1.1 hcn10 hk (hC.1.2.2.1 k hk)) ?_
                  refine r_astore (pc := 5) (L' := [some (.ref 0), some (.int (nI k)), some (.int (nI xn)), some (.int (nI yn)), some (.int (nI un)), some (.int v), some (.int i), some (.ref (tA k))]) dX9_rivals_5 (by decide) rfl rfl ?_
                  refine r_aload (pc := 7) dX9_rivals_7 rfl ?_
                  refine r_ifnullR (pc := 9) dX9_rivals_9 ?_
                  refine r_aload (pc := 12) dX9_rivals_12 rfl ?_
                  refine r_iload_n (pc := 14) dX9_rivals_14 rfl ?_
                  refine r_callV_P (pc := 15) (b := tA k) (As := [.int (nI xn)]) 8 126 dX9_rivals_15 lk_X8_isShop (ml_RX9_126 rfl) im_X8_isShop se_X8_isShop (by decide) (c8_o h8) (Nat.le_of_ble_eq_true rfl) rfl (isShop_y h8 htc hxn hsx) ?_
                  refine r_if_eq_n (pc := 18) (a := 1) (tgt := 51) dX9_rivals_18 (by decide) (by omega) (fun c18 => ?_) (fun c18 => ?_)
                  · exfalso; omega
                  · skip
                    refine r_aload (pc := 21) dX9_rivals_21 rfl ?_
                    refine r_iload_n (pc := 23) dX9_rivals_23 rfl ?_
                    refine r_callV_P (pc := 24) (b := tA k) (As := [.int (nI yn)]) 8 126 dX9_rivals_24 lk_X8_isShop (ml_RX9_126 rfl) im_X8_isShop se_X8_isShop (by decide) (c8_o h8) (Nat.le_of_ble_eq_true rfl) rfl (isShop_y h8 htc hyn hsy) ?_
                    refine r_if_eq_n (pc := 27) (a := 1) (tgt := 51) dX9_rivals_27 (by decide) (by omega) (fun c27 => ?_) (fun c27 => ?_)
                    · exfalso; omega
                    · skip
                      refine r_iload_n (pc := 30) dX9_rivals_30 rfl ?_
                      refine r_iload_n (pc := 31) dX9_rivals_31 rfl ?_
                      refine r_icmp_eq_n (pc := 32) (a := xn) (b := yn) (tgt := 51) dX9_rivals_32 (by decide) (by omega) (by omega) (fun c32 => ?_) (fun c32 => ?_)
                      · exfalso; exact hxy c32
                      · skip
                        refine r_iload (pc := 35) dX9_rivals_35 rfl ?_
                        refine r_callS_P (pc := 37) (As := [.int (nI un)]) 136 dX9_rivals_37 lk_X9_isPrice (ml_RX9_136 rfl) sm_X9_isPrice (Nat.le_of_ble_eq_true rfl) rfl (isPrice_y hun) ?_
                        refine r_if_eq_n (pc := 40) (a := 1) (tgt := 51) dX9_rivals_40 (by decide) (by omega) (fun c40 => ?_) (fun c40 => ?_)
                        · exfalso; omega
                        · skip
                          refine r_iload (pc := 43) dX9_rivals_43 rfl ?_
                          refine r_callS_P (pc := 45) (As := [.int v]) 136 dX9_rivals_45 lk_X9_isPrice (ml_RX9_136 rfl) sm_X9_isPrice (Nat.le_of_ble_eq_true rfl) rfl (isPrice_n hnov) ?_
                          refine r_if_ne_n (pc := 48) (a := 0) (tgt := 53) dX9_rivals_48 (by decide) (by omega) (fun c48 => ?_) (fun c48 => ?_)
                          · exfalso; omega
                          · skip
                            refine r_iconst (pc := 51) (v := -1) dX9_rivals_51 (by decide) ?_
                            refine r_ret_i (pc := 52) dX9_rivals_52 rfl ?_
                            exact ⟨_, rfl, I, G, rfl, (by unfold aRivals; rw [atN_s et, atN_s ex, if_pos hsx, atN_s ey, if_pos hsy, if_neg hxy, atN_s eu, atN_n ev] <;> rfl), hC, hFr.m, hGk.gk⟩
              · skip
                refine r_aload_n (pc := 0) dX9_rivals_0 rfl ?_
                refine r_iload_n (pc := 1) dX9_rivals_1 rfl ?_
                refine r_callV_R (pc := 2) (b := 0) (As := [.int (nI k)]) 9 98 dX9_rivals_2 lk_X9_find (ml_RX9_98 rfl) im_X9_find se_X9_find (by decide) (c9_o h9) (Nat.le_of_ble_eq_true rfl) rfl (find_ct hC.1.1 hC.2.1.1 hcn10 hk (hC.1.2.2.1 k hk)) ?_
                refine r_astore (pc := 5) (L' := [some (.ref 0), some (.int (nI k)), some (.int (nI xn)), some (.int (nI yn)), some (.int u), some (.int v), some (.int i), some (.ref (tA k))]) dX9_rivals_5 (by decide) rfl rfl ?_
                refine r_aload (pc := 7) dX9_rivals_7 rfl ?_
                refine r_ifnullR (pc := 9) dX9_rivals_9 ?_
                refine r_aload (pc := 12) dX9_rivals_12 rfl ?_
                refine r_iload_n (pc := 14) dX9_rivals_14 rfl ?_
                refine r_callV_P (pc := 15) (b := tA k) (As := [.int (nI xn)]) 8 126 dX9_rivals_15 lk_X8_isShop (ml_RX9_126 rfl) im_X8_isShop se_X8_isShop (by decide) (c8_o h8) (Nat.le_of_ble_eq_true rfl) rfl (isShop_y h8 htc hxn hsx) ?_
                refine r_if_eq_n (pc := 18) (a := 1) (tgt := 51) dX9_rivals_18 (by decide) (by omega) (fun c18 => ?_) (fun c18 => ?_)
                · exfalso; omega
                · skip
                  refine r_aload (pc := 21) dX9_rivals_21 rfl ?_
                  refine r_iload_n (pc := 23) dX9_rivals_23 rfl ?_
                  refine r_callV_P (pc := 24) (b := tA k) (As := [.int (nI yn)]) 8 126 dX9_rivals_24 lk_X8_isShop (ml_RX9_126 rfl) im_X8_isShop se_X8_isShop (by decide) (c8_o h8) (Nat.le_of_ble_eq_true rfl) rfl (isShop_y h8 htc hyn hsy) ?_
                  refine r_if_eq_n (pc := 27) (a := 1) (tgt := 51) dX9_rivals_27 (by decide) (by omega) (fun c27 => ?_) (fun c27 => ?_)
                  · exfalso; omega
                  · skip
                    refine r_iload_n (pc := 30) dX9_rivals_30 rfl ?_
                    refine r_iload_n (pc := 31) dX9_rivals_31 rfl ?_
                    refine r_icmp_eq_n (pc := 32) (a := xn) (b := yn) (tgt := 51) dX9_rivals_32 (by decide) (by omega) (by omega) (fun c32 => ?_) (fun c32 => ?_)
                    · exfalso; exact hxy c32
                    · skip
                      refine r_iload (pc := 35) dX9_rivals_35 rfl ?_
                      refine r_callS_P (pc := 37) (As := [.int u]) 136 dX9_rivals_37 lk_X9_isPrice (ml_RX9_136 rfl) sm_X9_isPrice (Nat.le_of_ble_eq_true rfl) rfl (isPrice_n hnou) ?_
                      refine r_if_eq_n (pc := 40) (a := 0) (tgt := 51) dX9_rivals_40 (by decide) (by omega) (fun c40 => ?_) (fun c40 => ?_)
                      · skip
                        refine r_iconst (pc := 51) (v := -1) dX9_rivals_51 (by decide) ?_
                        refine r_ret_i (pc := 52) dX9_rivals_52 rfl ?_
                        exact ⟨_, rfl, I, G, rfl, (by unfold aRivals; rw [atN_s et, atN_s ex, if_pos hsx, atN_s ey, if_pos hsy, if_neg hxy, atN_n eu] <;> rfl), hC, hFr.m, hGk.gk⟩
                      · exfalso; omega
          · skip
            refine r_aload_n (pc := 0) dX9_rivals_0 rfl ?_
            refine r_iload_n (pc := 1) dX9_rivals_1 rfl ?_
            refine r_callV_R (pc := 2) (b := 0) (As := [.int (nI k)]) 9 98 dX9_rivals_2 lk_X9_find (ml_RX9_98 rfl) im_X9_find se_X9_find (by decide) (c9_o h9) (Nat.le_of_ble_eq_true rfl) rfl (find_ct hC.1.1 hC.2.1.1 hcn10 hk (hC.1.2.2.1 k hk)) ?_
            refine r_astore (pc := 5) (L' := [some (.ref 0), some (.int (nI k)), some (.int (nI xn)), some (.int (nI yn)), some (.int u), some (.int v), some (.int i), some (.ref (tA k))]) dX9_rivals_5 (by decide) rfl rfl ?_
            refine r_aload (pc := 7) dX9_rivals_7 rfl ?_
            refine r_ifnullR (pc := 9) dX9_rivals_9 ?_
            refine r_aload (pc := 12) dX9_rivals_12 rfl ?_
            refine r_iload_n (pc := 14) dX9_rivals_14 rfl ?_
            refine r_callV_P (pc := 15) (b := tA k) (As := [.int (nI xn)]) 8 126 dX9_rivals_15 lk_X8_isShop (ml_RX9_126 rfl) im_X8_isShop se_X8_isShop (by decide) (c8_o h8) (Nat.le_of_ble_eq_true rfl) rfl (isShop_y h8 htc hxn hsx) ?_
            refine r_if_eq_n (pc := 18) (a := 1) (tgt := 51) dX9_rivals_18 (by decide) (by omega) (fun c18 => ?_) (fun c18 => ?_)
            · exfalso; omega
            · skip
              refine r_aload (pc := 21) dX9_rivals_21 rfl ?_
              refine r_iload_n (pc := 23) dX9_rivals_23 rfl ?_
              refine r_callV_P (pc := 24) (b := tA k) (As := [.int (nI yn)]) 8 126 dX9_rivals_24 lk_X8_isShop (ml_RX9_126 rfl) im_X8_isShop se_X8_isShop (by decide) (c8_o h8) (Nat.le_of_ble_eq_true rfl) rfl (isShop_n h8 htc hyn hsy) ?_
              refine r_if_eq_n (pc := 27) (a := 0) (tgt := 51) dX9_rivals_27 (by decide) (by omega) (fun c27 => ?_) (fun c27 => ?_)
              · skip
                refine r_iconst (pc := 51) (v := -1) dX9_rivals_51 (by decide) ?_
                refine r_ret_i (pc := 52) dX9_rivals_52 rfl ?_
                exact ⟨_, rfl, I, G, rfl, (by unfold aRivals; rw [atN_s et, atN_s ex, if_pos hsx, atN_s ey, if_neg hsy] <;> rfl), hC, hFr.m, hGk.gk⟩
              · exfalso; omega
        · skip
          refine r_aload_n (pc := 0) dX9_rivals_0 rfl ?_
          refine r_iload_n (pc := 1) dX9_rivals_1 rfl ?_
          refine r_callV_R (pc := 2) (b := 0) (As := [.int (nI k)]) 9 98 dX9_rivals_2 lk_X9_find (ml_RX9_98 rfl) im_X9_find se_X9_find (by decide) (c9_o h9) (Nat.le_of_ble_eq_true rfl) rfl (find_ct hC.1.1 hC.2.1.1 hcn10 hk (hC.1.2.2.1 k hk)) ?_
          refine r_astore (pc := 5) (L' := [some (.ref 0), some (.int (nI k)), some (.int (nI xn)), some (.int y), some (.int u), some (.int v), some (.int i), some (.ref (tA k))]) dX9_rivals_5 (by decide) rfl rfl ?_
          refine r_aload (pc := 7) dX9_rivals_7 rfl ?_
          refine r_ifnullR (pc := 9) dX9_rivals_9 ?_
          refine r_aload (pc := 12) dX9_rivals_12 rfl ?_
          refine r_iload_n (pc := 14) dX9_rivals_14 rfl ?_
          refine r_callV_P (pc := 15) (b := tA k) (As := [.int (nI xn)]) 8 126 dX9_rivals_15 lk_X8_isShop (ml_RX9_126 rfl) im_X8_isShop se_X8_isShop (by decide) (c8_o h8) (Nat.le_of_ble_eq_true rfl) rfl (isShop_y h8 htc hxn hsx) ?_
          refine r_if_eq_n (pc := 18) (a := 1) (tgt := 51) dX9_rivals_18 (by decide) (by omega) (fun c18 => ?_) (fun c18 => ?_)
          · exfalso; omega
          · skip
            refine r_aload (pc := 21) dX9_rivals_21 rfl ?_
            refine r_iload_n (pc := 23) dX9_rivals_23 rfl ?_
            refine r_callV_P (pc := 24) (b := tA k) (As := [.int y]) 8 126 dX9_rivals_24 lk_X8_isShop (ml_RX9_126 rfl) im_X8_isShop se_X8_isShop (by decide) (c8_o h8) (Nat.le_of_ble_eq_true rfl) rfl (isShop_no h8 (by rw [hTr.1.1]; exact hnoy)) ?_
            refine r_if_eq_n (pc := 27) (a := 0) (tgt := 51) dX9_rivals_27 (by decide) (by omega) (fun c27 => ?_) (fun c27 => ?_)
            · skip
              refine r_iconst (pc := 51) (v := -1) dX9_rivals_51 (by decide) ?_
              refine r_ret_i (pc := 52) dX9_rivals_52 rfl ?_
              exact ⟨_, rfl, I, G, rfl, (by unfold aRivals; rw [atN_s et, atN_s ex, if_pos hsx, atN_n ey] <;> rfl), hC, hFr.m, hGk.gk⟩
            · exfalso; omega
      · skip
        refine r_aload_n (pc := 0) dX9_rivals_0 rfl ?_
        refine r_iload_n (pc := 1) dX9_rivals_1 rfl ?_
        refine r_callV_R (pc := 2) (b := 0) (As := [.int (nI k)]) 9 98 dX9_rivals_2 lk_X9_find (ml_RX9_98 rfl) im_X9_find se_X9_find (by decide) (c9_o h9) (Nat.le_of_ble_eq_true rfl) rfl (find_ct hC.1.1 hC.2.1.1 hcn10 hk (hC.1.2.2.1 k hk)) ?_
        refine r_astore (pc := 5) (L' := [some (.ref 0), some (.int (nI k)), some (.int (nI xn)), some (.int y), some (.int u), some (.int v), some (.int i), some (.ref (tA k))]) dX9_rivals_5 (by decide) rfl rfl ?_
        refine r_aload (pc := 7) dX9_rivals_7 rfl ?_
        refine r_ifnullR (pc := 9) dX9_rivals_9 ?_
        refine r_aload (pc := 12) dX9_rivals_12 rfl ?_
        refine r_iload_n (pc := 14) dX9_rivals_14 rfl ?_
        refine r_callV_P (pc := 15) (b := tA k) (As := [.int (nI xn)]) 8 126 dX9_rivals_15 lk_X8_isShop (ml_RX9_126 rfl) im_X8_isShop se_X8_isShop (by decide) (c8_o h8) (Nat.le_of_ble_eq_true rfl) rfl (isShop_n h8 htc hxn hsx) ?_
        refine r_if_eq_n (pc := 18) (a := 0) (tgt := 51) dX9_rivals_18 (by decide) (by omega) (fun c18 => ?_) (fun c18 => ?_)
        · skip
          refine r_iconst (pc := 51) (v := -1) dX9_rivals_51 (by decide) ?_
          refine r_ret_i (pc := 52) dX9_rivals_52 rfl ?_
          exact ⟨_, rfl, I, G, rfl, (by unfold aRivals; rw [atN_s et, atN_s ex, if_neg hsx] <;> rfl), hC, hFr.m, hGk.gk⟩
        · exfalso; omega
    · skip
      refine r_aload_n (pc := 0) dX9_rivals_0 rfl ?_
      refine r_iload_n (pc := 1) dX9_rivals_1 rfl ?_
      refine r_callV_R (pc := 2) (b := 0) (As := [.int (nI k)]) 9 98 dX9_rivals_2 lk_X9_find (ml_RX9_98 rfl) im_X9_find se_X9_find (by decide) (c9_o h9) (Nat.le_of_ble_eq_true rfl) rfl (find_ct hC.1.1 hC.2.1.1 hcn10 hk (hC.1.2.2.1 k hk)) ?_
      refine r_astore (pc := 5) (L' := [some (.ref 0), some (.int (nI k)), some (.int x), some (.int y), some (.int u), some (.int v), some (.int i), some (.ref (tA k))]) dX9_rivals_5 (by decide) rfl rfl ?_
      refine r_aload (pc := 7) dX9_rivals_7 rfl ?_
      refine r_ifnullR (pc := 9) dX9_rivals_9 ?_
      refine r_aload (pc := 12) dX9_rivals_12 rfl ?_
      refine r_iload_n (pc := 14) dX9_rivals_14 rfl ?_
      refine r_callV_P (pc := 15) (b := tA k) (As := [.int x]) 8 126 dX9_rivals_15 lk_X8_isShop (ml_RX9_126 rfl) im_X8_isShop se_X8_isShop (by decide) (c8_o h8) (Nat.le_of_ble_eq_true rfl) rfl (isShop_no h8 (by rw [hTr.1.1]; exact hnox)) ?_
      refine r_if_eq_n (pc := 18) (a := 0) (tgt := 51) dX9_rivals_18 (by decide) (by omega) (fun c18 => ?_) (fun c18 => ?_)
      · skip
        refine r_iconst (pc := 51) (v := -1) dX9_rivals_51 (by decide) ?_
        refine r_ret_i (pc := 52) dX9_rivals_52 rfl ?_
        exact ⟨_, rfl, I, G, rfl, (by unfold aRivals; rw [atN_s et, atN_n ex] <;> rfl), hC, hFr.m, hGk.gk⟩
      · exfalso; omega
  · skip
    refine r_aload_n (pc := 0) dX9_rivals_0 rfl ?_
    refine r_iload_n (pc := 1) dX9_rivals_1 rfl ?_
    refine r_callV_R (pc := 2) (b := 0) (As := [.int t]) 9 98 dX9_rivals_2 lk_X9_find (ml_RX9_98 rfl) im_X9_find se_X9_find (by decide) (c9_o h9) (Nat.le_of_ble_eq_true rfl) rfl (find_no hC.1.1 (by rw [hC.2.1.1]; exact hnot)) ?_
    refine r_astoreN (pc := 5) (L' := [some (.ref 0), some (.int t), some (.int x), some (.int y), some (.int u), some (.int v), some (.int i), some (.null)]) dX9_rivals_5 (by decide) rfl rfl ?_
    refine r_aloadN (pc := 7) dX9_rivals_7 rfl ?_
    refine r_ifnullN (pc := 9) (tgt := 51) dX9_rivals_9 (by decide) ?_
    refine r_iconst (pc := 51) (v := -1) dX9_rivals_51 (by decide) ?_
    refine r_ret_i (pc := 52) dX9_rivals_52 rfl ?_
    exact ⟨_, rfl, I, G, rfl, (by unfold aRivals; rw [atN_n et] <;> rfl), hC, hFr.m, hGk.gk⟩

set_option maxHeartbeats 300000 in
set_option maxRecDepth 100000 in
theorem makers_c {d : Nat} {I : Im} {G : Gm} {s : Sta} (hC : Ci s I G) {t : Int32} {x : Int32} {y : Int32} {z : Int32} {i : Int32} : Ct (d + 4) 0 0 YX9_makers [.ref 0, .int t, .int x, .int y, .int z, .int i] (I, G) (qX (PcQ s I G (aMakers s t x y z i))) := by
  refine Ct.of (by decide) (by simp [Value.category]) (Nat.le_of_ble_eq_true rfl) ?_
  have h9 := hC.1.1
  have hcn10 := hC.2.1.2.1
  have hFr : FrC I I := FrC.rf
  have hGk : Geq G G := Geq.rf
  show wp _ _ _ _ 0 [some (.ref 0), some (.int t), some (.int x), some (.int y), some (.int z), some (.int i), none] [] _ _
  rcases in_cases (n := sN s) (by have := hcn10; omega) t with ⟨k, hk, rfl, et⟩ | ⟨et, hnot⟩
  · skip
    have h8 := hC.1.2.1 k (by omega)
    obtain ⟨hok, hTr⟩ := hC.ok hk
    have hn8 : dN (dK s k) ≤ 8 := hok.1.1.2
    have hoff := tA_off k
    have hE := src_of hok.1 (tdT (sD s k))
    have hW := wbc_of hok.1 (tdT (sD s k))
    have hc60 : ∀ b, dC (dK s k) b ≤ 60 := fun b => Nat.le_trans (hok.1.2.1 b) (by omega)
    have htc := trc_of hok.1 hTr.1 (tdT (sD s k))
    rcases in_cases (n := dN (dK s k)) (by have := hn8; omega) x with ⟨xn, hxn, rfl, ex⟩ | ⟨ex, hnox⟩
    · skip
      rcases in_cases (n := dN (dK s k)) (by have := hn8; omega) y with ⟨yn, hyn, rfl, ey⟩ | ⟨ey, hnoy⟩
      · skip
        rcases in_cases (n := dN (dK s k)) (by have := hn8; omega) z with ⟨zn, hzn, rfl, ez⟩ | ⟨ez, hnoz⟩
        · skip
          by_cases hsz : shP (dK s k) zn
          · skip
            refine r_aload_n (pc := 0) dX9_makers_0 rfl ?_
            refine r_iload_n (pc := 1) dX9_makers_1 rfl ?_
            refine r_callV_R (pc := 2) (b := 0) (As := [.int (nI k)]) 9 98 dX9_makers_2 lk_X9_find (ml_RX9_98 rfl) im_X9_find se_X9_find (by decide) (c9_o h9) (Nat.le_of_ble_eq_true rfl) rfl (find_ct hC.1.1 hC.2.1.1 hcn10 hk (hC.1.2.2.1 k hk)) ?_
            refine r_astore (pc := 5) (L' := [some (.ref 0), some (.int (nI k)), some (.int (nI xn)), some (.int (nI yn)), some (.int (nI zn)), some (.int i), some (.ref (tA k))]) dX9_makers_5 (by decide) rfl rfl ?_
            refine r_aload (pc := 7) dX9_makers_7 rfl ?_
            refine r_ifnullR (pc := 9) dX9_makers_9 ?_
            refine r_aload (pc := 12) dX9_makers_12 rfl ?_
            refine r_iload_n (pc := 14) dX9_makers_14 rfl ?_
            refine r_callV_P (pc := 15) (b := tA k) (As := [.int (nI xn)]) 8 102 dX9_makers_15 lk_X8_holds (ml_RX9_102 rfl) im_X8_holds se_X8_holds (by decide) (c8_o h8) (Nat.le_of_ble_eq_true rfl) rfl (holds_y h8 hTr.1.1 hn8 hxn) ?_
            refine r_if_eq_n (pc := 18) (a := 1) (tgt := 40) dX9_makers_18 (by decide) (by omega) (fun c18 => ?_) (fun c18 => ?_)
            · exfalso; omega
            · skip
              refine r_aload (pc := 21) dX9_makers_21 rfl ?_
              refine r_iload_n (pc := 23) dX9_makers_23 rfl ?_
              refine r_callV_P (pc := 24) (b := tA k) (As := [.int (nI yn)]) 8 102 dX9_makers_24 lk_X8_holds (ml_RX9_102 rfl) im_X8_holds se_X8_holds (by decide) (c8_o h8) (Nat.le_of_ble_eq_true rfl) rfl (holds_y h8 hTr.1.1 hn8 hyn) ?_
              refine r_if_eq_n (pc := 27) (a := 1) (tgt := 40) dX9_makers_27 (by decide) (by omega) (fun c27 => ?_) (fun c27 => ?_)
              · exfalso; omega
              · skip
                refine r_aload (pc := 30) dX9_makers_30 rfl ?_
                refine r_iload (pc := 32) dX9_makers_32 rfl ?_
                refine r_callV_P (pc := 34) (b := tA k) (As := [.int (nI zn)]) 8 126 dX9_makers_34 lk_X8_isShop (ml_RX9_126 rfl) im_X8_isShop se_X8_isShop (by decide) (c8_o h8) (Nat.le_of_ble_eq_true rfl) rfl (isShop_y h8 htc hzn hsz) ?_
                refine r_if_ne_n (pc := 37) (a := 1) (tgt := 42) dX9_makers_37 (by decide) (by omega) (fun c37 => ?_) (fun c37 => ?_)
                · skip
                  refine r_iload_n (pc := 42) dX9_makers_42 rfl ?_
                  refine r_iload_n (pc := 43) dX9_makers_43 rfl ?_
                  refine r_icmp_eq_n (pc := 44) (a := xn) (b := yn) (tgt := 59) dX9_makers_44 (by decide) (by omega) (by omega) (fun c44 => ?_) (fun c44 => ?_)
                  · skip
                    refine r_iconst (pc := 59) (v := -1) dX9_makers_59 (by decide) ?_
                    refine r_ret_i (pc := 60) dX9_makers_60 rfl ?_
                    exact ⟨_, rfl, I, G, rfl, (by unfold aMakers; rw [atN_s et, atN_s ex, atN_s ey, atN_s ez, if_pos hsz, if_neg (by omega)]), hC, hFr.m, hGk.gk⟩
                  · skip
                    refine r_iload_n (pc := 47) dX9_makers_47 rfl ?_
                    refine r_iload (pc := 48) dX9_makers_48 rfl ?_
                    refine r_icmp_eq_n (pc := 50) (a := xn) (b := zn) (tgt := 59) dX9_makers_50 (by decide) (by omega) (by omega) (fun c50 => ?_) (fun c50 => ?_)
                    · skip
                      refine r_iconst (pc := 59) (v := -1) dX9_makers_59 (by decide) ?_
                      refine r_ret_i (pc := 60) dX9_makers_60 rfl ?_
                      exact ⟨_, rfl, I, G, rfl, (by unfold aMakers; rw [atN_s et, atN_s ex, atN_s ey, atN_s ez, if_pos hsz, if_neg (by omega)]), hC, hFr.m, hGk.gk⟩
                    · skip
                      refine r_iload_n (pc := 53) dX9_makers_53 rfl ?_
                      refine r_iload (pc := 54) dX9_makers_54 rfl ?_
                      refine r_icmp_ne_n (pc := 56) (a := yn) (b := zn) (tgt := 61) dX9_makers_56 (by decide) (by omega) (by omega) (fun c56 => ?_) (fun c56 => ?_)
                      · skip
                        refine r_aload_n (pc := 61) dX9_makers_61 rfl ?_
                        refine r_get1 (pc := 62) 9 9 65 dX9_makers_62 (fl_RX9_65 rfl) (by decide) rfl (c9_o h9) (c9_p9 h9) ?_
                        refine r_aload (pc := 65) dX9_makers_65 rfl ?_
                        refine r_iload_n (pc := 67) dX9_makers_67 rfl ?_
                        refine r_iload_n (pc := 68) dX9_makers_68 rfl ?_
                        refine r_iload (pc := 69) dX9_makers_69 rfl ?_
                        refine r_callV_V (pc := 71) (b := 115) (As := [.ref (tA k), .int (nI xn), .int (nI yn), .int (nI zn)]) 1 261 dX9_makers_71 lk_X1_setMakers (ml_RX9_261 rfl) im_X1_setMakers se_X1_setMakers (by decide) (c1_o (c9_s9 h9)) (Nat.le_of_ble_eq_true rfl) rfl (setMakers_ct (w := wF (dK s k) zn) (c9_s9 h9) h8 (by omega) (by omega) (by omega) (by omega) (fun p hp => hTr.1.2.2.2 _ _ (by omega) hp) (hTr.1.2.2.1 _ (by omega)).1 (hTr.1.2.2.1 _ (by omega)).1 (hTr.1.2.2.1 _ (by omega)).1 ⟨hok.1.2.1 _, hok.1.2.1 _, hok.1.2.1 _⟩) (fun Ia hIa => ?_)
                        obtain ⟨hva, hfa⟩ := hIa
                        have hC : Ci s Ia G := hC.kq (fun a j z => hfa a j (by omega))
                        have hFr : FrC I Ia := hFr.tr (fun a j z => hfa a j (by omega))
                        refine r_aload_n (pc := 74) dX9_makers_74 rfl ?_
                        refine r_get1 (pc := 75) 9 9 65 dX9_makers_75 (fl_RX9_65 rfl) (by decide) rfl (c9_o h9) (c9_p9 h9) ?_
                        refine r_iload (pc := 78) dX9_makers_78 rfl ?_
                        refine r_callV_M (pc := 80) (b := 115) (As := [.int i]) 1 258 dX9_makers_80 lk_X1_restAt (ml_RX9_258 rfl) im_X1_restAt se_X1_restAt (by decide) (c1_o (c9_s9 h9)) (Nat.le_of_ble_eq_true rfl) rfl (restAt_ct (c9_s9 h9)) (fun v80 Ic hIc => ?_)
                        obtain ⟨hvq, hfc⟩ := hIc
                        have hC : Ci s Ic G := hC.kq (fun a j z => hfc a j (by omega) (by omega))
                        have hFr : FrC I Ic := hFr.tr (fun a j z => hfc a j (by omega) (by omega))
                        refine r_ret_i (pc := 83) dX9_makers_83 rfl ?_
                        exact ⟨_, rfl, Ic, G, rfl, (by unfold aMakers; rw [atN_s et, atN_s ex, atN_s ey, atN_s ez, if_pos hsz, if_pos ⟨c44, c50, c56⟩, hvq]; unfold maF; refine scA_congr (duB_congr (fun x hx => (hva x hx).1) (fun x hx => (hva x hx).2.2.1) (fun x hx => (hva x hx).2.1) (fun x hx => (hva x hx).2.2.2))), hC, hFr.m, hGk.gk⟩
                      · skip
                        refine r_iconst (pc := 59) (v := -1) dX9_makers_59 (by decide) ?_
                        refine r_ret_i (pc := 60) dX9_makers_60 rfl ?_
                        exact ⟨_, rfl, I, G, rfl, (by unfold aMakers; rw [atN_s et, atN_s ex, atN_s ey, atN_s ez, if_pos hsz, if_neg (by omega)]), hC, hFr.m, hGk.gk⟩
                · exfalso; omega
          · skip
            refine r_aload_n (pc := 0) dX9_makers_0 rfl ?_
            refine r_iload_n (pc := 1) dX9_makers_1 rfl ?_
            refine r_callV_R (pc := 2) (b := 0) (As := [.int (nI k)]) 9 98 dX9_makers_2 lk_X9_find (ml_RX9_98 rfl) im_X9_find se_X9_find (by decide) (c9_o h9) (Nat.le_of_ble_eq_true rfl) rfl (find_ct hC.1.1 hC.2.1.1 hcn10 hk (hC.1.2.2.1 k hk)) ?_
            refine r_astore (pc := 5) (L' := [some (.ref 0), some (.int (nI k)), some (.int (nI xn)), some (.int (nI yn)), some (.int (nI zn)), some (.int i), some (.ref (tA k))]) dX9_makers_5 (by decide) rfl rfl ?_
            refine r_aload (pc := 7) dX9_makers_7 rfl ?_
            refine r_ifnullR (pc := 9) dX9_makers_9 ?_
            refine r_aload (pc := 12) dX9_makers_12 rfl ?_
            refine r_iload_n (pc := 14) dX9_makers_14 rfl ?_
            refine r_callV_P (pc := 15) (b := tA k) (As := [.int (nI xn)]) 8 102 dX9_makers_15 lk_X8_holds (ml_RX9_102 rfl) im_X8_holds se_X8_holds (by decide) (c8_o h8) (Nat.le_of_ble_eq_true rfl) rfl (holds_y h8 hTr.1.1 hn8 hxn) ?_
            refine r_if_eq_n (pc := 18) (a := 1) (tgt := 40) dX9_makers_18 (by decide) (by omega) (fun c18 => ?_) (fun c18 => ?_)
            · exfalso; omega
            · skip
              refine r_aload (pc := 21) dX9_makers_21 rfl ?_
              refine r_iload_n (pc := 23) dX9_makers_23 rfl ?_
              refine r_callV_P (pc := 24) (b := tA k) (As := [.int (nI yn)]) 8 102 dX9_makers_24 lk_X8_holds (ml_RX9_102 rfl) im_X8_holds se_X8_holds (by decide) (c8_o h8) (Nat.le_of_ble_eq_true rfl) rfl (holds_y h8 hTr.1.1 hn8 hyn) ?_
              refine r_if_eq_n (pc := 27) (a := 1) (tgt := 40) dX9_makers_27 (by decide) (by omega) (fun c27 => ?_) (fun c27 => ?_)
              · exfalso; omega
              · skip
                refine r_aload (pc := 30) dX9_makers_30 rfl ?_
                refine r_iload (pc := 32) dX9_makers_32 rfl ?_
                refine r_callV_P (pc := 34) (b := tA k) (As := [.int (nI zn)]) 8 126 dX9_makers_34 lk_X8_isShop (ml_RX9_126 rfl) im_X8_isShop se_X8_isShop (by decide) (c8_o h8) (Nat.le_of_ble_eq_true rfl) rfl (isShop_n h8 htc hzn hsz) ?_
                refine r_if_ne_n (pc := 37) (a := 0) (tgt := 42) dX9_makers_37 (by decide) (by omega) (fun c37 => ?_) (fun c37 => ?_)
                · exfalso; omega
                · skip
                  refine r_iconst (pc := 40) (v := -1) dX9_makers_40 (by decide) ?_
                  refine r_ret_i (pc := 41) dX9_makers_41 rfl ?_
                  exact ⟨_, rfl, I, G, rfl, (by unfold aMakers; rw [atN_s et, atN_s ex, atN_s ey, atN_s ez, if_neg hsz] <;> rfl), hC, hFr.m, hGk.gk⟩
        · skip
          refine r_aload_n (pc := 0) dX9_makers_0 rfl ?_
          refine r_iload_n (pc := 1) dX9_makers_1 rfl ?_
          refine r_callV_R (pc := 2) (b := 0) (As := [.int (nI k)]) 9 98 dX9_makers_2 lk_X9_find (ml_RX9_98 rfl) im_X9_find se_X9_find (by decide) (c9_o h9) (Nat.le_of_ble_eq_true rfl) rfl (find_ct hC.1.1 hC.2.1.1 hcn10 hk (hC.1.2.2.1 k hk)) ?_
          refine r_astore (pc := 5) (L' := [some (.ref 0), some (.int (nI k)), some (.int (nI xn)), some (.int (nI yn)), some (.int z), some (.int i), some (.ref (tA k))]) dX9_makers_5 (by decide) rfl rfl ?_
          refine r_aload (pc := 7) dX9_makers_7 rfl ?_
          refine r_ifnullR (pc := 9) dX9_makers_9 ?_
          refine r_aload (pc := 12) dX9_makers_12 rfl ?_
          refine r_iload_n (pc := 14) dX9_makers_14 rfl ?_
          refine r_callV_P (pc := 15) (b := tA k) (As := [.int (nI xn)]) 8 102 dX9_makers_15 lk_X8_holds (ml_RX9_102 rfl) im_X8_holds se_X8_holds (by decide) (c8_o h8) (Nat.le_of_ble_eq_true rfl) rfl (holds_y h8 hTr.1.1 hn8 hxn) ?_
          refine r_if_eq_n (pc := 18) (a := 1) (tgt := 40) dX9_makers_18 (by decide) (by omega) (fun c18 => ?_) (fun c18 => ?_)
          · exfalso; omega
          · skip
            refine r_aload (pc := 21) dX9_makers_21 rfl ?_
            refine r_iload_n (pc := 23) dX9_makers_23 rfl ?_
            refine r_callV_P (pc := 24) (b := tA k) (As := [.int (nI yn)]) 8 102 dX9_makers_24 lk_X8_holds (ml_RX9_102 rfl) im_X8_holds se_X8_holds (by decide) (c8_o h8) (Nat.le_of_ble_eq_true rfl) rfl (holds_y h8 hTr.1.1 hn8 hyn) ?_
            refine r_if_eq_n (pc := 27) (a := 1) (tgt := 40) dX9_makers_27 (by decide) (by omega) (fun c27 => ?_) (fun c27 => ?_)
            · exfalso; omega
            · skip
              refine r_aload (pc := 30) dX9_makers_30 rfl ?_
              refine r_iload (pc := 32) dX9_makers_32 rfl ?_
              refine r_callV_P (pc := 34) (b := tA k) (As := [.int z]) 8 126 dX9_makers_34 lk_X8_isShop (ml_RX9_126 rfl) im_X8_isShop se_X8_isShop (by decide) (c8_o h8) (Nat.le_of_ble_eq_true rfl) rfl (isShop_no h8 (by rw [hTr.1.1]; exact hnoz)) ?_
              refine r_if_ne_n (pc := 37) (a := 0) (tgt := 42) dX9_makers_37 (by decide) (by omega) (fun c37 => ?_) (fun c37 => ?_)
              · exfalso; omega
              · skip
                refine r_iconst (pc := 40) (v := -1) dX9_makers_40 (by decide) ?_
                refine r_ret_i (pc := 41) dX9_makers_41 rfl ?_
                exact ⟨_, rfl, I, G, rfl, (by unfold aMakers; rw [atN_s et, atN_s ex, atN_s ey, atN_n ez] <;> rfl), hC, hFr.m, hGk.gk⟩
      · skip
        refine r_aload_n (pc := 0) dX9_makers_0 rfl ?_
        refine r_iload_n (pc := 1) dX9_makers_1 rfl ?_
        refine r_callV_R (pc := 2) (b := 0) (As := [.int (nI k)]) 9 98 dX9_makers_2 lk_X9_find (ml_RX9_98 rfl) im_X9_find se_X9_find (by decide) (c9_o h9) (Nat.le_of_ble_eq_true rfl) rfl (find_ct hC.1.1 hC.2.1.1 hcn10 hk (hC.1.2.2.1 k hk)) ?_
        refine r_astore (pc := 5) (L' := [some (.ref 0), some (.int (nI k)), some (.int (nI xn)), some (.int y), some (.int z), some (.int i), some (.ref (tA k))]) dX9_makers_5 (by decide) rfl rfl ?_
        refine r_aload (pc := 7) dX9_makers_7 rfl ?_
        refine r_ifnullR (pc := 9) dX9_makers_9 ?_
        refine r_aload (pc := 12) dX9_makers_12 rfl ?_
        refine r_iload_n (pc := 14) dX9_makers_14 rfl ?_
        refine r_callV_P (pc := 15) (b := tA k) (As := [.int (nI xn)]) 8 102 dX9_makers_15 lk_X8_holds (ml_RX9_102 rfl) im_X8_holds se_X8_holds (by decide) (c8_o h8) (Nat.le_of_ble_eq_true rfl) rfl (holds_y h8 hTr.1.1 hn8 hxn) ?_
        refine r_if_eq_n (pc := 18) (a := 1) (tgt := 40) dX9_makers_18 (by decide) (by omega) (fun c18 => ?_) (fun c18 => ?_)
        · exfalso; omega
        · skip
          refine r_aload (pc := 21) dX9_makers_21 rfl ?_
          refine r_iload_n (pc := 23) dX9_makers_23 rfl ?_
          refine r_callV_P (pc := 24) (b := tA k) (As := [.int y]) 8 102 dX9_makers_24 lk_X8_holds (ml_RX9_102 rfl) im_X8_holds se_X8_holds (by decide) (c8_o h8) (Nat.le_of_ble_eq_true rfl) rfl (holds_n h8 hTr.1.1 hnoy) ?_
          refine r_if_eq_n (pc := 27) (a := 0) (tgt := 40) dX9_makers_27 (by decide) (by omega) (fun c27 => ?_) (fun c27 => ?_)
          · skip
            refine r_iconst (pc := 40) (v := -1) dX9_makers_40 (by decide) ?_
            refine r_ret_i (pc := 41) dX9_makers_41 rfl ?_
            exact ⟨_, rfl, I, G, rfl, (by unfold aMakers; rw [atN_s et, atN_s ex, atN_n ey] <;> rfl), hC, hFr.m, hGk.gk⟩
          · exfalso; omega
    · skip
      refine r_aload_n (pc := 0) dX9_makers_0 rfl ?_
      refine r_iload_n (pc := 1) dX9_makers_1 rfl ?_
      refine r_callV_R (pc := 2) (b := 0) (As := [.int (nI k)]) 9 98 dX9_makers_2 lk_X9_find (ml_RX9_98 rfl) im_X9_find se_X9_find (by decide) (c9_o h9) (Nat.le_of_ble_eq_true rfl) rfl (find_ct hC.1.1 hC.2.1.1 hcn10 hk (hC.1.2.2.1 k hk)) ?_
      refine r_astore (pc := 5) (L' := [some (.ref 0), some (.int (nI k)), some (.int x), some (.int y), some (.int z), some (.int i), some (.ref (tA k))]) dX9_makers_5 (by decide) rfl rfl ?_
      refine r_aload (pc := 7) dX9_makers_7 rfl ?_
      refine r_ifnullR (pc := 9) dX9_makers_9 ?_
      refine r_aload (pc := 12) dX9_makers_12 rfl ?_
      refine r_iload_n (pc := 14) dX9_makers_14 rfl ?_
      refine r_callV_P (pc := 15) (b := tA k) (As := [.int x]) 8 102 dX9_makers_15 lk_X8_holds (ml_RX9_102 rfl) im_X8_holds se_X8_holds (by decide) (c8_o h8) (Nat.le_of_ble_eq_true rfl) rfl (holds_n h8 hTr.1.1 hnox) ?_
      refine r_if_eq_n (pc := 18) (a := 0) (tgt := 40) dX9_makers_18 (by decide) (by omega) (fun c18 => ?_) (fun c18 => ?_)
      · skip
        refine r_iconst (pc := 40) (v := -1) dX9_makers_40 (by decide) ?_
        refine r_ret_i (pc := 41) dX9_makers_41 rfl ?_
        exact ⟨_, rfl, I, G, rfl, (by unfold aMakers; rw [atN_s et, atN_n ex] <;> rfl), hC, hFr.m, hGk.gk⟩
      · exfalso; omega
  · skip
    refine r_aload_n (pc := 0) dX9_makers_0 rfl ?_
    refine r_iload_n (pc := 1) dX9_makers_1 rfl ?_
    refine r_callV_R (pc := 2) (b := 0) (As := [.int t]) 9 98 dX9_makers_2 lk_X9_find (ml_RX9_98 rfl) im_X9_find se_X9_find (by decide) (c9_o h9) (Nat.le_of_ble_eq_true rfl) rfl (find_no hC.1.1 (by rw [hC.2.1.1]; exact hnot)) ?_
    refine r_astoreN (pc := 5) (L' := [some (.ref 0), some (.int t), some (.int x), some (.int y), some (.int z), some (.int i), some (.null)]) dX9_makers_5 (by decide) rfl rfl ?_
    refine r_aloadN (pc := 7) dX9_makers_7 rfl ?_
    refine r_ifnullN (pc := 9) (tgt := 40) dX9_makers_9 (by decide) ?_
    refine r_iconst (pc := 40) (v := -1) dX9_makers_40 (by decide) ?_
    refine r_ret_i (pc := 41) dX9_makers_41 rfl ?_
    exact ⟨_, rfl, I, G, rfl, (by unfold aMakers; rw [atN_n et] <;> rfl), hC, hFr.m, hGk.gk⟩

set_option maxHeartbeats 300000 in
set_option maxRecDepth 100000 in
theorem rather_c {d : Nat} {I : Im} {G : Gm} {s : Sta} (hC : Ci s I G) {t h : Int32} : Ct (d + 6) 0 0 YX9_rather [.ref 0, .int t, .int h] (I, G) (qX (PcQ s I G (aRather s t h))) := by
  refine Ct.of (by decide) (by simp [Value.category]) (Nat.le_of_ble_eq_true rfl) ?_
  have h9 := hC.1.1
  have hcn10 := hC.2.1.2.1
  have hFr : FrC I I := FrC.rf
  have hGk : Geq G G := Geq.rf
  show wp _ _ _ _ 0 [some (.ref 0), some (.int t), some (.int h), none] [] _ _
  rcases in_cases (n := sN s) (by have := hcn10; omega) t with ⟨k, hk, rfl, et⟩ | ⟨et, hnot⟩
  · skip
    have h8 := hC.1.2.1 k (by omega)
    obtain ⟨hok, hTr⟩ := hC.ok hk
    have hn8 : dN (dK s k) ≤ 8 := hok.1.1.2
    have hoff := tA_off k
    have hE := src_of hok.1 (tdT (sD s k))
    have hW := wbc_of hok.1 (tdT (sD s k))
    have hc60 : ∀ b, dC (dK s k) b ≤ 60 := fun b => Nat.le_trans (hok.1.2.1 b) (by omega)
    have htc := trc_of hok.1 hTr.1 (tdT (sD s k))
    rcases in_cases (n := dN (dK s k)) (by have := hn8; omega) h with ⟨hn, hhn, rfl, eh⟩ | ⟨eh, hnoh⟩
    · skip
      by_cases hz : dS (dK s k) hn = none
      · skip
        refine r_aload_n (pc := 0) dX9_rather_0 rfl ?_
        refine r_iload_n (pc := 1) dX9_rather_1 rfl ?_
        refine r_callV_R (pc := 2) (b := 0) (As := [.int (nI k)]) 9 98 dX9_rather_2 lk_X9_find (ml_RX9_98 rfl) im_X9_find se_X9_find (by decide) (c9_o h9) (Nat.le_of_ble_eq_true rfl) rfl (find_ct hC.1.1 hC.2.1.1 hcn10 hk (hC.1.2.2.1 k hk)) ?_
        refine r_astore_n (pc := 5) (L' := [some (.ref 0), some (.int (nI k)), some (.int (nI hn)), some (.ref (tA k))]) dX9_rather_5 (by decide) rfl rfl ?_
        refine r_aload_n (pc := 6) dX9_rather_6 rfl ?_
        refine r_ifnullR (pc := 7) dX9_rather_7 ?_
        refine r_aload_n (pc := 10) dX9_rather_10 rfl ?_
        refine r_iload_n (pc := 11) dX9_rather_11 rfl ?_
        refine r_callV_P (pc := 12) (b := tA k) (As := [.int (nI hn)]) 8 102 dX9_rather_12 lk_X8_holds (ml_RX9_102 rfl) im_X8_holds se_X8_holds (by decide) (c8_o h8) (Nat.le_of_ble_eq_true rfl) rfl (holds_y h8 hTr.1.1 hn8 hhn) ?_
        refine r_if_eq_n (pc := 15) (a := 1) (tgt := 39) dX9_rather_15 (by decide) (by omega) (fun c15 => ?_) (fun c15 => ?_)
        · exfalso; omega
        · skip
          refine r_aload_n (pc := 18) dX9_rather_18 rfl ?_
          refine r_get1 (pc := 19) 8 3 117 dX9_rather_19 (fl_RX9_117 rfl) (by decide) rfl (c8_o h8) (c8_p3 h8) ?_
          refine r_iload_n (pc := 22) dX9_rather_22 rfl ?_
          refine r_iald_n (pc := 23) (i := hn) dX9_rather_23 (c8_a3 h8) (by decide) (by omega) (v := sI (dS (dK s k) hn)) ((hTr.1.2.2.1 _ (by omega)).2.1) ?_
          refine r_iconst (pc := 24) (v := -1) dX9_rather_24 (by decide) ?_
          refine r_icmp_eq (pc := 25) (x := sI (dS (dK s k) hn)) (z := (-1)) (tgt := 39) dX9_rather_25 (by decide) (fun c25 => ?_) (fun c25 => ?_)
          · skip
            refine r_ldc (pc := 39) (v := -100000000) dX9_rather_39 (kc_RX9_174 rfl) ?_
            refine r_ret_i (pc := 41) dX9_rather_41 rfl ?_
            exact ⟨_, rfl, I, G, rfl, (by unfold aRather; rw [atN_s et, atN_s eh, if_pos hz] <;> rfl), hC, hFr.m, hGk.gk⟩
          · exfalso; exact c25 (by rw [hz]; rfl)
      · skip
        refine r_aload_n (pc := 0) dX9_rather_0 rfl ?_
        refine r_iload_n (pc := 1) dX9_rather_1 rfl ?_
        refine r_callV_R (pc := 2) (b := 0) (As := [.int (nI k)]) 9 98 dX9_rather_2 lk_X9_find (ml_RX9_98 rfl) im_X9_find se_X9_find (by decide) (c9_o h9) (Nat.le_of_ble_eq_true rfl) rfl (find_ct hC.1.1 hC.2.1.1 hcn10 hk (hC.1.2.2.1 k hk)) ?_
        refine r_astore_n (pc := 5) (L' := [some (.ref 0), some (.int (nI k)), some (.int (nI hn)), some (.ref (tA k))]) dX9_rather_5 (by decide) rfl rfl ?_
        refine r_aload_n (pc := 6) dX9_rather_6 rfl ?_
        refine r_ifnullR (pc := 7) dX9_rather_7 ?_
        refine r_aload_n (pc := 10) dX9_rather_10 rfl ?_
        refine r_iload_n (pc := 11) dX9_rather_11 rfl ?_
        refine r_callV_P (pc := 12) (b := tA k) (As := [.int (nI hn)]) 8 102 dX9_rather_12 lk_X8_holds (ml_RX9_102 rfl) im_X8_holds se_X8_holds (by decide) (c8_o h8) (Nat.le_of_ble_eq_true rfl) rfl (holds_y h8 hTr.1.1 hn8 hhn) ?_
        refine r_if_eq_n (pc := 15) (a := 1) (tgt := 39) dX9_rather_15 (by decide) (by omega) (fun c15 => ?_) (fun c15 => ?_)
        · exfalso; omega
        · skip
          refine r_aload_n (pc := 18) dX9_rather_18 rfl ?_
          refine r_get1 (pc := 19) 8 3 117 dX9_rather_19 (fl_RX9_117 rfl) (by decide) rfl (c8_o h8) (c8_p3 h8) ?_
          refine r_iload_n (pc := 22) dX9_rather_22 rfl ?_
          refine r_iald_n (pc := 23) (i := hn) dX9_rather_23 (c8_a3 h8) (by decide) (by omega) (v := sI (dS (dK s k) hn)) ((hTr.1.2.2.1 _ (by omega)).2.1) ?_
          refine r_iconst (pc := 24) (v := -1) dX9_rather_24 (by decide) ?_
          refine r_icmp_eq (pc := 25) (x := sI (dS (dK s k) hn)) (z := (-1)) (tgt := 39) dX9_rather_25 (by decide) (fun c25 => ?_) (fun c25 => ?_)
          · exfalso; exact hz ((sI_m1 (fun c hc => by have := hok.1.2.2.1 _ c hc; omega)).mp c25)
          · skip
            refine r_aload_n (pc := 28) dX9_rather_28 rfl ?_
            refine r_get1 (pc := 29) 8 7 143 dX9_rather_29 (fl_RX9_143 rfl) (by decide) rfl (c8_o h8) (c8_p7 h8) ?_
            refine r_iload_n (pc := 32) dX9_rather_32 rfl ?_
            refine r_callV_P (pc := 33) (b := (tA k) + 14) (As := [.int (nI hn)]) 7 287 dX9_rather_33 lk_X7_joins (ml_RX9_287 rfl) im_X7_joins se_X7_joins (by decide) (c7_o (c8_s7 h8)) (Nat.le_of_ble_eq_true rfl) rfl (joins_e (c8_s7 h8) (j := (tdT (sD s k)).1) (hTr.2.1 0 (by omega))) ?_
            refine r_if_eq_b (pc := 36) (tgt := 42) dX9_rather_36 (by decide) (fun c36 => ?_) (fun c36 => ?_)
            · skip
              refine r_aload_n (pc := 42) dX9_rather_42 rfl ?_
              refine r_get1 (pc := 43) 9 5 41 dX9_rather_43 (fl_RX9_41 rfl) (by decide) rfl (c9_o h9) (c9_p5 h9) ?_
              refine r_aload_n (pc := 46) dX9_rather_46 rfl ?_
              refine r_aload_n (pc := 47) dX9_rather_47 rfl ?_
              refine r_get1 (pc := 48) 8 7 143 dX9_rather_48 (fl_RX9_143 rfl) (by decide) rfl (c8_o h8) (c8_p7 h8) ?_
              refine r_callV_U (pc := 51) (b := 23) (As := [.ref (tA k), .ref ((tA k) + 14)]) 5 166 dX9_rather_51 lk_X5_settle (ml_RX9_166 rfl) im_X5_settle se_X5_settle (by decide) (c5_o (c9_s5 h9)) (Nat.le_of_ble_eq_true rfl) rfl (settle_t (τ := (tdT (sD s k))) hC hk (by omega) (Or.inr rfl) hok.2.1 hTr.2.1) (fun M1 h1 => ?_)
              obtain ⟨I1, G1, rfl, hC, hg1, hV1, hf1, hm1, hτ1, hce1⟩ := h1
              have hO1 : OcE I1 23 (eT (dK s k) (tdT (sD s k))) := oce_of (src_of hok.1 _) (wbc_of hok.1 _) hc60 hV1
              have hFr : FrC I I1 := hFr.tr (fun a j z => hf1 a j (by omega))
              have hGk : Geq G G1 := hGk.tr hg1
              have hTr := (hC.ok hk).2
              have h9 := hC.1.1
              have h8 := hC.1.2.1 k (by omega)
              have htc := trc_of hok.1 hTr.1 (tdT (sD s k))
              refine r_aload_n (pc := 54) dX9_rather_54 rfl ?_
              refine r_get1 (pc := 55) 9 4 34 dX9_rather_55 (fl_RX9_34 rfl) (by decide) rfl (c9_o h9) (c9_p4 h9) ?_
              refine r_aload_n (pc := 58) dX9_rather_58 rfl ?_
              refine r_get1 (pc := 59) 8 7 143 dX9_rather_59 (fl_RX9_143 rfl) (by decide) rfl (c8_o h8) (c8_p7 h8) ?_
              refine r_callV_V (pc := 62) (b := 22) (As := [.ref ((tA k) + 14)]) 7 197 dX9_rather_62 lk_X7_copy (ml_RX9_197 rfl) im_X7_copy se_X7_copy (by decide) (c7_o (c9_s4 h9)) (Nat.le_of_ble_eq_true rfl) rfl (copy_ct (c9_s4 h9) (c8_s7 h8) (by omega) ⟨by rw [hTr.2.1 2 (by omega)]; exact bz_01 _, by rw [hTr.2.1 3 (by omega)]; exact bz_01 _⟩) (fun Ia hIa => ?_)
              have hvA : ∀ j, j < 6 → Ia 22 j = tmv (tdT (sD s k)) j := fun j hj => by rw [hIa, setTm_at hj]; exact hTr.2.1 j hj
              have hC : Ci s Ia G1 := hC.kq (fun a j z => by rw [hIa]; exact setTm_o (by omega))
              have hfa : ∀ a j, a ≠ 22 → Ia a j = I1 a j := fun a j z => by rw [hIa]; exact setTm_o z
              have hFr : FrC I Ia := hFr.tr (fun a j z => hfa a j (by omega))
              have hTr := (hC.ok hk).2
              have h9 := hC.1.1
              have h8 := hC.1.2.1 k (by omega)
              have htc := trc_of hok.1 hTr.1 (tdT (sD s k))
              refine r_aload_n (pc := 65) dX9_rather_65 rfl ?_
              refine r_get1 (pc := 66) 9 4 34 dX9_rather_66 (fl_RX9_34 rfl) (by decide) rfl (c9_o h9) (c9_p4 h9) ?_
              refine r_aload_n (pc := 69) dX9_rather_69 rfl ?_
              refine r_get1 (pc := 70) 8 7 143 dX9_rather_70 (fl_RX9_143 rfl) (by decide) rfl (c8_o h8) (c8_p7 h8) ?_
              refine r_getIv (pc := 73) 7 0 146 dX9_rather_73 (fl_RX9_146 rfl) (by decide) rfl (c7_o (c8_s7 h8)) (v := (tdT (sD s k)).1) (hTr.2.1 0 (by omega)) ?_
              refine r_iconst (pc := 76) (v := 1) dX9_rather_76 (by decide) ?_
              refine r_iload_n (pc := 77) dX9_rather_77 rfl ?_
              refine r_ishl (pc := 78) (x := 1) (z := nI hn) dX9_rather_78 ?_
              refine r_ior (pc := 79) (x := (tdT (sD s k)).1) (z := 1 <<< ((nI hn) &&& 31)) dX9_rather_79 ?_
              refine r_putI (pc := 80) (v := ((tdT (sD s k)).1) ||| (1 <<< ((nI hn) &&& 31))) 7 0 146 dX9_rather_80 (fl_RX9_146 rfl) (by decide) rfl rfl (c7_o (c9_s4 h9)) ?_
              obtain ⟨Ib, hIb⟩ : ∃ zz0 : Im, zz0 = up2 Ia 22 0 (((tdT (sD s k)).1) ||| (1 <<< ((nI hn) &&& 31))) := ⟨_, rfl⟩
              refine wp_M (M2 := (Ib, G1)) (by subst hIb; rfl) ?_
              have hfb : ∀ a j, a ≠ 22 → Ib a j = Ia a j := fun a j z => by rw [hIb, up2_rd (by omega)]
              have hvb : ∀ j, j < 6 → Ib 22 j = tmv ((tdT (sD s k)).1 ||| 1 <<< (nI hn &&& 31), (tdT (sD s k)).2.1, (tdT (sD s k)).2.2.1, (tdT (sD s k)).2.2.2) j := six (by rw [hIb]; exact up2_at) (by rw [hIb, up2_rd (by omega)]; exact hvA 1 (by omega)) (by rw [hIb, up2_rd (by omega)]; exact hvA 2 (by omega)) (by rw [hIb, up2_rd (by omega)]; exact hvA 3 (by omega)) (by rw [hIb, up2_rd (by omega)]; exact hvA 4 (by omega)) (by rw [hIb, up2_rd (by omega)]; exact hvA 5 (by omega))
              have hC : Ci s Ib G1 := hC.kq (fun a j z => hfb a j (by omega))
              have hFr : FrC I Ib := hFr.tr (fun a j z => hfb a j (by omega))
              have hTr := (hC.ok hk).2
              have h9 := hC.1.1
              have h8 := hC.1.2.1 k (by omega)
              have htc := trc_of hok.1 hTr.1 (tdT (sD s k))
              refine r_aload_n (pc := 83) dX9_rather_83 rfl ?_
              refine r_get1 (pc := 84) 9 6 45 dX9_rather_84 (fl_RX9_45 rfl) (by decide) rfl (c9_o h9) (c9_p6 h9) ?_
              refine r_aload_n (pc := 87) dX9_rather_87 rfl ?_
              refine r_aload_n (pc := 88) dX9_rather_88 rfl ?_
              refine r_get1 (pc := 89) 9 4 34 dX9_rather_89 (fl_RX9_34 rfl) (by decide) rfl (c9_o h9) (c9_p4 h9) ?_
              refine r_callV_U (pc := 92) (b := 67) (As := [.ref (tA k), .ref 22]) 5 166 dX9_rather_92 lk_X5_settle (ml_RX9_166 rfl) im_X5_settle se_X5_settle (by decide) (c5_o (c9_s6 h9)) (Nat.le_of_ble_eq_true rfl) rfl (settle_t (τ := ((tdT (sD s k)).1 ||| 1 <<< (nI hn &&& 31), (tdT (sD s k)).2.1, (tdT (sD s k)).2.2.1, (tdT (sD s k)).2.2.2)) hC hk (by omega) (Or.inl rfl) hok.2.1 hvb) (fun M2 h2 => ?_)
              obtain ⟨I2, G2, rfl, hC, hg2, hV2, hf2, hm2, hτ2, hce2⟩ := h2
              have hO2 : OcE I2 67 (eT (dK s k) ((tdT (sD s k)).1 ||| 1 <<< (nI hn &&& 31), (tdT (sD s k)).2.1, (tdT (sD s k)).2.2.1, (tdT (sD s k)).2.2.2)) := oce_of (src_of hok.1 _) (wbc_of hok.1 _) hc60 hV2
              have hFr : FrC I I2 := hFr.tr (fun a j z => hf2 a j (by omega))
              have hGk : Geq G G2 := hGk.tr hg2
              have hTr := (hC.ok hk).2
              have h9 := hC.1.1
              have h8 := hC.1.2.1 k (by omega)
              have htc := trc_of hok.1 hTr.1 (tdT (sD s k))
              have hO1 : OcE I2 23 (eK' s k) := hO1.keep (fun a j g1 g2 => (hf2 a j (by omega)).trans ((hfb a j (by omega)).trans (hfa a j (by omega))))
              refine r_aload_n (pc := 95) dX9_rather_95 rfl ?_
              refine r_get1 (pc := 96) 9 10 72 dX9_rather_96 (fl_RX9_72 rfl) (by decide) rfl (c9_o h9) (c9_p10 h9) ?_
              refine r_aload_n (pc := 99) dX9_rather_99 rfl ?_
              refine r_aload_n (pc := 100) dX9_rather_100 rfl ?_
              refine r_get1 (pc := 101) 9 4 34 dX9_rather_101 (fl_RX9_34 rfl) (by decide) rfl (c9_o h9) (c9_p4 h9) ?_
              refine r_getIv (pc := 104) 7 0 146 dX9_rather_104 (fl_RX9_146 rfl) (by decide) rfl (c7_o (c9_s4 h9)) (v := (tdT (sD s k)).1 ||| 1 <<< (nI hn &&& 31)) ((hf2 22 0 (by omega)).trans (hvb 0 (by omega))) ?_
              refine r_iload_n (pc := 107) dX9_rather_107 rfl ?_
              refine r_aload_n (pc := 108) dX9_rather_108 rfl ?_
              refine r_get1 (pc := 109) 9 5 41 dX9_rather_109 (fl_RX9_41 rfl) (by decide) rfl (c9_o h9) (c9_p5 h9) ?_
              refine r_get1 (pc := 112) 5 11 184 dX9_rather_112 (fl_RX9_184 rfl) (by decide) rfl (c5_o (c9_s5 h9)) (c5_p11 (c9_s5 h9)) ?_
              refine r_aload_n (pc := 115) dX9_rather_115 rfl ?_
              refine r_get1 (pc := 116) 9 6 45 dX9_rather_116 (fl_RX9_45 rfl) (by decide) rfl (c9_o h9) (c9_p6 h9) ?_
              refine r_get1 (pc := 119) 5 11 184 dX9_rather_119 (fl_RX9_184 rfl) (by decide) rfl (c5_o (c9_s6 h9)) (c5_p11 (c9_s6 h9)) ?_
              refine r_callV_M (pc := 122) (b := 122) (As := [.ref (tA k), .int ((tdT (sD s k)).1 ||| 1 <<< (nI hn &&& 31)), .int (nI hn), .ref 66, .ref 110]) 4 290 dX9_rather_122 lk_X4_better (ml_RX9_290 rfl) im_X4_better se_X4_better (by decide) (c4_o (c9_s10 h9)) (Nat.le_of_ble_eq_true rfl) rfl (better_ct (c9_s10 h9) h8 (by omega) htc hhn (c5_a11 (c9_s5 h9)) (c5_a11 (c9_s6 h9)) (by omega) (by omega)) (fun v122 Ic hIc => ?_)
              obtain ⟨rfl, hfc⟩ := hIc
              have hC : Ci s Ic G2 := hC.kq (fun a j z => hfc a j (by omega))
              have hFr : FrC I Ic := hFr.tr (fun a j z => hfc a j (by omega))
              refine r_ret_i (pc := 125) dX9_rather_125 rfl ?_
              exact ⟨_, rfl, Ic, G2, rfl, (by unfold aRather; rw [atN_s et, atN_s eh, if_neg hz, if_neg c36]; exact btF_congr (fun x hx => (hO1 x hx).2.2.2.2) (fun x hx => (hO2 x hx).2.2.2.2)), hC, hFr.m, hGk.gk⟩
            · skip
              refine r_ldc (pc := 39) (v := -100000000) dX9_rather_39 (kc_RX9_174 rfl) ?_
              refine r_ret_i (pc := 41) dX9_rather_41 rfl ?_
              exact ⟨_, rfl, I, G, rfl, (by unfold aRather; rw [atN_s et, atN_s eh, if_neg hz, if_pos c36] <;> rfl), hC, hFr.m, hGk.gk⟩
    · skip
      refine r_aload_n (pc := 0) dX9_rather_0 rfl ?_
      refine r_iload_n (pc := 1) dX9_rather_1 rfl ?_
      refine r_callV_R (pc := 2) (b := 0) (As := [.int (nI k)]) 9 98 dX9_rather_2 lk_X9_find (ml_RX9_98 rfl) im_X9_find se_X9_find (by decide) (c9_o h9) (Nat.le_of_ble_eq_true rfl) rfl (find_ct hC.1.1 hC.2.1.1 hcn10 hk (hC.1.2.2.1 k hk)) ?_
      refine r_astore_n (pc := 5) (L' := [some (.ref 0), some (.int (nI k)), some (.int h), some (.ref (tA k))]) dX9_rather_5 (by decide) rfl rfl ?_
      refine r_aload_n (pc := 6) dX9_rather_6 rfl ?_
      refine r_ifnullR (pc := 7) dX9_rather_7 ?_
      refine r_aload_n (pc := 10) dX9_rather_10 rfl ?_
      refine r_iload_n (pc := 11) dX9_rather_11 rfl ?_
      refine r_callV_P (pc := 12) (b := tA k) (As := [.int h]) 8 102 dX9_rather_12 lk_X8_holds (ml_RX9_102 rfl) im_X8_holds se_X8_holds (by decide) (c8_o h8) (Nat.le_of_ble_eq_true rfl) rfl (holds_n h8 hTr.1.1 hnoh) ?_
      refine r_if_eq_n (pc := 15) (a := 0) (tgt := 39) dX9_rather_15 (by decide) (by omega) (fun c15 => ?_) (fun c15 => ?_)
      · skip
        refine r_ldc (pc := 39) (v := -100000000) dX9_rather_39 (kc_RX9_174 rfl) ?_
        refine r_ret_i (pc := 41) dX9_rather_41 rfl ?_
        exact ⟨_, rfl, I, G, rfl, (by unfold aRather; rw [atN_s et, atN_n eh] <;> rfl), hC, hFr.m, hGk.gk⟩
      · exfalso; omega
  · skip
    refine r_aload_n (pc := 0) dX9_rather_0 rfl ?_
    refine r_iload_n (pc := 1) dX9_rather_1 rfl ?_
    refine r_callV_R (pc := 2) (b := 0) (As := [.int t]) 9 98 dX9_rather_2 lk_X9_find (ml_RX9_98 rfl) im_X9_find se_X9_find (by decide) (c9_o h9) (Nat.le_of_ble_eq_true rfl) rfl (find_no hC.1.1 (by rw [hC.2.1.1]; exact hnot)) ?_
    refine r_astore_nN (pc := 5) (L' := [some (.ref 0), some (.int t), some (.int h), some (.null)]) dX9_rather_5 (by decide) rfl rfl ?_
    refine r_aload_nN (pc := 6) dX9_rather_6 rfl ?_
    refine r_ifnullN (pc := 7) (tgt := 39) dX9_rather_7 (by decide) ?_
    refine r_ldc (pc := 39) (v := -100000000) dX9_rather_39 (kc_RX9_174 rfl) ?_
    refine r_ret_i (pc := 41) dX9_rather_41 rfl ?_
    exact ⟨_, rfl, I, G, rfl, (by unfold aRather; rw [atN_n et] <;> rfl), hC, hFr.m, hGk.gk⟩
