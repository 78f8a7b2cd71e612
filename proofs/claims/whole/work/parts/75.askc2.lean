/-! ===== the class: more questions ===== -/

set_option maxRecDepth 100000 in
theorem passed_c {d : Nat} {I : Im} {G : Gm} {s : Sta} (hC : Ci s I G) {t : Int32} {h : Int32} {v : Int32} {o : Int32} : Ct (d + 6) 0 0 YX9_passed [.ref 0, .int t, .int h, .int v, .int o] (I, G) (qX (PcQ s I G (aPassed s t h v o))) := by
  refine Ct.of (by decide) (by simp [Value.category]) (Nat.le_of_ble_eq_true rfl) ?_
  have h9 := hC.1.1
  have hcn10 := hC.2.1.2.1
  have hFr : FrC I I := FrC.rf
  have hGk : Geq G G := Geq.rf
  show wp _ _ _ _ 0 [some (.ref 0), some (.int t), some (.int h), some (.int v), some (.int o), none] [] _ _
  rcases in_cases (n := sN s) (by have := hcn10; omega) t with ⟨k, hk, rfl, et⟩ | ⟨et, hnot⟩
  · skip
    have h8 := hC.1.2.1 k (by omega)
    obtain ⟨hok, hTr⟩ := hC.ok hk
    have hn8 : dN (dK s k) ≤ 8 := hok.1.1.2
    have hoff := tA_off k
    have hE := src_of hok.1 (tdT (sD s k))
    have hW := wbc_of hok.1 (tdT (sD s k))
    have hc60 : ∀ b, dC (dK s k) b ≤ 60 := fun b => Nat.le_trans (hok.1.2.1 b) (by omega)
    have htc := trc_of hok.1 hTr.1 (tdT (sD s k))
    rcases in_cases (n := dN (dK s k)) (by have := hn8; omega) h with ⟨hn, hhn, rfl, eh⟩ | ⟨eh, hnoh⟩
    · skip
      rcases in_cases (n := dN (dK s k)) (by have := hn8; omega) o with ⟨on, hon, rfl, eo⟩ | ⟨eo, hnoo⟩
      · skip
        by_cases hso : shP (dK s k) on
        · skip
          rcases in_cases (n := 31) (by omega) v with ⟨vn, hvn, rfl, ev⟩ | ⟨ev, hnov⟩
          · skip
            refine r_aload_n (pc := 0) dX9_passed_0 rfl ?_
            refine r_iload_n (pc := 1) dX9_passed_1 rfl ?_
            refine r_callV_R (pc := 2) (b := 0) (As := [.int (nI k)]) 9 98 dX9_passed_2 lk_X9_find (ml_RX9_98 rfl) im_X9_find se_X9_find (by decide) (c9_o h9) (Nat.le_of_ble_eq_true rfl) rfl (find_ct hC.1.1 hC.2.1.1 hcn10 hk (hC.1.2.2.1 k hk)) ?_
            refine r_astore (pc := 5) (L' := [some (.ref 0), some (.int (nI k)), some (.int (nI hn)), some (.int (nI vn)), some (.int (nI on)), some (.ref (tA k))]) dX9_passed_5 (by decide) rfl rfl ?_
            refine r_aload (pc := 7) dX9_passed_7 rfl ?_
            refine r_ifnullR (pc := 9) dX9_passed_9 ?_
            refine r_aload (pc := 12) dX9_passed_12 rfl ?_
            refine r_iload_n (pc := 14) dX9_passed_14 rfl ?_
            refine r_callV_P (pc := 15) (b := tA k) (As := [.int (nI hn)]) 8 102 dX9_passed_15 lk_X8_holds (ml_RX9_102 rfl) im_X8_holds se_X8_holds (by decide) (c8_o h8) (Nat.le_of_ble_eq_true rfl) rfl (holds_y h8 hTr.1.1 hn8 hhn) ?_
            refine r_if_eq_n (pc := 18) (a := 1) (tgt := 41) dX9_passed_18 (by decide) (by omega) (fun c18 => ?_) (fun c18 => ?_)
            · exfalso; omega
            · skip
              refine r_aload (pc := 21) dX9_passed_21 rfl ?_
              refine r_iload (pc := 23) dX9_passed_23 rfl ?_
              refine r_callV_P (pc := 25) (b := tA k) (As := [.int (nI on)]) 8 126 dX9_passed_25 lk_X8_isShop (ml_RX9_126 rfl) im_X8_isShop se_X8_isShop (by decide) (c8_o h8) (Nat.le_of_ble_eq_true rfl) rfl (isShop_y h8 htc hon hso) ?_
              refine r_if_eq_n (pc := 28) (a := 1) (tgt := 41) dX9_passed_28 (by decide) (by omega) (fun c28 => ?_) (fun c28 => ?_)
              · exfalso; omega
              · skip
                refine r_iload_n (pc := 31) dX9_passed_31 rfl ?_
                refine r_if_lt_n (pc := 32) (a := vn) (tgt := 41) dX9_passed_32 (by decide) (by omega) ?_
                refine r_iload_n (pc := 35) dX9_passed_35 rfl ?_
                refine r_bipush (pc := 36) (v := 30) dX9_passed_36 (by decide) ?_
                refine r_icmp_le_n (pc := 38) (a := vn) (b := 30) (tgt := 44) dX9_passed_38 (by decide) (by omega) (by omega) (fun c38 => ?_) (fun c38 => ?_)
                · skip
                  refine r_aload_n (pc := 44) dX9_passed_44 rfl ?_
                  refine r_get1 (pc := 45) 9 5 41 dX9_passed_45 (fl_RX9_41 rfl) (by decide) rfl (c9_o h9) (c9_p5 h9) ?_
                  refine r_aload (pc := 48) dX9_passed_48 rfl ?_
                  refine r_aload (pc := 50) dX9_passed_50 rfl ?_
                  refine r_get1 (pc := 52) 8 7 143 dX9_passed_52 (fl_RX9_143 rfl) (by decide) rfl (c8_o h8) (c8_p7 h8) ?_
                  refine r_callV_U (pc := 55) (b := 23) (As := [.ref (tA k), .ref ((tA k) + 14)]) 5 166 dX9_passed_55 lk_X5_settle (ml_RX9_166 rfl) im_X5_settle se_X5_settle (by decide) (c5_o (c9_s5 h9)) (Nat.le_of_ble_eq_true rfl) rfl (settle_t (τ := (tdT (sD s k))) hC hk (by omega) (Or.inr rfl) hok.2.1 hTr.2.1) (fun M1 h1 => ?_)
                  obtain ⟨I1, G1, rfl, hC, hg1, hV1, hf1, hm1, hτ1, hce1⟩ := h1
                  have hO1 : OcE I1 23 (eT (dK s k) (tdT (sD s k))) := oce_of (src_of hok.1 _) (wbc_of hok.1 _) hc60 hV1
                  have hFr : FrC I I1 := hFr.tr (fun a j z => hf1 a j (by omega))
                  have hGk : Geq G G1 := hGk.tr hg1
                  have hTr := (hC.ok hk).2
                  have h9 := hC.1.1
                  have h8 := hC.1.2.1 k (by omega)
                  have htc := trc_of hok.1 hTr.1 (tdT (sD s k))
                  refine r_aload_n (pc := 58) dX9_passed_58 rfl ?_
                  refine r_get1 (pc := 59) 9 4 34 dX9_passed_59 (fl_RX9_34 rfl) (by decide) rfl (c9_o h9) (c9_p4 h9) ?_
                  refine r_aload (pc := 62) dX9_passed_62 rfl ?_
                  refine r_get1 (pc := 64) 8 7 143 dX9_passed_64 (fl_RX9_143 rfl) (by decide) rfl (c8_o h8) (c8_p7 h8) ?_
                  refine r_callV_V (pc := 67) (b := 22) (As := [.ref ((tA k) + 14)]) 7 197 dX9_passed_67 lk_X7_copy (ml_RX9_197 rfl) im_X7_copy se_X7_copy (by decide) (c7_o (c9_s4 h9)) (Nat.le_of_ble_eq_true rfl) rfl (copy_ct (c9_s4 h9) (c8_s7 h8) (by omega) ⟨by rw [hTr.2.1 2 (by omega)]; exact bz_01 _, by rw [hTr.2.1 3 (by omega)]; exact bz_01 _⟩) (fun Ia hIa => ?_)
                  have hvA : ∀ j, j < 6 → Ia 22 j = tmv (tdT (sD s k)) j := fun j hj => by rw [hIa, setTm_at hj]; exact hTr.2.1 j hj
                  have hC : Ci s Ia G1 := hC.kq (fun a j z => by rw [hIa]; exact setTm_o (by omega))
                  have hfa : ∀ a j, a ≠ 22 → Ia a j = I1 a j := fun a j z => by rw [hIa]; exact setTm_o z
                  have hFr : FrC I Ia := hFr.tr (fun a j z => hfa a j (by omega))
                  have hTr := (hC.ok hk).2
                  have h9 := hC.1.1
                  have h8 := hC.1.2.1 k (by omega)
                  have htc := trc_of hok.1 hTr.1 (tdT (sD s k))
                  refine r_aload_n (pc := 70) dX9_passed_70 rfl ?_
                  refine r_get1 (pc := 71) 9 4 34 dX9_passed_71 (fl_RX9_34 rfl) (by decide) rfl (c9_o h9) (c9_p4 h9) ?_
                  refine r_iload_n (pc := 74) dX9_passed_74 rfl ?_
                  refine r_putI (pc := 75) (v := nI hn) 7 4 201 dX9_passed_75 (fl_RX9_201 rfl) (by decide) rfl rfl (c7_o (c9_s4 h9)) ?_
                  refine r_aload_n (pc := 78) dX9_passed_78 rfl ?_
                  refine r_get1 (pc := 79) 9 4 34 dX9_passed_79 (fl_RX9_34 rfl) (by decide) rfl (c9_o h9) (c9_p4 h9) ?_
                  refine r_iload_n (pc := 82) dX9_passed_82 rfl ?_
                  refine r_putI (pc := 83) (v := nI vn) 7 5 204 dX9_passed_83 (fl_RX9_204 rfl) (by decide) rfl rfl (c7_o (c9_s4 h9)) ?_
                  obtain ⟨Ib, hIb⟩ : ∃ zz0 : Im, zz0 = up2 (up2 Ia 22 4 (nI hn)) 22 5 (nI vn) := ⟨_, rfl⟩
                  refine wp_M (M2 := (Ib, G1)) (by subst hIb; rfl) ?_
                  have hfb : ∀ a j, a ≠ 22 → Ib a j = Ia a j := fun a j z => by rw [hIb, up2_rd (by omega), up2_rd (by omega)]
                  have hdr := dear_ok (v := Ib 22) (τ := tdT (sD s k)) (h := hn) (x := vn) hok.2.1 (by omega) (by rw [hIb, up2_rd (by omega), up2_rd (by omega)]; exact hvA 0 (by omega)) (by rw [hIb, up2_rd (by omega), up2_rd (by omega)]; exact hvA 1 (by omega)) (by rw [hIb, up2_rd (by omega), up2_rd (by omega)]; exact hvA 2 (by omega)) (by rw [hIb, up2_rd (by omega), up2_rd (by omega)]; exact hvA 3 (by omega)) (by rw [hIb]; exact (up2_rd (by omega)).trans up2_at) (by rw [hIb]; exact up2_at)
                  have hdc : ∀ b, eC (eDear (eK' s k) hn vn) b ≤ 60 := fun b => by
                    have : dC (dK s k) b ≤ 30 := hok.1.2.1 b
                    show dC (dK s k) b + (if nI b = nI hn then vn else 0) ≤ 60
                    split <;> omega
                  have hC : Ci s Ib G1 := hC.kq (fun a j z => hfb a j (by omega))
                  have hFr : FrC I Ib := hFr.tr (fun a j z => hfb a j (by omega))
                  have hTr := (hC.ok hk).2
                  have h9 := hC.1.1
                  have h8 := hC.1.2.1 k (by omega)
                  have htc := trc_of hok.1 hTr.1 (tdT (sD s k))
                  refine r_aload_n (pc := 86) dX9_passed_86 rfl ?_
                  refine r_get1 (pc := 87) 9 6 45 dX9_passed_87 (fl_RX9_45 rfl) (by decide) rfl (c9_o h9) (c9_p6 h9) ?_
                  refine r_aload (pc := 90) dX9_passed_90 rfl ?_
                  refine r_aload_n (pc := 92) dX9_passed_92 rfl ?_
                  refine r_get1 (pc := 93) 9 4 34 dX9_passed_93 (fl_RX9_34 rfl) (by decide) rfl (c9_o h9) (c9_p4 h9) ?_
                  refine r_callV_U (pc := 96) (b := 67) (As := [.ref (tA k), .ref 22]) 5 166 dX9_passed_96 lk_X5_settle (ml_RX9_166 rfl) im_X5_settle se_X5_settle (by decide) (c5_o (c9_s6 h9)) (Nat.le_of_ble_eq_true rfl) rfl (settle_s hC hk (by omega) (Or.inl rfl) hdr.1) (fun M2 h2 => ?_)
                  rw [hdr.2] at h2
                  obtain ⟨I2, G2, rfl, hC, hg2, hV2, hf2, hm2, hτ2, hce2⟩ := h2
                  have hO2 : OcE I2 67 (eDear (eK' s k) hn vn) := oce_of (E := (eDear (eK' s k) hn vn)) ⟨hok.1.1.2, hok.1.2.2.1⟩ (wbc_of hok.1 (tdT (sD s k))) hdc hV2
                  have hFr : FrC I I2 := hFr.tr (fun a j z => hf2 a j (by omega))
                  have hGk : Geq G G2 := hGk.tr hg2
                  have hTr := (hC.ok hk).2
                  have h9 := hC.1.1
                  have h8 := hC.1.2.1 k (by omega)
                  have htc := trc_of hok.1 hTr.1 (tdT (sD s k))
                  have hO1 : OcE I2 23 (eK' s k) := hO1.keep (fun a j g1 g2 => (hf2 a j (by omega)).trans ((hfb a j (by omega)).trans (hfa a j (by omega))))
                  refine r_aload_n (pc := 99) dX9_passed_99 rfl ?_
                  refine r_get1 (pc := 100) 9 6 45 dX9_passed_100 (fl_RX9_45 rfl) (by decide) rfl (c9_o h9) (c9_p6 h9) ?_
                  refine r_get1 (pc := 103) 5 9 178 dX9_passed_103 (fl_RX9_178 rfl) (by decide) rfl (c5_o (c9_s6 h9)) (c5_p9 (c9_s6 h9)) ?_
                  refine r_iload (pc := 106) dX9_passed_106 rfl ?_
                  refine r_iald_n (pc := 108) (i := on) dX9_passed_108 (c5_a9 (c9_s6 h9)) (by decide) (by omega) (v := akF (eDear (eK' s k) hn vn) idq on) ((hO2 on (by show on < dN (dK s k); omega)).2.2.1) ?_
                  refine r_aload_n (pc := 109) dX9_passed_109 rfl ?_
                  refine r_get1 (pc := 110) 9 5 41 dX9_passed_110 (fl_RX9_41 rfl) (by decide) rfl (c9_o h9) (c9_p5 h9) ?_
                  refine r_get1 (pc := 113) 5 9 178 dX9_passed_113 (fl_RX9_178 rfl) (by decide) rfl (c5_o (c9_s5 h9)) (c5_p9 (c9_s5 h9)) ?_
                  refine r_iload (pc := 116) dX9_passed_116 rfl ?_
                  refine r_iald_n (pc := 118) (i := on) dX9_passed_118 (c5_a9 (c9_s5 h9)) (by decide) (by omega) (v := akF (eT (dK s k) (tdT (sD s k))) idq on) ((hO1 on (by show on < dN (dK s k); omega)).2.2.1) ?_
                  refine r_isub (pc := 119) (x := akF (eDear (eK' s k) hn vn) idq on) (z := akF (eT (dK s k) (tdT (sD s k))) idq on) dX9_passed_119 ?_
                  refine r_ret_i (pc := 120) dX9_passed_120 rfl ?_
                  exact ⟨_, rfl, I2, G2, rfl, (by unfold aPassed; rw [atN_s et, atN_s eh, atN_s eo, if_pos hso, atN_s ev]), hC, hFr.m, hGk.gk⟩
                · exfalso; omega
          · skip
            refine r_aload_n (pc := 0) dX9_passed_0 rfl ?_
            refine r_iload_n (pc := 1) dX9_passed_1 rfl ?_
            refine r_callV_R (pc := 2) (b := 0) (As := [.int (nI k)]) 9 98 dX9_passed_2 lk_X9_find (ml_RX9_98 rfl) im_X9_find se_X9_find (by decide) (c9_o h9) (Nat.le_of_ble_eq_true rfl) rfl (find_ct hC.1.1 hC.2.1.1 hcn10 hk (hC.1.2.2.1 k hk)) ?_
            refine r_astore (pc := 5) (L' := [some (.ref 0), some (.int (nI k)), some (.int (nI hn)), some (.int v), some (.int (nI on)), some (.ref (tA k))]) dX9_passed_5 (by decide) rfl rfl ?_
            refine r_aload (pc := 7) dX9_passed_7 rfl ?_
            refine r_ifnullR (pc := 9) dX9_passed_9 ?_
            refine r_aload (pc := 12) dX9_passed_12 rfl ?_
            refine r_iload_n (pc := 14) dX9_passed_14 rfl ?_
            refine r_callV_P (pc := 15) (b := tA k) (As := [.int (nI hn)]) 8 102 dX9_passed_15 lk_X8_holds (ml_RX9_102 rfl) im_X8_holds se_X8_holds (by decide) (c8_o h8) (Nat.le_of_ble_eq_true rfl) rfl (holds_y h8 hTr.1.1 hn8 hhn) ?_
            refine r_if_eq_n (pc := 18) (a := 1) (tgt := 41) dX9_passed_18 (by decide) (by omega) (fun c18 => ?_) (fun c18 => ?_)
            · exfalso; omega
            · skip
              refine r_aload (pc := 21) dX9_passed_21 rfl ?_
              refine r_iload (pc := 23) dX9_passed_23 rfl ?_
              refine r_callV_P (pc := 25) (b := tA k) (As := [.int (nI on)]) 8 126 dX9_passed_25 lk_X8_isShop (ml_RX9_126 rfl) im_X8_isShop se_X8_isShop (by decide) (c8_o h8) (Nat.le_of_ble_eq_true rfl) rfl (isShop_y h8 htc hon hso) ?_
              refine r_if_eq_n (pc := 28) (a := 1) (tgt := 41) dX9_passed_28 (by decide) (by omega) (fun c28 => ?_) (fun c28 => ?_)
              · exfalso; omega
              · skip
                refine r_iload_n (pc := 31) dX9_passed_31 rfl ?_
                refine r_if_lt (pc := 32) (x := v) (tgt := 41) dX9_passed_32 (by decide) (fun c32 => ?_) (fun c32 => ?_)
                · skip
                  refine r_ldc (pc := 41) (v := -100000000) dX9_passed_41 (kc_RX9_174 rfl) ?_
                  refine r_ret_i (pc := 43) dX9_passed_43 rfl ?_
                  exact ⟨_, rfl, I, G, rfl, (by unfold aPassed; rw [atN_s et, atN_s eh, atN_s eo, if_pos hso, atN_n ev] <;> rfl), hC, hFr.m, hGk.gk⟩
                · skip
                  refine r_iload_n (pc := 35) dX9_passed_35 rfl ?_
                  refine r_bipush (pc := 36) (v := 30) dX9_passed_36 (by decide) ?_
                  refine r_icmp_le (pc := 38) (x := v) (z := 30) (tgt := 44) dX9_passed_38 (by decide) (fun c38 => ?_) (fun c38 => ?_)
                  · exfalso; exact rg_no (n := 30) (by omega) hnov c32 c38
                  · skip
                    refine r_ldc (pc := 41) (v := -100000000) dX9_passed_41 (kc_RX9_174 rfl) ?_
                    refine r_ret_i (pc := 43) dX9_passed_43 rfl ?_
                    exact ⟨_, rfl, I, G, rfl, (by unfold aPassed; rw [atN_s et, atN_s eh, atN_s eo, if_pos hso, atN_n ev] <;> rfl), hC, hFr.m, hGk.gk⟩
        · skip
          refine r_aload_n (pc := 0) dX9_passed_0 rfl ?_
          refine r_iload_n (pc := 1) dX9_passed_1 rfl ?_
          refine r_callV_R (pc := 2) (b := 0) (As := [.int (nI k)]) 9 98 dX9_passed_2 lk_X9_find (ml_RX9_98 rfl) im_X9_find se_X9_find (by decide) (c9_o h9) (Nat.le_of_ble_eq_true rfl) rfl (find_ct hC.1.1 hC.2.1.1 hcn10 hk (hC.1.2.2.1 k hk)) ?_
          refine r_astore (pc := 5) (L' := [some (.ref 0), some (.int (nI k)), some (.int (nI hn)), some (.int v), some (.int (nI on)), some (.ref (tA k))]) dX9_passed_5 (by decide) rfl rfl ?_
          refine r_aload (pc := 7) dX9_passed_7 rfl ?_
          refine r_ifnullR (pc := 9) dX9_passed_9 ?_
          refine r_aload (pc := 12) dX9_passed_12 rfl ?_
          refine r_iload_n (pc := 14) dX9_passed_14 rfl ?_
          refine r_callV_P (pc := 15) (b := tA k) (As := [.int (nI hn)]) 8 102 dX9_passed_15 lk_X8_holds (ml_RX9_102 rfl) im_X8_holds se_X8_holds (by decide) (c8_o h8) (Nat.le_of_ble_eq_true rfl) rfl (holds_y h8 hTr.1.1 hn8 hhn) ?_
          refine r_if_eq_n (pc := 18) (a := 1) (tgt := 41) dX9_passed_18 (by decide) (by omega) (fun c18 => ?_) (fun c18 => ?_)
          · exfalso; omega
          · skip
            refine r_aload (pc := 21) dX9_passed_21 rfl ?_
            refine r_iload (pc := 23) dX9_passed_23 rfl ?_
            refine r_callV_P (pc := 25) (b := tA k) (As := [.int (nI on)]) 8 126 dX9_passed_25 lk_X8_isShop (ml_RX9_126 rfl) im_X8_isShop se_X8_isShop (by decide) (c8_o h8) (Nat.le_of_ble_eq_true rfl) rfl (isShop_n h8 htc hon hso) ?_
            refine r_if_eq_n (pc := 28) (a := 0) (tgt := 41) dX9_passed_28 (by decide) (by omega) (fun c28 => ?_) (fun c28 => ?_)
            · skip
              refine r_ldc (pc := 41) (v := -100000000) dX9_passed_41 (kc_RX9_174 rfl) ?_
              refine r_ret_i (pc := 43) dX9_passed_43 rfl ?_
              exact ⟨_, rfl, I, G, rfl, (by unfold aPassed; rw [atN_s et, atN_s eh, atN_s eo, if_neg hso] <;> rfl), hC, hFr.m, hGk.gk⟩
            · exfalso; omega
      · skip
        refine r_aload_n (pc := 0) dX9_passed_0 rfl ?_
        refine r_iload_n (pc := 1) dX9_passed_1 rfl ?_
        refine r_callV_R (pc := 2) (b := 0) (As := [.int (nI k)]) 9 98 dX9_passed_2 lk_X9_find (ml_RX9_98 rfl) im_X9_find se_X9_find (by decide) (c9_o h9) (Nat.le_of_ble_eq_true rfl) rfl (find_ct hC.1.1 hC.2.1.1 hcn10 hk (hC.1.2.2.1 k hk)) ?_
        refine r_astore (pc := 5) (L' := [some (.ref 0), some (.int (nI k)), some (.int (nI hn)), some (.int v), some (.int o), some (.ref (tA k))]) dX9_passed_5 (by decide) rfl rfl ?_
        refine r_aload (pc := 7) dX9_passed_7 rfl ?_
        refine r_ifnullR (pc := 9) dX9_passed_9 ?_
        refine r_aload (pc := 12) dX9_passed_12 rfl ?_
        refine r_iload_n (pc := 14) dX9_passed_14 rfl ?_
        refine r_callV_P (pc := 15) (b := tA k) (As := [.int (nI hn)]) 8 102 dX9_passed_15 lk_X8_holds (ml_RX9_102 rfl) im_X8_holds se_X8_holds (by decide) (c8_o h8) (Nat.le_of_ble_eq_true rfl) rfl (holds_y h8 hTr.1.1 hn8 hhn) ?_
        refine r_if_eq_n (pc := 18) (a := 1) (tgt := 41) dX9_passed_18 (by decide) (by omega) (fun c18 => ?_) (fun c18 => ?_)
        · exfalso; omega
        · skip
          refine r_aload (pc := 21) dX9_passed_21 rfl ?_
          refine r_iload (pc := 23) dX9_passed_23 rfl ?_
          refine r_callV_P (pc := 25) (b := tA k) (As := [.int o]) 8 126 dX9_passed_25 lk_X8_isShop (ml_RX9_126 rfl) im_X8_isShop se_X8_isShop (by decide) (c8_o h8) (Nat.le_of_ble_eq_true rfl) rfl (isShop_no h8 (by rw [hTr.1.1]; exact hnoo)) ?_
          refine r_if_eq_n (pc := 28) (a := 0) (tgt := 41) dX9_passed_28 (by decide) (by omega) (fun c28 => ?_) (fun c28 => ?_)
          · skip
            refine r_ldc (pc := 41) (v := -100000000) dX9_passed_41 (kc_RX9_174 rfl) ?_
            refine r_ret_i (pc := 43) dX9_passed_43 rfl ?_
            exact ⟨_, rfl, I, G, rfl, (by unfold aPassed; rw [atN_s et, atN_s eh, atN_n eo] <;> rfl), hC, hFr.m, hGk.gk⟩
          · exfalso; omega
    · skip
      refine r_aload_n (pc := 0) dX9_passed_0 rfl ?_
      refine r_iload_n (pc := 1) dX9_passed_1 rfl ?_
      refine r_callV_R (pc := 2) (b := 0) (As := [.int (nI k)]) 9 98 dX9_passed_2 lk_X9_find (ml_RX9_98 rfl) im_X9_find se_X9_find (by decide) (c9_o h9) (Nat.le_of_ble_eq_true rfl) rfl (find_ct hC.1.1 hC.2.1.1 hcn10 hk (hC.1.2.2.1 k hk)) ?_
      refine r_astore (pc := 5) (L' := [some (.ref 0), some (.int (nI k)), some (.int h), some (.int v), some (.int o), some (.ref (tA k))]) dX9_passed_5 (by decide) rfl rfl ?_
      refine r_aload (pc := 7) dX9_passed_7 rfl ?_
      refine r_ifnullR (pc := 9) dX9_passed_9 ?_
      refine r_aload (pc := 12) dX9_passed_12 rfl ?_
      refine r_iload_n (pc := 14) dX9_passed_14 rfl ?_
      refine r_callV_P (pc := 15) (b := tA k) (As := [.int h]) 8 102 dX9_passed_15 lk_X8_holds (ml_RX9_102 rfl) im_X8_holds se_X8_holds (by decide) (c8_o h8) (Nat.le_of_ble_eq_true rfl) rfl (holds_n h8 hTr.1.1 hnoh) ?_
      refine r_if_eq_n (pc := 18) (a := 0) (tgt := 41) dX9_passed_18 (by decide) (by omega) (fun c18 => ?_) (fun c18 => ?_)
      · skip
        refine r_ldc (pc := 41) (v := -100000000) dX9_passed_41 (kc_RX9_174 rfl) ?_
        refine r_ret_i (pc := 43) dX9_passed_43 rfl ?_
        exact ⟨_, rfl, I, G, rfl, (by unfold aPassed; rw [atN_s et, atN_n eh] <;> rfl), hC, hFr.m, hGk.gk⟩
      · exfalso; omega
  · skip
    refine r_aload_n (pc := 0) dX9_passed_0 rfl ?_
    refine r_iload_n (pc := 1) dX9_passed_1 rfl ?_
    refine r_callV_R (pc := 2) (b := 0) (As := [.int t]) 9 98 dX9_passed_2 lk_X9_find (ml_RX9_98 rfl) im_X9_find se_X9_find (by decide) (c9_o h9) (Nat.le_of_ble_eq_true rfl) rfl (find_no hC.1.1 (by rw [hC.2.1.1]; exact hnot)) ?_
    refine r_astoreN (pc := 5) (L' := [some (.ref 0), some (.int t), some (.int h), some (.int v), some (.int o), some (.null)]) dX9_passed_5 (by decide) rfl rfl ?_
    refine r_aloadN (pc := 7) dX9_passed_7 rfl ?_
    refine r_ifnullN (pc := 9) (tgt := 41) dX9_passed_9 (by decide) ?_
    refine r_ldc (pc := 41) (v := -100000000) dX9_passed_41 (kc_RX9_174 rfl) ?_
    refine r_ret_i (pc := 43) dX9_passed_43 rfl ?_
    exact ⟨_, rfl, I, G, rfl, (by unfold aPassed; rw [atN_n et] <;> rfl), hC, hFr.m, hGk.gk⟩

set_option maxRecDepth 100000 in
theorem gain_c {d : Nat} {I : Im} {G : Gm} {s : Sta} (hC : Ci s I G) {t h : Int32} : Ct (d + 6) 0 0 YX9_gain [.ref 0, .int t, .int h] (I, G) (qX (PcQ s I G (aGain s t h))) := by
  refine Ct.of (by decide) (by simp [Value.category]) (Nat.le_of_ble_eq_true rfl) ?_
  have h9 := hC.1.1
  have hcn10 := hC.2.1.2.1
  have hFr : FrC I I := FrC.rf
  have hGk : Geq G G := Geq.rf
  show wp _ _ _ _ 0 [some (.ref 0), some (.int t), some (.int h), none] [] _ _
  rcases in_cases (n := sN s) (by have := hcn10; omega) t with ⟨k, hk, rfl, et⟩ | ⟨et, hnot⟩
  · skip
    have h8 := hC.1.2.1 k (by omega)
    obtain ⟨hok, hTr⟩ := hC.ok hk
    have hn8 : dN (dK s k) ≤ 8 := hok.1.1.2
    have hoff := tA_off k
    have hE := src_of hok.1 (tdT (sD s k))
    have hW := wbc_of hok.1 (tdT (sD s k))
    have hc60 : ∀ b, dC (dK s k) b ≤ 60 := fun b => Nat.le_trans (hok.1.2.1 b) (by omega)
    have htc := trc_of hok.1 hTr.1 (tdT (sD s k))
    by_cases hmm : h = -1
    · skip
      subst hmm
      refine r_aload_n (pc := 0) dX9_gain_0 rfl ?_
      refine r_iload_n (pc := 1) dX9_gain_1 rfl ?_
      refine r_callV_R (pc := 2) (b := 0) (As := [.int (nI k)]) 9 98 dX9_gain_2 lk_X9_find (ml_RX9_98 rfl) im_X9_find se_X9_find (by decide) (c9_o h9) (Nat.le_of_ble_eq_true rfl) rfl (find_ct hC.1.1 hC.2.1.1 hcn10 hk (hC.1.2.2.1 k hk)) ?_
      refine r_astore_n (pc := 5) (L' := [some (.ref 0), some (.int (nI k)), some (.int (-1)), some (.ref (tA k))]) dX9_gain_5 (by decide) rfl rfl ?_
      refine r_aload_n (pc := 6) dX9_gain_6 rfl ?_
      refine r_ifnullR (pc := 7) dX9_gain_7 ?_
      refine r_iload_n (pc := 10) dX9_gain_10 rfl ?_
      refine r_iconst (pc := 11) (v := -1) dX9_gain_11 (by decide) ?_
      refine r_icmp_eq (pc := 12) (x := (-1)) (z := (-1)) (tgt := 26) dX9_gain_12 (by decide) (fun c12 => ?_) (fun c12 => ?_)
      · skip
        refine r_aload_n (pc := 26) dX9_gain_26 rfl ?_
        refine r_get1 (pc := 27) 9 5 41 dX9_gain_27 (fl_RX9_41 rfl) (by decide) rfl (c9_o h9) (c9_p5 h9) ?_
        refine r_aload_n (pc := 30) dX9_gain_30 rfl ?_
        refine r_aload_n (pc := 31) dX9_gain_31 rfl ?_
        refine r_get1 (pc := 32) 8 7 143 dX9_gain_32 (fl_RX9_143 rfl) (by decide) rfl (c8_o h8) (c8_p7 h8) ?_
        refine r_callV_U (pc := 35) (b := 23) (As := [.ref (tA k), .ref ((tA k) + 14)]) 5 166 dX9_gain_35 lk_X5_settle (ml_RX9_166 rfl) im_X5_settle se_X5_settle (by decide) (c5_o (c9_s5 h9)) (Nat.le_of_ble_eq_true rfl) rfl (settle_t (τ := (tdT (sD s k))) hC hk (by omega) (Or.inr rfl) hok.2.1 hTr.2.1) (fun M1 h1 => ?_)
        obtain ⟨I1, G1, rfl, hC, hg1, hV1, hf1, hm1, hτ1, hce1⟩ := h1
        have hO1 : OcE I1 23 (eT (dK s k) (tdT (sD s k))) := oce_of (src_of hok.1 _) (wbc_of hok.1 _) hc60 hV1
        have hFr : FrC I I1 := hFr.tr (fun a j z => hf1 a j (by omega))
        have hGk : Geq G G1 := hGk.tr hg1
        have hTr := (hC.ok hk).2
        have h9 := hC.1.1
        have h8 := hC.1.2.1 k (by omega)
        have htc := trc_of hok.1 hTr.1 (tdT (sD s k))
        refine r_aload_n (pc := 38) dX9_gain_38 rfl ?_
        refine r_get1 (pc := 39) 9 4 34 dX9_gain_39 (fl_RX9_34 rfl) (by decide) rfl (c9_o h9) (c9_p4 h9) ?_
        refine r_aload_n (pc := 42) dX9_gain_42 rfl ?_
        refine r_get1 (pc := 43) 8 7 143 dX9_gain_43 (fl_RX9_143 rfl) (by decide) rfl (c8_o h8) (c8_p7 h8) ?_
        refine r_callV_V (pc := 46) (b := 22) (As := [.ref ((tA k) + 14)]) 7 197 dX9_gain_46 lk_X7_copy (ml_RX9_197 rfl) im_X7_copy se_X7_copy (by decide) (c7_o (c9_s4 h9)) (Nat.le_of_ble_eq_true rfl) rfl (copy_ct (c9_s4 h9) (c8_s7 h8) (by omega) ⟨by rw [hTr.2.1 2 (by omega)]; exact bz_01 _, by rw [hTr.2.1 3 (by omega)]; exact bz_01 _⟩) (fun Ia hIa => ?_)
        have hvA : ∀ j, j < 6 → Ia 22 j = tmv (tdT (sD s k)) j := fun j hj => by rw [hIa, setTm_at hj]; exact hTr.2.1 j hj
        have hC : Ci s Ia G1 := hC.kq (fun a j z => by rw [hIa]; exact setTm_o (by omega))
        have hfa : ∀ a j, a ≠ 22 → Ia a j = I1 a j := fun a j z => by rw [hIa]; exact setTm_o z
        have hFr : FrC I Ia := hFr.tr (fun a j z => hfa a j (by omega))
        have hTr := (hC.ok hk).2
        have h9 := hC.1.1
        have h8 := hC.1.2.1 k (by omega)
        have htc := trc_of hok.1 hTr.1 (tdT (sD s k))
        refine r_aload_n (pc := 49) dX9_gain_49 rfl ?_
        refine r_get1 (pc := 50) 9 4 34 dX9_gain_50 (fl_RX9_34 rfl) (by decide) rfl (c9_o h9) (c9_p4 h9) ?_
        refine r_bipush (pc := 53) (v := 41) dX9_gain_53 (by decide) ?_
        refine r_putI (pc := 55) (v := nI 41) 7 1 149 dX9_gain_55 (fl_RX9_149 rfl) (by decide) rfl rfl (c7_o (c9_s4 h9)) ?_
        refine r_aload_n (pc := 58) dX9_gain_58 rfl ?_
        refine r_get1 (pc := 59) 9 4 34 dX9_gain_59 (fl_RX9_34 rfl) (by decide) rfl (c9_o h9) (c9_p4 h9) ?_
        refine r_iconst (pc := 62) (v := 0) dX9_gain_62 (by decide) ?_
        refine r_putZ (pc := 63) (v := nI 0) 7 2 152 dX9_gain_63 (fl_RX9_152 rfl) (by decide) rfl rfl (c7_o (c9_s4 h9)) (by decide) ?_
        obtain ⟨Ib, hIb⟩ : ∃ zz0 : Im, zz0 = up2 (up2 Ia 22 1 (nI 41)) 22 2 (nI 0) := ⟨_, rfl⟩
        refine wp_M (M2 := (Ib, G1)) (by subst hIb; rfl) ?_
        have hfb : ∀ a j, a ≠ 22 → Ib a j = Ia a j := fun a j z => by rw [hIb, up2_rd (by omega), up2_rd (by omega)]
        have hvb : ∀ j, j < 6 → Ib 22 j = tmv ((tdT (sD s k)).1, 41, false, (tdT (sD s k)).2.2.2) j := six (by rw [hIb, up2_rd (by omega), up2_rd (by omega)]; exact hvA 0 (by omega)) (by rw [hIb]; exact (up2_rd (by omega)).trans up2_at) (by rw [hIb]; exact up2_at) (by rw [hIb, up2_rd (by omega), up2_rd (by omega)]; exact hvA 3 (by omega)) (by rw [hIb, up2_rd (by omega), up2_rd (by omega)]; exact hvA 4 (by omega)) (by rw [hIb, up2_rd (by omega), up2_rd (by omega)]; exact hvA 5 (by omega))
        have hC : Ci s Ib G1 := hC.kq (fun a j z => hfb a j (by omega))
        have hFr : FrC I Ib := hFr.tr (fun a j z => hfb a j (by omega))
        have hTr := (hC.ok hk).2
        have h9 := hC.1.1
        have h8 := hC.1.2.1 k (by omega)
        have htc := trc_of hok.1 hTr.1 (tdT (sD s k))
        refine r_aload_n (pc := 66) dX9_gain_66 rfl ?_
        refine r_get1 (pc := 67) 9 6 45 dX9_gain_67 (fl_RX9_45 rfl) (by decide) rfl (c9_o h9) (c9_p6 h9) ?_
        refine r_aload_n (pc := 70) dX9_gain_70 rfl ?_
        refine r_aload_n (pc := 71) dX9_gain_71 rfl ?_
        refine r_get1 (pc := 72) 9 4 34 dX9_gain_72 (fl_RX9_34 rfl) (by decide) rfl (c9_o h9) (c9_p4 h9) ?_
        refine r_callV_U (pc := 75) (b := 67) (As := [.ref (tA k), .ref 22]) 5 166 dX9_gain_75 lk_X5_settle (ml_RX9_166 rfl) im_X5_settle se_X5_settle (by decide) (c5_o (c9_s6 h9)) (Nat.le_of_ble_eq_true rfl) rfl (settle_t (τ := ((tdT (sD s k)).1, 41, false, (tdT (sD s k)).2.2.2)) hC hk (by omega) (Or.inl rfl) (Nat.le_refl 41) hvb) (fun M2 h2 => ?_)
        obtain ⟨I2, G2, rfl, hC, hg2, hV2, hf2, hm2, hτ2, hce2⟩ := h2
        have hO2 : OcE I2 67 (eT (dK s k) ((tdT (sD s k)).1, 41, false, (tdT (sD s k)).2.2.2)) := oce_of (src_of hok.1 _) (wbc_of hok.1 _) hc60 hV2
        have hFr : FrC I I2 := hFr.tr (fun a j z => hf2 a j (by omega))
        have hGk : Geq G G2 := hGk.tr hg2
        have hTr := (hC.ok hk).2
        have h9 := hC.1.1
        have h8 := hC.1.2.1 k (by omega)
        have htc := trc_of hok.1 hTr.1 (tdT (sD s k))
        have hO1 : OcE I2 23 (eK' s k) := hO1.keep (fun a j g1 g2 => (hf2 a j (by omega)).trans ((hfb a j (by omega)).trans (hfa a j (by omega))))
        refine r_iload_n (pc := 78) dX9_gain_78 rfl ?_
        refine r_if_ge (pc := 79) (x := (-1)) (tgt := 100) dX9_gain_79 (by decide) (fun c79 => ?_) (fun c79 => ?_)
        · exfalso; exact absurd c79 (by decide)
        · skip
          refine r_aload_n (pc := 82) dX9_gain_82 rfl ?_
          refine r_get1 (pc := 83) 9 5 41 dX9_gain_83 (fl_RX9_41 rfl) (by decide) rfl (c9_o h9) (c9_p5 h9) ?_
          refine r_aload_n (pc := 86) dX9_gain_86 rfl ?_
          refine r_callV_P (pc := 87) (b := 23) (As := [.ref (tA k)]) 5 190 dX9_gain_87 lk_X5_saved (ml_RX9_190 rfl) im_X5_saved se_X5_saved (by decide) (c5_o (c9_s5 h9)) (Nat.le_of_ble_eq_true rfl) rfl (saved_s (E := (eT (dK s k) (tdT (sD s k)))) (c9_s5 h9) h8 (by omega) (trc_of hok.1 hTr.1 _) (hV1.keepV (src_of hok.1 _) (fun a j g1 g2 => (hf2 a j (by omega)).trans ((hfb a j (by omega)).trans (hfa a j (by omega))))) (src_of hok.1 _) (wbc_of hok.1 _) hc60) ?_
          refine r_aload_n (pc := 90) dX9_gain_90 rfl ?_
          refine r_get1 (pc := 91) 9 6 45 dX9_gain_91 (fl_RX9_45 rfl) (by decide) rfl (c9_o h9) (c9_p6 h9) ?_
          refine r_aload_n (pc := 94) dX9_gain_94 rfl ?_
          refine r_callV_P (pc := 95) (b := 67) (As := [.ref (tA k)]) 5 190 dX9_gain_95 lk_X5_saved (ml_RX9_190 rfl) im_X5_saved se_X5_saved (by decide) (c5_o (c9_s6 h9)) (Nat.le_of_ble_eq_true rfl) rfl (saved_s (E := (eT (dK s k) ((tdT (sD s k)).1, 41, false, (tdT (sD s k)).2.2.2))) (c9_s6 h9) h8 (by omega) (trc_of hok.1 hTr.1 _) hV2 (src_of hok.1 _) (wbc_of hok.1 _) hc60) ?_
          refine r_isub (pc := 98) (x := svF (eT (dK s k) (tdT (sD s k))) idq) (z := svF (eT (dK s k) ((tdT (sD s k)).1, 41, false, (tdT (sD s k)).2.2.2)) idq) dX9_gain_98 ?_
          refine r_ret_i (pc := 99) dX9_gain_99 rfl ?_
          exact ⟨_, rfl, I2, G2, rfl, (by unfold aGain; rw [atN_s et, if_pos rfl] <;> rfl), hC, hFr.m, hGk.gk⟩
      · exfalso; exact c12 rfl
    · skip
      rcases in_cases (n := dN (dK s k)) (by have := hn8; omega) h with ⟨hn, hhn, rfl, eh⟩ | ⟨eh, hnoh⟩
      · skip
        refine r_aload_n (pc := 0) dX9_gain_0 rfl ?_
        refine r_iload_n (pc := 1) dX9_gain_1 rfl ?_
        refine r_callV_R (pc := 2) (b := 0) (As := [.int (nI k)]) 9 98 dX9_gain_2 lk_X9_find (ml_RX9_98 rfl) im_X9_find se_X9_find (by decide) (c9_o h9) (Nat.le_of_ble_eq_true rfl) rfl (find_ct hC.1.1 hC.2.1.1 hcn10 hk (hC.1.2.2.1 k hk)) ?_
        refine r_astore_n (pc := 5) (L' := [some (.ref 0), some (.int (nI k)), some (.int (nI hn)), some (.ref (tA k))]) dX9_gain_5 (by decide) rfl rfl ?_
        refine r_aload_n (pc := 6) dX9_gain_6 rfl ?_
        refine r_ifnullR (pc := 7) dX9_gain_7 ?_
        refine r_iload_n (pc := 10) dX9_gain_10 rfl ?_
        refine r_iconst (pc := 11) (v := -1) dX9_gain_11 (by decide) ?_
        refine r_icmp_eq (pc := 12) (x := nI hn) (z := (-1)) (tgt := 26) dX9_gain_12 (by decide) (fun c12 => ?_) (fun c12 => ?_)
        · exfalso; exact hmm c12
        · skip
          refine r_aload_n (pc := 15) dX9_gain_15 rfl ?_
          refine r_iload_n (pc := 16) dX9_gain_16 rfl ?_
          refine r_callV_P (pc := 17) (b := tA k) (As := [.int (nI hn)]) 8 102 dX9_gain_17 lk_X8_holds (ml_RX9_102 rfl) im_X8_holds se_X8_holds (by decide) (c8_o h8) (Nat.le_of_ble_eq_true rfl) rfl (holds_y h8 hTr.1.1 hn8 hhn) ?_
          refine r_if_ne_n (pc := 20) (a := 1) (tgt := 26) dX9_gain_20 (by decide) (by omega) (fun c20 => ?_) (fun c20 => ?_)
          · skip
            refine r_aload_n (pc := 26) dX9_gain_26 rfl ?_
            refine r_get1 (pc := 27) 9 5 41 dX9_gain_27 (fl_RX9_41 rfl) (by decide) rfl (c9_o h9) (c9_p5 h9) ?_
            refine r_aload_n (pc := 30) dX9_gain_30 rfl ?_
            refine r_aload_n (pc := 31) dX9_gain_31 rfl ?_
            refine r_get1 (pc := 32) 8 7 143 dX9_gain_32 (fl_RX9_143 rfl) (by decide) rfl (c8_o h8) (c8_p7 h8) ?_
            refine r_callV_U (pc := 35) (b := 23) (As := [.ref (tA k), .ref ((tA k) + 14)]) 5 166 dX9_gain_35 lk_X5_settle (ml_RX9_166 rfl) im_X5_settle se_X5_settle (by decide) (c5_o (c9_s5 h9)) (Nat.le_of_ble_eq_true rfl) rfl (settle_t (τ := (tdT (sD s k))) hC hk (by omega) (Or.inr rfl) hok.2.1 hTr.2.1) (fun M1 h1 => ?_)
            obtain ⟨I1, G1, rfl, hC, hg1, hV1, hf1, hm1, hτ1, hce1⟩ := h1
            have hO1 : OcE I1 23 (eT (dK s k) (tdT (sD s k))) := oce_of (src_of hok.1 _) (wbc_of hok.1 _) hc60 hV1
            have hFr : FrC I I1 := hFr.tr (fun a j z => hf1 a j (by omega))
            have hGk : Geq G G1 := hGk.tr hg1
            have hTr := (hC.ok hk).2
            have h9 := hC.1.1
            have h8 := hC.1.2.1 k (by omega)
            have htc := trc_of hok.1 hTr.1 (tdT (sD s k))
            refine r_aload_n (pc := 38) dX9_gain_38 rfl ?_
            refine r_get1 (pc := 39) 9 4 34 dX9_gain_39 (fl_RX9_34 rfl) (by decide) rfl (c9_o h9) (c9_p4 h9) ?_
            refine r_aload_n (pc := 42) dX9_gain_42 rfl ?_
            refine r_get1 (pc := 43) 8 7 143 dX9_gain_43 (fl_RX9_143 rfl) (by decide) rfl (c8_o h8) (c8_p7 h8) ?_
            refine r_callV_V (pc := 46) (b := 22) (As := [.ref ((tA k) + 14)]) 7 197 dX9_gain_46 lk_X7_copy (ml_RX9_197 rfl) im_X7_copy se_X7_copy (by decide) (c7_o (c9_s4 h9)) (Nat.le_of_ble_eq_true rfl) rfl (copy_ct (c9_s4 h9) (c8_s7 h8) (by omega) ⟨by rw [hTr.2.1 2 (by omega)]; exact bz_01 _, by rw [hTr.2.1 3 (by omega)]; exact bz_01 _⟩) (fun Ia hIa => ?_)
            have hvA : ∀ j, j < 6 → Ia 22 j = tmv (tdT (sD s k)) j := fun j hj => by rw [hIa, setTm_at hj]; exact hTr.2.1 j hj
            have hC : Ci s Ia G1 := hC.kq (fun a j z => by rw [hIa]; exact setTm_o (by omega))
            have hfa : ∀ a j, a ≠ 22 → Ia a j = I1 a j := fun a j z => by rw [hIa]; exact setTm_o z
            have hFr : FrC I Ia := hFr.tr (fun a j z => hfa a j (by omega))
            have hTr := (hC.ok hk).2
            have h9 := hC.1.1
            have h8 := hC.1.2.1 k (by omega)
            have htc := trc_of hok.1 hTr.1 (tdT (sD s k))
            refine r_aload_n (pc := 49) dX9_gain_49 rfl ?_
            refine r_get1 (pc := 50) 9 4 34 dX9_gain_50 (fl_RX9_34 rfl) (by decide) rfl (c9_o h9) (c9_p4 h9) ?_
            refine r_bipush (pc := 53) (v := 41) dX9_gain_53 (by decide) ?_
            refine r_putI (pc := 55) (v := nI 41) 7 1 149 dX9_gain_55 (fl_RX9_149 rfl) (by decide) rfl rfl (c7_o (c9_s4 h9)) ?_
            refine r_aload_n (pc := 58) dX9_gain_58 rfl ?_
            refine r_get1 (pc := 59) 9 4 34 dX9_gain_59 (fl_RX9_34 rfl) (by decide) rfl (c9_o h9) (c9_p4 h9) ?_
            refine r_iconst (pc := 62) (v := 0) dX9_gain_62 (by decide) ?_
            refine r_putZ (pc := 63) (v := nI 0) 7 2 152 dX9_gain_63 (fl_RX9_152 rfl) (by decide) rfl rfl (c7_o (c9_s4 h9)) (by decide) ?_
            obtain ⟨Ib, hIb⟩ : ∃ zz0 : Im, zz0 = up2 (up2 Ia 22 1 (nI 41)) 22 2 (nI 0) := ⟨_, rfl⟩
            refine wp_M (M2 := (Ib, G1)) (by subst hIb; rfl) ?_
            have hfb : ∀ a j, a ≠ 22 → Ib a j = Ia a j := fun a j z => by rw [hIb, up2_rd (by omega), up2_rd (by omega)]
            have hvb : ∀ j, j < 6 → Ib 22 j = tmv ((tdT (sD s k)).1, 41, false, (tdT (sD s k)).2.2.2) j := six (by rw [hIb, up2_rd (by omega), up2_rd (by omega)]; exact hvA 0 (by omega)) (by rw [hIb]; exact (up2_rd (by omega)).trans up2_at) (by rw [hIb]; exact up2_at) (by rw [hIb, up2_rd (by omega), up2_rd (by omega)]; exact hvA 3 (by omega)) (by rw [hIb, up2_rd (by omega), up2_rd (by omega)]; exact hvA 4 (by omega)) (by rw [hIb, up2_rd (by omega), up2_rd (by omega)]; exact hvA 5 (by omega))
            have hC : Ci s Ib G1 := hC.kq (fun a j z => hfb a j (by omega))
            have hFr : FrC I Ib := hFr.tr (fun a j z => hfb a j (by omega))
            have hTr := (hC.ok hk).2
            have h9 := hC.1.1
            have h8 := hC.1.2.1 k (by omega)
            have htc := trc_of hok.1 hTr.1 (tdT (sD s k))
            refine r_aload_n (pc := 66) dX9_gain_66 rfl ?_
            refine r_get1 (pc := 67) 9 6 45 dX9_gain_67 (fl_RX9_45 rfl) (by decide) rfl (c9_o h9) (c9_p6 h9) ?_
            refine r_aload_n (pc := 70) dX9_gain_70 rfl ?_
            refine r_aload_n (pc := 71) dX9_gain_71 rfl ?_
            refine r_get1 (pc := 72) 9 4 34 dX9_gain_72 (fl_RX9_34 rfl) (by decide) rfl (c9_o h9) (c9_p4 h9) ?_
            refine r_callV_U (pc := 75) (b := 67) (As := [.ref (tA k), .ref 22]) 5 166 dX9_gain_75 lk_X5_settle (ml_RX9_166 rfl) im_X5_settle se_X5_settle (by decide) (c5_o (c9_s6 h9)) (Nat.le_of_ble_eq_true rfl) rfl (settle_t (τ := ((tdT (sD s k)).1, 41, false, (tdT (sD s k)).2.2.2)) hC hk (by omega) (Or.inl rfl) (Nat.le_refl 41) hvb) (fun M2 h2 => ?_)
            obtain ⟨I2, G2, rfl, hC, hg2, hV2, hf2, hm2, hτ2, hce2⟩ := h2
            have hO2 : OcE I2 67 (eT (dK s k) ((tdT (sD s k)).1, 41, false, (tdT (sD s k)).2.2.2)) := oce_of (src_of hok.1 _) (wbc_of hok.1 _) hc60 hV2
            have hFr : FrC I I2 := hFr.tr (fun a j z => hf2 a j (by omega))
            have hGk : Geq G G2 := hGk.tr hg2
            have hTr := (hC.ok hk).2
            have h9 := hC.1.1
            have h8 := hC.1.2.1 k (by omega)
            have htc := trc_of hok.1 hTr.1 (tdT (sD s k))
            have hO1 : OcE I2 23 (eK' s k) := hO1.keep (fun a j g1 g2 => (hf2 a j (by omega)).trans ((hfb a j (by omega)).trans (hfa a j (by omega))))
            refine r_iload_n (pc := 78) dX9_gain_78 rfl ?_
            refine r_if_ge_n (pc := 79) (a := hn) (tgt := 100) dX9_gain_79 (by decide) (by omega) ?_
            refine r_aload_n (pc := 100) dX9_gain_100 rfl ?_
            refine r_get1 (pc := 101) 9 5 41 dX9_gain_101 (fl_RX9_41 rfl) (by decide) rfl (c9_o h9) (c9_p5 h9) ?_
            refine r_get1 (pc := 104) 5 11 184 dX9_gain_104 (fl_RX9_184 rfl) (by decide) rfl (c5_o (c9_s5 h9)) (c5_p11 (c9_s5 h9)) ?_
            refine r_iload_n (pc := 107) dX9_gain_107 rfl ?_
            refine r_iald_n (pc := 108) (i := hn) dX9_gain_108 (c5_a11 (c9_s5 h9)) (by decide) (by omega) (v := erM (eT (dK s k) (tdT (sD s k))) hn) ((hO1 hn (by show hn < dN (dK s k); omega)).2.2.2.2) ?_
            refine r_aload_n (pc := 109) dX9_gain_109 rfl ?_
            refine r_get1 (pc := 110) 9 6 45 dX9_gain_110 (fl_RX9_45 rfl) (by decide) rfl (c9_o h9) (c9_p6 h9) ?_
            refine r_get1 (pc := 113) 5 11 184 dX9_gain_113 (fl_RX9_184 rfl) (by decide) rfl (c5_o (c9_s6 h9)) (c5_p11 (c9_s6 h9)) ?_
            refine r_iload_n (pc := 116) dX9_gain_116 rfl ?_
            refine r_iald_n (pc := 117) (i := hn) dX9_gain_117 (c5_a11 (c9_s6 h9)) (by decide) (by omega) (v := erM (eT (dK s k) ((tdT (sD s k)).1, 41, false, (tdT (sD s k)).2.2.2)) hn) ((hO2 hn (by show hn < dN (dK s k); omega)).2.2.2.2) ?_
            refine r_isub (pc := 118) (x := erM (eT (dK s k) (tdT (sD s k))) hn) (z := erM (eT (dK s k) ((tdT (sD s k)).1, 41, false, (tdT (sD s k)).2.2.2)) hn) dX9_gain_118 ?_
            refine r_ret_i (pc := 119) dX9_gain_119 rfl ?_
            exact ⟨_, rfl, I2, G2, rfl, (by unfold aGain; rw [atN_s et, if_neg hmm, atN_s eh] <;> rfl), hC, hFr.m, hGk.gk⟩
          · exfalso; omega
      · skip
        refine r_aload_n (pc := 0) dX9_gain_0 rfl ?_
        refine r_iload_n (pc := 1) dX9_gain_1 rfl ?_
        refine r_callV_R (pc := 2) (b := 0) (As := [.int (nI k)]) 9 98 dX9_gain_2 lk_X9_find (ml_RX9_98 rfl) im_X9_find se_X9_find (by decide) (c9_o h9) (Nat.le_of_ble_eq_true rfl) rfl (find_ct hC.1.1 hC.2.1.1 hcn10 hk (hC.1.2.2.1 k hk)) ?_
        refine r_astore_n (pc := 5) (L' := [some (.ref 0), some (.int (nI k)), some (.int h), some (.ref (tA k))]) dX9_gain_5 (by decide) rfl rfl ?_
        refine r_aload_n (pc := 6) dX9_gain_6 rfl ?_
        refine r_ifnullR (pc := 7) dX9_gain_7 ?_
        refine r_iload_n (pc := 10) dX9_gain_10 rfl ?_
        refine r_iconst (pc := 11) (v := -1) dX9_gain_11 (by decide) ?_
        refine r_icmp_eq (pc := 12) (x := h) (z := (-1)) (tgt := 26) dX9_gain_12 (by decide) (fun c12 => ?_) (fun c12 => ?_)
        · exfalso; exact hmm c12
        · skip
          refine r_aload_n (pc := 15) dX9_gain_15 rfl ?_
          refine r_iload_n (pc := 16) dX9_gain_16 rfl ?_
          refine r_callV_P (pc := 17) (b := tA k) (As := [.int h]) 8 102 dX9_gain_17 lk_X8_holds (ml_RX9_102 rfl) im_X8_holds se_X8_holds (by decide) (c8_o h8) (Nat.le_of_ble_eq_true rfl) rfl (holds_n h8 hTr.1.1 hnoh) ?_
          refine r_if_ne_n (pc := 20) (a := 0) (tgt := 26) dX9_gain_20 (by decide) (by omega) (fun c20 => ?_) (fun c20 => ?_)
          · exfalso; omega
          · skip
            refine r_ldc (pc := 23) (v := -100000000) dX9_gain_23 (kc_RX9_174 rfl) ?_
            refine r_ret_i (pc := 25) dX9_gain_25 rfl ?_
            exact ⟨_, rfl, I, G, rfl, (by unfold aGain; rw [atN_s et, if_neg hmm, atN_n eh] <;> rfl), hC, hFr.m, hGk.gk⟩
  · skip
    refine r_aload_n (pc := 0) dX9_gain_0 rfl ?_
    refine r_iload_n (pc := 1) dX9_gain_1 rfl ?_
    refine r_callV_R (pc := 2) (b := 0) (As := [.int t]) 9 98 dX9_gain_2 lk_X9_find (ml_RX9_98 rfl) im_X9_find se_X9_find (by decide) (c9_o h9) (Nat.le_of_ble_eq_true rfl) rfl (find_no hC.1.1 (by rw [hC.2.1.1]; exact hnot)) ?_
    refine r_astore_nN (pc := 5) (L' := [some (.ref 0), some (.int t), some (.int h), some (.null)]) dX9_gain_5 (by decide) rfl rfl ?_
    refine r_aload_nN (pc := 6) dX9_gain_6 rfl ?_
    refine r_ifnullN (pc := 7) (tgt := 23) dX9_gain_7 (by decide) ?_
    refine r_ldc (pc := 23) (v := -100000000) dX9_gain_23 (kc_RX9_174 rfl) ?_
    refine r_ret_i (pc := 25) dX9_gain_25 rfl ?_
    exact ⟨_, rfl, I, G, rfl, (by unfold aGain; rw [atN_n et] <;> rfl), hC, hFr.m, hGk.gk⟩

theorem htc_of {I : Im} {t : Nat} {x : Td} (hok : TdOK x) (h : TrI I t x) (τ : Tm) : HtC I t (eT (tdD x) τ) (tdP x) (tdA x) := ⟨trc_of hok.1 h.1 τ, fun y hy => (h.1.2.2.1 y hy).1, fun y => Nat.le_trans (hok.1.2.1 y) (by omega), h.2.2.1, h.2.2.2.1, hok.2.2.1, hok.2.2.2⟩

set_option maxRecDepth 100000 in
theorem given_c {d : Nat} {I : Im} {G : Gm} {s : Sta} (hC : Ci s I G) {t : Int32} {h : Int32} : Ct (d + 4) 0 0 YX9_given [.ref 0, .int t, .int h] (I, G) (qX (PcQ s I G (aGiven s t h))) := by
  refine Ct.of (by decide) (by simp [Value.category]) (Nat.le_of_ble_eq_true rfl) ?_
  have h9 := hC.1.1
  have hcn10 := hC.2.1.2.1
  have hFr : FrC I I := FrC.rf
  have hGk : Geq G G := Geq.rf
  show wp _ _ _ _ 0 [some (.ref 0), some (.int t), some (.int h), none] [] _ _
  rcases in_cases (n := sN s) (by have := hcn10; omega) t with ⟨k, hk, rfl, et⟩ | ⟨et, hnot⟩
  · skip
    have h8 := hC.1.2.1 k (by omega)
    obtain ⟨hok, hTr⟩ := hC.ok hk
    have hn8 : dN (dK s k) ≤ 8 := hok.1.1.2
    have hoff := tA_off k
    have hE := src_of hok.1 (tdT (sD s k))
    have hW := wbc_of hok.1 (tdT (sD s k))
    have hc60 : ∀ b, dC (dK s k) b ≤ 60 := fun b => Nat.le_trans (hok.1.2.1 b) (by omega)
    have htc := trc_of hok.1 hTr.1 (tdT (sD s k))
    rcases in_cases (n := dN (dK s k)) (by have := hn8; omega) h with ⟨hn, hhn, rfl, eh⟩ | ⟨eh, hnoh⟩
    · skip
      refine r_aload_n (pc := 0) dX9_given_0 rfl ?_
      refine r_iload_n (pc := 1) dX9_given_1 rfl ?_
      refine r_callV_R (pc := 2) (b := 0) (As := [.int (nI k)]) 9 98 dX9_given_2 lk_X9_find (ml_RX9_98 rfl) im_X9_find se_X9_find (by decide) (c9_o h9) (Nat.le_of_ble_eq_true rfl) rfl (find_ct hC.1.1 hC.2.1.1 hcn10 hk (hC.1.2.2.1 k hk)) ?_
      refine r_astore_n (pc := 5) (L' := [some (.ref 0), some (.int (nI k)), some (.int (nI hn)), some (.ref (tA k))]) dX9_given_5 (by decide) rfl rfl ?_
      refine r_aload_n (pc := 6) dX9_given_6 rfl ?_
      refine r_ifnullR (pc := 7) dX9_given_7 ?_
      refine r_aload_n (pc := 10) dX9_given_10 rfl ?_
      refine r_iload_n (pc := 11) dX9_given_11 rfl ?_
      refine r_callV_P (pc := 12) (b := tA k) (As := [.int (nI hn)]) 8 102 dX9_given_12 lk_X8_holds (ml_RX9_102 rfl) im_X8_holds se_X8_holds (by decide) (c8_o h8) (Nat.le_of_ble_eq_true rfl) rfl (holds_y h8 hTr.1.1 hn8 hhn) ?_
      refine r_if_ne_n (pc := 15) (a := 1) (tgt := 21) dX9_given_15 (by decide) (by omega) (fun c15 => ?_) (fun c15 => ?_)
      · skip
        refine r_aload_n (pc := 21) dX9_given_21 rfl ?_
        refine r_get1 (pc := 22) 9 7 51 dX9_given_22 (fl_RX9_51 rfl) (by decide) rfl (c9_o h9) (c9_p7 h9) ?_
        refine r_aload_n (pc := 25) dX9_given_25 rfl ?_
        refine r_callV_V (pc := 26) (b := 111) (As := [.ref (tA k)]) 2 213 dX9_given_26 lk_X2_follow (ml_RX9_213 rfl) im_X2_follow se_X2_follow (by decide) (c2_o (c9_s7 h9)) (Nat.le_of_ble_eq_true rfl) rfl (follow_ct (c9_s7 h9) h8 (by omega) (htc_of hok hTr (0, 41, false, false))) (fun Ia hIa => ?_)
        obtain ⟨hva, hfa⟩ := hIa
        have hC : Ci s Ia G := hC.kq (fun a j z => hfa a j (by omega))
        have hFr : FrC I Ia := hFr.tr (fun a j z => hfa a j (by omega))
        have hTr := (hC.ok hk).2
        have h9 := hC.1.1
        have h8 := hC.1.2.1 k (by omega)
        have htc := trc_of hok.1 hTr.1 (tdT (sD s k))
        refine r_aload_n (pc := 29) dX9_given_29 rfl ?_
        refine r_get1 (pc := 30) 9 7 51 dX9_given_30 (fl_RX9_51 rfl) (by decide) rfl (c9_o h9) (c9_p7 h9) ?_
        refine r_aload_n (pc := 33) dX9_given_33 rfl ?_
        refine r_iload_n (pc := 34) dX9_given_34 rfl ?_
        refine r_callV_P (pc := 35) (b := 111) (As := [.ref (tA k), .int (nI hn)]) 2 217 dX9_given_35 lk_X2_earnedBy (ml_RX9_217 rfl) im_X2_earnedBy se_X2_earnedBy (by decide) (c2_o (c9_s7 h9)) (Nat.le_of_ble_eq_true rfl) rfl (earnedByT_ct (c9_s7 h9) h8 (by omega) (htc_of hok hTr (0, 41, false, false)) hva hhn) ?_
        refine r_ret_i (pc := 38) dX9_given_38 rfl ?_
        exact ⟨_, rfl, Ia, G, rfl, (by unfold aGiven; rw [atN_s et, atN_s eh]), hC, hFr.m, hGk.gk⟩
      · exfalso; omega
    · skip
      refine r_aload_n (pc := 0) dX9_given_0 rfl ?_
      refine r_iload_n (pc := 1) dX9_given_1 rfl ?_
      refine r_callV_R (pc := 2) (b := 0) (As := [.int (nI k)]) 9 98 dX9_given_2 lk_X9_find (ml_RX9_98 rfl) im_X9_find se_X9_find (by decide) (c9_o h9) (Nat.le_of_ble_eq_true rfl) rfl (find_ct hC.1.1 hC.2.1.1 hcn10 hk (hC.1.2.2.1 k hk)) ?_
      refine r_astore_n (pc := 5) (L' := [some (.ref 0), some (.int (nI k)), some (.int h), some (.ref (tA k))]) dX9_given_5 (by decide) rfl rfl ?_
      refine r_aload_n (pc := 6) dX9_given_6 rfl ?_
      refine r_ifnullR (pc := 7) dX9_given_7 ?_
      refine r_aload_n (pc := 10) dX9_given_10 rfl ?_
      refine r_iload_n (pc := 11) dX9_given_11 rfl ?_
      refine r_callV_P (pc := 12) (b := tA k) (As := [.int h]) 8 102 dX9_given_12 lk_X8_holds (ml_RX9_102 rfl) im_X8_holds se_X8_holds (by decide) (c8_o h8) (Nat.le_of_ble_eq_true rfl) rfl (holds_n h8 hTr.1.1 hnoh) ?_
      refine r_if_ne_n (pc := 15) (a := 0) (tgt := 21) dX9_given_15 (by decide) (by omega) (fun c15 => ?_) (fun c15 => ?_)
      · exfalso; omega
      · skip
        refine r_ldc (pc := 18) (v := -100000000) dX9_given_18 (kc_RX9_174 rfl) ?_
        refine r_ret_i (pc := 20) dX9_given_20 rfl ?_
        exact ⟨_, rfl, I, G, rfl, (by unfold aGiven; rw [atN_s et, atN_n eh] <;> rfl), hC, hFr.m, hGk.gk⟩
  · skip
    refine r_aload_n (pc := 0) dX9_given_0 rfl ?_
    refine r_iload_n (pc := 1) dX9_given_1 rfl ?_
    refine r_callV_R (pc := 2) (b := 0) (As := [.int t]) 9 98 dX9_given_2 lk_X9_find (ml_RX9_98 rfl) im_X9_find se_X9_find (by decide) (c9_o h9) (Nat.le_of_ble_eq_true rfl) rfl (find_no hC.1.1 (by rw [hC.2.1.1]; exact hnot)) ?_
    refine r_astore_nN (pc := 5) (L' := [some (.ref 0), some (.int t), some (.int h), some (.null)]) dX9_given_5 (by decide) rfl rfl ?_
    refine r_aload_nN (pc := 6) dX9_given_6 rfl ?_
    refine r_ifnullN (pc := 7) (tgt := 18) dX9_given_7 (by decide) ?_
    refine r_ldc (pc := 18) (v := -100000000) dX9_given_18 (kc_RX9_174 rfl) ?_
    refine r_ret_i (pc := 20) dX9_given_20 rfl ?_
    exact ⟨_, rfl, I, G, rfl, (by unfold aGiven; rw [atN_n et] <;> rfl), hC, hFr.m, hGk.gk⟩

set_option maxRecDepth 100000 in
theorem doers_c {d : Nat} {I : Im} {G : Gm} {s : Sta} (hC : Ci s I G) {t : Int32} : Ct (d + 7) 0 0 YX9_doers [.ref 0, .int t] (I, G) (qX (PcQ s I G (aDoers s t))) := by
  refine Ct.of (by decide) (by simp [Value.category]) (Nat.le_of_ble_eq_true rfl) ?_
  have h9 := hC.1.1
  have hcn10 := hC.2.1.2.1
  have hFr : FrC I I := FrC.rf
  have hGk : Geq G G := Geq.rf
  show wp _ _ _ _ 0 [some (.ref 0), some (.int t), none] [] _ _
  rcases in_cases (n := sN s) (by have := hcn10; omega) t with ⟨k, hk, rfl, et⟩ | ⟨et, hnot⟩
  · skip
    have h8 := hC.1.2.1 k (by omega)
    obtain ⟨hok, hTr⟩ := hC.ok hk
    have hn8 : dN (dK s k) ≤ 8 := hok.1.1.2
    have hoff := tA_off k
    have hE := src_of hok.1 (tdT (sD s k))
    have hW := wbc_of hok.1 (tdT (sD s k))
    have hc60 : ∀ b, dC (dK s k) b ≤ 60 := fun b => Nat.le_trans (hok.1.2.1 b) (by omega)
    have htc := trc_of hok.1 hTr.1 (tdT (sD s k))
    refine r_aload_n (pc := 0) dX9_doers_0 rfl ?_
    refine r_iload_n (pc := 1) dX9_doers_1 rfl ?_
    refine r_callV_R (pc := 2) (b := 0) (As := [.int (nI k)]) 9 98 dX9_doers_2 lk_X9_find (ml_RX9_98 rfl) im_X9_find se_X9_find (by decide) (c9_o h9) (Nat.le_of_ble_eq_true rfl) rfl (find_ct hC.1.1 hC.2.1.1 hcn10 hk (hC.1.2.2.1 k hk)) ?_
    refine r_astore_n (pc := 5) (L' := [some (.ref 0), some (.int (nI k)), some (.ref (tA k))]) dX9_doers_5 (by decide) rfl rfl ?_
    refine r_aload_n (pc := 6) dX9_doers_6 rfl ?_
    refine r_ifnonnullR (pc := 7) (tgt := 12) dX9_doers_7 (by decide) ?_
    refine r_aload_n (pc := 12) dX9_doers_12 rfl ?_
    refine r_get1 (pc := 13) 9 7 51 dX9_doers_13 (fl_RX9_51 rfl) (by decide) rfl (c9_o h9) (c9_p7 h9) ?_
    refine r_aload_n (pc := 16) dX9_doers_16 rfl ?_
    refine r_callV_V (pc := 17) (b := 111) (As := [.ref (tA k)]) 2 213 dX9_doers_17 lk_X2_follow (ml_RX9_213 rfl) im_X2_follow se_X2_follow (by decide) (c2_o (c9_s7 h9)) (Nat.le_of_ble_eq_true rfl) rfl (follow_ct (c9_s7 h9) h8 (by omega) (htc_of hok hTr (0, 41, false, false))) (fun Ia hIa => ?_)
    obtain ⟨hva, hfa⟩ := hIa
    have hC : Ci s Ia G := hC.kq (fun a j z => hfa a j (by omega))
    have hFr : FrC I Ia := hFr.tr (fun a j z => hfa a j (by omega))
    have hTr := (hC.ok hk).2
    have h9 := hC.1.1
    have h8 := hC.1.2.1 k (by omega)
    have htc := trc_of hok.1 hTr.1 (tdT (sD s k))
    refine r_aload_n (pc := 20) dX9_doers_20 rfl ?_
    refine r_aload_n (pc := 21) dX9_doers_21 rfl ?_
    refine r_callV_U (pc := 22) (b := 0) (As := [.ref (tA k)]) 9 221 dX9_doers_22 lk_X9_settleFree (ml_RX9_221 rfl) im_X9_settleFree se_X9_settleFree (by decide) (c9_o h9) (Nat.le_of_ble_eq_true rfl) rfl (settleFree_ct hC hk) (fun M1 h1 => ?_)
    obtain ⟨I1, G1, rfl, hC, hg1, hV1, hf1⟩ := h1
    have hO1 : OcE I1 67 (eT (dK s k) (0, 41, false, false)) := oce_of (src_of hok.1 _) (wbc_of hok.1 _) hc60 hV1
    have hFr : FrC I I1 := hFr.tr (fun a j z => hf1 a j (by omega) (by omega))
    have hGk : Geq G G1 := hGk.tr hg1
    have hTr := (hC.ok hk).2
    have h9 := hC.1.1
    have h8 := hC.1.2.1 k (by omega)
    have htc := trc_of hok.1 hTr.1 (tdT (sD s k))
    refine r_aload_n (pc := 25) dX9_doers_25 rfl ?_
    refine r_get1 (pc := 26) 9 7 51 dX9_doers_26 (fl_RX9_51 rfl) (by decide) rfl (c9_o h9) (c9_p7 h9) ?_
    refine r_aload_n (pc := 29) dX9_doers_29 rfl ?_
    refine r_aload_n (pc := 30) dX9_doers_30 rfl ?_
    refine r_get1 (pc := 31) 9 6 45 dX9_doers_31 (fl_RX9_45 rfl) (by decide) rfl (c9_o h9) (c9_p6 h9) ?_
    refine r_callV_P (pc := 34) (b := 111) (As := [.ref (tA k), .ref 67]) 2 224 dX9_doers_34 lk_X2_wouldDiffer (ml_RX9_224 rfl) im_X2_wouldDiffer se_X2_wouldDiffer (by decide) (c2_o (c9_s7 h9)) (Nat.le_of_ble_eq_true rfl) rfl (wouldDiffer_ct (c9_s7 h9) h8 (by omega) (htc_of hok hTr (0, 41, false, false)) (fun x hx => (hf1 _ _ (by omega) (by omega)).trans (hva x hx)) (c9_s6 h9) hV1 (wbc_of hok.1 _).2.2.1) ?_
    refine r_ret_i (pc := 37) dX9_doers_37 rfl ?_
    exact ⟨_, rfl, I1, G1, rfl, (by unfold aDoers; rw [atN_s et]; exact orF_congr _ (fun x _ => we_same (src_of hok.1 _) (wbc_of hok.1 _) hc60 x)), hC, hFr.m, hGk.gk⟩
  · skip
    refine r_aload_n (pc := 0) dX9_doers_0 rfl ?_
    refine r_iload_n (pc := 1) dX9_doers_1 rfl ?_
    refine r_callV_R (pc := 2) (b := 0) (As := [.int t]) 9 98 dX9_doers_2 lk_X9_find (ml_RX9_98 rfl) im_X9_find se_X9_find (by decide) (c9_o h9) (Nat.le_of_ble_eq_true rfl) rfl (find_no hC.1.1 (by rw [hC.2.1.1]; exact hnot)) ?_
    refine r_astore_nN (pc := 5) (L' := [some (.ref 0), some (.int t), some (.null)]) dX9_doers_5 (by decide) rfl rfl ?_
    refine r_aload_nN (pc := 6) dX9_doers_6 rfl ?_
    refine r_ifnonnullN (pc := 7) dX9_doers_7 ?_
    refine r_iconst (pc := 10) (v := -1) dX9_doers_10 (by decide) ?_
    refine r_ret_i (pc := 11) dX9_doers_11 rfl ?_
    exact ⟨_, rfl, I, G, rfl, (by unfold aDoers; rw [atN_n et] <;> rfl), hC, hFr.m, hGk.gk⟩

theorem fee_eq {I : Im} {D : Dr} {cap : Nat} (hD : DrOK D) (P : Nat → Bool) (hO : OcE I 67 (eT D (allJ D, 41, false, false))) : sm (fun h => if P h = true then I (67 + 43) h - nI (dE D h) else 0) (dN D) = feS D P := by
  unfold feS
  apply sm_congr
  intro h hh
  by_cases c : P h = true
  · have hE := src_of hD (allJ D, 41, false, false)
    have hJ : ∀ b, b < eN (eT D (allJ D, 41, false, false)) → jn (eJ (eT D (allJ D, 41, false, false))) (nI b) := fun b hb => jn_all hD.1.2 hb
    have hh' : h < eN (eT D (allJ D, 41, false, false)) := hh
    have e : I (67 + 43) h = (if shP D h then fyF (e0 D) h else 0) := (hO h hh').2.2.2.2.trans (er_all hE hJ hh')
    rw [if_pos c, if_pos c, e]
  · rw [if_neg c, if_neg c]
theorem fee_all {I : Im} {D : Dr} {cap : Nat} (hD : DrOK D) (hO : OcE I 67 (eT D (allJ D, 41, false, false))) : sm (fun h => I (67 + 43) h - nI (dE D h)) (dN D) = feS D (fun _ => true) := by
  rw [← fee_eq (cap := cap) hD (fun _ => true) hO]
  exact sm_congr _ (fun h _ => (if_pos rfl).symm)

set_option maxRecDepth 100000 in
theorem fee_c {d : Nat} {I : Im} {G : Gm} {s : Sta} (hC : Ci s I G) {t : Int32} {h : Int32} {w : Int32} : Ct (d + 7) 0 0 YX9_fee [.ref 0, .int t, .int h, .int w] (I, G) (qX (PcQ s I G (aFee s t h w))) := by
  refine Ct.of (by decide) (by simp [Value.category]) (Nat.le_of_ble_eq_true rfl) ?_
  have h9 := hC.1.1
  have hcn10 := hC.2.1.2.1
  have hFr : FrC I I := FrC.rf
  have hGk : Geq G G := Geq.rf
  show wp _ _ _ _ 0 [some (.ref 0), some (.int t), some (.int h), some (.int w), none] [] _ _
  rcases in_cases (n := sN s) (by have := hcn10; omega) t with ⟨k, hk, rfl, et⟩ | ⟨et, hnot⟩
  · skip
    have h8 := hC.1.2.1 k (by omega)
    obtain ⟨hok, hTr⟩ := hC.ok hk
    have hn8 : dN (dK s k) ≤ 8 := hok.1.1.2
    have hoff := tA_off k
    have hE := src_of hok.1 (tdT (sD s k))
    have hW := wbc_of hok.1 (tdT (sD s k))
    have hc60 : ∀ b, dC (dK s k) b ≤ 60 := fun b => Nat.le_trans (hok.1.2.1 b) (by omega)
    have htc := trc_of hok.1 hTr.1 (tdT (sD s k))
    rcases in_cases (n := dN (dK s k)) (by have := hn8; omega) h with ⟨hn, hhn, rfl, eh⟩ | ⟨eh, hnoh⟩
    · skip
      rcases in_cases (n := 2) (by omega) w with ⟨wn, hwn, rfl, ew⟩ | ⟨ew, hnow⟩
      · skip
        rcases (show wn = 0 ∨ wn = 1 by omega) with rfl | rfl
        · skip
          refine r_aload_n (pc := 0) dX9_fee_0 rfl ?_
          refine r_iload_n (pc := 1) dX9_fee_1 rfl ?_
          refine r_callV_R (pc := 2) (b := 0) (As := [.int (nI k)]) 9 98 dX9_fee_2 lk_X9_find (ml_RX9_98 rfl) im_X9_find se_X9_find (by decide) (c9_o h9) (Nat.le_of_ble_eq_true rfl) rfl (find_ct hC.1.1 hC.2.1.1 hcn10 hk (hC.1.2.2.1 k hk)) ?_
          refine r_astore (pc := 5) (L' := [some (.ref 0), some (.int (nI k)), some (.int (nI hn)), some (.int (nI 0)), some (.ref (tA k))]) dX9_fee_5 (by decide) rfl rfl ?_
          refine r_aload (pc := 7) dX9_fee_7 rfl ?_
          refine r_ifnullR (pc := 9) dX9_fee_9 ?_
          refine r_aload (pc := 12) dX9_fee_12 rfl ?_
          refine r_iload_n (pc := 14) dX9_fee_14 rfl ?_
          refine r_callV_P (pc := 15) (b := tA k) (As := [.int (nI hn)]) 8 102 dX9_fee_15 lk_X8_holds (ml_RX9_102 rfl) im_X8_holds se_X8_holds (by decide) (c8_o h8) (Nat.le_of_ble_eq_true rfl) rfl (holds_y h8 hTr.1.1 hn8 hhn) ?_
          refine r_if_eq_n (pc := 18) (a := 1) (tgt := 30) dX9_fee_18 (by decide) (by omega) (fun c18 => ?_) (fun c18 => ?_)
          · exfalso; omega
          · skip
            refine r_iload_n (pc := 21) dX9_fee_21 rfl ?_
            refine r_if_lt_n (pc := 22) (a := 0) (tgt := 30) dX9_fee_22 (by decide) (by omega) ?_
            refine r_iload_n (pc := 25) dX9_fee_25 rfl ?_
            refine r_iconst (pc := 26) (v := 1) dX9_fee_26 (by decide) ?_
            refine r_icmp_le_n (pc := 27) (a := 0) (b := 1) (tgt := 33) dX9_fee_27 (by decide) (by omega) (by omega) (fun c27 => ?_) (fun c27 => ?_)
            · skip
              refine r_aload_n (pc := 33) dX9_fee_33 rfl ?_
              refine r_aload (pc := 34) dX9_fee_34 rfl ?_
              refine r_bipush (pc := 36) (v := 41) dX9_fee_36 (by decide) ?_
              refine r_callV_U (pc := 38) (b := 0) (As := [.ref (tA k), .int (nI 41)]) 9 193 dX9_fee_38 lk_X9_settleTogether (ml_RX9_193 rfl) im_X9_settleTogether se_X9_settleTogether (by decide) (c9_o h9) (Nat.le_of_ble_eq_true rfl) rfl (settleTogether_ct (cap := 41) hC hk (by omega)) (fun M1 h1 => ?_)
              obtain ⟨I1, G1, rfl, hC, hg1, hV1, hf1⟩ := h1
              have hO1 : OcE I1 67 (eT (dK s k) (allJ (dK s k), 41, false, false)) := oce_of (src_of hok.1 _) (wbc_of hok.1 _) hc60 hV1
              have hFr : FrC I I1 := hFr.tr (fun a j z => hf1 a j (by omega) (by omega))
              have hGk : Geq G G1 := hGk.tr hg1
              have hTr := (hC.ok hk).2
              have h9 := hC.1.1
              have h8 := hC.1.2.1 k (by omega)
              have htc := trc_of hok.1 hTr.1 (tdT (sD s k))
              refine r_iload_n (pc := 41) dX9_fee_41 rfl ?_
              refine r_if_ne_n (pc := 42) (a := 0) (tgt := 60) dX9_fee_42 (by decide) (by omega) (fun c42 => ?_) (fun c42 => ?_)
              · exfalso; omega
              · skip
                refine r_aload_n (pc := 45) dX9_fee_45 rfl ?_
                refine r_get1 (pc := 46) 9 8 58 dX9_fee_46 (fl_RX9_58 rfl) (by decide) rfl (c9_o h9) (c9_p8 h9) ?_
                refine r_aload (pc := 49) dX9_fee_49 rfl ?_
                refine r_aload_n (pc := 51) dX9_fee_51 rfl ?_
                refine r_get1 (pc := 52) 9 6 45 dX9_fee_52 (fl_RX9_45 rfl) (by decide) rfl (c9_o h9) (c9_p6 h9) ?_
                refine r_iload_n (pc := 55) dX9_fee_55 rfl ?_
                refine r_callV_P (pc := 56) (b := 113) (As := [.ref (tA k), .ref 67, .int (nI hn)]) 3 228 dX9_fee_56 lk_X3_mostFee (ml_RX9_228 rfl) im_X3_mostFee se_X3_mostFee (by decide) (c3_o (c9_s8 h9)) (Nat.le_of_ble_eq_true rfl) rfl (mostFee_ct (el := dE (dK s k)) h8 htc (c9_s8 h9) (c9_s6 h9) (fun x hx => (hTr.1.2.2.1 x hx).2.2.1) (a := hn) (by omega)) ?_
                refine r_ret_i (pc := 59) dX9_fee_59 rfl ?_
                exact ⟨_, rfl, I1, G1, rfl, (by unfold aFee; rw [atN_s et, atN_s eh, atN_s ew]; exact fee_eq (cap := 0) hok.1 (fun x => anF (dS (dK s k)) x hn) hO1), hC, hFr.m, hGk.gk⟩
            · exfalso; omega
        · skip
          refine r_aload_n (pc := 0) dX9_fee_0 rfl ?_
          refine r_iload_n (pc := 1) dX9_fee_1 rfl ?_
          refine r_callV_R (pc := 2) (b := 0) (As := [.int (nI k)]) 9 98 dX9_fee_2 lk_X9_find (ml_RX9_98 rfl) im_X9_find se_X9_find (by decide) (c9_o h9) (Nat.le_of_ble_eq_true rfl) rfl (find_ct hC.1.1 hC.2.1.1 hcn10 hk (hC.1.2.2.1 k hk)) ?_
          refine r_astore (pc := 5) (L' := [some (.ref 0), some (.int (nI k)), some (.int (nI hn)), some (.int (nI 1)), some (.ref (tA k))]) dX9_fee_5 (by decide) rfl rfl ?_
          refine r_aload (pc := 7) dX9_fee_7 rfl ?_
          refine r_ifnullR (pc := 9) dX9_fee_9 ?_
          refine r_aload (pc := 12) dX9_fee_12 rfl ?_
          refine r_iload_n (pc := 14) dX9_fee_14 rfl ?_
          refine r_callV_P (pc := 15) (b := tA k) (As := [.int (nI hn)]) 8 102 dX9_fee_15 lk_X8_holds (ml_RX9_102 rfl) im_X8_holds se_X8_holds (by decide) (c8_o h8) (Nat.le_of_ble_eq_true rfl) rfl (holds_y h8 hTr.1.1 hn8 hhn) ?_
          refine r_if_eq_n (pc := 18) (a := 1) (tgt := 30) dX9_fee_18 (by decide) (by omega) (fun c18 => ?_) (fun c18 => ?_)
          · exfalso; omega
          · skip
            refine r_iload_n (pc := 21) dX9_fee_21 rfl ?_
            refine r_if_lt_n (pc := 22) (a := 1) (tgt := 30) dX9_fee_22 (by decide) (by omega) ?_
            refine r_iload_n (pc := 25) dX9_fee_25 rfl ?_
            refine r_iconst (pc := 26) (v := 1) dX9_fee_26 (by decide) ?_
            refine r_icmp_le_n (pc := 27) (a := 1) (b := 1) (tgt := 33) dX9_fee_27 (by decide) (by omega) (by omega) (fun c27 => ?_) (fun c27 => ?_)
            · skip
              refine r_aload_n (pc := 33) dX9_fee_33 rfl ?_
              refine r_aload (pc := 34) dX9_fee_34 rfl ?_
              refine r_bipush (pc := 36) (v := 41) dX9_fee_36 (by decide) ?_
              refine r_callV_U (pc := 38) (b := 0) (As := [.ref (tA k), .int (nI 41)]) 9 193 dX9_fee_38 lk_X9_settleTogether (ml_RX9_193 rfl) im_X9_settleTogether se_X9_settleTogether (by decide) (c9_o h9) (Nat.le_of_ble_eq_true rfl) rfl (settleTogether_ct (cap := 41) hC hk (by omega)) (fun M1 h1 => ?_)
              obtain ⟨I1, G1, rfl, hC, hg1, hV1, hf1⟩ := h1
              have hO1 : OcE I1 67 (eT (dK s k) (allJ (dK s k), 41, false, false)) := oce_of (src_of hok.1 _) (wbc_of hok.1 _) hc60 hV1
              have hFr : FrC I I1 := hFr.tr (fun a j z => hf1 a j (by omega) (by omega))
              have hGk : Geq G G1 := hGk.tr hg1
              have hTr := (hC.ok hk).2
              have h9 := hC.1.1
              have h8 := hC.1.2.1 k (by omega)
              have htc := trc_of hok.1 hTr.1 (tdT (sD s k))
              refine r_iload_n (pc := 41) dX9_fee_41 rfl ?_
              refine r_if_ne_n (pc := 42) (a := 1) (tgt := 60) dX9_fee_42 (by decide) (by omega) (fun c42 => ?_) (fun c42 => ?_)
              · skip
                refine r_aload_n (pc := 60) dX9_fee_60 rfl ?_
                refine r_get1 (pc := 61) 9 8 58 dX9_fee_61 (fl_RX9_58 rfl) (by decide) rfl (c9_o h9) (c9_p8 h9) ?_
                refine r_aload (pc := 64) dX9_fee_64 rfl ?_
                refine r_aload_n (pc := 66) dX9_fee_66 rfl ?_
                refine r_get1 (pc := 67) 9 6 45 dX9_fee_67 (fl_RX9_45 rfl) (by decide) rfl (c9_o h9) (c9_p6 h9) ?_
                refine r_callV_P (pc := 70) (b := 113) (As := [.ref (tA k), .ref 67]) 3 232 dX9_fee_70 lk_X3_heals (ml_RX9_232 rfl) im_X3_heals se_X3_heals (by decide) (c3_o (c9_s8 h9)) (Nat.le_of_ble_eq_true rfl) rfl (heals_ct (el := dE (dK s k)) h8 htc (c9_s8 h9) (c9_s6 h9) (fun x hx => (hTr.1.2.2.1 x hx).2.2.1)) ?_
                refine r_if_eq_b (pc := 73) (tgt := 80) dX9_fee_73 (by decide) (fun c73 => ?_) (fun c73 => ?_)
                · skip
                  refine r_iconst (pc := 80) (v := 0) dX9_fee_80 (by decide) ?_
                  refine r_ret_i (pc := 81) dX9_fee_81 rfl ?_
                  exact ⟨_, rfl, I1, G1, rfl, (by unfold aFee; rw [atN_s et, atN_s eh, atN_s ew]; have c74 : ¬ 0 ≤ sm (fun h => I1 (67 + 43) h - nI (dE (tdD (sD s k)) h)) (dN (tdD (sD s k))) := c73; rw [fee_all (cap := 0) hok.1 hO1] at c74; exact bz_f c74), hC, hFr.m, hGk.gk⟩
                · skip
                  refine r_iconst (pc := 76) (v := 1) dX9_fee_76 (by decide) ?_
                  refine r_goto (pc := 77) (tgt := 81) dX9_fee_77 (by decide) ?_
                  refine r_ret_i (pc := 81) dX9_fee_81 rfl ?_
                  exact ⟨_, rfl, I1, G1, rfl, (by unfold aFee; rw [atN_s et, atN_s eh, atN_s ew]; have c74 : 0 ≤ sm (fun h => I1 (67 + 43) h - nI (dE (tdD (sD s k)) h)) (dN (tdD (sD s k))) := c73; rw [fee_all (cap := 0) hok.1 hO1] at c74; exact bz_t c74), hC, hFr.m, hGk.gk⟩
              · exfalso; omega
            · exfalso; omega
      · skip
        refine r_aload_n (pc := 0) dX9_fee_0 rfl ?_
        refine r_iload_n (pc := 1) dX9_fee_1 rfl ?_
        refine r_callV_R (pc := 2) (b := 0) (As := [.int (nI k)]) 9 98 dX9_fee_2 lk_X9_find (ml_RX9_98 rfl) im_X9_find se_X9_find (by decide) (c9_o h9) (Nat.le_of_ble_eq_true rfl) rfl (find_ct hC.1.1 hC.2.1.1 hcn10 hk (hC.1.2.2.1 k hk)) ?_
        refine r_astore (pc := 5) (L' := [some (.ref 0), some (.int (nI k)), some (.int (nI hn)), some (.int w), some (.ref (tA k))]) dX9_fee_5 (by decide) rfl rfl ?_
        refine r_aload (pc := 7) dX9_fee_7 rfl ?_
        refine r_ifnullR (pc := 9) dX9_fee_9 ?_
        refine r_aload (pc := 12) dX9_fee_12 rfl ?_
        refine r_iload_n (pc := 14) dX9_fee_14 rfl ?_
        refine r_callV_P (pc := 15) (b := tA k) (As := [.int (nI hn)]) 8 102 dX9_fee_15 lk_X8_holds (ml_RX9_102 rfl) im_X8_holds se_X8_holds (by decide) (c8_o h8) (Nat.le_of_ble_eq_true rfl) rfl (holds_y h8 hTr.1.1 hn8 hhn) ?_
        refine r_if_eq_n (pc := 18) (a := 1) (tgt := 30) dX9_fee_18 (by decide) (by omega) (fun c18 => ?_) (fun c18 => ?_)
        · exfalso; omega
        · skip
          refine r_iload_n (pc := 21) dX9_fee_21 rfl ?_
          refine r_if_lt (pc := 22) (x := w) (tgt := 30) dX9_fee_22 (by decide) (fun c22 => ?_) (fun c22 => ?_)
          · skip
            refine r_ldc (pc := 30) (v := -100000000) dX9_fee_30 (kc_RX9_174 rfl) ?_
            refine r_ret_i (pc := 32) dX9_fee_32 rfl ?_
            exact ⟨_, rfl, I, G, rfl, (by unfold aFee; rw [atN_s et, atN_s eh, atN_n ew] <;> rfl), hC, hFr.m, hGk.gk⟩
          · skip
            refine r_iload_n (pc := 25) dX9_fee_25 rfl ?_
            refine r_iconst (pc := 26) (v := 1) dX9_fee_26 (by decide) ?_
            refine r_icmp_le (pc := 27) (x := w) (z := 1) (tgt := 33) dX9_fee_27 (by decide) (fun c27 => ?_) (fun c27 => ?_)
            · exfalso; exact rg_no (n := 1) (by omega) hnow c22 c27
            · skip
              refine r_ldc (pc := 30) (v := -100000000) dX9_fee_30 (kc_RX9_174 rfl) ?_
              refine r_ret_i (pc := 32) dX9_fee_32 rfl ?_
              exact ⟨_, rfl, I, G, rfl, (by unfold aFee; rw [atN_s et, atN_s eh, atN_n ew] <;> rfl), hC, hFr.m, hGk.gk⟩
    · skip
      refine r_aload_n (pc := 0) dX9_fee_0 rfl ?_
      refine r_iload_n (pc := 1) dX9_fee_1 rfl ?_
      refine r_callV_R (pc := 2) (b := 0) (As := [.int (nI k)]) 9 98 dX9_fee_2 lk_X9_find (ml_RX9_98 rfl) im_X9_find se_X9_find (by decide) (c9_o h9) (Nat.le_of_ble_eq_true rfl) rfl (find_ct hC.1.1 hC.2.1.1 hcn10 hk (hC.1.2.2.1 k hk)) ?_
      refine r_astore (pc := 5) (L' := [some (.ref 0), some (.int (nI k)), some (.int h), some (.int w), some (.ref (tA k))]) dX9_fee_5 (by decide) rfl rfl ?_
      refine r_aload (pc := 7) dX9_fee_7 rfl ?_
      refine r_ifnullR (pc := 9) dX9_fee_9 ?_
      refine r_aload (pc := 12) dX9_fee_12 rfl ?_
      refine r_iload_n (pc := 14) dX9_fee_14 rfl ?_
      refine r_callV_P (pc := 15) (b := tA k) (As := [.int h]) 8 102 dX9_fee_15 lk_X8_holds (ml_RX9_102 rfl) im_X8_holds se_X8_holds (by decide) (c8_o h8) (Nat.le_of_ble_eq_true rfl) rfl (holds_n h8 hTr.1.1 hnoh) ?_
      refine r_if_eq_n (pc := 18) (a := 0) (tgt := 30) dX9_fee_18 (by decide) (by omega) (fun c18 => ?_) (fun c18 => ?_)
      · skip
        refine r_ldc (pc := 30) (v := -100000000) dX9_fee_30 (kc_RX9_174 rfl) ?_
        refine r_ret_i (pc := 32) dX9_fee_32 rfl ?_
        exact ⟨_, rfl, I, G, rfl, (by unfold aFee; rw [atN_s et, atN_n eh] <;> rfl), hC, hFr.m, hGk.gk⟩
      · exfalso; omega
  · skip
    refine r_aload_n (pc := 0) dX9_fee_0 rfl ?_
    refine r_iload_n (pc := 1) dX9_fee_1 rfl ?_
    refine r_callV_R (pc := 2) (b := 0) (As := [.int t]) 9 98 dX9_fee_2 lk_X9_find (ml_RX9_98 rfl) im_X9_find se_X9_find (by decide) (c9_o h9) (Nat.le_of_ble_eq_true rfl) rfl (find_no hC.1.1 (by rw [hC.2.1.1]; exact hnot)) ?_
    refine r_astoreN (pc := 5) (L' := [some (.ref 0), some (.int t), some (.int h), some (.int w), some (.null)]) dX9_fee_5 (by decide) rfl rfl ?_
    refine r_aloadN (pc := 7) dX9_fee_7 rfl ?_
    refine r_ifnullN (pc := 9) (tgt := 30) dX9_fee_9 (by decide) ?_
    refine r_ldc (pc := 30) (v := -100000000) dX9_fee_30 (kc_RX9_174 rfl) ?_
    refine r_ret_i (pc := 32) dX9_fee_32 rfl ?_
    exact ⟨_, rfl, I, G, rfl, (by unfold aFee; rw [atN_n et] <;> rfl), hC, hFr.m, hGk.gk⟩
