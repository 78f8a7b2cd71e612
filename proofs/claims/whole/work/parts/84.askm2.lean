/-! ===== the reference: more questions ===== -/
theorem mtc_dear {I I2 : Im} {m k h v : Nat} {E : Ec} {T : Lt} (hk : MtC I m k E T) (hE : ∀ b, eC E b ≤ 30) (hv : v ≤ 30) (hh : h < 8) (h1 : I2 (m + 3) (8 * k + h) = nI (eC E h + v)) (hf : ∀ a x, m + 2 ≤ a → a < m + 10 → ¬ (a = m + 3 ∧ x = 8 * k + h) → I2 a x = I a x) : MtC I2 m k (eDear E h v) T := by
  obtain ⟨g1, g2, g3, g4, g5, g6, g7, g8, g9, g10⟩ := hk
  refine ⟨(hf _ _ (by omega) (by omega) (by omega)).trans g1, g2, fun b hb => (hf _ _ (by omega) (by omega) (by omega)).trans (g3 b hb), g4, fun b hb => ?_, fun b => ?_, (hf _ _ (by omega) (by omega) (by omega)).trans g7, g8, fun i hi => ⟨(hf _ _ (by omega) (by omega) (by omega)).trans (g9 i hi).1, (hf _ _ (by omega) (by omega) (by omega)).trans (g9 i hi).2.1, (hf _ _ (by omega) (by omega) (by omega)).trans (g9 i hi).2.2.1, (g9 i hi).2.2.2⟩, g10⟩
  · show _ = nI (eC E b + (if nI b = nI h then v else 0))
    by_cases e : b = h
    · rw [e, if_pos rfl, h1]
    · rw [if_neg (fun z => e ((nI_eq (by omega) (by omega)).mp z)), hf _ _ (by omega) (by omega) (by omega)]
      exact g5 b hb
  · show eC E b + (if nI b = nI h then v else 0) ≤ 60
    have := hE b
    split <;> omega

set_option maxHeartbeats 300000 in
set_option maxRecDepth 100000 in
theorem passed_m {d : Nat} {I : Im} {G : Gm} {s : Sta} {m : Nat} (hm : isC10 G m) (hM : Mi s I m) {t : Int32} {h : Int32} {v : Int32} {o : Int32} : Ct (d + 45) 0 0 YX10_passed [.ref m, .int t, .int h, .int v, .int o] (I, G) (qM G (fun zv I2 => PmQ s I m (aPassed s t h v o) zv I2)) := by
  refine Ct.of (by decide) (by simp [Value.category]) (Nat.le_of_ble_eq_true rfl) ?_
  have hcn := hM.2.1
  have hcn10 := hM.2.2.1
  have hZ : FrZ I I m := FrZ.rf
  show wp _ _ _ _ 0 [some (.ref m), some (.int t), some (.int h), some (.int v), some (.int o), none, none] [] _ _
  rcases in_cases (n := sN s) (by have := hcn10; omega) t with ⟨k, hk, rfl, et⟩ | ⟨et, hnot⟩
  · skip
    obtain ⟨hok, hMd⟩ := hM.2.2.2.1 k hk
    have hk0 : MtC I m k (eK' s k) (dT (dK s k)) := mtc_of hok.1 hMd.1 _
    have hn8 : dN (dK s k) ≤ 8 := hok.1.1.2
    have hE : SrC (eK' s k) := src_of hok.1 _
    have hW : WbC (eK' s k) := wbc_of hok.1 _
    have hc30 : ∀ b, dC (dK s k) b ≤ 30 := hok.1.2.1
    rcases in_cases (n := dN (dK s k)) (by have := hn8; omega) h with ⟨hn, hhn, rfl, eh⟩ | ⟨eh, hnoh⟩
    · skip
      rcases in_cases (n := dN (dK s k)) (by have := hn8; omega) o with ⟨on, hon, rfl, eo⟩ | ⟨eo, hnoo⟩
      · skip
        by_cases hso : shP (dK s k) on
        · skip
          rcases in_cases (n := 31) (by omega) v with ⟨vn, hvn, rfl, ev⟩ | ⟨ev, hnov⟩
          · skip
            refine r_aload_n (pc := 0) dX10_passed_0 rfl ?_
            refine r_iconst (pc := 1) (v := 0) dX10_passed_1 (by decide) ?_
            refine r_putI (pc := 2) (v := nI 0) 10 0 84 dX10_passed_2 (fl_RX10_84 rfl) (by decide) rfl rfl (c10_o hm) ?_
            obtain ⟨Ia, hIa⟩ : ∃ zz0 : Im, zz0 = up2 I m 0 (nI 0) := ⟨_, rfl⟩
            refine wp_M (M2 := (Ia, G)) (by subst hIa; rfl) ?_
            have hZ : FrZ I Ia m := by rw [hIa]; exact FrZ.rf.u (by omega)
            refine r_aload_n (pc := 5) dX10_passed_5 rfl ?_
            refine r_iload_n (pc := 6) dX10_passed_6 rfl ?_
            refine r_iload_n (pc := 7) dX10_passed_7 rfl ?_
            refine r_callV_P (pc := 8) (b := m) (As := [.int (nI k), .int (nI hn)]) 10 154 dX10_passed_8 lk_X10_isHouse (ml_RX10_154 rfl) im_X10_isHouse se_X10_isHouse (by decide) (c10_o hm) (Nat.le_of_ble_eq_true rfl) rfl (isHouse_ct hm (hZ.mt hk0) (by omega) (hZ.c hcn) hcn10 hk hhn) ?_
            refine r_if_eq_n (pc := 11) (a := 1) (tgt := 34) dX10_passed_11 (by decide) (by omega) (fun c11 => ?_) (fun c11 => ?_)
            · exfalso; omega
            · skip
              refine r_iload_n (pc := 14) dX10_passed_14 rfl ?_
              refine r_iconst (pc := 15) (v := 0) dX10_passed_15 (by decide) ?_
              refine r_bipush (pc := 16) (v := 30) dX10_passed_16 (by decide) ?_
              refine r_callS_P (pc := 18) (As := [.int (nI vn), .int (nI 0), .int (nI 30)]) 123 dX10_passed_18 lk_X10_isIn (ml_RX10_123 rfl) sm_X10_isIn (Nat.le_of_ble_eq_true rfl) rfl (isIn_y (n := 30) (by omega) hvn) ?_
              refine r_if_eq_n (pc := 21) (a := 1) (tgt := 34) dX10_passed_21 (by decide) (by omega) (fun c21 => ?_) (fun c21 => ?_)
              · exfalso; omega
              · skip
                refine r_aload_n (pc := 24) dX10_passed_24 rfl ?_
                refine r_iload_n (pc := 25) dX10_passed_25 rfl ?_
                refine r_iload (pc := 26) dX10_passed_26 rfl ?_
                refine r_callV_P (pc := 28) (b := m) (As := [.int (nI k), .int (nI on)]) 10 165 dX10_passed_28 lk_X10_isShop (ml_RX10_165 rfl) im_X10_isShop se_X10_isShop (by decide) (c10_o hm) (Nat.le_of_ble_eq_true rfl) rfl (isShopM_y hm (hZ.mt hk0) (hZ.c hcn) hcn10 hk hon hso) ?_
                refine r_if_ne_n (pc := 31) (a := 1) (tgt := 37) dX10_passed_31 (by decide) (by omega) (fun c31 => ?_) (fun c31 => ?_)
                · skip
                  refine r_aload_n (pc := 37) dX10_passed_37 rfl ?_
                  refine r_iload_n (pc := 38) dX10_passed_38 rfl ?_
                  refine r_callV_V (pc := 39) (b := m) (As := [.int (nI k)]) 10 223 dX10_passed_39 lk_X10_termsOf (ml_RX10_223 rfl) im_X10_termsOf se_X10_termsOf (by decide) (c10_o hm) (Nat.le_of_ble_eq_true rfl) rfl (termsOf_e (E := (eK' s k)) hm (hZ.mt hk0) (hZ.c hcn) hcn10 hk (hZ.tm hMd.2.1)) (fun I1 h1 => ?_)
                  obtain ⟨hS1, hF1⟩ := h1
                  have hZ : FrZ I I1 m := hZ.tr hF1.z
                  have hcnZ : I1 m 20 = nI (sN s) := hS1.2.2.1
                  refine r_aload_n (pc := 42) dX10_passed_42 rfl ?_
                  refine r_callV_V (pc := 43) (b := m) (As := []) 10 227 dX10_passed_43 lk_X10_layOutcome (ml_RX10_227 rfl) im_X10_layOutcome se_X10_layOutcome (by decide) (c10_o hm) (Nat.le_of_ble_eq_true rfl) rfl (layOutcome_ct (d := d + 0) hm hS1 hc30 (by omega) (bdm hE hW) hW) (fun I2 h2 => ?_)
                  obtain ⟨hK2, hF2, hO2⟩ := h2
                  have hS2 := hS1.keepO hF2 hK2
                  have hZ : FrZ I I2 m := hZ.tr hF2.w.z
                  refine r_aload_n (pc := 46) dX10_passed_46 rfl ?_
                  refine r_iload (pc := 47) dX10_passed_47 rfl ?_
                  refine r_aload_n (pc := 49) dX10_passed_49 rfl ?_
                  refine r_get1 (pc := 50) 10 30 69 dX10_passed_50 (fl_RX10_69 rfl) (by decide) rfl (c10_o hm) (c10_p30 hm) ?_
                  refine r_iload (pc := 53) dX10_passed_53 rfl ?_
                  refine r_iald_n (pc := 55) (i := on) dX10_passed_55 (c10_a30 hm) (by decide) (by omega) (v := nI (spF (eK' s k) idq on)) ((hO2 on hon).2) ?_
                  refine r_callV_P (pc := 56) (b := m) (As := [.int (nI on), .int (nI (spF (eK' s k) idq on))]) 10 213 dX10_passed_56 lk_X10_askBy (ml_RX10_213 rfl) im_X10_askBy se_X10_askBy (by decide) (c10_o hm) (Nat.le_of_ble_eq_true rfl) rfl (askBy_ct hm hS2.1 (by omega) hS2.2.1 (by omega) (sp_ub hE hW hc30 (by omega) hon).2) ?_
                  refine r_istore (pc := 59) (L' := [some (.ref m), some (.int (nI k)), some (.int (nI hn)), some (.int (nI vn)), some (.int (nI on)), some (.int (nI (askF (eW (eK' s k) on) (eK (eK' s k)) (spF (eK' s k) idq on)))), none]) dX10_passed_59 (by decide) rfl rfl ?_
                  refine r_aload_n (pc := 61) dX10_passed_61 rfl ?_
                  refine r_get1 (pc := 62) 10 7 17 dX10_passed_62 (fl_RX10_17 rfl) (by decide) rfl (c10_o hm) (c10_p7 hm) ?_
                  refine r_bipush (pc := 65) (v := 8) dX10_passed_65 (by decide) ?_
                  refine r_iload_n (pc := 67) dX10_passed_67 rfl ?_
                  refine r_imul_n (pc := 68) (a := 8) (b := k) dX10_passed_68 ?_
                  refine r_iload_n (pc := 69) dX10_passed_69 rfl ?_
                  refine r_iadd_n (pc := 70) (a := 8 * k) (b := hn) dX10_passed_70 ?_
                  refine r_dup2 (pc := 71) dX10_passed_71 rfl rfl ?_
                  refine r_iald_n (pc := 72) (i := (8 * k) + hn) dX10_passed_72 (c10_a7 hm) (by decide) (by omega) (v := nI (dC (dK s k) hn)) ((hZ.mt hk0).2.2.2.2.1 _ (by omega)) ?_
                  refine r_iload_n (pc := 73) dX10_passed_73 rfl ?_
                  refine r_iadd_n (pc := 74) (a := dC (dK s k) hn) (b := vn) dX10_passed_74 ?_
                  refine r_iast_n (pc := 75) (i := (8 * k) + hn) (v := nI ((dC (dK s k) hn) + vn)) dX10_passed_75 (c10_a7 hm) (by decide) (by omega) ?_
                  obtain ⟨Ic, hIc⟩ : ∃ zz0 : Im, zz0 = up2 I2 (m + 3) ((8 * k) + hn) (nI ((dC (dK s k) hn) + vn)) := ⟨_, rfl⟩
                  refine wp_M (M2 := (Ic, G)) (by subst hIc; rfl) ?_
                  have hZc : FrZ I I2 m := hZ
                  have hfc : ∀ a x, ¬ (a = m + 3 ∧ x = 8 * k + hn) → Ic a x = I2 a x := fun a x z => by rw [hIc]; exact up2_rd (by omega)
                  have hkd : MtC Ic m k (eDear (eK' s k) hn vn) (dT (dK s k)) := mtc_dear (hZc.mt hk0) hc30 (by omega) (by omega) (by rw [hIc]; exact up2_at) (fun a x g1 g2 z => hfc a x z)
                  have htd : TmM Ic m k (eDear (eK' s k) hn vn) := ⟨(hfc _ _ (by omega)).trans (hZc.tm hMd.2.1).1, (hfc _ _ (by omega)).trans (hZc.tm hMd.2.1).2.1, hok.2.1, (hfc _ _ (by omega)).trans (hZc.tm hMd.2.1).2.2.2.1, (hfc _ _ (by omega)).trans (hZc.tm hMd.2.1).2.2.2.2⟩
                  have hEd : SrC (eDear (eK' s k) hn vn) := ⟨hok.1.1.2, hok.1.2.2.1⟩
                  have hWd : WbC (eDear (eK' s k) hn vn) := hW
                  have hcd : ∀ b, eC (eDear (eK' s k) hn vn) b ≤ 60 := hkd.2.2.2.2.2.1
                  have hcc : Ic m 20 = nI (sN s) := (hfc _ _ (by omega)).trans (hZc.c hcn)
                  refine r_aload_n (pc := 76) dX10_passed_76 rfl ?_
                  refine r_iload_n (pc := 77) dX10_passed_77 rfl ?_
                  refine r_callV_V (pc := 78) (b := m) (As := [.int (nI k)]) 10 223 dX10_passed_78 lk_X10_termsOf (ml_RX10_223 rfl) im_X10_termsOf se_X10_termsOf (by decide) (c10_o hm) (Nat.le_of_ble_eq_true rfl) rfl (termsOf_e (E := (eDear (eK' s k) hn vn)) hm hkd hcc hcn10 hk htd) (fun I3 h3 => ?_)
                  obtain ⟨hS3, hF3⟩ := h3
                  refine r_aload_n (pc := 81) dX10_passed_81 rfl ?_
                  refine r_callV_V (pc := 82) (b := m) (As := []) 10 227 dX10_passed_82 lk_X10_layOutcome (ml_RX10_227 rfl) im_X10_layOutcome se_X10_layOutcome (by decide) (c10_o hm) (Nat.le_of_ble_eq_true rfl) rfl (layOutcome_ct (d := d + 0) hm hS3 hcd (by omega) (bdm hEd hWd) hWd) (fun I4 h4 => ?_)
                  obtain ⟨hK4, hF4, hO4⟩ := h4
                  have hS4 := hS3.keepO hF4 hK4
                  refine r_aload_n (pc := 85) dX10_passed_85 rfl ?_
                  refine r_iload (pc := 86) dX10_passed_86 rfl ?_
                  refine r_aload_n (pc := 88) dX10_passed_88 rfl ?_
                  refine r_get1 (pc := 89) 10 30 69 dX10_passed_89 (fl_RX10_69 rfl) (by decide) rfl (c10_o hm) (c10_p30 hm) ?_
                  refine r_iload (pc := 92) dX10_passed_92 rfl ?_
                  refine r_iald_n (pc := 94) (i := on) dX10_passed_94 (c10_a30 hm) (by decide) (by omega) (v := nI (spF (eDear (eK' s k) hn vn) idq on)) ((hO4 on hon).2) ?_
                  refine r_callV_P (pc := 95) (b := m) (As := [.int (nI on), .int (nI (spF (eDear (eK' s k) hn vn) idq on))]) 10 213 dX10_passed_95 lk_X10_askBy (ml_RX10_213 rfl) im_X10_askBy se_X10_askBy (by decide) (c10_o hm) (Nat.le_of_ble_eq_true rfl) rfl (askBy_ct hm hS4.1 (by omega) hS4.2.1 (by omega) (sp_ub hEd hWd hcd (by omega) hon).2) ?_
                  refine r_istore (pc := 98) (L' := [some (.ref m), some (.int (nI k)), some (.int (nI hn)), some (.int (nI vn)), some (.int (nI on)), some (.int (nI (askF (eW (eK' s k) on) (eK (eK' s k)) (spF (eK' s k) idq on)))), some (.int (nI (askF (eW (eDear (eK' s k) hn vn) on) (eK (eDear (eK' s k) hn vn)) (spF (eDear (eK' s k) hn vn) idq on))))]) dX10_passed_98 (by decide) rfl rfl ?_
                  refine r_aload_n (pc := 100) dX10_passed_100 rfl ?_
                  refine r_get1 (pc := 101) 10 7 17 dX10_passed_101 (fl_RX10_17 rfl) (by decide) rfl (c10_o hm) (c10_p7 hm) ?_
                  refine r_bipush (pc := 104) (v := 8) dX10_passed_104 (by decide) ?_
                  refine r_iload_n (pc := 106) dX10_passed_106 rfl ?_
                  refine r_imul_n (pc := 107) (a := 8) (b := k) dX10_passed_107 ?_
                  refine r_iload_n (pc := 108) dX10_passed_108 rfl ?_
                  refine r_iadd_n (pc := 109) (a := 8 * k) (b := hn) dX10_passed_109 ?_
                  refine r_dup2 (pc := 110) dX10_passed_110 rfl rfl ?_
                  refine r_iald_n (pc := 111) (i := (8 * k) + hn) dX10_passed_111 (c10_a7 hm) (by decide) (by omega) (v := nI (dC (dK s k) hn + vn)) ((hF4 _ _ (by omega)).trans ((hF3 _ _ (by omega) (by omega)).trans (by rw [hIc]; exact up2_at))) ?_
                  refine r_iload_n (pc := 112) dX10_passed_112 rfl ?_
                  refine r_isub (pc := 113) (x := nI (dC (dK s k) hn + vn)) (z := nI vn) dX10_passed_113 ?_
                  refine r_iast_n (pc := 114) (i := (8 * k) + hn) (v := (nI (dC (dK s k) hn + vn)) - (nI vn)) dX10_passed_114 (c10_a7 hm) (by decide) (by omega) ?_
                  obtain ⟨Id, hId⟩ : ∃ zz0 : Im, zz0 = up2 I4 (m + 3) ((8 * k) + hn) ((nI (dC (dK s k) hn + vn)) - (nI vn)) := ⟨_, rfl⟩
                  refine wp_M (M2 := (Id, G)) (by subst hId; rfl) ?_
                  have hZ : FrZ I Id m := fun a x g1 g2 => by
                    by_cases e : a = m + 3 ∧ x = 8 * k + hn
                    · obtain ⟨rfl, rfl⟩ := e
                      rw [hId, up2_at]
                      exact (pk_sub (by omega)).trans (by rw [Nat.add_sub_cancel]; exact (hMd.1.2.1 hn (by omega)).1.symm)
                    · rw [hId, up2_rd (by omega), hF4 a x (by omega), hF3 a x (by omega) (by omega), hfc a x e]
                      exact hZc a x g1 g2
                  refine r_iload (pc := 115) dX10_passed_115 rfl ?_
                  refine r_iload (pc := 117) dX10_passed_117 rfl ?_
                  refine r_isub (pc := 119) (x := nI (askF (eW (eDear (eK' s k) hn vn) on) (eK (eDear (eK' s k) hn vn)) (spF (eDear (eK' s k) hn vn) idq on))) (z := nI (askF (eW (eK' s k) on) (eK (eK' s k)) (spF (eK' s k) idq on))) dX10_passed_119 ?_
                  refine r_ret_i (pc := 120) dX10_passed_120 rfl ?_
                  exact ⟨_, Id, rfl, rfl, (by unfold aPassed; rw [atN_s et, atN_s eh, atN_s eo, if_pos hso, atN_s ev]; rw [show akF (eDear (eK' s k) hn vn) idq on = _ from if_pos hso, show akF (eK' s k) idq on = _ from if_pos hso] <;> rfl), hM.z hZ, fun x j z => hZ x j (by omega) (by omega)⟩
                · exfalso; omega
          · skip
            refine r_aload_n (pc := 0) dX10_passed_0 rfl ?_
            refine r_iconst (pc := 1) (v := 0) dX10_passed_1 (by decide) ?_
            refine r_putI (pc := 2) (v := nI 0) 10 0 84 dX10_passed_2 (fl_RX10_84 rfl) (by decide) rfl rfl (c10_o hm) ?_
            obtain ⟨Ia, hIa⟩ : ∃ zz0 : Im, zz0 = up2 I m 0 (nI 0) := ⟨_, rfl⟩
            refine wp_M (M2 := (Ia, G)) (by subst hIa; rfl) ?_
            have hZ : FrZ I Ia m := by rw [hIa]; exact FrZ.rf.u (by omega)
            refine r_aload_n (pc := 5) dX10_passed_5 rfl ?_
            refine r_iload_n (pc := 6) dX10_passed_6 rfl ?_
            refine r_iload_n (pc := 7) dX10_passed_7 rfl ?_
            refine r_callV_P (pc := 8) (b := m) (As := [.int (nI k), .int (nI hn)]) 10 154 dX10_passed_8 lk_X10_isHouse (ml_RX10_154 rfl) im_X10_isHouse se_X10_isHouse (by decide) (c10_o hm) (Nat.le_of_ble_eq_true rfl) rfl (isHouse_ct hm (hZ.mt hk0) (by omega) (hZ.c hcn) hcn10 hk hhn) ?_
            refine r_if_eq_n (pc := 11) (a := 1) (tgt := 34) dX10_passed_11 (by decide) (by omega) (fun c11 => ?_) (fun c11 => ?_)
            · exfalso; omega
            · skip
              refine r_iload_n (pc := 14) dX10_passed_14 rfl ?_
              refine r_iconst (pc := 15) (v := 0) dX10_passed_15 (by decide) ?_
              refine r_bipush (pc := 16) (v := 30) dX10_passed_16 (by decide) ?_
              refine r_callS_P (pc := 18) (As := [.int v, .int (nI 0), .int (nI 30)]) 123 dX10_passed_18 lk_X10_isIn (ml_RX10_123 rfl) sm_X10_isIn (Nat.le_of_ble_eq_true rfl) rfl (isIn_no (n := 30) (by omega) hnov) ?_
              refine r_if_eq_n (pc := 21) (a := 0) (tgt := 34) dX10_passed_21 (by decide) (by omega) (fun c21 => ?_) (fun c21 => ?_)
              · skip
                refine r_ldc (pc := 34) (v := -100000000) dX10_passed_34 (kc_RX10_226 rfl) ?_
                refine r_ret_i (pc := 36) dX10_passed_36 rfl ?_
                exact ⟨_, Ia, rfl, rfl, (by unfold aPassed; rw [atN_s et, atN_s eh, atN_s eo, if_pos hso, atN_n ev] <;> rfl), hM.z hZ, fun x j z => hZ x j (by omega) (by omega)⟩
              · exfalso; omega
        · skip
          refine r_aload_n (pc := 0) dX10_passed_0 rfl ?_
          refine r_iconst (pc := 1) (v := 0) dX10_passed_1 (by decide) ?_
          refine r_putI (pc := 2) (v := nI 0) 10 0 84 dX10_passed_2 (fl_RX10_84 rfl) (by decide) rfl rfl (c10_o hm) ?_
          obtain ⟨Ia, hIa⟩ : ∃ zz0 : Im, zz0 = up2 I m 0 (nI 0) := ⟨_, rfl⟩
          refine wp_M (M2 := (Ia, G)) (by subst hIa; rfl) ?_
          have hZ : FrZ I Ia m := by rw [hIa]; exact FrZ.rf.u (by omega)
          refine r_aload_n (pc := 5) dX10_passed_5 rfl ?_
          refine r_iload_n (pc := 6) dX10_passed_6 rfl ?_
          refine r_iload_n (pc := 7) dX10_passed_7 rfl ?_
          refine r_callV_P (pc := 8) (b := m) (As := [.int (nI k), .int (nI hn)]) 10 154 dX10_passed_8 lk_X10_isHouse (ml_RX10_154 rfl) im_X10_isHouse se_X10_isHouse (by decide) (c10_o hm) (Nat.le_of_ble_eq_true rfl) rfl (isHouse_ct hm (hZ.mt hk0) (by omega) (hZ.c hcn) hcn10 hk hhn) ?_
          refine r_if_eq_n (pc := 11) (a := 1) (tgt := 34) dX10_passed_11 (by decide) (by omega) (fun c11 => ?_) (fun c11 => ?_)
          · exfalso; omega
          · skip
            refine r_iload_n (pc := 14) dX10_passed_14 rfl ?_
            refine r_iconst (pc := 15) (v := 0) dX10_passed_15 (by decide) ?_
            refine r_bipush (pc := 16) (v := 30) dX10_passed_16 (by decide) ?_
            refine r_callS_P (pc := 18) (As := [.int v, .int (nI 0), .int (nI 30)]) 123 dX10_passed_18 lk_X10_isIn (ml_RX10_123 rfl) sm_X10_isIn (Nat.le_of_ble_eq_true rfl) rfl (isIn_ct) ?_
            refine r_if_eq_b (pc := 21) (tgt := 34) dX10_passed_21 (by decide) (fun c21 => ?_) (fun c21 => ?_)
            · skip
              refine r_ldc (pc := 34) (v := -100000000) dX10_passed_34 (kc_RX10_226 rfl) ?_
              refine r_ret_i (pc := 36) dX10_passed_36 rfl ?_
              exact ⟨_, Ia, rfl, rfl, (by unfold aPassed; rw [atN_s et, atN_s eh, atN_s eo, if_neg hso] <;> rfl), hM.z hZ, fun x j z => hZ x j (by omega) (by omega)⟩
            · skip
              refine r_aload_n (pc := 24) dX10_passed_24 rfl ?_
              refine r_iload_n (pc := 25) dX10_passed_25 rfl ?_
              refine r_iload (pc := 26) dX10_passed_26 rfl ?_
              refine r_callV_P (pc := 28) (b := m) (As := [.int (nI k), .int (nI on)]) 10 165 dX10_passed_28 lk_X10_isShop (ml_RX10_165 rfl) im_X10_isShop se_X10_isShop (by decide) (c10_o hm) (Nat.le_of_ble_eq_true rfl) rfl (isShopM_n hm (hZ.mt hk0) (hZ.c hcn) hcn10 hk hon hso) ?_
              refine r_if_ne_n (pc := 31) (a := 0) (tgt := 37) dX10_passed_31 (by decide) (by omega) (fun c31 => ?_) (fun c31 => ?_)
              · exfalso; omega
              · skip
                refine r_ldc (pc := 34) (v := -100000000) dX10_passed_34 (kc_RX10_226 rfl) ?_
                refine r_ret_i (pc := 36) dX10_passed_36 rfl ?_
                exact ⟨_, Ia, rfl, rfl, (by unfold aPassed; rw [atN_s et, atN_s eh, atN_s eo, if_neg hso] <;> rfl), hM.z hZ, fun x j z => hZ x j (by omega) (by omega)⟩
      · skip
        refine r_aload_n (pc := 0) dX10_passed_0 rfl ?_
        refine r_iconst (pc := 1) (v := 0) dX10_passed_1 (by decide) ?_
        refine r_putI (pc := 2) (v := nI 0) 10 0 84 dX10_passed_2 (fl_RX10_84 rfl) (by decide) rfl rfl (c10_o hm) ?_
        obtain ⟨Ia, hIa⟩ : ∃ zz0 : Im, zz0 = up2 I m 0 (nI 0) := ⟨_, rfl⟩
        refine wp_M (M2 := (Ia, G)) (by subst hIa; rfl) ?_
        have hZ : FrZ I Ia m := by rw [hIa]; exact FrZ.rf.u (by omega)
        refine r_aload_n (pc := 5) dX10_passed_5 rfl ?_
        refine r_iload_n (pc := 6) dX10_passed_6 rfl ?_
        refine r_iload_n (pc := 7) dX10_passed_7 rfl ?_
        refine r_callV_P (pc := 8) (b := m) (As := [.int (nI k), .int (nI hn)]) 10 154 dX10_passed_8 lk_X10_isHouse (ml_RX10_154 rfl) im_X10_isHouse se_X10_isHouse (by decide) (c10_o hm) (Nat.le_of_ble_eq_true rfl) rfl (isHouse_ct hm (hZ.mt hk0) (by omega) (hZ.c hcn) hcn10 hk hhn) ?_
        refine r_if_eq_n (pc := 11) (a := 1) (tgt := 34) dX10_passed_11 (by decide) (by omega) (fun c11 => ?_) (fun c11 => ?_)
        · exfalso; omega
        · skip
          refine r_iload_n (pc := 14) dX10_passed_14 rfl ?_
          refine r_iconst (pc := 15) (v := 0) dX10_passed_15 (by decide) ?_
          refine r_bipush (pc := 16) (v := 30) dX10_passed_16 (by decide) ?_
          refine r_callS_P (pc := 18) (As := [.int v, .int (nI 0), .int (nI 30)]) 123 dX10_passed_18 lk_X10_isIn (ml_RX10_123 rfl) sm_X10_isIn (Nat.le_of_ble_eq_true rfl) rfl (isIn_ct) ?_
          refine r_if_eq_b (pc := 21) (tgt := 34) dX10_passed_21 (by decide) (fun c21 => ?_) (fun c21 => ?_)
          · skip
            refine r_ldc (pc := 34) (v := -100000000) dX10_passed_34 (kc_RX10_226 rfl) ?_
            refine r_ret_i (pc := 36) dX10_passed_36 rfl ?_
            exact ⟨_, Ia, rfl, rfl, (by unfold aPassed; rw [atN_s et, atN_s eh, atN_n eo] <;> rfl), hM.z hZ, fun x j z => hZ x j (by omega) (by omega)⟩
          · skip
            refine r_aload_n (pc := 24) dX10_passed_24 rfl ?_
            refine r_iload_n (pc := 25) dX10_passed_25 rfl ?_
            refine r_iload (pc := 26) dX10_passed_26 rfl ?_
            refine r_callV_P (pc := 28) (b := m) (As := [.int (nI k), .int o]) 10 165 dX10_passed_28 lk_X10_isShop (ml_RX10_165 rfl) im_X10_isShop se_X10_isShop (by decide) (c10_o hm) (Nat.le_of_ble_eq_true rfl) rfl (isShopM_no hm (hZ.mt hk0) (hZ.c hcn) hcn10 hk hnoo) ?_
            refine r_if_ne_n (pc := 31) (a := 0) (tgt := 37) dX10_passed_31 (by decide) (by omega) (fun c31 => ?_) (fun c31 => ?_)
            · exfalso; omega
            · skip
              refine r_ldc (pc := 34) (v := -100000000) dX10_passed_34 (kc_RX10_226 rfl) ?_
              refine r_ret_i (pc := 36) dX10_passed_36 rfl ?_
              exact ⟨_, Ia, rfl, rfl, (by unfold aPassed; rw [atN_s et, atN_s eh, atN_n eo] <;> rfl), hM.z hZ, fun x j z => hZ x j (by omega) (by omega)⟩
    · skip
      refine r_aload_n (pc := 0) dX10_passed_0 rfl ?_
      refine r_iconst (pc := 1) (v := 0) dX10_passed_1 (by decide) ?_
      refine r_putI (pc := 2) (v := nI 0) 10 0 84 dX10_passed_2 (fl_RX10_84 rfl) (by decide) rfl rfl (c10_o hm) ?_
      obtain ⟨Ia, hIa⟩ : ∃ zz0 : Im, zz0 = up2 I m 0 (nI 0) := ⟨_, rfl⟩
      refine wp_M (M2 := (Ia, G)) (by subst hIa; rfl) ?_
      have hZ : FrZ I Ia m := by rw [hIa]; exact FrZ.rf.u (by omega)
      refine r_aload_n (pc := 5) dX10_passed_5 rfl ?_
      refine r_iload_n (pc := 6) dX10_passed_6 rfl ?_
      refine r_iload_n (pc := 7) dX10_passed_7 rfl ?_
      refine r_callV_P (pc := 8) (b := m) (As := [.int (nI k), .int h]) 10 154 dX10_passed_8 lk_X10_isHouse (ml_RX10_154 rfl) im_X10_isHouse se_X10_isHouse (by decide) (c10_o hm) (Nat.le_of_ble_eq_true rfl) rfl (isHouse_no hm (hZ.mt hk0) (hZ.c hcn) hcn10 hk hnoh) ?_
      refine r_if_eq_n (pc := 11) (a := 0) (tgt := 34) dX10_passed_11 (by decide) (by omega) (fun c11 => ?_) (fun c11 => ?_)
      · skip
        refine r_ldc (pc := 34) (v := -100000000) dX10_passed_34 (kc_RX10_226 rfl) ?_
        refine r_ret_i (pc := 36) dX10_passed_36 rfl ?_
        exact ⟨_, Ia, rfl, rfl, (by unfold aPassed; rw [atN_s et, atN_n eh] <;> rfl), hM.z hZ, fun x j z => hZ x j (by omega) (by omega)⟩
      · exfalso; omega
  · skip
    refine r_aload_n (pc := 0) dX10_passed_0 rfl ?_
    refine r_iconst (pc := 1) (v := 0) dX10_passed_1 (by decide) ?_
    refine r_putI (pc := 2) (v := nI 0) 10 0 84 dX10_passed_2 (fl_RX10_84 rfl) (by decide) rfl rfl (c10_o hm) ?_
    obtain ⟨Ia, hIa⟩ : ∃ zz0 : Im, zz0 = up2 I m 0 (nI 0) := ⟨_, rfl⟩
    refine wp_M (M2 := (Ia, G)) (by subst hIa; rfl) ?_
    have hZ : FrZ I Ia m := by rw [hIa]; exact FrZ.rf.u (by omega)
    refine r_aload_n (pc := 5) dX10_passed_5 rfl ?_
    refine r_iload_n (pc := 6) dX10_passed_6 rfl ?_
    refine r_iload_n (pc := 7) dX10_passed_7 rfl ?_
    refine r_callV_P (pc := 8) (b := m) (As := [.int t, .int h]) 10 154 dX10_passed_8 lk_X10_isHouse (ml_RX10_154 rfl) im_X10_isHouse se_X10_isHouse (by decide) (c10_o hm) (Nat.le_of_ble_eq_true rfl) rfl (isHouse_nt hm (by rw [(hZ.c hcn)]; exact hnot)) ?_
    refine r_if_eq_n (pc := 11) (a := 0) (tgt := 34) dX10_passed_11 (by decide) (by omega) (fun c11 => ?_) (fun c11 => ?_)
    · skip
      refine r_ldc (pc := 34) (v := -100000000) dX10_passed_34 (kc_RX10_226 rfl) ?_
      refine r_ret_i (pc := 36) dX10_passed_36 rfl ?_
      exact ⟨_, Ia, rfl, rfl, (by unfold aPassed; rw [atN_n et] <;> rfl), hM.z hZ, fun x j z => hZ x j (by omega) (by omega)⟩
    · exfalso; omega

set_option maxHeartbeats 300000 in
set_option maxRecDepth 100000 in
theorem gain_m {d : Nat} {I : Im} {G : Gm} {s : Sta} {m : Nat} (hm : isC10 G m) (hM : Mi s I m) {t : Int32} {h : Int32} : Ct (d + 46) 0 0 YX10_gain [.ref m, .int t, .int h] (I, G) (qM G (fun zv I2 => PmQ s I m (aGain s t h) zv I2)) := by
  refine Ct.of (by decide) (by simp [Value.category]) (Nat.le_of_ble_eq_true rfl) ?_
  have hcn := hM.2.1
  have hcn10 := hM.2.2.1
  have hZ : FrZ I I m := FrZ.rf
  show wp _ _ _ _ 0 [some (.ref m), some (.int t), some (.int h), none] [] _ _
  by_cases hmm : h = -1
  · skip
    subst hmm
    rcases in_cases (n := sN s) (by have := hcn10; omega) t with ⟨k, hk, rfl, et⟩ | ⟨et, hnot⟩
    · skip
      obtain ⟨hok, hMd⟩ := hM.2.2.2.1 k hk
      have hk0 : MtC I m k (eK' s k) (dT (dK s k)) := mtc_of hok.1 hMd.1 _
      have hn8 : dN (dK s k) ≤ 8 := hok.1.1.2
      have hE : SrC (eK' s k) := src_of hok.1 _
      have hW : WbC (eK' s k) := wbc_of hok.1 _
      have hc30 : ∀ b, dC (dK s k) b ≤ 30 := hok.1.2.1
      refine r_aload_n (pc := 0) dX10_gain_0 rfl ?_
      refine r_iconst (pc := 1) (v := 0) dX10_gain_1 (by decide) ?_
      refine r_putI (pc := 2) (v := nI 0) 10 0 84 dX10_gain_2 (fl_RX10_84 rfl) (by decide) rfl rfl (c10_o hm) ?_
      obtain ⟨Ia, hIa⟩ : ∃ zz0 : Im, zz0 = up2 I m 0 (nI 0) := ⟨_, rfl⟩
      refine wp_M (M2 := (Ia, G)) (by subst hIa; rfl) ?_
      have hZ : FrZ I Ia m := by rw [hIa]; exact FrZ.rf.u (by omega)
      refine r_iload_n (pc := 5) dX10_gain_5 rfl ?_
      refine r_iconst (pc := 6) (v := -1) dX10_gain_6 (by decide) ?_
      refine r_icmp_ne (pc := 7) (x := (-1)) (z := (-1)) (tgt := 21) dX10_gain_7 (by decide) (fun c7 => ?_) (fun c7 => ?_)
      · exfalso; exact c7 rfl
      · skip
        refine r_aload_n (pc := 10) dX10_gain_10 rfl ?_
        refine r_iload_n (pc := 11) dX10_gain_11 rfl ?_
        refine r_callV_P (pc := 12) (b := m) (As := [.int (nI k)]) 10 148 dX10_gain_12 lk_X10_isTrade (ml_RX10_148 rfl) im_X10_isTrade se_X10_isTrade (by decide) (c10_o hm) (Nat.le_of_ble_eq_true rfl) rfl (isTrade_y hm (hZ.c hcn) hcn10 hk) ?_
        refine r_if_ne_n (pc := 15) (a := 1) (tgt := 33) dX10_gain_15 (by decide) (by omega) (fun c15 => ?_) (fun c15 => ?_)
        · skip
          refine r_aload_n (pc := 33) dX10_gain_33 rfl ?_
          refine r_iload_n (pc := 34) dX10_gain_34 rfl ?_
          refine r_callV_V (pc := 35) (b := m) (As := [.int (nI k)]) 10 223 dX10_gain_35 lk_X10_termsOf (ml_RX10_223 rfl) im_X10_termsOf se_X10_termsOf (by decide) (c10_o hm) (Nat.le_of_ble_eq_true rfl) rfl (termsOf_e (E := (eK' s k)) hm (hZ.mt hk0) (hZ.c hcn) hcn10 hk (hZ.tm hMd.2.1)) (fun I1 h1 => ?_)
          obtain ⟨hS1, hF1⟩ := h1
          have hZ : FrZ I I1 m := hZ.tr hF1.z
          have hcnZ : I1 m 20 = nI (sN s) := hS1.2.2.1
          refine r_aload_n (pc := 38) dX10_gain_38 rfl ?_
          refine r_callV_V (pc := 39) (b := m) (As := []) 10 227 dX10_gain_39 lk_X10_layOutcome (ml_RX10_227 rfl) im_X10_layOutcome se_X10_layOutcome (by decide) (c10_o hm) (Nat.le_of_ble_eq_true rfl) rfl (layOutcome_ct (d := d + 1) hm hS1 hc30 (by omega) (bdm hE hW) hW) (fun I2 h2 => ?_)
          obtain ⟨hK2, hF2, hO2⟩ := h2
          have hS2 := hS1.keepO hF2 hK2
          have hZ : FrZ I I2 m := hZ.tr hF2.w.z
          refine r_iload_n (pc := 42) dX10_gain_42 rfl ?_
          refine r_iconst (pc := 43) (v := -1) dX10_gain_43 (by decide) ?_
          refine r_icmp_ne (pc := 44) (x := (-1)) (z := (-1)) (tgt := 54) dX10_gain_44 (by decide) (fun c44 => ?_) (fun c44 => ?_)
          · exfalso; exact c44 rfl
          · skip
            refine r_aload_n (pc := 47) dX10_gain_47 rfl ?_
            refine r_callV_M (pc := 48) (b := m) (As := []) 10 233 dX10_gain_48 lk_X10_saving (ml_RX10_233 rfl) im_X10_saving se_X10_saving (by decide) (c10_o hm) (Nat.le_of_ble_eq_true rfl) rfl (saving_ct (d := d + 0) hm hS2 hc30 (by omega) (bdm hE hW) hW) (fun v48 I3 h3 => ?_)
            obtain ⟨rfl, hK3, hF3, hO3⟩ := h3
            have hS3 := hS2.keepO hF3 hK3
            have hZ : FrZ I I3 m := hZ.tr hF3.w.z
            refine r_goto (pc := 51) (tgt := 59) dX10_gain_51 (by decide) ?_
            refine r_istore_n (pc := 59) (L' := [some (.ref m), some (.int (nI k)), some (.int (-1)), some (.int (svF (eK' s k) idq))]) dX10_gain_59 (by decide) rfl rfl ?_
            refine r_aload_n (pc := 60) dX10_gain_60 rfl ?_
            refine r_iload_n (pc := 61) dX10_gain_61 rfl ?_
            refine r_aload_n (pc := 62) dX10_gain_62 rfl ?_
            refine r_get1 (pc := 63) 10 14 38 dX10_gain_63 (fl_RX10_38 rfl) (by decide) rfl (c10_o hm) (c10_p14 hm) ?_
            refine r_iload_n (pc := 66) dX10_gain_66 rfl ?_
            refine r_iald_n (pc := 67) (i := k) dX10_gain_67 (c10_a14 hm) (by decide) (by omega) (v := (tdT (sD s k)).1) ((hZ.tm hMd.2.1).1) ?_
            refine r_bipush (pc := 68) (v := 41) dX10_gain_68 (by decide) ?_
            refine r_iconst (pc := 70) (v := 0) dX10_gain_70 (by decide) ?_
            refine r_aload_n (pc := 71) dX10_gain_71 rfl ?_
            refine r_get1 (pc := 72) 10 19 54 dX10_gain_72 (fl_RX10_54 rfl) (by decide) rfl (c10_o hm) (c10_p19 hm) ?_
            refine r_iload_n (pc := 75) dX10_gain_75 rfl ?_
            refine r_zald_n (pc := 76) (i := k) dX10_gain_76 (c10_a19 hm) (by decide) (by omega) (v := bz ((tdT (sD s k)).2.2.2 = true)) ((hZ.tm hMd.2.1).2.2.2.2) ?_
            refine r_callV_V (pc := 77) (b := m) (As := [.int (nI k), .int ((tdT (sD s k)).1), .int (nI 41), .int (nI 0), .int (bz ((tdT (sD s k)).2.2.2 = true))]) 10 191 dX10_gain_77 lk_X10_terms (ml_RX10_191 rfl) im_X10_terms se_X10_terms (by decide) (c10_o hm) (Nat.le_of_ble_eq_true rfl) rfl (terms_q (E := (eT (dK s k) ((tdT (sD s k)).1, 41, false, (tdT (sD s k)).2.2.2))) hm (hZ.mt (mtc_of hok.1 hMd.1 ((tdT (sD s k)).1, 41, false, (tdT (sD s k)).2.2.2))) (Nat.le_refl 41) (hZ.c hcn) hcn10 hk rfl rfl rfl rfl) (fun I4 h4 => ?_)
            obtain ⟨hS4, hF4⟩ := h4
            have hZ : FrZ I I4 m := hZ.tr hF4.z
            refine r_aload_n (pc := 80) dX10_gain_80 rfl ?_
            refine r_callV_V (pc := 81) (b := m) (As := []) 10 227 dX10_gain_81 lk_X10_layOutcome (ml_RX10_227 rfl) im_X10_layOutcome se_X10_layOutcome (by decide) (c10_o hm) (Nat.le_of_ble_eq_true rfl) rfl (layOutcome_ct (d := d + 1) hm hS4 hc30 (by omega) (bdm (src_of hok.1 ((tdT (sD s k)).1, 41, false, (tdT (sD s k)).2.2.2)) (wbc_of hok.1 ((tdT (sD s k)).1, 41, false, (tdT (sD s k)).2.2.2))) (wbc_of hok.1 ((tdT (sD s k)).1, 41, false, (tdT (sD s k)).2.2.2))) (fun I5 h5 => ?_)
            obtain ⟨hK5, hF5, hO5⟩ := h5
            have hS5 := hS4.keepO hF5 hK5
            have hZ : FrZ I I5 m := hZ.tr hF5.w.z
            refine r_iload_n (pc := 84) dX10_gain_84 rfl ?_
            refine r_iload_n (pc := 85) dX10_gain_85 rfl ?_
            refine r_iconst (pc := 86) (v := -1) dX10_gain_86 (by decide) ?_
            refine r_icmp_ne (pc := 87) (x := (-1)) (z := (-1)) (tgt := 97) dX10_gain_87 (by decide) (fun c87 => ?_) (fun c87 => ?_)
            · exfalso; exact c87 rfl
            · skip
              refine r_aload_n (pc := 90) dX10_gain_90 rfl ?_
              refine r_callV_M (pc := 91) (b := m) (As := []) 10 233 dX10_gain_91 lk_X10_saving (ml_RX10_233 rfl) im_X10_saving se_X10_saving (by decide) (c10_o hm) (Nat.le_of_ble_eq_true rfl) rfl (saving_ct (d := d + 0) hm hS5 hc30 (by omega) (bdm (src_of hok.1 ((tdT (sD s k)).1, 41, false, (tdT (sD s k)).2.2.2)) (wbc_of hok.1 ((tdT (sD s k)).1, 41, false, (tdT (sD s k)).2.2.2))) (wbc_of hok.1 ((tdT (sD s k)).1, 41, false, (tdT (sD s k)).2.2.2))) (fun v91 I6 h6 => ?_)
              obtain ⟨rfl, hK6, hF6, hO6⟩ := h6
              have hS6 := hS5.keepO hF6 hK6
              have hZ : FrZ I I6 m := hZ.tr hF6.w.z
              refine r_goto (pc := 94) (tgt := 102) dX10_gain_94 (by decide) ?_
              refine r_isub (pc := 102) (x := svF (eK' s k) idq) (z := svF (eT (dK s k) ((tdT (sD s k)).1, 41, false, (tdT (sD s k)).2.2.2)) idq) dX10_gain_102 ?_
              refine r_ret_i (pc := 103) dX10_gain_103 rfl ?_
              exact ⟨_, I6, rfl, rfl, (by unfold aGain; rw [atN_s et, if_pos rfl] <;> rfl), hM.z hZ, fun x j z => hZ x j (by omega) (by omega)⟩
        · exfalso; omega
    · skip
      refine r_aload_n (pc := 0) dX10_gain_0 rfl ?_
      refine r_iconst (pc := 1) (v := 0) dX10_gain_1 (by decide) ?_
      refine r_putI (pc := 2) (v := nI 0) 10 0 84 dX10_gain_2 (fl_RX10_84 rfl) (by decide) rfl rfl (c10_o hm) ?_
      obtain ⟨Ia, hIa⟩ : ∃ zz0 : Im, zz0 = up2 I m 0 (nI 0) := ⟨_, rfl⟩
      refine wp_M (M2 := (Ia, G)) (by subst hIa; rfl) ?_
      have hZ : FrZ I Ia m := by rw [hIa]; exact FrZ.rf.u (by omega)
      refine r_iload_n (pc := 5) dX10_gain_5 rfl ?_
      refine r_iconst (pc := 6) (v := -1) dX10_gain_6 (by decide) ?_
      refine r_icmp_ne (pc := 7) (x := (-1)) (z := (-1)) (tgt := 21) dX10_gain_7 (by decide) (fun c7 => ?_) (fun c7 => ?_)
      · exfalso; exact c7 rfl
      · skip
        refine r_aload_n (pc := 10) dX10_gain_10 rfl ?_
        refine r_iload_n (pc := 11) dX10_gain_11 rfl ?_
        refine r_callV_P (pc := 12) (b := m) (As := [.int t]) 10 148 dX10_gain_12 lk_X10_isTrade (ml_RX10_148 rfl) im_X10_isTrade se_X10_isTrade (by decide) (c10_o hm) (Nat.le_of_ble_eq_true rfl) rfl (isTrade_n hm (hZ.c hcn) hnot) ?_
        refine r_if_ne_n (pc := 15) (a := 0) (tgt := 33) dX10_gain_15 (by decide) (by omega) (fun c15 => ?_) (fun c15 => ?_)
        · exfalso; omega
        · skip
          refine r_goto (pc := 18) (tgt := 30) dX10_gain_18 (by decide) ?_
          refine r_ldc (pc := 30) (v := -100000000) dX10_gain_30 (kc_RX10_226 rfl) ?_
          refine r_ret_i (pc := 32) dX10_gain_32 rfl ?_
          exact ⟨_, Ia, rfl, rfl, (by unfold aGain; rw [atN_n et] <;> rfl), hM.z hZ, fun x j z => hZ x j (by omega) (by omega)⟩
  · skip
    rcases in_cases (n := sN s) (by have := hcn10; omega) t with ⟨k, hk, rfl, et⟩ | ⟨et, hnot⟩
    · skip
      obtain ⟨hok, hMd⟩ := hM.2.2.2.1 k hk
      have hk0 : MtC I m k (eK' s k) (dT (dK s k)) := mtc_of hok.1 hMd.1 _
      have hn8 : dN (dK s k) ≤ 8 := hok.1.1.2
      have hE : SrC (eK' s k) := src_of hok.1 _
      have hW : WbC (eK' s k) := wbc_of hok.1 _
      have hc30 : ∀ b, dC (dK s k) b ≤ 30 := hok.1.2.1
      rcases in_cases (n := dN (dK s k)) (by have := hn8; omega) h with ⟨hn, hhn, rfl, eh⟩ | ⟨eh, hnoh⟩
      · skip
        refine r_aload_n (pc := 0) dX10_gain_0 rfl ?_
        refine r_iconst (pc := 1) (v := 0) dX10_gain_1 (by decide) ?_
        refine r_putI (pc := 2) (v := nI 0) 10 0 84 dX10_gain_2 (fl_RX10_84 rfl) (by decide) rfl rfl (c10_o hm) ?_
        obtain ⟨Ia, hIa⟩ : ∃ zz0 : Im, zz0 = up2 I m 0 (nI 0) := ⟨_, rfl⟩
        refine wp_M (M2 := (Ia, G)) (by subst hIa; rfl) ?_
        have hZ : FrZ I Ia m := by rw [hIa]; exact FrZ.rf.u (by omega)
        refine r_iload_n (pc := 5) dX10_gain_5 rfl ?_
        refine r_iconst (pc := 6) (v := -1) dX10_gain_6 (by decide) ?_
        refine r_icmp_ne (pc := 7) (x := nI hn) (z := (-1)) (tgt := 21) dX10_gain_7 (by decide) (fun c7 => ?_) (fun c7 => ?_)
        · skip
          refine r_aload_n (pc := 21) dX10_gain_21 rfl ?_
          refine r_iload_n (pc := 22) dX10_gain_22 rfl ?_
          refine r_iload_n (pc := 23) dX10_gain_23 rfl ?_
          refine r_callV_P (pc := 24) (b := m) (As := [.int (nI k), .int (nI hn)]) 10 154 dX10_gain_24 lk_X10_isHouse (ml_RX10_154 rfl) im_X10_isHouse se_X10_isHouse (by decide) (c10_o hm) (Nat.le_of_ble_eq_true rfl) rfl (isHouse_ct hm (hZ.mt hk0) (by omega) (hZ.c hcn) hcn10 hk hhn) ?_
          refine r_if_ne_n (pc := 27) (a := 1) (tgt := 33) dX10_gain_27 (by decide) (by omega) (fun c27 => ?_) (fun c27 => ?_)
          · skip
            refine r_aload_n (pc := 33) dX10_gain_33 rfl ?_
            refine r_iload_n (pc := 34) dX10_gain_34 rfl ?_
            refine r_callV_V (pc := 35) (b := m) (As := [.int (nI k)]) 10 223 dX10_gain_35 lk_X10_termsOf (ml_RX10_223 rfl) im_X10_termsOf se_X10_termsOf (by decide) (c10_o hm) (Nat.le_of_ble_eq_true rfl) rfl (termsOf_e (E := (eK' s k)) hm (hZ.mt hk0) (hZ.c hcn) hcn10 hk (hZ.tm hMd.2.1)) (fun I1 h1 => ?_)
            obtain ⟨hS1, hF1⟩ := h1
            have hZ : FrZ I I1 m := hZ.tr hF1.z
            have hcnZ : I1 m 20 = nI (sN s) := hS1.2.2.1
            refine r_aload_n (pc := 38) dX10_gain_38 rfl ?_
            refine r_callV_V (pc := 39) (b := m) (As := []) 10 227 dX10_gain_39 lk_X10_layOutcome (ml_RX10_227 rfl) im_X10_layOutcome se_X10_layOutcome (by decide) (c10_o hm) (Nat.le_of_ble_eq_true rfl) rfl (layOutcome_ct (d := d + 1) hm hS1 hc30 (by omega) (bdm hE hW) hW) (fun I2 h2 => ?_)
            obtain ⟨hK2, hF2, hO2⟩ := h2
            have hS2 := hS1.keepO hF2 hK2
            have hZ : FrZ I I2 m := hZ.tr hF2.w.z
            refine r_iload_n (pc := 42) dX10_gain_42 rfl ?_
            refine r_iconst (pc := 43) (v := -1) dX10_gain_43 (by decide) ?_
            refine r_icmp_ne (pc := 44) (x := nI hn) (z := (-1)) (tgt := 54) dX10_gain_44 (by decide) (fun c44 => ?_) (fun c44 => ?_)
            · skip
              refine r_aload_n (pc := 54) dX10_gain_54 rfl ?_
              refine r_iload_n (pc := 55) dX10_gain_55 rfl ?_
              refine r_callV_M (pc := 56) (b := m) (As := [.int (nI hn)]) 10 230 dX10_gain_56 lk_X10_earnsOf (ml_RX10_230 rfl) im_X10_earnsOf se_X10_earnsOf (by decide) (c10_o hm) (Nat.le_of_ble_eq_true rfl) rfl (earnsOf_ct (d := d + 4) hm hS2 hc30 (by omega) (bdm hE hW) hW hO2 hhn) (fun v56 I3 h3 => ?_)
              obtain ⟨rfl, hK3, hF3⟩ := h3
              have hS3 := hS2.keep hF3 hK3
              have hZ : FrZ I I3 m := hZ.tr hF3.w.z
              have hO3 := hO2.k hF3
              refine r_istore_n (pc := 59) (L' := [some (.ref m), some (.int (nI k)), some (.int (nI hn)), some (.int (erM (eK' s k) hn))]) dX10_gain_59 (by decide) rfl rfl ?_
              refine r_aload_n (pc := 60) dX10_gain_60 rfl ?_
              refine r_iload_n (pc := 61) dX10_gain_61 rfl ?_
              refine r_aload_n (pc := 62) dX10_gain_62 rfl ?_
              refine r_get1 (pc := 63) 10 14 38 dX10_gain_63 (fl_RX10_38 rfl) (by decide) rfl (c10_o hm) (c10_p14 hm) ?_
              refine r_iload_n (pc := 66) dX10_gain_66 rfl ?_
              refine r_iald_n (pc := 67) (i := k) dX10_gain_67 (c10_a14 hm) (by decide) (by omega) (v := (tdT (sD s k)).1) ((hZ.tm hMd.2.1).1) ?_
              refine r_bipush (pc := 68) (v := 41) dX10_gain_68 (by decide) ?_
              refine r_iconst (pc := 70) (v := 0) dX10_gain_70 (by decide) ?_
              refine r_aload_n (pc := 71) dX10_gain_71 rfl ?_
              refine r_get1 (pc := 72) 10 19 54 dX10_gain_72 (fl_RX10_54 rfl) (by decide) rfl (c10_o hm) (c10_p19 hm) ?_
              refine r_iload_n (pc := 75) dX10_gain_75 rfl ?_
              refine r_zald_n (pc := 76) (i := k) dX10_gain_76 (c10_a19 hm) (by decide) (by omega) (v := bz ((tdT (sD s k)).2.2.2 = true)) ((hZ.tm hMd.2.1).2.2.2.2) ?_
              refine r_callV_V (pc := 77) (b := m) (As := [.int (nI k), .int ((tdT (sD s k)).1), .int (nI 41), .int (nI 0), .int (bz ((tdT (sD s k)).2.2.2 = true))]) 10 191 dX10_gain_77 lk_X10_terms (ml_RX10_191 rfl) im_X10_terms se_X10_terms (by decide) (c10_o hm) (Nat.le_of_ble_eq_true rfl) rfl (terms_q (E := (eT (dK s k) ((tdT (sD s k)).1, 41, false, (tdT (sD s k)).2.2.2))) hm (hZ.mt (mtc_of hok.1 hMd.1 ((tdT (sD s k)).1, 41, false, (tdT (sD s k)).2.2.2))) (Nat.le_refl 41) (hZ.c hcn) hcn10 hk rfl rfl rfl rfl) (fun I4 h4 => ?_)
              obtain ⟨hS4, hF4⟩ := h4
              have hZ : FrZ I I4 m := hZ.tr hF4.z
              refine r_aload_n (pc := 80) dX10_gain_80 rfl ?_
              refine r_callV_V (pc := 81) (b := m) (As := []) 10 227 dX10_gain_81 lk_X10_layOutcome (ml_RX10_227 rfl) im_X10_layOutcome se_X10_layOutcome (by decide) (c10_o hm) (Nat.le_of_ble_eq_true rfl) rfl (layOutcome_ct (d := d + 1) hm hS4 hc30 (by omega) (bdm (src_of hok.1 ((tdT (sD s k)).1, 41, false, (tdT (sD s k)).2.2.2)) (wbc_of hok.1 ((tdT (sD s k)).1, 41, false, (tdT (sD s k)).2.2.2))) (wbc_of hok.1 ((tdT (sD s k)).1, 41, false, (tdT (sD s k)).2.2.2))) (fun I5 h5 => ?_)
              obtain ⟨hK5, hF5, hO5⟩ := h5
              have hS5 := hS4.keepO hF5 hK5
              have hZ : FrZ I I5 m := hZ.tr hF5.w.z
              refine r_iload_n (pc := 84) dX10_gain_84 rfl ?_
              refine r_iload_n (pc := 85) dX10_gain_85 rfl ?_
              refine r_iconst (pc := 86) (v := -1) dX10_gain_86 (by decide) ?_
              refine r_icmp_ne (pc := 87) (x := nI hn) (z := (-1)) (tgt := 97) dX10_gain_87 (by decide) (fun c87 => ?_) (fun c87 => ?_)
              · skip
                refine r_aload_n (pc := 97) dX10_gain_97 rfl ?_
                refine r_iload_n (pc := 98) dX10_gain_98 rfl ?_
                refine r_callV_M (pc := 99) (b := m) (As := [.int (nI hn)]) 10 230 dX10_gain_99 lk_X10_earnsOf (ml_RX10_230 rfl) im_X10_earnsOf se_X10_earnsOf (by decide) (c10_o hm) (Nat.le_of_ble_eq_true rfl) rfl (earnsOf_ct (d := d + 4) hm hS5 hc30 (by omega) (bdm (src_of hok.1 ((tdT (sD s k)).1, 41, false, (tdT (sD s k)).2.2.2)) (wbc_of hok.1 ((tdT (sD s k)).1, 41, false, (tdT (sD s k)).2.2.2))) (wbc_of hok.1 ((tdT (sD s k)).1, 41, false, (tdT (sD s k)).2.2.2)) hO5 hhn) (fun v99 I6 h6 => ?_)
                obtain ⟨rfl, hK6, hF6⟩ := h6
                have hS6 := hS5.keep hF6 hK6
                have hZ : FrZ I I6 m := hZ.tr hF6.w.z
                have hO6 := hO5.k hF6
                refine r_isub (pc := 102) (x := erM (eK' s k) hn) (z := erM (eT (dK s k) ((tdT (sD s k)).1, 41, false, (tdT (sD s k)).2.2.2)) hn) dX10_gain_102 ?_
                refine r_ret_i (pc := 103) dX10_gain_103 rfl ?_
                exact ⟨_, I6, rfl, rfl, (by unfold aGain; rw [atN_s et, if_neg hmm, atN_s eh] <;> rfl), hM.z hZ, fun x j z => hZ x j (by omega) (by omega)⟩
              · exfalso; exact m1_ne (by omega) c87.symm
            · exfalso; exact m1_ne (by omega) c44.symm
          · exfalso; omega
        · exfalso; exact m1_ne (by omega) c7.symm
      · skip
        refine r_aload_n (pc := 0) dX10_gain_0 rfl ?_
        refine r_iconst (pc := 1) (v := 0) dX10_gain_1 (by decide) ?_
        refine r_putI (pc := 2) (v := nI 0) 10 0 84 dX10_gain_2 (fl_RX10_84 rfl) (by decide) rfl rfl (c10_o hm) ?_
        obtain ⟨Ia, hIa⟩ : ∃ zz0 : Im, zz0 = up2 I m 0 (nI 0) := ⟨_, rfl⟩
        refine wp_M (M2 := (Ia, G)) (by subst hIa; rfl) ?_
        have hZ : FrZ I Ia m := by rw [hIa]; exact FrZ.rf.u (by omega)
        refine r_iload_n (pc := 5) dX10_gain_5 rfl ?_
        refine r_iconst (pc := 6) (v := -1) dX10_gain_6 (by decide) ?_
        refine r_icmp_ne (pc := 7) (x := h) (z := (-1)) (tgt := 21) dX10_gain_7 (by decide) (fun c7 => ?_) (fun c7 => ?_)
        · skip
          refine r_aload_n (pc := 21) dX10_gain_21 rfl ?_
          refine r_iload_n (pc := 22) dX10_gain_22 rfl ?_
          refine r_iload_n (pc := 23) dX10_gain_23 rfl ?_
          refine r_callV_P (pc := 24) (b := m) (As := [.int (nI k), .int h]) 10 154 dX10_gain_24 lk_X10_isHouse (ml_RX10_154 rfl) im_X10_isHouse se_X10_isHouse (by decide) (c10_o hm) (Nat.le_of_ble_eq_true rfl) rfl (isHouse_no hm (hZ.mt hk0) (hZ.c hcn) hcn10 hk hnoh) ?_
          refine r_if_ne_n (pc := 27) (a := 0) (tgt := 33) dX10_gain_27 (by decide) (by omega) (fun c27 => ?_) (fun c27 => ?_)
          · exfalso; omega
          · skip
            refine r_ldc (pc := 30) (v := -100000000) dX10_gain_30 (kc_RX10_226 rfl) ?_
            refine r_ret_i (pc := 32) dX10_gain_32 rfl ?_
            exact ⟨_, Ia, rfl, rfl, (by unfold aGain; rw [atN_s et, if_neg hmm, atN_n eh] <;> rfl), hM.z hZ, fun x j z => hZ x j (by omega) (by omega)⟩
        · exfalso; exact hmm c7
    · skip
      refine r_aload_n (pc := 0) dX10_gain_0 rfl ?_
      refine r_iconst (pc := 1) (v := 0) dX10_gain_1 (by decide) ?_
      refine r_putI (pc := 2) (v := nI 0) 10 0 84 dX10_gain_2 (fl_RX10_84 rfl) (by decide) rfl rfl (c10_o hm) ?_
      obtain ⟨Ia, hIa⟩ : ∃ zz0 : Im, zz0 = up2 I m 0 (nI 0) := ⟨_, rfl⟩
      refine wp_M (M2 := (Ia, G)) (by subst hIa; rfl) ?_
      have hZ : FrZ I Ia m := by rw [hIa]; exact FrZ.rf.u (by omega)
      refine r_iload_n (pc := 5) dX10_gain_5 rfl ?_
      refine r_iconst (pc := 6) (v := -1) dX10_gain_6 (by decide) ?_
      refine r_icmp_ne (pc := 7) (x := h) (z := (-1)) (tgt := 21) dX10_gain_7 (by decide) (fun c7 => ?_) (fun c7 => ?_)
      · skip
        refine r_aload_n (pc := 21) dX10_gain_21 rfl ?_
        refine r_iload_n (pc := 22) dX10_gain_22 rfl ?_
        refine r_iload_n (pc := 23) dX10_gain_23 rfl ?_
        refine r_callV_P (pc := 24) (b := m) (As := [.int t, .int h]) 10 154 dX10_gain_24 lk_X10_isHouse (ml_RX10_154 rfl) im_X10_isHouse se_X10_isHouse (by decide) (c10_o hm) (Nat.le_of_ble_eq_true rfl) rfl (isHouse_nt hm (by rw [(hZ.c hcn)]; exact hnot)) ?_
        refine r_if_ne_n (pc := 27) (a := 0) (tgt := 33) dX10_gain_27 (by decide) (by omega) (fun c27 => ?_) (fun c27 => ?_)
        · exfalso; omega
        · skip
          refine r_ldc (pc := 30) (v := -100000000) dX10_gain_30 (kc_RX10_226 rfl) ?_
          refine r_ret_i (pc := 32) dX10_gain_32 rfl ?_
          exact ⟨_, Ia, rfl, rfl, (by unfold aGain; rw [atN_n et] <;> rfl), hM.z hZ, fun x j z => hZ x j (by omega) (by omega)⟩
      · exfalso; exact hmm c7

set_option maxHeartbeats 300000 in
set_option maxRecDepth 100000 in
theorem given_m {d : Nat} {I : Im} {G : Gm} {s : Sta} {m : Nat} (hm : isC10 G m) (hM : Mi s I m) {t : Int32} {h : Int32} : Ct (d + 13) 0 0 YX10_given [.ref m, .int t, .int h] (I, G) (qM G (fun zv I2 => PmQ s I m (aGiven s t h) zv I2)) := by
  refine Ct.of (by decide) (by simp [Value.category]) (Nat.le_of_ble_eq_true rfl) ?_
  have hcn := hM.2.1
  have hcn10 := hM.2.2.1
  have hZ : FrZ I I m := FrZ.rf
  show wp _ _ _ _ 0 [some (.ref m), some (.int t), some (.int h), none, none, none] [] _ _
  rcases in_cases (n := sN s) (by have := hcn10; omega) t with ⟨k, hk, rfl, et⟩ | ⟨et, hnot⟩
  · skip
    obtain ⟨hok, hMd⟩ := hM.2.2.2.1 k hk
    have hk0 : MtC I m k (eK' s k) (dT (dK s k)) := mtc_of hok.1 hMd.1 _
    have hn8 : dN (dK s k) ≤ 8 := hok.1.1.2
    have hE : SrC (eK' s k) := src_of hok.1 _
    have hW : WbC (eK' s k) := wbc_of hok.1 _
    have hc30 : ∀ b, dC (dK s k) b ≤ 30 := hok.1.2.1
    rcases in_cases (n := dN (dK s k)) (by have := hn8; omega) h with ⟨hn, hhn, rfl, eh⟩ | ⟨eh, hnoh⟩
    · skip
      by_cases hsh : shP (dK s k) hn
      · skip
        refine r_aload_n (pc := 0) dX10_given_0 rfl ?_
        refine r_iconst (pc := 1) (v := 0) dX10_given_1 (by decide) ?_
        refine r_putI (pc := 2) (v := nI 0) 10 0 84 dX10_given_2 (fl_RX10_84 rfl) (by decide) rfl rfl (c10_o hm) ?_
        obtain ⟨Ia, hIa⟩ : ∃ zz0 : Im, zz0 = up2 I m 0 (nI 0) := ⟨_, rfl⟩
        refine wp_M (M2 := (Ia, G)) (by subst hIa; rfl) ?_
        have hZ : FrZ I Ia m := by rw [hIa]; exact FrZ.rf.u (by omega)
        refine r_aload_n (pc := 5) dX10_given_5 rfl ?_
        refine r_iload_n (pc := 6) dX10_given_6 rfl ?_
        refine r_iload_n (pc := 7) dX10_given_7 rfl ?_
        refine r_callV_P (pc := 8) (b := m) (As := [.int (nI k), .int (nI hn)]) 10 154 dX10_given_8 lk_X10_isHouse (ml_RX10_154 rfl) im_X10_isHouse se_X10_isHouse (by decide) (c10_o hm) (Nat.le_of_ble_eq_true rfl) rfl (isHouse_ct hm (hZ.mt hk0) (by omega) (hZ.c hcn) hcn10 hk hhn) ?_
        refine r_if_ne_n (pc := 11) (a := 1) (tgt := 17) dX10_given_11 (by decide) (by first | omega | (have := cnt_le (dS (dK s k)) hn (dN (dK s k)); omega)) (fun c11 => ?_) (fun c11 => ?_)
        · skip
          have hk1 : MtC I m k (e0 (dK s k)) (dT (dK s k)) := mtc_of hok.1 hMd.1 _
          refine r_aload_n (pc := 17) dX10_given_17 rfl ?_
          refine r_iload_n (pc := 18) dX10_given_18 rfl ?_
          refine r_iload_n (pc := 19) dX10_given_19 rfl ?_
          refine r_callV_P (pc := 20) (b := m) (As := [.int (nI k), .int (nI hn)]) 10 245 dX10_given_20 lk_X10_toldUnit (ml_RX10_245 rfl) im_X10_toldUnit se_X10_toldUnit (by decide) (c10_o hm) (Nat.le_of_ble_eq_true rfl) rfl (toldUnit_ct (E := e0 (dK s k)) hm (hZ.mt hk1) (hZ.c hcn) hcn10 hk (hZ.to hMd.2.2) hhn) ?_
          refine r_istore_n (pc := 23) (L' := [some (.ref m), some (.int (nI k)), some (.int (nI hn)), some (.int (nI (tdP (sD s k) hn + dC (dK s k) hn))), none, none]) dX10_given_23 (by decide) rfl rfl ?_
          refine r_aload_n (pc := 24) dX10_given_24 rfl ?_
          refine r_iload_n (pc := 25) dX10_given_25 rfl ?_
          refine r_iload_n (pc := 26) dX10_given_26 rfl ?_
          refine r_callV_P (pc := 27) (b := m) (As := [.int (nI k), .int (nI hn)]) 10 165 dX10_given_27 lk_X10_isShop (ml_RX10_165 rfl) im_X10_isShop se_X10_isShop (by decide) (c10_o hm) (Nat.le_of_ble_eq_true rfl) rfl (isShopM_y hm (hZ.mt hk0) (hZ.c hcn) hcn10 hk hhn hsh) ?_
          refine r_if_eq_n (pc := 30) (a := 1) (tgt := 54) dX10_given_30 (by decide) (by first | omega | (have := cnt_le (dS (dK s k)) hn (dN (dK s k)); omega)) (fun c30 => ?_) (fun c30 => ?_)
          · exfalso; omega
          · skip
            refine r_aload_n (pc := 33) dX10_given_33 rfl ?_
            refine r_get1 (pc := 34) 10 17 47 dX10_given_34 (fl_RX10_47 rfl) (by decide) rfl (c10_o hm) (c10_p17 hm) ?_
            refine r_bipush (pc := 37) (v := 8) dX10_given_37 (by decide) ?_
            refine r_iload_n (pc := 39) dX10_given_39 rfl ?_
            refine r_imul_n (pc := 40) (a := 8) (b := k) dX10_given_40 ?_
            refine r_iload_n (pc := 41) dX10_given_41 rfl ?_
            refine r_iadd_n (pc := 42) (a := 8 * k) (b := hn) dX10_given_42 ?_
            refine r_iald_n (pc := 43) (i := (8 * k) + hn) dX10_given_43 (c10_a17 hm) (by decide) (by omega) (v := nI (tdA (sD s k) hn)) ((hZ.to hMd.2.2).2.1 _ (by omega)) ?_
            refine r_iload_n (pc := 44) dX10_given_44 rfl ?_
            refine r_isub (pc := 45) (x := nI (tdA (sD s k) hn)) (z := nI (tdP (sD s k) hn + dC (dK s k) hn)) dX10_given_45 ?_
            refine r_aload_n (pc := 46) dX10_given_46 rfl ?_
            refine r_iload_n (pc := 47) dX10_given_47 rfl ?_
            refine r_iload_n (pc := 48) dX10_given_48 rfl ?_
            refine r_callV_P (pc := 49) (b := m) (As := [.int (nI k), .int (nI hn)]) 10 242 dX10_given_49 lk_X10_toldTake (ml_RX10_242 rfl) im_X10_toldTake se_X10_toldTake (by decide) (c10_o hm) (Nat.le_of_ble_eq_true rfl) rfl (toldTake_ct (d := d) (E := e0 (dK s k)) hm (hZ.mt hk1) (hZ.c hcn) hcn10 hk (hZ.to hMd.2.2) (h := hn) (by show hn < dN (dK s k); omega)) ?_
            refine r_imul (pc := 52) (x := (nI (tdA (sD s k) hn)) - (nI (tdP (sD s k) hn + dC (dK s k) hn))) (z := ttF (e0 (dK s k)) (tdA (sD s k)) hn) dX10_given_52 ?_
            refine r_ret_i (pc := 53) dX10_given_53 rfl ?_
            exact ⟨_, Ia, rfl, rfl, (by unfold aGiven; rw [atN_s et, atN_s eh]; exact (show gvF (e0 (dK s k)) (tdP (sD s k)) (tdA (sD s k)) hn = _ from if_pos hsh).symm), hM.z hZ, fun x j z => hZ x j (by omega) (by omega)⟩
        · exfalso; omega
      · skip
        refine r_aload_n (pc := 0) dX10_given_0 rfl ?_
        refine r_iconst (pc := 1) (v := 0) dX10_given_1 (by decide) ?_
        refine r_putI (pc := 2) (v := nI 0) 10 0 84 dX10_given_2 (fl_RX10_84 rfl) (by decide) rfl rfl (c10_o hm) ?_
        obtain ⟨Ia, hIa⟩ : ∃ zz0 : Im, zz0 = up2 I m 0 (nI 0) := ⟨_, rfl⟩
        refine wp_M (M2 := (Ia, G)) (by subst hIa; rfl) ?_
        have hZ : FrZ I Ia m := by rw [hIa]; exact FrZ.rf.u (by omega)
        refine r_aload_n (pc := 5) dX10_given_5 rfl ?_
        refine r_iload_n (pc := 6) dX10_given_6 rfl ?_
        refine r_iload_n (pc := 7) dX10_given_7 rfl ?_
        refine r_callV_P (pc := 8) (b := m) (As := [.int (nI k), .int (nI hn)]) 10 154 dX10_given_8 lk_X10_isHouse (ml_RX10_154 rfl) im_X10_isHouse se_X10_isHouse (by decide) (c10_o hm) (Nat.le_of_ble_eq_true rfl) rfl (isHouse_ct hm (hZ.mt hk0) (by omega) (hZ.c hcn) hcn10 hk hhn) ?_
        refine r_if_ne_n (pc := 11) (a := 1) (tgt := 17) dX10_given_11 (by decide) (by first | omega | (have := cnt_le (dS (dK s k)) hn (dN (dK s k)); omega)) (fun c11 => ?_) (fun c11 => ?_)
        · skip
          have hk1 : MtC I m k (e0 (dK s k)) (dT (dK s k)) := mtc_of hok.1 hMd.1 _
          refine r_aload_n (pc := 17) dX10_given_17 rfl ?_
          refine r_iload_n (pc := 18) dX10_given_18 rfl ?_
          refine r_iload_n (pc := 19) dX10_given_19 rfl ?_
          refine r_callV_P (pc := 20) (b := m) (As := [.int (nI k), .int (nI hn)]) 10 245 dX10_given_20 lk_X10_toldUnit (ml_RX10_245 rfl) im_X10_toldUnit se_X10_toldUnit (by decide) (c10_o hm) (Nat.le_of_ble_eq_true rfl) rfl (toldUnit_ct (E := e0 (dK s k)) hm (hZ.mt hk1) (hZ.c hcn) hcn10 hk (hZ.to hMd.2.2) hhn) ?_
          refine r_istore_n (pc := 23) (L' := [some (.ref m), some (.int (nI k)), some (.int (nI hn)), some (.int (nI (tdP (sD s k) hn + dC (dK s k) hn))), none, none]) dX10_given_23 (by decide) rfl rfl ?_
          refine r_aload_n (pc := 24) dX10_given_24 rfl ?_
          refine r_iload_n (pc := 25) dX10_given_25 rfl ?_
          refine r_iload_n (pc := 26) dX10_given_26 rfl ?_
          refine r_callV_P (pc := 27) (b := m) (As := [.int (nI k), .int (nI hn)]) 10 165 dX10_given_27 lk_X10_isShop (ml_RX10_165 rfl) im_X10_isShop se_X10_isShop (by decide) (c10_o hm) (Nat.le_of_ble_eq_true rfl) rfl (isShopM_n hm (hZ.mt hk0) (hZ.c hcn) hcn10 hk hhn hsh) ?_
          refine r_if_eq_n (pc := 30) (a := 0) (tgt := 54) dX10_given_30 (by decide) (by first | omega | (have := cnt_le (dS (dK s k)) hn (dN (dK s k)); omega)) (fun c30 => ?_) (fun c30 => ?_)
          · skip
            refine r_iconst (pc := 54) (v := 0) dX10_given_54 (by decide) ?_
            refine r_istore (pc := 55) (L' := [some (.ref m), some (.int (nI k)), some (.int (nI hn)), some (.int (nI (tdP (sD s k) hn + dC (dK s k) hn))), some (.int (nI 0)), none]) dX10_given_55 (by decide) rfl rfl ?_
            refine r_iconst (pc := 57) (v := 0) dX10_given_57 (by decide) ?_
            refine r_istore (pc := 58) (L' := [some (.ref m), some (.int (nI k)), some (.int (nI hn)), some (.int (nI (tdP (sD s k) hn + dC (dK s k) hn))), some (.int (nI 0)), some (.int (nI 0))]) dX10_given_58 (by decide) rfl rfl ?_
            have lp60 : ∀ (n60 : Nat), ∀ (b : Nat) (q : Int32), dN (dK s k) - b = n60 → (b ≤ dN (dK s k)) → (q = sm (fun b => if dS (dK s k) b = some hn then efF (e0 (dK s k)) (tdP (sD s k)) (tdA (sD s k)) hn b else 0) b) → wp (d + 13) 0 0 YX10_given 60 [some (.ref m), some (.int (nI k)), some (.int (nI hn)), some (.int (nI (tdP (sD s k) hn + dC (dK s k) hn))), some (.int q), some (.int (nI b))] [] (Ia, G) (qM G (fun zv I2 => PmQ s I m (aGiven s (nI k) (nI hn)) zv I2)) := by
              intro n60
              induction n60 using Nat.strongRecOn with
              | ind n60 ih60 =>
                intro b q hmu60 hb hq
                refine r_iload (pc := 60) dX10_given_60 rfl ?_
                refine r_aload_n (pc := 62) dX10_given_62 rfl ?_
                refine r_get1 (pc := 63) 10 6 13 dX10_given_63 (fl_RX10_13 rfl) (by decide) rfl (c10_o hm) (c10_p6 hm) ?_
                refine r_iload_n (pc := 66) dX10_given_66 rfl ?_
                refine r_iald_n (pc := 67) (i := k) dX10_given_67 (c10_a6 hm) (by decide) (by omega) (v := nI (dN (dK s k))) ((hZ.mt hk0).1) ?_
                refine r_icmp_ge_n (pc := 68) (a := b) (b := dN (dK s k)) (tgt := 119) dX10_given_68 (by decide) (by first | omega | (have := cnt_le (dS (dK s k)) hn (dN (dK s k)); omega)) (by first | omega | (have := cnt_le (dS (dK s k)) hn (dN (dK s k)); omega)) (fun c68 => ?_) (fun c68 => ?_)
                · skip
                  refine r_iload (pc := 119) dX10_given_119 rfl ?_
                  refine r_ret_i (pc := 121) dX10_given_121 rfl ?_
                  exact ⟨_, Ia, rfl, rfl, (by unfold aGiven; rw [atN_s et, atN_s eh]; rw [hq, show b = dN (dK s k) by omega]; exact (show gvF (e0 (dK s k)) (tdP (sD s k)) (tdA (sD s k)) hn = _ from if_neg hsh).symm), hM.z hZ, fun x j z => hZ x j (by omega) (by omega)⟩
                · skip
                  refine r_iload (pc := 71) dX10_given_71 rfl ?_
                  refine r_aload_n (pc := 73) dX10_given_73 rfl ?_
                  refine r_iload_n (pc := 74) dX10_given_74 rfl ?_
                  refine r_iload (pc := 75) dX10_given_75 rfl ?_
                  refine r_iload_n (pc := 77) dX10_given_77 rfl ?_
                  refine r_callV_P (pc := 78) (b := m) (As := [.int (nI k), .int (nI b), .int (nI hn)]) 10 151 dX10_given_78 lk_X10_buys (ml_RX10_151 rfl) im_X10_buys se_X10_buys (by decide) (c10_o hm) (Nat.le_of_ble_eq_true rfl) rfl (buys_ct hm (hZ.mt hk0) (by omega) (by omega) (by omega)) ?_
                  refine r_if_eq_b (pc := 81) (tgt := 109) dX10_given_81 (by decide) (fun c81 => ?_) (fun c81 => ?_)
                  · skip
                    have hcase : sm (fun b => if dS (dK s k) b = some hn then efF (e0 (dK s k)) (tdP (sD s k)) (tdA (sD s k)) hn b else 0) b + nI 0 = sm (fun b => if dS (dK s k) b = some hn then efF (e0 (dK s k)) (tdP (sD s k)) (tdA (sD s k)) hn b else 0) (b + 1) := congrArg (_ + ·) (if_neg c81).symm
                    refine r_iconst (pc := 109) (v := 0) dX10_given_109 (by decide) ?_
                    refine r_iadd (pc := 110) (x := q) (z := 0) dX10_given_110 ?_
                    refine r_istore (pc := 111) (L' := [some (.ref m), some (.int (nI k)), some (.int (nI hn)), some (.int (nI (tdP (sD s k) hn + dC (dK s k) hn))), some (.int (q + 0)), some (.int (nI b))]) dX10_given_111 (by decide) rfl rfl ?_
                    refine r_iinc (pc := 113) (v := nI (b + 1)) (L' := [some (.ref m), some (.int (nI k)), some (.int (nI hn)), some (.int (nI (tdP (sD s k) hn + dC (dK s k) hn))), some (.int (q + 0)), some (.int (nI (b + 1)))]) dX10_given_113 rfl (nI_inc _) (by decide) rfl rfl ?_
                    refine r_goto (pc := 116) (tgt := 60) dX10_given_116 (by decide) ?_
                    exact ih60 _ (by omega) (b + 1) (q + 0) rfl (by omega) (by rw [hq]; exact hcase)
                  · skip
                    have hcase : sm (fun b => if dS (dK s k) b = some hn then efF (e0 (dK s k)) (tdP (sD s k)) (tdA (sD s k)) hn b else 0) b + (nI (tdP (sD s k) b) - nI (tdP (sD s k) hn + dC (dK s k) hn)) * ttF (e0 (dK s k)) (tdA (sD s k)) b = sm (fun b => if dS (dK s k) b = some hn then efF (e0 (dK s k)) (tdP (sD s k)) (tdA (sD s k)) hn b else 0) (b + 1) := congrArg (_ + ·) (if_pos c81).symm
                    refine r_aload_n (pc := 84) dX10_given_84 rfl ?_
                    refine r_get1 (pc := 85) 10 16 44 dX10_given_85 (fl_RX10_44 rfl) (by decide) rfl (c10_o hm) (c10_p16 hm) ?_
                    refine r_bipush (pc := 88) (v := 8) dX10_given_88 (by decide) ?_
                    refine r_iload_n (pc := 90) dX10_given_90 rfl ?_
                    refine r_imul_n (pc := 91) (a := 8) (b := k) dX10_given_91 ?_
                    refine r_iload (pc := 92) dX10_given_92 rfl ?_
                    refine r_iadd_n (pc := 94) (a := 8 * k) (b := b) dX10_given_94 ?_
                    refine r_iald_n (pc := 95) (i := (8 * k) + b) dX10_given_95 (c10_a16 hm) (by decide) (by omega) (v := nI (tdP (sD s k) b)) ((hZ.to hMd.2.2).1 _ (by omega)) ?_
                    refine r_iload_n (pc := 96) dX10_given_96 rfl ?_
                    refine r_isub (pc := 97) (x := nI (tdP (sD s k) b)) (z := nI (tdP (sD s k) hn + dC (dK s k) hn)) dX10_given_97 ?_
                    refine r_aload_n (pc := 98) dX10_given_98 rfl ?_
                    refine r_iload_n (pc := 99) dX10_given_99 rfl ?_
                    refine r_iload (pc := 100) dX10_given_100 rfl ?_
                    refine r_callV_P (pc := 102) (b := m) (As := [.int (nI k), .int (nI b)]) 10 242 dX10_given_102 lk_X10_toldTake (ml_RX10_242 rfl) im_X10_toldTake se_X10_toldTake (by decide) (c10_o hm) (Nat.le_of_ble_eq_true rfl) rfl (toldTake_ct (d := d) (E := e0 (dK s k)) hm (hZ.mt hk1) (hZ.c hcn) hcn10 hk (hZ.to hMd.2.2) (h := b) (by show b < dN (dK s k); omega)) ?_
                    refine r_imul (pc := 105) (x := (nI (tdP (sD s k) b)) - (nI (tdP (sD s k) hn + dC (dK s k) hn))) (z := ttF (e0 (dK s k)) (tdA (sD s k)) b) dX10_given_105 ?_
                    refine r_goto (pc := 106) (tgt := 110) dX10_given_106 (by decide) ?_
                    refine r_iadd (pc := 110) (x := q) (z := ((nI (tdP (sD s k) b)) - (nI (tdP (sD s k) hn + dC (dK s k) hn))) * (ttF (e0 (dK s k)) (tdA (sD s k)) b)) dX10_given_110 ?_
                    refine r_istore (pc := 111) (L' := [some (.ref m), some (.int (nI k)), some (.int (nI hn)), some (.int (nI (tdP (sD s k) hn + dC (dK s k) hn))), some (.int (q + (((nI (tdP (sD s k) b)) - (nI (tdP (sD s k) hn + dC (dK s k) hn))) * (ttF (e0 (dK s k)) (tdA (sD s k)) b)))), some (.int (nI b))]) dX10_given_111 (by decide) rfl rfl ?_
                    refine r_iinc (pc := 113) (v := nI (b + 1)) (L' := [some (.ref m), some (.int (nI k)), some (.int (nI hn)), some (.int (nI (tdP (sD s k) hn + dC (dK s k) hn))), some (.int (q + (((nI (tdP (sD s k) b)) - (nI (tdP (sD s k) hn + dC (dK s k) hn))) * (ttF (e0 (dK s k)) (tdA (sD s k)) b)))), some (.int (nI (b + 1)))]) dX10_given_113 rfl (nI_inc _) (by decide) rfl rfl ?_
                    refine r_goto (pc := 116) (tgt := 60) dX10_given_116 (by decide) ?_
                    exact ih60 _ (by omega) (b + 1) (q + (((nI (tdP (sD s k) b)) - (nI (tdP (sD s k) hn + dC (dK s k) hn))) * (ttF (e0 (dK s k)) (tdA (sD s k)) b))) rfl (by omega) (by rw [hq]; exact hcase)
            exact lp60 _ 0 (nI 0) rfl (by omega) (by rfl)
          · exfalso; omega
        · exfalso; omega
    · skip
      refine r_aload_n (pc := 0) dX10_given_0 rfl ?_
      refine r_iconst (pc := 1) (v := 0) dX10_given_1 (by decide) ?_
      refine r_putI (pc := 2) (v := nI 0) 10 0 84 dX10_given_2 (fl_RX10_84 rfl) (by decide) rfl rfl (c10_o hm) ?_
      obtain ⟨Ia, hIa⟩ : ∃ zz0 : Im, zz0 = up2 I m 0 (nI 0) := ⟨_, rfl⟩
      refine wp_M (M2 := (Ia, G)) (by subst hIa; rfl) ?_
      have hZ : FrZ I Ia m := by rw [hIa]; exact FrZ.rf.u (by omega)
      refine r_aload_n (pc := 5) dX10_given_5 rfl ?_
      refine r_iload_n (pc := 6) dX10_given_6 rfl ?_
      refine r_iload_n (pc := 7) dX10_given_7 rfl ?_
      refine r_callV_P (pc := 8) (b := m) (As := [.int (nI k), .int h]) 10 154 dX10_given_8 lk_X10_isHouse (ml_RX10_154 rfl) im_X10_isHouse se_X10_isHouse (by decide) (c10_o hm) (Nat.le_of_ble_eq_true rfl) rfl (isHouse_no hm (hZ.mt hk0) (hZ.c hcn) hcn10 hk hnoh) ?_
      refine r_if_ne_n (pc := 11) (a := 0) (tgt := 17) dX10_given_11 (by decide) (by first | omega | (have := cnt_le (dS (dK s k)) hn (dN (dK s k)); omega)) (fun c11 => ?_) (fun c11 => ?_)
      · exfalso; omega
      · skip
        refine r_ldc (pc := 14) (v := -100000000) dX10_given_14 (kc_RX10_226 rfl) ?_
        refine r_ret_i (pc := 16) dX10_given_16 rfl ?_
        exact ⟨_, Ia, rfl, rfl, (by unfold aGiven; rw [atN_s et, atN_n eh] <;> rfl), hM.z hZ, fun x j z => hZ x j (by omega) (by omega)⟩
  · skip
    refine r_aload_n (pc := 0) dX10_given_0 rfl ?_
    refine r_iconst (pc := 1) (v := 0) dX10_given_1 (by decide) ?_
    refine r_putI (pc := 2) (v := nI 0) 10 0 84 dX10_given_2 (fl_RX10_84 rfl) (by decide) rfl rfl (c10_o hm) ?_
    obtain ⟨Ia, hIa⟩ : ∃ zz0 : Im, zz0 = up2 I m 0 (nI 0) := ⟨_, rfl⟩
    refine wp_M (M2 := (Ia, G)) (by subst hIa; rfl) ?_
    have hZ : FrZ I Ia m := by rw [hIa]; exact FrZ.rf.u (by omega)
    refine r_aload_n (pc := 5) dX10_given_5 rfl ?_
    refine r_iload_n (pc := 6) dX10_given_6 rfl ?_
    refine r_iload_n (pc := 7) dX10_given_7 rfl ?_
    refine r_callV_P (pc := 8) (b := m) (As := [.int t, .int h]) 10 154 dX10_given_8 lk_X10_isHouse (ml_RX10_154 rfl) im_X10_isHouse se_X10_isHouse (by decide) (c10_o hm) (Nat.le_of_ble_eq_true rfl) rfl (isHouse_nt hm (by rw [(hZ.c hcn)]; exact hnot)) ?_
    refine r_if_ne_n (pc := 11) (a := 0) (tgt := 17) dX10_given_11 (by decide) (by first | omega | (have := cnt_le (dS (dK s k)) hn (dN (dK s k)); omega)) (fun c11 => ?_) (fun c11 => ?_)
    · exfalso; omega
    · skip
      refine r_ldc (pc := 14) (v := -100000000) dX10_given_14 (kc_RX10_226 rfl) ?_
      refine r_ret_i (pc := 16) dX10_given_16 rfl ?_
      exact ⟨_, Ia, rfl, rfl, (by unfold aGiven; rw [atN_n et] <;> rfl), hM.z hZ, fun x j z => hZ x j (by omega) (by omega)⟩

set_option maxHeartbeats 300000 in
set_option maxRecDepth 100000 in
theorem doers_m {d : Nat} {I : Im} {G : Gm} {s : Sta} {m : Nat} (hm : isC10 G m) (hM : Mi s I m) {t : Int32} : Ct (d + 42) 0 0 YX10_doers [.ref m, .int t] (I, G) (qM G (fun zv I2 => PmQ s I m (aDoers s t) zv I2)) := by
  refine Ct.of (by decide) (by simp [Value.category]) (Nat.le_of_ble_eq_true rfl) ?_
  have hcn := hM.2.1
  have hcn10 := hM.2.2.1
  have hZ : FrZ I I m := FrZ.rf
  show wp _ _ _ _ 0 [some (.ref m), some (.int t), none, none] [] _ _
  rcases in_cases (n := sN s) (by have := hcn10; omega) t with ⟨k, hk, rfl, et⟩ | ⟨et, hnot⟩
  · skip
    obtain ⟨hok, hMd⟩ := hM.2.2.2.1 k hk
    have hk0 : MtC I m k (eK' s k) (dT (dK s k)) := mtc_of hok.1 hMd.1 _
    have hn8 : dN (dK s k) ≤ 8 := hok.1.1.2
    have hE : SrC (eK' s k) := src_of hok.1 _
    have hW : WbC (eK' s k) := wbc_of hok.1 _
    have hc30 : ∀ b, dC (dK s k) b ≤ 30 := hok.1.2.1
    refine r_aload_n (pc := 0) dX10_doers_0 rfl ?_
    refine r_iconst (pc := 1) (v := 0) dX10_doers_1 (by decide) ?_
    refine r_putI (pc := 2) (v := nI 0) 10 0 84 dX10_doers_2 (fl_RX10_84 rfl) (by decide) rfl rfl (c10_o hm) ?_
    obtain ⟨Ia, hIa⟩ : ∃ zz0 : Im, zz0 = up2 I m 0 (nI 0) := ⟨_, rfl⟩
    refine wp_M (M2 := (Ia, G)) (by subst hIa; rfl) ?_
    have hZ : FrZ I Ia m := by rw [hIa]; exact FrZ.rf.u (by omega)
    refine r_aload_n (pc := 5) dX10_doers_5 rfl ?_
    refine r_iload_n (pc := 6) dX10_doers_6 rfl ?_
    refine r_callV_P (pc := 7) (b := m) (As := [.int (nI k)]) 10 148 dX10_doers_7 lk_X10_isTrade (ml_RX10_148 rfl) im_X10_isTrade se_X10_isTrade (by decide) (c10_o hm) (Nat.le_of_ble_eq_true rfl) rfl (isTrade_y hm (hZ.c hcn) hcn10 hk) ?_
    refine r_if_ne_n (pc := 10) (a := 1) (tgt := 15) dX10_doers_10 (by decide) (by omega) (fun c10 => ?_) (fun c10 => ?_)
    · skip
      refine r_aload_n (pc := 15) dX10_doers_15 rfl ?_
      refine r_iload_n (pc := 16) dX10_doers_16 rfl ?_
      refine r_iconst (pc := 17) (v := 0) dX10_doers_17 (by decide) ?_
      refine r_bipush (pc := 18) (v := 41) dX10_doers_18 (by decide) ?_
      refine r_iconst (pc := 20) (v := 0) dX10_doers_20 (by decide) ?_
      refine r_iconst (pc := 21) (v := 0) dX10_doers_21 (by decide) ?_
      refine r_callV_V (pc := 22) (b := m) (As := [.int (nI k), .int (nI 0), .int (nI 41), .int (nI 0), .int (nI 0)]) 10 191 dX10_doers_22 lk_X10_terms (ml_RX10_191 rfl) im_X10_terms se_X10_terms (by decide) (c10_o hm) (Nat.le_of_ble_eq_true rfl) rfl (terms_f (E := (e0 (dK s k))) hm (hZ.mt (mtc_of hok.1 hMd.1 _)) ⟨rfl, rfl, rfl, rfl⟩ (hZ.c hcn) hcn10 hk) (fun I1 h1 => ?_)
      obtain ⟨hS1, hF1⟩ := h1
      have hZ : FrZ I I1 m := hZ.tr hF1.z
      refine r_iconst (pc := 25) (v := 0) dX10_doers_25 (by decide) ?_
      refine r_istore_n (pc := 26) (L' := [some (.ref m), some (.int (nI k)), some (.int (nI 0)), none]) dX10_doers_26 (by decide) rfl rfl ?_
      refine r_iconst (pc := 27) (v := 0) dX10_doers_27 (by decide) ?_
      refine r_istore_n (pc := 28) (L' := [some (.ref m), some (.int (nI k)), some (.int (nI 0)), some (.int (nI 0))]) dX10_doers_28 (by decide) rfl rfl ?_
      have lp29 : ∀ (n29 : Nat), ∀ (h : Nat) (q : Int32) (I2 : Im), dN (dK s k) - h = n29 → (h ≤ dN (dK s k)) → (q = orF (weF (e0 (dK s k)) idq (tdP (sD s k)) (tdA (sD s k))) h) → (KV I2 m (e0 (dK s k))) → (FrK I1 I2 m) → wp (d + 42) 0 0 YX10_doers 29 [some (.ref m), some (.int (nI k)), some (.int q), some (.int (nI h))] [] (I2, G) (qM G (fun zv I2 => PmQ s I m (aDoers s (nI k)) zv I2)) := by
        intro n29
        induction n29 using Nat.strongRecOn with
        | ind n29 ih29 =>
          intro h q I2 hmu29 hh hq hK2 hF2
          have hS2 := hS1.keep hF2 hK2
          have hZ2 : FrZ I I2 m := hZ.tr hF2.w.z
          refine r_iload_n (pc := 29) dX10_doers_29 rfl ?_
          refine r_aload_n (pc := 30) dX10_doers_30 rfl ?_
          refine r_get1 (pc := 31) 10 6 13 dX10_doers_31 (fl_RX10_13 rfl) (by decide) rfl (c10_o hm) (c10_p6 hm) ?_
          refine r_iload_n (pc := 34) dX10_doers_34 rfl ?_
          refine r_iald_n (pc := 35) (i := k) dX10_doers_35 (c10_a6 hm) (by decide) (by omega) (v := nI (dN (dK s k))) (hS2.1.1) ?_
          refine r_icmp_ge_n (pc := 36) (a := h) (b := dN (dK s k)) (tgt := 64) dX10_doers_36 (by decide) (by omega) (by omega) (fun c36 => ?_) (fun c36 => ?_)
          · skip
            refine r_iload_n (pc := 64) dX10_doers_64 rfl ?_
            refine r_ret_i (pc := 65) dX10_doers_65 rfl ?_
            exact ⟨_, I2, rfl, rfl, (by unfold aDoers; rw [atN_s et, hq, show h = dN (dK s k) by omega]), hM.z hZ2, fun x j z => hZ2 x j (by omega) (by omega)⟩
          · skip
            refine r_iload_n (pc := 39) dX10_doers_39 rfl ?_
            refine r_aload_n (pc := 40) dX10_doers_40 rfl ?_
            refine r_iload_n (pc := 41) dX10_doers_41 rfl ?_
            refine r_iload_n (pc := 42) dX10_doers_42 rfl ?_
            refine r_callV_M (pc := 43) (b := m) (As := [.int (nI k), .int (nI h)]) 10 248 dX10_doers_43 lk_X10_wouldElse (ml_RX10_248 rfl) im_X10_wouldElse se_X10_wouldElse (by decide) (c10_o hm) (Nat.le_of_ble_eq_true rfl) rfl (wouldElse_ct (d := d) hm hS2 hc30 (by omega) (bdm (src_of hok.1 _) (wbc_of hok.1 _)) (hZ2.to hMd.2.2) (h := h) (by show h < dN (dK s k); omega)) (fun v43 I3 h3 => ?_)
            obtain ⟨rfl, hK3, hF3⟩ := h3
            refine r_if_eq_b (pc := 46) (tgt := 55) dX10_doers_46 (by decide) (fun c46 => ?_) (fun c46 => ?_)
            · skip
              have hcase : orF (weF (e0 (dK s k)) idq (tdP (sD s k)) (tdA (sD s k))) h ||| nI 0 = orF (weF (e0 (dK s k)) idq (tdP (sD s k)) (tdA (sD s k))) (h + 1) := (Int32.or_zero).trans (show orF (weF (e0 (dK s k)) idq (tdP (sD s k)) (tdA (sD s k))) (h + 1) = _ from if_neg c46).symm
              refine r_iconst (pc := 55) (v := 0) dX10_doers_55 (by decide) ?_
              refine r_ior (pc := 56) (x := q) (z := 0) dX10_doers_56 ?_
              refine r_istore_n (pc := 57) (L' := [some (.ref m), some (.int (nI k)), some (.int (q ||| 0)), some (.int (nI h))]) dX10_doers_57 (by decide) rfl rfl ?_
              refine r_iinc (pc := 58) (v := nI (h + 1)) (L' := [some (.ref m), some (.int (nI k)), some (.int (q ||| 0)), some (.int (nI (h + 1)))]) dX10_doers_58 rfl (nI_inc _) (by decide) rfl rfl ?_
              refine r_goto (pc := 61) (tgt := 29) dX10_doers_61 (by decide) ?_
              exact ih29 _ (by omega) (h + 1) (q ||| 0) I3 rfl (by omega) (by rw [hq]; exact hcase) hK3 (hF2.tr hF3)
            · skip
              have hcase : orF (weF (e0 (dK s k)) idq (tdP (sD s k)) (tdA (sD s k))) h ||| nI 1 <<< (nI h &&& 31) = orF (weF (e0 (dK s k)) idq (tdP (sD s k)) (tdA (sD s k))) (h + 1) := (show orF (weF (e0 (dK s k)) idq (tdP (sD s k)) (tdA (sD s k))) (h + 1) = _ from if_pos c46).symm
              refine r_iconst (pc := 49) (v := 1) dX10_doers_49 (by decide) ?_
              refine r_iload_n (pc := 50) dX10_doers_50 rfl ?_
              refine r_ishl (pc := 51) (x := 1) (z := nI h) dX10_doers_51 ?_
              refine r_goto (pc := 52) (tgt := 56) dX10_doers_52 (by decide) ?_
              refine r_ior (pc := 56) (x := q) (z := 1 <<< ((nI h) &&& 31)) dX10_doers_56 ?_
              refine r_istore_n (pc := 57) (L' := [some (.ref m), some (.int (nI k)), some (.int (q ||| (1 <<< ((nI h) &&& 31)))), some (.int (nI h))]) dX10_doers_57 (by decide) rfl rfl ?_
              refine r_iinc (pc := 58) (v := nI (h + 1)) (L' := [some (.ref m), some (.int (nI k)), some (.int (q ||| (1 <<< ((nI h) &&& 31)))), some (.int (nI (h + 1)))]) dX10_doers_58 rfl (nI_inc _) (by decide) rfl rfl ?_
              refine r_goto (pc := 61) (tgt := 29) dX10_doers_61 (by decide) ?_
              exact ih29 _ (by omega) (h + 1) (q ||| (1 <<< ((nI h) &&& 31))) I3 rfl (by omega) (by rw [hq]; exact hcase) hK3 (hF2.tr hF3)
      exact lp29 _ 0 (nI 0) I1 rfl (by omega) (by rfl) hS1.2.2.2.2.2 FrK.rf
    · exfalso; omega
  · skip
    refine r_aload_n (pc := 0) dX10_doers_0 rfl ?_
    refine r_iconst (pc := 1) (v := 0) dX10_doers_1 (by decide) ?_
    refine r_putI (pc := 2) (v := nI 0) 10 0 84 dX10_doers_2 (fl_RX10_84 rfl) (by decide) rfl rfl (c10_o hm) ?_
    obtain ⟨Ia, hIa⟩ : ∃ zz0 : Im, zz0 = up2 I m 0 (nI 0) := ⟨_, rfl⟩
    refine wp_M (M2 := (Ia, G)) (by subst hIa; rfl) ?_
    have hZ : FrZ I Ia m := by rw [hIa]; exact FrZ.rf.u (by omega)
    refine r_aload_n (pc := 5) dX10_doers_5 rfl ?_
    refine r_iload_n (pc := 6) dX10_doers_6 rfl ?_
    refine r_callV_P (pc := 7) (b := m) (As := [.int t]) 10 148 dX10_doers_7 lk_X10_isTrade (ml_RX10_148 rfl) im_X10_isTrade se_X10_isTrade (by decide) (c10_o hm) (Nat.le_of_ble_eq_true rfl) rfl (isTrade_n hm (hZ.c hcn) hnot) ?_
    refine r_if_ne_n (pc := 10) (a := 0) (tgt := 15) dX10_doers_10 (by decide) (by omega) (fun c10 => ?_) (fun c10 => ?_)
    · exfalso; omega
    · skip
      refine r_iconst (pc := 13) (v := -1) dX10_doers_13 (by decide) ?_
      refine r_ret_i (pc := 14) dX10_doers_14 rfl ?_
      exact ⟨_, Ia, rfl, rfl, (by unfold aDoers; rw [atN_n et] <;> rfl), hM.z hZ, fun x j z => hZ x j (by omega) (by omega)⟩

set_option maxHeartbeats 300000 in
set_option maxRecDepth 100000 in
theorem fee_m {d : Nat} {I : Im} {G : Gm} {s : Sta} {m : Nat} (hm : isC10 G m) (hM : Mi s I m) {t : Int32} {h : Int32} {w : Int32} : Ct (d + 4) 0 0 YX10_fee [.ref m, .int t, .int h, .int w] (I, G) (qM G (fun zv I2 => PmQ s I m (aFee s t h w) zv I2)) := by
  refine Ct.of (by decide) (by simp [Value.category]) (Nat.le_of_ble_eq_true rfl) ?_
  have hcn := hM.2.1
  have hcn10 := hM.2.2.1
  have hZ : FrZ I I m := FrZ.rf
  show wp _ _ _ _ 0 [some (.ref m), some (.int t), some (.int h), some (.int w), none, none] [] _ _
  rcases in_cases (n := sN s) (by have := hcn10; omega) t with ⟨k, hk, rfl, et⟩ | ⟨et, hnot⟩
  · skip
    obtain ⟨hok, hMd⟩ := hM.2.2.2.1 k hk
    have hk0 : MtC I m k (eK' s k) (dT (dK s k)) := mtc_of hok.1 hMd.1 _
    have hn8 : dN (dK s k) ≤ 8 := hok.1.1.2
    have hE : SrC (eK' s k) := src_of hok.1 _
    have hW : WbC (eK' s k) := wbc_of hok.1 _
    have hc30 : ∀ b, dC (dK s k) b ≤ 30 := hok.1.2.1
    rcases in_cases (n := dN (dK s k)) (by have := hn8; omega) h with ⟨hn, hhn, rfl, eh⟩ | ⟨eh, hnoh⟩
    · skip
      rcases in_cases (n := 2) (by omega) w with ⟨wn, hwn, rfl, ew⟩ | ⟨ew, hnow⟩
      · skip
        rcases (show wn = 0 ∨ wn = 1 by omega) with rfl | rfl
        · skip
          refine r_aload_n (pc := 0) dX10_fee_0 rfl ?_
          refine r_iconst (pc := 1) (v := 0) dX10_fee_1 (by decide) ?_
          refine r_putI (pc := 2) (v := nI 0) 10 0 84 dX10_fee_2 (fl_RX10_84 rfl) (by decide) rfl rfl (c10_o hm) ?_
          obtain ⟨Ia, hIa⟩ : ∃ zz0 : Im, zz0 = up2 I m 0 (nI 0) := ⟨_, rfl⟩
          refine wp_M (M2 := (Ia, G)) (by subst hIa; rfl) ?_
          have hZ : FrZ I Ia m := by rw [hIa]; exact FrZ.rf.u (by omega)
          refine r_aload_n (pc := 5) dX10_fee_5 rfl ?_
          refine r_iload_n (pc := 6) dX10_fee_6 rfl ?_
          refine r_iload_n (pc := 7) dX10_fee_7 rfl ?_
          refine r_callV_P (pc := 8) (b := m) (As := [.int (nI k), .int (nI hn)]) 10 154 dX10_fee_8 lk_X10_isHouse (ml_RX10_154 rfl) im_X10_isHouse se_X10_isHouse (by decide) (c10_o hm) (Nat.le_of_ble_eq_true rfl) rfl (isHouse_ct hm (hZ.mt hk0) (by omega) (hZ.c hcn) hcn10 hk hhn) ?_
          refine r_if_eq_n (pc := 11) (a := 1) (tgt := 23) dX10_fee_11 (by decide) (by first | omega | (have := cnt_le (dS (dK s k)) b (dN (dK s k)); omega)) (fun c11 => ?_) (fun c11 => ?_)
          · exfalso; omega
          · skip
            refine r_iload_n (pc := 14) dX10_fee_14 rfl ?_
            refine r_iconst (pc := 15) (v := 0) dX10_fee_15 (by decide) ?_
            refine r_iconst (pc := 16) (v := 1) dX10_fee_16 (by decide) ?_
            refine r_callS_P (pc := 17) (As := [.int (nI 0), .int (nI 0), .int (nI 1)]) 123 dX10_fee_17 lk_X10_isIn (ml_RX10_123 rfl) sm_X10_isIn (Nat.le_of_ble_eq_true rfl) rfl (isIn_y (n := 1) (by omega) (by omega)) ?_
            refine r_if_ne_n (pc := 20) (a := 1) (tgt := 26) dX10_fee_20 (by decide) (by first | omega | (have := cnt_le (dS (dK s k)) b (dN (dK s k)); omega)) (fun c20 => ?_) (fun c20 => ?_)
            · skip
              refine r_aload_n (pc := 26) dX10_fee_26 rfl ?_
              refine r_iload_n (pc := 27) dX10_fee_27 rfl ?_
              refine r_iconst (pc := 28) (v := 0) dX10_fee_28 (by decide) ?_
              refine r_bipush (pc := 29) (v := 41) dX10_fee_29 (by decide) ?_
              refine r_iconst (pc := 31) (v := 0) dX10_fee_31 (by decide) ?_
              refine r_iconst (pc := 32) (v := 0) dX10_fee_32 (by decide) ?_
              refine r_callV_V (pc := 33) (b := m) (As := [.int (nI k), .int (nI 0), .int (nI 41), .int (nI 0), .int (nI 0)]) 10 191 dX10_fee_33 lk_X10_terms (ml_RX10_191 rfl) im_X10_terms se_X10_terms (by decide) (c10_o hm) (Nat.le_of_ble_eq_true rfl) rfl (terms_f (E := (e0 (dK s k))) hm (hZ.mt (mtc_of hok.1 hMd.1 _)) ⟨rfl, rfl, rfl, rfl⟩ (hZ.c hcn) hcn10 hk) (fun I1 h1 => ?_)
              obtain ⟨hS1, hF1⟩ := h1
              have hZ : FrZ I I1 m := hZ.tr hF1.z
              refine r_iconst (pc := 36) (v := 0) dX10_fee_36 (by decide) ?_
              refine r_istore (pc := 37) (L' := [some (.ref m), some (.int (nI k)), some (.int (nI hn)), some (.int (nI 0)), some (.int (nI 0)), none]) dX10_fee_37 (by decide) rfl rfl ?_
              refine r_iconst (pc := 39) (v := 0) dX10_fee_39 (by decide) ?_
              refine r_istore (pc := 40) (L' := [some (.ref m), some (.int (nI k)), some (.int (nI hn)), some (.int (nI 0)), some (.int (nI 0)), some (.int (nI 0))]) dX10_fee_40 (by decide) rfl rfl ?_
              have lp42 : ∀ (n42 : Nat), ∀ (b : Nat) (q : Int32), dN (dK s k) - b = n42 → (b ≤ dN (dK s k)) → (q = sm (fun x => if (fun x => anF (dS (dK s k)) x hn) x = true then (if shP (dK s k) x then fyF (e0 (dK s k)) x else 0) - nI (dE (dK s k) x) else 0) b) → wp (d + 4) 0 0 YX10_fee 42 [some (.ref m), some (.int (nI k)), some (.int (nI hn)), some (.int (nI 0)), some (.int q), some (.int (nI b))] [] (I1, G) (qM G (fun zv I2 => PmQ s I m (aFee s (nI k) (nI hn) (nI 0)) zv I2)) := by
                intro n42
                induction n42 using Nat.strongRecOn with
                | ind n42 ih42 =>
                  intro b q hmu42 hb hq
                  refine r_iload (pc := 42) dX10_fee_42 rfl ?_
                  refine r_aload_n (pc := 44) dX10_fee_44 rfl ?_
                  refine r_get1 (pc := 45) 10 6 13 dX10_fee_45 (fl_RX10_13 rfl) (by decide) rfl (c10_o hm) (c10_p6 hm) ?_
                  refine r_iload_n (pc := 48) dX10_fee_48 rfl ?_
                  refine r_iald_n (pc := 49) (i := k) dX10_fee_49 (c10_a6 hm) (by decide) (by omega) (v := nI (dN (dK s k))) ((hZ.mt hk0).1) ?_
                  refine r_icmp_ge_n (pc := 50) (a := b) (b := dN (dK s k)) (tgt := 120) dX10_fee_50 (by decide) (by first | omega | (have := cnt_le (dS (dK s k)) b (dN (dK s k)); omega)) (by first | omega | (have := cnt_le (dS (dK s k)) b (dN (dK s k)); omega)) (fun c50 => ?_) (fun c50 => ?_)
                  · skip
                    refine r_iload_n (pc := 120) dX10_fee_120 rfl ?_
                    refine r_if_ne_n (pc := 121) (a := 0) (tgt := 129) dX10_fee_121 (by decide) (by first | omega | (have := cnt_le (dS (dK s k)) b (dN (dK s k)); omega)) (fun c121 => ?_) (fun c121 => ?_)
                    · exfalso; omega
                    · skip
                      refine r_iload (pc := 124) dX10_fee_124 rfl ?_
                      refine r_goto (pc := 126) (tgt := 139) dX10_fee_126 (by decide) ?_
                      refine r_ret_i (pc := 139) dX10_fee_139 rfl ?_
                      exact ⟨_, I1, rfl, rfl, (by unfold aFee; rw [atN_s et, atN_s eh, atN_s ew]; have e9 : q = feS (dK s k) (fun x => anF (dS (dK s k)) x hn) := (by rw [hq, show b = dN (dK s k) by omega] <;> rfl); rw [e9] <;> rfl), hM.z hZ, fun x j z => hZ x j (by omega) (by omega)⟩
                  · skip
                    refine r_iload_n (pc := 53) dX10_fee_53 rfl ?_
                    refine r_if_ne_n (pc := 54) (a := 0) (tgt := 71) dX10_fee_54 (by decide) (by first | omega | (have := cnt_le (dS (dK s k)) b (dN (dK s k)); omega)) (fun c54 => ?_) (fun c54 => ?_)
                    · exfalso; omega
                    · skip
                      refine r_aload_n (pc := 57) dX10_fee_57 rfl ?_
                      refine r_iload_n (pc := 58) dX10_fee_58 rfl ?_
                      refine r_iload (pc := 59) dX10_fee_59 rfl ?_
                      refine r_iload_n (pc := 61) dX10_fee_61 rfl ?_
                      refine r_callV_P (pc := 62) (b := m) (As := [.int (nI k), .int (nI b), .int (nI hn)]) 10 254 dX10_fee_62 lk_X10_isBehind (ml_RX10_254 rfl) im_X10_isBehind se_X10_isBehind (by decide) (c10_o hm) (Nat.le_of_ble_eq_true rfl) rfl (isBehind_ct hm (hZ.mt hk0) (hZ.c hcn) hcn10 hk (h := b) (a := hn) (by omega) (by omega)) ?_
                      refine r_if_ne_b (pc := 65) (tgt := 71) dX10_fee_65 (by decide) (fun c65 => ?_) (fun c65 => ?_)
                      · skip
                        refine r_iload (pc := 71) dX10_fee_71 rfl ?_
                        refine r_aload_n (pc := 73) dX10_fee_73 rfl ?_
                        refine r_get1 (pc := 74) 10 9 23 dX10_fee_74 (fl_RX10_23 rfl) (by decide) rfl (c10_o hm) (c10_p9 hm) ?_
                        refine r_bipush (pc := 77) (v := 8) dX10_fee_77 (by decide) ?_
                        refine r_iload_n (pc := 79) dX10_fee_79 rfl ?_
                        refine r_imul_n (pc := 80) (a := 8) (b := k) dX10_fee_80 ?_
                        refine r_iload (pc := 81) dX10_fee_81 rfl ?_
                        refine r_iadd_n (pc := 83) (a := 8 * k) (b := b) dX10_fee_83 ?_
                        refine r_iald_n (pc := 84) (i := (8 * k) + b) dX10_fee_84 (c10_a9 hm) (by decide) (by omega) (v := nI (dE (dK s k) b)) ((hZ _ _ (by omega) (by omega)).trans (hMd.1.2.1 _ (by omega)).2.2) ?_
                        refine r_isub (pc := 85) (x := q) (z := nI (dE (dK s k) b)) dX10_fee_85 ?_
                        refine r_istore (pc := 86) (L' := [some (.ref m), some (.int (nI k)), some (.int (nI hn)), some (.int (nI 0)), some (.int (q - (nI (dE (dK s k) b)))), some (.int (nI b))]) dX10_fee_86 (by decide) rfl rfl ?_
                        refine r_iload (pc := 88) dX10_fee_88 rfl ?_
                        refine r_aload_n (pc := 90) dX10_fee_90 rfl ?_
                        refine r_iload_n (pc := 91) dX10_fee_91 rfl ?_
                        refine r_iload (pc := 92) dX10_fee_92 rfl ?_
                        refine r_callV_P (pc := 94) (b := m) (As := [.int (nI k), .int (nI b)]) 10 165 dX10_fee_94 lk_X10_isShop (ml_RX10_165 rfl) im_X10_isShop se_X10_isShop (by decide) (c10_o hm) (Nat.le_of_ble_eq_true rfl) rfl (isShopM_ct hm (hZ.mt hk0) (by omega) (hZ.c hcn) hcn10 hk (h := b) (by show b < dN (dK s k); omega)) ?_
                        refine r_if_eq_b (pc := 97) (tgt := 110) dX10_fee_97 (by decide) (fun c97 => ?_) (fun c97 => ?_)
                        · skip
                          have hcase : sm (fun x => if (fun x => anF (dS (dK s k)) x hn) x = true then (if shP (dK s k) x then fyF (e0 (dK s k)) x else 0) - nI (dE (dK s k) x) else 0) b - nI (dE (dK s k) b) + nI 0 = sm (fun x => if (fun x => anF (dS (dK s k)) x hn) x = true then (if shP (dK s k) x then fyF (e0 (dK s k)) x else 0) - nI (dE (dK s k) x) else 0) (b + 1) := by
                            show _ = sm (fun x => if (fun x => anF (dS (dK s k)) x hn) x = true then (if shP (dK s k) x then fyF (e0 (dK s k)) x else 0) - nI (dE (dK s k) x) else 0) b + (fun x => if (fun x => anF (dS (dK s k)) x hn) x = true then (if shP (dK s k) x then fyF (e0 (dK s k)) x else 0) - nI (dE (dK s k) x) else 0) b
                            rw [show (fun x => if (fun x => anF (dS (dK s k)) x hn) x = true then (if shP (dK s k) x then fyF (e0 (dK s k)) x else 0) - nI (dE (dK s k) x) else 0) b = (if shP (dK s k) b then fyF (e0 (dK s k)) b else 0) - nI (dE (dK s k) b) from if_pos c65, if_neg (show ¬ shP (dK s k) b from c97), ← nI_0]
                            grind
                          refine r_iconst (pc := 110) (v := 0) dX10_fee_110 (by decide) ?_
                          refine r_iadd (pc := 111) (x := q - (nI (dE (dK s k) b))) (z := 0) dX10_fee_111 ?_
                          refine r_istore (pc := 112) (L' := [some (.ref m), some (.int (nI k)), some (.int (nI hn)), some (.int (nI 0)), some (.int ((q - (nI (dE (dK s k) b))) + 0)), some (.int (nI b))]) dX10_fee_112 (by decide) rfl rfl ?_
                          refine r_iinc (pc := 114) (v := nI (b + 1)) (L' := [some (.ref m), some (.int (nI k)), some (.int (nI hn)), some (.int (nI 0)), some (.int ((q - (nI (dE (dK s k) b))) + 0)), some (.int (nI (b + 1)))]) dX10_fee_114 rfl (nI_inc _) (by decide) rfl rfl ?_
                          refine r_goto (pc := 117) (tgt := 42) dX10_fee_117 (by decide) ?_
                          exact ih42 _ (by omega) (b + 1) ((q - (nI (dE (dK s k) b))) + 0) rfl (by omega) (by rw [hq]; exact hcase)
                        · skip
                          have hcase : sm (fun x => if (fun x => anF (dS (dK s k)) x hn) x = true then (if shP (dK s k) x then fyF (e0 (dK s k)) x else 0) - nI (dE (dK s k) x) else 0) b - nI (dE (dK s k) b) + fyF (e0 (dK s k)) b = sm (fun x => if (fun x => anF (dS (dK s k)) x hn) x = true then (if shP (dK s k) x then fyF (e0 (dK s k)) x else 0) - nI (dE (dK s k) x) else 0) (b + 1) := by
                            show _ = sm (fun x => if (fun x => anF (dS (dK s k)) x hn) x = true then (if shP (dK s k) x then fyF (e0 (dK s k)) x else 0) - nI (dE (dK s k) x) else 0) b + (fun x => if (fun x => anF (dS (dK s k)) x hn) x = true then (if shP (dK s k) x then fyF (e0 (dK s k)) x else 0) - nI (dE (dK s k) x) else 0) b
                            rw [show (fun x => if (fun x => anF (dS (dK s k)) x hn) x = true then (if shP (dK s k) x then fyF (e0 (dK s k)) x else 0) - nI (dE (dK s k) x) else 0) b = (if shP (dK s k) b then fyF (e0 (dK s k)) b else 0) - nI (dE (dK s k) b) from if_pos c65, if_pos (show shP (dK s k) b from c97)]
                            grind
                          refine r_aload_n (pc := 100) dX10_fee_100 rfl ?_
                          refine r_iload_n (pc := 101) dX10_fee_101 rfl ?_
                          refine r_iload (pc := 102) dX10_fee_102 rfl ?_
                          refine r_callV_P (pc := 104) (b := m) (As := [.int (nI k), .int (nI b)]) 10 257 dX10_fee_104 lk_X10_freely (ml_RX10_257 rfl) im_X10_freely se_X10_freely (by decide) (c10_o hm) (Nat.le_of_ble_eq_true rfl) rfl (freely_ct hm hS1 (h := b) (by omega)) ?_
                          refine r_goto (pc := 107) (tgt := 111) dX10_fee_107 (by decide) ?_
                          refine r_iadd (pc := 111) (x := q - (nI (dE (dK s k) b))) (z := fyF (e0 (dK s k)) b) dX10_fee_111 ?_
                          refine r_istore (pc := 112) (L' := [some (.ref m), some (.int (nI k)), some (.int (nI hn)), some (.int (nI 0)), some (.int ((q - (nI (dE (dK s k) b))) + (fyF (e0 (dK s k)) b))), some (.int (nI b))]) dX10_fee_112 (by decide) rfl rfl ?_
                          refine r_iinc (pc := 114) (v := nI (b + 1)) (L' := [some (.ref m), some (.int (nI k)), some (.int (nI hn)), some (.int (nI 0)), some (.int ((q - (nI (dE (dK s k) b))) + (fyF (e0 (dK s k)) b))), some (.int (nI (b + 1)))]) dX10_fee_114 rfl (nI_inc _) (by decide) rfl rfl ?_
                          refine r_goto (pc := 117) (tgt := 42) dX10_fee_117 (by decide) ?_
                          exact ih42 _ (by omega) (b + 1) ((q - (nI (dE (dK s k) b))) + (fyF (e0 (dK s k)) b)) rfl (by omega) (by rw [hq]; exact hcase)
                      · skip
                        have hcase : sm (fun x => if (fun x => anF (dS (dK s k)) x hn) x = true then (if shP (dK s k) x then fyF (e0 (dK s k)) x else 0) - nI (dE (dK s k) x) else 0) b = sm (fun x => if (fun x => anF (dS (dK s k)) x hn) x = true then (if shP (dK s k) x then fyF (e0 (dK s k)) x else 0) - nI (dE (dK s k) x) else 0) (b + 1) := ((congrArg (sm (fun x => if (fun x => anF (dS (dK s k)) x hn) x = true then (if shP (dK s k) x then fyF (e0 (dK s k)) x else 0) - nI (dE (dK s k) x) else 0) b + ·) (if_neg c65)).trans (Int32.add_zero _)).symm
                        refine r_goto (pc := 68) (tgt := 114) dX10_fee_68 (by decide) ?_
                        refine r_iinc (pc := 114) (v := nI (b + 1)) (L' := [some (.ref m), some (.int (nI k)), some (.int (nI hn)), some (.int (nI 0)), some (.int q), some (.int (nI (b + 1)))]) dX10_fee_114 rfl (nI_inc _) (by decide) rfl rfl ?_
                        refine r_goto (pc := 117) (tgt := 42) dX10_fee_117 (by decide) ?_
                        exact ih42 _ (by omega) (b + 1) q rfl (by omega) (by rw [hq]; exact hcase)
              exact lp42 _ 0 (nI 0) rfl (by omega) (by rfl)
            · exfalso; omega
        · skip
          refine r_aload_n (pc := 0) dX10_fee_0 rfl ?_
          refine r_iconst (pc := 1) (v := 0) dX10_fee_1 (by decide) ?_
          refine r_putI (pc := 2) (v := nI 0) 10 0 84 dX10_fee_2 (fl_RX10_84 rfl) (by decide) rfl rfl (c10_o hm) ?_
          obtain ⟨Ia, hIa⟩ : ∃ zz0 : Im, zz0 = up2 I m 0 (nI 0) := ⟨_, rfl⟩
          refine wp_M (M2 := (Ia, G)) (by subst hIa; rfl) ?_
          have hZ : FrZ I Ia m := by rw [hIa]; exact FrZ.rf.u (by omega)
          refine r_aload_n (pc := 5) dX10_fee_5 rfl ?_
          refine r_iload_n (pc := 6) dX10_fee_6 rfl ?_
          refine r_iload_n (pc := 7) dX10_fee_7 rfl ?_
          refine r_callV_P (pc := 8) (b := m) (As := [.int (nI k), .int (nI hn)]) 10 154 dX10_fee_8 lk_X10_isHouse (ml_RX10_154 rfl) im_X10_isHouse se_X10_isHouse (by decide) (c10_o hm) (Nat.le_of_ble_eq_true rfl) rfl (isHouse_ct hm (hZ.mt hk0) (by omega) (hZ.c hcn) hcn10 hk hhn) ?_
          refine r_if_eq_n (pc := 11) (a := 1) (tgt := 23) dX10_fee_11 (by decide) (by first | omega | (have := cnt_le (dS (dK s k)) b (dN (dK s k)); omega)) (fun c11 => ?_) (fun c11 => ?_)
          · exfalso; omega
          · skip
            refine r_iload_n (pc := 14) dX10_fee_14 rfl ?_
            refine r_iconst (pc := 15) (v := 0) dX10_fee_15 (by decide) ?_
            refine r_iconst (pc := 16) (v := 1) dX10_fee_16 (by decide) ?_
            refine r_callS_P (pc := 17) (As := [.int (nI 1), .int (nI 0), .int (nI 1)]) 123 dX10_fee_17 lk_X10_isIn (ml_RX10_123 rfl) sm_X10_isIn (Nat.le_of_ble_eq_true rfl) rfl (isIn_y (n := 1) (by omega) (by omega)) ?_
            refine r_if_ne_n (pc := 20) (a := 1) (tgt := 26) dX10_fee_20 (by decide) (by first | omega | (have := cnt_le (dS (dK s k)) b (dN (dK s k)); omega)) (fun c20 => ?_) (fun c20 => ?_)
            · skip
              refine r_aload_n (pc := 26) dX10_fee_26 rfl ?_
              refine r_iload_n (pc := 27) dX10_fee_27 rfl ?_
              refine r_iconst (pc := 28) (v := 0) dX10_fee_28 (by decide) ?_
              refine r_bipush (pc := 29) (v := 41) dX10_fee_29 (by decide) ?_
              refine r_iconst (pc := 31) (v := 0) dX10_fee_31 (by decide) ?_
              refine r_iconst (pc := 32) (v := 0) dX10_fee_32 (by decide) ?_
              refine r_callV_V (pc := 33) (b := m) (As := [.int (nI k), .int (nI 0), .int (nI 41), .int (nI 0), .int (nI 0)]) 10 191 dX10_fee_33 lk_X10_terms (ml_RX10_191 rfl) im_X10_terms se_X10_terms (by decide) (c10_o hm) (Nat.le_of_ble_eq_true rfl) rfl (terms_f (E := (e0 (dK s k))) hm (hZ.mt (mtc_of hok.1 hMd.1 _)) ⟨rfl, rfl, rfl, rfl⟩ (hZ.c hcn) hcn10 hk) (fun I1 h1 => ?_)
              obtain ⟨hS1, hF1⟩ := h1
              have hZ : FrZ I I1 m := hZ.tr hF1.z
              refine r_iconst (pc := 36) (v := 0) dX10_fee_36 (by decide) ?_
              refine r_istore (pc := 37) (L' := [some (.ref m), some (.int (nI k)), some (.int (nI hn)), some (.int (nI 1)), some (.int (nI 0)), none]) dX10_fee_37 (by decide) rfl rfl ?_
              refine r_iconst (pc := 39) (v := 0) dX10_fee_39 (by decide) ?_
              refine r_istore (pc := 40) (L' := [some (.ref m), some (.int (nI k)), some (.int (nI hn)), some (.int (nI 1)), some (.int (nI 0)), some (.int (nI 0))]) dX10_fee_40 (by decide) rfl rfl ?_
              have lp42 : ∀ (n42 : Nat), ∀ (b : Nat) (q : Int32), dN (dK s k) - b = n42 → (b ≤ dN (dK s k)) → (q = sm (fun x => if (fun _ => true) x = true then (if shP (dK s k) x then fyF (e0 (dK s k)) x else 0) - nI (dE (dK s k) x) else 0) b) → wp (d + 4) 0 0 YX10_fee 42 [some (.ref m), some (.int (nI k)), some (.int (nI hn)), some (.int (nI 1)), some (.int q), some (.int (nI b))] [] (I1, G) (qM G (fun zv I2 => PmQ s I m (aFee s (nI k) (nI hn) (nI 1)) zv I2)) := by
                intro n42
                induction n42 using Nat.strongRecOn with
                | ind n42 ih42 =>
                  intro b q hmu42 hb hq
                  refine r_iload (pc := 42) dX10_fee_42 rfl ?_
                  refine r_aload_n (pc := 44) dX10_fee_44 rfl ?_
                  refine r_get1 (pc := 45) 10 6 13 dX10_fee_45 (fl_RX10_13 rfl) (by decide) rfl (c10_o hm) (c10_p6 hm) ?_
                  refine r_iload_n (pc := 48) dX10_fee_48 rfl ?_
                  refine r_iald_n (pc := 49) (i := k) dX10_fee_49 (c10_a6 hm) (by decide) (by omega) (v := nI (dN (dK s k))) ((hZ.mt hk0).1) ?_
                  refine r_icmp_ge_n (pc := 50) (a := b) (b := dN (dK s k)) (tgt := 120) dX10_fee_50 (by decide) (by first | omega | (have := cnt_le (dS (dK s k)) b (dN (dK s k)); omega)) (by first | omega | (have := cnt_le (dS (dK s k)) b (dN (dK s k)); omega)) (fun c50 => ?_) (fun c50 => ?_)
                  · skip
                    refine r_iload_n (pc := 120) dX10_fee_120 rfl ?_
                    refine r_if_ne_n (pc := 121) (a := 1) (tgt := 129) dX10_fee_121 (by decide) (by first | omega | (have := cnt_le (dS (dK s k)) b (dN (dK s k)); omega)) (fun c121 => ?_) (fun c121 => ?_)
                    · skip
                      refine r_iload (pc := 129) dX10_fee_129 rfl ?_
                      refine r_if_lt (pc := 131) (x := q) (tgt := 138) dX10_fee_131 (by decide) (fun c131 => ?_) (fun c131 => ?_)
                      · skip
                        refine r_iconst (pc := 138) (v := 0) dX10_fee_138 (by decide) ?_
                        refine r_ret_i (pc := 139) dX10_fee_139 rfl ?_
                        exact ⟨_, I1, rfl, rfl, (by unfold aFee; rw [atN_s et, atN_s eh, atN_s ew]; have e9 : q = feS (dK s k) (fun _ => true) := (by rw [hq, show b = dN (dK s k) by omega] <;> rfl); rw [e9] at c131; exact bz_f (fun z => absurd c131 (Int32.not_lt.mpr z))), hM.z hZ, fun x j z => hZ x j (by omega) (by omega)⟩
                      · skip
                        refine r_iconst (pc := 134) (v := 1) dX10_fee_134 (by decide) ?_
                        refine r_goto (pc := 135) (tgt := 139) dX10_fee_135 (by decide) ?_
                        refine r_ret_i (pc := 139) dX10_fee_139 rfl ?_
                        exact ⟨_, I1, rfl, rfl, (by unfold aFee; rw [atN_s et, atN_s eh, atN_s ew]; have e9 : q = feS (dK s k) (fun _ => true) := (by rw [hq, show b = dN (dK s k) by omega] <;> rfl); rw [e9] at c131; exact bz_t (Int32.not_lt.mp c131)), hM.z hZ, fun x j z => hZ x j (by omega) (by omega)⟩
                    · exfalso; omega
                  · skip
                    refine r_iload_n (pc := 53) dX10_fee_53 rfl ?_
                    refine r_if_ne_n (pc := 54) (a := 1) (tgt := 71) dX10_fee_54 (by decide) (by first | omega | (have := cnt_le (dS (dK s k)) b (dN (dK s k)); omega)) (fun c54 => ?_) (fun c54 => ?_)
                    · skip
                      refine r_iload (pc := 71) dX10_fee_71 rfl ?_
                      refine r_aload_n (pc := 73) dX10_fee_73 rfl ?_
                      refine r_get1 (pc := 74) 10 9 23 dX10_fee_74 (fl_RX10_23 rfl) (by decide) rfl (c10_o hm) (c10_p9 hm) ?_
                      refine r_bipush (pc := 77) (v := 8) dX10_fee_77 (by decide) ?_
                      refine r_iload_n (pc := 79) dX10_fee_79 rfl ?_
                      refine r_imul_n (pc := 80) (a := 8) (b := k) dX10_fee_80 ?_
                      refine r_iload (pc := 81) dX10_fee_81 rfl ?_
                      refine r_iadd_n (pc := 83) (a := 8 * k) (b := b) dX10_fee_83 ?_
                      refine r_iald_n (pc := 84) (i := (8 * k) + b) dX10_fee_84 (c10_a9 hm) (by decide) (by omega) (v := nI (dE (dK s k) b)) ((hZ _ _ (by omega) (by omega)).trans (hMd.1.2.1 _ (by omega)).2.2) ?_
                      refine r_isub (pc := 85) (x := q) (z := nI (dE (dK s k) b)) dX10_fee_85 ?_
                      refine r_istore (pc := 86) (L' := [some (.ref m), some (.int (nI k)), some (.int (nI hn)), some (.int (nI 1)), some (.int (q - (nI (dE (dK s k) b)))), some (.int (nI b))]) dX10_fee_86 (by decide) rfl rfl ?_
                      refine r_iload (pc := 88) dX10_fee_88 rfl ?_
                      refine r_aload_n (pc := 90) dX10_fee_90 rfl ?_
                      refine r_iload_n (pc := 91) dX10_fee_91 rfl ?_
                      refine r_iload (pc := 92) dX10_fee_92 rfl ?_
                      refine r_callV_P (pc := 94) (b := m) (As := [.int (nI k), .int (nI b)]) 10 165 dX10_fee_94 lk_X10_isShop (ml_RX10_165 rfl) im_X10_isShop se_X10_isShop (by decide) (c10_o hm) (Nat.le_of_ble_eq_true rfl) rfl (isShopM_ct hm (hZ.mt hk0) (by omega) (hZ.c hcn) hcn10 hk (h := b) (by show b < dN (dK s k); omega)) ?_
                      refine r_if_eq_b (pc := 97) (tgt := 110) dX10_fee_97 (by decide) (fun c97 => ?_) (fun c97 => ?_)
                      · skip
                        have hcase : sm (fun x => if (fun _ => true) x = true then (if shP (dK s k) x then fyF (e0 (dK s k)) x else 0) - nI (dE (dK s k) x) else 0) b - nI (dE (dK s k) b) + nI 0 = sm (fun x => if (fun _ => true) x = true then (if shP (dK s k) x then fyF (e0 (dK s k)) x else 0) - nI (dE (dK s k) x) else 0) (b + 1) := by
                          show _ = sm (fun x => if (fun _ => true) x = true then (if shP (dK s k) x then fyF (e0 (dK s k)) x else 0) - nI (dE (dK s k) x) else 0) b + (fun x => if (fun _ => true) x = true then (if shP (dK s k) x then fyF (e0 (dK s k)) x else 0) - nI (dE (dK s k) x) else 0) b
                          rw [show (fun x => if (fun _ => true) x = true then (if shP (dK s k) x then fyF (e0 (dK s k)) x else 0) - nI (dE (dK s k) x) else 0) b = (if shP (dK s k) b then fyF (e0 (dK s k)) b else 0) - nI (dE (dK s k) b) from if_pos rfl, if_neg (show ¬ shP (dK s k) b from c97), ← nI_0]
                          grind
                        refine r_iconst (pc := 110) (v := 0) dX10_fee_110 (by decide) ?_
                        refine r_iadd (pc := 111) (x := q - (nI (dE (dK s k) b))) (z := 0) dX10_fee_111 ?_
                        refine r_istore (pc := 112) (L' := [some (.ref m), some (.int (nI k)), some (.int (nI hn)), some (.int (nI 1)), some (.int ((q - (nI (dE (dK s k) b))) + 0)), some (.int (nI b))]) dX10_fee_112 (by decide) rfl rfl ?_
                        refine r_iinc (pc := 114) (v := nI (b + 1)) (L' := [some (.ref m), some (.int (nI k)), some (.int (nI hn)), some (.int (nI 1)), some (.int ((q - (nI (dE (dK s k) b))) + 0)), some (.int (nI (b + 1)))]) dX10_fee_114 rfl (nI_inc _) (by decide) rfl rfl ?_
                        refine r_goto (pc := 117) (tgt := 42) dX10_fee_117 (by decide) ?_
                        exact ih42 _ (by omega) (b + 1) ((q - (nI (dE (dK s k) b))) + 0) rfl (by omega) (by rw [hq]; exact hcase)
                      · skip
                        have hcase : sm (fun x => if (fun _ => true) x = true then (if shP (dK s k) x then fyF (e0 (dK s k)) x else 0) - nI (dE (dK s k) x) else 0) b - nI (dE (dK s k) b) + fyF (e0 (dK s k)) b = sm (fun x => if (fun _ => true) x = true then (if shP (dK s k) x then fyF (e0 (dK s k)) x else 0) - nI (dE (dK s k) x) else 0) (b + 1) := by
                          show _ = sm (fun x => if (fun _ => true) x = true then (if shP (dK s k) x then fyF (e0 (dK s k)) x else 0) - nI (dE (dK s k) x) else 0) b + (fun x => if (fun _ => true) x = true then (if shP (dK s k) x then fyF (e0 (dK s k)) x else 0) - nI (dE (dK s k) x) else 0) b
                          rw [show (fun x => if (fun _ => true) x = true then (if shP (dK s k) x then fyF (e0 (dK s k)) x else 0) - nI (dE (dK s k) x) else 0) b = (if shP (dK s k) b then fyF (e0 (dK s k)) b else 0) - nI (dE (dK s k) b) from if_pos rfl, if_pos (show shP (dK s k) b from c97)]
                          grind
                        refine r_aload_n (pc := 100) dX10_fee_100 rfl ?_
                        refine r_iload_n (pc := 101) dX10_fee_101 rfl ?_
                        refine r_iload (pc := 102) dX10_fee_102 rfl ?_
                        refine r_callV_P (pc := 104) (b := m) (As := [.int (nI k), .int (nI b)]) 10 257 dX10_fee_104 lk_X10_freely (ml_RX10_257 rfl) im_X10_freely se_X10_freely (by decide) (c10_o hm) (Nat.le_of_ble_eq_true rfl) rfl (freely_ct hm hS1 (h := b) (by omega)) ?_
                        refine r_goto (pc := 107) (tgt := 111) dX10_fee_107 (by decide) ?_
                        refine r_iadd (pc := 111) (x := q - (nI (dE (dK s k) b))) (z := fyF (e0 (dK s k)) b) dX10_fee_111 ?_
                        refine r_istore (pc := 112) (L' := [some (.ref m), some (.int (nI k)), some (.int (nI hn)), some (.int (nI 1)), some (.int ((q - (nI (dE (dK s k) b))) + (fyF (e0 (dK s k)) b))), some (.int (nI b))]) dX10_fee_112 (by decide) rfl rfl ?_
                        refine r_iinc (pc := 114) (v := nI (b + 1)) (L' := [some (.ref m), some (.int (nI k)), some (.int (nI hn)), some (.int (nI 1)), some (.int ((q - (nI (dE (dK s k) b))) + (fyF (e0 (dK s k)) b))), some (.int (nI (b + 1)))]) dX10_fee_114 rfl (nI_inc _) (by decide) rfl rfl ?_
                        refine r_goto (pc := 117) (tgt := 42) dX10_fee_117 (by decide) ?_
                        exact ih42 _ (by omega) (b + 1) ((q - (nI (dE (dK s k) b))) + (fyF (e0 (dK s k)) b)) rfl (by omega) (by rw [hq]; exact hcase)
                    · exfalso; omega
              exact lp42 _ 0 (nI 0) rfl (by omega) (by rfl)
            · exfalso; omega
      · skip
        refine r_aload_n (pc := 0) dX10_fee_0 rfl ?_
        refine r_iconst (pc := 1) (v := 0) dX10_fee_1 (by decide) ?_
        refine r_putI (pc := 2) (v := nI 0) 10 0 84 dX10_fee_2 (fl_RX10_84 rfl) (by decide) rfl rfl (c10_o hm) ?_
        obtain ⟨Ia, hIa⟩ : ∃ zz0 : Im, zz0 = up2 I m 0 (nI 0) := ⟨_, rfl⟩
        refine wp_M (M2 := (Ia, G)) (by subst hIa; rfl) ?_
        have hZ : FrZ I Ia m := by rw [hIa]; exact FrZ.rf.u (by omega)
        refine r_aload_n (pc := 5) dX10_fee_5 rfl ?_
        refine r_iload_n (pc := 6) dX10_fee_6 rfl ?_
        refine r_iload_n (pc := 7) dX10_fee_7 rfl ?_
        refine r_callV_P (pc := 8) (b := m) (As := [.int (nI k), .int (nI hn)]) 10 154 dX10_fee_8 lk_X10_isHouse (ml_RX10_154 rfl) im_X10_isHouse se_X10_isHouse (by decide) (c10_o hm) (Nat.le_of_ble_eq_true rfl) rfl (isHouse_ct hm (hZ.mt hk0) (by omega) (hZ.c hcn) hcn10 hk hhn) ?_
        refine r_if_eq_n (pc := 11) (a := 1) (tgt := 23) dX10_fee_11 (by decide) (by first | omega | (have := cnt_le (dS (dK s k)) b (dN (dK s k)); omega)) (fun c11 => ?_) (fun c11 => ?_)
        · exfalso; omega
        · skip
          refine r_iload_n (pc := 14) dX10_fee_14 rfl ?_
          refine r_iconst (pc := 15) (v := 0) dX10_fee_15 (by decide) ?_
          refine r_iconst (pc := 16) (v := 1) dX10_fee_16 (by decide) ?_
          refine r_callS_P (pc := 17) (As := [.int w, .int (nI 0), .int (nI 1)]) 123 dX10_fee_17 lk_X10_isIn (ml_RX10_123 rfl) sm_X10_isIn (Nat.le_of_ble_eq_true rfl) rfl (isIn_no (n := 1) (by omega) hnow) ?_
          refine r_if_ne_n (pc := 20) (a := 0) (tgt := 26) dX10_fee_20 (by decide) (by first | omega | (have := cnt_le (dS (dK s k)) b (dN (dK s k)); omega)) (fun c20 => ?_) (fun c20 => ?_)
          · exfalso; omega
          · skip
            refine r_ldc (pc := 23) (v := -100000000) dX10_fee_23 (kc_RX10_226 rfl) ?_
            refine r_ret_i (pc := 25) dX10_fee_25 rfl ?_
            exact ⟨_, Ia, rfl, rfl, (by unfold aFee; rw [atN_s et, atN_s eh, atN_n ew] <;> rfl), hM.z hZ, fun x j z => hZ x j (by omega) (by omega)⟩
    · skip
      refine r_aload_n (pc := 0) dX10_fee_0 rfl ?_
      refine r_iconst (pc := 1) (v := 0) dX10_fee_1 (by decide) ?_
      refine r_putI (pc := 2) (v := nI 0) 10 0 84 dX10_fee_2 (fl_RX10_84 rfl) (by decide) rfl rfl (c10_o hm) ?_
      obtain ⟨Ia, hIa⟩ : ∃ zz0 : Im, zz0 = up2 I m 0 (nI 0) := ⟨_, rfl⟩
      refine wp_M (M2 := (Ia, G)) (by subst hIa; rfl) ?_
      have hZ : FrZ I Ia m := by rw [hIa]; exact FrZ.rf.u (by omega)
      refine r_aload_n (pc := 5) dX10_fee_5 rfl ?_
      refine r_iload_n (pc := 6) dX10_fee_6 rfl ?_
      refine r_iload_n (pc := 7) dX10_fee_7 rfl ?_
      refine r_callV_P (pc := 8) (b := m) (As := [.int (nI k), .int h]) 10 154 dX10_fee_8 lk_X10_isHouse (ml_RX10_154 rfl) im_X10_isHouse se_X10_isHouse (by decide) (c10_o hm) (Nat.le_of_ble_eq_true rfl) rfl (isHouse_no hm (hZ.mt hk0) (hZ.c hcn) hcn10 hk hnoh) ?_
      refine r_if_eq_n (pc := 11) (a := 0) (tgt := 23) dX10_fee_11 (by decide) (by first | omega | (have := cnt_le (dS (dK s k)) b (dN (dK s k)); omega)) (fun c11 => ?_) (fun c11 => ?_)
      · skip
        refine r_ldc (pc := 23) (v := -100000000) dX10_fee_23 (kc_RX10_226 rfl) ?_
        refine r_ret_i (pc := 25) dX10_fee_25 rfl ?_
        exact ⟨_, Ia, rfl, rfl, (by unfold aFee; rw [atN_s et, atN_n eh] <;> rfl), hM.z hZ, fun x j z => hZ x j (by omega) (by omega)⟩
      · exfalso; omega
  · skip
    refine r_aload_n (pc := 0) dX10_fee_0 rfl ?_
    refine r_iconst (pc := 1) (v := 0) dX10_fee_1 (by decide) ?_
    refine r_putI (pc := 2) (v := nI 0) 10 0 84 dX10_fee_2 (fl_RX10_84 rfl) (by decide) rfl rfl (c10_o hm) ?_
    obtain ⟨Ia, hIa⟩ : ∃ zz0 : Im, zz0 = up2 I m 0 (nI 0) := ⟨_, rfl⟩
    refine wp_M (M2 := (Ia, G)) (by subst hIa; rfl) ?_
    have hZ : FrZ I Ia m := by rw [hIa]; exact FrZ.rf.u (by omega)
    refine r_aload_n (pc := 5) dX10_fee_5 rfl ?_
    refine r_iload_n (pc := 6) dX10_fee_6 rfl ?_
    refine r_iload_n (pc := 7) dX10_fee_7 rfl ?_
    refine r_callV_P (pc := 8) (b := m) (As := [.int t, .int h]) 10 154 dX10_fee_8 lk_X10_isHouse (ml_RX10_154 rfl) im_X10_isHouse se_X10_isHouse (by decide) (c10_o hm) (Nat.le_of_ble_eq_true rfl) rfl (isHouse_nt hm (by rw [(hZ.c hcn)]; exact hnot)) ?_
    refine r_if_eq_n (pc := 11) (a := 0) (tgt := 23) dX10_fee_11 (by decide) (by first | omega | (have := cnt_le (dS (dK s k)) b (dN (dK s k)); omega)) (fun c11 => ?_) (fun c11 => ?_)
    · skip
      refine r_ldc (pc := 23) (v := -100000000) dX10_fee_23 (kc_RX10_226 rfl) ?_
      refine r_ret_i (pc := 25) dX10_fee_25 rfl ?_
      exact ⟨_, Ia, rfl, rfl, (by unfold aFee; rw [atN_n et] <;> rfl), hM.z hZ, fun x j z => hZ x j (by omega) (by omega)⟩
    · exfalso; omega
