/-! ===== the reference: trade and house ===== -/
def tdN (D : Dr) : Td := (D, (0, 41, false, false), fun _ => 0, fun _ => 0)
def sNew (s : Sta) (D : Dr) : Sta := ((0, (sT s).2), sN s + 1, fu (sD s) (sN s) (tdN D), sZ s, sW s, sV s)
def fTrade (s : Sta) : Int32 × Sta := if sN s = 10 then (-1, s) else match pA (sT s) with
  | .inl _ => (-1, s)
  | .inr D => (nI (sN s), sNew s D)
theorem tdN_ok {D : Dr} (h : DrOK D) : TdOK (tdN D) := ⟨h, Nat.le_refl _, fun _ => Nat.zero_le _, fun _ => Nat.zero_le _⟩
theorem ft_f {s : Sta} {f : Nat} (h : pA (sT s) = .inl f) : fTrade s = (-1, s) := by
  unfold fTrade
  rw [h]
  split <;> rfl
theorem ft_y {s : Sta} {D : Dr} (h : pA (sT s) = .inr D) (hn : ¬ sN s = 10) : fTrade s = (nI (sN s), sNew s D) := by
  unfold fTrade
  rw [if_neg hn, h]
theorem ft_n {s : Sta} (h : sN s = 10) : fTrade s = (-1, s) := if_pos h
theorem Mi.new {s : Sta} {I I2 : Im} {m : Nat} {D : Dr} (h : Mi s I m) (hD : DrOK D) (hlt : sN s < 10) (hd : MdC I2 m (sN s) D) (h2 : I2 m 2 = nI 0) (h20 : I2 m 20 = nI (sN s + 1)) (ht : I2 (m + 10) (sN s) = 0 ∧ I2 (m + 11) (sN s) = nI 41 ∧ I2 (m + 14) (sN s) = 0 ∧ I2 (m + 15) (sN s) = 0) (hp : ∀ y, y < 8 → I2 (m + 12) (8 * sN s + y) = nI 0 ∧ I2 (m + 13) (8 * sN s + y) = nI 0) (hf : ∀ a y, ¬ (a = m ∧ (y = 0 ∨ y = 2 ∨ (3 ≤ y ∧ y ≤ 5) ∨ y = 20)) → ¬ ((a = m + 2 ∨ a = m + 6 ∨ a = m + 10 ∨ a = m + 11 ∨ a = m + 14 ∨ a = m + 15) ∧ y = sN s) → ¬ (((m + 3 ≤ a ∧ a ≤ m + 5) ∨ a = m + 12 ∨ a = m + 13) ∧ 8 * sN s ≤ y ∧ y < 8 * sN s + 8) → ¬ (m + 7 ≤ a ∧ a ≤ m + 9 ∧ 20 * sN s ≤ y ∧ y < 20 * sN s + 20) → I2 a y = I a y) : Mi (sNew s D) I2 m := by
  obtain ⟨h1, h20o, h3, h4, h5⟩ := h
  refine ⟨⟨h2, Nat.zero_le _, fun i hi => absurd hi (Nat.not_lt_zero i), h1.2.2.2⟩, h20, hlt, fun j hj => ?_, ⟨(hf _ _ (by omega) (by omega) (by omega) (by omega)).trans h5.1, h5.2.1, fun k hk => ⟨(hf _ _ (by omega) (by omega) (by omega) (by omega)).trans (h5.2.2.1 k hk).1, (hf _ _ (by omega) (by omega) (by omega) (by omega)).trans (h5.2.2.1 k hk).2⟩, h5.2.2.2⟩⟩
  by_cases e : j = sN s
  · rw [e, show sD (sNew s D) (sN s) = tdN D from fu_at]
    exact ⟨tdN_ok hD, hd, ⟨ht.1, ht.2.1, Nat.le_refl _, ht.2.2.1, ht.2.2.2⟩, fun y hy => (hp y hy).1, fun y hy => (hp y hy).2, fun _ => Nat.zero_le _, fun _ => Nat.zero_le _⟩
  · rw [show sD (sNew s D) j = sD s j from fu_ne e]
    have hj : j < sN s + 1 := hj
    obtain ⟨k1, k2⟩ := h4 j (by omega)
    exact ⟨k1, k2.kp k1.1.2.2.2.2.1 (fun a y z => hf a y (by omega) (by omega) (by omega) (by omega))⟩

set_option maxHeartbeats 300000 in
set_option maxRecDepth 100000 in
theorem trade_m {d : Nat} {I : Im} {G : Gm} {s : Sta} {m : Nat} (hm : isC10 G m) (hM : Mi s I m) : Ct (d + 7) 0 0 YX10_trade [.ref m] (I, G) (qM G (fun zv I2 => PmQ (fTrade s).2 I m (fTrade s).1 zv I2)) := by
  refine Ct.of (by decide) (by simp [Value.category]) (Nat.le_of_ble_eq_true rfl) ?_
  have hcn := hM.2.1
  have hcn10 := hM.2.2.1
  have hZ : FrZ I I m := FrZ.rf
  have hlo : 8 * sN s + 8 ≤ 88 := by omega
  show wp _ _ _ _ 0 [some (.ref m), none] [] _ _
  refine r_aload_n (pc := 0) dX10_trade_0 rfl ?_
  refine r_iconst (pc := 1) (v := 0) dX10_trade_1 (by decide) ?_
  refine r_putI (pc := 2) (v := nI 0) 10 0 84 dX10_trade_2 (fl_RX10_84 rfl) (by decide) rfl rfl (c10_o hm) ?_
  obtain ⟨Ia, hIa⟩ : ∃ zz0 : Im, zz0 = up2 I m 0 (nI 0) := ⟨_, rfl⟩
  refine wp_M (M2 := (Ia, G)) (by subst hIa; rfl) ?_
  have hoa : ∀ a y, ¬ (a = m ∧ y = 0) → Ia a y = I a y := fun a y z => by rw [hIa, up2_rd (by omega)]
  have hMa := hM.o hoa
  refine r_aload_n (pc := 5) dX10_trade_5 rfl ?_
  refine r_getIv (pc := 6) 10 20 139 dX10_trade_6 (fl_RX10_139 rfl) (by decide) rfl (c10_o hm) (v := nI (sN s)) (hMa.2.1) ?_
  refine r_bipush (pc := 9) (v := 10) dX10_trade_9 (by decide) ?_
  refine r_icmp_eq_n (pc := 11) (a := sN s) (b := 10) (tgt := 21) dX10_trade_11 (by decide) (by omega) (by omega) (fun c11 => ?_) (fun c11 => ?_)
  · skip
    have e9 := ft_n c11
    refine r_iconst (pc := 21) (v := -1) dX10_trade_21 (by decide) ?_
    refine r_ret_i (pc := 22) dX10_trade_22 rfl ?_
    exact ⟨_, Ia, rfl, rfl, by rw [e9], by rw [e9]; exact hMa, fun x j z => hoa x j (by omega)⟩
  · skip
    refine r_aload_n (pc := 14) dX10_trade_14 rfl ?_
    refine r_callV_M (pc := 15) (b := m) (As := []) 10 145 dX10_trade_15 lk_X10_readTrade (ml_RX10_145 rfl) im_X10_readTrade se_X10_readTrade (by decide) (c10_o hm) (Nat.le_of_ble_eq_true rfl) rfl (readTrade_ct hm hMa.1 hcn10 hMa.2.1) (fun v15 Ib hIb => ?_)
    obtain ⟨hrd, hfb⟩ := hIb
    have hM9 := hMa.rd hfb
    have hF9 : ∀ x j, ¬ (m ≤ x ∧ x ≤ m + 24) → Ib x j = I x j := fun x j z => (hfb x j (by omega) (by omega) (by omega) (by omega) (by omega)).trans (hoa x j (by omega))
    refine r_if_ne (pc := 18) (x := v15) (tgt := 23) dX10_trade_18 (by decide) (fun c18 => ?_) (fun c18 => ?_)
    · skip
      obtain ⟨D, hpD, hDk, hv, hMd, hfl⟩ := hrd.resolve_left (fun ⟨f, _, z, _⟩ => c18 z)
      have e9 := ft_y hpD c11
      refine r_aload_n (pc := 23) dX10_trade_23 rfl ?_
      refine r_iconst (pc := 24) (v := 0) dX10_trade_24 (by decide) ?_
      refine r_putI (pc := 25) (v := nI 0) 10 2 88 dX10_trade_25 (fl_RX10_88 rfl) (by decide) rfl rfl (c10_o hm) ?_
      refine r_aload_n (pc := 28) dX10_trade_28 rfl ?_
      refine r_get1 (pc := 29) 10 14 38 dX10_trade_29 (fl_RX10_38 rfl) (by decide) rfl (c10_o hm) (c10_p14 hm) ?_
      refine r_aload_n (pc := 32) dX10_trade_32 rfl ?_
      refine r_getIv (pc := 33) 10 20 139 dX10_trade_33 (fl_RX10_139 rfl) (by decide) rfl (c10_o hm) (v := nI (sN s)) ((up2_rd (by omega)).trans (hM9.2.1)) ?_
      refine r_iconst (pc := 36) (v := 0) dX10_trade_36 (by decide) ?_
      refine r_iast_n (pc := 37) (i := sN s) (v := nI 0) dX10_trade_37 (c10_a14 hm) (by decide) (by omega) ?_
      refine r_aload_n (pc := 38) dX10_trade_38 rfl ?_
      refine r_get1 (pc := 39) 10 15 41 dX10_trade_39 (fl_RX10_41 rfl) (by decide) rfl (c10_o hm) (c10_p15 hm) ?_
      refine r_aload_n (pc := 42) dX10_trade_42 rfl ?_
      refine r_getIv (pc := 43) 10 20 139 dX10_trade_43 (fl_RX10_139 rfl) (by decide) rfl (c10_o hm) (v := nI (sN s)) ((up2_rd (by omega)).trans ((up2_rd (by omega)).trans (hM9.2.1))) ?_
      refine r_bipush (pc := 46) (v := 41) dX10_trade_46 (by decide) ?_
      refine r_iast_n (pc := 48) (i := sN s) (v := nI 41) dX10_trade_48 (c10_a15 hm) (by decide) (by omega) ?_
      refine r_aload_n (pc := 49) dX10_trade_49 rfl ?_
      refine r_get1 (pc := 50) 10 18 50 dX10_trade_50 (fl_RX10_50 rfl) (by decide) rfl (c10_o hm) (c10_p18 hm) ?_
      refine r_aload_n (pc := 53) dX10_trade_53 rfl ?_
      refine r_getIv (pc := 54) 10 20 139 dX10_trade_54 (fl_RX10_139 rfl) (by decide) rfl (c10_o hm) (v := nI (sN s)) ((up2_rd (by omega)).trans ((up2_rd (by omega)).trans ((up2_rd (by omega)).trans (hM9.2.1)))) ?_
      refine r_iconst (pc := 57) (v := 0) dX10_trade_57 (by decide) ?_
      refine r_zast_n (pc := 58) (i := sN s) (v := nI 0) dX10_trade_58 (c10_a18 hm) (by decide) (by omega) (by decide) ?_
      refine r_aload_n (pc := 59) dX10_trade_59 rfl ?_
      refine r_get1 (pc := 60) 10 19 54 dX10_trade_60 (fl_RX10_54 rfl) (by decide) rfl (c10_o hm) (c10_p19 hm) ?_
      refine r_aload_n (pc := 63) dX10_trade_63 rfl ?_
      refine r_getIv (pc := 64) 10 20 139 dX10_trade_64 (fl_RX10_139 rfl) (by decide) rfl (c10_o hm) (v := nI (sN s)) ((up2_rd (by omega)).trans ((up2_rd (by omega)).trans ((up2_rd (by omega)).trans ((up2_rd (by omega)).trans (hM9.2.1))))) ?_
      refine r_iconst (pc := 67) (v := 0) dX10_trade_67 (by decide) ?_
      refine r_zast_n (pc := 68) (i := sN s) (v := nI 0) dX10_trade_68 (c10_a19 hm) (by decide) (by omega) (by decide) ?_
      obtain ⟨Ic, hIc⟩ : ∃ zz0 : Im, zz0 = up2 (up2 (up2 (up2 (up2 Ib m 2 (nI 0)) (m + 10) (sN s) (nI 0)) (m + 11) (sN s) (nI 41)) (m + 14) (sN s) (nI 0)) (m + 15) (sN s) (nI 0) := ⟨_, rfl⟩
      refine wp_M (M2 := (Ic, G)) (by subst hIc; rfl) ?_
      have hc20 : Ic m 20 = nI (sN s) := by rw [hIc, up2_rd (by omega), up2_rd (by omega), up2_rd (by omega), up2_rd (by omega), up2_rd (by omega)]; exact hM9.2.1
      have hcv : Ic m 2 = nI 0 ∧ Ic (m + 10) (sN s) = 0 ∧ Ic (m + 11) (sN s) = nI 41 ∧ Ic (m + 14) (sN s) = 0 ∧ Ic (m + 15) (sN s) = 0 := by
        rw [hIc]
        exact ⟨(up2_rd (by omega)).trans ((up2_rd (by omega)).trans ((up2_rd (by omega)).trans ((up2_rd (by omega)).trans up2_at))), (up2_rd (by omega)).trans ((up2_rd (by omega)).trans ((up2_rd (by omega)).trans up2_at)), (up2_rd (by omega)).trans ((up2_rd (by omega)).trans up2_at), (up2_rd (by omega)).trans up2_at, up2_at⟩
      have hfc : ∀ a y, ¬ (a = m ∧ y = 2) → ¬ ((a = m + 10 ∨ a = m + 11 ∨ a = m + 14 ∨ a = m + 15) ∧ y = sN s) → Ic a y = Ib a y := fun a y z1 z2 => by rw [hIc, up2_rd (by omega), up2_rd (by omega), up2_rd (by omega), up2_rd (by omega), up2_rd (by omega)]
      refine r_iconst (pc := 69) (v := 0) dX10_trade_69 (by decide) ?_
      refine r_istore_n (pc := 70) (L' := [some (.ref m), some (.int (nI 0))]) dX10_trade_70 (by decide) rfl rfl ?_
      have lp71 : ∀ (n71 : Nat), ∀ (h : Nat) (Id : Im), 8 - h = n71 → (h ≤ 8) → (∀ y, y < h → Id (m + 12) (8 * sN s + y) = nI 0 ∧ Id (m + 13) (8 * sN s + y) = nI 0) → (∀ a y, ¬ ((a = m + 12 ∨ a = m + 13) ∧ 8 * sN s ≤ y ∧ y < 8 * sN s + 8) → Id a y = Ic a y) → wp (d + 7) 0 0 YX10_trade 71 [some (.ref m), some (.int (nI h))] [] (Id, G) (qM G (fun zv I2 => PmQ (fTrade s).2 I m (fTrade s).1 zv I2)) := by
        intro n71
        induction n71 using Nat.strongRecOn with
        | ind n71 ih71 =>
          intro h Id hmu71 hh hpd hfd
          have hd20 : Id m 20 = nI (sN s) := (hfd _ _ (by omega)).trans hc20
          refine r_iload_n (pc := 71) dX10_trade_71 rfl ?_
          refine r_bipush (pc := 72) (v := 8) dX10_trade_72 (by decide) ?_
          refine r_icmp_ge_n (pc := 74) (a := h) (b := 8) (tgt := 113) dX10_trade_74 (by decide) (by omega) (by omega) (fun c74 => ?_) (fun c74 => ?_)
          · skip
            refine r_aload_n (pc := 113) dX10_trade_113 rfl ?_
            refine r_dup (pc := 114) dX10_trade_114 rfl ?_
            refine r_getIv (pc := 115) 10 20 139 dX10_trade_115 (fl_RX10_139 rfl) (by decide) rfl (c10_o hm) (v := nI (sN s)) (hd20) ?_
            refine r_iconst (pc := 118) (v := 1) dX10_trade_118 (by decide) ?_
            refine r_iadd_n (pc := 119) (a := sN s) (b := 1) dX10_trade_119 ?_
            refine r_putI (pc := 120) (v := nI ((sN s) + 1)) 10 20 139 dX10_trade_120 (fl_RX10_139 rfl) (by decide) rfl rfl (c10_o hm) ?_
            obtain ⟨Ie, hIe⟩ : ∃ zz0 : Im, zz0 = up2 Id m 20 (nI ((sN s) + 1)) := ⟨_, rfl⟩
            refine wp_M (M2 := (Ie, G)) (by subst hIe; rfl) ?_
            have he20 : Ie m 20 = nI (sN s + 1) := by rw [hIe]; exact up2_at
            have hfe : ∀ a y, ¬ (a = m ∧ y = 20) → Ie a y = Id a y := fun a y z => by rw [hIe, up2_rd (by omega)]
            have hlt : sN s < 10 := by omega
            have hM8 : Mi (sNew s D) Ie m := hM.new hDk hlt (hMd.keep (fun c j g1 g2 g3 => (hfe c j (by omega)).trans ((hfd c j (by omega)).trans (hfc c j (by omega) (by omega))))) ((hfe _ _ (by omega)).trans ((hfd _ _ (by omega)).trans hcv.1)) he20 ⟨(hfe _ _ (by omega)).trans ((hfd _ _ (by omega)).trans hcv.2.1), (hfe _ _ (by omega)).trans ((hfd _ _ (by omega)).trans hcv.2.2.1), (hfe _ _ (by omega)).trans ((hfd _ _ (by omega)).trans hcv.2.2.2.1), (hfe _ _ (by omega)).trans ((hfd _ _ (by omega)).trans hcv.2.2.2.2)⟩ (fun y hy => ⟨(hfe _ _ (by omega)).trans (hpd y (by omega)).1, (hfe _ _ (by omega)).trans (hpd y (by omega)).2⟩) (fun a y z1 z2 z3 z4 => (hfe a y (by omega)).trans ((hfd a y (by omega)).trans ((hfc a y (by omega) (by omega)).trans ((hfb a y (by omega) (by omega) (by omega) (by omega) (by omega)).trans (hoa a y (by omega))))))
            have hF8 : ∀ x j, ¬ (m ≤ x ∧ x ≤ m + 24) → Ie x j = I x j := fun x j z => (hfe x j (by omega)).trans ((hfd x j (by omega)).trans ((hfc x j (by omega) (by omega)).trans (hF9 x j z)))
            refine r_aload_n (pc := 123) dX10_trade_123 rfl ?_
            refine r_getIv (pc := 124) 10 20 139 dX10_trade_124 (fl_RX10_139 rfl) (by decide) rfl (c10_o hm) (v := nI (sN s + 1)) (he20) ?_
            refine r_iconst (pc := 127) (v := 1) dX10_trade_127 (by decide) ?_
            refine r_isub_n (pc := 128) (a := sN s + 1) (b := 1) dX10_trade_128 (by omega) ?_
            refine r_ret_i (pc := 129) dX10_trade_129 rfl ?_
            exact ⟨_, Ie, rfl, rfl, by rw [e9, Nat.add_sub_cancel], by rw [e9]; exact hM8, hF8⟩
          · skip
            refine r_aload_n (pc := 77) dX10_trade_77 rfl ?_
            refine r_get1 (pc := 78) 10 16 44 dX10_trade_78 (fl_RX10_44 rfl) (by decide) rfl (c10_o hm) (c10_p16 hm) ?_
            refine r_bipush (pc := 81) (v := 8) dX10_trade_81 (by decide) ?_
            refine r_aload_n (pc := 83) dX10_trade_83 rfl ?_
            refine r_getIv (pc := 84) 10 20 139 dX10_trade_84 (fl_RX10_139 rfl) (by decide) rfl (c10_o hm) (v := nI (sN s)) (hd20) ?_
            refine r_imul_n (pc := 87) (a := 8) (b := sN s) dX10_trade_87 ?_
            refine r_iload_n (pc := 88) dX10_trade_88 rfl ?_
            refine r_iadd_n (pc := 89) (a := 8 * (sN s)) (b := h) dX10_trade_89 ?_
            refine r_iconst (pc := 90) (v := 0) dX10_trade_90 (by decide) ?_
            refine r_iast_n (pc := 91) (i := (8 * (sN s)) + h) (v := nI 0) dX10_trade_91 (c10_a16 hm) (by decide) (by omega) ?_
            refine r_aload_n (pc := 92) dX10_trade_92 rfl ?_
            refine r_get1 (pc := 93) 10 17 47 dX10_trade_93 (fl_RX10_47 rfl) (by decide) rfl (c10_o hm) (c10_p17 hm) ?_
            refine r_bipush (pc := 96) (v := 8) dX10_trade_96 (by decide) ?_
            refine r_aload_n (pc := 98) dX10_trade_98 rfl ?_
            refine r_getIv (pc := 99) 10 20 139 dX10_trade_99 (fl_RX10_139 rfl) (by decide) rfl (c10_o hm) (v := nI (sN s)) ((up2_rd (by omega)).trans (hd20)) ?_
            refine r_imul_n (pc := 102) (a := 8) (b := sN s) dX10_trade_102 ?_
            refine r_iload_n (pc := 103) dX10_trade_103 rfl ?_
            refine r_iadd_n (pc := 104) (a := 8 * (sN s)) (b := h) dX10_trade_104 ?_
            refine r_iconst (pc := 105) (v := 0) dX10_trade_105 (by decide) ?_
            refine r_iast_n (pc := 106) (i := (8 * (sN s)) + h) (v := nI 0) dX10_trade_106 (c10_a17 hm) (by decide) (by omega) ?_
            obtain ⟨If, hIf⟩ : ∃ zz0 : Im, zz0 = up2 (up2 Id (m + 12) ((8 * (sN s)) + h) (nI 0)) (m + 13) ((8 * (sN s)) + h) (nI 0) := ⟨_, rfl⟩
            refine wp_M (M2 := (If, G)) (by subst hIf; rfl) ?_
            have hpf : ∀ y, y < h + 1 → If (m + 12) (8 * sN s + y) = nI 0 ∧ If (m + 13) (8 * sN s + y) = nI 0 := fun y hy => by
              rw [hIf]
              by_cases e : y = h
              · rw [e]; exact ⟨(up2_rd (by omega)).trans up2_at, up2_at⟩
              · exact ⟨(up2_rd (by omega)).trans ((up2_rd (by omega)).trans (hpd y (by omega)).1), (up2_rd (by omega)).trans ((up2_rd (by omega)).trans (hpd y (by omega)).2)⟩
            have hff : ∀ a y, ¬ ((a = m + 12 ∨ a = m + 13) ∧ 8 * sN s ≤ y ∧ y < 8 * sN s + 8) → If a y = Ic a y := fun a y z => by rw [hIf, up2_rd (by omega), up2_rd (by omega)]; exact hfd a y z
            refine r_iinc (pc := 107) (v := nI (h + 1)) (L' := [some (.ref m), some (.int (nI (h + 1)))]) dX10_trade_107 rfl (nI_inc _) (by decide) rfl rfl ?_
            refine r_goto (pc := 110) (tgt := 71) dX10_trade_110 (by decide) ?_
            exact ih71 _ (by omega) (h + 1) If rfl (by omega) hpf hff
      exact lp71 _ 0 Ic rfl (by omega) (by exact fun y hy => absurd hy (Nat.not_lt_zero _)) (by exact fun _ _ _ => rfl)
    · skip
      obtain ⟨f, hn, hv, hfl, hf3⟩ := hrd.resolve_right (fun ⟨D, _, _, z, _⟩ => by rw [c18] at z; exact absurd z (by decide))
      have e9 := ft_f hn
      refine r_iconst (pc := 21) (v := -1) dX10_trade_21 (by decide) ?_
      refine r_ret_i (pc := 22) dX10_trade_22 rfl ?_
      exact ⟨_, Ib, rfl, rfl, by rw [e9], by rw [e9]; exact hM9, hF9⟩

/-- what house tells, or that it throws -/
def aHouse (s : Sta) (t h w : Int32) : Option Int32 := match inF (sN s) t with
  | none => none
  | some k => match inF (dN (dK s k)) h with
    | none => none
    | some h => match inF 5 w with
      | none => none
      | some w => some (if w = 0 then nI (dC (dK s k) h) else if w = 1 then sI (dS (dK s k) h) else if w = 2 then nI (dE (dK s k) h) else if w = 3 then nI (cnt (dS (dK s k)) h (dN (dK s k))) else if shP (dK s k) h then nI (wF (dK s k) h 0) else 0)
theorem ah_t {s : Sta} {t h w : Int32} (e : inF (sN s) t = none) : aHouse s t h w = none := by unfold aHouse; rw [e]
theorem ah_h {s : Sta} {t h w : Int32} {k : Nat} (e : inF (sN s) t = some k) (e2 : inF (dN (dK s k)) h = none) : aHouse s t h w = none := by
  unfold aHouse
  rw [e]
  simp only
  rw [e2]
theorem ah_w {s : Sta} {t h w : Int32} {k x : Nat} (e : inF (sN s) t = some k) (e2 : inF (dN (dK s k)) h = some x) (e3 : inF 5 w = none) : aHouse s t h w = none := by
  unfold aHouse
  rw [e]
  simp only
  rw [e2]
  simp only
  rw [e3]
theorem ah_y {s : Sta} {t h w : Int32} {k x y : Nat} (e : inF (sN s) t = some k) (e2 : inF (dN (dK s k)) h = some x) (e3 : inF 5 w = some y) : aHouse s t h w = some (if y = 0 then nI (dC (dK s k) x) else if y = 1 then sI (dS (dK s k) x) else if y = 2 then nI (dE (dK s k) x) else if y = 3 then nI (cnt (dS (dK s k)) x (dN (dK s k))) else if shP (dK s k) x then nI (wF (dK s k) x 0) else 0) := by
  unfold aHouse
  rw [e]
  simp only
  rw [e2]
  simp only
  rw [e3]
def HmQ (s : Sta) (I : Im) (m : Nat) (r : Option Int32) (v : Int32) (I2 : Im) : Prop := (∀ x, r = some x → v = x ∧ I2 m 0 = 0) ∧ (r = none → I2 m 0 = 1) ∧ Mi s I2 m ∧ ∀ x j, ¬ (m ≤ x ∧ x ≤ m + 24) → I2 x j = I x j

set_option maxHeartbeats 300000 in
set_option maxRecDepth 100000 in
theorem house_m {d : Nat} {I : Im} {G : Gm} {s : Sta} {m : Nat} (hm : isC10 G m) (hM : Mi s I m) {t h w : Int32} : Ct (d + 4) 0 0 YX10_house [.ref m, .int t, .int h, .int w] (I, G) (qM G (fun zv I2 => HmQ s I m (aHouse s t h w) zv I2)) := by
  refine Ct.of (by decide) (by simp [Value.category]) (Nat.le_of_ble_eq_true rfl) ?_
  have hcn := hM.2.1
  have hcn10 := hM.2.2.1
  have hZ : FrZ I I m := FrZ.rf
  show wp _ _ _ _ 0 [some (.ref m), some (.int t), some (.int h), some (.int w)] [] _ _
  rcases in_cases (n := sN s) (by have := hcn10; omega) t with ⟨k, hk, rfl, et⟩ | ⟨et, hnot⟩
  · skip
    obtain ⟨hok, hMd⟩ := hM.2.2.2.1 k hk
    have hk0 : MtC I m k (eK' s k) (dT (dK s k)) := mtc_of hok.1 hMd.1 _
    have hn8 : dN (dK s k) ≤ 8 := hok.1.1.2
    have hE : SrC (eK' s k) := src_of hok.1 _
    have hW : WbC (eK' s k) := wbc_of hok.1 _
    have hc30 : ∀ b, dC (dK s k) b ≤ 30 := hok.1.2.1
    rcases in_cases (n := dN (dK s k)) (by have := hn8; omega) h with ⟨hn, hhn, rfl, eh⟩ | ⟨eh, hnoh⟩
    · skip
      by_cases hsh : shP (dK s k) hn
      · skip
        rcases in_cases (n := 5) (by omega) w with ⟨wn, hwn, rfl, ew⟩ | ⟨ew, hnow⟩
        · skip
          rcases (show wn = 0 ∨ wn = 1 ∨ wn = 2 ∨ wn = 3 ∨ wn = 4 by omega) with rfl | rfl | rfl | rfl | rfl
          · skip
            refine r_aload_n (pc := 0) dX10_house_0 rfl ?_
            refine r_aload_n (pc := 1) dX10_house_1 rfl ?_
            refine r_iload_n (pc := 2) dX10_house_2 rfl ?_
            refine r_iload_n (pc := 3) dX10_house_3 rfl ?_
            refine r_callV_P (pc := 4) (b := m) (As := [.int (nI k), .int (nI hn)]) 10 154 dX10_house_4 lk_X10_isHouse (ml_RX10_154 rfl) im_X10_isHouse se_X10_isHouse (by decide) (c10_o hm) (Nat.le_of_ble_eq_true rfl) rfl (isHouse_ct hm (hZ.mt hk0) (by omega) (hZ.c hcn) hcn10 hk hhn) ?_
            refine r_if_eq_n (pc := 7) (a := 1) (tgt := 23) dX10_house_7 (by decide) (by omega) (fun c7 => ?_) (fun c7 => ?_)
            · exfalso; omega
            · skip
              refine r_iload_n (pc := 10) dX10_house_10 rfl ?_
              refine r_iconst (pc := 11) (v := 0) dX10_house_11 (by decide) ?_
              refine r_iconst (pc := 12) (v := 4) dX10_house_12 (by decide) ?_
              refine r_callS_P (pc := 13) (As := [.int (nI 0), .int (nI 0), .int (nI 4)]) 123 dX10_house_13 lk_X10_isIn (ml_RX10_123 rfl) sm_X10_isIn (Nat.le_of_ble_eq_true rfl) rfl (isIn_y (n := 4) (by omega) (by omega)) ?_
              refine r_if_eq_n (pc := 16) (a := 1) (tgt := 23) dX10_house_16 (by decide) (by omega) (fun c16 => ?_) (fun c16 => ?_)
              · exfalso; omega
              · skip
                refine r_iconst (pc := 19) (v := 0) dX10_house_19 (by decide) ?_
                refine r_goto (pc := 20) (tgt := 24) dX10_house_20 (by decide) ?_
                refine r_putI (pc := 24) (v := nI 0) 10 0 84 dX10_house_24 (fl_RX10_84 rfl) (by decide) rfl rfl (c10_o hm) ?_
                obtain ⟨Ia, hIa⟩ : ∃ zz0 : Im, zz0 = up2 I m 0 (nI 0) := ⟨_, rfl⟩
                refine wp_M (M2 := (Ia, G)) (by subst hIa; rfl) ?_
                have hZ : FrZ I Ia m := by rw [hIa]; exact FrZ.rf.u (by omega)
                have hI0 : Ia m 0 = nI 0 := by rw [hIa]; exact up2_at
                refine r_aload_n (pc := 27) dX10_house_27 rfl ?_
                refine r_getIv (pc := 28) 10 0 84 dX10_house_28 (fl_RX10_84 rfl) (by decide) rfl (c10_o hm) (v := nI 0) (hI0) ?_
                refine r_if_le_n (pc := 31) (a := 0) (tgt := 36) dX10_house_31 (by decide) (by omega) (fun c31 => ?_) (fun c31 => ?_)
                · skip
                  refine r_iload_n (pc := 36) dX10_house_36 rfl ?_
                  refine r_tblIn (pc := 37) (x := nI 0) (off := 31) (tgt := 68) dX10_house_37 (by decide) (by decide) (by decide) (by decide) ?_
                  refine r_aload_n (pc := 68) dX10_house_68 rfl ?_
                  refine r_iload_n (pc := 69) dX10_house_69 rfl ?_
                  refine r_iload_n (pc := 70) dX10_house_70 rfl ?_
                  refine r_callV_P (pc := 71) (b := m) (As := [.int (nI k), .int (nI hn)]) 10 162 dX10_house_71 lk_X10_costOf (ml_RX10_162 rfl) im_X10_costOf se_X10_costOf (by decide) (c10_o hm) (Nat.le_of_ble_eq_true rfl) rfl (costOf_ct hm (hZ.mt hk0) (by omega) (by omega)) ?_
                  refine r_ret_i (pc := 74) dX10_house_74 rfl ?_
                  exact ⟨_, Ia, rfl, rfl, fun x q => (by rw [ah_y et eh ew] at q; have q2 := Option.some.inj q; exact ⟨(show _ = _ from rfl).trans q2, hI0⟩), fun q => (by rw [ah_y et eh ew] at q; cases q), hM.z hZ, fun x j z => hZ x j (by omega) (by omega)⟩
                · exfalso; omega
          · skip
            refine r_aload_n (pc := 0) dX10_house_0 rfl ?_
            refine r_aload_n (pc := 1) dX10_house_1 rfl ?_
            refine r_iload_n (pc := 2) dX10_house_2 rfl ?_
            refine r_iload_n (pc := 3) dX10_house_3 rfl ?_
            refine r_callV_P (pc := 4) (b := m) (As := [.int (nI k), .int (nI hn)]) 10 154 dX10_house_4 lk_X10_isHouse (ml_RX10_154 rfl) im_X10_isHouse se_X10_isHouse (by decide) (c10_o hm) (Nat.le_of_ble_eq_true rfl) rfl (isHouse_ct hm (hZ.mt hk0) (by omega) (hZ.c hcn) hcn10 hk hhn) ?_
            refine r_if_eq_n (pc := 7) (a := 1) (tgt := 23) dX10_house_7 (by decide) (by omega) (fun c7 => ?_) (fun c7 => ?_)
            · exfalso; omega
            · skip
              refine r_iload_n (pc := 10) dX10_house_10 rfl ?_
              refine r_iconst (pc := 11) (v := 0) dX10_house_11 (by decide) ?_
              refine r_iconst (pc := 12) (v := 4) dX10_house_12 (by decide) ?_
              refine r_callS_P (pc := 13) (As := [.int (nI 1), .int (nI 0), .int (nI 4)]) 123 dX10_house_13 lk_X10_isIn (ml_RX10_123 rfl) sm_X10_isIn (Nat.le_of_ble_eq_true rfl) rfl (isIn_y (n := 4) (by omega) (by omega)) ?_
              refine r_if_eq_n (pc := 16) (a := 1) (tgt := 23) dX10_house_16 (by decide) (by omega) (fun c16 => ?_) (fun c16 => ?_)
              · exfalso; omega
              · skip
                refine r_iconst (pc := 19) (v := 0) dX10_house_19 (by decide) ?_
                refine r_goto (pc := 20) (tgt := 24) dX10_house_20 (by decide) ?_
                refine r_putI (pc := 24) (v := nI 0) 10 0 84 dX10_house_24 (fl_RX10_84 rfl) (by decide) rfl rfl (c10_o hm) ?_
                obtain ⟨Ia, hIa⟩ : ∃ zz0 : Im, zz0 = up2 I m 0 (nI 0) := ⟨_, rfl⟩
                refine wp_M (M2 := (Ia, G)) (by subst hIa; rfl) ?_
                have hZ : FrZ I Ia m := by rw [hIa]; exact FrZ.rf.u (by omega)
                have hI0 : Ia m 0 = nI 0 := by rw [hIa]; exact up2_at
                refine r_aload_n (pc := 27) dX10_house_27 rfl ?_
                refine r_getIv (pc := 28) 10 0 84 dX10_house_28 (fl_RX10_84 rfl) (by decide) rfl (c10_o hm) (v := nI 0) (hI0) ?_
                refine r_if_le_n (pc := 31) (a := 0) (tgt := 36) dX10_house_31 (by decide) (by omega) (fun c31 => ?_) (fun c31 => ?_)
                · skip
                  refine r_iload_n (pc := 36) dX10_house_36 rfl ?_
                  refine r_tblIn (pc := 37) (x := nI 1) (off := 38) (tgt := 75) dX10_house_37 (by decide) (by decide) (by decide) (by decide) ?_
                  refine r_aload_n (pc := 75) dX10_house_75 rfl ?_
                  refine r_get1 (pc := 76) 10 8 20 dX10_house_76 (fl_RX10_20 rfl) (by decide) rfl (c10_o hm) (c10_p8 hm) ?_
                  refine r_bipush (pc := 79) (v := 8) dX10_house_79 (by decide) ?_
                  refine r_iload_n (pc := 81) dX10_house_81 rfl ?_
                  refine r_imul_n (pc := 82) (a := 8) (b := k) dX10_house_82 ?_
                  refine r_iload_n (pc := 83) dX10_house_83 rfl ?_
                  refine r_iadd_n (pc := 84) (a := 8 * k) (b := hn) dX10_house_84 ?_
                  refine r_iald_n (pc := 85) (i := (8 * k) + hn) dX10_house_85 (c10_a8 hm) (by decide) (by omega) (v := sI (dS (dK s k) hn)) ((hZ.mt hk0).2.2.1 _ (by omega)) ?_
                  refine r_ret_i (pc := 86) dX10_house_86 rfl ?_
                  exact ⟨_, Ia, rfl, rfl, fun x q => (by rw [ah_y et eh ew] at q; have q2 := Option.some.inj q; exact ⟨(show _ = _ from rfl).trans q2, hI0⟩), fun q => (by rw [ah_y et eh ew] at q; cases q), hM.z hZ, fun x j z => hZ x j (by omega) (by omega)⟩
                · exfalso; omega
          · skip
            refine r_aload_n (pc := 0) dX10_house_0 rfl ?_
            refine r_aload_n (pc := 1) dX10_house_1 rfl ?_
            refine r_iload_n (pc := 2) dX10_house_2 rfl ?_
            refine r_iload_n (pc := 3) dX10_house_3 rfl ?_
            refine r_callV_P (pc := 4) (b := m) (As := [.int (nI k), .int (nI hn)]) 10 154 dX10_house_4 lk_X10_isHouse (ml_RX10_154 rfl) im_X10_isHouse se_X10_isHouse (by decide) (c10_o hm) (Nat.le_of_ble_eq_true rfl) rfl (isHouse_ct hm (hZ.mt hk0) (by omega) (hZ.c hcn) hcn10 hk hhn) ?_
            refine r_if_eq_n (pc := 7) (a := 1) (tgt := 23) dX10_house_7 (by decide) (by omega) (fun c7 => ?_) (fun c7 => ?_)
            · exfalso; omega
            · skip
              refine r_iload_n (pc := 10) dX10_house_10 rfl ?_
              refine r_iconst (pc := 11) (v := 0) dX10_house_11 (by decide) ?_
              refine r_iconst (pc := 12) (v := 4) dX10_house_12 (by decide) ?_
              refine r_callS_P (pc := 13) (As := [.int (nI 2), .int (nI 0), .int (nI 4)]) 123 dX10_house_13 lk_X10_isIn (ml_RX10_123 rfl) sm_X10_isIn (Nat.le_of_ble_eq_true rfl) rfl (isIn_y (n := 4) (by omega) (by omega)) ?_
              refine r_if_eq_n (pc := 16) (a := 1) (tgt := 23) dX10_house_16 (by decide) (by omega) (fun c16 => ?_) (fun c16 => ?_)
              · exfalso; omega
              · skip
                refine r_iconst (pc := 19) (v := 0) dX10_house_19 (by decide) ?_
                refine r_goto (pc := 20) (tgt := 24) dX10_house_20 (by decide) ?_
                refine r_putI (pc := 24) (v := nI 0) 10 0 84 dX10_house_24 (fl_RX10_84 rfl) (by decide) rfl rfl (c10_o hm) ?_
                obtain ⟨Ia, hIa⟩ : ∃ zz0 : Im, zz0 = up2 I m 0 (nI 0) := ⟨_, rfl⟩
                refine wp_M (M2 := (Ia, G)) (by subst hIa; rfl) ?_
                have hZ : FrZ I Ia m := by rw [hIa]; exact FrZ.rf.u (by omega)
                have hI0 : Ia m 0 = nI 0 := by rw [hIa]; exact up2_at
                refine r_aload_n (pc := 27) dX10_house_27 rfl ?_
                refine r_getIv (pc := 28) 10 0 84 dX10_house_28 (fl_RX10_84 rfl) (by decide) rfl (c10_o hm) (v := nI 0) (hI0) ?_
                refine r_if_le_n (pc := 31) (a := 0) (tgt := 36) dX10_house_31 (by decide) (by omega) (fun c31 => ?_) (fun c31 => ?_)
                · skip
                  refine r_iload_n (pc := 36) dX10_house_36 rfl ?_
                  refine r_tblIn (pc := 37) (x := nI 2) (off := 50) (tgt := 87) dX10_house_37 (by decide) (by decide) (by decide) (by decide) ?_
                  refine r_aload_n (pc := 87) dX10_house_87 rfl ?_
                  refine r_get1 (pc := 88) 10 9 23 dX10_house_88 (fl_RX10_23 rfl) (by decide) rfl (c10_o hm) (c10_p9 hm) ?_
                  refine r_bipush (pc := 91) (v := 8) dX10_house_91 (by decide) ?_
                  refine r_iload_n (pc := 93) dX10_house_93 rfl ?_
                  refine r_imul_n (pc := 94) (a := 8) (b := k) dX10_house_94 ?_
                  refine r_iload_n (pc := 95) dX10_house_95 rfl ?_
                  refine r_iadd_n (pc := 96) (a := 8 * k) (b := hn) dX10_house_96 ?_
                  refine r_iald_n (pc := 97) (i := (8 * k) + hn) dX10_house_97 (c10_a9 hm) (by decide) (by omega) (v := nI (dE (dK s k) hn)) ((hZ _ _ (by omega) (by omega)).trans (hMd.1.2.1 _ (by omega)).2.2) ?_
                  refine r_ret_i (pc := 98) dX10_house_98 rfl ?_
                  exact ⟨_, Ia, rfl, rfl, fun x q => (by rw [ah_y et eh ew] at q; have q2 := Option.some.inj q; exact ⟨(show _ = _ from rfl).trans q2, hI0⟩), fun q => (by rw [ah_y et eh ew] at q; cases q), hM.z hZ, fun x j z => hZ x j (by omega) (by omega)⟩
                · exfalso; omega
          · skip
            refine r_aload_n (pc := 0) dX10_house_0 rfl ?_
            refine r_aload_n (pc := 1) dX10_house_1 rfl ?_
            refine r_iload_n (pc := 2) dX10_house_2 rfl ?_
            refine r_iload_n (pc := 3) dX10_house_3 rfl ?_
            refine r_callV_P (pc := 4) (b := m) (As := [.int (nI k), .int (nI hn)]) 10 154 dX10_house_4 lk_X10_isHouse (ml_RX10_154 rfl) im_X10_isHouse se_X10_isHouse (by decide) (c10_o hm) (Nat.le_of_ble_eq_true rfl) rfl (isHouse_ct hm (hZ.mt hk0) (by omega) (hZ.c hcn) hcn10 hk hhn) ?_
            refine r_if_eq_n (pc := 7) (a := 1) (tgt := 23) dX10_house_7 (by decide) (by omega) (fun c7 => ?_) (fun c7 => ?_)
            · exfalso; omega
            · skip
              refine r_iload_n (pc := 10) dX10_house_10 rfl ?_
              refine r_iconst (pc := 11) (v := 0) dX10_house_11 (by decide) ?_
              refine r_iconst (pc := 12) (v := 4) dX10_house_12 (by decide) ?_
              refine r_callS_P (pc := 13) (As := [.int (nI 3), .int (nI 0), .int (nI 4)]) 123 dX10_house_13 lk_X10_isIn (ml_RX10_123 rfl) sm_X10_isIn (Nat.le_of_ble_eq_true rfl) rfl (isIn_y (n := 4) (by omega) (by omega)) ?_
              refine r_if_eq_n (pc := 16) (a := 1) (tgt := 23) dX10_house_16 (by decide) (by omega) (fun c16 => ?_) (fun c16 => ?_)
              · exfalso; omega
              · skip
                refine r_iconst (pc := 19) (v := 0) dX10_house_19 (by decide) ?_
                refine r_goto (pc := 20) (tgt := 24) dX10_house_20 (by decide) ?_
                refine r_putI (pc := 24) (v := nI 0) 10 0 84 dX10_house_24 (fl_RX10_84 rfl) (by decide) rfl rfl (c10_o hm) ?_
                obtain ⟨Ia, hIa⟩ : ∃ zz0 : Im, zz0 = up2 I m 0 (nI 0) := ⟨_, rfl⟩
                refine wp_M (M2 := (Ia, G)) (by subst hIa; rfl) ?_
                have hZ : FrZ I Ia m := by rw [hIa]; exact FrZ.rf.u (by omega)
                have hI0 : Ia m 0 = nI 0 := by rw [hIa]; exact up2_at
                refine r_aload_n (pc := 27) dX10_house_27 rfl ?_
                refine r_getIv (pc := 28) 10 0 84 dX10_house_28 (fl_RX10_84 rfl) (by decide) rfl (c10_o hm) (v := nI 0) (hI0) ?_
                refine r_if_le_n (pc := 31) (a := 0) (tgt := 36) dX10_house_31 (by decide) (by omega) (fun c31 => ?_) (fun c31 => ?_)
                · skip
                  refine r_iload_n (pc := 36) dX10_house_36 rfl ?_
                  refine r_tblIn (pc := 37) (x := nI 3) (off := 62) (tgt := 99) dX10_house_37 (by decide) (by decide) (by decide) (by decide) ?_
                  refine r_aload_n (pc := 99) dX10_house_99 rfl ?_
                  refine r_iload_n (pc := 100) dX10_house_100 rfl ?_
                  refine r_iload_n (pc := 101) dX10_house_101 rfl ?_
                  refine r_callV_P (pc := 102) (b := m) (As := [.int (nI k), .int (nI hn)]) 10 158 dX10_house_102 lk_X10_buyers (ml_RX10_158 rfl) im_X10_buyers se_X10_buyers (by decide) (c10_o hm) (Nat.le_of_ble_eq_true rfl) rfl (buyers_ct hm (hZ.mt hk0) (by omega) (h := hn) (by omega)) ?_
                  refine r_ret_i (pc := 105) dX10_house_105 rfl ?_
                  exact ⟨_, Ia, rfl, rfl, fun x q => (by rw [ah_y et eh ew] at q; have q2 := Option.some.inj q; exact ⟨(show _ = _ from rfl).trans q2, hI0⟩), fun q => (by rw [ah_y et eh ew] at q; cases q), hM.z hZ, fun x j z => hZ x j (by omega) (by omega)⟩
                · exfalso; omega
          · skip
            refine r_aload_n (pc := 0) dX10_house_0 rfl ?_
            refine r_aload_n (pc := 1) dX10_house_1 rfl ?_
            refine r_iload_n (pc := 2) dX10_house_2 rfl ?_
            refine r_iload_n (pc := 3) dX10_house_3 rfl ?_
            refine r_callV_P (pc := 4) (b := m) (As := [.int (nI k), .int (nI hn)]) 10 154 dX10_house_4 lk_X10_isHouse (ml_RX10_154 rfl) im_X10_isHouse se_X10_isHouse (by decide) (c10_o hm) (Nat.le_of_ble_eq_true rfl) rfl (isHouse_ct hm (hZ.mt hk0) (by omega) (hZ.c hcn) hcn10 hk hhn) ?_
            refine r_if_eq_n (pc := 7) (a := 1) (tgt := 23) dX10_house_7 (by decide) (by omega) (fun c7 => ?_) (fun c7 => ?_)
            · exfalso; omega
            · skip
              refine r_iload_n (pc := 10) dX10_house_10 rfl ?_
              refine r_iconst (pc := 11) (v := 0) dX10_house_11 (by decide) ?_
              refine r_iconst (pc := 12) (v := 4) dX10_house_12 (by decide) ?_
              refine r_callS_P (pc := 13) (As := [.int (nI 4), .int (nI 0), .int (nI 4)]) 123 dX10_house_13 lk_X10_isIn (ml_RX10_123 rfl) sm_X10_isIn (Nat.le_of_ble_eq_true rfl) rfl (isIn_y (n := 4) (by omega) (by omega)) ?_
              refine r_if_eq_n (pc := 16) (a := 1) (tgt := 23) dX10_house_16 (by decide) (by omega) (fun c16 => ?_) (fun c16 => ?_)
              · exfalso; omega
              · skip
                refine r_iconst (pc := 19) (v := 0) dX10_house_19 (by decide) ?_
                refine r_goto (pc := 20) (tgt := 24) dX10_house_20 (by decide) ?_
                refine r_putI (pc := 24) (v := nI 0) 10 0 84 dX10_house_24 (fl_RX10_84 rfl) (by decide) rfl rfl (c10_o hm) ?_
                obtain ⟨Ia, hIa⟩ : ∃ zz0 : Im, zz0 = up2 I m 0 (nI 0) := ⟨_, rfl⟩
                refine wp_M (M2 := (Ia, G)) (by subst hIa; rfl) ?_
                have hZ : FrZ I Ia m := by rw [hIa]; exact FrZ.rf.u (by omega)
                have hI0 : Ia m 0 = nI 0 := by rw [hIa]; exact up2_at
                refine r_aload_n (pc := 27) dX10_house_27 rfl ?_
                refine r_getIv (pc := 28) 10 0 84 dX10_house_28 (fl_RX10_84 rfl) (by decide) rfl (c10_o hm) (v := nI 0) (hI0) ?_
                refine r_if_le_n (pc := 31) (a := 0) (tgt := 36) dX10_house_31 (by decide) (by omega) (fun c31 => ?_) (fun c31 => ?_)
                · skip
                  refine r_iload_n (pc := 36) dX10_house_36 rfl ?_
                  refine r_tblOut (pc := 37) (x := nI 4) (tgt := 106) dX10_house_37 (by decide) (by decide) ?_
                  refine r_aload_n (pc := 106) dX10_house_106 rfl ?_
                  refine r_iload_n (pc := 107) dX10_house_107 rfl ?_
                  refine r_iload_n (pc := 108) dX10_house_108 rfl ?_
                  refine r_callV_P (pc := 109) (b := m) (As := [.int (nI k), .int (nI hn)]) 10 165 dX10_house_109 lk_X10_isShop (ml_RX10_165 rfl) im_X10_isShop se_X10_isShop (by decide) (c10_o hm) (Nat.le_of_ble_eq_true rfl) rfl (isShopM_y hm (hZ.mt hk0) (hZ.c hcn) hcn10 hk hhn hsh) ?_
                  refine r_if_eq_n (pc := 112) (a := 1) (tgt := 125) dX10_house_112 (by decide) (by omega) (fun c112 => ?_) (fun c112 => ?_)
                  · exfalso; omega
                  · skip
                    refine r_aload_n (pc := 115) dX10_house_115 rfl ?_
                    refine r_iload_n (pc := 116) dX10_house_116 rfl ?_
                    refine r_iload_n (pc := 117) dX10_house_117 rfl ?_
                    refine r_iconst (pc := 118) (v := 0) dX10_house_118 (by decide) ?_
                    refine r_callV_P (pc := 119) (b := m) (As := [.int (nI k), .int (nI hn), .int (nI 0)]) 10 168 dX10_house_119 lk_X10_wanted (ml_RX10_168 rfl) im_X10_wanted se_X10_wanted (by decide) (c10_o hm) (Nat.le_of_ble_eq_true rfl) rfl (wanted_ct hm (hZ.mt hk0) (by omega) (by omega) (by omega)) ?_
                    refine r_goto (pc := 122) (tgt := 126) dX10_house_122 (by decide) ?_
                    refine r_ret_i (pc := 126) dX10_house_126 rfl ?_
                    exact ⟨_, Ia, rfl, rfl, fun x q => (by rw [ah_y et eh ew] at q; have q2 := Option.some.inj q; exact ⟨(show _ = _ from (if_pos hsh).symm).trans q2, hI0⟩), fun q => (by rw [ah_y et eh ew] at q; cases q), hM.z hZ, fun x j z => hZ x j (by omega) (by omega)⟩
                · exfalso; omega
        · skip
          refine r_aload_n (pc := 0) dX10_house_0 rfl ?_
          refine r_aload_n (pc := 1) dX10_house_1 rfl ?_
          refine r_iload_n (pc := 2) dX10_house_2 rfl ?_
          refine r_iload_n (pc := 3) dX10_house_3 rfl ?_
          refine r_callV_P (pc := 4) (b := m) (As := [.int (nI k), .int (nI hn)]) 10 154 dX10_house_4 lk_X10_isHouse (ml_RX10_154 rfl) im_X10_isHouse se_X10_isHouse (by decide) (c10_o hm) (Nat.le_of_ble_eq_true rfl) rfl (isHouse_ct hm (hZ.mt hk0) (by omega) (hZ.c hcn) hcn10 hk hhn) ?_
          refine r_if_eq_n (pc := 7) (a := 1) (tgt := 23) dX10_house_7 (by decide) (by omega) (fun c7 => ?_) (fun c7 => ?_)
          · exfalso; omega
          · skip
            refine r_iload_n (pc := 10) dX10_house_10 rfl ?_
            refine r_iconst (pc := 11) (v := 0) dX10_house_11 (by decide) ?_
            refine r_iconst (pc := 12) (v := 4) dX10_house_12 (by decide) ?_
            refine r_callS_P (pc := 13) (As := [.int w, .int (nI 0), .int (nI 4)]) 123 dX10_house_13 lk_X10_isIn (ml_RX10_123 rfl) sm_X10_isIn (Nat.le_of_ble_eq_true rfl) rfl (isIn_no (n := 4) (by omega) hnow) ?_
            refine r_if_eq_n (pc := 16) (a := 0) (tgt := 23) dX10_house_16 (by decide) (by omega) (fun c16 => ?_) (fun c16 => ?_)
            · skip
              refine r_iconst (pc := 23) (v := 1) dX10_house_23 (by decide) ?_
              refine r_putI (pc := 24) (v := nI 1) 10 0 84 dX10_house_24 (fl_RX10_84 rfl) (by decide) rfl rfl (c10_o hm) ?_
              obtain ⟨Ia, hIa⟩ : ∃ zz0 : Im, zz0 = up2 I m 0 (nI 1) := ⟨_, rfl⟩
              refine wp_M (M2 := (Ia, G)) (by subst hIa; rfl) ?_
              have hZ : FrZ I Ia m := by rw [hIa]; exact FrZ.rf.u (by omega)
              have hI0 : Ia m 0 = nI 1 := by rw [hIa]; exact up2_at
              refine r_aload_n (pc := 27) dX10_house_27 rfl ?_
              refine r_getIv (pc := 28) 10 0 84 dX10_house_28 (fl_RX10_84 rfl) (by decide) rfl (c10_o hm) (v := nI 1) (hI0) ?_
              refine r_if_le_n (pc := 31) (a := 1) (tgt := 36) dX10_house_31 (by decide) (by omega) (fun c31 => ?_) (fun c31 => ?_)
              · exfalso; omega
              · skip
                refine r_iconst (pc := 34) (v := 0) dX10_house_34 (by decide) ?_
                refine r_ret_i (pc := 35) dX10_house_35 rfl ?_
                exact ⟨_, Ia, rfl, rfl, fun x q => (by rw [ah_w et eh ew] at q; cases q), fun _ => hI0, hM.z hZ, fun x j z => hZ x j (by omega) (by omega)⟩
            · exfalso; omega
      · skip
        rcases in_cases (n := 5) (by omega) w with ⟨wn, hwn, rfl, ew⟩ | ⟨ew, hnow⟩
        · skip
          rcases (show wn = 0 ∨ wn = 1 ∨ wn = 2 ∨ wn = 3 ∨ wn = 4 by omega) with rfl | rfl | rfl | rfl | rfl
          · skip
            refine r_aload_n (pc := 0) dX10_house_0 rfl ?_
            refine r_aload_n (pc := 1) dX10_house_1 rfl ?_
            refine r_iload_n (pc := 2) dX10_house_2 rfl ?_
            refine r_iload_n (pc := 3) dX10_house_3 rfl ?_
            refine r_callV_P (pc := 4) (b := m) (As := [.int (nI k), .int (nI hn)]) 10 154 dX10_house_4 lk_X10_isHouse (ml_RX10_154 rfl) im_X10_isHouse se_X10_isHouse (by decide) (c10_o hm) (Nat.le_of_ble_eq_true rfl) rfl (isHouse_ct hm (hZ.mt hk0) (by omega) (hZ.c hcn) hcn10 hk hhn) ?_
            refine r_if_eq_n (pc := 7) (a := 1) (tgt := 23) dX10_house_7 (by decide) (by omega) (fun c7 => ?_) (fun c7 => ?_)
            · exfalso; omega
            · skip
              refine r_iload_n (pc := 10) dX10_house_10 rfl ?_
              refine r_iconst (pc := 11) (v := 0) dX10_house_11 (by decide) ?_
              refine r_iconst (pc := 12) (v := 4) dX10_house_12 (by decide) ?_
              refine r_callS_P (pc := 13) (As := [.int (nI 0), .int (nI 0), .int (nI 4)]) 123 dX10_house_13 lk_X10_isIn (ml_RX10_123 rfl) sm_X10_isIn (Nat.le_of_ble_eq_true rfl) rfl (isIn_y (n := 4) (by omega) (by omega)) ?_
              refine r_if_eq_n (pc := 16) (a := 1) (tgt := 23) dX10_house_16 (by decide) (by omega) (fun c16 => ?_) (fun c16 => ?_)
              · exfalso; omega
              · skip
                refine r_iconst (pc := 19) (v := 0) dX10_house_19 (by decide) ?_
                refine r_goto (pc := 20) (tgt := 24) dX10_house_20 (by decide) ?_
                refine r_putI (pc := 24) (v := nI 0) 10 0 84 dX10_house_24 (fl_RX10_84 rfl) (by decide) rfl rfl (c10_o hm) ?_
                obtain ⟨Ia, hIa⟩ : ∃ zz0 : Im, zz0 = up2 I m 0 (nI 0) := ⟨_, rfl⟩
                refine wp_M (M2 := (Ia, G)) (by subst hIa; rfl) ?_
                have hZ : FrZ I Ia m := by rw [hIa]; exact FrZ.rf.u (by omega)
                have hI0 : Ia m 0 = nI 0 := by rw [hIa]; exact up2_at
                refine r_aload_n (pc := 27) dX10_house_27 rfl ?_
                refine r_getIv (pc := 28) 10 0 84 dX10_house_28 (fl_RX10_84 rfl) (by decide) rfl (c10_o hm) (v := nI 0) (hI0) ?_
                refine r_if_le_n (pc := 31) (a := 0) (tgt := 36) dX10_house_31 (by decide) (by omega) (fun c31 => ?_) (fun c31 => ?_)
                · skip
                  refine r_iload_n (pc := 36) dX10_house_36 rfl ?_
                  refine r_tblIn (pc := 37) (x := nI 0) (off := 31) (tgt := 68) dX10_house_37 (by decide) (by decide) (by decide) (by decide) ?_
                  refine r_aload_n (pc := 68) dX10_house_68 rfl ?_
                  refine r_iload_n (pc := 69) dX10_house_69 rfl ?_
                  refine r_iload_n (pc := 70) dX10_house_70 rfl ?_
                  refine r_callV_P (pc := 71) (b := m) (As := [.int (nI k), .int (nI hn)]) 10 162 dX10_house_71 lk_X10_costOf (ml_RX10_162 rfl) im_X10_costOf se_X10_costOf (by decide) (c10_o hm) (Nat.le_of_ble_eq_true rfl) rfl (costOf_ct hm (hZ.mt hk0) (by omega) (by omega)) ?_
                  refine r_ret_i (pc := 74) dX10_house_74 rfl ?_
                  exact ⟨_, Ia, rfl, rfl, fun x q => (by rw [ah_y et eh ew] at q; have q2 := Option.some.inj q; exact ⟨(show _ = _ from rfl).trans q2, hI0⟩), fun q => (by rw [ah_y et eh ew] at q; cases q), hM.z hZ, fun x j z => hZ x j (by omega) (by omega)⟩
                · exfalso; omega
          · skip
            refine r_aload_n (pc := 0) dX10_house_0 rfl ?_
            refine r_aload_n (pc := 1) dX10_house_1 rfl ?_
            refine r_iload_n (pc := 2) dX10_house_2 rfl ?_
            refine r_iload_n (pc := 3) dX10_house_3 rfl ?_
            refine r_callV_P (pc := 4) (b := m) (As := [.int (nI k), .int (nI hn)]) 10 154 dX10_house_4 lk_X10_isHouse (ml_RX10_154 rfl) im_X10_isHouse se_X10_isHouse (by decide) (c10_o hm) (Nat.le_of_ble_eq_true rfl) rfl (isHouse_ct hm (hZ.mt hk0) (by omega) (hZ.c hcn) hcn10 hk hhn) ?_
            refine r_if_eq_n (pc := 7) (a := 1) (tgt := 23) dX10_house_7 (by decide) (by omega) (fun c7 => ?_) (fun c7 => ?_)
            · exfalso; omega
            · skip
              refine r_iload_n (pc := 10) dX10_house_10 rfl ?_
              refine r_iconst (pc := 11) (v := 0) dX10_house_11 (by decide) ?_
              refine r_iconst (pc := 12) (v := 4) dX10_house_12 (by decide) ?_
              refine r_callS_P (pc := 13) (As := [.int (nI 1), .int (nI 0), .int (nI 4)]) 123 dX10_house_13 lk_X10_isIn (ml_RX10_123 rfl) sm_X10_isIn (Nat.le_of_ble_eq_true rfl) rfl (isIn_y (n := 4) (by omega) (by omega)) ?_
              refine r_if_eq_n (pc := 16) (a := 1) (tgt := 23) dX10_house_16 (by decide) (by omega) (fun c16 => ?_) (fun c16 => ?_)
              · exfalso; omega
              · skip
                refine r_iconst (pc := 19) (v := 0) dX10_house_19 (by decide) ?_
                refine r_goto (pc := 20) (tgt := 24) dX10_house_20 (by decide) ?_
                refine r_putI (pc := 24) (v := nI 0) 10 0 84 dX10_house_24 (fl_RX10_84 rfl) (by decide) rfl rfl (c10_o hm) ?_
                obtain ⟨Ia, hIa⟩ : ∃ zz0 : Im, zz0 = up2 I m 0 (nI 0) := ⟨_, rfl⟩
                refine wp_M (M2 := (Ia, G)) (by subst hIa; rfl) ?_
                have hZ : FrZ I Ia m := by rw [hIa]; exact FrZ.rf.u (by omega)
                have hI0 : Ia m 0 = nI 0 := by rw [hIa]; exact up2_at
                refine r_aload_n (pc := 27) dX10_house_27 rfl ?_
                refine r_getIv (pc := 28) 10 0 84 dX10_house_28 (fl_RX10_84 rfl) (by decide) rfl (c10_o hm) (v := nI 0) (hI0) ?_
                refine r_if_le_n (pc := 31) (a := 0) (tgt := 36) dX10_house_31 (by decide) (by omega) (fun c31 => ?_) (fun c31 => ?_)
                · skip
                  refine r_iload_n (pc := 36) dX10_house_36 rfl ?_
                  refine r_tblIn (pc := 37) (x := nI 1) (off := 38) (tgt := 75) dX10_house_37 (by decide) (by decide) (by decide) (by decide) ?_
                  refine r_aload_n (pc := 75) dX10_house_75 rfl ?_
                  refine r_get1 (pc := 76) 10 8 20 dX10_house_76 (fl_RX10_20 rfl) (by decide) rfl (c10_o hm) (c10_p8 hm) ?_
                  refine r_bipush (pc := 79) (v := 8) dX10_house_79 (by decide) ?_
                  refine r_iload_n (pc := 81) dX10_house_81 rfl ?_
                  refine r_imul_n (pc := 82) (a := 8) (b := k) dX10_house_82 ?_
                  refine r_iload_n (pc := 83) dX10_house_83 rfl ?_
                  refine r_iadd_n (pc := 84) (a := 8 * k) (b := hn) dX10_house_84 ?_
                  refine r_iald_n (pc := 85) (i := (8 * k) + hn) dX10_house_85 (c10_a8 hm) (by decide) (by omega) (v := sI (dS (dK s k) hn)) ((hZ.mt hk0).2.2.1 _ (by omega)) ?_
                  refine r_ret_i (pc := 86) dX10_house_86 rfl ?_
                  exact ⟨_, Ia, rfl, rfl, fun x q => (by rw [ah_y et eh ew] at q; have q2 := Option.some.inj q; exact ⟨(show _ = _ from rfl).trans q2, hI0⟩), fun q => (by rw [ah_y et eh ew] at q; cases q), hM.z hZ, fun x j z => hZ x j (by omega) (by omega)⟩
                · exfalso; omega
          · skip
            refine r_aload_n (pc := 0) dX10_house_0 rfl ?_
            refine r_aload_n (pc := 1) dX10_house_1 rfl ?_
            refine r_iload_n (pc := 2) dX10_house_2 rfl ?_
            refine r_iload_n (pc := 3) dX10_house_3 rfl ?_
            refine r_callV_P (pc := 4) (b := m) (As := [.int (nI k), .int (nI hn)]) 10 154 dX10_house_4 lk_X10_isHouse (ml_RX10_154 rfl) im_X10_isHouse se_X10_isHouse (by decide) (c10_o hm) (Nat.le_of_ble_eq_true rfl) rfl (isHouse_ct hm (hZ.mt hk0) (by omega) (hZ.c hcn) hcn10 hk hhn) ?_
            refine r_if_eq_n (pc := 7) (a := 1) (tgt := 23) dX10_house_7 (by decide) (by omega) (fun c7 => ?_) (fun c7 => ?_)
            · exfalso; omega
            · skip
              refine r_iload_n (pc := 10) dX10_house_10 rfl ?_
              refine r_iconst (pc := 11) (v := 0) dX10_house_11 (by decide) ?_
              refine r_iconst (pc := 12) (v := 4) dX10_house_12 (by decide) ?_
              refine r_callS_P (pc := 13) (As := [.int (nI 2), .int (nI 0), .int (nI 4)]) 123 dX10_house_13 lk_X10_isIn (ml_RX10_123 rfl) sm_X10_isIn (Nat.le_of_ble_eq_true rfl) rfl (isIn_y (n := 4) (by omega) (by omega)) ?_
              refine r_if_eq_n (pc := 16) (a := 1) (tgt := 23) dX10_house_16 (by decide) (by omega) (fun c16 => ?_) (fun c16 => ?_)
              · exfalso; omega
              · skip
                refine r_iconst (pc := 19) (v := 0) dX10_house_19 (by decide) ?_
                refine r_goto (pc := 20) (tgt := 24) dX10_house_20 (by decide) ?_
                refine r_putI (pc := 24) (v := nI 0) 10 0 84 dX10_house_24 (fl_RX10_84 rfl) (by decide) rfl rfl (c10_o hm) ?_
                obtain ⟨Ia, hIa⟩ : ∃ zz0 : Im, zz0 = up2 I m 0 (nI 0) := ⟨_, rfl⟩
                refine wp_M (M2 := (Ia, G)) (by subst hIa; rfl) ?_
                have hZ : FrZ I Ia m := by rw [hIa]; exact FrZ.rf.u (by omega)
                have hI0 : Ia m 0 = nI 0 := by rw [hIa]; exact up2_at
                refine r_aload_n (pc := 27) dX10_house_27 rfl ?_
                refine r_getIv (pc := 28) 10 0 84 dX10_house_28 (fl_RX10_84 rfl) (by decide) rfl (c10_o hm) (v := nI 0) (hI0) ?_
                refine r_if_le_n (pc := 31) (a := 0) (tgt := 36) dX10_house_31 (by decide) (by omega) (fun c31 => ?_) (fun c31 => ?_)
                · skip
                  refine r_iload_n (pc := 36) dX10_house_36 rfl ?_
                  refine r_tblIn (pc := 37) (x := nI 2) (off := 50) (tgt := 87) dX10_house_37 (by decide) (by decide) (by decide) (by decide) ?_
                  refine r_aload_n (pc := 87) dX10_house_87 rfl ?_
                  refine r_get1 (pc := 88) 10 9 23 dX10_house_88 (fl_RX10_23 rfl) (by decide) rfl (c10_o hm) (c10_p9 hm) ?_
                  refine r_bipush (pc := 91) (v := 8) dX10_house_91 (by decide) ?_
                  refine r_iload_n (pc := 93) dX10_house_93 rfl ?_
                  refine r_imul_n (pc := 94) (a := 8) (b := k) dX10_house_94 ?_
                  refine r_iload_n (pc := 95) dX10_house_95 rfl ?_
                  refine r_iadd_n (pc := 96) (a := 8 * k) (b := hn) dX10_house_96 ?_
                  refine r_iald_n (pc := 97) (i := (8 * k) + hn) dX10_house_97 (c10_a9 hm) (by decide) (by omega) (v := nI (dE (dK s k) hn)) ((hZ _ _ (by omega) (by omega)).trans (hMd.1.2.1 _ (by omega)).2.2) ?_
                  refine r_ret_i (pc := 98) dX10_house_98 rfl ?_
                  exact ⟨_, Ia, rfl, rfl, fun x q => (by rw [ah_y et eh ew] at q; have q2 := Option.some.inj q; exact ⟨(show _ = _ from rfl).trans q2, hI0⟩), fun q => (by rw [ah_y et eh ew] at q; cases q), hM.z hZ, fun x j z => hZ x j (by omega) (by omega)⟩
                · exfalso; omega
          · skip
            refine r_aload_n (pc := 0) dX10_house_0 rfl ?_
            refine r_aload_n (pc := 1) dX10_house_1 rfl ?_
            refine r_iload_n (pc := 2) dX10_house_2 rfl ?_
            refine r_iload_n (pc := 3) dX10_house_3 rfl ?_
            refine r_callV_P (pc := 4) (b := m) (As := [.int (nI k), .int (nI hn)]) 10 154 dX10_house_4 lk_X10_isHouse (ml_RX10_154 rfl) im_X10_isHouse se_X10_isHouse (by decide) (c10_o hm) (Nat.le_of_ble_eq_true rfl) rfl (isHouse_ct hm (hZ.mt hk0) (by omega) (hZ.c hcn) hcn10 hk hhn) ?_
            refine r_if_eq_n (pc := 7) (a := 1) (tgt := 23) dX10_house_7 (by decide) (by omega) (fun c7 => ?_) (fun c7 => ?_)
            · exfalso; omega
            · skip
              refine r_iload_n (pc := 10) dX10_house_10 rfl ?_
              refine r_iconst (pc := 11) (v := 0) dX10_house_11 (by decide) ?_
              refine r_iconst (pc := 12) (v := 4) dX10_house_12 (by decide) ?_
              refine r_callS_P (pc := 13) (As := [.int (nI 3), .int (nI 0), .int (nI 4)]) 123 dX10_house_13 lk_X10_isIn (ml_RX10_123 rfl) sm_X10_isIn (Nat.le_of_ble_eq_true rfl) rfl (isIn_y (n := 4) (by omega) (by omega)) ?_
              refine r_if_eq_n (pc := 16) (a := 1) (tgt := 23) dX10_house_16 (by decide) (by omega) (fun c16 => ?_) (fun c16 => ?_)
              · exfalso; omega
              · skip
                refine r_iconst (pc := 19) (v := 0) dX10_house_19 (by decide) ?_
                refine r_goto (pc := 20) (tgt := 24) dX10_house_20 (by decide) ?_
                refine r_putI (pc := 24) (v := nI 0) 10 0 84 dX10_house_24 (fl_RX10_84 rfl) (by decide) rfl rfl (c10_o hm) ?_
                obtain ⟨Ia, hIa⟩ : ∃ zz0 : Im, zz0 = up2 I m 0 (nI 0) := ⟨_, rfl⟩
                refine wp_M (M2 := (Ia, G)) (by subst hIa; rfl) ?_
                have hZ : FrZ I Ia m := by rw [hIa]; exact FrZ.rf.u (by omega)
                have hI0 : Ia m 0 = nI 0 := by rw [hIa]; exact up2_at
                refine r_aload_n (pc := 27) dX10_house_27 rfl ?_
                refine r_getIv (pc := 28) 10 0 84 dX10_house_28 (fl_RX10_84 rfl) (by decide) rfl (c10_o hm) (v := nI 0) (hI0) ?_
                refine r_if_le_n (pc := 31) (a := 0) (tgt := 36) dX10_house_31 (by decide) (by omega) (fun c31 => ?_) (fun c31 => ?_)
                · skip
                  refine r_iload_n (pc := 36) dX10_house_36 rfl ?_
                  refine r_tblIn (pc := 37) (x := nI 3) (off := 62) (tgt := 99) dX10_house_37 (by decide) (by decide) (by decide) (by decide) ?_
                  refine r_aload_n (pc := 99) dX10_house_99 rfl ?_
                  refine r_iload_n (pc := 100) dX10_house_100 rfl ?_
                  refine r_iload_n (pc := 101) dX10_house_101 rfl ?_
                  refine r_callV_P (pc := 102) (b := m) (As := [.int (nI k), .int (nI hn)]) 10 158 dX10_house_102 lk_X10_buyers (ml_RX10_158 rfl) im_X10_buyers se_X10_buyers (by decide) (c10_o hm) (Nat.le_of_ble_eq_true rfl) rfl (buyers_ct hm (hZ.mt hk0) (by omega) (h := hn) (by omega)) ?_
                  refine r_ret_i (pc := 105) dX10_house_105 rfl ?_
                  exact ⟨_, Ia, rfl, rfl, fun x q => (by rw [ah_y et eh ew] at q; have q2 := Option.some.inj q; exact ⟨(show _ = _ from rfl).trans q2, hI0⟩), fun q => (by rw [ah_y et eh ew] at q; cases q), hM.z hZ, fun x j z => hZ x j (by omega) (by omega)⟩
                · exfalso; omega
          · skip
            refine r_aload_n (pc := 0) dX10_house_0 rfl ?_
            refine r_aload_n (pc := 1) dX10_house_1 rfl ?_
            refine r_iload_n (pc := 2) dX10_house_2 rfl ?_
            refine r_iload_n (pc := 3) dX10_house_3 rfl ?_
            refine r_callV_P (pc := 4) (b := m) (As := [.int (nI k), .int (nI hn)]) 10 154 dX10_house_4 lk_X10_isHouse (ml_RX10_154 rfl) im_X10_isHouse se_X10_isHouse (by decide) (c10_o hm) (Nat.le_of_ble_eq_true rfl) rfl (isHouse_ct hm (hZ.mt hk0) (by omega) (hZ.c hcn) hcn10 hk hhn) ?_
            refine r_if_eq_n (pc := 7) (a := 1) (tgt := 23) dX10_house_7 (by decide) (by omega) (fun c7 => ?_) (fun c7 => ?_)
            · exfalso; omega
            · skip
              refine r_iload_n (pc := 10) dX10_house_10 rfl ?_
              refine r_iconst (pc := 11) (v := 0) dX10_house_11 (by decide) ?_
              refine r_iconst (pc := 12) (v := 4) dX10_house_12 (by decide) ?_
              refine r_callS_P (pc := 13) (As := [.int (nI 4), .int (nI 0), .int (nI 4)]) 123 dX10_house_13 lk_X10_isIn (ml_RX10_123 rfl) sm_X10_isIn (Nat.le_of_ble_eq_true rfl) rfl (isIn_y (n := 4) (by omega) (by omega)) ?_
              refine r_if_eq_n (pc := 16) (a := 1) (tgt := 23) dX10_house_16 (by decide) (by omega) (fun c16 => ?_) (fun c16 => ?_)
              · exfalso; omega
              · skip
                refine r_iconst (pc := 19) (v := 0) dX10_house_19 (by decide) ?_
                refine r_goto (pc := 20) (tgt := 24) dX10_house_20 (by decide) ?_
                refine r_putI (pc := 24) (v := nI 0) 10 0 84 dX10_house_24 (fl_RX10_84 rfl) (by decide) rfl rfl (c10_o hm) ?_
                obtain ⟨Ia, hIa⟩ : ∃ zz0 : Im, zz0 = up2 I m 0 (nI 0) := ⟨_, rfl⟩
                refine wp_M (M2 := (Ia, G)) (by subst hIa; rfl) ?_
                have hZ : FrZ I Ia m := by rw [hIa]; exact FrZ.rf.u (by omega)
                have hI0 : Ia m 0 = nI 0 := by rw [hIa]; exact up2_at
                refine r_aload_n (pc := 27) dX10_house_27 rfl ?_
                refine r_getIv (pc := 28) 10 0 84 dX10_house_28 (fl_RX10_84 rfl) (by decide) rfl (c10_o hm) (v := nI 0) (hI0) ?_
                refine r_if_le_n (pc := 31) (a := 0) (tgt := 36) dX10_house_31 (by decide) (by omega) (fun c31 => ?_) (fun c31 => ?_)
                · skip
                  refine r_iload_n (pc := 36) dX10_house_36 rfl ?_
                  refine r_tblOut (pc := 37) (x := nI 4) (tgt := 106) dX10_house_37 (by decide) (by decide) ?_
                  refine r_aload_n (pc := 106) dX10_house_106 rfl ?_
                  refine r_iload_n (pc := 107) dX10_house_107 rfl ?_
                  refine r_iload_n (pc := 108) dX10_house_108 rfl ?_
                  refine r_callV_P (pc := 109) (b := m) (As := [.int (nI k), .int (nI hn)]) 10 165 dX10_house_109 lk_X10_isShop (ml_RX10_165 rfl) im_X10_isShop se_X10_isShop (by decide) (c10_o hm) (Nat.le_of_ble_eq_true rfl) rfl (isShopM_n hm (hZ.mt hk0) (hZ.c hcn) hcn10 hk hhn hsh) ?_
                  refine r_if_eq_n (pc := 112) (a := 0) (tgt := 125) dX10_house_112 (by decide) (by omega) (fun c112 => ?_) (fun c112 => ?_)
                  · skip
                    refine r_iconst (pc := 125) (v := 0) dX10_house_125 (by decide) ?_
                    refine r_ret_i (pc := 126) dX10_house_126 rfl ?_
                    exact ⟨_, Ia, rfl, rfl, fun x q => (by rw [ah_y et eh ew] at q; have q2 := Option.some.inj q; exact ⟨(show _ = _ from (if_neg hsh).symm).trans q2, hI0⟩), fun q => (by rw [ah_y et eh ew] at q; cases q), hM.z hZ, fun x j z => hZ x j (by omega) (by omega)⟩
                  · exfalso; omega
                · exfalso; omega
        · skip
          refine r_aload_n (pc := 0) dX10_house_0 rfl ?_
          refine r_aload_n (pc := 1) dX10_house_1 rfl ?_
          refine r_iload_n (pc := 2) dX10_house_2 rfl ?_
          refine r_iload_n (pc := 3) dX10_house_3 rfl ?_
          refine r_callV_P (pc := 4) (b := m) (As := [.int (nI k), .int (nI hn)]) 10 154 dX10_house_4 lk_X10_isHouse (ml_RX10_154 rfl) im_X10_isHouse se_X10_isHouse (by decide) (c10_o hm) (Nat.le_of_ble_eq_true rfl) rfl (isHouse_ct hm (hZ.mt hk0) (by omega) (hZ.c hcn) hcn10 hk hhn) ?_
          refine r_if_eq_n (pc := 7) (a := 1) (tgt := 23) dX10_house_7 (by decide) (by omega) (fun c7 => ?_) (fun c7 => ?_)
          · exfalso; omega
          · skip
            refine r_iload_n (pc := 10) dX10_house_10 rfl ?_
            refine r_iconst (pc := 11) (v := 0) dX10_house_11 (by decide) ?_
            refine r_iconst (pc := 12) (v := 4) dX10_house_12 (by decide) ?_
            refine r_callS_P (pc := 13) (As := [.int w, .int (nI 0), .int (nI 4)]) 123 dX10_house_13 lk_X10_isIn (ml_RX10_123 rfl) sm_X10_isIn (Nat.le_of_ble_eq_true rfl) rfl (isIn_no (n := 4) (by omega) hnow) ?_
            refine r_if_eq_n (pc := 16) (a := 0) (tgt := 23) dX10_house_16 (by decide) (by omega) (fun c16 => ?_) (fun c16 => ?_)
            · skip
              refine r_iconst (pc := 23) (v := 1) dX10_house_23 (by decide) ?_
              refine r_putI (pc := 24) (v := nI 1) 10 0 84 dX10_house_24 (fl_RX10_84 rfl) (by decide) rfl rfl (c10_o hm) ?_
              obtain ⟨Ia, hIa⟩ : ∃ zz0 : Im, zz0 = up2 I m 0 (nI 1) := ⟨_, rfl⟩
              refine wp_M (M2 := (Ia, G)) (by subst hIa; rfl) ?_
              have hZ : FrZ I Ia m := by rw [hIa]; exact FrZ.rf.u (by omega)
              have hI0 : Ia m 0 = nI 1 := by rw [hIa]; exact up2_at
              refine r_aload_n (pc := 27) dX10_house_27 rfl ?_
              refine r_getIv (pc := 28) 10 0 84 dX10_house_28 (fl_RX10_84 rfl) (by decide) rfl (c10_o hm) (v := nI 1) (hI0) ?_
              refine r_if_le_n (pc := 31) (a := 1) (tgt := 36) dX10_house_31 (by decide) (by omega) (fun c31 => ?_) (fun c31 => ?_)
              · exfalso; omega
              · skip
                refine r_iconst (pc := 34) (v := 0) dX10_house_34 (by decide) ?_
                refine r_ret_i (pc := 35) dX10_house_35 rfl ?_
                exact ⟨_, Ia, rfl, rfl, fun x q => (by rw [ah_w et eh ew] at q; cases q), fun _ => hI0, hM.z hZ, fun x j z => hZ x j (by omega) (by omega)⟩
            · exfalso; omega
    · skip
      refine r_aload_n (pc := 0) dX10_house_0 rfl ?_
      refine r_aload_n (pc := 1) dX10_house_1 rfl ?_
      refine r_iload_n (pc := 2) dX10_house_2 rfl ?_
      refine r_iload_n (pc := 3) dX10_house_3 rfl ?_
      refine r_callV_P (pc := 4) (b := m) (As := [.int (nI k), .int h]) 10 154 dX10_house_4 lk_X10_isHouse (ml_RX10_154 rfl) im_X10_isHouse se_X10_isHouse (by decide) (c10_o hm) (Nat.le_of_ble_eq_true rfl) rfl (isHouse_no hm (hZ.mt hk0) (hZ.c hcn) hcn10 hk hnoh) ?_
      refine r_if_eq_n (pc := 7) (a := 0) (tgt := 23) dX10_house_7 (by decide) (by omega) (fun c7 => ?_) (fun c7 => ?_)
      · skip
        refine r_iconst (pc := 23) (v := 1) dX10_house_23 (by decide) ?_
        refine r_putI (pc := 24) (v := nI 1) 10 0 84 dX10_house_24 (fl_RX10_84 rfl) (by decide) rfl rfl (c10_o hm) ?_
        obtain ⟨Ia, hIa⟩ : ∃ zz0 : Im, zz0 = up2 I m 0 (nI 1) := ⟨_, rfl⟩
        refine wp_M (M2 := (Ia, G)) (by subst hIa; rfl) ?_
        have hZ : FrZ I Ia m := by rw [hIa]; exact FrZ.rf.u (by omega)
        have hI0 : Ia m 0 = nI 1 := by rw [hIa]; exact up2_at
        refine r_aload_n (pc := 27) dX10_house_27 rfl ?_
        refine r_getIv (pc := 28) 10 0 84 dX10_house_28 (fl_RX10_84 rfl) (by decide) rfl (c10_o hm) (v := nI 1) (hI0) ?_
        refine r_if_le_n (pc := 31) (a := 1) (tgt := 36) dX10_house_31 (by decide) (by omega) (fun c31 => ?_) (fun c31 => ?_)
        · exfalso; omega
        · skip
          refine r_iconst (pc := 34) (v := 0) dX10_house_34 (by decide) ?_
          refine r_ret_i (pc := 35) dX10_house_35 rfl ?_
          exact ⟨_, Ia, rfl, rfl, fun x q => (by rw [ah_h et eh] at q; cases q), fun _ => hI0, hM.z hZ, fun x j z => hZ x j (by omega) (by omega)⟩
      · exfalso; omega
  · skip
    refine r_aload_n (pc := 0) dX10_house_0 rfl ?_
    refine r_aload_n (pc := 1) dX10_house_1 rfl ?_
    refine r_iload_n (pc := 2) dX10_house_2 rfl ?_
    refine r_iload_n (pc := 3) dX10_house_3 rfl ?_
    refine r_callV_P (pc := 4) (b := m) (As := [.int t, .int h]) 10 154 dX10_house_4 lk_X10_isHouse (ml_RX10_154 rfl) im_X10_isHouse se_X10_isHouse (by decide) (c10_o hm) (Nat.le_of_ble_eq_true rfl) rfl (isHouse_nt hm (by rw [(hZ.c hcn)]; exact hnot)) ?_
    refine r_if_eq_n (pc := 7) (a := 0) (tgt := 23) dX10_house_7 (by decide) (by omega) (fun c7 => ?_) (fun c7 => ?_)
    · skip
      refine r_iconst (pc := 23) (v := 1) dX10_house_23 (by decide) ?_
      refine r_putI (pc := 24) (v := nI 1) 10 0 84 dX10_house_24 (fl_RX10_84 rfl) (by decide) rfl rfl (c10_o hm) ?_
      obtain ⟨Ia, hIa⟩ : ∃ zz0 : Im, zz0 = up2 I m 0 (nI 1) := ⟨_, rfl⟩
      refine wp_M (M2 := (Ia, G)) (by subst hIa; rfl) ?_
      have hZ : FrZ I Ia m := by rw [hIa]; exact FrZ.rf.u (by omega)
      have hI0 : Ia m 0 = nI 1 := by rw [hIa]; exact up2_at
      refine r_aload_n (pc := 27) dX10_house_27 rfl ?_
      refine r_getIv (pc := 28) 10 0 84 dX10_house_28 (fl_RX10_84 rfl) (by decide) rfl (c10_o hm) (v := nI 1) (hI0) ?_
      refine r_if_le_n (pc := 31) (a := 1) (tgt := 36) dX10_house_31 (by decide) (by omega) (fun c31 => ?_) (fun c31 => ?_)
      · exfalso; omega
      · skip
        refine r_iconst (pc := 34) (v := 0) dX10_house_34 (by decide) ?_
        refine r_ret_i (pc := 35) dX10_house_35 rfl ?_
        exact ⟨_, Ia, rfl, rfl, fun x q => (by rw [ah_t et] at q; cases q), fun _ => hI0, hM.z hZ, fun x j z => hZ x j (by omega) (by omega)⟩
    · exfalso; omega

set_option maxHeartbeats 300000 in
set_option maxRecDepth 100000 in
theorem thrown_m {d : Nat} {I : Im} {G : Gm} {m : Nat} (hm : isC10 G m) : Ct (d + 1) 0 0 YX10_thrown [.ref m] (I, G) (qP (I m 0) (I, G)) := by
  refine Ct.of (by decide) (by simp [Value.category]) (Nat.le_of_ble_eq_true rfl) ?_
  show wp _ _ _ _ 0 [some (.ref m)] [] _ _
  refine r_aload_n (pc := 0) dX10_thrown_0 rfl ?_
  refine r_getI (pc := 1) 10 0 84 dX10_thrown_1 (fl_RX10_84 rfl) (by decide) rfl (c10_o hm) ?_
  refine r_ret_i (pc := 4) dX10_thrown_4 rfl ?_
  exact ⟨rfl, rfl⟩
