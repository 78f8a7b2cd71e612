/-! ===== the class: trade ===== -/
theorem MkI.new {s : Sta} {I I4 : Im} {G G4 : Gm} {mb : Nat} {D : Dr} (h : MkI s I G mb) (hE : ∀ k, k < sN s → TdOK (sD s k)) (hg : G4.1 mb 0 = G.1 mb 0) (hf : ∀ a k, mb ≤ a → a < mb + 44 → I4 a k = I a k) : MkI (sNew s D) I4 G4 mb := by
  have h1 := h.keep hE hg hf
  refine ⟨fun t ht => ?_, fun k hk ht => ?_⟩
  · obtain ⟨k, hk, e⟩ := h1.1 t ht
    exact ⟨k, Nat.lt_succ_of_lt hk, e⟩
  · obtain ⟨k2, hk2, e⟩ := h1.1 _ ht
    obtain rfl := tA_inj e
    rw [show sD (sNew s D) k = sD s k from fu_ne (by omega)]
    exact h1.2 k hk2 ht
theorem HlI.new {s : Sta} {I I4 : Im} {G G4 : Gm} {D : Dr} (h : HlI s I G) (hg : G4.1 113 2 = G.1 113 2) (hf : ∀ a k, a = 113 ∨ a = 114 → I4 a k = I a k) : HlI (sNew s D) I4 G4 := by
  have h1 := h.keep hg hf
  refine ⟨fun t ht => ?_, fun k x hk hx ht h3 => ?_⟩
  · obtain ⟨k, hk, e⟩ := h1.1 t ht
    exact ⟨k, Nat.lt_succ_of_lt hk, e⟩
  · obtain ⟨k2, hk2, e⟩ := h1.1 _ ht
    obtain rfl := tA_inj e
    rw [show sD (sNew s D) k = sD s k from fu_ne (by omega)]
    exact h1.2 k x hk2 hx ht h3
theorem Ci.new {s : Sta} {I I4 : Im} {G G4 : Gm} {D : Dr} (h : Ci s I G) (hD : DrOK D) (hlt : sN s < 10) (hd : DrC I4 (tA (sN s)) D) (hz2 : TrZ I4 (tA (sN s + 1))) (h9 : isC9 G4 0) (h8 : ∀ k, k ≤ sN s + 1 → isC8 G4 (tA k)) (hg3 : ∀ k, k < sN s + 1 → G4.1 3 k = some (tA k)) (hgd : G4.1 0 3 = some (tA (sN s + 1))) (h02 : I4 0 2 = nI (sN s + 1)) (hT : I4 1 1 = nI 0) (hf : ∀ a j, a < tA (sN s + 1) → ¬ (a = 0 ∧ j = 2) → a ≠ 1 → ¬ (tA (sN s) ≤ a ∧ a < tA (sN s) + 14 ∧ (a = tA (sN s) → j < 2)) → I4 a j = I a j) (hgm : G4.1 23 0 = G.1 23 0 ∧ G4.1 67 0 = G.1 67 0 ∧ G4.1 113 2 = G.1 113 2) : Ci (sNew s D) I4 G4 := by
  obtain ⟨_, ⟨i1, i2, i3, i4, i5, i6⟩, m1, m2, m3⟩ := h
  have ha := tA_is (sN s + 1)
  have ho := tA_off (sN s)
  have ho2 := tA_is (sN s)
  refine ⟨⟨h9, h8, hg3, hgd⟩, ⟨h02, hlt, ⟨hT, Nat.zero_le _, fun i hi => absurd hi (Nat.not_lt_zero i), i3.2.2.2⟩, fun k hk => ?_, hz2, ⟨(hf _ _ (by omega) (by omega) (by omega) (by omega)).trans i6.1, i6.2.1, fun k hk => ⟨(hf _ _ (by omega) (by omega) (by omega) (by omega)).trans (i6.2.2.1 k hk).1, (hf _ _ (by omega) (by omega) (by omega) (by omega)).trans (i6.2.2.1 k hk).2⟩, i6.2.2.2.1, (hf _ _ (by omega) (by omega) (by omega) (by omega)).trans i6.2.2.2.2⟩⟩, m1.new (fun k hk => (i4 k hk).1) hgm.1 (fun a j z1 z2 => hf a j (by omega) (by omega) (by omega) (by omega)), m2.new (fun k hk => (i4 k hk).1) hgm.2.1 (fun a j z1 z2 => hf a j (by omega) (by omega) (by omega) (by omega)), m3.new hgm.2.2 (fun a j z => hf a j (by omega) (by omega) (by omega) (by omega))⟩
  by_cases e : k = sN s
  · rw [e, show sD (sNew s D) (sN s) = tdN D from fu_at]
    refine ⟨tdN_ok hD, hd, fun j hj => ?_, fun y hy => ?_, fun y hy => ?_, Or.inl ?_⟩
    · rw [hf _ _ (by omega) (by omega) (by omega) (by omega), i5.1 j hj]
      exact six (P := fun j => tm6 0 41 0 0 (-1) 0 j = tmv (tdT (tdN D)) j) rfl rfl rfl rfl rfl rfl j hj
    · rw [hf _ _ (by omega) (by omega) (by omega) (by omega)]
      exact i5.2.1 y hy
    · rw [hf _ _ (by omega) (by omega) (by omega) (by omega)]
      exact i5.2.2.1 y hy
    · rw [hf _ _ (by omega) (by omega) (by omega) (by omega)]
      exact i5.2.2.2
  · rw [show sD (sNew s D) k = sD s k from fu_ne e]
    have hk : k < sN s + 1 := hk
    have hk2 : k < sN s := by omega
    have hfar := tA_far e
    have hok := tA_is k
    exact ⟨(i4 k hk2).1, (i4 k hk2).2.keep (fun a y g1 g2 => hf a y (by omega) (by omega) (by omega) (by omega))⟩
/-- what trade gives -/
def TcQ (s s2 : Sta) (I : Im) (G : Gm) (a v : Int32) (M : Mm) : Prop := ∃ (I2 : Im) (G2 : Gm), M = (I2, G2) ∧ v = a ∧ Ci s2 I2 G2 ∧ (∀ x j, 256 ≤ x → x ≤ 281 → I2 x j = I x j) ∧ (isC10 G 256 → isC10 G2 256) ∧ (∀ x, x ≤ 281 → G2.2.1 x = G.2.1 x ∧ G2.2.2.1 x = G.2.2.1 x) ∧ G2.2.2.2 = tA (sN s2 + 1)

set_option maxHeartbeats 300000 in
set_option maxRecDepth 100000 in
theorem trade_c {d : Nat} {I : Im} {G : Gm} {s : Sta} (hC : Ci s I G) (hn : G.2.2.2 = tA (sN s + 1)) : Ct (d + 7) 18 539 YX9_trade [.ref 0] (I, G) (qX (TcQ s (fTrade s).2 I G (fTrade s).1)) := by
  refine Ct.of (by decide) (by simp [Value.category]) (Nat.le_of_ble_eq_true rfl) ?_
  have h9 := hC.1.1
  have hcn10 := hC.2.1.2.1
  have hFr : FrC I I := FrC.rf
  have hGk : Geq G G := Geq.rf
  have hd8 := hC.1.2.1 (sN s) (Nat.le_refl _)
  have hoff := tA_off (sN s)
  show wp _ _ _ _ 0 [some (.ref 0)] [] _ _
  refine r_aload_n (pc := 0) dX9_trade_0 rfl ?_
  refine r_getIv (pc := 1) 9 2 22 dX9_trade_1 (fl_RX9_22 rfl) (by decide) rfl (c9_o h9) (v := nI (sN s)) (hC.2.1.1) ?_
  refine r_bipush (pc := 4) (v := 10) dX9_trade_4 (by decide) ?_
  refine r_icmp_ge_n (pc := 6) (a := sN s) (b := 10) (tgt := 24) dX9_trade_6 (by decide) (by omega) (by omega) (fun c6 => ?_) (fun c6 => ?_)
  · skip
    have e9 := ft_n (show sN s = 10 by omega)
    refine r_iconst (pc := 24) (v := -1) dX9_trade_24 (by decide) ?_
    refine r_ret_i (pc := 25) dX9_trade_25 rfl ?_
    refine ⟨_, rfl, I, G, rfl, by rw [e9], by rw [e9]; exact hC, fun _ _ _ _ => rfl, id, fun _ _ => ⟨rfl, rfl⟩, by rw [e9]; exact hn⟩
  · skip
    refine r_aload_n (pc := 9) dX9_trade_9 rfl ?_
    refine r_get1 (pc := 10) 9 0 12 dX9_trade_10 (fl_RX9_12 rfl) (by decide) rfl (c9_o h9) (c9_p0 h9) ?_
    refine r_aload_n (pc := 13) dX9_trade_13 rfl ?_
    refine r_getR (pc := 14) 9 3 27 dX9_trade_14 (fl_RX9_27 rfl) (by decide) rfl (c9_o h9) (x := some (tA (sN s))) (hC.1.2.2.2) ?_
    refine r_callV_M (pc := 17) (b := 1) (As := [.ref (tA (sN s))]) 6 94 dX9_trade_17 lk_X6_read (ml_RX9_94 rfl) im_X6_read se_X6_read (by decide) (c6_o (c9_s0 h9)) (Nat.le_of_ble_eq_true rfl) rfl (read_ct (c9_s0 h9) hd8 (by omega) hC.2.1.2.2.1) (fun v17 Ia hIa => ?_)
    obtain ⟨hrd, hfa⟩ := hIa
    have hCa : Ci s Ia G := hC.tp (T := sT s) (hC.2.1.2.2.1.keepS hfa (by omega)) (hC.2.1.2.2.2.2.1.keep (fun a j z => hfa a j (by omega) (by omega))) (fun a j z1 z2 => hfa a j (by omega) (by omega))
    have hFm : ∀ x j, 256 ≤ x → x ≤ 281 → Ia x j = I x j := fun x j h1 h2 => hfa x j (by omega) (by omega)
    refine r_iconst (pc := 20) (v := -1) dX9_trade_20 (by decide) ?_
    refine r_icmp_eq (pc := 21) (x := v17) (z := (-1)) (tgt := 26) dX9_trade_21 (by decide) (fun c21 => ?_) (fun c21 => ?_)
    · skip
      obtain ⟨D, hpD, hv, hDr, hDk⟩ := hrd.resolve_left (fun ⟨f, _, z, hz⟩ => by rw [z] at c21; exact m1_ne (show f < 2 ^ 31 by omega) c21.symm)
      have e9 := ft_y hpD (by omega)
      have hlt : sN s < 10 := by omega
      refine r_aload_n (pc := 26) dX9_trade_26 rfl ?_
      refine r_get1 (pc := 27) 9 1 18 dX9_trade_27 (fl_RX9_18 rfl) (by decide) rfl (c9_o h9) (c9_p1 h9) ?_
      refine r_aload_n (pc := 30) dX9_trade_30 rfl ?_
      refine r_getIv (pc := 31) 9 2 22 dX9_trade_31 (fl_RX9_22 rfl) (by decide) rfl (c9_o h9) (v := nI (sN s)) (hCa.2.1.1) ?_
      refine r_aload_n (pc := 34) dX9_trade_34 rfl ?_
      refine r_getR (pc := 35) 9 3 27 dX9_trade_35 (fl_RX9_27 rfl) (by decide) rfl (c9_o h9) (x := some (tA (sN s))) (hC.1.2.2.2) ?_
      refine r_aast_n (pc := 38) dX9_trade_38 (c9_a1 h9) (by decide) (by omega) (c8_o hd8) ?_
      obtain ⟨G1, hG1⟩ : ∃ z : Gm, z = (up2 G.1 3 (sN s) (some (tA (sN s))), G.2) := ⟨_, rfl⟩
      refine wp_M (M2 := (Ia, G1)) (by subst hG1; rfl) ?_
      have hG1n : G1.2.2.2 = tA (sN s + 1) := by rw [hG1]; exact hn
      refine r_aload_n (pc := 39) dX9_trade_39 rfl ?_
      refine r_new (kc := 17) (ks := 526) (pc := 40) 8 16 dX9_trade_40 (by decide) (cl_RX9_16 rfl) it_X8 in_X8 ?_
      have hN0 : Nw (tA (sN s + 1)) (Ia, G1) (Ia, G1) 0 (fun _ _ => none) (fun _ => (0, 0)) (fun _ _ => 0) := ⟨hG1n, fun _ _ => ⟨rfl, rfl, rfl, rfl⟩, fun j hj => absurd hj (Nat.not_lt_zero _)⟩
      refine wp_S (st2 := [.ref (tA (sN s + 1) + 0), .ref 0]) (by rw [show mN _ = _ from hN0.1]) ?_
      have hN1 := hN0.al (0, 8)
      refine r_dup (pc := 43) dX9_trade_43 rfl ?_
      refine r_callIN (d := d + 6) (kc1 := 17) (ks1 := 526) (kc := 0) (ks := 0) (pc := 44) (b := tA (sN s + 1) + 0) (As := []) 26 dX9_trade_44 lk_X8_init (nl_RX9_26 rfl) im_X8_init rfl rfl (by rw [show mN _ = _ from hN1.1]; omega) (Nat.le_of_ble_eq_true rfl) rfl (ini_X8 (d := d + 3) (c := 0) hN1 up_at) (fun r M2 hr2 _ => ?_)
      obtain ⟨rfl, hN2, hS2⟩ := hr2
      obtain ⟨I2, G2⟩ := M2
      show wp _ _ _ _ _ _ [.ref (tA (sN s + 1) + 0), .ref 0] _ _
      have hlow : ∀ id, id < tA (sN s + 1) → I2 id = Ia id ∧ G2.1 id = G1.1 id ∧ G2.2.1 id = G1.2.1 id ∧ G2.2.2.1 id = G1.2.2.1 id := fun id hid => hN2.2.1 id hid
      have hn2 : G2.2.2.2 = tA (sN s + 1) + 18 := hN2.1
      have h8n : isC8 G2 (tA (sN s + 1) + 0) := isC8_nw hN2 (by omega) (by decide +kernel)
      have hat := tA_is (sN s + 1)
      have hoff2 := tA_is (sN s)
      have hGr : Gr G G2 := ⟨by rw [hn2, hn]; omega, fun id hid => by rw [hn] at hid; rw [(hlow id hid).2.2.2, hG1], fun id k hid hx => by
        rw [hn] at hid
        rw [(hlow id hid).2.1, hG1]
        exact up2_rd (Classical.em (id = 3) |>.elim (fun e => Or.inl (fun _ => hx (Or.inr (Or.inr (Or.inr (by rw [e]; exact congrArg Prod.fst (c9_a1 (I := I) h9).2)))))) (fun e => Or.inl e))⟩
      have h92 : isC9 G2 0 := isC9_gr hGr h9
      refine r_put1 (pc := 47) 9 3 27 dX9_trade_47 (fl_RX9_27 rfl) (by decide) rfl rfl (c9_o h92) ?_
      obtain ⟨G4, hG4⟩ : ∃ z : Gm, z = (up2 G2.1 0 3 (some (tA (sN s + 1) + 0)), G2.2) := ⟨_, rfl⟩
      refine wp_M (M2 := (I2, G4)) (by subst hG4; rfl) ?_
      have hg4 : Geq G2 G4 := by
        rw [hG4]
        exact ⟨rfl, fun a k q => up2_rd ((Classical.em (a = 0)).elim (fun e => Or.inr (fun z => q (Or.inr (Or.inr (Or.inl ⟨by rw [e]; exact h92.2.1, z⟩))))) Or.inl)⟩
      have h94 := isC9_geq hg4 h92
      have hi2 : ∀ id j, id < tA (sN s + 1) → I2 id j = Ia id j := fun id j hid => by rw [(hlow id hid).1]
      refine r_aload_n (pc := 50) dX9_trade_50 rfl ?_
      refine r_get1 (pc := 51) 9 0 12 dX9_trade_51 (fl_RX9_12 rfl) (by decide) rfl (c9_o h94) (c9_p0 h94) ?_
      refine r_iconst (pc := 54) (v := 0) dX9_trade_54 (by decide) ?_
      refine r_putI (pc := 55) (v := nI 0) 6 1 87 dX9_trade_55 (fl_RX9_87 rfl) (by decide) rfl rfl (c6_o (c9_s0 h94)) ?_
      obtain ⟨I3, hI3⟩ : ∃ zz0 : Im, zz0 = up2 I2 1 1 (nI 0) := ⟨_, rfl⟩
      refine wp_M (M2 := (I3, G4)) (by subst hI3; rfl) ?_
      have hi3 : I3 0 2 = nI (sN s) := by
        rw [hI3, up2_rd (show (0 : Nat) ≠ 1 ∨ (2 : Nat) ≠ 1 by omega)]
        exact (hi2 0 2 (by omega)).trans hCa.2.1.1
      refine r_aload_n (pc := 58) dX9_trade_58 rfl ?_
      refine r_dup (pc := 59) dX9_trade_59 rfl ?_
      refine r_getIv (pc := 60) 9 2 22 dX9_trade_60 (fl_RX9_22 rfl) (by decide) rfl (c9_o h94) (v := nI (sN s)) (hi3) ?_
      refine r_iconst (pc := 63) (v := 1) dX9_trade_63 (by decide) ?_
      refine r_iadd_n (pc := 64) (a := sN s) (b := 1) dX9_trade_64 ?_
      refine r_putI (pc := 65) (v := nI ((sN s) + 1)) 9 2 22 dX9_trade_65 (fl_RX9_22 rfl) (by decide) rfl rfl (c9_o h94) ?_
      obtain ⟨I4, hI4⟩ : ∃ zz0 : Im, zz0 = up2 I3 0 2 (nI ((sN s) + 1)) := ⟨_, rfl⟩
      refine wp_M (M2 := (I4, G4)) (by subst hI4; rfl) ?_
      have hf4 : ∀ a j, ¬ (a = 0 ∧ j = 2) → ¬ (a = 1 ∧ j = 1) → I4 a j = I2 a j := fun a j z1 z2 => by rw [hI4, up2_rd (by omega), hI3, up2_rd (by omega)]
      have hnew : ∀ j, j < 18 → ∀ k, I4 (tA (sN s + 1) + j) k = nI8 0 (va_up (fun _ _ => 0) 0 (fun _ => 0)) j k := fun j hj k => (hf4 _ _ (by omega) (by omega)).trans ((hN2.2.2 j hj).2.2.1 k)
      have hz2 : TrZ I4 (tA (sN s + 1)) := ⟨fun k hk => (hnew 14 (by omega) k).trans (six (P := fun k => nI8 0 (va_up (fun _ _ => 0) 0 (fun _ => 0)) 14 k = tm6 0 41 0 0 (-1) 0 k) rfl rfl rfl rfl rfl rfl k hk), fun y hy => (hnew 15 (by omega) y).trans (by match y, hy with | 0, _ => rfl | 1, _ => rfl | 2, _ => rfl | 3, _ => rfl | 4, _ => rfl | 5, _ => rfl | 6, _ => rfl | 7, _ => rfl), fun y hy => (hnew 16 (by omega) y).trans (by match y, hy with | 0, _ => rfl | 1, _ => rfl | 2, _ => rfl | 3, _ => rfl | 4, _ => rfl | 5, _ => rfl | 6, _ => rfl | 7, _ => rfl), (hnew 0 (by omega) 12).trans rfl⟩
      have hG4a : ∀ a k, a < tA (sN s + 1) → ¬ (a = 0 ∧ k = 3) → ¬ (a = 3 ∧ k = sN s) → G4.1 a k = G.1 a k := fun a k z1 z2 z3 => by rw [hG4]; exact (up2_rd (by omega)).trans (by rw [(hlow a z1).2.1, hG1]; exact up2_rd (by omega))
      have hg43 : G4.1 3 (sN s) = some (tA (sN s)) := by rw [hG4]; show up2 G2.1 0 3 (some (tA (sN s + 1) + 0)) 3 (sN s) = _; rw [up2_rd (by omega), (hlow 3 (by omega)).2.1, hG1]; exact up2_at
      have hCn : Ci (sNew s D) I4 G4 := hC.new hDk hlt (hDr.keep (fun c k g1 g2 g3 => (hf4 c k (by omega) (by omega)).trans (hi2 c k (by omega)))) hz2 h94 (fun k hk => by
          by_cases e : k = sN s + 1
          · rw [e]; exact isC8_geq hg4 h8n
          · exact isC8_geq hg4 (isC8_gr hGr (hC.1.2.1 k (by omega)))) (fun k hk => by
          by_cases e : k = sN s
          · rw [e]; exact hg43
          · exact (hG4a 3 k (by omega) (by omega) (by omega)).trans (hC.1.2.2.1 k (by omega))) (by rw [hG4]; show up2 G2.1 0 3 _ 0 3 = _; rw [up2_at]; rfl) (by rw [hI4]; exact up2_at) (by rw [hI4, up2_rd (by omega), hI3]; exact up2_at) (fun a j z1 z2 z3 z4 => (hf4 a j z2 (by omega)).trans ((hi2 a j z1).trans (hfa a j z4 (by omega)))) ⟨hG4a _ _ (by omega) (by omega) (by omega), hG4a _ _ (by omega) (by omega) (by omega), hG4a _ _ (by omega) (by omega) (by omega)⟩
      have h02 : I4 0 2 = nI (sN s + 1) := hCn.2.1.1
      refine r_aload_n (pc := 68) dX9_trade_68 rfl ?_
      refine r_getIv (pc := 69) 9 2 22 dX9_trade_69 (fl_RX9_22 rfl) (by decide) rfl (c9_o h94) (v := nI (sN s + 1)) (h02) ?_
      refine r_iconst (pc := 72) (v := 1) dX9_trade_72 (by decide) ?_
      refine r_isub_n (pc := 73) (a := sN s + 1) (b := 1) dX9_trade_73 (by omega) ?_
      refine r_ret_i (pc := 74) dX9_trade_74 rfl ?_
      refine ⟨_, rfl, I4, G4, rfl, by rw [e9, Nat.add_sub_cancel], by rw [e9]; exact hCn, fun x j h1 h2 => (hf4 x j (by omega) (by omega)).trans ((hi2 x j (by omega)).trans (hFm x j h1 h2)), fun z => isC10_geq hg4 (isC10_gr hGr z), fun x hx => ?_, ?_⟩
      · rw [hG4]; exact ⟨(hlow x (by omega)).2.2.1.trans (by rw [hG1]), (hlow x (by omega)).2.2.2.trans (by rw [hG1])⟩
      · rw [e9, hG4]; show G2.2.2.2 = tA (sN s + 1 + 1); rw [hn2]; have := tA_is (sN s + 1 + 1); omega
    · skip
      obtain ⟨f, hf, hv, _⟩ := hrd.resolve_right (fun ⟨D, _, z, _⟩ => c21 z)
      have e9 := ft_f hf
      refine r_iconst (pc := 24) (v := -1) dX9_trade_24 (by decide) ?_
      refine r_ret_i (pc := 25) dX9_trade_25 rfl ?_
      refine ⟨_, rfl, Ia, G, rfl, by rw [e9], by rw [e9]; exact hCa, hFm, id, fun _ _ => ⟨rfl, rfl⟩, by rw [e9]; exact hn⟩
