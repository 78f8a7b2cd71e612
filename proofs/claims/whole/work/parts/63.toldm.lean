/-! ===== the reference: terms, earnings, savings, what is told ===== -/
/-- all but the terms at work, the memory and the outcome -/
def FrW (I I2 : Im) (m : Nat) : Prop := ∀ a x, (a < m + 16 ∨ m + 20 < a) → ¬ (a = m ∧ 21 ≤ x ∧ x ≤ 25) → I2 a x = I a x
theorem FrW.rf {I : Im} {m : Nat} : FrW I I m := fun _ _ _ _ => rfl
theorem FrW.tr {I I2 I3 : Im} {m : Nat} (h : FrW I I2 m) (h2 : FrW I2 I3 m) : FrW I I3 m := fun a x z y => (h2 a x z y).trans (h a x z y)
theorem FrO.w {I I2 : Im} {m : Nat} (h : FrO I I2 m) : FrW I I2 m := fun a x z _ => h a x z
theorem FrK.w {I I2 : Im} {m : Nat} (h : FrK I I2 m) : FrW I I2 m := h.o.w
theorem MtC.fw {I I2 : Im} {m k : Nat} {E : Ec} {T : Lt} (h : MtC I m k E T) (hf : FrW I I2 m) : MtC I2 m k E T := h.keep (fun a x h1 h2 => hf a x (by omega) (by omega))
theorem FrK.rf2 {I I2 : Im} {m : Nat} (h : FrK I I2 m) : ∀ y, I2 (m + 19) y = I (m + 19) y ∧ I2 (m + 20) y = I (m + 20) y := fun y => ⟨h _ _ (by omega) (by omega) (by omega), h _ _ (by omega) (by omega) (by omega)⟩
theorem OcM.k {I I2 : Im} {m n : Nat} {E : Ec} (h : OcM I m E n) (hf : FrK I I2 m) : OcM I2 m E n := fun x hx => ⟨(hf.rf2 x).1.trans (h x hx).1, (hf.rf2 x).2.trans (h x hx).2⟩
theorem terms_e {d : Nat} {I : Im} {G : Gm} {m k cn : Nat} {E : Ec} {T : Lt} (hm : isC10 G m) (hk : MtC I m k E T) (hK : eK E ≤ 41) (hcn : I m 20 = nI cn) (hcn10 : cn ≤ 10) (hkc : k < cn) : Ct (d + 1) 0 0 YX10_terms [.ref m, .int (nI k), .int (eJ E), .int (nI (eK E)), .int (bz (eA E = true)), .int (bz (eH E = true))] (I, G) (qV G (fun I2 => MS I2 m k E T cn ∧ FrW I I2 m)) := by
  refine (termsM_ct (d := d) (I := I) (k := k) (cp := eK E) (j := eJ E) (al := eA E) (ha := eH E) hm).mono (fun r M' h => ?_)
  obtain ⟨hr, I2, hM, h1, h2, h3⟩ := h
  have hf : FrW I I2 m := fun a x z y => by
    by_cases e : a = m
    · subst e
      rw [h1 x, up2_rd (by omega), up2_rd (by omega), up2_rd (by omega), up2_rd (by omega), up2_rd (by omega)]
    · exact h3 a x e (by omega)
  refine ⟨hr, I2, hM, ⟨hk.fw hf, ⟨?_, ?_, ?_, hK, ?_, ?_⟩, (hf m 20 (by omega) (by omega)).trans hcn, hcn10, hkc, fun x u hx hu => Or.inl (h2 _ (by omega))⟩, hf⟩
  · rw [h1, up2_rd (by omega), up2_rd (by omega), up2_rd (by omega), up2_rd (by omega), up2_at]
  · rw [h1, up2_rd (by omega), up2_rd (by omega), up2_rd (by omega), up2_at]
  · rw [h1, up2_rd (by omega), up2_rd (by omega), up2_at]
  · rw [h1, up2_rd (by omega), up2_at]
  · rw [h1, up2_at]
/-- the terms of the trade k, as they are kept -/
def TmM (I : Im) (m k : Nat) (E : Ec) : Prop := I (m + 10) k = eJ E ∧ I (m + 11) k = nI (eK E) ∧ eK E ≤ 41 ∧ I (m + 14) k = bz (eA E = true) ∧ I (m + 15) k = bz (eH E = true)

set_option maxRecDepth 100000 in
theorem termsOf_e {d : Nat} {I : Im} {G : Gm} {m k cn : Nat} {E : Ec} {T : Lt} (hm : isC10 G m) (hk : MtC I m k E T) (hcn : I m 20 = nI cn) (hcn10 : cn ≤ 10) (hkc : k < cn) (ht : TmM I m k E) : Ct (d + 2) 0 0 YX10_termsOf [.ref m, .int (nI k)] (I, G) (qV G (fun I2 => MS I2 m k E T cn ∧ FrW I I2 m)) := by
  refine Ct.of (by decide) (by simp [Value.category]) (Nat.le_of_ble_eq_true rfl) ?_
  have hn8 := hk.2.1
  have hk10 : k ≤ 10 := by omega
  show wp _ _ _ _ 0 [some (.ref m), some (.int (nI k))] [] _ _
  refine r_aload_n (pc := 0) dX10_termsOf_0 rfl ?_
  refine r_iload_n (pc := 1) dX10_termsOf_1 rfl ?_
  refine r_aload_n (pc := 2) dX10_termsOf_2 rfl ?_
  refine r_get1 (pc := 3) 10 14 38 dX10_termsOf_3 (fl_RX10_38 rfl) (by decide) rfl (c10_o hm) (c10_p14 hm) ?_
  refine r_iload_n (pc := 6) dX10_termsOf_6 rfl ?_
  refine r_iald_n (pc := 7) (i := k) dX10_termsOf_7 (c10_a14 hm) (by decide) (by omega) (v := eJ E) (ht.1) ?_
  refine r_aload_n (pc := 8) dX10_termsOf_8 rfl ?_
  refine r_get1 (pc := 9) 10 15 41 dX10_termsOf_9 (fl_RX10_41 rfl) (by decide) rfl (c10_o hm) (c10_p15 hm) ?_
  refine r_iload_n (pc := 12) dX10_termsOf_12 rfl ?_
  refine r_iald_n (pc := 13) (i := k) dX10_termsOf_13 (c10_a15 hm) (by decide) (by omega) (v := nI (eK E)) (ht.2.1) ?_
  refine r_aload_n (pc := 14) dX10_termsOf_14 rfl ?_
  refine r_get1 (pc := 15) 10 18 50 dX10_termsOf_15 (fl_RX10_50 rfl) (by decide) rfl (c10_o hm) (c10_p18 hm) ?_
  refine r_iload_n (pc := 18) dX10_termsOf_18 rfl ?_
  refine r_zald_n (pc := 19) (i := k) dX10_termsOf_19 (c10_a18 hm) (by decide) (by omega) (v := bz (eA E = true)) (ht.2.2.2.1) ?_
  refine r_aload_n (pc := 20) dX10_termsOf_20 rfl ?_
  refine r_get1 (pc := 21) 10 19 54 dX10_termsOf_21 (fl_RX10_54 rfl) (by decide) rfl (c10_o hm) (c10_p19 hm) ?_
  refine r_iload_n (pc := 24) dX10_termsOf_24 rfl ?_
  refine r_zald_n (pc := 25) (i := k) dX10_termsOf_25 (c10_a19 hm) (by decide) (by omega) (v := bz (eH E = true)) (ht.2.2.2.2) ?_
  refine r_callV_V (pc := 26) (b := m) (As := [.int (nI k), .int (eJ E), .int (nI (eK E)), .int (bz (eA E = true)), .int (bz (eH E = true))]) 10 191 dX10_termsOf_26 lk_X10_terms (ml_RX10_191 rfl) im_X10_terms se_X10_terms (by decide) (c10_o hm) (Nat.le_of_ble_eq_true rfl) rfl (terms_e hm hk ht.2.2.1 hcn hcn10 hkc) (fun I2 h2 => ?_)
  refine r_ret_v (pc := 29) dX10_termsOf_29 rfl ?_
  exact ⟨rfl, I2, rfl, h2⟩

theorem sp_ub {E : Ec} (hE : SrC E) (hW : WbC E) {cb : Nat} (hcb : ∀ b, eC E b ≤ cb) (hcb6 : cb ≤ 60) {h : Nat} (hh : h < eN E) : spF E idq h + cb * (7 - h) ≤ 519 ∧ spF E idq h ≤ 600 := by
  have h8 := hE.1
  have e := (sp_same hE hW (fun b => Nat.le_trans (hcb b) hcb6) h hh).1
  have b := sp_bd hE hcb h hh
  rw [e] at b
  have h1 : cb * (h + 1) + cb * (7 - h) = cb * 8 := by rw [← Nat.mul_add, show h + 1 + (7 - h) = 8 by omega]
  have h2 : cb * h + cb * (7 - h) = cb * 7 := by rw [← Nat.mul_add, show h + (7 - h) = 7 by omega]
  omega
/-- what h earns, as the reference reckons it -/
abbrev erM (E : Ec) (h : Nat) : Int32 := (mk E idq h (spF E idq h)).2

set_option maxRecDepth 100000 in
theorem earnsOf_ct {d : Nat} {I : Im} {G : Gm} {m k cn cb : Nat} {E : Ec} {T : Lt} (hm : isC10 G m) (hS : MS I m k E T cn) (hcb : ∀ b, eC E b ≤ cb) (hcb6 : cb ≤ 60) (hB : BdM E) (hW : WbC E) (hO : OcM I m E (eN E)) {h : Nat} (hh : h < eN E) : Ct (d + 41) 0 0 YX10_earnsOf [.ref m, .int (nI h)] (I, G) (TkQ I G m E (erM E h)) := by
  refine Ct.of (by decide) (by simp [Value.category]) (Nat.le_of_ble_eq_true rfl) ?_
  have hn8 := hS.1.2.1
  have hcn10 := hS.2.2.2.1
  have hkc := hS.2.2.2.2.1
  have hE : SrC E := ⟨hS.1.2.1, hS.1.2.2.2.1⟩
  have hTA : ∀ b, b < eN E → TKb G m k E T cn cb (d + 40) b ∧ EKb G m k E T cn cb (d + 40) b := fun b hb => tk_all hm hcb hcb6 hB hE.2 hE.1 (8 - b) b rfl hb _ (by omega)
  show wp _ _ _ _ 0 [some (.ref m), some (.int (nI h))] [] _ _
  refine r_aload_n (pc := 0) dX10_earnsOf_0 rfl ?_
  refine r_iload_n (pc := 1) dX10_earnsOf_1 rfl ?_
  refine r_aload_n (pc := 2) dX10_earnsOf_2 rfl ?_
  refine r_get1 (pc := 3) 10 30 69 dX10_earnsOf_3 (fl_RX10_69 rfl) (by decide) rfl (c10_o hm) (c10_p30 hm) ?_
  refine r_iload_n (pc := 6) dX10_earnsOf_6 rfl ?_
  refine r_iald_n (pc := 7) (i := h) dX10_earnsOf_7 (c10_a30 hm) (by decide) (by omega) (v := nI (spF E idq h)) ((hO h (by omega)).2) ?_
  refine r_callV_M (pc := 8) (b := m) (As := [.int (nI h), .int (nI (spF E idq h))]) 10 210 dX10_earnsOf_8 lk_X10_earnBy (ml_RX10_210 rfl) im_X10_earnBy se_X10_earnBy (by decide) (c10_o hm) (Nat.le_of_ble_eq_true rfl) rfl ((hTA h hh).2 I _ hS (sp_ub hE hW hcb hcb6 hh).1) (fun v8 I2 h2 => ?_)
  refine r_ret_i (pc := 11) dX10_earnsOf_11 rfl ?_
  exact ⟨_, I2, rfl, rfl, h2⟩

set_option maxRecDepth 100000 in
theorem allEarn_ct {d : Nat} {I : Im} {G : Gm} {m k cn cb : Nat} {E : Ec} {T : Lt} (hm : isC10 G m) (hS : MS I m k E T cn) (hcb : ∀ b, eC E b ≤ cb) (hcb6 : cb ≤ 60) (hB : BdM E) (hW : WbC E) : Ct (d + 45) 0 0 YX10_allEarn [.ref m] (I, G) (qM G (fun v I2 => v = sm (erM E) (eN E) ∧ KV I2 m E ∧ FrO I I2 m ∧ OcM I2 m E (eN E))) := by
  refine Ct.of (by decide) (by simp [Value.category]) (Nat.le_of_ble_eq_true rfl) ?_
  have hn8 := hS.1.2.1
  have hcn10 := hS.2.2.2.1
  have hkc := hS.2.2.2.2.1
  have hE : SrC E := ⟨hS.1.2.1, hS.1.2.2.2.1⟩
  show wp _ _ _ _ 0 [some (.ref m), none, none] [] _ _
  refine r_aload_n (pc := 0) dX10_allEarn_0 rfl ?_
  refine r_callV_V (pc := 1) (b := m) (As := []) 10 227 dX10_allEarn_1 lk_X10_layOutcome (ml_RX10_227 rfl) im_X10_layOutcome se_X10_layOutcome (by decide) (c10_o hm) (Nat.le_of_ble_eq_true rfl) rfl (layOutcome_ct (d := d) hm hS hcb hcb6 hB hW) (fun I2 hI2 => ?_)
  obtain ⟨hK2, hF2, hO2⟩ := hI2
  have hS2 := hS.keepO hF2 hK2
  refine r_iconst (pc := 4) (v := 0) dX10_allEarn_4 (by decide) ?_
  refine r_istore_n (pc := 5) (L' := [some (.ref m), some (.int (nI 0)), none]) dX10_allEarn_5 (by decide) rfl rfl ?_
  refine r_iconst (pc := 6) (v := 0) dX10_allEarn_6 (by decide) ?_
  refine r_istore_n (pc := 7) (L' := [some (.ref m), some (.int (nI 0)), some (.int (nI 0))]) dX10_allEarn_7 (by decide) rfl rfl ?_
  have lp8 : ∀ (n8 : Nat), ∀ (h : Nat) (s : Int32) (I3 : Im), eN E - h = n8 → (h ≤ eN E) → (s = sm (erM E) h) → (KV I3 m E) → (FrK I2 I3 m) → wp (d + 45) 0 0 YX10_allEarn 8 [some (.ref m), some (.int s), some (.int (nI h))] [] (I3, G) (qM G (fun v I2 => v = sm (erM E) (eN E) ∧ KV I2 m E ∧ FrO I I2 m ∧ OcM I2 m E (eN E))) := by
    intro n8
    induction n8 using Nat.strongRecOn with
    | ind n8 ih8 =>
      intro h s I3 hmu8 hh hs hK3 hF3
      have hS3 := hS2.keep hF3 hK3
      have hO3 := hO2.k hF3
      refine r_iload_n (pc := 8) dX10_allEarn_8 rfl ?_
      refine r_aload_n (pc := 9) dX10_allEarn_9 rfl ?_
      refine r_get1 (pc := 10) 10 6 13 dX10_allEarn_10 (fl_RX10_13 rfl) (by decide) rfl (c10_o hm) (c10_p6 hm) ?_
      refine r_aload_n (pc := 13) dX10_allEarn_13 rfl ?_
      refine r_getIv (pc := 14) 10 21 175 dX10_allEarn_14 (fl_RX10_175 rfl) (by decide) rfl (c10_o hm) (v := nI k) (hS3.2.1.1) ?_
      refine r_iald_n (pc := 17) (i := k) dX10_allEarn_17 (c10_a6 hm) (by decide) (by omega) (v := nI (eN E)) (hS3.1.1) ?_
      refine r_icmp_ge_n (pc := 18) (a := h) (b := eN E) (tgt := 35) dX10_allEarn_18 (by decide) (by omega) (by omega) (fun c18 => ?_) (fun c18 => ?_)
      · skip
        refine r_iload_n (pc := 35) dX10_allEarn_35 rfl ?_
        refine r_ret_i (pc := 36) dX10_allEarn_36 rfl ?_
        exact ⟨_, I3, rfl, rfl, by rw [hs, show h = eN E by omega], hK3, hF2.tr hF3.o, hO3⟩
      · skip
        refine r_iload_n (pc := 21) dX10_allEarn_21 rfl ?_
        refine r_aload_n (pc := 22) dX10_allEarn_22 rfl ?_
        refine r_iload_n (pc := 23) dX10_allEarn_23 rfl ?_
        refine r_callV_M (pc := 24) (b := m) (As := [.int (nI h)]) 10 230 dX10_allEarn_24 lk_X10_earnsOf (ml_RX10_230 rfl) im_X10_earnsOf se_X10_earnsOf (by decide) (c10_o hm) (Nat.le_of_ble_eq_true rfl) rfl (earnsOf_ct (d := d + 3) hm hS3 hcb hcb6 hB hW hO3 (h := h) (by omega)) (fun v24 I5 h5 => ?_)
        obtain ⟨rfl, hK5, hF5⟩ := h5
        refine r_iadd (pc := 27) (x := s) (z := erM E h) dX10_allEarn_27 ?_
        refine r_istore_n (pc := 28) (L' := [some (.ref m), some (.int (s + (erM E h))), some (.int (nI h))]) dX10_allEarn_28 (by decide) rfl rfl ?_
        refine r_iinc (pc := 29) (v := nI (h + 1)) (L' := [some (.ref m), some (.int (s + (erM E h))), some (.int (nI (h + 1)))]) dX10_allEarn_29 rfl (nI_inc _) (by decide) rfl rfl ?_
        refine r_goto (pc := 32) (tgt := 8) dX10_allEarn_32 (by decide) ?_
        exact ih8 _ (by omega) (h + 1) (s + (erM E h)) I5 rfl (by omega) (by rw [hs]; rfl) hK5 (hF3.tr hF5)
  exact lp8 _ 0 (nI 0) I2 rfl (by omega) (by rfl) hK2 FrK.rf


theorem le_pred {n : Nat} {h : Int32} (hn : n ≤ 8) (h0 : nI 0 ≤ h) (h1 : h ≤ nI n - nI 1) : h < nI n := by
  have e1 : (nI n - nI 1).toInt = (n : Int) - 1 := pk_sub_toInt (by omega) (by omega)
  rw [Int32.le_iff_toInt_le, e1] at h1
  rw [Int32.lt_iff_toInt_lt, nI_toInt (by omega)]
  omega

set_option maxRecDepth 100000 in
theorem isHouse_no {d : Nat} {I : Im} {G : Gm} {m k cn : Nat} {E : Ec} {T : Lt} (hm : isC10 G m) (hk : MtC I m k E T) (hcn : I m 20 = nI cn) (hcn10 : cn ≤ 10) (hkc : k < cn) {h : Int32} (hno : ¬ (0 ≤ h ∧ h < nI (eN E))) : Ct (d + 2) 0 0 YX10_isHouse [.ref m, .int (nI k), .int h] (I, G) (qP 0 (I, G)) := by
  refine Ct.of (by decide) (by simp [Value.category]) (Nat.le_of_ble_eq_true rfl) ?_
  have hn8 := hk.2.1
  have hk10 : k ≤ 10 := by omega
  have hy1 : 0 ≤ nI k ∧ nI k < I m 20 := ⟨nI_pos' (by omega), by rw [hcn]; exact nI_lt hkc (by omega)⟩
  have hno2 : ¬ (nI 0 ≤ h ∧ h ≤ nI (eN E) - nI 1) := fun z => hno ⟨z.1, le_pred hn8 z.1 z.2⟩
  show wp _ _ _ _ 0 [some (.ref m), some (.int (nI k)), some (.int h)] [] _ _
  refine r_aload_n (pc := 0) dX10_isHouse_0 rfl ?_
  refine r_iload_n (pc := 1) dX10_isHouse_1 rfl ?_
  refine r_callV_P (pc := 2) (b := m) (As := [.int (nI k)]) 10 148 dX10_isHouse_2 lk_X10_isTrade (ml_RX10_148 rfl) im_X10_isTrade se_X10_isTrade (by decide) (c10_o hm) (Nat.le_of_ble_eq_true rfl) rfl (isTrade_ct hm) ?_
  refine r_if_eq_b (pc := 5) (tgt := 28) dX10_isHouse_5 (by decide) (fun c5 => ?_) (fun c5 => ?_)
  · exfalso; exact c5 hy1
  · skip
    refine r_iload_n (pc := 8) dX10_isHouse_8 rfl ?_
    refine r_iconst (pc := 9) (v := 0) dX10_isHouse_9 (by decide) ?_
    refine r_aload_n (pc := 10) dX10_isHouse_10 rfl ?_
    refine r_get1 (pc := 11) 10 6 13 dX10_isHouse_11 (fl_RX10_13 rfl) (by decide) rfl (c10_o hm) (c10_p6 hm) ?_
    refine r_iload_n (pc := 14) dX10_isHouse_14 rfl ?_
    refine r_iald_n (pc := 15) (i := k) dX10_isHouse_15 (c10_a6 hm) (by decide) (by omega) (v := nI (eN E)) (hk.1) ?_
    refine r_iconst (pc := 16) (v := 1) dX10_isHouse_16 (by decide) ?_
    refine r_isub (pc := 17) (x := nI (eN E)) (z := 1) dX10_isHouse_17 ?_
    refine r_callS_P (pc := 18) (As := [.int h, .int (nI 0), .int ((nI (eN E)) - 1)]) 123 dX10_isHouse_18 lk_X10_isIn (ml_RX10_123 rfl) sm_X10_isIn (Nat.le_of_ble_eq_true rfl) rfl (isIn_ct ) ?_
    refine r_if_eq_b (pc := 21) (tgt := 28) dX10_isHouse_21 (by decide) (fun c21 => ?_) (fun c21 => ?_)
    · skip
      refine r_iconst (pc := 28) (v := 0) dX10_isHouse_28 (by decide) ?_
      refine r_ret_z (pc := 29) dX10_isHouse_29 rfl (by decide) ?_
      exact ⟨rfl, rfl⟩
    · exfalso; exact hno2 c21

set_option maxRecDepth 100000 in
theorem isHouse_nt {d : Nat} {I : Im} {G : Gm} {m : Nat} (hm : isC10 G m) {t h : Int32} (hno : ¬ (0 ≤ t ∧ t < I m 20)) : Ct (d + 2) 0 0 YX10_isHouse [.ref m, .int t, .int h] (I, G) (qP 0 (I, G)) := by
  refine Ct.of (by decide) (by simp [Value.category]) (Nat.le_of_ble_eq_true rfl) ?_
  show wp _ _ _ _ 0 [some (.ref m), some (.int t), some (.int h)] [] _ _
  refine r_aload_n (pc := 0) dX10_isHouse_0 rfl ?_
  refine r_iload_n (pc := 1) dX10_isHouse_1 rfl ?_
  refine r_callV_P (pc := 2) (b := m) (As := [.int t]) 10 148 dX10_isHouse_2 lk_X10_isTrade (ml_RX10_148 rfl) im_X10_isTrade se_X10_isTrade (by decide) (c10_o hm) (Nat.le_of_ble_eq_true rfl) rfl (isTrade_ct hm) ?_
  refine r_if_eq_b (pc := 5) (tgt := 28) dX10_isHouse_5 (by decide) (fun c5 => ?_) (fun c5 => ?_)
  · skip
    refine r_iconst (pc := 28) (v := 0) dX10_isHouse_28 (by decide) ?_
    refine r_ret_z (pc := 29) dX10_isHouse_29 rfl (by decide) ?_
    exact ⟨rfl, rfl⟩
  · exfalso; exact hno c5

set_option maxRecDepth 100000 in
theorem isShopM_no {d : Nat} {I : Im} {G : Gm} {m k cn : Nat} {E : Ec} {T : Lt} (hm : isC10 G m) (hk : MtC I m k E T) (hcn : I m 20 = nI cn) (hcn10 : cn ≤ 10) (hkc : k < cn) {h : Int32} (hno : ¬ (0 ≤ h ∧ h < nI (eN E))) : Ct (d + 3) 0 0 YX10_isShop [.ref m, .int (nI k), .int h] (I, G) (qP 0 (I, G)) := by
  refine Ct.of (by decide) (by simp [Value.category]) (Nat.le_of_ble_eq_true rfl) ?_
  show wp _ _ _ _ 0 [some (.ref m), some (.int (nI k)), some (.int h)] [] _ _
  refine r_aload_n (pc := 0) dX10_isShop_0 rfl ?_
  refine r_iload_n (pc := 1) dX10_isShop_1 rfl ?_
  refine r_iload_n (pc := 2) dX10_isShop_2 rfl ?_
  refine r_callV_P (pc := 3) (b := m) (As := [.int (nI k), .int h]) 10 154 dX10_isShop_3 lk_X10_isHouse (ml_RX10_154 rfl) im_X10_isHouse se_X10_isHouse (by decide) (c10_o hm) (Nat.le_of_ble_eq_true rfl) rfl (isHouse_no hm hk hcn hcn10 hkc hno) ?_
  refine r_if_eq_n (pc := 6) (a := 0) (tgt := 22) dX10_isShop_6 (by decide) (by omega) (fun c6 => ?_) (fun c6 => ?_)
  · skip
    refine r_iconst (pc := 22) (v := 0) dX10_isShop_22 (by decide) ?_
    refine r_ret_z (pc := 23) dX10_isShop_23 rfl (by decide) ?_
    exact ⟨rfl, rfl⟩
  · exfalso; exact c6 rfl

set_option maxRecDepth 100000 in
theorem isShopM_nt {d : Nat} {I : Im} {G : Gm} {m : Nat} (hm : isC10 G m) {t h : Int32} (hno : ¬ (0 ≤ t ∧ t < I m 20)) : Ct (d + 3) 0 0 YX10_isShop [.ref m, .int t, .int h] (I, G) (qP 0 (I, G)) := by
  refine Ct.of (by decide) (by simp [Value.category]) (Nat.le_of_ble_eq_true rfl) ?_
  show wp _ _ _ _ 0 [some (.ref m), some (.int t), some (.int h)] [] _ _
  refine r_aload_n (pc := 0) dX10_isShop_0 rfl ?_
  refine r_iload_n (pc := 1) dX10_isShop_1 rfl ?_
  refine r_iload_n (pc := 2) dX10_isShop_2 rfl ?_
  refine r_callV_P (pc := 3) (b := m) (As := [.int t, .int h]) 10 154 dX10_isShop_3 lk_X10_isHouse (ml_RX10_154 rfl) im_X10_isHouse se_X10_isHouse (by decide) (c10_o hm) (Nat.le_of_ble_eq_true rfl) rfl (isHouse_nt hm hno) ?_
  refine r_if_eq_n (pc := 6) (a := 0) (tgt := 22) dX10_isShop_6 (by decide) (by omega) (fun c6 => ?_) (fun c6 => ?_)
  · skip
    refine r_iconst (pc := 22) (v := 0) dX10_isShop_22 (by decide) ?_
    refine r_ret_z (pc := 23) dX10_isShop_23 rfl (by decide) ?_
    exact ⟨rfl, rfl⟩
  · exfalso; exact c6 rfl

theorem sm_add (f g : Nat → Int32) : ∀ n, sm (fun k => f k + g k) n = sm f n + sm g n
  | 0 => rfl
  | n + 1 => by
    show sm (fun k => f k + g k) n + (f n + g n) = (sm f n + f n) + (sm g n + g n)
    rw [sm_add f g n]
    simp only [Int32.add_assoc]
    congr 1
    rw [← Int32.add_assoc, ← Int32.add_assoc, Int32.add_comm (f n)]
theorem sm_one (x : Int32) (j : Nat) : ∀ n, sm (fun k => if k = j then x else 0) n = if j < n then x else 0
  | 0 => by rw [if_neg (Nat.not_lt_zero _)]; rfl
  | n + 1 => by
    show sm (fun k => if k = j then x else 0) n + (if n = j then x else 0) = _
    rw [sm_one x j n]
    by_cases e : n = j
    · rw [if_pos e, if_neg (by omega), if_pos (by omega), Int32.zero_add]
    · rw [if_neg e, Int32.add_zero]
      by_cases c : j < n
      · rw [if_pos c, if_pos (by omega)]
      · rw [if_neg c, if_neg (by omega)]
theorem sm_up (a P M : Nat) : ∀ N, sm (fun i => nI (if a + 1 + i ≤ P then M else 0)) N = nI (min N (P - a) * M)
  | 0 => by rw [Nat.zero_min, Nat.zero_mul]; rfl
  | N + 1 => by
    show sm (fun i => nI (if a + 1 + i ≤ P then M else 0)) N + nI (if a + 1 + N ≤ P then M else 0) = _
    rw [sm_up a P M N, nI_add]
    congr 1
    by_cases c : a + 1 + N ≤ P
    · rw [if_pos c, show min N (P - a) = N by omega, show min (N + 1) (P - a) = N + 1 by omega, Nat.succ_mul]
    · rw [if_neg c, show min N (P - a) = P - a by omega, show min (N + 1) (P - a) = P - a by omega, Nat.add_zero]
/-- what is saved, lot by lot -/
def svL (T : Lt) (n : Nat) (sh : Nat → Bool) (a : Nat → Nat) : Nat → Int32 := sm (fun i => if T.2.1 i < n ∧ sh (T.2.1 i) = true then nI ((T.2.2.1 i - a (T.2.1 i)) * T.2.2.2 i) else 0)
theorem sv_lots {T : Lt} {n : Nat} {sh : Nat → Bool} {a : Nat → Nat} (ha : ∀ h, a h ≤ 41) : ∀ j, (∀ i, i < j → T.2.2.1 i ≤ 40) → sm (fun h => if sh h = true then svH (fun p => wS T h p j) (a h) else 0) n = svL T n sh a j
  | 0, _ => sm_zero _ (fun h _ => by
      by_cases c : sh h = true
      · rw [if_pos c]
        exact sm_zero _ (fun _ _ => rfl)
      · rw [if_neg c])
  | j + 1, hj => by
    have e : sm (fun h => if sh h = true then svH (fun p => wS T h p (j + 1)) (a h) else 0) n = sm (fun h => (if sh h = true then svH (fun p => wS T h p j) (a h) else 0) + (if h = T.2.1 j then (if sh (T.2.1 j) = true then nI ((T.2.2.1 j - a (T.2.1 j)) * T.2.2.2 j) else 0) else 0)) n := by
      apply sm_congr
      intro h _
      by_cases c : sh h = true
      · rw [if_pos c, if_pos c]
        have e1 : svH (fun p => wS T h p (j + 1)) (a h) = svH (fun p => wS T h p j) (a h) + sm (fun i => nI (if T.2.1 j = h ∧ a h + 1 + i ≤ T.2.2.1 j then T.2.2.2 j else 0)) (41 - a h) := by
          unfold svH
          rw [← sm_add]
          apply sm_congr
          intro i _
          rw [nI_add]
          rfl
        rw [e1]
        congr 1
        by_cases e2 : h = T.2.1 j
        · rw [if_pos e2, ← e2, if_pos c]
          have := sm_up (a h) (T.2.2.1 j) (T.2.2.2 j) (41 - a h)
          have h40 := hj j (by omega)
          rw [show min (41 - a h) (T.2.2.1 j - a h) = T.2.2.1 j - a h by omega] at this
          rw [← this]
          apply sm_congr
          intro i _
          congr 1
          by_cases c2 : a h + 1 + i ≤ T.2.2.1 j
          · rw [if_pos ⟨rfl, c2⟩, if_pos c2]
          · rw [if_neg (fun z => c2 z.2), if_neg c2]
        · rw [if_neg e2]
          exact sm_zero _ (fun i _ => by rw [if_neg (fun z => e2 z.1.symm)]; rfl)
      · rw [if_neg c, if_neg c]
        by_cases e2 : h = T.2.1 j
        · rw [if_pos e2, ← e2, if_neg c]
          rfl
        · rw [if_neg e2]
          rfl
    rw [e, sm_add, sv_lots ha j (fun i hi => hj i (by omega)), sm_one]
    show _ = svL T n sh a j + (if T.2.1 j < n ∧ sh (T.2.1 j) = true then nI ((T.2.2.1 j - a (T.2.1 j)) * T.2.2.2 j) else 0)
    congr 1
    by_cases c1 : T.2.1 j < n
    · rw [if_pos c1]
      by_cases c2 : sh (T.2.1 j) = true
      · rw [if_pos c2, if_pos ⟨c1, c2⟩]
      · rw [if_neg c2, if_neg (fun z => c2 z.2)]
    · rw [if_neg c1, if_neg (fun z => c1 z.1)]
abbrev shB (E : Ec) (h : Nat) : Bool := decide (cnt (eS E) h (eN E) = 0)
abbrev akN (E : Ec) (h : Nat) : Nat := askF (eW E h) (eK E) (spF E idq h)
theorem svF_lots {E : Ec} {T : Lt} (hw : ∀ h p, eW E h p = wS T h p T.1) (h40 : ∀ i, i < T.1 → T.2.2.1 i ≤ 40) : svF E idq = svL T (eN E) (shB E) (akN E) T.1 := by
  rw [← sv_lots (fun h => askF_le _ _ _) T.1 h40]
  unfold svF
  apply sm_congr
  intro h _
  rw [show eW E h = fun p => wS T h p T.1 from funext (fun p => hw h p)]
  by_cases c : cnt (eS E) h (eN E) = 0
  · rw [if_pos c, if_pos (decide_eq_true c)]
  · rw [if_neg c, if_neg (by simpa using c)]
theorem sub_mul {P a M : Nat} (h : a ≤ P) (hP : P ≤ 41) : (nI P - nI a) * nI M = nI ((P - a) * M) := by
  rw [pk_sub h, pk_mul]

theorem isShopM_i {d : Nat} {I : Im} {G : Gm} {m k cn : Nat} {E : Ec} {T : Lt} (hm : isC10 G m) (hk : MtC I m k E T) (hcn : I m 20 = nI cn) (hcn10 : cn ≤ 10) (hkc : k < cn) {h : Nat} (h8 : h < 8) : Ct (d + 3) 0 0 YX10_isShop [.ref m, .int (nI k), .int (nI h)] (I, G) (qP (bz (h < eN E ∧ shB E h = true)) (I, G)) := by
  have hn8 := hk.2.1
  by_cases c : h < eN E
  · have g := isShopM_ct (d := d) hm hk (by omega) hcn hcn10 hkc c
    rw [bz_congr (b := h < eN E ∧ shB E h = true) ⟨fun z => ⟨c, decide_eq_true z⟩, fun z => of_decide_eq_true z.2⟩] at g
    exact g
  · have g := isShopM_no (d := d) hm hk hcn hcn10 hkc (h := nI h) (fun z => c ((nI_ltI (by omega) (by omega)).mp z.2))
    rw [bz_f (c := h < eN E ∧ shB E h = true) (fun z => c z.1)] at g
    exact g

set_option maxRecDepth 100000 in
theorem saving_ct {d : Nat} {I : Im} {G : Gm} {m k cn cb : Nat} {E : Ec} {T : Lt} (hm : isC10 G m) (hS : MS I m k E T cn) (hcb : ∀ b, eC E b ≤ cb) (hcb6 : cb ≤ 60) (hB : BdM E) (hW : WbC E) : Ct (d + 45) 0 0 YX10_saving [.ref m] (I, G) (qM G (fun v I2 => v = svF E idq ∧ KV I2 m E ∧ FrO I I2 m ∧ OcM I2 m E (eN E))) := by
  refine Ct.of (by decide) (by simp [Value.category]) (Nat.le_of_ble_eq_true rfl) ?_
  have hn8 := hS.1.2.1
  have hcn10 := hS.2.2.2.1
  have hkc := hS.2.2.2.2.1
  have hE : SrC E := ⟨hS.1.2.1, hS.1.2.2.2.1⟩
  have hT20 := hS.1.2.2.2.2.2.2.2.1
  show wp _ _ _ _ 0 [some (.ref m), none, none, none, none] [] _ _
  refine r_aload_n (pc := 0) dX10_saving_0 rfl ?_
  refine r_callV_V (pc := 1) (b := m) (As := []) 10 227 dX10_saving_1 lk_X10_layOutcome (ml_RX10_227 rfl) im_X10_layOutcome se_X10_layOutcome (by decide) (c10_o hm) (Nat.le_of_ble_eq_true rfl) rfl (layOutcome_ct (d := d) hm hS hcb hcb6 hB hW) (fun I2 hI2 => ?_)
  obtain ⟨hK2, hF2, hO2⟩ := hI2
  have hS2 := hS.keepO hF2 hK2
  refine r_iconst (pc := 4) (v := 0) dX10_saving_4 (by decide) ?_
  refine r_istore_n (pc := 5) (L' := [some (.ref m), some (.int (nI 0)), none, none, none]) dX10_saving_5 (by decide) rfl rfl ?_
  refine r_iconst (pc := 6) (v := 0) dX10_saving_6 (by decide) ?_
  refine r_istore_n (pc := 7) (L' := [some (.ref m), some (.int (nI 0)), some (.int (nI 0)), none, none]) dX10_saving_7 (by decide) rfl rfl ?_
  have lp8 : ∀ (n8 : Nat), ∀ (i : Nat) (s : Int32), T.1 - i = n8 → (i ≤ T.1) → (s = svL T (eN E) (shB E) (akN E) i) → wp (d + 45) 0 0 YX10_saving 8 [some (.ref m), some (.int s), some (.int (nI i)), none, none] [] (I2, G) (qM G (fun v I2 => v = svF E idq ∧ KV I2 m E ∧ FrO I I2 m ∧ OcM I2 m E (eN E))) := by
    intro n8
    induction n8 using Nat.strongRecOn with
    | ind n8 ih8 =>
      intro i s hmu8 hi hs
      refine r_iload_n (pc := 8) dX10_saving_8 rfl ?_
      refine r_aload_n (pc := 9) dX10_saving_9 rfl ?_
      refine r_get1 (pc := 10) 10 10 26 dX10_saving_10 (fl_RX10_26 rfl) (by decide) rfl (c10_o hm) (c10_p10 hm) ?_
      refine r_aload_n (pc := 13) dX10_saving_13 rfl ?_
      refine r_getIv (pc := 14) 10 21 175 dX10_saving_14 (fl_RX10_175 rfl) (by decide) rfl (c10_o hm) (v := nI k) (hS2.2.1.1) ?_
      refine r_iald_n (pc := 17) (i := k) dX10_saving_17 (c10_a10 hm) (by decide) (by omega) (v := nI T.1) (hS2.1.2.2.2.2.2.2.1) ?_
      refine r_icmp_ge_n (pc := 18) (a := i) (b := T.1) (tgt := 128) dX10_saving_18 (by decide) (by omega) (by omega) (fun c18 => ?_) (fun c18 => ?_)
      · skip
        refine r_iload_n (pc := 128) dX10_saving_128 rfl ?_
        refine r_ret_i (pc := 129) dX10_saving_129 rfl ?_
        exact ⟨_, I2, rfl, rfl, by rw [hs, show i = T.1 by omega, svF_lots hS.1.2.2.2.2.2.2.2.2.2 (fun x hx => (hS.1.2.2.2.2.2.2.2.2.1 x hx).2.2.2.2.1)], hK2, hF2, hO2⟩
      · skip
        have hTi := hS2.1.2.2.2.2.2.2.2.2.1 i (by omega)
        have hT8 := hTi.2.2.2.1
        have hSU : ∀ x, (if T.2.1 i < eN E ∧ shB E (T.2.1 i) = true then nI ((T.2.2.1 i - akN E (T.2.1 i)) * T.2.2.2 i) else 0) = x → svL T (eN E) (shB E) (akN E) i + x = svL T (eN E) (shB E) (akN E) (i + 1) := fun x hx => by rw [← hx]; rfl
        have hak : akN E (T.2.1 i) ≤ 41 := askF_le _ _ _
        refine r_aload_n (pc := 21) dX10_saving_21 rfl ?_
        refine r_get1 (pc := 22) 10 11 29 dX10_saving_22 (fl_RX10_29 rfl) (by decide) rfl (c10_o hm) (c10_p11 hm) ?_
        refine r_bipush (pc := 25) (v := 20) dX10_saving_25 (by decide) ?_
        refine r_aload_n (pc := 27) dX10_saving_27 rfl ?_
        refine r_getIv (pc := 28) 10 21 175 dX10_saving_28 (fl_RX10_175 rfl) (by decide) rfl (c10_o hm) (v := nI k) (hS2.2.1.1) ?_
        refine r_imul_n (pc := 31) (a := 20) (b := k) dX10_saving_31 ?_
        refine r_iload_n (pc := 32) dX10_saving_32 rfl ?_
        refine r_iadd_n (pc := 33) (a := 20 * k) (b := i) dX10_saving_33 ?_
        refine r_iald_n (pc := 34) (i := (20 * k) + i) dX10_saving_34 (c10_a11 hm) (by decide) (by omega) (v := nI (T.2.1 i)) ((hS2.1.2.2.2.2.2.2.2.2.1 _ (by omega)).1) ?_
        refine r_istore_n (pc := 35) (L' := [some (.ref m), some (.int s), some (.int (nI i)), some (.int (nI (T.2.1 i))), none]) dX10_saving_35 (by decide) rfl rfl ?_
        refine r_aload_n (pc := 36) dX10_saving_36 rfl ?_
        refine r_aload_n (pc := 37) dX10_saving_37 rfl ?_
        refine r_getIv (pc := 38) 10 21 175 dX10_saving_38 (fl_RX10_175 rfl) (by decide) rfl (c10_o hm) (v := nI k) (hS2.2.1.1) ?_
        refine r_iload_n (pc := 41) dX10_saving_41 rfl ?_
        refine r_callV_P (pc := 42) (b := m) (As := [.int (nI k), .int (nI (T.2.1 i))]) 10 165 dX10_saving_42 lk_X10_isShop (ml_RX10_165 rfl) im_X10_isShop se_X10_isShop (by decide) (c10_o hm) (Nat.le_of_ble_eq_true rfl) rfl (isShopM_i hm hS2.1 hS2.2.2.1 hS2.2.2.2.1 hS2.2.2.2.2.1 hT8) ?_
        refine r_if_ne_b (pc := 45) (tgt := 51) dX10_saving_45 (by decide) (fun c45 => ?_) (fun c45 => ?_)
        · skip
          refine r_aload_n (pc := 51) dX10_saving_51 rfl ?_
          refine r_iload_n (pc := 52) dX10_saving_52 rfl ?_
          refine r_aload_n (pc := 53) dX10_saving_53 rfl ?_
          refine r_get1 (pc := 54) 10 30 69 dX10_saving_54 (fl_RX10_69 rfl) (by decide) rfl (c10_o hm) (c10_p30 hm) ?_
          refine r_iload_n (pc := 57) dX10_saving_57 rfl ?_
          refine r_iald_n (pc := 58) (i := T.2.1 i) dX10_saving_58 (c10_a30 hm) (by decide) (by omega) (v := nI (spF E idq (T.2.1 i))) ((hO2 (T.2.1 i) (by omega)).2) ?_
          refine r_callV_P (pc := 59) (b := m) (As := [.int (nI (T.2.1 i)), .int (nI (spF E idq (T.2.1 i)))]) 10 213 dX10_saving_59 lk_X10_askBy (ml_RX10_213 rfl) im_X10_askBy se_X10_askBy (by decide) (c10_o hm) (Nat.le_of_ble_eq_true rfl) rfl (askBy_ct hm hS2.1 (by omega) hS2.2.1 hT8 (sp_ub hE hW hcb hcb6 c45.1).2) ?_
          refine r_istore (pc := 62) (L' := [some (.ref m), some (.int s), some (.int (nI i)), some (.int (nI (T.2.1 i))), some (.int (nI (akN E (T.2.1 i))))]) dX10_saving_62 (by decide) rfl rfl ?_
          refine r_iload_n (pc := 64) dX10_saving_64 rfl ?_
          refine r_aload_n (pc := 65) dX10_saving_65 rfl ?_
          refine r_get1 (pc := 66) 10 12 32 dX10_saving_66 (fl_RX10_32 rfl) (by decide) rfl (c10_o hm) (c10_p12 hm) ?_
          refine r_bipush (pc := 69) (v := 20) dX10_saving_69 (by decide) ?_
          refine r_aload_n (pc := 71) dX10_saving_71 rfl ?_
          refine r_getIv (pc := 72) 10 21 175 dX10_saving_72 (fl_RX10_175 rfl) (by decide) rfl (c10_o hm) (v := nI k) (hS2.2.1.1) ?_
          refine r_imul_n (pc := 75) (a := 20) (b := k) dX10_saving_75 ?_
          refine r_iload_n (pc := 76) dX10_saving_76 rfl ?_
          refine r_iadd_n (pc := 77) (a := 20 * k) (b := i) dX10_saving_77 ?_
          refine r_iald_n (pc := 78) (i := (20 * k) + i) dX10_saving_78 (c10_a12 hm) (by decide) (by omega) (v := nI (T.2.2.1 i)) ((hS2.1.2.2.2.2.2.2.2.2.1 _ (by omega)).2.1) ?_
          refine r_iload (pc := 79) dX10_saving_79 rfl ?_
          refine r_icmp_lt_n (pc := 81) (a := T.2.2.1 i) (b := akN E (T.2.1 i)) (tgt := 119) dX10_saving_81 (by decide) (by omega) (by omega) (fun c81 => ?_) (fun c81 => ?_)
          · skip
            have hcase : svL T (eN E) (shB E) (akN E) i + nI 0 = svL T (eN E) (shB E) (akN E) (i + 1) := hSU _ (by rw [if_pos c45, show T.2.2.1 i - akN E (T.2.1 i) = 0 by omega, Nat.zero_mul])
            refine r_iconst (pc := 119) (v := 0) dX10_saving_119 (by decide) ?_
            refine r_iadd (pc := 120) (x := s) (z := 0) dX10_saving_120 ?_
            refine r_istore_n (pc := 121) (L' := [some (.ref m), some (.int (s + 0)), some (.int (nI i)), some (.int (nI (T.2.1 i))), some (.int (nI (akN E (T.2.1 i))))]) dX10_saving_121 (by decide) rfl rfl ?_
            refine r_iinc (pc := 122) (v := nI (i + 1)) (L' := [some (.ref m), some (.int (s + 0)), some (.int (nI (i + 1))), some (.int (nI (T.2.1 i))), some (.int (nI (akN E (T.2.1 i))))]) dX10_saving_122 rfl (nI_inc _) (by decide) rfl rfl ?_
            refine r_goto (pc := 125) (tgt := 8) dX10_saving_125 (by decide) ?_
            refine wp_sub [some (.ref m), some (.int (s + 0)), some (.int (nI (i + 1))), none, none] ⟨rfl, ⟨rfl, ⟨rfl, trivial⟩⟩⟩ ?_
            exact ih8 _ (by omega) (i + 1) (s + 0) rfl (by omega) (by rw [hs]; exact hcase)
          · skip
            have hcase : svL T (eN E) (shB E) (akN E) i + (nI (T.2.2.1 i) - nI (akN E (T.2.1 i))) * nI (T.2.2.2 i) = svL T (eN E) (shB E) (akN E) (i + 1) := hSU _ (by rw [if_pos c45, sub_mul (by omega) (by omega)])
            refine r_aload_n (pc := 84) dX10_saving_84 rfl ?_
            refine r_get1 (pc := 85) 10 12 32 dX10_saving_85 (fl_RX10_32 rfl) (by decide) rfl (c10_o hm) (c10_p12 hm) ?_
            refine r_bipush (pc := 88) (v := 20) dX10_saving_88 (by decide) ?_
            refine r_aload_n (pc := 90) dX10_saving_90 rfl ?_
            refine r_getIv (pc := 91) 10 21 175 dX10_saving_91 (fl_RX10_175 rfl) (by decide) rfl (c10_o hm) (v := nI k) (hS2.2.1.1) ?_
            refine r_imul_n (pc := 94) (a := 20) (b := k) dX10_saving_94 ?_
            refine r_iload_n (pc := 95) dX10_saving_95 rfl ?_
            refine r_iadd_n (pc := 96) (a := 20 * k) (b := i) dX10_saving_96 ?_
            refine r_iald_n (pc := 97) (i := (20 * k) + i) dX10_saving_97 (c10_a12 hm) (by decide) (by omega) (v := nI (T.2.2.1 i)) ((hS2.1.2.2.2.2.2.2.2.2.1 _ (by omega)).2.1) ?_
            refine r_iload (pc := 98) dX10_saving_98 rfl ?_
            refine r_isub (pc := 100) (x := nI (T.2.2.1 i)) (z := nI (akN E (T.2.1 i))) dX10_saving_100 ?_
            refine r_aload_n (pc := 101) dX10_saving_101 rfl ?_
            refine r_get1 (pc := 102) 10 13 35 dX10_saving_102 (fl_RX10_35 rfl) (by decide) rfl (c10_o hm) (c10_p13 hm) ?_
            refine r_bipush (pc := 105) (v := 20) dX10_saving_105 (by decide) ?_
            refine r_aload_n (pc := 107) dX10_saving_107 rfl ?_
            refine r_getIv (pc := 108) 10 21 175 dX10_saving_108 (fl_RX10_175 rfl) (by decide) rfl (c10_o hm) (v := nI k) (hS2.2.1.1) ?_
            refine r_imul_n (pc := 111) (a := 20) (b := k) dX10_saving_111 ?_
            refine r_iload_n (pc := 112) dX10_saving_112 rfl ?_
            refine r_iadd_n (pc := 113) (a := 20 * k) (b := i) dX10_saving_113 ?_
            refine r_iald_n (pc := 114) (i := (20 * k) + i) dX10_saving_114 (c10_a13 hm) (by decide) (by omega) (v := nI (T.2.2.2 i)) ((hS2.1.2.2.2.2.2.2.2.2.1 _ (by omega)).2.2.1) ?_
            refine r_imul (pc := 115) (x := (nI (T.2.2.1 i)) - (nI (akN E (T.2.1 i)))) (z := nI (T.2.2.2 i)) dX10_saving_115 ?_
            refine r_goto (pc := 116) (tgt := 120) dX10_saving_116 (by decide) ?_
            refine r_iadd (pc := 120) (x := s) (z := ((nI (T.2.2.1 i)) - (nI (akN E (T.2.1 i)))) * (nI (T.2.2.2 i))) dX10_saving_120 ?_
            refine r_istore_n (pc := 121) (L' := [some (.ref m), some (.int (s + (((nI (T.2.2.1 i)) - (nI (akN E (T.2.1 i)))) * (nI (T.2.2.2 i))))), some (.int (nI i)), some (.int (nI (T.2.1 i))), some (.int (nI (akN E (T.2.1 i))))]) dX10_saving_121 (by decide) rfl rfl ?_
            refine r_iinc (pc := 122) (v := nI (i + 1)) (L' := [some (.ref m), some (.int (s + (((nI (T.2.2.1 i)) - (nI (akN E (T.2.1 i)))) * (nI (T.2.2.2 i))))), some (.int (nI (i + 1))), some (.int (nI (T.2.1 i))), some (.int (nI (akN E (T.2.1 i))))]) dX10_saving_122 rfl (nI_inc _) (by decide) rfl rfl ?_
            refine r_goto (pc := 125) (tgt := 8) dX10_saving_125 (by decide) ?_
            refine wp_sub [some (.ref m), some (.int (s + (((nI (T.2.2.1 i)) - (nI (akN E (T.2.1 i)))) * (nI (T.2.2.2 i))))), some (.int (nI (i + 1))), none, none] ⟨rfl, ⟨rfl, ⟨rfl, trivial⟩⟩⟩ ?_
            exact ih8 _ (by omega) (i + 1) (s + (((nI (T.2.2.1 i)) - (nI (akN E (T.2.1 i)))) * (nI (T.2.2.2 i)))) rfl (by omega) (by rw [hs]; exact hcase)
        · skip
          have hcase : svL T (eN E) (shB E) (akN E) i = svL T (eN E) (shB E) (akN E) (i + 1) := by rw [← hSU 0 (if_neg c45), Int32.add_zero]
          refine r_goto (pc := 48) (tgt := 122) dX10_saving_48 (by decide) ?_
          refine r_iinc (pc := 122) (v := nI (i + 1)) (L' := [some (.ref m), some (.int s), some (.int (nI (i + 1))), some (.int (nI (T.2.1 i))), none]) dX10_saving_122 rfl (nI_inc _) (by decide) rfl rfl ?_
          refine r_goto (pc := 125) (tgt := 8) dX10_saving_125 (by decide) ?_
          refine wp_sub [some (.ref m), some (.int s), some (.int (nI (i + 1))), none, none] ⟨rfl, ⟨rfl, ⟨rfl, trivial⟩⟩⟩ ?_
          exact ih8 _ (by omega) (i + 1) s rfl (by omega) (by rw [hs]; exact hcase)
  exact lp8 _ 0 (nI 0) rfl (by omega) (by rfl)

set_option maxRecDepth 100000 in
theorem everybody_ct {d : Nat} {I : Im} {G : Gm} {m k cn : Nat} {E : Ec} {T : Lt} (hm : isC10 G m) (hk : MtC I m k E T) (hcn : I m 20 = nI cn) (hcn10 : cn ≤ 10) (hkc : k < cn) : Ct (d + 1) 0 0 YX10_everybody [.ref m, .int (nI k)] (I, G) (qP ((1 <<< (nI (eN E) &&& 31)) - 1) (I, G)) := by
  refine Ct.of (by decide) (by simp [Value.category]) (Nat.le_of_ble_eq_true rfl) ?_
  have hn8 := hk.2.1
  have hk10 : k ≤ 10 := by omega
  show wp _ _ _ _ 0 [some (.ref m), some (.int (nI k))] [] _ _
  refine r_iconst (pc := 0) (v := 1) dX10_everybody_0 (by decide) ?_
  refine r_aload_n (pc := 1) dX10_everybody_1 rfl ?_
  refine r_get1 (pc := 2) 10 6 13 dX10_everybody_2 (fl_RX10_13 rfl) (by decide) rfl (c10_o hm) (c10_p6 hm) ?_
  refine r_iload_n (pc := 5) dX10_everybody_5 rfl ?_
  refine r_iald_n (pc := 6) (i := k) dX10_everybody_6 (c10_a6 hm) (by decide) (by omega) (v := nI (eN E)) (hk.1) ?_
  refine r_ishl (pc := 7) (x := 1) (z := nI (eN E)) dX10_everybody_7 ?_
  refine r_iconst (pc := 8) (v := 1) dX10_everybody_8 (by decide) ?_
  refine r_isub (pc := 9) (x := 1 <<< ((nI (eN E)) &&& 31)) (z := 1) dX10_everybody_9 ?_
  refine r_ret_i (pc := 10) dX10_everybody_10 rfl ?_
  exact ⟨rfl, rfl⟩

def ToM (I : Im) (m k : Nat) (pay ask : Nat → Nat) : Prop := (∀ h, h < 8 → I (m + 12) (8 * k + h) = nI (pay h)) ∧ (∀ h, h < 8 → I (m + 13) (8 * k + h) = nI (ask h)) ∧ (∀ h, pay h ≤ 41) ∧ ∀ h, ask h ≤ 41

set_option maxRecDepth 100000 in
theorem toldTake_1 {d : Nat} {I : Im} {G : Gm} {m k cn : Nat} {E : Ec} {T : Lt} (hm : isC10 G m) (hk : MtC I m k E T) (hcn : I m 20 = nI cn) (hcn10 : cn ≤ 10) (hkc : k < cn) {pay ask : Nat → Nat} (ht : ToM I m k pay ask) {h : Nat} (hh : h < eN E) (hrec : ∀ b, eS E b = some h → Ct (d + 3) 0 0 YX10_toldTake [.ref m, .int (nI k), .int (nI b)] (I, G) (qP (ttF E ask b) (I, G))) : Ct (d + 4) 0 0 YX10_toldTake [.ref m, .int (nI k), .int (nI h)] (I, G) (qP (ttF E ask h) (I, G)) := by
  refine Ct.of (by decide) (by simp [Value.category]) (Nat.le_of_ble_eq_true rfl) ?_
  have hn8 := hk.2.1
  have hk10 : k ≤ 10 := by omega
  have htt := ttF_eq (E := E) (ask := ask) (fun b a z => (hk.2.2.2.1 b a z).1) (h := h) (by omega)
  show wp _ _ _ _ 0 [some (.ref m), some (.int (nI k)), some (.int (nI h)), none, none] [] _ _
  refine r_aload_n (pc := 0) dX10_toldTake_0 rfl ?_
  refine r_iload_n (pc := 1) dX10_toldTake_1 rfl ?_
  refine r_iload_n (pc := 2) dX10_toldTake_2 rfl ?_
  refine r_callV_P (pc := 3) (b := m) (As := [.int (nI k), .int (nI h)]) 10 165 dX10_toldTake_3 lk_X10_isShop (ml_RX10_165 rfl) im_X10_isShop se_X10_isShop (by decide) (c10_o hm) (Nat.le_of_ble_eq_true rfl) rfl (isShopM_ct hm hk hk10 hcn hcn10 hkc (by omega)) ?_
  refine r_if_eq_b (pc := 6) (tgt := 27) dX10_toldTake_6 (by decide) (fun c6 => ?_) (fun c6 => ?_)
  · skip
    refine r_iconst (pc := 27) (v := 0) dX10_toldTake_27 (by decide) ?_
    refine r_istore_n (pc := 28) (L' := [some (.ref m), some (.int (nI k)), some (.int (nI h)), some (.int (nI 0)), none]) dX10_toldTake_28 (by decide) rfl rfl ?_
    refine r_iconst (pc := 29) (v := 0) dX10_toldTake_29 (by decide) ?_
    refine r_istore (pc := 30) (L' := [some (.ref m), some (.int (nI k)), some (.int (nI h)), some (.int (nI 0)), some (.int (nI 0))]) dX10_toldTake_30 (by decide) rfl rfl ?_
    have lp32 : ∀ (n32 : Nat), ∀ (b : Nat) (s : Int32), eN E - b = n32 → (b ≤ eN E) → (s = sm (fun b => if eS E b = some h then ttF E ask b else 0) b) → wp (d + 4) 0 0 YX10_toldTake 32 [some (.ref m), some (.int (nI k)), some (.int (nI h)), some (.int s), some (.int (nI b))] [] (I, G) (qP (ttF E ask h) (I, G)) := by
      intro n32
      induction n32 using Nat.strongRecOn with
      | ind n32 ih32 =>
        intro b s hmu32 hb hs
        refine r_iload (pc := 32) dX10_toldTake_32 rfl ?_
        refine r_aload_n (pc := 34) dX10_toldTake_34 rfl ?_
        refine r_get1 (pc := 35) 10 6 13 dX10_toldTake_35 (fl_RX10_13 rfl) (by decide) rfl (c10_o hm) (c10_p6 hm) ?_
        refine r_iload_n (pc := 38) dX10_toldTake_38 rfl ?_
        refine r_iald_n (pc := 39) (i := k) dX10_toldTake_39 (c10_a6 hm) (by decide) (by omega) (v := nI (eN E)) (hk.1) ?_
        refine r_icmp_ge_n (pc := 40) (a := b) (b := eN E) (tgt := 74) dX10_toldTake_40 (by decide) (by omega) (by omega) (fun c40 => ?_) (fun c40 => ?_)
        · skip
          refine r_iload_n (pc := 74) dX10_toldTake_74 rfl ?_
          refine r_ret_i (pc := 75) dX10_toldTake_75 rfl ?_
          exact ⟨by rw [htt, if_neg c6, hs, show b = eN E by omega], rfl⟩
        · skip
          refine r_iload_n (pc := 43) dX10_toldTake_43 rfl ?_
          refine r_aload_n (pc := 44) dX10_toldTake_44 rfl ?_
          refine r_iload_n (pc := 45) dX10_toldTake_45 rfl ?_
          refine r_iload (pc := 46) dX10_toldTake_46 rfl ?_
          refine r_iload_n (pc := 48) dX10_toldTake_48 rfl ?_
          refine r_callV_P (pc := 49) (b := m) (As := [.int (nI k), .int (nI b), .int (nI h)]) 10 151 dX10_toldTake_49 lk_X10_buys (ml_RX10_151 rfl) im_X10_buys se_X10_buys (by decide) (c10_o hm) (Nat.le_of_ble_eq_true rfl) rfl (buys_ct hm hk hk10 (by omega) (by omega)) ?_
          refine r_if_eq_b (pc := 52) (tgt := 65) dX10_toldTake_52 (by decide) (fun c52 => ?_) (fun c52 => ?_)
          · skip
            have hcase : sm (fun b => if eS E b = some h then ttF E ask b else 0) b + nI 0 = sm (fun b => if eS E b = some h then ttF E ask b else 0) (b + 1) := congrArg (_ + ·) (if_neg c52).symm
            refine r_iconst (pc := 65) (v := 0) dX10_toldTake_65 (by decide) ?_
            refine r_iadd (pc := 66) (x := s) (z := 0) dX10_toldTake_66 ?_
            refine r_istore_n (pc := 67) (L' := [some (.ref m), some (.int (nI k)), some (.int (nI h)), some (.int (s + 0)), some (.int (nI b))]) dX10_toldTake_67 (by decide) rfl rfl ?_
            refine r_iinc (pc := 68) (v := nI (b + 1)) (L' := [some (.ref m), some (.int (nI k)), some (.int (nI h)), some (.int (s + 0)), some (.int (nI (b + 1)))]) dX10_toldTake_68 rfl (nI_inc _) (by decide) rfl rfl ?_
            refine r_goto (pc := 71) (tgt := 32) dX10_toldTake_71 (by decide) ?_
            exact ih32 _ (by omega) (b + 1) (s + 0) rfl (by omega) (by rw [hs]; exact hcase)
          · skip
            have hcase : sm (fun b => if eS E b = some h then ttF E ask b else 0) b + ttF E ask b = sm (fun b => if eS E b = some h then ttF E ask b else 0) (b + 1) := congrArg (_ + ·) (if_pos c52).symm
            refine r_aload_n (pc := 55) dX10_toldTake_55 rfl ?_
            refine r_iload_n (pc := 56) dX10_toldTake_56 rfl ?_
            refine r_iload (pc := 57) dX10_toldTake_57 rfl ?_
            refine r_callV_P (pc := 59) (b := m) (As := [.int (nI k), .int (nI b)]) 10 242 dX10_toldTake_59 lk_X10_toldTake (ml_RX10_242 rfl) im_X10_toldTake se_X10_toldTake (by decide) (c10_o hm) (Nat.le_of_ble_eq_true rfl) rfl (hrec b c52) ?_
            refine r_goto (pc := 62) (tgt := 66) dX10_toldTake_62 (by decide) ?_
            refine r_iadd (pc := 66) (x := s) (z := ttF E ask b) dX10_toldTake_66 ?_
            refine r_istore_n (pc := 67) (L' := [some (.ref m), some (.int (nI k)), some (.int (nI h)), some (.int (s + (ttF E ask b))), some (.int (nI b))]) dX10_toldTake_67 (by decide) rfl rfl ?_
            refine r_iinc (pc := 68) (v := nI (b + 1)) (L' := [some (.ref m), some (.int (nI k)), some (.int (nI h)), some (.int (s + (ttF E ask b))), some (.int (nI (b + 1)))]) dX10_toldTake_68 rfl (nI_inc _) (by decide) rfl rfl ?_
            refine r_goto (pc := 71) (tgt := 32) dX10_toldTake_71 (by decide) ?_
            exact ih32 _ (by omega) (b + 1) (s + (ttF E ask b)) rfl (by omega) (by rw [hs]; exact hcase)
    exact lp32 _ 0 (nI 0) rfl (by omega) (by rfl)
  · skip
    refine r_aload_n (pc := 9) dX10_toldTake_9 rfl ?_
    refine r_iload_n (pc := 10) dX10_toldTake_10 rfl ?_
    refine r_iload_n (pc := 11) dX10_toldTake_11 rfl ?_
    refine r_aload_n (pc := 12) dX10_toldTake_12 rfl ?_
    refine r_get1 (pc := 13) 10 17 47 dX10_toldTake_13 (fl_RX10_47 rfl) (by decide) rfl (c10_o hm) (c10_p17 hm) ?_
    refine r_bipush (pc := 16) (v := 8) dX10_toldTake_16 (by decide) ?_
    refine r_iload_n (pc := 18) dX10_toldTake_18 rfl ?_
    refine r_imul_n (pc := 19) (a := 8) (b := k) dX10_toldTake_19 ?_
    refine r_iload_n (pc := 20) dX10_toldTake_20 rfl ?_
    refine r_iadd_n (pc := 21) (a := 8 * k) (b := h) dX10_toldTake_21 ?_
    refine r_iald_n (pc := 22) (i := (8 * k) + h) dX10_toldTake_22 (c10_a17 hm) (by decide) (by omega) (v := nI (ask h)) (ht.2.1 _ (by omega)) ?_
    refine r_callV_P (pc := 23) (b := m) (As := [.int (nI k), .int (nI h), .int (nI (ask h))]) 10 168 dX10_toldTake_23 lk_X10_wanted (ml_RX10_168 rfl) im_X10_wanted se_X10_wanted (by decide) (c10_o hm) (Nat.le_of_ble_eq_true rfl) rfl (wanted_ct hm hk hk10 (by omega) (by have := ht.2.2.2 h; omega)) ?_
    refine r_ret_i (pc := 26) dX10_toldTake_26 rfl ?_
    exact ⟨by rw [htt, if_pos c6], rfl⟩

theorem toldTake_n {I : Im} {G : Gm} {m k cn : Nat} {E : Ec} {T : Lt} (hm : isC10 G m) (hk : MtC I m k E T) (hcn : I m 20 = nI cn) (hcn10 : cn ≤ 10) (hkc : k < cn) {pay ask : Nat → Nat} (ht : ToM I m k pay ask) : ∀ (n h : Nat), 8 - h = n → h < eN E → ∀ d, Ct (d + n + 4) 0 0 YX10_toldTake [.ref m, .int (nI k), .int (nI h)] (I, G) (qP (ttF E ask h) (I, G)) := by
  intro n
  induction n using Nat.strongRecOn with
  | ind n ih =>
    intro h hn hh d
    have hn8 := hk.2.1
    refine toldTake_1 (d := d + n) hm hk hcn hcn10 hkc ht hh (fun b hb => ?_)
    have hb2 := hk.2.2.2.1 b h hb
    have := ih (8 - b) (by omega) b rfl hb2.2 (d + n - 1 - (8 - b))
    rw [show d + n - 1 - (8 - b) + (8 - b) + 4 = d + n + 3 by omega] at this
    exact this
theorem toldTake_ct {d : Nat} {I : Im} {G : Gm} {m k cn : Nat} {E : Ec} {T : Lt} (hm : isC10 G m) (hk : MtC I m k E T) (hcn : I m 20 = nI cn) (hcn10 : cn ≤ 10) (hkc : k < cn) {pay ask : Nat → Nat} (ht : ToM I m k pay ask) {h : Nat} (hh : h < eN E) : Ct (d + 12) 0 0 YX10_toldTake [.ref m, .int (nI k), .int (nI h)] (I, G) (qP (ttF E ask h) (I, G)) := by
  have hn8 := hk.2.1
  have := toldTake_n hm hk hcn hcn10 hkc ht (8 - h) h rfl hh (d + h)
  rw [show d + h + (8 - h) + 4 = d + 12 by omega] at this
  exact this

set_option maxRecDepth 100000 in
theorem toldUnit_ct {d : Nat} {I : Im} {G : Gm} {m k cn : Nat} {E : Ec} {T : Lt} (hm : isC10 G m) (hk : MtC I m k E T) (hcn : I m 20 = nI cn) (hcn10 : cn ≤ 10) (hkc : k < cn) {pay ask : Nat → Nat} (ht : ToM I m k pay ask) {h : Nat} (hh : h < eN E) : Ct (d + 2) 0 0 YX10_toldUnit [.ref m, .int (nI k), .int (nI h)] (I, G) (qP (nI (pay h + eC E h)) (I, G)) := by
  refine Ct.of (by decide) (by simp [Value.category]) (Nat.le_of_ble_eq_true rfl) ?_
  have hn8 := hk.2.1
  have hk10 : k ≤ 10 := by omega
  show wp _ _ _ _ 0 [some (.ref m), some (.int (nI k)), some (.int (nI h))] [] _ _
  refine r_aload_n (pc := 0) dX10_toldUnit_0 rfl ?_
  refine r_get1 (pc := 1) 10 16 44 dX10_toldUnit_1 (fl_RX10_44 rfl) (by decide) rfl (c10_o hm) (c10_p16 hm) ?_
  refine r_bipush (pc := 4) (v := 8) dX10_toldUnit_4 (by decide) ?_
  refine r_iload_n (pc := 6) dX10_toldUnit_6 rfl ?_
  refine r_imul_n (pc := 7) (a := 8) (b := k) dX10_toldUnit_7 ?_
  refine r_iload_n (pc := 8) dX10_toldUnit_8 rfl ?_
  refine r_iadd_n (pc := 9) (a := 8 * k) (b := h) dX10_toldUnit_9 ?_
  refine r_iald_n (pc := 10) (i := (8 * k) + h) dX10_toldUnit_10 (c10_a16 hm) (by decide) (by omega) (v := nI (pay h)) (ht.1 _ (by omega)) ?_
  refine r_aload_n (pc := 11) dX10_toldUnit_11 rfl ?_
  refine r_iload_n (pc := 12) dX10_toldUnit_12 rfl ?_
  refine r_iload_n (pc := 13) dX10_toldUnit_13 rfl ?_
  refine r_callV_P (pc := 14) (b := m) (As := [.int (nI k), .int (nI h)]) 10 162 dX10_toldUnit_14 lk_X10_costOf (ml_RX10_162 rfl) im_X10_costOf se_X10_costOf (by decide) (c10_o hm) (Nat.le_of_ble_eq_true rfl) rfl (costOf_ct hm hk hk10 (by omega)) ?_
  refine r_iadd_n (pc := 17) (a := pay h) (b := eC E h) dX10_toldUnit_17 ?_
  refine r_ret_i (pc := 18) dX10_toldUnit_18 rfl ?_
  exact ⟨rfl, rfl⟩
