/-! ===== the reference: terms, outcome, sums ===== -/
theorem sp_bd {E : Ec} (hE : SrC E) {cb : Nat} (hcb : ∀ b, eC E b ≤ cb) : ∀ h, h < eN E → spF E rwF h ≤ cb * (h + 1) ∨ spF E rwF h ≤ 41 + cb * h := by
  have hS : ∀ b a, eS E b = some a → a < b := fun b a h => (hE.2 b a h).1
  have h8 := hE.1
  intro h
  induction h using Nat.strongRecOn with
  | ind h ih =>
    intro hh
    have h1 := hcb h
    have m1 : ∀ x y, x + 1 ≤ y → cb * x + cb ≤ cb * y := fun x y hxy => (show cb * x + cb = cb * (x + 1) from rfl) ▸ Nat.mul_le_mul (Nat.le_refl cb) hxy
    rw [spF_eq hS (by omega)]
    unfold pdF pdv
    cases hs : eS E h with
    | none =>
      have := m1 h (h + 1) (by omega)
      simp only
      omega
    | some a =>
      have h2 := hS h a hs
      have h3 := ih a h2 (by omega)
      have h4 := m1 (a + 1) (h + 1) (by omega)
      have h5 := m1 a h (by omega)
      have h6 := m1 0 h (by omega)
      simp only
      split
      · omega
      · have := prS_le (E := E) (q := rwF) (R := mk E rwF) (h := a) (b := h) (rwF_le (spF E rwF a))
        omega
theorem ask_row {w : Nat → Nat} {cap u : Nat} (hw : ∀ p, w p ≤ 600) (h41 : w 41 = 0) (hu2 : u ≤ 2000) : askF w cap (rwF u) = askF w cap u := by
  rcases Nat.le_total u 41 with hle | hge
  · rw [show rwF u = u from if_pos hle]
  · have e : rwF u = 41 := by
      unfold rwF
      split <;> omega
    rw [e, (ask_sat hw h41 hge hu2).1]
/-- outcome, the same on both sides -/
theorem oc_same {E : Ec} (hE : SrC E) (hW : WbC E) (hc : ∀ b, eC E b ≤ 60) {h : Nat} (hh : h < eN E) : akF E rwF h = akF E idq h ∧ (mk E rwF h (rwF (spF E rwF h))).1 = (mk E idq h (spF E idq h)).1 ∧ erF E rwF h = (mk E idq h (spF E idq h)).2 := by
  have hS : ∀ b a, eS E b = some a → a < b := fun b a h => (hE.2 b a h).1
  have h8 := hE.1
  have hsp := fun x hx => spF_le hS hc x hx
  have hsm := fun x hx => (sp_same hE hW hc x hx).1
  have hpd := fun x hx => (sp_same hE hW hc x hx).2
  have hrow : ∀ x, x < eN E → mk E rwF x (rwF (spF E rwF x)) = mk E idq x (spF E idq x) := fun x hx => by
    have := hsp x (by omega)
    rw [mk_row hE hW hc (8 - x) x rfl hx _ (by omega), hsm x hx]
  have hb := hsp h (by omega)
  have ha : cnt (eS E) h (eN E) = 0 → askF (eW E h) (eK E) (rwF (spF E rwF h)) = askF (eW E h) (eK E) (spF E idq h) := fun _ => by
    rw [ask_row (hW.2.2.2 h) (hW.2.2.1 h) (by omega), hsm h hh]
  refine ⟨?_, by rw [hrow h hh], ?_⟩
  · unfold akF
    by_cases hz : cnt (eS E) h (eN E) = 0
    · rw [if_pos hz, if_pos hz, ha hz]
    · rw [if_neg hz, if_neg hz]
  · unfold erF
    rw [mk_eq (q := idq) hS (by omega) (spF E idq h)]
    unfold stp
    by_cases hz : cnt (eS E) h (eN E) = 0
    · rw [if_pos hz, if_pos hz, ha hz, hrow h hh, hsm h hh, mk_eq (q := idq) hS (by omega) (spF E idq h)]
      unfold stp
      rw [if_pos hz]
    · rw [if_neg hz, if_neg hz]
      apply sm_congr
      intro b hb2
      by_cases hs : eS E b = some h
      · rw [if_pos hs, if_pos hs, hrow b hb2, hpd b hb2, hsm h hh]
        have e1 : pdF E idq b = prS E idq (mk E idq) h b (spF E idq h) := by
          unfold pdF pdv
          rw [hs]
          show (if jn (eJ E) (nI b) then spF E idq h else prS E idq (mk E idq) h b (idq (spF E idq h))) = _
          by_cases hj : jn (eJ E) (nI b)
          · rw [if_pos hj]
            exact (if_pos hj).symm
          · rw [if_neg hj]
        have e2 : spF E idq b = pdF E idq b + eC E b := spF_eq hS (by omega)
        rw [e2, e1]
      · rw [if_neg hs, if_neg hs]
/-- all but what outcome and memory hold -/
def FrO (I I2 : Im) (m : Nat) : Prop := ∀ a k, (a < m + 16 ∨ m + 20 < a) → I2 a k = I a k
theorem FrK.o {I I2 : Im} {m : Nat} (h : FrK I I2 m) : FrO I I2 m := fun a k z => h a k (by omega) (by omega) (by omega)
theorem FrO.tr {I I2 I3 : Im} {m : Nat} (h : FrO I I2 m) (h2 : FrO I2 I3 m) : FrO I I3 m := fun a k z => (h2 a k z).trans (h a k z)
theorem MS.keepO {I I2 : Im} {m k cn : Nat} {E : Ec} {T : Lt} (h : MS I m k E T cn) (hf : FrO I I2 m) (hK : KV I2 m E) : MS I2 m k E T cn := by
  have f0 : ∀ j, I2 m j = I m j := fun j => hf m j (by omega)
  exact ⟨h.1.keep (fun a k h1 h2 => hf a k (by omega)), ⟨(f0 _).trans h.2.1.1, (f0 _).trans h.2.1.2.1, (f0 _).trans h.2.1.2.2.1, h.2.1.2.2.2.1, (f0 _).trans h.2.1.2.2.2.2.1, (f0 _).trans h.2.1.2.2.2.2.2⟩, (f0 _).trans h.2.2.1, h.2.2.2.1, h.2.2.2.2.1, hK⟩
theorem KV.keep {I I2 : Im} {m : Nat} {E : Ec} (h : KV I m E) (hf : ∀ a k, m + 16 ≤ a → a ≤ m + 18 → I2 a k = I a k) : KV I2 m E := fun x u hx hu => by
  rw [hf _ _ (by omega) (by omega), hf _ _ (by omega) (by omega), hf _ _ (by omega) (by omega)]
  exact h x u hx hu
/-- the outcome of the houses below k, in the reference -/
def OcM (I : Im) (m : Nat) (E : Ec) (k : Nat) : Prop := ∀ h, h < k → I (m + 19) h = nI (pdF E idq h) ∧ I (m + 20) h = nI (spF E idq h)

set_option maxRecDepth 100000 in
theorem termsM_ct {d : Nat} {I : Im} {G : Gm} {m k cp : Nat} {j : Int32} {al ha : Bool} (hm : isC10 G m) : Ct (d + 1) 0 0 YX10_terms [.ref m, .int (nI k), .int j, .int (nI cp), .int (bz (al = true)), .int (bz (ha = true))] (I, G) (qV G (fun I2 => (∀ x, I2 m x = up2 (up2 (up2 (up2 (up2 I m 21 (nI k)) m 22 j) m 23 (nI cp)) m 24 (bz (al = true))) m 25 (bz (ha = true)) m x) ∧ (∀ x, x < 4160 → I2 (m + 18) x = 0) ∧ ∀ a x, a ≠ m → a ≠ m + 18 → I2 a x = I a x)) := by
  refine Ct.of (by decide) (by simp [Value.category]) (Nat.le_of_ble_eq_true rfl) ?_
  show wp _ _ _ _ 0 [some (.ref m), some (.int (nI k)), some (.int j), some (.int (nI cp)), some (.int (bz (al = true))), some (.int (bz (ha = true))), none] [] _ _
  refine r_aload_n (pc := 0) dX10_terms_0 rfl ?_
  refine r_iload_n (pc := 1) dX10_terms_1 rfl ?_
  refine r_putI (pc := 2) (v := nI k) 10 21 175 dX10_terms_2 (fl_RX10_175 rfl) (by decide) rfl rfl (c10_o hm) ?_
  refine r_aload_n (pc := 5) dX10_terms_5 rfl ?_
  refine r_iload_n (pc := 6) dX10_terms_6 rfl ?_
  refine r_putI (pc := 7) (v := j) 10 22 178 dX10_terms_7 (fl_RX10_178 rfl) (by decide) rfl rfl (c10_o hm) ?_
  refine r_aload_n (pc := 10) dX10_terms_10 rfl ?_
  refine r_iload_n (pc := 11) dX10_terms_11 rfl ?_
  refine r_putI (pc := 12) (v := nI cp) 10 23 181 dX10_terms_12 (fl_RX10_181 rfl) (by decide) rfl rfl (c10_o hm) ?_
  refine r_aload_n (pc := 15) dX10_terms_15 rfl ?_
  refine r_iload (pc := 16) dX10_terms_16 rfl ?_
  refine r_putZ (pc := 18) (v := bz (al = true)) 10 24 184 dX10_terms_18 (fl_RX10_184 rfl) (by decide) rfl rfl (c10_o hm) (bz_01 _) ?_
  refine r_aload_n (pc := 21) dX10_terms_21 rfl ?_
  refine r_iload (pc := 22) dX10_terms_22 rfl ?_
  refine r_putZ (pc := 24) (v := bz (ha = true)) 10 25 188 dX10_terms_24 (fl_RX10_188 rfl) (by decide) rfl rfl (c10_o hm) (bz_01 _) ?_
  obtain ⟨Ia, hIa⟩ : ∃ z : Im, z = up2 (up2 (up2 (up2 (up2 I m 21 (nI k)) m 22 j) m 23 (nI cp)) m 24 (bz (al = true))) m 25 (bz (ha = true)) := ⟨_, rfl⟩
  refine wp_M (M2 := (Ia, G)) (by subst hIa; rfl) ?_
  refine r_iconst (pc := 27) (v := 0) dX10_terms_27 (by decide) ?_
  refine r_istore (pc := 28) (L' := [some (.ref m), some (.int (nI k)), some (.int j), some (.int (nI cp)), some (.int (bz (al = true))), some (.int (bz (ha = true))), some (.int (nI 0))]) dX10_terms_28 (by decide) rfl rfl ?_
  have lp30 : ∀ (n30 : Nat), ∀ (i : Nat) (I1 : Im), 4160 - i = n30 → (i ≤ 4160) → (∀ x, x < i → I1 (m + 18) x = 0) → (∀ a x, a ≠ m + 18 → I1 a x = Ia a x) → wp (d + 1) 0 0 YX10_terms 30 [some (.ref m), some (.int (nI k)), some (.int j), some (.int (nI cp)), some (.int (bz (al = true))), some (.int (bz (ha = true))), some (.int (nI i))] [] (I1, G) (qV G (fun I2 => (∀ x, I2 m x = up2 (up2 (up2 (up2 (up2 I m 21 (nI k)) m 22 j) m 23 (nI cp)) m 24 (bz (al = true))) m 25 (bz (ha = true)) m x) ∧ (∀ x, x < 4160 → I2 (m + 18) x = 0) ∧ ∀ a x, a ≠ m → a ≠ m + 18 → I2 a x = I a x)) := by
    intro n30
    induction n30 using Nat.strongRecOn with
    | ind n30 ih30 =>
      intro i I1 hmu30 hi hz hf
      refine r_iload (pc := 30) dX10_terms_30 rfl ?_
      refine r_sipush (pc := 32) (v := 4160) dX10_terms_32 (by decide) ?_
      refine r_icmp_ge_n (pc := 35) (a := i) (b := 4160) (tgt := 52) dX10_terms_35 (by decide) (by omega) (by omega) (fun c35 => ?_) (fun c35 => ?_)
      · skip
        refine r_ret_v (pc := 52) dX10_terms_52 rfl ?_
        refine ⟨rfl, I1, rfl, ?_, fun x hx => hz x (by omega), fun a x h1 h2 => ?_⟩
        · intro x
          rw [hf m x (by omega), hIa]
        · rw [hf a x h2, hIa]
          rw [up2_rd (by omega), up2_rd (by omega), up2_rd (by omega), up2_rd (by omega), up2_rd (by omega)]
      · skip
        refine r_aload_n (pc := 38) dX10_terms_38 rfl ?_
        refine r_get1 (pc := 39) 10 28 63 dX10_terms_39 (fl_RX10_63 rfl) (by decide) rfl (c10_o hm) (c10_p28 hm) ?_
        refine r_iload (pc := 42) dX10_terms_42 rfl ?_
        refine r_iconst (pc := 44) (v := 0) dX10_terms_44 (by decide) ?_
        refine r_zast_n (pc := 45) (i := i) (v := nI 0) dX10_terms_45 (c10_a28 hm) (by decide) (by omega) (by decide) ?_
        refine r_iinc (pc := 46) (v := nI (i + 1)) (L' := [some (.ref m), some (.int (nI k)), some (.int j), some (.int (nI cp)), some (.int (bz (al = true))), some (.int (bz (ha = true))), some (.int (nI (i + 1)))]) dX10_terms_46 rfl (nI_inc _) (by decide) rfl rfl ?_
        refine r_goto (pc := 49) (tgt := 30) dX10_terms_49 (by decide) ?_
        exact ih30 _ (by omega) (i + 1) (up2 I1 (m + 18) i (nI 0)) rfl (by omega) (by exact fun x hx => (Nat.lt_or_ge x i).elim (fun z => (up2_rd (by omega)).trans (hz x z)) (fun z => by obtain rfl : x = i := (by omega); rw [up2_at]; rfl)) (by exact fun a x hax => (up2_rd (Or.inl hax)).trans (hf a x hax))
  exact lp30 _ 0 Ia rfl (by omega) (by exact fun x hx => absurd hx (Nat.not_lt_zero _)) (by exact fun _ _ _ => rfl)

set_option maxRecDepth 100000 in
theorem layOutcome_ct {d : Nat} {I : Im} {G : Gm} {m k cn cb : Nat} {E : Ec} {T : Lt} (hm : isC10 G m) (hS : MS I m k E T cn) (hcb : ∀ b, eC E b ≤ cb) (hcb6 : cb ≤ 60) (hB : BdM E) (hW : WbC E) : Ct (d + 44) 0 0 YX10_layOutcome [.ref m] (I, G) (qV G (fun I2 => KV I2 m E ∧ FrO I I2 m ∧ OcM I2 m E (eN E))) := by
  refine Ct.of (by decide) (by simp [Value.category]) (Nat.le_of_ble_eq_true rfl) ?_
  have hn8 := hS.1.2.1
  have hcn10 := hS.2.2.2.1
  have hkc := hS.2.2.2.2.1
  have hE : SrC E := ⟨hS.1.2.1, hS.1.2.2.2.1⟩
  have hSS : ∀ b a, eS E b = some a → a < b := fun b a z => (hE.2 b a z).1
  have hsu : ∀ x, x < eN E → spF E idq x ≤ 600 := fun x hx => by have := (sp_same hE hW (fun b => Nat.le_trans (hcb b) hcb6) x hx).1; have := spF_le hSS (fun b => Nat.le_trans (hcb b) hcb6) x (by omega); omega
  have hTA : ∀ b, b < eN E → TKb G m k E T cn cb (d + 40 + 1) b ∧ EKb G m k E T cn cb (d + 40 + 1) b := fun b hb => tk_all hm hcb hcb6 hB hE.2 hE.1 (8 - b) b rfl hb _ (by omega)
  show wp _ _ _ _ 0 [some (.ref m), none, none] [] _ _
  refine r_iconst (pc := 0) (v := 0) dX10_layOutcome_0 (by decide) ?_
  refine r_istore_n (pc := 1) (L' := [some (.ref m), some (.int (nI 0)), none]) dX10_layOutcome_1 (by decide) rfl rfl ?_
  have lp2 : ∀ (n2 : Nat), ∀ (h : Nat) (I1 : Im), eN E - h = n2 → (h ≤ eN E) → (KV I1 m E) → (FrO I I1 m) → (OcM I1 m E h) → wp (d + 44) 0 0 YX10_layOutcome 2 [some (.ref m), some (.int (nI h)), none] [] (I1, G) (qV G (fun I2 => KV I2 m E ∧ FrO I I2 m ∧ OcM I2 m E (eN E))) := by
    intro n2
    induction n2 using Nat.strongRecOn with
    | ind n2 ih2 =>
      intro h I1 hmu2 hh hK1 hF1 hOc
      have hS1 := hS.keepO hF1 hK1
      refine r_iload_n (pc := 2) dX10_layOutcome_2 rfl ?_
      refine r_aload_n (pc := 3) dX10_layOutcome_3 rfl ?_
      refine r_get1 (pc := 4) 10 6 13 dX10_layOutcome_4 (fl_RX10_13 rfl) (by decide) rfl (c10_o hm) (c10_p6 hm) ?_
      refine r_aload_n (pc := 7) dX10_layOutcome_7 rfl ?_
      refine r_getIv (pc := 8) 10 21 175 dX10_layOutcome_8 (fl_RX10_175 rfl) (by decide) rfl (c10_o hm) (v := nI k) (hS1.2.1.1) ?_
      refine r_iald_n (pc := 11) (i := k) dX10_layOutcome_11 (c10_a6 hm) (by decide) (by omega) (v := nI (eN E)) (hS1.1.1) ?_
      refine r_icmp_ge_n (pc := 12) (a := h) (b := eN E) (tgt := 102) dX10_layOutcome_12 (by decide) (by omega) (by omega) (fun c12 => ?_) (fun c12 => ?_)
      · skip
        refine r_ret_v (pc := 102) dX10_layOutcome_102 rfl ?_
        exact ⟨rfl, I1, rfl, hK1, hF1, (show h = eN E by omega) ▸ hOc⟩
      · skip
        refine r_aload_n (pc := 15) dX10_layOutcome_15 rfl ?_
        refine r_get1 (pc := 16) 10 8 20 dX10_layOutcome_16 (fl_RX10_20 rfl) (by decide) rfl (c10_o hm) (c10_p8 hm) ?_
        refine r_bipush (pc := 19) (v := 8) dX10_layOutcome_19 (by decide) ?_
        refine r_aload_n (pc := 21) dX10_layOutcome_21 rfl ?_
        refine r_getIv (pc := 22) 10 21 175 dX10_layOutcome_22 (fl_RX10_175 rfl) (by decide) rfl (c10_o hm) (v := nI k) (hS1.2.1.1) ?_
        refine r_imul_n (pc := 25) (a := 8) (b := k) dX10_layOutcome_25 ?_
        refine r_iload_n (pc := 26) dX10_layOutcome_26 rfl ?_
        refine r_iadd_n (pc := 27) (a := 8 * k) (b := h) dX10_layOutcome_27 ?_
        refine r_iald_n (pc := 28) (i := (8 * k) + h) dX10_layOutcome_28 (c10_a8 hm) (by decide) (by omega) (v := sI (eS E h)) (hS1.1.2.2.1 _ (by omega)) ?_
        refine r_istore_n (pc := 29) (L' := [some (.ref m), some (.int (nI h)), some (.int (sI (eS E h)))]) dX10_layOutcome_29 (by decide) rfl rfl ?_
        rcases hsr : eS E h with _ | a
        · skip
          show wp _ _ _ _ _ [some (.ref m), some (.int (nI h)), some (.int (-1))] _ _ _
          refine r_aload_n (pc := 30) dX10_layOutcome_30 rfl ?_
          refine r_get1 (pc := 31) 10 29 66 dX10_layOutcome_31 (fl_RX10_66 rfl) (by decide) rfl (c10_o hm) (c10_p29 hm) ?_
          refine r_iload_n (pc := 34) dX10_layOutcome_34 rfl ?_
          have k73 : ∀ (x : Nat) (I2 : Im), (x = pdF E idq h) → (KV I2 m E) → (FrO I1 I2 m) → (∀ y, I2 (m + 19) y = I1 (m + 19) y ∧ I2 (m + 20) y = I1 (m + 20) y) → wp (d + 44) 0 0 YX10_layOutcome 73 [some (.ref m), some (.int (nI h)), none] [.int (nI x), .int (nI h), .ref (m + 19)] (I2, G) (qV G (fun I2 => KV I2 m E ∧ FrO I I2 m ∧ OcM I2 m E (eN E))) := by
            intro x I2 hx hK2 hF2 hO2
            refine r_iast_n (pc := 73) (i := h) (v := nI x) dX10_layOutcome_73 (c10_a29 hm) (by decide) (by omega) ?_
            obtain ⟨I3, hI3⟩ : ∃ z : Im, z = up2 I2 (m + 19) h (nI x) := ⟨_, rfl⟩
            refine wp_M (M2 := (I3, G)) (by subst hI3; rfl) ?_
            have hK3 : KV I3 m E := hK2.keep (fun a k h3 h4 => by rw [hI3]; exact up2_rd (by omega))
            have hF3 : FrO I I3 m := fun a k z => by rw [hI3, up2_rd (by omega)]; exact (hF2 a k z).trans (hF1 a k z)
            have hS3 := hS.keepO hF3 hK3
            have hx3 : I3 (m + 19) h = nI x := by rw [hI3]; exact up2_at
            refine r_aload_n (pc := 74) dX10_layOutcome_74 rfl ?_
            refine r_get1 (pc := 75) 10 30 69 dX10_layOutcome_75 (fl_RX10_69 rfl) (by decide) rfl (c10_o hm) (c10_p30 hm) ?_
            refine r_iload_n (pc := 78) dX10_layOutcome_78 rfl ?_
            refine r_aload_n (pc := 79) dX10_layOutcome_79 rfl ?_
            refine r_get1 (pc := 80) 10 29 66 dX10_layOutcome_80 (fl_RX10_66 rfl) (by decide) rfl (c10_o hm) (c10_p29 hm) ?_
            refine r_iload_n (pc := 83) dX10_layOutcome_83 rfl ?_
            refine r_iald_n (pc := 84) (i := h) dX10_layOutcome_84 (c10_a29 hm) (by decide) (by omega) (v := nI x) (hx3) ?_
            refine r_aload_n (pc := 85) dX10_layOutcome_85 rfl ?_
            refine r_aload_n (pc := 86) dX10_layOutcome_86 rfl ?_
            refine r_getIv (pc := 87) 10 21 175 dX10_layOutcome_87 (fl_RX10_175 rfl) (by decide) rfl (c10_o hm) (v := nI k) (hS3.2.1.1) ?_
            refine r_iload_n (pc := 90) dX10_layOutcome_90 rfl ?_
            refine r_callV_P (pc := 91) (b := m) (As := [.int (nI k), .int (nI h)]) 10 162 dX10_layOutcome_91 lk_X10_costOf (ml_RX10_162 rfl) im_X10_costOf se_X10_costOf (by decide) (c10_o hm) (Nat.le_of_ble_eq_true rfl) rfl (costOf_ct hm hS3.1 (by omega) (by omega)) ?_
            refine r_iadd_n (pc := 94) (a := x) (b := eC E h) dX10_layOutcome_94 ?_
            have hOn : OcM (up2 I3 (m + 20) h (nI (x + eC E h))) m E (h + 1) := fun y hy => by
              by_cases e : y = h
              · subst e
                exact ⟨(up2_rd (by omega)).trans (by rw [hx3, hx]), by rw [up2_at, hx, spF_eq hSS (by omega)]⟩
              · have hq := hOc y (by omega)
                exact ⟨(up2_rd (by omega)).trans (by rw [hI3, up2_rd (by omega)]; exact (hO2 y).1.trans hq.1), (up2_rd (by omega)).trans (by rw [hI3, up2_rd (by omega)]; exact (hO2 y).2.trans hq.2)⟩
            refine r_iast_n (pc := 95) (i := h) (v := nI (x + (eC E h))) dX10_layOutcome_95 (c10_a30 hm) (by decide) (by omega) ?_
            refine r_iinc (pc := 96) (v := nI (h + 1)) (L' := [some (.ref m), some (.int (nI (h + 1))), none]) dX10_layOutcome_96 rfl (nI_inc _) (by decide) rfl rfl ?_
            refine r_goto (pc := 99) (tgt := 2) dX10_layOutcome_99 (by decide) ?_
            exact ih2 _ (by omega) (h + 1) (up2 I3 (m + 20) h (nI (x + (eC E h)))) rfl (by omega) (by exact hK3.keep (fun a k h3 h4 => up2_rd (by omega))) (by exact fun a k z => (up2_rd (by omega)).trans (hF3 a k z)) hOn
          refine r_iload_n (pc := 35) dX10_layOutcome_35 rfl ?_
          refine r_iconst (pc := 36) (v := -1) dX10_layOutcome_36 (by decide) ?_
          refine r_icmp_ne (pc := 37) (x := (-1)) (z := (-1)) (tgt := 44) dX10_layOutcome_37 (by decide) (fun c37 => ?_) (fun c37 => ?_)
          · exfalso; exact c37 rfl
          · skip
            have hxx : 0 = pdF E idq h := by unfold pdF pdv; rw [hsr]
            refine r_iconst (pc := 40) (v := 0) dX10_layOutcome_40 (by decide) ?_
            refine r_goto (pc := 41) (tgt := 73) dX10_layOutcome_41 (by decide) ?_
            refine wp_sub [some (.ref m), some (.int (nI h)), none] ⟨rfl, ⟨rfl, trivial⟩⟩ ?_
            exact k73 0 I1 hxx (by first | exact hK2 | exact hK1) (by first | exact hF2.o | exact (fun _ _ _ => rfl)) (by first | exact (fun y => ⟨hF2 _ _ (by omega) (by omega) (by omega), hF2 _ _ (by omega) (by omega) (by omega)⟩) | exact (fun _ => ⟨rfl, rfl⟩))
        · skip
          show wp _ _ _ _ _ [some (.ref m), some (.int (nI h)), some (.int (nI a))] _ _ _
          have hal := hE.2 h a hsr
          have hspa := hsu a (by omega)
          refine r_aload_n (pc := 30) dX10_layOutcome_30 rfl ?_
          refine r_get1 (pc := 31) 10 29 66 dX10_layOutcome_31 (fl_RX10_66 rfl) (by decide) rfl (c10_o hm) (c10_p29 hm) ?_
          refine r_iload_n (pc := 34) dX10_layOutcome_34 rfl ?_
          have k73 : ∀ (x : Nat) (I2 : Im), (x = pdF E idq h) → (KV I2 m E) → (FrO I1 I2 m) → (∀ y, I2 (m + 19) y = I1 (m + 19) y ∧ I2 (m + 20) y = I1 (m + 20) y) → wp (d + 44) 0 0 YX10_layOutcome 73 [some (.ref m), some (.int (nI h)), none] [.int (nI x), .int (nI h), .ref (m + 19)] (I2, G) (qV G (fun I2 => KV I2 m E ∧ FrO I I2 m ∧ OcM I2 m E (eN E))) := by
            intro x I2 hx hK2 hF2 hO2
            refine r_iast_n (pc := 73) (i := h) (v := nI x) dX10_layOutcome_73 (c10_a29 hm) (by decide) (by omega) ?_
            obtain ⟨I3, hI3⟩ : ∃ z : Im, z = up2 I2 (m + 19) h (nI x) := ⟨_, rfl⟩
            refine wp_M (M2 := (I3, G)) (by subst hI3; rfl) ?_
            have hK3 : KV I3 m E := hK2.keep (fun a k h3 h4 => by rw [hI3]; exact up2_rd (by omega))
            have hF3 : FrO I I3 m := fun a k z => by rw [hI3, up2_rd (by omega)]; exact (hF2 a k z).trans (hF1 a k z)
            have hS3 := hS.keepO hF3 hK3
            have hx3 : I3 (m + 19) h = nI x := by rw [hI3]; exact up2_at
            refine r_aload_n (pc := 74) dX10_layOutcome_74 rfl ?_
            refine r_get1 (pc := 75) 10 30 69 dX10_layOutcome_75 (fl_RX10_69 rfl) (by decide) rfl (c10_o hm) (c10_p30 hm) ?_
            refine r_iload_n (pc := 78) dX10_layOutcome_78 rfl ?_
            refine r_aload_n (pc := 79) dX10_layOutcome_79 rfl ?_
            refine r_get1 (pc := 80) 10 29 66 dX10_layOutcome_80 (fl_RX10_66 rfl) (by decide) rfl (c10_o hm) (c10_p29 hm) ?_
            refine r_iload_n (pc := 83) dX10_layOutcome_83 rfl ?_
            refine r_iald_n (pc := 84) (i := h) dX10_layOutcome_84 (c10_a29 hm) (by decide) (by omega) (v := nI x) (hx3) ?_
            refine r_aload_n (pc := 85) dX10_layOutcome_85 rfl ?_
            refine r_aload_n (pc := 86) dX10_layOutcome_86 rfl ?_
            refine r_getIv (pc := 87) 10 21 175 dX10_layOutcome_87 (fl_RX10_175 rfl) (by decide) rfl (c10_o hm) (v := nI k) (hS3.2.1.1) ?_
            refine r_iload_n (pc := 90) dX10_layOutcome_90 rfl ?_
            refine r_callV_P (pc := 91) (b := m) (As := [.int (nI k), .int (nI h)]) 10 162 dX10_layOutcome_91 lk_X10_costOf (ml_RX10_162 rfl) im_X10_costOf se_X10_costOf (by decide) (c10_o hm) (Nat.le_of_ble_eq_true rfl) rfl (costOf_ct hm hS3.1 (by omega) (by omega)) ?_
            refine r_iadd_n (pc := 94) (a := x) (b := eC E h) dX10_layOutcome_94 ?_
            have hOn : OcM (up2 I3 (m + 20) h (nI (x + eC E h))) m E (h + 1) := fun y hy => by
              by_cases e : y = h
              · subst e
                exact ⟨(up2_rd (by omega)).trans (by rw [hx3, hx]), by rw [up2_at, hx, spF_eq hSS (by omega)]⟩
              · have hq := hOc y (by omega)
                exact ⟨(up2_rd (by omega)).trans (by rw [hI3, up2_rd (by omega)]; exact (hO2 y).1.trans hq.1), (up2_rd (by omega)).trans (by rw [hI3, up2_rd (by omega)]; exact (hO2 y).2.trans hq.2)⟩
            refine r_iast_n (pc := 95) (i := h) (v := nI (x + (eC E h))) dX10_layOutcome_95 (c10_a30 hm) (by decide) (by omega) ?_
            refine r_iinc (pc := 96) (v := nI (h + 1)) (L' := [some (.ref m), some (.int (nI (h + 1))), none]) dX10_layOutcome_96 rfl (nI_inc _) (by decide) rfl rfl ?_
            refine r_goto (pc := 99) (tgt := 2) dX10_layOutcome_99 (by decide) ?_
            exact ih2 _ (by omega) (h + 1) (up2 I3 (m + 20) h (nI (x + (eC E h)))) rfl (by omega) (by exact hK3.keep (fun a k h3 h4 => up2_rd (by omega))) (by exact fun a k z => (up2_rd (by omega)).trans (hF3 a k z)) hOn
          refine r_iload_n (pc := 35) dX10_layOutcome_35 rfl ?_
          refine r_iconst (pc := 36) (v := -1) dX10_layOutcome_36 (by decide) ?_
          refine r_icmp_ne (pc := 37) (x := nI a) (z := (-1)) (tgt := 44) dX10_layOutcome_37 (by decide) (fun c37 => ?_) (fun c37 => ?_)
          · skip
            refine r_aload_n (pc := 44) dX10_layOutcome_44 rfl ?_
            refine r_iload_n (pc := 45) dX10_layOutcome_45 rfl ?_
            refine r_callV_P (pc := 46) (b := m) (As := [.int (nI h)]) 10 207 dX10_layOutcome_46 lk_X10_isJoined (ml_RX10_207 rfl) im_X10_isJoined se_X10_isJoined (by decide) (c10_o hm) (Nat.le_of_ble_eq_true rfl) rfl (isJoined_ct hm hS1.2.1) ?_
            refine r_if_eq_b (pc := 49) (tgt := 61) dX10_layOutcome_49 (by decide) (fun c49 => ?_) (fun c49 => ?_)
            · skip
              have hxx : prS E idq (mk E idq) a h (spF E idq a) = pdF E idq h := by unfold pdF pdv; rw [hsr]; exact (if_neg c49).symm
              refine r_aload_n (pc := 61) dX10_layOutcome_61 rfl ?_
              refine r_iload_n (pc := 62) dX10_layOutcome_62 rfl ?_
              refine r_iload_n (pc := 63) dX10_layOutcome_63 rfl ?_
              refine r_aload_n (pc := 64) dX10_layOutcome_64 rfl ?_
              refine r_get1 (pc := 65) 10 30 69 dX10_layOutcome_65 (fl_RX10_69 rfl) (by decide) rfl (c10_o hm) (c10_p30 hm) ?_
              refine r_iload_n (pc := 68) dX10_layOutcome_68 rfl ?_
              refine r_iald_n (pc := 69) (i := a) dX10_layOutcome_69 (c10_a30 hm) (by decide) (by omega) (v := nI (spF E idq a)) ((hOc a (by omega)).2) ?_
              refine r_callV_M (pc := 70) (b := m) (As := [.int (nI a), .int (nI h), .int (nI (spF E idq a))]) 10 216 dX10_layOutcome_70 lk_X10_priceTo (ml_RX10_216 rfl) im_X10_priceTo se_X10_priceTo (by decide) (c10_o hm) (Nat.le_of_ble_eq_true rfl) rfl (priceToM_ct (d := d + 40) hm hS1 hcb hcb6 hB (by omega) (by omega) (by omega) (by omega) c49 (fun b z => (hTA b (hE.2 b a z).2).1) (hTA h (by omega)).1 (hTA h (by omega)).2) (fun v70 I2 hr70 => ?_)
              obtain ⟨rfl, hK2, hF2⟩ := hr70
              refine wp_sub [some (.ref m), some (.int (nI h)), none] ⟨rfl, ⟨rfl, trivial⟩⟩ ?_
              exact k73 (prS E idq (mk E idq) a h (spF E idq a)) I2 hxx (by first | exact hK2 | exact hK1) (by first | exact hF2.o | exact (fun _ _ _ => rfl)) (by first | exact (fun y => ⟨hF2 _ _ (by omega) (by omega) (by omega), hF2 _ _ (by omega) (by omega) (by omega)⟩) | exact (fun _ => ⟨rfl, rfl⟩))
            · skip
              have hxx : spF E idq a = pdF E idq h := by unfold pdF pdv; rw [hsr]; exact (if_pos c49).symm
              refine r_aload_n (pc := 52) dX10_layOutcome_52 rfl ?_
              refine r_get1 (pc := 53) 10 30 69 dX10_layOutcome_53 (fl_RX10_69 rfl) (by decide) rfl (c10_o hm) (c10_p30 hm) ?_
              refine r_iload_n (pc := 56) dX10_layOutcome_56 rfl ?_
              refine r_iald_n (pc := 57) (i := a) dX10_layOutcome_57 (c10_a30 hm) (by decide) (by omega) (v := nI (spF E idq a)) ((hOc a (by omega)).2) ?_
              refine r_goto (pc := 58) (tgt := 73) dX10_layOutcome_58 (by decide) ?_
              refine wp_sub [some (.ref m), some (.int (nI h)), none] ⟨rfl, ⟨rfl, trivial⟩⟩ ?_
              exact k73 (spF E idq a) I1 hxx (by first | exact hK2 | exact hK1) (by first | exact hF2.o | exact (fun _ _ _ => rfl)) (by first | exact (fun y => ⟨hF2 _ _ (by omega) (by omega) (by omega), hF2 _ _ (by omega) (by omega) (by omega)⟩) | exact (fun _ => ⟨rfl, rfl⟩))
          · exfalso; exact absurd ((sI_m1 (o := some a) (fun c hc => by cases hc; omega)).mp c37) (by simp)
  exact lp2 _ 0 I rfl (by omega) hS.2.2.2.2.2 (by exact fun _ _ _ => rfl) (by exact fun x hx => absurd hx (Nat.not_lt_zero _))
