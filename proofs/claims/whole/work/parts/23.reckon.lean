/-! ===== the market: reckon ===== -/
theorem cnt_zero {s : Nat → Option Nat} {h : Nat} : ∀ {n : Nat}, cnt s h n = 0 → ∀ b, b < n → s b ≠ some h
  | 0, _, b, hb => absurd hb (Nat.not_lt_zero _)
  | n + 1, hc, b, hb => by
    unfold cnt at hc
    have h1 : cnt s h n = 0 := by omega
    by_cases e : b = n
    · subst e
      intro q
      rw [if_pos q] at hc
      omega
    · exact cnt_zero h1 b (by omega)
theorem isShop_e {d : Nat} {I : Im} {G : Gm} {t h : Nat} {E : Ec} (hT : isC8 G t) (ht : TrC I t E) (hh : h < eN E) : Ct (d + 2) 0 0 YX8_isShop [.ref t, .int (nI h)] (I, G) (qP (bz (cnt (eS E) h (eN E) = 0)) (I, G)) := by
  have h1 := cnt_le (eS E) h (eN E)
  have h2 := ht.2.1
  have e : bz (cnt (eS E) h (eN E) = 0) = bz (I (t + 4) h = 0) := bz_congr (by rw [ht.2.2.2.2.1 h hh, nI_z (by omega)])
  rw [e]
  exact isShop_ct hT ht.1 ht.2.1 hh
theorem prS_le {E : Ec} {q : Nat → Nat} {R : Rt2} {h b u : Nat} (hu : u ≤ 41) : prS E q R h b u ≤ 41 := by
  unfold prS
  split
  · exact hu
  · split
    · exact hvS_le _ _ 42 (by omega)
    · split
      · exact cmS_le _ _
      · exact bsF_le _ _
theorem MkC.keep {I I1 : Im} {mb : Nat} {E : Ec} (h : MkC I mb E) (hk : ∀ a k, mb ≤ a → a < mb + 3 → I1 a k = I a k) : MkC I1 mb E :=
  ⟨fun b hb => (hk _ _ (by omega) (by omega)).trans (h.1 b hb), h.2.1, (hk _ _ (by omega) (by omega)).trans h.2.2.1, (hk _ _ (by omega) (by omega)).trans h.2.2.2.1, h.2.2.2.2.1, (hk _ _ (by omega) (by omega)).trans h.2.2.2.2.2.1, (hk _ _ (by omega) (by omega)).trans h.2.2.2.2.2.2⟩
theorem TrC.keep {I I1 : Im} {t : Nat} {E : Ec} (h : TrC I t E) (hk : ∀ a k, t ≤ a → a < t + 14 → I1 a k = I a k) : TrC I1 t E :=
  ⟨(hk _ _ (by omega) (by omega)).trans h.1, h.2.1, fun b hb => (hk _ _ (by omega) (by omega)).trans (h.2.2.1 b hb), h.2.2.2.1, fun x hx => (hk _ _ (by omega) (by omega)).trans (h.2.2.2.2.1 x hx), fun x p hx hp => (hk _ _ (by omega) (by omega)).trans (h.2.2.2.2.2.1 x p hx hp), h.2.2.2.2.2.2⟩
theorem hvF_congr {E : Ec} {q : Nat → Nat} {R R' : Rt2} {b u : Nat} (h : ∀ x, R b (q (x + eC E b)) = R' b (q (x + eC E b))) : hvF E q R b u = hvF E q R' b u := by
  unfold hvF
  simp only [h]
theorem owF_congr {E : Ec} {q : Nat → Nat} {R R' : Rt2} {b u : Nat} (h : ∀ x, R b (q (x + eC E b)) = R' b (q (x + eC E b))) : owF E q R b u = owF E q R' b u := by
  unfold owF
  simp only [h]
/-- what reckon leaves -/
def RkQ (I : Im) (mb : Nat) (E : Ec) (h u : Nat) (I2 : Im) : Prop :=
  (∀ a k, ¬ (k = u ∧ (a = mb + 3 + 1 + h ∨ a = mb + 12 + 1 + h ∨ a = mb + 21 + 1 + h ∨ ∃ b, eS E b = some h ∧ a = mb + 30 + 1 + b)) → I2 a k = I a k) ∧ I2 (mb + 3 + 1 + h) u = (stp E rwF (tbR I mb) h u).1 ∧ I2 (mb + 12 + 1 + h) u = (stp E rwF (tbR I mb) h u).2 ∧
  (cnt (eS E) h (eN E) = 0 → I2 (mb + 21 + 1 + h) u = nI (askF (eW E h) (eK E) u)) ∧ (∀ b, eS E b = some h → I2 (mb + 30 + 1 + b) u = nI (prS E rwF (tbR I mb) h b u))

set_option maxRecDepth 100000 in
theorem reckon_ct {d : Nat} {I : Im} {G : Gm} {mb t : Nat} {E : Ec} (hM : isC5 G mb) (hT : isC8 G t) (hsp : mb + 44 ≤ t ∨ t + 18 ≤ mb) (hk : MkC I mb E) (ht : TrC I t E) {h u : Nat} (hh : h < eN E) (hu : u ≤ 41) : Ct (d + 4) 0 0 YX5_reckon [.ref mb, .ref t, .int (nI h), .int (nI u)] (I, G) (qV G (RkQ I mb E h u)) := by
  refine Ct.of (by decide) (by simp [Value.category]) (Nat.le_of_ble_eq_true rfl) ?_
  have hn8 := ht.2.1
  have hcp := hk.2.2.2.2.1
  have hal := askF_le (eW E h) (eK E) u
  show wp _ _ _ _ 0 [some (.ref mb), some (.ref t), some (.int (nI h)), some (.int (nI u)), none, none, none, none, none] [] _ _
  refine r_aload_n (pc := 0) dX5_reckon_0 rfl ?_
  refine r_iload_n (pc := 1) dX5_reckon_1 rfl ?_
  refine r_callV_P (pc := 2) (b := t) (As := [.int (nI h)]) 8 109 dX5_reckon_2 lk_X8_isShop (ml_RX5_109 rfl) im_X8_isShop se_X8_isShop (by decide) (c8_o hT) (Nat.le_of_ble_eq_true rfl) rfl (isShop_e hT ht (by omega)) ?_
  refine r_if_eq_b (pc := 5) (tgt := 77) dX5_reckon_5 (by decide) (fun c5 => ?_) (fun c5 => ?_)
  · skip
    have k108 : ∀ (cv : Int32), (cv = if eA E = true ∧ ¬ eH E = true then nI (cmF E rwF (tbR I mb) h u) else -1) → wp (d + 4) 0 0 YX5_reckon 108 [some (.ref mb), some (.ref t), some (.int (nI h)), some (.int (nI u)), none, none, none, none, none] [.int cv] (I, G) (qV G (RkQ I mb E h u)) := by
      intro cv hcv
      refine r_istore (pc := 108) (L' := [some (.ref mb), some (.ref t), some (.int (nI h)), some (.int (nI u)), some (.int cv), none, none, none, none]) dX5_reckon_108 (by decide) rfl rfl ?_
      refine r_iconst (pc := 110) (v := 0) dX5_reckon_110 (by decide) ?_
      refine r_istore (pc := 111) (L' := [some (.ref mb), some (.ref t), some (.int (nI h)), some (.int (nI u)), some (.int cv), some (.int (nI 0)), none, none, none]) dX5_reckon_111 (by decide) rfl rfl ?_
      refine r_iconst (pc := 113) (v := 0) dX5_reckon_113 (by decide) ?_
      refine r_istore (pc := 114) (L' := [some (.ref mb), some (.ref t), some (.int (nI h)), some (.int (nI u)), some (.int cv), some (.int (nI 0)), some (.int (nI 0)), none, none]) dX5_reckon_114 (by decide) rfl rfl ?_
      refine r_iload_n (pc := 116) dX5_reckon_116 rfl ?_
      refine r_iconst (pc := 117) (v := 1) dX5_reckon_117 (by decide) ?_
      refine r_iadd_n (pc := 118) (a := h) (b := 1) dX5_reckon_118 ?_
      refine r_istore (pc := 119) (L' := [some (.ref mb), some (.ref t), some (.int (nI h)), some (.int (nI u)), some (.int cv), some (.int (nI 0)), some (.int (nI 0)), some (.int (nI (h + 1))), none]) dX5_reckon_119 (by decide) rfl rfl ?_
      have lp121 : ∀ (n121 : Nat), ∀ (b : Nat) (tk : Int32) (gn : Int32) (I1 : Im), eN E - b = n121 → (h + 1 ≤ b ∧ b ≤ eN E) → (∀ a k, ¬ (k = u ∧ ∃ b', eS E b' = some h ∧ a = mb + 30 + 1 + b') → I1 a k = I a k) → (∀ b', b' < b → eS E b' = some h → I1 (mb + 30 + 1 + b') u = nI (prS E rwF (tbR I mb) h b' u)) → (tk = sm (fun b => if eS E b = some h then (tbR I mb b (rwF (prS E rwF (tbR I mb) h b u + eC E b))).1 else 0) b) → (gn = sm (fun b => if eS E b = some h then (nI (prS E rwF (tbR I mb) h b u) - nI u) * (tbR I mb b (rwF (prS E rwF (tbR I mb) h b u + eC E b))).1 else 0) b) → wp (d + 4) 0 0 YX5_reckon 121 [some (.ref mb), some (.ref t), some (.int (nI h)), some (.int (nI u)), some (.int cv), some (.int tk), some (.int gn), some (.int (nI b)), none] [] (I1, G) (qV G (RkQ I mb E h u)) := by
        intro n121
        induction n121 using Nat.strongRecOn with
        | ind n121 ih121 =>
          intro b tk gn I1 hmu121 hb hI1 hpy htk hgn
          have hk1 : MkC I1 mb E := hk.keep (fun a k h3 h4 => hI1 a k (by rintro ⟨_, z, hz, he⟩; omega))
          have ht1 : TrC I1 t E := ht.keep (fun a k h3 h4 => hI1 a k (by rintro ⟨_, z, hz, he⟩; have := ht.2.2.2.1 z h hz; omega))
          have hR1 : ∀ b' v, b' < 8 → tbR I1 mb b' v = tbR I mb b' v := fun b' v h3 => Prod.ext (hI1 _ _ (by rintro ⟨_, z, hz, he⟩; omega)) (hI1 _ _ (by rintro ⟨_, z, hz, he⟩; omega))
          refine r_iload (pc := 121) dX5_reckon_121 rfl ?_
          refine r_aload_n (pc := 123) dX5_reckon_123 rfl ?_
          refine r_getIv (pc := 124) 8 0 67 dX5_reckon_124 (fl_RX5_67 rfl) (by decide) rfl (c8_o hT) (v := nI (eN E)) (ht1.1) ?_
          refine r_icmp_ge_n (pc := 127) (a := b) (b := eN E) (tgt := 245) dX5_reckon_127 (by decide) (by omega) (by omega) (fun c127 => ?_) (fun c127 => ?_)
          · skip
            refine r_aload_n (pc := 245) dX5_reckon_245 rfl ?_
            refine r_get1 (pc := 246) 5 3 28 dX5_reckon_246 (fl_RX5_28 rfl) (by decide) rfl (c5_o hM) (c5_p3 hM) ?_
            refine r_iload_n (pc := 249) dX5_reckon_249 rfl ?_
            refine r_aald1_n (pc := 250) (i := h) 6 dX5_reckon_250 (by decide) (c5_a3 hM) (by decide) (by omega) (c5_q3 hM (by omega)) ?_
            refine r_iload_n (pc := 251) dX5_reckon_251 rfl ?_
            refine r_iload (pc := 252) dX5_reckon_252 rfl ?_
            refine r_iast_n (pc := 254) (i := u) (v := tk) dX5_reckon_254 (c5_r3 hM (by omega)) (by decide) (by omega) ?_
            refine r_aload_n (pc := 255) dX5_reckon_255 rfl ?_
            refine r_get1 (pc := 256) 5 4 31 dX5_reckon_256 (fl_RX5_31 rfl) (by decide) rfl (c5_o hM) (c5_p4 hM) ?_
            refine r_iload_n (pc := 259) dX5_reckon_259 rfl ?_
            refine r_aald1_n (pc := 260) (i := h) 6 dX5_reckon_260 (by decide) (c5_a4 hM) (by decide) (by omega) (c5_q4 hM (by omega)) ?_
            refine r_iload_n (pc := 261) dX5_reckon_261 rfl ?_
            refine r_iload (pc := 262) dX5_reckon_262 rfl ?_
            refine r_iast_n (pc := 264) (i := u) (v := gn) dX5_reckon_264 (c5_r4 hM (by omega)) (by decide) (by omega) ?_
            refine r_ret_v (pc := 265) dX5_reckon_265 rfl ?_
            have hbn : b = eN E := by omega
            subst hbn
            refine ⟨rfl, up2 (up2 I1 (mb + 3 + 1 + h) u tk) (mb + 12 + 1 + h) u gn, rfl, fun a k q => ?_, ?_, ?_, fun q => absurd q c5, fun b hb => ?_⟩
            · rw [up2_rd, up2_rd]
              · exact hI1 a k (fun z => q ⟨z.1, Or.inr (Or.inr (Or.inr z.2))⟩)
              all_goals (rcases Nat.decEq k u with z | z)
              all_goals first | exact Or.inr z | exact Or.inl (fun z2 => q ⟨z, by simp [z2]⟩)
            · rw [up2_rd (Or.inl (by omega)), up2_at, htk]; unfold stp; rw [if_neg c5]
            · rw [up2_at, hgn]; unfold stp; rw [if_neg c5]
            · have := ht.2.2.2.1 b h hb
              rw [up2_rd (Or.inl (by omega)), up2_rd (Or.inl (by omega))]; exact hpy b this.2 hb
          · skip
            refine r_aload_n (pc := 130) dX5_reckon_130 rfl ?_
            refine r_get1 (pc := 131) 8 3 106 dX5_reckon_131 (fl_RX5_106 rfl) (by decide) rfl (c8_o hT) (c8_p3 hT) ?_
            refine r_iload (pc := 134) dX5_reckon_134 rfl ?_
            refine r_iald_n (pc := 136) (i := b) dX5_reckon_136 (c8_a3 hT) (by decide) (by omega) (v := sI (eS E b)) (ht1.2.2.1 _ (by omega)) ?_
            refine r_iload_n (pc := 137) dX5_reckon_137 rfl ?_
            refine r_icmp_ne (pc := 138) (x := sI (eS E b)) (z := nI h) (tgt := 239) dX5_reckon_138 (by decide) (fun c138 => ?_) (fun c138 => ?_)
            · skip
              have hc1 : (fun b => if eS E b = some h then (tbR I mb b (rwF (prS E rwF (tbR I mb) h b u + eC E b))).1 else 0) b = 0 := if_neg (fun q => c138 ((sI_eq (by omega) (ht.lt b)).mpr q))
              have hc2 : (fun b => if eS E b = some h then (nI (prS E rwF (tbR I mb) h b u) - nI u) * (tbR I mb b (rwF (prS E rwF (tbR I mb) h b u + eC E b))).1 else 0) b = 0 := if_neg (fun q => c138 ((sI_eq (by omega) (ht.lt b)).mpr q))
              have hB1 := hI1
              have hB2 : ∀ b', b' < b + 1 → eS E b' = some h → I1 (mb + 30 + 1 + b') u = nI (prS E rwF (tbR I mb) h b' u) := fun b' h3 h4 => hpy b' ((Nat.lt_or_ge b' b).elim id (fun q => absurd ((sI_eq (by omega) (ht.lt b)).mpr ((show b' = b by omega) ▸ h4)) c138)) h4
              have hB3 : tk = sm (fun b => if eS E b = some h then (tbR I mb b (rwF (prS E rwF (tbR I mb) h b u + eC E b))).1 else 0) (b + 1) := by rw [show ∀ f k, sm f (k + 1) = sm f k + f k from fun _ _ => rfl, ← htk]; exact (Int32.add_zero _).symm.trans (congrArg (fun z => tk + z) hc1.symm)
              have hB4 : gn = sm (fun b => if eS E b = some h then (nI (prS E rwF (tbR I mb) h b u) - nI u) * (tbR I mb b (rwF (prS E rwF (tbR I mb) h b u + eC E b))).1 else 0) (b + 1) := by rw [show ∀ f k, sm f (k + 1) = sm f k + f k from fun _ _ => rfl, ← hgn]; exact (Int32.add_zero _).symm.trans (congrArg (fun z => gn + z) hc2.symm)
              refine r_iinc (pc := 239) (v := nI (b + 1)) (L' := [some (.ref mb), some (.ref t), some (.int (nI h)), some (.int (nI u)), some (.int cv), some (.int tk), some (.int gn), some (.int (nI (b + 1))), none]) dX5_reckon_239 rfl (nI_inc _) (by decide) rfl rfl ?_
              refine r_goto (pc := 242) (tgt := 121) dX5_reckon_242 (by decide) ?_
              exact ih121 _ (by omega) (b + 1) tk gn I1 rfl (by omega) hB1 hB2 hB3 hB4
            · skip
              have hsb : eS E b = some h := (sI_eq (by omega) (ht.lt b)).mp c138
              have k195 : ∀ (x : Nat), (x = prS E rwF (tbR I mb) h b u) → wp (d + 4) 0 0 YX5_reckon 195 [some (.ref mb), some (.ref t), some (.int (nI h)), some (.int (nI u)), some (.int cv), some (.int tk), some (.int gn), some (.int (nI b)), none] [.int (nI x)] (I1, G) (qV G (RkQ I mb E h u)) := by
                intro x hx
                refine r_istore (pc := 195) (L' := [some (.ref mb), some (.ref t), some (.int (nI h)), some (.int (nI u)), some (.int cv), some (.int tk), some (.int gn), some (.int (nI b)), some (.int (nI x))]) dX5_reckon_195 (by decide) rfl rfl ?_
                refine r_aload_n (pc := 197) dX5_reckon_197 rfl ?_
                refine r_get1 (pc := 198) 5 6 37 dX5_reckon_198 (fl_RX5_37 rfl) (by decide) rfl (c5_o hM) (c5_p6 hM) ?_
                refine r_iload (pc := 201) dX5_reckon_201 rfl ?_
                refine r_aald1_n (pc := 203) (i := b) 6 dX5_reckon_203 (by decide) (c5_a6 hM) (by decide) (by omega) (c5_q6 hM (by omega)) ?_
                refine r_iload_n (pc := 204) dX5_reckon_204 rfl ?_
                refine r_iload (pc := 205) dX5_reckon_205 rfl ?_
                refine r_iast_n (pc := 207) (i := u) (v := nI x) dX5_reckon_207 (c5_r6 hM (by omega)) (by decide) (by omega) ?_
                obtain ⟨I2, hI2⟩ : ∃ z : Im, z = up2 I1 (mb + 30 + 1 + b) u (nI x) := ⟨_, rfl⟩
                refine wp_M (M2 := (I2, G)) (by subst hI2; rfl) ?_
                have hxl : x ≤ 41 := by rw [hx]; exact prS_le hu
                have hI2' : ∀ a k, ¬ (k = u ∧ ∃ b', eS E b' = some h ∧ a = mb + 30 + 1 + b') → I2 a k = I a k := fun a k q => by rw [hI2, up2_rd ((Classical.em (a = mb + 30 + 1 + b)).elim (fun z => Or.inr (fun z2 => q ⟨z2, b, hsb, z⟩)) Or.inl)]; exact hI1 a k q
                have hk2 : MkC I2 mb E := hk.keep (fun a k h3 h4 => hI2' a k (by rintro ⟨_, z, hz, he⟩; omega))
                have ht2 : TrC I2 t E := ht.keep (fun a k h3 h4 => hI2' a k (by rintro ⟨_, z, hz, he⟩; have := ht.2.2.2.1 z h hz; omega))
                have hR2 : ∀ v, tbR I2 mb b v = tbR I mb b v := fun v => Prod.ext (hI2' _ _ (by rintro ⟨_, z, hz, he⟩; omega)) (hI2' _ _ (by rintro ⟨_, z, hz, he⟩; omega))
                have hB1 := hI2'
                have hB2 : ∀ b', b' < b + 1 → eS E b' = some h → I2 (mb + 30 + 1 + b') u = nI (prS E rwF (tbR I mb) h b' u) := fun b' h3 h4 => by
                  rcases Nat.decEq b' b with q | q
                  · rw [hI2, up2_rd (Or.inl (by omega))]; exact hpy b' (by omega) h4
                  · rw [q, hI2, up2_at, hx]
                have hB3 : tk + (tbR I2 mb b (rwF (x + eC E b))).1 = sm (fun b => if eS E b = some h then (tbR I mb b (rwF (prS E rwF (tbR I mb) h b u + eC E b))).1 else 0) (b + 1) := by rw [show ∀ f k, sm f (k + 1) = sm f k + f k from fun _ _ => rfl, ← htk, hR2, hx]; exact congrArg (fun z => tk + z) (if_pos hsb).symm
                have hB4 : gn + (nI x - nI u) * (tbR I2 mb b (rwF (x + eC E b))).1 = sm (fun b => if eS E b = some h then (nI (prS E rwF (tbR I mb) h b u) - nI u) * (tbR I mb b (rwF (prS E rwF (tbR I mb) h b u + eC E b))).1 else 0) (b + 1) := by rw [show ∀ f k, sm f (k + 1) = sm f k + f k from fun _ _ => rfl, ← hgn, hR2, hx]; exact congrArg (fun z => gn + z) (if_pos hsb).symm
                refine r_iload (pc := 208) dX5_reckon_208 rfl ?_
                refine r_aload_n (pc := 210) dX5_reckon_210 rfl ?_
                refine r_iload (pc := 211) dX5_reckon_211 rfl ?_
                refine r_iload (pc := 213) dX5_reckon_213 rfl ?_
                refine r_callV_P (pc := 215) (b := mb) (As := [.int (nI b), .int (nI x)]) 5 140 dX5_reckon_215 lk_X5_takesAt (ml_RX5_140 rfl) im_X5_takesAt se_X5_takesAt (by decide) (c5_o hM) (Nat.le_of_ble_eq_true rfl) rfl (takesAt_ct hM hk2 (by omega) (by omega) (by omega)) ?_
                refine r_iadd (pc := 218) (x := tk) (z := (tbR I2 mb b (rwF (x + eC E b))).1) dX5_reckon_218 ?_
                refine r_istore (pc := 219) (L' := [some (.ref mb), some (.ref t), some (.int (nI h)), some (.int (nI u)), some (.int cv), some (.int (tk + ((tbR I2 mb b (rwF (x + eC E b))).1))), some (.int gn), some (.int (nI b)), some (.int (nI x))]) dX5_reckon_219 (by decide) rfl rfl ?_
                refine r_iload (pc := 221) dX5_reckon_221 rfl ?_
                refine r_iload (pc := 223) dX5_reckon_223 rfl ?_
                refine r_iload_n (pc := 225) dX5_reckon_225 rfl ?_
                refine r_isub (pc := 226) (x := nI x) (z := nI u) dX5_reckon_226 ?_
                refine r_aload_n (pc := 227) dX5_reckon_227 rfl ?_
                refine r_iload (pc := 228) dX5_reckon_228 rfl ?_
                refine r_iload (pc := 230) dX5_reckon_230 rfl ?_
                refine r_callV_P (pc := 232) (b := mb) (As := [.int (nI b), .int (nI x)]) 5 140 dX5_reckon_232 lk_X5_takesAt (ml_RX5_140 rfl) im_X5_takesAt se_X5_takesAt (by decide) (c5_o hM) (Nat.le_of_ble_eq_true rfl) rfl (takesAt_ct hM hk2 (by omega) (by omega) (by omega)) ?_
                refine r_imul (pc := 235) (x := (nI x) - (nI u)) (z := (tbR I2 mb b (rwF (x + eC E b))).1) dX5_reckon_235 ?_
                refine r_iadd (pc := 236) (x := gn) (z := ((nI x) - (nI u)) * ((tbR I2 mb b (rwF (x + eC E b))).1)) dX5_reckon_236 ?_
                refine r_istore (pc := 237) (L' := [some (.ref mb), some (.ref t), some (.int (nI h)), some (.int (nI u)), some (.int cv), some (.int (tk + ((tbR I2 mb b (rwF (x + eC E b))).1))), some (.int (gn + (((nI x) - (nI u)) * ((tbR I2 mb b (rwF (x + eC E b))).1)))), some (.int (nI b)), some (.int (nI x))]) dX5_reckon_237 (by decide) rfl rfl ?_
                refine r_iinc (pc := 239) (v := nI (b + 1)) (L' := [some (.ref mb), some (.ref t), some (.int (nI h)), some (.int (nI u)), some (.int cv), some (.int (tk + ((tbR I2 mb b (rwF (x + eC E b))).1))), some (.int (gn + (((nI x) - (nI u)) * ((tbR I2 mb b (rwF (x + eC E b))).1)))), some (.int (nI (b + 1))), some (.int (nI x))]) dX5_reckon_239 rfl (nI_inc _) (by decide) rfl rfl ?_
                refine r_goto (pc := 242) (tgt := 121) dX5_reckon_242 (by decide) ?_
                refine wp_sub [some (.ref mb), some (.ref t), some (.int (nI h)), some (.int (nI u)), some (.int cv), some (.int (tk + ((tbR I2 mb b (rwF (x + eC E b))).1))), some (.int (gn + (((nI x) - (nI u)) * ((tbR I2 mb b (rwF (x + eC E b))).1)))), some (.int (nI (b + 1))), none] ⟨rfl, ⟨rfl, ⟨rfl, ⟨rfl, ⟨rfl, ⟨rfl, ⟨rfl, ⟨rfl, trivial⟩⟩⟩⟩⟩⟩⟩⟩ ?_
                exact ih121 _ (by omega) (b + 1) (tk + ((tbR I2 mb b (rwF (x + eC E b))).1)) (gn + (((nI x) - (nI u)) * ((tbR I2 mb b (rwF (x + eC E b))).1))) I2 rfl (by omega) hB1 hB2 hB3 hB4
              refine r_aload_n (pc := 141) dX5_reckon_141 rfl ?_
              refine r_get1 (pc := 142) 5 1 18 dX5_reckon_142 (fl_RX5_18 rfl) (by decide) rfl (c5_o hM) (c5_p1 hM) ?_
              refine r_iload (pc := 145) dX5_reckon_145 rfl ?_
              refine r_callV_P (pc := 147) (b := mb + 1) (As := [.int (nI b)]) 7 102 dX5_reckon_147 lk_X7_joins (ml_RX5_102 rfl) im_X7_joins se_X7_joins (by decide) (c7_o (c5_s1 hM)) (Nat.le_of_ble_eq_true rfl) rfl (joins_e (c5_s1 hM) hk1.2.2.1) ?_
              refine r_if_eq_b (pc := 150) (tgt := 157) dX5_reckon_150 (by decide) (fun c150 => ?_) (fun c150 => ?_)
              · skip
                refine r_aload_n (pc := 157) dX5_reckon_157 rfl ?_
                refine r_get1 (pc := 158) 5 1 18 dX5_reckon_158 (fl_RX5_18 rfl) (by decide) rfl (c5_o hM) (c5_p1 hM) ?_
                refine r_getIv (pc := 161) 7 3 126 dX5_reckon_161 (fl_RX5_126 rfl) (by decide) rfl (c7_o (c5_s1 hM)) (v := bz (eH E = true)) (hk1.2.2.2.2.2.2) ?_
                refine r_if_eq_b (pc := 164) (tgt := 177) dX5_reckon_164 (by decide) (fun c164 => ?_) (fun c164 => ?_)
                · skip
                  refine r_iload (pc := 177) dX5_reckon_177 rfl ?_
                  refine r_iconst (pc := 179) (v := -1) dX5_reckon_179 (by decide) ?_
                  refine r_icmp_ne (pc := 180) (x := cv) (z := (-1)) (tgt := 193) dX5_reckon_180 (by decide) (fun c180 => ?_) (fun c180 => ?_)
                  · skip
                    have hea : eA E = true := Decidable.byContradiction (fun q => c180 (by rw [hcv, if_neg (fun z => q z.1)]))
                    have hcv2 : cv = nI (cmF E rwF (tbR I mb) h u) := by rw [hcv, if_pos ⟨hea, c164⟩]
                    have hxx : cmF E rwF (tbR I mb) h u = prS E rwF (tbR I mb) h b u := by unfold prS; rw [if_neg c150, if_neg c164, if_pos hea]
                    refine r_iload (pc := 193) dX5_reckon_193 rfl ?_
                    refine wp_S (st2 := [.int (nI (cmF E rwF (tbR I mb) h u))]) (by rw [hcv2]) ?_
                    exact k195 (cmF E rwF (tbR I mb) h u) hxx
                  · skip
                    have hna : ¬ eA E = true := fun q => by
                      rw [hcv, if_pos ⟨q, c164⟩] at c180
                      have := (sI_m1 (o := some (cmF E rwF (tbR I mb) h u)) (fun c hc => by cases hc; have := cmS_le (fun x => (nI x - nI u) * cmT E rwF (tbR I mb) h x) 41; unfold cmF; omega)).mp c180
                      cases this
                    have hxx : owF E rwF (tbR I1 mb) b u = prS E rwF (tbR I mb) h b u := by unfold prS; rw [if_neg c150, if_neg c164, if_neg hna]; exact owF_congr (fun x => hR1 b _ (by omega))
                    refine r_aload_n (pc := 183) dX5_reckon_183 rfl ?_
                    refine r_iload (pc := 184) dX5_reckon_184 rfl ?_
                    refine r_iload_n (pc := 186) dX5_reckon_186 rfl ?_
                    refine r_callV_P (pc := 187) (b := mb) (As := [.int (nI b), .int (nI u)]) 5 137 dX5_reckon_187 lk_X5_ownPrice (ml_RX5_137 rfl) im_X5_ownPrice se_X5_ownPrice (by decide) (c5_o hM) (Nat.le_of_ble_eq_true rfl) rfl (ownPrice_ct hM hk1 (by omega) (by omega) (by omega)) ?_
                    refine r_goto (pc := 190) (tgt := 195) dX5_reckon_190 (by decide) ?_
                    exact k195 (owF E rwF (tbR I1 mb) b u) hxx
                · skip
                  have hxx : hvF E rwF (tbR I1 mb) b u = prS E rwF (tbR I mb) h b u := by unfold prS; rw [if_neg c150, if_pos c164]; exact hvF_congr (fun x => hR1 b _ (by omega))
                  refine r_aload_n (pc := 167) dX5_reckon_167 rfl ?_
                  refine r_iload (pc := 168) dX5_reckon_168 rfl ?_
                  refine r_iload_n (pc := 170) dX5_reckon_170 rfl ?_
                  refine r_callV_P (pc := 171) (b := mb) (As := [.int (nI b), .int (nI u)]) 5 133 dX5_reckon_171 lk_X5_halvedPrice (ml_RX5_133 rfl) im_X5_halvedPrice se_X5_halvedPrice (by decide) (c5_o hM) (Nat.le_of_ble_eq_true rfl) rfl (halvedPrice_ct hM hk1 (by omega) (by omega) (by omega)) ?_
                  refine r_goto (pc := 174) (tgt := 195) dX5_reckon_174 (by decide) ?_
                  exact k195 (hvF E rwF (tbR I1 mb) b u) hxx
              · skip
                have hxx : u = prS E rwF (tbR I mb) h b u := (if_pos c150).symm
                refine r_iload_n (pc := 153) dX5_reckon_153 rfl ?_
                refine r_goto (pc := 154) (tgt := 195) dX5_reckon_154 (by decide) ?_
                exact k195 u hxx
      exact lp121 _ (h + 1) 0 0 I rfl (by omega) (by exact fun _ _ _ => rfl) (by exact fun b' hb' hs => absurd (ht.2.2.2.1 b' h hs) (by omega)) (by exact (sm_from (fun k hk3 => if_neg (fun q => by have := ht.2.2.2.1 k h q; omega))).symm) (by exact (sm_from (fun k hk3 => if_neg (fun q => by have := ht.2.2.2.1 k h q; omega))).symm)
    refine r_aload_n (pc := 77) dX5_reckon_77 rfl ?_
    refine r_get1 (pc := 78) 5 1 18 dX5_reckon_78 (fl_RX5_18 rfl) (by decide) rfl (c5_o hM) (c5_p1 hM) ?_
    refine r_getIv (pc := 81) 7 2 122 dX5_reckon_81 (fl_RX5_122 rfl) (by decide) rfl (c7_o (c5_s1 hM)) (v := bz (eA E = true)) (hk.2.2.2.2.2.1) ?_
    refine r_if_eq_b (pc := 84) (tgt := 107) dX5_reckon_84 (by decide) (fun c84 => ?_) (fun c84 => ?_)
    · skip
      have hcvv : (-1 : Int32) = if eA E = true ∧ ¬ eH E = true then nI (cmF E rwF (tbR I mb) h u) else -1 := (if_neg (fun q => c84 q.1)).symm
      refine r_iconst (pc := 107) (v := -1) dX5_reckon_107 (by decide) ?_
      exact k108 (-1) hcvv
    · skip
      refine r_aload_n (pc := 87) dX5_reckon_87 rfl ?_
      refine r_get1 (pc := 88) 5 1 18 dX5_reckon_88 (fl_RX5_18 rfl) (by decide) rfl (c5_o hM) (c5_p1 hM) ?_
      refine r_getIv (pc := 91) 7 3 126 dX5_reckon_91 (fl_RX5_126 rfl) (by decide) rfl (c7_o (c5_s1 hM)) (v := bz (eH E = true)) (hk.2.2.2.2.2.2) ?_
      refine r_if_ne_b (pc := 94) (tgt := 107) dX5_reckon_94 (by decide) (fun c94 => ?_) (fun c94 => ?_)
      · skip
        have hcvv : (-1 : Int32) = if eA E = true ∧ ¬ eH E = true then nI (cmF E rwF (tbR I mb) h u) else -1 := (if_neg (fun q => q.2 c94)).symm
        refine r_iconst (pc := 107) (v := -1) dX5_reckon_107 (by decide) ?_
        exact k108 (-1) hcvv
      · skip
        have hcvv : nI (cmF E rwF (tbR I mb) h u) = if eA E = true ∧ ¬ eH E = true then nI (cmF E rwF (tbR I mb) h u) else -1 := (if_pos ⟨c84, c94⟩).symm
        refine r_aload_n (pc := 97) dX5_reckon_97 rfl ?_
        refine r_aload_n (pc := 98) dX5_reckon_98 rfl ?_
        refine r_iload_n (pc := 99) dX5_reckon_99 rfl ?_
        refine r_iload_n (pc := 100) dX5_reckon_100 rfl ?_
        refine r_callV_P (pc := 101) (b := mb) (As := [.ref t, .int (nI h), .int (nI u)]) 5 129 dX5_reckon_101 lk_X5_commonPrice (ml_RX5_129 rfl) im_X5_commonPrice se_X5_commonPrice (by decide) (c5_o hM) (Nat.le_of_ble_eq_true rfl) rfl (commonPrice_ct hM hk hT ht (by omega) (by omega)) ?_
        refine r_goto (pc := 104) (tgt := 108) dX5_reckon_104 (by decide) ?_
        exact k108 (nI (cmF E rwF (tbR I mb) h u)) hcvv
  · skip
    refine r_aload_n (pc := 8) dX5_reckon_8 rfl ?_
    refine r_get1 (pc := 9) 8 6 112 dX5_reckon_9 (fl_RX5_112 rfl) (by decide) rfl (c8_o hT) (c8_p6 hT) ?_
    refine r_iload_n (pc := 12) dX5_reckon_12 rfl ?_
    refine r_aald1_n (pc := 13) (i := h) 6 dX5_reckon_13 (by decide) (c8_a6 hT) (by decide) (by omega) (c8_q6 hT (by omega)) ?_
    refine r_aload_n (pc := 14) dX5_reckon_14 rfl ?_
    refine r_get1 (pc := 15) 5 1 18 dX5_reckon_15 (fl_RX5_18 rfl) (by decide) rfl (c5_o hM) (c5_p1 hM) ?_
    refine r_getIv (pc := 18) 7 1 115 dX5_reckon_18 (fl_RX5_115 rfl) (by decide) rfl (c7_o (c5_s1 hM)) (v := nI (eK E)) (hk.2.2.2.1) ?_
    refine r_iload_n (pc := 21) dX5_reckon_21 rfl ?_
    refine r_callSN_P (pc := 22) (As := [.ref (t + 5 + 1 + h), .int (nI (eK E)), .int (nI u)]) 118 dX5_reckon_22 lk_X9_bestPrice (nl_RX5_118 rfl) sm_X9_bestPrice (Nat.le_of_ble_eq_true rfl) rfl (bestPrice_ct (w := eW E h) (c8_r6 hT (by omega)) (fun p hp => ht.2.2.2.2.2.1 _ p (by omega) hp) hk.2.2.2.2.1 (by omega)) ?_
    refine r_istore (pc := 25) (L' := [some (.ref mb), some (.ref t), some (.int (nI h)), some (.int (nI u)), some (.int (nI (askF (eW E h) (eK E) u))), none, none, none, none]) dX5_reckon_25 (by decide) rfl rfl ?_
    refine r_aload_n (pc := 27) dX5_reckon_27 rfl ?_
    refine r_get1 (pc := 28) 5 5 34 dX5_reckon_28 (fl_RX5_34 rfl) (by decide) rfl (c5_o hM) (c5_p5 hM) ?_
    refine r_iload_n (pc := 31) dX5_reckon_31 rfl ?_
    refine r_aald1_n (pc := 32) (i := h) 6 dX5_reckon_32 (by decide) (c5_a5 hM) (by decide) (by omega) (c5_q5 hM (by omega)) ?_
    refine r_iload_n (pc := 33) dX5_reckon_33 rfl ?_
    refine r_iload (pc := 34) dX5_reckon_34 rfl ?_
    refine r_iast_n (pc := 36) (i := u) (v := nI (askF (eW E h) (eK E) u)) dX5_reckon_36 (c5_r5 hM (by omega)) (by decide) (by omega) ?_
    refine r_aload_n (pc := 37) dX5_reckon_37 rfl ?_
    refine r_get1 (pc := 38) 5 3 28 dX5_reckon_38 (fl_RX5_28 rfl) (by decide) rfl (c5_o hM) (c5_p3 hM) ?_
    refine r_iload_n (pc := 41) dX5_reckon_41 rfl ?_
    refine r_aald1_n (pc := 42) (i := h) 6 dX5_reckon_42 (by decide) (c5_a3 hM) (by decide) (by omega) (c5_q3 hM (by omega)) ?_
    refine r_iload_n (pc := 43) dX5_reckon_43 rfl ?_
    refine r_aload_n (pc := 44) dX5_reckon_44 rfl ?_
    refine r_get1 (pc := 45) 8 6 112 dX5_reckon_45 (fl_RX5_112 rfl) (by decide) rfl (c8_o hT) (c8_p6 hT) ?_
    refine r_iload_n (pc := 48) dX5_reckon_48 rfl ?_
    refine r_aald1_n (pc := 49) (i := h) 6 dX5_reckon_49 (by decide) (c8_a6 hT) (by decide) (by omega) (c8_q6 hT (by omega)) ?_
    refine r_iload (pc := 50) dX5_reckon_50 rfl ?_
    refine r_iald_n (pc := 52) (i := askF (eW E h) (eK E) u) dX5_reckon_52 (c8_r6 hT (by omega)) (by decide) (by have := askF_le (eW E h) (eK E) u; omega) (v := nI (eW E h (askF (eW E h) (eK E) u))) ((up2_rd (by omega)).trans (ht.2.2.2.2.2.1 _ _ (by omega) (by omega))) ?_
    refine r_iast_n (pc := 53) (i := u) (v := nI (eW E h (askF (eW E h) (eK E) u))) dX5_reckon_53 (c5_r3 hM (by omega)) (by decide) (by omega) ?_
    refine r_aload_n (pc := 54) dX5_reckon_54 rfl ?_
    refine r_get1 (pc := 55) 5 4 31 dX5_reckon_55 (fl_RX5_31 rfl) (by decide) rfl (c5_o hM) (c5_p4 hM) ?_
    refine r_iload_n (pc := 58) dX5_reckon_58 rfl ?_
    refine r_aald1_n (pc := 59) (i := h) 6 dX5_reckon_59 (by decide) (c5_a4 hM) (by decide) (by omega) (c5_q4 hM (by omega)) ?_
    refine r_iload_n (pc := 60) dX5_reckon_60 rfl ?_
    refine r_iload (pc := 61) dX5_reckon_61 rfl ?_
    refine r_iload_n (pc := 63) dX5_reckon_63 rfl ?_
    refine r_isub (pc := 64) (x := nI (askF (eW E h) (eK E) u)) (z := nI u) dX5_reckon_64 ?_
    refine r_aload_n (pc := 65) dX5_reckon_65 rfl ?_
    refine r_get1 (pc := 66) 8 6 112 dX5_reckon_66 (fl_RX5_112 rfl) (by decide) rfl (c8_o hT) (c8_p6 hT) ?_
    refine r_iload_n (pc := 69) dX5_reckon_69 rfl ?_
    refine r_aald1_n (pc := 70) (i := h) 6 dX5_reckon_70 (by decide) (c8_a6 hT) (by decide) (by omega) (c8_q6 hT (by omega)) ?_
    refine r_iload (pc := 71) dX5_reckon_71 rfl ?_
    refine r_iald_n (pc := 73) (i := askF (eW E h) (eK E) u) dX5_reckon_73 (c8_r6 hT (by omega)) (by decide) (by have := askF_le (eW E h) (eK E) u; omega) (v := nI (eW E h (askF (eW E h) (eK E) u))) ((up2_rd (by omega)).trans ((up2_rd (by omega)).trans (ht.2.2.2.2.2.1 _ _ (by omega) (by omega)))) ?_
    refine r_imul (pc := 74) (x := (nI (askF (eW E h) (eK E) u)) - (nI u)) (z := nI (eW E h (askF (eW E h) (eK E) u))) dX5_reckon_74 ?_
    refine r_iast_n (pc := 75) (i := u) (v := ((nI (askF (eW E h) (eK E) u)) - (nI u)) * (nI (eW E h (askF (eW E h) (eK E) u)))) dX5_reckon_75 (c5_r4 hM (by omega)) (by decide) (by omega) ?_
    refine r_ret_v (pc := 76) dX5_reckon_76 rfl ?_
    refine ⟨rfl, up2 (up2 (up2 I (mb + 21 + 1 + h) u (nI (askF (eW E h) (eK E) u))) (mb + 3 + 1 + h) u (nI (eW E h (askF (eW E h) (eK E) u)))) (mb + 12 + 1 + h) u (((nI (askF (eW E h) (eK E) u)) - (nI u)) * (nI (eW E h (askF (eW E h) (eK E) u)))), rfl, fun a k q => ?_, ?_, ?_, fun _ => ?_, fun b hb => absurd hb (cnt_zero c5 b (ht.2.2.2.1 b h hb).2)⟩
    · rw [up2_rd, up2_rd, up2_rd]
      all_goals (rcases Nat.decEq k u with z | z)
      all_goals first | exact Or.inr z | exact Or.inl (fun z2 => q ⟨z, by simp [z2]⟩)
    · rw [up2_rd (Or.inl (by omega)), up2_at]; unfold stp; rw [if_pos c5]
    · rw [up2_at]; unfold stp; rw [if_pos c5]
    · rw [up2_rd (Or.inl (by omega)), up2_rd (Or.inl (by omega)), up2_at]
