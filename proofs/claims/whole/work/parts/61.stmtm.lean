/-! ===== statements and whole texts: the reference ===== -/
def MdC (I : Im) (m k : Nat) (D : Dr) : Prop := I (m + 2) k = nI (dN D) ∧ (∀ h, h < 8 → I (m + 3) (8 * k + h) = nI (dC D h) ∧ I (m + 4) (8 * k + h) = sI (dS D h) ∧ I (m + 5) (8 * k + h) = nI (dE D h)) ∧ I (m + 6) k = nI (dT D).1 ∧ ∀ i, i < (dT D).1 → I (m + 7) (20 * k + i) = nI ((dT D).2.1 i) ∧ I (m + 8) (20 * k + i) = nI ((dT D).2.2.1 i) ∧ I (m + 9) (20 * k + i) = nI ((dT D).2.2.2 i)
/-- all but the row that is read, and the reader's own numbers -/
def FrP (I I2 : Im) (m k : Nat) : Prop := ∀ c j, ¬ (c = m ∧ (j = 3 ∨ j = 4 ∨ j = 5)) → ¬ (c = m + 2 ∧ j = k) → ¬ (m + 3 ≤ c ∧ c ≤ m + 5 ∧ 8 * k ≤ j ∧ j < 8 * k + 8) → ¬ (c = m + 6 ∧ j = k) → ¬ (m + 7 ≤ c ∧ c ≤ m + 9 ∧ 20 * k ≤ j ∧ j < 20 * k + 20) → I2 c j = I c j
theorem FrN.p {I I2 : Im} {m k : Nat} (h : FrN I I2 m) : FrP I I2 m k := fun c j g _ _ _ _ => h c j g
theorem FrP.tr {I I2 I3 : Im} {m k : Nat} (h : FrP I I2 m k) (h2 : FrP I2 I3 m k) : FrP I I3 m k := fun c j g1 g2 g3 g4 g5 => (h2 c j g1 g2 g3 g4 g5).trans (h c j g1 g2 g3 g4 g5)
theorem TpM.keepP {I I2 : Im} {m k : Nat} {T : Tp} (h : TpM I m T) (hf : FrP I I2 m k) : TpM I2 m T := ⟨(hf _ _ (by omega) (by omega) (by omega) (by omega) (by omega)).trans h.1, h.2.1, fun i hi => by rw [hf _ _ (by omega) (by omega) (by omega) (by omega) (by omega)]; exact h.2.2.1 i hi, h.2.2.2⟩
theorem MdC.keep {I I2 : Im} {m k : Nat} {D : Dr} (h : MdC I m k D) (hf : ∀ c j, m + 2 ≤ c → c ≤ m + 9 → ¬ (m + 7 ≤ c ∧ c ≤ m + 9 ∧ 20 * k + (dT D).1 ≤ j) → I2 c j = I c j) : MdC I2 m k D :=
  ⟨(hf _ _ (by omega) (by omega) (by omega)).trans h.1, fun x hx => ⟨(hf _ _ (by omega) (by omega) (by omega)).trans (h.2.1 x hx).1, (hf _ _ (by omega) (by omega) (by omega)).trans (h.2.1 x hx).2.1, (hf _ _ (by omega) (by omega) (by omega)).trans (h.2.1 x hx).2.2⟩, (hf _ _ (by omega) (by omega) (by omega)).trans h.2.2.1, fun i hi => ⟨(hf _ _ (by omega) (by omega) (by omega)).trans (h.2.2.2 i hi).1, (hf _ _ (by omega) (by omega) (by omega)).trans (h.2.2.2 i hi).2.1, (hf _ _ (by omega) (by omega) (by omega)).trans (h.2.2.2 i hi).2.2⟩⟩
theorem MdC.n {I I2 : Im} {m k : Nat} {D : Dr} (h : MdC I m k D) (hf : FrN I I2 m) : MdC I2 m k D := h.keep (fun c j h1 h2 _ => hf c j (by omega))
theorem MdC.cost {I I2 : Im} {m k : Nat} {D : Dr} {x v : Nat} (h : MdC I m k D) (h1 : I2 (m + 3) (8 * k + x) = nI v) (hf : ∀ c j, ¬ (c = m + 3 ∧ j = 8 * k + x) → ¬ (c = m ∧ (j = 3 ∨ j = 4 ∨ j = 5)) → I2 c j = I c j) : MdC I2 m k (dCost D x v) := by
  refine ⟨(hf _ _ (by omega) (by omega)).trans h.1, fun y hy => ⟨?_, (hf _ _ (by omega) (by omega)).trans (h.2.1 y hy).2.1, (hf _ _ (by omega) (by omega)).trans (h.2.1 y hy).2.2⟩, (hf _ _ (by omega) (by omega)).trans h.2.2.1, fun i hi => ⟨(hf _ _ (by omega) (by omega)).trans (h.2.2.2 i hi).1, (hf _ _ (by omega) (by omega)).trans (h.2.2.2 i hi).2.1, (hf _ _ (by omega) (by omega)).trans (h.2.2.2 i hi).2.2⟩⟩
  show _ = nI (fu (dC D) x v y)
  by_cases e : y = x
  · rw [e, h1, fu_at]
  · rw [hf _ _ (by omega) (by omega), fu_ne e]
    exact (h.2.1 y hy).1
theorem MdC.els {I I2 : Im} {m k : Nat} {D : Dr} {x v : Nat} (h : MdC I m k D) (h1 : I2 (m + 5) (8 * k + x) = nI v) (hf : ∀ c j, ¬ (c = m + 5 ∧ j = 8 * k + x) → ¬ (c = m ∧ (j = 3 ∨ j = 4 ∨ j = 5)) → I2 c j = I c j) : MdC I2 m k (dElse D x v) := by
  refine ⟨(hf _ _ (by omega) (by omega)).trans h.1, fun y hy => ⟨(hf _ _ (by omega) (by omega)).trans (h.2.1 y hy).1, (hf _ _ (by omega) (by omega)).trans (h.2.1 y hy).2.1, ?_⟩, (hf _ _ (by omega) (by omega)).trans h.2.2.1, fun i hi => ⟨(hf _ _ (by omega) (by omega)).trans (h.2.2.2 i hi).1, (hf _ _ (by omega) (by omega)).trans (h.2.2.2 i hi).2.1, (hf _ _ (by omega) (by omega)).trans (h.2.2.2 i hi).2.2⟩⟩
  show _ = nI (fu (dE D) x v y)
  by_cases e : y = x
  · rw [e, h1, fu_at]
  · rw [hf _ _ (by omega) (by omega), fu_ne e]
    exact (h.2.1 y hy).2.2
theorem MdC.buy {I I2 : Im} {m k : Nat} {D : Dr} {x y : Nat} (h : MdC I m k D) (h1 : I2 (m + 4) (8 * k + y) = nI x) (hf : ∀ c j, ¬ (c = m + 4 ∧ j = 8 * k + y) → ¬ (c = m ∧ (j = 3 ∨ j = 4 ∨ j = 5)) → I2 c j = I c j) : MdC I2 m k (dBuy D x y) := by
  refine ⟨(hf _ _ (by omega) (by omega)).trans h.1, fun z hz => ⟨(hf _ _ (by omega) (by omega)).trans (h.2.1 z hz).1, ?_, (hf _ _ (by omega) (by omega)).trans (h.2.1 z hz).2.2⟩, (hf _ _ (by omega) (by omega)).trans h.2.2.1, fun i hi => ⟨(hf _ _ (by omega) (by omega)).trans (h.2.2.2 i hi).1, (hf _ _ (by omega) (by omega)).trans (h.2.2.2 i hi).2.1, (hf _ _ (by omega) (by omega)).trans (h.2.2.2 i hi).2.2⟩⟩
  show _ = sI (fu (dS D) y (some x) z)
  by_cases e : z = y
  · rw [e, h1, fu_at]
    rfl
  · rw [hf _ _ (by omega) (by omega), fu_ne e]
    exact (h.2.1 z hz).2.1
theorem MdC.lot {I I2 : Im} {m k : Nat} {D : Dr} {x p q : Nat} (h : MdC I m k D) (h1 : I2 (m + 6) k = nI ((dT D).1 + 1)) (h7 : I2 (m + 7) (20 * k + (dT D).1) = nI x) (h8 : I2 (m + 8) (20 * k + (dT D).1) = nI p) (h9 : I2 (m + 9) (20 * k + (dT D).1) = nI q) (hf : ∀ c j, ¬ (c = m + 6 ∧ j = k) → ¬ (m + 7 ≤ c ∧ c ≤ m + 9 ∧ j = 20 * k + (dT D).1) → ¬ (c = m ∧ (j = 3 ∨ j = 4 ∨ j = 5)) → I2 c j = I c j) : MdC I2 m k (dLot D x p q) := by
  refine ⟨(hf _ _ (by omega) (by omega) (by omega)).trans h.1, fun z hz => ⟨(hf _ _ (by omega) (by omega) (by omega)).trans (h.2.1 z hz).1, (hf _ _ (by omega) (by omega) (by omega)).trans (h.2.1 z hz).2.1, (hf _ _ (by omega) (by omega) (by omega)).trans (h.2.1 z hz).2.2⟩, h1, fun i hi => ?_⟩
  show I2 (m + 7) (20 * k + i) = nI (fu (dT D).2.1 (dT D).1 x i) ∧ I2 (m + 8) (20 * k + i) = nI (fu (dT D).2.2.1 (dT D).1 p i) ∧ I2 (m + 9) (20 * k + i) = nI (fu (dT D).2.2.2 (dT D).1 q i)
  have hi : i < (dT D).1 + 1 := hi
  by_cases e : i = (dT D).1
  · rw [e, fu_at, fu_at, fu_at]
    exact ⟨h7, h8, h9⟩
  · rw [fu_ne e, fu_ne e, fu_ne e]
    have q0 := h.2.2.2 i (by omega)
    exact ⟨(hf _ _ (by omega) (by omega) (by omega)).trans q0.1, (hf _ _ (by omega) (by omega) (by omega)).trans q0.2.1, (hf _ _ (by omega) (by omega) (by omega)).trans q0.2.2⟩

set_option maxRecDepth 100000 in
theorem readTold_ct {d : Nat} {I : Im} {G : Gm} {m k : Nat} {T : Tp} {D : Dr} (hm : isC10 G m) (hT : TpM I m T) {a : Nat} (ha : I m 3 = nI a) (hal : a ≤ T.1) (hw : I m 4 = -1) (hk : k ≤ 10) (hD : MdC I m k D) (hDk : DrOK D) {ra mx : Nat} (hra : ar (I, G) ra 1 88) (hram : ra ≠ m) (hmx : mx ≤ 99) : Ct (d + 4) 0 0 YX10_readTold [.ref m, .int (nI k), .ref ra, .int (nI mx)] (I, G) (qM G (fun v I2 => (∃ f, (∀ K : Nat → Nat → Nat → Sr, bn (cN T 0 (dN D - 1) nob a) (fun h a1 => bn (cN T 0 mx nob a1) (K h)) = .inl f) ∧ v = 0 ∧ I2 m 4 = nI f ∧ f ≤ 300 ∧ FrN I I2 m) ∨ (∃ x y e, (∀ K : Nat → Nat → Nat → Sr, bn (cN T 0 (dN D - 1) nob a) (fun h a1 => bn (cN T 0 mx nob a1) (K h)) = K x y e) ∧ v = 1 ∧ x < 8 ∧ I2 ra (8 * k + x) = nI y ∧ (∀ c j, ¬ (c = ra ∧ j = 8 * k + x) → ¬ (c = m ∧ (j = 3 ∨ j = 4 ∨ j = 5)) → I2 c j = I c j) ∧ I2 m 3 = nI e ∧ I2 m 4 = -1))) := by
  refine Ct.of (by decide) (by simp [Value.category]) (Nat.le_of_ble_eq_true rfl) ?_
  have hl3 := hT.2.1
  have hb := hT.2.2.2
  have hn8 := hDk.1
  have hlt := hDk.2.2.2.2.1
  show wp _ _ _ _ 0 [some (.ref m), some (.int (nI k)), some (.ref ra), some (.int (nI mx)), none] [] _ _
  refine r_aload_n (pc := 0) dX10_readTold_0 rfl ?_
  refine r_iconst (pc := 1) (v := 0) dX10_readTold_1 (by decide) ?_
  refine r_aload_n (pc := 2) dX10_readTold_2 rfl ?_
  refine r_get1 (pc := 3) 10 6 13 dX10_readTold_3 (fl_RX10_13 rfl) (by decide) rfl (c10_o hm) (c10_p6 hm) ?_
  refine r_iload_n (pc := 6) dX10_readTold_6 rfl ?_
  refine r_iald_n (pc := 7) (i := k) dX10_readTold_7 (c10_a6 hm) (by decide) (by omega) (v := nI (dN D)) (hD.1) ?_
  refine r_iconst (pc := 8) (v := 1) dX10_readTold_8 (by decide) ?_
  refine r_isub_n (pc := 9) (a := dN D) (b := 1) dX10_readTold_9 (by omega) ?_
  refine r_iconst (pc := 10) (v := -1) dX10_readTold_10 (by decide) ?_
  refine r_callV_M (pc := 11) (b := m) (As := [.int (nI 0), .int (nI ((dN D) - 1)), .int (-1)]) 10 127 dX10_readTold_11 lk_X10_number (ml_RX10_127 rfl) im_X10_number se_X10_number (by decide) (c10_o hm) (Nat.le_of_ble_eq_true rfl) rfl (number_ct hm hT ha hal hw (by omega) (by omega)) (fun v11 I1 hr1 => ?_)
  obtain ⟨hF1, hc1⟩ := hr1
  refine r_if_ne (pc := 14) (x := v11) (tgt := 19) dX10_readTold_14 (by decide) (fun c14 => ?_) (fun c14 => ?_)
  · skip
    obtain ⟨x1, e1, hn1, hv1, hx1, ha1, hw1⟩ := hc1.resolve_left (fun ⟨f, _, z, _⟩ => c14 z)
    have b1 := (cN_bd hal).2 _ _ hn1
    have hT1 := hT.keep hF1
    have hD1 := hD.n hF1
    have hal1 : e1 ≤ T.1 := by omega
    clear hc1
    refine r_aload_n (pc := 19) dX10_readTold_19 rfl ?_
    refine r_getIv (pc := 20) 10 5 120 dX10_readTold_20 (fl_RX10_120 rfl) (by decide) rfl (c10_o hm) (v := nI x1) (hx1) ?_
    refine r_istore (pc := 23) (L' := [some (.ref m), some (.int (nI k)), some (.ref ra), some (.int (nI mx)), some (.int (nI x1))]) dX10_readTold_23 (by decide) rfl rfl ?_
    refine r_aload_n (pc := 25) dX10_readTold_25 rfl ?_
    refine r_iconst (pc := 26) (v := 0) dX10_readTold_26 (by decide) ?_
    refine r_iload_n (pc := 27) dX10_readTold_27 rfl ?_
    refine r_iconst (pc := 28) (v := -1) dX10_readTold_28 (by decide) ?_
    refine r_callV_M (pc := 29) (b := m) (As := [.int (nI 0), .int (nI mx), .int (-1)]) 10 127 dX10_readTold_29 lk_X10_number (ml_RX10_127 rfl) im_X10_number se_X10_number (by decide) (c10_o hm) (Nat.le_of_ble_eq_true rfl) rfl (number_ct hm hT1 ha1 hal1 hw1 (by omega) (by omega)) (fun v29 I2 hr2 => ?_)
    obtain ⟨hF2, hc2⟩ := hr2
    refine r_if_ne (pc := 32) (x := v29) (tgt := 37) dX10_readTold_32 (by decide) (fun c32 => ?_) (fun c32 => ?_)
    · skip
      obtain ⟨x2, e2, hn2, hv2, hx2, ha2, hw2⟩ := hc2.resolve_left (fun ⟨f, _, z, _⟩ => c32 z)
      have b2 := (cN_bd hal1).2 _ _ hn2
      have hT2 := hT1.keep hF2
      have hD2 := hD1.n hF2
      have hal2 : e2 ≤ T.1 := by omega
      clear hc2
      refine r_aload_n (pc := 37) dX10_readTold_37 rfl ?_
      refine r_bipush (pc := 38) (v := 8) dX10_readTold_38 (by decide) ?_
      refine r_iload_n (pc := 40) dX10_readTold_40 rfl ?_
      refine r_imul_n (pc := 41) (a := 8) (b := k) dX10_readTold_41 ?_
      refine r_iload (pc := 42) dX10_readTold_42 rfl ?_
      refine r_iadd_n (pc := 44) (a := 8 * k) (b := x1) dX10_readTold_44 ?_
      refine r_aload_n (pc := 45) dX10_readTold_45 rfl ?_
      refine r_getIv (pc := 46) 10 5 120 dX10_readTold_46 (fl_RX10_120 rfl) (by decide) rfl (c10_o hm) (v := nI x2) (hx2) ?_
      refine r_iast_n (pc := 49) (i := (8 * k) + x1) (v := nI x2) dX10_readTold_49 hra (by decide) (by omega) ?_
      obtain ⟨I4, hI4⟩ : ∃ zz0 : Im, zz0 = up2 I2 ra ((8 * k) + x1) (nI x2) := ⟨_, rfl⟩
      refine wp_M (M2 := (I4, G)) (by subst hI4; rfl) ?_
      have hfr4 : ∀ c j, ¬ (c = ra ∧ j = 8 * k + x1) → ¬ (c = m ∧ (j = 3 ∨ j = 4 ∨ j = 5)) → I4 c j = I c j := fun c j g1 g2 => by rw [hI4, up2_rd (by omega)]; exact (hF1.tr hF2) c j g2
      have hat4 : I4 ra (8 * k + x1) = nI x2 := by rw [hI4, up2_at]
      have ha4 : I4 m 3 = nI e2 := by rw [hI4, up2_rd (by omega)]; exact ha2
      have hw4 : I4 m 4 = -1 := by rw [hI4, up2_rd (by omega)]; exact hw2
      refine r_iconst (pc := 50) (v := 1) dX10_readTold_50 (by decide) ?_
      refine r_ret_z (pc := 51) dX10_readTold_51 rfl (by decide) ?_
      exact ⟨_, I4, rfl, rfl, Or.inr ⟨x1, x2, e2, fun K => by rw [hn1]; show bn (cN T 0 mx nob e1) (K x1) = _; rw [hn2]; rfl, rfl, by omega, hat4, hfr4, ha4, hw4⟩⟩
    · skip
      obtain ⟨f, hn2, hv2, hfl, hf3⟩ := hc2.resolve_right (fun ⟨x, e, _, z, _⟩ => by rw [c32] at z; exact absurd z (by decide))
      refine r_iconst (pc := 35) (v := 0) dX10_readTold_35 (by decide) ?_
      refine r_ret_z (pc := 36) dX10_readTold_36 rfl (by decide) ?_
      exact ⟨_, I2, rfl, rfl, Or.inl ⟨f, fun K => by rw [hn1]; show bn (cN T 0 mx nob e1) (K x1) = _; rw [hn2]; rfl, rfl, hfl, hf3, hF1.tr hF2⟩⟩
  · skip
    obtain ⟨f, hn1, hv1, hfl, hf3⟩ := hc1.resolve_right (fun ⟨x, e, _, z, _⟩ => by rw [c14] at z; exact absurd z (by decide))
    refine r_iconst (pc := 17) (v := 0) dX10_readTold_17 (by decide) ?_
    refine r_ret_z (pc := 18) dX10_readTold_18 rfl (by decide) ?_
    exact ⟨_, I1, rfl, rfl, Or.inl ⟨f, fun K => by rw [hn1]; rfl, rfl, hfl, hf3, hF1⟩⟩

set_option maxRecDepth 100000 in
theorem readBuys_ct {d : Nat} {I : Im} {G : Gm} {m k : Nat} {T : Tp} {D : Dr} (hm : isC10 G m) (hT : TpM I m T) {a : Nat} (ha : I m 3 = nI a) (hal : a ≤ T.1) (hw : I m 4 = -1) (hk : k ≤ 10) (hD : MdC I m k D) (hDk : DrOK D) : Ct (d + 4) 0 0 YX10_readBuys [.ref m, .int (nI k)] (I, G) (qM G (fun v I2 => FrP I I2 m k ∧ ((∃ f, (bn (cN T 0 (dN D - 1) nob a) (fun x a => bn (cN T (x + 1) (dN D - 1) (fun v => (dS D v).isSome) a) (fun y e => .inr (dBuy D x y, e))) : Sr) = .inl f ∧ v = 0 ∧ I2 m 4 = nI f ∧ f ≤ 300) ∨ (∃ D2 e, (bn (cN T 0 (dN D - 1) nob a) (fun x a => bn (cN T (x + 1) (dN D - 1) (fun v => (dS D v).isSome) a) (fun y e => .inr (dBuy D x y, e))) : Sr) = .inr (D2, e) ∧ v = 1 ∧ MdC I2 m k D2 ∧ I2 m 3 = nI e ∧ I2 m 4 = -1)))) := by
  refine Ct.of (by decide) (by simp [Value.category]) (Nat.le_of_ble_eq_true rfl) ?_
  have hl3 := hT.2.1
  have hb := hT.2.2.2
  have hn8 := hDk.1
  have hlt := hDk.2.2.2.2.1
  show wp _ _ _ _ 0 [some (.ref m), some (.int (nI k)), none] [] _ _
  refine r_aload_n (pc := 0) dX10_readBuys_0 rfl ?_
  refine r_iconst (pc := 1) (v := 0) dX10_readBuys_1 (by decide) ?_
  refine r_aload_n (pc := 2) dX10_readBuys_2 rfl ?_
  refine r_get1 (pc := 3) 10 6 13 dX10_readBuys_3 (fl_RX10_13 rfl) (by decide) rfl (c10_o hm) (c10_p6 hm) ?_
  refine r_iload_n (pc := 6) dX10_readBuys_6 rfl ?_
  refine r_iald_n (pc := 7) (i := k) dX10_readBuys_7 (c10_a6 hm) (by decide) (by omega) (v := nI (dN D)) (hD.1) ?_
  refine r_iconst (pc := 8) (v := 1) dX10_readBuys_8 (by decide) ?_
  refine r_isub_n (pc := 9) (a := dN D) (b := 1) dX10_readBuys_9 (by omega) ?_
  refine r_iconst (pc := 10) (v := -1) dX10_readBuys_10 (by decide) ?_
  refine r_callV_M (pc := 11) (b := m) (As := [.int (nI 0), .int (nI ((dN D) - 1)), .int (-1)]) 10 127 dX10_readBuys_11 lk_X10_number (ml_RX10_127 rfl) im_X10_number se_X10_number (by decide) (c10_o hm) (Nat.le_of_ble_eq_true rfl) rfl (number_ct hm hT ha hal hw (by omega) (by omega)) (fun v11 I1 hr1 => ?_)
  obtain ⟨hF1, hc1⟩ := hr1
  refine r_if_ne (pc := 14) (x := v11) (tgt := 19) dX10_readBuys_14 (by decide) (fun c14 => ?_) (fun c14 => ?_)
  · skip
    obtain ⟨x1, e1, hn1, hv1, hx1, ha1, hw1⟩ := hc1.resolve_left (fun ⟨f, _, z, _⟩ => c14 z)
    have b1 := (cN_bd hal).2 _ _ hn1
    have hT1 := hT.keep hF1
    have hD1 := hD.n hF1
    have hal1 : e1 ≤ T.1 := by omega
    clear hc1
    refine r_aload_n (pc := 19) dX10_readBuys_19 rfl ?_
    refine r_getIv (pc := 20) 10 5 120 dX10_readBuys_20 (fl_RX10_120 rfl) (by decide) rfl (c10_o hm) (v := nI x1) (hx1) ?_
    refine r_istore_n (pc := 23) (L' := [some (.ref m), some (.int (nI k)), some (.int (nI x1))]) dX10_readBuys_23 (by decide) rfl rfl ?_
    refine r_aload_n (pc := 24) dX10_readBuys_24 rfl ?_
    refine r_iload_n (pc := 25) dX10_readBuys_25 rfl ?_
    refine r_iconst (pc := 26) (v := 1) dX10_readBuys_26 (by decide) ?_
    refine r_iadd_n (pc := 27) (a := x1) (b := 1) dX10_readBuys_27 ?_
    refine r_aload_n (pc := 28) dX10_readBuys_28 rfl ?_
    refine r_get1 (pc := 29) 10 6 13 dX10_readBuys_29 (fl_RX10_13 rfl) (by decide) rfl (c10_o hm) (c10_p6 hm) ?_
    refine r_iload_n (pc := 32) dX10_readBuys_32 rfl ?_
    refine r_iald_n (pc := 33) (i := k) dX10_readBuys_33 (c10_a6 hm) (by decide) (by omega) (v := nI (dN D)) (hD1.1) ?_
    refine r_iconst (pc := 34) (v := 1) dX10_readBuys_34 (by decide) ?_
    refine r_isub_n (pc := 35) (a := dN D) (b := 1) dX10_readBuys_35 (by omega) ?_
    refine r_iload_n (pc := 36) dX10_readBuys_36 rfl ?_
    refine r_callV_M (pc := 37) (b := m) (As := [.int (nI (x1 + 1)), .int (nI ((dN D) - 1)), .int (nI k)]) 10 127 dX10_readBuys_37 lk_X10_number (ml_RX10_127 rfl) im_X10_number se_X10_number (by decide) (c10_o hm) (Nat.le_of_ble_eq_true rfl) rfl (number_b (s := dS D) hm hT1 ha1 hal1 hw1 (by omega) (by omega) (by omega) (fun v hv => (hD1.2.1 v hv).2.1) (fun b c z => by have := hDk.2.2.1 b c z; omega)) (fun v37 I2 hr2 => ?_)
    obtain ⟨hF2, hc2⟩ := hr2
    refine r_if_ne (pc := 40) (x := v37) (tgt := 45) dX10_readBuys_40 (by decide) (fun c40 => ?_) (fun c40 => ?_)
    · skip
      obtain ⟨x2, e2, hn2, hv2, hx2, ha2, hw2⟩ := hc2.resolve_left (fun ⟨f, _, z, _⟩ => c40 z)
      have b2 := (cN_bd hal1).2 _ _ hn2
      have hT2 := hT1.keep hF2
      have hD2 := hD1.n hF2
      have hal2 : e2 ≤ T.1 := by omega
      clear hc2
      refine r_aload_n (pc := 45) dX10_readBuys_45 rfl ?_
      refine r_get1 (pc := 46) 10 8 20 dX10_readBuys_46 (fl_RX10_20 rfl) (by decide) rfl (c10_o hm) (c10_p8 hm) ?_
      refine r_bipush (pc := 49) (v := 8) dX10_readBuys_49 (by decide) ?_
      refine r_iload_n (pc := 51) dX10_readBuys_51 rfl ?_
      refine r_imul_n (pc := 52) (a := 8) (b := k) dX10_readBuys_52 ?_
      refine r_aload_n (pc := 53) dX10_readBuys_53 rfl ?_
      refine r_getIv (pc := 54) 10 5 120 dX10_readBuys_54 (fl_RX10_120 rfl) (by decide) rfl (c10_o hm) (v := nI x2) (hx2) ?_
      refine r_iadd_n (pc := 57) (a := 8 * k) (b := x2) dX10_readBuys_57 ?_
      refine r_iload_n (pc := 58) dX10_readBuys_58 rfl ?_
      refine r_iast_n (pc := 59) (i := (8 * k) + x2) (v := nI x1) dX10_readBuys_59 (c10_a8 hm) (by decide) (by omega) ?_
      obtain ⟨I4, hI4⟩ : ∃ zz0 : Im, zz0 = up2 I2 (m + 4) ((8 * k) + x2) (nI x1) := ⟨_, rfl⟩
      refine wp_M (M2 := (I4, G)) (by subst hI4; rfl) ?_
      have hfr4 : ∀ c j, ¬ (c = m + 4 ∧ j = 8 * k + x2) → ¬ (c = m ∧ (j = 3 ∨ j = 4 ∨ j = 5)) → I4 c j = I c j := fun c j g1 g2 => by rw [hI4, up2_rd (by omega)]; exact (hF1.tr hF2) c j g2
      have hat4 : I4 (m + 4) (8 * k + x2) = nI x1 := by rw [hI4, up2_at]
      have ha4 : I4 m 3 = nI e2 := by rw [hI4, up2_rd (by omega)]; exact ha2
      have hw4 : I4 m 4 = -1 := by rw [hI4, up2_rd (by omega)]; exact hw2
      refine r_iconst (pc := 60) (v := 1) dX10_readBuys_60 (by decide) ?_
      refine r_ret_z (pc := 61) dX10_readBuys_61 rfl (by decide) ?_
      exact ⟨_, I4, rfl, rfl, fun c j g1 g2 g3 g4 g5 => hfr4 c j (by omega) g1, Or.inr ⟨dBuy D x1 x2, e2, by rw [hn1]; show bn (cN T (x1 + 1) (dN D - 1) _ e1) _ = _; rw [hn2]; rfl, rfl, hD.buy hat4 hfr4, ha4, hw4⟩⟩
    · skip
      obtain ⟨f, hn2, hv2, hfl, hf3⟩ := hc2.resolve_right (fun ⟨x, e, _, z, _⟩ => by rw [c40] at z; exact absurd z (by decide))
      refine r_iconst (pc := 43) (v := 0) dX10_readBuys_43 (by decide) ?_
      refine r_ret_z (pc := 44) dX10_readBuys_44 rfl (by decide) ?_
      exact ⟨_, I2, rfl, rfl, (hF1.tr hF2).p, Or.inl ⟨f, by rw [hn1]; show bn (cN T (x1 + 1) (dN D - 1) _ e1) _ = _; rw [hn2]; rfl, rfl, hfl, hf3⟩⟩
  · skip
    obtain ⟨f, hn1, hv1, hfl, hf3⟩ := hc1.resolve_right (fun ⟨x, e, _, z, _⟩ => by rw [c14] at z; exact absurd z (by decide))
    refine r_iconst (pc := 17) (v := 0) dX10_readBuys_17 (by decide) ?_
    refine r_ret_z (pc := 18) dX10_readBuys_18 rfl (by decide) ?_
    exact ⟨_, I1, rfl, rfl, hF1.p, Or.inl ⟨f, by rw [hn1]; rfl, rfl, hfl, hf3⟩⟩

set_option maxRecDepth 100000 in
theorem readWant_ct {d : Nat} {I : Im} {G : Gm} {m k : Nat} {T : Tp} {D : Dr} (hm : isC10 G m) (hT : TpM I m T) {a : Nat} (ha : I m 3 = nI a) (hal : a ≤ T.1) (hw : I m 4 = -1) (hk : k ≤ 10) (hD : MdC I m k D) (hDk : DrOK D) (hl20 : (dT D).1 < 20) : Ct (d + 4) 0 0 YX10_readWant [.ref m, .int (nI k)] (I, G) (qM G (fun v I2 => FrP I I2 m k ∧ ((∃ f, (bn (cN T 0 (dN D - 1) nob a) (fun h a => bn (cN T 1 40 nob a) (fun q e => bn (cN T 1 30 nob e) (fun r g => .inr (dLot D h q r, g)))) : Sr) = .inl f ∧ v = 0 ∧ I2 m 4 = nI f ∧ f ≤ 300) ∨ (∃ D2 e, (bn (cN T 0 (dN D - 1) nob a) (fun h a => bn (cN T 1 40 nob a) (fun q e => bn (cN T 1 30 nob e) (fun r g => .inr (dLot D h q r, g)))) : Sr) = .inr (D2, e) ∧ v = 1 ∧ MdC I2 m k D2 ∧ I2 m 3 = nI e ∧ I2 m 4 = -1)))) := by
  refine Ct.of (by decide) (by simp [Value.category]) (Nat.le_of_ble_eq_true rfl) ?_
  have hl3 := hT.2.1
  have hb := hT.2.2.2
  have hn8 := hDk.1
  have hlt := hDk.2.2.2.2.1
  show wp _ _ _ _ 0 [some (.ref m), some (.int (nI k)), none] [] _ _
  refine r_bipush (pc := 0) (v := 20) dX10_readWant_0 (by decide) ?_
  refine r_iload_n (pc := 2) dX10_readWant_2 rfl ?_
  refine r_imul_n (pc := 3) (a := 20) (b := k) dX10_readWant_3 ?_
  refine r_aload_n (pc := 4) dX10_readWant_4 rfl ?_
  refine r_get1 (pc := 5) 10 10 26 dX10_readWant_5 (fl_RX10_26 rfl) (by decide) rfl (c10_o hm) (c10_p10 hm) ?_
  refine r_iload_n (pc := 8) dX10_readWant_8 rfl ?_
  refine r_iald_n (pc := 9) (i := k) dX10_readWant_9 (c10_a10 hm) (by decide) (by omega) (v := nI ((dT D).1)) (hD.2.2.1) ?_
  refine r_iadd_n (pc := 10) (a := 20 * k) (b := (dT D).1) dX10_readWant_10 ?_
  refine r_istore_n (pc := 11) (L' := [some (.ref m), some (.int (nI k)), some (.int (nI ((20 * k) + ((dT D).1))))]) dX10_readWant_11 (by decide) rfl rfl ?_
  refine r_aload_n (pc := 12) dX10_readWant_12 rfl ?_
  refine r_iconst (pc := 13) (v := 0) dX10_readWant_13 (by decide) ?_
  refine r_aload_n (pc := 14) dX10_readWant_14 rfl ?_
  refine r_get1 (pc := 15) 10 6 13 dX10_readWant_15 (fl_RX10_13 rfl) (by decide) rfl (c10_o hm) (c10_p6 hm) ?_
  refine r_iload_n (pc := 18) dX10_readWant_18 rfl ?_
  refine r_iald_n (pc := 19) (i := k) dX10_readWant_19 (c10_a6 hm) (by decide) (by omega) (v := nI (dN D)) (hD.1) ?_
  refine r_iconst (pc := 20) (v := 1) dX10_readWant_20 (by decide) ?_
  refine r_isub_n (pc := 21) (a := dN D) (b := 1) dX10_readWant_21 (by omega) ?_
  refine r_iconst (pc := 22) (v := -1) dX10_readWant_22 (by decide) ?_
  refine r_callV_M (pc := 23) (b := m) (As := [.int (nI 0), .int (nI ((dN D) - 1)), .int (-1)]) 10 127 dX10_readWant_23 lk_X10_number (ml_RX10_127 rfl) im_X10_number se_X10_number (by decide) (c10_o hm) (Nat.le_of_ble_eq_true rfl) rfl (number_ct hm hT ha hal hw (by omega) (by omega)) (fun v23 I1 hr1 => ?_)
  obtain ⟨hF1, hc1⟩ := hr1
  refine r_if_ne (pc := 26) (x := v23) (tgt := 31) dX10_readWant_26 (by decide) (fun c26 => ?_) (fun c26 => ?_)
  · skip
    obtain ⟨x1, e1, hn1, hv1, hx1, ha1, hw1⟩ := hc1.resolve_left (fun ⟨f, _, z, _⟩ => c26 z)
    have b1 := (cN_bd hal).2 _ _ hn1
    have hT1 := hT.keep hF1
    have hD1 := hD.n hF1
    have hal1 : e1 ≤ T.1 := by omega
    clear hc1
    refine r_aload_n (pc := 31) dX10_readWant_31 rfl ?_
    refine r_get1 (pc := 32) 10 11 29 dX10_readWant_32 (fl_RX10_29 rfl) (by decide) rfl (c10_o hm) (c10_p11 hm) ?_
    refine r_iload_n (pc := 35) dX10_readWant_35 rfl ?_
    refine r_aload_n (pc := 36) dX10_readWant_36 rfl ?_
    refine r_getIv (pc := 37) 10 5 120 dX10_readWant_37 (fl_RX10_120 rfl) (by decide) rfl (c10_o hm) (v := nI x1) (hx1) ?_
    refine r_iast_n (pc := 40) (i := (20 * k) + ((dT D).1)) (v := nI x1) dX10_readWant_40 (c10_a11 hm) (by decide) (by omega) ?_
    obtain ⟨I5, hI5⟩ : ∃ zz0 : Im, zz0 = up2 I1 (m + 7) ((20 * k) + ((dT D).1)) (nI x1) := ⟨_, rfl⟩
    refine wp_M (M2 := (I5, G)) (by subst hI5; rfl) ?_
    have hT5 : TpM I5 m T := hT1.keepP (k := k) (fun c j g1 g2 g3 g4 g5 => by rw [hI5, up2_rd (by omega)])
    have ha5 : I5 m 3 = nI e1 := by rw [hI5, up2_rd (by omega)]; exact ha1
    have hw5 : I5 m 4 = -1 := by rw [hI5, up2_rd (by omega)]; exact hw1
    have hD5 : MdC I5 m k D := hD1.keep (fun c j g1 g2 g3 => by rw [hI5, up2_rd (by omega)])
    refine r_aload_n (pc := 41) dX10_readWant_41 rfl ?_
    refine r_iconst (pc := 42) (v := 1) dX10_readWant_42 (by decide) ?_
    refine r_bipush (pc := 43) (v := 40) dX10_readWant_43 (by decide) ?_
    refine r_iconst (pc := 45) (v := -1) dX10_readWant_45 (by decide) ?_
    refine r_callV_M (pc := 46) (b := m) (As := [.int (nI 1), .int (nI 40), .int (-1)]) 10 127 dX10_readWant_46 lk_X10_number (ml_RX10_127 rfl) im_X10_number se_X10_number (by decide) (c10_o hm) (Nat.le_of_ble_eq_true rfl) rfl (number_ct hm hT5 ha5 hal1 hw5 (by omega) (by omega)) (fun v46 I2 hr2 => ?_)
    obtain ⟨hF2, hc2⟩ := hr2
    refine r_if_ne (pc := 49) (x := v46) (tgt := 54) dX10_readWant_49 (by decide) (fun c49 => ?_) (fun c49 => ?_)
    · skip
      obtain ⟨x2, e2, hn2, hv2, hx2, ha2, hw2⟩ := hc2.resolve_left (fun ⟨f, _, z, _⟩ => c49 z)
      have b2 := (cN_bd hal1).2 _ _ hn2
      have hT2 := hT5.keep hF2
      have hD2 := hD5.n hF2
      have hal2 : e2 ≤ T.1 := by omega
      clear hc2
      refine r_aload_n (pc := 54) dX10_readWant_54 rfl ?_
      refine r_get1 (pc := 55) 10 12 32 dX10_readWant_55 (fl_RX10_32 rfl) (by decide) rfl (c10_o hm) (c10_p12 hm) ?_
      refine r_iload_n (pc := 58) dX10_readWant_58 rfl ?_
      refine r_aload_n (pc := 59) dX10_readWant_59 rfl ?_
      refine r_getIv (pc := 60) 10 5 120 dX10_readWant_60 (fl_RX10_120 rfl) (by decide) rfl (c10_o hm) (v := nI x2) (hx2) ?_
      refine r_iast_n (pc := 63) (i := (20 * k) + ((dT D).1)) (v := nI x2) dX10_readWant_63 (c10_a12 hm) (by decide) (by omega) ?_
      obtain ⟨I6, hI6⟩ : ∃ zz0 : Im, zz0 = up2 I2 (m + 8) ((20 * k) + ((dT D).1)) (nI x2) := ⟨_, rfl⟩
      refine wp_M (M2 := (I6, G)) (by subst hI6; rfl) ?_
      have hT6 : TpM I6 m T := hT2.keepP (k := k) (fun c j g1 g2 g3 g4 g5 => by rw [hI6, up2_rd (by omega)])
      have ha6 : I6 m 3 = nI e2 := by rw [hI6, up2_rd (by omega)]; exact ha2
      have hw6 : I6 m 4 = -1 := by rw [hI6, up2_rd (by omega)]; exact hw2
      have hD6 : MdC I6 m k D := hD2.keep (fun c j g1 g2 g3 => by rw [hI6, up2_rd (by omega)])
      refine r_aload_n (pc := 64) dX10_readWant_64 rfl ?_
      refine r_iconst (pc := 65) (v := 1) dX10_readWant_65 (by decide) ?_
      refine r_bipush (pc := 66) (v := 30) dX10_readWant_66 (by decide) ?_
      refine r_iconst (pc := 68) (v := -1) dX10_readWant_68 (by decide) ?_
      refine r_callV_M (pc := 69) (b := m) (As := [.int (nI 1), .int (nI 30), .int (-1)]) 10 127 dX10_readWant_69 lk_X10_number (ml_RX10_127 rfl) im_X10_number se_X10_number (by decide) (c10_o hm) (Nat.le_of_ble_eq_true rfl) rfl (number_ct hm hT6 ha6 hal2 hw6 (by omega) (by omega)) (fun v69 I3 hr3 => ?_)
      obtain ⟨hF3, hc3⟩ := hr3
      refine r_if_ne (pc := 72) (x := v69) (tgt := 77) dX10_readWant_72 (by decide) (fun c72 => ?_) (fun c72 => ?_)
      · skip
        obtain ⟨x3, e3, hn3, hv3, hx3, ha3, hw3⟩ := hc3.resolve_left (fun ⟨f, _, z, _⟩ => c72 z)
        have b3 := (cN_bd hal2).2 _ _ hn3
        have hT3 := hT6.keep hF3
        have hD3 := hD6.n hF3
        have hal3 : e3 ≤ T.1 := by omega
        clear hc3
        refine r_aload_n (pc := 77) dX10_readWant_77 rfl ?_
        refine r_get1 (pc := 78) 10 13 35 dX10_readWant_78 (fl_RX10_35 rfl) (by decide) rfl (c10_o hm) (c10_p13 hm) ?_
        refine r_iload_n (pc := 81) dX10_readWant_81 rfl ?_
        refine r_aload_n (pc := 82) dX10_readWant_82 rfl ?_
        refine r_getIv (pc := 83) 10 5 120 dX10_readWant_83 (fl_RX10_120 rfl) (by decide) rfl (c10_o hm) (v := nI x3) (hx3) ?_
        refine r_iast_n (pc := 86) (i := (20 * k) + ((dT D).1)) (v := nI x3) dX10_readWant_86 (c10_a13 hm) (by decide) (by omega) ?_
        obtain ⟨I7, hI7⟩ : ∃ zz0 : Im, zz0 = up2 I3 (m + 9) ((20 * k) + ((dT D).1)) (nI x3) := ⟨_, rfl⟩
        refine wp_M (M2 := (I7, G)) (by subst hI7; rfl) ?_
        have hT7 : TpM I7 m T := hT3.keepP (k := k) (fun c j g1 g2 g3 g4 g5 => by rw [hI7, up2_rd (by omega)])
        have ha7 : I7 m 3 = nI e3 := by rw [hI7, up2_rd (by omega)]; exact ha3
        have hw7 : I7 m 4 = -1 := by rw [hI7, up2_rd (by omega)]; exact hw3
        have hD7 : MdC I7 m k D := hD3.keep (fun c j g1 g2 g3 => by rw [hI7, up2_rd (by omega)])
        refine r_aload_n (pc := 87) dX10_readWant_87 rfl ?_
        refine r_get1 (pc := 88) 10 10 26 dX10_readWant_88 (fl_RX10_26 rfl) (by decide) rfl (c10_o hm) (c10_p10 hm) ?_
        refine r_iload_n (pc := 91) dX10_readWant_91 rfl ?_
        refine r_dup2 (pc := 92) dX10_readWant_92 rfl rfl ?_
        refine r_iald_n (pc := 93) (i := k) dX10_readWant_93 (c10_a10 hm) (by decide) (by omega) (v := nI ((dT D).1)) (hD7.2.2.1) ?_
        refine r_iconst (pc := 94) (v := 1) dX10_readWant_94 (by decide) ?_
        refine r_iadd_n (pc := 95) (a := (dT D).1) (b := 1) dX10_readWant_95 ?_
        refine r_iast_n (pc := 96) (i := k) (v := nI (((dT D).1) + 1)) dX10_readWant_96 (c10_a10 hm) (by decide) (by omega) ?_
        obtain ⟨I8, hI8⟩ : ∃ zz0 : Im, zz0 = up2 I7 (m + 6) k (nI (((dT D).1) + 1)) := ⟨_, rfl⟩
        refine wp_M (M2 := (I8, G)) (by subst hI8; rfl) ?_
        have hfin : ∀ c j, ¬ (c = m + 6 ∧ j = k) → ¬ (m + 7 ≤ c ∧ c ≤ m + 9 ∧ j = 20 * k + (dT D).1) → ¬ (c = m ∧ (j = 3 ∨ j = 4 ∨ j = 5)) → I8 c j = I c j := fun c j g1 g2 g3 => by rw [hI8, up2_rd (by omega), hI7, up2_rd (by omega), hF3 c j g3, hI6, up2_rd (by omega), hF2 c j g3, hI5, up2_rd (by omega)]; exact hF1 c j g3
        have h7 : I8 (m + 7) (20 * k + (dT D).1) = nI x1 := by rw [hI8, up2_rd (by omega), hI7, up2_rd (by omega), hF3 _ _ (by omega), hI6, up2_rd (by omega), hF2 _ _ (by omega), hI5, up2_at]
        have h8 : I8 (m + 8) (20 * k + (dT D).1) = nI x2 := by rw [hI8, up2_rd (by omega), hI7, up2_rd (by omega), hF3 _ _ (by omega), hI6, up2_at]
        have h9 : I8 (m + 9) (20 * k + (dT D).1) = nI x3 := by rw [hI8, up2_rd (by omega), hI7, up2_at]
        have h6 : I8 (m + 6) k = nI ((dT D).1 + 1) := by rw [hI8, up2_at]
        have ha8 : I8 m 3 = nI e3 := by rw [hI8, up2_rd (by omega), hI7, up2_rd (by omega)]; exact ha3
        have hw8 : I8 m 4 = -1 := by rw [hI8, up2_rd (by omega), hI7, up2_rd (by omega)]; exact hw3
        refine r_iconst (pc := 97) (v := 1) dX10_readWant_97 (by decide) ?_
        refine r_ret_z (pc := 98) dX10_readWant_98 rfl (by decide) ?_
        exact ⟨_, I8, rfl, rfl, fun c j g1 g2 g3 g4 g5 => hfin c j (by omega) (by omega) (by omega), Or.inr ⟨dLot D x1 x2 x3, e3, by rw [hn1]; show bn (cN T 1 40 nob e1) _ = _; rw [hn2]; show bn (cN T 1 30 nob e2) _ = _; rw [hn3]; rfl, rfl, hD.lot h6 h7 h8 h9 hfin, ha8, hw8⟩⟩
      · skip
        obtain ⟨f, hn3, hv3, hfl, hf3⟩ := hc3.resolve_right (fun ⟨x, e, _, z, _⟩ => by rw [c72] at z; exact absurd z (by decide))
        refine r_iconst (pc := 75) (v := 0) dX10_readWant_75 (by decide) ?_
        refine r_ret_z (pc := 76) dX10_readWant_76 rfl (by decide) ?_
        exact ⟨_, I3, rfl, rfl, fun c j g1 g2 g3 g4 g5 => by rw [hF3 c j g1, hI6, up2_rd (by omega), hF2 c j g1, hI5, up2_rd (by omega)]; exact hF1 c j g1, Or.inl ⟨f, by rw [hn1]; show bn (cN T 1 40 nob e1) _ = _; rw [hn2]; show bn (cN T 1 30 nob e2) _ = _; rw [hn3]; rfl, rfl, hfl, hf3⟩⟩
    · skip
      obtain ⟨f, hn2, hv2, hfl, hf3⟩ := hc2.resolve_right (fun ⟨x, e, _, z, _⟩ => by rw [c49] at z; exact absurd z (by decide))
      refine r_iconst (pc := 52) (v := 0) dX10_readWant_52 (by decide) ?_
      refine r_ret_z (pc := 53) dX10_readWant_53 rfl (by decide) ?_
      exact ⟨_, I2, rfl, rfl, fun c j g1 g2 g3 g4 g5 => by rw [hF2 c j g1, hI5, up2_rd (by omega)]; exact hF1 c j g1, Or.inl ⟨f, by rw [hn1]; show bn (cN T 1 40 nob e1) _ = _; rw [hn2]; rfl, rfl, hfl, hf3⟩⟩
  · skip
    obtain ⟨f, hn1, hv1, hfl, hf3⟩ := hc1.resolve_right (fun ⟨x, e, _, z, _⟩ => by rw [c26] at z; exact absurd z (by decide))
    refine r_iconst (pc := 29) (v := 0) dX10_readWant_29 (by decide) ?_
    refine r_ret_z (pc := 30) dX10_readWant_30 rfl (by decide) ?_
    exact ⟨_, I1, rfl, rfl, hF1.p, Or.inl ⟨f, by rw [hn1]; rfl, rfl, hfl, hf3⟩⟩

set_option maxRecDepth 100000 in
theorem statementM_ct {d : Nat} {I : Im} {G : Gm} {m k : Nat} {T : Tp} {D : Dr} (hm : isC10 G m) (hT : TpM I m T) {a : Nat} (ha : I m 3 = nI a) (hal : a ≤ T.1) (hw : I m 4 = -1) (hk : k ≤ 10) (hD : MdC I m k D) (hDk : DrOK D) : Ct (d + 5) 0 0 YX10_statement [.ref m, .int (nI k)] (I, G) (qM G (fun v I2 => FrP I I2 m k ∧ ((∃ f, (cSt T D (sk T a) : Sr) = .inl f ∧ v = 0 ∧ I2 m 4 = nI f ∧ f ≤ 300) ∨ (∃ D2 e, (cSt T D (sk T a) : Sr) = .inr (D2, e) ∧ v = 1 ∧ MdC I2 m k D2 ∧ I2 m 3 = nI e ∧ I2 m 4 = -1)))) := by
  refine Ct.of (by decide) (by simp [Value.category]) (Nat.le_of_ble_eq_true rfl) ?_
  have hl3 := hT.2.1
  have hb := hT.2.2.2
  have hn8 := hDk.1
  have hlt := hDk.2.2.2.2.1
  show wp _ _ _ _ 0 [some (.ref m), some (.int (nI k)), none, none] [] _ _
  refine r_aload_n (pc := 0) dX10_statement_0 rfl ?_
  refine r_callV_M (pc := 1) (b := m) (As := []) 10 113 dX10_statement_1 lk_X10_look (ml_RX10_113 rfl) im_X10_look se_X10_look (by decide) (c10_o hm) (Nat.le_of_ble_eq_true rfl) rfl (look_ct hm hT ha hal) (fun v1 I1 hI1 => ?_)
  obtain ⟨p, hp⟩ : ∃ z, z = sk T a := ⟨_, rfl⟩
  have hps := sk_is hal
  rw [← hp] at hps hI1
  obtain ⟨rfl, ha1, hfr1⟩ := hI1
  have hF1 : FrN I I1 m := fun c k z => hfr1 c k (by omega)
  have hT1 := hT.keep hF1
  have hw1 : I1 m 4 = -1 := (hfr1 _ _ (by omega)).trans hw
  have hD1 := hD.n hF1
  refine r_istore_n (pc := 4) (L' := [some (.ref m), some (.int (nI k)), some (.int (hrF T p)), none]) dX10_statement_4 (by decide) rfl rfl ?_
  have k69 : ∀ (I2 : Im), (hrF T p = 99 ∨ hrF T p = 98 ∨ hrF T p = 101 ∨ (hrF T p = 119 ∧ (dT D).1 < 20)) → (I2 m 3 = nI (p + 1)) → (I2 m 4 = -1) → (FrN I I2 m) → wp (d + 5) 0 0 YX10_statement 69 [some (.ref m), some (.int (nI k)), some (.int (hrF T p)), none] [] (I2, G) (qM G (fun v I2 => FrP I I2 m k ∧ ((∃ f, (cSt T D (sk T a) : Sr) = .inl f ∧ v = 0 ∧ I2 m 4 = nI f ∧ f ≤ 300) ∨ (∃ D2 e, (cSt T D (sk T a) : Sr) = .inr (D2, e) ∧ v = 1 ∧ MdC I2 m k D2 ∧ I2 m 3 = nI e ∧ I2 m 4 = -1)))) := by
    intro I2 hmay ha2 hw2 hF2
    have hT2 := hT.keep hF2
    have hD2 := hD.n hF2
    have hpl : p < T.1 := by rcases hmay with h | h | h | ⟨h, _⟩; exact ((hr_eq hb (n := 99) (by omega) rfl).mp h).1; exact ((hr_eq hb (n := 98) (by omega) rfl).mp h).1; exact ((hr_eq hb (n := 101) (by omega) rfl).mp h).1; exact ((hr_eq hb (n := 119) (by omega) rfl).mp h).1
    refine r_iload_n (pc := 69) dX10_statement_69 rfl ?_
    refine r_bipush (pc := 70) (v := 99) dX10_statement_70 (by decide) ?_
    refine r_icmp_ne (pc := 72) (x := hrF T p) (z := 99) (tgt := 89) dX10_statement_72 (by decide) (fun c72 => ?_) (fun c72 => ?_)
    · skip
      refine r_iload_n (pc := 89) dX10_statement_89 rfl ?_
      refine r_bipush (pc := 90) (v := 101) dX10_statement_90 (by decide) ?_
      refine r_icmp_ne (pc := 92) (x := hrF T p) (z := 101) (tgt := 109) dX10_statement_92 (by decide) (fun c92 => ?_) (fun c92 => ?_)
      · skip
        refine r_iload_n (pc := 109) dX10_statement_109 rfl ?_
        refine r_bipush (pc := 110) (v := 98) dX10_statement_110 (by decide) ?_
        refine r_icmp_ne (pc := 112) (x := hrF T p) (z := 98) (tgt := 123) dX10_statement_112 (by decide) (fun c112 => ?_) (fun c112 => ?_)
        · skip
          have hww : hrF T p = 119 ∧ (dT D).1 < 20 := ((hmay.resolve_left c72).resolve_left c112).resolve_left c92
          have hlot := hww.2
          have hcs := show cSt T D p = _ from (if_neg (fun z => c72 ((hr_eq hb (n := 99) (by omega) rfl).mpr z))).trans ((if_neg (fun z => c92 ((hr_eq hb (n := 101) (by omega) rfl).mpr z))).trans ((if_neg (fun z => c112 ((hr_eq hb (n := 98) (by omega) rfl).mpr z))).trans (if_pos ⟨((hr_eq hb (n := 119) (by omega) rfl).mp hww.1).1, ((hr_eq hb (n := 119) (by omega) rfl).mp hww.1).2, hlot⟩)))
          refine r_aload_n (pc := 123) dX10_statement_123 rfl ?_
          refine r_iload_n (pc := 124) dX10_statement_124 rfl ?_
          refine r_callV_M (pc := 125) (b := m) (As := [.int (nI k)]) 10 136 dX10_statement_125 lk_X10_readWant (ml_RX10_136 rfl) im_X10_readWant se_X10_readWant (by decide) (c10_o hm) (Nat.le_of_ble_eq_true rfl) rfl (readWant_ct hm hT2 ha2 (by omega) hw2 hk hD2 hDk hlot) (fun v125 I3 hr3 => ?_)
          have hvv : v125 = 0 ∨ v125 = 1 := by rcases hr3.2 with ⟨f, _, z, _⟩ | ⟨x, y, _, z, _⟩; exact Or.inl z; exact Or.inr z
          refine r_ret_z (pc := 128) dX10_statement_128 rfl (by rcases hvv with h | h; exact Or.inl h; exact Or.inr h) ?_
          refine ⟨_, I3, rfl, rfl, ?_⟩
          show FrP I I3 m k ∧ _
          rw [← hp]
          refine ⟨hF2.p.tr hr3.1, ?_⟩
          rw [hcs]
          exact hr3.2
        · skip
          have hcs := show cSt T D p = _ from (if_neg (fun z => c72 ((hr_eq hb (n := 99) (by omega) rfl).mpr z))).trans ((if_neg (fun z => c92 ((hr_eq hb (n := 101) (by omega) rfl).mpr z))).trans (if_pos ((hr_eq hb (n := 98) (by omega) rfl).mp c112)))
          refine r_aload_n (pc := 115) dX10_statement_115 rfl ?_
          refine r_iload_n (pc := 116) dX10_statement_116 rfl ?_
          refine r_callV_M (pc := 117) (b := m) (As := [.int (nI k)]) 10 133 dX10_statement_117 lk_X10_readBuys (ml_RX10_133 rfl) im_X10_readBuys se_X10_readBuys (by decide) (c10_o hm) (Nat.le_of_ble_eq_true rfl) rfl (readBuys_ct hm hT2 ha2 (by omega) hw2 hk hD2 hDk) (fun v117 I3 hr3 => ?_)
          have hvv : v117 = 0 ∨ v117 = 1 := by rcases hr3.2 with ⟨f, _, z, _⟩ | ⟨x, y, _, z, _⟩; exact Or.inl z; exact Or.inr z
          refine r_goto (pc := 120) (tgt := 128) dX10_statement_120 (by decide) ?_
          refine r_ret_z (pc := 128) dX10_statement_128 rfl (by rcases hvv with h | h; exact Or.inl h; exact Or.inr h) ?_
          refine ⟨_, I3, rfl, rfl, ?_⟩
          show FrP I I3 m k ∧ _
          rw [← hp]
          refine ⟨hF2.p.tr hr3.1, ?_⟩
          rw [hcs]
          exact hr3.2
      · skip
        have hcs := show cSt T D p = _ from (if_neg (fun z => c72 ((hr_eq hb (n := 99) (by omega) rfl).mpr z))).trans (if_pos ((hr_eq hb (n := 101) (by omega) rfl).mp c92))
        refine r_aload_n (pc := 95) dX10_statement_95 rfl ?_
        refine r_iload_n (pc := 96) dX10_statement_96 rfl ?_
        refine r_aload_n (pc := 97) dX10_statement_97 rfl ?_
        refine r_get1 (pc := 98) 10 9 23 dX10_statement_98 (fl_RX10_23 rfl) (by decide) rfl (c10_o hm) (c10_p9 hm) ?_
        refine r_bipush (pc := 101) (v := 99) dX10_statement_101 (by decide) ?_
        refine r_callV_M (pc := 103) (b := m) (As := [.int (nI k), .ref (m + 5), .int (nI 99)]) 10 129 dX10_statement_103 lk_X10_readTold (ml_RX10_129 rfl) im_X10_readTold se_X10_readTold (by decide) (c10_o hm) (Nat.le_of_ble_eq_true rfl) rfl (readTold_ct hm hT2 ha2 (by omega) hw2 hk hD2 hDk (c10_a9 hm) (by omega) (by omega)) (fun v103 I3 hr3 => ?_)
        have hvv : v103 = 0 ∨ v103 = 1 := by rcases hr3 with ⟨f, _, z, _⟩ | ⟨x, y, e, _, z, _⟩; exact Or.inl z; exact Or.inr z
        refine r_goto (pc := 106) (tgt := 128) dX10_statement_106 (by decide) ?_
        refine r_ret_z (pc := 128) dX10_statement_128 rfl (by rcases hvv with h | h; exact Or.inl h; exact Or.inr h) ?_
        refine ⟨_, I3, rfl, rfl, ?_⟩
        show FrP I I3 m k ∧ _
        rw [← hp]
        rcases hr3 with ⟨f, hK, z, h4, h5, h6⟩ | ⟨x, y, e, hK, z, hx, h4, h5, h6, h7⟩
        · exact ⟨(hF2.tr h6).p, Or.inl ⟨f, hcs.trans (hK _), z, h4, h5⟩⟩
        · exact ⟨fun c j g1 g2 g3 g4 g5 => (h5 c j (by omega) g1).trans (hF2 c j g1), Or.inr ⟨_, e, hcs.trans (hK (fun h v e => .inr (dElse D h v, e))), z, hD2.els h4 h5, h6, h7⟩⟩
    · skip
      have hcs := show cSt T D p = _ from if_pos ((hr_eq hb (n := 99) (by omega) rfl).mp c72)
      refine r_aload_n (pc := 75) dX10_statement_75 rfl ?_
      refine r_iload_n (pc := 76) dX10_statement_76 rfl ?_
      refine r_aload_n (pc := 77) dX10_statement_77 rfl ?_
      refine r_get1 (pc := 78) 10 7 17 dX10_statement_78 (fl_RX10_17 rfl) (by decide) rfl (c10_o hm) (c10_p7 hm) ?_
      refine r_bipush (pc := 81) (v := 30) dX10_statement_81 (by decide) ?_
      refine r_callV_M (pc := 83) (b := m) (As := [.int (nI k), .ref (m + 3), .int (nI 30)]) 10 129 dX10_statement_83 lk_X10_readTold (ml_RX10_129 rfl) im_X10_readTold se_X10_readTold (by decide) (c10_o hm) (Nat.le_of_ble_eq_true rfl) rfl (readTold_ct hm hT2 ha2 (by omega) hw2 hk hD2 hDk (c10_a7 hm) (by omega) (by omega)) (fun v83 I3 hr3 => ?_)
      have hvv : v83 = 0 ∨ v83 = 1 := by rcases hr3 with ⟨f, _, z, _⟩ | ⟨x, y, e, _, z, _⟩; exact Or.inl z; exact Or.inr z
      refine r_goto (pc := 86) (tgt := 128) dX10_statement_86 (by decide) ?_
      refine r_ret_z (pc := 128) dX10_statement_128 rfl (by rcases hvv with h | h; exact Or.inl h; exact Or.inr h) ?_
      refine ⟨_, I3, rfl, rfl, ?_⟩
      show FrP I I3 m k ∧ _
      rw [← hp]
      rcases hr3 with ⟨f, hK, z, h4, h5, h6⟩ | ⟨x, y, e, hK, z, hx, h4, h5, h6, h7⟩
      · exact ⟨(hF2.tr h6).p, Or.inl ⟨f, hcs.trans (hK _), z, h4, h5⟩⟩
      · exact ⟨fun c j g1 g2 g3 g4 g5 => (h5 c j (by omega) g1).trans (hF2 c j g1), Or.inr ⟨_, e, hcs.trans (hK (fun h v e => .inr (dCost D h v, e))), z, hD2.cost h4 h5, h6, h7⟩⟩
  refine r_iload_n (pc := 5) dX10_statement_5 rfl ?_
  refine r_bipush (pc := 6) (v := 99) dX10_statement_6 (by decide) ?_
  refine r_icmp_eq (pc := 8) (x := hrF T p) (z := 99) (tgt := 40) dX10_statement_8 (by decide) (fun c8 => ?_) (fun c8 => ?_)
  · skip
    refine r_iconst (pc := 40) (v := 1) dX10_statement_40 (by decide) ?_
    refine r_goto (pc := 41) (tgt := 45) dX10_statement_41 (by decide) ?_
    refine r_istore_n (pc := 45) (L' := [some (.ref m), some (.int (nI k)), some (.int (hrF T p)), some (.int (nI 1))]) dX10_statement_45 (by decide) rfl rfl ?_
    refine r_iload_n (pc := 46) dX10_statement_46 rfl ?_
    refine r_if_ne_n (pc := 47) (a := 1) (tgt := 59) dX10_statement_47 (by decide) (by omega) (fun c47 => ?_) (fun c47 => ?_)
    · skip
      refine r_aload_n (pc := 59) dX10_statement_59 rfl ?_
      refine r_dup (pc := 60) dX10_statement_60 rfl ?_
      refine r_getIv (pc := 61) 10 3 99 dX10_statement_61 (fl_RX10_99 rfl) (by decide) rfl (c10_o hm) (v := nI p) (ha1) ?_
      refine r_iconst (pc := 64) (v := 1) dX10_statement_64 (by decide) ?_
      refine r_iadd_n (pc := 65) (a := p) (b := 1) dX10_statement_65 ?_
      refine r_putI (pc := 66) (v := nI (p + 1)) 10 3 99 dX10_statement_66 (fl_RX10_99 rfl) (by decide) rfl rfl (c10_o hm) ?_
      refine wp_sub [some (.ref m), some (.int (nI k)), some (.int (hrF T p)), none] ⟨rfl, ⟨rfl, ⟨rfl, trivial⟩⟩⟩ ?_
      exact k69 (up2 I1 m 3 (nI (p + 1))) (by first | exact Or.inl c8 | exact Or.inr (Or.inl c14) | exact Or.inr (Or.inr (Or.inl c20)) | exact Or.inr (Or.inr (Or.inr ⟨c26, by omega⟩))) (by exact up2_at) (by exact (up2_rd (by omega)).trans hw1) (by exact hF1.u (by omega))
    · exfalso; omega
  · skip
    refine r_iload_n (pc := 11) dX10_statement_11 rfl ?_
    refine r_bipush (pc := 12) (v := 98) dX10_statement_12 (by decide) ?_
    refine r_icmp_eq (pc := 14) (x := hrF T p) (z := 98) (tgt := 40) dX10_statement_14 (by decide) (fun c14 => ?_) (fun c14 => ?_)
    · skip
      refine r_iconst (pc := 40) (v := 1) dX10_statement_40 (by decide) ?_
      refine r_goto (pc := 41) (tgt := 45) dX10_statement_41 (by decide) ?_
      refine r_istore_n (pc := 45) (L' := [some (.ref m), some (.int (nI k)), some (.int (hrF T p)), some (.int (nI 1))]) dX10_statement_45 (by decide) rfl rfl ?_
      refine r_iload_n (pc := 46) dX10_statement_46 rfl ?_
      refine r_if_ne_n (pc := 47) (a := 1) (tgt := 59) dX10_statement_47 (by decide) (by omega) (fun c47 => ?_) (fun c47 => ?_)
      · skip
        refine r_aload_n (pc := 59) dX10_statement_59 rfl ?_
        refine r_dup (pc := 60) dX10_statement_60 rfl ?_
        refine r_getIv (pc := 61) 10 3 99 dX10_statement_61 (fl_RX10_99 rfl) (by decide) rfl (c10_o hm) (v := nI p) (ha1) ?_
        refine r_iconst (pc := 64) (v := 1) dX10_statement_64 (by decide) ?_
        refine r_iadd_n (pc := 65) (a := p) (b := 1) dX10_statement_65 ?_
        refine r_putI (pc := 66) (v := nI (p + 1)) 10 3 99 dX10_statement_66 (fl_RX10_99 rfl) (by decide) rfl rfl (c10_o hm) ?_
        refine wp_sub [some (.ref m), some (.int (nI k)), some (.int (hrF T p)), none] ⟨rfl, ⟨rfl, ⟨rfl, trivial⟩⟩⟩ ?_
        exact k69 (up2 I1 m 3 (nI (p + 1))) (by first | exact Or.inl c8 | exact Or.inr (Or.inl c14) | exact Or.inr (Or.inr (Or.inl c20)) | exact Or.inr (Or.inr (Or.inr ⟨c26, by omega⟩))) (by exact up2_at) (by exact (up2_rd (by omega)).trans hw1) (by exact hF1.u (by omega))
      · exfalso; omega
    · skip
      refine r_iload_n (pc := 17) dX10_statement_17 rfl ?_
      refine r_bipush (pc := 18) (v := 101) dX10_statement_18 (by decide) ?_
      refine r_icmp_eq (pc := 20) (x := hrF T p) (z := 101) (tgt := 40) dX10_statement_20 (by decide) (fun c20 => ?_) (fun c20 => ?_)
      · skip
        refine r_iconst (pc := 40) (v := 1) dX10_statement_40 (by decide) ?_
        refine r_goto (pc := 41) (tgt := 45) dX10_statement_41 (by decide) ?_
        refine r_istore_n (pc := 45) (L' := [some (.ref m), some (.int (nI k)), some (.int (hrF T p)), some (.int (nI 1))]) dX10_statement_45 (by decide) rfl rfl ?_
        refine r_iload_n (pc := 46) dX10_statement_46 rfl ?_
        refine r_if_ne_n (pc := 47) (a := 1) (tgt := 59) dX10_statement_47 (by decide) (by omega) (fun c47 => ?_) (fun c47 => ?_)
        · skip
          refine r_aload_n (pc := 59) dX10_statement_59 rfl ?_
          refine r_dup (pc := 60) dX10_statement_60 rfl ?_
          refine r_getIv (pc := 61) 10 3 99 dX10_statement_61 (fl_RX10_99 rfl) (by decide) rfl (c10_o hm) (v := nI p) (ha1) ?_
          refine r_iconst (pc := 64) (v := 1) dX10_statement_64 (by decide) ?_
          refine r_iadd_n (pc := 65) (a := p) (b := 1) dX10_statement_65 ?_
          refine r_putI (pc := 66) (v := nI (p + 1)) 10 3 99 dX10_statement_66 (fl_RX10_99 rfl) (by decide) rfl rfl (c10_o hm) ?_
          refine wp_sub [some (.ref m), some (.int (nI k)), some (.int (hrF T p)), none] ⟨rfl, ⟨rfl, ⟨rfl, trivial⟩⟩⟩ ?_
          exact k69 (up2 I1 m 3 (nI (p + 1))) (by first | exact Or.inl c8 | exact Or.inr (Or.inl c14) | exact Or.inr (Or.inr (Or.inl c20)) | exact Or.inr (Or.inr (Or.inr ⟨c26, by omega⟩))) (by exact up2_at) (by exact (up2_rd (by omega)).trans hw1) (by exact hF1.u (by omega))
        · exfalso; omega
      · skip
        refine r_iload_n (pc := 23) dX10_statement_23 rfl ?_
        refine r_bipush (pc := 24) (v := 119) dX10_statement_24 (by decide) ?_
        refine r_icmp_ne (pc := 26) (x := hrF T p) (z := 119) (tgt := 44) dX10_statement_26 (by decide) (fun c26 => ?_) (fun c26 => ?_)
        · skip
          have hno : cSt T D p = .inl p := by
            unfold cSt
            rw [if_neg (fun z => c8 ((hr_eq hb (n := 99) (by omega) rfl).mpr z)), if_neg (fun z => c20 ((hr_eq hb (n := 101) (by omega) rfl).mpr z)), if_neg (fun z => c14 ((hr_eq hb (n := 98) (by omega) rfl).mpr z)), if_neg (fun z => c26 ((hr_eq hb (n := 119) (by omega) rfl).mpr ⟨z.1, z.2.1⟩))]
          refine r_iconst (pc := 44) (v := 0) dX10_statement_44 (by decide) ?_
          refine r_istore_n (pc := 45) (L' := [some (.ref m), some (.int (nI k)), some (.int (hrF T p)), some (.int (nI 0))]) dX10_statement_45 (by decide) rfl rfl ?_
          refine r_iload_n (pc := 46) dX10_statement_46 rfl ?_
          refine r_if_ne_n (pc := 47) (a := 0) (tgt := 59) dX10_statement_47 (by decide) (by omega) (fun c47 => ?_) (fun c47 => ?_)
          · exfalso; omega
          · skip
            refine r_aload_n (pc := 50) dX10_statement_50 rfl ?_
            refine r_aload_n (pc := 51) dX10_statement_51 rfl ?_
            refine r_getIv (pc := 52) 10 3 99 dX10_statement_52 (fl_RX10_99 rfl) (by decide) rfl (c10_o hm) (v := nI p) (ha1) ?_
            refine r_callV_M (pc := 55) (b := m) (As := [.int (nI p)]) 10 109 dX10_statement_55 lk_X10_fails (ml_RX10_109 rfl) im_X10_fails se_X10_fails (by decide) (c10_o hm) (Nat.le_of_ble_eq_true rfl) rfl (fails_ct hm hw1) (fun v55 I9 hr9 => ?_)
            obtain ⟨rfl, rfl⟩ := hr9
            refine r_ret_z (pc := 58) dX10_statement_58 rfl (by decide) ?_
            refine ⟨_, _, rfl, rfl, ?_⟩
            show FrP I _ m k ∧ _
            rw [← hp]
            exact ⟨(hF1.u (by omega)).p, Or.inl ⟨p, hno, rfl, up2_at, by omega⟩⟩
        · skip
          refine r_aload_n (pc := 29) dX10_statement_29 rfl ?_
          refine r_get1 (pc := 30) 10 10 26 dX10_statement_30 (fl_RX10_26 rfl) (by decide) rfl (c10_o hm) (c10_p10 hm) ?_
          refine r_iload_n (pc := 33) dX10_statement_33 rfl ?_
          refine r_iald_n (pc := 34) (i := k) dX10_statement_34 (c10_a10 hm) (by decide) (by omega) (v := nI ((dT D).1)) (hD1.2.2.1) ?_
          refine r_bipush (pc := 35) (v := 20) dX10_statement_35 (by decide) ?_
          refine r_icmp_ge_n (pc := 37) (a := (dT D).1) (b := 20) (tgt := 44) dX10_statement_37 (by decide) (by omega) (by omega) (fun c37 => ?_) (fun c37 => ?_)
          · skip
            have hno : cSt T D p = .inl p := by
              unfold cSt
              rw [if_neg (fun z => c8 ((hr_eq hb (n := 99) (by omega) rfl).mpr z)), if_neg (fun z => c20 ((hr_eq hb (n := 101) (by omega) rfl).mpr z)), if_neg (fun z => c14 ((hr_eq hb (n := 98) (by omega) rfl).mpr z)), if_neg (fun z => by have := z.2.2; omega)]
            refine r_iconst (pc := 44) (v := 0) dX10_statement_44 (by decide) ?_
            refine r_istore_n (pc := 45) (L' := [some (.ref m), some (.int (nI k)), some (.int (hrF T p)), some (.int (nI 0))]) dX10_statement_45 (by decide) rfl rfl ?_
            refine r_iload_n (pc := 46) dX10_statement_46 rfl ?_
            refine r_if_ne_n (pc := 47) (a := 0) (tgt := 59) dX10_statement_47 (by decide) (by omega) (fun c47 => ?_) (fun c47 => ?_)
            · exfalso; omega
            · skip
              refine r_aload_n (pc := 50) dX10_statement_50 rfl ?_
              refine r_aload_n (pc := 51) dX10_statement_51 rfl ?_
              refine r_getIv (pc := 52) 10 3 99 dX10_statement_52 (fl_RX10_99 rfl) (by decide) rfl (c10_o hm) (v := nI p) (ha1) ?_
              refine r_callV_M (pc := 55) (b := m) (As := [.int (nI p)]) 10 109 dX10_statement_55 lk_X10_fails (ml_RX10_109 rfl) im_X10_fails se_X10_fails (by decide) (c10_o hm) (Nat.le_of_ble_eq_true rfl) rfl (fails_ct hm hw1) (fun v55 I9 hr9 => ?_)
              obtain ⟨rfl, rfl⟩ := hr9
              refine r_ret_z (pc := 58) dX10_statement_58 rfl (by decide) ?_
              refine ⟨_, _, rfl, rfl, ?_⟩
              show FrP I _ m k ∧ _
              rw [← hp]
              exact ⟨(hF1.u (by omega)).p, Or.inl ⟨p, hno, rfl, up2_at, by omega⟩⟩
          · skip
            refine r_iconst (pc := 40) (v := 1) dX10_statement_40 (by decide) ?_
            refine r_goto (pc := 41) (tgt := 45) dX10_statement_41 (by decide) ?_
            refine r_istore_n (pc := 45) (L' := [some (.ref m), some (.int (nI k)), some (.int (hrF T p)), some (.int (nI 1))]) dX10_statement_45 (by decide) rfl rfl ?_
            refine r_iload_n (pc := 46) dX10_statement_46 rfl ?_
            refine r_if_ne_n (pc := 47) (a := 1) (tgt := 59) dX10_statement_47 (by decide) (by omega) (fun c47 => ?_) (fun c47 => ?_)
            · skip
              refine r_aload_n (pc := 59) dX10_statement_59 rfl ?_
              refine r_dup (pc := 60) dX10_statement_60 rfl ?_
              refine r_getIv (pc := 61) 10 3 99 dX10_statement_61 (fl_RX10_99 rfl) (by decide) rfl (c10_o hm) (v := nI p) (ha1) ?_
              refine r_iconst (pc := 64) (v := 1) dX10_statement_64 (by decide) ?_
              refine r_iadd_n (pc := 65) (a := p) (b := 1) dX10_statement_65 ?_
              refine r_putI (pc := 66) (v := nI (p + 1)) 10 3 99 dX10_statement_66 (fl_RX10_99 rfl) (by decide) rfl rfl (c10_o hm) ?_
              refine wp_sub [some (.ref m), some (.int (nI k)), some (.int (hrF T p)), none] ⟨rfl, ⟨rfl, ⟨rfl, trivial⟩⟩⟩ ?_
              exact k69 (up2 I1 m 3 (nI (p + 1))) (by first | exact Or.inl c8 | exact Or.inr (Or.inl c14) | exact Or.inr (Or.inr (Or.inl c20)) | exact Or.inr (Or.inr (Or.inr ⟨c26, by omega⟩))) (by exact up2_at) (by exact (up2_rd (by omega)).trans hw1) (by exact hF1.u (by omega))
            · exfalso; omega
