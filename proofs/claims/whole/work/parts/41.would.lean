/-! ===== the reference: what each would do, remembered ===== -/
abbrev idq : Nat → Nat := fun x => x
def KV (I : Im) (m : Nat) (E : Ec) : Prop := ∀ h u, h < 8 → u < 520 → I (m + 18) (520 * h + u) = 0 ∨ (I (m + 18) (520 * h + u) = 1 ∧ I (m + 16) (520 * h + u) = (mk E idq h u).1 ∧ I (m + 17) (520 * h + u) = (mk E idq h u).2)
def FrK (I I2 : Im) (m : Nat) : Prop := ∀ a k, a ≠ m + 16 → a ≠ m + 17 → a ≠ m + 18 → I2 a k = I a k
/-- the reference is at work on the trade k under E's terms -/
def MS (I : Im) (m k : Nat) (E : Ec) (T : Lt) (cn : Nat) : Prop := MtC I m k E T ∧ MtT I m k E ∧ I m 20 = nI cn ∧ cn ≤ 10 ∧ k < cn ∧ KV I m E
theorem FrK.rf {I : Im} {m : Nat} : FrK I I m := fun _ _ _ _ _ => rfl
theorem FrK.tr {I I2 I3 : Im} {m : Nat} (h : FrK I I2 m) (h2 : FrK I2 I3 m) : FrK I I3 m := fun a k x y z => (h2 a k x y z).trans (h a k x y z)
theorem MtC.keep {I I2 : Im} {m k : Nat} {E : Ec} {T : Lt} (h : MtC I m k E T) (hf : ∀ a k, m + 2 ≤ a → a < m + 10 → I2 a k = I a k) : MtC I2 m k E T :=
  ⟨(hf _ _ (by omega) (by omega)).trans h.1, h.2.1, fun b hb => (hf _ _ (by omega) (by omega)).trans (h.2.2.1 b hb), h.2.2.2.1, fun b hb => (hf _ _ (by omega) (by omega)).trans (h.2.2.2.2.1 b hb), h.2.2.2.2.2.1, (hf _ _ (by omega) (by omega)).trans h.2.2.2.2.2.2.1, h.2.2.2.2.2.2.2.1, fun i hi => ⟨(hf _ _ (by omega) (by omega)).trans (h.2.2.2.2.2.2.2.2.1 i hi).1, (hf _ _ (by omega) (by omega)).trans (h.2.2.2.2.2.2.2.2.1 i hi).2.1, (hf _ _ (by omega) (by omega)).trans (h.2.2.2.2.2.2.2.2.1 i hi).2.2.1, (h.2.2.2.2.2.2.2.2.1 i hi).2.2.2⟩, h.2.2.2.2.2.2.2.2.2⟩
theorem MS.keep {I I2 : Im} {m k cn : Nat} {E : Ec} {T : Lt} (h : MS I m k E T cn) (hf : FrK I I2 m) (hK : KV I2 m E) : MS I2 m k E T cn := by
  have f0 : ∀ j, I2 m j = I m j := fun j => hf m j (by omega) (by omega) (by omega)
  exact ⟨h.1.keep (fun a k h1 h2 => hf a k (by omega) (by omega) (by omega)), ⟨(f0 _).trans h.2.1.1, (f0 _).trans h.2.1.2.1, (f0 _).trans h.2.1.2.2.1, h.2.1.2.2.2.1, (f0 _).trans h.2.1.2.2.2.2.1, (f0 _).trans h.2.1.2.2.2.2.2⟩, (f0 _).trans h.2.2.1, h.2.2.2.1, h.2.2.2.2.1, hK⟩
abbrev TkQ (I : Im) (G : Gm) (m : Nat) (E : Ec) (v : Int32) : Option Value → Mm → Prop := qM G (fun x I2 => x = v ∧ KV I2 m E ∧ FrK I I2 m)
/-- takeBy and earnBy of the house b, with d frames, for costs of at most cb -/
def TKb (G : Gm) (m k : Nat) (E : Ec) (T : Lt) (cn cb d b : Nat) : Prop := ∀ (I : Im) (u : Nat), MS I m k E T cn → u + cb * (7 - b) ≤ 519 → Ct d 0 0 YX10_takeBy [.ref m, .int (nI b), .int (nI u)] (I, G) (TkQ I G m E (mk E idq b u).1)
def EKb (G : Gm) (m k : Nat) (E : Ec) (T : Lt) (cn cb d b : Nat) : Prop := ∀ (I : Im) (u : Nat), MS I m k E T cn → u + cb * (7 - b) ≤ 519 → Ct d 0 0 YX10_earnBy [.ref m, .int (nI b), .int (nI u)] (I, G) (TkQ I G m E (mk E idq b u).2)
theorem bs_isB (g : Nat → Int32) : ∀ k, isB g (fun _ => true) 0 (k + 1) (bsF g k)
  | 0 => ⟨Nat.le_refl _, by unfold bsF; omega, rfl, fun p _ hp _ => by obtain rfl : p = 0 := (by omega); exact Int32.le_refl _, fun p _ hp _ => absurd hp (Nat.not_lt_zero _)⟩
  | k + 1 => by
    obtain ⟨-, b1, b2, b3, b4⟩ := bs_isB g k
    unfold bsF
    by_cases c : g (bsF g k) < g (k + 1)
    · rw [if_pos c]
      refine ⟨Nat.zero_le _, by omega, rfl, fun p _ hp _ => ?_, fun p _ hp _ => Int32.lt_of_le_of_lt (b3 p (Nat.zero_le _) hp rfl) c⟩
      by_cases e : p = k + 1
      · subst e
        exact Int32.le_refl _
      · exact Int32.le_of_lt (Int32.lt_of_le_of_lt (b3 p (Nat.zero_le _) (by omega) rfl) c)
    · rw [if_neg c]
      refine ⟨Nat.zero_le _, by omega, rfl, fun p _ hp _ => ?_, b4⟩
      by_cases e : p = k + 1
      · subst e
        exact Int32.not_lt.mp c
      · exact b3 p (Nat.zero_le _) (by omega) rfl
theorem cm_isB (g : Nat → Int32) : ∀ j, j ≤ 41 → isB g (fun _ => true) (41 - j) 42 (cmS g j).1 ∧ (cmS g j).2 = g (cmS g j).1
  | 0, _ => ⟨⟨Nat.le_refl _, by unfold cmS; omega, rfl, fun p h2 hp _ => by obtain rfl : p = 41 := (by omega); exact Int32.le_refl _, fun p h2 hp _ => absurd hp (by unfold cmS; omega)⟩, rfl⟩
  | j + 1, hj => by
    obtain ⟨⟨b0, b1, b2, b3, b4⟩, hm⟩ := cm_isB g j (by omega)
    have es : cmS g (j + 1) = if (cmS g j).2 ≤ g (40 - j) then (40 - j, g (40 - j)) else cmS g j := rfl
    rw [es, show 41 - (j + 1) = 40 - j by omega]
    by_cases c : (cmS g j).2 ≤ g (40 - j)
    · rw [if_pos c]
      refine ⟨⟨Nat.le_refl _, by omega, rfl, fun p h2 hp _ => ?_, fun p h2 hp _ => absurd hp (by omega)⟩, rfl⟩
      by_cases e : p = 40 - j
      · subst e
        exact Int32.le_refl _
      · exact Int32.le_trans (b3 p (by omega) hp rfl) (hm ▸ c)
    · rw [if_neg c]
      refine ⟨⟨by omega, b1, rfl, fun p h2 hp _ => ?_, fun p h2 hp _ => ?_⟩, hm⟩
      · by_cases e : p = 40 - j
        · subst e
          rw [← hm]
          exact Int32.le_of_lt (Int32.not_le.mp c)
        · exact b3 p (by omega) hp rfl
      · by_cases e : p = 40 - j
        · subst e
          rw [← hm]
          exact Int32.not_le.mp c
        · exact b4 p (by omega) hp rfl
theorem bs_cm (g : Nat → Int32) : bsF g 41 = (cmS g 41).1 := isB_un (bs_isB g 41) (cm_isB g 41 (by omega)).1
theorem sm_mul (c : Int32) (P : Nat → Prop) [DecidablePred P] (t : Nat → Int32) : ∀ n, sm (fun b => if P b then c * t b else 0) n = c * sm (fun b => if P b then t b else 0) n
  | 0 => Int32.mul_zero.symm
  | n + 1 => by
    unfold sm
    rw [sm_mul c P t n, Int32.mul_add]
    by_cases h : P n
    · rw [if_pos h, if_pos h]
    · rw [if_neg h, if_neg h, Int32.mul_zero]

set_option maxRecDepth 100000 in
theorem bestPriceM_ct {d : Nat} {I : Im} {G : Gm} {m k cn cb : Nat} {E : Ec} {T : Lt} (hm : isC10 G m) (hS : MS I m k E T cn) (hcb : ∀ b, eC E b ≤ cb) (hcb6 : cb ≤ 60) {b u : Nat} (hb1 : 1 ≤ b) (hb : b < 8) (hu : u ≤ 600) (hTK : TKb G m k E T cn cb (d + 1) b) : Ct (d + 2) 0 0 YX10_bestPrice [.ref m, .int (nI b), .int (nI u)] (I, G) (TkQ I G m E (nI (owF E idq (mk E idq) b u))) := by
  refine Ct.of (by decide) (by simp [Value.category]) (Nat.le_of_ble_eq_true rfl) ?_
  have hn8 := hS.1.2.1
  have hcn10 := hS.2.2.2.1
  have hkc := hS.2.2.2.2.1
  show wp _ _ _ _ 0 [some (.ref m), some (.int (nI b)), some (.int (nI u)), none, none, none, none] [] _ _
  refine r_iconst (pc := 0) (v := 0) dX10_bestPrice_0 (by decide) ?_
  refine r_istore_n (pc := 1) (L' := [some (.ref m), some (.int (nI b)), some (.int (nI u)), some (.int (nI 0)), none, none, none]) dX10_bestPrice_1 (by decide) rfl rfl ?_
  refine r_iconst (pc := 2) (v := 0) dX10_bestPrice_2 (by decide) ?_
  refine r_istore (pc := 3) (L' := [some (.ref m), some (.int (nI b)), some (.int (nI u)), some (.int (nI 0)), some (.int (nI 0)), none, none]) dX10_bestPrice_3 (by decide) rfl rfl ?_
  refine r_iconst (pc := 5) (v := 0) dX10_bestPrice_5 (by decide) ?_
  refine r_istore (pc := 6) (L' := [some (.ref m), some (.int (nI b)), some (.int (nI u)), some (.int (nI 0)), some (.int (nI 0)), some (.int (nI 0)), none]) dX10_bestPrice_6 (by decide) rfl rfl ?_
  have lp8 : ∀ (n8 : Nat), ∀ (x : Nat) (be : Nat) (mo : Int32) (I1 : Im), 42 - x = n8 → (x ≤ 42) → (x = 0 ∨ (be = bsF (fun x => (nI x - nI u) * (mk E idq b (x + eC E b)).1) (x - 1) ∧ mo = (nI be - nI u) * (mk E idq b (be + eC E b)).1)) → (KV I1 m E) → (FrK I I1 m) → wp (d + 2) 0 0 YX10_bestPrice 8 [some (.ref m), some (.int (nI b)), some (.int (nI u)), some (.int (nI be)), some (.int mo), some (.int (nI x)), none] [] (I1, G) (TkQ I G m E (nI (owF E idq (mk E idq) b u))) := by
    intro n8
    induction n8 using Nat.strongRecOn with
    | ind n8 ih8 =>
      intro x be mo I1 hmu8 hx hbe hK1 hF1
      have hS1 := hS.keep hF1 hK1
      have hcbb := hcb b
      refine r_iload (pc := 8) dX10_bestPrice_8 rfl ?_
      refine r_bipush (pc := 10) (v := 41) dX10_bestPrice_10 (by decide) ?_
      refine r_icmp_gt_n (pc := 12) (a := x) (b := 41) (tgt := 67) dX10_bestPrice_12 (by decide) (by omega) (by omega) (fun c12 => ?_) (fun c12 => ?_)
      · skip
        refine r_iload_n (pc := 67) dX10_bestPrice_67 rfl ?_
        refine r_ret_i (pc := 68) dX10_bestPrice_68 rfl ?_
        exact ⟨_, I1, rfl, rfl, by rw [(hbe.resolve_left (by omega)).1, show x - 1 = 41 by omega]; rfl, hK1, hF1⟩
      · skip
        refine r_iload (pc := 15) dX10_bestPrice_15 rfl ?_
        refine r_iload_n (pc := 17) dX10_bestPrice_17 rfl ?_
        refine r_isub (pc := 18) (x := nI x) (z := nI u) dX10_bestPrice_18 ?_
        refine r_aload_n (pc := 19) dX10_bestPrice_19 rfl ?_
        refine r_iload_n (pc := 20) dX10_bestPrice_20 rfl ?_
        refine r_iload (pc := 21) dX10_bestPrice_21 rfl ?_
        refine r_aload_n (pc := 23) dX10_bestPrice_23 rfl ?_
        refine r_aload_n (pc := 24) dX10_bestPrice_24 rfl ?_
        refine r_getIv (pc := 25) 10 21 175 dX10_bestPrice_25 (fl_RX10_175 rfl) (by decide) rfl (c10_o hm) (v := nI k) (hS1.2.1.1) ?_
        refine r_iload_n (pc := 28) dX10_bestPrice_28 rfl ?_
        refine r_callV_P (pc := 29) (b := m) (As := [.int (nI k), .int (nI b)]) 10 162 dX10_bestPrice_29 lk_X10_costOf (ml_RX10_162 rfl) im_X10_costOf se_X10_costOf (by decide) (c10_o hm) (Nat.le_of_ble_eq_true rfl) rfl (costOf_ct hm hS1.1 (by omega) (by omega)) ?_
        refine r_iadd_n (pc := 32) (a := x) (b := eC E b) dX10_bestPrice_32 ?_
        refine r_callV_M (pc := 33) (b := m) (As := [.int (nI b), .int (nI (x + (eC E b)))]) 10 204 dX10_bestPrice_33 lk_X10_takeBy (ml_RX10_204 rfl) im_X10_takeBy se_X10_takeBy (by decide) (c10_o hm) (Nat.le_of_ble_eq_true rfl) rfl (hTK I1 _ hS1 (by have := Nat.mul_le_mul hcb6 (show 7 - b ≤ 6 by omega); omega)) (fun v33 I2 hr33 => ?_)
        obtain ⟨rfl, hK33, hF33⟩ := hr33
        have hS2 := hS1.keep hF33 hK33
        refine r_imul (pc := 36) (x := (nI x) - (nI u)) (z := (mk E idq b (x + (eC E b))).1) dX10_bestPrice_36 ?_
        refine r_istore (pc := 37) (L' := [some (.ref m), some (.int (nI b)), some (.int (nI u)), some (.int (nI be)), some (.int mo), some (.int (nI x)), some (.int (((nI x) - (nI u)) * ((mk E idq b (x + (eC E b))).1)))]) dX10_bestPrice_37 (by decide) rfl rfl ?_
        refine r_iload (pc := 39) dX10_bestPrice_39 rfl ?_
        refine r_if_le_n (pc := 41) (a := x) (tgt := 54) dX10_bestPrice_41 (by decide) (by omega) (fun c41 => ?_) (fun c41 => ?_)
        · skip
          have hcase : x = bsF (fun x => (nI x - nI u) * (mk E idq b (x + eC E b)).1) (x + 1 - 1) ∧ (nI x - nI u) * (mk E idq b (x + eC E b)).1 = (nI x - nI u) * (mk E idq b (x + eC E b)).1 := by obtain rfl : x = 0 := (by omega); exact ⟨rfl, rfl⟩
          refine r_iload (pc := 54) dX10_bestPrice_54 rfl ?_
          refine r_istore (pc := 56) (L' := [some (.ref m), some (.int (nI b)), some (.int (nI u)), some (.int (nI be)), some (.int (((nI x) - (nI u)) * ((mk E idq b (x + (eC E b))).1))), some (.int (nI x)), some (.int (((nI x) - (nI u)) * ((mk E idq b (x + (eC E b))).1)))]) dX10_bestPrice_56 (by decide) rfl rfl ?_
          refine r_iload (pc := 58) dX10_bestPrice_58 rfl ?_
          refine r_istore_n (pc := 60) (L' := [some (.ref m), some (.int (nI b)), some (.int (nI u)), some (.int (nI x)), some (.int (((nI x) - (nI u)) * ((mk E idq b (x + (eC E b))).1))), some (.int (nI x)), some (.int (((nI x) - (nI u)) * ((mk E idq b (x + (eC E b))).1)))]) dX10_bestPrice_60 (by decide) rfl rfl ?_
          refine r_iinc (pc := 61) (v := nI (x + 1)) (L' := [some (.ref m), some (.int (nI b)), some (.int (nI u)), some (.int (nI x)), some (.int (((nI x) - (nI u)) * ((mk E idq b (x + (eC E b))).1))), some (.int (nI (x + 1))), some (.int (((nI x) - (nI u)) * ((mk E idq b (x + (eC E b))).1)))]) dX10_bestPrice_61 rfl (nI_inc _) (by decide) rfl rfl ?_
          refine r_goto (pc := 64) (tgt := 8) dX10_bestPrice_64 (by decide) ?_
          refine wp_sub [some (.ref m), some (.int (nI b)), some (.int (nI u)), some (.int (nI x)), some (.int (((nI x) - (nI u)) * ((mk E idq b (x + (eC E b))).1))), some (.int (nI (x + 1))), none] ⟨rfl, ⟨rfl, ⟨rfl, ⟨rfl, ⟨rfl, ⟨rfl, trivial⟩⟩⟩⟩⟩⟩ ?_
          exact ih8 _ (by omega) (x + 1) x (((nI x) - (nI u)) * ((mk E idq b (x + (eC E b))).1)) I2 rfl (by omega) (Or.inr hcase) hK33 (hF1.tr hF33)
        · skip
          refine r_iload (pc := 44) dX10_bestPrice_44 rfl ?_
          refine r_iload (pc := 46) dX10_bestPrice_46 rfl ?_
          refine r_icmp_gt (pc := 48) (x := ((nI x) - (nI u)) * ((mk E idq b (x + (eC E b))).1)) (z := mo) (tgt := 54) dX10_bestPrice_48 (by decide) (fun c48 => ?_) (fun c48 => ?_)
          · skip
            have hbe2 := hbe.resolve_left (by omega)
            have hcase : x = bsF (fun x => (nI x - nI u) * (mk E idq b (x + eC E b)).1) (x + 1 - 1) ∧ (nI x - nI u) * (mk E idq b (x + eC E b)).1 = (nI x - nI u) * (mk E idq b (x + eC E b)).1 := ⟨by rw [Nat.add_sub_cancel, bsF_step _ (by omega), ← hbe2.1]; exact (if_pos (by rw [← hbe2.2]; exact c48)).symm, rfl⟩
            refine r_iload (pc := 54) dX10_bestPrice_54 rfl ?_
            refine r_istore (pc := 56) (L' := [some (.ref m), some (.int (nI b)), some (.int (nI u)), some (.int (nI be)), some (.int (((nI x) - (nI u)) * ((mk E idq b (x + (eC E b))).1))), some (.int (nI x)), some (.int (((nI x) - (nI u)) * ((mk E idq b (x + (eC E b))).1)))]) dX10_bestPrice_56 (by decide) rfl rfl ?_
            refine r_iload (pc := 58) dX10_bestPrice_58 rfl ?_
            refine r_istore_n (pc := 60) (L' := [some (.ref m), some (.int (nI b)), some (.int (nI u)), some (.int (nI x)), some (.int (((nI x) - (nI u)) * ((mk E idq b (x + (eC E b))).1))), some (.int (nI x)), some (.int (((nI x) - (nI u)) * ((mk E idq b (x + (eC E b))).1)))]) dX10_bestPrice_60 (by decide) rfl rfl ?_
            refine r_iinc (pc := 61) (v := nI (x + 1)) (L' := [some (.ref m), some (.int (nI b)), some (.int (nI u)), some (.int (nI x)), some (.int (((nI x) - (nI u)) * ((mk E idq b (x + (eC E b))).1))), some (.int (nI (x + 1))), some (.int (((nI x) - (nI u)) * ((mk E idq b (x + (eC E b))).1)))]) dX10_bestPrice_61 rfl (nI_inc _) (by decide) rfl rfl ?_
            refine r_goto (pc := 64) (tgt := 8) dX10_bestPrice_64 (by decide) ?_
            refine wp_sub [some (.ref m), some (.int (nI b)), some (.int (nI u)), some (.int (nI x)), some (.int (((nI x) - (nI u)) * ((mk E idq b (x + (eC E b))).1))), some (.int (nI (x + 1))), none] ⟨rfl, ⟨rfl, ⟨rfl, ⟨rfl, ⟨rfl, ⟨rfl, trivial⟩⟩⟩⟩⟩⟩ ?_
            exact ih8 _ (by omega) (x + 1) x (((nI x) - (nI u)) * ((mk E idq b (x + (eC E b))).1)) I2 rfl (by omega) (Or.inr hcase) hK33 (hF1.tr hF33)
          · skip
            have hbe2 := hbe.resolve_left (by omega)
            have hcase : be = bsF (fun x => (nI x - nI u) * (mk E idq b (x + eC E b)).1) (x + 1 - 1) ∧ mo = (nI be - nI u) * (mk E idq b (be + eC E b)).1 := ⟨by rw [Nat.add_sub_cancel, bsF_step _ (by omega), ← hbe2.1]; exact (if_neg (by rw [← hbe2.2]; exact c48)).symm, hbe2.2⟩
            refine r_goto (pc := 51) (tgt := 61) dX10_bestPrice_51 (by decide) ?_
            refine r_iinc (pc := 61) (v := nI (x + 1)) (L' := [some (.ref m), some (.int (nI b)), some (.int (nI u)), some (.int (nI be)), some (.int mo), some (.int (nI (x + 1))), some (.int (((nI x) - (nI u)) * ((mk E idq b (x + (eC E b))).1)))]) dX10_bestPrice_61 rfl (nI_inc _) (by decide) rfl rfl ?_
            refine r_goto (pc := 64) (tgt := 8) dX10_bestPrice_64 (by decide) ?_
            refine wp_sub [some (.ref m), some (.int (nI b)), some (.int (nI u)), some (.int (nI be)), some (.int mo), some (.int (nI (x + 1))), none] ⟨rfl, ⟨rfl, ⟨rfl, ⟨rfl, ⟨rfl, ⟨rfl, trivial⟩⟩⟩⟩⟩⟩ ?_
            exact ih8 _ (by omega) (x + 1) be mo I2 rfl (by omega) (Or.inr hcase) hK33 (hF1.tr hF33)
  exact lp8 _ 0 0 0 I rfl (by omega) (by exact Or.inl rfl) hS.2.2.2.2.2 FrK.rf

set_option maxRecDepth 100000 in
theorem alikePriceM_ct {d : Nat} {I : Im} {G : Gm} {m k cn cb : Nat} {E : Ec} {T : Lt} (hm : isC10 G m) (hS : MS I m k E T cn) (hcb : ∀ b, eC E b ≤ cb) (hcb6 : cb ≤ 60) {a u : Nat} (ha : a < 8) (hu : u ≤ 600) (hTK : ∀ b, eS E b = some a → TKb G m k E T cn cb (d + 1) b) : Ct (d + 2) 0 0 YX10_alikePrice [.ref m, .int (nI a), .int (nI u)] (I, G) (TkQ I G m E (nI (cmF E idq (mk E idq) a u))) := by
  refine Ct.of (by decide) (by simp [Value.category]) (Nat.le_of_ble_eq_true rfl) ?_
  have hn8 := hS.1.2.1
  have hcn10 := hS.2.2.2.1
  have hkc := hS.2.2.2.2.1
  show wp _ _ _ _ 0 [some (.ref m), some (.int (nI a)), some (.int (nI u)), none, none, none, none, none] [] _ _
  refine r_iconst (pc := 0) (v := 0) dX10_alikePrice_0 (by decide) ?_
  refine r_istore_n (pc := 1) (L' := [some (.ref m), some (.int (nI a)), some (.int (nI u)), some (.int (nI 0)), none, none, none, none]) dX10_alikePrice_1 (by decide) rfl rfl ?_
  refine r_iconst (pc := 2) (v := 0) dX10_alikePrice_2 (by decide) ?_
  refine r_istore (pc := 3) (L' := [some (.ref m), some (.int (nI a)), some (.int (nI u)), some (.int (nI 0)), some (.int (nI 0)), none, none, none]) dX10_alikePrice_3 (by decide) rfl rfl ?_
  refine r_iconst (pc := 5) (v := 0) dX10_alikePrice_5 (by decide) ?_
  refine r_istore (pc := 6) (L' := [some (.ref m), some (.int (nI a)), some (.int (nI u)), some (.int (nI 0)), some (.int (nI 0)), some (.int (nI 0)), none, none]) dX10_alikePrice_6 (by decide) rfl rfl ?_
  have lp8 : ∀ (n8 : Nat), ∀ (x : Nat) (be : Nat) (mo : Int32) (I1 : Im), 42 - x = n8 → (x ≤ 42) → (x = 0 ∨ (be = bsF (fun x => (nI x - nI u) * cmT E idq (mk E idq) a x) (x - 1) ∧ mo = (nI be - nI u) * cmT E idq (mk E idq) a be)) → (KV I1 m E) → (FrK I I1 m) → wp (d + 2) 0 0 YX10_alikePrice 8 [some (.ref m), some (.int (nI a)), some (.int (nI u)), some (.int (nI be)), some (.int mo), some (.int (nI x)), none, none] [] (I1, G) (TkQ I G m E (nI (cmF E idq (mk E idq) a u))) := by
    intro n8
    induction n8 using Nat.strongRecOn with
    | ind n8 ih8 =>
      intro x be mo I1 hmu8 hx hbe hK1 hF1
      have hS1 := hS.keep hF1 hK1
      refine r_iload (pc := 8) dX10_alikePrice_8 rfl ?_
      refine r_bipush (pc := 10) (v := 41) dX10_alikePrice_10 (by decide) ?_
      refine r_icmp_gt_n (pc := 12) (a := x) (b := 41) (tgt := 121) dX10_alikePrice_12 (by decide) (by omega) (by omega) (fun c12 => ?_) (fun c12 => ?_)
      · skip
        refine r_iload_n (pc := 121) dX10_alikePrice_121 rfl ?_
        refine r_ret_i (pc := 122) dX10_alikePrice_122 rfl ?_
        exact ⟨_, I1, rfl, rfl, by rw [(hbe.resolve_left (by omega)).1, show x - 1 = 41 by omega, bs_cm]; rfl, hK1, hF1⟩
      · skip
        refine r_iconst (pc := 15) (v := 0) dX10_alikePrice_15 (by decide) ?_
        refine r_istore (pc := 16) (L' := [some (.ref m), some (.int (nI a)), some (.int (nI u)), some (.int (nI be)), some (.int mo), some (.int (nI x)), some (.int (nI 0)), none]) dX10_alikePrice_16 (by decide) rfl rfl ?_
        refine r_iconst (pc := 18) (v := 0) dX10_alikePrice_18 (by decide) ?_
        refine r_istore (pc := 19) (L' := [some (.ref m), some (.int (nI a)), some (.int (nI u)), some (.int (nI be)), some (.int mo), some (.int (nI x)), some (.int (nI 0)), some (.int (nI 0))]) dX10_alikePrice_19 (by decide) rfl rfl ?_
        have lp21 : ∀ (n21 : Nat), ∀ (b : Nat) (is : Int32) (I2 : Im), eN E - b = n21 → (b ≤ eN E) → (is = sm (fun b => if eS E b = some a ∧ ¬ jn (eJ E) (nI b) then (nI x - nI u) * (mk E idq b (x + eC E b)).1 else 0) b) → (KV I2 m E) → (FrK I I2 m) → wp (d + 2) 0 0 YX10_alikePrice 21 [some (.ref m), some (.int (nI a)), some (.int (nI u)), some (.int (nI be)), some (.int mo), some (.int (nI x)), some (.int is), some (.int (nI b))] [] (I2, G) (TkQ I G m E (nI (cmF E idq (mk E idq) a u))) := by
          intro n21
          induction n21 using Nat.strongRecOn with
          | ind n21 ih21 =>
            intro b is I2 hmu21 hb his hK2 hF2
            have hS2 := hS.keep hF2 hK2
            have hcbb : eC E b ≤ cb := hcb b
            refine r_iload (pc := 21) dX10_alikePrice_21 rfl ?_
            refine r_aload_n (pc := 23) dX10_alikePrice_23 rfl ?_
            refine r_get1 (pc := 24) 10 6 13 dX10_alikePrice_24 (fl_RX10_13 rfl) (by decide) rfl (c10_o hm) (c10_p6 hm) ?_
            refine r_aload_n (pc := 27) dX10_alikePrice_27 rfl ?_
            refine r_getIv (pc := 28) 10 21 175 dX10_alikePrice_28 (fl_RX10_175 rfl) (by decide) rfl (c10_o hm) (v := nI k) (hS2.2.1.1) ?_
            refine r_iald_n (pc := 31) (i := k) dX10_alikePrice_31 (c10_a6 hm) (by decide) (by omega) (v := nI (eN E)) (hS2.1.1) ?_
            refine r_icmp_ge_n (pc := 32) (a := b) (b := eN E) (tgt := 93) dX10_alikePrice_32 (by decide) (by omega) (by omega) (fun c32 => ?_) (fun c32 => ?_)
            · skip
              have his2 : is = (nI x - nI u) * cmT E idq (mk E idq) a x := by rw [his, show b = eN E by omega]; exact sm_mul _ _ _ _
              refine r_iload (pc := 93) dX10_alikePrice_93 rfl ?_
              refine r_if_le_n (pc := 95) (a := x) (tgt := 108) dX10_alikePrice_95 (by decide) (by omega) (fun c95 => ?_) (fun c95 => ?_)
              · skip
                have hcase : x = bsF (fun x => (nI x - nI u) * cmT E idq (mk E idq) a x) (x + 1 - 1) ∧ is = (nI x - nI u) * cmT E idq (mk E idq) a x := ⟨by obtain rfl : x = 0 := (by omega); rfl, his2⟩
                refine r_iload (pc := 108) dX10_alikePrice_108 rfl ?_
                refine r_istore (pc := 110) (L' := [some (.ref m), some (.int (nI a)), some (.int (nI u)), some (.int (nI be)), some (.int is), some (.int (nI x)), some (.int is), some (.int (nI b))]) dX10_alikePrice_110 (by decide) rfl rfl ?_
                refine r_iload (pc := 112) dX10_alikePrice_112 rfl ?_
                refine r_istore_n (pc := 114) (L' := [some (.ref m), some (.int (nI a)), some (.int (nI u)), some (.int (nI x)), some (.int is), some (.int (nI x)), some (.int is), some (.int (nI b))]) dX10_alikePrice_114 (by decide) rfl rfl ?_
                refine r_iinc (pc := 115) (v := nI (x + 1)) (L' := [some (.ref m), some (.int (nI a)), some (.int (nI u)), some (.int (nI x)), some (.int is), some (.int (nI (x + 1))), some (.int is), some (.int (nI b))]) dX10_alikePrice_115 rfl (nI_inc _) (by decide) rfl rfl ?_
                refine r_goto (pc := 118) (tgt := 8) dX10_alikePrice_118 (by decide) ?_
                refine wp_sub [some (.ref m), some (.int (nI a)), some (.int (nI u)), some (.int (nI x)), some (.int is), some (.int (nI (x + 1))), none, none] ⟨rfl, ⟨rfl, ⟨rfl, ⟨rfl, ⟨rfl, ⟨rfl, trivial⟩⟩⟩⟩⟩⟩ ?_
                exact ih8 _ (by omega) (x + 1) x is I2 rfl (by omega) (Or.inr hcase) hK2 hF2
              · skip
                refine r_iload (pc := 98) dX10_alikePrice_98 rfl ?_
                refine r_iload (pc := 100) dX10_alikePrice_100 rfl ?_
                refine r_icmp_gt (pc := 102) (x := is) (z := mo) (tgt := 108) dX10_alikePrice_102 (by decide) (fun c102 => ?_) (fun c102 => ?_)
                · skip
                  have hbe2 := hbe.resolve_left (by omega)
                  have hcase : x = bsF (fun x => (nI x - nI u) * cmT E idq (mk E idq) a x) (x + 1 - 1) ∧ is = (nI x - nI u) * cmT E idq (mk E idq) a x := ⟨by rw [Nat.add_sub_cancel, bsF_step _ (by omega), ← hbe2.1]; exact (if_pos (by rw [← hbe2.2, ← his2]; exact c102)).symm, his2⟩
                  refine r_iload (pc := 108) dX10_alikePrice_108 rfl ?_
                  refine r_istore (pc := 110) (L' := [some (.ref m), some (.int (nI a)), some (.int (nI u)), some (.int (nI be)), some (.int is), some (.int (nI x)), some (.int is), some (.int (nI b))]) dX10_alikePrice_110 (by decide) rfl rfl ?_
                  refine r_iload (pc := 112) dX10_alikePrice_112 rfl ?_
                  refine r_istore_n (pc := 114) (L' := [some (.ref m), some (.int (nI a)), some (.int (nI u)), some (.int (nI x)), some (.int is), some (.int (nI x)), some (.int is), some (.int (nI b))]) dX10_alikePrice_114 (by decide) rfl rfl ?_
                  refine r_iinc (pc := 115) (v := nI (x + 1)) (L' := [some (.ref m), some (.int (nI a)), some (.int (nI u)), some (.int (nI x)), some (.int is), some (.int (nI (x + 1))), some (.int is), some (.int (nI b))]) dX10_alikePrice_115 rfl (nI_inc _) (by decide) rfl rfl ?_
                  refine r_goto (pc := 118) (tgt := 8) dX10_alikePrice_118 (by decide) ?_
                  refine wp_sub [some (.ref m), some (.int (nI a)), some (.int (nI u)), some (.int (nI x)), some (.int is), some (.int (nI (x + 1))), none, none] ⟨rfl, ⟨rfl, ⟨rfl, ⟨rfl, ⟨rfl, ⟨rfl, trivial⟩⟩⟩⟩⟩⟩ ?_
                  exact ih8 _ (by omega) (x + 1) x is I2 rfl (by omega) (Or.inr hcase) hK2 hF2
                · skip
                  have hbe2 := hbe.resolve_left (by omega)
                  have hcase : be = bsF (fun x => (nI x - nI u) * cmT E idq (mk E idq) a x) (x + 1 - 1) ∧ mo = (nI be - nI u) * cmT E idq (mk E idq) a be := ⟨by rw [Nat.add_sub_cancel, bsF_step _ (by omega), ← hbe2.1]; exact (if_neg (by rw [← hbe2.2, ← his2]; exact c102)).symm, hbe2.2⟩
                  refine r_goto (pc := 105) (tgt := 115) dX10_alikePrice_105 (by decide) ?_
                  refine r_iinc (pc := 115) (v := nI (x + 1)) (L' := [some (.ref m), some (.int (nI a)), some (.int (nI u)), some (.int (nI be)), some (.int mo), some (.int (nI (x + 1))), some (.int is), some (.int (nI b))]) dX10_alikePrice_115 rfl (nI_inc _) (by decide) rfl rfl ?_
                  refine r_goto (pc := 118) (tgt := 8) dX10_alikePrice_118 (by decide) ?_
                  refine wp_sub [some (.ref m), some (.int (nI a)), some (.int (nI u)), some (.int (nI be)), some (.int mo), some (.int (nI (x + 1))), none, none] ⟨rfl, ⟨rfl, ⟨rfl, ⟨rfl, ⟨rfl, ⟨rfl, trivial⟩⟩⟩⟩⟩⟩ ?_
                  exact ih8 _ (by omega) (x + 1) be mo I2 rfl (by omega) (Or.inr hcase) hK2 hF2
            · skip
              refine r_aload_n (pc := 35) dX10_alikePrice_35 rfl ?_
              refine r_aload_n (pc := 36) dX10_alikePrice_36 rfl ?_
              refine r_getIv (pc := 37) 10 21 175 dX10_alikePrice_37 (fl_RX10_175 rfl) (by decide) rfl (c10_o hm) (v := nI k) (hS2.2.1.1) ?_
              refine r_iload (pc := 40) dX10_alikePrice_40 rfl ?_
              refine r_iload_n (pc := 42) dX10_alikePrice_42 rfl ?_
              refine r_callV_P (pc := 43) (b := m) (As := [.int (nI k), .int (nI b), .int (nI a)]) 10 151 dX10_alikePrice_43 lk_X10_buys (ml_RX10_151 rfl) im_X10_buys se_X10_buys (by decide) (c10_o hm) (Nat.le_of_ble_eq_true rfl) rfl (buys_ct hm hS2.1 (by omega) (by omega) (by omega)) ?_
              refine r_if_eq_b (pc := 46) (tgt := 87) dX10_alikePrice_46 (by decide) (fun c46 => ?_) (fun c46 => ?_)
              · skip
                have hcase2 : (if eS E b = some a ∧ ¬ jn (eJ E) (nI b) then (nI x - nI u) * (mk E idq b (x + eC E b)).1 else 0) = 0 := if_neg (fun q => c46 q.1)
                refine r_iinc (pc := 87) (v := nI (b + 1)) (L' := [some (.ref m), some (.int (nI a)), some (.int (nI u)), some (.int (nI be)), some (.int mo), some (.int (nI x)), some (.int is), some (.int (nI (b + 1)))]) dX10_alikePrice_87 rfl (nI_inc _) (by decide) rfl rfl ?_
                refine r_goto (pc := 90) (tgt := 21) dX10_alikePrice_90 (by decide) ?_
                exact ih21 _ (by omega) (b + 1) is I2 rfl (by omega) (by rw [show ∀ f k, sm f (k + 1) = sm f k + f k from fun _ _ => rfl, ← his]; refine Eq.trans ?_ (congrArg (fun z => is + z) hcase2).symm; first | rfl | exact (Int32.add_zero _).symm) (by first | exact hK80 | exact hK2) (by first | exact (hF2.tr hF80) | exact hF2)
              · skip
                refine r_aload_n (pc := 49) dX10_alikePrice_49 rfl ?_
                refine r_iload (pc := 50) dX10_alikePrice_50 rfl ?_
                refine r_callV_P (pc := 52) (b := m) (As := [.int (nI b)]) 10 207 dX10_alikePrice_52 lk_X10_isJoined (ml_RX10_207 rfl) im_X10_isJoined se_X10_isJoined (by decide) (c10_o hm) (Nat.le_of_ble_eq_true rfl) rfl (isJoined_ct hm hS2.2.1) ?_
                refine r_if_ne_b (pc := 55) (tgt := 87) dX10_alikePrice_55 (by decide) (fun c55 => ?_) (fun c55 => ?_)
                · skip
                  have hcase2 : (if eS E b = some a ∧ ¬ jn (eJ E) (nI b) then (nI x - nI u) * (mk E idq b (x + eC E b)).1 else 0) = 0 := if_neg (fun q => q.2 c55)
                  refine r_iinc (pc := 87) (v := nI (b + 1)) (L' := [some (.ref m), some (.int (nI a)), some (.int (nI u)), some (.int (nI be)), some (.int mo), some (.int (nI x)), some (.int is), some (.int (nI (b + 1)))]) dX10_alikePrice_87 rfl (nI_inc _) (by decide) rfl rfl ?_
                  refine r_goto (pc := 90) (tgt := 21) dX10_alikePrice_90 (by decide) ?_
                  exact ih21 _ (by omega) (b + 1) is I2 rfl (by omega) (by rw [show ∀ f k, sm f (k + 1) = sm f k + f k from fun _ _ => rfl, ← his]; refine Eq.trans ?_ (congrArg (fun z => is + z) hcase2).symm; first | rfl | exact (Int32.add_zero _).symm) (by first | exact hK80 | exact hK2) (by first | exact (hF2.tr hF80) | exact hF2)
                · skip
                  have hcase2 : (if eS E b = some a ∧ ¬ jn (eJ E) (nI b) then (nI x - nI u) * (mk E idq b (x + eC E b)).1 else 0) = (nI x - nI u) * (mk E idq b (x + eC E b)).1 := if_pos ⟨c46, c55⟩
                  refine r_iload (pc := 58) dX10_alikePrice_58 rfl ?_
                  refine r_iload (pc := 60) dX10_alikePrice_60 rfl ?_
                  refine r_iload_n (pc := 62) dX10_alikePrice_62 rfl ?_
                  refine r_isub (pc := 63) (x := nI x) (z := nI u) dX10_alikePrice_63 ?_
                  refine r_aload_n (pc := 64) dX10_alikePrice_64 rfl ?_
                  refine r_iload (pc := 65) dX10_alikePrice_65 rfl ?_
                  refine r_iload (pc := 67) dX10_alikePrice_67 rfl ?_
                  refine r_aload_n (pc := 69) dX10_alikePrice_69 rfl ?_
                  refine r_aload_n (pc := 70) dX10_alikePrice_70 rfl ?_
                  refine r_getIv (pc := 71) 10 21 175 dX10_alikePrice_71 (fl_RX10_175 rfl) (by decide) rfl (c10_o hm) (v := nI k) (hS2.2.1.1) ?_
                  refine r_iload (pc := 74) dX10_alikePrice_74 rfl ?_
                  refine r_callV_P (pc := 76) (b := m) (As := [.int (nI k), .int (nI b)]) 10 162 dX10_alikePrice_76 lk_X10_costOf (ml_RX10_162 rfl) im_X10_costOf se_X10_costOf (by decide) (c10_o hm) (Nat.le_of_ble_eq_true rfl) rfl (costOf_ct hm hS2.1 (by omega) (by omega)) ?_
                  refine r_iadd_n (pc := 79) (a := x) (b := eC E b) dX10_alikePrice_79 ?_
                  refine r_callV_M (pc := 80) (b := m) (As := [.int (nI b), .int (nI (x + (eC E b)))]) 10 204 dX10_alikePrice_80 lk_X10_takeBy (ml_RX10_204 rfl) im_X10_takeBy se_X10_takeBy (by decide) (c10_o hm) (Nat.le_of_ble_eq_true rfl) rfl (hTK b c46 I2 _ hS2 (by have := hS.1.2.2.2.1 b a c46; have := Nat.mul_le_mul hcb6 (show 7 - b ≤ 6 by omega); omega)) (fun v80 I3 hr80 => ?_)
                  obtain ⟨rfl, hK80, hF80⟩ := hr80
                  have hS3 := hS2.keep hF80 hK80
                  refine r_imul (pc := 83) (x := (nI x) - (nI u)) (z := (mk E idq b (x + (eC E b))).1) dX10_alikePrice_83 ?_
                  refine r_iadd (pc := 84) (x := is) (z := ((nI x) - (nI u)) * ((mk E idq b (x + (eC E b))).1)) dX10_alikePrice_84 ?_
                  refine r_istore (pc := 85) (L' := [some (.ref m), some (.int (nI a)), some (.int (nI u)), some (.int (nI be)), some (.int mo), some (.int (nI x)), some (.int (is + (((nI x) - (nI u)) * ((mk E idq b (x + (eC E b))).1)))), some (.int (nI b))]) dX10_alikePrice_85 (by decide) rfl rfl ?_
                  refine r_iinc (pc := 87) (v := nI (b + 1)) (L' := [some (.ref m), some (.int (nI a)), some (.int (nI u)), some (.int (nI be)), some (.int mo), some (.int (nI x)), some (.int (is + (((nI x) - (nI u)) * ((mk E idq b (x + (eC E b))).1)))), some (.int (nI (b + 1)))]) dX10_alikePrice_87 rfl (nI_inc _) (by decide) rfl rfl ?_
                  refine r_goto (pc := 90) (tgt := 21) dX10_alikePrice_90 (by decide) ?_
                  exact ih21 _ (by omega) (b + 1) (is + (((nI x) - (nI u)) * ((mk E idq b (x + (eC E b))).1))) I3 rfl (by omega) (by rw [show ∀ f k, sm f (k + 1) = sm f k + f k from fun _ _ => rfl, ← his]; refine Eq.trans ?_ (congrArg (fun z => is + z) hcase2).symm; first | rfl | exact (Int32.add_zero _).symm) (by first | exact hK80 | exact hK2) (by first | exact (hF2.tr hF80) | exact hF2)
        exact lp21 _ 0 0 I1 rfl (by omega) (by rfl) hK1 hF1
  exact lp8 _ 0 0 0 I rfl (by omega) (by exact Or.inl rfl) hS.2.2.2.2.2 FrK.rf
