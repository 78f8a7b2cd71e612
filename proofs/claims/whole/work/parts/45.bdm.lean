/-! ===== what is earned lies in bounds ===== -/
theorem nI_mul_toInt {x u w : Nat} (hx : x ≤ 2000) (hu : u ≤ 2000) (hw : w ≤ 600) : ((nI x - nI u) * nI w).toInt = ((x : Int) - u) * w := by
  have h1 : (nI x - nI u).toInt = (x : Int) - u := pk_sub_toInt (by omega) (by omega)
  have h2 : (nI w).toInt = (w : Int) := nI_toInt (by omega)
  have k1 : (-2000 : Int) * w ≤ ((x : Int) - u) * w := Int.mul_le_mul_of_nonneg_right (by omega) (by omega)
  have k2 : ((x : Int) - u) * w ≤ 2000 * w := Int.mul_le_mul_of_nonneg_right (by omega) (by omega)
  rw [i32_mul (by rw [h1, h2]; omega) (by rw [h1, h2]; omega), h1, h2]
/-- a sum whose terms lie between -m and 41 times what is taken -/
theorem sm_bd {f : Nat → Int32} {t : Nat → Nat} : ∀ n, n ≤ 8 → (∀ k, k < n → -1200000 ≤ (f k).toInt ∧ (f k).toInt ≤ 41 * (t k : Int)) → smN t n ≤ 600 → -1200000 * (n : Int) ≤ (sm f n).toInt ∧ (sm f n).toInt ≤ 41 * (smN t n : Int)
  | 0, _, _, _ => by
    unfold sm smN
    have : (0 : Int32).toInt = 0 := by decide
    omega
  | n + 1, h8, hf, ht => by
    unfold smN at ht
    obtain ⟨h1, h2⟩ := sm_bd n (by omega) (fun k hk => hf k (by omega)) (by omega)
    obtain ⟨h3, h4⟩ := hf n (by omega)
    unfold sm smN
    have e : (sm f n + f n).toInt = (sm f n).toInt + (f n).toInt := by
      rw [Int32.toInt_add]
      exact Int.bmod_eq_of_le (by omega) (by omega)
    rw [e]
    omega
theorem bdm {E : Ec} (hE : SrC E) (hW : WbC E) : BdM E := by
  intro h u
  have hS : ∀ b a, eS E b = some a → a < b := fun b a h => (hE.2 b a h).1
  have h8 := hE.1
  have e1 := mk_tN hS (8 - h) h rfl u
  have e2 := tN_le hE hW h u
  refine ⟨by rw [e1, nI_toInt (by omega)]; omega, by rw [e1, nI_toInt (by omega)]; omega, fun hu => ?_⟩
  by_cases hh : h < 8
  · rw [mk_eq hS hh u]
    unfold stp
    by_cases hc : cnt (eS E) h (eN E) = 0
    · rw [if_pos hc]
      have ha := askF_le (eW E h) (eK E) u
      have hw := hW.2.2.2 h (askF (eW E h) (eK E) u)
      show ((nI (askF (eW E h) (eK E) u) - nI u) * nI (eW E h (askF (eW E h) (eK E) u))).toInt ≤ 24600
      rw [nI_mul_toInt (by omega) hu hw]
      have k2 : (((askF (eW E h) (eK E) u : Nat) : Int) - u) * (eW E h (askF (eW E h) (eK E) u) : Nat) ≤ 41 * (eW E h (askF (eW E h) (eK E) u) : Nat) := Int.mul_le_mul_of_nonneg_right (by omega) (by omega)
      omega
    · rw [if_neg hc]
      rw [tN_eq hS hh u, if_neg hc] at e2
      have := (sm_bd (f := fun b => if eS E b = some h then (nI (prS E idq (mk E idq) h b u) - nI u) * (mk E idq b (idq (prS E idq (mk E idq) h b u + eC E b))).1 else 0) (t := fun b => if eS E b = some h then tN E b (prS E idq (mk E idq) h b u + eC E b) else 0) (eN E) h8 (fun b hb => ?_) e2).2
      · exact Int.le_trans this (by omega)
      · by_cases hb2 : eS E b = some h
        · simp only [if_pos hb2]
          have e3 := mk_tN hS (8 - b) b rfl (prS E idq (mk E idq) h b u + eC E b)
          have e4 := tN_le hE hW b (prS E idq (mk E idq) h b u + eC E b)
          rw [show (mk E idq b (idq (prS E idq (mk E idq) h b u + eC E b))).1 = nI (tN E b (prS E idq (mk E idq) h b u + eC E b)) from e3]
          have e5 := prS_u (E := E) (q := idq) (R := mk E idq) (h := h) (b := b) (u := u)
          rw [nI_mul_toInt (by omega) hu e4]
          generalize tN E b (prS E idq (mk E idq) h b u + eC E b) = w at e4
          generalize prS E idq (mk E idq) h b u = x at e5
          have k1 : (-2000 : Int) * w ≤ ((x : Int) - u) * w := Int.mul_le_mul_of_nonneg_right (by omega) (by omega)
          have k2 : ((x : Int) - u) * w ≤ 41 * w := Int.mul_le_mul_of_nonneg_right (by omega) (by omega)
          omega
        · simp only [if_neg hb2]
          have : (0 : Int32).toInt = 0 := by decide
          omega
  · rw [mk_hi E idq (by omega)]
    decide
