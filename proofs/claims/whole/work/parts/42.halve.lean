/-! ===== the halved price: ints of 32 and of 64 bits ===== -/
theorem i32_mul {a b : Int32} (h1 : -2147483648 ≤ a.toInt * b.toInt) (h2 : a.toInt * b.toInt < 2147483648) : (a * b).toInt = a.toInt * b.toInt := by
  rw [Int32.toInt_mul]
  exact Int.bmod_eq_of_le (by omega) (by omega)
theorem i64_mul {a b : Int64} (h1 : -9223372036854775808 ≤ a.toInt * b.toInt) (h2 : a.toInt * b.toInt < 9223372036854775808) : (a * b).toInt = a.toInt * b.toInt := by
  rw [Int64.toInt_mul]
  exact Int.bmod_eq_of_le (by omega) (by omega)
theorem wid_mul {a b : Int32} (h1 : -2147483648 ≤ a.toInt * b.toInt) (h2 : a.toInt * b.toInt < 2147483648) : a.toInt64 * b.toInt64 = (a * b).toInt64 := by
  apply Int64.toInt_inj.mp
  rw [Int32.toInt_toInt64, i32_mul h1 h2, i64_mul (by rw [Int32.toInt_toInt64, Int32.toInt_toInt64]; omega) (by rw [Int32.toInt_toInt64, Int32.toInt_toInt64]; omega), Int32.toInt_toInt64, Int32.toInt_toInt64]
theorem wid_lt {a b : Int32} : a.toInt64 < b.toInt64 ↔ a < b := by
  rw [Int64.lt_iff_toInt_lt, Int32.lt_iff_toInt_lt, Int32.toInt_toInt64, Int32.toInt_toInt64]
theorem cmp_lt0 {a : Int32} : lg_cmp a.toInt64 0 < 0 ↔ a < 0 := by
  have h := lg_cmp_ge a.toInt64 0
  have e : (0 : Int64) = (0 : Int32).toInt64 := rfl
  constructor
  · intro q
    refine Int32.not_le.mp (fun z => absurd q (Int32.not_lt.mpr (h.mpr ?_)))
    rw [e]
    exact Int64.not_lt.mp (fun y => absurd (wid_lt.mp y) (Int32.not_lt.mpr z))
  · intro q
    refine Int32.not_le.mp (fun z => ?_)
    have := h.mp z
    rw [e] at this
    exact absurd (wid_lt.mpr q) (Int64.not_lt.mpr this)
theorem cmp_gt {a b : Int64} : 0 < lg_cmp a b ↔ b < a := by
  unfold lg_cmp
  by_cases h : a > b
  · rw [if_pos h]
    exact ⟨fun _ => h, fun _ => by decide⟩
  · rw [if_neg h]
    refine ⟨fun q => ?_, fun q => absurd q h⟩
    by_cases e : a = b
    · rw [if_pos e] at q
      exact absurd q (by decide)
    · rw [if_neg e] at q
      exact absurd q (by decide)
def HvI (a b : Nat → Int32) (x : Nat) (bs : Int32) (ms : Int64) : Prop := (bs = -1 ∧ hvS a b x = (41, -1)) ∨ (∃ z, bs = nI z ∧ z ≤ 41 ∧ (hvS a b x).1 = z ∧ 0 ≤ (hvS a b x).2 ∧ ms = (hvS a b x).2.toInt64)
theorem hv_skip {a b : Nat → Int32} {x : Nat} {bs : Int32} {ms : Int64} (h : HvI a b x bs ms) (hc : ¬ (0 ≤ a x ∧ 0 ≤ b x ∧ (bs = -1 ∨ ms < (a x * b x).toInt64))) : HvI a b (x + 1) bs ms := by
  have e : hvS a b (x + 1) = hvS a b x := if_neg (fun q => hc ⟨q.1, q.2.1, by
    rcases h with ⟨h1, -⟩ | ⟨z, -, -, -, -, h5⟩
    · exact Or.inl h1
    · exact Or.inr (by rw [h5]; exact wid_lt.mpr q.2.2)⟩)
  unfold HvI
  rw [e]
  exact h
theorem hv_take {a b : Nat → Int32} {x : Nat} {bs : Int32} {ms : Int64} (hx : x ≤ 41) (h : HvI a b x bs ms) (h1 : 0 ≤ a x) (h2 : 0 ≤ b x) (hp : 0 ≤ a x * b x) (hc : bs = -1 ∨ ms < (a x * b x).toInt64) : HvI a b (x + 1) (nI x) (a x * b x).toInt64 := by
  have e : hvS a b (x + 1) = (x, a x * b x) := if_pos ⟨h1, h2, by
    rcases h with ⟨-, h4⟩ | ⟨z, h3, h4, -, -, h5⟩
    · rw [h4]
      exact Int32.lt_of_lt_of_le (by decide) hp
    · have hb : bs ≠ -1 := by
        rw [h3]
        intro q
        have := (sI_m1 (o := some z) (fun c hc => by cases hc; omega)).mp q
        cases this
      have := hc.resolve_left hb
      rw [h5] at this
      exact wid_lt.mp this⟩
  exact Or.inr ⟨x, rfl, hx, by rw [e], by rw [e]; exact hp, by rw [e]⟩
theorem sub_toInt {x u : Nat} (hx : x ≤ 41) (hu : u ≤ 600) : (nI x - nI u).toInt = (x : Int) - u := pk_sub_toInt (by omega) (by omega)
/-- what is taken and earned lies in bounds -/
def BdM (E : Ec) : Prop := ∀ b v, 0 ≤ (mk E idq b v).1.toInt ∧ (mk E idq b v).1.toInt ≤ 600 ∧ (v ≤ 2000 → (mk E idq b v).2.toInt ≤ 24600)
theorem hv_one {E : Ec} (hB : BdM E) {x u : Nat} (hx : x ≤ 41) (hu : u ≤ 600) (b v : Nat) : (nI x - nI u).toInt64 * (mk E idq b v).1.toInt64 = ((nI x - nI u) * (mk E idq b v).1).toInt64 ∧ ((nI x - nI u) * (mk E idq b v).1).toInt ≤ 24600 := by
  have h1 := hB b v
  have h2 := sub_toInt hx hu
  have key : -360000 ≤ (nI x - nI u).toInt * (mk E idq b v).1.toInt ∧ (nI x - nI u).toInt * (mk E idq b v).1.toInt ≤ 24600 := by
    rw [h2]
    generalize (mk E idq b v).1.toInt = w at h1
    constructor
    · have : (-600 : Int) * 600 ≤ (-600) * w := Int.mul_le_mul_of_nonpos_left (by omega) (by omega)
      have h3 : (-600 : Int) * w ≤ ((x : Int) - u) * w := Int.mul_le_mul_of_nonneg_right (by omega) h1.1
      omega
    · have h3 : ((x : Int) - u) * w ≤ 41 * w := Int.mul_le_mul_of_nonneg_right (by omega) h1.1
      omega
  exact ⟨wid_mul (by omega) (by omega), by rw [i32_mul (by omega) (by omega)]; exact key.2⟩
theorem hv_prod {a b : Int32} (h1 : 0 ≤ a) (h2 : 0 ≤ b) (ha : a.toInt ≤ 24600) (hb : b.toInt ≤ 24600) : a.toInt64 * b.toInt64 = (a * b).toInt64 ∧ 0 ≤ a * b := by
  have g1 : 0 ≤ a.toInt := Int32.le_iff_toInt_le.mp h1
  have g2 : 0 ≤ b.toInt := Int32.le_iff_toInt_le.mp h2
  have p1 : 0 ≤ a.toInt * b.toInt := Int.mul_nonneg g1 g2
  have p2 : a.toInt * b.toInt ≤ 24600 * 24600 := Int.mul_le_mul ha hb g2 (by omega)
  refine ⟨wid_mul (by omega) (by omega), Int32.le_iff_toInt_le.mpr ?_⟩
  rw [i32_mul (by omega) (by omega)]
  exact p1
