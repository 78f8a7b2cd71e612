/-! ===== what the steps of settle keep ===== -/
def RowV (I : Im) (mb : Nat) (E : Ec) (h u : Nat) : Prop := tbR I mb h u = mk E rwF h u ∧ (cnt (eS E) h (eN E) = 0 → I (mb + 21 + 1 + h) u = nI (askF (eW E h) (eK E) u)) ∧ ∀ b, eS E b = some h → I (mb + 30 + 1 + b) u = nI (prS E rwF (mk E rwF) h b u)
def SrC (E : Ec) : Prop := eN E ≤ 8 ∧ ∀ b a, eS E b = some a → a < b ∧ b < eN E
theorem RowV.keep {I I2 : Im} {mb : Nat} {E : Ec} {h u : Nat} (hE : SrC E) (hh : h < 8) (hv : RowV I mb E h u) (hk : ∀ a, mb + 3 ≤ a → a < mb + 39 → I2 a u = I a u) : RowV I2 mb E h u := by
  refine ⟨?_, fun z => (hk _ (by omega) (by omega)).trans (hv.2.1 z), fun b hb => ?_⟩
  · rw [← hv.1]
    exact Prod.ext (hk _ (by omega) (by omega)) (hk _ (by omega) (by omega))
  · have := hE.2 b h hb
    have := hE.1
    exact (hk _ (by omega) (by omega)).trans (hv.2.2 b hb)
theorem mk_cl {I : Im} {mb : Nat} {E : Ec} {p : Nat} (hE : SrC E) (hT : TbV I mb E (p + 1)) : ∀ b x, eS E b = some p → tbR I mb b (rwF (x + eC E b)) = mk E rwF b (rwF (x + eC E b)) := by
  intro b x hb
  have h1 := hE.2 b p hb
  refine (hT b (by omega) h1.2 _ (rwF_mono (by omega)) ?_).1
  have : lrF E b = 41 := if_neg (by rw [hb]; simp)
  rw [this]
  exact rwF_le _
theorem rk_step {I I2 : Im} {mb : Nat} {E : Ec} {p u : Nat} (hE : SrC E) (hp : p < eN E) (hT : TbV I mb E (p + 1)) (hR : RkQ I mb E p u I2) :
    TbV I2 mb E (p + 1) ∧ RowV I2 mb E p u ∧ (∀ v, v ≠ u → RowV I mb E p v → RowV I2 mb E p v) ∧ (∀ a k, (a < mb + 3 ∨ mb + 39 ≤ a) → I2 a k = I a k) := by
  obtain ⟨r1, r2, r3, r4, r5⟩ := hR
  have h8 := hE.1
  have hm : stp E rwF (tbR I mb) p u = mk E rwF p u := by
    rw [mk_eq (fun b a h => (hE.2 b a h).1) (by omega)]
    exact stp_congr (mk_cl hE hT)
  have hpr : ∀ b, eS E b = some p → prS E rwF (tbR I mb) p b u = prS E rwF (mk E rwF) p b u := fun b hb => prS_congr hb (mk_cl hE hT)
  refine ⟨fun h h1 h2 v h3 h4 => ?_, ⟨?_, r4, fun b hb => by rw [r5 b hb, hpr b hb]⟩, fun v hv hr => ?_, fun a k h => r1 a k ?_⟩
  · have hv := hT h h1 h2 v h3 h4
    refine ⟨?_, fun z => ?_, fun b hb => ?_⟩
    · rw [← hv.1]
      refine Prod.ext (r1 _ _ ?_) (r1 _ _ ?_)
      · rintro ⟨-, z | z | z | ⟨b, hb, z⟩⟩
        · omega
        · omega
        · omega
        · have := hE.2 b p hb
          omega
      · rintro ⟨-, z | z | z | ⟨b, hb, z⟩⟩
        · omega
        · omega
        · omega
        · have := hE.2 b p hb
          omega
    · rw [← hv.2.1 z]
      refine r1 _ _ ?_
      rintro ⟨-, z | z | z | ⟨b, hb, z⟩⟩
      · omega
      · omega
      · omega
      · have := hE.2 b p hb
        omega
    · rw [← hv.2.2 b hb]
      have hb2 := hE.2 b h hb
      refine r1 _ _ ?_
      rintro ⟨-, z | z | z | ⟨b', hb', z⟩⟩
      · omega
      · omega
      · omega
      · have : b = b' := by omega
        subst this
        rw [hb] at hb'
        have := Option.some.inj hb'
        omega
  · rw [← hm]
    exact Prod.ext r2 r3
  · refine ⟨?_, fun z => ?_, fun b hb => ?_⟩
    · rw [← hr.1]
      exact Prod.ext (r1 _ _ (fun z => hv z.1)) (r1 _ _ (fun z => hv z.1))
    · rw [← hr.2.1 z]
      exact r1 _ _ (fun z => hv z.1)
    · rw [← hr.2.2 b hb]
      exact r1 _ _ (fun z => hv z.1)
  · rintro ⟨-, z | z | z | ⟨b, hb, z⟩⟩
    · omega
    · omega
    · omega
    · have := hE.2 b p hb
      omega
theorem TbV.keep {I I2 : Im} {mb : Nat} {E : Ec} {q : Nat} (hE : SrC E) (h : TbV I mb E q) (hk : ∀ a k, mb + 3 ≤ a → a < mb + 39 → I2 a k = I a k) : TbV I2 mb E q := fun x h1 h2 u h3 h4 => RowV.keep hE (by have := hE.1; omega) (h x h1 h2 u h3 h4) (fun a g1 g2 => hk a u g1 g2)
/-- the row of what is spent stands in the tables -/
theorem sp_row {E : Ec} (hE : SrC E) {h : Nat} (hh : h < eN E) : rwF (eC E h) ≤ rwF (spF E rwF h) ∧ rwF (spF E rwF h) ≤ lrF E h := by
  have h8 := hE.1
  have e := spF_eq (q := rwF) (fun b a h => (hE.2 b a h).1) (h := h) (by omega)
  refine ⟨rwF_mono (by omega), ?_⟩
  unfold lrF
  split
  · next hs =>
    have : pdF E rwF h = 0 := by
      unfold pdF pdv
      rw [hs]
    rw [e, this, Nat.zero_add]
    exact Nat.le_refl _
  · exact rwF_le _
theorem pd_of {I : Im} {mb : Nat} {E : Ec} (hE : SrC E) (hc : ∀ b, eC E b ≤ 60) (hT : TbV I mb E 0) {h : Nat} (hh : h < eN E) (hO : OcV I mb E h) : PdH I mb E h (pdF E rwF h) := by
  have h8 := hE.1
  have hS : ∀ b a, eS E b = some a → a < b := fun b a h => (hE.2 b a h).1
  have hb := spF_le hS hc h (by omega)
  have he := spF_eq (q := rwF) hS (h := h) (by omega)
  refine ⟨by omega, fun a ha => ?_, fun hs => ?_⟩
  · have hah := hE.2 h a ha
    have hba := spF_le hS hc a (by omega)
    refine ⟨spF E rwF a, (hO a hah.1 (by omega)).2.1, by omega, fun hj => ?_, fun hj => ?_⟩
    · unfold pdF pdv
      rw [ha]
      exact if_pos hj
    · have hr := sp_row hE (h := a) (by omega)
      rw [(hT a (Nat.zero_le _) (by omega) _ hr.1 hr.2).2.2 h ha]
      unfold pdF pdv
      rw [ha]
      exact congrArg nI (if_neg hj).symm
  · unfold pdF pdv
    rw [hs]
theorem tr_step {I : Im} {mb : Nat} {E : Ec} (hE : SrC E) (hc : ∀ b, eC E b ≤ 60) (hk : MkC I mb E) (hT : TbV I mb E 0) {h : Nat} (hh : h < eN E) (hO : OcV I mb E h) :
    MkC (TrQ I mb E h (pdF E rwF h)) mb E ∧ TbV (TrQ I mb E h (pdF E rwF h)) mb E 0 ∧ OcV (TrQ I mb E h (pdF E rwF h)) mb E (h + 1) ∧ ∀ a k, (a < mb + 39 ∨ mb + 43 ≤ a) → TrQ I mb E h (pdF E rwF h) a k = I a k := by
  have h8 := hE.1
  have hf : ∀ a k, (a < mb + 39 ∨ mb + 43 ≤ a) → TrQ I mb E h (pdF E rwF h) a k = I a k := fun a k z => by
    unfold TrQ
    rw [up2_rd (by omega), up2_rd (by omega), up2_rd (by omega), up2_rd (by omega)]
  have he := spF_eq (q := rwF) (fun b a h => (hE.2 b a h).1) (h := h) (by omega)
  have hr := sp_row hE hh
  have hv := hT h (Nat.zero_le _) hh _ hr.1 hr.2
  refine ⟨hk.keep (fun a k g1 g2 => hf a k (by omega)), hT.keep hE (fun a k g1 g2 => hf a k (by omega)), fun x h1 h2 => ?_, hf⟩
  by_cases hx : x = h
  · subst hx
    unfold TrQ
    refine ⟨?_, ?_, ?_, ?_⟩
    · rw [up2_rd (by omega), up2_rd (by omega), up2_rd (by omega), up2_at]
    · rw [up2_rd (by omega), up2_rd (by omega), up2_at, he]
    · rw [up2_rd (by omega), up2_at, ← he]
      unfold akF
      by_cases hz : cnt (eS E) x (eN E) = 0
      · rw [if_pos hz, if_pos hz, hv.2.1 hz]
      · rw [if_neg hz, if_neg hz]
    · rw [up2_at, ← he, ← hv.1]
      rfl
  · have hq := hO x (by omega) h2
    unfold TrQ
    refine ⟨?_, ?_, ?_, ?_⟩
    · rw [up2_rd (by omega), up2_rd (by omega), up2_rd (by omega), up2_rd (by omega)]
      exact hq.1
    · rw [up2_rd (by omega), up2_rd (by omega), up2_rd (by omega), up2_rd (by omega)]
      exact hq.2.1
    · rw [up2_rd (by omega), up2_rd (by omega), up2_rd (by omega), up2_rd (by omega)]
      exact hq.2.2.1
    · rw [up2_rd (by omega), up2_rd (by omega), up2_rd (by omega), up2_rd (by omega)]
      exact hq.2.2.2
theorem er_step {I : Im} {mb : Nat} {E : Ec} (hE : SrC E) (hO : OcV I mb E 8) {h : Nat} (hh : h < eN E) : ebF I mb E h = erF E rwF h := by
  have h8 := hE.1
  have hq := hO h (by omega) hh
  unfold ebF erF
  by_cases hz : cnt (eS E) h (eN E) = 0
  · rw [if_pos hz, if_pos hz, hq.2.1, hq.2.2.1, hq.2.2.2]
    unfold akF
    rw [if_pos hz]
  · rw [if_neg hz, if_neg hz]
    apply sm_congr
    intro b hb
    by_cases hs : eS E b = some h
    · have hb2 := hO b (by omega) hb
      rw [if_pos hs, if_pos hs, hb2.1, hq.2.1, hb2.2.2.2]
    · rw [if_neg hs, if_neg hs]
/-- a trade and terms, together -/
def mkE (n : Nat) (c0 : Nat → Nat) (s : Nat → Option Nat) (w : Nat → Nat → Nat) (τ : Nat → Int32) : Ec := (n, fun h => c0 h + (if nI h = τ 4 then (τ 5).toNatClampNeg else 0), s, w, τ 0, (τ 1).toNatClampNeg, decide (¬ τ 2 = 0), decide (¬ τ 3 = 0))
def TmOK (τ : Nat → Int32) : Prop := (τ 1 = nI (τ 1).toNatClampNeg ∧ (τ 1).toNatClampNeg ≤ 41) ∧ (τ 2 = 0 ∨ τ 2 = 1) ∧ (τ 3 = 0 ∨ τ 3 = 1) ∧ τ 5 = nI (τ 5).toNatClampNeg ∧ (τ 5).toNatClampNeg ≤ 30
theorem mkE_congr {n : Nat} {c0 : Nat → Nat} {s : Nat → Option Nat} {w : Nat → Nat → Nat} {τ σ : Nat → Int32} (h : ∀ k, k < 6 → τ k = σ k) : mkE n c0 s w τ = mkE n c0 s w σ := by
  unfold mkE
  rw [h 0 (by omega), h 1 (by omega), h 2 (by omega), h 3 (by omega), h 4 (by omega), h 5 (by omega)]
theorem mkE_j {n : Nat} {c0 : Nat → Nat} {s : Nat → Option Nat} {w : Nat → Nat → Nat} {τ σ : Nat → Int32} (h : τ 1 = σ 1 ∧ τ 2 = σ 2 ∧ τ 3 = σ 3 ∧ τ 4 = σ 4 ∧ τ 5 = σ 5) : mkE n c0 s w σ = setJ (mkE n c0 s w τ) (σ 0) := by
  unfold mkE setJ
  rw [h.1, h.2.1, h.2.2.1, h.2.2.2.1, h.2.2.2.2]
theorem bz_bool {x : Int32} (h : x = 0 ∨ x = 1) : x = bz (decide (¬ x = 0) = true) := by
  rcases h with rfl | rfl <;> rfl
/-- the market's costs and terms, once they are written -/
theorem MkC.of {I : Im} {mb n : Nat} {c0 : Nat → Nat} {s : Nat → Option Nat} {w : Nat → Nat → Nat} {τ : Nat → Int32} (hτ : TmOK τ) (hc : ∀ h, c0 h ≤ 30) (h1 : ∀ k, k < 6 → I (mb + 1) k = τ k) (h2 : ∀ b, b < n → I (mb + 2) b = nI (eC (mkE n c0 s w τ) b)) : MkC I mb (mkE n c0 s w τ) := by
  refine ⟨h2, fun b => ?_, h1 0 (by omega), (h1 1 (by omega)).trans hτ.1.1, hτ.1.2, (h1 2 (by omega)).trans (bz_bool hτ.2.1), (h1 3 (by omega)).trans (bz_bool hτ.2.2.1)⟩
  show c0 b + (if nI b = τ 4 then (τ 5).toNatClampNeg else 0) ≤ 60
  have := hc b
  have := hτ.2.2.2.2
  split <;> omega
theorem lsF_le (j j2 : Int32) : ∀ n, lsF j j2 n ≤ n
  | 0 => Nat.le_refl _
  | n + 1 => by
    unfold lsF
    have := lsF_le j j2 n
    split <;> omega
theorem bz_iff {a b : Prop} [Decidable a] [Decidable b] (h : bz a = bz b) : a ↔ b := by
  unfold bz at h
  by_cases q : a <;> by_cases r : b <;> simp [q, r] at h ⊢
theorem lsF_same {j j2 : Int32} : ∀ n b, lsF j j2 n ≤ b → b < n → (jn j (nI b) ↔ jn j2 (nI b))
  | 0, b, _, h => absurd h (Nat.not_lt_zero _)
  | n + 1, b, h1, h2 => by
    unfold lsF at h1
    by_cases q : bz (jn j (nI n)) = bz (jn j2 (nI n))
    · rw [if_pos q] at h1
      by_cases e : b = n
      · subst e
        exact bz_iff q
      · exact lsF_same n b h1 (by omega)
    · rw [if_neg q] at h1
      omega
