/-! ===== what both sides hold: trades, tape, chances ===== -/
abbrev Tm : Type := Int32 × Nat × Bool × Bool
abbrev Td : Type := Dr × Tm × (Nat → Nat) × (Nat → Nat)
abbrev tdD (x : Td) : Dr := x.1
abbrev tdT (x : Td) : Tm := x.2.1
abbrev tdP (x : Td) : Nat → Nat := x.2.2.1
abbrev tdA (x : Td) : Nat → Nat := x.2.2.2
abbrev Sta : Type := Tp × Nat × (Nat → Td) × Nat × (Nat → Nat) × (Nat → Nat)
abbrev sT (s : Sta) : Tp := s.1
abbrev sN (s : Sta) : Nat := s.2.1
abbrev sD (s : Sta) : Nat → Td := s.2.2.1
abbrev sZ (s : Sta) : Nat := s.2.2.2.1
abbrev sW (s : Sta) : Nat → Nat := s.2.2.2.2.1
abbrev sV (s : Sta) : Nat → Nat := s.2.2.2.2.2
def wF (D : Dr) (h p : Nat) : Nat := wS (dT D) h p (dT D).1
def eT (D : Dr) (τ : Tm) : Ec := (dN D, dC D, dS D, wF D, τ.1, τ.2.1, τ.2.2.1, τ.2.2.2)
def TdOK (x : Td) : Prop := DrOK (tdD x) ∧ (tdT x).2.1 ≤ 41 ∧ (∀ h, tdP x h ≤ 41) ∧ ∀ h, tdA x h ≤ 41
theorem wS_anti {T : Lt} {h p q : Nat} (hpq : p ≤ q) : ∀ k, wS T h q k ≤ wS T h p k
  | 0 => Nat.le_refl _
  | k + 1 => by
    unfold wS
    have := wS_anti (T := T) (h := h) hpq k
    by_cases c : T.2.1 k = h ∧ q ≤ T.2.2.1 k
    · rw [if_pos c, if_pos ⟨c.1, by omega⟩]
      omega
    · rw [if_neg c]
      omega
theorem wS_sum {T : Lt} {n : Nat} : ∀ j, (∀ i, i < j → T.2.2.2 i ≤ 30) → smN (fun h => wS T h 0 j) n ≤ 30 * j
  | 0, _ => by
    have : ∀ n, smN (fun h => wS T h 0 0) n = 0 := fun n => by
      induction n with
      | zero => rfl
      | succ n ih => show smN _ n + 0 = 0; rw [ih]
    rw [this]
    omega
  | j + 1, hj => by
    have e : smN (fun h => wS T h 0 (j + 1)) n = smN (fun h => wS T h 0 j + (if h = T.2.1 j then T.2.2.2 j else 0)) n := smN_congr n (fun h _ => by
      show wS T h 0 j + (if T.2.1 j = h ∧ 0 ≤ T.2.2.1 j then T.2.2.2 j else 0) = _
      by_cases c : h = T.2.1 j
      · rw [if_pos ⟨c.symm, Nat.zero_le _⟩, if_pos c]
      · rw [if_neg (fun z => c z.1.symm), if_neg c])
    rw [e, smN_add, smN_one]
    have h1 := wS_sum (T := T) (n := n) j (fun i hi => hj i (by omega))
    have h2 := hj j (by omega)
    by_cases c : T.2.1 j < n
    · rw [if_pos c]
      omega
    · rw [if_neg c]
      omega
theorem src_of {D : Dr} (h : DrOK D) (τ : Tm) : SrC (eT D τ) := ⟨h.1.2, h.2.2.1⟩
theorem wbc_of {D : Dr} (h : DrOK D) (τ : Tm) : WbC (eT D τ) := by
  have h20 := h.2.2.2.2.1
  refine ⟨fun x p q hpq => wS_anti hpq _, ?_, fun x => wS_41 _ _ (fun i _ => (h.2.2.2.2.2 i).2.1) _ (Nat.le_refl _), fun x p => ?_⟩
  · have := wS_sum (T := dT D) (n := dN D) (dT D).1 (fun i _ => (h.2.2.2.2.2 i).2.2)
    show smN (fun x => wS (dT D) x 0 (dT D).1) (dN D) ≤ 600
    omega
  · have := wS_le (dT D) x p (fun i _ => (h.2.2.2.2.2 i).2.2) (dT D).1 (Nat.le_refl _)
    show wS (dT D) x p (dT D).1 ≤ 600
    omega
theorem mtc_of {I : Im} {m k : Nat} {D : Dr} (h : DrOK D) (hm : MdC I m k D) (τ : Tm) : MtC I m k (eT D τ) (dT D) :=
  ⟨hm.1, h.1.2, fun b hb => (hm.2.1 b hb).2.1, h.2.2.1, fun b hb => (hm.2.1 b hb).1, fun b => Nat.le_trans (h.2.1 b) (by omega), hm.2.2.1, h.2.2.2.2.1, fun i hi => ⟨(hm.2.2.2 i hi).1, (hm.2.2.2 i hi).2.1, (hm.2.2.2 i hi).2.2, h.2.2.2.2.2 i⟩, fun _ _ => rfl⟩
theorem cnt_up {s : Nat → Option Nat} {h n : Nat} (hn : ∀ b, n ≤ b → s b ≠ some h) : ∀ j, cnt s h (n + j) = cnt s h n
  | 0 => rfl
  | j + 1 => by
    show cnt s h (n + j) + (if s (n + j) = some h then 1 else 0) = _
    rw [if_neg (hn (n + j) (by omega)), cnt_up hn j]
    rfl
theorem cnt_8 {D : Dr} (h : DrOK D) (x : Nat) : cnt (dS D) x 8 = cnt (dS D) x (dN D) := by
  have h8 := h.1.2
  have := cnt_up (s := dS D) (h := x) (n := dN D) (fun b hb z => by have := (h.2.2.1 b x z).2; omega) (8 - dN D)
  rw [show dN D + (8 - dN D) = 8 by omega] at this
  exact this
theorem trc_of {I : Im} {t : Nat} {D : Dr} (h : DrOK D) (hd : DrC I t D) (τ : Tm) : TrC I t (eT D τ) :=
  ⟨hd.1, h.1.2, fun b hb => (hd.2.2.1 b hb).2.1, h.2.2.1, fun x hx => by have h8 := h.1.2; have hx : x < dN D := hx; rw [(hd.2.2.1 x (by omega)).2.2.2, cnt_8 h]; rfl, fun x p hx hp => hd.2.2.2 x p hx hp, (wbc_of h τ).2.2.2⟩
theorem coc_of {I : Im} {t : Nat} {D : Dr} (h : DrOK D) (hd : DrC I t D) : CoC I t (dC D) := ⟨fun x hx => (hd.2.2.1 x hx).1, h.2.1⟩
/-- the class's account of a trade under terms -/
abbrev cE (D : Dr) (v : Nat → Int32) : Ec := mkE (dN D) (dC D) (dS D) (wF D) v
theorem trc_c {I : Im} {t : Nat} {D : Dr} (h : DrOK D) (hd : DrC I t D) (v : Nat → Int32) : TrC I t (cE D v) := trc_of h hd (0, 0, false, false)
/-- terms as the class writes them, nothing tried dearer -/
def tmv (τ : Tm) : Nat → Int32 := tm6 τ.1 (nI τ.2.1) (bz (τ.2.2.1 = true)) (bz (τ.2.2.2 = true)) (-1) 0
theorem bz_ne0 (b : Bool) : decide (¬ bz (b = true) = 0) = b := by
  cases b
  · rfl
  · rfl
theorem tm_ok {v : Nat → Int32} {τ : Tm} (hτ : τ.2.1 ≤ 41) (hv : ∀ k, k < 6 → v k = tmv τ k) : TmOK v ∧ ∀ D : Dr, cE D v = eT D τ := by
  have v0 : v 0 = τ.1 := hv 0 (by omega)
  have v1 : v 1 = nI τ.2.1 := hv 1 (by omega)
  have v2 : v 2 = bz (τ.2.2.1 = true) := hv 2 (by omega)
  have v3 : v 3 = bz (τ.2.2.2 = true) := hv 3 (by omega)
  have v4 : v 4 = -1 := hv 4 (by omega)
  have v5 : v 5 = 0 := hv 5 (by omega)
  have c1 : (v 1).toNatClampNeg = τ.2.1 := by rw [v1, nI_clamp (by omega)]
  refine ⟨⟨⟨by rw [c1]; exact v1, by rw [c1]; exact hτ⟩, by rw [v2]; exact bz_01 _, by rw [v3]; exact bz_01 _, by rw [v5]; rfl, by rw [v5]; decide⟩, fun D => ?_⟩
  unfold cE mkE eT
  rw [c1, v2, v3, bz_ne0, bz_ne0, v0, v5]
  congr 1
  congr 1
  funext x
  show dC D x + (if nI x = v 4 then 0 else 0) = dC D x
  split <;> rfl
/-! where the trades lie -/
def tA (k : Nat) : Nat := if k = 0 then 4 else 264 + 18 * k
theorem tA_is (k : Nat) : (k = 0 ∧ tA k = 4) ∨ (1 ≤ k ∧ tA k = 264 + 18 * k) := by
  unfold tA
  by_cases h : k = 0
  · exact Or.inl ⟨h, if_pos h⟩
  · exact Or.inr ⟨by omega, if_neg h⟩
theorem tA_inj {j k : Nat} (h : tA j = tA k) : j = k := by
  have h1 := tA_is j
  have h2 := tA_is k
  omega
theorem tA_far {j k : Nat} (h : j ≠ k) : tA j + 18 ≤ tA k ∨ tA k + 18 ≤ tA j := by
  have h1 := tA_is j
  have h2 := tA_is k
  omega
theorem tA_off (k : Nat) : (4 ≤ tA k ∧ tA k + 18 ≤ 22) ∨ 282 ≤ tA k := by
  have h1 := tA_is k
  omega
/-! the reference's account -/
def MdI (I : Im) (m k : Nat) (x : Td) : Prop := MdC I m k (tdD x) ∧ TmM I m k (eT (tdD x) (tdT x)) ∧ ToM I m k (tdP x) (tdA x)
def Mi (s : Sta) (I : Im) (m : Nat) : Prop := TpM I m (sT s) ∧ I m 20 = nI (sN s) ∧ sN s ≤ 10 ∧ (∀ k, k < sN s → TdOK (sD s k) ∧ MdI I m k (sD s k)) ∧ ChM I m (sZ s) (sW s) (sV s)
theorem Mi.keep {s : Sta} {I I2 : Im} {m : Nat} (h : Mi s I m) (hf : ∀ a x, (a = m ∧ (x = 2 ∨ x = 20 ∨ x = 37)) ∨ (m + 1 ≤ a ∧ a ≤ m + 15) ∨ (m + 23 ≤ a ∧ a ≤ m + 24) → I2 a x = I a x) : Mi s I2 m := by
  obtain ⟨h1, h2, h3, h4, h5⟩ := h
  refine ⟨⟨(hf _ _ (by omega)).trans h1.1, h1.2.1, fun i hi => by rw [hf _ _ (by omega)]; exact h1.2.2.1 i hi, h1.2.2.2⟩, (hf _ _ (by omega)).trans h2, h3, fun k hk => ?_, ⟨(hf _ _ (by omega)).trans h5.1, h5.2.1, fun k hk => ⟨(hf _ _ (by omega)).trans (h5.2.2.1 k hk).1, (hf _ _ (by omega)).trans (h5.2.2.1 k hk).2⟩, h5.2.2.2⟩⟩
  obtain ⟨k1, k2, k3, k4⟩ := h4 k hk
  exact ⟨k1, k2.keep (fun c j g1 g2 _ => hf c j (by omega)), ⟨(hf _ _ (by omega)).trans k3.1, (hf _ _ (by omega)).trans k3.2.1, k3.2.2.1, (hf _ _ (by omega)).trans k3.2.2.2.1, (hf _ _ (by omega)).trans k3.2.2.2.2⟩, ⟨fun x hx => (hf _ _ (by omega)).trans (k4.1 x hx), fun x hx => (hf _ _ (by omega)).trans (k4.2.1 x hx), k4.2.2⟩⟩
theorem Mi.z {s : Sta} {I I2 : Im} {m : Nat} (h : Mi s I m) (hf : FrZ I I2 m) : Mi s I2 m := h.keep (fun a x z => hf a x (by omega) (by omega))
/-! the class's account -/
def TrI (I : Im) (t : Nat) (x : Td) : Prop := DrC I t (tdD x) ∧ (∀ k, k < 6 → I (t + 14) k = tmv (tdT x) k) ∧ (∀ h, h < 8 → I (t + 15) h = nI (tdP x h)) ∧ (∀ h, h < 8 → I (t + 16) h = nI (tdA x h)) ∧ (I t 12 = 0 ∨ (I t 12 = 1 ∧ ∃ R : Nat → Bool, (∀ y, y < 128 → (R y = true ↔ rsP (eT (tdD x) (tdT x)) y)) ∧ RsV I t R))
theorem TrI.keep {I I2 : Im} {t : Nat} {x : Td} (h : TrI I t x) (hf : ∀ a k, t ≤ a → a < t + 18 → I2 a k = I a k) : TrI I2 t x := by
  obtain ⟨h1, h2, h3, h4, h5⟩ := h
  refine ⟨h1.keep (fun c k g1 g2 _ => hf c k g1 (by omega)), fun k hk => (hf _ _ (by omega) (by omega)).trans (h2 k hk), fun k hk => (hf _ _ (by omega) (by omega)).trans (h3 k hk), fun k hk => (hf _ _ (by omega) (by omega)).trans (h4 k hk), ?_⟩
  rw [hf t 12 (by omega) (by omega)]
  exact h5.imp id (fun ⟨z, R, hR, hv⟩ => ⟨z, R, hR, (hf _ _ (by omega) (by omega)).trans hv.1, fun y hy hr => (hf _ _ (by omega) (by omega)).trans (hv.2 y hy hr)⟩)
/-- a draft: nothing told, nothing found -/
def TrZ (I : Im) (t : Nat) : Prop := (∀ k, k < 6 → I (t + 14) k = tm6 0 41 0 0 (-1) 0 k) ∧ (∀ h, h < 8 → I (t + 15) h = 0) ∧ (∀ h, h < 8 → I (t + 16) h = 0) ∧ I t 12 = 0
theorem TrZ.keep {I I2 : Im} {t : Nat} (h : TrZ I t) (hf : ∀ a k, (t + 14 ≤ a ∧ a ≤ t + 16) ∨ (a = t ∧ k = 12) → I2 a k = I a k) : TrZ I2 t := ⟨fun k hk => (hf _ _ (by omega)).trans (h.1 k hk), fun k hk => (hf _ _ (by omega)).trans (h.2.1 k hk), fun k hk => (hf _ _ (by omega)).trans (h.2.2.1 k hk), (hf _ _ (by omega)).trans h.2.2.2⟩
/-- what a market holds -/
def MkI (s : Sta) (I : Im) (G : Gm) (mb : Nat) : Prop := (∀ t, G.1 mb 0 = some t → ∃ k, k < sN s ∧ t = tA k) ∧ ∀ k, k < sN s → G.1 mb 0 = some (tA k) → TmOK (I (mb + 1)) ∧ MkV I mb (cE (tdD (sD s k)) (I (mb + 1)))
/-- the price that a shop asks where all before it are one with it -/
abbrev aoF (D : Dr) (h : Nat) : Nat := askF (wF D h) 41 (ccF (eT D (0, 41, false, false)) h)
/-- what healing holds -/
def HlI (s : Sta) (I : Im) (G : Gm) : Prop := (∀ t, G.1 113 2 = some t → ∃ k, k < sN s ∧ t = tA k) ∧ ∀ k h, k < sN s → h < 8 → G.1 113 2 = some (tA k) → I 113 3 = nI h → PrV I 113 (prB (wF (tdD (sD s k)) h) (dC (tdD (sD s k)) h) (aoF (tdD (sD s k)) h))
def ChC (I : Im) (c sz : Nat) (cw cg : Nat → Nat) : Prop := I c 2 = nI sz ∧ sz ≤ 12 ∧ (∀ k, k < sz → I (c + 1) k = nI (cw k) ∧ I (c + 2) k = nI (cg k)) ∧ (∀ k, cw k ≤ 60) ∧ I c 3 = waA cg sz
def Ci (s : Sta) (I : Im) (G : Gm) : Prop := (isC9 G 0 ∧ (∀ k, k ≤ sN s → isC8 G (tA k)) ∧ (∀ k, k < sN s → G.1 3 k = some (tA k)) ∧ G.1 0 3 = some (tA (sN s))) ∧ (I 0 2 = nI (sN s) ∧ sN s ≤ 10 ∧ TpC I 1 (sT s) ∧ (∀ k, k < sN s → TdOK (sD s k) ∧ TrI I (tA k) (sD s k)) ∧ TrZ I (tA (sN s)) ∧ ChC I 253 (sZ s) (sW s) (sV s)) ∧ MkI s I G 23 ∧ MkI s I G 67 ∧ HlI s I G
/-- the class changed what it may: not the trades, the tape, the chances, nor the reference -/
def FrC (I I2 : Im) : Prop := ∀ a k, a < 22 ∨ 253 ≤ a → I2 a k = I a k
theorem FrC.rf {I : Im} : FrC I I := fun _ _ _ => rfl
theorem FrC.tr {I I2 I3 : Im} (h : FrC I I2) (h2 : FrC I2 I3) : FrC I I3 := fun a k z => (h2 a k z).trans (h a k z)
theorem FrC.tri {I I2 : Im} {k : Nat} {x : Td} (h : FrC I I2) (ht : TrI I (tA k) x) : TrI I2 (tA k) x := ht.keep (fun a j g1 g2 => h a j (by have := tA_off k; omega))
theorem MkI.keep {s : Sta} {I I2 : Im} {G G2 : Gm} {mb : Nat} (h : MkI s I G mb) (hE : ∀ k, k < sN s → TdOK (sD s k)) (hg : G2.1 mb 0 = G.1 mb 0) (hf : ∀ a k, mb ≤ a → a < mb + 44 → I2 a k = I a k) : MkI s I2 G2 mb := by
  refine ⟨fun t ht => h.1 t (hg.symm.trans ht), fun k hk ht => ?_⟩
  obtain ⟨h1, h2⟩ := h.2 k hk (hg.symm.trans ht)
  have e : I2 (mb + 1) = I (mb + 1) := funext fun j => hf _ j (by omega) (by omega)
  rw [e]
  exact ⟨h1, h2.keepV ⟨(hE k hk).1.1.2, (hE k hk).1.2.2.1⟩ hf⟩
theorem HlI.keep {s : Sta} {I I2 : Im} {G G2 : Gm} (h : HlI s I G) (hg : G2.1 113 2 = G.1 113 2) (hf : ∀ a k, a = 113 ∨ a = 114 → I2 a k = I a k) : HlI s I2 G2 := by
  refine ⟨fun t ht => h.1 t (hg.symm.trans ht), fun k x hk hx ht h3 => ?_⟩
  have := h.2 k x hk hx (hg.symm.trans ht) ((hf _ _ (Or.inl rfl)).symm.trans h3)
  exact ⟨(hf _ _ (Or.inl rfl)).trans this.1, fun r hr hR => (hf _ _ (Or.inr rfl)).trans (this.2 r hr hR)⟩
theorem Ci.mk {s : Sta} {I I2 : Im} {G G2 : Gm} (h : Ci s I G) (hf : FrC I I2) (hg : Geq G G2) (hg3 : ∀ k, G2.1 3 k = G.1 3 k) (hgd : G2.1 0 3 = G.1 0 3) (h23 : MkI s I2 G2 23) (h67 : MkI s I2 G2 67) (hh : HlI s I2 G2) : Ci s I2 G2 := by
  obtain ⟨⟨g1, g2, g3, g4⟩, ⟨i1, i2, i3, i4, i5, i6⟩, _⟩ := h
  refine ⟨⟨isC9_geq hg g1, fun k hk => isC8_geq hg (g2 k hk), fun k hk => (hg3 k).trans (g3 k hk), hgd.trans g4⟩, ⟨(hf _ _ (by omega)).trans i1, i2, ⟨(hf _ _ (by omega)).trans i3.1, i3.2.1, fun i hi => (hf _ _ (by omega)).trans (i3.2.2.1 i hi), i3.2.2.2⟩, fun k hk => ⟨(i4 k hk).1, hf.tri (i4 k hk).2⟩, i5.keep (fun a k z => hf _ _ (by have := tA_off (sN s); omega)), ⟨(hf _ _ (by omega)).trans i6.1, i6.2.1, fun k hk => ⟨(hf _ _ (by omega)).trans (i6.2.2.1 k hk).1, (hf _ _ (by omega)).trans (i6.2.2.1 k hk).2⟩, i6.2.2.2.1, (hf _ _ (by omega)).trans i6.2.2.2.2⟩⟩, h23, h67, hh⟩
theorem Ci.ok {s : Sta} {I : Im} {G : Gm} (h : Ci s I G) {k : Nat} (hk : k < sN s) : TdOK (sD s k) ∧ TrI I (tA k) (sD s k) := h.2.1.2.2.2.1 k hk
