/-! ===== reading a text: what is to come of it ===== -/
abbrev Tp : Type := Nat × (Nat → Nat)
def skT (T : Tp) : Nat → Nat → Nat
  | 0, a => a
  | f + 1, a => if a < T.1 ∧ T.2 a = 32 then skT T f (a + 1) else a
/-- behind the blanks -/
def sk (T : Tp) (a : Nat) : Nat := skT T (T.1 - a) a
theorem sk_eq (T : Tp) (a : Nat) : sk T a = if a < T.1 ∧ T.2 a = 32 then sk T (a + 1) else a := by
  unfold sk
  cases h : T.1 - a with
  | zero =>
    rw [if_neg (by omega)]
    rfl
  | succ f =>
    rw [show T.1 - (a + 1) = f by omega]
    rfl
theorem sk_bd (T : Tp) : ∀ n a, T.1 - a = n → a ≤ T.1 → a ≤ sk T a ∧ sk T a ≤ T.1 ∧ ¬ (sk T a < T.1 ∧ T.2 (sk T a) = 32)
  | 0, a, h, ha => by
    rw [sk_eq, if_neg (by omega)]
    exact ⟨Nat.le_refl _, ha, fun z => by omega⟩
  | n + 1, a, h, ha => by
    rw [sk_eq]
    by_cases c : a < T.1 ∧ T.2 a = 32
    · rw [if_pos c]
      have := sk_bd T n (a + 1) (by omega) (by omega)
      exact ⟨by omega, this.2⟩
    · rw [if_neg c]
      exact ⟨Nat.le_refl _, ha, c⟩
theorem sk_is {T : Tp} {a : Nat} (ha : a ≤ T.1) : a ≤ sk T a ∧ sk T a ≤ T.1 ∧ ¬ (sk T a < T.1 ∧ T.2 (sk T a) = 32) := sk_bd T _ a rfl ha
def dg (T : Tp) (a : Nat) : Prop := a < T.1 ∧ 48 ≤ T.2 a ∧ T.2 a ≤ 57
theorem dg_dec (T : Tp) (a : Nat) : Nonempty (Decidable (dg T a)) := ⟨by unfold dg; exact inferInstance⟩
def dgB (T : Tp) (a : Nat) : Bool := decide (a < T.1 ∧ 48 ≤ T.2 a ∧ T.2 a ≤ 57)
/-- the number at p: its value, and what follows it -/
def nv (T : Tp) (p : Nat) : Nat × Nat := if dgB T (p + 1) = true then (10 * (T.2 p - 48) + (T.2 (p + 1) - 48), p + 2) else (T.2 p - 48, p + 1)
abbrev Nr : Type := Nat ⊕ (Nat × Nat)
/-- a number with its blanks: where it fails, or its value and what follows -/
def rN (T : Tp) (lo hi a : Nat) : Nr := if a < T.1 ∧ T.2 a ≠ 32 then .inl a else if dgB T (sk T a) = true then (if lo ≤ (nv T (sk T a)).1 ∧ (nv T (sk T a)).1 ≤ hi then .inr (nv T (sk T a)) else .inl ((nv T (sk T a)).2 - 1)) else .inl (sk T a)
def cN (T : Tp) (lo hi : Nat) (bad : Nat → Bool) (a : Nat) : Nr := match rN T lo hi a with
  | .inl f => .inl f
  | .inr (v, e) => if bad v = true then .inl (e - 1) else if dgB T e = true then .inl e else .inr (v, e)
def bn {γ : Type} (r : Nr) (k : Nat → Nat → Nat ⊕ γ) : Nat ⊕ γ := match r with
  | .inl f => .inl f
  | .inr (x, a) => k x a
def rw0 (wr : Option Nat) (x a : Nat) : Nr := match wr with
  | some f => .inl f
  | none => .inr (x, a)
abbrev nob : Nat → Bool := fun _ => false
theorem nv_bd {T : Tp} {p : Nat} (hd : dgB T p = true) : (nv T p).1 ≤ 99 ∧ p < (nv T p).2 ∧ (nv T p).2 ≤ T.1 := by
  have h1 := of_decide_eq_true hd
  unfold nv
  by_cases c : dgB T (p + 1) = true
  · have h2 := of_decide_eq_true c
    rw [if_pos c]
    simp only
    omega
  · rw [if_neg c]
    simp only
    omega
theorem rN_bd {T : Tp} {lo hi a : Nat} (ha : a ≤ T.1) : (∀ f, rN T lo hi a = .inl f → f ≤ T.1) ∧ ∀ x e, rN T lo hi a = .inr (x, e) → a < e ∧ e ≤ T.1 ∧ lo ≤ x ∧ x ≤ hi ∧ x ≤ 99 := by
  have hs := sk_is ha
  unfold rN
  by_cases c : a < T.1 ∧ T.2 a ≠ 32
  · rw [if_pos c]
    exact ⟨fun f h => (by cases h; exact ha), fun x e h => (by cases h)⟩
  · rw [if_neg c]
    by_cases hd : dgB T (sk T a) = true
    · rw [if_pos hd]
      have hb := nv_bd hd
      by_cases hr : lo ≤ (nv T (sk T a)).1 ∧ (nv T (sk T a)).1 ≤ hi
      · rw [if_pos hr]
        refine ⟨fun f h => (by cases h), fun x e h => ?_⟩
        have h := Sum.inr.inj h
        rw [h] at hb hr
        simp only at hb hr
        omega
      · rw [if_neg hr]
        exact ⟨fun f h => (by cases h; omega), fun x e h => (by cases h)⟩
    · rw [if_neg hd]
      exact ⟨fun f h => (by cases h; exact hs.2.1), fun x e h => (by cases h)⟩
theorem cN_l {T : Tp} {lo hi a f : Nat} {bad : Nat → Bool} (h : rN T lo hi a = .inl f) : cN T lo hi bad a = .inl f := by
  unfold cN
  rw [h]
theorem cN_b {T : Tp} {lo hi a x e : Nat} {bad : Nat → Bool} (h : rN T lo hi a = .inr (x, e)) (hb : bad x = true) : cN T lo hi bad a = .inl (e - 1) := by
  unfold cN
  rw [h]
  exact if_pos hb
theorem cN_d {T : Tp} {lo hi a x e : Nat} {bad : Nat → Bool} (h : rN T lo hi a = .inr (x, e)) (hb : ¬ bad x = true) (hd : dgB T e = true) : cN T lo hi bad a = .inl e := by
  unfold cN
  rw [h]
  exact (if_neg hb).trans (if_pos hd)
theorem cN_k {T : Tp} {lo hi a x e : Nat} {bad : Nat → Bool} (h : rN T lo hi a = .inr (x, e)) (hb : ¬ bad x = true) (hd : ¬ dgB T e = true) : cN T lo hi bad a = .inr (x, e) := by
  unfold cN
  rw [h]
  exact (if_neg hb).trans (if_neg hd)
theorem rN_d {T : Tp} {lo hi e : Nat} (hd : dgB T e = true) : rN T lo hi e = .inl e := by
  have := of_decide_eq_true hd
  unfold rN
  rw [if_pos ⟨this.1, by omega⟩]
/-- a number that another one follows -/
theorem n_step {γ : Type} {T : Tp} {lo hi lo2 hi2 a x a1 y a2 : Nat} {wr1 wr2 : Option Nat} {K : Nat → Nat → Nat ⊕ γ} (h1 : rN T lo hi a = rw0 wr1 x a1) (h2 : wr1 = none → rN T lo2 hi2 a1 = rw0 wr2 y a2) (h3 : ∀ f, wr1 = some f → wr2 = some f) :
    (∃ f, wr2 = some f ∧ bn (cN T lo hi nob a) K = .inl f) ∨ (wr1 = none ∧ bn (cN T lo hi nob a) K = K x a1 ∧ rN T lo2 hi2 a1 = rw0 wr2 y a2) := by
  cases wr1 with
  | some f => exact Or.inl ⟨f, h3 f rfl, by rw [cN_l h1]; rfl⟩
  | none =>
    have h2 := h2 rfl
    by_cases hd : dgB T a1 = true
    · rw [rN_d hd] at h2
      refine Or.inl ⟨a1, ?_, by rw [cN_d h1 (by simp) hd]; rfl⟩
      cases wr2 with
      | some g => exact congrArg some (Sum.inl.inj h2).symm
      | none => cases h2
    · exact Or.inr ⟨rfl, by rw [cN_k h1 (by simp) hd]; rfl, h2⟩
/-- the last number of a statement -/
theorem n_last {γ : Type} {T : Tp} {lo hi a x a1 : Nat} {wr : Option Nat} {bad : Nat → Bool} {K : Nat → Nat → Nat ⊕ γ} (h1 : rN T lo hi a = rw0 wr x a1) :
    (∃ f, wr = some f ∧ bn (cN T lo hi bad a) K = .inl f) ∨ (wr = none ∧ bad x = true ∧ bn (cN T lo hi bad a) K = .inl (a1 - 1)) ∨ (wr = none ∧ ¬ bad x = true ∧ dgB T a1 = true ∧ bn (cN T lo hi bad a) K = .inl a1) ∨ (wr = none ∧ ¬ bad x = true ∧ ¬ dgB T a1 = true ∧ bn (cN T lo hi bad a) K = K x a1) := by
  cases wr with
  | some f => exact Or.inl ⟨f, rfl, by rw [cN_l h1]; rfl⟩
  | none =>
    right
    by_cases hb : bad x = true
    · exact Or.inl ⟨rfl, hb, by rw [cN_b h1 hb]; rfl⟩
    · right
      by_cases hd : dgB T a1 = true
      · exact Or.inl ⟨rfl, hb, hd, by rw [cN_d h1 hb hd]; rfl⟩
      · exact Or.inr ⟨rfl, hb, hd, by rw [cN_k h1 hb hd]; rfl⟩
theorem cN_bd {T : Tp} {lo hi a : Nat} {bad : Nat → Bool} (ha : a ≤ T.1) : (∀ f, cN T lo hi bad a = .inl f → f ≤ T.1) ∧ ∀ x e, cN T lo hi bad a = .inr (x, e) → a < e ∧ e ≤ T.1 ∧ lo ≤ x ∧ x ≤ hi ∧ x ≤ 99 ∧ bad x = false := by
  have hr := rN_bd (lo := lo) (hi := hi) ha
  cases h : rN T lo hi a with
  | inl f =>
    rw [cN_l h]
    exact ⟨fun g z => (by cases z; exact hr.1 f h), fun x e z => (by cases z)⟩
  | inr q =>
    obtain ⟨x, e⟩ := q
    have h2 := hr.2 x e h
    by_cases hb : bad x = true
    · rw [cN_b h hb]
      exact ⟨fun g z => (by cases z; omega), fun x e z => (by cases z)⟩
    · by_cases hd : dgB T e = true
      · rw [cN_d h hb hd]
        exact ⟨fun g z => (by cases z; omega), fun x e z => (by cases z)⟩
      · rw [cN_k h hb hd]
        refine ⟨fun g z => (by cases z), fun x2 e2 z => ?_⟩
        have z := Sum.inr.inj z
        simp only [Prod.mk.injEq] at z
        obtain ⟨rfl, rfl⟩ := z
        exact ⟨h2.1, h2.2.1, h2.2.2.1, h2.2.2.2.1, h2.2.2.2.2, by simpa using hb⟩
/-! a trade's text: houses, costs, sources, what is had elsewhere, lots -/
abbrev Dr : Type := Nat × (Nat → Nat) × (Nat → Option Nat) × (Nat → Nat) × Lt
abbrev dN (D : Dr) : Nat := D.1
abbrev dC (D : Dr) : Nat → Nat := D.2.1
abbrev dS (D : Dr) : Nat → Option Nat := D.2.2.1
abbrev dE (D : Dr) : Nat → Nat := D.2.2.2.1
abbrev dT (D : Dr) : Lt := D.2.2.2.2
def fu {α : Type} (f : Nat → α) (k : Nat) (v : α) : Nat → α := fun j => if j = k then v else f j
theorem fu_at {α : Type} {f : Nat → α} {k : Nat} {v : α} : fu f k v k = v := if_pos rfl
theorem fu_ne {α : Type} {f : Nat → α} {k j : Nat} {v : α} (h : j ≠ k) : fu f k v j = f j := if_neg h
def dZ (n : Nat) : Dr := (n, fun _ => 0, fun _ => none, fun _ => 0, 0, fun _ => 0, fun _ => 0, fun _ => 0)
def dCost (D : Dr) (h v : Nat) : Dr := (D.1, fu D.2.1 h v, D.2.2)
def dElse (D : Dr) (h v : Nat) : Dr := (D.1, D.2.1, D.2.2.1, fu D.2.2.2.1 h v, D.2.2.2.2)
def dBuy (D : Dr) (x y : Nat) : Dr := (D.1, D.2.1, fu D.2.2.1 y (some x), D.2.2.2)
def dLot (D : Dr) (h p q : Nat) : Dr := (D.1, D.2.1, D.2.2.1, D.2.2.2.1, (dT D).1 + 1, fu (dT D).2.1 (dT D).1 h, fu (dT D).2.2.1 (dT D).1 p, fu (dT D).2.2.2 (dT D).1 q)
abbrev Sr : Type := Nat ⊕ (Dr × Nat)
/-- a statement, its letter at p -/
def cSt (T : Tp) (D : Dr) (p : Nat) : Sr :=
  if p < T.1 ∧ T.2 p = 99 then bn (cN T 0 (dN D - 1) nob (p + 1)) (fun h a => bn (cN T 0 30 nob a) (fun v e => .inr (dCost D h v, e)))
  else if p < T.1 ∧ T.2 p = 101 then bn (cN T 0 (dN D - 1) nob (p + 1)) (fun h a => bn (cN T 0 99 nob a) (fun v e => .inr (dElse D h v, e)))
  else if p < T.1 ∧ T.2 p = 98 then bn (cN T 0 (dN D - 1) nob (p + 1)) (fun x a => bn (cN T (x + 1) (dN D - 1) (fun v => (dS D v).isSome) a) (fun y e => .inr (dBuy D x y, e)))
  else if p < T.1 ∧ T.2 p = 119 ∧ (dT D).1 < 20 then bn (cN T 0 (dN D - 1) nob (p + 1)) (fun h a => bn (cN T 1 40 nob a) (fun q e => bn (cN T 1 30 nob e) (fun r g => .inr (dLot D h q r, g))))
  else .inl p
def cS0 (T : Tp) (p : Nat) : Sr := if p < T.1 ∧ T.2 p = 110 then bn (cN T 1 8 nob (p + 1)) (fun n a => .inr (dZ n, a)) else .inl p
def DrOK (D : Dr) : Prop := (1 ≤ dN D ∧ dN D ≤ 8) ∧ (∀ h, dC D h ≤ 30) ∧ (∀ b a, dS D b = some a → a < b ∧ b < dN D) ∧ (∀ h, dE D h ≤ 99) ∧ (dT D).1 ≤ 20 ∧ ∀ i, (dT D).2.1 i < 8 ∧ (dT D).2.2.1 i ≤ 40 ∧ (dT D).2.2.2 i ≤ 30
theorem dZ_ok {n : Nat} (h1 : 1 ≤ n) (h8 : n ≤ 8) : DrOK (dZ n) := ⟨⟨h1, h8⟩, fun _ => Nat.zero_le _, fun b a z => (by cases z), fun _ => Nat.zero_le _, Nat.zero_le _, fun _ => ⟨(by show 0 < 8; omega), Nat.zero_le _, Nat.zero_le _⟩⟩
theorem dCost_ok {D : Dr} {h v : Nat} (hD : DrOK D) (hv : v ≤ 30) : DrOK (dCost D h v) := ⟨hD.1, fun x => by
    show fu (dC D) h v x ≤ 30
    unfold fu
    split
    · exact hv
    · exact hD.2.1 x, hD.2.2⟩
theorem dElse_ok {D : Dr} {h v : Nat} (hD : DrOK D) (hv : v ≤ 99) : DrOK (dElse D h v) := ⟨hD.1, hD.2.1, hD.2.2.1, fun x => by
    show fu (dE D) h v x ≤ 99
    unfold fu
    split
    · exact hv
    · exact hD.2.2.2.1 x, hD.2.2.2.2⟩
theorem dBuy_ok {D : Dr} {x y : Nat} (hD : DrOK D) (h1 : x < y) (h2 : y < dN D) : DrOK (dBuy D x y) := ⟨hD.1, hD.2.1, fun b a z => by
    have z : fu (dS D) y (some x) b = some a := z
    unfold fu at z
    split at z
    · next e =>
      cases z
      subst e
      exact ⟨h1, h2⟩
    · exact hD.2.2.1 b a z, hD.2.2.2⟩
theorem dLot_ok {D : Dr} {h p q : Nat} (hD : DrOK D) (h1 : h < 8) (h2 : p ≤ 40) (h3 : q ≤ 30) (hl : (dT D).1 < 20) : DrOK (dLot D h p q) := ⟨hD.1, hD.2.1, hD.2.2.1, hD.2.2.2.1, hl, fun i => by
    show fu (dT D).2.1 (dT D).1 h i < 8 ∧ fu (dT D).2.2.1 (dT D).1 p i ≤ 40 ∧ fu (dT D).2.2.2 (dT D).1 q i ≤ 30
    have := hD.2.2.2.2.2 i
    unfold fu
    by_cases e : i = (dT D).1
    · rw [if_pos e, if_pos e, if_pos e]
      exact ⟨h1, h2, h3⟩
    · rw [if_neg e, if_neg e, if_neg e]
      exact this⟩
theorem bn_inr {γ : Type} {r : Nr} {K : Nat → Nat → Nat ⊕ γ} {z : γ} (h : bn r K = .inr z) : ∃ x a, r = .inr (x, a) ∧ K x a = .inr z := by
  cases r with
  | inl f => cases h
  | inr q => exact ⟨q.1, q.2, rfl, h⟩
theorem cSt_ok {T : Tp} {D : Dr} {p : Nat} (hD : DrOK D) {D2 : Dr} {e : Nat} (h : cSt T D p = .inr (D2, e)) : DrOK D2 ∧ p < e ∧ e ≤ T.1 := by
  have hn := hD.1
  unfold cSt at h
  split at h
  · next c =>
    obtain ⟨x, a, h1, h⟩ := bn_inr h
    obtain ⟨v, g, h2, h⟩ := bn_inr h
    have b1 := (cN_bd (by omega)).2 _ _ h1
    have b2 := (cN_bd (by omega)).2 _ _ h2
    cases h
    exact ⟨dCost_ok hD (by omega), by omega, by omega⟩
  · split at h
    · next c =>
      obtain ⟨x, a, h1, h⟩ := bn_inr h
      obtain ⟨v, g, h2, h⟩ := bn_inr h
      have b1 := (cN_bd (by omega)).2 _ _ h1
      have b2 := (cN_bd (by omega)).2 _ _ h2
      cases h
      exact ⟨dElse_ok hD (by omega), by omega, by omega⟩
    · split at h
      · next c =>
        obtain ⟨x, a, h1, h⟩ := bn_inr h
        obtain ⟨v, g, h2, h⟩ := bn_inr h
        have b1 := (cN_bd (by omega)).2 _ _ h1
        have b2 := (cN_bd (by omega)).2 _ _ h2
        cases h
        exact ⟨dBuy_ok hD (by omega) (by omega), by omega, by omega⟩
      · split at h
        · next c =>
          obtain ⟨x, a, h1, h⟩ := bn_inr h
          obtain ⟨v, g, h2, h⟩ := bn_inr h
          obtain ⟨r, k, h3, h⟩ := bn_inr h
          have b1 := (cN_bd (by omega)).2 _ _ h1
          have b2 := (cN_bd (by omega)).2 _ _ h2
          have b3 := (cN_bd (by omega)).2 _ _ h3
          cases h
          exact ⟨dLot_ok hD (by omega) (by omega) (by omega) c.2.2, by omega, by omega⟩
        · cases h
theorem cS0_ok {T : Tp} {p : Nat} {D2 : Dr} {e : Nat} (h : cS0 T p = .inr (D2, e)) : DrOK D2 ∧ p < e ∧ e ≤ T.1 := by
  unfold cS0 at h
  split at h
  · next c =>
    obtain ⟨x, a, h1, h⟩ := bn_inr h
    have b1 := (cN_bd (by omega)).2 _ _ h1
    cases h
    exact ⟨dZ_ok (by omega) (by omega), by omega, by omega⟩
  · cases h
def lpT (T : Tp) : Nat → Dr → Nat → Nat ⊕ Dr
  | 0, _, a => .inl a
  | f + 1, D, a => if sk T a < T.1 ∧ T.2 (sk T a) = 59 then (match cSt T D (sk T (sk T a + 1)) with
      | .inl g => .inl g
      | .inr (D2, e) => lpT T f D2 e) else if sk T a < T.1 then .inl (sk T a) else .inr D
/-- the rest of the text, behind a statement -/
def lp (T : Tp) (D : Dr) (a : Nat) : Nat ⊕ Dr := lpT T (T.1 + 1 - a) D a
theorem lpT_st {T : Tp} : ∀ (n : Nat) (D : Dr) (a : Nat), T.1 - a = n → a ≤ T.1 → DrOK D → ∀ f, T.1 + 1 - a ≤ f → lpT T f D a = lp T D a := by
  intro n
  induction n using Nat.strongRecOn with
  | ind n ih =>
    intro D a hn ha hD f hf
    obtain ⟨g, rfl⟩ : ∃ g, f = g + 1 := ⟨f - 1, by omega⟩
    obtain ⟨k, hk⟩ : ∃ k, T.1 + 1 - a = k + 1 := ⟨T.1 - a, by omega⟩
    unfold lp
    rw [hk]
    have hs := sk_is ha
    show (if _ then _ else _) = (if _ then _ else _)
    by_cases c : sk T a < T.1 ∧ T.2 (sk T a) = 59
    · rw [if_pos c, if_pos c]
      have hs2 := sk_is (T := T) (a := sk T a + 1) (by omega)
      cases h : cSt T D (sk T (sk T a + 1)) with
      | inl z => rfl
      | inr q =>
        obtain ⟨D2, e⟩ := q
        have h2 := cSt_ok hD h
        show lpT T g D2 e = lpT T k D2 e
        rw [ih (T.1 - e) (by omega) D2 e rfl h2.2.2 h2.1 g (by omega), ih (T.1 - e) (by omega) D2 e rfl h2.2.2 h2.1 k (by omega)]
    · rw [if_neg c, if_neg c]
theorem lp_eq {T : Tp} {D : Dr} {a : Nat} (ha : a ≤ T.1) (hD : DrOK D) : lp T D a = if sk T a < T.1 ∧ T.2 (sk T a) = 59 then (match cSt T D (sk T (sk T a + 1)) with
      | .inl g => .inl g
      | .inr (D2, e) => lp T D2 e) else if sk T a < T.1 then .inl (sk T a) else .inr D := by
  have hs := sk_is ha
  obtain ⟨k, hk⟩ : ∃ k, T.1 + 1 - a = k + 1 := ⟨T.1 - a, by omega⟩
  show lpT T (T.1 + 1 - a) D a = _
  rw [hk]
  show (if _ then _ else _) = _
  by_cases c : sk T a < T.1 ∧ T.2 (sk T a) = 59
  · rw [if_pos c, if_pos c]
    have hs2 := sk_is (T := T) (a := sk T a + 1) (by omega)
    cases h : cSt T D (sk T (sk T a + 1)) with
    | inl z => rfl
    | inr q =>
      obtain ⟨D2, e⟩ := q
      have h2 := cSt_ok hD h
      exact lpT_st _ D2 e rfl h2.2.2 h2.1 k (by omega)
  · rw [if_neg c, if_neg c]
def stA (T : Tp) (o : Option Dr) (p : Nat) : Sr := match o with
  | none => cS0 T p
  | some D => cSt T D p
/-- the text from a on, where a statement is to begin -/
def fromA (T : Tp) (o : Option Dr) (a : Nat) : Nat ⊕ Dr := match stA T o (sk T a) with
  | .inl g => .inl g
  | .inr (D2, e) => lp T D2 e
/-- the whole text -/
def pA (T : Tp) : Nat ⊕ Dr := fromA T none 0
