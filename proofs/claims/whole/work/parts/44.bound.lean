/-! ===== what is taken and earned lies in bounds ===== -/
def smN (f : Nat → Nat) : Nat → Nat
  | 0 => 0
  | k + 1 => smN f k + f k
theorem smN_le {f g : Nat → Nat} : ∀ n, (∀ k, k < n → f k ≤ g k) → smN f n ≤ smN g n
  | 0, _ => Nat.le_refl _
  | n + 1, h => by
    unfold smN
    have := smN_le n (fun k hk => h k (by omega))
    have := h n (by omega)
    omega
theorem smN_congr {f g : Nat → Nat} : ∀ n, (∀ k, k < n → f k = g k) → smN f n = smN g n
  | 0, _ => rfl
  | n + 1, h => by
    unfold smN
    rw [smN_congr n (fun k hk => h k (by omega)), h n (by omega)]
theorem smN_add {f g : Nat → Nat} : ∀ n, smN (fun k => f k + g k) n = smN f n + smN g n
  | 0 => rfl
  | n + 1 => by
    unfold smN
    rw [smN_add n]
    omega
theorem smN_one (j c : Nat) : ∀ n, smN (fun k => if k = j then c else 0) n = if j < n then c else 0
  | 0 => rfl
  | n + 1 => by
    unfold smN
    rw [smN_one j c n]
    by_cases h : n = j
    · rw [if_pos h, if_neg (by omega), if_pos (by omega)]
      omega
    · rw [if_neg h]
      by_cases h2 : j < n
      · rw [if_pos h2, if_pos (by omega)]
        omega
      · rw [if_neg h2, if_neg (by omega)]
theorem smN_get {f : Nat → Nat} {j : Nat} : ∀ n, j < n → f j ≤ smN f n
  | 0, h => absurd h (Nat.not_lt_zero _)
  | n + 1, h => by
    unfold smN
    by_cases e : j = n
    · subst e
      omega
    · have := smN_get n (j := j) (f := f) (by omega)
      omega
theorem sm_nI (P : Nat → Prop) [DecidablePred P] (f : Nat → Nat) : ∀ n, sm (fun b => if P b then nI (f b) else 0) n = nI (smN (fun b => if P b then f b else 0) n)
  | 0 => rfl
  | n + 1 => by
    unfold sm smN
    rw [sm_nI P f n]
    by_cases h : P n
    · rw [if_pos h, if_pos h, nI_add]
    · rw [if_neg h, if_neg h]
      exact Int32.add_zero _
/-- how many are taken, as a natural number -/
def tnT (E : Ec) : Nat → Nat → Nat → Nat
  | 0 => fun _ _ => 0
  | k + 1 => fun h u => if h = 7 - k then (if cnt (eS E) h (eN E) = 0 then eW E h (askF (eW E h) (eK E) u) else smN (fun b => if eS E b = some h then tnT E k b (prS E idq (mk E idq) h b u + eC E b) else 0) (eN E)) else tnT E k h u
def tN (E : Ec) : Nat → Nat → Nat := tnT E 8
theorem tnT_stable (E : Ec) (k : Nat) : ∀ j, k + j ≤ 8 → ∀ h u, 8 - k ≤ h → tnT E (k + j) h u = tnT E k h u
  | 0, _, _, _, _ => rfl
  | j + 1, hj, h, u, hh => by
    show (if h = 7 - (k + j) then _ else tnT E (k + j) h u) = _
    rw [if_neg (by omega), tnT_stable E k j (by omega) h u hh]
theorem tN_eq {E : Ec} (hS : ∀ b a, eS E b = some a → a < b) {h : Nat} (hh : h < 8) (u : Nat) : tN E h u = if cnt (eS E) h (eN E) = 0 then eW E h (askF (eW E h) (eK E) u) else smN (fun b => if eS E b = some h then tN E b (prS E idq (mk E idq) h b u + eC E b) else 0) (eN E) := by
  have e1 := tnT_stable E (8 - h) h (by omega) h u (by omega)
  rw [show 8 - h + h = 8 by omega] at e1
  show tnT E 8 h u = _
  rw [e1, show 8 - h = (7 - h) + 1 by omega]
  show (if h = 7 - (7 - h) then _ else _) = _
  rw [if_pos (by omega)]
  by_cases hc : cnt (eS E) h (eN E) = 0
  · rw [if_pos hc, if_pos hc]
  · rw [if_neg hc, if_neg hc]
    apply smN_congr
    intro b _
    by_cases hb : eS E b = some h
    · rw [if_pos hb, if_pos hb]
      have := hS b h hb
      have e2 := tnT_stable E (7 - h) (h + 1) (by omega) b (prS E idq (mk E idq) h b u + eC E b) (by omega)
      rw [show 7 - h + (h + 1) = 8 by omega] at e2
      exact e2.symm
    · rw [if_neg hb, if_neg hb]
theorem tN_hi (E : Ec) {h : Nat} (hh : 8 ≤ h) (u : Nat) : tN E h u = 0 := tnT_stable E 0 8 (by omega) h u (by omega)
theorem mk_hi (E : Ec) (q : Nat → Nat) {h : Nat} (hh : 8 ≤ h) (u : Nat) : mk E q h u = (0, 0) := tab_stable E q 0 8 (by omega) h u (by omega)
theorem mk_tN {E : Ec} (hS : ∀ b a, eS E b = some a → a < b) : ∀ (n h : Nat), 8 - h = n → ∀ u, (mk E idq h u).1 = nI (tN E h u) := by
  intro n
  induction n using Nat.strongRecOn with
  | ind n ih =>
    intro h hn u
    by_cases hh : h < 8
    · rw [mk_eq hS hh u, tN_eq hS hh u]
      unfold stp
      by_cases hc : cnt (eS E) h (eN E) = 0
      · rw [if_pos hc, if_pos hc]
      · rw [if_neg hc, if_neg hc, ← sm_nI]
        apply sm_congr
        intro b _
        by_cases hb : eS E b = some h
        · rw [if_pos hb, if_pos hb]
          have := hS b h hb
          exact ih (8 - b) (by omega) b rfl _
        · rw [if_neg hb, if_neg hb]
    · rw [mk_hi E idq (by omega), tN_hi E (by omega)]
      rfl
/-- the wants go down with the price, and are 600 in all at most -/
def WbC (E : Ec) : Prop := (∀ h p q, p ≤ q → eW E h q ≤ eW E h p) ∧ smN (fun h => eW E h 0) (eN E) ≤ 600 ∧ (∀ h, eW E h 41 = 0) ∧ ∀ h p, eW E h p ≤ 600
def frn (E : Ec) (k b : Nat) : Prop := k ≤ b ∧ ∀ a, eS E b = some a → a < k
theorem frn_bound {E : Ec} (hE : SrC E) (hW : WbC E) (fd : ∀ k, DecidablePred (frn E k)) : ∀ (n k : Nat), eN E - k = n → k ≤ eN E → ∀ v : Nat → Nat, smN (fun b => @ite _ (frn E k b) (fd k b) (tN E b (v b)) 0) (eN E) ≤ smN (fun h => if k ≤ h then eW E h 0 else 0) (eN E) := by
  have hS : ∀ b a, eS E b = some a → a < b := fun b a h => (hE.2 b a h).1
  have h8 := hE.1
  intro n
  induction n with
  | zero =>
    intro k hn hk v
    refine smN_le _ (fun b hb => ?_)
    rw [if_neg (fun z => by have := z.1; omega)]
    exact Nat.zero_le _
  | succ n ih =>
    intro k hn hk v
    have ihk := ih (k + 1) (by omega) (by omega)
    have es : smN (fun h => if k ≤ h then eW E h 0 else 0) (eN E) = smN (fun h => if k + 1 ≤ h then eW E h 0 else 0) (eN E) + eW E k 0 := by
      have e1 : eW E k 0 = smN (fun h => if h = k then eW E k 0 else 0) (eN E) := by rw [smN_one, if_pos (by omega)]
      rw [e1, ← smN_add]
      apply smN_congr
      intro h _
      by_cases e : h = k
      · subst e
        rw [if_pos (Nat.le_refl _), if_neg (by omega), if_pos rfl]
        omega
      · rw [if_neg e]
        by_cases e2 : k ≤ h
        · rw [if_pos e2, if_pos (by omega)]
          omega
        · rw [if_neg e2, if_neg (by omega)]
    by_cases hc : cnt (eS E) k (eN E) = 0
    · have h1 := ihk v
      have h2 : smN (fun b => @ite _ (frn E k b) (fd k b) (tN E b (v b)) 0) (eN E) ≤ smN (fun b => @ite _ (frn E (k + 1) b) (fd (k + 1) b) (tN E b (v b)) 0) (eN E) + smN (fun h => if h = k then eW E k 0 else 0) (eN E) := by
        rw [← smN_add]
        refine smN_le _ (fun b hb => ?_)
        by_cases e : b = k
        · subst e
          rw [if_pos rfl]
          have : tN E b (v b) ≤ eW E b 0 := by
            rw [tN_eq hS (by omega), if_pos hc]
            exact hW.1 b 0 _ (Nat.zero_le _)
          split <;> omega
        · rw [if_neg e]
          by_cases hf : frn E k b
          · have hf2 : frn E (k + 1) b := ⟨by have := hf.1; omega, fun a ha => by have := hf.2 a ha; omega⟩
            rw [if_pos hf, if_pos hf2]
            omega
          · rw [if_neg hf]
            exact Nat.zero_le _
      rw [smN_one, if_pos (by omega)] at h2
      omega
    · have h1 := ihk (fun b => if eS E b = some k then prS E idq (mk E idq) k b (v k) + eC E b else v b)
      have h2 : smN (fun b => @ite _ (frn E k b) (fd k b) (tN E b (v b)) 0) (eN E) ≤ smN (fun b => @ite _ (frn E (k + 1) b) (fd (k + 1) b) (tN E b (if eS E b = some k then prS E idq (mk E idq) k b (v k) + eC E b else v b)) 0) (eN E) := by
        have hk2 : frn E k k := ⟨Nat.le_refl _, fun a ha => hS k a ha⟩
        have e1 : smN (fun b => @ite _ (frn E k b) (fd k b) (tN E b (v b)) 0) (eN E) = smN (fun b => if b ≠ k ∧ frn E k b ∧ True then 0 else 0) 0 + (smN (fun b => @ite _ (frn E k b) (fd k b) (if b = k then 0 else tN E b (v b)) 0) (eN E) + tN E k (v k)) := by
          have e2 : tN E k (v k) = smN (fun h => if h = k then tN E k (v k) else 0) (eN E) := by rw [smN_one, if_pos (by omega)]
          rw [show smN (fun b => if b ≠ k ∧ frn E k b ∧ True then 0 else 0) 0 = 0 from rfl, Nat.zero_add, e2, ← smN_add]
          apply smN_congr
          intro b _
          by_cases e : b = k
          · subst e
            rw [if_pos hk2, if_pos hk2, if_pos rfl, if_pos rfl]
            omega
          · rw [if_neg e, if_neg e]
            omega
        rw [e1, show smN (fun b => if b ≠ k ∧ frn E k b ∧ True then 0 else 0) 0 = 0 from rfl, Nat.zero_add, tN_eq hS (by omega) (v k), if_neg hc, ← smN_add]
        refine smN_le _ (fun b hb => ?_)
        by_cases hs : eS E b = some k
        · have hbk := hE.2 b k hs
          have hf : ¬ frn E k b := fun z => by have := z.2 k hs; omega
          have hf2 : frn E (k + 1) b := ⟨by omega, fun a ha => by rw [hs] at ha; have := Option.some.inj ha; omega⟩
          rw [if_neg hf, if_pos hf2, if_pos hs, if_pos hs]
          omega
        · rw [if_neg hs, if_neg hs]
          by_cases hf : frn E k b
          · by_cases e : b = k
            · rw [if_pos hf, if_pos e]
              omega
            · have hf2 : frn E (k + 1) b := ⟨by have := hf.1; omega, fun a ha => by have := hf.2 a ha; omega⟩
              rw [if_pos hf, if_neg e, if_pos hf2]
              omega
          · rw [if_neg hf]
            omega
      omega
theorem cnt_none {s : Nat → Option Nat} {h : Nat} : ∀ {n : Nat}, (∀ b, b < n → s b ≠ some h) → cnt s h n = 0
  | 0, _ => rfl
  | n + 1, hn => by
    unfold cnt
    rw [cnt_none (fun b hb => hn b (by omega)), if_neg (hn n (by omega))]
theorem tN_le {E : Ec} (hE : SrC E) (hW : WbC E) (h u : Nat) : tN E h u ≤ 600 := by
  have h8 := hE.1
  have fd : ∀ k, DecidablePred (frn E k) := fun k b => Classical.propDecidable _
  by_cases hh : h < eN E
  · have h1 := frn_bound hE hW fd (eN E - h) h rfl (by omega) (fun _ => u)
    have h2 := smN_get (f := fun b => @ite _ (frn E h b) (fd h b) (tN E b u) 0) (j := h) (eN E) hh
    have hf : frn E h h := ⟨Nat.le_refl _, fun a ha => (hE.2 h a ha).1⟩
    simp only [if_pos hf] at h2
    have h3 : smN (fun x => if h ≤ x then eW E x 0 else 0) (eN E) ≤ smN (fun x => eW E x 0) (eN E) := smN_le _ (fun x _ => by split <;> omega)
    have := hW.2.1
    omega
  · by_cases h9 : h < 8
    · rw [tN_eq (fun b a h => (hE.2 b a h).1) h9 u]
      have hz : cnt (eS E) h (eN E) = 0 ∨ cnt (eS E) h (eN E) ≠ 0 := Nat.eq_zero_or_pos _ |>.imp id (fun z => by omega)
      rcases hz with hz | hz
      · rw [if_pos hz]
        exact hW.2.2.2 h _
      · exfalso
        apply hz
        exact cnt_none (fun b hb q => by have := hE.2 b h q; omega)
    · rw [tN_hi E (by omega)]
      exact Nat.zero_le _
