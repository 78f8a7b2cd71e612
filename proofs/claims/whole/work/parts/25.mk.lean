/-! ===== the tables of a market as one function: its equation ===== -/
theorem cmT_congr {E : Ec} {q : Nat → Nat} {R R' : Rt2} {h x : Nat} (hs : ∀ b x, eS E b = some h → R b (q (x + eC E b)) = R' b (q (x + eC E b))) : cmT E q R h x = cmT E q R' h x := by
  unfold cmT
  apply sm_congr
  intro b _
  by_cases hb : eS E b = some h
  · rw [hs b x hb]
  · rw [if_neg (fun z => hb z.1), if_neg (fun z => hb z.1)]
theorem prS_congr {E : Ec} {q : Nat → Nat} {R R' : Rt2} {h b u : Nat} (hb : eS E b = some h) (hs : ∀ b x, eS E b = some h → R b (q (x + eC E b)) = R' b (q (x + eC E b))) : prS E q R h b u = prS E q R' h b u := by
  unfold prS
  rw [hvF_congr (fun x => hs b x hb), owF_congr (fun x => hs b x hb)]
  have : cmF E q R h u = cmF E q R' h u := by
    unfold cmF
    simp only [cmT_congr hs]
  rw [this]
theorem stp_congr {E : Ec} {q : Nat → Nat} {R R' : Rt2} {h u : Nat} (hs : ∀ b x, eS E b = some h → R b (q (x + eC E b)) = R' b (q (x + eC E b))) : stp E q R h u = stp E q R' h u := by
  unfold stp
  split
  · rfl
  · refine Prod.ext (sm_congr _ (fun b _ => ?_)) (sm_congr _ (fun b _ => ?_))
    all_goals
      by_cases hb : eS E b = some h
      · rw [if_pos hb, if_pos hb, prS_congr hb hs, hs b _ hb]
      · rw [if_neg hb, if_neg hb]
def tab (E : Ec) (q : Nat → Nat) : Nat → Rt2
  | 0 => fun _ _ => (0, 0)
  | k + 1 => fun h u => if h = 7 - k then stp E q (tab E q k) h u else tab E q k h u
def mk (E : Ec) (q : Nat → Nat) : Rt2 := tab E q 8
theorem tab_stable (E : Ec) (q : Nat → Nat) (k : Nat) : ∀ j, k + j ≤ 8 → ∀ h u, 8 - k ≤ h → tab E q (k + j) h u = tab E q k h u
  | 0, _, _, _, _ => rfl
  | j + 1, hj, h, u, hh => by
    show (if h = 7 - (k + j) then stp E q (tab E q (k + j)) h u else tab E q (k + j) h u) = _
    rw [if_neg (by omega), tab_stable E q k j (by omega) h u hh]
theorem mk_eq {E : Ec} {q : Nat → Nat} (hS : ∀ b a, eS E b = some a → a < b) {h : Nat} (hh : h < 8) (u : Nat) : mk E q h u = stp E q (mk E q) h u := by
  have e1 := tab_stable E q (8 - h) h (by omega) h u (by omega)
  rw [show 8 - h + h = 8 by omega] at e1
  show tab E q 8 h u = _
  rw [e1, show 8 - h = (7 - h) + 1 by omega]
  show (if h = 7 - (7 - h) then stp E q (tab E q (7 - h)) h u else tab E q (7 - h) h u) = _
  rw [if_pos (by omega)]
  apply stp_congr
  intro b x hb
  have := hS b h hb
  have e2 := tab_stable E q (7 - h) (h + 1) (by omega) b (q (x + eC E b)) (by omega)
  rw [show 7 - h + (h + 1) = 8 by omega] at e2
  exact e2.symm
/-- the same with other houses joined -/
def setJ (E : Ec) (j : Int32) : Ec := (E.1, E.2.1, E.2.2.1, E.2.2.2.1, j, E.2.2.2.2.2)
theorem prS_j {E : Ec} {q : Nat → Nat} {R : Rt2} {h b u : Nat} {j : Int32} (hb : eS E b = some h) (hj : ∀ b, eS E b = some h → (jn (eJ E) (nI b) ↔ jn j (nI b))) : prS (setJ E j) q R h b u = prS E q R h b u := by
  have e1 : cmF (setJ E j) q R h u = cmF E q R h u := by
    unfold cmF
    have : ∀ x, cmT (setJ E j) q R h x = cmT E q R h x := by
      intro x
      unfold cmT
      apply sm_congr
      intro k _
      show (if eS E k = some h ∧ ¬ jn j (nI k) then _ else _) = _
      by_cases hk : eS E k = some h
      · have := hj k hk
        by_cases q1 : jn (eJ E) (nI k)
        · rw [if_neg (fun z => z.2 (this.mp q1)), if_neg (fun z => z.2 q1)]
        · rw [if_pos ⟨hk, fun z => q1 (this.mpr z)⟩, if_pos ⟨hk, q1⟩]
          rfl
      · rw [if_neg (fun z => hk z.1), if_neg (fun z => hk z.1)]
    simp only [this]
  have hjb := hj b hb
  unfold prS
  rw [e1]
  by_cases q1 : jn (eJ E) (nI b)
  · rw [if_pos q1, if_pos (show jn (eJ (setJ E j)) (nI b) from hjb.mp q1)]
  · rw [if_neg q1, if_neg (show ¬ jn (eJ (setJ E j)) (nI b) from fun z => q1 (hjb.mpr z))]
    rfl
theorem stp_j {E : Ec} {q : Nat → Nat} {R : Rt2} {h u : Nat} {j : Int32} (hj : ∀ b, eS E b = some h → (jn (eJ E) (nI b) ↔ jn j (nI b))) : stp (setJ E j) q R h u = stp E q R h u := by
  unfold stp
  show (if cnt (eS E) h (eN E) = 0 then _ else _) = _
  split
  · rfl
  · refine Prod.ext (sm_congr _ (fun b _ => ?_)) (sm_congr _ (fun b _ => ?_))
    all_goals
      show (if eS E b = some h then _ else _) = _
      by_cases hb : eS E b = some h
      · rw [if_pos hb, if_pos hb, prS_j hb hj]
        rfl
      · rw [if_neg hb, if_neg hb]
theorem mk_j {E : Ec} {q : Nat → Nat} {j : Int32} (hS : ∀ b a, eS E b = some a → a < b) (h0 : Nat) (hj : ∀ b, h0 < b → (∃ a, eS E b = some a) → (jn (eJ E) (nI b) ↔ jn j (nI b))) : ∀ (n h : Nat), 8 - h = n → h < 8 → h0 ≤ h → ∀ u, mk (setJ E j) q h u = mk E q h u := by
  intro n
  induction n using Nat.strongRecOn with
  | ind n ih =>
    intro h hn hh h1 u
    rw [mk_eq (E := setJ E j) hS hh u, mk_eq hS hh u, stp_j (fun b hb => hj b (by have := hS b h hb; omega) ⟨h, hb⟩)]
    apply stp_congr
    intro b x hb
    have := hS b h hb
    by_cases h8 : b < 8
    · exact ih (8 - b) (by omega) b rfl h8 (by omega) _
    · have e1 := tab_stable (setJ E j) q 0 8 (by omega) b (q (x + eC E b)) (by omega)
      have e2 := tab_stable E q 0 8 (by omega) b (q (x + eC E b)) (by omega)
      exact e1.trans e2.symm
/-- what h pays, where S is what is spent -/
def pdv (E : Ec) (q : Nat → Nat) (R : Rt2) (S : Nat → Nat) (h : Nat) : Nat := match eS E h with
  | none => 0
  | some a => if jn (eJ E) (nI h) then S a else prS E q R a h (q (S a))
def ocS (E : Ec) (q : Nat → Nat) (R : Rt2) : Nat → Nat → Nat
  | 0 => fun _ => 0
  | k + 1 => fun h => if h = k then pdv E q R (ocS E q R k) k + eC E k else ocS E q R k h
def spF (E : Ec) (q : Nat → Nat) : Nat → Nat := ocS E q (mk E q) 8
def pdF (E : Ec) (q : Nat → Nat) (h : Nat) : Nat := pdv E q (mk E q) (spF E q) h
theorem ocS_stable (E : Ec) (q : Nat → Nat) (R : Rt2) (k : Nat) : ∀ j h, h < k → ocS E q R (k + j) h = ocS E q R k h
  | 0, _, _ => rfl
  | j + 1, h, hh => by
    show (if h = k + j then _ else ocS E q R (k + j) h) = _
    rw [if_neg (by omega), ocS_stable E q R k j h hh]
theorem spF_eq {E : Ec} {q : Nat → Nat} (hS : ∀ b a, eS E b = some a → a < b) {h : Nat} (hh : h < 8) : spF E q h = pdF E q h + eC E h := by
  have e1 := ocS_stable E q (mk E q) (h + 1) (7 - h) h (by omega)
  rw [show h + 1 + (7 - h) = 8 by omega] at e1
  show ocS E q (mk E q) 8 h = _
  rw [e1]
  show (if h = h then pdv E q (mk E q) (ocS E q (mk E q) h) h + eC E h else _) = _
  rw [if_pos rfl]
  unfold pdF pdv
  cases hs : eS E h with
  | none => rfl
  | some a =>
    have := hS h a hs
    have e2 := ocS_stable E q (mk E q) h (8 - h) a this
    rw [show h + (8 - h) = 8 by omega] at e2
    show (if _ then ocS E q (mk E q) h a else prS E q (mk E q) a h (q (ocS E q (mk E q) h a))) + _ = (if _ then spF E q a else prS E q (mk E q) a h (q (spF E q a))) + _
    rw [show spF E q a = ocS E q (mk E q) h a from e2]
theorem rwF_mono {a b : Nat} (h : a ≤ b) : rwF a ≤ rwF b := by
  unfold rwF
  split <;> split <;> omega
theorem spF_le {E : Ec} (hS : ∀ b a, eS E b = some a → a < b) (hc : ∀ b, eC E b ≤ 60) : ∀ (h : Nat), h < 8 → spF E rwF h ≤ 41 + 60 * (h + 1) := by
  intro h
  induction h using Nat.strongRecOn with
  | ind h ih =>
    intro hh
    rw [spF_eq hS hh]
    have h1 := hc h
    unfold pdF pdv
    cases hs : eS E h with
    | none => simp only; omega
    | some a =>
      have h2 := hS h a hs
      have h3 := ih a h2 (by omega)
      simp only
      split
      · omega
      · have := prS_le (E := E) (q := rwF) (R := mk E rwF) (h := a) (b := h) (rwF_le (spF E rwF a))
        omega
/-- the tables hold for the houses from q on -/
def TbV (I : Im) (mb : Nat) (E : Ec) (q : Nat) : Prop := ∀ h, q ≤ h → h < eN E → ∀ u, rwF (eC E h) ≤ u → u ≤ lrF E h → tbR I mb h u = mk E rwF h u ∧ (cnt (eS E) h (eN E) = 0 → I (mb + 21 + 1 + h) u = nI (askF (eW E h) (eK E) u)) ∧ ∀ b, eS E b = some h → I (mb + 30 + 1 + b) u = nI (prS E rwF (mk E rwF) h b u)
/-- what a house earns -/
def erF (E : Ec) (q : Nat → Nat) (h : Nat) : Int32 := if cnt (eS E) h (eN E) = 0 then (nI (askF (eW E h) (eK E) (q (spF E q h))) - nI (spF E q h)) * (mk E q h (q (spF E q h))).1 else sm (fun b => if eS E b = some h then (nI (pdF E q b) - nI (spF E q h)) * (mk E q b (q (spF E q b))).1 else 0) (eN E)
def akF (E : Ec) (q : Nat → Nat) (h : Nat) : Int32 := if cnt (eS E) h (eN E) = 0 then nI (askF (eW E h) (eK E) (q (spF E q h))) else -1
/-- the outcome of the houses below k -/
def OcV (I : Im) (mb : Nat) (E : Ec) (k : Nat) : Prop := ∀ h, h < k → h < eN E → I (mb + 39) h = nI (pdF E rwF h) ∧ I (mb + 40) h = nI (spF E rwF h) ∧ I (mb + 41) h = akF E rwF h ∧ I (mb + 42) h = (mk E rwF h (rwF (spF E rwF h))).1
def ErV (I : Im) (mb : Nat) (E : Ec) (k : Nat) : Prop := ∀ h, h < k → h < eN E → I (mb + 43) h = erF E rwF h
/-- the market stands for E -/
def MkV (I : Im) (mb : Nat) (E : Ec) : Prop := MkC I mb E ∧ TbV I mb E 0 ∧ OcV I mb E 8 ∧ ErV I mb E 8
theorem TbV.j {I : Im} {mb : Nat} {E : Ec} {j : Int32} {q : Nat} (hS : ∀ b a, eS E b = some a → a < b) (hn : eN E ≤ 8) (h : TbV I mb E 0) (hj : ∀ b, q < b → (∃ a, eS E b = some a) → (jn (eJ E) (nI b) ↔ jn j (nI b))) : TbV I mb (setJ E j) q := by
  intro x hx hn2 u h1 h2
  have hn2 : x < eN E := hn2
  obtain ⟨g1, g2, g3⟩ := h x (Nat.zero_le _) hn2 u h1 h2
  have em : ∀ y v, q ≤ y → mk (setJ E j) rwF y v = mk E rwF y v := fun y v hy => by
    by_cases h8 : y < 8
    · exact mk_j hS q hj (8 - y) y rfl h8 hy v
    · exact (tab_stable (setJ E j) rwF 0 8 (by omega) y v (by omega)).trans (tab_stable E rwF 0 8 (by omega) y v (by omega)).symm
  refine ⟨g1.trans (em x u hx).symm, g2, fun b hb => ?_⟩
  have hb : eS E b = some x := hb
  rw [g3 b hb]
  have e1 : prS (setJ E j) rwF (mk (setJ E j) rwF) x b u = prS (setJ E j) rwF (mk E rwF) x b u := prS_congr (E := setJ E j) hb (fun z v hz => em z _ (by have := hS z x hz; omega))
  rw [e1, prS_j hb (fun z hz => hj z (by have := hS z x hz; omega) ⟨x, hz⟩)]
