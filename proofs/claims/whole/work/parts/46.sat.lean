/-! ===== from 41 on nothing changes: one row serves every higher u ===== -/
theorem isB_sat {g g2 : Nat → Int32} {ok : Nat → Bool} {z : Nat} (hg : ∀ x, x < 42 → (g x = 0 ∧ g2 x = 0) ∨ (g x < 0 ∧ g2 x < 0)) (h1 : ok 41 = true) (hz : g 41 = 0) (h : isB g ok 0 42 z) : isB g2 ok 0 42 z ∧ g z = 0 := by
  obtain ⟨b0, b1, b2, b3, b4⟩ := h
  have e := b3 41 (by omega) (by omega) h1
  rw [hz] at e
  have gz : g z = 0 ∧ g2 z = 0 := by
    rcases hg z b1 with h | h
    · exact h
    · exact absurd e (Int32.not_le.mpr h.1)
  refine ⟨⟨b0, b1, b2, fun p h2 h3 h4 => ?_, fun p h2 h3 h4 => ?_⟩, gz.1⟩
  · rw [gz.2]
    rcases hg p h3 with h | h
    · rw [h.2]
      exact Int32.le_refl _
    · exact Int32.le_of_lt h.2
  · rw [gz.2]
    have := b4 p h2 h3 h4
    rw [gz.1] at this
    rcases hg p (by omega) with h | h
    · rw [h.1] at this
      exact absurd this (by decide)
    · exact h.2
/-- a price below u at which some take is a loss -/
theorem loss {x u w : Nat} (hx : x ≤ 41) (hu : 41 ≤ u) (hu2 : u ≤ 2000) (hw : w ≤ 600) (h41 : x = 41 → w = 0) : (w = 0 ∧ (nI x - nI u) * nI w = 0) ∨ (w ≠ 0 ∧ (nI x - nI u) * nI w < 0) := by
  by_cases hz : w = 0
  · subst hz
    exact Or.inl ⟨rfl, Int32.mul_zero⟩
  · refine Or.inr ⟨hz, Int32.lt_iff_toInt_lt.mpr ?_⟩
    rw [nI_mul_toInt (by omega) hu2 hw]
    have hx2 : x < 41 := by
      rcases Nat.lt_or_ge x 41 with h | h
      · exact h
      · exact absurd (h41 (by omega)) hz
    have k : ((x : Int) - u) * w ≤ (-1) * w := Int.mul_le_mul_of_nonneg_right (by omega) (by omega)
    have : (0 : Int32).toInt = 0 := by decide
    omega
theorem loss2 {x u v w : Nat} (hx : x ≤ 41) (hu : 41 ≤ u) (hu2 : u ≤ 2000) (hv : 41 ≤ v) (hv2 : v ≤ 2000) (hw : w ≤ 600) (h41 : x = 41 → w = 0) : ((nI x - nI u) * nI w = 0 ∧ (nI x - nI v) * nI w = 0) ∨ ((nI x - nI u) * nI w < 0 ∧ (nI x - nI v) * nI w < 0) := by
  rcases loss hx hu hu2 hw h41 with h | h <;> rcases loss hx hv hv2 hw h41 with g | g
  · exact Or.inl ⟨h.2, g.2⟩
  · exact absurd h.1 g.1
  · exact absurd g.1 h.1
  · exact Or.inr ⟨h.2, g.2⟩
theorem ask_sat {w : Nat → Nat} {cap u : Nat} (hw : ∀ p, w p ≤ 600) (h41 : w 41 = 0) (hu : 41 ≤ u) (hu2 : u ≤ 2000) : askF w cap u = askF w cap 41 ∧ w (askF w cap u) = 0 := by
  have hl : ∀ x, x < 42 → ((nI x - nI u) * nI (w x) = 0 ∧ (nI x - nI 41) * nI (w x) = 0) ∨ ((nI x - nI u) * nI (w x) < 0 ∧ (nI x - nI 41) * nI (w x) < 0) := fun x hx => loss2 (by omega) hu hu2 (by omega) (by omega) (hw x) (fun e => by rw [e]; exact h41)
  have z0 : ∀ v, (nI 41 - nI v) * nI (w 41) = 0 := fun v => by rw [h41]; exact Int32.mul_zero
  have hb := (bdn_B (g := fun p => (nI p - nI u) * nI (w p)) (ok := fun p => decide (p ≤ cap ∨ p = 41)) (by simp) (z0 u) 41 (by omega)).1
  have hb2 := (bdn_B (g := fun p => (nI p - nI 41) * nI (w p)) (ok := fun p => decide (p ≤ cap ∨ p = 41)) (by simp) (z0 41) 41 (by omega)).1
  have hs := isB_sat (g2 := fun p => (nI p - nI 41) * nI (w p)) hl (by simp) (z0 u) hb
  refine ⟨isB_un hs.1 hb2, ?_⟩
  have ha := askF_le w cap u
  rcases loss (x := askF w cap u) (u := u) (w := w (askF w cap u)) ha hu hu2 (hw _) (fun e => by rw [e]; exact h41) with h | h
  · exact h.1
  · have := hs.2
    exact absurd h.2 (by rw [show (nI (askF w cap u) - nI u) * nI (w (askF w cap u)) = 0 from this]; decide)
theorem bs_sat {t : Nat → Nat} {u : Nat} (hw : ∀ p, t p ≤ 600) (h41 : t 41 = 0) (hu : 41 ≤ u) (hu2 : u ≤ 2000) : bsF (fun x => (nI x - nI u) * nI (t x)) 41 = bsF (fun x => (nI x - nI 41) * nI (t x)) 41 ∧ t (bsF (fun x => (nI x - nI u) * nI (t x)) 41) = 0 := by
  have hl : ∀ x, x < 42 → ((nI x - nI u) * nI (t x) = 0 ∧ (nI x - nI 41) * nI (t x) = 0) ∨ ((nI x - nI u) * nI (t x) < 0 ∧ (nI x - nI 41) * nI (t x) < 0) := fun x hx => loss2 (by omega) hu hu2 (by omega) (by omega) (hw x) (fun e => by rw [e]; exact h41)
  have z0 : ∀ v, (nI 41 - nI v) * nI (t 41) = 0 := fun v => by rw [h41]; exact Int32.mul_zero
  have hb := bs_isB (fun x => (nI x - nI u) * nI (t x)) 41
  have hb2 := bs_isB (fun x => (nI x - nI 41) * nI (t x)) 41
  have hs := isB_sat (g2 := fun p => (nI p - nI 41) * nI (t p)) hl rfl (z0 u) hb
  refine ⟨isB_un hs.1 hb2, ?_⟩
  have ha := bsF_le (fun x => (nI x - nI u) * nI (t x)) 41
  have h2 := hs.2
  generalize bsF (fun x => (nI x - nI u) * nI (t x)) 41 = z at ha h2
  rcases loss (x := z) (u := u) (w := t z) ha hu hu2 (hw _) (fun e => by rw [e]; exact h41) with h | h
  · exact h.1
  · exact absurd h.2 (by rw [show (nI z - nI u) * nI (t z) = 0 from h2]; decide)
theorem hv_sat {t : Nat → Nat} {b : Nat → Int32} {u : Nat} (hw : ∀ p, t p ≤ 600) (h41 : t 41 = 0) (hu : 41 ≤ u) (hu2 : u ≤ 2000) : ∀ k, k ≤ 42 → hvS (fun x => (nI x - nI u) * nI (t x)) b k = hvS (fun x => (nI x - nI 41) * nI (t x)) b k ∧ t (hvS (fun x => (nI x - nI u) * nI (t x)) b k).1 = 0
  | 0, _ => ⟨rfl, h41⟩
  | k + 1, hk => by
    obtain ⟨h1, h2⟩ := hv_sat (b := b) hw h41 hu hu2 k (by omega)
    have l1 := loss (x := k) (u := u) (w := t k) (by omega) hu hu2 (hw k) (fun e => by rw [e]; exact h41)
    have l2 := loss (x := k) (u := 41) (w := t k) (by omega) (by omega) (by omega) (hw k) (fun e => by rw [e]; exact h41)
    unfold hvS
    rw [h1] at h2 ⊢
    rcases l1 with l1 | l1
    · have l3 : (nI k - nI 41) * nI (t k) = 0 := by rw [l1.1]; exact Int32.mul_zero
      rw [l1.2, l3]
      refine ⟨rfl, ?_⟩
      split
      · exact l1.1
      · exact h2
    · have l3 := l2.resolve_left (fun z => l1.1 z.1)
      rw [if_neg (fun q => absurd q.1 (Int32.not_le.mpr l1.2)), if_neg (fun q => absurd q.1 (Int32.not_le.mpr l3.2))]
      exact ⟨rfl, h2⟩
/-- what all that buy from h take together -/
theorem cl_sum {E : Ec} (hE : SrC E) (hW : WbC E) (h : Nat) (hh : h < eN E) (P : Nat → Prop) [DecidablePred P] (v : Nat → Nat) : smN (fun b => if eS E b = some h ∧ P b then tN E b (v b) else 0) (eN E) ≤ 600 := by
  have fd : ∀ k, DecidablePred (frn E k) := fun k b => Classical.propDecidable _
  have h1 := frn_bound hE hW fd (eN E - (h + 1)) (h + 1) rfl (by omega) v
  have h2 : smN (fun b => if eS E b = some h ∧ P b then tN E b (v b) else 0) (eN E) ≤ smN (fun b => @ite _ (frn E (h + 1) b) (fd (h + 1) b) (tN E b (v b)) 0) (eN E) := smN_le _ (fun b _ => by
    by_cases hb : eS E b = some h ∧ P b
    · have hf : frn E (h + 1) b := ⟨(hE.2 b h hb.1).1, fun a ha => by rw [hb.1] at ha; have := Option.some.inj ha; omega⟩
      rw [if_pos hb, if_pos hf]
      exact Nat.le_refl _
    · rw [if_neg hb]
      exact Nat.zero_le _)
  have h3 : smN (fun x => if h + 1 ≤ x then eW E x 0 else 0) (eN E) ≤ smN (fun x => eW E x 0) (eN E) := smN_le _ (fun x _ => by split <;> omega)
  have := hW.2.1
  omega
theorem smN_z {f : Nat → Nat} : ∀ n, smN f n = 0 → ∀ k, k < n → f k = 0
  | 0, _, k, hk => absurd hk (Nat.not_lt_zero _)
  | n + 1, h, k, hk => by
    unfold smN at h
    by_cases e : k = n
    · subst e
      omega
    · exact smN_z n (by omega) k (by omega)
/-- from 41 on: nothing is taken, and the prices are those at 41 -/
theorem mk_sat {E : Ec} (hE : SrC E) (hW : WbC E) (hc : ∀ b, eC E b ≤ 60) : ∀ (n h : Nat), 8 - h = n → h < eN E → ∀ u, 41 ≤ u → u ≤ 1000 + 60 * h → mk E idq h u = (0, 0) ∧ ∀ b, eS E b = some h → ¬ jn (eJ E) (nI b) → prS E idq (mk E idq) h b u = prS E idq (mk E idq) h b 41 := by
  have hS : ∀ b a, eS E b = some a → a < b := fun b a h => (hE.2 b a h).1
  have h8 := hE.1
  intro n
  induction n using Nat.strongRecOn with
  | ind n ih =>
    intro h hn hh u hu hu2
    have hcl : ∀ b, eS E b = some h → ∀ v, 41 ≤ v → v ≤ 1060 + 60 * h → tN E b v = 0 := fun b hb v hv hv2 => by
      have h1 := hE.2 b h hb
      have h2 := (ih (8 - b) (by omega) b rfl h1.2 v hv (by omega)).1
      have h3 := mk_tN hS (8 - b) b rfl v
      rw [h2] at h3
      have h4 := tN_le hE hW b v
      have : nI 0 = nI (tN E b v) := h3
      exact ((nI_eq (by omega) (by omega)).mp this).symm
    have hT : ∀ b x, (mk E idq b (x + eC E b)).1 = nI (tN E b (x + eC E b)) := fun b x => mk_tN hS (8 - b) b rfl _
    -- the three ways of a price that isn't joined
    have key : ∀ b, eS E b = some h → ¬ jn (eJ E) (nI b) → prS E idq (mk E idq) h b u = prS E idq (mk E idq) h b 41 ∧ tN E b (prS E idq (mk E idq) h b u + eC E b) = 0 := by
      intro b hb hj
      have hcb := hc b
      have z41 : tN E b (41 + eC E b) = 0 := hcl b hb _ (by omega) (by omega)
      have tw : ∀ x, tN E b (x + eC E b) ≤ 600 := fun x => tN_le hE hW b _
      unfold prS
      rw [if_neg hj, if_neg hj]
      by_cases hH : eH E = true
      · rw [if_pos hH, if_pos hH]
        unfold hvF
        have := hv_sat (t := fun x => tN E b (x + eC E b)) (b := fun x => (mk E idq b (idq (x + eC E b))).2) tw z41 hu (by omega) 42 (by omega)
        simp only [hT]
        exact ⟨congrArg Prod.fst this.1, this.2⟩
      · rw [if_neg hH, if_neg hH]
        by_cases hA : eA E = true
        · rw [if_pos hA, if_pos hA]
          unfold cmF
          rw [← bs_cm, ← bs_cm]
          have hcm : ∀ x, cmT E idq (mk E idq) h x = nI (smN (fun b => if eS E b = some h ∧ ¬ jn (eJ E) (nI b) then tN E b (x + eC E b) else 0) (eN E)) := fun x => by
            unfold cmT
            simp only [hT]
            exact sm_nI _ _ _
          have hz : smN (fun b => if eS E b = some h ∧ ¬ jn (eJ E) (nI b) then tN E b (41 + eC E b) else 0) (eN E) = 0 := by
            have : smN (fun b => if eS E b = some h ∧ ¬ jn (eJ E) (nI b) then tN E b (41 + eC E b) else 0) (eN E) ≤ smN (fun _ => 0) (eN E) := smN_le _ (fun y _ => by
              split
              · next q =>
                have hy := hc y
                rw [hcl y q.1 _ (by omega) (by omega)]
                exact Nat.le_refl _
              · exact Nat.le_refl _)
            have h0 : ∀ n, smN (fun _ => 0) n = 0 := fun n => by
              induction n with
              | zero => rfl
              | succ n ih => unfold smN; rw [ih]
            rw [h0] at this
            omega
          simp only [hcm]
          have := bs_sat (t := fun x => smN (fun b => if eS E b = some h ∧ ¬ jn (eJ E) (nI b) then tN E b (x + eC E b) else 0) (eN E)) (fun x => cl_sum hE hW h hh _ _) hz hu (by omega)
          refine ⟨this.1, ?_⟩
          have h5 := smN_z _ this.2 b (hE.2 b h hb).2
          simp only [if_pos (show eS E b = some h ∧ ¬ jn (eJ E) (nI b) from ⟨hb, hj⟩)] at h5
          exact h5
        · rw [if_neg hA, if_neg hA]
          unfold owF
          simp only [hT]
          exact bs_sat (t := fun x => tN E b (x + eC E b)) tw z41 hu (by omega)
    refine ⟨?_, fun b hb hj => (key b hb hj).1⟩
    rw [mk_eq hS (by omega) u]
    unfold stp
    by_cases hz : cnt (eS E) h (eN E) = 0
    · rw [if_pos hz]
      have := (ask_sat (w := eW E h) (cap := eK E) (hW.2.2.2 h) (hW.2.2.1 h) hu (by omega)).2
      rw [this]
      exact Prod.ext rfl Int32.mul_zero
    · rw [if_neg hz]
      have h0 : ∀ b, eS E b = some h → (mk E idq b (idq (prS E idq (mk E idq) h b u + eC E b))).1 = 0 := fun b hb => by
        show (mk E idq b (prS E idq (mk E idq) h b u + eC E b)).1 = 0
        rw [hT]
        have hcb := hc b
        have h1 := hE.2 b h hb
        have : tN E b (prS E idq (mk E idq) h b u + eC E b) = 0 := by
          by_cases hj : jn (eJ E) (nI b)
          · have : prS E idq (mk E idq) h b u = u := if_pos hj
            rw [this]
            exact hcl b hb _ (by omega) (by omega)
          · exact (key b hb hj).2
        rw [this]
        rfl
      refine Prod.ext (sm_zero _ (fun b _ => ?_)) (sm_zero _ (fun b _ => ?_))
      · by_cases hb : eS E b = some h
        · rw [if_pos hb]
          exact h0 b hb
        · rw [if_neg hb]
      · by_cases hb : eS E b = some h
        · rw [if_pos hb, h0 b hb]
          exact Int32.mul_zero
        · rw [if_neg hb]
theorem bsF_congr {f g : Nat → Int32} : ∀ n, (∀ x, x ≤ n → f x = g x) → bsF f n = bsF g n
  | 0, _ => rfl
  | n + 1, h => by
    unfold bsF
    rw [bsF_congr n (fun x hx => h x (by omega)), h (n + 1) (by omega), h (bsF g n) (by have := bsF_le g n; omega)]
theorem cmS_congr {f g : Nat → Int32} (h : ∀ x, x ≤ 41 → f x = g x) : ∀ j, cmS f j = cmS g j
  | 0 => by
    unfold cmS
    rw [h 41 (by omega)]
  | j + 1 => by
    unfold cmS
    rw [cmS_congr h j, h (40 - j) (by omega)]
theorem hvS_congr {a a2 b b2 : Nat → Int32} : ∀ k, (∀ x, x < k → a x = a2 x ∧ b x = b2 x) → hvS a b k = hvS a2 b2 k
  | 0, _ => rfl
  | k + 1, h => by
    unfold hvS
    rw [hvS_congr k (fun x hx => h x (by omega)), (h k (by omega)).1, (h k (by omega)).2]
theorem prS_c2 {E : Ec} {R R2 : Rt2} {h b u : Nat} (hb : eS E b = some h) (hs : ∀ b x, eS E b = some h → x ≤ 41 → R b (x + eC E b) = R2 b (x + eC E b)) : prS E idq R h b u = prS E idq R2 h b u := by
  have e1 : hvF E idq R b u = hvF E idq R2 b u := by
    unfold hvF
    exact congrArg Prod.fst (hvS_congr 42 (fun x hx => by
      show (nI x - nI u) * (R b (x + eC E b)).1 = (nI x - nI u) * (R2 b (x + eC E b)).1 ∧ (R b (x + eC E b)).2 = (R2 b (x + eC E b)).2
      rw [hs b x hb (by omega)]
      exact ⟨rfl, rfl⟩))
  have e2 : owF E idq R b u = owF E idq R2 b u := by
    unfold owF
    exact bsF_congr 41 (fun x hx => by
      show (nI x - nI u) * (R b (x + eC E b)).1 = (nI x - nI u) * (R2 b (x + eC E b)).1
      rw [hs b x hb hx])
  have e3 : cmF E idq R h u = cmF E idq R2 h u := by
    unfold cmF
    refine congrArg Prod.fst (cmS_congr (fun x hx => ?_) 41)
    have : cmT E idq R h x = cmT E idq R2 h x := by
      unfold cmT
      apply sm_congr
      intro y _
      by_cases hy : eS E y = some h
      · show (if _ then (R y (x + eC E y)).1 else 0) = (if _ then (R2 y (x + eC E y)).1 else 0)
        rw [hs y x hy hx]
      · rw [if_neg (fun z => hy z.1), if_neg (fun z => hy z.1)]
    rw [this]
  unfold prS
  rw [e1, e2, e3]
theorem stp_c2 {E : Ec} {R R2 : Rt2} {h u : Nat} (hs : ∀ b x, eS E b = some h → (x ≤ 41 ∨ x = u) → R b (x + eC E b) = R2 b (x + eC E b)) : stp E idq R h u = stp E idq R2 h u := by
  unfold stp
  split
  · rfl
  · refine Prod.ext (sm_congr _ (fun b _ => ?_)) (sm_congr _ (fun b _ => ?_))
    all_goals
      by_cases hb : eS E b = some h
      · rw [if_pos hb, if_pos hb, prS_c2 hb (fun b x h1 h2 => hs b x h1 (Or.inl h2))]
        have e := hs b (prS E idq R2 h b u) hb prS_u
        show _ = _
        first
          | exact congrArg Prod.fst e
          | exact congrArg (fun z => (nI (prS E idq R2 h b u) - nI u) * z.1) e
      · rw [if_neg hb, if_neg hb]
theorem prS_q (E : Ec) (q : Nat → Nat) (R : Rt2) (h b u : Nat) : prS E q R h b u = prS E idq (fun b v => R b (q v)) h b u := by
  unfold prS hvF cmF cmT owF
  rfl
theorem stp_q (E : Ec) (q : Nat → Nat) (R : Rt2) (h u : Nat) : stp E q R h u = stp E idq (fun b v => R b (q v)) h u := by
  unfold stp
  simp only [prS_q E q R]
/-- one row serves all: the class's tables are the reference's -/
theorem mk_row {E : Ec} (hE : SrC E) (hW : WbC E) (hc : ∀ b, eC E b ≤ 60) : ∀ (n h : Nat), 8 - h = n → h < eN E → ∀ u, u ≤ 1000 + 60 * h → mk E rwF h (rwF u) = mk E idq h u := by
  have hS : ∀ b a, eS E b = some a → a < b := fun b a h => (hE.2 b a h).1
  have h8 := hE.1
  intro n
  induction n using Nat.strongRecOn with
  | ind n ih =>
    intro h hn hh u hu
    have low : ∀ v, v ≤ 41 → mk E rwF h v = mk E idq h v := fun v hv => by
      rw [mk_eq hS (by omega), mk_eq hS (by omega), stp_q]
      refine stp_c2 (fun b x hb hx => ?_)
      have h1 := hE.2 b h hb
      have h2 := hc b
      exact ih (8 - b) (by omega) b rfl h1.2 _ (by omega)
    rcases Nat.le_total u 41 with hle | hge
    · rw [show rwF u = u from if_pos hle]
      exact low u hle
    · have e : rwF u = 41 := by
        unfold rwF
        split <;> omega
      rw [e, low 41 (by omega), (mk_sat hE hW hc (8 - h) h rfl hh 41 (by omega) (by omega)).1, (mk_sat hE hW hc (8 - h) h rfl hh u hge hu).1]
theorem pr_row {E : Ec} (hE : SrC E) (hW : WbC E) (hc : ∀ b, eC E b ≤ 60) {h b u : Nat} (hh : h < eN E) (hb : eS E b = some h) (hj : ¬ jn (eJ E) (nI b)) (hu : u ≤ 1000 + 60 * h) : prS E rwF (mk E rwF) h b (rwF u) = prS E idq (mk E idq) h b u := by
  have e1 : ∀ v, prS E rwF (mk E rwF) h b v = prS E idq (mk E idq) h b v := fun v => by
    rw [prS_q]
    refine prS_c2 hb (fun y x hy hx => ?_)
    have h1 := hE.2 y h hy
    have h2 := hc y
    exact mk_row hE hW hc (8 - y) y rfl h1.2 _ (by omega)
  rw [e1]
  rcases Nat.le_total u 41 with hle | hge
  · rw [show rwF u = u from if_pos hle]
  · have e : rwF u = 41 := by
      unfold rwF
      split <;> omega
    rw [e, (mk_sat hE hW hc (8 - h) h rfl hh u hge hu).2 b hb hj]
theorem sp_same {E : Ec} (hE : SrC E) (hW : WbC E) (hc : ∀ b, eC E b ≤ 60) : ∀ h, h < eN E → spF E rwF h = spF E idq h ∧ pdF E rwF h = pdF E idq h := by
  have hS : ∀ b a, eS E b = some a → a < b := fun b a h => (hE.2 b a h).1
  have h8 := hE.1
  intro h
  induction h using Nat.strongRecOn with
  | ind h ih =>
    intro hh
    have e : pdF E rwF h = pdF E idq h := by
      unfold pdF pdv
      cases hs : eS E h with
      | none => rfl
      | some a =>
        have h1 := hE.2 h a hs
        have h2 := (ih a h1.1 (by omega)).1
        have h3 := spF_le hS hc a (by omega)
        show (if jn (eJ E) (nI h) then spF E rwF a else prS E rwF (mk E rwF) a h (rwF (spF E rwF a))) = (if jn (eJ E) (nI h) then spF E idq a else prS E idq (mk E idq) a h (idq (spF E idq a)))
        by_cases hj : jn (eJ E) (nI h)
        · rw [if_pos hj, if_pos hj, h2]
        · rw [if_neg hj, if_neg hj, pr_row hE hW hc (by omega) hs hj (by omega), h2]
    refine ⟨?_, e⟩
    rw [spF_eq hS (by omega), spF_eq hS (by omega), e]
