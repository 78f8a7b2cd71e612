/-! ===== statements and whole texts: the class ===== -/
theorem st2_f {γ : Type} {T : Tp} {lo hi hi2 a x a1 y a2 f : Nat} {lo2 : Nat → Nat} {wr1 wr2 : Option Nat} {bad : Nat → Bool} {K : Nat → Nat → Nat → Nat ⊕ γ} (h1 : rN T lo hi a = rw0 wr1 x a1) (h2 : wr1 = none → rN T (lo2 x) hi2 a1 = rw0 wr2 y a2) (h3 : ∀ f, wr1 = some f → wr2 = some f) (hf : wr2 = some f) : bn (cN T lo hi nob a) (fun x a1 => bn (cN T (lo2 x) hi2 bad a1) (K x)) = .inl f := by
  rcases n_step (K := fun x a1 => bn (cN T (lo2 x) hi2 bad a1) (K x)) h1 h2 h3 with ⟨g, e, h⟩ | ⟨e, h, h4⟩
  · rw [hf] at e
    cases e
    exact h
  · rw [h]
    rcases n_last (bad := bad) (K := K x) h4 with ⟨g, e, h⟩ | ⟨e, _⟩ | ⟨e, _⟩ | ⟨e, _⟩
    · rw [hf] at e
      cases e
      exact h
    · rw [hf] at e; cases e
    · rw [hf] at e; cases e
    · rw [hf] at e; cases e
theorem st2_n {γ : Type} {T : Tp} {lo hi hi2 a x a1 y a2 : Nat} {lo2 : Nat → Nat} {wr1 wr2 : Option Nat} {bad : Nat → Bool} {K : Nat → Nat → Nat → Nat ⊕ γ} (h1 : rN T lo hi a = rw0 wr1 x a1) (h2 : wr1 = none → rN T (lo2 x) hi2 a1 = rw0 wr2 y a2) (h3 : ∀ f, wr1 = some f → wr2 = some f) (hf : wr2 = none) :
    rN T lo hi a = .inr (x, a1) ∧ rN T (lo2 x) hi2 a1 = .inr (y, a2) ∧ (bad y = true → bn (cN T lo hi nob a) (fun x a1 => bn (cN T (lo2 x) hi2 bad a1) (K x)) = .inl (a2 - 1)) ∧ (¬ bad y = true → dgB T a2 = true → bn (cN T lo hi nob a) (fun x a1 => bn (cN T (lo2 x) hi2 bad a1) (K x)) = .inl a2) ∧ (¬ bad y = true → ¬ dgB T a2 = true → bn (cN T lo hi nob a) (fun x a1 => bn (cN T (lo2 x) hi2 bad a1) (K x)) = K x y a2) := by
  rcases n_step (K := fun x a1 => bn (cN T (lo2 x) hi2 bad a1) (K x)) h1 h2 h3 with ⟨g, e, h⟩ | ⟨e, h, h4⟩
  · rw [hf] at e; cases e
  · rw [e] at h1
    rw [hf] at h4
    refine ⟨h1, h4, ?_⟩
    rw [h]
    rcases n_last (bad := bad) (K := K x) (wr := none) h4 with ⟨g, e, h⟩ | ⟨_, g, h⟩ | ⟨_, g, k, h⟩ | ⟨_, g, k, h⟩
    · cases e
    · exact ⟨fun _ => h, fun z => absurd g z, fun z => absurd g z⟩
    · exact ⟨fun z => absurd z g, fun _ _ => h, fun _ z => absurd k z⟩
    · exact ⟨fun z => absurd z g, fun _ z => absurd z k, fun _ _ => h⟩
def DrC (I : Im) (t : Nat) (D : Dr) : Prop := I t 0 = nI (dN D) ∧ I t 1 = nI (dT D).1 ∧ (∀ h, h < 8 → I (t + 1) h = nI (dC D h) ∧ I (t + 2) h = sI (dS D h) ∧ I (t + 3) h = nI (dE D h) ∧ I (t + 4) h = nI (cnt (dS D) h 8)) ∧ ∀ h p, h < 8 → p < 42 → I (t + 5 + 1 + h) p = nI (wS (dT D) h p (dT D).1)
/-- all but a draft's text and the tape's own numbers -/
def FrS (I I2 : Im) (ta t : Nat) : Prop := ∀ c k, ¬ (t ≤ c ∧ c < t + 14 ∧ (c = t → k < 2)) → ¬ (c = ta ∧ (k = 2 ∨ k = 3)) → I2 c k = I c k
theorem DrC.keep {I I2 : Im} {t : Nat} {D : Dr} (h : DrC I t D) (hf : ∀ c k, t ≤ c → c < t + 14 → (c = t → k < 2) → I2 c k = I c k) : DrC I2 t D :=
  ⟨(hf _ _ (by omega) (by omega) (by omega)).trans h.1, (hf _ _ (by omega) (by omega) (by omega)).trans h.2.1, fun x hx => ⟨(hf _ _ (by omega) (by omega) (by omega)).trans (h.2.2.1 x hx).1, (hf _ _ (by omega) (by omega) (by omega)).trans (h.2.2.1 x hx).2.1, (hf _ _ (by omega) (by omega) (by omega)).trans (h.2.2.1 x hx).2.2.1, (hf _ _ (by omega) (by omega) (by omega)).trans (h.2.2.1 x hx).2.2.2⟩, fun x p hx hp => (hf _ _ (by omega) (by omega) (by omega)).trans (h.2.2.2 x p hx hp)⟩
theorem DrC.cost {I : Im} {t : Nat} {D : Dr} {x v : Nat} (h : DrC I t D) : DrC (up2 I (t + 1) x (nI v)) t (dCost D x v) := by
  refine ⟨(up2_rd (by omega)).trans h.1, (up2_rd (by omega)).trans h.2.1, fun y hy => ⟨?_, (up2_rd (by omega)).trans (h.2.2.1 y hy).2.1, (up2_rd (by omega)).trans (h.2.2.1 y hy).2.2.1, (up2_rd (by omega)).trans (h.2.2.1 y hy).2.2.2⟩, fun y p hy hp => (up2_rd (by omega)).trans (h.2.2.2 y p hy hp)⟩
  show _ = nI (fu (dC D) x v y)
  by_cases e : y = x
  · rw [e, up2_at, fu_at]
  · rw [up2_rd (Or.inr e), fu_ne e]
    exact (h.2.2.1 y hy).1
theorem DrC.els {I : Im} {t : Nat} {D : Dr} {x v : Nat} (h : DrC I t D) : DrC (up2 I (t + 3) x (nI v)) t (dElse D x v) := by
  refine ⟨(up2_rd (by omega)).trans h.1, (up2_rd (by omega)).trans h.2.1, fun y hy => ⟨(up2_rd (by omega)).trans (h.2.2.1 y hy).1, (up2_rd (by omega)).trans (h.2.2.1 y hy).2.1, ?_, (up2_rd (by omega)).trans (h.2.2.1 y hy).2.2.2⟩, fun y p hy hp => (up2_rd (by omega)).trans (h.2.2.2 y p hy hp)⟩
  show _ = nI (fu (dE D) x v y)
  by_cases e : y = x
  · rw [e, up2_at, fu_at]
  · rw [up2_rd (Or.inr e), fu_ne e]
    exact (h.2.2.1 y hy).2.2.1
theorem cnt_fu {s : Nat → Option Nat} {x y h : Nat} (hy : s y = none) : ∀ n, cnt (fu s y (some x)) h n = cnt s h n + (if y < n ∧ h = x then 1 else 0)
  | 0 => by
    rw [if_neg (by omega)]
    rfl
  | n + 1 => by
    unfold cnt
    rw [cnt_fu hy n]
    by_cases e : n = y
    · subst e
      rw [fu_at, hy, if_neg (show ¬ (n < n ∧ h = x) by omega)]
      by_cases g : h = x
      · subst g
        rw [if_pos rfl, if_neg (by simp), if_pos ⟨by omega, rfl⟩]
      · rw [if_neg (fun z => g (Option.some.inj z).symm), if_neg (by simp), if_neg (fun z => g z.2)]
    · rw [fu_ne e]
      have e2 : (if y < n + 1 ∧ h = x then 1 else 0) = (if y < n ∧ h = x then 1 else 0) := by
        by_cases g : y < n ∧ h = x
        · rw [if_pos g, if_pos ⟨by omega, g.2⟩]
        · rw [if_neg g, if_neg (fun z => g ⟨by omega, z.2⟩)]
      rw [e2]
      omega
theorem DrC.buy {I : Im} {t : Nat} {D : Dr} {x y : Nat} (h : DrC I t D) (hx : x < 8) (hy : y < 8) (hn : dS D y = none) : DrC (up2 (up2 I (t + 2) y (nI x)) (t + 4) x (I (t + 4) x + 1)) t (dBuy D x y) := by
  refine ⟨(up2_rd (by omega)).trans ((up2_rd (by omega)).trans h.1), (up2_rd (by omega)).trans ((up2_rd (by omega)).trans h.2.1), fun z hz => ⟨(up2_rd (by omega)).trans ((up2_rd (by omega)).trans (h.2.2.1 z hz).1), (up2_rd (by omega)).trans ?_, (up2_rd (by omega)).trans ((up2_rd (by omega)).trans (h.2.2.1 z hz).2.2.1), ?_⟩, fun z p hz hp => (up2_rd (by omega)).trans ((up2_rd (by omega)).trans (h.2.2.2 z p hz hp))⟩
  · show _ = sI (fu (dS D) y (some x) z)
    by_cases e : z = y
    · rw [e, up2_at, fu_at]
      rfl
    · rw [up2_rd (Or.inr e), fu_ne e]
      exact (h.2.2.1 z hz).2.1
  · show _ = nI (cnt (fu (dS D) y (some x)) z 8)
    rw [cnt_fu hn]
    by_cases e : z = x
    · rw [e, up2_at, if_pos ⟨hy, rfl⟩, (h.2.2.1 x hx).2.2.2, nI_1]
    · rw [up2_rd (Or.inr e), up2_rd (by omega), if_neg (fun q => e q.2)]
      exact (h.2.2.1 z hz).2.2.2
theorem wS_congr {T T2 : Lt} {h p : Nat} : ∀ k, (∀ i, i < k → T.2.1 i = T2.2.1 i ∧ T.2.2.1 i = T2.2.2.1 i ∧ T.2.2.2 i = T2.2.2.2 i) → wS T h p k = wS T2 h p k
  | 0, _ => rfl
  | k + 1, hk => by
    unfold wS
    rw [wS_congr k (fun i hi => hk i (by omega)), (hk k (by omega)).1, (hk k (by omega)).2.1, (hk k (by omega)).2.2]
theorem wS_lot {D : Dr} {h p q x z : Nat} : wS (dT (dLot D h p q)) x z (dT (dLot D h p q)).1 = wS (dT D) x z (dT D).1 + (if h = x ∧ z ≤ p then q else 0) := by
  show wS (dT (dLot D h p q)) x z (dT D).1 + (if _ then _ else _) = _
  rw [wS_congr (T2 := dT D) (dT D).1 (fun i hi => ⟨fu_ne (by omega), fu_ne (by omega), fu_ne (by omega)⟩)]
  show _ + (if fu (dT D).2.1 (dT D).1 h (dT D).1 = x ∧ z ≤ fu (dT D).2.2.1 (dT D).1 p (dT D).1 then fu (dT D).2.2.2 (dT D).1 q (dT D).1 else 0) = _
  rw [fu_at, fu_at, fu_at]
theorem DrC.lot {I I2 : Im} {t : Nat} {D : Dr} {x p q : Nat} (h : DrC I t D) (h1 : I2 t 1 = nI ((dT D).1 + 1)) (h2 : ∀ z, z < 42 → I2 (t + 5 + 1 + x) z = I (t + 5 + 1 + x) z + (if z ≤ p then nI q else 0)) (h3 : ∀ c k, c ≠ t + 5 + 1 + x → ¬ (c = t ∧ k = 1) → I2 c k = I c k) : DrC I2 t (dLot D x p q) := by
  refine ⟨(h3 _ _ (by omega) (by omega)).trans h.1, h1, fun z hz => ?_, fun y z hy hz => ?_⟩
  · by_cases e : x < 8 <;> exact ⟨(h3 _ _ (by omega) (by omega)).trans (h.2.2.1 z hz).1, (h3 _ _ (by omega) (by omega)).trans (h.2.2.1 z hz).2.1, (h3 _ _ (by omega) (by omega)).trans (h.2.2.1 z hz).2.2.1, (h3 _ _ (by omega) (by omega)).trans (h.2.2.1 z hz).2.2.2⟩
  · rw [wS_lot]
    by_cases e : y = x
    · subst e
      rw [h2 z hz, h.2.2.2 y z hy hz]
      by_cases g : z ≤ p
      · rw [if_pos g, if_pos ⟨rfl, g⟩, nI_add]
      · rw [if_neg g, if_neg (fun k => g k.2), Int32.add_zero]
        rfl
    · rw [h3 _ _ (by omega) (by omega), if_neg (fun k => e k.1.symm), h.2.2.2 y z hy hz]
      rfl
/-- what a statement leaves -/
def StQ (T : Tp) (res : Sr) (I2 : Im) (ta t : Nat) : Prop := ∃ (a : Nat) (wr : Option Nat), a ≤ T.1 ∧ I2 ta 2 = nI a ∧ I2 ta 3 = sI wr ∧ (∀ f, wr = some f → f ≤ 300) ∧ ((∃ f, wr = some f ∧ res = .inl f) ∨ (wr = none ∧ ∃ D2, res = .inr (D2, a) ∧ DrC I2 t D2) ∨ (wr = none ∧ res = .inl a ∧ dgB T a = true))

set_option maxRecDepth 100000 in
theorem empty_ct {d : Nat} {I : Im} {G : Gm} {t : Nat} (h8 : isC8 G t) : Ct (d + 1) 0 0 YX8_empty [.ref t] (I, G) (qV G (fun I2 => DrC I2 t (dZ 0) ∧ ∀ c k, ¬ (t ≤ c ∧ c < t + 14 ∧ (c = t → k < 2)) → I2 c k = I c k)) := by
  refine Ct.of (by decide) (by simp [Value.category]) (Nat.le_of_ble_eq_true rfl) ?_
  show wp _ _ _ _ 0 [some (.ref t), none, none] [] _ _
  refine r_aload_n (pc := 0) dX8_empty_0 rfl ?_
  refine r_iconst (pc := 1) (v := 0) dX8_empty_1 (by decide) ?_
  refine r_putI (pc := 2) (v := nI 0) 8 0 9 dX8_empty_2 (fl_RX8_9 rfl) (by decide) rfl rfl (c8_o h8) ?_
  refine r_aload_n (pc := 5) dX8_empty_5 rfl ?_
  refine r_iconst (pc := 6) (v := 0) dX8_empty_6 (by decide) ?_
  refine r_putI (pc := 7) (v := nI 0) 8 1 15 dX8_empty_7 (fl_RX8_15 rfl) (by decide) rfl rfl (c8_o h8) ?_
  refine r_iconst (pc := 10) (v := 0) dX8_empty_10 (by decide) ?_
  refine r_istore_n (pc := 11) (L' := [some (.ref t), some (.int (nI 0)), none]) dX8_empty_11 (by decide) rfl rfl ?_
  have lp12 : ∀ (n12 : Nat), ∀ (h : Nat) (I1 : Im), 8 - h = n12 → (h ≤ 8) → (I1 t 0 = 0 ∧ I1 t 1 = 0) → (∀ x, x < h → (I1 (t + 1) x = 0 ∧ I1 (t + 2) x = -1 ∧ I1 (t + 3) x = 0 ∧ I1 (t + 4) x = 0) ∧ ∀ p, p < 42 → I1 (t + 5 + 1 + x) p = 0) → (∀ c k, ¬ (t ≤ c ∧ c < t + 14 ∧ (c = t → k < 2)) → I1 c k = I c k) → wp (d + 1) 0 0 YX8_empty 12 [some (.ref t), some (.int (nI h)), none] [] (I1, G) (qV G (fun I2 => DrC I2 t (dZ 0) ∧ ∀ c k, ¬ (t ≤ c ∧ c < t + 14 ∧ (c = t → k < 2)) → I2 c k = I c k)) := by
    intro n12
    induction n12 using Nat.strongRecOn with
    | ind n12 ih12 =>
      intro h I1 hmu12 hh hz hv hfr
      refine r_iload_n (pc := 12) dX8_empty_12 rfl ?_
      refine r_bipush (pc := 13) (v := 8) dX8_empty_13 (by decide) ?_
      refine r_icmp_ge_n (pc := 15) (a := h) (b := 8) (tgt := 75) dX8_empty_15 (by decide) (by omega) (by omega) (fun c15 => ?_) (fun c15 => ?_)
      · skip
        refine r_ret_v (pc := 75) dX8_empty_75 rfl ?_
        refine ⟨rfl, I1, rfl, ⟨hz.1, hz.2, fun x hx => ?_, fun x p hx hp => (hv x (by omega)).2 p hp⟩, hfr⟩
        have q := (hv x (by omega)).1
        refine ⟨q.1, q.2.1, q.2.2.1, ?_⟩
        rw [q.2.2.2, show cnt (dS (dZ 0)) x 8 = 0 from cnt_none (fun b hb => by show (none : Option Nat) ≠ _; simp), nI_0]
      · skip
        refine r_aload_n (pc := 18) dX8_empty_18 rfl ?_
        refine r_get1 (pc := 19) 8 2 18 dX8_empty_19 (fl_RX8_18 rfl) (by decide) rfl (c8_o h8) (c8_p2 h8) ?_
        refine r_iload_n (pc := 22) dX8_empty_22 rfl ?_
        refine r_iconst (pc := 23) (v := 0) dX8_empty_23 (by decide) ?_
        refine r_iast_n (pc := 24) (i := h) (v := nI 0) dX8_empty_24 (c8_a2 h8) (by decide) (by omega) ?_
        refine r_aload_n (pc := 25) dX8_empty_25 rfl ?_
        refine r_get1 (pc := 26) 8 3 22 dX8_empty_26 (fl_RX8_22 rfl) (by decide) rfl (c8_o h8) (c8_p3 h8) ?_
        refine r_iload_n (pc := 29) dX8_empty_29 rfl ?_
        refine r_iconst (pc := 30) (v := -1) dX8_empty_30 (by decide) ?_
        refine r_iast_n (pc := 31) (i := h) (v := (-1)) dX8_empty_31 (c8_a3 h8) (by decide) (by omega) ?_
        refine r_aload_n (pc := 32) dX8_empty_32 rfl ?_
        refine r_get1 (pc := 33) 8 4 25 dX8_empty_33 (fl_RX8_25 rfl) (by decide) rfl (c8_o h8) (c8_p4 h8) ?_
        refine r_iload_n (pc := 36) dX8_empty_36 rfl ?_
        refine r_iconst (pc := 37) (v := 0) dX8_empty_37 (by decide) ?_
        refine r_iast_n (pc := 38) (i := h) (v := nI 0) dX8_empty_38 (c8_a4 h8) (by decide) (by omega) ?_
        refine r_aload_n (pc := 39) dX8_empty_39 rfl ?_
        refine r_get1 (pc := 40) 8 5 28 dX8_empty_40 (fl_RX8_28 rfl) (by decide) rfl (c8_o h8) (c8_p5 h8) ?_
        refine r_iload_n (pc := 43) dX8_empty_43 rfl ?_
        refine r_iconst (pc := 44) (v := 0) dX8_empty_44 (by decide) ?_
        refine r_iast_n (pc := 45) (i := h) (v := nI 0) dX8_empty_45 (c8_a5 h8) (by decide) (by omega) ?_
        obtain ⟨I2, hI2⟩ : ∃ zz0 : Im, zz0 = up2 (up2 (up2 (up2 I1 (t + 1) h (nI 0)) (t + 2) h (-1)) (t + 3) h (nI 0)) (t + 4) h (nI 0) := ⟨_, rfl⟩
        refine wp_M (M2 := (I2, G)) (by subst hI2; rfl) ?_
        refine r_iconst (pc := 46) (v := 0) dX8_empty_46 (by decide) ?_
        refine r_istore_n (pc := 47) (L' := [some (.ref t), some (.int (nI h)), some (.int (nI 0))]) dX8_empty_47 (by decide) rfl rfl ?_
        have lp48 : ∀ (n48 : Nat), ∀ (p : Nat) (I3 : Im), 42 - p = n48 → (p ≤ 42) → (∀ q, q < p → I3 (t + 5 + 1 + h) q = 0) → (∀ c k, c ≠ t + 5 + 1 + h → I3 c k = I2 c k) → wp (d + 1) 0 0 YX8_empty 48 [some (.ref t), some (.int (nI h)), some (.int (nI p))] [] (I3, G) (qV G (fun I2 => DrC I2 t (dZ 0) ∧ ∀ c k, ¬ (t ≤ c ∧ c < t + 14 ∧ (c = t → k < 2)) → I2 c k = I c k)) := by
          intro n48
          induction n48 using Nat.strongRecOn with
          | ind n48 ih48 =>
            intro p I3 hmu48 hp hw hf3
            refine r_iload_n (pc := 48) dX8_empty_48 rfl ?_
            refine r_bipush (pc := 49) (v := 42) dX8_empty_49 (by decide) ?_
            refine r_icmp_ge_n (pc := 51) (a := p) (b := 42) (tgt := 69) dX8_empty_51 (by decide) (by omega) (by omega) (fun c51 => ?_) (fun c51 => ?_)
            · skip
              have hz3 : I3 t 0 = 0 ∧ I3 t 1 = 0 := by
                rw [hf3 _ _ (by omega), hf3 _ _ (by omega), hI2, up2_rd (by omega), up2_rd (by omega), up2_rd (by omega), up2_rd (by omega), up2_rd (by omega), up2_rd (by omega), up2_rd (by omega), up2_rd (by omega)]; exact hz
              have hv3 : ∀ x, x < h + 1 → (I3 (t + 1) x = 0 ∧ I3 (t + 2) x = -1 ∧ I3 (t + 3) x = 0 ∧ I3 (t + 4) x = 0) ∧ ∀ p, p < 42 → I3 (t + 5 + 1 + x) p = 0 := fun x hx => by
                by_cases e : x = h
                · subst e
                  refine ⟨⟨?_, ?_, ?_, ?_⟩, fun q hq => hw q (by omega)⟩
                  · rw [hf3 _ _ (by omega), hI2, up2_rd (by omega), up2_rd (by omega), up2_rd (by omega), up2_at, nI_0]
                  · rw [hf3 _ _ (by omega), hI2, up2_rd (by omega), up2_rd (by omega), up2_at]
                  · rw [hf3 _ _ (by omega), hI2, up2_rd (by omega), up2_at, nI_0]
                  · rw [hf3 _ _ (by omega), hI2, up2_at, nI_0]
                · have q0 := hv x (by omega)
                  have r : ∀ c k, (c ≠ t + 5 + 1 + h) → k ≠ h ∨ (c ≠ t + 1 ∧ c ≠ t + 2 ∧ c ≠ t + 3 ∧ c ≠ t + 4) → I3 c k = I1 c k := fun c k g1 g2 => by rw [hf3 _ _ g1, hI2, up2_rd (by omega), up2_rd (by omega), up2_rd (by omega), up2_rd (by omega)]
                  exact ⟨⟨(r _ _ (by omega) (by omega)).trans q0.1.1, (r _ _ (by omega) (by omega)).trans q0.1.2.1, (r _ _ (by omega) (by omega)).trans q0.1.2.2.1, (r _ _ (by omega) (by omega)).trans q0.1.2.2.2⟩, fun q hq => (r _ _ (by omega) (by omega)).trans (q0.2 q hq)⟩
              have hfr3 : ∀ c k, ¬ (t ≤ c ∧ c < t + 14 ∧ (c = t → k < 2)) → I3 c k = I c k := fun c k z => by rw [hf3 _ _ (by omega), hI2, up2_rd (by omega), up2_rd (by omega), up2_rd (by omega), up2_rd (by omega)]; exact hfr c k z
              refine r_iinc (pc := 69) (v := nI (h + 1)) (L' := [some (.ref t), some (.int (nI (h + 1))), some (.int (nI p))]) dX8_empty_69 rfl (nI_inc _) (by decide) rfl rfl ?_
              refine r_goto (pc := 72) (tgt := 12) dX8_empty_72 (by decide) ?_
              refine wp_sub [some (.ref t), some (.int (nI (h + 1))), none] ⟨rfl, ⟨rfl, trivial⟩⟩ ?_
              exact ih12 _ (by omega) (h + 1) I3 rfl (by omega) hz3 hv3 hfr3
            · skip
              refine r_aload_n (pc := 54) dX8_empty_54 rfl ?_
              refine r_get1 (pc := 55) 8 6 33 dX8_empty_55 (fl_RX8_33 rfl) (by decide) rfl (c8_o h8) (c8_p6 h8) ?_
              refine r_iload_n (pc := 58) dX8_empty_58 rfl ?_
              refine r_aald1_n (pc := 59) (i := h) 6 dX8_empty_59 (by decide) (c8_a6 h8) (by decide) (by omega) (c8_q6 h8 (by omega)) ?_
              refine r_iload_n (pc := 60) dX8_empty_60 rfl ?_
              refine r_iconst (pc := 61) (v := 0) dX8_empty_61 (by decide) ?_
              refine r_iast_n (pc := 62) (i := p) (v := nI 0) dX8_empty_62 (c8_r6 h8 (by omega)) (by decide) (by omega) ?_
              refine r_iinc (pc := 63) (v := nI (p + 1)) (L' := [some (.ref t), some (.int (nI h)), some (.int (nI (p + 1)))]) dX8_empty_63 rfl (nI_inc _) (by decide) rfl rfl ?_
              refine r_goto (pc := 66) (tgt := 48) dX8_empty_66 (by decide) ?_
              exact ih48 _ (by omega) (p + 1) (up2 I3 (t + 5 + 1 + h) p (nI 0)) rfl (by omega) (by exact fun q hq => (Nat.lt_or_ge q p).elim (fun g => (up2_rd (by omega)).trans (hw q g)) (fun g => by obtain rfl : q = p := (by omega); rw [up2_at, nI_0])) (by exact fun c k z => (up2_rd (by omega)).trans (hf3 c k z))
        exact lp48 _ 0 I2 rfl (by omega) (by exact fun x hx => absurd hx (Nat.not_lt_zero _)) (by exact fun _ _ _ => rfl)
  exact lp12 _ 0 (up2 (up2 I t 0 (nI 0)) t 1 (nI 0)) rfl (by omega) (by exact ⟨(up2_rd (by omega)).trans up2_at, up2_at⟩) (by exact fun x hx => absurd hx (Nat.not_lt_zero _)) (by exact fun c k z => (up2_rd (by omega)).trans (up2_rd (by omega)))

set_option maxRecDepth 100000 in
theorem addLot_ct {d : Nat} {I : Im} {G : Gm} {t x p q l : Nat} (h8 : isC8 G t) (hx : x < 8) (hp : p ≤ 40) (hl : I t 1 = nI l) : Ct (d + 1) 0 0 YX8_addLot [.ref t, .int (nI x), .int (nI p), .int (nI q)] (I, G) (qV G (fun I2 => I2 t 1 = nI (l + 1) ∧ (∀ y, y < 42 → I2 (t + 5 + 1 + x) y = I (t + 5 + 1 + x) y + (if y ≤ p then nI q else 0)) ∧ ∀ c k, c ≠ t + 5 + 1 + x → ¬ (c = t ∧ k = 1) → I2 c k = I c k)) := by
  refine Ct.of (by decide) (by simp [Value.category]) (Nat.le_of_ble_eq_true rfl) ?_
  show wp _ _ _ _ 0 [some (.ref t), some (.int (nI x)), some (.int (nI p)), some (.int (nI q)), none] [] _ _
  refine r_aload_n (pc := 0) dX8_addLot_0 rfl ?_
  refine r_dup (pc := 1) dX8_addLot_1 rfl ?_
  refine r_getIv (pc := 2) 8 1 15 dX8_addLot_2 (fl_RX8_15 rfl) (by decide) rfl (c8_o h8) (v := nI l) (hl) ?_
  refine r_iconst (pc := 5) (v := 1) dX8_addLot_5 (by decide) ?_
  refine r_iadd_n (pc := 6) (a := l) (b := 1) dX8_addLot_6 ?_
  refine r_putI (pc := 7) (v := nI (l + 1)) 8 1 15 dX8_addLot_7 (fl_RX8_15 rfl) (by decide) rfl rfl (c8_o h8) ?_
  refine r_iconst (pc := 10) (v := 0) dX8_addLot_10 (by decide) ?_
  refine r_istore (pc := 11) (L' := [some (.ref t), some (.int (nI x)), some (.int (nI p)), some (.int (nI q)), some (.int (nI 0))]) dX8_addLot_11 (by decide) rfl rfl ?_
  have lp13 : ∀ (n13 : Nat), ∀ (z : Nat) (I1 : Im), 42 - z = n13 → (z ≤ p + 1) → (I1 t 1 = nI (l + 1)) → (∀ y, y < 42 → I1 (t + 5 + 1 + x) y = I (t + 5 + 1 + x) y + (if y < z then nI q else 0)) → (∀ c k, c ≠ t + 5 + 1 + x → ¬ (c = t ∧ k = 1) → I1 c k = I c k) → wp (d + 1) 0 0 YX8_addLot 13 [some (.ref t), some (.int (nI x)), some (.int (nI p)), some (.int (nI q)), some (.int (nI z))] [] (I1, G) (qV G (fun I2 => I2 t 1 = nI (l + 1) ∧ (∀ y, y < 42 → I2 (t + 5 + 1 + x) y = I (t + 5 + 1 + x) y + (if y ≤ p then nI q else 0)) ∧ ∀ c k, c ≠ t + 5 + 1 + x → ¬ (c = t ∧ k = 1) → I2 c k = I c k)) := by
    intro n13
    induction n13 using Nat.strongRecOn with
    | ind n13 ih13 =>
      intro z I1 hmu13 hz hl1 hv hfr
      refine r_iload (pc := 13) dX8_addLot_13 rfl ?_
      refine r_iload_n (pc := 15) dX8_addLot_15 rfl ?_
      refine r_icmp_gt_n (pc := 16) (a := z) (b := p) (tgt := 45) dX8_addLot_16 (by decide) (by omega) (by omega) (fun c16 => ?_) (fun c16 => ?_)
      · skip
        refine r_ret_v (pc := 45) dX8_addLot_45 rfl ?_
        refine ⟨rfl, I1, rfl, hl1, fun y hy => ?_, hfr⟩
        rw [hv y hy]
        by_cases g : y ≤ p
        · rw [if_pos (by omega), if_pos g]
        · rw [if_neg (by omega), if_neg g]
      · skip
        refine r_iload (pc := 19) dX8_addLot_19 rfl ?_
        refine r_bipush (pc := 21) (v := 42) dX8_addLot_21 (by decide) ?_
        refine r_icmp_ge_n (pc := 23) (a := z) (b := 42) (tgt := 45) dX8_addLot_23 (by decide) (by omega) (by omega) (fun c23 => ?_) (fun c23 => ?_)
        · exfalso; omega
        · skip
          refine r_aload_n (pc := 26) dX8_addLot_26 rfl ?_
          refine r_get1 (pc := 27) 8 6 33 dX8_addLot_27 (fl_RX8_33 rfl) (by decide) rfl (c8_o h8) (c8_p6 h8) ?_
          refine r_iload_n (pc := 30) dX8_addLot_30 rfl ?_
          refine r_aald1_n (pc := 31) (i := x) 6 dX8_addLot_31 (by decide) (c8_a6 h8) (by decide) (by omega) (c8_q6 h8 (by omega)) ?_
          refine r_iload (pc := 32) dX8_addLot_32 rfl ?_
          refine r_dup2 (pc := 34) dX8_addLot_34 rfl rfl ?_
          refine r_iald_n (pc := 35) (i := z) dX8_addLot_35 (c8_r6 h8 (by omega)) (by decide) (by omega) rfl ?_
          refine r_iload_n (pc := 36) dX8_addLot_36 rfl ?_
          refine r_iadd (pc := 37) (x := I1 (t + 5 + 1 + x) z) (z := nI q) dX8_addLot_37 ?_
          refine r_iast_n (pc := 38) (i := z) (v := (I1 (t + 5 + 1 + x) z) + (nI q)) dX8_addLot_38 (c8_r6 h8 (by omega)) (by decide) (by omega) ?_
          obtain ⟨I3, hI3⟩ : ∃ zz0 : Im, zz0 = up2 I1 (t + 5 + 1 + x) z ((I1 (t + 5 + 1 + x) z) + (nI q)) := ⟨_, rfl⟩
          refine wp_M (M2 := (I3, G)) (by subst hI3; rfl) ?_
          have hln : I3 t 1 = nI (l + 1) := by rw [hI3, up2_rd (by omega)]; exact hl1
          have hvn : ∀ y, y < 42 → I3 (t + 5 + 1 + x) y = I (t + 5 + 1 + x) y + (if y < z + 1 then nI q else 0) := fun y hy => by
            rw [hI3]
            by_cases e : y = z
            · rw [e, up2_at, hv z (by omega), if_neg (by omega), if_pos (by omega), Int32.add_zero]
            · rw [up2_rd (Or.inr e), hv y hy]
              by_cases g : y < z
              · rw [if_pos g, if_pos (by omega)]
              · rw [if_neg g, if_neg (by omega)]
          have hfn : ∀ c k, c ≠ t + 5 + 1 + x → ¬ (c = t ∧ k = 1) → I3 c k = I c k := fun c k g1 g2 => by rw [hI3, up2_rd (by omega)]; exact hfr c k g1 g2
          refine r_iinc (pc := 39) (v := nI (z + 1)) (L' := [some (.ref t), some (.int (nI x)), some (.int (nI p)), some (.int (nI q)), some (.int (nI (z + 1)))]) dX8_addLot_39 rfl (nI_inc _) (by decide) rfl rfl ?_
          refine r_goto (pc := 42) (tgt := 13) dX8_addLot_42 (by decide) ?_
          exact ih13 _ (by omega) (z + 1) I3 rfl (by omega) hln hvn hfn
  exact lp13 _ 0 (up2 I t 1 (nI (l + 1))) rfl (by omega) (by exact up2_at) (by exact fun y hy => by rw [up2_rd (by omega), if_neg (Nat.not_lt_zero _), Int32.add_zero]) (by exact fun c k g1 g2 => up2_rd (by omega))

set_option maxRecDepth 100000 in
theorem readCost_ct {d : Nat} {I : Im} {G : Gm} {ta t : Nat} {T : Tp} {D : Dr} (h6 : isC6 G ta) (h8 : isC8 G t) (hsep : ta + 2 ≤ t) (hT : TpC I ta T) {a : Nat} (ha : I ta 2 = nI a) (hal : a ≤ T.1) (hw : I ta 3 = sI none) (hD : DrC I t D) (hDk : DrOK D) : Ct (d + 3) 0 0 YX6_readCost [.ref ta, .ref t] (I, G) (qV G (fun I2 => StQ T (bn (cN T 0 (dN D - 1) nob a) (fun h a => bn (cN T 0 30 nob a) (fun v e => .inr (dCost D h v, e)))) I2 ta t ∧ FrS I I2 ta t)) := by
  refine Ct.of (by decide) (by simp [Value.category]) (Nat.le_of_ble_eq_true rfl) ?_
  have hl3 := hT.2.1
  have hn8 := hDk.1
  show wp _ _ _ _ 0 [some (.ref ta), some (.ref t), none, none] [] _ _
  refine r_aload_n (pc := 0) dX6_readCost_0 rfl ?_
  refine r_iconst (pc := 1) (v := 0) dX6_readCost_1 (by decide) ?_
  refine r_aload_n (pc := 2) dX6_readCost_2 rfl ?_
  refine r_getIv (pc := 3) 8 0 41 dX6_readCost_3 (fl_RX6_41 rfl) (by decide) rfl (c8_o h8) (v := nI (dN D)) (hD.1) ?_
  refine r_iconst (pc := 6) (v := 1) dX6_readCost_6 (by decide) ?_
  refine r_isub_n (pc := 7) (a := dN D) (b := 1) dX6_readCost_7 (by omega) ?_
  refine r_callV_M (pc := 8) (b := ta) (As := [.int (nI 0), .int (nI ((dN D) - 1))]) 6 37 dX6_readCost_8 lk_X6_readNumber (ml_RX6_37 rfl) im_X6_readNumber se_X6_readNumber (by decide) (c6_o h6) (Nat.le_of_ble_eq_true rfl) rfl (readNumber_ct h6 hT ha hal hw (fun f z => by cases z) (by omega) (by omega)) (fun v8 I1 hr1 => ?_)
  obtain ⟨x1, a1, wr1, rfl, hx1, hal1, ha1, hw1, hF1, hn1, hm1, hwf1⟩ := hr1
  have hT1 := hT.keep hF1
  have hG1 := hF1
  refine r_istore_n (pc := 11) (L' := [some (.ref ta), some (.ref t), some (.int (nI x1)), none]) dX6_readCost_11 (by decide) rfl rfl ?_
  refine r_aload_n (pc := 12) dX6_readCost_12 rfl ?_
  refine r_iconst (pc := 13) (v := 0) dX6_readCost_13 (by decide) ?_
  refine r_bipush (pc := 14) (v := 30) dX6_readCost_14 (by decide) ?_
  refine r_callV_M (pc := 16) (b := ta) (As := [.int (nI 0), .int (nI 30)]) 6 37 dX6_readCost_16 lk_X6_readNumber (ml_RX6_37 rfl) im_X6_readNumber se_X6_readNumber (by decide) (c6_o h6) (Nat.le_of_ble_eq_true rfl) rfl (readNumber_ct h6 hT1 ha1 hal1 hw1 hwf1 (by omega) (by omega)) (fun v16 I2 hr2 => ?_)
  obtain ⟨x2, a2, wr2, rfl, hx2, hal2, ha2, hw2, hF2, hn2, hm2, hwf2⟩ := hr2
  have hT2 := hT1.keep hF2
  have hG2 := hG1.tr hF2
  refine r_istore_n (pc := 19) (L' := [some (.ref ta), some (.ref t), some (.int (nI x1)), some (.int (nI x2))]) dX6_readCost_19 (by decide) rfl rfl ?_
  refine r_aload_n (pc := 20) dX6_readCost_20 rfl ?_
  refine r_getIv (pc := 21) 6 3 22 dX6_readCost_21 (fl_RX6_22 rfl) (by decide) rfl (c6_o h6) (v := sI wr2) (hw2) ?_
  refine r_iconst (pc := 24) (v := -1) dX6_readCost_24 (by decide) ?_
  refine r_icmp_ne (pc := 25) (x := sI wr2) (z := (-1)) (tgt := 35) dX6_readCost_25 (by decide) (fun c25 => ?_) (fun c25 => ?_)
  · skip
    obtain ⟨f, hf⟩ : ∃ f, wr2 = some f := (by cases hz : wr2 with | none => rw [hz] at c25; exact absurd rfl c25 | some f => exact ⟨f, rfl⟩)
    have hres := st2_f (lo2 := fun _ => 0) (bad := nob) (K := fun h v e => (.inr (dCost D h v, e) : Sr)) (hn1 rfl) hn2 hm2 hf
    refine r_ret_v (pc := 35) dX6_readCost_35 rfl ?_
    exact ⟨rfl, I2, rfl, ⟨a2, wr2, hal2, ha2, hw2, hwf2, Or.inl ⟨f, hf, hres⟩⟩, fun c k g1 g2 => hG2 c k g2⟩
  · skip
    have hf : wr2 = none := (sI_m1 (fun c hc => by have := hwf2 c hc; omega)).mp c25
    have hres := st2_n (lo2 := fun _ => 0) (bad := nob) (K := fun h v e => (.inr (dCost D h v, e) : Sr)) (hn1 rfl) hn2 hm2 hf
    have b1 := (rN_bd hal).2 _ _ hres.1
    refine r_aload_n (pc := 28) dX6_readCost_28 rfl ?_
    refine r_get1 (pc := 29) 8 2 57 dX6_readCost_29 (fl_RX6_57 rfl) (by decide) rfl (c8_o h8) (c8_p2 h8) ?_
    refine r_iload_n (pc := 32) dX6_readCost_32 rfl ?_
    refine r_iload_n (pc := 33) dX6_readCost_33 rfl ?_
    refine r_iast_n (pc := 34) (i := x1) (v := nI x2) dX6_readCost_34 (c8_a2 h8) (by decide) (by omega) ?_
    obtain ⟨I5, hI5⟩ : ∃ zz0 : Im, zz0 = up2 I2 (t + 1) x1 (nI x2) := ⟨_, rfl⟩
    refine wp_M (M2 := (I5, G)) (by subst hI5; rfl) ?_
    have hk5 : DrC I5 t (dCost D x1 x2) := by rw [hI5]; exact (hD.keep (fun c k g1 g2 g3 => hG2 c k (by omega))).cost
    have hfr5 : FrS I I5 ta t := fun c k g1 g2 => by rw [hI5, up2_rd (by omega)]; exact hG2 c k g2
    have ha5 : I5 ta 2 = nI a2 := by rw [hI5, up2_rd (by omega)]; exact ha2
    have hw5 : I5 ta 3 = sI none := by rw [hI5, up2_rd (by omega), hw2, hf]
    refine r_ret_v (pc := 35) dX6_readCost_35 rfl ?_
    refine ⟨rfl, I5, rfl, ⟨a2, none, hal2, ha5, hw5, fun f z => (by cases z), Or.inr ?_⟩, hfr5⟩
    by_cases hd : dgB T a2 = true
    · exact Or.inr ⟨rfl, hres.2.2.2.1 (by simp) hd, hd⟩
    · exact Or.inl ⟨rfl, _, hres.2.2.2.2 (by simp) hd, hk5⟩

set_option maxRecDepth 100000 in
theorem readElse_ct {d : Nat} {I : Im} {G : Gm} {ta t : Nat} {T : Tp} {D : Dr} (h6 : isC6 G ta) (h8 : isC8 G t) (hsep : ta + 2 ≤ t) (hT : TpC I ta T) {a : Nat} (ha : I ta 2 = nI a) (hal : a ≤ T.1) (hw : I ta 3 = sI none) (hD : DrC I t D) (hDk : DrOK D) : Ct (d + 3) 0 0 YX6_readElse [.ref ta, .ref t] (I, G) (qV G (fun I2 => StQ T (bn (cN T 0 (dN D - 1) nob a) (fun h a => bn (cN T 0 99 nob a) (fun v e => .inr (dElse D h v, e)))) I2 ta t ∧ FrS I I2 ta t)) := by
  refine Ct.of (by decide) (by simp [Value.category]) (Nat.le_of_ble_eq_true rfl) ?_
  have hl3 := hT.2.1
  have hn8 := hDk.1
  show wp _ _ _ _ 0 [some (.ref ta), some (.ref t), none, none] [] _ _
  refine r_aload_n (pc := 0) dX6_readElse_0 rfl ?_
  refine r_iconst (pc := 1) (v := 0) dX6_readElse_1 (by decide) ?_
  refine r_aload_n (pc := 2) dX6_readElse_2 rfl ?_
  refine r_getIv (pc := 3) 8 0 41 dX6_readElse_3 (fl_RX6_41 rfl) (by decide) rfl (c8_o h8) (v := nI (dN D)) (hD.1) ?_
  refine r_iconst (pc := 6) (v := 1) dX6_readElse_6 (by decide) ?_
  refine r_isub_n (pc := 7) (a := dN D) (b := 1) dX6_readElse_7 (by omega) ?_
  refine r_callV_M (pc := 8) (b := ta) (As := [.int (nI 0), .int (nI ((dN D) - 1))]) 6 37 dX6_readElse_8 lk_X6_readNumber (ml_RX6_37 rfl) im_X6_readNumber se_X6_readNumber (by decide) (c6_o h6) (Nat.le_of_ble_eq_true rfl) rfl (readNumber_ct h6 hT ha hal hw (fun f z => by cases z) (by omega) (by omega)) (fun v8 I1 hr1 => ?_)
  obtain ⟨x1, a1, wr1, rfl, hx1, hal1, ha1, hw1, hF1, hn1, hm1, hwf1⟩ := hr1
  have hT1 := hT.keep hF1
  have hG1 := hF1
  refine r_istore_n (pc := 11) (L' := [some (.ref ta), some (.ref t), some (.int (nI x1)), none]) dX6_readElse_11 (by decide) rfl rfl ?_
  refine r_aload_n (pc := 12) dX6_readElse_12 rfl ?_
  refine r_iconst (pc := 13) (v := 0) dX6_readElse_13 (by decide) ?_
  refine r_bipush (pc := 14) (v := 99) dX6_readElse_14 (by decide) ?_
  refine r_callV_M (pc := 16) (b := ta) (As := [.int (nI 0), .int (nI 99)]) 6 37 dX6_readElse_16 lk_X6_readNumber (ml_RX6_37 rfl) im_X6_readNumber se_X6_readNumber (by decide) (c6_o h6) (Nat.le_of_ble_eq_true rfl) rfl (readNumber_ct h6 hT1 ha1 hal1 hw1 hwf1 (by omega) (by omega)) (fun v16 I2 hr2 => ?_)
  obtain ⟨x2, a2, wr2, rfl, hx2, hal2, ha2, hw2, hF2, hn2, hm2, hwf2⟩ := hr2
  have hT2 := hT1.keep hF2
  have hG2 := hG1.tr hF2
  refine r_istore_n (pc := 19) (L' := [some (.ref ta), some (.ref t), some (.int (nI x1)), some (.int (nI x2))]) dX6_readElse_19 (by decide) rfl rfl ?_
  refine r_aload_n (pc := 20) dX6_readElse_20 rfl ?_
  refine r_getIv (pc := 21) 6 3 22 dX6_readElse_21 (fl_RX6_22 rfl) (by decide) rfl (c6_o h6) (v := sI wr2) (hw2) ?_
  refine r_iconst (pc := 24) (v := -1) dX6_readElse_24 (by decide) ?_
  refine r_icmp_ne (pc := 25) (x := sI wr2) (z := (-1)) (tgt := 35) dX6_readElse_25 (by decide) (fun c25 => ?_) (fun c25 => ?_)
  · skip
    obtain ⟨f, hf⟩ : ∃ f, wr2 = some f := (by cases hz : wr2 with | none => rw [hz] at c25; exact absurd rfl c25 | some f => exact ⟨f, rfl⟩)
    have hres := st2_f (lo2 := fun _ => 0) (bad := nob) (K := fun h v e => (.inr (dElse D h v, e) : Sr)) (hn1 rfl) hn2 hm2 hf
    refine r_ret_v (pc := 35) dX6_readElse_35 rfl ?_
    exact ⟨rfl, I2, rfl, ⟨a2, wr2, hal2, ha2, hw2, hwf2, Or.inl ⟨f, hf, hres⟩⟩, fun c k g1 g2 => hG2 c k g2⟩
  · skip
    have hf : wr2 = none := (sI_m1 (fun c hc => by have := hwf2 c hc; omega)).mp c25
    have hres := st2_n (lo2 := fun _ => 0) (bad := nob) (K := fun h v e => (.inr (dElse D h v, e) : Sr)) (hn1 rfl) hn2 hm2 hf
    have b1 := (rN_bd hal).2 _ _ hres.1
    refine r_aload_n (pc := 28) dX6_readElse_28 rfl ?_
    refine r_get1 (pc := 29) 8 4 74 dX6_readElse_29 (fl_RX6_74 rfl) (by decide) rfl (c8_o h8) (c8_p4 h8) ?_
    refine r_iload_n (pc := 32) dX6_readElse_32 rfl ?_
    refine r_iload_n (pc := 33) dX6_readElse_33 rfl ?_
    refine r_iast_n (pc := 34) (i := x1) (v := nI x2) dX6_readElse_34 (c8_a4 h8) (by decide) (by omega) ?_
    obtain ⟨I5, hI5⟩ : ∃ zz0 : Im, zz0 = up2 I2 (t + 3) x1 (nI x2) := ⟨_, rfl⟩
    refine wp_M (M2 := (I5, G)) (by subst hI5; rfl) ?_
    have hk5 : DrC I5 t (dElse D x1 x2) := by rw [hI5]; exact (hD.keep (fun c k g1 g2 g3 => hG2 c k (by omega))).els
    have hfr5 : FrS I I5 ta t := fun c k g1 g2 => by rw [hI5, up2_rd (by omega)]; exact hG2 c k g2
    have ha5 : I5 ta 2 = nI a2 := by rw [hI5, up2_rd (by omega)]; exact ha2
    have hw5 : I5 ta 3 = sI none := by rw [hI5, up2_rd (by omega), hw2, hf]
    refine r_ret_v (pc := 35) dX6_readElse_35 rfl ?_
    refine ⟨rfl, I5, rfl, ⟨a2, none, hal2, ha5, hw5, fun f z => (by cases z), Or.inr ?_⟩, hfr5⟩
    by_cases hd : dgB T a2 = true
    · exact Or.inr ⟨rfl, hres.2.2.2.1 (by simp) hd, hd⟩
    · exact Or.inl ⟨rfl, _, hres.2.2.2.2 (by simp) hd, hk5⟩

set_option maxRecDepth 100000 in
theorem readSource_ct {d : Nat} {I : Im} {G : Gm} {ta t : Nat} {T : Tp} {D : Dr} (h6 : isC6 G ta) (h8 : isC8 G t) (hsep : ta + 2 ≤ t) (hT : TpC I ta T) {a : Nat} (ha : I ta 2 = nI a) (hal : a ≤ T.1) (hw : I ta 3 = sI none) (hD : DrC I t D) (hDk : DrOK D) : Ct (d + 3) 0 0 YX6_readSource [.ref ta, .ref t] (I, G) (qV G (fun I2 => StQ T (bn (cN T 0 (dN D - 1) nob a) (fun x a => bn (cN T (x + 1) (dN D - 1) (fun v => (dS D v).isSome) a) (fun y e => .inr (dBuy D x y, e)))) I2 ta t ∧ FrS I I2 ta t)) := by
  refine Ct.of (by decide) (by simp [Value.category]) (Nat.le_of_ble_eq_true rfl) ?_
  have hl3 := hT.2.1
  have hn8 := hDk.1
  show wp _ _ _ _ 0 [some (.ref ta), some (.ref t), none, none] [] _ _
  refine r_aload_n (pc := 0) dX6_readSource_0 rfl ?_
  refine r_iconst (pc := 1) (v := 0) dX6_readSource_1 (by decide) ?_
  refine r_aload_n (pc := 2) dX6_readSource_2 rfl ?_
  refine r_getIv (pc := 3) 8 0 41 dX6_readSource_3 (fl_RX6_41 rfl) (by decide) rfl (c8_o h8) (v := nI (dN D)) (hD.1) ?_
  refine r_iconst (pc := 6) (v := 1) dX6_readSource_6 (by decide) ?_
  refine r_isub_n (pc := 7) (a := dN D) (b := 1) dX6_readSource_7 (by omega) ?_
  refine r_callV_M (pc := 8) (b := ta) (As := [.int (nI 0), .int (nI ((dN D) - 1))]) 6 37 dX6_readSource_8 lk_X6_readNumber (ml_RX6_37 rfl) im_X6_readNumber se_X6_readNumber (by decide) (c6_o h6) (Nat.le_of_ble_eq_true rfl) rfl (readNumber_ct h6 hT ha hal hw (fun f z => by cases z) (by omega) (by omega)) (fun v8 I1 hr1 => ?_)
  obtain ⟨x1, a1, wr1, rfl, hx1, hal1, ha1, hw1, hF1, hn1, hm1, hwf1⟩ := hr1
  have hT1 := hT.keep hF1
  have hG1 := hF1
  refine r_istore_n (pc := 11) (L' := [some (.ref ta), some (.ref t), some (.int (nI x1)), none]) dX6_readSource_11 (by decide) rfl rfl ?_
  refine r_aload_n (pc := 12) dX6_readSource_12 rfl ?_
  refine r_iload_n (pc := 13) dX6_readSource_13 rfl ?_
  refine r_iconst (pc := 14) (v := 1) dX6_readSource_14 (by decide) ?_
  refine r_iadd_n (pc := 15) (a := x1) (b := 1) dX6_readSource_15 ?_
  refine r_aload_n (pc := 16) dX6_readSource_16 rfl ?_
  refine r_getIv (pc := 17) 8 0 41 dX6_readSource_17 (fl_RX6_41 rfl) (by decide) rfl (c8_o h8) (v := nI (dN D)) ((hG1 _ _ (by omega)).trans (hD.1)) ?_
  refine r_iconst (pc := 20) (v := 1) dX6_readSource_20 (by decide) ?_
  refine r_isub_n (pc := 21) (a := dN D) (b := 1) dX6_readSource_21 (by omega) ?_
  refine r_callV_M (pc := 22) (b := ta) (As := [.int (nI (x1 + 1)), .int (nI ((dN D) - 1))]) 6 37 dX6_readSource_22 lk_X6_readNumber (ml_RX6_37 rfl) im_X6_readNumber se_X6_readNumber (by decide) (c6_o h6) (Nat.le_of_ble_eq_true rfl) rfl (readNumber_ct h6 hT1 ha1 hal1 hw1 hwf1 (by omega) (by omega)) (fun v22 I2 hr2 => ?_)
  obtain ⟨x2, a2, wr2, rfl, hx2, hal2, ha2, hw2, hF2, hn2, hm2, hwf2⟩ := hr2
  have hT2 := hT1.keep hF2
  have hG2 := hG1.tr hF2
  refine r_istore_n (pc := 25) (L' := [some (.ref ta), some (.ref t), some (.int (nI x1)), some (.int (nI x2))]) dX6_readSource_25 (by decide) rfl rfl ?_
  refine r_aload_n (pc := 26) dX6_readSource_26 rfl ?_
  refine r_getIv (pc := 27) 6 3 22 dX6_readSource_27 (fl_RX6_22 rfl) (by decide) rfl (c6_o h6) (v := sI wr2) (hw2) ?_
  refine r_iconst (pc := 30) (v := -1) dX6_readSource_30 (by decide) ?_
  refine r_icmp_eq (pc := 31) (x := sI wr2) (z := (-1)) (tgt := 35) dX6_readSource_31 (by decide) (fun c31 => ?_) (fun c31 => ?_)
  · skip
    have hf : wr2 = none := (sI_m1 (fun c hc => by have := hwf2 c hc; omega)).mp c31
    have hres := st2_n (lo2 := fun x => x + 1) (bad := fun v => (dS D v).isSome) (K := fun x y e => (.inr (dBuy D x y, e) : Sr)) (hn1 rfl) hn2 hm2 hf
    have b1 := (rN_bd hal).2 _ _ hres.1
    have b2 := (rN_bd hal1).2 _ _ hres.2.1
    refine r_aload_n (pc := 35) dX6_readSource_35 rfl ?_
    refine r_get1 (pc := 36) 8 3 60 dX6_readSource_36 (fl_RX6_60 rfl) (by decide) rfl (c8_o h8) (c8_p3 h8) ?_
    refine r_iload_n (pc := 39) dX6_readSource_39 rfl ?_
    refine r_iald_n (pc := 40) (i := x2) dX6_readSource_40 (c8_a3 h8) (by decide) (by omega) (v := sI (dS D x2)) ((hG2 _ _ (by omega)).trans ((hD.2.2.1 _ (by omega)).2.1)) ?_
    refine r_iconst (pc := 41) (v := -1) dX6_readSource_41 (by decide) ?_
    refine r_icmp_eq (pc := 42) (x := sI (dS D x2)) (z := (-1)) (tgt := 56) dX6_readSource_42 (by decide) (fun c42 => ?_) (fun c42 => ?_)
    · skip
      have hsn : dS D x2 = none := (sI_m1 (fun c hc => by have := hDk.2.2.1 _ c hc; omega)).mp c42
      have hnb : ¬ (dS D x2).isSome = true := by rw [hsn]; simp
      refine r_aload_n (pc := 56) dX6_readSource_56 rfl ?_
      refine r_iload_n (pc := 57) dX6_readSource_57 rfl ?_
      refine r_iload_n (pc := 58) dX6_readSource_58 rfl ?_
      refine r_callV_V (pc := 59) (b := t) (As := [.int (nI x1), .int (nI x2)]) 8 63 dX6_readSource_59 lk_X8_addSource (ml_RX6_63 rfl) im_X8_addSource se_X8_addSource (by decide) (c8_o h8) (Nat.le_of_ble_eq_true rfl) rfl (addSource_ct h8 (by omega) (by omega)) (fun I5 hI5 => ?_)
      have hk5 : DrC I5 t (dBuy D x1 x2) := by rw [hI5]; exact (hD.keep (fun c k g1 g2 g3 => hG2 c k (by omega))).buy (by omega) (by omega) hsn
      have hfr5 : FrS I I5 ta t := fun c k g1 g2 => by rw [hI5, up2_rd (by omega), up2_rd (by omega)]; exact hG2 c k g2
      have ha5 : I5 ta 2 = nI a2 := by rw [hI5, up2_rd (by omega), up2_rd (by omega)]; exact ha2
      have hw5 : I5 ta 3 = sI none := by rw [hI5, up2_rd (by omega), up2_rd (by omega), hw2, hf]
      refine r_ret_v (pc := 62) dX6_readSource_62 rfl ?_
      refine ⟨rfl, I5, rfl, ⟨a2, none, hal2, ha5, hw5, fun f z => (by cases z), Or.inr ?_⟩, hfr5⟩
      by_cases hd : dgB T a2 = true
      · exact Or.inr ⟨rfl, hres.2.2.2.1 hnb hd, hd⟩
      · exact Or.inl ⟨rfl, _, hres.2.2.2.2 hnb hd, hk5⟩
    · skip
      have hbs : (dS D x2).isSome = true := by cases hz : dS D x2 with | none => rw [hz] at c42; exact absurd rfl c42 | some f => rfl
      refine r_aload_n (pc := 45) dX6_readSource_45 rfl ?_
      refine r_aload_n (pc := 46) dX6_readSource_46 rfl ?_
      refine r_getIv (pc := 47) 6 2 19 dX6_readSource_47 (fl_RX6_19 rfl) (by decide) rfl (c6_o h6) (v := nI a2) (ha2) ?_
      refine r_iconst (pc := 50) (v := 1) dX6_readSource_50 (by decide) ?_
      refine r_isub_n (pc := 51) (a := a2) (b := 1) dX6_readSource_51 (by omega) ?_
      refine r_putI (pc := 52) (v := nI (a2 - 1)) 6 3 22 dX6_readSource_52 (fl_RX6_22 rfl) (by decide) rfl rfl (c6_o h6) ?_
      refine r_ret_v (pc := 55) dX6_readSource_55 rfl ?_
      exact ⟨rfl, _, rfl, ⟨a2, some (a2 - 1), hal2, (up2_rd (by omega)).trans ha2, up2_at, fun f z => (by cases z; omega), Or.inl ⟨a2 - 1, rfl, hres.2.2.1 hbs⟩⟩, fun c k g1 g2 => (up2_rd (by omega)).trans (hG2 c k g2)⟩
  · skip
    obtain ⟨f, hf⟩ : ∃ f, wr2 = some f := (by cases hz : wr2 with | none => rw [hz] at c31; exact absurd rfl c31 | some f => exact ⟨f, rfl⟩)
    have hres := st2_f (lo2 := fun x => x + 1) (bad := fun v => (dS D v).isSome) (K := fun x y e => (.inr (dBuy D x y, e) : Sr)) (hn1 rfl) hn2 hm2 hf
    refine r_ret_v (pc := 34) dX6_readSource_34 rfl ?_
    exact ⟨rfl, I2, rfl, ⟨a2, wr2, hal2, ha2, hw2, hwf2, Or.inl ⟨f, hf, hres⟩⟩, fun c k g1 g2 => hG2 c k g2⟩

theorem st3_f {γ : Type} {T : Tp} {lo hi lo2 hi2 lo3 hi3 a x a1 y a2 z a3 f : Nat} {wr1 wr2 wr3 : Option Nat} {K : Nat → Nat → Nat → Nat → Nat ⊕ γ} (h1 : rN T lo hi a = rw0 wr1 x a1) (h2 : wr1 = none → rN T lo2 hi2 a1 = rw0 wr2 y a2) (h3 : ∀ f, wr1 = some f → wr2 = some f) (h4 : wr2 = none → rN T lo3 hi3 a2 = rw0 wr3 z a3) (h5 : ∀ f, wr2 = some f → wr3 = some f) (hf : wr3 = some f) : bn (cN T lo hi nob a) (fun x a1 => bn (cN T lo2 hi2 nob a1) (fun y a2 => bn (cN T lo3 hi3 nob a2) (K x y))) = .inl f := by
  rcases n_step (K := fun x a1 => bn (cN T lo2 hi2 nob a1) (fun y a2 => bn (cN T lo3 hi3 nob a2) (K x y))) h1 h2 h3 with ⟨g, e, h⟩ | ⟨e, h, h6⟩
  · have := h5 g e
    rw [hf] at this
    cases this
    exact h
  · rw [h]
    exact st2_f (lo2 := fun _ => lo3) (bad := nob) (K := K x) h6 h4 h5 hf
theorem st3_n {γ : Type} {T : Tp} {lo hi lo2 hi2 lo3 hi3 a x a1 y a2 z a3 : Nat} {wr1 wr2 wr3 : Option Nat} {K : Nat → Nat → Nat → Nat → Nat ⊕ γ} (h1 : rN T lo hi a = rw0 wr1 x a1) (h2 : wr1 = none → rN T lo2 hi2 a1 = rw0 wr2 y a2) (h3 : ∀ f, wr1 = some f → wr2 = some f) (h4 : wr2 = none → rN T lo3 hi3 a2 = rw0 wr3 z a3) (h5 : ∀ f, wr2 = some f → wr3 = some f) (hf : wr3 = none) :
    rN T lo hi a = .inr (x, a1) ∧ rN T lo2 hi2 a1 = .inr (y, a2) ∧ rN T lo3 hi3 a2 = .inr (z, a3) ∧ (dgB T a3 = true → bn (cN T lo hi nob a) (fun x a1 => bn (cN T lo2 hi2 nob a1) (fun y a2 => bn (cN T lo3 hi3 nob a2) (K x y))) = .inl a3) ∧ (¬ dgB T a3 = true → bn (cN T lo hi nob a) (fun x a1 => bn (cN T lo2 hi2 nob a1) (fun y a2 => bn (cN T lo3 hi3 nob a2) (K x y))) = K x y z a3) := by
  rcases n_step (K := fun x a1 => bn (cN T lo2 hi2 nob a1) (fun y a2 => bn (cN T lo3 hi3 nob a2) (K x y))) h1 h2 h3 with ⟨g, e, h⟩ | ⟨e, h, h6⟩
  · have := h5 g e
    rw [hf] at this
    cases this
  · have k := st2_n (lo2 := fun _ => lo3) (bad := nob) (K := K x) h6 h4 h5 hf
    rw [e] at h1
    rw [h]
    exact ⟨h1, k.1, k.2.1, k.2.2.2.1 (by simp), k.2.2.2.2 (by simp)⟩

set_option maxRecDepth 100000 in
theorem readLot_ct {d : Nat} {I : Im} {G : Gm} {ta t : Nat} {T : Tp} {D : Dr} (h6 : isC6 G ta) (h8 : isC8 G t) (hsep : ta + 2 ≤ t) (hT : TpC I ta T) {a : Nat} (ha : I ta 2 = nI a) (hal : a < T.1) (hw : I ta 3 = sI none) (hD : DrC I t D) (hDk : DrOK D) : Ct (d + 3) 0 0 YX6_readLot [.ref ta, .ref t] (I, G) (qV G (fun I2 => StQ T (if (dT D).1 < 20 then bn (cN T 0 (dN D - 1) nob (a + 1)) (fun h a => bn (cN T 1 40 nob a) (fun q e => bn (cN T 1 30 nob e) (fun r g => .inr (dLot D h q r, g)))) else .inl a) I2 ta t ∧ FrS I I2 ta t)) := by
  refine Ct.of (by decide) (by simp [Value.category]) (Nat.le_of_ble_eq_true rfl) ?_
  have hl3 := hT.2.1
  have hn8 := hDk.1
  show wp _ _ _ _ 0 [some (.ref ta), some (.ref t), none, none, none] [] _ _
  refine r_aload_n (pc := 0) dX6_readLot_0 rfl ?_
  refine r_getIv (pc := 1) 8 1 67 dX6_readLot_1 (fl_RX6_67 rfl) (by decide) rfl (c8_o h8) (v := nI ((dT D).1)) (hD.2.1) ?_
  refine r_bipush (pc := 4) (v := 20) dX6_readLot_4 (by decide) ?_
  refine r_icmp_lt_n (pc := 6) (a := (dT D).1) (b := 20) (tgt := 18) dX6_readLot_6 (by decide) (by have := hDk.2.2.2.2.1; omega) (by have := hDk.2.2.2.2.1; omega) (fun c6 => ?_) (fun c6 => ?_)
  · skip
    refine r_aload_n (pc := 18) dX6_readLot_18 rfl ?_
    refine r_dup (pc := 19) dX6_readLot_19 rfl ?_
    refine r_getIv (pc := 20) 6 2 19 dX6_readLot_20 (fl_RX6_19 rfl) (by decide) rfl (c6_o h6) (v := nI a) (ha) ?_
    refine r_iconst (pc := 23) (v := 1) dX6_readLot_23 (by decide) ?_
    refine r_iadd_n (pc := 24) (a := a) (b := 1) dX6_readLot_24 ?_
    refine r_putI (pc := 25) (v := nI (a + 1)) 6 2 19 dX6_readLot_25 (fl_RX6_19 rfl) (by decide) rfl rfl (c6_o h6) ?_
    obtain ⟨I0, hI0⟩ : ∃ zz0 : Im, zz0 = up2 I ta 2 (nI (a + 1)) := ⟨_, rfl⟩
    refine wp_M (M2 := (I0, G)) (by subst hI0; rfl) ?_
    have hG0 : FrT I I0 ta := by rw [hI0]; exact FrT.rf.u2
    have hT0 := hT.keep hG0
    have ha0 : I0 ta 2 = nI (a + 1) := by rw [hI0]; exact up2_at
    have hal0 : a + 1 ≤ T.1 := by omega
    have hw0 : I0 ta 3 = sI none := by rw [hI0, up2_rd (by omega)]; exact hw
    refine r_aload_n (pc := 28) dX6_readLot_28 rfl ?_
    refine r_iconst (pc := 29) (v := 0) dX6_readLot_29 (by decide) ?_
    refine r_aload_n (pc := 30) dX6_readLot_30 rfl ?_
    refine r_getIv (pc := 31) 8 0 41 dX6_readLot_31 (fl_RX6_41 rfl) (by decide) rfl (c8_o h8) (v := nI (dN D)) ((hG0 _ _ (by omega)).trans (hD.1)) ?_
    refine r_iconst (pc := 34) (v := 1) dX6_readLot_34 (by decide) ?_
    refine r_isub_n (pc := 35) (a := dN D) (b := 1) dX6_readLot_35 (by omega) ?_
    refine r_callV_M (pc := 36) (b := ta) (As := [.int (nI 0), .int (nI ((dN D) - 1))]) 6 37 dX6_readLot_36 lk_X6_readNumber (ml_RX6_37 rfl) im_X6_readNumber se_X6_readNumber (by decide) (c6_o h6) (Nat.le_of_ble_eq_true rfl) rfl (readNumber_ct h6 hT0 ha0 hal0 hw0 (fun f z => by cases z) (by omega) (by omega)) (fun v36 I1 hr1 => ?_)
    obtain ⟨x1, a1, wr1, rfl, hx1, hal1, ha1, hw1, hF1, hn1, hm1, hwf1⟩ := hr1
    have hT1 := hT0.keep hF1
    have hG1 := hG0.tr hF1
    refine r_istore_n (pc := 39) (L' := [some (.ref ta), some (.ref t), some (.int (nI x1)), none, none]) dX6_readLot_39 (by decide) rfl rfl ?_
    refine r_aload_n (pc := 40) dX6_readLot_40 rfl ?_
    refine r_iconst (pc := 41) (v := 1) dX6_readLot_41 (by decide) ?_
    refine r_bipush (pc := 42) (v := 40) dX6_readLot_42 (by decide) ?_
    refine r_callV_M (pc := 44) (b := ta) (As := [.int (nI 1), .int (nI 40)]) 6 37 dX6_readLot_44 lk_X6_readNumber (ml_RX6_37 rfl) im_X6_readNumber se_X6_readNumber (by decide) (c6_o h6) (Nat.le_of_ble_eq_true rfl) rfl (readNumber_ct h6 hT1 ha1 hal1 hw1 hwf1 (by omega) (by omega)) (fun v44 I2 hr2 => ?_)
    obtain ⟨x2, a2, wr2, rfl, hx2, hal2, ha2, hw2, hF2, hn2, hm2, hwf2⟩ := hr2
    have hT2 := hT1.keep hF2
    have hG2 := hG1.tr hF2
    refine r_istore_n (pc := 47) (L' := [some (.ref ta), some (.ref t), some (.int (nI x1)), some (.int (nI x2)), none]) dX6_readLot_47 (by decide) rfl rfl ?_
    refine r_aload_n (pc := 48) dX6_readLot_48 rfl ?_
    refine r_iconst (pc := 49) (v := 1) dX6_readLot_49 (by decide) ?_
    refine r_bipush (pc := 50) (v := 30) dX6_readLot_50 (by decide) ?_
    refine r_callV_M (pc := 52) (b := ta) (As := [.int (nI 1), .int (nI 30)]) 6 37 dX6_readLot_52 lk_X6_readNumber (ml_RX6_37 rfl) im_X6_readNumber se_X6_readNumber (by decide) (c6_o h6) (Nat.le_of_ble_eq_true rfl) rfl (readNumber_ct h6 hT2 ha2 hal2 hw2 hwf2 (by omega) (by omega)) (fun v52 I3 hr3 => ?_)
    obtain ⟨x3, a3, wr3, rfl, hx3, hal3, ha3, hw3, hF3, hn3, hm3, hwf3⟩ := hr3
    have hT3 := hT2.keep hF3
    have hG3 := hG2.tr hF3
    refine r_istore (pc := 55) (L' := [some (.ref ta), some (.ref t), some (.int (nI x1)), some (.int (nI x2)), some (.int (nI x3))]) dX6_readLot_55 (by decide) rfl rfl ?_
    refine r_aload_n (pc := 57) dX6_readLot_57 rfl ?_
    refine r_getIv (pc := 58) 6 3 22 dX6_readLot_58 (fl_RX6_22 rfl) (by decide) rfl (c6_o h6) (v := sI wr3) (hw3) ?_
    refine r_iconst (pc := 61) (v := -1) dX6_readLot_61 (by decide) ?_
    refine r_icmp_ne (pc := 62) (x := sI wr3) (z := (-1)) (tgt := 73) dX6_readLot_62 (by decide) (fun c62 => ?_) (fun c62 => ?_)
    · skip
      obtain ⟨f, hf⟩ : ∃ f, wr3 = some f := (by cases hz : wr3 with | none => rw [hz] at c62; exact absurd rfl c62 | some f => exact ⟨f, rfl⟩)
      have hres := st3_f (K := fun h q r g => (.inr (dLot D h q r, g) : Sr)) (hn1 rfl) hn2 hm2 hn3 hm3 hf
      refine r_ret_v (pc := 73) dX6_readLot_73 rfl ?_
      rw [if_pos (by omega)]
      exact ⟨rfl, I3, rfl, ⟨a3, wr3, hal3, ha3, hw3, hwf3, Or.inl ⟨f, hf, hres⟩⟩, fun c k g1 g2 => hG3 c k g2⟩
    · skip
      have hf : wr3 = none := (sI_m1 (fun c hc => by have := hwf3 c hc; omega)).mp c62
      have hres := st3_n (K := fun h q r g => (.inr (dLot D h q r, g) : Sr)) (hn1 rfl) hn2 hm2 hn3 hm3 hf
      have b1 := (rN_bd hal0).2 _ _ hres.1
      have b2 := (rN_bd hal1).2 _ _ hres.2.1
      have b3 := (rN_bd hal2).2 _ _ hres.2.2.1
      refine r_aload_n (pc := 65) dX6_readLot_65 rfl ?_
      refine r_iload_n (pc := 66) dX6_readLot_66 rfl ?_
      refine r_iload_n (pc := 67) dX6_readLot_67 rfl ?_
      refine r_iload (pc := 68) dX6_readLot_68 rfl ?_
      refine r_callV_V (pc := 70) (b := t) (As := [.int (nI x1), .int (nI x2), .int (nI x3)]) 8 70 dX6_readLot_70 lk_X8_addLot (ml_RX6_70 rfl) im_X8_addLot se_X8_addLot (by decide) (c8_o h8) (Nat.le_of_ble_eq_true rfl) rfl (addLot_ct h8 (by omega) (by omega) ((hG3 _ _ (by omega)).trans hD.2.1)) (fun I5 hI5 => ?_)
      have hk5 : DrC I5 t (dLot D x1 x2 x3) := (hD.keep (fun c k g1 g2 g3 => hG3 c k (by omega))).lot hI5.1 hI5.2.1 hI5.2.2
      have hfr5 : FrS I I5 ta t := fun c k g1 g2 => (hI5.2.2 c k (by omega) (by omega)).trans (hG3 c k g2)
      have ha5 : I5 ta 2 = nI a3 := (hI5.2.2 _ _ (by omega) (by omega)).trans ha3
      have hw5 : I5 ta 3 = sI none := (hI5.2.2 _ _ (by omega) (by omega)).trans (by rw [hw3, hf])
      refine r_ret_v (pc := 73) dX6_readLot_73 rfl ?_
      rw [if_pos (by omega)]
      refine ⟨rfl, I5, rfl, ⟨a3, none, hal3, ha5, hw5, fun f z => (by cases z), Or.inr ?_⟩, hfr5⟩
      by_cases hd : dgB T a3 = true
      · exact Or.inr ⟨rfl, hres.2.2.2.1 hd, hd⟩
      · exact Or.inl ⟨rfl, _, hres.2.2.2.2 hd, hk5⟩
  · skip
    refine r_aload_n (pc := 9) dX6_readLot_9 rfl ?_
    refine r_aload_n (pc := 10) dX6_readLot_10 rfl ?_
    refine r_getIv (pc := 11) 6 2 19 dX6_readLot_11 (fl_RX6_19 rfl) (by decide) rfl (c6_o h6) (v := nI a) (ha) ?_
    refine r_putI (pc := 14) (v := nI a) 6 3 22 dX6_readLot_14 (fl_RX6_22 rfl) (by decide) rfl rfl (c6_o h6) ?_
    refine r_ret_v (pc := 17) dX6_readLot_17 rfl ?_
    exact ⟨rfl, _, rfl, ⟨a, some a, by omega, (up2_rd (by omega)).trans ha, up2_at, fun f z => (by cases z; omega), Or.inl ⟨a, rfl, if_neg (by omega)⟩⟩, fun c k g1 g2 => up2_rd (by omega)⟩
