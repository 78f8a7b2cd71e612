/-! ===== what is changed ===== -/
def sUp (s : Sta) (k : Nat) (x : Td) : Sta := (sT s, sN s, fu (sD s) k x, sZ s, sW s, sV s)
theorem sUp_self (s : Sta) (k : Nat) : sUp s k (sD s k) = s := by
  have : fu (sD s) k (sD s k) = sD s := funext fun j => by
    unfold fu
    split
    · next e => rw [e]
    · rfl
  unfold sUp
  rw [this]
theorem sUp_D {s : Sta} {k : Nat} {x : Td} (hD : tdD x = tdD (sD s k)) (j : Nat) : tdD (sD (sUp s k x) j) = tdD (sD s j) := by
  show tdD (fu (sD s) k x j) = _
  unfold fu
  split
  · next e => rw [e, hD]
  · rfl
theorem MkI.up {s : Sta} {I : Im} {G : Gm} {mb k : Nat} {x : Td} (h : MkI s I G mb) (hD : tdD x = tdD (sD s k)) : MkI (sUp s k x) I G mb := ⟨h.1, fun j hj hg => by
  rw [sUp_D hD]
  exact h.2 j hj hg⟩
theorem HlI.up {s : Sta} {I : Im} {G : Gm} {k : Nat} {x : Td} (h : HlI s I G) (hD : tdD x = tdD (sD s k)) : HlI (sUp s k x) I G := ⟨h.1, fun j y hj hy h1 h2 => by
  rw [sUp_D hD]
  exact h.2 j y hj hy h1 h2⟩
theorem Ci.gen {s : Sta} {I I2 : Im} {G G2 : Gm} {k : Nat} {x : Td} (h : Ci s I G) (hk : k < sN s) (hD : tdD x = tdD (sD s k)) (hok : TdOK x) (hx : TrI I2 (tA k) x) (hf : ∀ a j, a < 22 ∨ 253 ≤ a → ¬ (tA k ≤ a ∧ a < tA k + 18) → I2 a j = I a j) (hg : Geq G G2) (hg3 : ∀ j, G2.1 3 j = G.1 3 j) (hgd : G2.1 0 3 = G.1 0 3) (h23 : MkI s I2 G2 23) (h67 : MkI s I2 G2 67) (hh : HlI s I2 G2) : Ci (sUp s k x) I2 G2 := by
  have hoff := tA_off k
  obtain ⟨⟨g1, g2, g3, g4⟩, ⟨i1, i2, i3, i4, i5, i6⟩, _⟩ := h
  refine ⟨⟨isC9_geq hg g1, fun k hk => isC8_geq hg (g2 k hk), fun k hk => (hg3 k).trans (g3 k hk), hgd.trans g4⟩, ⟨(hf _ _ (by omega) (by omega)).trans i1, i2, ⟨(hf _ _ (by omega) (by omega)).trans i3.1, i3.2.1, fun i hi => (hf _ _ (by omega) (by omega)).trans (i3.2.2.1 i hi), i3.2.2.2⟩, fun j hj => ?_, i5.keep (fun a j z => ?_), ⟨(hf _ _ (by omega) (by omega)).trans i6.1, i6.2.1, fun k hk => ⟨(hf _ _ (by omega) (by omega)).trans (i6.2.2.1 k hk).1, (hf _ _ (by omega) (by omega)).trans (i6.2.2.1 k hk).2⟩, i6.2.2.2.1, (hf _ _ (by omega) (by omega)).trans i6.2.2.2.2⟩⟩, h23.up hD, h67.up hD, hh.up hD⟩
  · by_cases e : j = k
    · subst e
      rw [show sD (sUp s j x) j = x from fu_at]
      exact ⟨hok, hx⟩
    · rw [show sD (sUp s k x) j = sD s j from fu_ne e]
      have hfar := tA_far e
      have hoj := tA_off j
      exact ⟨(i4 j hj).1, (i4 j hj).2.keep (fun a y g1 g2 => hf a y (by omega) (by omega))⟩
  · have hfar := tA_far (show sN s ≠ k by omega)
    have hoj := tA_off (sN s)
    have z2 : (tA (sN s) + 14 ≤ a ∧ a ≤ tA (sN s) + 16) ∨ (a = tA (sN s) ∧ j = 12) := z
    exact hf a j (by omega) (by omega)
/-- only the trade k is changed -/
theorem Ci.td {s : Sta} {I I2 : Im} {G : Gm} {k : Nat} {x : Td} (h : Ci s I G) (hk : k < sN s) (hD : tdD x = tdD (sD s k)) (hok : TdOK x) (hx : TrI I2 (tA k) x) (hf : ∀ a j, ¬ (tA k ≤ a ∧ a < tA k + 18) → I2 a j = I a j) : Ci (sUp s k x) I2 G := by
  have hoff := tA_off k
  exact h.gen hk hD hok hx (fun a j _ z => hf a j z) Geq.rf (fun _ => rfl) rfl (h.2.2.1.keep (fun k hk => (h.ok hk).1) rfl (fun a j g1 g2 => hf a j (by omega))) (h.2.2.2.1.keep (fun k hk => (h.ok hk).1) rfl (fun a j g1 g2 => hf a j (by omega))) (h.2.2.2.2.keep rfl (fun a j z => hf a j (by omega)))
def atQ (n : Nat) (u : Int32) (no : Int32 × Sta) (f : Nat → Int32 × Sta) : Int32 × Sta := match inF n u with
  | none => no
  | some k => f k
theorem atQ_s {n : Nat} {u : Int32} {no : Int32 × Sta} {f : Nat → Int32 × Sta} {k : Nat} (h : inF n u = some k) : atQ n u no f = f k := by
  unfold atQ
  rw [h]
theorem atQ_n {n : Nat} {u : Int32} {no : Int32 × Sta} {f : Nat → Int32 × Sta} (h : inF n u = none) : atQ n u no f = no := by
  unfold atQ
  rw [h]
abbrev xJoin (x : Td) (j : Int32) : Td := (x.1, (j, x.2.1.2), x.2.2)
abbrev xLaw (x : Td) (c : Nat) (a : Bool) : Td := (x.1, (x.2.1.1, c, a, x.2.1.2.2.2), x.2.2)
abbrev xHalve (x : Td) (b : Bool) : Td := (x.1, (x.2.1.1, x.2.1.2.1, x.2.1.2.2.1, b), x.2.2)
abbrev xPay (x : Td) (h p : Nat) : Td := (x.1, x.2.1, fu x.2.2.1 h p, x.2.2.2)
abbrev xAsk (x : Td) (h p : Nat) : Td := (x.1, x.2.1, x.2.2.1, fu x.2.2.2 h p)
def fJoin (s : Sta) (t b : Int32) : Int32 × Sta := atQ (sN s) t (0, s) fun k => atQ (2 ^ dN (dK s k)) b (0, s) fun _ => (1, sUp s k (xJoin (sD s k) b))
def fLaw (s : Sta) (t c : Int32) (a : Bool) : Int32 × Sta := atQ (sN s) t (0, s) fun k => atQ 42 c (0, s) fun c => (1, sUp s k (xLaw (sD s k) c a))
def fHalve (s : Sta) (t : Int32) (b : Bool) : Int32 × Sta := atQ (sN s) t (0, s) fun k => (1, sUp s k (xHalve (sD s k) b))
def fTell (s : Sta) (t h : Int32) (c : Bool) (p : Int32) : Int32 × Sta := atQ (sN s) t (0, s) fun k => atQ (dN (dK s k)) h (0, s) fun h => atQ 42 p (0, s) fun p => (1, sUp s k (if c = true then xAsk (sD s k) h p else xPay (sD s k) h p))
theorem shl_all {n : Nat} (hn : n ≤ 8) : (1 : Int32) <<< (nI n &&& 31) = nI (2 ^ n) := by
  match n, hn with
  | 0, _ => rfl
  | 1, _ => rfl
  | 2, _ => rfl
  | 3, _ => rfl
  | 4, _ => rfl
  | 5, _ => rfl
  | 6, _ => rfl
  | 7, _ => rfl
  | 8, _ => rfl
theorem pow_le {n : Nat} (hn : n ≤ 8) : 1 ≤ 2 ^ n ∧ 2 ^ n ≤ 256 := ⟨Nat.one_le_two_pow, Nat.pow_le_pow_right (by omega) hn⟩
theorem allJ_n {D : Dr} (hn : dN D ≤ 8) : allJ D = nI (2 ^ dN D - 1) := by
  have := pow_le hn
  unfold allJ
  rw [shl_all hn, show (1 : Int32) = nI 1 from rfl, pk_sub this.1]
theorem allHouses_n {d : Nat} {I : Im} {G : Gm} {t : Nat} {D : Dr} (ht : isC8 G t) (hn : I t 0 = nI (dN D)) (h8 : dN D ≤ 8) : Ct (d + 1) 0 0 YX8_allHouses [.ref t] (I, G) (qP (nI (2 ^ dN D - 1)) (I, G)) := by
  have g := allHouses_y (d := d) ht hn
  rw [allJ_n h8] at g
  exact g
noncomputable def rsR (E : Ec) (y : Nat) : Bool := @decide (rsP E y) (Classical.propDecidable _)
theorem rsR_iff (E : Ec) (y : Nat) : rsR E y = true ↔ rsP E y := by
  unfold rsR
  exact @decide_eq_true_iff _ (Classical.propDecidable _)
noncomputable def aRst (s : Sta) (t i : Int32) : Int32 := atN (sN s) t (-1) fun k => scA (rsR (eK' s k)) i 128 (fun x => 2 * x)
theorem RsV.congr {I : Im} {t : Nat} {R S : Nat → Bool} (h : RsV I t R) (e : ∀ y, y < 128 → R y = S y) : RsV I t S := by
  refine ⟨h.1.trans (by rw [ctB_congr 128 e]), fun y hy hs => ?_⟩
  rw [← ctB_congr y (fun z hz => e z (by omega))]
  exact h.2 y hy ((e y hy).trans hs)
/-- the rest that a trade keeps, in one form -/
theorem TrI.rest {I : Im} {t : Nat} {x : Td} (h : TrI I t x) : I t 12 = 0 ∨ (I t 12 = 1 ∧ RsV I t (rsR (eT (tdD x) (tdT x)))) := h.2.2.2.2.imp id (fun ⟨h1, R, hR, hv⟩ => ⟨h1, hv.congr (fun y hy => by rw [Bool.eq_iff_iff, hR y hy, rsR_iff])⟩)
def sTp (s : Sta) (T : Tp) : Sta := (T, sN s, sD s, sZ s, sW s, sV s)
def sCh (s : Sta) (z : Nat) (w g : Nat → Nat) : Sta := (sT s, sN s, sD s, z, w, g)
theorem rs_j {D : Dr} {j j' : Int32} {r : Nat × Bool × Bool} (y : Nat) : rsP (eT D (j, r)) y ↔ rsP (eT D (j', r)) y := Iff.rfl
theorem TdOK.j {x : Td} (h : TdOK x) (j : Int32) : TdOK (xJoin x j) := h
theorem TdOK.l {x : Td} (h : TdOK x) {c : Nat} (hc : c ≤ 41) (a : Bool) : TdOK (xLaw x c a) := ⟨h.1, hc, h.2.2⟩
theorem TdOK.p {x : Td} (h : TdOK x) {y p : Nat} (hp : p ≤ 41) : TdOK (xPay x y p) := ⟨h.1, h.2.1, fun z => by
    show fu (tdP x) y p z ≤ 41
    unfold fu
    split
    · exact hp
    · exact h.2.2.1 z, h.2.2.2⟩
theorem TdOK.a {x : Td} (h : TdOK x) {y p : Nat} (hp : p ≤ 41) : TdOK (xAsk x y p) := ⟨h.1, h.2.1, h.2.2.1, fun z => by
    show fu (tdA x) y p z ≤ 41
    unfold fu
    split
    · exact hp
    · exact h.2.2.2 z⟩
theorem TrI.join {I I2 : Im} {t : Nat} {x : Td} (h : TrI I t x) {j : Int32} (h0 : I2 (t + 14) 0 = j) (hf : ∀ a k, ¬ (a = t + 14 ∧ k = 0) → I2 a k = I a k) : TrI I2 t (xJoin x j) := by
  obtain ⟨h1, h2, h3, h4, h5⟩ := h
  refine ⟨h1.keep (fun c k g1 g2 _ => hf c k (by omega)), six h0 ((hf _ _ (by omega)).trans (h2 1 (by omega))) ((hf _ _ (by omega)).trans (h2 2 (by omega))) ((hf _ _ (by omega)).trans (h2 3 (by omega))) ((hf _ _ (by omega)).trans (h2 4 (by omega))) ((hf _ _ (by omega)).trans (h2 5 (by omega))), fun y hy => (hf _ _ (by omega)).trans (h3 y hy), fun y hy => (hf _ _ (by omega)).trans (h4 y hy), ?_⟩
  rw [hf t 12 (by omega)]
  exact h5.imp id (fun ⟨z, R, hR, hv⟩ => ⟨z, R, hR, (hf _ _ (by omega)).trans hv.1, fun y hy hr => (hf _ _ (by omega)).trans (hv.2 y hy hr)⟩)
theorem TrI.law {I I2 : Im} {t : Nat} {x : Td} (h : TrI I t x) {c : Nat} {a : Bool} (h1 : I2 (t + 14) 1 = nI c) (h2 : I2 (t + 14) 2 = bz (a = true)) (h12 : I2 t 12 = 0) (hf : ∀ b k, ¬ (b = t + 14 ∧ (k = 1 ∨ k = 2)) → ¬ (b = t ∧ k = 12) → I2 b k = I b k) : TrI I2 t (xLaw x c a) :=
  ⟨h.1.keep (fun c k g1 g2 g3 => hf c k (by omega) (by omega)), six ((hf _ _ (by omega) (by omega)).trans (h.2.1 0 (by omega))) h1 h2 ((hf _ _ (by omega) (by omega)).trans (h.2.1 3 (by omega))) ((hf _ _ (by omega) (by omega)).trans (h.2.1 4 (by omega))) ((hf _ _ (by omega) (by omega)).trans (h.2.1 5 (by omega))), fun y hy => (hf _ _ (by omega) (by omega)).trans (h.2.2.1 y hy), fun y hy => (hf _ _ (by omega) (by omega)).trans (h.2.2.2.1 y hy), Or.inl h12⟩
theorem TrI.halve {I I2 : Im} {t : Nat} {x : Td} (h : TrI I t x) {a : Bool} (h3 : I2 (t + 14) 3 = bz (a = true)) (h12 : I2 t 12 = 0) (hf : ∀ b k, ¬ (b = t + 14 ∧ k = 3) → ¬ (b = t ∧ k = 12) → I2 b k = I b k) : TrI I2 t (xHalve x a) :=
  ⟨h.1.keep (fun c k g1 g2 g3 => hf c k (by omega) (by omega)), six ((hf _ _ (by omega) (by omega)).trans (h.2.1 0 (by omega))) ((hf _ _ (by omega) (by omega)).trans (h.2.1 1 (by omega))) ((hf _ _ (by omega) (by omega)).trans (h.2.1 2 (by omega))) h3 ((hf _ _ (by omega) (by omega)).trans (h.2.1 4 (by omega))) ((hf _ _ (by omega) (by omega)).trans (h.2.1 5 (by omega))), fun y hy => (hf _ _ (by omega) (by omega)).trans (h.2.2.1 y hy), fun y hy => (hf _ _ (by omega) (by omega)).trans (h.2.2.2.1 y hy), Or.inl h12⟩
theorem row_up {I I2 : Im} {a y v : Nat} {f : Nat → Nat} (h : ∀ x, x < 8 → I a x = nI (f x)) (h1 : I2 a y = nI v) (hf : ∀ x, x ≠ y → I2 a x = I a x) : ∀ x, x < 8 → I2 a x = nI (fu f y v x) := fun x hx => by
  by_cases e : x = y
  · rw [e, fu_at, h1]
  · rw [fu_ne e, hf x e]
    exact h x hx
theorem TrI.pay {I I2 : Im} {t : Nat} {x : Td} (h : TrI I t x) {y p : Nat} (h1 : I2 (t + 15) y = nI p) (hf : ∀ b k, ¬ (b = t + 15 ∧ k = y) → I2 b k = I b k) : TrI I2 t (xPay x y p) := by
  obtain ⟨g1, g2, g3, g4, g5⟩ := h
  refine ⟨g1.keep (fun c k g1 g2 g3 => hf c k (by omega)), fun k hk => (hf _ _ (by omega)).trans (g2 k hk), row_up g3 h1 (fun z hz => hf _ _ (by omega)), fun z hz => (hf _ _ (by omega)).trans (g4 z hz), ?_⟩
  rw [hf t 12 (by omega)]
  exact g5.imp id (fun ⟨z, R, hR, hv⟩ => ⟨z, R, hR, (hf _ _ (by omega)).trans hv.1, fun y hy hr => (hf _ _ (by omega)).trans (hv.2 y hy hr)⟩)
theorem TrI.ask {I I2 : Im} {t : Nat} {x : Td} (h : TrI I t x) {y p : Nat} (h1 : I2 (t + 16) y = nI p) (hf : ∀ b k, ¬ (b = t + 16 ∧ k = y) → I2 b k = I b k) : TrI I2 t (xAsk x y p) := by
  obtain ⟨g1, g2, g3, g4, g5⟩ := h
  refine ⟨g1.keep (fun c k g1 g2 g3 => hf c k (by omega)), fun k hk => (hf _ _ (by omega)).trans (g2 k hk), fun z hz => (hf _ _ (by omega)).trans (g3 z hz), row_up g4 h1 (fun z hz => hf _ _ (by omega)), ?_⟩
  rw [hf t 12 (by omega)]
  exact g5.imp id (fun ⟨z, R, hR, hv⟩ => ⟨z, R, hR, (hf _ _ (by omega)).trans hv.1, fun y hy hr => (hf _ _ (by omega)).trans (hv.2 y hy hr)⟩)
/-- another tape -/
theorem Ci.tp {s : Sta} {I I2 : Im} {G : Gm} {T : Tp} (h : Ci s I G) (hT : TpC I2 1 T) (hz : TrZ I2 (tA (sN s))) (hf : ∀ a j, ¬ (a = 1 ∨ a = 2) → ¬ (tA (sN s) ≤ a ∧ a < tA (sN s) + 18) → I2 a j = I a j) : Ci (sTp s T) I2 G := by
  have hoff := tA_off (sN s)
  obtain ⟨g, ⟨i1, i2, i3, i4, i5, i6⟩, m1, m2, m3⟩ := h
  refine ⟨g, ⟨(hf _ _ (by omega) (by omega)).trans i1, i2, hT, fun k hk => ⟨(i4 k hk).1, (i4 k hk).2.keep (fun a j z1 z2 => ?_)⟩, hz, ⟨(hf _ _ (by omega) (by omega)).trans i6.1, i6.2.1, fun k hk => ⟨(hf _ _ (by omega) (by omega)).trans (i6.2.2.1 k hk).1, (hf _ _ (by omega) (by omega)).trans (i6.2.2.1 k hk).2⟩, i6.2.2.2.1, (hf _ _ (by omega) (by omega)).trans i6.2.2.2.2⟩⟩, m1.keep (fun k hk => (i4 k hk).1) rfl (fun a j z1 z2 => hf a j (by omega) (by omega)), m2.keep (fun k hk => (i4 k hk).1) rfl (fun a j z1 z2 => hf a j (by omega) (by omega)), m3.keep rfl (fun a j z => hf a j (by omega) (by omega))⟩
  have hk : k < sN s := hk
  have hfar := tA_far (show k ≠ sN s by omega)
  have hok := tA_off k
  exact hf a j (by omega) (by omega)
/-- other chances -/
theorem Ci.ch {s : Sta} {I I2 : Im} {G : Gm} {z : Nat} {w g : Nat → Nat} (h : Ci s I G) (hc : ChC I2 253 z w g) (hf : ∀ a j, a < 253 ∨ 256 ≤ a → I2 a j = I a j) : Ci (sCh s z w g) I2 G := by
  obtain ⟨g, ⟨i1, i2, i3, i4, i5, i6⟩, m1, m2, m3⟩ := h
  refine ⟨g, ⟨(hf _ _ (by omega)).trans i1, i2, ⟨(hf _ _ (by omega)).trans i3.1, i3.2.1, fun i hi => (hf _ _ (by omega)).trans (i3.2.2.1 i hi), i3.2.2.2⟩, fun k hk => ⟨(i4 k hk).1, (i4 k hk).2.keep (fun a j z1 z2 => hf a j (by have := tA_off k; omega))⟩, i5.keep (fun a j z => hf a j (by have := tA_off (sN s); have z2 : (tA (sN s) + 14 ≤ a ∧ a ≤ tA (sN s) + 16) ∨ (a = tA (sN s) ∧ j = 12) := z; omega)), hc⟩, m1.keep (fun k hk => (i4 k hk).1) rfl (fun a j z1 z2 => hf a j (by omega)), m2.keep (fun k hk => (i4 k hk).1) rfl (fun a j z1 z2 => hf a j (by omega)), m3.keep rfl (fun a j z => hf a j (by omega))⟩
