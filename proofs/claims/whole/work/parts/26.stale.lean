/-! ===== shapes stand under other references; settle ===== -/
/-- the same references but for those that change: what a market was settled for, whose pairs are known, the draft, the trades -/
def Geq (G G2 : Gm) : Prop := G2.2 = G.2 ∧ ∀ a k, ¬ ((G.2.2.1 a = (0, 5) ∧ k = 0) ∨ (G.2.2.1 a = (0, 3) ∧ k = 2) ∨ (G.2.2.1 a = (0, 9) ∧ k = 3) ∨ (G.2.2.1 a).1 = 5) → G2.1 a k = G.1 a k

theorem isC7_geq {G G2 : Gm} {a : Nat} (hg : Geq G G2) (h : isC7 G a) : isC7 G2 a := ⟨by rw [hg.1]; exact h.1, by rw [hg.1]; exact h.2⟩

theorem isC0_geq {G G2 : Gm} {a : Nat} (hg : Geq G G2) (h : isC0 G a) : isC0 G2 a := ⟨by rw [hg.1]; exact h.1, by rw [hg.1]; exact h.2.1, ⟨(hg.2 a 0 (by rw [h.2.1]; decide)).trans (h.2.2.1).1, by rw [hg.1]; exact (h.2.2.1).2⟩, ⟨(hg.2 a 1 (by rw [h.2.1]; decide)).trans (h.2.2.2).1, by rw [hg.1]; exact (h.2.2.2).2⟩⟩

theorem isC1_geq {G G2 : Gm} {a : Nat} (hg : Geq G G2) (h : isC1 G a) : isC1 G2 a := ⟨by rw [hg.1]; exact h.1, by rw [hg.1]; exact h.2.1, ⟨(hg.2 a 0 (by rw [h.2.1]; decide)).trans (h.2.2.1).1, by rw [hg.1]; exact (h.2.2.1).2⟩, ⟨(hg.2 a 1 (by rw [h.2.1]; decide)).trans (h.2.2.2.1).1, by rw [hg.1]; exact (h.2.2.2.1).2⟩, ⟨(hg.2 a 2 (by rw [h.2.1]; decide)).trans (h.2.2.2.2.1).1, by rw [hg.1]; exact (h.2.2.2.2.1).2⟩, ⟨(hg.2 a 3 (by rw [h.2.1]; decide)).trans (h.2.2.2.2.2.1).1, by rw [hg.1]; exact (h.2.2.2.2.2.1).2⟩, ⟨(hg.2 a 4 (by rw [h.2.1]; decide)).trans (h.2.2.2.2.2.2.1).1, by rw [hg.1]; exact (h.2.2.2.2.2.2.1).2⟩, ⟨(hg.2 a 5 (by rw [h.2.1]; decide)).trans (h.2.2.2.2.2.2.2).1, by rw [hg.1]; exact (h.2.2.2.2.2.2.2).2⟩⟩

theorem isC2_geq {G G2 : Gm} {a : Nat} (hg : Geq G G2) (h : isC2 G a) : isC2 G2 a := ⟨by rw [hg.1]; exact h.1, by rw [hg.1]; exact h.2.1, ⟨(hg.2 a 0 (by rw [h.2.1]; decide)).trans (h.2.2).1, by rw [hg.1]; exact (h.2.2).2⟩⟩

theorem isC3_geq {G G2 : Gm} {a : Nat} (hg : Geq G G2) (h : isC3 G a) : isC3 G2 a := ⟨by rw [hg.1]; exact h.1, by rw [hg.1]; exact h.2.1, ⟨(hg.2 a 0 (by rw [h.2.1]; decide)).trans (h.2.2).1, by rw [hg.1]; exact (h.2.2).2⟩⟩

theorem isC4_geq {G G2 : Gm} {a : Nat} (hg : Geq G G2) (h : isC4 G a) : isC4 G2 a := ⟨by rw [hg.1]; exact h.1, by rw [hg.1]; exact h.2.1, ⟨(hg.2 a 0 (by rw [h.2.1]; decide)).trans (h.2.2.1).1, by rw [hg.1]; exact (h.2.2.1).2⟩, ⟨(hg.2 a 1 (by rw [h.2.1]; decide)).trans (h.2.2.2).1, by rw [hg.1]; exact (h.2.2.2).2.1, fun i hi => ⟨(hg.2 _ i (by rw [(h.2.2.2).2.1]; simp)).trans ((h.2.2.2).2.2 i hi).1, by rw [hg.1]; exact ((h.2.2.2).2.2 i hi).2⟩⟩⟩

theorem isC5_geq {G G2 : Gm} {a : Nat} (hg : Geq G G2) (h : isC5 G a) : isC5 G2 a := ⟨by rw [hg.1]; exact h.1, by rw [hg.1]; exact h.2.1, ⟨(hg.2 a 1 (by rw [h.2.1]; decide)).trans (h.2.2.1).1, isC7_geq hg (h.2.2.1).2⟩, ⟨(hg.2 a 2 (by rw [h.2.1]; decide)).trans (h.2.2.2.1).1, by rw [hg.1]; exact (h.2.2.2.1).2⟩, ⟨(hg.2 a 3 (by rw [h.2.1]; decide)).trans (h.2.2.2.2.1).1, by rw [hg.1]; exact (h.2.2.2.2.1).2.1, fun i hi => ⟨(hg.2 _ i (by rw [(h.2.2.2.2.1).2.1]; simp)).trans ((h.2.2.2.2.1).2.2 i hi).1, by rw [hg.1]; exact ((h.2.2.2.2.1).2.2 i hi).2⟩⟩, ⟨(hg.2 a 4 (by rw [h.2.1]; decide)).trans (h.2.2.2.2.2.1).1, by rw [hg.1]; exact (h.2.2.2.2.2.1).2.1, fun i hi => ⟨(hg.2 _ i (by rw [(h.2.2.2.2.2.1).2.1]; simp)).trans ((h.2.2.2.2.2.1).2.2 i hi).1, by rw [hg.1]; exact ((h.2.2.2.2.2.1).2.2 i hi).2⟩⟩, ⟨(hg.2 a 5 (by rw [h.2.1]; decide)).trans (h.2.2.2.2.2.2.1).1, by rw [hg.1]; exact (h.2.2.2.2.2.2.1).2.1, fun i hi => ⟨(hg.2 _ i (by rw [(h.2.2.2.2.2.2.1).2.1]; simp)).trans ((h.2.2.2.2.2.2.1).2.2 i hi).1, by rw [hg.1]; exact ((h.2.2.2.2.2.2.1).2.2 i hi).2⟩⟩, ⟨(hg.2 a 6 (by rw [h.2.1]; decide)).trans (h.2.2.2.2.2.2.2.1).1, by rw [hg.1]; exact (h.2.2.2.2.2.2.2.1).2.1, fun i hi => ⟨(hg.2 _ i (by rw [(h.2.2.2.2.2.2.2.1).2.1]; simp)).trans ((h.2.2.2.2.2.2.2.1).2.2 i hi).1, by rw [hg.1]; exact ((h.2.2.2.2.2.2.2.1).2.2 i hi).2⟩⟩, ⟨(hg.2 a 7 (by rw [h.2.1]; decide)).trans (h.2.2.2.2.2.2.2.2.1).1, by rw [hg.1]; exact (h.2.2.2.2.2.2.2.2.1).2⟩, ⟨(hg.2 a 8 (by rw [h.2.1]; decide)).trans (h.2.2.2.2.2.2.2.2.2.1).1, by rw [hg.1]; exact (h.2.2.2.2.2.2.2.2.2.1).2⟩, ⟨(hg.2 a 9 (by rw [h.2.1]; decide)).trans (h.2.2.2.2.2.2.2.2.2.2.1).1, by rw [hg.1]; exact (h.2.2.2.2.2.2.2.2.2.2.1).2⟩, ⟨(hg.2 a 10 (by rw [h.2.1]; decide)).trans (h.2.2.2.2.2.2.2.2.2.2.2.1).1, by rw [hg.1]; exact (h.2.2.2.2.2.2.2.2.2.2.2.1).2⟩, ⟨(hg.2 a 11 (by rw [h.2.1]; decide)).trans (h.2.2.2.2.2.2.2.2.2.2.2.2).1, by rw [hg.1]; exact (h.2.2.2.2.2.2.2.2.2.2.2.2).2⟩⟩

theorem isC6_geq {G G2 : Gm} {a : Nat} (hg : Geq G G2) (h : isC6 G a) : isC6 G2 a := ⟨by rw [hg.1]; exact h.1, by rw [hg.1]; exact h.2.1, ⟨(hg.2 a 0 (by rw [h.2.1]; decide)).trans (h.2.2).1, by rw [hg.1]; exact (h.2.2).2⟩⟩

theorem isC8_geq {G G2 : Gm} {a : Nat} (hg : Geq G G2) (h : isC8 G a) : isC8 G2 a := ⟨by rw [hg.1]; exact h.1, by rw [hg.1]; exact h.2.1, ⟨(hg.2 a 2 (by rw [h.2.1]; decide)).trans (h.2.2.1).1, by rw [hg.1]; exact (h.2.2.1).2⟩, ⟨(hg.2 a 3 (by rw [h.2.1]; decide)).trans (h.2.2.2.1).1, by rw [hg.1]; exact (h.2.2.2.1).2⟩, ⟨(hg.2 a 4 (by rw [h.2.1]; decide)).trans (h.2.2.2.2.1).1, by rw [hg.1]; exact (h.2.2.2.2.1).2⟩, ⟨(hg.2 a 5 (by rw [h.2.1]; decide)).trans (h.2.2.2.2.2.1).1, by rw [hg.1]; exact (h.2.2.2.2.2.1).2⟩, ⟨(hg.2 a 6 (by rw [h.2.1]; decide)).trans (h.2.2.2.2.2.2.1).1, by rw [hg.1]; exact (h.2.2.2.2.2.2.1).2.1, fun i hi => ⟨(hg.2 _ i (by rw [(h.2.2.2.2.2.2.1).2.1]; simp)).trans ((h.2.2.2.2.2.2.1).2.2 i hi).1, by rw [hg.1]; exact ((h.2.2.2.2.2.2.1).2.2 i hi).2⟩⟩, ⟨(hg.2 a 7 (by rw [h.2.1]; decide)).trans (h.2.2.2.2.2.2.2.1).1, isC7_geq hg (h.2.2.2.2.2.2.2.1).2⟩, ⟨(hg.2 a 8 (by rw [h.2.1]; decide)).trans (h.2.2.2.2.2.2.2.2.1).1, by rw [hg.1]; exact (h.2.2.2.2.2.2.2.2.1).2⟩, ⟨(hg.2 a 9 (by rw [h.2.1]; decide)).trans (h.2.2.2.2.2.2.2.2.2.1).1, by rw [hg.1]; exact (h.2.2.2.2.2.2.2.2.2.1).2⟩, ⟨(hg.2 a 10 (by rw [h.2.1]; decide)).trans (h.2.2.2.2.2.2.2.2.2.2).1, by rw [hg.1]; exact (h.2.2.2.2.2.2.2.2.2.2).2⟩⟩

theorem isC9_geq {G G2 : Gm} {a : Nat} (hg : Geq G G2) (h : isC9 G a) : isC9 G2 a := ⟨by rw [hg.1]; exact h.1, by rw [hg.1]; exact h.2.1, ⟨(hg.2 a 0 (by rw [h.2.1]; decide)).trans (h.2.2.1).1, isC6_geq hg (h.2.2.1).2⟩, ⟨(hg.2 a 1 (by rw [h.2.1]; decide)).trans (h.2.2.2.1).1, by rw [hg.1]; exact (h.2.2.2.1).2⟩, ⟨(hg.2 a 4 (by rw [h.2.1]; decide)).trans (h.2.2.2.2.1).1, isC7_geq hg (h.2.2.2.2.1).2⟩, ⟨(hg.2 a 5 (by rw [h.2.1]; decide)).trans (h.2.2.2.2.2.1).1, isC5_geq hg (h.2.2.2.2.2.1).2⟩, ⟨(hg.2 a 6 (by rw [h.2.1]; decide)).trans (h.2.2.2.2.2.2.1).1, isC5_geq hg (h.2.2.2.2.2.2.1).2⟩, ⟨(hg.2 a 7 (by rw [h.2.1]; decide)).trans (h.2.2.2.2.2.2.2.1).1, isC2_geq hg (h.2.2.2.2.2.2.2.1).2⟩, ⟨(hg.2 a 8 (by rw [h.2.1]; decide)).trans (h.2.2.2.2.2.2.2.2.1).1, isC3_geq hg (h.2.2.2.2.2.2.2.2.1).2⟩, ⟨(hg.2 a 9 (by rw [h.2.1]; decide)).trans (h.2.2.2.2.2.2.2.2.2.1).1, isC1_geq hg (h.2.2.2.2.2.2.2.2.2.1).2⟩, ⟨(hg.2 a 10 (by rw [h.2.1]; decide)).trans (h.2.2.2.2.2.2.2.2.2.2.1).1, isC4_geq hg (h.2.2.2.2.2.2.2.2.2.2.1).2⟩, ⟨(hg.2 a 11 (by rw [h.2.1]; decide)).trans (h.2.2.2.2.2.2.2.2.2.2.2).1, isC0_geq hg (h.2.2.2.2.2.2.2.2.2.2.2).2⟩⟩

theorem isC10_geq {G G2 : Gm} {a : Nat} (hg : Geq G G2) (h : isC10 G a) : isC10 G2 a := ⟨by rw [hg.1]; exact h.1, by rw [hg.1]; exact h.2.1, ⟨(hg.2 a 1 (by rw [h.2.1]; decide)).trans (h.2.2.1).1, by rw [hg.1]; exact (h.2.2.1).2⟩, ⟨(hg.2 a 6 (by rw [h.2.1]; decide)).trans (h.2.2.2.1).1, by rw [hg.1]; exact (h.2.2.2.1).2⟩, ⟨(hg.2 a 7 (by rw [h.2.1]; decide)).trans (h.2.2.2.2.1).1, by rw [hg.1]; exact (h.2.2.2.2.1).2⟩, ⟨(hg.2 a 8 (by rw [h.2.1]; decide)).trans (h.2.2.2.2.2.1).1, by rw [hg.1]; exact (h.2.2.2.2.2.1).2⟩, ⟨(hg.2 a 9 (by rw [h.2.1]; decide)).trans (h.2.2.2.2.2.2.1).1, by rw [hg.1]; exact (h.2.2.2.2.2.2.1).2⟩, ⟨(hg.2 a 10 (by rw [h.2.1]; decide)).trans (h.2.2.2.2.2.2.2.1).1, by rw [hg.1]; exact (h.2.2.2.2.2.2.2.1).2⟩, ⟨(hg.2 a 11 (by rw [h.2.1]; decide)).trans (h.2.2.2.2.2.2.2.2.1).1, by rw [hg.1]; exact (h.2.2.2.2.2.2.2.2.1).2⟩, ⟨(hg.2 a 12 (by rw [h.2.1]; decide)).trans (h.2.2.2.2.2.2.2.2.2.1).1, by rw [hg.1]; exact (h.2.2.2.2.2.2.2.2.2.1).2⟩, ⟨(hg.2 a 13 (by rw [h.2.1]; decide)).trans (h.2.2.2.2.2.2.2.2.2.2.1).1, by rw [hg.1]; exact (h.2.2.2.2.2.2.2.2.2.2.1).2⟩, ⟨(hg.2 a 14 (by rw [h.2.1]; decide)).trans (h.2.2.2.2.2.2.2.2.2.2.2.1).1, by rw [hg.1]; exact (h.2.2.2.2.2.2.2.2.2.2.2.1).2⟩, ⟨(hg.2 a 15 (by rw [h.2.1]; decide)).trans (h.2.2.2.2.2.2.2.2.2.2.2.2.1).1, by rw [hg.1]; exact (h.2.2.2.2.2.2.2.2.2.2.2.2.1).2⟩, ⟨(hg.2 a 16 (by rw [h.2.1]; decide)).trans (h.2.2.2.2.2.2.2.2.2.2.2.2.2.1).1, by rw [hg.1]; exact (h.2.2.2.2.2.2.2.2.2.2.2.2.2.1).2⟩, ⟨(hg.2 a 17 (by rw [h.2.1]; decide)).trans (h.2.2.2.2.2.2.2.2.2.2.2.2.2.2.1).1, by rw [hg.1]; exact (h.2.2.2.2.2.2.2.2.2.2.2.2.2.2.1).2⟩, ⟨(hg.2 a 18 (by rw [h.2.1]; decide)).trans (h.2.2.2.2.2.2.2.2.2.2.2.2.2.2.2.1).1, by rw [hg.1]; exact (h.2.2.2.2.2.2.2.2.2.2.2.2.2.2.2.1).2⟩, ⟨(hg.2 a 19 (by rw [h.2.1]; decide)).trans (h.2.2.2.2.2.2.2.2.2.2.2.2.2.2.2.2.1).1, by rw [hg.1]; exact (h.2.2.2.2.2.2.2.2.2.2.2.2.2.2.2.2.1).2⟩, ⟨(hg.2 a 26 (by rw [h.2.1]; decide)).trans (h.2.2.2.2.2.2.2.2.2.2.2.2.2.2.2.2.2.1).1, by rw [hg.1]; exact (h.2.2.2.2.2.2.2.2.2.2.2.2.2.2.2.2.2.1).2⟩, ⟨(hg.2 a 27 (by rw [h.2.1]; decide)).trans (h.2.2.2.2.2.2.2.2.2.2.2.2.2.2.2.2.2.2.1).1, by rw [hg.1]; exact (h.2.2.2.2.2.2.2.2.2.2.2.2.2.2.2.2.2.2.1).2⟩, ⟨(hg.2 a 28 (by rw [h.2.1]; decide)).trans (h.2.2.2.2.2.2.2.2.2.2.2.2.2.2.2.2.2.2.2.1).1, by rw [hg.1]; exact (h.2.2.2.2.2.2.2.2.2.2.2.2.2.2.2.2.2.2.2.1).2⟩, ⟨(hg.2 a 29 (by rw [h.2.1]; decide)).trans (h.2.2.2.2.2.2.2.2.2.2.2.2.2.2.2.2.2.2.2.2.1).1, by rw [hg.1]; exact (h.2.2.2.2.2.2.2.2.2.2.2.2.2.2.2.2.2.2.2.2.1).2⟩, ⟨(hg.2 a 30 (by rw [h.2.1]; decide)).trans (h.2.2.2.2.2.2.2.2.2.2.2.2.2.2.2.2.2.2.2.2.2.1).1, by rw [hg.1]; exact (h.2.2.2.2.2.2.2.2.2.2.2.2.2.2.2.2.2.2.2.2.2.1).2⟩, ⟨(hg.2 a 33 (by rw [h.2.1]; decide)).trans (h.2.2.2.2.2.2.2.2.2.2.2.2.2.2.2.2.2.2.2.2.2.2.1).1, by rw [hg.1]; exact (h.2.2.2.2.2.2.2.2.2.2.2.2.2.2.2.2.2.2.2.2.2.2.1).2⟩, ⟨(hg.2 a 34 (by rw [h.2.1]; decide)).trans (h.2.2.2.2.2.2.2.2.2.2.2.2.2.2.2.2.2.2.2.2.2.2.2.1).1, by rw [hg.1]; exact (h.2.2.2.2.2.2.2.2.2.2.2.2.2.2.2.2.2.2.2.2.2.2.2.1).2⟩, ⟨(hg.2 a 35 (by rw [h.2.1]; decide)).trans (h.2.2.2.2.2.2.2.2.2.2.2.2.2.2.2.2.2.2.2.2.2.2.2.2.1).1, by rw [hg.1]; exact (h.2.2.2.2.2.2.2.2.2.2.2.2.2.2.2.2.2.2.2.2.2.2.2.2.1).2⟩, ⟨(hg.2 a 36 (by rw [h.2.1]; decide)).trans (h.2.2.2.2.2.2.2.2.2.2.2.2.2.2.2.2.2.2.2.2.2.2.2.2.2).1, by rw [hg.1]; exact (h.2.2.2.2.2.2.2.2.2.2.2.2.2.2.2.2.2.2.2.2.2.2.2.2.2).2⟩⟩

theorem Geq.rf {G : Gm} : Geq G G := ⟨rfl, fun _ _ _ => rfl⟩
theorem Geq.tr {G G2 G3 : Gm} (h : Geq G G2) (h2 : Geq G2 G3) : Geq G G3 := ⟨h2.1.trans h.1, fun a k q => (h2.2 a k (by rw [h.1]; exact q)).trans (h.2 a k q)⟩
/-- settled for t -/
def sG (G : Gm) (mb t : Nat) : Gm := (up2 G.1 mb 0 (some t), G.2)
theorem sG_eq {G : Gm} {mb t : Nat} (h : isC5 G mb) : Geq G (sG G mb t) := ⟨rfl, fun a k q => up2_rd ((Classical.em (a = mb)).elim (fun e => Or.inr (fun z => q (Or.inl ⟨by rw [e]; exact h.2.1, z⟩))) Or.inl)⟩
theorem sG_same {G : Gm} {mb t : Nat} (h : G.1 mb 0 = some t) : sG G mb t = G := by
  unfold sG
  refine Prod.ext ?_ rfl
  funext a k
  show up2 G.1 mb 0 (some t) a k = G.1 a k
  unfold up2
  split
  · next z => rw [z.1, z.2, h]
  · rfl
/-- how far the joined houses are the same, from above -/
def lsF (j j2 : Int32) : Nat → Nat
  | 0 => 0
  | p + 1 => if bz (jn j (nI p)) = bz (jn j2 (nI p)) then lsF j j2 p else p + 1

set_option maxRecDepth 100000 in
theorem lastStale_ct {d : Nat} {I : Im} {G : Gm} {mb t wd n : Nat} (hM : isC5 G mb) (hT : isC8 G t) (hW : isC7 G wd) (hn : I t 0 = nI n) (hn8 : n ≤ 8) : Ct (d + 2) 0 0 YX5_lastStale [.ref mb, .ref t, .ref wd] (I, G) (qP (if G.1 mb 0 = some t ∧ (I (mb + 1) 1 = I wd 1 ∧ I (mb + 1) 2 = I wd 2 ∧ I (mb + 1) 3 = I wd 3 ∧ I (mb + 1) 4 = I wd 4 ∧ I (mb + 1) 5 = I wd 5) then nI (lsF (I (mb + 1) 0) (I wd 0) n) - 1 - 1 else nI n - 1) (I, G)) := by
  refine Ct.of (by decide) (by simp [Value.category]) (Nat.le_of_ble_eq_true rfl) ?_
  show wp _ _ _ _ 0 [some (.ref mb), some (.ref t), some (.ref wd), none] [] _ _
  refine r_aload_n (pc := 0) dX5_lastStale_0 rfl ?_
  refine r_getR (pc := 1) 5 0 9 dX5_lastStale_1 (fl_RX5_9 rfl) (by decide) rfl (c5_o hM) rfl ?_
  refine r_aload_n (pc := 4) dX5_lastStale_4 rfl ?_
  refine r_acmp_ne (pc := 5) (x := G.1 mb 0) (z := some t) (tgt := 19) dX5_lastStale_5 (by decide) (fun c5 => ?_) (fun c5 => ?_)
  · skip
    have hsv : nI n - 1 = if G.1 mb 0 = some t ∧ (I (mb + 1) 1 = I wd 1 ∧ I (mb + 1) 2 = I wd 2 ∧ I (mb + 1) 3 = I wd 3 ∧ I (mb + 1) 4 = I wd 4 ∧ I (mb + 1) 5 = I wd 5) then nI (lsF (I (mb + 1) 0) (I wd 0) n) - 1 - 1 else nI n - 1 := (if_neg (fun q => c5 q.1)).symm
    refine r_aload_n (pc := 19) dX5_lastStale_19 rfl ?_
    refine r_getIv (pc := 20) 8 0 67 dX5_lastStale_20 (fl_RX5_67 rfl) (by decide) rfl (c8_o hT) (v := nI n) (hn) ?_
    refine r_iconst (pc := 23) (v := 1) dX5_lastStale_23 (by decide) ?_
    refine r_isub (pc := 24) (x := nI n) (z := 1) dX5_lastStale_24 ?_
    refine r_ret_i (pc := 25) dX5_lastStale_25 rfl ?_
    exact ⟨congrArg (fun z => some (Value.int z)) hsv, rfl⟩
  · skip
    refine r_aload_n (pc := 8) dX5_lastStale_8 rfl ?_
    refine r_get1 (pc := 9) 5 1 18 dX5_lastStale_9 (fl_RX5_18 rfl) (by decide) rfl (c5_o hM) (c5_p1 hM) ?_
    refine r_aload_n (pc := 12) dX5_lastStale_12 rfl ?_
    refine r_callV_P (pc := 13) (b := mb + 1) (As := [.ref wd]) 7 99 dX5_lastStale_13 lk_X7_sameButJoined (ml_RX5_99 rfl) im_X7_sameButJoined se_X7_sameButJoined (by decide) (c7_o (c5_s1 hM)) (Nat.le_of_ble_eq_true rfl) rfl (sameButJoined_ct (c5_s1 hM) hW) ?_
    refine r_if_ne_b (pc := 16) (tgt := 26) dX5_lastStale_16 (by decide) (fun c16 => ?_) (fun c16 => ?_)
    · skip
      refine r_aload_n (pc := 26) dX5_lastStale_26 rfl ?_
      refine r_getIv (pc := 27) 8 0 67 dX5_lastStale_27 (fl_RX5_67 rfl) (by decide) rfl (c8_o hT) (v := nI n) (hn) ?_
      refine r_iconst (pc := 30) (v := 1) dX5_lastStale_30 (by decide) ?_
      refine r_isub (pc := 31) (x := nI n) (z := 1) dX5_lastStale_31 ?_
      refine r_istore_n (pc := 32) (L' := [some (.ref mb), some (.ref t), some (.ref wd), some (.int ((nI n) - 1))]) dX5_lastStale_32 (by decide) rfl rfl ?_
      have lp33 : ∀ (n33 : Nat), ∀ (p : Nat), p = n33 → (p ≤ n) → (lsF (I (mb + 1) 0) (I wd 0) n = lsF (I (mb + 1) 0) (I wd 0) p) → wp (d + 2) 0 0 YX5_lastStale 33 [some (.ref mb), some (.ref t), some (.ref wd), some (.int (nI p - 1))] [] (I, G) (qP (if G.1 mb 0 = some t ∧ (I (mb + 1) 1 = I wd 1 ∧ I (mb + 1) 2 = I wd 2 ∧ I (mb + 1) 3 = I wd 3 ∧ I (mb + 1) 4 = I wd 4 ∧ I (mb + 1) 5 = I wd 5) then nI (lsF (I (mb + 1) 0) (I wd 0) n) - 1 - 1 else nI n - 1) (I, G)) := by
        intro n33
        induction n33 using Nat.strongRecOn with
        | ind n33 ih33 =>
          intro p hmu33 hp hls
          rcases p with _ | p
          · skip
            show wp _ _ _ _ _ [some (.ref mb), some (.ref t), some (.ref wd), some (.int (-1))] _ _ _
            refine r_iload_n (pc := 33) dX5_lastStale_33 rfl ?_
            refine r_if_lt (pc := 34) (x := (-1)) (tgt := 59) dX5_lastStale_34 (by decide) (fun c34 => ?_) (fun c34 => ?_)
            · skip
              have hsv : (-1 : Int32) - 1 = if G.1 mb 0 = some t ∧ (I (mb + 1) 1 = I wd 1 ∧ I (mb + 1) 2 = I wd 2 ∧ I (mb + 1) 3 = I wd 3 ∧ I (mb + 1) 4 = I wd 4 ∧ I (mb + 1) 5 = I wd 5) then nI (lsF (I (mb + 1) 0) (I wd 0) n) - 1 - 1 else nI n - 1 := by rw [if_pos ⟨c5, c16⟩, hls]; rfl
              refine r_iload_n (pc := 59) dX5_lastStale_59 rfl ?_
              refine r_iconst (pc := 60) (v := 1) dX5_lastStale_60 (by decide) ?_
              refine r_isub (pc := 61) (x := (-1)) (z := 1) dX5_lastStale_61 ?_
              refine r_ret_i (pc := 62) dX5_lastStale_62 rfl ?_
              exact ⟨congrArg (fun z => some (Value.int z)) hsv, rfl⟩
            · exfalso; exact absurd c34 (by decide)
          · skip
            refine wp_L (L2 := [some (.ref mb), some (.ref t), some (.ref wd), some (.int (nI p))]) (by rw [nI_pred]) ?_
            refine r_iload_n (pc := 33) dX5_lastStale_33 rfl ?_
            refine r_if_lt_n (pc := 34) (tgt := 59) dX5_lastStale_34 (by decide) (by omega) ?_
            refine r_aload_n (pc := 37) dX5_lastStale_37 rfl ?_
            refine r_get1 (pc := 38) 5 1 18 dX5_lastStale_38 (fl_RX5_18 rfl) (by decide) rfl (c5_o hM) (c5_p1 hM) ?_
            refine r_iload_n (pc := 41) dX5_lastStale_41 rfl ?_
            refine r_callV_P (pc := 42) (b := mb + 1) (As := [.int (nI p)]) 7 102 dX5_lastStale_42 lk_X7_joins (ml_RX5_102 rfl) im_X7_joins se_X7_joins (by decide) (c7_o (c5_s1 hM)) (Nat.le_of_ble_eq_true rfl) rfl (joins_ct (c5_s1 hM)) ?_
            refine r_aload_n (pc := 45) dX5_lastStale_45 rfl ?_
            refine r_iload_n (pc := 46) dX5_lastStale_46 rfl ?_
            refine r_callV_P (pc := 47) (b := wd) (As := [.int (nI p)]) 7 102 dX5_lastStale_47 lk_X7_joins (ml_RX5_102 rfl) im_X7_joins se_X7_joins (by decide) (c7_o hW) (Nat.le_of_ble_eq_true rfl) rfl (joins_ct hW) ?_
            refine r_icmp_ne (pc := 50) (x := bz (jn (I (mb + 1) 0) (nI p))) (z := bz (jn (I wd 0) (nI p))) (tgt := 59) dX5_lastStale_50 (by decide) (fun c50 => ?_) (fun c50 => ?_)
            · skip
              have hsv : nI p - 1 = if G.1 mb 0 = some t ∧ (I (mb + 1) 1 = I wd 1 ∧ I (mb + 1) 2 = I wd 2 ∧ I (mb + 1) 3 = I wd 3 ∧ I (mb + 1) 4 = I wd 4 ∧ I (mb + 1) 5 = I wd 5) then nI (lsF (I (mb + 1) 0) (I wd 0) n) - 1 - 1 else nI n - 1 := by rw [if_pos ⟨c5, c16⟩, hls, show lsF (I (mb + 1) 0) (I wd 0) (p + 1) = p + 1 from if_neg c50, nI_pred]
              refine r_iload_n (pc := 59) dX5_lastStale_59 rfl ?_
              refine r_iconst (pc := 60) (v := 1) dX5_lastStale_60 (by decide) ?_
              refine r_isub (pc := 61) (x := nI p) (z := 1) dX5_lastStale_61 ?_
              refine r_ret_i (pc := 62) dX5_lastStale_62 rfl ?_
              exact ⟨congrArg (fun z => some (Value.int z)) hsv, rfl⟩
            · skip
              refine r_iinc (pc := 53) (v := nI p - 1) (L' := [some (.ref mb), some (.ref t), some (.ref wd), some (.int (nI p - 1))]) dX5_lastStale_53 rfl (nI_dm _) (by decide) rfl rfl ?_
              refine r_goto (pc := 56) (tgt := 33) dX5_lastStale_56 (by decide) ?_
              exact ih33 _ (by omega) p rfl (by omega) (by rw [hls]; exact if_pos c50)
      exact lp33 _ n rfl (by omega) (by rfl)
    · skip
      have hsv : nI n - 1 = if G.1 mb 0 = some t ∧ (I (mb + 1) 1 = I wd 1 ∧ I (mb + 1) 2 = I wd 2 ∧ I (mb + 1) 3 = I wd 3 ∧ I (mb + 1) 4 = I wd 4 ∧ I (mb + 1) 5 = I wd 5) then nI (lsF (I (mb + 1) 0) (I wd 0) n) - 1 - 1 else nI n - 1 := (if_neg (fun q => c16 q.2)).symm
      refine r_aload_n (pc := 19) dX5_lastStale_19 rfl ?_
      refine r_getIv (pc := 20) 8 0 67 dX5_lastStale_20 (fl_RX5_67 rfl) (by decide) rfl (c8_o hT) (v := nI n) (hn) ?_
      refine r_iconst (pc := 23) (v := 1) dX5_lastStale_23 (by decide) ?_
      refine r_isub (pc := 24) (x := nI n) (z := 1) dX5_lastStale_24 ?_
      refine r_ret_i (pc := 25) dX5_lastStale_25 rfl ?_
      exact ⟨congrArg (fun z => some (Value.int z)) hsv, rfl⟩
