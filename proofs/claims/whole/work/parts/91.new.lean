/-! ===== new cells, told from a on ===== -/
def Nw (a : Nat) (M0 M : Mm) (c : Nat) (P : Nat → Nat → Option Nat) (S : Nat → Nat × Nat) (I : Nat → Nat → Int32) : Prop :=
  mN M = a + c ∧ (∀ id, id < a → mI M id = mI M0 id ∧ mP M id = mP M0 id ∧ mJ M id = mJ M0 id ∧ mS M id = mS M0 id) ∧ ∀ j, j < c → (∀ k, mP M (a + j) k = (P j k).map (a + ·)) ∧ mS M (a + j) = S j ∧ (∀ k, mI M (a + j) k = I j k) ∧ mJ M (a + j) = fun _ => 0
theorem Nw.al {a c : Nat} {M0 M : Mm} {P : Nat → Nat → Option Nat} {S : Nat → Nat × Nat} {I : Nat → Nat → Int32} (h : Nw a M0 M c P S I) (sh : Nat × Nat) : Nw a M0 (alM M sh) (c + 1) (va_up P c (fun _ => none)) (va_up S c sh) (va_up I c (fun _ => 0)) := by
  obtain ⟨h1, h2, h3⟩ := h
  refine ⟨by show mN M + 1 = _; omega, fun id hid => ?_, fun j hj => ?_⟩
  · have hne : id ≠ mN M := by omega
    have q := h2 id hid
    exact ⟨(up_ne hne).trans q.1, (up_ne hne).trans q.2.1, (up_ne hne).trans q.2.2.1, (up_ne hne).trans q.2.2.2⟩
  · by_cases e : j = c
    · subst e
      have he : a + j = mN M := h1.symm
      refine ⟨fun k => ?_, ?_, fun k => ?_, ?_⟩
      · show va_up (mP M) (mN M) (fun _ => none) (a + j) k = _
        rw [he, up_at, up_at]
        rfl
      · show va_up (mS M) (mN M) sh (a + j) = _
        rw [he, up_at, up_at]
      · show va_up (mI M) (mN M) (fun _ => 0) (a + j) k = _
        rw [he, up_at, up_at]
      · show va_up (mJ M) (mN M) (fun _ => 0) (a + j) = _
        rw [he, up_at]
    · have hne : a + j ≠ mN M := by omega
      have q := h3 j (by omega)
      refine ⟨fun k => ?_, (up_ne hne).trans (q.2.1.trans (up_ne e).symm), fun k => ?_, (up_ne hne).trans q.2.2.2⟩
      · show va_up (mP M) (mN M) (fun _ => none) (a + j) k = _
        rw [up_ne hne, up_ne e]
        exact q.1 k
      · show va_up (mI M) (mN M) (fun _ => 0) (a + j) k = _
        rw [up_ne hne, up_ne e]
        exact q.2.2.1 k
theorem up2_rw2 {α : Type} {f : Nat → Nat → α} {a k : Nat} {v : α} {b : Nat} (h : b ≠ a) : up2 f a k v b = f b := funext fun _ => up2_rd (Or.inl h)
theorem Nw.pt {a c : Nat} {M0 M : Mm} {P : Nat → Nat → Option Nat} {S : Nat → Nat × Nat} {I : Nat → Nat → Int32} (h : Nw a M0 M c P S I) {j : Nat} (hj : j < c) (k : Nat) (o : Option Nat) : Nw a M0 (wP M (a + j) k (o.map (a + ·))) c (up2 P j k o) S I := by
  obtain ⟨h1, h2, h3⟩ := h
  refine ⟨h1, fun id hid => ⟨(h2 id hid).1, (show up2 (mP M) (a + j) k _ id = mP M id from up2_rw2 (by omega)).trans (h2 id hid).2.1, (h2 id hid).2.2⟩, fun i hi => ⟨fun k2 => ?_, (h3 i hi).2⟩⟩
  show up2 (mP M) (a + j) k (o.map (a + ·)) (a + i) k2 = _
  by_cases e : i = j ∧ k2 = k
  · obtain ⟨rfl, rfl⟩ := e
    rw [up2_at, up2_at]
  · rw [up2_rd (by omega), up2_rd (by omega)]
    exact (h3 i hi).1 k2
theorem Nw.pi {a c : Nat} {M0 M : Mm} {P : Nat → Nat → Option Nat} {S : Nat → Nat × Nat} {I : Nat → Nat → Int32} (h : Nw a M0 M c P S I) {j : Nat} (hj : j < c) (k : Nat) (v : Int32) : Nw a M0 (wI M (a + j) k v) c P S (up2 I j k v) := by
  obtain ⟨h1, h2, h3⟩ := h
  refine ⟨h1, fun id hid => ⟨(show up2 (mI M) (a + j) k v id = mI M id from up2_rw2 (by omega)).trans (h2 id hid).1, (h2 id hid).2⟩, fun i hi => ⟨(h3 i hi).1, (h3 i hi).2.1, fun k2 => ?_, (h3 i hi).2.2.2⟩⟩
  show up2 (mI M) (a + j) k v (a + i) k2 = _
  by_cases e : i = j ∧ k2 = k
  · obtain ⟨rfl, rfl⟩ := e
    rw [up2_at, up2_at]
  · rw [up2_rd (by omega), up2_rd (by omega)]
    exact (h3 i hi).2.2.1 k2
theorem Nw.ro {a c : Nat} {M0 M : Mm} {P : Nat → Nat → Option Nat} {S : Nat → Nat × Nat} {I : Nat → Nat → Int32} (h : Nw a M0 M c P S I) (N K : Nat) : Nw a M0 (alR M N K) (c + 1 + N) (fun j => if j < c then P j else if j = c then (fun k => if k < N then some (c + 1 + k) else none) else fun _ => none) (fun j => if j < c then S j else if j = c then (6, N) else (1, K)) (fun j => if j < c then I j else fun _ => 0) := by
  obtain ⟨h1, h2, h3⟩ := h
  refine ⟨by show mN M + 1 + N = _; omega, fun id hid => ?_, fun j hj => ?_⟩
  · have hlt : id < mN M := by omega
    have q := h2 id hid
    exact ⟨(if_pos hlt).trans q.1, (if_pos hlt).trans q.2.1, (if_pos hlt).trans q.2.2.1, (if_pos hlt).trans q.2.2.2⟩
  · by_cases e : j < c
    · have hlt : a + j < mN M := by omega
      have q := h3 j e
      refine ⟨fun k => ?_, (if_pos hlt).trans (q.2.1.trans (if_pos e).symm), fun k => ?_, (if_pos hlt).trans q.2.2.2⟩
      · show (if a + j < mN M then mP M (a + j) else if a + j = mN M then (fun k => if k < N then some (mN M + 1 + k) else none) else fun _ => none) k = ((if j < c then P j else if j = c then (fun k => if k < N then some (c + 1 + k) else none) else fun _ => none) k).map (a + ·)
        rw [if_pos hlt, if_pos e]
        exact q.1 k
      · show (if a + j < mN M then mI M (a + j) else fun _ => 0) k = (if j < c then I j else fun _ => 0) k
        rw [if_pos hlt, if_pos e]
        exact q.2.2.1 k
    · have hlt : ¬ a + j < mN M := by omega
      refine ⟨fun k => ?_, ?_, fun k => ?_, if_neg hlt⟩
      · show (if a + j < mN M then mP M (a + j) else if a + j = mN M then (fun k => if k < N then some (mN M + 1 + k) else none) else fun _ => none) k = ((if j < c then P j else if j = c then (fun k => if k < N then some (c + 1 + k) else none) else fun _ => none) k).map (a + ·)
        rw [if_neg hlt, if_neg e]
        by_cases e2 : j = c
        · rw [if_pos (by omega), if_pos e2]
          show (if k < N then some (mN M + 1 + k) else none) = (if k < N then some (c + 1 + k) else none).map (a + ·)
          by_cases e3 : k < N
          · rw [if_pos e3, if_pos e3, h1]
            show some (a + c + 1 + k) = some (a + (c + 1 + k))
            congr 1
            omega
          · rw [if_neg e3, if_neg e3]
            rfl
        · rw [if_neg (by omega), if_neg e2]
          rfl
      · show (if a + j < mN M then mS M (a + j) else if a + j = mN M then (6, N) else (1, K)) = (if j < c then S j else if j = c then (6, N) else (1, K))
        rw [if_neg hlt, if_neg e]
        by_cases e2 : j = c
        · rw [if_pos (by omega), if_pos e2]
        · rw [if_neg (by omega), if_neg e2]
      · show (if a + j < mN M then mI M (a + j) else fun _ => 0) k = (if j < c then I j else fun _ => 0) k
        rw [if_neg hlt, if_neg e]
/-- the shapes below n are as they were -/
def Sh (M M2 : Mm) (n : Nat) : Prop := n ≤ mN M2 ∧ ∀ id, id < n → mS M2 id = mS M id
theorem Sh.rf {M : Mm} {n : Nat} (h : n ≤ mN M) : Sh M M n := ⟨h, fun _ _ => rfl⟩
theorem Sh.al {M M2 : Mm} {n : Nat} (h : Sh M M2 n) (sh : Nat × Nat) : Sh M (alM M2 sh) n := ⟨Nat.le_succ_of_le h.1, fun id hid => (up_ne (show id ≠ mN M2 by have := h.1; omega)).trans (h.2 id hid)⟩
theorem Sh.ro {M M2 : Mm} {n : Nat} (h : Sh M M2 n) (N K : Nat) : Sh M (alR M2 N K) n := ⟨by have := h.1; show n ≤ mN M2 + 1 + N; omega, fun id hid => (if_pos (show id < mN M2 by have := h.1; omega)).trans (h.2 id hid)⟩
theorem Sh.wi {M M2 : Mm} {n a k : Nat} {v : Int32} (h : Sh M M2 n) : Sh M (wI M2 a k v) n := h
theorem Sh.wp {M M2 : Mm} {n a k : Nat} {v : Option Nat} (h : Sh M M2 n) : Sh M (wP M2 a k v) n := h
theorem Sh.tr {M M2 M3 : Mm} {n k : Nat} (h : Sh M M2 n) (h2 : Sh M2 M3 k) (hn : n ≤ k) : Sh M M3 n := ⟨Nat.le_trans hn h2.1, fun id hid => (h2.2 id (by omega)).trans (h.2 id hid)⟩
theorem Sh.ob {M M2 : Mm} {n b ci : Nat} (h : Sh M M2 n) (hb : b < n) (ho : mS M b = (0, ci)) : ob M2 b ci := ⟨Nat.lt_of_lt_of_le hb h.1, (h.2 b hb).trans ho⟩
theorem Nw.p1 {a c : Nat} {M0 M : Mm} {P : Nat → Nat → Option Nat} {S : Nat → Nat × Nat} {I : Nat → Nat → Int32} (h : Nw a M0 M c P S I) {j : Nat} (hj : j < c) (k o : Nat) : Nw a M0 (wP M (a + j) k (some (a + o))) c (up2 P j k (some o)) S I := h.pt hj k (some o)
theorem Nw.p0 {a c : Nat} {M0 M : Mm} {P : Nat → Nat → Option Nat} {S : Nat → Nat × Nat} {I : Nat → Nat → Int32} (h : Nw a M0 M c P S I) {j : Nat} (hj : j < c) (k : Nat) : Nw a M0 (wP M (a + j) k none) c (up2 P j k none) S I := h.pt hj k none
