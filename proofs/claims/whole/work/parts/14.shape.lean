/-! ===== the shapes of the objects: which cells follow an object's own ===== -/
def isC7 (G : Gm) (a : Nat) : Prop := a + 1 ≤ G.2.2.2 ∧ G.2.2.1 a = (0, 7)
theorem c7_n {G : Gm} {a : Nat} (h : isC7 G a) : a + 1 ≤ G.2.2.2 := h.1
theorem c7_o {I : Im} {G : Gm} {a : Nat} (h : isC7 G a) : ob (I, G) a 7 := ⟨Nat.lt_of_lt_of_le (Nat.lt_add_of_pos_right (by decide)) (h.1), h.2⟩
def isC0 (G : Gm) (a : Nat) : Prop := a + 3 ≤ G.2.2.2 ∧ G.2.2.1 a = (0, 0) ∧ (G.1 a 0 = some (a + 1) ∧ G.2.2.1 (a + 1) = (1, 12)) ∧ (G.1 a 1 = some (a + 2) ∧ G.2.2.1 (a + 2) = (1, 12))
theorem c0_n {G : Gm} {a : Nat} (h : isC0 G a) : a + 3 ≤ G.2.2.2 := h.1
theorem c0_o {I : Im} {G : Gm} {a : Nat} (h : isC0 G a) : ob (I, G) a 0 := ⟨Nat.lt_of_lt_of_le (Nat.lt_add_of_pos_right (by decide)) (h.1), h.2.1⟩
theorem c0_p0 {I : Im} {G : Gm} {a : Nat} (h : isC0 G a) : mP (I, G) a 0 = some (a + 1) := (h.2.2.1).1
theorem c0_a0 {I : Im} {G : Gm} {a : Nat} (h : isC0 G a) : ar (I, G) (a + 1) 1 12 := ⟨Nat.lt_of_lt_of_le (Nat.add_lt_add_left (by decide) a) (h.1), (h.2.2.1).2⟩
theorem c0_p1 {I : Im} {G : Gm} {a : Nat} (h : isC0 G a) : mP (I, G) a 1 = some (a + 2) := (h.2.2.2).1
theorem c0_a1 {I : Im} {G : Gm} {a : Nat} (h : isC0 G a) : ar (I, G) (a + 2) 1 12 := ⟨Nat.lt_of_lt_of_le (Nat.add_lt_add_left (by decide) a) (h.1), (h.2.2.2).2⟩
def isC1 (G : Gm) (a : Nat) : Prop := a + 7 ≤ G.2.2.2 ∧ G.2.2.1 a = (0, 1) ∧ (G.1 a 0 = some (a + 1) ∧ G.2.2.1 (a + 1) = (1, 42)) ∧ (G.1 a 1 = some (a + 2) ∧ G.2.2.1 (a + 2) = (1, 42)) ∧ (G.1 a 2 = some (a + 3) ∧ G.2.2.1 (a + 3) = (1, 42)) ∧ (G.1 a 3 = some (a + 4) ∧ G.2.2.1 (a + 4) = (1, 42)) ∧ (G.1 a 4 = some (a + 5) ∧ G.2.2.1 (a + 5) = (1, 42)) ∧ (G.1 a 5 = some (a + 6) ∧ G.2.2.1 (a + 6) = (1, 42))
theorem c1_n {G : Gm} {a : Nat} (h : isC1 G a) : a + 7 ≤ G.2.2.2 := h.1
theorem c1_o {I : Im} {G : Gm} {a : Nat} (h : isC1 G a) : ob (I, G) a 1 := ⟨Nat.lt_of_lt_of_le (Nat.lt_add_of_pos_right (by decide)) (h.1), h.2.1⟩
theorem c1_p0 {I : Im} {G : Gm} {a : Nat} (h : isC1 G a) : mP (I, G) a 0 = some (a + 1) := (h.2.2.1).1
theorem c1_a0 {I : Im} {G : Gm} {a : Nat} (h : isC1 G a) : ar (I, G) (a + 1) 1 42 := ⟨Nat.lt_of_lt_of_le (Nat.add_lt_add_left (by decide) a) (h.1), (h.2.2.1).2⟩
theorem c1_p1 {I : Im} {G : Gm} {a : Nat} (h : isC1 G a) : mP (I, G) a 1 = some (a + 2) := (h.2.2.2.1).1
theorem c1_a1 {I : Im} {G : Gm} {a : Nat} (h : isC1 G a) : ar (I, G) (a + 2) 1 42 := ⟨Nat.lt_of_lt_of_le (Nat.add_lt_add_left (by decide) a) (h.1), (h.2.2.2.1).2⟩
theorem c1_p2 {I : Im} {G : Gm} {a : Nat} (h : isC1 G a) : mP (I, G) a 2 = some (a + 3) := (h.2.2.2.2.1).1
theorem c1_a2 {I : Im} {G : Gm} {a : Nat} (h : isC1 G a) : ar (I, G) (a + 3) 1 42 := ⟨Nat.lt_of_lt_of_le (Nat.add_lt_add_left (by decide) a) (h.1), (h.2.2.2.2.1).2⟩
theorem c1_p3 {I : Im} {G : Gm} {a : Nat} (h : isC1 G a) : mP (I, G) a 3 = some (a + 4) := (h.2.2.2.2.2.1).1
theorem c1_a3 {I : Im} {G : Gm} {a : Nat} (h : isC1 G a) : ar (I, G) (a + 4) 1 42 := ⟨Nat.lt_of_lt_of_le (Nat.add_lt_add_left (by decide) a) (h.1), (h.2.2.2.2.2.1).2⟩
theorem c1_p4 {I : Im} {G : Gm} {a : Nat} (h : isC1 G a) : mP (I, G) a 4 = some (a + 5) := (h.2.2.2.2.2.2.1).1
theorem c1_a4 {I : Im} {G : Gm} {a : Nat} (h : isC1 G a) : ar (I, G) (a + 5) 1 42 := ⟨Nat.lt_of_lt_of_le (Nat.add_lt_add_left (by decide) a) (h.1), (h.2.2.2.2.2.2.1).2⟩
theorem c1_p5 {I : Im} {G : Gm} {a : Nat} (h : isC1 G a) : mP (I, G) a 5 = some (a + 6) := (h.2.2.2.2.2.2.2).1
theorem c1_a5 {I : Im} {G : Gm} {a : Nat} (h : isC1 G a) : ar (I, G) (a + 6) 1 42 := ⟨Nat.lt_of_lt_of_le (Nat.add_lt_add_left (by decide) a) (h.1), (h.2.2.2.2.2.2.2).2⟩
def isC2 (G : Gm) (a : Nat) : Prop := a + 2 ≤ G.2.2.2 ∧ G.2.2.1 a = (0, 2) ∧ (G.1 a 0 = some (a + 1) ∧ G.2.2.1 (a + 1) = (1, 8))
theorem c2_n {G : Gm} {a : Nat} (h : isC2 G a) : a + 2 ≤ G.2.2.2 := h.1
theorem c2_o {I : Im} {G : Gm} {a : Nat} (h : isC2 G a) : ob (I, G) a 2 := ⟨Nat.lt_of_lt_of_le (Nat.lt_add_of_pos_right (by decide)) (h.1), h.2.1⟩
theorem c2_p0 {I : Im} {G : Gm} {a : Nat} (h : isC2 G a) : mP (I, G) a 0 = some (a + 1) := (h.2.2).1
theorem c2_a0 {I : Im} {G : Gm} {a : Nat} (h : isC2 G a) : ar (I, G) (a + 1) 1 8 := ⟨Nat.lt_of_lt_of_le (Nat.add_lt_add_left (by decide) a) (h.1), (h.2.2).2⟩
def isC3 (G : Gm) (a : Nat) : Prop := a + 2 ≤ G.2.2.2 ∧ G.2.2.1 a = (0, 3) ∧ (G.1 a 0 = some (a + 1) ∧ G.2.2.1 (a + 1) = (1, 4100))
theorem c3_n {G : Gm} {a : Nat} (h : isC3 G a) : a + 2 ≤ G.2.2.2 := h.1
theorem c3_o {I : Im} {G : Gm} {a : Nat} (h : isC3 G a) : ob (I, G) a 3 := ⟨Nat.lt_of_lt_of_le (Nat.lt_add_of_pos_right (by decide)) (h.1), h.2.1⟩
theorem c3_p0 {I : Im} {G : Gm} {a : Nat} (h : isC3 G a) : mP (I, G) a 0 = some (a + 1) := (h.2.2).1
theorem c3_a0 {I : Im} {G : Gm} {a : Nat} (h : isC3 G a) : ar (I, G) (a + 1) 1 4100 := ⟨Nat.lt_of_lt_of_le (Nat.add_lt_add_left (by decide) a) (h.1), (h.2.2).2⟩
def isC4 (G : Gm) (a : Nat) : Prop := a + 131 ≤ G.2.2.2 ∧ G.2.2.1 a = (0, 4) ∧ (G.1 a 0 = some (a + 1) ∧ G.2.2.1 (a + 1) = (1, 8)) ∧ (G.1 a 1 = some (a + 2) ∧ G.2.2.1 (a + 2) = (6, 128) ∧ ∀ i, i < 128 → G.1 (a + 2) i = some (a + 2 + 1 + i) ∧ G.2.2.1 (a + 2 + 1 + i) = (1, 8))
theorem c4_n {G : Gm} {a : Nat} (h : isC4 G a) : a + 131 ≤ G.2.2.2 := h.1
theorem c4_o {I : Im} {G : Gm} {a : Nat} (h : isC4 G a) : ob (I, G) a 4 := ⟨Nat.lt_of_lt_of_le (Nat.lt_add_of_pos_right (by decide)) (h.1), h.2.1⟩
theorem c4_p0 {I : Im} {G : Gm} {a : Nat} (h : isC4 G a) : mP (I, G) a 0 = some (a + 1) := (h.2.2.1).1
theorem c4_a0 {I : Im} {G : Gm} {a : Nat} (h : isC4 G a) : ar (I, G) (a + 1) 1 8 := ⟨Nat.lt_of_lt_of_le (Nat.add_lt_add_left (by decide) a) (h.1), (h.2.2.1).2⟩
theorem c4_p1 {I : Im} {G : Gm} {a : Nat} (h : isC4 G a) : mP (I, G) a 1 = some (a + 2) := (h.2.2.2).1
theorem c4_a1 {I : Im} {G : Gm} {a : Nat} (h : isC4 G a) : ar (I, G) (a + 2) 6 128 := ⟨Nat.lt_of_lt_of_le (Nat.add_lt_add_left (by decide) a) (h.1), (h.2.2.2).2.1⟩
theorem c4_q1 {I : Im} {G : Gm} {a i : Nat} (h : isC4 G a) (hi : i < 128) : mP (I, G) (a + 2) i = some (a + 2 + 1 + i) := ((h.2.2.2).2.2 i hi).1
theorem c4_r1 {I : Im} {G : Gm} {a i : Nat} (h : isC4 G a) (hi : i < 128) : ar (I, G) (a + 2 + 1 + i) 1 8 := ⟨by have := h.1; show a + 2 + 1 + i < G.2.2.2; omega, ((h.2.2.2).2.2 i hi).2⟩
def isC5 (G : Gm) (a : Nat) : Prop := a + 44 ≤ G.2.2.2 ∧ G.2.2.1 a = (0, 5) ∧ (G.1 a 1 = some (a + 1) ∧ isC7 G (a + 1)) ∧ (G.1 a 2 = some (a + 2) ∧ G.2.2.1 (a + 2) = (1, 8)) ∧ (G.1 a 3 = some (a + 3) ∧ G.2.2.1 (a + 3) = (6, 8) ∧ ∀ i, i < 8 → G.1 (a + 3) i = some (a + 3 + 1 + i) ∧ G.2.2.1 (a + 3 + 1 + i) = (1, 42)) ∧ (G.1 a 4 = some (a + 12) ∧ G.2.2.1 (a + 12) = (6, 8) ∧ ∀ i, i < 8 → G.1 (a + 12) i = some (a + 12 + 1 + i) ∧ G.2.2.1 (a + 12 + 1 + i) = (1, 42)) ∧ (G.1 a 5 = some (a + 21) ∧ G.2.2.1 (a + 21) = (6, 8) ∧ ∀ i, i < 8 → G.1 (a + 21) i = some (a + 21 + 1 + i) ∧ G.2.2.1 (a + 21 + 1 + i) = (1, 42)) ∧ (G.1 a 6 = some (a + 30) ∧ G.2.2.1 (a + 30) = (6, 8) ∧ ∀ i, i < 8 → G.1 (a + 30) i = some (a + 30 + 1 + i) ∧ G.2.2.1 (a + 30 + 1 + i) = (1, 42)) ∧ (G.1 a 7 = some (a + 39) ∧ G.2.2.1 (a + 39) = (1, 8)) ∧ (G.1 a 8 = some (a + 40) ∧ G.2.2.1 (a + 40) = (1, 8)) ∧ (G.1 a 9 = some (a + 41) ∧ G.2.2.1 (a + 41) = (1, 8)) ∧ (G.1 a 10 = some (a + 42) ∧ G.2.2.1 (a + 42) = (1, 8)) ∧ (G.1 a 11 = some (a + 43) ∧ G.2.2.1 (a + 43) = (1, 8))
theorem c5_n {G : Gm} {a : Nat} (h : isC5 G a) : a + 44 ≤ G.2.2.2 := h.1
theorem c5_o {I : Im} {G : Gm} {a : Nat} (h : isC5 G a) : ob (I, G) a 5 := ⟨Nat.lt_of_lt_of_le (Nat.lt_add_of_pos_right (by decide)) (h.1), h.2.1⟩
theorem c5_p1 {I : Im} {G : Gm} {a : Nat} (h : isC5 G a) : mP (I, G) a 1 = some (a + 1) := (h.2.2.1).1
theorem c5_s1 {G : Gm} {a : Nat} (h : isC5 G a) : isC7 G (a + 1) := (h.2.2.1).2
theorem c5_p2 {I : Im} {G : Gm} {a : Nat} (h : isC5 G a) : mP (I, G) a 2 = some (a + 2) := (h.2.2.2.1).1
theorem c5_a2 {I : Im} {G : Gm} {a : Nat} (h : isC5 G a) : ar (I, G) (a + 2) 1 8 := ⟨Nat.lt_of_lt_of_le (Nat.add_lt_add_left (by decide) a) (h.1), (h.2.2.2.1).2⟩
theorem c5_p3 {I : Im} {G : Gm} {a : Nat} (h : isC5 G a) : mP (I, G) a 3 = some (a + 3) := (h.2.2.2.2.1).1
theorem c5_a3 {I : Im} {G : Gm} {a : Nat} (h : isC5 G a) : ar (I, G) (a + 3) 6 8 := ⟨Nat.lt_of_lt_of_le (Nat.add_lt_add_left (by decide) a) (h.1), (h.2.2.2.2.1).2.1⟩
theorem c5_q3 {I : Im} {G : Gm} {a i : Nat} (h : isC5 G a) (hi : i < 8) : mP (I, G) (a + 3) i = some (a + 3 + 1 + i) := ((h.2.2.2.2.1).2.2 i hi).1
theorem c5_r3 {I : Im} {G : Gm} {a i : Nat} (h : isC5 G a) (hi : i < 8) : ar (I, G) (a + 3 + 1 + i) 1 42 := ⟨by have := h.1; show a + 3 + 1 + i < G.2.2.2; omega, ((h.2.2.2.2.1).2.2 i hi).2⟩
theorem c5_p4 {I : Im} {G : Gm} {a : Nat} (h : isC5 G a) : mP (I, G) a 4 = some (a + 12) := (h.2.2.2.2.2.1).1
theorem c5_a4 {I : Im} {G : Gm} {a : Nat} (h : isC5 G a) : ar (I, G) (a + 12) 6 8 := ⟨Nat.lt_of_lt_of_le (Nat.add_lt_add_left (by decide) a) (h.1), (h.2.2.2.2.2.1).2.1⟩
theorem c5_q4 {I : Im} {G : Gm} {a i : Nat} (h : isC5 G a) (hi : i < 8) : mP (I, G) (a + 12) i = some (a + 12 + 1 + i) := ((h.2.2.2.2.2.1).2.2 i hi).1
theorem c5_r4 {I : Im} {G : Gm} {a i : Nat} (h : isC5 G a) (hi : i < 8) : ar (I, G) (a + 12 + 1 + i) 1 42 := ⟨by have := h.1; show a + 12 + 1 + i < G.2.2.2; omega, ((h.2.2.2.2.2.1).2.2 i hi).2⟩
theorem c5_p5 {I : Im} {G : Gm} {a : Nat} (h : isC5 G a) : mP (I, G) a 5 = some (a + 21) := (h.2.2.2.2.2.2.1).1
theorem c5_a5 {I : Im} {G : Gm} {a : Nat} (h : isC5 G a) : ar (I, G) (a + 21) 6 8 := ⟨Nat.lt_of_lt_of_le (Nat.add_lt_add_left (by decide) a) (h.1), (h.2.2.2.2.2.2.1).2.1⟩
theorem c5_q5 {I : Im} {G : Gm} {a i : Nat} (h : isC5 G a) (hi : i < 8) : mP (I, G) (a + 21) i = some (a + 21 + 1 + i) := ((h.2.2.2.2.2.2.1).2.2 i hi).1
theorem c5_r5 {I : Im} {G : Gm} {a i : Nat} (h : isC5 G a) (hi : i < 8) : ar (I, G) (a + 21 + 1 + i) 1 42 := ⟨by have := h.1; show a + 21 + 1 + i < G.2.2.2; omega, ((h.2.2.2.2.2.2.1).2.2 i hi).2⟩
theorem c5_p6 {I : Im} {G : Gm} {a : Nat} (h : isC5 G a) : mP (I, G) a 6 = some (a + 30) := (h.2.2.2.2.2.2.2.1).1
theorem c5_a6 {I : Im} {G : Gm} {a : Nat} (h : isC5 G a) : ar (I, G) (a + 30) 6 8 := ⟨Nat.lt_of_lt_of_le (Nat.add_lt_add_left (by decide) a) (h.1), (h.2.2.2.2.2.2.2.1).2.1⟩
theorem c5_q6 {I : Im} {G : Gm} {a i : Nat} (h : isC5 G a) (hi : i < 8) : mP (I, G) (a + 30) i = some (a + 30 + 1 + i) := ((h.2.2.2.2.2.2.2.1).2.2 i hi).1
theorem c5_r6 {I : Im} {G : Gm} {a i : Nat} (h : isC5 G a) (hi : i < 8) : ar (I, G) (a + 30 + 1 + i) 1 42 := ⟨by have := h.1; show a + 30 + 1 + i < G.2.2.2; omega, ((h.2.2.2.2.2.2.2.1).2.2 i hi).2⟩
theorem c5_p7 {I : Im} {G : Gm} {a : Nat} (h : isC5 G a) : mP (I, G) a 7 = some (a + 39) := (h.2.2.2.2.2.2.2.2.1).1
theorem c5_a7 {I : Im} {G : Gm} {a : Nat} (h : isC5 G a) : ar (I, G) (a + 39) 1 8 := ⟨Nat.lt_of_lt_of_le (Nat.add_lt_add_left (by decide) a) (h.1), (h.2.2.2.2.2.2.2.2.1).2⟩
theorem c5_p8 {I : Im} {G : Gm} {a : Nat} (h : isC5 G a) : mP (I, G) a 8 = some (a + 40) := (h.2.2.2.2.2.2.2.2.2.1).1
theorem c5_a8 {I : Im} {G : Gm} {a : Nat} (h : isC5 G a) : ar (I, G) (a + 40) 1 8 := ⟨Nat.lt_of_lt_of_le (Nat.add_lt_add_left (by decide) a) (h.1), (h.2.2.2.2.2.2.2.2.2.1).2⟩
theorem c5_p9 {I : Im} {G : Gm} {a : Nat} (h : isC5 G a) : mP (I, G) a 9 = some (a + 41) := (h.2.2.2.2.2.2.2.2.2.2.1).1
theorem c5_a9 {I : Im} {G : Gm} {a : Nat} (h : isC5 G a) : ar (I, G) (a + 41) 1 8 := ⟨Nat.lt_of_lt_of_le (Nat.add_lt_add_left (by decide) a) (h.1), (h.2.2.2.2.2.2.2.2.2.2.1).2⟩
theorem c5_p10 {I : Im} {G : Gm} {a : Nat} (h : isC5 G a) : mP (I, G) a 10 = some (a + 42) := (h.2.2.2.2.2.2.2.2.2.2.2.1).1
theorem c5_a10 {I : Im} {G : Gm} {a : Nat} (h : isC5 G a) : ar (I, G) (a + 42) 1 8 := ⟨Nat.lt_of_lt_of_le (Nat.add_lt_add_left (by decide) a) (h.1), (h.2.2.2.2.2.2.2.2.2.2.2.1).2⟩
theorem c5_p11 {I : Im} {G : Gm} {a : Nat} (h : isC5 G a) : mP (I, G) a 11 = some (a + 43) := (h.2.2.2.2.2.2.2.2.2.2.2.2).1
theorem c5_a11 {I : Im} {G : Gm} {a : Nat} (h : isC5 G a) : ar (I, G) (a + 43) 1 8 := ⟨Nat.lt_of_lt_of_le (Nat.add_lt_add_left (by decide) a) (h.1), (h.2.2.2.2.2.2.2.2.2.2.2.2).2⟩
def isC6 (G : Gm) (a : Nat) : Prop := a + 2 ≤ G.2.2.2 ∧ G.2.2.1 a = (0, 6) ∧ (G.1 a 0 = some (a + 1) ∧ G.2.2.1 (a + 1) = (1, 300))
theorem c6_n {G : Gm} {a : Nat} (h : isC6 G a) : a + 2 ≤ G.2.2.2 := h.1
theorem c6_o {I : Im} {G : Gm} {a : Nat} (h : isC6 G a) : ob (I, G) a 6 := ⟨Nat.lt_of_lt_of_le (Nat.lt_add_of_pos_right (by decide)) (h.1), h.2.1⟩
theorem c6_p0 {I : Im} {G : Gm} {a : Nat} (h : isC6 G a) : mP (I, G) a 0 = some (a + 1) := (h.2.2).1
theorem c6_a0 {I : Im} {G : Gm} {a : Nat} (h : isC6 G a) : ar (I, G) (a + 1) 1 300 := ⟨Nat.lt_of_lt_of_le (Nat.add_lt_add_left (by decide) a) (h.1), (h.2.2).2⟩
def isC8 (G : Gm) (a : Nat) : Prop := a + 18 ≤ G.2.2.2 ∧ G.2.2.1 a = (0, 8) ∧ (G.1 a 2 = some (a + 1) ∧ G.2.2.1 (a + 1) = (1, 8)) ∧ (G.1 a 3 = some (a + 2) ∧ G.2.2.1 (a + 2) = (1, 8)) ∧ (G.1 a 4 = some (a + 3) ∧ G.2.2.1 (a + 3) = (1, 8)) ∧ (G.1 a 5 = some (a + 4) ∧ G.2.2.1 (a + 4) = (1, 8)) ∧ (G.1 a 6 = some (a + 5) ∧ G.2.2.1 (a + 5) = (6, 8) ∧ ∀ i, i < 8 → G.1 (a + 5) i = some (a + 5 + 1 + i) ∧ G.2.2.1 (a + 5 + 1 + i) = (1, 42)) ∧ (G.1 a 7 = some (a + 14) ∧ isC7 G (a + 14)) ∧ (G.1 a 8 = some (a + 15) ∧ G.2.2.1 (a + 15) = (1, 8)) ∧ (G.1 a 9 = some (a + 16) ∧ G.2.2.1 (a + 16) = (1, 8)) ∧ (G.1 a 10 = some (a + 17) ∧ G.2.2.1 (a + 17) = (1, 128))
theorem c8_n {G : Gm} {a : Nat} (h : isC8 G a) : a + 18 ≤ G.2.2.2 := h.1
theorem c8_o {I : Im} {G : Gm} {a : Nat} (h : isC8 G a) : ob (I, G) a 8 := ⟨Nat.lt_of_lt_of_le (Nat.lt_add_of_pos_right (by decide)) (h.1), h.2.1⟩
theorem c8_p2 {I : Im} {G : Gm} {a : Nat} (h : isC8 G a) : mP (I, G) a 2 = some (a + 1) := (h.2.2.1).1
theorem c8_a2 {I : Im} {G : Gm} {a : Nat} (h : isC8 G a) : ar (I, G) (a + 1) 1 8 := ⟨Nat.lt_of_lt_of_le (Nat.add_lt_add_left (by decide) a) (h.1), (h.2.2.1).2⟩
theorem c8_p3 {I : Im} {G : Gm} {a : Nat} (h : isC8 G a) : mP (I, G) a 3 = some (a + 2) := (h.2.2.2.1).1
theorem c8_a3 {I : Im} {G : Gm} {a : Nat} (h : isC8 G a) : ar (I, G) (a + 2) 1 8 := ⟨Nat.lt_of_lt_of_le (Nat.add_lt_add_left (by decide) a) (h.1), (h.2.2.2.1).2⟩
theorem c8_p4 {I : Im} {G : Gm} {a : Nat} (h : isC8 G a) : mP (I, G) a 4 = some (a + 3) := (h.2.2.2.2.1).1
theorem c8_a4 {I : Im} {G : Gm} {a : Nat} (h : isC8 G a) : ar (I, G) (a + 3) 1 8 := ⟨Nat.lt_of_lt_of_le (Nat.add_lt_add_left (by decide) a) (h.1), (h.2.2.2.2.1).2⟩
theorem c8_p5 {I : Im} {G : Gm} {a : Nat} (h : isC8 G a) : mP (I, G) a 5 = some (a + 4) := (h.2.2.2.2.2.1).1
theorem c8_a5 {I : Im} {G : Gm} {a : Nat} (h : isC8 G a) : ar (I, G) (a + 4) 1 8 := ⟨Nat.lt_of_lt_of_le (Nat.add_lt_add_left (by decide) a) (h.1), (h.2.2.2.2.2.1).2⟩
theorem c8_p6 {I : Im} {G : Gm} {a : Nat} (h : isC8 G a) : mP (I, G) a 6 = some (a + 5) := (h.2.2.2.2.2.2.1).1
theorem c8_a6 {I : Im} {G : Gm} {a : Nat} (h : isC8 G a) : ar (I, G) (a + 5) 6 8 := ⟨Nat.lt_of_lt_of_le (Nat.add_lt_add_left (by decide) a) (h.1), (h.2.2.2.2.2.2.1).2.1⟩
theorem c8_q6 {I : Im} {G : Gm} {a i : Nat} (h : isC8 G a) (hi : i < 8) : mP (I, G) (a + 5) i = some (a + 5 + 1 + i) := ((h.2.2.2.2.2.2.1).2.2 i hi).1
theorem c8_r6 {I : Im} {G : Gm} {a i : Nat} (h : isC8 G a) (hi : i < 8) : ar (I, G) (a + 5 + 1 + i) 1 42 := ⟨by have := h.1; show a + 5 + 1 + i < G.2.2.2; omega, ((h.2.2.2.2.2.2.1).2.2 i hi).2⟩
theorem c8_p7 {I : Im} {G : Gm} {a : Nat} (h : isC8 G a) : mP (I, G) a 7 = some (a + 14) := (h.2.2.2.2.2.2.2.1).1
theorem c8_s7 {G : Gm} {a : Nat} (h : isC8 G a) : isC7 G (a + 14) := (h.2.2.2.2.2.2.2.1).2
theorem c8_p8 {I : Im} {G : Gm} {a : Nat} (h : isC8 G a) : mP (I, G) a 8 = some (a + 15) := (h.2.2.2.2.2.2.2.2.1).1
theorem c8_a8 {I : Im} {G : Gm} {a : Nat} (h : isC8 G a) : ar (I, G) (a + 15) 1 8 := ⟨Nat.lt_of_lt_of_le (Nat.add_lt_add_left (by decide) a) (h.1), (h.2.2.2.2.2.2.2.2.1).2⟩
theorem c8_p9 {I : Im} {G : Gm} {a : Nat} (h : isC8 G a) : mP (I, G) a 9 = some (a + 16) := (h.2.2.2.2.2.2.2.2.2.1).1
theorem c8_a9 {I : Im} {G : Gm} {a : Nat} (h : isC8 G a) : ar (I, G) (a + 16) 1 8 := ⟨Nat.lt_of_lt_of_le (Nat.add_lt_add_left (by decide) a) (h.1), (h.2.2.2.2.2.2.2.2.2.1).2⟩
theorem c8_p10 {I : Im} {G : Gm} {a : Nat} (h : isC8 G a) : mP (I, G) a 10 = some (a + 17) := (h.2.2.2.2.2.2.2.2.2.2).1
theorem c8_a10 {I : Im} {G : Gm} {a : Nat} (h : isC8 G a) : ar (I, G) (a + 17) 1 128 := ⟨Nat.lt_of_lt_of_le (Nat.add_lt_add_left (by decide) a) (h.1), (h.2.2.2.2.2.2.2.2.2.2).2⟩
def isC9 (G : Gm) (a : Nat) : Prop := a + 256 ≤ G.2.2.2 ∧ G.2.2.1 a = (0, 9) ∧ (G.1 a 0 = some (a + 1) ∧ isC6 G (a + 1)) ∧ (G.1 a 1 = some (a + 3) ∧ G.2.2.1 (a + 3) = (5, 10)) ∧ (G.1 a 4 = some (a + 22) ∧ isC7 G (a + 22)) ∧ (G.1 a 5 = some (a + 23) ∧ isC5 G (a + 23)) ∧ (G.1 a 6 = some (a + 67) ∧ isC5 G (a + 67)) ∧ (G.1 a 7 = some (a + 111) ∧ isC2 G (a + 111)) ∧ (G.1 a 8 = some (a + 113) ∧ isC3 G (a + 113)) ∧ (G.1 a 9 = some (a + 115) ∧ isC1 G (a + 115)) ∧ (G.1 a 10 = some (a + 122) ∧ isC4 G (a + 122)) ∧ (G.1 a 11 = some (a + 253) ∧ isC0 G (a + 253))
theorem c9_n {G : Gm} {a : Nat} (h : isC9 G a) : a + 256 ≤ G.2.2.2 := h.1
theorem c9_o {I : Im} {G : Gm} {a : Nat} (h : isC9 G a) : ob (I, G) a 9 := ⟨Nat.lt_of_lt_of_le (Nat.lt_add_of_pos_right (by decide)) (h.1), h.2.1⟩
theorem c9_p0 {I : Im} {G : Gm} {a : Nat} (h : isC9 G a) : mP (I, G) a 0 = some (a + 1) := (h.2.2.1).1
theorem c9_s0 {G : Gm} {a : Nat} (h : isC9 G a) : isC6 G (a + 1) := (h.2.2.1).2
theorem c9_p1 {I : Im} {G : Gm} {a : Nat} (h : isC9 G a) : mP (I, G) a 1 = some (a + 3) := (h.2.2.2.1).1
theorem c9_a1 {I : Im} {G : Gm} {a : Nat} (h : isC9 G a) : ar (I, G) (a + 3) 5 10 := ⟨Nat.lt_of_lt_of_le (Nat.add_lt_add_left (by decide) a) (h.1), (h.2.2.2.1).2⟩
theorem c9_p4 {I : Im} {G : Gm} {a : Nat} (h : isC9 G a) : mP (I, G) a 4 = some (a + 22) := (h.2.2.2.2.1).1
theorem c9_s4 {G : Gm} {a : Nat} (h : isC9 G a) : isC7 G (a + 22) := (h.2.2.2.2.1).2
theorem c9_p5 {I : Im} {G : Gm} {a : Nat} (h : isC9 G a) : mP (I, G) a 5 = some (a + 23) := (h.2.2.2.2.2.1).1
theorem c9_s5 {G : Gm} {a : Nat} (h : isC9 G a) : isC5 G (a + 23) := (h.2.2.2.2.2.1).2
theorem c9_p6 {I : Im} {G : Gm} {a : Nat} (h : isC9 G a) : mP (I, G) a 6 = some (a + 67) := (h.2.2.2.2.2.2.1).1
theorem c9_s6 {G : Gm} {a : Nat} (h : isC9 G a) : isC5 G (a + 67) := (h.2.2.2.2.2.2.1).2
theorem c9_p7 {I : Im} {G : Gm} {a : Nat} (h : isC9 G a) : mP (I, G) a 7 = some (a + 111) := (h.2.2.2.2.2.2.2.1).1
theorem c9_s7 {G : Gm} {a : Nat} (h : isC9 G a) : isC2 G (a + 111) := (h.2.2.2.2.2.2.2.1).2
theorem c9_p8 {I : Im} {G : Gm} {a : Nat} (h : isC9 G a) : mP (I, G) a 8 = some (a + 113) := (h.2.2.2.2.2.2.2.2.1).1
theorem c9_s8 {G : Gm} {a : Nat} (h : isC9 G a) : isC3 G (a + 113) := (h.2.2.2.2.2.2.2.2.1).2
theorem c9_p9 {I : Im} {G : Gm} {a : Nat} (h : isC9 G a) : mP (I, G) a 9 = some (a + 115) := (h.2.2.2.2.2.2.2.2.2.1).1
theorem c9_s9 {G : Gm} {a : Nat} (h : isC9 G a) : isC1 G (a + 115) := (h.2.2.2.2.2.2.2.2.2.1).2
theorem c9_p10 {I : Im} {G : Gm} {a : Nat} (h : isC9 G a) : mP (I, G) a 10 = some (a + 122) := (h.2.2.2.2.2.2.2.2.2.2.1).1
theorem c9_s10 {G : Gm} {a : Nat} (h : isC9 G a) : isC4 G (a + 122) := (h.2.2.2.2.2.2.2.2.2.2.1).2
theorem c9_p11 {I : Im} {G : Gm} {a : Nat} (h : isC9 G a) : mP (I, G) a 11 = some (a + 253) := (h.2.2.2.2.2.2.2.2.2.2.2).1
theorem c9_s11 {G : Gm} {a : Nat} (h : isC9 G a) : isC0 G (a + 253) := (h.2.2.2.2.2.2.2.2.2.2.2).2
def isC10 (G : Gm) (a : Nat) : Prop := a + 25 ≤ G.2.2.2 ∧ G.2.2.1 a = (0, 10) ∧ (G.1 a 1 = some (a + 1) ∧ G.2.2.1 (a + 1) = (2, 300)) ∧ (G.1 a 6 = some (a + 2) ∧ G.2.2.1 (a + 2) = (1, 11)) ∧ (G.1 a 7 = some (a + 3) ∧ G.2.2.1 (a + 3) = (1, 88)) ∧ (G.1 a 8 = some (a + 4) ∧ G.2.2.1 (a + 4) = (1, 88)) ∧ (G.1 a 9 = some (a + 5) ∧ G.2.2.1 (a + 5) = (1, 88)) ∧ (G.1 a 10 = some (a + 6) ∧ G.2.2.1 (a + 6) = (1, 11)) ∧ (G.1 a 11 = some (a + 7) ∧ G.2.2.1 (a + 7) = (1, 220)) ∧ (G.1 a 12 = some (a + 8) ∧ G.2.2.1 (a + 8) = (1, 220)) ∧ (G.1 a 13 = some (a + 9) ∧ G.2.2.1 (a + 9) = (1, 220)) ∧ (G.1 a 14 = some (a + 10) ∧ G.2.2.1 (a + 10) = (1, 11)) ∧ (G.1 a 15 = some (a + 11) ∧ G.2.2.1 (a + 11) = (1, 11)) ∧ (G.1 a 16 = some (a + 12) ∧ G.2.2.1 (a + 12) = (1, 88)) ∧ (G.1 a 17 = some (a + 13) ∧ G.2.2.1 (a + 13) = (1, 88)) ∧ (G.1 a 18 = some (a + 14) ∧ G.2.2.1 (a + 14) = (3, 11)) ∧ (G.1 a 19 = some (a + 15) ∧ G.2.2.1 (a + 15) = (3, 11)) ∧ (G.1 a 26 = some (a + 16) ∧ G.2.2.1 (a + 16) = (1, 4160)) ∧ (G.1 a 27 = some (a + 17) ∧ G.2.2.1 (a + 17) = (1, 4160)) ∧ (G.1 a 28 = some (a + 18) ∧ G.2.2.1 (a + 18) = (3, 4160)) ∧ (G.1 a 29 = some (a + 19) ∧ G.2.2.1 (a + 19) = (1, 8)) ∧ (G.1 a 30 = some (a + 20) ∧ G.2.2.1 (a + 20) = (1, 8)) ∧ (G.1 a 33 = some (a + 21) ∧ G.2.2.1 (a + 21) = (1, 1764)) ∧ (G.1 a 34 = some (a + 22) ∧ G.2.2.1 (a + 22) = (1, 1764)) ∧ (G.1 a 35 = some (a + 23) ∧ G.2.2.1 (a + 23) = (1, 12)) ∧ (G.1 a 36 = some (a + 24) ∧ G.2.2.1 (a + 24) = (1, 12))
theorem c10_n {G : Gm} {a : Nat} (h : isC10 G a) : a + 25 ≤ G.2.2.2 := h.1
theorem c10_o {I : Im} {G : Gm} {a : Nat} (h : isC10 G a) : ob (I, G) a 10 := ⟨Nat.lt_of_lt_of_le (Nat.lt_add_of_pos_right (by decide)) (h.1), h.2.1⟩
theorem c10_p1 {I : Im} {G : Gm} {a : Nat} (h : isC10 G a) : mP (I, G) a 1 = some (a + 1) := (h.2.2.1).1
theorem c10_a1 {I : Im} {G : Gm} {a : Nat} (h : isC10 G a) : ar (I, G) (a + 1) 2 300 := ⟨Nat.lt_of_lt_of_le (Nat.add_lt_add_left (by decide) a) (h.1), (h.2.2.1).2⟩
theorem c10_p6 {I : Im} {G : Gm} {a : Nat} (h : isC10 G a) : mP (I, G) a 6 = some (a + 2) := (h.2.2.2.1).1
theorem c10_a6 {I : Im} {G : Gm} {a : Nat} (h : isC10 G a) : ar (I, G) (a + 2) 1 11 := ⟨Nat.lt_of_lt_of_le (Nat.add_lt_add_left (by decide) a) (h.1), (h.2.2.2.1).2⟩
theorem c10_p7 {I : Im} {G : Gm} {a : Nat} (h : isC10 G a) : mP (I, G) a 7 = some (a + 3) := (h.2.2.2.2.1).1
theorem c10_a7 {I : Im} {G : Gm} {a : Nat} (h : isC10 G a) : ar (I, G) (a + 3) 1 88 := ⟨Nat.lt_of_lt_of_le (Nat.add_lt_add_left (by decide) a) (h.1), (h.2.2.2.2.1).2⟩
theorem c10_p8 {I : Im} {G : Gm} {a : Nat} (h : isC10 G a) : mP (I, G) a 8 = some (a + 4) := (h.2.2.2.2.2.1).1
theorem c10_a8 {I : Im} {G : Gm} {a : Nat} (h : isC10 G a) : ar (I, G) (a + 4) 1 88 := ⟨Nat.lt_of_lt_of_le (Nat.add_lt_add_left (by decide) a) (h.1), (h.2.2.2.2.2.1).2⟩
theorem c10_p9 {I : Im} {G : Gm} {a : Nat} (h : isC10 G a) : mP (I, G) a 9 = some (a + 5) := (h.2.2.2.2.2.2.1).1
theorem c10_a9 {I : Im} {G : Gm} {a : Nat} (h : isC10 G a) : ar (I, G) (a + 5) 1 88 := ⟨Nat.lt_of_lt_of_le (Nat.add_lt_add_left (by decide) a) (h.1), (h.2.2.2.2.2.2.1).2⟩
theorem c10_p10 {I : Im} {G : Gm} {a : Nat} (h : isC10 G a) : mP (I, G) a 10 = some (a + 6) := (h.2.2.2.2.2.2.2.1).1
theorem c10_a10 {I : Im} {G : Gm} {a : Nat} (h : isC10 G a) : ar (I, G) (a + 6) 1 11 := ⟨Nat.lt_of_lt_of_le (Nat.add_lt_add_left (by decide) a) (h.1), (h.2.2.2.2.2.2.2.1).2⟩
theorem c10_p11 {I : Im} {G : Gm} {a : Nat} (h : isC10 G a) : mP (I, G) a 11 = some (a + 7) := (h.2.2.2.2.2.2.2.2.1).1
theorem c10_a11 {I : Im} {G : Gm} {a : Nat} (h : isC10 G a) : ar (I, G) (a + 7) 1 220 := ⟨Nat.lt_of_lt_of_le (Nat.add_lt_add_left (by decide) a) (h.1), (h.2.2.2.2.2.2.2.2.1).2⟩
theorem c10_p12 {I : Im} {G : Gm} {a : Nat} (h : isC10 G a) : mP (I, G) a 12 = some (a + 8) := (h.2.2.2.2.2.2.2.2.2.1).1
theorem c10_a12 {I : Im} {G : Gm} {a : Nat} (h : isC10 G a) : ar (I, G) (a + 8) 1 220 := ⟨Nat.lt_of_lt_of_le (Nat.add_lt_add_left (by decide) a) (h.1), (h.2.2.2.2.2.2.2.2.2.1).2⟩
theorem c10_p13 {I : Im} {G : Gm} {a : Nat} (h : isC10 G a) : mP (I, G) a 13 = some (a + 9) := (h.2.2.2.2.2.2.2.2.2.2.1).1
theorem c10_a13 {I : Im} {G : Gm} {a : Nat} (h : isC10 G a) : ar (I, G) (a + 9) 1 220 := ⟨Nat.lt_of_lt_of_le (Nat.add_lt_add_left (by decide) a) (h.1), (h.2.2.2.2.2.2.2.2.2.2.1).2⟩
theorem c10_p14 {I : Im} {G : Gm} {a : Nat} (h : isC10 G a) : mP (I, G) a 14 = some (a + 10) := (h.2.2.2.2.2.2.2.2.2.2.2.1).1
theorem c10_a14 {I : Im} {G : Gm} {a : Nat} (h : isC10 G a) : ar (I, G) (a + 10) 1 11 := ⟨Nat.lt_of_lt_of_le (Nat.add_lt_add_left (by decide) a) (h.1), (h.2.2.2.2.2.2.2.2.2.2.2.1).2⟩
theorem c10_p15 {I : Im} {G : Gm} {a : Nat} (h : isC10 G a) : mP (I, G) a 15 = some (a + 11) := (h.2.2.2.2.2.2.2.2.2.2.2.2.1).1
theorem c10_a15 {I : Im} {G : Gm} {a : Nat} (h : isC10 G a) : ar (I, G) (a + 11) 1 11 := ⟨Nat.lt_of_lt_of_le (Nat.add_lt_add_left (by decide) a) (h.1), (h.2.2.2.2.2.2.2.2.2.2.2.2.1).2⟩
theorem c10_p16 {I : Im} {G : Gm} {a : Nat} (h : isC10 G a) : mP (I, G) a 16 = some (a + 12) := (h.2.2.2.2.2.2.2.2.2.2.2.2.2.1).1
theorem c10_a16 {I : Im} {G : Gm} {a : Nat} (h : isC10 G a) : ar (I, G) (a + 12) 1 88 := ⟨Nat.lt_of_lt_of_le (Nat.add_lt_add_left (by decide) a) (h.1), (h.2.2.2.2.2.2.2.2.2.2.2.2.2.1).2⟩
theorem c10_p17 {I : Im} {G : Gm} {a : Nat} (h : isC10 G a) : mP (I, G) a 17 = some (a + 13) := (h.2.2.2.2.2.2.2.2.2.2.2.2.2.2.1).1
theorem c10_a17 {I : Im} {G : Gm} {a : Nat} (h : isC10 G a) : ar (I, G) (a + 13) 1 88 := ⟨Nat.lt_of_lt_of_le (Nat.add_lt_add_left (by decide) a) (h.1), (h.2.2.2.2.2.2.2.2.2.2.2.2.2.2.1).2⟩
theorem c10_p18 {I : Im} {G : Gm} {a : Nat} (h : isC10 G a) : mP (I, G) a 18 = some (a + 14) := (h.2.2.2.2.2.2.2.2.2.2.2.2.2.2.2.1).1
theorem c10_a18 {I : Im} {G : Gm} {a : Nat} (h : isC10 G a) : ar (I, G) (a + 14) 3 11 := ⟨Nat.lt_of_lt_of_le (Nat.add_lt_add_left (by decide) a) (h.1), (h.2.2.2.2.2.2.2.2.2.2.2.2.2.2.2.1).2⟩
theorem c10_p19 {I : Im} {G : Gm} {a : Nat} (h : isC10 G a) : mP (I, G) a 19 = some (a + 15) := (h.2.2.2.2.2.2.2.2.2.2.2.2.2.2.2.2.1).1
theorem c10_a19 {I : Im} {G : Gm} {a : Nat} (h : isC10 G a) : ar (I, G) (a + 15) 3 11 := ⟨Nat.lt_of_lt_of_le (Nat.add_lt_add_left (by decide) a) (h.1), (h.2.2.2.2.2.2.2.2.2.2.2.2.2.2.2.2.1).2⟩
theorem c10_p26 {I : Im} {G : Gm} {a : Nat} (h : isC10 G a) : mP (I, G) a 26 = some (a + 16) := (h.2.2.2.2.2.2.2.2.2.2.2.2.2.2.2.2.2.1).1
theorem c10_a26 {I : Im} {G : Gm} {a : Nat} (h : isC10 G a) : ar (I, G) (a + 16) 1 4160 := ⟨Nat.lt_of_lt_of_le (Nat.add_lt_add_left (by decide) a) (h.1), (h.2.2.2.2.2.2.2.2.2.2.2.2.2.2.2.2.2.1).2⟩
theorem c10_p27 {I : Im} {G : Gm} {a : Nat} (h : isC10 G a) : mP (I, G) a 27 = some (a + 17) := (h.2.2.2.2.2.2.2.2.2.2.2.2.2.2.2.2.2.2.1).1
theorem c10_a27 {I : Im} {G : Gm} {a : Nat} (h : isC10 G a) : ar (I, G) (a + 17) 1 4160 := ⟨Nat.lt_of_lt_of_le (Nat.add_lt_add_left (by decide) a) (h.1), (h.2.2.2.2.2.2.2.2.2.2.2.2.2.2.2.2.2.2.1).2⟩
theorem c10_p28 {I : Im} {G : Gm} {a : Nat} (h : isC10 G a) : mP (I, G) a 28 = some (a + 18) := (h.2.2.2.2.2.2.2.2.2.2.2.2.2.2.2.2.2.2.2.1).1
theorem c10_a28 {I : Im} {G : Gm} {a : Nat} (h : isC10 G a) : ar (I, G) (a + 18) 3 4160 := ⟨Nat.lt_of_lt_of_le (Nat.add_lt_add_left (by decide) a) (h.1), (h.2.2.2.2.2.2.2.2.2.2.2.2.2.2.2.2.2.2.2.1).2⟩
theorem c10_p29 {I : Im} {G : Gm} {a : Nat} (h : isC10 G a) : mP (I, G) a 29 = some (a + 19) := (h.2.2.2.2.2.2.2.2.2.2.2.2.2.2.2.2.2.2.2.2.1).1
theorem c10_a29 {I : Im} {G : Gm} {a : Nat} (h : isC10 G a) : ar (I, G) (a + 19) 1 8 := ⟨Nat.lt_of_lt_of_le (Nat.add_lt_add_left (by decide) a) (h.1), (h.2.2.2.2.2.2.2.2.2.2.2.2.2.2.2.2.2.2.2.2.1).2⟩
theorem c10_p30 {I : Im} {G : Gm} {a : Nat} (h : isC10 G a) : mP (I, G) a 30 = some (a + 20) := (h.2.2.2.2.2.2.2.2.2.2.2.2.2.2.2.2.2.2.2.2.2.1).1
theorem c10_a30 {I : Im} {G : Gm} {a : Nat} (h : isC10 G a) : ar (I, G) (a + 20) 1 8 := ⟨Nat.lt_of_lt_of_le (Nat.add_lt_add_left (by decide) a) (h.1), (h.2.2.2.2.2.2.2.2.2.2.2.2.2.2.2.2.2.2.2.2.2.1).2⟩
theorem c10_p33 {I : Im} {G : Gm} {a : Nat} (h : isC10 G a) : mP (I, G) a 33 = some (a + 21) := (h.2.2.2.2.2.2.2.2.2.2.2.2.2.2.2.2.2.2.2.2.2.2.1).1
theorem c10_a33 {I : Im} {G : Gm} {a : Nat} (h : isC10 G a) : ar (I, G) (a + 21) 1 1764 := ⟨Nat.lt_of_lt_of_le (Nat.add_lt_add_left (by decide) a) (h.1), (h.2.2.2.2.2.2.2.2.2.2.2.2.2.2.2.2.2.2.2.2.2.2.1).2⟩
theorem c10_p34 {I : Im} {G : Gm} {a : Nat} (h : isC10 G a) : mP (I, G) a 34 = some (a + 22) := (h.2.2.2.2.2.2.2.2.2.2.2.2.2.2.2.2.2.2.2.2.2.2.2.1).1
theorem c10_a34 {I : Im} {G : Gm} {a : Nat} (h : isC10 G a) : ar (I, G) (a + 22) 1 1764 := ⟨Nat.lt_of_lt_of_le (Nat.add_lt_add_left (by decide) a) (h.1), (h.2.2.2.2.2.2.2.2.2.2.2.2.2.2.2.2.2.2.2.2.2.2.2.1).2⟩
theorem c10_p35 {I : Im} {G : Gm} {a : Nat} (h : isC10 G a) : mP (I, G) a 35 = some (a + 23) := (h.2.2.2.2.2.2.2.2.2.2.2.2.2.2.2.2.2.2.2.2.2.2.2.2.1).1
theorem c10_a35 {I : Im} {G : Gm} {a : Nat} (h : isC10 G a) : ar (I, G) (a + 23) 1 12 := ⟨Nat.lt_of_lt_of_le (Nat.add_lt_add_left (by decide) a) (h.1), (h.2.2.2.2.2.2.2.2.2.2.2.2.2.2.2.2.2.2.2.2.2.2.2.2.1).2⟩
theorem c10_p36 {I : Im} {G : Gm} {a : Nat} (h : isC10 G a) : mP (I, G) a 36 = some (a + 24) := (h.2.2.2.2.2.2.2.2.2.2.2.2.2.2.2.2.2.2.2.2.2.2.2.2.2).1
theorem c10_a36 {I : Im} {G : Gm} {a : Nat} (h : isC10 G a) : ar (I, G) (a + 24) 1 12 := ⟨Nat.lt_of_lt_of_le (Nat.add_lt_add_left (by decide) a) (h.1), (h.2.2.2.2.2.2.2.2.2.2.2.2.2.2.2.2.2.2.2.2.2.2.2.2.2).2⟩
