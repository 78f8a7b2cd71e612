/-! ===== the law: its script, its invariant ===== -/
def PL (n : Nat) (xs : Nat → Int32) : PT := fun l A s _ ex => (∃ b, ex = [(0, .ref b)] ∧ va_X b n xs s s.heap ∧ ¬ A b ∧ b < s.heap.size) ∧ TW l A s s.heap
theorem PL_ex {n : Nat} {xs : Nat → Int32} {i : Nat} (hi : i ≠ 0) : Pex (PL n xs) i := fun l A s c ex h q hq => by
  obtain ⟨⟨b, rfl, _⟩, _⟩ := h
  obtain rfl : q = (0, .ref b) := by simpa using hq
  exact ⟨fun z => hi z.symm, rfl⟩
theorem PL_tw {n : Nat} {xs : Nat → Int32} : ∀ l A s c ex, PL n xs l A s c ex → TW l A s s.heap := fun _ _ _ _ _ h => h.2
section SCR
variable {n : Nat} {xs : Nat → Int32} {E : Nat → Option Value → Prop} {d kc ks pc a k : Nat} {L : List (Option Value)} {st : List Value} {M : Mm} {Q : Option Value → Mm → Prop} {kz : Int}
theorem T_scr (hn : n ≤ 3584) (g0 : decode cL_law pc = .ok (.aload_n 0, 1)) (g1 : decode cL_law (pc + 1) = .ok (.iload 4, 2)) (g2 : decode cL_law (pc + 3) = .ok (.iconst kz, 1)) (g3 : decode cL_law (pc + 4) = .ok (.iadd, 1)) (g4 : decode cL_law (pc + 5) = .ok (.iaload, 1)) (hk : Int32.ofInt kz = nI k) (hl : L[4]? = some (some (.int (nI a)))) (hak : a + k < n) (kk : wpS (PL n xs) E d kc ks YL_law (pc + 6) L (.int (xs (a + k)) :: st) M Q) : wpS (PL n xs) E d kc ks YL_law pc L st M Q := by
  intro p l e R s m args below meth c D cA A ad H locs cells slots Qm ls ex C hP hlx h1 h2 h3 h4 V hL hS F
  have hP' := hP
  obtain ⟨⟨b, rfl, hX, hbA, hbl⟩, hT⟩ := hP'
  refine lv_aload_n C.1 C.2.1 g0 rfl (hlx (0, .ref b) List.mem_cons_self) ?_
  refine lv_iload C.1 C.2.1 g1 (hL.2.2 _ _ hl).1 ?_
  refine lv_iconst C.1 C.2.1 g2 hk ?_
  refine lv_iadd C.1 C.2.1 g3 ?_
  rw [nI_add]
  refine va_sld C.1 C.2.1 hX hbl hbA V.2.2.2.1 (vp_in_nI hak (by omega)) g4 ?_
  rw [nI_clamp (by omega)]
  exact kk p l e R s m args below meth c D cA A ad H locs cells slots Qm ls _ C hP hlx h1 h2 h3 h4 V hL (hS.cons trivial) F
theorem T_scr6 (hn : n ≤ 3584) (g0 : decode cL_law pc = .ok (.aload_n 0, 1)) (g1 : decode cL_law (pc + 1) = .ok (.iload 4, 2)) (g2 : decode cL_law (pc + 3) = .ok (.bipush kz, 2)) (g3 : decode cL_law (pc + 5) = .ok (.iadd, 1)) (g4 : decode cL_law (pc + 6) = .ok (.iaload, 1)) (hk : (Int8.ofInt kz).toInt32 = nI k) (hl : L[4]? = some (some (.int (nI a)))) (hak : a + k < n) (kk : wpS (PL n xs) E d kc ks YL_law (pc + 7) L (.int (xs (a + k)) :: st) M Q) : wpS (PL n xs) E d kc ks YL_law pc L st M Q := by
  intro p l e R s m args below meth c D cA A ad H locs cells slots Qm ls ex C hP hlx h1 h2 h3 h4 V hL hS F
  have hP' := hP
  obtain ⟨⟨b, rfl, hX, hbA, hbl⟩, hT⟩ := hP'
  refine lv_aload_n C.1 C.2.1 g0 rfl (hlx (0, .ref b) List.mem_cons_self) ?_
  refine lv_iload C.1 C.2.1 g1 (hL.2.2 _ _ hl).1 ?_
  refine lv_bipush C.1 C.2.1 g2 hk ?_
  refine lv_iadd C.1 C.2.1 g3 ?_
  rw [nI_add]
  refine va_sld C.1 C.2.1 hX hbl hbA V.2.2.2.1 (vp_in_nI hak (by omega)) g4 ?_
  rw [nI_clamp (by omega)]
  exact kk p l e R s m args below meth c D cA A ad H locs cells slots Qm ls _ C hP hlx h1 h2 h3 h4 V hL (hS.cons trivial) F
theorem T_scr0 (hn : n ≤ 3584) (g0 : decode cL_law pc = .ok (.aload_n 0, 1)) (g1 : decode cL_law (pc + 1) = .ok (.iload 4, 2)) (g4 : decode cL_law (pc + 3) = .ok (.iaload, 1)) (hl : L[4]? = some (some (.int (nI a)))) (hak : a < n) (kk : wpS (PL n xs) E d kc ks YL_law (pc + 4) L (.int (xs a) :: st) M Q) : wpS (PL n xs) E d kc ks YL_law pc L st M Q := by
  intro p l e R s m args below meth c D cA A ad H locs cells slots Qm ls ex C hP hlx h1 h2 h3 h4 V hL hS F
  have hP' := hP
  obtain ⟨⟨b, rfl, hX, hbA, hbl⟩, hT⟩ := hP'
  refine lv_aload_n C.1 C.2.1 g0 rfl (hlx (0, .ref b) List.mem_cons_self) ?_
  refine lv_iload C.1 C.2.1 g1 (hL.2.2 _ _ hl).1 ?_
  refine va_sld C.1 C.2.1 hX hbl hbA V.2.2.2.1 (vp_in_nI hak (by omega)) g4 ?_
  rw [nI_clamp (by omega)]
  exact kk p l e R s m args below meth c D cA A ad H locs cells slots Qm ls _ C hP hlx h1 h2 h3 h4 V hL (hS.cons trivial) F
theorem T_slen (g0 : decode cL_law pc = .ok (.aload_n 0, 1)) (g1 : decode cL_law (pc + 1) = .ok (.arraylength, 1)) (kk : wpS (PL n xs) E d kc ks YL_law (pc + 2) L (.int (nI n) :: st) M Q) : wpS (PL n xs) E d kc ks YL_law pc L st M Q := by
  intro p l e R s m args below meth c D cA A ad H locs cells slots Qm ls ex C hP hlx h1 h2 h3 h4 V hL hS F
  have hP' := hP
  obtain ⟨⟨b, rfl, hX, hbA, hbl⟩, hT⟩ := hP'
  refine lv_aload_n C.1 C.2.1 g0 rfl (hlx (0, .ref b) List.mem_cons_self) ?_
  refine va_slen C.1 C.2.1 hX hbl hbA V.2.2.2.1 g1 ?_
  exact kk p l e R s m args below meth c D cA A ad H locs cells slots Qm ls _ C hP hlx h1 h2 h3 h4 V hL (hS.cons trivial) F
end SCR
/-- both sides keep the same account -/
def LI (s : Sta) (I : Im) (G : Gm) : Prop := Ci s I G ∧ Mi s I 256 ∧ isC10 G 256 ∧ G.2.2.2 = tA (sN s + 1) ∧ G.2.2.1 281 = (4, 1)
def LC (s s2 : Sta) (I : Im) (G : Gm) : Prop := Ci s2 I G ∧ Mi s I 256 ∧ isC10 G 256 ∧ G.2.2.2 = tA (sN s2 + 1) ∧ G.2.2.1 281 = (4, 1)
theorem Ci.far {s : Sta} {I I2 : Im} {G : Gm} (h : Ci s I G) (hf : ∀ a j, ¬ (256 ≤ a ∧ a ≤ 280) → I2 a j = I a j) : Ci s I2 G := by
  obtain ⟨g, ⟨i1, i2, i3, i4, i5, i6⟩, m1, m2, m3⟩ := h
  refine ⟨g, ⟨(hf _ _ (by omega)).trans i1, i2, ⟨(hf _ _ (by omega)).trans i3.1, i3.2.1, fun i hi => (hf _ _ (by omega)).trans (i3.2.2.1 i hi), i3.2.2.2⟩, fun k hk => ⟨(i4 k hk).1, (i4 k hk).2.keep (fun a j z1 z2 => hf a j (by have := tA_off k; omega))⟩, i5.keep (fun a j z => hf a j (by have := tA_off (sN s); omega)), ⟨(hf _ _ (by omega)).trans i6.1, i6.2.1, fun k hk => ⟨(hf _ _ (by omega)).trans (i6.2.2.1 k hk).1, (hf _ _ (by omega)).trans (i6.2.2.1 k hk).2⟩, i6.2.2.2.1, (hf _ _ (by omega)).trans i6.2.2.2.2⟩⟩, m1.keep (fun k hk => (i4 k hk).1) rfl (fun a j z1 z2 => hf a j (by omega)), m2.keep (fun k hk => (i4 k hk).1) rfl (fun a j z1 z2 => hf a j (by omega)), m3.keep rfl (fun a j z => hf a j (by omega))⟩
theorem Mi.c {s : Sta} {I I2 : Im} (h : Mi s I 256) (hf : ∀ x j, 256 ≤ x → x ≤ 281 → I2 x j = I x j) : Mi s I2 256 := h.keep (fun a x z => hf a x (by omega) (by omega))
theorem li_c {s s2 : Sta} {I : Im} {G : Gm} {a v : Int32} {M : Mm} (h : LI s I G) (hs : sN s2 = sN s) (q : PcQ s2 I G a v M) : ∃ I2 G2, M = (I2, G2) ∧ v = a ∧ LC s s2 I2 G2 := by
  obtain ⟨I2, G2, rfl, rfl, hC, hf, g1, g2, g3, g4⟩ := q
  exact ⟨I2, G2, rfl, rfl, hC, h.2.1.c hf, g1 h.2.2.1, by rw [g4, hs]; exact h.2.2.2.1, (g3 281 (Nat.le_refl _)).trans h.2.2.2.2⟩
theorem li_t {s s2 : Sta} {I : Im} {G : Gm} {a v : Int32} {M : Mm} (h : LI s I G) (q : TcQ s s2 I G a v M) : ∃ I2 G2, M = (I2, G2) ∧ v = a ∧ LC s s2 I2 G2 := by
  obtain ⟨I2, G2, rfl, rfl, hC, hf, g1, g2, g3⟩ := q
  exact ⟨I2, G2, rfl, rfl, hC, h.2.1.c hf, g1 h.2.2.1, g3, (g2 281 (Nat.le_refl _)).2.trans h.2.2.2.2⟩
theorem li_m {s s2 : Sta} {I I2 : Im} {G : Gm} {a v : Int32} (h : LC s s2 I G) (q : PmQ s2 I 256 a v I2) : v = a ∧ LI s2 I2 G := ⟨q.1, h.1.far q.2.2, q.2.1, h.2.2⟩
theorem sn_at {n : Nat} {u : Int32} {no : Int32 × Sta} {f : Nat → Int32 × Sta} {x : Nat} (h0 : sN no.2 = x) (h : ∀ k, sN (f k).2 = x) : sN (atQ n u no f).2 = x := by
  unfold atQ
  split
  · exact h0
  · exact h _
theorem sn_join {s : Sta} {t b : Int32} : sN (fJoin s t b).2 = sN s := sn_at rfl (fun _ => sn_at rfl (fun _ => rfl))
theorem sn_law {s : Sta} {t c : Int32} {a : Bool} : sN (fLaw s t c a).2 = sN s := sn_at rfl (fun _ => sn_at rfl (fun _ => rfl))
theorem sn_halve {s : Sta} {t : Int32} {b : Bool} : sN (fHalve s t b).2 = sN s := sn_at rfl (fun _ => rfl)
theorem sn_tell {s : Sta} {t h p : Int32} {c : Bool} : sN (fTell s t h c p).2 = sN s := sn_at rfl (fun _ => sn_at rfl (fun _ => sn_at rfl (fun _ => rfl)))
theorem sn_end {s : Sta} {n : Int32} : sN (fEnd s n).2 = sN s := sn_at rfl (fun _ => rfl)
theorem sn_feed {s : Sta} {a b c d e : Int32} : sN (fFeed s a b c d e).2 = sN s := by
  unfold fFeed
  split <;> rfl
theorem sn_chance {s : Sta} {w g : Int32} : sN (fChance s w g).2 = sN s := sn_at rfl (fun _ => sn_at rfl (fun _ => by split <;> rfl))
theorem sn_clear {s : Sta} : sN (fClear s).2 = sN s := rfl
def EL (pc : Nat) (r : Option Value) : Prop := pc = 1672 ∧ r = some (.int 1)
def QL (_ : Option Value) (_ : Mm) : Prop := True
def Lh (j : Nat) : List (Option Value) := [none, some (.ref 0), some (.ref 256), some (.ref 281), some (.int (nI (7 * j))), none, none]
