/-! ===== who would rather be one ===== -/
abbrev jP (j : Int32) : Nat → Bool := fun h => decide (jn j (nI h))
def hdT (s : Nat → Option Nat) (P : Nat → Bool) : Nat → Nat → Nat
  | 0 => fun h => h
  | k + 1 => fun h => if h = k then (match s h with
    | none => h
    | some a => if P h = true then hdT s P k a else h) else hdT s P k h
/-- the head of those that are one with h -/
def hdF (s : Nat → Option Nat) (P : Nat → Bool) : Nat → Nat := hdT s P 8
theorem hdT_st (s : Nat → Option Nat) (P : Nat → Bool) (k : Nat) : ∀ j h, h < k → hdT s P (k + j) h = hdT s P k h
  | 0, _, _ => rfl
  | j + 1, h, hh => by
    show (if h = k + j then _ else hdT s P (k + j) h) = _
    rw [if_neg (by omega), hdT_st s P k j h hh]
theorem hdF_eq {s : Nat → Option Nat} {P : Nat → Bool} (hs : ∀ b a, s b = some a → a < b) {h : Nat} (hh : h < 8) : hdF s P h = match s h with
    | none => h
    | some a => if P h = true then hdF s P a else h := by
  have e1 := hdT_st s P (h + 1) (7 - h) h (by omega)
  rw [show h + 1 + (7 - h) = 8 by omega] at e1
  show hdT s P 8 h = _
  rw [e1]
  show (if h = h then _ else _) = _
  rw [if_pos rfl]
  cases hz : s h with
  | none => rfl
  | some a =>
    have ha := hs h a hz
    have e2 := hdT_st s P h (8 - h) a ha
    rw [show h + (8 - h) = 8 by omega] at e2
    show (if P h = true then hdT s P h a else h) = (if P h = true then hdF s P a else h)
    rw [← e2]
    rfl
theorem hdF_none {s : Nat → Option Nat} {P : Nat → Bool} (hs : ∀ b a, s b = some a → a < b) {h : Nat} (hh : h < 8) (hz : s h = none) : hdF s P h = h := by
  rw [hdF_eq hs hh, hz]
theorem hdF_in {s : Nat → Option Nat} {P : Nat → Bool} (hs : ∀ b a, s b = some a → a < b) {h a : Nat} (hh : h < 8) (hz : s h = some a) (hp : P h = true) : hdF s P h = hdF s P a := by
  rw [hdF_eq hs hh, hz]
  exact if_pos hp
theorem hdF_out {s : Nat → Option Nat} {P : Nat → Bool} (hs : ∀ b a, s b = some a → a < b) {h : Nat} (hh : h < 8) (hp : ¬ P h = true) : hdF s P h = h := by
  rw [hdF_eq hs hh]
  cases hz : s h with
  | none => rfl
  | some a => exact if_neg hp
theorem hdF_le {s : Nat → Option Nat} {P : Nat → Bool} (hs : ∀ b a, s b = some a → a < b) : ∀ h, h < 8 → hdF s P h ≤ h := by
  intro h
  induction h using Nat.strongRecOn with
  | ind h ih =>
    intro hh
    by_cases hp : P h = true
    · cases hz : s h with
      | none => rw [hdF_none hs hh hz]; exact Nat.le_refl _
      | some a =>
        have := hs h a hz
        rw [hdF_in hs hh hz hp]
        have := ih a this (by omega)
        omega
    · rw [hdF_out hs hh hp]
      exact Nat.le_refl _
/-- what those that are one with ho earn more -/
def btF (s : Nat → Option Nat) (n : Nat) (P : Nat → Bool) (ho : Nat) (b a : Nat → Int32) : Int32 := sm (fun h => if hdF s P h = hdF s P ho then a h - b h else 0) n
theorem btF_congr {s : Nat → Option Nat} {n : Nat} {P : Nat → Bool} {ho : Nat} {b a b2 a2 : Nat → Int32} (h1 : ∀ h, h < n → b h = b2 h) (h2 : ∀ h, h < n → a h = a2 h) : btF s n P ho b a = btF s n P ho b2 a2 := sm_congr _ (fun h hh => by rw [h1 h hh, h2 h hh])

set_option maxRecDepth 100000 in
theorem better_ct {d : Nat} {I : Im} {G : Gm} {jo t : Nat} {E : Ec} (hj : isC4 G jo) (hT : isC8 G t) (hsp : jo + 131 ≤ t ∨ t + 18 ≤ jo) (ht : TrC I t E) {j : Int32} {ho ba aa : Nat} (hho : ho < eN E) (hba : ar (I, G) ba 1 8) (haa : ar (I, G) aa 1 8) (hb1 : ba ≠ jo + 1) (ha1 : aa ≠ jo + 1) : Ct (d + 1) 0 0 YX4_better [.ref jo, .ref t, .int j, .int (nI ho), .ref ba, .ref aa] (I, G) (qM G (fun v I2 => v = btF (eS E) (eN E) (jP j) ho (I ba) (I aa) ∧ ∀ a k, a ≠ jo + 1 → I2 a k = I a k)) := by
  refine Ct.of (by decide) (by simp [Value.category]) (Nat.le_of_ble_eq_true rfl) ?_
  have hE : SrC E := ⟨ht.2.1, ht.2.2.2.1⟩
  have hn8 := hE.1
  have hS : ∀ b a, eS E b = some a → a < b := fun b a z => (hE.2 b a z).1
  show wp _ _ _ _ 0 [some (.ref jo), some (.ref t), some (.int j), some (.int (nI ho)), some (.ref ba), some (.ref aa), none, none] [] _ _
  refine r_iconst (pc := 0) (v := 0) dX4_better_0 (by decide) ?_
  refine r_istore (pc := 1) (L' := [some (.ref jo), some (.ref t), some (.int j), some (.int (nI ho)), some (.ref ba), some (.ref aa), some (.int (nI 0)), none]) dX4_better_1 (by decide) rfl rfl ?_
  have lp3 : ∀ (n3 : Nat), ∀ (h : Nat) (I1 : Im), eN E - h = n3 → (h ≤ eN E) → (∀ x, x < h → I1 (jo + 1) x = nI (hdF (eS E) (jP j) x)) → (∀ a k, a ≠ jo + 1 → I1 a k = I a k) → wp (d + 1) 0 0 YX4_better 3 [some (.ref jo), some (.ref t), some (.int j), some (.int (nI ho)), some (.ref ba), some (.ref aa), some (.int (nI h)), none] [] (I1, G) (qM G (fun v I2 => v = btF (eS E) (eN E) (jP j) ho (I ba) (I aa) ∧ ∀ a k, a ≠ jo + 1 → I2 a k = I a k)) := by
    intro n3
    induction n3 using Nat.strongRecOn with
    | ind n3 ih3 =>
      intro h I1 hmu3 hh hv hfr
      have ht1 := ht.keep (I1 := I1) (fun a k h1 h2 => hfr a k (by omega))
      refine r_iload (pc := 3) dX4_better_3 rfl ?_
      refine r_aload_n (pc := 5) dX4_better_5 rfl ?_
      refine r_getIv (pc := 6) 8 0 20 dX4_better_6 (fl_RX4_20 rfl) (by decide) rfl (c8_o hT) (v := nI (eN E)) (ht1.1) ?_
      refine r_icmp_ge_n (pc := 9) (a := h) (b := eN E) (tgt := 60) dX4_better_9 (by decide) (by omega) (by omega) (fun c9 => ?_) (fun c9 => ?_)
      · skip
        refine r_iconst (pc := 60) (v := 0) dX4_better_60 (by decide) ?_
        refine r_istore (pc := 61) (L' := [some (.ref jo), some (.ref t), some (.int j), some (.int (nI ho)), some (.ref ba), some (.ref aa), some (.int (nI 0)), none]) dX4_better_61 (by decide) rfl rfl ?_
        refine r_iconst (pc := 63) (v := 0) dX4_better_63 (by decide) ?_
        refine r_istore (pc := 64) (L' := [some (.ref jo), some (.ref t), some (.int j), some (.int (nI ho)), some (.ref ba), some (.ref aa), some (.int (nI 0)), some (.int (nI 0))]) dX4_better_64 (by decide) rfl rfl ?_
        have lp66 : ∀ (n66 : Nat), ∀ (x : Nat) (mo : Int32), eN E - x = n66 → (x ≤ eN E) → (mo = sm (fun h => if hdF (eS E) (jP j) h = hdF (eS E) (jP j) ho then I aa h - I ba h else 0) x) → wp (d + 1) 0 0 YX4_better 66 [some (.ref jo), some (.ref t), some (.int j), some (.int (nI ho)), some (.ref ba), some (.ref aa), some (.int mo), some (.int (nI x))] [] (I1, G) (qM G (fun v I2 => v = btF (eS E) (eN E) (jP j) ho (I ba) (I aa) ∧ ∀ a k, a ≠ jo + 1 → I2 a k = I a k)) := by
          intro n66
          induction n66 using Nat.strongRecOn with
          | ind n66 ih66 =>
            intro x mo hmu66 hx hmo
            have hvv := hv
            refine r_iload (pc := 66) dX4_better_66 rfl ?_
            refine r_aload_n (pc := 68) dX4_better_68 rfl ?_
            refine r_getIv (pc := 69) 8 0 20 dX4_better_69 (fl_RX4_20 rfl) (by decide) rfl (c8_o hT) (v := nI (eN E)) (ht1.1) ?_
            refine r_icmp_ge_n (pc := 72) (a := x) (b := eN E) (tgt := 113) dX4_better_72 (by decide) (by omega) (by omega) (fun c72 => ?_) (fun c72 => ?_)
            · skip
              refine r_iload (pc := 113) dX4_better_113 rfl ?_
              refine r_ret_i (pc := 115) dX4_better_115 rfl ?_
              exact ⟨_, I1, rfl, rfl, by rw [hmo, show x = eN E by omega]; rfl, hfr⟩
            · skip
              refine r_aload_n (pc := 75) dX4_better_75 rfl ?_
              refine r_get1 (pc := 76) 4 0 9 dX4_better_76 (fl_RX4_9 rfl) (by decide) rfl (c4_o hj) (c4_p0 hj) ?_
              refine r_iload (pc := 79) dX4_better_79 rfl ?_
              refine r_iald_n (pc := 81) (i := x) dX4_better_81 (c4_a0 hj) (by decide) (by omega) (v := nI (hdF (eS E) (jP j) x)) (hv _ (by omega)) ?_
              refine r_aload_n (pc := 82) dX4_better_82 rfl ?_
              refine r_get1 (pc := 83) 4 0 9 dX4_better_83 (fl_RX4_9 rfl) (by decide) rfl (c4_o hj) (c4_p0 hj) ?_
              refine r_iload_n (pc := 86) dX4_better_86 rfl ?_
              refine r_iald_n (pc := 87) (i := ho) dX4_better_87 (c4_a0 hj) (by decide) (by omega) (v := nI (hdF (eS E) (jP j) ho)) (hv _ (by omega)) ?_
              refine r_icmp_ne_n (pc := 88) (a := hdF (eS E) (jP j) x) (b := hdF (eS E) (jP j) ho) (tgt := 107) dX4_better_88 (by decide) (by have h1 := hdF_le (P := jP j) hS ho (by omega); have h2 := hdF_le (P := jP j) hS x (by omega); omega) (by have h1 := hdF_le (P := jP j) hS ho (by omega); have h2 := hdF_le (P := jP j) hS x (by omega); omega) (fun c88 => ?_) (fun c88 => ?_)
              · skip
                refine r_iinc (pc := 107) (v := nI (x + 1)) (L' := [some (.ref jo), some (.ref t), some (.int j), some (.int (nI ho)), some (.ref ba), some (.ref aa), some (.int mo), some (.int (nI (x + 1)))]) dX4_better_107 rfl (nI_inc _) (by decide) rfl rfl ?_
                refine r_goto (pc := 110) (tgt := 66) dX4_better_110 (by decide) ?_
                exact ih66 _ (by omega) (x + 1) mo rfl (by omega) (by rw [show ∀ f k, sm f (k + 1) = sm f k + f k from fun _ _ => rfl, ← hmo]; first | exact congrArg (mo + ·) (if_pos c88).symm | exact ((congrArg (mo + ·) (if_neg c88)).trans (Int32.add_zero _)).symm)
              · skip
                refine r_iload (pc := 91) dX4_better_91 rfl ?_
                refine r_aload (pc := 93) dX4_better_93 rfl ?_
                refine r_iload (pc := 95) dX4_better_95 rfl ?_
                refine r_iald_n (pc := 97) (i := x) dX4_better_97 haa (by decide) (by omega) (v := I aa x) (hfr _ _ (by assumption)) ?_
                refine r_aload (pc := 98) dX4_better_98 rfl ?_
                refine r_iload (pc := 100) dX4_better_100 rfl ?_
                refine r_iald_n (pc := 102) (i := x) dX4_better_102 hba (by decide) (by omega) (v := I ba x) (hfr _ _ (by assumption)) ?_
                refine r_isub (pc := 103) (x := I aa x) (z := I ba x) dX4_better_103 ?_
                refine r_iadd (pc := 104) (x := mo) (z := (I aa x) - (I ba x)) dX4_better_104 ?_
                refine r_istore (pc := 105) (L' := [some (.ref jo), some (.ref t), some (.int j), some (.int (nI ho)), some (.ref ba), some (.ref aa), some (.int (mo + ((I aa x) - (I ba x)))), some (.int (nI x))]) dX4_better_105 (by decide) rfl rfl ?_
                refine r_iinc (pc := 107) (v := nI (x + 1)) (L' := [some (.ref jo), some (.ref t), some (.int j), some (.int (nI ho)), some (.ref ba), some (.ref aa), some (.int (mo + ((I aa x) - (I ba x)))), some (.int (nI (x + 1)))]) dX4_better_107 rfl (nI_inc _) (by decide) rfl rfl ?_
                refine r_goto (pc := 110) (tgt := 66) dX4_better_110 (by decide) ?_
                exact ih66 _ (by omega) (x + 1) (mo + ((I aa x) - (I ba x))) rfl (by omega) (by rw [show ∀ f k, sm f (k + 1) = sm f k + f k from fun _ _ => rfl, ← hmo]; first | exact congrArg (mo + ·) (if_pos c88).symm | exact ((congrArg (mo + ·) (if_neg c88)).trans (Int32.add_zero _)).symm)
        exact lp66 _ 0 0 rfl (by omega) (by rfl)
      · skip
        refine r_aload_n (pc := 12) dX4_better_12 rfl ?_
        refine r_get1 (pc := 13) 8 3 26 dX4_better_13 (fl_RX4_26 rfl) (by decide) rfl (c8_o hT) (c8_p3 hT) ?_
        refine r_iload (pc := 16) dX4_better_16 rfl ?_
        refine r_iald_n (pc := 18) (i := h) dX4_better_18 (c8_a3 hT) (by decide) (by omega) (v := sI (eS E h)) (ht1.2.2.1 _ (by omega)) ?_
        rcases hsr : eS E h with _ | a
        · skip
          show wp _ _ _ _ _ _ [.int (-1)] _ _
          refine r_istore (pc := 19) (L' := [some (.ref jo), some (.ref t), some (.int j), some (.int (nI ho)), some (.ref ba), some (.ref aa), some (.int (nI h)), some (.int (-1))]) dX4_better_19 (by decide) rfl rfl ?_
          refine r_aload_n (pc := 21) dX4_better_21 rfl ?_
          refine r_get1 (pc := 22) 4 0 9 dX4_better_22 (fl_RX4_9 rfl) (by decide) rfl (c4_o hj) (c4_p0 hj) ?_
          refine r_iload (pc := 25) dX4_better_25 rfl ?_
          have k53 : ∀ (z : Nat), (z = hdF (eS E) (jP j) h) → wp (d + 1) 0 0 YX4_better 53 [some (.ref jo), some (.ref t), some (.int j), some (.int (nI ho)), some (.ref ba), some (.ref aa), some (.int (nI h)), none] [.int (nI z), .int (nI h), .ref (jo + 1)] (I1, G) (qM G (fun v I2 => v = btF (eS E) (eN E) (jP j) ho (I ba) (I aa) ∧ ∀ a k, a ≠ jo + 1 → I2 a k = I a k)) := by
            intro z hz
            refine r_iast_n (pc := 53) (i := h) (v := nI z) dX4_better_53 (c4_a0 hj) (by decide) (by omega) ?_
            refine r_iinc (pc := 54) (v := nI (h + 1)) (L' := [some (.ref jo), some (.ref t), some (.int j), some (.int (nI ho)), some (.ref ba), some (.ref aa), some (.int (nI (h + 1))), none]) dX4_better_54 rfl (nI_inc _) (by decide) rfl rfl ?_
            refine r_goto (pc := 57) (tgt := 3) dX4_better_57 (by decide) ?_
            exact ih3 _ (by omega) (h + 1) (up2 I1 (jo + 1) h (nI z)) rfl (by omega) (by exact fun x hx => (Nat.lt_or_ge x h).elim (fun g => (up2_rd (by omega)).trans (hv x g)) (fun g => by obtain rfl : x = h := (by omega); rw [up2_at, hz])) (by exact fun a k g => (up2_rd (Or.inl g)).trans (hfr a k g))
          refine r_iload (pc := 27) dX4_better_27 rfl ?_
          refine r_if_lt (pc := 29) (x := (-1)) (tgt := 51) dX4_better_29 (by decide) (fun c29 => ?_) (fun c29 => ?_)
          · skip
            have hxx : h = hdF (eS E) (jP j) h := (hdF_none hS (by omega) hsr).symm
            refine r_iload (pc := 51) dX4_better_51 rfl ?_
            refine wp_sub [some (.ref jo), some (.ref t), some (.int j), some (.int (nI ho)), some (.ref ba), some (.ref aa), some (.int (nI h)), none] ⟨rfl, ⟨rfl, ⟨rfl, ⟨rfl, ⟨rfl, ⟨rfl, ⟨rfl, trivial⟩⟩⟩⟩⟩⟩⟩ ?_
            exact k53 h hxx
          · exfalso; exact absurd c29 (by decide)
        · skip
          show wp _ _ _ _ _ _ [.int (nI a)] _ _
          have hal := hE.2 h a hsr
          refine r_istore (pc := 19) (L' := [some (.ref jo), some (.ref t), some (.int j), some (.int (nI ho)), some (.ref ba), some (.ref aa), some (.int (nI h)), some (.int (nI a))]) dX4_better_19 (by decide) rfl rfl ?_
          refine r_aload_n (pc := 21) dX4_better_21 rfl ?_
          refine r_get1 (pc := 22) 4 0 9 dX4_better_22 (fl_RX4_9 rfl) (by decide) rfl (c4_o hj) (c4_p0 hj) ?_
          refine r_iload (pc := 25) dX4_better_25 rfl ?_
          have k53 : ∀ (z : Nat), (z = hdF (eS E) (jP j) h) → wp (d + 1) 0 0 YX4_better 53 [some (.ref jo), some (.ref t), some (.int j), some (.int (nI ho)), some (.ref ba), some (.ref aa), some (.int (nI h)), none] [.int (nI z), .int (nI h), .ref (jo + 1)] (I1, G) (qM G (fun v I2 => v = btF (eS E) (eN E) (jP j) ho (I ba) (I aa) ∧ ∀ a k, a ≠ jo + 1 → I2 a k = I a k)) := by
            intro z hz
            refine r_iast_n (pc := 53) (i := h) (v := nI z) dX4_better_53 (c4_a0 hj) (by decide) (by omega) ?_
            refine r_iinc (pc := 54) (v := nI (h + 1)) (L' := [some (.ref jo), some (.ref t), some (.int j), some (.int (nI ho)), some (.ref ba), some (.ref aa), some (.int (nI (h + 1))), none]) dX4_better_54 rfl (nI_inc _) (by decide) rfl rfl ?_
            refine r_goto (pc := 57) (tgt := 3) dX4_better_57 (by decide) ?_
            exact ih3 _ (by omega) (h + 1) (up2 I1 (jo + 1) h (nI z)) rfl (by omega) (by exact fun x hx => (Nat.lt_or_ge x h).elim (fun g => (up2_rd (by omega)).trans (hv x g)) (fun g => by obtain rfl : x = h := (by omega); rw [up2_at, hz])) (by exact fun a k g => (up2_rd (Or.inl g)).trans (hfr a k g))
          refine r_iload (pc := 27) dX4_better_27 rfl ?_
          refine r_if_lt_n (pc := 29) (a := a) (tgt := 51) dX4_better_29 (by decide) (by omega) ?_
          refine r_iload_n (pc := 32) dX4_better_32 rfl ?_
          refine r_iload (pc := 33) dX4_better_33 rfl ?_
          refine r_ishr (pc := 35) (x := j) (z := nI h) dX4_better_35 ?_
          refine r_iconst (pc := 36) (v := 1) dX4_better_36 (by decide) ?_
          refine r_iand (pc := 37) (x := j >>> ((nI h) &&& 31)) (z := 1) dX4_better_37 ?_
          refine r_if_eq (pc := 38) (x := (j >>> ((nI h) &&& 31)) &&& 1) (tgt := 51) dX4_better_38 (by decide) (fun c38 => ?_) (fun c38 => ?_)
          · skip
            have hxx : h = hdF (eS E) (jP j) h := (hdF_out hS (by omega) (fun z => (show jn j (nI h) from of_decide_eq_true z) c38)).symm
            refine r_iload (pc := 51) dX4_better_51 rfl ?_
            refine wp_sub [some (.ref jo), some (.ref t), some (.int j), some (.int (nI ho)), some (.ref ba), some (.ref aa), some (.int (nI h)), none] ⟨rfl, ⟨rfl, ⟨rfl, ⟨rfl, ⟨rfl, ⟨rfl, ⟨rfl, trivial⟩⟩⟩⟩⟩⟩⟩ ?_
            exact k53 h hxx
          · skip
            have hxx : hdF (eS E) (jP j) a = hdF (eS E) (jP j) h := (hdF_in hS (by omega) hsr (decide_eq_true c38)).symm
            refine r_aload_n (pc := 41) dX4_better_41 rfl ?_
            refine r_get1 (pc := 42) 4 0 9 dX4_better_42 (fl_RX4_9 rfl) (by decide) rfl (c4_o hj) (c4_p0 hj) ?_
            refine r_iload (pc := 45) dX4_better_45 rfl ?_
            refine r_iald_n (pc := 47) (i := a) dX4_better_47 (c4_a0 hj) (by decide) (by omega) (v := nI (hdF (eS E) (jP j) a)) (hv _ (by omega)) ?_
            refine r_goto (pc := 48) (tgt := 53) dX4_better_48 (by decide) ?_
            refine wp_sub [some (.ref jo), some (.ref t), some (.int j), some (.int (nI ho)), some (.ref ba), some (.ref aa), some (.int (nI h)), none] ⟨rfl, ⟨rfl, ⟨rfl, ⟨rfl, ⟨rfl, ⟨rfl, ⟨rfl, trivial⟩⟩⟩⟩⟩⟩⟩ ?_
            exact k53 (hdF (eS E) (jP j) a) hxx
  exact lp3 _ 0 I rfl (by omega) (by exact fun x hx => absurd hx (Nat.not_lt_zero _)) (by exact fun _ _ _ => rfl)

def buF (E : Ec) : Int32 := orF (fun h => (eS E h).isSome) (eN E)
theorem bt_orF {f : Nat → Bool} {c : Nat} : ∀ n, n ≤ 8 → bt (orF f n) c = (decide (c < n) && f c)
  | 0, _ => by
    show bt 0 c = _
    rw [bt_zero]
    simp
  | n + 1, hn => by
    unfold orF
    have ih := bt_orF (f := f) (c := c) n (by omega)
    by_cases hf : f n = true
    · rw [if_pos hf, bt_or, ih, bt_shl (by omega)]
      by_cases e : n = c
      · subst e
        simp [hf]
      · have : decide (c < n + 1) = decide (c < n) := by
          apply decide_eq_decide.mpr
          omega
        rw [this, decide_eq_false e, Bool.or_false]
    · rw [if_neg hf, ih]
      by_cases e : n = c
      · subst e
        simp [hf]
      · have : decide (c < n + 1) = decide (c < n) := by
          apply decide_eq_decide.mpr
          omega
        rw [this]

set_option maxRecDepth 100000 in
theorem buyingHouses_ct {d : Nat} {I : Im} {G : Gm} {jo t : Nat} {E : Ec} (hj : isC4 G jo) (hT : isC8 G t) (hsp : jo + 131 ≤ t ∨ t + 18 ≤ jo) (ht : TrC I t E) : Ct (d + 1) 0 0 YX4_buyingHouses [.ref jo, .ref t] (I, G) (qP (buF E) (I, G)) := by
  refine Ct.of (by decide) (by simp [Value.category]) (Nat.le_of_ble_eq_true rfl) ?_
  have hE : SrC E := ⟨ht.2.1, ht.2.2.2.1⟩
  have hn8 := hE.1
  have hS : ∀ b a, eS E b = some a → a < b := fun b a z => (hE.2 b a z).1
  show wp _ _ _ _ 0 [some (.ref jo), some (.ref t), none, none] [] _ _
  refine r_iconst (pc := 0) (v := 0) dX4_buyingHouses_0 (by decide) ?_
  refine r_istore_n (pc := 1) (L' := [some (.ref jo), some (.ref t), some (.int (nI 0)), none]) dX4_buyingHouses_1 (by decide) rfl rfl ?_
  refine r_iconst (pc := 2) (v := 0) dX4_buyingHouses_2 (by decide) ?_
  refine r_istore_n (pc := 3) (L' := [some (.ref jo), some (.ref t), some (.int (nI 0)), some (.int (nI 0))]) dX4_buyingHouses_3 (by decide) rfl rfl ?_
  have lp4 : ∀ (n4 : Nat), ∀ (h : Nat) (bi : Int32), eN E - h = n4 → (h ≤ eN E) → (bi = orF (fun h => (eS E h).isSome) h) → wp (d + 1) 0 0 YX4_buyingHouses 4 [some (.ref jo), some (.ref t), some (.int bi), some (.int (nI h))] [] (I, G) (qP (buF E) (I, G)) := by
    intro n4
    induction n4 using Nat.strongRecOn with
    | ind n4 ih4 =>
      intro h bi hmu4 hh hbi
      refine r_iload_n (pc := 4) dX4_buyingHouses_4 rfl ?_
      refine r_aload_n (pc := 5) dX4_buyingHouses_5 rfl ?_
      refine r_getIv (pc := 6) 8 0 20 dX4_buyingHouses_6 (fl_RX4_20 rfl) (by decide) rfl (c8_o hT) (v := nI (eN E)) (ht.1) ?_
      refine r_icmp_ge_n (pc := 9) (a := h) (b := eN E) (tgt := 33) dX4_buyingHouses_9 (by decide) (by omega) (by omega) (fun c9 => ?_) (fun c9 => ?_)
      · skip
        refine r_iload_n (pc := 33) dX4_buyingHouses_33 rfl ?_
        refine r_ret_i (pc := 34) dX4_buyingHouses_34 rfl ?_
        exact ⟨by rw [hbi, show h = eN E by omega]; rfl, rfl⟩
      · skip
        refine r_aload_n (pc := 12) dX4_buyingHouses_12 rfl ?_
        refine r_get1 (pc := 13) 8 3 26 dX4_buyingHouses_13 (fl_RX4_26 rfl) (by decide) rfl (c8_o hT) (c8_p3 hT) ?_
        refine r_iload_n (pc := 16) dX4_buyingHouses_16 rfl ?_
        refine r_iald_n (pc := 17) (i := h) dX4_buyingHouses_17 (c8_a3 hT) (by decide) (by omega) (v := sI (eS E h)) (ht.2.2.1 _ (by omega)) ?_
        rcases hsr : eS E h with _ | a
        · skip
          show wp _ _ _ _ _ _ [.int (-1)] _ _
          have hq : ¬ (eS E h).isSome = true := by rw [hsr]; simp
          refine r_if_lt (pc := 18) (x := (-1)) (tgt := 27) dX4_buyingHouses_18 (by decide) (fun c18 => ?_) (fun c18 => ?_)
          · skip
            refine r_iinc (pc := 27) (v := nI (h + 1)) (L' := [some (.ref jo), some (.ref t), some (.int bi), some (.int (nI (h + 1)))]) dX4_buyingHouses_27 rfl (nI_inc _) (by decide) rfl rfl ?_
            refine r_goto (pc := 30) (tgt := 4) dX4_buyingHouses_30 (by decide) ?_
            exact ih4 _ (by omega) (h + 1) bi rfl (by omega) (by rw [hbi]; first | exact (if_pos hq).symm | exact (if_neg hq).symm)
          · exfalso; exact absurd c18 (by decide)
        · skip
          show wp _ _ _ _ _ _ [.int (nI a)] _ _
          have hq : (eS E h).isSome = true := by rw [hsr]; rfl
          have hal := hE.2 h a hsr
          refine r_if_lt_n (pc := 18) (a := a) (tgt := 27) dX4_buyingHouses_18 (by decide) (by omega) ?_
          refine r_iload_n (pc := 21) dX4_buyingHouses_21 rfl ?_
          refine r_iconst (pc := 22) (v := 1) dX4_buyingHouses_22 (by decide) ?_
          refine r_iload_n (pc := 23) dX4_buyingHouses_23 rfl ?_
          refine r_ishl (pc := 24) (x := 1) (z := nI h) dX4_buyingHouses_24 ?_
          refine r_ior (pc := 25) (x := bi) (z := 1 <<< ((nI h) &&& 31)) dX4_buyingHouses_25 ?_
          refine r_istore_n (pc := 26) (L' := [some (.ref jo), some (.ref t), some (.int (bi ||| (1 <<< ((nI h) &&& 31)))), some (.int (nI h))]) dX4_buyingHouses_26 (by decide) rfl rfl ?_
          refine r_iinc (pc := 27) (v := nI (h + 1)) (L' := [some (.ref jo), some (.ref t), some (.int (bi ||| (1 <<< ((nI h) &&& 31)))), some (.int (nI (h + 1)))]) dX4_buyingHouses_27 rfl (nI_inc _) (by decide) rfl rfl ?_
          refine r_goto (pc := 30) (tgt := 4) dX4_buyingHouses_30 (by decide) ?_
          exact ih4 _ (by omega) (h + 1) (bi ||| (1 <<< ((nI h) &&& 31))) rfl (by omega) (by rw [hbi]; first | exact (if_pos hq).symm | exact (if_neg hq).symm)
  exact lp4 _ 0 0 rfl (by omega) (by rfl)

/-- a set that holds only houses that buy, by half of it -/
def okH (E : Ec) (x : Nat) : Prop := nI (2 * x) &&& (buF E ^^^ (-1)) = 0
theorem okH_iff {E : Ec} (hn : eN E ≤ 8) {x : Nat} (hx : x < 128) : okH E x ↔ ∀ c, c < 8 → (2 * x).testBit c = true → c < eN E ∧ (eS E c).isSome = true := by
  have hb : ∀ c, c < 32 → bt (nI (2 * x) &&& (buF E ^^^ (-1))) c = ((2 * x).testBit c && !(decide (c < eN E) && (eS E c).isSome)) := fun c hc => by
    rw [bt_and, bt_not _ hc, bt_nI (by omega)]
    unfold buF
    rw [bt_orF _ hn]
  constructor
  · intro h c hc ht
    have h1 := hb c (by omega)
    rw [show nI (2 * x) &&& (buF E ^^^ (-1)) = 0 from h, bt_zero, ht, Bool.true_and] at h1
    have h2 : (decide (c < eN E) && (eS E c).isSome) = true := by
      cases hz : (decide (c < eN E) && (eS E c).isSome) with
      | true => rfl
      | false => rw [hz] at h1; cases h1
    rw [Bool.and_eq_true] at h2
    exact ⟨of_decide_eq_true h2.1, h2.2⟩
  · intro h
    apply bt_ext
    intro c hc
    rw [hb c hc, bt_zero]
    cases ht : (2 * x).testBit c with
    | false => rfl
    | true =>
      by_cases hc8 : c < 8
      · have := h c hc8 ht
        rw [decide_eq_true this.1, this.2]
        rfl
      · rw [tb_hi (by omega) (by omega)] at ht
        cases ht
/-- open: h buys, and is not in the set -/
def opH (E : Ec) (x h : Nat) : Prop := jn (buF E &&& (nI (2 * x) ^^^ (-1))) (nI h)
theorem opH_iff {E : Ec} (hn : eN E ≤ 8) {x h : Nat} (hx : x < 128) (hh : h < 8) : opH E x h ↔ (h < eN E ∧ (eS E h).isSome = true) ∧ (2 * x).testBit h = false := by
  unfold opH
  rw [jn_bt hh, bt_and, bt_not _ (by omega), bt_nI (by omega)]
  unfold buF
  rw [bt_orF _ hn, Bool.and_eq_true, Bool.and_eq_true, decide_eq_true_iff, Bool.not_eq_true']
theorem tb2 {x y h c : Nat} (hh : 1 ≤ h) (hy : y = x ||| 2 ^ (h - 1)) : (2 * y).testBit c = ((2 * x).testBit c || decide (h = c)) := by
  subst hy
  rw [show 2 * (x ||| 2 ^ (h - 1)) = (x ||| 2 ^ (h - 1)) <<< 1 by rw [Nat.shiftLeft_eq]; omega, show 2 * x = x <<< 1 by rw [Nat.shiftLeft_eq]; omega, Nat.testBit_shiftLeft, Nat.testBit_shiftLeft, Nat.testBit_or, Nat.testBit_two_pow]
  by_cases hc : 1 ≤ c
  · have : decide (h - 1 = c - 1) = decide (h = c) := by
      apply decide_eq_decide.mpr
      omega
    rw [this, decide_eq_true hc]
    simp
  · obtain rfl : c = 0 := by omega
    simp
    omega
theorem mor_lt {x h : Nat} (hx : x < 128) (hh : h < 8) : x ||| 2 ^ (h - 1) < 128 := by
  have h2 : 2 ^ (h - 1) ≤ 2 ^ 6 := Nat.pow_le_pow_right (by omega) (by omega)
  exact Nat.or_lt_two_pow (n := 7) (by omega) (by omega)
theorem ok_more {E : Ec} (hn : eN E ≤ 8) {x h : Nat} (hx : x < 128) (hh : h < 8) (h1 : 1 ≤ h) (ho : okH E x) (hp : opH E x h) : okH E (x ||| 2 ^ (h - 1)) := by
  rw [okH_iff hn (mor_lt hx hh)]
  intro c hc ht
  rw [tb2 h1 rfl] at ht
  rcases Bool.or_eq_true_iff.mp ht with g | g
  · exact (okH_iff hn hx).mp ho c hc g
  · have e := of_decide_eq_true g
    subst e
    exact ((opH_iff hn hx hc).mp hp).1
/-- whether one more would be better -/
def moB (E : Ec) (er : Nat → Nat → Int32) (x h : Nat) : Prop := 1 ≤ h ∧ opH E x h ∧ 0 < btF (eS E) (eN E) (jP (nI (2 * (x ||| 2 ^ (h - 1))))) h (er x) (er (x ||| 2 ^ (h - 1)))
theorem moB_dec (E : Ec) (er : Nat → Nat → Int32) (x h : Nat) : Nonempty (Decidable (moB E er x h)) := ⟨by unfold moB opH; exact inferInstance⟩
def arP (E : Ec) (er : Nat → Nat → Int32) (x : Nat) : Prop := ∀ h, h < eN E → ¬ moB E er x h

set_option maxRecDepth 100000 in
theorem isAtRest_ct {d : Nat} {I : Im} {G : Gm} {jo t : Nat} {E : Ec} (hj : isC4 G jo) (hT : isC8 G t) (hsp : jo + 131 ≤ t ∨ t + 18 ≤ jo) (ht : TrC I t E) {er : Nat → Nat → Int32} {x : Nat} (hx : x < 128) (hok : okH E x) (hr : ∀ x, x < 128 → okH E x → ∀ h, h < eN E → I (jo + 2 + 1 + x) h = er x h) : Ct (d + 2) 0 0 YX4_isAtRest [.ref jo, .ref t, .int (buF E), .int (nI x)] (I, G) (qM G (fun v I2 => ((v = 0 ∧ ¬ arP E er x) ∨ (v = 1 ∧ arP E er x)) ∧ ∀ a k, a ≠ jo + 1 → I2 a k = I a k)) := by
  refine Ct.of (by decide) (by simp [Value.category]) (Nat.le_of_ble_eq_true rfl) ?_
  have hE : SrC E := ⟨ht.2.1, ht.2.2.2.1⟩
  have hn8 := hE.1
  have hS : ∀ b a, eS E b = some a → a < b := fun b a z => (hE.2 b a z).1
  show wp _ _ _ _ 0 [some (.ref jo), some (.ref t), some (.int (buF E)), some (.int (nI x)), none, none, none] [] _ _
  refine r_iload_n (pc := 0) dX4_isAtRest_0 rfl ?_
  refine r_iconst (pc := 1) (v := 2) dX4_isAtRest_1 (by decide) ?_
  refine r_iload_n (pc := 2) dX4_isAtRest_2 rfl ?_
  refine r_imul_n (pc := 3) (a := 2) (b := x) dX4_isAtRest_3 ?_
  refine r_iconst (pc := 4) (v := -1) dX4_isAtRest_4 (by decide) ?_
  refine r_ixor (pc := 5) (x := nI (2 * x)) (z := (-1)) dX4_isAtRest_5 ?_
  refine r_iand (pc := 6) (x := buF E) (z := (nI (2 * x)) ^^^ (-1)) dX4_isAtRest_6 ?_
  refine r_istore (pc := 7) (L' := [some (.ref jo), some (.ref t), some (.int (buF E)), some (.int (nI x)), some (.int ((buF E) &&& ((nI (2 * x)) ^^^ (-1)))), none, none]) dX4_isAtRest_7 (by decide) rfl rfl ?_
  refine r_iconst (pc := 9) (v := 1) dX4_isAtRest_9 (by decide) ?_
  refine r_istore (pc := 10) (L' := [some (.ref jo), some (.ref t), some (.int (buF E)), some (.int (nI x)), some (.int ((buF E) &&& ((nI (2 * x)) ^^^ (-1)))), some (.int (nI 1)), none]) dX4_isAtRest_10 (by decide) rfl rfl ?_
  have lp12 : ∀ (n12 : Nat), ∀ (h : Nat) (I1 : Im), 9 - h = n12 → (1 ≤ h ∧ (h ≤ eN E ∨ h = 1)) → (∀ y, y < h → ¬ moB E er x y) → (∀ a k, a ≠ jo + 1 → I1 a k = I a k) → wp (d + 2) 0 0 YX4_isAtRest 12 [some (.ref jo), some (.ref t), some (.int (buF E)), some (.int (nI x)), some (.int ((buF E) &&& ((nI (2 * x)) ^^^ (-1)))), some (.int (nI h)), none] [] (I1, G) (qM G (fun v I2 => ((v = 0 ∧ ¬ arP E er x) ∨ (v = 1 ∧ arP E er x)) ∧ ∀ a k, a ≠ jo + 1 → I2 a k = I a k)) := by
    intro n12
    induction n12 using Nat.strongRecOn with
    | ind n12 ih12 =>
      intro h I1 hmu12 hh hn hfr
      have ht1 := ht.keep (I1 := I1) (fun a k h1 h2 => hfr a k (by omega))
      refine r_iload (pc := 12) dX4_isAtRest_12 rfl ?_
      refine r_aload_n (pc := 14) dX4_isAtRest_14 rfl ?_
      refine r_getIv (pc := 15) 8 0 20 dX4_isAtRest_15 (fl_RX4_20 rfl) (by decide) rfl (c8_o hT) (v := nI (eN E)) (ht1.1) ?_
      refine r_icmp_ge_n (pc := 18) (a := h) (b := eN E) (tgt := 76) dX4_isAtRest_18 (by decide) (by omega) (by omega) (fun c18 => ?_) (fun c18 => ?_)
      · skip
        refine r_iconst (pc := 76) (v := 1) dX4_isAtRest_76 (by decide) ?_
        refine r_ret_z (pc := 77) dX4_isAtRest_77 rfl (by decide) ?_
        exact ⟨_, I1, rfl, rfl, Or.inr ⟨rfl, fun y hy => hn y (by omega)⟩, hfr⟩
      · skip
        refine r_iload_n (pc := 21) dX4_isAtRest_21 rfl ?_
        refine r_iconst (pc := 22) (v := 1) dX4_isAtRest_22 (by decide) ?_
        refine r_iload (pc := 23) dX4_isAtRest_23 rfl ?_
        refine r_iconst (pc := 25) (v := 1) dX4_isAtRest_25 (by decide) ?_
        refine r_isub_n (pc := 26) (a := h) (b := 1) dX4_isAtRest_26 (by omega) ?_
        refine r_ishl (pc := 27) (x := 1) (z := nI (h - 1)) dX4_isAtRest_27 ?_
        refine r_ior (pc := 28) (x := nI x) (z := 1 <<< ((nI (h - 1)) &&& 31)) dX4_isAtRest_28 ?_
        have hmo := mor_lt (h := h) hx (by omega)
        · skip
          refine wp_S (st2 := [.int (nI (x ||| 2 ^ (h - 1)))]) (by rw [one_shl (by omega), or_nI (by omega) (by have : 2 ^ (h - 1) ≤ 2 ^ 7 := Nat.pow_le_pow_right (by omega) (by omega); omega)]) ?_
          refine r_istore (pc := 29) (L' := [some (.ref jo), some (.ref t), some (.int (buF E)), some (.int (nI x)), some (.int ((buF E) &&& ((nI (2 * x)) ^^^ (-1)))), some (.int (nI h)), some (.int (nI (x ||| 2 ^ (h - 1))))]) dX4_isAtRest_29 (by decide) rfl rfl ?_
          refine r_iload (pc := 31) dX4_isAtRest_31 rfl ?_
          refine r_iload (pc := 33) dX4_isAtRest_33 rfl ?_
          refine r_ishr (pc := 35) (x := (buF E) &&& ((nI (2 * x)) ^^^ (-1))) (z := nI h) dX4_isAtRest_35 ?_
          refine r_iconst (pc := 36) (v := 1) dX4_isAtRest_36 (by decide) ?_
          refine r_iand (pc := 37) (x := ((buF E) &&& ((nI (2 * x)) ^^^ (-1))) >>> ((nI h) &&& 31)) (z := 1) dX4_isAtRest_37 ?_
          refine r_if_eq (pc := 38) (x := (((buF E) &&& ((nI (2 * x)) ^^^ (-1))) >>> ((nI h) &&& 31)) &&& 1) (tgt := 70) dX4_isAtRest_38 (by decide) (fun c38 => ?_) (fun c38 => ?_)
          · skip
            have hcase : ¬ moB E er x h := fun z => z.2.1 c38
            refine r_iinc (pc := 70) (v := nI (h + 1)) (L' := [some (.ref jo), some (.ref t), some (.int (buF E)), some (.int (nI x)), some (.int ((buF E) &&& ((nI (2 * x)) ^^^ (-1)))), some (.int (nI (h + 1))), some (.int (nI (x ||| 2 ^ (h - 1))))]) dX4_isAtRest_70 rfl (nI_inc _) (by decide) rfl rfl ?_
            refine r_goto (pc := 73) (tgt := 12) dX4_isAtRest_73 (by decide) ?_
            refine wp_sub [some (.ref jo), some (.ref t), some (.int (buF E)), some (.int (nI x)), some (.int ((buF E) &&& ((nI (2 * x)) ^^^ (-1)))), some (.int (nI (h + 1))), none] ⟨rfl, ⟨rfl, ⟨rfl, ⟨rfl, ⟨rfl, ⟨rfl, trivial⟩⟩⟩⟩⟩⟩ ?_
            exact ih12 _ (by omega) (h + 1) I1 rfl (by omega) (by exact fun y hy => (Nat.lt_or_ge y h).elim (hn y) (fun g => by obtain rfl : y = h := (by omega); exact hcase)) (by first | exact hfr | exact (fun a k g => (hF2 a k g).trans (hfr a k g)))
          · skip
            refine r_aload_n (pc := 41) dX4_isAtRest_41 rfl ?_
            refine r_aload_n (pc := 42) dX4_isAtRest_42 rfl ?_
            refine r_iconst (pc := 43) (v := 2) dX4_isAtRest_43 (by decide) ?_
            refine r_iload (pc := 44) dX4_isAtRest_44 rfl ?_
            refine r_imul_n (pc := 46) (a := 2) (b := x ||| 2 ^ (h - 1)) dX4_isAtRest_46 ?_
            refine r_iload (pc := 47) dX4_isAtRest_47 rfl ?_
            refine r_aload_n (pc := 49) dX4_isAtRest_49 rfl ?_
            refine r_get1 (pc := 50) 4 1 17 dX4_isAtRest_50 (fl_RX4_17 rfl) (by decide) rfl (c4_o hj) (c4_p1 hj) ?_
            refine r_iload_n (pc := 53) dX4_isAtRest_53 rfl ?_
            refine r_aald1_n (pc := 54) (i := x) 6 dX4_isAtRest_54 (by decide) (c4_a1 hj) (by decide) (by omega) (c4_q1 hj (by omega)) ?_
            refine r_aload_n (pc := 55) dX4_isAtRest_55 rfl ?_
            refine r_get1 (pc := 56) 4 1 17 dX4_isAtRest_56 (fl_RX4_17 rfl) (by decide) rfl (c4_o hj) (c4_p1 hj) ?_
            refine r_iload (pc := 59) dX4_isAtRest_59 rfl ?_
            refine r_aald1_n (pc := 61) (i := x ||| 2 ^ (h - 1)) 6 dX4_isAtRest_61 (by decide) (c4_a1 hj) (by decide) (by omega) (c4_q1 hj (by omega)) ?_
            refine r_callV_M (pc := 62) (b := jo) (As := [.ref t, .int (nI (2 * (x ||| 2 ^ (h - 1)))), .int (nI h), .ref (jo + 2 + 1 + x), .ref (jo + 2 + 1 + (x ||| 2 ^ (h - 1)))]) 4 60 dX4_isAtRest_62 lk_X4_better (ml_RX4_60 rfl) im_X4_better se_X4_better (by decide) (c4_o hj) (Nat.le_of_ble_eq_true rfl) rfl (better_ct hj hT hsp ht1 (by omega) (c4_r1 hj (by omega)) (c4_r1 hj (by omega)) (by omega) (by omega)) (fun v62 I2 hr62 => ?_)
            obtain ⟨rfl, hF2⟩ := hr62
            have hbt : btF (eS E) (eN E) (jP (nI (2 * (x ||| 2 ^ (h - 1))))) h (I1 (jo + 2 + 1 + x)) (I1 (jo + 2 + 1 + (x ||| 2 ^ (h - 1)))) = btF (eS E) (eN E) (jP (nI (2 * (x ||| 2 ^ (h - 1))))) h (er x) (er (x ||| 2 ^ (h - 1))) := btF_congr (fun y hy => (hfr _ _ (by omega)).trans (hr x hx hok y hy)) (fun y hy => (hfr _ _ (by omega)).trans (hr _ hmo (ok_more hn8 hx (by omega) hh.1 hok c38) y hy))
            refine r_if_le (pc := 65) (x := btF (eS E) (eN E) (jP (nI (2 * (x ||| 2 ^ (h - 1))))) h (I1 (jo + 2 + 1 + x)) (I1 (jo + 2 + 1 + (x ||| 2 ^ (h - 1))))) (tgt := 70) dX4_isAtRest_65 (by decide) (fun c65 => ?_) (fun c65 => ?_)
            · skip
              have hcase : ¬ moB E er x h := fun z => absurd (show _ ≤ (0 : Int32) from hbt ▸ c65) (Int32.not_le.mpr z.2.2)
              refine r_iinc (pc := 70) (v := nI (h + 1)) (L' := [some (.ref jo), some (.ref t), some (.int (buF E)), some (.int (nI x)), some (.int ((buF E) &&& ((nI (2 * x)) ^^^ (-1)))), some (.int (nI (h + 1))), some (.int (nI (x ||| 2 ^ (h - 1))))]) dX4_isAtRest_70 rfl (nI_inc _) (by decide) rfl rfl ?_
              refine r_goto (pc := 73) (tgt := 12) dX4_isAtRest_73 (by decide) ?_
              refine wp_sub [some (.ref jo), some (.ref t), some (.int (buF E)), some (.int (nI x)), some (.int ((buF E) &&& ((nI (2 * x)) ^^^ (-1)))), some (.int (nI (h + 1))), none] ⟨rfl, ⟨rfl, ⟨rfl, ⟨rfl, ⟨rfl, ⟨rfl, trivial⟩⟩⟩⟩⟩⟩ ?_
              exact ih12 _ (by omega) (h + 1) I2 rfl (by omega) (by exact fun y hy => (Nat.lt_or_ge y h).elim (hn y) (fun g => by obtain rfl : y = h := (by omega); exact hcase)) (by first | exact hfr | exact (fun a k g => (hF2 a k g).trans (hfr a k g)))
            · skip
              refine r_iconst (pc := 68) (v := 0) dX4_isAtRest_68 (by decide) ?_
              refine r_ret_z (pc := 69) dX4_isAtRest_69 rfl (by decide) ?_
              exact ⟨_, I2, rfl, rfl, Or.inl ⟨rfl, fun z => z h (by omega) ⟨hh.1, c38, hbt ▸ Int32.not_le.mp c65⟩⟩, fun a k g => (hF2 a k g).trans (hfr a k g)⟩
  exact lp12 _ 1 I rfl (by omega) (by exact fun y hy z => by have := z.1; omega) (by exact fun _ _ _ => rfl)
