/-! ===== scans: the i-th of those that hold ===== -/
def ctB (R : Nat → Bool) : Nat → Nat
  | 0 => 0
  | k + 1 => ctB R k + (if R k = true then 1 else 0)
theorem ctB_le (R : Nat → Bool) : ∀ k, ctB R k ≤ k
  | 0 => Nat.le_refl _
  | k + 1 => by
    unfold ctB
    have := ctB_le R k
    split <;> omega
def scF (R : Nat → Bool) (i : Int32) : Nat → Option Nat
  | 0 => none
  | k + 1 => match scF R i k with
    | some p => some p
    | none => if R k = true ∧ nI (ctB R k) = i then some k else none
theorem scF_keep {R : Nat → Bool} {i : Int32} {p k : Nat} (h : scF R i k = some p) : ∀ j, scF R i (k + j) = some p
  | 0 => h
  | j + 1 => by
    rw [← Nat.add_assoc]
    unfold scF
    rw [scF_keep h j]
theorem scF_hit {R : Nat → Bool} {i : Int32} {k : Nat} (h : scF R i k = none) (h1 : R k = true) (h2 : nI (ctB R k) = i) : scF R i (k + 1) = some k := by
  unfold scF
  rw [h]
  exact if_pos ⟨h1, h2⟩
theorem scF_miss {R : Nat → Bool} {i : Int32} {k : Nat} (h : scF R i k = none) (h1 : ¬ (R k = true ∧ nI (ctB R k) = i)) : scF R i (k + 1) = none := by
  unfold scF
  rw [h]
  exact if_neg h1
theorem ctB_hit {R : Nat → Bool} {k : Nat} (h : R k = true) : ctB R (k + 1) = ctB R k + 1 := congrArg (ctB R k + ·) (if_pos h)
theorem ctB_miss {R : Nat → Bool} {k : Nat} (h : ¬ R k = true) : ctB R (k + 1) = ctB R k := congrArg (ctB R k + ·) (if_neg h)
theorem ctB_congr {R S : Nat → Bool} : ∀ n, (∀ k, k < n → R k = S k) → ctB R n = ctB S n
  | 0, _ => rfl
  | n + 1, h => by
    unfold ctB
    rw [ctB_congr n (fun k hk => h k (by omega)), h n (by omega)]
theorem scF_congr {R S : Nat → Bool} {i : Int32} : ∀ n, (∀ k, k < n → R k = S k) → scF R i n = scF S i n
  | 0, _ => rfl
  | n + 1, h => by
    unfold scF
    rw [scF_congr n (fun k hk => h k (by omega)), ctB_congr n (fun k hk => h k (by omega)), h n (by omega)]
/-- the i-th position's code, or how many, or none -/
def scA (R : Nat → Bool) (i : Int32) (N : Nat) (cd : Nat → Nat) : Int32 := match scF R i N with
  | some p => nI (cd p)
  | none => if i = -1 then nI (ctB R N) else -1
theorem scA_hit {R : Nat → Bool} {i : Int32} {N : Nat} {cd : Nat → Nat} {k : Nat} (hk : k < N) (h : scF R i k = none) (h1 : R k = true) (h2 : nI (ctB R k) = i) : nI (cd k) = scA R i N cd := by
  have := scF_keep (scF_hit h h1 h2) (N - (k + 1))
  rw [show k + 1 + (N - (k + 1)) = N by omega] at this
  unfold scA
  rw [this]
theorem scA_miss {R : Nat → Bool} {i : Int32} {N : Nat} {cd : Nat → Nat} (h : scF R i N = none) : (if i = -1 then nI (ctB R N) else -1) = scA R i N cd := by
  unfold scA
  rw [h]
theorem scA_congr {R S : Nat → Bool} {i : Int32} {N : Nat} {cd : Nat → Nat} (h : ∀ k, k < N → R k = S k) : scA R i N cd = scA S i N cd := by
  unfold scA
  rw [scF_congr N h, ctB_congr N h]
/-! ===== rivals ===== -/
def gdF (a l : Nat → Int32) (x y : Nat) : Int32 := if x < y then a x else if x = y then l x else 0
def mxF (g : Nat → Int32) : Nat → Int32
  | 0 => g 0
  | k + 1 => if mxF g k < g (k + 1) then g (k + 1) else mxF g k
theorem mxF_step (g : Nat → Int32) {k : Nat} (h : 1 ≤ k) : mxF g k = if mxF g (k - 1) < g k then g k else mxF g (k - 1) := by
  obtain ⟨j, rfl⟩ : ∃ j, k = j + 1 := ⟨k - 1, by omega⟩
  rfl
theorem mxF_ge (g : Nat → Int32) : ∀ k x, x ≤ k → g x ≤ mxF g k
  | 0, x, hx => by
    obtain rfl : x = 0 := by omega
    exact Int32.le_refl _
  | k + 1, x, hx => by
    unfold mxF
    by_cases e : x = k + 1
    · subst e
      split
      · exact Int32.le_refl _
      · next h => exact Int32.not_lt.mp h
    · have := mxF_ge g k x (by omega)
      split
      · next h => exact Int32.le_of_lt (Int32.lt_of_le_of_lt this h)
      · exact this
theorem mxF_is (g : Nat → Int32) : ∀ k, ∃ x, x ≤ k ∧ mxF g k = g x
  | 0 => ⟨0, Nat.le_refl _, rfl⟩
  | k + 1 => by
    obtain ⟨x, hx, e⟩ := mxF_is g k
    unfold mxF
    split
    · exact ⟨k + 1, Nat.le_refl _, rfl⟩
    · exact ⟨x, by omega, e⟩
theorem mxF_eq {g : Nat → Int32} {k y : Nat} (hy : y ≤ k) : g y = mxF g k ↔ ∀ x, x ≤ k → g x ≤ g y := by
  constructor
  · intro h x hx
    rw [h]
    exact mxF_ge g k x hx
  · intro h
    obtain ⟨x, hx, e⟩ := mxF_is g k
    exact Int32.le_antisymm (mxF_ge g k y hy) (e ▸ h x hx)
/-- at rest, by the four rows -/
def duB (a1 l1 a2 l2 : Nat → Int32) (r : Nat) : Bool := decide (gdF a1 l1 (r / 42) (r % 42) = mxF (fun x => gdF a1 l1 x (r % 42)) 41 ∧ gdF a2 l2 (r % 42) (r / 42) = mxF (fun x => gdF a2 l2 x (r / 42)) 41)
abbrev cd64 (r : Nat) : Nat := 64 * (r / 42) + r % 42
theorem dm42 {p q : Nat} (hq : q < 42) : (42 * p + q) / 42 = p ∧ (42 * p + q) % 42 = q := by omega

set_option maxRecDepth 100000 in
theorem gained_ct {d : Nat} {I : Im} {G : Gm} {du a l : Nat} (hd : isC1 G du) (ha : ar (I, G) a 1 42) (hl : ar (I, G) l 1 42) {x y : Nat} (hx : x < 42) (hy : y < 42) : Ct (d + 1) 0 0 YX1_gained [.ref du, .ref a, .ref l, .int (nI x), .int (nI y)] (I, G) (qP (gdF (I a) (I l) x y) (I, G)) := by
  refine Ct.of (by decide) (by simp [Value.category]) (Nat.le_of_ble_eq_true rfl) ?_
  show wp _ _ _ _ 0 [some (.ref du), some (.ref a), some (.ref l), some (.int (nI x)), some (.int (nI y))] [] _ _
  refine r_iload_n (pc := 0) dX1_gained_0 rfl ?_
  refine r_iload (pc := 1) dX1_gained_1 rfl ?_
  refine r_icmp_ge_n (pc := 3) (a := x) (b := y) (tgt := 12) dX1_gained_3 (by decide) (by omega) (by omega) (fun c3 => ?_) (fun c3 => ?_)
  · skip
    refine r_iload_n (pc := 12) dX1_gained_12 rfl ?_
    refine r_iload (pc := 13) dX1_gained_13 rfl ?_
    refine r_icmp_ne_n (pc := 15) (a := x) (b := y) (tgt := 24) dX1_gained_15 (by decide) (by omega) (by omega) (fun c15 => ?_) (fun c15 => ?_)
    · skip
      refine r_iconst (pc := 24) (v := 0) dX1_gained_24 (by decide) ?_
      refine r_ret_i (pc := 25) dX1_gained_25 rfl ?_
      exact ⟨congrArg (fun z => some (Value.int z)) (by unfold gdF; first | (rw [if_pos (by omega)]; done) | (rw [if_neg (by omega), if_pos (by omega)]; done) | (rw [if_neg (by omega), if_neg (by omega)]; done) | (rw [if_neg (by omega), if_neg (by omega)]; rfl)), rfl⟩
    · skip
      refine r_aload_n (pc := 18) dX1_gained_18 rfl ?_
      refine r_iload_n (pc := 19) dX1_gained_19 rfl ?_
      refine r_iald_n (pc := 20) (i := x) dX1_gained_20 hl (by decide) (by omega) rfl ?_
      refine r_goto (pc := 21) (tgt := 25) dX1_gained_21 (by decide) ?_
      refine r_ret_i (pc := 25) dX1_gained_25 rfl ?_
      exact ⟨congrArg (fun z => some (Value.int z)) (by unfold gdF; first | (rw [if_pos (by omega)]; done) | (rw [if_neg (by omega), if_pos (by omega)]; done) | (rw [if_neg (by omega), if_neg (by omega)]; done) | (rw [if_neg (by omega), if_neg (by omega)]; rfl)), rfl⟩
  · skip
    refine r_aload_n (pc := 6) dX1_gained_6 rfl ?_
    refine r_iload_n (pc := 7) dX1_gained_7 rfl ?_
    refine r_iald_n (pc := 8) (i := x) dX1_gained_8 ha (by decide) (by omega) rfl ?_
    refine r_goto (pc := 9) (tgt := 25) dX1_gained_9 (by decide) ?_
    refine r_ret_i (pc := 25) dX1_gained_25 rfl ?_
    exact ⟨congrArg (fun z => some (Value.int z)) (by unfold gdF; first | (rw [if_pos (by omega)]; done) | (rw [if_neg (by omega), if_pos (by omega)]; done) | (rw [if_neg (by omega), if_neg (by omega)]; done) | (rw [if_neg (by omega), if_neg (by omega)]; rfl)), rfl⟩

set_option maxRecDepth 100000 in
theorem bestAgainst_ct {d : Nat} {I : Im} {G : Gm} {du a l : Nat} (hd : isC1 G du) (ha : ar (I, G) a 1 42) (hl : ar (I, G) l 1 42) {y : Nat} (hy : y < 42) : Ct (d + 2) 0 0 YX1_bestAgainst [.ref du, .ref a, .ref l, .int (nI y)] (I, G) (qP (mxF (fun x => gdF (I a) (I l) x y) 41) (I, G)) := by
  refine Ct.of (by decide) (by simp [Value.category]) (Nat.le_of_ble_eq_true rfl) ?_
  show wp _ _ _ _ 0 [some (.ref du), some (.ref a), some (.ref l), some (.int (nI y)), none, none, none] [] _ _
  refine r_aload_n (pc := 0) dX1_bestAgainst_0 rfl ?_
  refine r_aload_n (pc := 1) dX1_bestAgainst_1 rfl ?_
  refine r_aload_n (pc := 2) dX1_bestAgainst_2 rfl ?_
  refine r_iconst (pc := 3) (v := 0) dX1_bestAgainst_3 (by decide) ?_
  refine r_iload_n (pc := 4) dX1_bestAgainst_4 rfl ?_
  refine r_callV_P (pc := 5) (b := du) (As := [.ref a, .ref l, .int (nI 0), .int (nI y)]) 1 51 dX1_bestAgainst_5 lk_X1_gained (ml_RX1_51 rfl) im_X1_gained se_X1_gained (by decide) (c1_o hd) (Nat.le_of_ble_eq_true rfl) rfl (gained_ct hd ha hl (by omega) (by omega)) ?_
  refine r_istore (pc := 8) (L' := [some (.ref du), some (.ref a), some (.ref l), some (.int (nI y)), some (.int (gdF (I a) (I l) 0 y)), none, none]) dX1_bestAgainst_8 (by decide) rfl rfl ?_
  refine r_iconst (pc := 10) (v := 1) dX1_bestAgainst_10 (by decide) ?_
  refine r_istore (pc := 11) (L' := [some (.ref du), some (.ref a), some (.ref l), some (.int (nI y)), some (.int (gdF (I a) (I l) 0 y)), some (.int (nI 1)), none]) dX1_bestAgainst_11 (by decide) rfl rfl ?_
  have lp13 : ∀ (n13 : Nat), ∀ (k : Nat) (mo : Int32), 42 - k = n13 → (1 ≤ k ∧ k ≤ 42) → (mo = mxF (fun x => gdF (I a) (I l) x y) (k - 1)) → wp (d + 2) 0 0 YX1_bestAgainst 13 [some (.ref du), some (.ref a), some (.ref l), some (.int (nI y)), some (.int mo), some (.int (nI k)), none] [] (I, G) (qP (mxF (fun x => gdF (I a) (I l) x y) 41) (I, G)) := by
    intro n13
    induction n13 using Nat.strongRecOn with
    | ind n13 ih13 =>
      intro k mo hmu13 hk hm
      refine r_iload (pc := 13) dX1_bestAgainst_13 rfl ?_
      refine r_bipush (pc := 15) (v := 41) dX1_bestAgainst_15 (by decide) ?_
      refine r_icmp_gt_n (pc := 17) (a := k) (b := 41) (tgt := 48) dX1_bestAgainst_17 (by decide) (by omega) (by omega) (fun c17 => ?_) (fun c17 => ?_)
      · skip
        refine r_iload (pc := 48) dX1_bestAgainst_48 rfl ?_
        refine r_ret_i (pc := 50) dX1_bestAgainst_50 rfl ?_
        exact ⟨by rw [hm, show k - 1 = 41 by omega], rfl⟩
      · skip
        refine r_aload_n (pc := 20) dX1_bestAgainst_20 rfl ?_
        refine r_aload_n (pc := 21) dX1_bestAgainst_21 rfl ?_
        refine r_aload_n (pc := 22) dX1_bestAgainst_22 rfl ?_
        refine r_iload (pc := 23) dX1_bestAgainst_23 rfl ?_
        refine r_iload_n (pc := 25) dX1_bestAgainst_25 rfl ?_
        refine r_callV_P (pc := 26) (b := du) (As := [.ref a, .ref l, .int (nI k), .int (nI y)]) 1 51 dX1_bestAgainst_26 lk_X1_gained (ml_RX1_51 rfl) im_X1_gained se_X1_gained (by decide) (c1_o hd) (Nat.le_of_ble_eq_true rfl) rfl (gained_ct hd ha hl (by omega) (by omega)) ?_
        refine r_istore (pc := 29) (L' := [some (.ref du), some (.ref a), some (.ref l), some (.int (nI y)), some (.int mo), some (.int (nI k)), some (.int (gdF (I a) (I l) k y))]) dX1_bestAgainst_29 (by decide) rfl rfl ?_
        refine r_iload (pc := 31) dX1_bestAgainst_31 rfl ?_
        refine r_iload (pc := 33) dX1_bestAgainst_33 rfl ?_
        refine r_icmp_le (pc := 35) (x := gdF (I a) (I l) k y) (z := mo) (tgt := 42) dX1_bestAgainst_35 (by decide) (fun c35 => ?_) (fun c35 => ?_)
        · skip
          refine r_iinc (pc := 42) (v := nI (k + 1)) (L' := [some (.ref du), some (.ref a), some (.ref l), some (.int (nI y)), some (.int mo), some (.int (nI (k + 1))), some (.int (gdF (I a) (I l) k y))]) dX1_bestAgainst_42 rfl (nI_inc _) (by decide) rfl rfl ?_
          refine r_goto (pc := 45) (tgt := 13) dX1_bestAgainst_45 (by decide) ?_
          refine wp_sub [some (.ref du), some (.ref a), some (.ref l), some (.int (nI y)), some (.int mo), some (.int (nI (k + 1))), none] ⟨rfl, ⟨rfl, ⟨rfl, ⟨rfl, ⟨rfl, ⟨rfl, trivial⟩⟩⟩⟩⟩⟩ ?_
          exact ih13 _ (by omega) (k + 1) mo rfl (by omega) (by rw [Nat.add_sub_cancel, mxF_step _ hk.1, ← hm]; first | exact (if_pos (Int32.not_le.mp c35)).symm | exact (if_neg (Int32.not_lt.mpr c35)).symm)
        · skip
          refine r_iload (pc := 38) dX1_bestAgainst_38 rfl ?_
          refine r_istore (pc := 40) (L' := [some (.ref du), some (.ref a), some (.ref l), some (.int (nI y)), some (.int (gdF (I a) (I l) k y)), some (.int (nI k)), some (.int (gdF (I a) (I l) k y))]) dX1_bestAgainst_40 (by decide) rfl rfl ?_
          refine r_iinc (pc := 42) (v := nI (k + 1)) (L' := [some (.ref du), some (.ref a), some (.ref l), some (.int (nI y)), some (.int (gdF (I a) (I l) k y)), some (.int (nI (k + 1))), some (.int (gdF (I a) (I l) k y))]) dX1_bestAgainst_42 rfl (nI_inc _) (by decide) rfl rfl ?_
          refine r_goto (pc := 45) (tgt := 13) dX1_bestAgainst_45 (by decide) ?_
          refine wp_sub [some (.ref du), some (.ref a), some (.ref l), some (.int (nI y)), some (.int (gdF (I a) (I l) k y)), some (.int (nI (k + 1))), none] ⟨rfl, ⟨rfl, ⟨rfl, ⟨rfl, ⟨rfl, ⟨rfl, trivial⟩⟩⟩⟩⟩⟩ ?_
          exact ih13 _ (by omega) (k + 1) (gdF (I a) (I l) k y) rfl (by omega) (by rw [Nat.add_sub_cancel, mxF_step _ hk.1, ← hm]; first | exact (if_pos (Int32.not_le.mp c35)).symm | exact (if_neg (Int32.not_lt.mpr c35)).symm)
  exact lp13 _ 1 (gdF (I a) (I l) 0 y) rfl (by omega) (by rfl)

set_option maxRecDepth 100000 in
theorem isRest_ct {d : Nat} {I : Im} {G : Gm} {du p q : Nat} (hd : isC1 G du) (hp : p < 42) (hq : q < 42) : Ct (d + 2) 0 0 YX1_isRest [.ref du, .int (nI p), .int (nI q)] (I, G) (qP (bz (gdF (I (du + 1)) (I (du + 3)) p q = I (du + 5) q ∧ gdF (I (du + 2)) (I (du + 4)) q p = I (du + 6) p)) (I, G)) := by
  refine Ct.of (by decide) (by simp [Value.category]) (Nat.le_of_ble_eq_true rfl) ?_
  show wp _ _ _ _ 0 [some (.ref du), some (.int (nI p)), some (.int (nI q))] [] _ _
  refine r_aload_n (pc := 0) dX1_isRest_0 rfl ?_
  refine r_aload_n (pc := 1) dX1_isRest_1 rfl ?_
  refine r_get1 (pc := 2) 1 0 9 dX1_isRest_2 (fl_RX1_9 rfl) (by decide) rfl (c1_o hd) (c1_p0 hd) ?_
  refine r_aload_n (pc := 5) dX1_isRest_5 rfl ?_
  refine r_get1 (pc := 6) 1 2 18 dX1_isRest_6 (fl_RX1_18 rfl) (by decide) rfl (c1_o hd) (c1_p2 hd) ?_
  refine r_iload_n (pc := 9) dX1_isRest_9 rfl ?_
  refine r_iload_n (pc := 10) dX1_isRest_10 rfl ?_
  refine r_callV_P (pc := 11) (b := du) (As := [.ref (du + 1), .ref (du + 3), .int (nI p), .int (nI q)]) 1 51 dX1_isRest_11 lk_X1_gained (ml_RX1_51 rfl) im_X1_gained se_X1_gained (by decide) (c1_o hd) (Nat.le_of_ble_eq_true rfl) rfl (gained_ct hd (c1_a0 hd) (c1_a2 hd) (by omega) (by omega)) ?_
  refine r_aload_n (pc := 14) dX1_isRest_14 rfl ?_
  refine r_get1 (pc := 15) 1 4 24 dX1_isRest_15 (fl_RX1_24 rfl) (by decide) rfl (c1_o hd) (c1_p4 hd) ?_
  refine r_iload_n (pc := 18) dX1_isRest_18 rfl ?_
  refine r_iald_n (pc := 19) (i := q) dX1_isRest_19 (c1_a4 hd) (by decide) (by omega) rfl ?_
  refine r_icmp_ne (pc := 20) (x := gdF (I (du + 1)) (I (du + 3)) p q) (z := I (du + 5) q) (tgt := 50) dX1_isRest_20 (by decide) (fun c20 => ?_) (fun c20 => ?_)
  · skip
    refine r_iconst (pc := 50) (v := 0) dX1_isRest_50 (by decide) ?_
    refine r_ret_z (pc := 51) dX1_isRest_51 rfl (by decide) ?_
    exact ⟨congrArg (fun z => some (Value.int z)) (by first | exact bz_t (by simp_all) | exact bz_f (by simp_all)), rfl⟩
  · skip
    refine r_aload_n (pc := 23) dX1_isRest_23 rfl ?_
    refine r_aload_n (pc := 24) dX1_isRest_24 rfl ?_
    refine r_get1 (pc := 25) 1 1 15 dX1_isRest_25 (fl_RX1_15 rfl) (by decide) rfl (c1_o hd) (c1_p1 hd) ?_
    refine r_aload_n (pc := 28) dX1_isRest_28 rfl ?_
    refine r_get1 (pc := 29) 1 3 21 dX1_isRest_29 (fl_RX1_21 rfl) (by decide) rfl (c1_o hd) (c1_p3 hd) ?_
    refine r_iload_n (pc := 32) dX1_isRest_32 rfl ?_
    refine r_iload_n (pc := 33) dX1_isRest_33 rfl ?_
    refine r_callV_P (pc := 34) (b := du) (As := [.ref (du + 2), .ref (du + 4), .int (nI q), .int (nI p)]) 1 51 dX1_isRest_34 lk_X1_gained (ml_RX1_51 rfl) im_X1_gained se_X1_gained (by decide) (c1_o hd) (Nat.le_of_ble_eq_true rfl) rfl (gained_ct hd (c1_a1 hd) (c1_a3 hd) (by omega) (by omega)) ?_
    refine r_aload_n (pc := 37) dX1_isRest_37 rfl ?_
    refine r_get1 (pc := 38) 1 5 27 dX1_isRest_38 (fl_RX1_27 rfl) (by decide) rfl (c1_o hd) (c1_p5 hd) ?_
    refine r_iload_n (pc := 41) dX1_isRest_41 rfl ?_
    refine r_iald_n (pc := 42) (i := p) dX1_isRest_42 (c1_a5 hd) (by decide) (by omega) rfl ?_
    refine r_icmp_ne (pc := 43) (x := gdF (I (du + 2)) (I (du + 4)) q p) (z := I (du + 6) p) (tgt := 50) dX1_isRest_43 (by decide) (fun c43 => ?_) (fun c43 => ?_)
    · skip
      refine r_iconst (pc := 50) (v := 0) dX1_isRest_50 (by decide) ?_
      refine r_ret_z (pc := 51) dX1_isRest_51 rfl (by decide) ?_
      exact ⟨congrArg (fun z => some (Value.int z)) (by first | exact bz_t (by simp_all) | exact bz_f (by simp_all)), rfl⟩
    · skip
      refine r_iconst (pc := 46) (v := 1) dX1_isRest_46 (by decide) ?_
      refine r_goto (pc := 47) (tgt := 51) dX1_isRest_47 (by decide) ?_
      refine r_ret_z (pc := 51) dX1_isRest_51 rfl (by decide) ?_
      exact ⟨congrArg (fun z => some (Value.int z)) (by first | exact bz_t (by simp_all) | exact bz_f (by simp_all)), rfl⟩

theorem isRest_e {d : Nat} {I I1 : Im} {G : Gm} {du p q : Nat} (hd : isC1 G du) (hp : p < 42) (hq : q < 42) (h5 : ∀ y, y < 42 → I1 (du + 5) y = mxF (fun x => gdF (I (du + 1)) (I (du + 3)) x y) 41) (h6 : ∀ y, y < 42 → I1 (du + 6) y = mxF (fun x => gdF (I (du + 2)) (I (du + 4)) x y) 41) (hf : ∀ a k, a ≠ du + 5 → a ≠ du + 6 → I1 a k = I a k) : Ct (d + 2) 0 0 YX1_isRest [.ref du, .int (nI p), .int (nI q)] (I1, G) (qP (bz (duB (I (du + 1)) (I (du + 3)) (I (du + 2)) (I (du + 4)) (42 * p + q) = true)) (I1, G)) := by
  have g := isRest_ct (d := d) (I := I1) hd hp hq
  have e1 : I1 (du + 1) = I (du + 1) := funext fun k => hf _ k (by omega) (by omega)
  have e2 : I1 (du + 2) = I (du + 2) := funext fun k => hf _ k (by omega) (by omega)
  have e3 : I1 (du + 3) = I (du + 3) := funext fun k => hf _ k (by omega) (by omega)
  have e4 : I1 (du + 4) = I (du + 4) := funext fun k => hf _ k (by omega) (by omega)
  rw [e1, e2, e3, e4, h5 q hq, h6 p hp] at g
  have e : bz (duB (I (du + 1)) (I (du + 3)) (I (du + 2)) (I (du + 4)) (42 * p + q) = true) = bz (gdF (I (du + 1)) (I (du + 3)) p q = mxF (fun x => gdF (I (du + 1)) (I (du + 3)) x q) 41 ∧ gdF (I (du + 2)) (I (du + 4)) q p = mxF (fun x => gdF (I (du + 2)) (I (du + 4)) x p) 41) := by
    apply bz_congr
    unfold duB
    rw [(dm42 hq).1, (dm42 hq).2, decide_eq_true_iff]
  rw [e]
  exact g

theorem bestAgainst_e {d : Nat} {I1 : Im} {G : Gm} {du a l y : Nat} (hd : isC1 G du) (ha : ar (I1, G) a 1 42) (hl : ar (I1, G) l 1 42) (hy : y < 42) {f g : Nat → Int32} (hf : I1 a = f) (hg : I1 l = g) : Ct (d + 2) 0 0 YX1_bestAgainst [.ref du, .ref a, .ref l, .int (nI y)] (I1, G) (qP (mxF (fun x => gdF f g x y) 41) (I1, G)) := by
  subst hf hg
  exact bestAgainst_ct hd ha hl hy

set_option maxRecDepth 100000 in
theorem restAt_ct {d : Nat} {I : Im} {G : Gm} {du : Nat} {i : Int32} (hd : isC1 G du) : Ct (d + 3) 0 0 YX1_restAt [.ref du, .int i] (I, G) (qM G (fun v I2 => v = scA (duB (I (du + 1)) (I (du + 3)) (I (du + 2)) (I (du + 4))) i 1764 cd64 ∧ ∀ a k, a ≠ du + 5 → a ≠ du + 6 → I2 a k = I a k)) := by
  refine Ct.of (by decide) (by simp [Value.category]) (Nat.le_of_ble_eq_true rfl) ?_
  show wp _ _ _ _ 0 [some (.ref du), some (.int i), none, none, none] [] _ _
  refine r_iconst (pc := 0) (v := 0) dX1_restAt_0 (by decide) ?_
  refine r_istore_n (pc := 1) (L' := [some (.ref du), some (.int i), some (.int (nI 0)), none, none]) dX1_restAt_1 (by decide) rfl rfl ?_
  have lp2 : ∀ (n2 : Nat), ∀ (y : Nat) (I1 : Im), 42 - y = n2 → (y ≤ 42) → (∀ z, z < y → I1 (du + 5) z = mxF (fun x => gdF (I (du + 1)) (I (du + 3)) x z) 41) → (∀ z, z < y → I1 (du + 6) z = mxF (fun x => gdF (I (du + 2)) (I (du + 4)) x z) 41) → (∀ a k, a ≠ du + 5 → a ≠ du + 6 → I1 a k = I a k) → wp (d + 3) 0 0 YX1_restAt 2 [some (.ref du), some (.int i), some (.int (nI y)), none, none] [] (I1, G) (qM G (fun v I2 => v = scA (duB (I (du + 1)) (I (du + 3)) (I (du + 2)) (I (du + 4))) i 1764 cd64 ∧ ∀ a k, a ≠ du + 5 → a ≠ du + 6 → I2 a k = I a k)) := by
    intro n2
    induction n2 using Nat.strongRecOn with
    | ind n2 ih2 =>
      intro y I1 hmu2 hy h5 h6 hfr
      refine r_iload_n (pc := 2) dX1_restAt_2 rfl ?_
      refine r_bipush (pc := 3) (v := 41) dX1_restAt_3 (by decide) ?_
      refine r_icmp_gt_n (pc := 5) (a := y) (b := 41) (tgt := 52) dX1_restAt_5 (by decide) (by omega) (by omega) (fun c5 => ?_) (fun c5 => ?_)
      · skip
        have hB5 : ∀ z, z < 42 → I1 (du + 5) z = _ := fun z hz => h5 z (by omega)
        have hB6 : ∀ z, z < 42 → I1 (du + 6) z = _ := fun z hz => h6 z (by omega)
        refine r_iconst (pc := 52) (v := 0) dX1_restAt_52 (by decide) ?_
        refine r_istore_n (pc := 53) (L' := [some (.ref du), some (.int i), some (.int (nI 0)), none, none]) dX1_restAt_53 (by decide) rfl rfl ?_
        refine r_iconst (pc := 54) (v := 0) dX1_restAt_54 (by decide) ?_
        refine r_istore_n (pc := 55) (L' := [some (.ref du), some (.int i), some (.int (nI 0)), some (.int (nI 0)), none]) dX1_restAt_55 (by decide) rfl rfl ?_
        have lp56 : ∀ (n56 : Nat), ∀ (p : Nat) (f : Nat), 42 - p = n56 → (p ≤ 42) → (f = ctB (duB (I (du + 1)) (I (du + 3)) (I (du + 2)) (I (du + 4))) (42 * p)) → (scF (duB (I (du + 1)) (I (du + 3)) (I (du + 2)) (I (du + 4))) i (42 * p) = none) → wp (d + 3) 0 0 YX1_restAt 56 [some (.ref du), some (.int i), some (.int (nI f)), some (.int (nI p)), none] [] (I1, G) (qM G (fun v I2 => v = scA (duB (I (du + 1)) (I (du + 3)) (I (du + 2)) (I (du + 4))) i 1764 cd64 ∧ ∀ a k, a ≠ du + 5 → a ≠ du + 6 → I2 a k = I a k)) := by
          intro n56
          induction n56 using Nat.strongRecOn with
          | ind n56 ih56 =>
            intro p f hmu56 hp hf hs
            refine r_iload_n (pc := 56) dX1_restAt_56 rfl ?_
            refine r_bipush (pc := 57) (v := 41) dX1_restAt_57 (by decide) ?_
            refine r_icmp_gt_n (pc := 59) (a := p) (b := 41) (tgt := 110) dX1_restAt_59 (by decide) (by omega) (by omega) (fun c59 => ?_) (fun c59 => ?_)
            · skip
              refine r_iload_n (pc := 110) dX1_restAt_110 rfl ?_
              refine r_iconst (pc := 111) (v := -1) dX1_restAt_111 (by decide) ?_
              refine r_icmp_ne (pc := 112) (x := i) (z := (-1)) (tgt := 119) dX1_restAt_112 (by decide) (fun c112 => ?_) (fun c112 => ?_)
              · skip
                refine r_iconst (pc := 119) (v := -1) dX1_restAt_119 (by decide) ?_
                refine r_ret_i (pc := 120) dX1_restAt_120 rfl ?_
                refine ⟨_, I1, rfl, rfl, ?_, hfr⟩
                obtain rfl : p = 42 := (by omega)
                rw [← scA_miss hs, ← hf]
                first | (rw [if_pos c112]; done) | (rw [if_neg c112]; done)
              · skip
                refine r_iload_n (pc := 115) dX1_restAt_115 rfl ?_
                refine r_goto (pc := 116) (tgt := 120) dX1_restAt_116 (by decide) ?_
                refine r_ret_i (pc := 120) dX1_restAt_120 rfl ?_
                refine ⟨_, I1, rfl, rfl, ?_, hfr⟩
                obtain rfl : p = 42 := (by omega)
                rw [← scA_miss hs, ← hf]
                first | (rw [if_pos c112]; done) | (rw [if_neg c112]; done)
            · skip
              refine r_iconst (pc := 62) (v := 0) dX1_restAt_62 (by decide) ?_
              refine r_istore (pc := 63) (L' := [some (.ref du), some (.int i), some (.int (nI f)), some (.int (nI p)), some (.int (nI 0))]) dX1_restAt_63 (by decide) rfl rfl ?_
              have lp65 : ∀ (n65 : Nat), ∀ (q : Nat) (f2 : Nat), 42 - q = n65 → (q ≤ 42) → (f2 = ctB (duB (I (du + 1)) (I (du + 3)) (I (du + 2)) (I (du + 4))) (42 * p + q)) → (scF (duB (I (du + 1)) (I (du + 3)) (I (du + 2)) (I (du + 4))) i (42 * p + q) = none) → wp (d + 3) 0 0 YX1_restAt 65 [some (.ref du), some (.int i), some (.int (nI f2)), some (.int (nI p)), some (.int (nI q))] [] (I1, G) (qM G (fun v I2 => v = scA (duB (I (du + 1)) (I (du + 3)) (I (du + 2)) (I (du + 4))) i 1764 cd64 ∧ ∀ a k, a ≠ du + 5 → a ≠ du + 6 → I2 a k = I a k)) := by
                intro n65
                induction n65 using Nat.strongRecOn with
                | ind n65 ih65 =>
                  intro q f2 hmu65 hq hf2 hs2
                  refine r_iload (pc := 65) dX1_restAt_65 rfl ?_
                  refine r_bipush (pc := 67) (v := 41) dX1_restAt_67 (by decide) ?_
                  refine r_icmp_gt_n (pc := 69) (a := q) (b := 41) (tgt := 104) dX1_restAt_69 (by decide) (by omega) (by omega) (fun c69 => ?_) (fun c69 => ?_)
                  · skip
                    refine r_iinc (pc := 104) (v := nI (p + 1)) (L' := [some (.ref du), some (.int i), some (.int (nI f2)), some (.int (nI (p + 1))), some (.int (nI q))]) dX1_restAt_104 rfl (nI_inc _) (by decide) rfl rfl ?_
                    refine r_goto (pc := 107) (tgt := 56) dX1_restAt_107 (by decide) ?_
                    refine wp_sub [some (.ref du), some (.int i), some (.int (nI f2)), some (.int (nI (p + 1))), none] ⟨rfl, ⟨rfl, ⟨rfl, ⟨rfl, trivial⟩⟩⟩⟩ ?_
                    exact ih56 _ (by omega) (p + 1) f2 rfl (by omega) (by rw [hf2, show 42 * p + q = 42 * (p + 1) by omega]) (by rw [show 42 * (p + 1) = 42 * p + q by omega]; exact hs2)
                  · skip
                    refine r_aload_n (pc := 72) dX1_restAt_72 rfl ?_
                    refine r_iload_n (pc := 73) dX1_restAt_73 rfl ?_
                    refine r_iload (pc := 74) dX1_restAt_74 rfl ?_
                    refine r_callV_P (pc := 76) (b := du) (As := [.int (nI p), .int (nI q)]) 1 47 dX1_restAt_76 lk_X1_isRest (ml_RX1_47 rfl) im_X1_isRest se_X1_isRest (by decide) (c1_o hd) (Nat.le_of_ble_eq_true rfl) rfl (isRest_e hd (by omega) (by omega) hB5 hB6 hfr) ?_
                    refine r_if_eq_b (pc := 79) (tgt := 98) dX1_restAt_79 (by decide) (fun c79 => ?_) (fun c79 => ?_)
                    · skip
                      refine r_iinc (pc := 98) (v := nI (q + 1)) (L' := [some (.ref du), some (.int i), some (.int (nI f2)), some (.int (nI p)), some (.int (nI (q + 1)))]) dX1_restAt_98 rfl (nI_inc _) (by decide) rfl rfl ?_
                      refine r_goto (pc := 101) (tgt := 65) dX1_restAt_101 (by decide) ?_
                      exact ih65 _ (by omega) (q + 1) f2 rfl (by omega) (by first | exact (hf2.trans (ctB_miss c79).symm) | exact ((congrArg (· + 1) hf2).trans (ctB_hit c79).symm)) (by first | exact scF_miss hs2 (fun z => c79 z.1) | exact scF_miss hs2 (fun z => c84 (by rw [hf2]; exact z.2)))
                    · skip
                      refine r_iload_n (pc := 82) dX1_restAt_82 rfl ?_
                      refine r_iload_n (pc := 83) dX1_restAt_83 rfl ?_
                      refine r_icmp_ne (pc := 84) (x := nI f2) (z := i) (tgt := 95) dX1_restAt_84 (by decide) (fun c84 => ?_) (fun c84 => ?_)
                      · skip
                        refine r_iinc (pc := 95) (v := nI (f2 + 1)) (L' := [some (.ref du), some (.int i), some (.int (nI (f2 + 1))), some (.int (nI p)), some (.int (nI q))]) dX1_restAt_95 rfl (nI_inc _) (by decide) rfl rfl ?_
                        refine r_iinc (pc := 98) (v := nI (q + 1)) (L' := [some (.ref du), some (.int i), some (.int (nI (f2 + 1))), some (.int (nI p)), some (.int (nI (q + 1)))]) dX1_restAt_98 rfl (nI_inc _) (by decide) rfl rfl ?_
                        refine r_goto (pc := 101) (tgt := 65) dX1_restAt_101 (by decide) ?_
                        exact ih65 _ (by omega) (q + 1) (f2 + 1) rfl (by omega) (by first | exact (hf2.trans (ctB_miss c79).symm) | exact ((congrArg (· + 1) hf2).trans (ctB_hit c79).symm)) (by first | exact scF_miss hs2 (fun z => c79 z.1) | exact scF_miss hs2 (fun z => c84 (by rw [hf2]; exact z.2)))
                      · skip
                        refine r_bipush (pc := 87) (v := 64) dX1_restAt_87 (by decide) ?_
                        refine r_iload_n (pc := 89) dX1_restAt_89 rfl ?_
                        refine r_imul_n (pc := 90) (a := 64) (b := p) dX1_restAt_90 ?_
                        refine r_iload (pc := 91) dX1_restAt_91 rfl ?_
                        refine r_iadd_n (pc := 93) (a := 64 * p) (b := q) dX1_restAt_93 ?_
                        refine r_ret_i (pc := 94) dX1_restAt_94 rfl ?_
                        refine ⟨_, I1, rfl, rfl, ?_, hfr⟩
                        rw [show 64 * p + q = cd64 (42 * p + q) by unfold cd64; rw [(dm42 (show q < 42 by omega)).1, (dm42 (show q < 42 by omega)).2]]
                        exact scA_hit (by omega) hs2 c79 (by rw [← hf2]; exact c84)
              exact lp65 _ 0 f rfl (by omega) hf hs
        exact lp56 _ 0 0 rfl (by omega) (by rfl) (by rfl)
      · skip
        have hf1 : I1 (du + 1) = I (du + 1) := funext fun k => hfr _ k (by omega) (by omega)
        have hf3 : I1 (du + 3) = I (du + 3) := funext fun k => hfr _ k (by omega) (by omega)
        refine r_aload_n (pc := 8) dX1_restAt_8 rfl ?_
        refine r_get1 (pc := 9) 1 4 24 dX1_restAt_9 (fl_RX1_24 rfl) (by decide) rfl (c1_o hd) (c1_p4 hd) ?_
        refine r_iload_n (pc := 12) dX1_restAt_12 rfl ?_
        refine r_aload_n (pc := 13) dX1_restAt_13 rfl ?_
        refine r_aload_n (pc := 14) dX1_restAt_14 rfl ?_
        refine r_get1 (pc := 15) 1 0 9 dX1_restAt_15 (fl_RX1_9 rfl) (by decide) rfl (c1_o hd) (c1_p0 hd) ?_
        refine r_aload_n (pc := 18) dX1_restAt_18 rfl ?_
        refine r_get1 (pc := 19) 1 2 18 dX1_restAt_19 (fl_RX1_18 rfl) (by decide) rfl (c1_o hd) (c1_p2 hd) ?_
        refine r_iload_n (pc := 22) dX1_restAt_22 rfl ?_
        refine r_callV_P (pc := 23) (b := du) (As := [.ref (du + 1), .ref (du + 3), .int (nI y)]) 1 43 dX1_restAt_23 lk_X1_bestAgainst (ml_RX1_43 rfl) im_X1_bestAgainst se_X1_bestAgainst (by decide) (c1_o hd) (Nat.le_of_ble_eq_true rfl) rfl (bestAgainst_e hd (c1_a0 hd) (c1_a2 hd) (by omega) hf1 hf3) ?_
        refine r_iast_n (pc := 26) (i := y) (v := mxF (fun x => gdF (I (du + 1)) (I (du + 3)) x y) 41) dX1_restAt_26 (c1_a4 hd) (by decide) (by omega) ?_
        obtain ⟨I2, hI2⟩ : ∃ z : Im, z = up2 I1 (du + 5) y (mxF (fun x => gdF (I (du + 1)) (I (du + 3)) x y) 41) := ⟨_, rfl⟩
        refine wp_M (M2 := (I2, G)) (by subst hI2; rfl) ?_
        have hf2 : I2 (du + 2) = I (du + 2) := funext fun k => by rw [hI2, up2_rd (by omega)]; exact hfr _ k (by omega) (by omega)
        have hf4 : I2 (du + 4) = I (du + 4) := funext fun k => by rw [hI2, up2_rd (by omega)]; exact hfr _ k (by omega) (by omega)
        refine r_aload_n (pc := 27) dX1_restAt_27 rfl ?_
        refine r_get1 (pc := 28) 1 5 27 dX1_restAt_28 (fl_RX1_27 rfl) (by decide) rfl (c1_o hd) (c1_p5 hd) ?_
        refine r_iload_n (pc := 31) dX1_restAt_31 rfl ?_
        refine r_aload_n (pc := 32) dX1_restAt_32 rfl ?_
        refine r_aload_n (pc := 33) dX1_restAt_33 rfl ?_
        refine r_get1 (pc := 34) 1 1 15 dX1_restAt_34 (fl_RX1_15 rfl) (by decide) rfl (c1_o hd) (c1_p1 hd) ?_
        refine r_aload_n (pc := 37) dX1_restAt_37 rfl ?_
        refine r_get1 (pc := 38) 1 3 21 dX1_restAt_38 (fl_RX1_21 rfl) (by decide) rfl (c1_o hd) (c1_p3 hd) ?_
        refine r_iload_n (pc := 41) dX1_restAt_41 rfl ?_
        refine r_callV_P (pc := 42) (b := du) (As := [.ref (du + 2), .ref (du + 4), .int (nI y)]) 1 43 dX1_restAt_42 lk_X1_bestAgainst (ml_RX1_43 rfl) im_X1_bestAgainst se_X1_bestAgainst (by decide) (c1_o hd) (Nat.le_of_ble_eq_true rfl) rfl (bestAgainst_e hd (c1_a1 hd) (c1_a3 hd) (by omega) hf2 hf4) ?_
        refine r_iast_n (pc := 45) (i := y) (v := mxF (fun x => gdF (I (du + 2)) (I (du + 4)) x y) 41) dX1_restAt_45 (c1_a5 hd) (by decide) (by omega) ?_
        obtain ⟨I3, hI3⟩ : ∃ z : Im, z = up2 I2 (du + 6) y (mxF (fun x => gdF (I (du + 2)) (I (du + 4)) x y) 41) := ⟨_, rfl⟩
        refine wp_M (M2 := (I3, G)) (by subst hI3; rfl) ?_
        have h5n : ∀ z, z < y + 1 → I3 (du + 5) z = mxF (fun x => gdF (I (du + 1)) (I (du + 3)) x z) 41 := fun z hz => by
          rw [hI3, up2_rd (Or.inl (by omega)), hI2]
          by_cases e : z = y
          · rw [e, up2_at]
          · rw [up2_rd (Or.inr e)]; exact h5 z (by omega)
        have h6n : ∀ z, z < y + 1 → I3 (du + 6) z = mxF (fun x => gdF (I (du + 2)) (I (du + 4)) x z) 41 := fun z hz => by
          rw [hI3]
          by_cases e : z = y
          · rw [e, up2_at]
          · rw [up2_rd (Or.inr e), hI2, up2_rd (Or.inl (by omega))]; exact h6 z (by omega)
        refine r_iinc (pc := 46) (v := nI (y + 1)) (L' := [some (.ref du), some (.int i), some (.int (nI (y + 1))), none, none]) dX1_restAt_46 rfl (nI_inc _) (by decide) rfl rfl ?_
        refine r_goto (pc := 49) (tgt := 2) dX1_restAt_49 (by decide) ?_
        exact ih2 _ (by omega) (y + 1) I3 rfl (by omega) h5n h6n (by exact fun a k g1 g2 => by rw [hI3, up2_rd (Or.inl g2), hI2, up2_rd (Or.inl g1)]; exact hfr a k g1 g2)
  exact lp2 _ 0 I rfl (by omega) (by exact fun z hz => absurd hz (Nat.not_lt_zero _)) (by exact fun z hz => absurd hz (Nat.not_lt_zero _)) (by exact fun _ _ _ _ => rfl)

set_option maxRecDepth 100000 in
theorem setShops_ct {d : Nat} {I : Im} {G : Gm} {du a b : Nat} {u v : Int32} (hd : isC1 G du) (ha : ar (I, G) a 1 42) (hb : ar (I, G) b 1 42) (hsa : a < du ∨ du + 7 ≤ a) (hsb : b < du ∨ du + 7 ≤ b) : Ct (d + 1) 0 0 YX1_setShops [.ref du, .ref a, .ref b, .int u, .int v] (I, G) (qV G (fun I2 => (∀ x, x < 42 → I2 (du + 1) x = (nI x - u) * (I a x + I b x) ∧ I2 (du + 2) x = (nI x - v) * (I a x + I b x) ∧ I2 (du + 3) x = (nI x - u) * I a x ∧ I2 (du + 4) x = (nI x - v) * I b x) ∧ ∀ c k, (c < du + 1 ∨ du + 4 < c) → I2 c k = I c k)) := by
  refine Ct.of (by decide) (by simp [Value.category]) (Nat.le_of_ble_eq_true rfl) ?_
  show wp _ _ _ _ 0 [some (.ref du), some (.ref a), some (.ref b), some (.int u), some (.int v), none, none] [] _ _
  refine r_iconst (pc := 0) (v := 0) dX1_setShops_0 (by decide) ?_
  refine r_istore (pc := 1) (L' := [some (.ref du), some (.ref a), some (.ref b), some (.int u), some (.int v), some (.int (nI 0)), none]) dX1_setShops_1 (by decide) rfl rfl ?_
  have lp3 : ∀ (n3 : Nat), ∀ (p : Nat) (I1 : Im), 42 - p = n3 → (p ≤ 42) → (∀ x, x < p → I1 (du + 1) x = (nI x - u) * (I a x + I b x) ∧ I1 (du + 2) x = (nI x - v) * (I a x + I b x) ∧ I1 (du + 3) x = (nI x - u) * I a x ∧ I1 (du + 4) x = (nI x - v) * I b x) → (∀ c k, (c < du + 1 ∨ du + 4 < c) → I1 c k = I c k) → wp (d + 1) 0 0 YX1_setShops 3 [some (.ref du), some (.ref a), some (.ref b), some (.int u), some (.int v), some (.int (nI p)), none] [] (I1, G) (qV G (fun I2 => (∀ x, x < 42 → I2 (du + 1) x = (nI x - u) * (I a x + I b x) ∧ I2 (du + 2) x = (nI x - v) * (I a x + I b x) ∧ I2 (du + 3) x = (nI x - u) * I a x ∧ I2 (du + 4) x = (nI x - v) * I b x) ∧ ∀ c k, (c < du + 1 ∨ du + 4 < c) → I2 c k = I c k)) := by
    intro n3
    induction n3 using Nat.strongRecOn with
    | ind n3 ih3 =>
      intro p I1 hmu3 hp hv hfr
      refine r_iload (pc := 3) dX1_setShops_3 rfl ?_
      refine r_bipush (pc := 5) (v := 41) dX1_setShops_5 (by decide) ?_
      refine r_icmp_gt_n (pc := 7) (a := p) (b := 41) (tgt := 89) dX1_setShops_7 (by decide) (by omega) (by omega) (fun c7 => ?_) (fun c7 => ?_)
      · skip
        refine r_ret_v (pc := 89) dX1_setShops_89 rfl ?_
        exact ⟨rfl, I1, rfl, fun x hx => hv x (by omega), hfr⟩
      · skip
        refine r_aload_n (pc := 10) dX1_setShops_10 rfl ?_
        refine r_iload (pc := 11) dX1_setShops_11 rfl ?_
        refine r_iald_n (pc := 13) (i := p) dX1_setShops_13 ha (by decide) (by omega) (v := I a p) (hfr _ _ (by omega)) ?_
        refine r_aload_n (pc := 14) dX1_setShops_14 rfl ?_
        refine r_iload (pc := 15) dX1_setShops_15 rfl ?_
        refine r_iald_n (pc := 17) (i := p) dX1_setShops_17 hb (by decide) (by omega) (v := I b p) (hfr _ _ (by omega)) ?_
        refine r_iadd (pc := 18) (x := I a p) (z := I b p) dX1_setShops_18 ?_
        refine r_istore (pc := 19) (L' := [some (.ref du), some (.ref a), some (.ref b), some (.int u), some (.int v), some (.int (nI p)), some (.int ((I a p) + (I b p)))]) dX1_setShops_19 (by decide) rfl rfl ?_
        refine r_aload_n (pc := 21) dX1_setShops_21 rfl ?_
        refine r_get1 (pc := 22) 1 0 9 dX1_setShops_22 (fl_RX1_9 rfl) (by decide) rfl (c1_o hd) (c1_p0 hd) ?_
        refine r_iload (pc := 25) dX1_setShops_25 rfl ?_
        refine r_iload (pc := 27) dX1_setShops_27 rfl ?_
        refine r_iload_n (pc := 29) dX1_setShops_29 rfl ?_
        refine r_isub (pc := 30) (x := nI p) (z := u) dX1_setShops_30 ?_
        refine r_iload (pc := 31) dX1_setShops_31 rfl ?_
        refine r_imul (pc := 33) (x := (nI p) - u) (z := (I a p) + (I b p)) dX1_setShops_33 ?_
        refine r_iast_n (pc := 34) (i := p) (v := ((nI p) - u) * ((I a p) + (I b p))) dX1_setShops_34 (c1_a0 hd) (by decide) (by omega) ?_
        refine r_aload_n (pc := 35) dX1_setShops_35 rfl ?_
        refine r_get1 (pc := 36) 1 1 15 dX1_setShops_36 (fl_RX1_15 rfl) (by decide) rfl (c1_o hd) (c1_p1 hd) ?_
        refine r_iload (pc := 39) dX1_setShops_39 rfl ?_
        refine r_iload (pc := 41) dX1_setShops_41 rfl ?_
        refine r_iload (pc := 43) dX1_setShops_43 rfl ?_
        refine r_isub (pc := 45) (x := nI p) (z := v) dX1_setShops_45 ?_
        refine r_iload (pc := 46) dX1_setShops_46 rfl ?_
        refine r_imul (pc := 48) (x := (nI p) - v) (z := (I a p) + (I b p)) dX1_setShops_48 ?_
        refine r_iast_n (pc := 49) (i := p) (v := ((nI p) - v) * ((I a p) + (I b p))) dX1_setShops_49 (c1_a1 hd) (by decide) (by omega) ?_
        refine r_aload_n (pc := 50) dX1_setShops_50 rfl ?_
        refine r_get1 (pc := 51) 1 2 18 dX1_setShops_51 (fl_RX1_18 rfl) (by decide) rfl (c1_o hd) (c1_p2 hd) ?_
        refine r_iload (pc := 54) dX1_setShops_54 rfl ?_
        refine r_iload (pc := 56) dX1_setShops_56 rfl ?_
        refine r_iload_n (pc := 58) dX1_setShops_58 rfl ?_
        refine r_isub (pc := 59) (x := nI p) (z := u) dX1_setShops_59 ?_
        refine r_aload_n (pc := 60) dX1_setShops_60 rfl ?_
        refine r_iload (pc := 61) dX1_setShops_61 rfl ?_
        refine r_iald_n (pc := 63) (i := p) dX1_setShops_63 ha (by decide) (by omega) (v := I a p) ((up2_rd (by omega)).trans ((up2_rd (by omega)).trans (hfr _ _ (by omega)))) ?_
        refine r_imul (pc := 64) (x := (nI p) - u) (z := I a p) dX1_setShops_64 ?_
        refine r_iast_n (pc := 65) (i := p) (v := ((nI p) - u) * (I a p)) dX1_setShops_65 (c1_a2 hd) (by decide) (by omega) ?_
        refine r_aload_n (pc := 66) dX1_setShops_66 rfl ?_
        refine r_get1 (pc := 67) 1 3 21 dX1_setShops_67 (fl_RX1_21 rfl) (by decide) rfl (c1_o hd) (c1_p3 hd) ?_
        refine r_iload (pc := 70) dX1_setShops_70 rfl ?_
        refine r_iload (pc := 72) dX1_setShops_72 rfl ?_
        refine r_iload (pc := 74) dX1_setShops_74 rfl ?_
        refine r_isub (pc := 76) (x := nI p) (z := v) dX1_setShops_76 ?_
        refine r_aload_n (pc := 77) dX1_setShops_77 rfl ?_
        refine r_iload (pc := 78) dX1_setShops_78 rfl ?_
        refine r_iald_n (pc := 80) (i := p) dX1_setShops_80 hb (by decide) (by omega) (v := I b p) ((up2_rd (by omega)).trans ((up2_rd (by omega)).trans ((up2_rd (by omega)).trans (hfr _ _ (by omega))))) ?_
        refine r_imul (pc := 81) (x := (nI p) - v) (z := I b p) dX1_setShops_81 ?_
        refine r_iast_n (pc := 82) (i := p) (v := ((nI p) - v) * (I b p)) dX1_setShops_82 (c1_a3 hd) (by decide) (by omega) ?_
        obtain ⟨I3, hI3⟩ : ∃ z : Im, z = up2 (up2 (up2 (up2 I1 (du + 1) p (((nI p) - u) * ((I a p) + (I b p)))) (du + 2) p (((nI p) - v) * ((I a p) + (I b p)))) (du + 3) p (((nI p) - u) * (I a p))) (du + 4) p (((nI p) - v) * (I b p)) := ⟨_, rfl⟩
        refine wp_M (M2 := (I3, G)) (by subst hI3; rfl) ?_
        have hvn : ∀ x, x < p + 1 → I3 (du + 1) x = (nI x - u) * (I a x + I b x) ∧ I3 (du + 2) x = (nI x - v) * (I a x + I b x) ∧ I3 (du + 3) x = (nI x - u) * I a x ∧ I3 (du + 4) x = (nI x - v) * I b x := fun x hx => by
          by_cases e : x = p
          · subst e
            rw [hI3]
            exact ⟨by rw [up2_rd (by omega), up2_rd (by omega), up2_rd (by omega), up2_at], by rw [up2_rd (by omega), up2_rd (by omega), up2_at], by rw [up2_rd (by omega), up2_at], by rw [up2_at]⟩
          · have hq := hv x (by omega)
            rw [hI3]
            exact ⟨by rw [up2_rd (by omega), up2_rd (by omega), up2_rd (by omega), up2_rd (by omega)]; exact hq.1, by rw [up2_rd (by omega), up2_rd (by omega), up2_rd (by omega), up2_rd (by omega)]; exact hq.2.1, by rw [up2_rd (by omega), up2_rd (by omega), up2_rd (by omega), up2_rd (by omega)]; exact hq.2.2.1, by rw [up2_rd (by omega), up2_rd (by omega), up2_rd (by omega), up2_rd (by omega)]; exact hq.2.2.2⟩
        have hfn : ∀ c k, (c < du + 1 ∨ du + 4 < c) → I3 c k = I c k := fun c k hc => by rw [hI3, up2_rd (by omega), up2_rd (by omega), up2_rd (by omega), up2_rd (by omega)]; exact hfr c k hc
        refine r_iinc (pc := 83) (v := nI (p + 1)) (L' := [some (.ref du), some (.ref a), some (.ref b), some (.int u), some (.int v), some (.int (nI (p + 1))), some (.int ((I a p) + (I b p)))]) dX1_setShops_83 rfl (nI_inc _) (by decide) rfl rfl ?_
        refine r_goto (pc := 86) (tgt := 3) dX1_setShops_86 (by decide) ?_
        refine wp_sub [some (.ref du), some (.ref a), some (.ref b), some (.int u), some (.int v), some (.int (nI (p + 1))), none] ⟨rfl, ⟨rfl, ⟨rfl, ⟨rfl, ⟨rfl, ⟨rfl, trivial⟩⟩⟩⟩⟩⟩ ?_
        exact ih3 _ (by omega) (p + 1) I3 rfl (by omega) hvn hfn
  exact lp3 _ 0 I rfl (by omega) (by exact fun z hz => absurd hz (Nat.not_lt_zero _)) (by exact fun _ _ _ => rfl)

set_option maxRecDepth 100000 in
theorem setMakers_ct {d : Nat} {I : Im} {G : Gm} {du t o1 o2 sh c c1 c2 : Nat} {w : Nat → Nat} (hd : isC1 G du) (ht : isC8 G t) (hsp : du + 7 ≤ t ∨ t + 18 ≤ du) (h1 : o1 < 8) (h2 : o2 < 8) (hs : sh < 8) (hw : ∀ p, p < 42 → I (t + 5 + 1 + sh) p = nI (w p)) (hc : I (t + 1) sh = nI c) (hc1 : I (t + 1) o1 = nI c1) (hc2 : I (t + 1) o2 = nI c2) (hcl : c ≤ 30 ∧ c1 ≤ 30 ∧ c2 ≤ 30) : Ct (d + 2) 0 0 YX1_setMakers [.ref du, .ref t, .int (nI o1), .int (nI o2), .int (nI sh)] (I, G) (qV G (fun I1 => (∀ x, x < 42 → I1 (du + 1) x = (nI x - nI c1) * nI (w (askF w 41 (x + c))) ∧ I1 (du + 2) x = (nI x - nI c2) * nI (w (askF w 41 (x + c))) ∧ I1 (du + 3) x = (if o1 < o2 then (nI x - nI c1) * nI (w (askF w 41 (x + c))) else 0) ∧ I1 (du + 4) x = (if o2 < o1 then (nI x - nI c2) * nI (w (askF w 41 (x + c))) else 0)) ∧ ∀ c k, (c < du + 1 ∨ du + 4 < c) → I1 c k = I c k)) := by
  refine Ct.of (by decide) (by simp [Value.category]) (Nat.le_of_ble_eq_true rfl) ?_
  show wp _ _ _ _ 0 [some (.ref du), some (.ref t), some (.int (nI o1)), some (.int (nI o2)), some (.int (nI sh)), none, none, none] [] _ _
  refine r_aload_n (pc := 0) dX1_setMakers_0 rfl ?_
  refine r_get1 (pc := 1) 8 6 30 dX1_setMakers_1 (fl_RX1_30 rfl) (by decide) rfl (c8_o ht) (c8_p6 ht) ?_
  refine r_iload (pc := 4) dX1_setMakers_4 rfl ?_
  refine r_aald1_n (pc := 6) (i := sh) 6 dX1_setMakers_6 (by decide) (c8_a6 ht) (by decide) (by omega) (c8_q6 ht (by omega)) ?_
  refine r_astore (pc := 7) (L' := [some (.ref du), some (.ref t), some (.int (nI o1)), some (.int (nI o2)), some (.int (nI sh)), some (.ref (t + 5 + 1 + sh)), none, none]) dX1_setMakers_7 (by decide) rfl rfl ?_
  refine r_iconst (pc := 9) (v := 0) dX1_setMakers_9 (by decide) ?_
  refine r_istore (pc := 10) (L' := [some (.ref du), some (.ref t), some (.int (nI o1)), some (.int (nI o2)), some (.int (nI sh)), some (.ref (t + 5 + 1 + sh)), some (.int (nI 0)), none]) dX1_setMakers_10 (by decide) rfl rfl ?_
  have lp12 : ∀ (n12 : Nat), ∀ (x : Nat) (I1 : Im), 42 - x = n12 → (x ≤ 42) → (∀ y, y < x → I1 (du + 1) y = (nI y - nI c1) * nI (w (askF w 41 (y + c))) ∧ I1 (du + 2) y = (nI y - nI c2) * nI (w (askF w 41 (y + c))) ∧ I1 (du + 3) y = (if o1 < o2 then (nI y - nI c1) * nI (w (askF w 41 (y + c))) else 0) ∧ I1 (du + 4) y = (if o2 < o1 then (nI y - nI c2) * nI (w (askF w 41 (y + c))) else 0)) → (∀ c k, (c < du + 1 ∨ du + 4 < c) → I1 c k = I c k) → wp (d + 2) 0 0 YX1_setMakers 12 [some (.ref du), some (.ref t), some (.int (nI o1)), some (.int (nI o2)), some (.int (nI sh)), some (.ref (t + 5 + 1 + sh)), some (.int (nI x)), none] [] (I1, G) (qV G (fun I1 => (∀ x, x < 42 → I1 (du + 1) x = (nI x - nI c1) * nI (w (askF w 41 (x + c))) ∧ I1 (du + 2) x = (nI x - nI c2) * nI (w (askF w 41 (x + c))) ∧ I1 (du + 3) x = (if o1 < o2 then (nI x - nI c1) * nI (w (askF w 41 (x + c))) else 0) ∧ I1 (du + 4) x = (if o2 < o1 then (nI x - nI c2) * nI (w (askF w 41 (x + c))) else 0)) ∧ ∀ c k, (c < du + 1 ∨ du + 4 < c) → I1 c k = I c k)) := by
    intro n12
    induction n12 using Nat.strongRecOn with
    | ind n12 ih12 =>
      intro x I1 hmu12 hx hv hfr
      refine r_iload (pc := 12) dX1_setMakers_12 rfl ?_
      refine r_bipush (pc := 14) (v := 41) dX1_setMakers_14 (by decide) ?_
      refine r_icmp_gt_n (pc := 16) (a := x) (b := 41) (tgt := 131) dX1_setMakers_16 (by decide) (by omega) (by omega) (fun c16 => ?_) (fun c16 => ?_)
      · skip
        refine r_ret_v (pc := 131) dX1_setMakers_131 rfl ?_
        exact ⟨rfl, I1, rfl, fun y hy => hv y (by omega), hfr⟩
      · skip
        refine r_aload (pc := 19) dX1_setMakers_19 rfl ?_
        refine r_aload (pc := 21) dX1_setMakers_21 rfl ?_
        refine r_bipush (pc := 23) (v := 41) dX1_setMakers_23 (by decide) ?_
        refine r_iload (pc := 25) dX1_setMakers_25 rfl ?_
        refine r_aload_n (pc := 27) dX1_setMakers_27 rfl ?_
        refine r_get1 (pc := 28) 8 2 36 dX1_setMakers_28 (fl_RX1_36 rfl) (by decide) rfl (c8_o ht) (c8_p2 ht) ?_
        refine r_iload (pc := 31) dX1_setMakers_31 rfl ?_
        refine r_iald_n (pc := 33) (i := sh) dX1_setMakers_33 (c8_a2 ht) (by decide) (by omega) (v := nI c) ((hfr _ _ (by omega)).trans hc) ?_
        refine r_iadd_n (pc := 34) (a := x) (b := c) dX1_setMakers_34 ?_
        refine r_callSN_P (pc := 35) (As := [.ref (t + 5 + 1 + sh), .int (nI 41), .int (nI (x + c))]) 39 dX1_setMakers_35 lk_X9_bestPrice (nl_RX1_39 rfl) sm_X9_bestPrice (Nat.le_of_ble_eq_true rfl) rfl (bestPrice_ct (c8_r6 ht (by omega)) (fun p hp => (hfr _ _ (by omega)).trans (hw p hp)) (by omega) (by omega)) ?_
        refine r_iald_n (pc := 38) (i := askF w 41 (x + c)) dX1_setMakers_38 (c8_r6 ht (by omega)) (by decide) (by have := askF_le w 41 (x + c); omega) (v := nI (w (askF w 41 (x + c)))) ((hfr _ _ (by omega)).trans (hw _ (by first | omega | (have := askF_le w 41 (x + c); omega)))) ?_
        refine r_istore (pc := 39) (L' := [some (.ref du), some (.ref t), some (.int (nI o1)), some (.int (nI o2)), some (.int (nI sh)), some (.ref (t + 5 + 1 + sh)), some (.int (nI x)), some (.int (nI (w (askF w 41 (x + c)))))]) dX1_setMakers_39 (by decide) rfl rfl ?_
        refine r_aload_n (pc := 41) dX1_setMakers_41 rfl ?_
        refine r_get1 (pc := 42) 1 0 9 dX1_setMakers_42 (fl_RX1_9 rfl) (by decide) rfl (c1_o hd) (c1_p0 hd) ?_
        refine r_iload (pc := 45) dX1_setMakers_45 rfl ?_
        refine r_iload (pc := 47) dX1_setMakers_47 rfl ?_
        refine r_aload_n (pc := 49) dX1_setMakers_49 rfl ?_
        refine r_get1 (pc := 50) 8 2 36 dX1_setMakers_50 (fl_RX1_36 rfl) (by decide) rfl (c8_o ht) (c8_p2 ht) ?_
        refine r_iload_n (pc := 53) dX1_setMakers_53 rfl ?_
        refine r_iald_n (pc := 54) (i := o1) dX1_setMakers_54 (c8_a2 ht) (by decide) (by omega) (v := nI c1) ((hfr _ _ (by omega)).trans hc1) ?_
        refine r_isub (pc := 55) (x := nI x) (z := nI c1) dX1_setMakers_55 ?_
        refine r_iload (pc := 56) dX1_setMakers_56 rfl ?_
        refine r_imul (pc := 58) (x := (nI x) - (nI c1)) (z := nI (w (askF w 41 (x + c)))) dX1_setMakers_58 ?_
        refine r_iast_n (pc := 59) (i := x) (v := ((nI x) - (nI c1)) * (nI (w (askF w 41 (x + c))))) dX1_setMakers_59 (c1_a0 hd) (by decide) (by omega) ?_
        refine r_aload_n (pc := 60) dX1_setMakers_60 rfl ?_
        refine r_get1 (pc := 61) 1 1 15 dX1_setMakers_61 (fl_RX1_15 rfl) (by decide) rfl (c1_o hd) (c1_p1 hd) ?_
        refine r_iload (pc := 64) dX1_setMakers_64 rfl ?_
        refine r_iload (pc := 66) dX1_setMakers_66 rfl ?_
        refine r_aload_n (pc := 68) dX1_setMakers_68 rfl ?_
        refine r_get1 (pc := 69) 8 2 36 dX1_setMakers_69 (fl_RX1_36 rfl) (by decide) rfl (c8_o ht) (c8_p2 ht) ?_
        refine r_iload_n (pc := 72) dX1_setMakers_72 rfl ?_
        refine r_iald_n (pc := 73) (i := o2) dX1_setMakers_73 (c8_a2 ht) (by decide) (by omega) (v := nI c2) ((up2_rd (by omega)).trans ((hfr _ _ (by omega)).trans hc2)) ?_
        refine r_isub (pc := 74) (x := nI x) (z := nI c2) dX1_setMakers_74 ?_
        refine r_iload (pc := 75) dX1_setMakers_75 rfl ?_
        refine r_imul (pc := 77) (x := (nI x) - (nI c2)) (z := nI (w (askF w 41 (x + c)))) dX1_setMakers_77 ?_
        refine r_iast_n (pc := 78) (i := x) (v := ((nI x) - (nI c2)) * (nI (w (askF w 41 (x + c))))) dX1_setMakers_78 (c1_a1 hd) (by decide) (by omega) ?_
        refine r_aload_n (pc := 79) dX1_setMakers_79 rfl ?_
        refine r_get1 (pc := 80) 1 2 18 dX1_setMakers_80 (fl_RX1_18 rfl) (by decide) rfl (c1_o hd) (c1_p2 hd) ?_
        refine r_iload (pc := 83) dX1_setMakers_83 rfl ?_
        have k101 : ∀ (z1 : Int32), (z1 = if o1 < o2 then (nI x - nI c1) * nI (w (askF w 41 (x + c))) else 0) → wp (d + 2) 0 0 YX1_setMakers 101 [some (.ref du), some (.ref t), some (.int (nI o1)), some (.int (nI o2)), some (.int (nI sh)), some (.ref (t + 5 + 1 + sh)), some (.int (nI x)), some (.int (nI (w (askF w 41 (x + c)))))] [.int z1, .int (nI x), .ref (du + 3)] (up2 (up2 I1 (du + 1) x (((nI x) - (nI c1)) * (nI (w (askF w 41 (x + c)))))) (du + 2) x (((nI x) - (nI c2)) * (nI (w (askF w 41 (x + c))))), G) (qV G (fun I1 => (∀ x, x < 42 → I1 (du + 1) x = (nI x - nI c1) * nI (w (askF w 41 (x + c))) ∧ I1 (du + 2) x = (nI x - nI c2) * nI (w (askF w 41 (x + c))) ∧ I1 (du + 3) x = (if o1 < o2 then (nI x - nI c1) * nI (w (askF w 41 (x + c))) else 0) ∧ I1 (du + 4) x = (if o2 < o1 then (nI x - nI c2) * nI (w (askF w 41 (x + c))) else 0)) ∧ ∀ c k, (c < du + 1 ∨ du + 4 < c) → I1 c k = I c k)) := by
          intro z1 hz1
          refine r_iast_n (pc := 101) (i := x) (v := z1) dX1_setMakers_101 (c1_a2 hd) (by decide) (by omega) ?_
          refine r_aload_n (pc := 102) dX1_setMakers_102 rfl ?_
          refine r_get1 (pc := 103) 1 3 21 dX1_setMakers_103 (fl_RX1_21 rfl) (by decide) rfl (c1_o hd) (c1_p3 hd) ?_
          refine r_iload (pc := 106) dX1_setMakers_106 rfl ?_
          have k124 : ∀ (z2 : Int32), (z2 = if o2 < o1 then (nI x - nI c2) * nI (w (askF w 41 (x + c))) else 0) → wp (d + 2) 0 0 YX1_setMakers 124 [some (.ref du), some (.ref t), some (.int (nI o1)), some (.int (nI o2)), some (.int (nI sh)), some (.ref (t + 5 + 1 + sh)), some (.int (nI x)), some (.int (nI (w (askF w 41 (x + c)))))] [.int z2, .int (nI x), .ref (du + 4)] (up2 (up2 (up2 I1 (du + 1) x (((nI x) - (nI c1)) * (nI (w (askF w 41 (x + c)))))) (du + 2) x (((nI x) - (nI c2)) * (nI (w (askF w 41 (x + c)))))) (du + 3) x z1, G) (qV G (fun I1 => (∀ x, x < 42 → I1 (du + 1) x = (nI x - nI c1) * nI (w (askF w 41 (x + c))) ∧ I1 (du + 2) x = (nI x - nI c2) * nI (w (askF w 41 (x + c))) ∧ I1 (du + 3) x = (if o1 < o2 then (nI x - nI c1) * nI (w (askF w 41 (x + c))) else 0) ∧ I1 (du + 4) x = (if o2 < o1 then (nI x - nI c2) * nI (w (askF w 41 (x + c))) else 0)) ∧ ∀ c k, (c < du + 1 ∨ du + 4 < c) → I1 c k = I c k)) := by
            intro z2 hz2
            refine r_iast_n (pc := 124) (i := x) (v := z2) dX1_setMakers_124 (c1_a3 hd) (by decide) (by omega) ?_
            obtain ⟨I3, hI3⟩ : ∃ z : Im, z = up2 (up2 (up2 (up2 I1 (du + 1) x (((nI x) - (nI c1)) * (nI (w (askF w 41 (x + c)))))) (du + 2) x (((nI x) - (nI c2)) * (nI (w (askF w 41 (x + c)))))) (du + 3) x z1) (du + 4) x z2 := ⟨_, rfl⟩
            refine wp_M (M2 := (I3, G)) (by subst hI3; rfl) ?_
            have hvn : ∀ y, y < x + 1 → I3 (du + 1) y = (nI y - nI c1) * nI (w (askF w 41 (y + c))) ∧ I3 (du + 2) y = (nI y - nI c2) * nI (w (askF w 41 (y + c))) ∧ I3 (du + 3) y = (if o1 < o2 then (nI y - nI c1) * nI (w (askF w 41 (y + c))) else 0) ∧ I3 (du + 4) y = (if o2 < o1 then (nI y - nI c2) * nI (w (askF w 41 (y + c))) else 0) := fun y hy => by
              by_cases e : y = x
              · subst e
                rw [hI3]
                exact ⟨by rw [up2_rd (by omega), up2_rd (by omega), up2_rd (by omega), up2_at], by rw [up2_rd (by omega), up2_rd (by omega), up2_at], by rw [up2_rd (by omega), up2_at, hz1], by rw [up2_at, hz2]⟩
              · have hq := hv y (by omega)
                rw [hI3]
                exact ⟨by rw [up2_rd (by omega), up2_rd (by omega), up2_rd (by omega), up2_rd (by omega)]; exact hq.1, by rw [up2_rd (by omega), up2_rd (by omega), up2_rd (by omega), up2_rd (by omega)]; exact hq.2.1, by rw [up2_rd (by omega), up2_rd (by omega), up2_rd (by omega), up2_rd (by omega)]; exact hq.2.2.1, by rw [up2_rd (by omega), up2_rd (by omega), up2_rd (by omega), up2_rd (by omega)]; exact hq.2.2.2⟩
            have hfn : ∀ c k, (c < du + 1 ∨ du + 4 < c) → I3 c k = I c k := fun c k hc => by rw [hI3, up2_rd (by omega), up2_rd (by omega), up2_rd (by omega), up2_rd (by omega)]; exact hfr c k hc
            refine r_iinc (pc := 125) (v := nI (x + 1)) (L' := [some (.ref du), some (.ref t), some (.int (nI o1)), some (.int (nI o2)), some (.int (nI sh)), some (.ref (t + 5 + 1 + sh)), some (.int (nI (x + 1))), some (.int (nI (w (askF w 41 (x + c)))))]) dX1_setMakers_125 rfl (nI_inc _) (by decide) rfl rfl ?_
            refine r_goto (pc := 128) (tgt := 12) dX1_setMakers_128 (by decide) ?_
            refine wp_sub [some (.ref du), some (.ref t), some (.int (nI o1)), some (.int (nI o2)), some (.int (nI sh)), some (.ref (t + 5 + 1 + sh)), some (.int (nI (x + 1))), none] ⟨rfl, ⟨rfl, ⟨rfl, ⟨rfl, ⟨rfl, ⟨rfl, ⟨rfl, trivial⟩⟩⟩⟩⟩⟩⟩ ?_
            exact ih12 _ (by omega) (x + 1) I3 rfl (by omega) hvn hfn
          refine r_iload_n (pc := 108) dX1_setMakers_108 rfl ?_
          refine r_iload_n (pc := 109) dX1_setMakers_109 rfl ?_
          refine r_icmp_ge_n (pc := 110) (a := o2) (b := o1) (tgt := 123) dX1_setMakers_110 (by decide) (by omega) (by omega) (fun c110 => ?_) (fun c110 => ?_)
          · skip
            refine r_iconst (pc := 123) (v := 0) dX1_setMakers_123 (by decide) ?_
            exact k124 (nI 0) (by first | exact (if_pos (by omega)).symm | exact (if_neg (by omega)).symm)
          · skip
            refine r_aload_n (pc := 113) dX1_setMakers_113 rfl ?_
            refine r_get1 (pc := 114) 1 1 15 dX1_setMakers_114 (fl_RX1_15 rfl) (by decide) rfl (c1_o hd) (c1_p1 hd) ?_
            refine r_iload (pc := 117) dX1_setMakers_117 rfl ?_
            refine r_iald_n (pc := 119) (i := x) dX1_setMakers_119 (c1_a1 hd) (by decide) (by omega) (v := ((nI x) - (nI c2)) * (nI (w (askF w 41 (x + c))))) ((up2_rd (by omega)).trans (up2_at)) ?_
            refine r_goto (pc := 120) (tgt := 124) dX1_setMakers_120 (by decide) ?_
            exact k124 (((nI x) - (nI c2)) * (nI (w (askF w 41 (x + c))))) (by first | exact (if_pos (by omega)).symm | exact (if_neg (by omega)).symm)
        refine r_iload_n (pc := 85) dX1_setMakers_85 rfl ?_
        refine r_iload_n (pc := 86) dX1_setMakers_86 rfl ?_
        refine r_icmp_ge_n (pc := 87) (a := o1) (b := o2) (tgt := 100) dX1_setMakers_87 (by decide) (by omega) (by omega) (fun c87 => ?_) (fun c87 => ?_)
        · skip
          refine r_iconst (pc := 100) (v := 0) dX1_setMakers_100 (by decide) ?_
          exact k101 (nI 0) (by first | exact (if_pos (by omega)).symm | exact (if_neg (by omega)).symm)
        · skip
          refine r_aload_n (pc := 90) dX1_setMakers_90 rfl ?_
          refine r_get1 (pc := 91) 1 0 9 dX1_setMakers_91 (fl_RX1_9 rfl) (by decide) rfl (c1_o hd) (c1_p0 hd) ?_
          refine r_iload (pc := 94) dX1_setMakers_94 rfl ?_
          refine r_iald_n (pc := 96) (i := x) dX1_setMakers_96 (c1_a0 hd) (by decide) (by omega) (v := ((nI x) - (nI c1)) * (nI (w (askF w 41 (x + c))))) ((up2_rd (by omega)).trans (up2_at)) ?_
          refine r_goto (pc := 97) (tgt := 101) dX1_setMakers_97 (by decide) ?_
          exact k101 (((nI x) - (nI c1)) * (nI (w (askF w 41 (x + c))))) (by first | exact (if_pos (by omega)).symm | exact (if_neg (by omega)).symm)
  exact lp12 _ 0 I rfl (by omega) (by exact fun z hz => absurd hz (Nat.not_lt_zero _)) (by exact fun _ _ _ => rfl)
