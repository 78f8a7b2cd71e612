/-! ===== the market ===== -/
/-- what a trade and its terms are: houses, costs, sources, wants, joined, cap, alike, halved -/
abbrev Ec : Type := Nat × (Nat → Nat) × (Nat → Option Nat) × (Nat → Nat → Nat) × Int32 × Nat × Bool × Bool
abbrev eN (E : Ec) : Nat := E.1
abbrev eC (E : Ec) : Nat → Nat := E.2.1
abbrev eS (E : Ec) : Nat → Option Nat := E.2.2.1
abbrev eW (E : Ec) : Nat → Nat → Nat := E.2.2.2.1
abbrev eJ (E : Ec) : Int32 := E.2.2.2.2.1
abbrev eK (E : Ec) : Nat := E.2.2.2.2.2.1
abbrev eA (E : Ec) : Bool := E.2.2.2.2.2.2.1
abbrev eH (E : Ec) : Bool := E.2.2.2.2.2.2.2
def cnt (s : Nat → Option Nat) (h : Nat) : Nat → Nat
  | 0 => 0
  | n + 1 => cnt s h n + (if s n = some h then 1 else 0)
theorem cnt_le (s : Nat → Option Nat) (h : Nat) : ∀ n, cnt s h n ≤ n
  | 0 => Nat.le_refl _
  | n + 1 => by
    unfold cnt
    have := cnt_le s h n
    split <;> omega
def cmS (g : Nat → Int32) : Nat → Nat × Int32
  | 0 => (41, g 41)
  | j + 1 => if (cmS g j).2 ≤ g (40 - j) then (40 - j, g (40 - j)) else cmS g j
def hvS (a b : Nat → Int32) : Nat → Nat × Int32
  | 0 => (41, -1)
  | k + 1 => if 0 ≤ a k ∧ 0 ≤ b k ∧ (hvS a b k).2 < a k * b k then (k, a k * b k) else hvS a b k
theorem cmS_le (g : Nat → Int32) : ∀ j, (cmS g j).1 ≤ 41
  | 0 => Nat.le_refl _
  | j + 1 => by
    unfold cmS
    have := cmS_le g j
    split <;> simp <;> omega
theorem hvS_le (a b : Nat → Int32) : ∀ k, k ≤ 42 → (hvS a b k).1 ≤ 41
  | 0, _ => Nat.le_refl _
  | k + 1, h => by
    unfold hvS
    have := hvS_le a b k (by omega)
    split <;> simp <;> omega
abbrev Rt2 : Type := Nat → Nat → Int32 × Int32
/-- what all that buy from h and are not joined take at a price of x -/
def cmT (E : Ec) (q : Nat → Nat) (R : Rt2) (h x : Nat) : Int32 := sm (fun b => if eS E b = some h ∧ ¬ jn (eJ E) (nI b) then (R b (q (x + eC E b))).1 else 0) (eN E)
def cmF (E : Ec) (q : Nat → Nat) (R : Rt2) (h u : Nat) : Nat := (cmS (fun x => (nI x - nI u) * cmT E q R h x) 41).1
def hvF (E : Ec) (q : Nat → Nat) (R : Rt2) (b u : Nat) : Nat := (hvS (fun x => (nI x - nI u) * (R b (q (x + eC E b))).1) (fun x => (R b (q (x + eC E b))).2) 42).1
def owF (E : Ec) (q : Nat → Nat) (R : Rt2) (b u : Nat) : Nat := bsF (fun x => (nI x - nI u) * (R b (q (x + eC E b))).1) 41
/-- what h asks of b at u -/
def prS (E : Ec) (q : Nat → Nat) (R : Rt2) (h b u : Nat) : Nat := if jn (eJ E) (nI b) then u else if eH E = true then hvF E q R b u else if eA E = true then cmF E q R h u else owF E q R b u
/-- what h takes and earns at u -/
def stp (E : Ec) (q : Nat → Nat) (R : Rt2) (h u : Nat) : Int32 × Int32 :=
  if cnt (eS E) h (eN E) = 0 then (nI (eW E h (askF (eW E h) (eK E) u)), (nI (askF (eW E h) (eK E) u) - nI u) * nI (eW E h (askF (eW E h) (eK E) u)))
  else (sm (fun b => if eS E b = some h then (R b (q (prS E q R h b u + eC E b))).1 else 0) (eN E), sm (fun b => if eS E b = some h then (nI (prS E q R h b u) - nI u) * (R b (q (prS E q R h b u + eC E b))).1 else 0) (eN E))
theorem sm_congr {f g : Nat → Int32} : ∀ n, (∀ k, k < n → f k = g k) → sm f n = sm g n
  | 0, _ => rfl
  | n + 1, h => by
    unfold sm
    rw [sm_congr n (fun k hk => h k (by omega)), h n (by omega)]
theorem sm_zero {f : Nat → Int32} : ∀ n, (∀ k, k < n → f k = 0) → sm f n = 0
  | 0, _ => rfl
  | n + 1, h => by
    unfold sm
    rw [sm_zero n (fun k hk => h k (by omega)), h n (by omega)]
    rfl
theorem sI_eq {o : Option Nat} {a : Nat} (ha : a < 2 ^ 31) (ho : ∀ c, o = some c → c < 2 ^ 31) : sI o = nI a ↔ o = some a := by
  cases o with
  | none =>
    constructor
    · intro h
      have : (-1 : Int32) = nI a := h
      have h2 := congrArg Int32.toInt this
      rw [nI_toInt ha] at h2
      have h3 : (-1 : Int32).toInt = -1 := by decide
      omega
    · intro h
      cases h
  | some c =>
    show nI c = nI a ↔ _
    rw [nI_eq (ho c rfl) ha]
    constructor
    · intro h
      rw [h]
    · intro h
      exact Option.some.inj h
theorem sI_m1 {o : Option Nat} (ho : ∀ c, o = some c → c < 2 ^ 31) : sI o = -1 ↔ o = none := by
  cases o with
  | none => exact ⟨fun _ => rfl, fun _ => rfl⟩
  | some c =>
    constructor
    · intro h
      have : nI c = (-1 : Int32) := h
      have h2 := congrArg Int32.toInt this
      rw [nI_toInt (ho c rfl)] at h2
      have h3 : (-1 : Int32).toInt = -1 := by decide
      omega
    · intro h
      cases h
/-- the market's own costs and terms are E's -/
def MkC (I : Im) (mb : Nat) (E : Ec) : Prop := (∀ b, b < eN E → I (mb + 2) b = nI (eC E b)) ∧ (∀ b, eC E b ≤ 60) ∧ I (mb + 1) 0 = eJ E ∧ I (mb + 1) 1 = nI (eK E) ∧ eK E ≤ 41 ∧ I (mb + 1) 2 = bz (eA E = true) ∧ I (mb + 1) 3 = bz (eH E = true)
/-- the trade's houses, sources and wants are E's -/
def TrC (I : Im) (t : Nat) (E : Ec) : Prop := I t 0 = nI (eN E) ∧ eN E ≤ 8 ∧ (∀ b, b < 8 → I (t + 2) b = sI (eS E b)) ∧ (∀ b a, eS E b = some a → a < b ∧ b < eN E) ∧ (∀ h, h < eN E → I (t + 4) h = nI (cnt (eS E) h (eN E))) ∧ (∀ h p, h < 8 → p < 42 → I (t + 5 + 1 + h) p = nI (eW E h p)) ∧ (∀ h p, eW E h p ≤ 600)
theorem TrC.lt {I : Im} {t : Nat} {E : Ec} (h : TrC I t E) (b : Nat) : ∀ c, eS E b = some c → c < 2 ^ 31 := fun c hc => by
  have := h.2.2.2.1 b c hc
  have := h.2.1
  omega
/-- the tables of the market at mb -/
def tbR (I : Im) (mb : Nat) : Rt2 := fun b v => (I (mb + 3 + 1 + b) v, I (mb + 12 + 1 + b) v)
theorem joins_e {d : Nat} {I : Im} {G : Gm} {a : Nat} (ha : isC7 G a) {h j : Int32} (hj : I a 0 = j) : Ct (d + 1) 0 0 YX7_joins [.ref a, .int h] (I, G) (qP (bz (jn j h)) (I, G)) := by
  subst hj
  exact joins_ct ha

set_option maxRecDepth 100000 in
theorem takesAt_ct {d : Nat} {I : Im} {G : Gm} {mb : Nat} {E : Ec} (hM : isC5 G mb) (hk : MkC I mb E) {b x : Nat} (hb : b < eN E) (hb8 : b < 8) (hx : x ≤ 1000) : Ct (d + 2) 0 0 YX5_takesAt [.ref mb, .int (nI b), .int (nI x)] (I, G) (qP (tbR I mb b (rwF (x + eC E b))).1 (I, G)) := by
  refine Ct.of (by decide) (by simp [Value.category]) (Nat.le_of_ble_eq_true rfl) ?_
  have hcb := hk.2.1 b
  show wp _ _ _ _ 0 [some (.ref mb), some (.int (nI b)), some (.int (nI x))] [] _ _
  refine r_aload_n (pc := 0) dX5_takesAt_0 rfl ?_
  refine r_get1 (pc := 1) 5 3 28 dX5_takesAt_1 (fl_RX5_28 rfl) (by decide) rfl (c5_o hM) (c5_p3 hM) ?_
  refine r_iload_n (pc := 4) dX5_takesAt_4 rfl ?_
  refine r_aald1_n (pc := 5) (i := b) 6 dX5_takesAt_5 (by decide) (c5_a3 hM) (by decide) (by omega) (c5_q3 hM (by omega)) ?_
  refine r_iload_n (pc := 6) dX5_takesAt_6 rfl ?_
  refine r_aload_n (pc := 7) dX5_takesAt_7 rfl ?_
  refine r_get1 (pc := 8) 5 2 22 dX5_takesAt_8 (fl_RX5_22 rfl) (by decide) rfl (c5_o hM) (c5_p2 hM) ?_
  refine r_iload_n (pc := 11) dX5_takesAt_11 rfl ?_
  refine r_iald_n (pc := 12) (i := b) dX5_takesAt_12 (c5_a2 hM) (by decide) (by omega) (v := nI (eC E b)) (hk.1 _ (by omega)) ?_
  refine r_iadd_n (pc := 13) (a := x) (b := eC E b) dX5_takesAt_13 ?_
  refine r_callSN_P (pc := 14) (As := [.int (nI (x + (eC E b)))]) 84 dX5_takesAt_14 lk_X9_row (nl_RX5_84 rfl) sm_X9_row (Nat.le_of_ble_eq_true rfl) rfl (row_ct (by omega)) ?_
  refine r_iald_n (pc := 17) (i := rwF (x + (eC E b))) dX5_takesAt_17 (c5_r3 hM (by omega)) (by decide) (by have := rwF_le (x + eC E b); omega) rfl ?_
  refine r_ret_i (pc := 18) dX5_takesAt_18 rfl ?_
  exact ⟨rfl, rfl⟩

set_option maxRecDepth 100000 in
theorem ownPrice_ct {d : Nat} {I : Im} {G : Gm} {mb : Nat} {E : Ec} (hM : isC5 G mb) (hk : MkC I mb E) {b u : Nat} (hb : b < eN E) (hb8 : b < 8) (hu : u ≤ 1000) : Ct (d + 3) 0 0 YX5_ownPrice [.ref mb, .int (nI b), .int (nI u)] (I, G) (qP (nI (owF E rwF (tbR I mb) b u)) (I, G)) := by
  refine Ct.of (by decide) (by simp [Value.category]) (Nat.le_of_ble_eq_true rfl) ?_
  show wp _ _ _ _ 0 [some (.ref mb), some (.int (nI b)), some (.int (nI u)), none, none, none, none] [] _ _
  refine r_iconst (pc := 0) (v := 0) dX5_ownPrice_0 (by decide) ?_
  refine r_istore_n (pc := 1) (L' := [some (.ref mb), some (.int (nI b)), some (.int (nI u)), some (.int (nI 0)), none, none, none]) dX5_ownPrice_1 (by decide) rfl rfl ?_
  refine r_iload_n (pc := 2) dX5_ownPrice_2 rfl ?_
  refine r_ineg (pc := 3) (x := nI u) dX5_ownPrice_3 ?_
  refine r_aload_n (pc := 4) dX5_ownPrice_4 rfl ?_
  refine r_iload_n (pc := 5) dX5_ownPrice_5 rfl ?_
  refine r_iconst (pc := 6) (v := 0) dX5_ownPrice_6 (by decide) ?_
  refine r_callV_P (pc := 7) (b := mb) (As := [.int (nI b), .int (nI 0)]) 5 140 dX5_ownPrice_7 lk_X5_takesAt (ml_RX5_140 rfl) im_X5_takesAt se_X5_takesAt (by decide) (c5_o hM) (Nat.le_of_ble_eq_true rfl) rfl (takesAt_ct hM hk (by omega) (by omega) (by omega)) ?_
  refine r_imul (pc := 10) (x := -(nI u)) (z := (tbR I mb b (rwF (0 + eC E b))).1) dX5_ownPrice_10 ?_
  refine r_istore (pc := 11) (L' := [some (.ref mb), some (.int (nI b)), some (.int (nI u)), some (.int (nI 0)), some (.int ((-(nI u)) * ((tbR I mb b (rwF (0 + eC E b))).1))), none, none]) dX5_ownPrice_11 (by decide) rfl rfl ?_
  refine r_iconst (pc := 13) (v := 1) dX5_ownPrice_13 (by decide) ?_
  refine r_istore (pc := 14) (L' := [some (.ref mb), some (.int (nI b)), some (.int (nI u)), some (.int (nI 0)), some (.int ((-(nI u)) * ((tbR I mb b (rwF (0 + eC E b))).1))), some (.int (nI 1)), none]) dX5_ownPrice_14 (by decide) rfl rfl ?_
  have lp16 : ∀ (n16 : Nat), ∀ (x : Nat) (be : Nat) (mo : Int32), 42 - x = n16 → (1 ≤ x ∧ x ≤ 42) → (be = bsF (fun x => (nI x - nI u) * (tbR I mb b (rwF (x + eC E b))).1) (x - 1)) → (mo = (nI be - nI u) * (tbR I mb b (rwF (be + eC E b))).1) → wp (d + 3) 0 0 YX5_ownPrice 16 [some (.ref mb), some (.int (nI b)), some (.int (nI u)), some (.int (nI be)), some (.int mo), some (.int (nI x)), none] [] (I, G) (qP (nI (owF E rwF (tbR I mb) b u)) (I, G)) := by
    intro n16
    induction n16 using Nat.strongRecOn with
    | ind n16 ih16 =>
      intro x be mo hmu16 hkx hbe hmo
      refine r_iload (pc := 16) dX5_ownPrice_16 rfl ?_
      refine r_bipush (pc := 18) (v := 41) dX5_ownPrice_18 (by decide) ?_
      refine r_icmp_gt_n (pc := 20) (a := x) (b := 41) (tgt := 57) dX5_ownPrice_20 (by decide) (by omega) (by omega) (fun c20 => ?_) (fun c20 => ?_)
      · skip
        refine r_iload_n (pc := 57) dX5_ownPrice_57 rfl ?_
        refine r_ret_i (pc := 58) dX5_ownPrice_58 rfl ?_
        exact ⟨by rw [hbe, show x - 1 = 41 by omega]; rfl, rfl⟩
      · skip
        refine r_iload (pc := 23) dX5_ownPrice_23 rfl ?_
        refine r_iload_n (pc := 25) dX5_ownPrice_25 rfl ?_
        refine r_isub (pc := 26) (x := nI x) (z := nI u) dX5_ownPrice_26 ?_
        refine r_aload_n (pc := 27) dX5_ownPrice_27 rfl ?_
        refine r_iload_n (pc := 28) dX5_ownPrice_28 rfl ?_
        refine r_iload (pc := 29) dX5_ownPrice_29 rfl ?_
        refine r_callV_P (pc := 31) (b := mb) (As := [.int (nI b), .int (nI x)]) 5 140 dX5_ownPrice_31 lk_X5_takesAt (ml_RX5_140 rfl) im_X5_takesAt se_X5_takesAt (by decide) (c5_o hM) (Nat.le_of_ble_eq_true rfl) rfl (takesAt_ct hM hk (by omega) (by omega) (by omega)) ?_
        refine r_imul (pc := 34) (x := (nI x) - (nI u)) (z := (tbR I mb b (rwF (x + eC E b))).1) dX5_ownPrice_34 ?_
        refine r_istore (pc := 35) (L' := [some (.ref mb), some (.int (nI b)), some (.int (nI u)), some (.int (nI be)), some (.int mo), some (.int (nI x)), some (.int (((nI x) - (nI u)) * ((tbR I mb b (rwF (x + eC E b))).1)))]) dX5_ownPrice_35 (by decide) rfl rfl ?_
        refine r_iload (pc := 37) dX5_ownPrice_37 rfl ?_
        refine r_iload (pc := 39) dX5_ownPrice_39 rfl ?_
        refine r_icmp_le (pc := 41) (x := ((nI x) - (nI u)) * ((tbR I mb b (rwF (x + eC E b))).1)) (z := mo) (tgt := 51) dX5_ownPrice_41 (by decide) (fun c41 => ?_) (fun c41 => ?_)
        · skip
          refine r_iinc (pc := 51) (v := nI (x + 1)) (L' := [some (.ref mb), some (.int (nI b)), some (.int (nI u)), some (.int (nI be)), some (.int mo), some (.int (nI (x + 1))), some (.int (((nI x) - (nI u)) * ((tbR I mb b (rwF (x + eC E b))).1)))]) dX5_ownPrice_51 rfl (nI_inc _) (by decide) rfl rfl ?_
          refine r_goto (pc := 54) (tgt := 16) dX5_ownPrice_54 (by decide) ?_
          refine wp_sub [some (.ref mb), some (.int (nI b)), some (.int (nI u)), some (.int (nI be)), some (.int mo), some (.int (nI (x + 1))), none] ⟨rfl, ⟨rfl, ⟨rfl, ⟨rfl, ⟨rfl, ⟨rfl, trivial⟩⟩⟩⟩⟩⟩ ?_
          exact ih16 _ (by omega) (x + 1) be mo rfl (by omega) (by rw [Nat.add_sub_cancel, bsF_step _ hkx.1, ← hbe]; first | exact (if_pos (Int32.not_le.mp (by rw [← hmo]; exact c41))).symm | exact (if_neg (Int32.not_lt.mpr (by rw [← hmo]; exact c41))).symm) (by first | rfl | exact hmo)
        · skip
          refine r_iload (pc := 44) dX5_ownPrice_44 rfl ?_
          refine r_istore (pc := 46) (L' := [some (.ref mb), some (.int (nI b)), some (.int (nI u)), some (.int (nI be)), some (.int (((nI x) - (nI u)) * ((tbR I mb b (rwF (x + eC E b))).1))), some (.int (nI x)), some (.int (((nI x) - (nI u)) * ((tbR I mb b (rwF (x + eC E b))).1)))]) dX5_ownPrice_46 (by decide) rfl rfl ?_
          refine r_iload (pc := 48) dX5_ownPrice_48 rfl ?_
          refine r_istore_n (pc := 50) (L' := [some (.ref mb), some (.int (nI b)), some (.int (nI u)), some (.int (nI x)), some (.int (((nI x) - (nI u)) * ((tbR I mb b (rwF (x + eC E b))).1))), some (.int (nI x)), some (.int (((nI x) - (nI u)) * ((tbR I mb b (rwF (x + eC E b))).1)))]) dX5_ownPrice_50 (by decide) rfl rfl ?_
          refine r_iinc (pc := 51) (v := nI (x + 1)) (L' := [some (.ref mb), some (.int (nI b)), some (.int (nI u)), some (.int (nI x)), some (.int (((nI x) - (nI u)) * ((tbR I mb b (rwF (x + eC E b))).1))), some (.int (nI (x + 1))), some (.int (((nI x) - (nI u)) * ((tbR I mb b (rwF (x + eC E b))).1)))]) dX5_ownPrice_51 rfl (nI_inc _) (by decide) rfl rfl ?_
          refine r_goto (pc := 54) (tgt := 16) dX5_ownPrice_54 (by decide) ?_
          refine wp_sub [some (.ref mb), some (.int (nI b)), some (.int (nI u)), some (.int (nI x)), some (.int (((nI x) - (nI u)) * ((tbR I mb b (rwF (x + eC E b))).1))), some (.int (nI (x + 1))), none] ⟨rfl, ⟨rfl, ⟨rfl, ⟨rfl, ⟨rfl, ⟨rfl, trivial⟩⟩⟩⟩⟩⟩ ?_
          exact ih16 _ (by omega) (x + 1) x (((nI x) - (nI u)) * ((tbR I mb b (rwF (x + eC E b))).1)) rfl (by omega) (by rw [Nat.add_sub_cancel, bsF_step _ hkx.1, ← hbe]; first | exact (if_pos (Int32.not_le.mp (by rw [← hmo]; exact c41))).symm | exact (if_neg (Int32.not_lt.mpr (by rw [← hmo]; exact c41))).symm) (by first | rfl | exact hmo)
  exact lp16 _ 1 0 ((-(nI u)) * ((tbR I mb b (rwF (0 + eC E b))).1)) rfl (by omega) (by rfl) (by show _ = (nI 0 - nI u) * _; rw [nI_0, Int32.zero_sub])

set_option maxRecDepth 100000 in
theorem halvedPrice_ct {d : Nat} {I : Im} {G : Gm} {mb : Nat} {E : Ec} (hM : isC5 G mb) (hk : MkC I mb E) {b u : Nat} (hb : b < eN E) (hb8 : b < 8) (hu : u ≤ 1000) : Ct (d + 3) 0 0 YX5_halvedPrice [.ref mb, .int (nI b), .int (nI u)] (I, G) (qP (nI (hvF E rwF (tbR I mb) b u)) (I, G)) := by
  refine Ct.of (by decide) (by simp [Value.category]) (Nat.le_of_ble_eq_true rfl) ?_
  have hcb := hk.2.1 b
  show wp _ _ _ _ 0 [some (.ref mb), some (.int (nI b)), some (.int (nI u)), none, none, none, none, none] [] _ _
  refine r_bipush (pc := 0) (v := 41) dX5_halvedPrice_0 (by decide) ?_
  refine r_istore_n (pc := 2) (L' := [some (.ref mb), some (.int (nI b)), some (.int (nI u)), some (.int (nI 41)), none, none, none, none]) dX5_halvedPrice_2 (by decide) rfl rfl ?_
  refine r_iconst (pc := 3) (v := -1) dX5_halvedPrice_3 (by decide) ?_
  refine r_istore (pc := 4) (L' := [some (.ref mb), some (.int (nI b)), some (.int (nI u)), some (.int (nI 41)), some (.int (-1)), none, none, none]) dX5_halvedPrice_4 (by decide) rfl rfl ?_
  refine r_iconst (pc := 6) (v := 0) dX5_halvedPrice_6 (by decide) ?_
  refine r_istore (pc := 7) (L' := [some (.ref mb), some (.int (nI b)), some (.int (nI u)), some (.int (nI 41)), some (.int (-1)), some (.int (nI 0)), none, none]) dX5_halvedPrice_7 (by decide) rfl rfl ?_
  have lp9 : ∀ (n9 : Nat), ∀ (x : Nat) (be : Nat) (mo : Int32), 42 - x = n9 → (x ≤ 42) → ((be, mo) = hvS (fun x => (nI x - nI u) * (tbR I mb b (rwF (x + eC E b))).1) (fun x => (tbR I mb b (rwF (x + eC E b))).2) x) → wp (d + 3) 0 0 YX5_halvedPrice 9 [some (.ref mb), some (.int (nI b)), some (.int (nI u)), some (.int (nI be)), some (.int mo), some (.int (nI x)), none, none] [] (I, G) (qP (nI (hvF E rwF (tbR I mb) b u)) (I, G)) := by
    intro n9
    induction n9 using Nat.strongRecOn with
    | ind n9 ih9 =>
      intro x be mo hmu9 hx hbe
      refine r_iload (pc := 9) dX5_halvedPrice_9 rfl ?_
      refine r_bipush (pc := 11) (v := 41) dX5_halvedPrice_11 (by decide) ?_
      refine r_icmp_gt_n (pc := 13) (a := x) (b := 41) (tgt := 87) dX5_halvedPrice_13 (by decide) (by omega) (by omega) (fun c13 => ?_) (fun c13 => ?_)
      · skip
        refine r_iload_n (pc := 87) dX5_halvedPrice_87 rfl ?_
        refine r_ret_i (pc := 88) dX5_halvedPrice_88 rfl ?_
        exact ⟨by unfold hvF; rw [← show (be, mo) = hvS (fun x => (nI x - nI u) * (tbR I mb b (rwF (x + eC E b))).1) (fun x => (tbR I mb b (rwF (x + eC E b))).2) 42 from (show x = 42 by omega) ▸ hbe], rfl⟩
      · skip
        refine r_iload (pc := 16) dX5_halvedPrice_16 rfl ?_
        refine r_iload_n (pc := 18) dX5_halvedPrice_18 rfl ?_
        refine r_isub (pc := 19) (x := nI x) (z := nI u) dX5_halvedPrice_19 ?_
        refine r_aload_n (pc := 20) dX5_halvedPrice_20 rfl ?_
        refine r_iload_n (pc := 21) dX5_halvedPrice_21 rfl ?_
        refine r_iload (pc := 22) dX5_halvedPrice_22 rfl ?_
        refine r_callV_P (pc := 24) (b := mb) (As := [.int (nI b), .int (nI x)]) 5 140 dX5_halvedPrice_24 lk_X5_takesAt (ml_RX5_140 rfl) im_X5_takesAt se_X5_takesAt (by decide) (c5_o hM) (Nat.le_of_ble_eq_true rfl) rfl (takesAt_ct hM hk (by omega) (by omega) (by omega)) ?_
        refine r_imul (pc := 27) (x := (nI x) - (nI u)) (z := (tbR I mb b (rwF (x + eC E b))).1) dX5_halvedPrice_27 ?_
        refine r_istore (pc := 28) (L' := [some (.ref mb), some (.int (nI b)), some (.int (nI u)), some (.int (nI be)), some (.int mo), some (.int (nI x)), some (.int (((nI x) - (nI u)) * ((tbR I mb b (rwF (x + eC E b))).1))), none]) dX5_halvedPrice_28 (by decide) rfl rfl ?_
        refine r_aload_n (pc := 30) dX5_halvedPrice_30 rfl ?_
        refine r_get1 (pc := 31) 5 4 31 dX5_halvedPrice_31 (fl_RX5_31 rfl) (by decide) rfl (c5_o hM) (c5_p4 hM) ?_
        refine r_iload_n (pc := 34) dX5_halvedPrice_34 rfl ?_
        refine r_aald1_n (pc := 35) (i := b) 6 dX5_halvedPrice_35 (by decide) (c5_a4 hM) (by decide) (by omega) (c5_q4 hM (by omega)) ?_
        refine r_iload (pc := 36) dX5_halvedPrice_36 rfl ?_
        refine r_aload_n (pc := 38) dX5_halvedPrice_38 rfl ?_
        refine r_get1 (pc := 39) 5 2 22 dX5_halvedPrice_39 (fl_RX5_22 rfl) (by decide) rfl (c5_o hM) (c5_p2 hM) ?_
        refine r_iload_n (pc := 42) dX5_halvedPrice_42 rfl ?_
        refine r_iald_n (pc := 43) (i := b) dX5_halvedPrice_43 (c5_a2 hM) (by decide) (by omega) (v := nI (eC E b)) (hk.1 _ (by omega)) ?_
        refine r_iadd_n (pc := 44) (a := x) (b := eC E b) dX5_halvedPrice_44 ?_
        refine r_callSN_P (pc := 45) (As := [.int (nI (x + (eC E b)))]) 84 dX5_halvedPrice_45 lk_X9_row (nl_RX5_84 rfl) sm_X9_row (Nat.le_of_ble_eq_true rfl) rfl (row_ct (by omega)) ?_
        refine r_iald_n (pc := 48) (i := rwF (x + (eC E b))) dX5_halvedPrice_48 (c5_r4 hM (by omega)) (by decide) (by have := rwF_le (x + eC E b); omega) rfl ?_
        refine r_istore (pc := 49) (L' := [some (.ref mb), some (.int (nI b)), some (.int (nI u)), some (.int (nI be)), some (.int mo), some (.int (nI x)), some (.int (((nI x) - (nI u)) * ((tbR I mb b (rwF (x + eC E b))).1))), some (.int (I (mb + 12 + 1 + b) (rwF (x + (eC E b)))))]) dX5_halvedPrice_49 (by decide) rfl rfl ?_
        refine r_iload (pc := 51) dX5_halvedPrice_51 rfl ?_
        refine r_if_lt (pc := 53) (x := ((nI x) - (nI u)) * ((tbR I mb b (rwF (x + eC E b))).1)) (tgt := 81) dX5_halvedPrice_53 (by decide) (fun c53 => ?_) (fun c53 => ?_)
        · skip
          refine r_iinc (pc := 81) (v := nI (x + 1)) (L' := [some (.ref mb), some (.int (nI b)), some (.int (nI u)), some (.int (nI be)), some (.int mo), some (.int (nI (x + 1))), some (.int (((nI x) - (nI u)) * ((tbR I mb b (rwF (x + eC E b))).1))), some (.int (I (mb + 12 + 1 + b) (rwF (x + (eC E b)))))]) dX5_halvedPrice_81 rfl (nI_inc _) (by decide) rfl rfl ?_
          refine r_goto (pc := 84) (tgt := 9) dX5_halvedPrice_84 (by decide) ?_
          refine wp_sub [some (.ref mb), some (.int (nI b)), some (.int (nI u)), some (.int (nI be)), some (.int mo), some (.int (nI (x + 1))), none, none] ⟨rfl, ⟨rfl, ⟨rfl, ⟨rfl, ⟨rfl, ⟨rfl, trivial⟩⟩⟩⟩⟩⟩ ?_
          exact ih9 _ (by omega) (x + 1) be mo rfl (by omega) (by show _ = hvS (fun x => (nI x - nI u) * (tbR I mb b (rwF (x + eC E b))).1) (fun x => (tbR I mb b (rwF (x + eC E b))).2) (x + 1); unfold hvS; rw [← hbe]; first | exact (if_pos ⟨Int32.not_lt.mp c53, Int32.not_lt.mp c58, Int32.not_le.mp c68⟩).symm | exact (if_neg (fun q => absurd c53 (Int32.not_lt.mpr q.1))).symm | exact (if_neg (fun q => absurd c58 (Int32.not_lt.mpr q.2.1))).symm | exact (if_neg (fun q => absurd c68 (Int32.not_le.mpr q.2.2))).symm)
        · skip
          refine r_iload (pc := 56) dX5_halvedPrice_56 rfl ?_
          refine r_if_lt (pc := 58) (x := I (mb + 12 + 1 + b) (rwF (x + (eC E b)))) (tgt := 81) dX5_halvedPrice_58 (by decide) (fun c58 => ?_) (fun c58 => ?_)
          · skip
            refine r_iinc (pc := 81) (v := nI (x + 1)) (L' := [some (.ref mb), some (.int (nI b)), some (.int (nI u)), some (.int (nI be)), some (.int mo), some (.int (nI (x + 1))), some (.int (((nI x) - (nI u)) * ((tbR I mb b (rwF (x + eC E b))).1))), some (.int (I (mb + 12 + 1 + b) (rwF (x + (eC E b)))))]) dX5_halvedPrice_81 rfl (nI_inc _) (by decide) rfl rfl ?_
            refine r_goto (pc := 84) (tgt := 9) dX5_halvedPrice_84 (by decide) ?_
            refine wp_sub [some (.ref mb), some (.int (nI b)), some (.int (nI u)), some (.int (nI be)), some (.int mo), some (.int (nI (x + 1))), none, none] ⟨rfl, ⟨rfl, ⟨rfl, ⟨rfl, ⟨rfl, ⟨rfl, trivial⟩⟩⟩⟩⟩⟩ ?_
            exact ih9 _ (by omega) (x + 1) be mo rfl (by omega) (by show _ = hvS (fun x => (nI x - nI u) * (tbR I mb b (rwF (x + eC E b))).1) (fun x => (tbR I mb b (rwF (x + eC E b))).2) (x + 1); unfold hvS; rw [← hbe]; first | exact (if_pos ⟨Int32.not_lt.mp c53, Int32.not_lt.mp c58, Int32.not_le.mp c68⟩).symm | exact (if_neg (fun q => absurd c53 (Int32.not_lt.mpr q.1))).symm | exact (if_neg (fun q => absurd c58 (Int32.not_lt.mpr q.2.1))).symm | exact (if_neg (fun q => absurd c68 (Int32.not_le.mpr q.2.2))).symm)
          · skip
            refine r_iload (pc := 61) dX5_halvedPrice_61 rfl ?_
            refine r_iload (pc := 63) dX5_halvedPrice_63 rfl ?_
            refine r_imul (pc := 65) (x := ((nI x) - (nI u)) * ((tbR I mb b (rwF (x + eC E b))).1)) (z := I (mb + 12 + 1 + b) (rwF (x + (eC E b)))) dX5_halvedPrice_65 ?_
            refine r_iload (pc := 66) dX5_halvedPrice_66 rfl ?_
            refine r_icmp_le (pc := 68) (x := (((nI x) - (nI u)) * ((tbR I mb b (rwF (x + eC E b))).1)) * (I (mb + 12 + 1 + b) (rwF (x + (eC E b))))) (z := mo) (tgt := 81) dX5_halvedPrice_68 (by decide) (fun c68 => ?_) (fun c68 => ?_)
            · skip
              refine r_iinc (pc := 81) (v := nI (x + 1)) (L' := [some (.ref mb), some (.int (nI b)), some (.int (nI u)), some (.int (nI be)), some (.int mo), some (.int (nI (x + 1))), some (.int (((nI x) - (nI u)) * ((tbR I mb b (rwF (x + eC E b))).1))), some (.int (I (mb + 12 + 1 + b) (rwF (x + (eC E b)))))]) dX5_halvedPrice_81 rfl (nI_inc _) (by decide) rfl rfl ?_
              refine r_goto (pc := 84) (tgt := 9) dX5_halvedPrice_84 (by decide) ?_
              refine wp_sub [some (.ref mb), some (.int (nI b)), some (.int (nI u)), some (.int (nI be)), some (.int mo), some (.int (nI (x + 1))), none, none] ⟨rfl, ⟨rfl, ⟨rfl, ⟨rfl, ⟨rfl, ⟨rfl, trivial⟩⟩⟩⟩⟩⟩ ?_
              exact ih9 _ (by omega) (x + 1) be mo rfl (by omega) (by show _ = hvS (fun x => (nI x - nI u) * (tbR I mb b (rwF (x + eC E b))).1) (fun x => (tbR I mb b (rwF (x + eC E b))).2) (x + 1); unfold hvS; rw [← hbe]; first | exact (if_pos ⟨Int32.not_lt.mp c53, Int32.not_lt.mp c58, Int32.not_le.mp c68⟩).symm | exact (if_neg (fun q => absurd c53 (Int32.not_lt.mpr q.1))).symm | exact (if_neg (fun q => absurd c58 (Int32.not_lt.mpr q.2.1))).symm | exact (if_neg (fun q => absurd c68 (Int32.not_le.mpr q.2.2))).symm)
            · skip
              refine r_iload (pc := 71) dX5_halvedPrice_71 rfl ?_
              refine r_iload (pc := 73) dX5_halvedPrice_73 rfl ?_
              refine r_imul (pc := 75) (x := ((nI x) - (nI u)) * ((tbR I mb b (rwF (x + eC E b))).1)) (z := I (mb + 12 + 1 + b) (rwF (x + (eC E b)))) dX5_halvedPrice_75 ?_
              refine r_istore (pc := 76) (L' := [some (.ref mb), some (.int (nI b)), some (.int (nI u)), some (.int (nI be)), some (.int ((((nI x) - (nI u)) * ((tbR I mb b (rwF (x + eC E b))).1)) * (I (mb + 12 + 1 + b) (rwF (x + (eC E b)))))), some (.int (nI x)), some (.int (((nI x) - (nI u)) * ((tbR I mb b (rwF (x + eC E b))).1))), some (.int (I (mb + 12 + 1 + b) (rwF (x + (eC E b)))))]) dX5_halvedPrice_76 (by decide) rfl rfl ?_
              refine r_iload (pc := 78) dX5_halvedPrice_78 rfl ?_
              refine r_istore_n (pc := 80) (L' := [some (.ref mb), some (.int (nI b)), some (.int (nI u)), some (.int (nI x)), some (.int ((((nI x) - (nI u)) * ((tbR I mb b (rwF (x + eC E b))).1)) * (I (mb + 12 + 1 + b) (rwF (x + (eC E b)))))), some (.int (nI x)), some (.int (((nI x) - (nI u)) * ((tbR I mb b (rwF (x + eC E b))).1))), some (.int (I (mb + 12 + 1 + b) (rwF (x + (eC E b)))))]) dX5_halvedPrice_80 (by decide) rfl rfl ?_
              refine r_iinc (pc := 81) (v := nI (x + 1)) (L' := [some (.ref mb), some (.int (nI b)), some (.int (nI u)), some (.int (nI x)), some (.int ((((nI x) - (nI u)) * ((tbR I mb b (rwF (x + eC E b))).1)) * (I (mb + 12 + 1 + b) (rwF (x + (eC E b)))))), some (.int (nI (x + 1))), some (.int (((nI x) - (nI u)) * ((tbR I mb b (rwF (x + eC E b))).1))), some (.int (I (mb + 12 + 1 + b) (rwF (x + (eC E b)))))]) dX5_halvedPrice_81 rfl (nI_inc _) (by decide) rfl rfl ?_
              refine r_goto (pc := 84) (tgt := 9) dX5_halvedPrice_84 (by decide) ?_
              refine wp_sub [some (.ref mb), some (.int (nI b)), some (.int (nI u)), some (.int (nI x)), some (.int ((((nI x) - (nI u)) * ((tbR I mb b (rwF (x + eC E b))).1)) * (I (mb + 12 + 1 + b) (rwF (x + (eC E b)))))), some (.int (nI (x + 1))), none, none] ⟨rfl, ⟨rfl, ⟨rfl, ⟨rfl, ⟨rfl, ⟨rfl, trivial⟩⟩⟩⟩⟩⟩ ?_
              exact ih9 _ (by omega) (x + 1) x ((((nI x) - (nI u)) * ((tbR I mb b (rwF (x + eC E b))).1)) * (I (mb + 12 + 1 + b) (rwF (x + (eC E b))))) rfl (by omega) (by show _ = hvS (fun x => (nI x - nI u) * (tbR I mb b (rwF (x + eC E b))).1) (fun x => (tbR I mb b (rwF (x + eC E b))).2) (x + 1); unfold hvS; rw [← hbe]; first | exact (if_pos ⟨Int32.not_lt.mp c53, Int32.not_lt.mp c58, Int32.not_le.mp c68⟩).symm | exact (if_neg (fun q => absurd c53 (Int32.not_lt.mpr q.1))).symm | exact (if_neg (fun q => absurd c58 (Int32.not_lt.mpr q.2.1))).symm | exact (if_neg (fun q => absurd c68 (Int32.not_le.mpr q.2.2))).symm)
  exact lp9 _ 0 41 (-1) rfl (by omega) (by rfl)

theorem cmS_step (g : Nat → Int32) {p : Nat} (h : p ≤ 40) : cmS g (41 - p) = if (cmS g (41 - (p + 1))).2 ≤ g p then (p, g p) else cmS g (41 - (p + 1)) := by
  obtain ⟨j, hj⟩ : ∃ j, 41 - p = j + 1 := ⟨40 - p, by omega⟩
  rw [hj, show 41 - (p + 1) = j by omega]
  show (if (cmS g j).2 ≤ g (40 - j) then (40 - j, g (40 - j)) else cmS g j) = _
  rw [show 40 - j = p by omega]
theorem sm_from {f : Nat → Int32} {a : Nat} (h : ∀ k, k ≤ a → f k = 0) : sm f (a + 1) = 0 := sm_zero _ (fun k hk => h k (by omega))
/-- one step of commonPrice's outer loop -/
theorem cm_back {g : Nat → Int32} {p be : Nat} {mo : Int32} (hp : p + 1 ≤ 42) (hbe : (p + 1 = 42 ∧ be = 41 ∧ mo = 0) ∨ (p + 1 ≤ 41 ∧ (be, mo) = cmS g (41 - (p + 1)))) :
    ((p = 41 ∨ ¬ g p < mo) → p ≤ 41 ∧ (p, g p) = cmS g (41 - p)) ∧ (¬ p = 41 → g p < mo → p ≤ 41 ∧ (be, mo) = cmS g (41 - p)) := by
  rcases Nat.lt_or_ge p 41 with h | h
  · rcases hbe with ⟨h1, -, -⟩ | ⟨-, hbe⟩
    · omega
    · constructor
      · intro hc
        refine ⟨by omega, ?_⟩
        rw [cmS_step g (by omega), ← hbe]
        exact (if_pos (Int32.not_lt.mp (hc.resolve_left (by omega)))).symm
      · intro _ hc
        refine ⟨by omega, ?_⟩
        rw [cmS_step g (by omega), ← hbe]
        exact (if_neg (fun q => absurd hc (Int32.not_lt.mpr q))).symm
  · obtain rfl : p = 41 := by omega
    exact ⟨fun _ => ⟨by omega, rfl⟩, fun h2 => absurd rfl h2⟩

set_option maxRecDepth 100000 in
theorem commonPrice_ct {d : Nat} {I : Im} {G : Gm} {mb : Nat} {E : Ec} (hM : isC5 G mb) (hk : MkC I mb E) {t a u : Nat} (hT : isC8 G t) (ht : TrC I t E) (ha : a < eN E) (hu : u ≤ 1000) : Ct (d + 3) 0 0 YX5_commonPrice [.ref mb, .ref t, .int (nI a), .int (nI u)] (I, G) (qP (nI (cmF E rwF (tbR I mb) a u)) (I, G)) := by
  refine Ct.of (by decide) (by simp [Value.category]) (Nat.le_of_ble_eq_true rfl) ?_
  have hn8 := ht.2.1
  show wp _ _ _ _ 0 [some (.ref mb), some (.ref t), some (.int (nI a)), some (.int (nI u)), none, none, none, none, none] [] _ _
  refine r_bipush (pc := 0) (v := 41) dX5_commonPrice_0 (by decide) ?_
  refine r_istore (pc := 2) (L' := [some (.ref mb), some (.ref t), some (.int (nI a)), some (.int (nI u)), some (.int (nI 41)), none, none, none, none]) dX5_commonPrice_2 (by decide) rfl rfl ?_
  refine r_iconst (pc := 4) (v := 0) dX5_commonPrice_4 (by decide) ?_
  refine r_istore (pc := 5) (L' := [some (.ref mb), some (.ref t), some (.int (nI a)), some (.int (nI u)), some (.int (nI 41)), some (.int (nI 0)), none, none, none]) dX5_commonPrice_5 (by decide) rfl rfl ?_
  refine r_bipush (pc := 7) (v := 41) dX5_commonPrice_7 (by decide) ?_
  refine r_istore (pc := 9) (L' := [some (.ref mb), some (.ref t), some (.int (nI a)), some (.int (nI u)), some (.int (nI 41)), some (.int (nI 0)), some (.int (nI 41)), none, none]) dX5_commonPrice_9 (by decide) rfl rfl ?_
  refine wp_L (L2 := [some (.ref mb), some (.ref t), some (.int (nI a)), some (.int (nI u)), some (.int (nI 41)), some (.int (nI 0)), some (.int (nI (41 + 1) - 1)), none, none]) (by first | rfl | (simp only [nI_pred]; done) | (simp only [nI_pred]; rfl)) ?_
  have lp11 : ∀ (n11 : Nat), ∀ (p : Nat) (be : Nat) (mo : Int32), p = n11 → (p ≤ 42) → ((p = 42 ∧ be = 41 ∧ mo = 0) ∨ (p ≤ 41 ∧ (be, mo) = cmS (fun x => (nI x - nI u) * cmT E rwF (tbR I mb) a x) (41 - p))) → wp (d + 3) 0 0 YX5_commonPrice 11 [some (.ref mb), some (.ref t), some (.int (nI a)), some (.int (nI u)), some (.int (nI be)), some (.int mo), some (.int (nI p - 1)), none, none] [] (I, G) (qP (nI (cmF E rwF (tbR I mb) a u)) (I, G)) := by
    intro n11
    induction n11 using Nat.strongRecOn with
    | ind n11 ih11 =>
      intro p be mo hmu11 hp hbe
      rcases p with _ | p
      · skip
        show wp _ _ _ _ _ [some (.ref mb), some (.ref t), some (.int (nI a)), some (.int (nI u)), some (.int (nI be)), some (.int mo), some (.int (-1)), none, none] _ _ _
        refine r_iload (pc := 11) dX5_commonPrice_11 rfl ?_
        refine r_if_lt (pc := 13) (x := (-1)) (tgt := 113) dX5_commonPrice_13 (by decide) (fun c13 => ?_) (fun c13 => ?_)
        · skip
          refine r_iload (pc := 113) dX5_commonPrice_113 rfl ?_
          refine r_ret_i (pc := 115) dX5_commonPrice_115 rfl ?_
          exact ⟨by unfold cmF; rcases hbe with ⟨h1, -, -⟩ | ⟨-, hbe⟩ <;> first | omega | rw [← show _ = cmS _ 41 from hbe], rfl⟩
        · exfalso; exact absurd c13 (by decide)
      · skip
        refine wp_L (L2 := [some (.ref mb), some (.ref t), some (.int (nI a)), some (.int (nI u)), some (.int (nI be)), some (.int mo), some (.int (nI p)), none, none]) (by rw [nI_pred]) ?_
        refine r_iload (pc := 11) dX5_commonPrice_11 rfl ?_
        refine r_if_lt_n (pc := 13) (tgt := 113) dX5_commonPrice_13 (by decide) (by have := ht.2.1; omega) ?_
        refine r_iconst (pc := 16) (v := 0) dX5_commonPrice_16 (by decide) ?_
        refine r_istore (pc := 17) (L' := [some (.ref mb), some (.ref t), some (.int (nI a)), some (.int (nI u)), some (.int (nI be)), some (.int mo), some (.int (nI p)), some (.int (nI 0)), none]) dX5_commonPrice_17 (by decide) rfl rfl ?_
        refine r_iload_n (pc := 19) dX5_commonPrice_19 rfl ?_
        refine r_iconst (pc := 20) (v := 1) dX5_commonPrice_20 (by decide) ?_
        refine r_iadd_n (pc := 21) (a := a) (b := 1) dX5_commonPrice_21 ?_
        refine r_istore (pc := 22) (L' := [some (.ref mb), some (.ref t), some (.int (nI a)), some (.int (nI u)), some (.int (nI be)), some (.int mo), some (.int (nI p)), some (.int (nI 0)), some (.int (nI (a + 1)))]) dX5_commonPrice_22 (by decide) rfl rfl ?_
        have lp24 : ∀ (n24 : Nat), ∀ (b : Nat) (tk : Int32), eN E - b = n24 → (a + 1 ≤ b ∧ b ≤ max (a + 1) (eN E)) → (tk = sm (fun b => if eS E b = some a ∧ ¬ jn (eJ E) (nI b) then (tbR I mb b (rwF (p + eC E b))).1 else 0) b) → wp (d + 3) 0 0 YX5_commonPrice 24 [some (.ref mb), some (.ref t), some (.int (nI a)), some (.int (nI u)), some (.int (nI be)), some (.int mo), some (.int (nI p)), some (.int tk), some (.int (nI b))] [] (I, G) (qP (nI (cmF E rwF (tbR I mb) a u)) (I, G)) := by
          intro n24
          induction n24 using Nat.strongRecOn with
          | ind n24 ih24 =>
            intro b tk hmu24 hb htk
            refine r_iload (pc := 24) dX5_commonPrice_24 rfl ?_
            refine r_aload_n (pc := 26) dX5_commonPrice_26 rfl ?_
            refine r_getIv (pc := 27) 8 0 67 dX5_commonPrice_27 (fl_RX5_67 rfl) (by decide) rfl (c8_o hT) (v := nI (eN E)) (ht.1) ?_
            refine r_icmp_ge_n (pc := 30) (a := b) (b := eN E) (tgt := 75) dX5_commonPrice_30 (by decide) (by have := ht.2.1; omega) (by have := ht.2.1; omega) (fun c30 => ?_) (fun c30 => ?_)
            · skip
              have htk2 : tk = cmT E rwF (tbR I mb) a p := by
                rw [htk]
                unfold cmT
                rcases Nat.lt_or_ge a (eN E) with hlt | hge
                · rw [show b = eN E by omega]
                · exact absurd ha (by omega)
              refine r_iload (pc := 75) dX5_commonPrice_75 rfl ?_
              refine r_bipush (pc := 77) (v := 41) dX5_commonPrice_77 (by decide) ?_
              refine r_icmp_eq_n (pc := 79) (a := p) (b := 41) (tgt := 94) dX5_commonPrice_79 (by decide) (by have := ht.2.1; omega) (by have := ht.2.1; omega) (fun c79 => ?_) (fun c79 => ?_)
              · skip
                refine r_iload (pc := 94) dX5_commonPrice_94 rfl ?_
                refine r_iload_n (pc := 96) dX5_commonPrice_96 rfl ?_
                refine r_isub (pc := 97) (x := nI p) (z := nI u) dX5_commonPrice_97 ?_
                refine r_iload (pc := 98) dX5_commonPrice_98 rfl ?_
                refine r_imul (pc := 100) (x := (nI p) - (nI u)) (z := tk) dX5_commonPrice_100 ?_
                refine r_istore (pc := 101) (L' := [some (.ref mb), some (.ref t), some (.int (nI a)), some (.int (nI u)), some (.int (nI be)), some (.int (((nI p) - (nI u)) * tk)), some (.int (nI p)), some (.int tk), some (.int (nI b))]) dX5_commonPrice_101 (by decide) rfl rfl ?_
                refine r_iload (pc := 103) dX5_commonPrice_103 rfl ?_
                refine r_istore (pc := 105) (L' := [some (.ref mb), some (.ref t), some (.int (nI a)), some (.int (nI u)), some (.int (nI p)), some (.int (((nI p) - (nI u)) * tk)), some (.int (nI p)), some (.int tk), some (.int (nI b))]) dX5_commonPrice_105 (by decide) rfl rfl ?_
                refine r_iinc (pc := 107) (v := nI p - 1) (L' := [some (.ref mb), some (.ref t), some (.int (nI a)), some (.int (nI u)), some (.int (nI p)), some (.int (((nI p) - (nI u)) * tk)), some (.int (nI p - 1)), some (.int tk), some (.int (nI b))]) dX5_commonPrice_107 rfl (nI_dm _) (by decide) rfl rfl ?_
                refine r_goto (pc := 110) (tgt := 11) dX5_commonPrice_110 (by decide) ?_
                refine wp_sub [some (.ref mb), some (.ref t), some (.int (nI a)), some (.int (nI u)), some (.int (nI p)), some (.int (((nI p) - (nI u)) * tk)), some (.int (nI p - 1)), none, none] ⟨rfl, ⟨rfl, ⟨rfl, ⟨rfl, ⟨rfl, ⟨rfl, ⟨rfl, trivial⟩⟩⟩⟩⟩⟩⟩ ?_
                exact ih11 _ (by omega) p p (((nI p) - (nI u)) * tk) rfl (by omega) (by first | (right; rw [htk2] at *; exact (cm_back (g := (fun x => (nI x - nI u) * cmT E rwF (tbR I mb) a x)) hp hbe).1 (Or.inl c79)) | (right; simp only [htk2] at c91 ⊢; exact (cm_back (g := (fun x => (nI x - nI u) * cmT E rwF (tbR I mb) a x)) hp hbe).1 (Or.inr c91)) | (right; simp only [htk2] at c91 ⊢; exact (cm_back (g := (fun x => (nI x - nI u) * cmT E rwF (tbR I mb) a x)) hp hbe).2 c79 c91))
              · skip
                refine r_iload (pc := 82) dX5_commonPrice_82 rfl ?_
                refine r_iload_n (pc := 84) dX5_commonPrice_84 rfl ?_
                refine r_isub (pc := 85) (x := nI p) (z := nI u) dX5_commonPrice_85 ?_
                refine r_iload (pc := 86) dX5_commonPrice_86 rfl ?_
                refine r_imul (pc := 88) (x := (nI p) - (nI u)) (z := tk) dX5_commonPrice_88 ?_
                refine r_iload (pc := 89) dX5_commonPrice_89 rfl ?_
                refine r_icmp_lt (pc := 91) (x := ((nI p) - (nI u)) * tk) (z := mo) (tgt := 107) dX5_commonPrice_91 (by decide) (fun c91 => ?_) (fun c91 => ?_)
                · skip
                  refine r_iinc (pc := 107) (v := nI p - 1) (L' := [some (.ref mb), some (.ref t), some (.int (nI a)), some (.int (nI u)), some (.int (nI be)), some (.int mo), some (.int (nI p - 1)), some (.int tk), some (.int (nI b))]) dX5_commonPrice_107 rfl (nI_dm _) (by decide) rfl rfl ?_
                  refine r_goto (pc := 110) (tgt := 11) dX5_commonPrice_110 (by decide) ?_
                  refine wp_sub [some (.ref mb), some (.ref t), some (.int (nI a)), some (.int (nI u)), some (.int (nI be)), some (.int mo), some (.int (nI p - 1)), none, none] ⟨rfl, ⟨rfl, ⟨rfl, ⟨rfl, ⟨rfl, ⟨rfl, ⟨rfl, trivial⟩⟩⟩⟩⟩⟩⟩ ?_
                  exact ih11 _ (by omega) p be mo rfl (by omega) (by first | (right; rw [htk2] at *; exact (cm_back (g := (fun x => (nI x - nI u) * cmT E rwF (tbR I mb) a x)) hp hbe).1 (Or.inl c79)) | (right; simp only [htk2] at c91 ⊢; exact (cm_back (g := (fun x => (nI x - nI u) * cmT E rwF (tbR I mb) a x)) hp hbe).1 (Or.inr c91)) | (right; simp only [htk2] at c91 ⊢; exact (cm_back (g := (fun x => (nI x - nI u) * cmT E rwF (tbR I mb) a x)) hp hbe).2 c79 c91))
                · skip
                  refine r_iload (pc := 94) dX5_commonPrice_94 rfl ?_
                  refine r_iload_n (pc := 96) dX5_commonPrice_96 rfl ?_
                  refine r_isub (pc := 97) (x := nI p) (z := nI u) dX5_commonPrice_97 ?_
                  refine r_iload (pc := 98) dX5_commonPrice_98 rfl ?_
                  refine r_imul (pc := 100) (x := (nI p) - (nI u)) (z := tk) dX5_commonPrice_100 ?_
                  refine r_istore (pc := 101) (L' := [some (.ref mb), some (.ref t), some (.int (nI a)), some (.int (nI u)), some (.int (nI be)), some (.int (((nI p) - (nI u)) * tk)), some (.int (nI p)), some (.int tk), some (.int (nI b))]) dX5_commonPrice_101 (by decide) rfl rfl ?_
                  refine r_iload (pc := 103) dX5_commonPrice_103 rfl ?_
                  refine r_istore (pc := 105) (L' := [some (.ref mb), some (.ref t), some (.int (nI a)), some (.int (nI u)), some (.int (nI p)), some (.int (((nI p) - (nI u)) * tk)), some (.int (nI p)), some (.int tk), some (.int (nI b))]) dX5_commonPrice_105 (by decide) rfl rfl ?_
                  refine r_iinc (pc := 107) (v := nI p - 1) (L' := [some (.ref mb), some (.ref t), some (.int (nI a)), some (.int (nI u)), some (.int (nI p)), some (.int (((nI p) - (nI u)) * tk)), some (.int (nI p - 1)), some (.int tk), some (.int (nI b))]) dX5_commonPrice_107 rfl (nI_dm _) (by decide) rfl rfl ?_
                  refine r_goto (pc := 110) (tgt := 11) dX5_commonPrice_110 (by decide) ?_
                  refine wp_sub [some (.ref mb), some (.ref t), some (.int (nI a)), some (.int (nI u)), some (.int (nI p)), some (.int (((nI p) - (nI u)) * tk)), some (.int (nI p - 1)), none, none] ⟨rfl, ⟨rfl, ⟨rfl, ⟨rfl, ⟨rfl, ⟨rfl, ⟨rfl, trivial⟩⟩⟩⟩⟩⟩⟩ ?_
                  exact ih11 _ (by omega) p p (((nI p) - (nI u)) * tk) rfl (by omega) (by first | (right; rw [htk2] at *; exact (cm_back (g := (fun x => (nI x - nI u) * cmT E rwF (tbR I mb) a x)) hp hbe).1 (Or.inl c79)) | (right; simp only [htk2] at c91 ⊢; exact (cm_back (g := (fun x => (nI x - nI u) * cmT E rwF (tbR I mb) a x)) hp hbe).1 (Or.inr c91)) | (right; simp only [htk2] at c91 ⊢; exact (cm_back (g := (fun x => (nI x - nI u) * cmT E rwF (tbR I mb) a x)) hp hbe).2 c79 c91))
            · skip
              refine r_aload_n (pc := 33) dX5_commonPrice_33 rfl ?_
              refine r_get1 (pc := 34) 8 3 106 dX5_commonPrice_34 (fl_RX5_106 rfl) (by decide) rfl (c8_o hT) (c8_p3 hT) ?_
              refine r_iload (pc := 37) dX5_commonPrice_37 rfl ?_
              refine r_iald_n (pc := 39) (i := b) dX5_commonPrice_39 (c8_a3 hT) (by decide) (by omega) (v := sI (eS E b)) (ht.2.2.1 _ (by omega)) ?_
              refine r_iload_n (pc := 40) dX5_commonPrice_40 rfl ?_
              refine r_icmp_ne (pc := 41) (x := sI (eS E b)) (z := nI a) (tgt := 69) dX5_commonPrice_41 (by decide) (fun c41 => ?_) (fun c41 => ?_)
              · skip
                have hcase : (if eS E b = some a ∧ ¬ jn (eJ E) (nI b) then (tbR I mb b (rwF (p + eC E b))).1 else 0) = 0 := if_neg (fun q => c41 ((sI_eq (by omega) (ht.lt b)).mpr q.1))
                refine r_iinc (pc := 69) (v := nI (b + 1)) (L' := [some (.ref mb), some (.ref t), some (.int (nI a)), some (.int (nI u)), some (.int (nI be)), some (.int mo), some (.int (nI p)), some (.int tk), some (.int (nI (b + 1)))]) dX5_commonPrice_69 rfl (nI_inc _) (by decide) rfl rfl ?_
                refine r_goto (pc := 72) (tgt := 24) dX5_commonPrice_72 (by decide) ?_
                exact ih24 _ (by omega) (b + 1) tk rfl (by omega) (by rw [show ∀ f k, sm f (k + 1) = sm f k + f k from fun _ _ => rfl, ← htk]; refine Eq.trans ?_ (congrArg (fun z => tk + z) hcase).symm; first | rfl | exact (Int32.add_zero _).symm)
              · skip
                refine r_aload_n (pc := 44) dX5_commonPrice_44 rfl ?_
                refine r_get1 (pc := 45) 5 1 18 dX5_commonPrice_45 (fl_RX5_18 rfl) (by decide) rfl (c5_o hM) (c5_p1 hM) ?_
                refine r_iload (pc := 48) dX5_commonPrice_48 rfl ?_
                refine r_callV_P (pc := 50) (b := mb + 1) (As := [.int (nI b)]) 7 102 dX5_commonPrice_50 lk_X7_joins (ml_RX5_102 rfl) im_X7_joins se_X7_joins (by decide) (c7_o (c5_s1 hM)) (Nat.le_of_ble_eq_true rfl) rfl (joins_e (c5_s1 hM) hk.2.2.1) ?_
                refine r_if_ne_b (pc := 53) (tgt := 69) dX5_commonPrice_53 (by decide) (fun c53 => ?_) (fun c53 => ?_)
                · skip
                  have hcase : (if eS E b = some a ∧ ¬ jn (eJ E) (nI b) then (tbR I mb b (rwF (p + eC E b))).1 else 0) = 0 := if_neg (fun q => q.2 c53)
                  refine r_iinc (pc := 69) (v := nI (b + 1)) (L' := [some (.ref mb), some (.ref t), some (.int (nI a)), some (.int (nI u)), some (.int (nI be)), some (.int mo), some (.int (nI p)), some (.int tk), some (.int (nI (b + 1)))]) dX5_commonPrice_69 rfl (nI_inc _) (by decide) rfl rfl ?_
                  refine r_goto (pc := 72) (tgt := 24) dX5_commonPrice_72 (by decide) ?_
                  exact ih24 _ (by omega) (b + 1) tk rfl (by omega) (by rw [show ∀ f k, sm f (k + 1) = sm f k + f k from fun _ _ => rfl, ← htk]; refine Eq.trans ?_ (congrArg (fun z => tk + z) hcase).symm; first | rfl | exact (Int32.add_zero _).symm)
                · skip
                  have hcase : (if eS E b = some a ∧ ¬ jn (eJ E) (nI b) then (tbR I mb b (rwF (p + eC E b))).1 else 0) = (tbR I mb b (rwF (p + eC E b))).1 := if_pos ⟨(sI_eq (by omega) (ht.lt b)).mp c41, c53⟩
                  refine r_iload (pc := 56) dX5_commonPrice_56 rfl ?_
                  refine r_aload_n (pc := 58) dX5_commonPrice_58 rfl ?_
                  refine r_iload (pc := 59) dX5_commonPrice_59 rfl ?_
                  refine r_iload (pc := 61) dX5_commonPrice_61 rfl ?_
                  refine r_callV_P (pc := 63) (b := mb) (As := [.int (nI b), .int (nI p)]) 5 140 dX5_commonPrice_63 lk_X5_takesAt (ml_RX5_140 rfl) im_X5_takesAt se_X5_takesAt (by decide) (c5_o hM) (Nat.le_of_ble_eq_true rfl) rfl (takesAt_ct hM hk (by omega) (by omega) (by omega)) ?_
                  refine r_iadd (pc := 66) (x := tk) (z := (tbR I mb b (rwF (p + eC E b))).1) dX5_commonPrice_66 ?_
                  refine r_istore (pc := 67) (L' := [some (.ref mb), some (.ref t), some (.int (nI a)), some (.int (nI u)), some (.int (nI be)), some (.int mo), some (.int (nI p)), some (.int (tk + ((tbR I mb b (rwF (p + eC E b))).1))), some (.int (nI b))]) dX5_commonPrice_67 (by decide) rfl rfl ?_
                  refine r_iinc (pc := 69) (v := nI (b + 1)) (L' := [some (.ref mb), some (.ref t), some (.int (nI a)), some (.int (nI u)), some (.int (nI be)), some (.int mo), some (.int (nI p)), some (.int (tk + ((tbR I mb b (rwF (p + eC E b))).1))), some (.int (nI (b + 1)))]) dX5_commonPrice_69 rfl (nI_inc _) (by decide) rfl rfl ?_
                  refine r_goto (pc := 72) (tgt := 24) dX5_commonPrice_72 (by decide) ?_
                  exact ih24 _ (by omega) (b + 1) (tk + ((tbR I mb b (rwF (p + eC E b))).1)) rfl (by omega) (by rw [show ∀ f k, sm f (k + 1) = sm f k + f k from fun _ _ => rfl, ← htk]; refine Eq.trans ?_ (congrArg (fun z => tk + z) hcase).symm; first | rfl | exact (Int32.add_zero _).symm)
        exact lp24 _ (a + 1) 0 rfl (by omega) (by exact (sm_from (fun k hk2 => if_neg (fun q => by have := ht.2.2.2.1 k a q.1; omega))).symm)
  exact lp11 _ (41 + 1) 41 0 rfl (by omega) (by exact Or.inl ⟨rfl, rfl, rfl⟩)
