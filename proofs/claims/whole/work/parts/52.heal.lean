/-! ===== fees and parts; a trade's own loops ===== -/
def anT (s : Nat → Option Nat) : Nat → Nat → Nat → Bool
  | 0, h, a => decide (h = a)
  | f + 1, h, a => if h = a then true else match s h with
    | none => false
    | some b => anT s f b a
theorem anT_st {s : Nat → Option Nat} {a : Nat} (hs : ∀ b a, s b = some a → a < b) : ∀ f h, h ≤ f → anT s (f + 1) h a = anT s f h a
  | 0, h, hh => by
    obtain rfl : h = 0 := by omega
    show (if 0 = a then true else _) = decide (0 = a)
    by_cases e : 0 = a
    · rw [if_pos e, decide_eq_true e]
    · rw [if_neg e, decide_eq_false e]
      cases hz : s 0 with
      | none => rfl
      | some b => exact absurd (hs 0 b hz) (Nat.not_lt_zero _)
  | f + 1, h, hh => by
    show (if h = a then true else _) = (if h = a then true else _)
    by_cases e : h = a
    · rw [if_pos e, if_pos e]
    · rw [if_neg e, if_neg e]
      cases hz : s h with
      | none => rfl
      | some b =>
        have := hs h b hz
        exact anT_st hs f b (by omega)
/-- whether h is a, or buys by way of it -/
def anF (s : Nat → Option Nat) (h a : Nat) : Bool := anT s 8 h a
theorem anF_eq {s : Nat → Option Nat} {a h : Nat} (hs : ∀ b a, s b = some a → a < b) (hh : h < 8) : anF s h a = if h = a then true else match s h with
    | none => false
    | some b => anF s b a := by
  show (if h = a then true else _) = _
  by_cases e : h = a
  · rw [if_pos e, if_pos e]
  · rw [if_neg e, if_neg e]
    cases hz : s h with
    | none => rfl
    | some b =>
      have := hs h b hz
      exact (anT_st hs 7 b (by omega)).symm
theorem anF_self {s : Nat → Option Nat} {h : Nat} : anF s h h = true := if_pos rfl
theorem anF_low {s : Nat → Option Nat} {a : Nat} (hs : ∀ b a, s b = some a → a < b) : ∀ h, h < 8 → h < a → anF s h a = false := by
  intro h
  induction h using Nat.strongRecOn with
  | ind h ih =>
    intro h8 hl
    rw [anF_eq hs h8, if_neg (by omega)]
    cases hz : s h with
    | none => rfl
    | some b =>
      have := hs h b hz
      exact ih b this (by omega) (by omega)
def anV (s : Nat → Option Nat) (a : Nat) (v : Option Nat) : Bool := match v with
  | none => false
  | some h => anF s h a

theorem m1_le {a : Nat} (h : a < 2 ^ 31 := by omega) : (-1 : Int32) ≤ nI a := Int32.le_of_lt (Int32.lt_of_lt_of_le (show (-1 : Int32) < 0 by decide) (nI_pos' h))
theorem m1_ne {a : Nat} (h : a < 2 ^ 31) (e : (-1 : Int32) = nI a) : False := by
  have := nI_pos' h
  rw [← e] at this
  exact absurd this (by decide)

set_option maxRecDepth 100000 in
theorem isBelow_ct {d : Nat} {I : Im} {G : Gm} {t : Nat} {E : Ec} (hT : isC8 G t) (ht : TrC I t E) {h a : Nat} (hh : h < 8) (ha : a < 8) : Ct (d + 1) 0 0 YX8_isBelow [.ref t, .int (nI h), .int (nI a)] (I, G) (qP (bz (anF (eS E) h a = true)) (I, G)) := by
  refine Ct.of (by decide) (by simp [Value.category]) (Nat.le_of_ble_eq_true rfl) ?_
  have hE : SrC E := ⟨ht.2.1, ht.2.2.2.1⟩
  have hn8 := hE.1
  show wp _ _ _ _ 0 [some (.ref t), some (.int (nI h)), some (.int (nI a)), none, none] [] _ _
  refine r_iload_n (pc := 0) dX8_isBelow_0 rfl ?_
  refine r_istore_n (pc := 1) (L' := [some (.ref t), some (.int (nI h)), some (.int (nI a)), some (.int (nI h)), none]) dX8_isBelow_1 (by decide) rfl rfl ?_
  refine r_iconst (pc := 2) (v := 0) dX8_isBelow_2 (by decide) ?_
  refine r_istore (pc := 3) (L' := [some (.ref t), some (.int (nI h)), some (.int (nI a)), some (.int (nI h)), some (.int (nI 0))]) dX8_isBelow_3 (by decide) rfl rfl ?_
  have lp5 : ∀ (n5 : Nat), ∀ (st : Nat) (v : Option Nat), 8 - st = n5 → (st ≤ 8) → (anF (eS E) h a = anV (eS E) a v) → (∀ x, v = some x → x + st < 8) → wp (d + 1) 0 0 YX8_isBelow 5 [some (.ref t), some (.int (nI h)), some (.int (nI a)), some (.int (sI v)), some (.int (nI st))] [] (I, G) (qP (bz (anF (eS E) h a = true)) (I, G)) := by
    intro n5
    induction n5 using Nat.strongRecOn with
    | ind n5 ih5 =>
      intro st v hmu5 hst hv hvl
      rcases v with _ | hc
      · skip
        show wp _ _ _ _ _ [some (.ref t), some (.int (nI h)), some (.int (nI a)), some (.int (-1)), some (.int (nI st))] _ _ _
        refine r_iload (pc := 5) dX8_isBelow_5 rfl ?_
        refine r_bipush (pc := 7) (v := 8) dX8_isBelow_7 (by decide) ?_
        refine r_icmp_ge_n (pc := 9) (a := st) (b := 8) (tgt := 30) dX8_isBelow_9 (by decide) (by omega) (by omega) (fun c9 => ?_) (fun c9 => ?_)
        · skip
          refine r_iload_n (pc := 30) dX8_isBelow_30 rfl ?_
          refine r_iload_n (pc := 31) dX8_isBelow_31 rfl ?_
          refine r_icmp_ne (pc := 32) (x := (-1)) (z := nI a) (tgt := 39) dX8_isBelow_32 (by decide) (fun c32 => ?_) (fun c32 => ?_)
          · skip
            refine r_iconst (pc := 39) (v := 0) dX8_isBelow_39 (by decide) ?_
            refine r_ret_z (pc := 40) dX8_isBelow_40 rfl (by decide) ?_
            exact ⟨congrArg (fun z => some (Value.int z)) (by first | exact bz_t (by rw [hv]; show anF (eS E) hc a = true; rw [c32]; exact anF_self) | exact bz_f (by rw [hv]; show ¬ (false = true); simp) | exact bz_f (by rw [hv]; show ¬ anF (eS E) hc a = true; rw [anF_low (fun b a z => (hE.2 b a z).1) hc (by omega) (by omega)]; simp)), rfl⟩
          · exfalso; exact m1_ne (by omega) c32
        · skip
          refine r_iload_n (pc := 12) dX8_isBelow_12 rfl ?_
          refine r_iload_n (pc := 13) dX8_isBelow_13 rfl ?_
          refine r_icmp_le (pc := 14) (x := (-1)) (z := nI a) (tgt := 30) dX8_isBelow_14 (by decide) (fun c14 => ?_) (fun c14 => ?_)
          · skip
            refine r_iload_n (pc := 30) dX8_isBelow_30 rfl ?_
            refine r_iload_n (pc := 31) dX8_isBelow_31 rfl ?_
            refine r_icmp_ne (pc := 32) (x := (-1)) (z := nI a) (tgt := 39) dX8_isBelow_32 (by decide) (fun c32 => ?_) (fun c32 => ?_)
            · skip
              refine r_iconst (pc := 39) (v := 0) dX8_isBelow_39 (by decide) ?_
              refine r_ret_z (pc := 40) dX8_isBelow_40 rfl (by decide) ?_
              exact ⟨congrArg (fun z => some (Value.int z)) (by first | exact bz_t (by rw [hv]; show anF (eS E) hc a = true; rw [c32]; exact anF_self) | exact bz_f (by rw [hv]; show ¬ (false = true); simp) | exact bz_f (by rw [hv]; show ¬ anF (eS E) hc a = true; rw [anF_low (fun b a z => (hE.2 b a z).1) hc (by omega) (by omega)]; simp)), rfl⟩
            · exfalso; exact m1_ne (by omega) c32
          · exfalso; exact c14 m1_le
      · skip
        show wp _ _ _ _ _ [some (.ref t), some (.int (nI h)), some (.int (nI a)), some (.int (nI hc)), some (.int (nI st))] _ _ _
        have hcl := hvl hc rfl
        refine r_iload (pc := 5) dX8_isBelow_5 rfl ?_
        refine r_bipush (pc := 7) (v := 8) dX8_isBelow_7 (by decide) ?_
        refine r_icmp_ge_n (pc := 9) (a := st) (b := 8) (tgt := 30) dX8_isBelow_9 (by decide) (by omega) (by omega) (fun c9 => ?_) (fun c9 => ?_)
        · skip
          refine r_iload_n (pc := 30) dX8_isBelow_30 rfl ?_
          refine r_iload_n (pc := 31) dX8_isBelow_31 rfl ?_
          refine r_icmp_ne_n (pc := 32) (a := hc) (b := a) (tgt := 39) dX8_isBelow_32 (by decide) (by omega) (by omega) (fun c32 => ?_) (fun c32 => ?_)
          · skip
            refine r_iconst (pc := 39) (v := 0) dX8_isBelow_39 (by decide) ?_
            refine r_ret_z (pc := 40) dX8_isBelow_40 rfl (by decide) ?_
            exact ⟨congrArg (fun z => some (Value.int z)) (by first | exact bz_t (by rw [hv]; show anF (eS E) hc a = true; rw [c32]; exact anF_self) | exact bz_f (by rw [hv]; show ¬ (false = true); simp) | exact bz_f (by rw [hv]; show ¬ anF (eS E) hc a = true; rw [anF_low (fun b a z => (hE.2 b a z).1) hc (by omega) (by omega)]; simp)), rfl⟩
          · skip
            refine r_iconst (pc := 35) (v := 1) dX8_isBelow_35 (by decide) ?_
            refine r_goto (pc := 36) (tgt := 40) dX8_isBelow_36 (by decide) ?_
            refine r_ret_z (pc := 40) dX8_isBelow_40 rfl (by decide) ?_
            exact ⟨congrArg (fun z => some (Value.int z)) (by first | exact bz_t (by rw [hv]; show anF (eS E) hc a = true; rw [c32]; exact anF_self) | exact bz_f (by rw [hv]; show ¬ (false = true); simp) | exact bz_f (by rw [hv]; show ¬ anF (eS E) hc a = true; rw [anF_low (fun b a z => (hE.2 b a z).1) hc (by omega) (by omega)]; simp)), rfl⟩
        · skip
          refine r_iload_n (pc := 12) dX8_isBelow_12 rfl ?_
          refine r_iload_n (pc := 13) dX8_isBelow_13 rfl ?_
          refine r_icmp_le_n (pc := 14) (a := hc) (b := a) (tgt := 30) dX8_isBelow_14 (by decide) (by omega) (by omega) (fun c14 => ?_) (fun c14 => ?_)
          · skip
            refine r_iload_n (pc := 30) dX8_isBelow_30 rfl ?_
            refine r_iload_n (pc := 31) dX8_isBelow_31 rfl ?_
            refine r_icmp_ne_n (pc := 32) (a := hc) (b := a) (tgt := 39) dX8_isBelow_32 (by decide) (by omega) (by omega) (fun c32 => ?_) (fun c32 => ?_)
            · skip
              refine r_iconst (pc := 39) (v := 0) dX8_isBelow_39 (by decide) ?_
              refine r_ret_z (pc := 40) dX8_isBelow_40 rfl (by decide) ?_
              exact ⟨congrArg (fun z => some (Value.int z)) (by first | exact bz_t (by rw [hv]; show anF (eS E) hc a = true; rw [c32]; exact anF_self) | exact bz_f (by rw [hv]; show ¬ (false = true); simp) | exact bz_f (by rw [hv]; show ¬ anF (eS E) hc a = true; rw [anF_low (fun b a z => (hE.2 b a z).1) hc (by omega) (by omega)]; simp)), rfl⟩
            · skip
              refine r_iconst (pc := 35) (v := 1) dX8_isBelow_35 (by decide) ?_
              refine r_goto (pc := 36) (tgt := 40) dX8_isBelow_36 (by decide) ?_
              refine r_ret_z (pc := 40) dX8_isBelow_40 rfl (by decide) ?_
              exact ⟨congrArg (fun z => some (Value.int z)) (by first | exact bz_t (by rw [hv]; show anF (eS E) hc a = true; rw [c32]; exact anF_self) | exact bz_f (by rw [hv]; show ¬ (false = true); simp) | exact bz_f (by rw [hv]; show ¬ anF (eS E) hc a = true; rw [anF_low (fun b a z => (hE.2 b a z).1) hc (by omega) (by omega)]; simp)), rfl⟩
          · skip
            refine r_aload_n (pc := 17) dX8_isBelow_17 rfl ?_
            refine r_get1 (pc := 18) 8 3 22 dX8_isBelow_18 (fl_RX8_22 rfl) (by decide) rfl (c8_o hT) (c8_p3 hT) ?_
            refine r_iload_n (pc := 21) dX8_isBelow_21 rfl ?_
            refine r_iald_n (pc := 22) (i := hc) dX8_isBelow_22 (c8_a3 hT) (by decide) (by omega) (v := sI (eS E hc)) (ht.2.2.1 _ (by omega)) ?_
            have hvn : anF (eS E) h a = anV (eS E) a (eS E hc) := by rw [hv]; show anF (eS E) hc a = _; rw [anF_eq (fun b a z => (hE.2 b a z).1) (by omega), if_neg (by omega)]; rfl
            have hln : ∀ x, eS E hc = some x → x + (st + 1) < 8 := fun x hx => by have := hE.2 hc x hx; omega
            refine r_istore_n (pc := 23) (L' := [some (.ref t), some (.int (nI h)), some (.int (nI a)), some (.int (sI (eS E hc))), some (.int (nI st))]) dX8_isBelow_23 (by decide) rfl rfl ?_
            refine r_iinc (pc := 24) (v := nI (st + 1)) (L' := [some (.ref t), some (.int (nI h)), some (.int (nI a)), some (.int (sI (eS E hc))), some (.int (nI (st + 1)))]) dX8_isBelow_24 rfl (nI_inc _) (by decide) rfl rfl ?_
            refine r_goto (pc := 27) (tgt := 5) dX8_isBelow_27 (by decide) ?_
            exact ih5 _ (by omega) (st + 1) (eS E hc) rfl (by omega) hvn hln
  exact lp5 _ 0 (some h) rfl (by omega) (by rfl) (by exact fun x hx => by cases hx; omega)

set_option maxRecDepth 100000 in
theorem mostFee_ct {d : Nat} {I : Im} {G : Gm} {t : Nat} {E : Ec} (hT : isC8 G t) (ht : TrC I t E) {hl mb : Nat} {el : Nat → Nat} (hl3 : isC3 G hl) (hM : isC5 G mb) (hel : ∀ h, h < 8 → I (t + 3) h = nI (el h)) {a : Nat} (ha : a < 8) : Ct (d + 2) 0 0 YX3_mostFee [.ref hl, .ref t, .ref mb, .int (nI a)] (I, G) (qP (sm (fun h => if anF (eS E) h a = true then I (mb + 43) h - nI (el h) else 0) (eN E)) (I, G)) := by
  refine Ct.of (by decide) (by simp [Value.category]) (Nat.le_of_ble_eq_true rfl) ?_
  have hE : SrC E := ⟨ht.2.1, ht.2.2.2.1⟩
  have hn8 := hE.1
  show wp _ _ _ _ 0 [some (.ref hl), some (.ref t), some (.ref mb), some (.int (nI a)), none, none] [] _ _
  refine r_iconst (pc := 0) (v := 0) dX3_mostFee_0 (by decide) ?_
  refine r_istore (pc := 1) (L' := [some (.ref hl), some (.ref t), some (.ref mb), some (.int (nI a)), some (.int (nI 0)), none]) dX3_mostFee_1 (by decide) rfl rfl ?_
  refine r_iconst (pc := 3) (v := 0) dX3_mostFee_3 (by decide) ?_
  refine r_istore (pc := 4) (L' := [some (.ref hl), some (.ref t), some (.ref mb), some (.int (nI a)), some (.int (nI 0)), some (.int (nI 0))]) dX3_mostFee_4 (by decide) rfl rfl ?_
  have lp6 : ∀ (n6 : Nat), ∀ (h : Nat) (mo : Int32), eN E - h = n6 → (h ≤ eN E) → (mo = sm (fun h => if anF (eS E) h a = true then I (mb + 43) h - nI (el h) else 0) h) → wp (d + 2) 0 0 YX3_mostFee 6 [some (.ref hl), some (.ref t), some (.ref mb), some (.int (nI a)), some (.int mo), some (.int (nI h))] [] (I, G) (qP (sm (fun h => if anF (eS E) h a = true then I (mb + 43) h - nI (el h) else 0) (eN E)) (I, G)) := by
    intro n6
    induction n6 using Nat.strongRecOn with
    | ind n6 ih6 =>
      intro h mo hmu6 hh hmo
      refine r_iload (pc := 6) dX3_mostFee_6 rfl ?_
      refine r_aload_n (pc := 8) dX3_mostFee_8 rfl ?_
      refine r_getIv (pc := 9) 8 0 26 dX3_mostFee_9 (fl_RX3_26 rfl) (by decide) rfl (c8_o hT) (v := nI (eN E)) (ht.1) ?_
      refine r_icmp_ge_n (pc := 12) (a := h) (b := eN E) (tgt := 51) dX3_mostFee_12 (by decide) (by omega) (by omega) (fun c12 => ?_) (fun c12 => ?_)
      · skip
        refine r_iload (pc := 51) dX3_mostFee_51 rfl ?_
        refine r_ret_i (pc := 53) dX3_mostFee_53 rfl ?_
        exact ⟨by rw [hmo, show h = eN E by omega], rfl⟩
      · skip
        refine r_aload_n (pc := 15) dX3_mostFee_15 rfl ?_
        refine r_iload (pc := 16) dX3_mostFee_16 rfl ?_
        refine r_iload_n (pc := 18) dX3_mostFee_18 rfl ?_
        refine r_callV_P (pc := 19) (b := t) (As := [.int (nI h), .int (nI a)]) 8 31 dX3_mostFee_19 lk_X8_isBelow (ml_RX3_31 rfl) im_X8_isBelow se_X8_isBelow (by decide) (c8_o hT) (Nat.le_of_ble_eq_true rfl) rfl (isBelow_ct hT ht (by omega) (by omega)) ?_
        refine r_if_eq_b (pc := 22) (tgt := 45) dX3_mostFee_22 (by decide) (fun c22 => ?_) (fun c22 => ?_)
        · skip
          refine r_iinc (pc := 45) (v := nI (h + 1)) (L' := [some (.ref hl), some (.ref t), some (.ref mb), some (.int (nI a)), some (.int mo), some (.int (nI (h + 1)))]) dX3_mostFee_45 rfl (nI_inc _) (by decide) rfl rfl ?_
          refine r_goto (pc := 48) (tgt := 6) dX3_mostFee_48 (by decide) ?_
          exact ih6 _ (by omega) (h + 1) mo rfl (by omega) (by rw [show ∀ f k, sm f (k + 1) = sm f k + f k from fun _ _ => rfl, ← hmo]; first | exact congrArg (mo + ·) (if_pos c22).symm | exact ((congrArg (mo + ·) (if_neg c22)).trans (Int32.add_zero _)).symm)
        · skip
          refine r_iload (pc := 25) dX3_mostFee_25 rfl ?_
          refine r_aload_n (pc := 27) dX3_mostFee_27 rfl ?_
          refine r_get1 (pc := 28) 5 11 35 dX3_mostFee_28 (fl_RX3_35 rfl) (by decide) rfl (c5_o hM) (c5_p11 hM) ?_
          refine r_iload (pc := 31) dX3_mostFee_31 rfl ?_
          refine r_iald_n (pc := 33) (i := h) dX3_mostFee_33 (c5_a11 hM) (by decide) (by omega) rfl ?_
          refine r_aload_n (pc := 34) dX3_mostFee_34 rfl ?_
          refine r_get1 (pc := 35) 8 4 40 dX3_mostFee_35 (fl_RX3_40 rfl) (by decide) rfl (c8_o hT) (c8_p4 hT) ?_
          refine r_iload (pc := 38) dX3_mostFee_38 rfl ?_
          refine r_iald_n (pc := 40) (i := h) dX3_mostFee_40 (c8_a4 hT) (by decide) (by omega) (v := nI (el h)) (hel _ (by omega)) ?_
          refine r_isub (pc := 41) (x := I (mb + 43) h) (z := nI (el h)) dX3_mostFee_41 ?_
          refine r_iadd (pc := 42) (x := mo) (z := (I (mb + 43) h) - (nI (el h))) dX3_mostFee_42 ?_
          refine r_istore (pc := 43) (L' := [some (.ref hl), some (.ref t), some (.ref mb), some (.int (nI a)), some (.int (mo + ((I (mb + 43) h) - (nI (el h))))), some (.int (nI h))]) dX3_mostFee_43 (by decide) rfl rfl ?_
          refine r_iinc (pc := 45) (v := nI (h + 1)) (L' := [some (.ref hl), some (.ref t), some (.ref mb), some (.int (nI a)), some (.int (mo + ((I (mb + 43) h) - (nI (el h))))), some (.int (nI (h + 1)))]) dX3_mostFee_45 rfl (nI_inc _) (by decide) rfl rfl ?_
          refine r_goto (pc := 48) (tgt := 6) dX3_mostFee_48 (by decide) ?_
          exact ih6 _ (by omega) (h + 1) (mo + ((I (mb + 43) h) - (nI (el h)))) rfl (by omega) (by rw [show ∀ f k, sm f (k + 1) = sm f k + f k from fun _ _ => rfl, ← hmo]; first | exact congrArg (mo + ·) (if_pos c22).symm | exact ((congrArg (mo + ·) (if_neg c22)).trans (Int32.add_zero _)).symm)
  exact lp6 _ 0 0 rfl (by omega) (by rfl)

set_option maxRecDepth 100000 in
theorem heals_ct {d : Nat} {I : Im} {G : Gm} {t : Nat} {E : Ec} (hT : isC8 G t) (ht : TrC I t E) {hl mb : Nat} {el : Nat → Nat} (hl3 : isC3 G hl) (hM : isC5 G mb) (hel : ∀ h, h < 8 → I (t + 3) h = nI (el h)) : Ct (d + 2) 0 0 YX3_heals [.ref hl, .ref t, .ref mb] (I, G) (qP (bz (0 ≤ sm (fun h => I (mb + 43) h - nI (el h)) (eN E))) (I, G)) := by
  refine Ct.of (by decide) (by simp [Value.category]) (Nat.le_of_ble_eq_true rfl) ?_
  have hE : SrC E := ⟨ht.2.1, ht.2.2.2.1⟩
  have hn8 := hE.1
  show wp _ _ _ _ 0 [some (.ref hl), some (.ref t), some (.ref mb), none, none] [] _ _
  refine r_iconst (pc := 0) (v := 0) dX3_heals_0 (by decide) ?_
  refine r_istore_n (pc := 1) (L' := [some (.ref hl), some (.ref t), some (.ref mb), some (.int (nI 0)), none]) dX3_heals_1 (by decide) rfl rfl ?_
  refine r_iconst (pc := 2) (v := 0) dX3_heals_2 (by decide) ?_
  refine r_istore (pc := 3) (L' := [some (.ref hl), some (.ref t), some (.ref mb), some (.int (nI 0)), some (.int (nI 0))]) dX3_heals_3 (by decide) rfl rfl ?_
  have lp5 : ∀ (n5 : Nat), ∀ (h : Nat) (mo : Int32), eN E - h = n5 → (h ≤ eN E) → (mo = sm (fun h => I (mb + 43) h - nI (el h)) h) → wp (d + 2) 0 0 YX3_heals 5 [some (.ref hl), some (.ref t), some (.ref mb), some (.int mo), some (.int (nI h))] [] (I, G) (qP (bz (0 ≤ sm (fun h => I (mb + 43) h - nI (el h)) (eN E))) (I, G)) := by
    intro n5
    induction n5 using Nat.strongRecOn with
    | ind n5 ih5 =>
      intro h mo hmu5 hh hmo
      refine r_iload (pc := 5) dX3_heals_5 rfl ?_
      refine r_aload_n (pc := 7) dX3_heals_7 rfl ?_
      refine r_getIv (pc := 8) 8 0 26 dX3_heals_8 (fl_RX3_26 rfl) (by decide) rfl (c8_o hT) (v := nI (eN E)) (ht.1) ?_
      refine r_icmp_ge_n (pc := 11) (a := h) (b := eN E) (tgt := 38) dX3_heals_11 (by decide) (by omega) (by omega) (fun c11 => ?_) (fun c11 => ?_)
      · skip
        refine r_iload_n (pc := 38) dX3_heals_38 rfl ?_
        refine r_if_lt (pc := 39) (x := mo) (tgt := 46) dX3_heals_39 (by decide) (fun c39 => ?_) (fun c39 => ?_)
        · skip
          refine r_iconst (pc := 46) (v := 0) dX3_heals_46 (by decide) ?_
          refine r_ret_z (pc := 47) dX3_heals_47 rfl (by decide) ?_
          exact ⟨congrArg (fun z => some (Value.int z)) (by rw [hmo, show h = eN E by omega] at c39; first | exact bz_t (Int32.not_lt.mp c39) | exact bz_f (Int32.not_le.mpr c39)), rfl⟩
        · skip
          refine r_iconst (pc := 42) (v := 1) dX3_heals_42 (by decide) ?_
          refine r_goto (pc := 43) (tgt := 47) dX3_heals_43 (by decide) ?_
          refine r_ret_z (pc := 47) dX3_heals_47 rfl (by decide) ?_
          exact ⟨congrArg (fun z => some (Value.int z)) (by rw [hmo, show h = eN E by omega] at c39; first | exact bz_t (Int32.not_lt.mp c39) | exact bz_f (Int32.not_le.mpr c39)), rfl⟩
      · skip
        refine r_iload_n (pc := 14) dX3_heals_14 rfl ?_
        refine r_aload_n (pc := 15) dX3_heals_15 rfl ?_
        refine r_get1 (pc := 16) 5 11 35 dX3_heals_16 (fl_RX3_35 rfl) (by decide) rfl (c5_o hM) (c5_p11 hM) ?_
        refine r_iload (pc := 19) dX3_heals_19 rfl ?_
        refine r_iald_n (pc := 21) (i := h) dX3_heals_21 (c5_a11 hM) (by decide) (by omega) rfl ?_
        refine r_aload_n (pc := 22) dX3_heals_22 rfl ?_
        refine r_get1 (pc := 23) 8 4 40 dX3_heals_23 (fl_RX3_40 rfl) (by decide) rfl (c8_o hT) (c8_p4 hT) ?_
        refine r_iload (pc := 26) dX3_heals_26 rfl ?_
        refine r_iald_n (pc := 28) (i := h) dX3_heals_28 (c8_a4 hT) (by decide) (by omega) (v := nI (el h)) (hel _ (by omega)) ?_
        refine r_isub (pc := 29) (x := I (mb + 43) h) (z := nI (el h)) dX3_heals_29 ?_
        refine r_iadd (pc := 30) (x := mo) (z := (I (mb + 43) h) - (nI (el h))) dX3_heals_30 ?_
        refine r_istore_n (pc := 31) (L' := [some (.ref hl), some (.ref t), some (.ref mb), some (.int (mo + ((I (mb + 43) h) - (nI (el h))))), some (.int (nI h))]) dX3_heals_31 (by decide) rfl rfl ?_
        refine r_iinc (pc := 32) (v := nI (h + 1)) (L' := [some (.ref hl), some (.ref t), some (.ref mb), some (.int (mo + ((I (mb + 43) h) - (nI (el h))))), some (.int (nI (h + 1)))]) dX3_heals_32 rfl (nI_inc _) (by decide) rfl rfl ?_
        refine r_goto (pc := 35) (tgt := 5) dX3_heals_35 (by decide) ?_
        exact ih5 _ (by omega) (h + 1) (mo + ((I (mb + 43) h) - (nI (el h)))) rfl (by omega) (by rw [show ∀ f k, sm f (k + 1) = sm f k + f k from fun _ _ => rfl, ← hmo])
  exact lp5 _ 0 0 rfl (by omega) (by rfl)

/-- what is kept at p -/
def ibG (w : Nat → Nat) (ke sp p : Nat) : Int32 := (nI (ke * p) - nI sp) * nI (w p)
def ibF (w : Nat → Nat) (pr ke sp : Nat) : Bool := !(anB (fun p => decide (ibG w ke sp pr < ibG w ke sp p ∨ (ibG w ke sp p = ibG w ke sp pr ∧ p < pr))) 42)
theorem ibF_f {w : Nat → Nat} {pr ke sp p : Nat} (hp : p < 42) (h : ibG w ke sp pr < ibG w ke sp p ∨ (ibG w ke sp p = ibG w ke sp pr ∧ p < pr)) : ¬ ibF w pr ke sp = true := by
  unfold ibF
  rw [(anB_iff 42).mpr ⟨p, hp, decide_eq_true h⟩]
  simp
theorem ibF_t {w : Nat → Nat} {pr ke sp : Nat} (h : ∀ p, p < 42 → ¬ (ibG w ke sp pr < ibG w ke sp p ∨ (ibG w ke sp p = ibG w ke sp pr ∧ p < pr))) : ibF w pr ke sp = true := by
  unfold ibF
  cases e : anB (fun p => decide (ibG w ke sp pr < ibG w ke sp p ∨ (ibG w ke sp p = ibG w ke sp pr ∧ p < pr))) 42 with
  | false => rfl
  | true =>
    obtain ⟨p, hp, z⟩ := (anB_iff 42).mp e
    exact absurd (of_decide_eq_true z) (h p hp)

set_option maxRecDepth 100000 in
theorem isBest_ct {d : Nat} {I : Im} {G : Gm} {hl a pr ke sp : Nat} {w : Nat → Nat} (hl3 : isC3 G hl) (ha : ar (I, G) a 1 42) (hw : ∀ p, p < 42 → I a p = nI (w p)) (hpr : pr < 42) (hke : ke ≤ 100) (hsp2 : sp ≤ 10000) : Ct (d + 1) 0 0 YX3_isBest [.ref hl, .ref a, .int (nI pr), .int (nI ke), .int (nI sp)] (I, G) (qP (bz (ibF w pr ke sp = true)) (I, G)) := by
  refine Ct.of (by decide) (by simp [Value.category]) (Nat.le_of_ble_eq_true rfl) ?_
  show wp _ _ _ _ 0 [some (.ref hl), some (.ref a), some (.int (nI pr)), some (.int (nI ke)), some (.int (nI sp)), none, none, none] [] _ _
  refine r_iload_n (pc := 0) dX3_isBest_0 rfl ?_
  refine r_iload_n (pc := 1) dX3_isBest_1 rfl ?_
  refine r_imul_n (pc := 2) (a := ke) (b := pr) dX3_isBest_2 ?_
  refine r_iload (pc := 3) dX3_isBest_3 rfl ?_
  refine r_isub (pc := 5) (x := nI (ke * pr)) (z := nI sp) dX3_isBest_5 ?_
  refine r_aload_n (pc := 6) dX3_isBest_6 rfl ?_
  refine r_iload_n (pc := 7) dX3_isBest_7 rfl ?_
  refine r_iald_n (pc := 8) (i := pr) dX3_isBest_8 ha (by decide) (by omega) (v := nI (w pr)) (hw _ (by omega)) ?_
  refine r_imul (pc := 9) (x := (nI (ke * pr)) - (nI sp)) (z := nI (w pr)) dX3_isBest_9 ?_
  refine r_istore (pc := 10) (L' := [some (.ref hl), some (.ref a), some (.int (nI pr)), some (.int (nI ke)), some (.int (nI sp)), some (.int (((nI (ke * pr)) - (nI sp)) * (nI (w pr)))), none, none]) dX3_isBest_10 (by decide) rfl rfl ?_
  refine r_iconst (pc := 12) (v := 0) dX3_isBest_12 (by decide) ?_
  refine r_istore (pc := 13) (L' := [some (.ref hl), some (.ref a), some (.int (nI pr)), some (.int (nI ke)), some (.int (nI sp)), some (.int (((nI (ke * pr)) - (nI sp)) * (nI (w pr)))), some (.int (nI 0)), none]) dX3_isBest_13 (by decide) rfl rfl ?_
  have lp15 : ∀ (n15 : Nat), ∀ (p : Nat), 42 - p = n15 → (p ≤ 42) → (∀ y, y < p → ¬ (ibG w ke sp pr < ibG w ke sp y ∨ (ibG w ke sp y = ibG w ke sp pr ∧ y < pr))) → wp (d + 1) 0 0 YX3_isBest 15 [some (.ref hl), some (.ref a), some (.int (nI pr)), some (.int (nI ke)), some (.int (nI sp)), some (.int (ibG w ke sp pr)), some (.int (nI p)), none] [] (I, G) (qP (bz (ibF w pr ke sp = true)) (I, G)) := by
    intro n15
    induction n15 using Nat.strongRecOn with
    | ind n15 ih15 =>
      intro p hmu15 hp hn
      refine r_iload (pc := 15) dX3_isBest_15 rfl ?_
      refine r_bipush (pc := 17) (v := 41) dX3_isBest_17 (by decide) ?_
      refine r_icmp_gt_n (pc := 19) (a := p) (b := 41) (tgt := 64) dX3_isBest_19 (by decide) (by omega) (by omega) (fun c19 => ?_) (fun c19 => ?_)
      · skip
        refine r_iconst (pc := 64) (v := 1) dX3_isBest_64 (by decide) ?_
        refine r_ret_z (pc := 65) dX3_isBest_65 rfl (by decide) ?_
        exact ⟨congrArg (fun z => some (Value.int z)) (bz_t (ibF_t (fun y hy => hn y (by omega)))), rfl⟩
      · skip
        refine r_iload_n (pc := 22) dX3_isBest_22 rfl ?_
        refine r_iload (pc := 23) dX3_isBest_23 rfl ?_
        refine r_imul_n (pc := 25) (a := ke) (b := p) dX3_isBest_25 ?_
        refine r_iload (pc := 26) dX3_isBest_26 rfl ?_
        refine r_isub (pc := 28) (x := nI (ke * p)) (z := nI sp) dX3_isBest_28 ?_
        refine r_aload_n (pc := 29) dX3_isBest_29 rfl ?_
        refine r_iload (pc := 30) dX3_isBest_30 rfl ?_
        refine r_iald_n (pc := 32) (i := p) dX3_isBest_32 ha (by decide) (by omega) (v := nI (w p)) (hw _ (by omega)) ?_
        refine r_imul (pc := 33) (x := (nI (ke * p)) - (nI sp)) (z := nI (w p)) dX3_isBest_33 ?_
        refine r_istore (pc := 34) (L' := [some (.ref hl), some (.ref a), some (.int (nI pr)), some (.int (nI ke)), some (.int (nI sp)), some (.int (ibG w ke sp pr)), some (.int (nI p)), some (.int (((nI (ke * p)) - (nI sp)) * (nI (w p))))]) dX3_isBest_34 (by decide) rfl rfl ?_
        refine r_iload (pc := 36) dX3_isBest_36 rfl ?_
        refine r_iload (pc := 38) dX3_isBest_38 rfl ?_
        refine r_icmp_gt (pc := 40) (x := ((nI (ke * p)) - (nI sp)) * (nI (w p))) (z := ibG w ke sp pr) (tgt := 56) dX3_isBest_40 (by decide) (fun c40 => ?_) (fun c40 => ?_)
        · skip
          have hbad := ibF_f (w := w) (pr := pr) (ke := ke) (sp := sp) (show p < 42 by omega) (Or.inl c40)
          refine r_iconst (pc := 56) (v := 0) dX3_isBest_56 (by decide) ?_
          refine r_ret_z (pc := 57) dX3_isBest_57 rfl (by decide) ?_
          exact ⟨congrArg (fun z => some (Value.int z)) (bz_f hbad), rfl⟩
        · skip
          refine r_iload (pc := 43) dX3_isBest_43 rfl ?_
          refine r_iload (pc := 45) dX3_isBest_45 rfl ?_
          refine r_icmp_ne (pc := 47) (x := ((nI (ke * p)) - (nI sp)) * (nI (w p))) (z := ibG w ke sp pr) (tgt := 58) dX3_isBest_47 (by decide) (fun c47 => ?_) (fun c47 => ?_)
          · skip
            have hcase : ¬ (ibG w ke sp pr < ibG w ke sp p ∨ (ibG w ke sp p = ibG w ke sp pr ∧ p < pr)) := fun z => z.elim (fun y => c40 y) (fun y => c47 y.1)
            refine r_iinc (pc := 58) (v := nI (p + 1)) (L' := [some (.ref hl), some (.ref a), some (.int (nI pr)), some (.int (nI ke)), some (.int (nI sp)), some (.int (ibG w ke sp pr)), some (.int (nI (p + 1))), some (.int (((nI (ke * p)) - (nI sp)) * (nI (w p))))]) dX3_isBest_58 rfl (nI_inc _) (by decide) rfl rfl ?_
            refine r_goto (pc := 61) (tgt := 15) dX3_isBest_61 (by decide) ?_
            refine wp_sub [some (.ref hl), some (.ref a), some (.int (nI pr)), some (.int (nI ke)), some (.int (nI sp)), some (.int (ibG w ke sp pr)), some (.int (nI (p + 1))), none] ⟨rfl, ⟨rfl, ⟨rfl, ⟨rfl, ⟨rfl, ⟨rfl, ⟨rfl, trivial⟩⟩⟩⟩⟩⟩⟩ ?_
            exact ih15 _ (by omega) (p + 1) rfl (by omega) (by exact fun y hy => (Nat.lt_or_ge y p).elim (hn y) (fun g => by obtain rfl : y = p := (by omega); exact hcase))
          · skip
            refine r_iload (pc := 50) dX3_isBest_50 rfl ?_
            refine r_iload_n (pc := 52) dX3_isBest_52 rfl ?_
            refine r_icmp_ge_n (pc := 53) (a := p) (b := pr) (tgt := 58) dX3_isBest_53 (by decide) (by omega) (by omega) (fun c53 => ?_) (fun c53 => ?_)
            · skip
              have hcase : ¬ (ibG w ke sp pr < ibG w ke sp p ∨ (ibG w ke sp p = ibG w ke sp pr ∧ p < pr)) := fun z => z.elim (fun y => c40 y) (fun y => by have := y.2; omega)
              refine r_iinc (pc := 58) (v := nI (p + 1)) (L' := [some (.ref hl), some (.ref a), some (.int (nI pr)), some (.int (nI ke)), some (.int (nI sp)), some (.int (ibG w ke sp pr)), some (.int (nI (p + 1))), some (.int (((nI (ke * p)) - (nI sp)) * (nI (w p))))]) dX3_isBest_58 rfl (nI_inc _) (by decide) rfl rfl ?_
              refine r_goto (pc := 61) (tgt := 15) dX3_isBest_61 (by decide) ?_
              refine wp_sub [some (.ref hl), some (.ref a), some (.int (nI pr)), some (.int (nI ke)), some (.int (nI sp)), some (.int (ibG w ke sp pr)), some (.int (nI (p + 1))), none] ⟨rfl, ⟨rfl, ⟨rfl, ⟨rfl, ⟨rfl, ⟨rfl, ⟨rfl, trivial⟩⟩⟩⟩⟩⟩⟩ ?_
              exact ih15 _ (by omega) (p + 1) rfl (by omega) (by exact fun y hy => (Nat.lt_or_ge y p).elim (hn y) (fun g => by obtain rfl : y = p := (by omega); exact hcase))
            · skip
              have hbad := ibF_f (w := w) (pr := pr) (ke := ke) (sp := sp) (show p < 42 by omega) (Or.inr ⟨c47, by omega⟩)
              refine r_iconst (pc := 56) (v := 0) dX3_isBest_56 (by decide) ?_
              refine r_ret_z (pc := 57) dX3_isBest_57 rfl (by decide) ?_
              exact ⟨congrArg (fun z => some (Value.int z)) (bz_f hbad), rfl⟩
  exact lp15 _ 0 rfl (by omega) (by exact fun y hy => absurd hy (Nat.not_lt_zero _))

/-- the pairs by position -/
def prB (w : Nat → Nat) (c pr r : Nat) : Bool := ibF w pr (100 - r % 100) (100 * (r / 100 + c))
def PrV (I : Im) (hl : Nat) (R : Nat → Bool) : Prop := I hl 1 = nI (ctB R 4100) ∧ ∀ r, r < 4100 → R r = true → I (hl + 1) (ctB R r) = nI r
def hG (G : Gm) (hl t : Nat) : Gm := (up2 G.1 hl 2 (some t), G.2)
theorem hG_eq {G : Gm} {hl t : Nat} (h : isC3 G hl) : Geq G (hG G hl t) := ⟨rfl, fun a k q => up2_rd ((Classical.em (a = hl)).elim (fun e => Or.inr (fun z => q (Or.inr (Or.inl ⟨by rw [e]; exact h.2.1, z⟩)))) Or.inl)⟩
theorem hG_same {G : Gm} {hl t : Nat} (h : G.1 hl 2 = some t) : hG G hl t = G := by
  unfold hG
  refine Prod.ext ?_ rfl
  funext a k
  show up2 G.1 hl 2 (some t) a k = G.1 a k
  unfold up2
  split
  · next z => rw [z.1, z.2, h]
  · rfl
theorem dm100 {p q : Nat} (hq : q < 100) : (100 * p + q) / 100 = p ∧ (100 * p + q) % 100 = q := by omega
theorem prB_at {w : Nat → Nat} {c pr x y : Nat} (hy : y < 100) : prB w c pr (100 * x + y) = ibF w pr (100 - y) (100 * (x + c)) := by
  unfold prB
  rw [(dm100 hy).1, (dm100 hy).2]
theorem ctB_mono {R : Nat → Bool} {a b : Nat} (h : a ≤ b) : ctB R a ≤ ctB R b := by
  induction b with
  | zero =>
    obtain rfl : a = 0 := by omega
    exact Nat.le_refl _
  | succ b ih =>
    by_cases e : a = b + 1
    · rw [e]
      exact Nat.le_refl _
    · have := ih (by omega)
      show ctB R a ≤ ctB R b + _
      omega

theorem isBest_e {d : Nat} {I : Im} {G : Gm} {hl a pr x y c : Nat} {w : Nat → Nat} (hl3 : isC3 G hl) (ha : ar (I, G) a 1 42) (hw : ∀ p, p < 42 → I a p = nI (w p)) (hpr : pr < 42) (hy : y < 100) (hx : 100 * (x + c) ≤ 10000) : Ct (d + 1) 0 0 YX3_isBest [.ref hl, .ref a, .int (nI pr), .int (nI (100 - y)), .int (nI (100 * (x + c)))] (I, G) (qP (bz (prB w c pr (100 * x + y) = true)) (I, G)) := by
  rw [prB_at hy]
  exact isBest_ct hl3 ha hw hpr (by omega) hx

set_option maxRecDepth 100000 in
theorem findPairs_ct {d : Nat} {I : Im} {G : Gm} {hl t sh pr c : Nat} {w : Nat → Nat} (hl3 : isC3 G hl) (hT : isC8 G t) (hsp : hl + 2 ≤ t ∨ t + 18 ≤ hl) (hs : sh < 8) (hc : I (t + 1) sh = nI c) (hc30 : c ≤ 30) (hw : ∀ p, p < 42 → I (t + 5 + 1 + sh) p = nI (w p)) (hpr : pr < 42) (hold : G.1 hl 2 = some t → I hl 3 = nI sh → PrV I hl (prB w c pr)) : Ct (d + 2) 0 0 YX3_findPairs [.ref hl, .ref t, .int (nI sh), .int (nI pr)] (I, G) (qU (fun M => ∃ I2 : Im, M = (I2, hG G hl t) ∧ PrV I2 hl (prB w c pr) ∧ I2 hl 3 = nI sh ∧ ∀ a k, a ≠ hl → a ≠ hl + 1 → I2 a k = I a k)) := by
  refine Ct.of (by decide) (by simp [Value.category]) (Nat.le_of_ble_eq_true rfl) ?_
  show wp _ _ _ _ 0 [some (.ref hl), some (.ref t), some (.int (nI sh)), some (.int (nI pr)), none, none, none] [] _ _
  have k17 : (¬ (G.1 hl 2 = some t ∧ I hl 3 = nI sh)) → wp (d + 2) 0 0 YX3_findPairs 17 [some (.ref hl), some (.ref t), some (.int (nI sh)), some (.int (nI pr)), none, none, none] [] (I, G) (qU (fun M => ∃ I2 : Im, M = (I2, hG G hl t) ∧ PrV I2 hl (prB w c pr) ∧ I2 hl 3 = nI sh ∧ ∀ a k, a ≠ hl → a ≠ hl + 1 → I2 a k = I a k)) := by
    intro  hns
    refine r_aload_n (pc := 17) dX3_findPairs_17 rfl ?_
    refine r_aload_n (pc := 18) dX3_findPairs_18 rfl ?_
    refine r_put1 (pc := 19) 3 2 19 dX3_findPairs_19 (fl_RX3_19 rfl) (by decide) rfl rfl (c3_o hl3) ?_
    obtain ⟨G2, hG2⟩ : ∃ z : Gm, z = hG G hl t := ⟨_, rfl⟩
    refine wp_M (M2 := (I, G2)) (by subst hG2; rfl) ?_
    have hge : Geq G G2 := by rw [hG2]; exact hG_eq hl3
    have hl3 := isC3_geq hge hl3
    have hT := isC8_geq hge hT
    refine r_aload_n (pc := 22) dX3_findPairs_22 rfl ?_
    refine r_iload_n (pc := 23) dX3_findPairs_23 rfl ?_
    refine r_putI (pc := 24) (v := nI sh) 3 3 23 dX3_findPairs_24 (fl_RX3_23 rfl) (by decide) rfl rfl (c3_o hl3) ?_
    refine r_aload_n (pc := 27) dX3_findPairs_27 rfl ?_
    refine r_iconst (pc := 28) (v := 0) dX3_findPairs_28 (by decide) ?_
    refine r_putI (pc := 29) (v := nI 0) 3 1 15 dX3_findPairs_29 (fl_RX3_15 rfl) (by decide) rfl rfl (c3_o hl3) ?_
    refine r_iconst (pc := 32) (v := 0) dX3_findPairs_32 (by decide) ?_
    refine r_istore (pc := 33) (L' := [some (.ref hl), some (.ref t), some (.int (nI sh)), some (.int (nI pr)), some (.int (nI 0)), none, none]) dX3_findPairs_33 (by decide) rfl rfl ?_
    have lp35 : ∀ (n35 : Nat), ∀ (x : Nat) (I1 : Im), 41 - x = n35 → (x ≤ 41) → (I1 hl 1 = nI (ctB (prB w c pr) (100 * x))) → (∀ r, r < 100 * x + 0 → (prB w c pr) r = true → I1 (hl + 1) (ctB (prB w c pr) r) = nI r) → (I1 hl 3 = nI sh) → (∀ a k, a ≠ hl → a ≠ hl + 1 → I1 a k = I a k) → wp (d + 2) 0 0 YX3_findPairs 35 [some (.ref hl), some (.ref t), some (.int (nI sh)), some (.int (nI pr)), some (.int (nI x)), none, none] [] (I1, G2) (qU (fun M => ∃ I2 : Im, M = (I2, hG G hl t) ∧ PrV I2 hl (prB w c pr) ∧ I2 hl 3 = nI sh ∧ ∀ a k, a ≠ hl → a ≠ hl + 1 → I2 a k = I a k)) := by
      intro n35
      induction n35 using Nat.strongRecOn with
      | ind n35 ih35 =>
        intro x I1 hmu35 hx hcn1 hps1 hsh1 hfr1
        refine r_iload (pc := 35) dX3_findPairs_35 rfl ?_
        refine r_bipush (pc := 37) (v := 41) dX3_findPairs_37 (by decide) ?_
        refine r_icmp_ge_n (pc := 39) (a := x) (b := 41) (tgt := 138) dX3_findPairs_39 (by decide) (by omega) (by omega) (fun c39 => ?_) (fun c39 => ?_)
        · skip
          refine r_ret_v (pc := 138) dX3_findPairs_138 rfl ?_
          obtain rfl : x = 41 := (by omega)
          exact ⟨rfl, I1, by rw [hG2], ⟨hcn1, hps1⟩, hsh1, hfr1⟩
        · skip
          refine r_bipush (pc := 42) (v := 100) dX3_findPairs_42 (by decide) ?_
          refine r_iload (pc := 44) dX3_findPairs_44 rfl ?_
          refine r_aload_n (pc := 46) dX3_findPairs_46 rfl ?_
          refine r_get1 (pc := 47) 8 2 43 dX3_findPairs_47 (fl_RX3_43 rfl) (by decide) rfl (c8_o hT) (c8_p2 hT) ?_
          refine r_iload_n (pc := 50) dX3_findPairs_50 rfl ?_
          refine r_iald_n (pc := 51) (i := sh) dX3_findPairs_51 (c8_a2 hT) (by decide) (by omega) (v := nI c) ((hfr1 _ _ (by omega) (by omega)).trans hc) ?_
          refine r_iadd_n (pc := 52) (a := x) (b := c) dX3_findPairs_52 ?_
          refine r_imul_n (pc := 53) (a := 100) (b := x + c) dX3_findPairs_53 ?_
          refine r_istore (pc := 54) (L' := [some (.ref hl), some (.ref t), some (.int (nI sh)), some (.int (nI pr)), some (.int (nI x)), some (.int (nI (100 * (x + c)))), none]) dX3_findPairs_54 (by decide) rfl rfl ?_
          refine r_iconst (pc := 56) (v := 0) dX3_findPairs_56 (by decide) ?_
          refine r_istore (pc := 57) (L' := [some (.ref hl), some (.ref t), some (.int (nI sh)), some (.int (nI pr)), some (.int (nI x)), some (.int (nI (100 * (x + c)))), some (.int (nI 0))]) dX3_findPairs_57 (by decide) rfl rfl ?_
          have lp59 : ∀ (n59 : Nat), ∀ (y : Nat) (I2 : Im), 100 - y = n59 → (y ≤ 100) → (I2 hl 1 = nI (ctB (prB w c pr) (100 * x + y))) → (∀ r, r < 100 * x + y → (prB w c pr) r = true → I2 (hl + 1) (ctB (prB w c pr) r) = nI r) → (I2 hl 3 = nI sh) → (∀ a k, a ≠ hl → a ≠ hl + 1 → I2 a k = I a k) → wp (d + 2) 0 0 YX3_findPairs 59 [some (.ref hl), some (.ref t), some (.int (nI sh)), some (.int (nI pr)), some (.int (nI x)), some (.int (nI (100 * (x + c)))), some (.int (nI y))] [] (I2, G2) (qU (fun M => ∃ I2 : Im, M = (I2, hG G hl t) ∧ PrV I2 hl (prB w c pr) ∧ I2 hl 3 = nI sh ∧ ∀ a k, a ≠ hl → a ≠ hl + 1 → I2 a k = I a k)) := by
            intro n59
            induction n59 using Nat.strongRecOn with
            | ind n59 ih59 =>
              intro y I2 hmu59 hy hcn2 hps2 hsh2 hfr2
              refine r_iload (pc := 59) dX3_findPairs_59 rfl ?_
              refine r_bipush (pc := 61) (v := 100) dX3_findPairs_61 (by decide) ?_
              refine r_icmp_ge_n (pc := 63) (a := y) (b := 100) (tgt := 132) dX3_findPairs_63 (by decide) (by omega) (by omega) (fun c63 => ?_) (fun c63 => ?_)
              · skip
                refine r_iinc (pc := 132) (v := nI (x + 1)) (L' := [some (.ref hl), some (.ref t), some (.int (nI sh)), some (.int (nI pr)), some (.int (nI (x + 1))), some (.int (nI (100 * (x + c)))), some (.int (nI y))]) dX3_findPairs_132 rfl (nI_inc _) (by decide) rfl rfl ?_
                refine r_goto (pc := 135) (tgt := 35) dX3_findPairs_135 (by decide) ?_
                refine wp_sub [some (.ref hl), some (.ref t), some (.int (nI sh)), some (.int (nI pr)), some (.int (nI (x + 1))), none, none] ⟨rfl, ⟨rfl, ⟨rfl, ⟨rfl, ⟨rfl, trivial⟩⟩⟩⟩⟩ ?_
                exact ih35 _ (by omega) (x + 1) I2 rfl (by omega) (by rw [hcn2, show 100 * x + y = 100 * (x + 1) by omega]) (by exact fun r hr => hps2 r (by omega)) hsh2 hfr2
              · skip
                refine r_aload_n (pc := 66) dX3_findPairs_66 rfl ?_
                refine r_aload_n (pc := 67) dX3_findPairs_67 rfl ?_
                refine r_get1 (pc := 68) 8 6 46 dX3_findPairs_68 (fl_RX3_46 rfl) (by decide) rfl (c8_o hT) (c8_p6 hT) ?_
                refine r_iload_n (pc := 71) dX3_findPairs_71 rfl ?_
                refine r_aald1_n (pc := 72) (i := sh) 6 dX3_findPairs_72 (by decide) (c8_a6 hT) (by decide) (by omega) (c8_q6 hT (by omega)) ?_
                refine r_iload_n (pc := 73) dX3_findPairs_73 rfl ?_
                refine r_bipush (pc := 74) (v := 100) dX3_findPairs_74 (by decide) ?_
                refine r_iload (pc := 76) dX3_findPairs_76 rfl ?_
                refine r_isub_n (pc := 78) (a := 100) (b := y) dX3_findPairs_78 (by omega) ?_
                refine r_iload (pc := 79) dX3_findPairs_79 rfl ?_
                refine r_callV_P (pc := 81) (b := hl) (As := [.ref (t + 5 + 1 + sh), .int (nI pr), .int (nI (100 - y)), .int (nI (100 * (x + c)))]) 3 50 dX3_findPairs_81 lk_X3_isBest (ml_RX3_50 rfl) im_X3_isBest se_X3_isBest (by decide) (c3_o hl3) (Nat.le_of_ble_eq_true rfl) rfl (isBest_e hl3 (c8_r6 hT (by omega)) (fun p hp => (hfr2 _ _ (by omega) (by omega)).trans (hw p hp)) hpr (by omega) (by omega)) ?_
                refine r_if_eq_b (pc := 84) (tgt := 126) dX3_findPairs_84 (by decide) (fun c84 => ?_) (fun c84 => ?_)
                · skip
                  refine r_iinc (pc := 126) (v := nI (y + 1)) (L' := [some (.ref hl), some (.ref t), some (.int (nI sh)), some (.int (nI pr)), some (.int (nI x)), some (.int (nI (100 * (x + c)))), some (.int (nI (y + 1)))]) dX3_findPairs_126 rfl (nI_inc _) (by decide) rfl rfl ?_
                  refine r_goto (pc := 129) (tgt := 59) dX3_findPairs_129 (by decide) ?_
                  exact ih59 _ (by omega) (y + 1) I2 rfl (by omega) (by first | exact hcnn | exact (hcn2.trans (congrArg nI (ctB_miss c84).symm))) (by first | exact hpsn | exact (fun r hr hR => (Nat.lt_or_ge r (100 * x + y)).elim (fun g => hps2 r g hR) (fun g => absurd ((show r = 100 * x + y by omega) ▸ hR) c84))) (by first | exact hshn | exact hsh2) (by first | exact hfrn | exact hfr2)
                · skip
                  refine r_aload_n (pc := 87) dX3_findPairs_87 rfl ?_
                  refine r_getIv (pc := 88) 3 1 15 dX3_findPairs_88 (fl_RX3_15 rfl) (by decide) rfl (c3_o hl3) (v := nI (ctB (prB w c pr) (100 * x + y))) (hcn2) ?_
                  refine r_aload_n (pc := 91) dX3_findPairs_91 rfl ?_
                  refine r_get1 (pc := 92) 3 0 9 dX3_findPairs_92 (fl_RX3_9 rfl) (by decide) rfl (c3_o hl3) (c3_p0 hl3) ?_
                  refine r_alen (pc := 95) (v := nI 4100) 1 dX3_findPairs_95 rfl (c3_a0 hl3) rfl ?_
                  refine r_icmp_ge_n (pc := 96) (a := ctB (prB w c pr) (100 * x + y)) (b := 4100) (tgt := 126) dX3_findPairs_96 (by decide) (by have := ctB_le (prB w c pr) (100 * x + y); omega) (by have := ctB_le (prB w c pr) (100 * x + y); omega) (fun c96 => ?_) (fun c96 => ?_)
                  · exfalso; have := ctB_le (prB w c pr) (100 * x + y); omega
                  · skip
                    refine r_aload_n (pc := 99) dX3_findPairs_99 rfl ?_
                    refine r_get1 (pc := 100) 3 0 9 dX3_findPairs_100 (fl_RX3_9 rfl) (by decide) rfl (c3_o hl3) (c3_p0 hl3) ?_
                    refine r_aload_n (pc := 103) dX3_findPairs_103 rfl ?_
                    refine r_getIv (pc := 104) 3 1 15 dX3_findPairs_104 (fl_RX3_15 rfl) (by decide) rfl (c3_o hl3) (v := nI (ctB (prB w c pr) (100 * x + y))) (hcn2) ?_
                    refine r_bipush (pc := 107) (v := 100) dX3_findPairs_107 (by decide) ?_
                    refine r_iload (pc := 109) dX3_findPairs_109 rfl ?_
                    refine r_imul_n (pc := 111) (a := 100) (b := x) dX3_findPairs_111 ?_
                    refine r_iload (pc := 112) dX3_findPairs_112 rfl ?_
                    refine r_iadd_n (pc := 114) (a := 100 * x) (b := y) dX3_findPairs_114 ?_
                    refine r_iast_n (pc := 115) (i := ctB (prB w c pr) (100 * x + y)) (v := nI ((100 * x) + y)) dX3_findPairs_115 (c3_a0 hl3) (by decide) (by have := ctB_le (prB w c pr) (100 * x + y); omega) ?_
                    refine r_aload_n (pc := 116) dX3_findPairs_116 rfl ?_
                    refine r_dup (pc := 117) dX3_findPairs_117 rfl ?_
                    refine r_getIv (pc := 118) 3 1 15 dX3_findPairs_118 (fl_RX3_15 rfl) (by decide) rfl (c3_o hl3) (v := nI (ctB (prB w c pr) (100 * x + y))) ((up2_rd (by omega)).trans (hcn2)) ?_
                    refine r_iconst (pc := 121) (v := 1) dX3_findPairs_121 (by decide) ?_
                    refine r_iadd_n (pc := 122) (a := ctB (prB w c pr) (100 * x + y)) (b := 1) dX3_findPairs_122 ?_
                    refine r_putI (pc := 123) (v := nI ((ctB (prB w c pr) (100 * x + y)) + 1)) 3 1 15 dX3_findPairs_123 (fl_RX3_15 rfl) (by decide) rfl rfl (c3_o hl3) ?_
                    obtain ⟨I3, hI3⟩ : ∃ z : Im, z = up2 (up2 I2 (hl + 1) (ctB (prB w c pr) (100 * x + y)) (nI ((100 * x) + y))) hl 1 (nI ((ctB (prB w c pr) (100 * x + y)) + 1)) := ⟨_, rfl⟩
                    refine wp_M (M2 := (I3, G2)) (by subst hI3; rfl) ?_
                    have hcnn : I3 hl 1 = nI (ctB (prB w c pr) (100 * x + (y + 1))) := by rw [hI3, up2_at, ← Nat.add_assoc, ctB_hit c84]
                    have hpsn : ∀ r, r < 100 * x + (y + 1) → (prB w c pr) r = true → I3 (hl + 1) (ctB (prB w c pr) r) = nI r := fun r hr hR => by
                      rw [hI3, up2_rd (by omega)]
                      by_cases e : r = 100 * x + y
                      · rw [e, up2_at]
                      · have h1 := ctB_mono (R := (prB w c pr)) (show r + 1 ≤ 100 * x + y by omega)
                        have h2 := ctB_hit hR
                        rw [up2_rd (by omega)]
                        exact hps2 r (by omega) hR
                    have hshn : I3 hl 3 = nI sh := by rw [hI3, up2_rd (by omega), up2_rd (by omega)]; exact hsh2
                    have hfrn : ∀ a k, a ≠ hl → a ≠ hl + 1 → I3 a k = I a k := fun a k g1 g2 => by rw [hI3, up2_rd (by omega), up2_rd (by omega)]; exact hfr2 a k g1 g2
                    refine r_iinc (pc := 126) (v := nI (y + 1)) (L' := [some (.ref hl), some (.ref t), some (.int (nI sh)), some (.int (nI pr)), some (.int (nI x)), some (.int (nI (100 * (x + c)))), some (.int (nI (y + 1)))]) dX3_findPairs_126 rfl (nI_inc _) (by decide) rfl rfl ?_
                    refine r_goto (pc := 129) (tgt := 59) dX3_findPairs_129 (by decide) ?_
                    exact ih59 _ (by omega) (y + 1) I3 rfl (by omega) (by first | exact hcnn | exact (hcn2.trans (congrArg nI (ctB_miss c84).symm))) (by first | exact hpsn | exact (fun r hr hR => (Nat.lt_or_ge r (100 * x + y)).elim (fun g => hps2 r g hR) (fun g => absurd ((show r = 100 * x + y by omega) ▸ hR) c84))) (by first | exact hshn | exact hsh2) (by first | exact hfrn | exact hfr2)
          exact lp59 _ 0 I1 rfl (by omega) hcn1 hps1 hsh1 hfr1
    exact lp35 _ 0 (up2 (up2 I hl 3 (nI sh)) hl 1 (nI 0)) rfl (by omega) (by exact up2_at) (by exact fun r hr => absurd hr (Nat.not_lt_zero _)) (by exact (up2_rd (by omega)).trans up2_at) (by exact fun a k g1 g2 => (up2_rd (by omega)).trans (up2_rd (by omega)))
  refine r_aload_n (pc := 0) dX3_findPairs_0 rfl ?_
  refine r_getR (pc := 1) 3 2 19 dX3_findPairs_1 (fl_RX3_19 rfl) (by decide) rfl (c3_o hl3) rfl ?_
  refine r_aload_n (pc := 4) dX3_findPairs_4 rfl ?_
  refine r_acmp_ne (pc := 5) (x := G.1 hl 2) (z := some t) (tgt := 17) dX3_findPairs_5 (by decide) (fun c5 => ?_) (fun c5 => ?_)
  · skip
    have hnn : ¬ (G.1 hl 2 = some t ∧ I hl 3 = nI sh) := fun z => c5 z.1
    exact k17  hnn
  · skip
    refine r_aload_n (pc := 8) dX3_findPairs_8 rfl ?_
    refine r_getIv (pc := 9) 3 3 23 dX3_findPairs_9 (fl_RX3_23 rfl) (by decide) rfl (c3_o hl3) (v := I hl 3) (rfl) ?_
    refine r_iload_n (pc := 12) dX3_findPairs_12 rfl ?_
    refine r_icmp_ne (pc := 13) (x := I hl 3) (z := nI sh) (tgt := 17) dX3_findPairs_13 (by decide) (fun c13 => ?_) (fun c13 => ?_)
    · skip
      have hnn : ¬ (G.1 hl 2 = some t ∧ I hl 3 = nI sh) := fun z => c13 z.2
      exact k17  hnn
    · skip
      refine r_ret_v (pc := 16) dX3_findPairs_16 rfl ?_
      exact ⟨rfl, I, by rw [hG_same c5], hold c5 c13, c13, fun _ _ _ _ => rfl⟩

theorem cmp_eq {a b : Int64} : lg_cmp a b = 0 ↔ a = b := by
  unfold lg_cmp
  by_cases h1 : b < a
  · rw [if_pos h1]
    exact ⟨fun z => absurd z (by decide), fun z => (by subst z; exact absurd h1 (by simp))⟩
  · rw [if_neg h1]
    by_cases h2 : a = b
    · rw [if_pos h2]
      exact ⟨fun _ => h2, fun _ => rfl⟩
    · rw [if_neg h2]
      exact ⟨fun z => absurd z (by decide), fun z => absurd z h2⟩

/-- what part the shop has -/
def shF (pr ak sd co sp : Int32) : Int32 := if 100 * (ak - sp).toInt64 * sd.toInt64 = 0 then 0 else (10000 * (((100 - (pr - pr / 100 * 100)) * ak - 100 * (pr / 100 + co)).toInt64 * sd.toInt64) / (100 * (ak - sp).toInt64 * sd.toInt64)).toInt32

set_option maxRecDepth 100000 in
theorem shareOf_ct {d : Nat} {I : Im} {G : Gm} {hl t sh pr mb : Nat} (hl3 : isC3 G hl) (hT : isC8 G t) (hM : isC5 G mb) (hs : sh < 8) : Ct (d + 1) 0 0 YX3_shareOf [.ref hl, .ref t, .int (nI sh), .int (nI pr), .ref mb] (I, G) (qP (shF (nI pr) (I (mb + 41) sh) (I (mb + 42) sh) (I (t + 1) sh) (I (mb + 40) sh)) (I, G)) := by
  refine Ct.of (by decide) (by simp [Value.category]) (Nat.le_of_ble_eq_true rfl) ?_
  show wp _ _ _ _ 0 [some (.ref hl), some (.ref t), some (.int (nI sh)), some (.int (nI pr)), some (.ref mb), none, none, none, none, none, none, none] [] _ _
  refine r_aload (pc := 0) dX3_shareOf_0 rfl ?_
  refine r_get1 (pc := 2) 5 9 54 dX3_shareOf_2 (fl_RX3_54 rfl) (by decide) rfl (c5_o hM) (c5_p9 hM) ?_
  refine r_iload_n (pc := 5) dX3_shareOf_5 rfl ?_
  refine r_iald_n (pc := 6) (i := sh) dX3_shareOf_6 (c5_a9 hM) (by decide) (by omega) rfl ?_
  refine r_istore (pc := 7) (L' := [some (.ref hl), some (.ref t), some (.int (nI sh)), some (.int (nI pr)), some (.ref mb), some (.int (I (mb + 41) sh)), none, none, none, none, none, none]) dX3_shareOf_7 (by decide) rfl rfl ?_
  refine r_aload (pc := 9) dX3_shareOf_9 rfl ?_
  refine r_get1 (pc := 11) 5 10 57 dX3_shareOf_11 (fl_RX3_57 rfl) (by decide) rfl (c5_o hM) (c5_p10 hM) ?_
  refine r_iload_n (pc := 14) dX3_shareOf_14 rfl ?_
  refine r_iald_n (pc := 15) (i := sh) dX3_shareOf_15 (c5_a10 hM) (by decide) (by omega) rfl ?_
  refine r_istore (pc := 16) (L' := [some (.ref hl), some (.ref t), some (.int (nI sh)), some (.int (nI pr)), some (.ref mb), some (.int (I (mb + 41) sh)), some (.int (I (mb + 42) sh)), none, none, none, none, none]) dX3_shareOf_16 (by decide) rfl rfl ?_
  refine r_bipush (pc := 18) (v := 100) dX3_shareOf_18 (by decide) ?_
  refine r_iload_n (pc := 20) dX3_shareOf_20 rfl ?_
  refine r_bipush (pc := 21) (v := 100) dX3_shareOf_21 (by decide) ?_
  refine r_irem (pc := 23) (x := nI pr) (z := 100) dX3_shareOf_23 (by decide) ?_
  refine r_isub (pc := 24) (x := 100) (z := (nI pr) - (nI pr) / 100 * 100) dX3_shareOf_24 ?_
  refine r_istore (pc := 25) (L' := [some (.ref hl), some (.ref t), some (.int (nI sh)), some (.int (nI pr)), some (.ref mb), some (.int (I (mb + 41) sh)), some (.int (I (mb + 42) sh)), some (.int (100 - ((nI pr) - (nI pr) / 100 * 100))), none, none, none, none]) dX3_shareOf_25 (by decide) rfl rfl ?_
  refine r_iload (pc := 27) dX3_shareOf_27 rfl ?_
  refine r_iload (pc := 29) dX3_shareOf_29 rfl ?_
  refine r_imul (pc := 31) (x := 100 - ((nI pr) - (nI pr) / 100 * 100)) (z := I (mb + 41) sh) dX3_shareOf_31 ?_
  refine r_bipush (pc := 32) (v := 100) dX3_shareOf_32 (by decide) ?_
  refine r_iload_n (pc := 34) dX3_shareOf_34 rfl ?_
  refine r_bipush (pc := 35) (v := 100) dX3_shareOf_35 (by decide) ?_
  refine r_idiv (pc := 37) (x := nI pr) (z := 100) dX3_shareOf_37 (by decide) ?_
  refine r_aload_n (pc := 38) dX3_shareOf_38 rfl ?_
  refine r_get1 (pc := 39) 8 2 43 dX3_shareOf_39 (fl_RX3_43 rfl) (by decide) rfl (c8_o hT) (c8_p2 hT) ?_
  refine r_iload_n (pc := 42) dX3_shareOf_42 rfl ?_
  refine r_iald_n (pc := 43) (i := sh) dX3_shareOf_43 (c8_a2 hT) (by decide) (by omega) (v := I (t + 1) sh) (rfl) ?_
  refine r_iadd (pc := 44) (x := (nI pr) / 100) (z := I (t + 1) sh) dX3_shareOf_44 ?_
  refine r_imul (pc := 45) (x := 100) (z := ((nI pr) / 100) + (I (t + 1) sh)) dX3_shareOf_45 ?_
  refine r_isub (pc := 46) (x := (100 - ((nI pr) - (nI pr) / 100 * 100)) * (I (mb + 41) sh)) (z := 100 * (((nI pr) / 100) + (I (t + 1) sh))) dX3_shareOf_46 ?_
  refine r_i2l (pc := 47) (x := ((100 - ((nI pr) - (nI pr) / 100 * 100)) * (I (mb + 41) sh)) - (100 * (((nI pr) / 100) + (I (t + 1) sh)))) dX3_shareOf_47 ?_
  refine r_iload (pc := 48) dX3_shareOf_48 rfl ?_
  refine r_i2l (pc := 50) (x := I (mb + 42) sh) dX3_shareOf_50 ?_
  refine r_lmul (pc := 51) dX3_shareOf_51 ?_
  refine r_lstore (pc := 52) (L' := [some (.ref hl), some (.ref t), some (.int (nI sh)), some (.int (nI pr)), some (.ref mb), some (.int (I (mb + 41) sh)), some (.int (I (mb + 42) sh)), some (.int (100 - ((nI pr) - (nI pr) / 100 * 100))), some (.long (((((100 - ((nI pr) - (nI pr) / 100 * 100)) * (I (mb + 41) sh)) - (100 * (((nI pr) / 100) + (I (t + 1) sh)))).toInt64) * ((I (mb + 42) sh).toInt64))), none, none, none]) dX3_shareOf_52 (by decide) rfl rfl ?_
  refine r_ldc2 (pc := 54) (v := 100) dX3_shareOf_54 (kl_RX3_60 rfl) ?_
  refine r_iload (pc := 57) dX3_shareOf_57 rfl ?_
  refine r_aload (pc := 59) dX3_shareOf_59 rfl ?_
  refine r_get1 (pc := 61) 5 8 62 dX3_shareOf_61 (fl_RX3_62 rfl) (by decide) rfl (c5_o hM) (c5_p8 hM) ?_
  refine r_iload_n (pc := 64) dX3_shareOf_64 rfl ?_
  refine r_iald_n (pc := 65) (i := sh) dX3_shareOf_65 (c5_a8 hM) (by decide) (by omega) rfl ?_
  refine r_isub (pc := 66) (x := I (mb + 41) sh) (z := I (mb + 40) sh) dX3_shareOf_66 ?_
  refine r_i2l (pc := 67) (x := (I (mb + 41) sh) - (I (mb + 40) sh)) dX3_shareOf_67 ?_
  refine r_lmul (pc := 68) dX3_shareOf_68 ?_
  refine r_iload (pc := 69) dX3_shareOf_69 rfl ?_
  refine r_i2l (pc := 71) (x := I (mb + 42) sh) dX3_shareOf_71 ?_
  refine r_lmul (pc := 72) dX3_shareOf_72 ?_
  refine r_lstore (pc := 73) (L' := [some (.ref hl), some (.ref t), some (.int (nI sh)), some (.int (nI pr)), some (.ref mb), some (.int (I (mb + 41) sh)), some (.int (I (mb + 42) sh)), some (.int (100 - ((nI pr) - (nI pr) / 100 * 100))), some (.long (((((100 - ((nI pr) - (nI pr) / 100 * 100)) * (I (mb + 41) sh)) - (100 * (((nI pr) / 100) + (I (t + 1) sh)))).toInt64) * ((I (mb + 42) sh).toInt64))), none, some (.long (((100) * (((I (mb + 41) sh) - (I (mb + 40) sh)).toInt64)) * ((I (mb + 42) sh).toInt64))), none]) dX3_shareOf_73 (by decide) rfl rfl ?_
  refine r_lload (pc := 75) dX3_shareOf_75 rfl ?_
  refine r_lconst (pc := 77) (v := 0) dX3_shareOf_77 (by decide) ?_
  refine r_lcmp (pc := 78) dX3_shareOf_78 ?_
  refine r_if_ne (pc := 79) (x := lg_cmp (((100) * (((I (mb + 41) sh) - (I (mb + 40) sh)).toInt64)) * ((I (mb + 42) sh).toInt64)) 0) (tgt := 86) dX3_shareOf_79 (by decide) (fun c79 => ?_) (fun c79 => ?_)
  · skip
    refine r_ldc2 (pc := 86) (v := 10000) dX3_shareOf_86 (kl_RX3_65 rfl) ?_
    refine r_lload (pc := 89) dX3_shareOf_89 rfl ?_
    refine r_lmul (pc := 91) dX3_shareOf_91 ?_
    refine r_lload (pc := 92) dX3_shareOf_92 rfl ?_
    refine r_ldiv (pc := 94) dX3_shareOf_94 (by exact fun z => c79 (cmp_eq.mpr z)) ?_
    refine r_l2i (pc := 95) dX3_shareOf_95 ?_
    refine r_ret_i (pc := 96) dX3_shareOf_96 rfl ?_
    exact ⟨congrArg (fun z => some (Value.int z)) (by unfold shF; first | exact (if_pos (cmp_eq.mp c79)).symm | exact (if_neg (fun z => c79 (cmp_eq.mpr z))).symm), rfl⟩
  · skip
    refine r_iconst (pc := 82) (v := 0) dX3_shareOf_82 (by decide) ?_
    refine r_goto (pc := 83) (tgt := 96) dX3_shareOf_83 (by decide) ?_
    refine r_ret_i (pc := 96) dX3_shareOf_96 rfl ?_
    exact ⟨congrArg (fun z => some (Value.int z)) (by unfold shF; first | exact (if_pos (cmp_eq.mp c79)).symm | exact (if_neg (fun z => c79 (cmp_eq.mpr z))).symm), rfl⟩
