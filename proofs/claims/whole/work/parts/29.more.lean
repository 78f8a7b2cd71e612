/-! ===== takenAt, saved; a trade's own loops ===== -/
theorem rk_ne {I I2 : Im} {mb : Nat} {E : Ec} {p u : Nat} (hE : SrC E) (hp : p < eN E) (hR : RkQ I mb E p u I2) {y v : Nat} (hy : y < 8) (hne : y ≠ p) (hv : RowV I mb E y v) : RowV I2 mb E y v := by
  obtain ⟨r1, -⟩ := hR
  have h8 := hE.1
  have key : ∀ a, (∃ b, b < 8 ∧ (b = y ∨ eS E b = some y) ∧ ((a = mb + 3 + 1 + b ∧ b = y) ∨ (a = mb + 12 + 1 + b ∧ b = y) ∨ (a = mb + 21 + 1 + b ∧ b = y) ∨ (a = mb + 30 + 1 + b ∧ eS E b = some y))) → I2 a v = I a v := by
    rintro a ⟨b, hb, -, hab⟩
    refine r1 a v ?_
    rintro ⟨-, z⟩
    rcases hab with ⟨rfl, rfl⟩ | ⟨rfl, rfl⟩ | ⟨rfl, rfl⟩ | ⟨rfl, hs⟩
    · rcases z with z | z | z | ⟨b', hb', z⟩
      · omega
      · omega
      · omega
      · have := hE.2 b' p hb'
        omega
    · rcases z with z | z | z | ⟨b', hb', z⟩
      · omega
      · omega
      · omega
      · have := hE.2 b' p hb'
        omega
    · rcases z with z | z | z | ⟨b', hb', z⟩
      · omega
      · omega
      · omega
      · have := hE.2 b' p hb'
        omega
    · rcases z with z | z | z | ⟨b', hb', z⟩
      · omega
      · omega
      · omega
      · obtain rfl : b = b' := by omega
        rw [hs] at hb'
        exact hne (Option.some.inj hb')
  refine ⟨?_, fun z => ?_, fun b hb => ?_⟩
  · rw [← hv.1]
    exact Prod.ext (key _ ⟨y, hy, Or.inl rfl, Or.inl ⟨rfl, rfl⟩⟩) (key _ ⟨y, hy, Or.inl rfl, Or.inr (Or.inl ⟨rfl, rfl⟩)⟩)
  · rw [← hv.2.1 z]
    exact key _ ⟨y, hy, Or.inl rfl, Or.inr (Or.inr (Or.inl ⟨rfl, rfl⟩))⟩
  · rw [← hv.2.2 b hb]
    have := hE.2 b y hb
    exact key _ ⟨b, by omega, Or.inr hb, Or.inr (Or.inr (Or.inr ⟨rfl, hb⟩))⟩
theorem rk_all {I I2 : Im} {mb : Nat} {E : Ec} {p u : Nat} (hE : SrC E) (hp : p < eN E) (hV : MkV I mb E) (hR : RkQ I mb E p u I2) : MkV I2 mb E ∧ I2 (mb + 3 + 1 + p) u = (mk E rwF p u).1 ∧ ∀ a k, (a < mb + 3 ∨ mb + 39 ≤ a) → I2 a k = I a k := by
  have h8 := hE.1
  obtain ⟨hk, hT, hO, hEr⟩ := hV
  have hst := rk_step hE hp (fun x h1 h2 => hT x (Nat.zero_le _) h2) hR
  refine ⟨⟨hk.keep (fun a k g1 g2 => hst.2.2.2 a k (by omega)), fun x h1 h2 v h3 h4 => ?_, fun x h1 h2 => ?_, fun x h1 h2 => (hst.2.2.2 _ _ (by omega)).trans (hEr x h1 h2)⟩, ?_, hst.2.2.2⟩
  · have hv := hT x h1 h2 v h3 h4
    by_cases hx : x = p
    · subst hx
      by_cases hu : v = u
      · subst hu
        exact hst.2.1
      · exact hst.2.2.1 v hu hv
    · exact rk_ne hE hp hR (by omega) hx hv
  · have hq := hO x h1 h2
    exact ⟨(hst.2.2.2 _ _ (by omega)).trans hq.1, (hst.2.2.2 _ _ (by omega)).trans hq.2.1, (hst.2.2.2 _ _ (by omega)).trans hq.2.2.1, (hst.2.2.2 _ _ (by omega)).trans hq.2.2.2⟩
  · rw [← hst.2.1.1]
    rfl

set_option maxRecDepth 100000 in
theorem takenAt_ct {d : Nat} {I : Im} {G : Gm} {mb t : Nat} {E : Ec} (hM : isC5 G mb) (hT : isC8 G t) (hsp : mb + 44 ≤ t ∨ t + 18 ≤ mb) (hk : MkC I mb E) (ht : TrC I t E) (hV : MkV I mb E) {h u : Nat} (hh : h < eN E) (hu : u ≤ 300) : Ct (d + 5) 0 0 YX5_takenAt [.ref mb, .ref t, .int (nI h), .int (nI u)] (I, G) (qM G (fun v I2 => v = (mk E rwF h (rwF u)).1 ∧ MkV I2 mb E ∧ ∀ a k, (a < mb + 3 ∨ mb + 39 ≤ a) → I2 a k = I a k)) := by
  refine Ct.of (by decide) (by simp [Value.category]) (Nat.le_of_ble_eq_true rfl) ?_
  have hE : SrC E := ⟨ht.2.1, ht.2.2.2.1⟩
  have hn8 := ht.2.1
  show wp _ _ _ _ 0 [some (.ref mb), some (.ref t), some (.int (nI h)), some (.int (nI u))] [] _ _
  refine r_aload_n (pc := 0) dX5_takenAt_0 rfl ?_
  refine r_aload_n (pc := 1) dX5_takenAt_1 rfl ?_
  refine r_iload_n (pc := 2) dX5_takenAt_2 rfl ?_
  refine r_iload_n (pc := 3) dX5_takenAt_3 rfl ?_
  refine r_callSN_P (pc := 4) (As := [.int (nI u)]) 84 dX5_takenAt_4 lk_X9_row (nl_RX5_84 rfl) sm_X9_row (Nat.le_of_ble_eq_true rfl) rfl (row_ct (by omega)) ?_
  refine r_callV_V (pc := 7) (b := mb) (As := [.ref t, .int (nI h), .int (nI (rwF u))]) 5 88 dX5_takenAt_7 lk_X5_reckon (ml_RX5_88 rfl) im_X5_reckon se_X5_reckon (by decide) (c5_o hM) (Nat.le_of_ble_eq_true rfl) rfl (reckon_ct hM hT hsp hk ht hh (rwF_le u)) (fun I2 hI2 => ?_)
  have hra := rk_all hE hh hV hI2
  refine r_aload_n (pc := 10) dX5_takenAt_10 rfl ?_
  refine r_get1 (pc := 11) 5 3 28 dX5_takenAt_11 (fl_RX5_28 rfl) (by decide) rfl (c5_o hM) (c5_p3 hM) ?_
  refine r_iload_n (pc := 14) dX5_takenAt_14 rfl ?_
  refine r_aald1_n (pc := 15) (i := h) 6 dX5_takenAt_15 (by decide) (c5_a3 hM) (by decide) (by omega) (c5_q3 hM (by omega)) ?_
  refine r_iload_n (pc := 16) dX5_takenAt_16 rfl ?_
  refine r_callSN_P (pc := 17) (As := [.int (nI u)]) 84 dX5_takenAt_17 lk_X9_row (nl_RX5_84 rfl) sm_X9_row (Nat.le_of_ble_eq_true rfl) rfl (row_ct (by omega)) ?_
  refine r_iald_n (pc := 20) (i := rwF u) dX5_takenAt_20 (c5_r3 hM (by omega)) (by decide) (by have := rwF_le u; omega) (v := (mk E rwF h (rwF u)).1) (hra.2.1) ?_
  refine r_ret_i (pc := 21) dX5_takenAt_21 rfl ?_
  exact ⟨_, I2, rfl, rfl, rfl, hra.1, hra.2.2⟩

/-- what the buyers of h save, where it asks a -/
def svH (w : Nat → Nat) (a : Nat) : Int32 := sm (fun i => nI (w (a + 1 + i))) (41 - a)
def svF (E : Ec) (q : Nat → Nat) : Int32 := sm (fun h => if cnt (eS E) h (eN E) = 0 then svH (eW E h) (askF (eW E h) (eK E) (q (spF E q h))) else 0) (eN E)

set_option maxRecDepth 100000 in
theorem saved_ct {d : Nat} {I : Im} {G : Gm} {mb t : Nat} {E : Ec} (hM : isC5 G mb) (hT : isC8 G t) (hsp : mb + 44 ≤ t ∨ t + 18 ≤ mb) (hk : MkC I mb E) (ht : TrC I t E) (hO : OcV I mb E 8) : Ct (d + 3) 0 0 YX5_saved [.ref mb, .ref t] (I, G) (qP (svF E rwF) (I, G)) := by
  refine Ct.of (by decide) (by simp [Value.category]) (Nat.le_of_ble_eq_true rfl) ?_
  have hn8 := ht.2.1
  show wp _ _ _ _ 0 [some (.ref mb), some (.ref t), none, none, none] [] _ _
  refine r_iconst (pc := 0) (v := 0) dX5_saved_0 (by decide) ?_
  refine r_istore_n (pc := 1) (L' := [some (.ref mb), some (.ref t), some (.int (nI 0)), none, none]) dX5_saved_1 (by decide) rfl rfl ?_
  refine r_iconst (pc := 2) (v := 0) dX5_saved_2 (by decide) ?_
  refine r_istore_n (pc := 3) (L' := [some (.ref mb), some (.ref t), some (.int (nI 0)), some (.int (nI 0)), none]) dX5_saved_3 (by decide) rfl rfl ?_
  have lp4 : ∀ (n4 : Nat), ∀ (h : Nat) (al : Int32), eN E - h = n4 → (h ≤ eN E) → (al = sm (fun h => if cnt (eS E) h (eN E) = 0 then svH (eW E h) (askF (eW E h) (eK E) (rwF (spF E rwF h))) else 0) h) → wp (d + 3) 0 0 YX5_saved 4 [some (.ref mb), some (.ref t), some (.int al), some (.int (nI h)), none] [] (I, G) (qP (svF E rwF) (I, G)) := by
    intro n4
    induction n4 using Nat.strongRecOn with
    | ind n4 ih4 =>
      intro h al hmu4 hh hal
      refine r_iload_n (pc := 4) dX5_saved_4 rfl ?_
      refine r_aload_n (pc := 5) dX5_saved_5 rfl ?_
      refine r_getIv (pc := 6) 8 0 67 dX5_saved_6 (fl_RX5_67 rfl) (by decide) rfl (c8_o hT) (v := nI (eN E)) (ht.1) ?_
      refine r_icmp_ge_n (pc := 9) (a := h) (b := eN E) (tgt := 61) dX5_saved_9 (by decide) (by omega) (by omega) (fun c9 => ?_) (fun c9 => ?_)
      · skip
        refine r_iload_n (pc := 61) dX5_saved_61 rfl ?_
        refine r_ret_i (pc := 62) dX5_saved_62 rfl ?_
        exact ⟨by rw [hal, show h = eN E by omega]; rfl, rfl⟩
      · skip
        refine r_aload_n (pc := 12) dX5_saved_12 rfl ?_
        refine r_iload_n (pc := 13) dX5_saved_13 rfl ?_
        refine r_callV_P (pc := 14) (b := t) (As := [.int (nI h)]) 8 109 dX5_saved_14 lk_X8_isShop (ml_RX5_109 rfl) im_X8_isShop se_X8_isShop (by decide) (c8_o hT) (Nat.le_of_ble_eq_true rfl) rfl (isShop_e hT ht (by omega)) ?_
        refine r_if_eq_b (pc := 17) (tgt := 55) dX5_saved_17 (by decide) (fun c17 => ?_) (fun c17 => ?_)
        · skip
          have hcase : al = al + (fun h => if cnt (eS E) h (eN E) = 0 then svH (eW E h) (askF (eW E h) (eK E) (rwF (spF E rwF h))) else 0) h := by rw [show (fun h => if cnt (eS E) h (eN E) = 0 then svH (eW E h) (askF (eW E h) (eK E) (rwF (spF E rwF h))) else 0) h = 0 from if_neg c17]; exact (Int32.add_zero _).symm
          refine r_iinc (pc := 55) (v := nI (h + 1)) (L' := [some (.ref mb), some (.ref t), some (.int al), some (.int (nI (h + 1))), none]) dX5_saved_55 rfl (nI_inc _) (by decide) rfl rfl ?_
          refine r_goto (pc := 58) (tgt := 4) dX5_saved_58 (by decide) ?_
          exact ih4 _ (by omega) (h + 1) al rfl (by omega) (by rw [show ∀ f k, sm f (k + 1) = sm f k + f k from fun _ _ => rfl, ← hal]; exact hcase)
        · skip
          have hak := askF_le (eW E h) (eK E) (rwF (spF E rwF h))
          refine r_aload_n (pc := 20) dX5_saved_20 rfl ?_
          refine r_get1 (pc := 21) 5 9 46 dX5_saved_21 (fl_RX5_46 rfl) (by decide) rfl (c5_o hM) (c5_p9 hM) ?_
          refine r_iload_n (pc := 24) dX5_saved_24 rfl ?_
          refine r_iald_n (pc := 25) (i := h) dX5_saved_25 (c5_a9 hM) (by decide) (by omega) (v := nI (askF (eW E h) (eK E) (rwF (spF E rwF h)))) ((hO h (by omega) (by omega)).2.2.1.trans (if_pos c17)) ?_
          refine r_iconst (pc := 26) (v := 1) dX5_saved_26 (by decide) ?_
          refine r_iadd_n (pc := 27) (a := askF (eW E h) (eK E) (rwF (spF E rwF h))) (b := 1) dX5_saved_27 ?_
          refine r_istore (pc := 28) (L' := [some (.ref mb), some (.ref t), some (.int al), some (.int (nI h)), some (.int (nI ((askF (eW E h) (eK E) (rwF (spF E rwF h))) + 1)))]) dX5_saved_28 (by decide) rfl rfl ?_
          have lp30 : ∀ (n30 : Nat), ∀ (p : Nat) (al2 : Int32), 42 - p = n30 → (askF (eW E h) (eK E) (rwF (spF E rwF h)) + 1 ≤ p ∧ p ≤ 42) → (al2 = al + sm (fun i => nI (eW E h (askF (eW E h) (eK E) (rwF (spF E rwF h)) + 1 + i))) (p - (askF (eW E h) (eK E) (rwF (spF E rwF h)) + 1))) → wp (d + 3) 0 0 YX5_saved 30 [some (.ref mb), some (.ref t), some (.int al2), some (.int (nI h)), some (.int (nI p))] [] (I, G) (qP (svF E rwF) (I, G)) := by
            intro n30
            induction n30 using Nat.strongRecOn with
            | ind n30 ih30 =>
              intro p al2 hmu30 hp hal2
              refine r_iload (pc := 30) dX5_saved_30 rfl ?_
              refine r_bipush (pc := 32) (v := 41) dX5_saved_32 (by decide) ?_
              refine r_icmp_gt_n (pc := 34) (a := p) (b := 41) (tgt := 55) dX5_saved_34 (by decide) (by omega) (by omega) (fun c34 => ?_) (fun c34 => ?_)
              · skip
                have hcase : al2 = al + (fun h => if cnt (eS E) h (eN E) = 0 then svH (eW E h) (askF (eW E h) (eK E) (rwF (spF E rwF h))) else 0) h := by rw [show (fun h => if cnt (eS E) h (eN E) = 0 then svH (eW E h) (askF (eW E h) (eK E) (rwF (spF E rwF h))) else 0) h = svH (eW E h) (askF (eW E h) (eK E) (rwF (spF E rwF h))) from if_pos c17, hal2, show p - (askF (eW E h) (eK E) (rwF (spF E rwF h)) + 1) = 41 - askF (eW E h) (eK E) (rwF (spF E rwF h)) by omega]; rfl
                refine r_iinc (pc := 55) (v := nI (h + 1)) (L' := [some (.ref mb), some (.ref t), some (.int al2), some (.int (nI (h + 1))), some (.int (nI p))]) dX5_saved_55 rfl (nI_inc _) (by decide) rfl rfl ?_
                refine r_goto (pc := 58) (tgt := 4) dX5_saved_58 (by decide) ?_
                refine wp_sub [some (.ref mb), some (.ref t), some (.int al2), some (.int (nI (h + 1))), none] ⟨rfl, ⟨rfl, ⟨rfl, ⟨rfl, trivial⟩⟩⟩⟩ ?_
                exact ih4 _ (by omega) (h + 1) al2 rfl (by omega) (by rw [show ∀ f k, sm f (k + 1) = sm f k + f k from fun _ _ => rfl, ← hal]; exact hcase)
              · skip
                refine r_iload_n (pc := 37) dX5_saved_37 rfl ?_
                refine r_aload_n (pc := 38) dX5_saved_38 rfl ?_
                refine r_get1 (pc := 39) 8 6 112 dX5_saved_39 (fl_RX5_112 rfl) (by decide) rfl (c8_o hT) (c8_p6 hT) ?_
                refine r_iload_n (pc := 42) dX5_saved_42 rfl ?_
                refine r_aald1_n (pc := 43) (i := h) 6 dX5_saved_43 (by decide) (c8_a6 hT) (by decide) (by omega) (c8_q6 hT (by omega)) ?_
                refine r_iload (pc := 44) dX5_saved_44 rfl ?_
                refine r_iald_n (pc := 46) (i := p) dX5_saved_46 (c8_r6 hT (by omega)) (by decide) (by omega) (v := nI (eW E h p)) (ht.2.2.2.2.2.1 _ _ (by omega) (by omega)) ?_
                refine r_iadd (pc := 47) (x := al2) (z := nI (eW E h p)) dX5_saved_47 ?_
                refine r_istore_n (pc := 48) (L' := [some (.ref mb), some (.ref t), some (.int (al2 + (nI (eW E h p)))), some (.int (nI h)), some (.int (nI p))]) dX5_saved_48 (by decide) rfl rfl ?_
                refine r_iinc (pc := 49) (v := nI (p + 1)) (L' := [some (.ref mb), some (.ref t), some (.int (al2 + (nI (eW E h p)))), some (.int (nI h)), some (.int (nI (p + 1)))]) dX5_saved_49 rfl (nI_inc _) (by decide) rfl rfl ?_
                refine r_goto (pc := 52) (tgt := 30) dX5_saved_52 (by decide) ?_
                exact ih30 _ (by omega) (p + 1) (al2 + (nI (eW E h p))) rfl (by omega) (by rw [show p + 1 - (askF (eW E h) (eK E) (rwF (spF E rwF h)) + 1) = (p - (askF (eW E h) (eK E) (rwF (spF E rwF h)) + 1)) + 1 by omega, show ∀ f k, sm f (k + 1) = sm f k + f k from fun _ _ => rfl, ← Int32.add_assoc, ← hal2, show askF (eW E h) (eK E) (rwF (spF E rwF h)) + 1 + (p - (askF (eW E h) (eK E) (rwF (spF E rwF h)) + 1)) = p by omega])
          exact lp30 _ ((askF (eW E h) (eK E) (rwF (spF E rwF h))) + 1) al rfl (by omega) (by rw [Nat.sub_self]; exact (Int32.add_zero _).symm)
  exact lp4 _ 0 0 rfl (by omega) (by rfl)

set_option maxRecDepth 100000 in
theorem find_ct {d : Nat} {I : Im} {G : Gm} {k cn tk : Nat} (h9 : isC9 G 0) (hc : I 0 2 = nI cn) (hcn : cn ≤ 10) (hkc : k < cn) (hk : G.1 3 k = some tk) : Ct (d + 1) 0 0 YX9_find [.ref 0, .int (nI k)] (I, G) (qR (some tk) (I, G)) := by
  refine Ct.of (by decide) (by simp [Value.category]) (Nat.le_of_ble_eq_true rfl) ?_
  show wp _ _ _ _ 0 [some (.ref 0), some (.int (nI k))] [] _ _
  refine r_iload_n (pc := 0) dX9_find_0 rfl ?_
  refine r_if_lt_n (pc := 1) (tgt := 12) dX9_find_1 (by decide) (by omega) ?_
  refine r_iload_n (pc := 4) dX9_find_4 rfl ?_
  refine r_aload_n (pc := 5) dX9_find_5 rfl ?_
  refine r_getIv (pc := 6) 9 2 22 dX9_find_6 (fl_RX9_22 rfl) (by decide) rfl (c9_o h9) (v := nI cn) (hc) ?_
  refine r_icmp_lt_n (pc := 9) (a := k) (b := cn) (tgt := 16) dX9_find_9 (by decide) (by omega) (by omega) (fun c9 => ?_) (fun c9 => ?_)
  · skip
    refine r_aload_n (pc := 16) dX9_find_16 rfl ?_
    refine r_get1 (pc := 17) 9 1 18 dX9_find_17 (fl_RX9_18 rfl) (by decide) rfl (c9_o h9) (c9_p1 h9) ?_
    refine r_iload_n (pc := 20) dX9_find_20 rfl ?_
    refine r_aald_n (pc := 21) (i := k) 5 dX9_find_21 (by decide) (c9_a1 h9) (by decide) (by omega) (x := some tk) (hk) ?_
    refine r_ret_a (pc := 22) dX9_find_22 rfl (Or.inl ⟨_, rfl⟩) ?_
    exact ⟨rfl, rfl⟩
  · exfalso; omega

set_option maxRecDepth 100000 in
theorem find_no {d : Nat} {I : Im} {G : Gm} {k : Int32} (h9 : isC9 G 0) (hno : ¬ (0 ≤ k ∧ k < I 0 2)) : Ct (d + 1) 0 0 YX9_find [.ref 0, .int k] (I, G) (qR none (I, G)) := by
  refine Ct.of (by decide) (by simp [Value.category]) (Nat.le_of_ble_eq_true rfl) ?_
  show wp _ _ _ _ 0 [some (.ref 0), some (.int k)] [] _ _
  refine r_iload_n (pc := 0) dX9_find_0 rfl ?_
  refine r_if_lt (pc := 1) (x := k) (tgt := 12) dX9_find_1 (by decide) (fun c1 => ?_) (fun c1 => ?_)
  · skip
    refine r_null (pc := 12) dX9_find_12 ?_
    refine r_goto (pc := 13) (tgt := 22) dX9_find_13 (by decide) ?_
    refine r_ret_aN (pc := 22) dX9_find_22 rfl (Or.inl ⟨_, rfl⟩) ?_
    exact ⟨rfl, rfl⟩
  · skip
    refine r_iload_n (pc := 4) dX9_find_4 rfl ?_
    refine r_aload_n (pc := 5) dX9_find_5 rfl ?_
    refine r_getI (pc := 6) 9 2 22 dX9_find_6 (fl_RX9_22 rfl) (by decide) rfl (c9_o h9) ?_
    refine r_icmp_lt (pc := 9) (x := k) (z := I 0 2) (tgt := 16) dX9_find_9 (by decide) (fun c9 => ?_) (fun c9 => ?_)
    · exfalso; exact hno ⟨Int32.not_lt.mp c1, c9⟩
    · skip
      refine r_null (pc := 12) dX9_find_12 ?_
      refine r_goto (pc := 13) (tgt := 22) dX9_find_13 (by decide) ?_
      refine r_ret_aN (pc := 22) dX9_find_22 rfl (Or.inl ⟨_, rfl⟩) ?_
      exact ⟨rfl, rfl⟩
