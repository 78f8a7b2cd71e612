/-! ===== reading a text: the reference ===== -/
def TpM (I : Im) (m : Nat) (T : Tp) : Prop := I m 2 = nI T.1 ∧ T.1 ≤ 300 ∧ (∀ i, i < T.1 → I (m + 1) i &&& 255 = nI (T.2 i)) ∧ ∀ i, T.2 i ≤ 255
def FrN (I I2 : Im) (m : Nat) : Prop := ∀ c k, ¬ (c = m ∧ (k = 3 ∨ k = 4 ∨ k = 5)) → I2 c k = I c k
theorem TpM.keep {I I2 : Im} {m : Nat} {T : Tp} (h : TpM I m T) (hf : FrN I I2 m) : TpM I2 m T := ⟨(hf _ _ (by omega)).trans h.1, h.2.1, fun i hi => by rw [hf _ _ (by omega)]; exact h.2.2.1 i hi, h.2.2.2⟩
theorem FrN.rf {I : Im} {m : Nat} : FrN I I m := fun _ _ _ => rfl
theorem FrN.tr {I I2 I3 : Im} {m : Nat} (h : FrN I I2 m) (h2 : FrN I2 I3 m) : FrN I I3 m := fun c k z => (h2 c k z).trans (h c k z)
theorem FrN.u {I I2 : Im} {m j : Nat} {v : Int32} (h : FrN I I2 m) (hj : j = 3 ∨ j = 4 ∨ j = 5) : FrN I (up2 I2 m j v) m := fun c k z => (up2_rd (by omega)).trans (h c k z)
def hrF (T : Tp) (a : Nat) : Int32 := if a < T.1 then nI (T.2 a) else -1
theorem hr_eq {T : Tp} {a n : Nat} {v : Int32} (hb : ∀ i, T.2 i ≤ 255) (hn : n ≤ 300) (hv : v = nI n) : hrF T a = v ↔ a < T.1 ∧ T.2 a = n := by
  subst hv
  have := hb a
  unfold hrF
  by_cases c : a < T.1
  · rw [if_pos c, nI_eq (by omega) (by omega)]
    exact ⟨fun z => ⟨c, z⟩, fun z => z.2⟩
  · rw [if_neg c]
    exact ⟨fun z => (m1_ne (by omega) z).elim, fun z => absurd z.1 c⟩
theorem hr_lt {T : Tp} {a : Nat} (hb : ∀ i, T.2 i ≤ 255) : hrF T a < 48 ↔ ¬ (a < T.1 ∧ 48 ≤ T.2 a) := by
  have := hb a
  unfold hrF
  by_cases c : a < T.1
  · rw [if_pos c, show (48 : Int32) = nI 48 from rfl, nI_ltI (by omega) (by omega)]
    omega
  · rw [if_neg c]
    exact ⟨fun _ z => c z.1, fun _ => by decide⟩
theorem hr_gt {T : Tp} {a : Nat} (hb : ∀ i, T.2 i ≤ 255) : 57 < hrF T a ↔ a < T.1 ∧ 57 < T.2 a := by
  have := hb a
  unfold hrF
  by_cases c : a < T.1
  · rw [if_pos c, show (57 : Int32) = nI 57 from rfl, nI_ltI (by omega) (by omega)]
    omega
  · rw [if_neg c]
    exact ⟨fun z => absurd z (by decide), fun z => absurd z.1 c⟩
theorem rN_nb {T : Tp} {lo hi a : Nat} (h : ¬ (a < T.1 ∧ T.2 a = 32)) : rN T lo hi a = .inl a := by
  unfold rN
  by_cases c : a < T.1
  · rw [if_pos ⟨c, fun z => h ⟨c, z⟩⟩]
  · rw [if_neg (fun z => c z.1), sk_eq, if_neg h, if_neg (fun z => c (of_decide_eq_true z).1)]

set_option maxRecDepth 100000 in
theorem here_ct {d : Nat} {I : Im} {G : Gm} {m : Nat} {T : Tp} (hm : isC10 G m) (hT : TpM I m T) {a : Nat} (ha : I m 3 = nI a) (hal : a ≤ T.1) : Ct (d + 1) 0 0 YX10_here [.ref m] (I, G) (qP (hrF T a) (I, G)) := by
  refine Ct.of (by decide) (by simp [Value.category]) (Nat.le_of_ble_eq_true rfl) ?_
  have hl3 := hT.2.1
  have hb := hT.2.2.2
  show wp _ _ _ _ 0 [some (.ref m)] [] _ _
  refine r_aload_n (pc := 0) dX10_here_0 rfl ?_
  refine r_getIv (pc := 1) 10 3 99 dX10_here_1 (fl_RX10_99 rfl) (by decide) rfl (c10_o hm) (v := nI a) (ha) ?_
  refine r_aload_n (pc := 4) dX10_here_4 rfl ?_
  refine r_getIv (pc := 5) 10 2 88 dX10_here_5 (fl_RX10_88 rfl) (by decide) rfl (c10_o hm) (v := nI T.1) (hT.1) ?_
  refine r_icmp_ge_n (pc := 8) (a := a) (b := T.1) (tgt := 27) dX10_here_8 (by decide) (by omega) (by omega) (fun c8 => ?_) (fun c8 => ?_)
  · skip
    refine r_iconst (pc := 27) (v := -1) dX10_here_27 (by decide) ?_
    refine r_ret_i (pc := 28) dX10_here_28 rfl ?_
    exact ⟨congrArg (fun z => some (Value.int z)) (by unfold hrF; first | (rw [if_neg (by omega)]; done) | (rw [if_pos (by omega)]; exact hT.2.2.1 a (by omega))), rfl⟩
  · skip
    refine r_aload_n (pc := 11) dX10_here_11 rfl ?_
    refine r_get1 (pc := 12) 10 1 9 dX10_here_12 (fl_RX10_9 rfl) (by decide) rfl (c10_o hm) (c10_p1 hm) ?_
    refine r_aload_n (pc := 15) dX10_here_15 rfl ?_
    refine r_getIv (pc := 16) 10 3 99 dX10_here_16 (fl_RX10_99 rfl) (by decide) rfl (c10_o hm) (v := nI a) (ha) ?_
    refine r_bald_n (pc := 19) (i := a) dX10_here_19 (c10_a1 hm) (by decide) (by omega) rfl ?_
    refine r_sipush (pc := 20) (v := 255) dX10_here_20 (by decide) ?_
    refine r_iand (pc := 23) (x := I (m + 1) a) (z := 255) dX10_here_23 ?_
    refine r_goto (pc := 24) (tgt := 28) dX10_here_24 (by decide) ?_
    refine r_ret_i (pc := 28) dX10_here_28 rfl ?_
    exact ⟨congrArg (fun z => some (Value.int z)) (by unfold hrF; first | (rw [if_neg (by omega)]; done) | (rw [if_pos (by omega)]; exact hT.2.2.1 a (by omega))), rfl⟩

theorem here_n {d : Nat} {I : Im} {G : Gm} {m : Nat} {T : Tp} (hm : isC10 G m) (hT : TpM I m T) {a : Nat} (ha : I m 3 = nI a) (hal : a < T.1) : Ct (d + 1) 0 0 YX10_here [.ref m] (I, G) (qP (nI (T.2 a)) (I, G)) := by
  have g := here_ct (d := d) hm hT ha (by omega)
  rw [show hrF T a = nI (T.2 a) from if_pos hal] at g
  exact g

set_option maxRecDepth 100000 in
theorem isDigitM_ct {d : Nat} {I : Im} {G : Gm} {m : Nat} {T : Tp} (hm : isC10 G m) (hT : TpM I m T) {a : Nat} (ha : I m 3 = nI a) (hal : a ≤ T.1) : Ct (d + 2) 0 0 YX10_isDigit [.ref m] (I, G) (qP (bz (dgB T a = true)) (I, G)) := by
  refine Ct.of (by decide) (by simp [Value.category]) (Nat.le_of_ble_eq_true rfl) ?_
  have hl3 := hT.2.1
  have hb := hT.2.2.2
  show wp _ _ _ _ 0 [some (.ref m)] [] _ _
  refine r_aload_n (pc := 0) dX10_isDigit_0 rfl ?_
  refine r_callV_P (pc := 1) (b := m) (As := []) 10 102 dX10_isDigit_1 lk_X10_here (ml_RX10_102 rfl) im_X10_here se_X10_here (by decide) (c10_o hm) (Nat.le_of_ble_eq_true rfl) rfl (here_ct hm hT ha (by omega)) ?_
  refine r_bipush (pc := 4) (v := 48) dX10_isDigit_4 (by decide) ?_
  refine r_icmp_lt (pc := 6) (x := hrF T a) (z := 48) (tgt := 22) dX10_isDigit_6 (by decide) (fun c6 => ?_) (fun c6 => ?_)
  · skip
    refine r_iconst (pc := 22) (v := 0) dX10_isDigit_22 (by decide) ?_
    refine r_ret_z (pc := 23) dX10_isDigit_23 rfl (by decide) ?_
    exact ⟨congrArg (fun z => some (Value.int z)) (by first | exact bz_f (fun z => absurd ((hr_lt hb).mp c6) (fun q => q ⟨(of_decide_eq_true z).1, (of_decide_eq_true z).2.1⟩)) | exact bz_f (fun z => by have h1 := (hr_gt hb).mp c15; have h2 := of_decide_eq_true z; omega) | exact bz_t (decide_eq_true (by have h1 : a < T.1 ∧ 48 ≤ T.2 a := Decidable.byContradiction (fun z => c6 ((hr_lt hb).mpr z)); have h2 : ¬ (a < T.1 ∧ 57 < T.2 a) := fun z => c15 ((hr_gt hb).mpr z); omega))), rfl⟩
  · skip
    refine r_aload_n (pc := 9) dX10_isDigit_9 rfl ?_
    refine r_callV_P (pc := 10) (b := m) (As := []) 10 102 dX10_isDigit_10 lk_X10_here (ml_RX10_102 rfl) im_X10_here se_X10_here (by decide) (c10_o hm) (Nat.le_of_ble_eq_true rfl) rfl (here_ct hm hT ha (by omega)) ?_
    refine r_bipush (pc := 13) (v := 57) dX10_isDigit_13 (by decide) ?_
    refine r_icmp_gt (pc := 15) (x := hrF T a) (z := 57) (tgt := 22) dX10_isDigit_15 (by decide) (fun c15 => ?_) (fun c15 => ?_)
    · skip
      refine r_iconst (pc := 22) (v := 0) dX10_isDigit_22 (by decide) ?_
      refine r_ret_z (pc := 23) dX10_isDigit_23 rfl (by decide) ?_
      exact ⟨congrArg (fun z => some (Value.int z)) (by first | exact bz_f (fun z => absurd ((hr_lt hb).mp c6) (fun q => q ⟨(of_decide_eq_true z).1, (of_decide_eq_true z).2.1⟩)) | exact bz_f (fun z => by have h1 := (hr_gt hb).mp c15; have h2 := of_decide_eq_true z; omega) | exact bz_t (decide_eq_true (by have h1 : a < T.1 ∧ 48 ≤ T.2 a := Decidable.byContradiction (fun z => c6 ((hr_lt hb).mpr z)); have h2 : ¬ (a < T.1 ∧ 57 < T.2 a) := fun z => c15 ((hr_gt hb).mpr z); omega))), rfl⟩
    · skip
      refine r_iconst (pc := 18) (v := 1) dX10_isDigit_18 (by decide) ?_
      refine r_goto (pc := 19) (tgt := 23) dX10_isDigit_19 (by decide) ?_
      refine r_ret_z (pc := 23) dX10_isDigit_23 rfl (by decide) ?_
      exact ⟨congrArg (fun z => some (Value.int z)) (by first | exact bz_f (fun z => absurd ((hr_lt hb).mp c6) (fun q => q ⟨(of_decide_eq_true z).1, (of_decide_eq_true z).2.1⟩)) | exact bz_f (fun z => by have h1 := (hr_gt hb).mp c15; have h2 := of_decide_eq_true z; omega) | exact bz_t (decide_eq_true (by have h1 : a < T.1 ∧ 48 ≤ T.2 a := Decidable.byContradiction (fun z => c6 ((hr_lt hb).mpr z)); have h2 : ¬ (a < T.1 ∧ 57 < T.2 a) := fun z => c15 ((hr_gt hb).mpr z); omega))), rfl⟩

set_option maxRecDepth 100000 in
theorem look_ct {d : Nat} {I : Im} {G : Gm} {m : Nat} {T : Tp} (hm : isC10 G m) (hT : TpM I m T) {a : Nat} (ha : I m 3 = nI a) (hal : a ≤ T.1) : Ct (d + 2) 0 0 YX10_look [.ref m] (I, G) (qM G (fun v I2 => v = hrF T (sk T a) ∧ I2 m 3 = nI (sk T a) ∧ ∀ c k, ¬ (c = m ∧ k = 3) → I2 c k = I c k)) := by
  refine Ct.of (by decide) (by simp [Value.category]) (Nat.le_of_ble_eq_true rfl) ?_
  have hl3 := hT.2.1
  have hb := hT.2.2.2
  show wp _ _ _ _ 0 [some (.ref m)] [] _ _
  have lp0 : ∀ (n0 : Nat), ∀ (x : Nat) (I1 : Im), T.1 - x = n0 → (x ≤ T.1) → (sk T a = sk T x) → (I1 m 3 = nI x) → (∀ c k, ¬ (c = m ∧ k = 3) → I1 c k = I c k) → wp (d + 2) 0 0 YX10_look 0 [some (.ref m)] [] (I1, G) (qM G (fun v I2 => v = hrF T (sk T a) ∧ I2 m 3 = nI (sk T a) ∧ ∀ c k, ¬ (c = m ∧ k = 3) → I2 c k = I c k)) := by
    intro n0
    induction n0 using Nat.strongRecOn with
    | ind n0 ih0 =>
      intro x I1 hmu0 hx hsk ha1 hfr
      have hT1 : TpM I1 m T := hT.keep (fun c k z => hfr c k (by omega))
      refine r_aload_n (pc := 0) dX10_look_0 rfl ?_
      refine r_callV_P (pc := 1) (b := m) (As := []) 10 102 dX10_look_1 lk_X10_here (ml_RX10_102 rfl) im_X10_here se_X10_here (by decide) (c10_o hm) (Nat.le_of_ble_eq_true rfl) rfl (here_ct hm hT1 ha1 (by omega)) ?_
      refine r_bipush (pc := 4) (v := 32) dX10_look_4 (by decide) ?_
      refine r_icmp_ne (pc := 6) (x := hrF T x) (z := 32) (tgt := 22) dX10_look_6 (by decide) (fun c6 => ?_) (fun c6 => ?_)
      · skip
        have h32 : ¬ (x < T.1 ∧ T.2 x = 32) := fun z => c6 ((hr_eq hb (n := 32) (by omega) rfl).mpr z)
        have hsx : sk T a = x := by rw [hsk, sk_eq, if_neg h32]
        refine r_aload_n (pc := 22) dX10_look_22 rfl ?_
        refine r_callV_P (pc := 23) (b := m) (As := []) 10 102 dX10_look_23 lk_X10_here (ml_RX10_102 rfl) im_X10_here se_X10_here (by decide) (c10_o hm) (Nat.le_of_ble_eq_true rfl) rfl (here_ct hm hT1 ha1 (by omega)) ?_
        refine r_ret_i (pc := 26) dX10_look_26 rfl ?_
        exact ⟨_, I1, rfl, rfl, by rw [hsx], by rw [hsx]; exact ha1, hfr⟩
      · skip
        have h32 := (hr_eq hb (n := 32) (by omega) rfl).mp c6
        refine r_aload_n (pc := 9) dX10_look_9 rfl ?_
        refine r_dup (pc := 10) dX10_look_10 rfl ?_
        refine r_getIv (pc := 11) 10 3 99 dX10_look_11 (fl_RX10_99 rfl) (by decide) rfl (c10_o hm) (v := nI x) (ha1) ?_
        refine r_iconst (pc := 14) (v := 1) dX10_look_14 (by decide) ?_
        refine r_iadd_n (pc := 15) (a := x) (b := 1) dX10_look_15 ?_
        refine r_putI (pc := 16) (v := nI (x + 1)) 10 3 99 dX10_look_16 (fl_RX10_99 rfl) (by decide) rfl rfl (c10_o hm) ?_
        refine r_goto (pc := 19) (tgt := 0) dX10_look_19 (by decide) ?_
        exact ih0 _ (by omega) (x + 1) (up2 I1 m 3 (nI (x + 1))) rfl (by omega) (by rw [hsk, sk_eq, if_pos h32]) (by exact up2_at) (by exact fun c k z => (up2_rd (by omega)).trans (hfr c k z))
  exact lp0 _ a I rfl (by omega) (by rfl) ha (by exact fun _ _ _ => rfl)

set_option maxRecDepth 100000 in
theorem fails_ct {d : Nat} {I : Im} {G : Gm} {m : Nat} (hm : isC10 G m) {wh : Int32} (hw : I m 4 = -1) : Ct (d + 1) 0 0 YX10_fails [.ref m, .int wh] (I, G) (qM G (fun v I2 => v = 0 ∧ I2 = up2 I m 4 wh)) := by
  refine Ct.of (by decide) (by simp [Value.category]) (Nat.le_of_ble_eq_true rfl) ?_
  show wp _ _ _ _ 0 [some (.ref m), some (.int wh)] [] _ _
  refine r_aload_n (pc := 0) dX10_fails_0 rfl ?_
  refine r_getIv (pc := 1) 10 4 106 dX10_fails_1 (fl_RX10_106 rfl) (by decide) rfl (c10_o hm) (v := (-1)) (hw) ?_
  refine r_iconst (pc := 4) (v := -1) dX10_fails_4 (by decide) ?_
  refine r_icmp_ne (pc := 5) (x := (-1)) (z := (-1)) (tgt := 13) dX10_fails_5 (by decide) (fun c5 => ?_) (fun c5 => ?_)
  · exfalso; exact c5 rfl
  · skip
    refine r_aload_n (pc := 8) dX10_fails_8 rfl ?_
    refine r_iload_n (pc := 9) dX10_fails_9 rfl ?_
    refine r_putI (pc := 10) (v := wh) 10 4 106 dX10_fails_10 (fl_RX10_106 rfl) (by decide) rfl rfl (c10_o hm) ?_
    refine r_iconst (pc := 13) (v := 0) dX10_fails_13 (by decide) ?_
    refine r_ret_z (pc := 14) dX10_fails_14 rfl (by decide) ?_
    exact ⟨_, _, rfl, rfl, rfl, rfl⟩

theorem isIn_n {d : Nat} {I : Im} {G : Gm} {v lo hi : Nat} (h1 : v < 2 ^ 31) (h2 : lo < 2 ^ 31) (h3 : hi < 2 ^ 31) : Ct (d + 1) 0 0 YX10_isIn [.int (nI v), .int (nI lo), .int (nI hi)] (I, G) (qP (bz (lo ≤ v ∧ v ≤ hi)) (I, G)) := by
  have g := isIn_ct (d := d) (I := I) (G := G) (v := nI v) (lo := nI lo) (hi := nI hi)
  rw [bz_congr (b := lo ≤ v ∧ v ≤ hi) (by rw [nI_leI h2 h1, nI_leI h1 h3])] at g
  exact g

set_option maxRecDepth 100000 in
theorem number_ct {d : Nat} {I : Im} {G : Gm} {m : Nat} {T : Tp} (hm : isC10 G m) (hT : TpM I m T) {a : Nat} (ha : I m 3 = nI a) (hal : a ≤ T.1) {lo hi : Nat} (hw : I m 4 = -1) (hlo : lo ≤ 1000) (hhi : hi ≤ 1000) : Ct (d + 3) 0 0 YX10_number [.ref m, .int (nI lo), .int (nI hi), .int (-1)] (I, G) (qM G (fun v I2 => FrN I I2 m ∧ ((∃ f, cN T lo hi nob a = .inl f ∧ v = 0 ∧ I2 m 4 = nI f ∧ f ≤ 300) ∨ (∃ x e, cN T lo hi nob a = .inr (x, e) ∧ v = 1 ∧ I2 m 5 = nI x ∧ I2 m 3 = nI e ∧ I2 m 4 = -1)))) := by
  refine Ct.of (by decide) (by simp [Value.category]) (Nat.le_of_ble_eq_true rfl) ?_
  have hl3 := hT.2.1
  have hb := hT.2.2.2
  show wp _ _ _ _ 0 [some (.ref m), some (.int (nI lo)), some (.int (nI hi)), some (.int (-1))] [] _ _
  refine r_aload_n (pc := 0) dX10_number_0 rfl ?_
  refine r_callV_P (pc := 1) (b := m) (As := []) 10 102 dX10_number_1 lk_X10_here (ml_RX10_102 rfl) im_X10_here se_X10_here (by decide) (c10_o hm) (Nat.le_of_ble_eq_true rfl) rfl (here_ct hm hT ha (by omega)) ?_
  refine r_bipush (pc := 4) (v := 32) dX10_number_4 (by decide) ?_
  refine r_icmp_eq (pc := 6) (x := hrF T a) (z := 32) (tgt := 18) dX10_number_6 (by decide) (fun c6 => ?_) (fun c6 => ?_)
  · skip
    have h32 := (hr_eq hb (n := 32) (by omega) rfl).mp c6
    refine r_aload_n (pc := 18) dX10_number_18 rfl ?_
    refine r_callV_M (pc := 19) (b := m) (As := []) 10 113 dX10_number_19 lk_X10_look (ml_RX10_113 rfl) im_X10_look se_X10_look (by decide) (c10_o hm) (Nat.le_of_ble_eq_true rfl) rfl (look_ct hm hT ha hal) (fun v19 I1 hI1 => ?_)
    obtain ⟨p, hp⟩ : ∃ z, z = sk T a := ⟨_, rfl⟩
    have hps := sk_is hal
    rw [← hp] at hps hI1
    have ha1 := hI1.2.1
    have hF1 : FrN I I1 m := fun c k z => hI1.2.2 c k (by omega)
    have hT1 := hT.keep hF1
    have hw1 : I1 m 4 = -1 := (hI1.2.2 _ _ (by omega)).trans hw
    refine r_pop (pc := 22) dX10_number_22 rfl ?_
    refine r_aload_n (pc := 23) dX10_number_23 rfl ?_
    refine r_callV_P (pc := 24) (b := m) (As := []) 10 116 dX10_number_24 lk_X10_isDigit (ml_RX10_116 rfl) im_X10_isDigit se_X10_isDigit (by decide) (c10_o hm) (Nat.le_of_ble_eq_true rfl) rfl (isDigitM_ct hm hT1 ha1 (by omega)) ?_
    refine r_if_ne_b (pc := 27) (tgt := 39) dX10_number_27 (by decide) (fun c27 => ?_) (fun c27 => ?_)
    · skip
      have hdp := of_decide_eq_true c27
      have hb1 := hb p
      refine r_aload_n (pc := 39) dX10_number_39 rfl ?_
      refine r_aload_n (pc := 40) dX10_number_40 rfl ?_
      refine r_callV_P (pc := 41) (b := m) (As := []) 10 102 dX10_number_41 lk_X10_here (ml_RX10_102 rfl) im_X10_here se_X10_here (by decide) (c10_o hm) (Nat.le_of_ble_eq_true rfl) rfl (here_n hm hT1 ha1 (by omega)) ?_
      refine r_bipush (pc := 44) (v := 48) dX10_number_44 (by decide) ?_
      refine r_isub_n (pc := 46) (a := T.2 p) (b := 48) dX10_number_46 (by omega) ?_
      refine r_putI (pc := 47) (v := nI ((T.2 p) - 48)) 10 5 120 dX10_number_47 (fl_RX10_120 rfl) (by decide) rfl rfl (c10_o hm) ?_
      refine r_aload_n (pc := 50) dX10_number_50 rfl ?_
      refine r_dup (pc := 51) dX10_number_51 rfl ?_
      refine r_getIv (pc := 52) 10 3 99 dX10_number_52 (fl_RX10_99 rfl) (by decide) rfl (c10_o hm) (v := nI p) ((up2_rd (by omega)).trans (ha1)) ?_
      refine r_iconst (pc := 55) (v := 1) dX10_number_55 (by decide) ?_
      refine r_iadd_n (pc := 56) (a := p) (b := 1) dX10_number_56 ?_
      refine r_putI (pc := 57) (v := nI (p + 1)) 10 3 99 dX10_number_57 (fl_RX10_99 rfl) (by decide) rfl rfl (c10_o hm) ?_
      obtain ⟨I2, hI2⟩ : ∃ zz0 : Im, zz0 = up2 (up2 I1 m 5 (nI ((T.2 p) - 48))) m 3 (nI (p + 1)) := ⟨_, rfl⟩
      refine wp_M (M2 := (I2, G)) (by subst hI2; rfl) ?_
      have ha2 : I2 m 3 = nI (p + 1) := by rw [hI2]; exact up2_at
      have hn2 : I2 m 5 = nI (T.2 p - 48) := by rw [hI2, up2_rd (by omega)]; exact up2_at
      have hF2 : FrN I I2 m := by rw [hI2]; exact (hF1.u (by omega)).u (by omega)
      have hT2 := hT.keep hF2
      have hw2 : I2 m 4 = -1 := by rw [hI2, up2_rd (by omega), up2_rd (by omega)]; exact hw1
      have k96 : ∀ (v : Nat) (e : Nat) (I4 : Im), (nv T p = (v, e)) → (p < e ∧ e ≤ T.1 ∧ v ≤ 99) → (I4 m 3 = nI e) → (I4 m 5 = nI v) → (I4 m 4 = -1) → (FrN I I4 m) → wp (d + 3) 0 0 YX10_number 96 [some (.ref m), some (.int (nI lo)), some (.int (nI hi)), some (.int (-1))] [] (I4, G) (qM G (fun v I2 => FrN I I2 m ∧ ((∃ f, cN T lo hi nob a = .inl f ∧ v = 0 ∧ I2 m 4 = nI f ∧ f ≤ 300) ∨ (∃ x e, cN T lo hi nob a = .inr (x, e) ∧ v = 1 ∧ I2 m 5 = nI x ∧ I2 m 3 = nI e ∧ I2 m 4 = -1)))) := by
        intro v e I4 hve hel ha4 hn4 hw4 hF4
        have hT4 := hT.keep hF4
        have hrn : rN T lo hi a = if lo ≤ v ∧ v ≤ hi then .inr (v, e) else .inl (e - 1) := by unfold rN; rw [if_neg (fun z => z.2 h32.2), ← hp, if_pos c27, hve]
        refine r_aload_n (pc := 96) dX10_number_96 rfl ?_
        refine r_getIv (pc := 97) 10 5 120 dX10_number_97 (fl_RX10_120 rfl) (by decide) rfl (c10_o hm) (v := nI v) (hn4) ?_
        refine r_iload_n (pc := 100) dX10_number_100 rfl ?_
        refine r_iload_n (pc := 101) dX10_number_101 rfl ?_
        refine r_callS_P (pc := 102) (As := [.int (nI v), .int (nI lo), .int (nI hi)]) 123 dX10_number_102 lk_X10_isIn (ml_RX10_123 rfl) sm_X10_isIn (Nat.le_of_ble_eq_true rfl) rfl (isIn_n (by omega) (by omega) (by omega)) ?_
        refine r_if_eq_b (pc := 105) (tgt := 131) dX10_number_105 (by decide) (fun c105 => ?_) (fun c105 => ?_)
        · skip
          have hrl : cN T lo hi nob a = .inl (e - 1) := cN_l (hrn.trans (if_neg c105))
          refine r_aload_n (pc := 131) dX10_number_131 rfl ?_
          refine r_aload_n (pc := 132) dX10_number_132 rfl ?_
          refine r_getIv (pc := 133) 10 3 99 dX10_number_133 (fl_RX10_99 rfl) (by decide) rfl (c10_o hm) (v := nI e) (ha4) ?_
          refine r_iconst (pc := 136) (v := 1) dX10_number_136 (by decide) ?_
          refine r_isub_n (pc := 137) (a := e) (b := 1) dX10_number_137 (by omega) ?_
          refine r_callV_M (pc := 138) (b := m) (As := [.int (nI (e - 1))]) 10 109 dX10_number_138 lk_X10_fails (ml_RX10_109 rfl) im_X10_fails se_X10_fails (by decide) (c10_o hm) (Nat.le_of_ble_eq_true rfl) rfl (fails_ct hm hw4) (fun v138 I9 hr9 => ?_)
          obtain ⟨rfl, rfl⟩ := hr9
          refine r_ret_z (pc := 141) dX10_number_141 rfl (by decide) ?_
          exact ⟨_, _, rfl, rfl, hF4.u (by omega), Or.inl ⟨e - 1, hrl, rfl, up2_at, by omega⟩⟩
        · skip
          have hrr := hrn.trans (if_pos c105)
          have hnb : ¬ nob v = true := by simp
          refine r_iload_n (pc := 108) dX10_number_108 rfl ?_
          refine r_iconst (pc := 109) (v := -1) dX10_number_109 (by decide) ?_
          refine r_icmp_eq (pc := 110) (x := (-1)) (z := (-1)) (tgt := 142) dX10_number_110 (by decide) (fun c110 => ?_) (fun c110 => ?_)
          · skip
            refine r_aload_n (pc := 142) dX10_number_142 rfl ?_
            refine r_callV_P (pc := 143) (b := m) (As := []) 10 116 dX10_number_143 lk_X10_isDigit (ml_RX10_116 rfl) im_X10_isDigit se_X10_isDigit (by decide) (c10_o hm) (Nat.le_of_ble_eq_true rfl) rfl (isDigitM_ct hm hT4 ha4 (by omega)) ?_
            refine r_if_eq_b (pc := 146) (tgt := 160) dX10_number_146 (by decide) (fun c146 => ?_) (fun c146 => ?_)
            · skip
              refine r_iconst (pc := 160) (v := 1) dX10_number_160 (by decide) ?_
              refine r_goto (pc := 161) (tgt := 165) dX10_number_161 (by decide) ?_
              refine r_ret_z (pc := 165) dX10_number_165 rfl (by decide) ?_
              exact ⟨_, I4, rfl, rfl, hF4, Or.inr ⟨v, e, cN_k hrr hnb c146, rfl, hn4, ha4, hw4⟩⟩
            · skip
              refine r_aload_n (pc := 149) dX10_number_149 rfl ?_
              refine r_aload_n (pc := 150) dX10_number_150 rfl ?_
              refine r_getIv (pc := 151) 10 3 99 dX10_number_151 (fl_RX10_99 rfl) (by decide) rfl (c10_o hm) (v := nI e) (ha4) ?_
              refine r_callV_M (pc := 154) (b := m) (As := [.int (nI e)]) 10 109 dX10_number_154 lk_X10_fails (ml_RX10_109 rfl) im_X10_fails se_X10_fails (by decide) (c10_o hm) (Nat.le_of_ble_eq_true rfl) rfl (fails_ct hm hw4) (fun v154 I9 hr9 => ?_)
              obtain ⟨rfl, rfl⟩ := hr9
              refine r_if_eq_n (pc := 157) (a := 0) (tgt := 164) dX10_number_157 (by decide) (by omega) (fun c157 => ?_) (fun c157 => ?_)
              · skip
                refine r_iconst (pc := 164) (v := 0) dX10_number_164 (by decide) ?_
                refine r_ret_z (pc := 165) dX10_number_165 rfl (by decide) ?_
                exact ⟨_, _, rfl, rfl, hF4.u (by omega), Or.inl ⟨e, cN_d hrr hnb c146, rfl, up2_at, by omega⟩⟩
              · exfalso; exact c157 rfl
          · exfalso; exact c110 rfl
      refine r_aload_n (pc := 60) dX10_number_60 rfl ?_
      refine r_callV_P (pc := 61) (b := m) (As := []) 10 116 dX10_number_61 lk_X10_isDigit (ml_RX10_116 rfl) im_X10_isDigit se_X10_isDigit (by decide) (c10_o hm) (Nat.le_of_ble_eq_true rfl) rfl (isDigitM_ct hm hT2 ha2 (by omega)) ?_
      refine r_if_eq_b (pc := 64) (tgt := 96) dX10_number_64 (by decide) (fun c64 => ?_) (fun c64 => ?_)
      · skip
        exact k96 (T.2 p - 48) (p + 1) I2 (by first | (unfold nv; rw [if_neg c64]; done) | (unfold nv; rw [if_pos c64]; exact Prod.ext (by have := of_decide_eq_true c64; show 10 * (T.2 p - 48) + (T.2 (p + 1) - 48) = 10 * (T.2 p - 48) + T.2 (p + 1) - 48; omega) rfl)) (by first | omega | (have := of_decide_eq_true c64; omega)) (by first | exact ha2 | exact up2_at) (by first | exact hn2 | exact (up2_rd (by omega)).trans up2_at) (by first | exact hw2 | exact (up2_rd (by omega)).trans ((up2_rd (by omega)).trans hw2)) (by first | exact hF2 | exact (hF2.u (by omega)).u (by omega))
      · skip
        have hdq := of_decide_eq_true c64
        have hb2 := hb (p + 1)
        refine r_aload_n (pc := 67) dX10_number_67 rfl ?_
        refine r_bipush (pc := 68) (v := 10) dX10_number_68 (by decide) ?_
        refine r_aload_n (pc := 70) dX10_number_70 rfl ?_
        refine r_getIv (pc := 71) 10 5 120 dX10_number_71 (fl_RX10_120 rfl) (by decide) rfl (c10_o hm) (v := nI (T.2 p - 48)) (hn2) ?_
        refine r_imul_n (pc := 74) (a := 10) (b := T.2 p - 48) dX10_number_74 ?_
        refine r_aload_n (pc := 75) dX10_number_75 rfl ?_
        refine r_callV_P (pc := 76) (b := m) (As := []) 10 102 dX10_number_76 lk_X10_here (ml_RX10_102 rfl) im_X10_here se_X10_here (by decide) (c10_o hm) (Nat.le_of_ble_eq_true rfl) rfl (here_n hm hT2 ha2 (by omega)) ?_
        refine r_iadd_n (pc := 79) (a := 10 * (T.2 p - 48)) (b := T.2 (p + 1)) dX10_number_79 ?_
        refine r_bipush (pc := 80) (v := 48) dX10_number_80 (by decide) ?_
        refine r_isub_n (pc := 82) (a := (10 * (T.2 p - 48)) + (T.2 (p + 1))) (b := 48) dX10_number_82 (by omega) ?_
        refine r_putI (pc := 83) (v := nI (((10 * (T.2 p - 48)) + (T.2 (p + 1))) - 48)) 10 5 120 dX10_number_83 (fl_RX10_120 rfl) (by decide) rfl rfl (c10_o hm) ?_
        refine r_aload_n (pc := 86) dX10_number_86 rfl ?_
        refine r_dup (pc := 87) dX10_number_87 rfl ?_
        refine r_getIv (pc := 88) 10 3 99 dX10_number_88 (fl_RX10_99 rfl) (by decide) rfl (c10_o hm) (v := nI (p + 1)) ((up2_rd (by omega)).trans (ha2)) ?_
        refine r_iconst (pc := 91) (v := 1) dX10_number_91 (by decide) ?_
        refine r_iadd_n (pc := 92) (a := (p + 1)) (b := 1) dX10_number_92 ?_
        refine r_putI (pc := 93) (v := nI ((p + 1) + 1)) 10 3 99 dX10_number_93 (fl_RX10_99 rfl) (by decide) rfl rfl (c10_o hm) ?_
        exact k96 (10 * (T.2 p - 48) + T.2 (p + 1) - 48) (p + 2) (up2 (up2 I2 m 5 (nI (((10 * (T.2 p - 48)) + (T.2 (p + 1))) - 48))) m 3 (nI ((p + 1) + 1))) (by first | (unfold nv; rw [if_neg c64]; done) | (unfold nv; rw [if_pos c64]; exact Prod.ext (by have := of_decide_eq_true c64; show 10 * (T.2 p - 48) + (T.2 (p + 1) - 48) = 10 * (T.2 p - 48) + T.2 (p + 1) - 48; omega) rfl)) (by first | omega | (have := of_decide_eq_true c64; omega)) (by first | exact ha2 | exact up2_at) (by first | exact hn2 | exact (up2_rd (by omega)).trans up2_at) (by first | exact hw2 | exact (up2_rd (by omega)).trans ((up2_rd (by omega)).trans hw2)) (by first | exact hF2 | exact (hF2.u (by omega)).u (by omega))
    · skip
      refine r_aload_n (pc := 30) dX10_number_30 rfl ?_
      refine r_aload_n (pc := 31) dX10_number_31 rfl ?_
      refine r_getIv (pc := 32) 10 3 99 dX10_number_32 (fl_RX10_99 rfl) (by decide) rfl (c10_o hm) (v := nI p) (ha1) ?_
      refine r_callV_M (pc := 35) (b := m) (As := [.int (nI p)]) 10 109 dX10_number_35 lk_X10_fails (ml_RX10_109 rfl) im_X10_fails se_X10_fails (by decide) (c10_o hm) (Nat.le_of_ble_eq_true rfl) rfl (fails_ct hm hw1) (fun v35 I9 hr9 => ?_)
      obtain ⟨rfl, rfl⟩ := hr9
      refine r_ret_z (pc := 38) dX10_number_38 rfl (by decide) ?_
      refine ⟨_, _, rfl, rfl, hF1.u (by omega), Or.inl ⟨p, cN_l ?_, rfl, up2_at, by omega⟩⟩
      unfold rN
      rw [if_neg (fun z => z.2 h32.2), ← hp, if_neg c27]
  · skip
    have h32 : ¬ (a < T.1 ∧ T.2 a = 32) := fun z => c6 ((hr_eq hb (n := 32) (by omega) rfl).mpr z)
    refine r_aload_n (pc := 9) dX10_number_9 rfl ?_
    refine r_aload_n (pc := 10) dX10_number_10 rfl ?_
    refine r_getIv (pc := 11) 10 3 99 dX10_number_11 (fl_RX10_99 rfl) (by decide) rfl (c10_o hm) (v := nI a) (ha) ?_
    refine r_callV_M (pc := 14) (b := m) (As := [.int (nI a)]) 10 109 dX10_number_14 lk_X10_fails (ml_RX10_109 rfl) im_X10_fails se_X10_fails (by decide) (c10_o hm) (Nat.le_of_ble_eq_true rfl) rfl (fails_ct hm hw) (fun v14 I9 hr9 => ?_)
    obtain ⟨rfl, rfl⟩ := hr9
    refine r_ret_z (pc := 17) dX10_number_17 rfl (by decide) ?_
    exact ⟨_, _, rfl, rfl, FrN.rf.u (by omega), Or.inl ⟨a, cN_l (rN_nb h32), rfl, up2_at, by omega⟩⟩

set_option maxRecDepth 100000 in
theorem number_b {d : Nat} {I : Im} {G : Gm} {m : Nat} {T : Tp} (hm : isC10 G m) (hT : TpM I m T) {a : Nat} (ha : I m 3 = nI a) (hal : a ≤ T.1) {lo hi k : Nat} {s : Nat → Option Nat} (hw : I m 4 = -1) (hlo : lo ≤ 1000) (hhi : hi ≤ 7) (hk : k ≤ 10) (hs : ∀ v, v < 8 → I (m + 4) (8 * k + v) = sI (s v)) (hso : ∀ b a, s b = some a → a < 8) : Ct (d + 3) 0 0 YX10_number [.ref m, .int (nI lo), .int (nI hi), .int (nI k)] (I, G) (qM G (fun v I2 => FrN I I2 m ∧ ((∃ f, cN T lo hi (fun v => (s v).isSome) a = .inl f ∧ v = 0 ∧ I2 m 4 = nI f ∧ f ≤ 300) ∨ (∃ x e, cN T lo hi (fun v => (s v).isSome) a = .inr (x, e) ∧ v = 1 ∧ I2 m 5 = nI x ∧ I2 m 3 = nI e ∧ I2 m 4 = -1)))) := by
  refine Ct.of (by decide) (by simp [Value.category]) (Nat.le_of_ble_eq_true rfl) ?_
  have hl3 := hT.2.1
  have hb := hT.2.2.2
  show wp _ _ _ _ 0 [some (.ref m), some (.int (nI lo)), some (.int (nI hi)), some (.int (nI k))] [] _ _
  refine r_aload_n (pc := 0) dX10_number_0 rfl ?_
  refine r_callV_P (pc := 1) (b := m) (As := []) 10 102 dX10_number_1 lk_X10_here (ml_RX10_102 rfl) im_X10_here se_X10_here (by decide) (c10_o hm) (Nat.le_of_ble_eq_true rfl) rfl (here_ct hm hT ha (by omega)) ?_
  refine r_bipush (pc := 4) (v := 32) dX10_number_4 (by decide) ?_
  refine r_icmp_eq (pc := 6) (x := hrF T a) (z := 32) (tgt := 18) dX10_number_6 (by decide) (fun c6 => ?_) (fun c6 => ?_)
  · skip
    have h32 := (hr_eq hb (n := 32) (by omega) rfl).mp c6
    refine r_aload_n (pc := 18) dX10_number_18 rfl ?_
    refine r_callV_M (pc := 19) (b := m) (As := []) 10 113 dX10_number_19 lk_X10_look (ml_RX10_113 rfl) im_X10_look se_X10_look (by decide) (c10_o hm) (Nat.le_of_ble_eq_true rfl) rfl (look_ct hm hT ha hal) (fun v19 I1 hI1 => ?_)
    obtain ⟨p, hp⟩ : ∃ z, z = sk T a := ⟨_, rfl⟩
    have hps := sk_is hal
    rw [← hp] at hps hI1
    have ha1 := hI1.2.1
    have hF1 : FrN I I1 m := fun c k z => hI1.2.2 c k (by omega)
    have hT1 := hT.keep hF1
    have hw1 : I1 m 4 = -1 := (hI1.2.2 _ _ (by omega)).trans hw
    refine r_pop (pc := 22) dX10_number_22 rfl ?_
    refine r_aload_n (pc := 23) dX10_number_23 rfl ?_
    refine r_callV_P (pc := 24) (b := m) (As := []) 10 116 dX10_number_24 lk_X10_isDigit (ml_RX10_116 rfl) im_X10_isDigit se_X10_isDigit (by decide) (c10_o hm) (Nat.le_of_ble_eq_true rfl) rfl (isDigitM_ct hm hT1 ha1 (by omega)) ?_
    refine r_if_ne_b (pc := 27) (tgt := 39) dX10_number_27 (by decide) (fun c27 => ?_) (fun c27 => ?_)
    · skip
      have hdp := of_decide_eq_true c27
      have hb1 := hb p
      refine r_aload_n (pc := 39) dX10_number_39 rfl ?_
      refine r_aload_n (pc := 40) dX10_number_40 rfl ?_
      refine r_callV_P (pc := 41) (b := m) (As := []) 10 102 dX10_number_41 lk_X10_here (ml_RX10_102 rfl) im_X10_here se_X10_here (by decide) (c10_o hm) (Nat.le_of_ble_eq_true rfl) rfl (here_n hm hT1 ha1 (by omega)) ?_
      refine r_bipush (pc := 44) (v := 48) dX10_number_44 (by decide) ?_
      refine r_isub_n (pc := 46) (a := T.2 p) (b := 48) dX10_number_46 (by omega) ?_
      refine r_putI (pc := 47) (v := nI ((T.2 p) - 48)) 10 5 120 dX10_number_47 (fl_RX10_120 rfl) (by decide) rfl rfl (c10_o hm) ?_
      refine r_aload_n (pc := 50) dX10_number_50 rfl ?_
      refine r_dup (pc := 51) dX10_number_51 rfl ?_
      refine r_getIv (pc := 52) 10 3 99 dX10_number_52 (fl_RX10_99 rfl) (by decide) rfl (c10_o hm) (v := nI p) ((up2_rd (by omega)).trans (ha1)) ?_
      refine r_iconst (pc := 55) (v := 1) dX10_number_55 (by decide) ?_
      refine r_iadd_n (pc := 56) (a := p) (b := 1) dX10_number_56 ?_
      refine r_putI (pc := 57) (v := nI (p + 1)) 10 3 99 dX10_number_57 (fl_RX10_99 rfl) (by decide) rfl rfl (c10_o hm) ?_
      obtain ⟨I2, hI2⟩ : ∃ zz0 : Im, zz0 = up2 (up2 I1 m 5 (nI ((T.2 p) - 48))) m 3 (nI (p + 1)) := ⟨_, rfl⟩
      refine wp_M (M2 := (I2, G)) (by subst hI2; rfl) ?_
      have ha2 : I2 m 3 = nI (p + 1) := by rw [hI2]; exact up2_at
      have hn2 : I2 m 5 = nI (T.2 p - 48) := by rw [hI2, up2_rd (by omega)]; exact up2_at
      have hF2 : FrN I I2 m := by rw [hI2]; exact (hF1.u (by omega)).u (by omega)
      have hT2 := hT.keep hF2
      have hw2 : I2 m 4 = -1 := by rw [hI2, up2_rd (by omega), up2_rd (by omega)]; exact hw1
      have k96 : ∀ (v : Nat) (e : Nat) (I4 : Im), (nv T p = (v, e)) → (p < e ∧ e ≤ T.1 ∧ v ≤ 99) → (I4 m 3 = nI e) → (I4 m 5 = nI v) → (I4 m 4 = -1) → (FrN I I4 m) → wp (d + 3) 0 0 YX10_number 96 [some (.ref m), some (.int (nI lo)), some (.int (nI hi)), some (.int (nI k))] [] (I4, G) (qM G (fun v I2 => FrN I I2 m ∧ ((∃ f, cN T lo hi (fun v => (s v).isSome) a = .inl f ∧ v = 0 ∧ I2 m 4 = nI f ∧ f ≤ 300) ∨ (∃ x e, cN T lo hi (fun v => (s v).isSome) a = .inr (x, e) ∧ v = 1 ∧ I2 m 5 = nI x ∧ I2 m 3 = nI e ∧ I2 m 4 = -1)))) := by
        intro v e I4 hve hel ha4 hn4 hw4 hF4
        have hT4 := hT.keep hF4
        have hrn : rN T lo hi a = if lo ≤ v ∧ v ≤ hi then .inr (v, e) else .inl (e - 1) := by unfold rN; rw [if_neg (fun z => z.2 h32.2), ← hp, if_pos c27, hve]
        refine r_aload_n (pc := 96) dX10_number_96 rfl ?_
        refine r_getIv (pc := 97) 10 5 120 dX10_number_97 (fl_RX10_120 rfl) (by decide) rfl (c10_o hm) (v := nI v) (hn4) ?_
        refine r_iload_n (pc := 100) dX10_number_100 rfl ?_
        refine r_iload_n (pc := 101) dX10_number_101 rfl ?_
        refine r_callS_P (pc := 102) (As := [.int (nI v), .int (nI lo), .int (nI hi)]) 123 dX10_number_102 lk_X10_isIn (ml_RX10_123 rfl) sm_X10_isIn (Nat.le_of_ble_eq_true rfl) rfl (isIn_n (by omega) (by omega) (by omega)) ?_
        refine r_if_eq_b (pc := 105) (tgt := 131) dX10_number_105 (by decide) (fun c105 => ?_) (fun c105 => ?_)
        · skip
          have hrl : cN T lo hi (fun v => (s v).isSome) a = .inl (e - 1) := cN_l (hrn.trans (if_neg c105))
          refine r_aload_n (pc := 131) dX10_number_131 rfl ?_
          refine r_aload_n (pc := 132) dX10_number_132 rfl ?_
          refine r_getIv (pc := 133) 10 3 99 dX10_number_133 (fl_RX10_99 rfl) (by decide) rfl (c10_o hm) (v := nI e) (ha4) ?_
          refine r_iconst (pc := 136) (v := 1) dX10_number_136 (by decide) ?_
          refine r_isub_n (pc := 137) (a := e) (b := 1) dX10_number_137 (by omega) ?_
          refine r_callV_M (pc := 138) (b := m) (As := [.int (nI (e - 1))]) 10 109 dX10_number_138 lk_X10_fails (ml_RX10_109 rfl) im_X10_fails se_X10_fails (by decide) (c10_o hm) (Nat.le_of_ble_eq_true rfl) rfl (fails_ct hm hw4) (fun v138 I9 hr9 => ?_)
          obtain ⟨rfl, rfl⟩ := hr9
          refine r_ret_z (pc := 141) dX10_number_141 rfl (by decide) ?_
          exact ⟨_, _, rfl, rfl, hF4.u (by omega), Or.inl ⟨e - 1, hrl, rfl, up2_at, by omega⟩⟩
        · skip
          have hrr := hrn.trans (if_pos c105)
          refine r_iload_n (pc := 108) dX10_number_108 rfl ?_
          refine r_iconst (pc := 109) (v := -1) dX10_number_109 (by decide) ?_
          refine r_icmp_eq (pc := 110) (x := nI k) (z := (-1)) (tgt := 142) dX10_number_110 (by decide) (fun c110 => ?_) (fun c110 => ?_)
          · exfalso; exact m1_ne (by omega) c110.symm
          · skip
            refine r_aload_n (pc := 113) dX10_number_113 rfl ?_
            refine r_get1 (pc := 114) 10 8 20 dX10_number_114 (fl_RX10_20 rfl) (by decide) rfl (c10_o hm) (c10_p8 hm) ?_
            refine r_bipush (pc := 117) (v := 8) dX10_number_117 (by decide) ?_
            refine r_iload_n (pc := 119) dX10_number_119 rfl ?_
            refine r_imul_n (pc := 120) (a := 8) (b := k) dX10_number_120 ?_
            refine r_aload_n (pc := 121) dX10_number_121 rfl ?_
            refine r_getIv (pc := 122) 10 5 120 dX10_number_122 (fl_RX10_120 rfl) (by decide) rfl (c10_o hm) (v := nI v) (hn4) ?_
            refine r_iadd_n (pc := 125) (a := 8 * k) (b := v) dX10_number_125 ?_
            refine r_iald_n (pc := 126) (i := (8 * k) + v) dX10_number_126 (c10_a8 hm) (by decide) (by omega) (v := sI (s v)) ((hF4 _ _ (by omega)).trans (hs v (by omega))) ?_
            refine r_iconst (pc := 127) (v := -1) dX10_number_127 (by decide) ?_
            refine r_icmp_eq (pc := 128) (x := sI (s v)) (z := (-1)) (tgt := 142) dX10_number_128 (by decide) (fun c128 => ?_) (fun c128 => ?_)
            · skip
              have hsn : s v = none := (sI_m1 (fun c hc => by have := hso v c hc; omega)).mp c128
              have hnb : ¬ (fun v => (s v).isSome) v = true := by simp [hsn]
              refine r_aload_n (pc := 142) dX10_number_142 rfl ?_
              refine r_callV_P (pc := 143) (b := m) (As := []) 10 116 dX10_number_143 lk_X10_isDigit (ml_RX10_116 rfl) im_X10_isDigit se_X10_isDigit (by decide) (c10_o hm) (Nat.le_of_ble_eq_true rfl) rfl (isDigitM_ct hm hT4 ha4 (by omega)) ?_
              refine r_if_eq_b (pc := 146) (tgt := 160) dX10_number_146 (by decide) (fun c146 => ?_) (fun c146 => ?_)
              · skip
                refine r_iconst (pc := 160) (v := 1) dX10_number_160 (by decide) ?_
                refine r_goto (pc := 161) (tgt := 165) dX10_number_161 (by decide) ?_
                refine r_ret_z (pc := 165) dX10_number_165 rfl (by decide) ?_
                exact ⟨_, I4, rfl, rfl, hF4, Or.inr ⟨v, e, cN_k hrr hnb c146, rfl, hn4, ha4, hw4⟩⟩
              · skip
                refine r_aload_n (pc := 149) dX10_number_149 rfl ?_
                refine r_aload_n (pc := 150) dX10_number_150 rfl ?_
                refine r_getIv (pc := 151) 10 3 99 dX10_number_151 (fl_RX10_99 rfl) (by decide) rfl (c10_o hm) (v := nI e) (ha4) ?_
                refine r_callV_M (pc := 154) (b := m) (As := [.int (nI e)]) 10 109 dX10_number_154 lk_X10_fails (ml_RX10_109 rfl) im_X10_fails se_X10_fails (by decide) (c10_o hm) (Nat.le_of_ble_eq_true rfl) rfl (fails_ct hm hw4) (fun v154 I9 hr9 => ?_)
                obtain ⟨rfl, rfl⟩ := hr9
                refine r_if_eq_n (pc := 157) (a := 0) (tgt := 164) dX10_number_157 (by decide) (by omega) (fun c157 => ?_) (fun c157 => ?_)
                · skip
                  refine r_iconst (pc := 164) (v := 0) dX10_number_164 (by decide) ?_
                  refine r_ret_z (pc := 165) dX10_number_165 rfl (by decide) ?_
                  exact ⟨_, _, rfl, rfl, hF4.u (by omega), Or.inl ⟨e, cN_d hrr hnb c146, rfl, up2_at, by omega⟩⟩
                · exfalso; exact c157 rfl
            · skip
              have hbs : (fun v => (s v).isSome) v = true := by show (s v).isSome = true; cases hz : s v with | none => rw [hz] at c128; exact absurd rfl c128 | some f => rfl
              have hrl : cN T lo hi (fun v => (s v).isSome) a = .inl (e - 1) := cN_b hrr hbs
              refine r_aload_n (pc := 131) dX10_number_131 rfl ?_
              refine r_aload_n (pc := 132) dX10_number_132 rfl ?_
              refine r_getIv (pc := 133) 10 3 99 dX10_number_133 (fl_RX10_99 rfl) (by decide) rfl (c10_o hm) (v := nI e) (ha4) ?_
              refine r_iconst (pc := 136) (v := 1) dX10_number_136 (by decide) ?_
              refine r_isub_n (pc := 137) (a := e) (b := 1) dX10_number_137 (by omega) ?_
              refine r_callV_M (pc := 138) (b := m) (As := [.int (nI (e - 1))]) 10 109 dX10_number_138 lk_X10_fails (ml_RX10_109 rfl) im_X10_fails se_X10_fails (by decide) (c10_o hm) (Nat.le_of_ble_eq_true rfl) rfl (fails_ct hm hw4) (fun v138 I9 hr9 => ?_)
              obtain ⟨rfl, rfl⟩ := hr9
              refine r_ret_z (pc := 141) dX10_number_141 rfl (by decide) ?_
              exact ⟨_, _, rfl, rfl, hF4.u (by omega), Or.inl ⟨e - 1, hrl, rfl, up2_at, by omega⟩⟩
      refine r_aload_n (pc := 60) dX10_number_60 rfl ?_
      refine r_callV_P (pc := 61) (b := m) (As := []) 10 116 dX10_number_61 lk_X10_isDigit (ml_RX10_116 rfl) im_X10_isDigit se_X10_isDigit (by decide) (c10_o hm) (Nat.le_of_ble_eq_true rfl) rfl (isDigitM_ct hm hT2 ha2 (by omega)) ?_
      refine r_if_eq_b (pc := 64) (tgt := 96) dX10_number_64 (by decide) (fun c64 => ?_) (fun c64 => ?_)
      · skip
        exact k96 (T.2 p - 48) (p + 1) I2 (by first | (unfold nv; rw [if_neg c64]; done) | (unfold nv; rw [if_pos c64]; exact Prod.ext (by have := of_decide_eq_true c64; show 10 * (T.2 p - 48) + (T.2 (p + 1) - 48) = 10 * (T.2 p - 48) + T.2 (p + 1) - 48; omega) rfl)) (by first | omega | (have := of_decide_eq_true c64; omega)) (by first | exact ha2 | exact up2_at) (by first | exact hn2 | exact (up2_rd (by omega)).trans up2_at) (by first | exact hw2 | exact (up2_rd (by omega)).trans ((up2_rd (by omega)).trans hw2)) (by first | exact hF2 | exact (hF2.u (by omega)).u (by omega))
      · skip
        have hdq := of_decide_eq_true c64
        have hb2 := hb (p + 1)
        refine r_aload_n (pc := 67) dX10_number_67 rfl ?_
        refine r_bipush (pc := 68) (v := 10) dX10_number_68 (by decide) ?_
        refine r_aload_n (pc := 70) dX10_number_70 rfl ?_
        refine r_getIv (pc := 71) 10 5 120 dX10_number_71 (fl_RX10_120 rfl) (by decide) rfl (c10_o hm) (v := nI (T.2 p - 48)) (hn2) ?_
        refine r_imul_n (pc := 74) (a := 10) (b := T.2 p - 48) dX10_number_74 ?_
        refine r_aload_n (pc := 75) dX10_number_75 rfl ?_
        refine r_callV_P (pc := 76) (b := m) (As := []) 10 102 dX10_number_76 lk_X10_here (ml_RX10_102 rfl) im_X10_here se_X10_here (by decide) (c10_o hm) (Nat.le_of_ble_eq_true rfl) rfl (here_n hm hT2 ha2 (by omega)) ?_
        refine r_iadd_n (pc := 79) (a := 10 * (T.2 p - 48)) (b := T.2 (p + 1)) dX10_number_79 ?_
        refine r_bipush (pc := 80) (v := 48) dX10_number_80 (by decide) ?_
        refine r_isub_n (pc := 82) (a := (10 * (T.2 p - 48)) + (T.2 (p + 1))) (b := 48) dX10_number_82 (by omega) ?_
        refine r_putI (pc := 83) (v := nI (((10 * (T.2 p - 48)) + (T.2 (p + 1))) - 48)) 10 5 120 dX10_number_83 (fl_RX10_120 rfl) (by decide) rfl rfl (c10_o hm) ?_
        refine r_aload_n (pc := 86) dX10_number_86 rfl ?_
        refine r_dup (pc := 87) dX10_number_87 rfl ?_
        refine r_getIv (pc := 88) 10 3 99 dX10_number_88 (fl_RX10_99 rfl) (by decide) rfl (c10_o hm) (v := nI (p + 1)) ((up2_rd (by omega)).trans (ha2)) ?_
        refine r_iconst (pc := 91) (v := 1) dX10_number_91 (by decide) ?_
        refine r_iadd_n (pc := 92) (a := (p + 1)) (b := 1) dX10_number_92 ?_
        refine r_putI (pc := 93) (v := nI ((p + 1) + 1)) 10 3 99 dX10_number_93 (fl_RX10_99 rfl) (by decide) rfl rfl (c10_o hm) ?_
        exact k96 (10 * (T.2 p - 48) + T.2 (p + 1) - 48) (p + 2) (up2 (up2 I2 m 5 (nI (((10 * (T.2 p - 48)) + (T.2 (p + 1))) - 48))) m 3 (nI ((p + 1) + 1))) (by first | (unfold nv; rw [if_neg c64]; done) | (unfold nv; rw [if_pos c64]; exact Prod.ext (by have := of_decide_eq_true c64; show 10 * (T.2 p - 48) + (T.2 (p + 1) - 48) = 10 * (T.2 p - 48) + T.2 (p + 1) - 48; omega) rfl)) (by first | omega | (have := of_decide_eq_true c64; omega)) (by first | exact ha2 | exact up2_at) (by first | exact hn2 | exact (up2_rd (by omega)).trans up2_at) (by first | exact hw2 | exact (up2_rd (by omega)).trans ((up2_rd (by omega)).trans hw2)) (by first | exact hF2 | exact (hF2.u (by omega)).u (by omega))
    · skip
      refine r_aload_n (pc := 30) dX10_number_30 rfl ?_
      refine r_aload_n (pc := 31) dX10_number_31 rfl ?_
      refine r_getIv (pc := 32) 10 3 99 dX10_number_32 (fl_RX10_99 rfl) (by decide) rfl (c10_o hm) (v := nI p) (ha1) ?_
      refine r_callV_M (pc := 35) (b := m) (As := [.int (nI p)]) 10 109 dX10_number_35 lk_X10_fails (ml_RX10_109 rfl) im_X10_fails se_X10_fails (by decide) (c10_o hm) (Nat.le_of_ble_eq_true rfl) rfl (fails_ct hm hw1) (fun v35 I9 hr9 => ?_)
      obtain ⟨rfl, rfl⟩ := hr9
      refine r_ret_z (pc := 38) dX10_number_38 rfl (by decide) ?_
      refine ⟨_, _, rfl, rfl, hF1.u (by omega), Or.inl ⟨p, cN_l ?_, rfl, up2_at, by omega⟩⟩
      unfold rN
      rw [if_neg (fun z => z.2 h32.2), ← hp, if_neg c27]
  · skip
    have h32 : ¬ (a < T.1 ∧ T.2 a = 32) := fun z => c6 ((hr_eq hb (n := 32) (by omega) rfl).mpr z)
    refine r_aload_n (pc := 9) dX10_number_9 rfl ?_
    refine r_aload_n (pc := 10) dX10_number_10 rfl ?_
    refine r_getIv (pc := 11) 10 3 99 dX10_number_11 (fl_RX10_99 rfl) (by decide) rfl (c10_o hm) (v := nI a) (ha) ?_
    refine r_callV_M (pc := 14) (b := m) (As := [.int (nI a)]) 10 109 dX10_number_14 lk_X10_fails (ml_RX10_109 rfl) im_X10_fails se_X10_fails (by decide) (c10_o hm) (Nat.le_of_ble_eq_true rfl) rfl (fails_ct hm hw) (fun v14 I9 hr9 => ?_)
    obtain ⟨rfl, rfl⟩ := hr9
    refine r_ret_z (pc := 17) dX10_number_17 rfl (by decide) ?_
    exact ⟨_, _, rfl, rfl, FrN.rf.u (by omega), Or.inl ⟨a, cN_l (rN_nb h32), rfl, up2_at, by omega⟩⟩
