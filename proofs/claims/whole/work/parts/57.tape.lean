/-! ===== the tape and what is read from it: the class ===== -/
def TpC (I : Im) (ta : Nat) (T : Tp) : Prop := I ta 1 = nI T.1 ∧ T.1 ≤ 300 ∧ (∀ i, i < T.1 → I (ta + 1) i = nI (T.2 i)) ∧ ∀ i, T.2 i ≤ 255
def FrT (I I2 : Im) (ta : Nat) : Prop := ∀ c k, ¬ (c = ta ∧ (k = 2 ∨ k = 3)) → I2 c k = I c k
theorem TpC.keep {I I2 : Im} {ta : Nat} {T : Tp} (h : TpC I ta T) (hf : FrT I I2 ta) : TpC I2 ta T := ⟨(hf _ _ (by omega)).trans h.1, h.2.1, fun i hi => (hf _ _ (by omega)).trans (h.2.2.1 i hi), h.2.2.2⟩
theorem FrT.rf {I : Im} {ta : Nat} : FrT I I ta := fun _ _ _ => rfl
theorem FrT.tr {I I2 I3 : Im} {ta : Nat} (h : FrT I I2 ta) (h2 : FrT I2 I3 ta) : FrT I I3 ta := fun c k z => (h2 c k z).trans (h c k z)
theorem FrT.u2 {I I2 : Im} {ta : Nat} {v : Int32} (h : FrT I I2 ta) : FrT I (up2 I2 ta 2 v) ta := fun c k z => (up2_rd (by omega)).trans (h c k z)
theorem FrT.u3 {I I2 : Im} {ta : Nat} {v : Int32} (h : FrT I I2 ta) : FrT I (up2 I2 ta 3 v) ta := fun c k z => (up2_rd (by omega)).trans (h c k z)

set_option maxRecDepth 100000 in
theorem isDigit_ct {d : Nat} {I : Im} {G : Gm} {ta : Nat} {T : Tp} (h6 : isC6 G ta) (hT : TpC I ta T) {a : Nat} (ha : I ta 2 = nI a) (hal : a ≤ T.1) : Ct (d + 1) 0 0 YX6_isDigit [.ref ta] (I, G) (qP (bz (dgB T a = true)) (I, G)) := by
  refine Ct.of (by decide) (by simp [Value.category]) (Nat.le_of_ble_eq_true rfl) ?_
  have hl3 := hT.2.1
  show wp _ _ _ _ 0 [some (.ref ta)] [] _ _
  refine r_aload_n (pc := 0) dX6_isDigit_0 rfl ?_
  refine r_getIv (pc := 1) 6 2 19 dX6_isDigit_1 (fl_RX6_19 rfl) (by decide) rfl (c6_o h6) (v := nI a) (ha) ?_
  refine r_aload_n (pc := 4) dX6_isDigit_4 rfl ?_
  refine r_getIv (pc := 5) 6 1 15 dX6_isDigit_5 (fl_RX6_15 rfl) (by decide) rfl (c6_o h6) (v := nI T.1) (hT.1) ?_
  refine r_icmp_ge_n (pc := 8) (a := a) (b := T.1) (tgt := 43) dX6_isDigit_8 (by decide) (by have := hT.2.2.2 a; omega) (by have := hT.2.2.2 a; omega) (fun c8 => ?_) (fun c8 => ?_)
  · skip
    refine r_iconst (pc := 43) (v := 0) dX6_isDigit_43 (by decide) ?_
    refine r_ret_z (pc := 44) dX6_isDigit_44 rfl (by decide) ?_
    exact ⟨congrArg (fun z => some (Value.int z)) (by first | exact bz_t (decide_eq_true (by omega)) | exact bz_f (fun z => by have := of_decide_eq_true z; omega)), rfl⟩
  · skip
    refine r_aload_n (pc := 11) dX6_isDigit_11 rfl ?_
    refine r_get1 (pc := 12) 6 0 9 dX6_isDigit_12 (fl_RX6_9 rfl) (by decide) rfl (c6_o h6) (c6_p0 h6) ?_
    refine r_aload_n (pc := 15) dX6_isDigit_15 rfl ?_
    refine r_getIv (pc := 16) 6 2 19 dX6_isDigit_16 (fl_RX6_19 rfl) (by decide) rfl (c6_o h6) (v := nI a) (ha) ?_
    refine r_iald_n (pc := 19) (i := a) dX6_isDigit_19 (c6_a0 h6) (by decide) (by omega) (v := nI (T.2 a)) (hT.2.2.1 _ (by omega)) ?_
    refine r_bipush (pc := 20) (v := 48) dX6_isDigit_20 (by decide) ?_
    refine r_icmp_lt_n (pc := 22) (a := T.2 a) (b := 48) (tgt := 43) dX6_isDigit_22 (by decide) (by have := hT.2.2.2 a; omega) (by have := hT.2.2.2 a; omega) (fun c22 => ?_) (fun c22 => ?_)
    · skip
      refine r_iconst (pc := 43) (v := 0) dX6_isDigit_43 (by decide) ?_
      refine r_ret_z (pc := 44) dX6_isDigit_44 rfl (by decide) ?_
      exact ⟨congrArg (fun z => some (Value.int z)) (by first | exact bz_t (decide_eq_true (by omega)) | exact bz_f (fun z => by have := of_decide_eq_true z; omega)), rfl⟩
    · skip
      refine r_aload_n (pc := 25) dX6_isDigit_25 rfl ?_
      refine r_get1 (pc := 26) 6 0 9 dX6_isDigit_26 (fl_RX6_9 rfl) (by decide) rfl (c6_o h6) (c6_p0 h6) ?_
      refine r_aload_n (pc := 29) dX6_isDigit_29 rfl ?_
      refine r_getIv (pc := 30) 6 2 19 dX6_isDigit_30 (fl_RX6_19 rfl) (by decide) rfl (c6_o h6) (v := nI a) (ha) ?_
      refine r_iald_n (pc := 33) (i := a) dX6_isDigit_33 (c6_a0 h6) (by decide) (by omega) (v := nI (T.2 a)) (hT.2.2.1 _ (by omega)) ?_
      refine r_bipush (pc := 34) (v := 57) dX6_isDigit_34 (by decide) ?_
      refine r_icmp_gt_n (pc := 36) (a := T.2 a) (b := 57) (tgt := 43) dX6_isDigit_36 (by decide) (by have := hT.2.2.2 a; omega) (by have := hT.2.2.2 a; omega) (fun c36 => ?_) (fun c36 => ?_)
      · skip
        refine r_iconst (pc := 43) (v := 0) dX6_isDigit_43 (by decide) ?_
        refine r_ret_z (pc := 44) dX6_isDigit_44 rfl (by decide) ?_
        exact ⟨congrArg (fun z => some (Value.int z)) (by first | exact bz_t (decide_eq_true (by omega)) | exact bz_f (fun z => by have := of_decide_eq_true z; omega)), rfl⟩
      · skip
        refine r_iconst (pc := 39) (v := 1) dX6_isDigit_39 (by decide) ?_
        refine r_goto (pc := 40) (tgt := 44) dX6_isDigit_40 (by decide) ?_
        refine r_ret_z (pc := 44) dX6_isDigit_44 rfl (by decide) ?_
        exact ⟨congrArg (fun z => some (Value.int z)) (by first | exact bz_t (decide_eq_true (by omega)) | exact bz_f (fun z => by have := of_decide_eq_true z; omega)), rfl⟩

set_option maxRecDepth 100000 in
theorem skipBlanks_ct {d : Nat} {I : Im} {G : Gm} {ta : Nat} {T : Tp} (h6 : isC6 G ta) (hT : TpC I ta T) {a : Nat} (ha : I ta 2 = nI a) (hal : a ≤ T.1) : Ct (d + 1) 0 0 YX6_skipBlanks [.ref ta] (I, G) (qV G (fun I2 => I2 ta 2 = nI (sk T a) ∧ ∀ c k, ¬ (c = ta ∧ k = 2) → I2 c k = I c k)) := by
  refine Ct.of (by decide) (by simp [Value.category]) (Nat.le_of_ble_eq_true rfl) ?_
  have hl3 := hT.2.1
  show wp _ _ _ _ 0 [some (.ref ta)] [] _ _
  have lp0 : ∀ (n0 : Nat), ∀ (x : Nat) (I1 : Im), T.1 - x = n0 → (x ≤ T.1) → (sk T a = sk T x) → (I1 ta 2 = nI x) → (∀ c k, ¬ (c = ta ∧ k = 2) → I1 c k = I c k) → wp (d + 1) 0 0 YX6_skipBlanks 0 [some (.ref ta)] [] (I1, G) (qV G (fun I2 => I2 ta 2 = nI (sk T a) ∧ ∀ c k, ¬ (c = ta ∧ k = 2) → I2 c k = I c k)) := by
    intro n0
    induction n0 using Nat.strongRecOn with
    | ind n0 ih0 =>
      intro x I1 hmu0 hx hsk ha1 hfr
      have hT1 : TpC I1 ta T := hT.keep (fun c k z => hfr c k (by omega))
      refine r_aload_n (pc := 0) dX6_skipBlanks_0 rfl ?_
      refine r_getIv (pc := 1) 6 2 19 dX6_skipBlanks_1 (fl_RX6_19 rfl) (by decide) rfl (c6_o h6) (v := nI x) (ha1) ?_
      refine r_aload_n (pc := 4) dX6_skipBlanks_4 rfl ?_
      refine r_getIv (pc := 5) 6 1 15 dX6_skipBlanks_5 (fl_RX6_15 rfl) (by decide) rfl (c6_o h6) (v := nI T.1) (hT1.1) ?_
      refine r_icmp_ge_n (pc := 8) (a := x) (b := T.1) (tgt := 38) dX6_skipBlanks_8 (by decide) (by have := hT.2.2.2 x; omega) (by have := hT.2.2.2 x; omega) (fun c8 => ?_) (fun c8 => ?_)
      · skip
        refine r_ret_v (pc := 38) dX6_skipBlanks_38 rfl ?_
        exact ⟨rfl, I1, rfl, by rw [hsk, sk_eq, if_neg (by omega)]; exact ha1, hfr⟩
      · skip
        refine r_aload_n (pc := 11) dX6_skipBlanks_11 rfl ?_
        refine r_get1 (pc := 12) 6 0 9 dX6_skipBlanks_12 (fl_RX6_9 rfl) (by decide) rfl (c6_o h6) (c6_p0 h6) ?_
        refine r_aload_n (pc := 15) dX6_skipBlanks_15 rfl ?_
        refine r_getIv (pc := 16) 6 2 19 dX6_skipBlanks_16 (fl_RX6_19 rfl) (by decide) rfl (c6_o h6) (v := nI x) (ha1) ?_
        refine r_iald_n (pc := 19) (i := x) dX6_skipBlanks_19 (c6_a0 h6) (by decide) (by omega) (v := nI (T.2 x)) (hT1.2.2.1 _ (by omega)) ?_
        refine r_bipush (pc := 20) (v := 32) dX6_skipBlanks_20 (by decide) ?_
        refine r_icmp_ne_n (pc := 22) (a := T.2 x) (b := 32) (tgt := 38) dX6_skipBlanks_22 (by decide) (by have := hT.2.2.2 x; omega) (by have := hT.2.2.2 x; omega) (fun c22 => ?_) (fun c22 => ?_)
        · skip
          refine r_ret_v (pc := 38) dX6_skipBlanks_38 rfl ?_
          exact ⟨rfl, I1, rfl, by rw [hsk, sk_eq, if_neg (by omega)]; exact ha1, hfr⟩
        · skip
          refine r_aload_n (pc := 25) dX6_skipBlanks_25 rfl ?_
          refine r_dup (pc := 26) dX6_skipBlanks_26 rfl ?_
          refine r_getIv (pc := 27) 6 2 19 dX6_skipBlanks_27 (fl_RX6_19 rfl) (by decide) rfl (c6_o h6) (v := nI x) (ha1) ?_
          refine r_iconst (pc := 30) (v := 1) dX6_skipBlanks_30 (by decide) ?_
          refine r_iadd_n (pc := 31) (a := x) (b := 1) dX6_skipBlanks_31 ?_
          refine r_putI (pc := 32) (v := nI (x + 1)) 6 2 19 dX6_skipBlanks_32 (fl_RX6_19 rfl) (by decide) rfl rfl (c6_o h6) ?_
          refine r_goto (pc := 35) (tgt := 0) dX6_skipBlanks_35 (by decide) ?_
          exact ih0 _ (by omega) (x + 1) (up2 I1 ta 2 (nI (x + 1))) rfl (by omega) (by rw [hsk, sk_eq, if_pos ⟨by omega, c22⟩]) (by exact up2_at) (by exact fun c k z => (up2_rd (by omega)).trans (hfr c k z))
  exact lp0 _ a I rfl (by omega) (by rfl) ha (by exact fun _ _ _ => rfl)

set_option maxRecDepth 100000 in
theorem readNumber_ct {d : Nat} {I : Im} {G : Gm} {ta : Nat} {T : Tp} (h6 : isC6 G ta) (hT : TpC I ta T) {a : Nat} (ha : I ta 2 = nI a) (hal : a ≤ T.1) {wr : Option Nat} (hw : I ta 3 = sI wr) (hwf : ∀ f, wr = some f → f ≤ 300) {lo hi : Nat} (hlo : lo ≤ 1000) (hhi : hi ≤ 1000) : Ct (d + 2) 0 0 YX6_readNumber [.ref ta, .int (nI lo), .int (nI hi)] (I, G) (qM G (fun v I2 => ∃ (x a2 : Nat) (wr2 : Option Nat), v = nI x ∧ x ≤ 99 ∧ a2 ≤ T.1 ∧ I2 ta 2 = nI a2 ∧ I2 ta 3 = sI wr2 ∧ FrT I I2 ta ∧ (wr = none → rN T lo hi a = rw0 wr2 x a2) ∧ (∀ f, wr = some f → wr2 = some f) ∧ (∀ f, wr2 = some f → f ≤ 300))) := by
  refine Ct.of (by decide) (by simp [Value.category]) (Nat.le_of_ble_eq_true rfl) ?_
  have hl3 := hT.2.1
  show wp _ _ _ _ 0 [some (.ref ta), some (.int (nI lo)), some (.int (nI hi)), none] [] _ _
  refine r_aload_n (pc := 0) dX6_readNumber_0 rfl ?_
  refine r_getIv (pc := 1) 6 3 22 dX6_readNumber_1 (fl_RX6_22 rfl) (by decide) rfl (c6_o h6) (v := sI wr) (hw) ?_
  refine r_iconst (pc := 4) (v := -1) dX6_readNumber_4 (by decide) ?_
  refine r_icmp_eq (pc := 5) (x := sI wr) (z := (-1)) (tgt := 10) dX6_readNumber_5 (by decide) (fun c5 => ?_) (fun c5 => ?_)
  · skip
    have hwn : wr = none := (sI_m1 (fun c hc => by have := hwf c hc; omega)).mp c5
    refine r_aload_n (pc := 10) dX6_readNumber_10 rfl ?_
    refine r_getIv (pc := 11) 6 2 19 dX6_readNumber_11 (fl_RX6_19 rfl) (by decide) rfl (c6_o h6) (v := nI a) (ha) ?_
    refine r_aload_n (pc := 14) dX6_readNumber_14 rfl ?_
    refine r_getIv (pc := 15) 6 1 15 dX6_readNumber_15 (fl_RX6_15 rfl) (by decide) rfl (c6_o h6) (v := nI T.1) (hT.1) ?_
    refine r_icmp_ge_n (pc := 18) (a := a) (b := T.1) (tgt := 45) dX6_readNumber_18 (by decide) (by first | omega | (have := hT.2.2.2 a; omega)) (by first | omega | (have := hT.2.2.2 a; omega)) (fun c18 => ?_) (fun c18 => ?_)
    · skip
      refine r_aload_n (pc := 45) dX6_readNumber_45 rfl ?_
      refine r_callV_V (pc := 46) (b := ta) (As := []) 6 34 dX6_readNumber_46 lk_X6_skipBlanks (ml_RX6_34 rfl) im_X6_skipBlanks se_X6_skipBlanks (by decide) (c6_o h6) (Nat.le_of_ble_eq_true rfl) rfl (skipBlanks_ct h6 hT ha hal) (fun I1 hI1 => ?_)
      obtain ⟨p, hp⟩ : ∃ z, z = sk T a := ⟨_, rfl⟩
      have hps := sk_is hal
      rw [← hp] at hps hI1
      have ha1 := hI1.1
      have hF1 : FrT I I1 ta := fun c k z => hI1.2 c k (by omega)
      have hT1 := hT.keep hF1
      have hw1 : I1 ta 3 = sI wr := (hI1.2 _ _ (by omega)).trans hw
      refine r_aload_n (pc := 49) dX6_readNumber_49 rfl ?_
      refine r_callV_P (pc := 50) (b := ta) (As := []) 6 77 dX6_readNumber_50 lk_X6_isDigit (ml_RX6_77 rfl) im_X6_isDigit se_X6_isDigit (by decide) (c6_o h6) (Nat.le_of_ble_eq_true rfl) rfl (isDigit_ct h6 hT1 ha1 (by omega)) ?_
      refine r_if_ne_b (pc := 53) (tgt := 66) dX6_readNumber_53 (by decide) (fun c53 => ?_) (fun c53 => ?_)
      · skip
        have hdp := of_decide_eq_true c53
        have hb1 := hT.2.2.2 p
        refine r_aload_n (pc := 66) dX6_readNumber_66 rfl ?_
        refine r_get1 (pc := 67) 6 0 9 dX6_readNumber_67 (fl_RX6_9 rfl) (by decide) rfl (c6_o h6) (c6_p0 h6) ?_
        refine r_aload_n (pc := 70) dX6_readNumber_70 rfl ?_
        refine r_getIv (pc := 71) 6 2 19 dX6_readNumber_71 (fl_RX6_19 rfl) (by decide) rfl (c6_o h6) (v := nI p) (ha1) ?_
        refine r_iald_n (pc := 74) (i := p) dX6_readNumber_74 (c6_a0 h6) (by decide) (by omega) (v := nI (T.2 p)) (hT1.2.2.1 _ (by omega)) ?_
        refine r_bipush (pc := 75) (v := 48) dX6_readNumber_75 (by decide) ?_
        refine r_isub_n (pc := 77) (a := T.2 p) (b := 48) dX6_readNumber_77 (by omega) ?_
        refine r_istore_n (pc := 78) (L' := [some (.ref ta), some (.int (nI lo)), some (.int (nI hi)), some (.int (nI ((T.2 p) - 48)))]) dX6_readNumber_78 (by decide) rfl rfl ?_
        refine r_aload_n (pc := 79) dX6_readNumber_79 rfl ?_
        refine r_dup (pc := 80) dX6_readNumber_80 rfl ?_
        refine r_getIv (pc := 81) 6 2 19 dX6_readNumber_81 (fl_RX6_19 rfl) (by decide) rfl (c6_o h6) (v := nI p) (ha1) ?_
        refine r_iconst (pc := 84) (v := 1) dX6_readNumber_84 (by decide) ?_
        refine r_iadd_n (pc := 85) (a := p) (b := 1) dX6_readNumber_85 ?_
        refine r_putI (pc := 86) (v := nI (p + 1)) 6 2 19 dX6_readNumber_86 (fl_RX6_19 rfl) (by decide) rfl rfl (c6_o h6) ?_
        obtain ⟨I2, hI2⟩ : ∃ z : Im, z = up2 I1 ta 2 (nI (p + 1)) := ⟨_, rfl⟩
        refine wp_M (M2 := (I2, G)) (by subst hI2; rfl) ?_
        have ha2 : I2 ta 2 = nI (p + 1) := by rw [hI2]; exact up2_at
        have hF2 : FrT I I2 ta := by rw [hI2]; exact hF1.u2
        have hT2 := hT.keep hF2
        have hw2 : I2 ta 3 = sI wr := by rw [hI2, up2_rd (by omega)]; exact hw1
        have k124 : ∀ (v : Nat) (e : Nat) (I4 : Im), (nv T p = (v, e)) → (p < e ∧ e ≤ T.1 ∧ v ≤ 99) → (I4 ta 2 = nI e) → (I4 ta 3 = sI wr) → (FrT I I4 ta) → wp (d + 2) 0 0 YX6_readNumber 124 [some (.ref ta), some (.int (nI lo)), some (.int (nI hi)), some (.int (nI v))] [] (I4, G) (qM G (fun v I2 => ∃ (x a2 : Nat) (wr2 : Option Nat), v = nI x ∧ x ≤ 99 ∧ a2 ≤ T.1 ∧ I2 ta 2 = nI a2 ∧ I2 ta 3 = sI wr2 ∧ FrT I I2 ta ∧ (wr = none → rN T lo hi a = rw0 wr2 x a2) ∧ (∀ f, wr = some f → wr2 = some f) ∧ (∀ f, wr2 = some f → f ≤ 300))) := by
          intro v e I4 hve hel ha4 hw4 hF4
          have hT4 := hT.keep hF4
          refine r_iload_n (pc := 124) dX6_readNumber_124 rfl ?_
          refine r_iload_n (pc := 125) dX6_readNumber_125 rfl ?_
          refine r_icmp_lt_n (pc := 126) (a := v) (b := lo) (tgt := 134) dX6_readNumber_126 (by decide) (by first | omega | (have := hT.2.2.2 a; omega)) (by first | omega | (have := hT.2.2.2 a; omega)) (fun c126 => ?_) (fun c126 => ?_)
          · skip
            refine r_aload_n (pc := 134) dX6_readNumber_134 rfl ?_
            refine r_aload_n (pc := 135) dX6_readNumber_135 rfl ?_
            refine r_getIv (pc := 136) 6 2 19 dX6_readNumber_136 (fl_RX6_19 rfl) (by decide) rfl (c6_o h6) (v := nI e) (ha4) ?_
            refine r_iconst (pc := 139) (v := 1) dX6_readNumber_139 (by decide) ?_
            refine r_isub_n (pc := 140) (a := e) (b := 1) dX6_readNumber_140 (by omega) ?_
            refine r_putI (pc := 141) (v := nI (e - 1)) 6 3 22 dX6_readNumber_141 (fl_RX6_22 rfl) (by decide) rfl rfl (c6_o h6) ?_
            refine r_iconst (pc := 144) (v := 0) dX6_readNumber_144 (by decide) ?_
            refine r_ret_i (pc := 145) dX6_readNumber_145 rfl ?_
            refine ⟨_, _, rfl, rfl, 0, e, some (e - 1), rfl, by omega, hel.2.1, (up2_rd (by omega)).trans ha4, up2_at, hF4.u3, fun _ => ?_, fun f z => (by rw [hwn] at z; cases z), fun f z => (by cases z; omega)⟩
            unfold rN
            rw [if_neg (fun z => by first | omega | exact z.2 c32), ← hp, if_pos c53, hve, if_neg (by simp only; omega)]
            rfl
          · skip
            refine r_iload_n (pc := 129) dX6_readNumber_129 rfl ?_
            refine r_iload_n (pc := 130) dX6_readNumber_130 rfl ?_
            refine r_icmp_le_n (pc := 131) (a := v) (b := hi) (tgt := 146) dX6_readNumber_131 (by decide) (by first | omega | (have := hT.2.2.2 a; omega)) (by first | omega | (have := hT.2.2.2 a; omega)) (fun c131 => ?_) (fun c131 => ?_)
            · skip
              refine r_iload_n (pc := 146) dX6_readNumber_146 rfl ?_
              refine r_ret_i (pc := 147) dX6_readNumber_147 rfl ?_
              refine ⟨_, I4, rfl, rfl, v, e, none, rfl, hel.2.2, hel.2.1, ha4, (by rw [hw4, hwn]), hF4, fun _ => ?_, fun f z => (by rw [hwn] at z; cases z), fun f z => (by cases z)⟩
              unfold rN
              rw [if_neg (fun z => by first | omega | exact z.2 c32), ← hp, if_pos c53, hve, if_pos (by simp only; omega)]
              rfl
            · skip
              refine r_aload_n (pc := 134) dX6_readNumber_134 rfl ?_
              refine r_aload_n (pc := 135) dX6_readNumber_135 rfl ?_
              refine r_getIv (pc := 136) 6 2 19 dX6_readNumber_136 (fl_RX6_19 rfl) (by decide) rfl (c6_o h6) (v := nI e) (ha4) ?_
              refine r_iconst (pc := 139) (v := 1) dX6_readNumber_139 (by decide) ?_
              refine r_isub_n (pc := 140) (a := e) (b := 1) dX6_readNumber_140 (by omega) ?_
              refine r_putI (pc := 141) (v := nI (e - 1)) 6 3 22 dX6_readNumber_141 (fl_RX6_22 rfl) (by decide) rfl rfl (c6_o h6) ?_
              refine r_iconst (pc := 144) (v := 0) dX6_readNumber_144 (by decide) ?_
              refine r_ret_i (pc := 145) dX6_readNumber_145 rfl ?_
              refine ⟨_, _, rfl, rfl, 0, e, some (e - 1), rfl, by omega, hel.2.1, (up2_rd (by omega)).trans ha4, up2_at, hF4.u3, fun _ => ?_, fun f z => (by rw [hwn] at z; cases z), fun f z => (by cases z; omega)⟩
              unfold rN
              rw [if_neg (fun z => by first | omega | exact z.2 c32), ← hp, if_pos c53, hve, if_neg (by simp only; omega)]
              rfl
        refine r_aload_n (pc := 89) dX6_readNumber_89 rfl ?_
        refine r_callV_P (pc := 90) (b := ta) (As := []) 6 77 dX6_readNumber_90 lk_X6_isDigit (ml_RX6_77 rfl) im_X6_isDigit se_X6_isDigit (by decide) (c6_o h6) (Nat.le_of_ble_eq_true rfl) rfl (isDigit_ct h6 hT2 ha2 (by omega)) ?_
        refine r_if_eq_b (pc := 93) (tgt := 124) dX6_readNumber_93 (by decide) (fun c93 => ?_) (fun c93 => ?_)
        · skip
          exact k124 ((T.2 p) - 48) (p + 1) I2 (by first | (unfold nv; rw [if_neg c93]; done) | (unfold nv; rw [if_pos c93]; exact Prod.ext (by have := of_decide_eq_true c93; show 10 * (T.2 p - 48) + (T.2 (p + 1) - 48) = (T.2 p - 48) * 10 + T.2 (p + 1) - 48; omega) rfl)) (by first | omega | (have := of_decide_eq_true c93; omega)) (by first | exact ha2 | exact up2_at) (by first | exact hw2 | exact (up2_rd (by omega)).trans hw2) (by first | exact hF2 | exact hF2.u2)
        · skip
          have hdq := of_decide_eq_true c93
          have hb2 := hT.2.2.2 (p + 1)
          refine r_iload_n (pc := 96) dX6_readNumber_96 rfl ?_
          refine r_bipush (pc := 97) (v := 10) dX6_readNumber_97 (by decide) ?_
          refine r_imul_n (pc := 99) (a := (T.2 p) - 48) (b := 10) dX6_readNumber_99 ?_
          refine r_aload_n (pc := 100) dX6_readNumber_100 rfl ?_
          refine r_get1 (pc := 101) 6 0 9 dX6_readNumber_101 (fl_RX6_9 rfl) (by decide) rfl (c6_o h6) (c6_p0 h6) ?_
          refine r_aload_n (pc := 104) dX6_readNumber_104 rfl ?_
          refine r_getIv (pc := 105) 6 2 19 dX6_readNumber_105 (fl_RX6_19 rfl) (by decide) rfl (c6_o h6) (v := nI (p + 1)) (ha2) ?_
          refine r_iald_n (pc := 108) (i := (p + 1)) dX6_readNumber_108 (c6_a0 h6) (by decide) (by omega) (v := nI (T.2 (p + 1))) (hT2.2.2.1 _ (by omega)) ?_
          refine r_iadd_n (pc := 109) (a := ((T.2 p) - 48) * 10) (b := T.2 (p + 1)) dX6_readNumber_109 ?_
          refine r_bipush (pc := 110) (v := 48) dX6_readNumber_110 (by decide) ?_
          refine r_isub_n (pc := 112) (a := (((T.2 p) - 48) * 10) + (T.2 (p + 1))) (b := 48) dX6_readNumber_112 (by omega) ?_
          refine r_istore_n (pc := 113) (L' := [some (.ref ta), some (.int (nI lo)), some (.int (nI hi)), some (.int (nI (((((T.2 p) - 48) * 10) + (T.2 (p + 1))) - 48)))]) dX6_readNumber_113 (by decide) rfl rfl ?_
          refine r_aload_n (pc := 114) dX6_readNumber_114 rfl ?_
          refine r_dup (pc := 115) dX6_readNumber_115 rfl ?_
          refine r_getIv (pc := 116) 6 2 19 dX6_readNumber_116 (fl_RX6_19 rfl) (by decide) rfl (c6_o h6) (v := nI (p + 1)) (ha2) ?_
          refine r_iconst (pc := 119) (v := 1) dX6_readNumber_119 (by decide) ?_
          refine r_iadd_n (pc := 120) (a := (p + 1)) (b := 1) dX6_readNumber_120 ?_
          refine r_putI (pc := 121) (v := nI ((p + 1) + 1)) 6 2 19 dX6_readNumber_121 (fl_RX6_19 rfl) (by decide) rfl rfl (c6_o h6) ?_
          exact k124 (((((T.2 p) - 48) * 10) + (T.2 (p + 1))) - 48) (p + 2) (up2 I2 ta 2 (nI ((p + 1) + 1))) (by first | (unfold nv; rw [if_neg c93]; done) | (unfold nv; rw [if_pos c93]; exact Prod.ext (by have := of_decide_eq_true c93; show 10 * (T.2 p - 48) + (T.2 (p + 1) - 48) = (T.2 p - 48) * 10 + T.2 (p + 1) - 48; omega) rfl)) (by first | omega | (have := of_decide_eq_true c93; omega)) (by first | exact ha2 | exact up2_at) (by first | exact hw2 | exact (up2_rd (by omega)).trans hw2) (by first | exact hF2 | exact hF2.u2)
      · skip
        refine r_aload_n (pc := 56) dX6_readNumber_56 rfl ?_
        refine r_aload_n (pc := 57) dX6_readNumber_57 rfl ?_
        refine r_getIv (pc := 58) 6 2 19 dX6_readNumber_58 (fl_RX6_19 rfl) (by decide) rfl (c6_o h6) (v := nI p) (ha1) ?_
        refine r_putI (pc := 61) (v := nI p) 6 3 22 dX6_readNumber_61 (fl_RX6_22 rfl) (by decide) rfl rfl (c6_o h6) ?_
        refine r_iconst (pc := 64) (v := 0) dX6_readNumber_64 (by decide) ?_
        refine r_ret_i (pc := 65) dX6_readNumber_65 rfl ?_
        refine ⟨_, _, rfl, rfl, 0, p, some p, rfl, by omega, hps.2.1, (up2_rd (by omega)).trans ha1, up2_at, hF1.u3, fun _ => ?_, fun f z => (by rw [hwn] at z; cases z), fun f z => (by cases z; omega)⟩
        unfold rN
        rw [if_neg (fun z => by first | omega | exact z.2 c32), ← hp, if_neg c53]
        rfl
    · skip
      refine r_aload_n (pc := 21) dX6_readNumber_21 rfl ?_
      refine r_get1 (pc := 22) 6 0 9 dX6_readNumber_22 (fl_RX6_9 rfl) (by decide) rfl (c6_o h6) (c6_p0 h6) ?_
      refine r_aload_n (pc := 25) dX6_readNumber_25 rfl ?_
      refine r_getIv (pc := 26) 6 2 19 dX6_readNumber_26 (fl_RX6_19 rfl) (by decide) rfl (c6_o h6) (v := nI a) (ha) ?_
      refine r_iald_n (pc := 29) (i := a) dX6_readNumber_29 (c6_a0 h6) (by decide) (by omega) (v := nI (T.2 a)) (hT.2.2.1 _ (by omega)) ?_
      refine r_bipush (pc := 30) (v := 32) dX6_readNumber_30 (by decide) ?_
      refine r_icmp_eq_n (pc := 32) (a := T.2 a) (b := 32) (tgt := 45) dX6_readNumber_32 (by decide) (by first | omega | (have := hT.2.2.2 a; omega)) (by first | omega | (have := hT.2.2.2 a; omega)) (fun c32 => ?_) (fun c32 => ?_)
      · skip
        refine r_aload_n (pc := 45) dX6_readNumber_45 rfl ?_
        refine r_callV_V (pc := 46) (b := ta) (As := []) 6 34 dX6_readNumber_46 lk_X6_skipBlanks (ml_RX6_34 rfl) im_X6_skipBlanks se_X6_skipBlanks (by decide) (c6_o h6) (Nat.le_of_ble_eq_true rfl) rfl (skipBlanks_ct h6 hT ha hal) (fun I1 hI1 => ?_)
        obtain ⟨p, hp⟩ : ∃ z, z = sk T a := ⟨_, rfl⟩
        have hps := sk_is hal
        rw [← hp] at hps hI1
        have ha1 := hI1.1
        have hF1 : FrT I I1 ta := fun c k z => hI1.2 c k (by omega)
        have hT1 := hT.keep hF1
        have hw1 : I1 ta 3 = sI wr := (hI1.2 _ _ (by omega)).trans hw
        refine r_aload_n (pc := 49) dX6_readNumber_49 rfl ?_
        refine r_callV_P (pc := 50) (b := ta) (As := []) 6 77 dX6_readNumber_50 lk_X6_isDigit (ml_RX6_77 rfl) im_X6_isDigit se_X6_isDigit (by decide) (c6_o h6) (Nat.le_of_ble_eq_true rfl) rfl (isDigit_ct h6 hT1 ha1 (by omega)) ?_
        refine r_if_ne_b (pc := 53) (tgt := 66) dX6_readNumber_53 (by decide) (fun c53 => ?_) (fun c53 => ?_)
        · skip
          have hdp := of_decide_eq_true c53
          have hb1 := hT.2.2.2 p
          refine r_aload_n (pc := 66) dX6_readNumber_66 rfl ?_
          refine r_get1 (pc := 67) 6 0 9 dX6_readNumber_67 (fl_RX6_9 rfl) (by decide) rfl (c6_o h6) (c6_p0 h6) ?_
          refine r_aload_n (pc := 70) dX6_readNumber_70 rfl ?_
          refine r_getIv (pc := 71) 6 2 19 dX6_readNumber_71 (fl_RX6_19 rfl) (by decide) rfl (c6_o h6) (v := nI p) (ha1) ?_
          refine r_iald_n (pc := 74) (i := p) dX6_readNumber_74 (c6_a0 h6) (by decide) (by omega) (v := nI (T.2 p)) (hT1.2.2.1 _ (by omega)) ?_
          refine r_bipush (pc := 75) (v := 48) dX6_readNumber_75 (by decide) ?_
          refine r_isub_n (pc := 77) (a := T.2 p) (b := 48) dX6_readNumber_77 (by omega) ?_
          refine r_istore_n (pc := 78) (L' := [some (.ref ta), some (.int (nI lo)), some (.int (nI hi)), some (.int (nI ((T.2 p) - 48)))]) dX6_readNumber_78 (by decide) rfl rfl ?_
          refine r_aload_n (pc := 79) dX6_readNumber_79 rfl ?_
          refine r_dup (pc := 80) dX6_readNumber_80 rfl ?_
          refine r_getIv (pc := 81) 6 2 19 dX6_readNumber_81 (fl_RX6_19 rfl) (by decide) rfl (c6_o h6) (v := nI p) (ha1) ?_
          refine r_iconst (pc := 84) (v := 1) dX6_readNumber_84 (by decide) ?_
          refine r_iadd_n (pc := 85) (a := p) (b := 1) dX6_readNumber_85 ?_
          refine r_putI (pc := 86) (v := nI (p + 1)) 6 2 19 dX6_readNumber_86 (fl_RX6_19 rfl) (by decide) rfl rfl (c6_o h6) ?_
          obtain ⟨I2, hI2⟩ : ∃ z : Im, z = up2 I1 ta 2 (nI (p + 1)) := ⟨_, rfl⟩
          refine wp_M (M2 := (I2, G)) (by subst hI2; rfl) ?_
          have ha2 : I2 ta 2 = nI (p + 1) := by rw [hI2]; exact up2_at
          have hF2 : FrT I I2 ta := by rw [hI2]; exact hF1.u2
          have hT2 := hT.keep hF2
          have hw2 : I2 ta 3 = sI wr := by rw [hI2, up2_rd (by omega)]; exact hw1
          have k124 : ∀ (v : Nat) (e : Nat) (I4 : Im), (nv T p = (v, e)) → (p < e ∧ e ≤ T.1 ∧ v ≤ 99) → (I4 ta 2 = nI e) → (I4 ta 3 = sI wr) → (FrT I I4 ta) → wp (d + 2) 0 0 YX6_readNumber 124 [some (.ref ta), some (.int (nI lo)), some (.int (nI hi)), some (.int (nI v))] [] (I4, G) (qM G (fun v I2 => ∃ (x a2 : Nat) (wr2 : Option Nat), v = nI x ∧ x ≤ 99 ∧ a2 ≤ T.1 ∧ I2 ta 2 = nI a2 ∧ I2 ta 3 = sI wr2 ∧ FrT I I2 ta ∧ (wr = none → rN T lo hi a = rw0 wr2 x a2) ∧ (∀ f, wr = some f → wr2 = some f) ∧ (∀ f, wr2 = some f → f ≤ 300))) := by
            intro v e I4 hve hel ha4 hw4 hF4
            have hT4 := hT.keep hF4
            refine r_iload_n (pc := 124) dX6_readNumber_124 rfl ?_
            refine r_iload_n (pc := 125) dX6_readNumber_125 rfl ?_
            refine r_icmp_lt_n (pc := 126) (a := v) (b := lo) (tgt := 134) dX6_readNumber_126 (by decide) (by first | omega | (have := hT.2.2.2 a; omega)) (by first | omega | (have := hT.2.2.2 a; omega)) (fun c126 => ?_) (fun c126 => ?_)
            · skip
              refine r_aload_n (pc := 134) dX6_readNumber_134 rfl ?_
              refine r_aload_n (pc := 135) dX6_readNumber_135 rfl ?_
              refine r_getIv (pc := 136) 6 2 19 dX6_readNumber_136 (fl_RX6_19 rfl) (by decide) rfl (c6_o h6) (v := nI e) (ha4) ?_
              refine r_iconst (pc := 139) (v := 1) dX6_readNumber_139 (by decide) ?_
              refine r_isub_n (pc := 140) (a := e) (b := 1) dX6_readNumber_140 (by omega) ?_
              refine r_putI (pc := 141) (v := nI (e - 1)) 6 3 22 dX6_readNumber_141 (fl_RX6_22 rfl) (by decide) rfl rfl (c6_o h6) ?_
              refine r_iconst (pc := 144) (v := 0) dX6_readNumber_144 (by decide) ?_
              refine r_ret_i (pc := 145) dX6_readNumber_145 rfl ?_
              refine ⟨_, _, rfl, rfl, 0, e, some (e - 1), rfl, by omega, hel.2.1, (up2_rd (by omega)).trans ha4, up2_at, hF4.u3, fun _ => ?_, fun f z => (by rw [hwn] at z; cases z), fun f z => (by cases z; omega)⟩
              unfold rN
              rw [if_neg (fun z => by first | omega | exact z.2 c32), ← hp, if_pos c53, hve, if_neg (by simp only; omega)]
              rfl
            · skip
              refine r_iload_n (pc := 129) dX6_readNumber_129 rfl ?_
              refine r_iload_n (pc := 130) dX6_readNumber_130 rfl ?_
              refine r_icmp_le_n (pc := 131) (a := v) (b := hi) (tgt := 146) dX6_readNumber_131 (by decide) (by first | omega | (have := hT.2.2.2 a; omega)) (by first | omega | (have := hT.2.2.2 a; omega)) (fun c131 => ?_) (fun c131 => ?_)
              · skip
                refine r_iload_n (pc := 146) dX6_readNumber_146 rfl ?_
                refine r_ret_i (pc := 147) dX6_readNumber_147 rfl ?_
                refine ⟨_, I4, rfl, rfl, v, e, none, rfl, hel.2.2, hel.2.1, ha4, (by rw [hw4, hwn]), hF4, fun _ => ?_, fun f z => (by rw [hwn] at z; cases z), fun f z => (by cases z)⟩
                unfold rN
                rw [if_neg (fun z => by first | omega | exact z.2 c32), ← hp, if_pos c53, hve, if_pos (by simp only; omega)]
                rfl
              · skip
                refine r_aload_n (pc := 134) dX6_readNumber_134 rfl ?_
                refine r_aload_n (pc := 135) dX6_readNumber_135 rfl ?_
                refine r_getIv (pc := 136) 6 2 19 dX6_readNumber_136 (fl_RX6_19 rfl) (by decide) rfl (c6_o h6) (v := nI e) (ha4) ?_
                refine r_iconst (pc := 139) (v := 1) dX6_readNumber_139 (by decide) ?_
                refine r_isub_n (pc := 140) (a := e) (b := 1) dX6_readNumber_140 (by omega) ?_
                refine r_putI (pc := 141) (v := nI (e - 1)) 6 3 22 dX6_readNumber_141 (fl_RX6_22 rfl) (by decide) rfl rfl (c6_o h6) ?_
                refine r_iconst (pc := 144) (v := 0) dX6_readNumber_144 (by decide) ?_
                refine r_ret_i (pc := 145) dX6_readNumber_145 rfl ?_
                refine ⟨_, _, rfl, rfl, 0, e, some (e - 1), rfl, by omega, hel.2.1, (up2_rd (by omega)).trans ha4, up2_at, hF4.u3, fun _ => ?_, fun f z => (by rw [hwn] at z; cases z), fun f z => (by cases z; omega)⟩
                unfold rN
                rw [if_neg (fun z => by first | omega | exact z.2 c32), ← hp, if_pos c53, hve, if_neg (by simp only; omega)]
                rfl
          refine r_aload_n (pc := 89) dX6_readNumber_89 rfl ?_
          refine r_callV_P (pc := 90) (b := ta) (As := []) 6 77 dX6_readNumber_90 lk_X6_isDigit (ml_RX6_77 rfl) im_X6_isDigit se_X6_isDigit (by decide) (c6_o h6) (Nat.le_of_ble_eq_true rfl) rfl (isDigit_ct h6 hT2 ha2 (by omega)) ?_
          refine r_if_eq_b (pc := 93) (tgt := 124) dX6_readNumber_93 (by decide) (fun c93 => ?_) (fun c93 => ?_)
          · skip
            exact k124 ((T.2 p) - 48) (p + 1) I2 (by first | (unfold nv; rw [if_neg c93]; done) | (unfold nv; rw [if_pos c93]; exact Prod.ext (by have := of_decide_eq_true c93; show 10 * (T.2 p - 48) + (T.2 (p + 1) - 48) = (T.2 p - 48) * 10 + T.2 (p + 1) - 48; omega) rfl)) (by first | omega | (have := of_decide_eq_true c93; omega)) (by first | exact ha2 | exact up2_at) (by first | exact hw2 | exact (up2_rd (by omega)).trans hw2) (by first | exact hF2 | exact hF2.u2)
          · skip
            have hdq := of_decide_eq_true c93
            have hb2 := hT.2.2.2 (p + 1)
            refine r_iload_n (pc := 96) dX6_readNumber_96 rfl ?_
            refine r_bipush (pc := 97) (v := 10) dX6_readNumber_97 (by decide) ?_
            refine r_imul_n (pc := 99) (a := (T.2 p) - 48) (b := 10) dX6_readNumber_99 ?_
            refine r_aload_n (pc := 100) dX6_readNumber_100 rfl ?_
            refine r_get1 (pc := 101) 6 0 9 dX6_readNumber_101 (fl_RX6_9 rfl) (by decide) rfl (c6_o h6) (c6_p0 h6) ?_
            refine r_aload_n (pc := 104) dX6_readNumber_104 rfl ?_
            refine r_getIv (pc := 105) 6 2 19 dX6_readNumber_105 (fl_RX6_19 rfl) (by decide) rfl (c6_o h6) (v := nI (p + 1)) (ha2) ?_
            refine r_iald_n (pc := 108) (i := (p + 1)) dX6_readNumber_108 (c6_a0 h6) (by decide) (by omega) (v := nI (T.2 (p + 1))) (hT2.2.2.1 _ (by omega)) ?_
            refine r_iadd_n (pc := 109) (a := ((T.2 p) - 48) * 10) (b := T.2 (p + 1)) dX6_readNumber_109 ?_
            refine r_bipush (pc := 110) (v := 48) dX6_readNumber_110 (by decide) ?_
            refine r_isub_n (pc := 112) (a := (((T.2 p) - 48) * 10) + (T.2 (p + 1))) (b := 48) dX6_readNumber_112 (by omega) ?_
            refine r_istore_n (pc := 113) (L' := [some (.ref ta), some (.int (nI lo)), some (.int (nI hi)), some (.int (nI (((((T.2 p) - 48) * 10) + (T.2 (p + 1))) - 48)))]) dX6_readNumber_113 (by decide) rfl rfl ?_
            refine r_aload_n (pc := 114) dX6_readNumber_114 rfl ?_
            refine r_dup (pc := 115) dX6_readNumber_115 rfl ?_
            refine r_getIv (pc := 116) 6 2 19 dX6_readNumber_116 (fl_RX6_19 rfl) (by decide) rfl (c6_o h6) (v := nI (p + 1)) (ha2) ?_
            refine r_iconst (pc := 119) (v := 1) dX6_readNumber_119 (by decide) ?_
            refine r_iadd_n (pc := 120) (a := (p + 1)) (b := 1) dX6_readNumber_120 ?_
            refine r_putI (pc := 121) (v := nI ((p + 1) + 1)) 6 2 19 dX6_readNumber_121 (fl_RX6_19 rfl) (by decide) rfl rfl (c6_o h6) ?_
            exact k124 (((((T.2 p) - 48) * 10) + (T.2 (p + 1))) - 48) (p + 2) (up2 I2 ta 2 (nI ((p + 1) + 1))) (by first | (unfold nv; rw [if_neg c93]; done) | (unfold nv; rw [if_pos c93]; exact Prod.ext (by have := of_decide_eq_true c93; show 10 * (T.2 p - 48) + (T.2 (p + 1) - 48) = (T.2 p - 48) * 10 + T.2 (p + 1) - 48; omega) rfl)) (by first | omega | (have := of_decide_eq_true c93; omega)) (by first | exact ha2 | exact up2_at) (by first | exact hw2 | exact (up2_rd (by omega)).trans hw2) (by first | exact hF2 | exact hF2.u2)
        · skip
          refine r_aload_n (pc := 56) dX6_readNumber_56 rfl ?_
          refine r_aload_n (pc := 57) dX6_readNumber_57 rfl ?_
          refine r_getIv (pc := 58) 6 2 19 dX6_readNumber_58 (fl_RX6_19 rfl) (by decide) rfl (c6_o h6) (v := nI p) (ha1) ?_
          refine r_putI (pc := 61) (v := nI p) 6 3 22 dX6_readNumber_61 (fl_RX6_22 rfl) (by decide) rfl rfl (c6_o h6) ?_
          refine r_iconst (pc := 64) (v := 0) dX6_readNumber_64 (by decide) ?_
          refine r_ret_i (pc := 65) dX6_readNumber_65 rfl ?_
          refine ⟨_, _, rfl, rfl, 0, p, some p, rfl, by omega, hps.2.1, (up2_rd (by omega)).trans ha1, up2_at, hF1.u3, fun _ => ?_, fun f z => (by rw [hwn] at z; cases z), fun f z => (by cases z; omega)⟩
          unfold rN
          rw [if_neg (fun z => by first | omega | exact z.2 c32), ← hp, if_neg c53]
          rfl
      · skip
        refine r_aload_n (pc := 35) dX6_readNumber_35 rfl ?_
        refine r_aload_n (pc := 36) dX6_readNumber_36 rfl ?_
        refine r_getIv (pc := 37) 6 2 19 dX6_readNumber_37 (fl_RX6_19 rfl) (by decide) rfl (c6_o h6) (v := nI a) (ha) ?_
        refine r_putI (pc := 40) (v := nI a) 6 3 22 dX6_readNumber_40 (fl_RX6_22 rfl) (by decide) rfl rfl (c6_o h6) ?_
        refine r_iconst (pc := 43) (v := 0) dX6_readNumber_43 (by decide) ?_
        refine r_ret_i (pc := 44) dX6_readNumber_44 rfl ?_
        refine ⟨_, _, rfl, rfl, 0, a, some a, rfl, by omega, hal, (up2_rd (by omega)).trans ha, up2_at, FrT.rf.u3, fun _ => ?_, fun f z => (by rw [hwn] at z; cases z), fun f z => (by cases z; omega)⟩
        unfold rN
        rw [if_pos ⟨by omega, c32⟩]
        rfl
  · skip
    refine r_iconst (pc := 8) (v := 0) dX6_readNumber_8 (by decide) ?_
    refine r_ret_i (pc := 9) dX6_readNumber_9 rfl ?_
    obtain ⟨f, rfl⟩ : ∃ f, wr = some f := (by cases wr with | none => exact absurd rfl c5 | some f => exact ⟨f, rfl⟩)
    exact ⟨_, I, rfl, rfl, 0, a, some f, rfl, by omega, hal, ha, hw, FrT.rf, fun z => (by cases z), fun _ z => z, hwf⟩
