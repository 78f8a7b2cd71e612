/-! ===== whole texts; what is fed: the reference ===== -/
theorem FrP.u {I I2 : Im} {m k c j : Nat} {v : Int32} (h : FrP I I2 m k) (hc : (c = m ∧ (j = 3 ∨ j = 4 ∨ j = 5)) ∨ (c = m + 2 ∧ j = k) ∨ (m + 3 ≤ c ∧ c ≤ m + 5 ∧ 8 * k ≤ j ∧ j < 8 * k + 8) ∨ (c = m + 6 ∧ j = k)) : FrP I (up2 I2 c j v) m k := fun c2 j2 g1 g2 g3 g4 g5 => (up2_rd (by omega)).trans (h c2 j2 g1 g2 g3 g4 g5)
theorem FrP.rf {I : Im} {m k : Nat} : FrP I I m k := fun _ _ _ _ _ _ _ => rfl

def RmQ (T : Tp) (v : Int32) (I2 : Im) (m k : Nat) : Prop := (∃ f, pA T = .inl f ∧ v = 0 ∧ I2 m 4 = nI f ∧ f ≤ 300) ∨ (∃ D, pA T = .inr D ∧ DrOK D ∧ v = 1 ∧ MdC I2 m k D ∧ I2 m 4 = -1)

set_option maxRecDepth 100000 in
theorem readTrade_ct {d : Nat} {I : Im} {G : Gm} {m k : Nat} {T : Tp} (hm : isC10 G m) (hT : TpM I m T) (hk : k ≤ 10) (hcn : I m 20 = nI k) : Ct (d + 6) 0 0 YX10_readTrade [.ref m] (I, G) (qM G (fun v I2 => RmQ T v I2 m k ∧ FrP I I2 m k)) := by
  refine Ct.of (by decide) (by simp [Value.category]) (Nat.le_of_ble_eq_true rfl) ?_
  have hl3 := hT.2.1
  have hb := hT.2.2.2
  show wp _ _ _ _ 0 [some (.ref m), none, none] [] _ _
  refine r_aload_n (pc := 0) dX10_readTrade_0 rfl ?_
  refine r_getIv (pc := 1) 10 20 139 dX10_readTrade_1 (fl_RX10_139 rfl) (by decide) rfl (c10_o hm) (v := nI k) (hcn) ?_
  refine r_istore_n (pc := 4) (L' := [some (.ref m), some (.int (nI k)), none]) dX10_readTrade_4 (by decide) rfl rfl ?_
  refine r_aload_n (pc := 5) dX10_readTrade_5 rfl ?_
  refine r_iconst (pc := 6) (v := 0) dX10_readTrade_6 (by decide) ?_
  refine r_putI (pc := 7) (v := nI 0) 10 3 99 dX10_readTrade_7 (fl_RX10_99 rfl) (by decide) rfl rfl (c10_o hm) ?_
  refine r_aload_n (pc := 10) dX10_readTrade_10 rfl ?_
  refine r_iconst (pc := 11) (v := -1) dX10_readTrade_11 (by decide) ?_
  refine r_putI (pc := 12) (v := (-1)) 10 4 106 dX10_readTrade_12 (fl_RX10_106 rfl) (by decide) rfl rfl (c10_o hm) ?_
  refine r_aload_n (pc := 15) dX10_readTrade_15 rfl ?_
  refine r_get1 (pc := 16) 10 10 26 dX10_readTrade_16 (fl_RX10_26 rfl) (by decide) rfl (c10_o hm) (c10_p10 hm) ?_
  refine r_iload_n (pc := 19) dX10_readTrade_19 rfl ?_
  refine r_iconst (pc := 20) (v := 0) dX10_readTrade_20 (by decide) ?_
  refine r_iast_n (pc := 21) (i := k) (v := nI 0) dX10_readTrade_21 (c10_a10 hm) (by decide) (by omega) ?_
  obtain ⟨I0, hI0⟩ : ∃ zz0 : Im, zz0 = up2 (up2 (up2 I m 3 (nI 0)) m 4 (-1)) (m + 6) k (nI 0) := ⟨_, rfl⟩
  refine wp_M (M2 := (I0, G)) (by subst hI0; rfl) ?_
  have hI0 : I0 m 3 = nI 0 ∧ I0 m 4 = -1 ∧ I0 (m + 6) k = nI 0 ∧ FrP I I0 m k := by rw [hI0]; exact ⟨(up2_rd (by omega)).trans ((up2_rd (by omega)).trans up2_at), (up2_rd (by omega)).trans up2_at, up2_at, ((FrP.rf.u (by omega)).u (by omega)).u (by omega)⟩
  refine r_iconst (pc := 22) (v := 0) dX10_readTrade_22 (by decide) ?_
  refine r_istore_n (pc := 23) (L' := [some (.ref m), some (.int (nI k)), some (.int (nI 0))]) dX10_readTrade_23 (by decide) rfl rfl ?_
  have lp24 : ∀ (n24 : Nat), ∀ (h : Nat) (I1 : Im), 8 - h = n24 → (h ≤ 8) → (∀ x, x < h → I1 (m + 3) (8 * k + x) = nI 0 ∧ I1 (m + 4) (8 * k + x) = -1 ∧ I1 (m + 5) (8 * k + x) = nI 0) → (I1 m 3 = nI 0) → (I1 m 4 = -1) → (I1 (m + 6) k = nI 0) → (FrP I I1 m k) → wp (d + 6) 0 0 YX10_readTrade 24 [some (.ref m), some (.int (nI k)), some (.int (nI h))] [] (I1, G) (qM G (fun v I2 => RmQ T v I2 m k ∧ FrP I I2 m k)) := by
    intro n24
    induction n24 using Nat.strongRecOn with
    | ind n24 ih24 =>
      intro h I1 hmu24 hh hrow ha1 hw1 hl1 hG1
      have hT1 := hT.keepP hG1
      refine r_iload_n (pc := 24) dX10_readTrade_24 rfl ?_
      refine r_bipush (pc := 25) (v := 8) dX10_readTrade_25 (by decide) ?_
      refine r_icmp_ge_n (pc := 27) (a := h) (b := 8) (tgt := 72) dX10_readTrade_27 (by decide) (by omega) (by omega) (fun c27 => ?_) (fun c27 => ?_)
      · skip
        refine r_aload_n (pc := 72) dX10_readTrade_72 rfl ?_
        refine r_callV_M (pc := 73) (b := m) (As := []) 10 113 dX10_readTrade_73 lk_X10_look (ml_RX10_113 rfl) im_X10_look se_X10_look (by decide) (c10_o hm) (Nat.le_of_ble_eq_true rfl) rfl (look_ct hm hT1 ha1 (by omega)) (fun v73 I2 hI2 => ?_)
        obtain ⟨p, hp⟩ : ∃ z, z = sk T 0 := ⟨_, rfl⟩
        have hps := sk_is (T := T) (a := 0) (by omega)
        rw [← hp] at hps hI2
        obtain ⟨rfl, ha2, hfr2⟩ := hI2
        have hF2 : FrN I1 I2 m := fun c k z => hfr2 c k (by omega)
        have hT2 := hT1.keep hF2
        have hw2 : I2 m 4 = -1 := (hfr2 _ _ (by omega)).trans hw1
        have hG2 := hG1.tr hF2.p
        refine r_bipush (pc := 76) (v := 110) dX10_readTrade_76 (by decide) ?_
        refine r_icmp_eq (pc := 78) (x := hrF T p) (z := 110) (tgt := 90) dX10_readTrade_78 (by decide) (fun c78 => ?_) (fun c78 => ?_)
        · skip
          have h110 := (hr_eq hb (n := 110) (by omega) rfl).mp c78
          have hcs : stA T none (sk T 0) = bn (cN T 1 8 nob (p + 1)) (fun n a => .inr (dZ n, a)) := by rw [← hp]; exact if_pos h110
          refine r_aload_n (pc := 90) dX10_readTrade_90 rfl ?_
          refine r_dup (pc := 91) dX10_readTrade_91 rfl ?_
          refine r_getIv (pc := 92) 10 3 99 dX10_readTrade_92 (fl_RX10_99 rfl) (by decide) rfl (c10_o hm) (v := nI p) (ha2) ?_
          refine r_iconst (pc := 95) (v := 1) dX10_readTrade_95 (by decide) ?_
          refine r_iadd_n (pc := 96) (a := p) (b := 1) dX10_readTrade_96 ?_
          refine r_putI (pc := 97) (v := nI (p + 1)) 10 3 99 dX10_readTrade_97 (fl_RX10_99 rfl) (by decide) rfl rfl (c10_o hm) ?_
          obtain ⟨I3, hI3⟩ : ∃ zz0 : Im, zz0 = up2 I2 m 3 (nI (p + 1)) := ⟨_, rfl⟩
          refine wp_M (M2 := (I3, G)) (by subst hI3; rfl) ?_
          have ha3 : I3 m 3 = nI (p + 1) := by rw [hI3]; exact up2_at
          have hw3 : I3 m 4 = -1 := by rw [hI3, up2_rd (by omega)]; exact hw2
          have hG3 : FrP I I3 m k := by rw [hI3]; exact hG2.u (by omega)
          have hT3 := hT.keepP hG3
          have hfr3 : ∀ c j, c ≠ m → I3 c j = I1 c j := fun c j g => by rw [hI3, up2_rd (by omega)]; exact hfr2 c j (by omega)
          refine r_aload_n (pc := 100) dX10_readTrade_100 rfl ?_
          refine r_iconst (pc := 101) (v := 1) dX10_readTrade_101 (by decide) ?_
          refine r_bipush (pc := 102) (v := 8) dX10_readTrade_102 (by decide) ?_
          refine r_iconst (pc := 104) (v := -1) dX10_readTrade_104 (by decide) ?_
          refine r_callV_M (pc := 105) (b := m) (As := [.int (nI 1), .int (nI 8), .int (-1)]) 10 127 dX10_readTrade_105 lk_X10_number (ml_RX10_127 rfl) im_X10_number se_X10_number (by decide) (c10_o hm) (Nat.le_of_ble_eq_true rfl) rfl (number_ct hm hT3 ha3 (by omega) hw3 (by omega) (by omega)) (fun v105 I4 hr4 => ?_)
          obtain ⟨hF4, hc4⟩ := hr4
          have hG4 := hG3.tr hF4.p
          refine r_if_ne (pc := 108) (x := v105) (tgt := 113) dX10_readTrade_108 (by decide) (fun c108 => ?_) (fun c108 => ?_)
          · skip
            obtain ⟨x, e, hn, hv, hx4, ha4, hw4⟩ := hc4.resolve_left (fun ⟨f, _, z, _⟩ => c108 z)
            have b4 := (cN_bd (by omega)).2 _ _ hn
            clear hc4
            refine r_aload_n (pc := 113) dX10_readTrade_113 rfl ?_
            refine r_get1 (pc := 114) 10 6 13 dX10_readTrade_114 (fl_RX10_13 rfl) (by decide) rfl (c10_o hm) (c10_p6 hm) ?_
            refine r_iload_n (pc := 117) dX10_readTrade_117 rfl ?_
            refine r_aload_n (pc := 118) dX10_readTrade_118 rfl ?_
            refine r_getIv (pc := 119) 10 5 120 dX10_readTrade_119 (fl_RX10_120 rfl) (by decide) rfl (c10_o hm) (v := nI x) (hx4) ?_
            refine r_iast_n (pc := 122) (i := k) (v := nI x) dX10_readTrade_122 (c10_a6 hm) (by decide) (by omega) ?_
            obtain ⟨I5, hI5⟩ : ∃ zz0 : Im, zz0 = up2 I4 (m + 2) k (nI x) := ⟨_, rfl⟩
            refine wp_M (M2 := (I5, G)) (by subst hI5; rfl) ?_
            have hG5 : FrP I I5 m k := by rw [hI5]; exact hG4.u (by omega)
            have ha5 : I5 m 3 = nI e := by rw [hI5, up2_rd (by omega)]; exact ha4
            have hw5 : I5 m 4 = -1 := by rw [hI5, up2_rd (by omega)]; exact hw4
            have hfr5 : ∀ c j, m + 3 ≤ c → I5 c j = I1 c j := fun c j g => by rw [hI5, up2_rd (by omega), hF4 c j (by omega)]; exact hfr3 c j (by omega)
            have hD5 : MdC I5 m k (dZ x) := ⟨by rw [hI5]; exact up2_at, fun y hy => ⟨(hfr5 _ _ (by omega)).trans (hrow y (by omega)).1, (hfr5 _ _ (by omega)).trans (hrow y (by omega)).2.1, (hfr5 _ _ (by omega)).trans (hrow y (by omega)).2.2⟩, (hfr5 _ _ (by omega)).trans hl1, fun i hi => absurd hi (Nat.not_lt_zero i)⟩
            have hpa5 : pA T = lp T (dZ x) e := fr_r (oD := none) (by rw [hcs, hn]; rfl)
            have lp123 : ∀ (n123 : Nat), ∀ (D : Dr) (a : Nat) (I6 : Im), T.1 - a = n123 → (a ≤ T.1) → (DrOK D) → (MdC I6 m k D) → (I6 m 3 = nI a) → (I6 m 4 = -1) → (FrP I I6 m k) → (pA T = lp T D a) → wp (d + 6) 0 0 YX10_readTrade 123 [some (.ref m), some (.int (nI k)), some (.int (nI h))] [] (I6, G) (qM G (fun v I2 => RmQ T v I2 m k ∧ FrP I I2 m k)) := by
              intro n123
              induction n123 using Nat.strongRecOn with
              | ind n123 ih123 =>
                intro D a I6 hmu123 hal hDk hD6 ha6 hw6 hG6 hpa
                have hT6 := hT.keepP hG6
                refine r_aload_n (pc := 123) dX10_readTrade_123 rfl ?_
                refine r_callV_M (pc := 124) (b := m) (As := []) 10 113 dX10_readTrade_124 lk_X10_look (ml_RX10_113 rfl) im_X10_look se_X10_look (by decide) (c10_o hm) (Nat.le_of_ble_eq_true rfl) rfl (look_ct hm hT6 ha6 (by omega)) (fun v124 I7 hI7 => ?_)
                obtain ⟨q, hq⟩ : ∃ z, z = sk T a := ⟨_, rfl⟩
                have hqs := sk_is (T := T) (a := a) (by omega)
                rw [← hq] at hqs hI7
                obtain ⟨rfl, ha7, hfr7⟩ := hI7
                have hF7 : FrN I6 I7 m := fun c k z => hfr7 c k (by omega)
                have hT7 := hT6.keep hF7
                have hw7 : I7 m 4 = -1 := (hfr7 _ _ (by omega)).trans hw6
                have hG7 := hG6.tr hF7.p
                have hD7 := hD6.n hF7
                have hlp := lp_eq (T := T) (D := D) (a := a) (by omega) hDk
                rw [← hq] at hlp
                refine r_bipush (pc := 127) (v := 59) dX10_readTrade_127 (by decide) ?_
                refine r_icmp_ne (pc := 129) (x := hrF T q) (z := 59) (tgt := 152) dX10_readTrade_129 (by decide) (fun c129 => ?_) (fun c129 => ?_)
                · skip
                  have h59 : ¬ (q < T.1 ∧ T.2 q = 59) := fun z => c129 ((hr_eq hb (n := 59) (by omega) rfl).mpr z)
                  rw [if_neg h59] at hlp
                  refine r_aload_n (pc := 152) dX10_readTrade_152 rfl ?_
                  refine r_getIv (pc := 153) 10 3 99 dX10_readTrade_153 (fl_RX10_99 rfl) (by decide) rfl (c10_o hm) (v := nI q) (ha7) ?_
                  refine r_aload_n (pc := 156) dX10_readTrade_156 rfl ?_
                  refine r_getIv (pc := 157) 10 2 88 dX10_readTrade_157 (fl_RX10_88 rfl) (by decide) rfl (c10_o hm) (v := nI T.1) (hT7.1) ?_
                  refine r_icmp_eq_n (pc := 160) (a := q) (b := T.1) (tgt := 174) dX10_readTrade_160 (by decide) (by omega) (by omega) (fun c160 => ?_) (fun c160 => ?_)
                  · skip
                    have hfin : pA T = .inr D := hpa.trans (hlp.trans (if_neg (by omega)))
                    refine r_iconst (pc := 174) (v := 1) dX10_readTrade_174 (by decide) ?_
                    refine r_goto (pc := 175) (tgt := 179) dX10_readTrade_175 (by decide) ?_
                    refine r_ret_z (pc := 179) dX10_readTrade_179 rfl (by decide) ?_
                    exact ⟨_, I7, rfl, rfl, Or.inr ⟨D, hfin, hDk, rfl, hD7, hw7⟩, hG7⟩
                  · skip
                    have hfin : pA T = .inl q := hpa.trans (hlp.trans (if_pos (by omega)))
                    refine r_aload_n (pc := 163) dX10_readTrade_163 rfl ?_
                    refine r_aload_n (pc := 164) dX10_readTrade_164 rfl ?_
                    refine r_getIv (pc := 165) 10 3 99 dX10_readTrade_165 (fl_RX10_99 rfl) (by decide) rfl (c10_o hm) (v := nI q) (ha7) ?_
                    refine r_callV_M (pc := 168) (b := m) (As := [.int (nI q)]) 10 109 dX10_readTrade_168 lk_X10_fails (ml_RX10_109 rfl) im_X10_fails se_X10_fails (by decide) (c10_o hm) (Nat.le_of_ble_eq_true rfl) rfl (fails_ct hm hw7) (fun v168 I9 hr9 => ?_)
                    obtain ⟨rfl, rfl⟩ := hr9
                    refine r_if_eq_n (pc := 171) (a := 0) (tgt := 178) dX10_readTrade_171 (by decide) (by omega) (fun c171 => ?_) (fun c171 => ?_)
                    · skip
                      refine r_iconst (pc := 178) (v := 0) dX10_readTrade_178 (by decide) ?_
                      refine r_ret_z (pc := 179) dX10_readTrade_179 rfl (by decide) ?_
                      exact ⟨_, _, rfl, rfl, Or.inl ⟨q, hfin, rfl, up2_at, by omega⟩, hG7.u (by omega)⟩
                    · exfalso; exact c171 rfl
                · skip
                  have h59 := (hr_eq hb (n := 59) (by omega) rfl).mp c129
                  rw [if_pos h59] at hlp
                  refine r_aload_n (pc := 132) dX10_readTrade_132 rfl ?_
                  refine r_dup (pc := 133) dX10_readTrade_133 rfl ?_
                  refine r_getIv (pc := 134) 10 3 99 dX10_readTrade_134 (fl_RX10_99 rfl) (by decide) rfl (c10_o hm) (v := nI q) (ha7) ?_
                  refine r_iconst (pc := 137) (v := 1) dX10_readTrade_137 (by decide) ?_
                  refine r_iadd_n (pc := 138) (a := q) (b := 1) dX10_readTrade_138 ?_
                  refine r_putI (pc := 139) (v := nI (q + 1)) 10 3 99 dX10_readTrade_139 (fl_RX10_99 rfl) (by decide) rfl rfl (c10_o hm) ?_
                  obtain ⟨I8, hI8⟩ : ∃ zz0 : Im, zz0 = up2 I7 m 3 (nI (q + 1)) := ⟨_, rfl⟩
                  refine wp_M (M2 := (I8, G)) (by subst hI8; rfl) ?_
                  have ha8 : I8 m 3 = nI (q + 1) := by rw [hI8]; exact up2_at
                  have hw8 : I8 m 4 = -1 := by rw [hI8, up2_rd (by omega)]; exact hw7
                  have hG8 : FrP I I8 m k := by rw [hI8]; exact hG7.u (by omega)
                  have hT8 := hT.keepP hG8
                  have hD8 : MdC I8 m k D := hD7.keep (fun c j g1 g2 g3 => by rw [hI8, up2_rd (by omega)])
                  refine r_aload_n (pc := 142) dX10_readTrade_142 rfl ?_
                  refine r_iload_n (pc := 143) dX10_readTrade_143 rfl ?_
                  refine r_callV_M (pc := 144) (b := m) (As := [.int (nI k)]) 10 142 dX10_readTrade_144 lk_X10_statement (ml_RX10_142 rfl) im_X10_statement se_X10_statement (by decide) (c10_o hm) (Nat.le_of_ble_eq_true rfl) rfl (statementM_ct hm hT8 ha8 (by omega) hw8 hk hD8 hDk) (fun v144 I9 hr9 => ?_)
                  obtain ⟨hF9, hc9⟩ := hr9
                  have hG9 := hG8.tr hF9
                  refine r_if_ne (pc := 147) (x := v144) (tgt := 123) dX10_readTrade_147 (by decide) (fun c147 => ?_) (fun c147 => ?_)
                  · skip
                    obtain ⟨D2, e2, hn, hv, hM9, ha9, hw9⟩ := hc9.resolve_left (fun ⟨f, _, z, _⟩ => c147 z)
                    clear hc9
                    rw [hn] at hlp
                    have hpa9 := hpa.trans hlp
                    have hok := cSt_ok hDk hn
                    have hsq := sk_is (T := T) (a := q + 1) (by omega)
                    exact ih123 _ (by omega) D2 e2 I9 rfl (by omega) (by exact hok.1) (by exact hM9) (by exact ha9) (by exact hw9) (by exact hG9) (by exact hpa9)
                  · skip
                    obtain ⟨f, hn, hv, hfl, hf3⟩ := hc9.resolve_right (fun ⟨x, e, _, z, _⟩ => by rw [c147] at z; exact absurd z (by decide))
                    rw [hn] at hlp
                    refine r_iconst (pc := 150) (v := 0) dX10_readTrade_150 (by decide) ?_
                    refine r_ret_z (pc := 151) dX10_readTrade_151 rfl (by decide) ?_
                    exact ⟨_, I9, rfl, rfl, Or.inl ⟨f, hpa.trans hlp, rfl, hfl, hf3⟩, hG9⟩
            exact lp123 _ (dZ x) e I5 rfl (by omega) (by exact dZ_ok (by omega) (by omega)) (by exact hD5) (by exact ha5) (by exact hw5) (by exact hG5) (by exact hpa5)
          · skip
            obtain ⟨f, hn, hv, hfl, hf3⟩ := hc4.resolve_right (fun ⟨x, e, _, z, _⟩ => by rw [c108] at z; exact absurd z (by decide))
            have hno : pA T = .inl f := fr_l (oD := none) (by rw [hcs, hn]; rfl)
            refine r_iconst (pc := 111) (v := 0) dX10_readTrade_111 (by decide) ?_
            refine r_ret_z (pc := 112) dX10_readTrade_112 rfl (by decide) ?_
            exact ⟨_, I4, rfl, rfl, Or.inl ⟨f, hno, rfl, hfl, hf3⟩, hG4⟩
        · skip
          refine r_aload_n (pc := 81) dX10_readTrade_81 rfl ?_
          refine r_aload_n (pc := 82) dX10_readTrade_82 rfl ?_
          refine r_getIv (pc := 83) 10 3 99 dX10_readTrade_83 (fl_RX10_99 rfl) (by decide) rfl (c10_o hm) (v := nI p) (ha2) ?_
          refine r_callV_M (pc := 86) (b := m) (As := [.int (nI p)]) 10 109 dX10_readTrade_86 lk_X10_fails (ml_RX10_109 rfl) im_X10_fails se_X10_fails (by decide) (c10_o hm) (Nat.le_of_ble_eq_true rfl) rfl (fails_ct hm hw2) (fun v86 I9 hr9 => ?_)
          obtain ⟨rfl, rfl⟩ := hr9
          refine r_ret_z (pc := 89) dX10_readTrade_89 rfl (by decide) ?_
          have hno : pA T = .inl p := fr_l (oD := none) (by rw [← hp]; exact if_neg (fun z => c78 ((hr_eq hb (n := 110) (by omega) rfl).mpr z)))
          exact ⟨_, _, rfl, rfl, Or.inl ⟨p, hno, rfl, up2_at, by omega⟩, hG2.u (by omega)⟩
      · skip
        refine r_aload_n (pc := 30) dX10_readTrade_30 rfl ?_
        refine r_get1 (pc := 31) 10 7 17 dX10_readTrade_31 (fl_RX10_17 rfl) (by decide) rfl (c10_o hm) (c10_p7 hm) ?_
        refine r_bipush (pc := 34) (v := 8) dX10_readTrade_34 (by decide) ?_
        refine r_iload_n (pc := 36) dX10_readTrade_36 rfl ?_
        refine r_imul_n (pc := 37) (a := 8) (b := k) dX10_readTrade_37 ?_
        refine r_iload_n (pc := 38) dX10_readTrade_38 rfl ?_
        refine r_iadd_n (pc := 39) (a := 8 * k) (b := h) dX10_readTrade_39 ?_
        refine r_iconst (pc := 40) (v := 0) dX10_readTrade_40 (by decide) ?_
        refine r_iast_n (pc := 41) (i := (8 * k) + h) (v := nI 0) dX10_readTrade_41 (c10_a7 hm) (by decide) (by omega) ?_
        refine r_aload_n (pc := 42) dX10_readTrade_42 rfl ?_
        refine r_get1 (pc := 43) 10 8 20 dX10_readTrade_43 (fl_RX10_20 rfl) (by decide) rfl (c10_o hm) (c10_p8 hm) ?_
        refine r_bipush (pc := 46) (v := 8) dX10_readTrade_46 (by decide) ?_
        refine r_iload_n (pc := 48) dX10_readTrade_48 rfl ?_
        refine r_imul_n (pc := 49) (a := 8) (b := k) dX10_readTrade_49 ?_
        refine r_iload_n (pc := 50) dX10_readTrade_50 rfl ?_
        refine r_iadd_n (pc := 51) (a := 8 * k) (b := h) dX10_readTrade_51 ?_
        refine r_iconst (pc := 52) (v := -1) dX10_readTrade_52 (by decide) ?_
        refine r_iast_n (pc := 53) (i := (8 * k) + h) (v := (-1)) dX10_readTrade_53 (c10_a8 hm) (by decide) (by omega) ?_
        refine r_aload_n (pc := 54) dX10_readTrade_54 rfl ?_
        refine r_get1 (pc := 55) 10 9 23 dX10_readTrade_55 (fl_RX10_23 rfl) (by decide) rfl (c10_o hm) (c10_p9 hm) ?_
        refine r_bipush (pc := 58) (v := 8) dX10_readTrade_58 (by decide) ?_
        refine r_iload_n (pc := 60) dX10_readTrade_60 rfl ?_
        refine r_imul_n (pc := 61) (a := 8) (b := k) dX10_readTrade_61 ?_
        refine r_iload_n (pc := 62) dX10_readTrade_62 rfl ?_
        refine r_iadd_n (pc := 63) (a := 8 * k) (b := h) dX10_readTrade_63 ?_
        refine r_iconst (pc := 64) (v := 0) dX10_readTrade_64 (by decide) ?_
        refine r_iast_n (pc := 65) (i := (8 * k) + h) (v := nI 0) dX10_readTrade_65 (c10_a9 hm) (by decide) (by omega) ?_
        obtain ⟨I5, hI5⟩ : ∃ zz0 : Im, zz0 = up2 (up2 (up2 I1 (m + 3) ((8 * k) + h) (nI 0)) (m + 4) ((8 * k) + h) (-1)) (m + 5) ((8 * k) + h) (nI 0) := ⟨_, rfl⟩
        refine wp_M (M2 := (I5, G)) (by subst hI5; rfl) ?_
        have hrow5 : ∀ x, x < h + 1 → I5 (m + 3) (8 * k + x) = nI 0 ∧ I5 (m + 4) (8 * k + x) = -1 ∧ I5 (m + 5) (8 * k + x) = nI 0 := by
          intro x hx
          by_cases e : x = h
          · subst e
            rw [hI5]
            exact ⟨(up2_rd (by omega)).trans ((up2_rd (by omega)).trans up2_at), (up2_rd (by omega)).trans up2_at, up2_at⟩
          · have q := hrow x (by omega)
            rw [hI5]
            exact ⟨(up2_rd (by omega)).trans ((up2_rd (by omega)).trans ((up2_rd (by omega)).trans q.1)), (up2_rd (by omega)).trans ((up2_rd (by omega)).trans ((up2_rd (by omega)).trans q.2.1)), (up2_rd (by omega)).trans ((up2_rd (by omega)).trans ((up2_rd (by omega)).trans q.2.2))⟩
        refine r_iinc (pc := 66) (v := nI (h + 1)) (L' := [some (.ref m), some (.int (nI k)), some (.int (nI (h + 1)))]) dX10_readTrade_66 rfl (nI_inc _) (by decide) rfl rfl ?_
        refine r_goto (pc := 69) (tgt := 24) dX10_readTrade_69 (by decide) ?_
        exact ih24 _ (by omega) (h + 1) I5 rfl (by omega) (by exact hrow5) (by rw [hI5, up2_rd (by omega), up2_rd (by omega), up2_rd (by omega)]; exact ha1) (by rw [hI5, up2_rd (by omega), up2_rd (by omega), up2_rd (by omega)]; exact hw1) (by rw [hI5, up2_rd (by omega), up2_rd (by omega), up2_rd (by omega)]; exact hl1) (by rw [hI5]; exact ((hG1.u (by omega)).u (by omega)).u (by omega))
  exact lp24 _ 0 I0 rfl (by omega) (by exact fun x hx => absurd hx (by omega)) (by exact hI0.1) (by exact hI0.2.1) (by exact hI0.2.2.1) (by exact hI0.2.2.2)
