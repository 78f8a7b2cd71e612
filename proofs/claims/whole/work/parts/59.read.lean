/-! ===== by letter; whole texts; what is fed: the class ===== -/
theorem lk_dflt {n : Nat} (hn : n ≤ 255) (h1 : n ≠ 98) (h2 : n ≠ 99) (h3 : n ≠ 101) (h4 : n ≠ 110) (h5 : n ≠ 119) : Op.lookupswitch.offset [(98, 87), (99, 71), (101, 109), (110, 49), (119, 103)] 125 (nI n).toInt = 125 := by
  rw [nI_toInt (by omega)]
  simp only [Op.lookupswitch.offset]
  rw [if_neg (by omega), if_neg (by omega), if_neg (by omega), if_neg (by omega), if_neg (by omega)]
theorem FrT.s {I I2 : Im} {ta t : Nat} (h : FrT I I2 ta) : FrS I I2 ta t := fun c k _ g => h c k g
theorem FrS.tr {I I2 I3 : Im} {ta t : Nat} (h : FrS I I2 ta t) (h2 : FrS I2 I3 ta t) : FrS I I3 ta t := fun c k g1 g2 => (h2 c k g1 g2).trans (h c k g1 g2)

set_option maxRecDepth 100000 in
theorem readStatement_s {d : Nat} {I : Im} {G : Gm} {ta t : Nat} {T : Tp} {D : Dr} (h6 : isC6 G ta) (h8 : isC8 G t) (hsep : ta + 2 ≤ t) (hT : TpC I ta T) {a : Nat} (ha : I ta 2 = nI a) (hal : a ≤ T.1) (hw : I ta 3 = sI none) (hD : DrC I t D) (hDk : DrOK D) : Ct (d + 4) 0 0 YX6_readStatement [.ref ta, .ref t, .int (nI 0)] (I, G) (qV G (fun I2 => StQ T (cSt T D (sk T a)) I2 ta t ∧ FrS I I2 ta t)) := by
  refine Ct.of (by decide) (by simp [Value.category]) (Nat.le_of_ble_eq_true rfl) ?_
  have hl3 := hT.2.1
  show wp _ _ _ _ 0 [some (.ref ta), some (.ref t), some (.int (nI 0)), none] [] _ _
  refine r_aload_n (pc := 0) dX6_readStatement_0 rfl ?_
  refine r_callV_V (pc := 1) (b := ta) (As := []) 6 34 dX6_readStatement_1 lk_X6_skipBlanks (ml_RX6_34 rfl) im_X6_skipBlanks se_X6_skipBlanks (by decide) (c6_o h6) (Nat.le_of_ble_eq_true rfl) rfl (skipBlanks_ct h6 hT ha hal) (fun I1 hI1 => ?_)
  obtain ⟨p, hp⟩ : ∃ z, z = sk T a := ⟨_, rfl⟩
  have hps := sk_is hal
  rw [← hp] at hps hI1
  rw [← hp]
  have ha1 := hI1.1
  have hF1 : FrT I I1 ta := fun c k z => hI1.2 c k (by omega)
  have hT1 := hT.keep hF1
  have hw1 : I1 ta 3 = sI none := (hI1.2 _ _ (by omega)).trans hw
  have hD1 : DrC I1 t D := hD.keep (fun c k g1 g2 g3 => hF1 c k (by omega))
  have hbp := hT.2.2.2 p
  refine r_aload_n (pc := 4) dX6_readStatement_4 rfl ?_
  refine r_getIv (pc := 5) 6 2 19 dX6_readStatement_5 (fl_RX6_19 rfl) (by decide) rfl (c6_o h6) (v := nI p) (ha1) ?_
  refine r_aload_n (pc := 8) dX6_readStatement_8 rfl ?_
  refine r_getIv (pc := 9) 6 1 15 dX6_readStatement_9 (fl_RX6_15 rfl) (by decide) rfl (c6_o h6) (v := nI T.1) (hT1.1) ?_
  refine r_icmp_lt_n (pc := 12) (a := p) (b := T.1) (tgt := 24) dX6_readStatement_12 (by decide) (by omega) (by omega) (fun c12 => ?_) (fun c12 => ?_)
  · skip
    refine r_aload_n (pc := 24) dX6_readStatement_24 rfl ?_
    refine r_get1 (pc := 25) 6 0 9 dX6_readStatement_25 (fl_RX6_9 rfl) (by decide) rfl (c6_o h6) (c6_p0 h6) ?_
    refine r_aload_n (pc := 28) dX6_readStatement_28 rfl ?_
    refine r_getIv (pc := 29) 6 2 19 dX6_readStatement_29 (fl_RX6_19 rfl) (by decide) rfl (c6_o h6) (v := nI p) (ha1) ?_
    refine r_iald_n (pc := 32) (i := p) dX6_readStatement_32 (c6_a0 h6) (by decide) (by omega) (v := nI (T.2 p)) (hT1.2.2.1 _ (by omega)) ?_
    refine r_istore_n (pc := 33) (L' := [some (.ref ta), some (.ref t), some (.int (nI 0)), some (.int (nI (T.2 p)))]) dX6_readStatement_33 (by decide) rfl rfl ?_
    refine r_iload_n (pc := 34) dX6_readStatement_34 rfl ?_
    refine r_iload_n (pc := 35) dX6_readStatement_35 rfl ?_
    refine r_bipush (pc := 36) (v := 110) dX6_readStatement_36 (by decide) ?_
    refine r_icmp_ne_n (pc := 38) (a := T.2 p) (b := 110) (tgt := 45) dX6_readStatement_38 (by decide) (by omega) (by omega) (fun c38 => ?_) (fun c38 => ?_)
    · skip
      refine r_iconst (pc := 45) (v := 0) dX6_readStatement_45 (by decide) ?_
      refine r_icmp_eq_n (pc := 46) (a := 0) (b := 0) (tgt := 58) dX6_readStatement_46 (by decide) (by omega) (by omega) (fun c46 => ?_) (fun c46 => ?_)
      · skip
        refine r_iload_n (pc := 58) dX6_readStatement_58 rfl ?_
        by_cases l99 : T.2 p = 99
        · skip
          refine r_lookup (pc := 59) (x := nI (T.2 p)) (off := 71) (tgt := 130) dX6_readStatement_59 (by decide) (by rw [l99]; decide) (by decide) ?_
          have hcs := show cSt T D p = _ from if_pos ⟨by omega, l99⟩
          refine r_aload_n (pc := 130) dX6_readStatement_130 rfl ?_
          refine r_dup (pc := 131) dX6_readStatement_131 rfl ?_
          refine r_getIv (pc := 132) 6 2 19 dX6_readStatement_132 (fl_RX6_19 rfl) (by decide) rfl (c6_o h6) (v := nI p) (ha1) ?_
          refine r_iconst (pc := 135) (v := 1) dX6_readStatement_135 (by decide) ?_
          refine r_iadd_n (pc := 136) (a := p) (b := 1) dX6_readStatement_136 ?_
          refine r_putI (pc := 137) (v := nI (p + 1)) 6 2 19 dX6_readStatement_137 (fl_RX6_19 rfl) (by decide) rfl rfl (c6_o h6) ?_
          obtain ⟨I2, hI2⟩ : ∃ zz0 : Im, zz0 = up2 I1 ta 2 (nI (p + 1)) := ⟨_, rfl⟩
          refine wp_M (M2 := (I2, G)) (by subst hI2; rfl) ?_
          have hF2 : FrT I I2 ta := by rw [hI2]; exact hF1.u2
          have hT2 := hT.keep hF2
          have ha2 : I2 ta 2 = nI (p + 1) := by rw [hI2]; exact up2_at
          have hw2 : I2 ta 3 = sI none := by rw [hI2, up2_rd (by omega)]; exact hw1
          have hD2 : DrC I2 t D := hD.keep (fun c k g1 g2 g3 => hF2 c k (by omega))
          refine r_aload_n (pc := 140) dX6_readStatement_140 rfl ?_
          refine r_aload_n (pc := 141) dX6_readStatement_141 rfl ?_
          refine r_callV_V (pc := 142) (b := ta) (As := [.ref t]) 6 44 dX6_readStatement_142 lk_X6_readCost (ml_RX6_44 rfl) im_X6_readCost se_X6_readCost (by decide) (c6_o h6) (Nat.le_of_ble_eq_true rfl) rfl (readCost_ct h6 h8 hsep hT2 ha2 (by omega) hw2 hD2 hDk) (fun I3 hI3 => ?_)
          refine r_ret_v (pc := 145) dX6_readStatement_145 rfl ?_
          exact ⟨rfl, I3, rfl, by rw [hcs]; exact hI3.1, fun c k g1 g2 => (hI3.2 c k g1 g2).trans (hF2 c k g2)⟩
        · skip
          by_cases l101 : T.2 p = 101
          · skip
            refine r_lookup (pc := 59) (x := nI (T.2 p)) (off := 109) (tgt := 168) dX6_readStatement_59 (by decide) (by rw [l101]; decide) (by decide) ?_
            have hcs := show cSt T D p = _ from (if_neg (by omega)).trans (if_pos ⟨by omega, l101⟩)
            refine r_aload_n (pc := 168) dX6_readStatement_168 rfl ?_
            refine r_dup (pc := 169) dX6_readStatement_169 rfl ?_
            refine r_getIv (pc := 170) 6 2 19 dX6_readStatement_170 (fl_RX6_19 rfl) (by decide) rfl (c6_o h6) (v := nI p) (ha1) ?_
            refine r_iconst (pc := 173) (v := 1) dX6_readStatement_173 (by decide) ?_
            refine r_iadd_n (pc := 174) (a := p) (b := 1) dX6_readStatement_174 ?_
            refine r_putI (pc := 175) (v := nI (p + 1)) 6 2 19 dX6_readStatement_175 (fl_RX6_19 rfl) (by decide) rfl rfl (c6_o h6) ?_
            obtain ⟨I2, hI2⟩ : ∃ zz0 : Im, zz0 = up2 I1 ta 2 (nI (p + 1)) := ⟨_, rfl⟩
            refine wp_M (M2 := (I2, G)) (by subst hI2; rfl) ?_
            have hF2 : FrT I I2 ta := by rw [hI2]; exact hF1.u2
            have hT2 := hT.keep hF2
            have ha2 : I2 ta 2 = nI (p + 1) := by rw [hI2]; exact up2_at
            have hw2 : I2 ta 3 = sI none := by rw [hI2, up2_rd (by omega)]; exact hw1
            have hD2 : DrC I2 t D := hD.keep (fun c k g1 g2 g3 => hF2 c k (by omega))
            refine r_aload_n (pc := 178) dX6_readStatement_178 rfl ?_
            refine r_aload_n (pc := 179) dX6_readStatement_179 rfl ?_
            refine r_callV_V (pc := 180) (b := ta) (As := [.ref t]) 6 54 dX6_readStatement_180 lk_X6_readElse (ml_RX6_54 rfl) im_X6_readElse se_X6_readElse (by decide) (c6_o h6) (Nat.le_of_ble_eq_true rfl) rfl (readElse_ct h6 h8 hsep hT2 ha2 (by omega) hw2 hD2 hDk) (fun I3 hI3 => ?_)
            refine r_ret_v (pc := 183) dX6_readStatement_183 rfl ?_
            exact ⟨rfl, I3, rfl, by rw [hcs]; exact hI3.1, fun c k g1 g2 => (hI3.2 c k g1 g2).trans (hF2 c k g2)⟩
          · skip
            by_cases l98 : T.2 p = 98
            · skip
              refine r_lookup (pc := 59) (x := nI (T.2 p)) (off := 87) (tgt := 146) dX6_readStatement_59 (by decide) (by rw [l98]; decide) (by decide) ?_
              have hcs := show cSt T D p = _ from (if_neg (by omega)).trans ((if_neg (by omega)).trans (if_pos ⟨by omega, l98⟩))
              refine r_aload_n (pc := 146) dX6_readStatement_146 rfl ?_
              refine r_dup (pc := 147) dX6_readStatement_147 rfl ?_
              refine r_getIv (pc := 148) 6 2 19 dX6_readStatement_148 (fl_RX6_19 rfl) (by decide) rfl (c6_o h6) (v := nI p) (ha1) ?_
              refine r_iconst (pc := 151) (v := 1) dX6_readStatement_151 (by decide) ?_
              refine r_iadd_n (pc := 152) (a := p) (b := 1) dX6_readStatement_152 ?_
              refine r_putI (pc := 153) (v := nI (p + 1)) 6 2 19 dX6_readStatement_153 (fl_RX6_19 rfl) (by decide) rfl rfl (c6_o h6) ?_
              obtain ⟨I2, hI2⟩ : ∃ zz0 : Im, zz0 = up2 I1 ta 2 (nI (p + 1)) := ⟨_, rfl⟩
              refine wp_M (M2 := (I2, G)) (by subst hI2; rfl) ?_
              have hF2 : FrT I I2 ta := by rw [hI2]; exact hF1.u2
              have hT2 := hT.keep hF2
              have ha2 : I2 ta 2 = nI (p + 1) := by rw [hI2]; exact up2_at
              have hw2 : I2 ta 3 = sI none := by rw [hI2, up2_rd (by omega)]; exact hw1
              have hD2 : DrC I2 t D := hD.keep (fun c k g1 g2 g3 => hF2 c k (by omega))
              refine r_aload_n (pc := 156) dX6_readStatement_156 rfl ?_
              refine r_aload_n (pc := 157) dX6_readStatement_157 rfl ?_
              refine r_callV_V (pc := 158) (b := ta) (As := [.ref t]) 6 48 dX6_readStatement_158 lk_X6_readSource (ml_RX6_48 rfl) im_X6_readSource se_X6_readSource (by decide) (c6_o h6) (Nat.le_of_ble_eq_true rfl) rfl (readSource_ct h6 h8 hsep hT2 ha2 (by omega) hw2 hD2 hDk) (fun I3 hI3 => ?_)
              refine r_ret_v (pc := 161) dX6_readStatement_161 rfl ?_
              exact ⟨rfl, I3, rfl, by rw [hcs]; exact hI3.1, fun c k g1 g2 => (hI3.2 c k g1 g2).trans (hF2 c k g2)⟩
            · skip
              by_cases l119 : T.2 p = 119
              · skip
                refine r_lookup (pc := 59) (x := nI (T.2 p)) (off := 103) (tgt := 162) dX6_readStatement_59 (by decide) (by rw [l119]; decide) (by decide) ?_
                have hcs : cSt T D p = if (dT D).1 < 20 then bn (cN T 0 (dN D - 1) nob (p + 1)) (fun h a => bn (cN T 1 40 nob a) (fun q e => bn (cN T 1 30 nob e) (fun r g => .inr (dLot D h q r, g)))) else .inl p := by
                  unfold cSt
                  rw [if_neg (by omega), if_neg (by omega), if_neg (by omega)]
                  by_cases g : (dT D).1 < 20
                  · rw [if_pos ⟨by omega, l119, g⟩, if_pos g]
                  · rw [if_neg (fun z => g z.2.2), if_neg g]
                refine r_aload_n (pc := 162) dX6_readStatement_162 rfl ?_
                refine r_aload_n (pc := 163) dX6_readStatement_163 rfl ?_
                refine r_callV_V (pc := 164) (b := ta) (As := [.ref t]) 6 51 dX6_readStatement_164 lk_X6_readLot (ml_RX6_51 rfl) im_X6_readLot se_X6_readLot (by decide) (c6_o h6) (Nat.le_of_ble_eq_true rfl) rfl (readLot_ct h6 h8 hsep hT1 ha1 (by omega) hw1 hD1 hDk) (fun I3 hI3 => ?_)
                refine r_ret_v (pc := 167) dX6_readStatement_167 rfl ?_
                exact ⟨rfl, I3, rfl, by rw [hcs]; exact hI3.1, fun c k g1 g2 => (hI3.2 c k g1 g2).trans (hF1 c k g2)⟩
              · skip
                refine r_lookup (pc := 59) (x := nI (T.2 p)) (off := 125) (tgt := 184) dX6_readStatement_59 (by decide) (lk_dflt hbp l98 l99 l101 c38 l119) (by decide) ?_
                have hcs : cSt T D p = .inl p := by unfold cSt; rw [if_neg (by omega), if_neg (by omega), if_neg (by omega), if_neg (by omega)]
                refine r_aload_n (pc := 184) dX6_readStatement_184 rfl ?_
                refine r_aload_n (pc := 185) dX6_readStatement_185 rfl ?_
                refine r_getIv (pc := 186) 6 2 19 dX6_readStatement_186 (fl_RX6_19 rfl) (by decide) rfl (c6_o h6) (v := nI p) (ha1) ?_
                refine r_putI (pc := 189) (v := nI p) 6 3 22 dX6_readStatement_189 (fl_RX6_22 rfl) (by decide) rfl rfl (c6_o h6) ?_
                refine r_ret_v (pc := 192) dX6_readStatement_192 rfl ?_
                refine ⟨rfl, _, rfl, ⟨p, some p, hps.2.1, (up2_rd (by omega)).trans ha1, up2_at, fun f z => (by cases z; omega), Or.inl ⟨p, rfl, hcs⟩⟩, fun c k g1 g2 => (up2_rd (by omega)).trans (hF1 c k g2)⟩
      · exfalso; omega
    · skip
      refine r_iconst (pc := 41) (v := 1) dX6_readStatement_41 (by decide) ?_
      refine r_goto (pc := 42) (tgt := 46) dX6_readStatement_42 (by decide) ?_
      refine r_icmp_eq_n (pc := 46) (a := 0) (b := 1) (tgt := 58) dX6_readStatement_46 (by decide) (by omega) (by omega) (fun c46 => ?_) (fun c46 => ?_)
      · exfalso; omega
      · skip
        refine r_aload_n (pc := 49) dX6_readStatement_49 rfl ?_
        refine r_aload_n (pc := 50) dX6_readStatement_50 rfl ?_
        refine r_getIv (pc := 51) 6 2 19 dX6_readStatement_51 (fl_RX6_19 rfl) (by decide) rfl (c6_o h6) (v := nI p) (ha1) ?_
        refine r_putI (pc := 54) (v := nI p) 6 3 22 dX6_readStatement_54 (fl_RX6_22 rfl) (by decide) rfl rfl (c6_o h6) ?_
        refine r_ret_v (pc := 57) dX6_readStatement_57 rfl ?_
        refine ⟨rfl, _, rfl, ⟨p, some p, hps.2.1, (up2_rd (by omega)).trans ha1, up2_at, fun f z => (by cases z; omega), Or.inl ⟨p, rfl, (by unfold cSt; rw [if_neg (by omega), if_neg (by omega), if_neg (by omega), if_neg (by omega)])⟩⟩, fun c k g1 g2 => (up2_rd (by omega)).trans (hF1 c k g2)⟩
  · skip
    refine r_aload_n (pc := 15) dX6_readStatement_15 rfl ?_
    refine r_aload_n (pc := 16) dX6_readStatement_16 rfl ?_
    refine r_getIv (pc := 17) 6 1 15 dX6_readStatement_17 (fl_RX6_15 rfl) (by decide) rfl (c6_o h6) (v := nI T.1) (hT1.1) ?_
    obtain rfl : p = T.1 := (by omega)
    refine r_putI (pc := 20) (v := nI T.1) 6 3 22 dX6_readStatement_20 (fl_RX6_22 rfl) (by decide) rfl rfl (c6_o h6) ?_
    refine r_ret_v (pc := 23) dX6_readStatement_23 rfl ?_
    refine ⟨rfl, _, rfl, ⟨T.1, some T.1, Nat.le_refl _, (up2_rd (by omega)).trans ha1, up2_at, fun f z => (by cases z; omega), Or.inl ⟨T.1, rfl, ?_⟩⟩, fun c k g1 g2 => (up2_rd (by omega)).trans (hF1 c k g2)⟩
    unfold cSt
    rw [if_neg (by omega), if_neg (by omega), if_neg (by omega), if_neg (by omega)]

set_option maxRecDepth 100000 in
theorem readStatement_0 {d : Nat} {I : Im} {G : Gm} {ta t : Nat} {T : Tp} (h6 : isC6 G ta) (h8 : isC8 G t) (hsep : ta + 2 ≤ t) (hT : TpC I ta T) {a : Nat} (ha : I ta 2 = nI a) (hal : a ≤ T.1) (hw : I ta 3 = sI none) (hD : DrC I t (dZ 0)) : Ct (d + 4) 0 0 YX6_readStatement [.ref ta, .ref t, .int (nI 1)] (I, G) (qV G (fun I2 => StQ T (cS0 T (sk T a)) I2 ta t ∧ FrS I I2 ta t)) := by
  refine Ct.of (by decide) (by simp [Value.category]) (Nat.le_of_ble_eq_true rfl) ?_
  have hl3 := hT.2.1
  show wp _ _ _ _ 0 [some (.ref ta), some (.ref t), some (.int (nI 1)), none] [] _ _
  refine r_aload_n (pc := 0) dX6_readStatement_0 rfl ?_
  refine r_callV_V (pc := 1) (b := ta) (As := []) 6 34 dX6_readStatement_1 lk_X6_skipBlanks (ml_RX6_34 rfl) im_X6_skipBlanks se_X6_skipBlanks (by decide) (c6_o h6) (Nat.le_of_ble_eq_true rfl) rfl (skipBlanks_ct h6 hT ha hal) (fun I1 hI1 => ?_)
  obtain ⟨p, hp⟩ : ∃ z, z = sk T a := ⟨_, rfl⟩
  have hps := sk_is hal
  rw [← hp] at hps hI1
  rw [← hp]
  have ha1 := hI1.1
  have hF1 : FrT I I1 ta := fun c k z => hI1.2 c k (by omega)
  have hT1 := hT.keep hF1
  have hw1 : I1 ta 3 = sI none := (hI1.2 _ _ (by omega)).trans hw
  have hD1 : DrC I1 t (dZ 0) := hD.keep (fun c k g1 g2 g3 => hF1 c k (by omega))
  have hbp := hT.2.2.2 p
  refine r_aload_n (pc := 4) dX6_readStatement_4 rfl ?_
  refine r_getIv (pc := 5) 6 2 19 dX6_readStatement_5 (fl_RX6_19 rfl) (by decide) rfl (c6_o h6) (v := nI p) (ha1) ?_
  refine r_aload_n (pc := 8) dX6_readStatement_8 rfl ?_
  refine r_getIv (pc := 9) 6 1 15 dX6_readStatement_9 (fl_RX6_15 rfl) (by decide) rfl (c6_o h6) (v := nI T.1) (hT1.1) ?_
  refine r_icmp_lt_n (pc := 12) (a := p) (b := T.1) (tgt := 24) dX6_readStatement_12 (by decide) (by omega) (by omega) (fun c12 => ?_) (fun c12 => ?_)
  · skip
    refine r_aload_n (pc := 24) dX6_readStatement_24 rfl ?_
    refine r_get1 (pc := 25) 6 0 9 dX6_readStatement_25 (fl_RX6_9 rfl) (by decide) rfl (c6_o h6) (c6_p0 h6) ?_
    refine r_aload_n (pc := 28) dX6_readStatement_28 rfl ?_
    refine r_getIv (pc := 29) 6 2 19 dX6_readStatement_29 (fl_RX6_19 rfl) (by decide) rfl (c6_o h6) (v := nI p) (ha1) ?_
    refine r_iald_n (pc := 32) (i := p) dX6_readStatement_32 (c6_a0 h6) (by decide) (by omega) (v := nI (T.2 p)) (hT1.2.2.1 _ (by omega)) ?_
    refine r_istore_n (pc := 33) (L' := [some (.ref ta), some (.ref t), some (.int (nI 1)), some (.int (nI (T.2 p)))]) dX6_readStatement_33 (by decide) rfl rfl ?_
    refine r_iload_n (pc := 34) dX6_readStatement_34 rfl ?_
    refine r_iload_n (pc := 35) dX6_readStatement_35 rfl ?_
    refine r_bipush (pc := 36) (v := 110) dX6_readStatement_36 (by decide) ?_
    refine r_icmp_ne_n (pc := 38) (a := T.2 p) (b := 110) (tgt := 45) dX6_readStatement_38 (by decide) (by omega) (by omega) (fun c38 => ?_) (fun c38 => ?_)
    · skip
      refine r_iconst (pc := 45) (v := 0) dX6_readStatement_45 (by decide) ?_
      refine r_icmp_eq_n (pc := 46) (a := 1) (b := 0) (tgt := 58) dX6_readStatement_46 (by decide) (by omega) (by omega) (fun c46 => ?_) (fun c46 => ?_)
      · exfalso; omega
      · skip
        refine r_aload_n (pc := 49) dX6_readStatement_49 rfl ?_
        refine r_aload_n (pc := 50) dX6_readStatement_50 rfl ?_
        refine r_getIv (pc := 51) 6 2 19 dX6_readStatement_51 (fl_RX6_19 rfl) (by decide) rfl (c6_o h6) (v := nI p) (ha1) ?_
        refine r_putI (pc := 54) (v := nI p) 6 3 22 dX6_readStatement_54 (fl_RX6_22 rfl) (by decide) rfl rfl (c6_o h6) ?_
        refine r_ret_v (pc := 57) dX6_readStatement_57 rfl ?_
        refine ⟨rfl, _, rfl, ⟨p, some p, hps.2.1, (up2_rd (by omega)).trans ha1, up2_at, fun f z => (by cases z; omega), Or.inl ⟨p, rfl, if_neg (by omega)⟩⟩, fun c k g1 g2 => (up2_rd (by omega)).trans (hF1 c k g2)⟩
    · skip
      refine r_iconst (pc := 41) (v := 1) dX6_readStatement_41 (by decide) ?_
      refine r_goto (pc := 42) (tgt := 46) dX6_readStatement_42 (by decide) ?_
      refine r_icmp_eq_n (pc := 46) (a := 1) (b := 1) (tgt := 58) dX6_readStatement_46 (by decide) (by omega) (by omega) (fun c46 => ?_) (fun c46 => ?_)
      · skip
        refine r_iload_n (pc := 58) dX6_readStatement_58 rfl ?_
        refine r_lookup (pc := 59) (x := nI (T.2 p)) (off := 49) (tgt := 108) dX6_readStatement_59 (by decide) (by rw [c38]; decide) (by decide) ?_
        have hcs : cS0 T p = bn (cN T 1 8 nob (p + 1)) (fun n a => .inr (dZ n, a)) := if_pos ⟨by omega, c38⟩
        refine r_aload_n (pc := 108) dX6_readStatement_108 rfl ?_
        refine r_dup (pc := 109) dX6_readStatement_109 rfl ?_
        refine r_getIv (pc := 110) 6 2 19 dX6_readStatement_110 (fl_RX6_19 rfl) (by decide) rfl (c6_o h6) (v := nI p) (ha1) ?_
        refine r_iconst (pc := 113) (v := 1) dX6_readStatement_113 (by decide) ?_
        refine r_iadd_n (pc := 114) (a := p) (b := 1) dX6_readStatement_114 ?_
        refine r_putI (pc := 115) (v := nI (p + 1)) 6 2 19 dX6_readStatement_115 (fl_RX6_19 rfl) (by decide) rfl rfl (c6_o h6) ?_
        obtain ⟨I2, hI2⟩ : ∃ zz0 : Im, zz0 = up2 I1 ta 2 (nI (p + 1)) := ⟨_, rfl⟩
        refine wp_M (M2 := (I2, G)) (by subst hI2; rfl) ?_
        have hF2 : FrT I I2 ta := by rw [hI2]; exact hF1.u2
        have hT2 := hT.keep hF2
        have ha2 : I2 ta 2 = nI (p + 1) := by rw [hI2]; exact up2_at
        have hw2 : I2 ta 3 = sI none := by rw [hI2, up2_rd (by omega)]; exact hw1
        have hD2 : DrC I2 t (dZ 0) := hD.keep (fun c k g1 g2 g3 => hF2 c k (by omega))
        refine r_aload_n (pc := 118) dX6_readStatement_118 rfl ?_
        refine r_aload_n (pc := 119) dX6_readStatement_119 rfl ?_
        refine r_iconst (pc := 120) (v := 1) dX6_readStatement_120 (by decide) ?_
        refine r_bipush (pc := 121) (v := 8) dX6_readStatement_121 (by decide) ?_
        refine r_callV_M (pc := 123) (b := ta) (As := [.int (nI 1), .int (nI 8)]) 6 37 dX6_readStatement_123 lk_X6_readNumber (ml_RX6_37 rfl) im_X6_readNumber se_X6_readNumber (by decide) (c6_o h6) (Nat.le_of_ble_eq_true rfl) rfl (readNumber_ct h6 hT2 ha2 (by omega) hw2 (fun f z => by cases z) (by omega) (by omega)) (fun v123 I3 hr3 => ?_)
        obtain ⟨x, a3, wr3, rfl, hx, hal3, ha3, hw3, hF3, hn3, hm3, hwf3⟩ := hr3
        have hG3 := hF2.tr hF3
        refine r_putI (pc := 126) (v := nI x) 8 0 41 dX6_readStatement_126 (fl_RX6_41 rfl) (by decide) rfl rfl (c8_o h8) ?_
        refine r_ret_v (pc := 129) dX6_readStatement_129 rfl ?_
        rcases n_last (bad := nob) (K := fun n a => (.inr (dZ n, a) : Sr)) (hn3 rfl) with ⟨f, e, h⟩ | ⟨e, b, _⟩ | ⟨e, b, hd, h⟩ | ⟨e, b, hd, h⟩
        · exact ⟨rfl, _, rfl, ⟨a3, wr3, hal3, (up2_rd (by omega)).trans ha3, (up2_rd (by omega)).trans hw3, hwf3, Or.inl ⟨f, e, hcs.trans h⟩⟩, fun c k g1 g2 => (up2_rd (by omega)).trans (hG3 c k g2)⟩
        · cases b
        · exact ⟨rfl, _, rfl, ⟨a3, wr3, hal3, (up2_rd (by omega)).trans ha3, (up2_rd (by omega)).trans hw3, hwf3, Or.inr (Or.inr ⟨e, hcs.trans h, hd⟩)⟩, fun c k g1 g2 => (up2_rd (by omega)).trans (hG3 c k g2)⟩
        · refine ⟨rfl, _, rfl, ⟨a3, wr3, hal3, (up2_rd (by omega)).trans ha3, (up2_rd (by omega)).trans hw3, hwf3, Or.inr (Or.inl ⟨e, _, hcs.trans h, ?_⟩)⟩, fun c k g1 g2 => (up2_rd (by omega)).trans (hG3 c k g2)⟩
          have q : DrC I3 t (dZ 0) := hD.keep (fun c k g1 g2 g3 => hG3 c k (by omega))
          exact ⟨up2_at, (up2_rd (by omega)).trans q.2.1, fun y hy => ⟨(up2_rd (by omega)).trans (q.2.2.1 y hy).1, (up2_rd (by omega)).trans (q.2.2.1 y hy).2.1, (up2_rd (by omega)).trans (q.2.2.1 y hy).2.2.1, (up2_rd (by omega)).trans (q.2.2.1 y hy).2.2.2⟩, fun y z hy hz => (up2_rd (by omega)).trans (q.2.2.2 y z hy hz)⟩
      · exfalso; omega
  · skip
    refine r_aload_n (pc := 15) dX6_readStatement_15 rfl ?_
    refine r_aload_n (pc := 16) dX6_readStatement_16 rfl ?_
    refine r_getIv (pc := 17) 6 1 15 dX6_readStatement_17 (fl_RX6_15 rfl) (by decide) rfl (c6_o h6) (v := nI T.1) (hT1.1) ?_
    obtain rfl : p = T.1 := (by omega)
    refine r_putI (pc := 20) (v := nI T.1) 6 3 22 dX6_readStatement_20 (fl_RX6_22 rfl) (by decide) rfl rfl (c6_o h6) ?_
    refine r_ret_v (pc := 23) dX6_readStatement_23 rfl ?_
    refine ⟨rfl, _, rfl, ⟨T.1, some T.1, Nat.le_refl _, (up2_rd (by omega)).trans ha1, up2_at, fun f z => (by cases z; omega), Or.inl ⟨T.1, rfl, ?_⟩⟩, fun c k g1 g2 => (up2_rd (by omega)).trans (hF1 c k g2)⟩
    exact if_neg (by omega)

def RdQ (T : Tp) (v : Int32) (I2 : Im) (t : Nat) : Prop := (∃ f, pA T = .inl f ∧ v = nI f ∧ f ≤ 300) ∨ (∃ D, pA T = .inr D ∧ v = -1 ∧ DrC I2 t D ∧ DrOK D)
theorem stA_ok {T : Tp} {oD : Option Dr} {p : Nat} (hD : ∀ D, oD = some D → DrOK D) {D2 : Dr} {e : Nat} (h : stA T oD p = .inr (D2, e)) : DrOK D2 ∧ p < e ∧ e ≤ T.1 := by
  cases oD with
  | none => exact cS0_ok h
  | some D => exact cSt_ok (hD D rfl) h
theorem fr_l {T : Tp} {oD : Option Dr} {a f : Nat} (h : stA T oD (sk T a) = .inl f) : fromA T oD a = .inl f := by
  unfold fromA
  rw [h]
theorem fr_r {T : Tp} {oD : Option Dr} {a e : Nat} {D2 : Dr} (h : stA T oD (sk T a) = .inr (D2, e)) : fromA T oD a = lp T D2 e := by
  unfold fromA
  rw [h]
theorem sk_dg {T : Tp} {a : Nat} (h : dgB T a = true) : sk T a = a := by
  have := of_decide_eq_true h
  rw [sk_eq, if_neg (by omega)]
/-- behind a statement: three ways on -/
theorem rd_next {T : Tp} {oD : Option Dr} {a a2 : Nat} {I2 : Im} {t : Nat} (hD : ∀ D, oD = some D → DrOK D) (hal : a2 ≤ T.1) (h : (∃ D2, stA T oD (sk T a) = .inr (D2, a2) ∧ DrC I2 t D2) ∨ (stA T oD (sk T a) = .inl a2 ∧ dgB T a2 = true)) :
    (¬ sk T a2 < T.1 → ∃ D2, fromA T oD a = .inr D2 ∧ DrC I2 t D2 ∧ DrOK D2) ∧ (sk T a2 < T.1 → ¬ T.2 (sk T a2) = 59 → fromA T oD a = .inl (sk T a2)) ∧ (sk T a2 < T.1 → T.2 (sk T a2) = 59 → ∃ D2, fromA T oD a = fromA T (some D2) (sk T a2 + 1) ∧ DrC I2 t D2 ∧ DrOK D2 ∧ sk T a < a2) := by
  rcases h with ⟨D2, h, hc⟩ | ⟨h, hd⟩
  · have hk := stA_ok hD h
    rw [fr_r h, lp_eq hal hk.1]
    refine ⟨fun z => ⟨D2, ?_, hc, hk.1⟩, fun z1 z2 => ?_, fun z1 z2 => ⟨D2, ?_, hc, hk.1, hk.2.1⟩⟩
    · rw [if_neg (fun q => z q.1), if_neg z]
    · rw [if_neg (fun q => z2 q.2), if_pos z1]
    · rw [if_pos ⟨z1, z2⟩]
      rfl
  · have hx := of_decide_eq_true hd
    rw [fr_l h, sk_dg hd]
    exact ⟨fun z => absurd hx.1 z, fun _ _ => rfl, fun _ z => by omega⟩

theorem TpC.keepS {I I2 : Im} {ta t : Nat} {T : Tp} (h : TpC I ta T) (hf : FrS I I2 ta t) (hs : ta + 2 ≤ t) : TpC I2 ta T := ⟨(hf _ _ (by omega) (by omega)).trans h.1, h.2.1, fun i hi => (hf _ _ (by omega) (by omega)).trans (h.2.2.1 i hi), h.2.2.2⟩

set_option maxRecDepth 100000 in
theorem read_ct {d : Nat} {I : Im} {G : Gm} {ta t : Nat} {T : Tp} (h6 : isC6 G ta) (h8 : isC8 G t) (hsep : ta + 2 ≤ t) (hT : TpC I ta T) : Ct (d + 5) 0 0 YX6_read [.ref ta, .ref t] (I, G) (qM G (fun v I2 => RdQ T v I2 t ∧ FrS I I2 ta t)) := by
  refine Ct.of (by decide) (by simp [Value.category]) (Nat.le_of_ble_eq_true rfl) ?_
  have hl3 := hT.2.1
  show wp _ _ _ _ 0 [some (.ref ta), some (.ref t), none] [] _ _
  refine r_aload_n (pc := 0) dX6_read_0 rfl ?_
  refine r_iconst (pc := 1) (v := 0) dX6_read_1 (by decide) ?_
  refine r_putI (pc := 2) (v := nI 0) 6 2 19 dX6_read_2 (fl_RX6_19 rfl) (by decide) rfl rfl (c6_o h6) ?_
  refine r_aload_n (pc := 5) dX6_read_5 rfl ?_
  refine r_iconst (pc := 6) (v := -1) dX6_read_6 (by decide) ?_
  refine r_putI (pc := 7) (v := (-1)) 6 3 22 dX6_read_7 (fl_RX6_22 rfl) (by decide) rfl rfl (c6_o h6) ?_
  refine r_aload_n (pc := 10) dX6_read_10 rfl ?_
  refine r_callV_V (pc := 11) (b := t) (As := []) 8 25 dX6_read_11 lk_X8_empty (ml_RX6_25 rfl) im_X8_empty se_X8_empty (by decide) (c8_o h8) (Nat.le_of_ble_eq_true rfl) rfl (empty_ct h8) (fun I0 hI0 => ?_)
  have hF0 : FrS I I0 ta t := fun c k g1 g2 => (hI0.2 c k g1).trans ((up2_rd (by omega)).trans (up2_rd (by omega)))
  have hT0 : TpC I0 ta T := hT.keepS hF0 hsep
  have ha0 : I0 ta 2 = nI 0 := (hI0.2 _ _ (by omega)).trans ((up2_rd (by omega)).trans up2_at)
  have hw0 : I0 ta 3 = sI none := (hI0.2 _ _ (by omega)).trans up2_at
  refine r_iconst (pc := 14) (v := 0) dX6_read_14 (by decide) ?_
  refine r_istore_n (pc := 15) (L' := [some (.ref ta), some (.ref t), some (.int (nI 0))]) dX6_read_15 (by decide) rfl rfl ?_
  have lp16 : ∀ (n16 : Nat), ∀ (i : Nat) (a : Nat) (oD : Option Dr) (I1 : Im), T.1 - a = n16 → (i ≤ a ∧ a ≤ T.1) → ((oD = none → i = 0) ∧ (∀ D, oD = some D → 1 ≤ i)) → (DrC I1 t (oD.getD (dZ 0))) → (∀ D, oD = some D → DrOK D) → (I1 ta 2 = nI a) → (I1 ta 3 = sI none) → (pA T = fromA T oD a) → (FrS I I1 ta t) → wp (d + 5) 0 0 YX6_read 16 [some (.ref ta), some (.ref t), some (.int (nI i))] [] (I1, G) (qM G (fun v I2 => RdQ T v I2 t ∧ FrS I I2 ta t)) := by
    intro n16
    induction n16 using Nat.strongRecOn with
    | ind n16 ih16 =>
      intro i a oD I1 hmu16 hia hoi hDr hDk ha1 hw1 hpa hF1
      have hT1 := hT.keepS hF1 hsep
      rcases oD with _ | D
      · skip
        obtain rfl : i = 0 := hoi.1 rfl
        refine r_iload_n (pc := 16) dX6_read_16 rfl ?_
        refine r_sipush (pc := 17) (v := 300) dX6_read_17 (by decide) ?_
        refine r_icmp_gt_n (pc := 20) (a := 0) (b := 300) (tgt := 100) dX6_read_20 (by decide) (by first | omega | (have := hwf2; omega)) (by first | omega | (have := hwf2; omega)) (fun c20 => ?_) (fun c20 => ?_)
        · exfalso; omega
        · skip
          refine r_aload_n (pc := 23) dX6_read_23 rfl ?_
          refine r_aload_n (pc := 24) dX6_read_24 rfl ?_
          refine r_iload_n (pc := 25) dX6_read_25 rfl ?_
          refine r_if_ne_n (pc := 26) (a := 0) (tgt := 33) dX6_read_26 (by decide) (by first | omega | (have := hwf2; omega)) (fun c26 => ?_) (fun c26 => ?_)
          · exfalso; exact c26 rfl
          · skip
            refine r_iconst (pc := 29) (v := 1) dX6_read_29 (by decide) ?_
            refine r_goto (pc := 30) (tgt := 34) dX6_read_30 (by decide) ?_
            refine r_callV_V (pc := 34) (b := ta) (As := [.ref t, .int (nI 1)]) 6 30 dX6_read_34 lk_X6_readStatement (ml_RX6_30 rfl) im_X6_readStatement se_X6_readStatement (by decide) (c6_o h6) (Nat.le_of_ble_eq_true rfl) rfl (readStatement_0 h6 h8 hsep hT1 ha1 (by omega) hw1 hDr) (fun I2 hI2 => ?_)
            obtain ⟨⟨a2, wr2, hal2, ha2, hw2, hwf2, hst⟩, hFs⟩ := hI2
            have hF2 := hF1.tr hFs
            have hT2 := hT.keepS hF2 hsep
            refine r_aload_n (pc := 37) dX6_read_37 rfl ?_
            refine r_callV_V (pc := 38) (b := ta) (As := []) 6 34 dX6_read_38 lk_X6_skipBlanks (ml_RX6_34 rfl) im_X6_skipBlanks se_X6_skipBlanks (by decide) (c6_o h6) (Nat.le_of_ble_eq_true rfl) rfl (skipBlanks_ct h6 hT2 ha2 hal2) (fun I3 hI3 => ?_)
            obtain ⟨q, hq⟩ : ∃ z, z = sk T a2 := ⟨_, rfl⟩
            have hqs := sk_is hal2
            rw [← hq] at hqs hI3
            have hF3 : FrS I I3 ta t := fun c k g1 g2 => (hI3.2 c k (by omega)).trans (hF2 c k g1 g2)
            have hT3 := hT.keepS hF3 hsep
            have ha3 := hI3.1
            have hw3 : I3 ta 3 = sI wr2 := (hI3.2 _ _ (by omega)).trans hw2
            have hbq := hT.2.2.2 q
            refine r_aload_n (pc := 41) dX6_read_41 rfl ?_
            refine r_getIv (pc := 42) 6 3 22 dX6_read_42 (fl_RX6_22 rfl) (by decide) rfl (c6_o h6) (v := sI wr2) (hw3) ?_
            refine r_iconst (pc := 45) (v := -1) dX6_read_45 (by decide) ?_
            refine r_icmp_ne (pc := 46) (x := sI wr2) (z := (-1)) (tgt := 60) dX6_read_46 (by decide) (fun c46 => ?_) (fun c46 => ?_)
            · skip
              obtain ⟨f, hf⟩ : ∃ f, wr2 = some f := (by cases hz : wr2 with | none => rw [hz] at c46; exact absurd rfl c46 | some f => exact ⟨f, rfl⟩)
              have hpf : pA T = .inl f := by
                rcases hst with ⟨g, e, h⟩ | ⟨e, _⟩ | ⟨e, _⟩
                · rw [hf] at e; cases e; exact hpa.trans (fr_l h)
                · rw [hf] at e; cases e
                · rw [hf] at e; cases e
              have hfin : RdQ T (sI wr2) I3 t := Or.inl ⟨f, hpf, by rw [hf]; rfl, hwf2 f hf⟩
              refine r_aload_n (pc := 60) dX6_read_60 rfl ?_
              refine r_getIv (pc := 61) 6 3 22 dX6_read_61 (fl_RX6_22 rfl) (by decide) rfl (c6_o h6) (v := sI wr2) (hw3) ?_
              refine r_ret_i (pc := 64) dX6_read_64 rfl ?_
              exact ⟨_, I3, rfl, rfl, hfin, hF3⟩
            · skip
              have hwn : wr2 = none := (sI_m1 (fun c hc => by have := hwf2 c hc; omega)).mp c46
              have hrn := rd_next (a := a) (I2 := I2) (t := t) hDk hal2 (hst.elim (fun z => by obtain ⟨f, e, _⟩ := z; rw [hwn] at e; cases e) (fun z => z.imp (fun y => y.2) (fun y => y.2)))
              rw [← hq] at hrn
              refine r_aload_n (pc := 49) dX6_read_49 rfl ?_
              refine r_getIv (pc := 50) 6 2 19 dX6_read_50 (fl_RX6_19 rfl) (by decide) rfl (c6_o h6) (v := nI q) (ha3) ?_
              refine r_aload_n (pc := 53) dX6_read_53 rfl ?_
              refine r_getIv (pc := 54) 6 1 15 dX6_read_54 (fl_RX6_15 rfl) (by decide) rfl (c6_o h6) (v := nI T.1) (hT3.1) ?_
              refine r_icmp_lt_n (pc := 57) (a := q) (b := T.1) (tgt := 65) dX6_read_57 (by decide) (by first | omega | (have := hwf2; omega)) (by first | omega | (have := hwf2; omega)) (fun c57 => ?_) (fun c57 => ?_)
              · skip
                refine r_aload_n (pc := 65) dX6_read_65 rfl ?_
                refine r_get1 (pc := 66) 6 0 9 dX6_read_66 (fl_RX6_9 rfl) (by decide) rfl (c6_o h6) (c6_p0 h6) ?_
                refine r_aload_n (pc := 69) dX6_read_69 rfl ?_
                refine r_getIv (pc := 70) 6 2 19 dX6_read_70 (fl_RX6_19 rfl) (by decide) rfl (c6_o h6) (v := nI q) (ha3) ?_
                refine r_iald_n (pc := 73) (i := q) dX6_read_73 (c6_a0 h6) (by decide) (by omega) (v := nI (T.2 q)) (hT3.2.2.1 _ (by omega)) ?_
                refine r_bipush (pc := 74) (v := 59) dX6_read_74 (by decide) ?_
                refine r_icmp_eq_n (pc := 76) (a := T.2 q) (b := 59) (tgt := 84) dX6_read_76 (by decide) (by first | omega | (have := hwf2; omega)) (by first | omega | (have := hwf2; omega)) (fun c76 => ?_) (fun c76 => ?_)
                · skip
                  obtain ⟨D2, hpn, hDn, hkn, hlt⟩ := hrn.2.2 (by omega) c76
                  have hska := (sk_is hia.2).1
                  refine r_aload_n (pc := 84) dX6_read_84 rfl ?_
                  refine r_dup (pc := 85) dX6_read_85 rfl ?_
                  refine r_getIv (pc := 86) 6 2 19 dX6_read_86 (fl_RX6_19 rfl) (by decide) rfl (c6_o h6) (v := nI q) (ha3) ?_
                  refine r_iconst (pc := 89) (v := 1) dX6_read_89 (by decide) ?_
                  refine r_iadd_n (pc := 90) (a := q) (b := 1) dX6_read_90 ?_
                  refine r_putI (pc := 91) (v := nI (q + 1)) 6 2 19 dX6_read_91 (fl_RX6_19 rfl) (by decide) rfl rfl (c6_o h6) ?_
                  refine r_iinc (pc := 94) (v := nI 1) (L' := [some (.ref ta), some (.ref t), some (.int (nI 1))]) dX6_read_94 rfl (nI_inc _) (by decide) rfl rfl ?_
                  refine r_goto (pc := 97) (tgt := 16) dX6_read_97 (by decide) ?_
                  exact ih16 _ (by omega) 1 (q + 1) (some D2) (up2 I3 ta 2 (nI (q + 1))) rfl (by omega) (by exact ⟨fun z => (by cases z), fun _ _ => (by omega)⟩) (by exact hDn.keep (fun c k g1 g2 g3 => (up2_rd (by omega)).trans (hI3.2 c k (by omega)))) (by exact fun D z => (by cases z; exact hkn)) (by exact up2_at) (by exact (up2_rd (by omega)).trans (hw3.trans (by rw [hwn]))) (hpa.trans hpn) (by exact fun c k g1 g2 => (up2_rd (by omega)).trans (hF3 c k g1 g2))
                · skip
                  refine r_aload_n (pc := 79) dX6_read_79 rfl ?_
                  refine r_getIv (pc := 80) 6 2 19 dX6_read_80 (fl_RX6_19 rfl) (by decide) rfl (c6_o h6) (v := nI q) (ha3) ?_
                  refine r_ret_i (pc := 83) dX6_read_83 rfl ?_
                  exact ⟨_, I3, rfl, rfl, Or.inl ⟨q, hpa.trans (hrn.2.1 (by omega) c76), rfl, by omega⟩, hF3⟩
              · skip
                have hfin : RdQ T (sI wr2) I3 t := by
                  obtain ⟨D2, h1, h2, h3⟩ := hrn.1 (by omega)
                  exact Or.inr ⟨D2, hpa.trans h1, by rw [hwn]; rfl, h2.keep (fun c k g1 g2 g3 => hI3.2 c k (by omega)), h3⟩
                refine r_aload_n (pc := 60) dX6_read_60 rfl ?_
                refine r_getIv (pc := 61) 6 3 22 dX6_read_61 (fl_RX6_22 rfl) (by decide) rfl (c6_o h6) (v := sI wr2) (hw3) ?_
                refine r_ret_i (pc := 64) dX6_read_64 rfl ?_
                exact ⟨_, I3, rfl, rfl, hfin, hF3⟩
      · skip
        have hi1 := hoi.2 D rfl
        refine r_iload_n (pc := 16) dX6_read_16 rfl ?_
        refine r_sipush (pc := 17) (v := 300) dX6_read_17 (by decide) ?_
        refine r_icmp_gt_n (pc := 20) (a := i) (b := 300) (tgt := 100) dX6_read_20 (by decide) (by first | omega | (have := hwf2; omega)) (by first | omega | (have := hwf2; omega)) (fun c20 => ?_) (fun c20 => ?_)
        · exfalso; omega
        · skip
          refine r_aload_n (pc := 23) dX6_read_23 rfl ?_
          refine r_aload_n (pc := 24) dX6_read_24 rfl ?_
          refine r_iload_n (pc := 25) dX6_read_25 rfl ?_
          refine r_if_ne_n (pc := 26) (a := i) (tgt := 33) dX6_read_26 (by decide) (by first | omega | (have := hwf2; omega)) (fun c26 => ?_) (fun c26 => ?_)
          · skip
            refine r_iconst (pc := 33) (v := 0) dX6_read_33 (by decide) ?_
            refine r_callV_V (pc := 34) (b := ta) (As := [.ref t, .int (nI 0)]) 6 30 dX6_read_34 lk_X6_readStatement (ml_RX6_30 rfl) im_X6_readStatement se_X6_readStatement (by decide) (c6_o h6) (Nat.le_of_ble_eq_true rfl) rfl (readStatement_s h6 h8 hsep hT1 ha1 (by omega) hw1 hDr (hDk D rfl)) (fun I2 hI2 => ?_)
            obtain ⟨⟨a2, wr2, hal2, ha2, hw2, hwf2, hst⟩, hFs⟩ := hI2
            have hF2 := hF1.tr hFs
            have hT2 := hT.keepS hF2 hsep
            refine r_aload_n (pc := 37) dX6_read_37 rfl ?_
            refine r_callV_V (pc := 38) (b := ta) (As := []) 6 34 dX6_read_38 lk_X6_skipBlanks (ml_RX6_34 rfl) im_X6_skipBlanks se_X6_skipBlanks (by decide) (c6_o h6) (Nat.le_of_ble_eq_true rfl) rfl (skipBlanks_ct h6 hT2 ha2 hal2) (fun I3 hI3 => ?_)
            obtain ⟨q, hq⟩ : ∃ z, z = sk T a2 := ⟨_, rfl⟩
            have hqs := sk_is hal2
            rw [← hq] at hqs hI3
            have hF3 : FrS I I3 ta t := fun c k g1 g2 => (hI3.2 c k (by omega)).trans (hF2 c k g1 g2)
            have hT3 := hT.keepS hF3 hsep
            have ha3 := hI3.1
            have hw3 : I3 ta 3 = sI wr2 := (hI3.2 _ _ (by omega)).trans hw2
            have hbq := hT.2.2.2 q
            refine r_aload_n (pc := 41) dX6_read_41 rfl ?_
            refine r_getIv (pc := 42) 6 3 22 dX6_read_42 (fl_RX6_22 rfl) (by decide) rfl (c6_o h6) (v := sI wr2) (hw3) ?_
            refine r_iconst (pc := 45) (v := -1) dX6_read_45 (by decide) ?_
            refine r_icmp_ne (pc := 46) (x := sI wr2) (z := (-1)) (tgt := 60) dX6_read_46 (by decide) (fun c46 => ?_) (fun c46 => ?_)
            · skip
              obtain ⟨f, hf⟩ : ∃ f, wr2 = some f := (by cases hz : wr2 with | none => rw [hz] at c46; exact absurd rfl c46 | some f => exact ⟨f, rfl⟩)
              have hpf : pA T = .inl f := by
                rcases hst with ⟨g, e, h⟩ | ⟨e, _⟩ | ⟨e, _⟩
                · rw [hf] at e; cases e; exact hpa.trans (fr_l h)
                · rw [hf] at e; cases e
                · rw [hf] at e; cases e
              have hfin : RdQ T (sI wr2) I3 t := Or.inl ⟨f, hpf, by rw [hf]; rfl, hwf2 f hf⟩
              refine r_aload_n (pc := 60) dX6_read_60 rfl ?_
              refine r_getIv (pc := 61) 6 3 22 dX6_read_61 (fl_RX6_22 rfl) (by decide) rfl (c6_o h6) (v := sI wr2) (hw3) ?_
              refine r_ret_i (pc := 64) dX6_read_64 rfl ?_
              exact ⟨_, I3, rfl, rfl, hfin, hF3⟩
            · skip
              have hwn : wr2 = none := (sI_m1 (fun c hc => by have := hwf2 c hc; omega)).mp c46
              have hrn := rd_next (a := a) (I2 := I2) (t := t) hDk hal2 (hst.elim (fun z => by obtain ⟨f, e, _⟩ := z; rw [hwn] at e; cases e) (fun z => z.imp (fun y => y.2) (fun y => y.2)))
              rw [← hq] at hrn
              refine r_aload_n (pc := 49) dX6_read_49 rfl ?_
              refine r_getIv (pc := 50) 6 2 19 dX6_read_50 (fl_RX6_19 rfl) (by decide) rfl (c6_o h6) (v := nI q) (ha3) ?_
              refine r_aload_n (pc := 53) dX6_read_53 rfl ?_
              refine r_getIv (pc := 54) 6 1 15 dX6_read_54 (fl_RX6_15 rfl) (by decide) rfl (c6_o h6) (v := nI T.1) (hT3.1) ?_
              refine r_icmp_lt_n (pc := 57) (a := q) (b := T.1) (tgt := 65) dX6_read_57 (by decide) (by first | omega | (have := hwf2; omega)) (by first | omega | (have := hwf2; omega)) (fun c57 => ?_) (fun c57 => ?_)
              · skip
                refine r_aload_n (pc := 65) dX6_read_65 rfl ?_
                refine r_get1 (pc := 66) 6 0 9 dX6_read_66 (fl_RX6_9 rfl) (by decide) rfl (c6_o h6) (c6_p0 h6) ?_
                refine r_aload_n (pc := 69) dX6_read_69 rfl ?_
                refine r_getIv (pc := 70) 6 2 19 dX6_read_70 (fl_RX6_19 rfl) (by decide) rfl (c6_o h6) (v := nI q) (ha3) ?_
                refine r_iald_n (pc := 73) (i := q) dX6_read_73 (c6_a0 h6) (by decide) (by omega) (v := nI (T.2 q)) (hT3.2.2.1 _ (by omega)) ?_
                refine r_bipush (pc := 74) (v := 59) dX6_read_74 (by decide) ?_
                refine r_icmp_eq_n (pc := 76) (a := T.2 q) (b := 59) (tgt := 84) dX6_read_76 (by decide) (by first | omega | (have := hwf2; omega)) (by first | omega | (have := hwf2; omega)) (fun c76 => ?_) (fun c76 => ?_)
                · skip
                  obtain ⟨D2, hpn, hDn, hkn, hlt⟩ := hrn.2.2 (by omega) c76
                  have hska := (sk_is hia.2).1
                  refine r_aload_n (pc := 84) dX6_read_84 rfl ?_
                  refine r_dup (pc := 85) dX6_read_85 rfl ?_
                  refine r_getIv (pc := 86) 6 2 19 dX6_read_86 (fl_RX6_19 rfl) (by decide) rfl (c6_o h6) (v := nI q) (ha3) ?_
                  refine r_iconst (pc := 89) (v := 1) dX6_read_89 (by decide) ?_
                  refine r_iadd_n (pc := 90) (a := q) (b := 1) dX6_read_90 ?_
                  refine r_putI (pc := 91) (v := nI (q + 1)) 6 2 19 dX6_read_91 (fl_RX6_19 rfl) (by decide) rfl rfl (c6_o h6) ?_
                  refine r_iinc (pc := 94) (v := nI (i + 1)) (L' := [some (.ref ta), some (.ref t), some (.int (nI (i + 1)))]) dX6_read_94 rfl (nI_inc _) (by decide) rfl rfl ?_
                  refine r_goto (pc := 97) (tgt := 16) dX6_read_97 (by decide) ?_
                  exact ih16 _ (by omega) (i + 1) (q + 1) (some D2) (up2 I3 ta 2 (nI (q + 1))) rfl (by omega) (by exact ⟨fun z => (by cases z), fun _ _ => (by omega)⟩) (by exact hDn.keep (fun c k g1 g2 g3 => (up2_rd (by omega)).trans (hI3.2 c k (by omega)))) (by exact fun D z => (by cases z; exact hkn)) (by exact up2_at) (by exact (up2_rd (by omega)).trans (hw3.trans (by rw [hwn]))) (hpa.trans hpn) (by exact fun c k g1 g2 => (up2_rd (by omega)).trans (hF3 c k g1 g2))
                · skip
                  refine r_aload_n (pc := 79) dX6_read_79 rfl ?_
                  refine r_getIv (pc := 80) 6 2 19 dX6_read_80 (fl_RX6_19 rfl) (by decide) rfl (c6_o h6) (v := nI q) (ha3) ?_
                  refine r_ret_i (pc := 83) dX6_read_83 rfl ?_
                  exact ⟨_, I3, rfl, rfl, Or.inl ⟨q, hpa.trans (hrn.2.1 (by omega) c76), rfl, by omega⟩, hF3⟩
              · skip
                have hfin : RdQ T (sI wr2) I3 t := by
                  obtain ⟨D2, h1, h2, h3⟩ := hrn.1 (by omega)
                  exact Or.inr ⟨D2, hpa.trans h1, by rw [hwn]; rfl, h2.keep (fun c k g1 g2 g3 => hI3.2 c k (by omega)), h3⟩
                refine r_aload_n (pc := 60) dX6_read_60 rfl ?_
                refine r_getIv (pc := 61) 6 3 22 dX6_read_61 (fl_RX6_22 rfl) (by decide) rfl (c6_o h6) (v := sI wr2) (hw3) ?_
                refine r_ret_i (pc := 64) dX6_read_64 rfl ?_
                exact ⟨_, I3, rfl, rfl, hfin, hF3⟩
          · exfalso; omega
  exact lp16 _ 0 0 none I0 rfl (by omega) (by exact ⟨fun _ => rfl, fun D z => (by cases z)⟩) hI0.1 (by exact fun D z => (by cases z)) ha0 hw0 (by rfl) hF0

/-! what is fed -/
def shV : Nat → Int32
  | 0 => 24
  | j + 1 => shV j + (-8)
theorem shV_neg {j : Nat} (h : j ≤ 4) : shV j < 0 ↔ j = 4 := by
  match j, h with
  | 0, _ => decide
  | 1, _ => decide
  | 2, _ => decide
  | 3, _ => decide
  | 4, _ => decide
def byN (v : Int32) (j : Nat) : Nat := (v >>> (shV j &&& 31) &&& 255).toNatClampNeg
theorem byN_is (v : Int32) (j : Nat) : v >>> (shV j &&& 31) &&& 255 = nI (byN v j) ∧ byN v j ≤ 255 := by
  obtain ⟨k, hk, e⟩ := pk_andE (v >>> (shV j &&& 31)) (m := 255) 8 (by decide)
  unfold byN
  rw [e, nI_clamp (by omega)]
  exact ⟨rfl, by omega⟩
def bnF (v : Int32) : Nat → Nat
  | 0 => 0
  | j + 1 => bnF v j + (if byN v j = 0 then 0 else 1)
theorem bnF_mono {v : Int32} {a : Nat} : ∀ j, bnF v a ≤ bnF v (a + j)
  | 0 => Nat.le_refl _
  | j + 1 => Nat.le_trans (bnF_mono j) (Nat.le_add_right _ _)
theorem bnF_le (v : Int32) : ∀ j, bnF v j ≤ j
  | 0 => Nat.le_refl _
  | j + 1 => by
    unfold bnF
    have := bnF_le v j
    split <;> omega
def apF (T : Tp) (x : Nat) : Tp := if x = 0 then T else (T.1 + 1, fu T.2 T.1 x)
def puF (T : Tp) (v : Int32) : Nat → Tp
  | 0 => T
  | j + 1 => apF (puF T v j) (byN v j)
theorem puF_len (T : Tp) (v : Int32) : ∀ j, (puF T v j).1 = T.1 + bnF v j
  | 0 => rfl
  | j + 1 => by
    show (apF (puF T v j) (byN v j)).1 = _
    unfold apF bnF
    have := puF_len T v j
    by_cases h : byN v j = 0
    · rw [if_pos h, if_pos h]
      exact this
    · rw [if_neg h, if_neg h]
      show (puF T v j).1 + 1 = _
      omega

set_option maxRecDepth 100000 in
theorem bytesIn_ct {d : Nat} {I : Im} {G : Gm} {v : Int32} : Ct (d + 1) 0 0 YX6_bytesIn [.int v] (I, G) (qP (nI (bnF v 4)) (I, G)) := by
  refine Ct.of (by decide) (by simp [Value.category]) (Nat.le_of_ble_eq_true rfl) ?_
  show wp _ _ _ _ 0 [some (.int v), none, none] [] _ _
  refine r_iconst (pc := 0) (v := 0) dX6_bytesIn_0 (by decide) ?_
  refine r_istore_n (pc := 1) (L' := [some (.int v), some (.int (nI 0)), none]) dX6_bytesIn_1 (by decide) rfl rfl ?_
  refine r_bipush (pc := 2) (v := 24) dX6_bytesIn_2 (by decide) ?_
  refine r_istore_n (pc := 4) (L' := [some (.int v), some (.int (nI 0)), some (.int (nI 24))]) dX6_bytesIn_4 (by decide) rfl rfl ?_
  have lp5 : ∀ (n5 : Nat), ∀ (j : Nat) (c : Nat), 4 - j = n5 → (j ≤ 4) → (c = bnF v j) → wp (d + 1) 0 0 YX6_bytesIn 5 [some (.int v), some (.int (nI c)), some (.int (shV j))] [] (I, G) (qP (nI (bnF v 4)) (I, G)) := by
    intro n5
    induction n5 using Nat.strongRecOn with
    | ind n5 ih5 =>
      intro j c hmu5 hj hc
      refine r_iload_n (pc := 5) dX6_bytesIn_5 rfl ?_
      refine r_if_lt (pc := 6) (x := shV j) (tgt := 28) dX6_bytesIn_6 (by decide) (fun c6 => ?_) (fun c6 => ?_)
      · skip
        refine r_iload_n (pc := 28) dX6_bytesIn_28 rfl ?_
        refine r_ret_i (pc := 29) dX6_bytesIn_29 rfl ?_
        exact ⟨by rw [hc, (shV_neg hj).mp c6], rfl⟩
      · skip
        refine r_iload_n (pc := 9) dX6_bytesIn_9 rfl ?_
        refine r_iload_n (pc := 10) dX6_bytesIn_10 rfl ?_
        refine r_ishr (pc := 11) (x := v) (z := shV j) dX6_bytesIn_11 ?_
        refine r_sipush (pc := 12) (v := 255) dX6_bytesIn_12 (by decide) ?_
        refine r_iand (pc := 15) (x := v >>> ((shV j) &&& 31)) (z := 255) dX6_bytesIn_15 ?_
        have hby := byN_is v j
        · skip
          refine wp_S (st2 := [.int (nI (byN v j))]) (by rw [hby.1]) ?_
          refine r_if_eq_n (pc := 16) (a := byN v j) (tgt := 22) dX6_bytesIn_16 (by decide) (by omega) (fun c16 => ?_) (fun c16 => ?_)
          · skip
            refine r_iinc (pc := 22) (v := shV j + (-8)) (L' := [some (.int v), some (.int (nI c)), some (.int (shV j + (-8)))]) dX6_bytesIn_22 rfl rfl (by decide) rfl rfl ?_
            refine r_goto (pc := 25) (tgt := 5) dX6_bytesIn_25 (by decide) ?_
            exact ih5 _ (by have : j ≠ 4 := fun z => c6 ((shV_neg hj).mpr z); omega) (j + 1) c rfl (by have : j ≠ 4 := fun z => c6 ((shV_neg hj).mpr z); omega) (by rw [hc]; first | exact (congrArg (bnF v j + ·) (show (if byN v j = 0 then 0 else 1) = 1 from if_neg c16)).symm | exact (congrArg (bnF v j + ·) (show (if byN v j = 0 then 0 else 1) = 0 from if_pos c16)).symm)
          · skip
            refine r_iinc (pc := 19) (v := nI (c + 1)) (L' := [some (.int v), some (.int (nI (c + 1))), some (.int (shV j))]) dX6_bytesIn_19 rfl (nI_inc _) (by decide) rfl rfl ?_
            refine r_iinc (pc := 22) (v := shV j + (-8)) (L' := [some (.int v), some (.int (nI (c + 1))), some (.int (shV j + (-8)))]) dX6_bytesIn_22 rfl rfl (by decide) rfl rfl ?_
            refine r_goto (pc := 25) (tgt := 5) dX6_bytesIn_25 (by decide) ?_
            exact ih5 _ (by have : j ≠ 4 := fun z => c6 ((shV_neg hj).mpr z); omega) (j + 1) (c + 1) rfl (by have : j ≠ 4 := fun z => c6 ((shV_neg hj).mpr z); omega) (by rw [hc]; first | exact (congrArg (bnF v j + ·) (show (if byN v j = 0 then 0 else 1) = 1 from if_neg c16)).symm | exact (congrArg (bnF v j + ·) (show (if byN v j = 0 then 0 else 1) = 0 from if_pos c16)).symm)
  exact lp5 _ 0 0 rfl (by omega) (by rfl)

set_option maxRecDepth 100000 in
theorem put_ct {d : Nat} {I : Im} {G : Gm} {ta : Nat} {T : Tp} {v : Int32} (h6 : isC6 G ta) (hT : TpC I ta T) (hroom : T.1 + bnF v 4 ≤ 300) : Ct (d + 1) 0 0 YX6_put [.ref ta, .int v] (I, G) (qV G (fun I2 => TpC I2 ta (puF T v 4) ∧ ∀ c k, c ≠ ta + 1 → ¬ (c = ta ∧ k = 1) → I2 c k = I c k)) := by
  refine Ct.of (by decide) (by simp [Value.category]) (Nat.le_of_ble_eq_true rfl) ?_
  show wp _ _ _ _ 0 [some (.ref ta), some (.int v), none, none] [] _ _
  refine r_bipush (pc := 0) (v := 24) dX6_put_0 (by decide) ?_
  refine r_istore_n (pc := 2) (L' := [some (.ref ta), some (.int v), some (.int (nI 24)), none]) dX6_put_2 (by decide) rfl rfl ?_
  have lp3 : ∀ (n3 : Nat), ∀ (j : Nat) (I1 : Im), 4 - j = n3 → (j ≤ 4) → (TpC I1 ta (puF T v j)) → (∀ c k, c ≠ ta + 1 → ¬ (c = ta ∧ k = 1) → I1 c k = I c k) → wp (d + 1) 0 0 YX6_put 3 [some (.ref ta), some (.int v), some (.int (shV j)), none] [] (I1, G) (qV G (fun I2 => TpC I2 ta (puF T v 4) ∧ ∀ c k, c ≠ ta + 1 → ¬ (c = ta ∧ k = 1) → I2 c k = I c k)) := by
    intro n3
    induction n3 using Nat.strongRecOn with
    | ind n3 ih3 =>
      intro j I1 hmu3 hj hT1 hfr
      refine r_iload_n (pc := 3) dX6_put_3 rfl ?_
      refine r_if_lt (pc := 4) (x := shV j) (tgt := 55) dX6_put_4 (by decide) (fun c4 => ?_) (fun c4 => ?_)
      · skip
        refine r_ret_v (pc := 55) dX6_put_55 rfl ?_
        exact ⟨rfl, I1, rfl, (shV_neg hj).mp c4 ▸ hT1, hfr⟩
      · skip
        have hj4 : j < 4 := by have : j ≠ 4 := fun z => c4 ((shV_neg hj).mpr z); omega
        refine r_iload_n (pc := 7) dX6_put_7 rfl ?_
        refine r_iload_n (pc := 8) dX6_put_8 rfl ?_
        refine r_ishr (pc := 9) (x := v) (z := shV j) dX6_put_9 ?_
        refine r_sipush (pc := 10) (v := 255) dX6_put_10 (by decide) ?_
        refine r_iand (pc := 13) (x := v >>> ((shV j) &&& 31)) (z := 255) dX6_put_13 ?_
        have hby := byN_is v j
        · skip
          refine wp_S (st2 := [.int (nI (byN v j))]) (by rw [hby.1]) ?_
          refine r_istore_n (pc := 14) (L' := [some (.ref ta), some (.int v), some (.int (shV j)), some (.int (nI (byN v j)))]) dX6_put_14 (by decide) rfl rfl ?_
          refine r_iload_n (pc := 15) dX6_put_15 rfl ?_
          refine r_if_eq_n (pc := 16) (a := byN v j) (tgt := 49) dX6_put_16 (by decide) (by have := hT1.2.1; omega) (fun c16 => ?_) (fun c16 => ?_)
          · skip
            have hTn : TpC I1 ta (puF T v (j + 1)) := by show TpC I1 ta (apF (puF T v j) (byN v j)); unfold apF; rw [if_pos c16]; exact hT1
            have hfn := hfr
            refine r_iinc (pc := 49) (v := shV j + (-8)) (L' := [some (.ref ta), some (.int v), some (.int (shV j + (-8))), some (.int (nI (byN v j)))]) dX6_put_49 rfl rfl (by decide) rfl rfl ?_
            refine r_goto (pc := 52) (tgt := 3) dX6_put_52 (by decide) ?_
            refine wp_sub [some (.ref ta), some (.int v), some (.int (shV j + (-8))), none] ⟨rfl, ⟨rfl, ⟨rfl, trivial⟩⟩⟩ ?_
            exact ih3 _ (by omega) (j + 1) I1 rfl (by omega) hTn hfn
          · skip
            refine r_aload_n (pc := 19) dX6_put_19 rfl ?_
            refine r_getIv (pc := 20) 6 1 15 dX6_put_20 (fl_RX6_15 rfl) (by decide) rfl (c6_o h6) (v := nI ((puF T v j).1)) (hT1.1) ?_
            refine r_sipush (pc := 23) (v := 300) dX6_put_23 (by decide) ?_
            refine r_icmp_ge_n (pc := 26) (a := (puF T v j).1) (b := 300) (tgt := 49) dX6_put_26 (by decide) (by have := hT1.2.1; omega) (by have := hT1.2.1; omega) (fun c26 => ?_) (fun c26 => ?_)
            · exfalso; have h1 := puF_len T v j; have h2 := bnF_mono (v := v) (a := j + 1) (3 - j); rw [show j + 1 + (3 - j) = 4 by omega, show bnF v (j + 1) = bnF v j + 1 from congrArg (bnF v j + ·) (if_neg c16)] at h2; omega
            · skip
              refine r_aload_n (pc := 29) dX6_put_29 rfl ?_
              refine r_get1 (pc := 30) 6 0 9 dX6_put_30 (fl_RX6_9 rfl) (by decide) rfl (c6_o h6) (c6_p0 h6) ?_
              refine r_aload_n (pc := 33) dX6_put_33 rfl ?_
              refine r_getIv (pc := 34) 6 1 15 dX6_put_34 (fl_RX6_15 rfl) (by decide) rfl (c6_o h6) (v := nI ((puF T v j).1)) (hT1.1) ?_
              refine r_iload_n (pc := 37) dX6_put_37 rfl ?_
              refine r_iast_n (pc := 38) (i := (puF T v j).1) (v := nI (byN v j)) dX6_put_38 (c6_a0 h6) (by decide) (by omega) ?_
              refine r_aload_n (pc := 39) dX6_put_39 rfl ?_
              refine r_dup (pc := 40) dX6_put_40 rfl ?_
              refine r_getIv (pc := 41) 6 1 15 dX6_put_41 (fl_RX6_15 rfl) (by decide) rfl (c6_o h6) (v := nI ((puF T v j).1)) ((up2_rd (by omega)).trans (hT1.1)) ?_
              refine r_iconst (pc := 44) (v := 1) dX6_put_44 (by decide) ?_
              refine r_iadd_n (pc := 45) (a := (puF T v j).1) (b := 1) dX6_put_45 ?_
              refine r_putI (pc := 46) (v := nI (((puF T v j).1) + 1)) 6 1 15 dX6_put_46 (fl_RX6_15 rfl) (by decide) rfl rfl (c6_o h6) ?_
              obtain ⟨I3, hI3⟩ : ∃ zz0 : Im, zz0 = up2 (up2 I1 (ta + 1) ((puF T v j).1) (nI (byN v j))) ta 1 (nI (((puF T v j).1) + 1)) := ⟨_, rfl⟩
              refine wp_M (M2 := (I3, G)) (by subst hI3; rfl) ?_
              have hTn : TpC I3 ta (puF T v (j + 1)) := by
                show TpC I3 ta (apF (puF T v j) (byN v j))
                unfold apF
                rw [if_neg c16, hI3]
                refine ⟨up2_at, by show (puF T v j).1 + 1 ≤ 300; omega, fun i hi => (up2_rd (by omega)).trans ?_, fun i => ?_⟩
                · show _ = nI (fu (puF T v j).2 (puF T v j).1 (byN v j) i)
                  by_cases e : i = (puF T v j).1
                  · rw [e, up2_at, fu_at]
                  · rw [up2_rd (Or.inr e), fu_ne e]
                    exact hT1.2.2.1 i (by have hi : i < (puF T v j).1 + 1 := hi; omega)
                · show fu (puF T v j).2 (puF T v j).1 (byN v j) i ≤ 255
                  unfold fu
                  split
                  · exact hby.2
                  · exact hT1.2.2.2 i
              have hfn : ∀ c k, c ≠ ta + 1 → ¬ (c = ta ∧ k = 1) → I3 c k = I c k := fun c k g1 g2 => by rw [hI3, up2_rd (by omega), up2_rd (by omega)]; exact hfr c k g1 g2
              refine r_iinc (pc := 49) (v := shV j + (-8)) (L' := [some (.ref ta), some (.int v), some (.int (shV j + (-8))), some (.int (nI (byN v j)))]) dX6_put_49 rfl rfl (by decide) rfl rfl ?_
              refine r_goto (pc := 52) (tgt := 3) dX6_put_52 (by decide) ?_
              refine wp_sub [some (.ref ta), some (.int v), some (.int (shV j + (-8))), none] ⟨rfl, ⟨rfl, ⟨rfl, trivial⟩⟩⟩ ?_
              exact ih3 _ (by omega) (j + 1) I3 rfl (by omega) hTn hfn
  exact lp3 _ 0 I rfl (by omega) hT (by exact fun _ _ _ _ => rfl)
