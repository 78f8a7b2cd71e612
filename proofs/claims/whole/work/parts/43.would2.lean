/-! ===== the reference: halvedPrice, priceTo, would, takeBy, earnBy ===== -/

set_option maxRecDepth 100000 in
theorem halvedPriceM_ct {d : Nat} {I : Im} {G : Gm} {m k cn cb : Nat} {E : Ec} {T : Lt} (hm : isC10 G m) (hS : MS I m k E T cn) (hcb : ∀ b, eC E b ≤ cb) (hcb6 : cb ≤ 60) (hB : BdM E) {b u : Nat} (hb1 : 1 ≤ b) (hb : b < 8) (hu : u ≤ 600) (hTK : TKb G m k E T cn cb (d + 1) b) (hEK : EKb G m k E T cn cb (d + 1) b) : Ct (d + 2) 0 0 YX10_halvedPrice [.ref m, .int (nI b), .int (nI u)] (I, G) (TkQ I G m E (nI (hvF E idq (mk E idq) b u))) := by
  refine Ct.of (by decide) (by simp [Value.category]) (Nat.le_of_ble_eq_true rfl) ?_
  have hn8 := hS.1.2.1
  have hcn10 := hS.2.2.2.1
  have hkc := hS.2.2.2.2.1
  show wp _ _ _ _ 0 [some (.ref m), some (.int (nI b)), some (.int (nI u)), none, none, none, none, none, none, none, none, none] [] _ _
  refine r_iconst (pc := 0) (v := -1) dX10_halvedPrice_0 (by decide) ?_
  refine r_istore_n (pc := 1) (L' := [some (.ref m), some (.int (nI b)), some (.int (nI u)), some (.int (-1)), none, none, none, none, none, none, none, none]) dX10_halvedPrice_1 (by decide) rfl rfl ?_
  refine r_lconst (pc := 2) (v := 0) dX10_halvedPrice_2 (by decide) ?_
  refine r_lstore (pc := 3) (L' := [some (.ref m), some (.int (nI b)), some (.int (nI u)), some (.int (-1)), some (.long 0), none, none, none, none, none, none, none]) dX10_halvedPrice_3 (by decide) rfl rfl ?_
  refine r_iconst (pc := 5) (v := 0) dX10_halvedPrice_5 (by decide) ?_
  refine r_istore (pc := 6) (L' := [some (.ref m), some (.int (nI b)), some (.int (nI u)), some (.int (-1)), some (.long 0), none, some (.int (nI 0)), none, none, none, none, none]) dX10_halvedPrice_6 (by decide) rfl rfl ?_
  have lp8 : ∀ (n8 : Nat), ∀ (x : Nat) (bs : Int32) (ms : Int64) (I1 : Im), 42 - x = n8 → (x ≤ 42) → (HvI (fun x => (nI x - nI u) * (mk E idq b (x + eC E b)).1) (fun x => (mk E idq b (x + eC E b)).2) x bs ms) → (KV I1 m E) → (FrK I I1 m) → wp (d + 2) 0 0 YX10_halvedPrice 8 [some (.ref m), some (.int (nI b)), some (.int (nI u)), some (.int bs), some (.long ms), none, some (.int (nI x)), none, none, none, none, none] [] (I1, G) (TkQ I G m E (nI (hvF E idq (mk E idq) b u))) := by
    intro n8
    induction n8 using Nat.strongRecOn with
    | ind n8 ih8 =>
      intro x bs ms I1 hmu8 hx hv hK1 hF1
      have hS1 := hS.keep hF1 hK1
      have hcbb : eC E b ≤ cb := hcb b
      refine r_iload (pc := 8) dX10_halvedPrice_8 rfl ?_
      refine r_bipush (pc := 10) (v := 41) dX10_halvedPrice_10 (by decide) ?_
      refine r_icmp_gt_n (pc := 12) (a := x) (b := 41) (tgt := 104) dX10_halvedPrice_12 (by decide) (by omega) (by omega) (fun c12 => ?_) (fun c12 => ?_)
      · skip
        have hxe : x = 42 := by omega
        refine r_iload_n (pc := 104) dX10_halvedPrice_104 rfl ?_
        refine r_iconst (pc := 105) (v := -1) dX10_halvedPrice_105 (by decide) ?_
        refine r_icmp_ne (pc := 106) (x := bs) (z := (-1)) (tgt := 114) dX10_halvedPrice_106 (by decide) (fun c106 => ?_) (fun c106 => ?_)
        · skip
          have hfin : bs = nI (hvF E idq (mk E idq) b u) := by
            rcases hv with ⟨h1, -⟩ | ⟨z, h1, -, h2, -⟩
            · exact absurd h1 c106
            · rw [h1, ← h2, hxe]; rfl
          refine r_iload_n (pc := 114) dX10_halvedPrice_114 rfl ?_
          refine r_ret_i (pc := 115) dX10_halvedPrice_115 rfl ?_
          exact ⟨_, I1, rfl, rfl, hfin, hK1, hF1⟩
        · skip
          have hfin : (41 : Int32) = nI (hvF E idq (mk E idq) b u) := by
            rcases hv with ⟨-, h1⟩ | ⟨z, h1, h2, -⟩
            · unfold hvF; rw [← hxe, h1]; rfl
            · rw [h1] at c106; exact absurd ((sI_m1 (o := some z) (fun c hc => by cases hc; omega)).mp c106) (by simp)
          refine r_bipush (pc := 109) (v := 41) dX10_halvedPrice_109 (by decide) ?_
          refine r_goto (pc := 111) (tgt := 115) dX10_halvedPrice_111 (by decide) ?_
          refine r_ret_i (pc := 115) dX10_halvedPrice_115 rfl ?_
          exact ⟨_, I1, rfl, rfl, hfin, hK1, hF1⟩
      · skip
        refine r_iload (pc := 15) dX10_halvedPrice_15 rfl ?_
        refine r_aload_n (pc := 17) dX10_halvedPrice_17 rfl ?_
        refine r_aload_n (pc := 18) dX10_halvedPrice_18 rfl ?_
        refine r_getIv (pc := 19) 10 21 175 dX10_halvedPrice_19 (fl_RX10_175 rfl) (by decide) rfl (c10_o hm) (v := nI k) (hS1.2.1.1) ?_
        refine r_iload_n (pc := 22) dX10_halvedPrice_22 rfl ?_
        refine r_callV_P (pc := 23) (b := m) (As := [.int (nI k), .int (nI b)]) 10 162 dX10_halvedPrice_23 lk_X10_costOf (ml_RX10_162 rfl) im_X10_costOf se_X10_costOf (by decide) (c10_o hm) (Nat.le_of_ble_eq_true rfl) rfl (costOf_ct hm hS1.1 (by omega) (by omega)) ?_
        refine r_iadd_n (pc := 26) (a := x) (b := eC E b) dX10_halvedPrice_26 ?_
        refine r_istore (pc := 27) (L' := [some (.ref m), some (.int (nI b)), some (.int (nI u)), some (.int bs), some (.long ms), none, some (.int (nI x)), some (.int (nI (x + (eC E b)))), none, none, none, none]) dX10_halvedPrice_27 (by decide) rfl rfl ?_
        refine r_iload (pc := 29) dX10_halvedPrice_29 rfl ?_
        refine r_iload_n (pc := 31) dX10_halvedPrice_31 rfl ?_
        refine r_isub (pc := 32) (x := nI x) (z := nI u) dX10_halvedPrice_32 ?_
        refine r_i2l (pc := 33) (x := (nI x) - (nI u)) dX10_halvedPrice_33 ?_
        refine r_aload_n (pc := 34) dX10_halvedPrice_34 rfl ?_
        refine r_iload_n (pc := 35) dX10_halvedPrice_35 rfl ?_
        refine r_iload (pc := 36) dX10_halvedPrice_36 rfl ?_
        refine r_callV_M (pc := 38) (b := m) (As := [.int (nI b), .int (nI (x + (eC E b)))]) 10 204 dX10_halvedPrice_38 lk_X10_takeBy (ml_RX10_204 rfl) im_X10_takeBy se_X10_takeBy (by decide) (c10_o hm) (Nat.le_of_ble_eq_true rfl) rfl (hTK I1 _ hS1 (by have := Nat.mul_le_mul hcb6 (show 7 - b ≤ 6 by omega); omega)) (fun v38 I2 hr38 => ?_)
        obtain ⟨rfl, hK38, hF38⟩ := hr38
        have hS2 := hS1.keep hF38 hK38
        refine r_i2l (pc := 41) (x := (mk E idq b (x + (eC E b))).1) dX10_halvedPrice_41 ?_
        refine r_lmul (pc := 42) dX10_halvedPrice_42 ?_
        refine r_lstore (pc := 43) (L' := [some (.ref m), some (.int (nI b)), some (.int (nI u)), some (.int bs), some (.long ms), none, some (.int (nI x)), some (.int (nI (x + (eC E b)))), some (.long ((((nI x) - (nI u)).toInt64) * (((mk E idq b (x + (eC E b))).1).toInt64))), none, none, none]) dX10_halvedPrice_43 (by decide) rfl rfl ?_
        refine r_aload_n (pc := 45) dX10_halvedPrice_45 rfl ?_
        refine r_iload_n (pc := 46) dX10_halvedPrice_46 rfl ?_
        refine r_iload (pc := 47) dX10_halvedPrice_47 rfl ?_
        refine r_callV_M (pc := 49) (b := m) (As := [.int (nI b), .int (nI (x + (eC E b)))]) 10 210 dX10_halvedPrice_49 lk_X10_earnBy (ml_RX10_210 rfl) im_X10_earnBy se_X10_earnBy (by decide) (c10_o hm) (Nat.le_of_ble_eq_true rfl) rfl (hEK I2 _ hS2 (by have := Nat.mul_le_mul hcb6 (show 7 - b ≤ 6 by omega); omega)) (fun v49 I4 hr49 => ?_)
        obtain ⟨rfl, hK49, hF49⟩ := hr49
        have hS4 := hS2.keep hF49 hK49
        refine r_i2l (pc := 52) (x := (mk E idq b (x + (eC E b))).2) dX10_halvedPrice_52 ?_
        refine r_lstore (pc := 53) (L' := [some (.ref m), some (.int (nI b)), some (.int (nI u)), some (.int bs), some (.long ms), none, some (.int (nI x)), some (.int (nI (x + (eC E b)))), some (.long ((((nI x) - (nI u)).toInt64) * (((mk E idq b (x + (eC E b))).1).toInt64))), none, some (.long (((mk E idq b (x + (eC E b))).2).toInt64)), none]) dX10_halvedPrice_53 (by decide) rfl rfl ?_
        have hone := hv_one hB (show x ≤ 41 by omega) hu b (x + eC E b)
        have htwo := (hB b (x + eC E b)).2.2 (by omega)
        refine r_lload (pc := 55) dX10_halvedPrice_55 rfl ?_
        refine r_lconst (pc := 57) (v := 0) dX10_halvedPrice_57 (by decide) ?_
        refine r_lcmp (pc := 58) dX10_halvedPrice_58 ?_
        refine r_if_lt (pc := 59) (x := lg_cmp ((((nI x) - (nI u)).toInt64) * (((mk E idq b (x + (eC E b))).1).toInt64)) 0) (tgt := 98) dX10_halvedPrice_59 (by decide) (fun c59 => ?_) (fun c59 => ?_)
        · skip
          rw [hone.1] at c59
          have hcase : HvI (fun x => (nI x - nI u) * (mk E idq b (x + eC E b)).1) (fun x => (mk E idq b (x + eC E b)).2) (x + 1) bs ms := hv_skip hv (fun q => absurd q.1 (Int32.not_le.mpr (cmp_lt0.mp c59)))
          refine r_iinc (pc := 98) (v := nI (x + 1)) (L' := [some (.ref m), some (.int (nI b)), some (.int (nI u)), some (.int bs), some (.long ms), none, some (.int (nI (x + 1))), some (.int (nI (x + (eC E b)))), some (.long ((((nI x) - (nI u)).toInt64) * (((mk E idq b (x + (eC E b))).1).toInt64))), none, some (.long (((mk E idq b (x + (eC E b))).2).toInt64)), none]) dX10_halvedPrice_98 rfl (nI_inc _) (by decide) rfl rfl ?_
          refine r_goto (pc := 101) (tgt := 8) dX10_halvedPrice_101 (by decide) ?_
          refine wp_sub [some (.ref m), some (.int (nI b)), some (.int (nI u)), some (.int bs), some (.long ms), none, some (.int (nI (x + 1))), none, none, none, none, none] ⟨rfl, ⟨rfl, ⟨rfl, ⟨rfl, ⟨rfl, ⟨rfl, trivial⟩⟩⟩⟩⟩⟩ ?_
          exact ih8 _ (by omega) (x + 1) bs ms I4 rfl (by omega) hcase hK49 ((hF1.tr hF38).tr hF49)
        · skip
          rw [hone.1] at c59
          have ha0 : 0 ≤ (nI x - nI u) * (mk E idq b (x + eC E b)).1 := Int32.not_lt.mp (fun z => c59 (cmp_lt0.mpr z))
          refine r_lload (pc := 62) dX10_halvedPrice_62 rfl ?_
          refine r_lconst (pc := 64) (v := 0) dX10_halvedPrice_64 (by decide) ?_
          refine r_lcmp (pc := 65) dX10_halvedPrice_65 ?_
          refine r_if_lt (pc := 66) (x := lg_cmp (((mk E idq b (x + (eC E b))).2).toInt64) 0) (tgt := 98) dX10_halvedPrice_66 (by decide) (fun c66 => ?_) (fun c66 => ?_)
          · skip
            have hcase : HvI (fun x => (nI x - nI u) * (mk E idq b (x + eC E b)).1) (fun x => (mk E idq b (x + eC E b)).2) (x + 1) bs ms := hv_skip hv (fun q => absurd q.2.1 (Int32.not_le.mpr (cmp_lt0.mp c66)))
            refine r_iinc (pc := 98) (v := nI (x + 1)) (L' := [some (.ref m), some (.int (nI b)), some (.int (nI u)), some (.int bs), some (.long ms), none, some (.int (nI (x + 1))), some (.int (nI (x + (eC E b)))), some (.long ((((nI x) - (nI u)).toInt64) * (((mk E idq b (x + (eC E b))).1).toInt64))), none, some (.long (((mk E idq b (x + (eC E b))).2).toInt64)), none]) dX10_halvedPrice_98 rfl (nI_inc _) (by decide) rfl rfl ?_
            refine r_goto (pc := 101) (tgt := 8) dX10_halvedPrice_101 (by decide) ?_
            refine wp_sub [some (.ref m), some (.int (nI b)), some (.int (nI u)), some (.int bs), some (.long ms), none, some (.int (nI (x + 1))), none, none, none, none, none] ⟨rfl, ⟨rfl, ⟨rfl, ⟨rfl, ⟨rfl, ⟨rfl, trivial⟩⟩⟩⟩⟩⟩ ?_
            exact ih8 _ (by omega) (x + 1) bs ms I4 rfl (by omega) hcase hK49 ((hF1.tr hF38).tr hF49)
          · skip
            have hb0 : 0 ≤ (mk E idq b (x + eC E b)).2 := Int32.not_lt.mp (fun z => c66 (cmp_lt0.mpr z))
            have hpr := hv_prod ha0 hb0 hone.2 htwo
            have hpp : (nI x - nI u).toInt64 * (mk E idq b (x + eC E b)).1.toInt64 * ((mk E idq b (x + eC E b)).2).toInt64 = ((nI x - nI u) * (mk E idq b (x + eC E b)).1 * (mk E idq b (x + eC E b)).2).toInt64 := by rw [hone.1]; exact hpr.1
            refine r_iload_n (pc := 69) dX10_halvedPrice_69 rfl ?_
            refine r_iconst (pc := 70) (v := -1) dX10_halvedPrice_70 (by decide) ?_
            refine r_icmp_eq (pc := 71) (x := bs) (z := (-1)) (tgt := 88) dX10_halvedPrice_71 (by decide) (fun c71 => ?_) (fun c71 => ?_)
            · skip
              have hcase : HvI (fun x => (nI x - nI u) * (mk E idq b (x + eC E b)).1) (fun x => (mk E idq b (x + eC E b)).2) (x + 1) (nI x) ((nI x - nI u).toInt64 * (mk E idq b (x + eC E b)).1.toInt64 * ((mk E idq b (x + eC E b)).2).toInt64) := by rw [hpp]; exact hv_take (by omega) hv ha0 hb0 hpr.2 (Or.inl c71)
              refine r_lload (pc := 88) dX10_halvedPrice_88 rfl ?_
              refine r_lload (pc := 90) dX10_halvedPrice_90 rfl ?_
              refine r_lmul (pc := 92) dX10_halvedPrice_92 ?_
              refine r_lstore (pc := 93) (L' := [some (.ref m), some (.int (nI b)), some (.int (nI u)), some (.int bs), some (.long (((((nI x) - (nI u)).toInt64) * (((mk E idq b (x + (eC E b))).1).toInt64)) * (((mk E idq b (x + (eC E b))).2).toInt64))), none, some (.int (nI x)), some (.int (nI (x + (eC E b)))), some (.long ((((nI x) - (nI u)).toInt64) * (((mk E idq b (x + (eC E b))).1).toInt64))), none, some (.long (((mk E idq b (x + (eC E b))).2).toInt64)), none]) dX10_halvedPrice_93 (by decide) rfl rfl ?_
              refine r_iload (pc := 95) dX10_halvedPrice_95 rfl ?_
              refine r_istore_n (pc := 97) (L' := [some (.ref m), some (.int (nI b)), some (.int (nI u)), some (.int (nI x)), some (.long (((((nI x) - (nI u)).toInt64) * (((mk E idq b (x + (eC E b))).1).toInt64)) * (((mk E idq b (x + (eC E b))).2).toInt64))), none, some (.int (nI x)), some (.int (nI (x + (eC E b)))), some (.long ((((nI x) - (nI u)).toInt64) * (((mk E idq b (x + (eC E b))).1).toInt64))), none, some (.long (((mk E idq b (x + (eC E b))).2).toInt64)), none]) dX10_halvedPrice_97 (by decide) rfl rfl ?_
              refine r_iinc (pc := 98) (v := nI (x + 1)) (L' := [some (.ref m), some (.int (nI b)), some (.int (nI u)), some (.int (nI x)), some (.long (((((nI x) - (nI u)).toInt64) * (((mk E idq b (x + (eC E b))).1).toInt64)) * (((mk E idq b (x + (eC E b))).2).toInt64))), none, some (.int (nI (x + 1))), some (.int (nI (x + (eC E b)))), some (.long ((((nI x) - (nI u)).toInt64) * (((mk E idq b (x + (eC E b))).1).toInt64))), none, some (.long (((mk E idq b (x + (eC E b))).2).toInt64)), none]) dX10_halvedPrice_98 rfl (nI_inc _) (by decide) rfl rfl ?_
              refine r_goto (pc := 101) (tgt := 8) dX10_halvedPrice_101 (by decide) ?_
              refine wp_sub [some (.ref m), some (.int (nI b)), some (.int (nI u)), some (.int (nI x)), some (.long (((((nI x) - (nI u)).toInt64) * (((mk E idq b (x + (eC E b))).1).toInt64)) * (((mk E idq b (x + (eC E b))).2).toInt64))), none, some (.int (nI (x + 1))), none, none, none, none, none] ⟨rfl, ⟨rfl, ⟨rfl, ⟨rfl, ⟨rfl, ⟨rfl, trivial⟩⟩⟩⟩⟩⟩ ?_
              exact ih8 _ (by omega) (x + 1) (nI x) (((((nI x) - (nI u)).toInt64) * (((mk E idq b (x + (eC E b))).1).toInt64)) * (((mk E idq b (x + (eC E b))).2).toInt64)) I4 rfl (by omega) hcase hK49 ((hF1.tr hF38).tr hF49)
            · skip
              refine r_lload (pc := 74) dX10_halvedPrice_74 rfl ?_
              refine r_lload (pc := 76) dX10_halvedPrice_76 rfl ?_
              refine r_lmul (pc := 78) dX10_halvedPrice_78 ?_
              refine r_lload (pc := 79) dX10_halvedPrice_79 rfl ?_
              refine r_lcmp (pc := 81) dX10_halvedPrice_81 ?_
              refine r_if_gt (pc := 82) (x := lg_cmp (((((nI x) - (nI u)).toInt64) * (((mk E idq b (x + (eC E b))).1).toInt64)) * (((mk E idq b (x + (eC E b))).2).toInt64)) ms) (tgt := 88) dX10_halvedPrice_82 (by decide) (fun c82 => ?_) (fun c82 => ?_)
              · skip
                rw [hpp, cmp_gt] at c82
                have hcase : HvI (fun x => (nI x - nI u) * (mk E idq b (x + eC E b)).1) (fun x => (mk E idq b (x + eC E b)).2) (x + 1) (nI x) ((nI x - nI u).toInt64 * (mk E idq b (x + eC E b)).1.toInt64 * ((mk E idq b (x + eC E b)).2).toInt64) := by rw [hpp]; exact hv_take (by omega) hv ha0 hb0 hpr.2 (Or.inr c82)
                refine r_lload (pc := 88) dX10_halvedPrice_88 rfl ?_
                refine r_lload (pc := 90) dX10_halvedPrice_90 rfl ?_
                refine r_lmul (pc := 92) dX10_halvedPrice_92 ?_
                refine r_lstore (pc := 93) (L' := [some (.ref m), some (.int (nI b)), some (.int (nI u)), some (.int bs), some (.long (((((nI x) - (nI u)).toInt64) * (((mk E idq b (x + (eC E b))).1).toInt64)) * (((mk E idq b (x + (eC E b))).2).toInt64))), none, some (.int (nI x)), some (.int (nI (x + (eC E b)))), some (.long ((((nI x) - (nI u)).toInt64) * (((mk E idq b (x + (eC E b))).1).toInt64))), none, some (.long (((mk E idq b (x + (eC E b))).2).toInt64)), none]) dX10_halvedPrice_93 (by decide) rfl rfl ?_
                refine r_iload (pc := 95) dX10_halvedPrice_95 rfl ?_
                refine r_istore_n (pc := 97) (L' := [some (.ref m), some (.int (nI b)), some (.int (nI u)), some (.int (nI x)), some (.long (((((nI x) - (nI u)).toInt64) * (((mk E idq b (x + (eC E b))).1).toInt64)) * (((mk E idq b (x + (eC E b))).2).toInt64))), none, some (.int (nI x)), some (.int (nI (x + (eC E b)))), some (.long ((((nI x) - (nI u)).toInt64) * (((mk E idq b (x + (eC E b))).1).toInt64))), none, some (.long (((mk E idq b (x + (eC E b))).2).toInt64)), none]) dX10_halvedPrice_97 (by decide) rfl rfl ?_
                refine r_iinc (pc := 98) (v := nI (x + 1)) (L' := [some (.ref m), some (.int (nI b)), some (.int (nI u)), some (.int (nI x)), some (.long (((((nI x) - (nI u)).toInt64) * (((mk E idq b (x + (eC E b))).1).toInt64)) * (((mk E idq b (x + (eC E b))).2).toInt64))), none, some (.int (nI (x + 1))), some (.int (nI (x + (eC E b)))), some (.long ((((nI x) - (nI u)).toInt64) * (((mk E idq b (x + (eC E b))).1).toInt64))), none, some (.long (((mk E idq b (x + (eC E b))).2).toInt64)), none]) dX10_halvedPrice_98 rfl (nI_inc _) (by decide) rfl rfl ?_
                refine r_goto (pc := 101) (tgt := 8) dX10_halvedPrice_101 (by decide) ?_
                refine wp_sub [some (.ref m), some (.int (nI b)), some (.int (nI u)), some (.int (nI x)), some (.long (((((nI x) - (nI u)).toInt64) * (((mk E idq b (x + (eC E b))).1).toInt64)) * (((mk E idq b (x + (eC E b))).2).toInt64))), none, some (.int (nI (x + 1))), none, none, none, none, none] ⟨rfl, ⟨rfl, ⟨rfl, ⟨rfl, ⟨rfl, ⟨rfl, trivial⟩⟩⟩⟩⟩⟩ ?_
                exact ih8 _ (by omega) (x + 1) (nI x) (((((nI x) - (nI u)).toInt64) * (((mk E idq b (x + (eC E b))).1).toInt64)) * (((mk E idq b (x + (eC E b))).2).toInt64)) I4 rfl (by omega) hcase hK49 ((hF1.tr hF38).tr hF49)
              · skip
                rw [hpp, cmp_gt] at c82
                have hcase : HvI (fun x => (nI x - nI u) * (mk E idq b (x + eC E b)).1) (fun x => (mk E idq b (x + eC E b)).2) (x + 1) bs ms := hv_skip hv (fun q => q.2.2.elim c71 c82)
                refine r_goto (pc := 85) (tgt := 98) dX10_halvedPrice_85 (by decide) ?_
                refine r_iinc (pc := 98) (v := nI (x + 1)) (L' := [some (.ref m), some (.int (nI b)), some (.int (nI u)), some (.int bs), some (.long ms), none, some (.int (nI (x + 1))), some (.int (nI (x + (eC E b)))), some (.long ((((nI x) - (nI u)).toInt64) * (((mk E idq b (x + (eC E b))).1).toInt64))), none, some (.long (((mk E idq b (x + (eC E b))).2).toInt64)), none]) dX10_halvedPrice_98 rfl (nI_inc _) (by decide) rfl rfl ?_
                refine r_goto (pc := 101) (tgt := 8) dX10_halvedPrice_101 (by decide) ?_
                refine wp_sub [some (.ref m), some (.int (nI b)), some (.int (nI u)), some (.int bs), some (.long ms), none, some (.int (nI (x + 1))), none, none, none, none, none] ⟨rfl, ⟨rfl, ⟨rfl, ⟨rfl, ⟨rfl, ⟨rfl, trivial⟩⟩⟩⟩⟩⟩ ?_
                exact ih8 _ (by omega) (x + 1) bs ms I4 rfl (by omega) hcase hK49 ((hF1.tr hF38).tr hF49)
  exact lp8 _ 0 (-1) 0 I rfl (by omega) (by exact Or.inl ⟨rfl, rfl⟩) hS.2.2.2.2.2 FrK.rf

set_option maxRecDepth 100000 in
theorem priceToM_ct {d : Nat} {I : Im} {G : Gm} {m k cn cb : Nat} {E : Ec} {T : Lt} (hm : isC10 G m) (hS : MS I m k E T cn) (hcb : ∀ b, eC E b ≤ cb) (hcb6 : cb ≤ 60) (hB : BdM E) {a b u : Nat} (hb1 : 1 ≤ b) (hb : b < 8) (ha : a < 8) (hu : u ≤ 600) (hnj : ¬ jn (eJ E) (nI b)) (hTKs : ∀ b, eS E b = some a → TKb G m k E T cn cb (d + 1) b) (hTK : TKb G m k E T cn cb (d + 1) b) (hEK : EKb G m k E T cn cb (d + 1) b) : Ct (d + 3) 0 0 YX10_priceTo [.ref m, .int (nI a), .int (nI b), .int (nI u)] (I, G) (TkQ I G m E (nI (prS E idq (mk E idq) a b u))) := by
  refine Ct.of (by decide) (by simp [Value.category]) (Nat.le_of_ble_eq_true rfl) ?_
  have hn8 := hS.1.2.1
  have hcn10 := hS.2.2.2.1
  have hkc := hS.2.2.2.2.1
  show wp _ _ _ _ 0 [some (.ref m), some (.int (nI a)), some (.int (nI b)), some (.int (nI u))] [] _ _
  refine r_aload_n (pc := 0) dX10_priceTo_0 rfl ?_
  refine r_getIv (pc := 1) 10 25 188 dX10_priceTo_1 (fl_RX10_188 rfl) (by decide) rfl (c10_o hm) (v := bz (eH E = true)) (hS.2.1.2.2.2.2.2) ?_
  refine r_if_eq_b (pc := 4) (tgt := 16) dX10_priceTo_4 (by decide) (fun c4 => ?_) (fun c4 => ?_)
  · skip
    refine r_aload_n (pc := 16) dX10_priceTo_16 rfl ?_
    refine r_getIv (pc := 17) 10 24 184 dX10_priceTo_17 (fl_RX10_184 rfl) (by decide) rfl (c10_o hm) (v := bz (eA E = true)) (hS.2.1.2.2.2.2.1) ?_
    refine r_if_eq_b (pc := 20) (tgt := 32) dX10_priceTo_20 (by decide) (fun c20 => ?_) (fun c20 => ?_)
    · skip
      have hpp : owF E idq (mk E idq) b u = prS E idq (mk E idq) a b u := by unfold prS; rw [if_neg hnj, if_neg c4, if_neg c20]
      refine r_aload_n (pc := 32) dX10_priceTo_32 rfl ?_
      refine r_iload_n (pc := 33) dX10_priceTo_33 rfl ?_
      refine r_iload_n (pc := 34) dX10_priceTo_34 rfl ?_
      refine r_callV_M (pc := 35) (b := m) (As := [.int (nI b), .int (nI u)]) 10 201 dX10_priceTo_35 lk_X10_bestPrice (ml_RX10_201 rfl) im_X10_bestPrice se_X10_bestPrice (by decide) (c10_o hm) (Nat.le_of_ble_eq_true rfl) rfl (bestPriceM_ct hm hS hcb hcb6 hb1 hb hu hTK) (fun v35 I2 hr35 => ?_)
      obtain ⟨rfl, hK2, hF2⟩ := hr35
      have hS2 := hS.keep hF2 hK2
      refine r_ret_i (pc := 38) dX10_priceTo_38 rfl ?_
      exact ⟨_, I2, rfl, rfl, by rw [hpp], hK2, hF2⟩
    · skip
      have hpp : cmF E idq (mk E idq) a u = prS E idq (mk E idq) a b u := by unfold prS; rw [if_neg hnj, if_neg c4, if_pos c20]
      refine r_aload_n (pc := 23) dX10_priceTo_23 rfl ?_
      refine r_iload_n (pc := 24) dX10_priceTo_24 rfl ?_
      refine r_iload_n (pc := 25) dX10_priceTo_25 rfl ?_
      refine r_callV_M (pc := 26) (b := m) (As := [.int (nI a), .int (nI u)]) 10 198 dX10_priceTo_26 lk_X10_alikePrice (ml_RX10_198 rfl) im_X10_alikePrice se_X10_alikePrice (by decide) (c10_o hm) (Nat.le_of_ble_eq_true rfl) rfl (alikePriceM_ct hm hS hcb hcb6 ha hu hTKs) (fun v26 I2 hr26 => ?_)
      obtain ⟨rfl, hK2, hF2⟩ := hr26
      have hS2 := hS.keep hF2 hK2
      refine r_goto (pc := 29) (tgt := 38) dX10_priceTo_29 (by decide) ?_
      refine r_ret_i (pc := 38) dX10_priceTo_38 rfl ?_
      exact ⟨_, I2, rfl, rfl, by rw [hpp], hK2, hF2⟩
  · skip
    have hpp : hvF E idq (mk E idq) b u = prS E idq (mk E idq) a b u := by unfold prS; rw [if_neg hnj, if_pos c4]
    refine r_aload_n (pc := 7) dX10_priceTo_7 rfl ?_
    refine r_iload_n (pc := 8) dX10_priceTo_8 rfl ?_
    refine r_iload_n (pc := 9) dX10_priceTo_9 rfl ?_
    refine r_callV_M (pc := 10) (b := m) (As := [.int (nI b), .int (nI u)]) 10 195 dX10_priceTo_10 lk_X10_halvedPrice (ml_RX10_195 rfl) im_X10_halvedPrice se_X10_halvedPrice (by decide) (c10_o hm) (Nat.le_of_ble_eq_true rfl) rfl (halvedPriceM_ct hm hS hcb hcb6 hB hb1 hb hu hTK hEK) (fun v10 I2 hr10 => ?_)
    obtain ⟨rfl, hK2, hF2⟩ := hr10
    have hS2 := hS.keep hF2 hK2
    refine r_goto (pc := 13) (tgt := 38) dX10_priceTo_13 (by decide) ?_
    refine r_ret_i (pc := 38) dX10_priceTo_38 rfl ?_
    exact ⟨_, I2, rfl, rfl, by rw [hpp], hK2, hF2⟩

theorem prS_u {E : Ec} {q : Nat → Nat} {R : Rt2} {h b u : Nat} : prS E q R h b u ≤ 41 ∨ prS E q R h b u = u := by
  unfold prS
  split
  · exact Or.inr rfl
  · refine Or.inl ?_
    split
    · exact hvS_le _ _ 42 (by omega)
    · split
      · exact cmS_le _ _
      · exact bsF_le _ _

theorem KV_at {I : Im} {m h u : Nat} {E : Ec} (hK : KV I m E) (hh : h < 8) (hu : u < 520) (hn : ¬ I (m + 18) (520 * h + u) = 0) : I (m + 16) (520 * h + u) = (mk E idq h u).1 ∧ I (m + 17) (520 * h + u) = (mk E idq h u).2 := ((hK h u hh hu).resolve_left hn).2
theorem KV_put {I I5 : Im} {m h u : Nat} {E : Ec} (hK : KV I5 m E) (hF : FrK I I5 m) (hh : h < 8) (hu : u < 520) :
    (up2 (up2 (up2 I5 (m + 16) (520 * h + u) (mk E idq h u).1) (m + 17) (520 * h + u) (mk E idq h u).2) (m + 18) (520 * h + u) (nI 1) (m + 16) (520 * h + u) = (mk E idq h u).1 ∧ up2 (up2 (up2 I5 (m + 16) (520 * h + u) (mk E idq h u).1) (m + 17) (520 * h + u) (mk E idq h u).2) (m + 18) (520 * h + u) (nI 1) (m + 17) (520 * h + u) = (mk E idq h u).2) ∧ KV (up2 (up2 (up2 I5 (m + 16) (520 * h + u) (mk E idq h u).1) (m + 17) (520 * h + u) (mk E idq h u).2) (m + 18) (520 * h + u) (nI 1)) m E ∧ FrK I (up2 (up2 (up2 I5 (m + 16) (520 * h + u) (mk E idq h u).1) (m + 17) (520 * h + u) (mk E idq h u).2) (m + 18) (520 * h + u) (nI 1)) m := by
  refine ⟨⟨?_, ?_⟩, fun y v hy hv => ?_, fun a k x1 x2 x3 => ?_⟩
  · rw [up2_rd (by omega), up2_rd (by omega), up2_at]
  · rw [up2_rd (by omega), up2_at]
  · by_cases e : y = h ∧ v = u
    · obtain ⟨rfl, rfl⟩ := e
      refine Or.inr ⟨by rw [up2_at]; rfl, ?_, ?_⟩
      · rw [up2_rd (by omega), up2_rd (by omega), up2_at]
      · rw [up2_rd (by omega), up2_at]
    · have hne : 520 * y + v ≠ 520 * h + u := fun q => e (by omega)
      rw [up2_rd (Or.inr hne), up2_rd (Or.inl (by omega)), up2_rd (Or.inl (by omega)), up2_rd (Or.inl (by omega)), up2_rd (Or.inl (by omega)), up2_rd (Or.inr hne), up2_rd (Or.inl (by omega)), up2_rd (Or.inr hne), up2_rd (Or.inl (by omega))]
      exact hK y v hy hv
  · rw [up2_rd (Or.inl x3), up2_rd (Or.inl x2), up2_rd (Or.inl x1)]
    exact hF a k x1 x2 x3

set_option maxRecDepth 100000 in
theorem would_ct {d : Nat} {I : Im} {G : Gm} {m k cn cb : Nat} {E : Ec} {T : Lt} (hm : isC10 G m) (hS : MS I m k E T cn) (hcb : ∀ b, eC E b ≤ cb) (hcb6 : cb ≤ 60) (hB : BdM E) {h u : Nat} (hh : h < 8) (hhn : h < eN E) (hu : u + cb * (7 - h) ≤ 519) (hTKs : ∀ b, eS E b = some h → ∀ D, d + 1 ≤ D → TKb G m k E T cn cb D b) (hEKs : ∀ b, eS E b = some h → ∀ D, d + 1 ≤ D → EKb G m k E T cn cb D b) : Ct (d + 4) 0 0 YX10_would [.ref m, .int (nI h), .int (nI u)] (I, G) (qV G (fun I2 => (I2 (m + 16) (520 * h + u) = (mk E idq h u).1 ∧ I2 (m + 17) (520 * h + u) = (mk E idq h u).2) ∧ KV I2 m E ∧ FrK I I2 m)) := by
  refine Ct.of (by decide) (by simp [Value.category]) (Nat.le_of_ble_eq_true rfl) ?_
  have hn8 := hS.1.2.1
  have hcn10 := hS.2.2.2.1
  have hkc := hS.2.2.2.2.1
  have hE2 := hS.1.2.2.2.1
  show wp _ _ _ _ 0 [some (.ref m), some (.int (nI h)), some (.int (nI u)), none, none, none, none, none, none] [] _ _
  refine r_sipush (pc := 0) (v := 520) dX10_would_0 (by decide) ?_
  refine r_iload_n (pc := 3) dX10_would_3 rfl ?_
  refine r_imul_n (pc := 4) (a := 520) (b := h) dX10_would_4 ?_
  refine r_iload_n (pc := 5) dX10_would_5 rfl ?_
  refine r_iadd_n (pc := 6) (a := 520 * h) (b := u) dX10_would_6 ?_
  refine r_istore_n (pc := 7) (L' := [some (.ref m), some (.int (nI h)), some (.int (nI u)), some (.int (nI ((520 * h) + u))), none, none, none, none, none]) dX10_would_7 (by decide) rfl rfl ?_
  have hpl : 520 * h + u < 4160 := by omega
  have hmem := hS.2.2.2.2.2 h u hh (by omega)
  refine r_aload_n (pc := 8) dX10_would_8 rfl ?_
  refine r_get1 (pc := 9) 10 28 63 dX10_would_9 (fl_RX10_63 rfl) (by decide) rfl (c10_o hm) (c10_p28 hm) ?_
  refine r_iload_n (pc := 12) dX10_would_12 rfl ?_
  refine r_zald_n (pc := 13) (i := (520 * h) + u) dX10_would_13 (c10_a28 hm) (by decide) (by omega) rfl ?_
  refine r_if_eq (pc := 14) (x := I (m + 18) ((520 * h) + u)) (tgt := 18) dX10_would_14 (by decide) (fun c14 => ?_) (fun c14 => ?_)
  · skip
    refine r_iconst (pc := 18) (v := 0) dX10_would_18 (by decide) ?_
    refine r_istore (pc := 19) (L' := [some (.ref m), some (.int (nI h)), some (.int (nI u)), some (.int (nI ((520 * h) + u))), some (.int (nI 0)), none, none, none, none]) dX10_would_19 (by decide) rfl rfl ?_
    refine r_iconst (pc := 21) (v := 0) dX10_would_21 (by decide) ?_
    refine r_istore (pc := 22) (L' := [some (.ref m), some (.int (nI h)), some (.int (nI u)), some (.int (nI ((520 * h) + u))), some (.int (nI 0)), some (.int (nI 0)), none, none, none]) dX10_would_22 (by decide) rfl rfl ?_
    have k172 : ∀ (tk : Int32) (er : Int32) (I5 : Im), (tk = (mk E idq h u).1) → (er = (mk E idq h u).2) → (KV I5 m E) → (FrK I I5 m) → wp (d + 4) 0 0 YX10_would 172 [some (.ref m), some (.int (nI h)), some (.int (nI u)), some (.int (nI ((520 * h) + u))), some (.int tk), some (.int er), none, none, none] [] (I5, G) (qV G (fun I2 => (I2 (m + 16) (520 * h + u) = (mk E idq h u).1 ∧ I2 (m + 17) (520 * h + u) = (mk E idq h u).2) ∧ KV I2 m E ∧ FrK I I2 m)) := by
      intro tk er I5 htk her hK5 hF5
      have hS5 := hS.keep hF5 hK5
      refine r_aload_n (pc := 172) dX10_would_172 rfl ?_
      refine r_get1 (pc := 173) 10 26 57 dX10_would_173 (fl_RX10_57 rfl) (by decide) rfl (c10_o hm) (c10_p26 hm) ?_
      refine r_iload_n (pc := 176) dX10_would_176 rfl ?_
      refine r_iload (pc := 177) dX10_would_177 rfl ?_
      refine r_iast_n (pc := 179) (i := (520 * h) + u) (v := tk) dX10_would_179 (c10_a26 hm) (by decide) (by omega) ?_
      refine r_aload_n (pc := 180) dX10_would_180 rfl ?_
      refine r_get1 (pc := 181) 10 27 60 dX10_would_181 (fl_RX10_60 rfl) (by decide) rfl (c10_o hm) (c10_p27 hm) ?_
      refine r_iload_n (pc := 184) dX10_would_184 rfl ?_
      refine r_iload (pc := 185) dX10_would_185 rfl ?_
      refine r_iast_n (pc := 187) (i := (520 * h) + u) (v := er) dX10_would_187 (c10_a27 hm) (by decide) (by omega) ?_
      refine r_aload_n (pc := 188) dX10_would_188 rfl ?_
      refine r_get1 (pc := 189) 10 28 63 dX10_would_189 (fl_RX10_63 rfl) (by decide) rfl (c10_o hm) (c10_p28 hm) ?_
      refine r_iload_n (pc := 192) dX10_would_192 rfl ?_
      refine r_iconst (pc := 193) (v := 1) dX10_would_193 (by decide) ?_
      refine r_zast_n (pc := 194) (i := (520 * h) + u) (v := nI 1) dX10_would_194 (c10_a28 hm) (by decide) (by omega) (by decide) ?_
      refine r_ret_v (pc := 195) dX10_would_195 rfl ?_
      refine ⟨rfl, up2 (up2 (up2 I5 (m + 16) ((520 * h) + u) tk) (m + 17) ((520 * h) + u) er) (m + 18) ((520 * h) + u) (nI 1), rfl, ?_⟩
      rw [htk, her]
      exact KV_put hK5 hF5 hh (by omega)
    refine r_aload_n (pc := 24) dX10_would_24 rfl ?_
    refine r_aload_n (pc := 25) dX10_would_25 rfl ?_
    refine r_getIv (pc := 26) 10 21 175 dX10_would_26 (fl_RX10_175 rfl) (by decide) rfl (c10_o hm) (v := nI k) (hS.2.1.1) ?_
    refine r_iload_n (pc := 29) dX10_would_29 rfl ?_
    refine r_callV_P (pc := 30) (b := m) (As := [.int (nI k), .int (nI h)]) 10 165 dX10_would_30 lk_X10_isShop (ml_RX10_165 rfl) im_X10_isShop se_X10_isShop (by decide) (c10_o hm) (Nat.le_of_ble_eq_true rfl) rfl (isShopM_ct hm hS.1 (by omega) hS.2.2.1 hcn10 hkc (by omega)) ?_
    refine r_if_eq_b (pc := 33) (tgt := 69) dX10_would_33 (by decide) (fun c33 => ?_) (fun c33 => ?_)
    · skip
      refine r_iconst (pc := 69) (v := 0) dX10_would_69 (by decide) ?_
      refine r_istore (pc := 70) (L' := [some (.ref m), some (.int (nI h)), some (.int (nI u)), some (.int (nI ((520 * h) + u))), some (.int (nI 0)), some (.int (nI 0)), some (.int (nI 0)), none, none]) dX10_would_70 (by decide) rfl rfl ?_
      have lp72 : ∀ (n72 : Nat), ∀ (b : Nat) (tk : Int32) (er : Int32) (I1 : Im), eN E - b = n72 → (b ≤ eN E) → (tk = sm (fun b => if eS E b = some h then (mk E idq b (prS E idq (mk E idq) h b u + eC E b)).1 else 0) b) → (er = sm (fun b => if eS E b = some h then (nI (prS E idq (mk E idq) h b u) - nI u) * (mk E idq b (prS E idq (mk E idq) h b u + eC E b)).1 else 0) b) → (KV I1 m E) → (FrK I I1 m) → wp (d + 4) 0 0 YX10_would 72 [some (.ref m), some (.int (nI h)), some (.int (nI u)), some (.int (nI ((520 * h) + u))), some (.int tk), some (.int er), some (.int (nI b)), none, none] [] (I1, G) (qV G (fun I2 => (I2 (m + 16) (520 * h + u) = (mk E idq h u).1 ∧ I2 (m + 17) (520 * h + u) = (mk E idq h u).2) ∧ KV I2 m E ∧ FrK I I2 m)) := by
        intro n72
        induction n72 using Nat.strongRecOn with
        | ind n72 ih72 =>
          intro b tk er I1 hmu72 hb htk her hK1 hF1
          have hS1 := hS.keep hF1 hK1
          have hcbb : eC E b ≤ cb := hcb b
          refine r_iload (pc := 72) dX10_would_72 rfl ?_
          refine r_aload_n (pc := 74) dX10_would_74 rfl ?_
          refine r_get1 (pc := 75) 10 6 13 dX10_would_75 (fl_RX10_13 rfl) (by decide) rfl (c10_o hm) (c10_p6 hm) ?_
          refine r_aload_n (pc := 78) dX10_would_78 rfl ?_
          refine r_getIv (pc := 79) 10 21 175 dX10_would_79 (fl_RX10_175 rfl) (by decide) rfl (c10_o hm) (v := nI k) (hS1.2.1.1) ?_
          refine r_iald_n (pc := 82) (i := k) dX10_would_82 (c10_a6 hm) (by decide) (by omega) (v := nI (eN E)) (hS1.1.1) ?_
          refine r_icmp_ge_n (pc := 83) (a := b) (b := eN E) (tgt := 172) dX10_would_83 (by decide) (by omega) (by omega) (fun c83 => ?_) (fun c83 => ?_)
          · skip
            have hE0 : mk E idq h u = stp E idq (mk E idq) h u := mk_eq (fun b a z => (hE2 b a z).1) hh u
            have hbn : b = eN E := by omega
            have hz1 : tk = (mk E idq h u).1 := by rw [hE0, htk, hbn]; unfold stp; rw [if_neg c33]
            have hz2 : er = (mk E idq h u).2 := by rw [hE0, her, hbn]; unfold stp; rw [if_neg c33]
            have hz3 := hK1
            have hz4 := hF1
            refine wp_sub [some (.ref m), some (.int (nI h)), some (.int (nI u)), some (.int (nI ((520 * h) + u))), some (.int tk), some (.int er), none, none, none] ⟨rfl, ⟨rfl, ⟨rfl, ⟨rfl, ⟨rfl, ⟨rfl, trivial⟩⟩⟩⟩⟩⟩ ?_
            exact k172 tk er I1 hz1 hz2 hz3 hz4
          · skip
            refine r_aload_n (pc := 86) dX10_would_86 rfl ?_
            refine r_aload_n (pc := 87) dX10_would_87 rfl ?_
            refine r_getIv (pc := 88) 10 21 175 dX10_would_88 (fl_RX10_175 rfl) (by decide) rfl (c10_o hm) (v := nI k) (hS1.2.1.1) ?_
            refine r_iload (pc := 91) dX10_would_91 rfl ?_
            refine r_iload_n (pc := 93) dX10_would_93 rfl ?_
            refine r_callV_P (pc := 94) (b := m) (As := [.int (nI k), .int (nI b), .int (nI h)]) 10 151 dX10_would_94 lk_X10_buys (ml_RX10_151 rfl) im_X10_buys se_X10_buys (by decide) (c10_o hm) (Nat.le_of_ble_eq_true rfl) rfl (buys_ct hm hS1.1 (by omega) (by omega) (by omega)) ?_
            refine r_if_ne_b (pc := 97) (tgt := 103) dX10_would_97 (by decide) (fun c97 => ?_) (fun c97 => ?_)
            · skip
              have hbh := hE2 b h c97
              have k124 : ∀ (x : Nat) (I2 : Im), (x = prS E idq (mk E idq) h b u) → (KV I2 m E) → (FrK I I2 m) → wp (d + 4) 0 0 YX10_would 124 [some (.ref m), some (.int (nI h)), some (.int (nI u)), some (.int (nI ((520 * h) + u))), some (.int tk), some (.int er), some (.int (nI b)), none, none] [.int (nI x)] (I2, G) (qV G (fun I2 => (I2 (m + 16) (520 * h + u) = (mk E idq h u).1 ∧ I2 (m + 17) (520 * h + u) = (mk E idq h u).2) ∧ KV I2 m E ∧ FrK I I2 m)) := by
                intro x I2 hx hK2 hF2
                have hS2 := hS.keep hF2 hK2
                have hxu := prS_u (E := E) (q := idq) (R := mk E idq) (h := h) (b := b) (u := u)
                rw [← hx] at hxu
                refine r_istore (pc := 124) (L' := [some (.ref m), some (.int (nI h)), some (.int (nI u)), some (.int (nI ((520 * h) + u))), some (.int tk), some (.int er), some (.int (nI b)), some (.int (nI x)), none]) dX10_would_124 (by decide) rfl rfl ?_
                refine r_aload_n (pc := 126) dX10_would_126 rfl ?_
                refine r_iload (pc := 127) dX10_would_127 rfl ?_
                refine r_iload (pc := 129) dX10_would_129 rfl ?_
                refine r_aload_n (pc := 131) dX10_would_131 rfl ?_
                refine r_aload_n (pc := 132) dX10_would_132 rfl ?_
                refine r_getIv (pc := 133) 10 21 175 dX10_would_133 (fl_RX10_175 rfl) (by decide) rfl (c10_o hm) (v := nI k) (hS2.2.1.1) ?_
                refine r_iload (pc := 136) dX10_would_136 rfl ?_
                refine r_callV_P (pc := 138) (b := m) (As := [.int (nI k), .int (nI b)]) 10 162 dX10_would_138 lk_X10_costOf (ml_RX10_162 rfl) im_X10_costOf se_X10_costOf (by decide) (c10_o hm) (Nat.le_of_ble_eq_true rfl) rfl (costOf_ct hm hS2.1 (by omega) (by omega)) ?_
                refine r_iadd_n (pc := 141) (a := x) (b := eC E b) dX10_would_141 ?_
                refine r_callV_M (pc := 142) (b := m) (As := [.int (nI b), .int (nI (x + (eC E b)))]) 10 204 dX10_would_142 lk_X10_takeBy (ml_RX10_204 rfl) im_X10_takeBy se_X10_takeBy (by decide) (c10_o hm) (Nat.le_of_ble_eq_true rfl) rfl (hTKs b c97 (d + 3) (by omega) I2 _ hS2 (by have h1 := hE2 b h c97; have h2 := Nat.mul_le_mul hcb6 (show 7 - b ≤ 6 by omega); have h3 : cb * (7 - b) + cb ≤ cb * (7 - h) := (show cb * (7 - b) + cb = cb * (7 - b + 1) from rfl) ▸ Nat.mul_le_mul (Nat.le_refl cb) (show 7 - b + 1 ≤ 7 - h by omega); omega)) (fun v142 I3 hr142 => ?_)
                obtain ⟨rfl, hK142, hF142⟩ := hr142
                have hS3 := hS2.keep hF142 hK142
                have hB1 : tk + (mk E idq b (x + eC E b)).1 = sm (fun b => if eS E b = some h then (mk E idq b (prS E idq (mk E idq) h b u + eC E b)).1 else 0) (b + 1) := by rw [show ∀ f k, sm f (k + 1) = sm f k + f k from fun _ _ => rfl, ← htk, hx]; exact congrArg (fun z => tk + z) (if_pos c97).symm
                have hB2 : er + (nI x - nI u) * (mk E idq b (x + eC E b)).1 = sm (fun b => if eS E b = some h then (nI (prS E idq (mk E idq) h b u) - nI u) * (mk E idq b (prS E idq (mk E idq) h b u + eC E b)).1 else 0) (b + 1) := by rw [show ∀ f k, sm f (k + 1) = sm f k + f k from fun _ _ => rfl, ← her, hx]; exact congrArg (fun z => er + z) (if_pos c97).symm
                refine r_istore (pc := 145) (L' := [some (.ref m), some (.int (nI h)), some (.int (nI u)), some (.int (nI ((520 * h) + u))), some (.int tk), some (.int er), some (.int (nI b)), some (.int (nI x)), some (.int ((mk E idq b (x + (eC E b))).1))]) dX10_would_145 (by decide) rfl rfl ?_
                refine r_iload (pc := 147) dX10_would_147 rfl ?_
                refine r_iload (pc := 149) dX10_would_149 rfl ?_
                refine r_iadd (pc := 151) (x := tk) (z := (mk E idq b (x + (eC E b))).1) dX10_would_151 ?_
                refine r_istore (pc := 152) (L' := [some (.ref m), some (.int (nI h)), some (.int (nI u)), some (.int (nI ((520 * h) + u))), some (.int (tk + ((mk E idq b (x + (eC E b))).1))), some (.int er), some (.int (nI b)), some (.int (nI x)), some (.int ((mk E idq b (x + (eC E b))).1))]) dX10_would_152 (by decide) rfl rfl ?_
                refine r_iload (pc := 154) dX10_would_154 rfl ?_
                refine r_iload (pc := 156) dX10_would_156 rfl ?_
                refine r_iload_n (pc := 158) dX10_would_158 rfl ?_
                refine r_isub (pc := 159) (x := nI x) (z := nI u) dX10_would_159 ?_
                refine r_iload (pc := 160) dX10_would_160 rfl ?_
                refine r_imul (pc := 162) (x := (nI x) - (nI u)) (z := (mk E idq b (x + (eC E b))).1) dX10_would_162 ?_
                refine r_iadd (pc := 163) (x := er) (z := ((nI x) - (nI u)) * ((mk E idq b (x + (eC E b))).1)) dX10_would_163 ?_
                refine r_istore (pc := 164) (L' := [some (.ref m), some (.int (nI h)), some (.int (nI u)), some (.int (nI ((520 * h) + u))), some (.int (tk + ((mk E idq b (x + (eC E b))).1))), some (.int (er + (((nI x) - (nI u)) * ((mk E idq b (x + (eC E b))).1)))), some (.int (nI b)), some (.int (nI x)), some (.int ((mk E idq b (x + (eC E b))).1))]) dX10_would_164 (by decide) rfl rfl ?_
                refine r_iinc (pc := 166) (v := nI (b + 1)) (L' := [some (.ref m), some (.int (nI h)), some (.int (nI u)), some (.int (nI ((520 * h) + u))), some (.int (tk + ((mk E idq b (x + (eC E b))).1))), some (.int (er + (((nI x) - (nI u)) * ((mk E idq b (x + (eC E b))).1)))), some (.int (nI (b + 1))), some (.int (nI x)), some (.int ((mk E idq b (x + (eC E b))).1))]) dX10_would_166 rfl (nI_inc _) (by decide) rfl rfl ?_
                refine r_goto (pc := 169) (tgt := 72) dX10_would_169 (by decide) ?_
                refine wp_sub [some (.ref m), some (.int (nI h)), some (.int (nI u)), some (.int (nI ((520 * h) + u))), some (.int (tk + ((mk E idq b (x + (eC E b))).1))), some (.int (er + (((nI x) - (nI u)) * ((mk E idq b (x + (eC E b))).1)))), some (.int (nI (b + 1))), none, none] ⟨rfl, ⟨rfl, ⟨rfl, ⟨rfl, ⟨rfl, ⟨rfl, ⟨rfl, trivial⟩⟩⟩⟩⟩⟩⟩ ?_
                exact ih72 _ (by omega) (b + 1) (tk + ((mk E idq b (x + (eC E b))).1)) (er + (((nI x) - (nI u)) * ((mk E idq b (x + (eC E b))).1))) I3 rfl (by omega) hB1 hB2 (by first | exact hK142 | exact hK1) (by first | exact (hF2.tr hF142) | exact hF1)
              refine r_aload_n (pc := 103) dX10_would_103 rfl ?_
              refine r_iload (pc := 104) dX10_would_104 rfl ?_
              refine r_callV_P (pc := 106) (b := m) (As := [.int (nI b)]) 10 207 dX10_would_106 lk_X10_isJoined (ml_RX10_207 rfl) im_X10_isJoined se_X10_isJoined (by decide) (c10_o hm) (Nat.le_of_ble_eq_true rfl) rfl (isJoined_ct hm hS1.2.1) ?_
              refine r_if_eq_b (pc := 109) (tgt := 116) dX10_would_109 (by decide) (fun c109 => ?_) (fun c109 => ?_)
              · skip
                have hxx : prS E idq (mk E idq) h b u = prS E idq (mk E idq) h b u := rfl
                refine r_aload_n (pc := 116) dX10_would_116 rfl ?_
                refine r_iload_n (pc := 117) dX10_would_117 rfl ?_
                refine r_iload (pc := 118) dX10_would_118 rfl ?_
                refine r_iload_n (pc := 120) dX10_would_120 rfl ?_
                refine r_callV_M (pc := 121) (b := m) (As := [.int (nI h), .int (nI b), .int (nI u)]) 10 216 dX10_would_121 lk_X10_priceTo (ml_RX10_216 rfl) im_X10_priceTo se_X10_priceTo (by decide) (c10_o hm) (Nat.le_of_ble_eq_true rfl) rfl (priceToM_ct hm hS1 hcb hcb6 hB (by omega) (by omega) (by omega) (by omega) c109 (fun b z => hTKs b z (d + 1) (Nat.le_refl _)) (hTKs b c97 (d + 1) (Nat.le_refl _)) (hEKs b c97 (d + 1) (Nat.le_refl _))) (fun v121 I2 hr121 => ?_)
                obtain ⟨rfl, hK2, hF2⟩ := hr121
                have hq1 := hF1.tr hF2
                exact k124 (prS E idq (mk E idq) h b u) I2 hxx (by first | exact hK2 | exact hK1) (by first | exact hq1 | exact hF1)
              · skip
                have hxx : u = prS E idq (mk E idq) h b u := (if_pos c109).symm
                refine r_iload_n (pc := 112) dX10_would_112 rfl ?_
                refine r_goto (pc := 113) (tgt := 124) dX10_would_113 (by decide) ?_
                exact k124 u I1 hxx (by first | exact hK2 | exact hK1) (by first | exact hq1 | exact hF1)
            · skip
              have hB1 : tk = sm (fun b => if eS E b = some h then (mk E idq b (prS E idq (mk E idq) h b u + eC E b)).1 else 0) (b + 1) := by rw [show ∀ f k, sm f (k + 1) = sm f k + f k from fun _ _ => rfl, ← htk]; exact (Int32.add_zero _).symm.trans (congrArg (fun z => tk + z) (if_neg c97).symm)
              have hB2 : er = sm (fun b => if eS E b = some h then (nI (prS E idq (mk E idq) h b u) - nI u) * (mk E idq b (prS E idq (mk E idq) h b u + eC E b)).1 else 0) (b + 1) := by rw [show ∀ f k, sm f (k + 1) = sm f k + f k from fun _ _ => rfl, ← her]; exact (Int32.add_zero _).symm.trans (congrArg (fun z => er + z) (if_neg c97).symm)
              refine r_goto (pc := 100) (tgt := 166) dX10_would_100 (by decide) ?_
              refine r_iinc (pc := 166) (v := nI (b + 1)) (L' := [some (.ref m), some (.int (nI h)), some (.int (nI u)), some (.int (nI ((520 * h) + u))), some (.int tk), some (.int er), some (.int (nI (b + 1))), none, none]) dX10_would_166 rfl (nI_inc _) (by decide) rfl rfl ?_
              refine r_goto (pc := 169) (tgt := 72) dX10_would_169 (by decide) ?_
              exact ih72 _ (by omega) (b + 1) tk er I1 rfl (by omega) hB1 hB2 (by first | exact hK142 | exact hK1) (by first | exact (hF2.tr hF142) | exact hF1)
      exact lp72 _ 0 (nI 0) (nI 0) I rfl (by omega) (by rfl) (by rfl) hS.2.2.2.2.2 FrK.rf
    · skip
      refine r_aload_n (pc := 36) dX10_would_36 rfl ?_
      refine r_iload_n (pc := 37) dX10_would_37 rfl ?_
      refine r_iload_n (pc := 38) dX10_would_38 rfl ?_
      refine r_callV_P (pc := 39) (b := m) (As := [.int (nI h), .int (nI u)]) 10 213 dX10_would_39 lk_X10_askBy (ml_RX10_213 rfl) im_X10_askBy se_X10_askBy (by decide) (c10_o hm) (Nat.le_of_ble_eq_true rfl) rfl (askBy_ct hm hS.1 (by omega) hS.2.1 (by omega) (by omega)) ?_
      refine r_istore (pc := 42) (L' := [some (.ref m), some (.int (nI h)), some (.int (nI u)), some (.int (nI ((520 * h) + u))), some (.int (nI 0)), some (.int (nI 0)), some (.int (nI (askF (eW E h) (eK E) u))), none, none]) dX10_would_42 (by decide) rfl rfl ?_
      refine r_aload_n (pc := 44) dX10_would_44 rfl ?_
      refine r_aload_n (pc := 45) dX10_would_45 rfl ?_
      refine r_getIv (pc := 46) 10 21 175 dX10_would_46 (fl_RX10_175 rfl) (by decide) rfl (c10_o hm) (v := nI k) (hS.2.1.1) ?_
      refine r_iload_n (pc := 49) dX10_would_49 rfl ?_
      have hal := askF_le (eW E h) (eK E) u
      refine r_iload (pc := 50) dX10_would_50 rfl ?_
      refine r_callV_P (pc := 52) (b := m) (As := [.int (nI k), .int (nI h), .int (nI (askF (eW E h) (eK E) u))]) 10 168 dX10_would_52 lk_X10_wanted (ml_RX10_168 rfl) im_X10_wanted se_X10_wanted (by decide) (c10_o hm) (Nat.le_of_ble_eq_true rfl) rfl (wanted_ct hm hS.1 (by omega) (by omega) (by omega)) ?_
      refine r_istore (pc := 55) (L' := [some (.ref m), some (.int (nI h)), some (.int (nI u)), some (.int (nI ((520 * h) + u))), some (.int (nI (eW E h (askF (eW E h) (eK E) u)))), some (.int (nI 0)), some (.int (nI (askF (eW E h) (eK E) u))), none, none]) dX10_would_55 (by decide) rfl rfl ?_
      refine r_iload (pc := 57) dX10_would_57 rfl ?_
      refine r_iload_n (pc := 59) dX10_would_59 rfl ?_
      refine r_isub (pc := 60) (x := nI (askF (eW E h) (eK E) u)) (z := nI u) dX10_would_60 ?_
      refine r_iload (pc := 61) dX10_would_61 rfl ?_
      refine r_imul (pc := 63) (x := (nI (askF (eW E h) (eK E) u)) - (nI u)) (z := nI (eW E h (askF (eW E h) (eK E) u))) dX10_would_63 ?_
      refine r_istore (pc := 64) (L' := [some (.ref m), some (.int (nI h)), some (.int (nI u)), some (.int (nI ((520 * h) + u))), some (.int (nI (eW E h (askF (eW E h) (eK E) u)))), some (.int (((nI (askF (eW E h) (eK E) u)) - (nI u)) * (nI (eW E h (askF (eW E h) (eK E) u))))), some (.int (nI (askF (eW E h) (eK E) u))), none, none]) dX10_would_64 (by decide) rfl rfl ?_
      have hE0 : mk E idq h u = stp E idq (mk E idq) h u := mk_eq (fun b a z => (hE2 b a z).1) hh u
      have hz1 : nI (eW E h (askF (eW E h) (eK E) u)) = (mk E idq h u).1 := by rw [hE0]; unfold stp; rw [if_pos c33]
      have hz2 : (nI (askF (eW E h) (eK E) u) - nI u) * nI (eW E h (askF (eW E h) (eK E) u)) = (mk E idq h u).2 := by rw [hE0]; unfold stp; rw [if_pos c33]
      have hz3 := hS.2.2.2.2.2
      have hz4 := FrK.rf (I := I) (m := m)
      refine r_goto (pc := 66) (tgt := 172) dX10_would_66 (by decide) ?_
      refine wp_sub [some (.ref m), some (.int (nI h)), some (.int (nI u)), some (.int (nI ((520 * h) + u))), some (.int (nI (eW E h (askF (eW E h) (eK E) u)))), some (.int (((nI (askF (eW E h) (eK E) u)) - (nI u)) * (nI (eW E h (askF (eW E h) (eK E) u))))), none, none, none] ⟨rfl, ⟨rfl, ⟨rfl, ⟨rfl, ⟨rfl, ⟨rfl, trivial⟩⟩⟩⟩⟩⟩ ?_
      exact k172 (nI (eW E h (askF (eW E h) (eK E) u))) (((nI (askF (eW E h) (eK E) u)) - (nI u)) * (nI (eW E h (askF (eW E h) (eK E) u)))) I hz1 hz2 hz3 hz4
  · skip
    refine r_ret_v (pc := 17) dX10_would_17 rfl ?_
    exact ⟨rfl, I, rfl, KV_at hS.2.2.2.2.2 hh (by omega) c14, hS.2.2.2.2.2, FrK.rf⟩

set_option maxRecDepth 100000 in
theorem takeBy_1 {d : Nat} {I : Im} {G : Gm} {m k cn cb : Nat} {E : Ec} {T : Lt} (hm : isC10 G m) (hS : MS I m k E T cn) (hcb : ∀ b, eC E b ≤ cb) (hcb6 : cb ≤ 60) (hB : BdM E) {h u : Nat} (hh : h < 8) (hhn : h < eN E) (hu : u + cb * (7 - h) ≤ 519) (hTKs : ∀ b, eS E b = some h → ∀ D, d + 1 ≤ D → TKb G m k E T cn cb D b) (hEKs : ∀ b, eS E b = some h → ∀ D, d + 1 ≤ D → EKb G m k E T cn cb D b) : Ct (d + 5) 0 0 YX10_takeBy [.ref m, .int (nI h), .int (nI u)] (I, G) (TkQ I G m E (mk E idq h u).1) := by
  refine Ct.of (by decide) (by simp [Value.category]) (Nat.le_of_ble_eq_true rfl) ?_
  have hn8 := hS.1.2.1
  have hcn10 := hS.2.2.2.1
  have hkc := hS.2.2.2.2.1
  show wp _ _ _ _ 0 [some (.ref m), some (.int (nI h)), some (.int (nI u))] [] _ _
  refine r_aload_n (pc := 0) dX10_takeBy_0 rfl ?_
  refine r_iload_n (pc := 1) dX10_takeBy_1 rfl ?_
  refine r_iload_n (pc := 2) dX10_takeBy_2 rfl ?_
  refine r_callV_V (pc := 3) (b := m) (As := [.int (nI h), .int (nI u)]) 10 219 dX10_takeBy_3 lk_X10_would (ml_RX10_219 rfl) im_X10_would se_X10_would (by decide) (c10_o hm) (Nat.le_of_ble_eq_true rfl) rfl (would_ct hm hS hcb hcb6 hB hh hhn hu hTKs hEKs) (fun I2 hr => ?_)
  obtain ⟨hv, hK2, hF2⟩ := hr
  refine r_aload_n (pc := 6) dX10_takeBy_6 rfl ?_
  refine r_get1 (pc := 7) 10 26 57 dX10_takeBy_7 (fl_RX10_57 rfl) (by decide) rfl (c10_o hm) (c10_p26 hm) ?_
  refine r_sipush (pc := 10) (v := 520) dX10_takeBy_10 (by decide) ?_
  refine r_iload_n (pc := 13) dX10_takeBy_13 rfl ?_
  refine r_imul_n (pc := 14) (a := 520) (b := h) dX10_takeBy_14 ?_
  refine r_iload_n (pc := 15) dX10_takeBy_15 rfl ?_
  refine r_iadd_n (pc := 16) (a := 520 * h) (b := u) dX10_takeBy_16 ?_
  refine r_iald_n (pc := 17) (i := (520 * h) + u) dX10_takeBy_17 (c10_a26 hm) (by decide) (by omega) (v := (mk E idq h u).1) (hv.1) ?_
  refine r_ret_i (pc := 18) dX10_takeBy_18 rfl ?_
  exact ⟨_, I2, rfl, rfl, rfl, hK2, hF2⟩

set_option maxRecDepth 100000 in
theorem earnBy_1 {d : Nat} {I : Im} {G : Gm} {m k cn cb : Nat} {E : Ec} {T : Lt} (hm : isC10 G m) (hS : MS I m k E T cn) (hcb : ∀ b, eC E b ≤ cb) (hcb6 : cb ≤ 60) (hB : BdM E) {h u : Nat} (hh : h < 8) (hhn : h < eN E) (hu : u + cb * (7 - h) ≤ 519) (hTKs : ∀ b, eS E b = some h → ∀ D, d + 1 ≤ D → TKb G m k E T cn cb D b) (hEKs : ∀ b, eS E b = some h → ∀ D, d + 1 ≤ D → EKb G m k E T cn cb D b) : Ct (d + 5) 0 0 YX10_earnBy [.ref m, .int (nI h), .int (nI u)] (I, G) (TkQ I G m E (mk E idq h u).2) := by
  refine Ct.of (by decide) (by simp [Value.category]) (Nat.le_of_ble_eq_true rfl) ?_
  have hn8 := hS.1.2.1
  have hcn10 := hS.2.2.2.1
  have hkc := hS.2.2.2.2.1
  show wp _ _ _ _ 0 [some (.ref m), some (.int (nI h)), some (.int (nI u))] [] _ _
  refine r_aload_n (pc := 0) dX10_earnBy_0 rfl ?_
  refine r_iload_n (pc := 1) dX10_earnBy_1 rfl ?_
  refine r_iload_n (pc := 2) dX10_earnBy_2 rfl ?_
  refine r_callV_V (pc := 3) (b := m) (As := [.int (nI h), .int (nI u)]) 10 219 dX10_earnBy_3 lk_X10_would (ml_RX10_219 rfl) im_X10_would se_X10_would (by decide) (c10_o hm) (Nat.le_of_ble_eq_true rfl) rfl (would_ct hm hS hcb hcb6 hB hh hhn hu hTKs hEKs) (fun I2 hr => ?_)
  obtain ⟨hv, hK2, hF2⟩ := hr
  refine r_aload_n (pc := 6) dX10_earnBy_6 rfl ?_
  refine r_get1 (pc := 7) 10 27 60 dX10_earnBy_7 (fl_RX10_60 rfl) (by decide) rfl (c10_o hm) (c10_p27 hm) ?_
  refine r_sipush (pc := 10) (v := 520) dX10_earnBy_10 (by decide) ?_
  refine r_iload_n (pc := 13) dX10_earnBy_13 rfl ?_
  refine r_imul_n (pc := 14) (a := 520) (b := h) dX10_earnBy_14 ?_
  refine r_iload_n (pc := 15) dX10_earnBy_15 rfl ?_
  refine r_iadd_n (pc := 16) (a := 520 * h) (b := u) dX10_earnBy_16 ?_
  refine r_iald_n (pc := 17) (i := (520 * h) + u) dX10_earnBy_17 (c10_a27 hm) (by decide) (by omega) (v := (mk E idq h u).2) (hv.2) ?_
  refine r_ret_i (pc := 18) dX10_earnBy_18 rfl ?_
  exact ⟨_, I2, rfl, rfl, rfl, hK2, hF2⟩

/-- takeBy and earnBy, of every house -/
theorem tk_all {G : Gm} {m k cn cb : Nat} {E : Ec} {T : Lt} (hm : isC10 G m) (hcb : ∀ b, eC E b ≤ cb) (hcb6 : cb ≤ 60) (hB : BdM E) (hE : ∀ b a, eS E b = some a → a < b ∧ b < eN E) (hn : eN E ≤ 8) : ∀ (n h : Nat), 8 - h = n → h < eN E → ∀ D, 4 * (8 - h) + 1 ≤ D → TKb G m k E T cn cb D h ∧ EKb G m k E T cn cb D h := by
  intro n
  induction n using Nat.strongRecOn with
  | ind n ih =>
    intro h hn2 hhn D hD
    obtain ⟨d, rfl⟩ : ∃ d, D = d + 5 := ⟨D - 5, by omega⟩
    have key : ∀ b, eS E b = some h → ∀ D, d + 1 ≤ D → TKb G m k E T cn cb D b ∧ EKb G m k E T cn cb D b := fun b hb D2 h2 => by
      have := hE b h hb
      exact ih (8 - b) (by omega) b rfl this.2 D2 (by omega)
    exact ⟨fun I u hS hu => takeBy_1 hm hS hcb hcb6 hB (by omega) hhn hu (fun b hb D h2 => (key b hb D h2).1) (fun b hb D h2 => (key b hb D h2).2), fun I u hS hu => earnBy_1 hm hS hcb hcb6 hB (by omega) hhn hu (fun b hb D h2 => (key b hb D h2).1) (fun b hb D h2 => (key b hb D h2).2)⟩
