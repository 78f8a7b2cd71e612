/-! ===== the sets at rest, class side: the market is settled at the end ===== -/
theorem okH_z (E : Ec) : okH E 0 := by
  unfold okH
  rw [show nI (2 * 0) = 0 from nI_0]
  exact Int32.zero_and

set_option maxHeartbeats 300000 in
set_option maxRecDepth 100000 in
theorem findRests2_ct {d : Nat} {I : Im} {G : Gm} {jo mb t wd n : Nat} {c0 : Nat → Nat} {s : Nat → Option Nat} {w : Nat → Nat → Nat} {R : Nat → Bool} (hj : isC4 G jo) (hM : isC5 G mb) (hT : isC8 G t) (hW : isC7 G wd) (hsp : mb + 44 ≤ t ∨ t + 18 ≤ mb) (hwd : wd < mb ∨ mb + 44 ≤ wd) (hjm : mb + 44 ≤ jo) (hjt : jo + 131 ≤ t ∨ t + 18 ≤ jo) (hjw : wd < jo) (hwt0 : wd < t ∨ t + 18 ≤ wd) (hτ : TmOK (I wd)) (ht0 : TrC I t (mkE n c0 s w (I wd))) (hco : CoC I t c0) (hR : ∀ x, x < 128 → (R x = true ↔ rsP (mkE n c0 s w (I wd)) x)) (hold : G.1 mb 0 = some t → TmOK (I (mb + 1)) ∧ MkV I mb (mkE n c0 s w (I (mb + 1)))) : Ct (d + 6) 0 0 YX4_findRests [.ref jo, .ref t, .ref wd, .ref mb] (I, G) (qU (fun M => ∃ (I2 : Im) (G2 : Gm), M = (I2, G2) ∧ G2 = sG G mb t ∧ (G2.1 mb 0 = some t → TmOK (I2 (mb + 1)) ∧ MkV I2 mb (mkE n c0 s w (I2 (mb + 1)))) ∧ RsV I2 t R ∧ I2 t 12 = 1 ∧ (∀ k, 1 ≤ k → k < 6 → I2 wd k = I wd k) ∧ ∀ a k, ¬ (jo ≤ a ∧ a < jo + 131) → ¬ (mb ≤ a ∧ a < mb + 44) → a ≠ wd → a ≠ t + 17 → ¬ (a = t ∧ (k = 11 ∨ k = 12)) → I2 a k = I a k)) := by
  refine Ct.of (by decide) (by simp [Value.category]) (Nat.le_of_ble_eq_true rfl) ?_
  have ht : TrC I t (Eb n c0 s w I wd) := ht0
  have hn8 : n ≤ 8 := ht0.2.1
  have hE0 : ∀ τ, SrC (mkE n c0 s w τ) := fun τ => ⟨ht0.2.1, ht0.2.2.2.1⟩
  show wp _ _ _ _ 0 [some (.ref jo), some (.ref t), some (.ref wd), some (.ref mb), none, none, none] [] _ _
  refine r_aload_n (pc := 0) dX4_findRests_0 rfl ?_
  refine r_aload_n (pc := 1) dX4_findRests_1 rfl ?_
  refine r_callV_P (pc := 2) (b := jo) (As := [.ref t]) 4 29 dX4_findRests_2 lk_X4_buyingHouses (ml_RX4_29 rfl) im_X4_buyingHouses se_X4_buyingHouses (by decide) (c4_o hj) (Nat.le_of_ble_eq_true rfl) rfl (buyingHouses_ct (E := (Eb n c0 s w I wd)) hj hT hjt ht) ?_
  refine r_istore (pc := 5) (L' := [some (.ref jo), some (.ref t), some (.ref wd), some (.ref mb), some (.int (buF (Eb n c0 s w I wd))), none, none]) dX4_findRests_5 (by decide) rfl rfl ?_
  refine r_iconst (pc := 7) (v := 0) dX4_findRests_7 (by decide) ?_
  refine r_istore (pc := 8) (L' := [some (.ref jo), some (.ref t), some (.ref wd), some (.ref mb), some (.int (buF (Eb n c0 s w I wd))), some (.int (nI 0)), none]) dX4_findRests_8 (by decide) rfl rfl ?_
  have lp10 : ∀ (n10 : Nat), ∀ (x : Nat) (I1 : Im) (G1 : Gm), 128 - x = n10 → (x ≤ 128) → ((x = 0 ∧ G1 = G) ∨ G1 = sG G mb t) → (G1.1 mb 0 = some t → TmOK (I1 (mb + 1)) ∧ MkV I1 mb (mkE n c0 s w (I1 (mb + 1)))) → (∀ k, 1 ≤ k → k < 6 → I1 wd k = I wd k) → (∀ y, y < x → okH (Eb n c0 s w I wd) y → ∀ h, h < n → I1 (jo + 2 + 1 + y) h = erS (Eb n c0 s w I wd) y h) → (∀ a k, ¬ (jo ≤ a ∧ a < jo + 131) → ¬ (mb ≤ a ∧ a < mb + 44) → a ≠ wd → I1 a k = I a k) → wp (d + 6) 0 0 YX4_findRests 10 [some (.ref jo), some (.ref t), some (.ref wd), some (.ref mb), some (.int (buF (Eb n c0 s w I wd))), some (.int (nI x)), none] [] (I1, G1) (qU (fun M => ∃ (I2 : Im) (G2 : Gm), M = (I2, G2) ∧ G2 = sG G mb t ∧ (G2.1 mb 0 = some t → TmOK (I2 (mb + 1)) ∧ MkV I2 mb (mkE n c0 s w (I2 (mb + 1)))) ∧ RsV I2 t R ∧ I2 t 12 = 1 ∧ (∀ k, 1 ≤ k → k < 6 → I2 wd k = I wd k) ∧ ∀ a k, ¬ (jo ≤ a ∧ a < jo + 131) → ¬ (mb ≤ a ∧ a < mb + 44) → a ≠ wd → a ≠ t + 17 → ¬ (a = t ∧ (k = 11 ∨ k = 12)) → I2 a k = I a k)) := by
    intro n10
    induction n10 using Nat.strongRecOn with
    | ind n10 ih10 =>
      intro x I1 G1 hmu10 hx hG1 hold1 hwt hrow hfr
      have hge : Geq G G1 := hG1.elim (fun e => e.2 ▸ Geq.rf) (fun e => e ▸ sG_eq hM)
      have hj := isC4_geq hge hj
      have hT := isC8_geq hge hT
      have hW := isC7_geq hge hW
      have hM := isC5_geq hge hM
      have ht1 : TrC I1 t (Eb n c0 s w I wd) := ht.keep (fun a k g1 g2 => hfr a k (by omega) (by omega) (by omega))
      have hco1 : CoC I1 t c0 := ⟨fun h hh => (hfr _ _ (by omega) (by omega) (by omega)).trans (hco.1 h hh), hco.2⟩
      refine r_iload (pc := 10) dX4_findRests_10 rfl ?_
      refine r_sipush (pc := 12) (v := 128) dX4_findRests_12 (by decide) ?_
      refine r_icmp_ge_n (pc := 15) (a := x) (b := 128) (tgt := 85) dX4_findRests_15 (by decide) (by omega) (by omega) (fun c15 => ?_) (fun c15 => ?_)
      · skip
        refine r_aload_n (pc := 85) dX4_findRests_85 rfl ?_
        refine r_iconst (pc := 86) (v := 0) dX4_findRests_86 (by decide) ?_
        refine r_putI (pc := 87) (v := nI 0) 8 11 46 dX4_findRests_87 (fl_RX4_46 rfl) (by decide) rfl rfl (c8_o hT) ?_
        refine r_iconst (pc := 90) (v := 0) dX4_findRests_90 (by decide) ?_
        refine r_istore (pc := 91) (L' := [some (.ref jo), some (.ref t), some (.ref wd), some (.ref mb), some (.int (buF (Eb n c0 s w I wd))), some (.int (nI 0)), none]) dX4_findRests_91 (by decide) rfl rfl ?_
        have lp93 : ∀ (n93 : Nat), ∀ (x : Nat) (I6 : Im), 128 - x = n93 → (x ≤ 128) → (I6 t 11 = nI (ctB R x)) → (∀ r, r < x → R r = true → I6 (t + 17) (ctB R r) = nI (2 * r)) → (∀ a k, a ≠ jo + 1 → a ≠ t + 17 → ¬ (a = t ∧ k = 11) → I6 a k = I1 a k) → wp (d + 6) 0 0 YX4_findRests 93 [some (.ref jo), some (.ref t), some (.ref wd), some (.ref mb), some (.int (buF (Eb n c0 s w I wd))), some (.int (nI x)), none] [] (I6, G1) (qU (fun M => ∃ (I2 : Im) (G2 : Gm), M = (I2, G2) ∧ G2 = sG G mb t ∧ (G2.1 mb 0 = some t → TmOK (I2 (mb + 1)) ∧ MkV I2 mb (mkE n c0 s w (I2 (mb + 1)))) ∧ RsV I2 t R ∧ I2 t 12 = 1 ∧ (∀ k, 1 ≤ k → k < 6 → I2 wd k = I wd k) ∧ ∀ a k, ¬ (jo ≤ a ∧ a < jo + 131) → ¬ (mb ≤ a ∧ a < mb + 44) → a ≠ wd → a ≠ t + 17 → ¬ (a = t ∧ (k = 11 ∨ k = 12)) → I2 a k = I a k)) := by
          intro n93
          induction n93 using Nat.strongRecOn with
          | ind n93 ih93 =>
            intro x I6 hmu93 hx6 hcn6 hps6 hfr6
            have ht6 : TrC I6 t (Eb n c0 s w I wd) := ht1.keep6 (fun a k g1 g2 g3 => hfr6 a k (by omega) (by omega) (by omega))
            have hrow6 : ∀ y, y < 128 → okH (Eb n c0 s w I wd) y → ∀ h, h < n → I6 (jo + 2 + 1 + y) h = erS (Eb n c0 s w I wd) y h := fun y hy hok h hh => (hfr6 _ _ (by omega) (by omega) (by omega)).trans (hrow y (by omega) hok h hh)
            refine r_iload (pc := 93) dX4_findRests_93 rfl ?_
            refine r_sipush (pc := 95) (v := 128) dX4_findRests_95 (by decide) ?_
            refine r_icmp_ge_n (pc := 98) (a := x) (b := 128) (tgt := 164) dX4_findRests_98 (by decide) (by omega) (by omega) (fun c98 => ?_) (fun c98 => ?_)
            · skip
              refine r_aload_n (pc := 164) dX4_findRests_164 rfl ?_
              refine r_iconst (pc := 165) (v := 1) dX4_findRests_165 (by decide) ?_
              refine r_putZ (pc := 166) (v := nI 1) 8 12 56 dX4_findRests_166 (fl_RX4_56 rfl) (by decide) rfl rfl (c8_o hT) (by decide) ?_
              refine r_ret_v (pc := 169) dX4_findRests_169 rfl ?_
              obtain rfl : x = 128 := (by omega)
              refine ⟨rfl, _, G1, rfl, hG1.elim (fun e => absurd e.1 (by omega)) id, fun z => ?_, ⟨(up2_rd (by omega)).trans hcn6, fun r hr hRr => (up2_rd (by omega)).trans (hps6 r hr hRr)⟩, up2_at, fun k g1 g2 => ?_, fun a k g1 g2 g3 g4 g5 => ?_⟩
              · have e : ∀ a k, mb ≤ a → a < mb + 44 → up2 I6 t 12 (nI 1) a k = I1 a k := fun a k g1 g2 => by rw [up2_rd (by omega)]; exact hfr6 a k (by omega) (by omega) (by omega)
                have e1 : up2 I6 t 12 (nI 1) (mb + 1) = I1 (mb + 1) := funext fun k => e _ k (by omega) (by omega)
                rw [e1]
                exact ⟨(hold1 z).1, (hold1 z).2.keepV (hE0 _) e⟩
              · exact (up2_rd (by omega)).trans ((hfr6 wd k (by omega) (by omega) (by omega)).trans (hwt k g1 g2))
              · exact (up2_rd (by omega)).trans ((hfr6 a k (by omega) (by omega) (by omega)).trans (hfr a k g1 g2 g3))
            · skip
              refine r_iconst (pc := 101) (v := 2) dX4_findRests_101 (by decide) ?_
              refine r_iload (pc := 102) dX4_findRests_102 rfl ?_
              refine r_imul_n (pc := 104) (a := 2) (b := x) dX4_findRests_104 ?_
              refine r_iload (pc := 105) dX4_findRests_105 rfl ?_
              refine r_iconst (pc := 107) (v := -1) dX4_findRests_107 (by decide) ?_
              refine r_ixor (pc := 108) (x := buF (Eb n c0 s w I wd)) (z := (-1)) dX4_findRests_108 ?_
              refine r_iand (pc := 109) (x := nI (2 * x)) (z := (buF (Eb n c0 s w I wd)) ^^^ (-1)) dX4_findRests_109 ?_
              refine r_if_ne (pc := 110) (x := (nI (2 * x)) &&& ((buF (Eb n c0 s w I wd)) ^^^ (-1))) (tgt := 158) dX4_findRests_110 (by decide) (fun c110 => ?_) (fun c110 => ?_)
              · skip
                have hRx : ¬ R x = true := fun z => c110 ((hR x (by omega)).mp z).1
                refine r_iinc (pc := 158) (v := nI (x + 1)) (L' := [some (.ref jo), some (.ref t), some (.ref wd), some (.ref mb), some (.int (buF (Eb n c0 s w I wd))), some (.int (nI (x + 1))), none]) dX4_findRests_158 rfl (nI_inc _) (by decide) rfl rfl ?_
                refine r_goto (pc := 161) (tgt := 93) dX4_findRests_161 (by decide) ?_
                exact ih93 _ (by omega) (x + 1) I6 rfl (by omega) (by first | exact hcnn | exact ((hF7 _ _ (by omega)).trans (hcn6.trans (congrArg nI (ctB_miss hRx).symm))) | exact (hcn6.trans (congrArg nI (ctB_miss hRx).symm))) (by first | exact hpsn | exact (fun r hr hR => (Nat.lt_or_ge r x).elim (fun g => (hF7 _ _ (by omega)).trans (hps6 r g hR)) (fun g => absurd ((show r = x by omega) ▸ hR) hRx)) | exact (fun r hr hR => (Nat.lt_or_ge r x).elim (fun g => hps6 r g hR) (fun g => absurd ((show r = x by omega) ▸ hR) hRx))) (by first | exact hfrn | exact (fun a k g1 g2 g3 => (hF7 a k g1).trans (hfr6 a k g1 g2 g3)) | exact hfr6)
              · skip
                refine r_aload_n (pc := 113) dX4_findRests_113 rfl ?_
                refine r_aload_n (pc := 114) dX4_findRests_114 rfl ?_
                refine r_iload (pc := 115) dX4_findRests_115 rfl ?_
                refine r_iload (pc := 117) dX4_findRests_117 rfl ?_
                refine r_callV_M (pc := 119) (b := jo) (As := [.ref t, .int (buF (Eb n c0 s w I wd)), .int (nI x)]) 4 49 dX4_findRests_119 lk_X4_isAtRest (ml_RX4_49 rfl) im_X4_isAtRest se_X4_isAtRest (by decide) (c4_o hj) (Nat.le_of_ble_eq_true rfl) rfl (isAtRest_ct (er := erS (Eb n c0 s w I wd)) hj hT hjt ht6 (by omega) c110 (fun y hy hok h hh => hrow6 y hy hok h hh)) (fun v119 I7 hr119 => ?_)
                obtain ⟨hr, hF7⟩ := hr119
                have ht7 : TrC I7 t (Eb n c0 s w I wd) := ht6.keep (fun a k g1 g2 => hF7 a k (by omega))
                refine r_if_eq (pc := 122) (x := v119) (tgt := 158) dX4_findRests_122 (by decide) (fun c122 => ?_) (fun c122 => ?_)
                · skip
                  have hRx : ¬ R x = true := fun z => (hr.elim (fun q => q.2) (fun q => by rw [q.1] at c122; exact absurd c122 (by decide))) ((hR x (by omega)).mp z).2
                  refine r_iinc (pc := 158) (v := nI (x + 1)) (L' := [some (.ref jo), some (.ref t), some (.ref wd), some (.ref mb), some (.int (buF (Eb n c0 s w I wd))), some (.int (nI (x + 1))), none]) dX4_findRests_158 rfl (nI_inc _) (by decide) rfl rfl ?_
                  refine r_goto (pc := 161) (tgt := 93) dX4_findRests_161 (by decide) ?_
                  exact ih93 _ (by omega) (x + 1) I7 rfl (by omega) (by first | exact hcnn | exact ((hF7 _ _ (by omega)).trans (hcn6.trans (congrArg nI (ctB_miss hRx).symm))) | exact (hcn6.trans (congrArg nI (ctB_miss hRx).symm))) (by first | exact hpsn | exact (fun r hr hR => (Nat.lt_or_ge r x).elim (fun g => (hF7 _ _ (by omega)).trans (hps6 r g hR)) (fun g => absurd ((show r = x by omega) ▸ hR) hRx)) | exact (fun r hr hR => (Nat.lt_or_ge r x).elim (fun g => hps6 r g hR) (fun g => absurd ((show r = x by omega) ▸ hR) hRx))) (by first | exact hfrn | exact (fun a k g1 g2 g3 => (hF7 a k g1).trans (hfr6 a k g1 g2 g3)) | exact hfr6)
                · skip
                  have hRx : R x = true := (hR x (by omega)).mpr ⟨c110, (hr.elim (fun q => absurd q.1 c122) (fun q => q.2))⟩
                  refine r_aload_n (pc := 125) dX4_findRests_125 rfl ?_
                  refine r_getIv (pc := 126) 8 11 46 dX4_findRests_126 (fl_RX4_46 rfl) (by decide) rfl (c8_o hT) (v := nI (ctB R x)) ((hF7 _ _ (by omega)).trans hcn6) ?_
                  refine r_sipush (pc := 129) (v := 128) dX4_findRests_129 (by decide) ?_
                  refine r_icmp_ge_n (pc := 132) (a := ctB R x) (b := 128) (tgt := 158) dX4_findRests_132 (by decide) (by have := ctB_le R x; omega) (by have := ctB_le R x; omega) (fun c132 => ?_) (fun c132 => ?_)
                  · exfalso; have := ctB_le R x; omega
                  · skip
                    refine r_aload_n (pc := 135) dX4_findRests_135 rfl ?_
                    refine r_get1 (pc := 136) 8 10 53 dX4_findRests_136 (fl_RX4_53 rfl) (by decide) rfl (c8_o hT) (c8_p10 hT) ?_
                    refine r_aload_n (pc := 139) dX4_findRests_139 rfl ?_
                    refine r_getIv (pc := 140) 8 11 46 dX4_findRests_140 (fl_RX4_46 rfl) (by decide) rfl (c8_o hT) (v := nI (ctB R x)) ((hF7 _ _ (by omega)).trans hcn6) ?_
                    refine r_iconst (pc := 143) (v := 2) dX4_findRests_143 (by decide) ?_
                    refine r_iload (pc := 144) dX4_findRests_144 rfl ?_
                    refine r_imul_n (pc := 146) (a := 2) (b := x) dX4_findRests_146 ?_
                    refine r_iast_n (pc := 147) (i := ctB R x) (v := nI (2 * x)) dX4_findRests_147 (c8_a10 hT) (by decide) (by have := ctB_le R x; omega) ?_
                    refine r_aload_n (pc := 148) dX4_findRests_148 rfl ?_
                    refine r_dup (pc := 149) dX4_findRests_149 rfl ?_
                    refine r_getIv (pc := 150) 8 11 46 dX4_findRests_150 (fl_RX4_46 rfl) (by decide) rfl (c8_o hT) (v := nI (ctB R x)) ((up2_rd (by omega)).trans ((hF7 _ _ (by omega)).trans hcn6)) ?_
                    refine r_iconst (pc := 153) (v := 1) dX4_findRests_153 (by decide) ?_
                    refine r_iadd_n (pc := 154) (a := ctB R x) (b := 1) dX4_findRests_154 ?_
                    refine r_putI (pc := 155) (v := nI ((ctB R x) + 1)) 8 11 46 dX4_findRests_155 (fl_RX4_46 rfl) (by decide) rfl rfl (c8_o hT) ?_
                    obtain ⟨I8, hI8⟩ : ∃ zz0 : Im, zz0 = up2 (up2 I7 (t + 17) (ctB R x) (nI (2 * x))) t 11 (nI ((ctB R x) + 1)) := ⟨_, rfl⟩
                    refine wp_M (M2 := (I8, G1)) (by subst hI8; rfl) ?_
                    have hcnn : I8 t 11 = nI (ctB R (x + 1)) := by rw [hI8, up2_at, ctB_hit hRx]
                    have hpsn : ∀ r, r < x + 1 → R r = true → I8 (t + 17) (ctB R r) = nI (2 * r) := fun r hr hRr => by
                      rw [hI8, up2_rd (by omega)]
                      by_cases e : r = x
                      · rw [e, up2_at]
                      · have h1 := ctB_mono (R := R) (show r + 1 ≤ x by omega)
                        have h2 := ctB_hit hRr
                        rw [up2_rd (by omega), hF7 _ _ (by omega)]
                        exact hps6 r (by omega) hRr
                    have hfrn : ∀ a k, a ≠ jo + 1 → a ≠ t + 17 → ¬ (a = t ∧ k = 11) → I8 a k = I1 a k := fun a k g1 g2 g3 => by rw [hI8, up2_rd (by omega), up2_rd (by omega), hF7 a k g1]; exact hfr6 a k g1 g2 g3
                    refine r_iinc (pc := 158) (v := nI (x + 1)) (L' := [some (.ref jo), some (.ref t), some (.ref wd), some (.ref mb), some (.int (buF (Eb n c0 s w I wd))), some (.int (nI (x + 1))), none]) dX4_findRests_158 rfl (nI_inc _) (by decide) rfl rfl ?_
                    refine r_goto (pc := 161) (tgt := 93) dX4_findRests_161 (by decide) ?_
                    exact ih93 _ (by omega) (x + 1) I8 rfl (by omega) (by first | exact hcnn | exact ((hF7 _ _ (by omega)).trans (hcn6.trans (congrArg nI (ctB_miss hRx).symm))) | exact (hcn6.trans (congrArg nI (ctB_miss hRx).symm))) (by first | exact hpsn | exact (fun r hr hR => (Nat.lt_or_ge r x).elim (fun g => (hF7 _ _ (by omega)).trans (hps6 r g hR)) (fun g => absurd ((show r = x by omega) ▸ hR) hRx)) | exact (fun r hr hR => (Nat.lt_or_ge r x).elim (fun g => hps6 r g hR) (fun g => absurd ((show r = x by omega) ▸ hR) hRx))) (by first | exact hfrn | exact (fun a k g1 g2 g3 => (hF7 a k g1).trans (hfr6 a k g1 g2 g3)) | exact hfr6)
        exact lp93 _ 0 (up2 I1 t 11 (nI 0)) rfl (by omega) (by exact up2_at) (by exact fun y hy => absurd hy (Nat.not_lt_zero _)) (by exact fun a k _ _ g => up2_rd (by omega))
      · skip
        refine r_iconst (pc := 18) (v := 2) dX4_findRests_18 (by decide) ?_
        refine r_iload (pc := 19) dX4_findRests_19 rfl ?_
        refine r_imul_n (pc := 21) (a := 2) (b := x) dX4_findRests_21 ?_
        refine r_iload (pc := 22) dX4_findRests_22 rfl ?_
        refine r_iconst (pc := 24) (v := -1) dX4_findRests_24 (by decide) ?_
        refine r_ixor (pc := 25) (x := buF (Eb n c0 s w I wd)) (z := (-1)) dX4_findRests_25 ?_
        refine r_iand (pc := 26) (x := nI (2 * x)) (z := (buF (Eb n c0 s w I wd)) ^^^ (-1)) dX4_findRests_26 ?_
        refine r_if_ne (pc := 27) (x := (nI (2 * x)) &&& ((buF (Eb n c0 s w I wd)) ^^^ (-1))) (tgt := 79) dX4_findRests_27 (by decide) (fun c27 => ?_) (fun c27 => ?_)
        · skip
          refine r_iinc (pc := 79) (v := nI (x + 1)) (L' := [some (.ref jo), some (.ref t), some (.ref wd), some (.ref mb), some (.int (buF (Eb n c0 s w I wd))), some (.int (nI (x + 1))), none]) dX4_findRests_79 rfl (nI_inc _) (by decide) rfl rfl ?_
          refine r_goto (pc := 82) (tgt := 10) dX4_findRests_82 (by decide) ?_
          exact ih10 _ (by omega) (x + 1) I1 G1 rfl (by omega) (by first | exact hGn | exact Or.inr (hG1.elim (fun e => absurd (e.1 ▸ okH_z _) c27) id)) (by first | exact hold4 | exact hold1) (by first | exact hwt4 | exact hwt) (by first | exact hrow4 | exact (fun y hy hok h hh => (Nat.lt_or_ge y x).elim (fun g => hrow y g hok h hh) (fun g => absurd hok ((show y = x by omega) ▸ c27)))) (by first | exact hfr44 | exact hfr)
        · skip
          refine r_aload_n (pc := 30) dX4_findRests_30 rfl ?_
          refine r_iconst (pc := 31) (v := 2) dX4_findRests_31 (by decide) ?_
          refine r_iload (pc := 32) dX4_findRests_32 rfl ?_
          refine r_imul_n (pc := 34) (a := 2) (b := x) dX4_findRests_34 ?_
          refine r_putI (pc := 35) (v := nI (2 * x)) 7 0 33 dX4_findRests_35 (fl_RX4_33 rfl) (by decide) rfl rfl (c7_o hW) ?_
          obtain ⟨I2, hI2⟩ : ∃ zz0 : Im, zz0 = up2 I1 wd 0 (nI (2 * x)) := ⟨_, rfl⟩
          refine wp_M (M2 := (I2, G1)) (by subst hI2; rfl) ?_
          have hmk2 : mkE n c0 s w (I2 wd) = setJ (Eb n c0 s w I wd) (nI (2 * x)) := by
            rw [show nI (2 * x) = I2 wd 0 by rw [hI2, up2_at]]
            exact mkE_j (τ := I wd) ⟨by rw [hI2, up2_rd (by omega), hwt 1 (by omega) (by omega)], by rw [hI2, up2_rd (by omega), hwt 2 (by omega) (by omega)], by rw [hI2, up2_rd (by omega), hwt 3 (by omega) (by omega)], by rw [hI2, up2_rd (by omega), hwt 4 (by omega) (by omega)], by rw [hI2, up2_rd (by omega), hwt 5 (by omega) (by omega)]⟩
          have hw2 : ∀ k, 1 ≤ k → k < 6 → I2 wd k = I wd k := fun k g1 g2 => by rw [hI2, up2_rd (by omega)]; exact hwt k g1 g2
          have hτ2 : TmOK (I2 wd) := by unfold TmOK at hτ ⊢; rw [hw2 1 (by omega) (by omega), hw2 2 (by omega) (by omega), hw2 3 (by omega) (by omega), hw2 5 (by omega) (by omega)]; exact hτ
          have ht2 : TrC I2 t (mkE n c0 s w (I2 wd)) := by rw [hmk2]; exact ht1.keep (fun a k g1 g2 => by rw [hI2, up2_rd (by omega)])
          have hco2 : CoC I2 t c0 := ⟨fun h hh => by rw [hI2, up2_rd (by omega)]; exact hco1.1 h hh, hco.2⟩
          have hold2 : G1.1 mb 0 = some t → TmOK (I2 (mb + 1)) ∧ MkV I2 mb (mkE n c0 s w (I2 (mb + 1))) := fun z => by
            have e : I2 (mb + 1) = I1 (mb + 1) := funext fun k => by rw [hI2, up2_rd (by omega)]
            rw [e]
            exact ⟨(hold1 z).1, (hold1 z).2.keepV (hE0 _) (fun a k g1 g2 => by rw [hI2, up2_rd (by omega)])⟩
          refine r_aload_n (pc := 38) dX4_findRests_38 rfl ?_
          refine r_aload_n (pc := 39) dX4_findRests_39 rfl ?_
          refine r_aload_n (pc := 40) dX4_findRests_40 rfl ?_
          refine r_callV_U (pc := 41) (b := mb) (As := [.ref t, .ref wd]) 5 38 dX4_findRests_41 lk_X5_settle (ml_RX4_38 rfl) im_X5_settle se_X5_settle (by decide) (c5_o hM) (Nat.le_of_ble_eq_true rfl) rfl (settle_ct (n := n) (c0 := c0) (s := s) (w := w) hM hT hW hsp hwd hτ2 ht2 hco2 hold2) (fun M3 hse => ?_)
          obtain ⟨I3, rfl, hV3, htm3, hfr3⟩ := hse
          have hge3 : Geq G1 (sG G1 mb t) := sG_eq hM
          have hj := isC4_geq hge3 hj
          have hT := isC8_geq hge3 hT
          have hW := isC7_geq hge3 hW
          have hM := isC5_geq hge3 hM
          have hGn : (x + 1 = 0 ∧ sG G1 mb t = G) ∨ sG G1 mb t = sG G mb t := Or.inr (hG1.elim (fun e => by rw [e.2]) (fun e => by rw [e, sG_sG]))
          have ht3 : TrC I3 t (Eb n c0 s w I wd) := ht1.keep (fun a k g1 g2 => by rw [hfr3 a k (by omega), hI2, up2_rd (by omega)])
          rw [hmk2] at hV3
          obtain ⟨G2, hG2⟩ : ∃ z, z = sG G1 mb t := ⟨_, rfl⟩
          rw [← hG2] at hGn hj hT hW hM ⊢
          refine r_iconst (pc := 44) (v := 0) dX4_findRests_44 (by decide) ?_
          refine r_istore (pc := 45) (L' := [some (.ref jo), some (.ref t), some (.ref wd), some (.ref mb), some (.int (buF (Eb n c0 s w I wd))), some (.int (nI x)), some (.int (nI 0))]) dX4_findRests_45 (by decide) rfl rfl ?_
          have lp47 : ∀ (n47 : Nat), ∀ (h : Nat) (I4 : Im), n - h = n47 → (h ≤ n) → (∀ y, y < h → I4 (jo + 2 + 1 + x) y = erS (Eb n c0 s w I wd) x y) → (∀ a k, a ≠ jo + 2 + 1 + x → I4 a k = I3 a k) → wp (d + 6) 0 0 YX4_findRests 47 [some (.ref jo), some (.ref t), some (.ref wd), some (.ref mb), some (.int (buF (Eb n c0 s w I wd))), some (.int (nI x)), some (.int (nI h))] [] (I4, G2) (qU (fun M => ∃ (I2 : Im) (G2 : Gm), M = (I2, G2) ∧ G2 = sG G mb t ∧ (G2.1 mb 0 = some t → TmOK (I2 (mb + 1)) ∧ MkV I2 mb (mkE n c0 s w (I2 (mb + 1)))) ∧ RsV I2 t R ∧ I2 t 12 = 1 ∧ (∀ k, 1 ≤ k → k < 6 → I2 wd k = I wd k) ∧ ∀ a k, ¬ (jo ≤ a ∧ a < jo + 131) → ¬ (mb ≤ a ∧ a < mb + 44) → a ≠ wd → a ≠ t + 17 → ¬ (a = t ∧ (k = 11 ∨ k = 12)) → I2 a k = I a k)) := by
            intro n47
            induction n47 using Nat.strongRecOn with
            | ind n47 ih47 =>
              intro h I4 hmu47 hh hr4 hfr4
              have ht4 : TrC I4 t (Eb n c0 s w I wd) := ht3.keep (fun a k g1 g2 => hfr4 a k (by omega))
              refine r_iload (pc := 47) dX4_findRests_47 rfl ?_
              refine r_aload_n (pc := 49) dX4_findRests_49 rfl ?_
              refine r_getIv (pc := 50) 8 0 20 dX4_findRests_50 (fl_RX4_20 rfl) (by decide) rfl (c8_o hT) (v := nI n) (ht4.1) ?_
              refine r_icmp_ge_n (pc := 53) (a := h) (b := n) (tgt := 79) dX4_findRests_53 (by decide) (by omega) (by omega) (fun c53 => ?_) (fun c53 => ?_)
              · skip
                have hwt4 : ∀ k, 1 ≤ k → k < 6 → I4 wd k = I wd k := fun k g1 g2 => by rw [hfr4 _ _ (by omega), hfr3 _ _ (by omega)]; exact hw2 k g1 g2
                have hold4 : G2.1 mb 0 = some t → TmOK (I4 (mb + 1)) ∧ MkV I4 mb (mkE n c0 s w (I4 (mb + 1))) := fun _ => by
                  have e : ∀ k, k < 6 → I4 (mb + 1) k = I2 wd k := fun k hk => by rw [hfr4 _ _ (by omega)]; exact htm3 k hk
                  refine ⟨by unfold TmOK at hτ2 ⊢; rw [e 1 (by omega), e 2 (by omega), e 3 (by omega), e 5 (by omega)]; exact hτ2, ?_⟩
                  rw [mkE_congr e, hmk2]
                  exact hV3.keepV (hE0 (I wd)) (fun a k g1 g2 => hfr4 a k (by omega))
                have hrow4 : ∀ y, y < x + 1 → okH (Eb n c0 s w I wd) y → ∀ h, h < n → I4 (jo + 2 + 1 + y) h = erS (Eb n c0 s w I wd) y h := fun y hy hok h2 hh2 => by
                  by_cases e : y = x
                  · subst e; exact hr4 h2 (by omega)
                  · rw [hfr4 _ _ (by omega), hfr3 _ _ (by omega), hI2, up2_rd (by omega)]; exact hrow y (by omega) hok h2 hh2
                have hfr44 : ∀ a k, ¬ (jo ≤ a ∧ a < jo + 131) → ¬ (mb ≤ a ∧ a < mb + 44) → a ≠ wd → I4 a k = I a k := fun a k g1 g2 g3 => by rw [hfr4 _ _ (by omega), hfr3 _ _ (by omega), hI2, up2_rd (by omega)]; exact hfr a k g1 g2 g3
                refine r_iinc (pc := 79) (v := nI (x + 1)) (L' := [some (.ref jo), some (.ref t), some (.ref wd), some (.ref mb), some (.int (buF (Eb n c0 s w I wd))), some (.int (nI (x + 1))), some (.int (nI h))]) dX4_findRests_79 rfl (nI_inc _) (by decide) rfl rfl ?_
                refine r_goto (pc := 82) (tgt := 10) dX4_findRests_82 (by decide) ?_
                refine wp_sub [some (.ref jo), some (.ref t), some (.ref wd), some (.ref mb), some (.int (buF (Eb n c0 s w I wd))), some (.int (nI (x + 1))), none] ⟨rfl, ⟨rfl, ⟨rfl, ⟨rfl, ⟨rfl, ⟨rfl, trivial⟩⟩⟩⟩⟩⟩ ?_
                exact ih10 _ (by omega) (x + 1) I4 G2 rfl (by omega) (by first | exact hGn | exact Or.inr (hG1.elim (fun e => absurd (e.1 ▸ okH_z _) c27) id)) (by first | exact hold4 | exact hold1) (by first | exact hwt4 | exact hwt) (by first | exact hrow4 | exact (fun y hy hok h hh => (Nat.lt_or_ge y x).elim (fun g => hrow y g hok h hh) (fun g => absurd hok ((show y = x by omega) ▸ c27)))) (by first | exact hfr44 | exact hfr)
              · skip
                refine r_aload_n (pc := 56) dX4_findRests_56 rfl ?_
                refine r_get1 (pc := 57) 4 1 17 dX4_findRests_57 (fl_RX4_17 rfl) (by decide) rfl (c4_o hj) (c4_p1 hj) ?_
                refine r_iload (pc := 60) dX4_findRests_60 rfl ?_
                refine r_aald1_n (pc := 62) (i := x) 6 dX4_findRests_62 (by decide) (c4_a1 hj) (by decide) (by omega) (c4_q1 hj (by omega)) ?_
                refine r_iload (pc := 63) dX4_findRests_63 rfl ?_
                refine r_aload_n (pc := 65) dX4_findRests_65 rfl ?_
                refine r_get1 (pc := 66) 5 11 44 dX4_findRests_66 (fl_RX4_44 rfl) (by decide) rfl (c5_o hM) (c5_p11 hM) ?_
                refine r_iload (pc := 69) dX4_findRests_69 rfl ?_
                refine r_iald_n (pc := 71) (i := h) dX4_findRests_71 (c5_a11 hM) (by decide) (by omega) (v := erS (Eb n c0 s w I wd) x h) ((hfr4 _ _ (by omega)).trans (hV3.2.2.2 _ (by omega) (show _ < n by omega))) ?_
                refine r_iast_n (pc := 72) (i := h) (v := erS (Eb n c0 s w I wd) x h) dX4_findRests_72 (c4_r1 hj (by omega)) (by decide) (by omega) ?_
                refine r_iinc (pc := 73) (v := nI (h + 1)) (L' := [some (.ref jo), some (.ref t), some (.ref wd), some (.ref mb), some (.int (buF (Eb n c0 s w I wd))), some (.int (nI x)), some (.int (nI (h + 1)))]) dX4_findRests_73 rfl (nI_inc _) (by decide) rfl rfl ?_
                refine r_goto (pc := 76) (tgt := 47) dX4_findRests_76 (by decide) ?_
                exact ih47 _ (by omega) (h + 1) (up2 I4 (jo + 2 + 1 + x) h (erS (Eb n c0 s w I wd) x h)) rfl (by omega) (by exact fun y hy => (Nat.lt_or_ge y h).elim (fun g => (up2_rd (by omega)).trans (hr4 y g)) (fun g => by obtain rfl : y = h := (by omega); exact up2_at)) (by exact fun a k g => (up2_rd (Or.inl g)).trans (hfr4 a k g))
          exact lp47 _ 0 I3 rfl (by omega) (by exact fun y hy => absurd hy (Nat.not_lt_zero _)) (by exact fun _ _ _ => rfl)
  exact lp10 _ 0 I G rfl (by omega) (by exact Or.inl ⟨rfl, rfl⟩) hold (by exact fun _ _ _ => rfl) (by exact fun y hy => absurd hy (Nat.not_lt_zero _)) (by exact fun _ _ _ _ _ => rfl)
