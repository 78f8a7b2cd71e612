/-! ===== the reference: rests ===== -/
noncomputable def rmR (E : Ec) (y : Nat) : Bool := @decide (rmP E y) (Classical.propDecidable _)
theorem rmR_iff (E : Ec) (y : Nat) : rmR E y = true ↔ rmP E y := by
  unfold rmR
  exact @decide_eq_true_iff _ (Classical.propDecidable _)
abbrev rmC (E : Ec) (y h : Nat) : Prop := if eS E h = none then y.testBit h = false else y.testBit h = true ∨ rbF E (nI y) h ≤ 0
theorem rst_eq {E : Ec} (hE : SrC E) (hW : WbC E) (hc : ∀ b, eC E b ≤ 60) (hn : 1 ≤ eN E) (i : Int32) : scA (rmR E) i (2 ^ eN E) (fun x => x) = scA (rsR E) i 128 (fun x => 2 * x) := by
  have h8 := hE.1
  have e : 2 ^ eN E = 2 * 2 ^ (eN E - 1) := by
    rw [← Nat.pow_succ', show (eN E - 1).succ = eN E by omega]
  have hK : 2 ^ (eN E - 1) ≤ 2 ^ 7 := Nat.pow_le_pow_right (by omega) (by omega)
  rw [e]
  refine half_sa (by omega) (fun x hx => ⟨?_, ?_⟩) (fun x h1 h2 z => ?_)
  · rw [Bool.eq_iff_iff, rmR_iff, rsR_iff]
    exact rm_same hE hW hc hn (by omega) (by omega)
  · cases hz : rmR E (2 * x + 1) with
    | false => rfl
    | true => exact absurd ((rmR_iff E _).mp hz) (rm_odd hE hn x)
  · exact rs_hi hE h2 (by omega) ((rsR_iff E x).mp z)

set_option maxHeartbeats 300000 in
set_option maxRecDepth 100000 in
theorem rests_m {d : Nat} {I : Im} {G : Gm} {s : Sta} {m : Nat} (hm : isC10 G m) (hM : Mi s I m) {t : Int32} {i : Int32} : Ct (d + 47) 0 0 YX10_rests [.ref m, .int t, .int i] (I, G) (qM G (fun zv I2 => PmQ s I m (aRst s t i) zv I2)) := by
  refine Ct.of (by decide) (by simp [Value.category]) (Nat.le_of_ble_eq_true rfl) ?_
  have hcn := hM.2.1
  have hcn10 := hM.2.2.1
  have hZ : FrZ I I m := FrZ.rf
  show wp _ _ _ _ 0 [some (.ref m), some (.int t), some (.int i), none, none, none, none] [] _ _
  rcases in_cases (n := sN s) (by have := hcn10; omega) t with ⟨k, hk, rfl, et⟩ | ⟨et, hnot⟩
  · skip
    obtain ⟨hok, hMd⟩ := hM.2.2.2.1 k hk
    have hk0 : MtC I m k (eK' s k) (dT (dK s k)) := mtc_of hok.1 hMd.1 _
    have hn8 : dN (dK s k) ≤ 8 := hok.1.1.2
    have hE : SrC (eK' s k) := src_of hok.1 _
    have hW : WbC (eK' s k) := wbc_of hok.1 _
    have hc30 : ∀ b, dC (dK s k) b ≤ 30 := hok.1.2.1
    refine r_aload_n (pc := 0) dX10_rests_0 rfl ?_
    refine r_iconst (pc := 1) (v := 0) dX10_rests_1 (by decide) ?_
    refine r_putI (pc := 2) (v := nI 0) 10 0 84 dX10_rests_2 (fl_RX10_84 rfl) (by decide) rfl rfl (c10_o hm) ?_
    obtain ⟨Ia, hIa⟩ : ∃ zz0 : Im, zz0 = up2 I m 0 (nI 0) := ⟨_, rfl⟩
    refine wp_M (M2 := (Ia, G)) (by subst hIa; rfl) ?_
    have hZ : FrZ I Ia m := by rw [hIa]; exact FrZ.rf.u (by omega)
    refine r_aload_n (pc := 5) dX10_rests_5 rfl ?_
    refine r_iload_n (pc := 6) dX10_rests_6 rfl ?_
    refine r_callV_P (pc := 7) (b := m) (As := [.int (nI k)]) 10 148 dX10_rests_7 lk_X10_isTrade (ml_RX10_148 rfl) im_X10_isTrade se_X10_isTrade (by decide) (c10_o hm) (Nat.le_of_ble_eq_true rfl) rfl (isTrade_y hm (hZ.c hcn) hcn10 hk) ?_
    refine r_if_ne_n (pc := 10) (a := 1) (tgt := 15) dX10_rests_10 (by decide) (by first | omega | (have := pow_le hn8; omega)) (fun c10 => ?_) (fun c10 => ?_)
    · skip
      have hpw := pow_le hn8
      refine r_iconst (pc := 15) (v := 0) dX10_rests_15 (by decide) ?_
      refine r_istore_n (pc := 16) (L' := [some (.ref m), some (.int (nI k)), some (.int i), some (.int (nI 0)), none, none, none]) dX10_rests_16 (by decide) rfl rfl ?_
      refine r_iconst (pc := 17) (v := 0) dX10_rests_17 (by decide) ?_
      refine r_istore (pc := 18) (L' := [some (.ref m), some (.int (nI k)), some (.int i), some (.int (nI 0)), some (.int (nI 0)), none, none]) dX10_rests_18 (by decide) rfl rfl ?_
      have lp20 : ∀ (n20 : Nat), ∀ (y : Nat) (f : Nat) (I2 : Im), 2 ^ dN (dK s k) - y = n20 → (y ≤ 2 ^ dN (dK s k)) → (f = ctB (rmR (eK' s k)) y) → (scF (rmR (eK' s k)) i y = none) → (FrZ I I2 m) → wp (d + 47) 0 0 YX10_rests 20 [some (.ref m), some (.int (nI k)), some (.int i), some (.int (nI f)), some (.int (nI y)), none, none] [] (I2, G) (qM G (fun zv I2 => PmQ s I m (aRst s (nI k) i) zv I2)) := by
        intro n20
        induction n20 using Nat.strongRecOn with
        | ind n20 ih20 =>
          intro y f I2 hmu20 hy hf hs hZ2
          have hcl := ctB_le (rmR (eK' s k)) y
          refine r_iload (pc := 20) dX10_rests_20 rfl ?_
          refine r_iconst (pc := 22) (v := 1) dX10_rests_22 (by decide) ?_
          refine r_aload_n (pc := 23) dX10_rests_23 rfl ?_
          refine r_get1 (pc := 24) 10 6 13 dX10_rests_24 (fl_RX10_13 rfl) (by decide) rfl (c10_o hm) (c10_p6 hm) ?_
          refine r_iload_n (pc := 27) dX10_rests_27 rfl ?_
          refine r_iald_n (pc := 28) (i := k) dX10_rests_28 (c10_a6 hm) (by decide) (by omega) (v := nI (dN (dK s k))) ((hZ2.mt hk0).1) ?_
          refine r_ishl (pc := 29) (x := 1) (z := nI (dN (dK s k))) dX10_rests_29 ?_
          have hpw := pow_le hn8
          · skip
            refine wp_S (st2 := [.int (nI (2 ^ dN (dK s k))), .int (nI y)]) (by rw [shl_all hn8]) ?_
            refine r_icmp_ge_n (pc := 30) (a := y) (b := 2 ^ dN (dK s k)) (tgt := 144) dX10_rests_30 (by decide) (by first | omega | (have := pow_le hn8; omega)) (by first | omega | (have := pow_le hn8; omega)) (fun c30 => ?_) (fun c30 => ?_)
            · skip
              refine r_iload_n (pc := 144) dX10_rests_144 rfl ?_
              refine r_iconst (pc := 145) (v := -1) dX10_rests_145 (by decide) ?_
              refine r_icmp_ne (pc := 146) (x := i) (z := (-1)) (tgt := 153) dX10_rests_146 (by decide) (fun c146 => ?_) (fun c146 => ?_)
              · skip
                refine r_iconst (pc := 153) (v := -1) dX10_rests_153 (by decide) ?_
                refine r_ret_i (pc := 154) dX10_rests_154 rfl ?_
                obtain ⟨rfl⟩ : y = 2 ^ dN (dK s k) := (by omega)
                exact ⟨_, I2, rfl, rfl, (by unfold aRst; rw [atN_s et, ← rst_eq hE hW (fun b => Nat.le_trans (hc30 b) (by omega)) hok.1.1.1]; show _ = scA (rmR (eK' s k)) i (2 ^ dN (dK s k)) (fun x => x); rw [← scA_miss hs, ← hf]; first | (rw [if_pos c146]; done) | (rw [if_neg c146]; done)), hM.z hZ2, fun x j z => hZ2 x j (by omega) (by omega)⟩
              · skip
                refine r_iload_n (pc := 149) dX10_rests_149 rfl ?_
                refine r_goto (pc := 150) (tgt := 154) dX10_rests_150 (by decide) ?_
                refine r_ret_i (pc := 154) dX10_rests_154 rfl ?_
                obtain ⟨rfl⟩ : y = 2 ^ dN (dK s k) := (by omega)
                exact ⟨_, I2, rfl, rfl, (by unfold aRst; rw [atN_s et, ← rst_eq hE hW (fun b => Nat.le_trans (hc30 b) (by omega)) hok.1.1.1]; show _ = scA (rmR (eK' s k)) i (2 ^ dN (dK s k)) (fun x => x); rw [← scA_miss hs, ← hf]; first | (rw [if_pos c146]; done) | (rw [if_neg c146]; done)), hM.z hZ2, fun x j z => hZ2 x j (by omega) (by omega)⟩
            · skip
              refine r_iconst (pc := 33) (v := 1) dX10_rests_33 (by decide) ?_
              refine r_istore (pc := 34) (L' := [some (.ref m), some (.int (nI k)), some (.int i), some (.int (nI f)), some (.int (nI y)), some (.int (nI 1)), none]) dX10_rests_34 (by decide) rfl rfl ?_
              refine r_iconst (pc := 36) (v := 0) dX10_rests_36 (by decide) ?_
              refine r_istore (pc := 37) (L' := [some (.ref m), some (.int (nI k)), some (.int i), some (.int (nI f)), some (.int (nI y)), some (.int (nI 1)), some (.int (nI 0))]) dX10_rests_37 (by decide) rfl rfl ?_
              have lp39 : ∀ (n39 : Nat), ∀ (h : Nat) (z : Int32) (I3 : Im), dN (dK s k) - h = n39 → (h ≤ dN (dK s k)) → ((z = 1 ∧ ∀ x, x < h → rmC (eK' s k) y x) ∨ (z = 0 ∧ ∃ x, x < h ∧ ¬ rmC (eK' s k) y x)) → (FrZ I I3 m) → wp (d + 47) 0 0 YX10_rests 39 [some (.ref m), some (.int (nI k)), some (.int i), some (.int (nI f)), some (.int (nI y)), some (.int z), some (.int (nI h))] [] (I3, G) (qM G (fun zv I2 => PmQ s I m (aRst s (nI k) i) zv I2)) := by
                intro n39
                induction n39 using Nat.strongRecOn with
                | ind n39 ih39 =>
                  intro h z I3 hmu39 hh hzz hZ3
                  refine r_iload (pc := 39) dX10_rests_39 rfl ?_
                  refine r_aload_n (pc := 41) dX10_rests_41 rfl ?_
                  refine r_get1 (pc := 42) 10 6 13 dX10_rests_42 (fl_RX10_13 rfl) (by decide) rfl (c10_o hm) (c10_p6 hm) ?_
                  refine r_iload_n (pc := 45) dX10_rests_45 rfl ?_
                  refine r_iald_n (pc := 46) (i := k) dX10_rests_46 (c10_a6 hm) (by decide) (by omega) (v := nI (dN (dK s k))) ((hZ3.mt hk0).1) ?_
                  refine r_icmp_ge_n (pc := 47) (a := h) (b := dN (dK s k)) (tgt := 119) dX10_rests_47 (by decide) (by first | omega | (have := pow_le hn8; omega)) (by first | omega | (have := pow_le hn8; omega)) (fun c47 => ?_) (fun c47 => ?_)
                  · skip
                    refine r_iload (pc := 119) dX10_rests_119 rfl ?_
                    refine r_if_ne (pc := 121) (x := z) (tgt := 127) dX10_rests_121 (by decide) (fun c121 => ?_) (fun c121 => ?_)
                    · skip
                      have hR : (rmR (eK' s k)) y = true := by
                        first
                          | exact absurd c52 c121
                          | exact (rmR_iff _ _).mpr (fun x hx => (hzz.elim (fun q => q.2) (fun q => absurd q.1 c121)) x (by have hx : x < dN (dK s k) := hx; omega))
                      refine r_iload_n (pc := 127) dX10_rests_127 rfl ?_
                      refine r_iload_n (pc := 128) dX10_rests_128 rfl ?_
                      refine r_icmp_ne (pc := 129) (x := nI f) (z := i) (tgt := 135) dX10_rests_129 (by decide) (fun c129 => ?_) (fun c129 => ?_)
                      · skip
                        refine r_iinc (pc := 135) (v := nI (f + 1)) (L' := [some (.ref m), some (.int (nI k)), some (.int i), some (.int (nI (f + 1))), some (.int (nI y)), some (.int z), some (.int (nI h))]) dX10_rests_135 rfl (nI_inc _) (by decide) rfl rfl ?_
                        refine r_iinc (pc := 138) (v := nI (y + 1)) (L' := [some (.ref m), some (.int (nI k)), some (.int i), some (.int (nI (f + 1))), some (.int (nI (y + 1))), some (.int z), some (.int (nI h))]) dX10_rests_138 rfl (nI_inc _) (by decide) rfl rfl ?_
                        refine r_goto (pc := 141) (tgt := 20) dX10_rests_141 (by decide) ?_
                        refine wp_sub [some (.ref m), some (.int (nI k)), some (.int i), some (.int (nI (f + 1))), some (.int (nI (y + 1))), none, none] ⟨rfl, ⟨rfl, ⟨rfl, ⟨rfl, ⟨rfl, trivial⟩⟩⟩⟩⟩ ?_
                        exact ih20 _ (by omega) (y + 1) (f + 1) I3 rfl (by omega) (by first | exact (hf.trans (ctB_miss hR).symm) | exact ((congrArg (· + 1) hf).trans (ctB_hit hR).symm)) (by first | exact scF_miss hs (fun z => hR z.1) | exact scF_miss hs (fun z => c129 (by rw [hf]; exact z.2))) hZ3
                      · skip
                        refine r_iload (pc := 132) dX10_rests_132 rfl ?_
                        refine r_ret_i (pc := 134) dX10_rests_134 rfl ?_
                        exact ⟨_, I3, rfl, rfl, (by unfold aRst; rw [atN_s et, ← rst_eq hE hW (fun b => Nat.le_trans (hc30 b) (by omega)) hok.1.1.1]; show nI y = scA (rmR (eK' s k)) i (2 ^ dN (dK s k)) (fun x => x); exact scA_hit (cd := fun x => x) (show y < 2 ^ dN (dK s k) by omega) hs hR (by rw [← hf]; exact c129)), hM.z hZ3, fun x j z => hZ3 x j (by omega) (by omega)⟩
                    · skip
                      have hR : ¬ (rmR (eK' s k)) y = true := fun q => (by obtain ⟨x, hx, hxn⟩ := (hzz.resolve_left (fun r => absurd (r.1.symm.trans c121) (by decide))).2; exact hxn ((rmR_iff _ _).mp q x (by show x < dN (dK s k); omega)))
                      refine r_goto (pc := 124) (tgt := 138) dX10_rests_124 (by decide) ?_
                      refine r_iinc (pc := 138) (v := nI (y + 1)) (L' := [some (.ref m), some (.int (nI k)), some (.int i), some (.int (nI f)), some (.int (nI (y + 1))), some (.int z), some (.int (nI h))]) dX10_rests_138 rfl (nI_inc _) (by decide) rfl rfl ?_
                      refine r_goto (pc := 141) (tgt := 20) dX10_rests_141 (by decide) ?_
                      refine wp_sub [some (.ref m), some (.int (nI k)), some (.int i), some (.int (nI f)), some (.int (nI (y + 1))), none, none] ⟨rfl, ⟨rfl, ⟨rfl, ⟨rfl, ⟨rfl, trivial⟩⟩⟩⟩⟩ ?_
                      exact ih20 _ (by omega) (y + 1) f I3 rfl (by omega) (by first | exact (hf.trans (ctB_miss hR).symm) | exact ((congrArg (· + 1) hf).trans (ctB_hit hR).symm)) (by first | exact scF_miss hs (fun z => hR z.1) | exact scF_miss hs (fun z => c129 (by rw [hf]; exact z.2))) hZ3
                  · skip
                    refine r_iload (pc := 50) dX10_rests_50 rfl ?_
                    refine r_if_eq (pc := 52) (x := z) (tgt := 119) dX10_rests_52 (by decide) (fun c52 => ?_) (fun c52 => ?_)
                    · skip
                      refine r_iload (pc := 119) dX10_rests_119 rfl ?_
                      refine r_if_ne (pc := 121) (x := z) (tgt := 127) dX10_rests_121 (by decide) (fun c121 => ?_) (fun c121 => ?_)
                      · skip
                        have hR : (rmR (eK' s k)) y = true := by
                          first
                            | exact absurd c52 c121
                            | exact (rmR_iff _ _).mpr (fun x hx => (hzz.elim (fun q => q.2) (fun q => absurd q.1 c121)) x (by have hx : x < dN (dK s k) := hx; omega))
                        refine r_iload_n (pc := 127) dX10_rests_127 rfl ?_
                        refine r_iload_n (pc := 128) dX10_rests_128 rfl ?_
                        refine r_icmp_ne (pc := 129) (x := nI f) (z := i) (tgt := 135) dX10_rests_129 (by decide) (fun c129 => ?_) (fun c129 => ?_)
                        · skip
                          refine r_iinc (pc := 135) (v := nI (f + 1)) (L' := [some (.ref m), some (.int (nI k)), some (.int i), some (.int (nI (f + 1))), some (.int (nI y)), some (.int z), some (.int (nI h))]) dX10_rests_135 rfl (nI_inc _) (by decide) rfl rfl ?_
                          refine r_iinc (pc := 138) (v := nI (y + 1)) (L' := [some (.ref m), some (.int (nI k)), some (.int i), some (.int (nI (f + 1))), some (.int (nI (y + 1))), some (.int z), some (.int (nI h))]) dX10_rests_138 rfl (nI_inc _) (by decide) rfl rfl ?_
                          refine r_goto (pc := 141) (tgt := 20) dX10_rests_141 (by decide) ?_
                          refine wp_sub [some (.ref m), some (.int (nI k)), some (.int i), some (.int (nI (f + 1))), some (.int (nI (y + 1))), none, none] ⟨rfl, ⟨rfl, ⟨rfl, ⟨rfl, ⟨rfl, trivial⟩⟩⟩⟩⟩ ?_
                          exact ih20 _ (by omega) (y + 1) (f + 1) I3 rfl (by omega) (by first | exact (hf.trans (ctB_miss hR).symm) | exact ((congrArg (· + 1) hf).trans (ctB_hit hR).symm)) (by first | exact scF_miss hs (fun z => hR z.1) | exact scF_miss hs (fun z => c129 (by rw [hf]; exact z.2))) hZ3
                        · skip
                          refine r_iload (pc := 132) dX10_rests_132 rfl ?_
                          refine r_ret_i (pc := 134) dX10_rests_134 rfl ?_
                          exact ⟨_, I3, rfl, rfl, (by unfold aRst; rw [atN_s et, ← rst_eq hE hW (fun b => Nat.le_trans (hc30 b) (by omega)) hok.1.1.1]; show nI y = scA (rmR (eK' s k)) i (2 ^ dN (dK s k)) (fun x => x); exact scA_hit (cd := fun x => x) (show y < 2 ^ dN (dK s k) by omega) hs hR (by rw [← hf]; exact c129)), hM.z hZ3, fun x j z => hZ3 x j (by omega) (by omega)⟩
                      · skip
                        have hR : ¬ (rmR (eK' s k)) y = true := fun q => (by obtain ⟨x, hx, hxn⟩ := (hzz.resolve_left (fun r => absurd (r.1.symm.trans c121) (by decide))).2; exact hxn ((rmR_iff _ _).mp q x (by show x < dN (dK s k); omega)))
                        refine r_goto (pc := 124) (tgt := 138) dX10_rests_124 (by decide) ?_
                        refine r_iinc (pc := 138) (v := nI (y + 1)) (L' := [some (.ref m), some (.int (nI k)), some (.int i), some (.int (nI f)), some (.int (nI (y + 1))), some (.int z), some (.int (nI h))]) dX10_rests_138 rfl (nI_inc _) (by decide) rfl rfl ?_
                        refine r_goto (pc := 141) (tgt := 20) dX10_rests_141 (by decide) ?_
                        refine wp_sub [some (.ref m), some (.int (nI k)), some (.int i), some (.int (nI f)), some (.int (nI (y + 1))), none, none] ⟨rfl, ⟨rfl, ⟨rfl, ⟨rfl, ⟨rfl, trivial⟩⟩⟩⟩⟩ ?_
                        exact ih20 _ (by omega) (y + 1) f I3 rfl (by omega) (by first | exact (hf.trans (ctB_miss hR).symm) | exact ((congrArg (· + 1) hf).trans (ctB_hit hR).symm)) (by first | exact scF_miss hs (fun z => hR z.1) | exact scF_miss hs (fun z => c129 (by rw [hf]; exact z.2))) hZ3
                    · skip
                      have hall := (hzz.resolve_right (fun q => c52 q.1)).2
                      refine r_aload_n (pc := 55) dX10_rests_55 rfl ?_
                      refine r_iload_n (pc := 56) dX10_rests_56 rfl ?_
                      refine r_iload (pc := 57) dX10_rests_57 rfl ?_
                      refine r_callV_P (pc := 59) (b := m) (As := [.int (nI k), .int (nI h)]) 10 274 dX10_rests_59 lk_X10_isMaker (ml_RX10_274 rfl) im_X10_isMaker se_X10_isMaker (by decide) (c10_o hm) (Nat.le_of_ble_eq_true rfl) rfl (isMaker_ct hm (hZ3.mt hk0) (by omega) (b := h) (by omega)) ?_
                      refine r_if_eq_b (pc := 62) (tgt := 83) dX10_rests_62 (by decide) (fun c62 => ?_) (fun c62 => ?_)
                      · skip
                        refine r_iload (pc := 83) dX10_rests_83 rfl ?_
                        refine r_iload (pc := 85) dX10_rests_85 rfl ?_
                        refine r_ishr (pc := 87) (x := nI y) (z := nI h) dX10_rests_87 ?_
                        refine r_iconst (pc := 88) (v := 1) dX10_rests_88 (by decide) ?_
                        refine r_iand (pc := 89) (x := (nI y) >>> ((nI h) &&& 31)) (z := 1) dX10_rests_89 ?_
                        refine r_iconst (pc := 90) (v := 1) dX10_rests_90 (by decide) ?_
                        refine r_icmp_eq (pc := 91) (x := ((nI y) >>> ((nI h) &&& 31)) &&& 1) (z := 1) (tgt := 106) dX10_rests_91 (by decide) (fun c91 => ?_) (fun c91 => ?_)
                        · skip
                          have hnx : (nI 1 = 1 ∧ ∀ x, x < h + 1 → rmC (eK' s k) y x) ∨ (nI 1 = 0 ∧ ∃ x, x < h + 1 ∧ ¬ rmC (eK' s k) y x) := Or.inl ⟨rfl, fun x hx => (Nat.lt_or_ge x h).elim (fun q => hall x q) (fun q => by have e : x = h := (by omega); rw [e]; exact (show rmC (eK' s k) y h = (y.testBit h = true ∨ rbF (eK' s k) (nI y) h ≤ 0) from if_neg c62).mpr (Or.inl ((jn_nI (X := y) (c := h) (by omega) (by omega)).mp (fun q => absurd (q.symm.trans c91) (show ¬ (0 : Int32) = 1 by decide)))))⟩
                          refine r_iconst (pc := 106) (v := 1) dX10_rests_106 (by decide) ?_
                          refine r_goto (pc := 107) (tgt := 111) dX10_rests_107 (by decide) ?_
                          refine r_istore (pc := 111) (L' := [some (.ref m), some (.int (nI k)), some (.int i), some (.int (nI f)), some (.int (nI y)), some (.int (nI 1)), some (.int (nI h))]) dX10_rests_111 (by decide) rfl rfl ?_
                          refine r_iinc (pc := 113) (v := nI (h + 1)) (L' := [some (.ref m), some (.int (nI k)), some (.int i), some (.int (nI f)), some (.int (nI y)), some (.int (nI 1)), some (.int (nI (h + 1)))]) dX10_rests_113 rfl (nI_inc _) (by decide) rfl rfl ?_
                          refine r_goto (pc := 116) (tgt := 39) dX10_rests_116 (by decide) ?_
                          exact ih39 _ (by omega) (h + 1) (nI 1) I3 rfl (by omega) hnx (by first | exact hZ4 | exact hZ3)
                        · skip
                          have hnj : ¬ jn (nI y) (nI h) := fun q => c91 ((and_one _).resolve_left q)
                          obtain ⟨a, hza⟩ : ∃ a, dS (dK s k) h = some a := (by cases hq : dS (dK s k) h with | none => exact absurd hq c62 | some a => exact ⟨a, rfl⟩)
                          refine r_aload_n (pc := 94) dX10_rests_94 rfl ?_
                          refine r_iload_n (pc := 95) dX10_rests_95 rfl ?_
                          refine r_iload (pc := 96) dX10_rests_96 rfl ?_
                          refine r_iload (pc := 98) dX10_rests_98 rfl ?_
                          refine r_callV_M (pc := 100) (b := m) (As := [.int (nI k), .int (nI y), .int (nI h)]) 10 318 dX10_rests_100 lk_X10_ratherBy (ml_RX10_318 rfl) im_X10_ratherBy se_X10_ratherBy (by decide) (c10_o hm) (Nat.le_of_ble_eq_true rfl) rfl (ratherBy_ct (d := d) hm (hZ3.mt hk0) (hZ3.c hcn) hcn10 hk hc30 (by omega) hW (hZ3.tm hMd.2.1) (h := h) (by show h < dN (dK s k); omega) hza hnj) (fun v100 I4 h4 => ?_)
                          obtain ⟨rfl, hF4⟩ := h4
                          have hZ4 : FrZ I I4 m := hZ3.tr hF4.z
                          refine r_if_gt (pc := 103) (x := rbF (eK' s k) (nI y) h) (tgt := 110) dX10_rests_103 (by decide) (fun c103 => ?_) (fun c103 => ?_)
                          · skip
                            have hnx : (nI 0 = 1 ∧ ∀ x, x < h + 1 → rmC (eK' s k) y x) ∨ (nI 0 = 0 ∧ ∃ x, x < h + 1 ∧ ¬ rmC (eK' s k) y x) := Or.inr ⟨nI_0, h, by omega, fun q => by rw [show rmC (eK' s k) y h = (y.testBit h = true ∨ rbF (eK' s k) (nI y) h ≤ 0) from if_neg c62] at q; exact q.elim (fun r => hnj ((jn_nI (X := y) (c := h) (by omega) (by omega)).mpr r)) (fun r => absurd c103 (Int32.not_lt.mpr r))⟩
                            refine r_iconst (pc := 110) (v := 0) dX10_rests_110 (by decide) ?_
                            refine r_istore (pc := 111) (L' := [some (.ref m), some (.int (nI k)), some (.int i), some (.int (nI f)), some (.int (nI y)), some (.int (nI 0)), some (.int (nI h))]) dX10_rests_111 (by decide) rfl rfl ?_
                            refine r_iinc (pc := 113) (v := nI (h + 1)) (L' := [some (.ref m), some (.int (nI k)), some (.int i), some (.int (nI f)), some (.int (nI y)), some (.int (nI 0)), some (.int (nI (h + 1)))]) dX10_rests_113 rfl (nI_inc _) (by decide) rfl rfl ?_
                            refine r_goto (pc := 116) (tgt := 39) dX10_rests_116 (by decide) ?_
                            exact ih39 _ (by omega) (h + 1) (nI 0) I4 rfl (by omega) hnx (by first | exact hZ4 | exact hZ3)
                          · skip
                            have hnx : (nI 1 = 1 ∧ ∀ x, x < h + 1 → rmC (eK' s k) y x) ∨ (nI 1 = 0 ∧ ∃ x, x < h + 1 ∧ ¬ rmC (eK' s k) y x) := Or.inl ⟨rfl, fun x hx => (Nat.lt_or_ge x h).elim (fun q => hall x q) (fun q => by have e : x = h := (by omega); rw [e]; exact (show rmC (eK' s k) y h = (y.testBit h = true ∨ rbF (eK' s k) (nI y) h ≤ 0) from if_neg c62).mpr (Or.inr (Int32.not_lt.mp c103)))⟩
                            refine r_iconst (pc := 106) (v := 1) dX10_rests_106 (by decide) ?_
                            refine r_goto (pc := 107) (tgt := 111) dX10_rests_107 (by decide) ?_
                            refine r_istore (pc := 111) (L' := [some (.ref m), some (.int (nI k)), some (.int i), some (.int (nI f)), some (.int (nI y)), some (.int (nI 1)), some (.int (nI h))]) dX10_rests_111 (by decide) rfl rfl ?_
                            refine r_iinc (pc := 113) (v := nI (h + 1)) (L' := [some (.ref m), some (.int (nI k)), some (.int i), some (.int (nI f)), some (.int (nI y)), some (.int (nI 1)), some (.int (nI (h + 1)))]) dX10_rests_113 rfl (nI_inc _) (by decide) rfl rfl ?_
                            refine r_goto (pc := 116) (tgt := 39) dX10_rests_116 (by decide) ?_
                            exact ih39 _ (by omega) (h + 1) (nI 1) I4 rfl (by omega) hnx (by first | exact hZ4 | exact hZ3)
                      · skip
                        refine r_iload (pc := 65) dX10_rests_65 rfl ?_
                        refine r_iload (pc := 67) dX10_rests_67 rfl ?_
                        refine r_ishr (pc := 69) (x := nI y) (z := nI h) dX10_rests_69 ?_
                        refine r_iconst (pc := 70) (v := 1) dX10_rests_70 (by decide) ?_
                        refine r_iand (pc := 71) (x := (nI y) >>> ((nI h) &&& 31)) (z := 1) dX10_rests_71 ?_
                        refine r_if_ne (pc := 72) (x := ((nI y) >>> ((nI h) &&& 31)) &&& 1) (tgt := 79) dX10_rests_72 (by decide) (fun c72 => ?_) (fun c72 => ?_)
                        · skip
                          have hnx : (nI 0 = 1 ∧ ∀ x, x < h + 1 → rmC (eK' s k) y x) ∨ (nI 0 = 0 ∧ ∃ x, x < h + 1 ∧ ¬ rmC (eK' s k) y x) := Or.inr ⟨nI_0, h, by omega, fun q => by rw [show rmC (eK' s k) y h = (y.testBit h = false) from if_pos c62] at q; rw [(jn_nI (X := y) (c := h) (by omega) (by omega)).mp c72] at q; cases q⟩
                          refine r_iconst (pc := 79) (v := 0) dX10_rests_79 (by decide) ?_
                          refine r_goto (pc := 80) (tgt := 111) dX10_rests_80 (by decide) ?_
                          refine r_istore (pc := 111) (L' := [some (.ref m), some (.int (nI k)), some (.int i), some (.int (nI f)), some (.int (nI y)), some (.int (nI 0)), some (.int (nI h))]) dX10_rests_111 (by decide) rfl rfl ?_
                          refine r_iinc (pc := 113) (v := nI (h + 1)) (L' := [some (.ref m), some (.int (nI k)), some (.int i), some (.int (nI f)), some (.int (nI y)), some (.int (nI 0)), some (.int (nI (h + 1)))]) dX10_rests_113 rfl (nI_inc _) (by decide) rfl rfl ?_
                          refine r_goto (pc := 116) (tgt := 39) dX10_rests_116 (by decide) ?_
                          exact ih39 _ (by omega) (h + 1) (nI 0) I3 rfl (by omega) hnx (by first | exact hZ4 | exact hZ3)
                        · skip
                          have hnx : (nI 1 = 1 ∧ ∀ x, x < h + 1 → rmC (eK' s k) y x) ∨ (nI 1 = 0 ∧ ∃ x, x < h + 1 ∧ ¬ rmC (eK' s k) y x) := Or.inl ⟨rfl, fun x hx => (Nat.lt_or_ge x h).elim (fun q => hall x q) (fun q => by have e : x = h := (by omega); rw [e]; exact (show rmC (eK' s k) y h = (y.testBit h = false) from if_pos c62).mpr (by cases hq : y.testBit h with | false => rfl | true => exact absurd c72 ((jn_nI (X := y) (c := h) (by omega) (by omega)).mpr hq)))⟩
                          refine r_iconst (pc := 75) (v := 1) dX10_rests_75 (by decide) ?_
                          refine r_goto (pc := 76) (tgt := 111) dX10_rests_76 (by decide) ?_
                          refine r_istore (pc := 111) (L' := [some (.ref m), some (.int (nI k)), some (.int i), some (.int (nI f)), some (.int (nI y)), some (.int (nI 1)), some (.int (nI h))]) dX10_rests_111 (by decide) rfl rfl ?_
                          refine r_iinc (pc := 113) (v := nI (h + 1)) (L' := [some (.ref m), some (.int (nI k)), some (.int i), some (.int (nI f)), some (.int (nI y)), some (.int (nI 1)), some (.int (nI (h + 1)))]) dX10_rests_113 rfl (nI_inc _) (by decide) rfl rfl ?_
                          refine r_goto (pc := 116) (tgt := 39) dX10_rests_116 (by decide) ?_
                          exact ih39 _ (by omega) (h + 1) (nI 1) I3 rfl (by omega) hnx (by first | exact hZ4 | exact hZ3)
              exact lp39 _ 0 (nI 1) I2 rfl (by omega) (by exact Or.inl ⟨rfl, fun x hx => absurd hx (Nat.not_lt_zero _)⟩) hZ2
      exact lp20 _ 0 0 Ia rfl (by omega) (by rfl) (by rfl) hZ
    · exfalso; omega
  · skip
    refine r_aload_n (pc := 0) dX10_rests_0 rfl ?_
    refine r_iconst (pc := 1) (v := 0) dX10_rests_1 (by decide) ?_
    refine r_putI (pc := 2) (v := nI 0) 10 0 84 dX10_rests_2 (fl_RX10_84 rfl) (by decide) rfl rfl (c10_o hm) ?_
    obtain ⟨Ia, hIa⟩ : ∃ zz0 : Im, zz0 = up2 I m 0 (nI 0) := ⟨_, rfl⟩
    refine wp_M (M2 := (Ia, G)) (by subst hIa; rfl) ?_
    have hZ : FrZ I Ia m := by rw [hIa]; exact FrZ.rf.u (by omega)
    refine r_aload_n (pc := 5) dX10_rests_5 rfl ?_
    refine r_iload_n (pc := 6) dX10_rests_6 rfl ?_
    refine r_callV_P (pc := 7) (b := m) (As := [.int t]) 10 148 dX10_rests_7 lk_X10_isTrade (ml_RX10_148 rfl) im_X10_isTrade se_X10_isTrade (by decide) (c10_o hm) (Nat.le_of_ble_eq_true rfl) rfl (isTrade_n hm (hZ.c hcn) hnot) ?_
    refine r_if_ne_n (pc := 10) (a := 0) (tgt := 15) dX10_rests_10 (by decide) (by first | omega | (have := pow_le hn8; omega)) (fun c10 => ?_) (fun c10 => ?_)
    · exfalso; omega
    · skip
      refine r_iconst (pc := 13) (v := -1) dX10_rests_13 (by decide) ?_
      refine r_ret_i (pc := 14) dX10_rests_14 rfl ?_
      exact ⟨_, Ia, rfl, rfl, (by unfold aRst; rw [atN_n et] <;> rfl), hM.z hZ, fun x j z => hZ x j (by omega) (by omega)⟩
