/-! ===== the reference: who would do otherwise, chains, parts, rests ===== -/
theorem ToM.k {I I2 : Im} {m k : Nat} {pay ask : Nat → Nat} (h : ToM I m k pay ask) (hf : FrW I I2 m) : ToM I2 m k pay ask := ⟨fun x hx => (hf _ _ (by omega) (by omega)).trans (h.1 x hx), fun x hx => (hf _ _ (by omega) (by omega)).trans (h.2.1 x hx), h.2.2⟩
theorem we_no {E : Ec} {q : Nat → Nat} {pay ask : Nat → Nat} {h : Nat} (hc : ¬ cnt (eS E) h (eN E) = 0) (hn : ∀ b, b < eN E → eS E b = some h → ∀ x, x < 42 → ¬ pwF E q pay ask h b x = true) : ¬ weF E q pay ask h = true := by
  unfold weF
  rw [if_neg hc, anB_iff]
  rintro ⟨b, hb, hz⟩
  rw [Bool.and_eq_true] at hz
  obtain ⟨x, hx, hy⟩ := (anB_iff 42).mp hz.2
  exact hn b hb (of_decide_eq_true hz.1) x hx hy
theorem we_yes {E : Ec} {q : Nat → Nat} {pay ask : Nat → Nat} {h b x : Nat} (hc : ¬ cnt (eS E) h (eN E) = 0) (hb : b < eN E) (hs : eS E b = some h) (hx : x < 42) (hy : pwF E q pay ask h b x = true) : weF E q pay ask h = true := by
  unfold weF
  rw [if_neg hc, anB_iff]
  exact ⟨b, hb, by rw [Bool.and_eq_true]; exact ⟨decide_eq_true hs, (anB_iff 42).mpr ⟨x, hx, hy⟩⟩⟩
theorem ws_no {E : Ec} {q : Nat → Nat} {pay ask : Nat → Nat} {h : Nat} (hc : cnt (eS E) h (eN E) = 0) (hn : ∀ p, p < 42 → ¬ (nI (ask h) - nI (pay h + eC E h)) * ttF E ask h < (nI p - nI (pay h + eC E h)) * nI (eW E h p)) : ¬ weF E q pay ask h = true := by
  unfold weF
  rw [if_pos hc, anB_iff]
  rintro ⟨p, hp, hz⟩
  exact hn p hp (of_decide_eq_true hz)
theorem ws_yes {E : Ec} {q : Nat → Nat} {pay ask : Nat → Nat} {h p : Nat} (hc : cnt (eS E) h (eN E) = 0) (hp : p < 42) (hy : (nI (ask h) - nI (pay h + eC E h)) * ttF E ask h < (nI p - nI (pay h + eC E h)) * nI (eW E h p)) : weF E q pay ask h = true := by
  unfold weF
  rw [if_pos hc, anB_iff]
  exact ⟨p, hp, decide_eq_true hy⟩

set_option maxRecDepth 100000 in
theorem wouldElse_ct {d : Nat} {I : Im} {G : Gm} {m k cn cb : Nat} {E : Ec} {T : Lt} (hm : isC10 G m) (hS : MS I m k E T cn) (hcb : ∀ b, eC E b ≤ cb) (hcb6 : cb ≤ 60) (hB : BdM E) {pay ask : Nat → Nat} (ht : ToM I m k pay ask) {h : Nat} (hh : h < eN E) : Ct (d + 41) 0 0 YX10_wouldElse [.ref m, .int (nI k), .int (nI h)] (I, G) (TkQ I G m E (bz (weF E idq pay ask h = true))) := by
  refine Ct.of (by decide) (by simp [Value.category]) (Nat.le_of_ble_eq_true rfl) ?_
  have hn8 := hS.1.2.1
  have hcn10 := hS.2.2.2.1
  have hkc := hS.2.2.2.2.1
  have hE : SrC E := ⟨hS.1.2.1, hS.1.2.2.2.1⟩
  have hTA : ∀ b, b < eN E → TKb G m k E T cn cb (d + 40) b ∧ EKb G m k E T cn cb (d + 40) b := fun b hb => tk_all hm hcb hcb6 hB hE.2 hE.1 (8 - b) b rfl hb _ (by omega)
  show wp _ _ _ _ 0 [some (.ref m), some (.int (nI k)), some (.int (nI h)), none, none, none, none] [] _ _
  refine r_aload_n (pc := 0) dX10_wouldElse_0 rfl ?_
  refine r_iload_n (pc := 1) dX10_wouldElse_1 rfl ?_
  refine r_iload_n (pc := 2) dX10_wouldElse_2 rfl ?_
  refine r_callV_P (pc := 3) (b := m) (As := [.int (nI k), .int (nI h)]) 10 245 dX10_wouldElse_3 lk_X10_toldUnit (ml_RX10_245 rfl) im_X10_toldUnit se_X10_toldUnit (by decide) (c10_o hm) (Nat.le_of_ble_eq_true rfl) rfl (toldUnit_ct hm hS.1 hS.2.2.1 hS.2.2.2.1 hS.2.2.2.2.1 ht hh) ?_
  refine r_istore_n (pc := 6) (L' := [some (.ref m), some (.int (nI k)), some (.int (nI h)), some (.int (nI (pay h + eC E h))), none, none, none]) dX10_wouldElse_6 (by decide) rfl rfl ?_
  refine r_aload_n (pc := 7) dX10_wouldElse_7 rfl ?_
  refine r_iload_n (pc := 8) dX10_wouldElse_8 rfl ?_
  refine r_iload_n (pc := 9) dX10_wouldElse_9 rfl ?_
  refine r_callV_P (pc := 10) (b := m) (As := [.int (nI k), .int (nI h)]) 10 165 dX10_wouldElse_10 lk_X10_isShop (ml_RX10_165 rfl) im_X10_isShop se_X10_isShop (by decide) (c10_o hm) (Nat.le_of_ble_eq_true rfl) rfl (isShopM_ct hm hS.1 (by omega) hS.2.2.1 hcn10 hkc (by omega)) ?_
  refine r_if_eq_b (pc := 13) (tgt := 76) dX10_wouldElse_13 (by decide) (fun c13 => ?_) (fun c13 => ?_)
  · skip
    refine r_iconst (pc := 76) (v := 0) dX10_wouldElse_76 (by decide) ?_
    refine r_istore (pc := 77) (L' := [some (.ref m), some (.int (nI k)), some (.int (nI h)), some (.int (nI (pay h + eC E h))), some (.int (nI 0)), none, none]) dX10_wouldElse_77 (by decide) rfl rfl ?_
    have lp79 : ∀ (n79 : Nat), ∀ (b : Nat) (I3 : Im), eN E - b = n79 → (b ≤ eN E) → (∀ y, y < b → eS E y = some h → ∀ x, x < 42 → ¬ pwF E idq pay ask h y x = true) → (KV I3 m E) → (FrK I I3 m) → wp (d + 41) 0 0 YX10_wouldElse 79 [some (.ref m), some (.int (nI k)), some (.int (nI h)), some (.int (nI (pay h + eC E h))), some (.int (nI b)), none, none] [] (I3, G) (TkQ I G m E (bz (weF E idq pay ask h = true))) := by
      intro n79
      induction n79 using Nat.strongRecOn with
      | ind n79 ih79 =>
        intro b I3 hmu79 hb hn hK3 hF3
        have hS3 := hS.keep hF3 hK3
        have ht3 := ht.k hF3.w
        refine r_iload (pc := 79) dX10_wouldElse_79 rfl ?_
        refine r_aload_n (pc := 81) dX10_wouldElse_81 rfl ?_
        refine r_get1 (pc := 82) 10 6 13 dX10_wouldElse_82 (fl_RX10_13 rfl) (by decide) rfl (c10_o hm) (c10_p6 hm) ?_
        refine r_iload_n (pc := 85) dX10_wouldElse_85 rfl ?_
        refine r_iald_n (pc := 86) (i := k) dX10_wouldElse_86 (c10_a6 hm) (by decide) (by omega) (v := nI (eN E)) (hS3.1.1) ?_
        refine r_icmp_ge_n (pc := 87) (a := b) (b := eN E) (tgt := 195) dX10_wouldElse_87 (by decide) (by first | omega | (have := ht.2.2.1 b; have := hcb b; omega)) (by first | omega | (have := ht.2.2.1 b; have := hcb b; omega)) (fun c87 => ?_) (fun c87 => ?_)
        · skip
          refine r_iconst (pc := 195) (v := 0) dX10_wouldElse_195 (by decide) ?_
          refine r_ret_z (pc := 196) dX10_wouldElse_196 rfl (by decide) ?_
          exact ⟨_, I3, rfl, rfl, bz_f (we_no c13 (fun y hy => hn y (by omega))), hK3, hF3⟩
        · skip
          refine r_aload_n (pc := 90) dX10_wouldElse_90 rfl ?_
          refine r_iload_n (pc := 91) dX10_wouldElse_91 rfl ?_
          refine r_iload (pc := 92) dX10_wouldElse_92 rfl ?_
          refine r_iload_n (pc := 94) dX10_wouldElse_94 rfl ?_
          refine r_callV_P (pc := 95) (b := m) (As := [.int (nI k), .int (nI b), .int (nI h)]) 10 151 dX10_wouldElse_95 lk_X10_buys (ml_RX10_151 rfl) im_X10_buys se_X10_buys (by decide) (c10_o hm) (Nat.le_of_ble_eq_true rfl) rfl (buys_ct hm hS3.1 (by omega) (by omega) (by omega)) ?_
          refine r_if_ne_b (pc := 98) (tgt := 104) dX10_wouldElse_98 (by decide) (fun c98 => ?_) (fun c98 => ?_)
          · skip
            refine r_aload_n (pc := 104) dX10_wouldElse_104 rfl ?_
            refine r_get1 (pc := 105) 10 16 44 dX10_wouldElse_105 (fl_RX10_44 rfl) (by decide) rfl (c10_o hm) (c10_p16 hm) ?_
            refine r_bipush (pc := 108) (v := 8) dX10_wouldElse_108 (by decide) ?_
            refine r_iload_n (pc := 110) dX10_wouldElse_110 rfl ?_
            refine r_imul_n (pc := 111) (a := 8) (b := k) dX10_wouldElse_111 ?_
            refine r_iload (pc := 112) dX10_wouldElse_112 rfl ?_
            refine r_iadd_n (pc := 114) (a := 8 * k) (b := b) dX10_wouldElse_114 ?_
            refine r_iald_n (pc := 115) (i := (8 * k) + b) dX10_wouldElse_115 (c10_a16 hm) (by decide) (by omega) (v := nI (pay b)) (ht3.1 _ (by omega)) ?_
            refine r_iload_n (pc := 116) dX10_wouldElse_116 rfl ?_
            refine r_isub (pc := 117) (x := nI (pay b)) (z := nI (pay h + eC E h)) dX10_wouldElse_117 ?_
            refine r_aload_n (pc := 118) dX10_wouldElse_118 rfl ?_
            refine r_iload_n (pc := 119) dX10_wouldElse_119 rfl ?_
            refine r_iload (pc := 120) dX10_wouldElse_120 rfl ?_
            refine r_callV_P (pc := 122) (b := m) (As := [.int (nI k), .int (nI b)]) 10 242 dX10_wouldElse_122 lk_X10_toldTake (ml_RX10_242 rfl) im_X10_toldTake se_X10_toldTake (by decide) (c10_o hm) (Nat.le_of_ble_eq_true rfl) rfl (toldTake_ct (d := d + 28) hm hS3.1 hS3.2.2.1 hS3.2.2.2.1 hS3.2.2.2.2.1 ht3 (h := b) (by omega)) ?_
            refine r_imul (pc := 125) (x := (nI (pay b)) - (nI (pay h + eC E h))) (z := ttF E ask b) dX10_wouldElse_125 ?_
            refine r_istore (pc := 126) (L' := [some (.ref m), some (.int (nI k)), some (.int (nI h)), some (.int (nI (pay h + eC E h))), some (.int (nI b)), some (.int (((nI (pay b)) - (nI (pay h + eC E h))) * (ttF E ask b))), none]) dX10_wouldElse_126 (by decide) rfl rfl ?_
            refine r_iconst (pc := 128) (v := 0) dX10_wouldElse_128 (by decide) ?_
            refine r_istore (pc := 129) (L' := [some (.ref m), some (.int (nI k)), some (.int (nI h)), some (.int (nI (pay h + eC E h))), some (.int (nI b)), some (.int (((nI (pay b)) - (nI (pay h + eC E h))) * (ttF E ask b))), some (.int (nI 0))]) dX10_wouldElse_129 (by decide) rfl rfl ?_
            have lp131 : ∀ (n131 : Nat), ∀ (x : Nat) (I4 : Im), 42 - x = n131 → (x ≤ 42) → (∀ y, y < x → ¬ pwF E idq pay ask h b y = true) → (KV I4 m E) → (FrK I I4 m) → wp (d + 41) 0 0 YX10_wouldElse 131 [some (.ref m), some (.int (nI k)), some (.int (nI h)), some (.int (nI (pay h + eC E h))), some (.int (nI b)), some (.int (((nI (pay b)) - (nI (pay h + eC E h))) * (ttF E ask b))), some (.int (nI x))] [] (I4, G) (TkQ I G m E (bz (weF E idq pay ask h = true))) := by
              intro n131
              induction n131 using Nat.strongRecOn with
              | ind n131 ih131 =>
                intro x I4 hmu131 hx hnx hK4 hF4
                have hS4 := hS.keep hF4 hK4
                have ht4 := ht.k hF4.w
                refine r_iload (pc := 131) dX10_wouldElse_131 rfl ?_
                refine r_bipush (pc := 133) (v := 41) dX10_wouldElse_133 (by decide) ?_
                refine r_icmp_gt_n (pc := 135) (a := x) (b := 41) (tgt := 189) dX10_wouldElse_135 (by decide) (by first | omega | (have := ht.2.2.1 b; have := hcb b; omega)) (by first | omega | (have := ht.2.2.1 b; have := hcb b; omega)) (fun c135 => ?_) (fun c135 => ?_)
                · skip
                  have hn4 : ∀ n, n ≤ x → ∀ y, y < n → ¬ pwF E idq pay ask h b y = true := fun n hn y hy => hnx y (by omega)
                  refine r_iinc (pc := 189) (v := nI (b + 1)) (L' := [some (.ref m), some (.int (nI k)), some (.int (nI h)), some (.int (nI (pay h + eC E h))), some (.int (nI (b + 1))), some (.int (((nI (pay b)) - (nI (pay h + eC E h))) * (ttF E ask b))), some (.int (nI x))]) dX10_wouldElse_189 rfl (nI_inc _) (by decide) rfl rfl ?_
                  refine r_goto (pc := 192) (tgt := 79) dX10_wouldElse_192 (by decide) ?_
                  refine wp_sub [some (.ref m), some (.int (nI k)), some (.int (nI h)), some (.int (nI (pay h + eC E h))), some (.int (nI (b + 1))), none, none] ⟨rfl, ⟨rfl, ⟨rfl, ⟨rfl, ⟨rfl, trivial⟩⟩⟩⟩⟩ ?_
                  exact ih79 _ (by omega) (b + 1) I4 rfl (by omega) (by exact fun y hy => (Nat.lt_or_ge y b).elim (hn y) (fun z => by obtain rfl : y = b := (by omega); first | exact fun q => absurd q c98 | exact fun _ => hn4 42 (by omega))) (by first | exact hK4 | exact hK3) (by first | exact hF4 | exact hF3)
                · skip
                  refine r_iload (pc := 138) dX10_wouldElse_138 rfl ?_
                  refine r_aload_n (pc := 140) dX10_wouldElse_140 rfl ?_
                  refine r_get1 (pc := 141) 10 16 44 dX10_wouldElse_141 (fl_RX10_44 rfl) (by decide) rfl (c10_o hm) (c10_p16 hm) ?_
                  refine r_bipush (pc := 144) (v := 8) dX10_wouldElse_144 (by decide) ?_
                  refine r_iload_n (pc := 146) dX10_wouldElse_146 rfl ?_
                  refine r_imul_n (pc := 147) (a := 8) (b := k) dX10_wouldElse_147 ?_
                  refine r_iload (pc := 148) dX10_wouldElse_148 rfl ?_
                  refine r_iadd_n (pc := 150) (a := 8 * k) (b := b) dX10_wouldElse_150 ?_
                  refine r_iald_n (pc := 151) (i := (8 * k) + b) dX10_wouldElse_151 (c10_a16 hm) (by decide) (by omega) (v := nI (pay b)) (ht4.1 _ (by omega)) ?_
                  refine r_icmp_eq_n (pc := 152) (a := x) (b := pay b) (tgt := 183) dX10_wouldElse_152 (by decide) (by first | omega | (have := ht.2.2.1 b; omega)) (by first | omega | (have := ht.2.2.1 b; omega)) (fun c152 => ?_) (fun c152 => ?_)
                  · skip
                    have hnn : ¬ pwF E idq pay ask h b x = true := fun z => (of_decide_eq_true z).1 c152
                    refine r_iinc (pc := 183) (v := nI (x + 1)) (L' := [some (.ref m), some (.int (nI k)), some (.int (nI h)), some (.int (nI (pay h + eC E h))), some (.int (nI b)), some (.int (((nI (pay b)) - (nI (pay h + eC E h))) * (ttF E ask b))), some (.int (nI (x + 1)))]) dX10_wouldElse_183 rfl (nI_inc _) (by decide) rfl rfl ?_
                    refine r_goto (pc := 186) (tgt := 131) dX10_wouldElse_186 (by decide) ?_
                    exact ih131 _ (by omega) (x + 1) I4 rfl (by omega) (by exact fun y hy => (Nat.lt_or_ge y x).elim (hnx y) (fun z => by obtain rfl : y = x := (by omega); exact hnn)) (by first | exact hK5 | exact hK4) (by first | exact hF4.tr hF5 | exact hF4)
                  · skip
                    refine r_iload (pc := 155) dX10_wouldElse_155 rfl ?_
                    refine r_iload_n (pc := 157) dX10_wouldElse_157 rfl ?_
                    refine r_isub (pc := 158) (x := nI x) (z := nI (pay h + eC E h)) dX10_wouldElse_158 ?_
                    refine r_aload_n (pc := 159) dX10_wouldElse_159 rfl ?_
                    refine r_iload (pc := 160) dX10_wouldElse_160 rfl ?_
                    refine r_iload (pc := 162) dX10_wouldElse_162 rfl ?_
                    refine r_aload_n (pc := 164) dX10_wouldElse_164 rfl ?_
                    refine r_iload_n (pc := 165) dX10_wouldElse_165 rfl ?_
                    refine r_iload (pc := 166) dX10_wouldElse_166 rfl ?_
                    refine r_callV_P (pc := 168) (b := m) (As := [.int (nI k), .int (nI b)]) 10 162 dX10_wouldElse_168 lk_X10_costOf (ml_RX10_162 rfl) im_X10_costOf se_X10_costOf (by decide) (c10_o hm) (Nat.le_of_ble_eq_true rfl) rfl (costOf_ct hm hS4.1 (by omega) (by omega)) ?_
                    refine r_iadd_n (pc := 171) (a := x) (b := eC E b) dX10_wouldElse_171 ?_
                    refine r_callV_M (pc := 172) (b := m) (As := [.int (nI b), .int (nI (x + (eC E b)))]) 10 204 dX10_wouldElse_172 lk_X10_takeBy (ml_RX10_204 rfl) im_X10_takeBy se_X10_takeBy (by decide) (c10_o hm) (Nat.le_of_ble_eq_true rfl) rfl ((hTA b (by omega)).1 I4 _ hS4 (by have := hcb b; have := hE.2 b h c98; have := Nat.mul_le_mul hcb6 (show 7 - b ≤ 6 by omega); omega)) (fun v172 I5 h5 => ?_)
                    obtain ⟨rfl, hK5, hF5⟩ := h5
                    refine r_imul (pc := 175) (x := (nI x) - (nI (pay h + eC E h))) (z := (mk E idq b (x + eC E b)).1) dX10_wouldElse_175 ?_
                    refine r_iload (pc := 176) dX10_wouldElse_176 rfl ?_
                    refine r_icmp_le (pc := 178) (x := ((nI x) - (nI (pay h + eC E h))) * ((mk E idq b (x + eC E b)).1)) (z := ((nI (pay b)) - (nI (pay h + eC E h))) * (ttF E ask b)) (tgt := 183) dX10_wouldElse_178 (by decide) (fun c178 => ?_) (fun c178 => ?_)
                    · skip
                      have hnn : ¬ pwF E idq pay ask h b x = true := fun z => Int32.not_lt.mpr c178 (of_decide_eq_true z).2
                      refine r_iinc (pc := 183) (v := nI (x + 1)) (L' := [some (.ref m), some (.int (nI k)), some (.int (nI h)), some (.int (nI (pay h + eC E h))), some (.int (nI b)), some (.int (((nI (pay b)) - (nI (pay h + eC E h))) * (ttF E ask b))), some (.int (nI (x + 1)))]) dX10_wouldElse_183 rfl (nI_inc _) (by decide) rfl rfl ?_
                      refine r_goto (pc := 186) (tgt := 131) dX10_wouldElse_186 (by decide) ?_
                      exact ih131 _ (by omega) (x + 1) I5 rfl (by omega) (by exact fun y hy => (Nat.lt_or_ge y x).elim (hnx y) (fun z => by obtain rfl : y = x := (by omega); exact hnn)) (by first | exact hK5 | exact hK4) (by first | exact hF4.tr hF5 | exact hF4)
                    · skip
                      refine r_iconst (pc := 181) (v := 1) dX10_wouldElse_181 (by decide) ?_
                      refine r_ret_z (pc := 182) dX10_wouldElse_182 rfl (by decide) ?_
                      exact ⟨_, I5, rfl, rfl, bz_t (we_yes c13 (by omega) c98 (x := x) (by omega) (decide_eq_true ⟨c152, Int32.not_le.mp c178⟩)), hK5, hF4.tr hF5⟩
            exact lp131 _ 0 I3 rfl (by omega) (by exact fun x hx => absurd hx (Nat.not_lt_zero _)) hK3 hF3
          · skip
            refine r_goto (pc := 101) (tgt := 189) dX10_wouldElse_101 (by decide) ?_
            refine r_iinc (pc := 189) (v := nI (b + 1)) (L' := [some (.ref m), some (.int (nI k)), some (.int (nI h)), some (.int (nI (pay h + eC E h))), some (.int (nI (b + 1))), none, none]) dX10_wouldElse_189 rfl (nI_inc _) (by decide) rfl rfl ?_
            refine r_goto (pc := 192) (tgt := 79) dX10_wouldElse_192 (by decide) ?_
            exact ih79 _ (by omega) (b + 1) I3 rfl (by omega) (by exact fun y hy => (Nat.lt_or_ge y b).elim (hn y) (fun z => by obtain rfl : y = b := (by omega); first | exact fun q => absurd q c98 | exact fun _ => hn4 42 (by omega))) (by first | exact hK4 | exact hK3) (by first | exact hF4 | exact hF3)
    exact lp79 _ 0 I rfl (by omega) (by exact fun x hx => absurd hx (Nat.not_lt_zero _)) hS.2.2.2.2.2 FrK.rf
  · skip
    refine r_aload_n (pc := 16) dX10_wouldElse_16 rfl ?_
    refine r_get1 (pc := 17) 10 17 47 dX10_wouldElse_17 (fl_RX10_47 rfl) (by decide) rfl (c10_o hm) (c10_p17 hm) ?_
    refine r_bipush (pc := 20) (v := 8) dX10_wouldElse_20 (by decide) ?_
    refine r_iload_n (pc := 22) dX10_wouldElse_22 rfl ?_
    refine r_imul_n (pc := 23) (a := 8) (b := k) dX10_wouldElse_23 ?_
    refine r_iload_n (pc := 24) dX10_wouldElse_24 rfl ?_
    refine r_iadd_n (pc := 25) (a := 8 * k) (b := h) dX10_wouldElse_25 ?_
    refine r_iald_n (pc := 26) (i := (8 * k) + h) dX10_wouldElse_26 (c10_a17 hm) (by decide) (by omega) (v := nI (ask h)) (ht.2.1 _ (by omega)) ?_
    refine r_iload_n (pc := 27) dX10_wouldElse_27 rfl ?_
    refine r_isub (pc := 28) (x := nI (ask h)) (z := nI (pay h + eC E h)) dX10_wouldElse_28 ?_
    refine r_aload_n (pc := 29) dX10_wouldElse_29 rfl ?_
    refine r_iload_n (pc := 30) dX10_wouldElse_30 rfl ?_
    refine r_iload_n (pc := 31) dX10_wouldElse_31 rfl ?_
    refine r_callV_P (pc := 32) (b := m) (As := [.int (nI k), .int (nI h)]) 10 242 dX10_wouldElse_32 lk_X10_toldTake (ml_RX10_242 rfl) im_X10_toldTake se_X10_toldTake (by decide) (c10_o hm) (Nat.le_of_ble_eq_true rfl) rfl (toldTake_ct (d := d + 28) hm hS.1 hS.2.2.1 hS.2.2.2.1 hS.2.2.2.2.1 ht (h := h) (by omega)) ?_
    refine r_imul (pc := 35) (x := (nI (ask h)) - (nI (pay h + eC E h))) (z := ttF E ask h) dX10_wouldElse_35 ?_
    refine r_istore (pc := 36) (L' := [some (.ref m), some (.int (nI k)), some (.int (nI h)), some (.int (nI (pay h + eC E h))), some (.int (((nI (ask h)) - (nI (pay h + eC E h))) * (ttF E ask h))), none, none]) dX10_wouldElse_36 (by decide) rfl rfl ?_
    refine r_iconst (pc := 38) (v := 0) dX10_wouldElse_38 (by decide) ?_
    refine r_istore (pc := 39) (L' := [some (.ref m), some (.int (nI k)), some (.int (nI h)), some (.int (nI (pay h + eC E h))), some (.int (((nI (ask h)) - (nI (pay h + eC E h))) * (ttF E ask h))), some (.int (nI 0)), none]) dX10_wouldElse_39 (by decide) rfl rfl ?_
    have lp41 : ∀ (n41 : Nat), ∀ (p : Nat), 42 - p = n41 → (p ≤ 42) → (∀ x, x < p → ¬ (nI (ask h) - nI (pay h + eC E h)) * ttF E ask h < (nI x - nI (pay h + eC E h)) * nI (eW E h x)) → wp (d + 41) 0 0 YX10_wouldElse 41 [some (.ref m), some (.int (nI k)), some (.int (nI h)), some (.int (nI (pay h + eC E h))), some (.int (((nI (ask h)) - (nI (pay h + eC E h))) * (ttF E ask h))), some (.int (nI p)), none] [] (I, G) (TkQ I G m E (bz (weF E idq pay ask h = true))) := by
      intro n41
      induction n41 using Nat.strongRecOn with
      | ind n41 ih41 =>
        intro p hmu41 hp hn
        refine r_iload (pc := 41) dX10_wouldElse_41 rfl ?_
        refine r_bipush (pc := 43) (v := 41) dX10_wouldElse_43 (by decide) ?_
        refine r_icmp_gt_n (pc := 45) (a := p) (b := 41) (tgt := 74) dX10_wouldElse_45 (by decide) (by first | omega | (have := ht.2.2.1 b; have := hcb b; omega)) (by first | omega | (have := ht.2.2.1 b; have := hcb b; omega)) (fun c45 => ?_) (fun c45 => ?_)
        · skip
          refine r_iconst (pc := 74) (v := 0) dX10_wouldElse_74 (by decide) ?_
          refine r_ret_z (pc := 75) dX10_wouldElse_75 rfl (by decide) ?_
          exact ⟨_, I, rfl, rfl, bz_f (ws_no c13 (fun x hx => hn x (by omega))), hS.2.2.2.2.2, FrK.rf⟩
        · skip
          refine r_iload (pc := 48) dX10_wouldElse_48 rfl ?_
          refine r_iload_n (pc := 50) dX10_wouldElse_50 rfl ?_
          refine r_isub (pc := 51) (x := nI p) (z := nI (pay h + eC E h)) dX10_wouldElse_51 ?_
          refine r_aload_n (pc := 52) dX10_wouldElse_52 rfl ?_
          refine r_iload_n (pc := 53) dX10_wouldElse_53 rfl ?_
          refine r_iload_n (pc := 54) dX10_wouldElse_54 rfl ?_
          refine r_iload (pc := 55) dX10_wouldElse_55 rfl ?_
          refine r_callV_P (pc := 57) (b := m) (As := [.int (nI k), .int (nI h), .int (nI p)]) 10 168 dX10_wouldElse_57 lk_X10_wanted (ml_RX10_168 rfl) im_X10_wanted se_X10_wanted (by decide) (c10_o hm) (Nat.le_of_ble_eq_true rfl) rfl (wanted_ct hm hS.1 (by omega) (by omega) (by omega)) ?_
          refine r_imul (pc := 60) (x := (nI p) - (nI (pay h + eC E h))) (z := nI (eW E h p)) dX10_wouldElse_60 ?_
          refine r_iload (pc := 61) dX10_wouldElse_61 rfl ?_
          refine r_icmp_le (pc := 63) (x := ((nI p) - (nI (pay h + eC E h))) * (nI (eW E h p))) (z := ((nI (ask h)) - (nI (pay h + eC E h))) * (ttF E ask h)) (tgt := 68) dX10_wouldElse_63 (by decide) (fun c63 => ?_) (fun c63 => ?_)
          · skip
            refine r_iinc (pc := 68) (v := nI (p + 1)) (L' := [some (.ref m), some (.int (nI k)), some (.int (nI h)), some (.int (nI (pay h + eC E h))), some (.int (((nI (ask h)) - (nI (pay h + eC E h))) * (ttF E ask h))), some (.int (nI (p + 1))), none]) dX10_wouldElse_68 rfl (nI_inc _) (by decide) rfl rfl ?_
            refine r_goto (pc := 71) (tgt := 41) dX10_wouldElse_71 (by decide) ?_
            exact ih41 _ (by omega) (p + 1) rfl (by omega) (by exact fun x hx => (Nat.lt_or_ge x p).elim (hn x) (fun z => by obtain rfl : x = p := (by omega); exact Int32.not_lt.mpr c63))
          · skip
            refine r_iconst (pc := 66) (v := 1) dX10_wouldElse_66 (by decide) ?_
            refine r_ret_z (pc := 67) dX10_wouldElse_67 rfl (by decide) ?_
            exact ⟨_, I, rfl, rfl, bz_t (ws_yes c13 (by omega) (Int32.not_le.mp c63)), hS.2.2.2.2.2, FrK.rf⟩
    exact lp41 _ 0 rfl (by omega) (by exact fun x hx => absurd hx (Nat.not_lt_zero _))

set_option maxRecDepth 100000 in
theorem isBehind_ct {d : Nat} {I : Im} {G : Gm} {m k cn : Nat} {E : Ec} {T : Lt} (hm : isC10 G m) (hk : MtC I m k E T) (hcn : I m 20 = nI cn) (hcn10 : cn ≤ 10) (hkc : k < cn) {h a : Nat} (hh : h < 8) (ha : a < 8) : Ct (d + 1) 0 0 YX10_isBehind [.ref m, .int (nI k), .int (nI h), .int (nI a)] (I, G) (qP (bz (anF (eS E) h a = true)) (I, G)) := by
  refine Ct.of (by decide) (by simp [Value.category]) (Nat.le_of_ble_eq_true rfl) ?_
  have hn8 := hk.2.1
  have hk10 : k ≤ 10 := by omega
  have hSS : ∀ b a, eS E b = some a → a < b := fun b a z => (hk.2.2.2.1 b a z).1
  show wp _ _ _ _ 0 [some (.ref m), some (.int (nI k)), some (.int (nI h)), some (.int (nI a)), none] [] _ _
  refine r_iload_n (pc := 0) dX10_isBehind_0 rfl ?_
  refine r_istore (pc := 1) (L' := [some (.ref m), some (.int (nI k)), some (.int (nI h)), some (.int (nI a)), some (.int (nI h))]) dX10_isBehind_1 (by decide) rfl rfl ?_
  have lp3 : ∀ (n3 : Nat), ∀ (f : Nat) (o : Option Nat), f = n3 → (f ≤ 8) → (∀ x, o = some x → x < f) → (anF (eS E) h a = anV (eS E) a o) → wp (d + 1) 0 0 YX10_isBehind 3 [some (.ref m), some (.int (nI k)), some (.int (nI h)), some (.int (nI a)), some (.int (sI o))] [] (I, G) (qP (bz (anF (eS E) h a = true)) (I, G)) := by
    intro n3
    induction n3 using Nat.strongRecOn with
    | ind n3 ih3 =>
      intro f o hmu3 hf ho hq
      rcases o with _ | x
      · skip
        show wp _ _ _ _ _ [some (.ref m), some (.int (nI k)), some (.int (nI h)), some (.int (nI a)), some (.int (-1))] _ _ _
        refine r_iload (pc := 3) dX10_isBehind_3 rfl ?_
        refine r_iconst (pc := 5) (v := -1) dX10_isBehind_5 (by decide) ?_
        refine r_icmp_eq (pc := 6) (x := (-1)) (z := (-1)) (tgt := 34) dX10_isBehind_6 (by decide) (fun c6 => ?_) (fun c6 => ?_)
        · skip
          refine r_iconst (pc := 34) (v := 0) dX10_isBehind_34 (by decide) ?_
          refine r_ret_z (pc := 35) dX10_isBehind_35 rfl (by decide) ?_
          exact ⟨congrArg (fun z => some (Value.int z)) (bz_f (by rw [hq]; show ¬ (false = true); simp)), rfl⟩
        · exfalso; exact c6 rfl
      · skip
        show wp _ _ _ _ _ [some (.ref m), some (.int (nI k)), some (.int (nI h)), some (.int (nI a)), some (.int (nI x))] _ _ _
        have hxl := ho x rfl
        refine r_iload (pc := 3) dX10_isBehind_3 rfl ?_
        refine r_iconst (pc := 5) (v := -1) dX10_isBehind_5 (by decide) ?_
        refine r_icmp_eq (pc := 6) (x := nI x) (z := (-1)) (tgt := 34) dX10_isBehind_6 (by decide) (fun c6 => ?_) (fun c6 => ?_)
        · exfalso; exact m1_ne (by omega) c6.symm
        · skip
          refine r_iload (pc := 9) dX10_isBehind_9 rfl ?_
          refine r_iload_n (pc := 11) dX10_isBehind_11 rfl ?_
          refine r_icmp_ne_n (pc := 12) (a := x) (b := a) (tgt := 17) dX10_isBehind_12 (by decide) (by omega) (by omega) (fun c12 => ?_) (fun c12 => ?_)
          · skip
            refine r_aload_n (pc := 17) dX10_isBehind_17 rfl ?_
            refine r_get1 (pc := 18) 10 8 20 dX10_isBehind_18 (fl_RX10_20 rfl) (by decide) rfl (c10_o hm) (c10_p8 hm) ?_
            refine r_bipush (pc := 21) (v := 8) dX10_isBehind_21 (by decide) ?_
            refine r_iload_n (pc := 23) dX10_isBehind_23 rfl ?_
            refine r_imul_n (pc := 24) (a := 8) (b := k) dX10_isBehind_24 ?_
            refine r_iload (pc := 25) dX10_isBehind_25 rfl ?_
            refine r_iadd_n (pc := 27) (a := 8 * k) (b := x) dX10_isBehind_27 ?_
            refine r_iald_n (pc := 28) (i := (8 * k) + x) dX10_isBehind_28 (c10_a8 hm) (by decide) (by omega) (v := sI (eS E x)) (hk.2.2.1 _ (by omega)) ?_
            refine r_istore (pc := 29) (L' := [some (.ref m), some (.int (nI k)), some (.int (nI h)), some (.int (nI a)), some (.int (sI (eS E x)))]) dX10_isBehind_29 (by decide) rfl rfl ?_
            refine r_goto (pc := 31) (tgt := 3) dX10_isBehind_31 (by decide) ?_
            exact ih3 _ (by omega) x (eS E x) rfl (by omega) (by exact fun y hy => hSS x y hy) (by rw [hq]; show anF (eS E) x a = _; rw [anF_eq hSS (by omega), if_neg (by omega)]; rfl)
          · skip
            refine r_iconst (pc := 15) (v := 1) dX10_isBehind_15 (by decide) ?_
            refine r_ret_z (pc := 16) dX10_isBehind_16 rfl (by decide) ?_
            exact ⟨congrArg (fun z => some (Value.int z)) (bz_t (by rw [hq]; show anF (eS E) x a = true; rw [c12]; exact anF_self)), rfl⟩
  exact lp3 _ 8 (some h) rfl (by omega) (by exact fun x hx => by cases hx; omega) (by rfl)

def ccT (s : Nat → Option Nat) (c : Nat → Nat) : Nat → Nat → Nat
  | 0, _ => 0
  | f + 1, h => c h + (match s h with
    | none => 0
    | some a => ccT s c f a)
theorem ccT_st {s : Nat → Option Nat} {c : Nat → Nat} (hs : ∀ b a, s b = some a → a < b) : ∀ f h j, h < f → ccT s c (f + j) h = ccT s c f h
  | 0, h, _, hh => absurd hh (Nat.not_lt_zero _)
  | f + 1, h, j, hh => by
    rw [show f + 1 + j = (f + j) + 1 by omega]
    unfold ccT
    cases hz : s h with
    | none => rfl
    | some a =>
      simp only
      rw [ccT_st hs f a j (by have := hs h a hz; omega)]
/-- the costs of h and of all before it -/
def ccF (E : Ec) (h : Nat) : Nat := ccT (eS E) (eC E) 9 h
def ccV (E : Ec) (o : Option Nat) : Nat := match o with
  | none => 0
  | some a => ccF E a
theorem ccF_eq {E : Ec} (hs : ∀ b a, eS E b = some a → a < b) {h : Nat} (hh : h < 8) : ccF E h = eC E h + ccV E (eS E h) := by
  show eC E h + (match eS E h with
    | none => 0
    | some a => ccT (eS E) (eC E) 8 a) = _
  unfold ccV
  cases hz : eS E h with
  | none => rfl
  | some a =>
    simp only
    rw [show ccF E a = ccT (eS E) (eC E) (8 + 1) a from rfl, ccT_st hs 8 a 1 (by have := hs h a hz; omega)]
theorem ccF_le {E : Ec} (hs : ∀ b a, eS E b = some a → a < b) (hc : ∀ b, eC E b ≤ 60) : ∀ h, h < 8 → ccF E h ≤ 60 * (h + 1) := by
  intro h
  induction h using Nat.strongRecOn with
  | ind h ih =>
    intro h8
    rw [ccF_eq hs h8]
    have := hc h
    unfold ccV
    cases hz : eS E h with
    | none => simp only; omega
    | some a =>
      simp only
      have h1 := hs h a hz
      have := ih a h1 (by omega)
      omega

set_option maxRecDepth 100000 in
theorem chainCost_ct {d : Nat} {I : Im} {G : Gm} {m k cn : Nat} {E : Ec} {T : Lt} (hm : isC10 G m) (hk : MtC I m k E T) (hcn : I m 20 = nI cn) (hcn10 : cn ≤ 10) (hkc : k < cn) {h : Nat} (hh : h < 8) : Ct (d + 2) 0 0 YX10_chainCost [.ref m, .int (nI k), .int (nI h)] (I, G) (qP (nI (ccF E h)) (I, G)) := by
  refine Ct.of (by decide) (by simp [Value.category]) (Nat.le_of_ble_eq_true rfl) ?_
  have hn8 := hk.2.1
  have hk10 : k ≤ 10 := by omega
  have hSS : ∀ b a, eS E b = some a → a < b := fun b a z => (hk.2.2.2.1 b a z).1
  show wp _ _ _ _ 0 [some (.ref m), some (.int (nI k)), some (.int (nI h)), none, none] [] _ _
  refine r_iconst (pc := 0) (v := 0) dX10_chainCost_0 (by decide) ?_
  refine r_istore_n (pc := 1) (L' := [some (.ref m), some (.int (nI k)), some (.int (nI h)), some (.int (nI 0)), none]) dX10_chainCost_1 (by decide) rfl rfl ?_
  refine r_iload_n (pc := 2) dX10_chainCost_2 rfl ?_
  refine r_istore (pc := 3) (L' := [some (.ref m), some (.int (nI k)), some (.int (nI h)), some (.int (nI 0)), some (.int (nI h))]) dX10_chainCost_3 (by decide) rfl rfl ?_
  have lp5 : ∀ (n5 : Nat), ∀ (f : Nat) (o : Option Nat) (s : Nat), f = n5 → (f ≤ 8) → (∀ x, o = some x → x < f) → (s + ccV E o = ccF E h) → wp (d + 2) 0 0 YX10_chainCost 5 [some (.ref m), some (.int (nI k)), some (.int (nI h)), some (.int (nI s)), some (.int (sI o))] [] (I, G) (qP (nI (ccF E h)) (I, G)) := by
    intro n5
    induction n5 using Nat.strongRecOn with
    | ind n5 ih5 =>
      intro f o s hmu5 hf ho hq
      rcases o with _ | x
      · skip
        show wp _ _ _ _ _ [some (.ref m), some (.int (nI k)), some (.int (nI h)), some (.int (nI s)), some (.int (-1))] _ _ _
        refine r_iload (pc := 5) dX10_chainCost_5 rfl ?_
        refine r_iconst (pc := 7) (v := -1) dX10_chainCost_7 (by decide) ?_
        refine r_icmp_eq (pc := 8) (x := (-1)) (z := (-1)) (tgt := 38) dX10_chainCost_8 (by decide) (fun c8 => ?_) (fun c8 => ?_)
        · skip
          refine r_iload_n (pc := 38) dX10_chainCost_38 rfl ?_
          refine r_ret_i (pc := 39) dX10_chainCost_39 rfl ?_
          exact ⟨by rw [← hq]; rfl, rfl⟩
        · exfalso; exact c8 rfl
      · skip
        show wp _ _ _ _ _ [some (.ref m), some (.int (nI k)), some (.int (nI h)), some (.int (nI s)), some (.int (nI x))] _ _ _
        have hxl := ho x rfl
        refine r_iload (pc := 5) dX10_chainCost_5 rfl ?_
        refine r_iconst (pc := 7) (v := -1) dX10_chainCost_7 (by decide) ?_
        refine r_icmp_eq (pc := 8) (x := nI x) (z := (-1)) (tgt := 38) dX10_chainCost_8 (by decide) (fun c8 => ?_) (fun c8 => ?_)
        · exfalso; exact m1_ne (by omega) c8.symm
        · skip
          refine r_iload_n (pc := 11) dX10_chainCost_11 rfl ?_
          refine r_aload_n (pc := 12) dX10_chainCost_12 rfl ?_
          refine r_iload_n (pc := 13) dX10_chainCost_13 rfl ?_
          refine r_iload (pc := 14) dX10_chainCost_14 rfl ?_
          refine r_callV_P (pc := 16) (b := m) (As := [.int (nI k), .int (nI x)]) 10 162 dX10_chainCost_16 lk_X10_costOf (ml_RX10_162 rfl) im_X10_costOf se_X10_costOf (by decide) (c10_o hm) (Nat.le_of_ble_eq_true rfl) rfl (costOf_ct hm hk hk10 (by omega)) ?_
          refine r_iadd_n (pc := 19) (a := s) (b := eC E x) dX10_chainCost_19 ?_
          refine r_istore_n (pc := 20) (L' := [some (.ref m), some (.int (nI k)), some (.int (nI h)), some (.int (nI (s + (eC E x)))), some (.int (nI x))]) dX10_chainCost_20 (by decide) rfl rfl ?_
          refine r_aload_n (pc := 21) dX10_chainCost_21 rfl ?_
          refine r_get1 (pc := 22) 10 8 20 dX10_chainCost_22 (fl_RX10_20 rfl) (by decide) rfl (c10_o hm) (c10_p8 hm) ?_
          refine r_bipush (pc := 25) (v := 8) dX10_chainCost_25 (by decide) ?_
          refine r_iload_n (pc := 27) dX10_chainCost_27 rfl ?_
          refine r_imul_n (pc := 28) (a := 8) (b := k) dX10_chainCost_28 ?_
          refine r_iload (pc := 29) dX10_chainCost_29 rfl ?_
          refine r_iadd_n (pc := 31) (a := 8 * k) (b := x) dX10_chainCost_31 ?_
          refine r_iald_n (pc := 32) (i := (8 * k) + x) dX10_chainCost_32 (c10_a8 hm) (by decide) (by omega) (v := sI (eS E x)) (hk.2.2.1 _ (by omega)) ?_
          refine r_istore (pc := 33) (L' := [some (.ref m), some (.int (nI k)), some (.int (nI h)), some (.int (nI (s + (eC E x)))), some (.int (sI (eS E x)))]) dX10_chainCost_33 (by decide) rfl rfl ?_
          refine r_goto (pc := 35) (tgt := 5) dX10_chainCost_35 (by decide) ?_
          exact ih5 _ (by omega) x (eS E x) (s + (eC E x)) rfl (by omega) (by exact fun y hy => hSS x y hy) (by rw [← hq]; show _ = s + ccF E x; rw [ccF_eq hSS (by omega)]; omega)
  exact lp5 _ 8 (some h) 0 rfl (by omega) (by exact fun x hx => by cases hx; omega) (by exact Nat.zero_add _)

abbrev afN (E : Ec) (h : Nat) : Nat := askF (eW E h) (eK E) (ccF E h)
/-- what a shop and all before it earn as one -/
def fyF (E : Ec) (h : Nat) : Int32 := (nI (afN E h) - nI (ccF E h)) * nI (eW E h (afN E h))

set_option maxRecDepth 100000 in
theorem freely_ct {d : Nat} {I : Im} {G : Gm} {m k cn : Nat} {E : Ec} {T : Lt} (hm : isC10 G m) (hS : MS I m k E T cn) {h : Nat} (hh : h < 8) : Ct (d + 3) 0 0 YX10_freely [.ref m, .int (nI k), .int (nI h)] (I, G) (qP (fyF E h) (I, G)) := by
  refine Ct.of (by decide) (by simp [Value.category]) (Nat.le_of_ble_eq_true rfl) ?_
  have hk := hS.1
  have hcn := hS.2.2.1
  have hcn10 := hS.2.2.2.1
  have hkc := hS.2.2.2.2.1
  have hn8 := hk.2.1
  have hk10 : k ≤ 10 := by omega
  have hSS : ∀ b a, eS E b = some a → a < b := fun b a z => (hk.2.2.2.1 b a z).1
  show wp _ _ _ _ 0 [some (.ref m), some (.int (nI k)), some (.int (nI h)), none, none] [] _ _
  refine r_aload_n (pc := 0) dX10_freely_0 rfl ?_
  refine r_iload_n (pc := 1) dX10_freely_1 rfl ?_
  refine r_iload_n (pc := 2) dX10_freely_2 rfl ?_
  refine r_callV_P (pc := 3) (b := m) (As := [.int (nI k), .int (nI h)]) 10 251 dX10_freely_3 lk_X10_chainCost (ml_RX10_251 rfl) im_X10_chainCost se_X10_chainCost (by decide) (c10_o hm) (Nat.le_of_ble_eq_true rfl) rfl (chainCost_ct hm hk hcn hcn10 hkc (by omega)) ?_
  refine r_istore_n (pc := 6) (L' := [some (.ref m), some (.int (nI k)), some (.int (nI h)), some (.int (nI (ccF E h))), none]) dX10_freely_6 (by decide) rfl rfl ?_
  refine r_aload_n (pc := 7) dX10_freely_7 rfl ?_
  refine r_iload_n (pc := 8) dX10_freely_8 rfl ?_
  refine r_iload_n (pc := 9) dX10_freely_9 rfl ?_
  refine r_callV_P (pc := 10) (b := m) (As := [.int (nI h), .int (nI (ccF E h))]) 10 213 dX10_freely_10 lk_X10_askBy (ml_RX10_213 rfl) im_X10_askBy se_X10_askBy (by decide) (c10_o hm) (Nat.le_of_ble_eq_true rfl) rfl (askBy_ct hm hk hk10 hS.2.1 (by omega) (by have := ccF_le hSS hk.2.2.2.2.2.1 h hh; omega)) ?_
  refine r_istore (pc := 13) (L' := [some (.ref m), some (.int (nI k)), some (.int (nI h)), some (.int (nI (ccF E h))), some (.int (nI (afN E h)))]) dX10_freely_13 (by decide) rfl rfl ?_
  refine r_iload (pc := 15) dX10_freely_15 rfl ?_
  refine r_iload_n (pc := 17) dX10_freely_17 rfl ?_
  refine r_isub (pc := 18) (x := nI (afN E h)) (z := nI (ccF E h)) dX10_freely_18 ?_
  refine r_aload_n (pc := 19) dX10_freely_19 rfl ?_
  refine r_iload_n (pc := 20) dX10_freely_20 rfl ?_
  refine r_iload_n (pc := 21) dX10_freely_21 rfl ?_
  refine r_iload (pc := 22) dX10_freely_22 rfl ?_
  refine r_callV_P (pc := 24) (b := m) (As := [.int (nI k), .int (nI h), .int (nI (afN E h))]) 10 168 dX10_freely_24 lk_X10_wanted (ml_RX10_168 rfl) im_X10_wanted se_X10_wanted (by decide) (c10_o hm) (Nat.le_of_ble_eq_true rfl) rfl (wanted_ct hm hk hk10 (by omega) (askF_le _ _ _)) ?_
  refine r_imul (pc := 27) (x := (nI (afN E h)) - (nI (ccF E h))) (z := nI (eW E h (afN E h))) dX10_freely_27 ?_
  refine r_ret_i (pc := 28) dX10_freely_28 rfl ?_
  exact ⟨rfl, rfl⟩

set_option maxRecDepth 100000 in
theorem bracket_ct {d : Nat} {I : Im} {G : Gm} {m k cn : Nat} {E : Ec} {T : Lt} (hm : isC10 G m) (hk : MtC I m k E T) (hcn : I m 20 = nI cn) (hcn10 : cn ≤ 10) (hkc : k < cn) {h w s p : Nat} (hh : h < 8) (hs : s ≤ 99) (hp : p ≤ 41) : Ct (d + 2) 0 0 YX10_bracket [.ref m, .int (nI k), .int (nI h), .int (nI w), .int (nI s), .int (nI p)] (I, G) (qP (ibG (eW E h) (100 - s) (100 * (w + eC E h)) p) (I, G)) := by
  refine Ct.of (by decide) (by simp [Value.category]) (Nat.le_of_ble_eq_true rfl) ?_
  have hn8 := hk.2.1
  have hk10 : k ≤ 10 := by omega
  show wp _ _ _ _ 0 [some (.ref m), some (.int (nI k)), some (.int (nI h)), some (.int (nI w)), some (.int (nI s)), some (.int (nI p))] [] _ _
  refine r_bipush (pc := 0) (v := 100) dX10_bracket_0 (by decide) ?_
  refine r_iload (pc := 2) dX10_bracket_2 rfl ?_
  refine r_isub_n (pc := 4) (a := 100) (b := s) dX10_bracket_4 (by omega) ?_
  refine r_iload (pc := 5) dX10_bracket_5 rfl ?_
  refine r_imul_n (pc := 7) (a := 100 - s) (b := p) dX10_bracket_7 ?_
  refine r_bipush (pc := 8) (v := 100) dX10_bracket_8 (by decide) ?_
  refine r_iload_n (pc := 10) dX10_bracket_10 rfl ?_
  refine r_aload_n (pc := 11) dX10_bracket_11 rfl ?_
  refine r_iload_n (pc := 12) dX10_bracket_12 rfl ?_
  refine r_iload_n (pc := 13) dX10_bracket_13 rfl ?_
  refine r_callV_P (pc := 14) (b := m) (As := [.int (nI k), .int (nI h)]) 10 162 dX10_bracket_14 lk_X10_costOf (ml_RX10_162 rfl) im_X10_costOf se_X10_costOf (by decide) (c10_o hm) (Nat.le_of_ble_eq_true rfl) rfl (costOf_ct hm hk hk10 (by omega)) ?_
  refine r_iadd_n (pc := 17) (a := w) (b := eC E h) dX10_bracket_17 ?_
  refine r_imul_n (pc := 18) (a := 100) (b := w + (eC E h)) dX10_bracket_18 ?_
  refine r_isub (pc := 19) (x := nI ((100 - s) * p)) (z := nI (100 * (w + (eC E h)))) dX10_bracket_19 ?_
  refine r_aload_n (pc := 20) dX10_bracket_20 rfl ?_
  refine r_iload_n (pc := 21) dX10_bracket_21 rfl ?_
  refine r_iload_n (pc := 22) dX10_bracket_22 rfl ?_
  refine r_iload (pc := 23) dX10_bracket_23 rfl ?_
  refine r_callV_P (pc := 25) (b := m) (As := [.int (nI k), .int (nI h), .int (nI p)]) 10 168 dX10_bracket_25 lk_X10_wanted (ml_RX10_168 rfl) im_X10_wanted se_X10_wanted (by decide) (c10_o hm) (Nat.le_of_ble_eq_true rfl) rfl (wanted_ct hm hk hk10 (by omega) (by omega)) ?_
  refine r_imul (pc := 28) (x := (nI ((100 - s) * p)) - (nI (100 * (w + (eC E h))))) (z := nI (eW E h p)) dX10_bracket_28 ?_
  refine r_ret_i (pc := 29) dX10_bracket_29 rfl ?_
  exact ⟨rfl, rfl⟩

set_option maxRecDepth 100000 in
theorem isPair_ct {d : Nat} {I : Im} {G : Gm} {m k cn : Nat} {E : Ec} {T : Lt} (hm : isC10 G m) (hk : MtC I m k E T) (hcn : I m 20 = nI cn) (hcn10 : cn ≤ 10) (hkc : k < cn) {h w s aim : Nat} (hh : h < 8) (hs : s ≤ 99) (ha : aim ≤ 41) : Ct (d + 3) 0 0 YX10_isPair [.ref m, .int (nI k), .int (nI h), .int (nI w), .int (nI s), .int (nI aim)] (I, G) (qP (bz (ibF (eW E h) aim (100 - s) (100 * (w + eC E h)) = true)) (I, G)) := by
  refine Ct.of (by decide) (by simp [Value.category]) (Nat.le_of_ble_eq_true rfl) ?_
  have hn8 := hk.2.1
  have hk10 : k ≤ 10 := by omega
  show wp _ _ _ _ 0 [some (.ref m), some (.int (nI k)), some (.int (nI h)), some (.int (nI w)), some (.int (nI s)), some (.int (nI aim)), none, none, none] [] _ _
  refine r_aload_n (pc := 0) dX10_isPair_0 rfl ?_
  refine r_iload_n (pc := 1) dX10_isPair_1 rfl ?_
  refine r_iload_n (pc := 2) dX10_isPair_2 rfl ?_
  refine r_iload_n (pc := 3) dX10_isPair_3 rfl ?_
  refine r_iload (pc := 4) dX10_isPair_4 rfl ?_
  refine r_iload (pc := 6) dX10_isPair_6 rfl ?_
  refine r_callV_P (pc := 8) (b := m) (As := [.int (nI k), .int (nI h), .int (nI w), .int (nI s), .int (nI aim)]) 10 260 dX10_isPair_8 lk_X10_bracket (ml_RX10_260 rfl) im_X10_bracket se_X10_bracket (by decide) (c10_o hm) (Nat.le_of_ble_eq_true rfl) rfl (bracket_ct hm hk hcn hcn10 hkc hh hs (by omega)) ?_
  refine r_istore (pc := 11) (L' := [some (.ref m), some (.int (nI k)), some (.int (nI h)), some (.int (nI w)), some (.int (nI s)), some (.int (nI aim)), some (.int (ibG (eW E h) (100 - s) (100 * (w + eC E h)) aim)), none, none]) dX10_isPair_11 (by decide) rfl rfl ?_
  refine r_iconst (pc := 13) (v := 0) dX10_isPair_13 (by decide) ?_
  refine r_istore (pc := 14) (L' := [some (.ref m), some (.int (nI k)), some (.int (nI h)), some (.int (nI w)), some (.int (nI s)), some (.int (nI aim)), some (.int (ibG (eW E h) (100 - s) (100 * (w + eC E h)) aim)), some (.int (nI 0)), none]) dX10_isPair_14 (by decide) rfl rfl ?_
  have lp16 : ∀ (n16 : Nat), ∀ (p : Nat), 42 - p = n16 → (p ≤ 42) → (∀ x, x < p → ¬ (ibG (eW E h) (100 - s) (100 * (w + eC E h)) aim < ibG (eW E h) (100 - s) (100 * (w + eC E h)) x ∨ (ibG (eW E h) (100 - s) (100 * (w + eC E h)) x = ibG (eW E h) (100 - s) (100 * (w + eC E h)) aim ∧ x < aim))) → wp (d + 3) 0 0 YX10_isPair 16 [some (.ref m), some (.int (nI k)), some (.int (nI h)), some (.int (nI w)), some (.int (nI s)), some (.int (nI aim)), some (.int (ibG (eW E h) (100 - s) (100 * (w + eC E h)) aim)), some (.int (nI p)), none] [] (I, G) (qP (bz (ibF (eW E h) aim (100 - s) (100 * (w + eC E h)) = true)) (I, G)) := by
    intro n16
    induction n16 using Nat.strongRecOn with
    | ind n16 ih16 =>
      intro p hmu16 hp hn
      refine r_iload (pc := 16) dX10_isPair_16 rfl ?_
      refine r_bipush (pc := 18) (v := 41) dX10_isPair_18 (by decide) ?_
      refine r_icmp_gt_n (pc := 20) (a := p) (b := 41) (tgt := 65) dX10_isPair_20 (by decide) (by omega) (by omega) (fun c20 => ?_) (fun c20 => ?_)
      · skip
        refine r_iconst (pc := 65) (v := 1) dX10_isPair_65 (by decide) ?_
        refine r_ret_z (pc := 66) dX10_isPair_66 rfl (by decide) ?_
        exact ⟨congrArg (fun z => some (Value.int z)) (bz_t (ibF_t (fun x hx => hn x (by omega)))), rfl⟩
      · skip
        refine r_aload_n (pc := 23) dX10_isPair_23 rfl ?_
        refine r_iload_n (pc := 24) dX10_isPair_24 rfl ?_
        refine r_iload_n (pc := 25) dX10_isPair_25 rfl ?_
        refine r_iload_n (pc := 26) dX10_isPair_26 rfl ?_
        refine r_iload (pc := 27) dX10_isPair_27 rfl ?_
        refine r_iload (pc := 29) dX10_isPair_29 rfl ?_
        refine r_callV_P (pc := 31) (b := m) (As := [.int (nI k), .int (nI h), .int (nI w), .int (nI s), .int (nI p)]) 10 260 dX10_isPair_31 lk_X10_bracket (ml_RX10_260 rfl) im_X10_bracket se_X10_bracket (by decide) (c10_o hm) (Nat.le_of_ble_eq_true rfl) rfl (bracket_ct hm hk hcn hcn10 hkc hh hs (by omega)) ?_
        refine r_istore (pc := 34) (L' := [some (.ref m), some (.int (nI k)), some (.int (nI h)), some (.int (nI w)), some (.int (nI s)), some (.int (nI aim)), some (.int (ibG (eW E h) (100 - s) (100 * (w + eC E h)) aim)), some (.int (nI p)), some (.int (ibG (eW E h) (100 - s) (100 * (w + eC E h)) p))]) dX10_isPair_34 (by decide) rfl rfl ?_
        refine r_iload (pc := 36) dX10_isPair_36 rfl ?_
        refine r_iload (pc := 38) dX10_isPair_38 rfl ?_
        refine r_icmp_gt (pc := 40) (x := ibG (eW E h) (100 - s) (100 * (w + eC E h)) p) (z := ibG (eW E h) (100 - s) (100 * (w + eC E h)) aim) (tgt := 57) dX10_isPair_40 (by decide) (fun c40 => ?_) (fun c40 => ?_)
        · skip
          refine r_iconst (pc := 57) (v := 0) dX10_isPair_57 (by decide) ?_
          refine r_ret_z (pc := 58) dX10_isPair_58 rfl (by decide) ?_
          exact ⟨congrArg (fun z => some (Value.int z)) (bz_f (ibF_f (p := p) (by omega) (by first | exact Or.inl c40 | exact Or.inr ⟨c47, by omega⟩))), rfl⟩
        · skip
          refine r_iload (pc := 43) dX10_isPair_43 rfl ?_
          refine r_iload (pc := 45) dX10_isPair_45 rfl ?_
          refine r_icmp_ne (pc := 47) (x := ibG (eW E h) (100 - s) (100 * (w + eC E h)) p) (z := ibG (eW E h) (100 - s) (100 * (w + eC E h)) aim) (tgt := 59) dX10_isPair_47 (by decide) (fun c47 => ?_) (fun c47 => ?_)
          · skip
            have hno : ¬ (ibG (eW E h) (100 - s) (100 * (w + eC E h)) aim < ibG (eW E h) (100 - s) (100 * (w + eC E h)) p ∨ (ibG (eW E h) (100 - s) (100 * (w + eC E h)) p = ibG (eW E h) (100 - s) (100 * (w + eC E h)) aim ∧ p < aim)) := fun z => z.elim (fun y => c40 y) (fun y => c47 y.1)
            refine r_iinc (pc := 59) (v := nI (p + 1)) (L' := [some (.ref m), some (.int (nI k)), some (.int (nI h)), some (.int (nI w)), some (.int (nI s)), some (.int (nI aim)), some (.int (ibG (eW E h) (100 - s) (100 * (w + eC E h)) aim)), some (.int (nI (p + 1))), some (.int (ibG (eW E h) (100 - s) (100 * (w + eC E h)) p))]) dX10_isPair_59 rfl (nI_inc _) (by decide) rfl rfl ?_
            refine r_goto (pc := 62) (tgt := 16) dX10_isPair_62 (by decide) ?_
            refine wp_sub [some (.ref m), some (.int (nI k)), some (.int (nI h)), some (.int (nI w)), some (.int (nI s)), some (.int (nI aim)), some (.int (ibG (eW E h) (100 - s) (100 * (w + eC E h)) aim)), some (.int (nI (p + 1))), none] ⟨rfl, ⟨rfl, ⟨rfl, ⟨rfl, ⟨rfl, ⟨rfl, ⟨rfl, ⟨rfl, trivial⟩⟩⟩⟩⟩⟩⟩⟩ ?_
            exact ih16 _ (by omega) (p + 1) rfl (by omega) (by exact fun x hx => (Nat.lt_or_ge x p).elim (hn x) (fun z => by obtain rfl : x = p := (by omega); exact hno))
          · skip
            refine r_iload (pc := 50) dX10_isPair_50 rfl ?_
            refine r_iload (pc := 52) dX10_isPair_52 rfl ?_
            refine r_icmp_ge_n (pc := 54) (a := p) (b := aim) (tgt := 59) dX10_isPair_54 (by decide) (by omega) (by omega) (fun c54 => ?_) (fun c54 => ?_)
            · skip
              have hno : ¬ (ibG (eW E h) (100 - s) (100 * (w + eC E h)) aim < ibG (eW E h) (100 - s) (100 * (w + eC E h)) p ∨ (ibG (eW E h) (100 - s) (100 * (w + eC E h)) p = ibG (eW E h) (100 - s) (100 * (w + eC E h)) aim ∧ p < aim)) := fun z => z.elim (fun y => c40 y) (fun y => absurd y.2 (by omega))
              refine r_iinc (pc := 59) (v := nI (p + 1)) (L' := [some (.ref m), some (.int (nI k)), some (.int (nI h)), some (.int (nI w)), some (.int (nI s)), some (.int (nI aim)), some (.int (ibG (eW E h) (100 - s) (100 * (w + eC E h)) aim)), some (.int (nI (p + 1))), some (.int (ibG (eW E h) (100 - s) (100 * (w + eC E h)) p))]) dX10_isPair_59 rfl (nI_inc _) (by decide) rfl rfl ?_
              refine r_goto (pc := 62) (tgt := 16) dX10_isPair_62 (by decide) ?_
              refine wp_sub [some (.ref m), some (.int (nI k)), some (.int (nI h)), some (.int (nI w)), some (.int (nI s)), some (.int (nI aim)), some (.int (ibG (eW E h) (100 - s) (100 * (w + eC E h)) aim)), some (.int (nI (p + 1))), none] ⟨rfl, ⟨rfl, ⟨rfl, ⟨rfl, ⟨rfl, ⟨rfl, ⟨rfl, ⟨rfl, trivial⟩⟩⟩⟩⟩⟩⟩⟩ ?_
              exact ih16 _ (by omega) (p + 1) rfl (by omega) (by exact fun x hx => (Nat.lt_or_ge x p).elim (hn x) (fun z => by obtain rfl : x = p := (by omega); exact hno))
            · skip
              refine r_iconst (pc := 57) (v := 0) dX10_isPair_57 (by decide) ?_
              refine r_ret_z (pc := 58) dX10_isPair_58 rfl (by decide) ?_
              exact ⟨congrArg (fun z => some (Value.int z)) (bz_f (ibF_f (p := p) (by omega) (by first | exact Or.inl c40 | exact Or.inr ⟨c47, by omega⟩))), rfl⟩
  exact lp16 _ 0 rfl (by omega) (by exact fun x hx => absurd hx (Nat.not_lt_zero _))

theorem terms_f {d : Nat} {I : Im} {G : Gm} {m k cn : Nat} {E : Ec} {T : Lt} (hm : isC10 G m) (hk : MtC I m k E T) (hfr : eJ E = 0 ∧ eK E = 41 ∧ eA E = false ∧ eH E = false) (hcn : I m 20 = nI cn) (hcn10 : cn ≤ 10) (hkc : k < cn) : Ct (d + 1) 0 0 YX10_terms [.ref m, .int (nI k), .int (nI 0), .int (nI 41), .int (nI 0), .int (nI 0)] (I, G) (qV G (fun I2 => MS I2 m k E T cn ∧ FrW I I2 m)) := by
  have g := terms_e (d := d) hm hk (by rw [hfr.2.1]; omega) hcn hcn10 hkc
  have e0 : eJ E = nI 0 := hfr.1.trans nI_0.symm
  have e2 : bz (eA E = true) = nI 0 := by rw [hfr.2.2.1]; rfl
  have e3 : bz (eH E = true) = nI 0 := by rw [hfr.2.2.2]; rfl
  rw [e0, hfr.2.1, e2, e3] at g
  exact g
theorem MS.kp {I I2 : Im} {m k cn : Nat} {E : Ec} {T : Lt} (h : MS I m k E T cn) (hf : ∀ a x, (a = m ∧ 20 ≤ x ∧ x ≤ 25) ∨ (m + 2 ≤ a ∧ a < m + 10) ∨ (m + 16 ≤ a ∧ a ≤ m + 18) → I2 a x = I a x) : MS I2 m k E T cn :=
  ⟨h.1.keep (fun a x h1 h2 => hf a x (by omega)), ⟨(hf _ _ (by omega)).trans h.2.1.1, (hf _ _ (by omega)).trans h.2.1.2.1, (hf _ _ (by omega)).trans h.2.1.2.2.1, h.2.1.2.2.2.1, (hf _ _ (by omega)).trans h.2.1.2.2.2.2.1, (hf _ _ (by omega)).trans h.2.1.2.2.2.2.2⟩, (hf _ _ (by omega)).trans h.2.2.1, h.2.2.2.1, h.2.2.2.2.1, h.2.2.2.2.2.keep (fun a x h1 h2 => hf a x (by omega))⟩
theorem scF_some {R : Nat → Bool} {i : Int32} : ∀ {k p : Nat}, scF R i k = some p → p < k ∧ R p = true ∧ nI (ctB R p) = i
  | 0, p, h => by cases h
  | k + 1, p, h => by
    unfold scF at h
    cases hz : scF R i k with
    | some q =>
      rw [hz] at h
      cases h
      have := scF_some hz
      exact ⟨by omega, this.2⟩
    | none =>
      rw [hz] at h
      simp only at h
      split at h
      · next c =>
        cases h
        exact ⟨by omega, c⟩
      · cases h
theorem scF_free {R : Nat → Bool} {i : Int32} {k : Nat} (hk : k < 2 ^ 31) (h : nI (ctB R k) = i) : scF R i k = none := by
  cases hz : scF R i k with
  | none => rfl
  | some p =>
    have h1 := scF_some hz
    have h2 := ctB_mono (R := R) (show p + 1 ≤ k by omega)
    have h3 := ctB_le R k
    rw [ctB_hit h1.2.1] at h2
    have := (nI_eq (by omega) (by omega)).mp (h1.2.2.trans h.symm)
    omega
theorem scF_skip {R : Nat → Bool} {i : Int32} {k : Nat} (h : ¬ (R k = true ∧ nI (ctB R k) = i)) : scF R i (k + 1) = scF R i k := by
  cases hz : scF R i k with
  | none => exact scF_miss hz h
  | some p => exact scF_keep hz 1
/-- all but the reference's own scratch -/
def FrZ (I I2 : Im) (m : Nat) : Prop := ∀ a x, (a < m + 16 ∨ m + 22 < a) → ¬ (a = m ∧ (x = 0 ∨ (3 ≤ x ∧ x ≤ 5) ∨ (21 ≤ x ∧ x ≤ 25) ∨ x = 31 ∨ x = 32)) → I2 a x = I a x
theorem FrZ.rf {I : Im} {m : Nat} : FrZ I I m := fun _ _ _ _ => rfl
theorem FrZ.tr {I I2 I3 : Im} {m : Nat} (h : FrZ I I2 m) (h2 : FrZ I2 I3 m) : FrZ I I3 m := fun a x z y => (h2 a x z y).trans (h a x z y)
theorem FrW.z {I I2 : Im} {m : Nat} (h : FrW I I2 m) : FrZ I I2 m := fun a x z y => h a x (by omega) (by omega)
theorem FrZ.u {I I2 : Im} {m c x : Nat} {v : Int32} (h : FrZ I I2 m) (hc : (m + 16 ≤ c ∧ c ≤ m + 22) ∨ (c = m ∧ (x = 0 ∨ (3 ≤ x ∧ x ≤ 5) ∨ (21 ≤ x ∧ x ≤ 25) ∨ x = 31 ∨ x = 32))) : FrZ I (up2 I2 c x v) m := fun a y z w => (up2_rd (by omega)).trans (h a y z w)
theorem FrZ.mt {I I2 : Im} {m k : Nat} {E : Ec} {T : Lt} (h : FrZ I I2 m) (hk : MtC I m k E T) : MtC I2 m k E T := hk.keep (fun a x h1 h2 => h a x (by omega) (by omega))

set_option maxRecDepth 100000 in
theorem layPairs_ct {d : Nat} {I : Im} {G : Gm} {m k cn : Nat} {E : Ec} {T : Lt} (hm : isC10 G m) (hk : MtC I m k E T) (hcn : I m 20 = nI cn) (hcn10 : cn ≤ 10) (hkc : k < cn) {h : Nat} {i : Int32} (hh : h < 8) (hfr : eJ E = 0 ∧ eK E = 41 ∧ eA E = false ∧ eH E = false) : Ct (d + 4) 0 0 YX10_layPairs [.ref m, .int (nI k), .int (nI h), .int i] (I, G) (qV G (fun I2 => FrZ I I2 m ∧ MS I2 m k E T cn ∧ I2 m 31 = nI (ctB (prB (eW E h) (eC E h) (afN E h)) 4100) ∧ I2 m 32 = sI (scF (prB (eW E h) (eC E h) (afN E h)) i 4100))) := by
  refine Ct.of (by decide) (by simp [Value.category]) (Nat.le_of_ble_eq_true rfl) ?_
  have hn8 := hk.2.1
  have hk10 : k ≤ 10 := by omega
  have hSS : ∀ b a, eS E b = some a → a < b := fun b a z => (hk.2.2.2.1 b a z).1
  show wp _ _ _ _ 0 [some (.ref m), some (.int (nI k)), some (.int (nI h)), some (.int i), none, none, none] [] _ _
  refine r_aload_n (pc := 0) dX10_layPairs_0 rfl ?_
  refine r_iload_n (pc := 1) dX10_layPairs_1 rfl ?_
  refine r_iconst (pc := 2) (v := 0) dX10_layPairs_2 (by decide) ?_
  refine r_bipush (pc := 3) (v := 41) dX10_layPairs_3 (by decide) ?_
  refine r_iconst (pc := 5) (v := 0) dX10_layPairs_5 (by decide) ?_
  refine r_iconst (pc := 6) (v := 0) dX10_layPairs_6 (by decide) ?_
  refine r_callV_V (pc := 7) (b := m) (As := [.int (nI k), .int (nI 0), .int (nI 41), .int (nI 0), .int (nI 0)]) 10 191 dX10_layPairs_7 lk_X10_terms (ml_RX10_191 rfl) im_X10_terms se_X10_terms (by decide) (c10_o hm) (Nat.le_of_ble_eq_true rfl) rfl (terms_f hm hk hfr hcn hcn10 hkc) (fun I1 h1 => ?_)
  obtain ⟨hS1, hF1⟩ := h1
  have hk1 := hS1.1
  have hcn1 := hS1.2.2.1
  refine r_aload_n (pc := 10) dX10_layPairs_10 rfl ?_
  refine r_iload_n (pc := 11) dX10_layPairs_11 rfl ?_
  refine r_aload_n (pc := 12) dX10_layPairs_12 rfl ?_
  refine r_iload_n (pc := 13) dX10_layPairs_13 rfl ?_
  refine r_iload_n (pc := 14) dX10_layPairs_14 rfl ?_
  refine r_callV_P (pc := 15) (b := m) (As := [.int (nI k), .int (nI h)]) 10 251 dX10_layPairs_15 lk_X10_chainCost (ml_RX10_251 rfl) im_X10_chainCost se_X10_chainCost (by decide) (c10_o hm) (Nat.le_of_ble_eq_true rfl) rfl (chainCost_ct hm hk1 hcn1 hcn10 hkc (by omega)) ?_
  refine r_callV_P (pc := 18) (b := m) (As := [.int (nI h), .int (nI (ccF E h))]) 10 213 dX10_layPairs_18 lk_X10_askBy (ml_RX10_213 rfl) im_X10_askBy se_X10_askBy (by decide) (c10_o hm) (Nat.le_of_ble_eq_true rfl) rfl (askBy_ct hm hk1 hk10 hS1.2.1 (by omega) (by have := ccF_le hSS hk.2.2.2.2.2.1 h hh; omega)) ?_
  refine r_istore (pc := 21) (L' := [some (.ref m), some (.int (nI k)), some (.int (nI h)), some (.int i), some (.int (nI (afN E h))), none, none]) dX10_layPairs_21 (by decide) rfl rfl ?_
  refine r_aload_n (pc := 23) dX10_layPairs_23 rfl ?_
  refine r_iconst (pc := 24) (v := 0) dX10_layPairs_24 (by decide) ?_
  refine r_putI (pc := 25) (v := nI 0) 10 31 264 dX10_layPairs_25 (fl_RX10_264 rfl) (by decide) rfl rfl (c10_o hm) ?_
  refine r_aload_n (pc := 28) dX10_layPairs_28 rfl ?_
  refine r_iconst (pc := 29) (v := -1) dX10_layPairs_29 (by decide) ?_
  refine r_putI (pc := 30) (v := (-1)) 10 32 267 dX10_layPairs_30 (fl_RX10_267 rfl) (by decide) rfl rfl (c10_o hm) ?_
  refine r_iconst (pc := 33) (v := 0) dX10_layPairs_33 (by decide) ?_
  refine r_istore (pc := 34) (L' := [some (.ref m), some (.int (nI k)), some (.int (nI h)), some (.int i), some (.int (nI (afN E h))), some (.int (nI 0)), none]) dX10_layPairs_34 (by decide) rfl rfl ?_
  have lp36 : ∀ (n36 : Nat), ∀ (w : Nat) (I2 : Im), 41 - w = n36 → (w ≤ 41) → (FrZ I I2 m) → (MS I2 m k E T cn) → (I2 m 31 = nI (ctB (prB (eW E h) (eC E h) (afN E h)) (100 * w))) → (I2 m 32 = sI (scF (prB (eW E h) (eC E h) (afN E h)) i (100 * w))) → wp (d + 4) 0 0 YX10_layPairs 36 [some (.ref m), some (.int (nI k)), some (.int (nI h)), some (.int i), some (.int (nI (afN E h))), some (.int (nI w)), none] [] (I2, G) (qV G (fun I2 => FrZ I I2 m ∧ MS I2 m k E T cn ∧ I2 m 31 = nI (ctB (prB (eW E h) (eC E h) (afN E h)) 4100) ∧ I2 m 32 = sI (scF (prB (eW E h) (eC E h) (afN E h)) i 4100))) := by
    intro n36
    induction n36 using Nat.strongRecOn with
    | ind n36 ih36 =>
      intro w I2 hmu36 hw hF2 hM2 hm2 hn2
      refine r_iload (pc := 36) dX10_layPairs_36 rfl ?_
      refine r_bipush (pc := 38) (v := 40) dX10_layPairs_38 (by decide) ?_
      refine r_icmp_gt_n (pc := 40) (a := w) (b := 40) (tgt := 113) dX10_layPairs_40 (by decide) (by omega) (by omega) (fun c40 => ?_) (fun c40 => ?_)
      · skip
        refine r_ret_v (pc := 113) dX10_layPairs_113 rfl ?_
        obtain rfl : w = 41 := (by omega)
        exact ⟨rfl, I2, rfl, hF2, hM2, hm2, hn2⟩
      · skip
        refine r_iconst (pc := 43) (v := 0) dX10_layPairs_43 (by decide) ?_
        refine r_istore (pc := 44) (L' := [some (.ref m), some (.int (nI k)), some (.int (nI h)), some (.int i), some (.int (nI (afN E h))), some (.int (nI w)), some (.int (nI 0))]) dX10_layPairs_44 (by decide) rfl rfl ?_
        have lp46 : ∀ (n46 : Nat), ∀ (s : Nat) (I3 : Im), 100 - s = n46 → (s ≤ 100) → (FrZ I I3 m) → (MS I3 m k E T cn) → (I3 m 31 = nI (ctB (prB (eW E h) (eC E h) (afN E h)) (100 * w + s))) → (I3 m 32 = sI (scF (prB (eW E h) (eC E h) (afN E h)) i (100 * w + s))) → wp (d + 4) 0 0 YX10_layPairs 46 [some (.ref m), some (.int (nI k)), some (.int (nI h)), some (.int i), some (.int (nI (afN E h))), some (.int (nI w)), some (.int (nI s))] [] (I3, G) (qV G (fun I2 => FrZ I I2 m ∧ MS I2 m k E T cn ∧ I2 m 31 = nI (ctB (prB (eW E h) (eC E h) (afN E h)) 4100) ∧ I2 m 32 = sI (scF (prB (eW E h) (eC E h) (afN E h)) i 4100))) := by
          intro n46
          induction n46 using Nat.strongRecOn with
          | ind n46 ih46 =>
            intro s I3 hmu46 hs hF3 hM3 hm3 hn3
            refine r_iload (pc := 46) dX10_layPairs_46 rfl ?_
            refine r_bipush (pc := 48) (v := 99) dX10_layPairs_48 (by decide) ?_
            refine r_icmp_gt_n (pc := 50) (a := s) (b := 99) (tgt := 107) dX10_layPairs_50 (by decide) (by omega) (by omega) (fun c50 => ?_) (fun c50 => ?_)
            · skip
              refine r_iinc (pc := 107) (v := nI (w + 1)) (L' := [some (.ref m), some (.int (nI k)), some (.int (nI h)), some (.int i), some (.int (nI (afN E h))), some (.int (nI (w + 1))), some (.int (nI s))]) dX10_layPairs_107 rfl (nI_inc _) (by decide) rfl rfl ?_
              refine r_goto (pc := 110) (tgt := 36) dX10_layPairs_110 (by decide) ?_
              refine wp_sub [some (.ref m), some (.int (nI k)), some (.int (nI h)), some (.int i), some (.int (nI (afN E h))), some (.int (nI (w + 1))), none] ⟨rfl, ⟨rfl, ⟨rfl, ⟨rfl, ⟨rfl, ⟨rfl, trivial⟩⟩⟩⟩⟩⟩ ?_
              exact ih36 _ (by omega) (w + 1) I3 rfl (by omega) hF3 hM3 (by rw [hm3, show 100 * w + s = 100 * (w + 1) by omega]) (by rw [hn3, show 100 * w + s = 100 * (w + 1) by omega])
            · skip
              have hpr : prB (eW E h) (eC E h) (afN E h) (100 * w + s) = ibF (eW E h) (afN E h) (100 - s) (100 * (w + eC E h)) := by unfold prB; rw [(dm100 (p := w) (show s < 100 by omega)).1, (dm100 (p := w) (show s < 100 by omega)).2]
              have hcl := ctB_le (prB (eW E h) (eC E h) (afN E h)) (100 * w + s)
              refine r_aload_n (pc := 53) dX10_layPairs_53 rfl ?_
              refine r_iload_n (pc := 54) dX10_layPairs_54 rfl ?_
              refine r_iload_n (pc := 55) dX10_layPairs_55 rfl ?_
              refine r_iload (pc := 56) dX10_layPairs_56 rfl ?_
              refine r_iload (pc := 58) dX10_layPairs_58 rfl ?_
              refine r_iload (pc := 60) dX10_layPairs_60 rfl ?_
              refine r_callV_P (pc := 62) (b := m) (As := [.int (nI k), .int (nI h), .int (nI w), .int (nI s), .int (nI (afN E h))]) 10 270 dX10_layPairs_62 lk_X10_isPair (ml_RX10_270 rfl) im_X10_isPair se_X10_isPair (by decide) (c10_o hm) (Nat.le_of_ble_eq_true rfl) rfl (isPair_ct hm (hF3.mt hk) ((hF3 _ _ (by omega) (by omega)).trans hcn) hcn10 hkc hh (s := s) (by omega) (askF_le _ _ _)) ?_
              refine r_if_ne_b (pc := 65) (tgt := 71) dX10_layPairs_65 (by decide) (fun c65 => ?_) (fun c65 => ?_)
              · skip
                have hR : (prB (eW E h) (eC E h) (afN E h)) (100 * w + s) = true := hpr.trans c65
                refine r_aload_n (pc := 71) dX10_layPairs_71 rfl ?_
                refine r_getIv (pc := 72) 10 31 264 dX10_layPairs_72 (fl_RX10_264 rfl) (by decide) rfl (c10_o hm) (v := nI (ctB (prB (eW E h) (eC E h) (afN E h)) (100 * w + s))) (hm3) ?_
                refine r_iload_n (pc := 75) dX10_layPairs_75 rfl ?_
                refine r_icmp_ne (pc := 76) (x := nI (ctB (prB (eW E h) (eC E h) (afN E h)) (100 * w + s))) (z := i) (tgt := 91) dX10_layPairs_76 (by decide) (fun c76 => ?_) (fun c76 => ?_)
                · skip
                  refine r_aload_n (pc := 91) dX10_layPairs_91 rfl ?_
                  refine r_dup (pc := 92) dX10_layPairs_92 rfl ?_
                  refine r_getIv (pc := 93) 10 31 264 dX10_layPairs_93 (fl_RX10_264 rfl) (by decide) rfl (c10_o hm) (v := nI (ctB (prB (eW E h) (eC E h) (afN E h)) (100 * w + s))) (hm3) ?_
                  refine r_iconst (pc := 96) (v := 1) dX10_layPairs_96 (by decide) ?_
                  refine r_iadd_n (pc := 97) (a := ctB (prB (eW E h) (eC E h) (afN E h)) (100 * w + s)) (b := 1) dX10_layPairs_97 ?_
                  refine r_putI (pc := 98) (v := nI ((ctB (prB (eW E h) (eC E h) (afN E h)) (100 * w + s)) + 1)) 10 31 264 dX10_layPairs_98 (fl_RX10_264 rfl) (by decide) rfl rfl (c10_o hm) ?_
                  refine r_iinc (pc := 101) (v := nI (s + 1)) (L' := [some (.ref m), some (.int (nI k)), some (.int (nI h)), some (.int i), some (.int (nI (afN E h))), some (.int (nI w)), some (.int (nI (s + 1)))]) dX10_layPairs_101 rfl (nI_inc _) (by decide) rfl rfl ?_
                  refine r_goto (pc := 104) (tgt := 46) dX10_layPairs_104 (by decide) ?_
                  exact ih46 _ (by omega) (s + 1) (up2 I3 m 31 (nI ((ctB (prB (eW E h) (eC E h) (afN E h)) (100 * w + s)) + 1))) rfl (by omega) (by first | exact (hF3.u (by omega)).u (by omega) | exact hF3.u (by omega) | exact hF3) (by first | exact hM3.kp (fun a x z => (up2_rd (by omega)).trans (up2_rd (by omega))) | exact hM3.kp (fun a x z => up2_rd (by omega)) | exact hM3) (by first | exact up2_at.trans (by rw [← Nat.add_assoc, ctB_hit hR]) | exact hm3.trans (by rw [← Nat.add_assoc, ctB_miss hR])) (by first | exact (up2_rd (by omega)).trans (up2_at.trans (by rw [← Nat.add_assoc, scF_hit (scF_free (by omega) c76) hR c76]; rfl)) | exact (up2_rd (by omega)).trans (hn3.trans (by rw [← Nat.add_assoc, scF_skip (fun z => c76 z.2)])) | exact hn3.trans (by rw [← Nat.add_assoc, scF_skip (fun z => hR z.1)]))
                · skip
                  refine r_aload_n (pc := 79) dX10_layPairs_79 rfl ?_
                  refine r_bipush (pc := 80) (v := 100) dX10_layPairs_80 (by decide) ?_
                  refine r_iload (pc := 82) dX10_layPairs_82 rfl ?_
                  refine r_imul_n (pc := 84) (a := 100) (b := w) dX10_layPairs_84 ?_
                  refine r_iload (pc := 85) dX10_layPairs_85 rfl ?_
                  refine r_iadd_n (pc := 87) (a := 100 * w) (b := s) dX10_layPairs_87 ?_
                  refine r_putI (pc := 88) (v := nI ((100 * w) + s)) 10 32 267 dX10_layPairs_88 (fl_RX10_267 rfl) (by decide) rfl rfl (c10_o hm) ?_
                  refine r_aload_n (pc := 91) dX10_layPairs_91 rfl ?_
                  refine r_dup (pc := 92) dX10_layPairs_92 rfl ?_
                  refine r_getIv (pc := 93) 10 31 264 dX10_layPairs_93 (fl_RX10_264 rfl) (by decide) rfl (c10_o hm) (v := nI (ctB (prB (eW E h) (eC E h) (afN E h)) (100 * w + s))) ((up2_rd (by omega)).trans (hm3)) ?_
                  refine r_iconst (pc := 96) (v := 1) dX10_layPairs_96 (by decide) ?_
                  refine r_iadd_n (pc := 97) (a := ctB (prB (eW E h) (eC E h) (afN E h)) (100 * w + s)) (b := 1) dX10_layPairs_97 ?_
                  refine r_putI (pc := 98) (v := nI ((ctB (prB (eW E h) (eC E h) (afN E h)) (100 * w + s)) + 1)) 10 31 264 dX10_layPairs_98 (fl_RX10_264 rfl) (by decide) rfl rfl (c10_o hm) ?_
                  refine r_iinc (pc := 101) (v := nI (s + 1)) (L' := [some (.ref m), some (.int (nI k)), some (.int (nI h)), some (.int i), some (.int (nI (afN E h))), some (.int (nI w)), some (.int (nI (s + 1)))]) dX10_layPairs_101 rfl (nI_inc _) (by decide) rfl rfl ?_
                  refine r_goto (pc := 104) (tgt := 46) dX10_layPairs_104 (by decide) ?_
                  exact ih46 _ (by omega) (s + 1) (up2 (up2 I3 m 32 (nI ((100 * w) + s))) m 31 (nI ((ctB (prB (eW E h) (eC E h) (afN E h)) (100 * w + s)) + 1))) rfl (by omega) (by first | exact (hF3.u (by omega)).u (by omega) | exact hF3.u (by omega) | exact hF3) (by first | exact hM3.kp (fun a x z => (up2_rd (by omega)).trans (up2_rd (by omega))) | exact hM3.kp (fun a x z => up2_rd (by omega)) | exact hM3) (by first | exact up2_at.trans (by rw [← Nat.add_assoc, ctB_hit hR]) | exact hm3.trans (by rw [← Nat.add_assoc, ctB_miss hR])) (by first | exact (up2_rd (by omega)).trans (up2_at.trans (by rw [← Nat.add_assoc, scF_hit (scF_free (by omega) c76) hR c76]; rfl)) | exact (up2_rd (by omega)).trans (hn3.trans (by rw [← Nat.add_assoc, scF_skip (fun z => c76 z.2)])) | exact hn3.trans (by rw [← Nat.add_assoc, scF_skip (fun z => hR z.1)]))
              · skip
                have hR : ¬ (prB (eW E h) (eC E h) (afN E h)) (100 * w + s) = true := fun z => c65 (hpr.symm.trans z)
                refine r_goto (pc := 68) (tgt := 101) dX10_layPairs_68 (by decide) ?_
                refine r_iinc (pc := 101) (v := nI (s + 1)) (L' := [some (.ref m), some (.int (nI k)), some (.int (nI h)), some (.int i), some (.int (nI (afN E h))), some (.int (nI w)), some (.int (nI (s + 1)))]) dX10_layPairs_101 rfl (nI_inc _) (by decide) rfl rfl ?_
                refine r_goto (pc := 104) (tgt := 46) dX10_layPairs_104 (by decide) ?_
                exact ih46 _ (by omega) (s + 1) I3 rfl (by omega) (by first | exact (hF3.u (by omega)).u (by omega) | exact hF3.u (by omega) | exact hF3) (by first | exact hM3.kp (fun a x z => (up2_rd (by omega)).trans (up2_rd (by omega))) | exact hM3.kp (fun a x z => up2_rd (by omega)) | exact hM3) (by first | exact up2_at.trans (by rw [← Nat.add_assoc, ctB_hit hR]) | exact hm3.trans (by rw [← Nat.add_assoc, ctB_miss hR])) (by first | exact (up2_rd (by omega)).trans (up2_at.trans (by rw [← Nat.add_assoc, scF_hit (scF_free (by omega) c76) hR c76]; rfl)) | exact (up2_rd (by omega)).trans (hn3.trans (by rw [← Nat.add_assoc, scF_skip (fun z => c76 z.2)])) | exact hn3.trans (by rw [← Nat.add_assoc, scF_skip (fun z => hR z.1)]))
        exact lp46 _ 0 I2 rfl (by omega) hF2 hM2 hm2 hn2
  exact lp36 _ 0 (up2 (up2 I1 m 31 (nI 0)) m 32 (-1)) rfl (by omega) (by exact (hF1.z.u (by omega)).u (by omega)) (by exact hS1.kp (fun a x z => (up2_rd (by omega)).trans (up2_rd (by omega)))) (by exact (up2_rd (by omega)).trans up2_at) (by exact up2_at)

set_option maxRecDepth 100000 in
theorem isPartner_ct {d : Nat} {I : Im} {G : Gm} {m k cn : Nat} {E : Ec} {T : Lt} (hm : isC10 G m) (hk : MtC I m k E T) (hcn : I m 20 = nI cn) (hcn10 : cn ≤ 10) (hkc : k < cn) {h : Nat} (hh : h < eN E) : Ct (d + 4) 0 0 YX10_isPartner [.ref m, .int (nI k), .int (nI h)] (I, G) (qP (bz (cnt (eS E) h (eN E) = 0 ∧ ¬ eS E h = none)) (I, G)) := by
  refine Ct.of (by decide) (by simp [Value.category]) (Nat.le_of_ble_eq_true rfl) ?_
  have hn8 := hk.2.1
  have hk10 : k ≤ 10 := by omega
  show wp _ _ _ _ 0 [some (.ref m), some (.int (nI k)), some (.int (nI h))] [] _ _
  refine r_aload_n (pc := 0) dX10_isPartner_0 rfl ?_
  refine r_iload_n (pc := 1) dX10_isPartner_1 rfl ?_
  refine r_iload_n (pc := 2) dX10_isPartner_2 rfl ?_
  refine r_callV_P (pc := 3) (b := m) (As := [.int (nI k), .int (nI h)]) 10 165 dX10_isPartner_3 lk_X10_isShop (ml_RX10_165 rfl) im_X10_isShop se_X10_isShop (by decide) (c10_o hm) (Nat.le_of_ble_eq_true rfl) rfl (isShopM_ct hm hk hk10 hcn hcn10 hkc (by omega)) ?_
  refine r_if_eq_b (pc := 6) (tgt := 22) dX10_isPartner_6 (by decide) (fun c6 => ?_) (fun c6 => ?_)
  · skip
    refine r_iconst (pc := 22) (v := 0) dX10_isPartner_22 (by decide) ?_
    refine r_ret_z (pc := 23) dX10_isPartner_23 rfl (by decide) ?_
    exact ⟨congrArg (fun z => some (Value.int z)) (by first | exact bz_f (fun z => c6 z.1) | exact bz_f (fun z => z.2 c15) | exact bz_t ⟨c6, c15⟩), rfl⟩
  · skip
    refine r_aload_n (pc := 9) dX10_isPartner_9 rfl ?_
    refine r_iload_n (pc := 10) dX10_isPartner_10 rfl ?_
    refine r_iload_n (pc := 11) dX10_isPartner_11 rfl ?_
    refine r_callV_P (pc := 12) (b := m) (As := [.int (nI k), .int (nI h)]) 10 274 dX10_isPartner_12 lk_X10_isMaker (ml_RX10_274 rfl) im_X10_isMaker se_X10_isMaker (by decide) (c10_o hm) (Nat.le_of_ble_eq_true rfl) rfl (isMaker_ct hm hk hk10 (by omega)) ?_
    refine r_if_ne_b (pc := 15) (tgt := 22) dX10_isPartner_15 (by decide) (fun c15 => ?_) (fun c15 => ?_)
    · skip
      refine r_iconst (pc := 22) (v := 0) dX10_isPartner_22 (by decide) ?_
      refine r_ret_z (pc := 23) dX10_isPartner_23 rfl (by decide) ?_
      exact ⟨congrArg (fun z => some (Value.int z)) (by first | exact bz_f (fun z => c6 z.1) | exact bz_f (fun z => z.2 c15) | exact bz_t ⟨c6, c15⟩), rfl⟩
    · skip
      refine r_iconst (pc := 18) (v := 1) dX10_isPartner_18 (by decide) ?_
      refine r_goto (pc := 19) (tgt := 23) dX10_isPartner_19 (by decide) ?_
      refine r_ret_z (pc := 23) dX10_isPartner_23 rfl (by decide) ?_
      exact ⟨congrArg (fun z => some (Value.int z)) (by first | exact bz_f (fun z => c6 z.1) | exact bz_f (fun z => z.2 c15) | exact bz_t ⟨c6, c15⟩), rfl⟩

set_option maxRecDepth 100000 in
theorem isPartner_no {d : Nat} {I : Im} {G : Gm} {m k cn : Nat} {E : Ec} {T : Lt} (hm : isC10 G m) (hk : MtC I m k E T) (hcn : I m 20 = nI cn) (hcn10 : cn ≤ 10) (hkc : k < cn) {h : Int32} (hno : ¬ (0 ≤ h ∧ h < nI (eN E))) : Ct (d + 4) 0 0 YX10_isPartner [.ref m, .int (nI k), .int h] (I, G) (qP 0 (I, G)) := by
  refine Ct.of (by decide) (by simp [Value.category]) (Nat.le_of_ble_eq_true rfl) ?_
  show wp _ _ _ _ 0 [some (.ref m), some (.int (nI k)), some (.int h)] [] _ _
  refine r_aload_n (pc := 0) dX10_isPartner_0 rfl ?_
  refine r_iload_n (pc := 1) dX10_isPartner_1 rfl ?_
  refine r_iload_n (pc := 2) dX10_isPartner_2 rfl ?_
  refine r_callV_P (pc := 3) (b := m) (As := [.int (nI k), .int h]) 10 165 dX10_isPartner_3 lk_X10_isShop (ml_RX10_165 rfl) im_X10_isShop se_X10_isShop (by decide) (c10_o hm) (Nat.le_of_ble_eq_true rfl) rfl (isShopM_no hm hk hcn hcn10 hkc hno) ?_
  refine r_if_eq_n (pc := 6) (a := 0) (tgt := 22) dX10_isPartner_6 (by decide) (by omega) (fun c6 => ?_) (fun c6 => ?_)
  · skip
    refine r_iconst (pc := 22) (v := 0) dX10_isPartner_22 (by decide) ?_
    refine r_ret_z (pc := 23) dX10_isPartner_23 rfl (by decide) ?_
    exact ⟨rfl, rfl⟩
  · exfalso; exact c6 rfl

set_option maxRecDepth 100000 in
theorem isPartner_nt {d : Nat} {I : Im} {G : Gm} {m : Nat} (hm : isC10 G m) {t h : Int32} (hno : ¬ (0 ≤ t ∧ t < I m 20)) : Ct (d + 4) 0 0 YX10_isPartner [.ref m, .int t, .int h] (I, G) (qP 0 (I, G)) := by
  refine Ct.of (by decide) (by simp [Value.category]) (Nat.le_of_ble_eq_true rfl) ?_
  show wp _ _ _ _ 0 [some (.ref m), some (.int t), some (.int h)] [] _ _
  refine r_aload_n (pc := 0) dX10_isPartner_0 rfl ?_
  refine r_iload_n (pc := 1) dX10_isPartner_1 rfl ?_
  refine r_iload_n (pc := 2) dX10_isPartner_2 rfl ?_
  refine r_callV_P (pc := 3) (b := m) (As := [.int t, .int h]) 10 165 dX10_isPartner_3 lk_X10_isShop (ml_RX10_165 rfl) im_X10_isShop se_X10_isShop (by decide) (c10_o hm) (Nat.le_of_ble_eq_true rfl) rfl (isShopM_nt hm hno) ?_
  refine r_if_eq_n (pc := 6) (a := 0) (tgt := 22) dX10_isPartner_6 (by decide) (by omega) (fun c6 => ?_) (fun c6 => ?_)
  · skip
    refine r_iconst (pc := 22) (v := 0) dX10_isPartner_22 (by decide) ?_
    refine r_ret_z (pc := 23) dX10_isPartner_23 rfl (by decide) ?_
    exact ⟨rfl, rfl⟩
  · exfalso; exact c6 rfl

def rsB (F S : Nat → Int32) (r : Nat) : Bool := !(anB (fun x => decide (F (42 * (r / 42) + r % 42) < F (42 * x + r % 42) ∨ S (42 * (r / 42) + r % 42) < S (42 * (r / 42) + x))) 42)
abbrev rsX (F S : Nat → Int32) (p q x : Nat) : Bool := decide (F (42 * p + q) < F (42 * x + q) ∨ S (42 * p + q) < S (42 * p + x))
theorem rsB_eq (F S : Nat → Int32) {p q : Nat} (hq : q < 42) : rsB F S (42 * p + q) = !(anB (rsX F S p q) 42) := by
  unfold rsB
  rw [(dm42 hq).1, (dm42 hq).2]
theorem anB_s {f : Nat → Bool} {k : Nat} : anB f (k + 1) = (anB f k || f k) := rfl

set_option maxRecDepth 100000 in
theorem restsOf_ct {d : Nat} {I : Im} {G : Gm} {m : Nat} {i : Int32} (hm : isC10 G m) : Ct (d + 1) 0 0 YX10_restsOf [.ref m, .int i] (I, G) (qP (scA (rsB (I (m + 21)) (I (m + 22))) i 1764 cd64) (I, G)) := by
  refine Ct.of (by decide) (by simp [Value.category]) (Nat.le_of_ble_eq_true rfl) ?_
  show wp _ _ _ _ 0 [some (.ref m), some (.int i), none, none, none, none, none] [] _ _
  refine r_iconst (pc := 0) (v := 0) dX10_restsOf_0 (by decide) ?_
  refine r_istore_n (pc := 1) (L' := [some (.ref m), some (.int i), some (.int (nI 0)), none, none, none, none]) dX10_restsOf_1 (by decide) rfl rfl ?_
  refine r_iconst (pc := 2) (v := 0) dX10_restsOf_2 (by decide) ?_
  refine r_istore_n (pc := 3) (L' := [some (.ref m), some (.int i), some (.int (nI 0)), some (.int (nI 0)), none, none, none]) dX10_restsOf_3 (by decide) rfl rfl ?_
  have lp4 : ∀ (n4 : Nat), ∀ (p : Nat) (f : Nat), 42 - p = n4 → (p ≤ 42) → (f = ctB (rsB (I (m + 21)) (I (m + 22))) (42 * p)) → (scF (rsB (I (m + 21)) (I (m + 22))) i (42 * p) = none) → wp (d + 1) 0 0 YX10_restsOf 4 [some (.ref m), some (.int i), some (.int (nI f)), some (.int (nI p)), none, none, none] [] (I, G) (qP (scA (rsB (I (m + 21)) (I (m + 22))) i 1764 cd64) (I, G)) := by
    intro n4
    induction n4 using Nat.strongRecOn with
    | ind n4 ih4 =>
      intro p f hmu4 hp hf hs
      refine r_iload_n (pc := 4) dX10_restsOf_4 rfl ?_
      refine r_bipush (pc := 5) (v := 41) dX10_restsOf_5 (by decide) ?_
      refine r_icmp_gt_n (pc := 7) (a := p) (b := 41) (tgt := 142) dX10_restsOf_7 (by decide) (by first | omega | (have := ctB_le (rsB (I (m + 21)) (I (m + 22))) (42 * p + q); omega)) (by first | omega | (have := ctB_le (rsB (I (m + 21)) (I (m + 22))) (42 * p + q); omega)) (fun c7 => ?_) (fun c7 => ?_)
      · skip
        refine r_iload_n (pc := 142) dX10_restsOf_142 rfl ?_
        refine r_iconst (pc := 143) (v := -1) dX10_restsOf_143 (by decide) ?_
        refine r_icmp_ne (pc := 144) (x := i) (z := (-1)) (tgt := 151) dX10_restsOf_144 (by decide) (fun c144 => ?_) (fun c144 => ?_)
        · skip
          refine r_iconst (pc := 151) (v := -1) dX10_restsOf_151 (by decide) ?_
          refine r_ret_i (pc := 152) dX10_restsOf_152 rfl ?_
          obtain rfl : p = 42 := (by omega)
          refine ⟨?_, rfl⟩
          rw [← scA_miss (show scF (rsB (I (m + 21)) (I (m + 22))) i 1764 = none from hs), ← show f = ctB (rsB (I (m + 21)) (I (m + 22))) 1764 from hf]
          first | (rw [if_pos c144]; done) | (rw [if_neg c144]; done)
        · skip
          refine r_iload_n (pc := 147) dX10_restsOf_147 rfl ?_
          refine r_goto (pc := 148) (tgt := 152) dX10_restsOf_148 (by decide) ?_
          refine r_ret_i (pc := 152) dX10_restsOf_152 rfl ?_
          obtain rfl : p = 42 := (by omega)
          refine ⟨?_, rfl⟩
          rw [← scA_miss (show scF (rsB (I (m + 21)) (I (m + 22))) i 1764 = none from hs), ← show f = ctB (rsB (I (m + 21)) (I (m + 22))) 1764 from hf]
          first | (rw [if_pos c144]; done) | (rw [if_neg c144]; done)
      · skip
        refine r_iconst (pc := 10) (v := 0) dX10_restsOf_10 (by decide) ?_
        refine r_istore (pc := 11) (L' := [some (.ref m), some (.int i), some (.int (nI f)), some (.int (nI p)), some (.int (nI 0)), none, none]) dX10_restsOf_11 (by decide) rfl rfl ?_
        have lp13 : ∀ (n13 : Nat), ∀ (q : Nat) (f2 : Nat), 42 - q = n13 → (q ≤ 42) → (f2 = ctB (rsB (I (m + 21)) (I (m + 22))) (42 * p + q)) → (scF (rsB (I (m + 21)) (I (m + 22))) i (42 * p + q) = none) → wp (d + 1) 0 0 YX10_restsOf 13 [some (.ref m), some (.int i), some (.int (nI f2)), some (.int (nI p)), some (.int (nI q)), none, none] [] (I, G) (qP (scA (rsB (I (m + 21)) (I (m + 22))) i 1764 cd64) (I, G)) := by
          intro n13
          induction n13 using Nat.strongRecOn with
          | ind n13 ih13 =>
            intro q f2 hmu13 hq hf2 hs2
            refine r_iload (pc := 13) dX10_restsOf_13 rfl ?_
            refine r_bipush (pc := 15) (v := 41) dX10_restsOf_15 (by decide) ?_
            refine r_icmp_gt_n (pc := 17) (a := q) (b := 41) (tgt := 136) dX10_restsOf_17 (by decide) (by first | omega | (have := ctB_le (rsB (I (m + 21)) (I (m + 22))) (42 * p + q); omega)) (by first | omega | (have := ctB_le (rsB (I (m + 21)) (I (m + 22))) (42 * p + q); omega)) (fun c17 => ?_) (fun c17 => ?_)
            · skip
              refine r_iinc (pc := 136) (v := nI (p + 1)) (L' := [some (.ref m), some (.int i), some (.int (nI f2)), some (.int (nI (p + 1))), some (.int (nI q)), none, none]) dX10_restsOf_136 rfl (nI_inc _) (by decide) rfl rfl ?_
              refine r_goto (pc := 139) (tgt := 4) dX10_restsOf_139 (by decide) ?_
              refine wp_sub [some (.ref m), some (.int i), some (.int (nI f2)), some (.int (nI (p + 1))), none, none, none] ⟨rfl, ⟨rfl, ⟨rfl, ⟨rfl, trivial⟩⟩⟩⟩ ?_
              exact ih4 _ (by omega) (p + 1) f2 rfl (by omega) (by rw [hf2, show 42 * p + q = 42 * (p + 1) by omega]) (by rw [show 42 * (p + 1) = 42 * p + q by omega]; exact hs2)
            · skip
              refine r_iconst (pc := 20) (v := 1) dX10_restsOf_20 (by decide) ?_
              refine r_istore (pc := 21) (L' := [some (.ref m), some (.int i), some (.int (nI f2)), some (.int (nI p)), some (.int (nI q)), some (.int (nI 1)), none]) dX10_restsOf_21 (by decide) rfl rfl ?_
              refine r_iconst (pc := 23) (v := 0) dX10_restsOf_23 (by decide) ?_
              refine r_istore (pc := 24) (L' := [some (.ref m), some (.int i), some (.int (nI f2)), some (.int (nI p)), some (.int (nI q)), some (.int (nI 1)), some (.int (nI 0))]) dX10_restsOf_24 (by decide) rfl rfl ?_
              have lp26 : ∀ (n26 : Nat), ∀ (x : Nat) (z : Int32), 42 - x = n26 → (x ≤ 42) → (z = bz (¬ anB (rsX (I (m + 21)) (I (m + 22)) p q) x = true)) → wp (d + 1) 0 0 YX10_restsOf 26 [some (.ref m), some (.int i), some (.int (nI f2)), some (.int (nI p)), some (.int (nI q)), some (.int z), some (.int (nI x))] [] (I, G) (qP (scA (rsB (I (m + 21)) (I (m + 22))) i 1764 cd64) (I, G)) := by
                intro n26
                induction n26 using Nat.strongRecOn with
                | ind n26 ih26 =>
                  intro x z hmu26 hx hz
                  refine r_iload (pc := 26) dX10_restsOf_26 rfl ?_
                  refine r_bipush (pc := 28) (v := 41) dX10_restsOf_28 (by decide) ?_
                  refine r_icmp_gt_n (pc := 30) (a := x) (b := 41) (tgt := 106) dX10_restsOf_30 (by decide) (by first | omega | (have := ctB_le (rsB (I (m + 21)) (I (m + 22))) (42 * p + q); omega)) (by first | omega | (have := ctB_le (rsB (I (m + 21)) (I (m + 22))) (42 * p + q); omega)) (fun c30 => ?_) (fun c30 => ?_)
                  · skip
                    have hx42 : x = 42 := by omega
                    rw [hx42] at hz
                    refine r_iload (pc := 106) dX10_restsOf_106 rfl ?_
                    refine r_if_ne (pc := 108) (x := z) (tgt := 114) dX10_restsOf_108 (by decide) (fun c108 => ?_) (fun c108 => ?_)
                    · skip
                      have hR : (rsB (I (m + 21)) (I (m + 22))) (42 * p + q) = true := by rw [rsB_eq _ _ (by omega)]; have h1 : ¬ anB (rsX (I (m + 21)) (I (m + 22)) p q) 42 = true := Decidable.byContradiction (fun y => c108 (hz.trans (bz_0.mpr y))); simpa using h1
                      refine r_iload_n (pc := 114) dX10_restsOf_114 rfl ?_
                      refine r_iload_n (pc := 115) dX10_restsOf_115 rfl ?_
                      refine r_icmp_ne (pc := 116) (x := nI f2) (z := i) (tgt := 127) dX10_restsOf_116 (by decide) (fun c116 => ?_) (fun c116 => ?_)
                      · skip
                        refine r_iinc (pc := 127) (v := nI (f2 + 1)) (L' := [some (.ref m), some (.int i), some (.int (nI (f2 + 1))), some (.int (nI p)), some (.int (nI q)), some (.int z), some (.int (nI x))]) dX10_restsOf_127 rfl (nI_inc _) (by decide) rfl rfl ?_
                        refine r_iinc (pc := 130) (v := nI (q + 1)) (L' := [some (.ref m), some (.int i), some (.int (nI (f2 + 1))), some (.int (nI p)), some (.int (nI (q + 1))), some (.int z), some (.int (nI x))]) dX10_restsOf_130 rfl (nI_inc _) (by decide) rfl rfl ?_
                        refine r_goto (pc := 133) (tgt := 13) dX10_restsOf_133 (by decide) ?_
                        refine wp_sub [some (.ref m), some (.int i), some (.int (nI (f2 + 1))), some (.int (nI p)), some (.int (nI (q + 1))), none, none] ⟨rfl, ⟨rfl, ⟨rfl, ⟨rfl, ⟨rfl, trivial⟩⟩⟩⟩⟩ ?_
                        exact ih13 _ (by omega) (q + 1) (f2 + 1) rfl (by omega) (by first | exact (hf2.trans (ctB_miss hR).symm) | exact ((congrArg (· + 1) hf2).trans (ctB_hit hR).symm)) (by first | exact scF_miss hs2 (fun z => hR z.1) | exact scF_miss hs2 (fun z => c116 (by rw [hf2]; exact z.2)))
                      · skip
                        refine r_bipush (pc := 119) (v := 64) dX10_restsOf_119 (by decide) ?_
                        refine r_iload_n (pc := 121) dX10_restsOf_121 rfl ?_
                        refine r_imul_n (pc := 122) (a := 64) (b := p) dX10_restsOf_122 ?_
                        refine r_iload (pc := 123) dX10_restsOf_123 rfl ?_
                        refine r_iadd_n (pc := 125) (a := 64 * p) (b := q) dX10_restsOf_125 ?_
                        refine r_ret_i (pc := 126) dX10_restsOf_126 rfl ?_
                        refine ⟨?_, rfl⟩
                        rw [show 64 * p + q = cd64 (42 * p + q) by unfold cd64; rw [(dm42 (show q < 42 by omega)).1, (dm42 (show q < 42 by omega)).2]]
                        exact congrArg (fun z => some (Value.int z)) (scA_hit (by omega) hs2 hR (by rw [← hf2]; exact c116))
                    · skip
                      have hR : ¬ (rsB (I (m + 21)) (I (m + 22))) (42 * p + q) = true := by rw [rsB_eq _ _ (by omega)]; have h1 := bz_0.mp (hz.symm.trans c108); simpa using h1
                      refine r_goto (pc := 111) (tgt := 130) dX10_restsOf_111 (by decide) ?_
                      refine r_iinc (pc := 130) (v := nI (q + 1)) (L' := [some (.ref m), some (.int i), some (.int (nI f2)), some (.int (nI p)), some (.int (nI (q + 1))), some (.int z), some (.int (nI x))]) dX10_restsOf_130 rfl (nI_inc _) (by decide) rfl rfl ?_
                      refine r_goto (pc := 133) (tgt := 13) dX10_restsOf_133 (by decide) ?_
                      refine wp_sub [some (.ref m), some (.int i), some (.int (nI f2)), some (.int (nI p)), some (.int (nI (q + 1))), none, none] ⟨rfl, ⟨rfl, ⟨rfl, ⟨rfl, ⟨rfl, trivial⟩⟩⟩⟩⟩ ?_
                      exact ih13 _ (by omega) (q + 1) f2 rfl (by omega) (by first | exact (hf2.trans (ctB_miss hR).symm) | exact ((congrArg (· + 1) hf2).trans (ctB_hit hR).symm)) (by first | exact scF_miss hs2 (fun z => hR z.1) | exact scF_miss hs2 (fun z => c116 (by rw [hf2]; exact z.2)))
                  · skip
                    refine r_iload (pc := 33) dX10_restsOf_33 rfl ?_
                    refine r_if_eq (pc := 35) (x := z) (tgt := 97) dX10_restsOf_35 (by decide) (fun c35 => ?_) (fun c35 => ?_)
                    · skip
                      have hcase : nI 0 = bz (¬ anB (rsX (I (m + 21)) (I (m + 22)) p q) (x + 1) = true) := bz_f (by have h1 := bz_0.mp (hz.symm.trans c35); rw [anB_s]; simp only [Decidable.not_not] at h1; rw [h1]; simp)
                      refine r_iconst (pc := 97) (v := 0) dX10_restsOf_97 (by decide) ?_
                      refine r_istore (pc := 98) (L' := [some (.ref m), some (.int i), some (.int (nI f2)), some (.int (nI p)), some (.int (nI q)), some (.int (nI 0)), some (.int (nI x))]) dX10_restsOf_98 (by decide) rfl rfl ?_
                      refine r_iinc (pc := 100) (v := nI (x + 1)) (L' := [some (.ref m), some (.int i), some (.int (nI f2)), some (.int (nI p)), some (.int (nI q)), some (.int (nI 0)), some (.int (nI (x + 1)))]) dX10_restsOf_100 rfl (nI_inc _) (by decide) rfl rfl ?_
                      refine r_goto (pc := 103) (tgt := 26) dX10_restsOf_103 (by decide) ?_
                      exact ih26 _ (by omega) (x + 1) (nI 0) rfl (by omega) hcase
                    · skip
                      have hfa : anB (rsX (I (m + 21)) (I (m + 22)) p q) x = false := by have h1 : ¬ ¬ ¬ anB (rsX (I (m + 21)) (I (m + 22)) p q) x = true := fun h1 => c35 (hz.trans (bz_0.mpr h1)); simpa using h1
                      refine r_aload_n (pc := 38) dX10_restsOf_38 rfl ?_
                      refine r_get1 (pc := 39) 10 33 72 dX10_restsOf_39 (fl_RX10_72 rfl) (by decide) rfl (c10_o hm) (c10_p33 hm) ?_
                      refine r_bipush (pc := 42) (v := 42) dX10_restsOf_42 (by decide) ?_
                      refine r_iload (pc := 44) dX10_restsOf_44 rfl ?_
                      refine r_imul_n (pc := 46) (a := 42) (b := x) dX10_restsOf_46 ?_
                      refine r_iload (pc := 47) dX10_restsOf_47 rfl ?_
                      refine r_iadd_n (pc := 49) (a := 42 * x) (b := q) dX10_restsOf_49 ?_
                      refine r_iald_n (pc := 50) (i := (42 * x) + q) dX10_restsOf_50 (c10_a33 hm) (by decide) (by omega) rfl ?_
                      refine r_aload_n (pc := 51) dX10_restsOf_51 rfl ?_
                      refine r_get1 (pc := 52) 10 33 72 dX10_restsOf_52 (fl_RX10_72 rfl) (by decide) rfl (c10_o hm) (c10_p33 hm) ?_
                      refine r_bipush (pc := 55) (v := 42) dX10_restsOf_55 (by decide) ?_
                      refine r_iload_n (pc := 57) dX10_restsOf_57 rfl ?_
                      refine r_imul_n (pc := 58) (a := 42) (b := p) dX10_restsOf_58 ?_
                      refine r_iload (pc := 59) dX10_restsOf_59 rfl ?_
                      refine r_iadd_n (pc := 61) (a := 42 * p) (b := q) dX10_restsOf_61 ?_
                      refine r_iald_n (pc := 62) (i := (42 * p) + q) dX10_restsOf_62 (c10_a33 hm) (by decide) (by omega) rfl ?_
                      refine r_icmp_gt (pc := 63) (x := I (m + 21) ((42 * x) + q)) (z := I (m + 21) ((42 * p) + q)) (tgt := 97) dX10_restsOf_63 (by decide) (fun c63 => ?_) (fun c63 => ?_)
                      · skip
                        have hcase : nI 0 = bz (¬ anB (rsX (I (m + 21)) (I (m + 22)) p q) (x + 1) = true) := bz_f (by rw [anB_s, hfa, (show rsX (I (m + 21)) (I (m + 22)) p q x = true from decide_eq_true (Or.inl c63))]; simp)
                        refine r_iconst (pc := 97) (v := 0) dX10_restsOf_97 (by decide) ?_
                        refine r_istore (pc := 98) (L' := [some (.ref m), some (.int i), some (.int (nI f2)), some (.int (nI p)), some (.int (nI q)), some (.int (nI 0)), some (.int (nI x))]) dX10_restsOf_98 (by decide) rfl rfl ?_
                        refine r_iinc (pc := 100) (v := nI (x + 1)) (L' := [some (.ref m), some (.int i), some (.int (nI f2)), some (.int (nI p)), some (.int (nI q)), some (.int (nI 0)), some (.int (nI (x + 1)))]) dX10_restsOf_100 rfl (nI_inc _) (by decide) rfl rfl ?_
                        refine r_goto (pc := 103) (tgt := 26) dX10_restsOf_103 (by decide) ?_
                        exact ih26 _ (by omega) (x + 1) (nI 0) rfl (by omega) hcase
                      · skip
                        refine r_aload_n (pc := 66) dX10_restsOf_66 rfl ?_
                        refine r_get1 (pc := 67) 10 34 75 dX10_restsOf_67 (fl_RX10_75 rfl) (by decide) rfl (c10_o hm) (c10_p34 hm) ?_
                        refine r_bipush (pc := 70) (v := 42) dX10_restsOf_70 (by decide) ?_
                        refine r_iload_n (pc := 72) dX10_restsOf_72 rfl ?_
                        refine r_imul_n (pc := 73) (a := 42) (b := p) dX10_restsOf_73 ?_
                        refine r_iload (pc := 74) dX10_restsOf_74 rfl ?_
                        refine r_iadd_n (pc := 76) (a := 42 * p) (b := x) dX10_restsOf_76 ?_
                        refine r_iald_n (pc := 77) (i := (42 * p) + x) dX10_restsOf_77 (c10_a34 hm) (by decide) (by omega) rfl ?_
                        refine r_aload_n (pc := 78) dX10_restsOf_78 rfl ?_
                        refine r_get1 (pc := 79) 10 34 75 dX10_restsOf_79 (fl_RX10_75 rfl) (by decide) rfl (c10_o hm) (c10_p34 hm) ?_
                        refine r_bipush (pc := 82) (v := 42) dX10_restsOf_82 (by decide) ?_
                        refine r_iload_n (pc := 84) dX10_restsOf_84 rfl ?_
                        refine r_imul_n (pc := 85) (a := 42) (b := p) dX10_restsOf_85 ?_
                        refine r_iload (pc := 86) dX10_restsOf_86 rfl ?_
                        refine r_iadd_n (pc := 88) (a := 42 * p) (b := q) dX10_restsOf_88 ?_
                        refine r_iald_n (pc := 89) (i := (42 * p) + q) dX10_restsOf_89 (c10_a34 hm) (by decide) (by omega) rfl ?_
                        refine r_icmp_gt (pc := 90) (x := I (m + 22) ((42 * p) + x)) (z := I (m + 22) ((42 * p) + q)) (tgt := 97) dX10_restsOf_90 (by decide) (fun c90 => ?_) (fun c90 => ?_)
                        · skip
                          have hcase : nI 0 = bz (¬ anB (rsX (I (m + 21)) (I (m + 22)) p q) (x + 1) = true) := bz_f (by rw [anB_s, hfa, (show rsX (I (m + 21)) (I (m + 22)) p q x = true from decide_eq_true (Or.inr c90))]; simp)
                          refine r_iconst (pc := 97) (v := 0) dX10_restsOf_97 (by decide) ?_
                          refine r_istore (pc := 98) (L' := [some (.ref m), some (.int i), some (.int (nI f2)), some (.int (nI p)), some (.int (nI q)), some (.int (nI 0)), some (.int (nI x))]) dX10_restsOf_98 (by decide) rfl rfl ?_
                          refine r_iinc (pc := 100) (v := nI (x + 1)) (L' := [some (.ref m), some (.int i), some (.int (nI f2)), some (.int (nI p)), some (.int (nI q)), some (.int (nI 0)), some (.int (nI (x + 1)))]) dX10_restsOf_100 rfl (nI_inc _) (by decide) rfl rfl ?_
                          refine r_goto (pc := 103) (tgt := 26) dX10_restsOf_103 (by decide) ?_
                          exact ih26 _ (by omega) (x + 1) (nI 0) rfl (by omega) hcase
                        · skip
                          have hcase : nI 1 = bz (¬ anB (rsX (I (m + 21)) (I (m + 22)) p q) (x + 1) = true) := bz_t (by rw [anB_s, hfa, (show rsX (I (m + 21)) (I (m + 22)) p q x = false from decide_eq_false (fun y => y.elim c63 c90))]; simp)
                          refine r_iconst (pc := 93) (v := 1) dX10_restsOf_93 (by decide) ?_
                          refine r_goto (pc := 94) (tgt := 98) dX10_restsOf_94 (by decide) ?_
                          refine r_istore (pc := 98) (L' := [some (.ref m), some (.int i), some (.int (nI f2)), some (.int (nI p)), some (.int (nI q)), some (.int (nI 1)), some (.int (nI x))]) dX10_restsOf_98 (by decide) rfl rfl ?_
                          refine r_iinc (pc := 100) (v := nI (x + 1)) (L' := [some (.ref m), some (.int i), some (.int (nI f2)), some (.int (nI p)), some (.int (nI q)), some (.int (nI 1)), some (.int (nI (x + 1)))]) dX10_restsOf_100 rfl (nI_inc _) (by decide) rfl rfl ?_
                          refine r_goto (pc := 103) (tgt := 26) dX10_restsOf_103 (by decide) ?_
                          exact ih26 _ (by omega) (x + 1) (nI 1) rfl (by omega) hcase
              exact lp26 _ 0 (nI 1) rfl (by omega) (by exact bz_t (by simp [anB]))
        exact lp13 _ 0 f rfl (by omega) hf hs
  exact lp4 _ 0 0 rfl (by omega) (by rfl) (by rfl)
