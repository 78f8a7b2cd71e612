/-! ===== the reference: chances, joining ===== -/
theorem FrZ.ch {I I2 : Im} {m z : Nat} {w g : Nat → Nat} (h : FrZ I I2 m) (hc : ChM I m z w g) : ChM I2 m z w g := ⟨(h _ _ (by omega) (by omega)).trans hc.1, hc.2.1, fun k hk => ⟨(h _ _ (by omega) (by omega)).trans (hc.2.2.1 k hk).1, (h _ _ (by omega) (by omega)).trans (hc.2.2.1 k hk).2⟩, hc.2.2.2⟩
theorem i42 {p : Nat} (h : p < 42) : 0 ≤ nI p ∧ nI p ≤ 41 := in42.mp ⟨nI_pos' (by omega), nI_lt h (by omega)⟩
theorem isAsked_v {d : Nat} {I : Im} {G : Gm} {m sz : Nat} {cw cg : Nat → Nat} (hm : isC10 G m) (hC : ChM I m sz cw cg) {p co bk z : Int32} (e : z = bz ((0 ≤ p ∧ p ≤ 41) ∧ (0 ≤ co ∧ co ≤ 41) ∧ (0 ≤ bk ∧ bk ≤ 41) ∧ 0 < sz)) : Ct (d + 3) 0 0 YX10_isAsked [.ref m, .int p, .int co, .int bk] (I, G) (qM G (fun v I2 => v = z ∧ I2 = up2 I m 0 0)) := by
  rw [e]
  exact isAsked_ct hm hC
theorem isMaker_v {d : Nat} {I : Im} {G : Gm} {m k : Nat} {E : Ec} {T : Lt} (hm : isC10 G m) (hk : MtC I m k E T) (hk10 : k ≤ 10) {b : Nat} (hb : b < 8) {p : Int32} (e : p = bz (eS E b = none)) : Ct (d + 1) 0 0 YX10_isMaker [.ref m, .int (nI k), .int (nI b)] (I, G) (qP p (I, G)) := by
  rw [e]
  exact isMaker_ct hm hk hk10 hb

set_option maxHeartbeats 300000 in
set_option maxRecDepth 100000 in
theorem expects_m {d : Nat} {I : Im} {G : Gm} {s : Sta} {m : Nat} (hm : isC10 G m) (hM : Mi s I m) {p : Int32} {c : Int32} {b : Int32} {q : Int32} : Ct (d + 4) 0 0 YX10_expects [.ref m, .int p, .int c, .int b, .int q] (I, G) (qM G (fun zv I2 => PmQ s I m (aExpects s p c b q) zv I2)) := by
  refine Ct.of (by decide) (by simp [Value.category]) (Nat.le_of_ble_eq_true rfl) ?_
  have hcn := hM.2.1
  have hcn10 := hM.2.2.1
  have hZ : FrZ I I m := FrZ.rf
  show wp _ _ _ _ 0 [some (.ref m), some (.int p), some (.int c), some (.int b), some (.int q)] [] _ _
  by_cases hz : sZ s = 0
  · skip
    refine r_aload_n (pc := 0) dX10_expects_0 rfl ?_
    refine r_iload_n (pc := 1) dX10_expects_1 rfl ?_
    refine r_iload_n (pc := 2) dX10_expects_2 rfl ?_
    refine r_iload_n (pc := 3) dX10_expects_3 rfl ?_
    refine r_callV_M (pc := 4) (b := m) (As := [.int p, .int c, .int b]) 10 299 dX10_expects_4 lk_X10_isAsked (ml_RX10_299 rfl) im_X10_isAsked se_X10_isAsked (by decide) (c10_o hm) (Nat.le_of_ble_eq_true rfl) rfl (isAsked_v (z := 0) hm hM.2.2.2.2 (bz_f (fun z => absurd z.2.2.2 (by omega)))) (fun v4 I1 h1 => ?_)
    obtain ⟨rfl, hI1⟩ := h1
    have hZ : FrZ I I1 m := by rw [hI1]; exact FrZ.rf.u (by omega)
    have hCm := hZ.ch hM.2.2.2.2
    refine r_if_eq_n (pc := 7) (a := 0) (tgt := 33) dX10_expects_7 (by decide) (by omega) (fun c7 => ?_) (fun c7 => ?_)
    · skip
      refine r_ldc (pc := 33) (v := -100000000) dX10_expects_33 (kc_RX10_226 rfl) ?_
      refine r_ret_i (pc := 35) dX10_expects_35 rfl ?_
      exact ⟨_, I1, rfl, rfl, (by unfold aExpects; rw [if_pos hz] <;> rfl), hM.z hZ, fun x j z => hZ x j (by omega) (by omega)⟩
    · exfalso; omega
  · skip
    rcases in_cases (n := 42) (by omega) p with ⟨pn, hpn, rfl, ep⟩ | ⟨ep, hnop⟩
    · skip
      rcases in_cases (n := 42) (by omega) c with ⟨cn, hcn, rfl, ec⟩ | ⟨ec, hnoc⟩
      · skip
        rcases in_cases (n := 42) (by omega) b with ⟨bn, hbn, rfl, eb⟩ | ⟨eb, hnob⟩
        · skip
          rcases in_cases (n := 61) (by omega) q with ⟨qn, hqn, rfl, eq⟩ | ⟨eq, hnoq⟩
          · skip
            refine r_aload_n (pc := 0) dX10_expects_0 rfl ?_
            refine r_iload_n (pc := 1) dX10_expects_1 rfl ?_
            refine r_iload_n (pc := 2) dX10_expects_2 rfl ?_
            refine r_iload_n (pc := 3) dX10_expects_3 rfl ?_
            refine r_callV_M (pc := 4) (b := m) (As := [.int (nI pn), .int (nI cn), .int (nI bn)]) 10 299 dX10_expects_4 lk_X10_isAsked (ml_RX10_299 rfl) im_X10_isAsked se_X10_isAsked (by decide) (c10_o hm) (Nat.le_of_ble_eq_true rfl) rfl (isAsked_v (z := 1) hm hM.2.2.2.2 (bz_t ⟨i42 hpn, i42 hcn, i42 hbn, by omega⟩)) (fun v4 I1 h1 => ?_)
            obtain ⟨rfl, hI1⟩ := h1
            have hZ : FrZ I I1 m := by rw [hI1]; exact FrZ.rf.u (by omega)
            have hCm := hZ.ch hM.2.2.2.2
            refine r_if_eq_n (pc := 7) (a := 1) (tgt := 33) dX10_expects_7 (by decide) (by omega) (fun c7 => ?_) (fun c7 => ?_)
            · exfalso; omega
            · skip
              refine r_iload (pc := 10) dX10_expects_10 rfl ?_
              refine r_iconst (pc := 12) (v := 0) dX10_expects_12 (by decide) ?_
              refine r_bipush (pc := 13) (v := 60) dX10_expects_13 (by decide) ?_
              refine r_callS_P (pc := 15) (As := [.int (nI qn), .int (nI 0), .int (nI 60)]) 123 dX10_expects_15 lk_X10_isIn (ml_RX10_123 rfl) sm_X10_isIn (Nat.le_of_ble_eq_true rfl) rfl (isIn_y (n := 60) (by omega) hqn) ?_
              refine r_if_eq_n (pc := 18) (a := 1) (tgt := 33) dX10_expects_18 (by decide) (by omega) (fun c18 => ?_) (fun c18 => ?_)
              · exfalso; omega
              · skip
                refine r_aload_n (pc := 21) dX10_expects_21 rfl ?_
                refine r_iload_n (pc := 22) dX10_expects_22 rfl ?_
                refine r_iload_n (pc := 23) dX10_expects_23 rfl ?_
                refine r_iload_n (pc := 24) dX10_expects_24 rfl ?_
                refine r_iload (pc := 25) dX10_expects_25 rfl ?_
                refine r_callV_P (pc := 27) (b := m) (As := [.int (nI pn), .int (nI cn), .int (nI bn), .int (nI qn)]) 10 302 dX10_expects_27 lk_X10_expected (ml_RX10_302 rfl) im_X10_expected se_X10_expected (by decide) (c10_o hm) (Nat.le_of_ble_eq_true rfl) rfl (expectedM_ct hm hCm (q := qn) (by omega)) ?_
                refine r_goto (pc := 30) (tgt := 35) dX10_expects_30 (by decide) ?_
                refine r_ret_i (pc := 35) dX10_expects_35 rfl ?_
                exact ⟨_, I1, rfl, rfl, (by unfold aExpects; rw [if_neg hz, atN_s ep, atN_s ec, atN_s eb, atN_s eq] <;> rfl), hM.z hZ, fun x j z => hZ x j (by omega) (by omega)⟩
          · skip
            refine r_aload_n (pc := 0) dX10_expects_0 rfl ?_
            refine r_iload_n (pc := 1) dX10_expects_1 rfl ?_
            refine r_iload_n (pc := 2) dX10_expects_2 rfl ?_
            refine r_iload_n (pc := 3) dX10_expects_3 rfl ?_
            refine r_callV_M (pc := 4) (b := m) (As := [.int (nI pn), .int (nI cn), .int (nI bn)]) 10 299 dX10_expects_4 lk_X10_isAsked (ml_RX10_299 rfl) im_X10_isAsked se_X10_isAsked (by decide) (c10_o hm) (Nat.le_of_ble_eq_true rfl) rfl (isAsked_v (z := 1) hm hM.2.2.2.2 (bz_t ⟨i42 hpn, i42 hcn, i42 hbn, by omega⟩)) (fun v4 I1 h1 => ?_)
            obtain ⟨rfl, hI1⟩ := h1
            have hZ : FrZ I I1 m := by rw [hI1]; exact FrZ.rf.u (by omega)
            have hCm := hZ.ch hM.2.2.2.2
            refine r_if_eq_n (pc := 7) (a := 1) (tgt := 33) dX10_expects_7 (by decide) (by omega) (fun c7 => ?_) (fun c7 => ?_)
            · exfalso; omega
            · skip
              refine r_iload (pc := 10) dX10_expects_10 rfl ?_
              refine r_iconst (pc := 12) (v := 0) dX10_expects_12 (by decide) ?_
              refine r_bipush (pc := 13) (v := 60) dX10_expects_13 (by decide) ?_
              refine r_callS_P (pc := 15) (As := [.int q, .int (nI 0), .int (nI 60)]) 123 dX10_expects_15 lk_X10_isIn (ml_RX10_123 rfl) sm_X10_isIn (Nat.le_of_ble_eq_true rfl) rfl (isIn_no (n := 60) (by omega) hnoq) ?_
              refine r_if_eq_n (pc := 18) (a := 0) (tgt := 33) dX10_expects_18 (by decide) (by omega) (fun c18 => ?_) (fun c18 => ?_)
              · skip
                refine r_ldc (pc := 33) (v := -100000000) dX10_expects_33 (kc_RX10_226 rfl) ?_
                refine r_ret_i (pc := 35) dX10_expects_35 rfl ?_
                exact ⟨_, I1, rfl, rfl, (by unfold aExpects; rw [if_neg hz, atN_s ep, atN_s ec, atN_s eb, atN_n eq] <;> rfl), hM.z hZ, fun x j z => hZ x j (by omega) (by omega)⟩
              · exfalso; omega
        · skip
          refine r_aload_n (pc := 0) dX10_expects_0 rfl ?_
          refine r_iload_n (pc := 1) dX10_expects_1 rfl ?_
          refine r_iload_n (pc := 2) dX10_expects_2 rfl ?_
          refine r_iload_n (pc := 3) dX10_expects_3 rfl ?_
          refine r_callV_M (pc := 4) (b := m) (As := [.int (nI pn), .int (nI cn), .int b]) 10 299 dX10_expects_4 lk_X10_isAsked (ml_RX10_299 rfl) im_X10_isAsked se_X10_isAsked (by decide) (c10_o hm) (Nat.le_of_ble_eq_true rfl) rfl (isAsked_v (z := 0) hm hM.2.2.2.2 (bz_f (fun z => hnob (in42.mpr z.2.2.1)))) (fun v4 I1 h1 => ?_)
          obtain ⟨rfl, hI1⟩ := h1
          have hZ : FrZ I I1 m := by rw [hI1]; exact FrZ.rf.u (by omega)
          have hCm := hZ.ch hM.2.2.2.2
          refine r_if_eq_n (pc := 7) (a := 0) (tgt := 33) dX10_expects_7 (by decide) (by omega) (fun c7 => ?_) (fun c7 => ?_)
          · skip
            refine r_ldc (pc := 33) (v := -100000000) dX10_expects_33 (kc_RX10_226 rfl) ?_
            refine r_ret_i (pc := 35) dX10_expects_35 rfl ?_
            exact ⟨_, I1, rfl, rfl, (by unfold aExpects; rw [if_neg hz, atN_s ep, atN_s ec, atN_n eb] <;> rfl), hM.z hZ, fun x j z => hZ x j (by omega) (by omega)⟩
          · exfalso; omega
      · skip
        refine r_aload_n (pc := 0) dX10_expects_0 rfl ?_
        refine r_iload_n (pc := 1) dX10_expects_1 rfl ?_
        refine r_iload_n (pc := 2) dX10_expects_2 rfl ?_
        refine r_iload_n (pc := 3) dX10_expects_3 rfl ?_
        refine r_callV_M (pc := 4) (b := m) (As := [.int (nI pn), .int c, .int b]) 10 299 dX10_expects_4 lk_X10_isAsked (ml_RX10_299 rfl) im_X10_isAsked se_X10_isAsked (by decide) (c10_o hm) (Nat.le_of_ble_eq_true rfl) rfl (isAsked_v (z := 0) hm hM.2.2.2.2 (bz_f (fun z => hnoc (in42.mpr z.2.1)))) (fun v4 I1 h1 => ?_)
        obtain ⟨rfl, hI1⟩ := h1
        have hZ : FrZ I I1 m := by rw [hI1]; exact FrZ.rf.u (by omega)
        have hCm := hZ.ch hM.2.2.2.2
        refine r_if_eq_n (pc := 7) (a := 0) (tgt := 33) dX10_expects_7 (by decide) (by omega) (fun c7 => ?_) (fun c7 => ?_)
        · skip
          refine r_ldc (pc := 33) (v := -100000000) dX10_expects_33 (kc_RX10_226 rfl) ?_
          refine r_ret_i (pc := 35) dX10_expects_35 rfl ?_
          exact ⟨_, I1, rfl, rfl, (by unfold aExpects; rw [if_neg hz, atN_s ep, atN_n ec] <;> rfl), hM.z hZ, fun x j z => hZ x j (by omega) (by omega)⟩
        · exfalso; omega
    · skip
      refine r_aload_n (pc := 0) dX10_expects_0 rfl ?_
      refine r_iload_n (pc := 1) dX10_expects_1 rfl ?_
      refine r_iload_n (pc := 2) dX10_expects_2 rfl ?_
      refine r_iload_n (pc := 3) dX10_expects_3 rfl ?_
      refine r_callV_M (pc := 4) (b := m) (As := [.int p, .int c, .int b]) 10 299 dX10_expects_4 lk_X10_isAsked (ml_RX10_299 rfl) im_X10_isAsked se_X10_isAsked (by decide) (c10_o hm) (Nat.le_of_ble_eq_true rfl) rfl (isAsked_v (z := 0) hm hM.2.2.2.2 (bz_f (fun z => hnop (in42.mpr z.1)))) (fun v4 I1 h1 => ?_)
      obtain ⟨rfl, hI1⟩ := h1
      have hZ : FrZ I I1 m := by rw [hI1]; exact FrZ.rf.u (by omega)
      have hCm := hZ.ch hM.2.2.2.2
      refine r_if_eq_n (pc := 7) (a := 0) (tgt := 33) dX10_expects_7 (by decide) (by omega) (fun c7 => ?_) (fun c7 => ?_)
      · skip
        refine r_ldc (pc := 33) (v := -100000000) dX10_expects_33 (kc_RX10_226 rfl) ?_
        refine r_ret_i (pc := 35) dX10_expects_35 rfl ?_
        exact ⟨_, I1, rfl, rfl, (by unfold aExpects; rw [if_neg hz, atN_n ep] <;> rfl), hM.z hZ, fun x j z => hZ x j (by omega) (by omega)⟩
      · exfalso; omega

set_option maxHeartbeats 300000 in
set_option maxRecDepth 100000 in
theorem stock_m {d : Nat} {I : Im} {G : Gm} {s : Sta} {m : Nat} (hm : isC10 G m) (hM : Mi s I m) {p : Int32} {c : Int32} {b : Int32} : Ct (d + 4) 0 0 YX10_stock [.ref m, .int p, .int c, .int b] (I, G) (qM G (fun zv I2 => PmQ s I m (aStock s p c b) zv I2)) := by
  refine Ct.of (by decide) (by simp [Value.category]) (Nat.le_of_ble_eq_true rfl) ?_
  have hcn := hM.2.1
  have hcn10 := hM.2.2.1
  have hZ : FrZ I I m := FrZ.rf
  show wp _ _ _ _ 0 [some (.ref m), some (.int p), some (.int c), some (.int b)] [] _ _
  by_cases hz : sZ s = 0
  · skip
    refine r_aload_n (pc := 0) dX10_stock_0 rfl ?_
    refine r_iload_n (pc := 1) dX10_stock_1 rfl ?_
    refine r_iload_n (pc := 2) dX10_stock_2 rfl ?_
    refine r_iload_n (pc := 3) dX10_stock_3 rfl ?_
    refine r_callV_M (pc := 4) (b := m) (As := [.int p, .int c, .int b]) 10 299 dX10_stock_4 lk_X10_isAsked (ml_RX10_299 rfl) im_X10_isAsked se_X10_isAsked (by decide) (c10_o hm) (Nat.le_of_ble_eq_true rfl) rfl (isAsked_v (z := 0) hm hM.2.2.2.2 (bz_f (fun z => absurd z.2.2.2 (by omega)))) (fun v4 I1 h1 => ?_)
    obtain ⟨rfl, hI1⟩ := h1
    have hZ : FrZ I I1 m := by rw [hI1]; exact FrZ.rf.u (by omega)
    have hCm := hZ.ch hM.2.2.2.2
    refine r_if_eq_n (pc := 7) (a := 0) (tgt := 20) dX10_stock_7 (by decide) (by omega) (fun c7 => ?_) (fun c7 => ?_)
    · skip
      refine r_iconst (pc := 20) (v := -1) dX10_stock_20 (by decide) ?_
      refine r_ret_i (pc := 21) dX10_stock_21 rfl ?_
      exact ⟨_, I1, rfl, rfl, (by unfold aStock; rw [if_pos hz] <;> rfl), hM.z hZ, fun x j z => hZ x j (by omega) (by omega)⟩
    · exfalso; omega
  · skip
    rcases in_cases (n := 42) (by omega) p with ⟨pn, hpn, rfl, ep⟩ | ⟨ep, hnop⟩
    · skip
      rcases in_cases (n := 42) (by omega) c with ⟨cn, hcn, rfl, ec⟩ | ⟨ec, hnoc⟩
      · skip
        rcases in_cases (n := 42) (by omega) b with ⟨bn, hbn, rfl, eb⟩ | ⟨eb, hnob⟩
        · skip
          refine r_aload_n (pc := 0) dX10_stock_0 rfl ?_
          refine r_iload_n (pc := 1) dX10_stock_1 rfl ?_
          refine r_iload_n (pc := 2) dX10_stock_2 rfl ?_
          refine r_iload_n (pc := 3) dX10_stock_3 rfl ?_
          refine r_callV_M (pc := 4) (b := m) (As := [.int (nI pn), .int (nI cn), .int (nI bn)]) 10 299 dX10_stock_4 lk_X10_isAsked (ml_RX10_299 rfl) im_X10_isAsked se_X10_isAsked (by decide) (c10_o hm) (Nat.le_of_ble_eq_true rfl) rfl (isAsked_v (z := 1) hm hM.2.2.2.2 (bz_t ⟨i42 hpn, i42 hcn, i42 hbn, by omega⟩)) (fun v4 I1 h1 => ?_)
          obtain ⟨rfl, hI1⟩ := h1
          have hZ : FrZ I I1 m := by rw [hI1]; exact FrZ.rf.u (by omega)
          have hCm := hZ.ch hM.2.2.2.2
          refine r_if_eq_n (pc := 7) (a := 1) (tgt := 20) dX10_stock_7 (by decide) (by omega) (fun c7 => ?_) (fun c7 => ?_)
          · exfalso; omega
          · skip
            refine r_aload_n (pc := 10) dX10_stock_10 rfl ?_
            refine r_iload_n (pc := 11) dX10_stock_11 rfl ?_
            refine r_iload_n (pc := 12) dX10_stock_12 rfl ?_
            refine r_iload_n (pc := 13) dX10_stock_13 rfl ?_
            refine r_callV_P (pc := 14) (b := m) (As := [.int (nI pn), .int (nI cn), .int (nI bn)]) 10 306 dX10_stock_14 lk_X10_bestStock (ml_RX10_306 rfl) im_X10_bestStock se_X10_bestStock (by decide) (c10_o hm) (Nat.le_of_ble_eq_true rfl) rfl (bestStockM_ct hm hCm) ?_
            refine r_goto (pc := 17) (tgt := 21) dX10_stock_17 (by decide) ?_
            refine r_ret_i (pc := 21) dX10_stock_21 rfl ?_
            exact ⟨_, I1, rfl, rfl, (by unfold aStock; rw [if_neg hz, atN_s ep, atN_s ec, atN_s eb] <;> rfl), hM.z hZ, fun x j z => hZ x j (by omega) (by omega)⟩
        · skip
          refine r_aload_n (pc := 0) dX10_stock_0 rfl ?_
          refine r_iload_n (pc := 1) dX10_stock_1 rfl ?_
          refine r_iload_n (pc := 2) dX10_stock_2 rfl ?_
          refine r_iload_n (pc := 3) dX10_stock_3 rfl ?_
          refine r_callV_M (pc := 4) (b := m) (As := [.int (nI pn), .int (nI cn), .int b]) 10 299 dX10_stock_4 lk_X10_isAsked (ml_RX10_299 rfl) im_X10_isAsked se_X10_isAsked (by decide) (c10_o hm) (Nat.le_of_ble_eq_true rfl) rfl (isAsked_v (z := 0) hm hM.2.2.2.2 (bz_f (fun z => hnob (in42.mpr z.2.2.1)))) (fun v4 I1 h1 => ?_)
          obtain ⟨rfl, hI1⟩ := h1
          have hZ : FrZ I I1 m := by rw [hI1]; exact FrZ.rf.u (by omega)
          have hCm := hZ.ch hM.2.2.2.2
          refine r_if_eq_n (pc := 7) (a := 0) (tgt := 20) dX10_stock_7 (by decide) (by omega) (fun c7 => ?_) (fun c7 => ?_)
          · skip
            refine r_iconst (pc := 20) (v := -1) dX10_stock_20 (by decide) ?_
            refine r_ret_i (pc := 21) dX10_stock_21 rfl ?_
            exact ⟨_, I1, rfl, rfl, (by unfold aStock; rw [if_neg hz, atN_s ep, atN_s ec, atN_n eb] <;> rfl), hM.z hZ, fun x j z => hZ x j (by omega) (by omega)⟩
          · exfalso; omega
      · skip
        refine r_aload_n (pc := 0) dX10_stock_0 rfl ?_
        refine r_iload_n (pc := 1) dX10_stock_1 rfl ?_
        refine r_iload_n (pc := 2) dX10_stock_2 rfl ?_
        refine r_iload_n (pc := 3) dX10_stock_3 rfl ?_
        refine r_callV_M (pc := 4) (b := m) (As := [.int (nI pn), .int c, .int b]) 10 299 dX10_stock_4 lk_X10_isAsked (ml_RX10_299 rfl) im_X10_isAsked se_X10_isAsked (by decide) (c10_o hm) (Nat.le_of_ble_eq_true rfl) rfl (isAsked_v (z := 0) hm hM.2.2.2.2 (bz_f (fun z => hnoc (in42.mpr z.2.1)))) (fun v4 I1 h1 => ?_)
        obtain ⟨rfl, hI1⟩ := h1
        have hZ : FrZ I I1 m := by rw [hI1]; exact FrZ.rf.u (by omega)
        have hCm := hZ.ch hM.2.2.2.2
        refine r_if_eq_n (pc := 7) (a := 0) (tgt := 20) dX10_stock_7 (by decide) (by omega) (fun c7 => ?_) (fun c7 => ?_)
        · skip
          refine r_iconst (pc := 20) (v := -1) dX10_stock_20 (by decide) ?_
          refine r_ret_i (pc := 21) dX10_stock_21 rfl ?_
          exact ⟨_, I1, rfl, rfl, (by unfold aStock; rw [if_neg hz, atN_s ep, atN_n ec] <;> rfl), hM.z hZ, fun x j z => hZ x j (by omega) (by omega)⟩
        · exfalso; omega
    · skip
      refine r_aload_n (pc := 0) dX10_stock_0 rfl ?_
      refine r_iload_n (pc := 1) dX10_stock_1 rfl ?_
      refine r_iload_n (pc := 2) dX10_stock_2 rfl ?_
      refine r_iload_n (pc := 3) dX10_stock_3 rfl ?_
      refine r_callV_M (pc := 4) (b := m) (As := [.int p, .int c, .int b]) 10 299 dX10_stock_4 lk_X10_isAsked (ml_RX10_299 rfl) im_X10_isAsked se_X10_isAsked (by decide) (c10_o hm) (Nat.le_of_ble_eq_true rfl) rfl (isAsked_v (z := 0) hm hM.2.2.2.2 (bz_f (fun z => hnop (in42.mpr z.1)))) (fun v4 I1 h1 => ?_)
      obtain ⟨rfl, hI1⟩ := h1
      have hZ : FrZ I I1 m := by rw [hI1]; exact FrZ.rf.u (by omega)
      have hCm := hZ.ch hM.2.2.2.2
      refine r_if_eq_n (pc := 7) (a := 0) (tgt := 20) dX10_stock_7 (by decide) (by omega) (fun c7 => ?_) (fun c7 => ?_)
      · skip
        refine r_iconst (pc := 20) (v := -1) dX10_stock_20 (by decide) ?_
        refine r_ret_i (pc := 21) dX10_stock_21 rfl ?_
        exact ⟨_, I1, rfl, rfl, (by unfold aStock; rw [if_neg hz, atN_n ep] <;> rfl), hM.z hZ, fun x j z => hZ x j (by omega) (by omega)⟩
      · exfalso; omega

set_option maxHeartbeats 300000 in
set_option maxRecDepth 100000 in
theorem seller_m {d : Nat} {I : Im} {G : Gm} {s : Sta} {m : Nat} (hm : isC10 G m) (hM : Mi s I m) {p : Int32} {c : Int32} {x : Int32} {w : Int32} : Ct (d + 4) 0 0 YX10_seller [.ref m, .int p, .int c, .int x, .int w] (I, G) (qM G (fun zv I2 => PmQ s I m (aSeller s p c x w) zv I2)) := by
  refine Ct.of (by decide) (by simp [Value.category]) (Nat.le_of_ble_eq_true rfl) ?_
  have hcn := hM.2.1
  have hcn10 := hM.2.2.1
  have hZ : FrZ I I m := FrZ.rf
  show wp _ _ _ _ 0 [some (.ref m), some (.int p), some (.int c), some (.int x), some (.int w), none, none, none, none] [] _ _
  by_cases hz : sZ s = 0
  · skip
    refine r_aload_n (pc := 0) dX10_seller_0 rfl ?_
    refine r_iload_n (pc := 1) dX10_seller_1 rfl ?_
    refine r_iload_n (pc := 2) dX10_seller_2 rfl ?_
    refine r_iload_n (pc := 3) dX10_seller_3 rfl ?_
    refine r_callV_M (pc := 4) (b := m) (As := [.int p, .int c, .int x]) 10 299 dX10_seller_4 lk_X10_isAsked (ml_RX10_299 rfl) im_X10_isAsked se_X10_isAsked (by decide) (c10_o hm) (Nat.le_of_ble_eq_true rfl) rfl (isAsked_v (z := 0) hm hM.2.2.2.2 (bz_f (fun z => absurd z.2.2.2 (by omega)))) (fun v4 I1 h1 => ?_)
    obtain ⟨rfl, hI1⟩ := h1
    have hZ : FrZ I I1 m := by rw [hI1]; exact FrZ.rf.u (by omega)
    have hCm := hZ.ch hM.2.2.2.2
    refine r_if_eq_n (pc := 7) (a := 0) (tgt := 20) dX10_seller_7 (by decide) (by omega) (fun c7 => ?_) (fun c7 => ?_)
    · skip
      refine r_ldc (pc := 20) (v := -100000000) dX10_seller_20 (kc_RX10_226 rfl) ?_
      refine r_ret_i (pc := 22) dX10_seller_22 rfl ?_
      exact ⟨_, I1, rfl, rfl, (by unfold aSeller; rw [if_pos hz] <;> rfl), hM.z hZ, fun x j z => hZ x j (by omega) (by omega)⟩
    · exfalso; omega
  · skip
    rcases in_cases (n := 42) (by omega) p with ⟨pn, hpn, rfl, ep⟩ | ⟨ep, hnop⟩
    · skip
      rcases in_cases (n := 42) (by omega) c with ⟨cn, hcn, rfl, ec⟩ | ⟨ec, hnoc⟩
      · skip
        rcases in_cases (n := 42) (by omega) x with ⟨xn, hxn, rfl, ex⟩ | ⟨ex, hnox⟩
        · skip
          rcases in_cases (n := 2) (by omega) w with ⟨wn, hwn, rfl, ew⟩ | ⟨ew, hnow⟩
          · skip
            rcases (show wn = 0 ∨ wn = 1 by omega) with rfl | rfl
            · skip
              refine r_aload_n (pc := 0) dX10_seller_0 rfl ?_
              refine r_iload_n (pc := 1) dX10_seller_1 rfl ?_
              refine r_iload_n (pc := 2) dX10_seller_2 rfl ?_
              refine r_iload_n (pc := 3) dX10_seller_3 rfl ?_
              refine r_callV_M (pc := 4) (b := m) (As := [.int (nI pn), .int (nI cn), .int (nI xn)]) 10 299 dX10_seller_4 lk_X10_isAsked (ml_RX10_299 rfl) im_X10_isAsked se_X10_isAsked (by decide) (c10_o hm) (Nat.le_of_ble_eq_true rfl) rfl (isAsked_v (z := 1) hm hM.2.2.2.2 (bz_t ⟨i42 hpn, i42 hcn, i42 hxn, by omega⟩)) (fun v4 I1 h1 => ?_)
              obtain ⟨rfl, hI1⟩ := h1
              have hZ : FrZ I I1 m := by rw [hI1]; exact FrZ.rf.u (by omega)
              have hCm := hZ.ch hM.2.2.2.2
              refine r_if_eq_n (pc := 7) (a := 1) (tgt := 20) dX10_seller_7 (by decide) (by omega) (fun c7 => ?_) (fun c7 => ?_)
              · exfalso; omega
              · skip
                refine r_iload (pc := 10) dX10_seller_10 rfl ?_
                refine r_iconst (pc := 12) (v := 0) dX10_seller_12 (by decide) ?_
                refine r_iconst (pc := 13) (v := 1) dX10_seller_13 (by decide) ?_
                refine r_callS_P (pc := 14) (As := [.int (nI 0), .int (nI 0), .int (nI 1)]) 123 dX10_seller_14 lk_X10_isIn (ml_RX10_123 rfl) sm_X10_isIn (Nat.le_of_ble_eq_true rfl) rfl (isIn_y (n := 1) (by omega) (by omega)) ?_
                refine r_if_ne_n (pc := 17) (a := 1) (tgt := 23) dX10_seller_17 (by decide) (by omega) (fun c17 => ?_) (fun c17 => ?_)
                · skip
                  refine r_iconst (pc := 23) (v := 0) dX10_seller_23 (by decide) ?_
                  refine r_istore (pc := 24) (L' := [some (.ref m), some (.int (nI pn)), some (.int (nI cn)), some (.int (nI xn)), some (.int (nI 0)), some (.int (nI 0)), none, none, none]) dX10_seller_24 (by decide) rfl rfl ?_
                  refine r_aload_n (pc := 26) dX10_seller_26 rfl ?_
                  refine r_iload_n (pc := 27) dX10_seller_27 rfl ?_
                  refine r_iload_n (pc := 28) dX10_seller_28 rfl ?_
                  refine r_iload_n (pc := 29) dX10_seller_29 rfl ?_
                  refine r_iconst (pc := 30) (v := 0) dX10_seller_30 (by decide) ?_
                  refine r_callV_P (pc := 31) (b := m) (As := [.int (nI pn), .int (nI cn), .int (nI xn), .int (nI 0)]) 10 309 dX10_seller_31 lk_X10_sellerExpects (ml_RX10_309 rfl) im_X10_sellerExpects se_X10_sellerExpects (by decide) (c10_o hm) (Nat.le_of_ble_eq_true rfl) rfl (sellerExpectsM_ct hm hCm) ?_
                  refine r_istore (pc := 34) (L' := [some (.ref m), some (.int (nI pn)), some (.int (nI cn)), some (.int (nI xn)), some (.int (nI 0)), some (.int (nI 0)), some (.int ((fun b => seA (sW s) (sV s) (sZ s) (nI pn) (nI cn) (nI xn) (nI b)) 0)), none, none]) dX10_seller_34 (by decide) rfl rfl ?_
                  refine r_iconst (pc := 36) (v := 1) dX10_seller_36 (by decide) ?_
                  refine r_istore (pc := 37) (L' := [some (.ref m), some (.int (nI pn)), some (.int (nI cn)), some (.int (nI xn)), some (.int (nI 0)), some (.int (nI 0)), some (.int ((fun b => seA (sW s) (sV s) (sZ s) (nI pn) (nI cn) (nI xn) (nI b)) 0)), some (.int (nI 1)), none]) dX10_seller_37 (by decide) rfl rfl ?_
                  have lp39 : ∀ (n39 : Nat), ∀ (b : Nat) (be : Nat), cn + 1 - b = n39 → (1 ≤ b ∧ b ≤ cn + 1) → (be = bsF (fun b => seA (sW s) (sV s) (sZ s) (nI pn) (nI cn) (nI xn) (nI b)) (b - 1)) → wp (d + 4) 0 0 YX10_seller 39 [some (.ref m), some (.int (nI pn)), some (.int (nI cn)), some (.int (nI xn)), some (.int (nI 0)), some (.int (nI be)), some (.int ((fun b => seA (sW s) (sV s) (sZ s) (nI pn) (nI cn) (nI xn) (nI b)) be)), some (.int (nI b)), none] [] (I1, G) (qM G (fun zv I2 => PmQ s I m (aSeller s (nI pn) (nI cn) (nI xn) (nI 0)) zv I2)) := by
                    intro n39
                    induction n39 using Nat.strongRecOn with
                    | ind n39 ih39 =>
                      intro b be hmu39 hb hbe
                      refine r_iload (pc := 39) dX10_seller_39 rfl ?_
                      refine r_iload_n (pc := 41) dX10_seller_41 rfl ?_
                      refine r_icmp_gt_n (pc := 42) (a := b) (b := cn) (tgt := 80) dX10_seller_42 (by decide) (by omega) (by omega) (fun c42 => ?_) (fun c42 => ?_)
                      · skip
                        refine r_iload (pc := 80) dX10_seller_80 rfl ?_
                        refine r_if_ne_n (pc := 82) (a := 0) (tgt := 90) dX10_seller_82 (by decide) (by omega) (fun c82 => ?_) (fun c82 => ?_)
                        · exfalso; omega
                        · skip
                          refine r_iload (pc := 85) dX10_seller_85 rfl ?_
                          refine r_goto (pc := 87) (tgt := 92) dX10_seller_87 (by decide) ?_
                          refine r_ret_i (pc := 92) dX10_seller_92 rfl ?_
                          exact ⟨_, I1, rfl, rfl, (by unfold aSeller; rw [if_neg hz, atN_s ep, atN_s ec, atN_s ex, atN_s ew]; rw [hbe, show b - 1 = cn by omega] <;> rfl), hM.z hZ, fun x j z => hZ x j (by omega) (by omega)⟩
                      · skip
                        obtain ⟨q0, hq0⟩ : ∃ q0, b = q0 + 1 := ⟨b - 1, by omega⟩
                        have hbu : bsF (fun b => seA (sW s) (sV s) (sZ s) (nI pn) (nI cn) (nI xn) (nI b)) (b + 1 - 1) = if (fun b => seA (sW s) (sV s) (sZ s) (nI pn) (nI cn) (nI xn) (nI b)) be < (fun b => seA (sW s) (sV s) (sZ s) (nI pn) (nI cn) (nI xn) (nI b)) b then b else be := by rw [hbe, hq0]; rfl
                        refine r_aload_n (pc := 45) dX10_seller_45 rfl ?_
                        refine r_iload_n (pc := 46) dX10_seller_46 rfl ?_
                        refine r_iload_n (pc := 47) dX10_seller_47 rfl ?_
                        refine r_iload_n (pc := 48) dX10_seller_48 rfl ?_
                        refine r_iload (pc := 49) dX10_seller_49 rfl ?_
                        refine r_callV_P (pc := 51) (b := m) (As := [.int (nI pn), .int (nI cn), .int (nI xn), .int (nI b)]) 10 309 dX10_seller_51 lk_X10_sellerExpects (ml_RX10_309 rfl) im_X10_sellerExpects se_X10_sellerExpects (by decide) (c10_o hm) (Nat.le_of_ble_eq_true rfl) rfl (sellerExpectsM_ct hm hCm) ?_
                        refine r_istore (pc := 54) (L' := [some (.ref m), some (.int (nI pn)), some (.int (nI cn)), some (.int (nI xn)), some (.int (nI 0)), some (.int (nI be)), some (.int ((fun b => seA (sW s) (sV s) (sZ s) (nI pn) (nI cn) (nI xn) (nI b)) be)), some (.int (nI b)), some (.int ((fun b => seA (sW s) (sV s) (sZ s) (nI pn) (nI cn) (nI xn) (nI b)) b))]) dX10_seller_54 (by decide) rfl rfl ?_
                        refine r_iload (pc := 56) dX10_seller_56 rfl ?_
                        refine r_iload (pc := 58) dX10_seller_58 rfl ?_
                        refine r_icmp_gt (pc := 60) (x := (fun b => seA (sW s) (sV s) (sZ s) (nI pn) (nI cn) (nI xn) (nI b)) b) (z := (fun b => seA (sW s) (sV s) (sZ s) (nI pn) (nI cn) (nI xn) (nI b)) be) (tgt := 66) dX10_seller_60 (by decide) (fun c60 => ?_) (fun c60 => ?_)
                        · skip
                          have hb1 : b = bsF (fun b => seA (sW s) (sV s) (sZ s) (nI pn) (nI cn) (nI xn) (nI b)) (b + 1 - 1) := by rw [hbu, if_pos c60]
                          refine r_iload (pc := 66) dX10_seller_66 rfl ?_
                          refine r_istore (pc := 68) (L' := [some (.ref m), some (.int (nI pn)), some (.int (nI cn)), some (.int (nI xn)), some (.int (nI 0)), some (.int (nI be)), some (.int ((fun b => seA (sW s) (sV s) (sZ s) (nI pn) (nI cn) (nI xn) (nI b)) b)), some (.int (nI b)), some (.int ((fun b => seA (sW s) (sV s) (sZ s) (nI pn) (nI cn) (nI xn) (nI b)) b))]) dX10_seller_68 (by decide) rfl rfl ?_
                          refine r_iload (pc := 70) dX10_seller_70 rfl ?_
                          refine r_istore (pc := 72) (L' := [some (.ref m), some (.int (nI pn)), some (.int (nI cn)), some (.int (nI xn)), some (.int (nI 0)), some (.int (nI b)), some (.int ((fun b => seA (sW s) (sV s) (sZ s) (nI pn) (nI cn) (nI xn) (nI b)) b)), some (.int (nI b)), some (.int ((fun b => seA (sW s) (sV s) (sZ s) (nI pn) (nI cn) (nI xn) (nI b)) b))]) dX10_seller_72 (by decide) rfl rfl ?_
                          refine r_iinc (pc := 74) (v := nI (b + 1)) (L' := [some (.ref m), some (.int (nI pn)), some (.int (nI cn)), some (.int (nI xn)), some (.int (nI 0)), some (.int (nI b)), some (.int ((fun b => seA (sW s) (sV s) (sZ s) (nI pn) (nI cn) (nI xn) (nI b)) b)), some (.int (nI (b + 1))), some (.int ((fun b => seA (sW s) (sV s) (sZ s) (nI pn) (nI cn) (nI xn) (nI b)) b))]) dX10_seller_74 rfl (nI_inc _) (by decide) rfl rfl ?_
                          refine r_goto (pc := 77) (tgt := 39) dX10_seller_77 (by decide) ?_
                          refine wp_sub [some (.ref m), some (.int (nI pn)), some (.int (nI cn)), some (.int (nI xn)), some (.int (nI 0)), some (.int (nI b)), some (.int ((fun b => seA (sW s) (sV s) (sZ s) (nI pn) (nI cn) (nI xn) (nI b)) b)), some (.int (nI (b + 1))), none] ⟨rfl, ⟨rfl, ⟨rfl, ⟨rfl, ⟨rfl, ⟨rfl, ⟨rfl, ⟨rfl, trivial⟩⟩⟩⟩⟩⟩⟩⟩ ?_
                          exact ih39 _ (by omega) (b + 1) b rfl (by omega) (by first | exact hb1 | exact hb2)
                        · skip
                          have hb2 : be = bsF (fun b => seA (sW s) (sV s) (sZ s) (nI pn) (nI cn) (nI xn) (nI b)) (b + 1 - 1) := by rw [hbu, if_neg c60]
                          refine r_goto (pc := 63) (tgt := 74) dX10_seller_63 (by decide) ?_
                          refine r_iinc (pc := 74) (v := nI (b + 1)) (L' := [some (.ref m), some (.int (nI pn)), some (.int (nI cn)), some (.int (nI xn)), some (.int (nI 0)), some (.int (nI be)), some (.int ((fun b => seA (sW s) (sV s) (sZ s) (nI pn) (nI cn) (nI xn) (nI b)) be)), some (.int (nI (b + 1))), some (.int ((fun b => seA (sW s) (sV s) (sZ s) (nI pn) (nI cn) (nI xn) (nI b)) b))]) dX10_seller_74 rfl (nI_inc _) (by decide) rfl rfl ?_
                          refine r_goto (pc := 77) (tgt := 39) dX10_seller_77 (by decide) ?_
                          refine wp_sub [some (.ref m), some (.int (nI pn)), some (.int (nI cn)), some (.int (nI xn)), some (.int (nI 0)), some (.int (nI be)), some (.int ((fun b => seA (sW s) (sV s) (sZ s) (nI pn) (nI cn) (nI xn) (nI b)) be)), some (.int (nI (b + 1))), none] ⟨rfl, ⟨rfl, ⟨rfl, ⟨rfl, ⟨rfl, ⟨rfl, ⟨rfl, ⟨rfl, trivial⟩⟩⟩⟩⟩⟩⟩⟩ ?_
                          exact ih39 _ (by omega) (b + 1) be rfl (by omega) (by first | exact hb1 | exact hb2)
                  exact lp39 _ 1 0 rfl (by omega) (by rfl)
                · exfalso; omega
            · skip
              refine r_aload_n (pc := 0) dX10_seller_0 rfl ?_
              refine r_iload_n (pc := 1) dX10_seller_1 rfl ?_
              refine r_iload_n (pc := 2) dX10_seller_2 rfl ?_
              refine r_iload_n (pc := 3) dX10_seller_3 rfl ?_
              refine r_callV_M (pc := 4) (b := m) (As := [.int (nI pn), .int (nI cn), .int (nI xn)]) 10 299 dX10_seller_4 lk_X10_isAsked (ml_RX10_299 rfl) im_X10_isAsked se_X10_isAsked (by decide) (c10_o hm) (Nat.le_of_ble_eq_true rfl) rfl (isAsked_v (z := 1) hm hM.2.2.2.2 (bz_t ⟨i42 hpn, i42 hcn, i42 hxn, by omega⟩)) (fun v4 I1 h1 => ?_)
              obtain ⟨rfl, hI1⟩ := h1
              have hZ : FrZ I I1 m := by rw [hI1]; exact FrZ.rf.u (by omega)
              have hCm := hZ.ch hM.2.2.2.2
              refine r_if_eq_n (pc := 7) (a := 1) (tgt := 20) dX10_seller_7 (by decide) (by omega) (fun c7 => ?_) (fun c7 => ?_)
              · exfalso; omega
              · skip
                refine r_iload (pc := 10) dX10_seller_10 rfl ?_
                refine r_iconst (pc := 12) (v := 0) dX10_seller_12 (by decide) ?_
                refine r_iconst (pc := 13) (v := 1) dX10_seller_13 (by decide) ?_
                refine r_callS_P (pc := 14) (As := [.int (nI 1), .int (nI 0), .int (nI 1)]) 123 dX10_seller_14 lk_X10_isIn (ml_RX10_123 rfl) sm_X10_isIn (Nat.le_of_ble_eq_true rfl) rfl (isIn_y (n := 1) (by omega) (by omega)) ?_
                refine r_if_ne_n (pc := 17) (a := 1) (tgt := 23) dX10_seller_17 (by decide) (by omega) (fun c17 => ?_) (fun c17 => ?_)
                · skip
                  refine r_iconst (pc := 23) (v := 0) dX10_seller_23 (by decide) ?_
                  refine r_istore (pc := 24) (L' := [some (.ref m), some (.int (nI pn)), some (.int (nI cn)), some (.int (nI xn)), some (.int (nI 1)), some (.int (nI 0)), none, none, none]) dX10_seller_24 (by decide) rfl rfl ?_
                  refine r_aload_n (pc := 26) dX10_seller_26 rfl ?_
                  refine r_iload_n (pc := 27) dX10_seller_27 rfl ?_
                  refine r_iload_n (pc := 28) dX10_seller_28 rfl ?_
                  refine r_iload_n (pc := 29) dX10_seller_29 rfl ?_
                  refine r_iconst (pc := 30) (v := 0) dX10_seller_30 (by decide) ?_
                  refine r_callV_P (pc := 31) (b := m) (As := [.int (nI pn), .int (nI cn), .int (nI xn), .int (nI 0)]) 10 309 dX10_seller_31 lk_X10_sellerExpects (ml_RX10_309 rfl) im_X10_sellerExpects se_X10_sellerExpects (by decide) (c10_o hm) (Nat.le_of_ble_eq_true rfl) rfl (sellerExpectsM_ct hm hCm) ?_
                  refine r_istore (pc := 34) (L' := [some (.ref m), some (.int (nI pn)), some (.int (nI cn)), some (.int (nI xn)), some (.int (nI 1)), some (.int (nI 0)), some (.int ((fun b => seA (sW s) (sV s) (sZ s) (nI pn) (nI cn) (nI xn) (nI b)) 0)), none, none]) dX10_seller_34 (by decide) rfl rfl ?_
                  refine r_iconst (pc := 36) (v := 1) dX10_seller_36 (by decide) ?_
                  refine r_istore (pc := 37) (L' := [some (.ref m), some (.int (nI pn)), some (.int (nI cn)), some (.int (nI xn)), some (.int (nI 1)), some (.int (nI 0)), some (.int ((fun b => seA (sW s) (sV s) (sZ s) (nI pn) (nI cn) (nI xn) (nI b)) 0)), some (.int (nI 1)), none]) dX10_seller_37 (by decide) rfl rfl ?_
                  have lp39 : ∀ (n39 : Nat), ∀ (b : Nat) (be : Nat), cn + 1 - b = n39 → (1 ≤ b ∧ b ≤ cn + 1) → (be = bsF (fun b => seA (sW s) (sV s) (sZ s) (nI pn) (nI cn) (nI xn) (nI b)) (b - 1)) → wp (d + 4) 0 0 YX10_seller 39 [some (.ref m), some (.int (nI pn)), some (.int (nI cn)), some (.int (nI xn)), some (.int (nI 1)), some (.int (nI be)), some (.int ((fun b => seA (sW s) (sV s) (sZ s) (nI pn) (nI cn) (nI xn) (nI b)) be)), some (.int (nI b)), none] [] (I1, G) (qM G (fun zv I2 => PmQ s I m (aSeller s (nI pn) (nI cn) (nI xn) (nI 1)) zv I2)) := by
                    intro n39
                    induction n39 using Nat.strongRecOn with
                    | ind n39 ih39 =>
                      intro b be hmu39 hb hbe
                      refine r_iload (pc := 39) dX10_seller_39 rfl ?_
                      refine r_iload_n (pc := 41) dX10_seller_41 rfl ?_
                      refine r_icmp_gt_n (pc := 42) (a := b) (b := cn) (tgt := 80) dX10_seller_42 (by decide) (by omega) (by omega) (fun c42 => ?_) (fun c42 => ?_)
                      · skip
                        refine r_iload (pc := 80) dX10_seller_80 rfl ?_
                        refine r_if_ne_n (pc := 82) (a := 1) (tgt := 90) dX10_seller_82 (by decide) (by omega) (fun c82 => ?_) (fun c82 => ?_)
                        · skip
                          refine r_iload (pc := 90) dX10_seller_90 rfl ?_
                          refine r_ret_i (pc := 92) dX10_seller_92 rfl ?_
                          exact ⟨_, I1, rfl, rfl, (by unfold aSeller; rw [if_neg hz, atN_s ep, atN_s ec, atN_s ex, atN_s ew]; rw [hbe, show b - 1 = cn by omega] <;> rfl), hM.z hZ, fun x j z => hZ x j (by omega) (by omega)⟩
                        · exfalso; omega
                      · skip
                        obtain ⟨q0, hq0⟩ : ∃ q0, b = q0 + 1 := ⟨b - 1, by omega⟩
                        have hbu : bsF (fun b => seA (sW s) (sV s) (sZ s) (nI pn) (nI cn) (nI xn) (nI b)) (b + 1 - 1) = if (fun b => seA (sW s) (sV s) (sZ s) (nI pn) (nI cn) (nI xn) (nI b)) be < (fun b => seA (sW s) (sV s) (sZ s) (nI pn) (nI cn) (nI xn) (nI b)) b then b else be := by rw [hbe, hq0]; rfl
                        refine r_aload_n (pc := 45) dX10_seller_45 rfl ?_
                        refine r_iload_n (pc := 46) dX10_seller_46 rfl ?_
                        refine r_iload_n (pc := 47) dX10_seller_47 rfl ?_
                        refine r_iload_n (pc := 48) dX10_seller_48 rfl ?_
                        refine r_iload (pc := 49) dX10_seller_49 rfl ?_
                        refine r_callV_P (pc := 51) (b := m) (As := [.int (nI pn), .int (nI cn), .int (nI xn), .int (nI b)]) 10 309 dX10_seller_51 lk_X10_sellerExpects (ml_RX10_309 rfl) im_X10_sellerExpects se_X10_sellerExpects (by decide) (c10_o hm) (Nat.le_of_ble_eq_true rfl) rfl (sellerExpectsM_ct hm hCm) ?_
                        refine r_istore (pc := 54) (L' := [some (.ref m), some (.int (nI pn)), some (.int (nI cn)), some (.int (nI xn)), some (.int (nI 1)), some (.int (nI be)), some (.int ((fun b => seA (sW s) (sV s) (sZ s) (nI pn) (nI cn) (nI xn) (nI b)) be)), some (.int (nI b)), some (.int ((fun b => seA (sW s) (sV s) (sZ s) (nI pn) (nI cn) (nI xn) (nI b)) b))]) dX10_seller_54 (by decide) rfl rfl ?_
                        refine r_iload (pc := 56) dX10_seller_56 rfl ?_
                        refine r_iload (pc := 58) dX10_seller_58 rfl ?_
                        refine r_icmp_gt (pc := 60) (x := (fun b => seA (sW s) (sV s) (sZ s) (nI pn) (nI cn) (nI xn) (nI b)) b) (z := (fun b => seA (sW s) (sV s) (sZ s) (nI pn) (nI cn) (nI xn) (nI b)) be) (tgt := 66) dX10_seller_60 (by decide) (fun c60 => ?_) (fun c60 => ?_)
                        · skip
                          have hb1 : b = bsF (fun b => seA (sW s) (sV s) (sZ s) (nI pn) (nI cn) (nI xn) (nI b)) (b + 1 - 1) := by rw [hbu, if_pos c60]
                          refine r_iload (pc := 66) dX10_seller_66 rfl ?_
                          refine r_istore (pc := 68) (L' := [some (.ref m), some (.int (nI pn)), some (.int (nI cn)), some (.int (nI xn)), some (.int (nI 1)), some (.int (nI be)), some (.int ((fun b => seA (sW s) (sV s) (sZ s) (nI pn) (nI cn) (nI xn) (nI b)) b)), some (.int (nI b)), some (.int ((fun b => seA (sW s) (sV s) (sZ s) (nI pn) (nI cn) (nI xn) (nI b)) b))]) dX10_seller_68 (by decide) rfl rfl ?_
                          refine r_iload (pc := 70) dX10_seller_70 rfl ?_
                          refine r_istore (pc := 72) (L' := [some (.ref m), some (.int (nI pn)), some (.int (nI cn)), some (.int (nI xn)), some (.int (nI 1)), some (.int (nI b)), some (.int ((fun b => seA (sW s) (sV s) (sZ s) (nI pn) (nI cn) (nI xn) (nI b)) b)), some (.int (nI b)), some (.int ((fun b => seA (sW s) (sV s) (sZ s) (nI pn) (nI cn) (nI xn) (nI b)) b))]) dX10_seller_72 (by decide) rfl rfl ?_
                          refine r_iinc (pc := 74) (v := nI (b + 1)) (L' := [some (.ref m), some (.int (nI pn)), some (.int (nI cn)), some (.int (nI xn)), some (.int (nI 1)), some (.int (nI b)), some (.int ((fun b => seA (sW s) (sV s) (sZ s) (nI pn) (nI cn) (nI xn) (nI b)) b)), some (.int (nI (b + 1))), some (.int ((fun b => seA (sW s) (sV s) (sZ s) (nI pn) (nI cn) (nI xn) (nI b)) b))]) dX10_seller_74 rfl (nI_inc _) (by decide) rfl rfl ?_
                          refine r_goto (pc := 77) (tgt := 39) dX10_seller_77 (by decide) ?_
                          refine wp_sub [some (.ref m), some (.int (nI pn)), some (.int (nI cn)), some (.int (nI xn)), some (.int (nI 1)), some (.int (nI b)), some (.int ((fun b => seA (sW s) (sV s) (sZ s) (nI pn) (nI cn) (nI xn) (nI b)) b)), some (.int (nI (b + 1))), none] ⟨rfl, ⟨rfl, ⟨rfl, ⟨rfl, ⟨rfl, ⟨rfl, ⟨rfl, ⟨rfl, trivial⟩⟩⟩⟩⟩⟩⟩⟩ ?_
                          exact ih39 _ (by omega) (b + 1) b rfl (by omega) (by first | exact hb1 | exact hb2)
                        · skip
                          have hb2 : be = bsF (fun b => seA (sW s) (sV s) (sZ s) (nI pn) (nI cn) (nI xn) (nI b)) (b + 1 - 1) := by rw [hbu, if_neg c60]
                          refine r_goto (pc := 63) (tgt := 74) dX10_seller_63 (by decide) ?_
                          refine r_iinc (pc := 74) (v := nI (b + 1)) (L' := [some (.ref m), some (.int (nI pn)), some (.int (nI cn)), some (.int (nI xn)), some (.int (nI 1)), some (.int (nI be)), some (.int ((fun b => seA (sW s) (sV s) (sZ s) (nI pn) (nI cn) (nI xn) (nI b)) be)), some (.int (nI (b + 1))), some (.int ((fun b => seA (sW s) (sV s) (sZ s) (nI pn) (nI cn) (nI xn) (nI b)) b))]) dX10_seller_74 rfl (nI_inc _) (by decide) rfl rfl ?_
                          refine r_goto (pc := 77) (tgt := 39) dX10_seller_77 (by decide) ?_
                          refine wp_sub [some (.ref m), some (.int (nI pn)), some (.int (nI cn)), some (.int (nI xn)), some (.int (nI 1)), some (.int (nI be)), some (.int ((fun b => seA (sW s) (sV s) (sZ s) (nI pn) (nI cn) (nI xn) (nI b)) be)), some (.int (nI (b + 1))), none] ⟨rfl, ⟨rfl, ⟨rfl, ⟨rfl, ⟨rfl, ⟨rfl, ⟨rfl, ⟨rfl, trivial⟩⟩⟩⟩⟩⟩⟩⟩ ?_
                          exact ih39 _ (by omega) (b + 1) be rfl (by omega) (by first | exact hb1 | exact hb2)
                  exact lp39 _ 1 0 rfl (by omega) (by rfl)
                · exfalso; omega
          · skip
            refine r_aload_n (pc := 0) dX10_seller_0 rfl ?_
            refine r_iload_n (pc := 1) dX10_seller_1 rfl ?_
            refine r_iload_n (pc := 2) dX10_seller_2 rfl ?_
            refine r_iload_n (pc := 3) dX10_seller_3 rfl ?_
            refine r_callV_M (pc := 4) (b := m) (As := [.int (nI pn), .int (nI cn), .int (nI xn)]) 10 299 dX10_seller_4 lk_X10_isAsked (ml_RX10_299 rfl) im_X10_isAsked se_X10_isAsked (by decide) (c10_o hm) (Nat.le_of_ble_eq_true rfl) rfl (isAsked_v (z := 1) hm hM.2.2.2.2 (bz_t ⟨i42 hpn, i42 hcn, i42 hxn, by omega⟩)) (fun v4 I1 h1 => ?_)
            obtain ⟨rfl, hI1⟩ := h1
            have hZ : FrZ I I1 m := by rw [hI1]; exact FrZ.rf.u (by omega)
            have hCm := hZ.ch hM.2.2.2.2
            refine r_if_eq_n (pc := 7) (a := 1) (tgt := 20) dX10_seller_7 (by decide) (by omega) (fun c7 => ?_) (fun c7 => ?_)
            · exfalso; omega
            · skip
              refine r_iload (pc := 10) dX10_seller_10 rfl ?_
              refine r_iconst (pc := 12) (v := 0) dX10_seller_12 (by decide) ?_
              refine r_iconst (pc := 13) (v := 1) dX10_seller_13 (by decide) ?_
              refine r_callS_P (pc := 14) (As := [.int w, .int (nI 0), .int (nI 1)]) 123 dX10_seller_14 lk_X10_isIn (ml_RX10_123 rfl) sm_X10_isIn (Nat.le_of_ble_eq_true rfl) rfl (isIn_no (n := 1) (by omega) hnow) ?_
              refine r_if_ne_n (pc := 17) (a := 0) (tgt := 23) dX10_seller_17 (by decide) (by omega) (fun c17 => ?_) (fun c17 => ?_)
              · exfalso; omega
              · skip
                refine r_ldc (pc := 20) (v := -100000000) dX10_seller_20 (kc_RX10_226 rfl) ?_
                refine r_ret_i (pc := 22) dX10_seller_22 rfl ?_
                exact ⟨_, I1, rfl, rfl, (by unfold aSeller; rw [if_neg hz, atN_s ep, atN_s ec, atN_s ex, atN_n ew] <;> rfl), hM.z hZ, fun x j z => hZ x j (by omega) (by omega)⟩
        · skip
          refine r_aload_n (pc := 0) dX10_seller_0 rfl ?_
          refine r_iload_n (pc := 1) dX10_seller_1 rfl ?_
          refine r_iload_n (pc := 2) dX10_seller_2 rfl ?_
          refine r_iload_n (pc := 3) dX10_seller_3 rfl ?_
          refine r_callV_M (pc := 4) (b := m) (As := [.int (nI pn), .int (nI cn), .int x]) 10 299 dX10_seller_4 lk_X10_isAsked (ml_RX10_299 rfl) im_X10_isAsked se_X10_isAsked (by decide) (c10_o hm) (Nat.le_of_ble_eq_true rfl) rfl (isAsked_v (z := 0) hm hM.2.2.2.2 (bz_f (fun z => hnox (in42.mpr z.2.2.1)))) (fun v4 I1 h1 => ?_)
          obtain ⟨rfl, hI1⟩ := h1
          have hZ : FrZ I I1 m := by rw [hI1]; exact FrZ.rf.u (by omega)
          have hCm := hZ.ch hM.2.2.2.2
          refine r_if_eq_n (pc := 7) (a := 0) (tgt := 20) dX10_seller_7 (by decide) (by omega) (fun c7 => ?_) (fun c7 => ?_)
          · skip
            refine r_ldc (pc := 20) (v := -100000000) dX10_seller_20 (kc_RX10_226 rfl) ?_
            refine r_ret_i (pc := 22) dX10_seller_22 rfl ?_
            exact ⟨_, I1, rfl, rfl, (by unfold aSeller; rw [if_neg hz, atN_s ep, atN_s ec, atN_n ex] <;> rfl), hM.z hZ, fun x j z => hZ x j (by omega) (by omega)⟩
          · exfalso; omega
      · skip
        refine r_aload_n (pc := 0) dX10_seller_0 rfl ?_
        refine r_iload_n (pc := 1) dX10_seller_1 rfl ?_
        refine r_iload_n (pc := 2) dX10_seller_2 rfl ?_
        refine r_iload_n (pc := 3) dX10_seller_3 rfl ?_
        refine r_callV_M (pc := 4) (b := m) (As := [.int (nI pn), .int c, .int x]) 10 299 dX10_seller_4 lk_X10_isAsked (ml_RX10_299 rfl) im_X10_isAsked se_X10_isAsked (by decide) (c10_o hm) (Nat.le_of_ble_eq_true rfl) rfl (isAsked_v (z := 0) hm hM.2.2.2.2 (bz_f (fun z => hnoc (in42.mpr z.2.1)))) (fun v4 I1 h1 => ?_)
        obtain ⟨rfl, hI1⟩ := h1
        have hZ : FrZ I I1 m := by rw [hI1]; exact FrZ.rf.u (by omega)
        have hCm := hZ.ch hM.2.2.2.2
        refine r_if_eq_n (pc := 7) (a := 0) (tgt := 20) dX10_seller_7 (by decide) (by omega) (fun c7 => ?_) (fun c7 => ?_)
        · skip
          refine r_ldc (pc := 20) (v := -100000000) dX10_seller_20 (kc_RX10_226 rfl) ?_
          refine r_ret_i (pc := 22) dX10_seller_22 rfl ?_
          exact ⟨_, I1, rfl, rfl, (by unfold aSeller; rw [if_neg hz, atN_s ep, atN_n ec] <;> rfl), hM.z hZ, fun x j z => hZ x j (by omega) (by omega)⟩
        · exfalso; omega
    · skip
      refine r_aload_n (pc := 0) dX10_seller_0 rfl ?_
      refine r_iload_n (pc := 1) dX10_seller_1 rfl ?_
      refine r_iload_n (pc := 2) dX10_seller_2 rfl ?_
      refine r_iload_n (pc := 3) dX10_seller_3 rfl ?_
      refine r_callV_M (pc := 4) (b := m) (As := [.int p, .int c, .int x]) 10 299 dX10_seller_4 lk_X10_isAsked (ml_RX10_299 rfl) im_X10_isAsked se_X10_isAsked (by decide) (c10_o hm) (Nat.le_of_ble_eq_true rfl) rfl (isAsked_v (z := 0) hm hM.2.2.2.2 (bz_f (fun z => hnop (in42.mpr z.1)))) (fun v4 I1 h1 => ?_)
      obtain ⟨rfl, hI1⟩ := h1
      have hZ : FrZ I I1 m := by rw [hI1]; exact FrZ.rf.u (by omega)
      have hCm := hZ.ch hM.2.2.2.2
      refine r_if_eq_n (pc := 7) (a := 0) (tgt := 20) dX10_seller_7 (by decide) (by omega) (fun c7 => ?_) (fun c7 => ?_)
      · skip
        refine r_ldc (pc := 20) (v := -100000000) dX10_seller_20 (kc_RX10_226 rfl) ?_
        refine r_ret_i (pc := 22) dX10_seller_22 rfl ?_
        exact ⟨_, I1, rfl, rfl, (by unfold aSeller; rw [if_neg hz, atN_n ep] <;> rfl), hM.z hZ, fun x j z => hZ x j (by omega) (by omega)⟩
      · exfalso; omega

set_option maxHeartbeats 300000 in
set_option maxRecDepth 100000 in
theorem count_m {d : Nat} {I : Im} {G : Gm} {s : Sta} {m : Nat} (hm : isC10 G m) (hM : Mi s I m) {w : Int32} : Ct (d + 1) 0 0 YX10_count [.ref m, .int w] (I, G) (qM G (fun zv I2 => PmQ s I m (aCount s w) zv I2)) := by
  refine Ct.of (by decide) (by simp [Value.category]) (Nat.le_of_ble_eq_true rfl) ?_
  have hcn := hM.2.1
  have hcn10 := hM.2.2.1
  have hZ : FrZ I I m := FrZ.rf
  show wp _ _ _ _ 0 [some (.ref m), some (.int w)] [] _ _
  rcases in_cases (n := 3) (by omega) w with ⟨wn, hwn, rfl, ew⟩ | ⟨ew, hnow⟩
  · skip
    rcases (show wn = 0 ∨ wn = 1 ∨ wn = 2 by omega) with rfl | rfl | rfl
    · skip
      refine r_aload_n (pc := 0) dX10_count_0 rfl ?_
      refine r_iconst (pc := 1) (v := 0) dX10_count_1 (by decide) ?_
      refine r_putI (pc := 2) (v := nI 0) 10 0 84 dX10_count_2 (fl_RX10_84 rfl) (by decide) rfl rfl (c10_o hm) ?_
      obtain ⟨Ia, hIa⟩ : ∃ zz0 : Im, zz0 = up2 I m 0 (nI 0) := ⟨_, rfl⟩
      refine wp_M (M2 := (Ia, G)) (by subst hIa; rfl) ?_
      have hZ : FrZ I Ia m := by rw [hIa]; exact FrZ.rf.u (by omega)
      refine r_iload_n (pc := 5) dX10_count_5 rfl ?_
      refine r_tblIn (pc := 6) (x := nI 0) (off := 26) (tgt := 32) dX10_count_6 (by decide) (by decide) (by decide) (by decide) ?_
      refine r_aload_n (pc := 32) dX10_count_32 rfl ?_
      refine r_getIv (pc := 33) 10 20 139 dX10_count_33 (fl_RX10_139 rfl) (by decide) rfl (c10_o hm) (v := nI (sN s)) (hZ.c hcn) ?_
      refine r_ret_i (pc := 36) dX10_count_36 rfl ?_
      exact ⟨_, Ia, rfl, rfl, (by unfold aCount; rw [atN_s ew] <;> rfl), hM.z hZ, fun x j z => hZ x j (by omega) (by omega)⟩
    · skip
      refine r_aload_n (pc := 0) dX10_count_0 rfl ?_
      refine r_iconst (pc := 1) (v := 0) dX10_count_1 (by decide) ?_
      refine r_putI (pc := 2) (v := nI 0) 10 0 84 dX10_count_2 (fl_RX10_84 rfl) (by decide) rfl rfl (c10_o hm) ?_
      obtain ⟨Ia, hIa⟩ : ∃ zz0 : Im, zz0 = up2 I m 0 (nI 0) := ⟨_, rfl⟩
      refine wp_M (M2 := (Ia, G)) (by subst hIa; rfl) ?_
      have hZ : FrZ I Ia m := by rw [hIa]; exact FrZ.rf.u (by omega)
      refine r_iload_n (pc := 5) dX10_count_5 rfl ?_
      refine r_tblIn (pc := 6) (x := nI 1) (off := 31) (tgt := 37) dX10_count_6 (by decide) (by decide) (by decide) (by decide) ?_
      refine r_aload_n (pc := 37) dX10_count_37 rfl ?_
      refine r_getIv (pc := 38) 10 37 296 dX10_count_38 (fl_RX10_296 rfl) (by decide) rfl (c10_o hm) (v := nI (sZ s)) ((hZ _ _ (by omega) (by omega)).trans hM.2.2.2.2.1) ?_
      refine r_ret_i (pc := 41) dX10_count_41 rfl ?_
      exact ⟨_, Ia, rfl, rfl, (by unfold aCount; rw [atN_s ew] <;> rfl), hM.z hZ, fun x j z => hZ x j (by omega) (by omega)⟩
    · skip
      refine r_aload_n (pc := 0) dX10_count_0 rfl ?_
      refine r_iconst (pc := 1) (v := 0) dX10_count_1 (by decide) ?_
      refine r_putI (pc := 2) (v := nI 0) 10 0 84 dX10_count_2 (fl_RX10_84 rfl) (by decide) rfl rfl (c10_o hm) ?_
      obtain ⟨Ia, hIa⟩ : ∃ zz0 : Im, zz0 = up2 I m 0 (nI 0) := ⟨_, rfl⟩
      refine wp_M (M2 := (Ia, G)) (by subst hIa; rfl) ?_
      have hZ : FrZ I Ia m := by rw [hIa]; exact FrZ.rf.u (by omega)
      refine r_iload_n (pc := 5) dX10_count_5 rfl ?_
      refine r_tblIn (pc := 6) (x := nI 2) (off := 36) (tgt := 42) dX10_count_6 (by decide) (by decide) (by decide) (by decide) ?_
      refine r_aload_n (pc := 42) dX10_count_42 rfl ?_
      refine r_getIv (pc := 43) 10 2 88 dX10_count_43 (fl_RX10_88 rfl) (by decide) rfl (c10_o hm) (v := nI ((sT s).1)) ((hZ _ _ (by omega) (by omega)).trans hM.1.1) ?_
      refine r_ret_i (pc := 46) dX10_count_46 rfl ?_
      exact ⟨_, Ia, rfl, rfl, (by unfold aCount; rw [atN_s ew] <;> rfl), hM.z hZ, fun x j z => hZ x j (by omega) (by omega)⟩
  · skip
    refine r_aload_n (pc := 0) dX10_count_0 rfl ?_
    refine r_iconst (pc := 1) (v := 0) dX10_count_1 (by decide) ?_
    refine r_putI (pc := 2) (v := nI 0) 10 0 84 dX10_count_2 (fl_RX10_84 rfl) (by decide) rfl rfl (c10_o hm) ?_
    obtain ⟨Ia, hIa⟩ : ∃ zz0 : Im, zz0 = up2 I m 0 (nI 0) := ⟨_, rfl⟩
    refine wp_M (M2 := (Ia, G)) (by subst hIa; rfl) ?_
    have hZ : FrZ I Ia m := by rw [hIa]; exact FrZ.rf.u (by omega)
    refine r_iload_n (pc := 5) dX10_count_5 rfl ?_
    refine r_tblOut (pc := 6) (x := w) (tgt := 47) dX10_count_6 (out3 hnow) (by decide) ?_
    refine r_iconst (pc := 47) (v := -1) dX10_count_47 (by decide) ?_
    refine r_ret_i (pc := 48) dX10_count_48 rfl ?_
    exact ⟨_, Ia, rfl, rfl, (by unfold aCount; rw [atN_n ew] <;> rfl), hM.z hZ, fun x j z => hZ x j (by omega) (by omega)⟩

set_option maxHeartbeats 300000 in
set_option maxRecDepth 100000 in
theorem rather_m {d : Nat} {I : Im} {G : Gm} {s : Sta} {m : Nat} (hm : isC10 G m) (hM : Mi s I m) {t : Int32} {h : Int32} : Ct (d + 47) 0 0 YX10_rather [.ref m, .int t, .int h] (I, G) (qM G (fun zv I2 => PmQ s I m (aRather s t h) zv I2)) := by
  refine Ct.of (by decide) (by simp [Value.category]) (Nat.le_of_ble_eq_true rfl) ?_
  have hcn := hM.2.1
  have hcn10 := hM.2.2.1
  have hZ : FrZ I I m := FrZ.rf
  show wp _ _ _ _ 0 [some (.ref m), some (.int t), some (.int h)] [] _ _
  rcases in_cases (n := sN s) (by have := hcn10; omega) t with ⟨k, hk, rfl, et⟩ | ⟨et, hnot⟩
  · skip
    obtain ⟨hok, hMd⟩ := hM.2.2.2.1 k hk
    have hk0 : MtC I m k (eK' s k) (dT (dK s k)) := mtc_of hok.1 hMd.1 _
    have hn8 : dN (dK s k) ≤ 8 := hok.1.1.2
    have hE : SrC (eK' s k) := src_of hok.1 _
    have hW : WbC (eK' s k) := wbc_of hok.1 _
    have hc30 : ∀ b, dC (dK s k) b ≤ 30 := hok.1.2.1
    rcases in_cases (n := dN (dK s k)) (by have := hn8; omega) h with ⟨hn, hhn, rfl, eh⟩ | ⟨eh, hnoh⟩
    · skip
      by_cases hz : dS (dK s k) hn = none
      · skip
        refine r_aload_n (pc := 0) dX10_rather_0 rfl ?_
        refine r_iconst (pc := 1) (v := 0) dX10_rather_1 (by decide) ?_
        refine r_putI (pc := 2) (v := nI 0) 10 0 84 dX10_rather_2 (fl_RX10_84 rfl) (by decide) rfl rfl (c10_o hm) ?_
        obtain ⟨Ia, hIa⟩ : ∃ zz0 : Im, zz0 = up2 I m 0 (nI 0) := ⟨_, rfl⟩
        refine wp_M (M2 := (Ia, G)) (by subst hIa; rfl) ?_
        have hZ : FrZ I Ia m := by rw [hIa]; exact FrZ.rf.u (by omega)
        refine r_aload_n (pc := 5) dX10_rather_5 rfl ?_
        refine r_iload_n (pc := 6) dX10_rather_6 rfl ?_
        refine r_iload_n (pc := 7) dX10_rather_7 rfl ?_
        refine r_callV_P (pc := 8) (b := m) (As := [.int (nI k), .int (nI hn)]) 10 154 dX10_rather_8 lk_X10_isHouse (ml_RX10_154 rfl) im_X10_isHouse se_X10_isHouse (by decide) (c10_o hm) (Nat.le_of_ble_eq_true rfl) rfl (isHouse_ct hm (hZ.mt hk0) (by omega) (hZ.c hcn) hcn10 hk hhn) ?_
        refine r_if_eq_n (pc := 11) (a := 1) (tgt := 37) dX10_rather_11 (by decide) (by omega) (fun c11 => ?_) (fun c11 => ?_)
        · exfalso; omega
        · skip
          refine r_aload_n (pc := 14) dX10_rather_14 rfl ?_
          refine r_iload_n (pc := 15) dX10_rather_15 rfl ?_
          refine r_iload_n (pc := 16) dX10_rather_16 rfl ?_
          refine r_callV_P (pc := 17) (b := m) (As := [.int (nI k), .int (nI hn)]) 10 274 dX10_rather_17 lk_X10_isMaker (ml_RX10_274 rfl) im_X10_isMaker se_X10_isMaker (by decide) (c10_o hm) (Nat.le_of_ble_eq_true rfl) rfl (isMaker_v (p := 1) hm (hZ.mt hk0) (by omega) (b := hn) (by omega) (bz_t hz)) ?_
          refine r_if_ne_n (pc := 20) (a := 1) (tgt := 37) dX10_rather_20 (by decide) (by omega) (fun c20 => ?_) (fun c20 => ?_)
          · skip
            refine r_ldc (pc := 37) (v := -100000000) dX10_rather_37 (kc_RX10_226 rfl) ?_
            refine r_goto (pc := 39) (tgt := 54) dX10_rather_39 (by decide) ?_
            refine r_ret_i (pc := 54) dX10_rather_54 rfl ?_
            exact ⟨_, Ia, rfl, rfl, (by unfold aRather; rw [atN_s et, atN_s eh, if_pos hz] <;> rfl), hM.z hZ, fun x j z => hZ x j (by omega) (by omega)⟩
          · exfalso; omega
      · skip
        refine r_aload_n (pc := 0) dX10_rather_0 rfl ?_
        refine r_iconst (pc := 1) (v := 0) dX10_rather_1 (by decide) ?_
        refine r_putI (pc := 2) (v := nI 0) 10 0 84 dX10_rather_2 (fl_RX10_84 rfl) (by decide) rfl rfl (c10_o hm) ?_
        obtain ⟨Ia, hIa⟩ : ∃ zz0 : Im, zz0 = up2 I m 0 (nI 0) := ⟨_, rfl⟩
        refine wp_M (M2 := (Ia, G)) (by subst hIa; rfl) ?_
        have hZ : FrZ I Ia m := by rw [hIa]; exact FrZ.rf.u (by omega)
        refine r_aload_n (pc := 5) dX10_rather_5 rfl ?_
        refine r_iload_n (pc := 6) dX10_rather_6 rfl ?_
        refine r_iload_n (pc := 7) dX10_rather_7 rfl ?_
        refine r_callV_P (pc := 8) (b := m) (As := [.int (nI k), .int (nI hn)]) 10 154 dX10_rather_8 lk_X10_isHouse (ml_RX10_154 rfl) im_X10_isHouse se_X10_isHouse (by decide) (c10_o hm) (Nat.le_of_ble_eq_true rfl) rfl (isHouse_ct hm (hZ.mt hk0) (by omega) (hZ.c hcn) hcn10 hk hhn) ?_
        refine r_if_eq_n (pc := 11) (a := 1) (tgt := 37) dX10_rather_11 (by decide) (by omega) (fun c11 => ?_) (fun c11 => ?_)
        · exfalso; omega
        · skip
          refine r_aload_n (pc := 14) dX10_rather_14 rfl ?_
          refine r_iload_n (pc := 15) dX10_rather_15 rfl ?_
          refine r_iload_n (pc := 16) dX10_rather_16 rfl ?_
          refine r_callV_P (pc := 17) (b := m) (As := [.int (nI k), .int (nI hn)]) 10 274 dX10_rather_17 lk_X10_isMaker (ml_RX10_274 rfl) im_X10_isMaker se_X10_isMaker (by decide) (c10_o hm) (Nat.le_of_ble_eq_true rfl) rfl (isMaker_v (p := 0) hm (hZ.mt hk0) (by omega) (b := hn) (by omega) (bz_f hz)) ?_
          refine r_if_ne_n (pc := 20) (a := 0) (tgt := 37) dX10_rather_20 (by decide) (by omega) (fun c20 => ?_) (fun c20 => ?_)
          · exfalso; omega
          · skip
            refine r_aload_n (pc := 23) dX10_rather_23 rfl ?_
            refine r_get1 (pc := 24) 10 14 38 dX10_rather_24 (fl_RX10_38 rfl) (by decide) rfl (c10_o hm) (c10_p14 hm) ?_
            refine r_iload_n (pc := 27) dX10_rather_27 rfl ?_
            refine r_iald_n (pc := 28) (i := k) dX10_rather_28 (c10_a14 hm) (by decide) (by omega) (v := (tdT (sD s k)).1) ((hZ.tm hMd.2.1).1) ?_
            refine r_iload_n (pc := 29) dX10_rather_29 rfl ?_
            refine r_ishr (pc := 30) (x := (tdT (sD s k)).1) (z := nI hn) dX10_rather_30 ?_
            refine r_iconst (pc := 31) (v := 1) dX10_rather_31 (by decide) ?_
            refine r_iand (pc := 32) (x := ((tdT (sD s k)).1) >>> ((nI hn) &&& 31)) (z := 1) dX10_rather_32 ?_
            refine r_iconst (pc := 33) (v := 1) dX10_rather_33 (by decide) ?_
            refine r_icmp_ne (pc := 34) (x := (((tdT (sD s k)).1) >>> ((nI hn) &&& 31)) &&& 1) (z := 1) (tgt := 42) dX10_rather_34 (by decide) (fun c34 => ?_) (fun c34 => ?_)
            · skip
              have hnj : ¬ jn (tdT (sD s k)).1 (nI hn) := fun z => c34 ((and_one _).resolve_left z)
              obtain ⟨a, hza⟩ : ∃ a, dS (dK s k) hn = some a := (by cases hq : dS (dK s k) hn with | none => exact absurd hq hz | some a => exact ⟨a, rfl⟩)
              refine r_aload_n (pc := 42) dX10_rather_42 rfl ?_
              refine r_iload_n (pc := 43) dX10_rather_43 rfl ?_
              refine r_aload_n (pc := 44) dX10_rather_44 rfl ?_
              refine r_get1 (pc := 45) 10 14 38 dX10_rather_45 (fl_RX10_38 rfl) (by decide) rfl (c10_o hm) (c10_p14 hm) ?_
              refine r_iload_n (pc := 48) dX10_rather_48 rfl ?_
              refine r_iald_n (pc := 49) (i := k) dX10_rather_49 (c10_a14 hm) (by decide) (by omega) (v := (tdT (sD s k)).1) ((hZ.tm hMd.2.1).1) ?_
              refine r_iload_n (pc := 50) dX10_rather_50 rfl ?_
              refine r_callV_M (pc := 51) (b := m) (As := [.int (nI k), .int ((tdT (sD s k)).1), .int (nI hn)]) 10 318 dX10_rather_51 lk_X10_ratherBy (ml_RX10_318 rfl) im_X10_ratherBy se_X10_ratherBy (by decide) (c10_o hm) (Nat.le_of_ble_eq_true rfl) rfl (ratherBy_ct (d := d) hm (hZ.mt hk0) (hZ.c hcn) hcn10 hk hc30 (by omega) hW (hZ.tm hMd.2.1) hhn hza hnj) (fun v51 I1 h1 => ?_)
              obtain ⟨rfl, hF1⟩ := h1
              have hZ : FrZ I I1 m := hZ.tr hF1.z
              refine r_ret_i (pc := 54) dX10_rather_54 rfl ?_
              exact ⟨_, I1, rfl, rfl, (by unfold aRather; rw [atN_s et, atN_s eh, if_neg hz, if_neg hnj]), hM.z hZ, fun x j z => hZ x j (by omega) (by omega)⟩
            · skip
              refine r_ldc (pc := 37) (v := -100000000) dX10_rather_37 (kc_RX10_226 rfl) ?_
              refine r_goto (pc := 39) (tgt := 54) dX10_rather_39 (by decide) ?_
              refine r_ret_i (pc := 54) dX10_rather_54 rfl ?_
              exact ⟨_, Ia, rfl, rfl, (by unfold aRather; rw [atN_s et, atN_s eh, if_neg hz, if_pos (show jn (tdT (sD s k)).1 (nI hn) from fun z => absurd (z.symm.trans c34) (by decide))]), hM.z hZ, fun x j z => hZ x j (by omega) (by omega)⟩
    · skip
      refine r_aload_n (pc := 0) dX10_rather_0 rfl ?_
      refine r_iconst (pc := 1) (v := 0) dX10_rather_1 (by decide) ?_
      refine r_putI (pc := 2) (v := nI 0) 10 0 84 dX10_rather_2 (fl_RX10_84 rfl) (by decide) rfl rfl (c10_o hm) ?_
      obtain ⟨Ia, hIa⟩ : ∃ zz0 : Im, zz0 = up2 I m 0 (nI 0) := ⟨_, rfl⟩
      refine wp_M (M2 := (Ia, G)) (by subst hIa; rfl) ?_
      have hZ : FrZ I Ia m := by rw [hIa]; exact FrZ.rf.u (by omega)
      refine r_aload_n (pc := 5) dX10_rather_5 rfl ?_
      refine r_iload_n (pc := 6) dX10_rather_6 rfl ?_
      refine r_iload_n (pc := 7) dX10_rather_7 rfl ?_
      refine r_callV_P (pc := 8) (b := m) (As := [.int (nI k), .int h]) 10 154 dX10_rather_8 lk_X10_isHouse (ml_RX10_154 rfl) im_X10_isHouse se_X10_isHouse (by decide) (c10_o hm) (Nat.le_of_ble_eq_true rfl) rfl (isHouse_no hm (hZ.mt hk0) (hZ.c hcn) hcn10 hk hnoh) ?_
      refine r_if_eq_n (pc := 11) (a := 0) (tgt := 37) dX10_rather_11 (by decide) (by omega) (fun c11 => ?_) (fun c11 => ?_)
      · skip
        refine r_ldc (pc := 37) (v := -100000000) dX10_rather_37 (kc_RX10_226 rfl) ?_
        refine r_goto (pc := 39) (tgt := 54) dX10_rather_39 (by decide) ?_
        refine r_ret_i (pc := 54) dX10_rather_54 rfl ?_
        exact ⟨_, Ia, rfl, rfl, (by unfold aRather; rw [atN_s et, atN_n eh] <;> rfl), hM.z hZ, fun x j z => hZ x j (by omega) (by omega)⟩
      · exfalso; omega
  · skip
    refine r_aload_n (pc := 0) dX10_rather_0 rfl ?_
    refine r_iconst (pc := 1) (v := 0) dX10_rather_1 (by decide) ?_
    refine r_putI (pc := 2) (v := nI 0) 10 0 84 dX10_rather_2 (fl_RX10_84 rfl) (by decide) rfl rfl (c10_o hm) ?_
    obtain ⟨Ia, hIa⟩ : ∃ zz0 : Im, zz0 = up2 I m 0 (nI 0) := ⟨_, rfl⟩
    refine wp_M (M2 := (Ia, G)) (by subst hIa; rfl) ?_
    have hZ : FrZ I Ia m := by rw [hIa]; exact FrZ.rf.u (by omega)
    refine r_aload_n (pc := 5) dX10_rather_5 rfl ?_
    refine r_iload_n (pc := 6) dX10_rather_6 rfl ?_
    refine r_iload_n (pc := 7) dX10_rather_7 rfl ?_
    refine r_callV_P (pc := 8) (b := m) (As := [.int t, .int h]) 10 154 dX10_rather_8 lk_X10_isHouse (ml_RX10_154 rfl) im_X10_isHouse se_X10_isHouse (by decide) (c10_o hm) (Nat.le_of_ble_eq_true rfl) rfl (isHouse_nt hm (by rw [(hZ.c hcn)]; exact hnot)) ?_
    refine r_if_eq_n (pc := 11) (a := 0) (tgt := 37) dX10_rather_11 (by decide) (by omega) (fun c11 => ?_) (fun c11 => ?_)
    · skip
      refine r_ldc (pc := 37) (v := -100000000) dX10_rather_37 (kc_RX10_226 rfl) ?_
      refine r_goto (pc := 39) (tgt := 54) dX10_rather_39 (by decide) ?_
      refine r_ret_i (pc := 54) dX10_rather_54 rfl ?_
      exact ⟨_, Ia, rfl, rfl, (by unfold aRather; rw [atN_n et] <;> rfl), hM.z hZ, fun x j z => hZ x j (by omega) (by omega)⟩
    · exfalso; omega
