/-! ===== the class: chances, count, rests ===== -/
theorem lf_eq {I : Im} {c sz q : Nat} {cw cg : Nat → Nat} (h : ChC I c sz cw cg) (hq : q ≤ 60) : sm (lfF I c (nI q)) sz = laA cw cg sz q := sm_congr _ (fun k hk => by
    have h1 := h.2.2.1 k hk
    have h2 := h.2.2.2.1 k
    show I (c + 2) k * (if 0 < nI q - I (c + 1) k then nI q - I (c + 1) k else 0) = _
    rw [h1.1, h1.2, mx_eq h2 hq])
theorem ex_eq {I : Im} {c sz q : Nat} {cw cg : Nat → Nat} (h : ChC I c sz cw cg) (hq : q ≤ 60) (p co bk : Int32) : exF I c sz p co bk (nI q) = exA cw cg sz p co bk q := by
  unfold exF exA
  rw [lf_eq h hq, h.2.2.2.2]
theorem st_eq {I : Im} {c sz : Nat} {cw cg : Nat → Nat} (h : ChC I c sz cw cg) (p co bk : Int32) : stF I c sz p co bk = stA2 cw cg sz p co bk := bsF_congr 60 (fun x hx => ex_eq h hx p co bk)
theorem se_eq {I : Im} {c sz : Nat} {cw cg : Nat → Nat} (h : ChC I c sz cw cg) (p co m bk : Int32) : seF I c sz p co m bk = seA cw cg sz p co m bk := by
  unfold seF seA
  rw [st_eq h, lf_eq h (show stA2 cw cg sz p co bk ≤ 60 from bsF_le _ 60), h.2.2.2.2]

set_option maxHeartbeats 300000 in
set_option maxRecDepth 100000 in
theorem expects_c {d : Nat} {I : Im} {G : Gm} {s : Sta} (hC : Ci s I G) {p : Int32} {c : Int32} {b : Int32} {q : Int32} : Ct (d + 3) 0 0 YX9_expects [.ref 0, .int p, .int c, .int b, .int q] (I, G) (qX (PcQ s I G (aExpects s p c b q))) := by
  refine Ct.of (by decide) (by simp [Value.category]) (Nat.le_of_ble_eq_true rfl) ?_
  have h9 := hC.1.1
  have hcn10 := hC.2.1.2.1
  have hFr : FrC I I := FrC.rf
  have hGk : Geq G G := Geq.rf
  show wp _ _ _ _ 0 [some (.ref 0), some (.int p), some (.int c), some (.int b), some (.int q)] [] _ _
  by_cases hz : sZ s = 0
  · skip
    refine r_aload_n (pc := 0) dX9_expects_0 rfl ?_
    refine r_get1 (pc := 1) 9 11 79 dX9_expects_1 (fl_RX9_79 rfl) (by decide) rfl (c9_o h9) (c9_p11 h9) ?_
    refine r_getIv (pc := 4) 0 2 272 dX9_expects_4 (fl_RX9_272 rfl) (by decide) rfl (c0_o (c9_s11 h9)) (v := nI (sZ s)) (hC.2.1.2.2.2.2.2.1) ?_
    refine r_if_eq_n (pc := 7) (a := sZ s) (tgt := 43) dX9_expects_7 (by decide) (by have := hC.2.1.2.2.2.2.2.2.1; omega) (fun c7 => ?_) (fun c7 => ?_)
    · skip
      refine r_ldc (pc := 43) (v := -100000000) dX9_expects_43 (kc_RX9_174 rfl) ?_
      refine r_ret_i (pc := 45) dX9_expects_45 rfl ?_
      exact ⟨_, rfl, I, G, rfl, (by unfold aExpects; rw [if_pos hz] <;> rfl), hC, hFr.m, hGk.gk⟩
    · exfalso; exact c7 hz
  · skip
    rcases in_cases (n := 42) (by omega) p with ⟨pn, hpn, rfl, ep⟩ | ⟨ep, hnop⟩
    · skip
      rcases in_cases (n := 42) (by omega) c with ⟨cn, hcn, rfl, ec⟩ | ⟨ec, hnoc⟩
      · skip
        rcases in_cases (n := 42) (by omega) b with ⟨bn, hbn, rfl, eb⟩ | ⟨eb, hnob⟩
        · skip
          rcases in_cases (n := 61) (by omega) q with ⟨qn, hqn, rfl, eq⟩ | ⟨eq, hnoq⟩
          · skip
            refine r_aload_n (pc := 0) dX9_expects_0 rfl ?_
            refine r_get1 (pc := 1) 9 11 79 dX9_expects_1 (fl_RX9_79 rfl) (by decide) rfl (c9_o h9) (c9_p11 h9) ?_
            refine r_getIv (pc := 4) 0 2 272 dX9_expects_4 (fl_RX9_272 rfl) (by decide) rfl (c0_o (c9_s11 h9)) (v := nI (sZ s)) (hC.2.1.2.2.2.2.2.1) ?_
            refine r_if_eq_n (pc := 7) (a := sZ s) (tgt := 43) dX9_expects_7 (by decide) (by have := hC.2.1.2.2.2.2.2.2.1; omega) (fun c7 => ?_) (fun c7 => ?_)
            · exfalso; exact hz c7
            · skip
              refine r_iload_n (pc := 10) dX9_expects_10 rfl ?_
              refine r_callS_P (pc := 11) (As := [.int (nI pn)]) 136 dX9_expects_11 lk_X9_isPrice (ml_RX9_136 rfl) sm_X9_isPrice (Nat.le_of_ble_eq_true rfl) rfl (isPrice_y hpn) ?_
              refine r_if_eq_n (pc := 14) (a := 1) (tgt := 43) dX9_expects_14 (by decide) (by have := hC.2.1.2.2.2.2.2.2.1; omega) (fun c14 => ?_) (fun c14 => ?_)
              · exfalso; omega
              · skip
                refine r_iload_n (pc := 17) dX9_expects_17 rfl ?_
                refine r_callS_P (pc := 18) (As := [.int (nI cn)]) 136 dX9_expects_18 lk_X9_isPrice (ml_RX9_136 rfl) sm_X9_isPrice (Nat.le_of_ble_eq_true rfl) rfl (isPrice_y hcn) ?_
                refine r_if_eq_n (pc := 21) (a := 1) (tgt := 43) dX9_expects_21 (by decide) (by have := hC.2.1.2.2.2.2.2.2.1; omega) (fun c21 => ?_) (fun c21 => ?_)
                · exfalso; omega
                · skip
                  refine r_iload_n (pc := 24) dX9_expects_24 rfl ?_
                  refine r_callS_P (pc := 25) (As := [.int (nI bn)]) 136 dX9_expects_25 lk_X9_isPrice (ml_RX9_136 rfl) sm_X9_isPrice (Nat.le_of_ble_eq_true rfl) rfl (isPrice_y hbn) ?_
                  refine r_if_eq_n (pc := 28) (a := 1) (tgt := 43) dX9_expects_28 (by decide) (by have := hC.2.1.2.2.2.2.2.2.1; omega) (fun c28 => ?_) (fun c28 => ?_)
                  · exfalso; omega
                  · skip
                    refine r_iload (pc := 31) dX9_expects_31 rfl ?_
                    refine r_if_lt_n (pc := 33) (a := qn) (tgt := 43) dX9_expects_33 (by decide) (by have := hC.2.1.2.2.2.2.2.2.1; omega) ?_
                    refine r_iload (pc := 36) dX9_expects_36 rfl ?_
                    refine r_bipush (pc := 38) (v := 60) dX9_expects_38 (by decide) ?_
                    refine r_icmp_le_n (pc := 40) (a := qn) (b := 60) (tgt := 46) dX9_expects_40 (by decide) (by have := hC.2.1.2.2.2.2.2.2.1; omega) (by have := hC.2.1.2.2.2.2.2.2.1; omega) (fun c40 => ?_) (fun c40 => ?_)
                    · skip
                      refine r_aload_n (pc := 46) dX9_expects_46 rfl ?_
                      refine r_get1 (pc := 47) 9 11 79 dX9_expects_47 (fl_RX9_79 rfl) (by decide) rfl (c9_o h9) (c9_p11 h9) ?_
                      refine r_iload_n (pc := 50) dX9_expects_50 rfl ?_
                      refine r_iload_n (pc := 51) dX9_expects_51 rfl ?_
                      refine r_iload_n (pc := 52) dX9_expects_52 rfl ?_
                      refine r_iload (pc := 53) dX9_expects_53 rfl ?_
                      refine r_callV_P (pc := 55) (b := 253) (As := [.int (nI pn), .int (nI cn), .int (nI bn), .int (nI qn)]) 0 273 dX9_expects_55 lk_X0_expected (ml_RX9_273 rfl) im_X0_expected se_X0_expected (by decide) (c0_o (c9_s11 h9)) (Nat.le_of_ble_eq_true rfl) rfl (expected_ct (c9_s11 h9) hC.2.1.2.2.2.2.2.1 hC.2.1.2.2.2.2.2.2.1) ?_
                      refine r_ret_i (pc := 58) dX9_expects_58 rfl ?_
                      exact ⟨_, rfl, I, G, rfl, (by unfold aExpects; rw [if_neg hz, atN_s ep, atN_s ec, atN_s eb, atN_s eq]; exact ex_eq hC.2.1.2.2.2.2.2 (by omega) _ _ _), hC, hFr.m, hGk.gk⟩
                    · exfalso; omega
          · skip
            refine r_aload_n (pc := 0) dX9_expects_0 rfl ?_
            refine r_get1 (pc := 1) 9 11 79 dX9_expects_1 (fl_RX9_79 rfl) (by decide) rfl (c9_o h9) (c9_p11 h9) ?_
            refine r_getIv (pc := 4) 0 2 272 dX9_expects_4 (fl_RX9_272 rfl) (by decide) rfl (c0_o (c9_s11 h9)) (v := nI (sZ s)) (hC.2.1.2.2.2.2.2.1) ?_
            refine r_if_eq_n (pc := 7) (a := sZ s) (tgt := 43) dX9_expects_7 (by decide) (by have := hC.2.1.2.2.2.2.2.2.1; omega) (fun c7 => ?_) (fun c7 => ?_)
            · exfalso; exact hz c7
            · skip
              refine r_iload_n (pc := 10) dX9_expects_10 rfl ?_
              refine r_callS_P (pc := 11) (As := [.int (nI pn)]) 136 dX9_expects_11 lk_X9_isPrice (ml_RX9_136 rfl) sm_X9_isPrice (Nat.le_of_ble_eq_true rfl) rfl (isPrice_y hpn) ?_
              refine r_if_eq_n (pc := 14) (a := 1) (tgt := 43) dX9_expects_14 (by decide) (by have := hC.2.1.2.2.2.2.2.2.1; omega) (fun c14 => ?_) (fun c14 => ?_)
              · exfalso; omega
              · skip
                refine r_iload_n (pc := 17) dX9_expects_17 rfl ?_
                refine r_callS_P (pc := 18) (As := [.int (nI cn)]) 136 dX9_expects_18 lk_X9_isPrice (ml_RX9_136 rfl) sm_X9_isPrice (Nat.le_of_ble_eq_true rfl) rfl (isPrice_y hcn) ?_
                refine r_if_eq_n (pc := 21) (a := 1) (tgt := 43) dX9_expects_21 (by decide) (by have := hC.2.1.2.2.2.2.2.2.1; omega) (fun c21 => ?_) (fun c21 => ?_)
                · exfalso; omega
                · skip
                  refine r_iload_n (pc := 24) dX9_expects_24 rfl ?_
                  refine r_callS_P (pc := 25) (As := [.int (nI bn)]) 136 dX9_expects_25 lk_X9_isPrice (ml_RX9_136 rfl) sm_X9_isPrice (Nat.le_of_ble_eq_true rfl) rfl (isPrice_y hbn) ?_
                  refine r_if_eq_n (pc := 28) (a := 1) (tgt := 43) dX9_expects_28 (by decide) (by have := hC.2.1.2.2.2.2.2.2.1; omega) (fun c28 => ?_) (fun c28 => ?_)
                  · exfalso; omega
                  · skip
                    refine r_iload (pc := 31) dX9_expects_31 rfl ?_
                    refine r_if_lt (pc := 33) (x := q) (tgt := 43) dX9_expects_33 (by decide) (fun c33 => ?_) (fun c33 => ?_)
                    · skip
                      refine r_ldc (pc := 43) (v := -100000000) dX9_expects_43 (kc_RX9_174 rfl) ?_
                      refine r_ret_i (pc := 45) dX9_expects_45 rfl ?_
                      exact ⟨_, rfl, I, G, rfl, (by unfold aExpects; rw [if_neg hz, atN_s ep, atN_s ec, atN_s eb, atN_n eq] <;> rfl), hC, hFr.m, hGk.gk⟩
                    · skip
                      refine r_iload (pc := 36) dX9_expects_36 rfl ?_
                      refine r_bipush (pc := 38) (v := 60) dX9_expects_38 (by decide) ?_
                      refine r_icmp_le (pc := 40) (x := q) (z := 60) (tgt := 46) dX9_expects_40 (by decide) (fun c40 => ?_) (fun c40 => ?_)
                      · exfalso; exact rg_no (n := 60) (by omega) hnoq c33 c40
                      · skip
                        refine r_ldc (pc := 43) (v := -100000000) dX9_expects_43 (kc_RX9_174 rfl) ?_
                        refine r_ret_i (pc := 45) dX9_expects_45 rfl ?_
                        exact ⟨_, rfl, I, G, rfl, (by unfold aExpects; rw [if_neg hz, atN_s ep, atN_s ec, atN_s eb, atN_n eq] <;> rfl), hC, hFr.m, hGk.gk⟩
        · skip
          refine r_aload_n (pc := 0) dX9_expects_0 rfl ?_
          refine r_get1 (pc := 1) 9 11 79 dX9_expects_1 (fl_RX9_79 rfl) (by decide) rfl (c9_o h9) (c9_p11 h9) ?_
          refine r_getIv (pc := 4) 0 2 272 dX9_expects_4 (fl_RX9_272 rfl) (by decide) rfl (c0_o (c9_s11 h9)) (v := nI (sZ s)) (hC.2.1.2.2.2.2.2.1) ?_
          refine r_if_eq_n (pc := 7) (a := sZ s) (tgt := 43) dX9_expects_7 (by decide) (by have := hC.2.1.2.2.2.2.2.2.1; omega) (fun c7 => ?_) (fun c7 => ?_)
          · exfalso; exact hz c7
          · skip
            refine r_iload_n (pc := 10) dX9_expects_10 rfl ?_
            refine r_callS_P (pc := 11) (As := [.int (nI pn)]) 136 dX9_expects_11 lk_X9_isPrice (ml_RX9_136 rfl) sm_X9_isPrice (Nat.le_of_ble_eq_true rfl) rfl (isPrice_y hpn) ?_
            refine r_if_eq_n (pc := 14) (a := 1) (tgt := 43) dX9_expects_14 (by decide) (by have := hC.2.1.2.2.2.2.2.2.1; omega) (fun c14 => ?_) (fun c14 => ?_)
            · exfalso; omega
            · skip
              refine r_iload_n (pc := 17) dX9_expects_17 rfl ?_
              refine r_callS_P (pc := 18) (As := [.int (nI cn)]) 136 dX9_expects_18 lk_X9_isPrice (ml_RX9_136 rfl) sm_X9_isPrice (Nat.le_of_ble_eq_true rfl) rfl (isPrice_y hcn) ?_
              refine r_if_eq_n (pc := 21) (a := 1) (tgt := 43) dX9_expects_21 (by decide) (by have := hC.2.1.2.2.2.2.2.2.1; omega) (fun c21 => ?_) (fun c21 => ?_)
              · exfalso; omega
              · skip
                refine r_iload_n (pc := 24) dX9_expects_24 rfl ?_
                refine r_callS_P (pc := 25) (As := [.int b]) 136 dX9_expects_25 lk_X9_isPrice (ml_RX9_136 rfl) sm_X9_isPrice (Nat.le_of_ble_eq_true rfl) rfl (isPrice_n hnob) ?_
                refine r_if_eq_n (pc := 28) (a := 0) (tgt := 43) dX9_expects_28 (by decide) (by have := hC.2.1.2.2.2.2.2.2.1; omega) (fun c28 => ?_) (fun c28 => ?_)
                · skip
                  refine r_ldc (pc := 43) (v := -100000000) dX9_expects_43 (kc_RX9_174 rfl) ?_
                  refine r_ret_i (pc := 45) dX9_expects_45 rfl ?_
                  exact ⟨_, rfl, I, G, rfl, (by unfold aExpects; rw [if_neg hz, atN_s ep, atN_s ec, atN_n eb] <;> rfl), hC, hFr.m, hGk.gk⟩
                · exfalso; omega
      · skip
        refine r_aload_n (pc := 0) dX9_expects_0 rfl ?_
        refine r_get1 (pc := 1) 9 11 79 dX9_expects_1 (fl_RX9_79 rfl) (by decide) rfl (c9_o h9) (c9_p11 h9) ?_
        refine r_getIv (pc := 4) 0 2 272 dX9_expects_4 (fl_RX9_272 rfl) (by decide) rfl (c0_o (c9_s11 h9)) (v := nI (sZ s)) (hC.2.1.2.2.2.2.2.1) ?_
        refine r_if_eq_n (pc := 7) (a := sZ s) (tgt := 43) dX9_expects_7 (by decide) (by have := hC.2.1.2.2.2.2.2.2.1; omega) (fun c7 => ?_) (fun c7 => ?_)
        · exfalso; exact hz c7
        · skip
          refine r_iload_n (pc := 10) dX9_expects_10 rfl ?_
          refine r_callS_P (pc := 11) (As := [.int (nI pn)]) 136 dX9_expects_11 lk_X9_isPrice (ml_RX9_136 rfl) sm_X9_isPrice (Nat.le_of_ble_eq_true rfl) rfl (isPrice_y hpn) ?_
          refine r_if_eq_n (pc := 14) (a := 1) (tgt := 43) dX9_expects_14 (by decide) (by have := hC.2.1.2.2.2.2.2.2.1; omega) (fun c14 => ?_) (fun c14 => ?_)
          · exfalso; omega
          · skip
            refine r_iload_n (pc := 17) dX9_expects_17 rfl ?_
            refine r_callS_P (pc := 18) (As := [.int c]) 136 dX9_expects_18 lk_X9_isPrice (ml_RX9_136 rfl) sm_X9_isPrice (Nat.le_of_ble_eq_true rfl) rfl (isPrice_n hnoc) ?_
            refine r_if_eq_n (pc := 21) (a := 0) (tgt := 43) dX9_expects_21 (by decide) (by have := hC.2.1.2.2.2.2.2.2.1; omega) (fun c21 => ?_) (fun c21 => ?_)
            · skip
              refine r_ldc (pc := 43) (v := -100000000) dX9_expects_43 (kc_RX9_174 rfl) ?_
              refine r_ret_i (pc := 45) dX9_expects_45 rfl ?_
              exact ⟨_, rfl, I, G, rfl, (by unfold aExpects; rw [if_neg hz, atN_s ep, atN_n ec] <;> rfl), hC, hFr.m, hGk.gk⟩
            · exfalso; omega
    · skip
      refine r_aload_n (pc := 0) dX9_expects_0 rfl ?_
      refine r_get1 (pc := 1) 9 11 79 dX9_expects_1 (fl_RX9_79 rfl) (by decide) rfl (c9_o h9) (c9_p11 h9) ?_
      refine r_getIv (pc := 4) 0 2 272 dX9_expects_4 (fl_RX9_272 rfl) (by decide) rfl (c0_o (c9_s11 h9)) (v := nI (sZ s)) (hC.2.1.2.2.2.2.2.1) ?_
      refine r_if_eq_n (pc := 7) (a := sZ s) (tgt := 43) dX9_expects_7 (by decide) (by have := hC.2.1.2.2.2.2.2.2.1; omega) (fun c7 => ?_) (fun c7 => ?_)
      · exfalso; exact hz c7
      · skip
        refine r_iload_n (pc := 10) dX9_expects_10 rfl ?_
        refine r_callS_P (pc := 11) (As := [.int p]) 136 dX9_expects_11 lk_X9_isPrice (ml_RX9_136 rfl) sm_X9_isPrice (Nat.le_of_ble_eq_true rfl) rfl (isPrice_n hnop) ?_
        refine r_if_eq_n (pc := 14) (a := 0) (tgt := 43) dX9_expects_14 (by decide) (by have := hC.2.1.2.2.2.2.2.2.1; omega) (fun c14 => ?_) (fun c14 => ?_)
        · skip
          refine r_ldc (pc := 43) (v := -100000000) dX9_expects_43 (kc_RX9_174 rfl) ?_
          refine r_ret_i (pc := 45) dX9_expects_45 rfl ?_
          exact ⟨_, rfl, I, G, rfl, (by unfold aExpects; rw [if_neg hz, atN_n ep] <;> rfl), hC, hFr.m, hGk.gk⟩
        · exfalso; omega

set_option maxHeartbeats 300000 in
set_option maxRecDepth 100000 in
theorem stock_c {d : Nat} {I : Im} {G : Gm} {s : Sta} (hC : Ci s I G) {p : Int32} {c : Int32} {b : Int32} : Ct (d + 4) 0 0 YX9_stock [.ref 0, .int p, .int c, .int b] (I, G) (qX (PcQ s I G (aStock s p c b))) := by
  refine Ct.of (by decide) (by simp [Value.category]) (Nat.le_of_ble_eq_true rfl) ?_
  have h9 := hC.1.1
  have hcn10 := hC.2.1.2.1
  have hFr : FrC I I := FrC.rf
  have hGk : Geq G G := Geq.rf
  show wp _ _ _ _ 0 [some (.ref 0), some (.int p), some (.int c), some (.int b)] [] _ _
  by_cases hz : sZ s = 0
  · skip
    refine r_aload_n (pc := 0) dX9_stock_0 rfl ?_
    refine r_get1 (pc := 1) 9 11 79 dX9_stock_1 (fl_RX9_79 rfl) (by decide) rfl (c9_o h9) (c9_p11 h9) ?_
    refine r_getIv (pc := 4) 0 2 272 dX9_stock_4 (fl_RX9_272 rfl) (by decide) rfl (c0_o (c9_s11 h9)) (v := nI (sZ s)) (hC.2.1.2.2.2.2.2.1) ?_
    refine r_if_eq_n (pc := 7) (a := sZ s) (tgt := 31) dX9_stock_7 (by decide) (by have := hC.2.1.2.2.2.2.2.2.1; omega) (fun c7 => ?_) (fun c7 => ?_)
    · skip
      refine r_iconst (pc := 31) (v := -1) dX9_stock_31 (by decide) ?_
      refine r_ret_i (pc := 32) dX9_stock_32 rfl ?_
      exact ⟨_, rfl, I, G, rfl, (by unfold aStock; rw [if_pos hz] <;> rfl), hC, hFr.m, hGk.gk⟩
    · exfalso; exact c7 hz
  · skip
    rcases in_cases (n := 42) (by omega) p with ⟨pn, hpn, rfl, ep⟩ | ⟨ep, hnop⟩
    · skip
      rcases in_cases (n := 42) (by omega) c with ⟨cn, hcn, rfl, ec⟩ | ⟨ec, hnoc⟩
      · skip
        rcases in_cases (n := 42) (by omega) b with ⟨bn, hbn, rfl, eb⟩ | ⟨eb, hnob⟩
        · skip
          refine r_aload_n (pc := 0) dX9_stock_0 rfl ?_
          refine r_get1 (pc := 1) 9 11 79 dX9_stock_1 (fl_RX9_79 rfl) (by decide) rfl (c9_o h9) (c9_p11 h9) ?_
          refine r_getIv (pc := 4) 0 2 272 dX9_stock_4 (fl_RX9_272 rfl) (by decide) rfl (c0_o (c9_s11 h9)) (v := nI (sZ s)) (hC.2.1.2.2.2.2.2.1) ?_
          refine r_if_eq_n (pc := 7) (a := sZ s) (tgt := 31) dX9_stock_7 (by decide) (by have := hC.2.1.2.2.2.2.2.2.1; omega) (fun c7 => ?_) (fun c7 => ?_)
          · exfalso; exact hz c7
          · skip
            refine r_iload_n (pc := 10) dX9_stock_10 rfl ?_
            refine r_callS_P (pc := 11) (As := [.int (nI pn)]) 136 dX9_stock_11 lk_X9_isPrice (ml_RX9_136 rfl) sm_X9_isPrice (Nat.le_of_ble_eq_true rfl) rfl (isPrice_y hpn) ?_
            refine r_if_eq_n (pc := 14) (a := 1) (tgt := 31) dX9_stock_14 (by decide) (by have := hC.2.1.2.2.2.2.2.2.1; omega) (fun c14 => ?_) (fun c14 => ?_)
            · exfalso; omega
            · skip
              refine r_iload_n (pc := 17) dX9_stock_17 rfl ?_
              refine r_callS_P (pc := 18) (As := [.int (nI cn)]) 136 dX9_stock_18 lk_X9_isPrice (ml_RX9_136 rfl) sm_X9_isPrice (Nat.le_of_ble_eq_true rfl) rfl (isPrice_y hcn) ?_
              refine r_if_eq_n (pc := 21) (a := 1) (tgt := 31) dX9_stock_21 (by decide) (by have := hC.2.1.2.2.2.2.2.2.1; omega) (fun c21 => ?_) (fun c21 => ?_)
              · exfalso; omega
              · skip
                refine r_iload_n (pc := 24) dX9_stock_24 rfl ?_
                refine r_callS_P (pc := 25) (As := [.int (nI bn)]) 136 dX9_stock_25 lk_X9_isPrice (ml_RX9_136 rfl) sm_X9_isPrice (Nat.le_of_ble_eq_true rfl) rfl (isPrice_y hbn) ?_
                refine r_if_ne_n (pc := 28) (a := 1) (tgt := 33) dX9_stock_28 (by decide) (by have := hC.2.1.2.2.2.2.2.2.1; omega) (fun c28 => ?_) (fun c28 => ?_)
                · skip
                  refine r_aload_n (pc := 33) dX9_stock_33 rfl ?_
                  refine r_get1 (pc := 34) 9 11 79 dX9_stock_34 (fl_RX9_79 rfl) (by decide) rfl (c9_o h9) (c9_p11 h9) ?_
                  refine r_iload_n (pc := 37) dX9_stock_37 rfl ?_
                  refine r_iload_n (pc := 38) dX9_stock_38 rfl ?_
                  refine r_iload_n (pc := 39) dX9_stock_39 rfl ?_
                  refine r_callV_P (pc := 40) (b := 253) (As := [.int (nI pn), .int (nI cn), .int (nI bn)]) 0 277 dX9_stock_40 lk_X0_bestStock (ml_RX9_277 rfl) im_X0_bestStock se_X0_bestStock (by decide) (c0_o (c9_s11 h9)) (Nat.le_of_ble_eq_true rfl) rfl (bestStock_ct (c9_s11 h9) hC.2.1.2.2.2.2.2.1 hC.2.1.2.2.2.2.2.2.1) ?_
                  refine r_ret_i (pc := 43) dX9_stock_43 rfl ?_
                  exact ⟨_, rfl, I, G, rfl, (by unfold aStock; rw [if_neg hz, atN_s ep, atN_s ec, atN_s eb]; rw [st_eq hC.2.1.2.2.2.2.2]), hC, hFr.m, hGk.gk⟩
                · exfalso; omega
        · skip
          refine r_aload_n (pc := 0) dX9_stock_0 rfl ?_
          refine r_get1 (pc := 1) 9 11 79 dX9_stock_1 (fl_RX9_79 rfl) (by decide) rfl (c9_o h9) (c9_p11 h9) ?_
          refine r_getIv (pc := 4) 0 2 272 dX9_stock_4 (fl_RX9_272 rfl) (by decide) rfl (c0_o (c9_s11 h9)) (v := nI (sZ s)) (hC.2.1.2.2.2.2.2.1) ?_
          refine r_if_eq_n (pc := 7) (a := sZ s) (tgt := 31) dX9_stock_7 (by decide) (by have := hC.2.1.2.2.2.2.2.2.1; omega) (fun c7 => ?_) (fun c7 => ?_)
          · exfalso; exact hz c7
          · skip
            refine r_iload_n (pc := 10) dX9_stock_10 rfl ?_
            refine r_callS_P (pc := 11) (As := [.int (nI pn)]) 136 dX9_stock_11 lk_X9_isPrice (ml_RX9_136 rfl) sm_X9_isPrice (Nat.le_of_ble_eq_true rfl) rfl (isPrice_y hpn) ?_
            refine r_if_eq_n (pc := 14) (a := 1) (tgt := 31) dX9_stock_14 (by decide) (by have := hC.2.1.2.2.2.2.2.2.1; omega) (fun c14 => ?_) (fun c14 => ?_)
            · exfalso; omega
            · skip
              refine r_iload_n (pc := 17) dX9_stock_17 rfl ?_
              refine r_callS_P (pc := 18) (As := [.int (nI cn)]) 136 dX9_stock_18 lk_X9_isPrice (ml_RX9_136 rfl) sm_X9_isPrice (Nat.le_of_ble_eq_true rfl) rfl (isPrice_y hcn) ?_
              refine r_if_eq_n (pc := 21) (a := 1) (tgt := 31) dX9_stock_21 (by decide) (by have := hC.2.1.2.2.2.2.2.2.1; omega) (fun c21 => ?_) (fun c21 => ?_)
              · exfalso; omega
              · skip
                refine r_iload_n (pc := 24) dX9_stock_24 rfl ?_
                refine r_callS_P (pc := 25) (As := [.int b]) 136 dX9_stock_25 lk_X9_isPrice (ml_RX9_136 rfl) sm_X9_isPrice (Nat.le_of_ble_eq_true rfl) rfl (isPrice_n hnob) ?_
                refine r_if_ne_n (pc := 28) (a := 0) (tgt := 33) dX9_stock_28 (by decide) (by have := hC.2.1.2.2.2.2.2.2.1; omega) (fun c28 => ?_) (fun c28 => ?_)
                · exfalso; omega
                · skip
                  refine r_iconst (pc := 31) (v := -1) dX9_stock_31 (by decide) ?_
                  refine r_ret_i (pc := 32) dX9_stock_32 rfl ?_
                  exact ⟨_, rfl, I, G, rfl, (by unfold aStock; rw [if_neg hz, atN_s ep, atN_s ec, atN_n eb] <;> rfl), hC, hFr.m, hGk.gk⟩
      · skip
        refine r_aload_n (pc := 0) dX9_stock_0 rfl ?_
        refine r_get1 (pc := 1) 9 11 79 dX9_stock_1 (fl_RX9_79 rfl) (by decide) rfl (c9_o h9) (c9_p11 h9) ?_
        refine r_getIv (pc := 4) 0 2 272 dX9_stock_4 (fl_RX9_272 rfl) (by decide) rfl (c0_o (c9_s11 h9)) (v := nI (sZ s)) (hC.2.1.2.2.2.2.2.1) ?_
        refine r_if_eq_n (pc := 7) (a := sZ s) (tgt := 31) dX9_stock_7 (by decide) (by have := hC.2.1.2.2.2.2.2.2.1; omega) (fun c7 => ?_) (fun c7 => ?_)
        · exfalso; exact hz c7
        · skip
          refine r_iload_n (pc := 10) dX9_stock_10 rfl ?_
          refine r_callS_P (pc := 11) (As := [.int (nI pn)]) 136 dX9_stock_11 lk_X9_isPrice (ml_RX9_136 rfl) sm_X9_isPrice (Nat.le_of_ble_eq_true rfl) rfl (isPrice_y hpn) ?_
          refine r_if_eq_n (pc := 14) (a := 1) (tgt := 31) dX9_stock_14 (by decide) (by have := hC.2.1.2.2.2.2.2.2.1; omega) (fun c14 => ?_) (fun c14 => ?_)
          · exfalso; omega
          · skip
            refine r_iload_n (pc := 17) dX9_stock_17 rfl ?_
            refine r_callS_P (pc := 18) (As := [.int c]) 136 dX9_stock_18 lk_X9_isPrice (ml_RX9_136 rfl) sm_X9_isPrice (Nat.le_of_ble_eq_true rfl) rfl (isPrice_n hnoc) ?_
            refine r_if_eq_n (pc := 21) (a := 0) (tgt := 31) dX9_stock_21 (by decide) (by have := hC.2.1.2.2.2.2.2.2.1; omega) (fun c21 => ?_) (fun c21 => ?_)
            · skip
              refine r_iconst (pc := 31) (v := -1) dX9_stock_31 (by decide) ?_
              refine r_ret_i (pc := 32) dX9_stock_32 rfl ?_
              exact ⟨_, rfl, I, G, rfl, (by unfold aStock; rw [if_neg hz, atN_s ep, atN_n ec] <;> rfl), hC, hFr.m, hGk.gk⟩
            · exfalso; omega
    · skip
      refine r_aload_n (pc := 0) dX9_stock_0 rfl ?_
      refine r_get1 (pc := 1) 9 11 79 dX9_stock_1 (fl_RX9_79 rfl) (by decide) rfl (c9_o h9) (c9_p11 h9) ?_
      refine r_getIv (pc := 4) 0 2 272 dX9_stock_4 (fl_RX9_272 rfl) (by decide) rfl (c0_o (c9_s11 h9)) (v := nI (sZ s)) (hC.2.1.2.2.2.2.2.1) ?_
      refine r_if_eq_n (pc := 7) (a := sZ s) (tgt := 31) dX9_stock_7 (by decide) (by have := hC.2.1.2.2.2.2.2.2.1; omega) (fun c7 => ?_) (fun c7 => ?_)
      · exfalso; exact hz c7
      · skip
        refine r_iload_n (pc := 10) dX9_stock_10 rfl ?_
        refine r_callS_P (pc := 11) (As := [.int p]) 136 dX9_stock_11 lk_X9_isPrice (ml_RX9_136 rfl) sm_X9_isPrice (Nat.le_of_ble_eq_true rfl) rfl (isPrice_n hnop) ?_
        refine r_if_eq_n (pc := 14) (a := 0) (tgt := 31) dX9_stock_14 (by decide) (by have := hC.2.1.2.2.2.2.2.2.1; omega) (fun c14 => ?_) (fun c14 => ?_)
        · skip
          refine r_iconst (pc := 31) (v := -1) dX9_stock_31 (by decide) ?_
          refine r_ret_i (pc := 32) dX9_stock_32 rfl ?_
          exact ⟨_, rfl, I, G, rfl, (by unfold aStock; rw [if_neg hz, atN_n ep] <;> rfl), hC, hFr.m, hGk.gk⟩
        · exfalso; omega

set_option maxHeartbeats 300000 in
set_option maxRecDepth 100000 in
theorem seller_c {d : Nat} {I : Im} {G : Gm} {s : Sta} (hC : Ci s I G) {p : Int32} {c : Int32} {m : Int32} {w : Int32} : Ct (d + 6) 0 0 YX9_seller [.ref 0, .int p, .int c, .int m, .int w] (I, G) (qX (PcQ s I G (aSeller s p c m w))) := by
  refine Ct.of (by decide) (by simp [Value.category]) (Nat.le_of_ble_eq_true rfl) ?_
  have h9 := hC.1.1
  have hcn10 := hC.2.1.2.1
  have hFr : FrC I I := FrC.rf
  have hGk : Geq G G := Geq.rf
  show wp _ _ _ _ 0 [some (.ref 0), some (.int p), some (.int c), some (.int m), some (.int w), none] [] _ _
  by_cases hz : sZ s = 0
  · skip
    refine r_aload_n (pc := 0) dX9_seller_0 rfl ?_
    refine r_get1 (pc := 1) 9 11 79 dX9_seller_1 (fl_RX9_79 rfl) (by decide) rfl (c9_o h9) (c9_p11 h9) ?_
    refine r_getIv (pc := 4) 0 2 272 dX9_seller_4 (fl_RX9_272 rfl) (by decide) rfl (c0_o (c9_s11 h9)) (v := nI (sZ s)) (hC.2.1.2.2.2.2.2.1) ?_
    refine r_if_eq_n (pc := 7) (a := sZ s) (tgt := 42) dX9_seller_7 (by decide) (by have := hC.2.1.2.2.2.2.2.2.1; omega) (fun c7 => ?_) (fun c7 => ?_)
    · skip
      refine r_ldc (pc := 42) (v := -100000000) dX9_seller_42 (kc_RX9_174 rfl) ?_
      refine r_ret_i (pc := 44) dX9_seller_44 rfl ?_
      exact ⟨_, rfl, I, G, rfl, (by unfold aSeller; rw [if_pos hz] <;> rfl), hC, hFr.m, hGk.gk⟩
    · exfalso; exact c7 hz
  · skip
    rcases in_cases (n := 42) (by omega) p with ⟨pn, hpn, rfl, ep⟩ | ⟨ep, hnop⟩
    · skip
      rcases in_cases (n := 42) (by omega) c with ⟨cn, hcn, rfl, ec⟩ | ⟨ec, hnoc⟩
      · skip
        rcases in_cases (n := 42) (by omega) m with ⟨mn, hmn, rfl, em⟩ | ⟨em, hnom⟩
        · skip
          rcases in_cases (n := 2) (by omega) w with ⟨wn, hwn, rfl, ew⟩ | ⟨ew, hnow⟩
          · skip
            rcases (show wn = 0 ∨ wn = 1 by omega) with rfl | rfl
            · skip
              refine r_aload_n (pc := 0) dX9_seller_0 rfl ?_
              refine r_get1 (pc := 1) 9 11 79 dX9_seller_1 (fl_RX9_79 rfl) (by decide) rfl (c9_o h9) (c9_p11 h9) ?_
              refine r_getIv (pc := 4) 0 2 272 dX9_seller_4 (fl_RX9_272 rfl) (by decide) rfl (c0_o (c9_s11 h9)) (v := nI (sZ s)) (hC.2.1.2.2.2.2.2.1) ?_
              refine r_if_eq_n (pc := 7) (a := sZ s) (tgt := 42) dX9_seller_7 (by decide) (by have := hC.2.1.2.2.2.2.2.2.1; omega) (fun c7 => ?_) (fun c7 => ?_)
              · exfalso; exact hz c7
              · skip
                refine r_iload_n (pc := 10) dX9_seller_10 rfl ?_
                refine r_callS_P (pc := 11) (As := [.int (nI pn)]) 136 dX9_seller_11 lk_X9_isPrice (ml_RX9_136 rfl) sm_X9_isPrice (Nat.le_of_ble_eq_true rfl) rfl (isPrice_y hpn) ?_
                refine r_if_eq_n (pc := 14) (a := 1) (tgt := 42) dX9_seller_14 (by decide) (by have := hC.2.1.2.2.2.2.2.2.1; omega) (fun c14 => ?_) (fun c14 => ?_)
                · exfalso; omega
                · skip
                  refine r_iload_n (pc := 17) dX9_seller_17 rfl ?_
                  refine r_callS_P (pc := 18) (As := [.int (nI cn)]) 136 dX9_seller_18 lk_X9_isPrice (ml_RX9_136 rfl) sm_X9_isPrice (Nat.le_of_ble_eq_true rfl) rfl (isPrice_y hcn) ?_
                  refine r_if_eq_n (pc := 21) (a := 1) (tgt := 42) dX9_seller_21 (by decide) (by have := hC.2.1.2.2.2.2.2.2.1; omega) (fun c21 => ?_) (fun c21 => ?_)
                  · exfalso; omega
                  · skip
                    refine r_iload_n (pc := 24) dX9_seller_24 rfl ?_
                    refine r_callS_P (pc := 25) (As := [.int (nI mn)]) 136 dX9_seller_25 lk_X9_isPrice (ml_RX9_136 rfl) sm_X9_isPrice (Nat.le_of_ble_eq_true rfl) rfl (isPrice_y hmn) ?_
                    refine r_if_eq_n (pc := 28) (a := 1) (tgt := 42) dX9_seller_28 (by decide) (by have := hC.2.1.2.2.2.2.2.2.1; omega) (fun c28 => ?_) (fun c28 => ?_)
                    · exfalso; omega
                    · skip
                      refine r_iload (pc := 31) dX9_seller_31 rfl ?_
                      refine r_if_lt_n (pc := 33) (a := 0) (tgt := 42) dX9_seller_33 (by decide) (by have := hC.2.1.2.2.2.2.2.2.1; omega) ?_
                      refine r_iload (pc := 36) dX9_seller_36 rfl ?_
                      refine r_iconst (pc := 38) (v := 1) dX9_seller_38 (by decide) ?_
                      refine r_icmp_le_n (pc := 39) (a := 0) (b := 1) (tgt := 45) dX9_seller_39 (by decide) (by have := hC.2.1.2.2.2.2.2.2.1; omega) (by have := hC.2.1.2.2.2.2.2.2.1; omega) (fun c39 => ?_) (fun c39 => ?_)
                      · skip
                        refine r_aload_n (pc := 45) dX9_seller_45 rfl ?_
                        refine r_get1 (pc := 46) 9 11 79 dX9_seller_46 (fl_RX9_79 rfl) (by decide) rfl (c9_o h9) (c9_p11 h9) ?_
                        refine r_iload_n (pc := 49) dX9_seller_49 rfl ?_
                        refine r_iload_n (pc := 50) dX9_seller_50 rfl ?_
                        refine r_iload_n (pc := 51) dX9_seller_51 rfl ?_
                        refine r_callV_P (pc := 52) (b := 253) (As := [.int (nI pn), .int (nI cn), .int (nI mn)]) 0 281 dX9_seller_52 lk_X0_bestBack (ml_RX9_281 rfl) im_X0_bestBack se_X0_bestBack (by decide) (c0_o (c9_s11 h9)) (Nat.le_of_ble_eq_true rfl) rfl (bestBack_ct (c9_s11 h9) hC.2.1.2.2.2.2.2.1 hC.2.1.2.2.2.2.2.2.1 (by omega)) ?_
                        refine r_istore (pc := 55) (L' := [some (.ref 0), some (.int (nI pn)), some (.int (nI cn)), some (.int (nI mn)), some (.int (nI 0)), some (.int (nI (bsF (fun b => seF I 253 (sZ s) (nI pn) (nI cn) (nI mn) (nI b)) cn)))]) dX9_seller_55 (by decide) rfl rfl ?_
                        refine r_iload (pc := 57) dX9_seller_57 rfl ?_
                        refine r_if_ne_n (pc := 59) (a := 0) (tgt := 67) dX9_seller_59 (by decide) (by have := hC.2.1.2.2.2.2.2.2.1; omega) (fun c59 => ?_) (fun c59 => ?_)
                        · exfalso; omega
                        · skip
                          refine r_iload (pc := 62) dX9_seller_62 rfl ?_
                          refine r_goto (pc := 64) (tgt := 79) dX9_seller_64 (by decide) ?_
                          refine r_ret_i (pc := 79) dX9_seller_79 rfl ?_
                          exact ⟨_, rfl, I, G, rfl, (by unfold aSeller; rw [if_neg hz, atN_s ep, atN_s ec, atN_s em, atN_s ew]; rw [show (fun b => seA (sW s) (sV s) (sZ s) (nI pn) (nI cn) (nI mn) (nI b)) = (fun b => seF I 253 (sZ s) (nI pn) (nI cn) (nI mn) (nI b)) from funext (fun b => (se_eq hC.2.1.2.2.2.2.2 _ _ _ _).symm)] <;> rfl), hC, hFr.m, hGk.gk⟩
                      · exfalso; omega
            · skip
              refine r_aload_n (pc := 0) dX9_seller_0 rfl ?_
              refine r_get1 (pc := 1) 9 11 79 dX9_seller_1 (fl_RX9_79 rfl) (by decide) rfl (c9_o h9) (c9_p11 h9) ?_
              refine r_getIv (pc := 4) 0 2 272 dX9_seller_4 (fl_RX9_272 rfl) (by decide) rfl (c0_o (c9_s11 h9)) (v := nI (sZ s)) (hC.2.1.2.2.2.2.2.1) ?_
              refine r_if_eq_n (pc := 7) (a := sZ s) (tgt := 42) dX9_seller_7 (by decide) (by have := hC.2.1.2.2.2.2.2.2.1; omega) (fun c7 => ?_) (fun c7 => ?_)
              · exfalso; exact hz c7
              · skip
                refine r_iload_n (pc := 10) dX9_seller_10 rfl ?_
                refine r_callS_P (pc := 11) (As := [.int (nI pn)]) 136 dX9_seller_11 lk_X9_isPrice (ml_RX9_136 rfl) sm_X9_isPrice (Nat.le_of_ble_eq_true rfl) rfl (isPrice_y hpn) ?_
                refine r_if_eq_n (pc := 14) (a := 1) (tgt := 42) dX9_seller_14 (by decide) (by have := hC.2.1.2.2.2.2.2.2.1; omega) (fun c14 => ?_) (fun c14 => ?_)
                · exfalso; omega
                · skip
                  refine r_iload_n (pc := 17) dX9_seller_17 rfl ?_
                  refine r_callS_P (pc := 18) (As := [.int (nI cn)]) 136 dX9_seller_18 lk_X9_isPrice (ml_RX9_136 rfl) sm_X9_isPrice (Nat.le_of_ble_eq_true rfl) rfl (isPrice_y hcn) ?_
                  refine r_if_eq_n (pc := 21) (a := 1) (tgt := 42) dX9_seller_21 (by decide) (by have := hC.2.1.2.2.2.2.2.2.1; omega) (fun c21 => ?_) (fun c21 => ?_)
                  · exfalso; omega
                  · skip
                    refine r_iload_n (pc := 24) dX9_seller_24 rfl ?_
                    refine r_callS_P (pc := 25) (As := [.int (nI mn)]) 136 dX9_seller_25 lk_X9_isPrice (ml_RX9_136 rfl) sm_X9_isPrice (Nat.le_of_ble_eq_true rfl) rfl (isPrice_y hmn) ?_
                    refine r_if_eq_n (pc := 28) (a := 1) (tgt := 42) dX9_seller_28 (by decide) (by have := hC.2.1.2.2.2.2.2.2.1; omega) (fun c28 => ?_) (fun c28 => ?_)
                    · exfalso; omega
                    · skip
                      refine r_iload (pc := 31) dX9_seller_31 rfl ?_
                      refine r_if_lt_n (pc := 33) (a := 1) (tgt := 42) dX9_seller_33 (by decide) (by have := hC.2.1.2.2.2.2.2.2.1; omega) ?_
                      refine r_iload (pc := 36) dX9_seller_36 rfl ?_
                      refine r_iconst (pc := 38) (v := 1) dX9_seller_38 (by decide) ?_
                      refine r_icmp_le_n (pc := 39) (a := 1) (b := 1) (tgt := 45) dX9_seller_39 (by decide) (by have := hC.2.1.2.2.2.2.2.2.1; omega) (by have := hC.2.1.2.2.2.2.2.2.1; omega) (fun c39 => ?_) (fun c39 => ?_)
                      · skip
                        refine r_aload_n (pc := 45) dX9_seller_45 rfl ?_
                        refine r_get1 (pc := 46) 9 11 79 dX9_seller_46 (fl_RX9_79 rfl) (by decide) rfl (c9_o h9) (c9_p11 h9) ?_
                        refine r_iload_n (pc := 49) dX9_seller_49 rfl ?_
                        refine r_iload_n (pc := 50) dX9_seller_50 rfl ?_
                        refine r_iload_n (pc := 51) dX9_seller_51 rfl ?_
                        refine r_callV_P (pc := 52) (b := 253) (As := [.int (nI pn), .int (nI cn), .int (nI mn)]) 0 281 dX9_seller_52 lk_X0_bestBack (ml_RX9_281 rfl) im_X0_bestBack se_X0_bestBack (by decide) (c0_o (c9_s11 h9)) (Nat.le_of_ble_eq_true rfl) rfl (bestBack_ct (c9_s11 h9) hC.2.1.2.2.2.2.2.1 hC.2.1.2.2.2.2.2.2.1 (by omega)) ?_
                        refine r_istore (pc := 55) (L' := [some (.ref 0), some (.int (nI pn)), some (.int (nI cn)), some (.int (nI mn)), some (.int (nI 1)), some (.int (nI (bsF (fun b => seF I 253 (sZ s) (nI pn) (nI cn) (nI mn) (nI b)) cn)))]) dX9_seller_55 (by decide) rfl rfl ?_
                        refine r_iload (pc := 57) dX9_seller_57 rfl ?_
                        refine r_if_ne_n (pc := 59) (a := 1) (tgt := 67) dX9_seller_59 (by decide) (by have := hC.2.1.2.2.2.2.2.2.1; omega) (fun c59 => ?_) (fun c59 => ?_)
                        · skip
                          refine r_aload_n (pc := 67) dX9_seller_67 rfl ?_
                          refine r_get1 (pc := 68) 9 11 79 dX9_seller_68 (fl_RX9_79 rfl) (by decide) rfl (c9_o h9) (c9_p11 h9) ?_
                          refine r_iload_n (pc := 71) dX9_seller_71 rfl ?_
                          refine r_iload_n (pc := 72) dX9_seller_72 rfl ?_
                          refine r_iload_n (pc := 73) dX9_seller_73 rfl ?_
                          refine r_iload (pc := 74) dX9_seller_74 rfl ?_
                          refine r_callV_P (pc := 76) (b := 253) (As := [.int (nI pn), .int (nI cn), .int (nI mn), .int (nI (bsF (fun b => seF I 253 (sZ s) (nI pn) (nI cn) (nI mn) (nI b)) cn))]) 0 284 dX9_seller_76 lk_X0_sellerExpects (ml_RX9_284 rfl) im_X0_sellerExpects se_X0_sellerExpects (by decide) (c0_o (c9_s11 h9)) (Nat.le_of_ble_eq_true rfl) rfl (sellerExpects_ct (c9_s11 h9) hC.2.1.2.2.2.2.2.1 hC.2.1.2.2.2.2.2.2.1) ?_
                          refine r_ret_i (pc := 79) dX9_seller_79 rfl ?_
                          exact ⟨_, rfl, I, G, rfl, (by unfold aSeller; rw [if_neg hz, atN_s ep, atN_s ec, atN_s em, atN_s ew]; rw [show (fun b => seA (sW s) (sV s) (sZ s) (nI pn) (nI cn) (nI mn) (nI b)) = (fun b => seF I 253 (sZ s) (nI pn) (nI cn) (nI mn) (nI b)) from funext (fun b => (se_eq hC.2.1.2.2.2.2.2 _ _ _ _).symm)]; rw [se_eq hC.2.1.2.2.2.2.2] <;> rfl), hC, hFr.m, hGk.gk⟩
                        · exfalso; omega
                      · exfalso; omega
          · skip
            refine r_aload_n (pc := 0) dX9_seller_0 rfl ?_
            refine r_get1 (pc := 1) 9 11 79 dX9_seller_1 (fl_RX9_79 rfl) (by decide) rfl (c9_o h9) (c9_p11 h9) ?_
            refine r_getIv (pc := 4) 0 2 272 dX9_seller_4 (fl_RX9_272 rfl) (by decide) rfl (c0_o (c9_s11 h9)) (v := nI (sZ s)) (hC.2.1.2.2.2.2.2.1) ?_
            refine r_if_eq_n (pc := 7) (a := sZ s) (tgt := 42) dX9_seller_7 (by decide) (by have := hC.2.1.2.2.2.2.2.2.1; omega) (fun c7 => ?_) (fun c7 => ?_)
            · exfalso; exact hz c7
            · skip
              refine r_iload_n (pc := 10) dX9_seller_10 rfl ?_
              refine r_callS_P (pc := 11) (As := [.int (nI pn)]) 136 dX9_seller_11 lk_X9_isPrice (ml_RX9_136 rfl) sm_X9_isPrice (Nat.le_of_ble_eq_true rfl) rfl (isPrice_y hpn) ?_
              refine r_if_eq_n (pc := 14) (a := 1) (tgt := 42) dX9_seller_14 (by decide) (by have := hC.2.1.2.2.2.2.2.2.1; omega) (fun c14 => ?_) (fun c14 => ?_)
              · exfalso; omega
              · skip
                refine r_iload_n (pc := 17) dX9_seller_17 rfl ?_
                refine r_callS_P (pc := 18) (As := [.int (nI cn)]) 136 dX9_seller_18 lk_X9_isPrice (ml_RX9_136 rfl) sm_X9_isPrice (Nat.le_of_ble_eq_true rfl) rfl (isPrice_y hcn) ?_
                refine r_if_eq_n (pc := 21) (a := 1) (tgt := 42) dX9_seller_21 (by decide) (by have := hC.2.1.2.2.2.2.2.2.1; omega) (fun c21 => ?_) (fun c21 => ?_)
                · exfalso; omega
                · skip
                  refine r_iload_n (pc := 24) dX9_seller_24 rfl ?_
                  refine r_callS_P (pc := 25) (As := [.int (nI mn)]) 136 dX9_seller_25 lk_X9_isPrice (ml_RX9_136 rfl) sm_X9_isPrice (Nat.le_of_ble_eq_true rfl) rfl (isPrice_y hmn) ?_
                  refine r_if_eq_n (pc := 28) (a := 1) (tgt := 42) dX9_seller_28 (by decide) (by have := hC.2.1.2.2.2.2.2.2.1; omega) (fun c28 => ?_) (fun c28 => ?_)
                  · exfalso; omega
                  · skip
                    refine r_iload (pc := 31) dX9_seller_31 rfl ?_
                    refine r_if_lt (pc := 33) (x := w) (tgt := 42) dX9_seller_33 (by decide) (fun c33 => ?_) (fun c33 => ?_)
                    · skip
                      refine r_ldc (pc := 42) (v := -100000000) dX9_seller_42 (kc_RX9_174 rfl) ?_
                      refine r_ret_i (pc := 44) dX9_seller_44 rfl ?_
                      exact ⟨_, rfl, I, G, rfl, (by unfold aSeller; rw [if_neg hz, atN_s ep, atN_s ec, atN_s em, atN_n ew] <;> rfl), hC, hFr.m, hGk.gk⟩
                    · skip
                      refine r_iload (pc := 36) dX9_seller_36 rfl ?_
                      refine r_iconst (pc := 38) (v := 1) dX9_seller_38 (by decide) ?_
                      refine r_icmp_le (pc := 39) (x := w) (z := 1) (tgt := 45) dX9_seller_39 (by decide) (fun c39 => ?_) (fun c39 => ?_)
                      · exfalso; exact rg_no (n := 1) (by omega) hnow c33 c39
                      · skip
                        refine r_ldc (pc := 42) (v := -100000000) dX9_seller_42 (kc_RX9_174 rfl) ?_
                        refine r_ret_i (pc := 44) dX9_seller_44 rfl ?_
                        exact ⟨_, rfl, I, G, rfl, (by unfold aSeller; rw [if_neg hz, atN_s ep, atN_s ec, atN_s em, atN_n ew] <;> rfl), hC, hFr.m, hGk.gk⟩
        · skip
          refine r_aload_n (pc := 0) dX9_seller_0 rfl ?_
          refine r_get1 (pc := 1) 9 11 79 dX9_seller_1 (fl_RX9_79 rfl) (by decide) rfl (c9_o h9) (c9_p11 h9) ?_
          refine r_getIv (pc := 4) 0 2 272 dX9_seller_4 (fl_RX9_272 rfl) (by decide) rfl (c0_o (c9_s11 h9)) (v := nI (sZ s)) (hC.2.1.2.2.2.2.2.1) ?_
          refine r_if_eq_n (pc := 7) (a := sZ s) (tgt := 42) dX9_seller_7 (by decide) (by have := hC.2.1.2.2.2.2.2.2.1; omega) (fun c7 => ?_) (fun c7 => ?_)
          · exfalso; exact hz c7
          · skip
            refine r_iload_n (pc := 10) dX9_seller_10 rfl ?_
            refine r_callS_P (pc := 11) (As := [.int (nI pn)]) 136 dX9_seller_11 lk_X9_isPrice (ml_RX9_136 rfl) sm_X9_isPrice (Nat.le_of_ble_eq_true rfl) rfl (isPrice_y hpn) ?_
            refine r_if_eq_n (pc := 14) (a := 1) (tgt := 42) dX9_seller_14 (by decide) (by have := hC.2.1.2.2.2.2.2.2.1; omega) (fun c14 => ?_) (fun c14 => ?_)
            · exfalso; omega
            · skip
              refine r_iload_n (pc := 17) dX9_seller_17 rfl ?_
              refine r_callS_P (pc := 18) (As := [.int (nI cn)]) 136 dX9_seller_18 lk_X9_isPrice (ml_RX9_136 rfl) sm_X9_isPrice (Nat.le_of_ble_eq_true rfl) rfl (isPrice_y hcn) ?_
              refine r_if_eq_n (pc := 21) (a := 1) (tgt := 42) dX9_seller_21 (by decide) (by have := hC.2.1.2.2.2.2.2.2.1; omega) (fun c21 => ?_) (fun c21 => ?_)
              · exfalso; omega
              · skip
                refine r_iload_n (pc := 24) dX9_seller_24 rfl ?_
                refine r_callS_P (pc := 25) (As := [.int m]) 136 dX9_seller_25 lk_X9_isPrice (ml_RX9_136 rfl) sm_X9_isPrice (Nat.le_of_ble_eq_true rfl) rfl (isPrice_n hnom) ?_
                refine r_if_eq_n (pc := 28) (a := 0) (tgt := 42) dX9_seller_28 (by decide) (by have := hC.2.1.2.2.2.2.2.2.1; omega) (fun c28 => ?_) (fun c28 => ?_)
                · skip
                  refine r_ldc (pc := 42) (v := -100000000) dX9_seller_42 (kc_RX9_174 rfl) ?_
                  refine r_ret_i (pc := 44) dX9_seller_44 rfl ?_
                  exact ⟨_, rfl, I, G, rfl, (by unfold aSeller; rw [if_neg hz, atN_s ep, atN_s ec, atN_n em] <;> rfl), hC, hFr.m, hGk.gk⟩
                · exfalso; omega
      · skip
        refine r_aload_n (pc := 0) dX9_seller_0 rfl ?_
        refine r_get1 (pc := 1) 9 11 79 dX9_seller_1 (fl_RX9_79 rfl) (by decide) rfl (c9_o h9) (c9_p11 h9) ?_
        refine r_getIv (pc := 4) 0 2 272 dX9_seller_4 (fl_RX9_272 rfl) (by decide) rfl (c0_o (c9_s11 h9)) (v := nI (sZ s)) (hC.2.1.2.2.2.2.2.1) ?_
        refine r_if_eq_n (pc := 7) (a := sZ s) (tgt := 42) dX9_seller_7 (by decide) (by have := hC.2.1.2.2.2.2.2.2.1; omega) (fun c7 => ?_) (fun c7 => ?_)
        · exfalso; exact hz c7
        · skip
          refine r_iload_n (pc := 10) dX9_seller_10 rfl ?_
          refine r_callS_P (pc := 11) (As := [.int (nI pn)]) 136 dX9_seller_11 lk_X9_isPrice (ml_RX9_136 rfl) sm_X9_isPrice (Nat.le_of_ble_eq_true rfl) rfl (isPrice_y hpn) ?_
          refine r_if_eq_n (pc := 14) (a := 1) (tgt := 42) dX9_seller_14 (by decide) (by have := hC.2.1.2.2.2.2.2.2.1; omega) (fun c14 => ?_) (fun c14 => ?_)
          · exfalso; omega
          · skip
            refine r_iload_n (pc := 17) dX9_seller_17 rfl ?_
            refine r_callS_P (pc := 18) (As := [.int c]) 136 dX9_seller_18 lk_X9_isPrice (ml_RX9_136 rfl) sm_X9_isPrice (Nat.le_of_ble_eq_true rfl) rfl (isPrice_n hnoc) ?_
            refine r_if_eq_n (pc := 21) (a := 0) (tgt := 42) dX9_seller_21 (by decide) (by have := hC.2.1.2.2.2.2.2.2.1; omega) (fun c21 => ?_) (fun c21 => ?_)
            · skip
              refine r_ldc (pc := 42) (v := -100000000) dX9_seller_42 (kc_RX9_174 rfl) ?_
              refine r_ret_i (pc := 44) dX9_seller_44 rfl ?_
              exact ⟨_, rfl, I, G, rfl, (by unfold aSeller; rw [if_neg hz, atN_s ep, atN_n ec] <;> rfl), hC, hFr.m, hGk.gk⟩
            · exfalso; omega
    · skip
      refine r_aload_n (pc := 0) dX9_seller_0 rfl ?_
      refine r_get1 (pc := 1) 9 11 79 dX9_seller_1 (fl_RX9_79 rfl) (by decide) rfl (c9_o h9) (c9_p11 h9) ?_
      refine r_getIv (pc := 4) 0 2 272 dX9_seller_4 (fl_RX9_272 rfl) (by decide) rfl (c0_o (c9_s11 h9)) (v := nI (sZ s)) (hC.2.1.2.2.2.2.2.1) ?_
      refine r_if_eq_n (pc := 7) (a := sZ s) (tgt := 42) dX9_seller_7 (by decide) (by have := hC.2.1.2.2.2.2.2.2.1; omega) (fun c7 => ?_) (fun c7 => ?_)
      · exfalso; exact hz c7
      · skip
        refine r_iload_n (pc := 10) dX9_seller_10 rfl ?_
        refine r_callS_P (pc := 11) (As := [.int p]) 136 dX9_seller_11 lk_X9_isPrice (ml_RX9_136 rfl) sm_X9_isPrice (Nat.le_of_ble_eq_true rfl) rfl (isPrice_n hnop) ?_
        refine r_if_eq_n (pc := 14) (a := 0) (tgt := 42) dX9_seller_14 (by decide) (by have := hC.2.1.2.2.2.2.2.2.1; omega) (fun c14 => ?_) (fun c14 => ?_)
        · skip
          refine r_ldc (pc := 42) (v := -100000000) dX9_seller_42 (kc_RX9_174 rfl) ?_
          refine r_ret_i (pc := 44) dX9_seller_44 rfl ?_
          exact ⟨_, rfl, I, G, rfl, (by unfold aSeller; rw [if_neg hz, atN_n ep] <;> rfl), hC, hFr.m, hGk.gk⟩
        · exfalso; omega

def fChance (s : Sta) (w g : Int32) : Int32 × Sta := atQ 61 w (-1, s) fun w => atQ 100 g (-1, s) fun g => if 1 ≤ g ∧ sZ s < 12 then (nI (sZ s + 1), sCh s (sZ s + 1) (fu (sW s) (sZ s) w) (fu (sV s) (sZ s) g)) else (-1, s)
def fClear (s : Sta) : Int32 × Sta := (nI (sZ s), sCh s 0 (sW s) (sV s))
theorem waA_up {cg : Nat → Nat} {sz g : Nat} : waA (fu cg sz g) (sz + 1) = waA cg sz + nI g := by
  show sm (fun k => nI (fu cg sz g k)) sz + nI (fu cg sz g sz) = _
  rw [fu_at]
  congr 1
  exact sm_congr _ (fun k hk => by rw [fu_ne (by omega)])

set_option maxHeartbeats 300000 in
set_option maxRecDepth 100000 in
theorem chance_c {d : Nat} {I : Im} {G : Gm} {s : Sta} (hC : Ci s I G) {w g : Int32} : Ct (d + 2) 0 0 YX9_chance [.ref 0, .int w, .int g] (I, G) (qX (fun v M => PcQ (fChance s w g).2 I G (fChance s w g).1 v M)) := by
  refine Ct.of (by decide) (by simp [Value.category]) (Nat.le_of_ble_eq_true rfl) ?_
  have h9 := hC.1.1
  have hcn10 := hC.2.1.2.1
  have hFr : FrC I I := FrC.rf
  have hGk : Geq G G := Geq.rf
  show wp _ _ _ _ 0 [some (.ref 0), some (.int w), some (.int g)] [] _ _
  rcases in_cases (n := 61) (by omega) w with ⟨wn, hwn, rfl, ew⟩ | ⟨ew, hnow⟩
  · skip
    rcases in_cases (n := 100) (by omega) g with ⟨gn, hgn, rfl, eg⟩ | ⟨eg, hnog⟩
    · skip
      refine r_iload_n (pc := 0) dX9_chance_0 rfl ?_
      refine r_if_lt_n (pc := 1) (a := wn) (tgt := 21) dX9_chance_1 (by decide) (by omega) ?_
      refine r_iload_n (pc := 4) dX9_chance_4 rfl ?_
      refine r_bipush (pc := 5) (v := 60) dX9_chance_5 (by decide) ?_
      refine r_icmp_gt_n (pc := 7) (a := wn) (b := 60) (tgt := 21) dX9_chance_7 (by decide) (by omega) (by omega) (fun c7 => ?_) (fun c7 => ?_)
      · exfalso; omega
      · skip
        refine r_iload_n (pc := 10) dX9_chance_10 rfl ?_
        refine r_iconst (pc := 11) (v := 1) dX9_chance_11 (by decide) ?_
        refine r_icmp_lt_n (pc := 12) (a := gn) (b := 1) (tgt := 21) dX9_chance_12 (by decide) (by omega) (by omega) (fun c12 => ?_) (fun c12 => ?_)
        · skip
          refine r_iconst (pc := 21) (v := -1) dX9_chance_21 (by decide) ?_
          refine r_ret_i (pc := 22) dX9_chance_22 rfl ?_
          exact ⟨_, rfl, I, G, rfl, by unfold fChance; rw [atQ_s ew, atQ_s eg, if_neg (by omega)], by unfold fChance; rw [atQ_s ew, atQ_s eg, if_neg (by omega)]; exact hC, hFr.m, Geq.rf.gk⟩
        · skip
          refine r_iload_n (pc := 15) dX9_chance_15 rfl ?_
          refine r_bipush (pc := 16) (v := 99) dX9_chance_16 (by decide) ?_
          refine r_icmp_le_n (pc := 18) (a := gn) (b := 99) (tgt := 23) dX9_chance_18 (by decide) (by omega) (by omega) (fun c18 => ?_) (fun c18 => ?_)
          · skip
            refine r_aload_n (pc := 23) dX9_chance_23 rfl ?_
            refine r_get1 (pc := 24) 9 11 79 dX9_chance_24 (fl_RX9_79 rfl) (by decide) rfl (c9_o h9) (c9_p11 h9) ?_
            refine r_iload_n (pc := 27) dX9_chance_27 rfl ?_
            refine r_iload_n (pc := 28) dX9_chance_28 rfl ?_
            refine r_callV_M (pc := 29) (b := 253) (As := [.int (nI wn), .int (nI gn)]) 0 265 dX9_chance_29 lk_X0_more (ml_RX9_265 rfl) im_X0_more se_X0_more (by decide) (c0_o (c9_s11 h9)) (Nat.le_of_ble_eq_true rfl) rfl (more_ct (c9_s11 h9) hC.2.1.2.2.2.2.2.1 hC.2.1.2.2.2.2.2.2.1) (fun v29 Ia hIa => ?_)
            refine r_ret_i (pc := 32) dX9_chance_32 rfl ?_
            rcases hIa with ⟨h12, hv, rfl⟩ | ⟨h12, hv, hI9⟩
            · exact ⟨_, rfl, Ia, G, rfl, by unfold fChance; rw [atQ_s ew, atQ_s eg, if_neg (by omega)]; exact hv, by unfold fChance; rw [atQ_s ew, atQ_s eg, if_neg (by omega)]; exact hC, hFr.m, Geq.rf.gk⟩
            · have hch := hC.2.1.2.2.2.2.2
              refine ⟨_, rfl, Ia, G, rfl, by unfold fChance; rw [atQ_s ew, atQ_s eg, if_pos (by omega)]; exact hv, ?_, fun x j h1 h2 => by rw [hI9, up2_rd (by omega), up2_rd (by omega), up2_rd (by omega), up2_rd (by omega)], Geq.rf.gk⟩
              unfold fChance
              rw [atQ_s ew, atQ_s eg, if_pos (by omega)]
              refine hC.ch ⟨by rw [hI9]; exact up2_at, by omega, fun k hk => ?_, fun k => ?_, ?_⟩ (fun a j z => by rw [hI9, up2_rd (by omega), up2_rd (by omega), up2_rd (by omega), up2_rd (by omega)])
              · by_cases e : k = sZ s
                · rw [e, fu_at, fu_at, hI9]
                  exact ⟨(up2_rd (by omega)).trans ((up2_rd (by omega)).trans ((up2_rd (by omega)).trans up2_at)), (up2_rd (by omega)).trans ((up2_rd (by omega)).trans up2_at)⟩
                · rw [fu_ne e, fu_ne e, hI9]
                  have q := hch.2.2.1 k (by omega)
                  exact ⟨(up2_rd (by omega)).trans ((up2_rd (by omega)).trans ((up2_rd (by omega)).trans ((up2_rd (by omega)).trans q.1))), (up2_rd (by omega)).trans ((up2_rd (by omega)).trans ((up2_rd (by omega)).trans ((up2_rd (by omega)).trans q.2)))⟩
              · unfold fu
                split
                · omega
                · exact hch.2.2.2.1 k
              · rw [hI9, up2_rd (by omega), up2_at, waA_up, hch.2.2.2.2]
          · exfalso; omega
    · skip
      refine r_iload_n (pc := 0) dX9_chance_0 rfl ?_
      refine r_if_lt_n (pc := 1) (a := wn) (tgt := 21) dX9_chance_1 (by decide) (by omega) ?_
      refine r_iload_n (pc := 4) dX9_chance_4 rfl ?_
      refine r_bipush (pc := 5) (v := 60) dX9_chance_5 (by decide) ?_
      refine r_icmp_gt_n (pc := 7) (a := wn) (b := 60) (tgt := 21) dX9_chance_7 (by decide) (by omega) (by omega) (fun c7 => ?_) (fun c7 => ?_)
      · exfalso; omega
      · skip
        refine r_iload_n (pc := 10) dX9_chance_10 rfl ?_
        refine r_iconst (pc := 11) (v := 1) dX9_chance_11 (by decide) ?_
        refine r_icmp_lt (pc := 12) (x := g) (z := 1) (tgt := 21) dX9_chance_12 (by decide) (fun c12 => ?_) (fun c12 => ?_)
        · skip
          refine r_iconst (pc := 21) (v := -1) dX9_chance_21 (by decide) ?_
          refine r_ret_i (pc := 22) dX9_chance_22 rfl ?_
          exact ⟨_, rfl, I, G, rfl, by unfold fChance; rw [atQ_s ew, atQ_n eg] <;> rfl, by unfold fChance; rw [atQ_s ew, atQ_n eg]; exact hC, hFr.m, Geq.rf.gk⟩
        · skip
          refine r_iload_n (pc := 15) dX9_chance_15 rfl ?_
          refine r_bipush (pc := 16) (v := 99) dX9_chance_16 (by decide) ?_
          refine r_icmp_le (pc := 18) (x := g) (z := 99) (tgt := 23) dX9_chance_18 (by decide) (fun c18 => ?_) (fun c18 => ?_)
          · exfalso; exact rg_no (n := 99) (by omega) hnog (fun q => c12 (Int32.lt_of_lt_of_le q (by decide))) c18
          · skip
            refine r_iconst (pc := 21) (v := -1) dX9_chance_21 (by decide) ?_
            refine r_ret_i (pc := 22) dX9_chance_22 rfl ?_
            exact ⟨_, rfl, I, G, rfl, by unfold fChance; rw [atQ_s ew, atQ_n eg] <;> rfl, by unfold fChance; rw [atQ_s ew, atQ_n eg]; exact hC, hFr.m, Geq.rf.gk⟩
  · skip
    refine r_iload_n (pc := 0) dX9_chance_0 rfl ?_
    refine r_if_lt (pc := 1) (x := w) (tgt := 21) dX9_chance_1 (by decide) (fun c1 => ?_) (fun c1 => ?_)
    · skip
      refine r_iconst (pc := 21) (v := -1) dX9_chance_21 (by decide) ?_
      refine r_ret_i (pc := 22) dX9_chance_22 rfl ?_
      exact ⟨_, rfl, I, G, rfl, by unfold fChance; rw [atQ_n ew] <;> rfl, by unfold fChance; rw [atQ_n ew]; exact hC, hFr.m, Geq.rf.gk⟩
    · skip
      refine r_iload_n (pc := 4) dX9_chance_4 rfl ?_
      refine r_bipush (pc := 5) (v := 60) dX9_chance_5 (by decide) ?_
      refine r_icmp_gt (pc := 7) (x := w) (z := 60) (tgt := 21) dX9_chance_7 (by decide) (fun c7 => ?_) (fun c7 => ?_)
      · skip
        refine r_iconst (pc := 21) (v := -1) dX9_chance_21 (by decide) ?_
        refine r_ret_i (pc := 22) dX9_chance_22 rfl ?_
        exact ⟨_, rfl, I, G, rfl, by unfold fChance; rw [atQ_n ew] <;> rfl, by unfold fChance; rw [atQ_n ew]; exact hC, hFr.m, Geq.rf.gk⟩
      · exfalso; exact rg_no (n := 60) (by omega) hnow c1 (Int32.not_lt.mp c7)

set_option maxHeartbeats 300000 in
set_option maxRecDepth 100000 in
theorem clear_c {d : Nat} {I : Im} {G : Gm} {s : Sta} (hC : Ci s I G) : Ct (d + 2) 0 0 YX9_clear [.ref 0] (I, G) (qX (fun v M => PcQ (fClear s).2 I G (fClear s).1 v M)) := by
  refine Ct.of (by decide) (by simp [Value.category]) (Nat.le_of_ble_eq_true rfl) ?_
  have h9 := hC.1.1
  have hcn10 := hC.2.1.2.1
  have hFr : FrC I I := FrC.rf
  have hGk : Geq G G := Geq.rf
  show wp _ _ _ _ 0 [some (.ref 0)] [] _ _
  refine r_aload_n (pc := 0) dX9_clear_0 rfl ?_
  refine r_get1 (pc := 1) 9 11 79 dX9_clear_1 (fl_RX9_79 rfl) (by decide) rfl (c9_o h9) (c9_p11 h9) ?_
  refine r_callV_M (pc := 4) (b := 253) (As := []) 0 269 dX9_clear_4 lk_X0_forget (ml_RX9_269 rfl) im_X0_forget se_X0_forget (by decide) (c0_o (c9_s11 h9)) (Nat.le_of_ble_eq_true rfl) rfl (forget_ct (c9_s11 h9) hC.2.1.2.2.2.2.2.1 hC.2.1.2.2.2.2.2.2.1) (fun v4 Ia hIa => ?_)
  obtain ⟨hv, hIa⟩ := hIa
  refine r_ret_i (pc := 7) dX9_clear_7 rfl ?_
  have hch := hC.2.1.2.2.2.2.2
  exact ⟨_, rfl, Ia, G, rfl, hv, hC.ch ⟨by rw [hIa, up2_rd (by omega)]; exact up2_at, Nat.zero_le _, fun k hk => absurd hk (Nat.not_lt_zero _), hch.2.2.2.1, by rw [hIa]; exact up2_at⟩ (fun a j z => by rw [hIa, up2_rd (by omega), up2_rd (by omega)]), fun x j h1 h2 => by rw [hIa, up2_rd (by omega), up2_rd (by omega)], Geq.rf.gk⟩

theorem out3 {w : Int32} (h : ¬ (0 ≤ w ∧ w < nI 3)) : w.toInt < 0 ∨ 2 < w.toInt := by
  rw [Int32.le_iff_toInt_le, Int32.lt_iff_toInt_lt, nI_toInt (by omega)] at h
  have h : ¬ ((0 : Int) ≤ w.toInt ∧ w.toInt < 3) := h
  omega

set_option maxHeartbeats 300000 in
set_option maxRecDepth 100000 in
theorem count_c {d : Nat} {I : Im} {G : Gm} {s : Sta} (hC : Ci s I G) {w : Int32} : Ct (d + 1) 0 0 YX9_count [.ref 0, .int w] (I, G) (qX (PcQ s I G (aCount s w))) := by
  refine Ct.of (by decide) (by simp [Value.category]) (Nat.le_of_ble_eq_true rfl) ?_
  have h9 := hC.1.1
  have hcn10 := hC.2.1.2.1
  have hFr : FrC I I := FrC.rf
  have hGk : Geq G G := Geq.rf
  show wp _ _ _ _ 0 [some (.ref 0), some (.int w)] [] _ _
  rcases in_cases (n := 3) (by omega) w with ⟨wn, hwn, rfl, ew⟩ | ⟨ew, hnow⟩
  · skip
    rcases (show wn = 0 ∨ wn = 1 ∨ wn = 2 by omega) with rfl | rfl | rfl
    · skip
      refine r_iload_n (pc := 0) dX9_count_0 rfl ?_
      refine r_tblIn (pc := 1) (x := nI 0) (off := 27) (tgt := 28) dX9_count_1 (by decide) (by decide) (by decide) (by decide) ?_
      refine r_aload_n (pc := 28) dX9_count_28 rfl ?_
      refine r_getIv (pc := 29) 9 2 22 dX9_count_29 (fl_RX9_22 rfl) (by decide) rfl (c9_o h9) (v := nI (sN s)) (hC.2.1.1) ?_
      refine r_ret_i (pc := 32) dX9_count_32 rfl ?_
      exact ⟨_, rfl, I, G, rfl, (by unfold aCount; rw [atN_s ew] <;> rfl), hC, hFr.m, hGk.gk⟩
    · skip
      refine r_iload_n (pc := 0) dX9_count_0 rfl ?_
      refine r_tblIn (pc := 1) (x := nI 1) (off := 32) (tgt := 33) dX9_count_1 (by decide) (by decide) (by decide) (by decide) ?_
      refine r_aload_n (pc := 33) dX9_count_33 rfl ?_
      refine r_get1 (pc := 34) 9 11 79 dX9_count_34 (fl_RX9_79 rfl) (by decide) rfl (c9_o h9) (c9_p11 h9) ?_
      refine r_getIv (pc := 37) 0 2 272 dX9_count_37 (fl_RX9_272 rfl) (by decide) rfl (c0_o (c9_s11 h9)) (v := nI (sZ s)) (hC.2.1.2.2.2.2.2.1) ?_
      refine r_ret_i (pc := 40) dX9_count_40 rfl ?_
      exact ⟨_, rfl, I, G, rfl, (by unfold aCount; rw [atN_s ew] <;> rfl), hC, hFr.m, hGk.gk⟩
    · skip
      refine r_iload_n (pc := 0) dX9_count_0 rfl ?_
      refine r_tblIn (pc := 1) (x := nI 2) (off := 40) (tgt := 41) dX9_count_1 (by decide) (by decide) (by decide) (by decide) ?_
      refine r_aload_n (pc := 41) dX9_count_41 rfl ?_
      refine r_get1 (pc := 42) 9 0 12 dX9_count_42 (fl_RX9_12 rfl) (by decide) rfl (c9_o h9) (c9_p0 h9) ?_
      refine r_getIv (pc := 45) 6 1 87 dX9_count_45 (fl_RX9_87 rfl) (by decide) rfl (c6_o (c9_s0 h9)) (v := nI ((sT s).1)) (hC.2.1.2.2.1.1) ?_
      refine r_ret_i (pc := 48) dX9_count_48 rfl ?_
      exact ⟨_, rfl, I, G, rfl, (by unfold aCount; rw [atN_s ew] <;> rfl), hC, hFr.m, hGk.gk⟩
  · skip
    refine r_iload_n (pc := 0) dX9_count_0 rfl ?_
    refine r_tblOut (pc := 1) (x := w) (tgt := 49) dX9_count_1 (out3 hnow) (by decide) ?_
    refine r_iconst (pc := 49) (v := -1) dX9_count_49 (by decide) ?_
    refine r_ret_i (pc := 50) dX9_count_50 rfl ?_
    exact ⟨_, rfl, I, G, rfl, (by unfold aCount; rw [atN_n ew] <;> rfl), hC, hFr.m, hGk.gk⟩
