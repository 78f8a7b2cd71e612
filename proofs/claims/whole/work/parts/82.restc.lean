/-! ===== the class: rests ===== -/

set_option maxHeartbeats 300000 in
set_option maxRecDepth 100000 in
theorem rests_c {d : Nat} {I : Im} {G : Gm} {s : Sta} (hC : Ci s I G) {t i : Int32} : Ct (d + 7) 0 0 YX9_rests [.ref 0, .int t, .int i] (I, G) (qX (PcQ s I G (aRst s t i))) := by
  refine Ct.of (by decide) (by simp [Value.category]) (Nat.le_of_ble_eq_true rfl) ?_
  have h9 := hC.1.1
  have hcn10 := hC.2.1.2.1
  have hFr : FrC I I := FrC.rf
  have hGk : Geq G G := Geq.rf
  show wp _ _ _ _ 0 [some (.ref 0), some (.int t), some (.int i), none] [] _ _
  rcases in_cases (n := sN s) (by have := hcn10; omega) t with ⟨k, hk, rfl, et⟩ | ⟨et, hnot⟩
  · skip
    have h8 := hC.1.2.1 k (by omega)
    obtain ⟨hok, hTr⟩ := hC.ok hk
    have hn8 : dN (dK s k) ≤ 8 := hok.1.1.2
    have hoff := tA_off k
    have hE := src_of hok.1 (tdT (sD s k))
    have hW := wbc_of hok.1 (tdT (sD s k))
    have hc60 : ∀ b, dC (dK s k) b ≤ 60 := fun b => Nat.le_trans (hok.1.2.1 b) (by omega)
    have htc := trc_of hok.1 hTr.1 (tdT (sD s k))
    rcases hTr.rest with h12 | ⟨h12, hRv⟩
    · skip
      have hcl := ctB_le (rsR (eK' s k)) 128
      refine r_aload_n (pc := 0) dX9_rests_0 rfl ?_
      refine r_iload_n (pc := 1) dX9_rests_1 rfl ?_
      refine r_callV_R (pc := 2) (b := 0) (As := [.int (nI k)]) 9 98 dX9_rests_2 lk_X9_find (ml_RX9_98 rfl) im_X9_find se_X9_find (by decide) (c9_o h9) (Nat.le_of_ble_eq_true rfl) rfl (find_ct hC.1.1 hC.2.1.1 hcn10 hk (hC.1.2.2.1 k hk)) ?_
      refine r_astore_n (pc := 5) (L' := [some (.ref 0), some (.int (nI k)), some (.int i), some (.ref (tA k))]) dX9_rests_5 (by decide) rfl rfl ?_
      refine r_aload_n (pc := 6) dX9_rests_6 rfl ?_
      refine r_ifnonnullR (pc := 7) (tgt := 12) dX9_rests_7 (by decide) ?_
      refine r_aload_n (pc := 12) dX9_rests_12 rfl ?_
      refine r_getIv (pc := 13) 8 12 156 dX9_rests_13 (fl_RX9_156 rfl) (by decide) rfl (c8_o h8) (v := nI 0) (h12) ?_
      refine r_if_ne_n (pc := 16) (a := 0) (tgt := 46) dX9_rests_16 (by decide) (by omega) (fun c16 => ?_) (fun c16 => ?_)
      · exfalso; omega
      · skip
        refine r_aload_n (pc := 19) dX9_rests_19 rfl ?_
        refine r_get1 (pc := 20) 9 4 34 dX9_rests_20 (fl_RX9_34 rfl) (by decide) rfl (c9_o h9) (c9_p4 h9) ?_
        refine r_aload_n (pc := 23) dX9_rests_23 rfl ?_
        refine r_get1 (pc := 24) 8 7 143 dX9_rests_24 (fl_RX9_143 rfl) (by decide) rfl (c8_o h8) (c8_p7 h8) ?_
        refine r_callV_V (pc := 27) (b := 22) (As := [.ref ((tA k) + 14)]) 7 197 dX9_rests_27 lk_X7_copy (ml_RX9_197 rfl) im_X7_copy se_X7_copy (by decide) (c7_o (c9_s4 h9)) (Nat.le_of_ble_eq_true rfl) rfl (copy_ct (c9_s4 h9) (c8_s7 h8) (by omega) ⟨by rw [hTr.2.1 2 (by omega)]; exact bz_01 _, by rw [hTr.2.1 3 (by omega)]; exact bz_01 _⟩) (fun Ia hIa => ?_)
        have hvA : ∀ j, j < 6 → Ia 22 j = tmv (tdT (sD s k)) j := fun j hj => by rw [hIa, setTm_at hj]; exact hTr.2.1 j hj
        have hC : Ci s Ia G := hC.kq (fun a j z => by rw [hIa]; exact setTm_o (by omega))
        have hfa : ∀ a j, a ≠ 22 → Ia a j = I a j := fun a j z => by rw [hIa]; exact setTm_o z
        have hFr : FrC I Ia := hFr.tr (fun a j z => hfa a j (by omega))
        have hTr := (hC.ok hk).2
        have h9 := hC.1.1
        have h8 := hC.1.2.1 k (by omega)
        have htc := trc_of hok.1 hTr.1 (tdT (sD s k))
        have htm := tm_ok hok.2.1 hvA
        refine r_aload_n (pc := 30) dX9_rests_30 rfl ?_
        refine r_get1 (pc := 31) 9 10 72 dX9_rests_31 (fl_RX9_72 rfl) (by decide) rfl (c9_o h9) (c9_p10 h9) ?_
        refine r_aload_n (pc := 34) dX9_rests_34 rfl ?_
        refine r_aload_n (pc := 35) dX9_rests_35 rfl ?_
        refine r_get1 (pc := 36) 9 4 34 dX9_rests_36 (fl_RX9_34 rfl) (by decide) rfl (c9_o h9) (c9_p4 h9) ?_
        refine r_aload_n (pc := 39) dX9_rests_39 rfl ?_
        refine r_get1 (pc := 40) 9 6 45 dX9_rests_40 (fl_RX9_45 rfl) (by decide) rfl (c9_o h9) (c9_p6 h9) ?_
        refine r_callV_U (pc := 43) (b := 122) (As := [.ref (tA k), .ref 22, .ref 67]) 4 294 dX9_rests_43 lk_X4_findRests (ml_RX9_294 rfl) im_X4_findRests se_X4_findRests (by decide) (c4_o (c9_s10 h9)) (Nat.le_of_ble_eq_true rfl) rfl (findRests2_ct (R := rsR (eK' s k)) (c9_s10 h9) (c9_s6 h9) h8 (c9_s4 h9) (by omega) (by omega) (by omega) (by omega) (by omega) (by omega) htm.1 (trc_c hok.1 hTr.1 _) (coc_of hok.1 hTr.1) (fun x hx => by show _ ↔ rsP (cE (dK s k) (Ia 22)) x; rw [htm.2]; exact rsR_iff _ _) (hC.2.2.2.1.2 k hk)) (fun M2 h2 => ?_)
        obtain ⟨I2, G2, rfl, hG2, hmv, hRv, h12n, hw2, hf2⟩ := h2
        subst hG2
        have hM5 : isC5 G 67 := c9_s6 h9
        have hTrn : TrI I2 (tA k) (sD s k) := ⟨hTr.1.keep (fun c j g1 g2 g3 => hf2 c j (by omega) (by omega) (by omega) (by omega) (by omega)), fun j hj => (hf2 _ _ (by omega) (by omega) (by omega) (by omega) (by omega)).trans (hTr.2.1 j hj), fun j hj => (hf2 _ _ (by omega) (by omega) (by omega) (by omega) (by omega)).trans (hTr.2.2.1 j hj), fun j hj => (hf2 _ _ (by omega) (by omega) (by omega) (by omega) (by omega)).trans (hTr.2.2.2.1 j hj), Or.inr ⟨h12n, rsR (eK' s k), fun y _ => rsR_iff _ _, hRv⟩⟩
        have hOk : ∀ k, k < sN s → TdOK (sD s k) := fun k hk => (hC.ok hk).1
        have hC9 := hC.gen (x := sD s k) (G2 := sG G 67 (tA k)) hk rfl hok hTrn (fun a j z1 z2 => hf2 a j (by omega) (by omega) (by omega) (by omega) (by omega)) (sG_eq hM5) (fun j => sG_ne (Or.inl (by omega))) (sG_ne (Or.inl (by omega))) (hC.2.2.1.keep hOk (sG_ne (Or.inl (by omega))) (fun a j g1 g2 => hf2 a j (by omega) (by omega) (by omega) (by omega) (by omega))) (mki_of hk (sG_at _ _ _) (hmv (sG_at _ _ _)).1 (hmv (sG_at _ _ _)).2) (hC.2.2.2.2.keep (sG_ne (Or.inl (by omega))) (fun a j z => hf2 a j (by omega) (by omega) (by omega) (by omega) (by omega)))
        rw [sUp_self] at hC9
        have hFm : ∀ x j, 256 ≤ x → x ≤ 281 → I2 x j = I x j := fun x j h1 h2 => (hf2 x j (by omega) (by omega) (by omega) (by omega) (by omega)).trans (hfa x j (by omega))
        have hGk : Geq G (sG G 67 (tA k)) := sG_eq hM5
        have h8 := hC9.1.2.1 k (by omega)
        refine r_iload_n (pc := 46) dX9_rests_46 rfl ?_
        refine r_iconst (pc := 47) (v := -1) dX9_rests_47 (by decide) ?_
        refine r_icmp_ne (pc := 48) (x := i) (z := (-1)) (tgt := 56) dX9_rests_48 (by decide) (fun c48 => ?_) (fun c48 => ?_)
        · skip
          refine r_iload_n (pc := 56) dX9_rests_56 rfl ?_
          refine r_if_lt (pc := 57) (x := i) (tgt := 68) dX9_rests_57 (by decide) (fun c57 => ?_) (fun c57 => ?_)
          · skip
            refine r_iconst (pc := 68) (v := -1) dX9_rests_68 (by decide) ?_
            refine r_goto (pc := 69) (tgt := 78) dX9_rests_69 (by decide) ?_
            refine r_ret_i (pc := 78) dX9_rests_78 rfl ?_
            exact ⟨_, rfl, I2, (sG G 67 (tA k)), rfl, (by unfold aRst; rw [atN_s et, ← scA_miss (ls_no (by omega) (fun z => by first | exact absurd c57 (Int32.not_lt.mpr z.1) | exact c65 z.2)), if_neg c48]), hC9, hFm, hGk.gk⟩
          · skip
            refine r_iload_n (pc := 60) dX9_rests_60 rfl ?_
            refine r_aload_n (pc := 61) dX9_rests_61 rfl ?_
            refine r_getIv (pc := 62) 8 11 298 dX9_rests_62 (fl_RX9_298 rfl) (by decide) rfl (c8_o h8) (v := nI (ctB (rsR (eK' s k)) 128)) (hRv.1) ?_
            refine r_icmp_lt (pc := 65) (x := i) (z := nI (ctB (rsR (eK' s k)) 128)) (tgt := 72) dX9_rests_65 (by decide) (fun c65 => ?_) (fun c65 => ?_)
            · skip
              obtain ⟨j, hj, rfl⟩ : ∃ j, j < ctB (rsR (eK' s k)) 128 ∧ i = nI j := by
                  have hz0 := in_cases (n := ctB (rsR (eK' s k)) 128) (by omega) i
                  exact hz0.elim (fun ⟨j, h1, h2, _⟩ => ⟨j, h1, h2⟩) (fun z => absurd ⟨Int32.not_lt.mp c57, c65⟩ z.2)
              obtain ⟨r, hr, hsc, hLr⟩ := ls_at (L := I2 (tA k + 17)) (cd := fun x => 2 * x) (by omega) hRv.2 hj
              · skip
                refine r_aload_n (pc := 72) dX9_rests_72 rfl ?_
                refine r_get1 (pc := 73) 8 10 301 dX9_rests_73 (fl_RX9_301 rfl) (by decide) rfl (c8_o h8) (c8_p10 h8) ?_
                refine r_iload_n (pc := 76) dX9_rests_76 rfl ?_
                refine r_iald_n (pc := 77) (i := j) dX9_rests_77 (c8_a10 h8) (by decide) (by omega) (v := nI (2 * r)) (hLr) ?_
                refine r_ret_i (pc := 78) dX9_rests_78 rfl ?_
                exact ⟨_, rfl, I2, (sG G 67 (tA k)), rfl, (by unfold aRst; rw [atN_s et]; unfold scA; rw [hsc]), hC9, hFm, hGk.gk⟩
            · skip
              refine r_iconst (pc := 68) (v := -1) dX9_rests_68 (by decide) ?_
              refine r_goto (pc := 69) (tgt := 78) dX9_rests_69 (by decide) ?_
              refine r_ret_i (pc := 78) dX9_rests_78 rfl ?_
              exact ⟨_, rfl, I2, (sG G 67 (tA k)), rfl, (by unfold aRst; rw [atN_s et, ← scA_miss (ls_no (by omega) (fun z => by first | exact absurd c57 (Int32.not_lt.mpr z.1) | exact c65 z.2)), if_neg c48]), hC9, hFm, hGk.gk⟩
        · skip
          refine r_aload_n (pc := 51) dX9_rests_51 rfl ?_
          refine r_getIv (pc := 52) 8 11 298 dX9_rests_52 (fl_RX9_298 rfl) (by decide) rfl (c8_o h8) (v := nI (ctB (rsR (eK' s k)) 128)) (hRv.1) ?_
          refine r_ret_i (pc := 55) dX9_rests_55 rfl ?_
          exact ⟨_, rfl, I2, (sG G 67 (tA k)), rfl, (by unfold aRst; rw [atN_s et, ← scA_miss (ls_no (by omega) (fun z => absurd z.1 (by rw [c48]; decide))), if_pos c48]), hC9, hFm, hGk.gk⟩
    · skip
      have hcl := ctB_le (rsR (eK' s k)) 128
      have hC9 := hC
      have hFm : ∀ x j, 256 ≤ x → x ≤ 281 → I x j = I x j := fun _ _ _ _ => rfl
      refine r_aload_n (pc := 0) dX9_rests_0 rfl ?_
      refine r_iload_n (pc := 1) dX9_rests_1 rfl ?_
      refine r_callV_R (pc := 2) (b := 0) (As := [.int (nI k)]) 9 98 dX9_rests_2 lk_X9_find (ml_RX9_98 rfl) im_X9_find se_X9_find (by decide) (c9_o h9) (Nat.le_of_ble_eq_true rfl) rfl (find_ct hC.1.1 hC.2.1.1 hcn10 hk (hC.1.2.2.1 k hk)) ?_
      refine r_astore_n (pc := 5) (L' := [some (.ref 0), some (.int (nI k)), some (.int i), some (.ref (tA k))]) dX9_rests_5 (by decide) rfl rfl ?_
      refine r_aload_n (pc := 6) dX9_rests_6 rfl ?_
      refine r_ifnonnullR (pc := 7) (tgt := 12) dX9_rests_7 (by decide) ?_
      refine r_aload_n (pc := 12) dX9_rests_12 rfl ?_
      refine r_getIv (pc := 13) 8 12 156 dX9_rests_13 (fl_RX9_156 rfl) (by decide) rfl (c8_o h8) (v := nI 1) (h12) ?_
      refine r_if_ne_n (pc := 16) (a := 1) (tgt := 46) dX9_rests_16 (by decide) (by omega) (fun c16 => ?_) (fun c16 => ?_)
      · skip
        refine r_iload_n (pc := 46) dX9_rests_46 rfl ?_
        refine r_iconst (pc := 47) (v := -1) dX9_rests_47 (by decide) ?_
        refine r_icmp_ne (pc := 48) (x := i) (z := (-1)) (tgt := 56) dX9_rests_48 (by decide) (fun c48 => ?_) (fun c48 => ?_)
        · skip
          refine r_iload_n (pc := 56) dX9_rests_56 rfl ?_
          refine r_if_lt (pc := 57) (x := i) (tgt := 68) dX9_rests_57 (by decide) (fun c57 => ?_) (fun c57 => ?_)
          · skip
            refine r_iconst (pc := 68) (v := -1) dX9_rests_68 (by decide) ?_
            refine r_goto (pc := 69) (tgt := 78) dX9_rests_69 (by decide) ?_
            refine r_ret_i (pc := 78) dX9_rests_78 rfl ?_
            exact ⟨_, rfl, I, G, rfl, (by unfold aRst; rw [atN_s et, ← scA_miss (ls_no (by omega) (fun z => by first | exact absurd c57 (Int32.not_lt.mpr z.1) | exact c65 z.2)), if_neg c48]), hC9, hFm, hGk.gk⟩
          · skip
            refine r_iload_n (pc := 60) dX9_rests_60 rfl ?_
            refine r_aload_n (pc := 61) dX9_rests_61 rfl ?_
            refine r_getIv (pc := 62) 8 11 298 dX9_rests_62 (fl_RX9_298 rfl) (by decide) rfl (c8_o h8) (v := nI (ctB (rsR (eK' s k)) 128)) (hRv.1) ?_
            refine r_icmp_lt (pc := 65) (x := i) (z := nI (ctB (rsR (eK' s k)) 128)) (tgt := 72) dX9_rests_65 (by decide) (fun c65 => ?_) (fun c65 => ?_)
            · skip
              obtain ⟨j, hj, rfl⟩ : ∃ j, j < ctB (rsR (eK' s k)) 128 ∧ i = nI j := by
                  have hz0 := in_cases (n := ctB (rsR (eK' s k)) 128) (by omega) i
                  exact hz0.elim (fun ⟨j, h1, h2, _⟩ => ⟨j, h1, h2⟩) (fun z => absurd ⟨Int32.not_lt.mp c57, c65⟩ z.2)
              obtain ⟨r, hr, hsc, hLr⟩ := ls_at (L := I (tA k + 17)) (cd := fun x => 2 * x) (by omega) hRv.2 hj
              · skip
                refine r_aload_n (pc := 72) dX9_rests_72 rfl ?_
                refine r_get1 (pc := 73) 8 10 301 dX9_rests_73 (fl_RX9_301 rfl) (by decide) rfl (c8_o h8) (c8_p10 h8) ?_
                refine r_iload_n (pc := 76) dX9_rests_76 rfl ?_
                refine r_iald_n (pc := 77) (i := j) dX9_rests_77 (c8_a10 h8) (by decide) (by omega) (v := nI (2 * r)) (hLr) ?_
                refine r_ret_i (pc := 78) dX9_rests_78 rfl ?_
                exact ⟨_, rfl, I, G, rfl, (by unfold aRst; rw [atN_s et]; unfold scA; rw [hsc]), hC9, hFm, hGk.gk⟩
            · skip
              refine r_iconst (pc := 68) (v := -1) dX9_rests_68 (by decide) ?_
              refine r_goto (pc := 69) (tgt := 78) dX9_rests_69 (by decide) ?_
              refine r_ret_i (pc := 78) dX9_rests_78 rfl ?_
              exact ⟨_, rfl, I, G, rfl, (by unfold aRst; rw [atN_s et, ← scA_miss (ls_no (by omega) (fun z => by first | exact absurd c57 (Int32.not_lt.mpr z.1) | exact c65 z.2)), if_neg c48]), hC9, hFm, hGk.gk⟩
        · skip
          refine r_aload_n (pc := 51) dX9_rests_51 rfl ?_
          refine r_getIv (pc := 52) 8 11 298 dX9_rests_52 (fl_RX9_298 rfl) (by decide) rfl (c8_o h8) (v := nI (ctB (rsR (eK' s k)) 128)) (hRv.1) ?_
          refine r_ret_i (pc := 55) dX9_rests_55 rfl ?_
          exact ⟨_, rfl, I, G, rfl, (by unfold aRst; rw [atN_s et, ← scA_miss (ls_no (by omega) (fun z => absurd z.1 (by rw [c48]; decide))), if_pos c48]), hC9, hFm, hGk.gk⟩
      · exfalso; omega
  · skip
    refine r_aload_n (pc := 0) dX9_rests_0 rfl ?_
    refine r_iload_n (pc := 1) dX9_rests_1 rfl ?_
    refine r_callV_R (pc := 2) (b := 0) (As := [.int t]) 9 98 dX9_rests_2 lk_X9_find (ml_RX9_98 rfl) im_X9_find se_X9_find (by decide) (c9_o h9) (Nat.le_of_ble_eq_true rfl) rfl (find_no hC.1.1 (by rw [hC.2.1.1]; exact hnot)) ?_
    refine r_astore_nN (pc := 5) (L' := [some (.ref 0), some (.int t), some (.int i), some (.null)]) dX9_rests_5 (by decide) rfl rfl ?_
    refine r_aload_nN (pc := 6) dX9_rests_6 rfl ?_
    refine r_ifnonnullN (pc := 7) dX9_rests_7 ?_
    refine r_iconst (pc := 10) (v := -1) dX9_rests_10 (by decide) ?_
    refine r_ret_i (pc := 11) dX9_rests_11 rfl ?_
    exact ⟨_, rfl, I, G, rfl, (by unfold aRst; rw [atN_n et]), hC, hFr.m, hGk.gk⟩
