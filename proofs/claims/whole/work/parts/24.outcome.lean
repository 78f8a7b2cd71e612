/-! ===== the market: last rows, outcome, sums ===== -/
def lrF (E : Ec) (h : Nat) : Nat := if eS E h = none then rwF (eC E h) else 41
theorem lrF_le (E : Ec) (h : Nat) : lrF E h ≤ 41 := by
  unfold lrF
  split
  · exact rwF_le _
  · omega

set_option maxRecDepth 100000 in
theorem lastRow_ct {d : Nat} {I : Im} {G : Gm} {mb t : Nat} {E : Ec} (hM : isC5 G mb) (hT : isC8 G t) (hsp : mb + 44 ≤ t ∨ t + 18 ≤ mb) (hk : MkC I mb E) (ht : TrC I t E) {h : Nat} (hh : h < eN E) : Ct (d + 2) 0 0 YX5_lastRow [.ref mb, .ref t, .int (nI h)] (I, G) (qP (nI (lrF E h)) (I, G)) := by
  refine Ct.of (by decide) (by simp [Value.category]) (Nat.le_of_ble_eq_true rfl) ?_
  have hn8 := ht.2.1
  show wp _ _ _ _ 0 [some (.ref mb), some (.ref t), some (.int (nI h))] [] _ _
  refine r_aload_n (pc := 0) dX5_lastRow_0 rfl ?_
  refine r_get1 (pc := 1) 8 3 106 dX5_lastRow_1 (fl_RX5_106 rfl) (by decide) rfl (c8_o hT) (c8_p3 hT) ?_
  refine r_iload_n (pc := 4) dX5_lastRow_4 rfl ?_
  refine r_iald_n (pc := 5) (i := h) dX5_lastRow_5 (c8_a3 hT) (by decide) (by omega) (v := sI (eS E h)) (ht.2.2.1 _ (by omega)) ?_
  refine r_iconst (pc := 6) (v := -1) dX5_lastRow_6 (by decide) ?_
  refine r_icmp_ne (pc := 7) (x := sI (eS E h)) (z := (-1)) (tgt := 22) dX5_lastRow_7 (by decide) (fun c7 => ?_) (fun c7 => ?_)
  · skip
    have hlr : 41 = lrF E h := (if_neg (fun q => c7 ((sI_m1 (ht.lt h)).mpr q))).symm
    refine r_bipush (pc := 22) (v := 41) dX5_lastRow_22 (by decide) ?_
    refine r_ret_i (pc := 24) dX5_lastRow_24 rfl ?_
    exact ⟨congrArg (fun z => some (Value.int (nI z))) hlr, rfl⟩
  · skip
    have hcb := hk.2.1 h
    have hlr : rwF (eC E h) = lrF E h := (if_pos ((sI_m1 (ht.lt h)).mp c7)).symm
    refine r_aload_n (pc := 10) dX5_lastRow_10 rfl ?_
    refine r_get1 (pc := 11) 5 2 22 dX5_lastRow_11 (fl_RX5_22 rfl) (by decide) rfl (c5_o hM) (c5_p2 hM) ?_
    refine r_iload_n (pc := 14) dX5_lastRow_14 rfl ?_
    refine r_iald_n (pc := 15) (i := h) dX5_lastRow_15 (c5_a2 hM) (by decide) (by omega) (v := nI (eC E h)) (hk.1 _ (by omega)) ?_
    refine r_callSN_P (pc := 16) (As := [.int (nI (eC E h))]) 84 dX5_lastRow_16 lk_X9_row (nl_RX5_84 rfl) sm_X9_row (Nat.le_of_ble_eq_true rfl) rfl (row_ct (by omega)) ?_
    refine r_goto (pc := 19) (tgt := 24) dX5_lastRow_19 (by decide) ?_
    refine r_ret_i (pc := 24) dX5_lastRow_24 rfl ?_
    exact ⟨congrArg (fun z => some (Value.int (nI z))) hlr, rfl⟩

/-- what h pays: pd -/
def PdH (I : Im) (mb : Nat) (E : Ec) (h pd : Nat) : Prop := pd ≤ 600 ∧ (∀ a, eS E h = some a → ∃ sa, I (mb + 40) a = nI sa ∧ sa ≤ 600 ∧ (jn (eJ E) (nI h) → pd = sa) ∧ (¬ jn (eJ E) (nI h) → I (mb + 30 + 1 + h) (rwF sa) = nI pd)) ∧ (eS E h = none → pd = 0)
def TrQ (I : Im) (mb : Nat) (E : Ec) (h pd : Nat) : Im := up2 (up2 (up2 (up2 I (mb + 39) h (nI pd)) (mb + 40) h (nI (pd + eC E h))) (mb + 41) h (if cnt (eS E) h (eN E) = 0 then I (mb + 21 + 1 + h) (rwF (pd + eC E h)) else -1)) (mb + 42) h (I (mb + 3 + 1 + h) (rwF (pd + eC E h)))

set_option maxRecDepth 100000 in
theorem trace_ct {d : Nat} {I : Im} {G : Gm} {mb t : Nat} {E : Ec} (hM : isC5 G mb) (hT : isC8 G t) (hsp : mb + 44 ≤ t ∨ t + 18 ≤ mb) (hk : MkC I mb E) (ht : TrC I t E) {h pd : Nat} (hh : h < eN E) (hp : PdH I mb E h pd) : Ct (d + 3) 0 0 YX5_trace [.ref mb, .ref t, .int (nI h)] (I, G) (qV G (fun I9 => I9 = TrQ I mb E h pd)) := by
  refine Ct.of (by decide) (by simp [Value.category]) (Nat.le_of_ble_eq_true rfl) ?_
  have hn8 := ht.2.1
  have hcb := hk.2.1 h
  have hp6 := hp.1
  show wp _ _ _ _ 0 [some (.ref mb), some (.ref t), some (.int (nI h)), none] [] _ _
  refine r_aload_n (pc := 0) dX5_trace_0 rfl ?_
  refine r_get1 (pc := 1) 8 3 106 dX5_trace_1 (fl_RX5_106 rfl) (by decide) rfl (c8_o hT) (c8_p3 hT) ?_
  refine r_iload_n (pc := 4) dX5_trace_4 rfl ?_
  refine r_iald_n (pc := 5) (i := h) dX5_trace_5 (c8_a3 hT) (by decide) (by omega) (v := sI (eS E h)) (ht.2.2.1 _ (by omega)) ?_
  refine r_istore_n (pc := 6) (L' := [some (.ref mb), some (.ref t), some (.int (nI h)), some (.int (sI (eS E h)))]) dX5_trace_6 (by decide) rfl rfl ?_
  have k63 : ∀ (I3 : Im), (I3 = up2 I (mb + 39) h (nI pd)) → wp (d + 3) 0 0 YX5_trace 63 [some (.ref mb), some (.ref t), some (.int (nI h)), none] [] (I3, G) (qV G (fun I9 => I9 = TrQ I mb E h pd)) := by
    intro I3 hI3
    have hk3 : MkC I3 mb E := hk.keep (fun a k h3 h4 => by rw [hI3, up2_rd (by omega)])
    have ht3 : TrC I3 t E := ht.keep (fun a k h3 h4 => by rw [hI3, up2_rd (by omega)])
    refine r_aload_n (pc := 63) dX5_trace_63 rfl ?_
    refine r_get1 (pc := 64) 5 8 43 dX5_trace_64 (fl_RX5_43 rfl) (by decide) rfl (c5_o hM) (c5_p8 hM) ?_
    refine r_iload_n (pc := 67) dX5_trace_67 rfl ?_
    refine r_aload_n (pc := 68) dX5_trace_68 rfl ?_
    refine r_get1 (pc := 69) 5 7 40 dX5_trace_69 (fl_RX5_40 rfl) (by decide) rfl (c5_o hM) (c5_p7 hM) ?_
    refine r_iload_n (pc := 72) dX5_trace_72 rfl ?_
    refine r_iald_n (pc := 73) (i := h) dX5_trace_73 (c5_a7 hM) (by decide) (by omega) (v := nI pd) ((by rw [hI3]; exact up2_at)) ?_
    refine r_aload_n (pc := 74) dX5_trace_74 rfl ?_
    refine r_get1 (pc := 75) 5 2 22 dX5_trace_75 (fl_RX5_22 rfl) (by decide) rfl (c5_o hM) (c5_p2 hM) ?_
    refine r_iload_n (pc := 78) dX5_trace_78 rfl ?_
    refine r_iald_n (pc := 79) (i := h) dX5_trace_79 (c5_a2 hM) (by decide) (by omega) (v := nI (eC E h)) (hk3.1 _ (by omega)) ?_
    refine r_iadd_n (pc := 80) (a := pd) (b := eC E h) dX5_trace_80 ?_
    refine r_iast_n (pc := 81) (i := h) (v := nI (pd + (eC E h))) dX5_trace_81 (c5_a8 hM) (by decide) (by omega) ?_
    obtain ⟨I4, hI4⟩ : ∃ z : Im, z = up2 I3 (mb + 40) h (nI (pd + (eC E h))) := ⟨_, rfl⟩
    refine wp_M (M2 := (I4, G)) (by subst hI4; rfl) ?_
    have hk4 : MkC I4 mb E := hk3.keep (fun a k h3 h4 => by rw [hI4, up2_rd (by omega)])
    have ht4 : TrC I4 t E := ht3.keep (fun a k h3 h4 => by rw [hI4, up2_rd (by omega)])
    have k115 : ∀ (av : Int32), (av = if cnt (eS E) h (eN E) = 0 then I (mb + 21 + 1 + h) (rwF (pd + eC E h)) else -1) → wp (d + 3) 0 0 YX5_trace 115 [some (.ref mb), some (.ref t), some (.int (nI h)), none] [.int av, .int (nI h), .ref (mb + 41)] (I4, G) (qV G (fun I9 => I9 = TrQ I mb E h pd)) := by
      intro av hav
      refine r_iast_n (pc := 115) (i := h) (v := av) dX5_trace_115 (c5_a9 hM) (by decide) (by omega) ?_
      refine r_aload_n (pc := 116) dX5_trace_116 rfl ?_
      refine r_get1 (pc := 117) 5 10 49 dX5_trace_117 (fl_RX5_49 rfl) (by decide) rfl (c5_o hM) (c5_p10 hM) ?_
      refine r_iload_n (pc := 120) dX5_trace_120 rfl ?_
      refine r_aload_n (pc := 121) dX5_trace_121 rfl ?_
      refine r_get1 (pc := 122) 5 3 28 dX5_trace_122 (fl_RX5_28 rfl) (by decide) rfl (c5_o hM) (c5_p3 hM) ?_
      refine r_iload_n (pc := 125) dX5_trace_125 rfl ?_
      refine r_aald1_n (pc := 126) (i := h) 6 dX5_trace_126 (by decide) (c5_a3 hM) (by decide) (by omega) (c5_q3 hM (by omega)) ?_
      refine r_aload_n (pc := 127) dX5_trace_127 rfl ?_
      refine r_get1 (pc := 128) 5 8 43 dX5_trace_128 (fl_RX5_43 rfl) (by decide) rfl (c5_o hM) (c5_p8 hM) ?_
      refine r_iload_n (pc := 131) dX5_trace_131 rfl ?_
      refine r_iald_n (pc := 132) (i := h) dX5_trace_132 (c5_a8 hM) (by decide) (by omega) (v := nI (pd + eC E h)) ((up2_rd (by omega)).trans ((by rw [hI4]; exact up2_at))) ?_
      refine r_callSN_P (pc := 133) (As := [.int (nI (pd + eC E h))]) 84 dX5_trace_133 lk_X9_row (nl_RX5_84 rfl) sm_X9_row (Nat.le_of_ble_eq_true rfl) rfl (row_ct (by omega)) ?_
      refine r_iald_n (pc := 136) (i := rwF (pd + eC E h)) dX5_trace_136 (c5_r3 hM (by omega)) (by decide) (by have := rwF_le (pd + eC E h); omega) (v := I (mb + 3 + 1 + h) (rwF (pd + eC E h))) ((up2_rd (by omega)).trans ((show I4 (mb + 3 + 1 + h) (rwF (pd + eC E h)) = _ from by rw [hI4, up2_rd (by omega), hI3, up2_rd (by omega)]))) ?_
      refine r_iast_n (pc := 137) (i := h) (v := I (mb + 3 + 1 + h) (rwF (pd + eC E h))) dX5_trace_137 (c5_a10 hM) (by decide) (by omega) ?_
      refine r_ret_v (pc := 138) dX5_trace_138 rfl ?_
      refine ⟨rfl, up2 (up2 I4 (mb + 41) h av) (mb + 42) h (I (mb + 3 + 1 + h) (rwF (pd + eC E h))), rfl, ?_⟩
      rw [hav, hI4, hI3]
      rfl
    refine r_aload_n (pc := 82) dX5_trace_82 rfl ?_
    refine r_get1 (pc := 83) 5 9 46 dX5_trace_83 (fl_RX5_46 rfl) (by decide) rfl (c5_o hM) (c5_p9 hM) ?_
    refine r_iload_n (pc := 86) dX5_trace_86 rfl ?_
    refine r_aload_n (pc := 87) dX5_trace_87 rfl ?_
    refine r_iload_n (pc := 88) dX5_trace_88 rfl ?_
    refine r_callV_P (pc := 89) (b := t) (As := [.int (nI h)]) 8 109 dX5_trace_89 lk_X8_isShop (ml_RX5_109 rfl) im_X8_isShop se_X8_isShop (by decide) (c8_o hT) (Nat.le_of_ble_eq_true rfl) rfl (isShop_e hT ht4 (by omega)) ?_
    refine r_if_eq_b (pc := 92) (tgt := 114) dX5_trace_92 (by decide) (fun c92 => ?_) (fun c92 => ?_)
    · skip
      have hq4 : (-1 : Int32) = if cnt (eS E) h (eN E) = 0 then I (mb + 21 + 1 + h) (rwF (pd + eC E h)) else -1 := (if_neg c92).symm
      refine r_iconst (pc := 114) (v := -1) dX5_trace_114 (by decide) ?_
      exact k115 (-1) hq4
    · skip
      have hq4 : I (mb + 21 + 1 + h) (rwF (pd + eC E h)) = if cnt (eS E) h (eN E) = 0 then I (mb + 21 + 1 + h) (rwF (pd + eC E h)) else -1 := (if_pos c92).symm
      refine r_aload_n (pc := 95) dX5_trace_95 rfl ?_
      refine r_get1 (pc := 96) 5 5 34 dX5_trace_96 (fl_RX5_34 rfl) (by decide) rfl (c5_o hM) (c5_p5 hM) ?_
      refine r_iload_n (pc := 99) dX5_trace_99 rfl ?_
      refine r_aald1_n (pc := 100) (i := h) 6 dX5_trace_100 (by decide) (c5_a5 hM) (by decide) (by omega) (c5_q5 hM (by omega)) ?_
      refine r_aload_n (pc := 101) dX5_trace_101 rfl ?_
      refine r_get1 (pc := 102) 5 8 43 dX5_trace_102 (fl_RX5_43 rfl) (by decide) rfl (c5_o hM) (c5_p8 hM) ?_
      refine r_iload_n (pc := 105) dX5_trace_105 rfl ?_
      refine r_iald_n (pc := 106) (i := h) dX5_trace_106 (c5_a8 hM) (by decide) (by omega) (v := nI (pd + eC E h)) ((by rw [hI4]; exact up2_at)) ?_
      refine r_callSN_P (pc := 107) (As := [.int (nI (pd + eC E h))]) 84 dX5_trace_107 lk_X9_row (nl_RX5_84 rfl) sm_X9_row (Nat.le_of_ble_eq_true rfl) rfl (row_ct (by omega)) ?_
      refine r_iald_n (pc := 110) (i := rwF (pd + eC E h)) dX5_trace_110 (c5_r5 hM (by omega)) (by decide) (by have := rwF_le (pd + eC E h); omega) (v := I (mb + 21 + 1 + h) (rwF (pd + eC E h))) ((show I4 (mb + 21 + 1 + h) (rwF (pd + eC E h)) = _ from by rw [hI4, up2_rd (by omega), hI3, up2_rd (by omega)])) ?_
      refine r_goto (pc := 111) (tgt := 115) dX5_trace_111 (by decide) ?_
      exact k115 (I (mb + 21 + 1 + h) (rwF (pd + eC E h))) hq4
  rcases hsr : eS E h with _ | a
  · skip
    show wp _ _ _ _ _ [some (.ref mb), some (.ref t), some (.int (nI h)), some (.int (-1))] _ _ _
    have hpz := hp.2.2 hsr
    refine r_iload_n (pc := 7) dX5_trace_7 rfl ?_
    refine r_if_ge (pc := 8) (x := (-1)) (tgt := 21) dX5_trace_8 (by decide) (fun c8 => ?_) (fun c8 => ?_)
    · exfalso; exact absurd c8 (by decide)
    · skip
      refine r_aload_n (pc := 11) dX5_trace_11 rfl ?_
      refine r_get1 (pc := 12) 5 7 40 dX5_trace_12 (fl_RX5_40 rfl) (by decide) rfl (c5_o hM) (c5_p7 hM) ?_
      refine r_iload_n (pc := 15) dX5_trace_15 rfl ?_
      refine r_iconst (pc := 16) (v := 0) dX5_trace_16 (by decide) ?_
      refine r_iast_n (pc := 17) (i := h) (v := nI 0) dX5_trace_17 (c5_a7 hM) (by decide) (by omega) ?_
      have hq3 : up2 I (mb + 39) h (nI 0) = up2 I (mb + 39) h (nI pd) := by rw [hpz]
      refine r_goto (pc := 18) (tgt := 63) dX5_trace_18 (by decide) ?_
      refine wp_sub [some (.ref mb), some (.ref t), some (.int (nI h)), none] ⟨rfl, ⟨rfl, ⟨rfl, trivial⟩⟩⟩ ?_
      exact k63 (up2 I (mb + 39) h (nI 0)) hq3
  · skip
    show wp _ _ _ _ _ [some (.ref mb), some (.ref t), some (.int (nI h)), some (.int (nI a))] _ _ _
    obtain ⟨sa, hsa, hsl, hpj, hpn⟩ := hp.2.1 a hsr
    have hal := ht.2.2.2.1 h a hsr
    refine r_iload_n (pc := 7) dX5_trace_7 rfl ?_
    refine r_if_ge_n (pc := 8) (tgt := 21) dX5_trace_8 (by decide) (by omega) ?_
    refine r_aload_n (pc := 21) dX5_trace_21 rfl ?_
    refine r_get1 (pc := 22) 5 7 40 dX5_trace_22 (fl_RX5_40 rfl) (by decide) rfl (c5_o hM) (c5_p7 hM) ?_
    refine r_iload_n (pc := 25) dX5_trace_25 rfl ?_
    refine r_aload_n (pc := 26) dX5_trace_26 rfl ?_
    refine r_get1 (pc := 27) 5 1 18 dX5_trace_27 (fl_RX5_18 rfl) (by decide) rfl (c5_o hM) (c5_p1 hM) ?_
    refine r_iload_n (pc := 30) dX5_trace_30 rfl ?_
    refine r_callV_P (pc := 31) (b := mb + 1) (As := [.int (nI h)]) 7 102 dX5_trace_31 lk_X7_joins (ml_RX5_102 rfl) im_X7_joins se_X7_joins (by decide) (c7_o (c5_s1 hM)) (Nat.le_of_ble_eq_true rfl) rfl (joins_e (c5_s1 hM) hk.2.2.1) ?_
    refine r_if_eq_b (pc := 34) (tgt := 46) dX5_trace_34 (by decide) (fun c34 => ?_) (fun c34 => ?_)
    · skip
      have hq3 : up2 I (mb + 39) h (nI pd) = up2 I (mb + 39) h (nI pd) := rfl
      refine r_aload_n (pc := 46) dX5_trace_46 rfl ?_
      refine r_get1 (pc := 47) 5 6 37 dX5_trace_47 (fl_RX5_37 rfl) (by decide) rfl (c5_o hM) (c5_p6 hM) ?_
      refine r_iload_n (pc := 50) dX5_trace_50 rfl ?_
      refine r_aald1_n (pc := 51) (i := h) 6 dX5_trace_51 (by decide) (c5_a6 hM) (by decide) (by omega) (c5_q6 hM (by omega)) ?_
      refine r_aload_n (pc := 52) dX5_trace_52 rfl ?_
      refine r_get1 (pc := 53) 5 8 43 dX5_trace_53 (fl_RX5_43 rfl) (by decide) rfl (c5_o hM) (c5_p8 hM) ?_
      refine r_iload_n (pc := 56) dX5_trace_56 rfl ?_
      refine r_iald_n (pc := 57) (i := a) dX5_trace_57 (c5_a8 hM) (by decide) (by omega) (v := nI sa) (hsa) ?_
      refine r_callSN_P (pc := 58) (As := [.int (nI sa)]) 84 dX5_trace_58 lk_X9_row (nl_RX5_84 rfl) sm_X9_row (Nat.le_of_ble_eq_true rfl) rfl (row_ct (by omega)) ?_
      refine r_iald_n (pc := 61) (i := rwF sa) dX5_trace_61 (c5_r6 hM (by omega)) (by decide) (by have := rwF_le sa; omega) (v := nI pd) (hpn c34) ?_
      refine r_iast_n (pc := 62) (i := h) (v := nI pd) dX5_trace_62 (c5_a7 hM) (by decide) (by omega) ?_
      refine wp_sub [some (.ref mb), some (.ref t), some (.int (nI h)), none] ⟨rfl, ⟨rfl, ⟨rfl, trivial⟩⟩⟩ ?_
      exact k63 (up2 I (mb + 39) h (nI pd)) hq3
    · skip
      have hq3 : up2 I (mb + 39) h (nI sa) = up2 I (mb + 39) h (nI pd) := by rw [hpj c34]
      refine r_aload_n (pc := 37) dX5_trace_37 rfl ?_
      refine r_get1 (pc := 38) 5 8 43 dX5_trace_38 (fl_RX5_43 rfl) (by decide) rfl (c5_o hM) (c5_p8 hM) ?_
      refine r_iload_n (pc := 41) dX5_trace_41 rfl ?_
      refine r_iald_n (pc := 42) (i := a) dX5_trace_42 (c5_a8 hM) (by decide) (by omega) (v := nI sa) (hsa) ?_
      refine r_goto (pc := 43) (tgt := 62) dX5_trace_43 (by decide) ?_
      refine r_iast_n (pc := 62) (i := h) (v := nI sa) dX5_trace_62 (c5_a7 hM) (by decide) (by omega) ?_
      refine wp_sub [some (.ref mb), some (.ref t), some (.int (nI h)), none] ⟨rfl, ⟨rfl, ⟨rfl, trivial⟩⟩⟩ ?_
      exact k63 (up2 I (mb + 39) h (nI sa)) hq3

def ebF (I : Im) (mb : Nat) (E : Ec) (h : Nat) : Int32 := if cnt (eS E) h (eN E) = 0 then (I (mb + 41) h - I (mb + 40) h) * I (mb + 42) h else sm (fun b => if eS E b = some h then (I (mb + 39) b - I (mb + 40) h) * I (mb + 42) b else 0) (eN E)

set_option maxRecDepth 100000 in
theorem earnedBy_ct {d : Nat} {I : Im} {G : Gm} {mb t : Nat} {E : Ec} (hM : isC5 G mb) (hT : isC8 G t) (hsp : mb + 44 ≤ t ∨ t + 18 ≤ mb) (hk : MkC I mb E) (ht : TrC I t E) {h : Nat} (hh : h < eN E) : Ct (d + 3) 0 0 YX5_earnedBy [.ref mb, .ref t, .int (nI h)] (I, G) (qP (ebF I mb E h) (I, G)) := by
  refine Ct.of (by decide) (by simp [Value.category]) (Nat.le_of_ble_eq_true rfl) ?_
  have hn8 := ht.2.1
  show wp _ _ _ _ 0 [some (.ref mb), some (.ref t), some (.int (nI h)), none, none] [] _ _
  refine r_aload_n (pc := 0) dX5_earnedBy_0 rfl ?_
  refine r_iload_n (pc := 1) dX5_earnedBy_1 rfl ?_
  refine r_callV_P (pc := 2) (b := t) (As := [.int (nI h)]) 8 109 dX5_earnedBy_2 lk_X8_isShop (ml_RX5_109 rfl) im_X8_isShop se_X8_isShop (by decide) (c8_o hT) (Nat.le_of_ble_eq_true rfl) rfl (isShop_e hT ht (by omega)) ?_
  refine r_if_eq_b (pc := 5) (tgt := 29) dX5_earnedBy_5 (by decide) (fun c5 => ?_) (fun c5 => ?_)
  · skip
    refine r_iconst (pc := 29) (v := 0) dX5_earnedBy_29 (by decide) ?_
    refine r_istore_n (pc := 30) (L' := [some (.ref mb), some (.ref t), some (.int (nI h)), some (.int (nI 0)), none]) dX5_earnedBy_30 (by decide) rfl rfl ?_
    refine r_iload_n (pc := 31) dX5_earnedBy_31 rfl ?_
    refine r_iconst (pc := 32) (v := 1) dX5_earnedBy_32 (by decide) ?_
    refine r_iadd_n (pc := 33) (a := h) (b := 1) dX5_earnedBy_33 ?_
    refine r_istore (pc := 34) (L' := [some (.ref mb), some (.ref t), some (.int (nI h)), some (.int (nI 0)), some (.int (nI (h + 1)))]) dX5_earnedBy_34 (by decide) rfl rfl ?_
    have lp36 : ∀ (n36 : Nat), ∀ (b : Nat) (gn : Int32), eN E - b = n36 → (h + 1 ≤ b ∧ b ≤ eN E) → (gn = sm (fun b => if eS E b = some h then (I (mb + 39) b - I (mb + 40) h) * I (mb + 42) b else 0) b) → wp (d + 3) 0 0 YX5_earnedBy 36 [some (.ref mb), some (.ref t), some (.int (nI h)), some (.int gn), some (.int (nI b))] [] (I, G) (qP (ebF I mb E h) (I, G)) := by
      intro n36
      induction n36 using Nat.strongRecOn with
      | ind n36 ih36 =>
        intro b gn hmu36 hb hgn
        refine r_iload (pc := 36) dX5_earnedBy_36 rfl ?_
        refine r_aload_n (pc := 38) dX5_earnedBy_38 rfl ?_
        refine r_getIv (pc := 39) 8 0 67 dX5_earnedBy_39 (fl_RX5_67 rfl) (by decide) rfl (c8_o hT) (v := nI (eN E)) (ht.1) ?_
        refine r_icmp_ge_n (pc := 42) (a := b) (b := eN E) (tgt := 87) dX5_earnedBy_42 (by decide) (by omega) (by omega) (fun c42 => ?_) (fun c42 => ?_)
        · skip
          refine r_iload_n (pc := 87) dX5_earnedBy_87 rfl ?_
          refine r_ret_i (pc := 88) dX5_earnedBy_88 rfl ?_
          exact ⟨by unfold ebF; rw [if_neg c5, hgn, show b = eN E by omega], rfl⟩
        · skip
          refine r_aload_n (pc := 45) dX5_earnedBy_45 rfl ?_
          refine r_get1 (pc := 46) 8 3 106 dX5_earnedBy_46 (fl_RX5_106 rfl) (by decide) rfl (c8_o hT) (c8_p3 hT) ?_
          refine r_iload (pc := 49) dX5_earnedBy_49 rfl ?_
          refine r_iald_n (pc := 51) (i := b) dX5_earnedBy_51 (c8_a3 hT) (by decide) (by omega) (v := sI (eS E b)) (ht.2.2.1 _ (by omega)) ?_
          refine r_iload_n (pc := 52) dX5_earnedBy_52 rfl ?_
          refine r_icmp_ne (pc := 53) (x := sI (eS E b)) (z := nI h) (tgt := 81) dX5_earnedBy_53 (by decide) (fun c53 => ?_) (fun c53 => ?_)
          · skip
            have hcase : (fun b => if eS E b = some h then (I (mb + 39) b - I (mb + 40) h) * I (mb + 42) b else 0) b = 0 := if_neg (fun q => c53 ((sI_eq (by omega) (ht.lt b)).mpr q))
            refine r_iinc (pc := 81) (v := nI (b + 1)) (L' := [some (.ref mb), some (.ref t), some (.int (nI h)), some (.int gn), some (.int (nI (b + 1)))]) dX5_earnedBy_81 rfl (nI_inc _) (by decide) rfl rfl ?_
            refine r_goto (pc := 84) (tgt := 36) dX5_earnedBy_84 (by decide) ?_
            exact ih36 _ (by omega) (b + 1) gn rfl (by omega) (by rw [show ∀ f k, sm f (k + 1) = sm f k + f k from fun _ _ => rfl, ← hgn]; refine Eq.trans ?_ (congrArg (fun z => gn + z) hcase).symm; first | rfl | exact (Int32.add_zero _).symm)
          · skip
            have hcase : (fun b => if eS E b = some h then (I (mb + 39) b - I (mb + 40) h) * I (mb + 42) b else 0) b = (I (mb + 39) b - I (mb + 40) h) * I (mb + 42) b := if_pos ((sI_eq (by omega) (ht.lt b)).mp c53)
            refine r_iload_n (pc := 56) dX5_earnedBy_56 rfl ?_
            refine r_aload_n (pc := 57) dX5_earnedBy_57 rfl ?_
            refine r_get1 (pc := 58) 5 7 40 dX5_earnedBy_58 (fl_RX5_40 rfl) (by decide) rfl (c5_o hM) (c5_p7 hM) ?_
            refine r_iload (pc := 61) dX5_earnedBy_61 rfl ?_
            refine r_iald_n (pc := 63) (i := b) dX5_earnedBy_63 (c5_a7 hM) (by decide) (by omega) rfl ?_
            refine r_aload_n (pc := 64) dX5_earnedBy_64 rfl ?_
            refine r_get1 (pc := 65) 5 8 43 dX5_earnedBy_65 (fl_RX5_43 rfl) (by decide) rfl (c5_o hM) (c5_p8 hM) ?_
            refine r_iload_n (pc := 68) dX5_earnedBy_68 rfl ?_
            refine r_iald_n (pc := 69) (i := h) dX5_earnedBy_69 (c5_a8 hM) (by decide) (by omega) rfl ?_
            refine r_isub (pc := 70) (x := I (mb + 39) b) (z := I (mb + 40) h) dX5_earnedBy_70 ?_
            refine r_aload_n (pc := 71) dX5_earnedBy_71 rfl ?_
            refine r_get1 (pc := 72) 5 10 49 dX5_earnedBy_72 (fl_RX5_49 rfl) (by decide) rfl (c5_o hM) (c5_p10 hM) ?_
            refine r_iload (pc := 75) dX5_earnedBy_75 rfl ?_
            refine r_iald_n (pc := 77) (i := b) dX5_earnedBy_77 (c5_a10 hM) (by decide) (by omega) rfl ?_
            refine r_imul (pc := 78) (x := (I (mb + 39) b) - (I (mb + 40) h)) (z := I (mb + 42) b) dX5_earnedBy_78 ?_
            refine r_iadd (pc := 79) (x := gn) (z := ((I (mb + 39) b) - (I (mb + 40) h)) * (I (mb + 42) b)) dX5_earnedBy_79 ?_
            refine r_istore_n (pc := 80) (L' := [some (.ref mb), some (.ref t), some (.int (nI h)), some (.int (gn + (((I (mb + 39) b) - (I (mb + 40) h)) * (I (mb + 42) b)))), some (.int (nI b))]) dX5_earnedBy_80 (by decide) rfl rfl ?_
            refine r_iinc (pc := 81) (v := nI (b + 1)) (L' := [some (.ref mb), some (.ref t), some (.int (nI h)), some (.int (gn + (((I (mb + 39) b) - (I (mb + 40) h)) * (I (mb + 42) b)))), some (.int (nI (b + 1)))]) dX5_earnedBy_81 rfl (nI_inc _) (by decide) rfl rfl ?_
            refine r_goto (pc := 84) (tgt := 36) dX5_earnedBy_84 (by decide) ?_
            exact ih36 _ (by omega) (b + 1) (gn + (((I (mb + 39) b) - (I (mb + 40) h)) * (I (mb + 42) b))) rfl (by omega) (by rw [show ∀ f k, sm f (k + 1) = sm f k + f k from fun _ _ => rfl, ← hgn]; refine Eq.trans ?_ (congrArg (fun z => gn + z) hcase).symm; first | rfl | exact (Int32.add_zero _).symm)
    exact lp36 _ (h + 1) 0 rfl (by omega) (by exact (sm_from (fun k hk3 => if_neg (fun q => by have := ht.2.2.2.1 k h q; omega))).symm)
  · skip
    refine r_aload_n (pc := 8) dX5_earnedBy_8 rfl ?_
    refine r_get1 (pc := 9) 5 9 46 dX5_earnedBy_9 (fl_RX5_46 rfl) (by decide) rfl (c5_o hM) (c5_p9 hM) ?_
    refine r_iload_n (pc := 12) dX5_earnedBy_12 rfl ?_
    refine r_iald_n (pc := 13) (i := h) dX5_earnedBy_13 (c5_a9 hM) (by decide) (by omega) rfl ?_
    refine r_aload_n (pc := 14) dX5_earnedBy_14 rfl ?_
    refine r_get1 (pc := 15) 5 8 43 dX5_earnedBy_15 (fl_RX5_43 rfl) (by decide) rfl (c5_o hM) (c5_p8 hM) ?_
    refine r_iload_n (pc := 18) dX5_earnedBy_18 rfl ?_
    refine r_iald_n (pc := 19) (i := h) dX5_earnedBy_19 (c5_a8 hM) (by decide) (by omega) rfl ?_
    refine r_isub (pc := 20) (x := I (mb + 41) h) (z := I (mb + 40) h) dX5_earnedBy_20 ?_
    refine r_aload_n (pc := 21) dX5_earnedBy_21 rfl ?_
    refine r_get1 (pc := 22) 5 10 49 dX5_earnedBy_22 (fl_RX5_49 rfl) (by decide) rfl (c5_o hM) (c5_p10 hM) ?_
    refine r_iload_n (pc := 25) dX5_earnedBy_25 rfl ?_
    refine r_iald_n (pc := 26) (i := h) dX5_earnedBy_26 (c5_a10 hM) (by decide) (by omega) rfl ?_
    refine r_imul (pc := 27) (x := (I (mb + 41) h) - (I (mb + 40) h)) (z := I (mb + 42) h) dX5_earnedBy_27 ?_
    refine r_ret_i (pc := 28) dX5_earnedBy_28 rfl ?_
    exact ⟨by unfold ebF; rw [if_pos c5], rfl⟩

set_option maxRecDepth 100000 in
theorem allEarned_ct {d : Nat} {I : Im} {G : Gm} {mb t : Nat} {E : Ec} (hM : isC5 G mb) (hT : isC8 G t) (hsp : mb + 44 ≤ t ∨ t + 18 ≤ mb) (hk : MkC I mb E) (ht : TrC I t E) : Ct (d + 1) 0 0 YX5_allEarned [.ref mb, .ref t] (I, G) (qP (sm (I (mb + 43)) (eN E)) (I, G)) := by
  refine Ct.of (by decide) (by simp [Value.category]) (Nat.le_of_ble_eq_true rfl) ?_
  have hn8 := ht.2.1
  show wp _ _ _ _ 0 [some (.ref mb), some (.ref t), none, none] [] _ _
  refine r_iconst (pc := 0) (v := 0) dX5_allEarned_0 (by decide) ?_
  refine r_istore_n (pc := 1) (L' := [some (.ref mb), some (.ref t), some (.int (nI 0)), none]) dX5_allEarned_1 (by decide) rfl rfl ?_
  refine r_iconst (pc := 2) (v := 0) dX5_allEarned_2 (by decide) ?_
  refine r_istore_n (pc := 3) (L' := [some (.ref mb), some (.ref t), some (.int (nI 0)), some (.int (nI 0))]) dX5_allEarned_3 (by decide) rfl rfl ?_
  have lp4 : ∀ (n4 : Nat), ∀ (h : Nat) (al : Int32), eN E - h = n4 → (h ≤ eN E) → (al = sm (I (mb + 43)) h) → wp (d + 1) 0 0 YX5_allEarned 4 [some (.ref mb), some (.ref t), some (.int al), some (.int (nI h))] [] (I, G) (qP (sm (I (mb + 43)) (eN E)) (I, G)) := by
    intro n4
    induction n4 using Nat.strongRecOn with
    | ind n4 ih4 =>
      intro h al hmu4 hh hal
      refine r_iload_n (pc := 4) dX5_allEarned_4 rfl ?_
      refine r_aload_n (pc := 5) dX5_allEarned_5 rfl ?_
      refine r_getIv (pc := 6) 8 0 67 dX5_allEarned_6 (fl_RX5_67 rfl) (by decide) rfl (c8_o hT) (v := nI (eN E)) (ht.1) ?_
      refine r_icmp_ge_n (pc := 9) (a := h) (b := eN E) (tgt := 27) dX5_allEarned_9 (by decide) (by omega) (by omega) (fun c9 => ?_) (fun c9 => ?_)
      · skip
        refine r_iload_n (pc := 27) dX5_allEarned_27 rfl ?_
        refine r_ret_i (pc := 28) dX5_allEarned_28 rfl ?_
        exact ⟨by rw [hal, show h = eN E by omega], rfl⟩
      · skip
        refine r_iload_n (pc := 12) dX5_allEarned_12 rfl ?_
        refine r_aload_n (pc := 13) dX5_allEarned_13 rfl ?_
        refine r_get1 (pc := 14) 5 11 52 dX5_allEarned_14 (fl_RX5_52 rfl) (by decide) rfl (c5_o hM) (c5_p11 hM) ?_
        refine r_iload_n (pc := 17) dX5_allEarned_17 rfl ?_
        refine r_iald_n (pc := 18) (i := h) dX5_allEarned_18 (c5_a11 hM) (by decide) (by omega) rfl ?_
        refine r_iadd (pc := 19) (x := al) (z := I (mb + 43) h) dX5_allEarned_19 ?_
        refine r_istore_n (pc := 20) (L' := [some (.ref mb), some (.ref t), some (.int (al + (I (mb + 43) h))), some (.int (nI h))]) dX5_allEarned_20 (by decide) rfl rfl ?_
        refine r_iinc (pc := 21) (v := nI (h + 1)) (L' := [some (.ref mb), some (.ref t), some (.int (al + (I (mb + 43) h))), some (.int (nI (h + 1)))]) dX5_allEarned_21 rfl (nI_inc _) (by decide) rfl rfl ?_
        refine r_goto (pc := 24) (tgt := 4) dX5_allEarned_24 (by decide) ?_
        exact ih4 _ (by omega) (h + 1) (al + (I (mb + 43) h)) rfl (by omega) (by rw [hal]; rfl)
  exact lp4 _ 0 0 rfl (by omega) (by rfl)
