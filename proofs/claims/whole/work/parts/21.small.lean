/-! ===== terms, trades: small methods ===== -/
/-- the terms at a become v -/
def setTm (I : Im) (a : Nat) (v : Nat → Int32) : Im := fun b k => if b = a ∧ k < 6 then v k else I b k
def tm6 (j c al ha dh db : Int32) : Nat → Int32 := fun k => match k with
  | 0 => j
  | 1 => c
  | 2 => al
  | 3 => ha
  | 4 => dh
  | 5 => db
  | _ => 0
theorem setTm_6 {I : Im} {a : Nat} {v : Nat → Int32} : up2 (up2 (up2 (up2 (up2 (up2 I a 0 (v 0)) a 1 (v 1)) a 2 (v 2)) a 3 (v 3)) a 4 (v 4)) a 5 (v 5) = setTm I a v := by
  funext b k
  unfold setTm up2
  by_cases hb : b = a
  · subst hb
    match k with
    | 0 => simp
    | 1 => simp
    | 2 => simp
    | 3 => simp
    | 4 => simp
    | 5 => simp
    | k + 6 =>
      simp
      intro h
      omega
  · simp [hb]
theorem setTm_ne {I : Im} {a b : Nat} {v : Nat → Int32} (h : b ≠ a) : setTm I a v b = I b := by
  funext k
  simp [setTm, h]

set_option maxRecDepth 100000 in
theorem reset_ct {d : Nat} {I : Im} {G : Gm} {a : Nat} (ha : isC7 G a) : Ct (d + 1) 0 0 YX7_reset [.ref a] (I, G) (qV G (fun I2 => I2 = setTm I a (tm6 0 41 0 0 (-1) 0))) := by
  refine Ct.of (by decide) (by simp [Value.category]) (Nat.le_of_ble_eq_true rfl) ?_
  show wp _ _ _ _ 0 [some (.ref a)] [] _ _
  refine r_aload_n (pc := 0) dX7_reset_0 rfl ?_
  refine r_iconst (pc := 1) (v := 0) dX7_reset_1 (by decide) ?_
  refine r_putI (pc := 2) (v := nI 0) 7 0 9 dX7_reset_2 (fl_RX7_9 rfl) (by decide) rfl rfl (c7_o ha) ?_
  refine r_aload_n (pc := 5) dX7_reset_5 rfl ?_
  refine r_bipush (pc := 6) (v := 41) dX7_reset_6 (by decide) ?_
  refine r_putI (pc := 8) (v := nI 41) 7 1 15 dX7_reset_8 (fl_RX7_15 rfl) (by decide) rfl rfl (c7_o ha) ?_
  refine r_aload_n (pc := 11) dX7_reset_11 rfl ?_
  refine r_iconst (pc := 12) (v := 0) dX7_reset_12 (by decide) ?_
  refine r_putZ (pc := 13) (v := nI 0) 7 2 18 dX7_reset_13 (fl_RX7_18 rfl) (by decide) rfl rfl (c7_o ha) (by decide) ?_
  refine r_aload_n (pc := 16) dX7_reset_16 rfl ?_
  refine r_iconst (pc := 17) (v := 0) dX7_reset_17 (by decide) ?_
  refine r_putZ (pc := 18) (v := nI 0) 7 3 22 dX7_reset_18 (fl_RX7_22 rfl) (by decide) rfl rfl (c7_o ha) (by decide) ?_
  refine r_aload_n (pc := 21) dX7_reset_21 rfl ?_
  refine r_iconst (pc := 22) (v := -1) dX7_reset_22 (by decide) ?_
  refine r_putI (pc := 23) (v := (-1)) 7 4 25 dX7_reset_23 (fl_RX7_25 rfl) (by decide) rfl rfl (c7_o ha) ?_
  refine r_aload_n (pc := 26) dX7_reset_26 rfl ?_
  refine r_iconst (pc := 27) (v := 0) dX7_reset_27 (by decide) ?_
  refine r_putI (pc := 28) (v := nI 0) 7 5 28 dX7_reset_28 (fl_RX7_28 rfl) (by decide) rfl rfl (c7_o ha) ?_
  refine r_ret_v (pc := 31) dX7_reset_31 rfl ?_
  exact ⟨rfl, _, rfl, setTm_6 (v := tm6 0 41 0 0 (-1) 0)⟩

set_option maxRecDepth 100000 in
theorem copy_ct {d : Nat} {I : Im} {G : Gm} {a : Nat} (ha : isC7 G a) {b : Nat} (hb : isC7 G b) (hab : b ≠ a) (hz : (I b 2 = 0 ∨ I b 2 = 1) ∧ (I b 3 = 0 ∨ I b 3 = 1)) : Ct (d + 1) 0 0 YX7_copy [.ref a, .ref b] (I, G) (qV G (fun I2 => I2 = setTm I a (I b))) := by
  refine Ct.of (by decide) (by simp [Value.category]) (Nat.le_of_ble_eq_true rfl) ?_
  show wp _ _ _ _ 0 [some (.ref a), some (.ref b)] [] _ _
  refine r_aload_n (pc := 0) dX7_copy_0 rfl ?_
  refine r_aload_n (pc := 1) dX7_copy_1 rfl ?_
  refine r_getI (pc := 2) 7 0 9 dX7_copy_2 (fl_RX7_9 rfl) (by decide) rfl (c7_o hb) ?_
  refine r_putI (pc := 5) (v := I b 0) 7 0 9 dX7_copy_5 (fl_RX7_9 rfl) (by decide) rfl rfl (c7_o ha) ?_
  refine r_aload_n (pc := 8) dX7_copy_8 rfl ?_
  refine r_aload_n (pc := 9) dX7_copy_9 rfl ?_
  refine r_getIv (pc := 10) 7 1 15 dX7_copy_10 (fl_RX7_15 rfl) (by decide) rfl (c7_o hb) (v := I b 1) ((up2_rd (by omega)).trans (rfl)) ?_
  refine r_putI (pc := 13) (v := I b 1) 7 1 15 dX7_copy_13 (fl_RX7_15 rfl) (by decide) rfl rfl (c7_o ha) ?_
  refine r_aload_n (pc := 16) dX7_copy_16 rfl ?_
  refine r_aload_n (pc := 17) dX7_copy_17 rfl ?_
  refine r_getIv (pc := 18) 7 2 18 dX7_copy_18 (fl_RX7_18 rfl) (by decide) rfl (c7_o hb) (v := I b 2) ((up2_rd (by omega)).trans ((up2_rd (by omega)).trans (rfl))) ?_
  refine r_putZ (pc := 21) (v := I b 2) 7 2 18 dX7_copy_21 (fl_RX7_18 rfl) (by decide) rfl rfl (c7_o ha) hz.1 ?_
  refine r_aload_n (pc := 24) dX7_copy_24 rfl ?_
  refine r_aload_n (pc := 25) dX7_copy_25 rfl ?_
  refine r_getIv (pc := 26) 7 3 22 dX7_copy_26 (fl_RX7_22 rfl) (by decide) rfl (c7_o hb) (v := I b 3) ((up2_rd (by omega)).trans ((up2_rd (by omega)).trans ((up2_rd (by omega)).trans (rfl)))) ?_
  refine r_putZ (pc := 29) (v := I b 3) 7 3 22 dX7_copy_29 (fl_RX7_22 rfl) (by decide) rfl rfl (c7_o ha) hz.2 ?_
  refine r_aload_n (pc := 32) dX7_copy_32 rfl ?_
  refine r_aload_n (pc := 33) dX7_copy_33 rfl ?_
  refine r_getIv (pc := 34) 7 4 25 dX7_copy_34 (fl_RX7_25 rfl) (by decide) rfl (c7_o hb) (v := I b 4) ((up2_rd (by omega)).trans ((up2_rd (by omega)).trans ((up2_rd (by omega)).trans ((up2_rd (by omega)).trans (rfl))))) ?_
  refine r_putI (pc := 37) (v := I b 4) 7 4 25 dX7_copy_37 (fl_RX7_25 rfl) (by decide) rfl rfl (c7_o ha) ?_
  refine r_aload_n (pc := 40) dX7_copy_40 rfl ?_
  refine r_aload_n (pc := 41) dX7_copy_41 rfl ?_
  refine r_getIv (pc := 42) 7 5 28 dX7_copy_42 (fl_RX7_28 rfl) (by decide) rfl (c7_o hb) (v := I b 5) ((up2_rd (by omega)).trans ((up2_rd (by omega)).trans ((up2_rd (by omega)).trans ((up2_rd (by omega)).trans ((up2_rd (by omega)).trans (rfl)))))) ?_
  refine r_putI (pc := 45) (v := I b 5) 7 5 28 dX7_copy_45 (fl_RX7_28 rfl) (by decide) rfl rfl (c7_o ha) ?_
  refine r_ret_v (pc := 48) dX7_copy_48 rfl ?_
  exact ⟨rfl, _, rfl, setTm_6 (v := I b)⟩

def sbj (I : Im) (a b : Nat) : Prop := I a 1 = I b 1 ∧ I a 2 = I b 2 ∧ I a 3 = I b 3 ∧ I a 4 = I b 4 ∧ I a 5 = I b 5
theorem sbj_dec (I : Im) (a b : Nat) : Nonempty (Decidable (sbj I a b)) := ⟨by unfold sbj; exact inferInstance⟩

set_option maxRecDepth 100000 in
theorem sameButJoined_ct {d : Nat} {I : Im} {G : Gm} {a : Nat} (ha : isC7 G a) {b : Nat} (hb : isC7 G b) : Ct (d + 1) 0 0 YX7_sameButJoined [.ref a, .ref b] (I, G) (qP (bz (I a 1 = I b 1 ∧ I a 2 = I b 2 ∧ I a 3 = I b 3 ∧ I a 4 = I b 4 ∧ I a 5 = I b 5)) (I, G)) := by
  refine Ct.of (by decide) (by simp [Value.category]) (Nat.le_of_ble_eq_true rfl) ?_
  show wp _ _ _ _ 0 [some (.ref a), some (.ref b)] [] _ _
  refine r_aload_n (pc := 0) dX7_sameButJoined_0 rfl ?_
  refine r_getI (pc := 1) 7 1 15 dX7_sameButJoined_1 (fl_RX7_15 rfl) (by decide) rfl (c7_o ha) ?_
  refine r_aload_n (pc := 4) dX7_sameButJoined_4 rfl ?_
  refine r_getI (pc := 5) 7 1 15 dX7_sameButJoined_5 (fl_RX7_15 rfl) (by decide) rfl (c7_o hb) ?_
  refine r_icmp_ne (pc := 8) (x := I a 1) (z := I b 1) (tgt := 59) dX7_sameButJoined_8 (by decide) (fun c8 => ?_) (fun c8 => ?_)
  · skip
    refine r_iconst (pc := 59) (v := 0) dX7_sameButJoined_59 (by decide) ?_
    refine r_ret_z (pc := 60) dX7_sameButJoined_60 rfl (by decide) ?_
    exact ⟨congrArg (fun z => some (Value.int z)) (by first | exact bz_t (by simp_all) | exact bz_f (by simp_all)), rfl⟩
  · skip
    refine r_aload_n (pc := 11) dX7_sameButJoined_11 rfl ?_
    refine r_getI (pc := 12) 7 2 18 dX7_sameButJoined_12 (fl_RX7_18 rfl) (by decide) rfl (c7_o ha) ?_
    refine r_aload_n (pc := 15) dX7_sameButJoined_15 rfl ?_
    refine r_getI (pc := 16) 7 2 18 dX7_sameButJoined_16 (fl_RX7_18 rfl) (by decide) rfl (c7_o hb) ?_
    refine r_icmp_ne (pc := 19) (x := I a 2) (z := I b 2) (tgt := 59) dX7_sameButJoined_19 (by decide) (fun c19 => ?_) (fun c19 => ?_)
    · skip
      refine r_iconst (pc := 59) (v := 0) dX7_sameButJoined_59 (by decide) ?_
      refine r_ret_z (pc := 60) dX7_sameButJoined_60 rfl (by decide) ?_
      exact ⟨congrArg (fun z => some (Value.int z)) (by first | exact bz_t (by simp_all) | exact bz_f (by simp_all)), rfl⟩
    · skip
      refine r_aload_n (pc := 22) dX7_sameButJoined_22 rfl ?_
      refine r_getI (pc := 23) 7 3 22 dX7_sameButJoined_23 (fl_RX7_22 rfl) (by decide) rfl (c7_o ha) ?_
      refine r_aload_n (pc := 26) dX7_sameButJoined_26 rfl ?_
      refine r_getI (pc := 27) 7 3 22 dX7_sameButJoined_27 (fl_RX7_22 rfl) (by decide) rfl (c7_o hb) ?_
      refine r_icmp_ne (pc := 30) (x := I a 3) (z := I b 3) (tgt := 59) dX7_sameButJoined_30 (by decide) (fun c30 => ?_) (fun c30 => ?_)
      · skip
        refine r_iconst (pc := 59) (v := 0) dX7_sameButJoined_59 (by decide) ?_
        refine r_ret_z (pc := 60) dX7_sameButJoined_60 rfl (by decide) ?_
        exact ⟨congrArg (fun z => some (Value.int z)) (by first | exact bz_t (by simp_all) | exact bz_f (by simp_all)), rfl⟩
      · skip
        refine r_aload_n (pc := 33) dX7_sameButJoined_33 rfl ?_
        refine r_getI (pc := 34) 7 4 25 dX7_sameButJoined_34 (fl_RX7_25 rfl) (by decide) rfl (c7_o ha) ?_
        refine r_aload_n (pc := 37) dX7_sameButJoined_37 rfl ?_
        refine r_getI (pc := 38) 7 4 25 dX7_sameButJoined_38 (fl_RX7_25 rfl) (by decide) rfl (c7_o hb) ?_
        refine r_icmp_ne (pc := 41) (x := I a 4) (z := I b 4) (tgt := 59) dX7_sameButJoined_41 (by decide) (fun c41 => ?_) (fun c41 => ?_)
        · skip
          refine r_iconst (pc := 59) (v := 0) dX7_sameButJoined_59 (by decide) ?_
          refine r_ret_z (pc := 60) dX7_sameButJoined_60 rfl (by decide) ?_
          exact ⟨congrArg (fun z => some (Value.int z)) (by first | exact bz_t (by simp_all) | exact bz_f (by simp_all)), rfl⟩
        · skip
          refine r_aload_n (pc := 44) dX7_sameButJoined_44 rfl ?_
          refine r_getI (pc := 45) 7 5 28 dX7_sameButJoined_45 (fl_RX7_28 rfl) (by decide) rfl (c7_o ha) ?_
          refine r_aload_n (pc := 48) dX7_sameButJoined_48 rfl ?_
          refine r_getI (pc := 49) 7 5 28 dX7_sameButJoined_49 (fl_RX7_28 rfl) (by decide) rfl (c7_o hb) ?_
          refine r_icmp_ne (pc := 52) (x := I a 5) (z := I b 5) (tgt := 59) dX7_sameButJoined_52 (by decide) (fun c52 => ?_) (fun c52 => ?_)
          · skip
            refine r_iconst (pc := 59) (v := 0) dX7_sameButJoined_59 (by decide) ?_
            refine r_ret_z (pc := 60) dX7_sameButJoined_60 rfl (by decide) ?_
            exact ⟨congrArg (fun z => some (Value.int z)) (by first | exact bz_t (by simp_all) | exact bz_f (by simp_all)), rfl⟩
          · skip
            refine r_iconst (pc := 55) (v := 1) dX7_sameButJoined_55 (by decide) ?_
            refine r_goto (pc := 56) (tgt := 60) dX7_sameButJoined_56 (by decide) ?_
            refine r_ret_z (pc := 60) dX7_sameButJoined_60 rfl (by decide) ?_
            exact ⟨congrArg (fun z => some (Value.int z)) (by first | exact bz_t (by simp_all) | exact bz_f (by simp_all)), rfl⟩

set_option maxRecDepth 100000 in
theorem same_ct {d : Nat} {I : Im} {G : Gm} {a : Nat} (ha : isC7 G a) {b : Nat} (hb : isC7 G b) : Ct (d + 2) 0 0 YX7_same [.ref a, .ref b] (I, G) (qP (bz (I a 0 = I b 0 ∧ (I a 1 = I b 1 ∧ I a 2 = I b 2 ∧ I a 3 = I b 3 ∧ I a 4 = I b 4 ∧ I a 5 = I b 5))) (I, G)) := by
  refine Ct.of (by decide) (by simp [Value.category]) (Nat.le_of_ble_eq_true rfl) ?_
  show wp _ _ _ _ 0 [some (.ref a), some (.ref b)] [] _ _
  refine r_aload_n (pc := 0) dX7_same_0 rfl ?_
  refine r_getI (pc := 1) 7 0 9 dX7_same_1 (fl_RX7_9 rfl) (by decide) rfl (c7_o ha) ?_
  refine r_aload_n (pc := 4) dX7_same_4 rfl ?_
  refine r_getI (pc := 5) 7 0 9 dX7_same_5 (fl_RX7_9 rfl) (by decide) rfl (c7_o hb) ?_
  refine r_icmp_ne (pc := 8) (x := I a 0) (z := I b 0) (tgt := 23) dX7_same_8 (by decide) (fun c8 => ?_) (fun c8 => ?_)
  · skip
    refine r_iconst (pc := 23) (v := 0) dX7_same_23 (by decide) ?_
    refine r_ret_z (pc := 24) dX7_same_24 rfl (by decide) ?_
    exact ⟨congrArg (fun z => some (Value.int z)) (by first | exact bz_t (by simp_all) | exact bz_f (by simp_all)), rfl⟩
  · skip
    refine r_aload_n (pc := 11) dX7_same_11 rfl ?_
    refine r_aload_n (pc := 12) dX7_same_12 rfl ?_
    refine r_callV_P (pc := 13) (b := a) (As := [.ref b]) 7 31 dX7_same_13 lk_X7_sameButJoined (ml_RX7_31 rfl) im_X7_sameButJoined se_X7_sameButJoined (by decide) (c7_o ha) (Nat.le_of_ble_eq_true rfl) rfl (sameButJoined_ct ha hb) ?_
    refine r_if_eq_b (pc := 16) (tgt := 23) dX7_same_16 (by decide) (fun c16 => ?_) (fun c16 => ?_)
    · skip
      refine r_iconst (pc := 23) (v := 0) dX7_same_23 (by decide) ?_
      refine r_ret_z (pc := 24) dX7_same_24 rfl (by decide) ?_
      exact ⟨congrArg (fun z => some (Value.int z)) (by first | exact bz_t (by simp_all) | exact bz_f (by simp_all)), rfl⟩
    · skip
      refine r_iconst (pc := 19) (v := 1) dX7_same_19 (by decide) ?_
      refine r_goto (pc := 20) (tgt := 24) dX7_same_20 (by decide) ?_
      refine r_ret_z (pc := 24) dX7_same_24 rfl (by decide) ?_
      exact ⟨congrArg (fun z => some (Value.int z)) (by first | exact bz_t (by simp_all) | exact bz_f (by simp_all)), rfl⟩

/-- whether the bit h stands in the set x -/
abbrev jn (x h : Int32) : Prop := ¬ (x >>> (h &&& 31)) &&& 1 = 0

set_option maxRecDepth 100000 in
theorem joins_ct {d : Nat} {I : Im} {G : Gm} {a : Nat} (ha : isC7 G a) {h : Int32} : Ct (d + 1) 0 0 YX7_joins [.ref a, .int h] (I, G) (qP (bz (jn (I a 0) h)) (I, G)) := by
  refine Ct.of (by decide) (by simp [Value.category]) (Nat.le_of_ble_eq_true rfl) ?_
  show wp _ _ _ _ 0 [some (.ref a), some (.int h)] [] _ _
  refine r_aload_n (pc := 0) dX7_joins_0 rfl ?_
  refine r_getI (pc := 1) 7 0 9 dX7_joins_1 (fl_RX7_9 rfl) (by decide) rfl (c7_o ha) ?_
  refine r_iload_n (pc := 4) dX7_joins_4 rfl ?_
  refine r_ishr (pc := 5) (x := I a 0) (z := h) dX7_joins_5 ?_
  refine r_iconst (pc := 6) (v := 1) dX7_joins_6 (by decide) ?_
  refine r_iand (pc := 7) (x := (I a 0) >>> (h &&& 31)) (z := 1) dX7_joins_7 ?_
  refine r_if_eq (pc := 8) (x := ((I a 0) >>> (h &&& 31)) &&& 1) (tgt := 15) dX7_joins_8 (by decide) (fun c8 => ?_) (fun c8 => ?_)
  · skip
    refine r_iconst (pc := 15) (v := 0) dX7_joins_15 (by decide) ?_
    refine r_ret_z (pc := 16) dX7_joins_16 rfl (by decide) ?_
    exact ⟨congrArg (fun z => some (Value.int z)) (by first | exact bz_t (by simp_all) | exact bz_f (by simp_all)), rfl⟩
  · skip
    refine r_iconst (pc := 11) (v := 1) dX7_joins_11 (by decide) ?_
    refine r_goto (pc := 12) (tgt := 16) dX7_joins_12 (by decide) ?_
    refine r_ret_z (pc := 16) dX7_joins_16 rfl (by decide) ?_
    exact ⟨congrArg (fun z => some (Value.int z)) (by first | exact bz_t (by simp_all) | exact bz_f (by simp_all)), rfl⟩

set_option maxRecDepth 100000 in
theorem holds_ct {d : Nat} {I : Im} {G : Gm} {t : Nat} (ht : isC8 G t) {h : Int32} : Ct (d + 1) 0 0 YX8_holds [.ref t, .int h] (I, G) (qP (bz (0 ≤ h ∧ h < I t 0)) (I, G)) := by
  refine Ct.of (by decide) (by simp [Value.category]) (Nat.le_of_ble_eq_true rfl) ?_
  show wp _ _ _ _ 0 [some (.ref t), some (.int h)] [] _ _
  refine r_iload_n (pc := 0) dX8_holds_0 rfl ?_
  refine r_if_lt (pc := 1) (x := h) (tgt := 16) dX8_holds_1 (by decide) (fun c1 => ?_) (fun c1 => ?_)
  · skip
    refine r_iconst (pc := 16) (v := 0) dX8_holds_16 (by decide) ?_
    refine r_ret_z (pc := 17) dX8_holds_17 rfl (by decide) ?_
    exact ⟨congrArg (fun z => some (Value.int z)) (by first | exact bz_t ⟨Int32.not_lt.mp c1, Int32.not_le.mp c9⟩ | exact bz_f (fun q => absurd c9 (Int32.not_le.mpr q.2)) | exact bz_f (fun q => absurd c1 (Int32.not_lt.mpr q.1))), rfl⟩
  · skip
    refine r_iload_n (pc := 4) dX8_holds_4 rfl ?_
    refine r_aload_n (pc := 5) dX8_holds_5 rfl ?_
    refine r_getI (pc := 6) 8 0 9 dX8_holds_6 (fl_RX8_9 rfl) (by decide) rfl (c8_o ht) ?_
    refine r_icmp_ge (pc := 9) (x := h) (z := I t 0) (tgt := 16) dX8_holds_9 (by decide) (fun c9 => ?_) (fun c9 => ?_)
    · skip
      refine r_iconst (pc := 16) (v := 0) dX8_holds_16 (by decide) ?_
      refine r_ret_z (pc := 17) dX8_holds_17 rfl (by decide) ?_
      exact ⟨congrArg (fun z => some (Value.int z)) (by first | exact bz_t ⟨Int32.not_lt.mp c1, Int32.not_le.mp c9⟩ | exact bz_f (fun q => absurd c9 (Int32.not_le.mpr q.2)) | exact bz_f (fun q => absurd c1 (Int32.not_lt.mpr q.1))), rfl⟩
    · skip
      refine r_iconst (pc := 12) (v := 1) dX8_holds_12 (by decide) ?_
      refine r_goto (pc := 13) (tgt := 17) dX8_holds_13 (by decide) ?_
      refine r_ret_z (pc := 17) dX8_holds_17 rfl (by decide) ?_
      exact ⟨congrArg (fun z => some (Value.int z)) (by first | exact bz_t ⟨Int32.not_lt.mp c1, Int32.not_le.mp c9⟩ | exact bz_f (fun q => absurd c9 (Int32.not_le.mpr q.2)) | exact bz_f (fun q => absurd c1 (Int32.not_lt.mpr q.1))), rfl⟩

set_option maxRecDepth 100000 in
theorem allHouses_ct {d : Nat} {I : Im} {G : Gm} {t : Nat} (ht : isC8 G t) : Ct (d + 1) 0 0 YX8_allHouses [.ref t] (I, G) (qP ((1 <<< (I t 0 &&& 31)) - 1) (I, G)) := by
  refine Ct.of (by decide) (by simp [Value.category]) (Nat.le_of_ble_eq_true rfl) ?_
  show wp _ _ _ _ 0 [some (.ref t)] [] _ _
  refine r_iconst (pc := 0) (v := 1) dX8_allHouses_0 (by decide) ?_
  refine r_aload_n (pc := 1) dX8_allHouses_1 rfl ?_
  refine r_getI (pc := 2) 8 0 9 dX8_allHouses_2 (fl_RX8_9 rfl) (by decide) rfl (c8_o ht) ?_
  refine r_ishl (pc := 5) (x := 1) (z := I t 0) dX8_allHouses_5 ?_
  refine r_iconst (pc := 6) (v := 1) dX8_allHouses_6 (by decide) ?_
  refine r_isub (pc := 7) (x := 1 <<< ((I t 0) &&& 31)) (z := 1) dX8_allHouses_7 ?_
  refine r_ret_i (pc := 8) dX8_allHouses_8 rfl ?_
  exact ⟨rfl, rfl⟩

set_option maxRecDepth 100000 in
theorem isShop_ct {d : Nat} {I : Im} {G : Gm} {t : Nat} (ht : isC8 G t) {n h : Nat} (hn : I t 0 = nI n) (hn8 : n ≤ 8) (hh : h < n) : Ct (d + 2) 0 0 YX8_isShop [.ref t, .int (nI h)] (I, G) (qP (bz (I (t + 4) h = 0)) (I, G)) := by
  refine Ct.of (by decide) (by simp [Value.category]) (Nat.le_of_ble_eq_true rfl) ?_
  show wp _ _ _ _ 0 [some (.ref t), some (.int (nI h))] [] _ _
  refine r_aload_n (pc := 0) dX8_isShop_0 rfl ?_
  refine r_iload_n (pc := 1) dX8_isShop_1 rfl ?_
  refine r_callV_P (pc := 2) (b := t) (As := [.int (nI h)]) 8 59 dX8_isShop_2 lk_X8_holds (ml_RX8_59 rfl) im_X8_holds se_X8_holds (by decide) (c8_o ht) (Nat.le_of_ble_eq_true rfl) rfl (holds_ct ht) ?_
  refine r_if_eq_b (pc := 5) (tgt := 21) dX8_isShop_5 (by decide) (fun c5 => ?_) (fun c5 => ?_)
  · exfalso; exact c5 ⟨nI_pos' (by omega), by rw [hn]; exact nI_lt hh (by omega)⟩
  · skip
    refine r_aload_n (pc := 8) dX8_isShop_8 rfl ?_
    refine r_get1 (pc := 9) 8 5 28 dX8_isShop_9 (fl_RX8_28 rfl) (by decide) rfl (c8_o ht) (c8_p5 ht) ?_
    refine r_iload_n (pc := 12) dX8_isShop_12 rfl ?_
    refine r_iald_n (pc := 13) (i := h) dX8_isShop_13 (c8_a5 ht) (by decide) (by omega) rfl ?_
    refine r_if_ne (pc := 14) (x := I (t + 4) h) (tgt := 21) dX8_isShop_14 (by decide) (fun c14 => ?_) (fun c14 => ?_)
    · skip
      refine r_iconst (pc := 21) (v := 0) dX8_isShop_21 (by decide) ?_
      refine r_ret_z (pc := 22) dX8_isShop_22 rfl (by decide) ?_
      exact ⟨congrArg (fun z => some (Value.int z)) (by first | exact bz_t (by simp_all) | exact bz_f (by simp_all)), rfl⟩
    · skip
      refine r_iconst (pc := 17) (v := 1) dX8_isShop_17 (by decide) ?_
      refine r_goto (pc := 18) (tgt := 22) dX8_isShop_18 (by decide) ?_
      refine r_ret_z (pc := 22) dX8_isShop_22 rfl (by decide) ?_
      exact ⟨congrArg (fun z => some (Value.int z)) (by first | exact bz_t (by simp_all) | exact bz_f (by simp_all)), rfl⟩

set_option maxRecDepth 100000 in
theorem isShop_no {d : Nat} {I : Im} {G : Gm} {t : Nat} (ht : isC8 G t) {h : Int32} (hno : ¬ (0 ≤ h ∧ h < I t 0)) : Ct (d + 2) 0 0 YX8_isShop [.ref t, .int h] (I, G) (qP 0 (I, G)) := by
  refine Ct.of (by decide) (by simp [Value.category]) (Nat.le_of_ble_eq_true rfl) ?_
  show wp _ _ _ _ 0 [some (.ref t), some (.int h)] [] _ _
  refine r_aload_n (pc := 0) dX8_isShop_0 rfl ?_
  refine r_iload_n (pc := 1) dX8_isShop_1 rfl ?_
  refine r_callV_P (pc := 2) (b := t) (As := [.int h]) 8 59 dX8_isShop_2 lk_X8_holds (ml_RX8_59 rfl) im_X8_holds se_X8_holds (by decide) (c8_o ht) (Nat.le_of_ble_eq_true rfl) rfl (holds_ct ht) ?_
  refine r_if_eq_b (pc := 5) (tgt := 21) dX8_isShop_5 (by decide) (fun c5 => ?_) (fun c5 => ?_)
  · skip
    refine r_iconst (pc := 21) (v := 0) dX8_isShop_21 (by decide) ?_
    refine r_ret_z (pc := 22) dX8_isShop_22 rfl (by decide) ?_
    exact ⟨rfl, rfl⟩
  · exfalso; exact hno c5

set_option maxRecDepth 100000 in
theorem addSource_ct {d : Nat} {I : Im} {G : Gm} {t : Nat} (ht : isC8 G t) {fr to : Nat} (h1 : fr < 8) (h2 : to < 8) : Ct (d + 1) 0 0 YX8_addSource [.ref t, .int (nI fr), .int (nI to)] (I, G) (qV G (fun I2 => I2 = up2 (up2 I (t + 2) to (nI fr)) (t + 4) fr (I (t + 4) fr + 1))) := by
  refine Ct.of (by decide) (by simp [Value.category]) (Nat.le_of_ble_eq_true rfl) ?_
  show wp _ _ _ _ 0 [some (.ref t), some (.int (nI fr)), some (.int (nI to))] [] _ _
  refine r_aload_n (pc := 0) dX8_addSource_0 rfl ?_
  refine r_get1 (pc := 1) 8 3 22 dX8_addSource_1 (fl_RX8_22 rfl) (by decide) rfl (c8_o ht) (c8_p3 ht) ?_
  refine r_iload_n (pc := 4) dX8_addSource_4 rfl ?_
  refine r_iload_n (pc := 5) dX8_addSource_5 rfl ?_
  refine r_iast_n (pc := 6) (i := to) (v := nI fr) dX8_addSource_6 (c8_a3 ht) (by decide) (by omega) ?_
  refine r_aload_n (pc := 7) dX8_addSource_7 rfl ?_
  refine r_get1 (pc := 8) 8 5 28 dX8_addSource_8 (fl_RX8_28 rfl) (by decide) rfl (c8_o ht) (c8_p5 ht) ?_
  refine r_iload_n (pc := 11) dX8_addSource_11 rfl ?_
  refine r_dup2 (pc := 12) dX8_addSource_12 rfl rfl ?_
  refine r_iald_n (pc := 13) (i := fr) dX8_addSource_13 (c8_a5 ht) (by decide) (by omega) (v := I (t + 4) fr) ((up2_rd (by omega)).trans (rfl)) ?_
  refine r_iconst (pc := 14) (v := 1) dX8_addSource_14 (by decide) ?_
  refine r_iadd (pc := 15) (x := I (t + 4) fr) (z := 1) dX8_addSource_15 ?_
  refine r_iast_n (pc := 16) (i := fr) (v := (I (t + 4) fr) + 1) dX8_addSource_16 (c8_a5 ht) (by decide) (by omega) ?_
  refine r_ret_v (pc := 17) dX8_addSource_17 rfl ?_
  exact ⟨rfl, _, rfl, rfl⟩

/-- the row that serves u -/
def rwF (u : Nat) : Nat := if u ≤ 41 then u else 41
theorem rwF_le (u : Nat) : rwF u ≤ 41 := by
  unfold rwF
  split <;> omega

set_option maxRecDepth 100000 in
theorem row_ct {d : Nat} {I : Im} {G : Gm} {u : Nat} (hu : u < 2000) : Ct (d + 1) 0 0 YX9_row [.int (nI u)] (I, G) (qP (nI (rwF u)) (I, G)) := by
  refine Ct.of (by decide) (by simp [Value.category]) (Nat.le_of_ble_eq_true rfl) ?_
  show wp _ _ _ _ 0 [some (.int (nI u))] [] _ _
  refine r_iload_n (pc := 0) dX9_row_0 rfl ?_
  refine r_if_ge_n (pc := 1) (tgt := 8) dX9_row_1 (by decide) (by omega) ?_
  refine r_iload_n (pc := 8) dX9_row_8 rfl ?_
  refine r_bipush (pc := 9) (v := 41) dX9_row_9 (by decide) ?_
  refine r_icmp_le_n (pc := 11) (a := u) (b := 41) (tgt := 19) dX9_row_11 (by decide) (by omega) (by omega) (fun c11 => ?_) (fun c11 => ?_)
  · skip
    refine r_iload_n (pc := 19) dX9_row_19 rfl ?_
    refine r_ret_i (pc := 20) dX9_row_20 rfl ?_
    exact ⟨by first | (simp only [rwF]; rw [if_pos (by omega)]) | (simp only [rwF]; rw [if_neg (by omega)]; rfl), rfl⟩
  · skip
    refine r_bipush (pc := 14) (v := 41) dX9_row_14 (by decide) ?_
    refine r_goto (pc := 16) (tgt := 20) dX9_row_16 (by decide) ?_
    refine r_ret_i (pc := 20) dX9_row_20 rfl ?_
    exact ⟨by first | (simp only [rwF]; rw [if_pos (by omega)]) | (simp only [rwF]; rw [if_neg (by omega)]; rfl), rfl⟩

set_option maxRecDepth 100000 in
theorem isPrice_ct {d : Nat} {M : Mm} {p : Int32} : Ct (d + 1) 0 0 YX9_isPrice [.int p] M (qP (bz (0 ≤ p ∧ p ≤ 41)) M) := by
  refine Ct.of (by decide) (by simp [Value.category]) (Nat.le_of_ble_eq_true rfl) ?_
  show wp _ _ _ _ 0 [some (.int p)] [] _ _
  refine r_iload_n (pc := 0) dX9_isPrice_0 rfl ?_
  refine r_if_lt (pc := 1) (x := p) (tgt := 14) dX9_isPrice_1 (by decide) (fun c1 => ?_) (fun c1 => ?_)
  · skip
    refine r_iconst (pc := 14) (v := 0) dX9_isPrice_14 (by decide) ?_
    refine r_ret_z (pc := 15) dX9_isPrice_15 rfl (by decide) ?_
    exact ⟨congrArg (fun z => some (Value.int z)) (by first | exact bz_t ⟨Int32.not_lt.mp c1, Int32.not_lt.mp c7⟩ | exact bz_f (fun q => absurd c7 (Int32.not_lt.mpr q.2)) | exact bz_f (fun q => absurd c1 (Int32.not_lt.mpr q.1))), rfl⟩
  · skip
    refine r_iload_n (pc := 4) dX9_isPrice_4 rfl ?_
    refine r_bipush (pc := 5) (v := 41) dX9_isPrice_5 (by decide) ?_
    refine r_icmp_gt (pc := 7) (x := p) (z := 41) (tgt := 14) dX9_isPrice_7 (by decide) (fun c7 => ?_) (fun c7 => ?_)
    · skip
      refine r_iconst (pc := 14) (v := 0) dX9_isPrice_14 (by decide) ?_
      refine r_ret_z (pc := 15) dX9_isPrice_15 rfl (by decide) ?_
      exact ⟨congrArg (fun z => some (Value.int z)) (by first | exact bz_t ⟨Int32.not_lt.mp c1, Int32.not_lt.mp c7⟩ | exact bz_f (fun q => absurd c7 (Int32.not_lt.mpr q.2)) | exact bz_f (fun q => absurd c1 (Int32.not_lt.mpr q.1))), rfl⟩
    · skip
      refine r_iconst (pc := 10) (v := 1) dX9_isPrice_10 (by decide) ?_
      refine r_goto (pc := 11) (tgt := 15) dX9_isPrice_11 (by decide) ?_
      refine r_ret_z (pc := 15) dX9_isPrice_15 rfl (by decide) ?_
      exact ⟨congrArg (fun z => some (Value.int z)) (by first | exact bz_t ⟨Int32.not_lt.mp c1, Int32.not_lt.mp c7⟩ | exact bz_f (fun q => absurd c7 (Int32.not_lt.mpr q.2)) | exact bz_f (fun q => absurd c1 (Int32.not_lt.mpr q.1))), rfl⟩

/-- downwards from 41: the lowest of the best that may be asked -/
def bdn (g : Nat → Int32) (ok : Nat → Bool) : Nat → Nat × Int32
  | 0 => (41, 0)
  | j + 1 => if ok (41 - j) = true ∧ (bdn g ok j).2 ≤ g (41 - j) then (41 - j, g (41 - j)) else bdn g ok j
def askF (w : Nat → Nat) (cap u : Nat) : Nat := (bdn (fun p => (nI p - nI u) * nI (w p)) (fun p => decide (p ≤ cap ∨ p = 41)) 42).1
theorem bdn_le (g : Nat → Int32) (ok : Nat → Bool) : ∀ j, (bdn g ok j).1 ≤ 41
  | 0 => Nat.le_refl _
  | j + 1 => by
    unfold bdn
    have := bdn_le g ok j
    split <;> simp <;> omega
theorem askF_le (w : Nat → Nat) (cap u : Nat) : askF w cap u ≤ 41 := bdn_le _ _ _
theorem bdn_step (g : Nat → Int32) (ok : Nat → Bool) {p : Nat} (h : p ≤ 41) : bdn g ok (42 - p) = if ok p = true ∧ (bdn g ok (42 - (p + 1))).2 ≤ g p then (p, g p) else bdn g ok (42 - (p + 1)) := by
  obtain ⟨j, hj⟩ : ∃ j, 42 - p = j + 1 := ⟨41 - p, by omega⟩
  rw [hj, show 42 - (p + 1) = j by omega]
  show (if ok (41 - j) = true ∧ (bdn g ok j).2 ≤ g (41 - j) then (41 - j, g (41 - j)) else bdn g ok j) = _
  rw [show 41 - j = p by omega]

set_option maxRecDepth 100000 in
theorem bestPrice_ct {d : Nat} {I : Im} {G : Gm} {a cap u : Nat} {w : Nat → Nat} (ha : ar (I, G) a 1 42) (hw : ∀ p, p < 42 → I a p = nI (w p)) (hcap : cap ≤ 41) (hu : u < 2000) : Ct (d + 1) 0 0 YX9_bestPrice [.ref a, .int (nI cap), .int (nI u)] (I, G) (qP (nI (askF w cap u)) (I, G)) := by
  refine Ct.of (by decide) (by simp [Value.category]) (Nat.le_of_ble_eq_true rfl) ?_
  show wp _ _ _ _ 0 [some (.ref a), some (.int (nI cap)), some (.int (nI u)), none, none, none, none] [] _ _
  refine r_bipush (pc := 0) (v := 41) dX9_bestPrice_0 (by decide) ?_
  refine r_istore_n (pc := 2) (L' := [some (.ref a), some (.int (nI cap)), some (.int (nI u)), some (.int (nI 41)), none, none, none]) dX9_bestPrice_2 (by decide) rfl rfl ?_
  refine r_iconst (pc := 3) (v := 0) dX9_bestPrice_3 (by decide) ?_
  refine r_istore (pc := 4) (L' := [some (.ref a), some (.int (nI cap)), some (.int (nI u)), some (.int (nI 41)), some (.int (nI 0)), none, none]) dX9_bestPrice_4 (by decide) rfl rfl ?_
  refine r_bipush (pc := 6) (v := 41) dX9_bestPrice_6 (by decide) ?_
  refine r_istore (pc := 8) (L' := [some (.ref a), some (.int (nI cap)), some (.int (nI u)), some (.int (nI 41)), some (.int (nI 0)), some (.int (nI 41)), none]) dX9_bestPrice_8 (by decide) rfl rfl ?_
  refine wp_L (L2 := [some (.ref a), some (.int (nI cap)), some (.int (nI u)), some (.int (nI 41)), some (.int (nI 0)), some (.int (nI (41 + 1) - 1)), none]) (by first | rfl | (simp only [nI_pred]; done) | (simp only [nI_pred]; rfl)) ?_
  have lp10 : ∀ (n10 : Nat), ∀ (p : Nat) (be : Nat) (mo : Int32), p = n10 → (p ≤ 42) → ((be, mo) = bdn (fun p => (nI p - nI u) * nI (w p)) (fun p => decide (p ≤ cap ∨ p = 41)) (42 - p)) → wp (d + 1) 0 0 YX9_bestPrice 10 [some (.ref a), some (.int (nI cap)), some (.int (nI u)), some (.int (nI be)), some (.int mo), some (.int (nI p - 1)), none] [] (I, G) (qP (nI (askF w cap u)) (I, G)) := by
    intro n10
    induction n10 using Nat.strongRecOn with
    | ind n10 ih10 =>
      intro p be mo hmu10 hp hb
      rcases p with _ | p
      · skip
        show wp _ _ _ _ _ [some (.ref a), some (.int (nI cap)), some (.int (nI u)), some (.int (nI be)), some (.int mo), some (.int (-1)), none] _ _ _
        refine r_iload (pc := 10) dX9_bestPrice_10 rfl ?_
        refine r_if_lt (pc := 12) (x := (-1)) (tgt := 59) dX9_bestPrice_12 (by decide) (fun c12 => ?_) (fun c12 => ?_)
        · skip
          refine r_iload_n (pc := 59) dX9_bestPrice_59 rfl ?_
          refine r_ret_i (pc := 60) dX9_bestPrice_60 rfl ?_
          exact ⟨by unfold askF; rw [← show (be, mo) = bdn (fun p => (nI p - nI u) * nI (w p)) (fun p => decide (p ≤ cap ∨ p = 41)) 42 from hb], rfl⟩
        · exfalso; exact absurd c12 (by decide)
      · skip
        refine wp_L (L2 := [some (.ref a), some (.int (nI cap)), some (.int (nI u)), some (.int (nI be)), some (.int mo), some (.int (nI p)), none]) (by rw [nI_pred]) ?_
        refine r_iload (pc := 10) dX9_bestPrice_10 rfl ?_
        refine r_if_lt_n (pc := 12) (tgt := 59) dX9_bestPrice_12 (by decide) (by omega) ?_
        refine r_iload (pc := 15) dX9_bestPrice_15 rfl ?_
        refine r_iload_n (pc := 17) dX9_bestPrice_17 rfl ?_
        refine r_isub (pc := 18) (x := nI p) (z := nI u) dX9_bestPrice_18 ?_
        refine r_aload_n (pc := 19) dX9_bestPrice_19 rfl ?_
        refine r_iload (pc := 20) dX9_bestPrice_20 rfl ?_
        refine r_iald_n (pc := 22) (i := p) dX9_bestPrice_22 ha (by decide) (by omega) (v := nI (w p)) (hw _ (by omega)) ?_
        refine r_imul (pc := 23) (x := (nI p) - (nI u)) (z := nI (w p)) dX9_bestPrice_23 ?_
        refine r_istore (pc := 24) (L' := [some (.ref a), some (.int (nI cap)), some (.int (nI u)), some (.int (nI be)), some (.int mo), some (.int (nI p)), some (.int (((nI p) - (nI u)) * (nI (w p))))]) dX9_bestPrice_24 (by decide) rfl rfl ?_
        refine r_iload (pc := 26) dX9_bestPrice_26 rfl ?_
        refine r_iload_n (pc := 28) dX9_bestPrice_28 rfl ?_
        refine r_icmp_le_n (pc := 29) (a := p) (b := cap) (tgt := 39) dX9_bestPrice_29 (by decide) (by omega) (by omega) (fun c29 => ?_) (fun c29 => ?_)
        · skip
          refine r_iload (pc := 39) dX9_bestPrice_39 rfl ?_
          refine r_iload (pc := 41) dX9_bestPrice_41 rfl ?_
          refine r_icmp_lt (pc := 43) (x := ((nI p) - (nI u)) * (nI (w p))) (z := mo) (tgt := 53) dX9_bestPrice_43 (by decide) (fun c43 => ?_) (fun c43 => ?_)
          · skip
            refine r_iinc (pc := 53) (v := nI p - 1) (L' := [some (.ref a), some (.int (nI cap)), some (.int (nI u)), some (.int (nI be)), some (.int mo), some (.int (nI p - 1)), some (.int (((nI p) - (nI u)) * (nI (w p))))]) dX9_bestPrice_53 rfl (nI_dm _) (by decide) rfl rfl ?_
            refine r_goto (pc := 56) (tgt := 10) dX9_bestPrice_56 (by decide) ?_
            refine wp_sub [some (.ref a), some (.int (nI cap)), some (.int (nI u)), some (.int (nI be)), some (.int mo), some (.int (nI p - 1)), none] ⟨rfl, ⟨rfl, ⟨rfl, ⟨rfl, ⟨rfl, ⟨rfl, trivial⟩⟩⟩⟩⟩⟩ ?_
            exact ih10 _ (by omega) p be mo rfl (by omega) (by rw [bdn_step _ _ (show p ≤ 41 by omega)]; first | (rw [if_pos ⟨by simp; omega, by simp only [← hb]; exact Int32.not_lt.mp c43⟩]; done) | (rw [if_neg (fun q => by have := q.2; simp only [← hb] at this; exact absurd c43 (Int32.not_lt.mpr this))]; exact hb) | (rw [if_neg (fun q => by have := q.1; simp at this; omega)]; exact hb))
          · skip
            refine r_iload (pc := 46) dX9_bestPrice_46 rfl ?_
            refine r_istore (pc := 48) (L' := [some (.ref a), some (.int (nI cap)), some (.int (nI u)), some (.int (nI be)), some (.int (((nI p) - (nI u)) * (nI (w p)))), some (.int (nI p)), some (.int (((nI p) - (nI u)) * (nI (w p))))]) dX9_bestPrice_48 (by decide) rfl rfl ?_
            refine r_iload (pc := 50) dX9_bestPrice_50 rfl ?_
            refine r_istore_n (pc := 52) (L' := [some (.ref a), some (.int (nI cap)), some (.int (nI u)), some (.int (nI p)), some (.int (((nI p) - (nI u)) * (nI (w p)))), some (.int (nI p)), some (.int (((nI p) - (nI u)) * (nI (w p))))]) dX9_bestPrice_52 (by decide) rfl rfl ?_
            refine r_iinc (pc := 53) (v := nI p - 1) (L' := [some (.ref a), some (.int (nI cap)), some (.int (nI u)), some (.int (nI p)), some (.int (((nI p) - (nI u)) * (nI (w p)))), some (.int (nI p - 1)), some (.int (((nI p) - (nI u)) * (nI (w p))))]) dX9_bestPrice_53 rfl (nI_dm _) (by decide) rfl rfl ?_
            refine r_goto (pc := 56) (tgt := 10) dX9_bestPrice_56 (by decide) ?_
            refine wp_sub [some (.ref a), some (.int (nI cap)), some (.int (nI u)), some (.int (nI p)), some (.int (((nI p) - (nI u)) * (nI (w p)))), some (.int (nI p - 1)), none] ⟨rfl, ⟨rfl, ⟨rfl, ⟨rfl, ⟨rfl, ⟨rfl, trivial⟩⟩⟩⟩⟩⟩ ?_
            exact ih10 _ (by omega) p p (((nI p) - (nI u)) * (nI (w p))) rfl (by omega) (by rw [bdn_step _ _ (show p ≤ 41 by omega)]; first | (rw [if_pos ⟨by simp; omega, by simp only [← hb]; exact Int32.not_lt.mp c43⟩]; done) | (rw [if_neg (fun q => by have := q.2; simp only [← hb] at this; exact absurd c43 (Int32.not_lt.mpr this))]; exact hb) | (rw [if_neg (fun q => by have := q.1; simp at this; omega)]; exact hb))
        · skip
          refine r_iload (pc := 32) dX9_bestPrice_32 rfl ?_
          refine r_bipush (pc := 34) (v := 41) dX9_bestPrice_34 (by decide) ?_
          refine r_icmp_ne_n (pc := 36) (a := p) (b := 41) (tgt := 53) dX9_bestPrice_36 (by decide) (by omega) (by omega) (fun c36 => ?_) (fun c36 => ?_)
          · skip
            refine r_iinc (pc := 53) (v := nI p - 1) (L' := [some (.ref a), some (.int (nI cap)), some (.int (nI u)), some (.int (nI be)), some (.int mo), some (.int (nI p - 1)), some (.int (((nI p) - (nI u)) * (nI (w p))))]) dX9_bestPrice_53 rfl (nI_dm _) (by decide) rfl rfl ?_
            refine r_goto (pc := 56) (tgt := 10) dX9_bestPrice_56 (by decide) ?_
            refine wp_sub [some (.ref a), some (.int (nI cap)), some (.int (nI u)), some (.int (nI be)), some (.int mo), some (.int (nI p - 1)), none] ⟨rfl, ⟨rfl, ⟨rfl, ⟨rfl, ⟨rfl, ⟨rfl, trivial⟩⟩⟩⟩⟩⟩ ?_
            exact ih10 _ (by omega) p be mo rfl (by omega) (by rw [bdn_step _ _ (show p ≤ 41 by omega)]; first | (rw [if_pos ⟨by simp; omega, by simp only [← hb]; exact Int32.not_lt.mp c43⟩]; done) | (rw [if_neg (fun q => by have := q.2; simp only [← hb] at this; exact absurd c43 (Int32.not_lt.mpr this))]; exact hb) | (rw [if_neg (fun q => by have := q.1; simp at this; omega)]; exact hb))
          · skip
            refine r_iload (pc := 39) dX9_bestPrice_39 rfl ?_
            refine r_iload (pc := 41) dX9_bestPrice_41 rfl ?_
            refine r_icmp_lt (pc := 43) (x := ((nI p) - (nI u)) * (nI (w p))) (z := mo) (tgt := 53) dX9_bestPrice_43 (by decide) (fun c43 => ?_) (fun c43 => ?_)
            · skip
              refine r_iinc (pc := 53) (v := nI p - 1) (L' := [some (.ref a), some (.int (nI cap)), some (.int (nI u)), some (.int (nI be)), some (.int mo), some (.int (nI p - 1)), some (.int (((nI p) - (nI u)) * (nI (w p))))]) dX9_bestPrice_53 rfl (nI_dm _) (by decide) rfl rfl ?_
              refine r_goto (pc := 56) (tgt := 10) dX9_bestPrice_56 (by decide) ?_
              refine wp_sub [some (.ref a), some (.int (nI cap)), some (.int (nI u)), some (.int (nI be)), some (.int mo), some (.int (nI p - 1)), none] ⟨rfl, ⟨rfl, ⟨rfl, ⟨rfl, ⟨rfl, ⟨rfl, trivial⟩⟩⟩⟩⟩⟩ ?_
              exact ih10 _ (by omega) p be mo rfl (by omega) (by rw [bdn_step _ _ (show p ≤ 41 by omega)]; first | (rw [if_pos ⟨by simp; omega, by simp only [← hb]; exact Int32.not_lt.mp c43⟩]; done) | (rw [if_neg (fun q => by have := q.2; simp only [← hb] at this; exact absurd c43 (Int32.not_lt.mpr this))]; exact hb) | (rw [if_neg (fun q => by have := q.1; simp at this; omega)]; exact hb))
            · skip
              refine r_iload (pc := 46) dX9_bestPrice_46 rfl ?_
              refine r_istore (pc := 48) (L' := [some (.ref a), some (.int (nI cap)), some (.int (nI u)), some (.int (nI be)), some (.int (((nI p) - (nI u)) * (nI (w p)))), some (.int (nI p)), some (.int (((nI p) - (nI u)) * (nI (w p))))]) dX9_bestPrice_48 (by decide) rfl rfl ?_
              refine r_iload (pc := 50) dX9_bestPrice_50 rfl ?_
              refine r_istore_n (pc := 52) (L' := [some (.ref a), some (.int (nI cap)), some (.int (nI u)), some (.int (nI p)), some (.int (((nI p) - (nI u)) * (nI (w p)))), some (.int (nI p)), some (.int (((nI p) - (nI u)) * (nI (w p))))]) dX9_bestPrice_52 (by decide) rfl rfl ?_
              refine r_iinc (pc := 53) (v := nI p - 1) (L' := [some (.ref a), some (.int (nI cap)), some (.int (nI u)), some (.int (nI p)), some (.int (((nI p) - (nI u)) * (nI (w p)))), some (.int (nI p - 1)), some (.int (((nI p) - (nI u)) * (nI (w p))))]) dX9_bestPrice_53 rfl (nI_dm _) (by decide) rfl rfl ?_
              refine r_goto (pc := 56) (tgt := 10) dX9_bestPrice_56 (by decide) ?_
              refine wp_sub [some (.ref a), some (.int (nI cap)), some (.int (nI u)), some (.int (nI p)), some (.int (((nI p) - (nI u)) * (nI (w p)))), some (.int (nI p - 1)), none] ⟨rfl, ⟨rfl, ⟨rfl, ⟨rfl, ⟨rfl, ⟨rfl, trivial⟩⟩⟩⟩⟩⟩ ?_
              exact ih10 _ (by omega) p p (((nI p) - (nI u)) * (nI (w p))) rfl (by omega) (by rw [bdn_step _ _ (show p ≤ 41 by omega)]; first | (rw [if_pos ⟨by simp; omega, by simp only [← hb]; exact Int32.not_lt.mp c43⟩]; done) | (rw [if_neg (fun q => by have := q.2; simp only [← hb] at this; exact absurd c43 (Int32.not_lt.mpr this))]; exact hb) | (rw [if_neg (fun q => by have := q.1; simp at this; omega)]; exact hb))
  exact lp10 _ (41 + 1) 41 0 rfl (by omega) (by rfl)
