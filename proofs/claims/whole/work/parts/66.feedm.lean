/-! ===== what is fed: the reference ===== -/
theorem bt_and255 (x : Int32) (c : Nat) : bt (x &&& 255) c = (bt x c && decide (c < 8)) := by
  rw [bt_and]
  congr 1
  rw [show (255 : Int32) = nI (2 ^ 8 - 1) from rfl, bt_nI (by omega), Nat.testBit_two_pow_sub_one]
theorem byte_and (x : Int32) : (vp_nar .byte (x.toInt8.toInt32)) &&& 255 = x &&& 255 := by
  apply bt_ext
  intro c hc
  rw [bt_and255, bt_and255]
  by_cases h : c < 8
  · rw [decide_eq_true h, Bool.and_true, Bool.and_true]
    have e : ∀ y : Int32, bt (y.toInt8.toInt32) c = bt y c := fun y => by
      unfold bt
      rw [Int8.toBitVec_toInt32, BitVec.getLsbD_signExtend, Int32.toBitVec_toInt8, if_pos h, BitVec.getLsbD_signExtend, if_pos hc]
      simp [hc, h]
    show bt (x.toInt8.toInt32.toInt8.toInt32) c = bt x c
    rw [e, e]
  · rw [decide_eq_false h, Bool.and_false, Bool.and_false]

set_option maxRecDepth 100000 in
theorem bytesInM_ct {d : Nat} {I : Im} {G : Gm} {v : Int32} : Ct (d + 1) 0 0 YX10_bytesIn [.int v] (I, G) (qP (nI (bnF v 4)) (I, G)) := by
  refine Ct.of (by decide) (by simp [Value.category]) (Nat.le_of_ble_eq_true rfl) ?_
  show wp _ _ _ _ 0 [some (.int v), none, none] [] _ _
  refine r_iconst (pc := 0) (v := 0) dX10_bytesIn_0 (by decide) ?_
  refine r_istore_n (pc := 1) (L' := [some (.int v), some (.int (nI 0)), none]) dX10_bytesIn_1 (by decide) rfl rfl ?_
  refine r_bipush (pc := 2) (v := 24) dX10_bytesIn_2 (by decide) ?_
  refine r_istore_n (pc := 4) (L' := [some (.int v), some (.int (nI 0)), some (.int (nI 24))]) dX10_bytesIn_4 (by decide) rfl rfl ?_
  have lp5 : ∀ (n5 : Nat), ∀ (j : Nat) (c : Nat), 4 - j = n5 → (j ≤ 4) → (c = bnF v j) → wp (d + 1) 0 0 YX10_bytesIn 5 [some (.int v), some (.int (nI c)), some (.int (shV j))] [] (I, G) (qP (nI (bnF v 4)) (I, G)) := by
    intro n5
    induction n5 using Nat.strongRecOn with
    | ind n5 ih5 =>
      intro j c hmu5 hj hc
      refine r_iload_n (pc := 5) dX10_bytesIn_5 rfl ?_
      refine r_if_lt (pc := 6) (x := shV j) (tgt := 33) dX10_bytesIn_6 (by decide) (fun c6 => ?_) (fun c6 => ?_)
      · skip
        refine r_iload_n (pc := 33) dX10_bytesIn_33 rfl ?_
        refine r_ret_i (pc := 34) dX10_bytesIn_34 rfl ?_
        exact ⟨by rw [hc, (shV_neg hj).mp c6], rfl⟩
      · skip
        refine r_iload_n (pc := 9) dX10_bytesIn_9 rfl ?_
        refine r_iload_n (pc := 10) dX10_bytesIn_10 rfl ?_
        refine r_iload_n (pc := 11) dX10_bytesIn_11 rfl ?_
        refine r_ishr (pc := 12) (x := v) (z := shV j) dX10_bytesIn_12 ?_
        refine r_sipush (pc := 13) (v := 255) dX10_bytesIn_13 (by decide) ?_
        refine r_iand (pc := 16) (x := v >>> ((shV j) &&& 31)) (z := 255) dX10_bytesIn_16 ?_
        have hby := byN_is v j
        · skip
          refine wp_S (st2 := [.int (nI (byN v j)), .int (nI c)]) (by rw [hby.1]) ?_
          refine r_if_eq_n (pc := 17) (a := byN v j) (tgt := 24) dX10_bytesIn_17 (by decide) (by omega) (fun c17 => ?_) (fun c17 => ?_)
          · skip
            refine r_iconst (pc := 24) (v := 0) dX10_bytesIn_24 (by decide) ?_
            refine r_iadd_n (pc := 25) (a := c) (b := 0) dX10_bytesIn_25 ?_
            refine r_istore_n (pc := 26) (L' := [some (.int v), some (.int (nI (c + 0))), some (.int (shV j))]) dX10_bytesIn_26 (by decide) rfl rfl ?_
            refine r_iinc (pc := 27) (v := shV j + (-8)) (L' := [some (.int v), some (.int (nI (c + 0))), some (.int (shV j + (-8)))]) dX10_bytesIn_27 rfl rfl (by decide) rfl rfl ?_
            refine r_goto (pc := 30) (tgt := 5) dX10_bytesIn_30 (by decide) ?_
            exact ih5 _ (by have : j ≠ 4 := fun z => c6 ((shV_neg hj).mpr z); omega) (j + 1) (c + 0) rfl (by have : j ≠ 4 := fun z => c6 ((shV_neg hj).mpr z); omega) (by rw [hc]; first | exact (congrArg (bnF v j + ·) (show (if byN v j = 0 then 0 else 1) = 1 from if_neg c17)).symm | exact (congrArg (bnF v j + ·) (show (if byN v j = 0 then 0 else 1) = 0 from if_pos c17)).symm)
          · skip
            refine r_iconst (pc := 20) (v := 1) dX10_bytesIn_20 (by decide) ?_
            refine r_goto (pc := 21) (tgt := 25) dX10_bytesIn_21 (by decide) ?_
            refine r_iadd_n (pc := 25) (a := c) (b := 1) dX10_bytesIn_25 ?_
            refine r_istore_n (pc := 26) (L' := [some (.int v), some (.int (nI (c + 1))), some (.int (shV j))]) dX10_bytesIn_26 (by decide) rfl rfl ?_
            refine r_iinc (pc := 27) (v := shV j + (-8)) (L' := [some (.int v), some (.int (nI (c + 1))), some (.int (shV j + (-8)))]) dX10_bytesIn_27 rfl rfl (by decide) rfl rfl ?_
            refine r_goto (pc := 30) (tgt := 5) dX10_bytesIn_30 (by decide) ?_
            exact ih5 _ (by have : j ≠ 4 := fun z => c6 ((shV_neg hj).mpr z); omega) (j + 1) (c + 1) rfl (by have : j ≠ 4 := fun z => c6 ((shV_neg hj).mpr z); omega) (by rw [hc]; first | exact (congrArg (bnF v j + ·) (show (if byN v j = 0 then 0 else 1) = 1 from if_neg c17)).symm | exact (congrArg (bnF v j + ·) (show (if byN v j = 0 then 0 else 1) = 0 from if_pos c17)).symm)
  exact lp5 _ 0 0 rfl (by omega) (by rfl)

set_option maxRecDepth 100000 in
theorem putM_ct {d : Nat} {I : Im} {G : Gm} {m : Nat} {T : Tp} {v : Int32} (hm : isC10 G m) (hT : TpM I m T) (hroom : T.1 + bnF v 4 ≤ 300) : Ct (d + 1) 0 0 YX10_put [.ref m, .int v] (I, G) (qV G (fun I2 => TpM I2 m (puF T v 4) ∧ ∀ c k, c ≠ m + 1 → ¬ (c = m ∧ k = 2) → I2 c k = I c k)) := by
  refine Ct.of (by decide) (by simp [Value.category]) (Nat.le_of_ble_eq_true rfl) ?_
  show wp _ _ _ _ 0 [some (.ref m), some (.int v), none] [] _ _
  refine r_bipush (pc := 0) (v := 24) dX10_put_0 (by decide) ?_
  refine r_istore_n (pc := 2) (L' := [some (.ref m), some (.int v), some (.int (nI 24))]) dX10_put_2 (by decide) rfl rfl ?_
  have lp3 : ∀ (n3 : Nat), ∀ (j : Nat) (I1 : Im), 4 - j = n3 → (j ≤ 4) → (TpM I1 m (puF T v j)) → (∀ c k, c ≠ m + 1 → ¬ (c = m ∧ k = 2) → I1 c k = I c k) → wp (d + 1) 0 0 YX10_put 3 [some (.ref m), some (.int v), some (.int (shV j))] [] (I1, G) (qV G (fun I2 => TpM I2 m (puF T v 4) ∧ ∀ c k, c ≠ m + 1 → ¬ (c = m ∧ k = 2) → I2 c k = I c k)) := by
    intro n3
    induction n3 using Nat.strongRecOn with
    | ind n3 ih3 =>
      intro j I1 hmu3 hj hT1 hfr
      refine r_iload_n (pc := 3) dX10_put_3 rfl ?_
      refine r_if_lt (pc := 4) (x := shV j) (tgt := 49) dX10_put_4 (by decide) (fun c4 => ?_) (fun c4 => ?_)
      · skip
        refine r_ret_v (pc := 49) dX10_put_49 rfl ?_
        exact ⟨rfl, I1, rfl, (shV_neg hj).mp c4 ▸ hT1, hfr⟩
      · skip
        have hj4 : j < 4 := by have : j ≠ 4 := fun z => c4 ((shV_neg hj).mpr z); omega
        refine r_iload_n (pc := 7) dX10_put_7 rfl ?_
        refine r_iload_n (pc := 8) dX10_put_8 rfl ?_
        refine r_ishr (pc := 9) (x := v) (z := shV j) dX10_put_9 ?_
        refine r_sipush (pc := 10) (v := 255) dX10_put_10 (by decide) ?_
        refine r_iand (pc := 13) (x := v >>> ((shV j) &&& 31)) (z := 255) dX10_put_13 ?_
        have hby := byN_is v j
        · skip
          refine wp_S (st2 := [.int (nI (byN v j))]) (by rw [hby.1]) ?_
          refine r_if_ne_n (pc := 14) (a := byN v j) (tgt := 20) dX10_put_14 (by decide) (by have := hT1.2.1; omega) (fun c14 => ?_) (fun c14 => ?_)
          · skip
            have hlen : (puF T v j).1 < 300 := by have h1 := puF_len T v j; have h2 := bnF_mono (v := v) (a := j + 1) (3 - j); rw [show j + 1 + (3 - j) = 4 by omega, show bnF v (j + 1) = bnF v j + 1 from congrArg (bnF v j + ·) (if_neg c14)] at h2; omega
            refine r_aload_n (pc := 20) dX10_put_20 rfl ?_
            refine r_get1 (pc := 21) 10 1 9 dX10_put_21 (fl_RX10_9 rfl) (by decide) rfl (c10_o hm) (c10_p1 hm) ?_
            refine r_aload_n (pc := 24) dX10_put_24 rfl ?_
            refine r_getIv (pc := 25) 10 2 88 dX10_put_25 (fl_RX10_88 rfl) (by decide) rfl (c10_o hm) (v := nI ((puF T v j).1)) (hT1.1) ?_
            refine r_iload_n (pc := 28) dX10_put_28 rfl ?_
            refine r_iload_n (pc := 29) dX10_put_29 rfl ?_
            refine r_ishr (pc := 30) (x := v) (z := shV j) dX10_put_30 ?_
            refine r_i2b (pc := 31) (x := v >>> ((shV j) &&& 31)) dX10_put_31 ?_
            refine r_bast_n (pc := 32) (i := (puF T v j).1) (v := (v >>> ((shV j) &&& 31)).toInt8.toInt32) dX10_put_32 (c10_a1 hm) (by decide) (by omega) ?_
            refine r_aload_n (pc := 33) dX10_put_33 rfl ?_
            refine r_dup (pc := 34) dX10_put_34 rfl ?_
            refine r_getIv (pc := 35) 10 2 88 dX10_put_35 (fl_RX10_88 rfl) (by decide) rfl (c10_o hm) (v := nI ((puF T v j).1)) ((up2_rd (by omega)).trans (hT1.1)) ?_
            refine r_iconst (pc := 38) (v := 1) dX10_put_38 (by decide) ?_
            refine r_iadd_n (pc := 39) (a := (puF T v j).1) (b := 1) dX10_put_39 ?_
            refine r_putI (pc := 40) (v := nI (((puF T v j).1) + 1)) 10 2 88 dX10_put_40 (fl_RX10_88 rfl) (by decide) rfl rfl (c10_o hm) ?_
            obtain ⟨I3, hI3⟩ : ∃ zz0 : Im, zz0 = up2 (up2 I1 (m + 1) ((puF T v j).1) (vp_nar .byte ((v >>> ((shV j) &&& 31)).toInt8.toInt32))) m 2 (nI (((puF T v j).1) + 1)) := ⟨_, rfl⟩
            refine wp_M (M2 := (I3, G)) (by subst hI3; rfl) ?_
            have hTn : TpM I3 m (puF T v (j + 1)) := by
              show TpM I3 m (apF (puF T v j) (byN v j))
              unfold apF
              rw [if_neg c14, hI3]
              refine ⟨up2_at, by show (puF T v j).1 + 1 ≤ 300; omega, fun i hi => ?_, fun i => ?_⟩
              · show _ = nI (fu (puF T v j).2 (puF T v j).1 (byN v j) i)
                rw [up2_rd (by omega)]
                by_cases e : i = (puF T v j).1
                · rw [e, up2_at, fu_at, byte_and]
                  exact hby.1
                · rw [up2_rd (Or.inr e), fu_ne e]
                  exact hT1.2.2.1 i (by have hi : i < (puF T v j).1 + 1 := hi; omega)
              · show fu (puF T v j).2 (puF T v j).1 (byN v j) i ≤ 255
                unfold fu
                split
                · exact hby.2
                · exact hT1.2.2.2 i
            have hfn : ∀ c k, c ≠ m + 1 → ¬ (c = m ∧ k = 2) → I3 c k = I c k := fun c k g1 g2 => by rw [hI3, up2_rd (by omega), up2_rd (by omega)]; exact hfr c k g1 g2
            refine r_iinc (pc := 43) (v := shV j + (-8)) (L' := [some (.ref m), some (.int v), some (.int (shV j + (-8)))]) dX10_put_43 rfl rfl (by decide) rfl rfl ?_
            refine r_goto (pc := 46) (tgt := 3) dX10_put_46 (by decide) ?_
            exact ih3 _ (by omega) (j + 1) I3 rfl (by omega) hTn hfn
          · skip
            have hTn : TpM I1 m (puF T v (j + 1)) := by show TpM I1 m (apF (puF T v j) (byN v j)); unfold apF; rw [if_pos c14]; exact hT1
            have hfn := hfr
            refine r_goto (pc := 17) (tgt := 43) dX10_put_17 (by decide) ?_
            refine r_iinc (pc := 43) (v := shV j + (-8)) (L' := [some (.ref m), some (.int v), some (.int (shV j + (-8)))]) dX10_put_43 rfl rfl (by decide) rfl rfl ?_
            refine r_goto (pc := 46) (tgt := 3) dX10_put_46 (by decide) ?_
            exact ih3 _ (by omega) (j + 1) I1 rfl (by omega) hTn hfn
  exact lp3 _ 0 I rfl (by omega) hT (by exact fun _ _ _ _ => rfl)
