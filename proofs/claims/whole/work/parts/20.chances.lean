/-! ===== sums, and the chances ===== -/
def sm (f : Nat → Int32) : Nat → Int32
  | 0 => 0
  | k + 1 => sm f k + f k

/-- what is left of a chance's weight -/
def lfF (I : Im) (c : Nat) (q : Int32) : Nat → Int32 := fun k => I (c + 2) k * (if 0 < q - I (c + 1) k then q - I (c + 1) k else 0)

set_option maxRecDepth 100000 in
theorem leftOf_ct {d : Nat} {I : Im} {G : Gm} {c : Nat} (hc : isC0 G c) {q : Int32} {sz : Nat} (hs : I c 2 = nI sz) (hz : sz ≤ 12) : Ct (d + 1) 0 0 YX0_leftOf [.ref c, .int q] (I, G) (qP (sm (lfF I c q) sz) (I, G)) := by
  refine Ct.of (by decide) (by simp [Value.category]) (Nat.le_of_ble_eq_true rfl) ?_
  show wp _ _ _ _ 0 [some (.ref c), some (.int q), none, none] [] _ _
  refine r_iconst (pc := 0) (v := 0) dX0_leftOf_0 (by decide) ?_
  refine r_istore_n (pc := 1) (L' := [some (.ref c), some (.int q), some (.int (nI 0)), none]) dX0_leftOf_1 (by decide) rfl rfl ?_
  refine r_iconst (pc := 2) (v := 0) dX0_leftOf_2 (by decide) ?_
  refine r_istore_n (pc := 3) (L' := [some (.ref c), some (.int q), some (.int (nI 0)), some (.int (nI 0))]) dX0_leftOf_3 (by decide) rfl rfl ?_
  have lp4 : ∀ (n4 : Nat), ∀ (k : Nat) (lf : Int32), sz - k = n4 → (k ≤ sz) → (lf = sm (lfF I c q) k) → wp (d + 1) 0 0 YX0_leftOf 4 [some (.ref c), some (.int q), some (.int lf), some (.int (nI k))] [] (I, G) (qP (sm (lfF I c q) sz) (I, G)) := by
    intro n4
    induction n4 using Nat.strongRecOn with
    | ind n4 ih4 =>
      intro k lf hmu4 hk hl
      refine r_iload_n (pc := 4) dX0_leftOf_4 rfl ?_
      refine r_aload_n (pc := 5) dX0_leftOf_5 rfl ?_
      refine r_getIv (pc := 6) 0 2 18 dX0_leftOf_6 (fl_RX0_18 rfl) (by decide) rfl (c0_o hc) (v := nI sz) (hs) ?_
      refine r_icmp_ge_n (pc := 9) (a := k) (b := sz) (tgt := 40) dX0_leftOf_9 (by decide) (by omega) (by omega) (fun c9 => ?_) (fun c9 => ?_)
      · skip
        refine r_iload_n (pc := 40) dX0_leftOf_40 rfl ?_
        refine r_ret_i (pc := 41) dX0_leftOf_41 rfl ?_
        exact ⟨by rw [hl, show k = sz by omega], rfl⟩
      · skip
        refine r_iload_n (pc := 12) dX0_leftOf_12 rfl ?_
        refine r_aload_n (pc := 13) dX0_leftOf_13 rfl ?_
        refine r_get1 (pc := 14) 0 1 15 dX0_leftOf_14 (fl_RX0_15 rfl) (by decide) rfl (c0_o hc) (c0_p1 hc) ?_
        refine r_iload_n (pc := 17) dX0_leftOf_17 rfl ?_
        refine r_iald_n (pc := 18) (i := k) dX0_leftOf_18 (c0_a1 hc) (by decide) (by omega) rfl ?_
        refine r_iconst (pc := 19) (v := 0) dX0_leftOf_19 (by decide) ?_
        refine r_iload_n (pc := 20) dX0_leftOf_20 rfl ?_
        refine r_aload_n (pc := 21) dX0_leftOf_21 rfl ?_
        refine r_get1 (pc := 22) 0 0 9 dX0_leftOf_22 (fl_RX0_9 rfl) (by decide) rfl (c0_o hc) (c0_p0 hc) ?_
        refine r_iload_n (pc := 25) dX0_leftOf_25 rfl ?_
        refine r_iald_n (pc := 26) (i := k) dX0_leftOf_26 (c0_a0 hc) (by decide) (by omega) rfl ?_
        refine r_isub (pc := 27) (x := q) (z := I (c + 1) k) dX0_leftOf_27 ?_
        refine r_max (pc := 28) (x := 0) (z := q - (I (c + 1) k)) 25 dX0_leftOf_28 (mm_RX0_25 rfl) mt_max_s mt_i mt_max_c (Nat.le_of_ble_eq_true rfl) ?_
        refine r_imul (pc := 31) (x := I (c + 2) k) (z := if 0 < q - (I (c + 1) k) then q - (I (c + 1) k) else 0) dX0_leftOf_31 ?_
        refine r_iadd (pc := 32) (x := lf) (z := (I (c + 2) k) * (if 0 < q - (I (c + 1) k) then q - (I (c + 1) k) else 0)) dX0_leftOf_32 ?_
        refine r_istore_n (pc := 33) (L' := [some (.ref c), some (.int q), some (.int (lf + ((I (c + 2) k) * (if 0 < q - (I (c + 1) k) then q - (I (c + 1) k) else 0)))), some (.int (nI k))]) dX0_leftOf_33 (by decide) rfl rfl ?_
        refine r_iinc (pc := 34) (v := nI (k + 1)) (L' := [some (.ref c), some (.int q), some (.int (lf + ((I (c + 2) k) * (if 0 < q - (I (c + 1) k) then q - (I (c + 1) k) else 0)))), some (.int (nI (k + 1)))]) dX0_leftOf_34 rfl (nI_inc _) (by decide) rfl rfl ?_
        refine r_goto (pc := 37) (tgt := 4) dX0_leftOf_37 (by decide) ?_
        exact ih4 _ (by omega) (k + 1) (lf + ((I (c + 2) k) * (if 0 < q - (I (c + 1) k) then q - (I (c + 1) k) else 0))) rfl (by omega) (by rw [hl]; rfl)
  exact lp4 _ 0 0 rfl (by omega) (by rfl)
