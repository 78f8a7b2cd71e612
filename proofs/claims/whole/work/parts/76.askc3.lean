/-! ===== the class: parts, rivals, joining, chances ===== -/
def fpF (s : Sta) (t h : Int32) : Option Nat := match inF (sN s) t with
  | none => none
  | some k => match inF (dN (dK s k)) h with
    | none => none
    | some h => if shP (dK s k) h ∧ ¬ dS (dK s k) h = none then some (tA k) else none
theorem fp_t {s : Sta} {t h : Int32} (et : inF (sN s) t = none) : fpF s t h = none := by
  unfold fpF
  rw [et]
theorem fp_i {s : Sta} {t h : Int32} {k x : Nat} (et : inF (sN s) t = some k) (eh : inF (dN (dK s k)) h = some x) : fpF s t h = if shP (dK s k) x ∧ ¬ dS (dK s k) x = none then some (tA k) else none := by
  unfold fpF
  rw [et]
  show (match inF (dN (dK s k)) h with
    | none => none
    | some h => if shP (dK s k) h ∧ ¬ dS (dK s k) h = none then some (tA k) else none) = _
  rw [eh]
theorem fp_h {s : Sta} {t h : Int32} {k : Nat} (et : inF (sN s) t = some k) (eh : inF (dN (dK s k)) h = none) : fpF s t h = none := by
  unfold fpF
  rw [et]
  show (match inF (dN (dK s k)) h with
    | none => none
    | some h => if shP (dK s k) h ∧ ¬ dS (dK s k) h = none then some (tA k) else none) = _
  rw [eh]
theorem ao_m {I : Im} {D : Dr} (hD : DrOK D) (hO : OcE I 67 (eT D (allJ D, 41, false, false))) {h : Nat} (hh : h < dN D) (hs : shP D h) : I (67 + 41) h = nI (aoF D h) ∧ I (67 + 42) h = nI (wF D h (aoF D h)) ∧ I (67 + 40) h = nI (ccF (e0 D) h) := by
  have hE := src_of hD (allJ D, 41, false, false)
  have hW := wbc_of hD (allJ D, 41, false, false)
  have hc : ∀ b, eC (eT D (allJ D, 41, false, false)) b ≤ 60 := fun b => Nat.le_trans (hD.2.1 b) (by omega)
  have hJ : ∀ b, b < eN (eT D (allJ D, 41, false, false)) → jn (eJ (eT D (allJ D, 41, false, false))) (nI b) := fun b hb => jn_all hD.1.2 hb
  have hh' : h < eN (eT D (allJ D, 41, false, false)) := hh
  obtain ⟨a1, a2, a3⟩ := ao_all hE hW hc hJ hh' hs
  obtain ⟨o1, o2, _⟩ := oc_same hE hW hc hh'
  have q := hO h hh'
  exact ⟨q.2.2.1.trans (o1.symm.trans a1), q.2.2.2.1.trans (o2.symm.trans a2), q.2.1.trans (congrArg nI ((sp_same hE hW hc h hh').1.symm.trans a3))⟩
theorem hG_ne {G : Gm} {hl t a k : Nat} (h : a ≠ hl ∨ k ≠ 2) : (hG G hl t).1 a k = G.1 a k := up2_rd h
theorem hG_at (G : Gm) (hl t : Nat) : (hG G hl t).1 hl 2 = some t := up2_at
theorem findPairs_s {d : Nat} {I : Im} {G : Gm} {s : Sta} {k h : Nat} (hC : Ci s I G) (hk : k < sN s) (hh : h < dN (dK s k)) : Ct (d + 2) 0 0 YX3_findPairs [.ref 113, .ref (tA k), .int (nI h), .int (nI (aoF (dK s k) h))] (I, G) (qU (fun M => ∃ (I2 : Im) (G2 : Gm), M = (I2, G2) ∧ Ci s I2 G2 ∧ Geq G G2 ∧ PrV I2 113 (paR (dK s k) h) ∧ ∀ a j, a ≠ 113 → a ≠ 114 → I2 a j = I a j)) := by
  have hoff := tA_off k
  obtain ⟨hok, htr⟩ := hC.ok hk
  have hn8 : dN (dK s k) ≤ 8 := hok.1.1.2
  have h8 := hC.1.2.1 k (by omega)
  have h3 : isC3 G 113 := c9_s8 hC.1.1
  refine (findPairs_ct (d := d) (w := wF (dK s k) h) (c := dC (dK s k) h) h3 h8 (by omega) (by omega) (htr.1.2.2.1 h (by omega)).1 (hok.1.2.1 h) (fun p hp => htr.1.2.2.2 h p (by omega) hp) (Nat.lt_succ_of_le (askF_le _ _ _)) (fun z1 z2 => hC.2.2.2.2.2 k h hk (by omega) z1 z2)).mono (fun r M q => ?_)
  obtain ⟨hr, I2, hM, hP, h13, hf⟩ := q
  refine ⟨hr, I2, hG G 113 (tA k), hM, ?_, hG_eq h3, hP, hf⟩
  refine hC.mk (fun a j z => hf a j (by omega) (by omega)) (hG_eq h3) (fun j => hG_ne (Or.inl (by omega))) (hG_ne (Or.inl (by omega))) (hC.2.2.1.keep (fun k hk => (hC.ok hk).1) (hG_ne (Or.inl (by omega))) (fun a j g1 g2 => hf a j (by omega) (by omega))) (hC.2.2.2.1.keep (fun k hk => (hC.ok hk).1) (hG_ne (Or.inl (by omega))) (fun a j g1 g2 => hf a j (by omega) (by omega))) ⟨fun t ht => ⟨k, hk, ?_⟩, fun k2 x hk2 hx ht hx3 => ?_⟩
  · rw [hG_at] at ht
    exact (Option.some.inj ht).symm
  · rw [hG_at] at ht
    obtain rfl := tA_inj (Option.some.inj ht)
    rw [h13] at hx3
    obtain rfl := (nI_eq (by omega) (by omega)).mp hx3
    exact hP
theorem gdF_congr {a l a' l' : Nat → Int32} (ha : ∀ x, x < 42 → a x = a' x) (hl : ∀ x, x < 42 → l x = l' x) {x : Nat} (hx : x < 42) (y : Nat) : gdF a l x y = gdF a' l' x y := by
  unfold gdF
  rw [ha x hx, hl x hx]
theorem mxF_congr {f g : Nat → Int32} : ∀ n, (∀ x, x ≤ n → f x = g x) → mxF f n = mxF g n
  | 0, h => h 0 (Nat.le_refl _)
  | n + 1, h => by
    show (if mxF f n < f (n + 1) then f (n + 1) else mxF f n) = (if mxF g n < g (n + 1) then g (n + 1) else mxF g n)
    rw [mxF_congr n (fun x hx => h x (by omega)), h (n + 1) (Nat.le_refl _)]
theorem duB_congr {a l b m a' l' b' m' : Nat → Int32} (h1 : ∀ x, x < 42 → a x = a' x) (h2 : ∀ x, x < 42 → l x = l' x) (h3 : ∀ x, x < 42 → b x = b' x) (h4 : ∀ x, x < 42 → m x = m' x) : ∀ r, r < 1764 → duB a l b m r = duB a' l' b' m' r := fun r hr => by
  unfold duB
  rw [gdF_congr h1 h2 (by omega), gdF_congr h3 h4 (by omega), mxF_congr 41 (fun x hx => gdF_congr h1 h2 (by omega) (r % 42)), mxF_congr 41 (fun x hx => gdF_congr h3 h4 (by omega) (r / 42))]

set_option maxHeartbeats 300000 in
set_option maxRecDepth 100000 in
theorem findParted_ct {d : Nat} {I : Im} {G : Gm} {s : Sta} (hC : Ci s I G) {t h : Int32} : Ct (d + 3) 0 0 YX9_findParted [.ref 0, .int t, .int h] (I, G) (qR (fpF s t h) (I, G)) := by
  refine Ct.of (by decide) (by simp [Value.category]) (Nat.le_of_ble_eq_true rfl) ?_
  have h9 := hC.1.1
  have hcn10 := hC.2.1.2.1
  have hFr : FrC I I := FrC.rf
  have hGk : Geq G G := Geq.rf
  show wp _ _ _ _ 0 [some (.ref 0), some (.int t), some (.int h), none] [] _ _
  rcases in_cases (n := sN s) (by have := hcn10; omega) t with ⟨k, hk, rfl, et⟩ | ⟨et, hnot⟩
  · skip
    have h8 := hC.1.2.1 k (by omega)
    obtain ⟨hok, hTr⟩ := hC.ok hk
    have hn8 : dN (dK s k) ≤ 8 := hok.1.1.2
    have hoff := tA_off k
    have hE := src_of hok.1 (tdT (sD s k))
    have hW := wbc_of hok.1 (tdT (sD s k))
    have hc60 : ∀ b, dC (dK s k) b ≤ 60 := fun b => Nat.le_trans (hok.1.2.1 b) (by omega)
    have htc := trc_of hok.1 hTr.1 (tdT (sD s k))
    rcases in_cases (n := dN (dK s k)) (by have := hn8; omega) h with ⟨hn, hhn, rfl, eh⟩ | ⟨eh, hnoh⟩
    · skip
      by_cases hsh : shP (dK s k) hn
      · skip
        by_cases hz : dS (dK s k) hn = none
        · skip
          refine r_aload_n (pc := 0) dX9_findParted_0 rfl ?_
          refine r_iload_n (pc := 1) dX9_findParted_1 rfl ?_
          refine r_callV_R (pc := 2) (b := 0) (As := [.int (nI k)]) 9 98 dX9_findParted_2 lk_X9_find (ml_RX9_98 rfl) im_X9_find se_X9_find (by decide) (c9_o h9) (Nat.le_of_ble_eq_true rfl) rfl (find_ct hC.1.1 hC.2.1.1 hcn10 hk (hC.1.2.2.1 k hk)) ?_
          refine r_astore_n (pc := 5) (L' := [some (.ref 0), some (.int (nI k)), some (.int (nI hn)), some (.ref (tA k))]) dX9_findParted_5 (by decide) rfl rfl ?_
          refine r_aload_n (pc := 6) dX9_findParted_6 rfl ?_
          refine r_ifnullR (pc := 7) dX9_findParted_7 ?_
          refine r_aload_n (pc := 10) dX9_findParted_10 rfl ?_
          refine r_iload_n (pc := 11) dX9_findParted_11 rfl ?_
          refine r_callV_P (pc := 12) (b := tA k) (As := [.int (nI hn)]) 8 126 dX9_findParted_12 lk_X8_isShop (ml_RX9_126 rfl) im_X8_isShop se_X8_isShop (by decide) (c8_o h8) (Nat.le_of_ble_eq_true rfl) rfl (isShop_y h8 htc hhn hsh) ?_
          refine r_if_eq_n (pc := 15) (a := 1) (tgt := 28) dX9_findParted_15 (by decide) (by omega) (fun c15 => ?_) (fun c15 => ?_)
          · exfalso; omega
          · skip
            refine r_aload_n (pc := 18) dX9_findParted_18 rfl ?_
            refine r_get1 (pc := 19) 8 3 117 dX9_findParted_19 (fl_RX9_117 rfl) (by decide) rfl (c8_o h8) (c8_p3 h8) ?_
            refine r_iload_n (pc := 22) dX9_findParted_22 rfl ?_
            refine r_iald_n (pc := 23) (i := hn) dX9_findParted_23 (c8_a3 h8) (by decide) (by omega) (v := sI (dS (dK s k) hn)) ((hTr.1.2.2.1 _ (by omega)).2.1) ?_
            refine r_iconst (pc := 24) (v := -1) dX9_findParted_24 (by decide) ?_
            refine r_icmp_ne (pc := 25) (x := sI (dS (dK s k) hn)) (z := (-1)) (tgt := 32) dX9_findParted_25 (by decide) (fun c25 => ?_) (fun c25 => ?_)
            · exfalso; exact c25 (by rw [hz]; rfl)
            · skip
              refine r_null (pc := 28) dX9_findParted_28 ?_
              refine r_goto (pc := 29) (tgt := 33) dX9_findParted_29 (by decide) ?_
              refine r_ret_aN (pc := 33) dX9_findParted_33 rfl (Or.inl ⟨_, rfl⟩) ?_
              exact ⟨by rw [(fp_i et eh).trans (if_neg (fun z => z.2 hz))]; rfl, rfl⟩
        · skip
          refine r_aload_n (pc := 0) dX9_findParted_0 rfl ?_
          refine r_iload_n (pc := 1) dX9_findParted_1 rfl ?_
          refine r_callV_R (pc := 2) (b := 0) (As := [.int (nI k)]) 9 98 dX9_findParted_2 lk_X9_find (ml_RX9_98 rfl) im_X9_find se_X9_find (by decide) (c9_o h9) (Nat.le_of_ble_eq_true rfl) rfl (find_ct hC.1.1 hC.2.1.1 hcn10 hk (hC.1.2.2.1 k hk)) ?_
          refine r_astore_n (pc := 5) (L' := [some (.ref 0), some (.int (nI k)), some (.int (nI hn)), some (.ref (tA k))]) dX9_findParted_5 (by decide) rfl rfl ?_
          refine r_aload_n (pc := 6) dX9_findParted_6 rfl ?_
          refine r_ifnullR (pc := 7) dX9_findParted_7 ?_
          refine r_aload_n (pc := 10) dX9_findParted_10 rfl ?_
          refine r_iload_n (pc := 11) dX9_findParted_11 rfl ?_
          refine r_callV_P (pc := 12) (b := tA k) (As := [.int (nI hn)]) 8 126 dX9_findParted_12 lk_X8_isShop (ml_RX9_126 rfl) im_X8_isShop se_X8_isShop (by decide) (c8_o h8) (Nat.le_of_ble_eq_true rfl) rfl (isShop_y h8 htc hhn hsh) ?_
          refine r_if_eq_n (pc := 15) (a := 1) (tgt := 28) dX9_findParted_15 (by decide) (by omega) (fun c15 => ?_) (fun c15 => ?_)
          · exfalso; omega
          · skip
            refine r_aload_n (pc := 18) dX9_findParted_18 rfl ?_
            refine r_get1 (pc := 19) 8 3 117 dX9_findParted_19 (fl_RX9_117 rfl) (by decide) rfl (c8_o h8) (c8_p3 h8) ?_
            refine r_iload_n (pc := 22) dX9_findParted_22 rfl ?_
            refine r_iald_n (pc := 23) (i := hn) dX9_findParted_23 (c8_a3 h8) (by decide) (by omega) (v := sI (dS (dK s k) hn)) ((hTr.1.2.2.1 _ (by omega)).2.1) ?_
            refine r_iconst (pc := 24) (v := -1) dX9_findParted_24 (by decide) ?_
            refine r_icmp_ne (pc := 25) (x := sI (dS (dK s k) hn)) (z := (-1)) (tgt := 32) dX9_findParted_25 (by decide) (fun c25 => ?_) (fun c25 => ?_)
            · skip
              refine r_aload_n (pc := 32) dX9_findParted_32 rfl ?_
              refine r_ret_a (pc := 33) dX9_findParted_33 rfl (Or.inl ⟨_, rfl⟩) ?_
              exact ⟨by rw [(fp_i et eh).trans (if_pos ⟨hsh, hz⟩)]; rfl, rfl⟩
            · exfalso; exact hz ((sI_m1 (fun c hc => by have := hok.1.2.2.1 _ c hc; omega)).mp c25)
      · skip
        refine r_aload_n (pc := 0) dX9_findParted_0 rfl ?_
        refine r_iload_n (pc := 1) dX9_findParted_1 rfl ?_
        refine r_callV_R (pc := 2) (b := 0) (As := [.int (nI k)]) 9 98 dX9_findParted_2 lk_X9_find (ml_RX9_98 rfl) im_X9_find se_X9_find (by decide) (c9_o h9) (Nat.le_of_ble_eq_true rfl) rfl (find_ct hC.1.1 hC.2.1.1 hcn10 hk (hC.1.2.2.1 k hk)) ?_
        refine r_astore_n (pc := 5) (L' := [some (.ref 0), some (.int (nI k)), some (.int (nI hn)), some (.ref (tA k))]) dX9_findParted_5 (by decide) rfl rfl ?_
        refine r_aload_n (pc := 6) dX9_findParted_6 rfl ?_
        refine r_ifnullR (pc := 7) dX9_findParted_7 ?_
        refine r_aload_n (pc := 10) dX9_findParted_10 rfl ?_
        refine r_iload_n (pc := 11) dX9_findParted_11 rfl ?_
        refine r_callV_P (pc := 12) (b := tA k) (As := [.int (nI hn)]) 8 126 dX9_findParted_12 lk_X8_isShop (ml_RX9_126 rfl) im_X8_isShop se_X8_isShop (by decide) (c8_o h8) (Nat.le_of_ble_eq_true rfl) rfl (isShop_n h8 htc hhn hsh) ?_
        refine r_if_eq_n (pc := 15) (a := 0) (tgt := 28) dX9_findParted_15 (by decide) (by omega) (fun c15 => ?_) (fun c15 => ?_)
        · skip
          refine r_null (pc := 28) dX9_findParted_28 ?_
          refine r_goto (pc := 29) (tgt := 33) dX9_findParted_29 (by decide) ?_
          refine r_ret_aN (pc := 33) dX9_findParted_33 rfl (Or.inl ⟨_, rfl⟩) ?_
          exact ⟨by rw [(fp_i et eh).trans (if_neg (fun z => hsh z.1))]; rfl, rfl⟩
        · exfalso; omega
    · skip
      refine r_aload_n (pc := 0) dX9_findParted_0 rfl ?_
      refine r_iload_n (pc := 1) dX9_findParted_1 rfl ?_
      refine r_callV_R (pc := 2) (b := 0) (As := [.int (nI k)]) 9 98 dX9_findParted_2 lk_X9_find (ml_RX9_98 rfl) im_X9_find se_X9_find (by decide) (c9_o h9) (Nat.le_of_ble_eq_true rfl) rfl (find_ct hC.1.1 hC.2.1.1 hcn10 hk (hC.1.2.2.1 k hk)) ?_
      refine r_astore_n (pc := 5) (L' := [some (.ref 0), some (.int (nI k)), some (.int h), some (.ref (tA k))]) dX9_findParted_5 (by decide) rfl rfl ?_
      refine r_aload_n (pc := 6) dX9_findParted_6 rfl ?_
      refine r_ifnullR (pc := 7) dX9_findParted_7 ?_
      refine r_aload_n (pc := 10) dX9_findParted_10 rfl ?_
      refine r_iload_n (pc := 11) dX9_findParted_11 rfl ?_
      refine r_callV_P (pc := 12) (b := tA k) (As := [.int h]) 8 126 dX9_findParted_12 lk_X8_isShop (ml_RX9_126 rfl) im_X8_isShop se_X8_isShop (by decide) (c8_o h8) (Nat.le_of_ble_eq_true rfl) rfl (isShop_no h8 (by rw [hTr.1.1]; exact hnoh)) ?_
      refine r_if_eq_n (pc := 15) (a := 0) (tgt := 28) dX9_findParted_15 (by decide) (by omega) (fun c15 => ?_) (fun c15 => ?_)
      · skip
        refine r_null (pc := 28) dX9_findParted_28 ?_
        refine r_goto (pc := 29) (tgt := 33) dX9_findParted_29 (by decide) ?_
        refine r_ret_aN (pc := 33) dX9_findParted_33 rfl (Or.inl ⟨_, rfl⟩) ?_
        exact ⟨by rw [fp_h et eh]; rfl, rfl⟩
      · exfalso; omega
  · skip
    refine r_aload_n (pc := 0) dX9_findParted_0 rfl ?_
    refine r_iload_n (pc := 1) dX9_findParted_1 rfl ?_
    refine r_callV_R (pc := 2) (b := 0) (As := [.int t]) 9 98 dX9_findParted_2 lk_X9_find (ml_RX9_98 rfl) im_X9_find se_X9_find (by decide) (c9_o h9) (Nat.le_of_ble_eq_true rfl) rfl (find_no hC.1.1 (by rw [hC.2.1.1]; exact hnot)) ?_
    refine r_astore_nN (pc := 5) (L' := [some (.ref 0), some (.int t), some (.int h), some (.null)]) dX9_findParted_5 (by decide) rfl rfl ?_
    refine r_aload_nN (pc := 6) dX9_findParted_6 rfl ?_
    refine r_ifnullN (pc := 7) (tgt := 28) dX9_findParted_7 (by decide) ?_
    refine r_null (pc := 28) dX9_findParted_28 ?_
    refine r_goto (pc := 29) (tgt := 33) dX9_findParted_29 (by decide) ?_
    refine r_ret_aN (pc := 33) dX9_findParted_33 rfl (Or.inl ⟨_, rfl⟩) ?_
    exact ⟨by rw [fp_t et]; rfl, rfl⟩

theorem findParted_e {d : Nat} {I : Im} {G : Gm} {s : Sta} (hC : Ci s I G) {t h : Int32} {x : Option Nat} (e : fpF s t h = x) : Ct (d + 3) 0 0 YX9_findParted [.ref 0, .int t, .int h] (I, G) (qR x (I, G)) := by
  rw [← e]
  exact findParted_ct hC

set_option maxHeartbeats 300000 in
set_option maxRecDepth 100000 in
theorem parts_c {d : Nat} {I : Im} {G : Gm} {s : Sta} (hC : Ci s I G) {t h i : Int32} : Ct (d + 7) 0 0 YX9_parts [.ref 0, .int t, .int h, .int i] (I, G) (qX (PcQ s I G (aParts s t h i))) := by
  refine Ct.of (by decide) (by simp [Value.category]) (Nat.le_of_ble_eq_true rfl) ?_
  have h9 := hC.1.1
  have hcn10 := hC.2.1.2.1
  have hFr : FrC I I := FrC.rf
  have hGk : Geq G G := Geq.rf
  show wp _ _ _ _ 0 [some (.ref 0), some (.int t), some (.int h), some (.int i), none] [] _ _
  rcases in_cases (n := sN s) (by have := hcn10; omega) t with ⟨k, hk, rfl, et⟩ | ⟨et, hnot⟩
  · skip
    have h8 := hC.1.2.1 k (by omega)
    obtain ⟨hok, hTr⟩ := hC.ok hk
    have hn8 : dN (dK s k) ≤ 8 := hok.1.1.2
    have hoff := tA_off k
    have hE := src_of hok.1 (tdT (sD s k))
    have hW := wbc_of hok.1 (tdT (sD s k))
    have hc60 : ∀ b, dC (dK s k) b ≤ 60 := fun b => Nat.le_trans (hok.1.2.1 b) (by omega)
    have htc := trc_of hok.1 hTr.1 (tdT (sD s k))
    rcases in_cases (n := dN (dK s k)) (by have := hn8; omega) h with ⟨hn, hhn, rfl, eh⟩ | ⟨eh, hnoh⟩
    · skip
      by_cases hsh : shP (dK s k) hn
      · skip
        by_cases hz : dS (dK s k) hn = none
        · skip
          refine r_aload_n (pc := 0) dX9_parts_0 rfl ?_
          refine r_iload_n (pc := 1) dX9_parts_1 rfl ?_
          refine r_iload_n (pc := 2) dX9_parts_2 rfl ?_
          refine r_callV_R (pc := 3) (b := 0) (As := [.int (nI k), .int (nI hn)]) 9 236 dX9_parts_3 lk_X9_findParted (ml_RX9_236 rfl) im_X9_findParted se_X9_findParted (by decide) (c9_o h9) (Nat.le_of_ble_eq_true rfl) rfl (findParted_e hC ((fp_i et eh).trans (if_neg (fun z => z.2 hz)))) ?_
          refine r_astoreN (pc := 6) (L' := [some (.ref 0), some (.int (nI k)), some (.int (nI hn)), some (.int i), some (.null)]) dX9_parts_6 (by decide) rfl rfl ?_
          refine r_aloadN (pc := 8) dX9_parts_8 rfl ?_
          refine r_ifnonnullN (pc := 10) dX9_parts_10 ?_
          refine r_iconst (pc := 13) (v := -1) dX9_parts_13 (by decide) ?_
          refine r_ret_i (pc := 14) dX9_parts_14 rfl ?_
          exact ⟨_, rfl, I, G, rfl, (by unfold aParts; rw [atN_s et, atN_s eh, if_pos hsh, if_pos hz] <;> rfl), hC, hFr.m, hGk.gk⟩
        · skip
          refine r_aload_n (pc := 0) dX9_parts_0 rfl ?_
          refine r_iload_n (pc := 1) dX9_parts_1 rfl ?_
          refine r_iload_n (pc := 2) dX9_parts_2 rfl ?_
          refine r_callV_R (pc := 3) (b := 0) (As := [.int (nI k), .int (nI hn)]) 9 236 dX9_parts_3 lk_X9_findParted (ml_RX9_236 rfl) im_X9_findParted se_X9_findParted (by decide) (c9_o h9) (Nat.le_of_ble_eq_true rfl) rfl (findParted_e hC ((fp_i et eh).trans (if_pos ⟨hsh, hz⟩))) ?_
          refine r_astore (pc := 6) (L' := [some (.ref 0), some (.int (nI k)), some (.int (nI hn)), some (.int i), some (.ref (tA k))]) dX9_parts_6 (by decide) rfl rfl ?_
          refine r_aload (pc := 8) dX9_parts_8 rfl ?_
          refine r_ifnonnullR (pc := 10) (tgt := 15) dX9_parts_10 (by decide) ?_
          refine r_aload_n (pc := 15) dX9_parts_15 rfl ?_
          refine r_aload (pc := 16) dX9_parts_16 rfl ?_
          refine r_bipush (pc := 18) (v := 41) dX9_parts_18 (by decide) ?_
          refine r_callV_U (pc := 20) (b := 0) (As := [.ref (tA k), .int (nI 41)]) 9 193 dX9_parts_20 lk_X9_settleTogether (ml_RX9_193 rfl) im_X9_settleTogether se_X9_settleTogether (by decide) (c9_o h9) (Nat.le_of_ble_eq_true rfl) rfl (settleTogether_ct (cap := 41) hC hk (by omega)) (fun M1 h1 => ?_)
          obtain ⟨I1, G1, rfl, hC, hg1, hV1, hf1⟩ := h1
          have hO1 : OcE I1 67 (eT (dK s k) (allJ (dK s k), 41, false, false)) := oce_of (src_of hok.1 _) (wbc_of hok.1 _) hc60 hV1
          have hFr : FrC I I1 := hFr.tr (fun a j z => hf1 a j (by omega) (by omega))
          have hGk : Geq G G1 := hGk.tr hg1
          have hTr := (hC.ok hk).2
          have h9 := hC.1.1
          have h8 := hC.1.2.1 k (by omega)
          have htc := trc_of hok.1 hTr.1 (tdT (sD s k))
          refine r_aload_n (pc := 23) dX9_parts_23 rfl ?_
          refine r_get1 (pc := 24) 9 8 58 dX9_parts_24 (fl_RX9_58 rfl) (by decide) rfl (c9_o h9) (c9_p8 h9) ?_
          refine r_aload (pc := 27) dX9_parts_27 rfl ?_
          refine r_iload_n (pc := 29) dX9_parts_29 rfl ?_
          refine r_aload_n (pc := 30) dX9_parts_30 rfl ?_
          refine r_get1 (pc := 31) 9 6 45 dX9_parts_31 (fl_RX9_45 rfl) (by decide) rfl (c9_o h9) (c9_p6 h9) ?_
          refine r_get1 (pc := 34) 5 9 178 dX9_parts_34 (fl_RX9_178 rfl) (by decide) rfl (c5_o (c9_s6 h9)) (c5_p9 (c9_s6 h9)) ?_
          refine r_iload_n (pc := 37) dX9_parts_37 rfl ?_
          refine r_iald_n (pc := 38) (i := hn) dX9_parts_38 (c5_a9 (c9_s6 h9)) (by decide) (by omega) (v := nI (aoF (dK s k) hn)) ((ao_m hok.1 hO1 hhn hsh).1) ?_
          refine r_callV_U (pc := 39) (b := 113) (As := [.ref (tA k), .int (nI hn), .int (nI (aoF (dK s k) hn))]) 3 240 dX9_parts_39 lk_X3_findPairs (ml_RX9_240 rfl) im_X3_findPairs se_X3_findPairs (by decide) (c3_o (c9_s8 h9)) (Nat.le_of_ble_eq_true rfl) rfl (findPairs_s hC hk hhn) (fun M2 h2 => ?_)
          obtain ⟨I2, G2, rfl, hC, hg2, hP2, hf2⟩ := h2
          have hFr : FrC I I2 := hFr.tr (fun a j z => hf2 a j (by omega) (by omega))
          have hGk : Geq G G2 := hGk.tr hg2
          have hcl := ctB_le (paR (dK s k) hn) 4100
          have hTr := (hC.ok hk).2
          have h9 := hC.1.1
          have h8 := hC.1.2.1 k (by omega)
          have htc := trc_of hok.1 hTr.1 (tdT (sD s k))
          refine r_iload_n (pc := 42) dX9_parts_42 rfl ?_
          refine r_iconst (pc := 43) (v := -1) dX9_parts_43 (by decide) ?_
          refine r_icmp_ne (pc := 44) (x := i) (z := (-1)) (tgt := 55) dX9_parts_44 (by decide) (fun c44 => ?_) (fun c44 => ?_)
          · skip
            refine r_iload_n (pc := 55) dX9_parts_55 rfl ?_
            refine r_if_lt (pc := 56) (x := i) (tgt := 70) dX9_parts_56 (by decide) (fun c56 => ?_) (fun c56 => ?_)
            · skip
              refine r_iconst (pc := 70) (v := -1) dX9_parts_70 (by decide) ?_
              refine r_goto (pc := 71) (tgt := 83) dX9_parts_71 (by decide) ?_
              refine r_ret_i (pc := 83) dX9_parts_83 rfl ?_
              exact ⟨_, rfl, I2, G2, rfl, (by unfold aParts; rw [atN_s et, atN_s eh, if_pos hsh, if_neg hz, ← scA_miss (ls_no (by omega) (fun z => by first | exact absurd c56 (Int32.not_lt.mpr z.1) | exact c67 z.2)), if_neg c44]), hC, hFr.m, hGk.gk⟩
            · skip
              refine r_iload_n (pc := 59) dX9_parts_59 rfl ?_
              refine r_aload_n (pc := 60) dX9_parts_60 rfl ?_
              refine r_get1 (pc := 61) 9 8 58 dX9_parts_61 (fl_RX9_58 rfl) (by decide) rfl (c9_o h9) (c9_p8 h9) ?_
              refine r_getIv (pc := 64) 3 1 244 dX9_parts_64 (fl_RX9_244 rfl) (by decide) rfl (c3_o (c9_s8 h9)) (v := nI (ctB (paR (dK s k) hn) 4100)) (hP2.1) ?_
              refine r_icmp_lt (pc := 67) (x := i) (z := nI (ctB (paR (dK s k) hn) 4100)) (tgt := 74) dX9_parts_67 (by decide) (fun c67 => ?_) (fun c67 => ?_)
              · skip
                obtain ⟨j, hj, rfl⟩ : ∃ j, j < ctB (paR (dK s k) hn) 4100 ∧ i = nI j := by
                    have hz0 := in_cases (n := ctB (paR (dK s k) hn) 4100) (by omega) i
                    exact hz0.elim (fun ⟨j, h1, h2, _⟩ => ⟨j, h1, h2⟩) (fun z => absurd ⟨Int32.not_lt.mp c56, c67⟩ z.2)
                obtain ⟨r, hr, hsc, hLr⟩ := ls_at (L := I2 (113 + 1)) (cd := fun r => r) (by omega) hP2.2 hj
                · skip
                  refine r_aload_n (pc := 74) dX9_parts_74 rfl ?_
                  refine r_get1 (pc := 75) 9 8 58 dX9_parts_75 (fl_RX9_58 rfl) (by decide) rfl (c9_o h9) (c9_p8 h9) ?_
                  refine r_get1 (pc := 78) 3 0 247 dX9_parts_78 (fl_RX9_247 rfl) (by decide) rfl (c3_o (c9_s8 h9)) (c3_p0 (c9_s8 h9)) ?_
                  refine r_iload_n (pc := 81) dX9_parts_81 rfl ?_
                  refine r_iald_n (pc := 82) (i := j) dX9_parts_82 (c3_a0 (c9_s8 h9)) (by decide) (by omega) (v := nI r) (hLr) ?_
                  refine r_ret_i (pc := 83) dX9_parts_83 rfl ?_
                  exact ⟨_, rfl, I2, G2, rfl, (by unfold aParts; rw [atN_s et, atN_s eh, if_pos hsh, if_neg hz]; unfold scA; rw [hsc]), hC, hFr.m, hGk.gk⟩
              · skip
                refine r_iconst (pc := 70) (v := -1) dX9_parts_70 (by decide) ?_
                refine r_goto (pc := 71) (tgt := 83) dX9_parts_71 (by decide) ?_
                refine r_ret_i (pc := 83) dX9_parts_83 rfl ?_
                exact ⟨_, rfl, I2, G2, rfl, (by unfold aParts; rw [atN_s et, atN_s eh, if_pos hsh, if_neg hz, ← scA_miss (ls_no (by omega) (fun z => by first | exact absurd c56 (Int32.not_lt.mpr z.1) | exact c67 z.2)), if_neg c44]), hC, hFr.m, hGk.gk⟩
          · skip
            refine r_aload_n (pc := 47) dX9_parts_47 rfl ?_
            refine r_get1 (pc := 48) 9 8 58 dX9_parts_48 (fl_RX9_58 rfl) (by decide) rfl (c9_o h9) (c9_p8 h9) ?_
            refine r_getIv (pc := 51) 3 1 244 dX9_parts_51 (fl_RX9_244 rfl) (by decide) rfl (c3_o (c9_s8 h9)) (v := nI (ctB (paR (dK s k) hn) 4100)) (hP2.1) ?_
            refine r_ret_i (pc := 54) dX9_parts_54 rfl ?_
            exact ⟨_, rfl, I2, G2, rfl, (by unfold aParts; rw [atN_s et, atN_s eh, if_pos hsh, if_neg hz, ← scA_miss (ls_no (by omega) (fun z => absurd z.1 (by rw [c44]; decide))), if_pos c44]), hC, hFr.m, hGk.gk⟩
      · skip
        refine r_aload_n (pc := 0) dX9_parts_0 rfl ?_
        refine r_iload_n (pc := 1) dX9_parts_1 rfl ?_
        refine r_iload_n (pc := 2) dX9_parts_2 rfl ?_
        refine r_callV_R (pc := 3) (b := 0) (As := [.int (nI k), .int (nI hn)]) 9 236 dX9_parts_3 lk_X9_findParted (ml_RX9_236 rfl) im_X9_findParted se_X9_findParted (by decide) (c9_o h9) (Nat.le_of_ble_eq_true rfl) rfl (findParted_e hC ((fp_i et eh).trans (if_neg (fun z => hsh z.1)))) ?_
        refine r_astoreN (pc := 6) (L' := [some (.ref 0), some (.int (nI k)), some (.int (nI hn)), some (.int i), some (.null)]) dX9_parts_6 (by decide) rfl rfl ?_
        refine r_aloadN (pc := 8) dX9_parts_8 rfl ?_
        refine r_ifnonnullN (pc := 10) dX9_parts_10 ?_
        refine r_iconst (pc := 13) (v := -1) dX9_parts_13 (by decide) ?_
        refine r_ret_i (pc := 14) dX9_parts_14 rfl ?_
        exact ⟨_, rfl, I, G, rfl, (by unfold aParts; rw [atN_s et, atN_s eh, if_neg hsh] <;> rfl), hC, hFr.m, hGk.gk⟩
    · skip
      refine r_aload_n (pc := 0) dX9_parts_0 rfl ?_
      refine r_iload_n (pc := 1) dX9_parts_1 rfl ?_
      refine r_iload_n (pc := 2) dX9_parts_2 rfl ?_
      refine r_callV_R (pc := 3) (b := 0) (As := [.int (nI k), .int h]) 9 236 dX9_parts_3 lk_X9_findParted (ml_RX9_236 rfl) im_X9_findParted se_X9_findParted (by decide) (c9_o h9) (Nat.le_of_ble_eq_true rfl) rfl (findParted_e hC (fp_h et eh)) ?_
      refine r_astoreN (pc := 6) (L' := [some (.ref 0), some (.int (nI k)), some (.int h), some (.int i), some (.null)]) dX9_parts_6 (by decide) rfl rfl ?_
      refine r_aloadN (pc := 8) dX9_parts_8 rfl ?_
      refine r_ifnonnullN (pc := 10) dX9_parts_10 ?_
      refine r_iconst (pc := 13) (v := -1) dX9_parts_13 (by decide) ?_
      refine r_ret_i (pc := 14) dX9_parts_14 rfl ?_
      exact ⟨_, rfl, I, G, rfl, (by unfold aParts; rw [atN_s et, atN_n eh] <;> rfl), hC, hFr.m, hGk.gk⟩
  · skip
    refine r_aload_n (pc := 0) dX9_parts_0 rfl ?_
    refine r_iload_n (pc := 1) dX9_parts_1 rfl ?_
    refine r_iload_n (pc := 2) dX9_parts_2 rfl ?_
    refine r_callV_R (pc := 3) (b := 0) (As := [.int t, .int h]) 9 236 dX9_parts_3 lk_X9_findParted (ml_RX9_236 rfl) im_X9_findParted se_X9_findParted (by decide) (c9_o h9) (Nat.le_of_ble_eq_true rfl) rfl (findParted_e hC (fp_t et)) ?_
    refine r_astoreN (pc := 6) (L' := [some (.ref 0), some (.int t), some (.int h), some (.int i), some (.null)]) dX9_parts_6 (by decide) rfl rfl ?_
    refine r_aloadN (pc := 8) dX9_parts_8 rfl ?_
    refine r_ifnonnullN (pc := 10) dX9_parts_10 ?_
    refine r_iconst (pc := 13) (v := -1) dX9_parts_13 (by decide) ?_
    refine r_ret_i (pc := 14) dX9_parts_14 rfl ?_
    exact ⟨_, rfl, I, G, rfl, (by unfold aParts; rw [atN_n et] <;> rfl), hC, hFr.m, hGk.gk⟩

theorem share_s {d : Nat} {I I1 : Im} {G : Gm} {t h r : Nat} {D : Dr} (hl3 : isC3 G 113) (hT : isC8 G t) (hM : isC5 G 67) (h8 : h < 8) (hD : DrOK D) (hc : I (t + 1) h = nI (dC D h)) (hf : ∀ a j, 67 ≤ a → a < 111 → I a j = I1 a j) (hO : OcE I1 67 (eT D (allJ D, 41, false, false))) (hh : h < dN D) (hs : shP D h) : Ct (d + 1) 0 0 YX3_shareOf [.ref 113, .ref t, .int (nI h), .int (nI r), .ref 67] (I, G) (qP (taF D h r) (I, G)) := by
  have g := shareOf_ct (d := d) (I := I) (pr := r) hl3 hT hM h8
  obtain ⟨a1, a2, a3⟩ := ao_m hD hO hh hs
  rw [hf (67 + 41) h (by omega) (by omega), hf (67 + 42) h (by omega) (by omega), hf (67 + 40) h (by omega) (by omega), a1, a2, a3, hc] at g
  exact g

set_option maxHeartbeats 300000 in
set_option maxRecDepth 100000 in
theorem takings_c {d : Nat} {I : Im} {G : Gm} {s : Sta} (hC : Ci s I G) {t h i : Int32} : Ct (d + 7) 0 0 YX9_takings [.ref 0, .int t, .int h, .int i] (I, G) (qX (PcQ s I G (aTakings s t h i))) := by
  refine Ct.of (by decide) (by simp [Value.category]) (Nat.le_of_ble_eq_true rfl) ?_
  have h9 := hC.1.1
  have hcn10 := hC.2.1.2.1
  have hFr : FrC I I := FrC.rf
  have hGk : Geq G G := Geq.rf
  show wp _ _ _ _ 0 [some (.ref 0), some (.int t), some (.int h), some (.int i), none] [] _ _
  rcases in_cases (n := sN s) (by have := hcn10; omega) t with ⟨k, hk, rfl, et⟩ | ⟨et, hnot⟩
  · skip
    have h8 := hC.1.2.1 k (by omega)
    obtain ⟨hok, hTr⟩ := hC.ok hk
    have hn8 : dN (dK s k) ≤ 8 := hok.1.1.2
    have hoff := tA_off k
    have hE := src_of hok.1 (tdT (sD s k))
    have hW := wbc_of hok.1 (tdT (sD s k))
    have hc60 : ∀ b, dC (dK s k) b ≤ 60 := fun b => Nat.le_trans (hok.1.2.1 b) (by omega)
    have htc := trc_of hok.1 hTr.1 (tdT (sD s k))
    rcases in_cases (n := dN (dK s k)) (by have := hn8; omega) h with ⟨hn, hhn, rfl, eh⟩ | ⟨eh, hnoh⟩
    · skip
      by_cases hsh : shP (dK s k) hn
      · skip
        by_cases hz : dS (dK s k) hn = none
        · skip
          refine r_aload_n (pc := 0) dX9_takings_0 rfl ?_
          refine r_iload_n (pc := 1) dX9_takings_1 rfl ?_
          refine r_iload_n (pc := 2) dX9_takings_2 rfl ?_
          refine r_callV_R (pc := 3) (b := 0) (As := [.int (nI k), .int (nI hn)]) 9 236 dX9_takings_3 lk_X9_findParted (ml_RX9_236 rfl) im_X9_findParted se_X9_findParted (by decide) (c9_o h9) (Nat.le_of_ble_eq_true rfl) rfl (findParted_e hC ((fp_i et eh).trans (if_neg (fun z => z.2 hz)))) ?_
          refine r_astoreN (pc := 6) (L' := [some (.ref 0), some (.int (nI k)), some (.int (nI hn)), some (.int i), some (.null)]) dX9_takings_6 (by decide) rfl rfl ?_
          refine r_aloadN (pc := 8) dX9_takings_8 rfl ?_
          refine r_ifnonnullN (pc := 10) dX9_takings_10 ?_
          refine r_ldc (pc := 13) (v := -100000000) dX9_takings_13 (kc_RX9_174 rfl) ?_
          refine r_ret_i (pc := 15) dX9_takings_15 rfl ?_
          exact ⟨_, rfl, I, G, rfl, (by unfold aTakings; rw [atN_s et, atN_s eh, if_pos hsh, if_pos hz] <;> rfl), hC, hFr.m, hGk.gk⟩
        · skip
          refine r_aload_n (pc := 0) dX9_takings_0 rfl ?_
          refine r_iload_n (pc := 1) dX9_takings_1 rfl ?_
          refine r_iload_n (pc := 2) dX9_takings_2 rfl ?_
          refine r_callV_R (pc := 3) (b := 0) (As := [.int (nI k), .int (nI hn)]) 9 236 dX9_takings_3 lk_X9_findParted (ml_RX9_236 rfl) im_X9_findParted se_X9_findParted (by decide) (c9_o h9) (Nat.le_of_ble_eq_true rfl) rfl (findParted_e hC ((fp_i et eh).trans (if_pos ⟨hsh, hz⟩))) ?_
          refine r_astore (pc := 6) (L' := [some (.ref 0), some (.int (nI k)), some (.int (nI hn)), some (.int i), some (.ref (tA k))]) dX9_takings_6 (by decide) rfl rfl ?_
          refine r_aload (pc := 8) dX9_takings_8 rfl ?_
          refine r_ifnonnullR (pc := 10) (tgt := 16) dX9_takings_10 (by decide) ?_
          refine r_aload_n (pc := 16) dX9_takings_16 rfl ?_
          refine r_aload (pc := 17) dX9_takings_17 rfl ?_
          refine r_bipush (pc := 19) (v := 41) dX9_takings_19 (by decide) ?_
          refine r_callV_U (pc := 21) (b := 0) (As := [.ref (tA k), .int (nI 41)]) 9 193 dX9_takings_21 lk_X9_settleTogether (ml_RX9_193 rfl) im_X9_settleTogether se_X9_settleTogether (by decide) (c9_o h9) (Nat.le_of_ble_eq_true rfl) rfl (settleTogether_ct (cap := 41) hC hk (by omega)) (fun M1 h1 => ?_)
          obtain ⟨I1, G1, rfl, hC, hg1, hV1, hf1⟩ := h1
          have hO1 : OcE I1 67 (eT (dK s k) (allJ (dK s k), 41, false, false)) := oce_of (src_of hok.1 _) (wbc_of hok.1 _) hc60 hV1
          have hFr : FrC I I1 := hFr.tr (fun a j z => hf1 a j (by omega) (by omega))
          have hGk : Geq G G1 := hGk.tr hg1
          have hTr := (hC.ok hk).2
          have h9 := hC.1.1
          have h8 := hC.1.2.1 k (by omega)
          have htc := trc_of hok.1 hTr.1 (tdT (sD s k))
          refine r_aload_n (pc := 24) dX9_takings_24 rfl ?_
          refine r_get1 (pc := 25) 9 8 58 dX9_takings_25 (fl_RX9_58 rfl) (by decide) rfl (c9_o h9) (c9_p8 h9) ?_
          refine r_aload (pc := 28) dX9_takings_28 rfl ?_
          refine r_iload_n (pc := 30) dX9_takings_30 rfl ?_
          refine r_aload_n (pc := 31) dX9_takings_31 rfl ?_
          refine r_get1 (pc := 32) 9 6 45 dX9_takings_32 (fl_RX9_45 rfl) (by decide) rfl (c9_o h9) (c9_p6 h9) ?_
          refine r_get1 (pc := 35) 5 9 178 dX9_takings_35 (fl_RX9_178 rfl) (by decide) rfl (c5_o (c9_s6 h9)) (c5_p9 (c9_s6 h9)) ?_
          refine r_iload_n (pc := 38) dX9_takings_38 rfl ?_
          refine r_iald_n (pc := 39) (i := hn) dX9_takings_39 (c5_a9 (c9_s6 h9)) (by decide) (by omega) (v := nI (aoF (dK s k) hn)) ((ao_m hok.1 hO1 hhn hsh).1) ?_
          refine r_callV_U (pc := 40) (b := 113) (As := [.ref (tA k), .int (nI hn), .int (nI (aoF (dK s k) hn))]) 3 240 dX9_takings_40 lk_X3_findPairs (ml_RX9_240 rfl) im_X3_findPairs se_X3_findPairs (by decide) (c3_o (c9_s8 h9)) (Nat.le_of_ble_eq_true rfl) rfl (findPairs_s hC hk hhn) (fun M2 h2 => ?_)
          obtain ⟨I2, G2, rfl, hC, hg2, hP2, hf2⟩ := h2
          have hFr : FrC I I2 := hFr.tr (fun a j z => hf2 a j (by omega) (by omega))
          have hGk : Geq G G2 := hGk.tr hg2
          have hcl := ctB_le (paR (dK s k) hn) 4100
          have hTr := (hC.ok hk).2
          have h9 := hC.1.1
          have h8 := hC.1.2.1 k (by omega)
          have htc := trc_of hok.1 hTr.1 (tdT (sD s k))
          refine r_iload_n (pc := 43) dX9_takings_43 rfl ?_
          refine r_if_lt (pc := 44) (x := i) (tgt := 58) dX9_takings_44 (by decide) (fun c44 => ?_) (fun c44 => ?_)
          · skip
            refine r_ldc (pc := 58) (v := -100000000) dX9_takings_58 (kc_RX9_174 rfl) ?_
            refine r_ret_i (pc := 60) dX9_takings_60 rfl ?_
            exact ⟨_, rfl, I2, G2, rfl, (by unfold aTakings; rw [atN_s et, atN_s eh, if_pos hsh, if_neg hz]; unfold tkS; rw [ls_no (by omega) (fun z => by first | exact absurd c44 (Int32.not_lt.mpr z.1) | exact c55 z.2)]), hC, hFr.m, hGk.gk⟩
          · skip
            refine r_iload_n (pc := 47) dX9_takings_47 rfl ?_
            refine r_aload_n (pc := 48) dX9_takings_48 rfl ?_
            refine r_get1 (pc := 49) 9 8 58 dX9_takings_49 (fl_RX9_58 rfl) (by decide) rfl (c9_o h9) (c9_p8 h9) ?_
            refine r_getIv (pc := 52) 3 1 244 dX9_takings_52 (fl_RX9_244 rfl) (by decide) rfl (c3_o (c9_s8 h9)) (v := nI (ctB (paR (dK s k) hn) 4100)) (hP2.1) ?_
            refine r_icmp_lt (pc := 55) (x := i) (z := nI (ctB (paR (dK s k) hn) 4100)) (tgt := 61) dX9_takings_55 (by decide) (fun c55 => ?_) (fun c55 => ?_)
            · skip
              obtain ⟨j, hj, rfl⟩ : ∃ j, j < ctB (paR (dK s k) hn) 4100 ∧ i = nI j := by
                  have hz0 := in_cases (n := ctB (paR (dK s k) hn) 4100) (by omega) i
                  exact hz0.elim (fun ⟨j, h1, h2, _⟩ => ⟨j, h1, h2⟩) (fun z => absurd ⟨Int32.not_lt.mp c44, c55⟩ z.2)
              obtain ⟨r, hr, hsc, hLr⟩ := ls_at (L := I2 (113 + 1)) (cd := fun r => r) (by omega) hP2.2 hj
              · skip
                refine r_aload_n (pc := 61) dX9_takings_61 rfl ?_
                refine r_get1 (pc := 62) 9 8 58 dX9_takings_62 (fl_RX9_58 rfl) (by decide) rfl (c9_o h9) (c9_p8 h9) ?_
                refine r_aload (pc := 65) dX9_takings_65 rfl ?_
                refine r_iload_n (pc := 67) dX9_takings_67 rfl ?_
                refine r_aload_n (pc := 68) dX9_takings_68 rfl ?_
                refine r_get1 (pc := 69) 9 8 58 dX9_takings_69 (fl_RX9_58 rfl) (by decide) rfl (c9_o h9) (c9_p8 h9) ?_
                refine r_get1 (pc := 72) 3 0 247 dX9_takings_72 (fl_RX9_247 rfl) (by decide) rfl (c3_o (c9_s8 h9)) (c3_p0 (c9_s8 h9)) ?_
                refine r_iload_n (pc := 75) dX9_takings_75 rfl ?_
                refine r_iald_n (pc := 76) (i := j) dX9_takings_76 (c3_a0 (c9_s8 h9)) (by decide) (by omega) (v := nI r) (hLr) ?_
                refine r_aload_n (pc := 77) dX9_takings_77 rfl ?_
                refine r_get1 (pc := 78) 9 6 45 dX9_takings_78 (fl_RX9_45 rfl) (by decide) rfl (c9_o h9) (c9_p6 h9) ?_
                refine r_callV_P (pc := 81) (b := 113) (As := [.ref (tA k), .int (nI hn), .int (nI r), .ref 67]) 3 250 dX9_takings_81 lk_X3_shareOf (ml_RX9_250 rfl) im_X3_shareOf se_X3_shareOf (by decide) (c3_o (c9_s8 h9)) (Nat.le_of_ble_eq_true rfl) rfl (share_s (c9_s8 h9) h8 (c9_s6 h9) (by omega) hok.1 (hTr.1.2.2.1 hn (by omega)).1 (fun a j g1 g2 => hf2 a j (by omega) (by omega)) hO1 hhn hsh) ?_
                refine r_ret_i (pc := 84) dX9_takings_84 rfl ?_
                exact ⟨_, rfl, I2, G2, rfl, (by unfold aTakings; rw [atN_s et, atN_s eh, if_pos hsh, if_neg hz]; unfold tkS; rw [hsc]), hC, hFr.m, hGk.gk⟩
            · skip
              refine r_ldc (pc := 58) (v := -100000000) dX9_takings_58 (kc_RX9_174 rfl) ?_
              refine r_ret_i (pc := 60) dX9_takings_60 rfl ?_
              exact ⟨_, rfl, I2, G2, rfl, (by unfold aTakings; rw [atN_s et, atN_s eh, if_pos hsh, if_neg hz]; unfold tkS; rw [ls_no (by omega) (fun z => by first | exact absurd c44 (Int32.not_lt.mpr z.1) | exact c55 z.2)]), hC, hFr.m, hGk.gk⟩
      · skip
        refine r_aload_n (pc := 0) dX9_takings_0 rfl ?_
        refine r_iload_n (pc := 1) dX9_takings_1 rfl ?_
        refine r_iload_n (pc := 2) dX9_takings_2 rfl ?_
        refine r_callV_R (pc := 3) (b := 0) (As := [.int (nI k), .int (nI hn)]) 9 236 dX9_takings_3 lk_X9_findParted (ml_RX9_236 rfl) im_X9_findParted se_X9_findParted (by decide) (c9_o h9) (Nat.le_of_ble_eq_true rfl) rfl (findParted_e hC ((fp_i et eh).trans (if_neg (fun z => hsh z.1)))) ?_
        refine r_astoreN (pc := 6) (L' := [some (.ref 0), some (.int (nI k)), some (.int (nI hn)), some (.int i), some (.null)]) dX9_takings_6 (by decide) rfl rfl ?_
        refine r_aloadN (pc := 8) dX9_takings_8 rfl ?_
        refine r_ifnonnullN (pc := 10) dX9_takings_10 ?_
        refine r_ldc (pc := 13) (v := -100000000) dX9_takings_13 (kc_RX9_174 rfl) ?_
        refine r_ret_i (pc := 15) dX9_takings_15 rfl ?_
        exact ⟨_, rfl, I, G, rfl, (by unfold aTakings; rw [atN_s et, atN_s eh, if_neg hsh] <;> rfl), hC, hFr.m, hGk.gk⟩
    · skip
      refine r_aload_n (pc := 0) dX9_takings_0 rfl ?_
      refine r_iload_n (pc := 1) dX9_takings_1 rfl ?_
      refine r_iload_n (pc := 2) dX9_takings_2 rfl ?_
      refine r_callV_R (pc := 3) (b := 0) (As := [.int (nI k), .int h]) 9 236 dX9_takings_3 lk_X9_findParted (ml_RX9_236 rfl) im_X9_findParted se_X9_findParted (by decide) (c9_o h9) (Nat.le_of_ble_eq_true rfl) rfl (findParted_e hC (fp_h et eh)) ?_
      refine r_astoreN (pc := 6) (L' := [some (.ref 0), some (.int (nI k)), some (.int h), some (.int i), some (.null)]) dX9_takings_6 (by decide) rfl rfl ?_
      refine r_aloadN (pc := 8) dX9_takings_8 rfl ?_
      refine r_ifnonnullN (pc := 10) dX9_takings_10 ?_
      refine r_ldc (pc := 13) (v := -100000000) dX9_takings_13 (kc_RX9_174 rfl) ?_
      refine r_ret_i (pc := 15) dX9_takings_15 rfl ?_
      exact ⟨_, rfl, I, G, rfl, (by unfold aTakings; rw [atN_s et, atN_n eh] <;> rfl), hC, hFr.m, hGk.gk⟩
  · skip
    refine r_aload_n (pc := 0) dX9_takings_0 rfl ?_
    refine r_iload_n (pc := 1) dX9_takings_1 rfl ?_
    refine r_iload_n (pc := 2) dX9_takings_2 rfl ?_
    refine r_callV_R (pc := 3) (b := 0) (As := [.int t, .int h]) 9 236 dX9_takings_3 lk_X9_findParted (ml_RX9_236 rfl) im_X9_findParted se_X9_findParted (by decide) (c9_o h9) (Nat.le_of_ble_eq_true rfl) rfl (findParted_e hC (fp_t et)) ?_
    refine r_astoreN (pc := 6) (L' := [some (.ref 0), some (.int t), some (.int h), some (.int i), some (.null)]) dX9_takings_6 (by decide) rfl rfl ?_
    refine r_aloadN (pc := 8) dX9_takings_8 rfl ?_
    refine r_ifnonnullN (pc := 10) dX9_takings_10 ?_
    refine r_ldc (pc := 13) (v := -100000000) dX9_takings_13 (kc_RX9_174 rfl) ?_
    refine r_ret_i (pc := 15) dX9_takings_15 rfl ?_
    exact ⟨_, rfl, I, G, rfl, (by unfold aTakings; rw [atN_n et] <;> rfl), hC, hFr.m, hGk.gk⟩
