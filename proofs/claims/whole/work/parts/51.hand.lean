/-! ===== prices told by hand ===== -/
def HtC (I : Im) (t : Nat) (E : Ec) (pay ask : Nat → Nat) : Prop := TrC I t E ∧ (∀ h, h < 8 → I (t + 1) h = nI (eC E h)) ∧ (∀ h, eC E h ≤ 60) ∧ (∀ h, h < 8 → I (t + 15) h = nI (pay h)) ∧ (∀ h, h < 8 → I (t + 16) h = nI (ask h)) ∧ (∀ h, pay h ≤ 41) ∧ ∀ h, ask h ≤ 41
theorem HtC.keep {I I1 : Im} {t : Nat} {E : Ec} {pay ask : Nat → Nat} (h : HtC I t E pay ask) (hk : ∀ a k, t ≤ a → a < t + 18 → I1 a k = I a k) : HtC I1 t E pay ask :=
  ⟨h.1.keep (fun a k h1 h2 => hk a k h1 (by omega)), fun x hx => (hk _ _ (by omega) (by omega)).trans (h.2.1 x hx), h.2.2.1, fun x hx => (hk _ _ (by omega) (by omega)).trans (h.2.2.2.1 x hx), fun x hx => (hk _ _ (by omega) (by omega)).trans (h.2.2.2.2.1 x hx), h.2.2.2.2.2⟩
def ttT (E : Ec) (ask : Nat → Nat) : Nat → Nat → Int32
  | 0 => fun _ => 0
  | k + 1 => fun h => if h = 7 - k then (if cnt (eS E) h (eN E) = 0 then nI (eW E h (ask h)) else sm (fun b => if eS E b = some h then ttT E ask k b else 0) (eN E)) else ttT E ask k h
/-- what h takes, as told -/
def ttF (E : Ec) (ask : Nat → Nat) : Nat → Int32 := ttT E ask 8
theorem ttT_stable (E : Ec) (ask : Nat → Nat) (k : Nat) : ∀ j, k + j ≤ 8 → ∀ h, 8 - k ≤ h → ttT E ask (k + j) h = ttT E ask k h
  | 0, _, _, _ => rfl
  | j + 1, hj, h, hh => by
    show (if h = 7 - (k + j) then _ else ttT E ask (k + j) h) = _
    rw [if_neg (by omega), ttT_stable E ask k j (by omega) h hh]
theorem ttF_eq {E : Ec} {ask : Nat → Nat} (hS : ∀ b a, eS E b = some a → a < b) {h : Nat} (hh : h < 8) : ttF E ask h = if cnt (eS E) h (eN E) = 0 then nI (eW E h (ask h)) else sm (fun b => if eS E b = some h then ttF E ask b else 0) (eN E) := by
  have e1 := ttT_stable E ask (8 - h) h (by omega) h (by omega)
  rw [show 8 - h + h = 8 by omega] at e1
  show ttT E ask 8 h = _
  rw [e1, show 8 - h = (7 - h) + 1 by omega]
  show (if h = 7 - (7 - h) then _ else _) = _
  rw [if_pos (by omega)]
  by_cases hz : cnt (eS E) h (eN E) = 0
  · rw [if_pos hz, if_pos hz]
  · rw [if_neg hz, if_neg hz]
    apply sm_congr
    intro b _
    by_cases hb : eS E b = some h
    · rw [if_pos hb, if_pos hb]
      have := hS b h hb
      have e2 := ttT_stable E ask (7 - h) (h + 1) (by omega) b (by omega)
      rw [show 7 - h + (h + 1) = 8 by omega] at e2
      exact e2.symm
    · rw [if_neg hb, if_neg hb]
theorem sm_at {f g : Nat → Int32} {p : Nat} (h0 : f p = 0) (hk : ∀ k, k ≠ p → g k = f k) : ∀ n, p < n → sm g n = sm f n + g p
  | 0, h => absurd h (Nat.not_lt_zero _)
  | n + 1, h => by
    unfold sm
    by_cases e : p = n
    · subst e
      rw [sm_congr (f := g) (g := f) p (fun k hk2 => hk k (by omega)), h0, Int32.add_zero]
    · rw [sm_at h0 hk n (by omega), hk n (fun z => e z.symm), Int32.add_assoc, Int32.add_assoc, Int32.add_comm (g p)]
def baF (E : Ec) (ask : Nat → Nat) (x : Nat) : Int32 := if cnt (eS E) x (eN E) = 0 then nI (eW E x (ask x)) else 0
def paF (E : Ec) (ask : Nat → Nat) (p x : Nat) : Int32 := baF E ask x + sm (fun b => if p ≤ b ∧ eS E b = some x then ttF E ask b else 0) (eN E)
theorem paF_n {E : Ec} {ask : Nat → Nat} {x : Nat} : paF E ask (eN E) x = baF E ask x := by
  unfold paF
  rw [sm_zero _ (fun k hk => if_neg (fun z => by have := z.1; omega)), Int32.add_zero]
theorem paF_tt {E : Ec} {ask : Nat → Nat} (hE : SrC E) {p x : Nat} (hp : p ≤ x + 1) (hx : x < eN E) : paF E ask p x = ttF E ask x := by
  have h8 := hE.1
  rw [ttF_eq (fun b a z => (hE.2 b a z).1) (by omega)]
  unfold paF baF
  by_cases hz : cnt (eS E) x (eN E) = 0
  · rw [if_pos hz, if_pos hz, sm_zero _ (fun k hk => if_neg (fun z => cnt_zero hz k hk z.2)), Int32.add_zero]
  · rw [if_neg hz, if_neg hz, Int32.zero_add]
    apply sm_congr
    intro b hb
    by_cases hs : eS E b = some x
    · have := hE.2 b x hs
      rw [if_pos hs, if_pos ⟨by omega, hs⟩]
    · rw [if_neg hs, if_neg (fun z => hs z.2)]
theorem paF_skip {E : Ec} {ask : Nat → Nat} {p x : Nat} (h : eS E p ≠ some x) : paF E ask p x = paF E ask (p + 1) x := by
  unfold paF
  refine congrArg (baF E ask x + ·) (sm_congr _ (fun b hb => ?_))
  by_cases hs : eS E b = some x
  · by_cases e : b = p
    · exact absurd (e ▸ hs) h
    · by_cases g : p ≤ b
      · rw [if_pos ⟨g, hs⟩, if_pos ⟨by omega, hs⟩]
      · rw [if_neg (fun z => g z.1), if_neg (fun z => by have := z.1; omega)]
  · rw [if_neg (fun z => hs z.2), if_neg (fun z => hs z.2)]
theorem paF_add {E : Ec} {ask : Nat → Nat} {p x : Nat} (hp : p < eN E) (h : eS E p = some x) : paF E ask p x = paF E ask (p + 1) x + ttF E ask p := by
  unfold paF
  rw [sm_at (f := fun b => if p + 1 ≤ b ∧ eS E b = some x then ttF E ask b else 0) (p := p) (if_neg (fun z => by have := z.1; omega)) (fun k hk => by
    by_cases hs : eS E k = some x
    · by_cases g : p ≤ k
      · rw [if_pos ⟨g, hs⟩, if_pos ⟨by omega, hs⟩]
      · rw [if_neg (fun z => g z.1), if_neg (fun z => by have := z.1; omega)]
    · rw [if_neg (fun z => hs z.2), if_neg (fun z => hs z.2)]) _ hp, if_pos ⟨Nat.le_refl _, h⟩, Int32.add_assoc]

set_option maxRecDepth 100000 in
theorem follow_ct {d : Nat} {I : Im} {G : Gm} {ha t : Nat} {E : Ec} {pay ask : Nat → Nat} (hh : isC2 G ha) (hT : isC8 G t) (hsp : ha + 2 ≤ t ∨ t + 18 ≤ ha) (ht : HtC I t E pay ask) : Ct (d + 3) 0 0 YX2_follow [.ref ha, .ref t] (I, G) (qV G (fun I2 => (∀ x, x < eN E → I2 (ha + 1) x = ttF E ask x) ∧ ∀ a k, a ≠ ha + 1 → I2 a k = I a k)) := by
  refine Ct.of (by decide) (by simp [Value.category]) (Nat.le_of_ble_eq_true rfl) ?_
  have hE : SrC E := ⟨ht.1.2.1, ht.1.2.2.2.1⟩
  have hn8 := hE.1
  show wp _ _ _ _ 0 [some (.ref ha), some (.ref t), none, none] [] _ _
  refine r_iconst (pc := 0) (v := 0) dX2_follow_0 (by decide) ?_
  refine r_istore_n (pc := 1) (L' := [some (.ref ha), some (.ref t), some (.int (nI 0)), none]) dX2_follow_1 (by decide) rfl rfl ?_
  have lp2 : ∀ (n2 : Nat), ∀ (h : Nat) (I1 : Im), eN E - h = n2 → (h ≤ eN E) → (∀ x, x < h → I1 (ha + 1) x = baF E ask x) → (∀ a k, a ≠ ha + 1 → I1 a k = I a k) → wp (d + 3) 0 0 YX2_follow 2 [some (.ref ha), some (.ref t), some (.int (nI h)), none] [] (I1, G) (qV G (fun I2 => (∀ x, x < eN E → I2 (ha + 1) x = ttF E ask x) ∧ ∀ a k, a ≠ ha + 1 → I2 a k = I a k)) := by
    intro n2
    induction n2 using Nat.strongRecOn with
    | ind n2 ih2 =>
      intro h I1 hmu2 hhn hv hfr
      have ht1 := ht.keep (I1 := I1) (fun a k h1 h2 => hfr a k (by omega))
      have hal := ht.2.2.2.2.2.2 h
      refine r_iload_n (pc := 2) dX2_follow_2 rfl ?_
      refine r_aload_n (pc := 3) dX2_follow_3 rfl ?_
      refine r_getIv (pc := 4) 8 0 15 dX2_follow_4 (fl_RX2_15 rfl) (by decide) rfl (c8_o hT) (v := nI (eN E)) (ht1.1.1) ?_
      refine r_icmp_ge_n (pc := 7) (a := h) (b := eN E) (tgt := 47) dX2_follow_7 (by decide) (by omega) (by omega) (fun c7 => ?_) (fun c7 => ?_)
      · skip
        refine r_aload_n (pc := 47) dX2_follow_47 rfl ?_
        refine r_getIv (pc := 48) 8 0 15 dX2_follow_48 (fl_RX2_15 rfl) (by decide) rfl (c8_o hT) (v := nI (eN E)) (ht1.1.1) ?_
        refine r_iconst (pc := 51) (v := 1) dX2_follow_51 (by decide) ?_
        refine r_isub (pc := 52) (x := nI (eN E)) (z := 1) dX2_follow_52 ?_
        refine r_istore_n (pc := 53) (L' := [some (.ref ha), some (.ref t), some (.int ((nI (eN E)) - 1)), none]) dX2_follow_53 (by decide) rfl rfl ?_
        have lp54 : ∀ (n54 : Nat), ∀ (p : Nat) (I2 : Im), p = n54 → (p ≤ eN E) → (∀ x, x < eN E → I2 (ha + 1) x = paF E ask p x) → (∀ a k, a ≠ ha + 1 → I2 a k = I a k) → wp (d + 3) 0 0 YX2_follow 54 [some (.ref ha), some (.ref t), some (.int (nI p - 1)), none] [] (I2, G) (qV G (fun I2 => (∀ x, x < eN E → I2 (ha + 1) x = ttF E ask x) ∧ ∀ a k, a ≠ ha + 1 → I2 a k = I a k)) := by
          intro n54
          induction n54 using Nat.strongRecOn with
          | ind n54 ih54 =>
            intro p I2 hmu54 hp hv2 hfr2
            have ht2 := ht.keep (I1 := I2) (fun a k h1 h2 => hfr2 a k (by omega))
            rcases p with _ | p
            · skip
              show wp _ _ _ _ _ [some (.ref ha), some (.ref t), some (.int (-1)), none] _ _ _
              refine r_iload_n (pc := 54) dX2_follow_54 rfl ?_
              refine r_if_lt (pc := 55) (x := (-1)) (tgt := 90) dX2_follow_55 (by decide) (fun c55 => ?_) (fun c55 => ?_)
              · skip
                refine r_ret_v (pc := 90) dX2_follow_90 rfl ?_
                exact ⟨rfl, I2, rfl, fun x hx => (hv2 x hx).trans (paF_tt hE (Nat.zero_le _) hx), hfr2⟩
              · exfalso; exact absurd c55 (by decide)
            · skip
              refine wp_L (L2 := [some (.ref ha), some (.ref t), some (.int (nI p)), none]) (by rw [nI_pred]) ?_
              refine r_iload_n (pc := 54) dX2_follow_54 rfl ?_
              refine r_if_lt_n (pc := 55) (a := p) (tgt := 90) dX2_follow_55 (by decide) (by omega) ?_
              refine r_aload_n (pc := 58) dX2_follow_58 rfl ?_
              refine r_get1 (pc := 59) 8 3 32 dX2_follow_59 (fl_RX2_32 rfl) (by decide) rfl (c8_o hT) (c8_p3 hT) ?_
              refine r_iload_n (pc := 62) dX2_follow_62 rfl ?_
              refine r_iald_n (pc := 63) (i := p) dX2_follow_63 (c8_a3 hT) (by decide) (by omega) (v := sI (eS E p)) (ht2.1.2.2.1 _ (by omega)) ?_
              rcases hsr : eS E p with _ | a
              · skip
                show wp _ _ _ _ _ _ [.int (-1)] _ _
                have hvn : ∀ x, x < eN E → I2 (ha + 1) x = paF E ask p x := fun x hx => by rw [paF_skip (by rw [hsr]; simp)]; exact hv2 x hx
                have hfn := hfr2
                refine r_istore_n (pc := 64) (L' := [some (.ref ha), some (.ref t), some (.int (nI p)), some (.int (-1))]) dX2_follow_64 (by decide) rfl rfl ?_
                refine r_iload_n (pc := 65) dX2_follow_65 rfl ?_
                refine r_if_lt (pc := 66) (x := (-1)) (tgt := 84) dX2_follow_66 (by decide) (fun c66 => ?_) (fun c66 => ?_)
                · skip
                  refine r_iinc (pc := 84) (v := nI p - 1) (L' := [some (.ref ha), some (.ref t), some (.int (nI p - 1)), some (.int (-1))]) dX2_follow_84 rfl (nI_dm _) (by decide) rfl rfl ?_
                  refine r_goto (pc := 87) (tgt := 54) dX2_follow_87 (by decide) ?_
                  refine wp_sub [some (.ref ha), some (.ref t), some (.int (nI p - 1)), none] ⟨rfl, ⟨rfl, ⟨rfl, trivial⟩⟩⟩ ?_
                  exact ih54 _ (by omega) p I2 rfl (by omega) hvn hfn
                · exfalso; exact absurd c66 (by decide)
              · skip
                show wp _ _ _ _ _ _ [.int (nI a)] _ _
                have hal := hE.2 p a hsr
                refine r_istore_n (pc := 64) (L' := [some (.ref ha), some (.ref t), some (.int (nI p)), some (.int (nI a))]) dX2_follow_64 (by decide) rfl rfl ?_
                refine r_iload_n (pc := 65) dX2_follow_65 rfl ?_
                refine r_if_lt_n (pc := 66) (a := a) (tgt := 84) dX2_follow_66 (by decide) (by omega) ?_
                refine r_aload_n (pc := 69) dX2_follow_69 rfl ?_
                refine r_get1 (pc := 70) 2 0 9 dX2_follow_70 (fl_RX2_9 rfl) (by decide) rfl (c2_o hh) (c2_p0 hh) ?_
                refine r_iload_n (pc := 73) dX2_follow_73 rfl ?_
                refine r_dup2 (pc := 74) dX2_follow_74 rfl rfl ?_
                refine r_iald_n (pc := 75) (i := a) dX2_follow_75 (c2_a0 hh) (by decide) (by omega) rfl ?_
                refine r_aload_n (pc := 76) dX2_follow_76 rfl ?_
                refine r_get1 (pc := 77) 2 0 9 dX2_follow_77 (fl_RX2_9 rfl) (by decide) rfl (c2_o hh) (c2_p0 hh) ?_
                refine r_iload_n (pc := 80) dX2_follow_80 rfl ?_
                refine r_iald_n (pc := 81) (i := p) dX2_follow_81 (c2_a0 hh) (by decide) (by omega) rfl ?_
                refine r_iadd (pc := 82) (x := I2 (ha + 1) a) (z := I2 (ha + 1) p) dX2_follow_82 ?_
                refine r_iast_n (pc := 83) (i := a) (v := (I2 (ha + 1) a) + (I2 (ha + 1) p)) dX2_follow_83 (c2_a0 hh) (by decide) (by omega) ?_
                obtain ⟨I3, hI3⟩ : ∃ z : Im, z = up2 I2 (ha + 1) a ((I2 (ha + 1) a) + (I2 (ha + 1) p)) := ⟨_, rfl⟩
                refine wp_M (M2 := (I3, G)) (by subst hI3; rfl) ?_
                have hvn : ∀ x, x < eN E → I3 (ha + 1) x = paF E ask p x := fun x hx => by
                  rw [hI3]
                  by_cases e : x = a
                  · subst e
                    rw [up2_at, paF_add (by omega) hsr, hv2 x hx, hv2 p (by omega), paF_tt hE (Nat.le_refl _) (by omega)]
                  · rw [up2_rd (Or.inr e), paF_skip (by rw [hsr]; exact fun z => e (Option.some.inj z).symm)]; exact hv2 x hx
                have hfn : ∀ a k, a ≠ ha + 1 → I3 a k = I a k := fun a k g => by rw [hI3, up2_rd (Or.inl g)]; exact hfr2 a k g
                refine r_iinc (pc := 84) (v := nI p - 1) (L' := [some (.ref ha), some (.ref t), some (.int (nI p - 1)), some (.int (nI a))]) dX2_follow_84 rfl (nI_dm _) (by decide) rfl rfl ?_
                refine r_goto (pc := 87) (tgt := 54) dX2_follow_87 (by decide) ?_
                refine wp_sub [some (.ref ha), some (.ref t), some (.int (nI p - 1)), none] ⟨rfl, ⟨rfl, ⟨rfl, trivial⟩⟩⟩ ?_
                exact ih54 _ (by omega) p I3 rfl (by omega) hvn hfn
        exact lp54 _ (eN E) I1 rfl (by omega) (by exact fun x hx => by rw [paF_n]; exact hv x (by omega)) hfr
      · skip
        refine r_aload_n (pc := 10) dX2_follow_10 rfl ?_
        refine r_get1 (pc := 11) 2 0 9 dX2_follow_11 (fl_RX2_9 rfl) (by decide) rfl (c2_o hh) (c2_p0 hh) ?_
        refine r_iload_n (pc := 14) dX2_follow_14 rfl ?_
        have k40 : ∀ (z : Int32), (z = baF E ask h) → wp (d + 3) 0 0 YX2_follow 40 [some (.ref ha), some (.ref t), some (.int (nI h)), none] [.int z, .int (nI h), .ref (ha + 1)] (I1, G) (qV G (fun I2 => (∀ x, x < eN E → I2 (ha + 1) x = ttF E ask x) ∧ ∀ a k, a ≠ ha + 1 → I2 a k = I a k)) := by
          intro z hz
          refine r_iast_n (pc := 40) (i := h) (v := z) dX2_follow_40 (c2_a0 hh) (by decide) (by omega) ?_
          refine r_iinc (pc := 41) (v := nI (h + 1)) (L' := [some (.ref ha), some (.ref t), some (.int (nI (h + 1))), none]) dX2_follow_41 rfl (nI_inc _) (by decide) rfl rfl ?_
          refine r_goto (pc := 44) (tgt := 2) dX2_follow_44 (by decide) ?_
          exact ih2 _ (by omega) (h + 1) (up2 I1 (ha + 1) h z) rfl (by omega) (by exact fun x hx => (Nat.lt_or_ge x h).elim (fun g => (up2_rd (by omega)).trans (hv x g)) (fun g => by obtain rfl : x = h := (by omega); rw [up2_at]; exact hz)) (by exact fun a k g => (up2_rd (Or.inl g)).trans (hfr a k g))
        refine r_aload_n (pc := 15) dX2_follow_15 rfl ?_
        refine r_iload_n (pc := 16) dX2_follow_16 rfl ?_
        refine r_callV_P (pc := 17) (b := t) (As := [.int (nI h)]) 8 21 dX2_follow_17 lk_X8_isShop (ml_RX2_21 rfl) im_X8_isShop se_X8_isShop (by decide) (c8_o hT) (Nat.le_of_ble_eq_true rfl) rfl (isShop_e hT ht1.1 (by omega)) ?_
        refine r_if_eq_b (pc := 20) (tgt := 39) dX2_follow_20 (by decide) (fun c20 => ?_) (fun c20 => ?_)
        · skip
          refine r_iconst (pc := 39) (v := 0) dX2_follow_39 (by decide) ?_
          exact k40 (nI 0) (by first | exact (if_pos c20).symm | exact (if_neg c20).symm)
        · skip
          refine r_aload_n (pc := 23) dX2_follow_23 rfl ?_
          refine r_get1 (pc := 24) 8 6 25 dX2_follow_24 (fl_RX2_25 rfl) (by decide) rfl (c8_o hT) (c8_p6 hT) ?_
          refine r_iload_n (pc := 27) dX2_follow_27 rfl ?_
          refine r_aald1_n (pc := 28) (i := h) 6 dX2_follow_28 (by decide) (c8_a6 hT) (by decide) (by omega) (c8_q6 hT (by omega)) ?_
          refine r_aload_n (pc := 29) dX2_follow_29 rfl ?_
          refine r_get1 (pc := 30) 8 9 29 dX2_follow_30 (fl_RX2_29 rfl) (by decide) rfl (c8_o hT) (c8_p9 hT) ?_
          refine r_iload_n (pc := 33) dX2_follow_33 rfl ?_
          refine r_iald_n (pc := 34) (i := h) dX2_follow_34 (c8_a9 hT) (by decide) (by omega) (v := nI (ask h)) (ht1.2.2.2.2.1 _ (by omega)) ?_
          refine r_iald_n (pc := 35) (i := ask h) dX2_follow_35 (c8_r6 hT (by omega)) (by decide) (by omega) (v := nI (eW E h (ask h))) (ht1.1.2.2.2.2.2.1 _ _ (by omega) (by first | omega | (have := ht1.2.2.2.2.2.2 h; omega))) ?_
          refine r_goto (pc := 36) (tgt := 40) dX2_follow_36 (by decide) ?_
          exact k40 (nI (eW E h (ask h))) (by first | exact (if_pos c20).symm | exact (if_neg c20).symm)
  exact lp2 _ 0 I rfl (by omega) (by exact fun x hx => absurd hx (Nat.not_lt_zero _)) (by exact fun _ _ _ => rfl)

set_option maxRecDepth 100000 in
theorem spentBy_ct {d : Nat} {I : Im} {G : Gm} {ha t : Nat} {E : Ec} {pay ask : Nat → Nat} (hh : isC2 G ha) (hT : isC8 G t) (hsp : ha + 2 ≤ t ∨ t + 18 ≤ ha) (ht : HtC I t E pay ask) {h : Nat} (hl : h < 8) : Ct (d + 1) 0 0 YX2_spentBy [.ref ha, .ref t, .int (nI h)] (I, G) (qP (nI (pay h + eC E h)) (I, G)) := by
  refine Ct.of (by decide) (by simp [Value.category]) (Nat.le_of_ble_eq_true rfl) ?_
  have hE : SrC E := ⟨ht.1.2.1, ht.1.2.2.2.1⟩
  have hn8 := hE.1
  show wp _ _ _ _ 0 [some (.ref ha), some (.ref t), some (.int (nI h))] [] _ _
  refine r_aload_n (pc := 0) dX2_spentBy_0 rfl ?_
  refine r_get1 (pc := 1) 8 8 43 dX2_spentBy_1 (fl_RX2_43 rfl) (by decide) rfl (c8_o hT) (c8_p8 hT) ?_
  refine r_iload_n (pc := 4) dX2_spentBy_4 rfl ?_
  refine r_iald_n (pc := 5) (i := h) dX2_spentBy_5 (c8_a8 hT) (by decide) (by omega) (v := nI (pay h)) (ht.2.2.2.1 _ (by omega)) ?_
  refine r_aload_n (pc := 6) dX2_spentBy_6 rfl ?_
  refine r_get1 (pc := 7) 8 2 46 dX2_spentBy_7 (fl_RX2_46 rfl) (by decide) rfl (c8_o hT) (c8_p2 hT) ?_
  refine r_iload_n (pc := 10) dX2_spentBy_10 rfl ?_
  refine r_iald_n (pc := 11) (i := h) dX2_spentBy_11 (c8_a2 hT) (by decide) (by omega) (v := nI (eC E h)) (ht.2.1 _ (by omega)) ?_
  refine r_iadd_n (pc := 12) (a := pay h) (b := eC E h) dX2_spentBy_12 ?_
  refine r_ret_i (pc := 13) dX2_spentBy_13 rfl ?_
  exact ⟨rfl, rfl⟩

/-- what h earns of b, as told -/
def efF (E : Ec) (pay ask : Nat → Nat) (h b : Nat) : Int32 := (nI (pay b) - nI (pay h + eC E h)) * ttF E ask b
/-- what h earns, as told -/
def gvF (E : Ec) (pay ask : Nat → Nat) (h : Nat) : Int32 := if cnt (eS E) h (eN E) = 0 then (nI (ask h) - nI (pay h + eC E h)) * ttF E ask h else sm (fun b => if eS E b = some h then efF E pay ask h b else 0) (eN E)
def anB (f : Nat → Bool) : Nat → Bool
  | 0 => false
  | k + 1 => anB f k || f k
theorem anB_iff {f : Nat → Bool} : ∀ n, anB f n = true ↔ ∃ k, k < n ∧ f k = true
  | 0 => ⟨fun h => (by cases h), fun ⟨k, hk, _⟩ => absurd hk (Nat.not_lt_zero _)⟩
  | n + 1 => by
    unfold anB
    rw [Bool.or_eq_true, anB_iff n]
    constructor
    · rintro (⟨k, hk, h⟩ | h)
      · exact ⟨k, by omega, h⟩
      · exact ⟨n, by omega, h⟩
    · rintro ⟨k, hk, h⟩
      by_cases e : k = n
      · exact Or.inr (e ▸ h)
      · exact Or.inl ⟨k, by omega, h⟩
/-- whether h would ask x of b -/
def pwF (E : Ec) (q : Nat → Nat) (pay ask : Nat → Nat) (h b x : Nat) : Bool := decide (x ≠ pay b ∧ efF E pay ask h b < (nI x - nI (pay h + eC E h)) * (mk E q b (q (x + eC E b))).1)
def weF (E : Ec) (q : Nat → Nat) (pay ask : Nat → Nat) (h : Nat) : Bool := if cnt (eS E) h (eN E) = 0 then anB (fun p => decide ((nI (ask h) - nI (pay h + eC E h)) * ttF E ask h < (nI p - nI (pay h + eC E h)) * nI (eW E h p))) 42 else anB (fun b => decide (eS E b = some h) && anB (pwF E q pay ask h b) 42) (eN E)
def orF (f : Nat → Bool) : Nat → Int32
  | 0 => 0
  | k + 1 => if f k = true then orF f k ||| 1 <<< (nI k &&& 31) else orF f k
theorem orF_congr {f g : Nat → Bool} : ∀ n, (∀ k, k < n → f k = g k) → orF f n = orF g n
  | 0, _ => rfl
  | n + 1, h => by
    unfold orF
    rw [orF_congr n (fun k hk => h k (by omega)), h n (by omega)]

set_option maxRecDepth 100000 in
theorem earnedFrom_ct {d : Nat} {I : Im} {G : Gm} {ha t : Nat} {E : Ec} {pay ask : Nat → Nat} (hh : isC2 G ha) (hT : isC8 G t) (hsp : ha + 2 ≤ t ∨ t + 18 ≤ ha) (ht : HtC I t E pay ask) (hv : ∀ x, x < eN E → I (ha + 1) x = ttF E ask x) {h b : Nat} (hl : h < 8) (hb : b < eN E) : Ct (d + 2) 0 0 YX2_earnedFrom [.ref ha, .ref t, .int (nI h), .int (nI b)] (I, G) (qP (efF E pay ask h b) (I, G)) := by
  refine Ct.of (by decide) (by simp [Value.category]) (Nat.le_of_ble_eq_true rfl) ?_
  have hE : SrC E := ⟨ht.1.2.1, ht.1.2.2.2.1⟩
  have hn8 := hE.1
  show wp _ _ _ _ 0 [some (.ref ha), some (.ref t), some (.int (nI h)), some (.int (nI b))] [] _ _
  refine r_aload_n (pc := 0) dX2_earnedFrom_0 rfl ?_
  refine r_get1 (pc := 1) 8 8 43 dX2_earnedFrom_1 (fl_RX2_43 rfl) (by decide) rfl (c8_o hT) (c8_p8 hT) ?_
  refine r_iload_n (pc := 4) dX2_earnedFrom_4 rfl ?_
  refine r_iald_n (pc := 5) (i := b) dX2_earnedFrom_5 (c8_a8 hT) (by decide) (by omega) (v := nI (pay b)) (ht.2.2.2.1 _ (by omega)) ?_
  refine r_aload_n (pc := 6) dX2_earnedFrom_6 rfl ?_
  refine r_aload_n (pc := 7) dX2_earnedFrom_7 rfl ?_
  refine r_iload_n (pc := 8) dX2_earnedFrom_8 rfl ?_
  refine r_callV_P (pc := 9) (b := ha) (As := [.ref t, .int (nI h)]) 2 35 dX2_earnedFrom_9 lk_X2_spentBy (ml_RX2_35 rfl) im_X2_spentBy se_X2_spentBy (by decide) (c2_o hh) (Nat.le_of_ble_eq_true rfl) rfl (spentBy_ct hh hT hsp ht (by omega)) ?_
  refine r_isub (pc := 12) (x := nI (pay b)) (z := nI (pay h + eC E h)) dX2_earnedFrom_12 ?_
  refine r_aload_n (pc := 13) dX2_earnedFrom_13 rfl ?_
  refine r_get1 (pc := 14) 2 0 9 dX2_earnedFrom_14 (fl_RX2_9 rfl) (by decide) rfl (c2_o hh) (c2_p0 hh) ?_
  refine r_iload_n (pc := 17) dX2_earnedFrom_17 rfl ?_
  refine r_iald_n (pc := 18) (i := b) dX2_earnedFrom_18 (c2_a0 hh) (by decide) (by omega) (v := ttF E ask b) (hv _ (by omega)) ?_
  refine r_imul (pc := 19) (x := (nI (pay b)) - (nI (pay h + eC E h))) (z := ttF E ask b) dX2_earnedFrom_19 ?_
  refine r_ret_i (pc := 20) dX2_earnedFrom_20 rfl ?_
  exact ⟨rfl, rfl⟩

set_option maxRecDepth 100000 in
theorem earnedByT_ct {d : Nat} {I : Im} {G : Gm} {ha t : Nat} {E : Ec} {pay ask : Nat → Nat} (hh : isC2 G ha) (hT : isC8 G t) (hsp : ha + 2 ≤ t ∨ t + 18 ≤ ha) (ht : HtC I t E pay ask) (hv : ∀ x, x < eN E → I (ha + 1) x = ttF E ask x) {h : Nat} (hl : h < eN E) : Ct (d + 3) 0 0 YX2_earnedBy [.ref ha, .ref t, .int (nI h)] (I, G) (qP (gvF E pay ask h) (I, G)) := by
  refine Ct.of (by decide) (by simp [Value.category]) (Nat.le_of_ble_eq_true rfl) ?_
  have hE : SrC E := ⟨ht.1.2.1, ht.1.2.2.2.1⟩
  have hn8 := hE.1
  show wp _ _ _ _ 0 [some (.ref ha), some (.ref t), some (.int (nI h)), none, none] [] _ _
  refine r_aload_n (pc := 0) dX2_earnedBy_0 rfl ?_
  refine r_iload_n (pc := 1) dX2_earnedBy_1 rfl ?_
  refine r_callV_P (pc := 2) (b := t) (As := [.int (nI h)]) 8 21 dX2_earnedBy_2 lk_X8_isShop (ml_RX2_21 rfl) im_X8_isShop se_X8_isShop (by decide) (c8_o hT) (Nat.le_of_ble_eq_true rfl) rfl (isShop_e hT ht.1 (by omega)) ?_
  refine r_if_eq_b (pc := 5) (tgt := 29) dX2_earnedBy_5 (by decide) (fun c5 => ?_) (fun c5 => ?_)
  · skip
    refine r_iconst (pc := 29) (v := 0) dX2_earnedBy_29 (by decide) ?_
    refine r_istore_n (pc := 30) (L' := [some (.ref ha), some (.ref t), some (.int (nI h)), some (.int (nI 0)), none]) dX2_earnedBy_30 (by decide) rfl rfl ?_
    refine r_iload_n (pc := 31) dX2_earnedBy_31 rfl ?_
    refine r_iconst (pc := 32) (v := 1) dX2_earnedBy_32 (by decide) ?_
    refine r_iadd_n (pc := 33) (a := h) (b := 1) dX2_earnedBy_33 ?_
    refine r_istore (pc := 34) (L' := [some (.ref ha), some (.ref t), some (.int (nI h)), some (.int (nI 0)), some (.int (nI (h + 1)))]) dX2_earnedBy_34 (by decide) rfl rfl ?_
    have lp36 : ∀ (n36 : Nat), ∀ (b : Nat) (g : Int32), eN E - b = n36 → (h + 1 ≤ b ∧ b ≤ eN E) → (g = sm (fun b => if eS E b = some h then efF E pay ask h b else 0) b) → wp (d + 3) 0 0 YX2_earnedBy 36 [some (.ref ha), some (.ref t), some (.int (nI h)), some (.int g), some (.int (nI b))] [] (I, G) (qP (gvF E pay ask h) (I, G)) := by
      intro n36
      induction n36 using Nat.strongRecOn with
      | ind n36 ih36 =>
        intro b g hmu36 hb hg
        refine r_iload (pc := 36) dX2_earnedBy_36 rfl ?_
        refine r_aload_n (pc := 38) dX2_earnedBy_38 rfl ?_
        refine r_getIv (pc := 39) 8 0 15 dX2_earnedBy_39 (fl_RX2_15 rfl) (by decide) rfl (c8_o hT) (v := nI (eN E)) (ht.1.1) ?_
        refine r_icmp_ge_n (pc := 42) (a := b) (b := eN E) (tgt := 73) dX2_earnedBy_42 (by decide) (by omega) (by omega) (fun c42 => ?_) (fun c42 => ?_)
        · skip
          refine r_iload_n (pc := 73) dX2_earnedBy_73 rfl ?_
          refine r_ret_i (pc := 74) dX2_earnedBy_74 rfl ?_
          exact ⟨congrArg (fun z => some (Value.int z)) (by rw [hg, show b = eN E by omega]; exact (if_neg c5).symm), rfl⟩
        · skip
          refine r_aload_n (pc := 45) dX2_earnedBy_45 rfl ?_
          refine r_get1 (pc := 46) 8 3 32 dX2_earnedBy_46 (fl_RX2_32 rfl) (by decide) rfl (c8_o hT) (c8_p3 hT) ?_
          refine r_iload (pc := 49) dX2_earnedBy_49 rfl ?_
          refine r_iald_n (pc := 51) (i := b) dX2_earnedBy_51 (c8_a3 hT) (by decide) (by omega) (v := sI (eS E b)) (ht.1.2.2.1 _ (by omega)) ?_
          refine r_iload_n (pc := 52) dX2_earnedBy_52 rfl ?_
          refine r_icmp_ne (pc := 53) (x := sI (eS E b)) (z := nI h) (tgt := 67) dX2_earnedBy_53 (by decide) (fun c53 => ?_) (fun c53 => ?_)
          · skip
            refine r_iinc (pc := 67) (v := nI (b + 1)) (L' := [some (.ref ha), some (.ref t), some (.int (nI h)), some (.int g), some (.int (nI (b + 1)))]) dX2_earnedBy_67 rfl (nI_inc _) (by decide) rfl rfl ?_
            refine r_goto (pc := 70) (tgt := 36) dX2_earnedBy_70 (by decide) ?_
            exact ih36 _ (by omega) (b + 1) g rfl (by omega) (by rw [show ∀ f k, sm f (k + 1) = sm f k + f k from fun _ _ => rfl, ← hg]; first | exact congrArg (g + ·) (if_pos ((sI_eq (by omega) (ht.1.lt b)).mp c53)).symm | exact ((congrArg (g + ·) (if_neg (fun z => c53 ((sI_eq (by omega) (ht.1.lt b)).mpr z)))).trans (Int32.add_zero _)).symm)
          · skip
            refine r_iload_n (pc := 56) dX2_earnedBy_56 rfl ?_
            refine r_aload_n (pc := 57) dX2_earnedBy_57 rfl ?_
            refine r_aload_n (pc := 58) dX2_earnedBy_58 rfl ?_
            refine r_iload_n (pc := 59) dX2_earnedBy_59 rfl ?_
            refine r_iload (pc := 60) dX2_earnedBy_60 rfl ?_
            refine r_callV_P (pc := 62) (b := ha) (As := [.ref t, .int (nI h), .int (nI b)]) 2 39 dX2_earnedBy_62 lk_X2_earnedFrom (ml_RX2_39 rfl) im_X2_earnedFrom se_X2_earnedFrom (by decide) (c2_o hh) (Nat.le_of_ble_eq_true rfl) rfl (earnedFrom_ct hh hT hsp ht hv (by omega) (by omega)) ?_
            refine r_iadd (pc := 65) (x := g) (z := efF E pay ask h b) dX2_earnedBy_65 ?_
            refine r_istore_n (pc := 66) (L' := [some (.ref ha), some (.ref t), some (.int (nI h)), some (.int (g + (efF E pay ask h b))), some (.int (nI b))]) dX2_earnedBy_66 (by decide) rfl rfl ?_
            refine r_iinc (pc := 67) (v := nI (b + 1)) (L' := [some (.ref ha), some (.ref t), some (.int (nI h)), some (.int (g + (efF E pay ask h b))), some (.int (nI (b + 1)))]) dX2_earnedBy_67 rfl (nI_inc _) (by decide) rfl rfl ?_
            refine r_goto (pc := 70) (tgt := 36) dX2_earnedBy_70 (by decide) ?_
            exact ih36 _ (by omega) (b + 1) (g + (efF E pay ask h b)) rfl (by omega) (by rw [show ∀ f k, sm f (k + 1) = sm f k + f k from fun _ _ => rfl, ← hg]; first | exact congrArg (g + ·) (if_pos ((sI_eq (by omega) (ht.1.lt b)).mp c53)).symm | exact ((congrArg (g + ·) (if_neg (fun z => c53 ((sI_eq (by omega) (ht.1.lt b)).mpr z)))).trans (Int32.add_zero _)).symm)
    exact lp36 _ (h + 1) 0 rfl (by omega) (by exact (sm_zero _ (fun k hk => if_neg (fun z => by have := hE.2 k h z; omega))).symm)
  · skip
    refine r_aload_n (pc := 8) dX2_earnedBy_8 rfl ?_
    refine r_get1 (pc := 9) 8 9 29 dX2_earnedBy_9 (fl_RX2_29 rfl) (by decide) rfl (c8_o hT) (c8_p9 hT) ?_
    refine r_iload_n (pc := 12) dX2_earnedBy_12 rfl ?_
    refine r_iald_n (pc := 13) (i := h) dX2_earnedBy_13 (c8_a9 hT) (by decide) (by omega) (v := nI (ask h)) (ht.2.2.2.2.1 _ (by omega)) ?_
    refine r_aload_n (pc := 14) dX2_earnedBy_14 rfl ?_
    refine r_aload_n (pc := 15) dX2_earnedBy_15 rfl ?_
    refine r_iload_n (pc := 16) dX2_earnedBy_16 rfl ?_
    refine r_callV_P (pc := 17) (b := ha) (As := [.ref t, .int (nI h)]) 2 35 dX2_earnedBy_17 lk_X2_spentBy (ml_RX2_35 rfl) im_X2_spentBy se_X2_spentBy (by decide) (c2_o hh) (Nat.le_of_ble_eq_true rfl) rfl (spentBy_ct hh hT hsp ht (by omega)) ?_
    refine r_isub (pc := 20) (x := nI (ask h)) (z := nI (pay h + eC E h)) dX2_earnedBy_20 ?_
    refine r_aload_n (pc := 21) dX2_earnedBy_21 rfl ?_
    refine r_get1 (pc := 22) 2 0 9 dX2_earnedBy_22 (fl_RX2_9 rfl) (by decide) rfl (c2_o hh) (c2_p0 hh) ?_
    refine r_iload_n (pc := 25) dX2_earnedBy_25 rfl ?_
    refine r_iald_n (pc := 26) (i := h) dX2_earnedBy_26 (c2_a0 hh) (by decide) (by omega) (v := ttF E ask h) (hv _ (by omega)) ?_
    refine r_imul (pc := 27) (x := (nI (ask h)) - (nI (pay h + eC E h))) (z := ttF E ask h) dX2_earnedBy_27 ?_
    refine r_ret_i (pc := 28) dX2_earnedBy_28 rfl ?_
    exact ⟨congrArg (fun z => some (Value.int z)) (if_pos c5).symm, rfl⟩

set_option maxRecDepth 100000 in
theorem shopWould_ct {d : Nat} {I : Im} {G : Gm} {ha t : Nat} {E : Ec} {pay ask : Nat → Nat} (hh : isC2 G ha) (hT : isC8 G t) (hsp : ha + 2 ≤ t ∨ t + 18 ≤ ha) (ht : HtC I t E pay ask) (hv : ∀ x, x < eN E → I (ha + 1) x = ttF E ask x) {h : Nat} (hl : h < eN E) : Ct (d + 4) 0 0 YX2_shopWould [.ref ha, .ref t, .int (nI h)] (I, G) (qP (bz (gvF E pay ask h < (nI (askF (eW E h) 41 (pay h + eC E h)) - nI (pay h + eC E h)) * nI (eW E h (askF (eW E h) 41 (pay h + eC E h))))) (I, G)) := by
  refine Ct.of (by decide) (by simp [Value.category]) (Nat.le_of_ble_eq_true rfl) ?_
  have hE : SrC E := ⟨ht.1.2.1, ht.1.2.2.2.1⟩
  have hn8 := hE.1
  have hpl := ht.2.2.2.2.2.1 h
  have hcl := ht.2.2.1 h
  have hal9 := askF_le (eW E h) 41 (pay h + eC E h)
  show wp _ _ _ _ 0 [some (.ref ha), some (.ref t), some (.int (nI h)), none, none] [] _ _
  refine r_aload_n (pc := 0) dX2_shopWould_0 rfl ?_
  refine r_aload_n (pc := 1) dX2_shopWould_1 rfl ?_
  refine r_iload_n (pc := 2) dX2_shopWould_2 rfl ?_
  refine r_callV_P (pc := 3) (b := ha) (As := [.ref t, .int (nI h)]) 2 35 dX2_shopWould_3 lk_X2_spentBy (ml_RX2_35 rfl) im_X2_spentBy se_X2_spentBy (by decide) (c2_o hh) (Nat.le_of_ble_eq_true rfl) rfl (spentBy_ct hh hT hsp ht (by omega)) ?_
  refine r_istore_n (pc := 6) (L' := [some (.ref ha), some (.ref t), some (.int (nI h)), some (.int (nI (pay h + eC E h))), none]) dX2_shopWould_6 (by decide) rfl rfl ?_
  refine r_aload_n (pc := 7) dX2_shopWould_7 rfl ?_
  refine r_get1 (pc := 8) 8 6 25 dX2_shopWould_8 (fl_RX2_25 rfl) (by decide) rfl (c8_o hT) (c8_p6 hT) ?_
  refine r_iload_n (pc := 11) dX2_shopWould_11 rfl ?_
  refine r_aald1_n (pc := 12) (i := h) 6 dX2_shopWould_12 (by decide) (c8_a6 hT) (by decide) (by first | omega | (have := askF_le (eW E h) 41 (pay h + eC E h); omega)) (c8_q6 hT (by first | omega | (have := askF_le (eW E h) 41 (pay h + eC E h); omega))) ?_
  refine r_bipush (pc := 13) (v := 41) dX2_shopWould_13 (by decide) ?_
  refine r_iload_n (pc := 15) dX2_shopWould_15 rfl ?_
  refine r_callSN_P (pc := 16) (As := [.ref (t + 5 + 1 + h), .int (nI 41), .int (nI (pay h + eC E h))]) 57 dX2_shopWould_16 lk_X9_bestPrice (nl_RX2_57 rfl) sm_X9_bestPrice (Nat.le_of_ble_eq_true rfl) rfl (bestPrice_ct (c8_r6 hT (by omega)) (fun p hp => ht.1.2.2.2.2.2.1 _ p (by omega) hp) (by omega) (by omega)) ?_
  refine r_istore (pc := 19) (L' := [some (.ref ha), some (.ref t), some (.int (nI h)), some (.int (nI (pay h + eC E h))), some (.int (nI (askF (eW E h) 41 (pay h + eC E h))))]) dX2_shopWould_19 (by decide) rfl rfl ?_
  refine r_iload (pc := 21) dX2_shopWould_21 rfl ?_
  refine r_iload_n (pc := 23) dX2_shopWould_23 rfl ?_
  refine r_isub (pc := 24) (x := nI (askF (eW E h) 41 (pay h + eC E h))) (z := nI (pay h + eC E h)) dX2_shopWould_24 ?_
  refine r_aload_n (pc := 25) dX2_shopWould_25 rfl ?_
  refine r_get1 (pc := 26) 8 6 25 dX2_shopWould_26 (fl_RX2_25 rfl) (by decide) rfl (c8_o hT) (c8_p6 hT) ?_
  refine r_iload_n (pc := 29) dX2_shopWould_29 rfl ?_
  refine r_aald1_n (pc := 30) (i := h) 6 dX2_shopWould_30 (by decide) (c8_a6 hT) (by decide) (by first | omega | (have := askF_le (eW E h) 41 (pay h + eC E h); omega)) (c8_q6 hT (by first | omega | (have := askF_le (eW E h) 41 (pay h + eC E h); omega))) ?_
  refine r_iload (pc := 31) dX2_shopWould_31 rfl ?_
  refine r_iald_n (pc := 33) (i := askF (eW E h) 41 (pay h + eC E h)) dX2_shopWould_33 (c8_r6 hT (by first | omega | (have := askF_le (eW E h) 41 (pay h + eC E h); omega))) (by decide) (by first | omega | (have := askF_le (eW E h) 41 (pay h + eC E h); omega)) (v := nI (eW E h (askF (eW E h) 41 (pay h + eC E h)))) (ht.1.2.2.2.2.2.1 _ _ (by omega) (by first | omega | (have := ht.2.2.2.2.2.2 h; omega))) ?_
  refine r_imul (pc := 34) (x := (nI (askF (eW E h) 41 (pay h + eC E h))) - (nI (pay h + eC E h))) (z := nI (eW E h (askF (eW E h) 41 (pay h + eC E h)))) dX2_shopWould_34 ?_
  refine r_aload_n (pc := 35) dX2_shopWould_35 rfl ?_
  refine r_aload_n (pc := 36) dX2_shopWould_36 rfl ?_
  refine r_iload_n (pc := 37) dX2_shopWould_37 rfl ?_
  refine r_callV_P (pc := 38) (b := ha) (As := [.ref t, .int (nI h)]) 2 61 dX2_shopWould_38 lk_X2_earnedBy (ml_RX2_61 rfl) im_X2_earnedBy se_X2_earnedBy (by decide) (c2_o hh) (Nat.le_of_ble_eq_true rfl) rfl (earnedByT_ct hh hT hsp ht hv (by omega)) ?_
  refine r_icmp_le (pc := 41) (x := ((nI (askF (eW E h) 41 (pay h + eC E h))) - (nI (pay h + eC E h))) * (nI (eW E h (askF (eW E h) 41 (pay h + eC E h))))) (z := gvF E pay ask h) (tgt := 48) dX2_shopWould_41 (by decide) (fun c41 => ?_) (fun c41 => ?_)
  · skip
    refine r_iconst (pc := 48) (v := 0) dX2_shopWould_48 (by decide) ?_
    refine r_ret_z (pc := 49) dX2_shopWould_49 rfl (by decide) ?_
    exact ⟨congrArg (fun z => some (Value.int z)) (by first | exact bz_t (Int32.not_le.mp c41) | exact bz_f (Int32.not_lt.mpr c41)), rfl⟩
  · skip
    refine r_iconst (pc := 44) (v := 1) dX2_shopWould_44 (by decide) ?_
    refine r_goto (pc := 45) (tgt := 49) dX2_shopWould_45 (by decide) ?_
    refine r_ret_z (pc := 49) dX2_shopWould_49 rfl (by decide) ?_
    exact ⟨congrArg (fun z => some (Value.int z)) (by first | exact bz_t (Int32.not_le.mp c41) | exact bz_f (Int32.not_lt.mpr c41)), rfl⟩

theorem takesAt_e {d : Nat} {I : Im} {G : Gm} {mb : Nat} {E : Ec} {b x a : Nat} (hM : isC5 G mb) (hV : MkV I mb E) (hE : SrC E) (hb : eS E b = some a) (hx : x ≤ 1000) : Ct (d + 2) 0 0 YX5_takesAt [.ref mb, .int (nI b), .int (nI x)] (I, G) (qP (mk E rwF b (rwF (x + eC E b))).1 (I, G)) := by
  have h1 := hE.2 b a hb
  have h8 := hE.1
  have g := takesAt_ct (d := d) hM hV.1 (b := b) (x := x) h1.2 (by omega) hx
  rw [((hV.2.1 b (Nat.zero_le _) h1.2 (rwF (x + eC E b)) (rwF_mono (by omega)) (by unfold lrF; rw [hb, if_neg (by simp)]; exact rwF_le _))).1] at g
  exact g

set_option maxRecDepth 100000 in
theorem priceWould_ct {d : Nat} {I : Im} {G : Gm} {ha t : Nat} {E : Ec} {pay ask : Nat → Nat} (hh : isC2 G ha) (hT : isC8 G t) (hsp : ha + 2 ≤ t ∨ t + 18 ≤ ha) (ht : HtC I t E pay ask) (hv : ∀ x, x < eN E → I (ha + 1) x = ttF E ask x) {mb : Nat} (hM : isC5 G mb) (hV : MkV I mb E) {h b : Nat} (hbs : eS E b = some h) : Ct (d + 3) 0 0 YX2_priceWould [.ref ha, .ref t, .ref mb, .int (nI h), .int (nI b)] (I, G) (qP (bz (anB (pwF E rwF pay ask h b) 42 = true)) (I, G)) := by
  refine Ct.of (by decide) (by simp [Value.category]) (Nat.le_of_ble_eq_true rfl) ?_
  have hE : SrC E := ⟨ht.1.2.1, ht.1.2.2.2.1⟩
  have hn8 := hE.1
  have hbl := hE.2 b h hbs
  show wp _ _ _ _ 0 [some (.ref ha), some (.ref t), some (.ref mb), some (.int (nI h)), some (.int (nI b)), none, none] [] _ _
  refine r_aload_n (pc := 0) dX2_priceWould_0 rfl ?_
  refine r_aload_n (pc := 1) dX2_priceWould_1 rfl ?_
  refine r_iload_n (pc := 2) dX2_priceWould_2 rfl ?_
  refine r_callV_P (pc := 3) (b := ha) (As := [.ref t, .int (nI h)]) 2 35 dX2_priceWould_3 lk_X2_spentBy (ml_RX2_35 rfl) im_X2_spentBy se_X2_spentBy (by decide) (c2_o hh) (Nat.le_of_ble_eq_true rfl) rfl (spentBy_ct hh hT hsp ht (by omega)) ?_
  refine r_istore (pc := 6) (L' := [some (.ref ha), some (.ref t), some (.ref mb), some (.int (nI h)), some (.int (nI b)), some (.int (nI (pay h + eC E h))), none]) dX2_priceWould_6 (by decide) rfl rfl ?_
  refine r_iconst (pc := 8) (v := 0) dX2_priceWould_8 (by decide) ?_
  refine r_istore (pc := 9) (L' := [some (.ref ha), some (.ref t), some (.ref mb), some (.int (nI h)), some (.int (nI b)), some (.int (nI (pay h + eC E h))), some (.int (nI 0))]) dX2_priceWould_9 (by decide) rfl rfl ?_
  have lp11 : ∀ (n11 : Nat), ∀ (x : Nat), 42 - x = n11 → (x ≤ 42) → (∀ y, y < x → ¬ pwF E rwF pay ask h b y = true) → wp (d + 3) 0 0 YX2_priceWould 11 [some (.ref ha), some (.ref t), some (.ref mb), some (.int (nI h)), some (.int (nI b)), some (.int (nI (pay h + eC E h))), some (.int (nI x))] [] (I, G) (qP (bz (anB (pwF E rwF pay ask h b) 42 = true)) (I, G)) := by
    intro n11
    induction n11 using Nat.strongRecOn with
    | ind n11 ih11 =>
      intro x hmu11 hx hn
      refine r_iload (pc := 11) dX2_priceWould_11 rfl ?_
      refine r_bipush (pc := 13) (v := 41) dX2_priceWould_13 (by decide) ?_
      refine r_icmp_gt_n (pc := 15) (a := x) (b := 41) (tgt := 63) dX2_priceWould_15 (by decide) (by have := ht.2.2.2.2.2.1 b; omega) (by have := ht.2.2.2.2.2.1 b; omega) (fun c15 => ?_) (fun c15 => ?_)
      · skip
        refine r_iconst (pc := 63) (v := 0) dX2_priceWould_63 (by decide) ?_
        refine r_ret_z (pc := 64) dX2_priceWould_64 rfl (by decide) ?_
        exact ⟨congrArg (fun z => some (Value.int z)) (bz_f (fun z => by obtain ⟨y, hy, e⟩ := (anB_iff 42).mp z; exact hn y (by omega) e)), rfl⟩
      · skip
        refine r_iload (pc := 18) dX2_priceWould_18 rfl ?_
        refine r_aload_n (pc := 20) dX2_priceWould_20 rfl ?_
        refine r_get1 (pc := 21) 8 8 43 dX2_priceWould_21 (fl_RX2_43 rfl) (by decide) rfl (c8_o hT) (c8_p8 hT) ?_
        refine r_iload (pc := 24) dX2_priceWould_24 rfl ?_
        refine r_iald_n (pc := 26) (i := b) dX2_priceWould_26 (c8_a8 hT) (by decide) (by omega) (v := nI (pay b)) (ht.2.2.2.1 _ (by omega)) ?_
        refine r_icmp_eq_n (pc := 27) (a := x) (b := pay b) (tgt := 57) dX2_priceWould_27 (by decide) (by have := ht.2.2.2.2.2.1 b; omega) (by have := ht.2.2.2.2.2.1 b; omega) (fun c27 => ?_) (fun c27 => ?_)
        · skip
          have hcase : ¬ pwF E rwF pay ask h b x = true := fun z => (of_decide_eq_true z).1 c27
          refine r_iinc (pc := 57) (v := nI (x + 1)) (L' := [some (.ref ha), some (.ref t), some (.ref mb), some (.int (nI h)), some (.int (nI b)), some (.int (nI (pay h + eC E h))), some (.int (nI (x + 1)))]) dX2_priceWould_57 rfl (nI_inc _) (by decide) rfl rfl ?_
          refine r_goto (pc := 60) (tgt := 11) dX2_priceWould_60 (by decide) ?_
          exact ih11 _ (by omega) (x + 1) rfl (by omega) (by exact fun y hy => (Nat.lt_or_ge y x).elim (hn y) (fun g => by obtain rfl : y = x := (by omega); exact hcase))
        · skip
          refine r_iload (pc := 30) dX2_priceWould_30 rfl ?_
          refine r_iload (pc := 32) dX2_priceWould_32 rfl ?_
          refine r_isub (pc := 34) (x := nI x) (z := nI (pay h + eC E h)) dX2_priceWould_34 ?_
          refine r_aload_n (pc := 35) dX2_priceWould_35 rfl ?_
          refine r_iload (pc := 36) dX2_priceWould_36 rfl ?_
          refine r_iload (pc := 38) dX2_priceWould_38 rfl ?_
          refine r_callV_P (pc := 40) (b := mb) (As := [.int (nI b), .int (nI x)]) 5 68 dX2_priceWould_40 lk_X5_takesAt (ml_RX2_68 rfl) im_X5_takesAt se_X5_takesAt (by decide) (c5_o hM) (Nat.le_of_ble_eq_true rfl) rfl (takesAt_e hM hV hE hbs (by omega)) ?_
          refine r_imul (pc := 43) (x := (nI x) - (nI (pay h + eC E h))) (z := (mk E rwF b (rwF (x + eC E b))).1) dX2_priceWould_43 ?_
          refine r_aload_n (pc := 44) dX2_priceWould_44 rfl ?_
          refine r_aload_n (pc := 45) dX2_priceWould_45 rfl ?_
          refine r_iload_n (pc := 46) dX2_priceWould_46 rfl ?_
          refine r_iload (pc := 47) dX2_priceWould_47 rfl ?_
          refine r_callV_P (pc := 49) (b := ha) (As := [.ref t, .int (nI h), .int (nI b)]) 2 39 dX2_priceWould_49 lk_X2_earnedFrom (ml_RX2_39 rfl) im_X2_earnedFrom se_X2_earnedFrom (by decide) (c2_o hh) (Nat.le_of_ble_eq_true rfl) rfl (earnedFrom_ct hh hT hsp ht hv (by omega) (by omega)) ?_
          refine r_icmp_le (pc := 52) (x := ((nI x) - (nI (pay h + eC E h))) * ((mk E rwF b (rwF (x + eC E b))).1)) (z := efF E pay ask h b) (tgt := 57) dX2_priceWould_52 (by decide) (fun c52 => ?_) (fun c52 => ?_)
          · skip
            have hcase : ¬ pwF E rwF pay ask h b x = true := fun z => absurd c52 (Int32.not_le.mpr (of_decide_eq_true z).2)
            refine r_iinc (pc := 57) (v := nI (x + 1)) (L' := [some (.ref ha), some (.ref t), some (.ref mb), some (.int (nI h)), some (.int (nI b)), some (.int (nI (pay h + eC E h))), some (.int (nI (x + 1)))]) dX2_priceWould_57 rfl (nI_inc _) (by decide) rfl rfl ?_
            refine r_goto (pc := 60) (tgt := 11) dX2_priceWould_60 (by decide) ?_
            exact ih11 _ (by omega) (x + 1) rfl (by omega) (by exact fun y hy => (Nat.lt_or_ge y x).elim (hn y) (fun g => by obtain rfl : y = x := (by omega); exact hcase))
          · skip
            refine r_iconst (pc := 55) (v := 1) dX2_priceWould_55 (by decide) ?_
            refine r_ret_z (pc := 56) dX2_priceWould_56 rfl (by decide) ?_
            exact ⟨congrArg (fun z => some (Value.int z)) (bz_t ((anB_iff 42).mpr ⟨x, by omega, decide_eq_true ⟨c27, Int32.not_le.mp c52⟩⟩)), rfl⟩
  exact lp11 _ 0 rfl (by omega) (by exact fun y hy => absurd hy (Nat.not_lt_zero _))

set_option maxRecDepth 100000 in
theorem anyPriceWould_ct {d : Nat} {I : Im} {G : Gm} {ha t : Nat} {E : Ec} {pay ask : Nat → Nat} (hh : isC2 G ha) (hT : isC8 G t) (hsp : ha + 2 ≤ t ∨ t + 18 ≤ ha) (ht : HtC I t E pay ask) (hv : ∀ x, x < eN E → I (ha + 1) x = ttF E ask x) {mb : Nat} (hM : isC5 G mb) (hV : MkV I mb E) {h : Nat} (hl : h < eN E) : Ct (d + 4) 0 0 YX2_anyPriceWould [.ref ha, .ref t, .ref mb, .int (nI h)] (I, G) (qP (bz (anB (fun b => decide (eS E b = some h) && anB (pwF E rwF pay ask h b) 42) (eN E) = true)) (I, G)) := by
  refine Ct.of (by decide) (by simp [Value.category]) (Nat.le_of_ble_eq_true rfl) ?_
  have hE : SrC E := ⟨ht.1.2.1, ht.1.2.2.2.1⟩
  have hn8 := hE.1
  show wp _ _ _ _ 0 [some (.ref ha), some (.ref t), some (.ref mb), some (.int (nI h)), none] [] _ _
  refine r_iload_n (pc := 0) dX2_anyPriceWould_0 rfl ?_
  refine r_iconst (pc := 1) (v := 1) dX2_anyPriceWould_1 (by decide) ?_
  refine r_iadd_n (pc := 2) (a := h) (b := 1) dX2_anyPriceWould_2 ?_
  refine r_istore (pc := 3) (L' := [some (.ref ha), some (.ref t), some (.ref mb), some (.int (nI h)), some (.int (nI (h + 1)))]) dX2_anyPriceWould_3 (by decide) rfl rfl ?_
  have lp5 : ∀ (n5 : Nat), ∀ (b : Nat), eN E - b = n5 → (h + 1 ≤ b ∧ b ≤ eN E) → (∀ y, y < b → ¬ (fun b => decide (eS E b = some h) && anB (pwF E rwF pay ask h b) 42) y = true) → wp (d + 4) 0 0 YX2_anyPriceWould 5 [some (.ref ha), some (.ref t), some (.ref mb), some (.int (nI h)), some (.int (nI b))] [] (I, G) (qP (bz (anB (fun b => decide (eS E b = some h) && anB (pwF E rwF pay ask h b) 42) (eN E) = true)) (I, G)) := by
    intro n5
    induction n5 using Nat.strongRecOn with
    | ind n5 ih5 =>
      intro b hmu5 hb hn
      refine r_iload (pc := 5) dX2_anyPriceWould_5 rfl ?_
      refine r_aload_n (pc := 7) dX2_anyPriceWould_7 rfl ?_
      refine r_getIv (pc := 8) 8 0 15 dX2_anyPriceWould_8 (fl_RX2_15 rfl) (by decide) rfl (c8_o hT) (v := nI (eN E)) (ht.1.1) ?_
      refine r_icmp_ge_n (pc := 11) (a := b) (b := eN E) (tgt := 45) dX2_anyPriceWould_11 (by decide) (by omega) (by omega) (fun c11 => ?_) (fun c11 => ?_)
      · skip
        refine r_iconst (pc := 45) (v := 0) dX2_anyPriceWould_45 (by decide) ?_
        refine r_ret_z (pc := 46) dX2_anyPriceWould_46 rfl (by decide) ?_
        exact ⟨congrArg (fun z => some (Value.int z)) (bz_f (fun z => by obtain ⟨y, hy, e⟩ := (anB_iff _).mp z; exact hn y (by omega) e)), rfl⟩
      · skip
        refine r_aload_n (pc := 14) dX2_anyPriceWould_14 rfl ?_
        refine r_get1 (pc := 15) 8 3 32 dX2_anyPriceWould_15 (fl_RX2_32 rfl) (by decide) rfl (c8_o hT) (c8_p3 hT) ?_
        refine r_iload (pc := 18) dX2_anyPriceWould_18 rfl ?_
        refine r_iald_n (pc := 20) (i := b) dX2_anyPriceWould_20 (c8_a3 hT) (by decide) (by omega) (v := sI (eS E b)) (ht.1.2.2.1 _ (by omega)) ?_
        refine r_iload_n (pc := 21) dX2_anyPriceWould_21 rfl ?_
        refine r_icmp_ne (pc := 22) (x := sI (eS E b)) (z := nI h) (tgt := 39) dX2_anyPriceWould_22 (by decide) (fun c22 => ?_) (fun c22 => ?_)
        · skip
          have hcase : ¬ (fun b => decide (eS E b = some h) && anB (pwF E rwF pay ask h b) 42) b = true := fun z => c22 ((sI_eq (by omega) (ht.1.lt b)).mpr (of_decide_eq_true (Bool.and_eq_true_iff.mp z).1))
          refine r_iinc (pc := 39) (v := nI (b + 1)) (L' := [some (.ref ha), some (.ref t), some (.ref mb), some (.int (nI h)), some (.int (nI (b + 1)))]) dX2_anyPriceWould_39 rfl (nI_inc _) (by decide) rfl rfl ?_
          refine r_goto (pc := 42) (tgt := 5) dX2_anyPriceWould_42 (by decide) ?_
          exact ih5 _ (by omega) (b + 1) rfl (by omega) (by exact fun y hy => (Nat.lt_or_ge y b).elim (hn y) (fun g => by obtain rfl : y = b := (by omega); exact hcase))
        · skip
          refine r_aload_n (pc := 25) dX2_anyPriceWould_25 rfl ?_
          refine r_aload_n (pc := 26) dX2_anyPriceWould_26 rfl ?_
          refine r_aload_n (pc := 27) dX2_anyPriceWould_27 rfl ?_
          refine r_iload_n (pc := 28) dX2_anyPriceWould_28 rfl ?_
          refine r_iload (pc := 29) dX2_anyPriceWould_29 rfl ?_
          refine r_callV_P (pc := 31) (b := ha) (As := [.ref t, .ref mb, .int (nI h), .int (nI b)]) 2 64 dX2_anyPriceWould_31 lk_X2_priceWould (ml_RX2_64 rfl) im_X2_priceWould se_X2_priceWould (by decide) (c2_o hh) (Nat.le_of_ble_eq_true rfl) rfl (priceWould_ct hh hT hsp ht hv hM hV ((sI_eq (by omega) (ht.1.lt b)).mp c22)) ?_
          refine r_if_eq_b (pc := 34) (tgt := 39) dX2_anyPriceWould_34 (by decide) (fun c34 => ?_) (fun c34 => ?_)
          · skip
            have hcase : ¬ (fun b => decide (eS E b = some h) && anB (pwF E rwF pay ask h b) 42) b = true := fun z => c34 (Bool.and_eq_true_iff.mp z).2
            refine r_iinc (pc := 39) (v := nI (b + 1)) (L' := [some (.ref ha), some (.ref t), some (.ref mb), some (.int (nI h)), some (.int (nI (b + 1)))]) dX2_anyPriceWould_39 rfl (nI_inc _) (by decide) rfl rfl ?_
            refine r_goto (pc := 42) (tgt := 5) dX2_anyPriceWould_42 (by decide) ?_
            exact ih5 _ (by omega) (b + 1) rfl (by omega) (by exact fun y hy => (Nat.lt_or_ge y b).elim (hn y) (fun g => by obtain rfl : y = b := (by omega); exact hcase))
          · skip
            refine r_iconst (pc := 37) (v := 1) dX2_anyPriceWould_37 (by decide) ?_
            refine r_ret_z (pc := 38) dX2_anyPriceWould_38 rfl (by decide) ?_
            exact ⟨congrArg (fun z => some (Value.int z)) (bz_t ((anB_iff _).mpr ⟨b, by omega, Bool.and_eq_true_iff.mpr ⟨decide_eq_true ((sI_eq (by omega) (ht.1.lt b)).mp c22), c34⟩⟩)), rfl⟩
  exact lp5 _ (h + 1) rfl (by omega) (by exact fun y hy z => by have h1 := of_decide_eq_true (Bool.and_eq_true_iff.mp z).1; have := hE.2 y h h1; omega)

theorem ask_max {w : Nat → Nat} {u : Nat} (h41 : w 41 = 0) : ∀ p, p < 42 → (nI p - nI u) * nI (w p) ≤ (nI (askF w 41 u) - nI u) * nI (w (askF w 41 u)) := by
  intro p hp
  have hB := (bdn_B (g := fun p => (nI p - nI u) * nI (w p)) (ok := fun p => decide (p ≤ 41 ∨ p = 41)) (by simp) (by simp only [h41]; exact Int32.mul_zero) 41 (by omega)).1
  exact hB.2.2.2.1 p (by omega) (by omega) (by simp; omega)
theorem we_shop {E : Ec} {q : Nat → Nat} {pay ask : Nat → Nat} {h : Nat} (h41 : eW E h 41 = 0) (hz : cnt (eS E) h (eN E) = 0) : weF E q pay ask h = true ↔ gvF E pay ask h < (nI (askF (eW E h) 41 (pay h + eC E h)) - nI (pay h + eC E h)) * nI (eW E h (askF (eW E h) 41 (pay h + eC E h))) := by
  unfold weF gvF
  rw [if_pos hz, if_pos hz, anB_iff]
  constructor
  · rintro ⟨p, hp, e⟩
    exact Int32.lt_of_lt_of_le (of_decide_eq_true e) (ask_max h41 p hp)
  · intro z
    exact ⟨askF (eW E h) 41 (pay h + eC E h), by have := askF_le (eW E h) 41 (pay h + eC E h); omega, decide_eq_true z⟩
theorem we_else {E : Ec} {q : Nat → Nat} {pay ask : Nat → Nat} {h : Nat} (hz : ¬ cnt (eS E) h (eN E) = 0) : weF E q pay ask h = anB (fun b => decide (eS E b = some h) && anB (pwF E q pay ask h b) 42) (eN E) := if_neg hz

set_option maxRecDepth 100000 in
theorem wouldDiffer_ct {d : Nat} {I : Im} {G : Gm} {ha t : Nat} {E : Ec} {pay ask : Nat → Nat} (hh : isC2 G ha) (hT : isC8 G t) (hsp : ha + 2 ≤ t ∨ t + 18 ≤ ha) (ht : HtC I t E pay ask) (hv : ∀ x, x < eN E → I (ha + 1) x = ttF E ask x) {mb : Nat} (hM : isC5 G mb) (hV : MkV I mb E) (h41 : ∀ h, eW E h 41 = 0) : Ct (d + 5) 0 0 YX2_wouldDiffer [.ref ha, .ref t, .ref mb] (I, G) (qP (orF (weF E rwF pay ask) (eN E)) (I, G)) := by
  refine Ct.of (by decide) (by simp [Value.category]) (Nat.le_of_ble_eq_true rfl) ?_
  have hE : SrC E := ⟨ht.1.2.1, ht.1.2.2.2.1⟩
  have hn8 := hE.1
  show wp _ _ _ _ 0 [some (.ref ha), some (.ref t), some (.ref mb), none, none] [] _ _
  refine r_iconst (pc := 0) (v := 0) dX2_wouldDiffer_0 (by decide) ?_
  refine r_istore_n (pc := 1) (L' := [some (.ref ha), some (.ref t), some (.ref mb), some (.int (nI 0)), none]) dX2_wouldDiffer_1 (by decide) rfl rfl ?_
  refine r_iconst (pc := 2) (v := 0) dX2_wouldDiffer_2 (by decide) ?_
  refine r_istore (pc := 3) (L' := [some (.ref ha), some (.ref t), some (.ref mb), some (.int (nI 0)), some (.int (nI 0))]) dX2_wouldDiffer_3 (by decide) rfl rfl ?_
  have lp5 : ∀ (n5 : Nat), ∀ (h : Nat) (bi : Int32), eN E - h = n5 → (h ≤ eN E) → (bi = orF (weF E rwF pay ask) h) → wp (d + 5) 0 0 YX2_wouldDiffer 5 [some (.ref ha), some (.ref t), some (.ref mb), some (.int bi), some (.int (nI h))] [] (I, G) (qP (orF (weF E rwF pay ask) (eN E)) (I, G)) := by
    intro n5
    induction n5 using Nat.strongRecOn with
    | ind n5 ih5 =>
      intro h bi hmu5 hn hbi
      refine r_iload (pc := 5) dX2_wouldDiffer_5 rfl ?_
      refine r_aload_n (pc := 7) dX2_wouldDiffer_7 rfl ?_
      refine r_getIv (pc := 8) 8 0 15 dX2_wouldDiffer_8 (fl_RX2_15 rfl) (by decide) rfl (c8_o hT) (v := nI (eN E)) (ht.1.1) ?_
      refine r_icmp_ge_n (pc := 11) (a := h) (b := eN E) (tgt := 60) dX2_wouldDiffer_11 (by decide) (by omega) (by omega) (fun c11 => ?_) (fun c11 => ?_)
      · skip
        refine r_iload_n (pc := 60) dX2_wouldDiffer_60 rfl ?_
        refine r_ret_i (pc := 61) dX2_wouldDiffer_61 rfl ?_
        exact ⟨by rw [hbi, show h = eN E by omega], rfl⟩
      · skip
        refine r_aload_n (pc := 14) dX2_wouldDiffer_14 rfl ?_
        refine r_iload (pc := 15) dX2_wouldDiffer_15 rfl ?_
        refine r_callV_P (pc := 17) (b := t) (As := [.int (nI h)]) 8 21 dX2_wouldDiffer_17 lk_X8_isShop (ml_RX2_21 rfl) im_X8_isShop se_X8_isShop (by decide) (c8_o hT) (Nat.le_of_ble_eq_true rfl) rfl (isShop_e hT ht.1 (by omega)) ?_
        refine r_if_eq_b (pc := 20) (tgt := 36) dX2_wouldDiffer_20 (by decide) (fun c20 => ?_) (fun c20 => ?_)
        · skip
          refine r_aload_n (pc := 36) dX2_wouldDiffer_36 rfl ?_
          refine r_aload_n (pc := 37) dX2_wouldDiffer_37 rfl ?_
          refine r_aload_n (pc := 38) dX2_wouldDiffer_38 rfl ?_
          refine r_iload (pc := 39) dX2_wouldDiffer_39 rfl ?_
          refine r_callV_P (pc := 41) (b := ha) (As := [.ref t, .ref mb, .int (nI h)]) 2 53 dX2_wouldDiffer_41 lk_X2_anyPriceWould (ml_RX2_53 rfl) im_X2_anyPriceWould se_X2_anyPriceWould (by decide) (c2_o hh) (Nat.le_of_ble_eq_true rfl) rfl (anyPriceWould_ct hh hT hsp ht hv hM hV (by omega)) ?_
          refine r_if_eq_b (pc := 44) (tgt := 54) dX2_wouldDiffer_44 (by decide) (fun c44 => ?_) (fun c44 => ?_)
          · skip
            have hcase : ¬ weF E rwF pay ask h = true := fun z => c44 ((we_else c20) ▸ z)
            refine r_iinc (pc := 54) (v := nI (h + 1)) (L' := [some (.ref ha), some (.ref t), some (.ref mb), some (.int bi), some (.int (nI (h + 1)))]) dX2_wouldDiffer_54 rfl (nI_inc _) (by decide) rfl rfl ?_
            refine r_goto (pc := 57) (tgt := 5) dX2_wouldDiffer_57 (by decide) ?_
            exact ih5 _ (by omega) (h + 1) bi rfl (by omega) (by rw [hbi]; first | exact (if_pos hcase).symm | exact (if_neg hcase).symm)
          · skip
            have hcase : weF E rwF pay ask h = true := (we_else c20).trans c44
            refine r_iload_n (pc := 47) dX2_wouldDiffer_47 rfl ?_
            refine r_iconst (pc := 48) (v := 1) dX2_wouldDiffer_48 (by decide) ?_
            refine r_iload (pc := 49) dX2_wouldDiffer_49 rfl ?_
            refine r_ishl (pc := 51) (x := 1) (z := nI h) dX2_wouldDiffer_51 ?_
            refine r_ior (pc := 52) (x := bi) (z := 1 <<< ((nI h) &&& 31)) dX2_wouldDiffer_52 ?_
            refine r_istore_n (pc := 53) (L' := [some (.ref ha), some (.ref t), some (.ref mb), some (.int (bi ||| (1 <<< ((nI h) &&& 31)))), some (.int (nI h))]) dX2_wouldDiffer_53 (by decide) rfl rfl ?_
            refine r_iinc (pc := 54) (v := nI (h + 1)) (L' := [some (.ref ha), some (.ref t), some (.ref mb), some (.int (bi ||| (1 <<< ((nI h) &&& 31)))), some (.int (nI (h + 1)))]) dX2_wouldDiffer_54 rfl (nI_inc _) (by decide) rfl rfl ?_
            refine r_goto (pc := 57) (tgt := 5) dX2_wouldDiffer_57 (by decide) ?_
            exact ih5 _ (by omega) (h + 1) (bi ||| (1 <<< ((nI h) &&& 31))) rfl (by omega) (by rw [hbi]; first | exact (if_pos hcase).symm | exact (if_neg hcase).symm)
        · skip
          refine r_aload_n (pc := 23) dX2_wouldDiffer_23 rfl ?_
          refine r_aload_n (pc := 24) dX2_wouldDiffer_24 rfl ?_
          refine r_iload (pc := 25) dX2_wouldDiffer_25 rfl ?_
          refine r_callV_P (pc := 27) (b := ha) (As := [.ref t, .int (nI h)]) 2 49 dX2_wouldDiffer_27 lk_X2_shopWould (ml_RX2_49 rfl) im_X2_shopWould se_X2_shopWould (by decide) (c2_o hh) (Nat.le_of_ble_eq_true rfl) rfl (shopWould_ct hh hT hsp ht hv (by omega)) ?_
          refine r_if_eq_b (pc := 30) (tgt := 54) dX2_wouldDiffer_30 (by decide) (fun c30 => ?_) (fun c30 => ?_)
          · skip
            have hcase : ¬ weF E rwF pay ask h = true := fun z => c30 ((we_shop (h41 h) c20).mp z)
            refine r_iinc (pc := 54) (v := nI (h + 1)) (L' := [some (.ref ha), some (.ref t), some (.ref mb), some (.int bi), some (.int (nI (h + 1)))]) dX2_wouldDiffer_54 rfl (nI_inc _) (by decide) rfl rfl ?_
            refine r_goto (pc := 57) (tgt := 5) dX2_wouldDiffer_57 (by decide) ?_
            exact ih5 _ (by omega) (h + 1) bi rfl (by omega) (by rw [hbi]; first | exact (if_pos hcase).symm | exact (if_neg hcase).symm)
          · skip
            have hcase : weF E rwF pay ask h = true := (we_shop (h41 h) c20).mpr c30
            refine r_goto (pc := 33) (tgt := 47) dX2_wouldDiffer_33 (by decide) ?_
            refine r_iload_n (pc := 47) dX2_wouldDiffer_47 rfl ?_
            refine r_iconst (pc := 48) (v := 1) dX2_wouldDiffer_48 (by decide) ?_
            refine r_iload (pc := 49) dX2_wouldDiffer_49 rfl ?_
            refine r_ishl (pc := 51) (x := 1) (z := nI h) dX2_wouldDiffer_51 ?_
            refine r_ior (pc := 52) (x := bi) (z := 1 <<< ((nI h) &&& 31)) dX2_wouldDiffer_52 ?_
            refine r_istore_n (pc := 53) (L' := [some (.ref ha), some (.ref t), some (.ref mb), some (.int (bi ||| (1 <<< ((nI h) &&& 31)))), some (.int (nI h))]) dX2_wouldDiffer_53 (by decide) rfl rfl ?_
            refine r_iinc (pc := 54) (v := nI (h + 1)) (L' := [some (.ref ha), some (.ref t), some (.ref mb), some (.int (bi ||| (1 <<< ((nI h) &&& 31)))), some (.int (nI (h + 1)))]) dX2_wouldDiffer_54 rfl (nI_inc _) (by decide) rfl rfl ?_
            refine r_goto (pc := 57) (tgt := 5) dX2_wouldDiffer_57 (by decide) ?_
            exact ih5 _ (by omega) (h + 1) (bi ||| (1 <<< ((nI h) &&& 31))) rfl (by omega) (by rw [hbi]; first | exact (if_pos hcase).symm | exact (if_neg hcase).symm)
  exact lp5 _ 0 0 rfl (by omega) (by rfl)
