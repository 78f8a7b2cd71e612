/-! ===== settle ===== -/

abbrev mE (n : Nat) (c0 : Nat → Nat) (s : Nat → Option Nat) (w : Nat → Nat → Nat) (I : Im) (a : Nat) : Ec := mkE n c0 s w (I a)
/-- the trade's text: its costs (its houses, sources and wants: TrC) -/
def CoC (I : Im) (t : Nat) (c0 : Nat → Nat) : Prop := (∀ h, h < 8 → I (t + 1) h = nI (c0 h)) ∧ ∀ h, c0 h ≤ 30
def SeQ (I : Im) (G : Gm) (mb t wd n : Nat) (c0 : Nat → Nat) (s : Nat → Option Nat) (w : Nat → Nat → Nat) (M : Mm) : Prop := ∃ I2 : Im, M = (I2, sG G mb t) ∧ MkV I2 mb (mkE n c0 s w (I wd)) ∧ (∀ k, k < 6 → I2 (mb + 1) k = I wd k) ∧ ∀ a k, ¬ (mb ≤ a ∧ a < mb + 44) → I2 a k = I a k

theorem tm_six {I : Im} {a b : Nat} (h : I a 0 = I b 0 ∧ (I a 1 = I b 1 ∧ I a 2 = I b 2 ∧ I a 3 = I b 3 ∧ I a 4 = I b 4 ∧ I a 5 = I b 5)) : ∀ k, k < 6 → I a k = I b k := by
  intro k hk
  match k, hk with
  | 0, _ => exact h.1
  | 1, _ => exact h.2.1
  | 2, _ => exact h.2.2.1
  | 3, _ => exact h.2.2.2.1
  | 4, _ => exact h.2.2.2.2.1
  | 5, _ => exact h.2.2.2.2.2
theorem st_sv {P : Prop} [Decidable P] {l n : Nat} : (if P then nI l - 1 - 1 else nI n - 1) = nI (if P then l - 1 else n) - 1 ∨ ((if P then l - 1 else n) = 0 ∧ (if P then nI l - 1 - 1 else nI n - 1) = nI 0 - 1 - 1) := by
  by_cases h : P
  · rw [if_pos h, if_pos h]
    cases l with
    | zero => exact Or.inr ⟨rfl, rfl⟩
    | succ l => exact Or.inl (by rw [nI_pred, Nat.add_sub_cancel])
  · rw [if_neg h, if_neg h]
    exact Or.inl rfl
theorem st_tb {I : Im} {mb wd n : Nat} {c0 : Nat → Nat} {s : Nat → Option Nat} {w : Nat → Nat → Nat} (hE : SrC (mkE n c0 s w (I wd))) (h : (I (mb + 1) 1 = I wd 1 ∧ I (mb + 1) 2 = I wd 2 ∧ I (mb + 1) 3 = I wd 3 ∧ I (mb + 1) 4 = I wd 4 ∧ I (mb + 1) 5 = I wd 5)) (hv : MkV I mb (mkE n c0 s w (I (mb + 1)))) : TbV I mb (mkE n c0 s w (I wd)) (lsF (I (mb + 1) 0) (I wd 0) n - 1) := by
  rw [mkE_j h]
  refine TbV.j (fun b a z => (hE.2 b a z).1) hE.1 hv.2.1 (fun b hb z => ?_)
  obtain ⟨a, ha⟩ := z
  have := (hE.2 b a ha).2
  exact lsF_same n b (show lsF (I (mb + 1) 0) (I wd 0) n ≤ b by omega) this

set_option maxRecDepth 100000 in
theorem settle_ct {d : Nat} {I : Im} {G : Gm} {mb t wd n : Nat} {c0 : Nat → Nat} {s : Nat → Option Nat} {w : Nat → Nat → Nat} (hM : isC5 G mb) (hT : isC8 G t) (hW : isC7 G wd) (hsp : mb + 44 ≤ t ∨ t + 18 ≤ mb) (hwd : wd < mb ∨ mb + 44 ≤ wd) (hτ : TmOK (I wd)) (ht0 : TrC I t (mkE n c0 s w (I wd))) (hco : CoC I t c0) (hold : G.1 mb 0 = some t → TmOK (I (mb + 1)) ∧ MkV I mb (mkE n c0 s w (I (mb + 1)))) : Ct (d + 5) 0 0 YX5_settle [.ref mb, .ref t, .ref wd] (I, G) (qU (SeQ I G mb t wd n c0 s w)) := by
  refine Ct.of (by decide) (by simp [Value.category]) (Nat.le_of_ble_eq_true rfl) ?_
  have hE : SrC (mkE n c0 s w (I wd)) := ⟨ht0.2.1, ht0.2.2.2.1⟩
  have hn8 : n ≤ 8 := ht0.2.1
  have ht : TrC I t (mE n c0 s w I wd) := ht0
  obtain ⟨dv, hdvd⟩ : ∃ z : Nat, z = (I wd 5).toNatClampNeg := ⟨_, rfl⟩
  have hdv : I wd 5 = nI dv := by rw [hdvd]; exact hτ.2.2.2.1
  have hdl : dv ≤ 30 := by rw [hdvd]; exact hτ.2.2.2.2
  have hcl := hco.2
  show wp _ _ _ _ 0 [some (.ref mb), some (.ref t), some (.ref wd), none, none, none, none] [] _ _
  have k20 : (¬ (G.1 mb 0 = some t ∧ I (mb + 1) 0 = I wd 0 ∧ (I (mb + 1) 1 = I wd 1 ∧ I (mb + 1) 2 = I wd 2 ∧ I (mb + 1) 3 = I wd 3 ∧ I (mb + 1) 4 = I wd 4 ∧ I (mb + 1) 5 = I wd 5))) → wp (d + 5) 0 0 YX5_settle 20 [some (.ref mb), some (.ref t), some (.ref wd), none, none, none, none] [] (I, G) (qU (SeQ I G mb t wd n c0 s w)) := by
    intro  hns
    have k27 : ∀ (q : Nat) (sv : Int32), (q ≤ n) → (sv = nI q - 1 ∨ (q = 0 ∧ sv = nI 0 - 1 - 1)) → (TbV I mb (mE n c0 s w I wd) q) → wp (d + 5) 0 0 YX5_settle 27 [some (.ref mb), some (.ref t), some (.ref wd), some (.int sv), none, none, none] [] (I, G) (qU (SeQ I G mb t wd n c0 s w)) := by
      intro q sv hq hsv hTq
      refine r_aload_n (pc := 27) dX5_settle_27 rfl ?_
      refine r_aload_n (pc := 28) dX5_settle_28 rfl ?_
      refine r_put1 (pc := 29) 5 0 9 dX5_settle_29 (fl_RX5_9 rfl) (by decide) rfl rfl (c5_o hM) ?_
      obtain ⟨G2, hG2⟩ : ∃ z : Gm, z = sG G mb t := ⟨_, rfl⟩
      refine wp_M (M2 := (I, G2)) (by subst hG2; rfl) ?_
      have hge : Geq G G2 := by rw [hG2]; exact sG_eq hM
      have hM := isC5_geq hge hM
      have hT := isC8_geq hge hT
      have hW := isC7_geq hge hW
      refine r_aload_n (pc := 32) dX5_settle_32 rfl ?_
      refine r_get1 (pc := 33) 5 1 18 dX5_settle_33 (fl_RX5_18 rfl) (by decide) rfl (c5_o hM) (c5_p1 hM) ?_
      refine r_aload_n (pc := 36) dX5_settle_36 rfl ?_
      refine r_callV_V (pc := 37) (b := mb + 1) (As := [.ref wd]) 7 63 dX5_settle_37 lk_X7_copy (ml_RX5_63 rfl) im_X7_copy se_X7_copy (by decide) (c7_o (c5_s1 hM)) (Nat.le_of_ble_eq_true rfl) rfl (copy_ct (c5_s1 hM) hW (by omega) ⟨hτ.2.1, hτ.2.2.1⟩) (fun Ia hIa => ?_)
      have htIa : TrC Ia t (mE n c0 s w I wd) := ht.keep (fun a k h3 h4 => by rw [hIa]; exact congrFun (setTm_ne (by omega)) k)
      refine r_iconst (pc := 40) (v := 0) dX5_settle_40 (by decide) ?_
      refine r_istore (pc := 41) (L' := [some (.ref mb), some (.ref t), some (.ref wd), some (.int sv), some (.int (nI 0)), none, none]) dX5_settle_41 (by decide) rfl rfl ?_
      have lp43 : ∀ (n43 : Nat), ∀ (h : Nat) (Ib : Im), n - h = n43 → (h ≤ n) → (∀ a k, a ≠ mb + 2 → Ib a k = Ia a k) → (∀ b, b < h → Ib (mb + 2) b = nI (eC (mE n c0 s w I wd) b)) → wp (d + 5) 0 0 YX5_settle 43 [some (.ref mb), some (.ref t), some (.ref wd), some (.int sv), some (.int (nI h)), none, none] [] (Ib, G2) (qU (SeQ I G mb t wd n c0 s w)) := by
        intro n43
        induction n43 using Nat.strongRecOn with
        | ind n43 ih43 =>
          intro h Ib hmu43 hh hIb hcs
          have htIb : TrC Ib t (mE n c0 s w I wd) := htIa.keep (fun a k h3 h4 => hIb a k (by omega))
          have hct : ∀ b, b < 8 → Ib (t + 1) b = nI (c0 b) := fun b hb => by rw [hIb _ _ (by omega), hIa, setTm_ne (by omega)]; exact hco.1 b hb
          have hIbt : ∀ k, k < 6 → Ib (mb + 1) k = I wd k := fun k hk => by rw [hIb _ _ (by omega), hIa]; exact if_pos ⟨rfl, hk⟩
          refine r_iload (pc := 43) dX5_settle_43 rfl ?_
          refine r_aload_n (pc := 45) dX5_settle_45 rfl ?_
          refine r_getIv (pc := 46) 8 0 67 dX5_settle_46 (fl_RX5_67 rfl) (by decide) rfl (c8_o hT) (v := nI n) ((htIb).1) ?_
          refine r_icmp_ge_n (pc := 49) (a := h) (b := n) (tgt := 96) dX5_settle_49 (by decide) (by omega) (by omega) (fun c49 => ?_) (fun c49 => ?_)
          · skip
            have k153 : ∀ (Ic : Im), (MkC Ic mb (mE n c0 s w I wd)) → (TbV Ic mb (mE n c0 s w I wd) 0) → (∀ a k, ¬ (mb ≤ a ∧ a < mb + 44) → Ic a k = I a k) → (∀ k, k < 6 → Ic (mb + 1) k = I wd k) → wp (d + 5) 0 0 YX5_settle 153 [some (.ref mb), some (.ref t), some (.ref wd), none, none, none, none] [] (Ic, G2) (qU (SeQ I G mb t wd n c0 s w)) := by
              intro Ic hkIc hTb hfIc htmIc
              refine r_iconst (pc := 153) (v := 0) dX5_settle_153 (by decide) ?_
              refine r_istore (pc := 154) (L' := [some (.ref mb), some (.ref t), some (.ref wd), none, some (.int (nI 0)), none, none]) dX5_settle_154 (by decide) rfl rfl ?_
              have lp156 : ∀ (n156 : Nat), ∀ (h : Nat) (If : Im), n - h = n156 → (h ≤ n) → (MkC If mb (mE n c0 s w I wd)) → (TbV If mb (mE n c0 s w I wd) 0) → (OcV If mb (mE n c0 s w I wd) h) → (∀ a k, ¬ (mb ≤ a ∧ a < mb + 44) → If a k = I a k) → (∀ k, k < 6 → If (mb + 1) k = I wd k) → wp (d + 5) 0 0 YX5_settle 156 [some (.ref mb), some (.ref t), some (.ref wd), none, some (.int (nI h)), none, none] [] (If, G2) (qU (SeQ I G mb t wd n c0 s w)) := by
                intro n156
                induction n156 using Nat.strongRecOn with
                | ind n156 ih156 =>
                  intro h If hmu156 hh hkIf hTb3 hOc hfIf htmIf
                  have htIf : TrC If t (mE n c0 s w I wd) := ht.keep (fun a k h3 h4 => hfIf a k (by omega))
                  refine r_iload (pc := 156) dX5_settle_156 rfl ?_
                  refine r_aload_n (pc := 158) dX5_settle_158 rfl ?_
                  refine r_getIv (pc := 159) 8 0 67 dX5_settle_159 (fl_RX5_67 rfl) (by decide) rfl (c8_o hT) (v := nI n) ((htIf).1) ?_
                  refine r_icmp_ge_n (pc := 162) (a := h) (b := n) (tgt := 178) dX5_settle_162 (by decide) (by omega) (by omega) (fun c162 => ?_) (fun c162 => ?_)
                  · skip
                    refine r_iconst (pc := 178) (v := 0) dX5_settle_178 (by decide) ?_
                    refine r_istore (pc := 179) (L' := [some (.ref mb), some (.ref t), some (.ref wd), none, some (.int (nI 0)), none, none]) dX5_settle_179 (by decide) rfl rfl ?_
                    have lp181 : ∀ (n181 : Nat), ∀ (h : Nat) (Ig : Im), n - h = n181 → (h ≤ n) → (MkC Ig mb (mE n c0 s w I wd)) → (TbV Ig mb (mE n c0 s w I wd) 0) → (OcV Ig mb (mE n c0 s w I wd) 8) → (ErV Ig mb (mE n c0 s w I wd) h) → (∀ a k, ¬ (mb ≤ a ∧ a < mb + 44) → Ig a k = I a k) → (∀ k, k < 6 → Ig (mb + 1) k = I wd k) → wp (d + 5) 0 0 YX5_settle 181 [some (.ref mb), some (.ref t), some (.ref wd), none, some (.int (nI h)), none, none] [] (Ig, G2) (qU (SeQ I G mb t wd n c0 s w)) := by
                      intro n181
                      induction n181 using Nat.strongRecOn with
                      | ind n181 ih181 =>
                        intro h Ig hmu181 hh2 hkIg hTb4 hOc4 hEr hfIg htmIg
                        have htIg : TrC Ig t (mE n c0 s w I wd) := ht.keep (fun a k h3 h4 => hfIg a k (by omega))
                        refine r_iload (pc := 181) dX5_settle_181 rfl ?_
                        refine r_aload_n (pc := 183) dX5_settle_183 rfl ?_
                        refine r_getIv (pc := 184) 8 0 67 dX5_settle_184 (fl_RX5_67 rfl) (by decide) rfl (c8_o hT) (v := nI n) ((htIg).1) ?_
                        refine r_icmp_ge_n (pc := 187) (a := h) (b := n) (tgt := 210) dX5_settle_187 (by decide) (by omega) (by omega) (fun c187 => ?_) (fun c187 => ?_)
                        · skip
                          refine r_ret_v (pc := 210) dX5_settle_210 rfl ?_
                          refine ⟨rfl, Ig, by rw [hG2], ⟨hkIg, hTb4, hOc4, fun x h1 h2 => hEr x (by have h2 : x < n := h2; omega) h2⟩, htmIg, hfIg⟩
                        · skip
                          refine r_aload_n (pc := 190) dX5_settle_190 rfl ?_
                          refine r_get1 (pc := 191) 5 11 52 dX5_settle_191 (fl_RX5_52 rfl) (by decide) rfl (c5_o hM) (c5_p11 hM) ?_
                          refine r_iload (pc := 194) dX5_settle_194 rfl ?_
                          refine r_aload_n (pc := 196) dX5_settle_196 rfl ?_
                          refine r_aload_n (pc := 197) dX5_settle_197 rfl ?_
                          refine r_iload (pc := 198) dX5_settle_198 rfl ?_
                          refine r_callV_P (pc := 200) (b := mb) (As := [.ref t, .int (nI h)]) 5 96 dX5_settle_200 lk_X5_earnedBy (ml_RX5_96 rfl) im_X5_earnedBy se_X5_earnedBy (by decide) (c5_o hM) (Nat.le_of_ble_eq_true rfl) rfl (earnedBy_ct hM hT hsp hkIg htIg (show h < n by omega)) ?_
                          refine r_iast_n (pc := 203) (i := h) (v := ebF Ig mb (mE n c0 s w I wd) h) dX5_settle_203 (c5_a11 hM) (by decide) (by omega) ?_
                          refine r_iinc (pc := 204) (v := nI (h + 1)) (L' := [some (.ref mb), some (.ref t), some (.ref wd), none, some (.int (nI (h + 1))), none, none]) dX5_settle_204 rfl (nI_inc _) (by decide) rfl rfl ?_
                          refine r_goto (pc := 207) (tgt := 181) dX5_settle_207 (by decide) ?_
                          exact ih181 _ (by omega) (h + 1) (up2 Ig (mb + 43) h (ebF Ig mb (mE n c0 s w I wd) h)) rfl (by omega) (by exact hkIg.keep (fun a k h3 h4 => up2_rd (by omega))) (by exact hTb4.keep hE (fun a k h3 h4 => up2_rd (by omega))) (by exact fun x h1 h2 => ⟨(up2_rd (by omega)).trans (hOc4 x h1 h2).1, (up2_rd (by omega)).trans (hOc4 x h1 h2).2.1, (up2_rd (by omega)).trans (hOc4 x h1 h2).2.2.1, (up2_rd (by omega)).trans (hOc4 x h1 h2).2.2.2⟩) (by exact fun x h1 h2 => (Nat.lt_or_ge x h).elim (fun z => (up2_rd (by omega)).trans (hEr x z h2)) (fun z => by obtain rfl : x = h := (by omega); rw [up2_at]; exact er_step hE hOc4 h2)) (by exact fun a k z => (up2_rd (by omega)).trans (hfIg a k z)) (by exact fun k z => (up2_rd (by omega)).trans (htmIg k z))
                    exact lp181 _ 0 If rfl (by omega) hkIf hTb3 (by exact fun x h1 h2 => hOc x (by have h2 : x < n := h2; omega) h2) (by exact fun x hx => absurd hx (Nat.not_lt_zero _)) hfIf htmIf
                  · skip
                    refine r_aload_n (pc := 165) dX5_settle_165 rfl ?_
                    refine r_aload_n (pc := 166) dX5_settle_166 rfl ?_
                    refine r_iload (pc := 167) dX5_settle_167 rfl ?_
                    refine r_callV_V (pc := 169) (b := mb) (As := [.ref t, .int (nI h)]) 5 92 dX5_settle_169 lk_X5_trace (ml_RX5_92 rfl) im_X5_trace se_X5_trace (by decide) (c5_o hM) (Nat.le_of_ble_eq_true rfl) rfl (trace_ct hM hT hsp hkIf htIf (show h < n by omega) (pd_of hE hkIf.2.1 hTb3 (show h < n by omega) hOc)) (fun Ih hIh => ?_)
                    have hst := tr_step hE hkIf.2.1 hkIf hTb3 (show h < n by omega) hOc
                    rw [← hIh] at hst
                    refine r_iinc (pc := 172) (v := nI (h + 1)) (L' := [some (.ref mb), some (.ref t), some (.ref wd), none, some (.int (nI (h + 1))), none, none]) dX5_settle_172 rfl (nI_inc _) (by decide) rfl rfl ?_
                    refine r_goto (pc := 175) (tgt := 156) dX5_settle_175 (by decide) ?_
                    exact ih156 _ (by omega) (h + 1) Ih rfl (by omega) hst.1 hst.2.1 hst.2.2.1 (by exact fun a k z => (hst.2.2.2 a k (by omega)).trans (hfIf a k z)) (by exact fun k z => (hst.2.2.2 _ k (by omega)).trans (htmIf k z))
              exact lp156 _ 0 Ic rfl (by omega) hkIc hTb (by exact fun x hx => absurd hx (Nat.not_lt_zero _)) hfIc htmIc
            have hfIb : ∀ a k, ¬ (mb ≤ a ∧ a < mb + 44) → Ib a k = I a k := fun a k z => by rw [hIb a k (by omega), hIa, setTm_ne (by omega)]
            have hz1 : MkC Ib mb (mE n c0 s w I wd) := MkC.of hτ hco.2 hIbt (fun b hb => hcs b (by omega))
            have hz2q : TbV Ib mb (mE n c0 s w I wd) q := hTq.keep hE (fun a k h3 h4 => by rw [hIb a k (by omega), hIa, setTm_ne (by omega)])
            have hz3 := hfIb
            have hz4 := hIbt
            refine r_iload_n (pc := 96) dX5_settle_96 rfl ?_
            rcases hsv with hsv | ⟨hq0, hsv⟩
            · skip
              refine wp_S (st2 := [.int (nI q - 1)]) (by rw [hsv]) ?_
              refine wp_L (L2 := [some (.ref mb), some (.ref t), some (.ref wd), some (.int (nI q - 1)), some (.int (nI h)), none, none]) (by rw [hsv]) ?_
              have hz2 := hz2q
              refine r_istore (pc := 97) (L' := [some (.ref mb), some (.ref t), some (.ref wd), some (.int (nI q - 1)), some (.int (nI q - 1)), none, none]) dX5_settle_97 (by decide) rfl rfl ?_
              refine wp_sub [some (.ref mb), some (.ref t), some (.ref wd), none, some (.int (nI q - 1)), none, none] ⟨rfl, ⟨rfl, ⟨rfl, ⟨rfl, trivial⟩⟩⟩⟩ ?_
              have lp99 : ∀ (n99 : Nat), ∀ (p : Nat) (Ic : Im), p = n99 → (p ≤ n) → (MkC Ic mb (mE n c0 s w I wd)) → (TbV Ic mb (mE n c0 s w I wd) p) → (∀ a k, ¬ (mb ≤ a ∧ a < mb + 44) → Ic a k = I a k) → (∀ k, k < 6 → Ic (mb + 1) k = I wd k) → wp (d + 5) 0 0 YX5_settle 99 [some (.ref mb), some (.ref t), some (.ref wd), none, some (.int (nI p - 1)), none, none] [] (Ic, G2) (qU (SeQ I G mb t wd n c0 s w)) := by
                intro n99
                induction n99 using Nat.strongRecOn with
                | ind n99 ih99 =>
                  intro p Ic hmu99 hp hkIc hTb hfIc htmIc
                  have htIc : TrC Ic t (mE n c0 s w I wd) := ht.keep (fun a k h3 h4 => hfIc a k (by omega))
                  rcases p with _ | p
                  · skip
                    show wp _ _ _ _ _ [some (.ref mb), some (.ref t), some (.ref wd), none, some (.int (-1)), none, none] _ _ _
                    refine r_iload (pc := 99) dX5_settle_99 rfl ?_
                    refine r_if_lt (pc := 101) (x := (-1)) (tgt := 153) dX5_settle_101 (by decide) (fun c101 => ?_) (fun c101 => ?_)
                    · skip
                      refine wp_sub [some (.ref mb), some (.ref t), some (.ref wd), none, none, none, none] ⟨rfl, ⟨rfl, ⟨rfl, trivial⟩⟩⟩ ?_
                      exact k153 Ic (by first | exact hkIc | exact hz1) (by first | exact hTb | exact hz2) (by first | exact hfIc | exact hz3) (by first | exact htmIc | exact hz4)
                    · exfalso; exact absurd c101 (by decide)
                  · skip
                    refine wp_L (L2 := [some (.ref mb), some (.ref t), some (.ref wd), none, some (.int (nI p)), none, none]) (by rw [nI_pred]) ?_
                    refine r_iload (pc := 99) dX5_settle_99 rfl ?_
                    refine r_if_lt_n (pc := 101) (tgt := 153) dX5_settle_101 (by decide) (by omega) ?_
                    refine r_aload_n (pc := 104) dX5_settle_104 rfl ?_
                    refine r_aload_n (pc := 105) dX5_settle_105 rfl ?_
                    refine r_iload (pc := 106) dX5_settle_106 rfl ?_
                    refine r_callV_P (pc := 108) (b := mb) (As := [.ref t, .int (nI p)]) 5 80 dX5_settle_108 lk_X5_lastRow (ml_RX5_80 rfl) im_X5_lastRow se_X5_lastRow (by decide) (c5_o hM) (Nat.le_of_ble_eq_true rfl) rfl (lastRow_ct hM hT hsp hkIc htIc (by show _ < n; omega)) ?_
                    refine r_istore (pc := 111) (L' := [some (.ref mb), some (.ref t), some (.ref wd), none, some (.int (nI p)), some (.int (nI (lrF (mE n c0 s w I wd) p))), none]) dX5_settle_111 (by decide) rfl rfl ?_
                    have hcp := hkIc.2.1 p
                    refine r_aload_n (pc := 113) dX5_settle_113 rfl ?_
                    refine r_get1 (pc := 114) 5 2 22 dX5_settle_114 (fl_RX5_22 rfl) (by decide) rfl (c5_o hM) (c5_p2 hM) ?_
                    refine r_iload (pc := 117) dX5_settle_117 rfl ?_
                    refine r_iald_n (pc := 119) (i := p) dX5_settle_119 (c5_a2 hM) (by decide) (by omega) (v := nI (eC (mE n c0 s w I wd) p)) (hkIc.1 _ (by show _ < n; omega)) ?_
                    refine r_callSN_P (pc := 120) (As := [.int (nI (eC (mE n c0 s w I wd) p))]) 84 dX5_settle_120 lk_X9_row (nl_RX5_84 rfl) sm_X9_row (Nat.le_of_ble_eq_true rfl) rfl (row_ct (by omega)) ?_
                    have hlr := lrF_le (mE n c0 s w I wd) p
                    have hrl : rwF (eC (mE n c0 s w I wd) p) ≤ lrF (mE n c0 s w I wd) p := by unfold lrF; split; exact Nat.le_refl _; exact rwF_le _
                    refine r_istore (pc := 123) (L' := [some (.ref mb), some (.ref t), some (.ref wd), none, some (.int (nI p)), some (.int (nI (lrF (mE n c0 s w I wd) p))), some (.int (nI (rwF (eC (mE n c0 s w I wd) p))))]) dX5_settle_123 (by decide) rfl rfl ?_
                    have lp125 : ∀ (n125 : Nat), ∀ (u : Nat) (Id : Im), lrF (mE n c0 s w I wd) p + 1 - u = n125 → (rwF (eC (mE n c0 s w I wd) p) ≤ u ∧ u ≤ lrF (mE n c0 s w I wd) p + 1) → (MkC Id mb (mE n c0 s w I wd)) → (TbV Id mb (mE n c0 s w I wd) (p + 1)) → (∀ v, rwF (eC (mE n c0 s w I wd) p) ≤ v → v < u → RowV Id mb (mE n c0 s w I wd) p v) → (∀ a k, ¬ (mb ≤ a ∧ a < mb + 44) → Id a k = I a k) → (∀ k, k < 6 → Id (mb + 1) k = I wd k) → wp (d + 5) 0 0 YX5_settle 125 [some (.ref mb), some (.ref t), some (.ref wd), none, some (.int (nI p)), some (.int (nI (lrF (mE n c0 s w I wd) p))), some (.int (nI u))] [] (Id, G2) (qU (SeQ I G mb t wd n c0 s w)) := by
                      intro n125
                      induction n125 using Nat.strongRecOn with
                      | ind n125 ih125 =>
                        intro u Id hmu125 hu hkId hTb2 hrw hfId htmId
                        have htId : TrC Id t (mE n c0 s w I wd) := ht.keep (fun a k h3 h4 => hfId a k (by omega))
                        refine r_iload (pc := 125) dX5_settle_125 rfl ?_
                        refine r_iload (pc := 127) dX5_settle_127 rfl ?_
                        refine r_icmp_gt_n (pc := 129) (a := u) (b := lrF (mE n c0 s w I wd) p) (tgt := 147) dX5_settle_129 (by decide) (by omega) (by omega) (fun c129 => ?_) (fun c129 => ?_)
                        · skip
                          have hTbn : TbV Id mb (mE n c0 s w I wd) p := fun x h1 h2 v h3 h4 => (Nat.lt_or_ge p x).elim (fun z => hTb2 x z h2 v h3 h4) (fun z => by obtain rfl : x = p := (by omega); exact hrw v h3 (by omega))
                          refine r_iinc (pc := 147) (v := nI p - 1) (L' := [some (.ref mb), some (.ref t), some (.ref wd), none, some (.int (nI p - 1)), some (.int (nI (lrF (mE n c0 s w I wd) p))), some (.int (nI u))]) dX5_settle_147 rfl (nI_dm _) (by decide) rfl rfl ?_
                          refine r_goto (pc := 150) (tgt := 99) dX5_settle_150 (by decide) ?_
                          refine wp_sub [some (.ref mb), some (.ref t), some (.ref wd), none, some (.int (nI p - 1)), none, none] ⟨rfl, ⟨rfl, ⟨rfl, ⟨rfl, trivial⟩⟩⟩⟩ ?_
                          exact ih99 _ (by omega) p Id rfl (by omega) hkId hTbn hfId htmId
                        · skip
                          refine r_aload_n (pc := 132) dX5_settle_132 rfl ?_
                          refine r_aload_n (pc := 133) dX5_settle_133 rfl ?_
                          refine r_iload (pc := 134) dX5_settle_134 rfl ?_
                          refine r_iload (pc := 136) dX5_settle_136 rfl ?_
                          refine r_callV_V (pc := 138) (b := mb) (As := [.ref t, .int (nI p), .int (nI u)]) 5 88 dX5_settle_138 lk_X5_reckon (ml_RX5_88 rfl) im_X5_reckon se_X5_reckon (by decide) (c5_o hM) (Nat.le_of_ble_eq_true rfl) rfl (reckon_ct hM hT hsp hkId htId (by show _ < n; omega) (by omega)) (fun Ie hIe => ?_)
                          have hst := rk_step hE (show p < n by omega) hTb2 hIe
                          refine r_iinc (pc := 141) (v := nI (u + 1)) (L' := [some (.ref mb), some (.ref t), some (.ref wd), none, some (.int (nI p)), some (.int (nI (lrF (mE n c0 s w I wd) p))), some (.int (nI (u + 1)))]) dX5_settle_141 rfl (nI_inc _) (by decide) rfl rfl ?_
                          refine r_goto (pc := 144) (tgt := 125) dX5_settle_144 (by decide) ?_
                          exact ih125 _ (by omega) (u + 1) Ie rfl (by omega) (by exact hkId.keep (fun a k h3 h4 => hst.2.2.2 a k (by omega))) hst.1 (by exact fun v h1 h2 => (Nat.lt_or_ge v u).elim (fun z => hst.2.2.1 v (by omega) (hrw v h1 z)) (fun z => (show v = u by omega) ▸ hst.2.1)) (by exact fun a k z => (hst.2.2.2 a k (by omega)).trans (hfId a k z)) (by exact fun k z => (hst.2.2.2 _ k (by omega)).trans (htmId k z))
                    exact lp125 _ (rwF (eC (mE n c0 s w I wd) p)) Ic rfl (by omega) hkIc hTb (by exact fun v h1 h2 => absurd h2 (by omega)) hfIc htmIc
              exact lp99 _ q Ib rfl (by omega) hz1 hz2 hz3 hz4
            · skip
              refine wp_S (st2 := [.int (nI 0 - 1 - 1)]) (by rw [hsv]) ?_
              refine wp_L (L2 := [some (.ref mb), some (.ref t), some (.ref wd), some (.int (nI 0 - 1 - 1)), some (.int (nI h)), none, none]) (by rw [hsv]) ?_
              have hz2 : TbV Ib mb (mE n c0 s w I wd) 0 := hq0 ▸ hz2q
              refine r_istore (pc := 97) (L' := [some (.ref mb), some (.ref t), some (.ref wd), some (.int (nI 0 - 1 - 1)), some (.int (nI 0 - 1 - 1)), none, none]) dX5_settle_97 (by decide) rfl rfl ?_
              refine r_iload (pc := 99) dX5_settle_99 rfl ?_
              refine r_if_lt (pc := 101) (x := nI 0 - 1 - 1) (tgt := 153) dX5_settle_101 (by decide) (fun c101 => ?_) (fun c101 => ?_)
              · skip
                refine wp_sub [some (.ref mb), some (.ref t), some (.ref wd), none, none, none, none] ⟨rfl, ⟨rfl, ⟨rfl, trivial⟩⟩⟩ ?_
                exact k153 Ib (by first | exact hkIc | exact hz1) (by first | exact hTb | exact hz2) (by first | exact hfIc | exact hz3) (by first | exact htmIc | exact hz4)
              · exfalso; exact absurd c101 (by decide)
          · skip
            refine r_aload_n (pc := 52) dX5_settle_52 rfl ?_
            refine r_get1 (pc := 53) 5 2 22 dX5_settle_53 (fl_RX5_22 rfl) (by decide) rfl (c5_o hM) (c5_p2 hM) ?_
            refine r_iload (pc := 56) dX5_settle_56 rfl ?_
            refine r_aload_n (pc := 58) dX5_settle_58 rfl ?_
            refine r_get1 (pc := 59) 8 2 73 dX5_settle_59 (fl_RX5_73 rfl) (by decide) rfl (c8_o hT) (c8_p2 hT) ?_
            refine r_iload (pc := 62) dX5_settle_62 rfl ?_
            refine r_iald_n (pc := 64) (i := h) dX5_settle_64 (c8_a2 hT) (by decide) (by omega) (v := nI (c0 h)) (hct _ (by omega)) ?_
            have k88 : ∀ (x : Nat), (x = if nI h = I wd 4 then dv else 0) → wp (d + 5) 0 0 YX5_settle 88 [some (.ref mb), some (.ref t), some (.ref wd), some (.int sv), some (.int (nI h)), none, none] [.int (nI x), .int (nI (c0 h)), .int (nI h), .ref (mb + 2)] (Ib, G2) (qU (SeQ I G mb t wd n c0 s w)) := by
              intro x hx
              refine r_iadd_n (pc := 88) (a := c0 h) (b := x) dX5_settle_88 ?_
              have hcs2 : ∀ b, b < h + 1 → up2 Ib (mb + 2) h (nI (c0 h + x)) (mb + 2) b = nI (eC (mE n c0 s w I wd) b) := fun b hb => by
                by_cases e : b = h
                · rw [e, up2_at, hx, hdvd]
                  rfl
                · rw [up2_rd (Or.inr e)]; exact hcs b (by omega)
              refine r_iast_n (pc := 89) (i := h) (v := nI ((c0 h) + x)) dX5_settle_89 (c5_a2 hM) (by decide) (by omega) ?_
              refine r_iinc (pc := 90) (v := nI (h + 1)) (L' := [some (.ref mb), some (.ref t), some (.ref wd), some (.int sv), some (.int (nI (h + 1))), none, none]) dX5_settle_90 rfl (nI_inc _) (by decide) rfl rfl ?_
              refine r_goto (pc := 93) (tgt := 43) dX5_settle_93 (by decide) ?_
              exact ih43 _ (by omega) (h + 1) (up2 Ib (mb + 2) h (nI ((c0 h) + x))) rfl (by omega) (by exact fun a k ha => by rw [up2_rd (Or.inl ha)]; exact hIb a k ha) hcs2
            refine r_iload (pc := 65) dX5_settle_65 rfl ?_
            refine r_aload_n (pc := 67) dX5_settle_67 rfl ?_
            refine r_get1 (pc := 68) 5 1 18 dX5_settle_68 (fl_RX5_18 rfl) (by decide) rfl (c5_o hM) (c5_p1 hM) ?_
            refine r_getIv (pc := 71) 7 4 74 dX5_settle_71 (fl_RX5_74 rfl) (by decide) rfl (c7_o (c5_s1 hM)) (v := I wd 4) (hIbt 4 (by omega)) ?_
            refine r_icmp_ne (pc := 74) (x := nI h) (z := I wd 4) (tgt := 87) dX5_settle_74 (by decide) (fun c74 => ?_) (fun c74 => ?_)
            · skip
              have hxx : 0 = if nI h = I wd 4 then dv else 0 := (if_neg c74).symm
              refine r_iconst (pc := 87) (v := 0) dX5_settle_87 (by decide) ?_
              exact k88 0 hxx
            · skip
              have hxx : dv = if nI h = I wd 4 then dv else 0 := (if_pos c74).symm
              refine r_aload_n (pc := 77) dX5_settle_77 rfl ?_
              refine r_get1 (pc := 78) 5 1 18 dX5_settle_78 (fl_RX5_18 rfl) (by decide) rfl (c5_o hM) (c5_p1 hM) ?_
              refine r_getIv (pc := 81) 7 5 77 dX5_settle_81 (fl_RX5_77 rfl) (by decide) rfl (c7_o (c5_s1 hM)) (v := nI dv) ((hIbt 5 (by omega)).trans hdv) ?_
              refine r_goto (pc := 84) (tgt := 88) dX5_settle_84 (by decide) ?_
              exact k88 dv hxx
      exact lp43 _ 0 Ia rfl (by omega) (by exact fun _ _ _ => rfl) (by exact fun b hb => absurd hb (Nat.not_lt_zero _))
    refine r_aload_n (pc := 20) dX5_settle_20 rfl ?_
    refine r_aload_n (pc := 21) dX5_settle_21 rfl ?_
    refine r_aload_n (pc := 22) dX5_settle_22 rfl ?_
    refine r_callV_P (pc := 23) (b := mb) (As := [.ref t, .ref wd]) 5 59 dX5_settle_23 lk_X5_lastStale (ml_RX5_59 rfl) im_X5_lastStale se_X5_lastStale (by decide) (c5_o hM) (Nat.le_of_ble_eq_true rfl) rfl (lastStale_ct hM hT hW ht.1 hn8) ?_
    have hq1 : (if G.1 mb 0 = some t ∧ (I (mb + 1) 1 = I wd 1 ∧ I (mb + 1) 2 = I wd 2 ∧ I (mb + 1) 3 = I wd 3 ∧ I (mb + 1) 4 = I wd 4 ∧ I (mb + 1) 5 = I wd 5) then lsF (I (mb + 1) 0) (I wd 0) n - 1 else n) ≤ n := by split <;> (have := lsF_le (I (mb + 1) 0) (I wd 0) n; omega)
    have hq2 := st_sv (P := G.1 mb 0 = some t ∧ (I (mb + 1) 1 = I wd 1 ∧ I (mb + 1) 2 = I wd 2 ∧ I (mb + 1) 3 = I wd 3 ∧ I (mb + 1) 4 = I wd 4 ∧ I (mb + 1) 5 = I wd 5)) (l := lsF (I (mb + 1) 0) (I wd 0) n) (n := n)
    have hq3 : TbV I mb (mE n c0 s w I wd) (if G.1 mb 0 = some t ∧ (I (mb + 1) 1 = I wd 1 ∧ I (mb + 1) 2 = I wd 2 ∧ I (mb + 1) 3 = I wd 3 ∧ I (mb + 1) 4 = I wd 4 ∧ I (mb + 1) 5 = I wd 5) then lsF (I (mb + 1) 0) (I wd 0) n - 1 else n) := by
      split
      · next z => exact st_tb hE z.2 (hold z.1).2
      · exact fun x h1 h2 => absurd h2 (Nat.not_lt.mpr h1)
    refine r_istore_n (pc := 26) (L' := [some (.ref mb), some (.ref t), some (.ref wd), some (.int (if G.1 mb 0 = some t ∧ (I (mb + 1) 1 = I wd 1 ∧ I (mb + 1) 2 = I wd 2 ∧ I (mb + 1) 3 = I wd 3 ∧ I (mb + 1) 4 = I wd 4 ∧ I (mb + 1) 5 = I wd 5) then nI (lsF (I (mb + 1) 0) (I wd 0) n) - 1 - 1 else nI n - 1)), none, none, none]) dX5_settle_26 (by decide) rfl rfl ?_
    exact k27 (if G.1 mb 0 = some t ∧ (I (mb + 1) 1 = I wd 1 ∧ I (mb + 1) 2 = I wd 2 ∧ I (mb + 1) 3 = I wd 3 ∧ I (mb + 1) 4 = I wd 4 ∧ I (mb + 1) 5 = I wd 5) then lsF (I (mb + 1) 0) (I wd 0) n - 1 else n) (if G.1 mb 0 = some t ∧ (I (mb + 1) 1 = I wd 1 ∧ I (mb + 1) 2 = I wd 2 ∧ I (mb + 1) 3 = I wd 3 ∧ I (mb + 1) 4 = I wd 4 ∧ I (mb + 1) 5 = I wd 5) then nI (lsF (I (mb + 1) 0) (I wd 0) n) - 1 - 1 else nI n - 1) hq1 hq2 hq3
  refine r_aload_n (pc := 0) dX5_settle_0 rfl ?_
  refine r_getR (pc := 1) 5 0 9 dX5_settle_1 (fl_RX5_9 rfl) (by decide) rfl (c5_o hM) rfl ?_
  refine r_aload_n (pc := 4) dX5_settle_4 rfl ?_
  refine r_acmp_ne (pc := 5) (x := G.1 mb 0) (z := some t) (tgt := 20) dX5_settle_5 (by decide) (fun c5 => ?_) (fun c5 => ?_)
  · skip
    have hnn : ¬ (G.1 mb 0 = some t ∧ I (mb + 1) 0 = I wd 0 ∧ (I (mb + 1) 1 = I wd 1 ∧ I (mb + 1) 2 = I wd 2 ∧ I (mb + 1) 3 = I wd 3 ∧ I (mb + 1) 4 = I wd 4 ∧ I (mb + 1) 5 = I wd 5)) := fun z => c5 z.1
    exact k20  hnn
  · skip
    refine r_aload_n (pc := 8) dX5_settle_8 rfl ?_
    refine r_get1 (pc := 9) 5 1 18 dX5_settle_9 (fl_RX5_18 rfl) (by decide) rfl (c5_o hM) (c5_p1 hM) ?_
    refine r_aload_n (pc := 12) dX5_settle_12 rfl ?_
    refine r_callV_P (pc := 13) (b := mb + 1) (As := [.ref wd]) 7 55 dX5_settle_13 lk_X7_same (ml_RX5_55 rfl) im_X7_same se_X7_same (by decide) (c7_o (c5_s1 hM)) (Nat.le_of_ble_eq_true rfl) rfl (same_ct (c5_s1 hM) hW) ?_
    refine r_if_eq_b (pc := 16) (tgt := 20) dX5_settle_16 (by decide) (fun c16 => ?_) (fun c16 => ?_)
    · skip
      have hnn : ¬ (G.1 mb 0 = some t ∧ I (mb + 1) 0 = I wd 0 ∧ (I (mb + 1) 1 = I wd 1 ∧ I (mb + 1) 2 = I wd 2 ∧ I (mb + 1) 3 = I wd 3 ∧ I (mb + 1) 4 = I wd 4 ∧ I (mb + 1) 5 = I wd 5)) := fun z => c16 z.2
      exact k20  hnn
    · skip
      refine r_ret_v (pc := 19) dX5_settle_19 rfl ?_
      refine ⟨rfl, I, by rw [sG_same c5], ?_, fun k hk2 => ?_, fun _ _ _ => rfl⟩
      · rw [← mkE_congr (τ := I (mb + 1)) (fun k hk2 => tm_six c16 k hk2)]; exact (hold c5).2
      · exact tm_six c16 k hk2
