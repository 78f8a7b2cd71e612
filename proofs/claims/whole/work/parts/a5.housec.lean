/-! ===== what a throw of house needs of the world ===== -/
def nE : String := "java/util/NoSuchElementException"
def tE : String := "no such trade, house or question"
def rxE : ByteArray := ⟨#[0x2a, 0x2b, 0xb7, 0x00, 0x0d, 0xb1]⟩
def upE : List String := ["java/lang/RuntimeException", "java/lang/Exception"]
def nD : List MethodName := [⟨"java/lang/RuntimeException", "<init>", "(Ljava/lang/String;)V"⟩, ⟨"java/lang/Exception", "<init>", "(Ljava/lang/String;)V"⟩, ⟨"java/lang/Throwable", "<init>", "(Ljava/lang/String;)V"⟩]
def TW (l : Launch) (A : Nat → Prop) (U : State) (H : Heap) : Prop := l.stackTraces = false ∧ (∀ x ∈ nD, va_Nw (.declares x) U) ∧ va_Nw (.castable nE nE) U ∧ (∃ sa, vk_R RX9 108 tE sa U) ∧ vx_Zq Bundle.tN "UNASSIGNED_STACK" Bundle.steD A U H ∧ vx_Zq Bundle.tN "SUPPRESSED_SENTINEL" Bundle.listD A U H
/-- the same world seen by a callee -/
theorem TW.call {l : Launch} {A B : Nat → Prop} {s U : State} {H : Heap} (h : TW l A s s.heap) (hW : s.WarmedH U.vm) (hH : ∀ q : Nat, q < s.heap.size → ¬ A q → H[q]? = s.heap[q]?) (hAB : ∀ q, B q → A q) : TW l B U H := by
  obtain ⟨h1, h2, h3, ⟨sa, h4⟩, h5, h6⟩ := h
  exact ⟨h1, fun x hx => va_Nw.warmD hW (h2 x hx), va_Nw.warmC hW h3, ⟨sa, vk_R.warm hW h4⟩, vx_Zq.moved hW.alike ((h5.kept hH).narrow hAB), vx_Zq.moved hW.alike ((h6.kept hH).narrow hAB)⟩
theorem TW.same {l : Launch} {A : Nat → Prop} {u U : State} {H : Heap} (hv : u.vm = U.vm) (h : TW l A u H) : TW l A U H := by
  obtain ⟨h1, h2, h3, ⟨sa, h4⟩, h5, h6⟩ := h
  exact ⟨h1, fun x hx => va_Nw.same rfl hv (h2 x hx), va_Nw.same rfl hv h3, ⟨sa, vk_R.same hv.symm h4⟩, vx_Zq.moved (hv ▸ Vm.Alike.refl u.vm) h5, vx_Zq.moved (hv ▸ Vm.Alike.refl u.vm) h6⟩
theorem wp_more {d kc ks kc' ks' : Nat} {y : Yt} {pc : Nat} {L : List (Option Value)} {st : List Value} {M : Mm} {Q : Option Value → Mm → Prop} (h1 : kc ≤ kc') (h2 : ks ≤ ks') (k : wp d kc ks y pc L st M Q) : wp d kc' ks' y pc L st M Q := by
  intro p l e R s m args below meth c D cA A ad H locs cells slots Qm ls C g1 g2 g3 g4 V hL hS F
  exact k p l e R s m args below meth c D cA A ad H locs cells slots Qm ls C g1 g2 (by omega) (by omega) V hL hS (fun r M' pcF lsF ad' H' locs' a1 a2 a3 a4 a5 a6 => W.widen (by omega) (by omega) (F r M' pcF lsF ad' H' locs' a1 a2 a3 a4 a5 a6))
def vnE : List Cond := vn_at RX9 110 nE 13 rxE upE
theorem vnE_good : ∀ w ∈ vnE.filter goodWord, w ∈ gtb := by
  have h : (vnE.filter goodWord).all (fun w => decide (w ∈ gtb)) = true := by decide +kernel
  exact fun w hw => of_decide_eq_true (List.all_eq_true.mp h w hw)
theorem vnE_rest : ∀ w ∈ vnE.filter (fun w => !goodWord w), w ∈ ((.castable nE nE : Cond) :: nD.map Cond.declares) := by
  have h : (vnE.filter (fun w => !goodWord w)).all (fun w => decide (w ∈ ((.castable nE nE : Cond) :: nD.map Cond.declares))) = true := by decide +kernel
  exact fun w hw => of_decide_eq_true (List.all_eq_true.mp h w hw)
theorem vnE_ot : ∀ w ∈ Cond.classLink RX9 106 nE :: Cond.initialized nE :: vnE, vx_ot w = true := by
  have h : (Cond.classLink RX9 106 nE :: Cond.initialized nE :: vnE).all vx_ot = true := by decide +kernel
  exact fun w hw => List.all_eq_true.mp h w hw
theorem vnE_at {l : Launch} {A : Nat → Prop} {s : State} {args : Array Value} (hts : ∀ w ∈ gtb, w.before args s = true) (h : TW l A s s.heap) : ∀ w ∈ vnE, w.before args s = true :=
  vx_hat (B := (.castable nE nE : Cond) :: nD.map Cond.declares) (fun w hw => hts w (vnE_good w hw)) vnE_rest (fun w hw => (List.mem_cons.mp hw).elim (fun e => by rw [e]; exact va_Nw.use rfl h.2.2.1) (fun hw => by
    obtain ⟨x, hx, rfl⟩ := List.mem_map.mp hw
    exact va_Nw.use rfl (h.2.1 x hx)))
theorem clE_106 : Cond.classLink RX9 106 nE ∈ gtb := gt_of 796 (by decide +kernel) rfl
theorem clE_13 : Cond.classLink RL 13 nE ∈ gtb := gt_of 791 (by decide +kernel) rfl
theorem inE : Cond.initialized nE ∈ gtb := gt_of 15 (by decide +kernel) rfl
theorem inRL : Cond.initialized RL ∈ gtb := gt_of 0 (by decide +kernel) rfl
theorem smL : Cond.static yL_house ∈ gtb := gt_of 789 (by decide +kernel) rfl
def hhL : List (Nat × Nat × Nat × Nat) := [(0, 12, 15, 13)]
theorem cwL : Cond.codeWith yL_house cL_house 6 (some .int) hhL ∈ gtb := gt_of 790 (by decide +kernel) rfl
/-! ===== house of the class: where the question is right ===== -/

set_option maxHeartbeats 300000 in
set_option maxRecDepth 100000 in
theorem house_y {d : Nat} {I : Im} {G : Gm} {s : Sta} (hC : Ci s I G) {t h w x : Int32} (hx : aHouse s t h w = some x) : Ct (d + 3) 1 6 YX9_house [.ref 0, .int t, .int h, .int w] (I, G) (qP x (I, G)) := by
  refine Ct.of (by decide) (by simp [Value.category]) (Nat.le_of_ble_eq_true rfl) ?_
  have h9 := hC.1.1
  have hcn10 := hC.2.1.2.1
  have hFr : FrC I I := FrC.rf
  have hGk : Geq G G := Geq.rf
  refine wp_more (kc := 0) (ks := 0) (Nat.zero_le _) (Nat.zero_le _) ?_
  show wp _ _ _ _ 0 [some (.ref 0), some (.int t), some (.int h), some (.int w), none] [] _ _
  rcases in_cases (n := sN s) (by have := hcn10; omega) t with ⟨k, hk, rfl, et⟩ | ⟨et, hnot⟩
  · skip
    have h8 := hC.1.2.1 k (by omega)
    obtain ⟨hok, hTr⟩ := hC.ok hk
    have hn8 : dN (dK s k) ≤ 8 := hok.1.1.2
    have hoff := tA_off k
    have hE := src_of hok.1 (tdT (sD s k))
    have hW := wbc_of hok.1 (tdT (sD s k))
    have hc60 : ∀ b, dC (dK s k) b ≤ 60 := fun b => Nat.le_trans (hok.1.2.1 b) (by omega)
    have htc := trc_of hok.1 hTr.1 (tdT (sD s k))
    rcases in_cases (n := dN (dK s k)) (by have := hn8; omega) h with ⟨hn, hhn, rfl, eh⟩ | ⟨eh, hnoh⟩
    · skip
      by_cases hsh : shP (dK s k) hn
      · skip
        rcases in_cases (n := 5) (by omega) w with ⟨wn, hwn, rfl, ew⟩ | ⟨ew, hnow⟩
        · skip
          rcases (show wn = 0 ∨ wn = 1 ∨ wn = 2 ∨ wn = 3 ∨ wn = 4 by omega) with rfl | rfl | rfl | rfl | rfl
          · skip
            refine r_aload_n (pc := 0) dX9_house_0 rfl ?_
            refine r_iload_n (pc := 1) dX9_house_1 rfl ?_
            refine r_callV_R (pc := 2) (b := 0) (As := [.int (nI k)]) 9 98 dX9_house_2 lk_X9_find (ml_RX9_98 rfl) im_X9_find se_X9_find (by decide) (c9_o h9) (Nat.le_of_ble_eq_true rfl) rfl (find_ct hC.1.1 hC.2.1.1 hcn10 hk (hC.1.2.2.1 k hk)) ?_
            refine r_astore (pc := 5) (L' := [some (.ref 0), some (.int (nI k)), some (.int (nI hn)), some (.int (nI 0)), some (.ref (tA k))]) dX9_house_5 (by decide) rfl rfl ?_
            refine r_aload (pc := 7) dX9_house_7 rfl ?_
            refine r_ifnullR (pc := 9) dX9_house_9 ?_
            refine r_aload (pc := 12) dX9_house_12 rfl ?_
            refine r_iload_n (pc := 14) dX9_house_14 rfl ?_
            refine r_callV_P (pc := 15) (b := tA k) (As := [.int (nI hn)]) 8 102 dX9_house_15 lk_X8_holds (ml_RX9_102 rfl) im_X8_holds se_X8_holds (by decide) (c8_o h8) (Nat.le_of_ble_eq_true rfl) rfl (holds_y h8 hTr.1.1 hn8 hhn) ?_
            refine r_if_eq_n (pc := 18) (a := 1) (tgt := 30) dX9_house_18 (by decide) (by omega) (fun c18 => ?_) (fun c18 => ?_)
            · exfalso; omega
            · skip
              refine r_iload_n (pc := 21) dX9_house_21 rfl ?_
              refine r_if_lt_n (pc := 22) (a := 0) (tgt := 30) dX9_house_22 (by decide) (by omega) ?_
              refine r_iload_n (pc := 25) dX9_house_25 rfl ?_
              refine r_iconst (pc := 26) (v := 4) dX9_house_26 (by decide) ?_
              refine r_icmp_le_n (pc := 27) (a := 0) (b := 4) (tgt := 40) dX9_house_27 (by decide) (by omega) (by omega) (fun c27 => ?_) (fun c27 => ?_)
              · skip
                refine r_iload_n (pc := 40) dX9_house_40 rfl ?_
                refine r_tblIn (pc := 41) (x := nI 0) (off := 31) (tgt := 72) dX9_house_41 (by decide) (by decide) (by decide) (by decide) ?_
                refine r_aload (pc := 72) dX9_house_72 rfl ?_
                refine r_get1 (pc := 74) 8 2 113 dX9_house_74 (fl_RX9_113 rfl) (by decide) rfl (c8_o h8) (c8_p2 h8) ?_
                refine r_iload_n (pc := 77) dX9_house_77 rfl ?_
                refine r_iald_n (pc := 78) (i := hn) dX9_house_78 (c8_a2 h8) (by decide) (by omega) (v := nI (dC (dK s k) hn)) ((hTr.1.2.2.1 _ (by omega)).1) ?_
                refine r_ret_i (pc := 79) dX9_house_79 rfl ?_
                rw [ah_y et eh ew] at hx
                obtain rfl := Option.some.inj hx
                exact ⟨by simp [], rfl⟩
              · exfalso; omega
          · skip
            refine r_aload_n (pc := 0) dX9_house_0 rfl ?_
            refine r_iload_n (pc := 1) dX9_house_1 rfl ?_
            refine r_callV_R (pc := 2) (b := 0) (As := [.int (nI k)]) 9 98 dX9_house_2 lk_X9_find (ml_RX9_98 rfl) im_X9_find se_X9_find (by decide) (c9_o h9) (Nat.le_of_ble_eq_true rfl) rfl (find_ct hC.1.1 hC.2.1.1 hcn10 hk (hC.1.2.2.1 k hk)) ?_
            refine r_astore (pc := 5) (L' := [some (.ref 0), some (.int (nI k)), some (.int (nI hn)), some (.int (nI 1)), some (.ref (tA k))]) dX9_house_5 (by decide) rfl rfl ?_
            refine r_aload (pc := 7) dX9_house_7 rfl ?_
            refine r_ifnullR (pc := 9) dX9_house_9 ?_
            refine r_aload (pc := 12) dX9_house_12 rfl ?_
            refine r_iload_n (pc := 14) dX9_house_14 rfl ?_
            refine r_callV_P (pc := 15) (b := tA k) (As := [.int (nI hn)]) 8 102 dX9_house_15 lk_X8_holds (ml_RX9_102 rfl) im_X8_holds se_X8_holds (by decide) (c8_o h8) (Nat.le_of_ble_eq_true rfl) rfl (holds_y h8 hTr.1.1 hn8 hhn) ?_
            refine r_if_eq_n (pc := 18) (a := 1) (tgt := 30) dX9_house_18 (by decide) (by omega) (fun c18 => ?_) (fun c18 => ?_)
            · exfalso; omega
            · skip
              refine r_iload_n (pc := 21) dX9_house_21 rfl ?_
              refine r_if_lt_n (pc := 22) (a := 1) (tgt := 30) dX9_house_22 (by decide) (by omega) ?_
              refine r_iload_n (pc := 25) dX9_house_25 rfl ?_
              refine r_iconst (pc := 26) (v := 4) dX9_house_26 (by decide) ?_
              refine r_icmp_le_n (pc := 27) (a := 1) (b := 4) (tgt := 40) dX9_house_27 (by decide) (by omega) (by omega) (fun c27 => ?_) (fun c27 => ?_)
              · skip
                refine r_iload_n (pc := 40) dX9_house_40 rfl ?_
                refine r_tblIn (pc := 41) (x := nI 1) (off := 39) (tgt := 80) dX9_house_41 (by decide) (by decide) (by decide) (by decide) ?_
                refine r_aload (pc := 80) dX9_house_80 rfl ?_
                refine r_get1 (pc := 82) 8 3 117 dX9_house_82 (fl_RX9_117 rfl) (by decide) rfl (c8_o h8) (c8_p3 h8) ?_
                refine r_iload_n (pc := 85) dX9_house_85 rfl ?_
                refine r_iald_n (pc := 86) (i := hn) dX9_house_86 (c8_a3 h8) (by decide) (by omega) (v := sI (dS (dK s k) hn)) ((hTr.1.2.2.1 _ (by omega)).2.1) ?_
                refine r_ret_i (pc := 87) dX9_house_87 rfl ?_
                rw [ah_y et eh ew] at hx
                obtain rfl := Option.some.inj hx
                exact ⟨by simp [], rfl⟩
              · exfalso; omega
          · skip
            refine r_aload_n (pc := 0) dX9_house_0 rfl ?_
            refine r_iload_n (pc := 1) dX9_house_1 rfl ?_
            refine r_callV_R (pc := 2) (b := 0) (As := [.int (nI k)]) 9 98 dX9_house_2 lk_X9_find (ml_RX9_98 rfl) im_X9_find se_X9_find (by decide) (c9_o h9) (Nat.le_of_ble_eq_true rfl) rfl (find_ct hC.1.1 hC.2.1.1 hcn10 hk (hC.1.2.2.1 k hk)) ?_
            refine r_astore (pc := 5) (L' := [some (.ref 0), some (.int (nI k)), some (.int (nI hn)), some (.int (nI 2)), some (.ref (tA k))]) dX9_house_5 (by decide) rfl rfl ?_
            refine r_aload (pc := 7) dX9_house_7 rfl ?_
            refine r_ifnullR (pc := 9) dX9_house_9 ?_
            refine r_aload (pc := 12) dX9_house_12 rfl ?_
            refine r_iload_n (pc := 14) dX9_house_14 rfl ?_
            refine r_callV_P (pc := 15) (b := tA k) (As := [.int (nI hn)]) 8 102 dX9_house_15 lk_X8_holds (ml_RX9_102 rfl) im_X8_holds se_X8_holds (by decide) (c8_o h8) (Nat.le_of_ble_eq_true rfl) rfl (holds_y h8 hTr.1.1 hn8 hhn) ?_
            refine r_if_eq_n (pc := 18) (a := 1) (tgt := 30) dX9_house_18 (by decide) (by omega) (fun c18 => ?_) (fun c18 => ?_)
            · exfalso; omega
            · skip
              refine r_iload_n (pc := 21) dX9_house_21 rfl ?_
              refine r_if_lt_n (pc := 22) (a := 2) (tgt := 30) dX9_house_22 (by decide) (by omega) ?_
              refine r_iload_n (pc := 25) dX9_house_25 rfl ?_
              refine r_iconst (pc := 26) (v := 4) dX9_house_26 (by decide) ?_
              refine r_icmp_le_n (pc := 27) (a := 2) (b := 4) (tgt := 40) dX9_house_27 (by decide) (by omega) (by omega) (fun c27 => ?_) (fun c27 => ?_)
              · skip
                refine r_iload_n (pc := 40) dX9_house_40 rfl ?_
                refine r_tblIn (pc := 41) (x := nI 2) (off := 47) (tgt := 88) dX9_house_41 (by decide) (by decide) (by decide) (by decide) ?_
                refine r_aload (pc := 88) dX9_house_88 rfl ?_
                refine r_get1 (pc := 90) 8 4 120 dX9_house_90 (fl_RX9_120 rfl) (by decide) rfl (c8_o h8) (c8_p4 h8) ?_
                refine r_iload_n (pc := 93) dX9_house_93 rfl ?_
                refine r_iald_n (pc := 94) (i := hn) dX9_house_94 (c8_a4 h8) (by decide) (by omega) (v := nI (dE (dK s k) hn)) ((hTr.1.2.2.1 _ (by omega)).2.2.1) ?_
                refine r_ret_i (pc := 95) dX9_house_95 rfl ?_
                rw [ah_y et eh ew] at hx
                obtain rfl := Option.some.inj hx
                exact ⟨by simp [], rfl⟩
              · exfalso; omega
          · skip
            refine r_aload_n (pc := 0) dX9_house_0 rfl ?_
            refine r_iload_n (pc := 1) dX9_house_1 rfl ?_
            refine r_callV_R (pc := 2) (b := 0) (As := [.int (nI k)]) 9 98 dX9_house_2 lk_X9_find (ml_RX9_98 rfl) im_X9_find se_X9_find (by decide) (c9_o h9) (Nat.le_of_ble_eq_true rfl) rfl (find_ct hC.1.1 hC.2.1.1 hcn10 hk (hC.1.2.2.1 k hk)) ?_
            refine r_astore (pc := 5) (L' := [some (.ref 0), some (.int (nI k)), some (.int (nI hn)), some (.int (nI 3)), some (.ref (tA k))]) dX9_house_5 (by decide) rfl rfl ?_
            refine r_aload (pc := 7) dX9_house_7 rfl ?_
            refine r_ifnullR (pc := 9) dX9_house_9 ?_
            refine r_aload (pc := 12) dX9_house_12 rfl ?_
            refine r_iload_n (pc := 14) dX9_house_14 rfl ?_
            refine r_callV_P (pc := 15) (b := tA k) (As := [.int (nI hn)]) 8 102 dX9_house_15 lk_X8_holds (ml_RX9_102 rfl) im_X8_holds se_X8_holds (by decide) (c8_o h8) (Nat.le_of_ble_eq_true rfl) rfl (holds_y h8 hTr.1.1 hn8 hhn) ?_
            refine r_if_eq_n (pc := 18) (a := 1) (tgt := 30) dX9_house_18 (by decide) (by omega) (fun c18 => ?_) (fun c18 => ?_)
            · exfalso; omega
            · skip
              refine r_iload_n (pc := 21) dX9_house_21 rfl ?_
              refine r_if_lt_n (pc := 22) (a := 3) (tgt := 30) dX9_house_22 (by decide) (by omega) ?_
              refine r_iload_n (pc := 25) dX9_house_25 rfl ?_
              refine r_iconst (pc := 26) (v := 4) dX9_house_26 (by decide) ?_
              refine r_icmp_le_n (pc := 27) (a := 3) (b := 4) (tgt := 40) dX9_house_27 (by decide) (by omega) (by omega) (fun c27 => ?_) (fun c27 => ?_)
              · skip
                refine r_iload_n (pc := 40) dX9_house_40 rfl ?_
                refine r_tblIn (pc := 41) (x := nI 3) (off := 55) (tgt := 96) dX9_house_41 (by decide) (by decide) (by decide) (by decide) ?_
                refine r_aload (pc := 96) dX9_house_96 rfl ?_
                refine r_get1 (pc := 98) 8 5 123 dX9_house_98 (fl_RX9_123 rfl) (by decide) rfl (c8_o h8) (c8_p5 h8) ?_
                refine r_iload_n (pc := 101) dX9_house_101 rfl ?_
                refine r_iald_n (pc := 102) (i := hn) dX9_house_102 (c8_a5 h8) (by decide) (by omega) (v := nI (cnt (dS (dK s k)) hn (dN (dK s k)))) (((hTr.1.2.2.1 _ (by omega)).2.2.2).trans (by rw [cnt_8 hok.1])) ?_
                refine r_ret_i (pc := 103) dX9_house_103 rfl ?_
                rw [ah_y et eh ew] at hx
                obtain rfl := Option.some.inj hx
                exact ⟨by simp [], rfl⟩
              · exfalso; omega
          · skip
            refine r_aload_n (pc := 0) dX9_house_0 rfl ?_
            refine r_iload_n (pc := 1) dX9_house_1 rfl ?_
            refine r_callV_R (pc := 2) (b := 0) (As := [.int (nI k)]) 9 98 dX9_house_2 lk_X9_find (ml_RX9_98 rfl) im_X9_find se_X9_find (by decide) (c9_o h9) (Nat.le_of_ble_eq_true rfl) rfl (find_ct hC.1.1 hC.2.1.1 hcn10 hk (hC.1.2.2.1 k hk)) ?_
            refine r_astore (pc := 5) (L' := [some (.ref 0), some (.int (nI k)), some (.int (nI hn)), some (.int (nI 4)), some (.ref (tA k))]) dX9_house_5 (by decide) rfl rfl ?_
            refine r_aload (pc := 7) dX9_house_7 rfl ?_
            refine r_ifnullR (pc := 9) dX9_house_9 ?_
            refine r_aload (pc := 12) dX9_house_12 rfl ?_
            refine r_iload_n (pc := 14) dX9_house_14 rfl ?_
            refine r_callV_P (pc := 15) (b := tA k) (As := [.int (nI hn)]) 8 102 dX9_house_15 lk_X8_holds (ml_RX9_102 rfl) im_X8_holds se_X8_holds (by decide) (c8_o h8) (Nat.le_of_ble_eq_true rfl) rfl (holds_y h8 hTr.1.1 hn8 hhn) ?_
            refine r_if_eq_n (pc := 18) (a := 1) (tgt := 30) dX9_house_18 (by decide) (by omega) (fun c18 => ?_) (fun c18 => ?_)
            · exfalso; omega
            · skip
              refine r_iload_n (pc := 21) dX9_house_21 rfl ?_
              refine r_if_lt_n (pc := 22) (a := 4) (tgt := 30) dX9_house_22 (by decide) (by omega) ?_
              refine r_iload_n (pc := 25) dX9_house_25 rfl ?_
              refine r_iconst (pc := 26) (v := 4) dX9_house_26 (by decide) ?_
              refine r_icmp_le_n (pc := 27) (a := 4) (b := 4) (tgt := 40) dX9_house_27 (by decide) (by omega) (by omega) (fun c27 => ?_) (fun c27 => ?_)
              · skip
                refine r_iload_n (pc := 40) dX9_house_40 rfl ?_
                refine r_tblOut (pc := 41) (x := nI 4) (tgt := 104) dX9_house_41 (by decide) (by decide) ?_
                refine r_aload (pc := 104) dX9_house_104 rfl ?_
                refine r_iload_n (pc := 106) dX9_house_106 rfl ?_
                refine r_callV_P (pc := 107) (b := tA k) (As := [.int (nI hn)]) 8 126 dX9_house_107 lk_X8_isShop (ml_RX9_126 rfl) im_X8_isShop se_X8_isShop (by decide) (c8_o h8) (Nat.le_of_ble_eq_true rfl) rfl (isShop_y h8 htc hhn hsh) ?_
                refine r_if_eq_n (pc := 110) (a := 1) (tgt := 125) dX9_house_110 (by decide) (by omega) (fun c110 => ?_) (fun c110 => ?_)
                · exfalso; omega
                · skip
                  refine r_aload (pc := 113) dX9_house_113 rfl ?_
                  refine r_get1 (pc := 115) 8 6 129 dX9_house_115 (fl_RX9_129 rfl) (by decide) rfl (c8_o h8) (c8_p6 h8) ?_
                  refine r_iload_n (pc := 118) dX9_house_118 rfl ?_
                  refine r_aald1_n (pc := 119) (i := hn) 6 dX9_house_119 (by decide) (c8_a6 h8) (by decide) (by omega) (c8_q6 h8 (by omega)) ?_
                  refine r_iconst (pc := 120) (v := 0) dX9_house_120 (by decide) ?_
                  refine r_iald_n (pc := 121) (i := 0) dX9_house_121 (c8_r6 h8 (by omega)) (by decide) (by omega) (v := nI (wF (dK s k) hn 0)) (hTr.1.2.2.2 _ _ (by omega) (by omega)) ?_
                  refine r_goto (pc := 122) (tgt := 126) dX9_house_122 (by decide) ?_
                  refine r_ret_i (pc := 126) dX9_house_126 rfl ?_
                  rw [ah_y et eh ew] at hx
                  obtain rfl := Option.some.inj hx
                  exact ⟨by simp [hsh], rfl⟩
              · exfalso; omega
        · skip
          rw [ah_w et eh ew] at hx; cases hx
      · skip
        rcases in_cases (n := 5) (by omega) w with ⟨wn, hwn, rfl, ew⟩ | ⟨ew, hnow⟩
        · skip
          rcases (show wn = 0 ∨ wn = 1 ∨ wn = 2 ∨ wn = 3 ∨ wn = 4 by omega) with rfl | rfl | rfl | rfl | rfl
          · skip
            refine r_aload_n (pc := 0) dX9_house_0 rfl ?_
            refine r_iload_n (pc := 1) dX9_house_1 rfl ?_
            refine r_callV_R (pc := 2) (b := 0) (As := [.int (nI k)]) 9 98 dX9_house_2 lk_X9_find (ml_RX9_98 rfl) im_X9_find se_X9_find (by decide) (c9_o h9) (Nat.le_of_ble_eq_true rfl) rfl (find_ct hC.1.1 hC.2.1.1 hcn10 hk (hC.1.2.2.1 k hk)) ?_
            refine r_astore (pc := 5) (L' := [some (.ref 0), some (.int (nI k)), some (.int (nI hn)), some (.int (nI 0)), some (.ref (tA k))]) dX9_house_5 (by decide) rfl rfl ?_
            refine r_aload (pc := 7) dX9_house_7 rfl ?_
            refine r_ifnullR (pc := 9) dX9_house_9 ?_
            refine r_aload (pc := 12) dX9_house_12 rfl ?_
            refine r_iload_n (pc := 14) dX9_house_14 rfl ?_
            refine r_callV_P (pc := 15) (b := tA k) (As := [.int (nI hn)]) 8 102 dX9_house_15 lk_X8_holds (ml_RX9_102 rfl) im_X8_holds se_X8_holds (by decide) (c8_o h8) (Nat.le_of_ble_eq_true rfl) rfl (holds_y h8 hTr.1.1 hn8 hhn) ?_
            refine r_if_eq_n (pc := 18) (a := 1) (tgt := 30) dX9_house_18 (by decide) (by omega) (fun c18 => ?_) (fun c18 => ?_)
            · exfalso; omega
            · skip
              refine r_iload_n (pc := 21) dX9_house_21 rfl ?_
              refine r_if_lt_n (pc := 22) (a := 0) (tgt := 30) dX9_house_22 (by decide) (by omega) ?_
              refine r_iload_n (pc := 25) dX9_house_25 rfl ?_
              refine r_iconst (pc := 26) (v := 4) dX9_house_26 (by decide) ?_
              refine r_icmp_le_n (pc := 27) (a := 0) (b := 4) (tgt := 40) dX9_house_27 (by decide) (by omega) (by omega) (fun c27 => ?_) (fun c27 => ?_)
              · skip
                refine r_iload_n (pc := 40) dX9_house_40 rfl ?_
                refine r_tblIn (pc := 41) (x := nI 0) (off := 31) (tgt := 72) dX9_house_41 (by decide) (by decide) (by decide) (by decide) ?_
                refine r_aload (pc := 72) dX9_house_72 rfl ?_
                refine r_get1 (pc := 74) 8 2 113 dX9_house_74 (fl_RX9_113 rfl) (by decide) rfl (c8_o h8) (c8_p2 h8) ?_
                refine r_iload_n (pc := 77) dX9_house_77 rfl ?_
                refine r_iald_n (pc := 78) (i := hn) dX9_house_78 (c8_a2 h8) (by decide) (by omega) (v := nI (dC (dK s k) hn)) ((hTr.1.2.2.1 _ (by omega)).1) ?_
                refine r_ret_i (pc := 79) dX9_house_79 rfl ?_
                rw [ah_y et eh ew] at hx
                obtain rfl := Option.some.inj hx
                exact ⟨by simp [], rfl⟩
              · exfalso; omega
          · skip
            refine r_aload_n (pc := 0) dX9_house_0 rfl ?_
            refine r_iload_n (pc := 1) dX9_house_1 rfl ?_
            refine r_callV_R (pc := 2) (b := 0) (As := [.int (nI k)]) 9 98 dX9_house_2 lk_X9_find (ml_RX9_98 rfl) im_X9_find se_X9_find (by decide) (c9_o h9) (Nat.le_of_ble_eq_true rfl) rfl (find_ct hC.1.1 hC.2.1.1 hcn10 hk (hC.1.2.2.1 k hk)) ?_
            refine r_astore (pc := 5) (L' := [some (.ref 0), some (.int (nI k)), some (.int (nI hn)), some (.int (nI 1)), some (.ref (tA k))]) dX9_house_5 (by decide) rfl rfl ?_
            refine r_aload (pc := 7) dX9_house_7 rfl ?_
            refine r_ifnullR (pc := 9) dX9_house_9 ?_
            refine r_aload (pc := 12) dX9_house_12 rfl ?_
            refine r_iload_n (pc := 14) dX9_house_14 rfl ?_
            refine r_callV_P (pc := 15) (b := tA k) (As := [.int (nI hn)]) 8 102 dX9_house_15 lk_X8_holds (ml_RX9_102 rfl) im_X8_holds se_X8_holds (by decide) (c8_o h8) (Nat.le_of_ble_eq_true rfl) rfl (holds_y h8 hTr.1.1 hn8 hhn) ?_
            refine r_if_eq_n (pc := 18) (a := 1) (tgt := 30) dX9_house_18 (by decide) (by omega) (fun c18 => ?_) (fun c18 => ?_)
            · exfalso; omega
            · skip
              refine r_iload_n (pc := 21) dX9_house_21 rfl ?_
              refine r_if_lt_n (pc := 22) (a := 1) (tgt := 30) dX9_house_22 (by decide) (by omega) ?_
              refine r_iload_n (pc := 25) dX9_house_25 rfl ?_
              refine r_iconst (pc := 26) (v := 4) dX9_house_26 (by decide) ?_
              refine r_icmp_le_n (pc := 27) (a := 1) (b := 4) (tgt := 40) dX9_house_27 (by decide) (by omega) (by omega) (fun c27 => ?_) (fun c27 => ?_)
              · skip
                refine r_iload_n (pc := 40) dX9_house_40 rfl ?_
                refine r_tblIn (pc := 41) (x := nI 1) (off := 39) (tgt := 80) dX9_house_41 (by decide) (by decide) (by decide) (by decide) ?_
                refine r_aload (pc := 80) dX9_house_80 rfl ?_
                refine r_get1 (pc := 82) 8 3 117 dX9_house_82 (fl_RX9_117 rfl) (by decide) rfl (c8_o h8) (c8_p3 h8) ?_
                refine r_iload_n (pc := 85) dX9_house_85 rfl ?_
                refine r_iald_n (pc := 86) (i := hn) dX9_house_86 (c8_a3 h8) (by decide) (by omega) (v := sI (dS (dK s k) hn)) ((hTr.1.2.2.1 _ (by omega)).2.1) ?_
                refine r_ret_i (pc := 87) dX9_house_87 rfl ?_
                rw [ah_y et eh ew] at hx
                obtain rfl := Option.some.inj hx
                exact ⟨by simp [], rfl⟩
              · exfalso; omega
          · skip
            refine r_aload_n (pc := 0) dX9_house_0 rfl ?_
            refine r_iload_n (pc := 1) dX9_house_1 rfl ?_
            refine r_callV_R (pc := 2) (b := 0) (As := [.int (nI k)]) 9 98 dX9_house_2 lk_X9_find (ml_RX9_98 rfl) im_X9_find se_X9_find (by decide) (c9_o h9) (Nat.le_of_ble_eq_true rfl) rfl (find_ct hC.1.1 hC.2.1.1 hcn10 hk (hC.1.2.2.1 k hk)) ?_
            refine r_astore (pc := 5) (L' := [some (.ref 0), some (.int (nI k)), some (.int (nI hn)), some (.int (nI 2)), some (.ref (tA k))]) dX9_house_5 (by decide) rfl rfl ?_
            refine r_aload (pc := 7) dX9_house_7 rfl ?_
            refine r_ifnullR (pc := 9) dX9_house_9 ?_
            refine r_aload (pc := 12) dX9_house_12 rfl ?_
            refine r_iload_n (pc := 14) dX9_house_14 rfl ?_
            refine r_callV_P (pc := 15) (b := tA k) (As := [.int (nI hn)]) 8 102 dX9_house_15 lk_X8_holds (ml_RX9_102 rfl) im_X8_holds se_X8_holds (by decide) (c8_o h8) (Nat.le_of_ble_eq_true rfl) rfl (holds_y h8 hTr.1.1 hn8 hhn) ?_
            refine r_if_eq_n (pc := 18) (a := 1) (tgt := 30) dX9_house_18 (by decide) (by omega) (fun c18 => ?_) (fun c18 => ?_)
            · exfalso; omega
            · skip
              refine r_iload_n (pc := 21) dX9_house_21 rfl ?_
              refine r_if_lt_n (pc := 22) (a := 2) (tgt := 30) dX9_house_22 (by decide) (by omega) ?_
              refine r_iload_n (pc := 25) dX9_house_25 rfl ?_
              refine r_iconst (pc := 26) (v := 4) dX9_house_26 (by decide) ?_
              refine r_icmp_le_n (pc := 27) (a := 2) (b := 4) (tgt := 40) dX9_house_27 (by decide) (by omega) (by omega) (fun c27 => ?_) (fun c27 => ?_)
              · skip
                refine r_iload_n (pc := 40) dX9_house_40 rfl ?_
                refine r_tblIn (pc := 41) (x := nI 2) (off := 47) (tgt := 88) dX9_house_41 (by decide) (by decide) (by decide) (by decide) ?_
                refine r_aload (pc := 88) dX9_house_88 rfl ?_
                refine r_get1 (pc := 90) 8 4 120 dX9_house_90 (fl_RX9_120 rfl) (by decide) rfl (c8_o h8) (c8_p4 h8) ?_
                refine r_iload_n (pc := 93) dX9_house_93 rfl ?_
                refine r_iald_n (pc := 94) (i := hn) dX9_house_94 (c8_a4 h8) (by decide) (by omega) (v := nI (dE (dK s k) hn)) ((hTr.1.2.2.1 _ (by omega)).2.2.1) ?_
                refine r_ret_i (pc := 95) dX9_house_95 rfl ?_
                rw [ah_y et eh ew] at hx
                obtain rfl := Option.some.inj hx
                exact ⟨by simp [], rfl⟩
              · exfalso; omega
          · skip
            refine r_aload_n (pc := 0) dX9_house_0 rfl ?_
            refine r_iload_n (pc := 1) dX9_house_1 rfl ?_
            refine r_callV_R (pc := 2) (b := 0) (As := [.int (nI k)]) 9 98 dX9_house_2 lk_X9_find (ml_RX9_98 rfl) im_X9_find se_X9_find (by decide) (c9_o h9) (Nat.le_of_ble_eq_true rfl) rfl (find_ct hC.1.1 hC.2.1.1 hcn10 hk (hC.1.2.2.1 k hk)) ?_
            refine r_astore (pc := 5) (L' := [some (.ref 0), some (.int (nI k)), some (.int (nI hn)), some (.int (nI 3)), some (.ref (tA k))]) dX9_house_5 (by decide) rfl rfl ?_
            refine r_aload (pc := 7) dX9_house_7 rfl ?_
            refine r_ifnullR (pc := 9) dX9_house_9 ?_
            refine r_aload (pc := 12) dX9_house_12 rfl ?_
            refine r_iload_n (pc := 14) dX9_house_14 rfl ?_
            refine r_callV_P (pc := 15) (b := tA k) (As := [.int (nI hn)]) 8 102 dX9_house_15 lk_X8_holds (ml_RX9_102 rfl) im_X8_holds se_X8_holds (by decide) (c8_o h8) (Nat.le_of_ble_eq_true rfl) rfl (holds_y h8 hTr.1.1 hn8 hhn) ?_
            refine r_if_eq_n (pc := 18) (a := 1) (tgt := 30) dX9_house_18 (by decide) (by omega) (fun c18 => ?_) (fun c18 => ?_)
            · exfalso; omega
            · skip
              refine r_iload_n (pc := 21) dX9_house_21 rfl ?_
              refine r_if_lt_n (pc := 22) (a := 3) (tgt := 30) dX9_house_22 (by decide) (by omega) ?_
              refine r_iload_n (pc := 25) dX9_house_25 rfl ?_
              refine r_iconst (pc := 26) (v := 4) dX9_house_26 (by decide) ?_
              refine r_icmp_le_n (pc := 27) (a := 3) (b := 4) (tgt := 40) dX9_house_27 (by decide) (by omega) (by omega) (fun c27 => ?_) (fun c27 => ?_)
              · skip
                refine r_iload_n (pc := 40) dX9_house_40 rfl ?_
                refine r_tblIn (pc := 41) (x := nI 3) (off := 55) (tgt := 96) dX9_house_41 (by decide) (by decide) (by decide) (by decide) ?_
                refine r_aload (pc := 96) dX9_house_96 rfl ?_
                refine r_get1 (pc := 98) 8 5 123 dX9_house_98 (fl_RX9_123 rfl) (by decide) rfl (c8_o h8) (c8_p5 h8) ?_
                refine r_iload_n (pc := 101) dX9_house_101 rfl ?_
                refine r_iald_n (pc := 102) (i := hn) dX9_house_102 (c8_a5 h8) (by decide) (by omega) (v := nI (cnt (dS (dK s k)) hn (dN (dK s k)))) (((hTr.1.2.2.1 _ (by omega)).2.2.2).trans (by rw [cnt_8 hok.1])) ?_
                refine r_ret_i (pc := 103) dX9_house_103 rfl ?_
                rw [ah_y et eh ew] at hx
                obtain rfl := Option.some.inj hx
                exact ⟨by simp [], rfl⟩
              · exfalso; omega
          · skip
            refine r_aload_n (pc := 0) dX9_house_0 rfl ?_
            refine r_iload_n (pc := 1) dX9_house_1 rfl ?_
            refine r_callV_R (pc := 2) (b := 0) (As := [.int (nI k)]) 9 98 dX9_house_2 lk_X9_find (ml_RX9_98 rfl) im_X9_find se_X9_find (by decide) (c9_o h9) (Nat.le_of_ble_eq_true rfl) rfl (find_ct hC.1.1 hC.2.1.1 hcn10 hk (hC.1.2.2.1 k hk)) ?_
            refine r_astore (pc := 5) (L' := [some (.ref 0), some (.int (nI k)), some (.int (nI hn)), some (.int (nI 4)), some (.ref (tA k))]) dX9_house_5 (by decide) rfl rfl ?_
            refine r_aload (pc := 7) dX9_house_7 rfl ?_
            refine r_ifnullR (pc := 9) dX9_house_9 ?_
            refine r_aload (pc := 12) dX9_house_12 rfl ?_
            refine r_iload_n (pc := 14) dX9_house_14 rfl ?_
            refine r_callV_P (pc := 15) (b := tA k) (As := [.int (nI hn)]) 8 102 dX9_house_15 lk_X8_holds (ml_RX9_102 rfl) im_X8_holds se_X8_holds (by decide) (c8_o h8) (Nat.le_of_ble_eq_true rfl) rfl (holds_y h8 hTr.1.1 hn8 hhn) ?_
            refine r_if_eq_n (pc := 18) (a := 1) (tgt := 30) dX9_house_18 (by decide) (by omega) (fun c18 => ?_) (fun c18 => ?_)
            · exfalso; omega
            · skip
              refine r_iload_n (pc := 21) dX9_house_21 rfl ?_
              refine r_if_lt_n (pc := 22) (a := 4) (tgt := 30) dX9_house_22 (by decide) (by omega) ?_
              refine r_iload_n (pc := 25) dX9_house_25 rfl ?_
              refine r_iconst (pc := 26) (v := 4) dX9_house_26 (by decide) ?_
              refine r_icmp_le_n (pc := 27) (a := 4) (b := 4) (tgt := 40) dX9_house_27 (by decide) (by omega) (by omega) (fun c27 => ?_) (fun c27 => ?_)
              · skip
                refine r_iload_n (pc := 40) dX9_house_40 rfl ?_
                refine r_tblOut (pc := 41) (x := nI 4) (tgt := 104) dX9_house_41 (by decide) (by decide) ?_
                refine r_aload (pc := 104) dX9_house_104 rfl ?_
                refine r_iload_n (pc := 106) dX9_house_106 rfl ?_
                refine r_callV_P (pc := 107) (b := tA k) (As := [.int (nI hn)]) 8 126 dX9_house_107 lk_X8_isShop (ml_RX9_126 rfl) im_X8_isShop se_X8_isShop (by decide) (c8_o h8) (Nat.le_of_ble_eq_true rfl) rfl (isShop_n h8 htc hhn hsh) ?_
                refine r_if_eq_n (pc := 110) (a := 0) (tgt := 125) dX9_house_110 (by decide) (by omega) (fun c110 => ?_) (fun c110 => ?_)
                · skip
                  refine r_iconst (pc := 125) (v := 0) dX9_house_125 (by decide) ?_
                  refine r_ret_i (pc := 126) dX9_house_126 rfl ?_
                  rw [ah_y et eh ew] at hx
                  obtain rfl := Option.some.inj hx
                  exact ⟨by simp [hsh], rfl⟩
                · exfalso; omega
              · exfalso; omega
        · skip
          rw [ah_w et eh ew] at hx; cases hx
    · skip
      rw [ah_h et eh] at hx; cases hx
  · skip
    rw [ah_t et] at hx; cases hx


/-! ===== house of the class: where the question is wrong, it comes to the throw ===== -/
def PXh : PT := fun l A s _ ex => ex = [] ∧ TW l A s s.heap
def EXh (pc : Nat) (r : Option Value) : Prop := pc = 30 ∧ r = none
theorem PXh_ex {i : Nat} : Pex PXh i := fun _ _ _ _ _ h q hq => by rw [h.1] at hq; cases hq

set_option maxHeartbeats 300000 in
set_option maxRecDepth 100000 in
theorem house_w {d : Nat} {I : Im} {G : Gm} {s : Sta} (hC : Ci s I G) {t h w : Int32} (hx : aHouse s t h w = none) : wpS PXh EXh (d + 3) 0 0 YX9_house 0 [some (.ref 0), some (.int t), some (.int h), some (.int w), none] [] (I, G) (fun _ M => M = (I, G)) := by
  have h9 := hC.1.1
  have hcn10 := hC.2.1.2.1
  rcases in_cases (n := sN s) (by have := hcn10; omega) t with ⟨k, hk, rfl, et⟩ | ⟨et, hnot⟩
  · skip
    have h8 := hC.1.2.1 k (by omega)
    obtain ⟨hok, hTr⟩ := hC.ok hk
    have hn8 : dN (dK s k) ≤ 8 := hok.1.1.2
    have hoff := tA_off k
    refine T_aload_n (pc := 0) dX9_house_0 rfl ?_
    refine T_iload_n (pc := 1) dX9_house_1 rfl ?_
    refine T_callV_R (d := d + 2) (pc := 2) (b := 0) (As := [.int (nI k)]) (x := some (tA k)) 9 98 dX9_house_2 lk_X9_find (ml_RX9_98 rfl) im_X9_find se_X9_find (by decide) (c9_o h9) (Nat.le_of_ble_eq_true rfl) rfl (find_ct hC.1.1 hC.2.1.1 hcn10 hk (hC.1.2.2.1 k hk)) ?_
    refine T_astore (pc := 5) (L' := [some (.ref 0), some (.int (nI k)), some (.int h), some (.int w), some (.ref (tA k))]) dX9_house_5 (by decide) rfl PXh_ex rfl ?_
    refine T_aload (pc := 7) dX9_house_7 rfl ?_
    refine T_ifnullR (pc := 9) dX9_house_9 ?_
    refine T_aload (pc := 12) dX9_house_12 rfl ?_
    refine T_iload_n (pc := 14) dX9_house_14 rfl ?_
    rcases in_cases (n := dN (dK s k)) (by have := hn8; omega) h with ⟨hn, hhn, rfl, eh⟩ | ⟨eh, hnoh⟩
    · skip
      refine T_callV_P (d := d + 2) (pc := 15) (b := tA k) (As := [.int (nI hn)]) 8 102 dX9_house_15 lk_X8_holds (ml_RX9_102 rfl) im_X8_holds se_X8_holds (by decide) (c8_o h8) (Nat.le_of_ble_eq_true rfl) rfl (holds_y h8 hTr.1.1 hn8 hhn) ?_
      refine T_if_eq (pc := 18) (x := 1) (tgt := 30) dX9_house_18 (by decide) (fun z => absurd z (by decide)) (fun _ => ?_)
      refine T_iload_n (pc := 21) dX9_house_21 rfl ?_
      refine T_if_lt (pc := 22) (x := w) (tgt := 30) dX9_house_22 (by decide) (fun c22 => T_end ⟨rfl, rfl⟩ rfl rfl) (fun c22 => ?_)
      refine T_iload_n (pc := 25) dX9_house_25 rfl ?_
      refine T_iconst (pc := 26) (v := 4) dX9_house_26 (by decide) ?_
      refine T_icmp_le (pc := 27) (x := w) (z := 4) (tgt := 40) dX9_house_27 (by decide) (fun c27 => ?_) (fun c27 => T_end ⟨rfl, rfl⟩ rfl rfl)
      rcases in_cases (n := 5) (by omega) w with ⟨wn, hwn, rfl, ew⟩ | ⟨ew, hnow⟩
      · rw [ah_y et eh ew] at hx; cases hx
      · exact (rg_no (n := 4) (by omega) hnow c22 c27).elim
    · skip
      refine T_callV_P (d := d + 2) (pc := 15) (b := tA k) (As := [.int h]) 8 102 dX9_house_15 lk_X8_holds (ml_RX9_102 rfl) im_X8_holds se_X8_holds (by decide) (c8_o h8) (Nat.le_of_ble_eq_true rfl) rfl (holds_n h8 hTr.1.1 hnoh) ?_
      exact T_if_eq (pc := 18) (x := 0) (tgt := 30) dX9_house_18 (by decide) (fun _ => T_end ⟨rfl, rfl⟩ rfl rfl) (fun z => absurd rfl z)
  · skip
    refine T_aload_n (pc := 0) dX9_house_0 rfl ?_
    refine T_iload_n (pc := 1) dX9_house_1 rfl ?_
    refine T_callV_R (d := d + 2) (pc := 2) (b := 0) (As := [.int t]) (x := none) 9 98 dX9_house_2 lk_X9_find (ml_RX9_98 rfl) im_X9_find se_X9_find (by decide) (c9_o h9) (Nat.le_of_ble_eq_true rfl) rfl (find_no hC.1.1 (by rw [hC.2.1.1]; exact hnot)) ?_
    refine T_astoreN (pc := 5) (L' := [some (.ref 0), some (.int t), some (.int h), some (.int w), some .null]) dX9_house_5 (by decide) rfl PXh_ex rfl ?_
    refine T_aloadN (pc := 7) dX9_house_7 rfl ?_
    exact T_ifnullN (pc := 9) (tgt := 30) dX9_house_9 (by decide) (T_end ⟨rfl, rfl⟩ rfl rfl)