/-! ===== the reference: rivals, makers ===== -/

set_option maxHeartbeats 300000 in
set_option maxRecDepth 100000 in
theorem rivals_m {d : Nat} {I : Im} {G : Gm} {s : Sta} {m : Nat} (hm : isC10 G m) (hM : Mi s I m) {t : Int32} {x : Int32} {y : Int32} {u : Int32} {v : Int32} {i : Int32} : Ct (d + 4) 0 0 YX10_rivals [.ref m, .int t, .int x, .int y, .int u, .int v, .int i] (I, G) (qM G (fun zv I2 => PmQ s I m (aRivals s t x y u v i) zv I2)) := by
  refine Ct.of (by decide) (by simp [Value.category]) (Nat.le_of_ble_eq_true rfl) ?_
  have hcn := hM.2.1
  have hcn10 := hM.2.2.1
  have hZ : FrZ I I m := FrZ.rf
  show wp _ _ _ _ 0 [some (.ref m), some (.int t), some (.int x), some (.int y), some (.int u), some (.int v), some (.int i), none, none, none, none] [] _ _
  rcases in_cases (n := sN s) (by have := hcn10; omega) t with ⟨k, hk, rfl, et⟩ | ⟨et, hnot⟩
  · skip
    obtain ⟨hok, hMd⟩ := hM.2.2.2.1 k hk
    have hk0 : MtC I m k (eK' s k) (dT (dK s k)) := mtc_of hok.1 hMd.1 _
    have hn8 : dN (dK s k) ≤ 8 := hok.1.1.2
    have hE : SrC (eK' s k) := src_of hok.1 _
    have hW : WbC (eK' s k) := wbc_of hok.1 _
    have hc30 : ∀ b, dC (dK s k) b ≤ 30 := hok.1.2.1
    rcases in_cases (n := dN (dK s k)) (by have := hn8; omega) x with ⟨xn, hxn, rfl, ex⟩ | ⟨ex, hnox⟩
    · skip
      by_cases hsx : shP (dK s k) xn
      · skip
        rcases in_cases (n := dN (dK s k)) (by have := hn8; omega) y with ⟨yn, hyn, rfl, ey⟩ | ⟨ey, hnoy⟩
        · skip
          by_cases hsy : shP (dK s k) yn
          · skip
            by_cases hxy : xn = yn
            · skip
              refine r_aload_n (pc := 0) dX10_rivals_0 rfl ?_
              refine r_iconst (pc := 1) (v := 0) dX10_rivals_1 (by decide) ?_
              refine r_putI (pc := 2) (v := nI 0) 10 0 84 dX10_rivals_2 (fl_RX10_84 rfl) (by decide) rfl rfl (c10_o hm) ?_
              obtain ⟨Ia, hIa⟩ : ∃ zz0 : Im, zz0 = up2 I m 0 (nI 0) := ⟨_, rfl⟩
              refine wp_M (M2 := (Ia, G)) (by subst hIa; rfl) ?_
              have hZ : FrZ I Ia m := by rw [hIa]; exact FrZ.rf.u (by omega)
              refine r_aload_n (pc := 5) dX10_rivals_5 rfl ?_
              refine r_iload_n (pc := 6) dX10_rivals_6 rfl ?_
              refine r_iload_n (pc := 7) dX10_rivals_7 rfl ?_
              refine r_callV_P (pc := 8) (b := m) (As := [.int (nI k), .int (nI xn)]) 10 165 dX10_rivals_8 lk_X10_isShop (ml_RX10_165 rfl) im_X10_isShop se_X10_isShop (by decide) (c10_o hm) (Nat.le_of_ble_eq_true rfl) rfl (isShopM_y hm (hZ.mt hk0) (hZ.c hcn) hcn10 hk hxn hsx) ?_
              refine r_if_eq_n (pc := 11) (a := 1) (tgt := 44) dX10_rivals_11 (by decide) (by first | omega | (have := hW.2.2.2 xn p; have := hW.2.2.2 yn p; have := hW.2.2.2 xn q; have := hW.2.2.2 yn q; omega)) (fun c11 => ?_) (fun c11 => ?_)
              · exfalso; omega
              · skip
                refine r_aload_n (pc := 14) dX10_rivals_14 rfl ?_
                refine r_iload_n (pc := 15) dX10_rivals_15 rfl ?_
                refine r_iload_n (pc := 16) dX10_rivals_16 rfl ?_
                refine r_callV_P (pc := 17) (b := m) (As := [.int (nI k), .int (nI yn)]) 10 165 dX10_rivals_17 lk_X10_isShop (ml_RX10_165 rfl) im_X10_isShop se_X10_isShop (by decide) (c10_o hm) (Nat.le_of_ble_eq_true rfl) rfl (isShopM_y hm (hZ.mt hk0) (hZ.c hcn) hcn10 hk hyn hsy) ?_
                refine r_if_eq_n (pc := 20) (a := 1) (tgt := 44) dX10_rivals_20 (by decide) (by first | omega | (have := hW.2.2.2 xn p; have := hW.2.2.2 yn p; have := hW.2.2.2 xn q; have := hW.2.2.2 yn q; omega)) (fun c20 => ?_) (fun c20 => ?_)
                · exfalso; omega
                · skip
                  refine r_iload_n (pc := 23) dX10_rivals_23 rfl ?_
                  refine r_iload_n (pc := 24) dX10_rivals_24 rfl ?_
                  refine r_icmp_eq_n (pc := 25) (a := xn) (b := yn) (tgt := 44) dX10_rivals_25 (by decide) (by first | omega | (have := hW.2.2.2 xn p; have := hW.2.2.2 yn p; have := hW.2.2.2 xn q; have := hW.2.2.2 yn q; omega)) (by first | omega | (have := hW.2.2.2 xn p; have := hW.2.2.2 yn p; have := hW.2.2.2 xn q; have := hW.2.2.2 yn q; omega)) (fun c25 => ?_) (fun c25 => ?_)
                  · skip
                    refine r_iconst (pc := 44) (v := -1) dX10_rivals_44 (by decide) ?_
                    refine r_ret_i (pc := 45) dX10_rivals_45 rfl ?_
                    exact ⟨_, Ia, rfl, rfl, (by unfold aRivals; rw [atN_s et, atN_s ex, if_pos hsx, atN_s ey, if_pos hsy, if_pos hxy] <;> rfl), hM.z hZ, fun x j z => hZ x j (by omega) (by omega)⟩
                  · exfalso; exact c25 hxy
            · skip
              rcases in_cases (n := 42) (by omega) u with ⟨un, hun, rfl, eu⟩ | ⟨eu, hnou⟩
              · skip
                rcases in_cases (n := 42) (by omega) v with ⟨vn, hvn, rfl, ev⟩ | ⟨ev, hnov⟩
                · skip
                  refine r_aload_n (pc := 0) dX10_rivals_0 rfl ?_
                  refine r_iconst (pc := 1) (v := 0) dX10_rivals_1 (by decide) ?_
                  refine r_putI (pc := 2) (v := nI 0) 10 0 84 dX10_rivals_2 (fl_RX10_84 rfl) (by decide) rfl rfl (c10_o hm) ?_
                  obtain ⟨Ia, hIa⟩ : ∃ zz0 : Im, zz0 = up2 I m 0 (nI 0) := ⟨_, rfl⟩
                  refine wp_M (M2 := (Ia, G)) (by subst hIa; rfl) ?_
                  have hZ : FrZ I Ia m := by rw [hIa]; exact FrZ.rf.u (by omega)
                  refine r_aload_n (pc := 5) dX10_rivals_5 rfl ?_
                  refine r_iload_n (pc := 6) dX10_rivals_6 rfl ?_
                  refine r_iload_n (pc := 7) dX10_rivals_7 rfl ?_
                  refine r_callV_P (pc := 8) (b := m) (As := [.int (nI k), .int (nI xn)]) 10 165 dX10_rivals_8 lk_X10_isShop (ml_RX10_165 rfl) im_X10_isShop se_X10_isShop (by decide) (c10_o hm) (Nat.le_of_ble_eq_true rfl) rfl (isShopM_y hm (hZ.mt hk0) (hZ.c hcn) hcn10 hk hxn hsx) ?_
                  refine r_if_eq_n (pc := 11) (a := 1) (tgt := 44) dX10_rivals_11 (by decide) (by first | omega | (have := hW.2.2.2 xn p; have := hW.2.2.2 yn p; have := hW.2.2.2 xn q; have := hW.2.2.2 yn q; omega)) (fun c11 => ?_) (fun c11 => ?_)
                  · exfalso; omega
                  · skip
                    refine r_aload_n (pc := 14) dX10_rivals_14 rfl ?_
                    refine r_iload_n (pc := 15) dX10_rivals_15 rfl ?_
                    refine r_iload_n (pc := 16) dX10_rivals_16 rfl ?_
                    refine r_callV_P (pc := 17) (b := m) (As := [.int (nI k), .int (nI yn)]) 10 165 dX10_rivals_17 lk_X10_isShop (ml_RX10_165 rfl) im_X10_isShop se_X10_isShop (by decide) (c10_o hm) (Nat.le_of_ble_eq_true rfl) rfl (isShopM_y hm (hZ.mt hk0) (hZ.c hcn) hcn10 hk hyn hsy) ?_
                    refine r_if_eq_n (pc := 20) (a := 1) (tgt := 44) dX10_rivals_20 (by decide) (by first | omega | (have := hW.2.2.2 xn p; have := hW.2.2.2 yn p; have := hW.2.2.2 xn q; have := hW.2.2.2 yn q; omega)) (fun c20 => ?_) (fun c20 => ?_)
                    · exfalso; omega
                    · skip
                      refine r_iload_n (pc := 23) dX10_rivals_23 rfl ?_
                      refine r_iload_n (pc := 24) dX10_rivals_24 rfl ?_
                      refine r_icmp_eq_n (pc := 25) (a := xn) (b := yn) (tgt := 44) dX10_rivals_25 (by decide) (by first | omega | (have := hW.2.2.2 xn p; have := hW.2.2.2 yn p; have := hW.2.2.2 xn q; have := hW.2.2.2 yn q; omega)) (by first | omega | (have := hW.2.2.2 xn p; have := hW.2.2.2 yn p; have := hW.2.2.2 xn q; have := hW.2.2.2 yn q; omega)) (fun c25 => ?_) (fun c25 => ?_)
                      · exfalso; exact hxy c25
                      · skip
                        refine r_iload (pc := 28) dX10_rivals_28 rfl ?_
                        refine r_callS_P (pc := 30) (As := [.int (nI un)]) 172 dX10_rivals_30 lk_X10_isPrice (ml_RX10_172 rfl) sm_X10_isPrice (Nat.le_of_ble_eq_true rfl) rfl (isPriceM_y hun) ?_
                        refine r_if_eq_n (pc := 33) (a := 1) (tgt := 44) dX10_rivals_33 (by decide) (by first | omega | (have := hW.2.2.2 xn p; have := hW.2.2.2 yn p; have := hW.2.2.2 xn q; have := hW.2.2.2 yn q; omega)) (fun c33 => ?_) (fun c33 => ?_)
                        · exfalso; omega
                        · skip
                          refine r_iload (pc := 36) dX10_rivals_36 rfl ?_
                          refine r_callS_P (pc := 38) (As := [.int (nI vn)]) 172 dX10_rivals_38 lk_X10_isPrice (ml_RX10_172 rfl) sm_X10_isPrice (Nat.le_of_ble_eq_true rfl) rfl (isPriceM_y hvn) ?_
                          refine r_if_ne_n (pc := 41) (a := 1) (tgt := 46) dX10_rivals_41 (by decide) (by first | omega | (have := hW.2.2.2 xn p; have := hW.2.2.2 yn p; have := hW.2.2.2 xn q; have := hW.2.2.2 yn q; omega)) (fun c41 => ?_) (fun c41 => ?_)
                          · skip
                            refine r_iconst (pc := 46) (v := 0) dX10_rivals_46 (by decide) ?_
                            refine r_istore (pc := 47) (L' := [some (.ref m), some (.int (nI k)), some (.int (nI xn)), some (.int (nI yn)), some (.int (nI un)), some (.int (nI vn)), some (.int i), some (.int (nI 0)), none, none, none]) dX10_rivals_47 (by decide) rfl rfl ?_
                            have lp49 : ∀ (n49 : Nat), ∀ (p : Nat) (I2 : Im), 42 - p = n49 → (p ≤ 42) → (FrZ I I2 m) → (∀ x y, y < 42 → 42 * x + y < 42 * p → I2 (m + 21) (42 * x + y) = gdF (fun x => (nI x - nI un) * (nI (wF (dK s k) xn x) + nI (wF (dK s k) yn x))) (fun x => (nI x - nI un) * nI (wF (dK s k) xn x)) x y) → (∀ x y, y < 42 → 42 * x + y < 42 * p → I2 (m + 22) (42 * x + y) = gdF (fun x => (nI x - nI vn) * (nI (wF (dK s k) xn x) + nI (wF (dK s k) yn x))) (fun x => (nI x - nI vn) * nI (wF (dK s k) yn x)) y x) → wp (d + 4) 0 0 YX10_rivals 49 [some (.ref m), some (.int (nI k)), some (.int (nI xn)), some (.int (nI yn)), some (.int (nI un)), some (.int (nI vn)), some (.int i), some (.int (nI p)), none, none, none] [] (I2, G) (qM G (fun zv I2 => PmQ s I m (aRivals s (nI k) (nI xn) (nI yn) (nI un) (nI vn) i) zv I2)) := by
                              intro n49
                              induction n49 using Nat.strongRecOn with
                              | ind n49 ih49 =>
                                intro p I2 hmu49 hp hZ2 hF2 hS2
                                refine r_iload (pc := 49) dX10_rivals_49 rfl ?_
                                refine r_bipush (pc := 51) (v := 41) dX10_rivals_51 (by decide) ?_
                                refine r_icmp_gt_n (pc := 53) (a := p) (b := 41) (tgt := 202) dX10_rivals_53 (by decide) (by first | omega | (have := hW.2.2.2 xn p; have := hW.2.2.2 yn p; have := hW.2.2.2 xn q; have := hW.2.2.2 yn q; omega)) (by first | omega | (have := hW.2.2.2 xn p; have := hW.2.2.2 yn p; have := hW.2.2.2 xn q; have := hW.2.2.2 yn q; omega)) (fun c53 => ?_) (fun c53 => ?_)
                                · skip
                                  refine r_aload_n (pc := 202) dX10_rivals_202 rfl ?_
                                  have hZ := hZ2
                                  refine r_iload (pc := 203) dX10_rivals_203 rfl ?_
                                  refine r_callV_P (pc := 205) (b := m) (As := [.int i]) 10 288 dX10_rivals_205 lk_X10_restsOf (ml_RX10_288 rfl) im_X10_restsOf se_X10_restsOf (by decide) (c10_o hm) (Nat.le_of_ble_eq_true rfl) rfl (restsOf_ct hm) ?_
                                  refine r_ret_i (pc := 208) dX10_rivals_208 rfl ?_
                                  exact ⟨_, I2, rfl, rfl, (by unfold aRivals; rw [atN_s et, atN_s ex, if_pos hsx, atN_s ey, if_pos hsy, if_neg hxy, atN_s eu, atN_s ev]; unfold riF; exact scA_congr (fun r hr => du_same (fun x q hx hq => hF2 x q hq (by omega)) (fun p y hp2 hy => hS2 p y hy (by omega)) hr)), hM.z hZ, fun x j z => hZ x j (by omega) (by omega)⟩
                                · skip
                                  refine r_iconst (pc := 56) (v := 0) dX10_rivals_56 (by decide) ?_
                                  refine r_istore (pc := 57) (L' := [some (.ref m), some (.int (nI k)), some (.int (nI xn)), some (.int (nI yn)), some (.int (nI un)), some (.int (nI vn)), some (.int i), some (.int (nI p)), some (.int (nI 0)), none, none]) dX10_rivals_57 (by decide) rfl rfl ?_
                                  have lp59 : ∀ (n59 : Nat), ∀ (q : Nat) (I3 : Im), 42 - q = n59 → (q ≤ 42) → (FrZ I I3 m) → (∀ x y, y < 42 → 42 * x + y < 42 * p + q → I3 (m + 21) (42 * x + y) = gdF (fun x => (nI x - nI un) * (nI (wF (dK s k) xn x) + nI (wF (dK s k) yn x))) (fun x => (nI x - nI un) * nI (wF (dK s k) xn x)) x y) → (∀ x y, y < 42 → 42 * x + y < 42 * p + q → I3 (m + 22) (42 * x + y) = gdF (fun x => (nI x - nI vn) * (nI (wF (dK s k) xn x) + nI (wF (dK s k) yn x))) (fun x => (nI x - nI vn) * nI (wF (dK s k) yn x)) y x) → wp (d + 4) 0 0 YX10_rivals 59 [some (.ref m), some (.int (nI k)), some (.int (nI xn)), some (.int (nI yn)), some (.int (nI un)), some (.int (nI vn)), some (.int i), some (.int (nI p)), some (.int (nI q)), none, none] [] (I3, G) (qM G (fun zv I2 => PmQ s I m (aRivals s (nI k) (nI xn) (nI yn) (nI un) (nI vn) i) zv I2)) := by
                                    intro n59
                                    induction n59 using Nat.strongRecOn with
                                    | ind n59 ih59 =>
                                      intro q I3 hmu59 hq hZ3 hF3 hS3
                                      have hZ := hZ3
                                      refine r_iload (pc := 59) dX10_rivals_59 rfl ?_
                                      refine r_bipush (pc := 61) (v := 41) dX10_rivals_61 (by decide) ?_
                                      refine r_icmp_gt_n (pc := 63) (a := q) (b := 41) (tgt := 196) dX10_rivals_63 (by decide) (by first | omega | (have := hW.2.2.2 xn p; have := hW.2.2.2 yn p; have := hW.2.2.2 xn q; have := hW.2.2.2 yn q; omega)) (by first | omega | (have := hW.2.2.2 xn p; have := hW.2.2.2 yn p; have := hW.2.2.2 xn q; have := hW.2.2.2 yn q; omega)) (fun c63 => ?_) (fun c63 => ?_)
                                      · skip
                                        refine r_iinc (pc := 196) (v := nI (p + 1)) (L' := [some (.ref m), some (.int (nI k)), some (.int (nI xn)), some (.int (nI yn)), some (.int (nI un)), some (.int (nI vn)), some (.int i), some (.int (nI (p + 1))), some (.int (nI q)), none, none]) dX10_rivals_196 rfl (nI_inc _) (by decide) rfl rfl ?_
                                        refine r_goto (pc := 199) (tgt := 49) dX10_rivals_199 (by decide) ?_
                                        refine wp_sub [some (.ref m), some (.int (nI k)), some (.int (nI xn)), some (.int (nI yn)), some (.int (nI un)), some (.int (nI vn)), some (.int i), some (.int (nI (p + 1))), none, none, none] ⟨rfl, ⟨rfl, ⟨rfl, ⟨rfl, ⟨rfl, ⟨rfl, ⟨rfl, ⟨rfl, trivial⟩⟩⟩⟩⟩⟩⟩⟩ ?_
                                        exact ih49 _ (by omega) (p + 1) I3 rfl (by omega) hZ3 (by rw [show 42 * (p + 1) = 42 * p + q by omega]; exact hF3) (by rw [show 42 * (p + 1) = 42 * p + q by omega]; exact hS3)
                                      · skip
                                        refine r_iload (pc := 66) dX10_rivals_66 rfl ?_
                                        refine r_iload (pc := 68) dX10_rivals_68 rfl ?_
                                        refine r_icmp_le_n (pc := 70) (a := p) (b := q) (tgt := 77) dX10_rivals_70 (by decide) (by first | omega | (have := hW.2.2.2 xn p; have := hW.2.2.2 yn p; have := hW.2.2.2 xn q; have := hW.2.2.2 yn q; omega)) (by first | omega | (have := hW.2.2.2 xn p; have := hW.2.2.2 yn p; have := hW.2.2.2 xn q; have := hW.2.2.2 yn q; omega)) (fun c70 => ?_) (fun c70 => ?_)
                                        · skip
                                          refine r_aload_n (pc := 77) dX10_rivals_77 rfl ?_
                                          refine r_iload_n (pc := 78) dX10_rivals_78 rfl ?_
                                          refine r_iload_n (pc := 79) dX10_rivals_79 rfl ?_
                                          refine r_iload (pc := 80) dX10_rivals_80 rfl ?_
                                          refine r_callV_P (pc := 82) (b := m) (As := [.int (nI k), .int (nI xn), .int (nI p)]) 10 168 dX10_rivals_82 lk_X10_wanted (ml_RX10_168 rfl) im_X10_wanted se_X10_wanted (by decide) (c10_o hm) (Nat.le_of_ble_eq_true rfl) rfl (wanted_ct hm (hZ.mt hk0) (by omega) (by omega) (by omega)) ?_
                                          refine r_iload (pc := 85) dX10_rivals_85 rfl ?_
                                          refine r_iload (pc := 87) dX10_rivals_87 rfl ?_
                                          refine r_icmp_ge_n (pc := 89) (a := p) (b := q) (tgt := 103) dX10_rivals_89 (by decide) (by first | omega | (have := hW.2.2.2 xn p; have := hW.2.2.2 yn p; have := hW.2.2.2 xn q; have := hW.2.2.2 yn q; omega)) (by first | omega | (have := hW.2.2.2 xn p; have := hW.2.2.2 yn p; have := hW.2.2.2 xn q; have := hW.2.2.2 yn q; omega)) (fun c89 => ?_) (fun c89 => ?_)
                                          · skip
                                            refine r_iconst (pc := 103) (v := 0) dX10_rivals_103 (by decide) ?_
                                            refine r_iadd_n (pc := 104) (a := wF (dK s k) xn p) (b := 0) dX10_rivals_104 ?_
                                            refine r_istore (pc := 105) (L' := [some (.ref m), some (.int (nI k)), some (.int (nI xn)), some (.int (nI yn)), some (.int (nI un)), some (.int (nI vn)), some (.int i), some (.int (nI p)), some (.int (nI q)), some (.int (nI ((wF (dK s k) xn p) + 0))), none]) dX10_rivals_105 (by decide) rfl rfl ?_
                                            refine r_iload (pc := 107) dX10_rivals_107 rfl ?_
                                            refine r_iload (pc := 109) dX10_rivals_109 rfl ?_
                                            refine r_icmp_le_n (pc := 111) (a := q) (b := p) (tgt := 118) dX10_rivals_111 (by decide) (by first | omega | (have := hW.2.2.2 xn p; have := hW.2.2.2 yn p; have := hW.2.2.2 xn q; have := hW.2.2.2 yn q; omega)) (by first | omega | (have := hW.2.2.2 xn p; have := hW.2.2.2 yn p; have := hW.2.2.2 xn q; have := hW.2.2.2 yn q; omega)) (fun c111 => ?_) (fun c111 => ?_)
                                            · skip
                                              refine r_aload_n (pc := 118) dX10_rivals_118 rfl ?_
                                              refine r_iload_n (pc := 119) dX10_rivals_119 rfl ?_
                                              refine r_iload_n (pc := 120) dX10_rivals_120 rfl ?_
                                              refine r_iload (pc := 121) dX10_rivals_121 rfl ?_
                                              refine r_callV_P (pc := 123) (b := m) (As := [.int (nI k), .int (nI yn), .int (nI q)]) 10 168 dX10_rivals_123 lk_X10_wanted (ml_RX10_168 rfl) im_X10_wanted se_X10_wanted (by decide) (c10_o hm) (Nat.le_of_ble_eq_true rfl) rfl (wanted_ct hm (hZ.mt hk0) (by omega) (by omega) (by omega)) ?_
                                              refine r_iload (pc := 126) dX10_rivals_126 rfl ?_
                                              refine r_iload (pc := 128) dX10_rivals_128 rfl ?_
                                              refine r_icmp_ge_n (pc := 130) (a := q) (b := p) (tgt := 144) dX10_rivals_130 (by decide) (by first | omega | (have := hW.2.2.2 xn p; have := hW.2.2.2 yn p; have := hW.2.2.2 xn q; have := hW.2.2.2 yn q; omega)) (by first | omega | (have := hW.2.2.2 xn p; have := hW.2.2.2 yn p; have := hW.2.2.2 xn q; have := hW.2.2.2 yn q; omega)) (fun c130 => ?_) (fun c130 => ?_)
                                              · skip
                                                refine r_iconst (pc := 144) (v := 0) dX10_rivals_144 (by decide) ?_
                                                refine r_iadd_n (pc := 145) (a := wF (dK s k) yn q) (b := 0) dX10_rivals_145 ?_
                                                refine r_istore (pc := 146) (L' := [some (.ref m), some (.int (nI k)), some (.int (nI xn)), some (.int (nI yn)), some (.int (nI un)), some (.int (nI vn)), some (.int i), some (.int (nI p)), some (.int (nI q)), some (.int (nI ((wF (dK s k) xn p) + 0))), some (.int (nI ((wF (dK s k) yn q) + 0)))]) dX10_rivals_146 (by decide) rfl rfl ?_
                                                refine r_aload_n (pc := 148) dX10_rivals_148 rfl ?_
                                                refine r_get1 (pc := 149) 10 33 72 dX10_rivals_149 (fl_RX10_72 rfl) (by decide) rfl (c10_o hm) (c10_p33 hm) ?_
                                                refine r_bipush (pc := 152) (v := 42) dX10_rivals_152 (by decide) ?_
                                                refine r_iload (pc := 154) dX10_rivals_154 rfl ?_
                                                refine r_imul_n (pc := 156) (a := 42) (b := p) dX10_rivals_156 ?_
                                                refine r_iload (pc := 157) dX10_rivals_157 rfl ?_
                                                refine r_iadd_n (pc := 159) (a := 42 * p) (b := q) dX10_rivals_159 ?_
                                                refine r_iload (pc := 160) dX10_rivals_160 rfl ?_
                                                refine r_iload (pc := 162) dX10_rivals_162 rfl ?_
                                                refine r_isub (pc := 164) (x := nI p) (z := nI un) dX10_rivals_164 ?_
                                                refine r_iload (pc := 165) dX10_rivals_165 rfl ?_
                                                refine r_imul (pc := 167) (x := (nI p) - (nI un)) (z := nI ((wF (dK s k) xn p) + 0)) dX10_rivals_167 ?_
                                                refine r_iast_n (pc := 168) (i := (42 * p) + q) (v := ((nI p) - (nI un)) * (nI ((wF (dK s k) xn p) + 0))) dX10_rivals_168 (c10_a33 hm) (by decide) (by omega) ?_
                                                refine r_aload_n (pc := 169) dX10_rivals_169 rfl ?_
                                                refine r_get1 (pc := 170) 10 34 75 dX10_rivals_170 (fl_RX10_75 rfl) (by decide) rfl (c10_o hm) (c10_p34 hm) ?_
                                                refine r_bipush (pc := 173) (v := 42) dX10_rivals_173 (by decide) ?_
                                                refine r_iload (pc := 175) dX10_rivals_175 rfl ?_
                                                refine r_imul_n (pc := 177) (a := 42) (b := p) dX10_rivals_177 ?_
                                                refine r_iload (pc := 178) dX10_rivals_178 rfl ?_
                                                refine r_iadd_n (pc := 180) (a := 42 * p) (b := q) dX10_rivals_180 ?_
                                                refine r_iload (pc := 181) dX10_rivals_181 rfl ?_
                                                refine r_iload (pc := 183) dX10_rivals_183 rfl ?_
                                                refine r_isub (pc := 185) (x := nI q) (z := nI vn) dX10_rivals_185 ?_
                                                refine r_iload (pc := 186) dX10_rivals_186 rfl ?_
                                                refine r_imul (pc := 188) (x := (nI q) - (nI vn)) (z := nI ((wF (dK s k) yn q) + 0)) dX10_rivals_188 ?_
                                                refine r_iast_n (pc := 189) (i := (42 * p) + q) (v := ((nI q) - (nI vn)) * (nI ((wF (dK s k) yn q) + 0))) dX10_rivals_189 (c10_a34 hm) (by decide) (by omega) ?_
                                                obtain ⟨I4, hI4⟩ : ∃ zz0 : Im, zz0 = up2 (up2 I3 (m + 21) ((42 * p) + q) (((nI p) - (nI un)) * (nI ((wF (dK s k) xn p) + 0)))) (m + 22) ((42 * p) + q) (((nI q) - (nI vn)) * (nI ((wF (dK s k) yn q) + 0))) := ⟨_, rfl⟩
                                                refine wp_M (M2 := (I4, G)) (by subst hI4; rfl) ?_
                                                have hZ4 : FrZ I I4 m := by rw [hI4]; exact (hZ3.u (by omega)).u (by omega)
                                                have hF4 : ∀ x y, y < 42 → 42 * x + y < 42 * p + (q + 1) → I4 (m + 21) (42 * x + y) = gdF (fun x => (nI x - nI un) * (nI (wF (dK s k) xn x) + nI (wF (dK s k) yn x))) (fun x => (nI x - nI un) * nI (wF (dK s k) xn x)) x y := fun x y hy hz => by
                                                  rw [hI4, up2_rd (by omega)]
                                                  by_cases e : x = p ∧ y = q
                                                  · obtain ⟨rfl, rfl⟩ := e
                                                    rw [up2_at]
                                                    simp only [gdF]; (repeat' split) <;> first | (exfalso; omega) | (simp only [nI_add]; done) | (simp only [Nat.add_zero]; done) | (simp; done)
                                                  · rw [up2_rd (by omega)]
                                                    exact hF3 x y hy (by omega)
                                                have hS4 : ∀ x y, y < 42 → 42 * x + y < 42 * p + (q + 1) → I4 (m + 22) (42 * x + y) = gdF (fun x => (nI x - nI vn) * (nI (wF (dK s k) xn x) + nI (wF (dK s k) yn x))) (fun x => (nI x - nI vn) * nI (wF (dK s k) yn x)) y x := fun x y hy hz => by
                                                  rw [hI4]
                                                  by_cases e : x = p ∧ y = q
                                                  · obtain ⟨rfl, rfl⟩ := e
                                                    rw [up2_at]
                                                    simp only [gdF]; (repeat' split) <;> first | (exfalso; omega) | (simp only [nI_add, Nat.add_comm]; done) | (simp only [Nat.add_zero]; done) | (simp; done)
                                                  · rw [up2_rd (by omega), up2_rd (by omega)]
                                                    exact hS3 x y hy (by omega)
                                                refine r_iinc (pc := 190) (v := nI (q + 1)) (L' := [some (.ref m), some (.int (nI k)), some (.int (nI xn)), some (.int (nI yn)), some (.int (nI un)), some (.int (nI vn)), some (.int i), some (.int (nI p)), some (.int (nI (q + 1))), some (.int (nI ((wF (dK s k) xn p) + 0))), some (.int (nI ((wF (dK s k) yn q) + 0)))]) dX10_rivals_190 rfl (nI_inc _) (by decide) rfl rfl ?_
                                                refine r_goto (pc := 193) (tgt := 59) dX10_rivals_193 (by decide) ?_
                                                refine wp_sub [some (.ref m), some (.int (nI k)), some (.int (nI xn)), some (.int (nI yn)), some (.int (nI un)), some (.int (nI vn)), some (.int i), some (.int (nI p)), some (.int (nI (q + 1))), none, none] ⟨rfl, ⟨rfl, ⟨rfl, ⟨rfl, ⟨rfl, ⟨rfl, ⟨rfl, ⟨rfl, ⟨rfl, trivial⟩⟩⟩⟩⟩⟩⟩⟩⟩ ?_
                                                exact ih59 _ (by omega) (q + 1) I4 rfl (by omega) hZ4 hF4 hS4
                                              · skip
                                                refine r_aload_n (pc := 133) dX10_rivals_133 rfl ?_
                                                refine r_iload_n (pc := 134) dX10_rivals_134 rfl ?_
                                                refine r_iload_n (pc := 135) dX10_rivals_135 rfl ?_
                                                refine r_iload (pc := 136) dX10_rivals_136 rfl ?_
                                                refine r_callV_P (pc := 138) (b := m) (As := [.int (nI k), .int (nI xn), .int (nI q)]) 10 168 dX10_rivals_138 lk_X10_wanted (ml_RX10_168 rfl) im_X10_wanted se_X10_wanted (by decide) (c10_o hm) (Nat.le_of_ble_eq_true rfl) rfl (wanted_ct hm (hZ.mt hk0) (by omega) (by omega) (by omega)) ?_
                                                refine r_goto (pc := 141) (tgt := 145) dX10_rivals_141 (by decide) ?_
                                                refine r_iadd_n (pc := 145) (a := wF (dK s k) yn q) (b := wF (dK s k) xn q) dX10_rivals_145 ?_
                                                refine r_istore (pc := 146) (L' := [some (.ref m), some (.int (nI k)), some (.int (nI xn)), some (.int (nI yn)), some (.int (nI un)), some (.int (nI vn)), some (.int i), some (.int (nI p)), some (.int (nI q)), some (.int (nI ((wF (dK s k) xn p) + 0))), some (.int (nI ((wF (dK s k) yn q) + (wF (dK s k) xn q))))]) dX10_rivals_146 (by decide) rfl rfl ?_
                                                refine r_aload_n (pc := 148) dX10_rivals_148 rfl ?_
                                                refine r_get1 (pc := 149) 10 33 72 dX10_rivals_149 (fl_RX10_72 rfl) (by decide) rfl (c10_o hm) (c10_p33 hm) ?_
                                                refine r_bipush (pc := 152) (v := 42) dX10_rivals_152 (by decide) ?_
                                                refine r_iload (pc := 154) dX10_rivals_154 rfl ?_
                                                refine r_imul_n (pc := 156) (a := 42) (b := p) dX10_rivals_156 ?_
                                                refine r_iload (pc := 157) dX10_rivals_157 rfl ?_
                                                refine r_iadd_n (pc := 159) (a := 42 * p) (b := q) dX10_rivals_159 ?_
                                                refine r_iload (pc := 160) dX10_rivals_160 rfl ?_
                                                refine r_iload (pc := 162) dX10_rivals_162 rfl ?_
                                                refine r_isub (pc := 164) (x := nI p) (z := nI un) dX10_rivals_164 ?_
                                                refine r_iload (pc := 165) dX10_rivals_165 rfl ?_
                                                refine r_imul (pc := 167) (x := (nI p) - (nI un)) (z := nI ((wF (dK s k) xn p) + 0)) dX10_rivals_167 ?_
                                                refine r_iast_n (pc := 168) (i := (42 * p) + q) (v := ((nI p) - (nI un)) * (nI ((wF (dK s k) xn p) + 0))) dX10_rivals_168 (c10_a33 hm) (by decide) (by omega) ?_
                                                refine r_aload_n (pc := 169) dX10_rivals_169 rfl ?_
                                                refine r_get1 (pc := 170) 10 34 75 dX10_rivals_170 (fl_RX10_75 rfl) (by decide) rfl (c10_o hm) (c10_p34 hm) ?_
                                                refine r_bipush (pc := 173) (v := 42) dX10_rivals_173 (by decide) ?_
                                                refine r_iload (pc := 175) dX10_rivals_175 rfl ?_
                                                refine r_imul_n (pc := 177) (a := 42) (b := p) dX10_rivals_177 ?_
                                                refine r_iload (pc := 178) dX10_rivals_178 rfl ?_
                                                refine r_iadd_n (pc := 180) (a := 42 * p) (b := q) dX10_rivals_180 ?_
                                                refine r_iload (pc := 181) dX10_rivals_181 rfl ?_
                                                refine r_iload (pc := 183) dX10_rivals_183 rfl ?_
                                                refine r_isub (pc := 185) (x := nI q) (z := nI vn) dX10_rivals_185 ?_
                                                refine r_iload (pc := 186) dX10_rivals_186 rfl ?_
                                                refine r_imul (pc := 188) (x := (nI q) - (nI vn)) (z := nI ((wF (dK s k) yn q) + (wF (dK s k) xn q))) dX10_rivals_188 ?_
                                                refine r_iast_n (pc := 189) (i := (42 * p) + q) (v := ((nI q) - (nI vn)) * (nI ((wF (dK s k) yn q) + (wF (dK s k) xn q)))) dX10_rivals_189 (c10_a34 hm) (by decide) (by omega) ?_
                                                obtain ⟨I4, hI4⟩ : ∃ zz0 : Im, zz0 = up2 (up2 I3 (m + 21) ((42 * p) + q) (((nI p) - (nI un)) * (nI ((wF (dK s k) xn p) + 0)))) (m + 22) ((42 * p) + q) (((nI q) - (nI vn)) * (nI ((wF (dK s k) yn q) + (wF (dK s k) xn q)))) := ⟨_, rfl⟩
                                                refine wp_M (M2 := (I4, G)) (by subst hI4; rfl) ?_
                                                have hZ4 : FrZ I I4 m := by rw [hI4]; exact (hZ3.u (by omega)).u (by omega)
                                                have hF4 : ∀ x y, y < 42 → 42 * x + y < 42 * p + (q + 1) → I4 (m + 21) (42 * x + y) = gdF (fun x => (nI x - nI un) * (nI (wF (dK s k) xn x) + nI (wF (dK s k) yn x))) (fun x => (nI x - nI un) * nI (wF (dK s k) xn x)) x y := fun x y hy hz => by
                                                  rw [hI4, up2_rd (by omega)]
                                                  by_cases e : x = p ∧ y = q
                                                  · obtain ⟨rfl, rfl⟩ := e
                                                    rw [up2_at]
                                                    simp only [gdF]; (repeat' split) <;> first | (exfalso; omega) | (simp only [nI_add]; done) | (simp only [Nat.add_zero]; done) | (simp; done)
                                                  · rw [up2_rd (by omega)]
                                                    exact hF3 x y hy (by omega)
                                                have hS4 : ∀ x y, y < 42 → 42 * x + y < 42 * p + (q + 1) → I4 (m + 22) (42 * x + y) = gdF (fun x => (nI x - nI vn) * (nI (wF (dK s k) xn x) + nI (wF (dK s k) yn x))) (fun x => (nI x - nI vn) * nI (wF (dK s k) yn x)) y x := fun x y hy hz => by
                                                  rw [hI4]
                                                  by_cases e : x = p ∧ y = q
                                                  · obtain ⟨rfl, rfl⟩ := e
                                                    rw [up2_at]
                                                    simp only [gdF]; (repeat' split) <;> first | (exfalso; omega) | (simp only [nI_add, Nat.add_comm]; done) | (simp only [Nat.add_zero]; done) | (simp; done)
                                                  · rw [up2_rd (by omega), up2_rd (by omega)]
                                                    exact hS3 x y hy (by omega)
                                                refine r_iinc (pc := 190) (v := nI (q + 1)) (L' := [some (.ref m), some (.int (nI k)), some (.int (nI xn)), some (.int (nI yn)), some (.int (nI un)), some (.int (nI vn)), some (.int i), some (.int (nI p)), some (.int (nI (q + 1))), some (.int (nI ((wF (dK s k) xn p) + 0))), some (.int (nI ((wF (dK s k) yn q) + (wF (dK s k) xn q))))]) dX10_rivals_190 rfl (nI_inc _) (by decide) rfl rfl ?_
                                                refine r_goto (pc := 193) (tgt := 59) dX10_rivals_193 (by decide) ?_
                                                refine wp_sub [some (.ref m), some (.int (nI k)), some (.int (nI xn)), some (.int (nI yn)), some (.int (nI un)), some (.int (nI vn)), some (.int i), some (.int (nI p)), some (.int (nI (q + 1))), none, none] ⟨rfl, ⟨rfl, ⟨rfl, ⟨rfl, ⟨rfl, ⟨rfl, ⟨rfl, ⟨rfl, ⟨rfl, trivial⟩⟩⟩⟩⟩⟩⟩⟩⟩ ?_
                                                exact ih59 _ (by omega) (q + 1) I4 rfl (by omega) hZ4 hF4 hS4
                                            · skip
                                              refine r_iconst (pc := 114) (v := 0) dX10_rivals_114 (by decide) ?_
                                              refine r_goto (pc := 115) (tgt := 146) dX10_rivals_115 (by decide) ?_
                                              refine r_istore (pc := 146) (L' := [some (.ref m), some (.int (nI k)), some (.int (nI xn)), some (.int (nI yn)), some (.int (nI un)), some (.int (nI vn)), some (.int i), some (.int (nI p)), some (.int (nI q)), some (.int (nI ((wF (dK s k) xn p) + 0))), some (.int (nI 0))]) dX10_rivals_146 (by decide) rfl rfl ?_
                                              refine r_aload_n (pc := 148) dX10_rivals_148 rfl ?_
                                              refine r_get1 (pc := 149) 10 33 72 dX10_rivals_149 (fl_RX10_72 rfl) (by decide) rfl (c10_o hm) (c10_p33 hm) ?_
                                              refine r_bipush (pc := 152) (v := 42) dX10_rivals_152 (by decide) ?_
                                              refine r_iload (pc := 154) dX10_rivals_154 rfl ?_
                                              refine r_imul_n (pc := 156) (a := 42) (b := p) dX10_rivals_156 ?_
                                              refine r_iload (pc := 157) dX10_rivals_157 rfl ?_
                                              refine r_iadd_n (pc := 159) (a := 42 * p) (b := q) dX10_rivals_159 ?_
                                              refine r_iload (pc := 160) dX10_rivals_160 rfl ?_
                                              refine r_iload (pc := 162) dX10_rivals_162 rfl ?_
                                              refine r_isub (pc := 164) (x := nI p) (z := nI un) dX10_rivals_164 ?_
                                              refine r_iload (pc := 165) dX10_rivals_165 rfl ?_
                                              refine r_imul (pc := 167) (x := (nI p) - (nI un)) (z := nI ((wF (dK s k) xn p) + 0)) dX10_rivals_167 ?_
                                              refine r_iast_n (pc := 168) (i := (42 * p) + q) (v := ((nI p) - (nI un)) * (nI ((wF (dK s k) xn p) + 0))) dX10_rivals_168 (c10_a33 hm) (by decide) (by omega) ?_
                                              refine r_aload_n (pc := 169) dX10_rivals_169 rfl ?_
                                              refine r_get1 (pc := 170) 10 34 75 dX10_rivals_170 (fl_RX10_75 rfl) (by decide) rfl (c10_o hm) (c10_p34 hm) ?_
                                              refine r_bipush (pc := 173) (v := 42) dX10_rivals_173 (by decide) ?_
                                              refine r_iload (pc := 175) dX10_rivals_175 rfl ?_
                                              refine r_imul_n (pc := 177) (a := 42) (b := p) dX10_rivals_177 ?_
                                              refine r_iload (pc := 178) dX10_rivals_178 rfl ?_
                                              refine r_iadd_n (pc := 180) (a := 42 * p) (b := q) dX10_rivals_180 ?_
                                              refine r_iload (pc := 181) dX10_rivals_181 rfl ?_
                                              refine r_iload (pc := 183) dX10_rivals_183 rfl ?_
                                              refine r_isub (pc := 185) (x := nI q) (z := nI vn) dX10_rivals_185 ?_
                                              refine r_iload (pc := 186) dX10_rivals_186 rfl ?_
                                              refine r_imul (pc := 188) (x := (nI q) - (nI vn)) (z := 0) dX10_rivals_188 ?_
                                              refine r_iast_n (pc := 189) (i := (42 * p) + q) (v := ((nI q) - (nI vn)) * 0) dX10_rivals_189 (c10_a34 hm) (by decide) (by omega) ?_
                                              obtain ⟨I4, hI4⟩ : ∃ zz0 : Im, zz0 = up2 (up2 I3 (m + 21) ((42 * p) + q) (((nI p) - (nI un)) * (nI ((wF (dK s k) xn p) + 0)))) (m + 22) ((42 * p) + q) (((nI q) - (nI vn)) * 0) := ⟨_, rfl⟩
                                              refine wp_M (M2 := (I4, G)) (by subst hI4; rfl) ?_
                                              have hZ4 : FrZ I I4 m := by rw [hI4]; exact (hZ3.u (by omega)).u (by omega)
                                              have hF4 : ∀ x y, y < 42 → 42 * x + y < 42 * p + (q + 1) → I4 (m + 21) (42 * x + y) = gdF (fun x => (nI x - nI un) * (nI (wF (dK s k) xn x) + nI (wF (dK s k) yn x))) (fun x => (nI x - nI un) * nI (wF (dK s k) xn x)) x y := fun x y hy hz => by
                                                rw [hI4, up2_rd (by omega)]
                                                by_cases e : x = p ∧ y = q
                                                · obtain ⟨rfl, rfl⟩ := e
                                                  rw [up2_at]
                                                  simp only [gdF]; (repeat' split) <;> first | (exfalso; omega) | (simp only [nI_add]; done) | (simp only [Nat.add_zero]; done) | (simp; done)
                                                · rw [up2_rd (by omega)]
                                                  exact hF3 x y hy (by omega)
                                              have hS4 : ∀ x y, y < 42 → 42 * x + y < 42 * p + (q + 1) → I4 (m + 22) (42 * x + y) = gdF (fun x => (nI x - nI vn) * (nI (wF (dK s k) xn x) + nI (wF (dK s k) yn x))) (fun x => (nI x - nI vn) * nI (wF (dK s k) yn x)) y x := fun x y hy hz => by
                                                rw [hI4]
                                                by_cases e : x = p ∧ y = q
                                                · obtain ⟨rfl, rfl⟩ := e
                                                  rw [up2_at]
                                                  simp only [gdF]; (repeat' split) <;> first | (exfalso; omega) | (simp only [nI_add, Nat.add_comm]; done) | (simp only [Nat.add_zero]; done) | (simp; done)
                                                · rw [up2_rd (by omega), up2_rd (by omega)]
                                                  exact hS3 x y hy (by omega)
                                              refine r_iinc (pc := 190) (v := nI (q + 1)) (L' := [some (.ref m), some (.int (nI k)), some (.int (nI xn)), some (.int (nI yn)), some (.int (nI un)), some (.int (nI vn)), some (.int i), some (.int (nI p)), some (.int (nI (q + 1))), some (.int (nI ((wF (dK s k) xn p) + 0))), some (.int (nI 0))]) dX10_rivals_190 rfl (nI_inc _) (by decide) rfl rfl ?_
                                              refine r_goto (pc := 193) (tgt := 59) dX10_rivals_193 (by decide) ?_
                                              refine wp_sub [some (.ref m), some (.int (nI k)), some (.int (nI xn)), some (.int (nI yn)), some (.int (nI un)), some (.int (nI vn)), some (.int i), some (.int (nI p)), some (.int (nI (q + 1))), none, none] ⟨rfl, ⟨rfl, ⟨rfl, ⟨rfl, ⟨rfl, ⟨rfl, ⟨rfl, ⟨rfl, ⟨rfl, trivial⟩⟩⟩⟩⟩⟩⟩⟩⟩ ?_
                                              exact ih59 _ (by omega) (q + 1) I4 rfl (by omega) hZ4 hF4 hS4
                                          · skip
                                            refine r_aload_n (pc := 92) dX10_rivals_92 rfl ?_
                                            refine r_iload_n (pc := 93) dX10_rivals_93 rfl ?_
                                            refine r_iload_n (pc := 94) dX10_rivals_94 rfl ?_
                                            refine r_iload (pc := 95) dX10_rivals_95 rfl ?_
                                            refine r_callV_P (pc := 97) (b := m) (As := [.int (nI k), .int (nI yn), .int (nI p)]) 10 168 dX10_rivals_97 lk_X10_wanted (ml_RX10_168 rfl) im_X10_wanted se_X10_wanted (by decide) (c10_o hm) (Nat.le_of_ble_eq_true rfl) rfl (wanted_ct hm (hZ.mt hk0) (by omega) (by omega) (by omega)) ?_
                                            refine r_goto (pc := 100) (tgt := 104) dX10_rivals_100 (by decide) ?_
                                            refine r_iadd_n (pc := 104) (a := wF (dK s k) xn p) (b := wF (dK s k) yn p) dX10_rivals_104 ?_
                                            refine r_istore (pc := 105) (L' := [some (.ref m), some (.int (nI k)), some (.int (nI xn)), some (.int (nI yn)), some (.int (nI un)), some (.int (nI vn)), some (.int i), some (.int (nI p)), some (.int (nI q)), some (.int (nI ((wF (dK s k) xn p) + (wF (dK s k) yn p)))), none]) dX10_rivals_105 (by decide) rfl rfl ?_
                                            refine r_iload (pc := 107) dX10_rivals_107 rfl ?_
                                            refine r_iload (pc := 109) dX10_rivals_109 rfl ?_
                                            refine r_icmp_le_n (pc := 111) (a := q) (b := p) (tgt := 118) dX10_rivals_111 (by decide) (by first | omega | (have := hW.2.2.2 xn p; have := hW.2.2.2 yn p; have := hW.2.2.2 xn q; have := hW.2.2.2 yn q; omega)) (by first | omega | (have := hW.2.2.2 xn p; have := hW.2.2.2 yn p; have := hW.2.2.2 xn q; have := hW.2.2.2 yn q; omega)) (fun c111 => ?_) (fun c111 => ?_)
                                            · skip
                                              refine r_aload_n (pc := 118) dX10_rivals_118 rfl ?_
                                              refine r_iload_n (pc := 119) dX10_rivals_119 rfl ?_
                                              refine r_iload_n (pc := 120) dX10_rivals_120 rfl ?_
                                              refine r_iload (pc := 121) dX10_rivals_121 rfl ?_
                                              refine r_callV_P (pc := 123) (b := m) (As := [.int (nI k), .int (nI yn), .int (nI q)]) 10 168 dX10_rivals_123 lk_X10_wanted (ml_RX10_168 rfl) im_X10_wanted se_X10_wanted (by decide) (c10_o hm) (Nat.le_of_ble_eq_true rfl) rfl (wanted_ct hm (hZ.mt hk0) (by omega) (by omega) (by omega)) ?_
                                              refine r_iload (pc := 126) dX10_rivals_126 rfl ?_
                                              refine r_iload (pc := 128) dX10_rivals_128 rfl ?_
                                              refine r_icmp_ge_n (pc := 130) (a := q) (b := p) (tgt := 144) dX10_rivals_130 (by decide) (by first | omega | (have := hW.2.2.2 xn p; have := hW.2.2.2 yn p; have := hW.2.2.2 xn q; have := hW.2.2.2 yn q; omega)) (by first | omega | (have := hW.2.2.2 xn p; have := hW.2.2.2 yn p; have := hW.2.2.2 xn q; have := hW.2.2.2 yn q; omega)) (fun c130 => ?_) (fun c130 => ?_)
                                              · skip
                                                refine r_iconst (pc := 144) (v := 0) dX10_rivals_144 (by decide) ?_
                                                refine r_iadd_n (pc := 145) (a := wF (dK s k) yn q) (b := 0) dX10_rivals_145 ?_
                                                refine r_istore (pc := 146) (L' := [some (.ref m), some (.int (nI k)), some (.int (nI xn)), some (.int (nI yn)), some (.int (nI un)), some (.int (nI vn)), some (.int i), some (.int (nI p)), some (.int (nI q)), some (.int (nI ((wF (dK s k) xn p) + (wF (dK s k) yn p)))), some (.int (nI ((wF (dK s k) yn q) + 0)))]) dX10_rivals_146 (by decide) rfl rfl ?_
                                                refine r_aload_n (pc := 148) dX10_rivals_148 rfl ?_
                                                refine r_get1 (pc := 149) 10 33 72 dX10_rivals_149 (fl_RX10_72 rfl) (by decide) rfl (c10_o hm) (c10_p33 hm) ?_
                                                refine r_bipush (pc := 152) (v := 42) dX10_rivals_152 (by decide) ?_
                                                refine r_iload (pc := 154) dX10_rivals_154 rfl ?_
                                                refine r_imul_n (pc := 156) (a := 42) (b := p) dX10_rivals_156 ?_
                                                refine r_iload (pc := 157) dX10_rivals_157 rfl ?_
                                                refine r_iadd_n (pc := 159) (a := 42 * p) (b := q) dX10_rivals_159 ?_
                                                refine r_iload (pc := 160) dX10_rivals_160 rfl ?_
                                                refine r_iload (pc := 162) dX10_rivals_162 rfl ?_
                                                refine r_isub (pc := 164) (x := nI p) (z := nI un) dX10_rivals_164 ?_
                                                refine r_iload (pc := 165) dX10_rivals_165 rfl ?_
                                                refine r_imul (pc := 167) (x := (nI p) - (nI un)) (z := nI ((wF (dK s k) xn p) + (wF (dK s k) yn p))) dX10_rivals_167 ?_
                                                refine r_iast_n (pc := 168) (i := (42 * p) + q) (v := ((nI p) - (nI un)) * (nI ((wF (dK s k) xn p) + (wF (dK s k) yn p)))) dX10_rivals_168 (c10_a33 hm) (by decide) (by omega) ?_
                                                refine r_aload_n (pc := 169) dX10_rivals_169 rfl ?_
                                                refine r_get1 (pc := 170) 10 34 75 dX10_rivals_170 (fl_RX10_75 rfl) (by decide) rfl (c10_o hm) (c10_p34 hm) ?_
                                                refine r_bipush (pc := 173) (v := 42) dX10_rivals_173 (by decide) ?_
                                                refine r_iload (pc := 175) dX10_rivals_175 rfl ?_
                                                refine r_imul_n (pc := 177) (a := 42) (b := p) dX10_rivals_177 ?_
                                                refine r_iload (pc := 178) dX10_rivals_178 rfl ?_
                                                refine r_iadd_n (pc := 180) (a := 42 * p) (b := q) dX10_rivals_180 ?_
                                                refine r_iload (pc := 181) dX10_rivals_181 rfl ?_
                                                refine r_iload (pc := 183) dX10_rivals_183 rfl ?_
                                                refine r_isub (pc := 185) (x := nI q) (z := nI vn) dX10_rivals_185 ?_
                                                refine r_iload (pc := 186) dX10_rivals_186 rfl ?_
                                                refine r_imul (pc := 188) (x := (nI q) - (nI vn)) (z := nI ((wF (dK s k) yn q) + 0)) dX10_rivals_188 ?_
                                                refine r_iast_n (pc := 189) (i := (42 * p) + q) (v := ((nI q) - (nI vn)) * (nI ((wF (dK s k) yn q) + 0))) dX10_rivals_189 (c10_a34 hm) (by decide) (by omega) ?_
                                                obtain ⟨I4, hI4⟩ : ∃ zz0 : Im, zz0 = up2 (up2 I3 (m + 21) ((42 * p) + q) (((nI p) - (nI un)) * (nI ((wF (dK s k) xn p) + (wF (dK s k) yn p))))) (m + 22) ((42 * p) + q) (((nI q) - (nI vn)) * (nI ((wF (dK s k) yn q) + 0))) := ⟨_, rfl⟩
                                                refine wp_M (M2 := (I4, G)) (by subst hI4; rfl) ?_
                                                have hZ4 : FrZ I I4 m := by rw [hI4]; exact (hZ3.u (by omega)).u (by omega)
                                                have hF4 : ∀ x y, y < 42 → 42 * x + y < 42 * p + (q + 1) → I4 (m + 21) (42 * x + y) = gdF (fun x => (nI x - nI un) * (nI (wF (dK s k) xn x) + nI (wF (dK s k) yn x))) (fun x => (nI x - nI un) * nI (wF (dK s k) xn x)) x y := fun x y hy hz => by
                                                  rw [hI4, up2_rd (by omega)]
                                                  by_cases e : x = p ∧ y = q
                                                  · obtain ⟨rfl, rfl⟩ := e
                                                    rw [up2_at]
                                                    simp only [gdF]; (repeat' split) <;> first | (exfalso; omega) | (simp only [nI_add]; done) | (simp only [Nat.add_zero]; done) | (simp; done)
                                                  · rw [up2_rd (by omega)]
                                                    exact hF3 x y hy (by omega)
                                                have hS4 : ∀ x y, y < 42 → 42 * x + y < 42 * p + (q + 1) → I4 (m + 22) (42 * x + y) = gdF (fun x => (nI x - nI vn) * (nI (wF (dK s k) xn x) + nI (wF (dK s k) yn x))) (fun x => (nI x - nI vn) * nI (wF (dK s k) yn x)) y x := fun x y hy hz => by
                                                  rw [hI4]
                                                  by_cases e : x = p ∧ y = q
                                                  · obtain ⟨rfl, rfl⟩ := e
                                                    rw [up2_at]
                                                    simp only [gdF]; (repeat' split) <;> first | (exfalso; omega) | (simp only [nI_add, Nat.add_comm]; done) | (simp only [Nat.add_zero]; done) | (simp; done)
                                                  · rw [up2_rd (by omega), up2_rd (by omega)]
                                                    exact hS3 x y hy (by omega)
                                                refine r_iinc (pc := 190) (v := nI (q + 1)) (L' := [some (.ref m), some (.int (nI k)), some (.int (nI xn)), some (.int (nI yn)), some (.int (nI un)), some (.int (nI vn)), some (.int i), some (.int (nI p)), some (.int (nI (q + 1))), some (.int (nI ((wF (dK s k) xn p) + (wF (dK s k) yn p)))), some (.int (nI ((wF (dK s k) yn q) + 0)))]) dX10_rivals_190 rfl (nI_inc _) (by decide) rfl rfl ?_
                                                refine r_goto (pc := 193) (tgt := 59) dX10_rivals_193 (by decide) ?_
                                                refine wp_sub [some (.ref m), some (.int (nI k)), some (.int (nI xn)), some (.int (nI yn)), some (.int (nI un)), some (.int (nI vn)), some (.int i), some (.int (nI p)), some (.int (nI (q + 1))), none, none] ⟨rfl, ⟨rfl, ⟨rfl, ⟨rfl, ⟨rfl, ⟨rfl, ⟨rfl, ⟨rfl, ⟨rfl, trivial⟩⟩⟩⟩⟩⟩⟩⟩⟩ ?_
                                                exact ih59 _ (by omega) (q + 1) I4 rfl (by omega) hZ4 hF4 hS4
                                              · skip
                                                refine r_aload_n (pc := 133) dX10_rivals_133 rfl ?_
                                                refine r_iload_n (pc := 134) dX10_rivals_134 rfl ?_
                                                refine r_iload_n (pc := 135) dX10_rivals_135 rfl ?_
                                                refine r_iload (pc := 136) dX10_rivals_136 rfl ?_
                                                refine r_callV_P (pc := 138) (b := m) (As := [.int (nI k), .int (nI xn), .int (nI q)]) 10 168 dX10_rivals_138 lk_X10_wanted (ml_RX10_168 rfl) im_X10_wanted se_X10_wanted (by decide) (c10_o hm) (Nat.le_of_ble_eq_true rfl) rfl (wanted_ct hm (hZ.mt hk0) (by omega) (by omega) (by omega)) ?_
                                                refine r_goto (pc := 141) (tgt := 145) dX10_rivals_141 (by decide) ?_
                                                refine r_iadd_n (pc := 145) (a := wF (dK s k) yn q) (b := wF (dK s k) xn q) dX10_rivals_145 ?_
                                                refine r_istore (pc := 146) (L' := [some (.ref m), some (.int (nI k)), some (.int (nI xn)), some (.int (nI yn)), some (.int (nI un)), some (.int (nI vn)), some (.int i), some (.int (nI p)), some (.int (nI q)), some (.int (nI ((wF (dK s k) xn p) + (wF (dK s k) yn p)))), some (.int (nI ((wF (dK s k) yn q) + (wF (dK s k) xn q))))]) dX10_rivals_146 (by decide) rfl rfl ?_
                                                refine r_aload_n (pc := 148) dX10_rivals_148 rfl ?_
                                                refine r_get1 (pc := 149) 10 33 72 dX10_rivals_149 (fl_RX10_72 rfl) (by decide) rfl (c10_o hm) (c10_p33 hm) ?_
                                                refine r_bipush (pc := 152) (v := 42) dX10_rivals_152 (by decide) ?_
                                                refine r_iload (pc := 154) dX10_rivals_154 rfl ?_
                                                refine r_imul_n (pc := 156) (a := 42) (b := p) dX10_rivals_156 ?_
                                                refine r_iload (pc := 157) dX10_rivals_157 rfl ?_
                                                refine r_iadd_n (pc := 159) (a := 42 * p) (b := q) dX10_rivals_159 ?_
                                                refine r_iload (pc := 160) dX10_rivals_160 rfl ?_
                                                refine r_iload (pc := 162) dX10_rivals_162 rfl ?_
                                                refine r_isub (pc := 164) (x := nI p) (z := nI un) dX10_rivals_164 ?_
                                                refine r_iload (pc := 165) dX10_rivals_165 rfl ?_
                                                refine r_imul (pc := 167) (x := (nI p) - (nI un)) (z := nI ((wF (dK s k) xn p) + (wF (dK s k) yn p))) dX10_rivals_167 ?_
                                                refine r_iast_n (pc := 168) (i := (42 * p) + q) (v := ((nI p) - (nI un)) * (nI ((wF (dK s k) xn p) + (wF (dK s k) yn p)))) dX10_rivals_168 (c10_a33 hm) (by decide) (by omega) ?_
                                                refine r_aload_n (pc := 169) dX10_rivals_169 rfl ?_
                                                refine r_get1 (pc := 170) 10 34 75 dX10_rivals_170 (fl_RX10_75 rfl) (by decide) rfl (c10_o hm) (c10_p34 hm) ?_
                                                refine r_bipush (pc := 173) (v := 42) dX10_rivals_173 (by decide) ?_
                                                refine r_iload (pc := 175) dX10_rivals_175 rfl ?_
                                                refine r_imul_n (pc := 177) (a := 42) (b := p) dX10_rivals_177 ?_
                                                refine r_iload (pc := 178) dX10_rivals_178 rfl ?_
                                                refine r_iadd_n (pc := 180) (a := 42 * p) (b := q) dX10_rivals_180 ?_
                                                refine r_iload (pc := 181) dX10_rivals_181 rfl ?_
                                                refine r_iload (pc := 183) dX10_rivals_183 rfl ?_
                                                refine r_isub (pc := 185) (x := nI q) (z := nI vn) dX10_rivals_185 ?_
                                                refine r_iload (pc := 186) dX10_rivals_186 rfl ?_
                                                refine r_imul (pc := 188) (x := (nI q) - (nI vn)) (z := nI ((wF (dK s k) yn q) + (wF (dK s k) xn q))) dX10_rivals_188 ?_
                                                refine r_iast_n (pc := 189) (i := (42 * p) + q) (v := ((nI q) - (nI vn)) * (nI ((wF (dK s k) yn q) + (wF (dK s k) xn q)))) dX10_rivals_189 (c10_a34 hm) (by decide) (by omega) ?_
                                                obtain ⟨I4, hI4⟩ : ∃ zz0 : Im, zz0 = up2 (up2 I3 (m + 21) ((42 * p) + q) (((nI p) - (nI un)) * (nI ((wF (dK s k) xn p) + (wF (dK s k) yn p))))) (m + 22) ((42 * p) + q) (((nI q) - (nI vn)) * (nI ((wF (dK s k) yn q) + (wF (dK s k) xn q)))) := ⟨_, rfl⟩
                                                refine wp_M (M2 := (I4, G)) (by subst hI4; rfl) ?_
                                                have hZ4 : FrZ I I4 m := by rw [hI4]; exact (hZ3.u (by omega)).u (by omega)
                                                have hF4 : ∀ x y, y < 42 → 42 * x + y < 42 * p + (q + 1) → I4 (m + 21) (42 * x + y) = gdF (fun x => (nI x - nI un) * (nI (wF (dK s k) xn x) + nI (wF (dK s k) yn x))) (fun x => (nI x - nI un) * nI (wF (dK s k) xn x)) x y := fun x y hy hz => by
                                                  rw [hI4, up2_rd (by omega)]
                                                  by_cases e : x = p ∧ y = q
                                                  · obtain ⟨rfl, rfl⟩ := e
                                                    rw [up2_at]
                                                    simp only [gdF]; (repeat' split) <;> first | (exfalso; omega) | (simp only [nI_add]; done) | (simp only [Nat.add_zero]; done) | (simp; done)
                                                  · rw [up2_rd (by omega)]
                                                    exact hF3 x y hy (by omega)
                                                have hS4 : ∀ x y, y < 42 → 42 * x + y < 42 * p + (q + 1) → I4 (m + 22) (42 * x + y) = gdF (fun x => (nI x - nI vn) * (nI (wF (dK s k) xn x) + nI (wF (dK s k) yn x))) (fun x => (nI x - nI vn) * nI (wF (dK s k) yn x)) y x := fun x y hy hz => by
                                                  rw [hI4]
                                                  by_cases e : x = p ∧ y = q
                                                  · obtain ⟨rfl, rfl⟩ := e
                                                    rw [up2_at]
                                                    simp only [gdF]; (repeat' split) <;> first | (exfalso; omega) | (simp only [nI_add, Nat.add_comm]; done) | (simp only [Nat.add_zero]; done) | (simp; done)
                                                  · rw [up2_rd (by omega), up2_rd (by omega)]
                                                    exact hS3 x y hy (by omega)
                                                refine r_iinc (pc := 190) (v := nI (q + 1)) (L' := [some (.ref m), some (.int (nI k)), some (.int (nI xn)), some (.int (nI yn)), some (.int (nI un)), some (.int (nI vn)), some (.int i), some (.int (nI p)), some (.int (nI (q + 1))), some (.int (nI ((wF (dK s k) xn p) + (wF (dK s k) yn p)))), some (.int (nI ((wF (dK s k) yn q) + (wF (dK s k) xn q))))]) dX10_rivals_190 rfl (nI_inc _) (by decide) rfl rfl ?_
                                                refine r_goto (pc := 193) (tgt := 59) dX10_rivals_193 (by decide) ?_
                                                refine wp_sub [some (.ref m), some (.int (nI k)), some (.int (nI xn)), some (.int (nI yn)), some (.int (nI un)), some (.int (nI vn)), some (.int i), some (.int (nI p)), some (.int (nI (q + 1))), none, none] ⟨rfl, ⟨rfl, ⟨rfl, ⟨rfl, ⟨rfl, ⟨rfl, ⟨rfl, ⟨rfl, ⟨rfl, trivial⟩⟩⟩⟩⟩⟩⟩⟩⟩ ?_
                                                exact ih59 _ (by omega) (q + 1) I4 rfl (by omega) hZ4 hF4 hS4
                                            · skip
                                              refine r_iconst (pc := 114) (v := 0) dX10_rivals_114 (by decide) ?_
                                              refine r_goto (pc := 115) (tgt := 146) dX10_rivals_115 (by decide) ?_
                                              refine r_istore (pc := 146) (L' := [some (.ref m), some (.int (nI k)), some (.int (nI xn)), some (.int (nI yn)), some (.int (nI un)), some (.int (nI vn)), some (.int i), some (.int (nI p)), some (.int (nI q)), some (.int (nI ((wF (dK s k) xn p) + (wF (dK s k) yn p)))), some (.int (nI 0))]) dX10_rivals_146 (by decide) rfl rfl ?_
                                              refine r_aload_n (pc := 148) dX10_rivals_148 rfl ?_
                                              refine r_get1 (pc := 149) 10 33 72 dX10_rivals_149 (fl_RX10_72 rfl) (by decide) rfl (c10_o hm) (c10_p33 hm) ?_
                                              refine r_bipush (pc := 152) (v := 42) dX10_rivals_152 (by decide) ?_
                                              refine r_iload (pc := 154) dX10_rivals_154 rfl ?_
                                              refine r_imul_n (pc := 156) (a := 42) (b := p) dX10_rivals_156 ?_
                                              refine r_iload (pc := 157) dX10_rivals_157 rfl ?_
                                              refine r_iadd_n (pc := 159) (a := 42 * p) (b := q) dX10_rivals_159 ?_
                                              refine r_iload (pc := 160) dX10_rivals_160 rfl ?_
                                              refine r_iload (pc := 162) dX10_rivals_162 rfl ?_
                                              refine r_isub (pc := 164) (x := nI p) (z := nI un) dX10_rivals_164 ?_
                                              refine r_iload (pc := 165) dX10_rivals_165 rfl ?_
                                              refine r_imul (pc := 167) (x := (nI p) - (nI un)) (z := nI ((wF (dK s k) xn p) + (wF (dK s k) yn p))) dX10_rivals_167 ?_
                                              refine r_iast_n (pc := 168) (i := (42 * p) + q) (v := ((nI p) - (nI un)) * (nI ((wF (dK s k) xn p) + (wF (dK s k) yn p)))) dX10_rivals_168 (c10_a33 hm) (by decide) (by omega) ?_
                                              refine r_aload_n (pc := 169) dX10_rivals_169 rfl ?_
                                              refine r_get1 (pc := 170) 10 34 75 dX10_rivals_170 (fl_RX10_75 rfl) (by decide) rfl (c10_o hm) (c10_p34 hm) ?_
                                              refine r_bipush (pc := 173) (v := 42) dX10_rivals_173 (by decide) ?_
                                              refine r_iload (pc := 175) dX10_rivals_175 rfl ?_
                                              refine r_imul_n (pc := 177) (a := 42) (b := p) dX10_rivals_177 ?_
                                              refine r_iload (pc := 178) dX10_rivals_178 rfl ?_
                                              refine r_iadd_n (pc := 180) (a := 42 * p) (b := q) dX10_rivals_180 ?_
                                              refine r_iload (pc := 181) dX10_rivals_181 rfl ?_
                                              refine r_iload (pc := 183) dX10_rivals_183 rfl ?_
                                              refine r_isub (pc := 185) (x := nI q) (z := nI vn) dX10_rivals_185 ?_
                                              refine r_iload (pc := 186) dX10_rivals_186 rfl ?_
                                              refine r_imul (pc := 188) (x := (nI q) - (nI vn)) (z := 0) dX10_rivals_188 ?_
                                              refine r_iast_n (pc := 189) (i := (42 * p) + q) (v := ((nI q) - (nI vn)) * 0) dX10_rivals_189 (c10_a34 hm) (by decide) (by omega) ?_
                                              obtain ⟨I4, hI4⟩ : ∃ zz0 : Im, zz0 = up2 (up2 I3 (m + 21) ((42 * p) + q) (((nI p) - (nI un)) * (nI ((wF (dK s k) xn p) + (wF (dK s k) yn p))))) (m + 22) ((42 * p) + q) (((nI q) - (nI vn)) * 0) := ⟨_, rfl⟩
                                              refine wp_M (M2 := (I4, G)) (by subst hI4; rfl) ?_
                                              have hZ4 : FrZ I I4 m := by rw [hI4]; exact (hZ3.u (by omega)).u (by omega)
                                              have hF4 : ∀ x y, y < 42 → 42 * x + y < 42 * p + (q + 1) → I4 (m + 21) (42 * x + y) = gdF (fun x => (nI x - nI un) * (nI (wF (dK s k) xn x) + nI (wF (dK s k) yn x))) (fun x => (nI x - nI un) * nI (wF (dK s k) xn x)) x y := fun x y hy hz => by
                                                rw [hI4, up2_rd (by omega)]
                                                by_cases e : x = p ∧ y = q
                                                · obtain ⟨rfl, rfl⟩ := e
                                                  rw [up2_at]
                                                  simp only [gdF]; (repeat' split) <;> first | (exfalso; omega) | (simp only [nI_add]; done) | (simp only [Nat.add_zero]; done) | (simp; done)
                                                · rw [up2_rd (by omega)]
                                                  exact hF3 x y hy (by omega)
                                              have hS4 : ∀ x y, y < 42 → 42 * x + y < 42 * p + (q + 1) → I4 (m + 22) (42 * x + y) = gdF (fun x => (nI x - nI vn) * (nI (wF (dK s k) xn x) + nI (wF (dK s k) yn x))) (fun x => (nI x - nI vn) * nI (wF (dK s k) yn x)) y x := fun x y hy hz => by
                                                rw [hI4]
                                                by_cases e : x = p ∧ y = q
                                                · obtain ⟨rfl, rfl⟩ := e
                                                  rw [up2_at]
                                                  simp only [gdF]; (repeat' split) <;> first | (exfalso; omega) | (simp only [nI_add, Nat.add_comm]; done) | (simp only [Nat.add_zero]; done) | (simp; done)
                                                · rw [up2_rd (by omega), up2_rd (by omega)]
                                                  exact hS3 x y hy (by omega)
                                              refine r_iinc (pc := 190) (v := nI (q + 1)) (L' := [some (.ref m), some (.int (nI k)), some (.int (nI xn)), some (.int (nI yn)), some (.int (nI un)), some (.int (nI vn)), some (.int i), some (.int (nI p)), some (.int (nI (q + 1))), some (.int (nI ((wF (dK s k) xn p) + (wF (dK s k) yn p)))), some (.int (nI 0))]) dX10_rivals_190 rfl (nI_inc _) (by decide) rfl rfl ?_
                                              refine r_goto (pc := 193) (tgt := 59) dX10_rivals_193 (by decide) ?_
                                              refine wp_sub [some (.ref m), some (.int (nI k)), some (.int (nI xn)), some (.int (nI yn)), some (.int (nI un)), some (.int (nI vn)), some (.int i), some (.int (nI p)), some (.int (nI (q + 1))), none, none] ⟨rfl, ⟨rfl, ⟨rfl, ⟨rfl, ⟨rfl, ⟨rfl, ⟨rfl, ⟨rfl, ⟨rfl, trivial⟩⟩⟩⟩⟩⟩⟩⟩⟩ ?_
                                              exact ih59 _ (by omega) (q + 1) I4 rfl (by omega) hZ4 hF4 hS4
                                        · skip
                                          refine r_iconst (pc := 73) (v := 0) dX10_rivals_73 (by decide) ?_
                                          refine r_goto (pc := 74) (tgt := 105) dX10_rivals_74 (by decide) ?_
                                          refine r_istore (pc := 105) (L' := [some (.ref m), some (.int (nI k)), some (.int (nI xn)), some (.int (nI yn)), some (.int (nI un)), some (.int (nI vn)), some (.int i), some (.int (nI p)), some (.int (nI q)), some (.int (nI 0)), none]) dX10_rivals_105 (by decide) rfl rfl ?_
                                          refine r_iload (pc := 107) dX10_rivals_107 rfl ?_
                                          refine r_iload (pc := 109) dX10_rivals_109 rfl ?_
                                          refine r_icmp_le_n (pc := 111) (a := q) (b := p) (tgt := 118) dX10_rivals_111 (by decide) (by first | omega | (have := hW.2.2.2 xn p; have := hW.2.2.2 yn p; have := hW.2.2.2 xn q; have := hW.2.2.2 yn q; omega)) (by first | omega | (have := hW.2.2.2 xn p; have := hW.2.2.2 yn p; have := hW.2.2.2 xn q; have := hW.2.2.2 yn q; omega)) (fun c111 => ?_) (fun c111 => ?_)
                                          · skip
                                            refine r_aload_n (pc := 118) dX10_rivals_118 rfl ?_
                                            refine r_iload_n (pc := 119) dX10_rivals_119 rfl ?_
                                            refine r_iload_n (pc := 120) dX10_rivals_120 rfl ?_
                                            refine r_iload (pc := 121) dX10_rivals_121 rfl ?_
                                            refine r_callV_P (pc := 123) (b := m) (As := [.int (nI k), .int (nI yn), .int (nI q)]) 10 168 dX10_rivals_123 lk_X10_wanted (ml_RX10_168 rfl) im_X10_wanted se_X10_wanted (by decide) (c10_o hm) (Nat.le_of_ble_eq_true rfl) rfl (wanted_ct hm (hZ.mt hk0) (by omega) (by omega) (by omega)) ?_
                                            refine r_iload (pc := 126) dX10_rivals_126 rfl ?_
                                            refine r_iload (pc := 128) dX10_rivals_128 rfl ?_
                                            refine r_icmp_ge_n (pc := 130) (a := q) (b := p) (tgt := 144) dX10_rivals_130 (by decide) (by first | omega | (have := hW.2.2.2 xn p; have := hW.2.2.2 yn p; have := hW.2.2.2 xn q; have := hW.2.2.2 yn q; omega)) (by first | omega | (have := hW.2.2.2 xn p; have := hW.2.2.2 yn p; have := hW.2.2.2 xn q; have := hW.2.2.2 yn q; omega)) (fun c130 => ?_) (fun c130 => ?_)
                                            · skip
                                              refine r_iconst (pc := 144) (v := 0) dX10_rivals_144 (by decide) ?_
                                              refine r_iadd_n (pc := 145) (a := wF (dK s k) yn q) (b := 0) dX10_rivals_145 ?_
                                              refine r_istore (pc := 146) (L' := [some (.ref m), some (.int (nI k)), some (.int (nI xn)), some (.int (nI yn)), some (.int (nI un)), some (.int (nI vn)), some (.int i), some (.int (nI p)), some (.int (nI q)), some (.int (nI 0)), some (.int (nI ((wF (dK s k) yn q) + 0)))]) dX10_rivals_146 (by decide) rfl rfl ?_
                                              refine r_aload_n (pc := 148) dX10_rivals_148 rfl ?_
                                              refine r_get1 (pc := 149) 10 33 72 dX10_rivals_149 (fl_RX10_72 rfl) (by decide) rfl (c10_o hm) (c10_p33 hm) ?_
                                              refine r_bipush (pc := 152) (v := 42) dX10_rivals_152 (by decide) ?_
                                              refine r_iload (pc := 154) dX10_rivals_154 rfl ?_
                                              refine r_imul_n (pc := 156) (a := 42) (b := p) dX10_rivals_156 ?_
                                              refine r_iload (pc := 157) dX10_rivals_157 rfl ?_
                                              refine r_iadd_n (pc := 159) (a := 42 * p) (b := q) dX10_rivals_159 ?_
                                              refine r_iload (pc := 160) dX10_rivals_160 rfl ?_
                                              refine r_iload (pc := 162) dX10_rivals_162 rfl ?_
                                              refine r_isub (pc := 164) (x := nI p) (z := nI un) dX10_rivals_164 ?_
                                              refine r_iload (pc := 165) dX10_rivals_165 rfl ?_
                                              refine r_imul (pc := 167) (x := (nI p) - (nI un)) (z := 0) dX10_rivals_167 ?_
                                              refine r_iast_n (pc := 168) (i := (42 * p) + q) (v := ((nI p) - (nI un)) * 0) dX10_rivals_168 (c10_a33 hm) (by decide) (by omega) ?_
                                              refine r_aload_n (pc := 169) dX10_rivals_169 rfl ?_
                                              refine r_get1 (pc := 170) 10 34 75 dX10_rivals_170 (fl_RX10_75 rfl) (by decide) rfl (c10_o hm) (c10_p34 hm) ?_
                                              refine r_bipush (pc := 173) (v := 42) dX10_rivals_173 (by decide) ?_
                                              refine r_iload (pc := 175) dX10_rivals_175 rfl ?_
                                              refine r_imul_n (pc := 177) (a := 42) (b := p) dX10_rivals_177 ?_
                                              refine r_iload (pc := 178) dX10_rivals_178 rfl ?_
                                              refine r_iadd_n (pc := 180) (a := 42 * p) (b := q) dX10_rivals_180 ?_
                                              refine r_iload (pc := 181) dX10_rivals_181 rfl ?_
                                              refine r_iload (pc := 183) dX10_rivals_183 rfl ?_
                                              refine r_isub (pc := 185) (x := nI q) (z := nI vn) dX10_rivals_185 ?_
                                              refine r_iload (pc := 186) dX10_rivals_186 rfl ?_
                                              refine r_imul (pc := 188) (x := (nI q) - (nI vn)) (z := nI ((wF (dK s k) yn q) + 0)) dX10_rivals_188 ?_
                                              refine r_iast_n (pc := 189) (i := (42 * p) + q) (v := ((nI q) - (nI vn)) * (nI ((wF (dK s k) yn q) + 0))) dX10_rivals_189 (c10_a34 hm) (by decide) (by omega) ?_
                                              obtain ⟨I4, hI4⟩ : ∃ zz0 : Im, zz0 = up2 (up2 I3 (m + 21) ((42 * p) + q) (((nI p) - (nI un)) * 0)) (m + 22) ((42 * p) + q) (((nI q) - (nI vn)) * (nI ((wF (dK s k) yn q) + 0))) := ⟨_, rfl⟩
                                              refine wp_M (M2 := (I4, G)) (by subst hI4; rfl) ?_
                                              have hZ4 : FrZ I I4 m := by rw [hI4]; exact (hZ3.u (by omega)).u (by omega)
                                              have hF4 : ∀ x y, y < 42 → 42 * x + y < 42 * p + (q + 1) → I4 (m + 21) (42 * x + y) = gdF (fun x => (nI x - nI un) * (nI (wF (dK s k) xn x) + nI (wF (dK s k) yn x))) (fun x => (nI x - nI un) * nI (wF (dK s k) xn x)) x y := fun x y hy hz => by
                                                rw [hI4, up2_rd (by omega)]
                                                by_cases e : x = p ∧ y = q
                                                · obtain ⟨rfl, rfl⟩ := e
                                                  rw [up2_at]
                                                  simp only [gdF]; (repeat' split) <;> first | (exfalso; omega) | (simp only [nI_add]; done) | (simp only [Nat.add_zero]; done) | (simp; done)
                                                · rw [up2_rd (by omega)]
                                                  exact hF3 x y hy (by omega)
                                              have hS4 : ∀ x y, y < 42 → 42 * x + y < 42 * p + (q + 1) → I4 (m + 22) (42 * x + y) = gdF (fun x => (nI x - nI vn) * (nI (wF (dK s k) xn x) + nI (wF (dK s k) yn x))) (fun x => (nI x - nI vn) * nI (wF (dK s k) yn x)) y x := fun x y hy hz => by
                                                rw [hI4]
                                                by_cases e : x = p ∧ y = q
                                                · obtain ⟨rfl, rfl⟩ := e
                                                  rw [up2_at]
                                                  simp only [gdF]; (repeat' split) <;> first | (exfalso; omega) | (simp only [nI_add, Nat.add_comm]; done) | (simp only [Nat.add_zero]; done) | (simp; done)
                                                · rw [up2_rd (by omega), up2_rd (by omega)]
                                                  exact hS3 x y hy (by omega)
                                              refine r_iinc (pc := 190) (v := nI (q + 1)) (L' := [some (.ref m), some (.int (nI k)), some (.int (nI xn)), some (.int (nI yn)), some (.int (nI un)), some (.int (nI vn)), some (.int i), some (.int (nI p)), some (.int (nI (q + 1))), some (.int (nI 0)), some (.int (nI ((wF (dK s k) yn q) + 0)))]) dX10_rivals_190 rfl (nI_inc _) (by decide) rfl rfl ?_
                                              refine r_goto (pc := 193) (tgt := 59) dX10_rivals_193 (by decide) ?_
                                              refine wp_sub [some (.ref m), some (.int (nI k)), some (.int (nI xn)), some (.int (nI yn)), some (.int (nI un)), some (.int (nI vn)), some (.int i), some (.int (nI p)), some (.int (nI (q + 1))), none, none] ⟨rfl, ⟨rfl, ⟨rfl, ⟨rfl, ⟨rfl, ⟨rfl, ⟨rfl, ⟨rfl, ⟨rfl, trivial⟩⟩⟩⟩⟩⟩⟩⟩⟩ ?_
                                              exact ih59 _ (by omega) (q + 1) I4 rfl (by omega) hZ4 hF4 hS4
                                            · skip
                                              refine r_aload_n (pc := 133) dX10_rivals_133 rfl ?_
                                              refine r_iload_n (pc := 134) dX10_rivals_134 rfl ?_
                                              refine r_iload_n (pc := 135) dX10_rivals_135 rfl ?_
                                              refine r_iload (pc := 136) dX10_rivals_136 rfl ?_
                                              refine r_callV_P (pc := 138) (b := m) (As := [.int (nI k), .int (nI xn), .int (nI q)]) 10 168 dX10_rivals_138 lk_X10_wanted (ml_RX10_168 rfl) im_X10_wanted se_X10_wanted (by decide) (c10_o hm) (Nat.le_of_ble_eq_true rfl) rfl (wanted_ct hm (hZ.mt hk0) (by omega) (by omega) (by omega)) ?_
                                              refine r_goto (pc := 141) (tgt := 145) dX10_rivals_141 (by decide) ?_
                                              refine r_iadd_n (pc := 145) (a := wF (dK s k) yn q) (b := wF (dK s k) xn q) dX10_rivals_145 ?_
                                              refine r_istore (pc := 146) (L' := [some (.ref m), some (.int (nI k)), some (.int (nI xn)), some (.int (nI yn)), some (.int (nI un)), some (.int (nI vn)), some (.int i), some (.int (nI p)), some (.int (nI q)), some (.int (nI 0)), some (.int (nI ((wF (dK s k) yn q) + (wF (dK s k) xn q))))]) dX10_rivals_146 (by decide) rfl rfl ?_
                                              refine r_aload_n (pc := 148) dX10_rivals_148 rfl ?_
                                              refine r_get1 (pc := 149) 10 33 72 dX10_rivals_149 (fl_RX10_72 rfl) (by decide) rfl (c10_o hm) (c10_p33 hm) ?_
                                              refine r_bipush (pc := 152) (v := 42) dX10_rivals_152 (by decide) ?_
                                              refine r_iload (pc := 154) dX10_rivals_154 rfl ?_
                                              refine r_imul_n (pc := 156) (a := 42) (b := p) dX10_rivals_156 ?_
                                              refine r_iload (pc := 157) dX10_rivals_157 rfl ?_
                                              refine r_iadd_n (pc := 159) (a := 42 * p) (b := q) dX10_rivals_159 ?_
                                              refine r_iload (pc := 160) dX10_rivals_160 rfl ?_
                                              refine r_iload (pc := 162) dX10_rivals_162 rfl ?_
                                              refine r_isub (pc := 164) (x := nI p) (z := nI un) dX10_rivals_164 ?_
                                              refine r_iload (pc := 165) dX10_rivals_165 rfl ?_
                                              refine r_imul (pc := 167) (x := (nI p) - (nI un)) (z := 0) dX10_rivals_167 ?_
                                              refine r_iast_n (pc := 168) (i := (42 * p) + q) (v := ((nI p) - (nI un)) * 0) dX10_rivals_168 (c10_a33 hm) (by decide) (by omega) ?_
                                              refine r_aload_n (pc := 169) dX10_rivals_169 rfl ?_
                                              refine r_get1 (pc := 170) 10 34 75 dX10_rivals_170 (fl_RX10_75 rfl) (by decide) rfl (c10_o hm) (c10_p34 hm) ?_
                                              refine r_bipush (pc := 173) (v := 42) dX10_rivals_173 (by decide) ?_
                                              refine r_iload (pc := 175) dX10_rivals_175 rfl ?_
                                              refine r_imul_n (pc := 177) (a := 42) (b := p) dX10_rivals_177 ?_
                                              refine r_iload (pc := 178) dX10_rivals_178 rfl ?_
                                              refine r_iadd_n (pc := 180) (a := 42 * p) (b := q) dX10_rivals_180 ?_
                                              refine r_iload (pc := 181) dX10_rivals_181 rfl ?_
                                              refine r_iload (pc := 183) dX10_rivals_183 rfl ?_
                                              refine r_isub (pc := 185) (x := nI q) (z := nI vn) dX10_rivals_185 ?_
                                              refine r_iload (pc := 186) dX10_rivals_186 rfl ?_
                                              refine r_imul (pc := 188) (x := (nI q) - (nI vn)) (z := nI ((wF (dK s k) yn q) + (wF (dK s k) xn q))) dX10_rivals_188 ?_
                                              refine r_iast_n (pc := 189) (i := (42 * p) + q) (v := ((nI q) - (nI vn)) * (nI ((wF (dK s k) yn q) + (wF (dK s k) xn q)))) dX10_rivals_189 (c10_a34 hm) (by decide) (by omega) ?_
                                              obtain ⟨I4, hI4⟩ : ∃ zz0 : Im, zz0 = up2 (up2 I3 (m + 21) ((42 * p) + q) (((nI p) - (nI un)) * 0)) (m + 22) ((42 * p) + q) (((nI q) - (nI vn)) * (nI ((wF (dK s k) yn q) + (wF (dK s k) xn q)))) := ⟨_, rfl⟩
                                              refine wp_M (M2 := (I4, G)) (by subst hI4; rfl) ?_
                                              have hZ4 : FrZ I I4 m := by rw [hI4]; exact (hZ3.u (by omega)).u (by omega)
                                              have hF4 : ∀ x y, y < 42 → 42 * x + y < 42 * p + (q + 1) → I4 (m + 21) (42 * x + y) = gdF (fun x => (nI x - nI un) * (nI (wF (dK s k) xn x) + nI (wF (dK s k) yn x))) (fun x => (nI x - nI un) * nI (wF (dK s k) xn x)) x y := fun x y hy hz => by
                                                rw [hI4, up2_rd (by omega)]
                                                by_cases e : x = p ∧ y = q
                                                · obtain ⟨rfl, rfl⟩ := e
                                                  rw [up2_at]
                                                  simp only [gdF]; (repeat' split) <;> first | (exfalso; omega) | (simp only [nI_add]; done) | (simp only [Nat.add_zero]; done) | (simp; done)
                                                · rw [up2_rd (by omega)]
                                                  exact hF3 x y hy (by omega)
                                              have hS4 : ∀ x y, y < 42 → 42 * x + y < 42 * p + (q + 1) → I4 (m + 22) (42 * x + y) = gdF (fun x => (nI x - nI vn) * (nI (wF (dK s k) xn x) + nI (wF (dK s k) yn x))) (fun x => (nI x - nI vn) * nI (wF (dK s k) yn x)) y x := fun x y hy hz => by
                                                rw [hI4]
                                                by_cases e : x = p ∧ y = q
                                                · obtain ⟨rfl, rfl⟩ := e
                                                  rw [up2_at]
                                                  simp only [gdF]; (repeat' split) <;> first | (exfalso; omega) | (simp only [nI_add, Nat.add_comm]; done) | (simp only [Nat.add_zero]; done) | (simp; done)
                                                · rw [up2_rd (by omega), up2_rd (by omega)]
                                                  exact hS3 x y hy (by omega)
                                              refine r_iinc (pc := 190) (v := nI (q + 1)) (L' := [some (.ref m), some (.int (nI k)), some (.int (nI xn)), some (.int (nI yn)), some (.int (nI un)), some (.int (nI vn)), some (.int i), some (.int (nI p)), some (.int (nI (q + 1))), some (.int (nI 0)), some (.int (nI ((wF (dK s k) yn q) + (wF (dK s k) xn q))))]) dX10_rivals_190 rfl (nI_inc _) (by decide) rfl rfl ?_
                                              refine r_goto (pc := 193) (tgt := 59) dX10_rivals_193 (by decide) ?_
                                              refine wp_sub [some (.ref m), some (.int (nI k)), some (.int (nI xn)), some (.int (nI yn)), some (.int (nI un)), some (.int (nI vn)), some (.int i), some (.int (nI p)), some (.int (nI (q + 1))), none, none] ⟨rfl, ⟨rfl, ⟨rfl, ⟨rfl, ⟨rfl, ⟨rfl, ⟨rfl, ⟨rfl, ⟨rfl, trivial⟩⟩⟩⟩⟩⟩⟩⟩⟩ ?_
                                              exact ih59 _ (by omega) (q + 1) I4 rfl (by omega) hZ4 hF4 hS4
                                          · skip
                                            refine r_iconst (pc := 114) (v := 0) dX10_rivals_114 (by decide) ?_
                                            refine r_goto (pc := 115) (tgt := 146) dX10_rivals_115 (by decide) ?_
                                            refine r_istore (pc := 146) (L' := [some (.ref m), some (.int (nI k)), some (.int (nI xn)), some (.int (nI yn)), some (.int (nI un)), some (.int (nI vn)), some (.int i), some (.int (nI p)), some (.int (nI q)), some (.int (nI 0)), some (.int (nI 0))]) dX10_rivals_146 (by decide) rfl rfl ?_
                                            refine r_aload_n (pc := 148) dX10_rivals_148 rfl ?_
                                            refine r_get1 (pc := 149) 10 33 72 dX10_rivals_149 (fl_RX10_72 rfl) (by decide) rfl (c10_o hm) (c10_p33 hm) ?_
                                            refine r_bipush (pc := 152) (v := 42) dX10_rivals_152 (by decide) ?_
                                            refine r_iload (pc := 154) dX10_rivals_154 rfl ?_
                                            refine r_imul_n (pc := 156) (a := 42) (b := p) dX10_rivals_156 ?_
                                            refine r_iload (pc := 157) dX10_rivals_157 rfl ?_
                                            refine r_iadd_n (pc := 159) (a := 42 * p) (b := q) dX10_rivals_159 ?_
                                            refine r_iload (pc := 160) dX10_rivals_160 rfl ?_
                                            refine r_iload (pc := 162) dX10_rivals_162 rfl ?_
                                            refine r_isub (pc := 164) (x := nI p) (z := nI un) dX10_rivals_164 ?_
                                            refine r_iload (pc := 165) dX10_rivals_165 rfl ?_
                                            refine r_imul (pc := 167) (x := (nI p) - (nI un)) (z := 0) dX10_rivals_167 ?_
                                            refine r_iast_n (pc := 168) (i := (42 * p) + q) (v := ((nI p) - (nI un)) * 0) dX10_rivals_168 (c10_a33 hm) (by decide) (by omega) ?_
                                            refine r_aload_n (pc := 169) dX10_rivals_169 rfl ?_
                                            refine r_get1 (pc := 170) 10 34 75 dX10_rivals_170 (fl_RX10_75 rfl) (by decide) rfl (c10_o hm) (c10_p34 hm) ?_
                                            refine r_bipush (pc := 173) (v := 42) dX10_rivals_173 (by decide) ?_
                                            refine r_iload (pc := 175) dX10_rivals_175 rfl ?_
                                            refine r_imul_n (pc := 177) (a := 42) (b := p) dX10_rivals_177 ?_
                                            refine r_iload (pc := 178) dX10_rivals_178 rfl ?_
                                            refine r_iadd_n (pc := 180) (a := 42 * p) (b := q) dX10_rivals_180 ?_
                                            refine r_iload (pc := 181) dX10_rivals_181 rfl ?_
                                            refine r_iload (pc := 183) dX10_rivals_183 rfl ?_
                                            refine r_isub (pc := 185) (x := nI q) (z := nI vn) dX10_rivals_185 ?_
                                            refine r_iload (pc := 186) dX10_rivals_186 rfl ?_
                                            refine r_imul (pc := 188) (x := (nI q) - (nI vn)) (z := 0) dX10_rivals_188 ?_
                                            refine r_iast_n (pc := 189) (i := (42 * p) + q) (v := ((nI q) - (nI vn)) * 0) dX10_rivals_189 (c10_a34 hm) (by decide) (by omega) ?_
                                            obtain ⟨I4, hI4⟩ : ∃ zz0 : Im, zz0 = up2 (up2 I3 (m + 21) ((42 * p) + q) (((nI p) - (nI un)) * 0)) (m + 22) ((42 * p) + q) (((nI q) - (nI vn)) * 0) := ⟨_, rfl⟩
                                            refine wp_M (M2 := (I4, G)) (by subst hI4; rfl) ?_
                                            have hZ4 : FrZ I I4 m := by rw [hI4]; exact (hZ3.u (by omega)).u (by omega)
                                            have hF4 : ∀ x y, y < 42 → 42 * x + y < 42 * p + (q + 1) → I4 (m + 21) (42 * x + y) = gdF (fun x => (nI x - nI un) * (nI (wF (dK s k) xn x) + nI (wF (dK s k) yn x))) (fun x => (nI x - nI un) * nI (wF (dK s k) xn x)) x y := fun x y hy hz => by
                                              rw [hI4, up2_rd (by omega)]
                                              by_cases e : x = p ∧ y = q
                                              · obtain ⟨rfl, rfl⟩ := e
                                                rw [up2_at]
                                                simp only [gdF]; (repeat' split) <;> first | (exfalso; omega) | (simp only [nI_add]; done) | (simp only [Nat.add_zero]; done) | (simp; done)
                                              · rw [up2_rd (by omega)]
                                                exact hF3 x y hy (by omega)
                                            have hS4 : ∀ x y, y < 42 → 42 * x + y < 42 * p + (q + 1) → I4 (m + 22) (42 * x + y) = gdF (fun x => (nI x - nI vn) * (nI (wF (dK s k) xn x) + nI (wF (dK s k) yn x))) (fun x => (nI x - nI vn) * nI (wF (dK s k) yn x)) y x := fun x y hy hz => by
                                              rw [hI4]
                                              by_cases e : x = p ∧ y = q
                                              · obtain ⟨rfl, rfl⟩ := e
                                                rw [up2_at]
                                                simp only [gdF]; (repeat' split) <;> first | (exfalso; omega) | (simp only [nI_add, Nat.add_comm]; done) | (simp only [Nat.add_zero]; done) | (simp; done)
                                              · rw [up2_rd (by omega), up2_rd (by omega)]
                                                exact hS3 x y hy (by omega)
                                            refine r_iinc (pc := 190) (v := nI (q + 1)) (L' := [some (.ref m), some (.int (nI k)), some (.int (nI xn)), some (.int (nI yn)), some (.int (nI un)), some (.int (nI vn)), some (.int i), some (.int (nI p)), some (.int (nI (q + 1))), some (.int (nI 0)), some (.int (nI 0))]) dX10_rivals_190 rfl (nI_inc _) (by decide) rfl rfl ?_
                                            refine r_goto (pc := 193) (tgt := 59) dX10_rivals_193 (by decide) ?_
                                            refine wp_sub [some (.ref m), some (.int (nI k)), some (.int (nI xn)), some (.int (nI yn)), some (.int (nI un)), some (.int (nI vn)), some (.int i), some (.int (nI p)), some (.int (nI (q + 1))), none, none] ⟨rfl, ⟨rfl, ⟨rfl, ⟨rfl, ⟨rfl, ⟨rfl, ⟨rfl, ⟨rfl, ⟨rfl, trivial⟩⟩⟩⟩⟩⟩⟩⟩⟩ ?_
                                            exact ih59 _ (by omega) (q + 1) I4 rfl (by omega) hZ4 hF4 hS4
                                  exact lp59 _ 0 I2 rfl (by omega) hZ2 hF2 hS2
                            exact lp49 _ 0 Ia rfl (by omega) hZ (by exact fun x y _ z => absurd z (by omega)) (by exact fun x y _ z => absurd z (by omega))
                          · exfalso; omega
                · skip
                  refine r_aload_n (pc := 0) dX10_rivals_0 rfl ?_
                  refine r_iconst (pc := 1) (v := 0) dX10_rivals_1 (by decide) ?_
                  refine r_putI (pc := 2) (v := nI 0) 10 0 84 dX10_rivals_2 (fl_RX10_84 rfl) (by decide) rfl rfl (c10_o hm) ?_
                  obtain ⟨Ia, hIa⟩ : ∃ zz0 : Im, zz0 = up2 I m 0 (nI 0) := ⟨_, rfl⟩
                  refine wp_M (M2 := (Ia, G)) (by subst hIa; rfl) ?_
                  have hZ : FrZ I Ia m := by rw [hIa]; exact FrZ.rf.u (by omega)
                  refine r_aload_n (pc := 5) dX10_rivals_5 rfl ?_
                  refine r_iload_n (pc := 6) dX10_rivals_6 rfl ?_
                  refine r_iload_n (pc := 7) dX10_rivals_7 rfl ?_
                  refine r_callV_P (pc := 8) (b := m) (As := [.int (nI k), .int (nI xn)]) 10 165 dX10_rivals_8 lk_X10_isShop (ml_RX10_165 rfl) im_X10_isShop se_X10_isShop (by decide) (c10_o hm) (Nat.le_of_ble_eq_true rfl) rfl (isShopM_y hm (hZ.mt hk0) (hZ.c hcn) hcn10 hk hxn hsx) ?_
                  refine r_if_eq_n (pc := 11) (a := 1) (tgt := 44) dX10_rivals_11 (by decide) (by first | omega | (have := hW.2.2.2 xn p; have := hW.2.2.2 yn p; have := hW.2.2.2 xn q; have := hW.2.2.2 yn q; omega)) (fun c11 => ?_) (fun c11 => ?_)
                  · exfalso; omega
                  · skip
                    refine r_aload_n (pc := 14) dX10_rivals_14 rfl ?_
                    refine r_iload_n (pc := 15) dX10_rivals_15 rfl ?_
                    refine r_iload_n (pc := 16) dX10_rivals_16 rfl ?_
                    refine r_callV_P (pc := 17) (b := m) (As := [.int (nI k), .int (nI yn)]) 10 165 dX10_rivals_17 lk_X10_isShop (ml_RX10_165 rfl) im_X10_isShop se_X10_isShop (by decide) (c10_o hm) (Nat.le_of_ble_eq_true rfl) rfl (isShopM_y hm (hZ.mt hk0) (hZ.c hcn) hcn10 hk hyn hsy) ?_
                    refine r_if_eq_n (pc := 20) (a := 1) (tgt := 44) dX10_rivals_20 (by decide) (by first | omega | (have := hW.2.2.2 xn p; have := hW.2.2.2 yn p; have := hW.2.2.2 xn q; have := hW.2.2.2 yn q; omega)) (fun c20 => ?_) (fun c20 => ?_)
                    · exfalso; omega
                    · skip
                      refine r_iload_n (pc := 23) dX10_rivals_23 rfl ?_
                      refine r_iload_n (pc := 24) dX10_rivals_24 rfl ?_
                      refine r_icmp_eq_n (pc := 25) (a := xn) (b := yn) (tgt := 44) dX10_rivals_25 (by decide) (by first | omega | (have := hW.2.2.2 xn p; have := hW.2.2.2 yn p; have := hW.2.2.2 xn q; have := hW.2.2.2 yn q; omega)) (by first | omega | (have := hW.2.2.2 xn p; have := hW.2.2.2 yn p; have := hW.2.2.2 xn q; have := hW.2.2.2 yn q; omega)) (fun c25 => ?_) (fun c25 => ?_)
                      · exfalso; exact hxy c25
                      · skip
                        refine r_iload (pc := 28) dX10_rivals_28 rfl ?_
                        refine r_callS_P (pc := 30) (As := [.int (nI un)]) 172 dX10_rivals_30 lk_X10_isPrice (ml_RX10_172 rfl) sm_X10_isPrice (Nat.le_of_ble_eq_true rfl) rfl (isPriceM_y hun) ?_
                        refine r_if_eq_n (pc := 33) (a := 1) (tgt := 44) dX10_rivals_33 (by decide) (by first | omega | (have := hW.2.2.2 xn p; have := hW.2.2.2 yn p; have := hW.2.2.2 xn q; have := hW.2.2.2 yn q; omega)) (fun c33 => ?_) (fun c33 => ?_)
                        · exfalso; omega
                        · skip
                          refine r_iload (pc := 36) dX10_rivals_36 rfl ?_
                          refine r_callS_P (pc := 38) (As := [.int v]) 172 dX10_rivals_38 lk_X10_isPrice (ml_RX10_172 rfl) sm_X10_isPrice (Nat.le_of_ble_eq_true rfl) rfl (isPriceM_n hnov) ?_
                          refine r_if_ne_n (pc := 41) (a := 0) (tgt := 46) dX10_rivals_41 (by decide) (by first | omega | (have := hW.2.2.2 xn p; have := hW.2.2.2 yn p; have := hW.2.2.2 xn q; have := hW.2.2.2 yn q; omega)) (fun c41 => ?_) (fun c41 => ?_)
                          · exfalso; omega
                          · skip
                            refine r_iconst (pc := 44) (v := -1) dX10_rivals_44 (by decide) ?_
                            refine r_ret_i (pc := 45) dX10_rivals_45 rfl ?_
                            exact ⟨_, Ia, rfl, rfl, (by unfold aRivals; rw [atN_s et, atN_s ex, if_pos hsx, atN_s ey, if_pos hsy, if_neg hxy, atN_s eu, atN_n ev] <;> rfl), hM.z hZ, fun x j z => hZ x j (by omega) (by omega)⟩
              · skip
                refine r_aload_n (pc := 0) dX10_rivals_0 rfl ?_
                refine r_iconst (pc := 1) (v := 0) dX10_rivals_1 (by decide) ?_
                refine r_putI (pc := 2) (v := nI 0) 10 0 84 dX10_rivals_2 (fl_RX10_84 rfl) (by decide) rfl rfl (c10_o hm) ?_
                obtain ⟨Ia, hIa⟩ : ∃ zz0 : Im, zz0 = up2 I m 0 (nI 0) := ⟨_, rfl⟩
                refine wp_M (M2 := (Ia, G)) (by subst hIa; rfl) ?_
                have hZ : FrZ I Ia m := by rw [hIa]; exact FrZ.rf.u (by omega)
                refine r_aload_n (pc := 5) dX10_rivals_5 rfl ?_
                refine r_iload_n (pc := 6) dX10_rivals_6 rfl ?_
                refine r_iload_n (pc := 7) dX10_rivals_7 rfl ?_
                refine r_callV_P (pc := 8) (b := m) (As := [.int (nI k), .int (nI xn)]) 10 165 dX10_rivals_8 lk_X10_isShop (ml_RX10_165 rfl) im_X10_isShop se_X10_isShop (by decide) (c10_o hm) (Nat.le_of_ble_eq_true rfl) rfl (isShopM_y hm (hZ.mt hk0) (hZ.c hcn) hcn10 hk hxn hsx) ?_
                refine r_if_eq_n (pc := 11) (a := 1) (tgt := 44) dX10_rivals_11 (by decide) (by first | omega | (have := hW.2.2.2 xn p; have := hW.2.2.2 yn p; have := hW.2.2.2 xn q; have := hW.2.2.2 yn q; omega)) (fun c11 => ?_) (fun c11 => ?_)
                · exfalso; omega
                · skip
                  refine r_aload_n (pc := 14) dX10_rivals_14 rfl ?_
                  refine r_iload_n (pc := 15) dX10_rivals_15 rfl ?_
                  refine r_iload_n (pc := 16) dX10_rivals_16 rfl ?_
                  refine r_callV_P (pc := 17) (b := m) (As := [.int (nI k), .int (nI yn)]) 10 165 dX10_rivals_17 lk_X10_isShop (ml_RX10_165 rfl) im_X10_isShop se_X10_isShop (by decide) (c10_o hm) (Nat.le_of_ble_eq_true rfl) rfl (isShopM_y hm (hZ.mt hk0) (hZ.c hcn) hcn10 hk hyn hsy) ?_
                  refine r_if_eq_n (pc := 20) (a := 1) (tgt := 44) dX10_rivals_20 (by decide) (by first | omega | (have := hW.2.2.2 xn p; have := hW.2.2.2 yn p; have := hW.2.2.2 xn q; have := hW.2.2.2 yn q; omega)) (fun c20 => ?_) (fun c20 => ?_)
                  · exfalso; omega
                  · skip
                    refine r_iload_n (pc := 23) dX10_rivals_23 rfl ?_
                    refine r_iload_n (pc := 24) dX10_rivals_24 rfl ?_
                    refine r_icmp_eq_n (pc := 25) (a := xn) (b := yn) (tgt := 44) dX10_rivals_25 (by decide) (by first | omega | (have := hW.2.2.2 xn p; have := hW.2.2.2 yn p; have := hW.2.2.2 xn q; have := hW.2.2.2 yn q; omega)) (by first | omega | (have := hW.2.2.2 xn p; have := hW.2.2.2 yn p; have := hW.2.2.2 xn q; have := hW.2.2.2 yn q; omega)) (fun c25 => ?_) (fun c25 => ?_)
                    · exfalso; exact hxy c25
                    · skip
                      refine r_iload (pc := 28) dX10_rivals_28 rfl ?_
                      refine r_callS_P (pc := 30) (As := [.int u]) 172 dX10_rivals_30 lk_X10_isPrice (ml_RX10_172 rfl) sm_X10_isPrice (Nat.le_of_ble_eq_true rfl) rfl (isPriceM_n hnou) ?_
                      refine r_if_eq_n (pc := 33) (a := 0) (tgt := 44) dX10_rivals_33 (by decide) (by first | omega | (have := hW.2.2.2 xn p; have := hW.2.2.2 yn p; have := hW.2.2.2 xn q; have := hW.2.2.2 yn q; omega)) (fun c33 => ?_) (fun c33 => ?_)
                      · skip
                        refine r_iconst (pc := 44) (v := -1) dX10_rivals_44 (by decide) ?_
                        refine r_ret_i (pc := 45) dX10_rivals_45 rfl ?_
                        exact ⟨_, Ia, rfl, rfl, (by unfold aRivals; rw [atN_s et, atN_s ex, if_pos hsx, atN_s ey, if_pos hsy, if_neg hxy, atN_n eu] <;> rfl), hM.z hZ, fun x j z => hZ x j (by omega) (by omega)⟩
                      · exfalso; omega
          · skip
            refine r_aload_n (pc := 0) dX10_rivals_0 rfl ?_
            refine r_iconst (pc := 1) (v := 0) dX10_rivals_1 (by decide) ?_
            refine r_putI (pc := 2) (v := nI 0) 10 0 84 dX10_rivals_2 (fl_RX10_84 rfl) (by decide) rfl rfl (c10_o hm) ?_
            obtain ⟨Ia, hIa⟩ : ∃ zz0 : Im, zz0 = up2 I m 0 (nI 0) := ⟨_, rfl⟩
            refine wp_M (M2 := (Ia, G)) (by subst hIa; rfl) ?_
            have hZ : FrZ I Ia m := by rw [hIa]; exact FrZ.rf.u (by omega)
            refine r_aload_n (pc := 5) dX10_rivals_5 rfl ?_
            refine r_iload_n (pc := 6) dX10_rivals_6 rfl ?_
            refine r_iload_n (pc := 7) dX10_rivals_7 rfl ?_
            refine r_callV_P (pc := 8) (b := m) (As := [.int (nI k), .int (nI xn)]) 10 165 dX10_rivals_8 lk_X10_isShop (ml_RX10_165 rfl) im_X10_isShop se_X10_isShop (by decide) (c10_o hm) (Nat.le_of_ble_eq_true rfl) rfl (isShopM_y hm (hZ.mt hk0) (hZ.c hcn) hcn10 hk hxn hsx) ?_
            refine r_if_eq_n (pc := 11) (a := 1) (tgt := 44) dX10_rivals_11 (by decide) (by first | omega | (have := hW.2.2.2 xn p; have := hW.2.2.2 yn p; have := hW.2.2.2 xn q; have := hW.2.2.2 yn q; omega)) (fun c11 => ?_) (fun c11 => ?_)
            · exfalso; omega
            · skip
              refine r_aload_n (pc := 14) dX10_rivals_14 rfl ?_
              refine r_iload_n (pc := 15) dX10_rivals_15 rfl ?_
              refine r_iload_n (pc := 16) dX10_rivals_16 rfl ?_
              refine r_callV_P (pc := 17) (b := m) (As := [.int (nI k), .int (nI yn)]) 10 165 dX10_rivals_17 lk_X10_isShop (ml_RX10_165 rfl) im_X10_isShop se_X10_isShop (by decide) (c10_o hm) (Nat.le_of_ble_eq_true rfl) rfl (isShopM_n hm (hZ.mt hk0) (hZ.c hcn) hcn10 hk hyn hsy) ?_
              refine r_if_eq_n (pc := 20) (a := 0) (tgt := 44) dX10_rivals_20 (by decide) (by first | omega | (have := hW.2.2.2 xn p; have := hW.2.2.2 yn p; have := hW.2.2.2 xn q; have := hW.2.2.2 yn q; omega)) (fun c20 => ?_) (fun c20 => ?_)
              · skip
                refine r_iconst (pc := 44) (v := -1) dX10_rivals_44 (by decide) ?_
                refine r_ret_i (pc := 45) dX10_rivals_45 rfl ?_
                exact ⟨_, Ia, rfl, rfl, (by unfold aRivals; rw [atN_s et, atN_s ex, if_pos hsx, atN_s ey, if_neg hsy] <;> rfl), hM.z hZ, fun x j z => hZ x j (by omega) (by omega)⟩
              · exfalso; omega
        · skip
          refine r_aload_n (pc := 0) dX10_rivals_0 rfl ?_
          refine r_iconst (pc := 1) (v := 0) dX10_rivals_1 (by decide) ?_
          refine r_putI (pc := 2) (v := nI 0) 10 0 84 dX10_rivals_2 (fl_RX10_84 rfl) (by decide) rfl rfl (c10_o hm) ?_
          obtain ⟨Ia, hIa⟩ : ∃ zz0 : Im, zz0 = up2 I m 0 (nI 0) := ⟨_, rfl⟩
          refine wp_M (M2 := (Ia, G)) (by subst hIa; rfl) ?_
          have hZ : FrZ I Ia m := by rw [hIa]; exact FrZ.rf.u (by omega)
          refine r_aload_n (pc := 5) dX10_rivals_5 rfl ?_
          refine r_iload_n (pc := 6) dX10_rivals_6 rfl ?_
          refine r_iload_n (pc := 7) dX10_rivals_7 rfl ?_
          refine r_callV_P (pc := 8) (b := m) (As := [.int (nI k), .int (nI xn)]) 10 165 dX10_rivals_8 lk_X10_isShop (ml_RX10_165 rfl) im_X10_isShop se_X10_isShop (by decide) (c10_o hm) (Nat.le_of_ble_eq_true rfl) rfl (isShopM_y hm (hZ.mt hk0) (hZ.c hcn) hcn10 hk hxn hsx) ?_
          refine r_if_eq_n (pc := 11) (a := 1) (tgt := 44) dX10_rivals_11 (by decide) (by first | omega | (have := hW.2.2.2 xn p; have := hW.2.2.2 yn p; have := hW.2.2.2 xn q; have := hW.2.2.2 yn q; omega)) (fun c11 => ?_) (fun c11 => ?_)
          · exfalso; omega
          · skip
            refine r_aload_n (pc := 14) dX10_rivals_14 rfl ?_
            refine r_iload_n (pc := 15) dX10_rivals_15 rfl ?_
            refine r_iload_n (pc := 16) dX10_rivals_16 rfl ?_
            refine r_callV_P (pc := 17) (b := m) (As := [.int (nI k), .int y]) 10 165 dX10_rivals_17 lk_X10_isShop (ml_RX10_165 rfl) im_X10_isShop se_X10_isShop (by decide) (c10_o hm) (Nat.le_of_ble_eq_true rfl) rfl (isShopM_no hm (hZ.mt hk0) (hZ.c hcn) hcn10 hk hnoy) ?_
            refine r_if_eq_n (pc := 20) (a := 0) (tgt := 44) dX10_rivals_20 (by decide) (by first | omega | (have := hW.2.2.2 xn p; have := hW.2.2.2 yn p; have := hW.2.2.2 xn q; have := hW.2.2.2 yn q; omega)) (fun c20 => ?_) (fun c20 => ?_)
            · skip
              refine r_iconst (pc := 44) (v := -1) dX10_rivals_44 (by decide) ?_
              refine r_ret_i (pc := 45) dX10_rivals_45 rfl ?_
              exact ⟨_, Ia, rfl, rfl, (by unfold aRivals; rw [atN_s et, atN_s ex, if_pos hsx, atN_n ey] <;> rfl), hM.z hZ, fun x j z => hZ x j (by omega) (by omega)⟩
            · exfalso; omega
      · skip
        refine r_aload_n (pc := 0) dX10_rivals_0 rfl ?_
        refine r_iconst (pc := 1) (v := 0) dX10_rivals_1 (by decide) ?_
        refine r_putI (pc := 2) (v := nI 0) 10 0 84 dX10_rivals_2 (fl_RX10_84 rfl) (by decide) rfl rfl (c10_o hm) ?_
        obtain ⟨Ia, hIa⟩ : ∃ zz0 : Im, zz0 = up2 I m 0 (nI 0) := ⟨_, rfl⟩
        refine wp_M (M2 := (Ia, G)) (by subst hIa; rfl) ?_
        have hZ : FrZ I Ia m := by rw [hIa]; exact FrZ.rf.u (by omega)
        refine r_aload_n (pc := 5) dX10_rivals_5 rfl ?_
        refine r_iload_n (pc := 6) dX10_rivals_6 rfl ?_
        refine r_iload_n (pc := 7) dX10_rivals_7 rfl ?_
        refine r_callV_P (pc := 8) (b := m) (As := [.int (nI k), .int (nI xn)]) 10 165 dX10_rivals_8 lk_X10_isShop (ml_RX10_165 rfl) im_X10_isShop se_X10_isShop (by decide) (c10_o hm) (Nat.le_of_ble_eq_true rfl) rfl (isShopM_n hm (hZ.mt hk0) (hZ.c hcn) hcn10 hk hxn hsx) ?_
        refine r_if_eq_n (pc := 11) (a := 0) (tgt := 44) dX10_rivals_11 (by decide) (by first | omega | (have := hW.2.2.2 xn p; have := hW.2.2.2 yn p; have := hW.2.2.2 xn q; have := hW.2.2.2 yn q; omega)) (fun c11 => ?_) (fun c11 => ?_)
        · skip
          refine r_iconst (pc := 44) (v := -1) dX10_rivals_44 (by decide) ?_
          refine r_ret_i (pc := 45) dX10_rivals_45 rfl ?_
          exact ⟨_, Ia, rfl, rfl, (by unfold aRivals; rw [atN_s et, atN_s ex, if_neg hsx] <;> rfl), hM.z hZ, fun x j z => hZ x j (by omega) (by omega)⟩
        · exfalso; omega
    · skip
      refine r_aload_n (pc := 0) dX10_rivals_0 rfl ?_
      refine r_iconst (pc := 1) (v := 0) dX10_rivals_1 (by decide) ?_
      refine r_putI (pc := 2) (v := nI 0) 10 0 84 dX10_rivals_2 (fl_RX10_84 rfl) (by decide) rfl rfl (c10_o hm) ?_
      obtain ⟨Ia, hIa⟩ : ∃ zz0 : Im, zz0 = up2 I m 0 (nI 0) := ⟨_, rfl⟩
      refine wp_M (M2 := (Ia, G)) (by subst hIa; rfl) ?_
      have hZ : FrZ I Ia m := by rw [hIa]; exact FrZ.rf.u (by omega)
      refine r_aload_n (pc := 5) dX10_rivals_5 rfl ?_
      refine r_iload_n (pc := 6) dX10_rivals_6 rfl ?_
      refine r_iload_n (pc := 7) dX10_rivals_7 rfl ?_
      refine r_callV_P (pc := 8) (b := m) (As := [.int (nI k), .int x]) 10 165 dX10_rivals_8 lk_X10_isShop (ml_RX10_165 rfl) im_X10_isShop se_X10_isShop (by decide) (c10_o hm) (Nat.le_of_ble_eq_true rfl) rfl (isShopM_no hm (hZ.mt hk0) (hZ.c hcn) hcn10 hk hnox) ?_
      refine r_if_eq_n (pc := 11) (a := 0) (tgt := 44) dX10_rivals_11 (by decide) (by first | omega | (have := hW.2.2.2 xn p; have := hW.2.2.2 yn p; have := hW.2.2.2 xn q; have := hW.2.2.2 yn q; omega)) (fun c11 => ?_) (fun c11 => ?_)
      · skip
        refine r_iconst (pc := 44) (v := -1) dX10_rivals_44 (by decide) ?_
        refine r_ret_i (pc := 45) dX10_rivals_45 rfl ?_
        exact ⟨_, Ia, rfl, rfl, (by unfold aRivals; rw [atN_s et, atN_n ex] <;> rfl), hM.z hZ, fun x j z => hZ x j (by omega) (by omega)⟩
      · exfalso; omega
  · skip
    refine r_aload_n (pc := 0) dX10_rivals_0 rfl ?_
    refine r_iconst (pc := 1) (v := 0) dX10_rivals_1 (by decide) ?_
    refine r_putI (pc := 2) (v := nI 0) 10 0 84 dX10_rivals_2 (fl_RX10_84 rfl) (by decide) rfl rfl (c10_o hm) ?_
    obtain ⟨Ia, hIa⟩ : ∃ zz0 : Im, zz0 = up2 I m 0 (nI 0) := ⟨_, rfl⟩
    refine wp_M (M2 := (Ia, G)) (by subst hIa; rfl) ?_
    have hZ : FrZ I Ia m := by rw [hIa]; exact FrZ.rf.u (by omega)
    refine r_aload_n (pc := 5) dX10_rivals_5 rfl ?_
    refine r_iload_n (pc := 6) dX10_rivals_6 rfl ?_
    refine r_iload_n (pc := 7) dX10_rivals_7 rfl ?_
    refine r_callV_P (pc := 8) (b := m) (As := [.int t, .int x]) 10 165 dX10_rivals_8 lk_X10_isShop (ml_RX10_165 rfl) im_X10_isShop se_X10_isShop (by decide) (c10_o hm) (Nat.le_of_ble_eq_true rfl) rfl (isShopM_nt hm (by rw [(hZ.c hcn)]; exact hnot)) ?_
    refine r_if_eq_n (pc := 11) (a := 0) (tgt := 44) dX10_rivals_11 (by decide) (by first | omega | (have := hW.2.2.2 xn p; have := hW.2.2.2 yn p; have := hW.2.2.2 xn q; have := hW.2.2.2 yn q; omega)) (fun c11 => ?_) (fun c11 => ?_)
    · skip
      refine r_iconst (pc := 44) (v := -1) dX10_rivals_44 (by decide) ?_
      refine r_ret_i (pc := 45) dX10_rivals_45 rfl ?_
      exact ⟨_, Ia, rfl, rfl, (by unfold aRivals; rw [atN_n et] <;> rfl), hM.z hZ, fun x j z => hZ x j (by omega) (by omega)⟩
    · exfalso; omega

set_option maxHeartbeats 300000 in
set_option maxRecDepth 100000 in
theorem makers_m {d : Nat} {I : Im} {G : Gm} {s : Sta} {m : Nat} (hm : isC10 G m) (hM : Mi s I m) {t : Int32} {x : Int32} {y : Int32} {z : Int32} {i : Int32} : Ct (d + 4) 0 0 YX10_makers [.ref m, .int t, .int x, .int y, .int z, .int i] (I, G) (qM G (fun zv I2 => PmQ s I m (aMakers s t x y z i) zv I2)) := by
  refine Ct.of (by decide) (by simp [Value.category]) (Nat.le_of_ble_eq_true rfl) ?_
  have hcn := hM.2.1
  have hcn10 := hM.2.2.1
  have hZ : FrZ I I m := FrZ.rf
  show wp _ _ _ _ 0 [some (.ref m), some (.int t), some (.int x), some (.int y), some (.int z), some (.int i), none, none, none, none] [] _ _
  rcases in_cases (n := sN s) (by have := hcn10; omega) t with ⟨k, hk, rfl, et⟩ | ⟨et, hnot⟩
  · skip
    obtain ⟨hok, hMd⟩ := hM.2.2.2.1 k hk
    have hk0 : MtC I m k (eK' s k) (dT (dK s k)) := mtc_of hok.1 hMd.1 _
    have hn8 : dN (dK s k) ≤ 8 := hok.1.1.2
    have hE : SrC (eK' s k) := src_of hok.1 _
    have hW : WbC (eK' s k) := wbc_of hok.1 _
    have hc30 : ∀ b, dC (dK s k) b ≤ 30 := hok.1.2.1
    rcases in_cases (n := dN (dK s k)) (by have := hn8; omega) x with ⟨xn, hxn, rfl, ex⟩ | ⟨ex, hnox⟩
    · skip
      rcases in_cases (n := dN (dK s k)) (by have := hn8; omega) y with ⟨yn, hyn, rfl, ey⟩ | ⟨ey, hnoy⟩
      · skip
        rcases in_cases (n := dN (dK s k)) (by have := hn8; omega) z with ⟨zn, hzn, rfl, ez⟩ | ⟨ez, hnoz⟩
        · skip
          by_cases hsz : shP (dK s k) zn
          · skip
            refine r_aload_n (pc := 0) dX10_makers_0 rfl ?_
            refine r_iconst (pc := 1) (v := 0) dX10_makers_1 (by decide) ?_
            refine r_putI (pc := 2) (v := nI 0) 10 0 84 dX10_makers_2 (fl_RX10_84 rfl) (by decide) rfl rfl (c10_o hm) ?_
            obtain ⟨Ia, hIa⟩ : ∃ zz0 : Im, zz0 = up2 I m 0 (nI 0) := ⟨_, rfl⟩
            refine wp_M (M2 := (Ia, G)) (by subst hIa; rfl) ?_
            have hZ : FrZ I Ia m := by rw [hIa]; exact FrZ.rf.u (by omega)
            refine r_aload_n (pc := 5) dX10_makers_5 rfl ?_
            refine r_iload_n (pc := 6) dX10_makers_6 rfl ?_
            refine r_iload_n (pc := 7) dX10_makers_7 rfl ?_
            refine r_callV_P (pc := 8) (b := m) (As := [.int (nI k), .int (nI xn)]) 10 154 dX10_makers_8 lk_X10_isHouse (ml_RX10_154 rfl) im_X10_isHouse se_X10_isHouse (by decide) (c10_o hm) (Nat.le_of_ble_eq_true rfl) rfl (isHouse_ct hm (hZ.mt hk0) (by omega) (hZ.c hcn) hcn10 hk hxn) ?_
            refine r_if_eq_n (pc := 11) (a := 1) (tgt := 50) dX10_makers_11 (by decide) (by omega) (fun c11 => ?_) (fun c11 => ?_)
            · exfalso; omega
            · skip
              refine r_aload_n (pc := 14) dX10_makers_14 rfl ?_
              refine r_iload_n (pc := 15) dX10_makers_15 rfl ?_
              refine r_iload_n (pc := 16) dX10_makers_16 rfl ?_
              refine r_callV_P (pc := 17) (b := m) (As := [.int (nI k), .int (nI yn)]) 10 154 dX10_makers_17 lk_X10_isHouse (ml_RX10_154 rfl) im_X10_isHouse se_X10_isHouse (by decide) (c10_o hm) (Nat.le_of_ble_eq_true rfl) rfl (isHouse_ct hm (hZ.mt hk0) (by omega) (hZ.c hcn) hcn10 hk hyn) ?_
              refine r_if_eq_n (pc := 20) (a := 1) (tgt := 50) dX10_makers_20 (by decide) (by omega) (fun c20 => ?_) (fun c20 => ?_)
              · exfalso; omega
              · skip
                refine r_iload_n (pc := 23) dX10_makers_23 rfl ?_
                refine r_iload_n (pc := 24) dX10_makers_24 rfl ?_
                refine r_icmp_eq_n (pc := 25) (a := xn) (b := yn) (tgt := 50) dX10_makers_25 (by decide) (by omega) (by omega) (fun c25 => ?_) (fun c25 => ?_)
                · skip
                  refine r_iconst (pc := 50) (v := -1) dX10_makers_50 (by decide) ?_
                  refine r_ret_i (pc := 51) dX10_makers_51 rfl ?_
                  exact ⟨_, Ia, rfl, rfl, (by unfold aMakers; rw [atN_s et, atN_s ex, atN_s ey, atN_s ez, if_pos hsz, if_neg (by omega)]), hM.z hZ, fun x j z => hZ x j (by omega) (by omega)⟩
                · skip
                  refine r_aload_n (pc := 28) dX10_makers_28 rfl ?_
                  refine r_iload_n (pc := 29) dX10_makers_29 rfl ?_
                  refine r_iload (pc := 30) dX10_makers_30 rfl ?_
                  refine r_callV_P (pc := 32) (b := m) (As := [.int (nI k), .int (nI zn)]) 10 165 dX10_makers_32 lk_X10_isShop (ml_RX10_165 rfl) im_X10_isShop se_X10_isShop (by decide) (c10_o hm) (Nat.le_of_ble_eq_true rfl) rfl (isShopM_y hm (hZ.mt hk0) (hZ.c hcn) hcn10 hk hzn hsz) ?_
                  refine r_if_eq_n (pc := 35) (a := 1) (tgt := 50) dX10_makers_35 (by decide) (by omega) (fun c35 => ?_) (fun c35 => ?_)
                  · exfalso; omega
                  · skip
                    refine r_iload_n (pc := 38) dX10_makers_38 rfl ?_
                    refine r_iload (pc := 39) dX10_makers_39 rfl ?_
                    refine r_icmp_eq_n (pc := 41) (a := xn) (b := zn) (tgt := 50) dX10_makers_41 (by decide) (by omega) (by omega) (fun c41 => ?_) (fun c41 => ?_)
                    · skip
                      refine r_iconst (pc := 50) (v := -1) dX10_makers_50 (by decide) ?_
                      refine r_ret_i (pc := 51) dX10_makers_51 rfl ?_
                      exact ⟨_, Ia, rfl, rfl, (by unfold aMakers; rw [atN_s et, atN_s ex, atN_s ey, atN_s ez, if_pos hsz, if_neg (by omega)]), hM.z hZ, fun x j z => hZ x j (by omega) (by omega)⟩
                    · skip
                      refine r_iload_n (pc := 44) dX10_makers_44 rfl ?_
                      refine r_iload (pc := 45) dX10_makers_45 rfl ?_
                      refine r_icmp_ne_n (pc := 47) (a := yn) (b := zn) (tgt := 52) dX10_makers_47 (by decide) (by omega) (by omega) (fun c47 => ?_) (fun c47 => ?_)
                      · skip
                        refine r_aload_n (pc := 52) dX10_makers_52 rfl ?_
                        refine r_iload_n (pc := 53) dX10_makers_53 rfl ?_
                        refine r_iconst (pc := 54) (v := 0) dX10_makers_54 (by decide) ?_
                        refine r_bipush (pc := 55) (v := 41) dX10_makers_55 (by decide) ?_
                        refine r_iconst (pc := 57) (v := 0) dX10_makers_57 (by decide) ?_
                        refine r_iconst (pc := 58) (v := 0) dX10_makers_58 (by decide) ?_
                        refine r_callV_V (pc := 59) (b := m) (As := [.int (nI k), .int (nI 0), .int (nI 41), .int (nI 0), .int (nI 0)]) 10 191 dX10_makers_59 lk_X10_terms (ml_RX10_191 rfl) im_X10_terms se_X10_terms (by decide) (c10_o hm) (Nat.le_of_ble_eq_true rfl) rfl (terms_f (E := e0 (dK s k)) hm (hZ.mt (mtc_of hok.1 hMd.1 _)) ⟨rfl, rfl, rfl, rfl⟩ (hZ.c hcn) hcn10 hk) (fun I1 h1 => ?_)
                        obtain ⟨hS1, hF1⟩ := h1
                        have hZ : FrZ I I1 m := hZ.tr hF1.z
                        refine r_iconst (pc := 62) (v := 0) dX10_makers_62 (by decide) ?_
                        refine r_istore (pc := 63) (L' := [some (.ref m), some (.int (nI k)), some (.int (nI xn)), some (.int (nI yn)), some (.int (nI zn)), some (.int i), some (.int (nI 0)), none, none, none]) dX10_makers_63 (by decide) rfl rfl ?_
                        have lp65 : ∀ (n65 : Nat), ∀ (p : Nat) (I2 : Im), 42 - p = n65 → (p ≤ 42) → (FrZ I I2 m) → (∀ x y, y < 42 → 42 * x + y < 42 * p → I2 (m + 21) (42 * x + y) = gdF (fun x => (nI x - nI (dC (dK s k) xn)) * nI (tkF (dK s k) zn x)) (fun x => if xn < yn then (nI x - nI (dC (dK s k) xn)) * nI (tkF (dK s k) zn x) else 0) x y) → (∀ x y, y < 42 → 42 * x + y < 42 * p → I2 (m + 22) (42 * x + y) = gdF (fun x => (nI x - nI (dC (dK s k) yn)) * nI (tkF (dK s k) zn x)) (fun x => if yn < xn then (nI x - nI (dC (dK s k) yn)) * nI (tkF (dK s k) zn x) else 0) y x) → (MS I2 m k (e0 (dK s k)) (dT (dK s k)) (sN s)) → wp (d + 4) 0 0 YX10_makers 65 [some (.ref m), some (.int (nI k)), some (.int (nI xn)), some (.int (nI yn)), some (.int (nI zn)), some (.int i), some (.int (nI p)), none, none, none] [] (I2, G) (qM G (fun zv I2 => PmQ s I m (aMakers s (nI k) (nI xn) (nI yn) (nI zn) i) zv I2)) := by
                          intro n65
                          induction n65 using Nat.strongRecOn with
                          | ind n65 ih65 =>
                            intro p I2 hmu65 hp hZ2 hF2 hS2 hS92
                            refine r_iload (pc := 65) dX10_makers_65 rfl ?_
                            refine r_bipush (pc := 67) (v := 41) dX10_makers_67 (by decide) ?_
                            refine r_icmp_gt_n (pc := 69) (a := p) (b := 41) (tgt := 218) dX10_makers_69 (by decide) (by omega) (by omega) (fun c69 => ?_) (fun c69 => ?_)
                            · skip
                              refine r_aload_n (pc := 218) dX10_makers_218 rfl ?_
                              have hZ := hZ2
                              refine r_iload (pc := 219) dX10_makers_219 rfl ?_
                              refine r_callV_P (pc := 221) (b := m) (As := [.int i]) 10 288 dX10_makers_221 lk_X10_restsOf (ml_RX10_288 rfl) im_X10_restsOf se_X10_restsOf (by decide) (c10_o hm) (Nat.le_of_ble_eq_true rfl) rfl (restsOf_ct hm) ?_
                              refine r_ret_i (pc := 224) dX10_makers_224 rfl ?_
                              exact ⟨_, I2, rfl, rfl, (by unfold aMakers; rw [atN_s et, atN_s ex, atN_s ey, atN_s ez, if_pos hsz, if_pos ⟨c25, c41, c47⟩]; unfold maF; exact scA_congr (fun r hr => du_same (fun x q hx hq => hF2 x q hq (by omega)) (fun p y hp2 hy => hS2 p y hy (by omega)) hr)), hM.z hZ, fun x j z => hZ x j (by omega) (by omega)⟩
                            · skip
                              refine r_iconst (pc := 72) (v := 0) dX10_makers_72 (by decide) ?_
                              refine r_istore (pc := 73) (L' := [some (.ref m), some (.int (nI k)), some (.int (nI xn)), some (.int (nI yn)), some (.int (nI zn)), some (.int i), some (.int (nI p)), some (.int (nI 0)), none, none]) dX10_makers_73 (by decide) rfl rfl ?_
                              have lp75 : ∀ (n75 : Nat), ∀ (q : Nat) (I3 : Im), 42 - q = n75 → (q ≤ 42) → (FrZ I I3 m) → (∀ x y, y < 42 → 42 * x + y < 42 * p + q → I3 (m + 21) (42 * x + y) = gdF (fun x => (nI x - nI (dC (dK s k) xn)) * nI (tkF (dK s k) zn x)) (fun x => if xn < yn then (nI x - nI (dC (dK s k) xn)) * nI (tkF (dK s k) zn x) else 0) x y) → (∀ x y, y < 42 → 42 * x + y < 42 * p + q → I3 (m + 22) (42 * x + y) = gdF (fun x => (nI x - nI (dC (dK s k) yn)) * nI (tkF (dK s k) zn x)) (fun x => if yn < xn then (nI x - nI (dC (dK s k) yn)) * nI (tkF (dK s k) zn x) else 0) y x) → (MS I3 m k (e0 (dK s k)) (dT (dK s k)) (sN s)) → wp (d + 4) 0 0 YX10_makers 75 [some (.ref m), some (.int (nI k)), some (.int (nI xn)), some (.int (nI yn)), some (.int (nI zn)), some (.int i), some (.int (nI p)), some (.int (nI q)), none, none] [] (I3, G) (qM G (fun zv I2 => PmQ s I m (aMakers s (nI k) (nI xn) (nI yn) (nI zn) i) zv I2)) := by
                                intro n75
                                induction n75 using Nat.strongRecOn with
                                | ind n75 ih75 =>
                                  intro q I3 hmu75 hq hZ3 hF3 hS3 hS93
                                  have hZ := hZ3
                                  have hS9 := hS93
                                  refine r_iload (pc := 75) dX10_makers_75 rfl ?_
                                  refine r_bipush (pc := 77) (v := 41) dX10_makers_77 (by decide) ?_
                                  refine r_icmp_gt_n (pc := 79) (a := q) (b := 41) (tgt := 212) dX10_makers_79 (by decide) (by omega) (by omega) (fun c79 => ?_) (fun c79 => ?_)
                                  · skip
                                    refine r_iinc (pc := 212) (v := nI (p + 1)) (L' := [some (.ref m), some (.int (nI k)), some (.int (nI xn)), some (.int (nI yn)), some (.int (nI zn)), some (.int i), some (.int (nI (p + 1))), some (.int (nI q)), none, none]) dX10_makers_212 rfl (nI_inc _) (by decide) rfl rfl ?_
                                    refine r_goto (pc := 215) (tgt := 65) dX10_makers_215 (by decide) ?_
                                    refine wp_sub [some (.ref m), some (.int (nI k)), some (.int (nI xn)), some (.int (nI yn)), some (.int (nI zn)), some (.int i), some (.int (nI (p + 1))), none, none, none] ⟨rfl, ⟨rfl, ⟨rfl, ⟨rfl, ⟨rfl, ⟨rfl, ⟨rfl, trivial⟩⟩⟩⟩⟩⟩⟩ ?_
                                    exact ih65 _ (by omega) (p + 1) I3 rfl (by omega) hZ3 (by rw [show 42 * (p + 1) = 42 * p + q by omega]; exact hF3) (by rw [show 42 * (p + 1) = 42 * p + q by omega]; exact hS3) hS93
                                  · skip
                                    refine r_iload (pc := 82) dX10_makers_82 rfl ?_
                                    refine r_iload (pc := 84) dX10_makers_84 rfl ?_
                                    refine r_icmp_lt_n (pc := 86) (a := p) (b := q) (tgt := 101) dX10_makers_86 (by decide) (by omega) (by omega) (fun c86 => ?_) (fun c86 => ?_)
                                    · skip
                                      refine r_iconst (pc := 101) (v := 1) dX10_makers_101 (by decide) ?_
                                      refine r_goto (pc := 102) (tgt := 106) dX10_makers_102 (by decide) ?_
                                      refine r_istore (pc := 106) (L' := [some (.ref m), some (.int (nI k)), some (.int (nI xn)), some (.int (nI yn)), some (.int (nI zn)), some (.int i), some (.int (nI p)), some (.int (nI q)), some (.int (nI 1)), none]) dX10_makers_106 (by decide) rfl rfl ?_
                                      refine r_aload_n (pc := 108) dX10_makers_108 rfl ?_
                                      refine r_iload_n (pc := 109) dX10_makers_109 rfl ?_
                                      refine r_iload (pc := 110) dX10_makers_110 rfl ?_
                                      refine r_aload_n (pc := 112) dX10_makers_112 rfl ?_
                                      refine r_iload (pc := 113) dX10_makers_113 rfl ?_
                                      refine r_iload (pc := 115) dX10_makers_115 rfl ?_
                                      refine r_iload (pc := 117) dX10_makers_117 rfl ?_
                                      refine r_min (pc := 119) (x := nI p) (z := nI q) 291 dX10_makers_119 (mm_RX10_291 rfl) mt_min_s mt_i mt_min_c (Nat.le_of_ble_eq_true rfl) ?_
                                      have hmn := min_n (p := p) (q := q) (by omega) (by omega)
                                      · skip
                                        refine wp_S (st2 := [.int (nI (min p q)), .int (nI zn), .ref m, .int (nI zn), .int (nI k), .ref m]) (by rw [hmn]) ?_
                                        refine r_aload_n (pc := 122) dX10_makers_122 rfl ?_
                                        refine r_iload_n (pc := 123) dX10_makers_123 rfl ?_
                                        refine r_iload (pc := 124) dX10_makers_124 rfl ?_
                                        refine r_callV_P (pc := 126) (b := m) (As := [.int (nI k), .int (nI zn)]) 10 162 dX10_makers_126 lk_X10_costOf (ml_RX10_162 rfl) im_X10_costOf se_X10_costOf (by decide) (c10_o hm) (Nat.le_of_ble_eq_true rfl) rfl (costOf_ct hm (hZ.mt hk0) (by omega) (b := zn) (by omega)) ?_
                                        refine r_iadd_n (pc := 129) (a := min p q) (b := dC (dK s k) zn) dX10_makers_129 ?_
                                        refine r_callV_P (pc := 130) (b := m) (As := [.int (nI zn), .int (nI ((min p q) + (dC (dK s k) zn)))]) 10 213 dX10_makers_130 lk_X10_askBy (ml_RX10_213 rfl) im_X10_askBy se_X10_askBy (by decide) (c10_o hm) (Nat.le_of_ble_eq_true rfl) rfl (askBy_ct (E := e0 (dK s k)) hm hS9.1 (by omega) hS9.2.1 (h := zn) (by omega) (by have := hc30 zn; omega)) ?_
                                        refine r_callV_P (pc := 133) (b := m) (As := [.int (nI k), .int (nI zn), .int (nI (askF (wF (dK s k) zn) 41 (min p q + dC (dK s k) zn)))]) 10 168 dX10_makers_133 lk_X10_wanted (ml_RX10_168 rfl) im_X10_wanted se_X10_wanted (by decide) (c10_o hm) (Nat.le_of_ble_eq_true rfl) rfl (wanted_ct (E := e0 (dK s k)) hm hS9.1 (by omega) (h := zn) (by omega) (askF_le _ _ _)) ?_
                                        refine r_istore (pc := 136) (L' := [some (.ref m), some (.int (nI k)), some (.int (nI xn)), some (.int (nI yn)), some (.int (nI zn)), some (.int i), some (.int (nI p)), some (.int (nI q)), some (.int (nI 1)), some (.int (nI (tkF (dK s k) zn (min p q))))]) dX10_makers_136 (by decide) rfl rfl ?_
                                        refine r_aload_n (pc := 138) dX10_makers_138 rfl ?_
                                        refine r_get1 (pc := 139) 10 33 72 dX10_makers_139 (fl_RX10_72 rfl) (by decide) rfl (c10_o hm) (c10_p33 hm) ?_
                                        refine r_bipush (pc := 142) (v := 42) dX10_makers_142 (by decide) ?_
                                        refine r_iload (pc := 144) dX10_makers_144 rfl ?_
                                        refine r_imul_n (pc := 146) (a := 42) (b := p) dX10_makers_146 ?_
                                        refine r_iload (pc := 147) dX10_makers_147 rfl ?_
                                        refine r_iadd_n (pc := 149) (a := 42 * p) (b := q) dX10_makers_149 ?_
                                        refine r_iload (pc := 150) dX10_makers_150 rfl ?_
                                        refine r_if_eq_n (pc := 152) (a := 1) (tgt := 170) dX10_makers_152 (by decide) (by omega) (fun c152 => ?_) (fun c152 => ?_)
                                        · exfalso; omega
                                        · skip
                                          refine r_iload (pc := 155) dX10_makers_155 rfl ?_
                                          refine r_aload_n (pc := 157) dX10_makers_157 rfl ?_
                                          refine r_iload_n (pc := 158) dX10_makers_158 rfl ?_
                                          refine r_iload_n (pc := 159) dX10_makers_159 rfl ?_
                                          refine r_callV_P (pc := 160) (b := m) (As := [.int (nI k), .int (nI xn)]) 10 162 dX10_makers_160 lk_X10_costOf (ml_RX10_162 rfl) im_X10_costOf se_X10_costOf (by decide) (c10_o hm) (Nat.le_of_ble_eq_true rfl) rfl (costOf_ct hm (hZ.mt hk0) (by omega) (b := xn) (by omega)) ?_
                                          refine r_isub (pc := 163) (x := nI p) (z := nI (dC (dK s k) xn)) dX10_makers_163 ?_
                                          refine r_iload (pc := 164) dX10_makers_164 rfl ?_
                                          refine r_imul (pc := 166) (x := (nI p) - (nI (dC (dK s k) xn))) (z := nI (tkF (dK s k) zn (min p q))) dX10_makers_166 ?_
                                          refine r_goto (pc := 167) (tgt := 171) dX10_makers_167 (by decide) ?_
                                          refine r_iast_n (pc := 171) (i := (42 * p) + q) (v := ((nI p) - (nI (dC (dK s k) xn))) * (nI (tkF (dK s k) zn (min p q)))) dX10_makers_171 (c10_a33 hm) (by decide) (by omega) ?_
                                          refine r_aload_n (pc := 172) dX10_makers_172 rfl ?_
                                          refine r_get1 (pc := 173) 10 34 75 dX10_makers_173 (fl_RX10_75 rfl) (by decide) rfl (c10_o hm) (c10_p34 hm) ?_
                                          refine r_bipush (pc := 176) (v := 42) dX10_makers_176 (by decide) ?_
                                          refine r_iload (pc := 178) dX10_makers_178 rfl ?_
                                          refine r_imul_n (pc := 180) (a := 42) (b := p) dX10_makers_180 ?_
                                          refine r_iload (pc := 181) dX10_makers_181 rfl ?_
                                          refine r_iadd_n (pc := 183) (a := 42 * p) (b := q) dX10_makers_183 ?_
                                          refine r_iload (pc := 184) dX10_makers_184 rfl ?_
                                          refine r_if_eq_n (pc := 186) (a := 1) (tgt := 193) dX10_makers_186 (by decide) (by omega) (fun c186 => ?_) (fun c186 => ?_)
                                          · exfalso; omega
                                          · skip
                                            refine r_iconst (pc := 189) (v := 0) dX10_makers_189 (by decide) ?_
                                            refine r_goto (pc := 190) (tgt := 205) dX10_makers_190 (by decide) ?_
                                            refine r_iast_n (pc := 205) (i := (42 * p) + q) (v := nI 0) dX10_makers_205 (c10_a34 hm) (by decide) (by omega) ?_
                                            obtain ⟨I4, hI4⟩ : ∃ zz0 : Im, zz0 = up2 (up2 I3 (m + 21) ((42 * p) + q) (((nI p) - (nI (dC (dK s k) xn))) * (nI (tkF (dK s k) zn (min p q))))) (m + 22) ((42 * p) + q) (nI 0) := ⟨_, rfl⟩
                                            refine wp_M (M2 := (I4, G)) (by subst hI4; rfl) ?_
                                            have hZ4 : FrZ I I4 m := by rw [hI4]; exact (hZ3.u (by omega)).u (by omega)
                                            have hF4 : ∀ x y, y < 42 → 42 * x + y < 42 * p + (q + 1) → I4 (m + 21) (42 * x + y) = gdF (fun x => (nI x - nI (dC (dK s k) xn)) * nI (tkF (dK s k) zn x)) (fun x => if xn < yn then (nI x - nI (dC (dK s k) xn)) * nI (tkF (dK s k) zn x) else 0) x y := fun x y hy hz => by
                                              rw [hI4, up2_rd (by omega)]
                                              by_cases e : x = p ∧ y = q
                                              · obtain ⟨rfl, rfl⟩ := e
                                                rw [up2_at]
                                                simp only [gdF]; (repeat' split) <;> first | (exfalso; omega) | (rw [show min x y = x by omega]; done) | exact nI_0 | (simp; done)
                                              · rw [up2_rd (by omega)]
                                                exact hF3 x y hy (by omega)
                                            have hS4 : ∀ x y, y < 42 → 42 * x + y < 42 * p + (q + 1) → I4 (m + 22) (42 * x + y) = gdF (fun x => (nI x - nI (dC (dK s k) yn)) * nI (tkF (dK s k) zn x)) (fun x => if yn < xn then (nI x - nI (dC (dK s k) yn)) * nI (tkF (dK s k) zn x) else 0) y x := fun x y hy hz => by
                                              rw [hI4]
                                              by_cases e : x = p ∧ y = q
                                              · obtain ⟨rfl, rfl⟩ := e
                                                rw [up2_at]
                                                simp only [gdF]; (repeat' split) <;> first | (exfalso; omega) | (rw [show min x y = y by omega]; done) | exact nI_0 | (simp; done)
                                              · rw [up2_rd (by omega), up2_rd (by omega)]
                                                exact hS3 x y hy (by omega)
                                            refine r_iinc (pc := 206) (v := nI (q + 1)) (L' := [some (.ref m), some (.int (nI k)), some (.int (nI xn)), some (.int (nI yn)), some (.int (nI zn)), some (.int i), some (.int (nI p)), some (.int (nI (q + 1))), some (.int (nI 1)), some (.int (nI (tkF (dK s k) zn (min p q))))]) dX10_makers_206 rfl (nI_inc _) (by decide) rfl rfl ?_
                                            refine r_goto (pc := 209) (tgt := 75) dX10_makers_209 (by decide) ?_
                                            refine wp_sub [some (.ref m), some (.int (nI k)), some (.int (nI xn)), some (.int (nI yn)), some (.int (nI zn)), some (.int i), some (.int (nI p)), some (.int (nI (q + 1))), none, none] ⟨rfl, ⟨rfl, ⟨rfl, ⟨rfl, ⟨rfl, ⟨rfl, ⟨rfl, ⟨rfl, trivial⟩⟩⟩⟩⟩⟩⟩⟩ ?_
                                            exact ih75 _ (by omega) (q + 1) I4 rfl (by omega) hZ4 hF4 hS4 (by rw [hI4]; exact hS93.kp (fun a x z => (up2_rd (by omega)).trans (up2_rd (by omega))))
                                    · skip
                                      refine r_iload (pc := 89) dX10_makers_89 rfl ?_
                                      refine r_iload (pc := 91) dX10_makers_91 rfl ?_
                                      refine r_icmp_ne_n (pc := 93) (a := p) (b := q) (tgt := 105) dX10_makers_93 (by decide) (by omega) (by omega) (fun c93 => ?_) (fun c93 => ?_)
                                      · skip
                                        refine r_iconst (pc := 105) (v := 0) dX10_makers_105 (by decide) ?_
                                        refine r_istore (pc := 106) (L' := [some (.ref m), some (.int (nI k)), some (.int (nI xn)), some (.int (nI yn)), some (.int (nI zn)), some (.int i), some (.int (nI p)), some (.int (nI q)), some (.int (nI 0)), none]) dX10_makers_106 (by decide) rfl rfl ?_
                                        refine r_aload_n (pc := 108) dX10_makers_108 rfl ?_
                                        refine r_iload_n (pc := 109) dX10_makers_109 rfl ?_
                                        refine r_iload (pc := 110) dX10_makers_110 rfl ?_
                                        refine r_aload_n (pc := 112) dX10_makers_112 rfl ?_
                                        refine r_iload (pc := 113) dX10_makers_113 rfl ?_
                                        refine r_iload (pc := 115) dX10_makers_115 rfl ?_
                                        refine r_iload (pc := 117) dX10_makers_117 rfl ?_
                                        refine r_min (pc := 119) (x := nI p) (z := nI q) 291 dX10_makers_119 (mm_RX10_291 rfl) mt_min_s mt_i mt_min_c (Nat.le_of_ble_eq_true rfl) ?_
                                        have hmn := min_n (p := p) (q := q) (by omega) (by omega)
                                        · skip
                                          refine wp_S (st2 := [.int (nI (min p q)), .int (nI zn), .ref m, .int (nI zn), .int (nI k), .ref m]) (by rw [hmn]) ?_
                                          refine r_aload_n (pc := 122) dX10_makers_122 rfl ?_
                                          refine r_iload_n (pc := 123) dX10_makers_123 rfl ?_
                                          refine r_iload (pc := 124) dX10_makers_124 rfl ?_
                                          refine r_callV_P (pc := 126) (b := m) (As := [.int (nI k), .int (nI zn)]) 10 162 dX10_makers_126 lk_X10_costOf (ml_RX10_162 rfl) im_X10_costOf se_X10_costOf (by decide) (c10_o hm) (Nat.le_of_ble_eq_true rfl) rfl (costOf_ct hm (hZ.mt hk0) (by omega) (b := zn) (by omega)) ?_
                                          refine r_iadd_n (pc := 129) (a := min p q) (b := dC (dK s k) zn) dX10_makers_129 ?_
                                          refine r_callV_P (pc := 130) (b := m) (As := [.int (nI zn), .int (nI ((min p q) + (dC (dK s k) zn)))]) 10 213 dX10_makers_130 lk_X10_askBy (ml_RX10_213 rfl) im_X10_askBy se_X10_askBy (by decide) (c10_o hm) (Nat.le_of_ble_eq_true rfl) rfl (askBy_ct (E := e0 (dK s k)) hm hS9.1 (by omega) hS9.2.1 (h := zn) (by omega) (by have := hc30 zn; omega)) ?_
                                          refine r_callV_P (pc := 133) (b := m) (As := [.int (nI k), .int (nI zn), .int (nI (askF (wF (dK s k) zn) 41 (min p q + dC (dK s k) zn)))]) 10 168 dX10_makers_133 lk_X10_wanted (ml_RX10_168 rfl) im_X10_wanted se_X10_wanted (by decide) (c10_o hm) (Nat.le_of_ble_eq_true rfl) rfl (wanted_ct (E := e0 (dK s k)) hm hS9.1 (by omega) (h := zn) (by omega) (askF_le _ _ _)) ?_
                                          refine r_istore (pc := 136) (L' := [some (.ref m), some (.int (nI k)), some (.int (nI xn)), some (.int (nI yn)), some (.int (nI zn)), some (.int i), some (.int (nI p)), some (.int (nI q)), some (.int (nI 0)), some (.int (nI (tkF (dK s k) zn (min p q))))]) dX10_makers_136 (by decide) rfl rfl ?_
                                          refine r_aload_n (pc := 138) dX10_makers_138 rfl ?_
                                          refine r_get1 (pc := 139) 10 33 72 dX10_makers_139 (fl_RX10_72 rfl) (by decide) rfl (c10_o hm) (c10_p33 hm) ?_
                                          refine r_bipush (pc := 142) (v := 42) dX10_makers_142 (by decide) ?_
                                          refine r_iload (pc := 144) dX10_makers_144 rfl ?_
                                          refine r_imul_n (pc := 146) (a := 42) (b := p) dX10_makers_146 ?_
                                          refine r_iload (pc := 147) dX10_makers_147 rfl ?_
                                          refine r_iadd_n (pc := 149) (a := 42 * p) (b := q) dX10_makers_149 ?_
                                          refine r_iload (pc := 150) dX10_makers_150 rfl ?_
                                          refine r_if_eq_n (pc := 152) (a := 0) (tgt := 170) dX10_makers_152 (by decide) (by omega) (fun c152 => ?_) (fun c152 => ?_)
                                          · skip
                                            refine r_iconst (pc := 170) (v := 0) dX10_makers_170 (by decide) ?_
                                            refine r_iast_n (pc := 171) (i := (42 * p) + q) (v := nI 0) dX10_makers_171 (c10_a33 hm) (by decide) (by omega) ?_
                                            refine r_aload_n (pc := 172) dX10_makers_172 rfl ?_
                                            refine r_get1 (pc := 173) 10 34 75 dX10_makers_173 (fl_RX10_75 rfl) (by decide) rfl (c10_o hm) (c10_p34 hm) ?_
                                            refine r_bipush (pc := 176) (v := 42) dX10_makers_176 (by decide) ?_
                                            refine r_iload (pc := 178) dX10_makers_178 rfl ?_
                                            refine r_imul_n (pc := 180) (a := 42) (b := p) dX10_makers_180 ?_
                                            refine r_iload (pc := 181) dX10_makers_181 rfl ?_
                                            refine r_iadd_n (pc := 183) (a := 42 * p) (b := q) dX10_makers_183 ?_
                                            refine r_iload (pc := 184) dX10_makers_184 rfl ?_
                                            refine r_if_eq_n (pc := 186) (a := 0) (tgt := 193) dX10_makers_186 (by decide) (by omega) (fun c186 => ?_) (fun c186 => ?_)
                                            · skip
                                              refine r_iload (pc := 193) dX10_makers_193 rfl ?_
                                              refine r_aload_n (pc := 195) dX10_makers_195 rfl ?_
                                              refine r_iload_n (pc := 196) dX10_makers_196 rfl ?_
                                              refine r_iload_n (pc := 197) dX10_makers_197 rfl ?_
                                              refine r_callV_P (pc := 198) (b := m) (As := [.int (nI k), .int (nI yn)]) 10 162 dX10_makers_198 lk_X10_costOf (ml_RX10_162 rfl) im_X10_costOf se_X10_costOf (by decide) (c10_o hm) (Nat.le_of_ble_eq_true rfl) rfl (costOf_ct hm ((hZ.u (by omega)).mt hk0) (by omega) (b := yn) (by omega)) ?_
                                              refine r_isub (pc := 201) (x := nI q) (z := nI (dC (dK s k) yn)) dX10_makers_201 ?_
                                              refine r_iload (pc := 202) dX10_makers_202 rfl ?_
                                              refine r_imul (pc := 204) (x := (nI q) - (nI (dC (dK s k) yn))) (z := nI (tkF (dK s k) zn (min p q))) dX10_makers_204 ?_
                                              refine r_iast_n (pc := 205) (i := (42 * p) + q) (v := ((nI q) - (nI (dC (dK s k) yn))) * (nI (tkF (dK s k) zn (min p q)))) dX10_makers_205 (c10_a34 hm) (by decide) (by omega) ?_
                                              obtain ⟨I4, hI4⟩ : ∃ zz0 : Im, zz0 = up2 (up2 I3 (m + 21) ((42 * p) + q) (nI 0)) (m + 22) ((42 * p) + q) (((nI q) - (nI (dC (dK s k) yn))) * (nI (tkF (dK s k) zn (min p q)))) := ⟨_, rfl⟩
                                              refine wp_M (M2 := (I4, G)) (by subst hI4; rfl) ?_
                                              have hZ4 : FrZ I I4 m := by rw [hI4]; exact (hZ3.u (by omega)).u (by omega)
                                              have hF4 : ∀ x y, y < 42 → 42 * x + y < 42 * p + (q + 1) → I4 (m + 21) (42 * x + y) = gdF (fun x => (nI x - nI (dC (dK s k) xn)) * nI (tkF (dK s k) zn x)) (fun x => if xn < yn then (nI x - nI (dC (dK s k) xn)) * nI (tkF (dK s k) zn x) else 0) x y := fun x y hy hz => by
                                                rw [hI4, up2_rd (by omega)]
                                                by_cases e : x = p ∧ y = q
                                                · obtain ⟨rfl, rfl⟩ := e
                                                  rw [up2_at]
                                                  simp only [gdF]; (repeat' split) <;> first | (exfalso; omega) | (rw [show min x y = x by omega]; done) | exact nI_0 | (simp; done)
                                                · rw [up2_rd (by omega)]
                                                  exact hF3 x y hy (by omega)
                                              have hS4 : ∀ x y, y < 42 → 42 * x + y < 42 * p + (q + 1) → I4 (m + 22) (42 * x + y) = gdF (fun x => (nI x - nI (dC (dK s k) yn)) * nI (tkF (dK s k) zn x)) (fun x => if yn < xn then (nI x - nI (dC (dK s k) yn)) * nI (tkF (dK s k) zn x) else 0) y x := fun x y hy hz => by
                                                rw [hI4]
                                                by_cases e : x = p ∧ y = q
                                                · obtain ⟨rfl, rfl⟩ := e
                                                  rw [up2_at]
                                                  simp only [gdF]; (repeat' split) <;> first | (exfalso; omega) | (rw [show min x y = y by omega]; done) | exact nI_0 | (simp; done)
                                                · rw [up2_rd (by omega), up2_rd (by omega)]
                                                  exact hS3 x y hy (by omega)
                                              refine r_iinc (pc := 206) (v := nI (q + 1)) (L' := [some (.ref m), some (.int (nI k)), some (.int (nI xn)), some (.int (nI yn)), some (.int (nI zn)), some (.int i), some (.int (nI p)), some (.int (nI (q + 1))), some (.int (nI 0)), some (.int (nI (tkF (dK s k) zn (min p q))))]) dX10_makers_206 rfl (nI_inc _) (by decide) rfl rfl ?_
                                              refine r_goto (pc := 209) (tgt := 75) dX10_makers_209 (by decide) ?_
                                              refine wp_sub [some (.ref m), some (.int (nI k)), some (.int (nI xn)), some (.int (nI yn)), some (.int (nI zn)), some (.int i), some (.int (nI p)), some (.int (nI (q + 1))), none, none] ⟨rfl, ⟨rfl, ⟨rfl, ⟨rfl, ⟨rfl, ⟨rfl, ⟨rfl, ⟨rfl, trivial⟩⟩⟩⟩⟩⟩⟩⟩ ?_
                                              exact ih75 _ (by omega) (q + 1) I4 rfl (by omega) hZ4 hF4 hS4 (by rw [hI4]; exact hS93.kp (fun a x z => (up2_rd (by omega)).trans (up2_rd (by omega))))
                                            · exfalso; omega
                                          · exfalso; omega
                                      · skip
                                        refine r_iload_n (pc := 96) dX10_makers_96 rfl ?_
                                        refine r_iload_n (pc := 97) dX10_makers_97 rfl ?_
                                        refine r_icmp_ge_n (pc := 98) (a := xn) (b := yn) (tgt := 105) dX10_makers_98 (by decide) (by omega) (by omega) (fun c98 => ?_) (fun c98 => ?_)
                                        · skip
                                          refine r_iconst (pc := 105) (v := 0) dX10_makers_105 (by decide) ?_
                                          refine r_istore (pc := 106) (L' := [some (.ref m), some (.int (nI k)), some (.int (nI xn)), some (.int (nI yn)), some (.int (nI zn)), some (.int i), some (.int (nI p)), some (.int (nI q)), some (.int (nI 0)), none]) dX10_makers_106 (by decide) rfl rfl ?_
                                          refine r_aload_n (pc := 108) dX10_makers_108 rfl ?_
                                          refine r_iload_n (pc := 109) dX10_makers_109 rfl ?_
                                          refine r_iload (pc := 110) dX10_makers_110 rfl ?_
                                          refine r_aload_n (pc := 112) dX10_makers_112 rfl ?_
                                          refine r_iload (pc := 113) dX10_makers_113 rfl ?_
                                          refine r_iload (pc := 115) dX10_makers_115 rfl ?_
                                          refine r_iload (pc := 117) dX10_makers_117 rfl ?_
                                          refine r_min (pc := 119) (x := nI p) (z := nI q) 291 dX10_makers_119 (mm_RX10_291 rfl) mt_min_s mt_i mt_min_c (Nat.le_of_ble_eq_true rfl) ?_
                                          have hmn := min_n (p := p) (q := q) (by omega) (by omega)
                                          · skip
                                            refine wp_S (st2 := [.int (nI (min p q)), .int (nI zn), .ref m, .int (nI zn), .int (nI k), .ref m]) (by rw [hmn]) ?_
                                            refine r_aload_n (pc := 122) dX10_makers_122 rfl ?_
                                            refine r_iload_n (pc := 123) dX10_makers_123 rfl ?_
                                            refine r_iload (pc := 124) dX10_makers_124 rfl ?_
                                            refine r_callV_P (pc := 126) (b := m) (As := [.int (nI k), .int (nI zn)]) 10 162 dX10_makers_126 lk_X10_costOf (ml_RX10_162 rfl) im_X10_costOf se_X10_costOf (by decide) (c10_o hm) (Nat.le_of_ble_eq_true rfl) rfl (costOf_ct hm (hZ.mt hk0) (by omega) (b := zn) (by omega)) ?_
                                            refine r_iadd_n (pc := 129) (a := min p q) (b := dC (dK s k) zn) dX10_makers_129 ?_
                                            refine r_callV_P (pc := 130) (b := m) (As := [.int (nI zn), .int (nI ((min p q) + (dC (dK s k) zn)))]) 10 213 dX10_makers_130 lk_X10_askBy (ml_RX10_213 rfl) im_X10_askBy se_X10_askBy (by decide) (c10_o hm) (Nat.le_of_ble_eq_true rfl) rfl (askBy_ct (E := e0 (dK s k)) hm hS9.1 (by omega) hS9.2.1 (h := zn) (by omega) (by have := hc30 zn; omega)) ?_
                                            refine r_callV_P (pc := 133) (b := m) (As := [.int (nI k), .int (nI zn), .int (nI (askF (wF (dK s k) zn) 41 (min p q + dC (dK s k) zn)))]) 10 168 dX10_makers_133 lk_X10_wanted (ml_RX10_168 rfl) im_X10_wanted se_X10_wanted (by decide) (c10_o hm) (Nat.le_of_ble_eq_true rfl) rfl (wanted_ct (E := e0 (dK s k)) hm hS9.1 (by omega) (h := zn) (by omega) (askF_le _ _ _)) ?_
                                            refine r_istore (pc := 136) (L' := [some (.ref m), some (.int (nI k)), some (.int (nI xn)), some (.int (nI yn)), some (.int (nI zn)), some (.int i), some (.int (nI p)), some (.int (nI q)), some (.int (nI 0)), some (.int (nI (tkF (dK s k) zn (min p q))))]) dX10_makers_136 (by decide) rfl rfl ?_
                                            refine r_aload_n (pc := 138) dX10_makers_138 rfl ?_
                                            refine r_get1 (pc := 139) 10 33 72 dX10_makers_139 (fl_RX10_72 rfl) (by decide) rfl (c10_o hm) (c10_p33 hm) ?_
                                            refine r_bipush (pc := 142) (v := 42) dX10_makers_142 (by decide) ?_
                                            refine r_iload (pc := 144) dX10_makers_144 rfl ?_
                                            refine r_imul_n (pc := 146) (a := 42) (b := p) dX10_makers_146 ?_
                                            refine r_iload (pc := 147) dX10_makers_147 rfl ?_
                                            refine r_iadd_n (pc := 149) (a := 42 * p) (b := q) dX10_makers_149 ?_
                                            refine r_iload (pc := 150) dX10_makers_150 rfl ?_
                                            refine r_if_eq_n (pc := 152) (a := 0) (tgt := 170) dX10_makers_152 (by decide) (by omega) (fun c152 => ?_) (fun c152 => ?_)
                                            · skip
                                              refine r_iconst (pc := 170) (v := 0) dX10_makers_170 (by decide) ?_
                                              refine r_iast_n (pc := 171) (i := (42 * p) + q) (v := nI 0) dX10_makers_171 (c10_a33 hm) (by decide) (by omega) ?_
                                              refine r_aload_n (pc := 172) dX10_makers_172 rfl ?_
                                              refine r_get1 (pc := 173) 10 34 75 dX10_makers_173 (fl_RX10_75 rfl) (by decide) rfl (c10_o hm) (c10_p34 hm) ?_
                                              refine r_bipush (pc := 176) (v := 42) dX10_makers_176 (by decide) ?_
                                              refine r_iload (pc := 178) dX10_makers_178 rfl ?_
                                              refine r_imul_n (pc := 180) (a := 42) (b := p) dX10_makers_180 ?_
                                              refine r_iload (pc := 181) dX10_makers_181 rfl ?_
                                              refine r_iadd_n (pc := 183) (a := 42 * p) (b := q) dX10_makers_183 ?_
                                              refine r_iload (pc := 184) dX10_makers_184 rfl ?_
                                              refine r_if_eq_n (pc := 186) (a := 0) (tgt := 193) dX10_makers_186 (by decide) (by omega) (fun c186 => ?_) (fun c186 => ?_)
                                              · skip
                                                refine r_iload (pc := 193) dX10_makers_193 rfl ?_
                                                refine r_aload_n (pc := 195) dX10_makers_195 rfl ?_
                                                refine r_iload_n (pc := 196) dX10_makers_196 rfl ?_
                                                refine r_iload_n (pc := 197) dX10_makers_197 rfl ?_
                                                refine r_callV_P (pc := 198) (b := m) (As := [.int (nI k), .int (nI yn)]) 10 162 dX10_makers_198 lk_X10_costOf (ml_RX10_162 rfl) im_X10_costOf se_X10_costOf (by decide) (c10_o hm) (Nat.le_of_ble_eq_true rfl) rfl (costOf_ct hm ((hZ.u (by omega)).mt hk0) (by omega) (b := yn) (by omega)) ?_
                                                refine r_isub (pc := 201) (x := nI q) (z := nI (dC (dK s k) yn)) dX10_makers_201 ?_
                                                refine r_iload (pc := 202) dX10_makers_202 rfl ?_
                                                refine r_imul (pc := 204) (x := (nI q) - (nI (dC (dK s k) yn))) (z := nI (tkF (dK s k) zn (min p q))) dX10_makers_204 ?_
                                                refine r_iast_n (pc := 205) (i := (42 * p) + q) (v := ((nI q) - (nI (dC (dK s k) yn))) * (nI (tkF (dK s k) zn (min p q)))) dX10_makers_205 (c10_a34 hm) (by decide) (by omega) ?_
                                                obtain ⟨I4, hI4⟩ : ∃ zz0 : Im, zz0 = up2 (up2 I3 (m + 21) ((42 * p) + q) (nI 0)) (m + 22) ((42 * p) + q) (((nI q) - (nI (dC (dK s k) yn))) * (nI (tkF (dK s k) zn (min p q)))) := ⟨_, rfl⟩
                                                refine wp_M (M2 := (I4, G)) (by subst hI4; rfl) ?_
                                                have hZ4 : FrZ I I4 m := by rw [hI4]; exact (hZ3.u (by omega)).u (by omega)
                                                have hF4 : ∀ x y, y < 42 → 42 * x + y < 42 * p + (q + 1) → I4 (m + 21) (42 * x + y) = gdF (fun x => (nI x - nI (dC (dK s k) xn)) * nI (tkF (dK s k) zn x)) (fun x => if xn < yn then (nI x - nI (dC (dK s k) xn)) * nI (tkF (dK s k) zn x) else 0) x y := fun x y hy hz => by
                                                  rw [hI4, up2_rd (by omega)]
                                                  by_cases e : x = p ∧ y = q
                                                  · obtain ⟨rfl, rfl⟩ := e
                                                    rw [up2_at]
                                                    simp only [gdF]; (repeat' split) <;> first | (exfalso; omega) | (rw [show min x y = x by omega]; done) | exact nI_0 | (simp; done)
                                                  · rw [up2_rd (by omega)]
                                                    exact hF3 x y hy (by omega)
                                                have hS4 : ∀ x y, y < 42 → 42 * x + y < 42 * p + (q + 1) → I4 (m + 22) (42 * x + y) = gdF (fun x => (nI x - nI (dC (dK s k) yn)) * nI (tkF (dK s k) zn x)) (fun x => if yn < xn then (nI x - nI (dC (dK s k) yn)) * nI (tkF (dK s k) zn x) else 0) y x := fun x y hy hz => by
                                                  rw [hI4]
                                                  by_cases e : x = p ∧ y = q
                                                  · obtain ⟨rfl, rfl⟩ := e
                                                    rw [up2_at]
                                                    simp only [gdF]; (repeat' split) <;> first | (exfalso; omega) | (rw [show min x y = y by omega]; done) | exact nI_0 | (simp; done)
                                                  · rw [up2_rd (by omega), up2_rd (by omega)]
                                                    exact hS3 x y hy (by omega)
                                                refine r_iinc (pc := 206) (v := nI (q + 1)) (L' := [some (.ref m), some (.int (nI k)), some (.int (nI xn)), some (.int (nI yn)), some (.int (nI zn)), some (.int i), some (.int (nI p)), some (.int (nI (q + 1))), some (.int (nI 0)), some (.int (nI (tkF (dK s k) zn (min p q))))]) dX10_makers_206 rfl (nI_inc _) (by decide) rfl rfl ?_
                                                refine r_goto (pc := 209) (tgt := 75) dX10_makers_209 (by decide) ?_
                                                refine wp_sub [some (.ref m), some (.int (nI k)), some (.int (nI xn)), some (.int (nI yn)), some (.int (nI zn)), some (.int i), some (.int (nI p)), some (.int (nI (q + 1))), none, none] ⟨rfl, ⟨rfl, ⟨rfl, ⟨rfl, ⟨rfl, ⟨rfl, ⟨rfl, ⟨rfl, trivial⟩⟩⟩⟩⟩⟩⟩⟩ ?_
                                                exact ih75 _ (by omega) (q + 1) I4 rfl (by omega) hZ4 hF4 hS4 (by rw [hI4]; exact hS93.kp (fun a x z => (up2_rd (by omega)).trans (up2_rd (by omega))))
                                              · exfalso; omega
                                            · exfalso; omega
                                        · skip
                                          refine r_iconst (pc := 101) (v := 1) dX10_makers_101 (by decide) ?_
                                          refine r_goto (pc := 102) (tgt := 106) dX10_makers_102 (by decide) ?_
                                          refine r_istore (pc := 106) (L' := [some (.ref m), some (.int (nI k)), some (.int (nI xn)), some (.int (nI yn)), some (.int (nI zn)), some (.int i), some (.int (nI p)), some (.int (nI q)), some (.int (nI 1)), none]) dX10_makers_106 (by decide) rfl rfl ?_
                                          refine r_aload_n (pc := 108) dX10_makers_108 rfl ?_
                                          refine r_iload_n (pc := 109) dX10_makers_109 rfl ?_
                                          refine r_iload (pc := 110) dX10_makers_110 rfl ?_
                                          refine r_aload_n (pc := 112) dX10_makers_112 rfl ?_
                                          refine r_iload (pc := 113) dX10_makers_113 rfl ?_
                                          refine r_iload (pc := 115) dX10_makers_115 rfl ?_
                                          refine r_iload (pc := 117) dX10_makers_117 rfl ?_
                                          refine r_min (pc := 119) (x := nI p) (z := nI q) 291 dX10_makers_119 (mm_RX10_291 rfl) mt_min_s mt_i mt_min_c (Nat.le_of_ble_eq_true rfl) ?_
                                          have hmn := min_n (p := p) (q := q) (by omega) (by omega)
                                          · skip
                                            refine wp_S (st2 := [.int (nI (min p q)), .int (nI zn), .ref m, .int (nI zn), .int (nI k), .ref m]) (by rw [hmn]) ?_
                                            refine r_aload_n (pc := 122) dX10_makers_122 rfl ?_
                                            refine r_iload_n (pc := 123) dX10_makers_123 rfl ?_
                                            refine r_iload (pc := 124) dX10_makers_124 rfl ?_
                                            refine r_callV_P (pc := 126) (b := m) (As := [.int (nI k), .int (nI zn)]) 10 162 dX10_makers_126 lk_X10_costOf (ml_RX10_162 rfl) im_X10_costOf se_X10_costOf (by decide) (c10_o hm) (Nat.le_of_ble_eq_true rfl) rfl (costOf_ct hm (hZ.mt hk0) (by omega) (b := zn) (by omega)) ?_
                                            refine r_iadd_n (pc := 129) (a := min p q) (b := dC (dK s k) zn) dX10_makers_129 ?_
                                            refine r_callV_P (pc := 130) (b := m) (As := [.int (nI zn), .int (nI ((min p q) + (dC (dK s k) zn)))]) 10 213 dX10_makers_130 lk_X10_askBy (ml_RX10_213 rfl) im_X10_askBy se_X10_askBy (by decide) (c10_o hm) (Nat.le_of_ble_eq_true rfl) rfl (askBy_ct (E := e0 (dK s k)) hm hS9.1 (by omega) hS9.2.1 (h := zn) (by omega) (by have := hc30 zn; omega)) ?_
                                            refine r_callV_P (pc := 133) (b := m) (As := [.int (nI k), .int (nI zn), .int (nI (askF (wF (dK s k) zn) 41 (min p q + dC (dK s k) zn)))]) 10 168 dX10_makers_133 lk_X10_wanted (ml_RX10_168 rfl) im_X10_wanted se_X10_wanted (by decide) (c10_o hm) (Nat.le_of_ble_eq_true rfl) rfl (wanted_ct (E := e0 (dK s k)) hm hS9.1 (by omega) (h := zn) (by omega) (askF_le _ _ _)) ?_
                                            refine r_istore (pc := 136) (L' := [some (.ref m), some (.int (nI k)), some (.int (nI xn)), some (.int (nI yn)), some (.int (nI zn)), some (.int i), some (.int (nI p)), some (.int (nI q)), some (.int (nI 1)), some (.int (nI (tkF (dK s k) zn (min p q))))]) dX10_makers_136 (by decide) rfl rfl ?_
                                            refine r_aload_n (pc := 138) dX10_makers_138 rfl ?_
                                            refine r_get1 (pc := 139) 10 33 72 dX10_makers_139 (fl_RX10_72 rfl) (by decide) rfl (c10_o hm) (c10_p33 hm) ?_
                                            refine r_bipush (pc := 142) (v := 42) dX10_makers_142 (by decide) ?_
                                            refine r_iload (pc := 144) dX10_makers_144 rfl ?_
                                            refine r_imul_n (pc := 146) (a := 42) (b := p) dX10_makers_146 ?_
                                            refine r_iload (pc := 147) dX10_makers_147 rfl ?_
                                            refine r_iadd_n (pc := 149) (a := 42 * p) (b := q) dX10_makers_149 ?_
                                            refine r_iload (pc := 150) dX10_makers_150 rfl ?_
                                            refine r_if_eq_n (pc := 152) (a := 1) (tgt := 170) dX10_makers_152 (by decide) (by omega) (fun c152 => ?_) (fun c152 => ?_)
                                            · exfalso; omega
                                            · skip
                                              refine r_iload (pc := 155) dX10_makers_155 rfl ?_
                                              refine r_aload_n (pc := 157) dX10_makers_157 rfl ?_
                                              refine r_iload_n (pc := 158) dX10_makers_158 rfl ?_
                                              refine r_iload_n (pc := 159) dX10_makers_159 rfl ?_
                                              refine r_callV_P (pc := 160) (b := m) (As := [.int (nI k), .int (nI xn)]) 10 162 dX10_makers_160 lk_X10_costOf (ml_RX10_162 rfl) im_X10_costOf se_X10_costOf (by decide) (c10_o hm) (Nat.le_of_ble_eq_true rfl) rfl (costOf_ct hm (hZ.mt hk0) (by omega) (b := xn) (by omega)) ?_
                                              refine r_isub (pc := 163) (x := nI p) (z := nI (dC (dK s k) xn)) dX10_makers_163 ?_
                                              refine r_iload (pc := 164) dX10_makers_164 rfl ?_
                                              refine r_imul (pc := 166) (x := (nI p) - (nI (dC (dK s k) xn))) (z := nI (tkF (dK s k) zn (min p q))) dX10_makers_166 ?_
                                              refine r_goto (pc := 167) (tgt := 171) dX10_makers_167 (by decide) ?_
                                              refine r_iast_n (pc := 171) (i := (42 * p) + q) (v := ((nI p) - (nI (dC (dK s k) xn))) * (nI (tkF (dK s k) zn (min p q)))) dX10_makers_171 (c10_a33 hm) (by decide) (by omega) ?_
                                              refine r_aload_n (pc := 172) dX10_makers_172 rfl ?_
                                              refine r_get1 (pc := 173) 10 34 75 dX10_makers_173 (fl_RX10_75 rfl) (by decide) rfl (c10_o hm) (c10_p34 hm) ?_
                                              refine r_bipush (pc := 176) (v := 42) dX10_makers_176 (by decide) ?_
                                              refine r_iload (pc := 178) dX10_makers_178 rfl ?_
                                              refine r_imul_n (pc := 180) (a := 42) (b := p) dX10_makers_180 ?_
                                              refine r_iload (pc := 181) dX10_makers_181 rfl ?_
                                              refine r_iadd_n (pc := 183) (a := 42 * p) (b := q) dX10_makers_183 ?_
                                              refine r_iload (pc := 184) dX10_makers_184 rfl ?_
                                              refine r_if_eq_n (pc := 186) (a := 1) (tgt := 193) dX10_makers_186 (by decide) (by omega) (fun c186 => ?_) (fun c186 => ?_)
                                              · exfalso; omega
                                              · skip
                                                refine r_iconst (pc := 189) (v := 0) dX10_makers_189 (by decide) ?_
                                                refine r_goto (pc := 190) (tgt := 205) dX10_makers_190 (by decide) ?_
                                                refine r_iast_n (pc := 205) (i := (42 * p) + q) (v := nI 0) dX10_makers_205 (c10_a34 hm) (by decide) (by omega) ?_
                                                obtain ⟨I4, hI4⟩ : ∃ zz0 : Im, zz0 = up2 (up2 I3 (m + 21) ((42 * p) + q) (((nI p) - (nI (dC (dK s k) xn))) * (nI (tkF (dK s k) zn (min p q))))) (m + 22) ((42 * p) + q) (nI 0) := ⟨_, rfl⟩
                                                refine wp_M (M2 := (I4, G)) (by subst hI4; rfl) ?_
                                                have hZ4 : FrZ I I4 m := by rw [hI4]; exact (hZ3.u (by omega)).u (by omega)
                                                have hF4 : ∀ x y, y < 42 → 42 * x + y < 42 * p + (q + 1) → I4 (m + 21) (42 * x + y) = gdF (fun x => (nI x - nI (dC (dK s k) xn)) * nI (tkF (dK s k) zn x)) (fun x => if xn < yn then (nI x - nI (dC (dK s k) xn)) * nI (tkF (dK s k) zn x) else 0) x y := fun x y hy hz => by
                                                  rw [hI4, up2_rd (by omega)]
                                                  by_cases e : x = p ∧ y = q
                                                  · obtain ⟨rfl, rfl⟩ := e
                                                    rw [up2_at]
                                                    simp only [gdF]; (repeat' split) <;> first | (exfalso; omega) | (rw [show min x y = x by omega]; done) | exact nI_0 | (simp; done)
                                                  · rw [up2_rd (by omega)]
                                                    exact hF3 x y hy (by omega)
                                                have hS4 : ∀ x y, y < 42 → 42 * x + y < 42 * p + (q + 1) → I4 (m + 22) (42 * x + y) = gdF (fun x => (nI x - nI (dC (dK s k) yn)) * nI (tkF (dK s k) zn x)) (fun x => if yn < xn then (nI x - nI (dC (dK s k) yn)) * nI (tkF (dK s k) zn x) else 0) y x := fun x y hy hz => by
                                                  rw [hI4]
                                                  by_cases e : x = p ∧ y = q
                                                  · obtain ⟨rfl, rfl⟩ := e
                                                    rw [up2_at]
                                                    simp only [gdF]; (repeat' split) <;> first | (exfalso; omega) | (rw [show min x y = y by omega]; done) | exact nI_0 | (simp; done)
                                                  · rw [up2_rd (by omega), up2_rd (by omega)]
                                                    exact hS3 x y hy (by omega)
                                                refine r_iinc (pc := 206) (v := nI (q + 1)) (L' := [some (.ref m), some (.int (nI k)), some (.int (nI xn)), some (.int (nI yn)), some (.int (nI zn)), some (.int i), some (.int (nI p)), some (.int (nI (q + 1))), some (.int (nI 1)), some (.int (nI (tkF (dK s k) zn (min p q))))]) dX10_makers_206 rfl (nI_inc _) (by decide) rfl rfl ?_
                                                refine r_goto (pc := 209) (tgt := 75) dX10_makers_209 (by decide) ?_
                                                refine wp_sub [some (.ref m), some (.int (nI k)), some (.int (nI xn)), some (.int (nI yn)), some (.int (nI zn)), some (.int i), some (.int (nI p)), some (.int (nI (q + 1))), none, none] ⟨rfl, ⟨rfl, ⟨rfl, ⟨rfl, ⟨rfl, ⟨rfl, ⟨rfl, ⟨rfl, trivial⟩⟩⟩⟩⟩⟩⟩⟩ ?_
                                                exact ih75 _ (by omega) (q + 1) I4 rfl (by omega) hZ4 hF4 hS4 (by rw [hI4]; exact hS93.kp (fun a x z => (up2_rd (by omega)).trans (up2_rd (by omega))))
                              exact lp75 _ 0 I2 rfl (by omega) hZ2 hF2 hS2 hS92
                        exact lp65 _ 0 I1 rfl (by omega) hZ (by exact fun x y _ z => absurd z (by omega)) (by exact fun x y _ z => absurd z (by omega)) hS1
                      · skip
                        refine r_iconst (pc := 50) (v := -1) dX10_makers_50 (by decide) ?_
                        refine r_ret_i (pc := 51) dX10_makers_51 rfl ?_
                        exact ⟨_, Ia, rfl, rfl, (by unfold aMakers; rw [atN_s et, atN_s ex, atN_s ey, atN_s ez, if_pos hsz, if_neg (by omega)]), hM.z hZ, fun x j z => hZ x j (by omega) (by omega)⟩
          · skip
            refine r_aload_n (pc := 0) dX10_makers_0 rfl ?_
            refine r_iconst (pc := 1) (v := 0) dX10_makers_1 (by decide) ?_
            refine r_putI (pc := 2) (v := nI 0) 10 0 84 dX10_makers_2 (fl_RX10_84 rfl) (by decide) rfl rfl (c10_o hm) ?_
            obtain ⟨Ia, hIa⟩ : ∃ zz0 : Im, zz0 = up2 I m 0 (nI 0) := ⟨_, rfl⟩
            refine wp_M (M2 := (Ia, G)) (by subst hIa; rfl) ?_
            have hZ : FrZ I Ia m := by rw [hIa]; exact FrZ.rf.u (by omega)
            refine r_aload_n (pc := 5) dX10_makers_5 rfl ?_
            refine r_iload_n (pc := 6) dX10_makers_6 rfl ?_
            refine r_iload_n (pc := 7) dX10_makers_7 rfl ?_
            refine r_callV_P (pc := 8) (b := m) (As := [.int (nI k), .int (nI xn)]) 10 154 dX10_makers_8 lk_X10_isHouse (ml_RX10_154 rfl) im_X10_isHouse se_X10_isHouse (by decide) (c10_o hm) (Nat.le_of_ble_eq_true rfl) rfl (isHouse_ct hm (hZ.mt hk0) (by omega) (hZ.c hcn) hcn10 hk hxn) ?_
            refine r_if_eq_n (pc := 11) (a := 1) (tgt := 50) dX10_makers_11 (by decide) (by omega) (fun c11 => ?_) (fun c11 => ?_)
            · exfalso; omega
            · skip
              refine r_aload_n (pc := 14) dX10_makers_14 rfl ?_
              refine r_iload_n (pc := 15) dX10_makers_15 rfl ?_
              refine r_iload_n (pc := 16) dX10_makers_16 rfl ?_
              refine r_callV_P (pc := 17) (b := m) (As := [.int (nI k), .int (nI yn)]) 10 154 dX10_makers_17 lk_X10_isHouse (ml_RX10_154 rfl) im_X10_isHouse se_X10_isHouse (by decide) (c10_o hm) (Nat.le_of_ble_eq_true rfl) rfl (isHouse_ct hm (hZ.mt hk0) (by omega) (hZ.c hcn) hcn10 hk hyn) ?_
              refine r_if_eq_n (pc := 20) (a := 1) (tgt := 50) dX10_makers_20 (by decide) (by omega) (fun c20 => ?_) (fun c20 => ?_)
              · exfalso; omega
              · skip
                refine r_iload_n (pc := 23) dX10_makers_23 rfl ?_
                refine r_iload_n (pc := 24) dX10_makers_24 rfl ?_
                refine r_icmp_eq_n (pc := 25) (a := xn) (b := yn) (tgt := 50) dX10_makers_25 (by decide) (by omega) (by omega) (fun c25 => ?_) (fun c25 => ?_)
                · skip
                  refine r_iconst (pc := 50) (v := -1) dX10_makers_50 (by decide) ?_
                  refine r_ret_i (pc := 51) dX10_makers_51 rfl ?_
                  exact ⟨_, Ia, rfl, rfl, (by unfold aMakers; rw [atN_s et, atN_s ex, atN_s ey, atN_s ez, if_neg hsz] <;> rfl), hM.z hZ, fun x j z => hZ x j (by omega) (by omega)⟩
                · skip
                  refine r_aload_n (pc := 28) dX10_makers_28 rfl ?_
                  refine r_iload_n (pc := 29) dX10_makers_29 rfl ?_
                  refine r_iload (pc := 30) dX10_makers_30 rfl ?_
                  refine r_callV_P (pc := 32) (b := m) (As := [.int (nI k), .int (nI zn)]) 10 165 dX10_makers_32 lk_X10_isShop (ml_RX10_165 rfl) im_X10_isShop se_X10_isShop (by decide) (c10_o hm) (Nat.le_of_ble_eq_true rfl) rfl (isShopM_n hm (hZ.mt hk0) (hZ.c hcn) hcn10 hk hzn hsz) ?_
                  refine r_if_eq_n (pc := 35) (a := 0) (tgt := 50) dX10_makers_35 (by decide) (by omega) (fun c35 => ?_) (fun c35 => ?_)
                  · skip
                    refine r_iconst (pc := 50) (v := -1) dX10_makers_50 (by decide) ?_
                    refine r_ret_i (pc := 51) dX10_makers_51 rfl ?_
                    exact ⟨_, Ia, rfl, rfl, (by unfold aMakers; rw [atN_s et, atN_s ex, atN_s ey, atN_s ez, if_neg hsz] <;> rfl), hM.z hZ, fun x j z => hZ x j (by omega) (by omega)⟩
                  · exfalso; omega
        · skip
          refine r_aload_n (pc := 0) dX10_makers_0 rfl ?_
          refine r_iconst (pc := 1) (v := 0) dX10_makers_1 (by decide) ?_
          refine r_putI (pc := 2) (v := nI 0) 10 0 84 dX10_makers_2 (fl_RX10_84 rfl) (by decide) rfl rfl (c10_o hm) ?_
          obtain ⟨Ia, hIa⟩ : ∃ zz0 : Im, zz0 = up2 I m 0 (nI 0) := ⟨_, rfl⟩
          refine wp_M (M2 := (Ia, G)) (by subst hIa; rfl) ?_
          have hZ : FrZ I Ia m := by rw [hIa]; exact FrZ.rf.u (by omega)
          refine r_aload_n (pc := 5) dX10_makers_5 rfl ?_
          refine r_iload_n (pc := 6) dX10_makers_6 rfl ?_
          refine r_iload_n (pc := 7) dX10_makers_7 rfl ?_
          refine r_callV_P (pc := 8) (b := m) (As := [.int (nI k), .int (nI xn)]) 10 154 dX10_makers_8 lk_X10_isHouse (ml_RX10_154 rfl) im_X10_isHouse se_X10_isHouse (by decide) (c10_o hm) (Nat.le_of_ble_eq_true rfl) rfl (isHouse_ct hm (hZ.mt hk0) (by omega) (hZ.c hcn) hcn10 hk hxn) ?_
          refine r_if_eq_n (pc := 11) (a := 1) (tgt := 50) dX10_makers_11 (by decide) (by omega) (fun c11 => ?_) (fun c11 => ?_)
          · exfalso; omega
          · skip
            refine r_aload_n (pc := 14) dX10_makers_14 rfl ?_
            refine r_iload_n (pc := 15) dX10_makers_15 rfl ?_
            refine r_iload_n (pc := 16) dX10_makers_16 rfl ?_
            refine r_callV_P (pc := 17) (b := m) (As := [.int (nI k), .int (nI yn)]) 10 154 dX10_makers_17 lk_X10_isHouse (ml_RX10_154 rfl) im_X10_isHouse se_X10_isHouse (by decide) (c10_o hm) (Nat.le_of_ble_eq_true rfl) rfl (isHouse_ct hm (hZ.mt hk0) (by omega) (hZ.c hcn) hcn10 hk hyn) ?_
            refine r_if_eq_n (pc := 20) (a := 1) (tgt := 50) dX10_makers_20 (by decide) (by omega) (fun c20 => ?_) (fun c20 => ?_)
            · exfalso; omega
            · skip
              refine r_iload_n (pc := 23) dX10_makers_23 rfl ?_
              refine r_iload_n (pc := 24) dX10_makers_24 rfl ?_
              refine r_icmp_eq_n (pc := 25) (a := xn) (b := yn) (tgt := 50) dX10_makers_25 (by decide) (by omega) (by omega) (fun c25 => ?_) (fun c25 => ?_)
              · skip
                refine r_iconst (pc := 50) (v := -1) dX10_makers_50 (by decide) ?_
                refine r_ret_i (pc := 51) dX10_makers_51 rfl ?_
                exact ⟨_, Ia, rfl, rfl, (by unfold aMakers; rw [atN_s et, atN_s ex, atN_s ey, atN_n ez] <;> rfl), hM.z hZ, fun x j z => hZ x j (by omega) (by omega)⟩
              · skip
                refine r_aload_n (pc := 28) dX10_makers_28 rfl ?_
                refine r_iload_n (pc := 29) dX10_makers_29 rfl ?_
                refine r_iload (pc := 30) dX10_makers_30 rfl ?_
                refine r_callV_P (pc := 32) (b := m) (As := [.int (nI k), .int z]) 10 165 dX10_makers_32 lk_X10_isShop (ml_RX10_165 rfl) im_X10_isShop se_X10_isShop (by decide) (c10_o hm) (Nat.le_of_ble_eq_true rfl) rfl (isShopM_no hm (hZ.mt hk0) (hZ.c hcn) hcn10 hk hnoz) ?_
                refine r_if_eq_n (pc := 35) (a := 0) (tgt := 50) dX10_makers_35 (by decide) (by omega) (fun c35 => ?_) (fun c35 => ?_)
                · skip
                  refine r_iconst (pc := 50) (v := -1) dX10_makers_50 (by decide) ?_
                  refine r_ret_i (pc := 51) dX10_makers_51 rfl ?_
                  exact ⟨_, Ia, rfl, rfl, (by unfold aMakers; rw [atN_s et, atN_s ex, atN_s ey, atN_n ez] <;> rfl), hM.z hZ, fun x j z => hZ x j (by omega) (by omega)⟩
                · exfalso; omega
      · skip
        refine r_aload_n (pc := 0) dX10_makers_0 rfl ?_
        refine r_iconst (pc := 1) (v := 0) dX10_makers_1 (by decide) ?_
        refine r_putI (pc := 2) (v := nI 0) 10 0 84 dX10_makers_2 (fl_RX10_84 rfl) (by decide) rfl rfl (c10_o hm) ?_
        obtain ⟨Ia, hIa⟩ : ∃ zz0 : Im, zz0 = up2 I m 0 (nI 0) := ⟨_, rfl⟩
        refine wp_M (M2 := (Ia, G)) (by subst hIa; rfl) ?_
        have hZ : FrZ I Ia m := by rw [hIa]; exact FrZ.rf.u (by omega)
        refine r_aload_n (pc := 5) dX10_makers_5 rfl ?_
        refine r_iload_n (pc := 6) dX10_makers_6 rfl ?_
        refine r_iload_n (pc := 7) dX10_makers_7 rfl ?_
        refine r_callV_P (pc := 8) (b := m) (As := [.int (nI k), .int (nI xn)]) 10 154 dX10_makers_8 lk_X10_isHouse (ml_RX10_154 rfl) im_X10_isHouse se_X10_isHouse (by decide) (c10_o hm) (Nat.le_of_ble_eq_true rfl) rfl (isHouse_ct hm (hZ.mt hk0) (by omega) (hZ.c hcn) hcn10 hk hxn) ?_
        refine r_if_eq_n (pc := 11) (a := 1) (tgt := 50) dX10_makers_11 (by decide) (by omega) (fun c11 => ?_) (fun c11 => ?_)
        · exfalso; omega
        · skip
          refine r_aload_n (pc := 14) dX10_makers_14 rfl ?_
          refine r_iload_n (pc := 15) dX10_makers_15 rfl ?_
          refine r_iload_n (pc := 16) dX10_makers_16 rfl ?_
          refine r_callV_P (pc := 17) (b := m) (As := [.int (nI k), .int y]) 10 154 dX10_makers_17 lk_X10_isHouse (ml_RX10_154 rfl) im_X10_isHouse se_X10_isHouse (by decide) (c10_o hm) (Nat.le_of_ble_eq_true rfl) rfl (isHouse_no hm (hZ.mt hk0) (hZ.c hcn) hcn10 hk hnoy) ?_
          refine r_if_eq_n (pc := 20) (a := 0) (tgt := 50) dX10_makers_20 (by decide) (by omega) (fun c20 => ?_) (fun c20 => ?_)
          · skip
            refine r_iconst (pc := 50) (v := -1) dX10_makers_50 (by decide) ?_
            refine r_ret_i (pc := 51) dX10_makers_51 rfl ?_
            exact ⟨_, Ia, rfl, rfl, (by unfold aMakers; rw [atN_s et, atN_s ex, atN_n ey] <;> rfl), hM.z hZ, fun x j z => hZ x j (by omega) (by omega)⟩
          · exfalso; omega
    · skip
      refine r_aload_n (pc := 0) dX10_makers_0 rfl ?_
      refine r_iconst (pc := 1) (v := 0) dX10_makers_1 (by decide) ?_
      refine r_putI (pc := 2) (v := nI 0) 10 0 84 dX10_makers_2 (fl_RX10_84 rfl) (by decide) rfl rfl (c10_o hm) ?_
      obtain ⟨Ia, hIa⟩ : ∃ zz0 : Im, zz0 = up2 I m 0 (nI 0) := ⟨_, rfl⟩
      refine wp_M (M2 := (Ia, G)) (by subst hIa; rfl) ?_
      have hZ : FrZ I Ia m := by rw [hIa]; exact FrZ.rf.u (by omega)
      refine r_aload_n (pc := 5) dX10_makers_5 rfl ?_
      refine r_iload_n (pc := 6) dX10_makers_6 rfl ?_
      refine r_iload_n (pc := 7) dX10_makers_7 rfl ?_
      refine r_callV_P (pc := 8) (b := m) (As := [.int (nI k), .int x]) 10 154 dX10_makers_8 lk_X10_isHouse (ml_RX10_154 rfl) im_X10_isHouse se_X10_isHouse (by decide) (c10_o hm) (Nat.le_of_ble_eq_true rfl) rfl (isHouse_no hm (hZ.mt hk0) (hZ.c hcn) hcn10 hk hnox) ?_
      refine r_if_eq_n (pc := 11) (a := 0) (tgt := 50) dX10_makers_11 (by decide) (by omega) (fun c11 => ?_) (fun c11 => ?_)
      · skip
        refine r_iconst (pc := 50) (v := -1) dX10_makers_50 (by decide) ?_
        refine r_ret_i (pc := 51) dX10_makers_51 rfl ?_
        exact ⟨_, Ia, rfl, rfl, (by unfold aMakers; rw [atN_s et, atN_n ex] <;> rfl), hM.z hZ, fun x j z => hZ x j (by omega) (by omega)⟩
      · exfalso; omega
  · skip
    refine r_aload_n (pc := 0) dX10_makers_0 rfl ?_
    refine r_iconst (pc := 1) (v := 0) dX10_makers_1 (by decide) ?_
    refine r_putI (pc := 2) (v := nI 0) 10 0 84 dX10_makers_2 (fl_RX10_84 rfl) (by decide) rfl rfl (c10_o hm) ?_
    obtain ⟨Ia, hIa⟩ : ∃ zz0 : Im, zz0 = up2 I m 0 (nI 0) := ⟨_, rfl⟩
    refine wp_M (M2 := (Ia, G)) (by subst hIa; rfl) ?_
    have hZ : FrZ I Ia m := by rw [hIa]; exact FrZ.rf.u (by omega)
    refine r_aload_n (pc := 5) dX10_makers_5 rfl ?_
    refine r_iload_n (pc := 6) dX10_makers_6 rfl ?_
    refine r_iload_n (pc := 7) dX10_makers_7 rfl ?_
    refine r_callV_P (pc := 8) (b := m) (As := [.int t, .int x]) 10 154 dX10_makers_8 lk_X10_isHouse (ml_RX10_154 rfl) im_X10_isHouse se_X10_isHouse (by decide) (c10_o hm) (Nat.le_of_ble_eq_true rfl) rfl (isHouse_nt hm (by rw [(hZ.c hcn)]; exact hnot)) ?_
    refine r_if_eq_n (pc := 11) (a := 0) (tgt := 50) dX10_makers_11 (by decide) (by omega) (fun c11 => ?_) (fun c11 => ?_)
    · skip
      refine r_iconst (pc := 50) (v := -1) dX10_makers_50 (by decide) ?_
      refine r_ret_i (pc := 51) dX10_makers_51 rfl ?_
      exact ⟨_, Ia, rfl, rfl, (by unfold aMakers; rw [atN_n et] <;> rfl), hM.z hZ, fun x j z => hZ x j (by omega) (by omega)⟩
    · exfalso; omega
