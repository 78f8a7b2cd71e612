/-! ===== the reference made ===== -/
theorem wp_nw {d kc ks : Nat} {y : Yt} {pc : Nat} {L : List (Option Value)} {st : List Value} {Q : Option Value → Mm → Prop} {a c n : Nat} {M0 Mb M : Mm} {P : Nat → Nat → Option Nat} {S : Nat → Nat × Nat} {I : Nat → Nat → Int32} (h1 : Nw a M0 M c P S I) (h2 : Sh Mb M n) (k : ∀ M', Nw a M0 M' c P S I → Sh Mb M' n → wp d kc ks y pc L st M' Q) : wp d kc ks y pc L st M Q := k M h1 h2

def nP10 (c : Nat) (P : Nat → Nat → Option Nat) : Nat → Nat → Option Nat := (up2 (va_up (up2 (va_up (up2 (va_up (up2 (va_up (up2 (va_up (up2 (va_up (up2 (va_up (up2 (va_up (up2 (va_up (up2 (va_up (up2 (va_up (up2 (va_up (up2 (va_up (up2 (va_up (up2 (va_up (up2 (va_up (up2 (va_up (up2 (va_up (up2 (va_up (up2 (va_up (up2 (va_up (up2 (va_up (up2 (va_up (up2 (va_up P (c + 1) (fun _ => none)) c 1 (some (c + 1))) (c + 2) (fun _ => none)) c 6 (some (c + 2))) (c + 3) (fun _ => none)) c 7 (some (c + 3))) (c + 4) (fun _ => none)) c 8 (some (c + 4))) (c + 5) (fun _ => none)) c 9 (some (c + 5))) (c + 6) (fun _ => none)) c 10 (some (c + 6))) (c + 7) (fun _ => none)) c 11 (some (c + 7))) (c + 8) (fun _ => none)) c 12 (some (c + 8))) (c + 9) (fun _ => none)) c 13 (some (c + 9))) (c + 10) (fun _ => none)) c 14 (some (c + 10))) (c + 11) (fun _ => none)) c 15 (some (c + 11))) (c + 12) (fun _ => none)) c 16 (some (c + 12))) (c + 13) (fun _ => none)) c 17 (some (c + 13))) (c + 14) (fun _ => none)) c 18 (some (c + 14))) (c + 15) (fun _ => none)) c 19 (some (c + 15))) (c + 16) (fun _ => none)) c 26 (some (c + 16))) (c + 17) (fun _ => none)) c 27 (some (c + 17))) (c + 18) (fun _ => none)) c 28 (some (c + 18))) (c + 19) (fun _ => none)) c 29 (some (c + 19))) (c + 20) (fun _ => none)) c 30 (some (c + 20))) (c + 21) (fun _ => none)) c 33 (some (c + 21))) (c + 22) (fun _ => none)) c 34 (some (c + 22))) (c + 23) (fun _ => none)) c 35 (some (c + 23))) (c + 24) (fun _ => none)) c 36 (some (c + 24)))
def nS10 (c : Nat) (S : Nat → Nat × Nat) : Nat → Nat × Nat := (va_up (va_up (va_up (va_up (va_up (va_up (va_up (va_up (va_up (va_up (va_up (va_up (va_up (va_up (va_up (va_up (va_up (va_up (va_up (va_up (va_up (va_up (va_up (va_up S (c + 1) (2, 300)) (c + 2) (1, 11)) (c + 3) (1, 88)) (c + 4) (1, 88)) (c + 5) (1, 88)) (c + 6) (1, 11)) (c + 7) (1, 220)) (c + 8) (1, 220)) (c + 9) (1, 220)) (c + 10) (1, 11)) (c + 11) (1, 11)) (c + 12) (1, 88)) (c + 13) (1, 88)) (c + 14) (3, 11)) (c + 15) (3, 11)) (c + 16) (1, 4160)) (c + 17) (1, 4160)) (c + 18) (3, 4160)) (c + 19) (1, 8)) (c + 20) (1, 8)) (c + 21) (1, 1764)) (c + 22) (1, 1764)) (c + 23) (1, 12)) (c + 24) (1, 12))
def nI10 (c : Nat) (I : Nat → Nat → Int32) : Nat → Nat → Int32 := (va_up (va_up (va_up (va_up (va_up (va_up (va_up (va_up (va_up (va_up (va_up (va_up (va_up (va_up (va_up (va_up (va_up (va_up (va_up (va_up (va_up (va_up (va_up (va_up I (c + 1) (fun _ => 0)) (c + 2) (fun _ => 0)) (c + 3) (fun _ => 0)) (c + 4) (fun _ => 0)) (c + 5) (fun _ => 0)) (c + 6) (fun _ => 0)) (c + 7) (fun _ => 0)) (c + 8) (fun _ => 0)) (c + 9) (fun _ => 0)) (c + 10) (fun _ => 0)) (c + 11) (fun _ => 0)) (c + 12) (fun _ => 0)) (c + 13) (fun _ => 0)) (c + 14) (fun _ => 0)) (c + 15) (fun _ => 0)) (c + 16) (fun _ => 0)) (c + 17) (fun _ => 0)) (c + 18) (fun _ => 0)) (c + 19) (fun _ => 0)) (c + 20) (fun _ => 0)) (c + 21) (fun _ => 0)) (c + 22) (fun _ => 0)) (c + 23) (fun _ => 0)) (c + 24) (fun _ => 0))
set_option maxHeartbeats 600000 in
set_option maxRecDepth 100000 in
theorem ini_X10 {d a c : Nat} {M0 M : Mm} {P : Nat → Nat → Option Nat} {S : Nat → Nat × Nat} {I : Nat → Nat → Int32} (h : Nw a M0 M (c + 1) P S I) (hs0 : S c = (0, 10)) : Ct (d + 2) 24 17514 YX10_init [.ref (a + c)] M (qU (fun M2 => Nw a M0 M2 (c + 25) (nP10 c P) (nS10 c S) (nI10 c I) ∧ Sh M M2 (a + (c + 1)))) := by
  refine Ct.of (by decide) (by simp [Value.category]) (Nat.le_of_ble_eq_true rfl) ?_
  have hs : mS M (a + c) = (0, 10) := (h.2.2 c (by omega)).2.1.trans hs0
  show wp _ 24 17514 _ 0 [some (.ref (a + c))] [] _ _
  have hN0 := h
  have hS0 : Sh M M (a + (c + 1)) := Sh.rf (by rw [show mN _ = _ from h.1]; exact Nat.le_refl _)
  refine r_aload_n (pc := 0) dX10_init_0 rfl ?_
  refine r_objInit (pc := 1) 1 dX10_init_1 (mo_RX10_1 rfl) oi_in oi_cd (Nat.le_of_ble_eq_true rfl) ?_
  refine r_aload_n (pc := 4) dX10_init_4 rfl ?_
  refine r_sipush (pc := 5) (v := 300) dX10_init_5 (by decide) ?_
  refine r_newB (kc := 23) (ks := 17214) (pc := 8) (N := 300) dX10_init_8 (by decide) (by decide) (by decide) ?_
  refine wp_S (st2 := [.ref (a + (c + 1)), .ref (a + c)]) (by rw [show mN _ = _ from hN0.1]) ?_
  have hN1 : Nw a M0 _ (c + 2) _ _ _ := hN0.al (2, 300)
  have hS1 := hS0.al (2, 300)
  refine r_putF (pc := 10) 10 1 9 dX10_init_10 (fl_RX10_9 rfl) (by decide) rfl rfl rfl rfl (hS1.ob (b := a + c) (by omega) hs) ?_
  have hN2 := hN1.p1 (j := c) (by omega) 1 (c + 1)
  have hS2 := hS1.wp (a := a + c) (k := 1) (v := some (a + (c + 1)))
  refine wp_nw hN2 hS2 (fun M2 hN2 hS2 => ?_)
  refine r_aload_n (pc := 13) dX10_init_13 rfl ?_
  refine r_bipush (pc := 14) (v := 11) dX10_init_14 (by decide) ?_
  refine r_newI (kc := 22) (ks := 17203) (pc := 16) (N := 11) dX10_init_16 (by decide) (by decide) (by decide) ?_
  refine wp_S (st2 := [.ref (a + (c + 2)), .ref (a + c)]) (by rw [show mN _ = _ from hN2.1]) ?_
  have hN3 : Nw a M0 _ (c + 3) _ _ _ := hN2.al (1, 11)
  have hS3 := hS2.al (1, 11)
  refine r_putF (pc := 18) 10 6 13 dX10_init_18 (fl_RX10_13 rfl) (by decide) rfl rfl rfl rfl (hS3.ob (b := a + c) (by omega) hs) ?_
  have hN4 := hN3.p1 (j := c) (by omega) 6 (c + 2)
  have hS4 := hS3.wp (a := a + c) (k := 6) (v := some (a + (c + 2)))
  refine wp_nw hN4 hS4 (fun M4 hN4 hS4 => ?_)
  refine r_aload_n (pc := 21) dX10_init_21 rfl ?_
  refine r_bipush (pc := 22) (v := 88) dX10_init_22 (by decide) ?_
  refine r_newI (kc := 21) (ks := 17115) (pc := 24) (N := 88) dX10_init_24 (by decide) (by decide) (by decide) ?_
  refine wp_S (st2 := [.ref (a + (c + 3)), .ref (a + c)]) (by rw [show mN _ = _ from hN4.1]) ?_
  have hN5 : Nw a M0 _ (c + 4) _ _ _ := hN4.al (1, 88)
  have hS5 := hS4.al (1, 88)
  refine r_putF (pc := 26) 10 7 17 dX10_init_26 (fl_RX10_17 rfl) (by decide) rfl rfl rfl rfl (hS5.ob (b := a + c) (by omega) hs) ?_
  have hN6 := hN5.p1 (j := c) (by omega) 7 (c + 3)
  have hS6 := hS5.wp (a := a + c) (k := 7) (v := some (a + (c + 3)))
  refine wp_nw hN6 hS6 (fun M6 hN6 hS6 => ?_)
  refine r_aload_n (pc := 29) dX10_init_29 rfl ?_
  refine r_bipush (pc := 30) (v := 88) dX10_init_30 (by decide) ?_
  refine r_newI (kc := 20) (ks := 17027) (pc := 32) (N := 88) dX10_init_32 (by decide) (by decide) (by decide) ?_
  refine wp_S (st2 := [.ref (a + (c + 4)), .ref (a + c)]) (by rw [show mN _ = _ from hN6.1]) ?_
  have hN7 : Nw a M0 _ (c + 5) _ _ _ := hN6.al (1, 88)
  have hS7 := hS6.al (1, 88)
  refine r_putF (pc := 34) 10 8 20 dX10_init_34 (fl_RX10_20 rfl) (by decide) rfl rfl rfl rfl (hS7.ob (b := a + c) (by omega) hs) ?_
  have hN8 := hN7.p1 (j := c) (by omega) 8 (c + 4)
  have hS8 := hS7.wp (a := a + c) (k := 8) (v := some (a + (c + 4)))
  refine wp_nw hN8 hS8 (fun M8 hN8 hS8 => ?_)
  refine r_aload_n (pc := 37) dX10_init_37 rfl ?_
  refine r_bipush (pc := 38) (v := 88) dX10_init_38 (by decide) ?_
  refine r_newI (kc := 19) (ks := 16939) (pc := 40) (N := 88) dX10_init_40 (by decide) (by decide) (by decide) ?_
  refine wp_S (st2 := [.ref (a + (c + 5)), .ref (a + c)]) (by rw [show mN _ = _ from hN8.1]) ?_
  have hN9 : Nw a M0 _ (c + 6) _ _ _ := hN8.al (1, 88)
  have hS9 := hS8.al (1, 88)
  refine r_putF (pc := 42) 10 9 23 dX10_init_42 (fl_RX10_23 rfl) (by decide) rfl rfl rfl rfl (hS9.ob (b := a + c) (by omega) hs) ?_
  have hN10 := hN9.p1 (j := c) (by omega) 9 (c + 5)
  have hS10 := hS9.wp (a := a + c) (k := 9) (v := some (a + (c + 5)))
  refine wp_nw hN10 hS10 (fun M10 hN10 hS10 => ?_)
  refine r_aload_n (pc := 45) dX10_init_45 rfl ?_
  refine r_bipush (pc := 46) (v := 11) dX10_init_46 (by decide) ?_
  refine r_newI (kc := 18) (ks := 16928) (pc := 48) (N := 11) dX10_init_48 (by decide) (by decide) (by decide) ?_
  refine wp_S (st2 := [.ref (a + (c + 6)), .ref (a + c)]) (by rw [show mN _ = _ from hN10.1]) ?_
  have hN11 : Nw a M0 _ (c + 7) _ _ _ := hN10.al (1, 11)
  have hS11 := hS10.al (1, 11)
  refine r_putF (pc := 50) 10 10 26 dX10_init_50 (fl_RX10_26 rfl) (by decide) rfl rfl rfl rfl (hS11.ob (b := a + c) (by omega) hs) ?_
  have hN12 := hN11.p1 (j := c) (by omega) 10 (c + 6)
  have hS12 := hS11.wp (a := a + c) (k := 10) (v := some (a + (c + 6)))
  refine wp_nw hN12 hS12 (fun M12 hN12 hS12 => ?_)
  refine r_aload_n (pc := 53) dX10_init_53 rfl ?_
  refine r_sipush (pc := 54) (v := 220) dX10_init_54 (by decide) ?_
  refine r_newI (kc := 17) (ks := 16708) (pc := 57) (N := 220) dX10_init_57 (by decide) (by decide) (by decide) ?_
  refine wp_S (st2 := [.ref (a + (c + 7)), .ref (a + c)]) (by rw [show mN _ = _ from hN12.1]) ?_
  have hN13 : Nw a M0 _ (c + 8) _ _ _ := hN12.al (1, 220)
  have hS13 := hS12.al (1, 220)
  refine r_putF (pc := 59) 10 11 29 dX10_init_59 (fl_RX10_29 rfl) (by decide) rfl rfl rfl rfl (hS13.ob (b := a + c) (by omega) hs) ?_
  have hN14 := hN13.p1 (j := c) (by omega) 11 (c + 7)
  have hS14 := hS13.wp (a := a + c) (k := 11) (v := some (a + (c + 7)))
  refine wp_nw hN14 hS14 (fun M14 hN14 hS14 => ?_)
  refine r_aload_n (pc := 62) dX10_init_62 rfl ?_
  refine r_sipush (pc := 63) (v := 220) dX10_init_63 (by decide) ?_
  refine r_newI (kc := 16) (ks := 16488) (pc := 66) (N := 220) dX10_init_66 (by decide) (by decide) (by decide) ?_
  refine wp_S (st2 := [.ref (a + (c + 8)), .ref (a + c)]) (by rw [show mN _ = _ from hN14.1]) ?_
  have hN15 : Nw a M0 _ (c + 9) _ _ _ := hN14.al (1, 220)
  have hS15 := hS14.al (1, 220)
  refine r_putF (pc := 68) 10 12 32 dX10_init_68 (fl_RX10_32 rfl) (by decide) rfl rfl rfl rfl (hS15.ob (b := a + c) (by omega) hs) ?_
  have hN16 := hN15.p1 (j := c) (by omega) 12 (c + 8)
  have hS16 := hS15.wp (a := a + c) (k := 12) (v := some (a + (c + 8)))
  refine wp_nw hN16 hS16 (fun M16 hN16 hS16 => ?_)
  refine r_aload_n (pc := 71) dX10_init_71 rfl ?_
  refine r_sipush (pc := 72) (v := 220) dX10_init_72 (by decide) ?_
  refine r_newI (kc := 15) (ks := 16268) (pc := 75) (N := 220) dX10_init_75 (by decide) (by decide) (by decide) ?_
  refine wp_S (st2 := [.ref (a + (c + 9)), .ref (a + c)]) (by rw [show mN _ = _ from hN16.1]) ?_
  have hN17 : Nw a M0 _ (c + 10) _ _ _ := hN16.al (1, 220)
  have hS17 := hS16.al (1, 220)
  refine r_putF (pc := 77) 10 13 35 dX10_init_77 (fl_RX10_35 rfl) (by decide) rfl rfl rfl rfl (hS17.ob (b := a + c) (by omega) hs) ?_
  have hN18 := hN17.p1 (j := c) (by omega) 13 (c + 9)
  have hS18 := hS17.wp (a := a + c) (k := 13) (v := some (a + (c + 9)))
  refine wp_nw hN18 hS18 (fun M18 hN18 hS18 => ?_)
  refine r_aload_n (pc := 80) dX10_init_80 rfl ?_
  refine r_bipush (pc := 81) (v := 11) dX10_init_81 (by decide) ?_
  refine r_newI (kc := 14) (ks := 16257) (pc := 83) (N := 11) dX10_init_83 (by decide) (by decide) (by decide) ?_
  refine wp_S (st2 := [.ref (a + (c + 10)), .ref (a + c)]) (by rw [show mN _ = _ from hN18.1]) ?_
  have hN19 : Nw a M0 _ (c + 11) _ _ _ := hN18.al (1, 11)
  have hS19 := hS18.al (1, 11)
  refine r_putF (pc := 85) 10 14 38 dX10_init_85 (fl_RX10_38 rfl) (by decide) rfl rfl rfl rfl (hS19.ob (b := a + c) (by omega) hs) ?_
  have hN20 := hN19.p1 (j := c) (by omega) 14 (c + 10)
  have hS20 := hS19.wp (a := a + c) (k := 14) (v := some (a + (c + 10)))
  refine wp_nw hN20 hS20 (fun M20 hN20 hS20 => ?_)
  refine r_aload_n (pc := 88) dX10_init_88 rfl ?_
  refine r_bipush (pc := 89) (v := 11) dX10_init_89 (by decide) ?_
  refine r_newI (kc := 13) (ks := 16246) (pc := 91) (N := 11) dX10_init_91 (by decide) (by decide) (by decide) ?_
  refine wp_S (st2 := [.ref (a + (c + 11)), .ref (a + c)]) (by rw [show mN _ = _ from hN20.1]) ?_
  have hN21 : Nw a M0 _ (c + 12) _ _ _ := hN20.al (1, 11)
  have hS21 := hS20.al (1, 11)
  refine r_putF (pc := 93) 10 15 41 dX10_init_93 (fl_RX10_41 rfl) (by decide) rfl rfl rfl rfl (hS21.ob (b := a + c) (by omega) hs) ?_
  have hN22 := hN21.p1 (j := c) (by omega) 15 (c + 11)
  have hS22 := hS21.wp (a := a + c) (k := 15) (v := some (a + (c + 11)))
  refine wp_nw hN22 hS22 (fun M22 hN22 hS22 => ?_)
  refine r_aload_n (pc := 96) dX10_init_96 rfl ?_
  refine r_bipush (pc := 97) (v := 88) dX10_init_97 (by decide) ?_
  refine r_newI (kc := 12) (ks := 16158) (pc := 99) (N := 88) dX10_init_99 (by decide) (by decide) (by decide) ?_
  refine wp_S (st2 := [.ref (a + (c + 12)), .ref (a + c)]) (by rw [show mN _ = _ from hN22.1]) ?_
  have hN23 : Nw a M0 _ (c + 13) _ _ _ := hN22.al (1, 88)
  have hS23 := hS22.al (1, 88)
  refine r_putF (pc := 101) 10 16 44 dX10_init_101 (fl_RX10_44 rfl) (by decide) rfl rfl rfl rfl (hS23.ob (b := a + c) (by omega) hs) ?_
  have hN24 := hN23.p1 (j := c) (by omega) 16 (c + 12)
  have hS24 := hS23.wp (a := a + c) (k := 16) (v := some (a + (c + 12)))
  refine wp_nw hN24 hS24 (fun M24 hN24 hS24 => ?_)
  refine r_aload_n (pc := 104) dX10_init_104 rfl ?_
  refine r_bipush (pc := 105) (v := 88) dX10_init_105 (by decide) ?_
  refine r_newI (kc := 11) (ks := 16070) (pc := 107) (N := 88) dX10_init_107 (by decide) (by decide) (by decide) ?_
  refine wp_S (st2 := [.ref (a + (c + 13)), .ref (a + c)]) (by rw [show mN _ = _ from hN24.1]) ?_
  have hN25 : Nw a M0 _ (c + 14) _ _ _ := hN24.al (1, 88)
  have hS25 := hS24.al (1, 88)
  refine r_putF (pc := 109) 10 17 47 dX10_init_109 (fl_RX10_47 rfl) (by decide) rfl rfl rfl rfl (hS25.ob (b := a + c) (by omega) hs) ?_
  have hN26 := hN25.p1 (j := c) (by omega) 17 (c + 13)
  have hS26 := hS25.wp (a := a + c) (k := 17) (v := some (a + (c + 13)))
  refine wp_nw hN26 hS26 (fun M26 hN26 hS26 => ?_)
  refine r_aload_n (pc := 112) dX10_init_112 rfl ?_
  refine r_bipush (pc := 113) (v := 11) dX10_init_113 (by decide) ?_
  refine r_newZ (kc := 10) (ks := 16059) (pc := 115) (N := 11) dX10_init_115 (by decide) (by decide) (by decide) ?_
  refine wp_S (st2 := [.ref (a + (c + 14)), .ref (a + c)]) (by rw [show mN _ = _ from hN26.1]) ?_
  have hN27 : Nw a M0 _ (c + 15) _ _ _ := hN26.al (3, 11)
  have hS27 := hS26.al (3, 11)
  refine r_putF (pc := 117) 10 18 50 dX10_init_117 (fl_RX10_50 rfl) (by decide) rfl rfl rfl rfl (hS27.ob (b := a + c) (by omega) hs) ?_
  have hN28 := hN27.p1 (j := c) (by omega) 18 (c + 14)
  have hS28 := hS27.wp (a := a + c) (k := 18) (v := some (a + (c + 14)))
  refine wp_nw hN28 hS28 (fun M28 hN28 hS28 => ?_)
  refine r_aload_n (pc := 120) dX10_init_120 rfl ?_
  refine r_bipush (pc := 121) (v := 11) dX10_init_121 (by decide) ?_
  refine r_newZ (kc := 9) (ks := 16048) (pc := 123) (N := 11) dX10_init_123 (by decide) (by decide) (by decide) ?_
  refine wp_S (st2 := [.ref (a + (c + 15)), .ref (a + c)]) (by rw [show mN _ = _ from hN28.1]) ?_
  have hN29 : Nw a M0 _ (c + 16) _ _ _ := hN28.al (3, 11)
  have hS29 := hS28.al (3, 11)
  refine r_putF (pc := 125) 10 19 54 dX10_init_125 (fl_RX10_54 rfl) (by decide) rfl rfl rfl rfl (hS29.ob (b := a + c) (by omega) hs) ?_
  have hN30 := hN29.p1 (j := c) (by omega) 19 (c + 15)
  have hS30 := hS29.wp (a := a + c) (k := 19) (v := some (a + (c + 15)))
  refine wp_nw hN30 hS30 (fun M30 hN30 hS30 => ?_)
  refine r_aload_n (pc := 128) dX10_init_128 rfl ?_
  refine r_sipush (pc := 129) (v := 4160) dX10_init_129 (by decide) ?_
  refine r_newI (kc := 8) (ks := 11888) (pc := 132) (N := 4160) dX10_init_132 (by decide) (by decide) (by decide) ?_
  refine wp_S (st2 := [.ref (a + (c + 16)), .ref (a + c)]) (by rw [show mN _ = _ from hN30.1]) ?_
  have hN31 : Nw a M0 _ (c + 17) _ _ _ := hN30.al (1, 4160)
  have hS31 := hS30.al (1, 4160)
  refine r_putF (pc := 134) 10 26 57 dX10_init_134 (fl_RX10_57 rfl) (by decide) rfl rfl rfl rfl (hS31.ob (b := a + c) (by omega) hs) ?_
  have hN32 := hN31.p1 (j := c) (by omega) 26 (c + 16)
  have hS32 := hS31.wp (a := a + c) (k := 26) (v := some (a + (c + 16)))
  refine wp_nw hN32 hS32 (fun M32 hN32 hS32 => ?_)
  refine r_aload_n (pc := 137) dX10_init_137 rfl ?_
  refine r_sipush (pc := 138) (v := 4160) dX10_init_138 (by decide) ?_
  refine r_newI (kc := 7) (ks := 7728) (pc := 141) (N := 4160) dX10_init_141 (by decide) (by decide) (by decide) ?_
  refine wp_S (st2 := [.ref (a + (c + 17)), .ref (a + c)]) (by rw [show mN _ = _ from hN32.1]) ?_
  have hN33 : Nw a M0 _ (c + 18) _ _ _ := hN32.al (1, 4160)
  have hS33 := hS32.al (1, 4160)
  refine r_putF (pc := 143) 10 27 60 dX10_init_143 (fl_RX10_60 rfl) (by decide) rfl rfl rfl rfl (hS33.ob (b := a + c) (by omega) hs) ?_
  have hN34 := hN33.p1 (j := c) (by omega) 27 (c + 17)
  have hS34 := hS33.wp (a := a + c) (k := 27) (v := some (a + (c + 17)))
  refine wp_nw hN34 hS34 (fun M34 hN34 hS34 => ?_)
  refine r_aload_n (pc := 146) dX10_init_146 rfl ?_
  refine r_sipush (pc := 147) (v := 4160) dX10_init_147 (by decide) ?_
  refine r_newZ (kc := 6) (ks := 3568) (pc := 150) (N := 4160) dX10_init_150 (by decide) (by decide) (by decide) ?_
  refine wp_S (st2 := [.ref (a + (c + 18)), .ref (a + c)]) (by rw [show mN _ = _ from hN34.1]) ?_
  have hN35 : Nw a M0 _ (c + 19) _ _ _ := hN34.al (3, 4160)
  have hS35 := hS34.al (3, 4160)
  refine r_putF (pc := 152) 10 28 63 dX10_init_152 (fl_RX10_63 rfl) (by decide) rfl rfl rfl rfl (hS35.ob (b := a + c) (by omega) hs) ?_
  have hN36 := hN35.p1 (j := c) (by omega) 28 (c + 18)
  have hS36 := hS35.wp (a := a + c) (k := 28) (v := some (a + (c + 18)))
  refine wp_nw hN36 hS36 (fun M36 hN36 hS36 => ?_)
  refine r_aload_n (pc := 155) dX10_init_155 rfl ?_
  refine r_bipush (pc := 156) (v := 8) dX10_init_156 (by decide) ?_
  refine r_newI (kc := 5) (ks := 3560) (pc := 158) (N := 8) dX10_init_158 (by decide) (by decide) (by decide) ?_
  refine wp_S (st2 := [.ref (a + (c + 19)), .ref (a + c)]) (by rw [show mN _ = _ from hN36.1]) ?_
  have hN37 : Nw a M0 _ (c + 20) _ _ _ := hN36.al (1, 8)
  have hS37 := hS36.al (1, 8)
  refine r_putF (pc := 160) 10 29 66 dX10_init_160 (fl_RX10_66 rfl) (by decide) rfl rfl rfl rfl (hS37.ob (b := a + c) (by omega) hs) ?_
  have hN38 := hN37.p1 (j := c) (by omega) 29 (c + 19)
  have hS38 := hS37.wp (a := a + c) (k := 29) (v := some (a + (c + 19)))
  refine wp_nw hN38 hS38 (fun M38 hN38 hS38 => ?_)
  refine r_aload_n (pc := 163) dX10_init_163 rfl ?_
  refine r_bipush (pc := 164) (v := 8) dX10_init_164 (by decide) ?_
  refine r_newI (kc := 4) (ks := 3552) (pc := 166) (N := 8) dX10_init_166 (by decide) (by decide) (by decide) ?_
  refine wp_S (st2 := [.ref (a + (c + 20)), .ref (a + c)]) (by rw [show mN _ = _ from hN38.1]) ?_
  have hN39 : Nw a M0 _ (c + 21) _ _ _ := hN38.al (1, 8)
  have hS39 := hS38.al (1, 8)
  refine r_putF (pc := 168) 10 30 69 dX10_init_168 (fl_RX10_69 rfl) (by decide) rfl rfl rfl rfl (hS39.ob (b := a + c) (by omega) hs) ?_
  have hN40 := hN39.p1 (j := c) (by omega) 30 (c + 20)
  have hS40 := hS39.wp (a := a + c) (k := 30) (v := some (a + (c + 20)))
  refine wp_nw hN40 hS40 (fun M40 hN40 hS40 => ?_)
  refine r_aload_n (pc := 171) dX10_init_171 rfl ?_
  refine r_sipush (pc := 172) (v := 1764) dX10_init_172 (by decide) ?_
  refine r_newI (kc := 3) (ks := 1788) (pc := 175) (N := 1764) dX10_init_175 (by decide) (by decide) (by decide) ?_
  refine wp_S (st2 := [.ref (a + (c + 21)), .ref (a + c)]) (by rw [show mN _ = _ from hN40.1]) ?_
  have hN41 : Nw a M0 _ (c + 22) _ _ _ := hN40.al (1, 1764)
  have hS41 := hS40.al (1, 1764)
  refine r_putF (pc := 177) 10 33 72 dX10_init_177 (fl_RX10_72 rfl) (by decide) rfl rfl rfl rfl (hS41.ob (b := a + c) (by omega) hs) ?_
  have hN42 := hN41.p1 (j := c) (by omega) 33 (c + 21)
  have hS42 := hS41.wp (a := a + c) (k := 33) (v := some (a + (c + 21)))
  refine wp_nw hN42 hS42 (fun M42 hN42 hS42 => ?_)
  refine r_aload_n (pc := 180) dX10_init_180 rfl ?_
  refine r_sipush (pc := 181) (v := 1764) dX10_init_181 (by decide) ?_
  refine r_newI (kc := 2) (ks := 24) (pc := 184) (N := 1764) dX10_init_184 (by decide) (by decide) (by decide) ?_
  refine wp_S (st2 := [.ref (a + (c + 22)), .ref (a + c)]) (by rw [show mN _ = _ from hN42.1]) ?_
  have hN43 : Nw a M0 _ (c + 23) _ _ _ := hN42.al (1, 1764)
  have hS43 := hS42.al (1, 1764)
  refine r_putF (pc := 186) 10 34 75 dX10_init_186 (fl_RX10_75 rfl) (by decide) rfl rfl rfl rfl (hS43.ob (b := a + c) (by omega) hs) ?_
  have hN44 := hN43.p1 (j := c) (by omega) 34 (c + 22)
  have hS44 := hS43.wp (a := a + c) (k := 34) (v := some (a + (c + 22)))
  refine wp_nw hN44 hS44 (fun M44 hN44 hS44 => ?_)
  refine r_aload_n (pc := 189) dX10_init_189 rfl ?_
  refine r_bipush (pc := 190) (v := 12) dX10_init_190 (by decide) ?_
  refine r_newI (kc := 1) (ks := 12) (pc := 192) (N := 12) dX10_init_192 (by decide) (by decide) (by decide) ?_
  refine wp_S (st2 := [.ref (a + (c + 23)), .ref (a + c)]) (by rw [show mN _ = _ from hN44.1]) ?_
  have hN45 : Nw a M0 _ (c + 24) _ _ _ := hN44.al (1, 12)
  have hS45 := hS44.al (1, 12)
  refine r_putF (pc := 194) 10 35 78 dX10_init_194 (fl_RX10_78 rfl) (by decide) rfl rfl rfl rfl (hS45.ob (b := a + c) (by omega) hs) ?_
  have hN46 := hN45.p1 (j := c) (by omega) 35 (c + 23)
  have hS46 := hS45.wp (a := a + c) (k := 35) (v := some (a + (c + 23)))
  refine wp_nw hN46 hS46 (fun M46 hN46 hS46 => ?_)
  refine r_aload_n (pc := 197) dX10_init_197 rfl ?_
  refine r_bipush (pc := 198) (v := 12) dX10_init_198 (by decide) ?_
  refine r_newI (kc := 0) (ks := 0) (pc := 200) (N := 12) dX10_init_200 (by decide) (by decide) (by decide) ?_
  refine wp_S (st2 := [.ref (a + (c + 24)), .ref (a + c)]) (by rw [show mN _ = _ from hN46.1]) ?_
  have hN47 : Nw a M0 _ (c + 25) _ _ _ := hN46.al (1, 12)
  have hS47 := hS46.al (1, 12)
  refine r_putF (pc := 202) 10 36 81 dX10_init_202 (fl_RX10_81 rfl) (by decide) rfl rfl rfl rfl (hS47.ob (b := a + c) (by omega) hs) ?_
  have hN48 := hN47.p1 (j := c) (by omega) 36 (c + 24)
  have hS48 := hS47.wp (a := a + c) (k := 36) (v := some (a + (c + 24)))
  refine wp_nw hN48 hS48 (fun M48 hN48 hS48 => ?_)
  refine r_ret_v (pc := 205) dX10_init_205 rfl ?_
  exact ⟨rfl, hN48, hS48⟩
