/-! ===== the law's beginning ===== -/
def M0 : Mm := (fun _ _ => 0, fun _ _ => none, fun _ _ => 0, fun _ => (0, 0), 0)
def s0 : Sta := ((0, fun _ => 0), 0, fun _ => default, 0, fun _ => 0, fun _ => 0)
def zP0 : Nat → Nat → Option Nat := va_up (fun _ _ => none) 0 (fun _ => none)
def zS0 : Nat → Nat × Nat := va_up (fun _ => (0, 0)) 0 (0, 9)
def zI0 : Nat → Nat → Int32 := va_up (fun _ _ => 0) 0 (fun _ => 0)
def zP1 : Nat → Nat → Option Nat := va_up (nP9 0 zP0) 256 (fun _ => none)
def zS1 : Nat → Nat × Nat := va_up (nS9 0 zS0) 256 (0, 10)
def zI1 : Nat → Nat → Int32 := va_up (nI9 0 zI0) 256 (fun _ => 0)
def zP2 : Nat → Nat → Option Nat := va_up (nP10 256 zP1) 281 (fun _ => none)
def zS2 : Nat → Nat × Nat := va_up (nS10 256 zS1) 281 (4, 1)
def zI2 : Nat → Nat → Int32 := va_up (nI10 256 zI1) 281 (fun _ => 0)
set_option maxRecDepth 100000 in
theorem z_sh : ok9 0 zP2 zS2 ∧ ok8 4 zP2 zS2 ∧ ok10 256 zP2 zS2 ∧ zS2 281 = (4, 1) ∧ zP2 0 3 = some 4 ∧ zP2 23 0 = none ∧ zP2 67 0 = none ∧ zP2 113 2 = none := by
  refine ⟨?_, ?_, ?_, by decide +kernel, by decide +kernel, by decide +kernel, by decide +kernel, by decide +kernel⟩
  · repeat' first | decide +kernel | constructor
  · repeat' first | decide +kernel | constructor
  · repeat' first | decide +kernel | constructor
set_option maxRecDepth 100000 in
theorem z_in : zI2 0 2 = 0 ∧ zI2 1 1 = 0 ∧ (∀ k, k < 6 → zI2 18 k = tm6 0 41 0 0 (-1) 0 k) ∧ (∀ k, k < 8 → zI2 19 k = 0) ∧ (∀ k, k < 8 → zI2 20 k = 0) ∧ zI2 4 12 = 0 ∧ zI2 253 2 = 0 ∧ zI2 253 3 = 0 ∧ zI2 256 2 = 0 ∧ zI2 256 20 = 0 ∧ zI2 256 37 = 0 := by decide +kernel
theorem li_0 {I : Im} {G : Gm} (h : Nw 0 M0 (I, G) 282 zP2 zS2 zI2) : LI s0 I G := by
  obtain ⟨p1, p2, p3, p4, p5, p6, p7, p8⟩ := z_sh
  obtain ⟨i1, i2, i3, i4, i5, i6, i7, i8, i9, i10, i11⟩ := z_in
  have hI : ∀ a k, a < 282 → I a k = zI2 a k := fun a k ha => by
    have := (h.2.2 a ha).2.2.1 k
    rw [Nat.zero_add] at this
    exact this
  have hP : ∀ a k, a < 282 → G.1 a k = zP2 a k := fun a k ha => by
    have := (h.2.2 a ha).1 k
    rw [Nat.zero_add] at this
    refine (show mP (I, G) a k = _ from this).trans ?_
    cases zP2 a k with
    | none => rfl
    | some x => exact congrArg some (Nat.zero_add x)
  have h9 : isC9 G 0 := isC9_nw (j := 0) h (by omega) p1
  have h8 : isC8 G 4 := by
    have := isC8_nw (j := 4) h (by omega) p2
    rwa [Nat.zero_add] at this
  have h10 : isC10 G 256 := by
    have := isC10_nw (j := 256) h (by omega) p3
    rwa [Nat.zero_add] at this
  have t0 : tA 0 = 4 := rfl
  have t1 : tA 1 = 282 := rfl
  have mk : ∀ mb, G.1 mb 0 = none → MkI s0 I G mb := fun mb hz => ⟨fun t ht => (by rw [hz] at ht; cases ht), fun k hk => absurd hk (Nat.not_lt_zero k)⟩
  refine ⟨⟨⟨h9, fun k hk => ?_, fun k hk => absurd hk (Nat.not_lt_zero k), (hP 0 3 (by omega)).trans p5⟩, ⟨(hI 0 2 (by omega)).trans i1, Nat.zero_le _, ⟨(hI 1 1 (by omega)).trans i2, Nat.zero_le _, fun i hi => absurd hi (Nat.not_lt_zero i), fun _ => Nat.zero_le _⟩, fun k hk => absurd hk (Nat.not_lt_zero k), ⟨fun k hk => (hI 18 k (by omega)).trans (i3 k hk), fun k hk => (hI 19 k (by omega)).trans (i4 k hk), fun k hk => (hI 20 k (by omega)).trans (i5 k hk), (hI 4 12 (by omega)).trans i6⟩, ⟨(hI 253 2 (by omega)).trans i7, Nat.zero_le _, fun k hk => absurd hk (Nat.not_lt_zero k), fun _ => Nat.zero_le _, (hI 253 3 (by omega)).trans i8⟩⟩, mk 23 ((hP 23 0 (by omega)).trans p6), mk 67 ((hP 67 0 (by omega)).trans p7), ⟨fun t ht => (by rw [(hP 113 2 (by omega)).trans p8] at ht; cases ht), fun k x hk => absurd hk (Nat.not_lt_zero k)⟩⟩, ⟨⟨(hI 256 2 (by omega)).trans i9, Nat.zero_le _, fun i hi => absurd hi (Nat.not_lt_zero i), fun _ => Nat.zero_le _⟩, (hI 256 20 (by omega)).trans i10, Nat.zero_le _, fun k hk => absurd hk (Nat.not_lt_zero k), ⟨(hI 256 37 (by omega)).trans i11, Nat.zero_le _, fun k hk => absurd hk (Nat.not_lt_zero k), fun _ => Nat.zero_le _⟩⟩, h10, h.1, ?_⟩
  · obtain rfl : k = 0 := Nat.le_zero.mp hk
    exact h8
  · have := (h.2.2 281 (by omega)).2.1
    rw [Nat.zero_add] at this
    exact this.trans p4
abbrev kcL (r : Nat) : Nat := 255 + ((24 + (18 * r + 1)) + 1) + 1
abbrev ksL (r : Nat) : Nat := 9304 + ((17514 + (539 * r + 1)) + 38) + 12
set_option maxHeartbeats 1000000 in
set_option maxRecDepth 100000 in
theorem law_go {n : Nat} {xs : Nat → Int32} (hn : n ≤ 3584) : wpS (PL n xs) EL 60 (kcL (n / 7)) (ksL (n / 7)) YL_law 0 [none, none, none, none, none, none, none] [] M0 QL := by
  have hN0 : Nw 0 M0 M0 0 (fun _ _ => none) (fun _ => (0, 0)) (fun _ _ => 0) := ⟨rfl, fun id h => absurd h (Nat.not_lt_zero _), fun j hj => absurd hj (Nat.not_lt_zero _)⟩
  refine T_new (kc := 255 + ((24 + (18 * (n / 7) + 1)) + 1)) (ks := 9304 + ((17514 + (539 * (n / 7) + 1)) + 38)) (pc := 0) 9 8 dL_law_0 (by decide) (cl_RL_8 rfl) it_X9 in_X9 ?_
  have hN1 : Nw 0 M0 (alM M0 (0, 9)) (0 + 1) zP0 zS0 zI0 := hN0.al (0, 9)
  generalize alM M0 (0, 9) = M1 at hN1 ⊢
  refine T_S (st2 := [.ref (0 + 0)]) rfl ?_
  refine T_dup (pc := 3) dL_law_3 rfl ?_
  refine T_callI (d := 59) (kc1 := 255) (ks1 := 9304) (kc := (24 + (18 * (n / 7) + 1)) + 1) (ks := (17514 + (539 * (n / 7) + 1)) + 38) (pc := 4) (b := 0 + 0) (As := []) 15 dL_law_4 lk_X9_init (ml_RL_15 rfl) im_X9_init rfl rfl (by rw [show mN _ = _ from hN1.1]; omega) (Nat.le_of_ble_eq_true rfl) rfl (ini_X9 (d := 55) (c := 0) hN1 up_at) (fun r M2 hr2 _ => ?_)
  obtain ⟨rfl, hN2, _⟩ := hr2
  show wpS _ _ _ _ _ _ _ _ [.ref 0] _ _
  refine T_astore_n (pc := 7) (L' := [none, some (.ref 0), none, none, none, none, none]) dL_law_7 (by decide) rfl (PL_ex (by decide)) rfl ?_
  refine T_new (kc := 24 + (18 * (n / 7) + 1)) (ks := 17514 + (539 * (n / 7) + 1)) (pc := 8) 10 16 dL_law_8 (by decide) (cl_RL_16 rfl) it_X10 in_X10 ?_
  have hN3 : Nw 0 M0 (alM M2 (0, 10)) (256 + 1) zP1 zS1 zI1 := hN2.al (0, 10)
  refine T_S (st2 := [.ref (0 + 256)]) (by rw [show mN M2 = 0 + 256 from hN2.1]) ?_
  generalize alM M2 (0, 10) = M3 at hN3 ⊢
  refine T_dup (pc := 11) dL_law_11 rfl ?_
  refine T_callI (d := 59) (kc1 := 24) (ks1 := 17514) (kc := 18 * (n / 7) + 1) (ks := 539 * (n / 7) + 1) (pc := 12) (b := 0 + 256) (As := []) 18 dL_law_12 lk_X10_init (ml_RL_18 rfl) im_X10_init rfl rfl (by rw [show mN _ = _ from hN3.1]; omega) (Nat.le_of_ble_eq_true rfl) rfl (ini_X10 (d := 57) (c := 256) hN3 up_at) (fun r M4 hr4 _ => ?_)
  obtain ⟨rfl, hN4, _⟩ := hr4
  show wpS _ _ _ _ _ _ _ _ [.ref 256] _ _
  refine T_astore_n (pc := 15) (L' := [none, some (.ref 0), some (.ref 256), none, none, none, none]) dL_law_15 (by decide) rfl (PL_ex (by decide)) rfl ?_
  refine T_iconst (pc := 16) (v := 1) dL_law_16 (by decide) ?_
  refine T_newJ (pc := 17) (n := 1) (N := 1) (kc := 18 * (n / 7)) (ks := 539 * (n / 7)) dL_law_17 (by decide) rfl (by decide) ?_
  have hN5 : Nw 0 M0 (alM M4 (4, 1)) 282 zP2 zS2 zI2 := hN4.al (4, 1)
  refine T_S (st2 := [.ref 281]) (by rw [show mN M4 = 281 from hN4.1.trans (Nat.zero_add _)]) ?_
  generalize alM M4 (4, 1) = M5 at hN5 ⊢
  refine T_astore_n (pc := 19) (L' := [none, some (.ref 0), some (.ref 256), some (.ref 281), none, none, none]) dL_law_19 (by decide) rfl (PL_ex (by decide)) rfl ?_
  refine T_iconst (pc := 20) (v := nI (7 * 0)) dL_law_20 (by decide) ?_
  refine T_istore (pc := 21) (L' := Lh 0) dL_law_21 (by decide) rfl (PL_ex (by decide)) rfl ?_
  obtain ⟨I5, G5⟩ := M5
  exact law_loop hn (n / 7) 0 s0 I5 G5 (Nat.zero_add _).symm (li_0 hN5)
