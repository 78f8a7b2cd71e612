/-! ===== the constructors ===== -/

def roP (P : Nat → Nat → Option Nat) (c N : Nat) : Nat → Nat → Option Nat := fun j => if j < c then P j else if j = c then (fun k => if k < N then some (c + 1 + k) else none) else fun _ => none
def roS (S : Nat → Nat × Nat) (c N K : Nat) : Nat → Nat × Nat := fun j => if j < c then S j else if j = c then (6, N) else (1, K)
def roI (I : Nat → Nat → Int32) (c : Nat) : Nat → Nat → Int32 := fun j => if j < c then I j else fun _ => 0

def nP7 (c : Nat) (P : Nat → Nat → Option Nat) : Nat → Nat → Option Nat := P
def nS7 (c : Nat) (S : Nat → Nat × Nat) : Nat → Nat × Nat := S
def nI7 (c : Nat) (I : Nat → Nat → Int32) : Nat → Nat → Int32 := (up2 (up2 (up2 (up2 (up2 (up2 I c 0 (0)) c 1 (41)) c 2 (0)) c 3 (0)) c 4 (-1)) c 5 (0))
set_option maxHeartbeats 600000 in
set_option maxRecDepth 100000 in
theorem ini_X7 {d a c : Nat} {M0 M : Mm} {P : Nat → Nat → Option Nat} {S : Nat → Nat × Nat} {I : Nat → Nat → Int32} (h : Nw a M0 M (c + 1) P S I) (hs0 : S c = (0, 7)) : Ct (d + 2) 0 0 YX7_init [.ref (a + c)] M (qU (fun M2 => Nw a M0 M2 (c + 1) (nP7 c P) (nS7 c S) (nI7 c I) ∧ Sh M M2 (a + (c + 1)))) := by
  refine Ct.of (by decide) (by simp [Value.category]) (Nat.le_of_ble_eq_true rfl) ?_
  have hs : mS M (a + c) = (0, 7) := (h.2.2 c (by omega)).2.1.trans hs0
  show wp _ 0 0 _ 0 [some (.ref (a + c))] [] _ _
  have hN0 := h
  have hS0 : Sh M M (a + (c + 1)) := Sh.rf (by rw [show mN _ = _ from h.1]; exact Nat.le_refl _)
  refine r_aload_n (pc := 0) dX7_init_0 rfl ?_
  refine r_objInit (pc := 1) 3 dX7_init_1 (mo_RX7_3 rfl) oi_in oi_cd (Nat.le_of_ble_eq_true rfl) ?_
  refine r_aload_n (pc := 4) dX7_init_4 rfl ?_
  refine r_iconst (pc := 5) (v := 0) dX7_init_5 (by decide) ?_
  refine r_putI (pc := 6) (v := (0)) 7 0 9 dX7_init_6 (fl_RX7_9 rfl) (by decide) rfl rfl (hS0.ob (b := a + c) (by omega) hs) ?_
  have hN1 := hN0.pi (j := c) (by omega) 0 (0)
  have hS1 := hS0.wi (a := a + c) (k := 0) (v := (0))
  refine r_aload_n (pc := 9) dX7_init_9 rfl ?_
  refine r_bipush (pc := 10) (v := 41) dX7_init_10 (by decide) ?_
  refine r_putI (pc := 12) (v := (41)) 7 1 15 dX7_init_12 (fl_RX7_15 rfl) (by decide) rfl rfl (hS1.ob (b := a + c) (by omega) hs) ?_
  have hN2 := hN1.pi (j := c) (by omega) 1 (41)
  have hS2 := hS1.wi (a := a + c) (k := 1) (v := (41))
  refine r_aload_n (pc := 15) dX7_init_15 rfl ?_
  refine r_iconst (pc := 16) (v := 0) dX7_init_16 (by decide) ?_
  refine r_putZ (pc := 17) (v := (0)) 7 2 18 dX7_init_17 (fl_RX7_18 rfl) (by decide) rfl rfl (hS2.ob (b := a + c) (by omega) hs) (by decide) ?_
  have hN3 := hN2.pi (j := c) (by omega) 2 (0)
  have hS3 := hS2.wi (a := a + c) (k := 2) (v := (0))
  refine r_aload_n (pc := 20) dX7_init_20 rfl ?_
  refine r_iconst (pc := 21) (v := 0) dX7_init_21 (by decide) ?_
  refine r_putZ (pc := 22) (v := (0)) 7 3 22 dX7_init_22 (fl_RX7_22 rfl) (by decide) rfl rfl (hS3.ob (b := a + c) (by omega) hs) (by decide) ?_
  have hN4 := hN3.pi (j := c) (by omega) 3 (0)
  have hS4 := hS3.wi (a := a + c) (k := 3) (v := (0))
  refine r_aload_n (pc := 25) dX7_init_25 rfl ?_
  refine r_iconst (pc := 26) (v := -1) dX7_init_26 (by decide) ?_
  refine r_putI (pc := 27) (v := (-1)) 7 4 25 dX7_init_27 (fl_RX7_25 rfl) (by decide) rfl rfl (hS4.ob (b := a + c) (by omega) hs) ?_
  have hN5 := hN4.pi (j := c) (by omega) 4 (-1)
  have hS5 := hS4.wi (a := a + c) (k := 4) (v := (-1))
  refine r_aload_n (pc := 30) dX7_init_30 rfl ?_
  refine r_iconst (pc := 31) (v := 0) dX7_init_31 (by decide) ?_
  refine r_putI (pc := 32) (v := (0)) 7 5 28 dX7_init_32 (fl_RX7_28 rfl) (by decide) rfl rfl (hS5.ob (b := a + c) (by omega) hs) ?_
  have hN6 := hN5.pi (j := c) (by omega) 5 (0)
  have hS6 := hS5.wi (a := a + c) (k := 5) (v := (0))
  refine r_ret_v (pc := 35) dX7_init_35 rfl ?_
  exact ⟨rfl, hN6, hS6⟩

def nP6 (c : Nat) (P : Nat → Nat → Option Nat) : Nat → Nat → Option Nat := (up2 (va_up P (c + 1) (fun _ => none)) c 0 (some (c + 1)))
def nS6 (c : Nat) (S : Nat → Nat × Nat) : Nat → Nat × Nat := (va_up S (c + 1) (1, 300))
def nI6 (c : Nat) (I : Nat → Nat → Int32) : Nat → Nat → Int32 := (up2 (up2 (up2 (va_up I (c + 1) (fun _ => 0)) c 1 (0)) c 2 (0)) c 3 (-1))
set_option maxHeartbeats 600000 in
set_option maxRecDepth 100000 in
theorem ini_X6 {d a c : Nat} {M0 M : Mm} {P : Nat → Nat → Option Nat} {S : Nat → Nat × Nat} {I : Nat → Nat → Int32} (h : Nw a M0 M (c + 1) P S I) (hs0 : S c = (0, 6)) : Ct (d + 2) 1 300 YX6_init [.ref (a + c)] M (qU (fun M2 => Nw a M0 M2 (c + 2) (nP6 c P) (nS6 c S) (nI6 c I) ∧ Sh M M2 (a + (c + 1)))) := by
  refine Ct.of (by decide) (by simp [Value.category]) (Nat.le_of_ble_eq_true rfl) ?_
  have hs : mS M (a + c) = (0, 6) := (h.2.2 c (by omega)).2.1.trans hs0
  show wp _ 1 300 _ 0 [some (.ref (a + c))] [] _ _
  have hN0 := h
  have hS0 : Sh M M (a + (c + 1)) := Sh.rf (by rw [show mN _ = _ from h.1]; exact Nat.le_refl _)
  refine r_aload_n (pc := 0) dX6_init_0 rfl ?_
  refine r_objInit (pc := 1) 3 dX6_init_1 (mo_RX6_3 rfl) oi_in oi_cd (Nat.le_of_ble_eq_true rfl) ?_
  refine r_aload_n (pc := 4) dX6_init_4 rfl ?_
  refine r_sipush (pc := 5) (v := 300) dX6_init_5 (by decide) ?_
  refine r_newI (kc := 0) (ks := 0) (pc := 8) (N := 300) dX6_init_8 (by decide) (by decide) (by decide) ?_
  refine wp_S (st2 := [.ref (a + (c + 1)), .ref (a + c)]) (by rw [show mN _ = _ from hN0.1]) ?_
  have hN1 : Nw a M0 _ (c + 2) _ _ _ := hN0.al (1, 300)
  have hS1 := hS0.al (1, 300)
  refine r_putF (pc := 10) 6 0 9 dX6_init_10 (fl_RX6_9 rfl) (by decide) rfl rfl rfl rfl (hS1.ob (b := a + c) (by omega) hs) ?_
  have hN2 := hN1.p1 (j := c) (by omega) 0 (c + 1)
  have hS2 := hS1.wp (a := a + c) (k := 0) (v := some (a + (c + 1)))
  refine r_aload_n (pc := 13) dX6_init_13 rfl ?_
  refine r_iconst (pc := 14) (v := 0) dX6_init_14 (by decide) ?_
  refine r_putI (pc := 15) (v := (0)) 6 1 15 dX6_init_15 (fl_RX6_15 rfl) (by decide) rfl rfl (hS2.ob (b := a + c) (by omega) hs) ?_
  have hN3 := hN2.pi (j := c) (by omega) 1 (0)
  have hS3 := hS2.wi (a := a + c) (k := 1) (v := (0))
  refine r_aload_n (pc := 18) dX6_init_18 rfl ?_
  refine r_iconst (pc := 19) (v := 0) dX6_init_19 (by decide) ?_
  refine r_putI (pc := 20) (v := (0)) 6 2 19 dX6_init_20 (fl_RX6_19 rfl) (by decide) rfl rfl (hS3.ob (b := a + c) (by omega) hs) ?_
  have hN4 := hN3.pi (j := c) (by omega) 2 (0)
  have hS4 := hS3.wi (a := a + c) (k := 2) (v := (0))
  refine r_aload_n (pc := 23) dX6_init_23 rfl ?_
  refine r_iconst (pc := 24) (v := -1) dX6_init_24 (by decide) ?_
  refine r_putI (pc := 25) (v := (-1)) 6 3 22 dX6_init_25 (fl_RX6_22 rfl) (by decide) rfl rfl (hS4.ob (b := a + c) (by omega) hs) ?_
  have hN5 := hN4.pi (j := c) (by omega) 3 (-1)
  have hS5 := hS4.wi (a := a + c) (k := 3) (v := (-1))
  refine r_ret_v (pc := 28) dX6_init_28 rfl ?_
  exact ⟨rfl, hN5, hS5⟩

def nP0 (c : Nat) (P : Nat → Nat → Option Nat) : Nat → Nat → Option Nat := (up2 (va_up (up2 (va_up P (c + 1) (fun _ => none)) c 0 (some (c + 1))) (c + 2) (fun _ => none)) c 1 (some (c + 2)))
def nS0 (c : Nat) (S : Nat → Nat × Nat) : Nat → Nat × Nat := (va_up (va_up S (c + 1) (1, 12)) (c + 2) (1, 12))
def nI0 (c : Nat) (I : Nat → Nat → Int32) : Nat → Nat → Int32 := (up2 (up2 (va_up (va_up I (c + 1) (fun _ => 0)) (c + 2) (fun _ => 0)) c 2 (0)) c 3 (0))
set_option maxHeartbeats 600000 in
set_option maxRecDepth 100000 in
theorem ini_X0 {d a c : Nat} {M0 M : Mm} {P : Nat → Nat → Option Nat} {S : Nat → Nat × Nat} {I : Nat → Nat → Int32} (h : Nw a M0 M (c + 1) P S I) (hs0 : S c = (0, 0)) : Ct (d + 2) 2 24 YX0_init [.ref (a + c)] M (qU (fun M2 => Nw a M0 M2 (c + 3) (nP0 c P) (nS0 c S) (nI0 c I) ∧ Sh M M2 (a + (c + 1)))) := by
  refine Ct.of (by decide) (by simp [Value.category]) (Nat.le_of_ble_eq_true rfl) ?_
  have hs : mS M (a + c) = (0, 0) := (h.2.2 c (by omega)).2.1.trans hs0
  show wp _ 2 24 _ 0 [some (.ref (a + c))] [] _ _
  have hN0 := h
  have hS0 : Sh M M (a + (c + 1)) := Sh.rf (by rw [show mN _ = _ from h.1]; exact Nat.le_refl _)
  refine r_aload_n (pc := 0) dX0_init_0 rfl ?_
  refine r_objInit (pc := 1) 3 dX0_init_1 (mo_RX0_3 rfl) oi_in oi_cd (Nat.le_of_ble_eq_true rfl) ?_
  refine r_aload_n (pc := 4) dX0_init_4 rfl ?_
  refine r_bipush (pc := 5) (v := 12) dX0_init_5 (by decide) ?_
  refine r_newI (kc := 1) (ks := 12) (pc := 7) (N := 12) dX0_init_7 (by decide) (by decide) (by decide) ?_
  refine wp_S (st2 := [.ref (a + (c + 1)), .ref (a + c)]) (by rw [show mN _ = _ from hN0.1]) ?_
  have hN1 : Nw a M0 _ (c + 2) _ _ _ := hN0.al (1, 12)
  have hS1 := hS0.al (1, 12)
  refine r_putF (pc := 9) 0 0 9 dX0_init_9 (fl_RX0_9 rfl) (by decide) rfl rfl rfl rfl (hS1.ob (b := a + c) (by omega) hs) ?_
  have hN2 := hN1.p1 (j := c) (by omega) 0 (c + 1)
  have hS2 := hS1.wp (a := a + c) (k := 0) (v := some (a + (c + 1)))
  refine r_aload_n (pc := 12) dX0_init_12 rfl ?_
  refine r_bipush (pc := 13) (v := 12) dX0_init_13 (by decide) ?_
  refine r_newI (kc := 0) (ks := 0) (pc := 15) (N := 12) dX0_init_15 (by decide) (by decide) (by decide) ?_
  refine wp_S (st2 := [.ref (a + (c + 2)), .ref (a + c)]) (by rw [show mN _ = _ from hN2.1]) ?_
  have hN3 : Nw a M0 _ (c + 3) _ _ _ := hN2.al (1, 12)
  have hS3 := hS2.al (1, 12)
  refine r_putF (pc := 17) 0 1 15 dX0_init_17 (fl_RX0_15 rfl) (by decide) rfl rfl rfl rfl (hS3.ob (b := a + c) (by omega) hs) ?_
  have hN4 := hN3.p1 (j := c) (by omega) 1 (c + 2)
  have hS4 := hS3.wp (a := a + c) (k := 1) (v := some (a + (c + 2)))
  refine r_aload_n (pc := 20) dX0_init_20 rfl ?_
  refine r_iconst (pc := 21) (v := 0) dX0_init_21 (by decide) ?_
  refine r_putI (pc := 22) (v := (0)) 0 2 18 dX0_init_22 (fl_RX0_18 rfl) (by decide) rfl rfl (hS4.ob (b := a + c) (by omega) hs) ?_
  have hN5 := hN4.pi (j := c) (by omega) 2 (0)
  have hS5 := hS4.wi (a := a + c) (k := 2) (v := (0))
  refine r_aload_n (pc := 25) dX0_init_25 rfl ?_
  refine r_iconst (pc := 26) (v := 0) dX0_init_26 (by decide) ?_
  refine r_putI (pc := 27) (v := (0)) 0 3 22 dX0_init_27 (fl_RX0_22 rfl) (by decide) rfl rfl (hS5.ob (b := a + c) (by omega) hs) ?_
  have hN6 := hN5.pi (j := c) (by omega) 3 (0)
  have hS6 := hS5.wi (a := a + c) (k := 3) (v := (0))
  refine r_ret_v (pc := 30) dX0_init_30 rfl ?_
  exact ⟨rfl, hN6, hS6⟩

def nP1 (c : Nat) (P : Nat → Nat → Option Nat) : Nat → Nat → Option Nat := (up2 (va_up (up2 (va_up (up2 (va_up (up2 (va_up (up2 (va_up (up2 (va_up P (c + 1) (fun _ => none)) c 0 (some (c + 1))) (c + 2) (fun _ => none)) c 1 (some (c + 2))) (c + 3) (fun _ => none)) c 2 (some (c + 3))) (c + 4) (fun _ => none)) c 3 (some (c + 4))) (c + 5) (fun _ => none)) c 4 (some (c + 5))) (c + 6) (fun _ => none)) c 5 (some (c + 6)))
def nS1 (c : Nat) (S : Nat → Nat × Nat) : Nat → Nat × Nat := (va_up (va_up (va_up (va_up (va_up (va_up S (c + 1) (1, 42)) (c + 2) (1, 42)) (c + 3) (1, 42)) (c + 4) (1, 42)) (c + 5) (1, 42)) (c + 6) (1, 42))
def nI1 (c : Nat) (I : Nat → Nat → Int32) : Nat → Nat → Int32 := (va_up (va_up (va_up (va_up (va_up (va_up I (c + 1) (fun _ => 0)) (c + 2) (fun _ => 0)) (c + 3) (fun _ => 0)) (c + 4) (fun _ => 0)) (c + 5) (fun _ => 0)) (c + 6) (fun _ => 0))
set_option maxHeartbeats 600000 in
set_option maxRecDepth 100000 in
theorem ini_X1 {d a c : Nat} {M0 M : Mm} {P : Nat → Nat → Option Nat} {S : Nat → Nat × Nat} {I : Nat → Nat → Int32} (h : Nw a M0 M (c + 1) P S I) (hs0 : S c = (0, 1)) : Ct (d + 2) 6 252 YX1_init [.ref (a + c)] M (qU (fun M2 => Nw a M0 M2 (c + 7) (nP1 c P) (nS1 c S) (nI1 c I) ∧ Sh M M2 (a + (c + 1)))) := by
  refine Ct.of (by decide) (by simp [Value.category]) (Nat.le_of_ble_eq_true rfl) ?_
  have hs : mS M (a + c) = (0, 1) := (h.2.2 c (by omega)).2.1.trans hs0
  show wp _ 6 252 _ 0 [some (.ref (a + c))] [] _ _
  have hN0 := h
  have hS0 : Sh M M (a + (c + 1)) := Sh.rf (by rw [show mN _ = _ from h.1]; exact Nat.le_refl _)
  refine r_aload_n (pc := 0) dX1_init_0 rfl ?_
  refine r_objInit (pc := 1) 3 dX1_init_1 (mo_RX1_3 rfl) oi_in oi_cd (Nat.le_of_ble_eq_true rfl) ?_
  refine r_aload_n (pc := 4) dX1_init_4 rfl ?_
  refine r_bipush (pc := 5) (v := 42) dX1_init_5 (by decide) ?_
  refine r_newI (kc := 5) (ks := 210) (pc := 7) (N := 42) dX1_init_7 (by decide) (by decide) (by decide) ?_
  refine wp_S (st2 := [.ref (a + (c + 1)), .ref (a + c)]) (by rw [show mN _ = _ from hN0.1]) ?_
  have hN1 : Nw a M0 _ (c + 2) _ _ _ := hN0.al (1, 42)
  have hS1 := hS0.al (1, 42)
  refine r_putF (pc := 9) 1 0 9 dX1_init_9 (fl_RX1_9 rfl) (by decide) rfl rfl rfl rfl (hS1.ob (b := a + c) (by omega) hs) ?_
  have hN2 := hN1.p1 (j := c) (by omega) 0 (c + 1)
  have hS2 := hS1.wp (a := a + c) (k := 0) (v := some (a + (c + 1)))
  refine r_aload_n (pc := 12) dX1_init_12 rfl ?_
  refine r_bipush (pc := 13) (v := 42) dX1_init_13 (by decide) ?_
  refine r_newI (kc := 4) (ks := 168) (pc := 15) (N := 42) dX1_init_15 (by decide) (by decide) (by decide) ?_
  refine wp_S (st2 := [.ref (a + (c + 2)), .ref (a + c)]) (by rw [show mN _ = _ from hN2.1]) ?_
  have hN3 : Nw a M0 _ (c + 3) _ _ _ := hN2.al (1, 42)
  have hS3 := hS2.al (1, 42)
  refine r_putF (pc := 17) 1 1 15 dX1_init_17 (fl_RX1_15 rfl) (by decide) rfl rfl rfl rfl (hS3.ob (b := a + c) (by omega) hs) ?_
  have hN4 := hN3.p1 (j := c) (by omega) 1 (c + 2)
  have hS4 := hS3.wp (a := a + c) (k := 1) (v := some (a + (c + 2)))
  refine r_aload_n (pc := 20) dX1_init_20 rfl ?_
  refine r_bipush (pc := 21) (v := 42) dX1_init_21 (by decide) ?_
  refine r_newI (kc := 3) (ks := 126) (pc := 23) (N := 42) dX1_init_23 (by decide) (by decide) (by decide) ?_
  refine wp_S (st2 := [.ref (a + (c + 3)), .ref (a + c)]) (by rw [show mN _ = _ from hN4.1]) ?_
  have hN5 : Nw a M0 _ (c + 4) _ _ _ := hN4.al (1, 42)
  have hS5 := hS4.al (1, 42)
  refine r_putF (pc := 25) 1 2 18 dX1_init_25 (fl_RX1_18 rfl) (by decide) rfl rfl rfl rfl (hS5.ob (b := a + c) (by omega) hs) ?_
  have hN6 := hN5.p1 (j := c) (by omega) 2 (c + 3)
  have hS6 := hS5.wp (a := a + c) (k := 2) (v := some (a + (c + 3)))
  refine r_aload_n (pc := 28) dX1_init_28 rfl ?_
  refine r_bipush (pc := 29) (v := 42) dX1_init_29 (by decide) ?_
  refine r_newI (kc := 2) (ks := 84) (pc := 31) (N := 42) dX1_init_31 (by decide) (by decide) (by decide) ?_
  refine wp_S (st2 := [.ref (a + (c + 4)), .ref (a + c)]) (by rw [show mN _ = _ from hN6.1]) ?_
  have hN7 : Nw a M0 _ (c + 5) _ _ _ := hN6.al (1, 42)
  have hS7 := hS6.al (1, 42)
  refine r_putF (pc := 33) 1 3 21 dX1_init_33 (fl_RX1_21 rfl) (by decide) rfl rfl rfl rfl (hS7.ob (b := a + c) (by omega) hs) ?_
  have hN8 := hN7.p1 (j := c) (by omega) 3 (c + 4)
  have hS8 := hS7.wp (a := a + c) (k := 3) (v := some (a + (c + 4)))
  refine r_aload_n (pc := 36) dX1_init_36 rfl ?_
  refine r_bipush (pc := 37) (v := 42) dX1_init_37 (by decide) ?_
  refine r_newI (kc := 1) (ks := 42) (pc := 39) (N := 42) dX1_init_39 (by decide) (by decide) (by decide) ?_
  refine wp_S (st2 := [.ref (a + (c + 5)), .ref (a + c)]) (by rw [show mN _ = _ from hN8.1]) ?_
  have hN9 : Nw a M0 _ (c + 6) _ _ _ := hN8.al (1, 42)
  have hS9 := hS8.al (1, 42)
  refine r_putF (pc := 41) 1 4 24 dX1_init_41 (fl_RX1_24 rfl) (by decide) rfl rfl rfl rfl (hS9.ob (b := a + c) (by omega) hs) ?_
  have hN10 := hN9.p1 (j := c) (by omega) 4 (c + 5)
  have hS10 := hS9.wp (a := a + c) (k := 4) (v := some (a + (c + 5)))
  refine r_aload_n (pc := 44) dX1_init_44 rfl ?_
  refine r_bipush (pc := 45) (v := 42) dX1_init_45 (by decide) ?_
  refine r_newI (kc := 0) (ks := 0) (pc := 47) (N := 42) dX1_init_47 (by decide) (by decide) (by decide) ?_
  refine wp_S (st2 := [.ref (a + (c + 6)), .ref (a + c)]) (by rw [show mN _ = _ from hN10.1]) ?_
  have hN11 : Nw a M0 _ (c + 7) _ _ _ := hN10.al (1, 42)
  have hS11 := hS10.al (1, 42)
  refine r_putF (pc := 49) 1 5 27 dX1_init_49 (fl_RX1_27 rfl) (by decide) rfl rfl rfl rfl (hS11.ob (b := a + c) (by omega) hs) ?_
  have hN12 := hN11.p1 (j := c) (by omega) 5 (c + 6)
  have hS12 := hS11.wp (a := a + c) (k := 5) (v := some (a + (c + 6)))
  refine r_ret_v (pc := 52) dX1_init_52 rfl ?_
  exact ⟨rfl, hN12, hS12⟩

def nP2 (c : Nat) (P : Nat → Nat → Option Nat) : Nat → Nat → Option Nat := (up2 (va_up P (c + 1) (fun _ => none)) c 0 (some (c + 1)))
def nS2 (c : Nat) (S : Nat → Nat × Nat) : Nat → Nat × Nat := (va_up S (c + 1) (1, 8))
def nI2 (c : Nat) (I : Nat → Nat → Int32) : Nat → Nat → Int32 := (va_up I (c + 1) (fun _ => 0))
set_option maxHeartbeats 600000 in
set_option maxRecDepth 100000 in
theorem ini_X2 {d a c : Nat} {M0 M : Mm} {P : Nat → Nat → Option Nat} {S : Nat → Nat × Nat} {I : Nat → Nat → Int32} (h : Nw a M0 M (c + 1) P S I) (hs0 : S c = (0, 2)) : Ct (d + 2) 1 8 YX2_init [.ref (a + c)] M (qU (fun M2 => Nw a M0 M2 (c + 2) (nP2 c P) (nS2 c S) (nI2 c I) ∧ Sh M M2 (a + (c + 1)))) := by
  refine Ct.of (by decide) (by simp [Value.category]) (Nat.le_of_ble_eq_true rfl) ?_
  have hs : mS M (a + c) = (0, 2) := (h.2.2 c (by omega)).2.1.trans hs0
  show wp _ 1 8 _ 0 [some (.ref (a + c))] [] _ _
  have hN0 := h
  have hS0 : Sh M M (a + (c + 1)) := Sh.rf (by rw [show mN _ = _ from h.1]; exact Nat.le_refl _)
  refine r_aload_n (pc := 0) dX2_init_0 rfl ?_
  refine r_objInit (pc := 1) 3 dX2_init_1 (mo_RX2_3 rfl) oi_in oi_cd (Nat.le_of_ble_eq_true rfl) ?_
  refine r_aload_n (pc := 4) dX2_init_4 rfl ?_
  refine r_bipush (pc := 5) (v := 8) dX2_init_5 (by decide) ?_
  refine r_newI (kc := 0) (ks := 0) (pc := 7) (N := 8) dX2_init_7 (by decide) (by decide) (by decide) ?_
  refine wp_S (st2 := [.ref (a + (c + 1)), .ref (a + c)]) (by rw [show mN _ = _ from hN0.1]) ?_
  have hN1 : Nw a M0 _ (c + 2) _ _ _ := hN0.al (1, 8)
  have hS1 := hS0.al (1, 8)
  refine r_putF (pc := 9) 2 0 9 dX2_init_9 (fl_RX2_9 rfl) (by decide) rfl rfl rfl rfl (hS1.ob (b := a + c) (by omega) hs) ?_
  have hN2 := hN1.p1 (j := c) (by omega) 0 (c + 1)
  have hS2 := hS1.wp (a := a + c) (k := 0) (v := some (a + (c + 1)))
  refine r_ret_v (pc := 12) dX2_init_12 rfl ?_
  exact ⟨rfl, hN2, hS2⟩

def nP3 (c : Nat) (P : Nat → Nat → Option Nat) : Nat → Nat → Option Nat := (up2 (up2 (va_up P (c + 1) (fun _ => none)) c 0 (some (c + 1))) c 2 none)
def nS3 (c : Nat) (S : Nat → Nat × Nat) : Nat → Nat × Nat := (va_up S (c + 1) (1, 4100))
def nI3 (c : Nat) (I : Nat → Nat → Int32) : Nat → Nat → Int32 := (up2 (up2 (va_up I (c + 1) (fun _ => 0)) c 1 (0)) c 3 (-1))
set_option maxHeartbeats 600000 in
set_option maxRecDepth 100000 in
theorem ini_X3 {d a c : Nat} {M0 M : Mm} {P : Nat → Nat → Option Nat} {S : Nat → Nat × Nat} {I : Nat → Nat → Int32} (h : Nw a M0 M (c + 1) P S I) (hs0 : S c = (0, 3)) : Ct (d + 2) 1 4100 YX3_init [.ref (a + c)] M (qU (fun M2 => Nw a M0 M2 (c + 2) (nP3 c P) (nS3 c S) (nI3 c I) ∧ Sh M M2 (a + (c + 1)))) := by
  refine Ct.of (by decide) (by simp [Value.category]) (Nat.le_of_ble_eq_true rfl) ?_
  have hs : mS M (a + c) = (0, 3) := (h.2.2 c (by omega)).2.1.trans hs0
  show wp _ 1 4100 _ 0 [some (.ref (a + c))] [] _ _
  have hN0 := h
  have hS0 : Sh M M (a + (c + 1)) := Sh.rf (by rw [show mN _ = _ from h.1]; exact Nat.le_refl _)
  refine r_aload_n (pc := 0) dX3_init_0 rfl ?_
  refine r_objInit (pc := 1) 3 dX3_init_1 (mo_RX3_3 rfl) oi_in oi_cd (Nat.le_of_ble_eq_true rfl) ?_
  refine r_aload_n (pc := 4) dX3_init_4 rfl ?_
  refine r_sipush (pc := 5) (v := 4100) dX3_init_5 (by decide) ?_
  refine r_newI (kc := 0) (ks := 0) (pc := 8) (N := 4100) dX3_init_8 (by decide) (by decide) (by decide) ?_
  refine wp_S (st2 := [.ref (a + (c + 1)), .ref (a + c)]) (by rw [show mN _ = _ from hN0.1]) ?_
  have hN1 : Nw a M0 _ (c + 2) _ _ _ := hN0.al (1, 4100)
  have hS1 := hS0.al (1, 4100)
  refine r_putF (pc := 10) 3 0 9 dX3_init_10 (fl_RX3_9 rfl) (by decide) rfl rfl rfl rfl (hS1.ob (b := a + c) (by omega) hs) ?_
  have hN2 := hN1.p1 (j := c) (by omega) 0 (c + 1)
  have hS2 := hS1.wp (a := a + c) (k := 0) (v := some (a + (c + 1)))
  refine r_aload_n (pc := 13) dX3_init_13 rfl ?_
  refine r_iconst (pc := 14) (v := 0) dX3_init_14 (by decide) ?_
  refine r_putI (pc := 15) (v := (0)) 3 1 15 dX3_init_15 (fl_RX3_15 rfl) (by decide) rfl rfl (hS2.ob (b := a + c) (by omega) hs) ?_
  have hN3 := hN2.pi (j := c) (by omega) 1 (0)
  have hS3 := hS2.wi (a := a + c) (k := 1) (v := (0))
  refine r_aload_n (pc := 18) dX3_init_18 rfl ?_
  refine r_null (pc := 19) dX3_init_19 ?_
  refine r_putR (pc := 20) (x := none) 3 2 19 dX3_init_20 (fl_RX3_19 rfl) (by decide) rfl rfl (hS3.ob (b := a + c) (by omega) hs) ?_
  have hN4 := hN3.p0 (j := c) (by omega) 2
  have hS4 := hS3.wp (a := a + c) (k := 2) (v := none)
  refine r_aload_n (pc := 23) dX3_init_23 rfl ?_
  refine r_iconst (pc := 24) (v := -1) dX3_init_24 (by decide) ?_
  refine r_putI (pc := 25) (v := (-1)) 3 3 23 dX3_init_25 (fl_RX3_23 rfl) (by decide) rfl rfl (hS4.ob (b := a + c) (by omega) hs) ?_
  have hN5 := hN4.pi (j := c) (by omega) 3 (-1)
  have hS5 := hS4.wi (a := a + c) (k := 3) (v := (-1))
  refine r_ret_v (pc := 28) dX3_init_28 rfl ?_
  exact ⟨rfl, hN5, hS5⟩

def nP4 (c : Nat) (P : Nat → Nat → Option Nat) : Nat → Nat → Option Nat := (up2 (roP (up2 (va_up P (c + 1) (fun _ => none)) c 0 (some (c + 1))) (c + 2) 128) c 1 (some (c + 2)))
def nS4 (c : Nat) (S : Nat → Nat × Nat) : Nat → Nat × Nat := (roS (va_up S (c + 1) (1, 8)) (c + 2) 128 8)
def nI4 (c : Nat) (I : Nat → Nat → Int32) : Nat → Nat → Int32 := (roI (va_up I (c + 1) (fun _ => 0)) (c + 2))
set_option maxHeartbeats 600000 in
set_option maxRecDepth 100000 in
theorem ini_X4 {d a c : Nat} {M0 M : Mm} {P : Nat → Nat → Option Nat} {S : Nat → Nat × Nat} {I : Nat → Nat → Int32} (h : Nw a M0 M (c + 1) P S I) (hs0 : S c = (0, 4)) : Ct (d + 2) 130 1160 YX4_init [.ref (a + c)] M (qU (fun M2 => Nw a M0 M2 (c + 131) (nP4 c P) (nS4 c S) (nI4 c I) ∧ Sh M M2 (a + (c + 1)))) := by
  refine Ct.of (by decide) (by simp [Value.category]) (Nat.le_of_ble_eq_true rfl) ?_
  have hs : mS M (a + c) = (0, 4) := (h.2.2 c (by omega)).2.1.trans hs0
  show wp _ 130 1160 _ 0 [some (.ref (a + c))] [] _ _
  have hN0 := h
  have hS0 : Sh M M (a + (c + 1)) := Sh.rf (by rw [show mN _ = _ from h.1]; exact Nat.le_refl _)
  refine r_aload_n (pc := 0) dX4_init_0 rfl ?_
  refine r_objInit (pc := 1) 3 dX4_init_1 (mo_RX4_3 rfl) oi_in oi_cd (Nat.le_of_ble_eq_true rfl) ?_
  refine r_aload_n (pc := 4) dX4_init_4 rfl ?_
  refine r_bipush (pc := 5) (v := 8) dX4_init_5 (by decide) ?_
  refine r_newI (kc := 129) (ks := 1152) (pc := 7) (N := 8) dX4_init_7 (by decide) (by decide) (by decide) ?_
  refine wp_S (st2 := [.ref (a + (c + 1)), .ref (a + c)]) (by rw [show mN _ = _ from hN0.1]) ?_
  have hN1 : Nw a M0 _ (c + 2) _ _ _ := hN0.al (1, 8)
  have hS1 := hS0.al (1, 8)
  refine r_putF (pc := 9) 4 0 9 dX4_init_9 (fl_RX4_9 rfl) (by decide) rfl rfl rfl rfl (hS1.ob (b := a + c) (by omega) hs) ?_
  have hN2 := hN1.p1 (j := c) (by omega) 0 (c + 1)
  have hS2 := hS1.wp (a := a + c) (k := 0) (v := some (a + (c + 1)))
  refine r_aload_n (pc := 12) dX4_init_12 rfl ?_
  refine r_sipush (pc := 13) (v := 128) dX4_init_13 (by decide) ?_
  refine r_bipush (pc := 16) (v := 8) dX4_init_16 (by decide) ?_
  refine r_mna (kc := 0) (ks := 0) (pc := 18) (N := 128) (K := 8) 15 dX4_init_18 (cl_RX4_15 rfl) (by decide) (by decide) (by decide) (by decide) (by decide) (by decide) ?_
  refine wp_S (st2 := [.ref (a + (c + 2)), .ref (a + c)]) (by rw [show mN _ = _ from hN2.1]) ?_
  have hN3 : Nw a M0 _ (c + 131) _ _ _ := hN2.ro 128 8
  have hS3 := hS2.ro 128 8
  refine r_putF (pc := 22) 4 1 17 dX4_init_22 (fl_RX4_17 rfl) (by decide) rfl rfl rfl rfl (hS3.ob (b := a + c) (by omega) hs) ?_
  have hN4 := hN3.p1 (j := c) (by omega) 1 (c + 2)
  have hS4 := hS3.wp (a := a + c) (k := 1) (v := some (a + (c + 2)))
  refine r_ret_v (pc := 25) dX4_init_25 rfl ?_
  exact ⟨rfl, hN4, hS4⟩

def nP8 (c : Nat) (P : Nat → Nat → Option Nat) : Nat → Nat → Option Nat := (up2 (va_up (up2 (va_up (up2 (va_up (up2 (nP7 (c + 14) (va_up (up2 (roP (up2 (va_up (up2 (va_up (up2 (va_up (up2 (va_up P (c + 1) (fun _ => none)) c 2 (some (c + 1))) (c + 2) (fun _ => none)) c 3 (some (c + 2))) (c + 3) (fun _ => none)) c 4 (some (c + 3))) (c + 4) (fun _ => none)) c 5 (some (c + 4))) (c + 5) 8) c 6 (some (c + 5))) (c + 14) (fun _ => none))) c 7 (some (c + 14))) (c + 15) (fun _ => none)) c 8 (some (c + 15))) (c + 16) (fun _ => none)) c 9 (some (c + 16))) (c + 17) (fun _ => none)) c 10 (some (c + 17)))
def nS8 (c : Nat) (S : Nat → Nat × Nat) : Nat → Nat × Nat := (va_up (va_up (va_up (nS7 (c + 14) (va_up (roS (va_up (va_up (va_up (va_up S (c + 1) (1, 8)) (c + 2) (1, 8)) (c + 3) (1, 8)) (c + 4) (1, 8)) (c + 5) 8 42) (c + 14) (0, 7))) (c + 15) (1, 8)) (c + 16) (1, 8)) (c + 17) (1, 128))
def nI8 (c : Nat) (I : Nat → Nat → Int32) : Nat → Nat → Int32 := (up2 (up2 (va_up (va_up (va_up (nI7 (c + 14) (va_up (roI (va_up (va_up (va_up (va_up (up2 (up2 I c 0 (0)) c 1 (0)) (c + 1) (fun _ => 0)) (c + 2) (fun _ => 0)) (c + 3) (fun _ => 0)) (c + 4) (fun _ => 0)) (c + 5)) (c + 14) (fun _ => 0))) (c + 15) (fun _ => 0)) (c + 16) (fun _ => 0)) (c + 17) (fun _ => 0)) c 11 (0)) c 12 (0))
set_option maxHeartbeats 600000 in
set_option maxRecDepth 100000 in
theorem ini_X8 {d a c : Nat} {M0 M : Mm} {P : Nat → Nat → Option Nat} {S : Nat → Nat × Nat} {I : Nat → Nat → Int32} (h : Nw a M0 M (c + 1) P S I) (hs0 : S c = (0, 8)) : Ct (d + 3) 17 526 YX8_init [.ref (a + c)] M (qU (fun M2 => Nw a M0 M2 (c + 18) (nP8 c P) (nS8 c S) (nI8 c I) ∧ Sh M M2 (a + (c + 1)))) := by
  refine Ct.of (by decide) (by simp [Value.category]) (Nat.le_of_ble_eq_true rfl) ?_
  have hs : mS M (a + c) = (0, 8) := (h.2.2 c (by omega)).2.1.trans hs0
  show wp _ 17 526 _ 0 [some (.ref (a + c))] [] _ _
  have hN0 := h
  have hS0 : Sh M M (a + (c + 1)) := Sh.rf (by rw [show mN _ = _ from h.1]; exact Nat.le_refl _)
  refine r_aload_n (pc := 0) dX8_init_0 rfl ?_
  refine r_objInit (pc := 1) 3 dX8_init_1 (mo_RX8_3 rfl) oi_in oi_cd (Nat.le_of_ble_eq_true rfl) ?_
  refine r_aload_n (pc := 4) dX8_init_4 rfl ?_
  refine r_iconst (pc := 5) (v := 0) dX8_init_5 (by decide) ?_
  refine r_putI (pc := 6) (v := (0)) 8 0 9 dX8_init_6 (fl_RX8_9 rfl) (by decide) rfl rfl (hS0.ob (b := a + c) (by omega) hs) ?_
  have hN1 := hN0.pi (j := c) (by omega) 0 (0)
  have hS1 := hS0.wi (a := a + c) (k := 0) (v := (0))
  refine r_aload_n (pc := 9) dX8_init_9 rfl ?_
  refine r_iconst (pc := 10) (v := 0) dX8_init_10 (by decide) ?_
  refine r_putI (pc := 11) (v := (0)) 8 1 15 dX8_init_11 (fl_RX8_15 rfl) (by decide) rfl rfl (hS1.ob (b := a + c) (by omega) hs) ?_
  have hN2 := hN1.pi (j := c) (by omega) 1 (0)
  have hS2 := hS1.wi (a := a + c) (k := 1) (v := (0))
  refine r_aload_n (pc := 14) dX8_init_14 rfl ?_
  refine r_bipush (pc := 15) (v := 8) dX8_init_15 (by decide) ?_
  refine r_newI (kc := 16) (ks := 518) (pc := 17) (N := 8) dX8_init_17 (by decide) (by decide) (by decide) ?_
  refine wp_S (st2 := [.ref (a + (c + 1)), .ref (a + c)]) (by rw [show mN _ = _ from hN2.1]) ?_
  have hN3 : Nw a M0 _ (c + 2) _ _ _ := hN2.al (1, 8)
  have hS3 := hS2.al (1, 8)
  refine r_putF (pc := 19) 8 2 18 dX8_init_19 (fl_RX8_18 rfl) (by decide) rfl rfl rfl rfl (hS3.ob (b := a + c) (by omega) hs) ?_
  have hN4 := hN3.p1 (j := c) (by omega) 2 (c + 1)
  have hS4 := hS3.wp (a := a + c) (k := 2) (v := some (a + (c + 1)))
  refine r_aload_n (pc := 22) dX8_init_22 rfl ?_
  refine r_bipush (pc := 23) (v := 8) dX8_init_23 (by decide) ?_
  refine r_newI (kc := 15) (ks := 510) (pc := 25) (N := 8) dX8_init_25 (by decide) (by decide) (by decide) ?_
  refine wp_S (st2 := [.ref (a + (c + 2)), .ref (a + c)]) (by rw [show mN _ = _ from hN4.1]) ?_
  have hN5 : Nw a M0 _ (c + 3) _ _ _ := hN4.al (1, 8)
  have hS5 := hS4.al (1, 8)
  refine r_putF (pc := 27) 8 3 22 dX8_init_27 (fl_RX8_22 rfl) (by decide) rfl rfl rfl rfl (hS5.ob (b := a + c) (by omega) hs) ?_
  have hN6 := hN5.p1 (j := c) (by omega) 3 (c + 2)
  have hS6 := hS5.wp (a := a + c) (k := 3) (v := some (a + (c + 2)))
  refine r_aload_n (pc := 30) dX8_init_30 rfl ?_
  refine r_bipush (pc := 31) (v := 8) dX8_init_31 (by decide) ?_
  refine r_newI (kc := 14) (ks := 502) (pc := 33) (N := 8) dX8_init_33 (by decide) (by decide) (by decide) ?_
  refine wp_S (st2 := [.ref (a + (c + 3)), .ref (a + c)]) (by rw [show mN _ = _ from hN6.1]) ?_
  have hN7 : Nw a M0 _ (c + 4) _ _ _ := hN6.al (1, 8)
  have hS7 := hS6.al (1, 8)
  refine r_putF (pc := 35) 8 4 25 dX8_init_35 (fl_RX8_25 rfl) (by decide) rfl rfl rfl rfl (hS7.ob (b := a + c) (by omega) hs) ?_
  have hN8 := hN7.p1 (j := c) (by omega) 4 (c + 3)
  have hS8 := hS7.wp (a := a + c) (k := 4) (v := some (a + (c + 3)))
  refine r_aload_n (pc := 38) dX8_init_38 rfl ?_
  refine r_bipush (pc := 39) (v := 8) dX8_init_39 (by decide) ?_
  refine r_newI (kc := 13) (ks := 494) (pc := 41) (N := 8) dX8_init_41 (by decide) (by decide) (by decide) ?_
  refine wp_S (st2 := [.ref (a + (c + 4)), .ref (a + c)]) (by rw [show mN _ = _ from hN8.1]) ?_
  have hN9 : Nw a M0 _ (c + 5) _ _ _ := hN8.al (1, 8)
  have hS9 := hS8.al (1, 8)
  refine r_putF (pc := 43) 8 5 28 dX8_init_43 (fl_RX8_28 rfl) (by decide) rfl rfl rfl rfl (hS9.ob (b := a + c) (by omega) hs) ?_
  have hN10 := hN9.p1 (j := c) (by omega) 5 (c + 4)
  have hS10 := hS9.wp (a := a + c) (k := 5) (v := some (a + (c + 4)))
  refine r_aload_n (pc := 46) dX8_init_46 rfl ?_
  refine r_bipush (pc := 47) (v := 8) dX8_init_47 (by decide) ?_
  refine r_bipush (pc := 49) (v := 42) dX8_init_49 (by decide) ?_
  refine r_mna (kc := 4) (ks := 150) (pc := 51) (N := 8) (K := 42) 31 dX8_init_51 (cl_RX8_31 rfl) (by decide) (by decide) (by decide) (by decide) (by decide) (by decide) ?_
  refine wp_S (st2 := [.ref (a + (c + 5)), .ref (a + c)]) (by rw [show mN _ = _ from hN10.1]) ?_
  have hN11 : Nw a M0 _ (c + 14) _ _ _ := hN10.ro 8 42
  have hS11 := hS10.ro 8 42
  refine r_putF (pc := 55) 8 6 33 dX8_init_55 (fl_RX8_33 rfl) (by decide) rfl rfl rfl rfl (hS11.ob (b := a + c) (by omega) hs) ?_
  have hN12 := hN11.p1 (j := c) (by omega) 6 (c + 5)
  have hS12 := hS11.wp (a := a + c) (k := 6) (v := some (a + (c + 5)))
  refine r_aload_n (pc := 58) dX8_init_58 rfl ?_
  refine r_new (kc := 3) (ks := 144) (pc := 59) 7 36 dX8_init_59 (by decide) (cl_RX8_36 rfl) it_X7 in_X7 ?_
  refine wp_S (st2 := [.ref (a + (c + 14)), .ref (a + c)]) (by rw [show mN _ = _ from hN12.1]) ?_
  have hN13 : Nw a M0 _ (c + 15) _ _ _ := hN12.al (0, 7)
  have hS13 := hS12.al (0, 7)
  refine r_dup (pc := 62) dX8_init_62 rfl ?_
  refine r_callIN (d := d + 2) (kc1 := 0) (ks1 := 0) (kc := 3) (ks := 144) (pc := 63) (b := a + (c + 14)) (As := []) 38 dX8_init_63 lk_X7_init (nl_RX8_38 rfl) im_X7_init rfl rfl (by rw [show mN _ = _ from hN13.1]; omega) (Nat.le_of_ble_eq_true rfl) rfl (ini_X7 (d := d + 0) (c := c + 14) hN13 up_at) (fun r M63 hr63 _ => ?_)
  obtain ⟨rfl, hN14, hSx14⟩ := hr63
  have hS14 := hS13.tr hSx14 (by omega)
  show wp _ _ _ _ _ _ [.ref (a + (c + 14)), .ref (a + c)] _ _
  refine r_putF (pc := 66) 8 7 39 dX8_init_66 (fl_RX8_39 rfl) (by decide) rfl rfl rfl rfl (hS14.ob (b := a + c) (by omega) hs) ?_
  have hN15 := hN14.p1 (j := c) (by omega) 7 (c + 14)
  have hS15 := hS14.wp (a := a + c) (k := 7) (v := some (a + (c + 14)))
  refine r_aload_n (pc := 69) dX8_init_69 rfl ?_
  refine r_bipush (pc := 70) (v := 8) dX8_init_70 (by decide) ?_
  refine r_newI (kc := 2) (ks := 136) (pc := 72) (N := 8) dX8_init_72 (by decide) (by decide) (by decide) ?_
  refine wp_S (st2 := [.ref (a + (c + 15)), .ref (a + c)]) (by rw [show mN _ = _ from hN15.1]) ?_
  have hN16 : Nw a M0 _ (c + 16) _ _ _ := hN15.al (1, 8)
  have hS16 := hS15.al (1, 8)
  refine r_putF (pc := 74) 8 8 43 dX8_init_74 (fl_RX8_43 rfl) (by decide) rfl rfl rfl rfl (hS16.ob (b := a + c) (by omega) hs) ?_
  have hN17 := hN16.p1 (j := c) (by omega) 8 (c + 15)
  have hS17 := hS16.wp (a := a + c) (k := 8) (v := some (a + (c + 15)))
  refine r_aload_n (pc := 77) dX8_init_77 rfl ?_
  refine r_bipush (pc := 78) (v := 8) dX8_init_78 (by decide) ?_
  refine r_newI (kc := 1) (ks := 128) (pc := 80) (N := 8) dX8_init_80 (by decide) (by decide) (by decide) ?_
  refine wp_S (st2 := [.ref (a + (c + 16)), .ref (a + c)]) (by rw [show mN _ = _ from hN17.1]) ?_
  have hN18 : Nw a M0 _ (c + 17) _ _ _ := hN17.al (1, 8)
  have hS18 := hS17.al (1, 8)
  refine r_putF (pc := 82) 8 9 46 dX8_init_82 (fl_RX8_46 rfl) (by decide) rfl rfl rfl rfl (hS18.ob (b := a + c) (by omega) hs) ?_
  have hN19 := hN18.p1 (j := c) (by omega) 9 (c + 16)
  have hS19 := hS18.wp (a := a + c) (k := 9) (v := some (a + (c + 16)))
  refine r_aload_n (pc := 85) dX8_init_85 rfl ?_
  refine r_sipush (pc := 86) (v := 128) dX8_init_86 (by decide) ?_
  refine r_newI (kc := 0) (ks := 0) (pc := 89) (N := 128) dX8_init_89 (by decide) (by decide) (by decide) ?_
  refine wp_S (st2 := [.ref (a + (c + 17)), .ref (a + c)]) (by rw [show mN _ = _ from hN19.1]) ?_
  have hN20 : Nw a M0 _ (c + 18) _ _ _ := hN19.al (1, 128)
  have hS20 := hS19.al (1, 128)
  refine r_putF (pc := 91) 8 10 49 dX8_init_91 (fl_RX8_49 rfl) (by decide) rfl rfl rfl rfl (hS20.ob (b := a + c) (by omega) hs) ?_
  have hN21 := hN20.p1 (j := c) (by omega) 10 (c + 17)
  have hS21 := hS20.wp (a := a + c) (k := 10) (v := some (a + (c + 17)))
  refine r_aload_n (pc := 94) dX8_init_94 rfl ?_
  refine r_iconst (pc := 95) (v := 0) dX8_init_95 (by decide) ?_
  refine r_putI (pc := 96) (v := (0)) 8 11 52 dX8_init_96 (fl_RX8_52 rfl) (by decide) rfl rfl (hS21.ob (b := a + c) (by omega) hs) ?_
  have hN22 := hN21.pi (j := c) (by omega) 11 (0)
  have hS22 := hS21.wi (a := a + c) (k := 11) (v := (0))
  refine r_aload_n (pc := 99) dX8_init_99 rfl ?_
  refine r_iconst (pc := 100) (v := 0) dX8_init_100 (by decide) ?_
  refine r_putZ (pc := 101) (v := (0)) 8 12 55 dX8_init_101 (fl_RX8_55 rfl) (by decide) rfl rfl (hS22.ob (b := a + c) (by omega) hs) (by decide) ?_
  have hN23 := hN22.pi (j := c) (by omega) 12 (0)
  have hS23 := hS22.wi (a := a + c) (k := 12) (v := (0))
  refine r_ret_v (pc := 104) dX8_init_104 rfl ?_
  exact ⟨rfl, hN23, hS23⟩

def nP5 (c : Nat) (P : Nat → Nat → Option Nat) : Nat → Nat → Option Nat := (up2 (va_up (up2 (va_up (up2 (va_up (up2 (va_up (up2 (va_up (up2 (roP (up2 (roP (up2 (roP (up2 (roP (up2 (va_up (up2 (nP7 (c + 1) (va_up (up2 P c 0 none) (c + 1) (fun _ => none))) c 1 (some (c + 1))) (c + 2) (fun _ => none)) c 2 (some (c + 2))) (c + 3) 8) c 3 (some (c + 3))) (c + 12) 8) c 4 (some (c + 12))) (c + 21) 8) c 5 (some (c + 21))) (c + 30) 8) c 6 (some (c + 30))) (c + 39) (fun _ => none)) c 7 (some (c + 39))) (c + 40) (fun _ => none)) c 8 (some (c + 40))) (c + 41) (fun _ => none)) c 9 (some (c + 41))) (c + 42) (fun _ => none)) c 10 (some (c + 42))) (c + 43) (fun _ => none)) c 11 (some (c + 43)))
def nS5 (c : Nat) (S : Nat → Nat × Nat) : Nat → Nat × Nat := (va_up (va_up (va_up (va_up (va_up (roS (roS (roS (roS (va_up (nS7 (c + 1) (va_up S (c + 1) (0, 7))) (c + 2) (1, 8)) (c + 3) 8 42) (c + 12) 8 42) (c + 21) 8 42) (c + 30) 8 42) (c + 39) (1, 8)) (c + 40) (1, 8)) (c + 41) (1, 8)) (c + 42) (1, 8)) (c + 43) (1, 8))
def nI5 (c : Nat) (I : Nat → Nat → Int32) : Nat → Nat → Int32 := (va_up (va_up (va_up (va_up (va_up (roI (roI (roI (roI (va_up (nI7 (c + 1) (va_up I (c + 1) (fun _ => 0))) (c + 2) (fun _ => 0)) (c + 3)) (c + 12)) (c + 21)) (c + 30)) (c + 39) (fun _ => 0)) (c + 40) (fun _ => 0)) (c + 41) (fun _ => 0)) (c + 42) (fun _ => 0)) (c + 43) (fun _ => 0))
set_option maxHeartbeats 600000 in
set_option maxRecDepth 100000 in
theorem ini_X5 {d a c : Nat} {M0 M : Mm} {P : Nat → Nat → Option Nat} {S : Nat → Nat × Nat} {I : Nat → Nat → Int32} (h : Nw a M0 M (c + 1) P S I) (hs0 : S c = (0, 5)) : Ct (d + 3) 43 1430 YX5_init [.ref (a + c)] M (qU (fun M2 => Nw a M0 M2 (c + 44) (nP5 c P) (nS5 c S) (nI5 c I) ∧ Sh M M2 (a + (c + 1)))) := by
  refine Ct.of (by decide) (by simp [Value.category]) (Nat.le_of_ble_eq_true rfl) ?_
  have hs : mS M (a + c) = (0, 5) := (h.2.2 c (by omega)).2.1.trans hs0
  show wp _ 43 1430 _ 0 [some (.ref (a + c))] [] _ _
  have hN0 := h
  have hS0 : Sh M M (a + (c + 1)) := Sh.rf (by rw [show mN _ = _ from h.1]; exact Nat.le_refl _)
  refine r_aload_n (pc := 0) dX5_init_0 rfl ?_
  refine r_objInit (pc := 1) 3 dX5_init_1 (mo_RX5_3 rfl) oi_in oi_cd (Nat.le_of_ble_eq_true rfl) ?_
  refine r_aload_n (pc := 4) dX5_init_4 rfl ?_
  refine r_null (pc := 5) dX5_init_5 ?_
  refine r_putR (pc := 6) (x := none) 5 0 9 dX5_init_6 (fl_RX5_9 rfl) (by decide) rfl rfl (hS0.ob (b := a + c) (by omega) hs) ?_
  have hN1 := hN0.p0 (j := c) (by omega) 0
  have hS1 := hS0.wp (a := a + c) (k := 0) (v := none)
  refine r_aload_n (pc := 9) dX5_init_9 rfl ?_
  refine r_new (kc := 42) (ks := 1424) (pc := 10) 7 15 dX5_init_10 (by decide) (cl_RX5_15 rfl) it_X7 in_X7 ?_
  refine wp_S (st2 := [.ref (a + (c + 1)), .ref (a + c)]) (by rw [show mN _ = _ from hN1.1]) ?_
  have hN2 : Nw a M0 _ (c + 2) _ _ _ := hN1.al (0, 7)
  have hS2 := hS1.al (0, 7)
  refine r_dup (pc := 13) dX5_init_13 rfl ?_
  refine r_callIN (d := d + 2) (kc1 := 0) (ks1 := 0) (kc := 42) (ks := 1424) (pc := 14) (b := a + (c + 1)) (As := []) 17 dX5_init_14 lk_X7_init (nl_RX5_17 rfl) im_X7_init rfl rfl (by rw [show mN _ = _ from hN2.1]; omega) (Nat.le_of_ble_eq_true rfl) rfl (ini_X7 (d := d + 0) (c := c + 1) hN2 up_at) (fun r M14 hr14 _ => ?_)
  obtain ⟨rfl, hN3, hSx3⟩ := hr14
  have hS3 := hS2.tr hSx3 (by omega)
  show wp _ _ _ _ _ _ [.ref (a + (c + 1)), .ref (a + c)] _ _
  refine r_putF (pc := 17) 5 1 18 dX5_init_17 (fl_RX5_18 rfl) (by decide) rfl rfl rfl rfl (hS3.ob (b := a + c) (by omega) hs) ?_
  have hN4 := hN3.p1 (j := c) (by omega) 1 (c + 1)
  have hS4 := hS3.wp (a := a + c) (k := 1) (v := some (a + (c + 1)))
  refine r_aload_n (pc := 20) dX5_init_20 rfl ?_
  refine r_bipush (pc := 21) (v := 8) dX5_init_21 (by decide) ?_
  refine r_newI (kc := 41) (ks := 1416) (pc := 23) (N := 8) dX5_init_23 (by decide) (by decide) (by decide) ?_
  refine wp_S (st2 := [.ref (a + (c + 2)), .ref (a + c)]) (by rw [show mN _ = _ from hN4.1]) ?_
  have hN5 : Nw a M0 _ (c + 3) _ _ _ := hN4.al (1, 8)
  have hS5 := hS4.al (1, 8)
  refine r_putF (pc := 25) 5 2 22 dX5_init_25 (fl_RX5_22 rfl) (by decide) rfl rfl rfl rfl (hS5.ob (b := a + c) (by omega) hs) ?_
  have hN6 := hN5.p1 (j := c) (by omega) 2 (c + 2)
  have hS6 := hS5.wp (a := a + c) (k := 2) (v := some (a + (c + 2)))
  refine r_aload_n (pc := 28) dX5_init_28 rfl ?_
  refine r_bipush (pc := 29) (v := 8) dX5_init_29 (by decide) ?_
  refine r_bipush (pc := 31) (v := 42) dX5_init_31 (by decide) ?_
  refine r_mna (kc := 32) (ks := 1072) (pc := 33) (N := 8) (K := 42) 26 dX5_init_33 (cl_RX5_26 rfl) (by decide) (by decide) (by decide) (by decide) (by decide) (by decide) ?_
  refine wp_S (st2 := [.ref (a + (c + 3)), .ref (a + c)]) (by rw [show mN _ = _ from hN6.1]) ?_
  have hN7 : Nw a M0 _ (c + 12) _ _ _ := hN6.ro 8 42
  have hS7 := hS6.ro 8 42
  refine r_putF (pc := 37) 5 3 28 dX5_init_37 (fl_RX5_28 rfl) (by decide) rfl rfl rfl rfl (hS7.ob (b := a + c) (by omega) hs) ?_
  have hN8 := hN7.p1 (j := c) (by omega) 3 (c + 3)
  have hS8 := hS7.wp (a := a + c) (k := 3) (v := some (a + (c + 3)))
  refine r_aload_n (pc := 40) dX5_init_40 rfl ?_
  refine r_bipush (pc := 41) (v := 8) dX5_init_41 (by decide) ?_
  refine r_bipush (pc := 43) (v := 42) dX5_init_43 (by decide) ?_
  refine r_mna (kc := 23) (ks := 728) (pc := 45) (N := 8) (K := 42) 26 dX5_init_45 (cl_RX5_26 rfl) (by decide) (by decide) (by decide) (by decide) (by decide) (by decide) ?_
  refine wp_S (st2 := [.ref (a + (c + 12)), .ref (a + c)]) (by rw [show mN _ = _ from hN8.1]) ?_
  have hN9 : Nw a M0 _ (c + 21) _ _ _ := hN8.ro 8 42
  have hS9 := hS8.ro 8 42
  refine r_putF (pc := 49) 5 4 31 dX5_init_49 (fl_RX5_31 rfl) (by decide) rfl rfl rfl rfl (hS9.ob (b := a + c) (by omega) hs) ?_
  have hN10 := hN9.p1 (j := c) (by omega) 4 (c + 12)
  have hS10 := hS9.wp (a := a + c) (k := 4) (v := some (a + (c + 12)))
  refine r_aload_n (pc := 52) dX5_init_52 rfl ?_
  refine r_bipush (pc := 53) (v := 8) dX5_init_53 (by decide) ?_
  refine r_bipush (pc := 55) (v := 42) dX5_init_55 (by decide) ?_
  refine r_mna (kc := 14) (ks := 384) (pc := 57) (N := 8) (K := 42) 26 dX5_init_57 (cl_RX5_26 rfl) (by decide) (by decide) (by decide) (by decide) (by decide) (by decide) ?_
  refine wp_S (st2 := [.ref (a + (c + 21)), .ref (a + c)]) (by rw [show mN _ = _ from hN10.1]) ?_
  have hN11 : Nw a M0 _ (c + 30) _ _ _ := hN10.ro 8 42
  have hS11 := hS10.ro 8 42
  refine r_putF (pc := 61) 5 5 34 dX5_init_61 (fl_RX5_34 rfl) (by decide) rfl rfl rfl rfl (hS11.ob (b := a + c) (by omega) hs) ?_
  have hN12 := hN11.p1 (j := c) (by omega) 5 (c + 21)
  have hS12 := hS11.wp (a := a + c) (k := 5) (v := some (a + (c + 21)))
  refine r_aload_n (pc := 64) dX5_init_64 rfl ?_
  refine r_bipush (pc := 65) (v := 8) dX5_init_65 (by decide) ?_
  refine r_bipush (pc := 67) (v := 42) dX5_init_67 (by decide) ?_
  refine r_mna (kc := 5) (ks := 40) (pc := 69) (N := 8) (K := 42) 26 dX5_init_69 (cl_RX5_26 rfl) (by decide) (by decide) (by decide) (by decide) (by decide) (by decide) ?_
  refine wp_S (st2 := [.ref (a + (c + 30)), .ref (a + c)]) (by rw [show mN _ = _ from hN12.1]) ?_
  have hN13 : Nw a M0 _ (c + 39) _ _ _ := hN12.ro 8 42
  have hS13 := hS12.ro 8 42
  refine r_putF (pc := 73) 5 6 37 dX5_init_73 (fl_RX5_37 rfl) (by decide) rfl rfl rfl rfl (hS13.ob (b := a + c) (by omega) hs) ?_
  have hN14 := hN13.p1 (j := c) (by omega) 6 (c + 30)
  have hS14 := hS13.wp (a := a + c) (k := 6) (v := some (a + (c + 30)))
  refine r_aload_n (pc := 76) dX5_init_76 rfl ?_
  refine r_bipush (pc := 77) (v := 8) dX5_init_77 (by decide) ?_
  refine r_newI (kc := 4) (ks := 32) (pc := 79) (N := 8) dX5_init_79 (by decide) (by decide) (by decide) ?_
  refine wp_S (st2 := [.ref (a + (c + 39)), .ref (a + c)]) (by rw [show mN _ = _ from hN14.1]) ?_
  have hN15 : Nw a M0 _ (c + 40) _ _ _ := hN14.al (1, 8)
  have hS15 := hS14.al (1, 8)
  refine r_putF (pc := 81) 5 7 40 dX5_init_81 (fl_RX5_40 rfl) (by decide) rfl rfl rfl rfl (hS15.ob (b := a + c) (by omega) hs) ?_
  have hN16 := hN15.p1 (j := c) (by omega) 7 (c + 39)
  have hS16 := hS15.wp (a := a + c) (k := 7) (v := some (a + (c + 39)))
  refine r_aload_n (pc := 84) dX5_init_84 rfl ?_
  refine r_bipush (pc := 85) (v := 8) dX5_init_85 (by decide) ?_
  refine r_newI (kc := 3) (ks := 24) (pc := 87) (N := 8) dX5_init_87 (by decide) (by decide) (by decide) ?_
  refine wp_S (st2 := [.ref (a + (c + 40)), .ref (a + c)]) (by rw [show mN _ = _ from hN16.1]) ?_
  have hN17 : Nw a M0 _ (c + 41) _ _ _ := hN16.al (1, 8)
  have hS17 := hS16.al (1, 8)
  refine r_putF (pc := 89) 5 8 43 dX5_init_89 (fl_RX5_43 rfl) (by decide) rfl rfl rfl rfl (hS17.ob (b := a + c) (by omega) hs) ?_
  have hN18 := hN17.p1 (j := c) (by omega) 8 (c + 40)
  have hS18 := hS17.wp (a := a + c) (k := 8) (v := some (a + (c + 40)))
  refine r_aload_n (pc := 92) dX5_init_92 rfl ?_
  refine r_bipush (pc := 93) (v := 8) dX5_init_93 (by decide) ?_
  refine r_newI (kc := 2) (ks := 16) (pc := 95) (N := 8) dX5_init_95 (by decide) (by decide) (by decide) ?_
  refine wp_S (st2 := [.ref (a + (c + 41)), .ref (a + c)]) (by rw [show mN _ = _ from hN18.1]) ?_
  have hN19 : Nw a M0 _ (c + 42) _ _ _ := hN18.al (1, 8)
  have hS19 := hS18.al (1, 8)
  refine r_putF (pc := 97) 5 9 46 dX5_init_97 (fl_RX5_46 rfl) (by decide) rfl rfl rfl rfl (hS19.ob (b := a + c) (by omega) hs) ?_
  have hN20 := hN19.p1 (j := c) (by omega) 9 (c + 41)
  have hS20 := hS19.wp (a := a + c) (k := 9) (v := some (a + (c + 41)))
  refine r_aload_n (pc := 100) dX5_init_100 rfl ?_
  refine r_bipush (pc := 101) (v := 8) dX5_init_101 (by decide) ?_
  refine r_newI (kc := 1) (ks := 8) (pc := 103) (N := 8) dX5_init_103 (by decide) (by decide) (by decide) ?_
  refine wp_S (st2 := [.ref (a + (c + 42)), .ref (a + c)]) (by rw [show mN _ = _ from hN20.1]) ?_
  have hN21 : Nw a M0 _ (c + 43) _ _ _ := hN20.al (1, 8)
  have hS21 := hS20.al (1, 8)
  refine r_putF (pc := 105) 5 10 49 dX5_init_105 (fl_RX5_49 rfl) (by decide) rfl rfl rfl rfl (hS21.ob (b := a + c) (by omega) hs) ?_
  have hN22 := hN21.p1 (j := c) (by omega) 10 (c + 42)
  have hS22 := hS21.wp (a := a + c) (k := 10) (v := some (a + (c + 42)))
  refine r_aload_n (pc := 108) dX5_init_108 rfl ?_
  refine r_bipush (pc := 109) (v := 8) dX5_init_109 (by decide) ?_
  refine r_newI (kc := 0) (ks := 0) (pc := 111) (N := 8) dX5_init_111 (by decide) (by decide) (by decide) ?_
  refine wp_S (st2 := [.ref (a + (c + 43)), .ref (a + c)]) (by rw [show mN _ = _ from hN22.1]) ?_
  have hN23 : Nw a M0 _ (c + 44) _ _ _ := hN22.al (1, 8)
  have hS23 := hS22.al (1, 8)
  refine r_putF (pc := 113) 5 11 52 dX5_init_113 (fl_RX5_52 rfl) (by decide) rfl rfl rfl rfl (hS23.ob (b := a + c) (by omega) hs) ?_
  have hN24 := hN23.p1 (j := c) (by omega) 11 (c + 43)
  have hS24 := hS23.wp (a := a + c) (k := 11) (v := some (a + (c + 43)))
  refine r_ret_v (pc := 116) dX5_init_116 rfl ?_
  exact ⟨rfl, hN24, hS24⟩

def nP9 (c : Nat) (P : Nat → Nat → Option Nat) : Nat → Nat → Option Nat := (up2 (nP0 (c + 253) (va_up (up2 (nP4 (c + 122) (va_up (up2 (nP1 (c + 115) (va_up (up2 (nP3 (c + 113) (va_up (up2 (nP2 (c + 111) (va_up (up2 (nP5 (c + 67) (va_up (up2 (nP5 (c + 23) (va_up (up2 (nP7 (c + 22) (va_up (up2 (nP8 (c + 4) (va_up (up2 (va_up (up2 (nP6 (c + 1) (va_up P (c + 1) (fun _ => none))) c 0 (some (c + 1))) (c + 3) (fun _ => none)) c 1 (some (c + 3))) (c + 4) (fun _ => none))) c 3 (some (c + 4))) (c + 22) (fun _ => none))) c 4 (some (c + 22))) (c + 23) (fun _ => none))) c 5 (some (c + 23))) (c + 67) (fun _ => none))) c 6 (some (c + 67))) (c + 111) (fun _ => none))) c 7 (some (c + 111))) (c + 113) (fun _ => none))) c 8 (some (c + 113))) (c + 115) (fun _ => none))) c 9 (some (c + 115))) (c + 122) (fun _ => none))) c 10 (some (c + 122))) (c + 253) (fun _ => none))) c 11 (some (c + 253)))
def nS9 (c : Nat) (S : Nat → Nat × Nat) : Nat → Nat × Nat := (nS0 (c + 253) (va_up (nS4 (c + 122) (va_up (nS1 (c + 115) (va_up (nS3 (c + 113) (va_up (nS2 (c + 111) (va_up (nS5 (c + 67) (va_up (nS5 (c + 23) (va_up (nS7 (c + 22) (va_up (nS8 (c + 4) (va_up (va_up (nS6 (c + 1) (va_up S (c + 1) (0, 6))) (c + 3) (5, 10)) (c + 4) (0, 8))) (c + 22) (0, 7))) (c + 23) (0, 5))) (c + 67) (0, 5))) (c + 111) (0, 2))) (c + 113) (0, 3))) (c + 115) (0, 1))) (c + 122) (0, 4))) (c + 253) (0, 0)))
def nI9 (c : Nat) (I : Nat → Nat → Int32) : Nat → Nat → Int32 := (nI0 (c + 253) (va_up (nI4 (c + 122) (va_up (nI1 (c + 115) (va_up (nI3 (c + 113) (va_up (nI2 (c + 111) (va_up (nI5 (c + 67) (va_up (nI5 (c + 23) (va_up (nI7 (c + 22) (va_up (nI8 (c + 4) (va_up (up2 (va_up (nI6 (c + 1) (va_up I (c + 1) (fun _ => 0))) (c + 3) (fun _ => 0)) c 2 (0)) (c + 4) (fun _ => 0))) (c + 22) (fun _ => 0))) (c + 23) (fun _ => 0))) (c + 67) (fun _ => 0))) (c + 111) (fun _ => 0))) (c + 113) (fun _ => 0))) (c + 115) (fun _ => 0))) (c + 122) (fun _ => 0))) (c + 253) (fun _ => 0)))
set_option maxHeartbeats 600000 in
set_option maxRecDepth 100000 in
theorem ini_X9 {d a c : Nat} {M0 M : Mm} {P : Nat → Nat → Option Nat} {S : Nat → Nat × Nat} {I : Nat → Nat → Int32} (h : Nw a M0 M (c + 1) P S I) (hs0 : S c = (0, 9)) : Ct (d + 4) 255 9304 YX9_init [.ref (a + c)] M (qU (fun M2 => Nw a M0 M2 (c + 256) (nP9 c P) (nS9 c S) (nI9 c I) ∧ Sh M M2 (a + (c + 1)))) := by
  refine Ct.of (by decide) (by simp [Value.category]) (Nat.le_of_ble_eq_true rfl) ?_
  have hs : mS M (a + c) = (0, 9) := (h.2.2 c (by omega)).2.1.trans hs0
  show wp _ 255 9304 _ 0 [some (.ref (a + c))] [] _ _
  have hN0 := h
  have hS0 : Sh M M (a + (c + 1)) := Sh.rf (by rw [show mN _ = _ from h.1]; exact Nat.le_refl _)
  refine r_aload_n (pc := 0) dX9_init_0 rfl ?_
  refine r_objInit (pc := 1) 3 dX9_init_1 (mo_RX9_3 rfl) oi_in oi_cd (Nat.le_of_ble_eq_true rfl) ?_
  refine r_aload_n (pc := 4) dX9_init_4 rfl ?_
  refine r_new (kc := 254) (ks := 9300) (pc := 5) 6 9 dX9_init_5 (by decide) (cl_RX9_9 rfl) it_X6 in_X6 ?_
  refine wp_S (st2 := [.ref (a + (c + 1)), .ref (a + c)]) (by rw [show mN _ = _ from hN0.1]) ?_
  have hN1 : Nw a M0 _ (c + 2) _ _ _ := hN0.al (0, 6)
  have hS1 := hS0.al (0, 6)
  refine r_dup (pc := 8) dX9_init_8 rfl ?_
  refine r_callIN (d := d + 3) (kc1 := 1) (ks1 := 300) (kc := 253) (ks := 9000) (pc := 9) (b := a + (c + 1)) (As := []) 11 dX9_init_9 lk_X6_init (nl_RX9_11 rfl) im_X6_init rfl rfl (by rw [show mN _ = _ from hN1.1]; omega) (Nat.le_of_ble_eq_true rfl) rfl (ini_X6 (d := d + 1) (c := c + 1) hN1 up_at) (fun r M9 hr9 _ => ?_)
  obtain ⟨rfl, hN2, hSx2⟩ := hr9
  have hS2 := hS1.tr hSx2 (by omega)
  show wp _ _ _ _ _ _ [.ref (a + (c + 1)), .ref (a + c)] _ _
  refine r_putF (pc := 12) 9 0 12 dX9_init_12 (fl_RX9_12 rfl) (by decide) rfl rfl rfl rfl (hS2.ob (b := a + c) (by omega) hs) ?_
  have hN3 := hN2.p1 (j := c) (by omega) 0 (c + 1)
  have hS3 := hS2.wp (a := a + c) (k := 0) (v := some (a + (c + 1)))
  refine r_aload_n (pc := 15) dX9_init_15 rfl ?_
  refine r_bipush (pc := 16) (v := 10) dX9_init_16 (by decide) ?_
  refine r_anew (kc := 252) (ks := 8990) (pc := 18) (N := 10) 16 dX9_init_18 (cl_RX9_16 rfl) (by decide) (by decide) (by decide) ?_
  refine wp_S (st2 := [.ref (a + (c + 3)), .ref (a + c)]) (by rw [show mN _ = _ from hN3.1]) ?_
  have hN4 : Nw a M0 _ (c + 4) _ _ _ := hN3.al (5, 10)
  have hS4 := hS3.al (5, 10)
  refine r_putF (pc := 21) 9 1 18 dX9_init_21 (fl_RX9_18 rfl) (by decide) rfl rfl rfl rfl (hS4.ob (b := a + c) (by omega) hs) ?_
  have hN5 := hN4.p1 (j := c) (by omega) 1 (c + 3)
  have hS5 := hS4.wp (a := a + c) (k := 1) (v := some (a + (c + 3)))
  refine r_aload_n (pc := 24) dX9_init_24 rfl ?_
  refine r_iconst (pc := 25) (v := 0) dX9_init_25 (by decide) ?_
  refine r_putI (pc := 26) (v := (0)) 9 2 22 dX9_init_26 (fl_RX9_22 rfl) (by decide) rfl rfl (hS5.ob (b := a + c) (by omega) hs) ?_
  have hN6 := hN5.pi (j := c) (by omega) 2 (0)
  have hS6 := hS5.wi (a := a + c) (k := 2) (v := (0))
  refine r_aload_n (pc := 29) dX9_init_29 rfl ?_
  refine r_new (kc := 251) (ks := 8977) (pc := 30) 8 16 dX9_init_30 (by decide) (cl_RX9_16 rfl) it_X8 in_X8 ?_
  refine wp_S (st2 := [.ref (a + (c + 4)), .ref (a + c)]) (by rw [show mN _ = _ from hN6.1]) ?_
  have hN7 : Nw a M0 _ (c + 5) _ _ _ := hN6.al (0, 8)
  have hS7 := hS6.al (0, 8)
  refine r_dup (pc := 33) dX9_init_33 rfl ?_
  refine r_callIN (d := d + 3) (kc1 := 17) (ks1 := 526) (kc := 234) (ks := 8451) (pc := 34) (b := a + (c + 4)) (As := []) 26 dX9_init_34 lk_X8_init (nl_RX9_26 rfl) im_X8_init rfl rfl (by rw [show mN _ = _ from hN7.1]; omega) (Nat.le_of_ble_eq_true rfl) rfl (ini_X8 (d := d + 0) (c := c + 4) hN7 up_at) (fun r M34 hr34 _ => ?_)
  obtain ⟨rfl, hN8, hSx8⟩ := hr34
  have hS8 := hS7.tr hSx8 (by omega)
  show wp _ _ _ _ _ _ [.ref (a + (c + 4)), .ref (a + c)] _ _
  refine r_put1 (pc := 37) 9 3 27 dX9_init_37 (fl_RX9_27 rfl) (by decide) rfl rfl (hS8.ob (b := a + c) (by omega) hs) ?_
  have hN9 := hN8.p1 (j := c) (by omega) 3 (c + 4)
  have hS9 := hS8.wp (a := a + c) (k := 3) (v := some (a + (c + 4)))
  refine r_aload_n (pc := 40) dX9_init_40 rfl ?_
  refine r_new (kc := 233) (ks := 8445) (pc := 41) 7 31 dX9_init_41 (by decide) (cl_RX9_31 rfl) it_X7 in_X7 ?_
  refine wp_S (st2 := [.ref (a + (c + 22)), .ref (a + c)]) (by rw [show mN _ = _ from hN9.1]) ?_
  have hN10 : Nw a M0 _ (c + 23) _ _ _ := hN9.al (0, 7)
  have hS10 := hS9.al (0, 7)
  refine r_dup (pc := 44) dX9_init_44 rfl ?_
  refine r_callIN (d := d + 3) (kc1 := 0) (ks1 := 0) (kc := 233) (ks := 8445) (pc := 45) (b := a + (c + 22)) (As := []) 33 dX9_init_45 lk_X7_init (nl_RX9_33 rfl) im_X7_init rfl rfl (by rw [show mN _ = _ from hN10.1]; omega) (Nat.le_of_ble_eq_true rfl) rfl (ini_X7 (d := d + 1) (c := c + 22) hN10 up_at) (fun r M45 hr45 _ => ?_)
  obtain ⟨rfl, hN11, hSx11⟩ := hr45
  have hS11 := hS10.tr hSx11 (by omega)
  show wp _ _ _ _ _ _ [.ref (a + (c + 22)), .ref (a + c)] _ _
  refine r_putF (pc := 48) 9 4 34 dX9_init_48 (fl_RX9_34 rfl) (by decide) rfl rfl rfl rfl (hS11.ob (b := a + c) (by omega) hs) ?_
  have hN12 := hN11.p1 (j := c) (by omega) 4 (c + 22)
  have hS12 := hS11.wp (a := a + c) (k := 4) (v := some (a + (c + 22)))
  refine r_aload_n (pc := 51) dX9_init_51 rfl ?_
  refine r_new (kc := 232) (ks := 8433) (pc := 52) 5 38 dX9_init_52 (by decide) (cl_RX9_38 rfl) it_X5 in_X5 ?_
  refine wp_S (st2 := [.ref (a + (c + 23)), .ref (a + c)]) (by rw [show mN _ = _ from hN12.1]) ?_
  have hN13 : Nw a M0 _ (c + 24) _ _ _ := hN12.al (0, 5)
  have hS13 := hS12.al (0, 5)
  refine r_dup (pc := 55) dX9_init_55 rfl ?_
  refine r_callIN (d := d + 3) (kc1 := 43) (ks1 := 1430) (kc := 189) (ks := 7003) (pc := 56) (b := a + (c + 23)) (As := []) 40 dX9_init_56 lk_X5_init (nl_RX9_40 rfl) im_X5_init rfl rfl (by rw [show mN _ = _ from hN13.1]; omega) (Nat.le_of_ble_eq_true rfl) rfl (ini_X5 (d := d + 0) (c := c + 23) hN13 up_at) (fun r M56 hr56 _ => ?_)
  obtain ⟨rfl, hN14, hSx14⟩ := hr56
  have hS14 := hS13.tr hSx14 (by omega)
  show wp _ _ _ _ _ _ [.ref (a + (c + 23)), .ref (a + c)] _ _
  refine r_putF (pc := 59) 9 5 41 dX9_init_59 (fl_RX9_41 rfl) (by decide) rfl rfl rfl rfl (hS14.ob (b := a + c) (by omega) hs) ?_
  have hN15 := hN14.p1 (j := c) (by omega) 5 (c + 23)
  have hS15 := hS14.wp (a := a + c) (k := 5) (v := some (a + (c + 23)))
  refine r_aload_n (pc := 62) dX9_init_62 rfl ?_
  refine r_new (kc := 188) (ks := 6991) (pc := 63) 5 38 dX9_init_63 (by decide) (cl_RX9_38 rfl) it_X5 in_X5 ?_
  refine wp_S (st2 := [.ref (a + (c + 67)), .ref (a + c)]) (by rw [show mN _ = _ from hN15.1]) ?_
  have hN16 : Nw a M0 _ (c + 68) _ _ _ := hN15.al (0, 5)
  have hS16 := hS15.al (0, 5)
  refine r_dup (pc := 66) dX9_init_66 rfl ?_
  refine r_callIN (d := d + 3) (kc1 := 43) (ks1 := 1430) (kc := 145) (ks := 5561) (pc := 67) (b := a + (c + 67)) (As := []) 40 dX9_init_67 lk_X5_init (nl_RX9_40 rfl) im_X5_init rfl rfl (by rw [show mN _ = _ from hN16.1]; omega) (Nat.le_of_ble_eq_true rfl) rfl (ini_X5 (d := d + 0) (c := c + 67) hN16 up_at) (fun r M67 hr67 _ => ?_)
  obtain ⟨rfl, hN17, hSx17⟩ := hr67
  have hS17 := hS16.tr hSx17 (by omega)
  show wp _ _ _ _ _ _ [.ref (a + (c + 67)), .ref (a + c)] _ _
  refine r_putF (pc := 70) 9 6 45 dX9_init_70 (fl_RX9_45 rfl) (by decide) rfl rfl rfl rfl (hS17.ob (b := a + c) (by omega) hs) ?_
  have hN18 := hN17.p1 (j := c) (by omega) 6 (c + 67)
  have hS18 := hS17.wp (a := a + c) (k := 6) (v := some (a + (c + 67)))
  refine r_aload_n (pc := 73) dX9_init_73 rfl ?_
  refine r_new (kc := 144) (ks := 5560) (pc := 74) 2 48 dX9_init_74 (by decide) (cl_RX9_48 rfl) it_X2 in_X2 ?_
  refine wp_S (st2 := [.ref (a + (c + 111)), .ref (a + c)]) (by rw [show mN _ = _ from hN18.1]) ?_
  have hN19 : Nw a M0 _ (c + 112) _ _ _ := hN18.al (0, 2)
  have hS19 := hS18.al (0, 2)
  refine r_dup (pc := 77) dX9_init_77 rfl ?_
  refine r_callIN (d := d + 3) (kc1 := 1) (ks1 := 8) (kc := 143) (ks := 5552) (pc := 78) (b := a + (c + 111)) (As := []) 50 dX9_init_78 lk_X2_init (nl_RX9_50 rfl) im_X2_init rfl rfl (by rw [show mN _ = _ from hN19.1]; omega) (Nat.le_of_ble_eq_true rfl) rfl (ini_X2 (d := d + 1) (c := c + 111) hN19 up_at) (fun r M78 hr78 _ => ?_)
  obtain ⟨rfl, hN20, hSx20⟩ := hr78
  have hS20 := hS19.tr hSx20 (by omega)
  show wp _ _ _ _ _ _ [.ref (a + (c + 111)), .ref (a + c)] _ _
  refine r_putF (pc := 81) 9 7 51 dX9_init_81 (fl_RX9_51 rfl) (by decide) rfl rfl rfl rfl (hS20.ob (b := a + c) (by omega) hs) ?_
  have hN21 := hN20.p1 (j := c) (by omega) 7 (c + 111)
  have hS21 := hS20.wp (a := a + c) (k := 7) (v := some (a + (c + 111)))
  refine r_aload_n (pc := 84) dX9_init_84 rfl ?_
  refine r_new (kc := 142) (ks := 5548) (pc := 85) 3 55 dX9_init_85 (by decide) (cl_RX9_55 rfl) it_X3 in_X3 ?_
  refine wp_S (st2 := [.ref (a + (c + 113)), .ref (a + c)]) (by rw [show mN _ = _ from hN21.1]) ?_
  have hN22 : Nw a M0 _ (c + 114) _ _ _ := hN21.al (0, 3)
  have hS22 := hS21.al (0, 3)
  refine r_dup (pc := 88) dX9_init_88 rfl ?_
  refine r_callIN (d := d + 3) (kc1 := 1) (ks1 := 4100) (kc := 141) (ks := 1448) (pc := 89) (b := a + (c + 113)) (As := []) 57 dX9_init_89 lk_X3_init (nl_RX9_57 rfl) im_X3_init rfl rfl (by rw [show mN _ = _ from hN22.1]; omega) (Nat.le_of_ble_eq_true rfl) rfl (ini_X3 (d := d + 1) (c := c + 113) hN22 up_at) (fun r M89 hr89 _ => ?_)
  obtain ⟨rfl, hN23, hSx23⟩ := hr89
  have hS23 := hS22.tr hSx23 (by omega)
  show wp _ _ _ _ _ _ [.ref (a + (c + 113)), .ref (a + c)] _ _
  refine r_putF (pc := 92) 9 8 58 dX9_init_92 (fl_RX9_58 rfl) (by decide) rfl rfl rfl rfl (hS23.ob (b := a + c) (by omega) hs) ?_
  have hN24 := hN23.p1 (j := c) (by omega) 8 (c + 113)
  have hS24 := hS23.wp (a := a + c) (k := 8) (v := some (a + (c + 113)))
  refine r_aload_n (pc := 95) dX9_init_95 rfl ?_
  refine r_new (kc := 140) (ks := 1442) (pc := 96) 1 62 dX9_init_96 (by decide) (cl_RX9_62 rfl) it_X1 in_X1 ?_
  refine wp_S (st2 := [.ref (a + (c + 115)), .ref (a + c)]) (by rw [show mN _ = _ from hN24.1]) ?_
  have hN25 : Nw a M0 _ (c + 116) _ _ _ := hN24.al (0, 1)
  have hS25 := hS24.al (0, 1)
  refine r_dup (pc := 99) dX9_init_99 rfl ?_
  refine r_callIN (d := d + 3) (kc1 := 6) (ks1 := 252) (kc := 134) (ks := 1190) (pc := 100) (b := a + (c + 115)) (As := []) 64 dX9_init_100 lk_X1_init (nl_RX9_64 rfl) im_X1_init rfl rfl (by rw [show mN _ = _ from hN25.1]; omega) (Nat.le_of_ble_eq_true rfl) rfl (ini_X1 (d := d + 1) (c := c + 115) hN25 up_at) (fun r M100 hr100 _ => ?_)
  obtain ⟨rfl, hN26, hSx26⟩ := hr100
  have hS26 := hS25.tr hSx26 (by omega)
  show wp _ _ _ _ _ _ [.ref (a + (c + 115)), .ref (a + c)] _ _
  refine r_putF (pc := 103) 9 9 65 dX9_init_103 (fl_RX9_65 rfl) (by decide) rfl rfl rfl rfl (hS26.ob (b := a + c) (by omega) hs) ?_
  have hN27 := hN26.p1 (j := c) (by omega) 9 (c + 115)
  have hS27 := hS26.wp (a := a + c) (k := 9) (v := some (a + (c + 115)))
  refine r_aload_n (pc := 106) dX9_init_106 rfl ?_
  refine r_new (kc := 133) (ks := 1188) (pc := 107) 4 69 dX9_init_107 (by decide) (cl_RX9_69 rfl) it_X4 in_X4 ?_
  refine wp_S (st2 := [.ref (a + (c + 122)), .ref (a + c)]) (by rw [show mN _ = _ from hN27.1]) ?_
  have hN28 : Nw a M0 _ (c + 123) _ _ _ := hN27.al (0, 4)
  have hS28 := hS27.al (0, 4)
  refine r_dup (pc := 110) dX9_init_110 rfl ?_
  refine r_callIN (d := d + 3) (kc1 := 130) (ks1 := 1160) (kc := 3) (ks := 28) (pc := 111) (b := a + (c + 122)) (As := []) 71 dX9_init_111 lk_X4_init (nl_RX9_71 rfl) im_X4_init rfl rfl (by rw [show mN _ = _ from hN28.1]; omega) (Nat.le_of_ble_eq_true rfl) rfl (ini_X4 (d := d + 1) (c := c + 122) hN28 up_at) (fun r M111 hr111 _ => ?_)
  obtain ⟨rfl, hN29, hSx29⟩ := hr111
  have hS29 := hS28.tr hSx29 (by omega)
  show wp _ _ _ _ _ _ [.ref (a + (c + 122)), .ref (a + c)] _ _
  refine r_putF (pc := 114) 9 10 72 dX9_init_114 (fl_RX9_72 rfl) (by decide) rfl rfl rfl rfl (hS29.ob (b := a + c) (by omega) hs) ?_
  have hN30 := hN29.p1 (j := c) (by omega) 10 (c + 122)
  have hS30 := hS29.wp (a := a + c) (k := 10) (v := some (a + (c + 122)))
  refine r_aload_n (pc := 117) dX9_init_117 rfl ?_
  refine r_new (kc := 2) (ks := 24) (pc := 118) 0 76 dX9_init_118 (by decide) (cl_RX9_76 rfl) it_X0 in_X0 ?_
  refine wp_S (st2 := [.ref (a + (c + 253)), .ref (a + c)]) (by rw [show mN _ = _ from hN30.1]) ?_
  have hN31 : Nw a M0 _ (c + 254) _ _ _ := hN30.al (0, 0)
  have hS31 := hS30.al (0, 0)
  refine r_dup (pc := 121) dX9_init_121 rfl ?_
  refine r_callIN (d := d + 3) (kc1 := 2) (ks1 := 24) (kc := 0) (ks := 0) (pc := 122) (b := a + (c + 253)) (As := []) 78 dX9_init_122 lk_X0_init (nl_RX9_78 rfl) im_X0_init rfl rfl (by rw [show mN _ = _ from hN31.1]; omega) (Nat.le_of_ble_eq_true rfl) rfl (ini_X0 (d := d + 1) (c := c + 253) hN31 up_at) (fun r M122 hr122 _ => ?_)
  obtain ⟨rfl, hN32, hSx32⟩ := hr122
  have hS32 := hS31.tr hSx32 (by omega)
  show wp _ _ _ _ _ _ [.ref (a + (c + 253)), .ref (a + c)] _ _
  refine r_putF (pc := 125) 9 11 79 dX9_init_125 (fl_RX9_79 rfl) (by decide) rfl rfl rfl rfl (hS32.ob (b := a + c) (by omega) hs) ?_
  have hN33 := hN32.p1 (j := c) (by omega) 11 (c + 253)
  have hS33 := hS32.wp (a := a + c) (k := 11) (v := some (a + (c + 253)))
  refine r_ret_v (pc := 128) dX9_init_128 rfl ?_
  exact ⟨rfl, hN33, hS33⟩
