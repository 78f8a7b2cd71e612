/-! ===== the same rules where numbers are natural ones; calls by what they leave ===== -/
def bz (c : Prop) [Decidable c] : Int32 := if c then 1 else 0
theorem bz_01 (c : Prop) [Decidable c] : bz c = 0 ∨ bz c = 1 := by
  unfold bz
  split
  · exact Or.inr rfl
  · exact Or.inl rfl
theorem bz_0 {c : Prop} [Decidable c] : bz c = 0 ↔ ¬ c := by
  unfold bz
  split <;> simp_all
abbrev Gm : Type := (Nat → Nat → Option Nat) × (Nat → Nat → Int64) × (Nat → Nat × Nat) × Nat
abbrev Im : Type := Nat → Nat → Int32
abbrev qP (v : Int32) (M : Mm) : Option Value → Mm → Prop := fun r M' => r = some (.int v) ∧ M' = M
abbrev qR (x : Option Nat) (M : Mm) : Option Value → Mm → Prop := fun r M' => r = some (va_rf x) ∧ M' = M
abbrev qV (G : Gm) (φ : Im → Prop) : Option Value → Mm → Prop := fun r M' => r = none ∧ ∃ I' : Im, M' = (I', G) ∧ φ I'
abbrev qM (G : Gm) (φ : Int32 → Im → Prop) : Option Value → Mm → Prop := fun r M' => ∃ (v : Int32) (I' : Im), r = some (.int v) ∧ M' = (I', G) ∧ φ v I'
abbrev qU (φ : Mm → Prop) : Option Value → Mm → Prop := fun r M' => r = none ∧ φ M'
abbrev qX (φ : Int32 → Mm → Prop) : Option Value → Mm → Prop := fun r M' => ∃ v : Int32, r = some (.int v) ∧ φ v M'
section RULES2
variable {d kc ks : Nat} {y y2 : Yt} {pc : Nat} {L L' : List (Option Value)} {st stk : List Value} {M : Mm} {Q : Option Value → Mm → Prop} {b : Nat} {As : List Value}
theorem nI_of0 (n : Nat) : Int32.ofInt (n : Int) = nI n := by
  unfold nI
  exact Int32.ofInt_eq_ofNat
theorem r_getIv {a : Nat} {v : Int32} (ci k idx : Nat) (hd : decode y.2.1 pc = .ok (.getfield idx, 3)) (hl : lnk y idx ci k) (hk : k < nfl ci) (hr : isR ci k = false) (ho : ob M a ci) (hv : mI M a k = v) (kk : wp d kc ks y (pc + 3) L (.int v :: st) M Q) : wp d kc ks y pc L (.ref a :: st) M Q := by
  subst hv
  exact r_getI ci k idx hd hl hk hr ho kk
theorem r_iald_n {a n i : Nat} {v : Int32} (hd : decode y.2.1 pc = .ok (.iaload, 1)) (ha : ar M a 1 n) (hn : n < 2 ^ 31) (hi : i < n) (hv : mI M a i = v) (kk : wp d kc ks y (pc + 1) L (.int v :: st) M Q) : wp d kc ks y pc L (.int (nI i) :: .ref a :: st) M Q := by
  subst hv
  exact r_iald hd ha (vp_in_nI hi hn) (by rw [nI_clamp (by omega)]; exact kk)
theorem r_bald_n {a n i : Nat} {v : Int32} (hd : decode y.2.1 pc = .ok (.baload, 1)) (ha : ar M a 2 n) (hn : n < 2 ^ 31) (hi : i < n) (hv : mI M a i = v) (kk : wp d kc ks y (pc + 1) L (.int v :: st) M Q) : wp d kc ks y pc L (.int (nI i) :: .ref a :: st) M Q := by
  subst hv
  exact r_bald hd ha (vp_in_nI hi hn) (by rw [nI_clamp (by omega)]; exact kk)
theorem r_zald_n {a n i : Nat} {v : Int32} (hd : decode y.2.1 pc = .ok (.baload, 1)) (ha : ar M a 3 n) (hn : n < 2 ^ 31) (hi : i < n) (hv : mI M a i = v) (kk : wp d kc ks y (pc + 1) L (.int v :: st) M Q) : wp d kc ks y pc L (.int (nI i) :: .ref a :: st) M Q := by
  subst hv
  exact r_zald hd ha (vp_in_nI hi hn) (by rw [nI_clamp (by omega)]; exact kk)
theorem r_aald_n {a n i : Nat} {x : Option Nat} (t : Nat) (hd : decode y.2.1 pc = .ok (.aaload, 1)) (ht : t = 5 ∨ t = 6) (ha : ar M a t n) (hn : n < 2 ^ 31) (hi : i < n) (hx : mP M a i = x) (kk : wp d kc ks y (pc + 1) L (va_rf x :: st) M Q) : wp d kc ks y pc L (.int (nI i) :: .ref a :: st) M Q := r_aald t hd ht ha (vp_in_nI hi hn) (by rw [nI_clamp (by omega)]; exact hx) kk
theorem r_aald1_n {a n i b : Nat} (t : Nat) (hd : decode y.2.1 pc = .ok (.aaload, 1)) (ht : t = 5 ∨ t = 6) (ha : ar M a t n) (hn : n < 2 ^ 31) (hi : i < n) (hx : mP M a i = some b) (kk : wp d kc ks y (pc + 1) L (.ref b :: st) M Q) : wp d kc ks y pc L (.int (nI i) :: .ref a :: st) M Q := r_aald_n t hd ht ha hn hi hx kk
theorem r_iast_n {a n i : Nat} {v : Int32} (hd : decode y.2.1 pc = .ok (.iastore, 1)) (ha : ar M a 1 n) (hn : n < 2 ^ 31) (hi : i < n) (kk : wp d kc ks y (pc + 1) L st (wI M a i v) Q) : wp d kc ks y pc L (.int v :: .int (nI i) :: .ref a :: st) M Q := r_iast hd ha (vp_in_nI hi hn) (by rw [nI_clamp (by omega)]; exact kk)
theorem r_bast_n {a n i : Nat} {v : Int32} (hd : decode y.2.1 pc = .ok (.bastore, 1)) (ha : ar M a 2 n) (hn : n < 2 ^ 31) (hi : i < n) (kk : wp d kc ks y (pc + 1) L st (wI M a i (vp_nar .byte v)) Q) : wp d kc ks y pc L (.int v :: .int (nI i) :: .ref a :: st) M Q := r_bast hd ha (vp_in_nI hi hn) (by rw [nI_clamp (by omega)]; exact kk)
theorem r_zast_n {a n i : Nat} {v : Int32} (hd : decode y.2.1 pc = .ok (.bastore, 1)) (ha : ar M a 3 n) (hn : n < 2 ^ 31) (hi : i < n) (hv : v = 0 ∨ v = 1) (kk : wp d kc ks y (pc + 1) L st (wI M a i v) Q) : wp d kc ks y pc L (.int v :: .int (nI i) :: .ref a :: st) M Q := r_zast hd ha (vp_in_nI hi hn) hv (by rw [nI_clamp (by omega)]; exact kk)
theorem r_aast_n {a n i b : Nat} (hd : decode y.2.1 pc = .ok (.aastore, 1)) (ha : ar M a 5 n) (hn : n < 2 ^ 31) (hi : i < n) (hb : ob M b 8) (kk : wp d kc ks y (pc + 1) L st (wP M a i (some b)) Q) : wp d kc ks y pc L (.ref b :: .int (nI i) :: .ref a :: st) M Q := r_aast hd ha (vp_in_nI hi hn) hb (by rw [nI_clamp (by omega)]; exact kk)
theorem r_iadd_n {a b : Nat} (hd : decode y.2.1 pc = .ok (.iadd, 1)) (kk : wp d kc ks y (pc + 1) L (.int (nI (a + b)) :: st) M Q) : wp d kc ks y pc L (.int (nI b) :: .int (nI a) :: st) M Q := r_iadd hd (by rw [nI_add]; exact kk)
theorem r_imul_n {a b : Nat} (hd : decode y.2.1 pc = .ok (.imul, 1)) (kk : wp d kc ks y (pc + 1) L (.int (nI (a * b)) :: st) M Q) : wp d kc ks y pc L (.int (nI b) :: .int (nI a) :: st) M Q := r_imul hd (by rw [pk_mul]; exact kk)
theorem r_isub_n {a b : Nat} (hd : decode y.2.1 pc = .ok (.isub, 1)) (hle : b ≤ a) (kk : wp d kc ks y (pc + 1) L (.int (nI (a - b)) :: st) M Q) : wp d kc ks y pc L (.int (nI b) :: .int (nI a) :: st) M Q := r_isub hd (by rw [pk_sub hle]; exact kk)
theorem nI_inc (k : Nat) : nI k + Int32.ofInt 1 = nI (k + 1) := nI_1 k
theorem nI_dec (k : Nat) : nI (k + 1) + Int32.ofInt (-1) = nI k := pk_m1 k
theorem r_icmp_eq_n {a b : Nat} {off : Int} {tgt : Nat} (hd : decode y.2.1 pc = .ok (.if_icmp .eq off, 3)) (ht : (pc : Int) + off = (tgt : Int)) (ha : a < 2 ^ 31) (hb : b < 2 ^ 31) (kt : a = b → wp d kc ks y tgt L st M Q) (kf : ¬ a = b → wp d kc ks y (pc + 3) L st M Q) : wp d kc ks y pc L (.int (nI b) :: .int (nI a) :: st) M Q := r_icmp_eq hd ht (fun q => kt ((nI_eq ha hb).mp q)) (fun q => kf (fun z => q ((nI_eq ha hb).mpr z)))
theorem r_icmp_lt_n {a b : Nat} {off : Int} {tgt : Nat} (hd : decode y.2.1 pc = .ok (.if_icmp .lt off, 3)) (ht : (pc : Int) + off = (tgt : Int)) (ha : a < 2 ^ 31) (hb : b < 2 ^ 31) (kt : a < b → wp d kc ks y tgt L st M Q) (kf : ¬ a < b → wp d kc ks y (pc + 3) L st M Q) : wp d kc ks y pc L (.int (nI b) :: .int (nI a) :: st) M Q := r_icmp_lt hd ht (fun q => kt ((nI_ltI ha hb).mp q)) (fun q => kf (fun z => q ((nI_ltI ha hb).mpr z)))
theorem r_icmp_ge_n {a b : Nat} {off : Int} {tgt : Nat} (hd : decode y.2.1 pc = .ok (.if_icmp .ge off, 3)) (ht : (pc : Int) + off = (tgt : Int)) (ha : a < 2 ^ 31) (hb : b < 2 ^ 31) (kt : b ≤ a → wp d kc ks y tgt L st M Q) (kf : ¬ b ≤ a → wp d kc ks y (pc + 3) L st M Q) : wp d kc ks y pc L (.int (nI b) :: .int (nI a) :: st) M Q := r_icmp_ge hd ht (fun q => kt ((nI_leI hb ha).mp q)) (fun q => kf (fun z => q ((nI_leI hb ha).mpr z)))
theorem r_icmp_gt_n {a b : Nat} {off : Int} {tgt : Nat} (hd : decode y.2.1 pc = .ok (.if_icmp .gt off, 3)) (ht : (pc : Int) + off = (tgt : Int)) (ha : a < 2 ^ 31) (hb : b < 2 ^ 31) (kt : b < a → wp d kc ks y tgt L st M Q) (kf : ¬ b < a → wp d kc ks y (pc + 3) L st M Q) : wp d kc ks y pc L (.int (nI b) :: .int (nI a) :: st) M Q := r_icmp_gt hd ht (fun q => kt ((nI_ltI hb ha).mp q)) (fun q => kf (fun z => q ((nI_ltI hb ha).mpr z)))
theorem r_icmp_le_n {a b : Nat} {off : Int} {tgt : Nat} (hd : decode y.2.1 pc = .ok (.if_icmp .le off, 3)) (ht : (pc : Int) + off = (tgt : Int)) (ha : a < 2 ^ 31) (hb : b < 2 ^ 31) (kt : a ≤ b → wp d kc ks y tgt L st M Q) (kf : ¬ a ≤ b → wp d kc ks y (pc + 3) L st M Q) : wp d kc ks y pc L (.int (nI b) :: .int (nI a) :: st) M Q := r_icmp_le hd ht (fun q => kt ((nI_leI ha hb).mp q)) (fun q => kf (fun z => q ((nI_leI ha hb).mpr z)))
theorem r_icmp_ne_n {a b : Nat} {off : Int} {tgt : Nat} (hd : decode y.2.1 pc = .ok (.if_icmp .ne off, 3)) (ht : (pc : Int) + off = (tgt : Int)) (ha : a < 2 ^ 31) (hb : b < 2 ^ 31) (kt : ¬ a = b → wp d kc ks y tgt L st M Q) (kf : a = b → wp d kc ks y (pc + 3) L st M Q) : wp d kc ks y pc L (.int (nI b) :: .int (nI a) :: st) M Q := r_icmp_ne hd ht (fun q => kt (fun z => q ((nI_eq ha hb).mpr z))) (fun q => kf ((nI_eq ha hb).mp q))
theorem r_if_lt_n {a : Nat} {off : Int} (hd : decode y.2.1 pc = .ok (.ifCond .lt off, 3)) {tgt : Nat} (ht : (pc : Int) + off = (tgt : Int)) (ha : a < 2 ^ 31) (kf : wp d kc ks y (pc + 3) L st M Q) : wp d kc ks y pc L (.int (nI a) :: st) M Q := r_if_lt hd ht (fun q => absurd q (nI_pos ha)) (fun _ => kf)
theorem r_if_ge_n {a : Nat} {off : Int} {tgt : Nat} (hd : decode y.2.1 pc = .ok (.ifCond .ge off, 3)) (ht : (pc : Int) + off = (tgt : Int)) (ha : a < 2 ^ 31) (kt : wp d kc ks y tgt L st M Q) : wp d kc ks y pc L (.int (nI a) :: st) M Q := r_if_ge hd ht (fun _ => kt) (fun q => absurd (nI_pos' ha) q)
theorem nI_z {a : Nat} (ha : a < 2 ^ 31) : nI a = 0 ↔ a = 0 := ⟨fun h => (nI_eq ha (by decide)).mp (h.trans nI_0.symm), fun h => by rw [h, nI_0]⟩
theorem nI_g {a : Nat} (ha : a < 2 ^ 31) : 0 < nI a ↔ 0 < a := by
  have := nI_ltI (a := 0) (b := a) (by decide) ha
  rwa [nI_0] at this
theorem nI_l0 {a : Nat} (ha : a < 2 ^ 31) : nI a ≤ 0 ↔ a = 0 := by
  have := nI_leI (a := a) (b := 0) ha (by decide)
  rw [nI_0] at this
  rw [this]
  omega
theorem r_if_eq_n {a : Nat} {off : Int} {tgt : Nat} (hd : decode y.2.1 pc = .ok (.ifCond .eq off, 3)) (ht : (pc : Int) + off = (tgt : Int)) (ha : a < 2 ^ 31) (kt : a = 0 → wp d kc ks y tgt L st M Q) (kf : ¬ a = 0 → wp d kc ks y (pc + 3) L st M Q) : wp d kc ks y pc L (.int (nI a) :: st) M Q := r_if_eq hd ht (fun q => kt ((nI_z ha).mp q)) (fun q => kf (fun z => q ((nI_z ha).mpr z)))
theorem r_if_ne_n {a : Nat} {off : Int} {tgt : Nat} (hd : decode y.2.1 pc = .ok (.ifCond .ne off, 3)) (ht : (pc : Int) + off = (tgt : Int)) (ha : a < 2 ^ 31) (kt : ¬ a = 0 → wp d kc ks y tgt L st M Q) (kf : a = 0 → wp d kc ks y (pc + 3) L st M Q) : wp d kc ks y pc L (.int (nI a) :: st) M Q := r_if_ne hd ht (fun q => kt (fun z => q ((nI_z ha).mpr z))) (fun q => kf ((nI_z ha).mp q))
theorem r_if_gt_n {a : Nat} {off : Int} {tgt : Nat} (hd : decode y.2.1 pc = .ok (.ifCond .gt off, 3)) (ht : (pc : Int) + off = (tgt : Int)) (ha : a < 2 ^ 31) (kt : 0 < a → wp d kc ks y tgt L st M Q) (kf : ¬ 0 < a → wp d kc ks y (pc + 3) L st M Q) : wp d kc ks y pc L (.int (nI a) :: st) M Q := r_if_gt hd ht (fun q => kt ((nI_g ha).mp q)) (fun q => kf (fun z => q ((nI_g ha).mpr z)))
theorem r_if_le_n {a : Nat} {off : Int} {tgt : Nat} (hd : decode y.2.1 pc = .ok (.ifCond .le off, 3)) (ht : (pc : Int) + off = (tgt : Int)) (ha : a < 2 ^ 31) (kt : a = 0 → wp d kc ks y tgt L st M Q) (kf : ¬ a = 0 → wp d kc ks y (pc + 3) L st M Q) : wp d kc ks y pc L (.int (nI a) :: st) M Q := r_if_le hd ht (fun q => kt ((nI_l0 ha).mp q)) (fun q => kf (fun z => q ((nI_l0 ha).mpr z)))
theorem r_if_eq_b {c : Prop} [Decidable c] {off : Int} {tgt : Nat} (hd : decode y.2.1 pc = .ok (.ifCond .eq off, 3)) (ht : (pc : Int) + off = (tgt : Int)) (kt : ¬ c → wp d kc ks y tgt L st M Q) (kf : c → wp d kc ks y (pc + 3) L st M Q) : wp d kc ks y pc L (.int (bz c) :: st) M Q := r_if_eq hd ht (fun q => kt (bz_0.mp q)) (fun q => kf (Decidable.byContradiction fun z => q (bz_0.mpr z)))
theorem r_if_ne_b {c : Prop} [Decidable c] {off : Int} {tgt : Nat} (hd : decode y.2.1 pc = .ok (.ifCond .ne off, 3)) (ht : (pc : Int) + off = (tgt : Int)) (kt : c → wp d kc ks y tgt L st M Q) (kf : ¬ c → wp d kc ks y (pc + 3) L st M Q) : wp d kc ks y pc L (.int (bz c) :: st) M Q := r_if_ne hd ht (fun q => kt (Decidable.byContradiction fun z => q (bz_0.mpr z))) (fun q => kf (bz_0.mp q))
theorem r_callV_P (ci idx : Nat) (hd : decode y.2.1 pc = .ok (.invokevirtual idx, 3)) (lk : lkB y2 As.length) (hl : Cond.methodLink y.1.cls idx y2.1 ∈ gtb) (hin : Cond.instanceMethod y2.1 ∈ gtb) (hse : Cond.selects (Cof ci) y2.1 y2.1 ∈ gtb) (hci : ci < 11) (ho : ob M b ci) (hw : (st.map fun v => v.category).sum ≤ 8) (hs : stk = As.reverse ++ .ref b :: st) {v : Int32} (hc : Ct d 0 0 y2 (.ref b :: As) M (qP v M)) (kk : wp (d + 1) kc ks y (pc + 3) L (.int v :: st) M Q) : wp (d + 1) kc ks y pc L stk M Q := by
  have g := r_callV (kc1 := 0) (ks1 := 0) (kc := kc) (ks := ks) (L := L) (Q := Q) ci idx hd lk hl hin hse hci ho hw hs hc (fun r M' hq _ => by rw [hq.1, hq.2]; exact kk)
  rwa [Nat.zero_add, Nat.zero_add] at g
theorem r_callV_R (ci idx : Nat) (hd : decode y.2.1 pc = .ok (.invokevirtual idx, 3)) (lk : lkB y2 As.length) (hl : Cond.methodLink y.1.cls idx y2.1 ∈ gtb) (hin : Cond.instanceMethod y2.1 ∈ gtb) (hse : Cond.selects (Cof ci) y2.1 y2.1 ∈ gtb) (hci : ci < 11) (ho : ob M b ci) (hw : (st.map fun v => v.category).sum ≤ 8) (hs : stk = As.reverse ++ .ref b :: st) {x : Option Nat} (hc : Ct d 0 0 y2 (.ref b :: As) M (qR x M)) (kk : wp (d + 1) kc ks y (pc + 3) L (va_rf x :: st) M Q) : wp (d + 1) kc ks y pc L stk M Q := by
  have g := r_callV (kc1 := 0) (ks1 := 0) (kc := kc) (ks := ks) (L := L) (Q := Q) ci idx hd lk hl hin hse hci ho hw hs hc (fun r M' hq _ => by rw [hq.1, hq.2]; exact kk)
  rwa [Nat.zero_add, Nat.zero_add] at g
theorem r_callV_V (ci idx : Nat) (hd : decode y.2.1 pc = .ok (.invokevirtual idx, 3)) (lk : lkB y2 As.length) (hl : Cond.methodLink y.1.cls idx y2.1 ∈ gtb) (hin : Cond.instanceMethod y2.1 ∈ gtb) (hse : Cond.selects (Cof ci) y2.1 y2.1 ∈ gtb) (hci : ci < 11) (ho : ob M b ci) (hw : (st.map fun v => v.category).sum ≤ 8) (hs : stk = As.reverse ++ .ref b :: st) {G : Gm} {φ : Im → Prop} (hc : Ct d 0 0 y2 (.ref b :: As) M (qV G φ)) (kk : ∀ I' : Im, φ I' → wp (d + 1) kc ks y (pc + 3) L st (I', G) Q) : wp (d + 1) kc ks y pc L stk M Q := by
  have g := r_callV (kc1 := 0) (ks1 := 0) (kc := kc) (ks := ks) (L := L) (Q := Q) ci idx hd lk hl hin hse hci ho hw hs hc (fun r M' hq _ => by obtain ⟨rfl, I', rfl, h⟩ := hq; exact kk I' h)
  rwa [Nat.zero_add, Nat.zero_add] at g
theorem r_callV_M (ci idx : Nat) (hd : decode y.2.1 pc = .ok (.invokevirtual idx, 3)) (lk : lkB y2 As.length) (hl : Cond.methodLink y.1.cls idx y2.1 ∈ gtb) (hin : Cond.instanceMethod y2.1 ∈ gtb) (hse : Cond.selects (Cof ci) y2.1 y2.1 ∈ gtb) (hci : ci < 11) (ho : ob M b ci) (hw : (st.map fun v => v.category).sum ≤ 8) (hs : stk = As.reverse ++ .ref b :: st) {G : Gm} {φ : Int32 → Im → Prop} (hc : Ct d 0 0 y2 (.ref b :: As) M (qM G φ)) (kk : ∀ (v : Int32) (I' : Im), φ v I' → wp (d + 1) kc ks y (pc + 3) L (.int v :: st) (I', G) Q) : wp (d + 1) kc ks y pc L stk M Q := by
  have g := r_callV (kc1 := 0) (ks1 := 0) (kc := kc) (ks := ks) (L := L) (Q := Q) ci idx hd lk hl hin hse hci ho hw hs hc (fun r M' hq _ => by obtain ⟨v, I', rfl, rfl, h⟩ := hq; exact kk v I' h)
  rwa [Nat.zero_add, Nat.zero_add] at g
theorem r_callV_U (ci idx : Nat) (hd : decode y.2.1 pc = .ok (.invokevirtual idx, 3)) (lk : lkB y2 As.length) (hl : Cond.methodLink y.1.cls idx y2.1 ∈ gtb) (hin : Cond.instanceMethod y2.1 ∈ gtb) (hse : Cond.selects (Cof ci) y2.1 y2.1 ∈ gtb) (hci : ci < 11) (ho : ob M b ci) (hw : (st.map fun v => v.category).sum ≤ 8) (hs : stk = As.reverse ++ .ref b :: st) {φ : Mm → Prop} (hc : Ct d 0 0 y2 (.ref b :: As) M (qU φ)) (kk : ∀ M' : Mm, φ M' → wp (d + 1) kc ks y (pc + 3) L st M' Q) : wp (d + 1) kc ks y pc L stk M Q := by
  have g := r_callV (kc1 := 0) (ks1 := 0) (kc := kc) (ks := ks) (L := L) (Q := Q) ci idx hd lk hl hin hse hci ho hw hs hc (fun r M' hq _ => by obtain ⟨rfl, h⟩ := hq; exact kk M' h)
  rwa [Nat.zero_add, Nat.zero_add] at g
theorem r_callV_X (ci idx : Nat) (hd : decode y.2.1 pc = .ok (.invokevirtual idx, 3)) (lk : lkB y2 As.length) (hl : Cond.methodLink y.1.cls idx y2.1 ∈ gtb) (hin : Cond.instanceMethod y2.1 ∈ gtb) (hse : Cond.selects (Cof ci) y2.1 y2.1 ∈ gtb) (hci : ci < 11) (ho : ob M b ci) (hw : (st.map fun v => v.category).sum ≤ 8) (hs : stk = As.reverse ++ .ref b :: st) {φ : Int32 → Mm → Prop} (hc : Ct d 0 0 y2 (.ref b :: As) M (qX φ)) (kk : ∀ (v : Int32) (M' : Mm), φ v M' → wp (d + 1) kc ks y (pc + 3) L (.int v :: st) M' Q) : wp (d + 1) kc ks y pc L stk M Q := by
  have g := r_callV (kc1 := 0) (ks1 := 0) (kc := kc) (ks := ks) (L := L) (Q := Q) ci idx hd lk hl hin hse hci ho hw hs hc (fun r M' hq _ => by obtain ⟨v, rfl, h⟩ := hq; exact kk v M' h)
  rwa [Nat.zero_add, Nat.zero_add] at g
theorem r_callS_P (idx : Nat) (hd : decode y.2.1 pc = .ok (.invokestatic idx, 3)) (lk : lkB y2 As.length) (hl : Cond.methodLink y.1.cls idx y2.1 ∈ gtb) (hst : Cond.static y2.1 ∈ gtb) (hw : (st.map fun v => v.category).sum ≤ 8) (hs : stk = As.reverse ++ st) {v : Int32} (hc : Ct d 0 0 y2 As M (qP v M)) (kk : wp (d + 1) kc ks y (pc + 3) L (.int v :: st) M Q) : wp (d + 1) kc ks y pc L stk M Q := by
  have g := r_callS (kc1 := 0) (ks1 := 0) (kc := kc) (ks := ks) (L := L) (Q := Q) idx hd lk hl hst hw hs hc (fun r M' hq _ => by rw [hq.1, hq.2]; exact kk)
  rwa [Nat.zero_add, Nat.zero_add] at g
theorem r_callS_R (idx : Nat) (hd : decode y.2.1 pc = .ok (.invokestatic idx, 3)) (lk : lkB y2 As.length) (hl : Cond.methodLink y.1.cls idx y2.1 ∈ gtb) (hst : Cond.static y2.1 ∈ gtb) (hw : (st.map fun v => v.category).sum ≤ 8) (hs : stk = As.reverse ++ st) {x : Option Nat} (hc : Ct d 0 0 y2 As M (qR x M)) (kk : wp (d + 1) kc ks y (pc + 3) L (va_rf x :: st) M Q) : wp (d + 1) kc ks y pc L stk M Q := by
  have g := r_callS (kc1 := 0) (ks1 := 0) (kc := kc) (ks := ks) (L := L) (Q := Q) idx hd lk hl hst hw hs hc (fun r M' hq _ => by rw [hq.1, hq.2]; exact kk)
  rwa [Nat.zero_add, Nat.zero_add] at g
theorem r_callS_V (idx : Nat) (hd : decode y.2.1 pc = .ok (.invokestatic idx, 3)) (lk : lkB y2 As.length) (hl : Cond.methodLink y.1.cls idx y2.1 ∈ gtb) (hst : Cond.static y2.1 ∈ gtb) (hw : (st.map fun v => v.category).sum ≤ 8) (hs : stk = As.reverse ++ st) {G : Gm} {φ : Im → Prop} (hc : Ct d 0 0 y2 As M (qV G φ)) (kk : ∀ I' : Im, φ I' → wp (d + 1) kc ks y (pc + 3) L st (I', G) Q) : wp (d + 1) kc ks y pc L stk M Q := by
  have g := r_callS (kc1 := 0) (ks1 := 0) (kc := kc) (ks := ks) (L := L) (Q := Q) idx hd lk hl hst hw hs hc (fun r M' hq _ => by obtain ⟨rfl, I', rfl, h⟩ := hq; exact kk I' h)
  rwa [Nat.zero_add, Nat.zero_add] at g
theorem r_callS_M (idx : Nat) (hd : decode y.2.1 pc = .ok (.invokestatic idx, 3)) (lk : lkB y2 As.length) (hl : Cond.methodLink y.1.cls idx y2.1 ∈ gtb) (hst : Cond.static y2.1 ∈ gtb) (hw : (st.map fun v => v.category).sum ≤ 8) (hs : stk = As.reverse ++ st) {G : Gm} {φ : Int32 → Im → Prop} (hc : Ct d 0 0 y2 As M (qM G φ)) (kk : ∀ (v : Int32) (I' : Im), φ v I' → wp (d + 1) kc ks y (pc + 3) L (.int v :: st) (I', G) Q) : wp (d + 1) kc ks y pc L stk M Q := by
  have g := r_callS (kc1 := 0) (ks1 := 0) (kc := kc) (ks := ks) (L := L) (Q := Q) idx hd lk hl hst hw hs hc (fun r M' hq _ => by obtain ⟨v, I', rfl, rfl, h⟩ := hq; exact kk v I' h)
  rwa [Nat.zero_add, Nat.zero_add] at g
theorem r_callS_U (idx : Nat) (hd : decode y.2.1 pc = .ok (.invokestatic idx, 3)) (lk : lkB y2 As.length) (hl : Cond.methodLink y.1.cls idx y2.1 ∈ gtb) (hst : Cond.static y2.1 ∈ gtb) (hw : (st.map fun v => v.category).sum ≤ 8) (hs : stk = As.reverse ++ st) {φ : Mm → Prop} (hc : Ct d 0 0 y2 As M (qU φ)) (kk : ∀ M' : Mm, φ M' → wp (d + 1) kc ks y (pc + 3) L st M' Q) : wp (d + 1) kc ks y pc L stk M Q := by
  have g := r_callS (kc1 := 0) (ks1 := 0) (kc := kc) (ks := ks) (L := L) (Q := Q) idx hd lk hl hst hw hs hc (fun r M' hq _ => by obtain ⟨rfl, h⟩ := hq; exact kk M' h)
  rwa [Nat.zero_add, Nat.zero_add] at g
theorem r_callS_X (idx : Nat) (hd : decode y.2.1 pc = .ok (.invokestatic idx, 3)) (lk : lkB y2 As.length) (hl : Cond.methodLink y.1.cls idx y2.1 ∈ gtb) (hst : Cond.static y2.1 ∈ gtb) (hw : (st.map fun v => v.category).sum ≤ 8) (hs : stk = As.reverse ++ st) {φ : Int32 → Mm → Prop} (hc : Ct d 0 0 y2 As M (qX φ)) (kk : ∀ (v : Int32) (M' : Mm), φ v M' → wp (d + 1) kc ks y (pc + 3) L (.int v :: st) M' Q) : wp (d + 1) kc ks y pc L stk M Q := by
  have g := r_callS (kc1 := 0) (ks1 := 0) (kc := kc) (ks := ks) (L := L) (Q := Q) idx hd lk hl hst hw hs hc (fun r M' hq _ => by obtain ⟨v, rfl, h⟩ := hq; exact kk v M' h)
  rwa [Nat.zero_add, Nat.zero_add] at g
theorem r_callSN_P (idx : Nat) (hd : decode y.2.1 pc = .ok (.invokestatic idx, 3)) (lk : lkB y2 As.length) (hl : (y.1.cls, idx, y2.1) ∈ nlk) (hst : Cond.static y2.1 ∈ gtb) (hw : (st.map fun v => v.category).sum ≤ 8) (hs : stk = As.reverse ++ st) {v : Int32} (hc : Ct d 0 0 y2 As M (qP v M)) (kk : wp (d + 1) kc ks y (pc + 3) L (.int v :: st) M Q) : wp (d + 1) kc ks y pc L stk M Q := by
  have g := r_callSN (kc1 := 0) (ks1 := 0) (kc := kc) (ks := ks) (L := L) (Q := Q) idx hd lk hl hst hw hs hc (fun r M' hq _ => by rw [hq.1, hq.2]; exact kk)
  rwa [Nat.zero_add, Nat.zero_add] at g
theorem r_callSN_R (idx : Nat) (hd : decode y.2.1 pc = .ok (.invokestatic idx, 3)) (lk : lkB y2 As.length) (hl : (y.1.cls, idx, y2.1) ∈ nlk) (hst : Cond.static y2.1 ∈ gtb) (hw : (st.map fun v => v.category).sum ≤ 8) (hs : stk = As.reverse ++ st) {x : Option Nat} (hc : Ct d 0 0 y2 As M (qR x M)) (kk : wp (d + 1) kc ks y (pc + 3) L (va_rf x :: st) M Q) : wp (d + 1) kc ks y pc L stk M Q := by
  have g := r_callSN (kc1 := 0) (ks1 := 0) (kc := kc) (ks := ks) (L := L) (Q := Q) idx hd lk hl hst hw hs hc (fun r M' hq _ => by rw [hq.1, hq.2]; exact kk)
  rwa [Nat.zero_add, Nat.zero_add] at g
theorem r_callSN_V (idx : Nat) (hd : decode y.2.1 pc = .ok (.invokestatic idx, 3)) (lk : lkB y2 As.length) (hl : (y.1.cls, idx, y2.1) ∈ nlk) (hst : Cond.static y2.1 ∈ gtb) (hw : (st.map fun v => v.category).sum ≤ 8) (hs : stk = As.reverse ++ st) {G : Gm} {φ : Im → Prop} (hc : Ct d 0 0 y2 As M (qV G φ)) (kk : ∀ I' : Im, φ I' → wp (d + 1) kc ks y (pc + 3) L st (I', G) Q) : wp (d + 1) kc ks y pc L stk M Q := by
  have g := r_callSN (kc1 := 0) (ks1 := 0) (kc := kc) (ks := ks) (L := L) (Q := Q) idx hd lk hl hst hw hs hc (fun r M' hq _ => by obtain ⟨rfl, I', rfl, h⟩ := hq; exact kk I' h)
  rwa [Nat.zero_add, Nat.zero_add] at g
theorem r_callSN_M (idx : Nat) (hd : decode y.2.1 pc = .ok (.invokestatic idx, 3)) (lk : lkB y2 As.length) (hl : (y.1.cls, idx, y2.1) ∈ nlk) (hst : Cond.static y2.1 ∈ gtb) (hw : (st.map fun v => v.category).sum ≤ 8) (hs : stk = As.reverse ++ st) {G : Gm} {φ : Int32 → Im → Prop} (hc : Ct d 0 0 y2 As M (qM G φ)) (kk : ∀ (v : Int32) (I' : Im), φ v I' → wp (d + 1) kc ks y (pc + 3) L (.int v :: st) (I', G) Q) : wp (d + 1) kc ks y pc L stk M Q := by
  have g := r_callSN (kc1 := 0) (ks1 := 0) (kc := kc) (ks := ks) (L := L) (Q := Q) idx hd lk hl hst hw hs hc (fun r M' hq _ => by obtain ⟨v, I', rfl, rfl, h⟩ := hq; exact kk v I' h)
  rwa [Nat.zero_add, Nat.zero_add] at g
theorem r_callSN_U (idx : Nat) (hd : decode y.2.1 pc = .ok (.invokestatic idx, 3)) (lk : lkB y2 As.length) (hl : (y.1.cls, idx, y2.1) ∈ nlk) (hst : Cond.static y2.1 ∈ gtb) (hw : (st.map fun v => v.category).sum ≤ 8) (hs : stk = As.reverse ++ st) {φ : Mm → Prop} (hc : Ct d 0 0 y2 As M (qU φ)) (kk : ∀ M' : Mm, φ M' → wp (d + 1) kc ks y (pc + 3) L st M' Q) : wp (d + 1) kc ks y pc L stk M Q := by
  have g := r_callSN (kc1 := 0) (ks1 := 0) (kc := kc) (ks := ks) (L := L) (Q := Q) idx hd lk hl hst hw hs hc (fun r M' hq _ => by obtain ⟨rfl, h⟩ := hq; exact kk M' h)
  rwa [Nat.zero_add, Nat.zero_add] at g
theorem r_callSN_X (idx : Nat) (hd : decode y.2.1 pc = .ok (.invokestatic idx, 3)) (lk : lkB y2 As.length) (hl : (y.1.cls, idx, y2.1) ∈ nlk) (hst : Cond.static y2.1 ∈ gtb) (hw : (st.map fun v => v.category).sum ≤ 8) (hs : stk = As.reverse ++ st) {φ : Int32 → Mm → Prop} (hc : Ct d 0 0 y2 As M (qX φ)) (kk : ∀ (v : Int32) (M' : Mm), φ v M' → wp (d + 1) kc ks y (pc + 3) L (.int v :: st) M' Q) : wp (d + 1) kc ks y pc L stk M Q := by
  have g := r_callSN (kc1 := 0) (ks1 := 0) (kc := kc) (ks := ks) (L := L) (Q := Q) idx hd lk hl hst hw hs hc (fun r M' hq _ => by obtain ⟨v, rfl, h⟩ := hq; exact kk v M' h)
  rwa [Nat.zero_add, Nat.zero_add] at g
end RULES2
/-- a number, or none: -1 -/
def sI (o : Option Nat) : Int32 := match o with
  | none => -1
  | some a => nI a
theorem nI_dm (k : Nat) : nI k + Int32.ofInt (-1) = nI k - 1 := by
  rw [Int32.sub_eq_add_neg]
  rfl
theorem wp_L {d kc ks : Nat} {y : Yt} {pc : Nat} {L L2 : List (Option Value)} {st : List Value} {M : Mm} {Q : Option Value → Mm → Prop} (h : L = L2) (k : wp d kc ks y pc L2 st M Q) : wp d kc ks y pc L st M Q := h ▸ k
theorem wp_S {d kc ks : Nat} {y : Yt} {pc : Nat} {L : List (Option Value)} {st st2 : List Value} {M : Mm} {Q : Option Value → Mm → Prop} (h : st = st2) (k : wp d kc ks y pc L st2 M Q) : wp d kc ks y pc L st M Q := h ▸ k
theorem wp_M {d kc ks : Nat} {y : Yt} {pc : Nat} {L : List (Option Value)} {st : List Value} {M M2 : Mm} {Q : Option Value → Mm → Prop} (h : M = M2) (k : wp d kc ks y pc L st M2 Q) : wp d kc ks y pc L st M Q := h ▸ k
theorem bz_t {c : Prop} [Decidable c] (h : c) : (1 : Int32) = bz c := (if_pos h).symm
theorem bz_f {c : Prop} [Decidable c] (h : ¬ c) : (0 : Int32) = bz c := (if_neg h).symm
theorem up2_rd {α : Type} {f : Nat → Nat → α} {a k b j : Nat} {v : α} (h : b ≠ a ∨ j ≠ k) : up2 f a k v b j = f b j := if_neg (fun q => h.elim (fun z => z q.1) (fun z => z q.2))
theorem bz_congr {a b : Prop} [Decidable a] [Decidable b] (h : a ↔ b) : bz a = bz b := by
  unfold bz
  by_cases q : a
  · rw [if_pos q, if_pos (h.mp q)]
  · rw [if_neg q, if_neg (fun z => q (h.mpr z))]
/-- locals that are needed no more -/
def lsub : List (Option Value) → List (Option Value) → Prop
  | [], _ => True
  | none :: a, _ :: b => lsub a b
  | some v :: a, some w :: b => v = w ∧ lsub a b
  | _, _ => False
theorem lsub_at : ∀ (a b : List (Option Value)), lsub a b → ∀ (i : Nat) (v : Value), a[i]? = some (some v) → b[i]? = some (some v)
  | [], _, _, i, v, h => by simp at h
  | none :: a, [], hs, _, _, _ => hs.elim
  | none :: a, w :: b, hs, 0, v, h => by simp at h
  | none :: a, w :: b, hs, i + 1, v, h => by
    have h' : a[i]? = some (some v) := by simpa using h
    simpa using lsub_at a b hs i v h'
  | some u :: a, [], hs, _, _, _ => hs.elim
  | some u :: a, none :: b, hs, _, _, _ => hs.elim
  | some u :: a, some w :: b, hs, 0, v, h => by
    obtain ⟨rfl, -⟩ := hs
    simpa using h
  | some u :: a, some w :: b, hs, i + 1, v, h => by
    have h' : a[i]? = some (some v) := by simpa using h
    simpa using lsub_at a b hs.2 i v h'
theorem wp_sub {d kc ks : Nat} {y : Yt} {pc : Nat} {L : List (Option Value)} (L' : List (Option Value)) {st : List Value} {M : Mm} {Q : Option Value → Mm → Prop} (h : lsub L' L) (k : wp d kc ks y pc L' st M Q) : wp d kc ks y pc L st M Q := by
  intro p l e R s m args below meth c D cA A ad H locs cells slots Qm ls C h1 h2 h3 h4 V hL hS F
  exact k p l e R s m args below meth c D cA A ad H locs cells slots Qm ls C h1 h2 h3 h4 V ⟨hL.1, hL.2.1, fun i v hv => hL.2.2 i v (lsub_at L' L h i v hv)⟩ hS F
