/-! ===== rules of the instructions that read or write the memory ===== -/
theorem cls_w0 : ∀ w ∈ wsX00, w ∈ gtb := by decide +kernel
theorem cls_w1 : ∀ w ∈ wsX10, w ∈ gtb := by decide +kernel
theorem cls_w2 : ∀ w ∈ wsX20, w ∈ gtb := by decide +kernel
theorem cls_w3 : ∀ w ∈ wsX30, w ∈ gtb := by decide +kernel
theorem cls_w4 : ∀ w ∈ wsX40, w ∈ gtb := by decide +kernel
theorem cls_w5 : ∀ w ∈ wsX50, w ∈ gtb := by decide +kernel
theorem cls_w6 : ∀ w ∈ wsX60, w ∈ gtb := by decide +kernel
theorem cls_w7 : ∀ w ∈ wsX70, w ∈ gtb := by decide +kernel
theorem cls_w8 : ∀ w ∈ wsX80, w ∈ gtb := by decide +kernel
theorem cls_w9 : ∀ w ∈ wsX90, w ∈ gtb := by decide +kernel
theorem cls_w10 : ∀ w ∈ wsX100, w ∈ gtb := by decide +kernel
def clsP (ci : Nat) : Prop := vwCl[ci]? = some (Cof ci, Tof ci, nfl ci) ∧ (∀ w ∈ u_ws (Cof ci) (Tof ci) (nfl ci), w ∈ gtb) ∧ (∀ k, k < nfl ci → parseFieldDescriptor (Tof ci k).2.2.1 = some (Tyof ci k)) ∧ (∀ a, a < nfl ci → ∀ b, b < nfl ci → a ≠ b → (Tof ci a).2.1 ≠ (Tof ci b).2.1)
theorem cls_ok : ∀ ci, ci < 11 → clsP ci := by
  intro ci h
  match ci, h with
  | 0, _ => exact ⟨rfl, cls_w0, tyX0_ok, nmX0⟩
  | 1, _ => exact ⟨rfl, cls_w1, tyX1_ok, nmX1⟩
  | 2, _ => exact ⟨rfl, cls_w2, tyX2_ok, nmX2⟩
  | 3, _ => exact ⟨rfl, cls_w3, tyX3_ok, nmX3⟩
  | 4, _ => exact ⟨rfl, cls_w4, tyX4_ok, nmX4⟩
  | 5, _ => exact ⟨rfl, cls_w5, tyX5_ok, nmX5⟩
  | 6, _ => exact ⟨rfl, cls_w6, tyX6_ok, nmX6⟩
  | 7, _ => exact ⟨rfl, cls_w7, tyX7_ok, nmX7⟩
  | 8, _ => exact ⟨rfl, cls_w8, tyX8_ok, nmX8⟩
  | 9, _ => exact ⟨rfl, cls_w9, tyX9_ok, nmX9⟩
  | 10, _ => exact ⟨rfl, cls_w10, tyX10_ok, nmX10⟩
theorem cls_lt {ci k : Nat} (h : k < nfl ci) : ci < 11 := by
  rcases Nat.lt_or_ge ci 11 with q | q
  · exact q
  · exfalso
    have : nfl ci = 0 := by
      unfold nfl
      rw [List.getD_eq_getElem?_getD, List.getElem?_eq_none (by simpa using q)]
      rfl
    omega
theorem flv_get {ad : Nat → Nat} {I : Nat → Int32} {P : Nat → Option Nat} {c k : Nat} (hk : k < nfl c) : (flv ad I P c)[k]? = some (if isR c k then va_rf ((P k).map ad) else .int (I k)) := by
  simp [flv, hk]
theorem flv_len {ad : Nat → Nat} {I : Nat → Int32} {P : Nat → Option Nat} {c : Nat} : (flv ad I P c).length = nfl c := by simp [flv]
theorem flv_setI {ad : Nat → Nat} {I I' : Nat → Int32} {P : Nat → Option Nat} {c k : Nat} {v : Int32} (hr : isR c k = false) (h1 : I' k = v) (h2 : ∀ j, j ≠ k → I' j = I j) : (flv ad I P c).set k (.int v) = flv ad I' P c := by
  apply List.ext_getElem?
  intro j
  by_cases hj : j < nfl c
  · by_cases e : j = k
    · subst e
      rw [List.getElem?_set_self (by rw [flv_len]; exact hj), flv_get hj, hr, h1]
      rfl
    · rw [List.getElem?_set_ne (Ne.symm e), flv_get hj, flv_get hj, h2 j e]
  · rw [List.getElem?_eq_none (by rw [List.length_set, flv_len]; omega), List.getElem?_eq_none (by rw [flv_len]; omega)]
theorem flv_setR {ad : Nat → Nat} {I : Nat → Int32} {P P' : Nat → Option Nat} {c k : Nat} {v : Option Nat} (hr : isR c k = true) (h1 : P' k = v) (h2 : ∀ j, j ≠ k → P' j = P j) : (flv ad I P c).set k (va_rf (v.map ad)) = flv ad I P' c := by
  apply List.ext_getElem?
  intro j
  by_cases hj : j < nfl c
  · by_cases e : j = k
    · subst e
      rw [List.getElem?_set_self (by rw [flv_len]; exact hj), flv_get hj, hr, h1]
      rfl
    · rw [List.getElem?_set_ne (Ne.symm e), flv_get hj, flv_get hj, h2 j e]
  · rw [List.getElem?_eq_none (by rw [List.length_set, flv_len]; omega), List.getElem?_eq_none (by rw [flv_len]; omega)]
theorem up2_at {α : Type} {f : Nat → Nat → α} {a k : Nat} {v : α} : up2 f a k v a k = v := by simp [up2]
theorem up2_row {α : Type} {f : Nat → Nat → α} {a k j : Nat} {v : α} (h : j ≠ k) : up2 f a k v a j = f a j := by simp [up2, h]
theorem up2_ne {α : Type} {f : Nat → Nat → α} {a k b : Nat} {v : α} (h : b ≠ a) : up2 f a k v b = f b := by
  funext j
  simp [up2, h]
/-- a memory with an int changed -/
abbrev wI (M : Mm) (a k : Nat) (v : Int32) : Mm := (up2 (mI M) a k v, M.2)
abbrev wP (M : Mm) (a k : Nat) (v : Option Nat) : Mm := (mI M, up2 (mP M) a k v, M.2.2)
abbrev wJ (M : Mm) (a k : Nat) (v : Int64) : Mm := (mI M, mP M, up2 (mJ M) a k v, M.2.2.2)
/-- an object, an array of a kind -/
abbrev ob (M : Mm) (a ci : Nat) : Prop := a < mN M ∧ mS M a = (0, ci)
abbrev ar (M : Mm) (a t n : Nat) : Prop := a < mN M ∧ mS M a = (t, n)
section MEM
variable {d kc ks : Nat} {y : Yt} {pc : Nat} {L L' : List (Option Value)} {st : List Value} {M : Mm} {Q : Option Value → Mm → Prop}
theorem cel_o {ad : Nat → Nat} {cA : Nat → ClassId} {a ci : Nat} (h : mS M a = (0, ci)) : cel ad cA M a = .inr (ci, flv ad (mI M a) (mP M a) ci) := by simp [cel, h]
theorem cel_i {ad : Nat → Nat} {cA : Nat → ClassId} {a n : Nat} (t : Nat) (ht : t = 1 ∨ t = 2 ∨ t = 3) (h : mS M a = (t, n)) : cel ad cA M a = .inl (cA t, n, .inl (mI M a)) := by
  rcases ht with rfl | rfl | rfl <;> simp [cel, h]
theorem cel_j {ad : Nat → Nat} {cA : Nat → ClassId} {a n : Nat} (h : mS M a = (4, n)) : cel ad cA M a = .inl (cA 4, n, .inr (.inl (mJ M a))) := by simp [cel, h]
theorem cel_r {ad : Nat → Nat} {cA : Nat → ClassId} {a n : Nat} (t : Nat) (ht : t = 5 ∨ t = 6) (h : mS M a = (t, n)) : cel ad cA M a = .inl (cA t, n, .inr (.inr (.inr (.inr (fun k => (mP M a k).map ad))))) := by
  rcases ht with rfl | rfl <;> simp [cel, h]
theorem cel_oI {ad : Nat → Nat} {cA : Nat → ClassId} {a k j : Nat} {v : Int32} (h : j ≠ a) : cel ad cA (wI M a k v) j = cel ad cA M j := by
  have e : up2 (mI M) a k v j = mI M j := up2_ne h
  simp only [cel, mI, wI] at e ⊢
  rw [e]
theorem cel_oP {ad : Nat → Nat} {cA : Nat → ClassId} {a k j : Nat} {v : Option Nat} (h : j ≠ a) : cel ad cA (wP M a k v) j = cel ad cA M j := by
  have e : up2 (mP M) a k v j = mP M j := up2_ne h
  simp only [cel, mP, wP] at e ⊢
  rw [e]
theorem cel_oJ {ad : Nat → Nat} {cA : Nat → ClassId} {a k j : Nat} {v : Int64} (h : j ≠ a) : cel ad cA (wJ M a k v) j = cel ad cA M j := by
  have e : up2 (mJ M) a k v j = mJ M j := up2_ne h
  simp only [cel, mJ, wJ] at e ⊢
  rw [e]
theorem Iv.set {s : State} {D : va_G} {cA : Nat → ClassId} {A : Nat → Prop} {ad : Nat → Nat} {M' : Mm} {H0 H H1 : Heap} {locs locs1 : List Loc} {id : Nat} {x : va_E} (V : Iv s D cA A ad M H0 H locs) (hn : mN M' = mN M) (hp : ∀ id k a, mP M' id k = some a → a < mN M') (hx : cel ad cA M' id = x) (ho : ∀ j, j ≠ id → cel ad cA M' j = cel ad cA M j)
    (g1 : va_P D vwCl ((wsO ad cA M).set id (ad id, x)) H1) (g2 : va_D A ((wsO ad cA M).set id (ad id, x))) (g3 : va_S A H0 H1 locs1) : Iv s D cA A ad M' H0 H1 locs1 := by
  rw [wsO_set hn hx ho] at g1 g2
  exact ⟨V.1, g1, g2, g3, V.2.2.2.2.1, hp⟩
/-- the link of a field in a method's class -/
abbrev lnk (y : Yt) (idx ci k : Nat) : Prop := Cond.fieldLink y.1.cls idx (Tof ci k).1 (Tof ci k).2.1 (Tof ci k).2.2.1 ∈ gtb
theorem r_getI {a : Nat} (ci k idx : Nat) (hd : decode y.2.1 pc = .ok (.getfield idx, 3)) (hl : lnk y idx ci k) (hk : k < nfl ci) (hr : isR ci k = false) (ho : ob M a ci) (kk : wp d kc ks y (pc + 3) L (.int (mI M a k) :: st) M Q) : wp d kc ks y pc L (.ref a :: st) M Q := by
  intro p l e R s m args below meth c D cA A ad H locs cells slots Qm ls C h1 h2 h3 h4 V hL hS F
  have ok := cls_ok ci (cls_lt hk)
  exact va_get (D := D) (ci := ci) (v := .int (mI M a k)) C.1 C.2.1 C.2.2.2.2.2.1 ok.2.1 C.2.2.2.2.1 V.1 V.2.1 a (by rw [wsO_get ho.1, cel_o ho.2]) ok.1 k hk (C.2.2.2.2.2.1 _ hl) (fun _ h => h) (by rw [flv_get hk, hr]; rfl) hd (kk p l e R s m args below meth c D cA A ad H locs cells slots Qm ls C h1 h2 h3 h4 V hL (hS.tl.cons trivial) F)
theorem r_getR {a : Nat} (ci k idx : Nat) {x : Option Nat} (hd : decode y.2.1 pc = .ok (.getfield idx, 3)) (hl : lnk y idx ci k) (hk : k < nfl ci) (hr : isR ci k = true) (ho : ob M a ci) (hx : mP M a k = x) (kk : wp d kc ks y (pc + 3) L (va_rf x :: st) M Q) : wp d kc ks y pc L (.ref a :: st) M Q := by
  intro p l e R s m args below meth c D cA A ad H locs cells slots Qm ls C h1 h2 h3 h4 V hL hS F
  subst hx
  have ok := cls_ok ci (cls_lt hk)
  have g := kk p l e R s m args below meth c D cA A ad H locs cells slots Qm ls C h1 h2 h3 h4 V hL (hS.tl.cons (okV_rf (fun b hb => V.2.2.2.2.2 a k b hb))) F
  rw [List.map_cons, tr_rf] at g
  exact va_get (D := D) (ci := ci) (v := va_rf ((mP M a k).map ad)) C.1 C.2.1 C.2.2.2.2.2.1 ok.2.1 C.2.2.2.2.1 V.1 V.2.1 a (by rw [wsO_get ho.1, cel_o ho.2]) ok.1 k hk (C.2.2.2.2.2.1 _ hl) (fun _ h => h) (by rw [flv_get hk, hr]; rfl) hd g
theorem r_get1 {a b : Nat} (ci k idx : Nat) (hd : decode y.2.1 pc = .ok (.getfield idx, 3)) (hl : lnk y idx ci k) (hk : k < nfl ci) (hr : isR ci k = true) (ho : ob M a ci) (hx : mP M a k = some b) (kk : wp d kc ks y (pc + 3) L (.ref b :: st) M Q) : wp d kc ks y pc L (.ref a :: st) M Q := r_getR ci k idx hd hl hk hr ho hx kk
theorem r_putI {a : Nat} {v : Int32} (ci k idx : Nat) (hd : decode y.2.1 pc = .ok (.putfield idx, 3)) (hl : lnk y idx ci k) (hk : k < nfl ci) (ht : Tyof ci k = .int) (hf : (Tof ci k).2.2.2 = false) (ho : ob M a ci) (kk : wp d kc ks y (pc + 3) L st (wI M a k v) Q) : wp d kc ks y pc L (.int v :: .ref a :: st) M Q := by
  intro p l e R s m args below meth c D cA A ad H locs cells slots Qm ls C h1 h2 h3 h4 V hL hS F
  have ok := cls_ok ci (cls_lt hk)
  have hr : isR ci k = false := by simp [isR, ht, refl_t]
  refine va_put (D := D) (ci := ci) (v := .int v) (ty := .int) C.1 C.2.1 C.2.2.2.2.2.1 ok.2.1 (Tyof ci) ok.2.2.1 ok.2.2.2 C.2.2.2.2.1 V.1 V.2.1 V.2.2.1 V.2.2.2.1 a (by rw [wsO_get ho.1, cel_o ho.2]) ok.1 k hk (C.2.2.2.2.2.1 _ hl) (fun _ h => h) hf (by rw [ok.2.2.1 k hk, ht]) rfl rfl (by rw [flv_len]; exact hk) hd (fun H1 locs1 g1 g2 g3 => ?_)
  exact kk p l e R s m args below meth c D cA A ad H1 locs1 cells slots Qm ls C h1 h2 h3 h4 (V.set rfl V.2.2.2.2.2 ((cel_o (M := wI M a k v) ho.2).trans (by rw [flv_setI hr (I' := mI (wI M a k v) a) up2_at (fun j hj => up2_row hj)])) (fun j hj => cel_oI hj) g1 g2 g3) hL hS.tl.tl F
theorem r_putZ {a : Nat} {v : Int32} (ci k idx : Nat) (hd : decode y.2.1 pc = .ok (.putfield idx, 3)) (hl : lnk y idx ci k) (hk : k < nfl ci) (ht : Tyof ci k = .boolean) (hf : (Tof ci k).2.2.2 = false) (ho : ob M a ci) (hv : v = 0 ∨ v = 1) (kk : wp d kc ks y (pc + 3) L st (wI M a k v) Q) : wp d kc ks y pc L (.int v :: .ref a :: st) M Q := by
  intro p l e R s m args below meth c D cA A ad H locs cells slots Qm ls C h1 h2 h3 h4 V hL hS F
  have ok := cls_ok ci (cls_lt hk)
  have hr : isR ci k = false := by simp [isR, ht, refl_t]
  refine va_put (D := D) (ci := ci) (v := .int v) (ty := .boolean) C.1 C.2.1 C.2.2.2.2.2.1 ok.2.1 (Tyof ci) ok.2.2.1 ok.2.2.2 C.2.2.2.2.1 V.1 V.2.1 V.2.2.1 V.2.2.2.1 a (by rw [wsO_get ho.1, cel_o ho.2]) ok.1 k hk (C.2.2.2.2.2.1 _ hl) (fun _ h => h) hf (by rw [ok.2.2.1 k hk, ht]) (by rcases hv with rfl | rfl <;> rfl) (by rcases hv with rfl | rfl <;> rfl) (by rw [flv_len]; exact hk) hd (fun H1 locs1 g1 g2 g3 => ?_)
  exact kk p l e R s m args below meth c D cA A ad H1 locs1 cells slots Qm ls C h1 h2 h3 h4 (V.set rfl V.2.2.2.2.2 ((cel_o (M := wI M a k v) ho.2).trans (by rw [flv_setI hr (I' := mI (wI M a k v) a) up2_at (fun j hj => up2_row hj)])) (fun j hj => cel_oI hj) g1 g2 g3) hL hS.tl.tl F
theorem nar_ref {ty : FieldType} (h : refl_t ty = true) (x : Option Nat) : narrow ty (va_rf x) = va_rf x ∧ fits ty (va_rf x) = true := by
  cases ty <;> first | (cases x <;> exact ⟨rfl, rfl⟩) | cases h
theorem wP_ok {a k : Nat} {x : Option Nat} (h : ∀ id k a, mP M id k = some a → a < mN M) (hx : ∀ b, x = some b → b < mN M) : ∀ id j b, mP (wP M a k x) id j = some b → b < mN (wP M a k x) := by
  intro id j b hb
  have hb : up2 (mP M) a k x id j = some b := hb
  unfold up2 at hb
  split at hb
  · exact hx b hb
  · exact h id j b hb
theorem rf_ok {n : Nat} {x : Option Nat} (h : okV n (va_rf x)) : ∀ b, x = some b → b < n := by
  intro b hb
  subst hb
  exact h
theorem r_putR {a : Nat} {x : Option Nat} (ci k idx : Nat) (hd : decode y.2.1 pc = .ok (.putfield idx, 3)) (hl : lnk y idx ci k) (hk : k < nfl ci) (hr : isR ci k = true) (hf : (Tof ci k).2.2.2 = false) (ho : ob M a ci) (kk : wp d kc ks y (pc + 3) L st (wP M a k x) Q) : wp d kc ks y pc L (va_rf x :: .ref a :: st) M Q := by
  intro p l e R s m args below meth c D cA A ad H locs cells slots Qm ls C h1 h2 h3 h4 V hL hS F
  have ok := cls_ok ci (cls_lt hk)
  have nf := nar_ref hr (x.map ad)
  show W p l e R s m args below meth c H locs cells slots Qm (F0 m pc ls (tr ad (va_rf x) :: .ref (ad a) :: st.map (tr ad)))
  rw [tr_rf]
  refine va_put (D := D) (ci := ci) (v := va_rf (x.map ad)) (ty := Tyof ci k) C.1 C.2.1 C.2.2.2.2.2.1 ok.2.1 (Tyof ci) ok.2.2.1 ok.2.2.2 C.2.2.2.2.1 V.1 V.2.1 V.2.2.1 V.2.2.2.1 a (by rw [wsO_get ho.1, cel_o ho.2]) ok.1 k hk (C.2.2.2.2.2.1 _ hl) (fun _ h => h) hf (ok.2.2.1 k hk) nf.1 nf.2 (by rw [flv_len]; exact hk) hd (fun H1 locs1 g1 g2 g3 => ?_)
  exact kk p l e R s m args below meth c D cA A ad H1 locs1 cells slots Qm ls C h1 h2 h3 h4 (V.set (M' := wP M a k x) rfl (wP_ok V.2.2.2.2.2 (rf_ok hS.hd)) ((cel_o (M := wP M a k x) ho.2).trans (by rw [flv_setR hr (P' := mP (wP M a k x) a) up2_at (fun j hj => up2_row hj)])) (fun j hj => cel_oP hj) g1 g2 g3) hL hS.tl.tl F
theorem r_put1 {a b : Nat} (ci k idx : Nat) (hd : decode y.2.1 pc = .ok (.putfield idx, 3)) (hl : lnk y idx ci k) (hk : k < nfl ci) (hr : isR ci k = true) (hf : (Tof ci k).2.2.2 = false) (ho : ob M a ci) (kk : wp d kc ks y (pc + 3) L st (wP M a k (some b)) Q) : wp d kc ks y pc L (.ref b :: .ref a :: st) M Q := r_putR (x := some b) ci k idx hd hl hk hr hf ho kk
/-- a final field, in a constructor -/
theorem r_putF {a b : Nat} (ci k idx : Nat) (hd : decode y.2.1 pc = .ok (.putfield idx, 3)) (hl : lnk y idx ci k) (hk : k < nfl ci) (hr : isR ci k = true) (hf : (Tof ci k).2.2.2 = true) (hin : y.1.name = "<init>") (hdc : (Tof ci k).1 = y.1.cls) (ho : ob M a ci) (kk : wp d kc ks y (pc + 3) L st (wP M a k (some b)) Q) : wp d kc ks y pc L (.ref b :: .ref a :: st) M Q := by
  intro p l e R s m args below meth c D cA A ad H locs cells slots Qm ls C h1 h2 h3 h4 V hL hS F
  have ok := cls_ok ci (cls_lt hk)
  have nf := nar_ref hr (some (ad b))
  refine va_putF (D := D) (ci := ci) (v := va_rf (some (ad b))) (ty := Tyof ci k) C.1 C.2.1 C.2.2.2.2.2.1 ok.2.1 (Tyof ci) ok.2.2.1 ok.2.2.2 C.2.2.2.2.1 V.1 V.2.1 V.2.2.1 V.2.2.2.1 a (by rw [wsO_get ho.1, cel_o ho.2]) ok.1 k hk (C.2.2.2.2.2.1 _ hl) (fun _ h => h) hf (C.2.2.2.2.2.2.2.1 hin) hdc (ok.2.2.1 k hk) nf.1 nf.2 (by rw [flv_len]; exact hk) hd (fun H1 locs1 g1 g2 g3 => ?_)
  exact kk p l e R s m args below meth c D cA A ad H1 locs1 cells slots Qm ls C h1 h2 h3 h4 (V.set (M' := wP M a k (some b)) rfl (wP_ok V.2.2.2.2.2 (fun z hz => by cases hz; exact hS.hd)) ((cel_o (M := wP M a k (some b)) ho.2).trans (by rw [show (va_rf (some (ad b)) : Value) = va_rf ((some b : Option Nat).map ad) from rfl, flv_setR hr (P' := mP (wP M a k (some b)) a) up2_at (fun j hj => up2_row hj)])) (fun j hj => cel_oP hj) g1 g2 g3) hL hS.tl.tl F
theorem up2_upd {I : Nat → Nat → Int32} {a k : Nat} {v : Int32} : up2 I a k v a = upd (I a) k v := by
  funext j
  simp [up2, upd]
theorem up2_updL {I : Nat → Nat → Int64} {a k : Nat} {v : Int64} : up2 I a k v a = vp_updL (I a) k v := by
  funext j
  simp [up2, vp_updL]
theorem r_iald {a n : Nat} {i : Int32} (hd : decode y.2.1 pc = .ok (.iaload, 1)) (ha : ar M a 1 n) (hi : vp_in i n) (kk : wp d kc ks y (pc + 1) L (.int (mI M a i.toNatClampNeg) :: st) M Q) : wp d kc ks y pc L (.int i :: .ref a :: st) M Q := by
  intro p l e R s m args below meth c D cA A ad H locs cells slots Qm ls C h1 h2 h3 h4 V hL hS F
  exact va_iald (D := D) C.1 C.2.1 V.1 V.2.1 a 0 (by rw [wsO_get ha.1, cel_i 1 (by decide) ha.2]) rfl hi hd (kk p l e R s m args below meth c D cA A ad H locs cells slots Qm ls C h1 h2 h3 h4 V hL (hS.tl.tl.cons trivial) F)
theorem r_bald {a n : Nat} {i : Int32} (hd : decode y.2.1 pc = .ok (.baload, 1)) (ha : ar M a 2 n) (hi : vp_in i n) (kk : wp d kc ks y (pc + 1) L (.int (mI M a i.toNatClampNeg) :: st) M Q) : wp d kc ks y pc L (.int i :: .ref a :: st) M Q := by
  intro p l e R s m args below meth c D cA A ad H locs cells slots Qm ls C h1 h2 h3 h4 V hL hS F
  exact va_bald (D := D) C.1 C.2.1 V.1 V.2.1 a 1 (by rw [wsO_get ha.1, cel_i 2 (by decide) ha.2]) rfl hi hd (kk p l e R s m args below meth c D cA A ad H locs cells slots Qm ls C h1 h2 h3 h4 V hL (hS.tl.tl.cons trivial) F)
theorem r_zald {a n : Nat} {i : Int32} (hd : decode y.2.1 pc = .ok (.baload, 1)) (ha : ar M a 3 n) (hi : vp_in i n) (kk : wp d kc ks y (pc + 1) L (.int (mI M a i.toNatClampNeg) :: st) M Q) : wp d kc ks y pc L (.int i :: .ref a :: st) M Q := by
  intro p l e R s m args below meth c D cA A ad H locs cells slots Qm ls C h1 h2 h3 h4 V hL hS F
  exact va_zald (D := D) C.1 C.2.1 V.1 V.2.1 a 2 (by rw [wsO_get ha.1, cel_i 3 (by decide) ha.2]) rfl hi hd (kk p l e R s m args below meth c D cA A ad H locs cells slots Qm ls C h1 h2 h3 h4 V hL (hS.tl.tl.cons trivial) F)
theorem r_lald {a n : Nat} {i : Int32} (hd : decode y.2.1 pc = .ok (.laload, 1)) (ha : ar M a 4 n) (hi : vp_in i n) (kk : wp d kc ks y (pc + 1) L (.long (mJ M a i.toNatClampNeg) :: st) M Q) : wp d kc ks y pc L (.int i :: .ref a :: st) M Q := by
  intro p l e R s m args below meth c D cA A ad H locs cells slots Qm ls C h1 h2 h3 h4 V hL hS F
  exact va_lald (D := D) C.1 C.2.1 V.1 V.2.1 a 3 (by rw [wsO_get ha.1, cel_j ha.2]) rfl hi hd (kk p l e R s m args below meth c D cA A ad H locs cells slots Qm ls C h1 h2 h3 h4 V hL (hS.tl.tl.cons trivial) F)
/-- an array of references: of trades (5), of arrays of ints (6) -/
theorem r_aald {a n : Nat} {i : Int32} (t : Nat) {x : Option Nat} (hd : decode y.2.1 pc = .ok (.aaload, 1)) (ht : t = 5 ∨ t = 6) (ha : ar M a t n) (hi : vp_in i n) (hx : mP M a i.toNatClampNeg = x) (kk : wp d kc ks y (pc + 1) L (va_rf x :: st) M Q) : wp d kc ks y pc L (.int i :: .ref a :: st) M Q := by
  intro p l e R s m args below meth c D cA A ad H locs cells slots Qm ls C h1 h2 h3 h4 V hL hS F
  subst hx
  have g := kk p l e R s m args below meth c D cA A ad H locs cells slots Qm ls C h1 h2 h3 h4 V hL (hS.tl.tl.cons (okV_rf (fun b hb => V.2.2.2.2.2 a _ b hb))) F
  rw [List.map_cons, tr_rf] at g
  have hP := V.2.1 a _ (by rw [wsO_get ha.1, cel_r t ht ha.2])
  have hlt : i.toNatClampNeg < n := Nat.not_le.mp fun q => hi (Or.inr q)
  rcases ht with rfl | rfl
  · exact W.aald (v := va_rf ((mP M a i.toNatClampNeg).map ad)) (ty := .object "PriceUpon$Trade") C.1 C.2.1 hP ((V.1.2 4 _ rfl).1 n (fun j => va_rf ((mP M a j).map ad))) rfl (fun q => by cases q) (by show ¬ (i < 0 ∨ (arrV _ _ _).slots.size ≤ _); rw [arrV_size]; exact hi) (by show (arrV _ _ _).slots[_]? = _; rw [arrV_read _ _ hlt]) rfl rfl hd g
  · exact W.aald (v := va_rf ((mP M a i.toNatClampNeg).map ad)) (ty := .array .int) C.1 C.2.1 hP ((V.1.2 5 _ rfl).1 n (fun j => va_rf ((mP M a j).map ad))) rfl (fun q => by cases q) (by show ¬ (i < 0 ∨ (arrV _ _ _).slots.size ≤ _); rw [arrV_size]; exact hi) (by show (arrV _ _ _).slots[_]? = _; rw [arrV_read _ _ hlt]) rfl rfl hd g
theorem r_aald1 {a n b : Nat} {i : Int32} (t : Nat) (hd : decode y.2.1 pc = .ok (.aaload, 1)) (ht : t = 5 ∨ t = 6) (ha : ar M a t n) (hi : vp_in i n) (hx : mP M a i.toNatClampNeg = some b) (kk : wp d kc ks y (pc + 1) L (.ref b :: st) M Q) : wp d kc ks y pc L (.int i :: .ref a :: st) M Q := r_aald t hd ht ha hi hx kk
theorem r_iast {a n : Nat} {i v : Int32} (hd : decode y.2.1 pc = .ok (.iastore, 1)) (ha : ar M a 1 n) (hi : vp_in i n) (kk : wp d kc ks y (pc + 1) L st (wI M a i.toNatClampNeg v) Q) : wp d kc ks y pc L (.int v :: .int i :: .ref a :: st) M Q := by
  intro p l e R s m args below meth c D cA A ad H locs cells slots Qm ls C h1 h2 h3 h4 V hL hS F
  refine va_iast (D := D) C.1 C.2.1 V.1 V.2.1 V.2.2.1 V.2.2.2.1 a 0 (by rw [wsO_get ha.1, cel_i 1 (by decide) ha.2]) rfl hi hd (fun H1 locs1 g1 g2 g3 => ?_)
  exact kk p l e R s m args below meth c D cA A ad H1 locs1 cells slots Qm ls C h1 h2 h3 h4 (V.set (M' := wI M a i.toNatClampNeg v) rfl V.2.2.2.2.2 ((cel_i (M := wI M a i.toNatClampNeg v) 1 (by decide) ha.2).trans (by rw [show mI (wI M a i.toNatClampNeg v) a = upd (mI M a) i.toNatClampNeg v from up2_upd])) (fun j hj => cel_oI hj) g1 g2 g3) hL hS.tl.tl.tl F
theorem r_bast {a n : Nat} {i v : Int32} (hd : decode y.2.1 pc = .ok (.bastore, 1)) (ha : ar M a 2 n) (hi : vp_in i n) (kk : wp d kc ks y (pc + 1) L st (wI M a i.toNatClampNeg (vp_nar .byte v)) Q) : wp d kc ks y pc L (.int v :: .int i :: .ref a :: st) M Q := by
  intro p l e R s m args below meth c D cA A ad H locs cells slots Qm ls C h1 h2 h3 h4 V hL hS F
  refine va_bast (D := D) C.1 C.2.1 V.1 V.2.1 V.2.2.1 V.2.2.2.1 a 1 (by rw [wsO_get ha.1, cel_i 2 (by decide) ha.2]) rfl hi hd (fun H1 locs1 g1 g2 g3 => ?_)
  exact kk p l e R s m args below meth c D cA A ad H1 locs1 cells slots Qm ls C h1 h2 h3 h4 (V.set (M' := wI M a i.toNatClampNeg (vp_nar .byte v)) rfl V.2.2.2.2.2 ((cel_i (M := wI M a i.toNatClampNeg (vp_nar .byte v)) 2 (by decide) ha.2).trans (by rw [show mI (wI M a i.toNatClampNeg (vp_nar .byte v)) a = upd (mI M a) i.toNatClampNeg (vp_nar .byte v) from up2_upd])) (fun j hj => cel_oI hj) g1 g2 g3) hL hS.tl.tl.tl F
theorem r_zast {a n : Nat} {i v : Int32} (hd : decode y.2.1 pc = .ok (.bastore, 1)) (ha : ar M a 3 n) (hi : vp_in i n) (hv : v = 0 ∨ v = 1) (kk : wp d kc ks y (pc + 1) L st (wI M a i.toNatClampNeg v) Q) : wp d kc ks y pc L (.int v :: .int i :: .ref a :: st) M Q := by
  intro p l e R s m args below meth c D cA A ad H locs cells slots Qm ls C h1 h2 h3 h4 V hL hS F
  have ev : vp_nar .boolean v = v := by rcases hv with rfl | rfl <;> rfl
  refine va_zast (D := D) C.1 C.2.1 V.1 V.2.1 V.2.2.1 V.2.2.2.1 a 2 (by rw [wsO_get ha.1, cel_i 3 (by decide) ha.2]) rfl hi hd (fun H1 locs1 g1 g2 g3 => ?_)
  rw [ev] at g1 g2
  exact kk p l e R s m args below meth c D cA A ad H1 locs1 cells slots Qm ls C h1 h2 h3 h4 (V.set (M' := wI M a i.toNatClampNeg v) rfl V.2.2.2.2.2 ((cel_i (M := wI M a i.toNatClampNeg v) 3 (by decide) ha.2).trans (by rw [show mI (wI M a i.toNatClampNeg v) a = upd (mI M a) i.toNatClampNeg v from up2_upd])) (fun j hj => cel_oI hj) g1 g2 g3) hL hS.tl.tl.tl F
theorem r_last {a n : Nat} {i : Int32} {v : Int64} (hd : decode y.2.1 pc = .ok (.lastore, 1)) (ha : ar M a 4 n) (hi : vp_in i n) (kk : wp d kc ks y (pc + 1) L st (wJ M a i.toNatClampNeg v) Q) : wp d kc ks y pc L (.long v :: .int i :: .ref a :: st) M Q := by
  intro p l e R s m args below meth c D cA A ad H locs cells slots Qm ls C h1 h2 h3 h4 V hL hS F
  refine va_last (D := D) C.1 C.2.1 V.1 V.2.1 V.2.2.1 V.2.2.2.1 a 3 (by rw [wsO_get ha.1, cel_j ha.2]) rfl hi hd (fun H1 locs1 g1 g2 g3 => ?_)
  exact kk p l e R s m args below meth c D cA A ad H1 locs1 cells slots Qm ls C h1 h2 h3 h4 (V.set (M' := wJ M a i.toNatClampNeg v) rfl V.2.2.2.2.2 ((cel_j (M := wJ M a i.toNatClampNeg v) ha.2).trans (by rw [show mJ (wJ M a i.toNatClampNeg v) a = vp_updL (mJ M a) i.toNatClampNeg v from up2_updL])) (fun j hj => cel_oJ hj) g1 g2 g3) hL hS.tl.tl.tl F
/-- a trade put among the trades -/
theorem r_aast {a n b : Nat} {i : Int32} (hd : decode y.2.1 pc = .ok (.aastore, 1)) (ha : ar M a 5 n) (hi : vp_in i n) (hb : ob M b 8) (kk : wp d kc ks y (pc + 1) L st (wP M a i.toNatClampNeg (some b)) Q) : wp d kc ks y pc L (.ref b :: .int i :: .ref a :: st) M Q := by
  intro p l e R s m args below meth c D cA A ad H locs cells slots Qm ls C h1 h2 h3 h4 V hL hS F
  refine va_astq (D := D) C.1 C.2.1 V.1 V.2.1 V.2.2.1 V.2.2.2.1 a 4 b 8 (r := (RX8, TX8, 13)) (by rw [wsO_get ha.1, cel_r 5 (by decide) ha.2]) rfl (by rw [wsO_get hb.1, cel_o hb.2]) rfl hi hd (fun H1 locs1 g1 g2 g3 => ?_)
  refine kk p l e R s m args below meth c D cA A ad H1 locs1 cells slots Qm ls C h1 h2 h3 h4 (V.set (M' := wP M a i.toNatClampNeg (some b)) rfl (wP_ok V.2.2.2.2.2 (fun z hz => by cases hz; exact hb.1)) ((cel_r (M := wP M a i.toNatClampNeg (some b)) 5 (by decide) ha.2).trans ?_) (fun j hj => cel_oP hj) g1 g2 g3) hL hS.tl.tl.tl F
  have e : (fun k => (mP (wP M a i.toNatClampNeg (some b)) a k).map ad) = va_up (fun k => (mP M a k).map ad) i.toNatClampNeg (some (ad b)) := by
    funext k
    show (up2 (mP M) a i.toNatClampNeg (some b) a k).map ad = _
    unfold up2 va_up
    by_cases h : k = i.toNatClampNeg <;> simp [h]
  rw [e]
theorem r_alen {a n : Nat} (t : Nat) {v : Int32} (hd : decode y.2.1 pc = .ok (.arraylength, 1)) (ht : t = 1) (ha : ar M a t n) (hv : Int32.ofNat n = v) (kk : wp d kc ks y (pc + 1) L (.int v :: st) M Q) : wp d kc ks y pc L (.ref a :: st) M Q := by
  intro p l e R s m args below meth c D cA A ad H locs cells slots Qm ls C h1 h2 h3 h4 V hL hS F
  subst ht
  exact va_alen (D := D) C.1 C.2.1 V.1 V.2.1 a 0 (by rw [wsO_get ha.1, cel_i 1 (by decide) ha.2]) rfl hv hd (kk p l e R s m args below meth c D cA A ad H locs cells slots Qm ls C h1 h2 h3 h4 V hL (hS.tl.cons trivial) F)
end MEM
