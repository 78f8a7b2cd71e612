/-! ===== an abstract memory (ints, references, longs, shapes, how many cells), and what the machine does over it ===== -/
abbrev Mm : Type := (Nat → Nat → Int32) × (Nat → Nat → Option Nat) × (Nat → Nat → Int64) × (Nat → Nat × Nat) × Nat
abbrev mI (M : Mm) : Nat → Nat → Int32 := M.1
abbrev mP (M : Mm) : Nat → Nat → Option Nat := M.2.1
abbrev mJ (M : Mm) : Nat → Nat → Int64 := M.2.2.1
abbrev mS (M : Mm) : Nat → Nat × Nat := M.2.2.2.1
abbrev mN (M : Mm) : Nat := M.2.2.2.2
def up2 {α : Type} (f : Nat → Nat → α) (a k : Nat) (v : α) : Nat → Nat → α := fun b j => if b = a ∧ j = k then v else f b j
def nfl (c : Nat) : Nat := ([4, 6, 1, 4, 2, 12, 4, 6, 13, 12, 38] : List Nat).getD c 0
def refl_t (ty : FieldType) : Bool := match ty with
  | .object _ => true
  | .array _ => true
  | _ => false
def Cof (c : Nat) : String := ([RX0, RX1, RX2, RX3, RX4, RX5, RX6, RX7, RX8, RX9, RX10] : List String).getD c ""
def Tof (c : Nat) : u_T := ([TX0, TX1, TX2, TX3, TX4, TX5, TX6, TX7, TX8, TX9, TX10] : List u_T).getD c TX0
def Tyof (c : Nat) : Nat → FieldType := ([tyX0, tyX1, tyX2, tyX3, tyX4, tyX5, tyX6, tyX7, tyX8, tyX9, tyX10] : List (Nat → FieldType)).getD c tyX0
def isR (c k : Nat) : Bool := refl_t (Tyof c k)
def flv (ad : Nat → Nat) (I : Nat → Int32) (P : Nat → Option Nat) (c : Nat) : List Value := (List.range (nfl c)).map (fun k => if isR c k then va_rf ((P k).map ad) else .int (I k))
def cel (ad : Nat → Nat) (cA : Nat → ClassId) (M : Mm) (id : Nat) : va_E :=
  if (mS M id).1 = 0 then .inr ((mS M id).2, flv ad (mI M id) (mP M id) (mS M id).2)
  else if (mS M id).1 = 4 then .inl (cA 4, (mS M id).2, .inr (.inl (mJ M id)))
  else if (mS M id).1 = 5 then .inl (cA 5, (mS M id).2, .inr (.inr (.inr (.inr (fun k => (mP M id k).map ad)))))
  else if (mS M id).1 = 6 then .inl (cA 6, (mS M id).2, .inr (.inr (.inr (.inr (fun k => (mP M id k).map ad)))))
  else .inl (cA (mS M id).1, (mS M id).2, .inl (mI M id))
def wsO (ad : Nat → Nat) (cA : Nat → ClassId) (M : Mm) : va_W := (List.range (mN M)).map (fun id => (ad id, cel ad cA M id))
theorem wsO_get {ad : Nat → Nat} {cA : Nat → ClassId} {M : Mm} {id : Nat} (h : id < mN M) : (wsO ad cA M)[id]? = some (ad id, cel ad cA M id) := by
  simp [wsO, h]
theorem wsO_len {ad : Nat → Nat} {cA : Nat → ClassId} {M : Mm} : (wsO ad cA M).length = mN M := by simp [wsO]
/-- a world with one cell changed -/
theorem wsO_set {ad : Nat → Nat} {cA : Nat → ClassId} {M M' : Mm} {id : Nat} {x : va_E} (hn : mN M' = mN M) (hx : cel ad cA M' id = x) (ho : ∀ j, j ≠ id → cel ad cA M' j = cel ad cA M j) : (wsO ad cA M).set id (ad id, x) = wsO ad cA M' := by
  apply List.ext_getElem?
  intro j
  by_cases hj : j < mN M
  · by_cases e : j = id
    · subst e
      rw [List.getElem?_set_self (by rw [wsO_len]; exact hj), wsO_get (by rw [hn]; exact hj), hx]
    · rw [List.getElem?_set_ne (Ne.symm e), wsO_get hj, wsO_get (by rw [hn]; exact hj), ho j e]
  · rw [List.getElem?_eq_none (by rw [List.length_set, wsO_len]; omega), List.getElem?_eq_none (by rw [wsO_len, hn]; omega)]
/-- a world with one cell more -/
theorem wsO_push {ad : Nat → Nat} {cA : Nat → ClassId} {M M' : Mm} {q : Nat} {x : va_E} (hn : mN M' = mN M + 1) (hx : cel (va_up ad (mN M) q) cA M' (mN M) = x) (ho : ∀ j, j < mN M → cel (va_up ad (mN M) q) cA M' j = cel ad cA M j) : wsO ad cA M ++ [(q, x)] = wsO (va_up ad (mN M) q) cA M' := by
  unfold wsO
  rw [hn, List.range_succ, List.map_append, List.map_singleton, hx]
  congr 1
  · apply List.map_congr_left
    intro j hj
    have hj := List.mem_range.mp hj
    rw [ho j hj]
    simp [va_up, Nat.ne_of_lt hj]
  · simp [va_up]
def tr (ad : Nat → Nat) (v : Value) : Value := match v with
  | .ref a => .ref (ad a)
  | w => w
def okV (n : Nat) (v : Value) : Prop := match v with
  | .ref a => a < n
  | _ => True
theorem tr_cat (ad : Nat → Nat) (v : Value) : (tr ad v).category = v.category := by cases v <;> rfl
theorem tr_same {ad ad' : Nat → Nat} {n : Nat} (h : ∀ id, id < n → ad' id = ad id) {v : Value} (hv : okV n v) : tr ad' v = tr ad v := by
  cases v with
  | ref a => exact congrArg Value.ref (h a hv)
  | _ => rfl
theorem okV_le {n n' : Nat} (h : n ≤ n') {v : Value} (hv : okV n v) : okV n' v := by
  cases v with
  | ref a => exact Nat.lt_of_lt_of_le hv h
  | _ => trivial
theorem tr_rf (ad : Nat → Nat) (x : Option Nat) : tr ad (va_rf x) = va_rf (x.map ad) := by cases x <;> rfl
theorem okV_rf {n : Nat} {x : Option Nat} (h : ∀ a, x = some a → a < n) : okV n (va_rf x) := by
  cases x with
  | none => trivial
  | some a => exact h a rfl
def tysO (cA : Nat → ClassId) : List (ClassId × FieldType) := [(cA 1, .int), (cA 2, .byte), (cA 3, .boolean), (cA 4, .long), (cA 5, .object "PriceUpon$Trade"), (cA 6, .array .int)]
abbrev Yt : Type := MethodName × ByteArray × Nat × Option FieldType
def gtb : List Cond := lw_tbl.filter goodWord
theorem gt_of {w : Cond} (i : Nat) (h : tables_1[i]? = some w) (hg : goodWord w = true) : w ∈ gtb := List.mem_filter.mpr ⟨List.mem_append_right _ (List.mem_of_getElem? h), hg⟩
theorem gt_sel {w : Cond} (i : Nat) (h : (k2_sels lw_privs)[i]? = some w) (hg : goodWord w = true) : w ∈ gtb := List.mem_filter.mpr ⟨List.mem_append_left _ (List.mem_of_getElem? h), hg⟩
/-- the words that no list of good words holds: calls among the classes of the nest, arrays over classes -/
def nlk : List (String × Nat × MethodName) := [("PriceUpon", 11, ⟨"PriceUpon$Tape", "<init>", "()V"⟩), ("PriceUpon", 26, ⟨"PriceUpon$Trade", "<init>", "()V"⟩), ("PriceUpon$Trade", 38, ⟨"PriceUpon$Terms", "<init>", "()V"⟩), ("PriceUpon", 33, ⟨"PriceUpon$Terms", "<init>", "()V"⟩), ("PriceUpon", 40, ⟨"PriceUpon$Market", "<init>", "()V"⟩), ("PriceUpon$Market", 17, ⟨"PriceUpon$Terms", "<init>", "()V"⟩), ("PriceUpon", 50, ⟨"PriceUpon$Hand", "<init>", "()V"⟩), ("PriceUpon", 57, ⟨"PriceUpon$Healing", "<init>", "()V"⟩), ("PriceUpon", 64, ⟨"PriceUpon$Duel", "<init>", "()V"⟩), ("PriceUpon", 71, ⟨"PriceUpon$Joining", "<init>", "()V"⟩), ("PriceUpon", 78, ⟨"PriceUpon$Chances", "<init>", "()V"⟩), ("PriceUpon$Market", 84, ⟨"PriceUpon", "row", "(I)I"⟩), ("PriceUpon$Market", 118, ⟨"PriceUpon", "bestPrice", "([III)I"⟩), ("PriceUpon$Hand", 57, ⟨"PriceUpon", "bestPrice", "([III)I"⟩), ("PriceUpon$Duel", 39, ⟨"PriceUpon", "bestPrice", "([III)I"⟩)]
def XW (U : State) : Prop := (∀ q ∈ nlk, va_Nw (.methodLinkNest q.1 q.2.1 q.2.2 "PriceUpon") U) ∧ va_AO "PriceUpon$Trade" U ∧ va_AOA .int U
theorem va_AOA.moved {t : FieldType} {u U : State} (hvm : u.vm.Alike U.vm) (h : va_AOA t u) : va_AOA t U := Jvm.Stand.arrayOver_alikeB hvm h
theorem XW.warm {s U : State} (hW : s.WarmedH U.vm) (h : XW s) : XW U := ⟨fun q hq => va_Nw.warmM hW (h.1 q hq), h.2.1.moved hW.alike, h.2.2.moved hW.alike⟩
theorem XW.same {u U : State} (hv : u.vm = U.vm) (h : XW u) : XW U := ⟨fun q hq => va_Nw.same rfl hv (h.1 q hq), h.2.1.moved (hv ▸ Vm.Alike.refl u.vm), h.2.2.moved (hv ▸ Vm.Alike.refl u.vm)⟩
def Cx (p : Program) (s : State) (m : MethodId) (args : Array Value) (meth : Method) (c : Code) (y : Yt) : Prop :=
  p.tables.exec = Jvm.exec ∧ c.code = y.2.1 ∧ c.maxLocals = y.2.2.1 ∧ meth.sig.returnType = y.2.2.2 ∧ s.vm.findClass y.1.cls = some m.cls ∧ (∀ w ∈ gtb, w.before args s = true) ∧ meth.locks = false ∧ (y.1.name = "<init>" → meth.name = "<init>") ∧ XW s
def Iv (s : State) (D : va_G) (cA : Nat → ClassId) (A : Nat → Prop) (ad : Nat → Nat) (M : Mm) (H0 H : Heap) (locs : List Loc) : Prop :=
  va_K D vwCl (tysO cA) s ∧ va_P D vwCl (wsO ad cA M) H ∧ va_D A (wsO ad cA M) ∧ va_S A H0 H locs ∧ (∀ q, H0.size ≤ q → A q) ∧ (∀ id k a, mP M id k = some a → a < mN M)
def Lv (ls : Array Slot) (nL : Nat) (ad : Nat → Nat) (n : Nat) (L : List (Option Value)) : Prop := ls.size = nL ∧ lv_wf ls ∧ ∀ (i : Nat) (v : Value), L[i]? = some (some v) → ls[i]? = some (Slot.val (tr ad v)) ∧ okV n v
def Sv (n : Nat) (st : List Value) : Prop := ∀ v ∈ st, okV n v
def Rt (y : Yt) (pc : Nat) (r : Option Value) : Prop := match r with
  | none => decode y.2.1 pc = .ok (.return_, 1) ∧ y.2.2.2 = none
  | some (.int v) => decode y.2.1 pc = .ok (.ireturn, 1) ∧ ∃ ty, y.2.2.2 = some ty ∧ narrow ty (.int v) = .int v
  | some v => decode y.2.1 pc = .ok (.areturn, 1) ∧ (v = .null ∨ ∃ a, v = .ref a) ∧ ∃ rt, y.2.2.2 = some rt ∧ ((∃ n, rt = .object n) ∨ ∃ t, rt = .array t)
/-- from here, with these locals, this stack and this memory, the method ends with Q; d frames, kc cells and ks slots are enough -/
def wp (d kc ks : Nat) (y : Yt) (pc : Nat) (L : List (Option Value)) (st : List Value) (M : Mm) (Q : Option Value → Mm → Prop) : Prop :=
  ∀ (p : Program) (l : Launch) (e : Env) (R : Room) (s : State) (m : MethodId) (args : Array Value) (below : List Frame) (meth : Method) (c : Code) (D : va_G) (cA : Nat → ClassId) (A : Nat → Prop) (ad : Nat → Nat) (H : Heap) (locs : List Loc) (cells slots : Nat) (Qm : State → Prop) (ls : Array Slot),
    Cx p s m args meth c y → d ≤ R.frames → 40 * d ≤ R.locals → cells + kc ≤ R.cells → slots + ks ≤ R.slots → Iv s D cA A ad M s.heap H locs → Lv ls y.2.2.1 ad (mN M) L → Sv (mN M) st →
    (∀ (r : Option Value) (M' : Mm) (pcF : Nat) (lsF : Array Slot) (ad' : Nat → Nat) (H' : Heap) (locs' : List Loc), Q r M' → mN M ≤ mN M' → (∀ id, id < mN M → ad' id = ad id) → Iv s D cA A ad' M' s.heap H' locs' → (∀ v, r = some v → okV (mN M') v) → Rt y pcF r →
      W p l e R s m args below meth c H' locs' (cells + kc) (slots + ks) Qm (F0 m pcF lsF ((r.map (tr ad')).toList))) →
    W p l e R s m args below meth c H locs cells slots Qm (F0 m pc ls (st.map (tr ad)))
theorem Sv.tl {n : Nat} {v : Value} {st : List Value} (h : Sv n (v :: st)) : Sv n st := fun w hw => h w (List.mem_cons_of_mem _ hw)
theorem Sv.hd {n : Nat} {v : Value} {st : List Value} (h : Sv n (v :: st)) : okV n v := h v List.mem_cons_self
theorem Sv.cons {n : Nat} {v : Value} {st : List Value} (hv : okV n v) (h : Sv n st) : Sv n (v :: st) := fun w hw => (List.mem_cons.mp hw).elim (fun e => e ▸ hv) (h w)
def lvl (ad : Nat → Nat) (L : List (Option Value)) : List (Nat × Value) := (List.range L.length).filterMap (fun i => (L[i]?.join).map (fun v => (i, tr ad v)))
theorem lvl_mem {ad : Nat → Nat} {L : List (Option Value)} {i : Nat} {w : Value} : (i, w) ∈ lvl ad L ↔ ∃ v, L[i]? = some (some v) ∧ w = tr ad v := by
  unfold lvl
  rw [List.mem_filterMap]
  constructor
  · rintro ⟨j, -, hj⟩
    cases h : L[j]?.join with
    | none => rw [h] at hj; cases hj
    | some v =>
      rw [h] at hj
      simp only [Option.map_some, Option.some.injEq, Prod.mk.injEq] at hj
      obtain ⟨rfl, rfl⟩ := hj
      exact ⟨v, by simpa [Option.join_eq_some_iff] using h, rfl⟩
  · rintro ⟨v, hv, rfl⟩
    exact ⟨i, List.mem_range.mpr (List.getElem?_eq_some_iff.mp hv).1, by rw [hv]; rfl⟩
theorem Lv.has {ls : Array Slot} {nL : Nat} {ad : Nat → Nat} {n : Nat} {L : List (Option Value)} (h : Lv ls nL ad n L) : lv_has ls nL (lvl ad L) :=
  ⟨h.1, h.2.1, fun q hq => by
    obtain ⟨i, w⟩ := q
    obtain ⟨v, hv, rfl⟩ := lvl_mem.mp hq
    exact (h.2.2 i v hv).1⟩
def nolg (L : List (Option Value)) (i : Nat) : Bool := match i with
  | 0 => true
  | z + 1 => match L[z]? with
    | some (some (.long _)) => false
    | some (some (.double _)) => false
    | _ => true
theorem nolg_cat {L : List (Option Value)} {z : Nat} {v : Value} (h : nolg L (z + 1) = true) (hv : L[z]? = some (some v)) : v.category = 1 := by
  simp only [nolg, hv] at h
  cases v <;> first | rfl | cases h
theorem Lv.st1 {ls ls' : Array Slot} {nL : Nat} {ad : Nat → Nat} {n : Nat} {L : List (Option Value)} {i : Nat} {v : Value} (h : Lv ls nL ad n L) (hn : nolg L i = true) (hv : okV n v) (h' : lv_has ls' nL ((i, tr ad v) :: (lvl ad L).filter (fun q => !(q.1 == i) && !(q.1 + 1 == i && q.2.category == 2)))) : Lv ls' nL ad n (L.set i (some v)) := by
  refine ⟨h'.1, h'.2.1, fun j w hw => ?_⟩
  by_cases e : i = j
  · subst e
    have hl : i < L.length := by
      have := (List.getElem?_eq_some_iff.mp hw).1
      rwa [List.length_set] at this
    rw [List.getElem?_set_self hl] at hw
    cases hw
    exact ⟨h'.2.2 (i, tr ad v) List.mem_cons_self, hv⟩
  · rw [List.getElem?_set_ne e] at hw
    refine ⟨h'.2.2 (j, tr ad w) (List.mem_cons_of_mem _ (List.mem_filter.mpr ⟨lvl_mem.mpr ⟨w, hw, rfl⟩, ?_⟩)), (h.2.2 j w hw).2⟩
    have e1 : (j == i) = false := by simpa using fun z => e z.symm
    by_cases e2 : j + 1 = i
    · subst e2
      have := nolg_cat hn hw
      simp [tr_cat, this]
    · have e3 : (j + 1 == i) = false := by simpa using e2
      simp only [e1, e3]
      rfl
theorem Lv.st2 {ls ls' : Array Slot} {nL : Nat} {ad : Nat → Nat} {n : Nat} {L : List (Option Value)} {i : Nat} {v : Value} (h : Lv ls nL ad n L) (hn : nolg L i = true) (hv : okV n v) (h' : lv_has ls' nL ((i, tr ad v) :: (lvl ad L).filter (fun q => !(q.1 == i) && (!(q.1 == i + 1) && !(q.1 + 1 == i && q.2.category == 2))))) : Lv ls' nL ad n ((L.set i (some v)).set (i + 1) none) := by
  refine ⟨h'.1, h'.2.1, fun j w hw => ?_⟩
  by_cases e5 : i + 1 = j
  · subst e5
    by_cases hl : i + 1 < (L.set i (some v)).length
    · rw [List.getElem?_set_self hl] at hw
      cases hw
    · rw [List.getElem?_eq_none (by rw [List.length_set]; omega)] at hw
      cases hw
  rw [List.getElem?_set_ne e5] at hw
  by_cases e : i = j
  · subst e
    have hl : i < L.length := by
      have := (List.getElem?_eq_some_iff.mp hw).1
      rwa [List.length_set] at this
    rw [List.getElem?_set_self hl] at hw
    cases hw
    exact ⟨h'.2.2 (i, tr ad v) List.mem_cons_self, hv⟩
  · rw [List.getElem?_set_ne e] at hw
    refine ⟨h'.2.2 (j, tr ad w) (List.mem_cons_of_mem _ (List.mem_filter.mpr ⟨lvl_mem.mpr ⟨w, hw, rfl⟩, ?_⟩)), (h.2.2 j w hw).2⟩
    have e1 : (j == i) = false := by simpa using fun z => e z.symm
    have e4 : (j == i + 1) = false := by simpa using fun z => e5 z.symm
    by_cases e2 : j + 1 = i
    · subst e2
      have := nolg_cat hn hw
      simp [tr_cat, this]
      omega
    · have e3 : (j + 1 == i) = false := by simpa using e2
      simp only [e1, e3, e4]
      rfl
theorem Lv.mono {ls : Array Slot} {nL : Nat} {ad ad' : Nat → Nat} {n n' : Nat} {L : List (Option Value)} (h : Lv ls nL ad n L) (hn : n ≤ n') (ha : ∀ id, id < n → ad' id = ad id) : Lv ls nL ad' n' L :=
  ⟨h.1, h.2.1, fun i v hv => ⟨by rw [tr_same ha (h.2.2 i v hv).2]; exact (h.2.2 i v hv).1, okV_le hn (h.2.2 i v hv).2⟩⟩
theorem Sv.mono {n n' : Nat} {st : List Value} (h : Sv n st) (hn : n ≤ n') : Sv n' st := fun v hv => okV_le hn (h v hv)
theorem Sv.map {n : Nat} {ad ad' : Nat → Nat} {st : List Value} (h : Sv n st) (ha : ∀ id, id < n → ad' id = ad id) : st.map (tr ad') = st.map (tr ad) := List.map_congr_left fun v hv => tr_same ha (h v hv)
/-- another memory behind the step: the goal's continuation moved along -/
theorem wp_mono {d kc ks : Nat} {y : Yt} {pc : Nat} {L : List (Option Value)} {st : List Value} {M : Mm} {Q Q' : Option Value → Mm → Prop} (h : wp d kc ks y pc L st M Q) (hq : ∀ r M', Q r M' → Q' r M') : wp d kc ks y pc L st M Q' := by
  intro p l e R s m args below meth c D cA A ad H locs cells slots Qm ls C h1 h2 h3 h4 V hL hS F
  exact h p l e R s m args below meth c D cA A ad H locs cells slots Qm ls C h1 h2 h3 h4 V hL hS (fun r M' pcF lsF ad' H' locs' q => F r M' pcF lsF ad' H' locs' (hq r M' q))
