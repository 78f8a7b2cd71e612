/-! ===== contracts over the abstract memory, and calls ===== -/
def cP (D : va_G) (cA : Nat → ClassId) (ad : Nat → Nat) (sz : Nat) (As : List Value) (M : Mm) : Array Value → State → Prop :=
  va_Pc (As.map (tr ad)) (fun U => U.heap.size = sz ∧ va_P D vwCl (wsO ad cA M) U.heap ∧ va_K D vwCl (tysO cA) U ∧ va_D (fun _ => True) (wsO ad cA M) ∧ XW U)
def cQ (D : va_G) (cA : Nat → ClassId) (ad : Nat → Nat) (sz : Nat) (M : Mm) (Q : Option Value → Mm → Prop) : Array Value → State → Outcome → State → Prop := fun _ st oc t =>
  (∃ (r : Option Value) (M' : Mm) (ad' : Nat → Nat), oc = .returned (r.map (tr ad')) ∧ Q r M' ∧ mN M ≤ mN M' ∧ (∀ id, id < mN M → ad' id = ad id) ∧ va_P D vwCl (wsO ad' cA M') t.heap ∧ va_D (va_A (wsO ad cA M) sz) (wsO ad' cA M') ∧ (∀ id k a, mP M' id k = some a → a < mN M') ∧ (∀ v, r = some v → okV (mN M') v)) ∧ va_F (va_A (wsO ad cA M) sz) st t
/-- the method y, called with As over M, ends with Q; d frames, kc cells and ks slots are enough -/
def Ct (d kc ks : Nat) (y : Yt) (As : List Value) (M : Mm) (Q : Option Value → Mm → Prop) : Prop :=
  ∀ (l : Launch) (D : va_G) (cA : Nat → ClassId) (ad : Nat → Nat) (sz : Nat), Sv (mN M) As → (∀ id k a, mP M id k = some a → a < mN M) →
    Met l y.1 (Cond.code y.1 y.2.1 y.2.2.1 y.2.2.2 :: gtb) ({ frames := d, cells := kc, slots := ks, locals := 40 * d }) (cP D cA ad sz As M) (cQ D cA ad sz M Q) kc ks (va_A (wsO ad cA M) sz)
theorem lg_len1 : ∀ (vs : List Value), (∀ v ∈ vs, v.category = 1) → (lg_sl vs).length = vs.length
  | [], _ => rfl
  | v :: vs, h => by
    have h1 := h v List.mem_cons_self
    have h2 := lg_len1 vs (fun w hw => h w (List.mem_cons_of_mem _ hw))
    unfold lg_sl at h2 ⊢
    rw [List.flatMap_cons, List.length_append, h2, h1]
    simp
    omega
theorem lv_args1 : ∀ (vs : List Value) (k i : Nat) (v : Value), (∀ v ∈ vs, v.category = 1) → vs[i]? = some v → (k + i, v) ∈ lv_args k vs
  | [], _, _, _, _, h => by simp at h
  | w :: vs, k, 0, v, _, h => by
    simp at h
    subst h
    exact List.mem_cons_self
  | w :: vs, k, i + 1, v, hc, h => by
    have h1 := hc w List.mem_cons_self
    have h2 : vs[i]? = some v := by simpa using h
    have h3 := lv_args1 vs (k + 1) i v (fun w hw => hc w (List.mem_cons_of_mem _ hw)) h2
    unfold lv_args
    rw [h1]
    refine List.mem_cons_of_mem _ ?_
    rw [show k + (i + 1) = k + 1 + i by omega]
    exact h3
def ent (y : Yt) (As : List Value) : List (Option Value) := As.map some ++ List.replicate (y.2.2.1 - As.length) none
theorem Lv.entry {y : Yt} {As : List Value} {ad : Nat → Nat} {n : Nat} {ls : Array Slot} (hc : ∀ v ∈ As, v.category = 1) (hS : Sv n As) (h : lv_has ls y.2.2.1 (lv_args 0 (As.map (tr ad)))) : Lv ls y.2.2.1 ad n (ent y As) := by
  refine ⟨h.1, h.2.1, fun i v hv => ?_⟩
  unfold ent at hv
  by_cases hi : i < As.length
  · rw [List.getElem?_append_left (by simpa using hi), List.getElem?_map] at hv
    cases h1 : As[i]? with
    | none => rw [h1] at hv; cases hv
    | some w =>
      rw [h1] at hv
      have e : w = v := by simpa using hv
      subst e
      refine ⟨?_, hS w (List.mem_of_getElem? h1)⟩
      have := lv_args1 (As.map (tr ad)) 0 i (tr ad w) (fun z hz => by
        obtain ⟨x, hx, rfl⟩ := List.mem_map.mp hz
        rw [tr_cat]
        exact hc x hx) (by rw [List.getElem?_map, h1]; rfl)
      rw [Nat.zero_add] at this
      exact h.2.2 _ this
  · rw [List.getElem?_append_right (by simpa using hi)] at hv
    have := List.mem_replicate.mp (List.mem_of_getElem? hv)
    cases this.2
theorem Ct.of {d kc ks : Nat} {y : Yt} {As : List Value} {M : Mm} {Q : Option Value → Mm → Prop} (hy : plainName y.1.cls = true) (hc : ∀ v ∈ As, v.category = 1) (hlen : As.length ≤ y.2.2.1) (h : wp d kc ks y 0 (ent y As) [] M Q) : Ct d kc ks y As M Q := by
  intro l D cA ad sz hSv hPv
  refine Met.ofW (cc := y.2.1) (maxL := y.2.2.1) (ret := y.2.2.2) hy rfl ?_
  intro p e s m args below meth c s₁ B hml hv
  obtain ⟨rfl, hsz, hP, hK, hD0, hX⟩ := hv
  subst hsz
  have hts := atoms_spec (ws := Cond.code y.1 y.2.1 y.2.2.1 y.2.2.2 :: gtb) B.pre
  have hc' : ∀ v ∈ As.map (tr ad), v.category = 1 := fun z hz => by
    obtain ⟨x, hx, rfl⟩ := List.mem_map.mp hz
    rw [tr_cat]
    exact hc x hx
  have hl := lv_entry (As.map (tr ad)) (n := y.2.2.1) (by rw [lg_len1 _ hc', List.length_map]; exact hlen)
  rw [lg_entry_eq]
  generalize (lg_sl (As.map (tr ad)) ++ List.replicate (y.2.2.1 - (lg_sl (As.map (tr ad))).length) Slot.unset).toArray = ls at hl ⊢
  have C : Cx p s m (As.map (tr ad)).toArray meth c y := ⟨B.exec, B.bytes, hml, B.returns, findClass_of_methodNamed B.named, fun w hw => hts w (List.mem_cons_of_mem _ hw), B.notSynchronized, fun h => (name_of_methodNamed B.named B.method).1.trans h, hX⟩
  have hlocks := B.notSynchronized
  have V : Iv s D cA (va_A (wsO ad cA M) s.heap.size) ad M s.heap s.heap [] := ⟨hK, hP, hD0.self, va_S.rf, fun q h => Or.inr h, hPv⟩
  refine h p l e _ s m _ below meth c D cA _ ad s.heap [] 0 0 _ ls C (Nat.le_refl _) (Nat.le_refl _) (by rw [Nat.zero_add]; exact Nat.le_refl _) (by rw [Nat.zero_add]; exact Nat.le_refl _) V (Lv.entry hc hSv hl) (fun v hv => by cases hv) ?_
  intro r M' pcF lsF ad' H' locs' q hn hag V' hok hrt
  rw [Nat.zero_add, Nat.zero_add]
  have Qf : ∀ t : State, t.heap = H' → cQ D cA ad s.heap.size M Q (As.map (tr ad)).toArray s (.returned (r.map (tr ad'))) t := fun t ht =>
    ⟨⟨r, M', ad', rfl, q, hn, hag, by rw [ht]; exact V'.2.1, V'.2.2.1, V'.2.2.2.2.2, hok⟩, V'.2.2.2.1.F ht⟩
  cases r with
  | none => exact W.vret C.1 C.2.1 (C.2.2.2.1.trans hrt.2) (fun t ht _ => Qf t ht) V'.2.2.2.1.2.2 hrt.1
  | some v =>
    cases v with
    | int v =>
      obtain ⟨g1, ty, g2, g3⟩ := hrt
      exact W.zret (v := v) C.1 C.2.1 (C.2.2.2.1.trans g2) g3 (fun t ht _ => Qf t ht) V'.2.2.2.1.2.2 g1
    | null =>
      obtain ⟨g1, -, rt, g2, g3⟩ := hrt
      exact W.aret (v := .null) C.1 C.2.1 (C.2.2.2.1.trans g2) g3 (Or.inl rfl) (fun t ht _ => Qf t ht) V'.2.2.2.1.2.2 g1
    | ref a =>
      obtain ⟨g1, -, rt, g2, g3⟩ := hrt
      exact W.aret (v := .ref (ad' a)) C.1 C.2.1 (C.2.2.2.1.trans g2) g3 (Or.inr ⟨_, rfl⟩) (fun t ht _ => Qf t ht) V'.2.2.2.1.2.2 g1
    | _ =>
      obtain ⟨-, g, -⟩ := hrt
      rcases g with g | ⟨a, g⟩ <;> cases g
theorem Ct.mono {d kc ks : Nat} {y : Yt} {As : List Value} {M : Mm} {Q Q' : Option Value → Mm → Prop} (h : Ct d kc ks y As M Q) (hq : ∀ r M', Q r M' → Q' r M') : Ct d kc ks y As M Q' := by
  intro l D cA ad sz h1 h2
  have g := h l D cA ad sz h1 h2
  intro p e ha hc hk s m args below hf hap hP hK
  obtain ⟨t, o, a1, a2, a3, ⟨⟨r, M', ad', b1, b2, b3⟩, b4⟩, b5⟩ := g p e ha hc hk s m args below hf hap hP hK
  exact ⟨t, o, a1, a2, a3, ⟨⟨r, M', ad', b1, hq r M' b2, b3⟩, b4⟩, b5⟩
theorem gt_good {c : Cond} (h : c ∈ gtb) : GoodIn gtb (c :: gtb) := by
  intro w hw
  have hw' : w ∈ gtb := (List.mem_cons.mp hw).elim (fun e => e ▸ h) id
  exact ⟨hw', good_of_word (List.mem_filter.mp hw').2⟩
/-- what a call of y2 from y needs of the tables -/
def lkB (y2 : Yt) (n : Nat) : Prop := Cond.code y2.1 y2.2.1 y2.2.2.1 y2.2.2.2 ∈ gtb ∧ Cond.initialized y2.1.cls ∈ gtb ∧ (y2.1.cls ≠ "java/lang/invoke/MethodHandle" ∧ y2.1.cls ≠ "java/lang/invoke/VarHandle" ∧ (parseMethodDescriptor y2.1.desc).map (fun d => d.parameters.length) = some n) ∧ y2.2.2.1 ≤ 21
section CALLS
variable {d kc ks kc1 ks1 : Nat} {y y2 : Yt} {pc : Nat} {L : List (Option Value)} {st stk : List Value} {M : Mm} {Q Q1 : Option Value → Mm → Prop} {b : Nat} {As : List Value}
theorem cP_blind {D : va_G} {cA : Nat → ClassId} {ad : Nat → Nat} {sz : Nat} : FrameBlind (cP D cA ad sz As M) := by
  intro a U g mk q
  obtain ⟨q0, q1, qP, qK, qD, qX⟩ := q
  exact ⟨q0, q1, qP, va_K.moved (u := U) (U := U.calling g mk a) (Vm.Alike.refl U.vm) qK, qD, XW.same (u := U) (U := U.calling g mk a) rfl qX⟩
theorem call_go {p : Program} {l : Launch} {e : Env} {R : Room} {s : State} {m : MethodId} {args : Array Value} {below : List Frame} {meth : Method} {c : Code} {D : va_G} {cA : Nat → ClassId} {A : Nat → Prop} {ad : Nat → Nat} {H : Heap} {locs : List Loc} {cells slots mc ms : Nat} {Qm : State → Prop} {ls : Array Slot} {st0 rest : List Value} {a : Array Value}
    (hr : va_Run p l e R s m args below meth c H locs cells slots mc ms (F0 m pc ls st0) rest (cQ D cA ad H.size M Q1 a) (va_A (wsO ad cA M) H.size)) (V : Iv s D cA A ad M s.heap H locs)
    (kk : ∀ (r : Option Value) (M' : Mm) (ad' : Nat → Nat) (H1 : Heap) (locs1 : List Loc), Q1 r M' → mN M ≤ mN M' → (∀ id, id < mN M → ad' id = ad id) → Iv s D cA A ad' M' s.heap H1 locs1 → (∀ v, r = some v → okV (mN M') v) → W p l e R s m args below meth c H1 locs1 (cells + mc) (slots + ms) Qm (F0 m (pc + 3) ls ((r.map (tr ad')).toList ++ rest))) :
    W p l e R s m args below meth c H locs cells slots Qm (F0 m pc ls st0) := by
  intro T hT X
  obtain ⟨v, st₀, t, T', Lc, h0, X', hL, e1, e2, ⟨⟨r, M', ad', hv, hQ, hn, hag, hP, hD, hPv, hok⟩, hz, hk⟩, st⟩ := hr T hT X
  cases hv
  rw [h0] at hz hk
  have hAA : ∀ q, va_A (wsO ad cA M) H.size q → A q := by
    intro q hq
    rcases hq with ⟨k, x, hq⟩ | hq
    · exact V.2.2.1.2 k (q, x) hq
    · exact V.2.2.2.2.1 q (Nat.le_trans V.2.2.2.1.1 hq)
  have V' : Iv s D cA A ad' M' s.heap T'.heap (locs ++ Lc) := by
    refine ⟨V.1, by rw [e1]; exact hP, hD.weaken (fun _ q _ h => hAA q.1 h), ⟨Nat.le_trans V.2.2.2.1.1 (by rw [e1]; exact hz), fun q h1 h2 => ?_, fun q hq => ?_⟩, V.2.2.2.2.1, hPv⟩
    · rw [e1, hk q (Nat.lt_of_lt_of_le h1 V.2.2.2.1.1) (fun z => h2 (hAA q z))]
      exact V.2.2.2.1.2.1 q h1 h2
    · rcases List.mem_append.mp hq with h | h
      · exact V.2.2.2.1.2.2 q h
      · exact hAA _ (hL q h)
  obtain ⟨t2, a1, b1⟩ := kk r M' ad' T'.heap (locs ++ Lc) hQ hn hag V' hok T' rfl X'
  exact ⟨t2, st t2 a1, b1⟩
theorem tr_stk {ad : Nat → Nat} : (As.reverse ++ st).map (tr ad) = (As.map (tr ad)).reverse ++ st.map (tr ad) := by
  rw [List.map_append, List.map_reverse]
theorem cat_sum {ad : Nat → Nat} : ((st.map (tr ad)).map fun v => v.category).sum = (st.map fun v => v.category).sum := by
  rw [List.map_map]
  exact congrArg List.sum (List.map_congr_left fun v _ => tr_cat ad v)
/-- behind a call: the rest of the walk -/
theorem call_k {p : Program} {l : Launch} {e : Env} {R : Room} {s : State} {m : MethodId} {args : Array Value} {below : List Frame} {meth : Method} {c : Code} {D : va_G} {cA : Nat → ClassId} {A : Nat → Prop} {ad : Nat → Nat} {cells slots : Nat} {Qm : State → Prop} {ls : Array Slot}
    (C : Cx p s m args meth c y) (h1 : d + 1 ≤ R.frames) (h2 : 40 * (d + 1) ≤ R.locals) (h3 : cells + (kc1 + kc) ≤ R.cells) (h4 : slots + (ks1 + ks) ≤ R.slots) (hL : Lv ls y.2.2.1 ad (mN M) L) (hS : Sv (mN M) st)
    (F : ∀ (r : Option Value) (M' : Mm) (pcF : Nat) (lsF : Array Slot) (ad' : Nat → Nat) (H' : Heap) (locs' : List Loc), Q r M' → mN M ≤ mN M' → (∀ id, id < mN M → ad' id = ad id) → Iv s D cA A ad' M' s.heap H' locs' → (∀ v, r = some v → okV (mN M') v) → Rt y pcF r → W p l e R s m args below meth c H' locs' (cells + (kc1 + kc)) (slots + (ks1 + ks)) Qm (F0 m pcF lsF ((r.map (tr ad')).toList)))
    (kk : ∀ r M', Q1 r M' → mN M ≤ mN M' → wp (d + 1) kc ks y (pc + 3) L (r.toList ++ st) M' Q) :
    ∀ (r : Option Value) (M' : Mm) (ad' : Nat → Nat) (H1 : Heap) (locs1 : List Loc), Q1 r M' → mN M ≤ mN M' → (∀ id, id < mN M → ad' id = ad id) → Iv s D cA A ad' M' s.heap H1 locs1 → (∀ v, r = some v → okV (mN M') v) → W p l e R s m args below meth c H1 locs1 (cells + kc1) (slots + ks1) Qm (F0 m (pc + 3) ls ((r.map (tr ad')).toList ++ st.map (tr ad))) := by
  intro r M' ad' H1 locs1 q hn hag V' hok
  have g := kk r M' q hn p l e R s m args below meth c D cA A ad' H1 locs1 (cells + kc1) (slots + ks1) Qm ls C h1 h2 (by omega) (by omega) V' (hL.mono hn hag) (fun v hv => by
    rcases List.mem_append.mp hv with h | h
    · exact hok v (by simpa using h)
    · exact okV_le hn (hS v h))
  have es : (r.toList ++ st).map (tr ad') = (r.map (tr ad')).toList ++ st.map (tr ad) := by
    rw [List.map_append, hS.map hag]
    cases r <;> rfl
  rw [es, show cells + kc1 + kc = cells + (kc1 + kc) by omega, show slots + ks1 + ks = slots + (ks1 + ks) by omega] at g
  exact g (fun r2 M2 pcF lsF ad2 H2 locs2 a1 a2 a3 => F r2 M2 pcF lsF ad2 H2 locs2 a1 (Nat.le_trans hn a2) (fun id hid => (a3 id (Nat.lt_of_lt_of_le hid hn)).trans (hag id hid)))
/-- a call of a method of an object -/
theorem r_callV (ci idx : Nat) (hd : decode y.2.1 pc = .ok (.invokevirtual idx, 3)) (lk : lkB y2 As.length) (hl : Cond.methodLink y.1.cls idx y2.1 ∈ gtb) (hin : Cond.instanceMethod y2.1 ∈ gtb) (hse : Cond.selects (Cof ci) y2.1 y2.1 ∈ gtb) (hci : ci < 11) (ho : ob M b ci) (hw : (st.map fun v => v.category).sum ≤ 8) (hs : stk = As.reverse ++ .ref b :: st) (hc : Ct d kc1 ks1 y2 (.ref b :: As) M Q1)
    (kk : ∀ r M', Q1 r M' → mN M ≤ mN M' → wp (d + 1) kc ks y (pc + 3) L (r.toList ++ st) M' Q) : wp (d + 1) (kc1 + kc) (ks1 + ks) y pc L stk M Q := by
  subst hs
  intro p l e R s m args below meth c D cA A ad H locs cells slots Qm ls C h1 h2 h3 h4 V hL hS F
  have hts := C.2.2.2.2.2.1
  have hSa : Sv (mN M) (.ref b :: As) := Sv.cons ho.1 (fun v hv => hS v (List.mem_append_left _ (List.mem_reverse.mpr hv)))
  have hSt : Sv (mN M) st := fun v hv => hS v (List.mem_append_right _ (List.mem_cons_of_mem _ hv))
  have cb : CallB R s args y.1.cls idx y2.1 y2.2.1 y2.2.2.1 y2.2.2.2 (Cond.code y2.1 y2.2.1 y2.2.2.1 y2.2.2.2 :: gtb) ({ frames := d, cells := kc1, slots := ks1, locals := 40 * d }) kc1 ks1 As.length := callB_of _ hts (gt_good lk.1) rfl rfl rfl (hts _ lk.2.1) (hts _ hl) lk.2.2.1 ⟨h1, by have := lk.2.2.2; show 8 + (y2.2.2.1 + 11) + 40 * d ≤ R.locals; omega⟩
  have rn := va_runV (As := As.map (tr ad)) (rest := st.map (tr ad)) (g := F0 m pc ls ((As.reverse ++ .ref b :: st).map (tr ad))) (cells := cells) (slots := slots) (locs := locs) (H := H) (below := below) (e := e) (p := p) (l := l) (meth := meth) (c := c) (m := m) (b := ad b) (C := Cof ci) ⟨C.1, C.2.1, C.2.2.1, C.2.2.2.2.1, hts⟩ (hc l D cA ad H.size hSa V.2.2.2.2.2) ⟨cb, hts _ hin, hts _ hse⟩
    ⟨cP_blind, va_recv V.1 V.2.1 (cls_ok ci hci).1 (by rw [wsO_get ho.1, cel_o ho.2]), fun U hU hW => ⟨rfl, by rw [hU], by rw [hU]; exact V.2.1, va_K.moved hW.alike V.1, V.2.2.1.weaken (fun _ _ _ _ => trivial), XW.warm hW C.2.2.2.2.2.2.2.2⟩⟩ rfl (by rw [List.length_map]) hL.1 (tr_stk (st := .ref b :: st)) (lv_room (by rw [cat_sum]; exact hw)) hd ⟨by omega, by omega⟩
  exact call_go (Q1 := Q1) rn V (call_k C h1 h2 h3 h4 hL hSt F kk)
theorem r_callS (idx : Nat) (hd : decode y.2.1 pc = .ok (.invokestatic idx, 3)) (lk : lkB y2 As.length) (hl : Cond.methodLink y.1.cls idx y2.1 ∈ gtb) (hst : Cond.static y2.1 ∈ gtb) (hw : (st.map fun v => v.category).sum ≤ 8) (hs : stk = As.reverse ++ st) (hc : Ct d kc1 ks1 y2 As M Q1)
    (kk : ∀ r M', Q1 r M' → mN M ≤ mN M' → wp (d + 1) kc ks y (pc + 3) L (r.toList ++ st) M' Q) : wp (d + 1) (kc1 + kc) (ks1 + ks) y pc L stk M Q := by
  subst hs
  intro p l e R s m args below meth c D cA A ad H locs cells slots Qm ls C h1 h2 h3 h4 V hL hS F
  have hts := C.2.2.2.2.2.1
  have hSa : Sv (mN M) As := fun v hv => hS v (List.mem_append_left _ (List.mem_reverse.mpr hv))
  have hSt : Sv (mN M) st := fun v hv => hS v (List.mem_append_right _ hv)
  have cb : CallB R s args y.1.cls idx y2.1 y2.2.1 y2.2.2.1 y2.2.2.2 (Cond.code y2.1 y2.2.1 y2.2.2.1 y2.2.2.2 :: gtb) ({ frames := d, cells := kc1, slots := ks1, locals := 40 * d }) kc1 ks1 As.length := callB_of _ hts (gt_good lk.1) rfl rfl rfl (hts _ lk.2.1) (hts _ hl) lk.2.2.1 ⟨h1, by have := lk.2.2.2; show 8 + (y2.2.2.1 + 11) + 40 * d ≤ R.locals; omega⟩
  have rn := va_runS (As := As.map (tr ad)) (rest := st.map (tr ad)) (g := F0 m pc ls ((As.reverse ++ st).map (tr ad))) (cells := cells) (slots := slots) (locs := locs) (H := H) (below := below) (e := e) (p := p) (l := l) (meth := meth) (c := c) (m := m) ⟨C.1, C.2.1, C.2.2.1, C.2.2.2.2.1, hts⟩ (hc l D cA ad H.size hSa V.2.2.2.2.2) ⟨cb, hts _ hst⟩
    ⟨cP_blind, fun U hU hW => ⟨rfl, by rw [hU], by rw [hU]; exact V.2.1, va_K.moved hW.alike V.1, V.2.2.1.weaken (fun _ _ _ _ => trivial), XW.warm hW C.2.2.2.2.2.2.2.2⟩⟩ rfl (by rw [List.length_map]) hL.1 tr_stk (lv_room (by rw [cat_sum]; exact hw)) hd ⟨by omega, by omega⟩
  exact call_go (Q1 := Q1) rn V (call_k C h1 h2 h3 h4 hL hSt F kk)
/-- a static call of a private method of another class of the nest -/
theorem r_callSN (idx : Nat) (hd : decode y.2.1 pc = .ok (.invokestatic idx, 3)) (lk : lkB y2 As.length) (hl : (y.1.cls, idx, y2.1) ∈ nlk) (hst : Cond.static y2.1 ∈ gtb) (hw : (st.map fun v => v.category).sum ≤ 8) (hs : stk = As.reverse ++ st) (hc : Ct d kc1 ks1 y2 As M Q1)
    (kk : ∀ r M', Q1 r M' → mN M ≤ mN M' → wp (d + 1) kc ks y (pc + 3) L (r.toList ++ st) M' Q) : wp (d + 1) (kc1 + kc) (ks1 + ks) y pc L stk M Q := by
  subst hs
  intro p l e R s m args below meth c D cA A ad H locs cells slots Qm ls C h1 h2 h3 h4 V hL hS F
  have hts := C.2.2.2.2.2.1
  have hSa : Sv (mN M) As := fun v hv => hS v (List.mem_append_left _ (List.mem_reverse.mpr hv))
  have hSt : Sv (mN M) st := fun v hv => hS v (List.mem_append_right _ hv)
  have cb : va_CN R s args y.1.cls idx y2.1 "PriceUpon" y2.2.1 y2.2.2.1 y2.2.2.2 (Cond.code y2.1 y2.2.1 y2.2.2.1 y2.2.2.2 :: gtb) ({ frames := d, cells := kc1, slots := ks1, locals := 40 * d }) kc1 ks1 As.length := va_cnB _ hts (gt_good lk.1) rfl rfl rfl (C.2.2.2.2.2.2.2.2.1 _ hl) (hts _ lk.2.1) lk.2.2.1 ⟨h1, by have := lk.2.2.2; show 8 + (y2.2.2.1 + 11) + 40 * d ≤ R.locals; omega⟩
  have rn := va_runSN (As := As.map (tr ad)) (rest := st.map (tr ad)) (g := F0 m pc ls ((As.reverse ++ st).map (tr ad))) (cells := cells) (slots := slots) (locs := locs) (H := H) (below := below) (e := e) (p := p) (l := l) (meth := meth) (c := c) (m := m) ⟨C.1, C.2.1, C.2.2.1, C.2.2.2.2.1, hts⟩ (hc l D cA ad H.size hSa V.2.2.2.2.2) ⟨cb, hts _ hst, trivial⟩
    ⟨cP_blind, fun U hU hW => ⟨rfl, by rw [hU], by rw [hU]; exact V.2.1, va_K.moved hW.alike V.1, V.2.2.1.weaken (fun _ _ _ _ => trivial), XW.warm hW C.2.2.2.2.2.2.2.2⟩⟩ rfl (by rw [List.length_map]) hL.1 tr_stk (lv_room (by rw [cat_sum]; exact hw)) hd ⟨by omega, by omega⟩
  exact call_go (Q1 := Q1) rn V (call_k C h1 h2 h3 h4 hL hSt F kk)
/-- a constructor: of the class's own, or of another class of the nest -/
theorem r_callI (idx : Nat) (hd : decode y.2.1 pc = .ok (.invokespecial idx, 3)) (lk : lkB y2 As.length) (hl : Cond.methodLink y.1.cls idx y2.1 ∈ gtb) (hin : Cond.instanceMethod y2.1 ∈ gtb) (hnm : y2.1.name = "<init>") (hr : y2.2.2.2 = none) (hb : b < mN M) (hw : (st.map fun v => v.category).sum ≤ 8) (hs : stk = As.reverse ++ .ref b :: st) (hc : Ct d kc1 ks1 y2 (.ref b :: As) M Q1)
    (kk : ∀ r M', Q1 r M' → mN M ≤ mN M' → wp (d + 1) kc ks y (pc + 3) L (r.toList ++ st) M' Q) : wp (d + 1) (kc1 + kc) (ks1 + ks) y pc L stk M Q := by
  subst hs
  intro p l e R s m args below meth c D cA A ad H locs cells slots Qm ls C h1 h2 h3 h4 V hL hS F
  have hts := C.2.2.2.2.2.1
  have hSa : Sv (mN M) (.ref b :: As) := Sv.cons hb (fun v hv => hS v (List.mem_append_left _ (List.mem_reverse.mpr hv)))
  have hSt : Sv (mN M) st := fun v hv => hS v (List.mem_append_right _ (List.mem_cons_of_mem _ hv))
  have cb : CallB R s args y.1.cls idx y2.1 y2.2.1 y2.2.2.1 none (Cond.code y2.1 y2.2.1 y2.2.2.1 y2.2.2.2 :: gtb) ({ frames := d, cells := kc1, slots := ks1, locals := 40 * d }) kc1 ks1 As.length := callB_of _ hts (gt_good lk.1) (by rw [hr]) rfl rfl (hts _ lk.2.1) (hts _ hl) lk.2.2.1 ⟨h1, by have := lk.2.2.2; show 8 + (y2.2.2.1 + 11) + 40 * d ≤ R.locals; omega⟩
  have rn := va_runI (As := As.map (tr ad)) (rest := st.map (tr ad)) (g := F0 m pc ls ((As.reverse ++ .ref b :: st).map (tr ad))) (cells := cells) (slots := slots) (locs := locs) (H := H) (below := below) (e := e) (p := p) (l := l) (meth := meth) (c := c) (m := m) (b := ad b) ⟨C.1, C.2.1, C.2.2.1, C.2.2.2.2.1, hts⟩ (hc l D cA ad H.size hSa V.2.2.2.2.2) ⟨cb, hnm, hts _ hin⟩
    ⟨cP_blind, fun U hU hW => ⟨rfl, by rw [hU], by rw [hU]; exact V.2.1, va_K.moved hW.alike V.1, V.2.2.1.weaken (fun _ _ _ _ => trivial), XW.warm hW C.2.2.2.2.2.2.2.2⟩⟩ rfl (by rw [List.length_map]) hL.1 (tr_stk (st := .ref b :: st)) (lv_room (by rw [cat_sum]; exact hw)) hd ⟨by omega, by omega⟩
  exact call_go (Q1 := Q1) rn V (call_k C h1 h2 h3 h4 hL hSt F kk)
theorem r_callIN (idx : Nat) (hd : decode y.2.1 pc = .ok (.invokespecial idx, 3)) (lk : lkB y2 As.length) (hl : (y.1.cls, idx, y2.1) ∈ nlk) (hin : Cond.instanceMethod y2.1 ∈ gtb) (hnm : y2.1.name = "<init>") (hr : y2.2.2.2 = none) (hb : b < mN M) (hw : (st.map fun v => v.category).sum ≤ 8) (hs : stk = As.reverse ++ .ref b :: st) (hc : Ct d kc1 ks1 y2 (.ref b :: As) M Q1)
    (kk : ∀ r M', Q1 r M' → mN M ≤ mN M' → wp (d + 1) kc ks y (pc + 3) L (r.toList ++ st) M' Q) : wp (d + 1) (kc1 + kc) (ks1 + ks) y pc L stk M Q := by
  subst hs
  intro p l e R s m args below meth c D cA A ad H locs cells slots Qm ls C h1 h2 h3 h4 V hL hS F
  have hts := C.2.2.2.2.2.1
  have hSa : Sv (mN M) (.ref b :: As) := Sv.cons hb (fun v hv => hS v (List.mem_append_left _ (List.mem_reverse.mpr hv)))
  have hSt : Sv (mN M) st := fun v hv => hS v (List.mem_append_right _ (List.mem_cons_of_mem _ hv))
  have cb : va_CN R s args y.1.cls idx y2.1 "PriceUpon" y2.2.1 y2.2.2.1 none (Cond.code y2.1 y2.2.1 y2.2.2.1 y2.2.2.2 :: gtb) ({ frames := d, cells := kc1, slots := ks1, locals := 40 * d }) kc1 ks1 As.length := va_cnB _ hts (gt_good lk.1) (by rw [hr]) rfl rfl (C.2.2.2.2.2.2.2.2.1 _ hl) (hts _ lk.2.1) lk.2.2.1 ⟨h1, by have := lk.2.2.2; show 8 + (y2.2.2.1 + 11) + 40 * d ≤ R.locals; omega⟩
  have rn := va_runIN (As := As.map (tr ad)) (rest := st.map (tr ad)) (g := F0 m pc ls ((As.reverse ++ .ref b :: st).map (tr ad))) (cells := cells) (slots := slots) (locs := locs) (H := H) (below := below) (e := e) (p := p) (l := l) (meth := meth) (c := c) (m := m) (b := ad b) ⟨C.1, C.2.1, C.2.2.1, C.2.2.2.2.1, hts⟩ (hc l D cA ad H.size hSa V.2.2.2.2.2) ⟨cb, hnm, hts _ hin⟩
    ⟨cP_blind, fun U hU hW => ⟨rfl, by rw [hU], by rw [hU]; exact V.2.1, va_K.moved hW.alike V.1, V.2.2.1.weaken (fun _ _ _ _ => trivial), XW.warm hW C.2.2.2.2.2.2.2.2⟩⟩ rfl (by rw [List.length_map]) hL.1 (tr_stk (st := .ref b :: st)) (lv_room (by rw [cat_sum]; exact hw)) hd ⟨by omega, by omega⟩
  exact call_go (Q1 := Q1) rn V (call_k C h1 h2 h3 h4 hL hSt F kk)
/-- Object() -/
theorem r_objInit (idx : Nat) (hd : decode y.2.1 pc = .ok (.invokespecial idx, 3)) (hl : Cond.methodLink y.1.cls idx Lib.objectInit ∈ gtb) (hin : Cond.instanceMethod Lib.objectInit ∈ gtb) (hcd : Cond.code Lib.objectInit ⟨#[0xb1]⟩ 1 none ∈ gtb) (hw : (st.map fun v => v.category).sum ≤ 8) (kk : wp (d + 1) kc ks y (pc + 3) L st M Q) : wp (d + 1) kc ks y pc L (.ref b :: st) M Q := by
  intro p l e R s m args below meth c D cA A ad H locs cells slots Qm ls C h1 h2 h3 h4 V hL hS F
  have hts := C.2.2.2.2.2.1
  have := lv_room (m := m) (pc := pc) (ls := ls) (rest := (Value.ref b :: st).map (tr ad)) (st := st.map (tr ad)) (by rw [cat_sum]; exact hw)
  refine W.objInit C.1 C.2.1 C.2.2.2.2.1 (hts _ hl) (hts _ hin) (hts _ hcd) rfl (by rw [C.2.2.1]; exact hL.1) rfl hd (by omega) (by omega) ?_
  exact kk p l e R s m args below meth c D cA A ad H locs cells slots Qm ls C h1 h2 h3 h4 V hL hS.tl F
/-- Math.max, Math.min -/
theorem r_max {x z : Int32} (idx : Nat) (hd : decode y.2.1 pc = .ok (.invokestatic idx, 3)) (hl : Cond.methodLink y.1.cls idx Lib.Math.max.name ∈ gtb) (hst : Cond.static Lib.Math.max.name ∈ gtb) (hini : Cond.initialized "java/lang/Math" ∈ gtb) (hcd : Cond.code Lib.Math.max.name Lib.Math.max.code 2 (some .int) ∈ gtb) (hw : (st.map fun v => v.category).sum ≤ 8) (kk : wp (d + 1) kc ks y (pc + 3) L (.int (if x < z then z else x) :: st) M Q) : wp (d + 1) kc ks y pc L (.int z :: .int x :: st) M Q := by
  intro p l e R s m args below meth c D cA A ad H locs cells slots Qm ls C h1 h2 h3 h4 V hL hS F
  have hts := C.2.2.2.2.2.1
  exact va_mmax C.1 C.2.1 (by rw [C.2.2.1]; exact hL.1.symm) C.2.2.2.2.1 (hts _ hl) (hts _ hst) (hts _ hini) (hts _ hcd) (by omega) (by rw [cat_sum]; omega) (by omega) (by omega) hd (kk p l e R s m args below meth c D cA A ad H locs cells slots Qm ls C h1 h2 h3 h4 V hL (hS.tl.tl.cons trivial) F)
theorem r_min {x z : Int32} (idx : Nat) (hd : decode y.2.1 pc = .ok (.invokestatic idx, 3)) (hl : Cond.methodLink y.1.cls idx Lib.Math.min.name ∈ gtb) (hst : Cond.static Lib.Math.min.name ∈ gtb) (hini : Cond.initialized "java/lang/Math" ∈ gtb) (hcd : Cond.code Lib.Math.min.name Lib.Math.min.code 2 (some .int) ∈ gtb) (hw : (st.map fun v => v.category).sum ≤ 8) (kk : wp (d + 1) kc ks y (pc + 3) L (.int (if z < x then z else x) :: st) M Q) : wp (d + 1) kc ks y pc L (.int z :: .int x :: st) M Q := by
  intro p l e R s m args below meth c D cA A ad H locs cells slots Qm ls C h1 h2 h3 h4 V hL hS F
  have hts := C.2.2.2.2.2.1
  exact va_mmin C.1 C.2.1 (by rw [C.2.2.1]; exact hL.1.symm) C.2.2.2.2.1 (hts _ hl) (hts _ hst) (hts _ hini) (hts _ hcd) (by omega) (by rw [cat_sum]; omega) (by omega) (by omega) hd (kk p l e R s m args below meth c D cA A ad H locs cells slots Qm ls C h1 h2 h3 h4 V hL (hS.tl.tl.cons trivial) F)
end CALLS
