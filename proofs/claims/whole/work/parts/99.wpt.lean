/-! ===== the world of the law: the throw of house is known there; the rules once more over it ===== -/
abbrev YL_house : Yt := (yL_house, cL_house, 6, (some .int))
abbrev YL_law : Yt := (yL_law, cL_law, 7, (some .boolean))
def nE : String := "java/util/NoSuchElementException"
def tE : String := "no such trade, house or question"
def rxE : ByteArray := ⟨#[0x2a, 0x2b, 0xb7, 0x00, 0x0d, 0xb1]⟩
def upE : List String := ["java/lang/RuntimeException", "java/lang/Exception"]
def nD : List MethodName := [⟨"java/lang/RuntimeException", "<init>", "(Ljava/lang/String;)V"⟩, ⟨"java/lang/Exception", "<init>", "(Ljava/lang/String;)V"⟩, ⟨"java/lang/Throwable", "<init>", "(Ljava/lang/String;)V"⟩]
def TW (l : Launch) (A : Nat → Prop) (U : State) (H : Heap) : Prop := l.stackTraces = false ∧ (∀ x ∈ nD, va_Nw (.declares x) U) ∧ va_Nw (.castable nE nE) U ∧ (∃ sa, vk_R "PriceUpon" 108 tE sa U) ∧ vx_Zq Bundle.tN "UNASSIGNED_STACK" Bundle.steD A U H ∧ vx_Zq Bundle.tN "SUPPRESSED_SENTINEL" Bundle.listD A U H
/-- the same world seen by a callee -/
theorem TW.call {l : Launch} {A B : Nat → Prop} {s U : State} {H : Heap} (h : TW l A s s.heap) (hW : s.WarmedH U.vm) (hH : ∀ q : Nat, q < s.heap.size → ¬ A q → H[q]? = s.heap[q]?) (hAB : ∀ q, B q → A q) : TW l B U H := by
  obtain ⟨h1, h2, h3, ⟨sa, h4⟩, h5, h6⟩ := h
  exact ⟨h1, fun x hx => va_Nw.warmD hW (h2 x hx), va_Nw.warmC hW h3, ⟨sa, vk_R.warm hW h4⟩, vx_Zq.moved hW.alike ((h5.kept hH).narrow hAB), vx_Zq.moved hW.alike ((h6.kept hH).narrow hAB)⟩
theorem TW.same {l : Launch} {A : Nat → Prop} {u U : State} {H : Heap} (hv : u.vm = U.vm) (h : TW l A u H) : TW l A U H := by
  obtain ⟨h1, h2, h3, ⟨sa, h4⟩, h5, h6⟩ := h
  exact ⟨h1, fun x hx => va_Nw.same rfl hv (h2 x hx), va_Nw.same rfl hv h3, ⟨sa, vk_R.same hv.symm h4⟩, vx_Zq.moved (hv ▸ Vm.Alike.refl u.vm) h5, vx_Zq.moved (hv ▸ Vm.Alike.refl u.vm) h6⟩
def ET (c : Code) (y : Yt) : Prop := (y.1 = YX9_house.1 → c.exceptionTable.toList = []) ∧ (y.1 = YL_house.1 → c.exceptionTable.toList = tableOf [(0, 12, 15, 13)])
def CxT (p : Program) (l : Launch) (A : Nat → Prop) (s : State) (m : MethodId) (args : Array Value) (meth : Method) (c : Code) (y : Yt) : Prop := Cx p s m args meth c y ∧ TW l A s s.heap ∧ ET c y
def RtT (y : Yt) (pc : Nat) (r : Option Value) : Prop := match r with
  | none => (decode y.2.1 pc = .ok (.return_, 1) ∧ y.2.2.2 = none) ∨ (y = YX9_house ∧ pc = 30)
  | some (.int v) => decode y.2.1 pc = .ok (.ireturn, 1) ∧ ∃ ty, y.2.2.2 = some ty ∧ narrow ty (.int v) = .int v
  | some v => decode y.2.1 pc = .ok (.areturn, 1) ∧ (v = .null ∨ ∃ a, v = .ref a) ∧ ∃ rt, y.2.2.2 = some rt ∧ ((∃ n, rt = .object n) ∨ ∃ t, rt = .array t)

def wpT (d kc ks : Nat) (y : Yt) (pc : Nat) (L : List (Option Value)) (st : List Value) (M : Mm) (Q : Option Value → Mm → Prop) : Prop :=
  ∀ (p : Program) (l : Launch) (e : Env) (R : Room) (s : State) (m : MethodId) (args : Array Value) (below : List Frame) (meth : Method) (c : Code) (D : va_G) (cA : Nat → ClassId) (A : Nat → Prop) (ad : Nat → Nat) (H : Heap) (locs : List Loc) (cells slots : Nat) (Qm : State → Prop) (ls : Array Slot),
    CxT p l A s m args meth c y → d ≤ R.frames → 40 * d ≤ R.locals → cells + kc ≤ R.cells → slots + ks ≤ R.slots → Iv s D cA A ad M s.heap H locs → Lv ls y.2.2.1 ad (mN M) L → Sv (mN M) st →
    (∀ (r : Option Value) (M' : Mm) (pcF : Nat) (lsF : Array Slot) (ad' : Nat → Nat) (H' : Heap) (locs' : List Loc), Q r M' → mN M ≤ mN M' → (∀ id, id < mN M → ad' id = ad id) → Iv s D cA A ad' M' s.heap H' locs' → (∀ v, r = some v → okV (mN M') v) → RtT y pcF r →
      W p l e R s m args below meth c H' locs' (cells + kc) (slots + ks) Qm (F0 m pcF lsF ((r.map (tr ad')).toList))) →
    W p l e R s m args below meth c H locs cells slots Qm (F0 m pc ls (st.map (tr ad)))
theorem wpT_mono {d kc ks : Nat} {y : Yt} {pc : Nat} {L : List (Option Value)} {st : List Value} {M : Mm} {Q Q' : Option Value → Mm → Prop} (h : wpT d kc ks y pc L st M Q) (hq : ∀ r M', Q r M' → Q' r M') : wpT d kc ks y pc L st M Q' := by
  intro p l e R s m args below meth c D cA A ad H locs cells slots Qm ls C h1 h2 h3 h4 V hL hS F
  exact h p l e R s m args below meth c D cA A ad H locs cells slots Qm ls C h1 h2 h3 h4 V hL hS (fun r M' pcF lsF ad' H' locs' q => F r M' pcF lsF ad' H' locs' (hq r M' q))

section TRULES
variable {d kc ks : Nat} {y : Yt} {pc : Nat} {L L' : List (Option Value)} {st : List Value} {M : Mm} {Q : Option Value → Mm → Prop}
theorem T_iconst {n : Int} {v : Int32} (hd : decode y.2.1 pc = .ok (.iconst n, 1)) (hv : Int32.ofInt n = v) (k : wpT d kc ks y (pc + 1) L (.int v :: st) M Q) : wpT d kc ks y pc L st M Q := by
  intro p l e R s m args below meth c D cA A ad H locs cells slots Qm ls C h1 h2 h3 h4 V hL hS F
  exact lv_iconst C.1.1 C.1.2.1 hd hv (k p l e R s m args below meth c D cA A ad H locs cells slots Qm ls C h1 h2 h3 h4 V hL (hS.cons trivial) F)
theorem T_bipush {n : Int} {v : Int32} (hd : decode y.2.1 pc = .ok (.bipush n, 2)) (hv : (Int8.ofInt n).toInt32 = v) (k : wpT d kc ks y (pc + 2) L (.int v :: st) M Q) : wpT d kc ks y pc L st M Q := by
  intro p l e R s m args below meth c D cA A ad H locs cells slots Qm ls C h1 h2 h3 h4 V hL hS F
  exact lv_bipush C.1.1 C.1.2.1 hd hv (k p l e R s m args below meth c D cA A ad H locs cells slots Qm ls C h1 h2 h3 h4 V hL (hS.cons trivial) F)
theorem T_sipush {n : Int} {v : Int32} (hd : decode y.2.1 pc = .ok (.sipush n, 3)) (hv : (Int16.ofInt n).toInt32 = v) (k : wpT d kc ks y (pc + 3) L (.int v :: st) M Q) : wpT d kc ks y pc L st M Q := by
  intro p l e R s m args below meth c D cA A ad H locs cells slots Qm ls C h1 h2 h3 h4 V hL hS F
  exact lv_sipush C.1.1 C.1.2.1 hd hv (k p l e R s m args below meth c D cA A ad H locs cells slots Qm ls C h1 h2 h3 h4 V hL (hS.cons trivial) F)
theorem T_lconst {n : Fin 2} {v : Int64} (hd : decode y.2.1 pc = .ok (.lconst n, 1)) (hv : Int64.ofNat (n : Nat) = v) (k : wpT d kc ks y (pc + 1) L (.long v :: st) M Q) : wpT d kc ks y pc L st M Q := by
  intro p l e R s m args below meth c D cA A ad H locs cells slots Qm ls C h1 h2 h3 h4 V hL hS F
  exact lv_lconst C.1.1 C.1.2.1 hd hv (k p l e R s m args below meth c D cA A ad H locs cells slots Qm ls C h1 h2 h3 h4 V hL (hS.cons trivial) F)
theorem T_ldc {idx : Nat} {v : Int32} (hd : decode y.2.1 pc = .ok (.ldc idx, 2)) (hc : Cond.constant y.1.cls idx v ∈ gtb) (k : wpT d kc ks y (pc + 2) L (.int v :: st) M Q) : wpT d kc ks y pc L st M Q := by
  intro p l e R s m args below meth c D cA A ad H locs cells slots Qm ls C h1 h2 h3 h4 V hL hS F
  exact lv_ldc C.1.1 C.1.2.1 C.1.2.2.2.2.1 (C.1.2.2.2.2.2.1 _ hc) hd (k p l e R s m args below meth c D cA A ad H locs cells slots Qm ls C h1 h2 h3 h4 V hL (hS.cons trivial) F)
theorem T_ldc2 {idx : Nat} {v : Int64} (hd : decode y.2.1 pc = .ok (.ldc2_w idx, 3)) (hc : Cond.constantLong y.1.cls idx v ∈ gtb) (k : wpT d kc ks y (pc + 3) L (.long v :: st) M Q) : wpT d kc ks y pc L st M Q := by
  intro p l e R s m args below meth c D cA A ad H locs cells slots Qm ls C h1 h2 h3 h4 V hL hS F
  exact lv_ldc2 C.1.1 C.1.2.1 C.1.2.2.2.2.1 (C.1.2.2.2.2.2.1 _ hc) hd (k p l e R s m args below meth c D cA A ad H locs cells slots Qm ls C h1 h2 h3 h4 V hL (hS.cons trivial) F)
theorem T_null (hd : decode y.2.1 pc = .ok (.aconst_null, 1)) (k : wpT d kc ks y (pc + 1) L (.null :: st) M Q) : wpT d kc ks y pc L st M Q := by
  intro p l e R s m args below meth c D cA A ad H locs cells slots Qm ls C h1 h2 h3 h4 V hL hS F
  exact lv_null C.1.1 C.1.2.1 hd (k p l e R s m args below meth c D cA A ad H locs cells slots Qm ls C h1 h2 h3 h4 V hL (hS.cons trivial) F)
theorem T_iload_n {i : Fin 4} {x : Int32} (hd : decode y.2.1 pc = .ok (.iload_n i, 1)) (hl : L[(i : Nat)]? = some (some (.int x))) (k : wpT d kc ks y (pc + 1) L (.int x :: st) M Q) : wpT d kc ks y pc L st M Q := by
  intro p l e R s m args below meth c D cA A ad H locs cells slots Qm ls C h1 h2 h3 h4 V hL hS F
  exact lv_iload_n C.1.1 C.1.2.1 hd rfl (hL.2.2 _ _ hl).1 (k p l e R s m args below meth c D cA A ad H locs cells slots Qm ls C h1 h2 h3 h4 V hL (hS.cons trivial) F)
theorem T_iload {i : Nat} {x : Int32} (hd : decode y.2.1 pc = .ok (.iload i, 2)) (hl : L[i]? = some (some (.int x))) (k : wpT d kc ks y (pc + 2) L (.int x :: st) M Q) : wpT d kc ks y pc L st M Q := by
  intro p l e R s m args below meth c D cA A ad H locs cells slots Qm ls C h1 h2 h3 h4 V hL hS F
  exact lv_iload C.1.1 C.1.2.1 hd (hL.2.2 _ _ hl).1 (k p l e R s m args below meth c D cA A ad H locs cells slots Qm ls C h1 h2 h3 h4 V hL (hS.cons trivial) F)
theorem T_lload_n {i : Fin 4} {x : Int64} (hd : decode y.2.1 pc = .ok (.lload_n i, 1)) (hl : L[(i : Nat)]? = some (some (.long x))) (k : wpT d kc ks y (pc + 1) L (.long x :: st) M Q) : wpT d kc ks y pc L st M Q := by
  intro p l e R s m args below meth c D cA A ad H locs cells slots Qm ls C h1 h2 h3 h4 V hL hS F
  exact lv_lload_n C.1.1 C.1.2.1 hd rfl (hL.2.2 _ _ hl).1 (k p l e R s m args below meth c D cA A ad H locs cells slots Qm ls C h1 h2 h3 h4 V hL (hS.cons trivial) F)
theorem T_lload {i : Nat} {x : Int64} (hd : decode y.2.1 pc = .ok (.lload i, 2)) (hl : L[i]? = some (some (.long x))) (k : wpT d kc ks y (pc + 2) L (.long x :: st) M Q) : wpT d kc ks y pc L st M Q := by
  intro p l e R s m args below meth c D cA A ad H locs cells slots Qm ls C h1 h2 h3 h4 V hL hS F
  exact lv_lload C.1.1 C.1.2.1 hd (hL.2.2 _ _ hl).1 (k p l e R s m args below meth c D cA A ad H locs cells slots Qm ls C h1 h2 h3 h4 V hL (hS.cons trivial) F)
theorem T_aload_n {i : Fin 4} {x : Nat} (hd : decode y.2.1 pc = .ok (.aload_n i, 1)) (hl : L[(i : Nat)]? = some (some (.ref x))) (k : wpT d kc ks y (pc + 1) L (.ref x :: st) M Q) : wpT d kc ks y pc L st M Q := by
  intro p l e R s m args below meth c D cA A ad H locs cells slots Qm ls C h1 h2 h3 h4 V hL hS F
  exact lv_aload_n C.1.1 C.1.2.1 hd rfl (hL.2.2 _ _ hl).1 (k p l e R s m args below meth c D cA A ad H locs cells slots Qm ls C h1 h2 h3 h4 V hL (hS.cons (hL.2.2 _ _ hl).2) F)
theorem T_aload {i : Nat} {x : Nat} (hd : decode y.2.1 pc = .ok (.aload i, 2)) (hl : L[i]? = some (some (.ref x))) (k : wpT d kc ks y (pc + 2) L (.ref x :: st) M Q) : wpT d kc ks y pc L st M Q := by
  intro p l e R s m args below meth c D cA A ad H locs cells slots Qm ls C h1 h2 h3 h4 V hL hS F
  exact lv_aload C.1.1 C.1.2.1 hd (hL.2.2 _ _ hl).1 (k p l e R s m args below meth c D cA A ad H locs cells slots Qm ls C h1 h2 h3 h4 V hL (hS.cons (hL.2.2 _ _ hl).2) F)
theorem T_aload_nN {i : Fin 4} (hd : decode y.2.1 pc = .ok (.aload_n i, 1)) (hl : L[(i : Nat)]? = some (some .null)) (k : wpT d kc ks y (pc + 1) L (.null :: st) M Q) : wpT d kc ks y pc L st M Q := by
  intro p l e R s m args below meth c D cA A ad H locs cells slots Qm ls C h1 h2 h3 h4 V hL hS F
  exact lv_aload_nN C.1.1 C.1.2.1 hd rfl (hL.2.2 _ _ hl).1 (k p l e R s m args below meth c D cA A ad H locs cells slots Qm ls C h1 h2 h3 h4 V hL (hS.cons trivial) F)
theorem T_aloadN {i : Nat} (hd : decode y.2.1 pc = .ok (.aload i, 2)) (hl : L[i]? = some (some .null)) (k : wpT d kc ks y (pc + 2) L (.null :: st) M Q) : wpT d kc ks y pc L st M Q := by
  intro p l e R s m args below meth c D cA A ad H locs cells slots Qm ls C h1 h2 h3 h4 V hL hS F
  exact lv_aloadN C.1.1 C.1.2.1 hd (hL.2.2 _ _ hl).1 (k p l e R s m args below meth c D cA A ad H locs cells slots Qm ls C h1 h2 h3 h4 V hL (hS.cons trivial) F)
theorem T_istore_n {i : Fin 4} {x : Int32} (hd : decode y.2.1 pc = .ok (.istore_n i, 1)) (hi : (i : Nat) < y.2.2.1) (hn : nolg L (i : Nat) = true) (he : (L.set (i : Nat) (some (.int x))) = L') (k : wpT d kc ks y (pc + 1) L' st M Q) : wpT d kc ks y pc L (.int x :: st) M Q := by
  subst he
  intro p l e R s m args below meth c D cA A ad H locs cells slots Qm ls C h1 h2 h3 h4 V hL hS F
  exact lv_istore_n (lv := lvl ad L) C.1.1 C.1.2.1 hd rfl hL.has hi rfl (fun ls' h' => k p l e R s m args below meth c D cA A ad H locs cells slots Qm ls' C h1 h2 h3 h4 V (hL.st1 hn hS.hd h') hS.tl F)
theorem T_istore {i : Nat} {x : Int32} (hd : decode y.2.1 pc = .ok (.istore i, 2)) (hi : i < y.2.2.1) (hn : nolg L i = true) (he : (L.set i (some (.int x))) = L') (k : wpT d kc ks y (pc + 2) L' st M Q) : wpT d kc ks y pc L (.int x :: st) M Q := by
  subst he
  intro p l e R s m args below meth c D cA A ad H locs cells slots Qm ls C h1 h2 h3 h4 V hL hS F
  exact lv_istore (lv := lvl ad L) C.1.1 C.1.2.1 hd hL.has hi rfl (fun ls' h' => k p l e R s m args below meth c D cA A ad H locs cells slots Qm ls' C h1 h2 h3 h4 V (hL.st1 hn hS.hd h') hS.tl F)
theorem T_astore_n {i : Fin 4} {x : Nat} (hd : decode y.2.1 pc = .ok (.astore_n i, 1)) (hi : (i : Nat) < y.2.2.1) (hn : nolg L (i : Nat) = true) (he : (L.set (i : Nat) (some (.ref x))) = L') (k : wpT d kc ks y (pc + 1) L' st M Q) : wpT d kc ks y pc L (.ref x :: st) M Q := by
  subst he
  intro p l e R s m args below meth c D cA A ad H locs cells slots Qm ls C h1 h2 h3 h4 V hL hS F
  exact lv_astore_n (lv := lvl ad L) C.1.1 C.1.2.1 hd rfl hL.has hi rfl (fun ls' h' => k p l e R s m args below meth c D cA A ad H locs cells slots Qm ls' C h1 h2 h3 h4 V (hL.st1 hn hS.hd h') hS.tl F)
theorem T_astore {i : Nat} {x : Nat} (hd : decode y.2.1 pc = .ok (.astore i, 2)) (hi : i < y.2.2.1) (hn : nolg L i = true) (he : (L.set i (some (.ref x))) = L') (k : wpT d kc ks y (pc + 2) L' st M Q) : wpT d kc ks y pc L (.ref x :: st) M Q := by
  subst he
  intro p l e R s m args below meth c D cA A ad H locs cells slots Qm ls C h1 h2 h3 h4 V hL hS F
  exact lv_astore (lv := lvl ad L) C.1.1 C.1.2.1 hd hL.has hi rfl (fun ls' h' => k p l e R s m args below meth c D cA A ad H locs cells slots Qm ls' C h1 h2 h3 h4 V (hL.st1 hn hS.hd h') hS.tl F)
theorem T_lstore_n {i : Fin 4} {x : Int64} (hd : decode y.2.1 pc = .ok (.lstore_n i, 1)) (hi : (i : Nat) + 1 < y.2.2.1) (hn : nolg L (i : Nat) = true) (he : ((L.set (i : Nat) (some (.long x))).set ((i : Nat) + 1) none) = L') (k : wpT d kc ks y (pc + 1) L' st M Q) : wpT d kc ks y pc L (.long x :: st) M Q := by
  subst he
  intro p l e R s m args below meth c D cA A ad H locs cells slots Qm ls C h1 h2 h3 h4 V hL hS F
  exact lv_lstore_n (lv := lvl ad L) C.1.1 C.1.2.1 hd rfl hL.has hi rfl (fun ls' h' => k p l e R s m args below meth c D cA A ad H locs cells slots Qm ls' C h1 h2 h3 h4 V (hL.st2 hn hS.hd h') hS.tl F)
theorem T_lstore {i : Nat} {x : Int64} (hd : decode y.2.1 pc = .ok (.lstore i, 2)) (hi : i + 1 < y.2.2.1) (hn : nolg L i = true) (he : ((L.set i (some (.long x))).set (i + 1) none) = L') (k : wpT d kc ks y (pc + 2) L' st M Q) : wpT d kc ks y pc L (.long x :: st) M Q := by
  subst he
  intro p l e R s m args below meth c D cA A ad H locs cells slots Qm ls C h1 h2 h3 h4 V hL hS F
  exact lv_lstore (lv := lvl ad L) C.1.1 C.1.2.1 hd hL.has hi rfl (fun ls' h' => k p l e R s m args below meth c D cA A ad H locs cells slots Qm ls' C h1 h2 h3 h4 V (hL.st2 hn hS.hd h') hS.tl F)
theorem T_astore_nN {i : Fin 4} (hd : decode y.2.1 pc = .ok (.astore_n i, 1)) (hi : (i : Nat) < y.2.2.1) (hn : nolg L (i : Nat) = true) (he : (L.set (i : Nat) (some (.null))) = L') (k : wpT d kc ks y (pc + 1) L' st M Q) : wpT d kc ks y pc L (.null :: st) M Q := by
  subst he
  intro p l e R s m args below meth c D cA A ad H locs cells slots Qm ls C h1 h2 h3 h4 V hL hS F
  exact lv_astore_nN (lv := lvl ad L) C.1.1 C.1.2.1 hd rfl hL.has hi rfl (fun ls' h' => k p l e R s m args below meth c D cA A ad H locs cells slots Qm ls' C h1 h2 h3 h4 V (hL.st1 hn hS.hd h') hS.tl F)
theorem T_astoreN {i : Nat} (hd : decode y.2.1 pc = .ok (.astore i, 2)) (hi : i < y.2.2.1) (hn : nolg L i = true) (he : (L.set i (some (.null))) = L') (k : wpT d kc ks y (pc + 2) L' st M Q) : wpT d kc ks y pc L (.null :: st) M Q := by
  subst he
  intro p l e R s m args below meth c D cA A ad H locs cells slots Qm ls C h1 h2 h3 h4 V hL hS F
  exact lv_astoreN (lv := lvl ad L) C.1.1 C.1.2.1 hd hL.has hi rfl (fun ls' h' => k p l e R s m args below meth c D cA A ad H locs cells slots Qm ls' C h1 h2 h3 h4 V (hL.st1 hn hS.hd h') hS.tl F)
theorem T_iinc {i : Nat} {n : Int} {x v : Int32} (hd : decode y.2.1 pc = .ok (.iinc i n, 3)) (hl : L[i]? = some (some (.int x))) (hv : x + Int32.ofInt n = v) (hi : i < y.2.2.1) (hn : nolg L i = true) (he : L.set i (some (.int v)) = L') (k : wpT d kc ks y (pc + 3) L' st M Q) : wpT d kc ks y pc L st M Q := by
  subst he
  intro p l e R s m args below meth c D cA A ad H locs cells slots Qm ls C h1 h2 h3 h4 V hL hS F
  obtain ⟨j, hj⟩ := List.getElem?_of_mem (lvl_mem.mpr ⟨_, hl, rfl⟩ : (i, tr ad (.int x)) ∈ lvl ad L)
  exact lv_iinc (lv := lvl ad L) (k := j) C.1.1 C.1.2.1 hd hL.has hj hv hi rfl (fun ls' h' => k p l e R s m args below meth c D cA A ad H locs cells slots Qm ls' C h1 h2 h3 h4 V (hL.st1 (v := .int v) hn trivial h') hS F)
theorem T_iadd {x z : Int32} (hd : decode y.2.1 pc = .ok (.iadd, 1)) (k : wpT d kc ks y (pc + 1) L (.int (x + z) :: st) M Q) : wpT d kc ks y pc L (.int z :: .int x :: st) M Q := by
  intro p l e R s m args below meth c D cA A ad H locs cells slots Qm ls C h1 h2 h3 h4 V hL hS F
  exact lv_iadd C.1.1 C.1.2.1 hd (k p l e R s m args below meth c D cA A ad H locs cells slots Qm ls C h1 h2 h3 h4 V hL (hS.tl.tl.cons trivial) F)
theorem T_isub {x z : Int32} (hd : decode y.2.1 pc = .ok (.isub, 1)) (k : wpT d kc ks y (pc + 1) L (.int (x - z) :: st) M Q) : wpT d kc ks y pc L (.int z :: .int x :: st) M Q := by
  intro p l e R s m args below meth c D cA A ad H locs cells slots Qm ls C h1 h2 h3 h4 V hL hS F
  exact lv_isub C.1.1 C.1.2.1 hd (k p l e R s m args below meth c D cA A ad H locs cells slots Qm ls C h1 h2 h3 h4 V hL (hS.tl.tl.cons trivial) F)
theorem T_imul {x z : Int32} (hd : decode y.2.1 pc = .ok (.imul, 1)) (k : wpT d kc ks y (pc + 1) L (.int (x * z) :: st) M Q) : wpT d kc ks y pc L (.int z :: .int x :: st) M Q := by
  intro p l e R s m args below meth c D cA A ad H locs cells slots Qm ls C h1 h2 h3 h4 V hL hS F
  exact lv_imul C.1.1 C.1.2.1 hd (k p l e R s m args below meth c D cA A ad H locs cells slots Qm ls C h1 h2 h3 h4 V hL (hS.tl.tl.cons trivial) F)
theorem T_iand {x z : Int32} (hd : decode y.2.1 pc = .ok (.iand, 1)) (k : wpT d kc ks y (pc + 1) L (.int (x &&& z) :: st) M Q) : wpT d kc ks y pc L (.int z :: .int x :: st) M Q := by
  intro p l e R s m args below meth c D cA A ad H locs cells slots Qm ls C h1 h2 h3 h4 V hL hS F
  exact lv_iand C.1.1 C.1.2.1 hd (k p l e R s m args below meth c D cA A ad H locs cells slots Qm ls C h1 h2 h3 h4 V hL (hS.tl.tl.cons trivial) F)
theorem T_ior {x z : Int32} (hd : decode y.2.1 pc = .ok (.ior, 1)) (k : wpT d kc ks y (pc + 1) L (.int (x ||| z) :: st) M Q) : wpT d kc ks y pc L (.int z :: .int x :: st) M Q := by
  intro p l e R s m args below meth c D cA A ad H locs cells slots Qm ls C h1 h2 h3 h4 V hL hS F
  exact lv_ior C.1.1 C.1.2.1 hd (k p l e R s m args below meth c D cA A ad H locs cells slots Qm ls C h1 h2 h3 h4 V hL (hS.tl.tl.cons trivial) F)
theorem T_ixor {x z : Int32} (hd : decode y.2.1 pc = .ok (.ixor, 1)) (k : wpT d kc ks y (pc + 1) L (.int (x ^^^ z) :: st) M Q) : wpT d kc ks y pc L (.int z :: .int x :: st) M Q := by
  intro p l e R s m args below meth c D cA A ad H locs cells slots Qm ls C h1 h2 h3 h4 V hL hS F
  exact lv_ixor C.1.1 C.1.2.1 hd (k p l e R s m args below meth c D cA A ad H locs cells slots Qm ls C h1 h2 h3 h4 V hL (hS.tl.tl.cons trivial) F)
theorem T_ishl {x z : Int32} (hd : decode y.2.1 pc = .ok (.ishl, 1)) (k : wpT d kc ks y (pc + 1) L (.int (x <<< (z &&& 31)) :: st) M Q) : wpT d kc ks y pc L (.int z :: .int x :: st) M Q := by
  intro p l e R s m args below meth c D cA A ad H locs cells slots Qm ls C h1 h2 h3 h4 V hL hS F
  exact lv_ishl C.1.1 C.1.2.1 hd (k p l e R s m args below meth c D cA A ad H locs cells slots Qm ls C h1 h2 h3 h4 V hL (hS.tl.tl.cons trivial) F)
theorem T_ishr {x z : Int32} (hd : decode y.2.1 pc = .ok (.ishr, 1)) (k : wpT d kc ks y (pc + 1) L (.int (x >>> (z &&& 31)) :: st) M Q) : wpT d kc ks y pc L (.int z :: .int x :: st) M Q := by
  intro p l e R s m args below meth c D cA A ad H locs cells slots Qm ls C h1 h2 h3 h4 V hL hS F
  exact lv_ishr C.1.1 C.1.2.1 hd (k p l e R s m args below meth c D cA A ad H locs cells slots Qm ls C h1 h2 h3 h4 V hL (hS.tl.tl.cons trivial) F)
theorem T_idiv {x z : Int32} (hd : decode y.2.1 pc = .ok (.idiv, 1)) (hz : ¬ z = 0) (k : wpT d kc ks y (pc + 1) L (.int (x / z) :: st) M Q) : wpT d kc ks y pc L (.int z :: .int x :: st) M Q := by
  intro p l e R s m args below meth c D cA A ad H locs cells slots Qm ls C h1 h2 h3 h4 V hL hS F
  exact lv_idiv C.1.1 C.1.2.1 hd hz (k p l e R s m args below meth c D cA A ad H locs cells slots Qm ls C h1 h2 h3 h4 V hL (hS.tl.tl.cons trivial) F)
theorem T_irem {x z : Int32} (hd : decode y.2.1 pc = .ok (.irem, 1)) (hz : ¬ z = 0) (k : wpT d kc ks y (pc + 1) L (.int (x - x / z * z) :: st) M Q) : wpT d kc ks y pc L (.int z :: .int x :: st) M Q := by
  intro p l e R s m args below meth c D cA A ad H locs cells slots Qm ls C h1 h2 h3 h4 V hL hS F
  exact lv_irem C.1.1 C.1.2.1 hd hz (k p l e R s m args below meth c D cA A ad H locs cells slots Qm ls C h1 h2 h3 h4 V hL (hS.tl.tl.cons trivial) F)
theorem T_ineg {x : Int32} (hd : decode y.2.1 pc = .ok (.ineg, 1)) (k : wpT d kc ks y (pc + 1) L (.int (-x) :: st) M Q) : wpT d kc ks y pc L (.int x :: st) M Q := by
  intro p l e R s m args below meth c D cA A ad H locs cells slots Qm ls C h1 h2 h3 h4 V hL hS F
  exact lv_ineg C.1.1 C.1.2.1 hd (k p l e R s m args below meth c D cA A ad H locs cells slots Qm ls C h1 h2 h3 h4 V hL (hS.tl.cons trivial) F)
theorem T_lmul {x z : Int64} (hd : decode y.2.1 pc = .ok (.lmul, 1)) (k : wpT d kc ks y (pc + 1) L (.long (x * z) :: st) M Q) : wpT d kc ks y pc L (.long z :: .long x :: st) M Q := by
  intro p l e R s m args below meth c D cA A ad H locs cells slots Qm ls C h1 h2 h3 h4 V hL hS F
  exact lv_lmul C.1.1 C.1.2.1 hd (k p l e R s m args below meth c D cA A ad H locs cells slots Qm ls C h1 h2 h3 h4 V hL (hS.tl.tl.cons trivial) F)
theorem T_ldiv {x z : Int64} (hd : decode y.2.1 pc = .ok (.ldiv, 1)) (hz : ¬ z = 0) (k : wpT d kc ks y (pc + 1) L (.long (x / z) :: st) M Q) : wpT d kc ks y pc L (.long z :: .long x :: st) M Q := by
  intro p l e R s m args below meth c D cA A ad H locs cells slots Qm ls C h1 h2 h3 h4 V hL hS F
  exact lv_ldiv C.1.1 C.1.2.1 hd hz (k p l e R s m args below meth c D cA A ad H locs cells slots Qm ls C h1 h2 h3 h4 V hL (hS.tl.tl.cons trivial) F)
theorem T_lcmp {x z : Int64} (hd : decode y.2.1 pc = .ok (.lcmp, 1)) (k : wpT d kc ks y (pc + 1) L (.int (lg_cmp x z) :: st) M Q) : wpT d kc ks y pc L (.long z :: .long x :: st) M Q := by
  intro p l e R s m args below meth c D cA A ad H locs cells slots Qm ls C h1 h2 h3 h4 V hL hS F
  exact W.lcmp C.1.1 C.1.2.1 hd (k p l e R s m args below meth c D cA A ad H locs cells slots Qm ls C h1 h2 h3 h4 V hL (hS.tl.tl.cons trivial) F)
theorem T_i2l {x : Int32} (hd : decode y.2.1 pc = .ok (.i2l, 1)) (k : wpT d kc ks y (pc + 1) L (.long x.toInt64 :: st) M Q) : wpT d kc ks y pc L (.int x :: st) M Q := by
  intro p l e R s m args below meth c D cA A ad H locs cells slots Qm ls C h1 h2 h3 h4 V hL hS F
  exact lv_i2l C.1.1 C.1.2.1 hd rfl (k p l e R s m args below meth c D cA A ad H locs cells slots Qm ls C h1 h2 h3 h4 V hL (hS.tl.cons trivial) F)
theorem T_l2i {x : Int64} (hd : decode y.2.1 pc = .ok (.l2i, 1)) (k : wpT d kc ks y (pc + 1) L (.int x.toInt32 :: st) M Q) : wpT d kc ks y pc L (.long x :: st) M Q := by
  intro p l e R s m args below meth c D cA A ad H locs cells slots Qm ls C h1 h2 h3 h4 V hL hS F
  exact lv_l2i C.1.1 C.1.2.1 hd rfl (k p l e R s m args below meth c D cA A ad H locs cells slots Qm ls C h1 h2 h3 h4 V hL (hS.tl.cons trivial) F)
theorem T_i2b {x : Int32} (hd : decode y.2.1 pc = .ok (.i2b, 1)) (k : wpT d kc ks y (pc + 1) L (.int x.toInt8.toInt32 :: st) M Q) : wpT d kc ks y pc L (.int x :: st) M Q := by
  intro p l e R s m args below meth c D cA A ad H locs cells slots Qm ls C h1 h2 h3 h4 V hL hS F
  exact lv_i2b C.1.1 C.1.2.1 hd rfl (k p l e R s m args below meth c D cA A ad H locs cells slots Qm ls C h1 h2 h3 h4 V hL (hS.tl.cons trivial) F)
theorem T_dup {v : Value} (hd : decode y.2.1 pc = .ok (.dup, 1)) (hc : v.category = 1) (k : wpT d kc ks y (pc + 1) L (v :: v :: st) M Q) : wpT d kc ks y pc L (v :: st) M Q := by
  intro p l e R s m args below meth c D cA A ad H locs cells slots Qm ls C h1 h2 h3 h4 V hL hS F
  exact lv_dup C.1.1 C.1.2.1 hd (by rw [tr_cat]; exact hc) (k p l e R s m args below meth c D cA A ad H locs cells slots Qm ls C h1 h2 h3 h4 V hL (hS.cons hS.hd) F)
theorem T_dup2 {v w : Value} (hd : decode y.2.1 pc = .ok (.dup2, 1)) (hc : v.category = 1) (hc2 : w.category = 1) (k : wpT d kc ks y (pc + 1) L (v :: w :: v :: w :: st) M Q) : wpT d kc ks y pc L (v :: w :: st) M Q := by
  intro p l e R s m args below meth c D cA A ad H locs cells slots Qm ls C h1 h2 h3 h4 V hL hS F
  exact lv_dup2_11 C.1.1 C.1.2.1 hd (by rw [tr_cat]; exact hc) (by rw [tr_cat]; exact hc2) (k p l e R s m args below meth c D cA A ad H locs cells slots Qm ls C h1 h2 h3 h4 V hL ((hS.cons hS.tl.hd).cons hS.hd) F)
theorem T_pop {v : Value} (hd : decode y.2.1 pc = .ok (.pop, 1)) (hc : v.category = 1) (k : wpT d kc ks y (pc + 1) L st M Q) : wpT d kc ks y pc L (v :: st) M Q := by
  intro p l e R s m args below meth c D cA A ad H locs cells slots Qm ls C h1 h2 h3 h4 V hL hS F
  exact lv_pop C.1.1 C.1.2.1 hd (by rw [tr_cat]; exact hc) (k p l e R s m args below meth c D cA A ad H locs cells slots Qm ls C h1 h2 h3 h4 V hL hS.tl F)
theorem T_if_eq {x : Int32} {off : Int} {tgt : Nat} (hd : decode y.2.1 pc = .ok (.ifCond .eq off, 3)) (ht : (pc : Int) + off = (tgt : Int)) (kt : x = 0 → wpT d kc ks y tgt L st M Q) (kf : ¬ x = 0 → wpT d kc ks y (pc + 3) L st M Q) : wpT d kc ks y pc L (.int x :: st) M Q := by
  intro p l e R s m args below meth c D cA A ad H locs cells slots Qm ls C h1 h2 h3 h4 V hL hS F
  exact lv_if_eq C.1.1 C.1.2.1 hd ht (fun q => (kt q p l e R s m args below meth c D cA A ad H locs cells slots Qm ls C h1 h2 h3 h4 V hL hS.tl F)) (fun q => (kf q p l e R s m args below meth c D cA A ad H locs cells slots Qm ls C h1 h2 h3 h4 V hL hS.tl F))
theorem T_icmp_eq {x z : Int32} {off : Int} {tgt : Nat} (hd : decode y.2.1 pc = .ok (.if_icmp .eq off, 3)) (ht : (pc : Int) + off = (tgt : Int)) (kt : x = z → wpT d kc ks y tgt L st M Q) (kf : ¬ x = z → wpT d kc ks y (pc + 3) L st M Q) : wpT d kc ks y pc L (.int z :: .int x :: st) M Q := by
  intro p l e R s m args below meth c D cA A ad H locs cells slots Qm ls C h1 h2 h3 h4 V hL hS F
  exact lv_icmp_eq C.1.1 C.1.2.1 hd ht (fun q => (kt q p l e R s m args below meth c D cA A ad H locs cells slots Qm ls C h1 h2 h3 h4 V hL hS.tl.tl F)) (fun q => (kf q p l e R s m args below meth c D cA A ad H locs cells slots Qm ls C h1 h2 h3 h4 V hL hS.tl.tl F))
theorem T_if_ne {x : Int32} {off : Int} {tgt : Nat} (hd : decode y.2.1 pc = .ok (.ifCond .ne off, 3)) (ht : (pc : Int) + off = (tgt : Int)) (kt : ¬ x = 0 → wpT d kc ks y tgt L st M Q) (kf : x = 0 → wpT d kc ks y (pc + 3) L st M Q) : wpT d kc ks y pc L (.int x :: st) M Q := by
  intro p l e R s m args below meth c D cA A ad H locs cells slots Qm ls C h1 h2 h3 h4 V hL hS F
  exact lv_if_ne C.1.1 C.1.2.1 hd ht (fun q => (kt q p l e R s m args below meth c D cA A ad H locs cells slots Qm ls C h1 h2 h3 h4 V hL hS.tl F)) (fun q => (kf q p l e R s m args below meth c D cA A ad H locs cells slots Qm ls C h1 h2 h3 h4 V hL hS.tl F))
theorem T_icmp_ne {x z : Int32} {off : Int} {tgt : Nat} (hd : decode y.2.1 pc = .ok (.if_icmp .ne off, 3)) (ht : (pc : Int) + off = (tgt : Int)) (kt : ¬ x = z → wpT d kc ks y tgt L st M Q) (kf : x = z → wpT d kc ks y (pc + 3) L st M Q) : wpT d kc ks y pc L (.int z :: .int x :: st) M Q := by
  intro p l e R s m args below meth c D cA A ad H locs cells slots Qm ls C h1 h2 h3 h4 V hL hS F
  exact lv_icmp_ne C.1.1 C.1.2.1 hd ht (fun q => (kt q p l e R s m args below meth c D cA A ad H locs cells slots Qm ls C h1 h2 h3 h4 V hL hS.tl.tl F)) (fun q => (kf q p l e R s m args below meth c D cA A ad H locs cells slots Qm ls C h1 h2 h3 h4 V hL hS.tl.tl F))
theorem T_if_lt {x : Int32} {off : Int} {tgt : Nat} (hd : decode y.2.1 pc = .ok (.ifCond .lt off, 3)) (ht : (pc : Int) + off = (tgt : Int)) (kt : x < 0 → wpT d kc ks y tgt L st M Q) (kf : ¬ x < 0 → wpT d kc ks y (pc + 3) L st M Q) : wpT d kc ks y pc L (.int x :: st) M Q := by
  intro p l e R s m args below meth c D cA A ad H locs cells slots Qm ls C h1 h2 h3 h4 V hL hS F
  exact lv_if_lt C.1.1 C.1.2.1 hd ht (fun q => (kt q p l e R s m args below meth c D cA A ad H locs cells slots Qm ls C h1 h2 h3 h4 V hL hS.tl F)) (fun q => (kf q p l e R s m args below meth c D cA A ad H locs cells slots Qm ls C h1 h2 h3 h4 V hL hS.tl F))
theorem T_icmp_lt {x z : Int32} {off : Int} {tgt : Nat} (hd : decode y.2.1 pc = .ok (.if_icmp .lt off, 3)) (ht : (pc : Int) + off = (tgt : Int)) (kt : x < z → wpT d kc ks y tgt L st M Q) (kf : ¬ x < z → wpT d kc ks y (pc + 3) L st M Q) : wpT d kc ks y pc L (.int z :: .int x :: st) M Q := by
  intro p l e R s m args below meth c D cA A ad H locs cells slots Qm ls C h1 h2 h3 h4 V hL hS F
  exact lv_icmp_lt C.1.1 C.1.2.1 hd ht (fun q => (kt q p l e R s m args below meth c D cA A ad H locs cells slots Qm ls C h1 h2 h3 h4 V hL hS.tl.tl F)) (fun q => (kf q p l e R s m args below meth c D cA A ad H locs cells slots Qm ls C h1 h2 h3 h4 V hL hS.tl.tl F))
theorem T_if_ge {x : Int32} {off : Int} {tgt : Nat} (hd : decode y.2.1 pc = .ok (.ifCond .ge off, 3)) (ht : (pc : Int) + off = (tgt : Int)) (kt : 0 ≤ x → wpT d kc ks y tgt L st M Q) (kf : ¬ 0 ≤ x → wpT d kc ks y (pc + 3) L st M Q) : wpT d kc ks y pc L (.int x :: st) M Q := by
  intro p l e R s m args below meth c D cA A ad H locs cells slots Qm ls C h1 h2 h3 h4 V hL hS F
  exact lv_if_ge C.1.1 C.1.2.1 hd ht (fun q => (kt q p l e R s m args below meth c D cA A ad H locs cells slots Qm ls C h1 h2 h3 h4 V hL hS.tl F)) (fun q => (kf q p l e R s m args below meth c D cA A ad H locs cells slots Qm ls C h1 h2 h3 h4 V hL hS.tl F))
theorem T_icmp_ge {x z : Int32} {off : Int} {tgt : Nat} (hd : decode y.2.1 pc = .ok (.if_icmp .ge off, 3)) (ht : (pc : Int) + off = (tgt : Int)) (kt : z ≤ x → wpT d kc ks y tgt L st M Q) (kf : ¬ z ≤ x → wpT d kc ks y (pc + 3) L st M Q) : wpT d kc ks y pc L (.int z :: .int x :: st) M Q := by
  intro p l e R s m args below meth c D cA A ad H locs cells slots Qm ls C h1 h2 h3 h4 V hL hS F
  exact lv_icmp_ge C.1.1 C.1.2.1 hd ht (fun q => (kt q p l e R s m args below meth c D cA A ad H locs cells slots Qm ls C h1 h2 h3 h4 V hL hS.tl.tl F)) (fun q => (kf q p l e R s m args below meth c D cA A ad H locs cells slots Qm ls C h1 h2 h3 h4 V hL hS.tl.tl F))
theorem T_if_gt {x : Int32} {off : Int} {tgt : Nat} (hd : decode y.2.1 pc = .ok (.ifCond .gt off, 3)) (ht : (pc : Int) + off = (tgt : Int)) (kt : 0 < x → wpT d kc ks y tgt L st M Q) (kf : ¬ 0 < x → wpT d kc ks y (pc + 3) L st M Q) : wpT d kc ks y pc L (.int x :: st) M Q := by
  intro p l e R s m args below meth c D cA A ad H locs cells slots Qm ls C h1 h2 h3 h4 V hL hS F
  exact lv_if_gt C.1.1 C.1.2.1 hd ht (fun q => (kt q p l e R s m args below meth c D cA A ad H locs cells slots Qm ls C h1 h2 h3 h4 V hL hS.tl F)) (fun q => (kf q p l e R s m args below meth c D cA A ad H locs cells slots Qm ls C h1 h2 h3 h4 V hL hS.tl F))
theorem T_icmp_gt {x z : Int32} {off : Int} {tgt : Nat} (hd : decode y.2.1 pc = .ok (.if_icmp .gt off, 3)) (ht : (pc : Int) + off = (tgt : Int)) (kt : z < x → wpT d kc ks y tgt L st M Q) (kf : ¬ z < x → wpT d kc ks y (pc + 3) L st M Q) : wpT d kc ks y pc L (.int z :: .int x :: st) M Q := by
  intro p l e R s m args below meth c D cA A ad H locs cells slots Qm ls C h1 h2 h3 h4 V hL hS F
  exact lv_icmp_gt C.1.1 C.1.2.1 hd ht (fun q => (kt q p l e R s m args below meth c D cA A ad H locs cells slots Qm ls C h1 h2 h3 h4 V hL hS.tl.tl F)) (fun q => (kf q p l e R s m args below meth c D cA A ad H locs cells slots Qm ls C h1 h2 h3 h4 V hL hS.tl.tl F))
theorem T_if_le {x : Int32} {off : Int} {tgt : Nat} (hd : decode y.2.1 pc = .ok (.ifCond .le off, 3)) (ht : (pc : Int) + off = (tgt : Int)) (kt : x ≤ 0 → wpT d kc ks y tgt L st M Q) (kf : ¬ x ≤ 0 → wpT d kc ks y (pc + 3) L st M Q) : wpT d kc ks y pc L (.int x :: st) M Q := by
  intro p l e R s m args below meth c D cA A ad H locs cells slots Qm ls C h1 h2 h3 h4 V hL hS F
  exact lv_if_le C.1.1 C.1.2.1 hd ht (fun q => (kt q p l e R s m args below meth c D cA A ad H locs cells slots Qm ls C h1 h2 h3 h4 V hL hS.tl F)) (fun q => (kf q p l e R s m args below meth c D cA A ad H locs cells slots Qm ls C h1 h2 h3 h4 V hL hS.tl F))
theorem T_icmp_le {x z : Int32} {off : Int} {tgt : Nat} (hd : decode y.2.1 pc = .ok (.if_icmp .le off, 3)) (ht : (pc : Int) + off = (tgt : Int)) (kt : x ≤ z → wpT d kc ks y tgt L st M Q) (kf : ¬ x ≤ z → wpT d kc ks y (pc + 3) L st M Q) : wpT d kc ks y pc L (.int z :: .int x :: st) M Q := by
  intro p l e R s m args below meth c D cA A ad H locs cells slots Qm ls C h1 h2 h3 h4 V hL hS F
  exact lv_icmp_le C.1.1 C.1.2.1 hd ht (fun q => (kt q p l e R s m args below meth c D cA A ad H locs cells slots Qm ls C h1 h2 h3 h4 V hL hS.tl.tl F)) (fun q => (kf q p l e R s m args below meth c D cA A ad H locs cells slots Qm ls C h1 h2 h3 h4 V hL hS.tl.tl F))
theorem T_goto {off : Int} {tgt : Nat} (hd : decode y.2.1 pc = .ok (.goto off, 3)) (ht : (pc : Int) + off = (tgt : Int)) (k : wpT d kc ks y tgt L st M Q) : wpT d kc ks y pc L st M Q := by
  intro p l e R s m args below meth c D cA A ad H locs cells slots Qm ls C h1 h2 h3 h4 V hL hS F
  exact lv_goto C.1.1 C.1.2.1 hd ht (k p l e R s m args below meth c D cA A ad H locs cells slots Qm ls C h1 h2 h3 h4 V hL hS F)
theorem T_ifnullR {x : Nat} {off : Int} (hd : decode y.2.1 pc = .ok (.ifnull off, 3)) (k : wpT d kc ks y (pc + 3) L st M Q) : wpT d kc ks y pc L (.ref x :: st) M Q := by
  intro p l e R s m args below meth c D cA A ad H locs cells slots Qm ls C h1 h2 h3 h4 V hL hS F
  exact lv_ifnull C.1.1 C.1.2.1 hd (k p l e R s m args below meth c D cA A ad H locs cells slots Qm ls C h1 h2 h3 h4 V hL hS.tl F)
theorem T_ifnullN {off : Int} {tgt : Nat} (hd : decode y.2.1 pc = .ok (.ifnull off, 3)) (ht : (pc : Int) + off = (tgt : Int)) (k : wpT d kc ks y tgt L st M Q) : wpT d kc ks y pc L (.null :: st) M Q := by
  intro p l e R s m args below meth c D cA A ad H locs cells slots Qm ls C h1 h2 h3 h4 V hL hS F
  exact lv_ifnullN C.1.1 C.1.2.1 hd ht (k p l e R s m args below meth c D cA A ad H locs cells slots Qm ls C h1 h2 h3 h4 V hL hS.tl F)
theorem T_ifnonnullR {x : Nat} {off : Int} {tgt : Nat} (hd : decode y.2.1 pc = .ok (.ifnonnull off, 3)) (ht : (pc : Int) + off = (tgt : Int)) (k : wpT d kc ks y tgt L st M Q) : wpT d kc ks y pc L (.ref x :: st) M Q := by
  intro p l e R s m args below meth c D cA A ad H locs cells slots Qm ls C h1 h2 h3 h4 V hL hS F
  exact lv_ifnonnull C.1.1 C.1.2.1 hd ht (k p l e R s m args below meth c D cA A ad H locs cells slots Qm ls C h1 h2 h3 h4 V hL hS.tl F)
theorem T_ifnonnullN {off : Int} (hd : decode y.2.1 pc = .ok (.ifnonnull off, 3)) (k : wpT d kc ks y (pc + 3) L st M Q) : wpT d kc ks y pc L (.null :: st) M Q := by
  intro p l e R s m args below meth c D cA A ad H locs cells slots Qm ls C h1 h2 h3 h4 V hL hS F
  exact lv_ifnonnullN C.1.1 C.1.2.1 hd (k p l e R s m args below meth c D cA A ad H locs cells slots Qm ls C h1 h2 h3 h4 V hL hS.tl F)
theorem T_acmp_ne {x z : Option Nat} {off : Int} {tgt : Nat} (hd : decode y.2.1 pc = .ok (.if_acmp .ne off, 3)) (ht : (pc : Int) + off = (tgt : Int)) (kt : ¬ x = z → wpT d kc ks y tgt L st M Q) (kf : x = z → wpT d kc ks y (pc + 3) L st M Q) : wpT d kc ks y pc L (va_rf z :: va_rf x :: st) M Q := by
  intro p l e R s m args below meth c D cA A ad H locs cells slots Qm ls C h1 h2 h3 h4 V hL hS F
  have hi : x.map ad = z.map ad → x = z := by
    have g1 := hS.hd
    have g2 := hS.tl.hd
    cases x <;> cases z <;> intro h
    · rfl
    · cases h
    · cases h
    · exact congrArg some (ad_inj V g2 g1 (Option.some.inj h))
  show W p l e R s m args below meth c H locs cells slots Qm (F0 m pc ls (tr ad (va_rf z) :: tr ad (va_rf x) :: st.map (tr ad)))
  rw [tr_rf, tr_rf]
  exact lv_acmp_ne C.1.1 C.1.2.1 hd ht (fun q => (kt (fun e => q (by rw [e])) p l e R s m args below meth c D cA A ad H locs cells slots Qm ls C h1 h2 h3 h4 V hL hS.tl.tl F)) (fun q => (kf (hi q) p l e R s m args below meth c D cA A ad H locs cells slots Qm ls C h1 h2 h3 h4 V hL hS.tl.tl F))
theorem T_tblOut {dflt lo hi : Int} {offs : Array Int} {len : Nat} {x : Int32} {tgt : Nat} (hd : decode y.2.1 pc = .ok (.tableswitch dflt lo hi offs, len)) (h : x.toInt < lo ∨ hi < x.toInt) (ht : (pc : Int) + dflt = (tgt : Int)) (k : wpT d kc ks y tgt L st M Q) : wpT d kc ks y pc L (.int x :: st) M Q := by
  intro p l e R s m args below meth c D cA A ad H locs cells slots Qm ls C h1 h2 h3 h4 V hL hS F
  exact lv_tableOut C.1.1 C.1.2.1 hd h ht (k p l e R s m args below meth c D cA A ad H locs cells slots Qm ls C h1 h2 h3 h4 V hL hS.tl F)
theorem T_tblIn {dflt lo hi : Int} {offs : Array Int} {len : Nat} {x : Int32} {off : Int} {tgt : Nat} (hd : decode y.2.1 pc = .ok (.tableswitch dflt lo hi offs, len)) (g1 : ¬ x.toInt < lo) (g2 : ¬ hi < x.toInt) (ho : offs[(x.toInt - lo).toNat]? = some off) (ht : (pc : Int) + off = (tgt : Int)) (k : wpT d kc ks y tgt L st M Q) : wpT d kc ks y pc L (.int x :: st) M Q := by
  intro p l e R s m args below meth c D cA A ad H locs cells slots Qm ls C h1 h2 h3 h4 V hL hS F
  exact lv_tableIn C.1.1 C.1.2.1 hd g1 g2 ho ht (k p l e R s m args below meth c D cA A ad H locs cells slots Qm ls C h1 h2 h3 h4 V hL hS.tl F)
theorem T_lookup {dflt : Int} {ps : Array (Int × Int)} {len : Nat} {x : Int32} {off : Int} {tgt : Nat} (hd : decode y.2.1 pc = .ok (.lookupswitch dflt ps, len)) (hp : (ps.toList.zip (ps.toList.drop 1)).all (fun (a, next) => a.1 < next.1) = true) (ho : Op.lookupswitch.offset ps.toList dflt x.toInt = off) (ht : (pc : Int) + off = (tgt : Int)) (k : wpT d kc ks y tgt L st M Q) : wpT d kc ks y pc L (.int x :: st) M Q := by
  intro p l e R s m args below meth c D cA A ad H locs cells slots Qm ls C h1 h2 h3 h4 V hL hS F
  exact lv_lookup C.1.1 C.1.2.1 hd hp ho ht (k p l e R s m args below meth c D cA A ad H locs cells slots Qm ls C h1 h2 h3 h4 V hL hS.tl F)
theorem T_ret_i {v : Int32} (hd : decode y.2.1 pc = .ok (.ireturn, 1)) (hr : y.2.2.2 = some .int) (q : Q (some (.int v)) M) : wpT d kc ks y pc L [.int v] M Q := by
  intro p l e R s m args below meth c D cA A ad H locs cells slots Qm ls C h1 h2 h3 h4 V hL hS F
  exact W.widen (Nat.le_add_right _ _) (Nat.le_add_right _ _) (F (some (.int v)) M pc ls ad H locs q (Nat.le_refl _) (fun _ _ => rfl) V (fun _ h => by cases h; trivial) ⟨hd, .int, hr, rfl⟩)
theorem T_ret_z {v : Int32} (hd : decode y.2.1 pc = .ok (.ireturn, 1)) (hr : y.2.2.2 = some .boolean) (hv : v = 0 ∨ v = 1) (q : Q (some (.int v)) M) : wpT d kc ks y pc L [.int v] M Q := by
  intro p l e R s m args below meth c D cA A ad H locs cells slots Qm ls C h1 h2 h3 h4 V hL hS F
  exact W.widen (Nat.le_add_right _ _) (Nat.le_add_right _ _) (F (some (.int v)) M pc ls ad H locs q (Nat.le_refl _) (fun _ _ => rfl) V (fun _ h => by cases h; trivial) ⟨hd, .boolean, hr, by rcases hv with rfl | rfl <;> rfl⟩)
theorem T_ret_a {v : Nat} (hd : decode y.2.1 pc = .ok (.areturn, 1)) {rt : FieldType} (hr : y.2.2.2 = some rt) (hrt : (∃ n, rt = .object n) ∨ ∃ t, rt = .array t) (q : Q (some (.ref v)) M) : wpT d kc ks y pc L [.ref v] M Q := by
  intro p l e R s m args below meth c D cA A ad H locs cells slots Qm ls C h1 h2 h3 h4 V hL hS F
  exact W.widen (Nat.le_add_right _ _) (Nat.le_add_right _ _) (F (some (.ref v)) M pc ls ad H locs q (Nat.le_refl _) (fun _ _ => rfl) V (fun _ h => by cases h; exact hS.hd) ⟨hd, Or.inr ⟨v, rfl⟩, rt, hr, hrt⟩)
theorem T_ret_aN (hd : decode y.2.1 pc = .ok (.areturn, 1)) {rt : FieldType} (hr : y.2.2.2 = some rt) (hrt : (∃ n, rt = .object n) ∨ ∃ t, rt = .array t) (q : Q (some .null) M) : wpT d kc ks y pc L [.null] M Q := by
  intro p l e R s m args below meth c D cA A ad H locs cells slots Qm ls C h1 h2 h3 h4 V hL hS F
  exact W.widen (Nat.le_add_right _ _) (Nat.le_add_right _ _) (F (some .null) M pc ls ad H locs q (Nat.le_refl _) (fun _ _ => rfl) V (fun _ h => by cases h; trivial) ⟨hd, Or.inl rfl, rt, hr, hrt⟩)
end TRULES

section TMEM
variable {d kc ks : Nat} {y : Yt} {pc : Nat} {L L' : List (Option Value)} {st : List Value} {M : Mm} {Q : Option Value → Mm → Prop}
theorem T_getI {a : Nat} (ci k idx : Nat) (hd : decode y.2.1 pc = .ok (.getfield idx, 3)) (hl : lnk y idx ci k) (hk : k < nfl ci) (hr : isR ci k = false) (ho : ob M a ci) (kk : wpT d kc ks y (pc + 3) L (.int (mI M a k) :: st) M Q) : wpT d kc ks y pc L (.ref a :: st) M Q := by
  intro p l e R s m args below meth c D cA A ad H locs cells slots Qm ls C h1 h2 h3 h4 V hL hS F
  have ok := cls_ok ci (cls_lt hk)
  exact va_get (D := D) (ci := ci) (v := .int (mI M a k)) C.1.1 C.1.2.1 C.1.2.2.2.2.2.1 ok.2.1 C.1.2.2.2.2.1 V.1 V.2.1 a (by rw [wsO_get ho.1, cel_o ho.2]) ok.1 k hk (C.1.2.2.2.2.2.1 _ hl) (fun _ h => h) (by rw [flv_get hk, hr]; rfl) hd (kk p l e R s m args below meth c D cA A ad H locs cells slots Qm ls C h1 h2 h3 h4 V hL (hS.tl.cons trivial) F)
theorem T_getR {a : Nat} (ci k idx : Nat) {x : Option Nat} (hd : decode y.2.1 pc = .ok (.getfield idx, 3)) (hl : lnk y idx ci k) (hk : k < nfl ci) (hr : isR ci k = true) (ho : ob M a ci) (hx : mP M a k = x) (kk : wpT d kc ks y (pc + 3) L (va_rf x :: st) M Q) : wpT d kc ks y pc L (.ref a :: st) M Q := by
  intro p l e R s m args below meth c D cA A ad H locs cells slots Qm ls C h1 h2 h3 h4 V hL hS F
  subst hx
  have ok := cls_ok ci (cls_lt hk)
  have g := kk p l e R s m args below meth c D cA A ad H locs cells slots Qm ls C h1 h2 h3 h4 V hL (hS.tl.cons (okV_rf (fun b hb => V.2.2.2.2.2 a k b hb))) F
  rw [List.map_cons, tr_rf] at g
  exact va_get (D := D) (ci := ci) (v := va_rf ((mP M a k).map ad)) C.1.1 C.1.2.1 C.1.2.2.2.2.2.1 ok.2.1 C.1.2.2.2.2.1 V.1 V.2.1 a (by rw [wsO_get ho.1, cel_o ho.2]) ok.1 k hk (C.1.2.2.2.2.2.1 _ hl) (fun _ h => h) (by rw [flv_get hk, hr]; rfl) hd g
theorem T_get1 {a b : Nat} (ci k idx : Nat) (hd : decode y.2.1 pc = .ok (.getfield idx, 3)) (hl : lnk y idx ci k) (hk : k < nfl ci) (hr : isR ci k = true) (ho : ob M a ci) (hx : mP M a k = some b) (kk : wpT d kc ks y (pc + 3) L (.ref b :: st) M Q) : wpT d kc ks y pc L (.ref a :: st) M Q := T_getR ci k idx hd hl hk hr ho hx kk
theorem T_putI {a : Nat} {v : Int32} (ci k idx : Nat) (hd : decode y.2.1 pc = .ok (.putfield idx, 3)) (hl : lnk y idx ci k) (hk : k < nfl ci) (ht : Tyof ci k = .int) (hf : (Tof ci k).2.2.2 = false) (ho : ob M a ci) (kk : wpT d kc ks y (pc + 3) L st (wI M a k v) Q) : wpT d kc ks y pc L (.int v :: .ref a :: st) M Q := by
  intro p l e R s m args below meth c D cA A ad H locs cells slots Qm ls C h1 h2 h3 h4 V hL hS F
  have ok := cls_ok ci (cls_lt hk)
  have hr : isR ci k = false := by simp [isR, ht, refl_t]
  refine va_put (D := D) (ci := ci) (v := .int v) (ty := .int) C.1.1 C.1.2.1 C.1.2.2.2.2.2.1 ok.2.1 (Tyof ci) ok.2.2.1 ok.2.2.2 C.1.2.2.2.2.1 V.1 V.2.1 V.2.2.1 V.2.2.2.1 a (by rw [wsO_get ho.1, cel_o ho.2]) ok.1 k hk (C.1.2.2.2.2.2.1 _ hl) (fun _ h => h) hf (by rw [ok.2.2.1 k hk, ht]) rfl rfl (by rw [flv_len]; exact hk) hd (fun H1 locs1 g1 g2 g3 => ?_)
  exact kk p l e R s m args below meth c D cA A ad H1 locs1 cells slots Qm ls C h1 h2 h3 h4 (V.set rfl V.2.2.2.2.2 ((cel_o (M := wI M a k v) ho.2).trans (by rw [flv_setI hr (I' := mI (wI M a k v) a) up2_at (fun j hj => up2_row hj)])) (fun j hj => cel_oI hj) g1 g2 g3) hL hS.tl.tl F
theorem T_putZ {a : Nat} {v : Int32} (ci k idx : Nat) (hd : decode y.2.1 pc = .ok (.putfield idx, 3)) (hl : lnk y idx ci k) (hk : k < nfl ci) (ht : Tyof ci k = .boolean) (hf : (Tof ci k).2.2.2 = false) (ho : ob M a ci) (hv : v = 0 ∨ v = 1) (kk : wpT d kc ks y (pc + 3) L st (wI M a k v) Q) : wpT d kc ks y pc L (.int v :: .ref a :: st) M Q := by
  intro p l e R s m args below meth c D cA A ad H locs cells slots Qm ls C h1 h2 h3 h4 V hL hS F
  have ok := cls_ok ci (cls_lt hk)
  have hr : isR ci k = false := by simp [isR, ht, refl_t]
  refine va_put (D := D) (ci := ci) (v := .int v) (ty := .boolean) C.1.1 C.1.2.1 C.1.2.2.2.2.2.1 ok.2.1 (Tyof ci) ok.2.2.1 ok.2.2.2 C.1.2.2.2.2.1 V.1 V.2.1 V.2.2.1 V.2.2.2.1 a (by rw [wsO_get ho.1, cel_o ho.2]) ok.1 k hk (C.1.2.2.2.2.2.1 _ hl) (fun _ h => h) hf (by rw [ok.2.2.1 k hk, ht]) (by rcases hv with rfl | rfl <;> rfl) (by rcases hv with rfl | rfl <;> rfl) (by rw [flv_len]; exact hk) hd (fun H1 locs1 g1 g2 g3 => ?_)
  exact kk p l e R s m args below meth c D cA A ad H1 locs1 cells slots Qm ls C h1 h2 h3 h4 (V.set rfl V.2.2.2.2.2 ((cel_o (M := wI M a k v) ho.2).trans (by rw [flv_setI hr (I' := mI (wI M a k v) a) up2_at (fun j hj => up2_row hj)])) (fun j hj => cel_oI hj) g1 g2 g3) hL hS.tl.tl F
theorem T_putR {a : Nat} {x : Option Nat} (ci k idx : Nat) (hd : decode y.2.1 pc = .ok (.putfield idx, 3)) (hl : lnk y idx ci k) (hk : k < nfl ci) (hr : isR ci k = true) (hf : (Tof ci k).2.2.2 = false) (ho : ob M a ci) (kk : wpT d kc ks y (pc + 3) L st (wP M a k x) Q) : wpT d kc ks y pc L (va_rf x :: .ref a :: st) M Q := by
  intro p l e R s m args below meth c D cA A ad H locs cells slots Qm ls C h1 h2 h3 h4 V hL hS F
  have ok := cls_ok ci (cls_lt hk)
  have nf := nar_ref hr (x.map ad)
  show W p l e R s m args below meth c H locs cells slots Qm (F0 m pc ls (tr ad (va_rf x) :: .ref (ad a) :: st.map (tr ad)))
  rw [tr_rf]
  refine va_put (D := D) (ci := ci) (v := va_rf (x.map ad)) (ty := Tyof ci k) C.1.1 C.1.2.1 C.1.2.2.2.2.2.1 ok.2.1 (Tyof ci) ok.2.2.1 ok.2.2.2 C.1.2.2.2.2.1 V.1 V.2.1 V.2.2.1 V.2.2.2.1 a (by rw [wsO_get ho.1, cel_o ho.2]) ok.1 k hk (C.1.2.2.2.2.2.1 _ hl) (fun _ h => h) hf (ok.2.2.1 k hk) nf.1 nf.2 (by rw [flv_len]; exact hk) hd (fun H1 locs1 g1 g2 g3 => ?_)
  exact kk p l e R s m args below meth c D cA A ad H1 locs1 cells slots Qm ls C h1 h2 h3 h4 (V.set (M' := wP M a k x) rfl (wP_ok V.2.2.2.2.2 (rf_ok hS.hd)) ((cel_o (M := wP M a k x) ho.2).trans (by rw [flv_setR hr (P' := mP (wP M a k x) a) up2_at (fun j hj => up2_row hj)])) (fun j hj => cel_oP hj) g1 g2 g3) hL hS.tl.tl F
theorem T_put1 {a b : Nat} (ci k idx : Nat) (hd : decode y.2.1 pc = .ok (.putfield idx, 3)) (hl : lnk y idx ci k) (hk : k < nfl ci) (hr : isR ci k = true) (hf : (Tof ci k).2.2.2 = false) (ho : ob M a ci) (kk : wpT d kc ks y (pc + 3) L st (wP M a k (some b)) Q) : wpT d kc ks y pc L (.ref b :: .ref a :: st) M Q := T_putR (x := some b) ci k idx hd hl hk hr hf ho kk
theorem T_putF {a b : Nat} (ci k idx : Nat) (hd : decode y.2.1 pc = .ok (.putfield idx, 3)) (hl : lnk y idx ci k) (hk : k < nfl ci) (hr : isR ci k = true) (hf : (Tof ci k).2.2.2 = true) (hin : y.1.name = "<init>") (hdc : (Tof ci k).1 = y.1.cls) (ho : ob M a ci) (kk : wpT d kc ks y (pc + 3) L st (wP M a k (some b)) Q) : wpT d kc ks y pc L (.ref b :: .ref a :: st) M Q := by
  intro p l e R s m args below meth c D cA A ad H locs cells slots Qm ls C h1 h2 h3 h4 V hL hS F
  have ok := cls_ok ci (cls_lt hk)
  have nf := nar_ref hr (some (ad b))
  refine va_putF (D := D) (ci := ci) (v := va_rf (some (ad b))) (ty := Tyof ci k) C.1.1 C.1.2.1 C.1.2.2.2.2.2.1 ok.2.1 (Tyof ci) ok.2.2.1 ok.2.2.2 C.1.2.2.2.2.1 V.1 V.2.1 V.2.2.1 V.2.2.2.1 a (by rw [wsO_get ho.1, cel_o ho.2]) ok.1 k hk (C.1.2.2.2.2.2.1 _ hl) (fun _ h => h) hf (C.1.2.2.2.2.2.2.2.1 hin) hdc (ok.2.2.1 k hk) nf.1 nf.2 (by rw [flv_len]; exact hk) hd (fun H1 locs1 g1 g2 g3 => ?_)
  exact kk p l e R s m args below meth c D cA A ad H1 locs1 cells slots Qm ls C h1 h2 h3 h4 (V.set (M' := wP M a k (some b)) rfl (wP_ok V.2.2.2.2.2 (fun z hz => by cases hz; exact hS.hd)) ((cel_o (M := wP M a k (some b)) ho.2).trans (by rw [show (va_rf (some (ad b)) : Value) = va_rf ((some b : Option Nat).map ad) from rfl, flv_setR hr (P' := mP (wP M a k (some b)) a) up2_at (fun j hj => up2_row hj)])) (fun j hj => cel_oP hj) g1 g2 g3) hL hS.tl.tl F
theorem T_iald {a n : Nat} {i : Int32} (hd : decode y.2.1 pc = .ok (.iaload, 1)) (ha : ar M a 1 n) (hi : vp_in i n) (kk : wpT d kc ks y (pc + 1) L (.int (mI M a i.toNatClampNeg) :: st) M Q) : wpT d kc ks y pc L (.int i :: .ref a :: st) M Q := by
  intro p l e R s m args below meth c D cA A ad H locs cells slots Qm ls C h1 h2 h3 h4 V hL hS F
  exact va_iald (D := D) C.1.1 C.1.2.1 V.1 V.2.1 a 0 (by rw [wsO_get ha.1, cel_i 1 (by decide) ha.2]) rfl hi hd (kk p l e R s m args below meth c D cA A ad H locs cells slots Qm ls C h1 h2 h3 h4 V hL (hS.tl.tl.cons trivial) F)
theorem T_bald {a n : Nat} {i : Int32} (hd : decode y.2.1 pc = .ok (.baload, 1)) (ha : ar M a 2 n) (hi : vp_in i n) (kk : wpT d kc ks y (pc + 1) L (.int (mI M a i.toNatClampNeg) :: st) M Q) : wpT d kc ks y pc L (.int i :: .ref a :: st) M Q := by
  intro p l e R s m args below meth c D cA A ad H locs cells slots Qm ls C h1 h2 h3 h4 V hL hS F
  exact va_bald (D := D) C.1.1 C.1.2.1 V.1 V.2.1 a 1 (by rw [wsO_get ha.1, cel_i 2 (by decide) ha.2]) rfl hi hd (kk p l e R s m args below meth c D cA A ad H locs cells slots Qm ls C h1 h2 h3 h4 V hL (hS.tl.tl.cons trivial) F)
theorem T_zald {a n : Nat} {i : Int32} (hd : decode y.2.1 pc = .ok (.baload, 1)) (ha : ar M a 3 n) (hi : vp_in i n) (kk : wpT d kc ks y (pc + 1) L (.int (mI M a i.toNatClampNeg) :: st) M Q) : wpT d kc ks y pc L (.int i :: .ref a :: st) M Q := by
  intro p l e R s m args below meth c D cA A ad H locs cells slots Qm ls C h1 h2 h3 h4 V hL hS F
  exact va_zald (D := D) C.1.1 C.1.2.1 V.1 V.2.1 a 2 (by rw [wsO_get ha.1, cel_i 3 (by decide) ha.2]) rfl hi hd (kk p l e R s m args below meth c D cA A ad H locs cells slots Qm ls C h1 h2 h3 h4 V hL (hS.tl.tl.cons trivial) F)
theorem T_lald {a n : Nat} {i : Int32} (hd : decode y.2.1 pc = .ok (.laload, 1)) (ha : ar M a 4 n) (hi : vp_in i n) (kk : wpT d kc ks y (pc + 1) L (.long (mJ M a i.toNatClampNeg) :: st) M Q) : wpT d kc ks y pc L (.int i :: .ref a :: st) M Q := by
  intro p l e R s m args below meth c D cA A ad H locs cells slots Qm ls C h1 h2 h3 h4 V hL hS F
  exact va_lald (D := D) C.1.1 C.1.2.1 V.1 V.2.1 a 3 (by rw [wsO_get ha.1, cel_j ha.2]) rfl hi hd (kk p l e R s m args below meth c D cA A ad H locs cells slots Qm ls C h1 h2 h3 h4 V hL (hS.tl.tl.cons trivial) F)
theorem T_aald {a n : Nat} {i : Int32} (t : Nat) {x : Option Nat} (hd : decode y.2.1 pc = .ok (.aaload, 1)) (ht : t = 5 ∨ t = 6) (ha : ar M a t n) (hi : vp_in i n) (hx : mP M a i.toNatClampNeg = x) (kk : wpT d kc ks y (pc + 1) L (va_rf x :: st) M Q) : wpT d kc ks y pc L (.int i :: .ref a :: st) M Q := by
  intro p l e R s m args below meth c D cA A ad H locs cells slots Qm ls C h1 h2 h3 h4 V hL hS F
  subst hx
  have g := kk p l e R s m args below meth c D cA A ad H locs cells slots Qm ls C h1 h2 h3 h4 V hL (hS.tl.tl.cons (okV_rf (fun b hb => V.2.2.2.2.2 a _ b hb))) F
  rw [List.map_cons, tr_rf] at g
  have hP := V.2.1 a _ (by rw [wsO_get ha.1, cel_r t ht ha.2])
  have hlt : i.toNatClampNeg < n := Nat.not_le.mp fun q => hi (Or.inr q)
  rcases ht with rfl | rfl
  · exact W.aald (v := va_rf ((mP M a i.toNatClampNeg).map ad)) (ty := .object "PriceUpon$Trade") C.1.1 C.1.2.1 hP ((V.1.2 4 _ rfl).1 n (fun j => va_rf ((mP M a j).map ad))) rfl (fun q => by cases q) (by show ¬ (i < 0 ∨ (arrV _ _ _).slots.size ≤ _); rw [arrV_size]; exact hi) (by show (arrV _ _ _).slots[_]? = _; rw [arrV_read _ _ hlt]) rfl rfl hd g
  · exact W.aald (v := va_rf ((mP M a i.toNatClampNeg).map ad)) (ty := .array .int) C.1.1 C.1.2.1 hP ((V.1.2 5 _ rfl).1 n (fun j => va_rf ((mP M a j).map ad))) rfl (fun q => by cases q) (by show ¬ (i < 0 ∨ (arrV _ _ _).slots.size ≤ _); rw [arrV_size]; exact hi) (by show (arrV _ _ _).slots[_]? = _; rw [arrV_read _ _ hlt]) rfl rfl hd g
theorem T_aald1 {a n b : Nat} {i : Int32} (t : Nat) (hd : decode y.2.1 pc = .ok (.aaload, 1)) (ht : t = 5 ∨ t = 6) (ha : ar M a t n) (hi : vp_in i n) (hx : mP M a i.toNatClampNeg = some b) (kk : wpT d kc ks y (pc + 1) L (.ref b :: st) M Q) : wpT d kc ks y pc L (.int i :: .ref a :: st) M Q := T_aald t hd ht ha hi hx kk
theorem T_iast {a n : Nat} {i v : Int32} (hd : decode y.2.1 pc = .ok (.iastore, 1)) (ha : ar M a 1 n) (hi : vp_in i n) (kk : wpT d kc ks y (pc + 1) L st (wI M a i.toNatClampNeg v) Q) : wpT d kc ks y pc L (.int v :: .int i :: .ref a :: st) M Q := by
  intro p l e R s m args below meth c D cA A ad H locs cells slots Qm ls C h1 h2 h3 h4 V hL hS F
  refine va_iast (D := D) C.1.1 C.1.2.1 V.1 V.2.1 V.2.2.1 V.2.2.2.1 a 0 (by rw [wsO_get ha.1, cel_i 1 (by decide) ha.2]) rfl hi hd (fun H1 locs1 g1 g2 g3 => ?_)
  exact kk p l e R s m args below meth c D cA A ad H1 locs1 cells slots Qm ls C h1 h2 h3 h4 (V.set (M' := wI M a i.toNatClampNeg v) rfl V.2.2.2.2.2 ((cel_i (M := wI M a i.toNatClampNeg v) 1 (by decide) ha.2).trans (by rw [show mI (wI M a i.toNatClampNeg v) a = upd (mI M a) i.toNatClampNeg v from up2_upd])) (fun j hj => cel_oI hj) g1 g2 g3) hL hS.tl.tl.tl F
theorem T_bast {a n : Nat} {i v : Int32} (hd : decode y.2.1 pc = .ok (.bastore, 1)) (ha : ar M a 2 n) (hi : vp_in i n) (kk : wpT d kc ks y (pc + 1) L st (wI M a i.toNatClampNeg (vp_nar .byte v)) Q) : wpT d kc ks y pc L (.int v :: .int i :: .ref a :: st) M Q := by
  intro p l e R s m args below meth c D cA A ad H locs cells slots Qm ls C h1 h2 h3 h4 V hL hS F
  refine va_bast (D := D) C.1.1 C.1.2.1 V.1 V.2.1 V.2.2.1 V.2.2.2.1 a 1 (by rw [wsO_get ha.1, cel_i 2 (by decide) ha.2]) rfl hi hd (fun H1 locs1 g1 g2 g3 => ?_)
  exact kk p l e R s m args below meth c D cA A ad H1 locs1 cells slots Qm ls C h1 h2 h3 h4 (V.set (M' := wI M a i.toNatClampNeg (vp_nar .byte v)) rfl V.2.2.2.2.2 ((cel_i (M := wI M a i.toNatClampNeg (vp_nar .byte v)) 2 (by decide) ha.2).trans (by rw [show mI (wI M a i.toNatClampNeg (vp_nar .byte v)) a = upd (mI M a) i.toNatClampNeg (vp_nar .byte v) from up2_upd])) (fun j hj => cel_oI hj) g1 g2 g3) hL hS.tl.tl.tl F
theorem T_zast {a n : Nat} {i v : Int32} (hd : decode y.2.1 pc = .ok (.bastore, 1)) (ha : ar M a 3 n) (hi : vp_in i n) (hv : v = 0 ∨ v = 1) (kk : wpT d kc ks y (pc + 1) L st (wI M a i.toNatClampNeg v) Q) : wpT d kc ks y pc L (.int v :: .int i :: .ref a :: st) M Q := by
  intro p l e R s m args below meth c D cA A ad H locs cells slots Qm ls C h1 h2 h3 h4 V hL hS F
  have ev : vp_nar .boolean v = v := by rcases hv with rfl | rfl <;> rfl
  refine va_zast (D := D) C.1.1 C.1.2.1 V.1 V.2.1 V.2.2.1 V.2.2.2.1 a 2 (by rw [wsO_get ha.1, cel_i 3 (by decide) ha.2]) rfl hi hd (fun H1 locs1 g1 g2 g3 => ?_)
  rw [ev] at g1 g2
  exact kk p l e R s m args below meth c D cA A ad H1 locs1 cells slots Qm ls C h1 h2 h3 h4 (V.set (M' := wI M a i.toNatClampNeg v) rfl V.2.2.2.2.2 ((cel_i (M := wI M a i.toNatClampNeg v) 3 (by decide) ha.2).trans (by rw [show mI (wI M a i.toNatClampNeg v) a = upd (mI M a) i.toNatClampNeg v from up2_upd])) (fun j hj => cel_oI hj) g1 g2 g3) hL hS.tl.tl.tl F
theorem T_last {a n : Nat} {i : Int32} {v : Int64} (hd : decode y.2.1 pc = .ok (.lastore, 1)) (ha : ar M a 4 n) (hi : vp_in i n) (kk : wpT d kc ks y (pc + 1) L st (wJ M a i.toNatClampNeg v) Q) : wpT d kc ks y pc L (.long v :: .int i :: .ref a :: st) M Q := by
  intro p l e R s m args below meth c D cA A ad H locs cells slots Qm ls C h1 h2 h3 h4 V hL hS F
  refine va_last (D := D) C.1.1 C.1.2.1 V.1 V.2.1 V.2.2.1 V.2.2.2.1 a 3 (by rw [wsO_get ha.1, cel_j ha.2]) rfl hi hd (fun H1 locs1 g1 g2 g3 => ?_)
  exact kk p l e R s m args below meth c D cA A ad H1 locs1 cells slots Qm ls C h1 h2 h3 h4 (V.set (M' := wJ M a i.toNatClampNeg v) rfl V.2.2.2.2.2 ((cel_j (M := wJ M a i.toNatClampNeg v) ha.2).trans (by rw [show mJ (wJ M a i.toNatClampNeg v) a = vp_updL (mJ M a) i.toNatClampNeg v from up2_updL])) (fun j hj => cel_oJ hj) g1 g2 g3) hL hS.tl.tl.tl F
theorem T_aast {a n b : Nat} {i : Int32} (hd : decode y.2.1 pc = .ok (.aastore, 1)) (ha : ar M a 5 n) (hi : vp_in i n) (hb : ob M b 8) (kk : wpT d kc ks y (pc + 1) L st (wP M a i.toNatClampNeg (some b)) Q) : wpT d kc ks y pc L (.ref b :: .int i :: .ref a :: st) M Q := by
  intro p l e R s m args below meth c D cA A ad H locs cells slots Qm ls C h1 h2 h3 h4 V hL hS F
  refine va_astq (D := D) C.1.1 C.1.2.1 V.1 V.2.1 V.2.2.1 V.2.2.2.1 a 4 b 8 (r := (RX8, TX8, 13)) (by rw [wsO_get ha.1, cel_r 5 (by decide) ha.2]) rfl (by rw [wsO_get hb.1, cel_o hb.2]) rfl hi hd (fun H1 locs1 g1 g2 g3 => ?_)
  refine kk p l e R s m args below meth c D cA A ad H1 locs1 cells slots Qm ls C h1 h2 h3 h4 (V.set (M' := wP M a i.toNatClampNeg (some b)) rfl (wP_ok V.2.2.2.2.2 (fun z hz => by cases hz; exact hb.1)) ((cel_r (M := wP M a i.toNatClampNeg (some b)) 5 (by decide) ha.2).trans ?_) (fun j hj => cel_oP hj) g1 g2 g3) hL hS.tl.tl.tl F
  have e : (fun k => (mP (wP M a i.toNatClampNeg (some b)) a k).map ad) = va_up (fun k => (mP M a k).map ad) i.toNatClampNeg (some (ad b)) := by
    funext k
    show (up2 (mP M) a i.toNatClampNeg (some b) a k).map ad = _
    unfold up2 va_up
    by_cases h : k = i.toNatClampNeg <;> simp [h]
  rw [e]
theorem T_alen {a n : Nat} (t : Nat) {v : Int32} (hd : decode y.2.1 pc = .ok (.arraylength, 1)) (ht : t = 1) (ha : ar M a t n) (hv : Int32.ofNat n = v) (kk : wpT d kc ks y (pc + 1) L (.int v :: st) M Q) : wpT d kc ks y pc L (.ref a :: st) M Q := by
  intro p l e R s m args below meth c D cA A ad H locs cells slots Qm ls C h1 h2 h3 h4 V hL hS F
  subst ht
  exact va_alen (D := D) C.1.1 C.1.2.1 V.1 V.2.1 a 0 (by rw [wsO_get ha.1, cel_i 1 (by decide) ha.2]) rfl hv hd (kk p l e R s m args below meth c D cA A ad H locs cells slots Qm ls C h1 h2 h3 h4 V hL (hS.tl.cons trivial) F)
end TMEM

theorem Ct.of {d kc ks : Nat} {y : Yt} {As : List Value} {M : Mm} {Q : Option Value → Mm → Prop} (hy : plainName y.1.cls = true) (hc : ∀ v ∈ As, v.category = 1) (hlen : As.length ≤ y.2.2.1) (h : wpT d kc ks y 0 (ent y As) [] M Q) : Ct d kc ks y As M Q := by
  intro l D cA ad sz hSv hPv
  refine Met.ofW (cc := y.2.1) (maxL := y.2.2.1) (ret := y.2.2.2) hy rfl ?_
  intro p e s m args below meth c s₁ B hml hv
  obtain ⟨rfl, hsz, hP, hK, hD0, hX⟩ := hv
  subst hsz
  have hts := atoms_spec (ws := Cond.code y.1 y.2.1 y.2.2.1 y.2.2.2 :: gtb) B.pre
  have hc' : ∀ v ∈ As.map (tr ad), v.category = 1 := fun z hz => by
    obtain ⟨x, hx, rfl⟩ := List.mem_map.mp hz
    rw [tr_cat]
    exact hc x hx
  have hl := lv_entry (As.map (tr ad)) (n := y.2.2.1) (by rw [lg_len1 _ hc', List.length_map]; exact hlen)
  rw [lg_entry_eq]
  generalize (lg_sl (As.map (tr ad)) ++ List.replicate (y.2.2.1 - (lg_sl (As.map (tr ad))).length) Slot.unset).toArray = ls at hl ⊢
  have C : Cx p s m (As.map (tr ad)).toArray meth c y := ⟨B.exec, B.bytes, hml, B.returns, findClass_of_methodNamed B.named, fun w hw => hts w (List.mem_cons_of_mem _ hw), B.notSynchronized, fun h => (name_of_methodNamed B.named B.method).1.trans h, hX⟩
  have hlocks := B.notSynchronized
  have V : Iv s D cA (va_A (wsO ad cA M) s.heap.size) ad M s.heap s.heap [] := ⟨hK, hP, hD0.self, va_S.rf, fun q h => Or.inr h, hPv⟩
  refine h p l e _ s m _ below meth c D cA _ ad s.heap [] 0 0 _ ls C (Nat.le_refl _) (Nat.le_refl _) (by rw [Nat.zero_add]; exact Nat.le_refl _) (by rw [Nat.zero_add]; exact Nat.le_refl _) V (Lv.entry hc hSv hl) (fun v hv => by cases hv) ?_
  intro r M' pcF lsF ad' H' locs' q hn hag V' hok hrt
  rw [Nat.zero_add, Nat.zero_add]
  have Qf : ∀ t : State, t.heap = H' → cQ D cA ad s.heap.size M Q (As.map (tr ad)).toArray s (.returned (r.map (tr ad'))) t := fun t ht =>
    ⟨⟨r, M', ad', rfl, q, hn, hag, by rw [ht]; exact V'.2.1, V'.2.2.1, V'.2.2.2.2.2, hok⟩, V'.2.2.2.1.F ht⟩
  cases r with
  | none => exact W.vret C.1.1 C.1.2.1 (C.1.2.2.2.1.trans hrt.2) (fun t ht _ => Qf t ht) V'.2.2.2.1.2.2 hrt.1
  | some v =>
    cases v with
    | int v =>
      obtain ⟨g1, ty, g2, g3⟩ := hrt
      exact W.zret (v := v) C.1.1 C.1.2.1 (C.1.2.2.2.1.trans g2) g3 (fun t ht _ => Qf t ht) V'.2.2.2.1.2.2 g1
    | null =>
      obtain ⟨g1, -, rt, g2, g3⟩ := hrt
      exact W.aret (v := .null) C.1.1 C.1.2.1 (C.1.2.2.2.1.trans g2) g3 (Or.inl rfl) (fun t ht _ => Qf t ht) V'.2.2.2.1.2.2 g1
    | ref a =>
      obtain ⟨g1, -, rt, g2, g3⟩ := hrt
      exact W.aret (v := .ref (ad' a)) C.1.1 C.1.2.1 (C.1.2.2.2.1.trans g2) g3 (Or.inr ⟨_, rfl⟩) (fun t ht _ => Qf t ht) V'.2.2.2.1.2.2 g1
    | _ =>
      obtain ⟨-, g, -⟩ := hrt
      rcases g with g | ⟨a, g⟩ <;> cases g
section TCALLS
variable {d kc ks kc1 ks1 : Nat} {y y2 : Yt} {pc : Nat} {L : List (Option Value)} {st stk : List Value} {M : Mm} {Q Q1 : Option Value → Mm → Prop} {b : Nat} {As : List Value}
theorem call_kT {p : Program} {l : Launch} {e : Env} {R : Room} {s : State} {m : MethodId} {args : Array Value} {below : List Frame} {meth : Method} {c : Code} {D : va_G} {cA : Nat → ClassId} {A : Nat → Prop} {ad : Nat → Nat} {cells slots : Nat} {Qm : State → Prop} {ls : Array Slot}
    (C : CxT p l A s m args meth c y) (h1 : d + 1 ≤ R.frames) (h2 : 40 * (d + 1) ≤ R.locals) (h3 : cells + (kc1 + kc) ≤ R.cells) (h4 : slots + (ks1 + ks) ≤ R.slots) (hL : Lv ls y.2.2.1 ad (mN M) L) (hS : Sv (mN M) st)
    (F : ∀ (r : Option Value) (M' : Mm) (pcF : Nat) (lsF : Array Slot) (ad' : Nat → Nat) (H' : Heap) (locs' : List Loc), Q r M' → mN M ≤ mN M' → (∀ id, id < mN M → ad' id = ad id) → Iv s D cA A ad' M' s.heap H' locs' → (∀ v, r = some v → okV (mN M') v) → RtT y pcF r → W p l e R s m args below meth c H' locs' (cells + (kc1 + kc)) (slots + (ks1 + ks)) Qm (F0 m pcF lsF ((r.map (tr ad')).toList)))
    (kk : ∀ r M', Q1 r M' → mN M ≤ mN M' → wpT (d + 1) kc ks y (pc + 3) L (r.toList ++ st) M' Q) :
    ∀ (r : Option Value) (M' : Mm) (ad' : Nat → Nat) (H1 : Heap) (locs1 : List Loc), Q1 r M' → mN M ≤ mN M' → (∀ id, id < mN M → ad' id = ad id) → Iv s D cA A ad' M' s.heap H1 locs1 → (∀ v, r = some v → okV (mN M') v) → W p l e R s m args below meth c H1 locs1 (cells + kc1) (slots + ks1) Qm (F0 m (pc + 3) ls ((r.map (tr ad')).toList ++ st.map (tr ad))) := by
  intro r M' ad' H1 locs1 q hn hag V' hok
  have g := kk r M' q hn p l e R s m args below meth c D cA A ad' H1 locs1 (cells + kc1) (slots + ks1) Qm ls C h1 h2 (by omega) (by omega) V' (hL.mono hn hag) (fun v hv => by
    rcases List.mem_append.mp hv with h | h
    · exact hok v (by simpa using h)
    · exact okV_le hn (hS v h))
  have es : (r.toList ++ st).map (tr ad') = (r.map (tr ad')).toList ++ st.map (tr ad) := by
    rw [List.map_append, hS.map hag]
    cases r <;> rfl
  rw [es, show cells + kc1 + kc = cells + (kc1 + kc) by omega, show slots + ks1 + ks = slots + (ks1 + ks) by omega] at g
  exact g (fun r2 M2 pcF lsF ad2 H2 locs2 a1 a2 a3 => F r2 M2 pcF lsF ad2 H2 locs2 a1 (Nat.le_trans hn a2) (fun id hid => (a3 id (Nat.lt_of_lt_of_le hid hn)).trans (hag id hid)))
theorem T_callV (ci idx : Nat) (hd : decode y.2.1 pc = .ok (.invokevirtual idx, 3)) (lk : lkB y2 As.length) (hl : Cond.methodLink y.1.cls idx y2.1 ∈ gtb) (hin : Cond.instanceMethod y2.1 ∈ gtb) (hse : Cond.selects (Cof ci) y2.1 y2.1 ∈ gtb) (hci : ci < 11) (ho : ob M b ci) (hw : (st.map fun v => v.category).sum ≤ 8) (hs : stk = As.reverse ++ .ref b :: st) (hc : Ct d kc1 ks1 y2 (.ref b :: As) M Q1)
    (kk : ∀ r M', Q1 r M' → mN M ≤ mN M' → wpT (d + 1) kc ks y (pc + 3) L (r.toList ++ st) M' Q) : wpT (d + 1) (kc1 + kc) (ks1 + ks) y pc L stk M Q := by
  subst hs
  intro p l e R s m args below meth c D cA A ad H locs cells slots Qm ls C h1 h2 h3 h4 V hL hS F
  have hts := C.1.2.2.2.2.2.1
  have hSa : Sv (mN M) (.ref b :: As) := Sv.cons ho.1 (fun v hv => hS v (List.mem_append_left _ (List.mem_reverse.mpr hv)))
  have hSt : Sv (mN M) st := fun v hv => hS v (List.mem_append_right _ (List.mem_cons_of_mem _ hv))
  have cb : CallB R s args y.1.cls idx y2.1 y2.2.1 y2.2.2.1 y2.2.2.2 (Cond.code y2.1 y2.2.1 y2.2.2.1 y2.2.2.2 :: gtb) ({ frames := d, cells := kc1, slots := ks1, locals := 40 * d }) kc1 ks1 As.length := callB_of _ hts (gt_good lk.1) rfl rfl rfl (hts _ lk.2.1) (hts _ hl) lk.2.2.1 ⟨h1, by have := lk.2.2.2; show 8 + (y2.2.2.1 + 11) + 40 * d ≤ R.locals; omega⟩
  have rn := va_runV (As := As.map (tr ad)) (rest := st.map (tr ad)) (g := F0 m pc ls ((As.reverse ++ .ref b :: st).map (tr ad))) (cells := cells) (slots := slots) (locs := locs) (H := H) (below := below) (e := e) (p := p) (l := l) (meth := meth) (c := c) (m := m) (b := ad b) (C := Cof ci) ⟨C.1.1, C.1.2.1, C.1.2.2.1, C.1.2.2.2.2.1, hts⟩ (hc l D cA ad H.size hSa V.2.2.2.2.2) ⟨cb, hts _ hin, hts _ hse⟩
    ⟨cP_blind, va_recv V.1 V.2.1 (cls_ok ci hci).1 (by rw [wsO_get ho.1, cel_o ho.2]), fun U hU hW => ⟨rfl, by rw [hU], by rw [hU]; exact V.2.1, va_K.moved hW.alike V.1, V.2.2.1.weaken (fun _ _ _ _ => trivial), XW.warm hW C.1.2.2.2.2.2.2.2.2⟩⟩ rfl (by rw [List.length_map]) hL.1 (tr_stk (st := .ref b :: st)) (lv_room (by rw [cat_sum]; exact hw)) hd ⟨by omega, by omega⟩
  exact call_go (Q1 := Q1) rn V (call_kT C h1 h2 h3 h4 hL hSt F kk)
theorem T_callS (idx : Nat) (hd : decode y.2.1 pc = .ok (.invokestatic idx, 3)) (lk : lkB y2 As.length) (hl : Cond.methodLink y.1.cls idx y2.1 ∈ gtb) (hst : Cond.static y2.1 ∈ gtb) (hw : (st.map fun v => v.category).sum ≤ 8) (hs : stk = As.reverse ++ st) (hc : Ct d kc1 ks1 y2 As M Q1)
    (kk : ∀ r M', Q1 r M' → mN M ≤ mN M' → wpT (d + 1) kc ks y (pc + 3) L (r.toList ++ st) M' Q) : wpT (d + 1) (kc1 + kc) (ks1 + ks) y pc L stk M Q := by
  subst hs
  intro p l e R s m args below meth c D cA A ad H locs cells slots Qm ls C h1 h2 h3 h4 V hL hS F
  have hts := C.1.2.2.2.2.2.1
  have hSa : Sv (mN M) As := fun v hv => hS v (List.mem_append_left _ (List.mem_reverse.mpr hv))
  have hSt : Sv (mN M) st := fun v hv => hS v (List.mem_append_right _ hv)
  have cb : CallB R s args y.1.cls idx y2.1 y2.2.1 y2.2.2.1 y2.2.2.2 (Cond.code y2.1 y2.2.1 y2.2.2.1 y2.2.2.2 :: gtb) ({ frames := d, cells := kc1, slots := ks1, locals := 40 * d }) kc1 ks1 As.length := callB_of _ hts (gt_good lk.1) rfl rfl rfl (hts _ lk.2.1) (hts _ hl) lk.2.2.1 ⟨h1, by have := lk.2.2.2; show 8 + (y2.2.2.1 + 11) + 40 * d ≤ R.locals; omega⟩
  have rn := va_runS (As := As.map (tr ad)) (rest := st.map (tr ad)) (g := F0 m pc ls ((As.reverse ++ st).map (tr ad))) (cells := cells) (slots := slots) (locs := locs) (H := H) (below := below) (e := e) (p := p) (l := l) (meth := meth) (c := c) (m := m) ⟨C.1.1, C.1.2.1, C.1.2.2.1, C.1.2.2.2.2.1, hts⟩ (hc l D cA ad H.size hSa V.2.2.2.2.2) ⟨cb, hts _ hst⟩
    ⟨cP_blind, fun U hU hW => ⟨rfl, by rw [hU], by rw [hU]; exact V.2.1, va_K.moved hW.alike V.1, V.2.2.1.weaken (fun _ _ _ _ => trivial), XW.warm hW C.1.2.2.2.2.2.2.2.2⟩⟩ rfl (by rw [List.length_map]) hL.1 tr_stk (lv_room (by rw [cat_sum]; exact hw)) hd ⟨by omega, by omega⟩
  exact call_go (Q1 := Q1) rn V (call_kT C h1 h2 h3 h4 hL hSt F kk)
theorem T_callSN (idx : Nat) (hd : decode y.2.1 pc = .ok (.invokestatic idx, 3)) (lk : lkB y2 As.length) (hl : (y.1.cls, idx, y2.1) ∈ nlk) (hst : Cond.static y2.1 ∈ gtb) (hw : (st.map fun v => v.category).sum ≤ 8) (hs : stk = As.reverse ++ st) (hc : Ct d kc1 ks1 y2 As M Q1)
    (kk : ∀ r M', Q1 r M' → mN M ≤ mN M' → wpT (d + 1) kc ks y (pc + 3) L (r.toList ++ st) M' Q) : wpT (d + 1) (kc1 + kc) (ks1 + ks) y pc L stk M Q := by
  subst hs
  intro p l e R s m args below meth c D cA A ad H locs cells slots Qm ls C h1 h2 h3 h4 V hL hS F
  have hts := C.1.2.2.2.2.2.1
  have hSa : Sv (mN M) As := fun v hv => hS v (List.mem_append_left _ (List.mem_reverse.mpr hv))
  have hSt : Sv (mN M) st := fun v hv => hS v (List.mem_append_right _ hv)
  have cb : va_CN R s args y.1.cls idx y2.1 "PriceUpon" y2.2.1 y2.2.2.1 y2.2.2.2 (Cond.code y2.1 y2.2.1 y2.2.2.1 y2.2.2.2 :: gtb) ({ frames := d, cells := kc1, slots := ks1, locals := 40 * d }) kc1 ks1 As.length := va_cnB _ hts (gt_good lk.1) rfl rfl rfl (C.1.2.2.2.2.2.2.2.2.1 _ hl) (hts _ lk.2.1) lk.2.2.1 ⟨h1, by have := lk.2.2.2; show 8 + (y2.2.2.1 + 11) + 40 * d ≤ R.locals; omega⟩
  have rn := va_runSN (As := As.map (tr ad)) (rest := st.map (tr ad)) (g := F0 m pc ls ((As.reverse ++ st).map (tr ad))) (cells := cells) (slots := slots) (locs := locs) (H := H) (below := below) (e := e) (p := p) (l := l) (meth := meth) (c := c) (m := m) ⟨C.1.1, C.1.2.1, C.1.2.2.1, C.1.2.2.2.2.1, hts⟩ (hc l D cA ad H.size hSa V.2.2.2.2.2) ⟨cb, hts _ hst, trivial⟩
    ⟨cP_blind, fun U hU hW => ⟨rfl, by rw [hU], by rw [hU]; exact V.2.1, va_K.moved hW.alike V.1, V.2.2.1.weaken (fun _ _ _ _ => trivial), XW.warm hW C.1.2.2.2.2.2.2.2.2⟩⟩ rfl (by rw [List.length_map]) hL.1 tr_stk (lv_room (by rw [cat_sum]; exact hw)) hd ⟨by omega, by omega⟩
  exact call_go (Q1 := Q1) rn V (call_kT C h1 h2 h3 h4 hL hSt F kk)
theorem T_callI (idx : Nat) (hd : decode y.2.1 pc = .ok (.invokespecial idx, 3)) (lk : lkB y2 As.length) (hl : Cond.methodLink y.1.cls idx y2.1 ∈ gtb) (hin : Cond.instanceMethod y2.1 ∈ gtb) (hnm : y2.1.name = "<init>") (hr : y2.2.2.2 = none) (hb : b < mN M) (hw : (st.map fun v => v.category).sum ≤ 8) (hs : stk = As.reverse ++ .ref b :: st) (hc : Ct d kc1 ks1 y2 (.ref b :: As) M Q1)
    (kk : ∀ r M', Q1 r M' → mN M ≤ mN M' → wpT (d + 1) kc ks y (pc + 3) L (r.toList ++ st) M' Q) : wpT (d + 1) (kc1 + kc) (ks1 + ks) y pc L stk M Q := by
  subst hs
  intro p l e R s m args below meth c D cA A ad H locs cells slots Qm ls C h1 h2 h3 h4 V hL hS F
  have hts := C.1.2.2.2.2.2.1
  have hSa : Sv (mN M) (.ref b :: As) := Sv.cons hb (fun v hv => hS v (List.mem_append_left _ (List.mem_reverse.mpr hv)))
  have hSt : Sv (mN M) st := fun v hv => hS v (List.mem_append_right _ (List.mem_cons_of_mem _ hv))
  have cb : CallB R s args y.1.cls idx y2.1 y2.2.1 y2.2.2.1 none (Cond.code y2.1 y2.2.1 y2.2.2.1 y2.2.2.2 :: gtb) ({ frames := d, cells := kc1, slots := ks1, locals := 40 * d }) kc1 ks1 As.length := callB_of _ hts (gt_good lk.1) (by rw [hr]) rfl rfl (hts _ lk.2.1) (hts _ hl) lk.2.2.1 ⟨h1, by have := lk.2.2.2; show 8 + (y2.2.2.1 + 11) + 40 * d ≤ R.locals; omega⟩
  have rn := va_runI (As := As.map (tr ad)) (rest := st.map (tr ad)) (g := F0 m pc ls ((As.reverse ++ .ref b :: st).map (tr ad))) (cells := cells) (slots := slots) (locs := locs) (H := H) (below := below) (e := e) (p := p) (l := l) (meth := meth) (c := c) (m := m) (b := ad b) ⟨C.1.1, C.1.2.1, C.1.2.2.1, C.1.2.2.2.2.1, hts⟩ (hc l D cA ad H.size hSa V.2.2.2.2.2) ⟨cb, hnm, hts _ hin⟩
    ⟨cP_blind, fun U hU hW => ⟨rfl, by rw [hU], by rw [hU]; exact V.2.1, va_K.moved hW.alike V.1, V.2.2.1.weaken (fun _ _ _ _ => trivial), XW.warm hW C.1.2.2.2.2.2.2.2.2⟩⟩ rfl (by rw [List.length_map]) hL.1 (tr_stk (st := .ref b :: st)) (lv_room (by rw [cat_sum]; exact hw)) hd ⟨by omega, by omega⟩
  exact call_go (Q1 := Q1) rn V (call_kT C h1 h2 h3 h4 hL hSt F kk)
theorem T_callIN (idx : Nat) (hd : decode y.2.1 pc = .ok (.invokespecial idx, 3)) (lk : lkB y2 As.length) (hl : (y.1.cls, idx, y2.1) ∈ nlk) (hin : Cond.instanceMethod y2.1 ∈ gtb) (hnm : y2.1.name = "<init>") (hr : y2.2.2.2 = none) (hb : b < mN M) (hw : (st.map fun v => v.category).sum ≤ 8) (hs : stk = As.reverse ++ .ref b :: st) (hc : Ct d kc1 ks1 y2 (.ref b :: As) M Q1)
    (kk : ∀ r M', Q1 r M' → mN M ≤ mN M' → wpT (d + 1) kc ks y (pc + 3) L (r.toList ++ st) M' Q) : wpT (d + 1) (kc1 + kc) (ks1 + ks) y pc L stk M Q := by
  subst hs
  intro p l e R s m args below meth c D cA A ad H locs cells slots Qm ls C h1 h2 h3 h4 V hL hS F
  have hts := C.1.2.2.2.2.2.1
  have hSa : Sv (mN M) (.ref b :: As) := Sv.cons hb (fun v hv => hS v (List.mem_append_left _ (List.mem_reverse.mpr hv)))
  have hSt : Sv (mN M) st := fun v hv => hS v (List.mem_append_right _ (List.mem_cons_of_mem _ hv))
  have cb : va_CN R s args y.1.cls idx y2.1 "PriceUpon" y2.2.1 y2.2.2.1 none (Cond.code y2.1 y2.2.1 y2.2.2.1 y2.2.2.2 :: gtb) ({ frames := d, cells := kc1, slots := ks1, locals := 40 * d }) kc1 ks1 As.length := va_cnB _ hts (gt_good lk.1) (by rw [hr]) rfl rfl (C.1.2.2.2.2.2.2.2.2.1 _ hl) (hts _ lk.2.1) lk.2.2.1 ⟨h1, by have := lk.2.2.2; show 8 + (y2.2.2.1 + 11) + 40 * d ≤ R.locals; omega⟩
  have rn := va_runIN (As := As.map (tr ad)) (rest := st.map (tr ad)) (g := F0 m pc ls ((As.reverse ++ .ref b :: st).map (tr ad))) (cells := cells) (slots := slots) (locs := locs) (H := H) (below := below) (e := e) (p := p) (l := l) (meth := meth) (c := c) (m := m) (b := ad b) ⟨C.1.1, C.1.2.1, C.1.2.2.1, C.1.2.2.2.2.1, hts⟩ (hc l D cA ad H.size hSa V.2.2.2.2.2) ⟨cb, hnm, hts _ hin⟩
    ⟨cP_blind, fun U hU hW => ⟨rfl, by rw [hU], by rw [hU]; exact V.2.1, va_K.moved hW.alike V.1, V.2.2.1.weaken (fun _ _ _ _ => trivial), XW.warm hW C.1.2.2.2.2.2.2.2.2⟩⟩ rfl (by rw [List.length_map]) hL.1 (tr_stk (st := .ref b :: st)) (lv_room (by rw [cat_sum]; exact hw)) hd ⟨by omega, by omega⟩
  exact call_go (Q1 := Q1) rn V (call_kT C h1 h2 h3 h4 hL hSt F kk)
theorem T_objInit (idx : Nat) (hd : decode y.2.1 pc = .ok (.invokespecial idx, 3)) (hl : Cond.methodLink y.1.cls idx Lib.objectInit ∈ gtb) (hin : Cond.instanceMethod Lib.objectInit ∈ gtb) (hcd : Cond.code Lib.objectInit ⟨#[0xb1]⟩ 1 none ∈ gtb) (hw : (st.map fun v => v.category).sum ≤ 8) (kk : wpT (d + 1) kc ks y (pc + 3) L st M Q) : wpT (d + 1) kc ks y pc L (.ref b :: st) M Q := by
  intro p l e R s m args below meth c D cA A ad H locs cells slots Qm ls C h1 h2 h3 h4 V hL hS F
  have hts := C.1.2.2.2.2.2.1
  have := lv_room (m := m) (pc := pc) (ls := ls) (rest := (Value.ref b :: st).map (tr ad)) (st := st.map (tr ad)) (by rw [cat_sum]; exact hw)
  refine W.objInit C.1.1 C.1.2.1 C.1.2.2.2.2.1 (hts _ hl) (hts _ hin) (hts _ hcd) rfl (by rw [C.1.2.2.1]; exact hL.1) rfl hd (by omega) (by omega) ?_
  exact kk p l e R s m args below meth c D cA A ad H locs cells slots Qm ls C h1 h2 h3 h4 V hL hS.tl F
theorem T_max {x z : Int32} (idx : Nat) (hd : decode y.2.1 pc = .ok (.invokestatic idx, 3)) (hl : Cond.methodLink y.1.cls idx Lib.Math.max.name ∈ gtb) (hst : Cond.static Lib.Math.max.name ∈ gtb) (hini : Cond.initialized "java/lang/Math" ∈ gtb) (hcd : Cond.code Lib.Math.max.name Lib.Math.max.code 2 (some .int) ∈ gtb) (hw : (st.map fun v => v.category).sum ≤ 8) (kk : wpT (d + 1) kc ks y (pc + 3) L (.int (if x < z then z else x) :: st) M Q) : wpT (d + 1) kc ks y pc L (.int z :: .int x :: st) M Q := by
  intro p l e R s m args below meth c D cA A ad H locs cells slots Qm ls C h1 h2 h3 h4 V hL hS F
  have hts := C.1.2.2.2.2.2.1
  exact va_mmax C.1.1 C.1.2.1 (by rw [C.1.2.2.1]; exact hL.1.symm) C.1.2.2.2.2.1 (hts _ hl) (hts _ hst) (hts _ hini) (hts _ hcd) (by omega) (by rw [cat_sum]; omega) (by omega) (by omega) hd (kk p l e R s m args below meth c D cA A ad H locs cells slots Qm ls C h1 h2 h3 h4 V hL (hS.tl.tl.cons trivial) F)
theorem T_min {x z : Int32} (idx : Nat) (hd : decode y.2.1 pc = .ok (.invokestatic idx, 3)) (hl : Cond.methodLink y.1.cls idx Lib.Math.min.name ∈ gtb) (hst : Cond.static Lib.Math.min.name ∈ gtb) (hini : Cond.initialized "java/lang/Math" ∈ gtb) (hcd : Cond.code Lib.Math.min.name Lib.Math.min.code 2 (some .int) ∈ gtb) (hw : (st.map fun v => v.category).sum ≤ 8) (kk : wpT (d + 1) kc ks y (pc + 3) L (.int (if z < x then z else x) :: st) M Q) : wpT (d + 1) kc ks y pc L (.int z :: .int x :: st) M Q := by
  intro p l e R s m args below meth c D cA A ad H locs cells slots Qm ls C h1 h2 h3 h4 V hL hS F
  have hts := C.1.2.2.2.2.2.1
  exact va_mmin C.1.1 C.1.2.1 (by rw [C.1.2.2.1]; exact hL.1.symm) C.1.2.2.2.2.1 (hts _ hl) (hts _ hst) (hts _ hini) (hts _ hcd) (by omega) (by rw [cat_sum]; omega) (by omega) (by omega) hd (kk p l e R s m args below meth c D cA A ad H locs cells slots Qm ls C h1 h2 h3 h4 V hL (hS.tl.tl.cons trivial) F)
end TCALLS

section TRULES2
variable {d kc ks : Nat} {y y2 : Yt} {pc : Nat} {L L' : List (Option Value)} {st stk : List Value} {M : Mm} {Q : Option Value → Mm → Prop} {b : Nat} {As : List Value}
theorem T_getIv {a : Nat} {v : Int32} (ci k idx : Nat) (hd : decode y.2.1 pc = .ok (.getfield idx, 3)) (hl : lnk y idx ci k) (hk : k < nfl ci) (hr : isR ci k = false) (ho : ob M a ci) (hv : mI M a k = v) (kk : wpT d kc ks y (pc + 3) L (.int v :: st) M Q) : wpT d kc ks y pc L (.ref a :: st) M Q := by
  subst hv
  exact T_getI ci k idx hd hl hk hr ho kk
theorem T_iald_n {a n i : Nat} {v : Int32} (hd : decode y.2.1 pc = .ok (.iaload, 1)) (ha : ar M a 1 n) (hn : n < 2 ^ 31) (hi : i < n) (hv : mI M a i = v) (kk : wpT d kc ks y (pc + 1) L (.int v :: st) M Q) : wpT d kc ks y pc L (.int (nI i) :: .ref a :: st) M Q := by
  subst hv
  exact T_iald hd ha (vp_in_nI hi hn) (by rw [nI_clamp (by omega)]; exact kk)
theorem T_bald_n {a n i : Nat} {v : Int32} (hd : decode y.2.1 pc = .ok (.baload, 1)) (ha : ar M a 2 n) (hn : n < 2 ^ 31) (hi : i < n) (hv : mI M a i = v) (kk : wpT d kc ks y (pc + 1) L (.int v :: st) M Q) : wpT d kc ks y pc L (.int (nI i) :: .ref a :: st) M Q := by
  subst hv
  exact T_bald hd ha (vp_in_nI hi hn) (by rw [nI_clamp (by omega)]; exact kk)
theorem T_zald_n {a n i : Nat} {v : Int32} (hd : decode y.2.1 pc = .ok (.baload, 1)) (ha : ar M a 3 n) (hn : n < 2 ^ 31) (hi : i < n) (hv : mI M a i = v) (kk : wpT d kc ks y (pc + 1) L (.int v :: st) M Q) : wpT d kc ks y pc L (.int (nI i) :: .ref a :: st) M Q := by
  subst hv
  exact T_zald hd ha (vp_in_nI hi hn) (by rw [nI_clamp (by omega)]; exact kk)
theorem T_aald_n {a n i : Nat} {x : Option Nat} (t : Nat) (hd : decode y.2.1 pc = .ok (.aaload, 1)) (ht : t = 5 ∨ t = 6) (ha : ar M a t n) (hn : n < 2 ^ 31) (hi : i < n) (hx : mP M a i = x) (kk : wpT d kc ks y (pc + 1) L (va_rf x :: st) M Q) : wpT d kc ks y pc L (.int (nI i) :: .ref a :: st) M Q := T_aald t hd ht ha (vp_in_nI hi hn) (by rw [nI_clamp (by omega)]; exact hx) kk
theorem T_aald1_n {a n i b : Nat} (t : Nat) (hd : decode y.2.1 pc = .ok (.aaload, 1)) (ht : t = 5 ∨ t = 6) (ha : ar M a t n) (hn : n < 2 ^ 31) (hi : i < n) (hx : mP M a i = some b) (kk : wpT d kc ks y (pc + 1) L (.ref b :: st) M Q) : wpT d kc ks y pc L (.int (nI i) :: .ref a :: st) M Q := T_aald_n t hd ht ha hn hi hx kk
theorem T_iast_n {a n i : Nat} {v : Int32} (hd : decode y.2.1 pc = .ok (.iastore, 1)) (ha : ar M a 1 n) (hn : n < 2 ^ 31) (hi : i < n) (kk : wpT d kc ks y (pc + 1) L st (wI M a i v) Q) : wpT d kc ks y pc L (.int v :: .int (nI i) :: .ref a :: st) M Q := T_iast hd ha (vp_in_nI hi hn) (by rw [nI_clamp (by omega)]; exact kk)
theorem T_bast_n {a n i : Nat} {v : Int32} (hd : decode y.2.1 pc = .ok (.bastore, 1)) (ha : ar M a 2 n) (hn : n < 2 ^ 31) (hi : i < n) (kk : wpT d kc ks y (pc + 1) L st (wI M a i (vp_nar .byte v)) Q) : wpT d kc ks y pc L (.int v :: .int (nI i) :: .ref a :: st) M Q := T_bast hd ha (vp_in_nI hi hn) (by rw [nI_clamp (by omega)]; exact kk)
theorem T_zast_n {a n i : Nat} {v : Int32} (hd : decode y.2.1 pc = .ok (.bastore, 1)) (ha : ar M a 3 n) (hn : n < 2 ^ 31) (hi : i < n) (hv : v = 0 ∨ v = 1) (kk : wpT d kc ks y (pc + 1) L st (wI M a i v) Q) : wpT d kc ks y pc L (.int v :: .int (nI i) :: .ref a :: st) M Q := T_zast hd ha (vp_in_nI hi hn) hv (by rw [nI_clamp (by omega)]; exact kk)
theorem T_aast_n {a n i b : Nat} (hd : decode y.2.1 pc = .ok (.aastore, 1)) (ha : ar M a 5 n) (hn : n < 2 ^ 31) (hi : i < n) (hb : ob M b 8) (kk : wpT d kc ks y (pc + 1) L st (wP M a i (some b)) Q) : wpT d kc ks y pc L (.ref b :: .int (nI i) :: .ref a :: st) M Q := T_aast hd ha (vp_in_nI hi hn) hb (by rw [nI_clamp (by omega)]; exact kk)
theorem T_iadd_n {a b : Nat} (hd : decode y.2.1 pc = .ok (.iadd, 1)) (kk : wpT d kc ks y (pc + 1) L (.int (nI (a + b)) :: st) M Q) : wpT d kc ks y pc L (.int (nI b) :: .int (nI a) :: st) M Q := T_iadd hd (by rw [nI_add]; exact kk)
theorem T_imul_n {a b : Nat} (hd : decode y.2.1 pc = .ok (.imul, 1)) (kk : wpT d kc ks y (pc + 1) L (.int (nI (a * b)) :: st) M Q) : wpT d kc ks y pc L (.int (nI b) :: .int (nI a) :: st) M Q := T_imul hd (by rw [pk_mul]; exact kk)
theorem T_isub_n {a b : Nat} (hd : decode y.2.1 pc = .ok (.isub, 1)) (hle : b ≤ a) (kk : wpT d kc ks y (pc + 1) L (.int (nI (a - b)) :: st) M Q) : wpT d kc ks y pc L (.int (nI b) :: .int (nI a) :: st) M Q := T_isub hd (by rw [pk_sub hle]; exact kk)
theorem T_icmp_eq_n {a b : Nat} {off : Int} {tgt : Nat} (hd : decode y.2.1 pc = .ok (.if_icmp .eq off, 3)) (ht : (pc : Int) + off = (tgt : Int)) (ha : a < 2 ^ 31) (hb : b < 2 ^ 31) (kt : a = b → wpT d kc ks y tgt L st M Q) (kf : ¬ a = b → wpT d kc ks y (pc + 3) L st M Q) : wpT d kc ks y pc L (.int (nI b) :: .int (nI a) :: st) M Q := T_icmp_eq hd ht (fun q => kt ((nI_eq ha hb).mp q)) (fun q => kf (fun z => q ((nI_eq ha hb).mpr z)))
theorem T_icmp_lt_n {a b : Nat} {off : Int} {tgt : Nat} (hd : decode y.2.1 pc = .ok (.if_icmp .lt off, 3)) (ht : (pc : Int) + off = (tgt : Int)) (ha : a < 2 ^ 31) (hb : b < 2 ^ 31) (kt : a < b → wpT d kc ks y tgt L st M Q) (kf : ¬ a < b → wpT d kc ks y (pc + 3) L st M Q) : wpT d kc ks y pc L (.int (nI b) :: .int (nI a) :: st) M Q := T_icmp_lt hd ht (fun q => kt ((nI_ltI ha hb).mp q)) (fun q => kf (fun z => q ((nI_ltI ha hb).mpr z)))
theorem T_icmp_ge_n {a b : Nat} {off : Int} {tgt : Nat} (hd : decode y.2.1 pc = .ok (.if_icmp .ge off, 3)) (ht : (pc : Int) + off = (tgt : Int)) (ha : a < 2 ^ 31) (hb : b < 2 ^ 31) (kt : b ≤ a → wpT d kc ks y tgt L st M Q) (kf : ¬ b ≤ a → wpT d kc ks y (pc + 3) L st M Q) : wpT d kc ks y pc L (.int (nI b) :: .int (nI a) :: st) M Q := T_icmp_ge hd ht (fun q => kt ((nI_leI hb ha).mp q)) (fun q => kf (fun z => q ((nI_leI hb ha).mpr z)))
theorem T_icmp_gt_n {a b : Nat} {off : Int} {tgt : Nat} (hd : decode y.2.1 pc = .ok (.if_icmp .gt off, 3)) (ht : (pc : Int) + off = (tgt : Int)) (ha : a < 2 ^ 31) (hb : b < 2 ^ 31) (kt : b < a → wpT d kc ks y tgt L st M Q) (kf : ¬ b < a → wpT d kc ks y (pc + 3) L st M Q) : wpT d kc ks y pc L (.int (nI b) :: .int (nI a) :: st) M Q := T_icmp_gt hd ht (fun q => kt ((nI_ltI hb ha).mp q)) (fun q => kf (fun z => q ((nI_ltI hb ha).mpr z)))
theorem T_icmp_le_n {a b : Nat} {off : Int} {tgt : Nat} (hd : decode y.2.1 pc = .ok (.if_icmp .le off, 3)) (ht : (pc : Int) + off = (tgt : Int)) (ha : a < 2 ^ 31) (hb : b < 2 ^ 31) (kt : a ≤ b → wpT d kc ks y tgt L st M Q) (kf : ¬ a ≤ b → wpT d kc ks y (pc + 3) L st M Q) : wpT d kc ks y pc L (.int (nI b) :: .int (nI a) :: st) M Q := T_icmp_le hd ht (fun q => kt ((nI_leI ha hb).mp q)) (fun q => kf (fun z => q ((nI_leI ha hb).mpr z)))
theorem T_icmp_ne_n {a b : Nat} {off : Int} {tgt : Nat} (hd : decode y.2.1 pc = .ok (.if_icmp .ne off, 3)) (ht : (pc : Int) + off = (tgt : Int)) (ha : a < 2 ^ 31) (hb : b < 2 ^ 31) (kt : ¬ a = b → wpT d kc ks y tgt L st M Q) (kf : a = b → wpT d kc ks y (pc + 3) L st M Q) : wpT d kc ks y pc L (.int (nI b) :: .int (nI a) :: st) M Q := T_icmp_ne hd ht (fun q => kt (fun z => q ((nI_eq ha hb).mpr z))) (fun q => kf ((nI_eq ha hb).mp q))
theorem T_if_lt_n {a : Nat} {off : Int} (hd : decode y.2.1 pc = .ok (.ifCond .lt off, 3)) {tgt : Nat} (ht : (pc : Int) + off = (tgt : Int)) (ha : a < 2 ^ 31) (kf : wpT d kc ks y (pc + 3) L st M Q) : wpT d kc ks y pc L (.int (nI a) :: st) M Q := T_if_lt hd ht (fun q => absurd q (nI_pos ha)) (fun _ => kf)
theorem T_if_ge_n {a : Nat} {off : Int} {tgt : Nat} (hd : decode y.2.1 pc = .ok (.ifCond .ge off, 3)) (ht : (pc : Int) + off = (tgt : Int)) (ha : a < 2 ^ 31) (kt : wpT d kc ks y tgt L st M Q) : wpT d kc ks y pc L (.int (nI a) :: st) M Q := T_if_ge hd ht (fun _ => kt) (fun q => absurd (nI_pos' ha) q)
theorem T_if_eq_n {a : Nat} {off : Int} {tgt : Nat} (hd : decode y.2.1 pc = .ok (.ifCond .eq off, 3)) (ht : (pc : Int) + off = (tgt : Int)) (ha : a < 2 ^ 31) (kt : a = 0 → wpT d kc ks y tgt L st M Q) (kf : ¬ a = 0 → wpT d kc ks y (pc + 3) L st M Q) : wpT d kc ks y pc L (.int (nI a) :: st) M Q := T_if_eq hd ht (fun q => kt ((nI_z ha).mp q)) (fun q => kf (fun z => q ((nI_z ha).mpr z)))
theorem T_if_ne_n {a : Nat} {off : Int} {tgt : Nat} (hd : decode y.2.1 pc = .ok (.ifCond .ne off, 3)) (ht : (pc : Int) + off = (tgt : Int)) (ha : a < 2 ^ 31) (kt : ¬ a = 0 → wpT d kc ks y tgt L st M Q) (kf : a = 0 → wpT d kc ks y (pc + 3) L st M Q) : wpT d kc ks y pc L (.int (nI a) :: st) M Q := T_if_ne hd ht (fun q => kt (fun z => q ((nI_z ha).mpr z))) (fun q => kf ((nI_z ha).mp q))
theorem T_if_gt_n {a : Nat} {off : Int} {tgt : Nat} (hd : decode y.2.1 pc = .ok (.ifCond .gt off, 3)) (ht : (pc : Int) + off = (tgt : Int)) (ha : a < 2 ^ 31) (kt : 0 < a → wpT d kc ks y tgt L st M Q) (kf : ¬ 0 < a → wpT d kc ks y (pc + 3) L st M Q) : wpT d kc ks y pc L (.int (nI a) :: st) M Q := T_if_gt hd ht (fun q => kt ((nI_g ha).mp q)) (fun q => kf (fun z => q ((nI_g ha).mpr z)))
theorem T_if_le_n {a : Nat} {off : Int} {tgt : Nat} (hd : decode y.2.1 pc = .ok (.ifCond .le off, 3)) (ht : (pc : Int) + off = (tgt : Int)) (ha : a < 2 ^ 31) (kt : a = 0 → wpT d kc ks y tgt L st M Q) (kf : ¬ a = 0 → wpT d kc ks y (pc + 3) L st M Q) : wpT d kc ks y pc L (.int (nI a) :: st) M Q := T_if_le hd ht (fun q => kt ((nI_l0 ha).mp q)) (fun q => kf (fun z => q ((nI_l0 ha).mpr z)))
theorem T_if_eq_b {c : Prop} [Decidable c] {off : Int} {tgt : Nat} (hd : decode y.2.1 pc = .ok (.ifCond .eq off, 3)) (ht : (pc : Int) + off = (tgt : Int)) (kt : ¬ c → wpT d kc ks y tgt L st M Q) (kf : c → wpT d kc ks y (pc + 3) L st M Q) : wpT d kc ks y pc L (.int (bz c) :: st) M Q := T_if_eq hd ht (fun q => kt (bz_0.mp q)) (fun q => kf (Decidable.byContradiction fun z => q (bz_0.mpr z)))
theorem T_if_ne_b {c : Prop} [Decidable c] {off : Int} {tgt : Nat} (hd : decode y.2.1 pc = .ok (.ifCond .ne off, 3)) (ht : (pc : Int) + off = (tgt : Int)) (kt : c → wpT d kc ks y tgt L st M Q) (kf : ¬ c → wpT d kc ks y (pc + 3) L st M Q) : wpT d kc ks y pc L (.int (bz c) :: st) M Q := T_if_ne hd ht (fun q => kt (Decidable.byContradiction fun z => q (bz_0.mpr z))) (fun q => kf (bz_0.mp q))
theorem T_callV_P (ci idx : Nat) (hd : decode y.2.1 pc = .ok (.invokevirtual idx, 3)) (lk : lkB y2 As.length) (hl : Cond.methodLink y.1.cls idx y2.1 ∈ gtb) (hin : Cond.instanceMethod y2.1 ∈ gtb) (hse : Cond.selects (Cof ci) y2.1 y2.1 ∈ gtb) (hci : ci < 11) (ho : ob M b ci) (hw : (st.map fun v => v.category).sum ≤ 8) (hs : stk = As.reverse ++ .ref b :: st) {v : Int32} (hc : Ct d 0 0 y2 (.ref b :: As) M (qP v M)) (kk : wpT (d + 1) kc ks y (pc + 3) L (.int v :: st) M Q) : wpT (d + 1) kc ks y pc L stk M Q := by
  have g := T_callV (kc1 := 0) (ks1 := 0) (kc := kc) (ks := ks) (L := L) (Q := Q) ci idx hd lk hl hin hse hci ho hw hs hc (fun r M' hq _ => by rw [hq.1, hq.2]; exact kk)
  rwa [Nat.zero_add, Nat.zero_add] at g
theorem T_callV_R (ci idx : Nat) (hd : decode y.2.1 pc = .ok (.invokevirtual idx, 3)) (lk : lkB y2 As.length) (hl : Cond.methodLink y.1.cls idx y2.1 ∈ gtb) (hin : Cond.instanceMethod y2.1 ∈ gtb) (hse : Cond.selects (Cof ci) y2.1 y2.1 ∈ gtb) (hci : ci < 11) (ho : ob M b ci) (hw : (st.map fun v => v.category).sum ≤ 8) (hs : stk = As.reverse ++ .ref b :: st) {x : Option Nat} (hc : Ct d 0 0 y2 (.ref b :: As) M (qR x M)) (kk : wpT (d + 1) kc ks y (pc + 3) L (va_rf x :: st) M Q) : wpT (d + 1) kc ks y pc L stk M Q := by
  have g := T_callV (kc1 := 0) (ks1 := 0) (kc := kc) (ks := ks) (L := L) (Q := Q) ci idx hd lk hl hin hse hci ho hw hs hc (fun r M' hq _ => by rw [hq.1, hq.2]; exact kk)
  rwa [Nat.zero_add, Nat.zero_add] at g
theorem T_callV_V (ci idx : Nat) (hd : decode y.2.1 pc = .ok (.invokevirtual idx, 3)) (lk : lkB y2 As.length) (hl : Cond.methodLink y.1.cls idx y2.1 ∈ gtb) (hin : Cond.instanceMethod y2.1 ∈ gtb) (hse : Cond.selects (Cof ci) y2.1 y2.1 ∈ gtb) (hci : ci < 11) (ho : ob M b ci) (hw : (st.map fun v => v.category).sum ≤ 8) (hs : stk = As.reverse ++ .ref b :: st) {G : Gm} {φ : Im → Prop} (hc : Ct d 0 0 y2 (.ref b :: As) M (qV G φ)) (kk : ∀ I' : Im, φ I' → wpT (d + 1) kc ks y (pc + 3) L st (I', G) Q) : wpT (d + 1) kc ks y pc L stk M Q := by
  have g := T_callV (kc1 := 0) (ks1 := 0) (kc := kc) (ks := ks) (L := L) (Q := Q) ci idx hd lk hl hin hse hci ho hw hs hc (fun r M' hq _ => by obtain ⟨rfl, I', rfl, h⟩ := hq; exact kk I' h)
  rwa [Nat.zero_add, Nat.zero_add] at g
theorem T_callV_M (ci idx : Nat) (hd : decode y.2.1 pc = .ok (.invokevirtual idx, 3)) (lk : lkB y2 As.length) (hl : Cond.methodLink y.1.cls idx y2.1 ∈ gtb) (hin : Cond.instanceMethod y2.1 ∈ gtb) (hse : Cond.selects (Cof ci) y2.1 y2.1 ∈ gtb) (hci : ci < 11) (ho : ob M b ci) (hw : (st.map fun v => v.category).sum ≤ 8) (hs : stk = As.reverse ++ .ref b :: st) {G : Gm} {φ : Int32 → Im → Prop} (hc : Ct d 0 0 y2 (.ref b :: As) M (qM G φ)) (kk : ∀ (v : Int32) (I' : Im), φ v I' → wpT (d + 1) kc ks y (pc + 3) L (.int v :: st) (I', G) Q) : wpT (d + 1) kc ks y pc L stk M Q := by
  have g := T_callV (kc1 := 0) (ks1 := 0) (kc := kc) (ks := ks) (L := L) (Q := Q) ci idx hd lk hl hin hse hci ho hw hs hc (fun r M' hq _ => by obtain ⟨v, I', rfl, rfl, h⟩ := hq; exact kk v I' h)
  rwa [Nat.zero_add, Nat.zero_add] at g
theorem T_callV_U (ci idx : Nat) (hd : decode y.2.1 pc = .ok (.invokevirtual idx, 3)) (lk : lkB y2 As.length) (hl : Cond.methodLink y.1.cls idx y2.1 ∈ gtb) (hin : Cond.instanceMethod y2.1 ∈ gtb) (hse : Cond.selects (Cof ci) y2.1 y2.1 ∈ gtb) (hci : ci < 11) (ho : ob M b ci) (hw : (st.map fun v => v.category).sum ≤ 8) (hs : stk = As.reverse ++ .ref b :: st) {φ : Mm → Prop} (hc : Ct d 0 0 y2 (.ref b :: As) M (qU φ)) (kk : ∀ M' : Mm, φ M' → wpT (d + 1) kc ks y (pc + 3) L st M' Q) : wpT (d + 1) kc ks y pc L stk M Q := by
  have g := T_callV (kc1 := 0) (ks1 := 0) (kc := kc) (ks := ks) (L := L) (Q := Q) ci idx hd lk hl hin hse hci ho hw hs hc (fun r M' hq _ => by obtain ⟨rfl, h⟩ := hq; exact kk M' h)
  rwa [Nat.zero_add, Nat.zero_add] at g
theorem T_callV_X (ci idx : Nat) (hd : decode y.2.1 pc = .ok (.invokevirtual idx, 3)) (lk : lkB y2 As.length) (hl : Cond.methodLink y.1.cls idx y2.1 ∈ gtb) (hin : Cond.instanceMethod y2.1 ∈ gtb) (hse : Cond.selects (Cof ci) y2.1 y2.1 ∈ gtb) (hci : ci < 11) (ho : ob M b ci) (hw : (st.map fun v => v.category).sum ≤ 8) (hs : stk = As.reverse ++ .ref b :: st) {φ : Int32 → Mm → Prop} (hc : Ct d 0 0 y2 (.ref b :: As) M (qX φ)) (kk : ∀ (v : Int32) (M' : Mm), φ v M' → wpT (d + 1) kc ks y (pc + 3) L (.int v :: st) M' Q) : wpT (d + 1) kc ks y pc L stk M Q := by
  have g := T_callV (kc1 := 0) (ks1 := 0) (kc := kc) (ks := ks) (L := L) (Q := Q) ci idx hd lk hl hin hse hci ho hw hs hc (fun r M' hq _ => by obtain ⟨v, rfl, h⟩ := hq; exact kk v M' h)
  rwa [Nat.zero_add, Nat.zero_add] at g
theorem T_callS_P (idx : Nat) (hd : decode y.2.1 pc = .ok (.invokestatic idx, 3)) (lk : lkB y2 As.length) (hl : Cond.methodLink y.1.cls idx y2.1 ∈ gtb) (hst : Cond.static y2.1 ∈ gtb) (hw : (st.map fun v => v.category).sum ≤ 8) (hs : stk = As.reverse ++ st) {v : Int32} (hc : Ct d 0 0 y2 As M (qP v M)) (kk : wpT (d + 1) kc ks y (pc + 3) L (.int v :: st) M Q) : wpT (d + 1) kc ks y pc L stk M Q := by
  have g := T_callS (kc1 := 0) (ks1 := 0) (kc := kc) (ks := ks) (L := L) (Q := Q) idx hd lk hl hst hw hs hc (fun r M' hq _ => by rw [hq.1, hq.2]; exact kk)
  rwa [Nat.zero_add, Nat.zero_add] at g
theorem T_callS_R (idx : Nat) (hd : decode y.2.1 pc = .ok (.invokestatic idx, 3)) (lk : lkB y2 As.length) (hl : Cond.methodLink y.1.cls idx y2.1 ∈ gtb) (hst : Cond.static y2.1 ∈ gtb) (hw : (st.map fun v => v.category).sum ≤ 8) (hs : stk = As.reverse ++ st) {x : Option Nat} (hc : Ct d 0 0 y2 As M (qR x M)) (kk : wpT (d + 1) kc ks y (pc + 3) L (va_rf x :: st) M Q) : wpT (d + 1) kc ks y pc L stk M Q := by
  have g := T_callS (kc1 := 0) (ks1 := 0) (kc := kc) (ks := ks) (L := L) (Q := Q) idx hd lk hl hst hw hs hc (fun r M' hq _ => by rw [hq.1, hq.2]; exact kk)
  rwa [Nat.zero_add, Nat.zero_add] at g
theorem T_callS_V (idx : Nat) (hd : decode y.2.1 pc = .ok (.invokestatic idx, 3)) (lk : lkB y2 As.length) (hl : Cond.methodLink y.1.cls idx y2.1 ∈ gtb) (hst : Cond.static y2.1 ∈ gtb) (hw : (st.map fun v => v.category).sum ≤ 8) (hs : stk = As.reverse ++ st) {G : Gm} {φ : Im → Prop} (hc : Ct d 0 0 y2 As M (qV G φ)) (kk : ∀ I' : Im, φ I' → wpT (d + 1) kc ks y (pc + 3) L st (I', G) Q) : wpT (d + 1) kc ks y pc L stk M Q := by
  have g := T_callS (kc1 := 0) (ks1 := 0) (kc := kc) (ks := ks) (L := L) (Q := Q) idx hd lk hl hst hw hs hc (fun r M' hq _ => by obtain ⟨rfl, I', rfl, h⟩ := hq; exact kk I' h)
  rwa [Nat.zero_add, Nat.zero_add] at g
theorem T_callS_M (idx : Nat) (hd : decode y.2.1 pc = .ok (.invokestatic idx, 3)) (lk : lkB y2 As.length) (hl : Cond.methodLink y.1.cls idx y2.1 ∈ gtb) (hst : Cond.static y2.1 ∈ gtb) (hw : (st.map fun v => v.category).sum ≤ 8) (hs : stk = As.reverse ++ st) {G : Gm} {φ : Int32 → Im → Prop} (hc : Ct d 0 0 y2 As M (qM G φ)) (kk : ∀ (v : Int32) (I' : Im), φ v I' → wpT (d + 1) kc ks y (pc + 3) L (.int v :: st) (I', G) Q) : wpT (d + 1) kc ks y pc L stk M Q := by
  have g := T_callS (kc1 := 0) (ks1 := 0) (kc := kc) (ks := ks) (L := L) (Q := Q) idx hd lk hl hst hw hs hc (fun r M' hq _ => by obtain ⟨v, I', rfl, rfl, h⟩ := hq; exact kk v I' h)
  rwa [Nat.zero_add, Nat.zero_add] at g
theorem T_callS_U (idx : Nat) (hd : decode y.2.1 pc = .ok (.invokestatic idx, 3)) (lk : lkB y2 As.length) (hl : Cond.methodLink y.1.cls idx y2.1 ∈ gtb) (hst : Cond.static y2.1 ∈ gtb) (hw : (st.map fun v => v.category).sum ≤ 8) (hs : stk = As.reverse ++ st) {φ : Mm → Prop} (hc : Ct d 0 0 y2 As M (qU φ)) (kk : ∀ M' : Mm, φ M' → wpT (d + 1) kc ks y (pc + 3) L st M' Q) : wpT (d + 1) kc ks y pc L stk M Q := by
  have g := T_callS (kc1 := 0) (ks1 := 0) (kc := kc) (ks := ks) (L := L) (Q := Q) idx hd lk hl hst hw hs hc (fun r M' hq _ => by obtain ⟨rfl, h⟩ := hq; exact kk M' h)
  rwa [Nat.zero_add, Nat.zero_add] at g
theorem T_callS_X (idx : Nat) (hd : decode y.2.1 pc = .ok (.invokestatic idx, 3)) (lk : lkB y2 As.length) (hl : Cond.methodLink y.1.cls idx y2.1 ∈ gtb) (hst : Cond.static y2.1 ∈ gtb) (hw : (st.map fun v => v.category).sum ≤ 8) (hs : stk = As.reverse ++ st) {φ : Int32 → Mm → Prop} (hc : Ct d 0 0 y2 As M (qX φ)) (kk : ∀ (v : Int32) (M' : Mm), φ v M' → wpT (d + 1) kc ks y (pc + 3) L (.int v :: st) M' Q) : wpT (d + 1) kc ks y pc L stk M Q := by
  have g := T_callS (kc1 := 0) (ks1 := 0) (kc := kc) (ks := ks) (L := L) (Q := Q) idx hd lk hl hst hw hs hc (fun r M' hq _ => by obtain ⟨v, rfl, h⟩ := hq; exact kk v M' h)
  rwa [Nat.zero_add, Nat.zero_add] at g
theorem T_callSN_P (idx : Nat) (hd : decode y.2.1 pc = .ok (.invokestatic idx, 3)) (lk : lkB y2 As.length) (hl : (y.1.cls, idx, y2.1) ∈ nlk) (hst : Cond.static y2.1 ∈ gtb) (hw : (st.map fun v => v.category).sum ≤ 8) (hs : stk = As.reverse ++ st) {v : Int32} (hc : Ct d 0 0 y2 As M (qP v M)) (kk : wpT (d + 1) kc ks y (pc + 3) L (.int v :: st) M Q) : wpT (d + 1) kc ks y pc L stk M Q := by
  have g := T_callSN (kc1 := 0) (ks1 := 0) (kc := kc) (ks := ks) (L := L) (Q := Q) idx hd lk hl hst hw hs hc (fun r M' hq _ => by rw [hq.1, hq.2]; exact kk)
  rwa [Nat.zero_add, Nat.zero_add] at g
theorem T_callSN_R (idx : Nat) (hd : decode y.2.1 pc = .ok (.invokestatic idx, 3)) (lk : lkB y2 As.length) (hl : (y.1.cls, idx, y2.1) ∈ nlk) (hst : Cond.static y2.1 ∈ gtb) (hw : (st.map fun v => v.category).sum ≤ 8) (hs : stk = As.reverse ++ st) {x : Option Nat} (hc : Ct d 0 0 y2 As M (qR x M)) (kk : wpT (d + 1) kc ks y (pc + 3) L (va_rf x :: st) M Q) : wpT (d + 1) kc ks y pc L stk M Q := by
  have g := T_callSN (kc1 := 0) (ks1 := 0) (kc := kc) (ks := ks) (L := L) (Q := Q) idx hd lk hl hst hw hs hc (fun r M' hq _ => by rw [hq.1, hq.2]; exact kk)
  rwa [Nat.zero_add, Nat.zero_add] at g
theorem T_callSN_V (idx : Nat) (hd : decode y.2.1 pc = .ok (.invokestatic idx, 3)) (lk : lkB y2 As.length) (hl : (y.1.cls, idx, y2.1) ∈ nlk) (hst : Cond.static y2.1 ∈ gtb) (hw : (st.map fun v => v.category).sum ≤ 8) (hs : stk = As.reverse ++ st) {G : Gm} {φ : Im → Prop} (hc : Ct d 0 0 y2 As M (qV G φ)) (kk : ∀ I' : Im, φ I' → wpT (d + 1) kc ks y (pc + 3) L st (I', G) Q) : wpT (d + 1) kc ks y pc L stk M Q := by
  have g := T_callSN (kc1 := 0) (ks1 := 0) (kc := kc) (ks := ks) (L := L) (Q := Q) idx hd lk hl hst hw hs hc (fun r M' hq _ => by obtain ⟨rfl, I', rfl, h⟩ := hq; exact kk I' h)
  rwa [Nat.zero_add, Nat.zero_add] at g
theorem T_callSN_M (idx : Nat) (hd : decode y.2.1 pc = .ok (.invokestatic idx, 3)) (lk : lkB y2 As.length) (hl : (y.1.cls, idx, y2.1) ∈ nlk) (hst : Cond.static y2.1 ∈ gtb) (hw : (st.map fun v => v.category).sum ≤ 8) (hs : stk = As.reverse ++ st) {G : Gm} {φ : Int32 → Im → Prop} (hc : Ct d 0 0 y2 As M (qM G φ)) (kk : ∀ (v : Int32) (I' : Im), φ v I' → wpT (d + 1) kc ks y (pc + 3) L (.int v :: st) (I', G) Q) : wpT (d + 1) kc ks y pc L stk M Q := by
  have g := T_callSN (kc1 := 0) (ks1 := 0) (kc := kc) (ks := ks) (L := L) (Q := Q) idx hd lk hl hst hw hs hc (fun r M' hq _ => by obtain ⟨v, I', rfl, rfl, h⟩ := hq; exact kk v I' h)
  rwa [Nat.zero_add, Nat.zero_add] at g
theorem T_callSN_U (idx : Nat) (hd : decode y.2.1 pc = .ok (.invokestatic idx, 3)) (lk : lkB y2 As.length) (hl : (y.1.cls, idx, y2.1) ∈ nlk) (hst : Cond.static y2.1 ∈ gtb) (hw : (st.map fun v => v.category).sum ≤ 8) (hs : stk = As.reverse ++ st) {φ : Mm → Prop} (hc : Ct d 0 0 y2 As M (qU φ)) (kk : ∀ M' : Mm, φ M' → wpT (d + 1) kc ks y (pc + 3) L st M' Q) : wpT (d + 1) kc ks y pc L stk M Q := by
  have g := T_callSN (kc1 := 0) (ks1 := 0) (kc := kc) (ks := ks) (L := L) (Q := Q) idx hd lk hl hst hw hs hc (fun r M' hq _ => by obtain ⟨rfl, h⟩ := hq; exact kk M' h)
  rwa [Nat.zero_add, Nat.zero_add] at g
theorem T_callSN_X (idx : Nat) (hd : decode y.2.1 pc = .ok (.invokestatic idx, 3)) (lk : lkB y2 As.length) (hl : (y.1.cls, idx, y2.1) ∈ nlk) (hst : Cond.static y2.1 ∈ gtb) (hw : (st.map fun v => v.category).sum ≤ 8) (hs : stk = As.reverse ++ st) {φ : Int32 → Mm → Prop} (hc : Ct d 0 0 y2 As M (qX φ)) (kk : ∀ (v : Int32) (M' : Mm), φ v M' → wpT (d + 1) kc ks y (pc + 3) L (.int v :: st) M' Q) : wpT (d + 1) kc ks y pc L stk M Q := by
  have g := T_callSN (kc1 := 0) (ks1 := 0) (kc := kc) (ks := ks) (L := L) (Q := Q) idx hd lk hl hst hw hs hc (fun r M' hq _ => by obtain ⟨v, rfl, h⟩ := hq; exact kk v M' h)
  rwa [Nat.zero_add, Nat.zero_add] at g
end TRULES2
theorem wp_LT {d kc ks : Nat} {y : Yt} {pc : Nat} {L L2 : List (Option Value)} {st : List Value} {M : Mm} {Q : Option Value → Mm → Prop} (h : L = L2) (k : wpT d kc ks y pc L2 st M Q) : wpT d kc ks y pc L st M Q := h ▸ k
theorem wp_ST {d kc ks : Nat} {y : Yt} {pc : Nat} {L : List (Option Value)} {st st2 : List Value} {M : Mm} {Q : Option Value → Mm → Prop} (h : st = st2) (k : wpT d kc ks y pc L st2 M Q) : wpT d kc ks y pc L st M Q := h ▸ k
theorem wp_MT {d kc ks : Nat} {y : Yt} {pc : Nat} {L : List (Option Value)} {st : List Value} {M M2 : Mm} {Q : Option Value → Mm → Prop} (h : M = M2) (k : wpT d kc ks y pc L st M2 Q) : wpT d kc ks y pc L st M Q := h ▸ k
theorem wp_subT {d kc ks : Nat} {y : Yt} {pc : Nat} {L : List (Option Value)} (L' : List (Option Value)) {st : List Value} {M : Mm} {Q : Option Value → Mm → Prop} (h : lsub L' L) (k : wpT d kc ks y pc L' st M Q) : wpT d kc ks y pc L st M Q := by
  intro p l e R s m args below meth c D cA A ad H locs cells slots Qm ls C h1 h2 h3 h4 V hL hS F
  exact k p l e R s m args below meth c D cA A ad H locs cells slots Qm ls C h1 h2 h3 h4 V ⟨hL.1, hL.2.1, fun i v hv => hL.2.2 i v (lsub_at L' L h i v hv)⟩ hS F

