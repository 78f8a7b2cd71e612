/-! ===== a judgement with a context P that is carried along, locals beside the memory's, and an end E of one's own ===== -/
abbrev YL_house : Yt := (yL_house, cL_house, 6, (some .int))
abbrev YL_law : Yt := (yL_law, cL_law, 7, (some .boolean))
abbrev PT : Type := Launch → (Nat → Prop) → State → Code → List (Nat × Value) → Prop
def Lx (ex : List (Nat × Value)) (ls : Array Slot) : Prop := ∀ q ∈ ex, ls[q.1]? = some (Slot.val q.2)
def wpS (P : PT) (E : Nat → Option Value → Prop) (d kc ks : Nat) (y : Yt) (pc : Nat) (L : List (Option Value)) (st : List Value) (M : Mm) (Q : Option Value → Mm → Prop) : Prop :=
  ∀ (p : Program) (l : Launch) (e : Env) (R : Room) (s : State) (m : MethodId) (args : Array Value) (below : List Frame) (meth : Method) (c : Code) (D : va_G) (cA : Nat → ClassId) (A : Nat → Prop) (ad : Nat → Nat) (H : Heap) (locs : List Loc) (cells slots : Nat) (Qm : State → Prop) (ls : Array Slot) (ex : List (Nat × Value)),
    Cx p s m args meth c y → P l A s c ex → Lx ex ls → d ≤ R.frames → 40 * d ≤ R.locals → cells + kc ≤ R.cells → slots + ks ≤ R.slots → Iv s D cA A ad M s.heap H locs → Lv ls y.2.2.1 ad (mN M) L → Sv (mN M) st →
    (∀ (r : Option Value) (M' : Mm) (pcF : Nat) (lsF : Array Slot) (ad' : Nat → Nat) (H' : Heap) (locs' : List Loc), Q r M' → mN M ≤ mN M' → (∀ id, id < mN M → ad' id = ad id) → Iv s D cA A ad' M' s.heap H' locs' → (∀ v, r = some v → okV (mN M') v) → lsF.size = y.2.2.1 → E pcF r →
      W p l e R s m args below meth c H' locs' (cells + kc) (slots + ks) Qm (F0 m pcF lsF ((r.map (tr ad')).toList))) →
    W p l e R s m args below meth c H locs cells slots Qm (F0 m pc ls (st.map (tr ad)))
section SRULES
variable {P : PT} {E : Nat → Option Value → Prop} {d kc ks kc1 ks1 : Nat} {y y2 : Yt} {pc : Nat} {L L' : List (Option Value)} {st stk : List Value} {M : Mm} {Q Q1 : Option Value → Mm → Prop} {b : Nat} {As : List Value}
theorem T_mono {Q' : Option Value → Mm → Prop} (h : wpS P E d kc ks y pc L st M Q) (hq : ∀ r M', Q r M' → Q' r M') : wpS P E d kc ks y pc L st M Q' := by
  intro p l e R s m args below meth c D cA A ad H locs cells slots Qm ls ex C hP hlx h1 h2 h3 h4 V hL hS F
  exact h p l e R s m args below meth c D cA A ad H locs cells slots Qm ls ex C hP hlx h1 h2 h3 h4 V hL hS (fun r M' pcF lsF ad' H' locs' q => F r M' pcF lsF ad' H' locs' (hq r M' q))
/-- more room than is wanted -/
theorem T_more {kc' ks' : Nat} (h1 : kc ≤ kc') (h2 : ks ≤ ks') (k : wpS P E d kc ks y pc L st M Q) : wpS P E d kc' ks' y pc L st M Q := by
  intro p l e R s m args below meth c D cA A ad H locs cells slots Qm ls ex C hP hlx g1 g2 g3 g4 V hL hS F
  exact k p l e R s m args below meth c D cA A ad H locs cells slots Qm ls ex C hP hlx g1 g2 (by omega) (by omega) V hL hS (fun r M' pcF lsF ad' H' locs' a1 a2 a3 a4 a5 a6 a7 => W.widen (by omega) (by omega) (F r M' pcF lsF ad' H' locs' a1 a2 a3 a4 a5 a6 a7))
theorem T_end {r : Option Value} (hE : E pc r) (hst : st = r.toList) (q : Q r M) : wpS P E d kc ks y pc L st M Q := by
  subst hst
  intro p l e R s m args below meth c D cA A ad H locs cells slots Qm ls ex C hP hlx h1 h2 h3 h4 V hL hS F
  have g := F r M pc ls ad H locs q (Nat.le_refl _) (fun _ _ => rfl) V (fun v h => hS v (by subst h; simp)) hL.1 hE
  rw [show (r.map (tr ad)).toList = r.toList.map (tr ad) by cases r <;> rfl] at g
  exact W.widen (Nat.le_add_right _ _) (Nat.le_add_right _ _) g
theorem T_sub (L' : List (Option Value)) (h : lsub L' L) (k : wpS P E d kc ks y pc L' st M Q) : wpS P E d kc ks y pc L st M Q := by
  intro p l e R s m args below meth c D cA A ad H locs cells slots Qm ls ex C hP hlx h1 h2 h3 h4 V hL hS F
  exact k p l e R s m args below meth c D cA A ad H locs cells slots Qm ls ex C hP hlx h1 h2 h3 h4 V ⟨hL.1, hL.2.1, fun i v hv => hL.2.2 i v (lsub_at L' L h i v hv)⟩ hS F
theorem T_L {L2 : List (Option Value)} (h : L = L2) (k : wpS P E d kc ks y pc L2 st M Q) : wpS P E d kc ks y pc L st M Q := h ▸ k
theorem T_S {st2 : List Value} (h : st = st2) (k : wpS P E d kc ks y pc L st2 M Q) : wpS P E d kc ks y pc L st M Q := h ▸ k
theorem T_M {M2 : Mm} (h : M = M2) (k : wpS P E d kc ks y pc L st M2 Q) : wpS P E d kc ks y pc L st M Q := h ▸ k
theorem st_ex {ls' : Array Slot} {nL i : Nat} {v : Value} {ex lv : List (Nat × Value)} {f : Nat × Value → Bool} (h' : lv_has ls' nL ((i, v) :: (ex ++ lv).filter f)) : lv_has ls' nL ((i, v) :: lv.filter f) :=
  ⟨h'.1, h'.2.1, fun q hq => h'.2.2 q ((List.mem_cons.mp hq).elim (fun e => by rw [e]; exact List.mem_cons_self) (fun h => List.mem_cons_of_mem _ (by rw [List.filter_append]; exact List.mem_append_right _ h)))⟩
theorem st_lx {ls' : Array Slot} {nL i : Nat} {v : Value} {ex lv : List (Nat × Value)} (h' : lv_has ls' nL ((i, v) :: (ex ++ lv).filter (fun q => !(q.1 == i) && !(q.1 + 1 == i && q.2.category == 2)))) (h : ∀ q ∈ ex, q.1 ≠ i ∧ q.2.category = 1) : Lx ex ls' := fun q hq => h'.2.2 q (List.mem_cons_of_mem _ (List.mem_filter.mpr ⟨List.mem_append_left _ hq, by
  obtain ⟨h1, h2⟩ := h q hq
  have e1 : (q.1 == i) = false := by simpa using h1
  simp [e1, h2]⟩))
theorem has_ex {ls : Array Slot} {nL : Nat} {ad : Nat → Nat} {n : Nat} {ex : List (Nat × Value)} (hL : Lv ls nL ad n L) (hlx : Lx ex ls) : lv_has ls nL (ex ++ lvl ad L) := ⟨hL.has.1, hL.has.2.1, fun q hq => (List.mem_append.mp hq).elim (hlx q) (hL.has.2.2 q)⟩
def Pex (P : PT) (i : Nat) : Prop := ∀ l A s c ex, P l A s c ex → ∀ q ∈ ex, q.1 ≠ i ∧ q.2.category = 1
theorem T_istore {i : Nat} {x : Int32} (hd : decode y.2.1 pc = .ok (.istore i, 2)) (hi : i < y.2.2.1) (hn : nolg L i = true) (hex : Pex P i) (he : L.set i (some (.int x)) = L') (k : wpS P E d kc ks y (pc + 2) L' st M Q) : wpS P E d kc ks y pc L (.int x :: st) M Q := by
  subst he
  intro p l e R s m args below meth c D cA A ad H locs cells slots Qm ls ex C hP hlx h1 h2 h3 h4 V hL hS F
  exact lv_istore (lv := ex ++ lvl ad L) C.1 C.2.1 hd (has_ex hL hlx) hi rfl (fun ls' h' => k p l e R s m args below meth c D cA A ad H locs cells slots Qm ls' ex C hP (st_lx h' (hex _ _ _ _ _ hP)) h1 h2 h3 h4 V (hL.st1 hn hS.hd (st_ex h')) hS.tl F)
theorem T_astore {i : Nat} {x : Nat} (hd : decode y.2.1 pc = .ok (.astore i, 2)) (hi : i < y.2.2.1) (hn : nolg L i = true) (hex : Pex P i) (he : L.set i (some (.ref x)) = L') (k : wpS P E d kc ks y (pc + 2) L' st M Q) : wpS P E d kc ks y pc L (.ref x :: st) M Q := by
  subst he
  intro p l e R s m args below meth c D cA A ad H locs cells slots Qm ls ex C hP hlx h1 h2 h3 h4 V hL hS F
  exact lv_astore (lv := ex ++ lvl ad L) C.1 C.2.1 hd (has_ex hL hlx) hi rfl (fun ls' h' => k p l e R s m args below meth c D cA A ad H locs cells slots Qm ls' ex C hP (st_lx h' (hex _ _ _ _ _ hP)) h1 h2 h3 h4 V (hL.st1 hn hS.hd (st_ex h')) hS.tl F)
theorem T_astoreN {i : Nat} (hd : decode y.2.1 pc = .ok (.astore i, 2)) (hi : i < y.2.2.1) (hn : nolg L i = true) (hex : Pex P i) (he : L.set i (some .null) = L') (k : wpS P E d kc ks y (pc + 2) L' st M Q) : wpS P E d kc ks y pc L (.null :: st) M Q := by
  subst he
  intro p l e R s m args below meth c D cA A ad H locs cells slots Qm ls ex C hP hlx h1 h2 h3 h4 V hL hS F
  exact lv_astoreN (lv := ex ++ lvl ad L) C.1 C.2.1 hd (has_ex hL hlx) hi rfl (fun ls' h' => k p l e R s m args below meth c D cA A ad H locs cells slots Qm ls' ex C hP (st_lx h' (hex _ _ _ _ _ hP)) h1 h2 h3 h4 V (hL.st1 hn hS.hd (st_ex h')) hS.tl F)
theorem T_astore_n {i : Fin 4} {x : Nat} (hd : decode y.2.1 pc = .ok (.astore_n i, 1)) (hi : (i : Nat) < y.2.2.1) (hn : nolg L (i : Nat) = true) (hex : Pex P (i : Nat)) (he : L.set (i : Nat) (some (.ref x)) = L') (k : wpS P E d kc ks y (pc + 1) L' st M Q) : wpS P E d kc ks y pc L (.ref x :: st) M Q := by
  subst he
  intro p l e R s m args below meth c D cA A ad H locs cells slots Qm ls ex C hP hlx h1 h2 h3 h4 V hL hS F
  exact lv_astore_n (lv := ex ++ lvl ad L) C.1 C.2.1 hd rfl (has_ex hL hlx) hi rfl (fun ls' h' => k p l e R s m args below meth c D cA A ad H locs cells slots Qm ls' ex C hP (st_lx h' (hex _ _ _ _ _ hP)) h1 h2 h3 h4 V (hL.st1 hn hS.hd (st_ex h')) hS.tl F)
theorem T_iinc {i : Nat} {n : Int} {x v : Int32} (hd : decode y.2.1 pc = .ok (.iinc i n, 3)) (hl : L[i]? = some (some (.int x))) (hv : x + Int32.ofInt n = v) (hi : i < y.2.2.1) (hn : nolg L i = true) (hex : Pex P i) (he : L.set i (some (.int v)) = L') (k : wpS P E d kc ks y (pc + 3) L' st M Q) : wpS P E d kc ks y pc L st M Q := by
  subst he
  intro p l e R s m args below meth c D cA A ad H locs cells slots Qm ls ex C hP hlx h1 h2 h3 h4 V hL hS F
  obtain ⟨j, hj⟩ := List.getElem?_of_mem (List.mem_append_right ex (lvl_mem.mpr ⟨_, hl, rfl⟩ : (i, tr ad (.int x)) ∈ lvl ad L))
  exact lv_iinc (lv := ex ++ lvl ad L) (k := j) C.1 C.2.1 hd (has_ex hL hlx) hj hv hi rfl (fun ls' h' => k p l e R s m args below meth c D cA A ad H locs cells slots Qm ls' ex C hP (st_lx h' (hex _ _ _ _ _ hP)) h1 h2 h3 h4 V (hL.st1 (v := .int v) hn trivial (st_ex h')) hS F)
theorem T_iconst {n : Int} {v : Int32} (hd : decode y.2.1 pc = .ok (.iconst n, 1)) (hv : Int32.ofInt n = v) (k : wpS P E d kc ks y (pc + 1) L (.int v :: st) M Q) : wpS P E d kc ks y pc L st M Q := by
  intro p l e R s m args below meth c D cA A ad H locs cells slots Qm ls ex C hP hlx h1 h2 h3 h4 V hL hS F
  exact lv_iconst C.1 C.2.1 hd hv (k p l e R s m args below meth c D cA A ad H locs cells slots Qm ls ex C hP hlx h1 h2 h3 h4 V hL (hS.cons trivial) F)
theorem T_bipush {n : Int} {v : Int32} (hd : decode y.2.1 pc = .ok (.bipush n, 2)) (hv : (Int8.ofInt n).toInt32 = v) (k : wpS P E d kc ks y (pc + 2) L (.int v :: st) M Q) : wpS P E d kc ks y pc L st M Q := by
  intro p l e R s m args below meth c D cA A ad H locs cells slots Qm ls ex C hP hlx h1 h2 h3 h4 V hL hS F
  exact lv_bipush C.1 C.2.1 hd hv (k p l e R s m args below meth c D cA A ad H locs cells slots Qm ls ex C hP hlx h1 h2 h3 h4 V hL (hS.cons trivial) F)
theorem T_lconst {n : Fin 2} {v : Int64} (hd : decode y.2.1 pc = .ok (.lconst n, 1)) (hv : Int64.ofNat (n : Nat) = v) (k : wpS P E d kc ks y (pc + 1) L (.long v :: st) M Q) : wpS P E d kc ks y pc L st M Q := by
  intro p l e R s m args below meth c D cA A ad H locs cells slots Qm ls ex C hP hlx h1 h2 h3 h4 V hL hS F
  exact lv_lconst C.1 C.2.1 hd hv (k p l e R s m args below meth c D cA A ad H locs cells slots Qm ls ex C hP hlx h1 h2 h3 h4 V hL (hS.cons trivial) F)
theorem T_iload_n {i : Fin 4} {x : Int32} (hd : decode y.2.1 pc = .ok (.iload_n i, 1)) (hl : L[(i : Nat)]? = some (some (.int x))) (k : wpS P E d kc ks y (pc + 1) L (.int x :: st) M Q) : wpS P E d kc ks y pc L st M Q := by
  intro p l e R s m args below meth c D cA A ad H locs cells slots Qm ls ex C hP hlx h1 h2 h3 h4 V hL hS F
  exact lv_iload_n C.1 C.2.1 hd rfl (hL.2.2 _ _ hl).1 (k p l e R s m args below meth c D cA A ad H locs cells slots Qm ls ex C hP hlx h1 h2 h3 h4 V hL (hS.cons trivial) F)
theorem T_iload {i : Nat} {x : Int32} (hd : decode y.2.1 pc = .ok (.iload i, 2)) (hl : L[i]? = some (some (.int x))) (k : wpS P E d kc ks y (pc + 2) L (.int x :: st) M Q) : wpS P E d kc ks y pc L st M Q := by
  intro p l e R s m args below meth c D cA A ad H locs cells slots Qm ls ex C hP hlx h1 h2 h3 h4 V hL hS F
  exact lv_iload C.1 C.2.1 hd (hL.2.2 _ _ hl).1 (k p l e R s m args below meth c D cA A ad H locs cells slots Qm ls ex C hP hlx h1 h2 h3 h4 V hL (hS.cons trivial) F)
theorem T_aload_n {i : Fin 4} {x : Nat} (hd : decode y.2.1 pc = .ok (.aload_n i, 1)) (hl : L[(i : Nat)]? = some (some (.ref x))) (k : wpS P E d kc ks y (pc + 1) L (.ref x :: st) M Q) : wpS P E d kc ks y pc L st M Q := by
  intro p l e R s m args below meth c D cA A ad H locs cells slots Qm ls ex C hP hlx h1 h2 h3 h4 V hL hS F
  exact lv_aload_n C.1 C.2.1 hd rfl (hL.2.2 _ _ hl).1 (k p l e R s m args below meth c D cA A ad H locs cells slots Qm ls ex C hP hlx h1 h2 h3 h4 V hL (hS.cons (hL.2.2 _ _ hl).2) F)
theorem T_aload {i : Nat} {x : Nat} (hd : decode y.2.1 pc = .ok (.aload i, 2)) (hl : L[i]? = some (some (.ref x))) (k : wpS P E d kc ks y (pc + 2) L (.ref x :: st) M Q) : wpS P E d kc ks y pc L st M Q := by
  intro p l e R s m args below meth c D cA A ad H locs cells slots Qm ls ex C hP hlx h1 h2 h3 h4 V hL hS F
  exact lv_aload C.1 C.2.1 hd (hL.2.2 _ _ hl).1 (k p l e R s m args below meth c D cA A ad H locs cells slots Qm ls ex C hP hlx h1 h2 h3 h4 V hL (hS.cons (hL.2.2 _ _ hl).2) F)
theorem T_aload_nN {i : Fin 4} (hd : decode y.2.1 pc = .ok (.aload_n i, 1)) (hl : L[(i : Nat)]? = some (some .null)) (k : wpS P E d kc ks y (pc + 1) L (.null :: st) M Q) : wpS P E d kc ks y pc L st M Q := by
  intro p l e R s m args below meth c D cA A ad H locs cells slots Qm ls ex C hP hlx h1 h2 h3 h4 V hL hS F
  exact lv_aload_nN C.1 C.2.1 hd rfl (hL.2.2 _ _ hl).1 (k p l e R s m args below meth c D cA A ad H locs cells slots Qm ls ex C hP hlx h1 h2 h3 h4 V hL (hS.cons trivial) F)
theorem T_aloadN {i : Nat} (hd : decode y.2.1 pc = .ok (.aload i, 2)) (hl : L[i]? = some (some .null)) (k : wpS P E d kc ks y (pc + 2) L (.null :: st) M Q) : wpS P E d kc ks y pc L st M Q := by
  intro p l e R s m args below meth c D cA A ad H locs cells slots Qm ls ex C hP hlx h1 h2 h3 h4 V hL hS F
  exact lv_aloadN C.1 C.2.1 hd (hL.2.2 _ _ hl).1 (k p l e R s m args below meth c D cA A ad H locs cells slots Qm ls ex C hP hlx h1 h2 h3 h4 V hL (hS.cons trivial) F)
theorem T_iand {x z : Int32} (hd : decode y.2.1 pc = .ok (.iand, 1)) (k : wpS P E d kc ks y (pc + 1) L (.int (x &&& z) :: st) M Q) : wpS P E d kc ks y pc L (.int z :: .int x :: st) M Q := by
  intro p l e R s m args below meth c D cA A ad H locs cells slots Qm ls ex C hP hlx h1 h2 h3 h4 V hL hS F
  exact lv_iand C.1 C.2.1 hd (k p l e R s m args below meth c D cA A ad H locs cells slots Qm ls ex C hP hlx h1 h2 h3 h4 V hL (hS.tl.tl.cons trivial) F)
theorem T_isub {x z : Int32} (hd : decode y.2.1 pc = .ok (.isub, 1)) (k : wpS P E d kc ks y (pc + 1) L (.int (x - z) :: st) M Q) : wpS P E d kc ks y pc L (.int z :: .int x :: st) M Q := by
  intro p l e R s m args below meth c D cA A ad H locs cells slots Qm ls ex C hP hlx h1 h2 h3 h4 V hL hS F
  exact lv_isub C.1 C.2.1 hd (k p l e R s m args below meth c D cA A ad H locs cells slots Qm ls ex C hP hlx h1 h2 h3 h4 V hL (hS.tl.tl.cons trivial) F)
theorem T_iadd {x z : Int32} (hd : decode y.2.1 pc = .ok (.iadd, 1)) (k : wpS P E d kc ks y (pc + 1) L (.int (x + z) :: st) M Q) : wpS P E d kc ks y pc L (.int z :: .int x :: st) M Q := by
  intro p l e R s m args below meth c D cA A ad H locs cells slots Qm ls ex C hP hlx h1 h2 h3 h4 V hL hS F
  exact lv_iadd C.1 C.2.1 hd (k p l e R s m args below meth c D cA A ad H locs cells slots Qm ls ex C hP hlx h1 h2 h3 h4 V hL (hS.tl.tl.cons trivial) F)
theorem T_i2l {x : Int32} (hd : decode y.2.1 pc = .ok (.i2l, 1)) (k : wpS P E d kc ks y (pc + 1) L (.long x.toInt64 :: st) M Q) : wpS P E d kc ks y pc L (.int x :: st) M Q := by
  intro p l e R s m args below meth c D cA A ad H locs cells slots Qm ls ex C hP hlx h1 h2 h3 h4 V hL hS F
  exact lv_i2l C.1 C.2.1 hd rfl (k p l e R s m args below meth c D cA A ad H locs cells slots Qm ls ex C hP hlx h1 h2 h3 h4 V hL (hS.tl.cons trivial) F)
theorem T_lcmp {x z : Int64} (hd : decode y.2.1 pc = .ok (.lcmp, 1)) (k : wpS P E d kc ks y (pc + 1) L (.int (lg_cmp x z) :: st) M Q) : wpS P E d kc ks y pc L (.long z :: .long x :: st) M Q := by
  intro p l e R s m args below meth c D cA A ad H locs cells slots Qm ls ex C hP hlx h1 h2 h3 h4 V hL hS F
  exact W.lcmp C.1 C.2.1 hd (k p l e R s m args below meth c D cA A ad H locs cells slots Qm ls ex C hP hlx h1 h2 h3 h4 V hL (hS.tl.tl.cons trivial) F)
theorem T_dup {v : Value} (hd : decode y.2.1 pc = .ok (.dup, 1)) (hc : v.category = 1) (k : wpS P E d kc ks y (pc + 1) L (v :: v :: st) M Q) : wpS P E d kc ks y pc L (v :: st) M Q := by
  intro p l e R s m args below meth c D cA A ad H locs cells slots Qm ls ex C hP hlx h1 h2 h3 h4 V hL hS F
  exact lv_dup C.1 C.2.1 hd (by rw [tr_cat]; exact hc) (k p l e R s m args below meth c D cA A ad H locs cells slots Qm ls ex C hP hlx h1 h2 h3 h4 V hL (hS.cons hS.hd) F)
theorem T_if_eq {x : Int32} {off : Int} {tgt : Nat} (hd : decode y.2.1 pc = .ok (.ifCond .eq off, 3)) (ht : (pc : Int) + off = (tgt : Int)) (kt : x = 0 → wpS P E d kc ks y tgt L st M Q) (kf : ¬ x = 0 → wpS P E d kc ks y (pc + 3) L st M Q) : wpS P E d kc ks y pc L (.int x :: st) M Q := by
  intro p l e R s m args below meth c D cA A ad H locs cells slots Qm ls ex C hP hlx h1 h2 h3 h4 V hL hS F
  exact lv_if_eq C.1 C.2.1 hd ht (fun q => (kt q p l e R s m args below meth c D cA A ad H locs cells slots Qm ls ex C hP hlx h1 h2 h3 h4 V hL hS.tl F)) (fun q => (kf q p l e R s m args below meth c D cA A ad H locs cells slots Qm ls ex C hP hlx h1 h2 h3 h4 V hL hS.tl F))
theorem T_icmp_eq {x z : Int32} {off : Int} {tgt : Nat} (hd : decode y.2.1 pc = .ok (.if_icmp .eq off, 3)) (ht : (pc : Int) + off = (tgt : Int)) (kt : x = z → wpS P E d kc ks y tgt L st M Q) (kf : ¬ x = z → wpS P E d kc ks y (pc + 3) L st M Q) : wpS P E d kc ks y pc L (.int z :: .int x :: st) M Q := by
  intro p l e R s m args below meth c D cA A ad H locs cells slots Qm ls ex C hP hlx h1 h2 h3 h4 V hL hS F
  exact lv_icmp_eq C.1 C.2.1 hd ht (fun q => (kt q p l e R s m args below meth c D cA A ad H locs cells slots Qm ls ex C hP hlx h1 h2 h3 h4 V hL hS.tl.tl F)) (fun q => (kf q p l e R s m args below meth c D cA A ad H locs cells slots Qm ls ex C hP hlx h1 h2 h3 h4 V hL hS.tl.tl F))
theorem T_if_ne {x : Int32} {off : Int} {tgt : Nat} (hd : decode y.2.1 pc = .ok (.ifCond .ne off, 3)) (ht : (pc : Int) + off = (tgt : Int)) (kt : ¬ x = 0 → wpS P E d kc ks y tgt L st M Q) (kf : x = 0 → wpS P E d kc ks y (pc + 3) L st M Q) : wpS P E d kc ks y pc L (.int x :: st) M Q := by
  intro p l e R s m args below meth c D cA A ad H locs cells slots Qm ls ex C hP hlx h1 h2 h3 h4 V hL hS F
  exact lv_if_ne C.1 C.2.1 hd ht (fun q => (kt q p l e R s m args below meth c D cA A ad H locs cells slots Qm ls ex C hP hlx h1 h2 h3 h4 V hL hS.tl F)) (fun q => (kf q p l e R s m args below meth c D cA A ad H locs cells slots Qm ls ex C hP hlx h1 h2 h3 h4 V hL hS.tl F))
theorem T_icmp_ne {x z : Int32} {off : Int} {tgt : Nat} (hd : decode y.2.1 pc = .ok (.if_icmp .ne off, 3)) (ht : (pc : Int) + off = (tgt : Int)) (kt : ¬ x = z → wpS P E d kc ks y tgt L st M Q) (kf : x = z → wpS P E d kc ks y (pc + 3) L st M Q) : wpS P E d kc ks y pc L (.int z :: .int x :: st) M Q := by
  intro p l e R s m args below meth c D cA A ad H locs cells slots Qm ls ex C hP hlx h1 h2 h3 h4 V hL hS F
  exact lv_icmp_ne C.1 C.2.1 hd ht (fun q => (kt q p l e R s m args below meth c D cA A ad H locs cells slots Qm ls ex C hP hlx h1 h2 h3 h4 V hL hS.tl.tl F)) (fun q => (kf q p l e R s m args below meth c D cA A ad H locs cells slots Qm ls ex C hP hlx h1 h2 h3 h4 V hL hS.tl.tl F))
theorem T_if_lt {x : Int32} {off : Int} {tgt : Nat} (hd : decode y.2.1 pc = .ok (.ifCond .lt off, 3)) (ht : (pc : Int) + off = (tgt : Int)) (kt : x < 0 → wpS P E d kc ks y tgt L st M Q) (kf : ¬ x < 0 → wpS P E d kc ks y (pc + 3) L st M Q) : wpS P E d kc ks y pc L (.int x :: st) M Q := by
  intro p l e R s m args below meth c D cA A ad H locs cells slots Qm ls ex C hP hlx h1 h2 h3 h4 V hL hS F
  exact lv_if_lt C.1 C.2.1 hd ht (fun q => (kt q p l e R s m args below meth c D cA A ad H locs cells slots Qm ls ex C hP hlx h1 h2 h3 h4 V hL hS.tl F)) (fun q => (kf q p l e R s m args below meth c D cA A ad H locs cells slots Qm ls ex C hP hlx h1 h2 h3 h4 V hL hS.tl F))
theorem T_icmp_le {x z : Int32} {off : Int} {tgt : Nat} (hd : decode y.2.1 pc = .ok (.if_icmp .le off, 3)) (ht : (pc : Int) + off = (tgt : Int)) (kt : x ≤ z → wpS P E d kc ks y tgt L st M Q) (kf : ¬ x ≤ z → wpS P E d kc ks y (pc + 3) L st M Q) : wpS P E d kc ks y pc L (.int z :: .int x :: st) M Q := by
  intro p l e R s m args below meth c D cA A ad H locs cells slots Qm ls ex C hP hlx h1 h2 h3 h4 V hL hS F
  exact lv_icmp_le C.1 C.2.1 hd ht (fun q => (kt q p l e R s m args below meth c D cA A ad H locs cells slots Qm ls ex C hP hlx h1 h2 h3 h4 V hL hS.tl.tl F)) (fun q => (kf q p l e R s m args below meth c D cA A ad H locs cells slots Qm ls ex C hP hlx h1 h2 h3 h4 V hL hS.tl.tl F))
theorem T_icmp_gt {x z : Int32} {off : Int} {tgt : Nat} (hd : decode y.2.1 pc = .ok (.if_icmp .gt off, 3)) (ht : (pc : Int) + off = (tgt : Int)) (kt : z < x → wpS P E d kc ks y tgt L st M Q) (kf : ¬ z < x → wpS P E d kc ks y (pc + 3) L st M Q) : wpS P E d kc ks y pc L (.int z :: .int x :: st) M Q := by
  intro p l e R s m args below meth c D cA A ad H locs cells slots Qm ls ex C hP hlx h1 h2 h3 h4 V hL hS F
  exact lv_icmp_gt C.1 C.2.1 hd ht (fun q => (kt q p l e R s m args below meth c D cA A ad H locs cells slots Qm ls ex C hP hlx h1 h2 h3 h4 V hL hS.tl.tl F)) (fun q => (kf q p l e R s m args below meth c D cA A ad H locs cells slots Qm ls ex C hP hlx h1 h2 h3 h4 V hL hS.tl.tl F))
theorem T_if_gt {x : Int32} {off : Int} {tgt : Nat} (hd : decode y.2.1 pc = .ok (.ifCond .gt off, 3)) (ht : (pc : Int) + off = (tgt : Int)) (kt : 0 < x → wpS P E d kc ks y tgt L st M Q) (kf : ¬ 0 < x → wpS P E d kc ks y (pc + 3) L st M Q) : wpS P E d kc ks y pc L (.int x :: st) M Q := by
  intro p l e R s m args below meth c D cA A ad H locs cells slots Qm ls ex C hP hlx h1 h2 h3 h4 V hL hS F
  exact lv_if_gt C.1 C.2.1 hd ht (fun q => (kt q p l e R s m args below meth c D cA A ad H locs cells slots Qm ls ex C hP hlx h1 h2 h3 h4 V hL hS.tl F)) (fun q => (kf q p l e R s m args below meth c D cA A ad H locs cells slots Qm ls ex C hP hlx h1 h2 h3 h4 V hL hS.tl F))
theorem T_goto {off : Int} {tgt : Nat} (hd : decode y.2.1 pc = .ok (.goto off, 3)) (ht : (pc : Int) + off = (tgt : Int)) (k : wpS P E d kc ks y tgt L st M Q) : wpS P E d kc ks y pc L st M Q := by
  intro p l e R s m args below meth c D cA A ad H locs cells slots Qm ls ex C hP hlx h1 h2 h3 h4 V hL hS F
  exact lv_goto C.1 C.2.1 hd ht (k p l e R s m args below meth c D cA A ad H locs cells slots Qm ls ex C hP hlx h1 h2 h3 h4 V hL hS F)
theorem T_ifnullR {x : Nat} {off : Int} (hd : decode y.2.1 pc = .ok (.ifnull off, 3)) (k : wpS P E d kc ks y (pc + 3) L st M Q) : wpS P E d kc ks y pc L (.ref x :: st) M Q := by
  intro p l e R s m args below meth c D cA A ad H locs cells slots Qm ls ex C hP hlx h1 h2 h3 h4 V hL hS F
  exact lv_ifnull C.1 C.2.1 hd (k p l e R s m args below meth c D cA A ad H locs cells slots Qm ls ex C hP hlx h1 h2 h3 h4 V hL hS.tl F)
theorem T_ifnullN {off : Int} {tgt : Nat} (hd : decode y.2.1 pc = .ok (.ifnull off, 3)) (ht : (pc : Int) + off = (tgt : Int)) (k : wpS P E d kc ks y tgt L st M Q) : wpS P E d kc ks y pc L (.null :: st) M Q := by
  intro p l e R s m args below meth c D cA A ad H locs cells slots Qm ls ex C hP hlx h1 h2 h3 h4 V hL hS F
  exact lv_ifnullN C.1 C.2.1 hd ht (k p l e R s m args below meth c D cA A ad H locs cells slots Qm ls ex C hP hlx h1 h2 h3 h4 V hL hS.tl F)
theorem T_tblIn {dflt lo hi : Int} {offs : Array Int} {len : Nat} {x : Int32} {off : Int} {tgt : Nat} (hd : decode y.2.1 pc = .ok (.tableswitch dflt lo hi offs, len)) (g1 : ¬ x.toInt < lo) (g2 : ¬ hi < x.toInt) (ho : offs[(x.toInt - lo).toNat]? = some off) (ht : (pc : Int) + off = (tgt : Int)) (k : wpS P E d kc ks y tgt L st M Q) : wpS P E d kc ks y pc L (.int x :: st) M Q := by
  intro p l e R s m args below meth c D cA A ad H locs cells slots Qm ls ex C hP hlx h1 h2 h3 h4 V hL hS F
  exact lv_tableIn C.1 C.2.1 hd g1 g2 ho ht (k p l e R s m args below meth c D cA A ad H locs cells slots Qm ls ex C hP hlx h1 h2 h3 h4 V hL hS.tl F)
theorem T_tblOut {dflt lo hi : Int} {offs : Array Int} {len : Nat} {x : Int32} {tgt : Nat} (hd : decode y.2.1 pc = .ok (.tableswitch dflt lo hi offs, len)) (h : x.toInt < lo ∨ hi < x.toInt) (ht : (pc : Int) + dflt = (tgt : Int)) (k : wpS P E d kc ks y tgt L st M Q) : wpS P E d kc ks y pc L (.int x :: st) M Q := by
  intro p l e R s m args below meth c D cA A ad H locs cells slots Qm ls ex C hP hlx h1 h2 h3 h4 V hL hS F
  exact lv_tableOut C.1 C.2.1 hd h ht (k p l e R s m args below meth c D cA A ad H locs cells slots Qm ls ex C hP hlx h1 h2 h3 h4 V hL hS.tl F)
theorem T_lald {a n : Nat} {i : Int32} (hd : decode y.2.1 pc = .ok (.laload, 1)) (ha : ar M a 4 n) (hi : vp_in i n) (kk : wpS P E d kc ks y (pc + 1) L (.long (mJ M a i.toNatClampNeg) :: st) M Q) : wpS P E d kc ks y pc L (.int i :: .ref a :: st) M Q := by
  intro p l e R s m args below meth c D cA A ad H locs cells slots Qm ls ex C hP hlx h1 h2 h3 h4 V hL hS F
  exact va_lald (D := D) C.1 C.2.1 V.1 V.2.1 a 3 (by rw [wsO_get ha.1, cel_j ha.2]) rfl hi hd (kk p l e R s m args below meth c D cA A ad H locs cells slots Qm ls ex C hP hlx h1 h2 h3 h4 V hL (hS.tl.tl.cons trivial) F)
theorem T_last {a n : Nat} {i : Int32} {v : Int64} (hd : decode y.2.1 pc = .ok (.lastore, 1)) (ha : ar M a 4 n) (hi : vp_in i n) (kk : wpS P E d kc ks y (pc + 1) L st (wJ M a i.toNatClampNeg v) Q) : wpS P E d kc ks y pc L (.long v :: .int i :: .ref a :: st) M Q := by
  intro p l e R s m args below meth c D cA A ad H locs cells slots Qm ls ex C hP hlx h1 h2 h3 h4 V hL hS F
  refine va_last (D := D) C.1 C.2.1 V.1 V.2.1 V.2.2.1 V.2.2.2.1 a 3 (by rw [wsO_get ha.1, cel_j ha.2]) rfl hi hd (fun H1 locs1 g1 g2 g3 => ?_)
  exact kk p l e R s m args below meth c D cA A ad H1 locs1 cells slots Qm ls ex C hP hlx h1 h2 h3 h4 (V.set (M' := wJ M a i.toNatClampNeg v) rfl V.2.2.2.2.2 ((cel_j (M := wJ M a i.toNatClampNeg v) ha.2).trans (by rw [show mJ (wJ M a i.toNatClampNeg v) a = vp_updL (mJ M a) i.toNatClampNeg v from up2_updL])) (fun j hj => cel_oJ hj) g1 g2 g3) hL hS.tl.tl.tl F
theorem T_new (ci idx : Nat) (hd : decode y.2.1 pc = .ok (.new idx, 3)) (hci : ci < 11) (hcl : Cond.classLink y.1.cls idx (Cof ci) ∈ gtb) (hinst : Cond.instantiable (Cof ci) (nfl ci) ∈ gtb) (hini : Cond.initialized (Cof ci) ∈ gtb) (kk : wpS P E d kc ks y (pc + 3) L (.ref (mN M) :: st) (alM M (0, ci)) Q) : wpS P E d (kc + 1) (ks + nfl ci) y pc L st M Q := by
  intro p l e R s m args below meth c D cA A ad H locs cells slots Qm ls ex C hP hlx h1 h2 h3 h4 V hL hS F
  have ok := cls_ok ci hci
  have hts := C.2.2.2.2.2.1
  refine va_new (D := D) (ci := ci) (fs := flv ad (fun _ => 0) (fun _ => none) ci) C.1 C.2.1 hts ok.2.1 (Tyof ci) ok.2.2.1 C.2.2.2.2.1 (hts _ hcl) (hts _ hinst) (hts _ hini) V.1 V.2.1 V.2.2.1 V.2.2.2.1 V.2.2.2.2.1 ok.1 (fun j hj => ?_) (by omega) (by omega) hd (fun q H1 g1 g2 g3 => ?_)
  · rw [dfl_ok ci hci j hj]
    unfold vp_V
    rw [List.getD_eq_getElem?_getD, flv_get hj]
    rfl
  · have hx : cel (va_up ad (mN M) q) cA (alM M (0, ci)) (mN M) = .inr (ci, flv ad (fun _ => 0) (fun _ => none) ci) := by
      rw [cel_o (M := alM M (0, ci)) (ci := ci) (show mS (alM M (0, ci)) (mN M) = (0, ci) from up_at), show mI (alM M (0, ci)) (mN M) = fun _ => 0 from up_at, show mP (alM M (0, ci)) (mN M) = fun _ => none from up_at]
      exact congrArg (fun z => Sum.inr (ci, z)) (flv_ad (n := 0) (fun _ h => absurd h (Nat.not_lt_zero _)) (fun _ _ h => by cases h) ci)
    have e1 : cells + 1 + kc = cells + (kc + 1) := by omega
    have e2 : slots + nfl ci + ks = slots + (ks + nfl ci) := by omega
    have g := kk p l e R s m args below meth c D cA A (va_up ad (mN M) q) H1 locs (cells + 1) (slots + nfl ci) Qm ls ex C hP hlx h1 h2 (by omega) (by omega) (V.push hx g1 g2 g3) (hL.mono (Nat.le_succ _) ad_up) ((hS.mono (Nat.le_succ _)).cons (Nat.lt_succ_self (mN M)))
    rw [List.map_cons, hS.map ad_up, e1, e2, show tr (va_up ad (mN M) q) (.ref (mN M)) = .ref q from congrArg Value.ref up_at] at g
    exact g (fun r M' pcF lsF ad' H' locs' a1 a2 a3 => F r M' pcF lsF ad' H' locs' a1 (Nat.le_trans (Nat.le_succ _) a2) (fun id hid => (a3 id (Nat.lt_succ_of_lt hid)).trans (ad_up id hid)))
theorem T_newa_g {n : Int32} {N : Nat} (t : Nat) (atype : ArrayType) (ty : FieldType) (a0 : vp_A) (hd : decode y.2.1 pc = .ok (.newarray atype, 2)) (hty : newarray.typeOf atype = ty) (htt : ∀ cA, (tysO cA)[t - 1]? = some (cA t, ty)) (hra : ∀ (U : State) (c : ClassId), va_RA U c ty → U.vm.findClass ("[" ++ ty.toString) = some c) (hw : Cond.arrayClass ty ∈ gtb) (ha : ∀ cA : ClassId, vp_cell cA a0 = arrV cA N (fun _ => defaultValue ty)) (hn : ¬ n < 0) (hN : n.toNatClampNeg = N) (hb : N * componentBytes ty ≤ 536870912)
    (hx : ∀ (ad : Nat → Nat) (cA : Nat → ClassId) (q : Nat), cel (va_up ad (mN M) q) cA (alM M (t, N)) (mN M) = .inl (cA t, a0)) (kk : wpS P E d kc ks y (pc + 2) L (.ref (mN M) :: st) (alM M (t, N)) Q) : wpS P E d (kc + 1) (ks + N) y pc L (.int n :: st) M Q := by
  intro p l e R s m args below meth c D cA A ad H locs cells slots Qm ls ex C hP hlx h1 h2 h3 h4 V hL hS F
  have hts := C.2.2.2.2.2.1
  refine va_newa (D := D) C.1 C.2.1 (by rw [hty]; exact hts _ hw) hty V.1 V.2.1 V.2.2.1 V.2.2.2.1 V.2.2.2.2.1 ha hn hN hb (by omega) (by omega) hd (fun q cA' H1 gK g1 g2 g3 => ?_)
  have ec : cA' = cA t := by
    have b1 := hra s cA' (gK.2 6 (cA', ty) rfl).2
    have b2 := hra s (cA t) (V.1.2 (t - 1) _ (htt cA)).2
    exact Option.some.inj (b1.symm.trans b2)
  subst ec
  have e1 : cells + 1 + kc = cells + (kc + 1) := by omega
  have e2 : slots + N + ks = slots + (ks + N) := by omega
  have g := kk p l e R s m args below meth c D cA A (va_up ad (mN M) q) H1 locs (cells + 1) (slots + N) Qm ls ex C hP hlx h1 h2 (by omega) (by omega) (V.push (hx ad cA q) g1 g2 g3) (hL.mono (Nat.le_succ _) ad_up) ((hS.tl.mono (Nat.le_succ _)).cons (Nat.lt_succ_self (mN M)))
  rw [List.map_cons, hS.tl.map ad_up, e1, e2, show tr (va_up ad (mN M) q) (.ref (mN M)) = .ref q from congrArg Value.ref up_at] at g
  exact g (fun r M' pcF lsF ad' H' locs' a1 a2 a3 => F r M' pcF lsF ad' H' locs' a1 (Nat.le_trans (Nat.le_succ _) a2) (fun id hid => (a3 id (Nat.lt_succ_of_lt hid)).trans (ad_up id hid)))
theorem T_newJ {n : Int32} {N : Nat} (hd : decode y.2.1 pc = .ok (.newarray .long, 2)) (hn : ¬ n < 0) (hN : n.toNatClampNeg = N) (hb : N * 8 ≤ 536870912) (kk : wpS P E d kc ks y (pc + 2) L (.ref (mN M) :: st) (alM M (4, N)) Q) : wpS P E d (kc + 1) (ks + N) y pc L (.int n :: st) M Q :=
  T_newa_g 4 .long .long (N, .inr (.inl (fun _ => 0))) hd rfl (fun _ => rfl) (fun _ _ h => h) aw_long (fun _ => rfl) hn hN hb (fun ad cA q => by
    rw [cel_j (M := alM M (4, N)) (show mS (alM M (4, N)) (mN M) = (4, N) from up_at), show mJ (alM M (4, N)) (mN M) = fun _ => 0 from up_at]) kk
theorem call_kS {p : Program} {l : Launch} {e : Env} {R : Room} {s : State} {m : MethodId} {args : Array Value} {below : List Frame} {meth : Method} {c : Code} {D : va_G} {cA : Nat → ClassId} {A : Nat → Prop} {ad : Nat → Nat} {cells slots : Nat} {Qm : State → Prop} {ls : Array Slot} {ex : List (Nat × Value)}
    (C : Cx p s m args meth c y) (hP : P l A s c ex) (hlx : Lx ex ls) (h1 : d + 1 ≤ R.frames) (h2 : 40 * (d + 1) ≤ R.locals) (h3 : cells + (kc1 + kc) ≤ R.cells) (h4 : slots + (ks1 + ks) ≤ R.slots) (hL : Lv ls y.2.2.1 ad (mN M) L) (hS : Sv (mN M) st)
    (F : ∀ (r : Option Value) (M' : Mm) (pcF : Nat) (lsF : Array Slot) (ad' : Nat → Nat) (H' : Heap) (locs' : List Loc), Q r M' → mN M ≤ mN M' → (∀ id, id < mN M → ad' id = ad id) → Iv s D cA A ad' M' s.heap H' locs' → (∀ v, r = some v → okV (mN M') v) → lsF.size = y.2.2.1 → E pcF r → W p l e R s m args below meth c H' locs' (cells + (kc1 + kc)) (slots + (ks1 + ks)) Qm (F0 m pcF lsF ((r.map (tr ad')).toList)))
    (kk : ∀ r M', Q1 r M' → mN M ≤ mN M' → wpS P E (d + 1) kc ks y (pc + 3) L (r.toList ++ st) M' Q) :
    ∀ (r : Option Value) (M' : Mm) (ad' : Nat → Nat) (H1 : Heap) (locs1 : List Loc), Q1 r M' → mN M ≤ mN M' → (∀ id, id < mN M → ad' id = ad id) → Iv s D cA A ad' M' s.heap H1 locs1 → (∀ v, r = some v → okV (mN M') v) → W p l e R s m args below meth c H1 locs1 (cells + kc1) (slots + ks1) Qm (F0 m (pc + 3) ls ((r.map (tr ad')).toList ++ st.map (tr ad))) := by
  intro r M' ad' H1 locs1 q hn hag V' hok
  have g := kk r M' q hn p l e R s m args below meth c D cA A ad' H1 locs1 (cells + kc1) (slots + ks1) Qm ls ex C hP hlx h1 h2 (by omega) (by omega) V' (hL.mono hn hag) (fun v hv => by
    rcases List.mem_append.mp hv with h | h
    · exact hok v (by simpa using h)
    · exact okV_le hn (hS v h))
  have es : (r.toList ++ st).map (tr ad') = (r.map (tr ad')).toList ++ st.map (tr ad) := by
    rw [List.map_append, hS.map hag]
    cases r <;> rfl
  rw [es, show cells + kc1 + kc = cells + (kc1 + kc) by omega, show slots + ks1 + ks = slots + (ks1 + ks) by omega] at g
  exact g (fun r2 M2 pcF lsF ad2 H2 locs2 a1 a2 a3 => F r2 M2 pcF lsF ad2 H2 locs2 a1 (Nat.le_trans hn a2) (fun id hid => (a3 id (Nat.lt_of_lt_of_le hid hn)).trans (hag id hid)))
theorem T_callV (ci idx : Nat) (hd : decode y.2.1 pc = .ok (.invokevirtual idx, 3)) (lk : lkB y2 As.length) (hl : Cond.methodLink y.1.cls idx y2.1 ∈ gtb) (hin : Cond.instanceMethod y2.1 ∈ gtb) (hse : Cond.selects (Cof ci) y2.1 y2.1 ∈ gtb) (hci : ci < 11) (ho : ob M b ci) (hw : (st.map fun v => v.category).sum ≤ 8) (hs : stk = As.reverse ++ .ref b :: st) (hc : Ct d kc1 ks1 y2 (.ref b :: As) M Q1)
    (kk : ∀ r M', Q1 r M' → mN M ≤ mN M' → wpS P E (d + 1) kc ks y (pc + 3) L (r.toList ++ st) M' Q) : wpS P E (d + 1) (kc1 + kc) (ks1 + ks) y pc L stk M Q := by
  subst hs
  intro p l e R s m args below meth c D cA A ad H locs cells slots Qm ls ex C hP hlx h1 h2 h3 h4 V hL hS F
  have hts := C.2.2.2.2.2.1
  have hSa : Sv (mN M) (.ref b :: As) := Sv.cons ho.1 (fun v hv => hS v (List.mem_append_left _ (List.mem_reverse.mpr hv)))
  have hSt : Sv (mN M) st := fun v hv => hS v (List.mem_append_right _ (List.mem_cons_of_mem _ hv))
  have cb : CallB R s args y.1.cls idx y2.1 y2.2.1 y2.2.2.1 y2.2.2.2 (Cond.code y2.1 y2.2.1 y2.2.2.1 y2.2.2.2 :: gtb) ({ frames := d, cells := kc1, slots := ks1, locals := 40 * d }) kc1 ks1 As.length := callB_of _ hts (gt_good lk.1) rfl rfl rfl (hts _ lk.2.1) (hts _ hl) lk.2.2.1 ⟨h1, by have := lk.2.2.2; show 8 + (y2.2.2.1 + 11) + 40 * d ≤ R.locals; omega⟩
  have rn := va_runV (As := As.map (tr ad)) (rest := st.map (tr ad)) (g := F0 m pc ls ((As.reverse ++ .ref b :: st).map (tr ad))) (cells := cells) (slots := slots) (locs := locs) (H := H) (below := below) (e := e) (p := p) (l := l) (meth := meth) (c := c) (m := m) (b := ad b) (C := Cof ci) ⟨C.1, C.2.1, C.2.2.1, C.2.2.2.2.1, hts⟩ (hc l D cA ad H.size hSa V.2.2.2.2.2) ⟨cb, hts _ hin, hts _ hse⟩
    ⟨cP_blind, va_recv V.1 V.2.1 (cls_ok ci hci).1 (by rw [wsO_get ho.1, cel_o ho.2]), fun U hU hW => ⟨rfl, by rw [hU], by rw [hU]; exact V.2.1, va_K.moved hW.alike V.1, V.2.2.1.weaken (fun _ _ _ _ => trivial), XW.warm hW C.2.2.2.2.2.2.2.2⟩⟩ rfl (by rw [List.length_map]) hL.1 (tr_stk (st := .ref b :: st)) (lv_room (by rw [cat_sum]; exact hw)) hd ⟨by omega, by omega⟩
  exact call_go (Q1 := Q1) rn V (call_kS C hP hlx h1 h2 h3 h4 hL hSt F kk)
theorem T_callI (idx : Nat) (hd : decode y.2.1 pc = .ok (.invokespecial idx, 3)) (lk : lkB y2 As.length) (hl : Cond.methodLink y.1.cls idx y2.1 ∈ gtb) (hin : Cond.instanceMethod y2.1 ∈ gtb) (hnm : y2.1.name = "<init>") (hr : y2.2.2.2 = none) (hb : b < mN M) (hw : (st.map fun v => v.category).sum ≤ 8) (hs : stk = As.reverse ++ .ref b :: st) (hc : Ct d kc1 ks1 y2 (.ref b :: As) M Q1)
    (kk : ∀ r M', Q1 r M' → mN M ≤ mN M' → wpS P E (d + 1) kc ks y (pc + 3) L (r.toList ++ st) M' Q) : wpS P E (d + 1) (kc1 + kc) (ks1 + ks) y pc L stk M Q := by
  subst hs
  intro p l e R s m args below meth c D cA A ad H locs cells slots Qm ls ex C hP hlx h1 h2 h3 h4 V hL hS F
  have hts := C.2.2.2.2.2.1
  have hSa : Sv (mN M) (.ref b :: As) := Sv.cons hb (fun v hv => hS v (List.mem_append_left _ (List.mem_reverse.mpr hv)))
  have hSt : Sv (mN M) st := fun v hv => hS v (List.mem_append_right _ (List.mem_cons_of_mem _ hv))
  have cb : CallB R s args y.1.cls idx y2.1 y2.2.1 y2.2.2.1 none (Cond.code y2.1 y2.2.1 y2.2.2.1 y2.2.2.2 :: gtb) ({ frames := d, cells := kc1, slots := ks1, locals := 40 * d }) kc1 ks1 As.length := callB_of _ hts (gt_good lk.1) (by rw [hr]) rfl rfl (hts _ lk.2.1) (hts _ hl) lk.2.2.1 ⟨h1, by have := lk.2.2.2; show 8 + (y2.2.2.1 + 11) + 40 * d ≤ R.locals; omega⟩
  have rn := va_runI (As := As.map (tr ad)) (rest := st.map (tr ad)) (g := F0 m pc ls ((As.reverse ++ .ref b :: st).map (tr ad))) (cells := cells) (slots := slots) (locs := locs) (H := H) (below := below) (e := e) (p := p) (l := l) (meth := meth) (c := c) (m := m) (b := ad b) ⟨C.1, C.2.1, C.2.2.1, C.2.2.2.2.1, hts⟩ (hc l D cA ad H.size hSa V.2.2.2.2.2) ⟨cb, hnm, hts _ hin⟩
    ⟨cP_blind, fun U hU hW => ⟨rfl, by rw [hU], by rw [hU]; exact V.2.1, va_K.moved hW.alike V.1, V.2.2.1.weaken (fun _ _ _ _ => trivial), XW.warm hW C.2.2.2.2.2.2.2.2⟩⟩ rfl (by rw [List.length_map]) hL.1 (tr_stk (st := .ref b :: st)) (lv_room (by rw [cat_sum]; exact hw)) hd ⟨by omega, by omega⟩
  exact call_go (Q1 := Q1) rn V (call_kS C hP hlx h1 h2 h3 h4 hL hSt F kk)
theorem T_if_eq_b {c : Prop} [Decidable c] {off : Int} {tgt : Nat} (hd : decode y.2.1 pc = .ok (.ifCond .eq off, 3)) (ht : (pc : Int) + off = (tgt : Int)) (kt : ¬ c → wpS P E d kc ks y tgt L st M Q) (kf : c → wpS P E d kc ks y (pc + 3) L st M Q) : wpS P E d kc ks y pc L (.int (bz c) :: st) M Q := T_if_eq hd ht (fun q => kt (bz_0.mp q)) (fun q => kf (Decidable.byContradiction fun z => q (bz_0.mpr z)))
theorem T_if_ne_b {c : Prop} [Decidable c] {off : Int} {tgt : Nat} (hd : decode y.2.1 pc = .ok (.ifCond .ne off, 3)) (ht : (pc : Int) + off = (tgt : Int)) (kt : c → wpS P E d kc ks y tgt L st M Q) (kf : ¬ c → wpS P E d kc ks y (pc + 3) L st M Q) : wpS P E d kc ks y pc L (.int (bz c) :: st) M Q := T_if_ne hd ht (fun q => kt (Decidable.byContradiction fun z => q (bz_0.mpr z))) (fun q => kf (bz_0.mp q))
theorem T_icmp_gt_n {a b : Nat} {off : Int} {tgt : Nat} (hd : decode y.2.1 pc = .ok (.if_icmp .gt off, 3)) (ht : (pc : Int) + off = (tgt : Int)) (ha : a < 2 ^ 31) (hb : b < 2 ^ 31) (kt : b < a → wpS P E d kc ks y tgt L st M Q) (kf : ¬ b < a → wpS P E d kc ks y (pc + 3) L st M Q) : wpS P E d kc ks y pc L (.int (nI b) :: .int (nI a) :: st) M Q := T_icmp_gt hd ht (fun q => kt ((nI_ltI hb ha).mp q)) (fun q => kf (fun z => q ((nI_ltI hb ha).mpr z)))
theorem T_icmp_le_n {a b : Nat} {off : Int} {tgt : Nat} (hd : decode y.2.1 pc = .ok (.if_icmp .le off, 3)) (ht : (pc : Int) + off = (tgt : Int)) (ha : a < 2 ^ 31) (hb : b < 2 ^ 31) (kt : a ≤ b → wpS P E d kc ks y tgt L st M Q) (kf : ¬ a ≤ b → wpS P E d kc ks y (pc + 3) L st M Q) : wpS P E d kc ks y pc L (.int (nI b) :: .int (nI a) :: st) M Q := T_icmp_le hd ht (fun q => kt ((nI_leI ha hb).mp q)) (fun q => kf (fun z => q ((nI_leI ha hb).mpr z)))
theorem T_if_lt_n {a : Nat} {off : Int} (hd : decode y.2.1 pc = .ok (.ifCond .lt off, 3)) {tgt : Nat} (ht : (pc : Int) + off = (tgt : Int)) (ha : a < 2 ^ 31) (kf : wpS P E d kc ks y (pc + 3) L st M Q) : wpS P E d kc ks y pc L (.int (nI a) :: st) M Q := T_if_lt hd ht (fun q => absurd q (nI_pos ha)) (fun _ => kf)
theorem T_if_eq_n {a : Nat} {off : Int} {tgt : Nat} (hd : decode y.2.1 pc = .ok (.ifCond .eq off, 3)) (ht : (pc : Int) + off = (tgt : Int)) (ha : a < 2 ^ 31) (kt : a = 0 → wpS P E d kc ks y tgt L st M Q) (kf : ¬ a = 0 → wpS P E d kc ks y (pc + 3) L st M Q) : wpS P E d kc ks y pc L (.int (nI a) :: st) M Q := T_if_eq hd ht (fun q => kt ((nI_z ha).mp q)) (fun q => kf (fun z => q ((nI_z ha).mpr z)))
theorem T_if_ne_n {a : Nat} {off : Int} {tgt : Nat} (hd : decode y.2.1 pc = .ok (.ifCond .ne off, 3)) (ht : (pc : Int) + off = (tgt : Int)) (ha : a < 2 ^ 31) (kt : ¬ a = 0 → wpS P E d kc ks y tgt L st M Q) (kf : a = 0 → wpS P E d kc ks y (pc + 3) L st M Q) : wpS P E d kc ks y pc L (.int (nI a) :: st) M Q := T_if_ne hd ht (fun q => kt (fun z => q ((nI_z ha).mpr z))) (fun q => kf ((nI_z ha).mp q))
theorem T_callV_P (ci idx : Nat) (hd : decode y.2.1 pc = .ok (.invokevirtual idx, 3)) (lk : lkB y2 As.length) (hl : Cond.methodLink y.1.cls idx y2.1 ∈ gtb) (hin : Cond.instanceMethod y2.1 ∈ gtb) (hse : Cond.selects (Cof ci) y2.1 y2.1 ∈ gtb) (hci : ci < 11) (ho : ob M b ci) (hw : (st.map fun v => v.category).sum ≤ 8) (hs : stk = As.reverse ++ .ref b :: st) {v : Int32} (hc : Ct d 0 0 y2 (.ref b :: As) M (qP v M)) (kk : wpS P E (d + 1) kc ks y (pc + 3) L (.int v :: st) M Q) : wpS P E (d + 1) kc ks y pc L stk M Q := by
  have g := T_callV (kc1 := 0) (ks1 := 0) (kc := kc) (ks := ks) (L := L) (Q := Q) ci idx hd lk hl hin hse hci ho hw hs hc (fun r M' hq _ => by rw [hq.1, hq.2]; exact kk)
  rwa [Nat.zero_add, Nat.zero_add] at g
theorem T_callV_R (ci idx : Nat) (hd : decode y.2.1 pc = .ok (.invokevirtual idx, 3)) (lk : lkB y2 As.length) (hl : Cond.methodLink y.1.cls idx y2.1 ∈ gtb) (hin : Cond.instanceMethod y2.1 ∈ gtb) (hse : Cond.selects (Cof ci) y2.1 y2.1 ∈ gtb) (hci : ci < 11) (ho : ob M b ci) (hw : (st.map fun v => v.category).sum ≤ 8) (hs : stk = As.reverse ++ .ref b :: st) {x : Option Nat} (hc : Ct d 0 0 y2 (.ref b :: As) M (qR x M)) (kk : wpS P E (d + 1) kc ks y (pc + 3) L (va_rf x :: st) M Q) : wpS P E (d + 1) kc ks y pc L stk M Q := by
  have g := T_callV (kc1 := 0) (ks1 := 0) (kc := kc) (ks := ks) (L := L) (Q := Q) ci idx hd lk hl hin hse hci ho hw hs hc (fun r M' hq _ => by rw [hq.1, hq.2]; exact kk)
  rwa [Nat.zero_add, Nat.zero_add] at g
theorem T_callV_M (ci idx : Nat) (hd : decode y.2.1 pc = .ok (.invokevirtual idx, 3)) (lk : lkB y2 As.length) (hl : Cond.methodLink y.1.cls idx y2.1 ∈ gtb) (hin : Cond.instanceMethod y2.1 ∈ gtb) (hse : Cond.selects (Cof ci) y2.1 y2.1 ∈ gtb) (hci : ci < 11) (ho : ob M b ci) (hw : (st.map fun v => v.category).sum ≤ 8) (hs : stk = As.reverse ++ .ref b :: st) {G : Gm} {φ : Int32 → Im → Prop} (hc : Ct d 0 0 y2 (.ref b :: As) M (qM G φ)) (kk : ∀ (v : Int32) (I' : Im), φ v I' → wpS P E (d + 1) kc ks y (pc + 3) L (.int v :: st) (I', G) Q) : wpS P E (d + 1) kc ks y pc L stk M Q := by
  have g := T_callV (kc1 := 0) (ks1 := 0) (kc := kc) (ks := ks) (L := L) (Q := Q) ci idx hd lk hl hin hse hci ho hw hs hc (fun r M' hq _ => by obtain ⟨v, I', rfl, rfl, h⟩ := hq; exact kk v I' h)
  rwa [Nat.zero_add, Nat.zero_add] at g
theorem T_callV_X (ci idx : Nat) (hd : decode y.2.1 pc = .ok (.invokevirtual idx, 3)) (lk : lkB y2 As.length) (hl : Cond.methodLink y.1.cls idx y2.1 ∈ gtb) (hin : Cond.instanceMethod y2.1 ∈ gtb) (hse : Cond.selects (Cof ci) y2.1 y2.1 ∈ gtb) (hci : ci < 11) (ho : ob M b ci) (hw : (st.map fun v => v.category).sum ≤ 8) (hs : stk = As.reverse ++ .ref b :: st) {φ : Int32 → Mm → Prop} (hc : Ct d 0 0 y2 (.ref b :: As) M (qX φ)) (kk : ∀ (v : Int32) (M' : Mm), φ v M' → wpS P E (d + 1) kc ks y (pc + 3) L (.int v :: st) M' Q) : wpS P E (d + 1) kc ks y pc L stk M Q := by
  have g := T_callV (kc1 := 0) (ks1 := 0) (kc := kc) (ks := ks) (L := L) (Q := Q) ci idx hd lk hl hin hse hci ho hw hs hc (fun r M' hq _ => by obtain ⟨v, rfl, h⟩ := hq; exact kk v M' h)
  rwa [Nat.zero_add, Nat.zero_add] at g
end SRULES
