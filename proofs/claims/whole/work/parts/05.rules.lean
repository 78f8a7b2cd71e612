section RULES
variable {d kc ks : Nat} {y : Yt} {pc : Nat} {L L' : List (Option Value)} {st : List Value} {M : Mm} {Q : Option Value → Mm → Prop}
theorem r_iconst {n : Int} {v : Int32} (hd : decode y.2.1 pc = .ok (.iconst n, 1)) (hv : Int32.ofInt n = v) (k : wp d kc ks y (pc + 1) L (.int v :: st) M Q) : wp d kc ks y pc L st M Q := by
  intro p l e R s m args below meth c D cA A ad H locs cells slots Qm ls C h1 h2 h3 h4 V hL hS F
  exact lv_iconst C.1 C.2.1 hd hv (k p l e R s m args below meth c D cA A ad H locs cells slots Qm ls C h1 h2 h3 h4 V hL (hS.cons trivial) F)
theorem r_bipush {n : Int} {v : Int32} (hd : decode y.2.1 pc = .ok (.bipush n, 2)) (hv : (Int8.ofInt n).toInt32 = v) (k : wp d kc ks y (pc + 2) L (.int v :: st) M Q) : wp d kc ks y pc L st M Q := by
  intro p l e R s m args below meth c D cA A ad H locs cells slots Qm ls C h1 h2 h3 h4 V hL hS F
  exact lv_bipush C.1 C.2.1 hd hv (k p l e R s m args below meth c D cA A ad H locs cells slots Qm ls C h1 h2 h3 h4 V hL (hS.cons trivial) F)
theorem r_sipush {n : Int} {v : Int32} (hd : decode y.2.1 pc = .ok (.sipush n, 3)) (hv : (Int16.ofInt n).toInt32 = v) (k : wp d kc ks y (pc + 3) L (.int v :: st) M Q) : wp d kc ks y pc L st M Q := by
  intro p l e R s m args below meth c D cA A ad H locs cells slots Qm ls C h1 h2 h3 h4 V hL hS F
  exact lv_sipush C.1 C.2.1 hd hv (k p l e R s m args below meth c D cA A ad H locs cells slots Qm ls C h1 h2 h3 h4 V hL (hS.cons trivial) F)
theorem r_lconst {n : Fin 2} {v : Int64} (hd : decode y.2.1 pc = .ok (.lconst n, 1)) (hv : Int64.ofNat (n : Nat) = v) (k : wp d kc ks y (pc + 1) L (.long v :: st) M Q) : wp d kc ks y pc L st M Q := by
  intro p l e R s m args below meth c D cA A ad H locs cells slots Qm ls C h1 h2 h3 h4 V hL hS F
  exact lv_lconst C.1 C.2.1 hd hv (k p l e R s m args below meth c D cA A ad H locs cells slots Qm ls C h1 h2 h3 h4 V hL (hS.cons trivial) F)
theorem r_ldc {idx : Nat} {v : Int32} (hd : decode y.2.1 pc = .ok (.ldc idx, 2)) (hc : Cond.constant y.1.cls idx v ∈ gtb) (k : wp d kc ks y (pc + 2) L (.int v :: st) M Q) : wp d kc ks y pc L st M Q := by
  intro p l e R s m args below meth c D cA A ad H locs cells slots Qm ls C h1 h2 h3 h4 V hL hS F
  exact lv_ldc C.1 C.2.1 C.2.2.2.2.1 (C.2.2.2.2.2.1 _ hc) hd (k p l e R s m args below meth c D cA A ad H locs cells slots Qm ls C h1 h2 h3 h4 V hL (hS.cons trivial) F)
theorem r_ldc2 {idx : Nat} {v : Int64} (hd : decode y.2.1 pc = .ok (.ldc2_w idx, 3)) (hc : Cond.constantLong y.1.cls idx v ∈ gtb) (k : wp d kc ks y (pc + 3) L (.long v :: st) M Q) : wp d kc ks y pc L st M Q := by
  intro p l e R s m args below meth c D cA A ad H locs cells slots Qm ls C h1 h2 h3 h4 V hL hS F
  exact lv_ldc2 C.1 C.2.1 C.2.2.2.2.1 (C.2.2.2.2.2.1 _ hc) hd (k p l e R s m args below meth c D cA A ad H locs cells slots Qm ls C h1 h2 h3 h4 V hL (hS.cons trivial) F)
theorem r_null (hd : decode y.2.1 pc = .ok (.aconst_null, 1)) (k : wp d kc ks y (pc + 1) L (.null :: st) M Q) : wp d kc ks y pc L st M Q := by
  intro p l e R s m args below meth c D cA A ad H locs cells slots Qm ls C h1 h2 h3 h4 V hL hS F
  exact lv_null C.1 C.2.1 hd (k p l e R s m args below meth c D cA A ad H locs cells slots Qm ls C h1 h2 h3 h4 V hL (hS.cons trivial) F)
theorem r_iload_n {i : Fin 4} {x : Int32} (hd : decode y.2.1 pc = .ok (.iload_n i, 1)) (hl : L[(i : Nat)]? = some (some (.int x))) (k : wp d kc ks y (pc + 1) L (.int x :: st) M Q) : wp d kc ks y pc L st M Q := by
  intro p l e R s m args below meth c D cA A ad H locs cells slots Qm ls C h1 h2 h3 h4 V hL hS F
  exact lv_iload_n C.1 C.2.1 hd rfl (hL.2.2 _ _ hl).1 (k p l e R s m args below meth c D cA A ad H locs cells slots Qm ls C h1 h2 h3 h4 V hL (hS.cons trivial) F)
theorem r_iload {i : Nat} {x : Int32} (hd : decode y.2.1 pc = .ok (.iload i, 2)) (hl : L[i]? = some (some (.int x))) (k : wp d kc ks y (pc + 2) L (.int x :: st) M Q) : wp d kc ks y pc L st M Q := by
  intro p l e R s m args below meth c D cA A ad H locs cells slots Qm ls C h1 h2 h3 h4 V hL hS F
  exact lv_iload C.1 C.2.1 hd (hL.2.2 _ _ hl).1 (k p l e R s m args below meth c D cA A ad H locs cells slots Qm ls C h1 h2 h3 h4 V hL (hS.cons trivial) F)
theorem r_lload_n {i : Fin 4} {x : Int64} (hd : decode y.2.1 pc = .ok (.lload_n i, 1)) (hl : L[(i : Nat)]? = some (some (.long x))) (k : wp d kc ks y (pc + 1) L (.long x :: st) M Q) : wp d kc ks y pc L st M Q := by
  intro p l e R s m args below meth c D cA A ad H locs cells slots Qm ls C h1 h2 h3 h4 V hL hS F
  exact lv_lload_n C.1 C.2.1 hd rfl (hL.2.2 _ _ hl).1 (k p l e R s m args below meth c D cA A ad H locs cells slots Qm ls C h1 h2 h3 h4 V hL (hS.cons trivial) F)
theorem r_lload {i : Nat} {x : Int64} (hd : decode y.2.1 pc = .ok (.lload i, 2)) (hl : L[i]? = some (some (.long x))) (k : wp d kc ks y (pc + 2) L (.long x :: st) M Q) : wp d kc ks y pc L st M Q := by
  intro p l e R s m args below meth c D cA A ad H locs cells slots Qm ls C h1 h2 h3 h4 V hL hS F
  exact lv_lload C.1 C.2.1 hd (hL.2.2 _ _ hl).1 (k p l e R s m args below meth c D cA A ad H locs cells slots Qm ls C h1 h2 h3 h4 V hL (hS.cons trivial) F)
theorem r_aload_n {i : Fin 4} {x : Nat} (hd : decode y.2.1 pc = .ok (.aload_n i, 1)) (hl : L[(i : Nat)]? = some (some (.ref x))) (k : wp d kc ks y (pc + 1) L (.ref x :: st) M Q) : wp d kc ks y pc L st M Q := by
  intro p l e R s m args below meth c D cA A ad H locs cells slots Qm ls C h1 h2 h3 h4 V hL hS F
  exact lv_aload_n C.1 C.2.1 hd rfl (hL.2.2 _ _ hl).1 (k p l e R s m args below meth c D cA A ad H locs cells slots Qm ls C h1 h2 h3 h4 V hL (hS.cons (hL.2.2 _ _ hl).2) F)
theorem r_aload {i : Nat} {x : Nat} (hd : decode y.2.1 pc = .ok (.aload i, 2)) (hl : L[i]? = some (some (.ref x))) (k : wp d kc ks y (pc + 2) L (.ref x :: st) M Q) : wp d kc ks y pc L st M Q := by
  intro p l e R s m args below meth c D cA A ad H locs cells slots Qm ls C h1 h2 h3 h4 V hL hS F
  exact lv_aload C.1 C.2.1 hd (hL.2.2 _ _ hl).1 (k p l e R s m args below meth c D cA A ad H locs cells slots Qm ls C h1 h2 h3 h4 V hL (hS.cons (hL.2.2 _ _ hl).2) F)
theorem r_aload_nN {i : Fin 4} (hd : decode y.2.1 pc = .ok (.aload_n i, 1)) (hl : L[(i : Nat)]? = some (some .null)) (k : wp d kc ks y (pc + 1) L (.null :: st) M Q) : wp d kc ks y pc L st M Q := by
  intro p l e R s m args below meth c D cA A ad H locs cells slots Qm ls C h1 h2 h3 h4 V hL hS F
  exact lv_aload_nN C.1 C.2.1 hd rfl (hL.2.2 _ _ hl).1 (k p l e R s m args below meth c D cA A ad H locs cells slots Qm ls C h1 h2 h3 h4 V hL (hS.cons trivial) F)
theorem r_aloadN {i : Nat} (hd : decode y.2.1 pc = .ok (.aload i, 2)) (hl : L[i]? = some (some .null)) (k : wp d kc ks y (pc + 2) L (.null :: st) M Q) : wp d kc ks y pc L st M Q := by
  intro p l e R s m args below meth c D cA A ad H locs cells slots Qm ls C h1 h2 h3 h4 V hL hS F
  exact lv_aloadN C.1 C.2.1 hd (hL.2.2 _ _ hl).1 (k p l e R s m args below meth c D cA A ad H locs cells slots Qm ls C h1 h2 h3 h4 V hL (hS.cons trivial) F)
theorem r_istore_n {i : Fin 4} {x : Int32} (hd : decode y.2.1 pc = .ok (.istore_n i, 1)) (hi : (i : Nat) < y.2.2.1) (hn : nolg L (i : Nat) = true) (he : (L.set (i : Nat) (some (.int x))) = L') (k : wp d kc ks y (pc + 1) L' st M Q) : wp d kc ks y pc L (.int x :: st) M Q := by
  subst he
  intro p l e R s m args below meth c D cA A ad H locs cells slots Qm ls C h1 h2 h3 h4 V hL hS F
  exact lv_istore_n (lv := lvl ad L) C.1 C.2.1 hd rfl hL.has hi rfl (fun ls' h' => k p l e R s m args below meth c D cA A ad H locs cells slots Qm ls' C h1 h2 h3 h4 V (hL.st1 hn hS.hd h') hS.tl F)
theorem r_istore {i : Nat} {x : Int32} (hd : decode y.2.1 pc = .ok (.istore i, 2)) (hi : i < y.2.2.1) (hn : nolg L i = true) (he : (L.set i (some (.int x))) = L') (k : wp d kc ks y (pc + 2) L' st M Q) : wp d kc ks y pc L (.int x :: st) M Q := by
  subst he
  intro p l e R s m args below meth c D cA A ad H locs cells slots Qm ls C h1 h2 h3 h4 V hL hS F
  exact lv_istore (lv := lvl ad L) C.1 C.2.1 hd hL.has hi rfl (fun ls' h' => k p l e R s m args below meth c D cA A ad H locs cells slots Qm ls' C h1 h2 h3 h4 V (hL.st1 hn hS.hd h') hS.tl F)
theorem r_astore_n {i : Fin 4} {x : Nat} (hd : decode y.2.1 pc = .ok (.astore_n i, 1)) (hi : (i : Nat) < y.2.2.1) (hn : nolg L (i : Nat) = true) (he : (L.set (i : Nat) (some (.ref x))) = L') (k : wp d kc ks y (pc + 1) L' st M Q) : wp d kc ks y pc L (.ref x :: st) M Q := by
  subst he
  intro p l e R s m args below meth c D cA A ad H locs cells slots Qm ls C h1 h2 h3 h4 V hL hS F
  exact lv_astore_n (lv := lvl ad L) C.1 C.2.1 hd rfl hL.has hi rfl (fun ls' h' => k p l e R s m args below meth c D cA A ad H locs cells slots Qm ls' C h1 h2 h3 h4 V (hL.st1 hn hS.hd h') hS.tl F)
theorem r_astore {i : Nat} {x : Nat} (hd : decode y.2.1 pc = .ok (.astore i, 2)) (hi : i < y.2.2.1) (hn : nolg L i = true) (he : (L.set i (some (.ref x))) = L') (k : wp d kc ks y (pc + 2) L' st M Q) : wp d kc ks y pc L (.ref x :: st) M Q := by
  subst he
  intro p l e R s m args below meth c D cA A ad H locs cells slots Qm ls C h1 h2 h3 h4 V hL hS F
  exact lv_astore (lv := lvl ad L) C.1 C.2.1 hd hL.has hi rfl (fun ls' h' => k p l e R s m args below meth c D cA A ad H locs cells slots Qm ls' C h1 h2 h3 h4 V (hL.st1 hn hS.hd h') hS.tl F)
theorem r_lstore_n {i : Fin 4} {x : Int64} (hd : decode y.2.1 pc = .ok (.lstore_n i, 1)) (hi : (i : Nat) + 1 < y.2.2.1) (hn : nolg L (i : Nat) = true) (he : ((L.set (i : Nat) (some (.long x))).set ((i : Nat) + 1) none) = L') (k : wp d kc ks y (pc + 1) L' st M Q) : wp d kc ks y pc L (.long x :: st) M Q := by
  subst he
  intro p l e R s m args below meth c D cA A ad H locs cells slots Qm ls C h1 h2 h3 h4 V hL hS F
  exact lv_lstore_n (lv := lvl ad L) C.1 C.2.1 hd rfl hL.has hi rfl (fun ls' h' => k p l e R s m args below meth c D cA A ad H locs cells slots Qm ls' C h1 h2 h3 h4 V (hL.st2 hn hS.hd h') hS.tl F)
theorem r_lstore {i : Nat} {x : Int64} (hd : decode y.2.1 pc = .ok (.lstore i, 2)) (hi : i + 1 < y.2.2.1) (hn : nolg L i = true) (he : ((L.set i (some (.long x))).set (i + 1) none) = L') (k : wp d kc ks y (pc + 2) L' st M Q) : wp d kc ks y pc L (.long x :: st) M Q := by
  subst he
  intro p l e R s m args below meth c D cA A ad H locs cells slots Qm ls C h1 h2 h3 h4 V hL hS F
  exact lv_lstore (lv := lvl ad L) C.1 C.2.1 hd hL.has hi rfl (fun ls' h' => k p l e R s m args below meth c D cA A ad H locs cells slots Qm ls' C h1 h2 h3 h4 V (hL.st2 hn hS.hd h') hS.tl F)
theorem r_astore_nN {i : Fin 4} (hd : decode y.2.1 pc = .ok (.astore_n i, 1)) (hi : (i : Nat) < y.2.2.1) (hn : nolg L (i : Nat) = true) (he : (L.set (i : Nat) (some (.null))) = L') (k : wp d kc ks y (pc + 1) L' st M Q) : wp d kc ks y pc L (.null :: st) M Q := by
  subst he
  intro p l e R s m args below meth c D cA A ad H locs cells slots Qm ls C h1 h2 h3 h4 V hL hS F
  exact lv_astore_nN (lv := lvl ad L) C.1 C.2.1 hd rfl hL.has hi rfl (fun ls' h' => k p l e R s m args below meth c D cA A ad H locs cells slots Qm ls' C h1 h2 h3 h4 V (hL.st1 hn hS.hd h') hS.tl F)
theorem r_astoreN {i : Nat} (hd : decode y.2.1 pc = .ok (.astore i, 2)) (hi : i < y.2.2.1) (hn : nolg L i = true) (he : (L.set i (some (.null))) = L') (k : wp d kc ks y (pc + 2) L' st M Q) : wp d kc ks y pc L (.null :: st) M Q := by
  subst he
  intro p l e R s m args below meth c D cA A ad H locs cells slots Qm ls C h1 h2 h3 h4 V hL hS F
  exact lv_astoreN (lv := lvl ad L) C.1 C.2.1 hd hL.has hi rfl (fun ls' h' => k p l e R s m args below meth c D cA A ad H locs cells slots Qm ls' C h1 h2 h3 h4 V (hL.st1 hn hS.hd h') hS.tl F)
theorem r_iinc {i : Nat} {n : Int} {x v : Int32} (hd : decode y.2.1 pc = .ok (.iinc i n, 3)) (hl : L[i]? = some (some (.int x))) (hv : x + Int32.ofInt n = v) (hi : i < y.2.2.1) (hn : nolg L i = true) (he : L.set i (some (.int v)) = L') (k : wp d kc ks y (pc + 3) L' st M Q) : wp d kc ks y pc L st M Q := by
  subst he
  intro p l e R s m args below meth c D cA A ad H locs cells slots Qm ls C h1 h2 h3 h4 V hL hS F
  obtain ⟨j, hj⟩ := List.getElem?_of_mem (lvl_mem.mpr ⟨_, hl, rfl⟩ : (i, tr ad (.int x)) ∈ lvl ad L)
  exact lv_iinc (lv := lvl ad L) (k := j) C.1 C.2.1 hd hL.has hj hv hi rfl (fun ls' h' => k p l e R s m args below meth c D cA A ad H locs cells slots Qm ls' C h1 h2 h3 h4 V (hL.st1 (v := .int v) hn trivial h') hS F)
theorem r_iadd {x z : Int32} (hd : decode y.2.1 pc = .ok (.iadd, 1)) (k : wp d kc ks y (pc + 1) L (.int (x + z) :: st) M Q) : wp d kc ks y pc L (.int z :: .int x :: st) M Q := by
  intro p l e R s m args below meth c D cA A ad H locs cells slots Qm ls C h1 h2 h3 h4 V hL hS F
  exact lv_iadd C.1 C.2.1 hd (k p l e R s m args below meth c D cA A ad H locs cells slots Qm ls C h1 h2 h3 h4 V hL (hS.tl.tl.cons trivial) F)
theorem r_isub {x z : Int32} (hd : decode y.2.1 pc = .ok (.isub, 1)) (k : wp d kc ks y (pc + 1) L (.int (x - z) :: st) M Q) : wp d kc ks y pc L (.int z :: .int x :: st) M Q := by
  intro p l e R s m args below meth c D cA A ad H locs cells slots Qm ls C h1 h2 h3 h4 V hL hS F
  exact lv_isub C.1 C.2.1 hd (k p l e R s m args below meth c D cA A ad H locs cells slots Qm ls C h1 h2 h3 h4 V hL (hS.tl.tl.cons trivial) F)
theorem r_imul {x z : Int32} (hd : decode y.2.1 pc = .ok (.imul, 1)) (k : wp d kc ks y (pc + 1) L (.int (x * z) :: st) M Q) : wp d kc ks y pc L (.int z :: .int x :: st) M Q := by
  intro p l e R s m args below meth c D cA A ad H locs cells slots Qm ls C h1 h2 h3 h4 V hL hS F
  exact lv_imul C.1 C.2.1 hd (k p l e R s m args below meth c D cA A ad H locs cells slots Qm ls C h1 h2 h3 h4 V hL (hS.tl.tl.cons trivial) F)
theorem r_iand {x z : Int32} (hd : decode y.2.1 pc = .ok (.iand, 1)) (k : wp d kc ks y (pc + 1) L (.int (x &&& z) :: st) M Q) : wp d kc ks y pc L (.int z :: .int x :: st) M Q := by
  intro p l e R s m args below meth c D cA A ad H locs cells slots Qm ls C h1 h2 h3 h4 V hL hS F
  exact lv_iand C.1 C.2.1 hd (k p l e R s m args below meth c D cA A ad H locs cells slots Qm ls C h1 h2 h3 h4 V hL (hS.tl.tl.cons trivial) F)
theorem r_ior {x z : Int32} (hd : decode y.2.1 pc = .ok (.ior, 1)) (k : wp d kc ks y (pc + 1) L (.int (x ||| z) :: st) M Q) : wp d kc ks y pc L (.int z :: .int x :: st) M Q := by
  intro p l e R s m args below meth c D cA A ad H locs cells slots Qm ls C h1 h2 h3 h4 V hL hS F
  exact lv_ior C.1 C.2.1 hd (k p l e R s m args below meth c D cA A ad H locs cells slots Qm ls C h1 h2 h3 h4 V hL (hS.tl.tl.cons trivial) F)
theorem r_ixor {x z : Int32} (hd : decode y.2.1 pc = .ok (.ixor, 1)) (k : wp d kc ks y (pc + 1) L (.int (x ^^^ z) :: st) M Q) : wp d kc ks y pc L (.int z :: .int x :: st) M Q := by
  intro p l e R s m args below meth c D cA A ad H locs cells slots Qm ls C h1 h2 h3 h4 V hL hS F
  exact lv_ixor C.1 C.2.1 hd (k p l e R s m args below meth c D cA A ad H locs cells slots Qm ls C h1 h2 h3 h4 V hL (hS.tl.tl.cons trivial) F)
theorem r_ishl {x z : Int32} (hd : decode y.2.1 pc = .ok (.ishl, 1)) (k : wp d kc ks y (pc + 1) L (.int (x <<< (z &&& 31)) :: st) M Q) : wp d kc ks y pc L (.int z :: .int x :: st) M Q := by
  intro p l e R s m args below meth c D cA A ad H locs cells slots Qm ls C h1 h2 h3 h4 V hL hS F
  exact lv_ishl C.1 C.2.1 hd (k p l e R s m args below meth c D cA A ad H locs cells slots Qm ls C h1 h2 h3 h4 V hL (hS.tl.tl.cons trivial) F)
theorem r_ishr {x z : Int32} (hd : decode y.2.1 pc = .ok (.ishr, 1)) (k : wp d kc ks y (pc + 1) L (.int (x >>> (z &&& 31)) :: st) M Q) : wp d kc ks y pc L (.int z :: .int x :: st) M Q := by
  intro p l e R s m args below meth c D cA A ad H locs cells slots Qm ls C h1 h2 h3 h4 V hL hS F
  exact lv_ishr C.1 C.2.1 hd (k p l e R s m args below meth c D cA A ad H locs cells slots Qm ls C h1 h2 h3 h4 V hL (hS.tl.tl.cons trivial) F)
theorem r_idiv {x z : Int32} (hd : decode y.2.1 pc = .ok (.idiv, 1)) (hz : ¬ z = 0) (k : wp d kc ks y (pc + 1) L (.int (x / z) :: st) M Q) : wp d kc ks y pc L (.int z :: .int x :: st) M Q := by
  intro p l e R s m args below meth c D cA A ad H locs cells slots Qm ls C h1 h2 h3 h4 V hL hS F
  exact lv_idiv C.1 C.2.1 hd hz (k p l e R s m args below meth c D cA A ad H locs cells slots Qm ls C h1 h2 h3 h4 V hL (hS.tl.tl.cons trivial) F)
theorem r_irem {x z : Int32} (hd : decode y.2.1 pc = .ok (.irem, 1)) (hz : ¬ z = 0) (k : wp d kc ks y (pc + 1) L (.int (x - x / z * z) :: st) M Q) : wp d kc ks y pc L (.int z :: .int x :: st) M Q := by
  intro p l e R s m args below meth c D cA A ad H locs cells slots Qm ls C h1 h2 h3 h4 V hL hS F
  exact lv_irem C.1 C.2.1 hd hz (k p l e R s m args below meth c D cA A ad H locs cells slots Qm ls C h1 h2 h3 h4 V hL (hS.tl.tl.cons trivial) F)
theorem r_ineg {x : Int32} (hd : decode y.2.1 pc = .ok (.ineg, 1)) (k : wp d kc ks y (pc + 1) L (.int (-x) :: st) M Q) : wp d kc ks y pc L (.int x :: st) M Q := by
  intro p l e R s m args below meth c D cA A ad H locs cells slots Qm ls C h1 h2 h3 h4 V hL hS F
  exact lv_ineg C.1 C.2.1 hd (k p l e R s m args below meth c D cA A ad H locs cells slots Qm ls C h1 h2 h3 h4 V hL (hS.tl.cons trivial) F)
theorem r_lmul {x z : Int64} (hd : decode y.2.1 pc = .ok (.lmul, 1)) (k : wp d kc ks y (pc + 1) L (.long (x * z) :: st) M Q) : wp d kc ks y pc L (.long z :: .long x :: st) M Q := by
  intro p l e R s m args below meth c D cA A ad H locs cells slots Qm ls C h1 h2 h3 h4 V hL hS F
  exact lv_lmul C.1 C.2.1 hd (k p l e R s m args below meth c D cA A ad H locs cells slots Qm ls C h1 h2 h3 h4 V hL (hS.tl.tl.cons trivial) F)
theorem r_ldiv {x z : Int64} (hd : decode y.2.1 pc = .ok (.ldiv, 1)) (hz : ¬ z = 0) (k : wp d kc ks y (pc + 1) L (.long (x / z) :: st) M Q) : wp d kc ks y pc L (.long z :: .long x :: st) M Q := by
  intro p l e R s m args below meth c D cA A ad H locs cells slots Qm ls C h1 h2 h3 h4 V hL hS F
  exact lv_ldiv C.1 C.2.1 hd hz (k p l e R s m args below meth c D cA A ad H locs cells slots Qm ls C h1 h2 h3 h4 V hL (hS.tl.tl.cons trivial) F)
theorem r_lcmp {x z : Int64} (hd : decode y.2.1 pc = .ok (.lcmp, 1)) (k : wp d kc ks y (pc + 1) L (.int (lg_cmp x z) :: st) M Q) : wp d kc ks y pc L (.long z :: .long x :: st) M Q := by
  intro p l e R s m args below meth c D cA A ad H locs cells slots Qm ls C h1 h2 h3 h4 V hL hS F
  exact W.lcmp C.1 C.2.1 hd (k p l e R s m args below meth c D cA A ad H locs cells slots Qm ls C h1 h2 h3 h4 V hL (hS.tl.tl.cons trivial) F)
theorem r_i2l {x : Int32} (hd : decode y.2.1 pc = .ok (.i2l, 1)) (k : wp d kc ks y (pc + 1) L (.long x.toInt64 :: st) M Q) : wp d kc ks y pc L (.int x :: st) M Q := by
  intro p l e R s m args below meth c D cA A ad H locs cells slots Qm ls C h1 h2 h3 h4 V hL hS F
  exact lv_i2l C.1 C.2.1 hd rfl (k p l e R s m args below meth c D cA A ad H locs cells slots Qm ls C h1 h2 h3 h4 V hL (hS.tl.cons trivial) F)
theorem r_l2i {x : Int64} (hd : decode y.2.1 pc = .ok (.l2i, 1)) (k : wp d kc ks y (pc + 1) L (.int x.toInt32 :: st) M Q) : wp d kc ks y pc L (.long x :: st) M Q := by
  intro p l e R s m args below meth c D cA A ad H locs cells slots Qm ls C h1 h2 h3 h4 V hL hS F
  exact lv_l2i C.1 C.2.1 hd rfl (k p l e R s m args below meth c D cA A ad H locs cells slots Qm ls C h1 h2 h3 h4 V hL (hS.tl.cons trivial) F)
theorem r_i2b {x : Int32} (hd : decode y.2.1 pc = .ok (.i2b, 1)) (k : wp d kc ks y (pc + 1) L (.int x.toInt8.toInt32 :: st) M Q) : wp d kc ks y pc L (.int x :: st) M Q := by
  intro p l e R s m args below meth c D cA A ad H locs cells slots Qm ls C h1 h2 h3 h4 V hL hS F
  exact lv_i2b C.1 C.2.1 hd rfl (k p l e R s m args below meth c D cA A ad H locs cells slots Qm ls C h1 h2 h3 h4 V hL (hS.tl.cons trivial) F)
theorem r_dup {v : Value} (hd : decode y.2.1 pc = .ok (.dup, 1)) (hc : v.category = 1) (k : wp d kc ks y (pc + 1) L (v :: v :: st) M Q) : wp d kc ks y pc L (v :: st) M Q := by
  intro p l e R s m args below meth c D cA A ad H locs cells slots Qm ls C h1 h2 h3 h4 V hL hS F
  exact lv_dup C.1 C.2.1 hd (by rw [tr_cat]; exact hc) (k p l e R s m args below meth c D cA A ad H locs cells slots Qm ls C h1 h2 h3 h4 V hL (hS.cons hS.hd) F)
theorem r_dup2 {v w : Value} (hd : decode y.2.1 pc = .ok (.dup2, 1)) (hc : v.category = 1) (hc2 : w.category = 1) (k : wp d kc ks y (pc + 1) L (v :: w :: v :: w :: st) M Q) : wp d kc ks y pc L (v :: w :: st) M Q := by
  intro p l e R s m args below meth c D cA A ad H locs cells slots Qm ls C h1 h2 h3 h4 V hL hS F
  exact lv_dup2_11 C.1 C.2.1 hd (by rw [tr_cat]; exact hc) (by rw [tr_cat]; exact hc2) (k p l e R s m args below meth c D cA A ad H locs cells slots Qm ls C h1 h2 h3 h4 V hL ((hS.cons hS.tl.hd).cons hS.hd) F)
theorem r_pop {v : Value} (hd : decode y.2.1 pc = .ok (.pop, 1)) (hc : v.category = 1) (k : wp d kc ks y (pc + 1) L st M Q) : wp d kc ks y pc L (v :: st) M Q := by
  intro p l e R s m args below meth c D cA A ad H locs cells slots Qm ls C h1 h2 h3 h4 V hL hS F
  exact lv_pop C.1 C.2.1 hd (by rw [tr_cat]; exact hc) (k p l e R s m args below meth c D cA A ad H locs cells slots Qm ls C h1 h2 h3 h4 V hL hS.tl F)
theorem r_if_eq {x : Int32} {off : Int} {tgt : Nat} (hd : decode y.2.1 pc = .ok (.ifCond .eq off, 3)) (ht : (pc : Int) + off = (tgt : Int)) (kt : x = 0 → wp d kc ks y tgt L st M Q) (kf : ¬ x = 0 → wp d kc ks y (pc + 3) L st M Q) : wp d kc ks y pc L (.int x :: st) M Q := by
  intro p l e R s m args below meth c D cA A ad H locs cells slots Qm ls C h1 h2 h3 h4 V hL hS F
  exact lv_if_eq C.1 C.2.1 hd ht (fun q => (kt q p l e R s m args below meth c D cA A ad H locs cells slots Qm ls C h1 h2 h3 h4 V hL hS.tl F)) (fun q => (kf q p l e R s m args below meth c D cA A ad H locs cells slots Qm ls C h1 h2 h3 h4 V hL hS.tl F))
theorem r_icmp_eq {x z : Int32} {off : Int} {tgt : Nat} (hd : decode y.2.1 pc = .ok (.if_icmp .eq off, 3)) (ht : (pc : Int) + off = (tgt : Int)) (kt : x = z → wp d kc ks y tgt L st M Q) (kf : ¬ x = z → wp d kc ks y (pc + 3) L st M Q) : wp d kc ks y pc L (.int z :: .int x :: st) M Q := by
  intro p l e R s m args below meth c D cA A ad H locs cells slots Qm ls C h1 h2 h3 h4 V hL hS F
  exact lv_icmp_eq C.1 C.2.1 hd ht (fun q => (kt q p l e R s m args below meth c D cA A ad H locs cells slots Qm ls C h1 h2 h3 h4 V hL hS.tl.tl F)) (fun q => (kf q p l e R s m args below meth c D cA A ad H locs cells slots Qm ls C h1 h2 h3 h4 V hL hS.tl.tl F))
theorem r_if_ne {x : Int32} {off : Int} {tgt : Nat} (hd : decode y.2.1 pc = .ok (.ifCond .ne off, 3)) (ht : (pc : Int) + off = (tgt : Int)) (kt : ¬ x = 0 → wp d kc ks y tgt L st M Q) (kf : x = 0 → wp d kc ks y (pc + 3) L st M Q) : wp d kc ks y pc L (.int x :: st) M Q := by
  intro p l e R s m args below meth c D cA A ad H locs cells slots Qm ls C h1 h2 h3 h4 V hL hS F
  exact lv_if_ne C.1 C.2.1 hd ht (fun q => (kt q p l e R s m args below meth c D cA A ad H locs cells slots Qm ls C h1 h2 h3 h4 V hL hS.tl F)) (fun q => (kf q p l e R s m args below meth c D cA A ad H locs cells slots Qm ls C h1 h2 h3 h4 V hL hS.tl F))
theorem r_icmp_ne {x z : Int32} {off : Int} {tgt : Nat} (hd : decode y.2.1 pc = .ok (.if_icmp .ne off, 3)) (ht : (pc : Int) + off = (tgt : Int)) (kt : ¬ x = z → wp d kc ks y tgt L st M Q) (kf : x = z → wp d kc ks y (pc + 3) L st M Q) : wp d kc ks y pc L (.int z :: .int x :: st) M Q := by
  intro p l e R s m args below meth c D cA A ad H locs cells slots Qm ls C h1 h2 h3 h4 V hL hS F
  exact lv_icmp_ne C.1 C.2.1 hd ht (fun q => (kt q p l e R s m args below meth c D cA A ad H locs cells slots Qm ls C h1 h2 h3 h4 V hL hS.tl.tl F)) (fun q => (kf q p l e R s m args below meth c D cA A ad H locs cells slots Qm ls C h1 h2 h3 h4 V hL hS.tl.tl F))
theorem r_if_lt {x : Int32} {off : Int} {tgt : Nat} (hd : decode y.2.1 pc = .ok (.ifCond .lt off, 3)) (ht : (pc : Int) + off = (tgt : Int)) (kt : x < 0 → wp d kc ks y tgt L st M Q) (kf : ¬ x < 0 → wp d kc ks y (pc + 3) L st M Q) : wp d kc ks y pc L (.int x :: st) M Q := by
  intro p l e R s m args below meth c D cA A ad H locs cells slots Qm ls C h1 h2 h3 h4 V hL hS F
  exact lv_if_lt C.1 C.2.1 hd ht (fun q => (kt q p l e R s m args below meth c D cA A ad H locs cells slots Qm ls C h1 h2 h3 h4 V hL hS.tl F)) (fun q => (kf q p l e R s m args below meth c D cA A ad H locs cells slots Qm ls C h1 h2 h3 h4 V hL hS.tl F))
theorem r_icmp_lt {x z : Int32} {off : Int} {tgt : Nat} (hd : decode y.2.1 pc = .ok (.if_icmp .lt off, 3)) (ht : (pc : Int) + off = (tgt : Int)) (kt : x < z → wp d kc ks y tgt L st M Q) (kf : ¬ x < z → wp d kc ks y (pc + 3) L st M Q) : wp d kc ks y pc L (.int z :: .int x :: st) M Q := by
  intro p l e R s m args below meth c D cA A ad H locs cells slots Qm ls C h1 h2 h3 h4 V hL hS F
  exact lv_icmp_lt C.1 C.2.1 hd ht (fun q => (kt q p l e R s m args below meth c D cA A ad H locs cells slots Qm ls C h1 h2 h3 h4 V hL hS.tl.tl F)) (fun q => (kf q p l e R s m args below meth c D cA A ad H locs cells slots Qm ls C h1 h2 h3 h4 V hL hS.tl.tl F))
theorem r_if_ge {x : Int32} {off : Int} {tgt : Nat} (hd : decode y.2.1 pc = .ok (.ifCond .ge off, 3)) (ht : (pc : Int) + off = (tgt : Int)) (kt : 0 ≤ x → wp d kc ks y tgt L st M Q) (kf : ¬ 0 ≤ x → wp d kc ks y (pc + 3) L st M Q) : wp d kc ks y pc L (.int x :: st) M Q := by
  intro p l e R s m args below meth c D cA A ad H locs cells slots Qm ls C h1 h2 h3 h4 V hL hS F
  exact lv_if_ge C.1 C.2.1 hd ht (fun q => (kt q p l e R s m args below meth c D cA A ad H locs cells slots Qm ls C h1 h2 h3 h4 V hL hS.tl F)) (fun q => (kf q p l e R s m args below meth c D cA A ad H locs cells slots Qm ls C h1 h2 h3 h4 V hL hS.tl F))
theorem r_icmp_ge {x z : Int32} {off : Int} {tgt : Nat} (hd : decode y.2.1 pc = .ok (.if_icmp .ge off, 3)) (ht : (pc : Int) + off = (tgt : Int)) (kt : z ≤ x → wp d kc ks y tgt L st M Q) (kf : ¬ z ≤ x → wp d kc ks y (pc + 3) L st M Q) : wp d kc ks y pc L (.int z :: .int x :: st) M Q := by
  intro p l e R s m args below meth c D cA A ad H locs cells slots Qm ls C h1 h2 h3 h4 V hL hS F
  exact lv_icmp_ge C.1 C.2.1 hd ht (fun q => (kt q p l e R s m args below meth c D cA A ad H locs cells slots Qm ls C h1 h2 h3 h4 V hL hS.tl.tl F)) (fun q => (kf q p l e R s m args below meth c D cA A ad H locs cells slots Qm ls C h1 h2 h3 h4 V hL hS.tl.tl F))
theorem r_if_gt {x : Int32} {off : Int} {tgt : Nat} (hd : decode y.2.1 pc = .ok (.ifCond .gt off, 3)) (ht : (pc : Int) + off = (tgt : Int)) (kt : 0 < x → wp d kc ks y tgt L st M Q) (kf : ¬ 0 < x → wp d kc ks y (pc + 3) L st M Q) : wp d kc ks y pc L (.int x :: st) M Q := by
  intro p l e R s m args below meth c D cA A ad H locs cells slots Qm ls C h1 h2 h3 h4 V hL hS F
  exact lv_if_gt C.1 C.2.1 hd ht (fun q => (kt q p l e R s m args below meth c D cA A ad H locs cells slots Qm ls C h1 h2 h3 h4 V hL hS.tl F)) (fun q => (kf q p l e R s m args below meth c D cA A ad H locs cells slots Qm ls C h1 h2 h3 h4 V hL hS.tl F))
theorem r_icmp_gt {x z : Int32} {off : Int} {tgt : Nat} (hd : decode y.2.1 pc = .ok (.if_icmp .gt off, 3)) (ht : (pc : Int) + off = (tgt : Int)) (kt : z < x → wp d kc ks y tgt L st M Q) (kf : ¬ z < x → wp d kc ks y (pc + 3) L st M Q) : wp d kc ks y pc L (.int z :: .int x :: st) M Q := by
  intro p l e R s m args below meth c D cA A ad H locs cells slots Qm ls C h1 h2 h3 h4 V hL hS F
  exact lv_icmp_gt C.1 C.2.1 hd ht (fun q => (kt q p l e R s m args below meth c D cA A ad H locs cells slots Qm ls C h1 h2 h3 h4 V hL hS.tl.tl F)) (fun q => (kf q p l e R s m args below meth c D cA A ad H locs cells slots Qm ls C h1 h2 h3 h4 V hL hS.tl.tl F))
theorem r_if_le {x : Int32} {off : Int} {tgt : Nat} (hd : decode y.2.1 pc = .ok (.ifCond .le off, 3)) (ht : (pc : Int) + off = (tgt : Int)) (kt : x ≤ 0 → wp d kc ks y tgt L st M Q) (kf : ¬ x ≤ 0 → wp d kc ks y (pc + 3) L st M Q) : wp d kc ks y pc L (.int x :: st) M Q := by
  intro p l e R s m args below meth c D cA A ad H locs cells slots Qm ls C h1 h2 h3 h4 V hL hS F
  exact lv_if_le C.1 C.2.1 hd ht (fun q => (kt q p l e R s m args below meth c D cA A ad H locs cells slots Qm ls C h1 h2 h3 h4 V hL hS.tl F)) (fun q => (kf q p l e R s m args below meth c D cA A ad H locs cells slots Qm ls C h1 h2 h3 h4 V hL hS.tl F))
theorem r_icmp_le {x z : Int32} {off : Int} {tgt : Nat} (hd : decode y.2.1 pc = .ok (.if_icmp .le off, 3)) (ht : (pc : Int) + off = (tgt : Int)) (kt : x ≤ z → wp d kc ks y tgt L st M Q) (kf : ¬ x ≤ z → wp d kc ks y (pc + 3) L st M Q) : wp d kc ks y pc L (.int z :: .int x :: st) M Q := by
  intro p l e R s m args below meth c D cA A ad H locs cells slots Qm ls C h1 h2 h3 h4 V hL hS F
  exact lv_icmp_le C.1 C.2.1 hd ht (fun q => (kt q p l e R s m args below meth c D cA A ad H locs cells slots Qm ls C h1 h2 h3 h4 V hL hS.tl.tl F)) (fun q => (kf q p l e R s m args below meth c D cA A ad H locs cells slots Qm ls C h1 h2 h3 h4 V hL hS.tl.tl F))
theorem r_goto {off : Int} {tgt : Nat} (hd : decode y.2.1 pc = .ok (.goto off, 3)) (ht : (pc : Int) + off = (tgt : Int)) (k : wp d kc ks y tgt L st M Q) : wp d kc ks y pc L st M Q := by
  intro p l e R s m args below meth c D cA A ad H locs cells slots Qm ls C h1 h2 h3 h4 V hL hS F
  exact lv_goto C.1 C.2.1 hd ht (k p l e R s m args below meth c D cA A ad H locs cells slots Qm ls C h1 h2 h3 h4 V hL hS F)
theorem r_ifnullR {x : Nat} {off : Int} (hd : decode y.2.1 pc = .ok (.ifnull off, 3)) (k : wp d kc ks y (pc + 3) L st M Q) : wp d kc ks y pc L (.ref x :: st) M Q := by
  intro p l e R s m args below meth c D cA A ad H locs cells slots Qm ls C h1 h2 h3 h4 V hL hS F
  exact lv_ifnull C.1 C.2.1 hd (k p l e R s m args below meth c D cA A ad H locs cells slots Qm ls C h1 h2 h3 h4 V hL hS.tl F)
theorem r_ifnullN {off : Int} {tgt : Nat} (hd : decode y.2.1 pc = .ok (.ifnull off, 3)) (ht : (pc : Int) + off = (tgt : Int)) (k : wp d kc ks y tgt L st M Q) : wp d kc ks y pc L (.null :: st) M Q := by
  intro p l e R s m args below meth c D cA A ad H locs cells slots Qm ls C h1 h2 h3 h4 V hL hS F
  exact lv_ifnullN C.1 C.2.1 hd ht (k p l e R s m args below meth c D cA A ad H locs cells slots Qm ls C h1 h2 h3 h4 V hL hS.tl F)
theorem r_ifnonnullR {x : Nat} {off : Int} {tgt : Nat} (hd : decode y.2.1 pc = .ok (.ifnonnull off, 3)) (ht : (pc : Int) + off = (tgt : Int)) (k : wp d kc ks y tgt L st M Q) : wp d kc ks y pc L (.ref x :: st) M Q := by
  intro p l e R s m args below meth c D cA A ad H locs cells slots Qm ls C h1 h2 h3 h4 V hL hS F
  exact lv_ifnonnull C.1 C.2.1 hd ht (k p l e R s m args below meth c D cA A ad H locs cells slots Qm ls C h1 h2 h3 h4 V hL hS.tl F)
theorem r_ifnonnullN {off : Int} (hd : decode y.2.1 pc = .ok (.ifnonnull off, 3)) (k : wp d kc ks y (pc + 3) L st M Q) : wp d kc ks y pc L (.null :: st) M Q := by
  intro p l e R s m args below meth c D cA A ad H locs cells slots Qm ls C h1 h2 h3 h4 V hL hS F
  exact lv_ifnonnullN C.1 C.2.1 hd (k p l e R s m args below meth c D cA A ad H locs cells slots Qm ls C h1 h2 h3 h4 V hL hS.tl F)
theorem ad_inj {s : State} {D : va_G} {cA : Nat → ClassId} {A : Nat → Prop} {ad : Nat → Nat} {H0 H : Heap} {locs : List Loc} (V : Iv s D cA A ad M H0 H locs) {a b : Nat} (ha : a < mN M) (hb : b < mN M) (h : ad a = ad b) : a = b := V.2.2.1.1 a b _ _ (wsO_get ha) (wsO_get hb) h
theorem r_acmp_ne {x z : Option Nat} {off : Int} {tgt : Nat} (hd : decode y.2.1 pc = .ok (.if_acmp .ne off, 3)) (ht : (pc : Int) + off = (tgt : Int)) (kt : ¬ x = z → wp d kc ks y tgt L st M Q) (kf : x = z → wp d kc ks y (pc + 3) L st M Q) : wp d kc ks y pc L (va_rf z :: va_rf x :: st) M Q := by
  intro p l e R s m args below meth c D cA A ad H locs cells slots Qm ls C h1 h2 h3 h4 V hL hS F
  have hi : x.map ad = z.map ad → x = z := by
    have g1 := hS.hd
    have g2 := hS.tl.hd
    cases x <;> cases z <;> intro h
    · rfl
    · cases h
    · cases h
    · exact congrArg some (ad_inj V g2 g1 (Option.some.inj h))
  show W p l e R s m args below meth c H locs cells slots Qm (F0 m pc ls (tr ad (va_rf z) :: tr ad (va_rf x) :: st.map (tr ad)))
  rw [tr_rf, tr_rf]
  exact lv_acmp_ne C.1 C.2.1 hd ht (fun q => (kt (fun e => q (by rw [e])) p l e R s m args below meth c D cA A ad H locs cells slots Qm ls C h1 h2 h3 h4 V hL hS.tl.tl F)) (fun q => (kf (hi q) p l e R s m args below meth c D cA A ad H locs cells slots Qm ls C h1 h2 h3 h4 V hL hS.tl.tl F))
theorem r_tblOut {dflt lo hi : Int} {offs : Array Int} {len : Nat} {x : Int32} {tgt : Nat} (hd : decode y.2.1 pc = .ok (.tableswitch dflt lo hi offs, len)) (h : x.toInt < lo ∨ hi < x.toInt) (ht : (pc : Int) + dflt = (tgt : Int)) (k : wp d kc ks y tgt L st M Q) : wp d kc ks y pc L (.int x :: st) M Q := by
  intro p l e R s m args below meth c D cA A ad H locs cells slots Qm ls C h1 h2 h3 h4 V hL hS F
  exact lv_tableOut C.1 C.2.1 hd h ht (k p l e R s m args below meth c D cA A ad H locs cells slots Qm ls C h1 h2 h3 h4 V hL hS.tl F)
theorem r_tblIn {dflt lo hi : Int} {offs : Array Int} {len : Nat} {x : Int32} {off : Int} {tgt : Nat} (hd : decode y.2.1 pc = .ok (.tableswitch dflt lo hi offs, len)) (g1 : ¬ x.toInt < lo) (g2 : ¬ hi < x.toInt) (ho : offs[(x.toInt - lo).toNat]? = some off) (ht : (pc : Int) + off = (tgt : Int)) (k : wp d kc ks y tgt L st M Q) : wp d kc ks y pc L (.int x :: st) M Q := by
  intro p l e R s m args below meth c D cA A ad H locs cells slots Qm ls C h1 h2 h3 h4 V hL hS F
  exact lv_tableIn C.1 C.2.1 hd g1 g2 ho ht (k p l e R s m args below meth c D cA A ad H locs cells slots Qm ls C h1 h2 h3 h4 V hL hS.tl F)
theorem r_lookup {dflt : Int} {ps : Array (Int × Int)} {len : Nat} {x : Int32} {off : Int} {tgt : Nat} (hd : decode y.2.1 pc = .ok (.lookupswitch dflt ps, len)) (hp : (ps.toList.zip (ps.toList.drop 1)).all (fun (a, next) => a.1 < next.1) = true) (ho : Op.lookupswitch.offset ps.toList dflt x.toInt = off) (ht : (pc : Int) + off = (tgt : Int)) (k : wp d kc ks y tgt L st M Q) : wp d kc ks y pc L (.int x :: st) M Q := by
  intro p l e R s m args below meth c D cA A ad H locs cells slots Qm ls C h1 h2 h3 h4 V hL hS F
  exact lv_lookup C.1 C.2.1 hd hp ho ht (k p l e R s m args below meth c D cA A ad H locs cells slots Qm ls C h1 h2 h3 h4 V hL hS.tl F)
theorem r_ret_i {v : Int32} (hd : decode y.2.1 pc = .ok (.ireturn, 1)) (hr : y.2.2.2 = some .int) (q : Q (some (.int v)) M) : wp d kc ks y pc L [.int v] M Q := by
  intro p l e R s m args below meth c D cA A ad H locs cells slots Qm ls C h1 h2 h3 h4 V hL hS F
  exact W.widen (Nat.le_add_right _ _) (Nat.le_add_right _ _) (F (some (.int v)) M pc ls ad H locs q (Nat.le_refl _) (fun _ _ => rfl) V (fun _ h => by cases h; trivial) ⟨hd, .int, hr, rfl⟩)
theorem r_ret_z {v : Int32} (hd : decode y.2.1 pc = .ok (.ireturn, 1)) (hr : y.2.2.2 = some .boolean) (hv : v = 0 ∨ v = 1) (q : Q (some (.int v)) M) : wp d kc ks y pc L [.int v] M Q := by
  intro p l e R s m args below meth c D cA A ad H locs cells slots Qm ls C h1 h2 h3 h4 V hL hS F
  exact W.widen (Nat.le_add_right _ _) (Nat.le_add_right _ _) (F (some (.int v)) M pc ls ad H locs q (Nat.le_refl _) (fun _ _ => rfl) V (fun _ h => by cases h; trivial) ⟨hd, .boolean, hr, by rcases hv with rfl | rfl <;> rfl⟩)
theorem r_ret_v (hd : decode y.2.1 pc = .ok (.return_, 1)) (hr : y.2.2.2 = none) (q : Q none M) : wp d kc ks y pc L [] M Q := by
  intro p l e R s m args below meth c D cA A ad H locs cells slots Qm ls C h1 h2 h3 h4 V hL hS F
  exact W.widen (Nat.le_add_right _ _) (Nat.le_add_right _ _) (F none M pc ls ad H locs q (Nat.le_refl _) (fun _ _ => rfl) V (fun _ h => by cases h) ⟨hd, hr⟩)
theorem r_ret_a {v : Nat} (hd : decode y.2.1 pc = .ok (.areturn, 1)) {rt : FieldType} (hr : y.2.2.2 = some rt) (hrt : (∃ n, rt = .object n) ∨ ∃ t, rt = .array t) (q : Q (some (.ref v)) M) : wp d kc ks y pc L [.ref v] M Q := by
  intro p l e R s m args below meth c D cA A ad H locs cells slots Qm ls C h1 h2 h3 h4 V hL hS F
  exact W.widen (Nat.le_add_right _ _) (Nat.le_add_right _ _) (F (some (.ref v)) M pc ls ad H locs q (Nat.le_refl _) (fun _ _ => rfl) V (fun _ h => by cases h; exact hS.hd) ⟨hd, Or.inr ⟨v, rfl⟩, rt, hr, hrt⟩)
theorem r_ret_aN (hd : decode y.2.1 pc = .ok (.areturn, 1)) {rt : FieldType} (hr : y.2.2.2 = some rt) (hrt : (∃ n, rt = .object n) ∨ ∃ t, rt = .array t) (q : Q (some .null) M) : wp d kc ks y pc L [.null] M Q := by
  intro p l e R s m args below meth c D cA A ad H locs cells slots Qm ls C h1 h2 h3 h4 V hL hS F
  exact W.widen (Nat.le_add_right _ _) (Nat.le_add_right _ _) (F (some .null) M pc ls ad H locs q (Nat.le_refl _) (fun _ _ => rfl) V (fun _ h => by cases h; trivial) ⟨hd, Or.inl rfl, rt, hr, hrt⟩)
end RULES
