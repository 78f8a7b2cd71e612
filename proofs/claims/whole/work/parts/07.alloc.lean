/-! ===== rules of the instructions that make cells; contracts; calls ===== -/
def alM (M : Mm) (sh : Nat × Nat) : Mm := (va_up (mI M) (mN M) (fun _ => 0), va_up (mP M) (mN M) (fun _ => none), va_up (mJ M) (mN M) (fun _ => 0), va_up (mS M) (mN M) sh, mN M + 1)
theorem up_at {α : Type} {f : Nat → α} {k : Nat} {v : α} : va_up f k v k = v := by simp [va_up]
theorem up_ne {α : Type} {f : Nat → α} {k j : Nat} {v : α} (h : j ≠ k) : va_up f k v j = f j := by simp [va_up, h]
theorem map_ad {ad ad' : Nat → Nat} {n : Nat} (h : ∀ id, id < n → ad' id = ad id) {x : Option Nat} (hx : ∀ b, x = some b → b < n) : x.map ad' = x.map ad := by
  cases x with
  | none => rfl
  | some b => exact congrArg some (h b (hx b rfl))
theorem flv_ad {ad ad' : Nat → Nat} {n : Nat} (h : ∀ id, id < n → ad' id = ad id) {I : Nat → Int32} {P : Nat → Option Nat} (hP : ∀ k b, P k = some b → b < n) (c : Nat) : flv ad' I P c = flv ad I P c := by
  unfold flv
  apply List.map_congr_left
  intro k _
  rw [map_ad h (hP k)]
theorem cel_ad {ad ad' : Nat → Nat} {cA : Nat → ClassId} {M M' : Mm} {n j : Nat} (h : ∀ id, id < n → ad' id = ad id) (hP : ∀ id k b, mP M id k = some b → b < n) (e1 : mI M' j = mI M j) (e2 : mP M' j = mP M j) (e3 : mJ M' j = mJ M j) (e4 : mS M' j = mS M j) : cel ad' cA M' j = cel ad cA M j := by
  have e5 : (fun k => (mP M j k).map ad') = fun k => (mP M j k).map ad := funext fun k => map_ad h (hP j k)
  unfold cel
  rw [e1, e2, e3, e4, flv_ad h (hP j), e5]
theorem ad_up {ad : Nat → Nat} {n q : Nat} : ∀ id, id < n → va_up ad n q id = ad id := fun id h => up_ne (Nat.ne_of_lt h)
theorem alM_ok {M : Mm} {sh : Nat × Nat} (h : ∀ id k a, mP M id k = some a → a < mN M) : ∀ id k a, mP (alM M sh) id k = some a → a < mN (alM M sh) := by
  intro id k a ha
  have ha : va_up (mP M) (mN M) (fun _ => none) id k = some a := ha
  by_cases e : id = mN M
  · rw [e, up_at] at ha
    cases ha
  · rw [up_ne e] at ha
    exact Nat.lt_succ_of_lt (h id k a ha)
theorem Iv.push {M : Mm} {s : State} {D : va_G} {cA : Nat → ClassId} {A : Nat → Prop} {ad : Nat → Nat} {H0 H H1 : Heap} {locs locs1 : List Loc} {sh : Nat × Nat} {q : Nat} {x : va_E} (V : Iv s D cA A ad M H0 H locs) (hx : cel (va_up ad (mN M) q) cA (alM M sh) (mN M) = x)
    (g1 : va_P D vwCl (wsO ad cA M ++ [(q, x)]) H1) (g2 : va_D A (wsO ad cA M ++ [(q, x)])) (g3 : va_S A H0 H1 locs1) : Iv s D cA A (va_up ad (mN M) q) (alM M sh) H0 H1 locs1 := by
  have e : wsO ad cA M ++ [(q, x)] = wsO (va_up ad (mN M) q) cA (alM M sh) := wsO_push rfl hx (fun j hj => cel_ad ad_up V.2.2.2.2.2 (up_ne (Nat.ne_of_lt hj)) (up_ne (Nat.ne_of_lt hj)) (up_ne (Nat.ne_of_lt hj)) (up_ne (Nat.ne_of_lt hj)))
  rw [e] at g1 g2
  exact ⟨V.1, g1, g2, g3, V.2.2.2.2.1, alM_ok V.2.2.2.2.2⟩
theorem dfl_ok : ∀ ci, ci < 11 → ∀ j, j < nfl ci → defaultValue (Tyof ci j) = if isR ci j then .null else .int 0 := by decide +kernel
section ALLOC
variable {d kc ks : Nat} {y : Yt} {pc : Nat} {L L' : List (Option Value)} {st : List Value} {M : Mm} {Q : Option Value → Mm → Prop}
theorem r_new (ci idx : Nat) (hd : decode y.2.1 pc = .ok (.new idx, 3)) (hci : ci < 11) (hcl : Cond.classLink y.1.cls idx (Cof ci) ∈ gtb) (hinst : Cond.instantiable (Cof ci) (nfl ci) ∈ gtb) (hini : Cond.initialized (Cof ci) ∈ gtb) (kk : wp d kc ks y (pc + 3) L (.ref (mN M) :: st) (alM M (0, ci)) Q) : wp d (kc + 1) (ks + nfl ci) y pc L st M Q := by
  intro p l e R s m args below meth c D cA A ad H locs cells slots Qm ls C h1 h2 h3 h4 V hL hS F
  have ok := cls_ok ci hci
  have hts := C.2.2.2.2.2.1
  refine va_new (D := D) (ci := ci) (fs := flv ad (fun _ => 0) (fun _ => none) ci) C.1 C.2.1 hts ok.2.1 (Tyof ci) ok.2.2.1 C.2.2.2.2.1 (hts _ hcl) (hts _ hinst) (hts _ hini) V.1 V.2.1 V.2.2.1 V.2.2.2.1 V.2.2.2.2.1 ok.1 (fun j hj => ?_) (by omega) (by omega) hd (fun q H1 g1 g2 g3 => ?_)
  · rw [dfl_ok ci hci j hj]
    unfold vp_V
    rw [List.getD_eq_getElem?_getD, flv_get hj]
    rfl
  · have hx : cel (va_up ad (mN M) q) cA (alM M (0, ci)) (mN M) = .inr (ci, flv ad (fun _ => 0) (fun _ => none) ci) := by
      rw [cel_o (M := alM M (0, ci)) (ci := ci) (show mS (alM M (0, ci)) (mN M) = (0, ci) from up_at), show mI (alM M (0, ci)) (mN M) = fun _ => 0 from up_at, show mP (alM M (0, ci)) (mN M) = fun _ => none from up_at]
      exact congrArg (fun z => Sum.inr (ci, z)) (flv_ad (n := 0) (fun _ h => absurd h (Nat.not_lt_zero _)) (fun _ _ h => by cases h) ci)
    have e1 : cells + 1 + kc = cells + (kc + 1) := by omega
    have e2 : slots + nfl ci + ks = slots + (ks + nfl ci) := by omega
    have g := kk p l e R s m args below meth c D cA A (va_up ad (mN M) q) H1 locs (cells + 1) (slots + nfl ci) Qm ls C h1 h2 (by omega) (by omega) (V.push hx g1 g2 g3) (hL.mono (Nat.le_succ _) ad_up) ((hS.mono (Nat.le_succ _)).cons (Nat.lt_succ_self (mN M)))
    rw [List.map_cons, hS.map ad_up, e1, e2, show tr (va_up ad (mN M) q) (.ref (mN M)) = .ref q from congrArg Value.ref up_at] at g
    exact g (fun r M' pcF lsF ad' H' locs' a1 a2 a3 => F r M' pcF lsF ad' H' locs' a1 (Nat.le_trans (Nat.le_succ _) a2) (fun id hid => (a3 id (Nat.lt_succ_of_lt hid)).trans (ad_up id hid)))
theorem r_newa_g {n : Int32} {N : Nat} (t : Nat) (atype : ArrayType) (ty : FieldType) (a0 : vp_A) (hd : decode y.2.1 pc = .ok (.newarray atype, 2)) (hty : newarray.typeOf atype = ty) (htt : ∀ cA, (tysO cA)[t - 1]? = some (cA t, ty)) (hra : ∀ (U : State) (c : ClassId), va_RA U c ty → U.vm.findClass ("[" ++ ty.toString) = some c) (hw : Cond.arrayClass ty ∈ gtb) (ha : ∀ cA : ClassId, vp_cell cA a0 = arrV cA N (fun _ => defaultValue ty)) (hn : ¬ n < 0) (hN : n.toNatClampNeg = N) (hb : N * componentBytes ty ≤ 536870912)
    (hx : ∀ (ad : Nat → Nat) (cA : Nat → ClassId) (q : Nat), cel (va_up ad (mN M) q) cA (alM M (t, N)) (mN M) = .inl (cA t, a0)) (kk : wp d kc ks y (pc + 2) L (.ref (mN M) :: st) (alM M (t, N)) Q) : wp d (kc + 1) (ks + N) y pc L (.int n :: st) M Q := by
  intro p l e R s m args below meth c D cA A ad H locs cells slots Qm ls C h1 h2 h3 h4 V hL hS F
  have hts := C.2.2.2.2.2.1
  refine va_newa (D := D) C.1 C.2.1 (by rw [hty]; exact hts _ hw) hty V.1 V.2.1 V.2.2.1 V.2.2.2.1 V.2.2.2.2.1 ha hn hN hb (by omega) (by omega) hd (fun q cA' H1 gK g1 g2 g3 => ?_)
  have ec : cA' = cA t := by
    have b1 := hra s cA' (gK.2 6 (cA', ty) rfl).2
    have b2 := hra s (cA t) (V.1.2 (t - 1) _ (htt cA)).2
    exact Option.some.inj (b1.symm.trans b2)
  subst ec
  have e1 : cells + 1 + kc = cells + (kc + 1) := by omega
  have e2 : slots + N + ks = slots + (ks + N) := by omega
  have g := kk p l e R s m args below meth c D cA A (va_up ad (mN M) q) H1 locs (cells + 1) (slots + N) Qm ls C h1 h2 (by omega) (by omega) (V.push (hx ad cA q) g1 g2 g3) (hL.mono (Nat.le_succ _) ad_up) ((hS.tl.mono (Nat.le_succ _)).cons (Nat.lt_succ_self (mN M)))
  rw [List.map_cons, hS.tl.map ad_up, e1, e2, show tr (va_up ad (mN M) q) (.ref (mN M)) = .ref q from congrArg Value.ref up_at] at g
  exact g (fun r M' pcF lsF ad' H' locs' a1 a2 a3 => F r M' pcF lsF ad' H' locs' a1 (Nat.le_trans (Nat.le_succ _) a2) (fun id hid => (a3 id (Nat.lt_succ_of_lt hid)).trans (ad_up id hid)))
theorem aw_int : Cond.arrayClass .int ∈ gtb := gt_of 45 rfl rfl
theorem aw_byte : Cond.arrayClass .byte ∈ gtb := gt_of 861 (by decide +kernel) rfl
theorem aw_bool : Cond.arrayClass .boolean ∈ gtb := gt_of 983 (by decide +kernel) rfl
theorem aw_long : Cond.arrayClass .long ∈ gtb := gt_of 1343 (by decide +kernel) rfl
theorem al_i {t N : Nat} (ht : t = 1 ∨ t = 2 ∨ t = 3) (ad : Nat → Nat) (cA : Nat → ClassId) : cel ad cA (alM M (t, N)) (mN M) = .inl (cA t, N, .inl (fun _ => 0)) := by
  rw [cel_i (M := alM M (t, N)) t ht (show mS (alM M (t, N)) (mN M) = (t, N) from up_at), show mI (alM M (t, N)) (mN M) = fun _ => 0 from up_at]
theorem r_newI {n : Int32} {N : Nat} (hd : decode y.2.1 pc = .ok (.newarray .int, 2)) (hn : ¬ n < 0) (hN : n.toNatClampNeg = N) (hb : N * 4 ≤ 536870912) (kk : wp d kc ks y (pc + 2) L (.ref (mN M) :: st) (alM M (1, N)) Q) : wp d (kc + 1) (ks + N) y pc L (.int n :: st) M Q :=
  r_newa_g 1 .int .int (N, .inl (fun _ => 0)) hd rfl (fun _ => rfl) (fun _ _ h => h) aw_int (fun _ => rfl) hn hN hb (fun ad cA q => al_i (by decide) _ cA) kk
theorem r_newB {n : Int32} {N : Nat} (hd : decode y.2.1 pc = .ok (.newarray .byte, 2)) (hn : ¬ n < 0) (hN : n.toNatClampNeg = N) (hb : N * 1 ≤ 536870912) (kk : wp d kc ks y (pc + 2) L (.ref (mN M) :: st) (alM M (2, N)) Q) : wp d (kc + 1) (ks + N) y pc L (.int n :: st) M Q :=
  r_newa_g 2 .byte .byte (N, .inl (fun _ => 0)) hd rfl (fun _ => rfl) (fun _ _ h => h) aw_byte (fun _ => rfl) hn hN hb (fun ad cA q => al_i (by decide) _ cA) kk
theorem r_newZ {n : Int32} {N : Nat} (hd : decode y.2.1 pc = .ok (.newarray .boolean, 2)) (hn : ¬ n < 0) (hN : n.toNatClampNeg = N) (hb : N * 1 ≤ 536870912) (kk : wp d kc ks y (pc + 2) L (.ref (mN M) :: st) (alM M (3, N)) Q) : wp d (kc + 1) (ks + N) y pc L (.int n :: st) M Q :=
  r_newa_g 3 .boolean .boolean (N, .inl (fun _ => 0)) hd rfl (fun _ => rfl) (fun _ _ h => h) aw_bool (fun _ => rfl) hn hN hb (fun ad cA q => al_i (by decide) _ cA) kk
theorem r_newJ {n : Int32} {N : Nat} (hd : decode y.2.1 pc = .ok (.newarray .long, 2)) (hn : ¬ n < 0) (hN : n.toNatClampNeg = N) (hb : N * 8 ≤ 536870912) (kk : wp d kc ks y (pc + 2) L (.ref (mN M) :: st) (alM M (4, N)) Q) : wp d (kc + 1) (ks + N) y pc L (.int n :: st) M Q :=
  r_newa_g 4 .long .long (N, .inr (.inl (fun _ => 0))) hd rfl (fun _ => rfl) (fun _ _ h => h) aw_long (fun _ => rfl) hn hN hb (fun ad cA q => by
    rw [cel_j (M := alM M (4, N)) (show mS (alM M (4, N)) (mN M) = (4, N) from up_at), show mJ (alM M (4, N)) (mN M) = fun _ => 0 from up_at]) kk
theorem r_anew {n : Int32} {N : Nat} (idx : Nat) (hd : decode y.2.1 pc = .ok (.anewarray idx, 3)) (hcl : Cond.classLink y.1.cls idx "PriceUpon$Trade" ∈ gtb) (hn : ¬ n < 0) (hN : n.toNatClampNeg = N) (hb : N * 4 ≤ 536870912) (kk : wp d kc ks y (pc + 3) L (.ref (mN M) :: st) (alM M (5, N)) Q) : wp d (kc + 1) (ks + N) y pc L (.int n :: st) M Q := by
  intro p l e R s m args below meth c D cA A ad H locs cells slots Qm ls C h1 h2 h3 h4 V hL hS F
  have hts := C.2.2.2.2.2.1
  refine va_newq (D := D) C.1 C.2.1 C.2.2.2.2.1 (hts _ hcl) C.2.2.2.2.2.2.2.2.2.1 V.1 V.2.1 V.2.2.1 V.2.2.2.1 V.2.2.2.2.1 hn hN hb (by omega) (by omega) hd (fun q cA' H1 gK g1 g2 g3 => ?_)
  have ec : cA' = cA 5 := by
    obtain ⟨_, _, _, _, _, b1⟩ := (gK.2 6 (cA', .object "PriceUpon$Trade") rfl).2
    obtain ⟨_, _, _, _, _, b2⟩ := (V.1.2 4 _ rfl).2
    exact Option.some.inj (b1.symm.trans b2)
  subst ec
  have hx : cel (va_up ad (mN M) q) cA (alM M (5, N)) (mN M) = .inl (cA 5, N, .inr (.inr (.inr (.inr (fun _ => none))))) := by
    rw [cel_r (M := alM M (5, N)) 5 (by decide) (show mS (alM M (5, N)) (mN M) = (5, N) from up_at), show mP (alM M (5, N)) (mN M) = fun _ => none from up_at]
    rfl
  have e1 : cells + 1 + kc = cells + (kc + 1) := by omega
  have e2 : slots + N + ks = slots + (ks + N) := by omega
  have g := kk p l e R s m args below meth c D cA A (va_up ad (mN M) q) H1 locs (cells + 1) (slots + N) Qm ls C h1 h2 (by omega) (by omega) (V.push hx g1 g2 g3) (hL.mono (Nat.le_succ _) ad_up) ((hS.tl.mono (Nat.le_succ _)).cons (Nat.lt_succ_self (mN M)))
  rw [List.map_cons, hS.tl.map ad_up, e1, e2, show tr (va_up ad (mN M) q) (.ref (mN M)) = .ref q from congrArg Value.ref up_at] at g
  exact g (fun r M' pcF lsF ad' H' locs' a1 a2 a3 => F r M' pcF lsF ad' H' locs' a1 (Nat.le_trans (Nat.le_succ _) a2) (fun id hid => (a3 id (Nat.lt_succ_of_lt hid)).trans (ad_up id hid)))
end ALLOC
/-- an array of N arrays of K ints: the outer one, then the rows -/
def alR (M : Mm) (N K : Nat) : Mm :=
  (fun a => if a < mN M then mI M a else fun _ => 0, fun a => if a < mN M then mP M a else if a = mN M then (fun k => if k < N then some (mN M + 1 + k) else none) else fun _ => none, fun a => if a < mN M then mJ M a else fun _ => 0, fun a => if a < mN M then mS M a else if a = mN M then (6, N) else (1, K), mN M + 1 + N)
def adR (ad : Nat → Nat) (n q : Nat) (r : Nat → Nat) : Nat → Nat := fun id => if id < n then ad id else if id = n then q else r (id - (n + 1))
theorem adR_lt {ad : Nat → Nat} {n q : Nat} {r : Nat → Nat} : ∀ id, id < n → adR ad n q r id = ad id := fun id h => by simp [adR, h]
theorem wsO_rows {ad : Nat → Nat} {cA : Nat → ClassId} {M : Mm} {N K q : Nat} {r : Nat → Nat} {f : Nat → va_E} (hP : ∀ id k a, mP M id k = some a → a < mN M) : ((wsO ad cA M ++ [(q, .inl (cA 6, N, .inr (.inr (.inr (.inr (fun i => if i < N then some (r i) else none))))))]) ++ va_pl ([] ++ (List.range N).map r) (vr_up f ([] ++ (List.range N).map r) (.inl (cA 1, K, .inl (fun _ => 0))))) = wsO (adR ad (mN M) q r) cA (alR M N K) := by
  have e0 : mN (alR M N K) = mN M + 1 + N := rfl
  unfold wsO
  rw [e0, List.range_add, List.range_succ, List.map_append, List.map_append, List.map_singleton]
  have a1 : ∀ j, j < mN M → cel (adR ad (mN M) q r) cA (alR M N K) j = cel ad cA M j := fun j hj => cel_ad adR_lt hP (by simp [alR, mI, mN, hj]) (by simp [alR, mP, mN, hj]) (by simp [alR, mJ, mN, hj]) (by simp [alR, mS, mN, hj])
  have a2 : cel (adR ad (mN M) q r) cA (alR M N K) (mN M) = .inl (cA 6, N, .inr (.inr (.inr (.inr (fun i => if i < N then some (r i) else none))))) := by
    rw [cel_r (M := alR M N K) (n := N) 6 (by decide) (by simp [alR, mS, mN])]
    have : (fun k => (mP (alR M N K) (mN M) k).map (adR ad (mN M) q r)) = fun i => if i < N then some (r i) else none := by
      funext k
      show Option.map _ ((if mN M < mN M then mP M (mN M) else if mN M = mN M then (fun k => if k < N then some (mN M + 1 + k) else none) else fun _ => none) k) = _
      rw [if_neg (Nat.lt_irrefl _), if_pos rfl]
      by_cases hk : k < N
      · simp only [hk, if_true, Option.map_some]
        unfold adR
        rw [if_neg (by omega), if_neg (by omega), show mN M + 1 + k - (mN M + 1) = k by omega]
      · simp [hk]
    rw [this]
  have a3 : ∀ i, i < N → cel (adR ad (mN M) q r) cA (alR M N K) (mN M + 1 + i) = .inl (cA 1, K, .inl (fun _ => 0)) := by
    intro i hi
    have z1 : ¬ mN M + 1 + i < mN M := by omega
    have z2 : ¬ mN M + 1 + i = mN M := by omega
    rw [cel_i (M := alR M N K) (n := K) 1 (by decide) (by show (if _ then _ else _) = _; rw [if_neg z1, if_neg z2])]
    rw [show mI (alR M N K) (mN M + 1 + i) = fun _ => 0 from if_neg z1]
  congr 1
  · congr 1
    · apply List.map_congr_left
      intro j hj
      have hj := List.mem_range.mp hj
      rw [a1 j hj, adR_lt j hj]
    · rw [a2]
      simp [adR]
  · unfold va_pl
    rw [List.nil_append, List.map_map, List.map_map]
    apply List.map_congr_left
    intro i hi
    have hi' := List.mem_range.mp hi
    show (r i, vr_up f ((List.range N).map r) (.inl (cA 1, K, .inl (fun _ => 0))) (r i)) = (adR ad (mN M) q r (mN M + 1 + i), cel (adR ad (mN M) q r) cA (alR M N K) (mN M + 1 + i))
    rw [a3 i hi', vr_up_in (List.mem_map.mpr ⟨i, hi, rfl⟩)]
    unfold adR
    rw [if_neg (by omega), if_neg (by omega), show mN M + 1 + i - (mN M + 1) = i by omega]
theorem alR_ok {M : Mm} {N K : Nat} (h : ∀ id k a, mP M id k = some a → a < mN M) : ∀ id k a, mP (alR M N K) id k = some a → a < mN (alR M N K) := by
  intro id k a ha
  have e0 : mN (alR M N K) = mN M + 1 + N := rfl
  rw [e0]
  have ha : (if id < mN M then mP M id else if id = mN M then (fun k => if k < N then some (mN M + 1 + k) else none) else fun _ => none) k = some a := ha
  split at ha
  · have := h id k a ha
    omega
  · split at ha
    · simp only at ha
      split at ha
      · cases ha
        omega
      · cases ha
    · cases ha
theorem r_mna {d kc ks : Nat} {y : Yt} {pc : Nat} {L : List (Option Value)} {st : List Value} {M : Mm} {Q : Option Value → Mm → Prop} {n k : Int32} {N K : Nat} (idx : Nat) (hd : decode y.2.1 pc = .ok (.multianewarray idx 2, 4)) (hcl : Cond.classLink y.1.cls idx "[[I" ∈ gtb) (hn : ¬ n < 0) (hk : ¬ k < 0) (hN : n.toNatClampNeg = N) (hK : k.toNatClampNeg = K) (hb1 : N * 4 ≤ 536870912) (hb2 : K * 4 ≤ 536870912)
    (kk : wp d kc ks y (pc + 4) L (.ref (mN M) :: st) (alR M N K) Q) : wp d (kc + (1 + N)) (ks + (N + N * K)) y pc L (.int k :: .int n :: st) M Q := by
  intro p l e R s m args below meth c D cA A ad H locs cells slots Qm ls C h1 h2 h3 h4 V hL hS F
  have hts := C.2.2.2.2.2.1
  have hcy : s.vm.findClass (FieldType.array .int).toString = some (cA 1) := (V.1.2 0 _ rfl).2
  refine va_mna (D := D) (X := wsO ad cA M) (L := []) (f := fun _ => .inr (0, [])) (ty := .int) (z := (K, .inl (fun _ => 0))) C.1 C.2.1 C.2.2.2.2.1 (hts _ hcl) C.2.2.2.2.2.2.2.2.2.2 (hts _ aw_int) hcy V.1 (by rw [show va_pl [] (fun _ => .inr (0, [])) = ([] : va_W) from rfl, List.append_nil]; exact V.2.1) (by rw [show va_pl [] (fun _ => .inr (0, [])) = ([] : va_W) from rfl, List.append_nil]; exact V.2.2.1) V.2.2.2.1 V.2.2.2.2.1 hn hk hN hK hb1 hb2 (by omega) rfl rfl (by omega) (by omega) (fun c => ?_) hd (fun q r cA' H1 _ _ gK g1 g2 g3 => ?_)
  · show ({ cls := c, slots := Array.replicate K (.int 0), vm := .none } : Cell) = arrV c K (fun _ => .int 0)
    rw [arrV_new]
  have ec : cA' = cA 6 := by
    have b1 : s.vm.findClass ("[" ++ (FieldType.array .int).toString) = some cA' := (gK.2 6 (cA', .array .int) rfl).2
    have b2 : s.vm.findClass ("[" ++ (FieldType.array .int).toString) = some (cA 6) := (V.1.2 5 _ rfl).2
    exact Option.some.inj (b1.symm.trans b2)
  subst ec
  have ew := wsO_rows (ad := ad) (cA := cA) (N := N) (K := K) (q := q) (r := r) (f := fun _ => .inr (0, [])) V.2.2.2.2.2
  rw [List.nil_append] at ew
  rw [List.nil_append, ew] at g1 g2
  have V' : Iv s D cA A (adR ad (mN M) q r) (alR M N K) s.heap H1 locs := ⟨V.1, g1, g2, g3, V.2.2.2.2.1, alR_ok V.2.2.2.2.2⟩
  have e0 : mN (alR M N K) = mN M + 1 + N := rfl
  have hle : mN M ≤ mN (alR M N K) := by omega
  have g := kk p l e R s m args below meth c D cA A (adR ad (mN M) q r) H1 locs (cells + 1 + N) (slots + N + N * K) Qm ls C h1 h2 (by omega) (by omega) V' (hL.mono hle adR_lt) ((hS.tl.tl.mono hle).cons (show mN M < mN (alR M N K) by omega))
  rw [List.map_cons, hS.tl.tl.map adR_lt, show cells + 1 + N + kc = cells + (kc + (1 + N)) by omega, show slots + N + N * K + ks = slots + (ks + (N + N * K)) by omega, show tr (adR ad (mN M) q r) (.ref (mN M)) = .ref q from congrArg Value.ref (by simp [adR])] at g
  exact g (fun r' M' pcF lsF ad' H' locs' a1 a2 a3 => F r' M' pcF lsF ad' H' locs' a1 (Nat.le_trans hle a2) (fun id hid => (a3 id (Nat.lt_of_lt_of_le hid hle)).trans (adR_lt id hid)))
