/-! ===== house of the class as a contract that may throw ===== -/
def cPT (l : Launch) (D : va_G) (cA : Nat → ClassId) (ad : Nat → Nat) (sz : Nat) (As : List Value) (M : Mm) : Array Value → State → Prop :=
  va_Pc (As.map (tr ad)) (fun U => (U.heap.size = sz ∧ va_P D vwCl (wsO ad cA M) U.heap ∧ va_K D vwCl (tysO cA) U ∧ va_D (fun _ => True) (wsO ad cA M) ∧ XW U) ∧ TW l (va_A (wsO ad cA M) sz) U U.heap)
theorem cPT_blind {l : Launch} {D : va_G} {cA : Nat → ClassId} {ad : Nat → Nat} {sz : Nat} {As : List Value} {M : Mm} : FrameBlind (cPT l D cA ad sz As M) := by
  intro a U g mk q
  obtain ⟨q0, ⟨q1, qP, qK, qD, qX⟩, qT⟩ := q
  exact ⟨q0, ⟨q1, qP, va_K.moved (u := U) (U := U.calling g mk a) (Vm.Alike.refl U.vm) qK, qD, XW.same (u := U) (U := U.calling g mk a) rfl qX⟩, TW.same (u := U) (U := U.calling g mk a) rfl qT⟩
def cXh (D : va_G) (cA : Nat → ClassId) (ad : Nat → Nat) (sz : Nat) (M : Mm) (c0 : Prop) : String → State → State → Prop := fun E st t =>
  E = nE ∧ c0 ∧ ∃ ad' : Nat → Nat, (∀ id, id < mN M → ad' id = ad id) ∧ va_P D vwCl (wsO ad' cA M) t.heap ∧ va_D (va_A (wsO ad cA M) sz) (wsO ad' cA M) ∧ va_F (va_A (wsO ad cA M) sz) st t
def Rh (d : Nat) : Room := { frames := d, cells := 1, slots := 6, locals := 40 * d }
def hqQ (s : Sta) (I : Im) (G : Gm) (t h w : Int32) (r : Option Value) (M : Mm) : Prop := ∃ x, aHouse s t h w = some x ∧ r = some (.int x) ∧ M = (I, G)
set_option maxHeartbeats 1000000 in
set_option maxRecDepth 100000 in
theorem house_x {d : Nat} {I : Im} {G : Gm} {s : Sta} (hC : Ci s I G) {t h w : Int32} (l : Launch) (D : va_G) (cA : Nat → ClassId) (ad : Nat → Nat) (sz : Nat) (hSv : Sv (mN (I, G)) [.ref 0, .int t, .int h, .int w]) (hPv : ∀ id k a, mP (I, G) id k = some a → a < mN (I, G)) :
    vx_Met l YX9_house.1 (Cond.code YX9_house.1 YX9_house.2.1 YX9_house.2.2.1 YX9_house.2.2.2 :: gtb) (Rh (d + 8)) (cPT l D cA ad sz [.ref 0, .int t, .int h, .int w] (I, G)) (cQ D cA ad sz (I, G) (hqQ s I G t h w)) (cXh D cA ad sz (I, G) (aHouse s t h w = none)) 1 6 (va_A (wsO ad cA (I, G)) sz) := by
  cases hx : aHouse s t h w with
  | some x =>
    have g := (house_y (d := d + 5) hC hx).mono (Q' := hqQ s I G t h w) (fun r M' hq => ⟨x, hx, hq.1, hq.2⟩) l D cA ad sz hSv hPv
    intro p e ha hc hk s0 m args below hf hap hP hK
    obtain ⟨t0, o, a1, a2, a3, b1, b2⟩ := g p e ha hc hk s0 m args below hf hap ⟨hP.1, hP.2.1⟩ hK
    exact ⟨t0, o, a1, a2, a3, Or.inl ⟨b1, b2⟩⟩
  | none =>
    refine vx_ofW (cc := YX9_house.2.1) (maxL := YX9_house.2.2.1) (ret := YX9_house.2.2.2) (by decide) rfl ?_
    intro p e s0 m args below meth c s₁ B hml htab hv
    obtain ⟨rfl, ⟨hsz, hP, hK, hD0, hX⟩, hT⟩ := hv
    subst hsz
    have hts := atoms_spec (ws := Cond.code YX9_house.1 YX9_house.2.1 YX9_house.2.2.1 YX9_house.2.2.2 :: gtb) B.pre
    have hc1 : ∀ v ∈ ([.ref 0, .int t, .int h, .int w] : List Value), v.category = 1 := by simp [Value.category]
    have hc' : ∀ v ∈ ([.ref 0, .int t, .int h, .int w] : List Value).map (tr ad), v.category = 1 := fun z hz => by
      obtain ⟨x, hx, rfl⟩ := List.mem_map.mp hz
      rw [tr_cat]
      exact hc1 x hx
    have hl := lv_entry (([.ref 0, .int t, .int h, .int w] : List Value).map (tr ad)) (n := YX9_house.2.2.1) (by rw [lg_len1 _ hc', List.length_map]; exact Nat.le_of_ble_eq_true rfl)
    rw [lg_entry_eq]
    generalize (lg_sl (([.ref 0, .int t, .int h, .int w] : List Value).map (tr ad)) ++ List.replicate (YX9_house.2.2.1 - (lg_sl (([.ref 0, .int t, .int h, .int w] : List Value).map (tr ad))).length) Slot.unset).toArray = ls at hl ⊢
    have C : Cx p s0 m (([.ref 0, .int t, .int h, .int w] : List Value).map (tr ad)).toArray meth c YX9_house := ⟨B.exec, B.bytes, hml, B.returns, findClass_of_methodNamed B.named, fun w hw => hts w (List.mem_cons_of_mem _ hw), B.notSynchronized, fun h => (name_of_methodNamed B.named B.method).1.trans h, hX⟩
    have hlocks := B.notSynchronized
    have V : Iv s0 D cA (va_A (wsO ad cA (I, G)) s0.heap.size) ad (I, G) s0.heap s0.heap [] := ⟨hK, hP, hD0.self, va_S.rf, fun q h => Or.inr h, hPv⟩
    refine house_w (d := d) hC hx p l e _ s0 m _ below meth c D cA _ ad s0.heap [] 0 0 _ ls [] C ⟨rfl, hT⟩ (fun q hq => by cases hq) (by show d + 3 ≤ d + 8; omega) (by show 40 * (d + 3) ≤ 40 * (d + 8); omega) (Nat.zero_le _) (Nat.zero_le _) V (Lv.entry hc1 hSv hl) (fun v hv => by cases hv) ?_
    intro r M' pcF lsF ad' H' locs' q hn hag V' hok hszF hE
    obtain ⟨rfl, rfl⟩ := hE
    obtain rfl : M' = (I, G) := q
    obtain ⟨sa, hstr⟩ := hT.2.2.2.1
    refine vn_throwX (ix := 13) (rx := rxE) (by decide +kernel) (by decide +kernel) (by decide +kernel) (by decide +kernel) (cc := YX9_house.2.1) (pc := 30) C.1 C.2.1 hT.1 (own := RX9) (cls := nE) (text := tE) (names := upE) (ik := 106) (is := 108) (ic := 110) (sa := sa) (A := va_A (wsO ad cA (I, G)) s0.heap.size)
      C.2.2.2.2.1 (by decide +kernel) (by decide +kernel) (C.2.2.2.2.2.1 _ clE_106) (C.2.2.2.2.2.1 _ inE) hstr (vnE_at C.2.2.2.2.2.1 hT) vnE_ot hT.2.2.2.2.1 hT.2.2.2.2.2 V'.2.2.2.1 (hszF.trans hml.symm) dX9_house_30 dX9_house_33 dX9_house_34 dX9_house_36 dX9_house_39
      (fun x hx => (htab x hx).elim) (by show 5 < d + 8; omega) (by show 0 + (13 * (2 + 1) + 43) ≤ 40 * (d + 8); omega) (Nat.le_refl 1) (Nat.le_refl 6) hlocks ?_ V'.2.2.2.1.2.2 (Nat.le_refl 1) (Nat.le_refl 6)
    intro t0 _ hz hk
    refine ⟨rfl, rfl, ad', hag, V'.2.1.kept (fun k q hq => hk _ (V'.2.1 k q hq).lt), V'.2.2.1, Nat.le_trans V'.2.2.2.1.1 hz, fun q hq hA => ?_⟩
    rw [hk q (Nat.lt_of_lt_of_le hq V'.2.2.2.1.1)]
    exact V'.2.2.2.1.2.1 q hq hA
/-! ===== house of the law ===== -/
def PLh : PT := fun l A s c ex => ex = [] ∧ TW l A s s.heap ∧ c.exceptionTable.toList = tableOf hhL
def ELh (pc : Nat) (r : Option Value) : Prop := decode cL_house pc = .ok (.ireturn, 1) ∧ ∃ v, r = some (.int v)
def lhQ (s : Sta) (I : Im) (G : Gm) (t h w : Int32) (r : Option Value) (M : Mm) : Prop := (∃ x, aHouse s t h w = some x ∧ r = some (.int 0) ∧ M = wJ (I, G) 281 0 x.toInt64) ∨ (aHouse s t h w = none ∧ r = some (.int 1) ∧ M = (I, G))
theorem iv_in {s : State} {D : va_G} {cA : Nat → ClassId} {A : Nat → Prop} {ad : Nat → Nat} {M : Mm} {H : Heap} {locs : List Loc} (V : Iv s D cA A ad M s.heap H locs) : ∀ q, va_A (wsO ad cA M) H.size q → A q := by
  intro q hq
  rcases hq with ⟨k, x, hq⟩ | hq
  · exact V.2.2.1.2 k (q, x) hq
  · exact V.2.2.2.2.1 q (Nat.le_trans V.2.2.2.1.1 hq)
theorem iv_back {s : State} {D : va_G} {cA : Nat → ClassId} {A : Nat → Prop} {ad ad' : Nat → Nat} {M M' : Mm} {H H1 : Heap} {locs Lc : List Loc} {st₀ t : State} (V : Iv s D cA A ad M s.heap H locs) (h0 : st₀.heap = H) (e1 : H1 = t.heap) (hP : va_P D vwCl (wsO ad' cA M') t.heap) (hD : va_D (va_A (wsO ad cA M) H.size) (wsO ad' cA M')) (hPv : ∀ id k a, mP M' id k = some a → a < mN M') (hF : va_F (va_A (wsO ad cA M) H.size) st₀ t) (hL : ∀ q ∈ Lc, va_A (wsO ad cA M) H.size q.base) : Iv s D cA A ad' M' s.heap H1 (locs ++ Lc) := by
  have hAA := iv_in V
  obtain ⟨hz, hk⟩ := hF
  rw [h0] at hz hk
  refine ⟨V.1, by rw [e1]; exact hP, hD.weaken (fun _ q _ h => hAA q.1 h), ⟨Nat.le_trans V.2.2.2.1.1 (by rw [e1]; exact hz), fun q h1 h2 => ?_, fun q hq => ?_⟩, V.2.2.2.2.1, hPv⟩
  · rw [e1, hk q (Nat.lt_of_lt_of_le h1 V.2.2.2.1.1) (fun z => h2 (hAA q z))]
    exact V.2.2.2.1.2.1 q h1 h2
  · rcases List.mem_append.mp hq with h | h
    · exact V.2.2.2.1.2.2 q h
    · exact hAA _ (hL q h)
set_option maxHeartbeats 1000000 in
set_option maxRecDepth 100000 in
theorem lh_call {d kc ks : Nat} {I : Im} {G : Gm} {s : Sta} (hC : Ci s I G) {t h w : Int32} {Q : Option Value → Mm → Prop}
    (kr : ∀ x, aHouse s t h w = some x → wpS PLh ELh (d + 9) kc ks YL_house 10 [some (.ref 0), some (.int t), some (.int h), some (.int w), some (.ref 281), none] [.int x, .int 0, .ref 281] (I, G) Q)
    (kn : aHouse s t h w = none → wpS PLh ELh (d + 9) kc ks YL_house 17 [some (.ref 0), some (.int t), some (.int h), some (.int w), some (.ref 281), none] [] (I, G) Q) :
    wpS PLh ELh (d + 9) (1 + kc) (6 + ks) YL_house 7 [some (.ref 0), some (.int t), some (.int h), some (.int w), some (.ref 281), none] [.int w, .int h, .int t, .ref 0, .int 0, .ref 281] (I, G) Q := by
  intro p l e R s0 m args below meth c D cA A ad H locs cells slots Qm ls ex C hP hlx h1 h2 h3 h4 V hL hS F
  have hts := C.2.2.2.2.2.1
  obtain ⟨rfl, hT, htab⟩ := hP
  have ho : ob (I, G) 0 9 := c9_o hC.1.1
  have hSa : Sv (mN (I, G)) [.ref 0, .int t, .int h, .int w] := Sv.cons ho.1 (Sv.cons trivial (Sv.cons trivial (Sv.cons trivial (fun v hv => by cases hv))))
  have hSt : Sv (mN (I, G)) [.int 0, .ref 281] := hS.tl.tl.tl.tl
  have cb : CallB R s0 args YL_house.1.cls 7 YX9_house.1 YX9_house.2.1 YX9_house.2.2.1 YX9_house.2.2.2 (Cond.code YX9_house.1 YX9_house.2.1 YX9_house.2.2.1 YX9_house.2.2.2 :: gtb) (Rh (d + 8)) 1 6 3 := callB_of _ hts (gt_good lk_X9_house.1) rfl rfl rfl (hts _ lk_X9_house.2.1) (hts _ (ml_RL_7 (y := YL_house) rfl)) lk_X9_house.2.2.1 ⟨h1, by show 8 + (5 + 11) + 40 * (d + 8) ≤ R.locals; omega⟩
  have rn := vx_runV (As := ([.int t, .int h, .int w] : List Value).map (tr ad)) (rest := ([.int 0, .ref 281] : List Value).map (tr ad)) (g := F0 m 7 ls (([.int w, .int h, .int t, .ref 0, .int 0, .ref 281] : List Value).map (tr ad))) (cells := cells) (slots := slots) (locs := locs) (H := H) (below := below) (e := e) (p := p) (l := l) (meth := meth) (c := c) (m := m) (b := ad 0) (C := Cof 9) ⟨C.1, C.2.1, C.2.2.1, C.2.2.2.2.1, hts⟩ (house_x (d := d) hC (t := t) (h := h) (w := w) l D cA ad H.size hSa V.2.2.2.2.2) ⟨cb, hts _ im_X9_house, hts _ se_X9_house⟩
    ⟨cPT_blind, va_recv V.1 V.2.1 (cls_ok 9 (by decide)).1 (by rw [wsO_get ho.1, cel_o ho.2]), fun U hU hW => ⟨rfl, ⟨by rw [hU], by rw [hU]; exact V.2.1, va_K.moved hW.alike V.1, V.2.2.1.weaken (fun _ _ _ _ => trivial), XW.warm hW C.2.2.2.2.2.2.2.2⟩, TW.call hT hW (fun q g1 g2 => by rw [hU]; exact V.2.2.2.1.2.1 q g1 g2) (iv_in V)⟩⟩ rfl rfl hL.1 rfl (lv_room (by rw [cat_sum]; exact Nat.le_of_ble_eq_true rfl)) dL_house_7 ⟨by omega, by omega⟩
  intro T hTH X
  rcases rn T hTH X with ⟨v, st₀, t1, T', Lc, h0, X', hLc, e1, e2, ⟨⟨r, M', ad', hv, ⟨x, hx, rfl, rfl⟩, hn, hag, hP1, hD1, hPv1, hok⟩, hF⟩, st⟩ | ⟨q, st₀, t1, T', Lc, E1, ce, h0, X', hLc, e1, e2, ⟨rfl, hx, ad', hag, hP1, hD1, hF⟩, hce, hcv, hcl, st⟩
  · cases hv
    have V' := iv_back V h0 e1 hP1 hD1 hPv1 hF hLc
    obtain ⟨t2, a1, b1⟩ := call_kS (P := PLh) (E := ELh) (Q := Q) (d := d + 8) (kc1 := 1) (ks1 := 6) (kc := kc) (ks := ks) (pc := 7) (st := [.int 0, .ref 281]) (Q1 := hqQ s I G t h w) C ⟨rfl, hT, htab⟩ hlx h1 h2 h3 h4 hL hSt F (fun r M2 hq _ => by obtain ⟨x, hx, rfl, rfl⟩ := hq; exact kr x hx) (some (.int x)) (I, G) ad' T'.heap (locs ++ Lc) ⟨x, hx, rfl, rfl⟩ hn hag V' hok T' rfl X'
    exact ⟨t2, st t2 a1, b1⟩
  · have V' := iv_back V h0 e1 hP1 hD1 V.2.2.2.2.2 hF hLc
    have kW : W p l e R s0 m args below meth c T'.heap (locs ++ Lc) (cells + 1) (slots + 6) Qm (F0 m 15 ls [.ref q]) := by
      have hL' := hL.mono (Nat.le_refl _) hag
      refine lv_astore (i := 5) (nL := 6) (lv := lvl ad' [some (.ref 0), some (.int t), some (.int h), some (.int w), some (.ref 281), none]) C.1 C.2.1 dL_house_15 hL'.has (by decide) rfl (fun ls' h' => ?_)
      have hL2 : Lv ls' 6 ad' (mN (I, G)) [some (.ref 0), some (.int t), some (.int h), some (.int w), some (.ref 281), none] := by
        refine ⟨h'.1, h'.2.1, fun i v hv => ⟨h'.2.2 (i, tr ad' v) (List.mem_cons_of_mem _ (List.mem_filter.mpr ⟨lvl_mem.mpr ⟨v, hv, rfl⟩, ?_⟩)), (hL'.2.2 i v hv).2⟩⟩
        have hi5 : i ≠ 5 := fun z => by subst z; cases hv
        have e3 : (i == 5) = false := by simpa using hi5
        by_cases e4 : i + 1 = 5
        · have : i = 4 := by omega
          subst this
          cases hv
          rfl
        · have e5 : (i + 1 == 5) = false := by simpa using e4
          simp only [e3, e5]
          rfl
      have g := kn hx p l e R s0 m args below meth c D cA A ad' T'.heap (locs ++ Lc) (cells + 1) (slots + 6) Qm ls' [] C ⟨rfl, hT, htab⟩ (fun q hq => by cases hq) h1 h2 (by omega) (by omega) V' hL2 (fun v hv => by cases hv)
      rw [show cells + 1 + kc = cells + (1 + kc) by omega, show slots + 6 + ks = slots + (6 + ks) by omega] at g
      exact g (fun r2 M2 pcF lsF ad2 H2 locs2 a1 a2 a3 => F r2 M2 pcF lsF ad2 H2 locs2 a1 a2 (fun id hid => (a3 id hid).trans (hag id hid)))
    have cW := vx_catch (own := RL) (name := nE) (E := nE) (pc := 7) (ls := ls) (rest := ([.int 0, .ref 281] : List Value).map (tr ad)) (Q := Qm) C.2.2.2.2.1 [] ⟨0, 12, 15, 13⟩ [] (by rw [htab]; rfl) (fun z hz => by cases hz) (by decide) (by decide) (hts _ clE_13) (va_Nw.use rfl hT.2.2.1) (by rw [e1]; exact hce) hcv hcl kW
    obtain ⟨t2, a1, b1⟩ := cW T' rfl X'
    exact ⟨t2, st.trans a1, b1⟩

set_option maxHeartbeats 300000 in
set_option maxRecDepth 100000 in
theorem lh_walk {d : Nat} {I : Im} {G : Gm} {s : Sta} (hC : Ci s I G) (hO : ar (I, G) 281 4 1) {t h w : Int32} : wpS PLh ELh (d + 9) 1 6 YL_house 0 [some (.ref 0), some (.int t), some (.int h), some (.int w), some (.ref 281), none] [] (I, G) (lhQ s I G t h w) := by
  refine T_aload (pc := 0) dL_house_0 rfl ?_
  refine T_iconst (pc := 2) (v := 0) dL_house_2 (by decide) ?_
  refine T_aload_n (pc := 3) dL_house_3 rfl ?_
  refine T_iload_n (pc := 4) dL_house_4 rfl ?_
  refine T_iload_n (pc := 5) dL_house_5 rfl ?_
  refine T_iload_n (pc := 6) dL_house_6 rfl ?_
  refine lh_call (d := d) (kc := 0) (ks := 0) hC (fun x hx => ?_) (fun hx => ?_)
  · refine T_i2l (pc := 10) (x := x) dL_house_10 ?_
    refine T_last (pc := 11) (i := 0) dL_house_11 hO (vp_in_nI (n := 0) (by decide) (by decide)) ?_
    refine T_goto (pc := 12) (tgt := 19) dL_house_12 (by decide) ?_
    refine T_iconst (pc := 19) (v := 0) dL_house_19 (by decide) ?_
    exact T_end (pc := 20) (r := some (.int 0)) ⟨dL_house_20, _, rfl⟩ rfl (Or.inl ⟨x, hx, rfl, rfl⟩)
  · refine T_iconst (pc := 17) (v := 1) dL_house_17 (by decide) ?_
    exact T_end (pc := 18) (r := some (.int 1)) ⟨dL_house_18, _, rfl⟩ rfl (Or.inr ⟨hx, rfl, rfl⟩)
set_option maxHeartbeats 1000000 in
set_option maxRecDepth 100000 in
theorem lh_met {d : Nat} {I : Im} {G : Gm} {s : Sta} (hC : Ci s I G) (hO : ar (I, G) 281 4 1) {t h w : Int32} (l : Launch) (D : va_G) (cA : Nat → ClassId) (ad : Nat → Nat) (sz : Nat) (hSv : Sv (mN (I, G)) [.ref 0, .int t, .int h, .int w, .ref 281]) (hPv : ∀ id k a, mP (I, G) id k = some a → a < mN (I, G)) :
    Met l YL_house.1 (Cond.codeWith YL_house.1 YL_house.2.1 YL_house.2.2.1 YL_house.2.2.2 hhL :: gtb) (Rh (d + 9)) (cPT l D cA ad sz [.ref 0, .int t, .int h, .int w, .ref 281] (I, G)) (cQ D cA ad sz (I, G) (lhQ s I G t h w)) 1 6 (va_A (wsO ad cA (I, G)) sz) := by
  refine va_MetW (cc := YL_house.2.1) (maxL := YL_house.2.2.1) (ret := YL_house.2.2.2) (hh := hhL) (by decide) rfl ?_
  intro p e s0 m args below meth c s₁ B hml hv
  obtain ⟨rfl, ⟨hsz, hP, hK, hD0, hX⟩, hT⟩ := hv
  subst hsz
  have hts := atoms_spec (ws := Cond.codeWith YL_house.1 YL_house.2.1 YL_house.2.2.1 YL_house.2.2.2 hhL :: gtb) B.pre
  have htab : c.exceptionTable.toList = tableOf hhL := vx_table (x := yL_house) B (hts _ List.mem_cons_self)
  have hc1 : ∀ v ∈ ([.ref 0, .int t, .int h, .int w, .ref 281] : List Value), v.category = 1 := by simp [Value.category]
  have hc' : ∀ v ∈ ([.ref 0, .int t, .int h, .int w, .ref 281] : List Value).map (tr ad), v.category = 1 := fun z hz => by
    obtain ⟨x, hx, rfl⟩ := List.mem_map.mp hz
    rw [tr_cat]
    exact hc1 x hx
  have hl := lv_entry (([.ref 0, .int t, .int h, .int w, .ref 281] : List Value).map (tr ad)) (n := YL_house.2.2.1) (by rw [lg_len1 _ hc', List.length_map]; exact Nat.le_of_ble_eq_true rfl)
  rw [lg_entry_eq]
  generalize (lg_sl (([.ref 0, .int t, .int h, .int w, .ref 281] : List Value).map (tr ad)) ++ List.replicate (YL_house.2.2.1 - (lg_sl (([.ref 0, .int t, .int h, .int w, .ref 281] : List Value).map (tr ad))).length) Slot.unset).toArray = ls at hl ⊢
  have C : Cx p s0 m (([.ref 0, .int t, .int h, .int w, .ref 281] : List Value).map (tr ad)).toArray meth c YL_house := ⟨B.exec, B.bytes, hml, B.returns, findClass_of_methodNamed B.named, fun w hw => hts w (List.mem_cons_of_mem _ hw), B.notSynchronized, fun h => (name_of_methodNamed B.named B.method).1.trans h, hX⟩
  have hlocks := B.notSynchronized
  have V : Iv s0 D cA (va_A (wsO ad cA (I, G)) s0.heap.size) ad (I, G) s0.heap s0.heap [] := ⟨hK, hP, hD0.self, va_S.rf, fun q h => Or.inr h, hPv⟩
  refine lh_walk (d := d) hC hO p l e _ s0 m _ below meth c D cA _ ad s0.heap [] 0 0 _ ls [] C ⟨rfl, hT, htab⟩ (fun q hq => by cases hq) (Nat.le_refl _) (Nat.le_refl _) (Nat.le_refl _) (Nat.le_refl _) V (Lv.entry hc1 hSv hl) (fun v hv => by cases hv) ?_
  intro r M' pcF lsF ad' H' locs' q hn hag V' hok hszF hE
  obtain ⟨hE1, v, rfl⟩ := hE
  exact W.zret (v := v) C.1 C.2.1 C.2.2.2.1 rfl (fun t ht _ => ⟨⟨some (.int v), M', ad', rfl, q, hn, hag, by rw [ht]; exact V'.2.1, V'.2.2.1, V'.2.2.2.2.2, hok⟩, V'.2.2.2.1.F ht⟩) V'.2.2.2.1.2.2 hE1
/-! ===== the call of the law's house ===== -/
set_option maxHeartbeats 1000000 in
set_option maxRecDepth 100000 in
theorem T_callH {P : PT} {E : Nat → Option Value → Prop} {d kc ks pc : Nat} {L : List (Option Value)} {y : Yt} {I : Im} {G : Gm} {s : Sta} {Q : Option Value → Mm → Prop} (hPT : ∀ l A s c ex, P l A s c ex → TW l A s s.heap) (hC : Ci s I G) (hO : ar (I, G) 281 4 1) {t h w : Int32} (hd : decode y.2.1 pc = .ok (.invokestatic 38, 3)) (hy : y.1.cls = RL)
    (kk : ∀ r M', lhQ s I G t h w r M' → wpS P E (d + 10) kc ks y (pc + 3) L r.toList M' Q) : wpS P E (d + 10) (1 + kc) (6 + ks) y pc L [.ref 281, .int w, .int h, .int t, .ref 0] (I, G) Q := by
  intro p l e R s0 m args below meth c D cA A ad H locs cells slots Qm ls ex C hP hlx h1 h2 h3 h4 V hL hS F
  have hts := C.2.2.2.2.2.1
  have hT := hPT _ _ _ _ _ hP
  have ho : ob (I, G) 0 9 := c9_o hC.1.1
  have hSa : Sv (mN (I, G)) [.ref 0, .int t, .int h, .int w, .ref 281] := fun v hv => hS v (List.mem_reverse.mp hv)
  have hG : GoodIn gtb (va_wsS y.1.cls 38 yL_house (Cond.codeWith YL_house.1 YL_house.2.1 YL_house.2.2.1 YL_house.2.2.2 hhL :: gtb)) := by
    intro w hw
    have hw' : w ∈ gtb := by
      unfold va_wsS at hw
      simp only [List.cons_append, List.nil_append, List.mem_cons] at hw
      rcases hw with rfl | rfl | rfl | rfl | hw
      all_goals first | exact smL | exact inRL | exact cwL | exact ml_RL_38 hy | exact hw
    exact ⟨hw', good_of_word (List.mem_filter.mp hw').2⟩
  have cw : vx_CSW R s0 args y.1.cls 38 YL_house.1 YL_house.2.1 YL_house.2.2.1 YL_house.2.2.2 hhL (Cond.codeWith YL_house.1 YL_house.2.1 YL_house.2.2.1 YL_house.2.2.2 hhL :: gtb) (Rh (d + 9)) 1 6 5 := vx_cwSW 5 hts hG rfl rfl rfl ⟨by decide, by decide, by decide +kernel⟩ ⟨h1, by show 8 + (6 + 11) + 40 * (d + 9) ≤ R.locals; omega⟩
  have rn := vx_runSW (As := ([.ref 0, .int t, .int h, .int w, .ref 281] : List Value).map (tr ad)) (rest := []) (g := F0 m pc ls (([.ref 281, .int w, .int h, .int t, .ref 0] : List Value).map (tr ad))) (cells := cells) (slots := slots) (locs := locs) (H := H) (below := below) (e := e) (p := p) (l := l) (meth := meth) (c := c) (m := m) ⟨C.1, C.2.1, C.2.2.1, C.2.2.2.2.1, hts⟩ (lh_met (d := d) hC hO (t := t) (h := h) (w := w) l D cA ad H.size hSa V.2.2.2.2.2) cw
    ⟨cPT_blind, fun U hU hW => ⟨rfl, ⟨by rw [hU], by rw [hU]; exact V.2.1, va_K.moved hW.alike V.1, V.2.2.1.weaken (fun _ _ _ _ => trivial), XW.warm hW C.2.2.2.2.2.2.2.2⟩, TW.call hT hW (fun q g1 g2 => by rw [hU]; exact V.2.2.2.1.2.1 q g1 g2) (iv_in V)⟩⟩ rfl rfl hL.1 rfl (lv_room (Nat.zero_le _)) hd ⟨by omega, by omega⟩
  exact call_go (Q1 := lhQ s I G t h w) rn V (call_kS (st := []) C hP hlx h1 h2 h3 h4 hL (fun v hv => by cases hv) F (fun r M' hq _ => by rw [List.append_nil]; exact kk r M' hq))
