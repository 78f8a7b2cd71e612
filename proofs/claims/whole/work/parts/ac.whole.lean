/-! THE CLAIM OUT OF ONE WALK OF THE LAW'S BODY. Your part is whole_start (and what it stands on); all else here is the same for every law, but numbers. -/
def R_law : String := "PriceUponLaw"
def lw_P (b : Addr) (xs : List Int32) (args : Array Value) (s : State) : Prop := args = #[.ref b] ∧ s.IntsAt b xs ∧ xs.length ≤ 3584 ∧ (Jvm.Cond.and given_1 narrow_1).before args s = true
def lw_Q (_ : Array Value) (s : State) (o : Outcome) (t : State) : Prop := o = .returned (some (.int 1)) ∧ Framed s o t [] 601024 7293034
def lw_Z (below : List Frame) (a : Array Value) (s : State) : State → Prop := fun t => ∃ o, t.status = .running ∧ Ended t below o ∧ lw_Q a s o t
/-- the law's own end, with 1 on the stack, nothing written that was there before, its room as the claim has it -/
theorem lw_ret {p : Program} {l : Launch} {e : Env} {s : State} {m : MethodId} {below : List Frame} {meth : Method} {c : Code} {b : Nat} (hx : p.tables.exec = Jvm.exec) (hb : c.code = code) (hr : meth.sig.returnType = ret) (hlocks : meth.locks = false) {pc : Nat} {H : Heap} {ls : Array Slot} (hdg : decode code pc = .ok (.ireturn, 1)) : W p l e room_1 s m #[Value.ref b] below meth c H [] 601024 7293034 (lw_Z below #[Value.ref b] s) (F0 m pc ls [.int 1]) := by
  intro T hT X
  obtain ⟨fs, hret, hrun, hended, hW, hframe⟩ := X.leave (v := some (.int 1)) (hlocks := hlocks) (fun h => by rw [hr] at h; cases h)
  have hmeth' : T.vm.method? m = some meth := X.method'
  refine ⟨T.setFrames fs, ?_, .returned (some (.int 1)), hrun, hended, rfl, ⟨_, rfl⟩, hW, hframe⟩
  jvm_step X.here [X.here.top, hx, hb, hdg, hmeth', hr, ret, narrow_b1]
  (try refine ⟨rfl, ?_⟩); (try refine ⟨rfl, ?_⟩)
  first | (intro acts; rw [hret _ acts rfl rfl rfl]) | rw [hret _ _ rfl rfl rfl]
  exact Steps.refl _
/-- what holds at the law's entry: the machine, the code, the tables' words (any of lw_tbl by 'hts w (by decide +kernel)'), the script of L ints xs at the cell b, what the Statement gives of the start (any of its parts by flat_of_before) -/
def lw_At (p : Program) (s : State) (m : MethodId) (meth : Method) (c : Code) (b L : Nat) (xs : Nat → Int32) : Prop :=
  p.tables.exec = Jvm.exec ∧ c.code = code ∧ meth.sig.returnType = ret ∧ c.maxLocals = 7 ∧ s.vm.findClass R_law = some m.cls ∧ (∀ w ∈ lw_tbl, w.before #[Value.ref b] s = true) ∧ va_X b L xs s s.heap ∧ b < s.heap.size ∧ meth.locks = false ∧ (Jvm.Cond.and given_1 narrow_1).before #[Value.ref b] s = true
/-! ===== the start: what the tables and the premises give ===== -/
theorem tb_g {w : Cond} (h : w ∈ gtb) : w ∈ lw_tbl := (List.mem_filter.mp h).1
theorem tb_of {w : Cond} (i : Nat) (h : tables_1[i]? = some w) : w ∈ lw_tbl := List.mem_append_right _ (List.mem_of_getElem? h)
theorem st_nl : ∀ q ∈ nlk, Cond.methodLinkNest q.1 q.2.1 q.2.2 "PriceUpon" ∈ lw_tbl := List.forall_mem_cons.mpr ⟨tb_of 27 (by decide +kernel), List.forall_mem_cons.mpr ⟨tb_of 49 (by decide +kernel), List.forall_mem_cons.mpr ⟨tb_of 57 (by decide +kernel), List.forall_mem_cons.mpr ⟨tb_of 171 (by decide +kernel), List.forall_mem_cons.mpr ⟨tb_of 174 (by decide +kernel), List.forall_mem_cons.mpr ⟨tb_of 179 (by decide +kernel), List.forall_mem_cons.mpr ⟨tb_of 229 (by decide +kernel), List.forall_mem_cons.mpr ⟨tb_of 239 (by decide +kernel), List.forall_mem_cons.mpr ⟨tb_of 260 (by decide +kernel), List.forall_mem_cons.mpr ⟨tb_of 285 (by decide +kernel), List.forall_mem_cons.mpr ⟨tb_of 299 (by decide +kernel), List.forall_mem_cons.mpr ⟨tb_of 505 (by decide +kernel), List.forall_mem_cons.mpr ⟨tb_of 513 (by decide +kernel), List.forall_mem_cons.mpr ⟨tb_of 617 (by decide +kernel), List.forall_mem_cons.mpr ⟨tb_of 702 (by decide +kernel), fun _ h => absurd h List.not_mem_nil⟩⟩⟩⟩⟩⟩⟩⟩⟩⟩⟩⟩⟩⟩⟩
theorem st_xw {s : State} {a : Array Value} (hts : ∀ w ∈ lw_tbl, w.before a s = true) : XW s :=
  ⟨fun q hq => va_Nw.of rfl (hts _ (st_nl q hq)), va_AO.of (hts _ (tb_of 47 (by decide +kernel))), va_AOA.of (hts _ (tb_of 54 (by decide +kernel)))⟩
theorem st_nd : ∀ x ∈ nD, Cond.declares x ∈ lw_tbl := List.forall_mem_cons.mpr ⟨tb_of 800 (by decide +kernel), List.forall_mem_cons.mpr ⟨tb_of 802 (by decide +kernel), List.forall_mem_cons.mpr ⟨tb_of 804 (by decide +kernel), fun _ h => absurd h List.not_mem_nil⟩⟩⟩
theorem st_tw {l : Launch} {s : State} {b : Nat} (hl : l.stackTraces = false) (hts : ∀ w ∈ lw_tbl, w.before #[Value.ref b] s = true) (hgv : (Jvm.Cond.and given_1 narrow_1).before #[Value.ref b] s = true) : TW l (fun q => s.heap.size ≤ q) s s.heap := by
  have hs := flat_of_before _ hgv
  have hA : ∀ a : Nat, a < s.heap.size → ¬ (fun q : Nat => s.heap.size ≤ q) a := fun a h => Nat.not_le.mpr h
  have hini : (Cond.initialized Bundle.tN).before #[Value.ref b] s = true := hts _ (tb_of 12 (by decide +kernel))
  refine ⟨hl, fun x hx => va_Nw.of rfl (hts _ (st_nd x hx)), va_Nw.of rfl (hts _ (tb_of 798 (by decide +kernel))), ?_, vx_Zqof (hts _ (tb_of 823 (by decide +kernel))) hini (hs _ (by decide +kernel)) hA, vx_Zqof (hts _ (tb_of 825 (by decide +kernel))) hini (hs _ (by decide +kernel)) hA⟩
  have h1 : (Cond.stringRef RX9 108 tE).before #[Value.ref b] s = true := hts _ (tb_of 835 (by decide +kernel))
  obtain ⟨c9, k9, hf9, -⟩ := Cond.instantiable_spec (hts _ (tb_g it_X9))
  obtain ⟨k, cf, i, a, hk, hcf, hcp, -, hr, hev⟩ := Cond.stringRef_spec hf9 h1
  exact ⟨a, vk_R.of h1 hev⟩
theorem st_it : ∀ c, c < 11 → Cond.instantiable (Cof c) (nfl c) ∈ gtb := fun c h => match c, h with
  | 0, _ => it_X0
  | 1, _ => it_X1
  | 2, _ => it_X2
  | 3, _ => it_X3
  | 4, _ => it_X4
  | 5, _ => it_X5
  | 6, _ => it_X6
  | 7, _ => it_X7
  | 8, _ => it_X8
  | 9, _ => it_X9
  | 10, _ => it_X10
theorem st_k1 {s : State} {a : Array Value} (hts : ∀ w ∈ gtb, w.before a s = true) : ∃ D : va_G, ∀ (c : Nat) (q : vw_C), vwCl[c]? = some q → u_Kn s q.1 q.2.1 q.2.2 (D.1 c) (D.2 c) := by
  have h : ∀ c, ∃ p : ClassId × (Nat → Nat), ∀ q : vw_C, vwCl[c]? = some q → u_Kn s q.1 q.2.1 q.2.2 p.1 p.2 := fun c => by
    by_cases hc : c < 11
    · have ok := cls_ok c hc
      obtain ⟨cC, iS, hk⟩ := u_known (C := Cof c) (T := Tof c) (N := nfl c) (n := nfl c) hts ok.2.1 (hts _ (st_it c hc))
      exact ⟨(cC, iS), fun q hq => by rw [ok.1] at hq; cases hq; exact hk⟩
    · refine ⟨(0, fun _ => 0), fun q hq => ?_⟩
      have := (List.getElem?_eq_some_iff.mp hq).1
      exact absurd (show c < 11 from this) hc
  exact ⟨(fun c => (Classical.choose (h c)).1, fun c => (Classical.choose (h c)).2), fun c q hq => Classical.choose_spec (h c) q hq⟩
theorem st_ar {s : State} {a : Array Value} {ty : FieldType} (hr : ∀ c, va_RA s c ty = (s.vm.findClass ("[" ++ ty.toString) = some c)) (h : (Cond.arrayClass ty).before a s = true) : ∃ c, ArrOfT s c ty ∧ va_RA s c ty := by
  obtain ⟨c, k, comp, h1, h2, h3⟩ := Cond.arrayClass_spec h
  exact ⟨c, fun N z => ⟨(fun q hq => by cases hq), k, h2, comp, h3⟩, by rw [hr]; exact h1⟩
theorem st_k2 {s : State} {a : Array Value} (hts : ∀ w ∈ lw_tbl, w.before a s = true) : ∃ cA : Nat → ClassId, ∀ (k : Nat) (q : ClassId × FieldType), (tysO cA)[k]? = some q → ArrOfT s q.1 q.2 ∧ va_RA s q.1 q.2 := by
  obtain ⟨c1, h1⟩ := st_ar (s := s) (ty := .int) (fun _ => rfl) (hts _ (tb_g aw_int))
  obtain ⟨c2, h2⟩ := st_ar (s := s) (ty := .byte) (fun _ => rfl) (hts _ (tb_g aw_byte))
  obtain ⟨c3, h3⟩ := st_ar (s := s) (ty := .boolean) (fun _ => rfl) (hts _ (tb_g aw_bool))
  obtain ⟨c4, h4⟩ := st_ar (s := s) (ty := .long) (fun _ => rfl) (hts _ (tb_g aw_long))
  obtain ⟨p5, c5, k5, f1, -, f2, f3, f4⟩ := Cond.arrayOver_spec (n := "PriceUpon$Trade") (hts _ (tb_of 47 (by decide +kernel)))
  obtain ⟨p6, c6, k6, -, g2, g3, g4⟩ := Cond.arrayOver_specA (t := .int) (hts _ (tb_of 54 (by decide +kernel)))
  refine ⟨fun k => match k with | 1 => c1 | 2 => c2 | 3 => c3 | 4 => c4 | 5 => c5 | _ => c6, fun k q hq => ?_⟩
  match k, hq with
  | 0, hq => cases hq; exact h1
  | 1, hq => cases hq; exact h2
  | 2, hq => cases hq; exact h3
  | 3, hq => cases hq; exact h4
  | 4, hq => cases hq; exact ⟨fun N z => ⟨(fun q hq => by cases hq), k5, f2, p5, f3⟩, k5, p5, f2, f3, f1, f4⟩
  | 5, hq => cases hq; exact ⟨fun N z => ⟨(fun q hq => by cases hq), k6, g2, p6, g3⟩, g4⟩
  | k + 6, hq => simp [tysO] at hq
set_option maxHeartbeats 1000000 in
set_option maxRecDepth 100000 in
theorem whole_start {p : Program} {e : Env} {s : State} {m : MethodId} {below : List Frame} {meth : Method} {c : Code} (l : Launch) (hst : l.stackTraces = false) {b L : Nat} {xs : Nat → Int32} (hL : L ≤ 3584) (C0 : lw_At p s m meth c b L xs) : W p l e room_1 s m #[Value.ref b] below meth c s.heap [] 0 0 (lw_Z below #[Value.ref b] s) (entryFrame m ([Value.ref b] : List Value).toArray 7) := by
  obtain ⟨hx, hb, hr, hml, hown, hts, hX, hbl, hlocks, hgv⟩ := id C0
  have htg : ∀ w ∈ gtb, w.before #[Value.ref b] s = true := fun w hw => hts w (tb_g hw)
  obtain ⟨D, hKc⟩ := st_k1 htg
  obtain ⟨cA, hKa⟩ := st_k2 hts
  have hl := lv_entry ([.ref b]) (n := 7) (Nat.le_of_ble_eq_true rfl)
  rw [lg_entry_eq]
  generalize (lg_sl ([.ref b]) ++ List.replicate (7 - (lg_sl ([.ref b])).length) Slot.unset).toArray = ls at hl ⊢
  have hl : lv_has ls 7 [(0, .ref b)] := hl
  have C : Cx p s m #[Value.ref b] meth c YL_law := ⟨hx, hb, hml, hr, hown, htg, hlocks, fun h => absurd h (by decide), st_xw hts⟩
  have hTW := st_tw hst hts hgv
  have V : Iv s D cA (fun q => s.heap.size ≤ q) (fun _ => 0) M0 s.heap s.heap [] := ⟨⟨hKc, hKa⟩, fun k q h => (by cases h), ⟨fun i j p q h => (by cases h), fun k q h => (by cases h)⟩, va_S.rf, fun q h => h, fun id k a h => (by cases h)⟩
  have h512 : L / 7 ≤ 512 := by omega
  refine law_go (n := L) (xs := xs) hL p l e room_1 s m #[Value.ref b] below meth c D cA _ (fun _ => 0) s.heap [] 0 0 _ ls [(0, .ref b)] C ⟨⟨b, rfl, hX, Nat.not_le.mpr hbl, hbl⟩, hTW⟩ (fun q hq => hl.2.2 q hq) (by show 60 ≤ 2048; omega) (by show 40 * 60 ≤ 84000; omega) (by show 0 + kcL (L / 7) ≤ 601024; unfold kcL; omega) (by show 0 + ksL (L / 7) ≤ 7293034; unfold ksL; omega) V ⟨hl.1, hl.2.1, fun i v hv => ?_⟩ (fun v hv => by cases hv) ?_
  · have := List.mem_of_getElem? hv
    simp at this
  · intro r M' pcF lsF ad' H' locs' q hn hag V' hok hsz hE
    obtain ⟨rfl, rfl⟩ := hE
    refine va_forget (fun q hq => V'.2.2.2.1.2.2 q hq) ?_
    refine W.widen (k := 601024) (n := 7293034) (by show 0 + kcL (L / 7) ≤ 601024; unfold kcL; omega) (by show 0 + ksL (L / 7) ≤ 7293034; unfold ksL; omega) ?_
    exact lw_ret hx hb hr hlocks dL_law_1672
set_option maxHeartbeats 4000000 in
theorem lw_walk (l : Launch) (hst : l.stackTraces = false) (b : Addr) (xs : List Int32) : MetFree l x (headSpec (Jvm.Cond.code x code maxLocals ret :: tables_1) room_1) (lw_P b xs) (fun _ _ _ _ _ => True) lw_Q := by
  refine MetFree.of_bodyS (code := code) (maxLocals := maxLocals) (ret := ret) (by decide) ?_ ?_
  · intro args s m h hn
    obtain ⟨meth, c, h1, h2, h3, h4, h5, h6, -, -⟩ := Cond.code_spec hn (atoms_spec (ws := Jvm.Cond.code x code maxLocals ret :: tables_1) h _ List.mem_cons_self)
    exact ⟨meth, c, h1, h2, h3, h4, h5, h6⟩
  · intro p e s m args below meth c s₁ B hml0 hP _
    obtain ⟨rfl, hx, hbd, hgv⟩ := hP
    obtain ⟨scr, harrAt, hlist, hof, hsmall⟩ := hx
    obtain ⟨hcb, hkn, -, -⟩ := State.arrayAt?_spec harrAt
    have hown : s.vm.findClass R_law = some m.cls := findClass_of_methodNamed B.named
    have hts0 : ∀ c ∈ (Jvm.Cond.code x code maxLocals ret :: tables_1), c.before #[Value.ref b] s = true := atoms_spec (ws := Jvm.Cond.code x code maxLocals ret :: tables_1) B.pre
    have hts : ∀ w ∈ lw_tbl, w.before #[Value.ref b] s = true := k2_hts_sels lw_privs (fun w hw => hts0 w (List.mem_cons_of_mem _ hw)) lw_privs_ok
    have hml : c.maxLocals = 7 := B.maxLocals_eq (hts0 _ List.mem_cons_self)
    have X₀ : Stand p l e room_1 s m #[Value.ref b] below meth c s₁ [] 0 0 := Stand.of_body B
    have hh0 : s₁.heap = s.heap := by rw [B.state]; rfl
    have hsz : scr.slots.size = xs.length := by rw [← Array.length_toList, hlist, List.length_map]
    have hval : ∀ j : Nat, j < xs.length → scr.slots[j]? = some (.int (xs.getD j 0)) := fun j hj => by
      rw [← Array.getElem?_toList, hlist]
      simp [hj]
    have hbl : b < s.heap.size := (Array.getElem?_eq_some_iff.mp hcb).1
    have hX : va_X b xs.length (fun j => xs.getD j 0) s s.heap := ⟨scr, hcb, hof, hkn, hsz, hval⟩
    have K : W p l e room_1 s m #[Value.ref b] below meth c s₁.heap [] 0 0 (lw_Z below #[Value.ref b] s) (entryFrame m ([Value.ref b] : List Value).toArray 7) := by
      rw [hh0]
      exact whole_start l hst hbd ⟨B.exec, B.bytes, B.returns, hml, hown, hts, hX, hbl, B.notSynchronized, hgv⟩
    obtain ⟨t, a1, o, b1, b2, b3⟩ := K s₁ rfl X₀
    exact ⟨t, o, a1, b1, b2, b3⟩
theorem lw_pre_spec {args : Array Value} {s : State} (h : (Jvm.Cond.and given_1 narrow_1).before args s = true) (hr : rest_1_c.before args s = true) : ∃ (b : Addr) (xs : List Int32), lw_P b xs args s := by
  have hs := flat_of_before _ h
  have hq := flat_of_before _ hr
  have hc : (Cond.count 1).before args s = true := hs _ (by decide +kernel)
  have harr : (Cond.arrayOf (.arg 0) .int).before args s = true := hs _ (by decide +kernel)
  have hle : (Cond.le (.length (.arg 0)) (.int 3584)).before args s = true := hs _ (by decide +kernel)
  have hlen : (Cond.isInt (.length (.arg 0))).before args s = true := hq _ (by decide +kernel)
  have hall : (Cond.all (.arg 0) (.isInt (.elem (.arg 0) (.index 0)))).before args s = true := hq _ (by decide +kernel)
  obtain ⟨b, xs, hb, hx⟩ := State.ints_of_pre rfl harr hlen hall
  have hsm : xs.length < 2 ^ 31 := hx.choose_spec.2.2.2
  have hev : (Term.length (.arg 0)).eval args s none [] s = some (.int xs.length.toInt32) := hx.length_eval hb
  have hv := Cond.le_ints hev (show (Term.int 3584).eval args s none [] s = some (.int 3584) from rfl)
  have hd : xs.length.toInt32 ≤ 3584 := by
    simpa [Cond.before, Cond.holds, hv] using hle
  have hN : xs.length ≤ 3584 := (Int32.ofNat_le_ofNat hsm (by decide)).mp (show Int32.ofNat xs.length ≤ Int32.ofNat 3584 from hd)
  exact ⟨b, xs, Cond.one_arg hc (show args[0]? = some (.ref b) from hb), hx, hN, h⟩
theorem lw_comes (l : Launch) (hst : l.stackTraces = false) : Comes l x (Jvm.Cond.code x code maxLocals ret :: tables_1) room_1 (fun tb e args s => Calls_1 tb e args s ∧ rest_1 tb e args s ∧ Pre_1 tb e args s)
    (fun _ _ args s o t => lw_Q args s o t) := by
  intro p e ha hc hk s m args below hf hfit hheap happ hpre
  obtain ⟨b, xs, hP⟩ := lw_pre_spec hpre.2.2 hpre.2.1
  obtain ⟨k, o, h1, h2, h3, hQ⟩ := lw_walk l hst b xs p e ha hc hk s m args below hf ((Spec.applies_iff_loose hf).mp happ).1 hP trivial
  exact ⟨k, o, h1, h2, h3, hQ⟩
theorem lw_frame {s t : State} {o : Outcome} {args : Array Value} (h : Framed s o t [] 601024 7293034) :
    Framed s o t (fieldLocs frame_1_writes args s ++ arrayLocs frame_1_arrays args s ++ staticLocs frame_1_statics s) 601024 7293034 := h
theorem lw_limb (L : Cond) (hL : ∀ (args : Array Value) (s t : State), L.after args s (.returned (some (.int 1))) t = true) :
    ArmFor flags0 classFile x code maxLocals ret World_1 tables_1 room_1 Calls_1 rest_1 Pre_1
      (fun tb e a s o t => postC L tb e a s o t ∧ Framed s o t (fieldLocs frame_1_writes a s ++ arrayLocs frame_1_arrays a s ++ staticLocs frame_1_statics s) 601024 7293034) := by
  intro l hfl _ _ p e ha hc hk s m args below hf hfit hheap happ hpre
  obtain ⟨k, o, h1, h2, h3, rfl, hF⟩ := lw_comes l (by unfold Launch.stackTraces; rw [hfl]; decide) p e ha hc hk s m args below hf hfit hheap happ hpre
  exact ⟨k, _, h1, h2, h3, hL args s _, lw_frame hF⟩
theorem i_vc : Claimed_1_1 ∧ Claimed_1_2 := ⟨lw_limb limb_1_1 (fun args s t => by simp [limb_1_1, Cond.after, Cond.holds, Cond.value]), lw_limb limb_1_2 (fun args s t => Cond.after_iff.mpr (by
  first | (rw [show limb_1_2 = Cond.eq .result (.int 1) from rfl, Cond.eq_ints (x := 1) (y := 1) rfl rfl]; simp; done) | (simp [limb_1_2, Cond.value, Term.eval]; done)))⟩
