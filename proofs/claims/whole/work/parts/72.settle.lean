/-! ===== the class at work under its account ===== -/
theorem mki_of {s : Sta} {I : Im} {G : Gm} {mb k : Nat} (hk : k < sN s) (hg : G.1 mb 0 = some (tA k)) (hτ : TmOK (I (mb + 1))) (hv : MkV I mb (cE (tdD (sD s k)) (I (mb + 1)))) : MkI s I G mb := by
  refine ⟨fun t ht => ⟨k, hk, ?_⟩, fun j hj ht => ?_⟩
  · rw [hg] at ht
    exact (Option.some.inj ht).symm
  · rw [hg] at ht
    obtain rfl := tA_inj (Option.some.inj ht)
    exact ⟨hτ, hv⟩
theorem sG_at (G : Gm) (mb t : Nat) : (sG G mb t).1 mb 0 = some t := up2_at
theorem sG_ne {G : Gm} {mb t a k : Nat} (h : a ≠ mb ∨ k ≠ 0) : (sG G mb t).1 a k = G.1 a k := up2_rd h
theorem tm_tr {v w : Nat → Int32} (h : TmOK v) (e : ∀ k, k < 6 → w k = v k) : TmOK w := by
  unfold TmOK at h ⊢
  rw [e 1 (by omega), e 2 (by omega), e 3 (by omega), e 5 (by omega)]
  exact h
theorem settle_s {d : Nat} {I : Im} {G : Gm} {s : Sta} {k mb wd : Nat} (hC : Ci s I G) (hk : k < sN s) (hmb : mb = 23 ∨ mb = 67) (hwd : wd = 22 ∨ wd = tA k + 14) (hτ : TmOK (I wd)) : Ct (d + 5) 0 0 YX5_settle [.ref mb, .ref (tA k), .ref wd] (I, G) (qU (fun M => ∃ (I2 : Im) (G2 : Gm), M = (I2, G2) ∧ Ci s I2 G2 ∧ Geq G G2 ∧ MkV I2 mb (cE (tdD (sD s k)) (I wd)) ∧ (∀ a j, ¬ (mb ≤ a ∧ a < mb + 44) → I2 a j = I a j) ∧ G2.1 mb 0 = some (tA k) ∧ TmOK (I2 (mb + 1)) ∧ cE (tdD (sD s k)) (I2 (mb + 1)) = cE (tdD (sD s k)) (I wd))) := by
  have hoff := tA_off k
  obtain ⟨hok, htr⟩ := hC.ok hk
  have h8 := hC.1.2.1 k (by omega)
  have hM : isC5 G mb := by
    rcases hmb with rfl | rfl
    · exact c9_s5 hC.1.1
    · exact c9_s6 hC.1.1
  have hW : isC7 G wd := by
    rcases hwd with rfl | rfl
    · exact c9_s4 hC.1.1
    · exact c8_s7 h8
  have hMk : MkI s I G mb := by
    rcases hmb with rfl | rfl
    · exact hC.2.2.1
    · exact hC.2.2.2.1
  refine (settle_ct (d := d) hM h8 hW (by omega) (by omega) hτ (trc_c hok.1 htr.1 (I wd)) (coc_of hok.1 htr.1) (hMk.2 k hk)).mono (fun r M h => ?_)
  obtain ⟨hr, I2, hM2, hV, h6, hf⟩ := h
  have e6 : cE (tdD (sD s k)) (I2 (mb + 1)) = cE (tdD (sD s k)) (I wd) := mkE_congr h6
  have hτ2 : TmOK (I2 (mb + 1)) := tm_tr hτ h6
  have hg : Geq G (sG G mb (tA k)) := sG_eq hM
  have hFr : FrC I I2 := fun a j z => hf a j (by omega)
  have hOk : ∀ k, k < sN s → TdOK (sD s k) := fun k hk => (hC.ok hk).1
  have hnew : MkI s I2 (sG G mb (tA k)) mb := mki_of hk (sG_at _ _ _) hτ2 (by rw [e6]; exact hV)
  refine ⟨hr, I2, sG G mb (tA k), hM2, ?_, hg, hV, hf, sG_at _ _ _, hτ2, e6⟩
  refine hC.mk hFr hg (fun j => sG_ne (Or.inl (by omega))) (sG_ne (Or.inl (by omega))) ?_ ?_ (hC.2.2.2.2.keep (sG_ne (Or.inl (by omega))) (fun a j z => hf a j (by omega)))
  · rcases hmb with rfl | rfl
    · exact hnew
    · exact hC.2.2.1.keep hOk (sG_ne (Or.inl (by omega))) (fun a j g1 g2 => hf a j (by omega))
  · rcases hmb with rfl | rfl
    · exact hC.2.2.2.1.keep hOk (sG_ne (Or.inl (by omega))) (fun a j g1 g2 => hf a j (by omega))
    · exact hnew
/-- under terms in which nothing is dearer -/
theorem settle_t {d : Nat} {I : Im} {G : Gm} {s : Sta} {k mb wd : Nat} {τ : Tm} (hC : Ci s I G) (hk : k < sN s) (hmb : mb = 23 ∨ mb = 67) (hwd : wd = 22 ∨ wd = tA k + 14) (hcap : τ.2.1 ≤ 41) (hv : ∀ j, j < 6 → I wd j = tmv τ j) : Ct (d + 5) 0 0 YX5_settle [.ref mb, .ref (tA k), .ref wd] (I, G) (qU (fun M => ∃ (I2 : Im) (G2 : Gm), M = (I2, G2) ∧ Ci s I2 G2 ∧ Geq G G2 ∧ MkV I2 mb (eT (tdD (sD s k)) τ) ∧ (∀ a j, ¬ (mb ≤ a ∧ a < mb + 44) → I2 a j = I a j) ∧ G2.1 mb 0 = some (tA k) ∧ TmOK (I2 (mb + 1)) ∧ cE (tdD (sD s k)) (I2 (mb + 1)) = eT (tdD (sD s k)) τ)) := by
  obtain ⟨h1, h2⟩ := tm_ok hcap hv
  have g := settle_s (d := d) hC hk hmb hwd h1
  rw [h2] at g
  exact g
/-- what a settled market tells, in the reference's words -/
def OcE (I : Im) (mb : Nat) (E : Ec) : Prop := ∀ h, h < eN E → I (mb + 39) h = nI (pdF E idq h) ∧ I (mb + 40) h = nI (spF E idq h) ∧ I (mb + 41) h = akF E idq h ∧ I (mb + 42) h = (mk E idq h (spF E idq h)).1 ∧ I (mb + 43) h = erM E h
theorem oce_of {I : Im} {mb : Nat} {E : Ec} (hE : SrC E) (hW : WbC E) (hc : ∀ b, eC E b ≤ 60) (hV : MkV I mb E) : OcE I mb E := fun h hh => by
  have h8 := hE.1
  obtain ⟨h1, h2, h3, h4⟩ := hV.2.2.1 h (by omega) hh
  have h5 := hV.2.2.2 h (by omega) hh
  obtain ⟨s1, s2⟩ := sp_same hE hW hc h hh
  obtain ⟨o1, o2, o3⟩ := oc_same hE hW hc hh
  exact ⟨h1.trans (by rw [s2]), h2.trans (by rw [s1]), h3.trans o1, h4.trans o2, h5.trans o3⟩
theorem OcE.keep {I I2 : Im} {mb : Nat} {E : Ec} (h : OcE I mb E) (hf : ∀ a j, mb ≤ a → a < mb + 44 → I2 a j = I a j) : OcE I2 mb E := fun x hx => ⟨(hf _ _ (by omega) (by omega)).trans (h x hx).1, (hf _ _ (by omega) (by omega)).trans (h x hx).2.1, (hf _ _ (by omega) (by omega)).trans (h x hx).2.2.1, (hf _ _ (by omega) (by omega)).trans (h x hx).2.2.2.1, (hf _ _ (by omega) (by omega)).trans (h x hx).2.2.2.2⟩
theorem sum_er {I : Im} {mb : Nat} {E : Ec} (h : OcE I mb E) : sm (I (mb + 43)) (eN E) = sm (erM E) (eN E) := sm_congr _ (fun x hx => (h x hx).2.2.2.2)
/-! what a call of the class gives -/
def GK (G G2 : Gm) : Prop := (isC10 G 256 → isC10 G2 256) ∧ G2.2.1 = G.2.1 ∧ (∀ a, a ≤ 281 → G2.2.2.1 a = G.2.2.1 a) ∧ G2.2.2.2 = G.2.2.2
theorem Geq.gk {G G2 : Gm} (h : Geq G G2) : GK G G2 := ⟨isC10_geq h, by rw [h.1], fun a _ => by rw [h.1], by rw [h.1]⟩
/-- an answer v, the account s, and nothing of the reference touched -/
def PcQ (s : Sta) (I : Im) (G : Gm) (a v : Int32) (M : Mm) : Prop := ∃ (I2 : Im) (G2 : Gm), M = (I2, G2) ∧ v = a ∧ Ci s I2 G2 ∧ (∀ x j, 256 ≤ x → x ≤ 281 → I2 x j = I x j) ∧ GK G G2
theorem FrC.m {I I2 : Im} (h : FrC I I2) : ∀ x j, 256 ≤ x → x ≤ 281 → I2 x j = I x j := fun x j h1 h2 => h x j (by omega)
def atN (n : Nat) (u : Int32) (no : Int32) (f : Nat → Int32) : Int32 := match inF n u with
  | none => no
  | some k => f k
theorem atN_s {n : Nat} {u no : Int32} {f : Nat → Int32} {k : Nat} (h : inF n u = some k) : atN n u no f = f k := by
  unfold atN
  rw [h]
theorem atN_n {n : Nat} {u no : Int32} {f : Nat → Int32} (h : inF n u = none) : atN n u no f = no := by
  unfold atN
  rw [h]
abbrev HID : Int32 := -100000000
abbrev dK (s : Sta) (k : Nat) : Dr := tdD (sD s k)
abbrev eK' (s : Sta) (k : Nat) : Ec := eT (tdD (sD s k)) (tdT (sD s k))
abbrev shP (D : Dr) (h : Nat) : Prop := cnt (dS D) h (dN D) = 0
/-! the answers -/
def aHouses (s : Sta) (t : Int32) : Int32 := atN (sN s) t (-1) fun k => nI (dN (dK s k))
def aWant (s : Sta) (t h p : Int32) : Int32 := atN (sN s) t (-1) fun k => atN (dN (dK s k)) h (-1) fun h => if shP (dK s k) h then atN 42 p (-1) fun p => nI (wF (dK s k) h p) else -1
def aAsk (s : Sta) (t h u : Int32) : Int32 := atN (sN s) t (-1) fun k => atN (dN (dK s k)) h (-1) fun h => if shP (dK s k) h then atN 301 u (-1) fun u => nI (askF (wF (dK s k) h) (tdT (sD s k)).2.1 u) else -1
def aTake (s : Sta) (t h u : Int32) : Int32 := atN (sN s) t (-1) fun k => atN (dN (dK s k)) h (-1) fun h => atN 301 u (-1) fun u => (mk (eK' s k) idq h u).1
def aOutcome (s : Sta) (t h w : Int32) : Int32 := atN (sN s) t HID fun k => atN (dN (dK s k)) h HID fun h => atN 4 w HID fun w => if w = 0 then nI (pdF (eK' s k) idq h) else if w = 1 then akF (eK' s k) idq h else if w = 2 then (mk (eK' s k) idq h (spF (eK' s k) idq h)).1 else erM (eK' s k) h
/-- all houses of D joined -/
def allJ (D : Dr) : Int32 := 1 <<< (nI (dN D) &&& 31) - 1
def eAll (s : Sta) (k : Nat) : Ec := eT (dK s k) (allJ (dK s k), (tdT (sD s k)).2.1, false, false)
def aSum (s : Sta) (t w : Int32) : Int32 := atN (sN s) t HID fun k => atN 4 w HID fun w => if w = 0 then sm (erM (eK' s k)) (dN (dK s k)) else if w = 3 then svF (eK' s k) idq else if w = 1 then sm (erM (eAll s k)) (dN (dK s k)) else sm (erM (eAll s k)) (dN (dK s k)) - sm (erM (eK' s k)) (dN (dK s k))
/-- the house h dearer by v -/
def eDear (E : Ec) (h v : Nat) : Ec := (E.1, fun x => eC E x + (if nI x = nI h then v else 0), E.2.2)
def aPassed (s : Sta) (t h v o : Int32) : Int32 := atN (sN s) t HID fun k => atN (dN (dK s k)) h HID fun h => atN (dN (dK s k)) o HID fun o => if shP (dK s k) o then atN 31 v HID fun v => akF (eDear (eK' s k) h v) idq o - akF (eK' s k) idq o else HID
def eFree (s : Sta) (k : Nat) : Ec := eT (dK s k) ((tdT (sD s k)).1, 41, false, (tdT (sD s k)).2.2.2)
def aGain (s : Sta) (t h : Int32) : Int32 := atN (sN s) t HID fun k => if h = -1 then svF (eK' s k) idq - svF (eFree s k) idq else atN (dN (dK s k)) h HID fun h => erM (eK' s k) h - erM (eFree s k) h
abbrev e0 (D : Dr) : Ec := eT D (0, 41, false, false)
def aGiven (s : Sta) (t h : Int32) : Int32 := atN (sN s) t HID fun k => atN (dN (dK s k)) h HID fun h => gvF (e0 (dK s k)) (tdP (sD s k)) (tdA (sD s k)) h
def aDoers (s : Sta) (t : Int32) : Int32 := atN (sN s) t (-1) fun k => orF (weF (e0 (dK s k)) idq (tdP (sD s k)) (tdA (sD s k))) (dN (dK s k))
def feS (D : Dr) (P : Nat → Bool) : Int32 := sm (fun x => if P x = true then (if shP D x then fyF (e0 D) x else 0) - nI (dE D x) else 0) (dN D)
def aFee (s : Sta) (t h w : Int32) : Int32 := atN (sN s) t HID fun k => atN (dN (dK s k)) h HID fun h => atN 2 w HID fun w => if w = 0 then feS (dK s k) (fun x => anF (dS (dK s k)) x h) else bz (0 ≤ feS (dK s k) (fun _ => true))
abbrev paR (D : Dr) (h : Nat) : Nat → Bool := prB (wF D h) (dC D h) (aoF D h)
def aParts (s : Sta) (t h i : Int32) : Int32 := atN (sN s) t (-1) fun k => atN (dN (dK s k)) h (-1) fun h => if shP (dK s k) h then (if dS (dK s k) h = none then -1 else scA (paR (dK s k) h) i 4100 (fun r => r)) else -1
/-- the part of the pair r -/
def taF (D : Dr) (h r : Nat) : Int32 := shF (nI r) (nI (aoF D h)) (nI (wF D h (aoF D h))) (nI (dC D h)) (nI (ccF (e0 D) h))
def tkS (D : Dr) (h : Nat) (i : Int32) : Int32 := match scF (paR D h) i 4100 with
  | none => HID
  | some r => taF D h r
def aTakings (s : Sta) (t h i : Int32) : Int32 := atN (sN s) t HID fun k => atN (dN (dK s k)) h HID fun h => if shP (dK s k) h then (if dS (dK s k) h = none then HID else tkS (dK s k) h i) else HID
def riF (D : Dr) (o1 o2 u v : Nat) (i : Int32) : Int32 := scA (duB (fun x => (nI x - nI u) * (nI (wF D o1 x) + nI (wF D o2 x))) (fun x => (nI x - nI u) * nI (wF D o1 x)) (fun x => (nI x - nI v) * (nI (wF D o1 x) + nI (wF D o2 x))) (fun x => (nI x - nI v) * nI (wF D o2 x))) i 1764 cd64
def aRivals (s : Sta) (t o1 o2 u v i : Int32) : Int32 := atN (sN s) t (-1) fun k => atN (dN (dK s k)) o1 (-1) fun o1 => if shP (dK s k) o1 then atN (dN (dK s k)) o2 (-1) fun o2 => if shP (dK s k) o2 then (if o1 = o2 then -1 else atN 42 u (-1) fun u => atN 42 v (-1) fun v => riF (dK s k) o1 o2 u v i) else -1 else -1
/-- what a shop takes that pays x -/
abbrev tkF (D : Dr) (h x : Nat) : Nat := wF D h (askF (wF D h) 41 (x + dC D h))
def maF (D : Dr) (o1 o2 sh : Nat) (i : Int32) : Int32 := scA (duB (fun x => (nI x - nI (dC D o1)) * nI (tkF D sh x)) (fun x => if o1 < o2 then (nI x - nI (dC D o1)) * nI (tkF D sh x) else 0) (fun x => (nI x - nI (dC D o2)) * nI (tkF D sh x)) (fun x => if o2 < o1 then (nI x - nI (dC D o2)) * nI (tkF D sh x) else 0)) i 1764 cd64
def aMakers (s : Sta) (t o1 o2 sh i : Int32) : Int32 := atN (sN s) t (-1) fun k => atN (dN (dK s k)) o1 (-1) fun o1 => atN (dN (dK s k)) o2 (-1) fun o2 => atN (dN (dK s k)) sh (-1) fun sh => if shP (dK s k) sh then (if o1 ≠ o2 ∧ o1 ≠ sh ∧ o2 ≠ sh then maF (dK s k) o1 o2 sh i else -1) else -1
def aExpects (s : Sta) (p co bk q : Int32) : Int32 := if sZ s = 0 then HID else atN 42 p HID fun _ => atN 42 co HID fun _ => atN 42 bk HID fun _ => atN 61 q HID fun q => exA (sW s) (sV s) (sZ s) p co bk q
def aStock (s : Sta) (p co bk : Int32) : Int32 := if sZ s = 0 then -1 else atN 42 p (-1) fun _ => atN 42 co (-1) fun _ => atN 42 bk (-1) fun _ => nI (stA2 (sW s) (sV s) (sZ s) p co bk)
def aSeller (s : Sta) (p co m w : Int32) : Int32 := if sZ s = 0 then HID else atN 42 p HID fun _ => atN 42 co HID fun c => atN 42 m HID fun _ => atN 2 w HID fun w => if w = 0 then nI (bsF (fun b => seA (sW s) (sV s) (sZ s) p co m (nI b)) c) else seA (sW s) (sV s) (sZ s) p co m (nI (bsF (fun b => seA (sW s) (sV s) (sZ s) p co m (nI b)) c))
def aRather (s : Sta) (t h : Int32) : Int32 := atN (sN s) t HID fun k => atN (dN (dK s k)) h HID fun h => if dS (dK s k) h = none then HID else if jn (tdT (sD s k)).1 (nI h) then HID else rbF (eK' s k) (tdT (sD s k)).1 h
def aRests (s : Sta) (t i : Int32) (R : Nat → Nat → Bool) : Int32 := atN (sN s) t (-1) fun k => scA (R k) i 128 (fun x => 2 * x)
def aCount (s : Sta) (w : Int32) : Int32 := atN 3 w (-1) fun w => if w = 0 then nI (sN s) else if w = 1 then nI (sZ s) else nI (sT s).1
