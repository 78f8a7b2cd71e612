/-! ===== guards ===== -/
theorem Ci.kq {s : Sta} {I I2 : Im} {G : Gm} (h : Ci s I G) (hf : ∀ a j, (a < 22 ∨ (23 ≤ a ∧ a ≤ 110) ∨ a = 113 ∨ a = 114 ∨ 253 ≤ a) → I2 a j = I a j) : Ci s I2 G :=
  h.mk (fun a j z => hf a j (by omega)) Geq.rf (fun _ => rfl) rfl (h.2.2.1.keep (fun k hk => (h.ok hk).1) rfl (fun a j g1 g2 => hf a j (by omega))) (h.2.2.2.1.keep (fun k hk => (h.ok hk).1) rfl (fun a j g1 g2 => hf a j (by omega))) (h.2.2.2.2.keep rfl (fun a j z => hf a j (by omega)))
theorem holds_y {d : Nat} {I : Im} {G : Gm} {t n h : Nat} (ht : isC8 G t) (hn : I t 0 = nI n) (hn8 : n ≤ 8) (hh : h < n) : Ct (d + 1) 0 0 YX8_holds [.ref t, .int (nI h)] (I, G) (qP 1 (I, G)) := by
  have g := holds_ct (d := d) (I := I) (h := nI h) ht
  rw [← bz_t (c := 0 ≤ nI h ∧ nI h < I t 0) ⟨nI_pos' (by omega), by rw [hn]; exact nI_lt hh (by omega)⟩] at g
  exact g
theorem holds_n {d : Nat} {I : Im} {G : Gm} {t n : Nat} {h : Int32} (ht : isC8 G t) (hn : I t 0 = nI n) (hno : ¬ (0 ≤ h ∧ h < nI n)) : Ct (d + 1) 0 0 YX8_holds [.ref t, .int h] (I, G) (qP 0 (I, G)) := by
  have g := holds_ct (d := d) (I := I) (h := h) ht
  rw [← bz_f (c := 0 ≤ h ∧ h < I t 0) (by rw [hn]; exact hno)] at g
  exact g
theorem isShop_y {d : Nat} {I : Im} {G : Gm} {t h : Nat} {E : Ec} (hT : isC8 G t) (ht : TrC I t E) (hh : h < eN E) (hs : cnt (eS E) h (eN E) = 0) : Ct (d + 2) 0 0 YX8_isShop [.ref t, .int (nI h)] (I, G) (qP 1 (I, G)) := by
  have g := isShop_e (d := d) hT ht hh
  rw [← bz_t hs] at g
  exact g
theorem isShop_n {d : Nat} {I : Im} {G : Gm} {t h : Nat} {E : Ec} (hT : isC8 G t) (ht : TrC I t E) (hh : h < eN E) (hs : ¬ cnt (eS E) h (eN E) = 0) : Ct (d + 2) 0 0 YX8_isShop [.ref t, .int (nI h)] (I, G) (qP 0 (I, G)) := by
  have g := isShop_e (d := d) hT ht hh
  rw [← bz_f hs] at g
  exact g
theorem in42 {u : Int32} : (0 ≤ u ∧ u < nI 42) ↔ (0 ≤ u ∧ u ≤ 41) := by
  rw [Int32.lt_iff_toInt_lt, Int32.le_iff_toInt_le (y := 41), nI_toInt (by omega)]
  show _ ∧ _ < (42 : Int) ↔ _ ∧ _ ≤ (41 : Int)
  exact ⟨fun z => ⟨z.1, by have := z.2; omega⟩, fun z => ⟨z.1, by have := z.2; omega⟩⟩
theorem isPrice_y {d : Nat} {M : Mm} {p : Nat} (hp : p < 42) : Ct (d + 1) 0 0 YX9_isPrice [.int (nI p)] M (qP 1 M) := by
  have g := isPrice_ct (d := d) (M := M) (p := nI p)
  rw [← bz_t (in42.mp ⟨nI_pos' (by omega), nI_lt hp (by omega)⟩)] at g
  exact g
theorem isPrice_n {d : Nat} {M : Mm} {p : Int32} (hp : ¬ (0 ≤ p ∧ p < nI 42)) : Ct (d + 1) 0 0 YX9_isPrice [.int p] M (qP 0 M) := by
  have g := isPrice_ct (d := d) (M := M) (p := p)
  rw [← bz_f (fun z => hp (in42.mpr z))] at g
  exact g
theorem isPriceM_y {d : Nat} {I : Im} {G : Gm} {p : Nat} (hp : p < 42) : Ct (d + 2) 0 0 YX10_isPrice [.int (nI p)] (I, G) (qP 1 (I, G)) := by
  have g := isPriceM_ct (d := d) (I := I) (G := G) (p := nI p)
  rw [← bz_t (in42.mp ⟨nI_pos' (by omega), nI_lt hp (by omega)⟩)] at g
  exact g
theorem isPriceM_n {d : Nat} {I : Im} {G : Gm} {p : Int32} (hp : ¬ (0 ≤ p ∧ p < nI 42)) : Ct (d + 2) 0 0 YX10_isPrice [.int p] (I, G) (qP 0 (I, G)) := by
  have g := isPriceM_ct (d := d) (I := I) (G := G) (p := p)
  rw [← bz_f (fun z => hp (in42.mpr z))] at g
  exact g
theorem rg_iff {n : Nat} (hn : n < 1000) {u : Int32} : (0 ≤ u ∧ u < nI (n + 1)) ↔ (nI 0 ≤ u ∧ u ≤ nI n) := by
  rw [Int32.lt_iff_toInt_lt, Int32.le_iff_toInt_le (y := nI n), nI_toInt (by omega), nI_toInt (by omega)]
  show (0 ≤ u ∧ _) ↔ (0 ≤ u ∧ _)
  exact ⟨fun z => ⟨z.1, by have := z.2; omega⟩, fun z => ⟨z.1, by have := z.2; omega⟩⟩
theorem rg_no {n : Nat} (hn : n < 1000) {u : Int32} (hno : ¬ (0 ≤ u ∧ u < nI (n + 1))) (h1 : ¬ u < 0) (h2 : u ≤ nI n) : False := hno (rg_iff hn |>.mpr ⟨Int32.not_lt.mp h1, h2⟩)
theorem isIn_y {d : Nat} {I : Im} {G : Gm} {n p : Nat} (hn : n < 1000) (hp : p < n + 1) : Ct (d + 1) 0 0 YX10_isIn [.int (nI p), .int (nI 0), .int (nI n)] (I, G) (qP 1 (I, G)) := by
  have g := isIn_ct (d := d) (I := I) (G := G) (v := nI p) (lo := nI 0) (hi := nI n)
  rw [← bz_t ((rg_iff hn).mp ⟨nI_pos' (by omega), nI_lt hp (by omega)⟩)] at g
  exact g
theorem isIn_no {d : Nat} {I : Im} {G : Gm} {n : Nat} (hn : n < 1000) {u : Int32} (hno : ¬ (0 ≤ u ∧ u < nI (n + 1))) : Ct (d + 1) 0 0 YX10_isIn [.int u, .int (nI 0), .int (nI n)] (I, G) (qP 0 (I, G)) := by
  have g := isIn_ct (d := d) (I := I) (G := G) (v := u) (lo := nI 0) (hi := nI n)
  rw [← bz_f (fun z => hno ((rg_iff hn).mpr z))] at g
  exact g
theorem isTrade_y {d : Nat} {I : Im} {G : Gm} {m k cn : Nat} (hm : isC10 G m) (hcn : I m 20 = nI cn) (hcn10 : cn ≤ 10) (hk : k < cn) : Ct (d + 1) 0 0 YX10_isTrade [.ref m, .int (nI k)] (I, G) (qP 1 (I, G)) := by
  have g := isTrade_ct (d := d) (I := I) (t := nI k) hm
  rw [← bz_t (c := 0 ≤ nI k ∧ nI k < I m 20) ⟨nI_pos' (by omega), by rw [hcn]; exact nI_lt hk (by omega)⟩] at g
  exact g
theorem isTrade_n {d : Nat} {I : Im} {G : Gm} {m cn : Nat} {t : Int32} (hm : isC10 G m) (hcn : I m 20 = nI cn) (hno : ¬ (0 ≤ t ∧ t < nI cn)) : Ct (d + 1) 0 0 YX10_isTrade [.ref m, .int t] (I, G) (qP 0 (I, G)) := by
  have g := isTrade_ct (d := d) (I := I) (t := t) hm
  rw [← bz_f (c := 0 ≤ t ∧ t < I m 20) (by rw [hcn]; exact hno)] at g
  exact g
theorem isShopM_y {d : Nat} {I : Im} {G : Gm} {m k cn : Nat} {E : Ec} {T : Lt} (hm : isC10 G m) (hk : MtC I m k E T) (hcn : I m 20 = nI cn) (hcn10 : cn ≤ 10) (hkc : k < cn) {h : Nat} (hh : h < eN E) (hs : cnt (eS E) h (eN E) = 0) : Ct (d + 3) 0 0 YX10_isShop [.ref m, .int (nI k), .int (nI h)] (I, G) (qP 1 (I, G)) := by
  have g := isShopM_ct (d := d) hm hk (by omega) hcn hcn10 hkc hh
  rw [← bz_t hs] at g
  exact g
theorem isShopM_n {d : Nat} {I : Im} {G : Gm} {m k cn : Nat} {E : Ec} {T : Lt} (hm : isC10 G m) (hk : MtC I m k E T) (hcn : I m 20 = nI cn) (hcn10 : cn ≤ 10) (hkc : k < cn) {h : Nat} (hh : h < eN E) (hs : ¬ cnt (eS E) h (eN E) = 0) : Ct (d + 3) 0 0 YX10_isShop [.ref m, .int (nI k), .int (nI h)] (I, G) (qP 0 (I, G)) := by
  have g := isShopM_ct (d := d) hm hk (by omega) hcn hcn10 hkc hh
  rw [← bz_f hs] at g
  exact g
