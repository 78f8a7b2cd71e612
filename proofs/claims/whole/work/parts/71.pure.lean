/-! ===== what is the same on both sides ===== -/
theorem nI_of_pos {u : Int32} (h : 0 ≤ u) : u = nI u.toNatClampNeg := by
  have h1 : 0 ≤ u.toInt := Int32.le_iff_toInt_le.mp h
  have h2 : u.toInt < 2 ^ 31 := Int32.toInt_lt u
  have e : u.toNatClampNeg = u.toInt.toNat := rfl
  apply Int32.toInt_inj.mp
  rw [nI_toInt (by rw [e]; omega), e]
  omega
/-- a number that is asked for, of 0 .. n - 1 -/
def inF (n : Nat) (u : Int32) : Option Nat := if 0 ≤ u ∧ u < nI n then some u.toNatClampNeg else none
theorem in_at {n k : Nat} (hn : n < 2 ^ 31) (hk : k < n) : inF n (nI k) = some k := by
  unfold inF
  rw [if_pos ⟨nI_pos' (by omega), nI_lt hk hn⟩, nI_clamp (by omega)]
theorem in_cases {n : Nat} (hn : n < 2 ^ 31) (u : Int32) : (∃ k, k < n ∧ u = nI k ∧ inF n u = some k) ∨ (inF n u = none ∧ ¬ (0 ≤ u ∧ u < nI n)) := by
  by_cases c : 0 ≤ u ∧ u < nI n
  · have e := nI_of_pos c.1
    have hb : u.toNatClampNeg < 2 ^ 31 := by
      have h2 : u.toInt < 2 ^ 31 := Int32.toInt_lt u
      have e : u.toNatClampNeg = u.toInt.toNat := rfl
      omega
    refine Or.inl ⟨u.toNatClampNeg, ?_, e, if_pos c⟩
    have := c.2
    rw [e] at this
    exact (nI_ltI hb hn).mp this
  · exact Or.inr ⟨if_neg c, c⟩
/-! all as one -/
theorem sp_all {E : Ec} (hE : SrC E) (hJ : ∀ b, b < eN E → jn (eJ E) (nI b)) : ∀ h, h < eN E → spF E idq h = ccF E h := by
  have h8 := hE.1
  have hS : ∀ b a, eS E b = some a → a < b := fun b a z => (hE.2 b a z).1
  intro h
  induction h using Nat.strongRecOn with
  | ind h ih =>
    intro hh
    rw [spF_eq hS (by omega), ccF_eq hS (by omega), Nat.add_comm]
    congr 1
    unfold pdF pdv ccV
    cases hz : eS E h with
    | none => rfl
    | some a =>
      show (if jn (eJ E) (nI h) then spF E idq a else _) = ccF E a
      have := hS h a hz
      rw [if_pos (hJ h hh)]
      exact ih a this (by omega)
theorem er_all {E : Ec} (hE : SrC E) (hJ : ∀ b, b < eN E → jn (eJ E) (nI b)) {h : Nat} (hh : h < eN E) : erM E h = if cnt (eS E) h (eN E) = 0 then fyF E h else 0 := by
  have h8 := hE.1
  have hS : ∀ b a, eS E b = some a → a < b := fun b a z => (hE.2 b a z).1
  unfold erM
  rw [mk_eq (q := idq) hS (by omega), sp_all hE hJ h hh]
  unfold stp
  by_cases c : cnt (eS E) h (eN E) = 0
  · rw [if_pos c, if_pos c]
    rfl
  · rw [if_neg c, if_neg c]
    refine sm_zero _ (fun b hb => ?_)
    by_cases e : eS E b = some h
    · rw [if_pos e, show prS E idq (mk E idq) h b (ccF E h) = ccF E h from if_pos (hJ b hb)]
      grind
    · rw [if_neg e]
theorem ao_all {E : Ec} (hE : SrC E) (hW : WbC E) (hc : ∀ b, eC E b ≤ 60) (hJ : ∀ b, b < eN E → jn (eJ E) (nI b)) {h : Nat} (hh : h < eN E) (hs : cnt (eS E) h (eN E) = 0) : akF E rwF h = nI (afN E h) ∧ (mk E rwF h (rwF (spF E rwF h))).1 = nI (eW E h (afN E h)) ∧ spF E rwF h = ccF E h := by
  have h8 := hE.1
  have hS : ∀ b a, eS E b = some a → a < b := fun b a z => (hE.2 b a z).1
  obtain ⟨h1, h2, _⟩ := oc_same hE hW hc hh
  have e := sp_all hE hJ h hh
  refine ⟨?_, ?_, (sp_same hE hW hc h hh).1.trans e⟩
  · rw [h1]
    unfold akF
    rw [if_pos hs, e]
  · rw [h2, e, mk_eq (q := idq) hS (by omega)]
    unfold stp
    rw [if_pos hs]
theorem jn_all {n b : Nat} (hn : n ≤ 8) (hb : b < n) : jn (1 <<< (nI n &&& 31) - 1) (nI b) := by
  rw [jn_bt (by omega)]
  have e : (1 : Int32) <<< (nI n &&& 31) - 1 = nI (2 ^ n - 1) := by
    match n, hn with
    | 0, _ => rfl
    | 1, _ => rfl
    | 2, _ => rfl
    | 3, _ => rfl
    | 4, _ => rfl
    | 5, _ => rfl
    | 6, _ => rfl
    | 7, _ => rfl
    | 8, _ => rfl
  have h2 : 2 ^ n ≤ 2 ^ 8 := Nat.pow_le_pow_right (by omega) hn
  rw [e, bt_nI (by omega), Nat.testBit_two_pow_sub_one]
  exact decide_eq_true hb
theorem sv_same {E : Ec} (hE : SrC E) (hW : WbC E) (hc : ∀ b, eC E b ≤ 60) : svF E rwF = svF E idq := by
  have h8 := hE.1
  have hS : ∀ b a, eS E b = some a → a < b := fun b a z => (hE.2 b a z).1
  unfold svF
  apply sm_congr
  intro h hh
  have e := (sp_same hE hW hc h hh).1
  have b := spF_le hS hc h (by omega)
  rw [ask_row (hW.2.2.2 h) (hW.2.2.1 h) (by omega), e]
theorem we_same {E : Ec} (hE : SrC E) (hW : WbC E) (hc : ∀ b, eC E b ≤ 60) {pay ask : Nat → Nat} (h : Nat) : weF E rwF pay ask h = weF E idq pay ask h := by
  unfold weF
  by_cases c : cnt (eS E) h (eN E) = 0
  · rw [if_pos c, if_pos c]
  · rw [if_neg c, if_neg c]
    have e : ∀ b, b < eN E → ∀ x, x < 42 → pwF E rwF pay ask h b x = pwF E idq pay ask h b x := fun b hb x hx => by
      have := hc b
      unfold pwF
      rw [mk_row hE hW hc (8 - b) b rfl hb _ (by omega)]
    have c2 : ∀ f g : Nat → Bool, ∀ n, (∀ k, k < n → f k = g k) → anB f n = anB g n := fun f g n => by
      induction n with
      | zero => intro _; rfl
      | succ n ih =>
        intro hz
        show (anB f n || f n) = (anB g n || g n)
        rw [ih (fun k hk => hz k (by omega)), hz n (by omega)]
    exact c2 _ _ _ (fun b hb => by rw [c2 _ _ 42 (e b hb)])
/-! a list that is found, and what is asked of it -/
theorem ls_at {R : Nat → Bool} {L : Nat → Int32} {cd : Nat → Nat} {N : Nat} (hN : N < 2 ^ 31) (hL : ∀ r, r < N → R r = true → L (ctB R r) = nI (cd r)) {j : Nat} (hj : j < ctB R N) : ∃ r, r < N ∧ scF R (nI j) N = some r ∧ L j = nI (cd r) := by
  have key : ∀ n, n ≤ N → j < ctB R n → ∃ r, r < n ∧ R r = true ∧ ctB R r = j := by
    intro n
    induction n with
    | zero => intro _ h; exact absurd h (Nat.not_lt_zero _)
    | succ n ih =>
      intro hn h
      by_cases c : R n = true
      · rw [ctB_hit c] at h
        by_cases e : j = ctB R n
        · exact ⟨n, by omega, c, e.symm⟩
        · obtain ⟨r, h1, h2⟩ := ih (by omega) (by omega)
          exact ⟨r, by omega, h2⟩
      · rw [ctB_miss c] at h
        obtain ⟨r, h1, h2⟩ := ih (by omega) h
        exact ⟨r, by omega, h2⟩
  obtain ⟨r, h1, h2, h3⟩ := key N (Nat.le_refl _) hj
  refine ⟨r, h1, ?_, by rw [← h3]; exact hL r h1 h2⟩
  have := scF_keep (scF_hit (scF_free (by omega) (congrArg nI h3)) h2 (congrArg nI h3)) (N - (r + 1))
  rw [show r + 1 + (N - (r + 1)) = N by omega] at this
  exact this
theorem ls_no {R : Nat → Bool} {i : Int32} {N : Nat} (hN : N < 2 ^ 31) (hi : ¬ (0 ≤ i ∧ i < nI (ctB R N))) : scF R i N = none := by
  cases hz : scF R i N with
  | none => rfl
  | some r =>
    obtain ⟨h1, h2, h3⟩ := scF_some hz
    have h4 := ctB_mono (R := R) (show r + 1 ≤ N by omega)
    have h5 := ctB_le R N
    rw [ctB_hit h2] at h4
    refine absurd ⟨?_, ?_⟩ hi
    · rw [← h3]
      exact nI_pos' (by omega)
    · rw [← h3]
      exact nI_lt (by omega) (by omega)
/-! rivals -/
theorem du_same {F S a1 l1 a2 l2 : Nat → Int32} (hF : ∀ x q, x < 42 → q < 42 → F (42 * x + q) = gdF a1 l1 x q) (hS : ∀ p y, p < 42 → y < 42 → S (42 * p + y) = gdF a2 l2 y p) {r : Nat} (hr : r < 1764) : rsB F S r = duB a1 l1 a2 l2 r := by
  obtain ⟨p, hp⟩ : ∃ p, p = r / 42 := ⟨_, rfl⟩
  obtain ⟨q, hq⟩ : ∃ q, q = r % 42 := ⟨_, rfl⟩
  have hp4 : p < 42 := by omega
  have hq4 : q < 42 := by omega
  unfold rsB duB
  rw [← hp, ← hq]
  have e1 := mxF_eq (g := fun x => gdF a1 l1 x q) (k := 41) (y := p) (by omega)
  have e2 := mxF_eq (g := fun x => gdF a2 l2 x p) (k := 41) (y := q) (by omega)
  rw [Bool.eq_iff_iff, Bool.not_eq_true', decide_eq_true_iff, e1, e2, ← Bool.not_eq_true, anB_iff]
  constructor
  · intro h
    refine ⟨fun x hx => Int32.not_lt.mp (fun z => h ⟨x, by omega, decide_eq_true (Or.inl ?_)⟩), fun x hx => Int32.not_lt.mp (fun z => h ⟨x, by omega, decide_eq_true (Or.inr ?_)⟩)⟩
    · rw [hF p q hp4 hq4, hF x q (by omega) hq4]
      exact z
    · rw [hS p q hp4 hq4, hS p x hp4 (by omega)]
      exact z
  · rintro ⟨h1, h2⟩ ⟨x, hx, hz⟩
    rcases of_decide_eq_true hz with z | z
    · rw [hF p q hp4 hq4, hF x q hx hq4] at z
      exact absurd z (Int32.not_lt.mpr (h1 x (by omega)))
    · rw [hS p q hp4 hq4, hS p x hp4 hx] at z
      exact absurd z (Int32.not_lt.mpr (h2 x (by omega)))
/-! sets at rest -/
theorem half_sc {R R' : Nat → Bool} {i : Int32} : ∀ K, (∀ x, x < K → R' (2 * x) = R x ∧ R' (2 * x + 1) = false) → ctB R' (2 * K) = ctB R K ∧ scF R' i (2 * K) = (scF R i K).map (2 * ·)
  | 0, _ => ⟨rfl, rfl⟩
  | K + 1, h => by
    obtain ⟨h1, h2⟩ := half_sc (R := R) (R' := R') (i := i) K (fun x hx => h x (by omega))
    obtain ⟨e1, e2⟩ := h K (by omega)
    have c0 : ctB R' (2 * K + 1) = ctB R (K + 1) := by
      show ctB R' (2 * K) + _ = ctB R K + _
      rw [h1, e1]
    rw [show 2 * (K + 1) = 2 * K + 1 + 1 by omega]
    refine ⟨by rw [ctB_miss (by rw [e2]; simp)]; exact c0, ?_⟩
    rw [scF_skip (fun z => by rw [e2] at z; exact absurd z.1 (by simp))]
    cases hz : scF R i K with
    | some p =>
      rw [hz] at h2
      rw [scF_keep h2 1, scF_keep hz 1]
      rfl
    | none =>
      rw [hz] at h2
      by_cases c : R K = true ∧ nI (ctB R K) = i
      · rw [scF_hit h2 (e1.trans c.1) (by rw [h1]; exact c.2), scF_hit hz c.1 c.2]
        rfl
      · rw [scF_miss h2 (by rw [e1, h1]; exact c), scF_miss hz c]
        rfl
theorem tail_sc {R : Nat → Bool} {i : Int32} {K : Nat} : ∀ j, (∀ x, K ≤ x → x < K + j → ¬ R x = true) → ctB R (K + j) = ctB R K ∧ scF R i (K + j) = scF R i K
  | 0, _ => ⟨rfl, rfl⟩
  | j + 1, h => by
    obtain ⟨h1, h2⟩ := tail_sc (R := R) (i := i) (K := K) j (fun x a b => h x a (by omega))
    have hn := h (K + j) (by omega) (by omega)
    exact ⟨(ctB_miss hn).trans h1, (scF_skip (fun z => hn z.1)).trans h2⟩
theorem half_sa {R R' : Nat → Bool} {i : Int32} {K : Nat} (hK : K ≤ 128) (h : ∀ x, x < K → R' (2 * x) = R x ∧ R' (2 * x + 1) = false) (ht : ∀ x, K ≤ x → x < 128 → ¬ R x = true) : scA R' i (2 * K) (fun s => s) = scA R i 128 (fun x => 2 * x) := by
  obtain ⟨h1, h2⟩ := half_sc (i := i) K h
  obtain ⟨h3, h4⟩ := tail_sc (R := R) (i := i) (K := K) (128 - K) (fun x a b => ht x a (by omega))
  rw [show K + (128 - K) = 128 by omega] at h3 h4
  unfold scA
  rw [h1, h2, h3, h4]
  cases scF R i K with
  | none => rfl
  | some p => rfl
/-- at rest, as the reference asks it -/
def rmP (E : Ec) (s : Nat) : Prop := ∀ h, h < eN E → if eS E h = none then s.testBit h = false else s.testBit h = true ∨ rbF E (nI s) h ≤ 0
theorem ers_same {E : Ec} (hE : SrC E) (hW : WbC E) (hc : ∀ b, eC E b ≤ 60) {x h : Nat} (hh : h < eN E) : erS E x h = erM (setJ E (nI (2 * x))) h := by
  have hE' : SrC (setJ E (nI (2 * x))) := hE
  have hW' : WbC (setJ E (nI (2 * x))) := hW
  have hh' : h < eN (setJ E (nI (2 * x))) := hh
  unfold erS
  exact (oc_same hE' hW' hc hh').2.2
theorem rm_same {E : Ec} (hE : SrC E) (hW : WbC E) (hc : ∀ b, eC E b ≤ 60) (hn : 1 ≤ eN E) {x : Nat} (hx : x < 128) (hx2 : 2 * x < 2 ^ eN E) : rmP E (2 * x) ↔ rsP E x := by
  have h8 := hE.1
  have hhi : ∀ c, eN E ≤ c → (2 * x).testBit c = false := fun c hc => Nat.testBit_lt_two_pow (Nat.lt_of_lt_of_le hx2 (Nat.pow_le_pow_right (by omega) hc))
  have hrb : ∀ h, h < eN E → 1 ≤ h → btF (eS E) (eN E) (jP (nI (2 * (x ||| 2 ^ (h - 1))))) h (erS E x) (erS E (x ||| 2 ^ (h - 1))) = rbF E (nI (2 * x)) h := fun h hh h1 => by
    have e : nI (2 * x) ||| 1 <<< (nI h &&& 31) = nI (2 * (x ||| 2 ^ (h - 1))) := by
      have h2 : 2 ^ h ≤ 2 ^ 7 := Nat.pow_le_pow_right (by omega) (by omega)
      rw [one_shl (by omega), or_nI (by omega) (by omega)]
      congr 1
      apply Nat.eq_of_testBit_eq
      intro c
      rw [tb2 h1 rfl, Nat.testBit_or, Nat.testBit_two_pow]
    unfold rbF
    rw [e]
    exact btF_congr (fun y hy => ers_same hE hW hc hy) (fun y hy => ers_same hE hW hc hy)
  unfold rsP
  rw [okH_iff h8 hx]
  constructor
  · intro H
    refine ⟨fun c hc8 ht => ?_, fun h hh hm => ?_⟩
    · have hcn : c < eN E := Decidable.byContradiction (fun z => by rw [hhi c (by omega)] at ht; cases ht)
      refine ⟨hcn, ?_⟩
      have := H c hcn
      cases hz : eS E c with
      | none =>
        rw [if_pos hz, ht] at this
        cases this
      | some a => rfl
    · obtain ⟨m1, m2, m3⟩ := hm
      have ho := (opH_iff h8 hx (by omega)).mp m2
      have := H h hh
      rw [if_neg (fun z => by rw [z] at ho; exact absurd ho.1.2 (by simp)), ho.2] at this
      rw [hrb h hh m1] at m3
      exact absurd m3 (Int32.not_lt.mpr (this.resolve_left (by simp)))
  · rintro ⟨H1, H2⟩ h hh
    cases hz : eS E h with
    | none =>
      rw [if_pos rfl]
      cases ht : (2 * x).testBit h with
      | false => rfl
      | true =>
        have := (H1 h (by omega) ht).2
        rw [hz] at this
        cases this
    | some a =>
      rw [if_neg (by simp)]
      cases ht : (2 * x).testBit h with
      | true => exact Or.inl rfl
      | false =>
        right
        have ha := (hE.2 h a hz).1
        have h1 : 1 ≤ h := by omega
        rw [← hrb h hh h1]
        exact Int32.not_lt.mp (fun z => H2 h hh ⟨h1, (opH_iff h8 hx (by omega)).mpr ⟨⟨hh, by rw [hz]; rfl⟩, ht⟩, z⟩)
theorem rm_odd {E : Ec} (hE : SrC E) (hn : 1 ≤ eN E) (x : Nat) : ¬ rmP E (2 * x + 1) := by
  intro H
  have := H 0 (by omega)
  have hz : eS E 0 = none := by
    cases hz : eS E 0 with
    | none => rfl
    | some a => exact absurd (hE.2 0 a hz).1 (Nat.not_lt_zero _)
  rw [if_pos hz, Nat.testBit_zero] at this
  simp at this
theorem rs_hi {E : Ec} (hE : SrC E) {x : Nat} (hx : x < 128) (hx2 : 2 ^ eN E ≤ 2 * x) : ¬ rsP E x := by
  intro H
  have H1 := (okH_iff hE.1 hx).mp H.1
  obtain ⟨c, hc, ht⟩ := Nat.exists_ge_and_testBit_of_ge_two_pow hx2
  have hc8 : c < 8 := Decidable.byContradiction (fun z => by
    rw [tb_hi (by omega) (by omega)] at ht
    cases ht)
  have := (H1 c hc8 ht).1
  omega
