/-! ===== bits of small sets ===== -/
theorem smod8 {c : Nat} (h : c < 8) : ((nI c &&& 31).toBitVec.smod 32).toNat = c := by
  match c, h with
  | 0, _ => decide
  | 1, _ => decide
  | 2, _ => decide
  | 3, _ => decide
  | 4, _ => decide
  | 5, _ => decide
  | 6, _ => decide
  | 7, _ => decide
def bt (x : Int32) (c : Nat) : Bool := x.toBitVec.getLsbD c
theorem jn_bt {x : Int32} {c : Nat} (hc : c < 8) : jn x (nI c) ↔ bt x c = true := by
  have e : (x >>> (nI c &&& 31)).toBitVec = x.toBitVec.sshiftRight c := by
    rw [Int32.toBitVec_shiftRight, BitVec.sshiftRight_eq', smod8 hc]
  have h1 := pk_and (x >>> (nI c &&& 31)) (m := 1) 1 (by decide)
  have h2 : ((x >>> (nI c &&& 31)).toBitVec).getLsbD 0 = bt x c := by
    rw [e, BitVec.getLsbD_sshiftRight]
    unfold bt
    simp
    omega
  have h3 : ((x >>> (nI c &&& 31)).toBitVec).getLsbD 0 = decide ((x >>> (nI c &&& 31)).toBitVec.toNat % 2 = 1) := by
    rw [← BitVec.testBit_toNat, Nat.testBit_zero]
  unfold jn
  rw [h1, ← h2, h3, nI_z (by omega), decide_eq_true_iff]
  omega
theorem bt_or (x y : Int32) (c : Nat) : bt (x ||| y) c = (bt x c || bt y c) := by
  unfold bt
  rw [Int32.toBitVec_or, BitVec.getLsbD_or]
theorem bt_and (x y : Int32) (c : Nat) : bt (x &&& y) c = (bt x c && bt y c) := by
  unfold bt
  rw [Int32.toBitVec_and, BitVec.getLsbD_and]
theorem bt_not (x : Int32) {c : Nat} (hc : c < 32) : bt (x ^^^ (-1)) c = !bt x c := by
  unfold bt
  rw [Int32.toBitVec_xor, BitVec.getLsbD_xor]
  have : ((-1 : Int32).toBitVec).getLsbD c = true := by
    rw [show (-1 : Int32).toBitVec = BitVec.allOnes 32 by decide, BitVec.getLsbD_allOnes]
    simp [hc]
  rw [this, Bool.xor_true]
theorem bt_nI {n c : Nat} (h : n < 2 ^ 32) : bt (nI n) c = n.testBit c := by
  unfold bt
  rw [← BitVec.testBit_toNat, pk_tn h]
theorem one_shl {h : Nat} (hh : h < 8) : (1 : Int32) <<< (nI h &&& 31) = nI (2 ^ h) := by
  have h2 : 2 ^ h ≤ 2 ^ 7 := Nat.pow_le_pow_right (by omega) (by omega)
  have := pk_shlN (n := 1) (nI h &&& 31) h (smod8 hh) (by omega)
  rw [Nat.one_mul] at this
  exact this
theorem bt_shl {h c : Nat} (hh : h < 8) : bt ((1 : Int32) <<< (nI h &&& 31)) c = decide (h = c) := by
  have h2 : 2 ^ h ≤ 2 ^ 7 := Nat.pow_le_pow_right (by omega) (by omega)
  rw [one_shl hh, bt_nI (by omega), Nat.testBit_two_pow]
theorem or_nI {a b : Nat} (ha : a < 2 ^ 31) (hb : b < 2 ^ 31) : nI a ||| nI b = nI (a ||| b) := by
  have hab : a ||| b < 2 ^ 31 := Nat.or_lt_two_pow ha hb
  apply Int32.toBitVec_inj.mp
  apply BitVec.eq_of_toNat_eq
  rw [Int32.toBitVec_or, BitVec.toNat_or, pk_tn (by omega), pk_tn (by omega), pk_tn (by omega)]
theorem bt_ext {x y : Int32} (h : ∀ c, c < 32 → bt x c = bt y c) : x = y := by
  apply Int32.toBitVec_inj.mp
  apply BitVec.eq_of_getLsbD_eq
  intro i hi
  exact h i hi
theorem bt_zero (c : Nat) : bt 0 c = false := by
  rw [show (0 : Int32) = nI 0 from nI_0.symm, bt_nI (by omega), Nat.zero_testBit]
theorem tb_hi {X c : Nat} (hX : X < 256) (hc : 8 ≤ c) : X.testBit c = false := by
  apply Nat.testBit_lt_two_pow
  have : 2 ^ 8 ≤ 2 ^ c := Nat.pow_le_pow_right (by omega) hc
  omega
theorem jn_nI {X c : Nat} (hX : X < 2 ^ 31) (hc : c < 8) : jn (nI X) (nI c) ↔ X.testBit c = true := by
  rw [jn_bt hc, bt_nI (by omega)]
