/-! bits of small numbers -/
def tb (s i : Int) : Bool := s.toNat.testBit i.toNat
def wb (s i : Int) (c : Bool) : Int := ((if c then s.toNat ||| 2 ^ i.toNat else (s.toNat ||| 2 ^ i.toNat) ^^^ 2 ^ i.toNat : Nat) : Int)
theorem am_i_nat (a : Nat) : (am_i (a : Int)).toBitVec = BitVec.ofNat 32 a := by
  simp [am_i]
theorem i32_toInt (x : Int32) (n : Nat) (h : x.toBitVec.toNat = n) (hn : n < 2147483648) : x.toInt = (n : Int) := by
  rw [Int32.toInt, BitVec.toInt_eq_toNat_of_lt (by omega), h]
theorem fn_and {a b : Nat} (ha : a < 2147483648) (hb : b < 2147483648) : f_and a b = ((a &&& b : Nat) : Int) := by
  refine i32_toInt _ _ ?_ (Nat.lt_of_le_of_lt Nat.and_le_left ha)
  rw [Int32.toBitVec_and, am_i_nat, am_i_nat, BitVec.toNat_and, BitVec.toNat_ofNat, BitVec.toNat_ofNat, Nat.mod_eq_of_lt (by omega), Nat.mod_eq_of_lt (by omega)]
theorem fn_or {a b : Nat} (ha : a < 2147483648) (hb : b < 2147483648) : f_or a b = ((a ||| b : Nat) : Int) := by
  refine i32_toInt _ _ ?_ (Nat.or_lt_two_pow (n := 31) ha hb)
  rw [Int32.toBitVec_or, am_i_nat, am_i_nat, BitVec.toNat_or, BitVec.toNat_ofNat, BitVec.toNat_ofNat, Nat.mod_eq_of_lt (by omega), Nat.mod_eq_of_lt (by omega)]
theorem fn_xor {a b : Nat} (ha : a < 2147483648) (hb : b < 2147483648) : f_xor a b = ((a ^^^ b : Nat) : Int) := by
  refine i32_toInt _ _ ?_ (Nat.xor_lt_two_pow (n := 31) ha hb)
  rw [Int32.toBitVec_xor, am_i_nat, am_i_nat, BitVec.toNat_xor, BitVec.toNat_ofNat, BitVec.toNat_ofNat, Nat.mod_eq_of_lt (by omega), Nat.mod_eq_of_lt (by omega)]
theorem fn_shr {a : Nat} (ha : a < 2147483648) : ∀ i : Nat, i < 31 → f_shr a i = ((a >>> i : Nat) : Int) := by
  intro i hi
  have e0 : ((am_i (i : Int) &&& 31).toBitVec.smod 32).toNat = i := by
    have : ∀ i : Fin 31, ((am_i (i.val : Int) &&& 31).toBitVec.smod 32).toNat = i.val := by decide
    exact this ⟨i, hi⟩
  have e1 := pk_shr (am_i (a : Int)) (am_i (i : Int) &&& 31) i e0
  show (am_i (a : Int) >>> (am_i (i : Int) &&& 31)).toInt = _
  rw [e1, am_it (by omega) (by omega)]
  rfl
theorem fn_shl1 : ∀ i : Nat, i < 31 → f_shl 1 i = ((2 ^ i : Nat) : Int) := by
  intro i hi
  have : ∀ i : Fin 31, f_shl 1 (i.val : Int) = ((2 ^ i.val : Nat) : Int) := by decide
  exact this ⟨i, hi⟩
theorem fn_clr {a : Nat} (ha : a < 2147483648) (i : Nat) (hi : i < 31) : f_and a (f_xor (f_shl 1 i) (-1)) = (((a ||| 2 ^ i) ^^^ 2 ^ i : Nat) : Int) := by
  have hp : 2 ^ i < 2147483648 := Nat.pow_lt_pow_right (a := 2) (n := 31) (by decide) hi
  refine i32_toInt _ _ ?_ (Nat.xor_lt_two_pow (n := 31) (Nat.or_lt_two_pow (n := 31) ha hp) hp)
  rw [fn_shl1 i hi, f_xor, am_i_t, Int32.toBitVec_and, Int32.toBitVec_xor, am_i_nat, am_i_nat]
  apply Nat.eq_of_testBit_eq
  intro j
  rw [BitVec.toNat_and, BitVec.toNat_xor, BitVec.toNat_ofNat, BitVec.toNat_ofNat, Nat.mod_eq_of_lt (by omega), Nat.mod_eq_of_lt (by omega)]
  have e1 : (am_i (-1)).toBitVec.toNat = 2 ^ 32 - 1 := rfl
  rw [e1, Nat.testBit_and, Nat.testBit_xor, Nat.testBit_xor, Nat.testBit_or, Nat.testBit_two_pow_sub_one]
  by_cases hj : j < 32
  · simp only [hj, decide_true, Bool.xor_true]
    cases a.testBit j <;> cases (2 ^ i).testBit j <;> rfl
  · have h2 : a.testBit j = false := Nat.testBit_lt_two_pow (Nat.lt_of_lt_of_le ha (by
      have : 2 ^ 31 ≤ 2 ^ j := Nat.pow_le_pow_right (by decide) (by omega)
      omega))
    have h3 : (2 ^ i).testBit j = false := Nat.testBit_lt_two_pow (Nat.lt_of_lt_of_le hp (by
      have : 2 ^ 31 ≤ 2 ^ j := Nat.pow_le_pow_right (by decide) (by omega)
      omega))
    rw [h2, h3]
    rfl
/-! the same of numbers that aren't negative -/
theorem fi_nat {s : Int} (h : 0 ≤ s) : s = (s.toNat : Int) := (Int.toNat_of_nonneg h).symm
theorem fi_hasBit {s i : Int} (h0 : 0 ≤ s) (h1 : s < 2147483648) (h2 : 0 ≤ i) (h3 : i < 31) : f_and (f_shr s i) 1 = if tb s i = true then 1 else 0 := by
  have e1 : f_shr s i = ((s.toNat >>> i.toNat : Nat) : Int) := by
    conv => lhs; rw [fi_nat h0, fi_nat h2]
    exact fn_shr (by omega) _ (by omega)
  have e2 : s.toNat >>> i.toNat < 2147483648 := Nat.lt_of_le_of_lt (Nat.shiftRight_le _ _) (by omega)
  have e3 : f_and ((s.toNat >>> i.toNat : Nat) : Int) ((1 : Nat) : Int) = _ := fn_and e2 (by decide)
  rw [e1]
  refine e3.trans ?_
  have e4 : (s.toNat >>> i.toNat &&& 1) = if tb s i = true then 1 else 0 := by
    rw [Nat.and_one_is_mod, Nat.shiftRight_eq_div_pow, tb, Nat.testBit_eq_decide_div_mod_eq]
    by_cases q : s.toNat / 2 ^ i.toNat % 2 = 1
    · rw [q, if_pos (by decide)]
    · rw [if_neg (by simpa using q)]
      omega
  rw [e4]
  split <;> rfl
theorem fi_setBit {s i : Int} (h0 : 0 ≤ s) (h1 : s < 2147483648) (h2 : 0 ≤ i) (h3 : i < 31) : f_or s (f_shl 1 i) = wb s i true := by
  have e1 : f_shl 1 i = ((2 ^ i.toNat : Nat) : Int) := by
    conv => lhs; rw [fi_nat h2]
    exact fn_shl1 _ (by omega)
  have hp : 2 ^ i.toNat < 2147483648 := Nat.pow_lt_pow_right (a := 2) (n := 31) (by decide) (by omega)
  rw [e1]
  conv => lhs; rw [fi_nat h0]
  exact fn_or (by omega) hp
theorem fi_clrBit {s i : Int} (h0 : 0 ≤ s) (h1 : s < 2147483648) (h2 : 0 ≤ i) (h3 : i < 31) : f_and s (f_xor (f_shl 1 i) (-1)) = wb s i false := by
  conv => lhs; rw [fi_nat h0, fi_nat h2]
  exact fn_clr (by omega) _ (by omega)
theorem fi_shl {i : Int} (h2 : 0 ≤ i) (h3 : i < 31) : f_shl 1 i = ((2 ^ i.toNat : Nat) : Int) := by
  conv => lhs; rw [fi_nat h2]
  exact fn_shl1 _ (by omega)
theorem fi_and {a b : Int} (h0 : 0 ≤ a) (h1 : a < 2147483648) (h2 : 0 ≤ b) (h3 : b < 2147483648) : f_and a b = ((a.toNat &&& b.toNat : Nat) : Int) := by
  conv => lhs; rw [fi_nat h0, fi_nat h2]
  exact fn_and (by omega) (by omega)
theorem fi_or {a b : Int} (h0 : 0 ≤ a) (h1 : a < 2147483648) (h2 : 0 ≤ b) (h3 : b < 2147483648) : f_or a b = ((a.toNat ||| b.toNat : Nat) : Int) := by
  conv => lhs; rw [fi_nat h0, fi_nat h2]
  exact fn_or (by omega) (by omega)
theorem fi_xor {a b : Int} (h0 : 0 ≤ a) (h1 : a < 2147483648) (h2 : 0 ≤ b) (h3 : b < 2147483648) : f_xor a b = ((a.toNat ^^^ b.toNat : Nat) : Int) := by
  conv => lhs; rw [fi_nat h0, fi_nat h2]
  exact fn_xor (by omega) (by omega)
theorem wb_nonneg (s i : Int) (c : Bool) : 0 ≤ wb s i c := Int.natCast_nonneg _
theorem wb_lt {s i : Int} {c : Bool} {n : Nat} (h0 : 0 ≤ s) (h1 : s < (2 ^ n : Nat)) (h2 : 0 ≤ i) (h3 : i < n) : wb s i c < (2 ^ n : Nat) := by
  have hp : 2 ^ i.toNat < 2 ^ n := Nat.pow_lt_pow_right (by decide) (by omega)
  have hs : s.toNat < 2 ^ n := by omega
  unfold wb
  cases c
  · exact Int.ofNat_lt.mpr (Nat.xor_lt_two_pow (Nat.or_lt_two_pow hs hp) hp)
  · exact Int.ofNat_lt.mpr (Nat.or_lt_two_pow hs hp)
theorem tb_wb {s i j : Int} {c : Bool} (h2 : 0 ≤ i) (hj : 0 ≤ j) : tb (wb s i c) j = if j = i then c else tb s j := by
  unfold tb wb
  rw [Int.toNat_natCast]
  have e : (j.toNat = i.toNat) ↔ j = i := by omega
  have e2 : (i.toNat = j.toNat) ↔ j = i := by omega
  cases c
  · rw [if_neg (by decide), Nat.testBit_xor, Nat.testBit_or, Nat.testBit_two_pow]
    by_cases q : j = i
    · simp [q]
    · simp [q, e2]
  · rw [if_pos rfl, Nat.testBit_or, Nat.testBit_two_pow]
    by_cases q : j = i
    · simp [q]
    · simp [q, e2]
theorem tb_zero (j : Int) : tb 0 j = false := by simp [tb]
theorem tb_ext {s t : Int} {n : Nat} (hs : 0 ≤ s) (hs2 : s < (2 ^ n : Nat)) (ht : 0 ≤ t) (ht2 : t < (2 ^ n : Nat)) (h : ∀ j : Int, 0 ≤ j → j < n → tb s j = tb t j) : s = t := by
  have h1 : s.toNat = t.toNat := by
    apply Nat.eq_of_testBit_eq
    intro j
    by_cases q : j < n
    · have := h (j : Int) (by omega) (by omega)
      simpa [tb] using this
    · have hp : 2 ^ n ≤ 2 ^ j := Nat.pow_le_pow_right (by decide) (by omega)
      rw [Nat.testBit_lt_two_pow (by omega), Nat.testBit_lt_two_pow (by omega)]
  omega
