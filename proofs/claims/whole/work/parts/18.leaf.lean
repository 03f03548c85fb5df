/-! the small methods -/
theorem c_isWithin {d : Nat} {G : AG} {v a b : Int} (hv : -2147483648 ≤ v ∧ v < 2147483648) (ha : -2147483648 ≤ a ∧ a < 2147483648) (hb : -2147483648 ≤ b ∧ b < 2147483648) : Ret d 66 [vI v, vI a, vI b] G (some (vI (if a ≤ v ∧ v ≤ b then 1 else 0))) G := by
  unfold Ret
  by_cases h1 : v < a
  · simp (disch := omega) only [reduceIte, Bool.false_eq_true, p_66_0, p_66_1, p_66_2, p_66_5, p_66_6, p_66_7, p_66_10, p_66_11, p_66_14, p_66_15, if_pos, if_neg]
    simp only [and_true]
  · by_cases h2 : b < v
    · simp (disch := omega) only [reduceIte, Bool.false_eq_true, p_66_0, p_66_1, p_66_2, p_66_5, p_66_6, p_66_7, p_66_10, p_66_11, p_66_14, p_66_15, if_pos, if_neg]
      simp only [and_true]
    · simp (disch := omega) only [reduceIte, Bool.false_eq_true, p_66_0, p_66_1, p_66_2, p_66_5, p_66_6, p_66_7, p_66_10, p_66_11, p_66_14, p_66_15, if_pos, if_neg]
      simp only [and_true]
theorem c_in {d : Nat} {G : AG} {v a b : Int} (hv : -2147483648 ≤ v ∧ v < 2147483648) (ha : -2147483648 ≤ a ∧ a < 2147483648) (hb : -2147483648 ≤ b ∧ b < 2147483648) : Ret d 70 [vI v, vI a, vI b] G (some (vI (if a ≤ v ∧ v ≤ b then 1 else 0))) G := by
  unfold Ret
  by_cases h1 : v < a
  · simp (disch := omega) only [reduceIte, Bool.false_eq_true, p_70_0, p_70_1, p_70_2, p_70_5, p_70_6, p_70_7, p_70_10, p_70_11, p_70_14, p_70_15, if_pos, if_neg]
    simp only [and_true]
  · by_cases h2 : b < v
    · simp (disch := omega) only [reduceIte, Bool.false_eq_true, p_70_0, p_70_1, p_70_2, p_70_5, p_70_6, p_70_7, p_70_10, p_70_11, p_70_14, p_70_15, if_pos, if_neg]
      simp only [and_true]
    · simp (disch := omega) only [reduceIte, Bool.false_eq_true, p_70_0, p_70_1, p_70_2, p_70_5, p_70_6, p_70_7, p_70_10, p_70_11, p_70_14, p_70_15, if_pos, if_neg]
      simp only [and_true]
theorem c_hasBit {d : Nat} {G : AG} {s i : Int} (h0 : 0 ≤ s) (h1 : s < 2147483648) (h2 : 0 ≤ i) (h3 : i < 31) : Ret d 67 [vI s, vI i] G (some (vI (if tb s i = true then 1 else 0))) G := by
  unfold Ret
  by_cases q : tb s i = true
  · simp (disch := omega) only [reduceIte, Bool.false_eq_true, p_67_0, p_67_1, p_67_2, p_67_3, p_67_4, p_67_5, p_67_8, p_67_9, p_67_12, p_67_13, if_pos, if_neg, fi_hasBit h0 h1 h2 h3, q]
    simp only [and_true]
  · simp (disch := omega) only [reduceIte, Bool.false_eq_true, p_67_0, p_67_1, p_67_2, p_67_3, p_67_4, p_67_5, p_67_8, p_67_9, p_67_12, p_67_13, if_pos, if_neg, fi_hasBit h0 h1 h2 h3, q]
    simp only [and_true]
theorem c_withBit {d : Nat} {G : AG} {s i c : Int} (h0 : 0 ≤ s) (h1 : s < 2147483648) (h2 : 0 ≤ i) (h3 : i < 31) (hc : c = 0 ∨ c = 1) : Ret d 68 [vI s, vI i, vI c] G (some (vI (wb s i (decide (c = 1))))) G := by
  unfold Ret
  rcases hc with rfl | rfl
  · simp (disch := omega) only [reduceIte, Bool.false_eq_true, p_68_0, p_68_1, p_68_4, p_68_5, p_68_6, p_68_7, p_68_8, p_68_9, p_68_12, p_68_13, p_68_14, p_68_15, p_68_16, p_68_17, p_68_18, p_68_19, if_pos, if_neg, fi_clrBit h0 h1 h2 h3]
    exact ⟨rfl, trivial⟩
  · simp (disch := omega) only [reduceIte, Bool.false_eq_true, p_68_0, p_68_1, p_68_4, p_68_5, p_68_6, p_68_7, p_68_8, p_68_9, p_68_12, p_68_13, p_68_14, p_68_15, p_68_16, p_68_17, p_68_18, p_68_19, if_pos, if_neg, fi_setBit h0 h1 h2 h3]
    exact ⟨rfl, trivial⟩
theorem c_max {d : Nat} {G : AG} {a b : Int} (ha : -2147483648 ≤ a ∧ a < 2147483648) (hb : -2147483648 ≤ b ∧ b < 2147483648) : Ret d 115 [vI a, vI b] G (some (vI (max a b))) G := by
  unfold Ret
  by_cases q : a < b
  · simp (disch := omega) only [reduceIte, Bool.false_eq_true, p_115_0, p_115_1, p_115_2, p_115_5, p_115_6, p_115_9, p_115_10, if_pos, if_neg, Int.max_def]
    simp only [and_true]
  · simp (disch := omega) only [reduceIte, Bool.false_eq_true, p_115_0, p_115_1, p_115_2, p_115_5, p_115_6, p_115_9, p_115_10, if_pos, if_neg, Int.max_def]
    simp only [and_true]
    split
    · rw [show a = b by omega]
    · rfl
theorem c_abs {d : Nat} {G : AG} {a : Int} (ha : -2147483648 < a ∧ a < 2147483648) : Ret d 114 [vI a] G (some (vI (if a < 0 then -a else a))) G := by
  unfold Ret
  by_cases q : a < 0
  · simp (disch := omega) only [reduceIte, Bool.false_eq_true, p_114_0, p_114_1, p_114_4, p_114_5, p_114_6, p_114_9, p_114_10, if_pos, if_neg]
    simp only [and_true]
  · simp (disch := omega) only [reduceIte, Bool.false_eq_true, p_114_0, p_114_1, p_114_4, p_114_5, p_114_6, p_114_9, p_114_10, if_pos, if_neg]
    simp only [and_true]
theorem c_maxl {d : Nat} {G : AG} {a b : Int} (ha : -9223372036854775808 ≤ a ∧ a < 9223372036854775808) (hb : -9223372036854775808 ≤ b ∧ b < 9223372036854775808) : Ret d 116 [vL a, vU, vL b, vU] G (some (vL (max a b))) G := by
  unfold Ret
  by_cases q : a < b
  · simp (disch := omega) only [reduceIte, Bool.false_eq_true, p_116_0, p_116_1, p_116_2, p_116_3, p_116_6, p_116_7, p_116_10, p_116_11, if_pos, if_neg, Int.max_def, f_cmp]
    simp only [and_true]
  · by_cases q2 : a = b
    · subst q2
      simp (disch := omega) only [reduceIte, Bool.false_eq_true, p_116_0, p_116_1, p_116_2, p_116_3, p_116_6, p_116_7, p_116_10, p_116_11, if_pos, if_neg, Int.max_def, f_cmp]
      simp only [and_true]
    · simp (disch := omega) only [reduceIte, Bool.false_eq_true, p_116_0, p_116_1, p_116_2, p_116_3, p_116_6, p_116_7, p_116_10, p_116_11, if_pos, if_neg, Int.max_def, f_cmp]
      simp only [and_true]
theorem f_lrem_mod {a b : Int} (ha : -9223372036854775808 ≤ a ∧ a < 9223372036854775808) (hb : 0 < b ∧ b < 4611686018427387904) : f_lrem a b = a.tmod b := by
  have h3 := Int.tmod_lt_of_pos a hb.1
  have h4 : -b < a.tmod b := by
    have := Int.lt_tmod_of_pos a hb.1
    omega
  unfold f_lrem
  have e1 : am_l a - am_l a / am_l b * am_l b = am_l (a.tmod b) := by
    have e2 : am_l a / am_l b = am_l (a.tdiv b) := by
      apply Int64.toInt_inj.mp
      rw [Int64.toInt_div, am_lt ha.1 ha.2, am_lt (by omega) (by omega), am_l, Int64.toInt_ofInt]
    rw [e2, ← am_l_mul, ← am_l_sub]
    congr 1
    have := Int.tmod_add_mul_tdiv a b
    rw [Int.mul_comm]
    omega
  rw [e1, am_lt (by omega) (by omega)]
theorem fl_xor_neg {a b : Int} (ha : -9223372036854775808 ≤ a ∧ a < 9223372036854775808) (hb : 0 < b ∧ b < 4611686018427387904) : f_lxor a b < 0 ↔ a < 0 := by
  unfold f_lxor
  have h1 : (am_l a ^^^ am_l b).toInt < 0 ↔ (am_l a ^^^ am_l b).toBitVec.msb = true := by
    rw [Int64.toInt, BitVec.msb_eq_toInt, decide_eq_true_iff]
  have h2 : (am_l a).toBitVec.msb = decide (a < 0) := by
    rw [BitVec.msb_eq_toInt]
    show decide ((am_l a).toInt < 0) = _
    rw [am_lt ha.1 ha.2]
  have h3 : (am_l b).toBitVec.msb = false := by
    rw [BitVec.msb_eq_toInt]
    show decide ((am_l b).toInt < 0) = _
    rw [am_lt (by omega) (by omega)]
    exact decide_eq_false (by omega)
  rw [h1, Int64.toBitVec_xor, BitVec.msb_xor, h2, h3]
  simp
theorem c_floorMod {d : Nat} {G : AG} {a b : Int} (ha : -9223372036854775808 ≤ a ∧ a < 9223372036854775808) (hb : 0 < b ∧ b < 4611686018427387904) : Ret d 113 [vL a, vU, vL b, vU, vU, vU] G (some (vL (a % b))) G := by
  unfold Ret
  have h3 := Int.tmod_lt_of_pos a hb.1
  have h4 : -b < a.tmod b := by
    have := Int.lt_tmod_of_pos a hb.1
    omega
  have h5 : -9223372036854775808 ≤ f_lxor a b ∧ f_lxor a b < 9223372036854775808 := by
    unfold f_lxor
    have h1 := Int64.le_toInt (am_l a ^^^ am_l b)
    have h2 := Int64.toInt_lt (am_l a ^^^ am_l b)
    omega
  have h6 := fl_xor_neg ha hb
  by_cases q : a < 0
  · have q2 := h6.mpr q
    by_cases q3 : a.tmod b = 0
    · simp (disch := omega) only [reduceIte, Bool.false_eq_true, p_113_0, p_113_1, p_113_2, p_113_3, p_113_3r, p_113_3u, p_113_5, p_113_6, p_113_7, p_113_8, p_113_9, p_113_10, p_113_13, p_113_15, p_113_16, p_113_17, p_113_20, p_113_22, p_113_23, p_113_24, p_113_25, p_113_27, if_pos, if_neg, f_cmp, f_lrem_mod ha hb]
      simp only [and_true, q3]
      have := Int.emod_eq_zero_of_dvd (Int.dvd_of_tmod_eq_zero q3)
      rw [this]
    · simp (disch := omega) only [reduceIte, Bool.false_eq_true, p_113_0, p_113_1, p_113_2, p_113_3, p_113_3r, p_113_3u, p_113_5, p_113_6, p_113_7, p_113_8, p_113_9, p_113_10, p_113_13, p_113_15, p_113_16, p_113_17, p_113_20, p_113_22, p_113_23, p_113_24, p_113_25, p_113_27, if_pos, if_neg, f_cmp, f_lrem_mod ha hb]
      simp only [and_true]
      have e1 : a.tmod b = -((-a).tmod b) := by rw [Int.neg_tmod, Int.neg_neg]
      have e2 : (-a).tmod b = (-a) % b := Int.tmod_eq_emod_of_nonneg (by omega)
      have e3 := Int.emod_nonneg (-a) (show b ≠ 0 by omega)
      have e4 : (a.tmod b + b) % b = a.tmod b + b := Int.emod_eq_of_lt (by omega) (by omega)
      have e5 : a % b = (a.tmod b + b) % b := by
        rw [Int.add_emod_right]
        have := Int.tmod_add_mul_tdiv a b
        conv => lhs; rw [← this]
        exact Int.add_mul_emod_self_left _ _ _
      rw [e5, e4]
  · have q2 : ¬ f_lxor a b < 0 := fun z => q (h6.mp z)
    have e2 : a.tmod b = a % b := Int.tmod_eq_emod_of_nonneg (by omega)
    by_cases q3 : f_lxor a b = 0
    · simp (disch := omega) only [reduceIte, Bool.false_eq_true, p_113_0, p_113_1, p_113_2, p_113_3, p_113_3r, p_113_3u, p_113_5, p_113_6, p_113_7, p_113_8, p_113_9, p_113_10, p_113_13, p_113_15, p_113_16, p_113_17, p_113_20, p_113_22, p_113_23, p_113_24, p_113_25, p_113_27, if_pos, if_neg, f_cmp, f_lrem_mod ha hb]
      simp only [and_true, e2]
    · simp (disch := omega) only [reduceIte, Bool.false_eq_true, p_113_0, p_113_1, p_113_2, p_113_3, p_113_3r, p_113_3u, p_113_5, p_113_6, p_113_7, p_113_8, p_113_9, p_113_10, p_113_13, p_113_15, p_113_16, p_113_17, p_113_20, p_113_22, p_113_23, p_113_24, p_113_25, p_113_27, if_pos, if_neg, f_cmp, f_lrem_mod ha hb]
      simp only [and_true, e2]
/-- a row filled from i on -/
def gfill (G : AG) (r : Nat) (i n z : Int) : AG := fun b j => if b = r ∧ i ≤ j ∧ j < n then z else G b j
theorem gfill_end (G : AG) (r : Nat) (n z : Int) : gfill G r n n z = G := by
  funext b j
  unfold gfill
  rw [if_neg (by omega)]
theorem gfill_step (G : AG) (r : Nat) {i n z : Int} (h : i < n) : gfill (am_up G r i z) r (i + 1) n z = gfill G r i n z := by
  funext b j
  unfold gfill am_up
  by_cases h1 : b = r
  · by_cases h2 : j = i
    · rw [if_neg (by omega), if_pos h1, if_pos h2, if_pos (by omega)]
    · by_cases h3 : i ≤ j ∧ j < n
      · rw [if_pos (by omega), if_pos (by omega)]
      · rw [if_neg (by omega), if_pos h1, if_neg h2, if_neg (by omega)]
  · rw [if_neg (by omega), if_neg h1, if_neg (by omega)]
theorem l_fill {d r n : Nat} {z : Int} {Q : Option AV → AG → Prop} (hs : SKG[r]? = some (1, n, [])) (hn : (n : Int) < 2147483648) : ∀ (m : Nat) (i : Int) (G : AG), 0 ≤ i → i + m = n → (Ends d 118 5 [vR r, vI z, vI i, vI n] [] G Q ↔ Q none (gfill G r i n z)) := by
  intro m
  induction m with
  | zero =>
    intro i G h0 h1
    have e : i = n := by omega
    subst e
    simp (disch := omega) only [reduceIte, Bool.false_eq_true, p_118_0, p_118_1, p_118_2, p_118_3, p_118_4, p_118_5, p_118_6, p_118_7, p_118_10, p_118_11, p_118_12, p_118_13, p_118_14, p_118_20, if_pos, if_neg]
    rw [gfill_end]
  | succ m ih =>
    intro i G h0 h1
    simp (disch := omega) only [reduceIte, Bool.false_eq_true, p_118_0, p_118_1, p_118_2, p_118_3, p_118_4, p_118_5, p_118_6, p_118_7, p_118_10, p_118_11, p_118_12, p_118_14, p_118_20, if_pos, if_neg]
    rw [p_118_13 hs h0 (by omega) hn]
    simp (disch := omega) only [reduceIte, Bool.false_eq_true, p_118_14, p_118_17]
    rw [ih (i + 1) _ (by omega) (by omega), gfill_step G r (by omega)]
theorem c_fill {d r n : Nat} {z : Int} {G : AG} (hs : SKG[r]? = some (1, n, [])) (hn : (n : Int) < 2147483648) : Ret d 118 [vR r, vI z, vU, vU] G none (gfill G r 0 n z) := by
  unfold Ret
  simp (disch := omega) only [reduceIte, Bool.false_eq_true, p_118_0, p_118_1, p_118_2]
  rw [p_118_3 hs, p_118_4, l_fill hs hn n 0 G (by omega) (by omega)]
  exact ⟨rfl, rfl⟩
theorem l_filll {d r n : Nat} {z : Int} {Q : Option AV → AG → Prop} (hs : SKG[r]? = some (3, n, [])) (hn : (n : Int) < 2147483648) : ∀ (m : Nat) (i : Int) (G : AG), 0 ≤ i → i + m = n → (Ends d 117 6 [vR r, vL z, vU, vI i, vI n] [] G Q ↔ Q none (gfill G r i n z)) := by
  intro m
  induction m with
  | zero =>
    intro i G h0 h1
    have e : i = n := by omega
    subst e
    simp (disch := omega) only [reduceIte, Bool.false_eq_true, p_117_0, p_117_1, p_117_1r, p_117_1u, p_117_2, p_117_3, p_117_4, p_117_6, p_117_7, p_117_9, p_117_12, p_117_13, p_117_14, p_117_15, p_117_16, p_117_22, if_pos, if_neg]
    rw [gfill_end]
  | succ m ih =>
    intro i G h0 h1
    simp (disch := omega) only [reduceIte, Bool.false_eq_true, p_117_0, p_117_1, p_117_1r, p_117_1u, p_117_2, p_117_3, p_117_4, p_117_6, p_117_7, p_117_9, p_117_12, p_117_13, p_117_14, p_117_16, p_117_22, if_pos, if_neg]
    rw [p_117_15 hs h0 (by omega) hn]
    simp (disch := omega) only [reduceIte, Bool.false_eq_true, p_117_16, p_117_19]
    rw [ih (i + 1) _ (by omega) (by omega), gfill_step G r (by omega)]
theorem c_filll {d r n : Nat} {z : Int} {G : AG} (hs : SKG[r]? = some (3, n, [])) (hn : (n : Int) < 2147483648) : Ret d 117 [vR r, vL z, vU, vU, vU] G none (gfill G r 0 n z) := by
  unfold Ret
  simp (disch := omega) only [reduceIte, Bool.false_eq_true, p_117_0, p_117_1, p_117_1r, p_117_1u, p_117_2]
  rw [p_117_3 hs, p_117_4, l_filll hs hn n 0 G (by omega) (by omega)]
  exact ⟨rfl, rfl⟩
