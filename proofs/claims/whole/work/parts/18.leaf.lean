/-! the small methods -/
theorem c_isWithin {d : Nat} {G : AG} {x0 x1 x2 : Int} (h0 : -2147483648 ≤ x0) (h1 : x0 < 2147483648) (h2 : -2147483648 ≤ x1) (h3 : x1 < 2147483648) (h4 : -2147483648 ≤ x2) (h5 : x2 < 2147483648) : Ret (d + 0) 66 [vI x0, vI x1, vI x2] G (some (vI (if x1 ≤ x0 ∧ x0 ≤ x2 then 1 else 0))) (G) := by
  unfold Ret
  by_cases h1 : x0 < x1
  · simp (disch := omega) only [reduceIte, Bool.false_eq_true, if_pos, if_neg, p_66_0, p_66_1, p_66_2, p_66_5, p_66_6, p_66_7, p_66_10, p_66_11, p_66_14, p_66_15]
    simp only [and_true]
  · by_cases h2 : x2 < x0
    · simp (disch := omega) only [reduceIte, Bool.false_eq_true, if_pos, if_neg, p_66_0, p_66_1, p_66_2, p_66_5, p_66_6, p_66_7, p_66_10, p_66_11, p_66_14, p_66_15]
      simp only [and_true]
    · simp (disch := omega) only [reduceIte, Bool.false_eq_true, if_pos, if_neg, p_66_0, p_66_1, p_66_2, p_66_5, p_66_6, p_66_7, p_66_10, p_66_11, p_66_14, p_66_15]
      simp only [and_true]
theorem c_in {d : Nat} {G : AG} {x0 x1 x2 : Int} (h0 : -2147483648 ≤ x0) (h1 : x0 < 2147483648) (h2 : -2147483648 ≤ x1) (h3 : x1 < 2147483648) (h4 : -2147483648 ≤ x2) (h5 : x2 < 2147483648) : Ret (d + 0) 70 [vI x0, vI x1, vI x2] G (some (vI (if x1 ≤ x0 ∧ x0 ≤ x2 then 1 else 0))) (G) := by
  unfold Ret
  by_cases h1 : x0 < x1
  · simp (disch := omega) only [reduceIte, Bool.false_eq_true, if_pos, if_neg, p_70_0, p_70_1, p_70_2, p_70_5, p_70_6, p_70_7, p_70_10, p_70_11, p_70_14, p_70_15]
    simp only [and_true]
  · by_cases h2 : x2 < x0
    · simp (disch := omega) only [reduceIte, Bool.false_eq_true, if_pos, if_neg, p_70_0, p_70_1, p_70_2, p_70_5, p_70_6, p_70_7, p_70_10, p_70_11, p_70_14, p_70_15]
      simp only [and_true]
    · simp (disch := omega) only [reduceIte, Bool.false_eq_true, if_pos, if_neg, p_70_0, p_70_1, p_70_2, p_70_5, p_70_6, p_70_7, p_70_10, p_70_11, p_70_14, p_70_15]
      simp only [and_true]
theorem c_hasBit {d : Nat} {G : AG} {x0 x1 : Int} (h0 : 0 ≤ x0) (h1 : x0 < 2147483648) (h2 : 0 ≤ x1) (h3 : x1 < 31) : Ret (d + 0) 67 [vI x0, vI x1] G (some (vI (if tb x0 x1 = true then 1 else 0))) (G) := by
  unfold Ret
  by_cases q : tb x0 x1 = true
  · simp (disch := omega) only [reduceIte, Bool.false_eq_true, if_pos, if_neg, p_67_0, p_67_1, p_67_2, p_67_3, p_67_4, p_67_5, p_67_8, p_67_9, p_67_12, p_67_13, fi_hasBit h0 h1 h2 h3, q]
    simp only [and_true]
  · simp (disch := omega) only [reduceIte, Bool.false_eq_true, if_pos, if_neg, p_67_0, p_67_1, p_67_2, p_67_3, p_67_4, p_67_5, p_67_8, p_67_9, p_67_12, p_67_13, fi_hasBit h0 h1 h2 h3, q]
    simp only [and_true]
theorem c_withBit {d : Nat} {G : AG} {x0 x1 x2 : Int} (h0 : 0 ≤ x0) (h1 : x0 < 2147483648) (h2 : 0 ≤ x1) (h3 : x1 < 31) (h4 : x2 = 0 ∨ x2 = 1) : Ret (d + 0) 68 [vI x0, vI x1, vI x2] G (some (vI (wb x0 x1 (decide (x2 = 1))))) (G) := by
  unfold Ret
  rcases h4 with rfl | rfl
  · simp (disch := omega) only [reduceIte, Bool.false_eq_true, if_pos, if_neg, p_68_0, p_68_1, p_68_4, p_68_5, p_68_6, p_68_7, p_68_8, p_68_9, p_68_12, p_68_13, p_68_14, p_68_15, p_68_16, p_68_17, p_68_18, p_68_19, fi_clrBit h0 h1 h2 h3]
    exact ⟨rfl, trivial⟩
  · simp (disch := omega) only [reduceIte, Bool.false_eq_true, if_pos, if_neg, p_68_0, p_68_1, p_68_4, p_68_5, p_68_6, p_68_7, p_68_8, p_68_9, p_68_12, p_68_13, p_68_14, p_68_15, p_68_16, p_68_17, p_68_18, p_68_19, fi_setBit h0 h1 h2 h3]
    exact ⟨rfl, trivial⟩
theorem c_max {d : Nat} {G : AG} {x0 x1 : Int} (h0 : -2147483648 ≤ x0) (h1 : x0 < 2147483648) (h2 : -2147483648 ≤ x1) (h3 : x1 < 2147483648) : Ret (d + 0) 115 [vI x0, vI x1] G (some (vI (max x0 x1))) (G) := by
  unfold Ret
  by_cases q : x0 < x1
  · simp (disch := omega) only [reduceIte, Bool.false_eq_true, if_pos, if_neg, p_115_0, p_115_1, p_115_2, p_115_5, p_115_6, p_115_9, p_115_10, Int.max_def]
    simp only [and_true]
  · simp (disch := omega) only [reduceIte, Bool.false_eq_true, if_pos, if_neg, p_115_0, p_115_1, p_115_2, p_115_5, p_115_6, p_115_9, p_115_10, Int.max_def]
    simp only [and_true]
    split
    · rw [show x0 = x1 by omega]
    · rfl
theorem c_abs {d : Nat} {G : AG} {x0 : Int} (h0 : -2147483648 < x0) (h1 : x0 < 2147483648) : Ret (d + 0) 114 [vI x0] G (some (vI (if x0 < 0 then -x0 else x0))) (G) := by
  unfold Ret
  by_cases q : x0 < 0
  · simp (disch := omega) only [reduceIte, Bool.false_eq_true, if_pos, if_neg, p_114_0, p_114_1, p_114_4, p_114_5, p_114_6, p_114_9, p_114_10]
    simp only [and_true]
  · simp (disch := omega) only [reduceIte, Bool.false_eq_true, if_pos, if_neg, p_114_0, p_114_1, p_114_4, p_114_5, p_114_6, p_114_9, p_114_10]
    simp only [and_true]
theorem c_maxl {d : Nat} {G : AG} {x0 x1 : Int} (h0 : -9223372036854775808 ≤ x0) (h1 : x0 < 9223372036854775808) (h2 : -9223372036854775808 ≤ x1) (h3 : x1 < 9223372036854775808) : Ret (d + 0) 116 [vL x0, vU, vL x1, vU] G (some (vL (max x0 x1))) (G) := by
  unfold Ret
  by_cases q : x0 < x1
  · simp (disch := omega) only [reduceIte, Bool.false_eq_true, if_pos, if_neg, p_116_0, p_116_1, p_116_2, p_116_3, p_116_6, p_116_7, p_116_10, p_116_11, Int.max_def, f_cmp]
    simp only [and_true]
  · by_cases q2 : x0 = x1
    · subst q2
      simp (disch := omega) only [reduceIte, Bool.false_eq_true, if_pos, if_neg, p_116_0, p_116_1, p_116_2, p_116_3, p_116_6, p_116_7, p_116_10, p_116_11, Int.max_def, f_cmp]
      simp only [and_true]
    · simp (disch := omega) only [reduceIte, Bool.false_eq_true, if_pos, if_neg, p_116_0, p_116_1, p_116_2, p_116_3, p_116_6, p_116_7, p_116_10, p_116_11, Int.max_def, f_cmp]
      simp only [and_true]
theorem q_0_8 {d : Nat} {G : AG} {Q : Option AV → AG → Prop} {x0 x1 x2 : Int} {l0 l1 : AV} (h0 : -2147483648 ≤ x0) (h1 : x0 < 2147483648) (h2 : -2147483648 ≤ x1) (h3 : x1 < 2147483648) (h4 : -2147483648 ≤ x2) (h5 : x2 < 2147483648) : Ends (d + 1) 0 8 [l0, l1] (vI x2 :: vI x1 :: vI x0 :: []) G Q ↔ Ends (d + 1) 0 11 [l0, l1] (vI (if x1 ≤ x0 ∧ x0 ≤ x2 then 1 else 0) :: []) (G) Q := p_0_8 (d := d + 0) (c_isWithin (d := d + 0) h0 h1 h2 h3 h4 h5)
theorem q_8_8 {d : Nat} {G : AG} {Q : Option AV → AG → Prop} {x0 x1 x2 : Int} {l0 l1 : AV} (h0 : -2147483648 ≤ x0) (h1 : x0 < 2147483648) (h2 : -2147483648 ≤ x1) (h3 : x1 < 2147483648) (h4 : -2147483648 ≤ x2) (h5 : x2 < 2147483648) : Ends (d + 1) 8 8 [l0, l1] (vI x2 :: vI x1 :: vI x0 :: []) G Q ↔ Ends (d + 1) 8 11 [l0, l1] (vI (if x1 ≤ x0 ∧ x0 ≤ x2 then 1 else 0) :: []) (G) Q := p_8_8 (d := d + 0) (c_isWithin (d := d + 0) h0 h1 h2 h3 h4 h5)
theorem q_12_8 {d : Nat} {G : AG} {Q : Option AV → AG → Prop} {x0 x1 x2 : Int} {l0 l1 : AV} (h0 : -2147483648 ≤ x0) (h1 : x0 < 2147483648) (h2 : -2147483648 ≤ x1) (h3 : x1 < 2147483648) (h4 : -2147483648 ≤ x2) (h5 : x2 < 2147483648) : Ends (d + 1) 12 8 [l0, l1] (vI x2 :: vI x1 :: vI x0 :: []) G Q ↔ Ends (d + 1) 12 11 [l0, l1] (vI (if x1 ≤ x0 ∧ x0 ≤ x2 then 1 else 0) :: []) (G) Q := p_12_8 (d := d + 0) (c_isWithin (d := d + 0) h0 h1 h2 h3 h4 h5)
theorem q_33_8 {d : Nat} {G : AG} {Q : Option AV → AG → Prop} {x0 x1 x2 : Int} {l0 l1 : AV} (h0 : -2147483648 ≤ x0) (h1 : x0 < 2147483648) (h2 : -2147483648 ≤ x1) (h3 : x1 < 2147483648) (h4 : -2147483648 ≤ x2) (h5 : x2 < 2147483648) : Ends (d + 1) 33 8 [l0, l1] (vI x2 :: vI x1 :: vI x0 :: []) G Q ↔ Ends (d + 1) 33 11 [l0, l1] (vI (if x1 ≤ x0 ∧ x0 ≤ x2 then 1 else 0) :: []) (G) Q := p_33_8 (d := d + 0) (c_isWithin (d := d + 0) h0 h1 h2 h3 h4 h5)
theorem q_45_5 {d : Nat} {G : AG} {Q : Option AV → AG → Prop} {x0 x1 x2 : Int} {l0 l1 l2 : AV} (h0 : -2147483648 ≤ x0) (h1 : x0 < 2147483648) (h2 : -2147483648 ≤ x1) (h3 : x1 < 2147483648) (h4 : -2147483648 ≤ x2) (h5 : x2 < 2147483648) : Ends (d + 1) 45 5 [l0, l1, l2] (vI x2 :: vI x1 :: vI x0 :: []) G Q ↔ Ends (d + 1) 45 8 [l0, l1, l2] (vI (if x1 ≤ x0 ∧ x0 ≤ x2 then 1 else 0) :: []) (G) Q := p_45_5 (d := d + 0) (c_isWithin (d := d + 0) h0 h1 h2 h3 h4 h5)
theorem q_45_15 {d : Nat} {G : AG} {Q : Option AV → AG → Prop} {x0 x1 x2 : Int} {l0 l1 l2 : AV} (h0 : -2147483648 ≤ x0) (h1 : x0 < 2147483648) (h2 : -2147483648 ≤ x1) (h3 : x1 < 2147483648) (h4 : -2147483648 ≤ x2) (h5 : x2 < 2147483648) : Ends (d + 1) 45 15 [l0, l1, l2] (vI x2 :: vI x1 :: vI x0 :: []) G Q ↔ Ends (d + 1) 45 18 [l0, l1, l2] (vI (if x1 ≤ x0 ∧ x0 ≤ x2 then 1 else 0) :: []) (G) Q := p_45_15 (d := d + 0) (c_isWithin (d := d + 0) h0 h1 h2 h3 h4 h5)
theorem q_46_4 {d : Nat} {G : AG} {Q : Option AV → AG → Prop} {x0 x1 x2 : Int} {l0 l1 : AV} (h0 : -2147483648 ≤ x0) (h1 : x0 < 2147483648) (h2 : -2147483648 ≤ x1) (h3 : x1 < 2147483648) (h4 : -2147483648 ≤ x2) (h5 : x2 < 2147483648) : Ends (d + 1) 46 4 [l0, l1] (vI x2 :: vI x1 :: vI x0 :: []) G Q ↔ Ends (d + 1) 46 7 [l0, l1] (vI (if x1 ≤ x0 ∧ x0 ≤ x2 then 1 else 0) :: []) (G) Q := p_46_4 (d := d + 0) (c_isWithin (d := d + 0) h0 h1 h2 h3 h4 h5)
theorem q_47_26 {d : Nat} {G : AG} {Q : Option AV → AG → Prop} {x0 x1 x2 : Int} {l0 l1 l2 l3 : AV} (h0 : -2147483648 ≤ x0) (h1 : x0 < 2147483648) (h2 : -2147483648 ≤ x1) (h3 : x1 < 2147483648) (h4 : -2147483648 ≤ x2) (h5 : x2 < 2147483648) : Ends (d + 2) 47 26 [l0, l1, l2, l3] (vI x2 :: vI x1 :: vI x0 :: []) G Q ↔ Ends (d + 2) 47 29 [l0, l1, l2, l3] (vI (if x1 ≤ x0 ∧ x0 ≤ x2 then 1 else 0) :: []) (G) Q := p_47_26 (d := d + 1) (c_isWithin (d := d + 1) h0 h1 h2 h3 h4 h5)
theorem q_50_10 {d : Nat} {G : AG} {Q : Option AV → AG → Prop} {x0 x1 x2 : Int} {l0 l1 l2 l3 : AV} (h0 : -2147483648 ≤ x0) (h1 : x0 < 2147483648) (h2 : -2147483648 ≤ x1) (h3 : x1 < 2147483648) (h4 : -2147483648 ≤ x2) (h5 : x2 < 2147483648) : Ends (d + 1) 50 10 [l0, l1, l2, l3] (vI x2 :: vI x1 :: vI x0 :: []) G Q ↔ Ends (d + 1) 50 13 [l0, l1, l2, l3] (vI (if x1 ≤ x0 ∧ x0 ≤ x2 then 1 else 0) :: []) (G) Q := p_50_10 (d := d + 0) (c_isWithin (d := d + 0) h0 h1 h2 h3 h4 h5)
theorem q_50_44 {d : Nat} {G : AG} {Q : Option AV → AG → Prop} {x0 x1 x2 : Int} {l0 l1 l2 l3 : AV} (h0 : -2147483648 ≤ x0) (h1 : x0 < 2147483648) (h2 : -2147483648 ≤ x1) (h3 : x1 < 2147483648) (h4 : -2147483648 ≤ x2) (h5 : x2 < 2147483648) : Ends (d + 1) 50 44 [l0, l1, l2, l3] (vI x2 :: vI x1 :: vI x0 :: []) G Q ↔ Ends (d + 1) 50 47 [l0, l1, l2, l3] (vI (if x1 ≤ x0 ∧ x0 ≤ x2 then 1 else 0) :: []) (G) Q := p_50_44 (d := d + 0) (c_isWithin (d := d + 0) h0 h1 h2 h3 h4 h5)
theorem q_51_3 {d : Nat} {G : AG} {Q : Option AV → AG → Prop} {x0 x1 x2 : Int} {l0 l1 l2 : AV} (h0 : -2147483648 ≤ x0) (h1 : x0 < 2147483648) (h2 : -2147483648 ≤ x1) (h3 : x1 < 2147483648) (h4 : -2147483648 ≤ x2) (h5 : x2 < 2147483648) : Ends (d + 2) 51 3 [l0, l1, l2] (vI x2 :: vI x1 :: vI x0 :: []) G Q ↔ Ends (d + 2) 51 6 [l0, l1, l2] (vI (if x1 ≤ x0 ∧ x0 ≤ x2 then 1 else 0) :: []) (G) Q := p_51_3 (d := d + 1) (c_isWithin (d := d + 1) h0 h1 h2 h3 h4 h5)
theorem q_51_12 {d : Nat} {G : AG} {Q : Option AV → AG → Prop} {x0 x1 x2 : Int} {l0 l1 l2 : AV} (h0 : -2147483648 ≤ x0) (h1 : x0 < 2147483648) (h2 : -2147483648 ≤ x1) (h3 : x1 < 2147483648) (h4 : -2147483648 ≤ x2) (h5 : x2 < 2147483648) : Ends (d + 2) 51 12 [l0, l1, l2] (vI x2 :: vI x1 :: vI x0 :: []) G Q ↔ Ends (d + 2) 51 15 [l0, l1, l2] (vI (if x1 ≤ x0 ∧ x0 ≤ x2 then 1 else 0) :: []) (G) Q := p_51_12 (d := d + 1) (c_isWithin (d := d + 1) h0 h1 h2 h3 h4 h5)
theorem q_58_15 {d : Nat} {G : AG} {Q : Option AV → AG → Prop} {x0 x1 x2 : Int} {l0 l1 l2 l3 l4 : AV} (h0 : -2147483648 ≤ x0) (h1 : x0 < 2147483648) (h2 : -2147483648 ≤ x1) (h3 : x1 < 2147483648) (h4 : -2147483648 ≤ x2) (h5 : x2 < 2147483648) : Ends (d + 2) 58 15 [l0, l1, l2, l3, l4] (vI x2 :: vI x1 :: vI x0 :: []) G Q ↔ Ends (d + 2) 58 18 [l0, l1, l2, l3, l4] (vI (if x1 ≤ x0 ∧ x0 ≤ x2 then 1 else 0) :: []) (G) Q := p_58_15 (d := d + 1) (c_isWithin (d := d + 1) h0 h1 h2 h3 h4 h5)
theorem q_58_25 {d : Nat} {G : AG} {Q : Option AV → AG → Prop} {x0 x1 x2 : Int} {l0 l1 l2 l3 l4 : AV} (h0 : -2147483648 ≤ x0) (h1 : x0 < 2147483648) (h2 : -2147483648 ≤ x1) (h3 : x1 < 2147483648) (h4 : -2147483648 ≤ x2) (h5 : x2 < 2147483648) : Ends (d + 2) 58 25 [l0, l1, l2, l3, l4] (vI x2 :: vI x1 :: vI x0 :: []) G Q ↔ Ends (d + 2) 58 28 [l0, l1, l2, l3, l4] (vI (if x1 ≤ x0 ∧ x0 ≤ x2 then 1 else 0) :: []) (G) Q := p_58_25 (d := d + 1) (c_isWithin (d := d + 1) h0 h1 h2 h3 h4 h5)
theorem q_59_16 {d : Nat} {G : AG} {Q : Option AV → AG → Prop} {x0 x1 x2 : Int} {l0 l1 l2 : AV} (h0 : -2147483648 ≤ x0) (h1 : x0 < 2147483648) (h2 : -2147483648 ≤ x1) (h3 : x1 < 2147483648) (h4 : -2147483648 ≤ x2) (h5 : x2 < 2147483648) : Ends (d + 2) 59 16 [l0, l1, l2] (vI x2 :: vI x1 :: vI x0 :: []) G Q ↔ Ends (d + 2) 59 19 [l0, l1, l2] (vI (if x1 ≤ x0 ∧ x0 ≤ x2 then 1 else 0) :: []) (G) Q := p_59_16 (d := d + 1) (c_isWithin (d := d + 1) h0 h1 h2 h3 h4 h5)
theorem q_60_5 {d : Nat} {G : AG} {Q : Option AV → AG → Prop} {x0 x1 x2 : Int} {l0 l1 l2 : AV} (h0 : -2147483648 ≤ x0) (h1 : x0 < 2147483648) (h2 : -2147483648 ≤ x1) (h3 : x1 < 2147483648) (h4 : -2147483648 ≤ x2) (h5 : x2 < 2147483648) : Ends (d + 5) 60 5 [l0, l1, l2] (vI x2 :: vI x1 :: vI x0 :: []) G Q ↔ Ends (d + 5) 60 8 [l0, l1, l2] (vI (if x1 ≤ x0 ∧ x0 ≤ x2 then 1 else 0) :: []) (G) Q := p_60_5 (d := d + 4) (c_isWithin (d := d + 4) h0 h1 h2 h3 h4 h5)
theorem q_60_16 {d : Nat} {G : AG} {Q : Option AV → AG → Prop} {x0 x1 x2 : Int} {l0 l1 l2 : AV} (h0 : -2147483648 ≤ x0) (h1 : x0 < 2147483648) (h2 : -2147483648 ≤ x1) (h3 : x1 < 2147483648) (h4 : -2147483648 ≤ x2) (h5 : x2 < 2147483648) : Ends (d + 5) 60 16 [l0, l1, l2] (vI x2 :: vI x1 :: vI x0 :: []) G Q ↔ Ends (d + 5) 60 19 [l0, l1, l2] (vI (if x1 ≤ x0 ∧ x0 ≤ x2 then 1 else 0) :: []) (G) Q := p_60_16 (d := d + 4) (c_isWithin (d := d + 4) h0 h1 h2 h3 h4 h5)
theorem q_61_11 {d : Nat} {G : AG} {Q : Option AV → AG → Prop} {x0 x1 x2 : Int} {l0 l1 : AV} (h0 : -2147483648 ≤ x0) (h1 : x0 < 2147483648) (h2 : -2147483648 ≤ x1) (h3 : x1 < 2147483648) (h4 : -2147483648 ≤ x2) (h5 : x2 < 2147483648) : Ends (d + 1) 61 11 [l0, l1] (vI x2 :: vI x1 :: vI x0 :: []) G Q ↔ Ends (d + 1) 61 14 [l0, l1] (vI (if x1 ≤ x0 ∧ x0 ≤ x2 then 1 else 0) :: []) (G) Q := p_61_11 (d := d + 0) (c_isWithin (d := d + 0) h0 h1 h2 h3 h4 h5)
theorem q_62_4 {d : Nat} {G : AG} {Q : Option AV → AG → Prop} {x0 x1 x2 : Int} {l0 l1 l2 : AV} (h0 : -2147483648 ≤ x0) (h1 : x0 < 2147483648) (h2 : -2147483648 ≤ x1) (h3 : x1 < 2147483648) (h4 : -2147483648 ≤ x2) (h5 : x2 < 2147483648) : Ends (d + 2) 62 4 [l0, l1, l2] (vI x2 :: vI x1 :: vI x0 :: []) G Q ↔ Ends (d + 2) 62 7 [l0, l1, l2] (vI (if x1 ≤ x0 ∧ x0 ≤ x2 then 1 else 0) :: []) (G) Q := p_62_4 (d := d + 1) (c_isWithin (d := d + 1) h0 h1 h2 h3 h4 h5)
theorem q_63_4 {d : Nat} {G : AG} {Q : Option AV → AG → Prop} {x0 x1 x2 : Int} {l0 l1 l2 l3 : AV} (h0 : -2147483648 ≤ x0) (h1 : x0 < 2147483648) (h2 : -2147483648 ≤ x1) (h3 : x1 < 2147483648) (h4 : -2147483648 ≤ x2) (h5 : x2 < 2147483648) : Ends (d + 2) 63 4 [l0, l1, l2, l3] (vI x2 :: vI x1 :: vI x0 :: []) G Q ↔ Ends (d + 2) 63 7 [l0, l1, l2, l3] (vI (if x1 ≤ x0 ∧ x0 ≤ x2 then 1 else 0) :: []) (G) Q := p_63_4 (d := d + 1) (c_isWithin (d := d + 1) h0 h1 h2 h3 h4 h5)
theorem q_72_8 {d : Nat} {G : AG} {Q : Option AV → AG → Prop} {x0 x1 x2 : Int} {l0 l1 : AV} (h0 : -2147483648 ≤ x0) (h1 : x0 < 2147483648) (h2 : -2147483648 ≤ x1) (h3 : x1 < 2147483648) (h4 : -2147483648 ≤ x2) (h5 : x2 < 2147483648) : Ends (d + 1) 72 8 [l0, l1] (vI x2 :: vI x1 :: vI x0 :: []) G Q ↔ Ends (d + 1) 72 11 [l0, l1] (vI (if x1 ≤ x0 ∧ x0 ≤ x2 then 1 else 0) :: []) (G) Q := p_72_8 (d := d + 0) (c_in (d := d + 0) h0 h1 h2 h3 h4 h5)
theorem q_73_8 {d : Nat} {G : AG} {Q : Option AV → AG → Prop} {x0 x1 x2 : Int} {l0 l1 : AV} (h0 : -2147483648 ≤ x0) (h1 : x0 < 2147483648) (h2 : -2147483648 ≤ x1) (h3 : x1 < 2147483648) (h4 : -2147483648 ≤ x2) (h5 : x2 < 2147483648) : Ends (d + 1) 73 8 [l0, l1] (vI x2 :: vI x1 :: vI x0 :: []) G Q ↔ Ends (d + 1) 73 11 [l0, l1] (vI (if x1 ≤ x0 ∧ x0 ≤ x2 then 1 else 0) :: []) (G) Q := p_73_8 (d := d + 0) (c_in (d := d + 0) h0 h1 h2 h3 h4 h5)
theorem q_74_10 {d : Nat} {G : AG} {Q : Option AV → AG → Prop} {x0 x1 x2 : Int} {l0 l1 l2 : AV} (h0 : -2147483648 ≤ x0) (h1 : x0 < 2147483648) (h2 : -2147483648 ≤ x1) (h3 : x1 < 2147483648) (h4 : -2147483648 ≤ x2) (h5 : x2 < 2147483648) : Ends (d + 1) 74 10 [l0, l1, l2] (vI x2 :: vI x1 :: vI x0 :: []) G Q ↔ Ends (d + 1) 74 13 [l0, l1, l2] (vI (if x1 ≤ x0 ∧ x0 ≤ x2 then 1 else 0) :: []) (G) Q := p_74_10 (d := d + 0) (c_in (d := d + 0) h0 h1 h2 h3 h4 h5)
theorem q_74_20 {d : Nat} {G : AG} {Q : Option AV → AG → Prop} {x0 x1 x2 : Int} {l0 l1 l2 : AV} (h0 : -2147483648 ≤ x0) (h1 : x0 < 2147483648) (h2 : -2147483648 ≤ x1) (h3 : x1 < 2147483648) (h4 : -2147483648 ≤ x2) (h5 : x2 < 2147483648) : Ends (d + 1) 74 20 [l0, l1, l2] (vI x2 :: vI x1 :: vI x0 :: []) G Q ↔ Ends (d + 1) 74 23 [l0, l1, l2] (vI (if x1 ≤ x0 ∧ x0 ≤ x2 then 1 else 0) :: []) (G) Q := p_74_20 (d := d + 0) (c_in (d := d + 0) h0 h1 h2 h3 h4 h5)
theorem q_75_9 {d : Nat} {G : AG} {Q : Option AV → AG → Prop} {x0 x1 x2 : Int} {l0 l1 : AV} (h0 : -2147483648 ≤ x0) (h1 : x0 < 2147483648) (h2 : -2147483648 ≤ x1) (h3 : x1 < 2147483648) (h4 : -2147483648 ≤ x2) (h5 : x2 < 2147483648) : Ends (d + 1) 75 9 [l0, l1] (vI x2 :: vI x1 :: vI x0 :: []) G Q ↔ Ends (d + 1) 75 12 [l0, l1] (vI (if x1 ≤ x0 ∧ x0 ≤ x2 then 1 else 0) :: []) (G) Q := p_75_9 (d := d + 0) (c_in (d := d + 0) h0 h1 h2 h3 h4 h5)
theorem q_76_25 {d : Nat} {G : AG} {Q : Option AV → AG → Prop} {x0 x1 x2 : Int} {l0 l1 l2 l3 : AV} (h0 : -2147483648 ≤ x0) (h1 : x0 < 2147483648) (h2 : -2147483648 ≤ x1) (h3 : x1 < 2147483648) (h4 : -2147483648 ≤ x2) (h5 : x2 < 2147483648) : Ends (d + 2) 76 25 [l0, l1, l2, l3] (vI x2 :: vI x1 :: vI x0 :: []) G Q ↔ Ends (d + 2) 76 28 [l0, l1, l2, l3] (vI (if x1 ≤ x0 ∧ x0 ≤ x2 then 1 else 0) :: []) (G) Q := p_76_25 (d := d + 1) (c_in (d := d + 1) h0 h1 h2 h3 h4 h5)
theorem q_79_8 {d : Nat} {G : AG} {Q : Option AV → AG → Prop} {x0 x1 x2 : Int} {l0 l1 l2 l3 : AV} (h0 : -2147483648 ≤ x0) (h1 : x0 < 2147483648) (h2 : -2147483648 ≤ x1) (h3 : x1 < 2147483648) (h4 : -2147483648 ≤ x2) (h5 : x2 < 2147483648) : Ends (d + 1) 79 8 [l0, l1, l2, l3] (vI x2 :: vI x1 :: vI x0 :: []) G Q ↔ Ends (d + 1) 79 11 [l0, l1, l2, l3] (vI (if x1 ≤ x0 ∧ x0 ≤ x2 then 1 else 0) :: []) (G) Q := p_79_8 (d := d + 0) (c_in (d := d + 0) h0 h1 h2 h3 h4 h5)
theorem q_79_27 {d : Nat} {G : AG} {Q : Option AV → AG → Prop} {x0 x1 x2 : Int} {l0 l1 l2 l3 : AV} (h0 : -2147483648 ≤ x0) (h1 : x0 < 2147483648) (h2 : -2147483648 ≤ x1) (h3 : x1 < 2147483648) (h4 : -2147483648 ≤ x2) (h5 : x2 < 2147483648) : Ends (d + 1) 79 27 [l0, l1, l2, l3] (vI x2 :: vI x1 :: vI x0 :: []) G Q ↔ Ends (d + 1) 79 30 [l0, l1, l2, l3] (vI (if x1 ≤ x0 ∧ x0 ≤ x2 then 1 else 0) :: []) (G) Q := p_79_27 (d := d + 0) (c_in (d := d + 0) h0 h1 h2 h3 h4 h5)
theorem q_80_8 {d : Nat} {G : AG} {Q : Option AV → AG → Prop} {x0 x1 x2 : Int} {l0 l1 l2 : AV} (h0 : -2147483648 ≤ x0) (h1 : x0 < 2147483648) (h2 : -2147483648 ≤ x1) (h3 : x1 < 2147483648) (h4 : -2147483648 ≤ x2) (h5 : x2 < 2147483648) : Ends (d + 1) 80 8 [l0, l1, l2] (vI x2 :: vI x1 :: vI x0 :: []) G Q ↔ Ends (d + 1) 80 11 [l0, l1, l2] (vI (if x1 ≤ x0 ∧ x0 ≤ x2 then 1 else 0) :: []) (G) Q := p_80_8 (d := d + 0) (c_in (d := d + 0) h0 h1 h2 h3 h4 h5)
theorem q_80_17 {d : Nat} {G : AG} {Q : Option AV → AG → Prop} {x0 x1 x2 : Int} {l0 l1 l2 : AV} (h0 : -2147483648 ≤ x0) (h1 : x0 < 2147483648) (h2 : -2147483648 ≤ x1) (h3 : x1 < 2147483648) (h4 : -2147483648 ≤ x2) (h5 : x2 < 2147483648) : Ends (d + 1) 80 17 [l0, l1, l2] (vI x2 :: vI x1 :: vI x0 :: []) G Q ↔ Ends (d + 1) 80 20 [l0, l1, l2] (vI (if x1 ≤ x0 ∧ x0 ≤ x2 then 1 else 0) :: []) (G) Q := p_80_17 (d := d + 0) (c_in (d := d + 0) h0 h1 h2 h3 h4 h5)
theorem q_85_13 {d : Nat} {G : AG} {Q : Option AV → AG → Prop} {x0 x1 x2 : Int} {l0 l1 l2 l3 : AV} (h0 : -2147483648 ≤ x0) (h1 : x0 < 2147483648) (h2 : -2147483648 ≤ x1) (h3 : x1 < 2147483648) (h4 : -2147483648 ≤ x2) (h5 : x2 < 2147483648) : Ends (d + 2) 85 13 [l0, l1, l2, l3] (vI x2 :: vI x1 :: vI x0 :: []) G Q ↔ Ends (d + 2) 85 16 [l0, l1, l2, l3] (vI (if x1 ≤ x0 ∧ x0 ≤ x2 then 1 else 0) :: []) (G) Q := p_85_13 (d := d + 1) (c_in (d := d + 1) h0 h1 h2 h3 h4 h5)
theorem q_86_13 {d : Nat} {G : AG} {Q : Option AV → AG → Prop} {x0 x1 x2 : Int} {l0 l1 l2 : AV} (h0 : -2147483648 ≤ x0) (h1 : x0 < 2147483648) (h2 : -2147483648 ≤ x1) (h3 : x1 < 2147483648) (h4 : -2147483648 ≤ x2) (h5 : x2 < 2147483648) : Ends (d + 1) 86 13 [l0, l1, l2] (vI x2 :: vI x1 :: vI x0 :: []) G Q ↔ Ends (d + 1) 86 16 [l0, l1, l2] (vI (if x1 ≤ x0 ∧ x0 ≤ x2 then 1 else 0) :: []) (G) Q := p_86_13 (d := d + 0) (c_in (d := d + 0) h0 h1 h2 h3 h4 h5)
theorem q_86_22 {d : Nat} {G : AG} {Q : Option AV → AG → Prop} {x0 x1 x2 : Int} {l0 l1 l2 : AV} (h0 : -2147483648 ≤ x0) (h1 : x0 < 2147483648) (h2 : -2147483648 ≤ x1) (h3 : x1 < 2147483648) (h4 : -2147483648 ≤ x2) (h5 : x2 < 2147483648) : Ends (d + 1) 86 22 [l0, l1, l2] (vI x2 :: vI x1 :: vI x0 :: []) G Q ↔ Ends (d + 1) 86 25 [l0, l1, l2] (vI (if x1 ≤ x0 ∧ x0 ≤ x2 then 1 else 0) :: []) (G) Q := p_86_22 (d := d + 0) (c_in (d := d + 0) h0 h1 h2 h3 h4 h5)
theorem q_95_17 {d : Nat} {G : AG} {Q : Option AV → AG → Prop} {x0 x1 x2 : Int} {l0 l1 l2 l3 l4 : AV} (h0 : -2147483648 ≤ x0) (h1 : x0 < 2147483648) (h2 : -2147483648 ≤ x1) (h3 : x1 < 2147483648) (h4 : -2147483648 ≤ x2) (h5 : x2 < 2147483648) : Ends (d + 2) 95 17 [l0, l1, l2, l3, l4] (vI x2 :: vI x1 :: vI x0 :: []) G Q ↔ Ends (d + 2) 95 20 [l0, l1, l2, l3, l4] (vI (if x1 ≤ x0 ∧ x0 ≤ x2 then 1 else 0) :: []) (G) Q := p_95_17 (d := d + 1) (c_in (d := d + 1) h0 h1 h2 h3 h4 h5)
theorem q_95_27 {d : Nat} {G : AG} {Q : Option AV → AG → Prop} {x0 x1 x2 : Int} {l0 l1 l2 l3 l4 : AV} (h0 : -2147483648 ≤ x0) (h1 : x0 < 2147483648) (h2 : -2147483648 ≤ x1) (h3 : x1 < 2147483648) (h4 : -2147483648 ≤ x2) (h5 : x2 < 2147483648) : Ends (d + 2) 95 27 [l0, l1, l2, l3, l4] (vI x2 :: vI x1 :: vI x0 :: []) G Q ↔ Ends (d + 2) 95 30 [l0, l1, l2, l3, l4] (vI (if x1 ≤ x0 ∧ x0 ≤ x2 then 1 else 0) :: []) (G) Q := p_95_27 (d := d + 1) (c_in (d := d + 1) h0 h1 h2 h3 h4 h5)
theorem q_96_13 {d : Nat} {G : AG} {Q : Option AV → AG → Prop} {x0 x1 x2 : Int} {l0 l1 l2 : AV} (h0 : -2147483648 ≤ x0) (h1 : x0 < 2147483648) (h2 : -2147483648 ≤ x1) (h3 : x1 < 2147483648) (h4 : -2147483648 ≤ x2) (h5 : x2 < 2147483648) : Ends (d + 1) 96 13 [l0, l1, l2] (vI x2 :: vI x1 :: vI x0 :: []) G Q ↔ Ends (d + 1) 96 16 [l0, l1, l2] (vI (if x1 ≤ x0 ∧ x0 ≤ x2 then 1 else 0) :: []) (G) Q := p_96_13 (d := d + 0) (c_in (d := d + 0) h0 h1 h2 h3 h4 h5)
theorem q_96_24 {d : Nat} {G : AG} {Q : Option AV → AG → Prop} {x0 x1 x2 : Int} {l0 l1 l2 : AV} (h0 : -2147483648 ≤ x0) (h1 : x0 < 2147483648) (h2 : -2147483648 ≤ x1) (h3 : x1 < 2147483648) (h4 : -2147483648 ≤ x2) (h5 : x2 < 2147483648) : Ends (d + 1) 96 24 [l0, l1, l2] (vI x2 :: vI x1 :: vI x0 :: []) G Q ↔ Ends (d + 1) 96 27 [l0, l1, l2] (vI (if x1 ≤ x0 ∧ x0 ≤ x2 then 1 else 0) :: []) (G) Q := p_96_24 (d := d + 0) (c_in (d := d + 0) h0 h1 h2 h3 h4 h5)
theorem q_103_10 {d : Nat} {G : AG} {Q : Option AV → AG → Prop} {x0 x1 x2 : Int} {l0 l1 l2 l3 l4 l5 l6 : AV} (h0 : -2147483648 ≤ x0) (h1 : x0 < 2147483648) (h2 : -2147483648 ≤ x1) (h3 : x1 < 2147483648) (h4 : -2147483648 ≤ x2) (h5 : x2 < 2147483648) : Ends (d + 4) 103 10 [l0, l1, l2, l3, l4, l5, l6] (vI x2 :: vI x1 :: vI x0 :: []) G Q ↔ Ends (d + 4) 103 13 [l0, l1, l2, l3, l4, l5, l6] (vI (if x1 ≤ x0 ∧ x0 ≤ x2 then 1 else 0) :: []) (G) Q := p_103_10 (d := d + 3) (c_in (d := d + 3) h0 h1 h2 h3 h4 h5)
theorem q_103_21 {d : Nat} {G : AG} {Q : Option AV → AG → Prop} {x0 x1 x2 : Int} {l0 l1 l2 l3 l4 l5 l6 : AV} (h0 : -2147483648 ≤ x0) (h1 : x0 < 2147483648) (h2 : -2147483648 ≤ x1) (h3 : x1 < 2147483648) (h4 : -2147483648 ≤ x2) (h5 : x2 < 2147483648) : Ends (d + 4) 103 21 [l0, l1, l2, l3, l4, l5, l6] (vI x2 :: vI x1 :: vI x0 :: []) G Q ↔ Ends (d + 4) 103 24 [l0, l1, l2, l3, l4, l5, l6] (vI (if x1 ≤ x0 ∧ x0 ≤ x2 then 1 else 0) :: []) (G) Q := p_103_21 (d := d + 3) (c_in (d := d + 3) h0 h1 h2 h3 h4 h5)
theorem q_104_13 {d : Nat} {G : AG} {Q : Option AV → AG → Prop} {x0 x1 x2 : Int} {l0 l1 : AV} (h0 : -2147483648 ≤ x0) (h1 : x0 < 2147483648) (h2 : -2147483648 ≤ x1) (h3 : x1 < 2147483648) (h4 : -2147483648 ≤ x2) (h5 : x2 < 2147483648) : Ends (d + 1) 104 13 [l0, l1] (vI x2 :: vI x1 :: vI x0 :: []) G Q ↔ Ends (d + 1) 104 16 [l0, l1] (vI (if x1 ≤ x0 ∧ x0 ≤ x2 then 1 else 0) :: []) (G) Q := p_104_13 (d := d + 0) (c_in (d := d + 0) h0 h1 h2 h3 h4 h5)
theorem q_105_9 {d : Nat} {G : AG} {Q : Option AV → AG → Prop} {x0 x1 x2 : Int} {l0 l1 l2 l3 : AV} (h0 : -2147483648 ≤ x0) (h1 : x0 < 2147483648) (h2 : -2147483648 ≤ x1) (h3 : x1 < 2147483648) (h4 : -2147483648 ≤ x2) (h5 : x2 < 2147483648) : Ends (d + 2) 105 9 [l0, l1, l2, l3] (vI x2 :: vI x1 :: vI x0 :: []) G Q ↔ Ends (d + 2) 105 12 [l0, l1, l2, l3] (vI (if x1 ≤ x0 ∧ x0 ≤ x2 then 1 else 0) :: []) (G) Q := p_105_9 (d := d + 1) (c_in (d := d + 1) h0 h1 h2 h3 h4 h5)
theorem q_106_9 {d : Nat} {G : AG} {Q : Option AV → AG → Prop} {x0 x1 x2 : Int} {l0 l1 l2 l3 : AV} (h0 : -2147483648 ≤ x0) (h1 : x0 < 2147483648) (h2 : -2147483648 ≤ x1) (h3 : x1 < 2147483648) (h4 : -2147483648 ≤ x2) (h5 : x2 < 2147483648) : Ends (d + 2) 106 9 [l0, l1, l2, l3] (vI x2 :: vI x1 :: vI x0 :: []) G Q ↔ Ends (d + 2) 106 12 [l0, l1, l2, l3] (vI (if x1 ≤ x0 ∧ x0 ≤ x2 then 1 else 0) :: []) (G) Q := p_106_9 (d := d + 1) (c_in (d := d + 1) h0 h1 h2 h3 h4 h5)
theorem q_3_17 {d : Nat} {G : AG} {Q : Option AV → AG → Prop} {x0 x1 : Int} {l0 l1 l2 l3 : AV} (h0 : 0 ≤ x0) (h1 : x0 < 2147483648) (h2 : 0 ≤ x1) (h3 : x1 < 31) : Ends (d + 2) 3 17 [l0, l1, l2, l3] (vI x1 :: vI x0 :: []) G Q ↔ Ends (d + 2) 3 20 [l0, l1, l2, l3] (vI (if tb x0 x1 = true then 1 else 0) :: []) (G) Q := p_3_17 (d := d + 1) (c_hasBit (d := d + 1) h0 h1 h2 h3)
theorem q_4_53 {d : Nat} {G : AG} {Q : Option AV → AG → Prop} {x0 x1 : Int} {l0 l1 l2 l3 l4 : AV} (h0 : 0 ≤ x0) (h1 : x0 < 2147483648) (h2 : 0 ≤ x1) (h3 : x1 < 31) : Ends (d + 1) 4 53 [l0, l1, l2, l3, l4] (vI x1 :: vI x0 :: []) G Q ↔ Ends (d + 1) 4 56 [l0, l1, l2, l3, l4] (vI (if tb x0 x1 = true then 1 else 0) :: []) (G) Q := p_4_53 (d := d + 0) (c_hasBit (d := d + 0) h0 h1 h2 h3)
theorem q_17_14 {d : Nat} {G : AG} {Q : Option AV → AG → Prop} {x0 x1 : Int} {l0 l1 l2 l3 l4 l5 : AV} (h0 : 0 ≤ x0) (h1 : x0 < 2147483648) (h2 : 0 ≤ x1) (h3 : x1 < 31) : Ends (d + 1) 17 14 [l0, l1, l2, l3, l4, l5] (vI x1 :: vI x0 :: []) G Q ↔ Ends (d + 1) 17 17 [l0, l1, l2, l3, l4, l5] (vI (if tb x0 x1 = true then 1 else 0) :: []) (G) Q := p_17_14 (d := d + 0) (c_hasBit (d := d + 0) h0 h1 h2 h3)
theorem q_20_17 {d : Nat} {G : AG} {Q : Option AV → AG → Prop} {x0 x1 : Int} {l0 l1 l2 l3 l4 : AV} (h0 : 0 ≤ x0) (h1 : x0 < 2147483648) (h2 : 0 ≤ x1) (h3 : x1 < 31) : Ends (d + 1) 20 17 [l0, l1, l2, l3, l4] (vI x1 :: vI x0 :: []) G Q ↔ Ends (d + 1) 20 20 [l0, l1, l2, l3, l4] (vI (if tb x0 x1 = true then 1 else 0) :: []) (G) Q := p_20_17 (d := d + 0) (c_hasBit (d := d + 0) h0 h1 h2 h3)
theorem q_25_47 {d : Nat} {G : AG} {Q : Option AV → AG → Prop} {x0 x1 : Int} {l0 l1 l2 l3 l4 l5 : AV} (h0 : 0 ≤ x0) (h1 : x0 < 2147483648) (h2 : 0 ≤ x1) (h3 : x1 < 31) : Ends (d + 1) 25 47 [l0, l1, l2, l3, l4, l5] (vI x1 :: vI x0 :: []) G Q ↔ Ends (d + 1) 25 50 [l0, l1, l2, l3, l4, l5] (vI (if tb x0 x1 = true then 1 else 0) :: []) (G) Q := p_25_47 (d := d + 0) (c_hasBit (d := d + 0) h0 h1 h2 h3)
theorem q_25_64 {d : Nat} {G : AG} {Q : Option AV → AG → Prop} {x0 x1 : Int} {l0 l1 l2 l3 l4 l5 : AV} (h0 : 0 ≤ x0) (h1 : x0 < 2147483648) (h2 : 0 ≤ x1) (h3 : x1 < 31) : Ends (d + 1) 25 64 [l0, l1, l2, l3, l4, l5] (vI x1 :: vI x0 :: []) G Q ↔ Ends (d + 1) 25 67 [l0, l1, l2, l3, l4, l5] (vI (if tb x0 x1 = true then 1 else 0) :: []) (G) Q := p_25_64 (d := d + 0) (c_hasBit (d := d + 0) h0 h1 h2 h3)
theorem q_26_69 {d : Nat} {G : AG} {Q : Option AV → AG → Prop} {x0 x1 : Int} {l0 l1 l2 l3 : AV} (h0 : 0 ≤ x0) (h1 : x0 < 2147483648) (h2 : 0 ≤ x1) (h3 : x1 < 31) : Ends (d + 1) 26 69 [l0, l1, l2, l3] (vI x1 :: vI x0 :: []) G Q ↔ Ends (d + 1) 26 72 [l0, l1, l2, l3] (vI (if tb x0 x1 = true then 1 else 0) :: []) (G) Q := p_26_69 (d := d + 0) (c_hasBit (d := d + 0) h0 h1 h2 h3)
theorem q_28_60 {d : Nat} {G : AG} {Q : Option AV → AG → Prop} {x0 x1 : Int} {l0 l1 l2 l3 l4 l5 l6 l7 l8 l9 : AV} (h0 : 0 ≤ x0) (h1 : x0 < 2147483648) (h2 : 0 ≤ x1) (h3 : x1 < 31) : Ends (d + 1) 28 60 [l0, l1, l2, l3, l4, l5, l6, l7, l8, l9] (vI x1 :: vI x0 :: []) G Q ↔ Ends (d + 1) 28 63 [l0, l1, l2, l3, l4, l5, l6, l7, l8, l9] (vI (if tb x0 x1 = true then 1 else 0) :: []) (G) Q := p_28_60 (d := d + 0) (c_hasBit (d := d + 0) h0 h1 h2 h3)
theorem q_28_76 {d : Nat} {G : AG} {Q : Option AV → AG → Prop} {x0 x1 : Int} {l0 l1 l2 l3 l4 l5 l6 l7 l8 l9 : AV} (h0 : 0 ≤ x0) (h1 : x0 < 2147483648) (h2 : 0 ≤ x1) (h3 : x1 < 31) : Ends (d + 1) 28 76 [l0, l1, l2, l3, l4, l5, l6, l7, l8, l9] (vI x1 :: vI x0 :: []) G Q ↔ Ends (d + 1) 28 79 [l0, l1, l2, l3, l4, l5, l6, l7, l8, l9] (vI (if tb x0 x1 = true then 1 else 0) :: []) (G) Q := p_28_76 (d := d + 0) (c_hasBit (d := d + 0) h0 h1 h2 h3)
theorem q_40_68 {d : Nat} {G : AG} {Q : Option AV → AG → Prop} {x0 x1 : Int} {l0 l1 l2 l3 l4 : AV} (h0 : 0 ≤ x0) (h1 : x0 < 2147483648) (h2 : 0 ≤ x1) (h3 : x1 < 31) : Ends (d + 4) 40 68 [l0, l1, l2, l3, l4] (vI x1 :: vI x0 :: []) G Q ↔ Ends (d + 4) 40 71 [l0, l1, l2, l3, l4] (vI (if tb x0 x1 = true then 1 else 0) :: []) (G) Q := p_40_68 (d := d + 3) (c_hasBit (d := d + 3) h0 h1 h2 h3)
theorem q_40_115 {d : Nat} {G : AG} {Q : Option AV → AG → Prop} {x0 x1 : Int} {l0 l1 l2 l3 l4 : AV} (h0 : 0 ≤ x0) (h1 : x0 < 2147483648) (h2 : 0 ≤ x1) (h3 : x1 < 31) : Ends (d + 4) 40 115 [l0, l1, l2, l3, l4] (vI x1 :: vI x0 :: []) G Q ↔ Ends (d + 4) 40 118 [l0, l1, l2, l3, l4] (vI (if tb x0 x1 = true then 1 else 0) :: []) (G) Q := p_40_115 (d := d + 3) (c_hasBit (d := d + 3) h0 h1 h2 h3)
theorem q_43_100 {d : Nat} {G : AG} {Q : Option AV → AG → Prop} {x0 x1 : Int} {l0 l1 l2 l3 : AV} (h0 : 0 ≤ x0) (h1 : x0 < 2147483648) (h2 : 0 ≤ x1) (h3 : x1 < 31) : Ends (d + 2) 43 100 [l0, l1, l2, l3] (vI x1 :: vI x0 :: []) G Q ↔ Ends (d + 2) 43 103 [l0, l1, l2, l3] (vI (if tb x0 x1 = true then 1 else 0) :: []) (G) Q := p_43_100 (d := d + 1) (c_hasBit (d := d + 1) h0 h1 h2 h3)
theorem q_13_62 {d : Nat} {G : AG} {Q : Option AV → AG → Prop} {x0 x1 x2 : Int} {y0 : Nat} {l0 l1 l2 l3 l4 : AV} (h0 : 0 ≤ x0) (h1 : x0 < 2147483648) (h2 : 0 ≤ x1) (h3 : x1 < 31) (h4 : x2 = 0 ∨ x2 = 1) : Ends (d + 1) 13 62 [l0, l1, l2, l3, l4] (vI x2 :: vI x1 :: vI x0 :: [vR y0]) G Q ↔ Ends (d + 1) 13 65 [l0, l1, l2, l3, l4] (vI (wb x0 x1 (decide (x2 = 1))) :: [vR y0]) (G) Q := p_13_62 (d := d + 0) (c_withBit (d := d + 0) h0 h1 h2 h3 h4)
theorem q_15_51 {d : Nat} {G : AG} {Q : Option AV → AG → Prop} {x0 x1 x2 : Int} {l0 l1 l2 l3 l4 : AV} (h0 : 0 ≤ x0) (h1 : x0 < 2147483648) (h2 : 0 ≤ x1) (h3 : x1 < 31) (h4 : x2 = 0 ∨ x2 = 1) : Ends (d + 1) 15 51 [l0, l1, l2, l3, l4] (vI x2 :: vI x1 :: vI x0 :: []) G Q ↔ Ends (d + 1) 15 54 [l0, l1, l2, l3, l4] (vI (wb x0 x1 (decide (x2 = 1))) :: []) (G) Q := p_15_51 (d := d + 0) (c_withBit (d := d + 0) h0 h1 h2 h3 h4)
theorem q_16_68 {d : Nat} {G : AG} {Q : Option AV → AG → Prop} {x0 x1 x2 : Int} {y0 : Int} {y1 : Nat} {l0 l1 l2 l3 : AV} (h0 : 0 ≤ x0) (h1 : x0 < 2147483648) (h2 : 0 ≤ x1) (h3 : x1 < 31) (h4 : x2 = 0 ∨ x2 = 1) : Ends (d + 3) 16 68 [l0, l1, l2, l3] (vI x2 :: vI x1 :: vI x0 :: [vI y0, vR y1]) G Q ↔ Ends (d + 3) 16 71 [l0, l1, l2, l3] (vI (wb x0 x1 (decide (x2 = 1))) :: [vI y0, vR y1]) (G) Q := p_16_68 (d := d + 2) (c_withBit (d := d + 2) h0 h1 h2 h3 h4)
theorem q_17_23 {d : Nat} {G : AG} {Q : Option AV → AG → Prop} {x0 x1 x2 : Int} {l0 l1 l2 l3 l4 l5 : AV} (h0 : 0 ≤ x0) (h1 : x0 < 2147483648) (h2 : 0 ≤ x1) (h3 : x1 < 31) (h4 : x2 = 0 ∨ x2 = 1) : Ends (d + 1) 17 23 [l0, l1, l2, l3, l4, l5] (vI x2 :: vI x1 :: vI x0 :: []) G Q ↔ Ends (d + 1) 17 26 [l0, l1, l2, l3, l4, l5] (vI (wb x0 x1 (decide (x2 = 1))) :: []) (G) Q := p_17_23 (d := d + 0) (c_withBit (d := d + 0) h0 h1 h2 h3 h4)
theorem q_17_61 {d : Nat} {G : AG} {Q : Option AV → AG → Prop} {x0 x1 x2 : Int} {l0 l1 l2 l3 l4 l5 : AV} (h0 : 0 ≤ x0) (h1 : x0 < 2147483648) (h2 : 0 ≤ x1) (h3 : x1 < 31) (h4 : x2 = 0 ∨ x2 = 1) : Ends (d + 1) 17 61 [l0, l1, l2, l3, l4, l5] (vI x2 :: vI x1 :: vI x0 :: []) G Q ↔ Ends (d + 1) 17 64 [l0, l1, l2, l3, l4, l5] (vI (wb x0 x1 (decide (x2 = 1))) :: []) (G) Q := p_17_61 (d := d + 0) (c_withBit (d := d + 0) h0 h1 h2 h3 h4)
theorem q_21_52 {d : Nat} {G : AG} {Q : Option AV → AG → Prop} {x0 x1 x2 : Int} {l0 l1 l2 l3 l4 l5 l6 l7 : AV} (h0 : 0 ≤ x0) (h1 : x0 < 2147483648) (h2 : 0 ≤ x1) (h3 : x1 < 31) (h4 : x2 = 0 ∨ x2 = 1) : Ends (d + 1) 21 52 [l0, l1, l2, l3, l4, l5, l6, l7] (vI x2 :: vI x1 :: vI x0 :: []) G Q ↔ Ends (d + 1) 21 55 [l0, l1, l2, l3, l4, l5, l6, l7] (vI (wb x0 x1 (decide (x2 = 1))) :: []) (G) Q := p_21_52 (d := d + 0) (c_withBit (d := d + 0) h0 h1 h2 h3 h4)
theorem q_26_94 {d : Nat} {G : AG} {Q : Option AV → AG → Prop} {x0 x1 x2 : Int} {y0 : Int} {y1 : Nat} {l0 l1 l2 l3 : AV} (h0 : 0 ≤ x0) (h1 : x0 < 2147483648) (h2 : 0 ≤ x1) (h3 : x1 < 31) (h4 : x2 = 0 ∨ x2 = 1) : Ends (d + 1) 26 94 [l0, l1, l2, l3] (vI x2 :: vI x1 :: vI x0 :: [vI y0, vR y1]) G Q ↔ Ends (d + 1) 26 97 [l0, l1, l2, l3] (vI (wb x0 x1 (decide (x2 = 1))) :: [vI y0, vR y1]) (G) Q := p_26_94 (d := d + 0) (c_withBit (d := d + 0) h0 h1 h2 h3 h4)
theorem q_27_62 {d : Nat} {G : AG} {Q : Option AV → AG → Prop} {x0 x1 x2 : Int} {y0 : Int} {y1 : Nat} {l0 l1 l2 : AV} (h0 : 0 ≤ x0) (h1 : x0 < 2147483648) (h2 : 0 ≤ x1) (h3 : x1 < 31) (h4 : x2 = 0 ∨ x2 = 1) : Ends (d + 3) 27 62 [l0, l1, l2] (vI x2 :: vI x1 :: vI x0 :: [vI y0, vR y1]) G Q ↔ Ends (d + 3) 27 65 [l0, l1, l2] (vI (wb x0 x1 (decide (x2 = 1))) :: [vI y0, vR y1]) (G) Q := p_27_62 (d := d + 2) (c_withBit (d := d + 2) h0 h1 h2 h3 h4)
theorem q_29_20 {d : Nat} {G : AG} {Q : Option AV → AG → Prop} {x0 x1 x2 : Int} {y0 : Int} {y1 : Nat} {l0 l1 l2 l3 l4 l5 l6 l7 l8 l9 : AV} (h0 : 0 ≤ x0) (h1 : x0 < 2147483648) (h2 : 0 ≤ x1) (h3 : x1 < 31) (h4 : x2 = 0 ∨ x2 = 1) : Ends (d + 1) 29 20 [l0, l1, l2, l3, l4, l5, l6, l7, l8, l9] (vI x2 :: vI x1 :: vI x0 :: [vI y0, vR y1]) G Q ↔ Ends (d + 1) 29 23 [l0, l1, l2, l3, l4, l5, l6, l7, l8, l9] (vI (wb x0 x1 (decide (x2 = 1))) :: [vI y0, vR y1]) (G) Q := p_29_20 (d := d + 0) (c_withBit (d := d + 0) h0 h1 h2 h3 h4)
theorem q_29_38 {d : Nat} {G : AG} {Q : Option AV → AG → Prop} {x0 x1 x2 : Int} {y0 : Int} {y1 : Int} {y2 : Int} {y3 : Nat} {l0 l1 l2 l3 l4 l5 l6 l7 l8 l9 : AV} (h0 : 0 ≤ x0) (h1 : x0 < 2147483648) (h2 : 0 ≤ x1) (h3 : x1 < 31) (h4 : x2 = 0 ∨ x2 = 1) : Ends (d + 1) 29 38 [l0, l1, l2, l3, l4, l5, l6, l7, l8, l9] (vI x2 :: vI x1 :: vI x0 :: [vI y0, vI y1, vI y2, vR y3]) G Q ↔ Ends (d + 1) 29 41 [l0, l1, l2, l3, l4, l5, l6, l7, l8, l9] (vI (wb x0 x1 (decide (x2 = 1))) :: [vI y0, vI y1, vI y2, vR y3]) (G) Q := p_29_38 (d := d + 0) (c_withBit (d := d + 0) h0 h1 h2 h3 h4)
theorem q_48_48 {d : Nat} {G : AG} {Q : Option AV → AG → Prop} {x0 x1 x2 : Int} {y0 : Int} {y1 : Nat} {l0 l1 l2 l3 : AV} (h0 : 0 ≤ x0) (h1 : x0 < 2147483648) (h2 : 0 ≤ x1) (h3 : x1 < 31) (h4 : x2 = 0 ∨ x2 = 1) : Ends (d + 2) 48 48 [l0, l1, l2, l3] (vI x2 :: vI x1 :: vI x0 :: [vI y0, vR y1]) G Q ↔ Ends (d + 2) 48 51 [l0, l1, l2, l3] (vI (wb x0 x1 (decide (x2 = 1))) :: [vI y0, vR y1]) (G) Q := p_48_48 (d := d + 1) (c_withBit (d := d + 1) h0 h1 h2 h3 h4)
theorem q_48_71 {d : Nat} {G : AG} {Q : Option AV → AG → Prop} {x0 x1 x2 : Int} {y0 : Int} {y1 : Nat} {l0 l1 l2 l3 : AV} (h0 : 0 ≤ x0) (h1 : x0 < 2147483648) (h2 : 0 ≤ x1) (h3 : x1 < 31) (h4 : x2 = 0 ∨ x2 = 1) : Ends (d + 2) 48 71 [l0, l1, l2, l3] (vI x2 :: vI x1 :: vI x0 :: [vI y0, vR y1]) G Q ↔ Ends (d + 2) 48 74 [l0, l1, l2, l3] (vI (wb x0 x1 (decide (x2 = 1))) :: [vI y0, vR y1]) (G) Q := p_48_71 (d := d + 1) (c_withBit (d := d + 1) h0 h1 h2 h3 h4)
theorem q_49_26 {d : Nat} {G : AG} {Q : Option AV → AG → Prop} {x0 x1 x2 : Int} {y0 : Nat} {l0 l1 l2 : AV} (h0 : 0 ≤ x0) (h1 : x0 < 2147483648) (h2 : 0 ≤ x1) (h3 : x1 < 31) (h4 : x2 = 0 ∨ x2 = 1) : Ends (d + 2) 49 26 [l0, l1, l2] (vI x2 :: vI x1 :: vI x0 :: [vR y0]) G Q ↔ Ends (d + 2) 49 29 [l0, l1, l2] (vI (wb x0 x1 (decide (x2 = 1))) :: [vR y0]) (G) Q := p_49_26 (d := d + 1) (c_withBit (d := d + 1) h0 h1 h2 h3 h4)
theorem q_63_42 {d : Nat} {G : AG} {Q : Option AV → AG → Prop} {x0 x1 x2 : Int} {y0 : Int} {y1 : Nat} {l0 l1 l2 l3 : AV} (h0 : 0 ≤ x0) (h1 : x0 < 2147483648) (h2 : 0 ≤ x1) (h3 : x1 < 31) (h4 : x2 = 0 ∨ x2 = 1) : Ends (d + 2) 63 42 [l0, l1, l2, l3] (vI x2 :: vI x1 :: vI x0 :: [vI y0, vR y1]) G Q ↔ Ends (d + 2) 63 45 [l0, l1, l2, l3] (vI (wb x0 x1 (decide (x2 = 1))) :: [vI y0, vR y1]) (G) Q := p_63_42 (d := d + 1) (c_withBit (d := d + 1) h0 h1 h2 h3 h4)
theorem q_4_34 {d : Nat} {G : AG} {Q : Option AV → AG → Prop} {x0 x1 : Int} {l0 l1 l2 l3 l4 : AV} (h0 : -2147483648 ≤ x0) (h1 : x0 < 2147483648) (h2 : -2147483648 ≤ x1) (h3 : x1 < 2147483648) : Ends (d + 1) 4 34 [l0, l1, l2, l3, l4] (vI x1 :: vI x0 :: []) G Q ↔ Ends (d + 1) 4 37 [l0, l1, l2, l3, l4] (vI (max x0 x1) :: []) (G) Q := p_4_34 (d := d + 0) (c_max (d := d + 0) h0 h1 h2 h3)
theorem q_15_30 {d : Nat} {G : AG} {Q : Option AV → AG → Prop} {x0 : Int} {l0 l1 l2 l3 l4 : AV} (h0 : -2147483648 < x0) (h1 : x0 < 2147483648) : Ends (d + 1) 15 30 [l0, l1, l2, l3, l4] (vI x0 :: []) G Q ↔ Ends (d + 1) 15 33 [l0, l1, l2, l3, l4] (vI (if x0 < 0 then -x0 else x0) :: []) (G) Q := p_15_30 (d := d + 0) (c_abs (d := d + 0) h0 h1)
theorem q_99_75 {d : Nat} {G : AG} {Q : Option AV → AG → Prop} {x0 : Int} {l0 l1 l2 l3 l4 l5 l6 : AV} (h0 : -2147483648 < x0) (h1 : x0 < 2147483648) : Ends (d + 1) 99 75 [l0, l1, l2, l3, l4, l5, l6] (vI x0 :: []) G Q ↔ Ends (d + 1) 99 78 [l0, l1, l2, l3, l4, l5, l6] (vI (if x0 < 0 then -x0 else x0) :: []) (G) Q := p_99_75 (d := d + 0) (c_abs (d := d + 0) h0 h1)
theorem q_28_24 {d : Nat} {G : AG} {Q : Option AV → AG → Prop} {x0 x1 : Int} {y0 : Int} {y1 : Nat} {l0 l1 l2 l3 l4 l5 l6 l7 l8 l9 : AV} (h0 : -9223372036854775808 ≤ x0) (h1 : x0 < 9223372036854775808) (h2 : -9223372036854775808 ≤ x1) (h3 : x1 < 9223372036854775808) : Ends (d + 1) 28 24 [l0, l1, l2, l3, l4, l5, l6, l7, l8, l9] (vL x1 :: vL x0 :: [vI y0, vR y1]) G Q ↔ Ends (d + 1) 28 27 [l0, l1, l2, l3, l4, l5, l6, l7, l8, l9] (vL (max x0 x1) :: [vI y0, vR y1]) (G) Q := p_28_24 (d := d + 0) (c_maxl (d := d + 0) h0 h1 h2 h3)
theorem q_30_69 {d : Nat} {G : AG} {Q : Option AV → AG → Prop} {x0 x1 : Int} {l0 l1 l2 l3 l4 l5 : AV} (h0 : -9223372036854775808 ≤ x0) (h1 : x0 < 9223372036854775808) (h2 : -9223372036854775808 ≤ x1) (h3 : x1 < 9223372036854775808) : Ends (d + 1) 30 69 [l0, l1, l2, l3, l4, l5] (vL x1 :: vL x0 :: []) G Q ↔ Ends (d + 1) 30 72 [l0, l1, l2, l3, l4, l5] (vL (max x0 x1) :: []) (G) Q := p_30_69 (d := d + 0) (c_maxl (d := d + 0) h0 h1 h2 h3)
theorem f_lrem_mod {a b : Int} (ha : -9223372036854775808 ≤ a ∧ a < 9223372036854775808) (hb : 0 < b ∧ b < 4611686018427387904) : f_lrem a b = a.tmod b := by
  have h3 := Int.tmod_lt_of_pos a hb.1
  have h4 : -b < a.tmod b := by
    have := Int.lt_tmod_of_pos a hb.1
    omega
  unfold f_lrem
  have e1 : am_l a - am_l a / am_l b * am_l b = am_l (a.tmod b) := by
    have e2 : am_l a / am_l b = am_l (a.tdiv b) := by
      apply Int64.toInt_inj.mp
      rw [Int64.toInt_div, am_lt ha.1 ha.2, am_lt (by omega) (by omega), am_l, Int64.toInt_ofInt]
    rw [e2, ← am_l_mul, ← am_l_sub]
    congr 1
    have := Int.tmod_add_mul_tdiv a b
    rw [Int.mul_comm]
    omega
  rw [e1, am_lt (by omega) (by omega)]
theorem fl_xor_neg {a b : Int} (ha : -9223372036854775808 ≤ a ∧ a < 9223372036854775808) (hb : 0 < b ∧ b < 4611686018427387904) : f_lxor a b < 0 ↔ a < 0 := by
  unfold f_lxor
  have h1 : (am_l a ^^^ am_l b).toInt < 0 ↔ (am_l a ^^^ am_l b).toBitVec.msb = true := by
    rw [Int64.toInt, BitVec.msb_eq_toInt, decide_eq_true_iff]
  have h2 : (am_l a).toBitVec.msb = decide (a < 0) := by
    rw [BitVec.msb_eq_toInt]
    show decide ((am_l a).toInt < 0) = _
    rw [am_lt ha.1 ha.2]
  have h3 : (am_l b).toBitVec.msb = false := by
    rw [BitVec.msb_eq_toInt]
    show decide ((am_l b).toInt < 0) = _
    rw [am_lt (by omega) (by omega)]
    exact decide_eq_false (by omega)
  rw [h1, Int64.toBitVec_xor, BitVec.msb_xor, h2, h3]
  simp
theorem c_floorMod {d : Nat} {G : AG} {x0 x1 : Int} (h0 : -9223372036854775808 ≤ x0) (h1 : x0 < 9223372036854775808) (h2 : 0 < x1) (h3 : x1 < 4611686018427387904) : Ret (d + 0) 113 [vL x0, vU, vL x1, vU, vU, vU] G (some (vL (x0 % x1))) (G) := by
  unfold Ret
  have ha : -9223372036854775808 ≤ x0 ∧ x0 < 9223372036854775808 := ⟨h0, h1⟩
  have hb : 0 < x1 ∧ x1 < 4611686018427387904 := ⟨h2, h3⟩
  generalize x0 = a at *
  generalize x1 = b at *
  clear h0 h1 h2 h3
  have h3 := Int.tmod_lt_of_pos a hb.1
  have h4 : -b < a.tmod b := by
    have := Int.lt_tmod_of_pos a hb.1
    omega
  have h5 : -9223372036854775808 ≤ f_lxor a b ∧ f_lxor a b < 9223372036854775808 := by
    unfold f_lxor
    have h1 := Int64.le_toInt (am_l a ^^^ am_l b)
    have h2 := Int64.toInt_lt (am_l a ^^^ am_l b)
    omega
  have h6 := fl_xor_neg ha hb
  by_cases q : a < 0
  · have q2 := h6.mpr q
    by_cases q3 : a.tmod b = 0
    · simp (disch := omega) only [reduceIte, Bool.false_eq_true, if_pos, if_neg, p_113_0, p_113_1, p_113_2, p_113_3, p_113_3r, p_113_3u, p_113_5, p_113_6, p_113_7, p_113_8, p_113_9, p_113_10, p_113_13, p_113_15, p_113_16, p_113_17, p_113_20, p_113_22, p_113_23, p_113_24, p_113_25, p_113_27, f_cmp, f_lrem_mod ha hb]
      simp only [and_true, q3]
      have := Int.emod_eq_zero_of_dvd (Int.dvd_of_tmod_eq_zero q3)
      rw [this]
    · simp (disch := omega) only [reduceIte, Bool.false_eq_true, if_pos, if_neg, p_113_0, p_113_1, p_113_2, p_113_3, p_113_3r, p_113_3u, p_113_5, p_113_6, p_113_7, p_113_8, p_113_9, p_113_10, p_113_13, p_113_15, p_113_16, p_113_17, p_113_20, p_113_22, p_113_23, p_113_24, p_113_25, p_113_27, f_cmp, f_lrem_mod ha hb]
      simp only [and_true]
      have e1 : a.tmod b = -((-a).tmod b) := by rw [Int.neg_tmod, Int.neg_neg]
      have e2 : (-a).tmod b = (-a) % b := Int.tmod_eq_emod_of_nonneg (by omega)
      have e3 := Int.emod_nonneg (-a) (show b ≠ 0 by omega)
      have e4 : (a.tmod b + b) % b = a.tmod b + b := Int.emod_eq_of_lt (by omega) (by omega)
      have e5 : a % b = (a.tmod b + b) % b := by
        rw [Int.add_emod_right]
        have := Int.tmod_add_mul_tdiv a b
        conv => lhs; rw [← this]
        exact Int.add_mul_emod_self_left _ _ _
      rw [e5, e4]
  · have q2 : ¬ f_lxor a b < 0 := fun z => q (h6.mp z)
    have e2 : a.tmod b = a % b := Int.tmod_eq_emod_of_nonneg (by omega)
    by_cases q3 : f_lxor a b = 0
    · simp (disch := omega) only [reduceIte, Bool.false_eq_true, if_pos, if_neg, p_113_0, p_113_1, p_113_2, p_113_3, p_113_3r, p_113_3u, p_113_5, p_113_6, p_113_7, p_113_8, p_113_9, p_113_10, p_113_13, p_113_15, p_113_16, p_113_17, p_113_20, p_113_22, p_113_23, p_113_24, p_113_25, p_113_27, f_cmp, f_lrem_mod ha hb]
      simp only [and_true, e2]
    · simp (disch := omega) only [reduceIte, Bool.false_eq_true, if_pos, if_neg, p_113_0, p_113_1, p_113_2, p_113_3, p_113_3r, p_113_3u, p_113_5, p_113_6, p_113_7, p_113_8, p_113_9, p_113_10, p_113_13, p_113_15, p_113_16, p_113_17, p_113_20, p_113_22, p_113_23, p_113_24, p_113_25, p_113_27, f_cmp, f_lrem_mod ha hb]
      simp only [and_true, e2]
theorem q_31_5 {d : Nat} {G : AG} {Q : Option AV → AG → Prop} {x0 x1 : Int} {l0 l1 l2 l3 l4 l5 l6 l7 : AV} (h0 : -9223372036854775808 ≤ x0) (h1 : x0 < 9223372036854775808) (h2 : 0 < x1) (h3 : x1 < 4611686018427387904) : Ends (d + 1) 31 5 [l0, l1, l2, l3, l4, l5, l6, l7] (vL x1 :: vL x0 :: []) G Q ↔ Ends (d + 1) 31 8 [l0, l1, l2, l3, l4, l5, l6, l7] (vL (x0 % x1) :: []) (G) Q := p_31_5 (d := d + 0) (c_floorMod (d := d + 0) h0 h1 h2 h3)
/-- a row filled from i on -/
def gfill (G : AG) (r : Nat) (i n z : Int) : AG := fun b j => if b = r ∧ i ≤ j ∧ j < n then z else G b j
theorem gfill_end (G : AG) (r : Nat) (n z : Int) : gfill G r n n z = G := by
  funext b j
  unfold gfill
  rw [if_neg (by omega)]
theorem gfill_step (G : AG) (r : Nat) {i n z : Int} (h : i < n) : gfill (am_up G r i z) r (i + 1) n z = gfill G r i n z := by
  funext b j
  unfold gfill am_up
  by_cases h1 : b = r
  · by_cases h2 : j = i
    · rw [if_neg (by omega), if_pos h1, if_pos h2, if_pos (by omega)]
    · by_cases h3 : i ≤ j ∧ j < n
      · rw [if_pos (by omega), if_pos (by omega)]
      · rw [if_neg (by omega), if_pos h1, if_neg h2, if_neg (by omega)]
  · rw [if_neg (by omega), if_neg h1, if_neg (by omega)]
theorem l_fill {d r n : Nat} {z : Int} {Q : Option AV → AG → Prop} (hs : SKG[r]? = some (1, n, [])) (hn : (n : Int) < 2147483648) : ∀ (m : Nat) (i : Int) (G : AG), 0 ≤ i → i + m = n → (Ends d 118 5 [vR r, vI z, vI i, vI n] [] G Q ↔ Q none (gfill G r i n z)) := by
  intro m
  induction m with
  | zero =>
    intro i G h0 h1
    have e : i = n := by omega
    subst e
    simp (disch := omega) only [reduceIte, Bool.false_eq_true, if_pos, if_neg, p_118_0, p_118_1, p_118_2, p_118_3, p_118_4, p_118_5, p_118_6, p_118_7, p_118_10, p_118_11, p_118_12, p_118_13, p_118_14, p_118_20]
    rw [gfill_end]
  | succ m ih =>
    intro i G h0 h1
    simp (disch := omega) only [reduceIte, Bool.false_eq_true, if_pos, if_neg, p_118_0, p_118_1, p_118_2, p_118_3, p_118_4, p_118_5, p_118_6, p_118_7, p_118_10, p_118_11, p_118_12, p_118_14, p_118_20]
    rw [p_118_13 hs h0 (by omega) hn]
    simp (disch := omega) only [reduceIte, Bool.false_eq_true, if_pos, if_neg, p_118_14, p_118_17]
    rw [ih (i + 1) _ (by omega) (by omega), gfill_step G r (by omega)]
theorem c_fill {d r n : Nat} {z : Int} {G : AG} (hs : SKG[r]? = some (1, n, [])) (hn : (n : Int) < 2147483648) : Ret d 118 [vR r, vI z, vU, vU] G none (gfill G r 0 n z) := by
  unfold Ret
  simp (disch := omega) only [reduceIte, Bool.false_eq_true, if_pos, if_neg, p_118_0, p_118_1, p_118_2]
  rw [p_118_3 hs, p_118_4, l_fill hs hn n 0 G (by omega) (by omega)]
  exact ⟨rfl, rfl⟩
theorem l_filll {d r n : Nat} {z : Int} {Q : Option AV → AG → Prop} (hs : SKG[r]? = some (3, n, [])) (hn : (n : Int) < 2147483648) : ∀ (m : Nat) (i : Int) (G : AG), 0 ≤ i → i + m = n → (Ends d 117 6 [vR r, vL z, vU, vI i, vI n] [] G Q ↔ Q none (gfill G r i n z)) := by
  intro m
  induction m with
  | zero =>
    intro i G h0 h1
    have e : i = n := by omega
    subst e
    simp (disch := omega) only [reduceIte, Bool.false_eq_true, if_pos, if_neg, p_117_0, p_117_1, p_117_1r, p_117_1u, p_117_2, p_117_3, p_117_4, p_117_6, p_117_7, p_117_9, p_117_12, p_117_13, p_117_14, p_117_15, p_117_16, p_117_22]
    rw [gfill_end]
  | succ m ih =>
    intro i G h0 h1
    simp (disch := omega) only [reduceIte, Bool.false_eq_true, if_pos, if_neg, p_117_0, p_117_1, p_117_1r, p_117_1u, p_117_2, p_117_3, p_117_4, p_117_6, p_117_7, p_117_9, p_117_12, p_117_13, p_117_14, p_117_16, p_117_22]
    rw [p_117_15 hs h0 (by omega) hn]
    simp (disch := omega) only [reduceIte, Bool.false_eq_true, if_pos, if_neg, p_117_16, p_117_19]
    rw [ih (i + 1) _ (by omega) (by omega), gfill_step G r (by omega)]
theorem c_filll {d r n : Nat} {z : Int} {G : AG} (hs : SKG[r]? = some (3, n, [])) (hn : (n : Int) < 2147483648) : Ret d 117 [vR r, vL z, vU, vU, vU] G none (gfill G r 0 n z) := by
  unfold Ret
  simp (disch := omega) only [reduceIte, Bool.false_eq_true, if_pos, if_neg, p_117_0, p_117_1, p_117_1r, p_117_1u, p_117_2]
  rw [p_117_3 hs, p_117_4, l_filll hs hn n 0 G (by omega) (by omega)]
  exact ⟨rfl, rfl⟩
