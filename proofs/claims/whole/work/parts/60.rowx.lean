/-! the class's rows -/
set_option maxRecDepth 100000 in
theorem ntz_tab : ∀ x : Fin 1024, x.val ≠ 0 → ∃ k : Fin 10, lb (x.val : Int) = (k.val : Int) ∧ f_and (f_xor (x.val : Int) (-1)) ((x.val : Int) - 1) = ((2 ^ k.val : Nat) : Int) - 1 := by decide +kernel
theorem c_ntz {d : Nat} {G : AG} {x0 : Int} (h0 : 1 ≤ x0) (h1 : x0 < 1024) : Ret (d + 0) 111 [vI x0, vU] G (some (vI (lb x0))) (G) := by
  unfold Ret
  obtain ⟨k, hk1, hk2⟩ := ntz_tab ⟨x0.toNat, by omega⟩ (show x0.toNat ≠ 0 by omega)
  simp only [Int.toNat_of_nonneg (show 0 ≤ x0 by omega)] at hk1 hk2
  have u1 : f_ushr 1 1 = 0 := by decide
  have u2 : f_ushr 3 1 = 1 := by decide
  have u3 : f_ushr 7 2 = 1 := by decide
  have u4 : f_ushr 15 2 = 3 := by decide
  have u5 : f_ushr 31 4 = 1 := by decide
  have u6 : f_ushr 63 4 = 3 := by decide
  have u7 : f_ushr 127 4 = 7 := by decide
  have u8 : f_ushr 255 4 = 15 := by decide
  have u9 : f_ushr 511 8 = 1 := by decide
  have u0 : f_and 0 32 = 0 := by decide
  rcases (show k.val = 0 ∨ k.val = 1 ∨ k.val = 2 ∨ k.val = 3 ∨ k.val = 4 ∨ k.val = 5 ∨ k.val = 6 ∨ k.val = 7 ∨ k.val = 8 ∨ k.val = 9 by omega) with e | e | e | e | e | e | e | e | e | e
  · have e2 : f_and (f_xor x0 (-1)) (x0 - 1) = 0 := by rw [hk2, e]; rfl
    have e3 : lb x0 = 0 := by rw [hk1, e]; rfl
    simp (disch := omega) only [reduceIte, Bool.false_eq_true, if_pos, if_neg, p_111_0, p_111_1, p_111_2, p_111_3, p_111_4, p_111_5, p_111_6, p_111_7, p_111_8, p_111_9, p_111_12, p_111_13, p_111_15, p_111_16, p_111_17, p_111_18, p_111_19, p_111_20, p_111_23, p_111_26, p_111_29, p_111_30, p_111_32, p_111_33, p_111_34, p_111_35, p_111_38, p_111_41, p_111_44, p_111_45, p_111_47, p_111_48, p_111_49, p_111_50, p_111_52, p_111_55, p_111_58, p_111_59, p_111_60, p_111_61, p_111_62, p_111_63, p_111_64, p_111_67, p_111_70, p_111_71, p_111_72, p_111_73, p_111_74, p_111_75, p_111_76, p_111_77, p_111_78, p_111_79, e2, e3, u1, u2, u3, u4, u5, u6, u7, u8, u9, u0]
    simp only [and_true, Int.reduceAdd]
  · have e2 : f_and (f_xor x0 (-1)) (x0 - 1) = 1 := by rw [hk2, e]; rfl
    have e3 : lb x0 = 1 := by rw [hk1, e]; rfl
    simp (disch := omega) only [reduceIte, Bool.false_eq_true, if_pos, if_neg, p_111_0, p_111_1, p_111_2, p_111_3, p_111_4, p_111_5, p_111_6, p_111_7, p_111_8, p_111_9, p_111_12, p_111_13, p_111_15, p_111_16, p_111_17, p_111_18, p_111_19, p_111_20, p_111_23, p_111_26, p_111_29, p_111_30, p_111_32, p_111_33, p_111_34, p_111_35, p_111_38, p_111_41, p_111_44, p_111_45, p_111_47, p_111_48, p_111_49, p_111_50, p_111_52, p_111_55, p_111_58, p_111_59, p_111_60, p_111_61, p_111_62, p_111_63, p_111_64, p_111_67, p_111_70, p_111_71, p_111_72, p_111_73, p_111_74, p_111_75, p_111_76, p_111_77, p_111_78, p_111_79, e2, e3, u1, u2, u3, u4, u5, u6, u7, u8, u9, u0]
    simp only [and_true, Int.reduceAdd]
  · have e2 : f_and (f_xor x0 (-1)) (x0 - 1) = 3 := by rw [hk2, e]; rfl
    have e3 : lb x0 = 2 := by rw [hk1, e]; rfl
    simp (disch := omega) only [reduceIte, Bool.false_eq_true, if_pos, if_neg, p_111_0, p_111_1, p_111_2, p_111_3, p_111_4, p_111_5, p_111_6, p_111_7, p_111_8, p_111_9, p_111_12, p_111_13, p_111_15, p_111_16, p_111_17, p_111_18, p_111_19, p_111_20, p_111_23, p_111_26, p_111_29, p_111_30, p_111_32, p_111_33, p_111_34, p_111_35, p_111_38, p_111_41, p_111_44, p_111_45, p_111_47, p_111_48, p_111_49, p_111_50, p_111_52, p_111_55, p_111_58, p_111_59, p_111_60, p_111_61, p_111_62, p_111_63, p_111_64, p_111_67, p_111_70, p_111_71, p_111_72, p_111_73, p_111_74, p_111_75, p_111_76, p_111_77, p_111_78, p_111_79, e2, e3, u1, u2, u3, u4, u5, u6, u7, u8, u9, u0]
    simp only [and_true, Int.reduceAdd]
  · have e2 : f_and (f_xor x0 (-1)) (x0 - 1) = 7 := by rw [hk2, e]; rfl
    have e3 : lb x0 = 3 := by rw [hk1, e]; rfl
    simp (disch := omega) only [reduceIte, Bool.false_eq_true, if_pos, if_neg, p_111_0, p_111_1, p_111_2, p_111_3, p_111_4, p_111_5, p_111_6, p_111_7, p_111_8, p_111_9, p_111_12, p_111_13, p_111_15, p_111_16, p_111_17, p_111_18, p_111_19, p_111_20, p_111_23, p_111_26, p_111_29, p_111_30, p_111_32, p_111_33, p_111_34, p_111_35, p_111_38, p_111_41, p_111_44, p_111_45, p_111_47, p_111_48, p_111_49, p_111_50, p_111_52, p_111_55, p_111_58, p_111_59, p_111_60, p_111_61, p_111_62, p_111_63, p_111_64, p_111_67, p_111_70, p_111_71, p_111_72, p_111_73, p_111_74, p_111_75, p_111_76, p_111_77, p_111_78, p_111_79, e2, e3, u1, u2, u3, u4, u5, u6, u7, u8, u9, u0]
    simp only [and_true, Int.reduceAdd]
  · have e2 : f_and (f_xor x0 (-1)) (x0 - 1) = 15 := by rw [hk2, e]; rfl
    have e3 : lb x0 = 4 := by rw [hk1, e]; rfl
    simp (disch := omega) only [reduceIte, Bool.false_eq_true, if_pos, if_neg, p_111_0, p_111_1, p_111_2, p_111_3, p_111_4, p_111_5, p_111_6, p_111_7, p_111_8, p_111_9, p_111_12, p_111_13, p_111_15, p_111_16, p_111_17, p_111_18, p_111_19, p_111_20, p_111_23, p_111_26, p_111_29, p_111_30, p_111_32, p_111_33, p_111_34, p_111_35, p_111_38, p_111_41, p_111_44, p_111_45, p_111_47, p_111_48, p_111_49, p_111_50, p_111_52, p_111_55, p_111_58, p_111_59, p_111_60, p_111_61, p_111_62, p_111_63, p_111_64, p_111_67, p_111_70, p_111_71, p_111_72, p_111_73, p_111_74, p_111_75, p_111_76, p_111_77, p_111_78, p_111_79, e2, e3, u1, u2, u3, u4, u5, u6, u7, u8, u9, u0]
    simp only [and_true, Int.reduceAdd]
  · have e2 : f_and (f_xor x0 (-1)) (x0 - 1) = 31 := by rw [hk2, e]; rfl
    have e3 : lb x0 = 5 := by rw [hk1, e]; rfl
    simp (disch := omega) only [reduceIte, Bool.false_eq_true, if_pos, if_neg, p_111_0, p_111_1, p_111_2, p_111_3, p_111_4, p_111_5, p_111_6, p_111_7, p_111_8, p_111_9, p_111_12, p_111_13, p_111_15, p_111_16, p_111_17, p_111_18, p_111_19, p_111_20, p_111_23, p_111_26, p_111_29, p_111_30, p_111_32, p_111_33, p_111_34, p_111_35, p_111_38, p_111_41, p_111_44, p_111_45, p_111_47, p_111_48, p_111_49, p_111_50, p_111_52, p_111_55, p_111_58, p_111_59, p_111_60, p_111_61, p_111_62, p_111_63, p_111_64, p_111_67, p_111_70, p_111_71, p_111_72, p_111_73, p_111_74, p_111_75, p_111_76, p_111_77, p_111_78, p_111_79, e2, e3, u1, u2, u3, u4, u5, u6, u7, u8, u9, u0]
    simp only [and_true, Int.reduceAdd]
  · have e2 : f_and (f_xor x0 (-1)) (x0 - 1) = 63 := by rw [hk2, e]; rfl
    have e3 : lb x0 = 6 := by rw [hk1, e]; rfl
    simp (disch := omega) only [reduceIte, Bool.false_eq_true, if_pos, if_neg, p_111_0, p_111_1, p_111_2, p_111_3, p_111_4, p_111_5, p_111_6, p_111_7, p_111_8, p_111_9, p_111_12, p_111_13, p_111_15, p_111_16, p_111_17, p_111_18, p_111_19, p_111_20, p_111_23, p_111_26, p_111_29, p_111_30, p_111_32, p_111_33, p_111_34, p_111_35, p_111_38, p_111_41, p_111_44, p_111_45, p_111_47, p_111_48, p_111_49, p_111_50, p_111_52, p_111_55, p_111_58, p_111_59, p_111_60, p_111_61, p_111_62, p_111_63, p_111_64, p_111_67, p_111_70, p_111_71, p_111_72, p_111_73, p_111_74, p_111_75, p_111_76, p_111_77, p_111_78, p_111_79, e2, e3, u1, u2, u3, u4, u5, u6, u7, u8, u9, u0]
    simp only [and_true, Int.reduceAdd]
  · have e2 : f_and (f_xor x0 (-1)) (x0 - 1) = 127 := by rw [hk2, e]; rfl
    have e3 : lb x0 = 7 := by rw [hk1, e]; rfl
    simp (disch := omega) only [reduceIte, Bool.false_eq_true, if_pos, if_neg, p_111_0, p_111_1, p_111_2, p_111_3, p_111_4, p_111_5, p_111_6, p_111_7, p_111_8, p_111_9, p_111_12, p_111_13, p_111_15, p_111_16, p_111_17, p_111_18, p_111_19, p_111_20, p_111_23, p_111_26, p_111_29, p_111_30, p_111_32, p_111_33, p_111_34, p_111_35, p_111_38, p_111_41, p_111_44, p_111_45, p_111_47, p_111_48, p_111_49, p_111_50, p_111_52, p_111_55, p_111_58, p_111_59, p_111_60, p_111_61, p_111_62, p_111_63, p_111_64, p_111_67, p_111_70, p_111_71, p_111_72, p_111_73, p_111_74, p_111_75, p_111_76, p_111_77, p_111_78, p_111_79, e2, e3, u1, u2, u3, u4, u5, u6, u7, u8, u9, u0]
    simp only [and_true, Int.reduceAdd]
  · have e2 : f_and (f_xor x0 (-1)) (x0 - 1) = 255 := by rw [hk2, e]; rfl
    have e3 : lb x0 = 8 := by rw [hk1, e]; rfl
    simp (disch := omega) only [reduceIte, Bool.false_eq_true, if_pos, if_neg, p_111_0, p_111_1, p_111_2, p_111_3, p_111_4, p_111_5, p_111_6, p_111_7, p_111_8, p_111_9, p_111_12, p_111_13, p_111_15, p_111_16, p_111_17, p_111_18, p_111_19, p_111_20, p_111_23, p_111_26, p_111_29, p_111_30, p_111_32, p_111_33, p_111_34, p_111_35, p_111_38, p_111_41, p_111_44, p_111_45, p_111_47, p_111_48, p_111_49, p_111_50, p_111_52, p_111_55, p_111_58, p_111_59, p_111_60, p_111_61, p_111_62, p_111_63, p_111_64, p_111_67, p_111_70, p_111_71, p_111_72, p_111_73, p_111_74, p_111_75, p_111_76, p_111_77, p_111_78, p_111_79, e2, e3, u1, u2, u3, u4, u5, u6, u7, u8, u9, u0]
    simp only [and_true, Int.reduceAdd]
  · have e2 : f_and (f_xor x0 (-1)) (x0 - 1) = 511 := by rw [hk2, e]; rfl
    have e3 : lb x0 = 9 := by rw [hk1, e]; rfl
    simp (disch := omega) only [reduceIte, Bool.false_eq_true, if_pos, if_neg, p_111_0, p_111_1, p_111_2, p_111_3, p_111_4, p_111_5, p_111_6, p_111_7, p_111_8, p_111_9, p_111_12, p_111_13, p_111_15, p_111_16, p_111_17, p_111_18, p_111_19, p_111_20, p_111_23, p_111_26, p_111_29, p_111_30, p_111_32, p_111_33, p_111_34, p_111_35, p_111_38, p_111_41, p_111_44, p_111_45, p_111_47, p_111_48, p_111_49, p_111_50, p_111_52, p_111_55, p_111_58, p_111_59, p_111_60, p_111_61, p_111_62, p_111_63, p_111_64, p_111_67, p_111_70, p_111_71, p_111_72, p_111_73, p_111_74, p_111_75, p_111_76, p_111_77, p_111_78, p_111_79, e2, e3, u1, u2, u3, u4, u5, u6, u7, u8, u9, u0]
    simp only [and_true, Int.reduceAdd]
theorem q_21_32 {d : Nat} {G : AG} {Q : Option AV → AG → Prop} {x0 : Int} {l0 l1 l2 l3 l4 l5 l6 l7 : AV} (h0 : 1 ≤ x0) (h1 : x0 < 1024) : Ends (d + 1) 21 32 [l0, l1, l2, l3, l4, l5, l6, l7] (vI x0 :: []) G Q ↔ Ends (d + 1) 21 35 [l0, l1, l2, l3, l4, l5, l6, l7] (vI (lb x0) :: []) (G) Q := p_21_32 (d := d + 0) (c_ntz (d := d + 0) h0 h1)
def CX (G : AG) : Prop := 0 ≤ G 33 9 ∧ G 33 9 ≤ 10 ∧ 0 ≤ G 33 10 ∧ G 33 10 ≤ 30 ∧ 0 ≤ G 33 8 ∧ G 33 8 < 1024 ∧ 0 ≤ G 0 3 ∧ G 0 3 ≤ 12 ∧ ∀ i : Int, 0 ≤ i → i < 10 → 0 ≤ G 35 i ∧ G 35 i ≤ 90 ∧ 0 ≤ G 36 i ∧ G 36 i ≤ 100 ∧ -1 ≤ G 37 i ∧ G 37 i ≤ 400 ∧ (i < G 33 9 → 0 ≤ G 34 i ∧ G 34 i < 6)
theorem Rel.cx {G : AG} (hR : Rel G) : CX G := by
  obtain ⟨hm0, hm1, hm2, hm3, hm4, hm5, hm6⟩ := id hR.1
  obtain ⟨hc1, hc2, hc3, hc4, hc5, hc6, hc7, hc8, hc9, hc10, hc11, hc12, hc13⟩ := id hR.2.2.2.1
  refine ⟨hc1, hc2, hc4, hc5, hc7, hc8, hm3, hm4, fun i q1 q2 => ?_⟩
  obtain ⟨k1, k2, k3, k4, k5, k6, k7, k8, k9, k10, k11, k12⟩ := hc12 i q1 q2
  exact ⟨k3, k4, k6, k7, k9, k10, fun q => by have := k12 q; omega⟩
def foX (G : AG) (p q : Int) : Bool := !nrX G (G 34 p) (G 34 q)
def rdX (G : AG) (day p : Int) : Bool := decide (G 37 p = -1) || decide (G 33 10 ≤ (if day - G 37 p < 0 then -(day - G 37 p) else day - G 37 p))
theorem l_rdy {d : Nat} {Q : Option AV → AG → Prop} {day : Int} {G : AG} (hC : CX G) (hd : 0 ≤ day ∧ day ≤ 400) (K : ∀ z : Int, bx (G 33 9) (rdX G day) z → Q (some (vI z)) G) : ∀ (m : Nat) (i z : Int) (l4 : AV), 0 ≤ i → i + m = G 33 9 → bx i (rdX G day) z → Ends (d + 1) 15 4 [vR 33, vI day, vI z, vI i, l4] [] G Q := by
  obtain ⟨c1, c2, c3, c4, c5, c6, c7, c8, c9⟩ := id hC
  intro m
  induction m with
  | zero =>
    intro i z l4 h0 h1 hB
    have e : i = G 33 9 := by omega
    subst e
    simp (disch := first | omega | ((simp (disch := omega) only [up_ne, up_eq, up_nj, gf_ne, gf_in, sa_ne, sa_eq]) <;> omega)) only [reduceIte, Bool.false_eq_true, if_pos, if_neg, up_ne, up_eq, up_nj, gf_ne, gf_in, sa_ne, sa_eq, and_self, true_and, and_true, p_15_4, p_15_5, p_15_6, p_15_9, p_15_61, p_15_62]
    exact K z hB
  | succ m ih =>
    intro i z l4 h0 h1 hB
    obtain ⟨y1, y2, y3, y4, y5, y6, y7⟩ := c9 i h0 (by omega)
    obtain ⟨b1, b2, -⟩ := id hB
    have st := bx_step hB h0 (by omega)
    have step : ∀ c : Int, (c = 0 ∨ c = 1) → decide (c = 1) = rdX G day i → Ends (d + 1) 15 4 [vR 33, vI day, vI (wb z i (decide (c = 1))), vI (i + 1), vI c] [] G Q := by
      intro c hc hf
      rw [hf]
      exact ih (i + 1) _ _ (by omega) (by omega) st
    by_cases u : G 37 i = -1
    · simp (disch := first | omega | ((simp (disch := omega) only [up_ne, up_eq, up_nj, gf_ne, gf_in, sa_ne, sa_eq]) <;> omega)) only [reduceIte, Bool.false_eq_true, if_pos, if_neg, up_ne, up_eq, up_nj, gf_ne, gf_in, sa_ne, sa_eq, and_self, true_and, and_true, p_15_4, p_15_5, p_15_6, p_15_9, p_15_12, p_15_13, p_15_16, p_15_17, p_15_18, p_15_19, p_15_22, p_15_23, p_15_24, p_15_27, p_15_28, p_15_29, q_15_30, p_15_33, p_15_34, p_15_37, p_15_40, p_15_41, p_15_44, p_15_45, p_15_47, p_15_48, p_15_49, q_15_51, p_15_54, p_15_55]
      rw [p_15_58]
      exact step 1 (Or.inr rfl) (by simp [rdX, u])
    · by_cases v : day - G 37 i < 0
      · by_cases w : G 33 10 ≤ -(day - G 37 i)
        · simp (disch := first | omega | ((simp (disch := omega) only [up_ne, up_eq, up_nj, gf_ne, gf_in, sa_ne, sa_eq]) <;> omega)) only [reduceIte, Bool.false_eq_true, if_pos, if_neg, up_ne, up_eq, up_nj, gf_ne, gf_in, sa_ne, sa_eq, and_self, true_and, and_true, p_15_4, p_15_5, p_15_6, p_15_9, p_15_12, p_15_13, p_15_16, p_15_17, p_15_18, p_15_19, p_15_22, p_15_23, p_15_24, p_15_27, p_15_28, p_15_29, q_15_30, p_15_33, p_15_34, p_15_37, p_15_40, p_15_41, p_15_44, p_15_45, p_15_47, p_15_48, p_15_49, q_15_51, p_15_54, p_15_55]
          rw [p_15_58]
          exact step 1 (Or.inr rfl) (by unfold rdX; rw [if_pos v, decide_eq_true w]; simp)
        · simp (disch := first | omega | ((simp (disch := omega) only [up_ne, up_eq, up_nj, gf_ne, gf_in, sa_ne, sa_eq]) <;> omega)) only [reduceIte, Bool.false_eq_true, if_pos, if_neg, up_ne, up_eq, up_nj, gf_ne, gf_in, sa_ne, sa_eq, and_self, true_and, and_true, p_15_4, p_15_5, p_15_6, p_15_9, p_15_12, p_15_13, p_15_16, p_15_17, p_15_18, p_15_19, p_15_22, p_15_23, p_15_24, p_15_27, p_15_28, p_15_29, q_15_30, p_15_33, p_15_34, p_15_37, p_15_40, p_15_41, p_15_44, p_15_45, p_15_47, p_15_48, p_15_49, q_15_51, p_15_54, p_15_55]
          rw [p_15_58]
          exact step 0 (Or.inl rfl) (by unfold rdX; rw [if_pos v, decide_eq_false w, decide_eq_false u]; rfl)
      · by_cases w : G 33 10 ≤ day - G 37 i
        · simp (disch := first | omega | ((simp (disch := omega) only [up_ne, up_eq, up_nj, gf_ne, gf_in, sa_ne, sa_eq]) <;> omega)) only [reduceIte, Bool.false_eq_true, if_pos, if_neg, up_ne, up_eq, up_nj, gf_ne, gf_in, sa_ne, sa_eq, and_self, true_and, and_true, p_15_4, p_15_5, p_15_6, p_15_9, p_15_12, p_15_13, p_15_16, p_15_17, p_15_18, p_15_19, p_15_22, p_15_23, p_15_24, p_15_27, p_15_28, p_15_29, q_15_30, p_15_33, p_15_34, p_15_37, p_15_40, p_15_41, p_15_44, p_15_45, p_15_47, p_15_48, p_15_49, q_15_51, p_15_54, p_15_55]
          rw [p_15_58]
          exact step 1 (Or.inr rfl) (by unfold rdX; rw [if_neg v, decide_eq_true w]; simp)
        · simp (disch := first | omega | ((simp (disch := omega) only [up_ne, up_eq, up_nj, gf_ne, gf_in, sa_ne, sa_eq]) <;> omega)) only [reduceIte, Bool.false_eq_true, if_pos, if_neg, up_ne, up_eq, up_nj, gf_ne, gf_in, sa_ne, sa_eq, and_self, true_and, and_true, p_15_4, p_15_5, p_15_6, p_15_9, p_15_12, p_15_13, p_15_16, p_15_17, p_15_18, p_15_19, p_15_22, p_15_23, p_15_24, p_15_27, p_15_28, p_15_29, q_15_30, p_15_33, p_15_34, p_15_37, p_15_40, p_15_41, p_15_44, p_15_45, p_15_47, p_15_48, p_15_49, q_15_51, p_15_54, p_15_55]
          rw [p_15_58]
          exact step 0 (Or.inl rfl) (by unfold rdX; rw [if_neg v, decide_eq_false w, decide_eq_false u]; rfl)
theorem c_rdy {d : Nat} {Q : Option AV → AG → Prop} {day : Int} {G : AG} (hC : CX G) (hd : 0 ≤ day ∧ day ≤ 400) (K : ∀ z : Int, bx (G 33 9) (rdX G day) z → Q (some (vI z)) G) : Ends (d + 1) 15 0 [vR 33, vI day, vU, vU, vU] [] G Q := by
  simp (disch := first | omega | ((simp (disch := omega) only [up_ne, up_eq, up_nj, gf_ne, gf_in, sa_ne, sa_eq]) <;> omega)) only [reduceIte, Bool.false_eq_true, if_pos, if_neg, up_ne, up_eq, up_nj, gf_ne, gf_in, sa_ne, sa_eq, and_self, true_and, and_true, p_15_0, p_15_1, p_15_2, p_15_3]
  exact l_rdy hC hd K (G 33 9).toNat 0 0 vU (by omega) (by have := hC.1; omega) bx_zero
theorem l_lf1 {d : Nat} {Q : Option AV → AG → Prop} {a n : Int} {G0 : AG} (hC : CX G0) (hN : G0 33 9 = n) (ha : 0 ≤ a ∧ a < n) :
    ∀ (m : Nat) (i : Int) (G : AG) (l3 : AV), 0 ≤ i → i + m = n → (∀ b : Nat, b ≠ 38 → G b = G0 b) → bx i (foX G0 a) (G 38 a) →
      (∀ (G' : AG) (l3' : AV), (∀ b : Nat, b ≠ 38 → G' b = G0 b) → (∀ j : Int, j ≠ a → G' 38 j = G 38 j) → bx n (foX G0 a) (G' 38 a) → Ends (d + 3) 16 78 [vR 33, vI a, vI n, l3'] [] G' Q) →
      Ends (d + 3) 16 19 [vR 33, vI a, vI i, l3] [] G Q := by
  obtain ⟨c1, c2, c3, c4, c5, c6, c7, c8, c9⟩ := id hC
  obtain ⟨x1, x2, x3, x4, x5, x6, x7⟩ := c9 a ha.1 (by omega)
  have x7' := x7 (by omega)
  intro m
  induction m with
  | zero =>
    intro i G l3 h0 h1 hE hB K
    have e : i = n := by omega
    subst e
    have e3 : G 33 9 = G0 33 9 := by rw [hE 33 (by decide)]
    simp (disch := first | omega | ((simp (disch := omega) only [up_ne, up_eq, up_nj, gf_ne, gf_in, sa_ne, sa_eq]) <;> omega)) only [reduceIte, Bool.false_eq_true, if_pos, if_neg, up_ne, up_eq, up_nj, gf_ne, gf_in, sa_ne, sa_eq, and_self, true_and, and_true, p_16_19, p_16_20, p_16_21, p_16_24, e3]
    exact K G l3 hE (fun _ _ => rfl) hB
  | succ m ih =>
    intro i G l3 h0 h1 hE hB K
    obtain ⟨y1, y2, y3, y4, y5, y6, y7⟩ := c9 i h0 (by omega)
    have y7' := y7 (by omega)
    have e3 : G 33 9 = G0 33 9 := by rw [hE 33 (by decide)]
    have e34 : ∀ k : Int, G 34 k = G0 34 k := fun k => by rw [hE 34 (by decide)]
    have e03 : G 0 3 = G0 0 3 := by rw [hE 0 (by decide)]
    have e1 : ∀ k : Int, G 1 k = G0 1 k := fun k => by rw [hE 1 (by decide)]
    obtain ⟨b1, b2, -⟩ := id hB
    have st := bx_step hB h0 (by omega)
    have step : ∀ c : Int, (c = 0 ∨ c = 1) → decide (c = 1) = foX G0 a i → Ends (d + 3) 16 19 [vR 33, vI a, vI (i + 1), vI c] [] (am_up G 38 a (wb (G 38 a) i (decide (c = 1)))) Q := by
      intro c hc hf
      rw [hf]
      refine ih (i + 1) _ _ (by omega) (by omega) (fun b hb => by rw [am_up_ne _ _ _ _ _ hb, hE b hb]) ?_ ?_
      · rw [up_eq rfl rfl]
        exact st
      · intro G' l3' q1 q2 q3
        exact K G' l3' q1 (fun j hj => by rw [q2 j hj, up_nj hj]) q3
    clear st
    by_cases u : G0 0 3 < f_bc (f_and (G0 1 (G0 34 a)) (G0 1 (G0 34 i)))
    · simp (disch := first | omega | ((simp (disch := omega) only [up_ne, up_eq, up_nj, gf_ne, gf_in, sa_ne, sa_eq]) <;> omega)) only [reduceIte, Bool.false_eq_true, if_pos, if_neg, up_ne, up_eq, up_nj, gf_ne, gf_in, sa_ne, sa_eq, and_self, true_and, and_true, p_16_19, p_16_20, p_16_21, p_16_24, p_16_27, p_16_28, p_16_31, p_16_32, p_16_35, p_16_36, p_16_37, p_16_38, p_16_41, p_16_42, q_16_43, p_16_46, p_16_49, p_16_50, p_16_53, p_16_54, p_16_55, p_16_56, p_16_59, p_16_60, p_16_61, p_16_64, p_16_65, p_16_66, p_16_67, q_16_68, p_16_71, p_16_72, e3, e34, e03, e1]
      rw [p_16_75]
      exact step 0 (Or.inl rfl) (by unfold foX nrX; rw [decide_eq_true u]; rfl)
    · simp (disch := first | omega | ((simp (disch := omega) only [up_ne, up_eq, up_nj, gf_ne, gf_in, sa_ne, sa_eq]) <;> omega)) only [reduceIte, Bool.false_eq_true, if_pos, if_neg, up_ne, up_eq, up_nj, gf_ne, gf_in, sa_ne, sa_eq, and_self, true_and, and_true, p_16_19, p_16_20, p_16_21, p_16_24, p_16_27, p_16_28, p_16_31, p_16_32, p_16_35, p_16_36, p_16_37, p_16_38, p_16_41, p_16_42, q_16_43, p_16_46, p_16_49, p_16_50, p_16_53, p_16_54, p_16_55, p_16_56, p_16_59, p_16_60, p_16_61, p_16_64, p_16_65, p_16_66, p_16_67, q_16_68, p_16_71, p_16_72, e3, e34, e03, e1]
      rw [p_16_75]
      exact step 1 (Or.inr rfl) (by unfold foX nrX; rw [decide_eq_false u]; rfl)
theorem l_lf2 {d : Nat} {Q : Option AV → AG → Prop} {n : Int} {G0 : AG} (hC : CX G0) (hN : G0 33 9 = n) (K : ∀ G' : AG, (∀ b : Nat, b ≠ 38 → G' b = G0 b) → (∀ a : Int, 0 ≤ a → a < n → bx n (foX G0 a) (G' 38 a)) → Q none G') :
    ∀ (m : Nat) (a : Int) (G : AG) (l2 l3 : AV), 0 ≤ a → a + m = n → (∀ b : Nat, b ≠ 38 → G b = G0 b) → (∀ a' : Int, 0 ≤ a' → a' < a → bx n (foX G0 a') (G 38 a')) → Ends (d + 3) 16 2 [vR 33, vI a, l2, l3] [] G Q := by
  have c1 := hC.1
  have c2 := hC.2.1
  intro m
  induction m with
  | zero =>
    intro a G l2 l3 h0 h1 hE hB
    have e3 : G 33 9 = G0 33 9 := by rw [hE 33 (by decide)]
    simp (disch := first | omega | ((simp (disch := omega) only [up_ne, up_eq, up_nj, gf_ne, gf_in, sa_ne, sa_eq]) <;> omega)) only [reduceIte, Bool.false_eq_true, if_pos, if_neg, up_ne, up_eq, up_nj, gf_ne, gf_in, sa_ne, sa_eq, and_self, true_and, and_true, p_16_2, p_16_3, p_16_4, p_16_7, p_16_84, e3]
    exact K G hE (fun a' q1 q2 => hB a' q1 (by omega))
  | succ m ih =>
    intro a G l2 l3 h0 h1 hE hB
    have e3 : G 33 9 = G0 33 9 := by rw [hE 33 (by decide)]
    simp (disch := first | omega | ((simp (disch := omega) only [up_ne, up_eq, up_nj, gf_ne, gf_in, sa_ne, sa_eq]) <;> omega)) only [reduceIte, Bool.false_eq_true, if_pos, if_neg, up_ne, up_eq, up_nj, gf_ne, gf_in, sa_ne, sa_eq, and_self, true_and, and_true, p_16_2, p_16_3, p_16_4, p_16_7, p_16_10, p_16_11, p_16_14, p_16_15, p_16_16, p_16_17, p_16_18, e3]
    refine l_lf1 hC hN ⟨h0, by omega⟩ n.toNat 0 _ _ (by omega) (by omega) (fun b hb => by rw [am_up_ne _ _ _ _ _ hb, hE b hb]) ?_ ?_
    · rw [up_eq rfl rfl]
      exact bx_zero
    · intro G' l3' q1 q2 q3
      simp (disch := first | omega | ((simp (disch := omega) only [up_ne, up_eq, up_nj, gf_ne, gf_in, sa_ne, sa_eq]) <;> omega)) only [reduceIte, Bool.false_eq_true, if_pos, if_neg, up_ne, up_eq, up_nj, gf_ne, gf_in, sa_ne, sa_eq, and_self, true_and, and_true, p_16_78]
      rw [p_16_81]
      refine ih (a + 1) G' _ _ (by omega) (by omega) q1 (fun a' r1 r2 => ?_)
      by_cases e : a' = a
      · subst e
        exact q3
      · rw [q2 a' e, up_nj e]
        exact hB a' r1 (by omega)
theorem c_lf {d : Nat} {Q : Option AV → AG → Prop} {G0 : AG} (hC : CX G0) (K : ∀ G' : AG, (∀ b : Nat, b ≠ 38 → G' b = G0 b) → (∀ a : Int, 0 ≤ a → a < G0 33 9 → bx (G0 33 9) (foX G0 a) (G' 38 a)) → Q none G') : Ends (d + 3) 16 0 [vR 33, vU, vU, vU] [] G0 Q := by
  simp (disch := first | omega | ((simp (disch := omega) only [up_ne, up_eq, up_nj, gf_ne, gf_in, sa_ne, sa_eq]) <;> omega)) only [reduceIte, Bool.false_eq_true, if_pos, if_neg, up_ne, up_eq, up_nj, gf_ne, gf_in, sa_ne, sa_eq, and_self, true_and, and_true, p_16_0, p_16_1r]
  exact l_lf2 hC rfl K (G0 33 9).toNat 0 G0 _ _ (by omega) (by have := hC.1; omega) (fun _ _ => rfl) (fun a' q1 q2 => by omega)
theorem and_any {n : Int} {fo : Int → Int → Bool} {F fw : Int → Int} (h : EN n fo F fw) {x p : Int} (hx : 0 ≤ x ∧ x < 1024) (hp : 0 ≤ p ∧ p < n) : any (fun q => tb x q && fo p q) n.toNat 0 = decide (f_and x (fw p) ≠ 0) := by
  have hfw := h.2.2.2.2 p hp.1 hp.2
  have hn1 := h.1
  have hn2 := h.2.1
  by_cases u : f_and x (fw p) = 0
  · rw [decide_eq_false (fun z => z u)]
    cases e : any (fun q => tb x q && fo p q) n.toNat 0
    · rfl
    · exfalso
      obtain ⟨k, k1, k2, k3⟩ := (any_iff _ _).mp e
      have hk : tb (f_and x (fw p)) k = true := by
        rw [tb_and2 hx ⟨hfw.1, hfw.2.1⟩, hfw.2.2 k k1 (by omega), decide_eq_true (by omega), Bool.true_and]
        exact k3
      rw [u, tb_zero] at hk
      cases hk
  · rw [decide_eq_true u]
    have har := f_and_rng2 hx ⟨hfw.1, hfw.2.1⟩
    obtain ⟨l1, l2, l3, -⟩ := lb_spec har u
    rw [tb_and2 hx ⟨hfw.1, hfw.2.1⟩, hfw.2.2 _ l1 l2] at l3
    simp only [Bool.and_eq_true, decide_eq_true_iff] at l3
    refine (any_iff _ _).mpr ⟨lb (f_and x (fw p)), l1, by omega, ?_⟩
    rw [Bool.and_eq_true]
    exact ⟨l3.1, l3.2.2⟩
theorem l_fo {d : Nat} {Q : Option AV → AG → Prop} {n w : Int} {fo : Int → Int → Bool} {F fw : Int → Int} {G : AG} (h : EN n fo F fw) (hN : G 33 9 = n) (hw : 1 ≤ w ∧ w < 1024) (h40 : ∀ p : Int, 0 ≤ p → p < n → tb w p = true → wb w p false ≠ 0 → G 40 (wb w p false) = F (wb w p false)) (h38 : ∀ p : Int, 0 ≤ p → p < n → G 38 p = fw p) (K : ∀ z : Int, bx n (pfs n fo F w) z → Q (some (vI z)) G) :
    ∀ (m : Nat) (i z : Int) (l4 l5 : AV), 0 ≤ i → i + m = n → bx i (pfs n fo F w) z → Ends (d + 1) 17 4 [vR 33, vI w, vI z, vI i, l4, l5] [] G Q := by
  have hn1 := h.1
  have hn2 := h.2.1
  have hd0 : decide ((0 : Int) = 1) = false := by decide
  intro m
  induction m with
  | zero =>
    intro i z l4 l5 h0 h1 hB
    have e : i = n := by omega
    subst e
    simp (disch := first | omega | ((simp (disch := omega) only [up_ne, up_eq, up_nj, gf_ne, gf_in, sa_ne, sa_eq]) <;> omega)) only [reduceIte, Bool.false_eq_true, if_pos, if_neg, up_ne, up_eq, up_nj, gf_ne, gf_in, sa_ne, sa_eq, and_self, true_and, and_true, p_17_4, p_17_5, p_17_6, p_17_9, p_17_71, p_17_72, hN]
    exact K z hB
  | succ m ih =>
    intro i z l4 l5 h0 h1 hB
    obtain ⟨b1, b2, -⟩ := id hB
    have st := bx_step hB h0 (by omega)
    by_cases u : tb w i = true
    · obtain ⟨w1, w2, -, -⟩ := wb_clr ⟨by omega, hw.2⟩ ⟨h0, by omega⟩ u
      have step : ∀ c : Int, (c = 0 ∨ c = 1) → decide (c = 1) = pfs n fo F w i → ∀ l4 : AV, Ends (d + 1) 17 4 [vR 33, vI w, vI (wb z i (decide (c = 1))), vI (i + 1), l4, vI c] [] G Q := by
        intro c hc hf l4
        rw [hf]
        exact ih (i + 1) _ _ _ (by omega) (by omega) st
      clear st
      by_cases v : wb w i false = 0
      · simp (disch := first | omega | ((simp (disch := omega) only [up_ne, up_eq, up_nj, gf_ne, gf_in, sa_ne, sa_eq]) <;> omega)) only [reduceIte, Bool.false_eq_true, if_pos, if_neg, up_ne, up_eq, up_nj, gf_ne, gf_in, sa_ne, sa_eq, and_self, true_and, and_true, p_17_4, p_17_5, p_17_6, p_17_9, p_17_12, p_17_13, q_17_14, p_17_17, p_17_20, p_17_21, p_17_22, q_17_23, p_17_26, p_17_28, p_17_30, p_17_33, p_17_34, p_17_37, p_17_39, p_17_40, p_17_41, p_17_44, p_17_45, p_17_46, p_17_47, p_17_50, p_17_51, p_17_54, p_17_55, p_17_57, p_17_58, p_17_59, q_17_61, p_17_64, p_17_65, hN, u, hd0]
        rw [p_17_68]
        exact step 1 (Or.inr rfl) (by unfold pfs; rw [u, decide_eq_true v]; rfl) _
      · have hFr := h.rng (w := wb w i false) ⟨w1, by omega⟩
        have hpf : pfs n fo F w i = decide (f_and (F (wb w i false)) (fw i) ≠ 0) := by
          unfold pfs
          rw [u, decide_eq_false v, and_any h hFr ⟨h0, by omega⟩, Bool.true_and, Bool.false_or]
        have e40 := h40 i h0 (by omega) u v
        have e38 := h38 i h0 (by omega)
        have hfw := h.2.2.2.2 i h0 (by omega)
        have har := f_and_rng2 hFr ⟨hfw.1, hfw.2.1⟩
        clear hfw
        by_cases x : f_and (F (wb w i false)) (fw i) = 0
        · simp (disch := first | omega | ((simp (disch := omega) only [up_ne, up_eq, up_nj, gf_ne, gf_in, sa_ne, sa_eq]) <;> omega)) only [reduceIte, Bool.false_eq_true, if_pos, if_neg, up_ne, up_eq, up_nj, gf_ne, gf_in, sa_ne, sa_eq, and_self, true_and, and_true, p_17_4, p_17_5, p_17_6, p_17_9, p_17_12, p_17_13, q_17_14, p_17_17, p_17_20, p_17_21, p_17_22, q_17_23, p_17_26, p_17_28, p_17_30, p_17_33, p_17_34, p_17_37, p_17_39, p_17_40, p_17_41, p_17_44, p_17_45, p_17_46, p_17_47, p_17_50, p_17_51, p_17_54, p_17_55, p_17_57, p_17_58, p_17_59, q_17_61, p_17_64, p_17_65, hN, u, hd0, e40, e38]
          rw [p_17_68]
          exact step 0 (Or.inl rfl) (by rw [hpf, x]; rfl) _
        · simp (disch := first | omega | ((simp (disch := omega) only [up_ne, up_eq, up_nj, gf_ne, gf_in, sa_ne, sa_eq]) <;> omega)) only [reduceIte, Bool.false_eq_true, if_pos, if_neg, up_ne, up_eq, up_nj, gf_ne, gf_in, sa_ne, sa_eq, and_self, true_and, and_true, p_17_4, p_17_5, p_17_6, p_17_9, p_17_12, p_17_13, q_17_14, p_17_17, p_17_20, p_17_21, p_17_22, q_17_23, p_17_26, p_17_28, p_17_30, p_17_33, p_17_34, p_17_37, p_17_39, p_17_40, p_17_41, p_17_44, p_17_45, p_17_46, p_17_47, p_17_50, p_17_51, p_17_54, p_17_55, p_17_57, p_17_58, p_17_59, q_17_61, p_17_64, p_17_65, hN, u, hd0, e40, e38]
          rw [p_17_68]
          exact step 1 (Or.inr rfl) (by rw [hpf, decide_eq_true x]; rfl) _
    · have u' : tb w i = false := by simpa using u
      simp (disch := first | omega | ((simp (disch := omega) only [up_ne, up_eq, up_nj, gf_ne, gf_in, sa_ne, sa_eq]) <;> omega)) only [reduceIte, Bool.false_eq_true, if_pos, if_neg, up_ne, up_eq, up_nj, gf_ne, gf_in, sa_ne, sa_eq, and_self, true_and, and_true, p_17_4, p_17_5, p_17_6, p_17_9, p_17_12, p_17_13, q_17_14, p_17_17, p_17_20, p_17_21, p_17_22, q_17_23, p_17_26, p_17_28, p_17_30, p_17_33, p_17_34, p_17_37, p_17_39, p_17_40, p_17_41, p_17_44, p_17_45, p_17_46, p_17_47, p_17_50, p_17_51, p_17_54, p_17_55, p_17_57, p_17_58, p_17_59, q_17_61, p_17_64, p_17_65, hN, u]
      rw [p_17_68]
      exact ih (i + 1) _ _ _ (by omega) (by omega) (bx_skip hB (by unfold pfs; rw [u', Bool.false_and]))
theorem c_fo {d : Nat} {n w : Int} {fo : Int → Int → Bool} {F fw : Int → Int} {G : AG} (h : EN n fo F fw) (hN : G 33 9 = n) (hw : 1 ≤ w ∧ w < 1024) (h40 : ∀ p : Int, 0 ≤ p → p < n → tb w p = true → wb w p false ≠ 0 → G 40 (wb w p false) = F (wb w p false)) (h38 : ∀ p : Int, 0 ≤ p → p < n → G 38 p = fw p) :
    Ret (d + 1) 17 [vR 33, vI w, vU, vU, vU, vU] G (some (vI (F w))) G := by
  unfold Ret
  simp (disch := first | omega | ((simp (disch := omega) only [up_ne, up_eq, up_nj, gf_ne, gf_in, sa_ne, sa_eq]) <;> omega)) only [reduceIte, Bool.false_eq_true, if_pos, if_neg, up_ne, up_eq, up_nj, gf_ne, gf_in, sa_ne, sa_eq, and_self, true_and, and_true, p_17_0, p_17_1, p_17_2, p_17_3]
  refine l_fo h hN hw h40 h38 (fun z hz => ?_) n.toNat 0 0 _ _ (by omega) (by have := h.1; omega) bx_zero
  rw [bx_uni hz (h.2.2.2.1 w hw.1 hw.2)]
  exact ⟨rfl, rfl⟩
theorem swf_rng {f : Int → Int} {n w c : Int} (hn : 0 ≤ n ∧ n ≤ 10) (hc : 0 ≤ c) (hf : ∀ i : Int, 0 ≤ i → i < 10 → 0 ≤ f i ∧ f i ≤ c) : 0 ≤ swf f n w ∧ swf f n w ≤ n * c := by
  unfold swf
  have := sumf_rng (p := fun p => if tb w p = true then f p else 0) (c := c) n.toNat 0 (fun k q1 q2 => by
    have := hf k q1 (by omega)
    show 0 ≤ (if tb w k = true then f k else 0) ∧ (if tb w k = true then f k else 0) ≤ c
    split <;> omega)
  rw [Int.toNat_of_nonneg hn.1] at this
  exact this
theorem l_sm {d a : Nat} {Q : Option AV → AG → Prop} {n w : Int} {G : AG} (hs : SKG[a]? = some (1, 10, [])) (hn : 0 ≤ n ∧ n ≤ 10) (hN : G 33 9 = n) (hw : 0 ≤ w ∧ w < 1024) (hf : ∀ i : Int, 0 ≤ i → i < 10 → 0 ≤ G a i ∧ G a i ≤ 100) :
    ∀ (m : Nat) (i acc : Int), 0 ≤ i → i + m = n → 0 ≤ acc → acc ≤ 100 * i → (Ends (d + 1) 20 5 [vR 33, vR a, vI w, vI acc, vI i] [] G Q ↔ Q (some (vI (acc + sumf (fun p => if tb w p = true then G a p else 0) m i))) G) := by
  intro m
  induction m with
  | zero =>
    intro i acc h0 h1 h2 h3
    have e : i = n := by omega
    subst e
    simp (disch := first | omega | ((simp (disch := omega) only [up_ne, up_eq, up_nj, gf_ne, gf_in, sa_ne, sa_eq]) <;> omega)) only [reduceIte, Bool.false_eq_true, if_pos, if_neg, up_ne, up_eq, up_nj, gf_ne, gf_in, sa_ne, sa_eq, and_self, true_and, and_true, p_20_5, p_20_7, p_20_8, p_20_11, p_20_36, p_20_37, hN]
    rw [sumf, Int.add_zero]
  | succ m ih =>
    intro i acc h0 h1 h2 h3
    have y := hf i h0 (by omega)
    rw [sumf]
    by_cases u : tb w i = true
    · simp (disch := first | omega | ((simp (disch := omega) only [up_ne, up_eq, up_nj, gf_ne, gf_in, sa_ne, sa_eq]) <;> omega)) only [reduceIte, Bool.false_eq_true, if_pos, if_neg, up_ne, up_eq, up_nj, gf_ne, gf_in, sa_ne, sa_eq, and_self, true_and, and_true, p_20_5, p_20_7, p_20_8, p_20_11, p_20_14, p_20_15, q_20_17, p_20_20, p_20_23, p_20_24, p_20_25, hN, u]
      rw [p_20_27 hs h0 (by omega) (by decide)]
      simp (disch := first | omega | ((simp (disch := omega) only [up_ne, up_eq, up_nj, gf_ne, gf_in, sa_ne, sa_eq]) <;> omega)) only [reduceIte, Bool.false_eq_true, if_pos, if_neg, up_ne, up_eq, up_nj, gf_ne, gf_in, sa_ne, sa_eq, and_self, true_and, and_true, p_20_28, p_20_29, p_20_30]
      rw [p_20_33, ih (i + 1) (acc + G a i) (by omega) (by omega) (by omega) (by omega), Int.add_assoc]
    · simp (disch := first | omega | ((simp (disch := omega) only [up_ne, up_eq, up_nj, gf_ne, gf_in, sa_ne, sa_eq]) <;> omega)) only [reduceIte, Bool.false_eq_true, if_pos, if_neg, up_ne, up_eq, up_nj, gf_ne, gf_in, sa_ne, sa_eq, and_self, true_and, and_true, p_20_5, p_20_7, p_20_8, p_20_11, p_20_14, p_20_15, q_20_17, p_20_20, p_20_23, p_20_24, p_20_25, p_20_28, p_20_29, p_20_30, hN, u]
      rw [p_20_33, ih (i + 1) acc (by omega) (by omega) (by omega) (by omega)]
      rw [Int.zero_add]
theorem c_sm {d a : Nat} {n w : Int} {G : AG} (hs : SKG[a]? = some (1, 10, [])) (hn : 0 ≤ n ∧ n ≤ 10) (hN : G 33 9 = n) (hw : 0 ≤ w ∧ w < 1024) (hf : ∀ i : Int, 0 ≤ i → i < 10 → 0 ≤ G a i ∧ G a i ≤ 100) :
    Ret (d + 1) 20 [vR 33, vR a, vI w, vU, vU] G (some (vI (swf (G a) n w))) G := by
  unfold Ret
  simp (disch := first | omega | ((simp (disch := omega) only [up_ne, up_eq, up_nj, gf_ne, gf_in, sa_ne, sa_eq]) <;> omega)) only [reduceIte, Bool.false_eq_true, if_pos, if_neg, up_ne, up_eq, up_nj, gf_ne, gf_in, sa_ne, sa_eq, and_self, true_and, and_true, p_20_0, p_20_1, p_20_2, p_20_3]
  rw [l_sm hs hn hN hw hf n.toNat 0 0 (by omega) (by omega) (by omega) (by omega), Int.zero_add]
  exact ⟨rfl, rfl⟩
