/-! who may follow whom, which modes are far -/
def fow (G : AG) (a j : Int) : Bool := decide (j ≠ a) && decide (G 4 a ≤ G 4 j) && (!tb (G 5 a) j)
/-- a row of bits as asked -/
def bitsOf (n : Int) (P : Int → Bool) (z : Int) : Prop := 0 ≤ z ∧ z < 64 ∧ ∀ j : Int, 0 ≤ j → j < 6 → tb z j = (decide (j < n) && P j)
theorem l_fol1 {d : Nat} {Q : Option AV → AG → Prop} {a n : Int} {G0 : AG} (hX : XS G0) (hn : 0 ≤ n ∧ n ≤ 6) (hN : G0 3 4 = n) (ha : 0 ≤ a ∧ a < n) :
    ∀ (m : Nat) (i : Int) (G : AG) (l3 : AV), 0 ≤ i → i + m = n → (∀ b : Nat, b ≠ 29 → G b = G0 b) → bitsOf i (fow G0 a) (G 29 a) →
      (∀ (G' : AG) (l3' : AV), (∀ b : Nat, b ≠ 29 → G' b = G0 b) → (∀ j : Int, j ≠ a → G' 29 j = G 29 j) → bitsOf n (fow G0 a) (G' 29 a) → Ends (d + 1) 26 104 [vR 16, vI a, vI n, l3'] [] G' Q) →
      Ends (d + 1) 26 22 [vR 16, vI a, vI i, l3] [] G Q := by
  have xa := hX.2.2.2.2.2.2.1 a ha.1 (by omega)
  intro m
  induction m with
  | zero =>
    intro i G l3 h0 h1 hE hB K
    have e : i = n := by omega
    subst e
    have e3 : G 3 4 = G0 3 4 := by rw [hE 3 (by decide)]
    simp (disch := first | omega | ((simp (disch := omega) only [up_ne, up_eq, up_nj, gf_ne, gf_in, sa_ne, sa_eq]) <;> omega)) only [reduceIte, Bool.false_eq_true, if_pos, if_neg, up_ne, up_eq, up_nj, gf_ne, gf_in, sa_ne, sa_eq, and_self, true_and, and_true, p_26_22, p_26_23, p_26_24, p_26_27, p_26_30, p_26_33, p_26_34, p_26_35, p_26_38, p_26_39, p_26_42, p_26_45, p_26_46, p_26_47, p_26_48, p_26_51, p_26_54, p_26_55, p_26_56, p_26_59, p_26_60, p_26_63, p_26_66, p_26_67, p_26_68, q_26_69, p_26_72, p_26_75, p_26_76, p_26_79, p_26_80, p_26_81, p_26_82, p_26_85, p_26_86, p_26_87, p_26_90, p_26_91, p_26_92, p_26_93, q_26_94, p_26_97, p_26_98, e3]
    exact K G l3 hE (fun _ _ => rfl) hB
  | succ m ih =>
    intro i G l3 h0 h1 hE hB K
    have xi := hX.2.2.2.2.2.2.1 i h0 (by omega)
    have e3 : G 3 4 = G0 3 4 := by rw [hE 3 (by decide)]
    have e4 : ∀ k : Int, G 4 k = G0 4 k := fun k => by rw [hE 4 (by decide)]
    have e5 : ∀ k : Int, G 5 k = G0 5 k := fun k => by rw [hE 5 (by decide)]
    obtain ⟨b1, b2, b3⟩ := hB
    have b3' : G 29 a < 2147483648 := by omega
    have step : ∀ c : Int, (c = 0 ∨ c = 1) → decide (c = 1) = fow G0 a i → Ends (d + 1) 26 22 [vR 16, vI a, vI (i + 1), vI c] [] (am_up G 29 a (wb (G 29 a) i (decide (c = 1)))) Q := by
      intro c hc hf
      refine ih (i + 1) _ _ (by omega) (by omega) (fun b hb => by rw [am_up_ne _ _ _ _ _ hb, hE b hb]) ?_ ?_
      · rw [up_eq rfl rfl]
        have w3 : wb (G 29 a) i (decide (c = 1)) < ((2 ^ 6 : Nat) : Int) := wb_lt b1 (show G 29 a < ((2 ^ 6 : Nat) : Int) by omega) h0 (by omega)
        refine ⟨wb_nonneg _ _ _, w3, fun j q1 q2 => ?_⟩
        rw [tb_wb h0 q1]
        by_cases e : j = i
        · subst e
          rw [if_pos rfl, hf]
          simp
          omega
        · rw [if_neg e, b3 j q1 q2]
          congr 1
          simp
          omega
      · intro G' l3' q1 q2 q3
        exact K G' l3' q1 (fun j hj => by rw [q2 j hj, up_nj hj]) q3
    by_cases u : i = a
    · subst u
      simp (disch := first | omega | ((simp (disch := omega) only [up_ne, up_eq, up_nj, gf_ne, gf_in, sa_ne, sa_eq]) <;> omega)) only [reduceIte, Bool.false_eq_true, if_pos, if_neg, up_ne, up_eq, up_nj, gf_ne, gf_in, sa_ne, sa_eq, and_self, true_and, and_true, p_26_22, p_26_23, p_26_24, p_26_27, p_26_30, p_26_33, p_26_34, p_26_35, p_26_38, p_26_39, p_26_42, p_26_45, p_26_46, p_26_47, p_26_48, p_26_51, p_26_54, p_26_55, p_26_56, p_26_59, p_26_60, p_26_63, p_26_66, p_26_67, p_26_68, q_26_69, p_26_72, p_26_75, p_26_76, p_26_79, p_26_80, p_26_81, p_26_82, p_26_85, p_26_86, p_26_87, p_26_90, p_26_91, p_26_92, p_26_93, q_26_94, p_26_97, p_26_98, e3]
      rw [p_26_101]
      exact step 0 (Or.inl rfl) (by simp [fow])
    · by_cases v : G0 4 i < G0 4 a
      · simp (disch := first | omega | ((simp (disch := omega) only [up_ne, up_eq, up_nj, gf_ne, gf_in, sa_ne, sa_eq]) <;> omega)) only [reduceIte, Bool.false_eq_true, if_pos, if_neg, up_ne, up_eq, up_nj, gf_ne, gf_in, sa_ne, sa_eq, and_self, true_and, and_true, p_26_22, p_26_23, p_26_24, p_26_27, p_26_30, p_26_33, p_26_34, p_26_35, p_26_38, p_26_39, p_26_42, p_26_45, p_26_46, p_26_47, p_26_48, p_26_51, p_26_54, p_26_55, p_26_56, p_26_59, p_26_60, p_26_63, p_26_66, p_26_67, p_26_68, q_26_69, p_26_72, p_26_75, p_26_76, p_26_79, p_26_80, p_26_81, p_26_82, p_26_85, p_26_86, p_26_87, p_26_90, p_26_91, p_26_92, p_26_93, q_26_94, p_26_97, p_26_98, e3, e4]
        rw [p_26_101]
        exact step 0 (Or.inl rfl) (by simp [fow]; omega)
      · by_cases w : tb (G0 5 a) i = true
        · simp (disch := first | omega | ((simp (disch := omega) only [up_ne, up_eq, up_nj, gf_ne, gf_in, sa_ne, sa_eq]) <;> omega)) only [reduceIte, Bool.false_eq_true, if_pos, if_neg, up_ne, up_eq, up_nj, gf_ne, gf_in, sa_ne, sa_eq, and_self, true_and, and_true, p_26_22, p_26_23, p_26_24, p_26_27, p_26_30, p_26_33, p_26_34, p_26_35, p_26_38, p_26_39, p_26_42, p_26_45, p_26_46, p_26_47, p_26_48, p_26_51, p_26_54, p_26_55, p_26_56, p_26_59, p_26_60, p_26_63, p_26_66, p_26_67, p_26_68, q_26_69, p_26_72, p_26_75, p_26_76, p_26_79, p_26_80, p_26_81, p_26_82, p_26_85, p_26_86, p_26_87, p_26_90, p_26_91, p_26_92, p_26_93, q_26_94, p_26_97, p_26_98, e3, e4, e5, w]
          rw [p_26_101]
          exact step 0 (Or.inl rfl) (by simp [fow, w])
        · simp (disch := first | omega | ((simp (disch := omega) only [up_ne, up_eq, up_nj, gf_ne, gf_in, sa_ne, sa_eq]) <;> omega)) only [reduceIte, Bool.false_eq_true, if_pos, if_neg, up_ne, up_eq, up_nj, gf_ne, gf_in, sa_ne, sa_eq, and_self, true_and, and_true, p_26_22, p_26_23, p_26_24, p_26_27, p_26_30, p_26_33, p_26_34, p_26_35, p_26_38, p_26_39, p_26_42, p_26_45, p_26_46, p_26_47, p_26_48, p_26_51, p_26_54, p_26_55, p_26_56, p_26_59, p_26_60, p_26_63, p_26_66, p_26_67, p_26_68, q_26_69, p_26_72, p_26_75, p_26_76, p_26_79, p_26_80, p_26_81, p_26_82, p_26_85, p_26_86, p_26_87, p_26_90, p_26_91, p_26_92, p_26_93, q_26_94, p_26_97, p_26_98, e3, e4, e5, w]
          rw [p_26_101]
          exact step 1 (Or.inr rfl) (by simp [fow, w, u]; omega)
theorem l_fol2 {d : Nat} {Q : Option AV → AG → Prop} {n : Int} {G0 : AG} (hX : XS G0) (hn : 0 ≤ n ∧ n ≤ 6) (hN : G0 3 4 = n) (K : ∀ G' : AG, (∀ b : Nat, b ≠ 29 → G' b = G0 b) → (∀ a : Int, 0 ≤ a → a < n → bitsOf n (fow G0 a) (G' 29 a)) → Q none G') :
    ∀ (m : Nat) (a : Int) (G : AG) (l2 l3 : AV), 0 ≤ a → a + m = n → (∀ b : Nat, b ≠ 29 → G b = G0 b) → (∀ a' : Int, 0 ≤ a' → a' < a → bitsOf n (fow G0 a') (G 29 a')) → Ends (d + 1) 26 2 [vR 16, vI a, l2, l3] [] G Q := by
  intro m
  induction m with
  | zero =>
    intro a G l2 l3 h0 h1 hE hB
    have e3 : G 3 4 = G0 3 4 := by rw [hE 3 (by decide)]
    simp (disch := first | omega | ((simp (disch := omega) only [up_ne, up_eq, up_nj, gf_ne, gf_in, sa_ne, sa_eq]) <;> omega)) only [reduceIte, Bool.false_eq_true, if_pos, if_neg, up_ne, up_eq, up_nj, gf_ne, gf_in, sa_ne, sa_eq, and_self, true_and, and_true, p_26_2, p_26_3, p_26_4, p_26_7, p_26_10, p_26_13, p_26_14, p_26_17, p_26_18, p_26_19, p_26_20, p_26_21, p_26_104, p_26_110, e3]
    exact K G hE (fun a' q1 q2 => hB a' q1 (by omega))
  | succ m ih =>
    intro a G l2 l3 h0 h1 hE hB
    have e3 : G 3 4 = G0 3 4 := by rw [hE 3 (by decide)]
    simp (disch := first | omega | ((simp (disch := omega) only [up_ne, up_eq, up_nj, gf_ne, gf_in, sa_ne, sa_eq]) <;> omega)) only [reduceIte, Bool.false_eq_true, if_pos, if_neg, up_ne, up_eq, up_nj, gf_ne, gf_in, sa_ne, sa_eq, and_self, true_and, and_true, p_26_2, p_26_3, p_26_4, p_26_7, p_26_10, p_26_13, p_26_14, p_26_17, p_26_18, p_26_19, p_26_20, p_26_21, e3]
    refine l_fol1 hX hn hN ⟨h0, by omega⟩ n.toNat 0 _ _ (by omega) (by omega) (fun b hb => by rw [am_up_ne _ _ _ _ _ hb, hE b hb]) ?_ ?_
    · rw [up_eq rfl rfl]
      refine ⟨by omega, by omega, fun j q1 q2 => ?_⟩
      rw [tb_zero]
      simp
      omega
    · intro G' l3' q1 q2 q3
      have e3' : G' 3 4 = G0 3 4 := by rw [q1 3 (by decide)]
      simp (disch := first | omega | ((simp (disch := omega) only [up_ne, up_eq, up_nj, gf_ne, gf_in, sa_ne, sa_eq]) <;> omega)) only [reduceIte, Bool.false_eq_true, if_pos, if_neg, up_ne, up_eq, up_nj, gf_ne, gf_in, sa_ne, sa_eq, and_self, true_and, and_true, p_26_104, p_26_110, e3']
      rw [p_26_107]
      refine ih (a + 1) G' _ _ (by omega) (by omega) q1 (fun a' r1 r2 => ?_)
      by_cases e : a' = a
      · subst e
        exact q3
      · rw [q2 a' e, up_nj e]
        exact hB a' r1 (by omega)
theorem l_far1 {d : Nat} {Q : Option AV → AG → Prop} {a n : Int} {G0 : AG} (hX : XS G0) (hn : 0 ≤ n ∧ n ≤ 6) (hN : G0 0 2 = n) (ha : 0 ≤ a ∧ a < n) :
    ∀ (m : Nat) (i : Int) (G : AG), 0 ≤ i → i + m = n → (∀ b : Nat, b ≠ 30 → G b = G0 b) → bitsOf i (fun j => !nrX G0 a j) (G 30 a) →
      (∀ (G' : AG), (∀ b : Nat, b ≠ 30 → G' b = G0 b) → (∀ j : Int, j ≠ a → G' 30 j = G 30 j) → bitsOf n (fun j => !nrX G0 a j) (G' 30 a) → Ends (d + 3) 27 72 [vR 16, vI a, vI n] [] G' Q) →
      Ends (d + 3) 27 22 [vR 16, vI a, vI i] [] G Q := by
  have x1 := hX.2.2.1
  have x2 := hX.2.2.2.1
  intro m
  induction m with
  | zero =>
    intro i G h0 h1 hE hB K
    have e : i = n := by omega
    subst e
    have e3 : G 0 2 = G0 0 2 := by rw [hE 0 (by decide)]
    simp (disch := first | omega | ((simp (disch := omega) only [up_ne, up_eq, up_nj, gf_ne, gf_in, sa_ne, sa_eq]) <;> omega)) only [reduceIte, Bool.false_eq_true, if_pos, if_neg, up_ne, up_eq, up_nj, gf_ne, gf_in, sa_ne, sa_eq, and_self, true_and, and_true, p_27_22, p_27_23, p_27_24, p_27_27, p_27_30, p_27_33, p_27_34, p_27_37, p_27_38, p_27_39, p_27_42, p_27_43, p_27_44, p_27_45, p_27_46, p_27_49, p_27_50, q_27_51, p_27_54, p_27_57, p_27_58, p_27_61, q_27_62, p_27_65, p_27_66, e3]
    exact K G hE (fun _ _ => rfl) hB
  | succ m ih =>
    intro i G h0 h1 hE hB K
    have e3 : G 0 2 = G0 0 2 := by rw [hE 0 (by decide)]
    have e33 : G 0 3 = G0 0 3 := by rw [hE 0 (by decide)]
    have e1 : ∀ k : Int, G 1 k = G0 1 k := fun k => by rw [hE 1 (by decide)]
    obtain ⟨b1, b2, b3⟩ := hB
    have b3' : G 30 a < 2147483648 := by omega
    have step : ∀ c : Int, (c = 0 ∨ c = 1) → decide (c = 1) = (!nrX G0 a i) → Ends (d + 3) 27 22 [vR 16, vI a, vI (i + 1)] [] (am_up G 30 a (wb (G 30 a) i (decide (c = 1)))) Q := by
      intro c hc hf
      refine ih (i + 1) _ (by omega) (by omega) (fun b hb => by rw [am_up_ne _ _ _ _ _ hb, hE b hb]) ?_ ?_
      · rw [up_eq rfl rfl]
        have w3 : wb (G 30 a) i (decide (c = 1)) < ((2 ^ 6 : Nat) : Int) := wb_lt b1 (show G 30 a < ((2 ^ 6 : Nat) : Int) by omega) h0 (by omega)
        refine ⟨wb_nonneg _ _ _, w3, fun j q1 q2 => ?_⟩
        rw [tb_wb h0 q1]
        by_cases e : j = i
        · subst e
          rw [if_pos rfl, hf]
          simp
          omega
        · rw [if_neg e, b3 j q1 q2]
          congr 1
          simp
          omega
      · intro G' q1 q2 q3
        exact K G' q1 (fun j hj => by rw [q2 j hj, up_nj hj]) q3
    by_cases u : G0 0 3 < f_bc (f_and (G0 1 a) (G0 1 i))
    · simp (disch := first | omega | ((simp (disch := omega) only [up_ne, up_eq, up_nj, gf_ne, gf_in, sa_ne, sa_eq]) <;> omega)) only [reduceIte, Bool.false_eq_true, if_pos, if_neg, up_ne, up_eq, up_nj, gf_ne, gf_in, sa_ne, sa_eq, and_self, true_and, and_true, p_27_22, p_27_23, p_27_24, p_27_27, p_27_30, p_27_33, p_27_34, p_27_37, p_27_38, p_27_39, p_27_42, p_27_43, p_27_44, p_27_45, p_27_46, p_27_49, p_27_50, q_27_51, p_27_54, p_27_57, p_27_58, p_27_61, q_27_62, p_27_65, p_27_66, e3, e33, e1]
      rw [p_27_69]
      exact step 0 (Or.inl rfl) (by simp [nrX, u])
    · simp (disch := first | omega | ((simp (disch := omega) only [up_ne, up_eq, up_nj, gf_ne, gf_in, sa_ne, sa_eq]) <;> omega)) only [reduceIte, Bool.false_eq_true, if_pos, if_neg, up_ne, up_eq, up_nj, gf_ne, gf_in, sa_ne, sa_eq, and_self, true_and, and_true, p_27_22, p_27_23, p_27_24, p_27_27, p_27_30, p_27_33, p_27_34, p_27_37, p_27_38, p_27_39, p_27_42, p_27_43, p_27_44, p_27_45, p_27_46, p_27_49, p_27_50, q_27_51, p_27_54, p_27_57, p_27_58, p_27_61, q_27_62, p_27_65, p_27_66, e3, e33, e1]
      rw [p_27_69]
      exact step 1 (Or.inr rfl) (by simp [nrX, u])
theorem l_far2 {d : Nat} {Q : Option AV → AG → Prop} {n : Int} {G0 : AG} (hX : XS G0) (hn : 0 ≤ n ∧ n ≤ 6) (hN : G0 0 2 = n) (K : ∀ G' : AG, (∀ b : Nat, b ≠ 30 → G' b = G0 b) → (∀ a : Int, 0 ≤ a → a < n → bitsOf n (fun j => !nrX G0 a j) (G' 30 a)) → Q none G') :
    ∀ (m : Nat) (a : Int) (G : AG) (l2 : AV), 0 ≤ a → a + m = n → (∀ b : Nat, b ≠ 30 → G b = G0 b) → (∀ a' : Int, 0 ≤ a' → a' < a → bitsOf n (fun j => !nrX G0 a' j) (G 30 a')) → Ends (d + 3) 27 2 [vR 16, vI a, l2] [] G Q := by
  intro m
  induction m with
  | zero =>
    intro a G l2 h0 h1 hE hB
    have e3 : G 0 2 = G0 0 2 := by rw [hE 0 (by decide)]
    simp (disch := first | omega | ((simp (disch := omega) only [up_ne, up_eq, up_nj, gf_ne, gf_in, sa_ne, sa_eq]) <;> omega)) only [reduceIte, Bool.false_eq_true, if_pos, if_neg, up_ne, up_eq, up_nj, gf_ne, gf_in, sa_ne, sa_eq, and_self, true_and, and_true, p_27_2, p_27_3, p_27_4, p_27_7, p_27_10, p_27_13, p_27_14, p_27_17, p_27_18, p_27_19, p_27_20, p_27_21, p_27_72, p_27_78, e3]
    exact K G hE (fun a' q1 q2 => hB a' q1 (by omega))
  | succ m ih =>
    intro a G l2 h0 h1 hE hB
    have e3 : G 0 2 = G0 0 2 := by rw [hE 0 (by decide)]
    simp (disch := first | omega | ((simp (disch := omega) only [up_ne, up_eq, up_nj, gf_ne, gf_in, sa_ne, sa_eq]) <;> omega)) only [reduceIte, Bool.false_eq_true, if_pos, if_neg, up_ne, up_eq, up_nj, gf_ne, gf_in, sa_ne, sa_eq, and_self, true_and, and_true, p_27_2, p_27_3, p_27_4, p_27_7, p_27_10, p_27_13, p_27_14, p_27_17, p_27_18, p_27_19, p_27_20, p_27_21, e3]
    refine l_far1 hX hn hN ⟨h0, by omega⟩ n.toNat 0 _ (by omega) (by omega) (fun b hb => by rw [am_up_ne _ _ _ _ _ hb, hE b hb]) ?_ ?_
    · rw [up_eq rfl rfl]
      refine ⟨by omega, by omega, fun j q1 q2 => ?_⟩
      rw [tb_zero]
      simp
      omega
    · intro G' q1 q2 q3
      have e3' : G' 0 2 = G0 0 2 := by rw [q1 0 (by decide)]
      simp (disch := first | omega | ((simp (disch := omega) only [up_ne, up_eq, up_nj, gf_ne, gf_in, sa_ne, sa_eq]) <;> omega)) only [reduceIte, Bool.false_eq_true, if_pos, if_neg, up_ne, up_eq, up_nj, gf_ne, gf_in, sa_ne, sa_eq, and_self, true_and, and_true, p_27_72, p_27_78, e3']
      rw [p_27_75]
      refine ih (a + 1) G' _ (by omega) (by omega) q1 (fun a' r1 r2 => ?_)
      by_cases e : a' = a
      · subst e
        exact q3
      · rw [q2 a' e, up_nj e]
        exact hB a' r1 (by omega)
