/-! season -/
theorem q_32_23 {d : Nat} {G : AG} {Q : Option AV → AG → Prop} {z : Int} {l0 l1 l2 l3 l4 l5 : AV} : Ends (d + 1) 32 23 [l0, l1, l2, l3, l4, l5] [vI z, vR 14] G Q ↔ Ends (d + 1) 32 26 [l0, l1, l2, l3, l4, l5] [] (gfill G 14 0 6 z) Q := p_32_23 (c_fill rfl (by decide))
def Pbegin (G : AG) (e s : Int) (G' : AG) : Prop := G' 13 4 = e ∧ G' 13 5 = s ∧ G' 13 6 = e * s ∧ (∀ i : Int, 0 ≤ i → i < 6 → G' 14 i = 36) ∧ (∀ i : Int, 0 ≤ i → i < e * s → G' 15 i = i % s) ∧ (∀ b : Nat, b ≠ 13 → b ≠ 14 → b ≠ 15 → G' b = G b)
theorem c_begin {d : Nat} {G : AG} {e s : Int} (h : (e = 1 ∧ s = 1) ∨ (e = 1 ∧ s = 2) ∨ (e = 1 ∧ s = 3) ∨ (e = 2 ∧ s = 1) ∨ (e = 2 ∧ s = 2) ∨ (e = 2 ∧ s = 3) ∨ (e = 3 ∧ s = 1) ∨ (e = 3 ∧ s = 2)) : Ends (d + 1) 32 0 [vR 13, vI e, vI s, vU, vU, vU] [] G (fun r G' => r = none ∧ Pbegin G e s G') := by
  rcases h with ⟨rfl, rfl⟩ | ⟨rfl, rfl⟩ | ⟨rfl, rfl⟩ | ⟨rfl, rfl⟩ | ⟨rfl, rfl⟩ | ⟨rfl, rfl⟩ | ⟨rfl, rfl⟩ | ⟨rfl, rfl⟩
  all_goals
    simp (disch := omega) only [↓if_pos, ↓if_neg, and_self, true_and, and_true, Int.reduceAdd, Int.reduceMul, p_32_0, p_32_1, p_32_2, p_32_5, p_32_6, p_32_7, p_32_10, p_32_11, p_32_12, p_32_13, p_32_14, p_32_17, p_32_18, p_32_21, p_32_26, p_32_27, p_32_28, p_32_29, p_32_31, p_32_33, p_32_34, p_32_37, p_32_40, p_32_41, p_32_43, p_32_45, p_32_46, p_32_49, p_32_52, p_32_53, p_32_56, p_32_57, p_32_59, p_32_60, p_32_63, p_32_69, p_32_75, q_32_23, p_32_66, p_32_72, up_ne, up_eq, up_nj, gf_ne, gf_in]
    unfold Pbegin
    refine ⟨?_, ?_, ?_, fun i q1 q2 => ?_, fun i q1 q2 => ?_, fun b q1 q2 q3 => ?_⟩
    · simp (disch := first | omega | ((simp (disch := omega) only [up_ne, up_eq, up_nj, gf_ne, gf_in, sa_ne, sa_eq]) <;> omega)) only [reduceIte, Bool.false_eq_true, if_pos, if_neg, up_ne, up_eq, up_nj, gf_ne, gf_in, sa_ne, sa_eq, and_self, true_and, and_true]
    · simp (disch := first | omega | ((simp (disch := omega) only [up_ne, up_eq, up_nj, gf_ne, gf_in, sa_ne, sa_eq]) <;> omega)) only [reduceIte, Bool.false_eq_true, if_pos, if_neg, up_ne, up_eq, up_nj, gf_ne, gf_in, sa_ne, sa_eq, and_self, true_and, and_true]
    · simp (disch := first | omega | ((simp (disch := omega) only [up_ne, up_eq, up_nj, gf_ne, gf_in, sa_ne, sa_eq]) <;> omega)) only [reduceIte, Bool.false_eq_true, if_pos, if_neg, up_ne, up_eq, up_nj, gf_ne, gf_in, sa_ne, sa_eq, and_self, true_and, and_true]
      try rfl
    · simp (disch := first | omega | ((simp (disch := omega) only [up_ne, up_eq, up_nj, gf_ne, gf_in, sa_ne, sa_eq]) <;> omega)) only [reduceIte, Bool.false_eq_true, if_pos, if_neg, up_ne, up_eq, up_nj, gf_ne, gf_in, sa_ne, sa_eq, and_self, true_and, and_true]
    · rcases (show i = 0 ∨ i = 1 ∨ i = 2 ∨ i = 3 ∨ i = 4 ∨ i = 5 by omega) with rfl | rfl | rfl | rfl | rfl | rfl
      all_goals first | omega | (simp (disch := first | omega | ((simp (disch := omega) only [up_ne, up_eq, up_nj, gf_ne, gf_in, sa_ne, sa_eq]) <;> omega)) only [reduceIte, Bool.false_eq_true, if_pos, if_neg, up_ne, up_eq, up_nj, gf_ne, gf_in, sa_ne, sa_eq, and_self, true_and, and_true]; done) | (simp (disch := first | omega | ((simp (disch := omega) only [up_ne, up_eq, up_nj, gf_ne, gf_in, sa_ne, sa_eq]) <;> omega)) only [reduceIte, Bool.false_eq_true, if_pos, if_neg, up_ne, up_eq, up_nj, gf_ne, gf_in, sa_ne, sa_eq, and_self, true_and, and_true]; rfl)
    · funext j
      simp (disch := first | omega | ((simp (disch := omega) only [up_ne, up_eq, up_nj, gf_ne, gf_in, sa_ne, sa_eq]) <;> omega)) only [reduceIte, Bool.false_eq_true, if_pos, if_neg, up_ne, up_eq, up_nj, gf_ne, gf_in, sa_ne, sa_eq, and_self, true_and, and_true]
def Pempty (G G' : AG) : Prop := (∀ i : Int, 0 ≤ i → i < 6 → G' 61 i = -1 ∧ G' 62 i = -1) ∧ (∀ b : Nat, b ≠ 61 → b ≠ 62 → G' b = G b)
theorem c_empty {d : Nat} {G : AG} : Ends d 71 0 [vR 54, vU] [] G (fun r G' => r = none ∧ Pempty G G') := by
  simp (disch := omega) only [↓if_pos, ↓if_neg, and_self, true_and, and_true, Int.reduceAdd, Int.reduceMul, p_71_0, p_71_1r, p_71_2, p_71_3, p_71_5, p_71_8, p_71_9, p_71_12, p_71_13, p_71_14, p_71_15, p_71_16, p_71_19, p_71_20, p_71_21, p_71_22, p_71_28, p_71_25]
  unfold Pempty
  refine ⟨fun i q1 q2 => ?_, fun b q1 q2 => ?_⟩
  · rcases (show i = 0 ∨ i = 1 ∨ i = 2 ∨ i = 3 ∨ i = 4 ∨ i = 5 by omega) with rfl | rfl | rfl | rfl | rfl | rfl
    all_goals (simp (disch := first | omega | ((simp (disch := omega) only [up_ne, up_eq, up_nj, gf_ne, gf_in, sa_ne, sa_eq]) <;> omega)) only [reduceIte, Bool.false_eq_true, if_pos, if_neg, up_ne, up_eq, up_nj, gf_ne, gf_in, sa_ne, sa_eq, and_self, true_and, and_true])
  · funext j
    simp (disch := first | omega | ((simp (disch := omega) only [up_ne, up_eq, up_nj, gf_ne, gf_in, sa_ne, sa_eq]) <;> omega)) only [reduceIte, Bool.false_eq_true, if_pos, if_neg, up_ne, up_eq, up_nj, gf_ne, gf_in, sa_ne, sa_eq, and_self, true_and, and_true]
theorem pair_season {G : AG} (hR : Rel G) {x y : Int} (hx : -2147483648 ≤ x ∧ x < 2147483648) (hy : -2147483648 ≤ y ∧ y < 2147483648) : Pair 51 80 [vI x, vI y] [vI x, vI y] G := by
  by_cases a : 1 ≤ x ∧ x ≤ 3
  · by_cases b : 1 ≤ y ∧ y ≤ 3
    · by_cases c : x * y ≤ 6
      · have hh : (x = 1 ∧ y = 1) ∨ (x = 1 ∧ y = 2) ∨ (x = 1 ∧ y = 3) ∨ (x = 2 ∧ y = 1) ∨ (x = 2 ∧ y = 2) ∨ (x = 2 ∧ y = 3) ∨ (x = 3 ∧ y = 1) ∨ (x = 3 ∧ y = 2) := by
          rcases (show x = 1 ∨ x = 2 ∨ x = 3 by omega) with rfl | rfl | rfl <;> rcases (show y = 1 ∨ y = 2 ∨ y = 3 by omega) with rfl | rfl | rfl <;> omega
        have h1 : 1 ≤ x * y := by rcases hh with ⟨rfl, rfl⟩ | ⟨rfl, rfl⟩ | ⟨rfl, rfl⟩ | ⟨rfl, rfl⟩ | ⟨rfl, rfl⟩ | ⟨rfl, rfl⟩ | ⟨rfl, rfl⟩ | ⟨rfl, rfl⟩ <;> decide
        obtain ⟨r1, GX, hret, hr1, hP⟩ := (c_begin (d := 28) (G := G) hh).ret
        subst hr1
        obtain ⟨r2, GM, hret2, hr2, hE⟩ := (c_empty (d := 29) (G := am_up (am_up (am_up GX 54 25 0) 54 10 x) 54 11 y)).ret
        subst hr2
        refine ⟨some (vI 1), GX, GM, ?_, ?_, ?_, ?_⟩
        · unfold Ret
          simp (disch := first | omega | ((simp (disch := omega) only [up_ne, up_eq, up_nj, gf_ne, gf_in, sa_ne, sa_eq]) <;> omega)) only [reduceIte, Bool.false_eq_true, if_pos, if_neg, up_ne, up_eq, up_nj, gf_ne, gf_in, sa_ne, sa_eq, and_self, true_and, and_true, p_51_0, p_51_1, p_51_2, q_51_3, p_51_6, p_51_9, p_51_10, p_51_11, q_51_12, p_51_15, p_51_18, p_51_19, p_51_20, p_51_21, p_51_23, p_51_26, p_51_27, p_51_28, p_51_29, p_51_32, p_51_33, p_51_37, p_51_38]
          rw [p_51_34 hret]
          simp (disch := first | omega | ((simp (disch := omega) only [up_ne, up_eq, up_nj, gf_ne, gf_in, sa_ne, sa_eq]) <;> omega)) only [reduceIte, Bool.false_eq_true, if_pos, if_neg, up_ne, up_eq, up_nj, gf_ne, gf_in, sa_ne, sa_eq, and_self, true_and, and_true, p_51_0, p_51_1, p_51_2, q_51_3, p_51_6, p_51_9, p_51_10, p_51_11, q_51_12, p_51_15, p_51_18, p_51_19, p_51_20, p_51_21, p_51_23, p_51_26, p_51_27, p_51_28, p_51_29, p_51_32, p_51_33, p_51_37, p_51_38]
        · unfold Ret
          simp (disch := first | omega | ((simp (disch := omega) only [up_ne, up_eq, up_nj, gf_ne, gf_in, sa_ne, sa_eq]) <;> omega)) only [reduceIte, Bool.false_eq_true, if_pos, if_neg, up_ne, up_eq, up_nj, gf_ne, gf_in, sa_ne, sa_eq, and_self, true_and, and_true, p_80_0, p_80_1, p_80_2, p_80_5, p_80_6, p_80_7, q_80_8, p_80_11, p_80_14, p_80_15, p_80_16, q_80_17, p_80_20, p_80_23, p_80_24, p_80_25, p_80_26, p_80_28, p_80_31, p_80_32, p_80_33, p_80_34, p_80_35, p_80_38, p_80_39, p_80_40, p_80_43, p_80_47, p_80_48]
          rw [p_80_44 hret2]
          simp (disch := first | omega | ((simp (disch := omega) only [up_ne, up_eq, up_nj, gf_ne, gf_in, sa_ne, sa_eq]) <;> omega)) only [reduceIte, Bool.false_eq_true, if_pos, if_neg, up_ne, up_eq, up_nj, gf_ne, gf_in, sa_ne, sa_eq, and_self, true_and, and_true, p_80_0, p_80_1, p_80_2, p_80_5, p_80_6, p_80_7, q_80_8, p_80_11, p_80_14, p_80_15, p_80_16, q_80_17, p_80_20, p_80_23, p_80_24, p_80_25, p_80_26, p_80_28, p_80_31, p_80_32, p_80_33, p_80_34, p_80_35, p_80_38, p_80_39, p_80_40, p_80_43, p_80_47, p_80_48]
        · obtain ⟨p1, p2, p3, p4, p5, p6⟩ := hP
          obtain ⟨e1, e2⟩ := hE
          have eX : ∀ b : Nat, b ≠ 13 → b ≠ 14 → b ≠ 15 → b ≠ 61 → b ≠ 62 → b ≠ 54 → GM b = G b := by
            intro b q1 q2 q3 q4 q5 q6
            rw [e2 b q4 q5, am_up_ne _ _ _ _ _ q6, am_up_ne _ _ _ _ _ q6, am_up_ne _ _ _ _ _ q6, p6 b q1 q2 q3]
          have e54 : ∀ j : Int, j ≠ 25 → j ≠ 10 → j ≠ 11 → GM 54 j = G 54 j := by
            intro j q1 q2 q3
            rw [e2 54 (by decide) (by decide), up_nj q3, up_nj q2, up_nj q1, p6 54 (by decide) (by decide) (by decide)]
          have e13 : GM 13 = GX 13 := by rw [e2 13 (by decide) (by decide), am_up_ne _ _ _ _ _ (by decide), am_up_ne _ _ _ _ _ (by decide), am_up_ne _ _ _ _ _ (by decide)]
          have e14 : GM 14 = GX 14 := by rw [e2 14 (by decide) (by decide), am_up_ne _ _ _ _ _ (by decide), am_up_ne _ _ _ _ _ (by decide), am_up_ne _ _ _ _ _ (by decide)]
          have e15 : GM 15 = GX 15 := by rw [e2 15 (by decide) (by decide), am_up_ne _ _ _ _ _ (by decide), am_up_ne _ _ _ _ _ (by decide), am_up_ne _ _ _ _ _ (by decide)]
          refine ⟨?_, ?_, ?_, ?_, ?_⟩
          · refine hR.1.cong ?_ ?_ ?_ ?_ ?_ ?_ ?_
            all_goals first | (apply eX <;> decide) | (apply e54 <;> decide)
          · refine hR.2.1.cong ?_ ?_ ?_ ?_ (fun a _ _ => ?_) ?_ ?_ ?_ ?_ ?_
            all_goals first | (apply eX <;> omega) | (apply e54 <;> decide) | (rw [eX 0 (by decide) (by decide) (by decide) (by decide) (by decide) (by decide)]; exact Int.le_refl _)
          · unfold RP
            rw [e13, e14, e15, p1, p2, p3]
            refine ⟨a.1, a.2, b.1, b.2, c, rfl, ?_, ?_, p5, fun i q1 q2 => Or.inl ⟨p4 i q1 q2, (e1 i q1 q2).1, (e1 i q1 q2).2⟩⟩
            · rw [e2 54 (by decide) (by decide)]
              simp (disch := first | omega | ((simp (disch := omega) only [up_ne, up_eq, up_nj, gf_ne, gf_in, sa_ne, sa_eq]) <;> omega)) only [reduceIte, Bool.false_eq_true, if_pos, if_neg, up_ne, up_eq, up_nj, gf_ne, gf_in, sa_ne, sa_eq, and_self, true_and, and_true]
            · rw [e2 54 (by decide) (by decide)]
              simp (disch := first | omega | ((simp (disch := omega) only [up_ne, up_eq, up_nj, gf_ne, gf_in, sa_ne, sa_eq]) <;> omega)) only [reduceIte, Bool.false_eq_true, if_pos, if_neg, up_ne, up_eq, up_nj, gf_ne, gf_in, sa_ne, sa_eq, and_self, true_and, and_true]
          · refine hR.2.2.2.1.cong ?_ ?_ ?_ ?_ ?_ ?_ ?_ ?_ ?_ ?_ ?_ ?_ ?_ ?_ ?_ ?_ ?_
            all_goals first | (apply eX <;> decide) | (apply e54 <;> decide) | (rw [eX 0 (by decide) (by decide) (by decide) (by decide) (by decide) (by decide)]; exact Int.le_refl _)
          · refine hR.2.2.2.2.cong ?_ ?_ ?_ (fun a _ _ => ?_) ?_ ?_ ?_
            all_goals first | (apply eX <;> omega) | (rw [eX 3 (by decide) (by decide) (by decide) (by decide) (by decide) (by decide)]; exact Int.le_refl _)
        · rw [hE.2 54 (by decide) (by decide)]
          simp (disch := first | omega | ((simp (disch := omega) only [up_ne, up_eq, up_nj, gf_ne, gf_in, sa_ne, sa_eq]) <;> omega)) only [reduceIte, Bool.false_eq_true, if_pos, if_neg, up_ne, up_eq, up_nj, gf_ne, gf_in, sa_ne, sa_eq, and_self, true_and, and_true]
      · have hc2 : x * y ≤ 9 ∧ 6 < x * y := by
          refine ⟨?_, by omega⟩
          rcases (show x = 1 ∨ x = 2 ∨ x = 3 by omega) with rfl | rfl | rfl <;> omega
        refine ⟨some (vI (0)), G, am_up G 54 25 0, ?_, ?_, hR.thrown 0, up_eq rfl rfl⟩
        · unfold Ret
          simp (disch := first | omega | ((simp (disch := omega) only [up_ne, up_eq, up_nj, gf_ne, gf_in, sa_ne, sa_eq]) <;> omega)) only [reduceIte, Bool.false_eq_true, if_pos, if_neg, up_ne, up_eq, up_nj, gf_ne, gf_in, sa_ne, sa_eq, and_self, true_and, and_true, p_51_0, p_51_1, p_51_2, q_51_3, p_51_6, p_51_9, p_51_10, p_51_11, q_51_12, p_51_15, p_51_18, p_51_19, p_51_20, p_51_21, p_51_23, p_51_26, p_51_27, p_51_28, p_51_29, p_51_32, p_51_33, p_51_37, p_51_38]
        · unfold Ret
          simp (disch := first | omega | ((simp (disch := omega) only [up_ne, up_eq, up_nj, gf_ne, gf_in, sa_ne, sa_eq]) <;> omega)) only [reduceIte, Bool.false_eq_true, if_pos, if_neg, up_ne, up_eq, up_nj, gf_ne, gf_in, sa_ne, sa_eq, and_self, true_and, and_true, p_80_0, p_80_1, p_80_2, p_80_5, p_80_6, p_80_7, q_80_8, p_80_11, p_80_14, p_80_15, p_80_16, q_80_17, p_80_20, p_80_23, p_80_24, p_80_25, p_80_26, p_80_28, p_80_31, p_80_32, p_80_33, p_80_34, p_80_35, p_80_38, p_80_39, p_80_40, p_80_43, p_80_47, p_80_48]
    · refine ⟨some (vI (0)), G, am_up G 54 25 0, ?_, ?_, hR.thrown 0, up_eq rfl rfl⟩
      · unfold Ret
        simp (disch := first | omega | ((simp (disch := omega) only [up_ne, up_eq, up_nj, gf_ne, gf_in, sa_ne, sa_eq]) <;> omega)) only [reduceIte, Bool.false_eq_true, if_pos, if_neg, up_ne, up_eq, up_nj, gf_ne, gf_in, sa_ne, sa_eq, and_self, true_and, and_true, p_51_0, p_51_1, p_51_2, q_51_3, p_51_6, p_51_9, p_51_10, p_51_11, q_51_12, p_51_15, p_51_18, p_51_19, p_51_20, p_51_21, p_51_23, p_51_26, p_51_27, p_51_28, p_51_29, p_51_32, p_51_33, p_51_37, p_51_38]
      · unfold Ret
        simp (disch := first | omega | ((simp (disch := omega) only [up_ne, up_eq, up_nj, gf_ne, gf_in, sa_ne, sa_eq]) <;> omega)) only [reduceIte, Bool.false_eq_true, if_pos, if_neg, up_ne, up_eq, up_nj, gf_ne, gf_in, sa_ne, sa_eq, and_self, true_and, and_true, p_80_0, p_80_1, p_80_2, p_80_5, p_80_6, p_80_7, q_80_8, p_80_11, p_80_14, p_80_15, p_80_16, q_80_17, p_80_20, p_80_23, p_80_24, p_80_25, p_80_26, p_80_28, p_80_31, p_80_32, p_80_33, p_80_34, p_80_35, p_80_38, p_80_39, p_80_40, p_80_43, p_80_47, p_80_48]
  · refine ⟨some (vI (0)), G, am_up G 54 25 0, ?_, ?_, hR.thrown 0, up_eq rfl rfl⟩
    · unfold Ret
      simp (disch := first | omega | ((simp (disch := omega) only [up_ne, up_eq, up_nj, gf_ne, gf_in, sa_ne, sa_eq]) <;> omega)) only [reduceIte, Bool.false_eq_true, if_pos, if_neg, up_ne, up_eq, up_nj, gf_ne, gf_in, sa_ne, sa_eq, and_self, true_and, and_true, p_51_0, p_51_1, p_51_2, q_51_3, p_51_6, p_51_9, p_51_10, p_51_11, q_51_12, p_51_15, p_51_18, p_51_19, p_51_20, p_51_21, p_51_23, p_51_26, p_51_27, p_51_28, p_51_29, p_51_32, p_51_33, p_51_37, p_51_38]
    · unfold Ret
      simp (disch := first | omega | ((simp (disch := omega) only [up_ne, up_eq, up_nj, gf_ne, gf_in, sa_ne, sa_eq]) <;> omega)) only [reduceIte, Bool.false_eq_true, if_pos, if_neg, up_ne, up_eq, up_nj, gf_ne, gf_in, sa_ne, sa_eq, and_self, true_and, and_true, p_80_0, p_80_1, p_80_2, p_80_5, p_80_6, p_80_7, q_80_8, p_80_11, p_80_14, p_80_15, p_80_16, q_80_17, p_80_20, p_80_23, p_80_24, p_80_25, p_80_26, p_80_28, p_80_31, p_80_32, p_80_33, p_80_34, p_80_35, p_80_38, p_80_39, p_80_40, p_80_43, p_80_47, p_80_48]
theorem pair_put {G : AG} (hR : Rel G) {x y z : Int} (hx : -2147483648 ≤ x ∧ x < 2147483648) (hy : -2147483648 ≤ y ∧ y < 2147483648) (hz : -2147483648 ≤ z ∧ z < 2147483648) : Pair 54 85 [vI x, vI y, vI z] [vI x, vI y, vI z] G := by
  obtain ⟨hm0, hm1, hm2, hm3, hm4, hm5, hm6⟩ := id hR.1
  obtain ⟨ha0, ha1, ha2, ha3, ha4, ha5, ha6⟩ := id hR.2.1
  obtain ⟨hp1, hp2, hp3, hp4, hp5, hp6, hp7, hp8, hp9, hp10⟩ := id hR.2.2.1
  have hs : 1 ≤ G 13 4 * G 13 5 := by
    rcases (show G 13 4 = 1 ∨ G 13 4 = 2 ∨ G 13 4 = 3 by omega) with h | h | h <;> rw [h] <;> omega
  have hq : G 54 10 * G 54 11 = G 13 6 := by rw [hp7, hp8, hp6]
  by_cases a : 0 ≤ x ∧ x < G 13 6
  · by_cases b : y = -1
    · subst b
      refine ⟨some (vI 1), am_up G 14 x 36, am_up (am_up (am_up (am_up G 14 x 36) 54 25 0) 61 x (-1)) 62 x (-1), ?_, ?_, ⟨?_, ?_, ?_, ?_, ?_⟩, ?_⟩
      · unfold Ret
        simp (disch := first | omega | ((simp (disch := omega) only [up_ne, up_eq, up_nj, gf_ne, gf_in, sa_ne, sa_eq]) <;> omega)) only [reduceIte, Bool.false_eq_true, if_pos, if_neg, up_ne, up_eq, up_nj, gf_ne, gf_in, sa_ne, sa_eq, and_self, true_and, and_true, p_54_0, p_54_1, p_54_4, q_54_5, p_54_8, p_54_11, p_54_12, p_54_13, p_54_14, p_54_15, p_54_18, p_54_19, p_54_22, p_54_25, p_54_26, p_54_28, p_54_29, p_54_30, p_54_31, p_54_32, p_54_35, q_54_36, p_54_39, p_54_42, p_54_43, p_54_46, q_54_47, p_54_50, p_54_53, p_54_54, p_54_55, p_54_56, p_54_59, p_54_62, p_54_63, p_54_64, p_54_66, p_54_67, p_54_68, p_54_69, p_54_70, p_54_71]
      · unfold Ret
        simp (disch := first | omega | ((simp (disch := omega) only [up_ne, up_eq, up_nj, gf_ne, gf_in, sa_ne, sa_eq]) <;> omega)) only [reduceIte, Bool.false_eq_true, if_pos, if_neg, up_ne, up_eq, up_nj, gf_ne, gf_in, sa_ne, sa_eq, and_self, true_and, and_true, p_85_0, p_85_1, p_85_2, p_85_5, p_85_6, p_85_7, q_85_8, p_85_11, p_85_12, q_85_13, p_85_16, p_85_19, p_85_20, p_85_21, p_85_24, p_85_25, q_85_26, p_85_29, p_85_32, p_85_33, q_85_34, p_85_37, p_85_40, p_85_41, p_85_42, p_85_43, p_85_46, p_85_47, p_85_48, p_85_49, p_85_50, p_85_53, p_85_54, p_85_55, p_85_56, p_85_59, p_85_60, p_85_63, p_85_64, p_85_65, p_85_66, hq]
      · refine hR.1.cong ?_ ?_ ?_ ?_ ?_ ?_ ?_
        all_goals (first | (funext j; simp (disch := first | omega | ((simp (disch := omega) only [up_ne, up_eq, up_nj, gf_ne, gf_in, sa_ne, sa_eq]) <;> omega)) only [reduceIte, Bool.false_eq_true, if_pos, if_neg, up_ne, up_eq, up_nj, gf_ne, gf_in, sa_ne, sa_eq, and_self, true_and, and_true]; done) | (simp (disch := first | omega | ((simp (disch := omega) only [up_ne, up_eq, up_nj, gf_ne, gf_in, sa_ne, sa_eq]) <;> omega)) only [reduceIte, Bool.false_eq_true, if_pos, if_neg, up_ne, up_eq, up_nj, gf_ne, gf_in, sa_ne, sa_eq, and_self, true_and, and_true]; done) | (simp (disch := first | omega | ((simp (disch := omega) only [up_ne, up_eq, up_nj, gf_ne, gf_in, sa_ne, sa_eq]) <;> omega)) only [reduceIte, Bool.false_eq_true, if_pos, if_neg, up_ne, up_eq, up_nj, gf_ne, gf_in, sa_ne, sa_eq, and_self, true_and, and_true]; omega) | omega)
      · refine hR.2.1.cong ?_ ?_ ?_ ?_ (fun a _ _ => ?_) ?_ ?_ ?_ ?_ ?_
        all_goals (first | (funext j; simp (disch := first | omega | ((simp (disch := omega) only [up_ne, up_eq, up_nj, gf_ne, gf_in, sa_ne, sa_eq]) <;> omega)) only [reduceIte, Bool.false_eq_true, if_pos, if_neg, up_ne, up_eq, up_nj, gf_ne, gf_in, sa_ne, sa_eq, and_self, true_and, and_true]; done) | (simp (disch := first | omega | ((simp (disch := omega) only [up_ne, up_eq, up_nj, gf_ne, gf_in, sa_ne, sa_eq]) <;> omega)) only [reduceIte, Bool.false_eq_true, if_pos, if_neg, up_ne, up_eq, up_nj, gf_ne, gf_in, sa_ne, sa_eq, and_self, true_and, and_true]; done) | (simp (disch := first | omega | ((simp (disch := omega) only [up_ne, up_eq, up_nj, gf_ne, gf_in, sa_ne, sa_eq]) <;> omega)) only [reduceIte, Bool.false_eq_true, if_pos, if_neg, up_ne, up_eq, up_nj, gf_ne, gf_in, sa_ne, sa_eq, and_self, true_and, and_true]; omega) | omega)
      · unfold RP
        simp (disch := omega) only [up_ne, up_eq, up_nj, gf_ne, gf_in, sa_ne, sa_eq]
        refine ⟨hp1, hp2, hp3, hp4, hp5, hp6, hp7, hp8, hp9, fun i q1 q2 => ?_⟩
        by_cases e : i = x
        · simp (disch := omega) only [up_ne, up_eq, up_nj, gf_ne, gf_in, sa_ne, sa_eq]
          exact Or.inl ⟨trivial, trivial, trivial⟩
        · simp (disch := omega) only [up_ne, up_eq, up_nj, gf_ne, gf_in, sa_ne, sa_eq]
          exact hp10 i q1 q2
      · refine hR.2.2.2.1.cong ?_ ?_ ?_ ?_ ?_ ?_ ?_ ?_ ?_ ?_ ?_ ?_ ?_ ?_ ?_ ?_ ?_
        all_goals (first | (funext j; simp (disch := first | omega | ((simp (disch := omega) only [up_ne, up_eq, up_nj, gf_ne, gf_in, sa_ne, sa_eq]) <;> omega)) only [reduceIte, Bool.false_eq_true, if_pos, if_neg, up_ne, up_eq, up_nj, gf_ne, gf_in, sa_ne, sa_eq, and_self, true_and, and_true]; done) | (simp (disch := first | omega | ((simp (disch := omega) only [up_ne, up_eq, up_nj, gf_ne, gf_in, sa_ne, sa_eq]) <;> omega)) only [reduceIte, Bool.false_eq_true, if_pos, if_neg, up_ne, up_eq, up_nj, gf_ne, gf_in, sa_ne, sa_eq, and_self, true_and, and_true]; done) | (simp (disch := first | omega | ((simp (disch := omega) only [up_ne, up_eq, up_nj, gf_ne, gf_in, sa_ne, sa_eq]) <;> omega)) only [reduceIte, Bool.false_eq_true, if_pos, if_neg, up_ne, up_eq, up_nj, gf_ne, gf_in, sa_ne, sa_eq, and_self, true_and, and_true]; omega) | omega)
      · refine hR.2.2.2.2.cong ?_ ?_ ?_ (fun a _ _ => ?_) ?_ ?_ ?_
        all_goals (first | (funext j; simp (disch := first | omega | ((simp (disch := omega) only [up_ne, up_eq, up_nj, gf_ne, gf_in, sa_ne, sa_eq]) <;> omega)) only [reduceIte, Bool.false_eq_true, if_pos, if_neg, up_ne, up_eq, up_nj, gf_ne, gf_in, sa_ne, sa_eq, and_self, true_and, and_true]; done) | (simp (disch := first | omega | ((simp (disch := omega) only [up_ne, up_eq, up_nj, gf_ne, gf_in, sa_ne, sa_eq]) <;> omega)) only [reduceIte, Bool.false_eq_true, if_pos, if_neg, up_ne, up_eq, up_nj, gf_ne, gf_in, sa_ne, sa_eq, and_self, true_and, and_true]; done) | (simp (disch := first | omega | ((simp (disch := omega) only [up_ne, up_eq, up_nj, gf_ne, gf_in, sa_ne, sa_eq]) <;> omega)) only [reduceIte, Bool.false_eq_true, if_pos, if_neg, up_ne, up_eq, up_nj, gf_ne, gf_in, sa_ne, sa_eq, and_self, true_and, and_true]; omega) | omega)
      · simp (disch := first | omega | ((simp (disch := omega) only [up_ne, up_eq, up_nj, gf_ne, gf_in, sa_ne, sa_eq]) <;> omega)) only [reduceIte, Bool.false_eq_true, if_pos, if_neg, up_ne, up_eq, up_nj, gf_ne, gf_in, sa_ne, sa_eq, and_self, true_and, and_true]
    · by_cases c : 0 ≤ y ∧ y < G 3 4
      · by_cases e : 0 ≤ z ∧ z < G 0 2
        · refine ⟨some (vI 1), am_up G 14 x (y * 6 + z), am_up (am_up (am_up (am_up G 14 x (y * 6 + z)) 54 25 0) 61 x y) 62 x z, ?_, ?_, ⟨?_, ?_, ?_, ?_, ?_⟩, ?_⟩
          · unfold Ret
            simp (disch := first | omega | ((simp (disch := omega) only [up_ne, up_eq, up_nj, gf_ne, gf_in, sa_ne, sa_eq]) <;> omega)) only [reduceIte, Bool.false_eq_true, if_pos, if_neg, up_ne, up_eq, up_nj, gf_ne, gf_in, sa_ne, sa_eq, and_self, true_and, and_true, p_54_0, p_54_1, p_54_4, q_54_5, p_54_8, p_54_11, p_54_12, p_54_13, p_54_14, p_54_15, p_54_18, p_54_19, p_54_22, p_54_25, p_54_26, p_54_28, p_54_29, p_54_30, p_54_31, p_54_32, p_54_35, q_54_36, p_54_39, p_54_42, p_54_43, p_54_46, q_54_47, p_54_50, p_54_53, p_54_54, p_54_55, p_54_56, p_54_59, p_54_62, p_54_63, p_54_64, p_54_66, p_54_67, p_54_68, p_54_69, p_54_70, p_54_71]
          · unfold Ret
            simp (disch := first | omega | ((simp (disch := omega) only [up_ne, up_eq, up_nj, gf_ne, gf_in, sa_ne, sa_eq]) <;> omega)) only [reduceIte, Bool.false_eq_true, if_pos, if_neg, up_ne, up_eq, up_nj, gf_ne, gf_in, sa_ne, sa_eq, and_self, true_and, and_true, p_85_0, p_85_1, p_85_2, p_85_5, p_85_6, p_85_7, q_85_8, p_85_11, p_85_12, q_85_13, p_85_16, p_85_19, p_85_20, p_85_21, p_85_24, p_85_25, q_85_26, p_85_29, p_85_32, p_85_33, q_85_34, p_85_37, p_85_40, p_85_41, p_85_42, p_85_43, p_85_46, p_85_47, p_85_48, p_85_49, p_85_50, p_85_53, p_85_54, p_85_55, p_85_56, p_85_59, p_85_60, p_85_63, p_85_64, p_85_65, p_85_66, hq, ha2, hm2]
          · refine hR.1.cong ?_ ?_ ?_ ?_ ?_ ?_ ?_
            all_goals (first | (funext j; simp (disch := first | omega | ((simp (disch := omega) only [up_ne, up_eq, up_nj, gf_ne, gf_in, sa_ne, sa_eq]) <;> omega)) only [reduceIte, Bool.false_eq_true, if_pos, if_neg, up_ne, up_eq, up_nj, gf_ne, gf_in, sa_ne, sa_eq, and_self, true_and, and_true]; done) | (simp (disch := first | omega | ((simp (disch := omega) only [up_ne, up_eq, up_nj, gf_ne, gf_in, sa_ne, sa_eq]) <;> omega)) only [reduceIte, Bool.false_eq_true, if_pos, if_neg, up_ne, up_eq, up_nj, gf_ne, gf_in, sa_ne, sa_eq, and_self, true_and, and_true]; done) | (simp (disch := first | omega | ((simp (disch := omega) only [up_ne, up_eq, up_nj, gf_ne, gf_in, sa_ne, sa_eq]) <;> omega)) only [reduceIte, Bool.false_eq_true, if_pos, if_neg, up_ne, up_eq, up_nj, gf_ne, gf_in, sa_ne, sa_eq, and_self, true_and, and_true]; omega) | omega)
          · refine hR.2.1.cong ?_ ?_ ?_ ?_ (fun a _ _ => ?_) ?_ ?_ ?_ ?_ ?_
            all_goals (first | (funext j; simp (disch := first | omega | ((simp (disch := omega) only [up_ne, up_eq, up_nj, gf_ne, gf_in, sa_ne, sa_eq]) <;> omega)) only [reduceIte, Bool.false_eq_true, if_pos, if_neg, up_ne, up_eq, up_nj, gf_ne, gf_in, sa_ne, sa_eq, and_self, true_and, and_true]; done) | (simp (disch := first | omega | ((simp (disch := omega) only [up_ne, up_eq, up_nj, gf_ne, gf_in, sa_ne, sa_eq]) <;> omega)) only [reduceIte, Bool.false_eq_true, if_pos, if_neg, up_ne, up_eq, up_nj, gf_ne, gf_in, sa_ne, sa_eq, and_self, true_and, and_true]; done) | (simp (disch := first | omega | ((simp (disch := omega) only [up_ne, up_eq, up_nj, gf_ne, gf_in, sa_ne, sa_eq]) <;> omega)) only [reduceIte, Bool.false_eq_true, if_pos, if_neg, up_ne, up_eq, up_nj, gf_ne, gf_in, sa_ne, sa_eq, and_self, true_and, and_true]; omega) | omega)
          · unfold RP
            simp (disch := omega) only [up_ne, up_eq, up_nj, gf_ne, gf_in, sa_ne, sa_eq]
            refine ⟨hp1, hp2, hp3, hp4, hp5, hp6, hp7, hp8, hp9, fun i q1 q2 => ?_⟩
            by_cases f : i = x
            · simp (disch := omega) only [up_ne, up_eq, up_nj, gf_ne, gf_in, sa_ne, sa_eq]
              exact Or.inr ⟨by omega, by omega, by omega, by omega, by omega, by omega⟩
            · simp (disch := omega) only [up_ne, up_eq, up_nj, gf_ne, gf_in, sa_ne, sa_eq]
              exact hp10 i q1 q2
          · refine hR.2.2.2.1.cong ?_ ?_ ?_ ?_ ?_ ?_ ?_ ?_ ?_ ?_ ?_ ?_ ?_ ?_ ?_ ?_ ?_
            all_goals (first | (funext j; simp (disch := first | omega | ((simp (disch := omega) only [up_ne, up_eq, up_nj, gf_ne, gf_in, sa_ne, sa_eq]) <;> omega)) only [reduceIte, Bool.false_eq_true, if_pos, if_neg, up_ne, up_eq, up_nj, gf_ne, gf_in, sa_ne, sa_eq, and_self, true_and, and_true]; done) | (simp (disch := first | omega | ((simp (disch := omega) only [up_ne, up_eq, up_nj, gf_ne, gf_in, sa_ne, sa_eq]) <;> omega)) only [reduceIte, Bool.false_eq_true, if_pos, if_neg, up_ne, up_eq, up_nj, gf_ne, gf_in, sa_ne, sa_eq, and_self, true_and, and_true]; done) | (simp (disch := first | omega | ((simp (disch := omega) only [up_ne, up_eq, up_nj, gf_ne, gf_in, sa_ne, sa_eq]) <;> omega)) only [reduceIte, Bool.false_eq_true, if_pos, if_neg, up_ne, up_eq, up_nj, gf_ne, gf_in, sa_ne, sa_eq, and_self, true_and, and_true]; omega) | omega)
          · refine hR.2.2.2.2.cong ?_ ?_ ?_ (fun a _ _ => ?_) ?_ ?_ ?_
            all_goals (first | (funext j; simp (disch := first | omega | ((simp (disch := omega) only [up_ne, up_eq, up_nj, gf_ne, gf_in, sa_ne, sa_eq]) <;> omega)) only [reduceIte, Bool.false_eq_true, if_pos, if_neg, up_ne, up_eq, up_nj, gf_ne, gf_in, sa_ne, sa_eq, and_self, true_and, and_true]; done) | (simp (disch := first | omega | ((simp (disch := omega) only [up_ne, up_eq, up_nj, gf_ne, gf_in, sa_ne, sa_eq]) <;> omega)) only [reduceIte, Bool.false_eq_true, if_pos, if_neg, up_ne, up_eq, up_nj, gf_ne, gf_in, sa_ne, sa_eq, and_self, true_and, and_true]; done) | (simp (disch := first | omega | ((simp (disch := omega) only [up_ne, up_eq, up_nj, gf_ne, gf_in, sa_ne, sa_eq]) <;> omega)) only [reduceIte, Bool.false_eq_true, if_pos, if_neg, up_ne, up_eq, up_nj, gf_ne, gf_in, sa_ne, sa_eq, and_self, true_and, and_true]; omega) | omega)
          · simp (disch := first | omega | ((simp (disch := omega) only [up_ne, up_eq, up_nj, gf_ne, gf_in, sa_ne, sa_eq]) <;> omega)) only [reduceIte, Bool.false_eq_true, if_pos, if_neg, up_ne, up_eq, up_nj, gf_ne, gf_in, sa_ne, sa_eq, and_self, true_and, and_true]
        · refine ⟨some (vI 0), G, am_up G 54 25 0, ?_, ?_, hR.thrown 0, up_eq rfl rfl⟩
          · unfold Ret
            simp (disch := first | omega | ((simp (disch := omega) only [up_ne, up_eq, up_nj, gf_ne, gf_in, sa_ne, sa_eq]) <;> omega)) only [reduceIte, Bool.false_eq_true, if_pos, if_neg, up_ne, up_eq, up_nj, gf_ne, gf_in, sa_ne, sa_eq, and_self, true_and, and_true, p_54_0, p_54_1, p_54_4, q_54_5, p_54_8, p_54_11, p_54_12, p_54_13, p_54_14, p_54_15, p_54_18, p_54_19, p_54_22, p_54_25, p_54_26, p_54_28, p_54_29, p_54_30, p_54_31, p_54_32, p_54_35, q_54_36, p_54_39, p_54_42, p_54_43, p_54_46, q_54_47, p_54_50, p_54_53, p_54_54, p_54_55, p_54_56, p_54_59, p_54_62, p_54_63, p_54_64, p_54_66, p_54_67, p_54_68, p_54_69, p_54_70, p_54_71]
          · unfold Ret
            simp (disch := first | omega | ((simp (disch := omega) only [up_ne, up_eq, up_nj, gf_ne, gf_in, sa_ne, sa_eq]) <;> omega)) only [reduceIte, Bool.false_eq_true, if_pos, if_neg, up_ne, up_eq, up_nj, gf_ne, gf_in, sa_ne, sa_eq, and_self, true_and, and_true, p_85_0, p_85_1, p_85_2, p_85_5, p_85_6, p_85_7, q_85_8, p_85_11, p_85_12, q_85_13, p_85_16, p_85_19, p_85_20, p_85_21, p_85_24, p_85_25, q_85_26, p_85_29, p_85_32, p_85_33, q_85_34, p_85_37, p_85_40, p_85_41, p_85_42, p_85_43, p_85_46, p_85_47, p_85_48, p_85_49, p_85_50, p_85_53, p_85_54, p_85_55, p_85_56, p_85_59, p_85_60, p_85_63, p_85_64, p_85_65, p_85_66, hq]
      · refine ⟨some (vI 0), G, am_up G 54 25 0, ?_, ?_, hR.thrown 0, up_eq rfl rfl⟩
        · unfold Ret
          simp (disch := first | omega | ((simp (disch := omega) only [up_ne, up_eq, up_nj, gf_ne, gf_in, sa_ne, sa_eq]) <;> omega)) only [reduceIte, Bool.false_eq_true, if_pos, if_neg, up_ne, up_eq, up_nj, gf_ne, gf_in, sa_ne, sa_eq, and_self, true_and, and_true, p_54_0, p_54_1, p_54_4, q_54_5, p_54_8, p_54_11, p_54_12, p_54_13, p_54_14, p_54_15, p_54_18, p_54_19, p_54_22, p_54_25, p_54_26, p_54_28, p_54_29, p_54_30, p_54_31, p_54_32, p_54_35, q_54_36, p_54_39, p_54_42, p_54_43, p_54_46, q_54_47, p_54_50, p_54_53, p_54_54, p_54_55, p_54_56, p_54_59, p_54_62, p_54_63, p_54_64, p_54_66, p_54_67, p_54_68, p_54_69, p_54_70, p_54_71]
        · unfold Ret
          simp (disch := first | omega | ((simp (disch := omega) only [up_ne, up_eq, up_nj, gf_ne, gf_in, sa_ne, sa_eq]) <;> omega)) only [reduceIte, Bool.false_eq_true, if_pos, if_neg, up_ne, up_eq, up_nj, gf_ne, gf_in, sa_ne, sa_eq, and_self, true_and, and_true, p_85_0, p_85_1, p_85_2, p_85_5, p_85_6, p_85_7, q_85_8, p_85_11, p_85_12, q_85_13, p_85_16, p_85_19, p_85_20, p_85_21, p_85_24, p_85_25, q_85_26, p_85_29, p_85_32, p_85_33, q_85_34, p_85_37, p_85_40, p_85_41, p_85_42, p_85_43, p_85_46, p_85_47, p_85_48, p_85_49, p_85_50, p_85_53, p_85_54, p_85_55, p_85_56, p_85_59, p_85_60, p_85_63, p_85_64, p_85_65, p_85_66, hq]
  · refine ⟨some (vI 0), G, am_up G 54 25 0, ?_, ?_, hR.thrown 0, up_eq rfl rfl⟩
    · unfold Ret
      simp (disch := first | omega | ((simp (disch := omega) only [up_ne, up_eq, up_nj, gf_ne, gf_in, sa_ne, sa_eq]) <;> omega)) only [reduceIte, Bool.false_eq_true, if_pos, if_neg, up_ne, up_eq, up_nj, gf_ne, gf_in, sa_ne, sa_eq, and_self, true_and, and_true, p_54_0, p_54_1, p_54_4, q_54_5, p_54_8, p_54_11, p_54_12, p_54_13, p_54_14, p_54_15, p_54_18, p_54_19, p_54_22, p_54_25, p_54_26, p_54_28, p_54_29, p_54_30, p_54_31, p_54_32, p_54_35, q_54_36, p_54_39, p_54_42, p_54_43, p_54_46, q_54_47, p_54_50, p_54_53, p_54_54, p_54_55, p_54_56, p_54_59, p_54_62, p_54_63, p_54_64, p_54_66, p_54_67, p_54_68, p_54_69, p_54_70, p_54_71]
    · unfold Ret
      simp (disch := first | omega | ((simp (disch := omega) only [up_ne, up_eq, up_nj, gf_ne, gf_in, sa_ne, sa_eq]) <;> omega)) only [reduceIte, Bool.false_eq_true, if_pos, if_neg, up_ne, up_eq, up_nj, gf_ne, gf_in, sa_ne, sa_eq, and_self, true_and, and_true, p_85_0, p_85_1, p_85_2, p_85_5, p_85_6, p_85_7, q_85_8, p_85_11, p_85_12, q_85_13, p_85_16, p_85_19, p_85_20, p_85_21, p_85_24, p_85_25, q_85_26, p_85_29, p_85_32, p_85_33, q_85_34, p_85_37, p_85_40, p_85_41, p_85_42, p_85_43, p_85_46, p_85_47, p_85_48, p_85_49, p_85_50, p_85_53, p_85_54, p_85_55, p_85_56, p_85_59, p_85_60, p_85_63, p_85_64, p_85_65, p_85_66, hq]
