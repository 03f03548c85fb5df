theorem pair_rival {G : AG} (hR : Rel G) {x y z : Int} (hx : -2147483648 ≤ x ∧ x < 2147483648) (hy : -2147483648 ≤ y ∧ y < 2147483648) (hz : z = 0 ∨ z = 1) : Pair 48 77 [vI x, vI y, vI z] [vI x, vI y, vI z] G := by
  obtain ⟨ha0, ha1, ha2, ha3, ha4, ha5, ha6⟩ := id hR.2.1
  by_cases a : 0 ≤ x ∧ x < G 3 4
  · by_cases b : 0 ≤ y ∧ y < G 3 4
    · by_cases c : x = y
      · subst c
        refine ⟨some (vI (0)), G, am_up G 54 25 0, ?_, ?_, hR.thrown 0, up_eq rfl rfl⟩
        · unfold Ret
          simp (disch := first | omega | ((simp (disch := omega) only [up_ne, up_eq, up_nj, gf_ne, gf_in]) <;> omega)) only [reduceIte, Bool.false_eq_true, if_pos, if_neg, up_ne, up_eq, up_nj, gf_ne, gf_in, and_self, true_and, and_true, p_48_0, p_48_1, p_48_4, q_48_5, p_48_8, p_48_11, p_48_12, p_48_15, q_48_16, p_48_19, p_48_22, p_48_23, p_48_24, p_48_27, p_48_28, p_48_29, p_48_30, p_48_33, p_48_36, p_48_37, p_48_38, p_48_41, p_48_44, p_48_45, p_48_46, p_48_47, q_48_48, p_48_51, p_48_52, p_48_53, p_48_56, p_48_59, p_48_60, p_48_61, p_48_64, p_48_67, p_48_68, p_48_69, p_48_70, q_48_71, p_48_74, p_48_75, p_48_76]
        · unfold Ret
          simp (disch := first | omega | ((simp (disch := omega) only [up_ne, up_eq, up_nj, gf_ne, gf_in]) <;> omega)) only [reduceIte, Bool.false_eq_true, if_pos, if_neg, up_ne, up_eq, up_nj, gf_ne, gf_in, and_self, true_and, and_true, p_77_0, p_77_1, p_77_2, p_77_5, p_77_6, q_77_7, p_77_10, p_77_13, p_77_14, q_77_15, p_77_18, p_77_21, p_77_22, p_77_23, p_77_26, p_77_27, p_77_28, p_77_29, p_77_32, p_77_34, p_77_35, p_77_36, p_77_37, p_77_38, p_77_39, p_77_40, p_77_41, p_77_44, p_77_46, p_77_47, p_77_48, p_77_49, p_77_50, p_77_51, p_77_52, p_77_53]
      · have bx := ha5 x a.1 (by omega)
        have by' := ha5 y b.1 (by omega)
        refine ⟨some (vI 1), am_up (am_up G 5 x (wb (G 5 x) y (decide (z = 1)))) 5 y (wb (G 5 y) x (decide (z = 1))), am_up (am_up (am_up (am_up (am_up G 5 x (wb (G 5 x) y (decide (z = 1)))) 5 y (wb (G 5 y) x (decide (z = 1)))) 54 25 0) 60 (6 * x + y) z) 60 (6 * y + x) z, ?_, ?_, ⟨?_, ?_, ?_, ?_, ?_⟩, ?_⟩
        · unfold Ret
          simp (disch := first | omega | ((simp (disch := omega) only [up_ne, up_eq, up_nj, gf_ne, gf_in]) <;> omega)) only [reduceIte, Bool.false_eq_true, if_pos, if_neg, up_ne, up_eq, up_nj, gf_ne, gf_in, and_self, true_and, and_true, p_48_0, p_48_1, p_48_4, q_48_5, p_48_8, p_48_11, p_48_12, p_48_15, q_48_16, p_48_19, p_48_22, p_48_23, p_48_24, p_48_27, p_48_28, p_48_29, p_48_30, p_48_33, p_48_36, p_48_37, p_48_38, p_48_41, p_48_44, p_48_45, p_48_46, p_48_47, q_48_48, p_48_51, p_48_52, p_48_53, p_48_56, p_48_59, p_48_60, p_48_61, p_48_64, p_48_67, p_48_68, p_48_69, p_48_70, q_48_71, p_48_74, p_48_75, p_48_76]
        · unfold Ret
          simp (disch := first | omega | ((simp (disch := omega) only [up_ne, up_eq, up_nj, gf_ne, gf_in]) <;> omega)) only [reduceIte, Bool.false_eq_true, if_pos, if_neg, up_ne, up_eq, up_nj, gf_ne, gf_in, and_self, true_and, and_true, p_77_0, p_77_1, p_77_2, p_77_5, p_77_6, q_77_7, p_77_10, p_77_13, p_77_14, q_77_15, p_77_18, p_77_21, p_77_22, p_77_23, p_77_26, p_77_27, p_77_28, p_77_29, p_77_32, p_77_34, p_77_35, p_77_36, p_77_37, p_77_38, p_77_39, p_77_40, p_77_41, p_77_44, p_77_46, p_77_47, p_77_48, p_77_49, p_77_50, p_77_51, p_77_52, p_77_53, ha2]
        · refine hR.1.cong ?_ ?_ ?_ ?_ ?_ ?_ ?_
          all_goals (first | (funext j; simp (disch := first | omega | ((simp (disch := omega) only [up_ne, up_eq, up_nj, gf_ne, gf_in]) <;> omega)) only [reduceIte, Bool.false_eq_true, if_pos, if_neg, up_ne, up_eq, up_nj, gf_ne, gf_in, and_self, true_and, and_true]; done) | (simp (disch := first | omega | ((simp (disch := omega) only [up_ne, up_eq, up_nj, gf_ne, gf_in]) <;> omega)) only [reduceIte, Bool.false_eq_true, if_pos, if_neg, up_ne, up_eq, up_nj, gf_ne, gf_in, and_self, true_and, and_true]; done) | (simp (disch := first | omega | ((simp (disch := omega) only [up_ne, up_eq, up_nj, gf_ne, gf_in]) <;> omega)) only [reduceIte, Bool.false_eq_true, if_pos, if_neg, up_ne, up_eq, up_nj, gf_ne, gf_in, and_self, true_and, and_true]; omega) | omega)
        · unfold RA
          simp (disch := first | omega | ((simp (disch := omega) only [up_ne, up_eq, up_nj, gf_ne, gf_in]) <;> omega)) only [reduceIte, Bool.false_eq_true, if_pos, if_neg, up_ne, up_eq, up_nj, gf_ne, gf_in, and_self, true_and, and_true]
          have hc : (decide (z = 1) : Bool) = true ↔ z = 1 := decide_eq_true_iff
          have e5 : ∀ i : Int, am_up (am_up G 5 x (wb (G 5 x) y (decide (z = 1)))) 5 y (wb (G 5 y) x (decide (z = 1))) 5 i = if i = y then wb (G 5 y) x (decide (z = 1)) else if i = x then wb (G 5 x) y (decide (z = 1)) else G 5 i := by
            intro i
            by_cases e1 : i = y
            · simp (disch := first | omega | ((simp (disch := omega) only [up_ne, up_eq, up_nj, gf_ne, gf_in]) <;> omega)) only [reduceIte, Bool.false_eq_true, if_pos, if_neg, up_ne, up_eq, up_nj, gf_ne, gf_in, and_self, true_and, and_true]
            · by_cases e2 : i = x
              · simp (disch := first | omega | ((simp (disch := omega) only [up_ne, up_eq, up_nj, gf_ne, gf_in]) <;> omega)) only [reduceIte, Bool.false_eq_true, if_pos, if_neg, up_ne, up_eq, up_nj, gf_ne, gf_in, and_self, true_and, and_true]
              · simp (disch := first | omega | ((simp (disch := omega) only [up_ne, up_eq, up_nj, gf_ne, gf_in]) <;> omega)) only [reduceIte, Bool.false_eq_true, if_pos, if_neg, up_ne, up_eq, up_nj, gf_ne, gf_in, and_self, true_and, and_true]
          have t5 : ∀ i k : Int, 0 ≤ k → tb (am_up (am_up G 5 x (wb (G 5 x) y (decide (z = 1)))) 5 y (wb (G 5 y) x (decide (z = 1))) 5 i) k = if (i = x ∧ k = y) ∨ (i = y ∧ k = x) then decide (z = 1) else tb (G 5 i) k := by
            intro i k hk
            rw [e5]
            by_cases e1 : i = y
            · subst e1
              rw [if_pos rfl, tb_wb a.1 hk]
              by_cases e3 : k = x
              · rw [if_pos e3, if_pos (Or.inr ⟨rfl, e3⟩)]
              · rw [if_neg e3, if_neg (by omega)]
            · rw [if_neg e1]
              by_cases e2 : i = x
              · subst e2
                rw [if_pos rfl, tb_wb b.1 hk]
                by_cases e3 : k = y
                · rw [if_pos e3, if_pos (Or.inl ⟨rfl, e3⟩)]
                · rw [if_neg e3, if_neg (by omega)]
              · rw [if_neg e2, if_neg (by omega)]
          refine ⟨ha0, ha1, ha2, ha3, ha4, fun i q1 q2 => ?_, fun i k q1 q2 q3 q4 => ?_⟩
          · obtain ⟨g1, g2, g3, g4, g5, g6⟩ := ha5 i q1 q2
            refine ⟨g1, g2, g3, g4, ?_⟩
            rw [e5]
            have w1 := wb_nonneg (G 5 y) x (decide (z = 1))
            have w2 := wb_nonneg (G 5 x) y (decide (z = 1))
            have w3 : wb (G 5 y) x (decide (z = 1)) < ((2 ^ 6 : Nat) : Int) := wb_lt (by omega) (show G 5 y < ((2 ^ 6 : Nat) : Int) by omega) (by omega) (by omega)
            have w4 : wb (G 5 x) y (decide (z = 1)) < ((2 ^ 6 : Nat) : Int) := wb_lt (by omega) (show G 5 x < ((2 ^ 6 : Nat) : Int) by omega) (by omega) (by omega)
            split
            · exact ⟨w1, w3⟩
            · split
              · exact ⟨w2, w4⟩
              · exact ⟨g5, g6⟩
          · obtain ⟨g1, g2, g3, g4, g5, g6⟩ := ha6 i k q1 q2 q3 q4
            rw [t5 i k q3, t5 k i q1]
            by_cases e : (i = x ∧ k = y) ∨ (i = y ∧ k = x)
            · rw [if_pos e, if_pos (show (k = x ∧ i = y) ∨ (k = y ∧ i = x) by omega)]
              refine ⟨?_, ?_, ?_, ?_, ?_, rfl⟩
              · simp (disch := first | omega | ((simp (disch := omega) only [up_ne, up_eq, up_nj, gf_ne, gf_in]) <;> omega)) only [reduceIte, Bool.false_eq_true, if_pos, if_neg, up_ne, up_eq, up_nj, gf_ne, gf_in, and_self, true_and, and_true]
                exact g1
              · simp (disch := first | omega | ((simp (disch := omega) only [up_ne, up_eq, up_nj, gf_ne, gf_in]) <;> omega)) only [reduceIte, Bool.false_eq_true, if_pos, if_neg, up_ne, up_eq, up_nj, gf_ne, gf_in, and_self, true_and, and_true]
                exact g2
              · simp (disch := first | omega | ((simp (disch := omega) only [up_ne, up_eq, up_nj, gf_ne, gf_in]) <;> omega)) only [reduceIte, Bool.false_eq_true, if_pos, if_neg, up_ne, up_eq, up_nj, gf_ne, gf_in, and_self, true_and, and_true]
                exact g3
              · simp (disch := first | omega | ((simp (disch := omega) only [up_ne, up_eq, up_nj, gf_ne, gf_in]) <;> omega)) only [reduceIte, Bool.false_eq_true, if_pos, if_neg, up_ne, up_eq, up_nj, gf_ne, gf_in, and_self, true_and, and_true]
                exact g4
              · have e6 : am_up (am_up (am_up (am_up (am_up G 5 x (wb (G 5 x) y (decide (z = 1)))) 5 y (wb (G 5 y) x (decide (z = 1)))) 54 25 0) 60 (6 * x + y) z) 60 (6 * y + x) z 60 (6 * i + k) = z := by
                  by_cases e7 : i = y
                  · simp (disch := first | omega | ((simp (disch := omega) only [up_ne, up_eq, up_nj, gf_ne, gf_in]) <;> omega)) only [reduceIte, Bool.false_eq_true, if_pos, if_neg, up_ne, up_eq, up_nj, gf_ne, gf_in, and_self, true_and, and_true]
                  · simp (disch := first | omega | ((simp (disch := omega) only [up_ne, up_eq, up_nj, gf_ne, gf_in]) <;> omega)) only [reduceIte, Bool.false_eq_true, if_pos, if_neg, up_ne, up_eq, up_nj, gf_ne, gf_in, and_self, true_and, and_true]
                rw [e6]
                rcases hz with h | h <;> rw [h] <;> rfl
            · rw [if_neg e, if_neg (show ¬ ((k = x ∧ i = y) ∨ (k = y ∧ i = x)) by omega)]
              simp (disch := omega) only [up_ne, up_eq, up_nj, gf_ne, gf_in]
              exact ⟨g1, g2, g3, g4, g5, g6⟩
        · refine hR.2.2.1.cong ?_ ?_ ?_ ?_ ?_ ?_ ?_ ?_ ?_
          all_goals (first | (funext j; simp (disch := first | omega | ((simp (disch := omega) only [up_ne, up_eq, up_nj, gf_ne, gf_in]) <;> omega)) only [reduceIte, Bool.false_eq_true, if_pos, if_neg, up_ne, up_eq, up_nj, gf_ne, gf_in, and_self, true_and, and_true]; done) | (simp (disch := first | omega | ((simp (disch := omega) only [up_ne, up_eq, up_nj, gf_ne, gf_in]) <;> omega)) only [reduceIte, Bool.false_eq_true, if_pos, if_neg, up_ne, up_eq, up_nj, gf_ne, gf_in, and_self, true_and, and_true]; done) | (simp (disch := first | omega | ((simp (disch := omega) only [up_ne, up_eq, up_nj, gf_ne, gf_in]) <;> omega)) only [reduceIte, Bool.false_eq_true, if_pos, if_neg, up_ne, up_eq, up_nj, gf_ne, gf_in, and_self, true_and, and_true]; omega) | omega)
        · refine hR.2.2.2.1.cong ?_ ?_ ?_ ?_ ?_ ?_ ?_ ?_ ?_ ?_ ?_ ?_ ?_ ?_ ?_ ?_
          all_goals (first | (funext j; simp (disch := first | omega | ((simp (disch := omega) only [up_ne, up_eq, up_nj, gf_ne, gf_in]) <;> omega)) only [reduceIte, Bool.false_eq_true, if_pos, if_neg, up_ne, up_eq, up_nj, gf_ne, gf_in, and_self, true_and, and_true]; done) | (simp (disch := first | omega | ((simp (disch := omega) only [up_ne, up_eq, up_nj, gf_ne, gf_in]) <;> omega)) only [reduceIte, Bool.false_eq_true, if_pos, if_neg, up_ne, up_eq, up_nj, gf_ne, gf_in, and_self, true_and, and_true]; done) | (simp (disch := first | omega | ((simp (disch := omega) only [up_ne, up_eq, up_nj, gf_ne, gf_in]) <;> omega)) only [reduceIte, Bool.false_eq_true, if_pos, if_neg, up_ne, up_eq, up_nj, gf_ne, gf_in, and_self, true_and, and_true]; omega) | omega)
        · refine hR.2.2.2.2.cong ?_ ?_ ?_ (fun a _ _ => ?_) ?_ ?_ ?_
          all_goals (first | (funext j; simp (disch := first | omega | ((simp (disch := omega) only [up_ne, up_eq, up_nj, gf_ne, gf_in]) <;> omega)) only [reduceIte, Bool.false_eq_true, if_pos, if_neg, up_ne, up_eq, up_nj, gf_ne, gf_in, and_self, true_and, and_true]; done) | (simp (disch := first | omega | ((simp (disch := omega) only [up_ne, up_eq, up_nj, gf_ne, gf_in]) <;> omega)) only [reduceIte, Bool.false_eq_true, if_pos, if_neg, up_ne, up_eq, up_nj, gf_ne, gf_in, and_self, true_and, and_true]; done) | (simp (disch := first | omega | ((simp (disch := omega) only [up_ne, up_eq, up_nj, gf_ne, gf_in]) <;> omega)) only [reduceIte, Bool.false_eq_true, if_pos, if_neg, up_ne, up_eq, up_nj, gf_ne, gf_in, and_self, true_and, and_true]; omega) | omega)
        · simp (disch := first | omega | ((simp (disch := omega) only [up_ne, up_eq, up_nj, gf_ne, gf_in]) <;> omega)) only [reduceIte, Bool.false_eq_true, if_pos, if_neg, up_ne, up_eq, up_nj, gf_ne, gf_in, and_self, true_and, and_true]
    · refine ⟨some (vI (0)), G, am_up G 54 25 0, ?_, ?_, hR.thrown 0, up_eq rfl rfl⟩
      · unfold Ret
        simp (disch := first | omega | ((simp (disch := omega) only [up_ne, up_eq, up_nj, gf_ne, gf_in]) <;> omega)) only [reduceIte, Bool.false_eq_true, if_pos, if_neg, up_ne, up_eq, up_nj, gf_ne, gf_in, and_self, true_and, and_true, p_48_0, p_48_1, p_48_4, q_48_5, p_48_8, p_48_11, p_48_12, p_48_15, q_48_16, p_48_19, p_48_22, p_48_23, p_48_24, p_48_27, p_48_28, p_48_29, p_48_30, p_48_33, p_48_36, p_48_37, p_48_38, p_48_41, p_48_44, p_48_45, p_48_46, p_48_47, q_48_48, p_48_51, p_48_52, p_48_53, p_48_56, p_48_59, p_48_60, p_48_61, p_48_64, p_48_67, p_48_68, p_48_69, p_48_70, q_48_71, p_48_74, p_48_75, p_48_76]
      · unfold Ret
        simp (disch := first | omega | ((simp (disch := omega) only [up_ne, up_eq, up_nj, gf_ne, gf_in]) <;> omega)) only [reduceIte, Bool.false_eq_true, if_pos, if_neg, up_ne, up_eq, up_nj, gf_ne, gf_in, and_self, true_and, and_true, p_77_0, p_77_1, p_77_2, p_77_5, p_77_6, q_77_7, p_77_10, p_77_13, p_77_14, q_77_15, p_77_18, p_77_21, p_77_22, p_77_23, p_77_26, p_77_27, p_77_28, p_77_29, p_77_32, p_77_34, p_77_35, p_77_36, p_77_37, p_77_38, p_77_39, p_77_40, p_77_41, p_77_44, p_77_46, p_77_47, p_77_48, p_77_49, p_77_50, p_77_51, p_77_52, p_77_53]
  · refine ⟨some (vI (0)), G, am_up G 54 25 0, ?_, ?_, hR.thrown 0, up_eq rfl rfl⟩
    · unfold Ret
      simp (disch := first | omega | ((simp (disch := omega) only [up_ne, up_eq, up_nj, gf_ne, gf_in]) <;> omega)) only [reduceIte, Bool.false_eq_true, if_pos, if_neg, up_ne, up_eq, up_nj, gf_ne, gf_in, and_self, true_and, and_true, p_48_0, p_48_1, p_48_4, q_48_5, p_48_8, p_48_11, p_48_12, p_48_15, q_48_16, p_48_19, p_48_22, p_48_23, p_48_24, p_48_27, p_48_28, p_48_29, p_48_30, p_48_33, p_48_36, p_48_37, p_48_38, p_48_41, p_48_44, p_48_45, p_48_46, p_48_47, q_48_48, p_48_51, p_48_52, p_48_53, p_48_56, p_48_59, p_48_60, p_48_61, p_48_64, p_48_67, p_48_68, p_48_69, p_48_70, q_48_71, p_48_74, p_48_75, p_48_76]
    · unfold Ret
      simp (disch := first | omega | ((simp (disch := omega) only [up_ne, up_eq, up_nj, gf_ne, gf_in]) <;> omega)) only [reduceIte, Bool.false_eq_true, if_pos, if_neg, up_ne, up_eq, up_nj, gf_ne, gf_in, and_self, true_and, and_true, p_77_0, p_77_1, p_77_2, p_77_5, p_77_6, q_77_7, p_77_10, p_77_13, p_77_14, q_77_15, p_77_18, p_77_21, p_77_22, p_77_23, p_77_26, p_77_27, p_77_28, p_77_29, p_77_32, p_77_34, p_77_35, p_77_36, p_77_37, p_77_38, p_77_39, p_77_40, p_77_41, p_77_44, p_77_46, p_77_47, p_77_48, p_77_49, p_77_50, p_77_51, p_77_52, p_77_53]
theorem pair_kin {G : AG} (hR : Rel G) {x y z : Int} (hx : -2147483648 ≤ x ∧ x < 2147483648) (hy : -2147483648 ≤ y ∧ y < 2147483648) (hz : z = 0 ∨ z = 1) : Pair 63 106 [vI x, vI y, vI z] [vI x, vI y, vI z] G := by
  obtain ⟨ha0, ha1, ha2, ha3, ha4, ha5, ha6⟩ := id hR.2.1
  by_cases a : 0 ≤ x ∧ x ≤ 6
  · by_cases b : 0 ≤ y ∧ y < G 3 4
    · have hj := hR.2.2.2.2
      obtain ⟨g1, g2, g3, g4, g5, g6, g7, g8⟩ := hj x a.1 (by omega)
      refine ⟨some (vI 1), am_up G 51 x (wb (G 51 x) y (decide (z = 1))), am_up (am_up (am_up G 51 x (wb (G 51 x) y (decide (z = 1)))) 54 25 0) 71 (6 * x + y) z, ?_, ?_, ⟨?_, ?_, ?_, ?_, ?_⟩, ?_⟩
      · unfold Ret
        simp (disch := first | omega | ((simp (disch := omega) only [up_ne, up_eq, up_nj, gf_ne, gf_in]) <;> omega)) only [reduceIte, Bool.false_eq_true, if_pos, if_neg, up_ne, up_eq, up_nj, gf_ne, gf_in, and_self, true_and, and_true, p_63_0, p_63_1, p_63_2, q_63_4, p_63_7, p_63_10, p_63_11, p_63_14, q_63_15, p_63_18, p_63_21, p_63_22, p_63_23, p_63_24, p_63_27, p_63_30, p_63_31, p_63_32, p_63_35, p_63_38, p_63_39, p_63_40, p_63_41, q_63_42, p_63_45, p_63_46, p_63_47]
      · unfold Ret
        simp (disch := first | omega | ((simp (disch := omega) only [up_ne, up_eq, up_nj, gf_ne, gf_in]) <;> omega)) only [reduceIte, Bool.false_eq_true, if_pos, if_neg, up_ne, up_eq, up_nj, gf_ne, gf_in, and_self, true_and, and_true, p_106_0, p_106_1, p_106_2, p_106_5, p_106_6, p_106_7, q_106_9, p_106_12, p_106_15, p_106_16, q_106_17, p_106_20, p_106_23, p_106_24, p_106_25, p_106_26, p_106_29, p_106_31, p_106_32, p_106_33, p_106_34, p_106_35, p_106_36, p_106_37, p_106_38, ha2]
      · refine hR.1.cong ?_ ?_ ?_ ?_ ?_ ?_ ?_
        all_goals (first | (funext j; simp (disch := first | omega | ((simp (disch := omega) only [up_ne, up_eq, up_nj, gf_ne, gf_in]) <;> omega)) only [reduceIte, Bool.false_eq_true, if_pos, if_neg, up_ne, up_eq, up_nj, gf_ne, gf_in, and_self, true_and, and_true]; done) | (simp (disch := first | omega | ((simp (disch := omega) only [up_ne, up_eq, up_nj, gf_ne, gf_in]) <;> omega)) only [reduceIte, Bool.false_eq_true, if_pos, if_neg, up_ne, up_eq, up_nj, gf_ne, gf_in, and_self, true_and, and_true]; done) | (simp (disch := first | omega | ((simp (disch := omega) only [up_ne, up_eq, up_nj, gf_ne, gf_in]) <;> omega)) only [reduceIte, Bool.false_eq_true, if_pos, if_neg, up_ne, up_eq, up_nj, gf_ne, gf_in, and_self, true_and, and_true]; omega) | omega)
      · refine hR.2.1.cong ?_ ?_ ?_ ?_ (fun a _ _ => ?_) ?_ ?_ ?_ ?_ ?_
        all_goals (first | (funext j; simp (disch := first | omega | ((simp (disch := omega) only [up_ne, up_eq, up_nj, gf_ne, gf_in]) <;> omega)) only [reduceIte, Bool.false_eq_true, if_pos, if_neg, up_ne, up_eq, up_nj, gf_ne, gf_in, and_self, true_and, and_true]; done) | (simp (disch := first | omega | ((simp (disch := omega) only [up_ne, up_eq, up_nj, gf_ne, gf_in]) <;> omega)) only [reduceIte, Bool.false_eq_true, if_pos, if_neg, up_ne, up_eq, up_nj, gf_ne, gf_in, and_self, true_and, and_true]; done) | (simp (disch := first | omega | ((simp (disch := omega) only [up_ne, up_eq, up_nj, gf_ne, gf_in]) <;> omega)) only [reduceIte, Bool.false_eq_true, if_pos, if_neg, up_ne, up_eq, up_nj, gf_ne, gf_in, and_self, true_and, and_true]; omega) | omega)
      · refine hR.2.2.1.cong ?_ ?_ ?_ ?_ ?_ ?_ ?_ ?_ ?_
        all_goals (first | (funext j; simp (disch := first | omega | ((simp (disch := omega) only [up_ne, up_eq, up_nj, gf_ne, gf_in]) <;> omega)) only [reduceIte, Bool.false_eq_true, if_pos, if_neg, up_ne, up_eq, up_nj, gf_ne, gf_in, and_self, true_and, and_true]; done) | (simp (disch := first | omega | ((simp (disch := omega) only [up_ne, up_eq, up_nj, gf_ne, gf_in]) <;> omega)) only [reduceIte, Bool.false_eq_true, if_pos, if_neg, up_ne, up_eq, up_nj, gf_ne, gf_in, and_self, true_and, and_true]; done) | (simp (disch := first | omega | ((simp (disch := omega) only [up_ne, up_eq, up_nj, gf_ne, gf_in]) <;> omega)) only [reduceIte, Bool.false_eq_true, if_pos, if_neg, up_ne, up_eq, up_nj, gf_ne, gf_in, and_self, true_and, and_true]; omega) | omega)
      · refine hR.2.2.2.1.cong ?_ ?_ ?_ ?_ ?_ ?_ ?_ ?_ ?_ ?_ ?_ ?_ ?_ ?_ ?_ ?_
        all_goals (first | (funext j; simp (disch := first | omega | ((simp (disch := omega) only [up_ne, up_eq, up_nj, gf_ne, gf_in]) <;> omega)) only [reduceIte, Bool.false_eq_true, if_pos, if_neg, up_ne, up_eq, up_nj, gf_ne, gf_in, and_self, true_and, and_true]; done) | (simp (disch := first | omega | ((simp (disch := omega) only [up_ne, up_eq, up_nj, gf_ne, gf_in]) <;> omega)) only [reduceIte, Bool.false_eq_true, if_pos, if_neg, up_ne, up_eq, up_nj, gf_ne, gf_in, and_self, true_and, and_true]; done) | (simp (disch := first | omega | ((simp (disch := omega) only [up_ne, up_eq, up_nj, gf_ne, gf_in]) <;> omega)) only [reduceIte, Bool.false_eq_true, if_pos, if_neg, up_ne, up_eq, up_nj, gf_ne, gf_in, and_self, true_and, and_true]; omega) | omega)
      · intro j q1 q2
        obtain ⟨k1, k2, k3, k4, k5, k6, k7, k8⟩ := hj j q1 q2
        simp (disch := first | omega | ((simp (disch := omega) only [up_ne, up_eq, up_nj, gf_ne, gf_in]) <;> omega)) only [reduceIte, Bool.false_eq_true, if_pos, if_neg, up_ne, up_eq, up_nj, gf_ne, gf_in, and_self, true_and, and_true]
        by_cases e : j = x
        · subst e
          have w1 := wb_nonneg (G 51 j) y (decide (z = 1))
          have w3 : wb (G 51 j) y (decide (z = 1)) < ((2 ^ 6 : Nat) : Int) := wb_lt (by omega) (show G 51 j < ((2 ^ 6 : Nat) : Int) by omega) (by omega) (by omega)
          simp (disch := first | omega | ((simp (disch := omega) only [up_ne, up_eq, up_nj, gf_ne, gf_in]) <;> omega)) only [reduceIte, Bool.false_eq_true, if_pos, if_neg, up_ne, up_eq, up_nj, gf_ne, gf_in, and_self, true_and, and_true]
          refine ⟨k1, k2, k3, w1, w3, fun i r1 r2 => ?_, k7, k8⟩
          rw [tb_wb b.1 r1]
          by_cases e2 : i = y
          · simp (disch := first | omega | ((simp (disch := omega) only [up_ne, up_eq, up_nj, gf_ne, gf_in]) <;> omega)) only [reduceIte, Bool.false_eq_true, if_pos, if_neg, up_ne, up_eq, up_nj, gf_ne, gf_in, and_self, true_and, and_true]
            rcases hz with rfl | rfl <;> simp
          · simp (disch := first | omega | ((simp (disch := omega) only [up_ne, up_eq, up_nj, gf_ne, gf_in]) <;> omega)) only [reduceIte, Bool.false_eq_true, if_pos, if_neg, up_ne, up_eq, up_nj, gf_ne, gf_in, and_self, true_and, and_true]
            exact k6 i r1 r2
        · simp (disch := first | omega | ((simp (disch := omega) only [up_ne, up_eq, up_nj, gf_ne, gf_in]) <;> omega)) only [reduceIte, Bool.false_eq_true, if_pos, if_neg, up_ne, up_eq, up_nj, gf_ne, gf_in, and_self, true_and, and_true]
          refine ⟨k1, k2, k3, k4, k5, fun i r1 r2 => ?_, k7, k8⟩
          simp (disch := first | omega | ((simp (disch := omega) only [up_ne, up_eq, up_nj, gf_ne, gf_in]) <;> omega)) only [reduceIte, Bool.false_eq_true, if_pos, if_neg, up_ne, up_eq, up_nj, gf_ne, gf_in, and_self, true_and, and_true]
          exact k6 i r1 r2
      · simp (disch := first | omega | ((simp (disch := omega) only [up_ne, up_eq, up_nj, gf_ne, gf_in]) <;> omega)) only [reduceIte, Bool.false_eq_true, if_pos, if_neg, up_ne, up_eq, up_nj, gf_ne, gf_in, and_self, true_and, and_true]
    · refine ⟨some (vI (0)), G, am_up G 54 25 0, ?_, ?_, hR.thrown 0, up_eq rfl rfl⟩
      · unfold Ret
        simp (disch := first | omega | ((simp (disch := omega) only [up_ne, up_eq, up_nj, gf_ne, gf_in]) <;> omega)) only [reduceIte, Bool.false_eq_true, if_pos, if_neg, up_ne, up_eq, up_nj, gf_ne, gf_in, and_self, true_and, and_true, p_63_0, p_63_1, p_63_2, q_63_4, p_63_7, p_63_10, p_63_11, p_63_14, q_63_15, p_63_18, p_63_21, p_63_22, p_63_23, p_63_24, p_63_27, p_63_30, p_63_31, p_63_32, p_63_35, p_63_38, p_63_39, p_63_40, p_63_41, q_63_42, p_63_45, p_63_46, p_63_47]
      · unfold Ret
        simp (disch := first | omega | ((simp (disch := omega) only [up_ne, up_eq, up_nj, gf_ne, gf_in]) <;> omega)) only [reduceIte, Bool.false_eq_true, if_pos, if_neg, up_ne, up_eq, up_nj, gf_ne, gf_in, and_self, true_and, and_true, p_106_0, p_106_1, p_106_2, p_106_5, p_106_6, p_106_7, q_106_9, p_106_12, p_106_15, p_106_16, q_106_17, p_106_20, p_106_23, p_106_24, p_106_25, p_106_26, p_106_29, p_106_31, p_106_32, p_106_33, p_106_34, p_106_35, p_106_36, p_106_37, p_106_38]
  · refine ⟨some (vI (0)), G, am_up G 54 25 0, ?_, ?_, hR.thrown 0, up_eq rfl rfl⟩
    · unfold Ret
      simp (disch := first | omega | ((simp (disch := omega) only [up_ne, up_eq, up_nj, gf_ne, gf_in]) <;> omega)) only [reduceIte, Bool.false_eq_true, if_pos, if_neg, up_ne, up_eq, up_nj, gf_ne, gf_in, and_self, true_and, and_true, p_63_0, p_63_1, p_63_2, q_63_4, p_63_7, p_63_10, p_63_11, p_63_14, q_63_15, p_63_18, p_63_21, p_63_22, p_63_23, p_63_24, p_63_27, p_63_30, p_63_31, p_63_32, p_63_35, p_63_38, p_63_39, p_63_40, p_63_41, q_63_42, p_63_45, p_63_46, p_63_47]
    · unfold Ret
      simp (disch := first | omega | ((simp (disch := omega) only [up_ne, up_eq, up_nj, gf_ne, gf_in]) <;> omega)) only [reduceIte, Bool.false_eq_true, if_pos, if_neg, up_ne, up_eq, up_nj, gf_ne, gf_in, and_self, true_and, and_true, p_106_0, p_106_1, p_106_2, p_106_5, p_106_6, p_106_7, q_106_9, p_106_12, p_106_15, p_106_16, q_106_17, p_106_20, p_106_23, p_106_24, p_106_25, p_106_26, p_106_29, p_106_31, p_106_32, p_106_33, p_106_34, p_106_35, p_106_36, p_106_37, p_106_38]
theorem c_addP {d : Nat} {G : AG} {x0 x1 x2 x3 : Int} (h0 : 0 ≤ G 33 9) (h1 : G 33 9 < 10) (h2 : 0 ≤ G 33 8) (h3 : G 33 8 < 1024) (h4 : x3 = 0 ∨ x3 = 1) : Ret (d + 1) 13 [vR 33, vI x0, vI x1, vI x2, vI x3] G (some (vI (G 33 9 + 1 - 1))) (am_up (am_up (am_up (am_up (am_up (am_up G 34 (G 33 9) x0) 35 (G 33 9) x1) 36 (G 33 9) x2) 37 (G 33 9) (-1)) 33 8 (wb (G 33 8) (G 33 9) (decide (x3 = 1)))) 33 9 (G 33 9 + 1)) := by
  unfold Ret
  simp (disch := first | omega | ((simp (disch := omega) only [up_ne, up_eq, up_nj, gf_ne, gf_in]) <;> omega)) only [reduceIte, Bool.false_eq_true, if_pos, if_neg, up_ne, up_eq, up_nj, gf_ne, gf_in, and_self, true_and, and_true, p_13_0, p_13_1, p_13_4, p_13_6, p_13_9, p_13_10, p_13_11, p_13_12, p_13_15, p_13_16, p_13_19, p_13_20, p_13_21, p_13_22, p_13_25, p_13_26, p_13_29, p_13_30, p_13_31, p_13_32, p_13_35, p_13_36, p_13_39, p_13_40, p_13_41, p_13_42, p_13_45, p_13_46, p_13_49, p_13_50, p_13_51, p_13_52, p_13_53, p_13_56, p_13_57, p_13_60, q_13_62, p_13_65, p_13_68, p_13_69, p_13_70, p_13_73, p_13_74, p_13_75, p_13_78, p_13_79, p_13_82, p_13_83, p_13_84]
theorem q_58_42 {d : Nat} {G : AG} {Q : Option AV → AG → Prop} {x0 x1 x2 x3 : Int} {l0 l1 l2 l3 l4 : AV} (h0 : 0 ≤ G 33 9) (h1 : G 33 9 < 10) (h2 : 0 ≤ G 33 8) (h3 : G 33 8 < 1024) (h4 : x3 = 0 ∨ x3 = 1) : Ends (d + 2) 58 42 [l0, l1, l2, l3, l4] (vI x3 :: vI x2 :: vI x1 :: vI x0 :: vR 33 :: []) G Q ↔ Ends (d + 2) 58 45 [l0, l1, l2, l3, l4] (vI (G 33 9 + 1 - 1) :: []) (am_up (am_up (am_up (am_up (am_up (am_up G 34 (G 33 9) x0) 35 (G 33 9) x1) 36 (G 33 9) x2) 37 (G 33 9) (-1)) 33 8 (wb (G 33 8) (G 33 9) (decide (x3 = 1)))) 33 9 (G 33 9 + 1)) Q := p_58_42 (d := d + 1) (c_addP (d := d + 0) h0 h1 h2 h3 h4)
theorem c_addP0 {d : Nat} {G : AG} {x y z w : Int} (h : G 33 9 = 10) : Ret d 13 [vR 33, vI x, vI y, vI z, vI w] G (some (vI (-1))) G := by
  unfold Ret
  simp (disch := first | omega | ((simp (disch := omega) only [up_ne, up_eq, up_nj, gf_ne, gf_in]) <;> omega)) only [reduceIte, Bool.false_eq_true, if_pos, if_neg, up_ne, up_eq, up_nj, gf_ne, gf_in, and_self, true_and, and_true, p_13_0, p_13_1, p_13_4, p_13_6, p_13_9, p_13_10, p_13_11, p_13_12, p_13_15, p_13_16, p_13_19, p_13_20, p_13_21, p_13_22, p_13_25, p_13_26, p_13_29, p_13_30, p_13_31, p_13_32, p_13_35, p_13_36, p_13_39, p_13_40, p_13_41, p_13_42, p_13_45, p_13_46, p_13_49, p_13_50, p_13_51, p_13_52, p_13_53, p_13_56, p_13_57, p_13_60, q_13_62, p_13_65, p_13_68, p_13_69, p_13_70, p_13_73, p_13_74, p_13_75, p_13_78, p_13_79, p_13_82, p_13_83, p_13_84]
theorem pair_piece {G : AG} (hR : Rel G) {x y z w : Int} (hx : -2147483648 ≤ x ∧ x < 2147483648) (hy : -2147483648 ≤ y ∧ y < 2147483648) (hz : -2147483648 ≤ z ∧ z < 2147483648) (hw : w = 0 ∨ w = 1) : Pair 58 95 [vI x, vI y, vI z, vI w] [vI x, vI y, vI z, vI w] G := by
  obtain ⟨hm0, hm1, hm2, hm3, hm4, hm5, hm6⟩ := id hR.1
  obtain ⟨hc1, hc2, hc3, hc4, hc5, hc6, hc7, hc8, hc9, hc10, hc11, hc12, hc13⟩ := id hR.2.2.2.1
  by_cases a : 0 ≤ x ∧ x < G 0 2
  · by_cases b : 1 ≤ y ∧ y ≤ 90
    · by_cases c : 0 ≤ z ∧ z ≤ 100
      · by_cases e : G 33 9 < 10
        · refine ⟨some (vI (G 33 9 + 1 - 1)), am_up (am_up (am_up (am_up (am_up (am_up G 34 (G 33 9) x) 35 (G 33 9) y) 36 (G 33 9) z) 37 (G 33 9) (-1)) 33 8 (wb (G 33 8) (G 33 9) (decide (w = 1)))) 33 9 (G 33 9 + 1),
            am_up (am_up (am_up (am_up (am_up (am_up (am_up (am_up (am_up (am_up (am_up (am_up (am_up G 34 (G 33 9) x) 35 (G 33 9) y) 36 (G 33 9) z) 37 (G 33 9) (-1)) 33 8 (wb (G 33 8) (G 33 9) (decide (w = 1)))) 33 9 (G 33 9 + 1)) 54 25 0) 63 (G 33 9) x) 64 (G 33 9) y) 65 (G 33 9) z) 66 (G 33 9) w) 67 (G 33 9) (-1)) 54 19 (G 33 9 + 1), ?_, ?_, ⟨?_, ?_, ?_, ?_, ?_⟩, ?_⟩
          · unfold Ret
            simp (disch := first | omega | ((simp (disch := omega) only [up_ne, up_eq, up_nj, gf_ne, gf_in]) <;> omega)) only [reduceIte, Bool.false_eq_true, if_pos, if_neg, up_ne, up_eq, up_nj, gf_ne, gf_in, and_self, true_and, and_true, p_58_0, p_58_1, p_58_4, q_58_5, p_58_8, p_58_11, p_58_12, p_58_13, q_58_15, p_58_18, p_58_21, p_58_22, p_58_23, q_58_25, p_58_28, p_58_31, p_58_32, p_58_33, p_58_34, p_58_37, p_58_38, p_58_39, p_58_40, q_58_42, p_58_45]
          · unfold Ret
            simp (disch := first | omega | ((simp (disch := omega) only [up_ne, up_eq, up_nj, gf_ne, gf_in]) <;> omega)) only [reduceIte, Bool.false_eq_true, if_pos, if_neg, up_ne, up_eq, up_nj, gf_ne, gf_in, and_self, true_and, and_true, p_95_0, p_95_1, p_95_2, p_95_5, p_95_6, q_95_7, p_95_10, p_95_13, p_95_14, p_95_15, q_95_17, p_95_20, p_95_23, p_95_24, p_95_25, q_95_27, p_95_30, p_95_33, p_95_34, p_95_37, p_95_39, p_95_42, p_95_43, p_95_44, p_95_45, p_95_48, p_95_49, p_95_52, p_95_53, p_95_54, p_95_55, p_95_58, p_95_59, p_95_62, p_95_63, p_95_64, p_95_65, p_95_68, p_95_69, p_95_72, p_95_73, p_95_74, p_95_75, p_95_78, p_95_79, p_95_82, p_95_84, p_95_85, p_95_86, p_95_89, p_95_90, p_95_93, p_95_94, p_95_95, p_95_96, p_95_97, p_95_100, p_95_101, p_95_102, p_95_105, p_95_106, p_95_109, p_95_110, p_95_111, hc3, hm2]
          · refine hR.1.cong ?_ ?_ ?_ ?_ ?_ ?_ ?_
            all_goals (first | (funext j; simp (disch := first | omega | ((simp (disch := omega) only [up_ne, up_eq, up_nj, gf_ne, gf_in]) <;> omega)) only [reduceIte, Bool.false_eq_true, if_pos, if_neg, up_ne, up_eq, up_nj, gf_ne, gf_in, and_self, true_and, and_true]; done) | (simp (disch := first | omega | ((simp (disch := omega) only [up_ne, up_eq, up_nj, gf_ne, gf_in]) <;> omega)) only [reduceIte, Bool.false_eq_true, if_pos, if_neg, up_ne, up_eq, up_nj, gf_ne, gf_in, and_self, true_and, and_true]; done) | (simp (disch := first | omega | ((simp (disch := omega) only [up_ne, up_eq, up_nj, gf_ne, gf_in]) <;> omega)) only [reduceIte, Bool.false_eq_true, if_pos, if_neg, up_ne, up_eq, up_nj, gf_ne, gf_in, and_self, true_and, and_true]; omega) | omega)
          · refine hR.2.1.cong ?_ ?_ ?_ ?_ (fun a _ _ => ?_) ?_ ?_ ?_ ?_ ?_
            all_goals (first | (funext j; simp (disch := first | omega | ((simp (disch := omega) only [up_ne, up_eq, up_nj, gf_ne, gf_in]) <;> omega)) only [reduceIte, Bool.false_eq_true, if_pos, if_neg, up_ne, up_eq, up_nj, gf_ne, gf_in, and_self, true_and, and_true]; done) | (simp (disch := first | omega | ((simp (disch := omega) only [up_ne, up_eq, up_nj, gf_ne, gf_in]) <;> omega)) only [reduceIte, Bool.false_eq_true, if_pos, if_neg, up_ne, up_eq, up_nj, gf_ne, gf_in, and_self, true_and, and_true]; done) | (simp (disch := first | omega | ((simp (disch := omega) only [up_ne, up_eq, up_nj, gf_ne, gf_in]) <;> omega)) only [reduceIte, Bool.false_eq_true, if_pos, if_neg, up_ne, up_eq, up_nj, gf_ne, gf_in, and_self, true_and, and_true]; omega) | omega)
          · refine hR.2.2.1.cong ?_ ?_ ?_ ?_ ?_ ?_ ?_ ?_ ?_
            all_goals (first | (funext j; simp (disch := first | omega | ((simp (disch := omega) only [up_ne, up_eq, up_nj, gf_ne, gf_in]) <;> omega)) only [reduceIte, Bool.false_eq_true, if_pos, if_neg, up_ne, up_eq, up_nj, gf_ne, gf_in, and_self, true_and, and_true]; done) | (simp (disch := first | omega | ((simp (disch := omega) only [up_ne, up_eq, up_nj, gf_ne, gf_in]) <;> omega)) only [reduceIte, Bool.false_eq_true, if_pos, if_neg, up_ne, up_eq, up_nj, gf_ne, gf_in, and_self, true_and, and_true]; done) | (simp (disch := first | omega | ((simp (disch := omega) only [up_ne, up_eq, up_nj, gf_ne, gf_in]) <;> omega)) only [reduceIte, Bool.false_eq_true, if_pos, if_neg, up_ne, up_eq, up_nj, gf_ne, gf_in, and_self, true_and, and_true]; omega) | omega)
          · unfold RC
            simp (disch := first | omega | ((simp (disch := omega) only [up_ne, up_eq, up_nj, gf_ne, gf_in]) <;> omega)) only [reduceIte, Bool.false_eq_true, if_pos, if_neg, up_ne, up_eq, up_nj, gf_ne, gf_in, and_self, true_and, and_true]
            have w1 := wb_nonneg (G 33 8) (G 33 9) (decide (w = 1))
            have w3 : wb (G 33 8) (G 33 9) (decide (w = 1)) < ((2 ^ 10 : Nat) : Int) := wb_lt (by omega) (show G 33 8 < ((2 ^ 10 : Nat) : Int) by omega) (by omega) (by omega)
            refine ⟨by omega, by omega, hc4, hc5, hc6, w1, w3, hc9, hc10, hc11, fun i q1 q2 => ?_, hc13⟩
            obtain ⟨k1, k2, k3, k4, k5, k6, k7, k8, k9, k10, k11, k12⟩ := hc12 i q1 q2
            rw [tb_wb hc1 q1]
            by_cases f : i = G 33 9
            · simp (disch := first | omega | ((simp (disch := omega) only [up_ne, up_eq, up_nj, gf_ne, gf_in]) <;> omega)) only [reduceIte, Bool.false_eq_true, if_pos, if_neg, up_ne, up_eq, up_nj, gf_ne, gf_in, and_self, true_and, and_true]
              exact ⟨by omega, by omega, by omega, by omega, by omega, by omega, by rcases hw with rfl | rfl <;> simp, fun _ => a⟩
            · simp (disch := first | omega | ((simp (disch := omega) only [up_ne, up_eq, up_nj, gf_ne, gf_in]) <;> omega)) only [reduceIte, Bool.false_eq_true, if_pos, if_neg, up_ne, up_eq, up_nj, gf_ne, gf_in, and_self, true_and, and_true]
              exact ⟨k1, k2, k3, k4, k5, k6, k7, k8, k9, k10, k11, fun q => k12 (by omega)⟩
          · refine hR.2.2.2.2.cong ?_ ?_ ?_ (fun a _ _ => ?_) ?_ ?_ ?_
            all_goals (first | (funext j; simp (disch := first | omega | ((simp (disch := omega) only [up_ne, up_eq, up_nj, gf_ne, gf_in]) <;> omega)) only [reduceIte, Bool.false_eq_true, if_pos, if_neg, up_ne, up_eq, up_nj, gf_ne, gf_in, and_self, true_and, and_true]; done) | (simp (disch := first | omega | ((simp (disch := omega) only [up_ne, up_eq, up_nj, gf_ne, gf_in]) <;> omega)) only [reduceIte, Bool.false_eq_true, if_pos, if_neg, up_ne, up_eq, up_nj, gf_ne, gf_in, and_self, true_and, and_true]; done) | (simp (disch := first | omega | ((simp (disch := omega) only [up_ne, up_eq, up_nj, gf_ne, gf_in]) <;> omega)) only [reduceIte, Bool.false_eq_true, if_pos, if_neg, up_ne, up_eq, up_nj, gf_ne, gf_in, and_self, true_and, and_true]; omega) | omega)
          · simp (disch := first | omega | ((simp (disch := omega) only [up_ne, up_eq, up_nj, gf_ne, gf_in]) <;> omega)) only [reduceIte, Bool.false_eq_true, if_pos, if_neg, up_ne, up_eq, up_nj, gf_ne, gf_in, and_self, true_and, and_true]
        · refine ⟨some (vI (-1)), G, am_up G 54 25 0, ?_, ?_, hR.thrown 0, up_eq rfl rfl⟩
          · unfold Ret
            simp (disch := first | omega | ((simp (disch := omega) only [up_ne, up_eq, up_nj, gf_ne, gf_in]) <;> omega)) only [reduceIte, Bool.false_eq_true, if_pos, if_neg, up_ne, up_eq, up_nj, gf_ne, gf_in, and_self, true_and, and_true, p_58_0, p_58_1, p_58_4, q_58_5, p_58_8, p_58_11, p_58_12, p_58_13, q_58_15, p_58_18, p_58_21, p_58_22, p_58_23, q_58_25, p_58_28, p_58_31, p_58_32, p_58_33, p_58_34, p_58_37, p_58_38, p_58_39, p_58_40, p_58_45]
            rw [p_58_42 (c_addP0 (by omega))]
            simp (disch := first | omega | ((simp (disch := omega) only [up_ne, up_eq, up_nj, gf_ne, gf_in]) <;> omega)) only [reduceIte, Bool.false_eq_true, if_pos, if_neg, up_ne, up_eq, up_nj, gf_ne, gf_in, and_self, true_and, and_true, p_58_0, p_58_1, p_58_4, q_58_5, p_58_8, p_58_11, p_58_12, p_58_13, q_58_15, p_58_18, p_58_21, p_58_22, p_58_23, q_58_25, p_58_28, p_58_31, p_58_32, p_58_33, p_58_34, p_58_37, p_58_38, p_58_39, p_58_40, q_58_42, p_58_45]
          · unfold Ret
            simp (disch := first | omega | ((simp (disch := omega) only [up_ne, up_eq, up_nj, gf_ne, gf_in]) <;> omega)) only [reduceIte, Bool.false_eq_true, if_pos, if_neg, up_ne, up_eq, up_nj, gf_ne, gf_in, and_self, true_and, and_true, p_95_0, p_95_1, p_95_2, p_95_5, p_95_6, q_95_7, p_95_10, p_95_13, p_95_14, p_95_15, q_95_17, p_95_20, p_95_23, p_95_24, p_95_25, q_95_27, p_95_30, p_95_33, p_95_34, p_95_37, p_95_39, p_95_42, p_95_43, p_95_44, p_95_45, p_95_48, p_95_49, p_95_52, p_95_53, p_95_54, p_95_55, p_95_58, p_95_59, p_95_62, p_95_63, p_95_64, p_95_65, p_95_68, p_95_69, p_95_72, p_95_73, p_95_74, p_95_75, p_95_78, p_95_79, p_95_82, p_95_84, p_95_85, p_95_86, p_95_89, p_95_90, p_95_93, p_95_94, p_95_95, p_95_96, p_95_97, p_95_100, p_95_101, p_95_102, p_95_105, p_95_106, p_95_109, p_95_110, p_95_111]
      · refine ⟨some (vI (-1)), G, am_up G 54 25 0, ?_, ?_, hR.thrown 0, up_eq rfl rfl⟩
        · unfold Ret
          simp (disch := first | omega | ((simp (disch := omega) only [up_ne, up_eq, up_nj, gf_ne, gf_in]) <;> omega)) only [reduceIte, Bool.false_eq_true, if_pos, if_neg, up_ne, up_eq, up_nj, gf_ne, gf_in, and_self, true_and, and_true, p_58_0, p_58_1, p_58_4, q_58_5, p_58_8, p_58_11, p_58_12, p_58_13, q_58_15, p_58_18, p_58_21, p_58_22, p_58_23, q_58_25, p_58_28, p_58_31, p_58_32, p_58_33, p_58_34, p_58_37, p_58_38, p_58_39, p_58_40, q_58_42, p_58_45]
        · unfold Ret
          simp (disch := first | omega | ((simp (disch := omega) only [up_ne, up_eq, up_nj, gf_ne, gf_in]) <;> omega)) only [reduceIte, Bool.false_eq_true, if_pos, if_neg, up_ne, up_eq, up_nj, gf_ne, gf_in, and_self, true_and, and_true, p_95_0, p_95_1, p_95_2, p_95_5, p_95_6, q_95_7, p_95_10, p_95_13, p_95_14, p_95_15, q_95_17, p_95_20, p_95_23, p_95_24, p_95_25, q_95_27, p_95_30, p_95_33, p_95_34, p_95_37, p_95_39, p_95_42, p_95_43, p_95_44, p_95_45, p_95_48, p_95_49, p_95_52, p_95_53, p_95_54, p_95_55, p_95_58, p_95_59, p_95_62, p_95_63, p_95_64, p_95_65, p_95_68, p_95_69, p_95_72, p_95_73, p_95_74, p_95_75, p_95_78, p_95_79, p_95_82, p_95_84, p_95_85, p_95_86, p_95_89, p_95_90, p_95_93, p_95_94, p_95_95, p_95_96, p_95_97, p_95_100, p_95_101, p_95_102, p_95_105, p_95_106, p_95_109, p_95_110, p_95_111]
    · refine ⟨some (vI (-1)), G, am_up G 54 25 0, ?_, ?_, hR.thrown 0, up_eq rfl rfl⟩
      · unfold Ret
        simp (disch := first | omega | ((simp (disch := omega) only [up_ne, up_eq, up_nj, gf_ne, gf_in]) <;> omega)) only [reduceIte, Bool.false_eq_true, if_pos, if_neg, up_ne, up_eq, up_nj, gf_ne, gf_in, and_self, true_and, and_true, p_58_0, p_58_1, p_58_4, q_58_5, p_58_8, p_58_11, p_58_12, p_58_13, q_58_15, p_58_18, p_58_21, p_58_22, p_58_23, q_58_25, p_58_28, p_58_31, p_58_32, p_58_33, p_58_34, p_58_37, p_58_38, p_58_39, p_58_40, q_58_42, p_58_45]
      · unfold Ret
        simp (disch := first | omega | ((simp (disch := omega) only [up_ne, up_eq, up_nj, gf_ne, gf_in]) <;> omega)) only [reduceIte, Bool.false_eq_true, if_pos, if_neg, up_ne, up_eq, up_nj, gf_ne, gf_in, and_self, true_and, and_true, p_95_0, p_95_1, p_95_2, p_95_5, p_95_6, q_95_7, p_95_10, p_95_13, p_95_14, p_95_15, q_95_17, p_95_20, p_95_23, p_95_24, p_95_25, q_95_27, p_95_30, p_95_33, p_95_34, p_95_37, p_95_39, p_95_42, p_95_43, p_95_44, p_95_45, p_95_48, p_95_49, p_95_52, p_95_53, p_95_54, p_95_55, p_95_58, p_95_59, p_95_62, p_95_63, p_95_64, p_95_65, p_95_68, p_95_69, p_95_72, p_95_73, p_95_74, p_95_75, p_95_78, p_95_79, p_95_82, p_95_84, p_95_85, p_95_86, p_95_89, p_95_90, p_95_93, p_95_94, p_95_95, p_95_96, p_95_97, p_95_100, p_95_101, p_95_102, p_95_105, p_95_106, p_95_109, p_95_110, p_95_111]
  · refine ⟨some (vI (-1)), G, am_up G 54 25 0, ?_, ?_, hR.thrown 0, up_eq rfl rfl⟩
    · unfold Ret
      simp (disch := first | omega | ((simp (disch := omega) only [up_ne, up_eq, up_nj, gf_ne, gf_in]) <;> omega)) only [reduceIte, Bool.false_eq_true, if_pos, if_neg, up_ne, up_eq, up_nj, gf_ne, gf_in, and_self, true_and, and_true, p_58_0, p_58_1, p_58_4, q_58_5, p_58_8, p_58_11, p_58_12, p_58_13, q_58_15, p_58_18, p_58_21, p_58_22, p_58_23, q_58_25, p_58_28, p_58_31, p_58_32, p_58_33, p_58_34, p_58_37, p_58_38, p_58_39, p_58_40, q_58_42, p_58_45]
    · unfold Ret
      simp (disch := first | omega | ((simp (disch := omega) only [up_ne, up_eq, up_nj, gf_ne, gf_in]) <;> omega)) only [reduceIte, Bool.false_eq_true, if_pos, if_neg, up_ne, up_eq, up_nj, gf_ne, gf_in, and_self, true_and, and_true, p_95_0, p_95_1, p_95_2, p_95_5, p_95_6, q_95_7, p_95_10, p_95_13, p_95_14, p_95_15, q_95_17, p_95_20, p_95_23, p_95_24, p_95_25, q_95_27, p_95_30, p_95_33, p_95_34, p_95_37, p_95_39, p_95_42, p_95_43, p_95_44, p_95_45, p_95_48, p_95_49, p_95_52, p_95_53, p_95_54, p_95_55, p_95_58, p_95_59, p_95_62, p_95_63, p_95_64, p_95_65, p_95_68, p_95_69, p_95_72, p_95_73, p_95_74, p_95_75, p_95_78, p_95_79, p_95_82, p_95_84, p_95_85, p_95_86, p_95_89, p_95_90, p_95_93, p_95_94, p_95_95, p_95_96, p_95_97, p_95_100, p_95_101, p_95_102, p_95_105, p_95_106, p_95_109, p_95_110, p_95_111]
