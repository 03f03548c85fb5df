/-! the calls that tell: artist, like, rival, ill, set -/
theorem c_addA {d : Nat} {G : AG} {x0 : Int} (h0 : 0 ≤ G 3 4) (h1 : G 3 4 < 6) : Ret (d + 0) 1 [vR 3, vI x0] G (some (vI (G 3 4 + 1 - 1))) (am_up (am_up G 4 (G 3 4) x0) 3 4 (G 3 4 + 1)) := by
  unfold Ret
  simp (disch := first | omega | ((simp (disch := omega) only [up_ne, up_eq, up_nj]) <;> omega)) only [reduceIte, Bool.false_eq_true, if_pos, if_neg, up_ne, up_eq, up_nj, and_self, true_and, and_true, p_1_0, p_1_1, p_1_4, p_1_6, p_1_9, p_1_10, p_1_11, p_1_12, p_1_15, p_1_16, p_1_19, p_1_20, p_1_21, p_1_22, p_1_23, p_1_26, p_1_27, p_1_28, p_1_31, p_1_32, p_1_35, p_1_36, p_1_37]
theorem q_46_15 {d : Nat} {G : AG} {Q : Option AV → AG → Prop} {x0 : Int} {l0 l1 : AV} (h0 : 0 ≤ G 3 4) (h1 : G 3 4 < 6) : Ends (d + 1) 46 15 [l0, l1] (vI x0 :: vR 3 :: []) G Q ↔ Ends (d + 1) 46 18 [l0, l1] (vI (G 3 4 + 1 - 1) :: []) (am_up (am_up G 4 (G 3 4) x0) 3 4 (G 3 4 + 1)) Q := p_46_15 (d := d + 0) (c_addA (d := d + 0) h0 h1)
theorem c_addA0 {d : Nat} {G : AG} {x : Int} (h : G 3 4 = 6) : Ret d 1 [vR 3, vI x] G (some (vI (-1))) G := by
  unfold Ret
  simp (disch := first | omega | ((simp (disch := omega) only [up_ne, up_eq, up_nj]) <;> omega)) only [reduceIte, Bool.false_eq_true, if_pos, if_neg, up_ne, up_eq, up_nj, and_self, true_and, and_true, p_1_0, p_1_1, p_1_4, p_1_6, p_1_9, p_1_10, p_1_11, p_1_12, p_1_15, p_1_16, p_1_19, p_1_20, p_1_21, p_1_22, p_1_23, p_1_26, p_1_27, p_1_28, p_1_31, p_1_32, p_1_35, p_1_36, p_1_37]
theorem pair_artist {G : AG} (hR : Rel G) {x : Int} (hx : -2147483648 ≤ x ∧ x < 2147483648) : Pair 46 75 [vI x] [vI x] G := by
  obtain ⟨ha0, ha1, ha2, ha3, ha4, ha5, ha6⟩ := id hR.2.1
  by_cases a : 1 ≤ x ∧ x ≤ 9
  · by_cases c : G 3 4 < 6
    · refine ⟨some (vI (G 3 4 + 1 - 1)), am_up (am_up G 4 (G 3 4) x) 3 4 (G 3 4 + 1), am_up (am_up (am_up (am_up (am_up G 4 (G 3 4) x) 3 4 (G 3 4 + 1)) 54 25 0) 57 (G 3 4) x) 54 7 (G 3 4 + 1), ?_, ?_, ⟨?_, ?_, ?_, ?_, ?_⟩, ?_⟩
      · unfold Ret
        simp (disch := first | omega | ((simp (disch := omega) only [up_ne, up_eq, up_nj]) <;> omega)) only [reduceIte, Bool.false_eq_true, if_pos, if_neg, up_ne, up_eq, up_nj, and_self, true_and, and_true, p_46_0, p_46_1, p_46_2, q_46_4, p_46_7, p_46_10, p_46_11, p_46_14, q_46_15, p_46_18, p_46_21, p_46_22]
      · unfold Ret
        simp (disch := first | omega | ((simp (disch := omega) only [up_ne, up_eq, up_nj]) <;> omega)) only [reduceIte, Bool.false_eq_true, if_pos, if_neg, up_ne, up_eq, up_nj, and_self, true_and, and_true, p_75_0, p_75_1, p_75_2, p_75_5, p_75_6, p_75_7, q_75_9, p_75_12, p_75_15, p_75_16, p_75_19, p_75_21, p_75_24, p_75_25, p_75_26, p_75_27, p_75_30, p_75_31, p_75_34, p_75_35, p_75_36, p_75_37, p_75_38, p_75_41, p_75_42, p_75_43, p_75_46, p_75_47, p_75_50, p_75_51, p_75_52, ha2]
      · refine hR.1.cong ?_ ?_ ?_ ?_ ?_ ?_ ?_
        all_goals (first | (funext j; simp (disch := first | omega | ((simp (disch := omega) only [up_ne, up_eq, up_nj]) <;> omega)) only [reduceIte, Bool.false_eq_true, if_pos, if_neg, up_ne, up_eq, up_nj, and_self, true_and, and_true]; done) | (simp (disch := first | omega | ((simp (disch := omega) only [up_ne, up_eq, up_nj]) <;> omega)) only [reduceIte, Bool.false_eq_true, if_pos, if_neg, up_ne, up_eq, up_nj, and_self, true_and, and_true]; done) | (simp (disch := first | omega | ((simp (disch := omega) only [up_ne, up_eq, up_nj]) <;> omega)) only [reduceIte, Bool.false_eq_true, if_pos, if_neg, up_ne, up_eq, up_nj, and_self, true_and, and_true]; omega) | omega)
      · unfold RA
        simp (disch := first | omega | ((simp (disch := omega) only [up_ne, up_eq, up_nj]) <;> omega)) only [reduceIte, Bool.false_eq_true, if_pos, if_neg, up_ne, up_eq, up_nj, and_self, true_and, and_true]
        refine ⟨by omega, by omega, by omega, by omega, fun i q1 q2 => ?_, fun a b q1 q2 q3 q4 => ?_⟩
        · obtain ⟨g1, g2, g3, g4, g5, g6⟩ := ha5 i q1 q2
          by_cases e : i = G 3 4
          · simp (disch := first | omega | ((simp (disch := omega) only [up_ne, up_eq, up_nj]) <;> omega)) only [reduceIte, Bool.false_eq_true, if_pos, if_neg, up_ne, up_eq, up_nj, and_self, true_and, and_true]
            exact ⟨by omega, by omega, g4, g5, g6⟩
          · simp (disch := first | omega | ((simp (disch := omega) only [up_ne, up_eq, up_nj]) <;> omega)) only [reduceIte, Bool.false_eq_true, if_pos, if_neg, up_ne, up_eq, up_nj, and_self, true_and, and_true]
            exact ⟨g1, g2, g3, g4, g5, g6⟩
        · obtain ⟨g1, g2, g3, g4, g5, g6⟩ := ha6 a b q1 q2 q3 q4
          simp (disch := first | omega | ((simp (disch := omega) only [up_ne, up_eq, up_nj]) <;> omega)) only [reduceIte, Bool.false_eq_true, if_pos, if_neg, up_ne, up_eq, up_nj, and_self, true_and, and_true]
          exact ⟨g1, g2, g3, fun q => by have := g4 q; omega, g5, g6⟩
      · refine hR.2.2.1.cong ?_ ?_ ?_ ?_ ?_ ?_ ?_ ?_ ?_
        all_goals (first | (funext j; simp (disch := first | omega | ((simp (disch := omega) only [up_ne, up_eq, up_nj]) <;> omega)) only [reduceIte, Bool.false_eq_true, if_pos, if_neg, up_ne, up_eq, up_nj, and_self, true_and, and_true]; done) | (simp (disch := first | omega | ((simp (disch := omega) only [up_ne, up_eq, up_nj]) <;> omega)) only [reduceIte, Bool.false_eq_true, if_pos, if_neg, up_ne, up_eq, up_nj, and_self, true_and, and_true]; done) | (simp (disch := first | omega | ((simp (disch := omega) only [up_ne, up_eq, up_nj]) <;> omega)) only [reduceIte, Bool.false_eq_true, if_pos, if_neg, up_ne, up_eq, up_nj, and_self, true_and, and_true]; omega) | omega)
      · refine hR.2.2.2.1.cong ?_ ?_ ?_ ?_ ?_ ?_ ?_ ?_ ?_ ?_ ?_ ?_ ?_ ?_ ?_ ?_
        all_goals (first | (funext j; simp (disch := first | omega | ((simp (disch := omega) only [up_ne, up_eq, up_nj]) <;> omega)) only [reduceIte, Bool.false_eq_true, if_pos, if_neg, up_ne, up_eq, up_nj, and_self, true_and, and_true]; done) | (simp (disch := first | omega | ((simp (disch := omega) only [up_ne, up_eq, up_nj]) <;> omega)) only [reduceIte, Bool.false_eq_true, if_pos, if_neg, up_ne, up_eq, up_nj, and_self, true_and, and_true]; done) | (simp (disch := first | omega | ((simp (disch := omega) only [up_ne, up_eq, up_nj]) <;> omega)) only [reduceIte, Bool.false_eq_true, if_pos, if_neg, up_ne, up_eq, up_nj, and_self, true_and, and_true]; omega) | omega)
      · refine hR.2.2.2.2.cong ?_ ?_ ?_ (fun a _ _ => ?_) ?_ ?_ ?_
        all_goals (first | (funext j; simp (disch := first | omega | ((simp (disch := omega) only [up_ne, up_eq, up_nj]) <;> omega)) only [reduceIte, Bool.false_eq_true, if_pos, if_neg, up_ne, up_eq, up_nj, and_self, true_and, and_true]; done) | (simp (disch := first | omega | ((simp (disch := omega) only [up_ne, up_eq, up_nj]) <;> omega)) only [reduceIte, Bool.false_eq_true, if_pos, if_neg, up_ne, up_eq, up_nj, and_self, true_and, and_true]; done) | (simp (disch := first | omega | ((simp (disch := omega) only [up_ne, up_eq, up_nj]) <;> omega)) only [reduceIte, Bool.false_eq_true, if_pos, if_neg, up_ne, up_eq, up_nj, and_self, true_and, and_true]; omega) | omega)
      · simp (disch := first | omega | ((simp (disch := omega) only [up_ne, up_eq, up_nj]) <;> omega)) only [reduceIte, Bool.false_eq_true, if_pos, if_neg, up_ne, up_eq, up_nj, and_self, true_and, and_true]
    · refine ⟨some (vI (-1)), G, am_up G 54 25 0, ?_, ?_, hR.thrown 0, up_eq rfl rfl⟩
      · unfold Ret
        simp (disch := first | omega | ((simp (disch := omega) only [up_ne, up_eq, up_nj]) <;> omega)) only [reduceIte, Bool.false_eq_true, if_pos, if_neg, up_ne, up_eq, up_nj, and_self, true_and, and_true, p_46_0, p_46_1, p_46_2, q_46_4, p_46_7, p_46_10, p_46_11, p_46_14, p_46_18, p_46_21, p_46_22]
        rw [p_46_15 (c_addA0 (by omega))]
        simp (disch := first | omega | ((simp (disch := omega) only [up_ne, up_eq, up_nj]) <;> omega)) only [reduceIte, Bool.false_eq_true, if_pos, if_neg, up_ne, up_eq, up_nj, and_self, true_and, and_true, p_46_0, p_46_1, p_46_2, q_46_4, p_46_7, p_46_10, p_46_11, p_46_14, q_46_15, p_46_18, p_46_21, p_46_22]
      · unfold Ret
        simp (disch := first | omega | ((simp (disch := omega) only [up_ne, up_eq, up_nj]) <;> omega)) only [reduceIte, Bool.false_eq_true, if_pos, if_neg, up_ne, up_eq, up_nj, and_self, true_and, and_true, p_75_0, p_75_1, p_75_2, p_75_5, p_75_6, p_75_7, q_75_9, p_75_12, p_75_15, p_75_16, p_75_19, p_75_21, p_75_24, p_75_25, p_75_26, p_75_27, p_75_30, p_75_31, p_75_34, p_75_35, p_75_36, p_75_37, p_75_38, p_75_41, p_75_42, p_75_43, p_75_46, p_75_47, p_75_50, p_75_51, p_75_52]
  · refine ⟨some (vI (-1)), G, am_up G 54 25 0, ?_, ?_, hR.thrown 0, up_eq rfl rfl⟩
    · unfold Ret
      simp (disch := first | omega | ((simp (disch := omega) only [up_ne, up_eq, up_nj]) <;> omega)) only [reduceIte, Bool.false_eq_true, if_pos, if_neg, up_ne, up_eq, up_nj, and_self, true_and, and_true, p_46_0, p_46_1, p_46_2, q_46_4, p_46_7, p_46_10, p_46_11, p_46_14, q_46_15, p_46_18, p_46_21, p_46_22]
    · unfold Ret
      simp (disch := first | omega | ((simp (disch := omega) only [up_ne, up_eq, up_nj]) <;> omega)) only [reduceIte, Bool.false_eq_true, if_pos, if_neg, up_ne, up_eq, up_nj, and_self, true_and, and_true, p_75_0, p_75_1, p_75_2, p_75_5, p_75_6, p_75_7, q_75_9, p_75_12, p_75_15, p_75_16, p_75_19, p_75_21, p_75_24, p_75_25, p_75_26, p_75_27, p_75_30, p_75_31, p_75_34, p_75_35, p_75_36, p_75_37, p_75_38, p_75_41, p_75_42, p_75_43, p_75_46, p_75_47, p_75_50, p_75_51, p_75_52]
theorem pair_like {G : AG} (hR : Rel G) {x y z : Int} (hx : -2147483648 ≤ x ∧ x < 2147483648) (hy : -2147483648 ≤ y ∧ y < 2147483648) (hz : -2147483648 ≤ z ∧ z < 2147483648) : Pair 47 76 [vI x, vI y, vI z] [vI x, vI y, vI z] G := by
  obtain ⟨hm0, hm1, hm2, hm3, hm4, hm5, hm6⟩ := id hR.1
  obtain ⟨ha0, ha1, ha2, ha3, ha4, ha5, ha6⟩ := id hR.2.1
  by_cases a : 0 ≤ x ∧ x < G 3 4
  · by_cases b : 0 ≤ y ∧ y < G 0 2
    · by_cases c : 0 ≤ z ∧ z ≤ 100
      · refine ⟨some (vI 1), am_up G (7 + x.toNat) y z, am_up (am_up (am_up G (7 + x.toNat) y z) 54 25 0) 59 (6 * x + y) z, ?_, ?_, ⟨?_, ?_, ?_, ?_, ?_⟩, ?_⟩
        · unfold Ret
          simp (disch := first | omega | ((simp (disch := omega) only [up_ne, up_eq, up_nj]) <;> omega)) only [reduceIte, Bool.false_eq_true, if_pos, if_neg, up_ne, up_eq, up_nj, and_self, true_and, and_true, p_47_0, p_47_1, p_47_4, q_47_5, p_47_8, p_47_11, p_47_12, p_47_15, q_47_16, p_47_19, p_47_22, p_47_23, p_47_24, q_47_26, p_47_29, p_47_32, p_47_33, p_47_34, p_47_35, p_47_38, p_47_41, p_47_42, p_47_43, p_47_44, p_47_45, p_47_46, p_47_47]
        · unfold Ret
          simp (disch := first | omega | ((simp (disch := omega) only [up_ne, up_eq, up_nj]) <;> omega)) only [reduceIte, Bool.false_eq_true, if_pos, if_neg, up_ne, up_eq, up_nj, and_self, true_and, and_true, p_76_0, p_76_1, p_76_2, p_76_5, p_76_6, q_76_7, p_76_10, p_76_13, p_76_14, q_76_15, p_76_18, p_76_21, p_76_22, p_76_23, q_76_25, p_76_28, p_76_31, p_76_32, p_76_33, p_76_34, p_76_37, p_76_39, p_76_40, p_76_41, p_76_42, p_76_43, p_76_44, p_76_45, p_76_46, ha2, hm2]
        · refine hR.1.cong ?_ ?_ ?_ ?_ ?_ ?_ ?_
          all_goals (first | (funext j; simp (disch := first | omega | ((simp (disch := omega) only [up_ne, up_eq, up_nj]) <;> omega)) only [reduceIte, Bool.false_eq_true, if_pos, if_neg, up_ne, up_eq, up_nj, and_self, true_and, and_true]; done) | (simp (disch := first | omega | ((simp (disch := omega) only [up_ne, up_eq, up_nj]) <;> omega)) only [reduceIte, Bool.false_eq_true, if_pos, if_neg, up_ne, up_eq, up_nj, and_self, true_and, and_true]; done) | (simp (disch := first | omega | ((simp (disch := omega) only [up_ne, up_eq, up_nj]) <;> omega)) only [reduceIte, Bool.false_eq_true, if_pos, if_neg, up_ne, up_eq, up_nj, and_self, true_and, and_true]; omega) | omega)
        · unfold RA
          simp (disch := first | omega | ((simp (disch := omega) only [up_ne, up_eq, up_nj]) <;> omega)) only [reduceIte, Bool.false_eq_true, if_pos, if_neg, up_ne, up_eq, up_nj, and_self, true_and, and_true]
          refine ⟨by omega, by omega, ha2, by omega, by omega, ha5, fun a b q1 q2 q3 q4 => ?_⟩
          obtain ⟨g1, g2, g3, g4, g5, g6⟩ := ha6 a b q1 q2 q3 q4
          by_cases e : a = x
          · by_cases e2 : b = y
            · simp (disch := first | omega | ((simp (disch := omega) only [up_ne, up_eq, up_nj]) <;> omega)) only [reduceIte, Bool.false_eq_true, if_pos, if_neg, up_ne, up_eq, up_nj, and_self, true_and, and_true]
              exact ⟨by omega, by omega, fun _ => by omega, g5, g6⟩
            · simp (disch := first | omega | ((simp (disch := omega) only [up_ne, up_eq, up_nj]) <;> omega)) only [reduceIte, Bool.false_eq_true, if_pos, if_neg, up_ne, up_eq, up_nj, and_self, true_and, and_true]
              exact ⟨g1, g2, g3, g4, g5, g6⟩
          · simp (disch := first | omega | ((simp (disch := omega) only [up_ne, up_eq, up_nj]) <;> omega)) only [reduceIte, Bool.false_eq_true, if_pos, if_neg, up_ne, up_eq, up_nj, and_self, true_and, and_true]
            exact ⟨g1, g2, g3, g4, g5, g6⟩
        · refine hR.2.2.1.cong ?_ ?_ ?_ ?_ ?_ ?_ ?_ ?_ ?_
          all_goals (first | (funext j; simp (disch := first | omega | ((simp (disch := omega) only [up_ne, up_eq, up_nj]) <;> omega)) only [reduceIte, Bool.false_eq_true, if_pos, if_neg, up_ne, up_eq, up_nj, and_self, true_and, and_true]; done) | (simp (disch := first | omega | ((simp (disch := omega) only [up_ne, up_eq, up_nj]) <;> omega)) only [reduceIte, Bool.false_eq_true, if_pos, if_neg, up_ne, up_eq, up_nj, and_self, true_and, and_true]; done) | (simp (disch := first | omega | ((simp (disch := omega) only [up_ne, up_eq, up_nj]) <;> omega)) only [reduceIte, Bool.false_eq_true, if_pos, if_neg, up_ne, up_eq, up_nj, and_self, true_and, and_true]; omega) | omega)
        · refine hR.2.2.2.1.cong ?_ ?_ ?_ ?_ ?_ ?_ ?_ ?_ ?_ ?_ ?_ ?_ ?_ ?_ ?_ ?_
          all_goals (first | (funext j; simp (disch := first | omega | ((simp (disch := omega) only [up_ne, up_eq, up_nj]) <;> omega)) only [reduceIte, Bool.false_eq_true, if_pos, if_neg, up_ne, up_eq, up_nj, and_self, true_and, and_true]; done) | (simp (disch := first | omega | ((simp (disch := omega) only [up_ne, up_eq, up_nj]) <;> omega)) only [reduceIte, Bool.false_eq_true, if_pos, if_neg, up_ne, up_eq, up_nj, and_self, true_and, and_true]; done) | (simp (disch := first | omega | ((simp (disch := omega) only [up_ne, up_eq, up_nj]) <;> omega)) only [reduceIte, Bool.false_eq_true, if_pos, if_neg, up_ne, up_eq, up_nj, and_self, true_and, and_true]; omega) | omega)
        · refine hR.2.2.2.2.cong ?_ ?_ ?_ (fun a _ _ => ?_) ?_ ?_ ?_
          all_goals (first | (funext j; simp (disch := first | omega | ((simp (disch := omega) only [up_ne, up_eq, up_nj]) <;> omega)) only [reduceIte, Bool.false_eq_true, if_pos, if_neg, up_ne, up_eq, up_nj, and_self, true_and, and_true]; done) | (simp (disch := first | omega | ((simp (disch := omega) only [up_ne, up_eq, up_nj]) <;> omega)) only [reduceIte, Bool.false_eq_true, if_pos, if_neg, up_ne, up_eq, up_nj, and_self, true_and, and_true]; done) | (simp (disch := first | omega | ((simp (disch := omega) only [up_ne, up_eq, up_nj]) <;> omega)) only [reduceIte, Bool.false_eq_true, if_pos, if_neg, up_ne, up_eq, up_nj, and_self, true_and, and_true]; omega) | omega)
        · simp (disch := first | omega | ((simp (disch := omega) only [up_ne, up_eq, up_nj]) <;> omega)) only [reduceIte, Bool.false_eq_true, if_pos, if_neg, up_ne, up_eq, up_nj, and_self, true_and, and_true]
      · refine ⟨some (vI (0)), G, am_up G 54 25 0, ?_, ?_, hR.thrown 0, up_eq rfl rfl⟩
        · unfold Ret
          simp (disch := first | omega | ((simp (disch := omega) only [up_ne, up_eq, up_nj]) <;> omega)) only [reduceIte, Bool.false_eq_true, if_pos, if_neg, up_ne, up_eq, up_nj, and_self, true_and, and_true, p_47_0, p_47_1, p_47_4, q_47_5, p_47_8, p_47_11, p_47_12, p_47_15, q_47_16, p_47_19, p_47_22, p_47_23, p_47_24, q_47_26, p_47_29, p_47_32, p_47_33, p_47_34, p_47_35, p_47_38, p_47_41, p_47_42, p_47_43, p_47_44, p_47_45, p_47_46, p_47_47]
        · unfold Ret
          simp (disch := first | omega | ((simp (disch := omega) only [up_ne, up_eq, up_nj]) <;> omega)) only [reduceIte, Bool.false_eq_true, if_pos, if_neg, up_ne, up_eq, up_nj, and_self, true_and, and_true, p_76_0, p_76_1, p_76_2, p_76_5, p_76_6, q_76_7, p_76_10, p_76_13, p_76_14, q_76_15, p_76_18, p_76_21, p_76_22, p_76_23, q_76_25, p_76_28, p_76_31, p_76_32, p_76_33, p_76_34, p_76_37, p_76_39, p_76_40, p_76_41, p_76_42, p_76_43, p_76_44, p_76_45, p_76_46]
    · refine ⟨some (vI (0)), G, am_up G 54 25 0, ?_, ?_, hR.thrown 0, up_eq rfl rfl⟩
      · unfold Ret
        simp (disch := first | omega | ((simp (disch := omega) only [up_ne, up_eq, up_nj]) <;> omega)) only [reduceIte, Bool.false_eq_true, if_pos, if_neg, up_ne, up_eq, up_nj, and_self, true_and, and_true, p_47_0, p_47_1, p_47_4, q_47_5, p_47_8, p_47_11, p_47_12, p_47_15, q_47_16, p_47_19, p_47_22, p_47_23, p_47_24, q_47_26, p_47_29, p_47_32, p_47_33, p_47_34, p_47_35, p_47_38, p_47_41, p_47_42, p_47_43, p_47_44, p_47_45, p_47_46, p_47_47]
      · unfold Ret
        simp (disch := first | omega | ((simp (disch := omega) only [up_ne, up_eq, up_nj]) <;> omega)) only [reduceIte, Bool.false_eq_true, if_pos, if_neg, up_ne, up_eq, up_nj, and_self, true_and, and_true, p_76_0, p_76_1, p_76_2, p_76_5, p_76_6, q_76_7, p_76_10, p_76_13, p_76_14, q_76_15, p_76_18, p_76_21, p_76_22, p_76_23, q_76_25, p_76_28, p_76_31, p_76_32, p_76_33, p_76_34, p_76_37, p_76_39, p_76_40, p_76_41, p_76_42, p_76_43, p_76_44, p_76_45, p_76_46]
  · refine ⟨some (vI (0)), G, am_up G 54 25 0, ?_, ?_, hR.thrown 0, up_eq rfl rfl⟩
    · unfold Ret
      simp (disch := first | omega | ((simp (disch := omega) only [up_ne, up_eq, up_nj]) <;> omega)) only [reduceIte, Bool.false_eq_true, if_pos, if_neg, up_ne, up_eq, up_nj, and_self, true_and, and_true, p_47_0, p_47_1, p_47_4, q_47_5, p_47_8, p_47_11, p_47_12, p_47_15, q_47_16, p_47_19, p_47_22, p_47_23, p_47_24, q_47_26, p_47_29, p_47_32, p_47_33, p_47_34, p_47_35, p_47_38, p_47_41, p_47_42, p_47_43, p_47_44, p_47_45, p_47_46, p_47_47]
    · unfold Ret
      simp (disch := first | omega | ((simp (disch := omega) only [up_ne, up_eq, up_nj]) <;> omega)) only [reduceIte, Bool.false_eq_true, if_pos, if_neg, up_ne, up_eq, up_nj, and_self, true_and, and_true, p_76_0, p_76_1, p_76_2, p_76_5, p_76_6, q_76_7, p_76_10, p_76_13, p_76_14, q_76_15, p_76_18, p_76_21, p_76_22, p_76_23, q_76_25, p_76_28, p_76_31, p_76_32, p_76_33, p_76_34, p_76_37, p_76_39, p_76_40, p_76_41, p_76_42, p_76_43, p_76_44, p_76_45, p_76_46]
theorem pair_ill {G : AG} (hR : Rel G) {x z : Int} (hx : -2147483648 ≤ x ∧ x < 2147483648) (hz : z = 0 ∨ z = 1) : Pair 49 78 [vI x, vI z] [vI x, vI z] G := by
  obtain ⟨ha0, ha1, ha2, ha3, ha4, ha5, ha6⟩ := id hR.2.1
  by_cases a : 0 ≤ x ∧ x < G 3 4
  · refine ⟨some (vI 1), am_up G 3 3 (wb (G 3 3) x (decide (z = 1))), am_up (am_up (am_up G 3 3 (wb (G 3 3) x (decide (z = 1)))) 54 25 0) 58 x z, ?_, ?_, ⟨?_, ?_, ?_, ?_, ?_⟩, ?_⟩
    · unfold Ret
      simp (disch := first | omega | ((simp (disch := omega) only [up_ne, up_eq, up_nj]) <;> omega)) only [reduceIte, Bool.false_eq_true, if_pos, if_neg, up_ne, up_eq, up_nj, and_self, true_and, and_true, p_49_0, p_49_1, p_49_4, q_49_5, p_49_8, p_49_11, p_49_12, p_49_13, p_49_14, p_49_17, p_49_18, p_49_21, p_49_24, p_49_25, q_49_26, p_49_29, p_49_32, p_49_33]
    · unfold Ret
      simp (disch := first | omega | ((simp (disch := omega) only [up_ne, up_eq, up_nj]) <;> omega)) only [reduceIte, Bool.false_eq_true, if_pos, if_neg, up_ne, up_eq, up_nj, and_self, true_and, and_true, p_78_0, p_78_1, p_78_2, p_78_5, p_78_6, q_78_7, p_78_10, p_78_13, p_78_14, p_78_15, p_78_16, p_78_19, p_78_20, p_78_21, p_78_22, p_78_23, ha2]
    · refine hR.1.cong ?_ ?_ ?_ ?_ ?_ ?_ ?_
      all_goals (first | (funext j; simp (disch := first | omega | ((simp (disch := omega) only [up_ne, up_eq, up_nj]) <;> omega)) only [reduceIte, Bool.false_eq_true, if_pos, if_neg, up_ne, up_eq, up_nj, and_self, true_and, and_true]; done) | (simp (disch := first | omega | ((simp (disch := omega) only [up_ne, up_eq, up_nj]) <;> omega)) only [reduceIte, Bool.false_eq_true, if_pos, if_neg, up_ne, up_eq, up_nj, and_self, true_and, and_true]; done) | (simp (disch := first | omega | ((simp (disch := omega) only [up_ne, up_eq, up_nj]) <;> omega)) only [reduceIte, Bool.false_eq_true, if_pos, if_neg, up_ne, up_eq, up_nj, and_self, true_and, and_true]; omega) | omega)
    · unfold RA
      simp (disch := first | omega | ((simp (disch := omega) only [up_ne, up_eq, up_nj]) <;> omega)) only [reduceIte, Bool.false_eq_true, if_pos, if_neg, up_ne, up_eq, up_nj, and_self, true_and, and_true]
      have hw := wb_nonneg (G 3 3) x (decide (z = 1))
      have hw2 : wb (G 3 3) x (decide (z = 1)) < ((2 ^ 6 : Nat) : Int) := wb_lt ha3 (show G 3 3 < ((2 ^ 6 : Nat) : Int) by omega) (by omega) (by omega)
      refine ⟨by omega, by omega, ha2, hw, hw2, fun i q1 q2 => ?_, fun a b q1 q2 q3 q4 => ?_⟩
      · obtain ⟨g1, g2, g3, g4, g5, g6⟩ := ha5 i q1 q2
        rw [tb_wb a.1 q1]
        by_cases e : i = x
        · simp (disch := first | omega | ((simp (disch := omega) only [up_ne, up_eq, up_nj]) <;> omega)) only [reduceIte, Bool.false_eq_true, if_pos, if_neg, up_ne, up_eq, up_nj, and_self, true_and, and_true]
          exact ⟨g1, g2, g3, by rcases hz with rfl | rfl <;> simp, g5, g6⟩
        · simp (disch := first | omega | ((simp (disch := omega) only [up_ne, up_eq, up_nj]) <;> omega)) only [reduceIte, Bool.false_eq_true, if_pos, if_neg, up_ne, up_eq, up_nj, and_self, true_and, and_true]
          exact ⟨g1, g2, g3, g4, g5, g6⟩
      · obtain ⟨g1, g2, g3, g4, g5, g6⟩ := ha6 a b q1 q2 q3 q4
        simp (disch := first | omega | ((simp (disch := omega) only [up_ne, up_eq, up_nj]) <;> omega)) only [reduceIte, Bool.false_eq_true, if_pos, if_neg, up_ne, up_eq, up_nj, and_self, true_and, and_true]
        exact ⟨g1, g2, g3, g4, g5, g6⟩
    · refine hR.2.2.1.cong ?_ ?_ ?_ ?_ ?_ ?_ ?_ ?_ ?_
      all_goals (first | (funext j; simp (disch := first | omega | ((simp (disch := omega) only [up_ne, up_eq, up_nj]) <;> omega)) only [reduceIte, Bool.false_eq_true, if_pos, if_neg, up_ne, up_eq, up_nj, and_self, true_and, and_true]; done) | (simp (disch := first | omega | ((simp (disch := omega) only [up_ne, up_eq, up_nj]) <;> omega)) only [reduceIte, Bool.false_eq_true, if_pos, if_neg, up_ne, up_eq, up_nj, and_self, true_and, and_true]; done) | (simp (disch := first | omega | ((simp (disch := omega) only [up_ne, up_eq, up_nj]) <;> omega)) only [reduceIte, Bool.false_eq_true, if_pos, if_neg, up_ne, up_eq, up_nj, and_self, true_and, and_true]; omega) | omega)
    · refine hR.2.2.2.1.cong ?_ ?_ ?_ ?_ ?_ ?_ ?_ ?_ ?_ ?_ ?_ ?_ ?_ ?_ ?_ ?_
      all_goals (first | (funext j; simp (disch := first | omega | ((simp (disch := omega) only [up_ne, up_eq, up_nj]) <;> omega)) only [reduceIte, Bool.false_eq_true, if_pos, if_neg, up_ne, up_eq, up_nj, and_self, true_and, and_true]; done) | (simp (disch := first | omega | ((simp (disch := omega) only [up_ne, up_eq, up_nj]) <;> omega)) only [reduceIte, Bool.false_eq_true, if_pos, if_neg, up_ne, up_eq, up_nj, and_self, true_and, and_true]; done) | (simp (disch := first | omega | ((simp (disch := omega) only [up_ne, up_eq, up_nj]) <;> omega)) only [reduceIte, Bool.false_eq_true, if_pos, if_neg, up_ne, up_eq, up_nj, and_self, true_and, and_true]; omega) | omega)
    · refine hR.2.2.2.2.cong ?_ ?_ ?_ (fun a _ _ => ?_) ?_ ?_ ?_
      all_goals (first | (funext j; simp (disch := first | omega | ((simp (disch := omega) only [up_ne, up_eq, up_nj]) <;> omega)) only [reduceIte, Bool.false_eq_true, if_pos, if_neg, up_ne, up_eq, up_nj, and_self, true_and, and_true]; done) | (simp (disch := first | omega | ((simp (disch := omega) only [up_ne, up_eq, up_nj]) <;> omega)) only [reduceIte, Bool.false_eq_true, if_pos, if_neg, up_ne, up_eq, up_nj, and_self, true_and, and_true]; done) | (simp (disch := first | omega | ((simp (disch := omega) only [up_ne, up_eq, up_nj]) <;> omega)) only [reduceIte, Bool.false_eq_true, if_pos, if_neg, up_ne, up_eq, up_nj, and_self, true_and, and_true]; omega) | omega)
    · simp (disch := first | omega | ((simp (disch := omega) only [up_ne, up_eq, up_nj]) <;> omega)) only [reduceIte, Bool.false_eq_true, if_pos, if_neg, up_ne, up_eq, up_nj, and_self, true_and, and_true]
  · refine ⟨some (vI (0)), G, am_up G 54 25 0, ?_, ?_, hR.thrown 0, up_eq rfl rfl⟩
    · unfold Ret
      simp (disch := first | omega | ((simp (disch := omega) only [up_ne, up_eq, up_nj]) <;> omega)) only [reduceIte, Bool.false_eq_true, if_pos, if_neg, up_ne, up_eq, up_nj, and_self, true_and, and_true, p_49_0, p_49_1, p_49_4, q_49_5, p_49_8, p_49_11, p_49_12, p_49_13, p_49_14, p_49_17, p_49_18, p_49_21, p_49_24, p_49_25, q_49_26, p_49_29, p_49_32, p_49_33]
    · unfold Ret
      simp (disch := first | omega | ((simp (disch := omega) only [up_ne, up_eq, up_nj]) <;> omega)) only [reduceIte, Bool.false_eq_true, if_pos, if_neg, up_ne, up_eq, up_nj, and_self, true_and, and_true, p_78_0, p_78_1, p_78_2, p_78_5, p_78_6, q_78_7, p_78_10, p_78_13, p_78_14, p_78_15, p_78_16, p_78_19, p_78_20, p_78_21, p_78_22, p_78_23]
theorem pair_set {G : AG} (hR : Rel G) {x y : Int} (hx : -2147483648 ≤ x ∧ x < 2147483648) (hy : -2147483648 ≤ y ∧ y < 2147483648) : Pair 50 79 [vI x, vI y, vU] [vI x, vI y, vU] G := by
  obtain ⟨hm0, hm1, hm2, hm3, hm4, hm5, hm6⟩ := id hR.1
  obtain ⟨hc1, hc2, hc3, hc4, hc5, hc6, hc7, hc8, hc9, hc10, hc11, hc12, hc13⟩ := id hR.2.2.2.1
  by_cases a : x = 0
  · subst a
    by_cases b : 0 ≤ y ∧ y ≤ 12
    · refine ⟨some (vI (G 0 3)), am_up G 0 3 y, am_up (am_up (am_up G 0 3 y) 54 25 0) 54 8 y, ?_, ?_, ⟨?_, ?_, ?_, ?_, ?_⟩, ?_⟩
      · unfold Ret
        simp (disch := first | omega | ((simp (disch := omega) only [up_ne, up_eq, up_nj]) <;> omega)) only [reduceIte, Bool.false_eq_true, if_pos, if_neg, up_ne, up_eq, up_nj, and_self, true_and, and_true, p_50_0, p_50_1, p_50_2, p_50_3, p_50_6, p_50_7, p_50_8, q_50_10, p_50_13, p_50_16, p_50_17, p_50_20, p_50_23, p_50_24, p_50_25, p_50_28, p_50_29, p_50_32, p_50_35, p_50_36, p_50_37, p_50_40, p_50_41, p_50_42, q_50_44, p_50_47, p_50_50, p_50_51, p_50_54, p_50_57, p_50_58, p_50_59, p_50_62, p_50_63, p_50_66, p_50_67]
      · unfold Ret
        simp (disch := first | omega | ((simp (disch := omega) only [up_ne, up_eq, up_nj]) <;> omega)) only [reduceIte, Bool.false_eq_true, if_pos, if_neg, up_ne, up_eq, up_nj, and_self, true_and, and_true, p_79_0, p_79_1, p_79_2, p_79_5, p_79_6, p_79_7, q_79_8, p_79_11, p_79_14, p_79_15, p_79_16, p_79_17, p_79_20, p_79_22, p_79_25, q_79_27, p_79_30, p_79_33, p_79_34, p_79_35, p_79_36, p_79_39, p_79_40, p_79_43, p_79_46, p_79_47, p_79_50, p_79_51, p_79_52, p_79_55, p_79_56, p_79_57, p_79_60, p_79_63, p_79_64, p_79_65, p_79_68, p_79_69, hm5]
      · unfold RM
        simp (disch := first | omega | ((simp (disch := omega) only [up_ne, up_eq, up_nj]) <;> omega)) only [reduceIte, Bool.false_eq_true, if_pos, if_neg, up_ne, up_eq, up_nj, and_self, true_and, and_true]
        exact ⟨hm0, hm1, hm2, b.1, b.2, hm6⟩
      · refine hR.2.1.cong ?_ ?_ ?_ ?_ (fun a _ _ => ?_) ?_ ?_ ?_ ?_ ?_
        all_goals (first | (funext j; simp (disch := first | omega | ((simp (disch := omega) only [up_ne, up_eq, up_nj]) <;> omega)) only [reduceIte, Bool.false_eq_true, if_pos, if_neg, up_ne, up_eq, up_nj, and_self, true_and, and_true]; done) | (simp (disch := first | omega | ((simp (disch := omega) only [up_ne, up_eq, up_nj]) <;> omega)) only [reduceIte, Bool.false_eq_true, if_pos, if_neg, up_ne, up_eq, up_nj, and_self, true_and, and_true]; done) | (simp (disch := first | omega | ((simp (disch := omega) only [up_ne, up_eq, up_nj]) <;> omega)) only [reduceIte, Bool.false_eq_true, if_pos, if_neg, up_ne, up_eq, up_nj, and_self, true_and, and_true]; omega) | omega)
      · refine hR.2.2.1.cong ?_ ?_ ?_ ?_ ?_ ?_ ?_ ?_ ?_
        all_goals (first | (funext j; simp (disch := first | omega | ((simp (disch := omega) only [up_ne, up_eq, up_nj]) <;> omega)) only [reduceIte, Bool.false_eq_true, if_pos, if_neg, up_ne, up_eq, up_nj, and_self, true_and, and_true]; done) | (simp (disch := first | omega | ((simp (disch := omega) only [up_ne, up_eq, up_nj]) <;> omega)) only [reduceIte, Bool.false_eq_true, if_pos, if_neg, up_ne, up_eq, up_nj, and_self, true_and, and_true]; done) | (simp (disch := first | omega | ((simp (disch := omega) only [up_ne, up_eq, up_nj]) <;> omega)) only [reduceIte, Bool.false_eq_true, if_pos, if_neg, up_ne, up_eq, up_nj, and_self, true_and, and_true]; omega) | omega)
      · refine hR.2.2.2.1.cong ?_ ?_ ?_ ?_ ?_ ?_ ?_ ?_ ?_ ?_ ?_ ?_ ?_ ?_ ?_ ?_
        all_goals (first | (funext j; simp (disch := first | omega | ((simp (disch := omega) only [up_ne, up_eq, up_nj]) <;> omega)) only [reduceIte, Bool.false_eq_true, if_pos, if_neg, up_ne, up_eq, up_nj, and_self, true_and, and_true]; done) | (simp (disch := first | omega | ((simp (disch := omega) only [up_ne, up_eq, up_nj]) <;> omega)) only [reduceIte, Bool.false_eq_true, if_pos, if_neg, up_ne, up_eq, up_nj, and_self, true_and, and_true]; done) | (simp (disch := first | omega | ((simp (disch := omega) only [up_ne, up_eq, up_nj]) <;> omega)) only [reduceIte, Bool.false_eq_true, if_pos, if_neg, up_ne, up_eq, up_nj, and_self, true_and, and_true]; omega) | omega)
      · refine hR.2.2.2.2.cong ?_ ?_ ?_ (fun a _ _ => ?_) ?_ ?_ ?_
        all_goals (first | (funext j; simp (disch := first | omega | ((simp (disch := omega) only [up_ne, up_eq, up_nj]) <;> omega)) only [reduceIte, Bool.false_eq_true, if_pos, if_neg, up_ne, up_eq, up_nj, and_self, true_and, and_true]; done) | (simp (disch := first | omega | ((simp (disch := omega) only [up_ne, up_eq, up_nj]) <;> omega)) only [reduceIte, Bool.false_eq_true, if_pos, if_neg, up_ne, up_eq, up_nj, and_self, true_and, and_true]; done) | (simp (disch := first | omega | ((simp (disch := omega) only [up_ne, up_eq, up_nj]) <;> omega)) only [reduceIte, Bool.false_eq_true, if_pos, if_neg, up_ne, up_eq, up_nj, and_self, true_and, and_true]; omega) | omega)
      · simp (disch := first | omega | ((simp (disch := omega) only [up_ne, up_eq, up_nj]) <;> omega)) only [reduceIte, Bool.false_eq_true, if_pos, if_neg, up_ne, up_eq, up_nj, and_self, true_and, and_true]
    · refine ⟨some (vI (-1)), G, am_up G 54 25 0, ?_, ?_, hR.thrown 0, up_eq rfl rfl⟩
      · unfold Ret
        simp (disch := first | omega | ((simp (disch := omega) only [up_ne, up_eq, up_nj]) <;> omega)) only [reduceIte, Bool.false_eq_true, if_pos, if_neg, up_ne, up_eq, up_nj, and_self, true_and, and_true, p_50_0, p_50_1, p_50_2, p_50_3, p_50_6, p_50_7, p_50_8, q_50_10, p_50_13, p_50_16, p_50_17, p_50_20, p_50_23, p_50_24, p_50_25, p_50_28, p_50_29, p_50_32, p_50_35, p_50_36, p_50_37, p_50_40, p_50_41, p_50_42, q_50_44, p_50_47, p_50_50, p_50_51, p_50_54, p_50_57, p_50_58, p_50_59, p_50_62, p_50_63, p_50_66, p_50_67]
      · unfold Ret
        simp (disch := first | omega | ((simp (disch := omega) only [up_ne, up_eq, up_nj]) <;> omega)) only [reduceIte, Bool.false_eq_true, if_pos, if_neg, up_ne, up_eq, up_nj, and_self, true_and, and_true, p_79_0, p_79_1, p_79_2, p_79_5, p_79_6, p_79_7, q_79_8, p_79_11, p_79_14, p_79_15, p_79_16, p_79_17, p_79_20, p_79_22, p_79_25, q_79_27, p_79_30, p_79_33, p_79_34, p_79_35, p_79_36, p_79_39, p_79_40, p_79_43, p_79_46, p_79_47, p_79_50, p_79_51, p_79_52, p_79_55, p_79_56, p_79_57, p_79_60, p_79_63, p_79_64, p_79_65, p_79_68, p_79_69]
  · by_cases a2 : x = 1
    · subst a2
      by_cases b : 0 ≤ y ∧ y ≤ 30
      · refine ⟨some (vI (G 33 10)), am_up G 33 10 y, am_up (am_up (am_up G 33 10 y) 54 25 0) 54 9 y, ?_, ?_, ⟨?_, ?_, ?_, ?_, ?_⟩, ?_⟩
        · unfold Ret
          simp (disch := first | omega | ((simp (disch := omega) only [up_ne, up_eq, up_nj]) <;> omega)) only [reduceIte, Bool.false_eq_true, if_pos, if_neg, up_ne, up_eq, up_nj, and_self, true_and, and_true, p_50_0, p_50_1, p_50_2, p_50_3, p_50_6, p_50_7, p_50_8, q_50_10, p_50_13, p_50_16, p_50_17, p_50_20, p_50_23, p_50_24, p_50_25, p_50_28, p_50_29, p_50_32, p_50_35, p_50_36, p_50_37, p_50_40, p_50_41, p_50_42, q_50_44, p_50_47, p_50_50, p_50_51, p_50_54, p_50_57, p_50_58, p_50_59, p_50_62, p_50_63, p_50_66, p_50_67]
        · unfold Ret
          simp (disch := first | omega | ((simp (disch := omega) only [up_ne, up_eq, up_nj]) <;> omega)) only [reduceIte, Bool.false_eq_true, if_pos, if_neg, up_ne, up_eq, up_nj, and_self, true_and, and_true, p_79_0, p_79_1, p_79_2, p_79_5, p_79_6, p_79_7, q_79_8, p_79_11, p_79_14, p_79_15, p_79_16, p_79_17, p_79_20, p_79_22, p_79_25, q_79_27, p_79_30, p_79_33, p_79_34, p_79_35, p_79_36, p_79_39, p_79_40, p_79_43, p_79_46, p_79_47, p_79_50, p_79_51, p_79_52, p_79_55, p_79_56, p_79_57, p_79_60, p_79_63, p_79_64, p_79_65, p_79_68, p_79_69, hc6]
        · refine hR.1.cong ?_ ?_ ?_ ?_ ?_ ?_ ?_
          all_goals (first | (funext j; simp (disch := first | omega | ((simp (disch := omega) only [up_ne, up_eq, up_nj]) <;> omega)) only [reduceIte, Bool.false_eq_true, if_pos, if_neg, up_ne, up_eq, up_nj, and_self, true_and, and_true]; done) | (simp (disch := first | omega | ((simp (disch := omega) only [up_ne, up_eq, up_nj]) <;> omega)) only [reduceIte, Bool.false_eq_true, if_pos, if_neg, up_ne, up_eq, up_nj, and_self, true_and, and_true]; done) | (simp (disch := first | omega | ((simp (disch := omega) only [up_ne, up_eq, up_nj]) <;> omega)) only [reduceIte, Bool.false_eq_true, if_pos, if_neg, up_ne, up_eq, up_nj, and_self, true_and, and_true]; omega) | omega)
        · refine hR.2.1.cong ?_ ?_ ?_ ?_ (fun a _ _ => ?_) ?_ ?_ ?_ ?_ ?_
          all_goals (first | (funext j; simp (disch := first | omega | ((simp (disch := omega) only [up_ne, up_eq, up_nj]) <;> omega)) only [reduceIte, Bool.false_eq_true, if_pos, if_neg, up_ne, up_eq, up_nj, and_self, true_and, and_true]; done) | (simp (disch := first | omega | ((simp (disch := omega) only [up_ne, up_eq, up_nj]) <;> omega)) only [reduceIte, Bool.false_eq_true, if_pos, if_neg, up_ne, up_eq, up_nj, and_self, true_and, and_true]; done) | (simp (disch := first | omega | ((simp (disch := omega) only [up_ne, up_eq, up_nj]) <;> omega)) only [reduceIte, Bool.false_eq_true, if_pos, if_neg, up_ne, up_eq, up_nj, and_self, true_and, and_true]; omega) | omega)
        · refine hR.2.2.1.cong ?_ ?_ ?_ ?_ ?_ ?_ ?_ ?_ ?_
          all_goals (first | (funext j; simp (disch := first | omega | ((simp (disch := omega) only [up_ne, up_eq, up_nj]) <;> omega)) only [reduceIte, Bool.false_eq_true, if_pos, if_neg, up_ne, up_eq, up_nj, and_self, true_and, and_true]; done) | (simp (disch := first | omega | ((simp (disch := omega) only [up_ne, up_eq, up_nj]) <;> omega)) only [reduceIte, Bool.false_eq_true, if_pos, if_neg, up_ne, up_eq, up_nj, and_self, true_and, and_true]; done) | (simp (disch := first | omega | ((simp (disch := omega) only [up_ne, up_eq, up_nj]) <;> omega)) only [reduceIte, Bool.false_eq_true, if_pos, if_neg, up_ne, up_eq, up_nj, and_self, true_and, and_true]; omega) | omega)
        · unfold RC
          simp (disch := first | omega | ((simp (disch := omega) only [up_ne, up_eq, up_nj]) <;> omega)) only [reduceIte, Bool.false_eq_true, if_pos, if_neg, up_ne, up_eq, up_nj, and_self, true_and, and_true]
          exact ⟨hc1, hc2, hc3, b.1, b.2, hc7, hc8, hc9, hc10, hc11, hc12, hc13⟩
        · refine hR.2.2.2.2.cong ?_ ?_ ?_ (fun a _ _ => ?_) ?_ ?_ ?_
          all_goals (first | (funext j; simp (disch := first | omega | ((simp (disch := omega) only [up_ne, up_eq, up_nj]) <;> omega)) only [reduceIte, Bool.false_eq_true, if_pos, if_neg, up_ne, up_eq, up_nj, and_self, true_and, and_true]; done) | (simp (disch := first | omega | ((simp (disch := omega) only [up_ne, up_eq, up_nj]) <;> omega)) only [reduceIte, Bool.false_eq_true, if_pos, if_neg, up_ne, up_eq, up_nj, and_self, true_and, and_true]; done) | (simp (disch := first | omega | ((simp (disch := omega) only [up_ne, up_eq, up_nj]) <;> omega)) only [reduceIte, Bool.false_eq_true, if_pos, if_neg, up_ne, up_eq, up_nj, and_self, true_and, and_true]; omega) | omega)
        · simp (disch := first | omega | ((simp (disch := omega) only [up_ne, up_eq, up_nj]) <;> omega)) only [reduceIte, Bool.false_eq_true, if_pos, if_neg, up_ne, up_eq, up_nj, and_self, true_and, and_true]
      · refine ⟨some (vI (-1)), G, am_up G 54 25 0, ?_, ?_, hR.thrown 0, up_eq rfl rfl⟩
        · unfold Ret
          simp (disch := first | omega | ((simp (disch := omega) only [up_ne, up_eq, up_nj]) <;> omega)) only [reduceIte, Bool.false_eq_true, if_pos, if_neg, up_ne, up_eq, up_nj, and_self, true_and, and_true, p_50_0, p_50_1, p_50_2, p_50_3, p_50_6, p_50_7, p_50_8, q_50_10, p_50_13, p_50_16, p_50_17, p_50_20, p_50_23, p_50_24, p_50_25, p_50_28, p_50_29, p_50_32, p_50_35, p_50_36, p_50_37, p_50_40, p_50_41, p_50_42, q_50_44, p_50_47, p_50_50, p_50_51, p_50_54, p_50_57, p_50_58, p_50_59, p_50_62, p_50_63, p_50_66, p_50_67]
        · unfold Ret
          simp (disch := first | omega | ((simp (disch := omega) only [up_ne, up_eq, up_nj]) <;> omega)) only [reduceIte, Bool.false_eq_true, if_pos, if_neg, up_ne, up_eq, up_nj, and_self, true_and, and_true, p_79_0, p_79_1, p_79_2, p_79_5, p_79_6, p_79_7, q_79_8, p_79_11, p_79_14, p_79_15, p_79_16, p_79_17, p_79_20, p_79_22, p_79_25, q_79_27, p_79_30, p_79_33, p_79_34, p_79_35, p_79_36, p_79_39, p_79_40, p_79_43, p_79_46, p_79_47, p_79_50, p_79_51, p_79_52, p_79_55, p_79_56, p_79_57, p_79_60, p_79_63, p_79_64, p_79_65, p_79_68, p_79_69]
    · refine ⟨some (vI (-1)), G, am_up G 54 25 0, ?_, ?_, hR.thrown 0, up_eq rfl rfl⟩
      · unfold Ret
        simp (disch := first | omega | ((simp (disch := omega) only [up_ne, up_eq, up_nj]) <;> omega)) only [reduceIte, Bool.false_eq_true, if_pos, if_neg, up_ne, up_eq, up_nj, and_self, true_and, and_true, p_50_0, p_50_1, p_50_2, p_50_3, p_50_6, p_50_7, p_50_8, q_50_10, p_50_13, p_50_16, p_50_17, p_50_20, p_50_23, p_50_24, p_50_25, p_50_28, p_50_29, p_50_32, p_50_35, p_50_36, p_50_37, p_50_40, p_50_41, p_50_42, q_50_44, p_50_47, p_50_50, p_50_51, p_50_54, p_50_57, p_50_58, p_50_59, p_50_62, p_50_63, p_50_66, p_50_67]
      · unfold Ret
        simp (disch := first | omega | ((simp (disch := omega) only [up_ne, up_eq, up_nj]) <;> omega)) only [reduceIte, Bool.false_eq_true, if_pos, if_neg, up_ne, up_eq, up_nj, and_self, true_and, and_true, p_79_0, p_79_1, p_79_2, p_79_5, p_79_6, p_79_7, q_79_8, p_79_11, p_79_14, p_79_15, p_79_16, p_79_17, p_79_20, p_79_22, p_79_25, q_79_27, p_79_30, p_79_33, p_79_34, p_79_35, p_79_36, p_79_39, p_79_40, p_79_43, p_79_46, p_79_47, p_79_50, p_79_51, p_79_52, p_79_55, p_79_56, p_79_57, p_79_60, p_79_63, p_79_64, p_79_65, p_79_68, p_79_69]
theorem pair_near {G : AG} (hR : Rel G) {x y : Int} (hx : -2147483648 ≤ x ∧ x < 2147483648) (hy : -2147483648 ≤ y ∧ y < 2147483648) : Pair 52 82 [vI x, vI y] [vI x, vI y] G := by
  obtain ⟨hm0, hm1, hm2, hm3, hm4, hm5, hm6⟩ := id hR.1
  by_cases a : 0 ≤ x ∧ x < G 0 2
  · by_cases b : 0 ≤ y ∧ y < G 0 2
    · refine ⟨some (vI (f_bc (f_and (G 1 x) (G 1 y)))), G, am_up G 54 25 0, ?_, ?_, hR.thrown 0, up_eq rfl rfl⟩
      · unfold Ret
        simp (disch := first | omega | ((simp (disch := omega) only [up_ne, up_eq, up_nj]) <;> omega)) only [reduceIte, Bool.false_eq_true, if_pos, if_neg, up_ne, up_eq, up_nj, and_self, true_and, and_true, p_52_0, p_52_1, p_52_4, q_52_5, p_52_8, p_52_11, p_52_12, p_52_15, q_52_16, p_52_19, p_52_22, p_52_23, p_52_26, p_52_27, q_52_28, p_52_31, p_52_34, p_52_35]
      · unfold Ret
        simp (disch := first | omega | ((simp (disch := omega) only [up_ne, up_eq, up_nj]) <;> omega)) only [reduceIte, Bool.false_eq_true, if_pos, if_neg, up_ne, up_eq, up_nj, and_self, true_and, and_true, p_82_0, p_82_1, p_82_2, p_82_5, p_82_6, q_82_7, p_82_10, p_82_13, p_82_14, q_82_15, p_82_18, p_82_21, p_82_22, p_82_23, q_82_24, p_82_27, p_82_30, p_82_31, hm2, (hm6 x a.1 (by omega)).1, (hm6 y b.1 (by omega)).1]
    · refine ⟨some (vI (-1)), G, am_up G 54 25 0, ?_, ?_, hR.thrown 0, up_eq rfl rfl⟩
      · unfold Ret
        simp (disch := first | omega | ((simp (disch := omega) only [up_ne, up_eq, up_nj]) <;> omega)) only [reduceIte, Bool.false_eq_true, if_pos, if_neg, up_ne, up_eq, up_nj, and_self, true_and, and_true, p_52_0, p_52_1, p_52_4, q_52_5, p_52_8, p_52_11, p_52_12, p_52_15, q_52_16, p_52_19, p_52_22, p_52_23, p_52_26, p_52_27, q_52_28, p_52_31, p_52_34, p_52_35]
      · unfold Ret
        simp (disch := first | omega | ((simp (disch := omega) only [up_ne, up_eq, up_nj]) <;> omega)) only [reduceIte, Bool.false_eq_true, if_pos, if_neg, up_ne, up_eq, up_nj, and_self, true_and, and_true, p_82_0, p_82_1, p_82_2, p_82_5, p_82_6, q_82_7, p_82_10, p_82_13, p_82_14, q_82_15, p_82_18, p_82_21, p_82_22, p_82_23, q_82_24, p_82_27, p_82_30, p_82_31]
  · refine ⟨some (vI (-1)), G, am_up G 54 25 0, ?_, ?_, hR.thrown 0, up_eq rfl rfl⟩
    · unfold Ret
      simp (disch := first | omega | ((simp (disch := omega) only [up_ne, up_eq, up_nj]) <;> omega)) only [reduceIte, Bool.false_eq_true, if_pos, if_neg, up_ne, up_eq, up_nj, and_self, true_and, and_true, p_52_0, p_52_1, p_52_4, q_52_5, p_52_8, p_52_11, p_52_12, p_52_15, q_52_16, p_52_19, p_52_22, p_52_23, p_52_26, p_52_27, q_52_28, p_52_31, p_52_34, p_52_35]
    · unfold Ret
      simp (disch := first | omega | ((simp (disch := omega) only [up_ne, up_eq, up_nj]) <;> omega)) only [reduceIte, Bool.false_eq_true, if_pos, if_neg, up_ne, up_eq, up_nj, and_self, true_and, and_true, p_82_0, p_82_1, p_82_2, p_82_5, p_82_6, q_82_7, p_82_10, p_82_13, p_82_14, q_82_15, p_82_18, p_82_21, p_82_22, p_82_23, q_82_24, p_82_27, p_82_30, p_82_31]
theorem pair_told {G : AG} (hR : Rel G) {x : Int} (hx : -2147483648 ≤ x ∧ x < 2147483648) : Pair 61 104 [vI x] [vI x] G := by
  obtain ⟨hc1, hc2, hc3, hc4, hc5, hc6, hc7, hc8, hc9, hc10, hc11, hc12, hc13⟩ := id hR.2.2.2.1
  by_cases a : 0 ≤ x ∧ x < G 33 11
  · refine ⟨some (vI (G 39 x)), G, am_up G 54 25 0, ?_, ?_, hR.thrown 0, up_eq rfl rfl⟩
    · unfold Ret
      simp (disch := first | omega | ((simp (disch := omega) only [up_ne, up_eq, up_nj]) <;> omega)) only [reduceIte, Bool.false_eq_true, if_pos, if_neg, up_ne, up_eq, up_nj, and_self, true_and, and_true, p_61_0, p_61_1, p_61_2, p_61_3, p_61_6, p_61_9, p_61_10, q_61_11, p_61_14, p_61_17, p_61_18, p_61_21, p_61_24, p_61_25, p_61_26, p_61_29, p_61_30]
    · unfold Ret
      simp (disch := first | omega | ((simp (disch := omega) only [up_ne, up_eq, up_nj]) <;> omega)) only [reduceIte, Bool.false_eq_true, if_pos, if_neg, up_ne, up_eq, up_nj, and_self, true_and, and_true, p_104_0, p_104_1, p_104_2, p_104_5, p_104_6, p_104_7, p_104_8, p_104_11, p_104_12, q_104_13, p_104_16, p_104_19, p_104_20, p_104_23, p_104_24, p_104_25, p_104_28, p_104_29, hc11, (hc13 x a.1 a.2).1]
  · refine ⟨some (vI (-1)), G, am_up G 54 25 0, ?_, ?_, hR.thrown 0, up_eq rfl rfl⟩
    · unfold Ret
      simp (disch := first | omega | ((simp (disch := omega) only [up_ne, up_eq, up_nj]) <;> omega)) only [reduceIte, Bool.false_eq_true, if_pos, if_neg, up_ne, up_eq, up_nj, and_self, true_and, and_true, p_61_0, p_61_1, p_61_2, p_61_3, p_61_6, p_61_9, p_61_10, q_61_11, p_61_14, p_61_17, p_61_18, p_61_21, p_61_24, p_61_25, p_61_26, p_61_29, p_61_30]
    · unfold Ret
      simp (disch := first | omega | ((simp (disch := omega) only [up_ne, up_eq, up_nj]) <;> omega)) only [reduceIte, Bool.false_eq_true, if_pos, if_neg, up_ne, up_eq, up_nj, and_self, true_and, and_true, p_104_0, p_104_1, p_104_2, p_104_5, p_104_6, p_104_7, p_104_8, p_104_11, p_104_12, q_104_13, p_104_16, p_104_19, p_104_20, p_104_23, p_104_24, p_104_25, p_104_28, p_104_29]
theorem pair_played {G : AG} (hR : Rel G) {x y : Int} (hx : -2147483648 ≤ x ∧ x < 2147483648) (hy : -2147483648 ≤ y ∧ y < 2147483648) : Pair 59 96 [vI x, vI y] [vI x, vI y] G := by
  obtain ⟨hc1, hc2, hc3, hc4, hc5, hc6, hc7, hc8, hc9, hc10, hc11, hc12, hc13⟩ := id hR.2.2.2.1
  by_cases a : 0 ≤ x ∧ x < G 33 9
  · by_cases b : 0 ≤ y ∧ y ≤ 400
    · refine ⟨some (vI 1), am_up G 37 x y, am_up (am_up (am_up G 37 x y) 54 25 0) 67 x y, ?_, ?_, ⟨?_, ?_, ?_, ?_, ?_⟩, ?_⟩
      · unfold Ret
        simp (disch := first | omega | ((simp (disch := omega) only [up_ne, up_eq, up_nj]) <;> omega)) only [reduceIte, Bool.false_eq_true, if_pos, if_neg, up_ne, up_eq, up_nj, and_self, true_and, and_true, p_59_0, p_59_1, p_59_4, q_59_5, p_59_8, p_59_11, p_59_12, p_59_13, q_59_16, p_59_19, p_59_22, p_59_23, p_59_24, p_59_25, p_59_28, p_59_31, p_59_32, p_59_33, p_59_34, p_59_35]
      · unfold Ret
        simp (disch := first | omega | ((simp (disch := omega) only [up_ne, up_eq, up_nj]) <;> omega)) only [reduceIte, Bool.false_eq_true, if_pos, if_neg, up_ne, up_eq, up_nj, and_self, true_and, and_true, p_96_0, p_96_1, p_96_2, p_96_5, p_96_6, p_96_7, p_96_8, p_96_11, p_96_12, q_96_13, p_96_16, p_96_19, p_96_20, p_96_21, q_96_24, p_96_27, p_96_30, p_96_31, p_96_32, p_96_33, p_96_36, p_96_37, p_96_38, p_96_39, p_96_40, hc3]
      · refine hR.1.cong ?_ ?_ ?_ ?_ ?_ ?_ ?_
        all_goals (first | (funext j; simp (disch := first | omega | ((simp (disch := omega) only [up_ne, up_eq, up_nj]) <;> omega)) only [reduceIte, Bool.false_eq_true, if_pos, if_neg, up_ne, up_eq, up_nj, and_self, true_and, and_true]; done) | (simp (disch := first | omega | ((simp (disch := omega) only [up_ne, up_eq, up_nj]) <;> omega)) only [reduceIte, Bool.false_eq_true, if_pos, if_neg, up_ne, up_eq, up_nj, and_self, true_and, and_true]; done) | (simp (disch := first | omega | ((simp (disch := omega) only [up_ne, up_eq, up_nj]) <;> omega)) only [reduceIte, Bool.false_eq_true, if_pos, if_neg, up_ne, up_eq, up_nj, and_self, true_and, and_true]; omega) | omega)
      · refine hR.2.1.cong ?_ ?_ ?_ ?_ (fun a _ _ => ?_) ?_ ?_ ?_ ?_ ?_
        all_goals (first | (funext j; simp (disch := first | omega | ((simp (disch := omega) only [up_ne, up_eq, up_nj]) <;> omega)) only [reduceIte, Bool.false_eq_true, if_pos, if_neg, up_ne, up_eq, up_nj, and_self, true_and, and_true]; done) | (simp (disch := first | omega | ((simp (disch := omega) only [up_ne, up_eq, up_nj]) <;> omega)) only [reduceIte, Bool.false_eq_true, if_pos, if_neg, up_ne, up_eq, up_nj, and_self, true_and, and_true]; done) | (simp (disch := first | omega | ((simp (disch := omega) only [up_ne, up_eq, up_nj]) <;> omega)) only [reduceIte, Bool.false_eq_true, if_pos, if_neg, up_ne, up_eq, up_nj, and_self, true_and, and_true]; omega) | omega)
      · refine hR.2.2.1.cong ?_ ?_ ?_ ?_ ?_ ?_ ?_ ?_ ?_
        all_goals (first | (funext j; simp (disch := first | omega | ((simp (disch := omega) only [up_ne, up_eq, up_nj]) <;> omega)) only [reduceIte, Bool.false_eq_true, if_pos, if_neg, up_ne, up_eq, up_nj, and_self, true_and, and_true]; done) | (simp (disch := first | omega | ((simp (disch := omega) only [up_ne, up_eq, up_nj]) <;> omega)) only [reduceIte, Bool.false_eq_true, if_pos, if_neg, up_ne, up_eq, up_nj, and_self, true_and, and_true]; done) | (simp (disch := first | omega | ((simp (disch := omega) only [up_ne, up_eq, up_nj]) <;> omega)) only [reduceIte, Bool.false_eq_true, if_pos, if_neg, up_ne, up_eq, up_nj, and_self, true_and, and_true]; omega) | omega)
      · unfold RC
        simp (disch := first | omega | ((simp (disch := omega) only [up_ne, up_eq, up_nj]) <;> omega)) only [reduceIte, Bool.false_eq_true, if_pos, if_neg, up_ne, up_eq, up_nj, and_self, true_and, and_true]
        refine ⟨hc1, hc2, hc3, hc4, hc5, hc6, hc7, hc8, hc9, hc10, hc11, fun i q1 q2 => ?_, hc13⟩
        obtain ⟨k1, k2, k3, k4, k5, k6, k7, k8, k9, k10, k11, k12⟩ := hc12 i q1 q2
        by_cases e : i = x
        · simp (disch := first | omega | ((simp (disch := omega) only [up_ne, up_eq, up_nj]) <;> omega)) only [reduceIte, Bool.false_eq_true, if_pos, if_neg, up_ne, up_eq, up_nj, and_self, true_and, and_true]
          exact ⟨k1, k2, k3, k4, k5, k6, k7, by omega, b.2, k11, k12⟩
        · simp (disch := first | omega | ((simp (disch := omega) only [up_ne, up_eq, up_nj]) <;> omega)) only [reduceIte, Bool.false_eq_true, if_pos, if_neg, up_ne, up_eq, up_nj, and_self, true_and, and_true]
          exact ⟨k1, k2, k3, k4, k5, k6, k7, k8, k9, k10, k11, k12⟩
      · refine hR.2.2.2.2.cong ?_ ?_ ?_ (fun a _ _ => ?_) ?_ ?_ ?_
        all_goals (first | (funext j; simp (disch := first | omega | ((simp (disch := omega) only [up_ne, up_eq, up_nj]) <;> omega)) only [reduceIte, Bool.false_eq_true, if_pos, if_neg, up_ne, up_eq, up_nj, and_self, true_and, and_true]; done) | (simp (disch := first | omega | ((simp (disch := omega) only [up_ne, up_eq, up_nj]) <;> omega)) only [reduceIte, Bool.false_eq_true, if_pos, if_neg, up_ne, up_eq, up_nj, and_self, true_and, and_true]; done) | (simp (disch := first | omega | ((simp (disch := omega) only [up_ne, up_eq, up_nj]) <;> omega)) only [reduceIte, Bool.false_eq_true, if_pos, if_neg, up_ne, up_eq, up_nj, and_self, true_and, and_true]; omega) | omega)
      · simp (disch := first | omega | ((simp (disch := omega) only [up_ne, up_eq, up_nj]) <;> omega)) only [reduceIte, Bool.false_eq_true, if_pos, if_neg, up_ne, up_eq, up_nj, and_self, true_and, and_true]
    · refine ⟨some (vI (0)), G, am_up G 54 25 0, ?_, ?_, hR.thrown 0, up_eq rfl rfl⟩
      · unfold Ret
        simp (disch := first | omega | ((simp (disch := omega) only [up_ne, up_eq, up_nj]) <;> omega)) only [reduceIte, Bool.false_eq_true, if_pos, if_neg, up_ne, up_eq, up_nj, and_self, true_and, and_true, p_59_0, p_59_1, p_59_4, q_59_5, p_59_8, p_59_11, p_59_12, p_59_13, q_59_16, p_59_19, p_59_22, p_59_23, p_59_24, p_59_25, p_59_28, p_59_31, p_59_32, p_59_33, p_59_34, p_59_35]
      · unfold Ret
        simp (disch := first | omega | ((simp (disch := omega) only [up_ne, up_eq, up_nj]) <;> omega)) only [reduceIte, Bool.false_eq_true, if_pos, if_neg, up_ne, up_eq, up_nj, and_self, true_and, and_true, p_96_0, p_96_1, p_96_2, p_96_5, p_96_6, p_96_7, p_96_8, p_96_11, p_96_12, q_96_13, p_96_16, p_96_19, p_96_20, p_96_21, q_96_24, p_96_27, p_96_30, p_96_31, p_96_32, p_96_33, p_96_36, p_96_37, p_96_38, p_96_39, p_96_40]
  · refine ⟨some (vI (0)), G, am_up G 54 25 0, ?_, ?_, hR.thrown 0, up_eq rfl rfl⟩
    · unfold Ret
      simp (disch := first | omega | ((simp (disch := omega) only [up_ne, up_eq, up_nj]) <;> omega)) only [reduceIte, Bool.false_eq_true, if_pos, if_neg, up_ne, up_eq, up_nj, and_self, true_and, and_true, p_59_0, p_59_1, p_59_4, q_59_5, p_59_8, p_59_11, p_59_12, p_59_13, q_59_16, p_59_19, p_59_22, p_59_23, p_59_24, p_59_25, p_59_28, p_59_31, p_59_32, p_59_33, p_59_34, p_59_35]
    · unfold Ret
      simp (disch := first | omega | ((simp (disch := omega) only [up_ne, up_eq, up_nj]) <;> omega)) only [reduceIte, Bool.false_eq_true, if_pos, if_neg, up_ne, up_eq, up_nj, and_self, true_and, and_true, p_96_0, p_96_1, p_96_2, p_96_5, p_96_6, p_96_7, p_96_8, p_96_11, p_96_12, q_96_13, p_96_16, p_96_19, p_96_20, p_96_21, q_96_24, p_96_27, p_96_30, p_96_31, p_96_32, p_96_33, p_96_36, p_96_37, p_96_38, p_96_39, p_96_40]
