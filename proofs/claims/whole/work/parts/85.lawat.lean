/-! the law's case of at -/
theorem at_M {G : AG} (hR : Rel G) {x y : Int} (hx : -2147483648 ≤ x ∧ x < 2147483648) (hy : -2147483648 ≤ y ∧ y < 2147483648) : ∃ (z : Int) (GM : AG), Ret 30 86 [vR 54, vI x, vI y] G (some (vI z)) GM ∧ Rel GM ∧ (okA G x y → GM 54 25 = 0 ∧ z = vlA G x y) ∧ (¬ okA G x y → GM 54 25 = 1) := by
  obtain ⟨hm0, hm1, hm2, hm3, hm4, hm5, hm6⟩ := id hR.1
  obtain ⟨ha0, ha1, ha2, ha3, ha4, ha5, ha6⟩ := id hR.2.1
  have hs := hR.2.2.1.slots
  have hp10 := hR.2.2.1.2.2.2.2.2.2.2.2.2
  have h10 : G 54 10 * G 54 11 = G 13 6 := hs.2.2
  by_cases a : 0 ≤ x ∧ x < G 13 6
  · by_cases b : y = 0 ∨ y = 1
    · have hok : okA G x y := ⟨a, b⟩
      have hp := hp10 x a.1 (by omega)
      by_cases c : y = 0
      · refine ⟨G 61 x, am_up G 54 25 0, ?_, hR.thrown 0, fun _ => ⟨up_eq rfl rfl, ?_⟩, fun h => absurd hok h⟩
        · unfold Ret
          simp (disch := first | omega | ((simp (disch := omega) only [up_ne, up_eq, up_nj, gf_ne, gf_in, sa_ne, sa_eq]) <;> omega)) only [reduceIte, Bool.false_eq_true, if_pos, if_neg, up_ne, up_eq, up_nj, gf_ne, gf_in, sa_ne, sa_eq, and_self, true_and, and_true, p_86_0, p_86_1, p_86_2, p_86_5, p_86_6, p_86_7, q_86_8, p_86_11, p_86_12, q_86_13, p_86_16, p_86_19, p_86_20, p_86_21, q_86_22, p_86_25, p_86_28, p_86_29, p_86_30, p_86_33, p_86_34, p_86_35, p_86_36, p_86_39, p_86_40, p_86_43, p_86_44, p_86_45, p_86_48, p_86_49, p_86_52, p_86_53, p_86_54, h10]
        · unfold vlA
          rw [if_pos c]
          unfold artX
          split <;> omega
      · refine ⟨G 62 x, am_up G 54 25 0, ?_, hR.thrown 0, fun _ => ⟨up_eq rfl rfl, ?_⟩, fun h => absurd hok h⟩
        · unfold Ret
          simp (disch := first | omega | ((simp (disch := omega) only [up_ne, up_eq, up_nj, gf_ne, gf_in, sa_ne, sa_eq]) <;> omega)) only [reduceIte, Bool.false_eq_true, if_pos, if_neg, up_ne, up_eq, up_nj, gf_ne, gf_in, sa_ne, sa_eq, and_self, true_and, and_true, p_86_0, p_86_1, p_86_2, p_86_5, p_86_6, p_86_7, q_86_8, p_86_11, p_86_12, q_86_13, p_86_16, p_86_19, p_86_20, p_86_21, q_86_22, p_86_25, p_86_28, p_86_29, p_86_30, p_86_33, p_86_34, p_86_35, p_86_36, p_86_39, p_86_40, p_86_43, p_86_44, p_86_45, p_86_48, p_86_49, p_86_52, p_86_53, p_86_54, h10]
        · unfold vlA
          rw [if_neg c]
          unfold modX
          split <;> omega
    · refine ⟨0, am_up (am_up G 54 25 0) 54 25 1, ?_, (hR.thrown 0).thrown 1, fun h => absurd h.2 b, fun _ => up_eq rfl rfl⟩
      unfold Ret
      simp (disch := first | omega | ((simp (disch := omega) only [up_ne, up_eq, up_nj, gf_ne, gf_in, sa_ne, sa_eq]) <;> omega)) only [reduceIte, Bool.false_eq_true, if_pos, if_neg, up_ne, up_eq, up_nj, gf_ne, gf_in, sa_ne, sa_eq, and_self, true_and, and_true, p_86_0, p_86_1, p_86_2, p_86_5, p_86_6, p_86_7, q_86_8, p_86_11, p_86_12, q_86_13, p_86_16, p_86_19, p_86_20, p_86_21, q_86_22, p_86_25, p_86_28, p_86_29, p_86_30, p_86_33, p_86_34, p_86_35, p_86_36, p_86_39, p_86_40, p_86_43, p_86_44, p_86_45, p_86_48, p_86_49, p_86_52, p_86_53, p_86_54, h10]
  · refine ⟨0, am_up (am_up G 54 25 0) 54 25 1, ?_, (hR.thrown 0).thrown 1, fun h => absurd h.1 a, fun _ => up_eq rfl rfl⟩
    unfold Ret
    simp (disch := first | omega | ((simp (disch := omega) only [up_ne, up_eq, up_nj, gf_ne, gf_in, sa_ne, sa_eq]) <;> omega)) only [reduceIte, Bool.false_eq_true, if_pos, if_neg, up_ne, up_eq, up_nj, gf_ne, gf_in, sa_ne, sa_eq, and_self, true_and, and_true, p_86_0, p_86_1, p_86_2, p_86_5, p_86_6, p_86_7, q_86_8, p_86_11, p_86_12, q_86_13, p_86_16, p_86_19, p_86_20, p_86_21, q_86_22, p_86_25, p_86_28, p_86_29, p_86_30, p_86_33, p_86_34, p_86_35, p_86_36, p_86_39, p_86_40, p_86_43, p_86_44, p_86_45, p_86_48, p_86_49, p_86_52, p_86_53, p_86_54, h10]
