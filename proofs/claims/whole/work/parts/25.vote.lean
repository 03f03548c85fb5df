theorem fb_holes : ∀ (m n : Nat) (f : Nat → Nat), (∀ i, i < n → f i < m) → (∀ i j, i < j → j < n → f i ≠ f j) → n ≤ m := by
  intro m
  induction m with
  | zero =>
    intro n f h1 _
    rcases Nat.eq_zero_or_pos n with h | h
    · omega
    · exact absurd (h1 0 h) (Nat.not_lt_zero _)
  | succ m ih =>
    intro n f h1 h2
    by_cases hx : ∃ i, i < n ∧ f i = m
    · obtain ⟨a, ha, hfa⟩ := hx
      have hg := ih (n - 1) (fun i => if i < a then f i else f (i + 1)) (by
        intro i hi
        by_cases q : i < a
        · simp only [if_pos q]
          have b1 := h1 i (by omega)
          have b2 := h2 i a q ha
          omega
        · simp only [if_neg q]
          have b1 := h1 (i + 1) (by omega)
          have b2 := h2 a (i + 1) (by omega) (by omega)
          omega) (by
        intro i j hij hj
        by_cases q : i < a
        · by_cases r : j < a
          · simp only [if_pos q, if_pos r]
            exact h2 i j hij (by omega)
          · simp only [if_pos q, if_neg r]
            exact h2 i (j + 1) (by omega) (by omega)
        · have r : ¬ j < a := by omega
          simp only [if_neg q, if_neg r]
          exact h2 (i + 1) (j + 1) (by omega) (by omega))
      omega
    · have hg := ih n f (fun i hi => by
        have b1 := h1 i hi
        have b2 : f i ≠ m := fun e => hx ⟨i, hi, e⟩
        omega) h2
      omega
/-! votes -/
theorem l_app_no {d : Nat} {G : AG} {Q : Option AV → AG → Prop} {j a n : Int} (hj : 0 ≤ j ∧ j < 7) (ha : 0 ≤ a ∧ a < 6) (hn : 0 ≤ n ∧ n ≤ 6) (hr : ∀ k : Int, 0 ≤ k → k < n → 0 ≤ G (43 + j.toNat) k ∧ G (43 + j.toNat) k < 6) : ∀ (m : Nat) (i : Int), 0 ≤ i → i + m = n → (∀ k : Int, i ≤ k → k < n → G (43 + j.toNat) k ≠ a) → (Ends d 2 10 [vR 41, vI j, vI a, vI n, vI i] [] G Q ↔ Ends d 2 37 [vR 41, vI j, vI a, vI n, vI n] [] G Q) := by
  intro m
  induction m with
  | zero =>
    intro i h0 h1 h2
    have e : i = n := by omega
    subst e
    simp (disch := first | omega | ((simp (disch := omega) only [up_ne, up_eq, up_nj, gf_ne, gf_in, sa_ne, sa_eq]) <;> omega)) only [reduceIte, Bool.false_eq_true, if_pos, if_neg, up_ne, up_eq, up_nj, gf_ne, gf_in, sa_ne, sa_eq, and_self, true_and, and_true, p_2_10, p_2_12, p_2_13, p_2_16, p_2_17, p_2_20, p_2_21, p_2_22, p_2_24, p_2_25, p_2_26, p_2_29, p_2_30, p_2_31]
  | succ m ih =>
    intro i h0 h1 h2
    have b1 := hr i h0 (by omega)
    have b2 := h2 i (by omega) (by omega)
    simp (disch := first | omega | ((simp (disch := omega) only [up_ne, up_eq, up_nj, gf_ne, gf_in, sa_ne, sa_eq]) <;> omega)) only [reduceIte, Bool.false_eq_true, if_pos, if_neg, up_ne, up_eq, up_nj, gf_ne, gf_in, sa_ne, sa_eq, and_self, true_and, and_true, p_2_10, p_2_12, p_2_13, p_2_16, p_2_17, p_2_20, p_2_21, p_2_22, p_2_24, p_2_25, p_2_26, p_2_29, p_2_30, p_2_31]
    rw [p_2_34]
    exact ih (i + 1) (by omega) (by omega) (fun k q1 q2 => h2 k (by omega) q2)
theorem l_app_yes {d : Nat} {G : AG} {Q : Option AV → AG → Prop} {j a n : Int} (hj : 0 ≤ j ∧ j < 7) (ha : 0 ≤ a ∧ a < 6) (hn : 0 ≤ n ∧ n ≤ 6) (hr : ∀ k : Int, 0 ≤ k → k < n → 0 ≤ G (43 + j.toNat) k ∧ G (43 + j.toNat) k < 6) : ∀ (m : Nat) (i : Int), 0 ≤ i → i + m = n → (∃ k : Int, i ≤ k ∧ k < n ∧ G (43 + j.toNat) k = a) → (Ends d 2 10 [vR 41, vI j, vI a, vI n, vI i] [] G Q ↔ Q (some (vI (-1))) G) := by
  intro m
  induction m with
  | zero =>
    intro i h0 h1 h2
    obtain ⟨k, q1, q2, q3⟩ := h2
    omega
  | succ m ih =>
    intro i h0 h1 h2
    have b1 := hr i h0 (by omega)
    by_cases e : G (43 + j.toNat) i = a
    · simp (disch := first | omega | ((simp (disch := omega) only [up_ne, up_eq, up_nj, gf_ne, gf_in, sa_ne, sa_eq]) <;> omega)) only [reduceIte, Bool.false_eq_true, if_pos, if_neg, up_ne, up_eq, up_nj, gf_ne, gf_in, sa_ne, sa_eq, and_self, true_and, and_true, p_2_10, p_2_12, p_2_13, p_2_16, p_2_17, p_2_20, p_2_21, p_2_22, p_2_24, p_2_25, p_2_26, p_2_29, p_2_30, p_2_31]
    · simp (disch := first | omega | ((simp (disch := omega) only [up_ne, up_eq, up_nj, gf_ne, gf_in, sa_ne, sa_eq]) <;> omega)) only [reduceIte, Bool.false_eq_true, if_pos, if_neg, up_ne, up_eq, up_nj, gf_ne, gf_in, sa_ne, sa_eq, and_self, true_and, and_true, p_2_10, p_2_12, p_2_13, p_2_16, p_2_17, p_2_20, p_2_21, p_2_22, p_2_24, p_2_25, p_2_26, p_2_29, p_2_30, p_2_31]
      rw [p_2_34]
      refine ih (i + 1) (by omega) (by omega) ?_
      obtain ⟨k, q1, q2, q3⟩ := h2
      by_cases f : k = i
      · subst f
        exact absurd q3 e
      · exact ⟨k, by omega, q2, q3⟩
theorem l_vote_no {d : Nat} {G : AG} {Q : Option AV → AG → Prop} {j a n : Int} (hj : 0 ≤ j ∧ j < 7) (ha : 0 ≤ a ∧ a < 6) (hn : 0 ≤ n ∧ n ≤ 6) (hv : G 70 j = n) (hr : ∀ k : Int, 0 ≤ k → k < n → 0 ≤ G 69 (6 * j + k) ∧ G 69 (6 * j + k) < 6) : ∀ (m : Nat) (i : Int), 0 ≤ i → i + m = n → (∀ k : Int, i ≤ k → k < n → G 69 (6 * j + k) ≠ a) → (Ends d 105 27 [vR 54, vI j, vI a, vI i] [] G Q ↔ Ends d 105 60 [vR 54, vI j, vI a, vI n] [] G Q) := by
  intro m
  induction m with
  | zero =>
    intro i h0 h1 h2
    have e : i = n := by omega
    subst e
    simp (disch := first | omega | ((simp (disch := omega) only [up_ne, up_eq, up_nj, gf_ne, gf_in, sa_ne, sa_eq]) <;> omega)) only [reduceIte, Bool.false_eq_true, if_pos, if_neg, up_ne, up_eq, up_nj, gf_ne, gf_in, sa_ne, sa_eq, and_self, true_and, and_true, p_105_27, p_105_28, p_105_29, p_105_32, p_105_33, p_105_34, p_105_37, p_105_38, p_105_41, p_105_43, p_105_44, p_105_45, p_105_46, p_105_47, p_105_48, p_105_49, p_105_52, p_105_53, p_105_54]
  | succ m ih =>
    intro i h0 h1 h2
    have b1 := hr i h0 (by omega)
    have b2 := h2 i (by omega) (by omega)
    simp (disch := first | omega | ((simp (disch := omega) only [up_ne, up_eq, up_nj, gf_ne, gf_in, sa_ne, sa_eq]) <;> omega)) only [reduceIte, Bool.false_eq_true, if_pos, if_neg, up_ne, up_eq, up_nj, gf_ne, gf_in, sa_ne, sa_eq, and_self, true_and, and_true, p_105_27, p_105_28, p_105_29, p_105_32, p_105_33, p_105_34, p_105_37, p_105_38, p_105_41, p_105_43, p_105_44, p_105_45, p_105_46, p_105_47, p_105_48, p_105_49, p_105_52, p_105_53, p_105_54]
    rw [p_105_57]
    exact ih (i + 1) (by omega) (by omega) (fun k q1 q2 => h2 k (by omega) q2)
theorem l_vote_yes {d : Nat} {G : AG} {Q : Option AV → AG → Prop} {j a n : Int} (hj : 0 ≤ j ∧ j < 7) (ha : 0 ≤ a ∧ a < 6) (hn : 0 ≤ n ∧ n ≤ 6) (hv : G 70 j = n) (hr : ∀ k : Int, 0 ≤ k → k < n → 0 ≤ G 69 (6 * j + k) ∧ G 69 (6 * j + k) < 6) : ∀ (m : Nat) (i : Int), 0 ≤ i → i + m = n → (∃ k : Int, i ≤ k ∧ k < n ∧ G 69 (6 * j + k) = a) → (Ends d 105 27 [vR 54, vI j, vI a, vI i] [] G Q ↔ Q (some (vI (-1))) G) := by
  intro m
  induction m with
  | zero =>
    intro i h0 h1 h2
    obtain ⟨k, q1, q2, q3⟩ := h2
    omega
  | succ m ih =>
    intro i h0 h1 h2
    have b1 := hr i h0 (by omega)
    by_cases e : G 69 (6 * j + i) = a
    · simp (disch := first | omega | ((simp (disch := omega) only [up_ne, up_eq, up_nj, gf_ne, gf_in, sa_ne, sa_eq]) <;> omega)) only [reduceIte, Bool.false_eq_true, if_pos, if_neg, up_ne, up_eq, up_nj, gf_ne, gf_in, sa_ne, sa_eq, and_self, true_and, and_true, p_105_27, p_105_28, p_105_29, p_105_32, p_105_33, p_105_34, p_105_37, p_105_38, p_105_41, p_105_43, p_105_44, p_105_45, p_105_46, p_105_47, p_105_48, p_105_49, p_105_52, p_105_53, p_105_54]
    · simp (disch := first | omega | ((simp (disch := omega) only [up_ne, up_eq, up_nj, gf_ne, gf_in, sa_ne, sa_eq]) <;> omega)) only [reduceIte, Bool.false_eq_true, if_pos, if_neg, up_ne, up_eq, up_nj, gf_ne, gf_in, sa_ne, sa_eq, and_self, true_and, and_true, p_105_27, p_105_28, p_105_29, p_105_32, p_105_33, p_105_34, p_105_37, p_105_38, p_105_41, p_105_43, p_105_44, p_105_45, p_105_46, p_105_47, p_105_48, p_105_49, p_105_52, p_105_53, p_105_54]
      rw [p_105_57]
      refine ih (i + 1) (by omega) (by omega) ?_
      obtain ⟨k, q1, q2, q3⟩ := h2
      by_cases f : k = i
      · subst f
        exact absurd q3 e
      · exact ⟨k, by omega, q2, q3⟩
theorem pair_vote {G : AG} (hR : Rel G) {x y : Int} (hx : -2147483648 ≤ x ∧ x < 2147483648) (hy : -2147483648 ≤ y ∧ y < 2147483648) : Pair 62 105 [vI x, vI y] [vI x, vI y, vU] G := by
  obtain ⟨ha0, ha1, ha2, ha3, ha4, ha5, ha6⟩ := id hR.2.1
  have hj := hR.2.2.2.2
  by_cases a : 0 ≤ x ∧ x ≤ 6
  · by_cases b : 0 ≤ y ∧ y < G 3 4
    · obtain ⟨g1, g2, g3, g4, g5, g6, g7, g8⟩ := hj x a.1 (by omega)
      have hrX : ∀ k : Int, 0 ≤ k → k < G 50 x → 0 ≤ G (43 + x.toNat) k ∧ G (43 + x.toNat) k < 6 := fun k q1 q2 => by have := g7 k q1 q2; omega
      have hrM : ∀ k : Int, 0 ≤ k → k < G 50 x → 0 ≤ am_up G 54 25 0 69 (6 * x + k) ∧ am_up G 54 25 0 69 (6 * x + k) < 6 := fun k q1 q2 => by have := g7 k q1 q2; simp (disch := omega) only [up_ne, up_eq, up_nj, gf_ne, gf_in, sa_ne, sa_eq]; omega
      by_cases c : ∃ k : Int, 0 ≤ k ∧ k < G 50 x ∧ G (43 + x.toNat) k = y
      · refine ⟨some (vI (-1)), G, am_up G 54 25 0, ?_, ?_, hR.thrown 0, up_eq rfl rfl⟩
        · have hc : Ret 29 2 [vR 41, vI x, vI y, vU, vU] G (some (vI (-1))) G := by
            unfold Ret
            simp (disch := first | omega | ((simp (disch := omega) only [up_ne, up_eq, up_nj, gf_ne, gf_in, sa_ne, sa_eq]) <;> omega)) only [reduceIte, Bool.false_eq_true, if_pos, if_neg, up_ne, up_eq, up_nj, gf_ne, gf_in, sa_ne, sa_eq, and_self, true_and, and_true, p_2_0, p_2_1, p_2_4, p_2_5, p_2_6, p_2_7, p_2_8]
            rw [l_app_yes (by omega) (by omega) ⟨g1, g2⟩ hrX (G 50 x).toNat 0 (by omega) (by omega) c]
            exact ⟨rfl, rfl⟩
          unfold Ret
          simp (disch := first | omega | ((simp (disch := omega) only [up_ne, up_eq, up_nj, gf_ne, gf_in, sa_ne, sa_eq]) <;> omega)) only [reduceIte, Bool.false_eq_true, if_pos, if_neg, up_ne, up_eq, up_nj, gf_ne, gf_in, sa_ne, sa_eq, and_self, true_and, and_true, p_62_0, p_62_1, p_62_2, q_62_4, p_62_7, p_62_10, p_62_11, p_62_14, q_62_15, p_62_18, p_62_21, p_62_22, p_62_23, p_62_24, p_62_27, p_62_28, p_62_32]
          rw [p_62_29 hc]
          simp (disch := first | omega | ((simp (disch := omega) only [up_ne, up_eq, up_nj, gf_ne, gf_in, sa_ne, sa_eq]) <;> omega)) only [reduceIte, Bool.false_eq_true, if_pos, if_neg, up_ne, up_eq, up_nj, gf_ne, gf_in, sa_ne, sa_eq, and_self, true_and, and_true, p_62_0, p_62_1, p_62_2, q_62_4, p_62_7, p_62_10, p_62_11, p_62_14, q_62_15, p_62_18, p_62_21, p_62_22, p_62_23, p_62_24, p_62_27, p_62_28, p_62_32]
        · unfold Ret
          simp (disch := first | omega | ((simp (disch := omega) only [up_ne, up_eq, up_nj, gf_ne, gf_in, sa_ne, sa_eq]) <;> omega)) only [reduceIte, Bool.false_eq_true, if_pos, if_neg, up_ne, up_eq, up_nj, gf_ne, gf_in, sa_ne, sa_eq, and_self, true_and, and_true, p_105_0, p_105_1, p_105_2, p_105_5, p_105_6, p_105_7, q_105_9, p_105_12, p_105_15, p_105_16, q_105_17, p_105_20, p_105_23, p_105_24, p_105_25, p_105_26]
          rw [l_vote_yes (by omega) (by omega) ⟨g1, g2⟩ (by simp (disch := omega) only [up_ne, up_eq, up_nj, gf_ne, gf_in, sa_ne, sa_eq]; exact g3) hrM (G 50 x).toNat 0 (by omega) (by omega) ?_]
          · exact ⟨rfl, rfl⟩
          · obtain ⟨k, q1, q2, q3⟩ := c
            refine ⟨k, q1, q2, ?_⟩
            simp (disch := omega) only [up_ne, up_eq, up_nj, gf_ne, gf_in, sa_ne, sa_eq]
            rw [(g7 k q1 q2).1]
            exact q3
      · have c' : ∀ k : Int, 0 ≤ k → k < G 50 x → G (43 + x.toNat) k ≠ y := fun k q1 q2 q3 => c ⟨k, q1, q2, q3⟩
        have hn : G 50 x < 6 := by
          rcases (show G 50 x < 6 ∨ G 50 x = 6 by omega) with q | q
          · exact q
          · exfalso
            have := fb_holes 6 7 (fun i => if i < 6 then (G (43 + x.toNat) (i : Int)).toNat else y.toNat) (fun i hi => by
              by_cases q2 : i < 6
              · simp only [if_pos q2]
                have := g7 (i : Int) (by omega) (by omega)
                omega
              · simp only [if_neg q2]
                omega) (fun i k hik hk => by
              have q2 : i < 6 := by omega
              simp only [if_pos q2]
              have b1 := g7 (i : Int) (by omega) (by omega)
              by_cases q3 : k < 6
              · simp only [if_pos q3]
                have b2 := g7 (k : Int) (by omega) (by omega)
                intro e
                have := g8 (i : Int) (k : Int) (by omega) (by omega) (by omega) (by omega) (by omega)
                omega
              · simp only [if_neg q3]
                have b2 := c' (i : Int) (by omega) (by omega)
                omega)
            omega
        refine ⟨some (vI (G 50 x + 1)), am_up (am_up G (43 + x.toNat) (G 50 x) y) 50 x (G 50 x + 1), am_up (am_up (am_up (am_up (am_up G (43 + x.toNat) (G 50 x) y) 50 x (G 50 x + 1)) 54 25 0) 69 (6 * x + G 50 x) y) 70 x (G 50 x + 1), ?_, ?_, ⟨?_, ?_, ?_, ?_, ?_⟩, ?_⟩
        · have hc : Ret 29 2 [vR 41, vI x, vI y, vU, vU] G (some (vI (G 50 x + 1))) (am_up (am_up G (43 + x.toNat) (G 50 x) y) 50 x (G 50 x + 1)) := by
            unfold Ret
            simp (disch := first | omega | ((simp (disch := omega) only [up_ne, up_eq, up_nj, gf_ne, gf_in, sa_ne, sa_eq]) <;> omega)) only [reduceIte, Bool.false_eq_true, if_pos, if_neg, up_ne, up_eq, up_nj, gf_ne, gf_in, sa_ne, sa_eq, and_self, true_and, and_true, p_2_0, p_2_1, p_2_4, p_2_5, p_2_6, p_2_7, p_2_8]
            rw [l_app_no (by omega) (by omega) ⟨g1, g2⟩ hrX (G 50 x).toNat 0 (by omega) (by omega) c']
            simp (disch := first | omega | ((simp (disch := omega) only [up_ne, up_eq, up_nj, gf_ne, gf_in, sa_ne, sa_eq]) <;> omega)) only [reduceIte, Bool.false_eq_true, if_pos, if_neg, up_ne, up_eq, up_nj, gf_ne, gf_in, sa_ne, sa_eq, and_self, true_and, and_true, p_2_37, p_2_38, p_2_40, p_2_43, p_2_44, p_2_45, p_2_46, p_2_49, p_2_50, p_2_51, p_2_52, p_2_53, p_2_54, p_2_55, p_2_58, p_2_59, p_2_60, p_2_61, p_2_62, p_2_63, p_2_64, p_2_65, p_2_66]
          unfold Ret
          simp (disch := first | omega | ((simp (disch := omega) only [up_ne, up_eq, up_nj, gf_ne, gf_in, sa_ne, sa_eq]) <;> omega)) only [reduceIte, Bool.false_eq_true, if_pos, if_neg, up_ne, up_eq, up_nj, gf_ne, gf_in, sa_ne, sa_eq, and_self, true_and, and_true, p_62_0, p_62_1, p_62_2, q_62_4, p_62_7, p_62_10, p_62_11, p_62_14, q_62_15, p_62_18, p_62_21, p_62_22, p_62_23, p_62_24, p_62_27, p_62_28, p_62_32]
          rw [p_62_29 hc]
          simp (disch := first | omega | ((simp (disch := omega) only [up_ne, up_eq, up_nj, gf_ne, gf_in, sa_ne, sa_eq]) <;> omega)) only [reduceIte, Bool.false_eq_true, if_pos, if_neg, up_ne, up_eq, up_nj, gf_ne, gf_in, sa_ne, sa_eq, and_self, true_and, and_true, p_62_0, p_62_1, p_62_2, q_62_4, p_62_7, p_62_10, p_62_11, p_62_14, q_62_15, p_62_18, p_62_21, p_62_22, p_62_23, p_62_24, p_62_27, p_62_28, p_62_32]
        · have hrM2 : ∀ k : Int, 0 ≤ k → k < G 50 x → 0 ≤ am_up (am_up (am_up G (43 + x.toNat) (G 50 x) y) 50 x (G 50 x + 1)) 54 25 0 69 (6 * x + k) ∧ am_up (am_up (am_up G (43 + x.toNat) (G 50 x) y) 50 x (G 50 x + 1)) 54 25 0 69 (6 * x + k) < 6 := fun k q1 q2 => by have := g7 k q1 q2; simp (disch := omega) only [up_ne, up_eq, up_nj, gf_ne, gf_in, sa_ne, sa_eq]; omega
          unfold Ret
          simp (disch := first | omega | ((simp (disch := omega) only [up_ne, up_eq, up_nj, gf_ne, gf_in, sa_ne, sa_eq]) <;> omega)) only [reduceIte, Bool.false_eq_true, if_pos, if_neg, up_ne, up_eq, up_nj, gf_ne, gf_in, sa_ne, sa_eq, and_self, true_and, and_true, p_105_0, p_105_1, p_105_2, p_105_5, p_105_6, p_105_7, q_105_9, p_105_12, p_105_15, p_105_16, q_105_17, p_105_20, p_105_23, p_105_24, p_105_25, p_105_26]
          rw [l_vote_no (by omega) (by omega) ⟨g1, g2⟩ (by simp (disch := omega) only [up_ne, up_eq, up_nj, gf_ne, gf_in, sa_ne, sa_eq]; exact g3) hrM2 (G 50 x).toNat 0 (by omega) (by omega) (fun k q1 q2 => by simp (disch := omega) only [up_ne, up_eq, up_nj, gf_ne, gf_in, sa_ne, sa_eq]; rw [(g7 k q1 q2).1]; exact c' k q1 q2)]
          simp (disch := first | omega | ((simp (disch := omega) only [up_ne, up_eq, up_nj, gf_ne, gf_in, sa_ne, sa_eq]) <;> omega)) only [reduceIte, Bool.false_eq_true, if_pos, if_neg, up_ne, up_eq, up_nj, gf_ne, gf_in, sa_ne, sa_eq, and_self, true_and, and_true, p_105_60, p_105_61, p_105_64, p_105_66, p_105_67, p_105_68, p_105_69, p_105_72, p_105_73, p_105_74, p_105_75, p_105_76, p_105_77, p_105_78, p_105_81, p_105_82, p_105_83, p_105_84, p_105_85, p_105_86, p_105_87, p_105_88, p_105_91, p_105_92, p_105_93, g3]
        · refine hR.1.cong ?_ ?_ ?_ ?_ ?_ ?_ ?_
          all_goals (first | (funext j; simp (disch := first | omega | ((simp (disch := omega) only [up_ne, up_eq, up_nj, gf_ne, gf_in, sa_ne, sa_eq]) <;> omega)) only [reduceIte, Bool.false_eq_true, if_pos, if_neg, up_ne, up_eq, up_nj, gf_ne, gf_in, sa_ne, sa_eq, and_self, true_and, and_true]; done) | (simp (disch := first | omega | ((simp (disch := omega) only [up_ne, up_eq, up_nj, gf_ne, gf_in, sa_ne, sa_eq]) <;> omega)) only [reduceIte, Bool.false_eq_true, if_pos, if_neg, up_ne, up_eq, up_nj, gf_ne, gf_in, sa_ne, sa_eq, and_self, true_and, and_true]; done) | (simp (disch := first | omega | ((simp (disch := omega) only [up_ne, up_eq, up_nj, gf_ne, gf_in, sa_ne, sa_eq]) <;> omega)) only [reduceIte, Bool.false_eq_true, if_pos, if_neg, up_ne, up_eq, up_nj, gf_ne, gf_in, sa_ne, sa_eq, and_self, true_and, and_true]; omega) | omega)
        · refine hR.2.1.cong ?_ ?_ ?_ ?_ (fun a _ _ => ?_) ?_ ?_ ?_ ?_ ?_
          all_goals (first | (funext j; simp (disch := first | omega | ((simp (disch := omega) only [up_ne, up_eq, up_nj, gf_ne, gf_in, sa_ne, sa_eq]) <;> omega)) only [reduceIte, Bool.false_eq_true, if_pos, if_neg, up_ne, up_eq, up_nj, gf_ne, gf_in, sa_ne, sa_eq, and_self, true_and, and_true]; done) | (simp (disch := first | omega | ((simp (disch := omega) only [up_ne, up_eq, up_nj, gf_ne, gf_in, sa_ne, sa_eq]) <;> omega)) only [reduceIte, Bool.false_eq_true, if_pos, if_neg, up_ne, up_eq, up_nj, gf_ne, gf_in, sa_ne, sa_eq, and_self, true_and, and_true]; done) | (simp (disch := first | omega | ((simp (disch := omega) only [up_ne, up_eq, up_nj, gf_ne, gf_in, sa_ne, sa_eq]) <;> omega)) only [reduceIte, Bool.false_eq_true, if_pos, if_neg, up_ne, up_eq, up_nj, gf_ne, gf_in, sa_ne, sa_eq, and_self, true_and, and_true]; omega) | omega)
        · refine hR.2.2.1.cong ?_ ?_ ?_ ?_ ?_ ?_ ?_ ?_ ?_
          all_goals (first | (funext j; simp (disch := first | omega | ((simp (disch := omega) only [up_ne, up_eq, up_nj, gf_ne, gf_in, sa_ne, sa_eq]) <;> omega)) only [reduceIte, Bool.false_eq_true, if_pos, if_neg, up_ne, up_eq, up_nj, gf_ne, gf_in, sa_ne, sa_eq, and_self, true_and, and_true]; done) | (simp (disch := first | omega | ((simp (disch := omega) only [up_ne, up_eq, up_nj, gf_ne, gf_in, sa_ne, sa_eq]) <;> omega)) only [reduceIte, Bool.false_eq_true, if_pos, if_neg, up_ne, up_eq, up_nj, gf_ne, gf_in, sa_ne, sa_eq, and_self, true_and, and_true]; done) | (simp (disch := first | omega | ((simp (disch := omega) only [up_ne, up_eq, up_nj, gf_ne, gf_in, sa_ne, sa_eq]) <;> omega)) only [reduceIte, Bool.false_eq_true, if_pos, if_neg, up_ne, up_eq, up_nj, gf_ne, gf_in, sa_ne, sa_eq, and_self, true_and, and_true]; omega) | omega)
        · refine hR.2.2.2.1.cong ?_ ?_ ?_ ?_ ?_ ?_ ?_ ?_ ?_ ?_ ?_ ?_ ?_ ?_ ?_ ?_ ?_
          all_goals (first | (funext j; simp (disch := first | omega | ((simp (disch := omega) only [up_ne, up_eq, up_nj, gf_ne, gf_in, sa_ne, sa_eq]) <;> omega)) only [reduceIte, Bool.false_eq_true, if_pos, if_neg, up_ne, up_eq, up_nj, gf_ne, gf_in, sa_ne, sa_eq, and_self, true_and, and_true]; done) | (simp (disch := first | omega | ((simp (disch := omega) only [up_ne, up_eq, up_nj, gf_ne, gf_in, sa_ne, sa_eq]) <;> omega)) only [reduceIte, Bool.false_eq_true, if_pos, if_neg, up_ne, up_eq, up_nj, gf_ne, gf_in, sa_ne, sa_eq, and_self, true_and, and_true]; done) | (simp (disch := first | omega | ((simp (disch := omega) only [up_ne, up_eq, up_nj, gf_ne, gf_in, sa_ne, sa_eq]) <;> omega)) only [reduceIte, Bool.false_eq_true, if_pos, if_neg, up_ne, up_eq, up_nj, gf_ne, gf_in, sa_ne, sa_eq, and_self, true_and, and_true]; omega) | omega)
        · intro j q1 q2
          obtain ⟨k1, k2, k3, k4, k5, k6, k7, k8⟩ := hj j q1 q2
          by_cases e : j = x
          · subst e
            simp (disch := omega) only [up_ne, up_eq, up_nj, gf_ne, gf_in, sa_ne, sa_eq]
            refine ⟨by omega, by omega, trivial, k4, k5, k6, fun i r1 r2 => ?_, fun i k r1 r2 r3 r4 => ?_⟩
            · by_cases f : i = G 50 j
              · simp (disch := omega) only [up_ne, up_eq, up_nj, gf_ne, gf_in, sa_ne, sa_eq]
                exact ⟨trivial, b.1, b.2⟩
              · simp (disch := omega) only [up_ne, up_eq, up_nj, gf_ne, gf_in, sa_ne, sa_eq]
                exact k7 i r1 (by omega)
            · by_cases f : i = G 50 j
              · by_cases f2 : k = G 50 j
                · intro _
                  omega
                · simp (disch := omega) only [up_ne, up_eq, up_nj, gf_ne, gf_in, sa_ne, sa_eq]
                  intro h
                  exact absurd h.symm (c' k r3 (by omega))
              · by_cases f2 : k = G 50 j
                · simp (disch := omega) only [up_ne, up_eq, up_nj, gf_ne, gf_in, sa_ne, sa_eq]
                  intro h
                  exact absurd h (c' i r1 (by omega))
                · simp (disch := omega) only [up_ne, up_eq, up_nj, gf_ne, gf_in, sa_ne, sa_eq]
                  exact k8 i k r1 (by omega) r3 (by omega)
          · simp (disch := omega) only [up_ne, up_eq, up_nj, gf_ne, gf_in, sa_ne, sa_eq]
            refine ⟨k1, k2, k3, k4, k5, k6, fun i r1 r2 => ?_, k8⟩
            simp (disch := omega) only [up_ne, up_eq, up_nj, gf_ne, gf_in, sa_ne, sa_eq]
            exact k7 i r1 r2
        · simp (disch := first | omega | ((simp (disch := omega) only [up_ne, up_eq, up_nj, gf_ne, gf_in, sa_ne, sa_eq]) <;> omega)) only [reduceIte, Bool.false_eq_true, if_pos, if_neg, up_ne, up_eq, up_nj, gf_ne, gf_in, sa_ne, sa_eq, and_self, true_and, and_true]
    · refine ⟨some (vI (-1)), G, am_up G 54 25 0, ?_, ?_, hR.thrown 0, up_eq rfl rfl⟩
      · unfold Ret
        simp (disch := first | omega | ((simp (disch := omega) only [up_ne, up_eq, up_nj, gf_ne, gf_in, sa_ne, sa_eq]) <;> omega)) only [reduceIte, Bool.false_eq_true, if_pos, if_neg, up_ne, up_eq, up_nj, gf_ne, gf_in, sa_ne, sa_eq, and_self, true_and, and_true, p_62_0, p_62_1, p_62_2, q_62_4, p_62_7, p_62_10, p_62_11, p_62_14, q_62_15, p_62_18, p_62_21, p_62_22, p_62_23, p_62_24, p_62_27, p_62_28, p_62_32]
      · unfold Ret
        simp (disch := first | omega | ((simp (disch := omega) only [up_ne, up_eq, up_nj, gf_ne, gf_in, sa_ne, sa_eq]) <;> omega)) only [reduceIte, Bool.false_eq_true, if_pos, if_neg, up_ne, up_eq, up_nj, gf_ne, gf_in, sa_ne, sa_eq, and_self, true_and, and_true, p_105_0, p_105_1, p_105_2, p_105_5, p_105_6, p_105_7, q_105_9, p_105_12, p_105_15, p_105_16, q_105_17, p_105_20, p_105_23, p_105_24, p_105_25, p_105_26, p_105_27, p_105_28, p_105_29, p_105_32, p_105_33, p_105_34, p_105_37, p_105_38, p_105_41, p_105_43, p_105_44, p_105_45, p_105_46, p_105_47, p_105_48, p_105_49, p_105_52, p_105_53, p_105_54, p_105_60, p_105_61, p_105_64, p_105_66, p_105_67, p_105_68, p_105_69, p_105_72, p_105_73, p_105_74, p_105_75, p_105_76, p_105_77, p_105_78, p_105_81, p_105_82, p_105_83, p_105_84, p_105_85, p_105_86, p_105_87, p_105_88, p_105_91, p_105_92, p_105_93]
  · refine ⟨some (vI (-1)), G, am_up G 54 25 0, ?_, ?_, hR.thrown 0, up_eq rfl rfl⟩
    · unfold Ret
      simp (disch := first | omega | ((simp (disch := omega) only [up_ne, up_eq, up_nj, gf_ne, gf_in, sa_ne, sa_eq]) <;> omega)) only [reduceIte, Bool.false_eq_true, if_pos, if_neg, up_ne, up_eq, up_nj, gf_ne, gf_in, sa_ne, sa_eq, and_self, true_and, and_true, p_62_0, p_62_1, p_62_2, q_62_4, p_62_7, p_62_10, p_62_11, p_62_14, q_62_15, p_62_18, p_62_21, p_62_22, p_62_23, p_62_24, p_62_27, p_62_28, p_62_32]
    · unfold Ret
      simp (disch := first | omega | ((simp (disch := omega) only [up_ne, up_eq, up_nj, gf_ne, gf_in, sa_ne, sa_eq]) <;> omega)) only [reduceIte, Bool.false_eq_true, if_pos, if_neg, up_ne, up_eq, up_nj, gf_ne, gf_in, sa_ne, sa_eq, and_self, true_and, and_true, p_105_0, p_105_1, p_105_2, p_105_5, p_105_6, p_105_7, q_105_9, p_105_12, p_105_15, p_105_16, q_105_17, p_105_20, p_105_23, p_105_24, p_105_25, p_105_26, p_105_27, p_105_28, p_105_29, p_105_32, p_105_33, p_105_34, p_105_37, p_105_38, p_105_41, p_105_43, p_105_44, p_105_45, p_105_46, p_105_47, p_105_48, p_105_49, p_105_52, p_105_53, p_105_54, p_105_60, p_105_61, p_105_64, p_105_66, p_105_67, p_105_68, p_105_69, p_105_72, p_105_73, p_105_74, p_105_75, p_105_76, p_105_77, p_105_78, p_105_81, p_105_82, p_105_83, p_105_84, p_105_85, p_105_86, p_105_87, p_105_88, p_105_91, p_105_92, p_105_93]
/-! sums over slots -/
def sumf (p : Int → Int) : Nat → Int → Int
  | 0, _ => 0
  | m + 1, i => p i + sumf p m (i + 1)
theorem sumf_cong {p q : Int → Int} : ∀ (m : Nat) (i : Int), (∀ k : Int, i ≤ k → k < i + m → p k = q k) → sumf p m i = sumf q m i
  | 0, _, _ => rfl
  | m + 1, i, h => by
    rw [sumf, sumf, h i (by omega) (by omega), sumf_cong m (i + 1) (fun k q1 q2 => h k (by omega) (by omega))]
