/-! best and mend -/
theorem both_plan {near cost : Int} {G0 : AG} (hR : Rel G0) (hn : (near = 0 ∧ cost = 0) ∨ (near = 1 ∧ cost = 1000)) :
    ∃ (GX GM : AG) (D : Int → Int), Ret 29 23 [vR 16, vI cost, vU] G0 (some (vI (sumf (fun s => if D s = G0 14 s then 0 else 1) (G0 13 6).toNat 0))) GX ∧
      Ret 29 92 [vR 54, vI near, vU, vU] (am_up GX 54 25 0) none GM ∧ Rel GM ∧ GM 54 25 = 0 ∧ (∀ b : Nat, b < 54 → GM b = GX b) ∧ GM 13 = G0 13 ∧
      ∀ s : Int, 0 ≤ s → s < G0 13 6 → GM 61 s = aO (D s) ∧ GM 62 s = mO (D s) ∧ GM 72 s = G0 61 s ∧ GM 73 s = G0 62 s ∧ 0 ≤ D s ∧ D s ≤ 36 := by
  obtain ⟨hm0, hm1, hm2, hm3, hm4, hm5, hm6⟩ := id hR.1
  obtain ⟨ha0, ha1, ha2, ha3, ha4, ha5, ha6⟩ := id hR.2.1
  obtain ⟨hp1, hp2, hp3, hp4, hp5, hp6, hp7, hp8, hp9, hp10⟩ := id hR.2.2.1
  have hs := hR.2.2.1.slots
  have hc : 0 ≤ cost ∧ cost ≤ 1000 := by omega
  obtain ⟨r, GX, hret, GT, hT, k1, k2, k3, hr⟩ := (c_plan (d := 18) (Q := fun r G' => ∃ GT : AG, TBL G0 cost GT ∧ (∀ b : Nat, (b ≤ 13 ∨ b = 15 ∨ 33 ≤ b) → G' b = G0 b) ∧ (∀ s : Int, 0 ≤ s → s < G0 13 6 → G' 14 s = dg (-topX GT G0 % 2565726409) s) ∧ (∀ s : Int, G0 13 6 ≤ s → G' 14 s = G0 14 s) ∧ r = some (vI (sumf (fun s => if dg (-topX GT G0 % 2565726409) s = G0 14 s then 0 else 1) (G0 13 6).toNat 0))) hR hc (fun GT G' q1 q2 q3 q4 => ⟨GT, q1, q2, q3, q4, rfl⟩)).ret
  subst hr
  have e61 : am_up GX 54 25 0 61 = G0 61 := by rw [am_up_ne _ _ _ _ _ (by decide), k1 61 (by omega)]
  have e62 : am_up GX 54 25 0 62 = G0 62 := by rw [am_up_ne _ _ _ _ _ (by decide), k1 62 (by omega)]
  have hMS : MSame G0 (am_up GX 54 25 0) := ⟨fun b q1 q2 => by rw [am_up_ne _ _ _ _ _ (by omega), k1 b (by omega)], fun j q1 q2 => by rw [up_nj q1, k1 54 (by omega)]⟩
  obtain ⟨r, GM, hret2, hrn, s1, s2, s3, s4, s5⟩ := (c_search (d := 20) (near := near) (Q := fun r G' => r = none ∧ (∀ b : Nat, b ≠ 54 → b ≠ 61 → b ≠ 62 → (b < 72 ∨ 78 < b) → G' b = (am_up GX 54 25 0) b) ∧ (∀ j : Int, j ≠ 33 → G' 54 j = (am_up GX 54 25 0) 54 j) ∧ (∀ t : Int, 0 ≤ t → t < 6 → G' 72 t = G0 61 t ∧ G' 73 t = G0 62 t) ∧
      (∀ s : Int, 0 ≤ s → s < G0 13 6 → (dg (-topX GT G0 % 2565726409) s = 36 ∨ (0 ≤ dg (-topX GT G0 % 2565726409) s ∧ dg (-topX GT G0 % 2565726409) s < 36 ∧ dg (-topX GT G0 % 2565726409) s / 6 < G0 3 4 ∧ dg (-topX GT G0 % 2565726409) s % 6 < G0 0 2)) ∧ G' 61 s = aO (dg (-topX GT G0 % 2565726409) s) ∧ G' 62 s = mO (dg (-topX GT G0 % 2565726409) s)) ∧
      (∀ s : Int, G0 13 6 ≤ s → G' 61 s = G0 61 s ∧ G' 62 s = G0 62 s)) hR hT hn hMS e61 e62 (fun G' q1 q2 q3 q4 q5 => ⟨rfl, q1, q2, q3, q4, q5⟩)).ret
  subst hrn
  have kX : ∀ b : Nat, b < 54 → GM b = GX b := fun b hb => by rw [s1 b (by omega) (by omega) (by omega) (by omega), am_up_ne _ _ _ _ _ (by omega)]
  have e : ∀ b : Nat, b ≠ 14 → b ≠ 61 → b ≠ 62 → (b ≤ 15 ∨ (33 ≤ b ∧ b ≤ 53) ∨ (55 ≤ b ∧ b ≤ 71)) → GM b = G0 b := fun b b1 b2 b3 b4 => by
    rw [s1 b (by omega) b2 b3 (by omega), am_up_ne _ _ _ _ _ (by omega), k1 b (by omega)]
  have e54 : ∀ j : Int, j ≠ 25 → j ≠ 33 → GM 54 j = G0 54 j := fun j j1 j2 => by
    rw [s2 j j2, up_nj j1, k1 54 (by omega)]
  have e13 : GM 13 = G0 13 := e 13 (by omega) (by omega) (by omega) (by omega)
  have hRM : Rel GM := by
    refine ⟨?_, ?_, ?_, ?_, ?_⟩
    · refine hR.1.cong ?_ ?_ ?_ ?_ ?_ ?_ ?_
      all_goals first | (apply e <;> omega) | (apply e54 <;> decide)
    · refine hR.2.1.cong ?_ ?_ ?_ ?_ (fun a _ _ => ?_) ?_ ?_ ?_ ?_ ?_
      all_goals first | (apply e <;> omega) | (apply e54 <;> decide) | (rw [e 0 (by omega) (by omega) (by omega) (by omega)]; exact Int.le_refl _)
    · unfold RP
      rw [e13, e 15 (by omega) (by omega) (by omega) (by omega), e 3 (by omega) (by omega) (by omega) (by omega), e 0 (by omega) (by omega) (by omega) (by omega), e54 10 (by decide) (by decide), e54 11 (by decide) (by decide)]
      refine ⟨hp1, hp2, hp3, hp4, hp5, hp6, hp7, hp8, hp9, fun i q1 q2 => ?_⟩
      rw [kX 14 (by decide)]
      by_cases u : i < G0 13 6
      · have h1 := k2 i q1 u
        have h2 := s4 i q1 u
        have h3 := aO_cs (dg (-topX GT G0 % 2565726409) i)
        rw [h1, h2.2.1, h2.2.2]
        have h4 := h2.1
        clear h1 h2
        generalize dg (-topX GT G0 % 2565726409) i = z at *
        omega
      · have h1 := k3 i (by omega)
        have h2 := s5 i (by omega)
        rw [h1, h2.1, h2.2]
        have h3 := hp10 i q1 q2
        omega
    · refine hR.2.2.2.1.cong ?_ ?_ ?_ ?_ ?_ ?_ ?_ ?_ ?_ ?_ ?_ ?_ ?_ ?_ ?_ ?_ ?_
      all_goals first | (apply e <;> omega) | (apply e54 <;> decide) | (rw [e 0 (by omega) (by omega) (by omega) (by omega)]; exact Int.le_refl _)
    · refine hR.2.2.2.2.cong ?_ ?_ ?_ (fun a _ _ => ?_) ?_ ?_ ?_
      all_goals first | (apply e <;> omega) | (rw [e 3 (by omega) (by omega) (by omega) (by omega)]; exact Int.le_refl _)
  refine ⟨GX, GM, fun s => dg (-topX GT G0 % 2565726409) s, hret, hret2, hRM, ?_, kX, e13, fun s q1 q2 => ?_⟩
  · rw [s2 25 (by decide), up_eq rfl rfl]
  · have h2 := s4 s q1 q2
    have h3 := s3 s q1 (by omega)
    refine ⟨h2.2.1, h2.2.2, h3.1, h3.2, ?_, ?_⟩
    · have h4 := h2.1
      show 0 ≤ dg (-topX GT G0 % 2565726409) s
      omega
    · have h4 := h2.1
      show dg (-topX GT G0 % 2565726409) s ≤ 36
      omega
theorem pair_best {G : AG} (hR : Rel G) : Pair 56 93 [] [] G := by
  obtain ⟨GX, GM, D, h1, h2, hRM, h25, kX, k13, -⟩ := both_plan (near := 0) (cost := 0) hR (Or.inl ⟨rfl, rfl⟩)
  have hs := hRM.2.2.1.slots
  have hO : HO GX := by
    have := hRM.2.2.1.ho hRM.2.1.2.1 hRM.1.2.1
    unfold HO at this ⊢
    rw [← kX 14 (by decide)]
    exact this
  have e136 : GX 13 6 = GM 13 6 := by rw [kX 13 (by decide)]
  have hR' := hRM.thrown 0
  have hs' := hR'.2.2.1.slots
  have hM := hR'.2.2.1.mo hR'.2.1.2.1 hR'.1.2.1
  have hcnt : Ret 29 84 [vR 54, vI 4, vU, vU] GM (some (vI (sumf (w_w GX) (GX 13 6).toNat 0))) (am_up GM 54 25 0) := by
    unfold Ret
    simp (disch := first | omega | ((simp (disch := omega) only [up_ne, up_eq, up_nj, gf_ne, gf_in, sa_ne, sa_eq]) <;> omega)) only [reduceIte, Bool.false_eq_true, if_pos, if_neg, up_ne, up_eq, up_nj, gf_ne, gf_in, sa_ne, sa_eq, and_self, true_and, and_true, p_84_0, p_84_1, p_84_2, p_84_5, p_84_6, p_84_7, p_84_8, p_84_98, p_84_99]
    rw [l_mw (d := 28) hM (by omega) (GM 13 6).toNat 0 0 (by omega) (by rw [hs'.2.2]; simp (disch := omega) only [up_ne, up_eq, up_nj, gf_ne, gf_in, sa_ne, sa_eq]; omega), Int.zero_add]
    refine ⟨?_, rfl⟩
    have h5 := worth_eq hRM
    have h6 : sumf (w_w GX) (GX 13 6).toNat 0 = sumf (w_w GM) (GM 13 6).toNat 0 := by
      rw [e136]
      refine sumf_cong _ _ (fun k q1 q2 => ?_)
      have h7 := hO k q1 (by omega)
      unfold w_w
      rw [kX 14 (by decide)]
      by_cases u : GX 14 k = 36
      · rw [if_pos u, if_pos u]
      · rw [if_neg u, if_neg u, kX _ (by omega)]
    rw [h6, ← h5]
    congr 2
  refine ⟨some (vI (sumf (w_w GX) (GX 13 6).toNat 0)), GX, am_up GM 54 25 0, ?_, ?_, hR', up_eq rfl rfl⟩
  · unfold Ret
    simp (disch := first | omega | ((simp (disch := omega) only [up_ne, up_eq, up_nj, gf_ne, gf_in, sa_ne, sa_eq]) <;> omega)) only [reduceIte, Bool.false_eq_true, if_pos, if_neg, up_ne, up_eq, up_nj, gf_ne, gf_in, sa_ne, sa_eq, and_self, true_and, and_true, p_56_0, p_56_1, p_56_4]
    rw [p_56_5 (d := 29) h1]
    simp (disch := first | omega | ((simp (disch := omega) only [up_ne, up_eq, up_nj, gf_ne, gf_in, sa_ne, sa_eq]) <;> omega)) only [reduceIte, Bool.false_eq_true, if_pos, if_neg, up_ne, up_eq, up_nj, gf_ne, gf_in, sa_ne, sa_eq, and_self, true_and, and_true, p_56_8, p_56_9, p_56_10]
    rw [p_56_13 (d := 29) (c_worth (d := 27) hO (by omega))]
    simp (disch := first | omega | ((simp (disch := omega) only [up_ne, up_eq, up_nj, gf_ne, gf_in, sa_ne, sa_eq]) <;> omega)) only [reduceIte, Bool.false_eq_true, if_pos, if_neg, up_ne, up_eq, up_nj, gf_ne, gf_in, sa_ne, sa_eq, and_self, true_and, and_true, p_56_16]
  · unfold Ret
    simp (disch := first | omega | ((simp (disch := omega) only [up_ne, up_eq, up_nj, gf_ne, gf_in, sa_ne, sa_eq]) <;> omega)) only [reduceIte, Bool.false_eq_true, if_pos, if_neg, up_ne, up_eq, up_nj, gf_ne, gf_in, sa_ne, sa_eq, and_self, true_and, and_true, p_93_0, p_93_1, p_93_2, p_93_5, p_93_6]
    rw [p_93_7 (d := 29) h2]
    simp (disch := first | omega | ((simp (disch := omega) only [up_ne, up_eq, up_nj, gf_ne, gf_in, sa_ne, sa_eq]) <;> omega)) only [reduceIte, Bool.false_eq_true, if_pos, if_neg, up_ne, up_eq, up_nj, gf_ne, gf_in, sa_ne, sa_eq, and_self, true_and, and_true, p_93_10, p_93_11]
    rw [p_93_12 (d := 29) hcnt]
    simp (disch := first | omega | ((simp (disch := omega) only [up_ne, up_eq, up_nj, gf_ne, gf_in, sa_ne, sa_eq]) <;> omega)) only [reduceIte, Bool.false_eq_true, if_pos, if_neg, up_ne, up_eq, up_nj, gf_ne, gf_in, sa_ne, sa_eq, and_self, true_and, and_true, p_93_15]
theorem l_md {d : Nat} {G : AG} {Q : Option AV → AG → Prop} (h : MO G) {n : Int} (hn : 0 ≤ n ∧ n ≤ 6) (hN : G 54 10 * G 54 11 = n) (hw : ∀ t : Int, 0 ≤ t → t < n → -1 ≤ G 72 t ∧ G 72 t < 6 ∧ -1 ≤ G 73 t ∧ G 73 t < 6) : ∀ (m : Nat) (i acc : Int), 0 ≤ i → i + m = n → 0 ≤ acc → acc ≤ i → (Ends (d + 10) 94 14 [vR 54, vI acc, vI i] [] G Q ↔ Q (some (vI (acc + sumf (fun s => if G 61 s = G 72 s ∧ G 62 s = G 73 s then 0 else 1) m i))) G) := by
  intro m
  induction m with
  | zero =>
    intro i acc h0 h1 h2 h3
    simp (disch := first | omega | ((simp (disch := omega) only [up_ne, up_eq, up_nj, gf_ne, gf_in, sa_ne, sa_eq]) <;> omega)) only [reduceIte, Bool.false_eq_true, if_pos, if_neg, up_ne, up_eq, up_nj, gf_ne, gf_in, sa_ne, sa_eq, and_self, true_and, and_true, p_94_14, p_94_15, q_94_16, p_94_19, p_94_61, p_94_62, hN]
    rw [sumf, Int.add_zero]
  | succ m ih =>
    intro i acc h0 h1 h2 h3
    have b := h i h0 (by omega)
    have b2 := hw i h0 (by omega)
    rw [sumf]
    by_cases e : G 61 i = G 72 i
    · by_cases e' : G 62 i = G 73 i
      · simp (disch := first | omega | ((simp (disch := omega) only [up_ne, up_eq, up_nj, gf_ne, gf_in, sa_ne, sa_eq]) <;> omega)) only [reduceIte, Bool.false_eq_true, if_pos, if_neg, up_ne, up_eq, up_nj, gf_ne, gf_in, sa_ne, sa_eq, and_self, true_and, and_true, p_94_14, p_94_15, q_94_16, p_94_19, p_94_22, p_94_23, p_94_26, p_94_27, p_94_28, p_94_29, p_94_32, p_94_33, p_94_34, p_94_37, p_94_38, p_94_41, p_94_42, p_94_43, p_94_44, p_94_47, p_94_48, p_94_49, p_94_52, p_94_55, hN]
        rw [p_94_58, ih (i + 1) acc (by omega) (by omega) (by omega) (by omega)]
        rw [Int.zero_add]
      · simp (disch := first | omega | ((simp (disch := omega) only [up_ne, up_eq, up_nj, gf_ne, gf_in, sa_ne, sa_eq]) <;> omega)) only [reduceIte, Bool.false_eq_true, if_pos, if_neg, up_ne, up_eq, up_nj, gf_ne, gf_in, sa_ne, sa_eq, and_self, true_and, and_true, p_94_14, p_94_15, q_94_16, p_94_19, p_94_22, p_94_23, p_94_26, p_94_27, p_94_28, p_94_29, p_94_32, p_94_33, p_94_34, p_94_37, p_94_38, p_94_41, p_94_42, p_94_43, p_94_44, p_94_47, p_94_48, p_94_49, p_94_52, p_94_55, hN]
        rw [p_94_58, ih (i + 1) (acc + 1) (by omega) (by omega) (by omega) (by omega)]
        rw [Int.add_assoc]
    · simp (disch := first | omega | ((simp (disch := omega) only [up_ne, up_eq, up_nj, gf_ne, gf_in, sa_ne, sa_eq]) <;> omega)) only [reduceIte, Bool.false_eq_true, if_pos, if_neg, up_ne, up_eq, up_nj, gf_ne, gf_in, sa_ne, sa_eq, and_self, true_and, and_true, p_94_14, p_94_15, q_94_16, p_94_19, p_94_22, p_94_23, p_94_26, p_94_27, p_94_28, p_94_29, p_94_32, p_94_33, p_94_34, p_94_37, p_94_38, p_94_41, p_94_42, p_94_43, p_94_44, p_94_47, p_94_48, p_94_49, p_94_52, p_94_55, hN]
      rw [p_94_58, ih (i + 1) (acc + 1) (by omega) (by omega) (by omega) (by omega)]
      rw [Int.add_assoc]
theorem pair_mend {G : AG} (hR : Rel G) : Pair 57 94 [] [vU, vU] G := by
  obtain ⟨GX, GM, D, h1, h2, hRM, h25, kX, k13, hD⟩ := both_plan (near := 1) (cost := 1000) hR (Or.inr ⟨rfl, rfl⟩)
  obtain ⟨hm0, hm1, hm2, hm3, hm4, hm5, hm6⟩ := id hR.1
  obtain ⟨ha0, ha1, ha2, ha3, ha4, ha5, ha6⟩ := id hR.2.1
  have hs := hRM.2.2.1.slots
  have hs0 := hR.2.2.1.slots
  have hM := hRM.2.2.1.mo hRM.2.1.2.1 hRM.1.2.1
  have hp10 := hR.2.2.1.2.2.2.2.2.2.2.2.2
  have e136 : GM 13 6 = G 13 6 := by rw [k13]
  refine ⟨some (vI (sumf (fun s => if D s = G 14 s then 0 else 1) (G 13 6).toNat 0)), GX, GM, ?_, ?_, hRM, h25⟩
  · unfold Ret
    simp (disch := first | omega | ((simp (disch := omega) only [up_ne, up_eq, up_nj, gf_ne, gf_in, sa_ne, sa_eq]) <;> omega)) only [reduceIte, Bool.false_eq_true, if_pos, if_neg, up_ne, up_eq, up_nj, gf_ne, gf_in, sa_ne, sa_eq, and_self, true_and, and_true, p_57_0, p_57_1, p_57_4]
    rw [p_57_7 (d := 29) h1]
    simp (disch := first | omega | ((simp (disch := omega) only [up_ne, up_eq, up_nj, gf_ne, gf_in, sa_ne, sa_eq]) <;> omega)) only [reduceIte, Bool.false_eq_true, if_pos, if_neg, up_ne, up_eq, up_nj, gf_ne, gf_in, sa_ne, sa_eq, and_self, true_and, and_true, p_57_10]
  · unfold Ret
    simp (disch := first | omega | ((simp (disch := omega) only [up_ne, up_eq, up_nj, gf_ne, gf_in, sa_ne, sa_eq]) <;> omega)) only [reduceIte, Bool.false_eq_true, if_pos, if_neg, up_ne, up_eq, up_nj, gf_ne, gf_in, sa_ne, sa_eq, and_self, true_and, and_true, p_94_0, p_94_1, p_94_2, p_94_5, p_94_6]
    rw [p_94_7 (d := 29) h2]
    simp (disch := first | omega | ((simp (disch := omega) only [up_ne, up_eq, up_nj, gf_ne, gf_in, sa_ne, sa_eq]) <;> omega)) only [reduceIte, Bool.false_eq_true, if_pos, if_neg, up_ne, up_eq, up_nj, gf_ne, gf_in, sa_ne, sa_eq, and_self, true_and, and_true, p_94_10, p_94_11r, p_94_12, p_94_13]
    rw [l_md (d := 20) hM (n := G 13 6) (by omega) (by omega) (fun t q1 q2 => ?_) (G 13 6).toNat 0 0 (by omega) (by omega) (by omega) (by omega), Int.zero_add]
    · refine ⟨?_, rfl⟩
      congr 2
      refine sumf_cong _ _ (fun k q1 q2 => ?_)
      obtain ⟨d1, d2, d3, d4, d5, d6⟩ := hD k q1 (by omega)
      have h3 := hp10 k q1 (by omega)
      have h4 := aO_cs (D k)
      show (if GM 61 k = GM 72 k ∧ GM 62 k = GM 73 k then (0 : Int) else 1) = if D k = G 14 k then 0 else 1
      rw [d1, d2, d3, d4]
      generalize D k = z at *
      by_cases u : z = G 14 k
      · rw [if_pos u, if_pos (by omega)]
      · rw [if_neg u, if_neg (by omega)]
    · obtain ⟨d1, d2, d3, d4, d5, d6⟩ := hD t q1 q2
      have h3 := hp10 t q1 (by omega)
      rw [d3, d4]
      omega
