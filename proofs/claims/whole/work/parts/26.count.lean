/-! count -/
def w_f (G : AG) (i : Int) : Int := if G 14 i = 36 then 0 else 1
def w_w (G : AG) (i : Int) : Int := if G 14 i = 36 then 0 else G (7 + (G 14 i / 6).toNat) (G 14 i % 6)
def HO (G : AG) : Prop := ∀ i : Int, 0 ≤ i → i < 6 → 0 ≤ G 14 i ∧ G 14 i ≤ 36
theorem RP.ho {G : AG} (h : RP G) (hA : G 3 4 ≤ 6) (hM : G 0 2 ≤ 6) : HO G := by
  intro i q1 q2
  have := h.2.2.2.2.2.2.2.2.2 i q1 q2
  omega
theorem l_filled {d : Nat} {G : AG} {Q : Option AV → AG → Prop} (h : HO G) (hs : 0 ≤ G 13 6 ∧ G 13 6 ≤ 6) : ∀ (m : Nat) (i acc : Int), 0 ≤ i → i + m = G 13 6 → (Ends (d + 1) 37 4 [vR 13, vI acc, vI i] [] G Q ↔ Q (some (vI (acc + sumf (w_f G) m i))) G) := by
  intro m
  induction m with
  | zero =>
    intro i acc h0 h1
    simp (disch := first | omega | ((simp (disch := omega) only [up_ne, up_eq, up_nj, gf_ne, gf_in, sa_ne, sa_eq]) <;> omega)) only [reduceIte, Bool.false_eq_true, if_pos, if_neg, up_ne, up_eq, up_nj, gf_ne, gf_in, sa_ne, sa_eq, and_self, true_and, and_true, p_37_4, p_37_5, p_37_6, p_37_9, p_37_12, p_37_13, q_37_14, p_37_17, p_37_20, p_37_23, p_37_29, p_37_30]
    rw [sumf, Int.add_zero]
  | succ m ih =>
    intro i acc h0 h1
    have b := h i h0 (by omega)
    rw [sumf]
    by_cases e : G 14 i = 36
    · simp (disch := first | omega | ((simp (disch := omega) only [up_ne, up_eq, up_nj, gf_ne, gf_in, sa_ne, sa_eq]) <;> omega)) only [reduceIte, Bool.false_eq_true, if_pos, if_neg, up_ne, up_eq, up_nj, gf_ne, gf_in, sa_ne, sa_eq, and_self, true_and, and_true, p_37_4, p_37_5, p_37_6, p_37_9, p_37_12, p_37_13, q_37_14, p_37_17, p_37_20, p_37_23, p_37_29, p_37_30]
      rw [p_37_26, ih (i + 1) acc (by omega) (by omega)]
      rw [w_f, if_pos e, Int.zero_add]
    · simp (disch := first | omega | ((simp (disch := omega) only [up_ne, up_eq, up_nj, gf_ne, gf_in, sa_ne, sa_eq]) <;> omega)) only [reduceIte, Bool.false_eq_true, if_pos, if_neg, up_ne, up_eq, up_nj, gf_ne, gf_in, sa_ne, sa_eq, and_self, true_and, and_true, p_37_4, p_37_5, p_37_6, p_37_9, p_37_12, p_37_13, q_37_14, p_37_17, p_37_20, p_37_23, p_37_29, p_37_30]
      rw [p_37_26, ih (i + 1) (acc + 1) (by omega) (by omega)]
      rw [w_f, if_neg e, Int.add_assoc]
theorem l_worth {d : Nat} {G : AG} {Q : Option AV → AG → Prop} (h : HO G) (hs : 0 ≤ G 13 6 ∧ G 13 6 ≤ 6) : ∀ (m : Nat) (i acc : Int), 0 ≤ i → i + m = G 13 6 → (Ends (d + 2) 38 4 [vR 13, vI acc, vI i] [] G Q ↔ Q (some (vI (acc + sumf (w_w G) m i))) G) := by
  intro m
  induction m with
  | zero =>
    intro i acc h0 h1
    simp (disch := first | omega | ((simp (disch := omega) only [up_ne, up_eq, up_nj, gf_ne, gf_in, sa_ne, sa_eq]) <;> omega)) only [reduceIte, Bool.false_eq_true, if_pos, if_neg, up_ne, up_eq, up_nj, gf_ne, gf_in, sa_ne, sa_eq, and_self, true_and, and_true, p_38_4, p_38_5, p_38_6, p_38_9, p_38_12, p_38_13, q_38_14, p_38_17, p_38_20, p_38_21, p_38_22, p_38_25, p_38_28, p_38_29, q_38_30, p_38_33, p_38_34, p_38_35, q_38_36, p_38_39, p_38_40, p_38_41r, p_38_42, p_38_48, p_38_49]
    rw [sumf, Int.add_zero]
  | succ m ih =>
    intro i acc h0 h1
    have b := h i h0 (by omega)
    rw [sumf]
    by_cases e : G 14 i = 36
    · simp (disch := first | omega | ((simp (disch := omega) only [up_ne, up_eq, up_nj, gf_ne, gf_in, sa_ne, sa_eq]) <;> omega)) only [reduceIte, Bool.false_eq_true, if_pos, if_neg, up_ne, up_eq, up_nj, gf_ne, gf_in, sa_ne, sa_eq, and_self, true_and, and_true, p_38_4, p_38_5, p_38_6, p_38_9, p_38_12, p_38_13, q_38_14, p_38_17, p_38_20, p_38_21, p_38_22, p_38_25, p_38_28, p_38_29, q_38_30, p_38_33, p_38_34, p_38_35, q_38_36, p_38_39, p_38_40, p_38_41r, p_38_42, p_38_48, p_38_49]
      rw [p_38_45, ih (i + 1) acc (by omega) (by omega)]
      rw [w_w, if_pos e, Int.zero_add]
    · simp (disch := first | omega | ((simp (disch := omega) only [up_ne, up_eq, up_nj, gf_ne, gf_in, sa_ne, sa_eq]) <;> omega)) only [reduceIte, Bool.false_eq_true, if_pos, if_neg, up_ne, up_eq, up_nj, gf_ne, gf_in, sa_ne, sa_eq, and_self, true_and, and_true, p_38_4, p_38_5, p_38_6, p_38_9, p_38_12, p_38_13, q_38_14, p_38_17, p_38_20, p_38_21, p_38_22, p_38_25, p_38_28, p_38_29, q_38_30, p_38_33, p_38_34, p_38_35, q_38_36, p_38_39, p_38_40, p_38_41r, p_38_42, p_38_48, p_38_49, artX_n e, modX_n e]
      rw [p_38_45, ih (i + 1) _ (by omega) (by omega)]
      rw [w_w, if_neg e, Int.add_assoc]
theorem c_filled {d : Nat} {G : AG} (h : HO G) (hs : 0 ≤ G 13 6 ∧ G 13 6 ≤ 6) : Ret (d + 1) 37 [vR 13, vU, vU] G (some (vI (sumf (w_f G) (G 13 6).toNat 0))) G := by
  unfold Ret
  simp (disch := first | omega | ((simp (disch := omega) only [up_ne, up_eq, up_nj, gf_ne, gf_in, sa_ne, sa_eq]) <;> omega)) only [reduceIte, Bool.false_eq_true, if_pos, if_neg, up_ne, up_eq, up_nj, gf_ne, gf_in, sa_ne, sa_eq, and_self, true_and, and_true, p_37_0, p_37_1r, p_37_2, p_37_3]
  rw [l_filled h hs (G 13 6).toNat 0 0 (by omega) (by omega), Int.zero_add]
  exact ⟨rfl, rfl⟩
theorem c_worth {d : Nat} {G : AG} (h : HO G) (hs : 0 ≤ G 13 6 ∧ G 13 6 ≤ 6) : Ret (d + 2) 38 [vR 13, vU, vU] G (some (vI (sumf (w_w G) (G 13 6).toNat 0))) G := by
  unfold Ret
  simp (disch := first | omega | ((simp (disch := omega) only [up_ne, up_eq, up_nj, gf_ne, gf_in, sa_ne, sa_eq]) <;> omega)) only [reduceIte, Bool.false_eq_true, if_pos, if_neg, up_ne, up_eq, up_nj, gf_ne, gf_in, sa_ne, sa_eq, and_self, true_and, and_true, p_38_0, p_38_1r, p_38_2, p_38_3]
  rw [l_worth h hs (G 13 6).toNat 0 0 (by omega) (by omega), Int.zero_add]
  exact ⟨rfl, rfl⟩
def m_f (G : AG) (i : Int) : Int := if G 61 i = -1 then 0 else 1
def m_w (G : AG) (i : Int) : Int := if G 61 i = -1 then 0 else G 59 (6 * G 61 i + G 62 i)
/-- the reference's slots -/
def MO (G : AG) : Prop := ∀ i : Int, 0 ≤ i → i < 6 → (G 61 i = -1 ∧ G 62 i = -1) ∨ (0 ≤ G 61 i ∧ G 61 i < 6 ∧ 0 ≤ G 62 i ∧ G 62 i < 6)
theorem l_mf {d : Nat} {G : AG} {Q : Option AV → AG → Prop} {k : Int} (h : MO G) (hs : 0 ≤ G 54 10 * G 54 11 ∧ G 54 10 * G 54 11 ≤ 6) : ∀ (m : Nat) (i acc : Int), 0 ≤ i → i + m = G 54 10 * G 54 11 → (Ends (d + 1) 84 69 [vR 54, vI k, vI acc, vI i] [] G Q ↔ Q (some (vI (acc + sumf (m_f G) m i))) G) := by
  intro m
  induction m with
  | zero =>
    intro i acc h0 h1
    simp (disch := first | omega | ((simp (disch := omega) only [up_ne, up_eq, up_nj, gf_ne, gf_in, sa_ne, sa_eq]) <;> omega)) only [reduceIte, Bool.false_eq_true, if_pos, if_neg, up_ne, up_eq, up_nj, gf_ne, gf_in, sa_ne, sa_eq, and_self, true_and, and_true, p_84_69, p_84_70, q_84_71, p_84_74, p_84_77, p_84_78, p_84_81, p_84_82, p_84_83, p_84_84, p_84_87, p_84_90, p_84_96, p_84_97]
    rw [sumf, Int.add_zero]
  | succ m ih =>
    intro i acc h0 h1
    have b := h i h0 (by omega)
    rw [sumf]
    by_cases e : G 61 i = -1
    · simp (disch := first | omega | ((simp (disch := omega) only [up_ne, up_eq, up_nj, gf_ne, gf_in, sa_ne, sa_eq]) <;> omega)) only [reduceIte, Bool.false_eq_true, if_pos, if_neg, up_ne, up_eq, up_nj, gf_ne, gf_in, sa_ne, sa_eq, and_self, true_and, and_true, p_84_69, p_84_70, q_84_71, p_84_74, p_84_77, p_84_78, p_84_81, p_84_82, p_84_83, p_84_84, p_84_87, p_84_90, p_84_96, p_84_97]
      rw [p_84_93, ih (i + 1) acc (by omega) (by omega)]
      rw [m_f, if_pos e, Int.zero_add]
    · simp (disch := first | omega | ((simp (disch := omega) only [up_ne, up_eq, up_nj, gf_ne, gf_in, sa_ne, sa_eq]) <;> omega)) only [reduceIte, Bool.false_eq_true, if_pos, if_neg, up_ne, up_eq, up_nj, gf_ne, gf_in, sa_ne, sa_eq, and_self, true_and, and_true, p_84_69, p_84_70, q_84_71, p_84_74, p_84_77, p_84_78, p_84_81, p_84_82, p_84_83, p_84_84, p_84_87, p_84_90, p_84_96, p_84_97]
      rw [p_84_93, ih (i + 1) (acc + 1) (by omega) (by omega)]
      rw [m_f, if_neg e, Int.add_assoc]
theorem l_mw {d : Nat} {G : AG} {Q : Option AV → AG → Prop} {k : Int} (h : MO G) (hs : 0 ≤ G 54 10 * G 54 11 ∧ G 54 10 * G 54 11 ≤ 6) : ∀ (m : Nat) (i acc : Int), 0 ≤ i → i + m = G 54 10 * G 54 11 → (Ends (d + 1) 84 100 [vR 54, vI k, vI acc, vI i] [] G Q ↔ Q (some (vI (acc + sumf (m_w G) m i))) G) := by
  intro m
  induction m with
  | zero =>
    intro i acc h0 h1
    simp (disch := first | omega | ((simp (disch := omega) only [up_ne, up_eq, up_nj, gf_ne, gf_in, sa_ne, sa_eq]) <;> omega)) only [reduceIte, Bool.false_eq_true, if_pos, if_neg, up_ne, up_eq, up_nj, gf_ne, gf_in, sa_ne, sa_eq, and_self, true_and, and_true, p_84_100, p_84_101, q_84_102, p_84_105, p_84_108, p_84_109, p_84_112, p_84_113, p_84_114, p_84_115, p_84_118, p_84_119, p_84_120, p_84_123, p_84_125, p_84_126, p_84_129, p_84_130, p_84_131, p_84_132, p_84_133, p_84_136, p_84_137, p_84_138, p_84_139, p_84_140, p_84_141, p_84_142, p_84_148, p_84_149]
    rw [sumf, Int.add_zero]
  | succ m ih =>
    intro i acc h0 h1
    have b := h i h0 (by omega)
    rw [sumf]
    by_cases e : G 61 i = -1
    · simp (disch := first | omega | ((simp (disch := omega) only [up_ne, up_eq, up_nj, gf_ne, gf_in, sa_ne, sa_eq]) <;> omega)) only [reduceIte, Bool.false_eq_true, if_pos, if_neg, up_ne, up_eq, up_nj, gf_ne, gf_in, sa_ne, sa_eq, and_self, true_and, and_true, p_84_100, p_84_101, q_84_102, p_84_105, p_84_108, p_84_109, p_84_112, p_84_113, p_84_114, p_84_115, p_84_118, p_84_119, p_84_120, p_84_123, p_84_125, p_84_126, p_84_129, p_84_130, p_84_131, p_84_132, p_84_133, p_84_136, p_84_137, p_84_138, p_84_139, p_84_140, p_84_141, p_84_142, p_84_148, p_84_149]
      rw [p_84_145, ih (i + 1) acc (by omega) (by omega)]
      rw [m_w, if_pos e, Int.zero_add]
    · simp (disch := first | omega | ((simp (disch := omega) only [up_ne, up_eq, up_nj, gf_ne, gf_in, sa_ne, sa_eq]) <;> omega)) only [reduceIte, Bool.false_eq_true, if_pos, if_neg, up_ne, up_eq, up_nj, gf_ne, gf_in, sa_ne, sa_eq, and_self, true_and, and_true, p_84_100, p_84_101, q_84_102, p_84_105, p_84_108, p_84_109, p_84_112, p_84_113, p_84_114, p_84_115, p_84_118, p_84_119, p_84_120, p_84_123, p_84_125, p_84_126, p_84_129, p_84_130, p_84_131, p_84_132, p_84_133, p_84_136, p_84_137, p_84_138, p_84_139, p_84_140, p_84_141, p_84_142, p_84_148, p_84_149]
      rw [p_84_145, ih (i + 1) _ (by omega) (by omega)]
      rw [m_w, if_neg e, Int.add_assoc]
theorem RP.mo {G : AG} (h : RP G) (hA : G 3 4 ≤ 6) (hM : G 0 2 ≤ 6) : MO G := by
  intro i q1 q2
  have := h.2.2.2.2.2.2.2.2.2 i q1 q2
  omega
theorem RP.slots {G : AG} (h : RP G) : 1 ≤ G 13 6 ∧ G 13 6 ≤ 6 ∧ G 54 10 * G 54 11 = G 13 6 := by
  obtain ⟨hp1, hp2, hp3, hp4, hp5, hp6, hp7, hp8, hp9, hp10⟩ := h
  rw [hp7, hp8, hp6]
  rcases (show G 13 4 = 1 ∨ G 13 4 = 2 ∨ G 13 4 = 3 by omega) with q | q | q <;> rw [q] at hp5 ⊢ <;> omega
theorem worth_eq {G : AG} (hR : Rel G) : sumf (m_w G) (G 13 6).toNat 0 = sumf (w_w G) (G 13 6).toNat 0 := by
  obtain ⟨hm0, hm1, hm2, hm3, hm4, hm5, hm6⟩ := id hR.1
  obtain ⟨ha0, ha1, ha2, ha3, ha4, ha5, ha6⟩ := id hR.2.1
  have hs := hR.2.2.1.slots
  have hp10 := hR.2.2.1.2.2.2.2.2.2.2.2.2
  refine sumf_cong _ _ (fun k q1 q2 => ?_)
  unfold m_w w_w
  rcases hp10 k q1 (by omega) with ⟨e1, e2, e3⟩ | ⟨e0, e1, e2, e3, e4, e5⟩
  · rw [if_pos e2, if_pos e1]
  · rw [if_neg (by omega), if_neg (by omega)]
    have e6 : G 14 k / 6 = G 61 k := by omega
    have e7 : G 14 k % 6 = G 62 k := by omega
    rw [e6, e7]
    exact (ha6 (G 61 k) (G 62 k) e1 (by omega) e3 (by omega)).1
theorem pair_count {G : AG} (hR : Rel G) {x : Int} (hx : -2147483648 ≤ x ∧ x < 2147483648) : Pair 53 84 [vI x] [vI x, vU, vU] G := by
  obtain ⟨hm0, hm1, hm2, hm3, hm4, hm5, hm6⟩ := id hR.1
  obtain ⟨ha0, ha1, ha2, ha3, ha4, ha5, ha6⟩ := id hR.2.1
  obtain ⟨hc1, hc2, hc3, hc4, hc5, hc6, hc7, hc8, hc9, hc10, hc11, hc12, hc13⟩ := id hR.2.2.2.1
  have hs := hR.2.2.1.slots
  have hR' := hR.thrown 0
  have hs' := hR'.2.2.1.slots
  have hO := hR.2.2.1.ho ha1 hm1
  have hM := hR'.2.2.1.mo (by simp (disch := omega) only [up_ne, up_eq, up_nj, gf_ne, gf_in, sa_ne, sa_eq]; exact ha1) (by simp (disch := omega) only [up_ne, up_eq, up_nj, gf_ne, gf_in, sa_ne, sa_eq]; exact hm1)
  have hp10 := hR.2.2.1.2.2.2.2.2.2.2.2.2
  by_cases a0 : x = 0
  · subst a0
    refine ⟨some (vI (G 0 2)), G, am_up G 54 25 0, ?_, ?_, hR', up_eq rfl rfl⟩
    · unfold Ret
      simp (disch := first | omega | ((simp (disch := omega) only [up_ne, up_eq, up_nj, gf_ne, gf_in, sa_ne, sa_eq]) <;> omega)) only [reduceIte, Bool.false_eq_true, if_pos, if_neg, up_ne, up_eq, up_nj, gf_ne, gf_in, sa_ne, sa_eq, and_self, true_and, and_true, p_53_0, p_53_1, p_53_44, p_53_45, p_53_48, p_53_51, p_53_52, p_53_53, p_53_56, p_53_59, p_53_60, p_53_61, p_53_64, p_53_67, p_53_68, p_53_69, p_53_75, p_53_76, p_53_77, p_53_83, p_53_84, p_53_85, p_53_88, p_53_91, p_53_92, p_53_93, p_53_96, p_53_99, p_53_100, p_53_101]
    · unfold Ret
      simp (disch := first | omega | ((simp (disch := omega) only [up_ne, up_eq, up_nj, gf_ne, gf_in, sa_ne, sa_eq]) <;> omega)) only [reduceIte, Bool.false_eq_true, if_pos, if_neg, up_ne, up_eq, up_nj, gf_ne, gf_in, sa_ne, sa_eq, and_self, true_and, and_true, p_84_0, p_84_1, p_84_2, p_84_5, p_84_6, p_84_7, p_84_8, p_84_52, p_84_53, p_84_56, p_84_57, p_84_58, p_84_61, p_84_62, q_84_63, p_84_66, p_84_67, p_84_68, p_84_69, p_84_70, q_84_71, p_84_74, p_84_77, p_84_78, p_84_81, p_84_82, p_84_83, p_84_84, p_84_87, p_84_90, p_84_96, p_84_97, p_84_98, p_84_99, p_84_100, p_84_101, q_84_102, p_84_105, p_84_108, p_84_109, p_84_112, p_84_113, p_84_114, p_84_115, p_84_118, p_84_119, p_84_120, p_84_123, p_84_125, p_84_126, p_84_129, p_84_130, p_84_131, p_84_132, p_84_133, p_84_136, p_84_137, p_84_138, p_84_139, p_84_140, p_84_141, p_84_142, p_84_148, p_84_149, p_84_150, p_84_151, p_84_154, p_84_155, p_84_156, p_84_159, p_84_160, p_84_161, hm2]
  by_cases a1 : x = 1
  · subst a1
    refine ⟨some (vI (G 3 4)), G, am_up G 54 25 0, ?_, ?_, hR', up_eq rfl rfl⟩
    · unfold Ret
      simp (disch := first | omega | ((simp (disch := omega) only [up_ne, up_eq, up_nj, gf_ne, gf_in, sa_ne, sa_eq]) <;> omega)) only [reduceIte, Bool.false_eq_true, if_pos, if_neg, up_ne, up_eq, up_nj, gf_ne, gf_in, sa_ne, sa_eq, and_self, true_and, and_true, p_53_0, p_53_1, p_53_44, p_53_45, p_53_48, p_53_51, p_53_52, p_53_53, p_53_56, p_53_59, p_53_60, p_53_61, p_53_64, p_53_67, p_53_68, p_53_69, p_53_75, p_53_76, p_53_77, p_53_83, p_53_84, p_53_85, p_53_88, p_53_91, p_53_92, p_53_93, p_53_96, p_53_99, p_53_100, p_53_101]
    · unfold Ret
      simp (disch := first | omega | ((simp (disch := omega) only [up_ne, up_eq, up_nj, gf_ne, gf_in, sa_ne, sa_eq]) <;> omega)) only [reduceIte, Bool.false_eq_true, if_pos, if_neg, up_ne, up_eq, up_nj, gf_ne, gf_in, sa_ne, sa_eq, and_self, true_and, and_true, p_84_0, p_84_1, p_84_2, p_84_5, p_84_6, p_84_7, p_84_8, p_84_52, p_84_53, p_84_56, p_84_57, p_84_58, p_84_61, p_84_62, q_84_63, p_84_66, p_84_67, p_84_68, p_84_69, p_84_70, q_84_71, p_84_74, p_84_77, p_84_78, p_84_81, p_84_82, p_84_83, p_84_84, p_84_87, p_84_90, p_84_96, p_84_97, p_84_98, p_84_99, p_84_100, p_84_101, q_84_102, p_84_105, p_84_108, p_84_109, p_84_112, p_84_113, p_84_114, p_84_115, p_84_118, p_84_119, p_84_120, p_84_123, p_84_125, p_84_126, p_84_129, p_84_130, p_84_131, p_84_132, p_84_133, p_84_136, p_84_137, p_84_138, p_84_139, p_84_140, p_84_141, p_84_142, p_84_148, p_84_149, p_84_150, p_84_151, p_84_154, p_84_155, p_84_156, p_84_159, p_84_160, p_84_161, ha2]
  by_cases a2 : x = 2
  · subst a2
    refine ⟨some (vI (G 13 6)), G, am_up G 54 25 0, ?_, ?_, hR', up_eq rfl rfl⟩
    · unfold Ret
      simp (disch := first | omega | ((simp (disch := omega) only [up_ne, up_eq, up_nj, gf_ne, gf_in, sa_ne, sa_eq]) <;> omega)) only [reduceIte, Bool.false_eq_true, if_pos, if_neg, up_ne, up_eq, up_nj, gf_ne, gf_in, sa_ne, sa_eq, and_self, true_and, and_true, p_53_0, p_53_1, p_53_44, p_53_45, p_53_48, p_53_51, p_53_52, p_53_53, p_53_56, p_53_59, p_53_60, p_53_61, p_53_64, p_53_67, p_53_68, p_53_69, p_53_75, p_53_76, p_53_77, p_53_83, p_53_84, p_53_85, p_53_88, p_53_91, p_53_92, p_53_93, p_53_96, p_53_99, p_53_100, p_53_101]
    · unfold Ret
      simp (disch := first | omega | ((simp (disch := omega) only [up_ne, up_eq, up_nj, gf_ne, gf_in, sa_ne, sa_eq]) <;> omega)) only [reduceIte, Bool.false_eq_true, if_pos, if_neg, up_ne, up_eq, up_nj, gf_ne, gf_in, sa_ne, sa_eq, and_self, true_and, and_true, p_84_0, p_84_1, p_84_2, p_84_5, p_84_6, p_84_7, p_84_8, p_84_52, p_84_53, p_84_56, p_84_57, p_84_58, p_84_61, p_84_62, q_84_63, p_84_66, p_84_67, p_84_68, p_84_69, p_84_70, q_84_71, p_84_74, p_84_77, p_84_78, p_84_81, p_84_82, p_84_83, p_84_84, p_84_87, p_84_90, p_84_96, p_84_97, p_84_98, p_84_99, p_84_100, p_84_101, q_84_102, p_84_105, p_84_108, p_84_109, p_84_112, p_84_113, p_84_114, p_84_115, p_84_118, p_84_119, p_84_120, p_84_123, p_84_125, p_84_126, p_84_129, p_84_130, p_84_131, p_84_132, p_84_133, p_84_136, p_84_137, p_84_138, p_84_139, p_84_140, p_84_141, p_84_142, p_84_148, p_84_149, p_84_150, p_84_151, p_84_154, p_84_155, p_84_156, p_84_159, p_84_160, p_84_161, hs.2.2]
  by_cases a3 : x = 3
  · subst a3
    refine ⟨some (vI (sumf (w_f G) (G 13 6).toNat 0)), G, am_up G 54 25 0, ?_, ?_, hR', up_eq rfl rfl⟩
    · unfold Ret
      simp (disch := first | omega | ((simp (disch := omega) only [up_ne, up_eq, up_nj, gf_ne, gf_in, sa_ne, sa_eq]) <;> omega)) only [reduceIte, Bool.false_eq_true, if_pos, if_neg, up_ne, up_eq, up_nj, gf_ne, gf_in, sa_ne, sa_eq, and_self, true_and, and_true, p_53_0, p_53_1, p_53_44, p_53_45, p_53_48, p_53_51, p_53_52, p_53_53, p_53_56, p_53_59, p_53_60, p_53_61, p_53_64, p_53_67, p_53_68, p_53_69, p_53_75, p_53_76, p_53_77, p_53_83, p_53_84, p_53_85, p_53_88, p_53_91, p_53_92, p_53_93, p_53_96, p_53_99, p_53_100, p_53_101]
      rw [p_53_72 (c_filled hO (by omega))]
      simp (disch := first | omega | ((simp (disch := omega) only [up_ne, up_eq, up_nj, gf_ne, gf_in, sa_ne, sa_eq]) <;> omega)) only [reduceIte, Bool.false_eq_true, if_pos, if_neg, up_ne, up_eq, up_nj, gf_ne, gf_in, sa_ne, sa_eq, and_self, true_and, and_true, p_53_0, p_53_1, p_53_44, p_53_45, p_53_48, p_53_51, p_53_52, p_53_53, p_53_56, p_53_59, p_53_60, p_53_61, p_53_64, p_53_67, p_53_68, p_53_69, p_53_75, p_53_76, p_53_77, p_53_83, p_53_84, p_53_85, p_53_88, p_53_91, p_53_92, p_53_93, p_53_96, p_53_99, p_53_100, p_53_101]
    · unfold Ret
      simp (disch := first | omega | ((simp (disch := omega) only [up_ne, up_eq, up_nj, gf_ne, gf_in, sa_ne, sa_eq]) <;> omega)) only [reduceIte, Bool.false_eq_true, if_pos, if_neg, up_ne, up_eq, up_nj, gf_ne, gf_in, sa_ne, sa_eq, and_self, true_and, and_true, p_84_0, p_84_1, p_84_2, p_84_5, p_84_6, p_84_7, p_84_8, p_84_52, p_84_53, p_84_56, p_84_57, p_84_58, p_84_61, p_84_62, q_84_63, p_84_66, p_84_67, p_84_68]
      rw [l_mf hM (by omega) (G 13 6).toNat 0 0 (by omega) (by rw [hs'.2.2]; simp (disch := omega) only [up_ne, up_eq, up_nj, gf_ne, gf_in, sa_ne, sa_eq]; omega), Int.zero_add]
      refine ⟨?_, rfl⟩
      congr 2
      refine sumf_cong _ _ (fun k q1 q2 => ?_)
      unfold m_f w_f
      simp (disch := omega) only [up_ne, up_eq, up_nj, gf_ne, gf_in, sa_ne, sa_eq]
      have := hp10 k q1 (by omega)
      by_cases e : G 14 k = 36
      · rw [if_pos e, if_pos (by omega)]
      · rw [if_neg e, if_neg (by omega)]
  by_cases a4 : x = 4
  · subst a4
    refine ⟨some (vI (sumf (w_w G) (G 13 6).toNat 0)), G, am_up G 54 25 0, ?_, ?_, hR', up_eq rfl rfl⟩
    · unfold Ret
      simp (disch := first | omega | ((simp (disch := omega) only [up_ne, up_eq, up_nj, gf_ne, gf_in, sa_ne, sa_eq]) <;> omega)) only [reduceIte, Bool.false_eq_true, if_pos, if_neg, up_ne, up_eq, up_nj, gf_ne, gf_in, sa_ne, sa_eq, and_self, true_and, and_true, p_53_0, p_53_1, p_53_44, p_53_45, p_53_48, p_53_51, p_53_52, p_53_53, p_53_56, p_53_59, p_53_60, p_53_61, p_53_64, p_53_67, p_53_68, p_53_69, p_53_75, p_53_76, p_53_77, p_53_83, p_53_84, p_53_85, p_53_88, p_53_91, p_53_92, p_53_93, p_53_96, p_53_99, p_53_100, p_53_101]
      rw [p_53_80 (c_worth hO (by omega))]
      simp (disch := first | omega | ((simp (disch := omega) only [up_ne, up_eq, up_nj, gf_ne, gf_in, sa_ne, sa_eq]) <;> omega)) only [reduceIte, Bool.false_eq_true, if_pos, if_neg, up_ne, up_eq, up_nj, gf_ne, gf_in, sa_ne, sa_eq, and_self, true_and, and_true, p_53_0, p_53_1, p_53_44, p_53_45, p_53_48, p_53_51, p_53_52, p_53_53, p_53_56, p_53_59, p_53_60, p_53_61, p_53_64, p_53_67, p_53_68, p_53_69, p_53_75, p_53_76, p_53_77, p_53_83, p_53_84, p_53_85, p_53_88, p_53_91, p_53_92, p_53_93, p_53_96, p_53_99, p_53_100, p_53_101]
    · unfold Ret
      simp (disch := first | omega | ((simp (disch := omega) only [up_ne, up_eq, up_nj, gf_ne, gf_in, sa_ne, sa_eq]) <;> omega)) only [reduceIte, Bool.false_eq_true, if_pos, if_neg, up_ne, up_eq, up_nj, gf_ne, gf_in, sa_ne, sa_eq, and_self, true_and, and_true, p_84_0, p_84_1, p_84_2, p_84_5, p_84_6, p_84_7, p_84_8, p_84_98, p_84_99]
      rw [l_mw hM (by omega) (G 13 6).toNat 0 0 (by omega) (by rw [hs'.2.2]; simp (disch := omega) only [up_ne, up_eq, up_nj, gf_ne, gf_in, sa_ne, sa_eq]; omega), Int.zero_add]
      refine ⟨?_, rfl⟩
      rw [← worth_eq hR]
      congr 2
  by_cases a5 : x = 5
  · subst a5
    refine ⟨some (vI (G 33 9)), G, am_up G 54 25 0, ?_, ?_, hR', up_eq rfl rfl⟩
    · unfold Ret
      simp (disch := first | omega | ((simp (disch := omega) only [up_ne, up_eq, up_nj, gf_ne, gf_in, sa_ne, sa_eq]) <;> omega)) only [reduceIte, Bool.false_eq_true, if_pos, if_neg, up_ne, up_eq, up_nj, gf_ne, gf_in, sa_ne, sa_eq, and_self, true_and, and_true, p_53_0, p_53_1, p_53_44, p_53_45, p_53_48, p_53_51, p_53_52, p_53_53, p_53_56, p_53_59, p_53_60, p_53_61, p_53_64, p_53_67, p_53_68, p_53_69, p_53_75, p_53_76, p_53_77, p_53_83, p_53_84, p_53_85, p_53_88, p_53_91, p_53_92, p_53_93, p_53_96, p_53_99, p_53_100, p_53_101]
    · unfold Ret
      simp (disch := first | omega | ((simp (disch := omega) only [up_ne, up_eq, up_nj, gf_ne, gf_in, sa_ne, sa_eq]) <;> omega)) only [reduceIte, Bool.false_eq_true, if_pos, if_neg, up_ne, up_eq, up_nj, gf_ne, gf_in, sa_ne, sa_eq, and_self, true_and, and_true, p_84_0, p_84_1, p_84_2, p_84_5, p_84_6, p_84_7, p_84_8, p_84_52, p_84_53, p_84_56, p_84_57, p_84_58, p_84_61, p_84_62, q_84_63, p_84_66, p_84_67, p_84_68, p_84_69, p_84_70, q_84_71, p_84_74, p_84_77, p_84_78, p_84_81, p_84_82, p_84_83, p_84_84, p_84_87, p_84_90, p_84_96, p_84_97, p_84_98, p_84_99, p_84_100, p_84_101, q_84_102, p_84_105, p_84_108, p_84_109, p_84_112, p_84_113, p_84_114, p_84_115, p_84_118, p_84_119, p_84_120, p_84_123, p_84_125, p_84_126, p_84_129, p_84_130, p_84_131, p_84_132, p_84_133, p_84_136, p_84_137, p_84_138, p_84_139, p_84_140, p_84_141, p_84_142, p_84_148, p_84_149, p_84_150, p_84_151, p_84_154, p_84_155, p_84_156, p_84_159, p_84_160, p_84_161, hc3]
  by_cases a6 : x = 6
  · subst a6
    refine ⟨some (vI (G 33 11)), G, am_up G 54 25 0, ?_, ?_, hR', up_eq rfl rfl⟩
    · unfold Ret
      simp (disch := first | omega | ((simp (disch := omega) only [up_ne, up_eq, up_nj, gf_ne, gf_in, sa_ne, sa_eq]) <;> omega)) only [reduceIte, Bool.false_eq_true, if_pos, if_neg, up_ne, up_eq, up_nj, gf_ne, gf_in, sa_ne, sa_eq, and_self, true_and, and_true, p_53_0, p_53_1, p_53_44, p_53_45, p_53_48, p_53_51, p_53_52, p_53_53, p_53_56, p_53_59, p_53_60, p_53_61, p_53_64, p_53_67, p_53_68, p_53_69, p_53_75, p_53_76, p_53_77, p_53_83, p_53_84, p_53_85, p_53_88, p_53_91, p_53_92, p_53_93, p_53_96, p_53_99, p_53_100, p_53_101]
    · unfold Ret
      simp (disch := first | omega | ((simp (disch := omega) only [up_ne, up_eq, up_nj, gf_ne, gf_in, sa_ne, sa_eq]) <;> omega)) only [reduceIte, Bool.false_eq_true, if_pos, if_neg, up_ne, up_eq, up_nj, gf_ne, gf_in, sa_ne, sa_eq, and_self, true_and, and_true, p_84_0, p_84_1, p_84_2, p_84_5, p_84_6, p_84_7, p_84_8, p_84_52, p_84_53, p_84_56, p_84_57, p_84_58, p_84_61, p_84_62, q_84_63, p_84_66, p_84_67, p_84_68, p_84_69, p_84_70, q_84_71, p_84_74, p_84_77, p_84_78, p_84_81, p_84_82, p_84_83, p_84_84, p_84_87, p_84_90, p_84_96, p_84_97, p_84_98, p_84_99, p_84_100, p_84_101, q_84_102, p_84_105, p_84_108, p_84_109, p_84_112, p_84_113, p_84_114, p_84_115, p_84_118, p_84_119, p_84_120, p_84_123, p_84_125, p_84_126, p_84_129, p_84_130, p_84_131, p_84_132, p_84_133, p_84_136, p_84_137, p_84_138, p_84_139, p_84_140, p_84_141, p_84_142, p_84_148, p_84_149, p_84_150, p_84_151, p_84_154, p_84_155, p_84_156, p_84_159, p_84_160, p_84_161, hc11]
  refine ⟨some (vI (-1)), G, am_up G 54 25 0, ?_, ?_, hR.thrown 0, up_eq rfl rfl⟩
  · unfold Ret
    simp (disch := first | omega | ((simp (disch := omega) only [up_ne, up_eq, up_nj, gf_ne, gf_in, sa_ne, sa_eq]) <;> omega)) only [reduceIte, Bool.false_eq_true, if_pos, if_neg, up_ne, up_eq, up_nj, gf_ne, gf_in, sa_ne, sa_eq, and_self, true_and, and_true, p_53_0, p_53_1, p_53_44, p_53_45, p_53_48, p_53_51, p_53_52, p_53_53, p_53_56, p_53_59, p_53_60, p_53_61, p_53_64, p_53_67, p_53_68, p_53_69, p_53_75, p_53_76, p_53_77, p_53_83, p_53_84, p_53_85, p_53_88, p_53_91, p_53_92, p_53_93, p_53_96, p_53_99, p_53_100, p_53_101]
  · unfold Ret
    simp (disch := first | omega | ((simp (disch := omega) only [up_ne, up_eq, up_nj, gf_ne, gf_in, sa_ne, sa_eq]) <;> omega)) only [reduceIte, Bool.false_eq_true, if_pos, if_neg, up_ne, up_eq, up_nj, gf_ne, gf_in, sa_ne, sa_eq, and_self, true_and, and_true, p_84_0, p_84_1, p_84_2, p_84_5, p_84_6, p_84_7, p_84_8, p_84_52, p_84_53, p_84_56, p_84_57, p_84_58, p_84_61, p_84_62, q_84_63, p_84_66, p_84_67, p_84_68, p_84_69, p_84_70, q_84_71, p_84_74, p_84_77, p_84_78, p_84_81, p_84_82, p_84_83, p_84_84, p_84_87, p_84_90, p_84_96, p_84_97, p_84_98, p_84_99, p_84_100, p_84_101, q_84_102, p_84_105, p_84_108, p_84_109, p_84_112, p_84_113, p_84_114, p_84_115, p_84_118, p_84_119, p_84_120, p_84_123, p_84_125, p_84_126, p_84_129, p_84_130, p_84_131, p_84_132, p_84_133, p_84_136, p_84_137, p_84_138, p_84_139, p_84_140, p_84_141, p_84_142, p_84_148, p_84_149, p_84_150, p_84_151, p_84_154, p_84_155, p_84_156, p_84_159, p_84_160, p_84_161]
