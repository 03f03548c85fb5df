/-! which row is ahead -/
def lexlt (u v : Int → Int) : Nat → Int → Bool
  | 0, _ => false
  | m + 1, s => if u s = v s then lexlt u v m (s + 1) else decide (u s < v s)
/-- the rows that sets stand for -/
def RWS (G : AG) (a : Nat) (E S : Int) (u : Int → Int) : Prop := ∀ e i : Int, 0 ≤ e → e < E → 0 ≤ i → i < S → 0 ≤ G a e ∧ G a e < 64 ∧ 0 ≤ u (e * S + i) ∧ u (e * S + i) ≤ 36 ∧ G 75 (3 * (64 * e + G a e) + i) = aO (u (e * S + i)) ∧ G 76 (3 * (64 * e + G a e) + i) = mO (u (e * S + i))
theorem aO_cs (q : Int) : (q = 36 ∧ aO q = -1 ∧ mO q = -1) ∨ (q ≠ 36 ∧ aO q = q / 6 ∧ mO q = q % 6) := by
  by_cases h : q = 36
  · exact Or.inl ⟨h, if_pos h, if_pos h⟩
  · exact Or.inr ⟨h, if_neg h, if_neg h⟩
theorem aO_rng {q : Int} (h : 0 ≤ q ∧ q ≤ 36) : -1 ≤ aO q ∧ aO q < 6 ∧ -1 ≤ mO q ∧ mO q < 6 := by
  have := aO_cs q
  omega
theorem l_ah1 {d : Nat} {G : AG} {Q : Option AV → AG → Prop} {E S e : Int} {u v : Int → Int} {b : Bool} {R : Nat} (hS : 1 ≤ S ∧ S ≤ 3) (hS2 : G 54 11 = S) (he : 0 ≤ e ∧ e < E) (hE3 : E ≤ 3) (hU : RWS G 77 E S u) (hV : RWS G 78 E S v)
    (K : ∀ (l3 l4 : AV), lexlt u v R (e * S + S) = b → Ends d 91 156 [vR 54, vI e, vI S, l3, l4] [] G Q) (Kr : Q (some (vI (if b = true then 1 else 0))) G) :
    ∀ (m : Nat) (i : Int) (l3 l4 : AV), 0 ≤ i → i + m = S → lexlt u v (m + R) (e * S + i) = b → Ends d 91 12 [vR 54, vI e, vI i, l3, l4] [] G Q := by
  intro m
  induction m with
  | zero =>
    intro i l3 l4 h0 h1 hb
    have ei : i = S := by omega
    subst ei
    simp (disch := first | omega | ((simp (disch := omega) only [up_ne, up_eq, up_nj, gf_ne, gf_in, sa_ne, sa_eq]) <;> omega)) only [reduceIte, Bool.false_eq_true, if_pos, if_neg, up_ne, up_eq, up_nj, gf_ne, gf_in, sa_ne, sa_eq, and_self, true_and, and_true, p_91_12, p_91_13, p_91_14, p_91_17, hS2]
    exact K l3 l4 (by simpa using hb)
  | succ m ih =>
    intro i l3 l4 h0 h1 hb
    obtain ⟨a1, a2, a3, a4, a5, a6⟩ := hU e i he.1 he.2 h0 (by omega)
    obtain ⟨b1, b2, b3, b4, b5, b6⟩ := hV e i he.1 he.2 h0 (by omega)
    have ru := aO_rng ⟨a3, a4⟩
    have rv := aO_rng ⟨b3, b4⟩
    have cu := aO_cs (u (e * S + i))
    have cv := aO_cs (v (e * S + i))
    rw [show m + 1 + R = m + R + 1 by omega, lexlt] at hb
    by_cases ea : aO (u (e * S + i)) = aO (v (e * S + i))
    · by_cases em : mO (u (e * S + i)) = mO (v (e * S + i))
      · have euv : u (e * S + i) = v (e * S + i) := by omega
        rw [if_pos euv, show e * S + i + 1 = e * S + (i + 1) by omega] at hb
        simp (disch := first | omega | ((simp (disch := omega) only [up_ne, up_eq, up_nj, gf_ne, gf_in, sa_ne, sa_eq]) <;> omega)) only [reduceIte, Bool.false_eq_true, if_pos, if_neg, up_ne, up_eq, up_nj, gf_ne, gf_in, sa_ne, sa_eq, and_self, true_and, and_true, p_91_12, p_91_13, p_91_14, p_91_17, p_91_20, p_91_21, p_91_23, p_91_24, p_91_25, p_91_26, p_91_29, p_91_30, p_91_31, p_91_32, p_91_33, p_91_34, p_91_35, p_91_36, p_91_37, p_91_39, p_91_40, p_91_41, p_91_42, p_91_45, p_91_46, p_91_47, p_91_48, p_91_49, p_91_50, p_91_51, p_91_53, p_91_54, p_91_57, p_91_58, p_91_59, p_91_60, p_91_63, p_91_65, p_91_66, p_91_69, p_91_70, p_91_73, p_91_75, p_91_76, p_91_77, p_91_80, p_91_81, p_91_84, p_91_85, p_91_86, p_91_87, p_91_90, p_91_91, p_91_94, p_91_95, p_91_96, p_91_97, p_91_100, p_91_102, p_91_103, p_91_106, p_91_107, p_91_110, p_91_111, p_91_112, p_91_113, p_91_116, p_91_117, p_91_118, p_91_119, p_91_122, p_91_124, p_91_125, p_91_128, p_91_129, p_91_132, p_91_133, p_91_134, p_91_135, p_91_138, p_91_140, p_91_141, p_91_144, p_91_145, p_91_148, p_91_149, p_91_150, hS2, a5, a6, b5, b6]
        rw [p_91_153]
        exact ih (i + 1) _ _ (by omega) (by omega) hb
      · have euv : ¬ u (e * S + i) = v (e * S + i) := fun z => em (by rw [z])
        rw [if_neg euv] at hb
        have key : decide (u (e * S + i) < v (e * S + i)) = decide (mO (u (e * S + i)) < mO (v (e * S + i))) := by
          rw [decide_eq_decide]
          omega
        by_cases w : mO (u (e * S + i)) < mO (v (e * S + i))
        · rw [← hb, key] at Kr
          simp (disch := first | omega | ((simp (disch := omega) only [up_ne, up_eq, up_nj, gf_ne, gf_in, sa_ne, sa_eq]) <;> omega)) only [reduceIte, Bool.false_eq_true, if_pos, if_neg, up_ne, up_eq, up_nj, gf_ne, gf_in, sa_ne, sa_eq, and_self, true_and, and_true, p_91_12, p_91_13, p_91_14, p_91_17, p_91_20, p_91_21, p_91_23, p_91_24, p_91_25, p_91_26, p_91_29, p_91_30, p_91_31, p_91_32, p_91_33, p_91_34, p_91_35, p_91_36, p_91_37, p_91_39, p_91_40, p_91_41, p_91_42, p_91_45, p_91_46, p_91_47, p_91_48, p_91_49, p_91_50, p_91_51, p_91_53, p_91_54, p_91_57, p_91_58, p_91_59, p_91_60, p_91_63, p_91_65, p_91_66, p_91_69, p_91_70, p_91_73, p_91_75, p_91_76, p_91_77, p_91_80, p_91_81, p_91_84, p_91_85, p_91_86, p_91_87, p_91_90, p_91_91, p_91_94, p_91_95, p_91_96, p_91_97, p_91_100, p_91_102, p_91_103, p_91_106, p_91_107, p_91_110, p_91_111, p_91_112, p_91_113, p_91_116, p_91_117, p_91_118, p_91_119, p_91_122, p_91_124, p_91_125, p_91_128, p_91_129, p_91_132, p_91_133, p_91_134, p_91_135, p_91_138, p_91_140, p_91_141, p_91_144, p_91_145, p_91_148, p_91_149, p_91_150, hS2, a5, a6, b5, b6]
          simpa [w] using Kr
        · rw [← hb, key] at Kr
          simp (disch := first | omega | ((simp (disch := omega) only [up_ne, up_eq, up_nj, gf_ne, gf_in, sa_ne, sa_eq]) <;> omega)) only [reduceIte, Bool.false_eq_true, if_pos, if_neg, up_ne, up_eq, up_nj, gf_ne, gf_in, sa_ne, sa_eq, and_self, true_and, and_true, p_91_12, p_91_13, p_91_14, p_91_17, p_91_20, p_91_21, p_91_23, p_91_24, p_91_25, p_91_26, p_91_29, p_91_30, p_91_31, p_91_32, p_91_33, p_91_34, p_91_35, p_91_36, p_91_37, p_91_39, p_91_40, p_91_41, p_91_42, p_91_45, p_91_46, p_91_47, p_91_48, p_91_49, p_91_50, p_91_51, p_91_53, p_91_54, p_91_57, p_91_58, p_91_59, p_91_60, p_91_63, p_91_65, p_91_66, p_91_69, p_91_70, p_91_73, p_91_75, p_91_76, p_91_77, p_91_80, p_91_81, p_91_84, p_91_85, p_91_86, p_91_87, p_91_90, p_91_91, p_91_94, p_91_95, p_91_96, p_91_97, p_91_100, p_91_102, p_91_103, p_91_106, p_91_107, p_91_110, p_91_111, p_91_112, p_91_113, p_91_116, p_91_117, p_91_118, p_91_119, p_91_122, p_91_124, p_91_125, p_91_128, p_91_129, p_91_132, p_91_133, p_91_134, p_91_135, p_91_138, p_91_140, p_91_141, p_91_144, p_91_145, p_91_148, p_91_149, p_91_150, hS2, a5, a6, b5, b6]
          simpa [w] using Kr
    · have euv : ¬ u (e * S + i) = v (e * S + i) := fun z => ea (by rw [z])
      rw [if_neg euv] at hb
      by_cases w1 : aO (v (e * S + i)) = -1
      · have w : u (e * S + i) < v (e * S + i) := by omega
        rw [← hb] at Kr
        simp (disch := first | omega | ((simp (disch := omega) only [up_ne, up_eq, up_nj, gf_ne, gf_in, sa_ne, sa_eq]) <;> omega)) only [reduceIte, Bool.false_eq_true, if_pos, if_neg, up_ne, up_eq, up_nj, gf_ne, gf_in, sa_ne, sa_eq, and_self, true_and, and_true, p_91_12, p_91_13, p_91_14, p_91_17, p_91_20, p_91_21, p_91_23, p_91_24, p_91_25, p_91_26, p_91_29, p_91_30, p_91_31, p_91_32, p_91_33, p_91_34, p_91_35, p_91_36, p_91_37, p_91_39, p_91_40, p_91_41, p_91_42, p_91_45, p_91_46, p_91_47, p_91_48, p_91_49, p_91_50, p_91_51, p_91_53, p_91_54, p_91_57, p_91_58, p_91_59, p_91_60, p_91_63, p_91_65, p_91_66, p_91_69, p_91_70, p_91_73, p_91_75, p_91_76, p_91_77, p_91_80, p_91_81, p_91_84, p_91_85, p_91_86, p_91_87, p_91_90, p_91_91, p_91_94, p_91_95, p_91_96, p_91_97, p_91_100, p_91_102, p_91_103, p_91_106, p_91_107, p_91_110, p_91_111, p_91_112, p_91_113, p_91_116, p_91_117, p_91_118, p_91_119, p_91_122, p_91_124, p_91_125, p_91_128, p_91_129, p_91_132, p_91_133, p_91_134, p_91_135, p_91_138, p_91_140, p_91_141, p_91_144, p_91_145, p_91_148, p_91_149, p_91_150, hS2, a5, a6, b5, b6]
        simpa [w] using Kr
      · by_cases w2 : aO (u (e * S + i)) = -1
        · have w : ¬ u (e * S + i) < v (e * S + i) := by omega
          rw [← hb] at Kr
          simp (disch := first | omega | ((simp (disch := omega) only [up_ne, up_eq, up_nj, gf_ne, gf_in, sa_ne, sa_eq]) <;> omega)) only [reduceIte, Bool.false_eq_true, if_pos, if_neg, up_ne, up_eq, up_nj, gf_ne, gf_in, sa_ne, sa_eq, and_self, true_and, and_true, p_91_12, p_91_13, p_91_14, p_91_17, p_91_20, p_91_21, p_91_23, p_91_24, p_91_25, p_91_26, p_91_29, p_91_30, p_91_31, p_91_32, p_91_33, p_91_34, p_91_35, p_91_36, p_91_37, p_91_39, p_91_40, p_91_41, p_91_42, p_91_45, p_91_46, p_91_47, p_91_48, p_91_49, p_91_50, p_91_51, p_91_53, p_91_54, p_91_57, p_91_58, p_91_59, p_91_60, p_91_63, p_91_65, p_91_66, p_91_69, p_91_70, p_91_73, p_91_75, p_91_76, p_91_77, p_91_80, p_91_81, p_91_84, p_91_85, p_91_86, p_91_87, p_91_90, p_91_91, p_91_94, p_91_95, p_91_96, p_91_97, p_91_100, p_91_102, p_91_103, p_91_106, p_91_107, p_91_110, p_91_111, p_91_112, p_91_113, p_91_116, p_91_117, p_91_118, p_91_119, p_91_122, p_91_124, p_91_125, p_91_128, p_91_129, p_91_132, p_91_133, p_91_134, p_91_135, p_91_138, p_91_140, p_91_141, p_91_144, p_91_145, p_91_148, p_91_149, p_91_150, hS2, a5, a6, b5, b6]
          simpa [w] using Kr
        · by_cases w3 : aO (u (e * S + i)) < aO (v (e * S + i))
          · have w : u (e * S + i) < v (e * S + i) := by omega
            rw [← hb] at Kr
            simp (disch := first | omega | ((simp (disch := omega) only [up_ne, up_eq, up_nj, gf_ne, gf_in, sa_ne, sa_eq]) <;> omega)) only [reduceIte, Bool.false_eq_true, if_pos, if_neg, up_ne, up_eq, up_nj, gf_ne, gf_in, sa_ne, sa_eq, and_self, true_and, and_true, p_91_12, p_91_13, p_91_14, p_91_17, p_91_20, p_91_21, p_91_23, p_91_24, p_91_25, p_91_26, p_91_29, p_91_30, p_91_31, p_91_32, p_91_33, p_91_34, p_91_35, p_91_36, p_91_37, p_91_39, p_91_40, p_91_41, p_91_42, p_91_45, p_91_46, p_91_47, p_91_48, p_91_49, p_91_50, p_91_51, p_91_53, p_91_54, p_91_57, p_91_58, p_91_59, p_91_60, p_91_63, p_91_65, p_91_66, p_91_69, p_91_70, p_91_73, p_91_75, p_91_76, p_91_77, p_91_80, p_91_81, p_91_84, p_91_85, p_91_86, p_91_87, p_91_90, p_91_91, p_91_94, p_91_95, p_91_96, p_91_97, p_91_100, p_91_102, p_91_103, p_91_106, p_91_107, p_91_110, p_91_111, p_91_112, p_91_113, p_91_116, p_91_117, p_91_118, p_91_119, p_91_122, p_91_124, p_91_125, p_91_128, p_91_129, p_91_132, p_91_133, p_91_134, p_91_135, p_91_138, p_91_140, p_91_141, p_91_144, p_91_145, p_91_148, p_91_149, p_91_150, hS2, a5, a6, b5, b6]
            simpa [w] using Kr
          · have w : ¬ u (e * S + i) < v (e * S + i) := by omega
            rw [← hb] at Kr
            simp (disch := first | omega | ((simp (disch := omega) only [up_ne, up_eq, up_nj, gf_ne, gf_in, sa_ne, sa_eq]) <;> omega)) only [reduceIte, Bool.false_eq_true, if_pos, if_neg, up_ne, up_eq, up_nj, gf_ne, gf_in, sa_ne, sa_eq, and_self, true_and, and_true, p_91_12, p_91_13, p_91_14, p_91_17, p_91_20, p_91_21, p_91_23, p_91_24, p_91_25, p_91_26, p_91_29, p_91_30, p_91_31, p_91_32, p_91_33, p_91_34, p_91_35, p_91_36, p_91_37, p_91_39, p_91_40, p_91_41, p_91_42, p_91_45, p_91_46, p_91_47, p_91_48, p_91_49, p_91_50, p_91_51, p_91_53, p_91_54, p_91_57, p_91_58, p_91_59, p_91_60, p_91_63, p_91_65, p_91_66, p_91_69, p_91_70, p_91_73, p_91_75, p_91_76, p_91_77, p_91_80, p_91_81, p_91_84, p_91_85, p_91_86, p_91_87, p_91_90, p_91_91, p_91_94, p_91_95, p_91_96, p_91_97, p_91_100, p_91_102, p_91_103, p_91_106, p_91_107, p_91_110, p_91_111, p_91_112, p_91_113, p_91_116, p_91_117, p_91_118, p_91_119, p_91_122, p_91_124, p_91_125, p_91_128, p_91_129, p_91_132, p_91_133, p_91_134, p_91_135, p_91_138, p_91_140, p_91_141, p_91_144, p_91_145, p_91_148, p_91_149, p_91_150, hS2, a5, a6, b5, b6]
            simpa [w] using Kr
theorem c_isAheadM {d : Nat} {G : AG} {Q : Option AV → AG → Prop} {E S : Int} {u v : Int → Int} {b : Bool} (hS : 1 ≤ S ∧ S ≤ 3) (hS2 : G 54 11 = S) (hE : 1 ≤ E ∧ E ≤ 3) (hE2 : G 54 10 = E) (hU : RWS G 77 E S u) (hV : RWS G 78 E S v) (hb : lexlt u v (E.toNat * S.toNat) 0 = b) (Kr : Q (some (vI (if b = true then 1 else 0))) G) :
    Ends d 91 0 [vR 54, vU, vU, vU, vU] [] G Q := by
  have lp : ∀ (m : Nat) (e : Int) (l2 l3 l4 : AV), 0 ≤ e → e + m = E → lexlt u v (m * S.toNat) (e * S) = b → Ends d 91 2 [vR 54, vI e, l2, l3, l4] [] G Q := by
    intro m
    induction m with
    | zero =>
      intro e l2 l3 l4 h0 h1 h2
      have ee : e = E := by omega
      subst ee
      simp [lexlt] at h2
      rw [h2] at Kr
      simp (disch := first | omega | ((simp (disch := omega) only [up_ne, up_eq, up_nj, gf_ne, gf_in, sa_ne, sa_eq]) <;> omega)) only [reduceIte, Bool.false_eq_true, if_pos, if_neg, up_ne, up_eq, up_nj, gf_ne, gf_in, sa_ne, sa_eq, and_self, true_and, and_true, p_91_2, p_91_3, p_91_4, p_91_7, p_91_162, p_91_163, hE2]
      simpa using Kr
    | succ m ih =>
      intro e l2 l3 l4 h0 h1 h2
      rw [Nat.succ_mul, Nat.add_comm] at h2
      simp (disch := first | omega | ((simp (disch := omega) only [up_ne, up_eq, up_nj, gf_ne, gf_in, sa_ne, sa_eq]) <;> omega)) only [reduceIte, Bool.false_eq_true, if_pos, if_neg, up_ne, up_eq, up_nj, gf_ne, gf_in, sa_ne, sa_eq, and_self, true_and, and_true, p_91_2, p_91_3, p_91_4, p_91_7, p_91_10, p_91_11, hE2]
      refine l_ah1 (e := e) (E := E) (S := S) (u := u) (v := v) (b := b) (R := m * S.toNat) hS hS2 (by omega) hE.2 hU hV (fun l3 l4 h3 => ?_) Kr S.toNat 0 _ _ (by omega) (by omega) (by simpa using h2)
      simp (disch := first | omega | ((simp (disch := omega) only [up_ne, up_eq, up_nj, gf_ne, gf_in, sa_ne, sa_eq]) <;> omega)) only [reduceIte, Bool.false_eq_true, if_pos, if_neg, up_ne, up_eq, up_nj, gf_ne, gf_in, sa_ne, sa_eq, and_self, true_and, and_true, p_91_156]
      rw [p_91_159]
      refine ih (e + 1) _ _ _ (by omega) (by omega) ?_
      rw [Int.add_mul, Int.one_mul]
      exact h3
  simp (disch := first | omega | ((simp (disch := omega) only [up_ne, up_eq, up_nj, gf_ne, gf_in, sa_ne, sa_eq]) <;> omega)) only [reduceIte, Bool.false_eq_true, if_pos, if_neg, up_ne, up_eq, up_nj, gf_ne, gf_in, sa_ne, sa_eq, and_self, true_and, and_true, p_91_0, p_91_1r]
  exact lp E.toNat 0 _ _ _ (by omega) (by omega) (by simpa using hb)
/-! a row of options as one number -/
def cdU (u : Int → Int) : Nat → Int → Int
  | 0, _ => 0
  | m + 1, s => u s * f_pl s + cdU u m (s + 1)
theorem cdU_rng {u : Int → Int} : ∀ (m : Nat) (s : Int), 0 ≤ s → s + m ≤ 6 → (∀ i : Int, s ≤ i → i < s + m → 0 ≤ u i ∧ u i ≤ 36) → 0 ≤ cdU u m s ∧ (s ≤ 5 → cdU u m s < 37 * f_pl s) ∧ (m ≠ 0 → ∃ x : Int, cdU u m s = u s * f_pl s + x ∧ 0 ≤ x ∧ x < f_pl s)
  | 0, s, _, _, _ => by
    have := @f_pl_pos s
    refine ⟨by simp [cdU], fun _ => by simp only [cdU]; omega, fun h => absurd rfl h⟩
  | m + 1, s, h0, h1, h => by
    obtain ⟨i1, i2, i3⟩ := cdU_rng m (s + 1) (by omega) (by omega) (fun i q1 q2 => h i (by omega) (by omega))
    have hu := h s (by omega) (by omega)
    have hp := @f_pl_pos s
    have hx : cdU u m (s + 1) < f_pl s := by
      by_cases e : s = 5
      · have : m = 0 := by omega
        subst this
        simp only [cdU]
        omega
      · rw [f_pl_37 h0 (by omega)]
        exact i2 (by omega)
    have h2 := Int.mul_nonneg hu.1 (show 0 ≤ f_pl s by omega)
    have h3 := Int.mul_le_mul_of_nonneg_right hu.2 (show 0 ≤ f_pl s by omega)
    rw [cdU]
    exact ⟨by omega, fun _ => by omega, fun _ => ⟨_, rfl, i1, hx⟩⟩
theorem lex_cd {u v : Int → Int} : ∀ (m : Nat) (s : Int), 0 ≤ s → s + m ≤ 6 → (∀ i : Int, s ≤ i → i < s + m → 0 ≤ u i ∧ u i ≤ 36 ∧ 0 ≤ v i ∧ v i ≤ 36) → lexlt u v m s = decide (cdU u m s < cdU v m s)
  | 0, s, _, _, _ => by simp [lexlt, cdU]
  | m + 1, s, h0, h1, h => by
    have ih := lex_cd m (s + 1) (by omega) (by omega) (fun i q1 q2 => h i (by omega) (by omega))
    obtain ⟨_, _, iu⟩ := cdU_rng (u := u) (m + 1) s h0 h1 (fun i q1 q2 => ⟨(h i q1 q2).1, (h i q1 q2).2.1⟩)
    obtain ⟨_, _, iv⟩ := cdU_rng (u := v) (m + 1) s h0 h1 (fun i q1 q2 => (h i q1 q2).2.2)
    obtain ⟨x, x1, x2, x3⟩ := iu (by omega)
    obtain ⟨y, y1, y2, y3⟩ := iv (by omega)
    rw [lexlt]
    by_cases e : u s = v s
    · rw [if_pos e, ih, decide_eq_decide, cdU, cdU, e]
      omega
    · rw [if_neg e, decide_eq_decide, x1, y1]
      by_cases w : u s < v s
      · have := Int.mul_le_mul_of_nonneg_right (show u s + 1 ≤ v s by omega) (show 0 ≤ f_pl s by omega)
        rw [Int.add_mul, Int.one_mul] at this
        omega
      · have := Int.mul_le_mul_of_nonneg_right (show v s + 1 ≤ u s by omega) (show 0 ≤ f_pl s by omega)
        rw [Int.add_mul, Int.one_mul] at this
        omega
/-- the digits of such a number -/
theorem cdU_dg {u : Int → Int} : ∀ (m : Nat) (s : Int), 0 ≤ s → s + m ≤ 6 → (∀ i : Int, s ≤ i → i < s + m → 0 ≤ u i ∧ u i ≤ 36) → ∀ i : Int, s ≤ i → i < s + m → ∀ x : Int, dg (x * (37 * f_pl s) + cdU u m s) i = u i
  | 0, s, _, _, _, i, q1, q2, _ => by omega
  | m + 1, s, h0, h1, h, i, q1, q2, x => by
    by_cases e : i = s
    · subst e
      obtain ⟨_, _, iu⟩ := cdU_rng (u := u) (m + 1) i h0 h1 h
      obtain ⟨y, y1, y2, y3⟩ := iu (by omega)
      have hu := h i (by omega) (by omega)
      unfold dg
      rw [y1, show x * (37 * f_pl i) + (u i * f_pl i + y) = y + (x * 37 + u i) * f_pl i by rw [Int.add_mul, Int.mul_assoc]; omega, Int.add_mul_ediv_right _ _ (by omega), Int.ediv_eq_zero_of_lt y2 y3]
      omega
    · have ih := cdU_dg (u := u) m (s + 1) (by omega) (by omega) (fun i q1 q2 => h i (by omega) (by omega)) i (by omega) (by omega) (x * 37 + u s)
      rw [cdU, ← ih]
      congr 1
      rw [← f_pl_37 h0 (by omega), Int.add_mul, Int.mul_assoc]
      omega
