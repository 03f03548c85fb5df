/-! the class's reasons -/
def XS (G : AG) : Prop := 1 ≤ G 13 5 ∧ G 13 5 ≤ 3 ∧ 0 ≤ G 0 3 ∧ G 0 3 ≤ 12 ∧ 0 ≤ G 3 3 ∧ G 3 3 < 64 ∧ (∀ i : Int, 0 ≤ i → i < 6 → 0 ≤ G 4 i ∧ G 4 i ≤ 9 ∧ 0 ≤ G 5 i ∧ G 5 i < 64 ∧ 0 ≤ G 2 i ∧ G 2 i ≤ 15) ∧ ∀ a b : Int, 0 ≤ a → a < 6 → 0 ≤ b → b < 6 → 0 ≤ G (7 + a.toNat) b ∧ G (7 + a.toNat) b ≤ 100
theorem Rel.xs {G : AG} (hR : Rel G) : XS G := by
  obtain ⟨hm0, hm1, hm2, hm3, hm4, hm5, hm6⟩ := id hR.1
  obtain ⟨ha0, ha1, ha2, ha3, ha4, ha5, ha6⟩ := id hR.2.1
  obtain ⟨hp1, hp2, hp3, hp4, hp5, hp6, hp7, hp8, hp9, hp10⟩ := id hR.2.2.1
  refine ⟨by omega, by omega, by omega, by omega, ha3, ha4, fun i q1 q2 => ?_, fun a b q1 q2 q3 q4 => ?_⟩
  · obtain ⟨g1, g2, g3, g4, g5, g6⟩ := ha5 i q1 q2
    have := hm6 i q1 q2
    omega
  · obtain ⟨g1, g2, g3, g4, g5, g6⟩ := ha6 a b q1 q2 q3 q4
    omega
theorem artX_rng {G : AG} (h : HO G) {i : Int} (h0 : 0 ≤ i) (h1 : i < 6) : -1 ≤ artX G i ∧ artX G i < 6 ∧ (G 14 i ≠ 36 → 0 ≤ artX G i) := by
  have := h i h0 h1
  unfold artX
  split <;> omega
theorem modX_rng {G : AG} (h : HO G) {i : Int} (h0 : 0 ≤ i) (h1 : i < 6) : -1 ≤ modX G i ∧ modX G i < 6 ∧ (G 14 i ≠ 36 → 0 ≤ modX G i) := by
  have := h i h0 h1
  unfold modX
  split <;> omega
theorem artX_ne {G : AG} (hO : HO G) {i : Int} (h0 : 0 ≤ i) (h1 : i < 6) : artX G i ≠ -1 ↔ ¬ G 14 i = 36 := by
  have := hO i h0 h1
  unfold artX
  split <;> omega
section FaultX
variable {d : Nat} {G : AG} {Q : Option AV → AG → Prop} {r s : Int}
theorem l_x1 (hO : HO G) (hs : 0 ≤ s ∧ s < 6) : ∀ (n : Nat) (t : Int), 0 ≤ t → t + n = s → (Ends (d + 2) 41 2 [vR 13, vI s, vI t] [] G Q ↔ Q (some (vI (if any (fun t => decide (artX G t = artX G s)) n t = true then 1 else 0))) G) := by
  have bs := hO s hs.1 hs.2
  have as := artX_rng hO hs.1 hs.2
  intro n
  induction n with
  | zero =>
    intro t h0 h1
    simp (disch := first | omega | ((simp (disch := omega) only [up_ne, up_eq, up_nj, gf_ne, gf_in, sa_ne, sa_eq]) <;> omega)) only [reduceIte, Bool.false_eq_true, if_pos, if_neg, up_ne, up_eq, up_nj, gf_ne, gf_in, sa_ne, sa_eq, and_self, true_and, and_true, p_41_2, p_41_3, p_41_4, p_41_7, p_41_8, q_41_9, p_41_12, p_41_13, q_41_14, p_41_17, p_41_20, p_41_21, p_41_22, p_41_28, p_41_29, any]
  | succ n ih =>
    intro t h0 h1
    have b := hO t h0 (by omega)
    have at' := artX_rng hO h0 (show t < 6 by omega)
    by_cases e : artX G t = artX G s
    · simp (disch := first | omega | ((simp (disch := omega) only [up_ne, up_eq, up_nj, gf_ne, gf_in, sa_ne, sa_eq]) <;> omega)) only [reduceIte, Bool.false_eq_true, if_pos, if_neg, up_ne, up_eq, up_nj, gf_ne, gf_in, sa_ne, sa_eq, and_self, true_and, and_true, p_41_2, p_41_3, p_41_4, p_41_7, p_41_8, q_41_9, p_41_12, p_41_13, q_41_14, p_41_17, p_41_20, p_41_21, p_41_22, p_41_28, p_41_29, any]
      simp [e]
    · simp (disch := first | omega | ((simp (disch := omega) only [up_ne, up_eq, up_nj, gf_ne, gf_in, sa_ne, sa_eq]) <;> omega)) only [reduceIte, Bool.false_eq_true, if_pos, if_neg, up_ne, up_eq, up_nj, gf_ne, gf_in, sa_ne, sa_eq, and_self, true_and, and_true, p_41_2, p_41_3, p_41_4, p_41_7, p_41_8, q_41_9, p_41_12, p_41_13, q_41_14, p_41_17, p_41_20, p_41_21, p_41_22, p_41_28, p_41_29]
      rw [p_41_25, ih (t + 1) (by omega) (by omega), any]
      simp [e]
theorem c_x1 (hO : HO G) (hs : 0 ≤ s ∧ s < 6) : Ret (d + 2) 41 [vR 13, vI s, vU] G (some (vI (if any (fun t => decide (artX G t = artX G s)) s.toNat 0 = true then 1 else 0))) G := by
  unfold Ret
  simp (disch := first | omega | ((simp (disch := omega) only [up_ne, up_eq, up_nj, gf_ne, gf_in, sa_ne, sa_eq]) <;> omega)) only [reduceIte, Bool.false_eq_true, if_pos, if_neg, up_ne, up_eq, up_nj, gf_ne, gf_in, sa_ne, sa_eq, and_self, true_and, and_true, p_41_0, p_41_1]
  rw [l_x1 hO hs s.toNat 0 (by omega) (by omega)]
  exact ⟨rfl, rfl⟩
/-- what is asked of one ahead -/
def clX (G : AG) (r t s : Int) : Bool := if r = 4 then decide (modX G t = modX G s) else if r = 5 then decide (G 4 (artX G s) < G 4 (artX G t)) else tb (G 5 (artX G s)) (artX G t)
theorem c_clash (hO : HO G) (hX : XS G) {t : Int} (hr : r = 4 ∨ r = 5 ∨ r = 6) (hs : 0 ≤ s ∧ s < 6) (ht : 0 ≤ t ∧ t < 6) (hs2 : G 14 s ≠ 36) (ht2 : G 14 t ≠ 36) : Ret (d + 2) 43 [vR 13, vI r, vI t, vI s] G (some (vI (if clX G r t s = true then 1 else 0))) G := by
  have bs := hO s hs.1 hs.2
  have as := artX_rng hO hs.1 hs.2
  have ms := modX_rng hO hs.1 hs.2
  have bt := hO t ht.1 ht.2
  have at' := artX_rng hO ht.1 ht.2
  have mt := modX_rng hO ht.1 ht.2
  have as' := as.2.2 hs2
  have att := at'.2.2 ht2
  have x1 := hX.2.2.2.2.2.2.1 (artX G s) as' as.2.1
  have x2 := hX.2.2.2.2.2.2.1 (artX G t) att at'.2.1
  unfold Ret
  rcases hr with rfl | rfl | rfl
  · by_cases e : modX G t = modX G s
    · simp (disch := first | omega | ((simp (disch := omega) only [up_ne, up_eq, up_nj, gf_ne, gf_in, sa_ne, sa_eq]) <;> omega)) only [reduceIte, Bool.false_eq_true, if_pos, if_neg, up_ne, up_eq, up_nj, gf_ne, gf_in, sa_ne, sa_eq, and_self, true_and, and_true, p_43_0, p_43_1, p_43_28, p_43_29, q_43_30, p_43_33, p_43_34, q_43_35, p_43_38, p_43_41, p_43_42, p_43_45, p_43_46, p_43_47, p_43_48, p_43_51, p_43_54, p_43_55, q_43_56, p_43_59, p_43_60, p_43_61, p_43_64, p_43_67, p_43_68, q_43_69, p_43_72, p_43_73, p_43_76, p_43_77, p_43_80, p_43_81, p_43_82, p_43_83, p_43_86, p_43_89, p_43_90, q_43_91, p_43_94, p_43_95, p_43_96, q_43_97, q_43_100, p_43_103]
      simp [clX, e]
    · simp (disch := first | omega | ((simp (disch := omega) only [up_ne, up_eq, up_nj, gf_ne, gf_in, sa_ne, sa_eq]) <;> omega)) only [reduceIte, Bool.false_eq_true, if_pos, if_neg, up_ne, up_eq, up_nj, gf_ne, gf_in, sa_ne, sa_eq, and_self, true_and, and_true, p_43_0, p_43_1, p_43_28, p_43_29, q_43_30, p_43_33, p_43_34, q_43_35, p_43_38, p_43_41, p_43_42, p_43_45, p_43_46, p_43_47, p_43_48, p_43_51, p_43_54, p_43_55, q_43_56, p_43_59, p_43_60, p_43_61, p_43_64, p_43_67, p_43_68, q_43_69, p_43_72, p_43_73, p_43_76, p_43_77, p_43_80, p_43_81, p_43_82, p_43_83, p_43_86, p_43_89, p_43_90, q_43_91, p_43_94, p_43_95, p_43_96, q_43_97, q_43_100, p_43_103]
      simp [clX, e]
  · by_cases e : G 4 (artX G s) < G 4 (artX G t)
    · simp (disch := first | omega | ((simp (disch := omega) only [up_ne, up_eq, up_nj, gf_ne, gf_in, sa_ne, sa_eq]) <;> omega)) only [reduceIte, Bool.false_eq_true, if_pos, if_neg, up_ne, up_eq, up_nj, gf_ne, gf_in, sa_ne, sa_eq, and_self, true_and, and_true, p_43_0, p_43_1, p_43_28, p_43_29, q_43_30, p_43_33, p_43_34, q_43_35, p_43_38, p_43_41, p_43_42, p_43_45, p_43_46, p_43_47, p_43_48, p_43_51, p_43_54, p_43_55, q_43_56, p_43_59, p_43_60, p_43_61, p_43_64, p_43_67, p_43_68, q_43_69, p_43_72, p_43_73, p_43_76, p_43_77, p_43_80, p_43_81, p_43_82, p_43_83, p_43_86, p_43_89, p_43_90, q_43_91, p_43_94, p_43_95, p_43_96, q_43_97, q_43_100, p_43_103]
      simp [clX, e]
    · simp (disch := first | omega | ((simp (disch := omega) only [up_ne, up_eq, up_nj, gf_ne, gf_in, sa_ne, sa_eq]) <;> omega)) only [reduceIte, Bool.false_eq_true, if_pos, if_neg, up_ne, up_eq, up_nj, gf_ne, gf_in, sa_ne, sa_eq, and_self, true_and, and_true, p_43_0, p_43_1, p_43_28, p_43_29, q_43_30, p_43_33, p_43_34, q_43_35, p_43_38, p_43_41, p_43_42, p_43_45, p_43_46, p_43_47, p_43_48, p_43_51, p_43_54, p_43_55, q_43_56, p_43_59, p_43_60, p_43_61, p_43_64, p_43_67, p_43_68, q_43_69, p_43_72, p_43_73, p_43_76, p_43_77, p_43_80, p_43_81, p_43_82, p_43_83, p_43_86, p_43_89, p_43_90, q_43_91, p_43_94, p_43_95, p_43_96, q_43_97, q_43_100, p_43_103]
      simp [clX, e]
  · by_cases e : tb (G 5 (artX G s)) (artX G t) = true
    · simp (disch := first | omega | ((simp (disch := omega) only [up_ne, up_eq, up_nj, gf_ne, gf_in, sa_ne, sa_eq]) <;> omega)) only [reduceIte, Bool.false_eq_true, if_pos, if_neg, up_ne, up_eq, up_nj, gf_ne, gf_in, sa_ne, sa_eq, and_self, true_and, and_true, p_43_0, p_43_1, p_43_28, p_43_29, q_43_30, p_43_33, p_43_34, q_43_35, p_43_38, p_43_41, p_43_42, p_43_45, p_43_46, p_43_47, p_43_48, p_43_51, p_43_54, p_43_55, q_43_56, p_43_59, p_43_60, p_43_61, p_43_64, p_43_67, p_43_68, q_43_69, p_43_72, p_43_73, p_43_76, p_43_77, p_43_80, p_43_81, p_43_82, p_43_83, p_43_86, p_43_89, p_43_90, q_43_91, p_43_94, p_43_95, p_43_96, q_43_97, q_43_100, p_43_103, e]
      simp [clX, e]
    · simp (disch := first | omega | ((simp (disch := omega) only [up_ne, up_eq, up_nj, gf_ne, gf_in, sa_ne, sa_eq]) <;> omega)) only [reduceIte, Bool.false_eq_true, if_pos, if_neg, up_ne, up_eq, up_nj, gf_ne, gf_in, sa_ne, sa_eq, and_self, true_and, and_true, p_43_0, p_43_1, p_43_28, p_43_29, q_43_30, p_43_33, p_43_34, q_43_35, p_43_38, p_43_41, p_43_42, p_43_45, p_43_46, p_43_47, p_43_48, p_43_51, p_43_54, p_43_55, q_43_56, p_43_59, p_43_60, p_43_61, p_43_64, p_43_67, p_43_68, q_43_69, p_43_72, p_43_73, p_43_76, p_43_77, p_43_80, p_43_81, p_43_82, p_43_83, p_43_86, p_43_89, p_43_90, q_43_91, p_43_94, p_43_95, p_43_96, q_43_97, q_43_100, p_43_103, e]
      simp [clX, e]
theorem l_x4 (hO : HO G) (hX : XS G) (hr : r = 4 ∨ r = 5 ∨ r = 6) (hs : 0 ≤ s ∧ s < 6) (hs2 : G 14 s ≠ 36) : ∀ (n : Nat) (t : Int), 0 ≤ t → t + n = s → (Ends (d + 3) 42 9 [vR 13, vI r, vI s, vI t] [] G Q ↔ Q (some (vI (if any (fun t => decide (artX G t ≠ -1) && clX G r t s) n t = true then 1 else 0))) G) := by
  intro n
  induction n with
  | zero =>
    intro t h0 h1
    simp (disch := first | omega | ((simp (disch := omega) only [up_ne, up_eq, up_nj, gf_ne, gf_in, sa_ne, sa_eq]) <;> omega)) only [reduceIte, Bool.false_eq_true, if_pos, if_neg, up_ne, up_eq, up_nj, gf_ne, gf_in, sa_ne, sa_eq, and_self, true_and, and_true, p_42_9, p_42_10, p_42_11, p_42_14, p_42_15, q_42_16, p_42_19, p_42_22, p_42_23, p_42_24, p_42_25, p_42_29, p_42_32, p_42_33, p_42_34, p_42_40, p_42_41, any]
  | succ n ih =>
    intro t h0 h1
    have b := hO t h0 (by omega)
    have hne := artX_ne hO h0 (show t < 6 by omega)
    by_cases e : G 14 t = 36
    · simp (disch := first | omega | ((simp (disch := omega) only [up_ne, up_eq, up_nj, gf_ne, gf_in, sa_ne, sa_eq]) <;> omega)) only [reduceIte, Bool.false_eq_true, if_pos, if_neg, up_ne, up_eq, up_nj, gf_ne, gf_in, sa_ne, sa_eq, and_self, true_and, and_true, p_42_9, p_42_10, p_42_11, p_42_14, p_42_15, q_42_16, p_42_19, p_42_22, p_42_23, p_42_24, p_42_25, p_42_29, p_42_32, p_42_33, p_42_34, p_42_40, p_42_41]
      rw [p_42_37, ih (t + 1) (by omega) (by omega), any, artX_e e]
      simp
    · have hne2 := hne.mpr e
      simp (disch := first | omega | ((simp (disch := omega) only [up_ne, up_eq, up_nj, gf_ne, gf_in, sa_ne, sa_eq]) <;> omega)) only [reduceIte, Bool.false_eq_true, if_pos, if_neg, up_ne, up_eq, up_nj, gf_ne, gf_in, sa_ne, sa_eq, and_self, true_and, and_true, p_42_9, p_42_10, p_42_11, p_42_14, p_42_15, q_42_16, p_42_19, p_42_22, p_42_23, p_42_24, p_42_25, p_42_29, p_42_32, p_42_33, p_42_34, p_42_40, p_42_41]
      rw [p_42_26 (d := d + 2) (c_clash hO hX hr hs ⟨h0, by omega⟩ hs2 e)]
      by_cases e2 : clX G r t s = true
      · simp (disch := first | omega | ((simp (disch := omega) only [up_ne, up_eq, up_nj, gf_ne, gf_in, sa_ne, sa_eq]) <;> omega)) only [reduceIte, Bool.false_eq_true, if_pos, if_neg, up_ne, up_eq, up_nj, gf_ne, gf_in, sa_ne, sa_eq, and_self, true_and, and_true, p_42_9, p_42_10, p_42_11, p_42_14, p_42_15, q_42_16, p_42_19, p_42_22, p_42_23, p_42_24, p_42_25, p_42_29, p_42_32, p_42_33, p_42_34, p_42_40, p_42_41, e2]
        rw [any]
        simp [hne2, e2]
      · simp (disch := first | omega | ((simp (disch := omega) only [up_ne, up_eq, up_nj, gf_ne, gf_in, sa_ne, sa_eq]) <;> omega)) only [reduceIte, Bool.false_eq_true, if_pos, if_neg, up_ne, up_eq, up_nj, gf_ne, gf_in, sa_ne, sa_eq, and_self, true_and, and_true, p_42_9, p_42_10, p_42_11, p_42_14, p_42_15, q_42_16, p_42_19, p_42_22, p_42_23, p_42_24, p_42_25, p_42_29, p_42_32, p_42_33, p_42_34, p_42_40, p_42_41, e2]
        rw [p_42_37, ih (t + 1) (by omega) (by omega), any]
        simp [e2]
theorem l_x7 (hO : HO G) (hX : XS G) (hs : 0 ≤ s ∧ s < 6) (hs2 : G 14 s ≠ 36) (hh : 0 ≤ G 15 s ∧ G 15 s ≤ s) : ∀ (n : Nat) (t : Int), t < s → t - n + 1 = s - G 15 s → (Ends (d + 3) 44 4 [vR 13, vI s, vI t] [] G Q ↔ Q (some (vI (if down (fun t => decide (artX G t ≠ -1)) (fun t => nrX G (modX G t) (modX G s)) n t = true then 1 else 0))) G) := by
  have bs := hO s hs.1 hs.2
  have ms := modX_rng hO hs.1 hs.2
  have ms' := ms.2.2 hs2
  have x3 := hX.2.2.1
  have x4 := hX.2.2.2.1
  intro n
  induction n with
  | zero =>
    intro t h0 h1
    simp (disch := first | omega | ((simp (disch := omega) only [up_ne, up_eq, up_nj, gf_ne, gf_in, sa_ne, sa_eq]) <;> omega)) only [reduceIte, Bool.false_eq_true, if_pos, if_neg, up_ne, up_eq, up_nj, gf_ne, gf_in, sa_ne, sa_eq, and_self, true_and, and_true, p_44_4, p_44_5, p_44_6, p_44_7, p_44_10, p_44_11, p_44_12, p_44_13, p_44_16, p_44_17, q_44_18, p_44_21, p_44_24, p_44_25, p_44_28, p_44_29, q_44_30, p_44_33, p_44_34, q_44_35, q_44_38, p_44_41, p_44_42, p_44_48, p_44_49, down]
  | succ n ih =>
    intro t h0 h1
    have b := hO t (by omega) (by omega)
    have hne := artX_ne hO (show 0 ≤ t by omega) (show t < 6 by omega)
    by_cases e : G 14 t = 36
    · simp (disch := first | omega | ((simp (disch := omega) only [up_ne, up_eq, up_nj, gf_ne, gf_in, sa_ne, sa_eq]) <;> omega)) only [reduceIte, Bool.false_eq_true, if_pos, if_neg, up_ne, up_eq, up_nj, gf_ne, gf_in, sa_ne, sa_eq, and_self, true_and, and_true, p_44_4, p_44_5, p_44_6, p_44_7, p_44_10, p_44_11, p_44_12, p_44_13, p_44_16, p_44_17, q_44_18, p_44_21, p_44_24, p_44_25, p_44_28, p_44_29, q_44_30, p_44_33, p_44_34, q_44_35, q_44_38, p_44_41, p_44_42, p_44_48, p_44_49]
      rw [p_44_45, show t + -1 = t - 1 by omega, ih (t - 1) (by omega) (by omega), down, artX_e e]
      simp
    · have hne2 := hne.mpr e
      have mt := modX_rng hO (show 0 ≤ t by omega) (show t < 6 by omega)
      have mt' := mt.2.2 e
      have b2 := f_bc_rng (f_and (G 1 (modX G t)) (G 1 (modX G s)))
      by_cases e2 : G 0 3 < f_bc (f_and (G 1 (modX G t)) (G 1 (modX G s)))
      · simp (disch := first | omega | ((simp (disch := omega) only [up_ne, up_eq, up_nj, gf_ne, gf_in, sa_ne, sa_eq]) <;> omega)) only [reduceIte, Bool.false_eq_true, if_pos, if_neg, up_ne, up_eq, up_nj, gf_ne, gf_in, sa_ne, sa_eq, and_self, true_and, and_true, p_44_4, p_44_5, p_44_6, p_44_7, p_44_10, p_44_11, p_44_12, p_44_13, p_44_16, p_44_17, q_44_18, p_44_21, p_44_24, p_44_25, p_44_28, p_44_29, q_44_30, p_44_33, p_44_34, q_44_35, q_44_38, p_44_41, p_44_42, p_44_48, p_44_49, down]
        simp [hne2, e2, nrX]
      · simp (disch := first | omega | ((simp (disch := omega) only [up_ne, up_eq, up_nj, gf_ne, gf_in, sa_ne, sa_eq]) <;> omega)) only [reduceIte, Bool.false_eq_true, if_pos, if_neg, up_ne, up_eq, up_nj, gf_ne, gf_in, sa_ne, sa_eq, and_self, true_and, and_true, p_44_4, p_44_5, p_44_6, p_44_7, p_44_10, p_44_11, p_44_12, p_44_13, p_44_16, p_44_17, q_44_18, p_44_21, p_44_24, p_44_25, p_44_28, p_44_29, q_44_30, p_44_33, p_44_34, q_44_35, q_44_38, p_44_41, p_44_42, p_44_48, p_44_49, down]
        simp [hne2, e2, nrX]
end FaultX
theorem c_isFault {d : Nat} {G : AG} {r s : Int} (hO : HO G) (hX : XS G) (hr : 0 ≤ r ∧ r < 8) (hs : 0 ≤ s ∧ s < 6) (hs2 : G 14 s ≠ 36) (h15 : G 15 s = s % G 13 5) : Ret (d + 4) 40 [vR 13, vI r, vI s, vU, vU] G (some (vI (if hldX G r s = true then 1 else 0))) G := by
  have bs := hO s hs.1 hs.2
  have as := artX_rng hO hs.1 hs.2
  have ms := modX_rng hO hs.1 hs.2
  have as' := as.2.2 hs2
  have ms' := ms.2.2 hs2
  have x1 := hX.1
  have x2 := hX.2.1
  have x5 := hX.2.2.2.2.1
  have x6 := hX.2.2.2.2.2.1
  have xm := hX.2.2.2.2.2.2.1 (modX G s) ms' ms.2.1
  have xl := hX.2.2.2.2.2.2.2 (artX G s) (modX G s) as' as.2.1 ms' ms.2.1
  have e2 : 0 ≤ s % G 13 5 := Int.emod_nonneg _ (by omega)
  have e3 : s % G 13 5 < G 13 5 := Int.emod_lt_of_pos _ (by omega)
  have e4 : s % G 13 5 ≤ s := by
    have h1 := Int.emod_add_mul_ediv s (G 13 5)
    have h2 := Int.ediv_nonneg hs.1 (show 0 ≤ G 13 5 by omega)
    have h3 := Int.mul_nonneg (show 0 ≤ G 13 5 by omega) h2
    omega
  unfold Ret hldX hld
  rcases (show r = 0 ∨ r = 1 ∨ r = 2 ∨ r = 3 ∨ r = 4 ∨ r = 5 ∨ r = 6 ∨ r = 7 by omega) with rfl | rfl | rfl | rfl | rfl | rfl | rfl | rfl
  · by_cases e : tb (G 3 3) (artX G s) = true
    · simp (disch := first | omega | ((simp (disch := omega) only [up_ne, up_eq, up_nj, gf_ne, gf_in, sa_ne, sa_eq]) <;> omega)) only [reduceIte, Bool.false_eq_true, if_pos, if_neg, up_ne, up_eq, up_nj, gf_ne, gf_in, sa_ne, sa_eq, and_self, true_and, and_true, p_40_0, p_40_1, q_40_2, p_40_5, p_40_6, p_40_7, q_40_8, p_40_11, p_40_13, p_40_14, p_40_60, p_40_61, p_40_64, p_40_67, q_40_68, p_40_71, p_40_72, p_40_73, p_40_77, p_40_78, p_40_79, p_40_82, p_40_85, p_40_86, p_40_87, p_40_89, p_40_90, p_40_93, p_40_94, p_40_97, p_40_98, p_40_99, p_40_100, p_40_103, p_40_106, p_40_108, p_40_109, p_40_110, p_40_113, p_40_114, q_40_115, p_40_118, p_40_121, p_40_122, p_40_125, p_40_126, p_40_127, p_40_128, p_40_132, p_40_133, p_40_134, p_40_135, p_40_139, e]
    · simp (disch := first | omega | ((simp (disch := omega) only [up_ne, up_eq, up_nj, gf_ne, gf_in, sa_ne, sa_eq]) <;> omega)) only [reduceIte, Bool.false_eq_true, if_pos, if_neg, up_ne, up_eq, up_nj, gf_ne, gf_in, sa_ne, sa_eq, and_self, true_and, and_true, p_40_0, p_40_1, q_40_2, p_40_5, p_40_6, p_40_7, q_40_8, p_40_11, p_40_13, p_40_14, p_40_60, p_40_61, p_40_64, p_40_67, q_40_68, p_40_71, p_40_72, p_40_73, p_40_77, p_40_78, p_40_79, p_40_82, p_40_85, p_40_86, p_40_87, p_40_89, p_40_90, p_40_93, p_40_94, p_40_97, p_40_98, p_40_99, p_40_100, p_40_103, p_40_106, p_40_108, p_40_109, p_40_110, p_40_113, p_40_114, q_40_115, p_40_118, p_40_121, p_40_122, p_40_125, p_40_126, p_40_127, p_40_128, p_40_132, p_40_133, p_40_134, p_40_135, p_40_139, e]
  · simp (disch := first | omega | ((simp (disch := omega) only [up_ne, up_eq, up_nj, gf_ne, gf_in, sa_ne, sa_eq]) <;> omega)) only [reduceIte, Bool.false_eq_true, if_pos, if_neg, up_ne, up_eq, up_nj, gf_ne, gf_in, sa_ne, sa_eq, and_self, true_and, and_true, p_40_0, p_40_1, q_40_2, p_40_5, p_40_6, p_40_7, q_40_8, p_40_11, p_40_13, p_40_14, p_40_60, p_40_61, p_40_64, p_40_67, q_40_68, p_40_71, p_40_72, p_40_73, p_40_77, p_40_78, p_40_79, p_40_82, p_40_85, p_40_86, p_40_87, p_40_89, p_40_90, p_40_93, p_40_94, p_40_97, p_40_98, p_40_99, p_40_100, p_40_103, p_40_106, p_40_108, p_40_109, p_40_110, p_40_113, p_40_114, q_40_115, p_40_118, p_40_121, p_40_122, p_40_125, p_40_126, p_40_127, p_40_128, p_40_132, p_40_133, p_40_134, p_40_135, p_40_139]
    rw [p_40_74 (d := d + 3) (c_x1 (d := d + 1) hO hs)]
    by_cases e : any (fun t => decide (artX G t = artX G s)) s.toNat 0 = true
    · simp (disch := first | omega | ((simp (disch := omega) only [up_ne, up_eq, up_nj, gf_ne, gf_in, sa_ne, sa_eq]) <;> omega)) only [reduceIte, Bool.false_eq_true, if_pos, if_neg, up_ne, up_eq, up_nj, gf_ne, gf_in, sa_ne, sa_eq, and_self, true_and, and_true, p_40_0, p_40_1, q_40_2, p_40_5, p_40_6, p_40_7, q_40_8, p_40_11, p_40_13, p_40_14, p_40_60, p_40_61, p_40_64, p_40_67, q_40_68, p_40_71, p_40_72, p_40_73, p_40_77, p_40_78, p_40_79, p_40_82, p_40_85, p_40_86, p_40_87, p_40_89, p_40_90, p_40_93, p_40_94, p_40_97, p_40_98, p_40_99, p_40_100, p_40_103, p_40_106, p_40_108, p_40_109, p_40_110, p_40_113, p_40_114, q_40_115, p_40_118, p_40_121, p_40_122, p_40_125, p_40_126, p_40_127, p_40_128, p_40_132, p_40_133, p_40_134, p_40_135, p_40_139, e]
    · simp (disch := first | omega | ((simp (disch := omega) only [up_ne, up_eq, up_nj, gf_ne, gf_in, sa_ne, sa_eq]) <;> omega)) only [reduceIte, Bool.false_eq_true, if_pos, if_neg, up_ne, up_eq, up_nj, gf_ne, gf_in, sa_ne, sa_eq, and_self, true_and, and_true, p_40_0, p_40_1, q_40_2, p_40_5, p_40_6, p_40_7, q_40_8, p_40_11, p_40_13, p_40_14, p_40_60, p_40_61, p_40_64, p_40_67, q_40_68, p_40_71, p_40_72, p_40_73, p_40_77, p_40_78, p_40_79, p_40_82, p_40_85, p_40_86, p_40_87, p_40_89, p_40_90, p_40_93, p_40_94, p_40_97, p_40_98, p_40_99, p_40_100, p_40_103, p_40_106, p_40_108, p_40_109, p_40_110, p_40_113, p_40_114, q_40_115, p_40_118, p_40_121, p_40_122, p_40_125, p_40_126, p_40_127, p_40_128, p_40_132, p_40_133, p_40_134, p_40_135, p_40_139, e]
  · by_cases e : G (7 + (artX G s).toNat) (modX G s) = 0
    · simp (disch := first | omega | ((simp (disch := omega) only [up_ne, up_eq, up_nj, gf_ne, gf_in, sa_ne, sa_eq]) <;> omega)) only [reduceIte, Bool.false_eq_true, if_pos, if_neg, up_ne, up_eq, up_nj, gf_ne, gf_in, sa_ne, sa_eq, and_self, true_and, and_true, p_40_0, p_40_1, q_40_2, p_40_5, p_40_6, p_40_7, q_40_8, p_40_11, p_40_13, p_40_14, p_40_60, p_40_61, p_40_64, p_40_67, q_40_68, p_40_71, p_40_72, p_40_73, p_40_77, p_40_78, p_40_79, p_40_82, p_40_85, p_40_86, p_40_87, p_40_89, p_40_90, p_40_93, p_40_94, p_40_97, p_40_98, p_40_99, p_40_100, p_40_103, p_40_106, p_40_108, p_40_109, p_40_110, p_40_113, p_40_114, q_40_115, p_40_118, p_40_121, p_40_122, p_40_125, p_40_126, p_40_127, p_40_128, p_40_132, p_40_133, p_40_134, p_40_135, p_40_139, e]
      simp
    · simp (disch := first | omega | ((simp (disch := omega) only [up_ne, up_eq, up_nj, gf_ne, gf_in, sa_ne, sa_eq]) <;> omega)) only [reduceIte, Bool.false_eq_true, if_pos, if_neg, up_ne, up_eq, up_nj, gf_ne, gf_in, sa_ne, sa_eq, and_self, true_and, and_true, p_40_0, p_40_1, q_40_2, p_40_5, p_40_6, p_40_7, q_40_8, p_40_11, p_40_13, p_40_14, p_40_60, p_40_61, p_40_64, p_40_67, q_40_68, p_40_71, p_40_72, p_40_73, p_40_77, p_40_78, p_40_79, p_40_82, p_40_85, p_40_86, p_40_87, p_40_89, p_40_90, p_40_93, p_40_94, p_40_97, p_40_98, p_40_99, p_40_100, p_40_103, p_40_106, p_40_108, p_40_109, p_40_110, p_40_113, p_40_114, q_40_115, p_40_118, p_40_121, p_40_122, p_40_125, p_40_126, p_40_127, p_40_128, p_40_132, p_40_133, p_40_134, p_40_135, p_40_139]
      simp [e]
  · by_cases e : tb (G 2 (modX G s)) (s % G 13 5) = true
    · simp (disch := first | omega | ((simp (disch := omega) only [up_ne, up_eq, up_nj, gf_ne, gf_in, sa_ne, sa_eq]) <;> omega)) only [reduceIte, Bool.false_eq_true, if_pos, if_neg, up_ne, up_eq, up_nj, gf_ne, gf_in, sa_ne, sa_eq, and_self, true_and, and_true, p_40_0, p_40_1, q_40_2, p_40_5, p_40_6, p_40_7, q_40_8, p_40_11, p_40_13, p_40_14, p_40_60, p_40_61, p_40_64, p_40_67, q_40_68, p_40_71, p_40_72, p_40_73, p_40_77, p_40_78, p_40_79, p_40_82, p_40_85, p_40_86, p_40_87, p_40_89, p_40_90, p_40_93, p_40_94, p_40_97, p_40_98, p_40_99, p_40_100, p_40_103, p_40_106, p_40_108, p_40_109, p_40_110, p_40_113, p_40_114, q_40_115, p_40_118, p_40_121, p_40_122, p_40_125, p_40_126, p_40_127, p_40_128, p_40_132, p_40_133, p_40_134, p_40_135, p_40_139, e, h15]
      simp
    · simp (disch := first | omega | ((simp (disch := omega) only [up_ne, up_eq, up_nj, gf_ne, gf_in, sa_ne, sa_eq]) <;> omega)) only [reduceIte, Bool.false_eq_true, if_pos, if_neg, up_ne, up_eq, up_nj, gf_ne, gf_in, sa_ne, sa_eq, and_self, true_and, and_true, p_40_0, p_40_1, q_40_2, p_40_5, p_40_6, p_40_7, q_40_8, p_40_11, p_40_13, p_40_14, p_40_60, p_40_61, p_40_64, p_40_67, q_40_68, p_40_71, p_40_72, p_40_73, p_40_77, p_40_78, p_40_79, p_40_82, p_40_85, p_40_86, p_40_87, p_40_89, p_40_90, p_40_93, p_40_94, p_40_97, p_40_98, p_40_99, p_40_100, p_40_103, p_40_106, p_40_108, p_40_109, p_40_110, p_40_113, p_40_114, q_40_115, p_40_118, p_40_121, p_40_122, p_40_125, p_40_126, p_40_127, p_40_128, p_40_132, p_40_133, p_40_134, p_40_135, p_40_139, e, h15]
      simp
  · have hc : Ret (d + 3) 42 [vR 13, vI 4, vI s, vU] G (some (vI (if any (fun t => decide (artX G t ≠ -1) && clX G 4 t s) (s % G 13 5).toNat (s - s % G 13 5) = true then 1 else 0))) G := by
      unfold Ret
      simp (disch := first | omega | ((simp (disch := omega) only [up_ne, up_eq, up_nj, gf_ne, gf_in, sa_ne, sa_eq]) <;> omega)) only [reduceIte, Bool.false_eq_true, if_pos, if_neg, up_ne, up_eq, up_nj, gf_ne, gf_in, sa_ne, sa_eq, and_self, true_and, and_true, p_42_0, p_42_1, p_42_2, p_42_5, p_42_6, p_42_7, p_42_8, h15]
      rw [l_x4 hO hX (Or.inl rfl) hs hs2 (s % G 13 5).toNat _ (by omega) (by omega)]
      exact ⟨rfl, rfl⟩
    have e9 : any (fun t => decide (artX G t ≠ -1 ∧ modX G t = modX G s)) (s % G 13 5).toNat (s - s % G 13 5) = any (fun t => decide (artX G t ≠ -1) && clX G 4 t s) (s % G 13 5).toNat (s - s % G 13 5) := any_cong _ _ (fun k q1 q2 => by simp [clX])
    simp (disch := first | omega | ((simp (disch := omega) only [up_ne, up_eq, up_nj, gf_ne, gf_in, sa_ne, sa_eq]) <;> omega)) only [reduceIte, Bool.false_eq_true, if_pos, if_neg, up_ne, up_eq, up_nj, gf_ne, gf_in, sa_ne, sa_eq, and_self, true_and, and_true, p_40_0, p_40_1, q_40_2, p_40_5, p_40_6, p_40_7, q_40_8, p_40_11, p_40_13, p_40_14, p_40_60, p_40_61, p_40_64, p_40_67, q_40_68, p_40_71, p_40_72, p_40_73, p_40_77, p_40_78, p_40_79, p_40_82, p_40_85, p_40_86, p_40_87, p_40_89, p_40_90, p_40_93, p_40_94, p_40_97, p_40_98, p_40_99, p_40_100, p_40_103, p_40_106, p_40_108, p_40_109, p_40_110, p_40_113, p_40_114, q_40_115, p_40_118, p_40_121, p_40_122, p_40_125, p_40_126, p_40_127, p_40_128, p_40_132, p_40_133, p_40_134, p_40_135, p_40_139]
    rw [p_40_136 (d := d + 3) hc, e9]
    generalize any (fun t => decide (artX G t ≠ -1) && clX G 4 t s) (s % G 13 5).toNat (s - s % G 13 5) = z
    cases z
    · simp (disch := first | omega | ((simp (disch := omega) only [up_ne, up_eq, up_nj, gf_ne, gf_in, sa_ne, sa_eq]) <;> omega)) only [reduceIte, Bool.false_eq_true, if_pos, if_neg, up_ne, up_eq, up_nj, gf_ne, gf_in, sa_ne, sa_eq, and_self, true_and, and_true, p_40_0, p_40_1, q_40_2, p_40_5, p_40_6, p_40_7, q_40_8, p_40_11, p_40_13, p_40_14, p_40_60, p_40_61, p_40_64, p_40_67, q_40_68, p_40_71, p_40_72, p_40_73, p_40_77, p_40_78, p_40_79, p_40_82, p_40_85, p_40_86, p_40_87, p_40_89, p_40_90, p_40_93, p_40_94, p_40_97, p_40_98, p_40_99, p_40_100, p_40_103, p_40_106, p_40_108, p_40_109, p_40_110, p_40_113, p_40_114, q_40_115, p_40_118, p_40_121, p_40_122, p_40_125, p_40_126, p_40_127, p_40_128, p_40_132, p_40_133, p_40_134, p_40_135, p_40_139]
    · simp (disch := first | omega | ((simp (disch := omega) only [up_ne, up_eq, up_nj, gf_ne, gf_in, sa_ne, sa_eq]) <;> omega)) only [reduceIte, Bool.false_eq_true, if_pos, if_neg, up_ne, up_eq, up_nj, gf_ne, gf_in, sa_ne, sa_eq, and_self, true_and, and_true, p_40_0, p_40_1, q_40_2, p_40_5, p_40_6, p_40_7, q_40_8, p_40_11, p_40_13, p_40_14, p_40_60, p_40_61, p_40_64, p_40_67, q_40_68, p_40_71, p_40_72, p_40_73, p_40_77, p_40_78, p_40_79, p_40_82, p_40_85, p_40_86, p_40_87, p_40_89, p_40_90, p_40_93, p_40_94, p_40_97, p_40_98, p_40_99, p_40_100, p_40_103, p_40_106, p_40_108, p_40_109, p_40_110, p_40_113, p_40_114, q_40_115, p_40_118, p_40_121, p_40_122, p_40_125, p_40_126, p_40_127, p_40_128, p_40_132, p_40_133, p_40_134, p_40_135, p_40_139]
  · have hc : Ret (d + 3) 42 [vR 13, vI 5, vI s, vU] G (some (vI (if any (fun t => decide (artX G t ≠ -1) && clX G 5 t s) (s % G 13 5).toNat (s - s % G 13 5) = true then 1 else 0))) G := by
      unfold Ret
      simp (disch := first | omega | ((simp (disch := omega) only [up_ne, up_eq, up_nj, gf_ne, gf_in, sa_ne, sa_eq]) <;> omega)) only [reduceIte, Bool.false_eq_true, if_pos, if_neg, up_ne, up_eq, up_nj, gf_ne, gf_in, sa_ne, sa_eq, and_self, true_and, and_true, p_42_0, p_42_1, p_42_2, p_42_5, p_42_6, p_42_7, p_42_8, h15]
      rw [l_x4 hO hX (Or.inr (Or.inl rfl)) hs hs2 (s % G 13 5).toNat _ (by omega) (by omega)]
      exact ⟨rfl, rfl⟩
    have e9 : any (fun t => decide (artX G t ≠ -1 ∧ G 4 (artX G s) < G 4 (artX G t))) (s % G 13 5).toNat (s - s % G 13 5) = any (fun t => decide (artX G t ≠ -1) && clX G 5 t s) (s % G 13 5).toNat (s - s % G 13 5) := any_cong _ _ (fun k q1 q2 => by simp [clX])
    simp (disch := first | omega | ((simp (disch := omega) only [up_ne, up_eq, up_nj, gf_ne, gf_in, sa_ne, sa_eq]) <;> omega)) only [reduceIte, Bool.false_eq_true, if_pos, if_neg, up_ne, up_eq, up_nj, gf_ne, gf_in, sa_ne, sa_eq, and_self, true_and, and_true, p_40_0, p_40_1, q_40_2, p_40_5, p_40_6, p_40_7, q_40_8, p_40_11, p_40_13, p_40_14, p_40_60, p_40_61, p_40_64, p_40_67, q_40_68, p_40_71, p_40_72, p_40_73, p_40_77, p_40_78, p_40_79, p_40_82, p_40_85, p_40_86, p_40_87, p_40_89, p_40_90, p_40_93, p_40_94, p_40_97, p_40_98, p_40_99, p_40_100, p_40_103, p_40_106, p_40_108, p_40_109, p_40_110, p_40_113, p_40_114, q_40_115, p_40_118, p_40_121, p_40_122, p_40_125, p_40_126, p_40_127, p_40_128, p_40_132, p_40_133, p_40_134, p_40_135, p_40_139]
    rw [p_40_136 (d := d + 3) hc, e9]
    generalize any (fun t => decide (artX G t ≠ -1) && clX G 5 t s) (s % G 13 5).toNat (s - s % G 13 5) = z
    cases z
    · simp (disch := first | omega | ((simp (disch := omega) only [up_ne, up_eq, up_nj, gf_ne, gf_in, sa_ne, sa_eq]) <;> omega)) only [reduceIte, Bool.false_eq_true, if_pos, if_neg, up_ne, up_eq, up_nj, gf_ne, gf_in, sa_ne, sa_eq, and_self, true_and, and_true, p_40_0, p_40_1, q_40_2, p_40_5, p_40_6, p_40_7, q_40_8, p_40_11, p_40_13, p_40_14, p_40_60, p_40_61, p_40_64, p_40_67, q_40_68, p_40_71, p_40_72, p_40_73, p_40_77, p_40_78, p_40_79, p_40_82, p_40_85, p_40_86, p_40_87, p_40_89, p_40_90, p_40_93, p_40_94, p_40_97, p_40_98, p_40_99, p_40_100, p_40_103, p_40_106, p_40_108, p_40_109, p_40_110, p_40_113, p_40_114, q_40_115, p_40_118, p_40_121, p_40_122, p_40_125, p_40_126, p_40_127, p_40_128, p_40_132, p_40_133, p_40_134, p_40_135, p_40_139]
    · simp (disch := first | omega | ((simp (disch := omega) only [up_ne, up_eq, up_nj, gf_ne, gf_in, sa_ne, sa_eq]) <;> omega)) only [reduceIte, Bool.false_eq_true, if_pos, if_neg, up_ne, up_eq, up_nj, gf_ne, gf_in, sa_ne, sa_eq, and_self, true_and, and_true, p_40_0, p_40_1, q_40_2, p_40_5, p_40_6, p_40_7, q_40_8, p_40_11, p_40_13, p_40_14, p_40_60, p_40_61, p_40_64, p_40_67, q_40_68, p_40_71, p_40_72, p_40_73, p_40_77, p_40_78, p_40_79, p_40_82, p_40_85, p_40_86, p_40_87, p_40_89, p_40_90, p_40_93, p_40_94, p_40_97, p_40_98, p_40_99, p_40_100, p_40_103, p_40_106, p_40_108, p_40_109, p_40_110, p_40_113, p_40_114, q_40_115, p_40_118, p_40_121, p_40_122, p_40_125, p_40_126, p_40_127, p_40_128, p_40_132, p_40_133, p_40_134, p_40_135, p_40_139]
  · have hc : Ret (d + 3) 42 [vR 13, vI 6, vI s, vU] G (some (vI (if any (fun t => decide (artX G t ≠ -1) && clX G 6 t s) (s % G 13 5).toNat (s - s % G 13 5) = true then 1 else 0))) G := by
      unfold Ret
      simp (disch := first | omega | ((simp (disch := omega) only [up_ne, up_eq, up_nj, gf_ne, gf_in, sa_ne, sa_eq]) <;> omega)) only [reduceIte, Bool.false_eq_true, if_pos, if_neg, up_ne, up_eq, up_nj, gf_ne, gf_in, sa_ne, sa_eq, and_self, true_and, and_true, p_42_0, p_42_1, p_42_2, p_42_5, p_42_6, p_42_7, p_42_8, h15]
      rw [l_x4 hO hX (Or.inr (Or.inr rfl)) hs hs2 (s % G 13 5).toNat _ (by omega) (by omega)]
      exact ⟨rfl, rfl⟩
    have e9 : any (fun t => decide (artX G t ≠ -1) && tb (G 5 (artX G s)) (artX G t)) (s % G 13 5).toNat (s - s % G 13 5) = any (fun t => decide (artX G t ≠ -1) && clX G 6 t s) (s % G 13 5).toNat (s - s % G 13 5) := any_cong _ _ (fun k q1 q2 => by simp [clX])
    simp (disch := first | omega | ((simp (disch := omega) only [up_ne, up_eq, up_nj, gf_ne, gf_in, sa_ne, sa_eq]) <;> omega)) only [reduceIte, Bool.false_eq_true, if_pos, if_neg, up_ne, up_eq, up_nj, gf_ne, gf_in, sa_ne, sa_eq, and_self, true_and, and_true, p_40_0, p_40_1, q_40_2, p_40_5, p_40_6, p_40_7, q_40_8, p_40_11, p_40_13, p_40_14, p_40_60, p_40_61, p_40_64, p_40_67, q_40_68, p_40_71, p_40_72, p_40_73, p_40_77, p_40_78, p_40_79, p_40_82, p_40_85, p_40_86, p_40_87, p_40_89, p_40_90, p_40_93, p_40_94, p_40_97, p_40_98, p_40_99, p_40_100, p_40_103, p_40_106, p_40_108, p_40_109, p_40_110, p_40_113, p_40_114, q_40_115, p_40_118, p_40_121, p_40_122, p_40_125, p_40_126, p_40_127, p_40_128, p_40_132, p_40_133, p_40_134, p_40_135, p_40_139]
    rw [p_40_136 (d := d + 3) hc, e9]
    generalize any (fun t => decide (artX G t ≠ -1) && clX G 6 t s) (s % G 13 5).toNat (s - s % G 13 5) = z
    cases z
    · simp (disch := first | omega | ((simp (disch := omega) only [up_ne, up_eq, up_nj, gf_ne, gf_in, sa_ne, sa_eq]) <;> omega)) only [reduceIte, Bool.false_eq_true, if_pos, if_neg, up_ne, up_eq, up_nj, gf_ne, gf_in, sa_ne, sa_eq, and_self, true_and, and_true, p_40_0, p_40_1, q_40_2, p_40_5, p_40_6, p_40_7, q_40_8, p_40_11, p_40_13, p_40_14, p_40_60, p_40_61, p_40_64, p_40_67, q_40_68, p_40_71, p_40_72, p_40_73, p_40_77, p_40_78, p_40_79, p_40_82, p_40_85, p_40_86, p_40_87, p_40_89, p_40_90, p_40_93, p_40_94, p_40_97, p_40_98, p_40_99, p_40_100, p_40_103, p_40_106, p_40_108, p_40_109, p_40_110, p_40_113, p_40_114, q_40_115, p_40_118, p_40_121, p_40_122, p_40_125, p_40_126, p_40_127, p_40_128, p_40_132, p_40_133, p_40_134, p_40_135, p_40_139]
    · simp (disch := first | omega | ((simp (disch := omega) only [up_ne, up_eq, up_nj, gf_ne, gf_in, sa_ne, sa_eq]) <;> omega)) only [reduceIte, Bool.false_eq_true, if_pos, if_neg, up_ne, up_eq, up_nj, gf_ne, gf_in, sa_ne, sa_eq, and_self, true_and, and_true, p_40_0, p_40_1, q_40_2, p_40_5, p_40_6, p_40_7, q_40_8, p_40_11, p_40_13, p_40_14, p_40_60, p_40_61, p_40_64, p_40_67, q_40_68, p_40_71, p_40_72, p_40_73, p_40_77, p_40_78, p_40_79, p_40_82, p_40_85, p_40_86, p_40_87, p_40_89, p_40_90, p_40_93, p_40_94, p_40_97, p_40_98, p_40_99, p_40_100, p_40_103, p_40_106, p_40_108, p_40_109, p_40_110, p_40_113, p_40_114, q_40_115, p_40_118, p_40_121, p_40_122, p_40_125, p_40_126, p_40_127, p_40_128, p_40_132, p_40_133, p_40_134, p_40_135, p_40_139]
  · have hc : Ret (d + 3) 44 [vR 13, vI s, vU] G (some (vI (if down (fun t => decide (artX G t ≠ -1)) (fun t => nrX G (modX G t) (modX G s)) (s % G 13 5).toNat (s - 1) = true then 1 else 0))) G := by
      unfold Ret
      simp (disch := first | omega | ((simp (disch := omega) only [up_ne, up_eq, up_nj, gf_ne, gf_in, sa_ne, sa_eq]) <;> omega)) only [reduceIte, Bool.false_eq_true, if_pos, if_neg, up_ne, up_eq, up_nj, gf_ne, gf_in, sa_ne, sa_eq, and_self, true_and, and_true, p_44_0, p_44_1, p_44_2, p_44_3]
      rw [l_x7 hO hX hs hs2 (by omega) (s % G 13 5).toNat _ (by omega) (by omega)]
      exact ⟨rfl, rfl⟩
    simp (disch := first | omega | ((simp (disch := omega) only [up_ne, up_eq, up_nj, gf_ne, gf_in, sa_ne, sa_eq]) <;> omega)) only [reduceIte, Bool.false_eq_true, if_pos, if_neg, up_ne, up_eq, up_nj, gf_ne, gf_in, sa_ne, sa_eq, and_self, true_and, and_true, p_40_0, p_40_1, q_40_2, p_40_5, p_40_6, p_40_7, q_40_8, p_40_11, p_40_13, p_40_14, p_40_60, p_40_61, p_40_64, p_40_67, q_40_68, p_40_71, p_40_72, p_40_73, p_40_77, p_40_78, p_40_79, p_40_82, p_40_85, p_40_86, p_40_87, p_40_89, p_40_90, p_40_93, p_40_94, p_40_97, p_40_98, p_40_99, p_40_100, p_40_103, p_40_106, p_40_108, p_40_109, p_40_110, p_40_113, p_40_114, q_40_115, p_40_118, p_40_121, p_40_122, p_40_125, p_40_126, p_40_127, p_40_128, p_40_132, p_40_133, p_40_134, p_40_135, p_40_139]
    rw [p_40_129 (d := d + 3) hc]
    generalize down (fun t => decide (artX G t ≠ -1)) (fun t => nrX G (modX G t) (modX G s)) (s % G 13 5).toNat (s - 1) = z
    cases z
    · simp (disch := first | omega | ((simp (disch := omega) only [up_ne, up_eq, up_nj, gf_ne, gf_in, sa_ne, sa_eq]) <;> omega)) only [reduceIte, Bool.false_eq_true, if_pos, if_neg, up_ne, up_eq, up_nj, gf_ne, gf_in, sa_ne, sa_eq, and_self, true_and, and_true, p_40_0, p_40_1, q_40_2, p_40_5, p_40_6, p_40_7, q_40_8, p_40_11, p_40_13, p_40_14, p_40_60, p_40_61, p_40_64, p_40_67, q_40_68, p_40_71, p_40_72, p_40_73, p_40_77, p_40_78, p_40_79, p_40_82, p_40_85, p_40_86, p_40_87, p_40_89, p_40_90, p_40_93, p_40_94, p_40_97, p_40_98, p_40_99, p_40_100, p_40_103, p_40_106, p_40_108, p_40_109, p_40_110, p_40_113, p_40_114, q_40_115, p_40_118, p_40_121, p_40_122, p_40_125, p_40_126, p_40_127, p_40_128, p_40_132, p_40_133, p_40_134, p_40_135, p_40_139]
    · simp (disch := first | omega | ((simp (disch := omega) only [up_ne, up_eq, up_nj, gf_ne, gf_in, sa_ne, sa_eq]) <;> omega)) only [reduceIte, Bool.false_eq_true, if_pos, if_neg, up_ne, up_eq, up_nj, gf_ne, gf_in, sa_ne, sa_eq, and_self, true_and, and_true, p_40_0, p_40_1, q_40_2, p_40_5, p_40_6, p_40_7, q_40_8, p_40_11, p_40_13, p_40_14, p_40_60, p_40_61, p_40_64, p_40_67, q_40_68, p_40_71, p_40_72, p_40_73, p_40_77, p_40_78, p_40_79, p_40_82, p_40_85, p_40_86, p_40_87, p_40_89, p_40_90, p_40_93, p_40_94, p_40_97, p_40_98, p_40_99, p_40_100, p_40_103, p_40_106, p_40_108, p_40_109, p_40_110, p_40_113, p_40_114, q_40_115, p_40_118, p_40_121, p_40_122, p_40_125, p_40_126, p_40_127, p_40_128, p_40_132, p_40_133, p_40_134, p_40_135, p_40_139]
