/-! points and prizes -/
def fj (row : Int → Int) (kn : Int → Bool) (a : Int) : Nat → Int → Int → Int
  | 0, _, _ => 0
  | m + 1, i, ah => if row i = a then max 0 (6 - ah) else fj row kn a m (i + 1) (if kn (row i) = true then ah else ah + 1)
theorem fj_cong {row row' : Int → Int} {kn kn' : Int → Bool} {a : Int} : ∀ (m : Nat) (i ah : Int), (∀ k : Int, i ≤ k → k < i + m → row k = row' k ∧ kn (row k) = kn' (row k)) → fj row kn a m i ah = fj row' kn' a m i ah
  | 0, _, _, _ => rfl
  | m + 1, i, ah, h => by
    have h1 := h i (by omega) (by omega)
    rw [fj, fj, ← h1.1, ← h1.2, fj_cong m (i + 1) _ (fun k q1 q2 => h k (by omega) (by omega))]
theorem fj_rng {row : Int → Int} {kn : Int → Bool} {a : Int} : ∀ (m : Nat) (i ah : Int), 0 ≤ ah → 0 ≤ fj row kn a m i ah ∧ fj row kn a m i ah ≤ 6
  | 0, _, _, _ => by rw [fj]; omega
  | m + 1, i, ah, h => by
    rw [fj]
    have h1 := fj_rng (row := row) (kn := kn) (a := a) m (i + 1) (if kn (row i) = true then ah else ah + 1) (by split <;> omega)
    split
    · omega
    · exact h1
theorem sumf_rng {p : Int → Int} {c : Int} : ∀ (m : Nat) (i : Int), (∀ k : Int, i ≤ k → k < i + m → 0 ≤ p k ∧ p k ≤ c) → 0 ≤ sumf p m i ∧ sumf p m i ≤ m * c
  | 0, _, _ => by simp [sumf]
  | m + 1, i, h => by
    have h1 := sumf_rng m (i + 1) (fun k q1 q2 => h k (by omega) (by omega))
    have h2 := h i (by omega) (by omega)
    rw [sumf, show ((m + 1 : Nat) : Int) * c = m * c + c by rw [Int.natCast_add, Int.add_mul]; simp]
    omega
def ptj (row : Int → Int → Int) (kn : Int → Int → Bool) (sz : Int → Int) (a j : Int) : Int := if kn j a = true then 0 else fj (row j) (kn j) a (sz j).toNat 0 0
def pt (row : Int → Int → Int) (kn : Int → Int → Bool) (sz : Int → Int) (a : Int) : Int := sumf (ptj row kn sz a) 7 0
theorem pt_rng (row : Int → Int → Int) (kn : Int → Int → Bool) (sz : Int → Int) (a : Int) : 0 ≤ pt row kn sz a ∧ pt row kn sz a ≤ 42 := by
  have := sumf_rng (p := ptj row kn sz a) (c := 6) 7 0 (fun k _ _ => by
    unfold ptj
    split
    · omega
    · exact fj_rng _ _ _ (by omega))
  exact this
abbrev rowX (G : AG) (j i : Int) : Int := G (43 + j.toNat) i
abbrev knX (G : AG) (j b : Int) : Bool := tb (G 51 j) b
abbrev szX (G : AG) (j : Int) : Int := G 50 j
abbrev rowM (G : AG) (j i : Int) : Int := G 69 (6 * j + i)
abbrev knM (G : AG) (j b : Int) : Bool := decide (G 71 (6 * j + b) = 1)
abbrev szM (G : AG) (j : Int) : Int := G 70 j
/-- the jury's rows as the calls need them -/
def JX (G : AG) : Prop := ∀ j : Int, 0 ≤ j → j < 7 → (0 ≤ G 50 j ∧ G 50 j ≤ 6 ∧ 0 ≤ G 51 j ∧ G 51 j < 64 ∧ ∀ i : Int, 0 ≤ i → i < G 50 j → 0 ≤ G (43 + j.toNat) i ∧ G (43 + j.toNat) i < 6)
def JM (G : AG) : Prop := ∀ j : Int, 0 ≤ j → j < 7 → (0 ≤ G 70 j ∧ G 70 j ≤ 6 ∧ (∀ b : Int, 0 ≤ b → b < 6 → G 71 (6 * j + b) = 0 ∨ G 71 (6 * j + b) = 1) ∧ ∀ i : Int, 0 ≤ i → i < G 70 j → 0 ≤ G 69 (6 * j + i) ∧ G 69 (6 * j + i) < 6)
theorem RJ.jx {G : AG} (h : RJ G) (ha : G 3 4 ≤ 6) : JX G := by
  intro j q1 q2
  obtain ⟨k1, k2, k3, k4, k5, k6, k7, k8⟩ := h j q1 q2
  exact ⟨k1, k2, k4, k5, fun i r1 r2 => by have := k7 i r1 r2; omega⟩
theorem RJ.jm {G : AG} (h : RJ G) (ha : G 3 4 ≤ 6) : JM G := by
  intro j q1 q2
  obtain ⟨k1, k2, k3, k4, k5, k6, k7, k8⟩ := h j q1 q2
  refine ⟨by omega, by omega, fun b r1 r2 => ?_, fun i r1 r2 => by have := k7 i r1 (by omega); omega⟩
  rw [k6 b r1 r2]
  split <;> omega
theorem pt_eq {G : AG} (h : RJ G) (ha : G 3 4 ≤ 6) {a : Int} (h0 : 0 ≤ a) (h1 : a < 6) : pt (rowM G) (knM G) (szM G) a = pt (rowX G) (knX G) (szX G) a := by
  refine sumf_cong _ _ (fun j q1 q2 => ?_)
  obtain ⟨k1, k2, k3, k4, k5, k6, k7, k8⟩ := h j q1 (by omega)
  have hk : ∀ b : Int, 0 ≤ b → b < 6 → knM G j b = knX G j b := by
    intro b r1 r2
    unfold knM knX
    rw [k6 b r1 r2]
    cases tb (G 51 j) b <;> rfl
  unfold ptj
  rw [hk a h0 h1, show szM G j = szX G j from k3]
  split
  · rfl
  · refine fj_cong _ _ _ (fun k r1 r2 => ?_)
    have := k7 k r1 (by simp only [szX] at r2; omega)
    exact ⟨this.1, hk _ (by simp only [rowM]; omega) (by simp only [rowM]; omega)⟩
theorem l_fromJ {d : Nat} {G : AG} {Q : Option AV → AG → Prop} {j a : Int} (hJ : JX G) (hj : 0 ≤ j ∧ j < 7) (ha : 0 ≤ a ∧ a < 6) : ∀ (m : Nat) (i ah : Int), 0 ≤ i → i + m = G 50 j → 0 ≤ ah → ah ≤ i → (Ends (d + 1) 4 5 [vR 41, vI j, vI a, vI ah, vI i] [] G Q ↔ Q (some (vI (fj (rowX G j) (knX G j) a m i ah))) G) := by
  obtain ⟨k1, k2, k3, k4, k5⟩ := hJ j hj.1 hj.2
  intro m
  induction m with
  | zero =>
    intro i ah h0 h1 h2 h3
    simp (disch := first | omega | ((simp (disch := omega) only [up_ne, up_eq, up_nj, gf_ne, gf_in, sa_ne, sa_eq]) <;> omega)) only [reduceIte, Bool.false_eq_true, if_pos, if_neg, up_ne, up_eq, up_nj, gf_ne, gf_in, sa_ne, sa_eq, and_self, true_and, and_true, p_4_5, p_4_7, p_4_8, p_4_11, p_4_12, p_4_13, p_4_16, p_4_17, p_4_20, p_4_21, p_4_22, p_4_24, p_4_25, p_4_26, p_4_29, p_4_30, p_4_32, p_4_33, q_4_34, p_4_37, p_4_38, p_4_39, p_4_42, p_4_43, p_4_44, p_4_45, p_4_48, p_4_49, p_4_50, p_4_52, q_4_53, p_4_56, p_4_59, p_4_62, p_4_68, p_4_69]
    rw [fj]
  | succ m ih =>
    intro i ah h0 h1 h2 h3
    have b := k5 i h0 (by omega)
    rw [fj]
    by_cases e : G (43 + j.toNat) i = a
    · simp (disch := first | omega | ((simp (disch := omega) only [up_ne, up_eq, up_nj, gf_ne, gf_in, sa_ne, sa_eq]) <;> omega)) only [reduceIte, Bool.false_eq_true, if_pos, if_neg, up_ne, up_eq, up_nj, gf_ne, gf_in, sa_ne, sa_eq, and_self, true_and, and_true, p_4_5, p_4_7, p_4_8, p_4_11, p_4_12, p_4_13, p_4_16, p_4_17, p_4_20, p_4_21, p_4_22, p_4_24, p_4_25, p_4_26, p_4_29, p_4_30, p_4_32, p_4_33, q_4_34, p_4_37, p_4_38, p_4_39, p_4_42, p_4_43, p_4_44, p_4_45, p_4_48, p_4_49, p_4_50, p_4_52, q_4_53, p_4_56, p_4_59, p_4_62, p_4_68, p_4_69]
    · by_cases e2 : tb (G 51 j) (G (43 + j.toNat) i) = true
      · simp (disch := first | omega | ((simp (disch := omega) only [up_ne, up_eq, up_nj, gf_ne, gf_in, sa_ne, sa_eq]) <;> omega)) only [reduceIte, Bool.false_eq_true, if_pos, if_neg, up_ne, up_eq, up_nj, gf_ne, gf_in, sa_ne, sa_eq, and_self, true_and, and_true, p_4_5, p_4_7, p_4_8, p_4_11, p_4_12, p_4_13, p_4_16, p_4_17, p_4_20, p_4_21, p_4_22, p_4_24, p_4_25, p_4_26, p_4_29, p_4_30, p_4_32, p_4_33, q_4_34, p_4_37, p_4_38, p_4_39, p_4_42, p_4_43, p_4_44, p_4_45, p_4_48, p_4_49, p_4_50, p_4_52, q_4_53, p_4_56, p_4_59, p_4_62, p_4_68, p_4_69, e2]
        rw [p_4_65, ih (i + 1) ah (by omega) (by omega) h2 (by omega)]
      · simp (disch := first | omega | ((simp (disch := omega) only [up_ne, up_eq, up_nj, gf_ne, gf_in, sa_ne, sa_eq]) <;> omega)) only [reduceIte, Bool.false_eq_true, if_pos, if_neg, up_ne, up_eq, up_nj, gf_ne, gf_in, sa_ne, sa_eq, and_self, true_and, and_true, p_4_5, p_4_7, p_4_8, p_4_11, p_4_12, p_4_13, p_4_16, p_4_17, p_4_20, p_4_21, p_4_22, p_4_24, p_4_25, p_4_26, p_4_29, p_4_30, p_4_32, p_4_33, q_4_34, p_4_37, p_4_38, p_4_39, p_4_42, p_4_43, p_4_44, p_4_45, p_4_48, p_4_49, p_4_50, p_4_52, q_4_53, p_4_56, p_4_59, p_4_62, p_4_68, p_4_69, e2]
        rw [p_4_65, ih (i + 1) (ah + 1) (by omega) (by omega) (by omega) (by omega)]
theorem c_fromJ {d : Nat} {G : AG} {j a : Int} (hJ : JX G) (hj : 0 ≤ j ∧ j < 7) (ha : 0 ≤ a ∧ a < 6) : Ret (d + 1) 4 [vR 41, vI j, vI a, vU, vU] G (some (vI (fj (rowX G j) (knX G j) a (G 50 j).toNat 0 0))) G := by
  obtain ⟨k1, k2, k3, k4, k5⟩ := hJ j hj.1 hj.2
  unfold Ret
  simp (disch := first | omega | ((simp (disch := omega) only [up_ne, up_eq, up_nj, gf_ne, gf_in, sa_ne, sa_eq]) <;> omega)) only [reduceIte, Bool.false_eq_true, if_pos, if_neg, up_ne, up_eq, up_nj, gf_ne, gf_in, sa_ne, sa_eq, and_self, true_and, and_true, p_4_0, p_4_1, p_4_2, p_4_3]
  rw [l_fromJ hJ hj ha (G 50 j).toNat 0 0 (by omega) (by omega) (by omega) (by omega)]
  exact ⟨rfl, rfl⟩
theorem l_sumFor {d : Nat} {G : AG} {Q : Option AV → AG → Prop} {a : Int} (hJ : JX G) (ha : 0 ≤ a ∧ a < 6) : ∀ (m : Nat) (j acc : Int), 0 ≤ j → j + m = 7 → (Ends (d + 2) 3 4 [vR 41, vI a, vI acc, vI j] [] G Q ↔ Q (some (vI (acc + sumf (ptj (rowX G) (knX G) (szX G) a) m j))) G) := by
  intro m
  induction m with
  | zero =>
    intro j acc h0 h1
    simp (disch := first | omega | ((simp (disch := omega) only [up_ne, up_eq, up_nj, gf_ne, gf_in, sa_ne, sa_eq]) <;> omega)) only [reduceIte, Bool.false_eq_true, if_pos, if_neg, up_ne, up_eq, up_nj, gf_ne, gf_in, sa_ne, sa_eq, and_self, true_and, and_true, p_3_4, p_3_5, p_3_7, p_3_10, p_3_11, p_3_14, p_3_15, p_3_16, q_3_17, p_3_20, p_3_23, p_3_24, p_3_25, p_3_26, p_3_30, p_3_31, p_3_32, p_3_38, p_3_39]
    rw [sumf, Int.add_zero]
  | succ m ih =>
    intro j acc h0 h1
    obtain ⟨k1, k2, k3, k4, k5⟩ := hJ j h0 (by omega)
    rw [sumf]
    by_cases e : tb (G 51 j) a = true
    · simp (disch := first | omega | ((simp (disch := omega) only [up_ne, up_eq, up_nj, gf_ne, gf_in, sa_ne, sa_eq]) <;> omega)) only [reduceIte, Bool.false_eq_true, if_pos, if_neg, up_ne, up_eq, up_nj, gf_ne, gf_in, sa_ne, sa_eq, and_self, true_and, and_true, p_3_4, p_3_5, p_3_7, p_3_10, p_3_11, p_3_14, p_3_15, p_3_16, q_3_17, p_3_20, p_3_23, p_3_24, p_3_25, p_3_26, p_3_30, p_3_31, p_3_32, p_3_38, p_3_39, e]
      rw [p_3_35, ih (j + 1) acc (by omega) (by omega)]
      rw [ptj, if_pos e, Int.zero_add]
    · simp (disch := first | omega | ((simp (disch := omega) only [up_ne, up_eq, up_nj, gf_ne, gf_in, sa_ne, sa_eq]) <;> omega)) only [reduceIte, Bool.false_eq_true, if_pos, if_neg, up_ne, up_eq, up_nj, gf_ne, gf_in, sa_ne, sa_eq, and_self, true_and, and_true, p_3_4, p_3_5, p_3_7, p_3_10, p_3_11, p_3_14, p_3_15, p_3_16, q_3_17, p_3_20, p_3_23, p_3_24, p_3_25, p_3_26, p_3_30, p_3_31, p_3_32, p_3_38, p_3_39, e]
      rw [p_3_27 (d := d + 1) (c_fromJ hJ ⟨h0, by omega⟩ ha)]
      simp (disch := first | omega | ((simp (disch := omega) only [up_ne, up_eq, up_nj, gf_ne, gf_in, sa_ne, sa_eq]) <;> omega)) only [reduceIte, Bool.false_eq_true, if_pos, if_neg, up_ne, up_eq, up_nj, gf_ne, gf_in, sa_ne, sa_eq, and_self, true_and, and_true, p_3_4, p_3_5, p_3_7, p_3_10, p_3_11, p_3_14, p_3_15, p_3_16, q_3_17, p_3_20, p_3_23, p_3_24, p_3_25, p_3_26, p_3_30, p_3_31, p_3_32, p_3_38, p_3_39]
      rw [p_3_35, ih (j + 1) _ (by omega) (by omega)]
      rw [ptj, if_neg e, Int.add_assoc]
theorem c_sumFor {d : Nat} {G : AG} {a : Int} (hJ : JX G) (ha : 0 ≤ a ∧ a < 6) : Ret (d + 2) 3 [vR 41, vI a, vU, vU] G (some (vI (pt (rowX G) (knX G) (szX G) a))) G := by
  unfold Ret
  simp (disch := first | omega | ((simp (disch := omega) only [up_ne, up_eq, up_nj, gf_ne, gf_in, sa_ne, sa_eq]) <;> omega)) only [reduceIte, Bool.false_eq_true, if_pos, if_neg, up_ne, up_eq, up_nj, gf_ne, gf_in, sa_ne, sa_eq, and_self, true_and, and_true, p_3_0, p_3_1, p_3_2, p_3_3]
  rw [l_sumFor hJ ha 7 0 0 (by omega) (by omega), Int.zero_add]
  exact ⟨rfl, rfl⟩
/-- the reference's inner loop: it comes to 108 with what it found -/
theorem l_pin {d : Nat} {G : AG} {Q : Option AV → AG → Prop} {a s j : Int} (hJ : JM G) (hj : 0 ≤ j ∧ j < 7) (ha : 0 ≤ a ∧ a < 6) : ∀ (m : Nat) (i ah : Int) (l7 : AV), 0 ≤ i → i + m = G 70 j → 0 ≤ ah → ah ≤ i → (∀ (s' ah' has' i' : Int) (l7' : AV), 0 ≤ ah' → ah' ≤ 6 → (has' = 0 ∨ has' = 1) → (if has' = 1 then max 0 (6 - ah') else 0) = fj (rowM G j) (knM G j) a m i ah → Ends d 107 108 [vR 54, vI a, vI s, vI j, vI ah', vI has', vI i', l7'] [] G Q) → Ends d 107 36 [vR 54, vI a, vI s, vI j, vI ah, vI 0, vI i, l7] [] G Q := by
  obtain ⟨k1, k2, k3, k4⟩ := hJ j hj.1 hj.2
  intro m
  induction m with
  | zero =>
    intro i ah l7 h0 h1 h2 h3 K
    simp (disch := first | omega | ((simp (disch := omega) only [up_ne, up_eq, up_nj, gf_ne, gf_in, sa_ne, sa_eq]) <;> omega)) only [reduceIte, Bool.false_eq_true, if_pos, if_neg, up_ne, up_eq, up_nj, gf_ne, gf_in, sa_ne, sa_eq, and_self, true_and, and_true, p_107_36, p_107_38, p_107_39, p_107_42, p_107_43, p_107_44, p_107_47, p_107_49, p_107_52, p_107_53, p_107_56, p_107_58, p_107_59, p_107_60, p_107_62, p_107_63, p_107_64, p_107_66, p_107_68, p_107_69, p_107_72, p_107_73, p_107_76, p_107_77, p_107_79, p_107_81, p_107_84, p_107_85, p_107_88, p_107_90, p_107_91, p_107_92, p_107_94, p_107_95, p_107_96, p_107_99, p_107_102]
    exact K 0 ah 0 i l7 h2 (by omega) (Or.inl rfl) rfl
  | succ m ih =>
    intro i ah l7 h0 h1 h2 h3 K
    have b := k4 i h0 (by omega)
    by_cases e : G 69 (6 * j + i) = a
    · simp (disch := first | omega | ((simp (disch := omega) only [up_ne, up_eq, up_nj, gf_ne, gf_in, sa_ne, sa_eq]) <;> omega)) only [reduceIte, Bool.false_eq_true, if_pos, if_neg, up_ne, up_eq, up_nj, gf_ne, gf_in, sa_ne, sa_eq, and_self, true_and, and_true, p_107_36, p_107_38, p_107_39, p_107_42, p_107_43, p_107_44, p_107_47, p_107_49, p_107_52, p_107_53, p_107_56, p_107_58, p_107_59, p_107_60, p_107_62, p_107_63, p_107_64, p_107_66, p_107_68, p_107_69, p_107_72, p_107_73, p_107_76, p_107_77, p_107_79, p_107_81, p_107_84, p_107_85, p_107_88, p_107_90, p_107_91, p_107_92, p_107_94, p_107_95, p_107_96, p_107_99, p_107_102]
      rw [p_107_105]
      simp (disch := first | omega | ((simp (disch := omega) only [up_ne, up_eq, up_nj, gf_ne, gf_in, sa_ne, sa_eq]) <;> omega)) only [reduceIte, Bool.false_eq_true, if_pos, if_neg, up_ne, up_eq, up_nj, gf_ne, gf_in, sa_ne, sa_eq, and_self, true_and, and_true, p_107_36, p_107_38, p_107_39, p_107_42, p_107_43, p_107_44, p_107_47, p_107_49, p_107_52, p_107_53, p_107_56, p_107_58, p_107_59, p_107_60, p_107_62, p_107_63, p_107_64, p_107_66, p_107_68, p_107_69, p_107_72, p_107_73, p_107_76, p_107_77, p_107_79, p_107_81, p_107_84, p_107_85, p_107_88, p_107_90, p_107_91, p_107_92, p_107_94, p_107_95, p_107_96, p_107_99, p_107_102]
      by_cases e5 : G 70 j ≤ i + 1
      · simp (disch := first | omega | ((simp (disch := omega) only [up_ne, up_eq, up_nj, gf_ne, gf_in, sa_ne, sa_eq]) <;> omega)) only [reduceIte, Bool.false_eq_true, if_pos, if_neg, up_ne, up_eq, up_nj, gf_ne, gf_in, sa_ne, sa_eq, and_self, true_and, and_true]
        refine K 0 ah 1 (i + 1) _ h2 (by omega) (Or.inr rfl) ?_
        rw [fj, if_pos e]
        rfl
      · simp (disch := first | omega | ((simp (disch := omega) only [up_ne, up_eq, up_nj, gf_ne, gf_in, sa_ne, sa_eq]) <;> omega)) only [reduceIte, Bool.false_eq_true, if_pos, if_neg, up_ne, up_eq, up_nj, gf_ne, gf_in, sa_ne, sa_eq, and_self, true_and, and_true]
        refine K 0 ah 1 (i + 1) _ h2 (by omega) (Or.inr rfl) ?_
        rw [fj, if_pos e]
        rfl
    · rcases k3 (G 69 (6 * j + i)) b.1 b.2 with e2 | e2
      · simp (disch := first | omega | ((simp (disch := omega) only [up_ne, up_eq, up_nj, gf_ne, gf_in, sa_ne, sa_eq]) <;> omega)) only [reduceIte, Bool.false_eq_true, if_pos, if_neg, up_ne, up_eq, up_nj, gf_ne, gf_in, sa_ne, sa_eq, and_self, true_and, and_true, p_107_36, p_107_38, p_107_39, p_107_42, p_107_43, p_107_44, p_107_47, p_107_49, p_107_52, p_107_53, p_107_56, p_107_58, p_107_59, p_107_60, p_107_62, p_107_63, p_107_64, p_107_66, p_107_68, p_107_69, p_107_72, p_107_73, p_107_76, p_107_77, p_107_79, p_107_81, p_107_84, p_107_85, p_107_88, p_107_90, p_107_91, p_107_92, p_107_94, p_107_95, p_107_96, p_107_99, p_107_102, e2]
        rw [p_107_105]
        refine ih (i + 1) (ah + 1) _ (by omega) (by omega) (by omega) (by omega) ?_
        intro s' ah' has' i' l7' q1 q2 q3 q4
        refine K s' ah' has' i' l7' q1 q2 q3 ?_
        rw [q4, fj, if_neg e, if_neg (by simp [knM, rowM, e2])]
      · simp (disch := first | omega | ((simp (disch := omega) only [up_ne, up_eq, up_nj, gf_ne, gf_in, sa_ne, sa_eq]) <;> omega)) only [reduceIte, Bool.false_eq_true, if_pos, if_neg, up_ne, up_eq, up_nj, gf_ne, gf_in, sa_ne, sa_eq, and_self, true_and, and_true, p_107_36, p_107_38, p_107_39, p_107_42, p_107_43, p_107_44, p_107_47, p_107_49, p_107_52, p_107_53, p_107_56, p_107_58, p_107_59, p_107_60, p_107_62, p_107_63, p_107_64, p_107_66, p_107_68, p_107_69, p_107_72, p_107_73, p_107_76, p_107_77, p_107_79, p_107_81, p_107_84, p_107_85, p_107_88, p_107_90, p_107_91, p_107_92, p_107_94, p_107_95, p_107_96, p_107_99, p_107_102, e2]
        rw [p_107_105]
        refine ih (i + 1) ah _ (by omega) (by omega) (by omega) (by omega) ?_
        intro s' ah' has' i' l7' q1 q2 q3 q4
        refine K s' ah' has' i' l7' q1 q2 q3 ?_
        rw [q4, fj, if_neg e, if_pos (by simp [knM, rowM, e2])]
theorem l_pts {d : Nat} {G : AG} {Q : Option AV → AG → Prop} {a : Int} (hJ : JM G) (ha : 0 ≤ a ∧ a < 6) : ∀ (m : Nat) (j acc : Int) (l4 l5 l6 l7 : AV), (l4 = vU ∨ ∃ z, l4 = vI z) → (l5 = vU ∨ ∃ z, l5 = vI z) → (l6 = vU ∨ ∃ z, l6 = vI z) → 0 ≤ j → j + m = 7 → Q (some (vI (acc + sumf (ptj (rowM G) (knM G) (szM G) a) m j))) G → Ends d 107 4 [vR 54, vI a, vI acc, vI j, l4, l5, l6, l7] [] G Q := by
  intro m
  induction m with
  | zero =>
    intro j acc l4 l5 l6 l7 _ _ _ h0 h1 hq
    simp (disch := first | omega | ((simp (disch := omega) only [up_ne, up_eq, up_nj, gf_ne, gf_in, sa_ne, sa_eq]) <;> omega)) only [reduceIte, Bool.false_eq_true, if_pos, if_neg, up_ne, up_eq, up_nj, gf_ne, gf_in, sa_ne, sa_eq, and_self, true_and, and_true, p_107_4, p_107_5, p_107_7, p_107_10, p_107_11, p_107_14, p_107_16, p_107_17, p_107_18, p_107_19, p_107_20, p_107_21, p_107_24, p_107_27, p_107_28, p_107_30, p_107_31, p_107_33, p_107_34, p_107_108, p_107_110, p_107_113, p_107_115, p_107_117, p_107_120, p_107_121, p_107_123, p_107_125, p_107_126, p_107_127, p_107_128, p_107_134, p_107_135]
    rw [sumf, Int.add_zero] at hq
    exact hq
  | succ m ih =>
    intro j acc l4 l5 l6 l7 o4 o5 o6 h0 h1 hq
    obtain ⟨k1, k2, k3, k4⟩ := hJ j h0 (by omega)
    rw [sumf] at hq
    rcases k3 a ha.1 ha.2 with e | e
    · have hp : ptj (rowM G) (knM G) (szM G) a j = fj (rowM G j) (knM G j) a (G 70 j).toNat 0 0 := by
        rw [ptj, if_neg (by simp [knM, e])]
      rcases o4 with rfl | ⟨z4, rfl⟩ <;> rcases o5 with rfl | ⟨z5, rfl⟩
      all_goals
        simp (disch := first | omega | ((simp (disch := omega) only [up_ne, up_eq, up_nj, gf_ne, gf_in, sa_ne, sa_eq]) <;> omega)) only [reduceIte, Bool.false_eq_true, if_pos, if_neg, up_ne, up_eq, up_nj, gf_ne, gf_in, sa_ne, sa_eq, and_self, true_and, and_true, p_107_4, p_107_5, p_107_7, p_107_10, p_107_11, p_107_14, p_107_16, p_107_17, p_107_18, p_107_19, p_107_20, p_107_21, p_107_24, p_107_27, p_107_28, p_107_30, p_107_31, p_107_33, p_107_34, e]
        refine l_pin hJ ⟨h0, by omega⟩ ha (G 70 j).toNat 0 0 _ (by omega) (by omega) (by omega) (by omega) ?_
        intro s' ah' has' i' l7' q1 q2 q3 q4
        rcases q3 with rfl | rfl
        · simp (disch := first | omega | ((simp (disch := omega) only [up_ne, up_eq, up_nj, gf_ne, gf_in, sa_ne, sa_eq]) <;> omega)) only [reduceIte, Bool.false_eq_true, if_pos, if_neg, up_ne, up_eq, up_nj, gf_ne, gf_in, sa_ne, sa_eq, and_self, true_and, and_true, p_107_108, p_107_110, p_107_113, p_107_115, p_107_117, p_107_120, p_107_121, p_107_123, p_107_125, p_107_126, p_107_127, p_107_128, p_107_134, p_107_135]
          rw [p_107_131]
          refine ih (j + 1) acc _ _ _ _ (Or.inr ⟨_, rfl⟩) (Or.inr ⟨_, rfl⟩) (Or.inr ⟨_, rfl⟩) (by omega) (by omega) ?_
          rw [hp, ← q4] at hq
          simpa using hq
        · by_cases e6 : ah' < 6
          · simp (disch := first | omega | ((simp (disch := omega) only [up_ne, up_eq, up_nj, gf_ne, gf_in, sa_ne, sa_eq]) <;> omega)) only [reduceIte, Bool.false_eq_true, if_pos, if_neg, up_ne, up_eq, up_nj, gf_ne, gf_in, sa_ne, sa_eq, and_self, true_and, and_true, p_107_108, p_107_110, p_107_113, p_107_115, p_107_117, p_107_120, p_107_121, p_107_123, p_107_125, p_107_126, p_107_127, p_107_128, p_107_134, p_107_135]
            rw [p_107_131]
            refine ih (j + 1) _ _ _ _ _ (Or.inr ⟨_, rfl⟩) (Or.inr ⟨_, rfl⟩) (Or.inr ⟨_, rfl⟩) (by omega) (by omega) ?_
            rw [hp, ← q4, if_pos rfl, show max 0 (6 - ah') = 6 - ah' by omega, ← Int.add_assoc] at hq
            exact hq
          · simp (disch := first | omega | ((simp (disch := omega) only [up_ne, up_eq, up_nj, gf_ne, gf_in, sa_ne, sa_eq]) <;> omega)) only [reduceIte, Bool.false_eq_true, if_pos, if_neg, up_ne, up_eq, up_nj, gf_ne, gf_in, sa_ne, sa_eq, and_self, true_and, and_true, p_107_108, p_107_110, p_107_113, p_107_115, p_107_117, p_107_120, p_107_121, p_107_123, p_107_125, p_107_126, p_107_127, p_107_128, p_107_134, p_107_135]
            rw [p_107_131]
            refine ih (j + 1) acc _ _ _ _ (Or.inr ⟨_, rfl⟩) (Or.inr ⟨_, rfl⟩) (Or.inr ⟨_, rfl⟩) (by omega) (by omega) ?_
            rw [hp, ← q4, if_pos rfl, show max 0 (6 - ah') = 0 by omega, Int.zero_add] at hq
            exact hq
    · have hp : ptj (rowM G) (knM G) (szM G) a j = 0 := by
        rw [ptj, if_pos (by simp [knM, e])]
      simp (disch := first | omega | ((simp (disch := omega) only [up_ne, up_eq, up_nj, gf_ne, gf_in, sa_ne, sa_eq]) <;> omega)) only [reduceIte, Bool.false_eq_true, if_pos, if_neg, up_ne, up_eq, up_nj, gf_ne, gf_in, sa_ne, sa_eq, and_self, true_and, and_true, p_107_4, p_107_5, p_107_7, p_107_10, p_107_11, p_107_14, p_107_16, p_107_17, p_107_18, p_107_19, p_107_20, p_107_21, p_107_24, p_107_27, p_107_28, p_107_30, p_107_31, p_107_33, p_107_34, e, p_107_128, p_107_24]
      rw [p_107_131]
      refine ih (j + 1) acc _ _ _ _ o4 o5 o6 (by omega) (by omega) ?_
      rw [hp, Int.zero_add] at hq
      exact hq
theorem c_pts {d : Nat} {G : AG} {a : Int} (hJ : JM G) (ha : 0 ≤ a ∧ a < 6) : Ret d 107 [vR 54, vI a, vU, vU, vU, vU, vU, vU] G (some (vI (pt (rowM G) (knM G) (szM G) a))) G := by
  unfold Ret
  simp (disch := first | omega | ((simp (disch := omega) only [up_ne, up_eq, up_nj, gf_ne, gf_in, sa_ne, sa_eq]) <;> omega)) only [reduceIte, Bool.false_eq_true, if_pos, if_neg, up_ne, up_eq, up_nj, gf_ne, gf_in, sa_ne, sa_eq, and_self, true_and, and_true, p_107_0, p_107_1, p_107_2, p_107_3]
  refine l_pts hJ ha 7 0 0 _ _ _ _ (Or.inl rfl) (Or.inl rfl) (Or.inl rfl) (by omega) (by omega) ?_
  rw [Int.zero_add]
  exact ⟨rfl, rfl⟩
