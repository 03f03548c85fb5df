theorem pair_points {G : AG} (hR : Rel G) {x : Int} (hx : -2147483648 ≤ x ∧ x < 2147483648) : Pair 64 108 [vI x] [vI x] G := by
  obtain ⟨ha0, ha1, ha2, ha3, ha4, ha5, ha6⟩ := id hR.2.1
  have hR' := hR.thrown 0
  by_cases a : 0 ≤ x ∧ x < G 3 4
  · refine ⟨some (vI (pt (rowX G) (knX G) (szX G) x)), G, am_up G 54 25 0, ?_, ?_, hR', up_eq rfl rfl⟩
    · unfold Ret
      simp (disch := first | omega | ((simp (disch := omega) only [up_ne, up_eq, up_nj, gf_ne, gf_in, sa_ne, sa_eq]) <;> omega)) only [reduceIte, Bool.false_eq_true, if_pos, if_neg, up_ne, up_eq, up_nj, gf_ne, gf_in, sa_ne, sa_eq, and_self, true_and, and_true, p_64_0, p_64_1, p_64_4, q_64_5, p_64_8, p_64_11, p_64_12, p_64_15, p_64_19, p_64_22, p_64_23]
      rw [p_64_16 (c_sumFor (d := 27) (hR.2.2.2.2.jx ha1) ⟨a.1, by omega⟩)]
      simp (disch := first | omega | ((simp (disch := omega) only [up_ne, up_eq, up_nj, gf_ne, gf_in, sa_ne, sa_eq]) <;> omega)) only [reduceIte, Bool.false_eq_true, if_pos, if_neg, up_ne, up_eq, up_nj, gf_ne, gf_in, sa_ne, sa_eq, and_self, true_and, and_true, p_64_0, p_64_1, p_64_4, q_64_5, p_64_8, p_64_11, p_64_12, p_64_15, p_64_19, p_64_22, p_64_23]
    · unfold Ret
      simp (disch := first | omega | ((simp (disch := omega) only [up_ne, up_eq, up_nj, gf_ne, gf_in, sa_ne, sa_eq]) <;> omega)) only [reduceIte, Bool.false_eq_true, if_pos, if_neg, up_ne, up_eq, up_nj, gf_ne, gf_in, sa_ne, sa_eq, and_self, true_and, and_true, p_108_0, p_108_1, p_108_2, p_108_5, p_108_6, q_108_7, p_108_10, p_108_13, p_108_14, p_108_18, p_108_21, p_108_22]
      rw [p_108_15 (c_pts (hR'.2.2.2.2.jm (by simp (disch := omega) only [up_ne, up_eq, up_nj, gf_ne, gf_in, sa_ne, sa_eq]; exact ha1)) ⟨a.1, by omega⟩)]
      simp (disch := first | omega | ((simp (disch := omega) only [up_ne, up_eq, up_nj, gf_ne, gf_in, sa_ne, sa_eq]) <;> omega)) only [reduceIte, Bool.false_eq_true, if_pos, if_neg, up_ne, up_eq, up_nj, gf_ne, gf_in, sa_ne, sa_eq, and_self, true_and, and_true, p_108_0, p_108_1, p_108_2, p_108_5, p_108_6, q_108_7, p_108_10, p_108_13, p_108_14, p_108_18, p_108_21, p_108_22]
      have e := pt_eq hR'.2.2.2.2 (by simp (disch := omega) only [up_ne, up_eq, up_nj, gf_ne, gf_in, sa_ne, sa_eq]; exact ha1) a.1 (show x < 6 by omega)
      rw [e]
      rfl
  · refine ⟨some (vI (-1)), G, am_up G 54 25 0, ?_, ?_, hR.thrown 0, up_eq rfl rfl⟩
    · unfold Ret
      simp (disch := first | omega | ((simp (disch := omega) only [up_ne, up_eq, up_nj, gf_ne, gf_in, sa_ne, sa_eq]) <;> omega)) only [reduceIte, Bool.false_eq_true, if_pos, if_neg, up_ne, up_eq, up_nj, gf_ne, gf_in, sa_ne, sa_eq, and_self, true_and, and_true, p_64_0, p_64_1, p_64_4, q_64_5, p_64_8, p_64_11, p_64_12, p_64_15, p_64_19, p_64_22, p_64_23]
    · unfold Ret
      simp (disch := first | omega | ((simp (disch := omega) only [up_ne, up_eq, up_nj, gf_ne, gf_in, sa_ne, sa_eq]) <;> omega)) only [reduceIte, Bool.false_eq_true, if_pos, if_neg, up_ne, up_eq, up_nj, gf_ne, gf_in, sa_ne, sa_eq, and_self, true_and, and_true, p_108_0, p_108_1, p_108_2, p_108_5, p_108_6, q_108_7, p_108_10, p_108_13, p_108_14, p_108_18, p_108_21, p_108_22]
/-- who stands ahead -/
def ahd (p rk : Int → Int) (a b : Int) : Bool := if p a ≠ p b then decide (p b < p a) else if rk a ≠ rk b then decide (rk b < rk a) else decide (a < b)
def plc (p rk : Int → Int) (n a : Int) : Int := sumf (fun b => if ahd p rk b a = true then 1 else 0) n.toNat 0
def fst (f : Int → Int) (v : Int) : Nat → Int → Int
  | 0, _ => -1
  | m + 1, i => if f i = v then i else fst f v m (i + 1)
theorem fst_cong {f g : Int → Int} {v : Int} : ∀ (m : Nat) (i : Int), (∀ k : Int, i ≤ k → k < i + m → f k = g k) → fst f v m i = fst g v m i
  | 0, _, _ => rfl
  | m + 1, i, h => by
    rw [fst, fst, h i (by omega) (by omega), fst_cong m (i + 1) (fun k q1 q2 => h k (by omega) (by omega))]
theorem plc_rng (p rk : Int → Int) {n a : Int} (h : 0 ≤ n ∧ n ≤ 6) : 0 ≤ plc p rk n a ∧ plc p rk n a ≤ 6 := by
  have := sumf_rng (p := fun b => if ahd p rk b a = true then 1 else 0) (c := 1) n.toNat 0 (fun k _ _ => by
    split <;> omega)
  unfold plc
  omega
theorem ahd_cong {p q r s : Int → Int} {a b : Int} (h1 : p a = q a) (h2 : p b = q b) (h3 : r a = s a) (h4 : r b = s b) : ahd p r a b = ahd q s a b := by
  unfold ahd
  rw [h1, h2, h3, h4]
theorem ahd_self (p rk : Int → Int) (a : Int) : ahd p rk a a = false := by simp [ahd]
theorem c_isAhead {d : Nat} {G : AG} {a b : Int} (ha : 0 ≤ a ∧ a < 6) (hb : 0 ≤ b ∧ b < 6) (h1 : 0 ≤ G 52 a ∧ G 52 a ≤ 42) (h2 : 0 ≤ G 52 b ∧ G 52 b ≤ 42) (h3 : 0 ≤ G 4 a ∧ G 4 a ≤ 9) (h4 : 0 ≤ G 4 b ∧ G 4 b ≤ 9) : Ret d 7 [vR 41, vI a, vI b] G (some (vI (if ahd (G 52) (G 4) a b = true then 1 else 0))) G := by
  unfold Ret
  by_cases e1 : G 52 a = G 52 b
  · by_cases e2 : G 4 a = G 4 b
    · by_cases e3 : a < b
      · simp (disch := first | omega | ((simp (disch := omega) only [up_ne, up_eq, up_nj, gf_ne, gf_in, sa_ne, sa_eq]) <;> omega)) only [reduceIte, Bool.false_eq_true, if_pos, if_neg, up_ne, up_eq, up_nj, gf_ne, gf_in, sa_ne, sa_eq, and_self, true_and, and_true, p_7_0, p_7_1, p_7_4, p_7_5, p_7_6, p_7_7, p_7_10, p_7_11, p_7_12, p_7_15, p_7_16, p_7_19, p_7_20, p_7_21, p_7_22, p_7_25, p_7_26, p_7_27, p_7_30, p_7_31, p_7_34, p_7_35, p_7_36, p_7_37, p_7_40, p_7_43, p_7_44, p_7_45, p_7_46, p_7_49, p_7_52, p_7_53, p_7_54, p_7_57, p_7_58, p_7_61, p_7_64, p_7_65, p_7_66, p_7_67, p_7_70, p_7_73, p_7_74, p_7_75, p_7_78, p_7_79, p_7_82, p_7_83, p_7_84, p_7_85, p_7_86, p_7_89, p_7_90, p_7_93, p_7_94]
        simp [ahd, e1, e2, e3]
      · simp (disch := first | omega | ((simp (disch := omega) only [up_ne, up_eq, up_nj, gf_ne, gf_in, sa_ne, sa_eq]) <;> omega)) only [reduceIte, Bool.false_eq_true, if_pos, if_neg, up_ne, up_eq, up_nj, gf_ne, gf_in, sa_ne, sa_eq, and_self, true_and, and_true, p_7_0, p_7_1, p_7_4, p_7_5, p_7_6, p_7_7, p_7_10, p_7_11, p_7_12, p_7_15, p_7_16, p_7_19, p_7_20, p_7_21, p_7_22, p_7_25, p_7_26, p_7_27, p_7_30, p_7_31, p_7_34, p_7_35, p_7_36, p_7_37, p_7_40, p_7_43, p_7_44, p_7_45, p_7_46, p_7_49, p_7_52, p_7_53, p_7_54, p_7_57, p_7_58, p_7_61, p_7_64, p_7_65, p_7_66, p_7_67, p_7_70, p_7_73, p_7_74, p_7_75, p_7_78, p_7_79, p_7_82, p_7_83, p_7_84, p_7_85, p_7_86, p_7_89, p_7_90, p_7_93, p_7_94]
        simp [ahd, e1, e2, e3]
    · by_cases e3 : G 4 b < G 4 a
      · simp (disch := first | omega | ((simp (disch := omega) only [up_ne, up_eq, up_nj, gf_ne, gf_in, sa_ne, sa_eq]) <;> omega)) only [reduceIte, Bool.false_eq_true, if_pos, if_neg, up_ne, up_eq, up_nj, gf_ne, gf_in, sa_ne, sa_eq, and_self, true_and, and_true, p_7_0, p_7_1, p_7_4, p_7_5, p_7_6, p_7_7, p_7_10, p_7_11, p_7_12, p_7_15, p_7_16, p_7_19, p_7_20, p_7_21, p_7_22, p_7_25, p_7_26, p_7_27, p_7_30, p_7_31, p_7_34, p_7_35, p_7_36, p_7_37, p_7_40, p_7_43, p_7_44, p_7_45, p_7_46, p_7_49, p_7_52, p_7_53, p_7_54, p_7_57, p_7_58, p_7_61, p_7_64, p_7_65, p_7_66, p_7_67, p_7_70, p_7_73, p_7_74, p_7_75, p_7_78, p_7_79, p_7_82, p_7_83, p_7_84, p_7_85, p_7_86, p_7_89, p_7_90, p_7_93, p_7_94]
        simp [ahd, e1, e2, e3]
      · simp (disch := first | omega | ((simp (disch := omega) only [up_ne, up_eq, up_nj, gf_ne, gf_in, sa_ne, sa_eq]) <;> omega)) only [reduceIte, Bool.false_eq_true, if_pos, if_neg, up_ne, up_eq, up_nj, gf_ne, gf_in, sa_ne, sa_eq, and_self, true_and, and_true, p_7_0, p_7_1, p_7_4, p_7_5, p_7_6, p_7_7, p_7_10, p_7_11, p_7_12, p_7_15, p_7_16, p_7_19, p_7_20, p_7_21, p_7_22, p_7_25, p_7_26, p_7_27, p_7_30, p_7_31, p_7_34, p_7_35, p_7_36, p_7_37, p_7_40, p_7_43, p_7_44, p_7_45, p_7_46, p_7_49, p_7_52, p_7_53, p_7_54, p_7_57, p_7_58, p_7_61, p_7_64, p_7_65, p_7_66, p_7_67, p_7_70, p_7_73, p_7_74, p_7_75, p_7_78, p_7_79, p_7_82, p_7_83, p_7_84, p_7_85, p_7_86, p_7_89, p_7_90, p_7_93, p_7_94]
        simp [ahd, e1, e2, e3]
  · by_cases e3 : G 52 b < G 52 a
    · simp (disch := first | omega | ((simp (disch := omega) only [up_ne, up_eq, up_nj, gf_ne, gf_in, sa_ne, sa_eq]) <;> omega)) only [reduceIte, Bool.false_eq_true, if_pos, if_neg, up_ne, up_eq, up_nj, gf_ne, gf_in, sa_ne, sa_eq, and_self, true_and, and_true, p_7_0, p_7_1, p_7_4, p_7_5, p_7_6, p_7_7, p_7_10, p_7_11, p_7_12, p_7_15, p_7_16, p_7_19, p_7_20, p_7_21, p_7_22, p_7_25, p_7_26, p_7_27, p_7_30, p_7_31, p_7_34, p_7_35, p_7_36, p_7_37, p_7_40, p_7_43, p_7_44, p_7_45, p_7_46, p_7_49, p_7_52, p_7_53, p_7_54, p_7_57, p_7_58, p_7_61, p_7_64, p_7_65, p_7_66, p_7_67, p_7_70, p_7_73, p_7_74, p_7_75, p_7_78, p_7_79, p_7_82, p_7_83, p_7_84, p_7_85, p_7_86, p_7_89, p_7_90, p_7_93, p_7_94]
      simp [ahd, e1, e3]
    · simp (disch := first | omega | ((simp (disch := omega) only [up_ne, up_eq, up_nj, gf_ne, gf_in, sa_ne, sa_eq]) <;> omega)) only [reduceIte, Bool.false_eq_true, if_pos, if_neg, up_ne, up_eq, up_nj, gf_ne, gf_in, sa_ne, sa_eq, and_self, true_and, and_true, p_7_0, p_7_1, p_7_4, p_7_5, p_7_6, p_7_7, p_7_10, p_7_11, p_7_12, p_7_15, p_7_16, p_7_19, p_7_20, p_7_21, p_7_22, p_7_25, p_7_26, p_7_27, p_7_30, p_7_31, p_7_34, p_7_35, p_7_36, p_7_37, p_7_40, p_7_43, p_7_44, p_7_45, p_7_46, p_7_49, p_7_52, p_7_53, p_7_54, p_7_57, p_7_58, p_7_61, p_7_64, p_7_65, p_7_66, p_7_67, p_7_70, p_7_73, p_7_74, p_7_75, p_7_78, p_7_79, p_7_82, p_7_83, p_7_84, p_7_85, p_7_86, p_7_89, p_7_90, p_7_93, p_7_94]
      simp [ahd, e1, e3]
theorem l_placeOf {d : Nat} {G : AG} {Q : Option AV → AG → Prop} {a : Int} (hn : 0 ≤ G 3 4 ∧ G 3 4 ≤ 6) (ha : 0 ≤ a ∧ a < G 3 4) (hs : ∀ i : Int, 0 ≤ i → i < G 3 4 → (0 ≤ G 52 i ∧ G 52 i ≤ 42) ∧ (0 ≤ G 4 i ∧ G 4 i ≤ 9)) : ∀ (m : Nat) (i acc : Int), 0 ≤ i → i + m = G 3 4 → (Ends (d + 1) 6 4 [vR 41, vI a, vI acc, vI i] [] G Q ↔ Q (some (vI (acc + sumf (fun b => if ahd (G 52) (G 4) b a = true then 1 else 0) m i))) G) := by
  intro m
  induction m with
  | zero =>
    intro i acc h0 h1
    simp (disch := first | omega | ((simp (disch := omega) only [up_ne, up_eq, up_nj, gf_ne, gf_in, sa_ne, sa_eq]) <;> omega)) only [reduceIte, Bool.false_eq_true, if_pos, if_neg, up_ne, up_eq, up_nj, gf_ne, gf_in, sa_ne, sa_eq, and_self, true_and, and_true, p_6_4, p_6_5, p_6_6, p_6_9, p_6_12, p_6_15, p_6_16, p_6_17, p_6_21, p_6_24, p_6_27, p_6_33, p_6_34]
    rw [sumf, Int.add_zero]
  | succ m ih =>
    intro i acc h0 h1
    have b := hs i h0 (by omega)
    have b2 := hs a ha.1 ha.2
    rw [sumf]
    simp (disch := first | omega | ((simp (disch := omega) only [up_ne, up_eq, up_nj, gf_ne, gf_in, sa_ne, sa_eq]) <;> omega)) only [reduceIte, Bool.false_eq_true, if_pos, if_neg, up_ne, up_eq, up_nj, gf_ne, gf_in, sa_ne, sa_eq, and_self, true_and, and_true, p_6_4, p_6_5, p_6_6, p_6_9, p_6_12, p_6_15, p_6_16, p_6_17, p_6_21, p_6_24, p_6_27, p_6_33, p_6_34]
    rw [p_6_18 (d := d) (c_isAhead ⟨h0, by omega⟩ ⟨ha.1, by omega⟩ b.1 b2.1 b.2 b2.2)]
    by_cases e : ahd (G 52) (G 4) i a = true
    · simp (disch := first | omega | ((simp (disch := omega) only [up_ne, up_eq, up_nj, gf_ne, gf_in, sa_ne, sa_eq]) <;> omega)) only [reduceIte, Bool.false_eq_true, if_pos, if_neg, up_ne, up_eq, up_nj, gf_ne, gf_in, sa_ne, sa_eq, and_self, true_and, and_true, p_6_4, p_6_5, p_6_6, p_6_9, p_6_12, p_6_15, p_6_16, p_6_17, p_6_21, p_6_24, p_6_27, p_6_33, p_6_34, e]
      rw [p_6_30, ih (i + 1) _ (by omega) (by omega), Int.add_assoc]
    · simp (disch := first | omega | ((simp (disch := omega) only [up_ne, up_eq, up_nj, gf_ne, gf_in, sa_ne, sa_eq]) <;> omega)) only [reduceIte, Bool.false_eq_true, if_pos, if_neg, up_ne, up_eq, up_nj, gf_ne, gf_in, sa_ne, sa_eq, and_self, true_and, and_true, p_6_4, p_6_5, p_6_6, p_6_9, p_6_12, p_6_15, p_6_16, p_6_17, p_6_21, p_6_24, p_6_27, p_6_33, p_6_34, e]
      rw [p_6_30, ih (i + 1) _ (by omega) (by omega), Int.zero_add]
theorem c_placeOf {d : Nat} {G : AG} {a : Int} (hn : 0 ≤ G 3 4 ∧ G 3 4 ≤ 6) (ha : 0 ≤ a ∧ a < G 3 4) (hs : ∀ i : Int, 0 ≤ i → i < G 3 4 → (0 ≤ G 52 i ∧ G 52 i ≤ 42) ∧ (0 ≤ G 4 i ∧ G 4 i ≤ 9)) : Ret (d + 1) 6 [vR 41, vI a, vU, vU] G (some (vI (plc (G 52) (G 4) (G 3 4) a))) G := by
  unfold Ret
  simp (disch := first | omega | ((simp (disch := omega) only [up_ne, up_eq, up_nj, gf_ne, gf_in, sa_ne, sa_eq]) <;> omega)) only [reduceIte, Bool.false_eq_true, if_pos, if_neg, up_ne, up_eq, up_nj, gf_ne, gf_in, sa_ne, sa_eq, and_self, true_and, and_true, p_6_0, p_6_1, p_6_2, p_6_3]
  rw [l_placeOf hn ha hs (G 3 4).toNat 0 0 (by omega) (by omega), Int.zero_add]
  exact ⟨rfl, rfl⟩
theorem l_atP2 {d : Nat} {G : AG} {Q : Option AV → AG → Prop} {v : Int} (hv : -2147483648 ≤ v ∧ v < 2147483648) (hn : 0 ≤ G 3 4 ∧ G 3 4 ≤ 6) (hs : ∀ i : Int, 0 ≤ i → i < G 3 4 → (0 ≤ G 52 i ∧ G 52 i ≤ 42) ∧ (0 ≤ G 4 i ∧ G 4 i ≤ 9)) : ∀ (m : Nat) (i : Int), 0 ≤ i → i + m = G 3 4 → (Ends (d + 3) 5 32 [vR 41, vI v, vI i] [] G Q ↔ Q (some (vI (fst (plc (G 52) (G 4) (G 3 4)) v m i))) G) := by
  intro m
  induction m with
  | zero =>
    intro i h0 h1
    simp (disch := first | omega | ((simp (disch := omega) only [up_ne, up_eq, up_nj, gf_ne, gf_in, sa_ne, sa_eq]) <;> omega)) only [reduceIte, Bool.false_eq_true, if_pos, if_neg, up_ne, up_eq, up_nj, gf_ne, gf_in, sa_ne, sa_eq, and_self, true_and, and_true, p_5_32, p_5_33, p_5_34, p_5_37, p_5_40, p_5_43, p_5_44, p_5_48, p_5_49, p_5_52, p_5_53, p_5_54, p_5_60, p_5_61]
    rw [fst]
  | succ m ih =>
    intro i h0 h1
    have b := plc_rng (G 52) (G 4) (a := i) hn
    rw [fst]
    simp (disch := first | omega | ((simp (disch := omega) only [up_ne, up_eq, up_nj, gf_ne, gf_in, sa_ne, sa_eq]) <;> omega)) only [reduceIte, Bool.false_eq_true, if_pos, if_neg, up_ne, up_eq, up_nj, gf_ne, gf_in, sa_ne, sa_eq, and_self, true_and, and_true, p_5_32, p_5_33, p_5_34, p_5_37, p_5_40, p_5_43, p_5_44, p_5_48, p_5_49, p_5_52, p_5_53, p_5_54, p_5_60, p_5_61]
    rw [p_5_45 (d := d + 2) (c_placeOf (d := d + 1) hn ⟨h0, by omega⟩ hs)]
    by_cases e : plc (G 52) (G 4) (G 3 4) i = v
    · simp (disch := first | omega | ((simp (disch := omega) only [up_ne, up_eq, up_nj, gf_ne, gf_in, sa_ne, sa_eq]) <;> omega)) only [reduceIte, Bool.false_eq_true, if_pos, if_neg, up_ne, up_eq, up_nj, gf_ne, gf_in, sa_ne, sa_eq, and_self, true_and, and_true, p_5_32, p_5_33, p_5_34, p_5_37, p_5_40, p_5_43, p_5_44, p_5_48, p_5_49, p_5_52, p_5_53, p_5_54, p_5_60, p_5_61]
    · simp (disch := first | omega | ((simp (disch := omega) only [up_ne, up_eq, up_nj, gf_ne, gf_in, sa_ne, sa_eq]) <;> omega)) only [reduceIte, Bool.false_eq_true, if_pos, if_neg, up_ne, up_eq, up_nj, gf_ne, gf_in, sa_ne, sa_eq, and_self, true_and, and_true, p_5_32, p_5_33, p_5_34, p_5_37, p_5_40, p_5_43, p_5_44, p_5_48, p_5_49, p_5_52, p_5_53, p_5_54, p_5_60, p_5_61]
      rw [p_5_57, ih (i + 1) (by omega) (by omega)]
/-- the sums are written -/
def sums (G : AG) : Nat → Int → AG
  | 0, _ => G
  | m + 1, i => sums (am_up G 52 i (pt (rowX G) (knX G) (szX G) i)) m (i + 1)
theorem sums_ne {b : Nat} (hb : b ≠ 52) : ∀ (m : Nat) (G : AG) (i : Int), sums G m i b = G b
  | 0, _, _ => rfl
  | m + 1, G, i => by rw [sums, sums_ne hb, am_up_ne _ _ _ _ _ hb]
theorem sums_lo : ∀ (m : Nat) (G : AG) (i k : Int), k < i → sums G m i 52 k = G 52 k
  | 0, _, _, _, _ => rfl
  | m + 1, G, i, k, h => by rw [sums, sums_lo m _ (i + 1) k (by omega), up_nj (by omega)]
theorem pt_up {G : AG} {i z a : Int} : pt (rowX (am_up G 52 i z)) (knX (am_up G 52 i z)) (szX (am_up G 52 i z)) a = pt (rowX G) (knX G) (szX G) a := by
  refine sumf_cong _ _ (fun j q1 q2 => ?_)
  unfold ptj rowX knX szX
  rw [am_up_ne G 52 i z 51 (by decide), am_up_ne G 52 i z 50 (by decide), am_up_ne G 52 i z (43 + j.toNat) (by omega)]
theorem sums_in : ∀ (m : Nat) (G : AG) (i k : Int), i ≤ k → k < i + m → sums G m i 52 k = pt (rowX G) (knX G) (szX G) k
  | 0, _, _, _, h0, h1 => by omega
  | m + 1, G, i, k, h0, h1 => by
    rw [sums]
    by_cases e : k = i
    · subst e
      rw [sums_lo m _ (k + 1) k (by omega), up_eq rfl rfl]
    · rw [sums_in m _ (i + 1) k (by omega) (by omega), pt_up]
theorem l_atP1 {d : Nat} {v n : Int} {Q : Option AV → AG → Prop} (hn : 0 ≤ n ∧ n ≤ 6) : ∀ (m : Nat) (G : AG) (i : Int), JX G → G 3 4 = n → 0 ≤ i → i + m = n → (Ends (d + 3) 5 2 [vR 41, vI v, vI i] [] G Q ↔ Ends (d + 3) 5 30 [vR 41, vI v, vI n] [] (sums G m i) Q) := by
  intro m
  induction m with
  | zero =>
    intro G i hJ hG h0 h1
    have e : i = n := by omega
    subst e
    simp (disch := first | omega | ((simp (disch := omega) only [up_ne, up_eq, up_nj, gf_ne, gf_in, sa_ne, sa_eq]) <;> omega)) only [reduceIte, Bool.false_eq_true, if_pos, if_neg, up_ne, up_eq, up_nj, gf_ne, gf_in, sa_ne, sa_eq, and_self, true_and, and_true, p_5_2, p_5_3, p_5_4, p_5_7, p_5_10, p_5_13, p_5_14, p_5_17, p_5_18, p_5_19, p_5_23, p_5_24]
    rw [sums]
  | succ m ih =>
    intro G i hJ hG h0 h1
    simp (disch := first | omega | ((simp (disch := omega) only [up_ne, up_eq, up_nj, gf_ne, gf_in, sa_ne, sa_eq]) <;> omega)) only [reduceIte, Bool.false_eq_true, if_pos, if_neg, up_ne, up_eq, up_nj, gf_ne, gf_in, sa_ne, sa_eq, and_self, true_and, and_true, p_5_2, p_5_3, p_5_4, p_5_7, p_5_10, p_5_13, p_5_14, p_5_17, p_5_18, p_5_19, p_5_23, p_5_24]
    rw [p_5_20 (d := d + 2) (c_sumFor (d := d) hJ ⟨h0, by omega⟩)]
    simp (disch := first | omega | ((simp (disch := omega) only [up_ne, up_eq, up_nj, gf_ne, gf_in, sa_ne, sa_eq]) <;> omega)) only [reduceIte, Bool.false_eq_true, if_pos, if_neg, up_ne, up_eq, up_nj, gf_ne, gf_in, sa_ne, sa_eq, and_self, true_and, and_true, p_5_2, p_5_3, p_5_4, p_5_7, p_5_10, p_5_13, p_5_14, p_5_17, p_5_18, p_5_19, p_5_23, p_5_24]
    rw [p_5_27, ih _ (i + 1) ?_ ?_ (by omega) (by omega), sums]
    · intro j q1 q2
      simp (disch := omega) only [up_ne, up_eq, up_nj, gf_ne, gf_in, sa_ne, sa_eq]
      exact hJ j q1 q2
    · simp (disch := omega) only [up_ne, up_eq, up_nj, gf_ne, gf_in, sa_ne, sa_eq]
      exact hG
theorem c_atP {d : Nat} {G : AG} {v : Int} (hv : -2147483648 ≤ v ∧ v < 2147483648) (hJ : JX G) (hn : 0 ≤ G 3 4 ∧ G 3 4 ≤ 6) (hr : ∀ i : Int, 0 ≤ i → i < 6 → 0 ≤ G 4 i ∧ G 4 i ≤ 9) : Ret (d + 3) 5 [vR 41, vI v, vU] G (some (vI (fst (plc (pt (rowX G) (knX G) (szX G)) (G 4) (G 3 4)) v (G 3 4).toNat 0))) (sums G (G 3 4).toNat 0) := by
  unfold Ret
  simp (disch := first | omega | ((simp (disch := omega) only [up_ne, up_eq, up_nj, gf_ne, gf_in, sa_ne, sa_eq]) <;> omega)) only [reduceIte, Bool.false_eq_true, if_pos, if_neg, up_ne, up_eq, up_nj, gf_ne, gf_in, sa_ne, sa_eq, and_self, true_and, and_true, p_5_0, p_5_1]
  rw [l_atP1 hn (G 3 4).toNat G 0 hJ rfl (by omega) (by omega)]
  simp (disch := first | omega | ((simp (disch := omega) only [up_ne, up_eq, up_nj, gf_ne, gf_in, sa_ne, sa_eq]) <;> omega)) only [reduceIte, Bool.false_eq_true, if_pos, if_neg, up_ne, up_eq, up_nj, gf_ne, gf_in, sa_ne, sa_eq, and_self, true_and, and_true, p_5_30, p_5_31]
  have e3 : sums G (G 3 4).toNat 0 3 4 = G 3 4 := by rw [sums_ne (by decide)]
  have e4 : sums G (G 3 4).toNat 0 4 = G 4 := sums_ne (by decide) _ _ _
  have e52 : ∀ i : Int, 0 ≤ i → i < G 3 4 → sums G (G 3 4).toNat 0 52 i = pt (rowX G) (knX G) (szX G) i := fun i q1 q2 => sums_in _ _ _ _ q1 (by omega)
  rw [l_atP2 hv (by rw [e3]; exact hn) (fun i q1 q2 => by
    rw [e3] at q2
    rw [e52 i q1 q2, e4]
    exact ⟨pt_rng _ _ _ _, hr i q1 (by omega)⟩) (G 3 4).toNat 0 (by omega) (by rw [e3]; omega)]
  refine ⟨?_, rfl⟩
  congr 2
  refine fst_cong _ _ (fun k q1 q2 => ?_)
  unfold plc
  rw [e3, e4]
  refine sumf_cong _ _ (fun b r1 r2 => ?_)
  rw [ahd_cong (e52 b r1 (by omega)) (e52 k q1 (by omega)) rfl rfl]
theorem c_stands {d : Nat} {G : AG} {a b : Int} (hJ : JM G) (ha : 0 ≤ a ∧ a < 6) (hb : 0 ≤ b ∧ b < 6) (h3 : 0 ≤ G 57 a ∧ G 57 a ≤ 9) (h4 : 0 ≤ G 57 b ∧ G 57 b ≤ 9) : Ret (d + 1) 109 [vR 54, vI a, vI b] G (some (vI (if ahd (pt (rowM G) (knM G) (szM G)) (G 57) a b = true then 1 else 0))) G := by
  have r1 := pt_rng (rowM G) (knM G) (szM G) a
  have r2 := pt_rng (rowM G) (knM G) (szM G) b
  unfold Ret
  simp (disch := first | omega | ((simp (disch := omega) only [up_ne, up_eq, up_nj, gf_ne, gf_in, sa_ne, sa_eq]) <;> omega)) only [reduceIte, Bool.false_eq_true, if_pos, if_neg, up_ne, up_eq, up_nj, gf_ne, gf_in, sa_ne, sa_eq, and_self, true_and, and_true, p_109_0, p_109_1, p_109_5, p_109_6, p_109_10, p_109_13, p_109_14, p_109_18, p_109_19, p_109_23, p_109_26, p_109_27, p_109_30, p_109_31, p_109_32, p_109_33, p_109_36, p_109_37, p_109_38, p_109_39, p_109_42, p_109_43, p_109_44, p_109_47, p_109_48, p_109_51, p_109_52, p_109_53, p_109_54, p_109_57, p_109_58, p_109_59, p_109_62, p_109_63, p_109_66, p_109_67, p_109_68, p_109_69, p_109_70, p_109_73, p_109_74, p_109_77, p_109_78]
  rw [p_109_2 (d := d) (c_pts hJ ha)]
  simp (disch := first | omega | ((simp (disch := omega) only [up_ne, up_eq, up_nj, gf_ne, gf_in, sa_ne, sa_eq]) <;> omega)) only [reduceIte, Bool.false_eq_true, if_pos, if_neg, up_ne, up_eq, up_nj, gf_ne, gf_in, sa_ne, sa_eq, and_self, true_and, and_true, p_109_0, p_109_1, p_109_5, p_109_6, p_109_10, p_109_13, p_109_14, p_109_18, p_109_19, p_109_23, p_109_26, p_109_27, p_109_30, p_109_31, p_109_32, p_109_33, p_109_36, p_109_37, p_109_38, p_109_39, p_109_42, p_109_43, p_109_44, p_109_47, p_109_48, p_109_51, p_109_52, p_109_53, p_109_54, p_109_57, p_109_58, p_109_59, p_109_62, p_109_63, p_109_66, p_109_67, p_109_68, p_109_69, p_109_70, p_109_73, p_109_74, p_109_77, p_109_78]
  rw [p_109_7 (d := d) (c_pts hJ hb)]
  by_cases e1 : pt (rowM G) (knM G) (szM G) a = pt (rowM G) (knM G) (szM G) b
  · by_cases e2 : G 57 a = G 57 b
    · by_cases e3 : a < b
      · simp (disch := first | omega | ((simp (disch := omega) only [up_ne, up_eq, up_nj, gf_ne, gf_in, sa_ne, sa_eq]) <;> omega)) only [reduceIte, Bool.false_eq_true, if_pos, if_neg, up_ne, up_eq, up_nj, gf_ne, gf_in, sa_ne, sa_eq, and_self, true_and, and_true, p_109_0, p_109_1, p_109_5, p_109_6, p_109_10, p_109_13, p_109_14, p_109_18, p_109_19, p_109_23, p_109_26, p_109_27, p_109_30, p_109_31, p_109_32, p_109_33, p_109_36, p_109_37, p_109_38, p_109_39, p_109_42, p_109_43, p_109_44, p_109_47, p_109_48, p_109_51, p_109_52, p_109_53, p_109_54, p_109_57, p_109_58, p_109_59, p_109_62, p_109_63, p_109_66, p_109_67, p_109_68, p_109_69, p_109_70, p_109_73, p_109_74, p_109_77, p_109_78]
        simp [ahd, e1, e2, e3]
      · simp (disch := first | omega | ((simp (disch := omega) only [up_ne, up_eq, up_nj, gf_ne, gf_in, sa_ne, sa_eq]) <;> omega)) only [reduceIte, Bool.false_eq_true, if_pos, if_neg, up_ne, up_eq, up_nj, gf_ne, gf_in, sa_ne, sa_eq, and_self, true_and, and_true, p_109_0, p_109_1, p_109_5, p_109_6, p_109_10, p_109_13, p_109_14, p_109_18, p_109_19, p_109_23, p_109_26, p_109_27, p_109_30, p_109_31, p_109_32, p_109_33, p_109_36, p_109_37, p_109_38, p_109_39, p_109_42, p_109_43, p_109_44, p_109_47, p_109_48, p_109_51, p_109_52, p_109_53, p_109_54, p_109_57, p_109_58, p_109_59, p_109_62, p_109_63, p_109_66, p_109_67, p_109_68, p_109_69, p_109_70, p_109_73, p_109_74, p_109_77, p_109_78]
        simp [ahd, e1, e2, e3]
    · by_cases e3 : G 57 b < G 57 a
      · simp (disch := first | omega | ((simp (disch := omega) only [up_ne, up_eq, up_nj, gf_ne, gf_in, sa_ne, sa_eq]) <;> omega)) only [reduceIte, Bool.false_eq_true, if_pos, if_neg, up_ne, up_eq, up_nj, gf_ne, gf_in, sa_ne, sa_eq, and_self, true_and, and_true, p_109_0, p_109_1, p_109_5, p_109_6, p_109_10, p_109_13, p_109_14, p_109_18, p_109_19, p_109_23, p_109_26, p_109_27, p_109_30, p_109_31, p_109_32, p_109_33, p_109_36, p_109_37, p_109_38, p_109_39, p_109_42, p_109_43, p_109_44, p_109_47, p_109_48, p_109_51, p_109_52, p_109_53, p_109_54, p_109_57, p_109_58, p_109_59, p_109_62, p_109_63, p_109_66, p_109_67, p_109_68, p_109_69, p_109_70, p_109_73, p_109_74, p_109_77, p_109_78]
        simp [ahd, e1, e2, e3]
      · simp (disch := first | omega | ((simp (disch := omega) only [up_ne, up_eq, up_nj, gf_ne, gf_in, sa_ne, sa_eq]) <;> omega)) only [reduceIte, Bool.false_eq_true, if_pos, if_neg, up_ne, up_eq, up_nj, gf_ne, gf_in, sa_ne, sa_eq, and_self, true_and, and_true, p_109_0, p_109_1, p_109_5, p_109_6, p_109_10, p_109_13, p_109_14, p_109_18, p_109_19, p_109_23, p_109_26, p_109_27, p_109_30, p_109_31, p_109_32, p_109_33, p_109_36, p_109_37, p_109_38, p_109_39, p_109_42, p_109_43, p_109_44, p_109_47, p_109_48, p_109_51, p_109_52, p_109_53, p_109_54, p_109_57, p_109_58, p_109_59, p_109_62, p_109_63, p_109_66, p_109_67, p_109_68, p_109_69, p_109_70, p_109_73, p_109_74, p_109_77, p_109_78]
        simp [ahd, e1, e2, e3]
  · simp (disch := first | omega | ((simp (disch := omega) only [up_ne, up_eq, up_nj, gf_ne, gf_in, sa_ne, sa_eq]) <;> omega)) only [reduceIte, Bool.false_eq_true, if_pos, if_neg, up_ne, up_eq, up_nj, gf_ne, gf_in, sa_ne, sa_eq, and_self, true_and, and_true, p_109_0, p_109_1, p_109_5, p_109_6, p_109_10, p_109_13, p_109_14, p_109_18, p_109_19, p_109_23, p_109_26, p_109_27, p_109_30, p_109_31, p_109_32, p_109_33, p_109_36, p_109_37, p_109_38, p_109_39, p_109_42, p_109_43, p_109_44, p_109_47, p_109_48, p_109_51, p_109_52, p_109_53, p_109_54, p_109_57, p_109_58, p_109_59, p_109_62, p_109_63, p_109_66, p_109_67, p_109_68, p_109_69, p_109_70, p_109_73, p_109_74, p_109_77, p_109_78]
    rw [p_109_15 (d := d) (c_pts hJ ha)]
    simp (disch := first | omega | ((simp (disch := omega) only [up_ne, up_eq, up_nj, gf_ne, gf_in, sa_ne, sa_eq]) <;> omega)) only [reduceIte, Bool.false_eq_true, if_pos, if_neg, up_ne, up_eq, up_nj, gf_ne, gf_in, sa_ne, sa_eq, and_self, true_and, and_true, p_109_0, p_109_1, p_109_5, p_109_6, p_109_10, p_109_13, p_109_14, p_109_18, p_109_19, p_109_23, p_109_26, p_109_27, p_109_30, p_109_31, p_109_32, p_109_33, p_109_36, p_109_37, p_109_38, p_109_39, p_109_42, p_109_43, p_109_44, p_109_47, p_109_48, p_109_51, p_109_52, p_109_53, p_109_54, p_109_57, p_109_58, p_109_59, p_109_62, p_109_63, p_109_66, p_109_67, p_109_68, p_109_69, p_109_70, p_109_73, p_109_74, p_109_77, p_109_78]
    rw [p_109_20 (d := d) (c_pts hJ hb)]
    by_cases e3 : pt (rowM G) (knM G) (szM G) b < pt (rowM G) (knM G) (szM G) a
    · simp (disch := first | omega | ((simp (disch := omega) only [up_ne, up_eq, up_nj, gf_ne, gf_in, sa_ne, sa_eq]) <;> omega)) only [reduceIte, Bool.false_eq_true, if_pos, if_neg, up_ne, up_eq, up_nj, gf_ne, gf_in, sa_ne, sa_eq, and_self, true_and, and_true, p_109_0, p_109_1, p_109_5, p_109_6, p_109_10, p_109_13, p_109_14, p_109_18, p_109_19, p_109_23, p_109_26, p_109_27, p_109_30, p_109_31, p_109_32, p_109_33, p_109_36, p_109_37, p_109_38, p_109_39, p_109_42, p_109_43, p_109_44, p_109_47, p_109_48, p_109_51, p_109_52, p_109_53, p_109_54, p_109_57, p_109_58, p_109_59, p_109_62, p_109_63, p_109_66, p_109_67, p_109_68, p_109_69, p_109_70, p_109_73, p_109_74, p_109_77, p_109_78]
      simp [ahd, e1, e3]
    · simp (disch := first | omega | ((simp (disch := omega) only [up_ne, up_eq, up_nj, gf_ne, gf_in, sa_ne, sa_eq]) <;> omega)) only [reduceIte, Bool.false_eq_true, if_pos, if_neg, up_ne, up_eq, up_nj, gf_ne, gf_in, sa_ne, sa_eq, and_self, true_and, and_true, p_109_0, p_109_1, p_109_5, p_109_6, p_109_10, p_109_13, p_109_14, p_109_18, p_109_19, p_109_23, p_109_26, p_109_27, p_109_30, p_109_31, p_109_32, p_109_33, p_109_36, p_109_37, p_109_38, p_109_39, p_109_42, p_109_43, p_109_44, p_109_47, p_109_48, p_109_51, p_109_52, p_109_53, p_109_54, p_109_57, p_109_58, p_109_59, p_109_62, p_109_63, p_109_66, p_109_67, p_109_68, p_109_69, p_109_70, p_109_73, p_109_74, p_109_77, p_109_78]
      simp [ahd, e1, e3]
theorem l_prz {d : Nat} {G : AG} {Q : Option AV → AG → Prop} {v a n : Int} (hJ : JM G) (hn : 0 ≤ n ∧ n ≤ 6) (hN : G 54 7 = n) (ha : 0 ≤ a ∧ a < n) (hr : ∀ i : Int, 0 ≤ i → i < 6 → 0 ≤ G 57 i ∧ G 57 i ≤ 9) : ∀ (m : Nat) (i acc : Int), 0 ≤ i → i + m = n → (Ends (d + 2) 110 20 [vR 54, vI v, vI a, vI acc, vI i] [] G Q ↔ Ends (d + 2) 110 54 [vR 54, vI v, vI a, vI (acc + sumf (fun b => if ahd (pt (rowM G) (knM G) (szM G)) (G 57) b a = true then 1 else 0) m i), vI n] [] G Q) := by
  intro m
  induction m with
  | zero =>
    intro i acc h0 h1
    have e : i = n := by omega
    subst e
    simp (disch := first | omega | ((simp (disch := omega) only [up_ne, up_eq, up_nj, gf_ne, gf_in, sa_ne, sa_eq]) <;> omega)) only [reduceIte, Bool.false_eq_true, if_pos, if_neg, up_ne, up_eq, up_nj, gf_ne, gf_in, sa_ne, sa_eq, and_self, true_and, and_true, p_110_20, p_110_22, p_110_23, p_110_26, p_110_29, p_110_31, p_110_32, p_110_35, p_110_36, p_110_38, p_110_42, p_110_45, p_110_48]
    rw [sumf, Int.add_zero]
  | succ m ih =>
    intro i acc h0 h1
    rw [sumf]
    by_cases e0 : i = a
    · subst e0
      simp (disch := first | omega | ((simp (disch := omega) only [up_ne, up_eq, up_nj, gf_ne, gf_in, sa_ne, sa_eq]) <;> omega)) only [reduceIte, Bool.false_eq_true, if_pos, if_neg, up_ne, up_eq, up_nj, gf_ne, gf_in, sa_ne, sa_eq, and_self, true_and, and_true, p_110_20, p_110_22, p_110_23, p_110_26, p_110_29, p_110_31, p_110_32, p_110_35, p_110_36, p_110_38, p_110_42, p_110_45, p_110_48]
      rw [p_110_51, ih (i + 1) _ (by omega) (by omega), ahd_self]
      simp only [Bool.false_eq_true, if_false, Int.zero_add]
    · simp (disch := first | omega | ((simp (disch := omega) only [up_ne, up_eq, up_nj, gf_ne, gf_in, sa_ne, sa_eq]) <;> omega)) only [reduceIte, Bool.false_eq_true, if_pos, if_neg, up_ne, up_eq, up_nj, gf_ne, gf_in, sa_ne, sa_eq, and_self, true_and, and_true, p_110_20, p_110_22, p_110_23, p_110_26, p_110_29, p_110_31, p_110_32, p_110_35, p_110_36, p_110_38, p_110_42, p_110_45, p_110_48]
      rw [p_110_39 (d := d + 1) (c_stands hJ ⟨h0, by omega⟩ ⟨ha.1, by omega⟩ (hr i h0 (by omega)) (hr a ha.1 (by omega)))]
      by_cases e : ahd (pt (rowM G) (knM G) (szM G)) (G 57) i a = true
      · simp (disch := first | omega | ((simp (disch := omega) only [up_ne, up_eq, up_nj, gf_ne, gf_in, sa_ne, sa_eq]) <;> omega)) only [reduceIte, Bool.false_eq_true, if_pos, if_neg, up_ne, up_eq, up_nj, gf_ne, gf_in, sa_ne, sa_eq, and_self, true_and, and_true, p_110_20, p_110_22, p_110_23, p_110_26, p_110_29, p_110_31, p_110_32, p_110_35, p_110_36, p_110_38, p_110_42, p_110_45, p_110_48, e]
        rw [p_110_51, ih (i + 1) _ (by omega) (by omega), Int.add_assoc]
      · simp (disch := first | omega | ((simp (disch := omega) only [up_ne, up_eq, up_nj, gf_ne, gf_in, sa_ne, sa_eq]) <;> omega)) only [reduceIte, Bool.false_eq_true, if_pos, if_neg, up_ne, up_eq, up_nj, gf_ne, gf_in, sa_ne, sa_eq, and_self, true_and, and_true, p_110_20, p_110_22, p_110_23, p_110_26, p_110_29, p_110_31, p_110_32, p_110_35, p_110_36, p_110_38, p_110_42, p_110_45, p_110_48, e]
        rw [p_110_51, ih (i + 1) _ (by omega) (by omega), Int.zero_add]
theorem l_prz2 {d : Nat} {G : AG} {Q : Option AV → AG → Prop} {v n : Int} (hv : -2147483648 ≤ v ∧ v < 2147483648) (hJ : JM G) (hn : 0 ≤ n ∧ n ≤ 6) (hN : G 54 7 = n) (hr : ∀ i : Int, 0 ≤ i → i < 6 → 0 ≤ G 57 i ∧ G 57 i ≤ 9) : ∀ (m : Nat) (i : Int) (l3 l4 : AV), (l3 = vU ∨ ∃ z, l3 = vI z) → 0 ≤ i → i + m = n → (Ends (d + 2) 110 7 [vR 54, vI v, vI i, l3, l4] [] G Q ↔ Q (some (vI (fst (plc (pt (rowM G) (knM G) (szM G)) (G 57) n) v m i))) G) := by
  intro m
  induction m with
  | zero =>
    intro i l3 l4 o3 h0 h1
    simp (disch := first | omega | ((simp (disch := omega) only [up_ne, up_eq, up_nj, gf_ne, gf_in, sa_ne, sa_eq]) <;> omega)) only [reduceIte, Bool.false_eq_true, if_pos, if_neg, up_ne, up_eq, up_nj, gf_ne, gf_in, sa_ne, sa_eq, and_self, true_and, and_true, p_110_7, p_110_8, p_110_9, p_110_12, p_110_15, p_110_16, p_110_17, p_110_18, p_110_54, p_110_55, p_110_56, p_110_59, p_110_60, p_110_61, p_110_67, p_110_68]
    rw [fst]
  | succ m ih =>
    intro i l3 l4 o3 h0 h1
    have b := plc_rng (pt (rowM G) (knM G) (szM G)) (G 57) (a := i) hn
    rw [fst]
    rcases o3 with rfl | ⟨z, rfl⟩
    all_goals
      simp (disch := first | omega | ((simp (disch := omega) only [up_ne, up_eq, up_nj, gf_ne, gf_in, sa_ne, sa_eq]) <;> omega)) only [reduceIte, Bool.false_eq_true, if_pos, if_neg, up_ne, up_eq, up_nj, gf_ne, gf_in, sa_ne, sa_eq, and_self, true_and, and_true, p_110_7, p_110_8, p_110_9, p_110_12, p_110_15, p_110_16, p_110_17, p_110_18]
      rw [l_prz hJ hn hN ⟨h0, by omega⟩ hr n.toNat 0 0 (by omega) (by omega), Int.zero_add]
      change Ends (d + 2) 110 54 [vR 54, vI v, vI i, vI (plc (pt (rowM G) (knM G) (szM G)) (G 57) n i), vI n] [] G Q ↔ _
      by_cases e : plc (pt (rowM G) (knM G) (szM G)) (G 57) n i = v
      · simp (disch := first | omega | ((simp (disch := omega) only [up_ne, up_eq, up_nj, gf_ne, gf_in, sa_ne, sa_eq]) <;> omega)) only [reduceIte, Bool.false_eq_true, if_pos, if_neg, up_ne, up_eq, up_nj, gf_ne, gf_in, sa_ne, sa_eq, and_self, true_and, and_true, p_110_54, p_110_55, p_110_56, p_110_59, p_110_60, p_110_61, p_110_67, p_110_68]
      · simp (disch := first | omega | ((simp (disch := omega) only [up_ne, up_eq, up_nj, gf_ne, gf_in, sa_ne, sa_eq]) <;> omega)) only [reduceIte, Bool.false_eq_true, if_pos, if_neg, up_ne, up_eq, up_nj, gf_ne, gf_in, sa_ne, sa_eq, and_self, true_and, and_true, p_110_54, p_110_55, p_110_56, p_110_59, p_110_60, p_110_61, p_110_67, p_110_68]
        rw [p_110_64, ih (i + 1) _ _ (Or.inr ⟨_, rfl⟩) (by omega) (by omega)]
/-- cells that no part looks at may change -/
theorem Rel.scr {G G' : AG} (h : Rel G) (e : ∀ b : Nat, (b ≤ 15 ∨ (33 ≤ b ∧ b ≤ 37) ∨ (39 ≤ b ∧ b ≤ 51) ∨ (55 ≤ b ∧ b ≤ 71)) → G' b = G b) (e54 : ∀ j : Int, j ≠ 25 → j ≠ 33 → G' 54 j = G 54 j) : Rel G' := by
  refine ⟨?_, ?_, ?_, ?_, ?_⟩
  · refine h.1.cong ?_ ?_ ?_ ?_ ?_ ?_ ?_
    all_goals first | (apply e; omega) | (apply e54 <;> decide)
  · refine h.2.1.cong ?_ ?_ ?_ ?_ (fun a _ _ => ?_) ?_ ?_ ?_ ?_ ?_
    all_goals first | (apply e; omega) | (apply e54 <;> decide) | (rw [e 0 (by omega)]; exact Int.le_refl _)
  · refine h.2.2.1.cong ?_ ?_ ?_ ?_ ?_ ?_ ?_ ?_ ?_
    all_goals first | (apply e; omega) | (apply e54 <;> decide) | (rw [e 0 (by omega)]; exact Int.le_refl _) | (rw [e 3 (by omega)]; exact Int.le_refl _)
  · refine h.2.2.2.1.cong ?_ ?_ ?_ ?_ ?_ ?_ ?_ ?_ ?_ ?_ ?_ ?_ ?_ ?_ ?_ ?_ ?_
    all_goals first | (apply e; omega) | (apply e54 <;> decide) | (rw [e 0 (by omega)]; exact Int.le_refl _)
  · refine h.2.2.2.2.cong ?_ ?_ ?_ (fun a _ _ => ?_) ?_ ?_ ?_
    all_goals first | (apply e; omega) | (rw [e 3 (by omega)]; exact Int.le_refl _)
theorem sumf_lt {p : Int → Int} : ∀ (m : Nat) (i : Int), (∀ k : Int, i ≤ k → k < i + m → 0 ≤ p k ∧ p k ≤ 1) → (∃ k : Int, i ≤ k ∧ k < i + m ∧ p k = 0) → sumf p m i ≤ m - 1
  | 0, i, _, h => by obtain ⟨k, q1, q2, _⟩ := h; omega
  | m + 1, i, h, hk => by
    obtain ⟨k, q1, q2, q3⟩ := hk
    have b := h i (by omega) (by omega)
    rw [sumf]
    by_cases e : k = i
    · subst e
      have h1 := sumf_rng (p := p) (c := 1) m (k + 1) (fun k' r1 r2 => h k' (by omega) (by omega))
      omega
    · have h1 := sumf_lt m (i + 1) (fun k' r1 r2 => h k' (by omega) (by omega)) ⟨k, by omega, by omega, q3⟩
      omega
theorem plc_lt (p rk : Int → Int) {n a : Int} (h : 0 ≤ n ∧ n ≤ 6) (ha : 0 ≤ a ∧ a < n) : plc p rk n a < n := by
  have := sumf_lt (p := fun b => if ahd p rk b a = true then 1 else 0) n.toNat 0 (fun k _ _ => by split <;> omega) ⟨a, ha.1, by omega, by rw [ahd_self]; rfl⟩
  unfold plc
  omega
theorem fst_no {f : Int → Int} {v : Int} : ∀ (m : Nat) (i : Int), (∀ k : Int, i ≤ k → k < i + m → f k ≠ v) → fst f v m i = -1
  | 0, _, _ => rfl
  | m + 1, i, h => by
    rw [fst, if_neg (h i (by omega) (by omega)), fst_no m (i + 1) (fun k q1 q2 => h k (by omega) (by omega))]
theorem pair_prize {G : AG} (hR : Rel G) {x : Int} (hx : -2147483648 ≤ x ∧ x < 2147483648) : Pair 65 110 [vI x] [vI x, vU, vU, vU] G := by
  obtain ⟨ha0, ha1, ha2, ha3, ha4, ha5, ha6⟩ := id hR.2.1
  have hn : 0 ≤ G 3 4 ∧ G 3 4 ≤ 6 := ⟨ha0, ha1⟩
  have key : ∀ G' : AG, RJ G' → G' 3 4 = G 3 4 → (∀ b : Nat, (b ≤ 15 ∨ (33 ≤ b ∧ b ≤ 37) ∨ (39 ≤ b ∧ b ≤ 51) ∨ (55 ≤ b ∧ b ≤ 71)) → G' b = G b) → ∀ k : Int, 0 ≤ k → k < G 3 4 → plc (pt (rowM G') (knM G') (szM G')) (G' 57) (G 3 4) k = plc (pt (rowX G) (knX G) (szX G)) (G 4) (G 3 4) k := by
    intro G' hJ hN e k q1 q2
    refine sumf_cong _ _ (fun b r1 r2 => ?_)
    have hp : ∀ a : Int, 0 ≤ a → a < G 3 4 → pt (rowM G') (knM G') (szM G') a = pt (rowX G) (knX G) (szX G) a := by
      intro a s1 s2
      rw [pt_eq hJ (by omega) s1 (by omega)]
      refine sumf_cong _ _ (fun j t1 t2 => ?_)
      unfold ptj rowX knX szX
      rw [e 51 (by omega), e 50 (by omega), e (43 + j.toNat) (by omega)]
    have hq : ∀ a : Int, 0 ≤ a → a < G 3 4 → G' 57 a = G 4 a := by
      intro a s1 s2
      rw [e 57 (by omega)]
      exact (ha5 a s1 (by omega)).1
    rw [ahd_cong (hp b r1 (by omega)) (hp k q1 q2) (hq b r1 (by omega)) (hq k q1 q2)]
  by_cases a : 0 ≤ x ∧ x < G 3 4
  · have eS : ∀ b : Nat, b ≠ 52 → b ≠ 54 → am_up (sums G (G 3 4).toNat 0) 54 25 0 b = G b := by
      intro b q1 q2
      rw [am_up_ne _ _ _ _ _ q2, sums_ne q1]
    have hR' : Rel (am_up (sums G (G 3 4).toNat 0) 54 25 0) := hR.scr (fun b hb => eS b (by omega) (by omega)) (fun j q1 q2 => by rw [up_nj q1, sums_ne (by decide)])
    have e34 : am_up (sums G (G 3 4).toNat 0) 54 25 0 3 4 = G 3 4 := by rw [eS 3 (by decide) (by decide)]
    refine ⟨some (vI (fst (plc (pt (rowX G) (knX G) (szX G)) (G 4) (G 3 4)) x (G 3 4).toNat 0)), sums G (G 3 4).toNat 0, am_up (sums G (G 3 4).toNat 0) 54 25 0, ?_, ?_, hR', up_eq rfl rfl⟩
    · unfold Ret
      simp (disch := first | omega | ((simp (disch := omega) only [up_ne, up_eq, up_nj, gf_ne, gf_in, sa_ne, sa_eq]) <;> omega)) only [reduceIte, Bool.false_eq_true, if_pos, if_neg, up_ne, up_eq, up_nj, gf_ne, gf_in, sa_ne, sa_eq, and_self, true_and, and_true, p_65_0, p_65_1, p_65_4, q_65_5, p_65_8, p_65_11, p_65_12, p_65_15, p_65_19, p_65_22, p_65_23]
      rw [p_65_16 (c_atP (d := 26) hx (hR.2.2.2.2.jx ha1) hn (fun i q1 q2 => by have := ha5 i q1 q2; omega))]
      simp (disch := first | omega | ((simp (disch := omega) only [up_ne, up_eq, up_nj, gf_ne, gf_in, sa_ne, sa_eq]) <;> omega)) only [reduceIte, Bool.false_eq_true, if_pos, if_neg, up_ne, up_eq, up_nj, gf_ne, gf_in, sa_ne, sa_eq, and_self, true_and, and_true, p_65_0, p_65_1, p_65_4, q_65_5, p_65_8, p_65_11, p_65_12, p_65_15, p_65_19, p_65_22, p_65_23]
    · unfold Ret
      simp (disch := first | omega | ((simp (disch := omega) only [up_ne, up_eq, up_nj, gf_ne, gf_in, sa_ne, sa_eq]) <;> omega)) only [reduceIte, Bool.false_eq_true, if_pos, if_neg, up_ne, up_eq, up_nj, gf_ne, gf_in, sa_ne, sa_eq, and_self, true_and, and_true, p_110_0, p_110_1, p_110_2, p_110_5, p_110_6]
      rw [l_prz2 hx (hR'.2.2.2.2.jm (by rw [e34]; exact ha1)) hn ?_ ?_ (G 3 4).toNat 0 _ _ (Or.inl rfl) (by omega) (by omega)]
      · refine ⟨?_, rfl⟩
        congr 2
        exact fst_cong _ _ (fun k q1 q2 => key _ hR'.2.2.2.2 e34 (fun b hb => eS b (by omega) (by omega)) k q1 (by omega))
      · rw [up_nj (by decide), sums_ne (by decide)]
        exact ha2
      · intro i q1 q2
        rw [eS 57 (by decide) (by decide)]
        have := ha5 i q1 q2
        omega
  · have hR' := hR.thrown 0
    have eS : ∀ b : Nat, b ≠ 54 → am_up G 54 25 0 b = G b := fun b q2 => am_up_ne _ _ _ _ _ q2
    have e34 : am_up G 54 25 0 3 4 = G 3 4 := by rw [eS 3 (by decide)]
    refine ⟨some (vI (-1)), G, am_up G 54 25 0, ?_, ?_, hR', up_eq rfl rfl⟩
    · unfold Ret
      simp (disch := first | omega | ((simp (disch := omega) only [up_ne, up_eq, up_nj, gf_ne, gf_in, sa_ne, sa_eq]) <;> omega)) only [reduceIte, Bool.false_eq_true, if_pos, if_neg, up_ne, up_eq, up_nj, gf_ne, gf_in, sa_ne, sa_eq, and_self, true_and, and_true, p_65_0, p_65_1, p_65_4, q_65_5, p_65_8, p_65_11, p_65_12, p_65_15, p_65_19, p_65_22, p_65_23]
    · unfold Ret
      simp (disch := first | omega | ((simp (disch := omega) only [up_ne, up_eq, up_nj, gf_ne, gf_in, sa_ne, sa_eq]) <;> omega)) only [reduceIte, Bool.false_eq_true, if_pos, if_neg, up_ne, up_eq, up_nj, gf_ne, gf_in, sa_ne, sa_eq, and_self, true_and, and_true, p_110_0, p_110_1, p_110_2, p_110_5, p_110_6]
      rw [l_prz2 hx (hR'.2.2.2.2.jm (by rw [e34]; exact ha1)) hn ?_ ?_ (G 3 4).toNat 0 _ _ (Or.inl rfl) (by omega) (by omega)]
      · refine ⟨?_, rfl⟩
        congr 2
        refine fst_no _ _ (fun k q1 q2 => ?_)
        have h1 := plc_lt (pt (rowM (am_up G 54 25 0)) (knM (am_up G 54 25 0)) (szM (am_up G 54 25 0))) (am_up G 54 25 0 57) hn (show 0 ≤ k ∧ k < G 3 4 by omega)
        have h2 := plc_rng (pt (rowM (am_up G 54 25 0)) (knM (am_up G 54 25 0)) (szM (am_up G 54 25 0))) (am_up G 54 25 0 57) (a := k) hn
        omega
      · rw [up_nj (by decide)]
        exact ha2
      · intro i q1 q2
        rw [eS 57 (by decide)]
        have := ha5 i q1 q2
        omega
