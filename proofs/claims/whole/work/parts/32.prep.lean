/-! the planner's tables -/
def W0 : Int := 2565726409
def lkX (G : AG) (o : Int) : Int := G (7 + (o / 6).toNat) (o % 6)
def wvX (G : AG) (cost slot o : Int) : Int := (if o = 36 then 0 else lkX G o) - (if o = G 14 slot then 0 else cost)
def vvX (G : AG) (cost slot o : Int) : Int := wvX G cost slot o * 2565726409 - o * f_pl slot
theorem l_weigh {d : Nat} {Q : Option AV → AG → Prop} {slot cost : Int} {G0 : AG} (hO : HO G0) (hX : XS G0) (hs : 0 ≤ slot ∧ slot < 6) (hc : 0 ≤ cost ∧ cost ≤ 1000) (K : ∀ G' : AG, (∀ b : Nat, b ≠ 18 + slot.toNat → G' b = G0 b) → (∀ o : Int, 0 ≤ o → o < 37 → G' (18 + slot.toNat) o = vvX G0 cost slot o) → Q none G') :
    ∀ (m : Nat) (i : Int) (G : AG) (l4 l5 : AV), 0 ≤ i → i + m = 37 → (∀ b : Nat, b ≠ 18 + slot.toNat → G b = G0 b) → (∀ o : Int, 0 ≤ o → o < i → G (18 + slot.toNat) o = vvX G0 cost slot o) → Ends d 24 2 [vR 16, vI slot, vI cost, vI i, l4, l5] [] G Q := by
  have bs := hO slot hs.1 hs.2
  intro m
  induction m with
  | zero =>
    intro i G l4 l5 h0 h1 hE hV
    simp (disch := first | omega | ((simp (disch := omega) only [up_ne, up_eq, up_nj, gf_ne, gf_in, sa_ne, sa_eq]) <;> omega)) only [reduceIte, Bool.false_eq_true, if_pos, if_neg, up_ne, up_eq, up_nj, gf_ne, gf_in, sa_ne, sa_eq, and_self, true_and, and_true, p_24_2, p_24_3, p_24_5, p_24_8, p_24_9, p_24_11, p_24_12, p_24_14, p_24_17, p_24_18, p_24_21, p_24_24, p_24_25, p_24_27, p_24_28, p_24_29, p_24_30, p_24_32, p_24_33, p_24_34, p_24_35, p_24_37, p_24_38, p_24_39, p_24_42, p_24_45, p_24_46, p_24_47, p_24_50, p_24_52, p_24_53, p_24_54, p_24_55, p_24_57, p_24_58, p_24_61, p_24_62, p_24_63, p_24_64, p_24_66, p_24_69, p_24_70, p_24_71, p_24_72, p_24_75, p_24_76, p_24_77, p_24_78, p_24_79, p_24_80, p_24_86]
    exact K G hE (fun o q1 q2 => hV o q1 (by omega))
  | succ m ih =>
    intro i G l4 l5 h0 h1 hE hV
    have e14 : G 14 slot = G0 14 slot := by rw [hE 14 (by omega)]
    have step : ∀ w : Int, w = wvX G0 cost slot i → Ends d 24 2 [vR 16, vI slot, vI cost, vI (i + 1), vL w, vU] [] (am_up G (18 + slot.toNat) i (w * 2565726409 - i * f_pl slot)) Q := by
      intro w hw
      refine ih (i + 1) _ _ _ (by omega) (by omega) (fun b hb => by rw [am_up_ne _ _ _ _ _ hb, hE b hb]) (fun o q1 q2 => ?_)
      by_cases e : o = i
      · subst e
        rw [up_eq rfl rfl, vvX, hw]
      · rw [up_nj e, hV o q1 (by omega)]
    by_cases e36 : i = 36
    · subst e36
      by_cases e : (36 : Int) = G0 14 slot
      · simp (disch := first | omega | ((simp (disch := omega) only [up_ne, up_eq, up_nj, gf_ne, gf_in, sa_ne, sa_eq]) <;> omega)) only [reduceIte, Bool.false_eq_true, if_pos, if_neg, up_ne, up_eq, up_nj, gf_ne, gf_in, sa_ne, sa_eq, and_self, true_and, and_true, p_24_2, p_24_3, p_24_5, p_24_8, p_24_9, p_24_11, p_24_12, p_24_14, p_24_17, p_24_18, p_24_21, p_24_24, p_24_25, p_24_27, p_24_28, p_24_29, p_24_30, p_24_32, p_24_33, p_24_34, p_24_35, p_24_37, p_24_38, p_24_39, p_24_42, p_24_45, p_24_46, p_24_47, p_24_50, p_24_52, p_24_53, p_24_54, p_24_55, p_24_57, p_24_58, p_24_61, p_24_62, p_24_63, p_24_64, p_24_66, p_24_69, p_24_70, p_24_71, p_24_72, p_24_75, p_24_76, p_24_77, p_24_78, p_24_79, p_24_80, p_24_86, e14]
        rw [p_24_83]
        refine step 0 ?_
        rw [wvX, if_pos rfl, if_pos e]
        rfl
      · simp (disch := first | omega | ((simp (disch := omega) only [up_ne, up_eq, up_nj, gf_ne, gf_in, sa_ne, sa_eq]) <;> omega)) only [reduceIte, Bool.false_eq_true, if_pos, if_neg, up_ne, up_eq, up_nj, gf_ne, gf_in, sa_ne, sa_eq, and_self, true_and, and_true, p_24_2, p_24_3, p_24_5, p_24_8, p_24_9, p_24_11, p_24_12, p_24_14, p_24_17, p_24_18, p_24_21, p_24_24, p_24_25, p_24_27, p_24_28, p_24_29, p_24_30, p_24_32, p_24_33, p_24_34, p_24_35, p_24_37, p_24_38, p_24_39, p_24_42, p_24_45, p_24_46, p_24_47, p_24_50, p_24_52, p_24_53, p_24_54, p_24_55, p_24_57, p_24_58, p_24_61, p_24_62, p_24_63, p_24_64, p_24_66, p_24_69, p_24_70, p_24_71, p_24_72, p_24_75, p_24_76, p_24_77, p_24_78, p_24_79, p_24_80, p_24_86, e14]
        rw [p_24_83]
        refine step (0 - cost) ?_
        rw [wvX, if_pos rfl, if_neg e]
    · have xl := hX.2.2.2.2.2.2.2 (i / 6) (i % 6) (by omega) (by omega) (by omega) (by omega)
      have e7 : G (7 + (i / 6).toNat) (i % 6) = lkX G0 i := by rw [hE (7 + (i / 6).toNat) (by omega)]; rfl
      have e7' : lkX G0 i = G0 (7 + (i / 6).toNat) (i % 6) := rfl
      by_cases e : i = G0 14 slot
      · simp (disch := first | omega | ((simp (disch := omega) only [up_ne, up_eq, up_nj, gf_ne, gf_in, sa_ne, sa_eq]) <;> omega)) only [reduceIte, Bool.false_eq_true, if_pos, if_neg, up_ne, up_eq, up_nj, gf_ne, gf_in, sa_ne, sa_eq, and_self, true_and, and_true, p_24_2, p_24_3, p_24_5, p_24_8, p_24_9, p_24_11, p_24_12, p_24_14, p_24_17, p_24_18, p_24_21, p_24_24, p_24_25, p_24_27, p_24_28, p_24_29, p_24_30, p_24_32, p_24_33, p_24_34, p_24_35, p_24_37, p_24_38, p_24_39, p_24_42, p_24_45, p_24_46, p_24_47, p_24_50, p_24_52, p_24_53, p_24_54, p_24_55, p_24_57, p_24_58, p_24_61, p_24_62, p_24_63, p_24_64, p_24_66, p_24_69, p_24_70, p_24_71, p_24_72, p_24_75, p_24_76, p_24_77, p_24_78, p_24_79, p_24_80, p_24_86, e14, e7]
        rw [p_24_83]
        refine step (lkX G0 i) ?_
        rw [wvX, if_neg e36, if_pos e]
        omega
      · simp (disch := first | omega | ((simp (disch := omega) only [up_ne, up_eq, up_nj, gf_ne, gf_in, sa_ne, sa_eq]) <;> omega)) only [reduceIte, Bool.false_eq_true, if_pos, if_neg, up_ne, up_eq, up_nj, gf_ne, gf_in, sa_ne, sa_eq, and_self, true_and, and_true, p_24_2, p_24_3, p_24_5, p_24_8, p_24_9, p_24_11, p_24_12, p_24_14, p_24_17, p_24_18, p_24_21, p_24_24, p_24_25, p_24_27, p_24_28, p_24_29, p_24_30, p_24_32, p_24_33, p_24_34, p_24_35, p_24_37, p_24_38, p_24_39, p_24_42, p_24_45, p_24_46, p_24_47, p_24_50, p_24_52, p_24_53, p_24_54, p_24_55, p_24_57, p_24_58, p_24_61, p_24_62, p_24_63, p_24_64, p_24_66, p_24_69, p_24_70, p_24_71, p_24_72, p_24_75, p_24_76, p_24_77, p_24_78, p_24_79, p_24_80, p_24_86, e14, e7]
        rw [p_24_83]
        refine step (lkX G0 i - cost) ?_
        rw [wvX, if_neg e36, if_neg e]
/-- what may be chosen, in order -/
def rl (P : Int → Bool) : Nat → Int → List Int
  | 0, _ => []
  | n + 1, o => if P o = true then o :: rl P n (o + 1) else rl P n (o + 1)
def ok1 (G : AG) (h o : Int) : Bool := decide (0 < lkX G o) && (!tb (G 3 3) (o / 6)) && tb (G 2 (o % 6)) h
theorem l_choices {d : Nat} {Q : Option AV → AG → Prop} {h : Int} {G0 : AG} (hX : XS G0) (hh : 0 ≤ h ∧ h < 3) (K : ∀ G' : AG, (∀ b : Nat, b ≠ 25 + h.toNat → b ≠ 28 → G' b = G0 b) → (∀ j : Int, j ≠ h → G' 28 j = G0 28 j) → G' 28 h = (rl (ok1 G0 h) 36 0).length → (∀ j : Nat, j < (rl (ok1 G0 h) 36 0).length → G' (25 + h.toNat) (j : Int) = (rl (ok1 G0 h) 36 0).getD j 0) → Q none G') :
    ∀ (m : Nat) (i : Int) (acc : List Int) (G : AG) (l4 l5 : AV), 0 ≤ i → i + m = 36 → acc.length ≤ i → acc ++ rl (ok1 G0 h) m i = rl (ok1 G0 h) 36 0 → (∀ b : Nat, b ≠ 25 + h.toNat → G b = G0 b) → (∀ j : Nat, j < acc.length → G (25 + h.toNat) (j : Int) = acc.getD j 0) → Ends (d + 1) 25 4 [vR 16, vI h, vI acc.length, vI i, l4, l5] [] G Q := by
  intro m
  induction m with
  | zero =>
    intro i acc G l4 l5 h0 h1 hl hacc hE hV
    rw [rl, List.append_nil] at hacc
    simp (disch := first | omega | ((simp (disch := omega) only [up_ne, up_eq, up_nj, gf_ne, gf_in, sa_ne, sa_eq]) <;> omega)) only [reduceIte, Bool.false_eq_true, if_pos, if_neg, up_ne, up_eq, up_nj, gf_ne, gf_in, sa_ne, sa_eq, and_self, true_and, and_true, p_25_4, p_25_5, p_25_7, p_25_10, p_25_11, p_25_13, p_25_14, p_25_16, p_25_17, p_25_19, p_25_20, p_25_22, p_25_23, p_25_26, p_25_29, p_25_31, p_25_32, p_25_34, p_25_35, p_25_38, p_25_39, p_25_42, p_25_45, q_25_47, p_25_50, p_25_53, p_25_54, p_25_57, p_25_60, p_25_62, p_25_63, q_25_64, p_25_67, p_25_70, p_25_71, p_25_74, p_25_75, p_25_76, p_25_77, p_25_78, p_25_79, p_25_82, p_25_88, p_25_89, p_25_92, p_25_93, p_25_94, p_25_95]
    subst hacc
    refine K _ (fun b q1 q2 => ?_) (fun j q => ?_) ?_ (fun j q => ?_)
    · rw [am_up_ne _ _ _ _ _ q2, hE b q1]
    · rw [up_nj q, hE 28 (by omega)]
    · rw [up_eq rfl rfl]
    · rw [am_up_ne _ _ _ _ _ (by omega)]
      exact hV j q
  | succ m ih =>
    intro i acc G l4 l5 h0 h1 hl hacc hE hV
    have xl := hX.2.2.2.2.2.2.2 (i / 6) (i % 6) (by omega) (by omega) (by omega) (by omega)
    have xs := hX.2.2.2.2.1
    have xs2 := hX.2.2.2.2.2.1
    have xm := hX.2.2.2.2.2.2.1 (i % 6) (by omega) (by omega)
    have e7 : G (7 + (i / 6).toNat) (i % 6) = G0 (7 + (i / 6).toNat) (i % 6) := by rw [hE _ (by omega)]
    have e3 : G 3 3 = G0 3 3 := by rw [hE 3 (by omega)]
    have e2 : G 2 (i % 6) = G0 2 (i % 6) := by rw [hE 2 (by omega)]
    rw [rl] at hacc
    have no : ¬ ok1 G0 h i = true → Ends (d + 1) 25 4 [vR 16, vI h, vI acc.length, vI (i + 1), vI (i / 6), vI (i % 6)] [] G Q := by
      intro hn
      rw [if_neg hn] at hacc
      exact ih (i + 1) acc G _ _ (by omega) (by omega) (by omega) hacc hE hV
    by_cases a : 0 < G0 (7 + (i / 6).toNat) (i % 6)
    · by_cases b : tb (G0 3 3) (i / 6) = true
      · simp (disch := first | omega | ((simp (disch := omega) only [up_ne, up_eq, up_nj, gf_ne, gf_in, sa_ne, sa_eq]) <;> omega)) only [reduceIte, Bool.false_eq_true, if_pos, if_neg, up_ne, up_eq, up_nj, gf_ne, gf_in, sa_ne, sa_eq, and_self, true_and, and_true, p_25_4, p_25_5, p_25_7, p_25_10, p_25_11, p_25_13, p_25_14, p_25_16, p_25_17, p_25_19, p_25_20, p_25_22, p_25_23, p_25_26, p_25_29, p_25_31, p_25_32, p_25_34, p_25_35, p_25_38, p_25_39, p_25_42, p_25_45, q_25_47, p_25_50, p_25_53, p_25_54, p_25_57, p_25_60, p_25_62, p_25_63, q_25_64, p_25_67, p_25_70, p_25_71, p_25_74, p_25_75, p_25_76, p_25_77, p_25_78, p_25_79, p_25_82, p_25_88, p_25_89, p_25_92, p_25_93, p_25_94, p_25_95, e7, e3, b]
        rw [p_25_85]
        exact no (by simp [ok1, b])
      · by_cases c : tb (G0 2 (i % 6)) h = true
        · simp (disch := first | omega | ((simp (disch := omega) only [up_ne, up_eq, up_nj, gf_ne, gf_in, sa_ne, sa_eq]) <;> omega)) only [reduceIte, Bool.false_eq_true, if_pos, if_neg, up_ne, up_eq, up_nj, gf_ne, gf_in, sa_ne, sa_eq, and_self, true_and, and_true, p_25_4, p_25_5, p_25_7, p_25_10, p_25_11, p_25_13, p_25_14, p_25_16, p_25_17, p_25_19, p_25_20, p_25_22, p_25_23, p_25_26, p_25_29, p_25_31, p_25_32, p_25_34, p_25_35, p_25_38, p_25_39, p_25_42, p_25_45, q_25_47, p_25_50, p_25_53, p_25_54, p_25_57, p_25_60, p_25_62, p_25_63, q_25_64, p_25_67, p_25_70, p_25_71, p_25_74, p_25_75, p_25_76, p_25_77, p_25_78, p_25_79, p_25_82, p_25_88, p_25_89, p_25_92, p_25_93, p_25_94, p_25_95, e7, e3, e2, b, c]
          rw [p_25_85]
          have hy : ok1 G0 h i = true := by simp [ok1, lkX, a, b, c]
          rw [if_pos hy] at hacc
          have h2 := ih (i + 1) (acc ++ [i]) (am_up G (25 + h.toNat) acc.length i) (vI (i / 6)) (vI (i % 6)) (by omega) (by omega) (by simp; omega) (by rw [← hacc]; simp) (fun b hb => by rw [am_up_ne _ _ _ _ _ hb, hE b hb]) (fun j hj => by
            by_cases e : j = acc.length
            · subst e
              rw [up_eq rfl rfl]
              simp
            · simp at hj
              rw [up_nj (by omega), hV j (by omega)]
              simp [List.getD_eq_getElem?_getD, List.getElem?_append_left (show j < acc.length by omega)])
          simpa using h2
        · simp (disch := first | omega | ((simp (disch := omega) only [up_ne, up_eq, up_nj, gf_ne, gf_in, sa_ne, sa_eq]) <;> omega)) only [reduceIte, Bool.false_eq_true, if_pos, if_neg, up_ne, up_eq, up_nj, gf_ne, gf_in, sa_ne, sa_eq, and_self, true_and, and_true, p_25_4, p_25_5, p_25_7, p_25_10, p_25_11, p_25_13, p_25_14, p_25_16, p_25_17, p_25_19, p_25_20, p_25_22, p_25_23, p_25_26, p_25_29, p_25_31, p_25_32, p_25_34, p_25_35, p_25_38, p_25_39, p_25_42, p_25_45, q_25_47, p_25_50, p_25_53, p_25_54, p_25_57, p_25_60, p_25_62, p_25_63, q_25_64, p_25_67, p_25_70, p_25_71, p_25_74, p_25_75, p_25_76, p_25_77, p_25_78, p_25_79, p_25_82, p_25_88, p_25_89, p_25_92, p_25_93, p_25_94, p_25_95, e7, e3, e2, b, c]
          rw [p_25_85]
          exact no (by simp [ok1, c])
    · simp (disch := first | omega | ((simp (disch := omega) only [up_ne, up_eq, up_nj, gf_ne, gf_in, sa_ne, sa_eq]) <;> omega)) only [reduceIte, Bool.false_eq_true, if_pos, if_neg, up_ne, up_eq, up_nj, gf_ne, gf_in, sa_ne, sa_eq, and_self, true_and, and_true, p_25_4, p_25_5, p_25_7, p_25_10, p_25_11, p_25_13, p_25_14, p_25_16, p_25_17, p_25_19, p_25_20, p_25_22, p_25_23, p_25_26, p_25_29, p_25_31, p_25_32, p_25_34, p_25_35, p_25_38, p_25_39, p_25_42, p_25_45, q_25_47, p_25_50, p_25_53, p_25_54, p_25_57, p_25_60, p_25_62, p_25_63, q_25_64, p_25_67, p_25_70, p_25_71, p_25_74, p_25_75, p_25_76, p_25_77, p_25_78, p_25_79, p_25_82, p_25_88, p_25_89, p_25_92, p_25_93, p_25_94, p_25_95, e7]
      rw [p_25_85]
      exact no (by simp [ok1, lkX, a])
