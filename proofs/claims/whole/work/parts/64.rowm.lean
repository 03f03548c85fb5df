/-! the reference: which sets may be, and their rows -/
def mbl (T rd : Int → Bool) (mn im : Int → Int) (f mm : Int) : Nat → Int → Int → Int → Bool
  | 0, _, a, c => decide (f ≠ 0) && (decide (c = 1) && decide (a ≤ mm))
  | m + 1, i, a, c => if T i = true then (if rd i = true then mbl T rd mn im f mm m (i + 1) (a + mn i) (c + im i) else false) else mbl T rd mn im f mm m (i + 1) a c
theorem mbl_eq {T rd : Int → Bool} {mn im : Int → Int} {f mm : Int} : ∀ (m : Nat) (i a c : Int), mbl T rd mn im f mm m i a c = ((!any (fun p => T p && !rd p) m i) && (decide (f ≠ 0) && (decide (c + sumf (fun p => if T p = true then im p else 0) m i = 1) && decide (a + sumf (fun p => if T p = true then mn p else 0) m i ≤ mm))))
  | 0, i, a, c => by
    rw [mbl, any, sumf, sumf, Int.add_zero, Int.add_zero]
    rfl
  | m + 1, i, a, c => by
    rw [mbl, any, sumf, sumf]
    by_cases u : T i = true
    · by_cases v : rd i = true
      · rw [if_pos u, if_pos v, mbl_eq m, if_pos u, if_pos u, u, v, Int.add_assoc, Int.add_assoc]
        rfl
      · have v' : rd i = false := by simpa using v
        rw [if_pos u, if_neg v, u, v']
        rfl
    · have u' : T i = false := by simpa using u
      rw [if_neg u, if_neg u, if_neg u, mbl_eq m, u', Int.zero_add, Int.zero_add]
      rfl
theorem l_mb {d : Nat} {Q : Option AV → AG → Prop} {n w day mm : Int} {G : AG} (hC : CM G) (hN : G 54 19 = n) (hw : 0 ≤ w ∧ w < 1024) (hd : 0 ≤ day ∧ day ≤ 400) (hmm : 1 ≤ mm ∧ mm ≤ 300) (h79 : 0 ≤ G 79 w ∧ G 79 w < 1024) :
    ∀ (m : Nat) (i a c : Int), 0 ≤ i → i + m = n → 0 ≤ a → a ≤ 90 * i → 0 ≤ c → c ≤ i → (Ends (d + 1) 99 9 [vR 54, vI w, vI day, vI mm, vI a, vI c, vI i] [] G Q ↔ Q (some (vI (if mbl (tb w) (rdM G day) (G 64) (G 66) (G 79 w) mm m i a c = true then 1 else 0))) G) := by
  obtain ⟨c1, c2, c3, c4, c5, c6, c7⟩ := id hC
  intro m
  induction m with
  | zero =>
    intro i a c h0 h1 h2 h3 h4 h5
    have e : i = n := by omega
    subst e
    rw [mbl]
    by_cases u : a ≤ mm
    · by_cases v : c = 1
      · by_cases x : G 79 w = 0
        · rw [x, decide_eq_true u, decide_eq_true v]
          simp (disch := first | omega | ((simp (disch := omega) only [up_ne, up_eq, up_nj, gf_ne, gf_in, sa_ne, sa_eq]) <;> omega)) only [reduceIte, Bool.false_eq_true, if_pos, if_neg, up_ne, up_eq, up_nj, gf_ne, gf_in, sa_ne, sa_eq, and_self, true_and, and_true, p_99_9, p_99_11, p_99_12, p_99_15, p_99_93, p_99_95, p_99_96, p_99_99, p_99_101, p_99_102, p_99_105, p_99_106, p_99_109, p_99_110, p_99_111, p_99_114, p_99_115, p_99_118, p_99_119, hN]
          simp
        · rw [decide_eq_true u, decide_eq_true v, decide_eq_true x]
          simp (disch := first | omega | ((simp (disch := omega) only [up_ne, up_eq, up_nj, gf_ne, gf_in, sa_ne, sa_eq]) <;> omega)) only [reduceIte, Bool.false_eq_true, if_pos, if_neg, up_ne, up_eq, up_nj, gf_ne, gf_in, sa_ne, sa_eq, and_self, true_and, and_true, p_99_9, p_99_11, p_99_12, p_99_15, p_99_93, p_99_95, p_99_96, p_99_99, p_99_101, p_99_102, p_99_105, p_99_106, p_99_109, p_99_110, p_99_111, p_99_114, p_99_115, p_99_118, p_99_119, hN]
          simp
      · rw [decide_eq_true u, decide_eq_false v, Bool.false_and, Bool.and_false]
        simp (disch := first | omega | ((simp (disch := omega) only [up_ne, up_eq, up_nj, gf_ne, gf_in, sa_ne, sa_eq]) <;> omega)) only [reduceIte, Bool.false_eq_true, if_pos, if_neg, up_ne, up_eq, up_nj, gf_ne, gf_in, sa_ne, sa_eq, and_self, true_and, and_true, p_99_9, p_99_11, p_99_12, p_99_15, p_99_93, p_99_95, p_99_96, p_99_99, p_99_101, p_99_102, p_99_105, p_99_106, p_99_109, p_99_110, p_99_111, p_99_114, p_99_115, p_99_118, p_99_119, hN]
    · rw [decide_eq_false u, Bool.and_false, Bool.and_false]
      simp (disch := first | omega | ((simp (disch := omega) only [up_ne, up_eq, up_nj, gf_ne, gf_in, sa_ne, sa_eq]) <;> omega)) only [reduceIte, Bool.false_eq_true, if_pos, if_neg, up_ne, up_eq, up_nj, gf_ne, gf_in, sa_ne, sa_eq, and_self, true_and, and_true, p_99_9, p_99_11, p_99_12, p_99_15, p_99_93, p_99_95, p_99_96, p_99_99, p_99_101, p_99_102, p_99_105, p_99_106, p_99_109, p_99_110, p_99_111, p_99_114, p_99_115, p_99_118, p_99_119, hN]
  | succ m ih =>
    intro i a c h0 h1 h2 h3 h4 h5
    obtain ⟨y1, y2, y3, y4, y5, y6, y7, y8, y9⟩ := c7 i h0 (by omega)
    have hb := fi_hasBit (s := w) (i := i) (by omega) (by omega) h0 (by omega)
    rw [mbl]
    by_cases u : tb w i = true
    · rw [if_pos u]
      rw [u, if_pos rfl] at hb
      have hst : ∀ c' : Int, c' = c + G 66 i → rdM G day i = true → (Ends (d + 1) 99 9 [vR 54, vI w, vI day, vI mm, vI (a + G 64 i), vI c', vI (i + 1)] [] G Q ↔ Q (some (vI (if (if rdM G day i = true then mbl (tb w) (rdM G day) (G 64) (G 66) (G 79 w) mm m (i + 1) (a + G 64 i) (c + G 66 i) else false) = true then 1 else 0))) G) := by
        intro c' e hrd
        rw [if_pos hrd, e]
        exact ih (i + 1) (a + G 64 i) (c + G 66 i) (by omega) (by omega) (by omega) (by omega) (by omega) (by omega)
      have hsp : rdM G day i = false → (if (if rdM G day i = true then mbl (tb w) (rdM G day) (G 64) (G 66) (G 79 w) mm m (i + 1) (a + G 64 i) (c + G 66 i) else false) = true then (1 : Int) else 0) = 0 := by
        intro hrd
        rw [hrd]
        rfl
      generalize hX : (if (if rdM G day i = true then mbl (tb w) (rdM G day) (G 64) (G 66) (G 79 w) mm m (i + 1) (a + G 64 i) (c + G 66 i) else false) = true then (1 : Int) else 0) = X at *
      clear ih hX
      by_cases x : G 66 i = 0
      · have hst0 := hst c (by omega)
        by_cases v : G 67 i = -1
        · have hrd : rdM G day i = true := by unfold rdM; rw [decide_eq_true v]; rfl
          simp (disch := first | omega | ((simp (disch := omega) only [up_ne, up_eq, up_nj, gf_ne, gf_in, sa_ne, sa_eq]) <;> omega)) only [reduceIte, Bool.false_eq_true, if_pos, if_neg, up_ne, up_eq, up_nj, gf_ne, gf_in, sa_ne, sa_eq, and_self, true_and, and_true, p_99_9, p_99_11, p_99_12, p_99_15, p_99_18, p_99_19, p_99_21, p_99_22, p_99_23, p_99_24, p_99_27, p_99_30, p_99_32, p_99_33, p_99_36, p_99_38, p_99_39, p_99_40, p_99_42, p_99_43, p_99_46, p_99_48, p_99_49, p_99_52, p_99_55, p_99_56, p_99_59, p_99_61, p_99_62, p_99_63, p_99_66, p_99_67, p_99_70, p_99_72, p_99_73, p_99_74, q_99_75, p_99_78, p_99_79, p_99_82, p_99_85, p_99_86, p_99_87, hN, hb]
          rw [p_99_90]
          exact hst0 hrd
        · by_cases z : G 67 i - day < 0
          · by_cases y : G 54 9 ≤ -(G 67 i - day)
            · have hrd : rdM G day i = true := by unfold rdM; rw [if_pos z, decide_eq_true y]; simp
              simp (disch := first | omega | ((simp (disch := omega) only [up_ne, up_eq, up_nj, gf_ne, gf_in, sa_ne, sa_eq]) <;> omega)) only [reduceIte, Bool.false_eq_true, if_pos, if_neg, up_ne, up_eq, up_nj, gf_ne, gf_in, sa_ne, sa_eq, and_self, true_and, and_true, p_99_9, p_99_11, p_99_12, p_99_15, p_99_18, p_99_19, p_99_21, p_99_22, p_99_23, p_99_24, p_99_27, p_99_30, p_99_32, p_99_33, p_99_36, p_99_38, p_99_39, p_99_40, p_99_42, p_99_43, p_99_46, p_99_48, p_99_49, p_99_52, p_99_55, p_99_56, p_99_59, p_99_61, p_99_62, p_99_63, p_99_66, p_99_67, p_99_70, p_99_72, p_99_73, p_99_74, q_99_75, p_99_78, p_99_79, p_99_82, p_99_85, p_99_86, p_99_87, hN, hb]
              rw [p_99_90]
              exact hst0 hrd
            · have hrd : rdM G day i = false := by unfold rdM; rw [if_pos z, decide_eq_false y, decide_eq_false v]; rfl
              rw [hsp hrd]
              simp (disch := first | omega | ((simp (disch := omega) only [up_ne, up_eq, up_nj, gf_ne, gf_in, sa_ne, sa_eq]) <;> omega)) only [reduceIte, Bool.false_eq_true, if_pos, if_neg, up_ne, up_eq, up_nj, gf_ne, gf_in, sa_ne, sa_eq, and_self, true_and, and_true, p_99_9, p_99_11, p_99_12, p_99_15, p_99_18, p_99_19, p_99_21, p_99_22, p_99_23, p_99_24, p_99_27, p_99_30, p_99_32, p_99_33, p_99_36, p_99_38, p_99_39, p_99_40, p_99_42, p_99_43, p_99_46, p_99_48, p_99_49, p_99_52, p_99_55, p_99_56, p_99_59, p_99_61, p_99_62, p_99_63, p_99_66, p_99_67, p_99_70, p_99_72, p_99_73, p_99_74, q_99_75, p_99_78, p_99_79, p_99_82, p_99_85, p_99_86, p_99_87, hN, hb]
          · by_cases y : G 54 9 ≤ G 67 i - day
            · have hrd : rdM G day i = true := by unfold rdM; rw [if_neg z, decide_eq_true y]; simp
              simp (disch := first | omega | ((simp (disch := omega) only [up_ne, up_eq, up_nj, gf_ne, gf_in, sa_ne, sa_eq]) <;> omega)) only [reduceIte, Bool.false_eq_true, if_pos, if_neg, up_ne, up_eq, up_nj, gf_ne, gf_in, sa_ne, sa_eq, and_self, true_and, and_true, p_99_9, p_99_11, p_99_12, p_99_15, p_99_18, p_99_19, p_99_21, p_99_22, p_99_23, p_99_24, p_99_27, p_99_30, p_99_32, p_99_33, p_99_36, p_99_38, p_99_39, p_99_40, p_99_42, p_99_43, p_99_46, p_99_48, p_99_49, p_99_52, p_99_55, p_99_56, p_99_59, p_99_61, p_99_62, p_99_63, p_99_66, p_99_67, p_99_70, p_99_72, p_99_73, p_99_74, q_99_75, p_99_78, p_99_79, p_99_82, p_99_85, p_99_86, p_99_87, hN, hb]
              rw [p_99_90]
              exact hst0 hrd
            · have hrd : rdM G day i = false := by unfold rdM; rw [if_neg z, decide_eq_false y, decide_eq_false v]; rfl
              rw [hsp hrd]
              simp (disch := first | omega | ((simp (disch := omega) only [up_ne, up_eq, up_nj, gf_ne, gf_in, sa_ne, sa_eq]) <;> omega)) only [reduceIte, Bool.false_eq_true, if_pos, if_neg, up_ne, up_eq, up_nj, gf_ne, gf_in, sa_ne, sa_eq, and_self, true_and, and_true, p_99_9, p_99_11, p_99_12, p_99_15, p_99_18, p_99_19, p_99_21, p_99_22, p_99_23, p_99_24, p_99_27, p_99_30, p_99_32, p_99_33, p_99_36, p_99_38, p_99_39, p_99_40, p_99_42, p_99_43, p_99_46, p_99_48, p_99_49, p_99_52, p_99_55, p_99_56, p_99_59, p_99_61, p_99_62, p_99_63, p_99_66, p_99_67, p_99_70, p_99_72, p_99_73, p_99_74, q_99_75, p_99_78, p_99_79, p_99_82, p_99_85, p_99_86, p_99_87, hN, hb]
      · have hst0 := hst (c + 1) (by omega)
        by_cases v : G 67 i = -1
        · have hrd : rdM G day i = true := by unfold rdM; rw [decide_eq_true v]; rfl
          simp (disch := first | omega | ((simp (disch := omega) only [up_ne, up_eq, up_nj, gf_ne, gf_in, sa_ne, sa_eq]) <;> omega)) only [reduceIte, Bool.false_eq_true, if_pos, if_neg, up_ne, up_eq, up_nj, gf_ne, gf_in, sa_ne, sa_eq, and_self, true_and, and_true, p_99_9, p_99_11, p_99_12, p_99_15, p_99_18, p_99_19, p_99_21, p_99_22, p_99_23, p_99_24, p_99_27, p_99_30, p_99_32, p_99_33, p_99_36, p_99_38, p_99_39, p_99_40, p_99_42, p_99_43, p_99_46, p_99_48, p_99_49, p_99_52, p_99_55, p_99_56, p_99_59, p_99_61, p_99_62, p_99_63, p_99_66, p_99_67, p_99_70, p_99_72, p_99_73, p_99_74, q_99_75, p_99_78, p_99_79, p_99_82, p_99_85, p_99_86, p_99_87, hN, hb]
          rw [p_99_90]
          exact hst0 hrd
        · by_cases z : G 67 i - day < 0
          · by_cases y : G 54 9 ≤ -(G 67 i - day)
            · have hrd : rdM G day i = true := by unfold rdM; rw [if_pos z, decide_eq_true y]; simp
              simp (disch := first | omega | ((simp (disch := omega) only [up_ne, up_eq, up_nj, gf_ne, gf_in, sa_ne, sa_eq]) <;> omega)) only [reduceIte, Bool.false_eq_true, if_pos, if_neg, up_ne, up_eq, up_nj, gf_ne, gf_in, sa_ne, sa_eq, and_self, true_and, and_true, p_99_9, p_99_11, p_99_12, p_99_15, p_99_18, p_99_19, p_99_21, p_99_22, p_99_23, p_99_24, p_99_27, p_99_30, p_99_32, p_99_33, p_99_36, p_99_38, p_99_39, p_99_40, p_99_42, p_99_43, p_99_46, p_99_48, p_99_49, p_99_52, p_99_55, p_99_56, p_99_59, p_99_61, p_99_62, p_99_63, p_99_66, p_99_67, p_99_70, p_99_72, p_99_73, p_99_74, q_99_75, p_99_78, p_99_79, p_99_82, p_99_85, p_99_86, p_99_87, hN, hb]
              rw [p_99_90]
              exact hst0 hrd
            · have hrd : rdM G day i = false := by unfold rdM; rw [if_pos z, decide_eq_false y, decide_eq_false v]; rfl
              rw [hsp hrd]
              simp (disch := first | omega | ((simp (disch := omega) only [up_ne, up_eq, up_nj, gf_ne, gf_in, sa_ne, sa_eq]) <;> omega)) only [reduceIte, Bool.false_eq_true, if_pos, if_neg, up_ne, up_eq, up_nj, gf_ne, gf_in, sa_ne, sa_eq, and_self, true_and, and_true, p_99_9, p_99_11, p_99_12, p_99_15, p_99_18, p_99_19, p_99_21, p_99_22, p_99_23, p_99_24, p_99_27, p_99_30, p_99_32, p_99_33, p_99_36, p_99_38, p_99_39, p_99_40, p_99_42, p_99_43, p_99_46, p_99_48, p_99_49, p_99_52, p_99_55, p_99_56, p_99_59, p_99_61, p_99_62, p_99_63, p_99_66, p_99_67, p_99_70, p_99_72, p_99_73, p_99_74, q_99_75, p_99_78, p_99_79, p_99_82, p_99_85, p_99_86, p_99_87, hN, hb]
          · by_cases y : G 54 9 ≤ G 67 i - day
            · have hrd : rdM G day i = true := by unfold rdM; rw [if_neg z, decide_eq_true y]; simp
              simp (disch := first | omega | ((simp (disch := omega) only [up_ne, up_eq, up_nj, gf_ne, gf_in, sa_ne, sa_eq]) <;> omega)) only [reduceIte, Bool.false_eq_true, if_pos, if_neg, up_ne, up_eq, up_nj, gf_ne, gf_in, sa_ne, sa_eq, and_self, true_and, and_true, p_99_9, p_99_11, p_99_12, p_99_15, p_99_18, p_99_19, p_99_21, p_99_22, p_99_23, p_99_24, p_99_27, p_99_30, p_99_32, p_99_33, p_99_36, p_99_38, p_99_39, p_99_40, p_99_42, p_99_43, p_99_46, p_99_48, p_99_49, p_99_52, p_99_55, p_99_56, p_99_59, p_99_61, p_99_62, p_99_63, p_99_66, p_99_67, p_99_70, p_99_72, p_99_73, p_99_74, q_99_75, p_99_78, p_99_79, p_99_82, p_99_85, p_99_86, p_99_87, hN, hb]
              rw [p_99_90]
              exact hst0 hrd
            · have hrd : rdM G day i = false := by unfold rdM; rw [if_neg z, decide_eq_false y, decide_eq_false v]; rfl
              rw [hsp hrd]
              simp (disch := first | omega | ((simp (disch := omega) only [up_ne, up_eq, up_nj, gf_ne, gf_in, sa_ne, sa_eq]) <;> omega)) only [reduceIte, Bool.false_eq_true, if_pos, if_neg, up_ne, up_eq, up_nj, gf_ne, gf_in, sa_ne, sa_eq, and_self, true_and, and_true, p_99_9, p_99_11, p_99_12, p_99_15, p_99_18, p_99_19, p_99_21, p_99_22, p_99_23, p_99_24, p_99_27, p_99_30, p_99_32, p_99_33, p_99_36, p_99_38, p_99_39, p_99_40, p_99_42, p_99_43, p_99_46, p_99_48, p_99_49, p_99_52, p_99_55, p_99_56, p_99_59, p_99_61, p_99_62, p_99_63, p_99_66, p_99_67, p_99_70, p_99_72, p_99_73, p_99_74, q_99_75, p_99_78, p_99_79, p_99_82, p_99_85, p_99_86, p_99_87, hN, hb]
    · rw [if_neg u]
      simp (disch := first | omega | ((simp (disch := omega) only [up_ne, up_eq, up_nj, gf_ne, gf_in, sa_ne, sa_eq]) <;> omega)) only [reduceIte, Bool.false_eq_true, if_pos, if_neg, up_ne, up_eq, up_nj, gf_ne, gf_in, sa_ne, sa_eq, and_self, true_and, and_true, p_99_9, p_99_11, p_99_12, p_99_15, p_99_18, p_99_19, p_99_21, p_99_22, p_99_23, p_99_24, p_99_27, p_99_87, hN, hb, u]
      rw [p_99_90]
      exact ih (i + 1) a c (by omega) (by omega) (by omega) (by omega) (by omega) (by omega)
theorem c_mb {d : Nat} {n w day mm : Int} {G : AG} (hC : CM G) (hN : G 54 19 = n) (hw : 0 ≤ w ∧ w < 1024) (hd : 0 ≤ day ∧ day ≤ 400) (hmm : 1 ≤ mm ∧ mm ≤ 300) (h79 : 0 ≤ G 79 w ∧ G 79 w < 1024) :
    Ret (d + 1) 99 [vR 54, vI w, vI day, vI mm, vU, vU, vU] G (some (vI (if ((!any (fun p => tb w p && !rdM G day p) n.toNat 0) && (decide (G 79 w ≠ 0) && (decide (swf (G 66) n w = 1) && decide (swf (G 64) n w ≤ mm)))) = true then 1 else 0))) G := by
  have h1 := hC.1
  have h2 := hC.2.1
  unfold Ret
  simp (disch := first | omega | ((simp (disch := omega) only [up_ne, up_eq, up_nj, gf_ne, gf_in, sa_ne, sa_eq]) <;> omega)) only [reduceIte, Bool.false_eq_true, if_pos, if_neg, up_ne, up_eq, up_nj, gf_ne, gf_in, sa_ne, sa_eq, and_self, true_and, and_true, p_99_0, p_99_1, p_99_3, p_99_4, p_99_6, p_99_7]
  rw [l_mb hC hN hw hd hmm h79 n.toNat 0 0 0 (by omega) (by omega) (by omega) (by omega) (by omega) (by omega), mbl_eq, Int.zero_add, Int.zero_add]
  exact ⟨rfl, rfl⟩
/-- where a row is sought -/
def MZ (n : Int) (F fw : Int → Int) (G : AG) (t w z : Int) : Prop := (t = 0 ∧ z = F w) ∨ (0 < t ∧ 0 ≤ G 80 (t - 1) ∧ G 80 (t - 1) < n ∧ z = f_and (F w) (fw (G 80 (t - 1))))
theorem l_lay1 {d : Nat} {Q : Option AV → AG → Prop} {n w0 w z t : Int} {fo : Int → Int → Bool} {F fw : Int → Int} {G : AG} (h : EN n fo F fw) (hC : CM G) (hN : G 54 19 = n) (hfo : ∀ p q : Int, fo p q = foM G p q) (hw : 1 ≤ w ∧ w < 1024) (h79 : G 79 w = F w) (hG : GW F w z) (ht : 0 ≤ t ∧ t < 10) (hz : MZ n F fw G t w z)
    (K : Ends (d + 3) 101 52 [vR 54, vI w0, vI w, vI t, vI (lb z)] [] G Q) :
    ∀ (m : Nat) (i : Int), 0 ≤ i → i + m = lb z → Ends (d + 3) 101 11 [vR 54, vI w0, vI w, vI t, vI i] [] G Q := by
  obtain ⟨c1, c2, c3, c4, c5, c6, c7⟩ := id hC
  obtain ⟨s1, s2, s3, s4, s5, s6, s7, s8, s9⟩ := gw_step h hG (by omega)
  have hFr := h.rng (w := w) (by omega)
  have hz2 := hG.2.2.1 (lb z) s1 (by omega) s3
  intro m
  induction m with
  | zero =>
    intro i h0 h1
    have e : i = lb z := by omega
    rw [e]
    have hb := fi_hasBit (s := G 79 w) (i := lb z) (by omega) (by omega) s1 (by omega)
    rw [h79, hz2, if_pos rfl] at hb
    obtain ⟨y1, y2, y3, y4, y5, y6, y7, y8, y9⟩ := c7 (lb z) s1 (by omega)
    have y9' := y9 (by omega)
    rcases hz with ⟨q1, q2⟩ | ⟨q1, q2, q3, q4⟩
    · clear hG s6 hfo
      simp (disch := first | omega | ((simp (disch := omega) only [up_ne, up_eq, up_nj, gf_ne, gf_in, sa_ne, sa_eq]) <;> omega)) only [reduceIte, Bool.false_eq_true, if_pos, if_neg, up_ne, up_eq, up_nj, gf_ne, gf_in, sa_ne, sa_eq, and_self, true_and, and_true, p_101_11, p_101_12, p_101_15, p_101_16, p_101_17, p_101_19, p_101_20, p_101_21, p_101_22, p_101_25, p_101_26, h79, hb]
      exact K
    · obtain ⟨x1, x2, x3, x4, x5, x6, x7, x8, x9⟩ := c7 (G 80 (t - 1)) q2 (by omega)
      have x9' := x9 (by omega)
      have hfw := h.2.2.2.2 (G 80 (t - 1)) q2 q3
      have hf : foM G (G 80 (t - 1)) (lb z) = true := by
        have h7 : ∀ p : Int, tb z p = (tb (F w) p && tb (fw (G 80 (t - 1))) p) := fun p => by rw [q4, tb_and2 hFr ⟨hfw.1, hfw.2.1⟩]
        have := s3
        rw [h7, hfw.2.2 (lb z) s1 (by omega), Bool.and_eq_true, Bool.and_eq_true] at this
        rw [← hfo]
        exact this.2.2
      clear hG s6 hfo hfw q4
      simp (disch := first | omega | ((simp (disch := omega) only [up_ne, up_eq, up_nj, gf_ne, gf_in, sa_ne, sa_eq]) <;> omega)) only [reduceIte, Bool.false_eq_true, if_pos, if_neg, up_ne, up_eq, up_nj, gf_ne, gf_in, sa_ne, sa_eq, and_self, true_and, and_true, p_101_11, p_101_12, p_101_15, p_101_16, p_101_17, p_101_19, p_101_20, p_101_21, p_101_22, p_101_25, p_101_26, p_101_29, p_101_30, p_101_31, p_101_34, p_101_35, p_101_36, p_101_37, p_101_38, q_101_40, p_101_43, h79, hb, hf]
      exact K
  | succ m ih =>
    intro i h0 h1
    have hih := ih (i + 1) (by omega) (by omega)
    have hb := fi_hasBit (s := G 79 w) (i := i) (by omega) (by omega) h0 (by omega)
    have hzi := s5 i h0 (by omega)
    rw [h79] at hb
    obtain ⟨y1, y2, y3, y4, y5, y6, y7, y8, y9⟩ := c7 i h0 (by omega)
    have y9' := y9 (by omega)
    clear ih
    by_cases u : tb (F w) i = true
    · rw [u, if_pos rfl] at hb
      rcases hz with ⟨q1, q2⟩ | ⟨q1, q2, q3, q4⟩
      · rw [q2, u] at hzi
        cases hzi
      · obtain ⟨x1, x2, x3, x4, x5, x6, x7, x8, x9⟩ := c7 (G 80 (t - 1)) q2 (by omega)
        have x9' := x9 (by omega)
        have hfw := h.2.2.2.2 (G 80 (t - 1)) q2 q3
        have hf : foM G (G 80 (t - 1)) i = false := by
          rw [q4, tb_and2 hFr ⟨hfw.1, hfw.2.1⟩, hfw.2.2 i h0 (by omega), u, Bool.true_and, decide_eq_true (by omega), Bool.true_and, hfo] at hzi
          exact hzi
        clear hG s6 hfo hfw q4
        simp (disch := first | omega | ((simp (disch := omega) only [up_ne, up_eq, up_nj, gf_ne, gf_in, sa_ne, sa_eq]) <;> omega)) only [reduceIte, Bool.false_eq_true, if_pos, if_neg, up_ne, up_eq, up_nj, gf_ne, gf_in, sa_ne, sa_eq, and_self, true_and, and_true, p_101_11, p_101_12, p_101_15, p_101_16, p_101_17, p_101_19, p_101_20, p_101_21, p_101_22, p_101_25, p_101_26, p_101_29, p_101_30, p_101_31, p_101_34, p_101_35, p_101_36, p_101_37, p_101_38, q_101_40, p_101_43, p_101_46, h79, hb, hf]
        rw [p_101_49]
        exact hih
    · clear hG s6 hfo hz
      simp (disch := first | omega | ((simp (disch := omega) only [up_ne, up_eq, up_nj, gf_ne, gf_in, sa_ne, sa_eq]) <;> omega)) only [reduceIte, Bool.false_eq_true, if_pos, if_neg, up_ne, up_eq, up_nj, gf_ne, gf_in, sa_ne, sa_eq, and_self, true_and, and_true, p_101_11, p_101_12, p_101_15, p_101_16, p_101_17, p_101_19, p_101_20, p_101_21, p_101_22, p_101_46, h79, hb, u]
      rw [p_101_49]
      exact hih
theorem l_lay2 {d : Nat} {Q : Option AV → AG → Prop} {n w0 : Int} {fo : Int → Int → Bool} {F fw : Int → Int} {G0 : AG} (h : EN n fo F fw) (hC : CM G0) (hN : G0 54 19 = n) (hfo : ∀ p q : Int, fo p q = foM G0 p q) (h79 : ∀ x : Int, 0 ≤ x → x < (2 ^ n.toNat : Nat) → G0 79 x = F x) :
    ∀ (k : Nat) (w z : Int) (t : Nat) (G : AG) (l4 : AV), GW F w z → w < (2 ^ n.toNat : Nat) → n_bc w.toNat = k → t + k ≤ n.toNat → (∀ b : Nat, b ≠ 80 → G b = G0 b) → (w ≠ 0 → MZ n F fw G t w z) →
      (∀ G' : AG, (∀ b : Nat, b ≠ 80 → G' b = G0 b) → (∀ j : Int, 0 ≤ j → j < k → G' 80 (t + j) = gt (rws F fw k w z) j) → (∀ j : Int, j < t → G' 80 j = G 80 j) → Q none G') → Ends (d + 3) 101 4 [vR 54, vI w0, vI w, vI t, l4] [] G Q := by
  have hn1 := h.1
  have hn2 := h.2.1
  intro k
  induction k with
  | zero =>
    intro w z t G l4 hG hwn hk ht hE hz K
    have hw0 : w = 0 := (bc_of hG.1).2.1 hk
    have := K G hE (fun j q1 q2 => by omega) (fun _ _ => rfl)
    clear K hz hG
    simp (disch := first | omega | ((simp (disch := omega) only [up_ne, up_eq, up_nj, gf_ne, gf_in, sa_ne, sa_eq]) <;> omega)) only [reduceIte, Bool.false_eq_true, if_pos, if_neg, up_ne, up_eq, up_nj, gf_ne, gf_in, sa_ne, sa_eq, and_self, true_and, and_true, p_101_4, p_101_5, p_101_73]
    exact this
  | succ k ih =>
    intro w z t G l4 hG hwn hk ht hE hz K
    have hw0 : w ≠ 0 := by
      intro e
      have h00 : n_bc (Int.toNat 0) = 0 := by decide
      rw [e] at hk
      omega
    have hwr := hG.1
    have hz := hz hw0
    obtain ⟨s1, s2, s3, s4, s5, s6, s7, s8, s9⟩ := gw_step h hG hw0
    have hwc := (wb_clr hwr ⟨s1, by omega⟩ s4).1
    have hCG : CM G := by
      unfold CM
      rw [hE 54 (by decide), hE 64 (by decide), hE 65 (by decide), hE 66 (by decide), hE 67 (by decide), hE 63 (by decide)]
      exact hC
    have hfoG : ∀ p q : Int, fo p q = foM G p q := fun p q => by
      rw [hfo p q]
      unfold foM nrM
      rw [hE 54 (by decide), hE 55 (by decide), hE 63 (by decide)]
    have hih := ih (wb w (lb z) false) (f_and (F (wb w (lb z) false)) (fw (lb z))) (t + 1) (am_up G 80 t (lb z)) (vI (lb z)) s6 (by omega) (by omega) (by omega) (fun b hb => by rw [am_up_ne _ _ _ _ _ hb, hE b hb]) (fun _ => Or.inr (by
      rw [show ((t + 1 : Nat) : Int) - 1 = (t : Int) by omega, up_eq rfl rfl]
      exact ⟨by omega, s1, s2, rfl⟩)) (fun G' q1 q2 q3 => K G' q1 (fun j r1 r2 => by
        rw [rws, gt]
        by_cases u : j = 0
        · rw [if_pos u, u, Int.add_zero, q3 t (by omega), up_eq rfl rfl]
        · rw [if_neg u, ← q2 (j - 1) (by omega) (by omega)]
          congr 1
          omega) (fun j r1 => by rw [q3 j (by omega), up_nj (by omega)]))
    have hlay := l_lay1 (d := d) (Q := Q) (w0 := w0) (t := t) h hCG (by rw [hE 54 (by decide), hN]) hfoG ⟨by omega, hwr.2⟩ (by rw [hE 79 (by decide), h79 w hwr.1 hwn]) hG (by omega) hz (by
      clear K ih hG s6 s5 hz hfoG
      simp (disch := first | omega | ((simp (disch := omega) only [up_ne, up_eq, up_nj, gf_ne, gf_in, sa_ne, sa_eq]) <;> omega)) only [reduceIte, Bool.false_eq_true, if_pos, if_neg, up_ne, up_eq, up_nj, gf_ne, gf_in, sa_ne, sa_eq, and_self, true_and, and_true, p_101_52, p_101_53, p_101_56, p_101_57, p_101_59, p_101_60, p_101_63, p_101_64, p_101_65, p_101_67, p_101_68, p_101_69, s8]
      rw [p_101_70, show (t : Int) + 1 = ((t + 1 : Nat) : Int) by omega]
      exact hih) (lb z).toNat 0 (by omega) (by omega)
    clear K ih hG s6 s5 hz hfoG hih
    simp (disch := first | omega | ((simp (disch := omega) only [up_ne, up_eq, up_nj, gf_ne, gf_in, sa_ne, sa_eq]) <;> omega)) only [reduceIte, Bool.false_eq_true, if_pos, if_neg, up_ne, up_eq, up_nj, gf_ne, gf_in, sa_ne, sa_eq, and_self, true_and, and_true, p_101_4, p_101_5, p_101_8, p_101_9]
    exact hlay
theorem c_lay {d : Nat} {Q : Option AV → AG → Prop} {n w : Int} {fo : Int → Int → Bool} {F fw : Int → Int} {G0 : AG} (h : EN n fo F fw) (hC : CM G0) (hN : G0 54 19 = n) (hfo : ∀ p q : Int, fo p q = foM G0 p q) (h79 : ∀ x : Int, 0 ≤ x → x < (2 ^ n.toNat : Nat) → G0 79 x = F x) (hw : 1 ≤ w ∧ w < (2 ^ n.toNat : Nat)) (hF : F w ≠ 0)
    (K : ∀ G' : AG, (∀ b : Nat, b ≠ 80 → G' b = G0 b) → (∀ j : Int, 0 ≤ j → j < n_bc w.toNat → G' 80 j = gt (rowOf F fw w) j) → Q none G') : Ends (d + 3) 101 0 [vR 54, vI w, vU, vU, vU] [] G0 Q := by
  have hn : 0 ≤ n ∧ n ≤ 10 := ⟨h.1, h.2.1⟩
  have hp : 2 ^ n.toNat ≤ 2 ^ 10 := Nat.pow_le_pow_right (by decide) (by omega)
  have hl := l_lay2 (d := d) (Q := Q) (w0 := w) h hC hN hfo h79 (n_bc w.toNat) w (F w) 0 G0 vU (gw_first h (by omega) hF) hw.2 rfl (by have := bc_le hn (w := w) (by omega); omega) (fun _ _ => rfl) (fun _ => Or.inl ⟨rfl, rfl⟩) (fun G' q1 q2 q3 => K G' q1 (fun j r1 r2 => by
    have := q2 j r1 r2
    rw [show (((0 : Nat) : Int) + j) = j by omega] at this
    exact this))
  clear K h79 hfo
  simp (disch := first | omega | ((simp (disch := omega) only [up_ne, up_eq, up_nj, gf_ne, gf_in, sa_ne, sa_eq]) <;> omega)) only [reduceIte, Bool.false_eq_true, if_pos, if_neg, up_ne, up_eq, up_nj, gf_ne, gf_in, sa_ne, sa_eq, and_self, true_and, and_true, p_101_0, p_101_1, p_101_2, p_101_3]
  exact hl
theorem l_ra {d : Nat} {Q : Option AV → AG → Prop} {k : Int} {G : AG} (hk : 0 ≤ k ∧ k ≤ 10) : ∀ (l m : List Int) (i : Int), 0 ≤ i → i + l.length = k → l.length = m.length → (∀ x ∈ l, 0 ≤ x ∧ x < 10) → (∀ x ∈ m, 0 ≤ x ∧ x < 10) → (∀ j : Int, 0 ≤ j → j < l.length → G 80 (i + j) = gt l j ∧ G 81 (i + j) = gt m j) →
    (Ends d 102 2 [vR 54, vI k, vR 81, vI i] [] G Q ↔ Q (some (vI (if lx l m = true then 1 else 0))) G)
  | [], [], i, h0, h1, _, _, _, _ => by
    simp at h1
    rw [lx]
    · simp (disch := first | omega | ((simp (disch := omega) only [up_ne, up_eq, up_nj, gf_ne, gf_in, sa_ne, sa_eq]) <;> omega)) only [reduceIte, Bool.false_eq_true, if_pos, if_neg, up_ne, up_eq, up_nj, gf_ne, gf_in, sa_ne, sa_eq, and_self, true_and, and_true, p_102_2, p_102_3, p_102_4, p_102_43, p_102_44]
    · intro a l b m e
      cases e
  | [], _ :: _, i, _, _, h, _, _, _ => by simp at h
  | _ :: _, [], i, _, _, h, _, _, _ => by simp at h
  | x :: l, y :: m, i, h0, h1, hl, hx, hy, hg => by
    rw [List.length_cons] at h1
    have g0 := hg 0 (by omega) (by rw [List.length_cons]; omega)
    rw [Int.add_zero, gt, gt, if_pos rfl, if_pos rfl] at g0
    have x1 := hx x List.mem_cons_self
    have y1 := hy y List.mem_cons_self
    have hih := l_ra (d := d) (Q := Q) hk l m (i + 1) (by omega) (by omega) (by simpa using hl) (fun z hz => hx z (List.mem_cons_of_mem _ hz)) (fun z hz => hy z (List.mem_cons_of_mem _ hz)) (fun j q1 q2 => by
      have := hg (j + 1) (by omega) (by rw [List.length_cons]; omega)
      rw [gt, gt, if_neg (by omega), if_neg (by omega), show j + 1 - 1 = j by omega, show i + (j + 1) = i + 1 + j by omega] at this
      exact this)
    rw [lx]
    clear hg hx hy
    by_cases u : x = y
    · rw [if_pos u]
      simp (disch := first | omega | ((simp (disch := omega) only [up_ne, up_eq, up_nj, gf_ne, gf_in, sa_ne, sa_eq]) <;> omega)) only [reduceIte, Bool.false_eq_true, if_pos, if_neg, up_ne, up_eq, up_nj, gf_ne, gf_in, sa_ne, sa_eq, and_self, true_and, and_true, p_102_2, p_102_3, p_102_4, p_102_7, p_102_8, p_102_11, p_102_12, p_102_13, p_102_14, p_102_15, p_102_16, p_102_19, p_102_20, p_102_23, p_102_24, p_102_25, p_102_26, p_102_27, p_102_28, p_102_31, p_102_32, p_102_35, p_102_36, p_102_37, g0.1, g0.2]
      rw [p_102_40]
      exact hih
    · rw [if_neg u]
      by_cases v : x < y
      · rw [decide_eq_true v]
        simp (disch := first | omega | ((simp (disch := omega) only [up_ne, up_eq, up_nj, gf_ne, gf_in, sa_ne, sa_eq]) <;> omega)) only [reduceIte, Bool.false_eq_true, if_pos, if_neg, up_ne, up_eq, up_nj, gf_ne, gf_in, sa_ne, sa_eq, and_self, true_and, and_true, p_102_2, p_102_3, p_102_4, p_102_7, p_102_8, p_102_11, p_102_12, p_102_13, p_102_14, p_102_15, p_102_16, p_102_19, p_102_20, p_102_23, p_102_24, p_102_25, p_102_26, p_102_27, p_102_28, p_102_31, p_102_32, p_102_35, p_102_36, g0.1, g0.2]
      · rw [decide_eq_false v]
        simp (disch := first | omega | ((simp (disch := omega) only [up_ne, up_eq, up_nj, gf_ne, gf_in, sa_ne, sa_eq]) <;> omega)) only [reduceIte, Bool.false_eq_true, if_pos, if_neg, up_ne, up_eq, up_nj, gf_ne, gf_in, sa_ne, sa_eq, and_self, true_and, and_true, p_102_2, p_102_3, p_102_4, p_102_7, p_102_8, p_102_11, p_102_12, p_102_13, p_102_14, p_102_15, p_102_16, p_102_19, p_102_20, p_102_23, p_102_24, p_102_25, p_102_26, p_102_27, p_102_28, p_102_31, p_102_32, p_102_35, p_102_36, g0.1, g0.2]
