/-! joining evenings -/
def IMP : Int := -9223372036854775808
def jn (oc lt : Int → Int) (tk : Int) : Nat → Int → Int → Int
  | 0, _, g => g
  | m + 1, c, g => jn oc lt tk m (c + 1) (if f_and c tk = 0 ∧ oc c ≠ -9223372036854775808 then max g (oc c + lt (f_or tk c)) else g)
/-- values that are there, or none -/
def VB (n : Int) (b : Int) (oc : Int → Int) : Prop := ∀ c : Int, 0 ≤ c → c < n → oc c = -9223372036854775808 ∨ (-b ≤ oc c ∧ oc c ≤ b)
theorem f_or_rng {a b : Int} {k : Nat} (hk : k ≤ 10) (h0 : 0 ≤ a) (h1 : a < (2 ^ k : Nat)) (h2 : 0 ≤ b) (h3 : b < (2 ^ k : Nat)) : a ≤ f_or a b ∧ f_or a b < (2 ^ k : Nat) := by
  have hp : 2 ^ k ≤ 2 ^ 10 := Nat.pow_le_pow_right (by decide) hk
  rw [fi_or h0 (by omega) h2 (by omega)]
  have h4 := @Nat.left_le_or a.toNat b.toNat
  have h5 : a.toNat ||| b.toNat < 2 ^ k := Nat.or_lt_two_pow (by omega) (by omega)
  omega
theorem l_join1 {d : Nat} {Q : Option AV → AG → Prop} {tk : Int} {k : Nat} {G : AG} (hk : k ≤ 6) (htk : 0 ≤ tk ∧ tk < (2 ^ k : Nat)) (hoc : VB (2 ^ k : Nat) 100000000000000 (G 31)) (hlt : ∀ t : Int, tk ≤ t → t < (2 ^ k : Nat) → -100000000000000 ≤ G 32 t ∧ G 32 t ≤ 100000000000000) :
    ∀ (m : Nat) (c g : Int), 0 ≤ c → c + m = (2 ^ k : Nat) → -9223372036854775808 ≤ g → g ≤ 200000000000000 → (∀ g' : Int, g' = jn (G 31) (G 32) tk m c g → -9223372036854775808 ≤ g' → g' ≤ 200000000000000 → Ends (d + 1) 30 79 [vR 16, vI (2 ^ k : Nat), vI tk, vL g', vU, vI (2 ^ k : Nat)] [] G Q) → Ends (d + 1) 30 24 [vR 16, vI (2 ^ k : Nat), vI tk, vL g, vU, vI c] [] G Q := by
  have hp : 2 ^ k ≤ 2 ^ 6 := Nat.pow_le_pow_right (by decide) hk
  have hp' : ((2 ^ k : Nat) : Int) ≤ 64 := by omega
  generalize hN : ((2 ^ k : Nat) : Int) = N at *
  intro m
  induction m with
  | zero =>
    intro c g h0 h1 h2 h3 K
    have e : c = N := by omega
    subst e
    simp (disch := first | omega | ((simp (disch := omega) only [up_ne, up_eq, up_nj, gf_ne, gf_in, sa_ne, sa_eq]) <;> omega)) only [reduceIte, Bool.false_eq_true, if_pos, if_neg, up_ne, up_eq, up_nj, gf_ne, gf_in, sa_ne, sa_eq, and_self, true_and, and_true, p_30_24, p_30_26, p_30_27, p_30_30, p_30_32, p_30_33, p_30_34, p_30_37, p_30_38, p_30_41, p_30_43, p_30_44, p_30_47, p_30_48, p_30_51, p_30_52, p_30_53, p_30_56, p_30_58, p_30_59, p_30_60, p_30_63, p_30_64, p_30_66, p_30_67, p_30_68, q_30_69, p_30_72, p_30_73]
    exact K g rfl h2 h3
  | succ m ih =>
    intro c g h0 h1 h2 h3 K
    have ho := f_or_rng (a := tk) (b := c) (k := k) (by omega) htk.1 (by omega) h0 (by omega)
    rw [hN] at ho
    have ha := f_and_rng (a := c) (b := tk) h0 (by omega) htk.1 (by omega)
    have hc := hoc c h0 (by omega)
    have hl := hlt (f_or tk c) ho.1 ho.2
    by_cases a : f_and c tk = 0
    · by_cases b : G 31 c = -9223372036854775808
      · simp (disch := first | omega | ((simp (disch := omega) only [up_ne, up_eq, up_nj, gf_ne, gf_in, sa_ne, sa_eq]) <;> omega)) only [reduceIte, Bool.false_eq_true, if_pos, if_neg, up_ne, up_eq, up_nj, gf_ne, gf_in, sa_ne, sa_eq, and_self, true_and, and_true, p_30_24, p_30_26, p_30_27, p_30_30, p_30_32, p_30_33, p_30_34, p_30_37, p_30_38, p_30_41, p_30_43, p_30_44, p_30_47, p_30_48, p_30_51, p_30_52, p_30_53, p_30_56, p_30_58, p_30_59, p_30_60, p_30_63, p_30_64, p_30_66, p_30_67, p_30_68, q_30_69, p_30_72, p_30_73, f_cmp]
        rw [p_30_76]
        refine ih (c + 1) g (by omega) (by omega) h2 h3 (fun g' e => K g' ?_)
        rw [e, jn, if_neg (by omega)]
      · by_cases b2 : G 31 c < -9223372036854775808
        · omega
        · simp (disch := first | omega | ((simp (disch := omega) only [up_ne, up_eq, up_nj, gf_ne, gf_in, sa_ne, sa_eq]) <;> omega)) only [reduceIte, Bool.false_eq_true, if_pos, if_neg, up_ne, up_eq, up_nj, gf_ne, gf_in, sa_ne, sa_eq, and_self, true_and, and_true, p_30_24, p_30_26, p_30_27, p_30_30, p_30_32, p_30_33, p_30_34, p_30_37, p_30_38, p_30_41, p_30_43, p_30_44, p_30_47, p_30_48, p_30_51, p_30_52, p_30_53, p_30_56, p_30_58, p_30_59, p_30_60, p_30_63, p_30_64, p_30_66, p_30_67, p_30_68, q_30_69, p_30_72, p_30_73, f_cmp]
          rw [p_30_76]
          refine ih (c + 1) _ (by omega) (by omega) (by omega) (by omega) (fun g' e => K g' ?_)
          rw [e, jn, if_pos ⟨a, b⟩]
    · simp (disch := first | omega | ((simp (disch := omega) only [up_ne, up_eq, up_nj, gf_ne, gf_in, sa_ne, sa_eq]) <;> omega)) only [reduceIte, Bool.false_eq_true, if_pos, if_neg, up_ne, up_eq, up_nj, gf_ne, gf_in, sa_ne, sa_eq, and_self, true_and, and_true, p_30_24, p_30_26, p_30_27, p_30_30, p_30_32, p_30_33, p_30_34, p_30_37, p_30_38, p_30_41, p_30_43, p_30_44, p_30_47, p_30_48, p_30_51, p_30_52, p_30_53, p_30_56, p_30_58, p_30_59, p_30_60, p_30_63, p_30_64, p_30_66, p_30_67, p_30_68, q_30_69, p_30_72, p_30_73]
      rw [p_30_76]
      refine ih (c + 1) g (by omega) (by omega) h2 h3 (fun g' e => K g' ?_)
      rw [e, jn, if_neg (fun h => a h.1)]
theorem jn_cong {oc lt lt' : Int → Int} {tk : Int} : ∀ (m : Nat) (c g : Int), (∀ i : Int, c ≤ i → i < c + m → lt (f_or tk i) = lt' (f_or tk i)) → jn oc lt tk m c g = jn oc lt' tk m c g
  | 0, _, _, _ => rfl
  | m + 1, c, g, h => by
    rw [jn, jn, h c (by omega) (by omega), jn_cong m (c + 1) _ (fun i q1 q2 => h i (by omega) (by omega))]
theorem l_join2 {d : Nat} {Q : Option AV → AG → Prop} {k : Nat} {G0 : AG} (hk : k ≤ 6) (hoc : VB (2 ^ k : Nat) 100000000000000 (G0 31)) (hlt : ∀ t : Int, 0 ≤ t → t < (2 ^ k : Nat) → -100000000000000 ≤ G0 32 t ∧ G0 32 t ≤ 100000000000000)
    (K : ∀ G' : AG, (∀ b : Nat, b ≠ 32 → G' b = G0 b) → (∀ t : Int, 0 ≤ t → t < (2 ^ k : Nat) → G' 32 t = jn (G0 31) (G0 32) t (2 ^ k) 0 (-9223372036854775808)) → Q none G') :
    ∀ (m : Nat) (tk : Int) (G : AG) (l3 l4 l5 : AV), 0 ≤ tk → tk + m = (2 ^ k : Nat) → (∀ b : Nat, b ≠ 32 → G b = G0 b) → (∀ t : Int, tk ≤ t → t < (2 ^ k : Nat) → G 32 t = G0 32 t) → (∀ t : Int, 0 ≤ t → t < tk → G 32 t = jn (G0 31) (G0 32) t (2 ^ k) 0 (-9223372036854775808)) → (l4 = vU ∨ ∃ z, l4 = vI z) → Ends (d + 1) 30 12 [vR 16, vI (2 ^ k : Nat), vI tk, l3, l4, l5] [] G Q := by
  have hp : 2 ^ k ≤ 2 ^ 6 := Nat.pow_le_pow_right (by decide) hk
  intro m
  induction m with
  | zero =>
    intro tk G l3 l4 l5 h0 h1 hE hA hB o4
    simp (disch := first | omega | ((simp (disch := omega) only [up_ne, up_eq, up_nj, gf_ne, gf_in, sa_ne, sa_eq]) <;> omega)) only [reduceIte, Bool.false_eq_true, if_pos, if_neg, up_ne, up_eq, up_nj, gf_ne, gf_in, sa_ne, sa_eq, and_self, true_and, and_true, p_30_12, p_30_13, p_30_14, p_30_17, p_30_20, p_30_21, p_30_22, p_30_22r, p_30_22u, p_30_79, p_30_80, p_30_83, p_30_84, p_30_85, p_30_86, p_30_92]
    exact K G hE (fun t q1 q2 => hB t q1 (by omega))
  | succ m ih =>
    intro tk G l3 l4 l5 h0 h1 hE hA hB o4
    have e31 : G 31 = G0 31 := hE 31 (by decide)
    simp (disch := first | omega | ((simp (disch := omega) only [up_ne, up_eq, up_nj, gf_ne, gf_in, sa_ne, sa_eq]) <;> omega)) only [reduceIte, Bool.false_eq_true, if_pos, if_neg, up_ne, up_eq, up_nj, gf_ne, gf_in, sa_ne, sa_eq, and_self, true_and, and_true, p_30_12, p_30_13, p_30_14, p_30_17, p_30_20, p_30_21, p_30_22, p_30_22r, p_30_22u]
    refine l_join1 hk ⟨h0, by omega⟩ (by rw [e31]; exact hoc) (fun t q1 q2 => by rw [hA t q1 q2]; exact hlt t (by omega) q2) (2 ^ k) 0 _ (by omega) (by omega) (by omega) (by omega) ?_
    intro g' eg g1 g2
    have eg2 : g' = jn (G0 31) (G0 32) tk (2 ^ k) 0 (-9223372036854775808) := by
      rw [eg, e31]
      refine jn_cong _ _ _ (fun i q1 q2 => ?_)
      have ho := f_or_rng (a := tk) (b := i) (k := k) (by omega) h0 (by omega) q1 (by omega)
      exact hA _ ho.1 ho.2
    simp (disch := first | omega | ((simp (disch := omega) only [up_ne, up_eq, up_nj, gf_ne, gf_in, sa_ne, sa_eq]) <;> omega)) only [reduceIte, Bool.false_eq_true, if_pos, if_neg, up_ne, up_eq, up_nj, gf_ne, gf_in, sa_ne, sa_eq, and_self, true_and, and_true, p_30_79, p_30_80, p_30_83, p_30_84, p_30_85, p_30_86, p_30_92]
    rw [p_30_89]
    refine ih (tk + 1) _ _ _ _ (by omega) (by omega) (fun b hb => by rw [am_up_ne _ _ _ _ _ hb, hE b hb]) (fun t q1 q2 => by rw [up_nj (by omega), hA t (by omega) q2]) (fun t q1 q2 => ?_) (Or.inl rfl)
    by_cases e : t = tk
    · subst e
      rw [up_eq rfl rfl, eg2]
    · rw [up_nj e, hB t q1 (by omega)]
