/-! carryOut -/
def dg (N s : Int) : Int := N / f_pl s % 37
theorem f_pl_pos {s : Int} : 1 ≤ f_pl s ∧ f_pl s ≤ 69343957 := by
  unfold f_pl
  repeat' split
  all_goals omega
theorem dg_rng {N s : Int} : 0 ≤ dg N s ∧ dg N s < 37 := ⟨Int.emod_nonneg _ (by decide), Int.emod_lt_of_pos _ (by decide)⟩
theorem l_carry {d : Nat} {Q : Option AV → AG → Prop} {N v : Int} {G0 : AG} (hN : 0 ≤ N ∧ N < 2565726409) (hO : HO G0) (hn : 0 ≤ G0 13 6 ∧ G0 13 6 ≤ 6)
    (K : ∀ G' : AG, (∀ b : Nat, b ≠ 14 → G' b = G0 b) → (∀ s : Int, 0 ≤ s → s < G0 13 6 → G' 14 s = dg N s) → (∀ s : Int, G0 13 6 ≤ s → G' 14 s = G0 14 s) → Q (some (vI (sumf (fun s => if dg N s = G0 14 s then 0 else 1) (G0 13 6).toNat 0))) G') :
    ∀ (m : Nat) (s acc : Int) (G : AG) (l7 : AV), 0 ≤ s → s + m = G0 13 6 → acc + sumf (fun s => if dg N s = G0 14 s then 0 else 1) m s = sumf (fun s => if dg N s = G0 14 s then 0 else 1) (G0 13 6).toNat 0 → (∀ b : Nat, b ≠ 14 → G b = G0 b) → (∀ t : Int, 0 ≤ t → t < s → G 14 t = dg N t) → (∀ t : Int, s ≤ t → G 14 t = G0 14 t) → Ends (d + 1) 31 15 [vR 16, vL v, vU, vL N, vU, vI acc, vI s, l7] [] G Q := by
  intro m
  induction m with
  | zero =>
    intro s acc G l7 h0 h1 h2 hE hA hB
    have e13 : G 13 6 = G0 13 6 := by rw [hE 13 (by decide)]
    rw [sumf, Int.add_zero] at h2
    simp (disch := first | omega | ((simp (disch := omega) only [up_ne, up_eq, up_nj, gf_ne, gf_in, sa_ne, sa_eq]) <;> omega)) only [reduceIte, Bool.false_eq_true, if_pos, if_neg, up_ne, up_eq, up_nj, gf_ne, gf_in, sa_ne, sa_eq, and_self, true_and, and_true, p_31_15, p_31_17, p_31_18, p_31_21, p_31_24, p_31_27, p_31_28, p_31_31, p_31_33, p_31_34, p_31_35, p_31_38, p_31_39, p_31_40, p_31_42, p_31_44, p_31_45, p_31_48, p_31_51, p_31_53, p_31_54, p_31_57, p_31_58, p_31_61, p_31_64, p_31_66, p_31_68, p_31_69, p_31_72, p_31_78, p_31_80, e13]
    rw [h2]
    exact K G hE (fun t q1 q2 => hA t q1 (by omega)) (fun t q => hB t (by omega))
  | succ m ih =>
    intro s acc G l7 h0 h1 h2 hE hA hB
    have e13 : G 13 6 = G0 13 6 := by rw [hE 13 (by decide)]
    have e14 : G 14 s = G0 14 s := hB s (by omega)
    have hf := @f_pl_pos s
    have hd := @dg_rng N s
    have ho := hO s h0 (by omega)
    have hq : 0 ≤ N / f_pl s := Int.ediv_nonneg hN.1 (by omega)
    have hq2 : N / f_pl s ≤ N := Int.ediv_le_self _ hN.1
    have ed : N / f_pl s % 37 = dg N s := rfl
    rw [sumf] at h2
    by_cases e : dg N s = G0 14 s
    · simp (disch := first | omega | ((simp (disch := omega) only [up_ne, up_eq, up_nj, gf_ne, gf_in, sa_ne, sa_eq]) <;> omega)) only [reduceIte, Bool.false_eq_true, if_pos, if_neg, up_ne, up_eq, up_nj, gf_ne, gf_in, sa_ne, sa_eq, and_self, true_and, and_true, p_31_15, p_31_17, p_31_18, p_31_21, p_31_24, p_31_27, p_31_28, p_31_31, p_31_33, p_31_34, p_31_35, p_31_38, p_31_39, p_31_40, p_31_42, p_31_44, p_31_45, p_31_48, p_31_51, p_31_53, p_31_54, p_31_57, p_31_58, p_31_61, p_31_64, p_31_66, p_31_68, p_31_69, p_31_72, p_31_78, p_31_80, e13, e14, ed]
      rw [p_31_75]
      refine ih (s + 1) acc G _ (by omega) (by omega) ?_ hE (fun t q1 q2 => ?_) (fun t q => hB t (by omega))
      · rw [if_pos e, Int.zero_add] at h2
        exact h2
      · by_cases u : t = s
        · subst u
          rw [e14, e]
        · exact hA t q1 (by omega)
    · simp (disch := first | omega | ((simp (disch := omega) only [up_ne, up_eq, up_nj, gf_ne, gf_in, sa_ne, sa_eq]) <;> omega)) only [reduceIte, Bool.false_eq_true, if_pos, if_neg, up_ne, up_eq, up_nj, gf_ne, gf_in, sa_ne, sa_eq, and_self, true_and, and_true, p_31_15, p_31_17, p_31_18, p_31_21, p_31_24, p_31_27, p_31_28, p_31_31, p_31_33, p_31_34, p_31_35, p_31_38, p_31_39, p_31_40, p_31_42, p_31_44, p_31_45, p_31_48, p_31_51, p_31_53, p_31_54, p_31_57, p_31_58, p_31_61, p_31_64, p_31_66, p_31_68, p_31_69, p_31_72, p_31_78, p_31_80, e13, e14, ed]
      rw [p_31_75]
      refine ih (s + 1) (acc + 1) _ _ (by omega) (by omega) ?_ (fun b hb => by rw [am_up_ne _ _ _ _ _ hb, hE b hb]) (fun t q1 q2 => ?_) (fun t q => by rw [up_nj (by omega), hB t (by omega)])
      · rw [if_neg e, ← Int.add_assoc] at h2
        exact h2
      · by_cases u : t = s
        · subst u
          rw [up_eq rfl rfl]
        · rw [up_nj u]
          exact hA t q1 (by omega)
theorem c_carry {d : Nat} {Q : Option AV → AG → Prop} {v : Int} {G0 : AG} (hv : -9000000000000000 ≤ v ∧ v ≤ 9000000000000000) (hO : HO G0) (hn : 0 ≤ G0 13 6 ∧ G0 13 6 ≤ 6)
    (K : ∀ G' : AG, (∀ b : Nat, b ≠ 14 → G' b = G0 b) → (∀ s : Int, 0 ≤ s → s < G0 13 6 → G' 14 s = dg (-v % 2565726409) s) → (∀ s : Int, G0 13 6 ≤ s → G' 14 s = G0 14 s) → Q (some (vI (sumf (fun s => if dg (-v % 2565726409) s = G0 14 s then 0 else 1) (G0 13 6).toNat 0))) G') :
    Ends (d + 1) 31 0 [vR 16, vL v, vU, vU, vU, vU, vU, vU] [] G0 Q := by
  have h1 : 0 ≤ -v % 2565726409 := Int.emod_nonneg _ (by decide)
  have h2 : -v % 2565726409 < 2565726409 := Int.emod_lt_of_pos _ (by decide)
  simp (disch := first | omega | ((simp (disch := omega) only [up_ne, up_eq, up_nj, gf_ne, gf_in, sa_ne, sa_eq]) <;> omega)) only [reduceIte, Bool.false_eq_true, if_pos, if_neg, up_ne, up_eq, up_nj, gf_ne, gf_in, sa_ne, sa_eq, and_self, true_and, and_true, p_31_0, p_31_1, p_31_2, q_31_5, p_31_8, p_31_8r, p_31_8u, p_31_9, p_31_10, p_31_10r, p_31_10u, p_31_12, p_31_13]
  exact l_carry ⟨h1, h2⟩ hO hn K (G0 13 6).toNat 0 0 G0 _ (by omega) (by omega) (by rw [Int.zero_add]) (fun _ _ => rfl) (fun t q1 q2 => by omega) (fun _ _ => rfl)
/-! the list of fillings looks at the tables alone -/
theorem mayP_cong {G G' : AG} {z0 : Int} (h : G' 29 = G 29) : ∀ p : List Int, mayP G' z0 p = mayP G z0 p
  | [] => rfl
  | q :: p => by rw [mayP, mayP, mayP_cong h p, h]
theorem farP_cong {G G' : AG} (h : G' 30 = G 30) : ∀ p : List Int, farP G' p = farP G p
  | [] => rfl
  | q :: p => by rw [farP, farP, farP_cong h p, h]
theorem vlsP_cong {G G' : AG} {fs : Int} {n : Nat} (h0 : 0 ≤ fs ∧ fs + n ≤ 6) (h : ∀ b : Nat, 18 ≤ b → b ≤ 23 → G' b = G b) : ∀ p : List Int, p.length ≤ n → vlsP G' fs p = vlsP G fs p
  | [], _ => rfl
  | q :: p, hl => by
    simp only [List.length_cons] at hl
    rw [vlsP, vlsP, vlsP_cong h0 h p (by omega), h _ (by omega) (by omega)]
theorem rl_cong {P P' : Int → Bool} : ∀ (n : Nat) (o : Int), (∀ k : Int, o ≤ k → k < o + n → P k = P' k) → rl P n o = rl P' n o
  | 0, _, _ => rfl
  | n + 1, o, h => by rw [rl, rl, h o (by omega) (by omega), rl_cong n (o + 1) (fun k q1 q2 => h k (by omega) (by omega))]
theorem chs_cong {G G' : AG} {h : Int} (e : ∀ b : Nat, b ≤ 15 → G' b = G b) : chs G' h = chs G h := by
  refine rl_cong _ _ (fun k q1 q2 => ?_)
  unfold ok1 lkX
  rw [e 3 (by omega), e 2 (by omega), e (7 + (k / 6).toNat) (by omega)]
theorem enX_cong {G G' : AG} {z0 fs : Int} {n : Nat} (h0 : 0 ≤ fs ∧ fs + n ≤ 6) (e : ∀ b : Nat, b ≠ 16 → b ≠ 31 → b ≠ 32 → G' b = G b) : ∀ (k : Nat) (p : List Int) (oc : Int → Int), p.length + k ≤ n → enX G' z0 fs k p oc = enX G z0 fs k p oc
  | 0, p, oc, hl => by
    unfold enX stX
    rw [vlsP_cong h0 (fun b q1 q2 => e b (by omega) (by omega) (by omega)) p (by omega)]
  | k + 1, p, oc, hl => by
    rw [enX, enX, chs_cong (fun b hb => e b (by omega) (by omega) (by omega)), enX_cong h0 e k (36 :: p) _ (by simp; omega)]
    congr 1
    have : (fun oc o => if okX G' z0 p o = true then enX G' z0 fs k (o :: p) oc else oc) = (fun oc o => if okX G z0 p o = true then enX G z0 fs k (o :: p) oc else oc) := by
      funext oc o
      rw [enX_cong h0 e k (o :: p) oc (by simp; omega), okX, okX, mayP_cong (e 29 (by decide) (by decide) (by decide)), farP_cong (e 30 (by decide) (by decide) (by decide))]
    rw [this]
