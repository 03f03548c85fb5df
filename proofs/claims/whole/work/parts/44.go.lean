/-- what holds all through the search of an evening -/
def GI (Gs G : AG) : Prop := (∀ b : Nat, b ≠ 61 → b ≠ 62 → b ≠ 74 → b ≠ 75 → b ≠ 76 → G b = Gs b) ∧ MO G ∧ ∀ i : Int, 0 ≤ i → i < 192 → -1000000 ≤ G 74 i ∧ G 74 i ≤ 1000
def tri (G : AG) : T3 := (G 74, G 75, G 76)
/-- how a search of an evening ends: from slot f on nobody, the rest of the slots as before -/
def GE (Gs G : AG) (f fs S : Int) (x : T3) (G' : AG) : Prop := GI Gs G' ∧ tri G' = x ∧ (∀ t : Int, t < f ∨ fs + S ≤ t → G' 61 t = G 61 t ∧ G' 62 t = G 62 t) ∧ ∀ t : Int, f ≤ t → t < fs + S → G' 61 t = -1 ∧ G' 62 t = -1
theorem PW.keep {A M A' M' : Int → Int} {fs : Int} : ∀ {p : List Int}, PW A M fs p → (∀ t : Int, t < fs + p.length → A' t = A t ∧ M' t = M t) → PW A' M' fs p
  | [], _, _ => trivial
  | q :: p, h, k => by
    simp only [List.length_cons] at k
    have h1 := k (fs + p.length) (by omega)
    exact ⟨h1.1.trans h.1, h1.2.trans h.2.1, PW.keep h.2.2 (fun t ht => k t (by omega))⟩
theorem swP_rng {G : AG} (hX : XS G) {cost fs : Int} (hc : 0 ≤ cost ∧ cost ≤ 1000) : ∀ {p : List Int}, (∀ q ∈ p, q = 36 ∨ (0 ≤ q ∧ q < 36)) → -(1000 * (p.length : Int)) ≤ swP G cost fs p ∧ swP G cost fs p ≤ 100 * (p.length : Int)
  | [], _ => by simp [swP]
  | q :: p, h => by
    have ih := swP_rng hX (cost := cost) (fs := fs) hc (p := p) (fun x hx => h x (List.mem_cons_of_mem _ hx))
    have hq := h q List.mem_cons_self
    simp only [List.length_cons]
    have hw : -1000 ≤ wvX G cost (fs + p.length) q ∧ wvX G cost (fs + p.length) q ≤ 100 := by
      unfold wvX lkX
      by_cases e : q = 36
      · rw [if_pos e]
        split <;> omega
      · rw [if_neg e]
        have := hX.2.2.2.2.2.2.2 (q / 6) (q % 6) (by omega) (by omega) (by omega) (by omega)
        split <;> omega
    rw [swP]
    omega
theorem c_go0 {d : Nat} {Q : Option AV → AG → Prop} {G0 Gs G : AG} {cost e near : Int} {p : List Int} (hX : XS G0) (hc : 0 ≤ cost ∧ cost ≤ 1000) (hI : GI Gs G) (he : 0 ≤ e ∧ e < 3) (hS : 1 ≤ Gs 54 11 ∧ Gs 54 11 ≤ 3) (hes : e * Gs 54 11 + Gs 54 11 ≤ 6) (hes0 : 0 ≤ e * Gs 54 11) (hlen : (p.length : Int) = Gs 54 11) (hW : PW (G 61) (G 62) (e * Gs 54 11) p) (hp : ∀ q ∈ p, q = 36 ∨ (0 ≤ q ∧ q < 36)) (hcm : 0 ≤ cmpP p ∧ cmpP p < 64)
    (K : ∀ G' : AG, GE Gs G (e * Gs 54 11 + p.length) (e * Gs 54 11) (Gs 54 11) (stM G0 cost e (e * Gs 54 11) (tri G) p) G' → Q none G') :
    Ends d 89 0 [vR 54, vI e, vI p.length, vI (cmpP p), vI (swP G0 cost (e * Gs 54 11) p), vI near, vU, vU, vU, vU, vU] [] G Q := by
  obtain ⟨i1, i2, i3⟩ := id hI
  have e11 : G 54 11 = Gs 54 11 := by rw [i1 54 (by decide) (by decide) (by decide) (by decide) (by decide)]
  have hsw := swP_rng hX (fs := e * Gs 54 11) hc hp
  have hv := i3 (64 * e + cmpP p) (by omega) (by omega)
  by_cases u : G 74 (64 * e + cmpP p) < swP G0 cost (e * Gs 54 11) p
  · simp (disch := first | omega | ((simp (disch := omega) only [up_ne, up_eq, up_nj, gf_ne, gf_in, sa_ne, sa_eq]) <;> omega)) only [reduceIte, Bool.false_eq_true, if_pos, if_neg, up_ne, up_eq, up_nj, gf_ne, gf_in, sa_ne, sa_eq, and_self, true_and, and_true, p_89_0, p_89_1, p_89_2, p_89_5, p_89_8, p_89_10, p_89_11, p_89_12, p_89_13, p_89_14, p_89_16, p_89_18, p_89_19, p_89_22, p_89_24, p_89_25, p_89_28, p_89_29, p_89_30, p_89_33, p_89_35, p_89_37, p_89_38, p_89_39, e11, hlen]
    have e11' : am_up G 74 (64 * e + cmpP p) (swP G0 cost (e * Gs 54 11) p) 54 11 = Gs 54 11 := by rw [up_ne (by decide), e11]
    have key := l_cp (d := d) (Q := Q) (e := e) (set := cmpP p) (sum := swP G0 cost (e * Gs 54 11) p) (near := near) (k := 64 * e + cmpP p) (p := p) (G1 := am_up G 74 (64 * e + cmpP p) (swP G0 cost (e * Gs 54 11) p)) (bw := G 75) (bt := G 76) he (by omega) (by rw [e11']; exact hS) (by rw [e11']; exact hes) (by rw [e11']; exact hes0) (by rw [e11']; exact hlen) (by rw [e11', am_up_ne _ _ _ _ _ (show 61 ≠ 74 by decide), am_up_ne _ _ _ _ _ (show 62 ≠ 74 by decide)]; exact hW) ?_ (Gs 54 11).toNat 0 (am_up G 74 (64 * e + cmpP p) (swP G0 cost (e * Gs 54 11) p)) vU vU vU (by omega) (by rw [e11']; omega) (fun _ _ _ => rfl) ?_ ?_
    · rw [e11'] at key
      exact key
    · intro G' w1 w2 w3
      refine K G' ⟨⟨fun b q1 q2 q3 q4 q5 => ?_, fun i q1 q2 => ?_, fun i q1 q2 => ?_⟩, ?_, fun t _ => ?_, fun t q1 q2 => by omega⟩
      · rw [w1 b q4 q5, am_up_ne _ _ _ _ _ q3, i1 b q1 q2 q3 q4 q5]
      · rw [w1 61 (by decide) (by decide), w1 62 (by decide) (by decide)]
        simp (disch := omega) only [up_ne, up_eq, up_nj, gf_ne, gf_in, sa_ne, sa_eq]
        exact i2 i q1 q2
      · rw [w1 74 (by decide) (by decide)]
        by_cases v : i = 64 * e + cmpP p
        · rw [up_eq rfl v]
          omega
        · rw [up_nj v]
          exact i3 i q1 q2
      · unfold stM tri
        rw [if_pos u, w2, w3, w1 74 (by decide) (by decide)]
        rfl
      · rw [w1 61 (by decide) (by decide), w1 62 (by decide) (by decide)]
        simp (disch := omega) only [up_ne, up_eq, up_nj, gf_ne, gf_in, sa_ne, sa_eq]
        exact ⟨trivial, trivial⟩
    · funext j
      rw [up_ne (by decide), if_neg (by omega)]
    · funext j
      rw [up_ne (by decide), if_neg (by omega)]
  · simp (disch := first | omega | ((simp (disch := omega) only [up_ne, up_eq, up_nj, gf_ne, gf_in, sa_ne, sa_eq]) <;> omega)) only [reduceIte, Bool.false_eq_true, if_pos, if_neg, up_ne, up_eq, up_nj, gf_ne, gf_in, sa_ne, sa_eq, and_self, true_and, and_true, p_89_0, p_89_1, p_89_2, p_89_5, p_89_8, p_89_10, p_89_11, p_89_12, p_89_13, p_89_14, p_89_16, p_89_18, p_89_19, p_89_22, p_89_24, p_89_25, p_89_28, e11, hlen]
    refine K G ⟨hI, ?_, fun t _ => ⟨rfl, rfl⟩, fun t q1 q2 => by omega⟩
    unfold stM tri
    rw [if_neg u]
