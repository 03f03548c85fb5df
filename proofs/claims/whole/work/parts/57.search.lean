/-! search, the whole -/
theorem c_search {d : Nat} {Q : Option AV → AG → Prop} {near cost : Int} {G0 GT G : AG} (hR : Rel G0) (hT : TBL G0 cost GT) (hn : (near = 0 ∧ cost = 0) ∨ (near = 1 ∧ cost = 1000)) (hG : MSame G0 G) (h61 : G 61 = G0 61) (h62 : G 62 = G0 62)
    (K : ∀ G' : AG, (∀ b : Nat, b ≠ 54 → b ≠ 61 → b ≠ 62 → (b < 72 ∨ 78 < b) → G' b = G b) → (∀ j : Int, j ≠ 33 → G' 54 j = G 54 j) → (∀ t : Int, 0 ≤ t → t < 6 → G' 72 t = G0 61 t ∧ G' 73 t = G0 62 t) →
      (∀ s : Int, 0 ≤ s → s < G0 13 6 → (dg (-topX GT G0 % 2565726409) s = 36 ∨ (0 ≤ dg (-topX GT G0 % 2565726409) s ∧ dg (-topX GT G0 % 2565726409) s < 36 ∧ dg (-topX GT G0 % 2565726409) s / 6 < G0 3 4 ∧ dg (-topX GT G0 % 2565726409) s % 6 < G0 0 2)) ∧ G' 61 s = aO (dg (-topX GT G0 % 2565726409) s) ∧ G' 62 s = mO (dg (-topX GT G0 % 2565726409) s)) →
      (∀ s : Int, G0 13 6 ≤ s → G' 61 s = G0 61 s ∧ G' 62 s = G0 62 s) → Q none G') :
    Ends (d + 9) 92 0 [vR 54, vI near, vU, vU] [] G Q := by
  obtain ⟨hm0, hm1, hm2, hm3, hm4, hm5, hm6⟩ := id hR.1
  obtain ⟨ha0, ha1, ha2, ha3, ha4, ha5, ha6⟩ := id hR.2.1
  obtain ⟨hp1, hp2, hp3, hp4, hp5, hp6, hp7, hp8, hp9, hp10⟩ := id hR.2.2.1
  have hs := hR.2.2.1.slots
  have hc : 0 ≤ cost ∧ cost ≤ 1000 := by omega
  have hk6 : (G0 3 4).toNat ≤ 6 := by omega
  have hp : 2 ^ (G0 3 4).toNat ≤ 2 ^ 6 := Nat.pow_le_pow_right (by decide) hk6
  have hq : 0 < 2 ^ (G0 3 4).toNat := Nat.pos_of_ne_zero (by simp)
  simp (disch := first | omega | ((simp (disch := omega) only [up_ne, up_eq, up_nj, gf_ne, gf_in, sa_ne, sa_eq]) <;> omega)) only [reduceIte, Bool.false_eq_true, if_pos, if_neg, up_ne, up_eq, up_nj, gf_ne, gf_in, sa_ne, sa_eq, and_self, true_and, and_true, p_92_0, p_92_1]
  refine l_sr1 (G1 := G) (fun G1 k1 c1 => ?_) 6 0 G (by omega) (by omega) (fun _ _ _ => rfl) (fun j _ _ => by omega)
  simp (disch := first | omega | ((simp (disch := omega) only [up_ne, up_eq, up_nj, gf_ne, gf_in, sa_ne, sa_eq]) <;> omega)) only [reduceIte, Bool.false_eq_true, if_pos, if_neg, up_ne, up_eq, up_nj, gf_ne, gf_in, sa_ne, sa_eq, and_self, true_and, and_true, p_92_38, p_92_39]
  refine l_sr2 (G1 := G1) (fun G2 k2 c2 => ?_) 192 0 G1 (by omega) (by omega) (fun _ _ => rfl) (fun j _ _ => by omega)
  have e61 : G2 61 = G0 61 := by rw [k2 61 (by decide), k1 61 (by decide) (by decide), h61]
  have e62 : G2 62 = G0 62 := by rw [k2 62 (by decide), k1 62 (by decide) (by decide), h62]
  have hr : SR G0 G2 near cost := ⟨⟨fun b q1 q2 => by rw [k2 b (by omega), k1 b (by omega) (by omega), hG.1 b q1 q2], fun j q1 q2 => by rw [k2 54 (by decide), k1 54 (by decide) (by decide), hG.2 j q1 q2]⟩, fun t q1 q2 => by
    have := c1 t q1 q2
    rw [h61, h62] at this
    rw [k2 72 (by decide), k2 73 (by decide)]
    exact this, hn⟩
  have hMO : MO G2 := by
    have := hR.2.2.1.mo ha1 hm1
    unfold MO at this ⊢
    rw [e61, e62]
    exact this
  have hI : GI G2 G2 := ⟨fun _ _ _ _ _ _ => rfl, hMO, fun i q1 q2 => by rw [c2 i q1 q2]; omega⟩
  simp (disch := first | omega | ((simp (disch := omega) only [up_ne, up_eq, up_nj, gf_ne, gf_in, sa_ne, sa_eq]) <;> omega)) only [reduceIte, Bool.false_eq_true, if_pos, if_neg, up_ne, up_eq, up_nj, gf_ne, gf_in, sa_ne, sa_eq, and_self, true_and, and_true, p_92_61, p_92_62]
  refine l_sr3 hR hT hr (fun G3 gi g61 hsim => ?_) (G0 13 4).toNat 0 G2 (by omega) (by omega) hI (fun _ _ => ⟨rfl, rfl⟩) (fun e' _ _ => by omega) (fun j q1 q2 => c2 j (by omega) q2)
  have hS3 : MSame G0 (am_up G3 54 33 (-1000000)) := by
    have := gi.same hr.1
    refine ⟨fun b q1 q2 => ?_, fun j q1 q2 => ?_⟩
    · rw [am_up_ne _ _ _ _ _ (by omega), this.1 b q1 q2]
    · rw [up_nj q2, this.2 j q1 q2]
  have htri : tri (am_up G3 54 33 (-1000000)) = tri G3 := by
    unfold tri
    rw [am_up_ne _ _ _ _ _ (by decide), am_up_ne _ _ _ _ _ (by decide), am_up_ne _ _ _ _ _ (by decide)]
  obtain ⟨rr, hJ, hrr⟩ := jd_of (G := am_up G3 54 33 (-1000000)) hR hc hT hS3 (fun e q1 q2 => by rw [htri]; exact hsim e q1 q2)
  have hjoin : Ends (d + 8) 90 0 [vR 54, vI 0, vI 0, vI 0, vU, vU] [] (am_up G3 54 33 (-1000000)) (fun r G' => r = none ∧ JK 0 (am_up G3 54 33 (-1000000)) G' ∧ FD G' (G0 13 4) (ovX GT G0) (max (-9223372036854775808) (0 + topX GT G0))) := by
    have h1 := c_joinM (E := G0 13 4) (S := G0 13 5) (k := G0 3 4) (ov := ovX GT G0) (rr := rr) (lat := latX GT (((2 ^ (G0 3 4).toNat : Nat) : Int) - 1) (G0 13 5) (G0 13 4) (2 ^ (G0 3 4).toNat)) (fun t => by rw [latX]) (fun r t hr => by
      rw [latX]
      unfold ovX oce
      rw [show (G0 13 4 - 1 - (((G0 13 4 - 1 - (G0 13 4 - 1 - (r : Int))).toNat : Nat) : Int)) = G0 13 4 - 1 - (r : Int) by omega]) (fun r t q1 q2 q3 => latX_rng hR hc hT ⟨by omega, by omega⟩ hk6 r q1 t q2 q3) (G0 13 4).toNat (d + 7 - (G0 13 4).toNat) 0 0 (-9223372036854775808) (am_up G3 54 33 (-1000000)) (fun r G' => r = none ∧ JK 0 (am_up G3 54 33 (-1000000)) G' ∧ FD G' (G0 13 4) (ovX GT G0) (max (-9223372036854775808) (0 + topX GT G0))) hJ (by omega) (by omega) (by omega) (by omega) (Or.inl ⟨up_eq rfl rfl, rfl⟩) (by omega) (fun e q1 q2 => by simp at q2; omega) (fun G' q1 q2 => ⟨rfl, q1, q2⟩)
    rw [show d + 7 - (G0 13 4).toNat + (G0 13 4).toNat + 1 = d + 8 by omega] at h1
    exact h1
  obtain ⟨r, G4, hret, hrn, hJK, hFD⟩ := hjoin.ret
  subst hrn
  have hJ4 := hJ.keep hJK
  have hb := latX_rng hR hc hT (z0 := ((2 ^ (G0 3 4).toNat : Nat) : Int) - 1) (by omega) hk6 (G0 13 4).toNat (by omega) 0 (by omega) (by omega)
  change _ ≤ topX GT G0 ∧ topX GT G0 ≤ _ at hb
  rcases hFD with ⟨w1, w2⟩ | ⟨v1, v2, v3⟩
  · omega
  · obtain ⟨t1, t2, t3⟩ := tup hJ4 (G0 13 4).toNat (by omega) v1
    have hES := toNat_mul (E := G0 13 4) (S := G0 13 5) (by omega) (by omega)
    have hur : ∀ i : Int, 0 ≤ i → i < 0 + (((G0 13 4).toNat * (G0 13 5).toNat : Nat) : Int) → 0 ≤ ut (G0 13 5) rr (G4 78) i ∧ ut (G0 13 5) rr (G4 78) i ≤ 36 := fun i q1 q2 => ut_rng6 hJ4 v1 q1 (by omega)
    have hcr := cdU_rng (u := ut (G0 13 5) rr (G4 78)) ((G0 13 4).toNat * (G0 13 5).toNat) 0 (by omega) (by omega) hur
    have hp0 : f_pl 0 = 69343957 := by decide
    rw [hp0] at hcr
    obtain ⟨hcr0, hcr1, -⟩ := hcr
    have hcr1 := hcr1 (by omega)
    have hD : -topX GT G0 % 2565726409 = cdU (ut (G0 13 5) rr (G4 78)) ((G0 13 4).toNat * (G0 13 5).toNat) 0 := by
      rw [← v3] at t1
      omega
    have hdg : ∀ s : Int, 0 ≤ s → s < G0 13 6 → dg (-topX GT G0 % 2565726409) s = ut (G0 13 5) rr (G4 78) s := fun s q1 q2 => by
      have h1 := cdU_dg (u := ut (G0 13 5) rr (G4 78)) ((G0 13 4).toNat * (G0 13 5).toNat) 0 (by omega) (by omega) hur s q1 (by omega) 0
      rw [Int.zero_mul, Int.zero_add] at h1
      rw [hD]
      exact h1
    have g10 : G4 54 10 = G0 13 4 := hJ4.2.2.2.2.2.2.2.1
    have g11 : G4 54 11 = G0 13 5 := hJ4.2.2.2.2.2.2.2.2.1
    clear t1 t2 t3 hcr0 hcr1
    simp (disch := first | omega | ((simp (disch := omega) only [up_ne, up_eq, up_nj, gf_ne, gf_in, sa_ne, sa_eq]) <;> omega)) only [reduceIte, Bool.false_eq_true, if_pos, if_neg, up_ne, up_eq, up_nj, gf_ne, gf_in, sa_ne, sa_eq, and_self, true_and, and_true, p_92_86, p_92_87, p_92_89, p_92_92, p_92_93, p_92_94, p_92_95]
    rw [p_92_96 (d := d + 8) hret]
    simp (disch := first | omega | ((simp (disch := omega) only [up_ne, up_eq, up_nj, gf_ne, gf_in, sa_ne, sa_eq]) <;> omega)) only [reduceIte, Bool.false_eq_true, if_pos, if_neg, up_ne, up_eq, up_nj, gf_ne, gf_in, sa_ne, sa_eq, and_self, true_and, and_true, p_92_99, p_92_100]
    refine l_sr4 (G1 := G4) (u := ut (G0 13 5) rr (G4 78)) ⟨hp3, hp4⟩ ⟨hp1, hp2⟩ hp5 hp6.symm g10 g11 (fun e i q1 q2 q3 q4 => ?_) (fun G5 k5 c5 o5 => ?_) (G0 13 6).toNat 0 G4 _ (by omega) (by omega) (fun _ _ _ => rfl) (fun s _ _ => by omega) (fun _ _ => ⟨rfl, rfl⟩)
    · obtain ⟨a1, a2, a3, a4, a5, a6⟩ := ut_rng hJ4 v1 ⟨q1, q2⟩ ⟨q3, q4⟩
      exact ⟨a1, a2, a5, a6, a3, a4⟩
    · refine K G5 (fun b b1 b2 b3 b4 => ?_) (fun j hj => ?_) (fun t q1 q2 => ?_) (fun s q1 q2 => ?_) (fun s q1 => ?_)
      · rw [k5 b b2 b3, hJK.1 b b1 (by omega) (by omega), am_up_ne _ _ _ _ _ b1, gi.1 b b2 b3 (by omega) (by omega) (by omega), k2 b (by omega), k1 b (by omega) (by omega)]
      · rw [k5 54 (by decide) (by decide), hJK.2.1 j hj, up_nj hj, gi.1 54 (by decide) (by decide) (by decide) (by decide) (by decide), k2 54 (by decide), k1 54 (by decide) (by decide)]
      · have h7 := hr.2.1 t q1 q2
        rw [k5 72 (by decide) (by decide), hJK.1 72 (by decide) (by decide) (by decide), am_up_ne _ _ _ _ _ (by decide), gi.1 72 (by decide) (by decide) (by decide) (by decide) (by decide), k5 73 (by decide) (by decide), hJK.1 73 (by decide) (by decide) (by decide), am_up_ne _ _ _ _ _ (by decide), gi.1 73 (by decide) (by decide) (by decide) (by decide) (by decide)]
        exact h7
      · rw [hdg s q1 q2]
        obtain ⟨c1', c2', c3', c4', c5'⟩ := slot_split (E := G0 13 4) (S := G0 13 5) (s := s) hp3 q1 (by omega)
        obtain ⟨y1, y2, y3⟩ := v1 (s / G0 13 5) c1' (by omega)
        have h8 := hrr (s / G0 13 5) (G4 78 (s / G0 13 5)) (s % G0 13 5) c1' c2' y1 y2 y3 c3' c4'
        rw [c5'] at h8
        exact ⟨h8, c5 s q1 q2⟩
      · have h9 := o5 s q1
        have h10 := g61 s q1
        rw [hJK.1 61 (by decide) (by decide) (by decide), hJK.1 62 (by decide) (by decide) (by decide), am_up_ne _ _ _ _ _ (by decide), am_up_ne _ _ _ _ _ (by decide), h10.1, h10.2, e61, e62] at h9
        exact h9
