theorem c_go {G0 GT Gs : AG} {cost e near : Int} (hR : Rel G0) (hT : TBL G0 cost GT) (hr : SR G0 Gs near cost) (he : 0 ≤ e ∧ e < G0 13 4) : ∀ (k d : Nat) (p : List Int) (G : AG) (Q : Option AV → AG → Prop), PO G0 p → (p.length : Int) + k = G0 13 5 → GI Gs G → PW (G 61) (G 62) (e * G0 13 5) p →
    (∀ G' : AG, GE Gs G (e * G0 13 5 + p.length) (e * G0 13 5) (G0 13 5) (enM G0 GT cost (((2 ^ (G0 3 4).toNat : Nat) : Int) - 1) e (e * G0 13 5) k p (tri G)) G' → Q none G') →
    Ends (d + k + 3) 89 0 [vR 54, vI e, vI p.length, vI (cmpP p), vI (swP G0 cost (e * G0 13 5) p), vI near, vU, vU, vU, vU, vU] [] G Q := by
  obtain ⟨hm0, hm1, hm2, hm3, hm4, hm5, hm6⟩ := id hR.1
  obtain ⟨ha0, ha1, ha2, ha3, ha4, ha5, ha6⟩ := id hR.2.1
  obtain ⟨hp1, hp2, hp3, hp4, hp5, hp6, hp7, hp8, hp9, hp10⟩ := id hR.2.2.1
  have hs := hR.2.2.1.slots
  have hmu := mul_le6 (S := G0 13 5) he.1 he.2 hp3
  have hc : 0 ≤ cost ∧ cost ≤ 1000 := by have := hr.2.2; omega
  have g11 : Gs 54 11 = G0 13 5 := by rw [hr.1.2 11 (by decide) (by decide), hp8]
  intro k
  induction k with
  | zero =>
    intro d p G Q hp hl hI hW K
    have hpp : ∀ q ∈ p, q = 36 ∨ (0 ≤ q ∧ q < 36) := fun q hq => by have := hp q hq; omega
    have h0 := c_go0 (d := d + 0 + 3) (Q := Q) (Gs := Gs) (near := near) (e := e) hR.xs hc hI (by omega) (by rw [g11]; omega) (by rw [g11]; omega) (by rw [g11]; omega) (by rw [g11]; omega) (by rw [g11]; exact hW) hpp (cmpP_rng (PO.pv hT hp)) (by rw [g11]; exact K)
    rw [g11] at h0
    exact h0
  | succ k ih =>
    intro d p G Q hp hl hI hW K
    have hl' : (p.length : Int) < G0 13 5 := by omega
    have hsm := hI.same hr.1
    have e11 : G 54 11 = G0 13 5 := by rw [hsm.2 11 (by decide) (by decide), hp8]
    have hrec : ∀ (o : Int) (G1 : AG) (Q : Option AV → AG → Prop), 0 ≤ o → o < 36 → o / 6 < G0 3 4 → o % 6 < G0 0 2 → GI Gs G1 → PW (G1 61) (G1 62) (e * G0 13 5) (o :: p) → (∀ G' : AG, GE Gs G1 (e * G0 13 5 + (o :: p).length) (e * G0 13 5) (G0 13 5) (enM G0 GT cost (((2 ^ (G0 3 4).toNat : Nat) : Int) - 1) e (e * G0 13 5) k (o :: p) (tri G1)) G' → Q none G') → Ends (d + k + 3) 89 0 [vR 54, vI e, vI (o :: p).length, vI (cmpP (o :: p)), vI (swP G0 cost (e * G0 13 5) (o :: p)), vI near, vU, vU, vU, vU, vU] [] G1 Q := by
      intro o G1 Q q1 q2 q3 q4 q5 q6 q7
      refine ih d (o :: p) G1 Q (fun x hx => ?_) (by simp; omega) q5 q6 q7
      rcases List.mem_cons.mp hx with rfl | hx
      · exact Or.inr ⟨q1, q2, q3, q4⟩
      · exact hp x hx
    have hmc : G0 13 5 * e = e * G0 13 5 := Int.mul_comm _ _
    show Ends (d + k + 4) 89 0 _ _ _ _
    simp (disch := first | omega | ((simp (disch := omega) only [up_ne, up_eq, up_nj, gf_ne, gf_in, sa_ne, sa_eq]) <;> omega)) only [reduceIte, Bool.false_eq_true, if_pos, if_neg, up_ne, up_eq, up_nj, gf_ne, gf_in, sa_ne, sa_eq, and_self, true_and, and_true, p_89_0, p_89_1, p_89_2, p_89_5, p_89_109, p_89_110, p_89_113, p_89_114, p_89_115, p_89_116, p_89_117, p_89_119, p_89_120, e11, hmc]
    refine l_goA (G := G) (X := loM G0 GT cost (((2 ^ (G0 3 4).toNat : Nat) : Int) - 1) e (e * G0 13 5) k p 36 0 (tri G)) hR hT hr he hp hl' hW hrec ?_ (G0 3 4).toNat 0 G _ _ _ (Or.inl rfl) (by omega) (by omega) hI (fun t _ => ⟨rfl, rfl⟩) rfl
    intro Gc l8 l9 l10 hIc hsc hX
    generalize hG1 : am_up (am_up Gc 61 (e * G0 13 5 + p.length) (-1)) 62 (e * G0 13 5 + p.length) (-1) = G1
    have hI1 : GI Gs G1 := by rw [← hG1]; exact hIc.put (Or.inl ⟨rfl, rfl⟩)
    have w61 : G1 61 (e * G0 13 5 + p.length) = -1 := by rw [← hG1, up_ne (by decide), up_eq rfl rfl]
    have w62 : G1 62 (e * G0 13 5 + p.length) = -1 := by rw [← hG1, up_eq rfl rfl]
    have wk : ∀ t : Int, t ≠ e * G0 13 5 + p.length → G1 61 t = Gc 61 t ∧ G1 62 t = Gc 62 t := by
      intro t ht
      rw [← hG1]
      refine ⟨by rw [up_ne (by decide), up_nj ht], by rw [up_nj ht, up_ne (by decide)]⟩
    have wt : tri G1 = tri Gc := by
      rw [← hG1]
      unfold tri
      rw [am_up_ne _ _ _ _ _ (show 74 ≠ 62 by decide), am_up_ne _ _ _ _ _ (show 74 ≠ 61 by decide), am_up_ne _ _ _ _ _ (show 75 ≠ 62 by decide), am_up_ne _ _ _ _ _ (show 75 ≠ 61 by decide), am_up_ne _ _ _ _ _ (show 76 ≠ 62 by decide), am_up_ne _ _ _ _ _ (show 76 ≠ 61 by decide)]
    have hW1 : PW (G1 61) (G1 62) (e * G0 13 5) (36 :: p) := by
      refine ⟨by rw [w61]; rfl, by rw [w62]; rfl, hW.keep (fun t ht => ?_)⟩
      have h3 := wk t (by omega)
      have h4 := hsc t (Or.inl ht)
      exact ⟨h3.1.trans h4.1, h3.2.trans h4.2⟩
    have hp36 : PO G0 (36 :: p) := by
      intro x hx
      rcases List.mem_cons.mp hx with rfl | hx
      · exact Or.inl rfl
      · exact hp x hx
    obtain ⟨r, G2, hret, hrn, hGE⟩ := (ih d (36 :: p) G1 (fun r G' => r = none ∧ GE Gs G1 (e * G0 13 5 + (36 :: p : List Int).length) (e * G0 13 5) (G0 13 5) (enM G0 GT cost (((2 ^ (G0 3 4).toNat : Nat) : Int) - 1) e (e * G0 13 5) k (36 :: p) (tri G1)) G') hp36 (by simp; omega) hI1 hW1 (fun G' h => ⟨rfl, h⟩)).ret
    subst hrn
    have hlen : ((((36 :: p : List Int).length : Nat)) : Int) = (p.length : Int) + 1 := by simp
    rw [hlen, cmpP, if_pos rfl, swP] at hret
    obtain ⟨k1, k2, k3, k4⟩ := hGE
    rw [hlen] at k3 k4
    have fin : Q none G2 := by
      refine K G2 ⟨k1, ?_, fun t ht => ?_, fun t q1 q2 => ?_⟩
      · rw [k2, wt, hX, enM, chs, lo_rl]
      · have h3 := k3 t (by omega)
        have h4 := wk t (by omega)
        have h5 := hsc t ht
        exact ⟨h3.1.trans (h4.1.trans h5.1), h3.2.trans (h4.2.trans h5.2)⟩
      · by_cases u : t = e * G0 13 5 + p.length
        · have h3 := k3 t (by omega)
          rw [h3.1, h3.2, u]
          exact ⟨w61, w62⟩
        · exact k4 t (by omega) q2
    have hsl : 0 ≤ e * G0 13 5 + p.length ∧ e * G0 13 5 + p.length < 6 := by omega
    have e72 : G1 72 (e * G0 13 5 + p.length) = G0 61 (e * G0 13 5 + p.length) := by rw [hI1.1 72 (by decide) (by decide) (by decide) (by decide) (by decide)]; exact (hr.2.1 _ hsl.1 hsl.2).1
    have hpo := hp10 _ hsl.1 hsl.2
    rcases hr.2.2 with ⟨rfl, rfl⟩ | ⟨rfl, rfl⟩
    · have hv : swP G0 0 (e * G0 13 5) p + wvX G0 0 (e * G0 13 5 + p.length) 36 = swP G0 0 (e * G0 13 5) p - 0 := by
        rw [wvX, if_pos rfl]
        split <;> omega
      rw [hv] at hret
      simp (disch := first | omega | ((simp (disch := omega) only [up_ne, up_eq, up_nj, gf_ne, gf_in, sa_ne, sa_eq]) <;> omega)) only [reduceIte, Bool.false_eq_true, if_pos, if_neg, up_ne, up_eq, up_nj, gf_ne, gf_in, sa_ne, sa_eq, and_self, true_and, and_true, p_89_315, p_89_316, p_89_319, p_89_321, p_89_322, p_89_323, p_89_324, p_89_327, p_89_329, p_89_330, p_89_331, p_89_332, p_89_333, p_89_334, p_89_335, p_89_336, p_89_337, p_89_339, p_89_341, p_89_344, p_89_345, p_89_348, p_89_350, p_89_351, p_89_352, p_89_355, p_89_358, p_89_361, p_89_362, p_89_363, hG1]
      rw [p_89_365 (d := d + k + 3) hret]
      simp (disch := first | omega | ((simp (disch := omega) only [up_ne, up_eq, up_nj, gf_ne, gf_in, sa_ne, sa_eq]) <;> omega)) only [reduceIte, Bool.false_eq_true, if_pos, if_neg, up_ne, up_eq, up_nj, gf_ne, gf_in, sa_ne, sa_eq, and_self, true_and, and_true, p_89_368]
      exact fin
    · by_cases u : G0 61 (e * G0 13 5 + p.length) = -1
      · have hv : swP G0 1000 (e * G0 13 5) p + wvX G0 1000 (e * G0 13 5 + p.length) 36 = swP G0 1000 (e * G0 13 5) p - 0 := by
          rw [wvX, if_pos rfl, if_pos (by omega)]
          omega
        rw [hv] at hret
        simp (disch := first | omega | ((simp (disch := omega) only [up_ne, up_eq, up_nj, gf_ne, gf_in, sa_ne, sa_eq]) <;> omega)) only [reduceIte, Bool.false_eq_true, if_pos, if_neg, up_ne, up_eq, up_nj, gf_ne, gf_in, sa_ne, sa_eq, and_self, true_and, and_true, p_89_315, p_89_316, p_89_319, p_89_321, p_89_322, p_89_323, p_89_324, p_89_327, p_89_329, p_89_330, p_89_331, p_89_332, p_89_333, p_89_334, p_89_335, p_89_336, p_89_337, p_89_339, p_89_341, p_89_344, p_89_345, p_89_348, p_89_350, p_89_351, p_89_352, p_89_355, p_89_358, p_89_361, p_89_362, p_89_363, hG1, e72]
        rw [p_89_365 (d := d + k + 3) hret]
        simp (disch := first | omega | ((simp (disch := omega) only [up_ne, up_eq, up_nj, gf_ne, gf_in, sa_ne, sa_eq]) <;> omega)) only [reduceIte, Bool.false_eq_true, if_pos, if_neg, up_ne, up_eq, up_nj, gf_ne, gf_in, sa_ne, sa_eq, and_self, true_and, and_true, p_89_368]
        exact fin
      · have hv : swP G0 1000 (e * G0 13 5) p + wvX G0 1000 (e * G0 13 5 + p.length) 36 = swP G0 1000 (e * G0 13 5) p - 1000 := by
          rw [wvX, if_pos rfl, if_neg (by omega)]
          omega
        rw [hv] at hret
        simp (disch := first | omega | ((simp (disch := omega) only [up_ne, up_eq, up_nj, gf_ne, gf_in, sa_ne, sa_eq]) <;> omega)) only [reduceIte, Bool.false_eq_true, if_pos, if_neg, up_ne, up_eq, up_nj, gf_ne, gf_in, sa_ne, sa_eq, and_self, true_and, and_true, p_89_315, p_89_316, p_89_319, p_89_321, p_89_322, p_89_323, p_89_324, p_89_327, p_89_329, p_89_330, p_89_331, p_89_332, p_89_333, p_89_334, p_89_335, p_89_336, p_89_337, p_89_339, p_89_341, p_89_344, p_89_345, p_89_348, p_89_350, p_89_351, p_89_352, p_89_355, p_89_358, p_89_361, p_89_362, p_89_363, hG1, e72]
        rw [p_89_365 (d := d + k + 3) hret]
        simp (disch := first | omega | ((simp (disch := omega) only [up_ne, up_eq, up_nj, gf_ne, gf_in, sa_ne, sa_eq]) <;> omega)) only [reduceIte, Bool.false_eq_true, if_pos, if_neg, up_ne, up_eq, up_nj, gf_ne, gf_in, sa_ne, sa_eq, and_self, true_and, and_true, p_89_368]
        exact fin
