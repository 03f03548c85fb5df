/-- the start of a search, beside the state G0 that both had -/
def SR (G0 Gs : AG) (near cost : Int) : Prop := MSame G0 Gs ∧ (∀ t : Int, 0 ≤ t → t < 6 → Gs 72 t = G0 61 t ∧ Gs 73 t = G0 62 t) ∧ ((near = 0 ∧ cost = 0) ∨ (near = 1 ∧ cost = 1000))
theorem GI.same {G0 Gs G : AG} (hS : MSame G0 Gs) (h : GI Gs G) : MSame G0 G := ⟨fun b q1 q2 => by rw [h.1 b (by omega) (by omega) (by omega) (by omega) (by omega), hS.1 b q1 q2], fun j q1 q2 => by rw [h.1 54 (by decide) (by decide) (by decide) (by decide) (by decide), hS.2 j q1 q2]⟩
theorem MSame.ms {G0 G : AG} (hR : Rel G0) (h : MSame G0 G) : MS G := by
  have hm := hR.ms
  unfold MS at hm ⊢
  rw [h.2 11 (by decide) (by decide), h.2 8 (by decide) (by decide), h.1 57 (by omega) (by omega), h.1 58 (by omega) (by omega), h.1 56 (by omega) (by omega), h.1 59 (by omega) (by omega), h.1 60 (by omega) (by omega)]
  exact hm
theorem GI.put {Gs G : AG} (h : GI Gs G) {s a m : Int} (ha : (a = -1 ∧ m = -1) ∨ (0 ≤ a ∧ a < 6 ∧ 0 ≤ m ∧ m < 6)) : GI Gs (am_up (am_up G 61 s a) 62 s m) := by
  refine ⟨fun b q1 q2 q3 q4 q5 => by rw [am_up_ne _ _ _ _ _ q2, am_up_ne _ _ _ _ _ q1, h.1 b q1 q2 q3 q4 q5], fun i q1 q2 => ?_, fun i q1 q2 => ?_⟩
  · by_cases e : i = s
    · rw [up_ne (by decide), up_eq rfl e, up_eq rfl e]
      exact ha
    · rw [up_ne (by decide), up_nj e, up_nj e, up_ne (by decide)]
      exact h.2.1 i q1 q2
  · rw [up_ne (by decide), up_ne (by decide)]
    exact h.2.2 i q1 q2
theorem l_goM {G0 GT Gs G : AG} {cost e near a : Int} {k d : Nat} {p : List Int} {X : T3} {Q : Option AV → AG → Prop} (hR : Rel G0) (hT : TBL G0 cost GT) (hr : SR G0 Gs near cost) (he : 0 ≤ e ∧ e < G0 13 4) (hp : PO G0 p) (hl : (p.length : Int) < G0 13 5) (hW : PW (G 61) (G 62) (e * G0 13 5) p) (ha : 0 ≤ a ∧ a < G0 3 4) (hb : tb (cmpP p) a = false)
    (hrec : ∀ (o : Int) (G1 : AG) (Q : Option AV → AG → Prop), 0 ≤ o → o < 36 → o / 6 < G0 3 4 → o % 6 < G0 0 2 → GI Gs G1 → PW (G1 61) (G1 62) (e * G0 13 5) (o :: p) → (∀ G' : AG, GE Gs G1 (e * G0 13 5 + (o :: p).length) (e * G0 13 5) (G0 13 5) (enM G0 GT cost (((2 ^ (G0 3 4).toNat : Nat) : Int) - 1) e (e * G0 13 5) k (o :: p) (tri G1)) G' → Q none G') → Ends (d + 3) 89 0 [vR 54, vI e, vI (o :: p).length, vI (cmpP (o :: p)), vI (swP G0 cost (e * G0 13 5) (o :: p)), vI near, vU, vU, vU, vU, vU] [] G1 Q) :
    ∀ (n : Nat) (m : Int) (Gc : AG) (l9 l10 : AV), (l9 = vU ∨ ∃ z, l9 = vI z) → 0 ≤ m → m + n = G0 0 2 → GI Gs Gc → (∀ t : Int, t < e * G0 13 5 + p.length ∨ e * G0 13 5 + G0 13 5 ≤ t → Gc 61 t = G 61 t ∧ Gc 62 t = G 62 t) → loM G0 GT cost (((2 ^ (G0 3 4).toNat : Nat) : Int) - 1) e (e * G0 13 5) k p (36 - 6 * a - m).toNat (6 * a + m) (tri Gc) = X →
      (∀ (Gc' : AG) (l9' l10' : AV), (l9' = vU ∨ ∃ z, l9' = vI z) → GI Gs Gc' → (∀ t : Int, t < e * G0 13 5 + p.length ∨ e * G0 13 5 + G0 13 5 ≤ t → Gc' 61 t = G 61 t ∧ Gc' 62 t = G 62 t) → loM G0 GT cost (((2 ^ (G0 3 4).toNat : Nat) : Int) - 1) e (e * G0 13 5) k p (30 - 6 * a).toNat (6 * a + 6) (tri Gc') = X → Ends (d + 4) 89 309 [vR 54, vI e, vI p.length, vI (cmpP p), vI (swP G0 cost (e * G0 13 5) p), vI near, vI (e * G0 13 5 + p.length), vI a, vI (G0 0 2), l9', l10'] [] Gc' Q) →
      Ends (d + 4) 89 147 [vR 54, vI e, vI p.length, vI (cmpP p), vI (swP G0 cost (e * G0 13 5) p), vI near, vI (e * G0 13 5 + p.length), vI a, vI m, l9, l10] [] Gc Q := by
  obtain ⟨hm0, hm1, hm2, hm3, hm4, hm5, hm6⟩ := id hR.1
  obtain ⟨ha0, ha1, ha2, ha3, ha4, ha5, ha6⟩ := id hR.2.1
  obtain ⟨hp1, hp2, hp3, hp4, hp5, hp6, hp7, hp8, hp9, hp10⟩ := id hR.2.2.1
  have hs := hR.2.2.1.slots
  have hmu := mul_le6 (S := G0 13 5) he.1 he.2 hp3
  have hcm := cmpP_rng (PO.pv hT hp)
  intro n
  induction n with
  | zero =>
    intro m Gc l9 l10 o9 h0 h1 hI hsame hX K
    have em : m = G0 0 2 := by omega
    subst em
    have e2 : Gc 54 2 = G0 0 2 := by rw [(hI.same hr.1).2 2 (by decide) (by decide), hm2]
    simp (disch := first | omega | ((simp (disch := omega) only [up_ne, up_eq, up_nj, gf_ne, gf_in, sa_ne, sa_eq]) <;> omega)) only [reduceIte, Bool.false_eq_true, if_pos, if_neg, up_ne, up_eq, up_nj, gf_ne, gf_in, sa_ne, sa_eq, and_self, true_and, and_true, p_89_147, p_89_149, p_89_150, p_89_153, e2]
    refine K Gc l9 l10 o9 hI hsame ?_
    have hk := lo_skip (G0 := G0) (GT := GT) (cost := cost) (z0 := ((2 ^ (G0 3 4).toNat : Nat) : Int) - 1) (e := e) (fs := e * G0 13 5) (k := k) (p := p) (x := tri Gc) (6 - G0 0 2).toNat (30 - 6 * a).toNat (6 * a + G0 0 2) (fun q q1 q2 => by rw [ok1_no hR (by omega) (by omega) (Or.inr (by omega))]; rfl)
    rw [show (6 - G0 0 2).toNat + (30 - 6 * a).toNat = (36 - 6 * a - G0 0 2).toNat by omega, show 6 * a + G0 0 2 + ((6 - G0 0 2).toNat : Int) = 6 * a + 6 by omega] at hk
    rw [← hk]
    exact hX
  | succ n ih =>
    intro m Gc l9 l10 o9 h0 h1 hI hsame hX K
    have hsm := hI.same hr.1
    have e2 : Gc 54 2 = G0 0 2 := by rw [hsm.2 2 (by decide) (by decide), hm2]
    generalize hG1 : am_up (am_up Gc 61 (e * G0 13 5 + p.length) a) 62 (e * G0 13 5 + p.length) m = G1
    have hI1 : GI Gs G1 := by rw [← hG1]; exact hI.put (Or.inr ⟨ha.1, by omega, h0, by omega⟩)
    have hsm1 := hI1.same hr.1
    have w61 : G1 61 (e * G0 13 5 + p.length) = a := by rw [← hG1, up_ne (by decide), up_eq rfl rfl]
    have w62 : G1 62 (e * G0 13 5 + p.length) = m := by rw [← hG1, up_eq rfl rfl]
    have wk : ∀ t : Int, t ≠ e * G0 13 5 + p.length → G1 61 t = Gc 61 t ∧ G1 62 t = Gc 62 t := by
      intro t ht
      rw [← hG1]
      refine ⟨by rw [up_ne (by decide), up_nj ht], by rw [up_nj ht, up_ne (by decide)]⟩
    have wt : tri G1 = tri Gc := by
      rw [← hG1]
      unfold tri
      rw [am_up_ne _ _ _ _ _ (show 74 ≠ 62 by decide), am_up_ne _ _ _ _ _ (show 74 ≠ 61 by decide), am_up_ne _ _ _ _ _ (show 75 ≠ 62 by decide), am_up_ne _ _ _ _ _ (show 75 ≠ 61 by decide), am_up_ne _ _ _ _ _ (show 76 ≠ 62 by decide), am_up_ne _ _ _ _ _ (show 76 ≠ 61 by decide)]
    have hW1 : PW (G1 61) (G1 62) (e * G0 13 5) p := hW.keep (fun t ht => by
      have h3 := wk t (by omega)
      have h4 := hsame t (Or.inl ht)
      exact ⟨h3.1.trans h4.1, h3.2.trans h4.2⟩)
    have hg := guard hR hT hsm1 hp he.1 hl ha ⟨h0, by omega⟩ hW1 w61 w62
    rw [hb, Bool.not_false, Bool.true_and] at hg
    have hX' : loM G0 GT cost (((2 ^ (G0 3 4).toNat : Nat) : Int) - 1) e (e * G0 13 5) k p (36 - 6 * a - (m + 1)).toNat (6 * a + (m + 1)) (fMo G0 GT cost (((2 ^ (G0 3 4).toNat : Nat) : Int) - 1) e (e * G0 13 5) k p (tri Gc) (6 * a + m)) = X := by
      rw [← hX, show (36 - 6 * a - m).toNat = (36 - 6 * a - (m + 1)).toNat + 1 by omega, loM, show 6 * a + m + 1 = 6 * a + (m + 1) by omega]
    have s1 : ∀ t : Int, t < e * G0 13 5 + p.length ∨ e * G0 13 5 + G0 13 5 ≤ t → G1 61 t = G 61 t ∧ G1 62 t = G 62 t := by
      intro t ht
      have h3 := wk t (by omega)
      have h4 := hsame t ht
      exact ⟨h3.1.trans h4.1, h3.2.trans h4.2⟩
    have run : (∀ r' : Int, Ends (d + 4) 89 222 [vR 54, vI e, vI p.length, vI (cmpP p), vI (swP G0 cost (e * G0 13 5) p), vI near, vI (e * G0 13 5 + p.length), vI a, vI m, vI (if good G1 (e * G0 13 5 + p.length) = true then 1 else 0), vI r'] [] G1 Q) → Ends (d + 4) 89 147 [vR 54, vI e, vI p.length, vI (cmpP p), vI (swP G0 cost (e * G0 13 5) p), vI near, vI (e * G0 13 5 + p.length), vI a, vI m, l9, l10] [] Gc Q := by
      intro hh
      rcases o9 with rfl | ⟨z9, rfl⟩
      all_goals
        simp (disch := first | omega | ((simp (disch := omega) only [up_ne, up_eq, up_nj, gf_ne, gf_in, sa_ne, sa_eq]) <;> omega)) only [reduceIte, Bool.false_eq_true, if_pos, if_neg, up_ne, up_eq, up_nj, gf_ne, gf_in, sa_ne, sa_eq, and_self, true_and, and_true, p_89_147, p_89_149, p_89_150, p_89_153, p_89_156, p_89_157, p_89_160, p_89_162, p_89_164, p_89_165, p_89_166, p_89_169, p_89_171, p_89_173, p_89_174, p_89_175, p_89_177, p_89_178, e2, hG1]
        refine l_reas (d := d + 1) hI1.2.1 (hsm1.ms hR) ⟨by omega, by omega⟩ (by rw [w61]; omega) 8 0 (by omega) (by omega) ?_
        rw [gfr_good]
        exact hh
    refine run (fun r' => ?_)
    by_cases hgd : good G1 (e * G0 13 5 + p.length) = true
    · have e6 : (6 * a + m) / 6 = a := by omega
      have e6' : (6 * a + m) % 6 = m := by omega
      have hP : PW (G1 61) (G1 62) (e * G0 13 5) ((6 * a + m) :: p) := by
        refine ⟨?_, ?_, hW1⟩
        · rw [w61, aO_n (by omega), e6]
        · rw [w62, mO_n (by omega), e6']
      obtain ⟨r, G2, hret, hrn, hGE⟩ := (hrec (6 * a + m) G1 (fun r G' => r = none ∧ GE Gs G1 (e * G0 13 5 + ((6 * a + m) :: p).length) (e * G0 13 5) (G0 13 5) (enM G0 GT cost (((2 ^ (G0 3 4).toNat : Nat) : Int) - 1) e (e * G0 13 5) k ((6 * a + m) :: p) (tri G1)) G') (by omega) (by omega) (by omega) (by omega) hI1 hP (fun G' h => ⟨rfl, h⟩)).ret
      subst hrn
      have hlen : (((((6 * a + m) :: p : List Int).length : Nat)) : Int) = (p.length : Int) + 1 := by simp
      have hset : f_or (cmpP p) (f_shl 1 a) = wb (cmpP p) a true := fi_setBit hcm.1 (by omega) ha.1 (by omega)
      rw [hlen, cmpP, if_neg (by omega), e6, swP, ← hset] at hret
      obtain ⟨k1, k2, k3, k4⟩ := hGE
      rw [hlen] at k3 k4
      have done : Ends (d + 4) 89 147 [vR 54, vI e, vI p.length, vI (cmpP p), vI (swP G0 cost (e * G0 13 5) p), vI near, vI (e * G0 13 5 + p.length), vI a, vI (m + 1), vI 1, vI (wvX G0 cost (e * G0 13 5 + p.length) (6 * a + m))] [] G2 Q := by
        refine ih (m + 1) G2 _ _ (Or.inr ⟨_, rfl⟩) (by omega) (by omega) k1 (fun t ht => ?_) ?_ K
        · have h3 := k3 t (by omega)
          have h4 := s1 t ht
          exact ⟨h3.1.trans h4.1, h3.2.trans h4.2⟩
        · rw [k2, wt]
          rw [fMo, if_pos (by rw [hg]; exact hgd)] at hX'
          exact hX'
      have e59 : G1 59 (6 * a + m) = lkX G0 (6 * a + m) := by
        rw [hsm1.1 59 (by omega) (by omega), lkX, e6, e6']
        exact (ha6 a m ha.1 (by omega) h0 (by omega)).1
      have hsl : 0 ≤ e * G0 13 5 + p.length ∧ e * G0 13 5 + p.length < 6 := by omega
      have e72 : G1 72 (e * G0 13 5 + p.length) = G0 61 (e * G0 13 5 + p.length) := by rw [hI1.1 72 (by decide) (by decide) (by decide) (by decide) (by decide)]; exact (hr.2.1 _ hsl.1 hsl.2).1
      have e73 : G1 73 (e * G0 13 5 + p.length) = G0 62 (e * G0 13 5 + p.length) := by rw [hI1.1 73 (by decide) (by decide) (by decide) (by decide) (by decide)]; exact (hr.2.1 _ hsl.1 hsl.2).2
      have hpo := hp10 _ hsl.1 hsl.2
      have n36 : ¬ (6 * a + m = 36) := by omega
      rcases hr.2.2 with ⟨rfl, rfl⟩ | ⟨rfl, rfl⟩
      · have hv : wvX G0 0 (e * G0 13 5 + p.length) (6 * a + m) = lkX G0 (6 * a + m) - 0 := by
          rw [wvX, if_neg n36]
          split <;> omega
        rw [hv] at hret done
        simp (disch := first | omega | ((simp (disch := omega) only [up_ne, up_eq, up_nj, gf_ne, gf_in, sa_ne, sa_eq]) <;> omega)) only [reduceIte, Bool.false_eq_true, if_pos, if_neg, up_ne, up_eq, up_nj, gf_ne, gf_in, sa_ne, sa_eq, and_self, true_and, and_true, p_89_222, p_89_224, p_89_227, p_89_230, p_89_231, p_89_234, p_89_236, p_89_238, p_89_239, p_89_241, p_89_242, p_89_243, p_89_245, p_89_248, p_89_249, p_89_252, p_89_254, p_89_255, p_89_257, p_89_260, p_89_261, p_89_264, p_89_266, p_89_267, p_89_269, p_89_272, p_89_275, p_89_278, p_89_279, p_89_280, p_89_282, p_89_283, p_89_284, p_89_285, p_89_286, p_89_287, p_89_288, p_89_289, p_89_291, p_89_292, p_89_293, p_89_295, p_89_297, p_89_298, hgd, e59]
        rw [p_89_300 (d := d + 3) hret]
        simp (disch := first | omega | ((simp (disch := omega) only [up_ne, up_eq, up_nj, gf_ne, gf_in, sa_ne, sa_eq]) <;> omega)) only [reduceIte, Bool.false_eq_true, if_pos, if_neg, up_ne, up_eq, up_nj, gf_ne, gf_in, sa_ne, sa_eq, and_self, true_and, and_true, p_89_303]
        rw [p_89_306]
        exact done
      · by_cases u : G0 61 (e * G0 13 5 + p.length) = a
        · by_cases v : G0 62 (e * G0 13 5 + p.length) = m
          · have hv : wvX G0 1000 (e * G0 13 5 + p.length) (6 * a + m) = lkX G0 (6 * a + m) - 0 := by
              rw [wvX, if_neg n36, if_pos (by omega)]
            rw [hv] at hret done
            simp (disch := first | omega | ((simp (disch := omega) only [up_ne, up_eq, up_nj, gf_ne, gf_in, sa_ne, sa_eq]) <;> omega)) only [reduceIte, Bool.false_eq_true, if_pos, if_neg, up_ne, up_eq, up_nj, gf_ne, gf_in, sa_ne, sa_eq, and_self, true_and, and_true, p_89_222, p_89_224, p_89_227, p_89_230, p_89_231, p_89_234, p_89_236, p_89_238, p_89_239, p_89_241, p_89_242, p_89_243, p_89_245, p_89_248, p_89_249, p_89_252, p_89_254, p_89_255, p_89_257, p_89_260, p_89_261, p_89_264, p_89_266, p_89_267, p_89_269, p_89_272, p_89_275, p_89_278, p_89_279, p_89_280, p_89_282, p_89_283, p_89_284, p_89_285, p_89_286, p_89_287, p_89_288, p_89_289, p_89_291, p_89_292, p_89_293, p_89_295, p_89_297, p_89_298, hgd, e59, e72, e73]
            rw [p_89_300 (d := d + 3) hret]
            simp (disch := first | omega | ((simp (disch := omega) only [up_ne, up_eq, up_nj, gf_ne, gf_in, sa_ne, sa_eq]) <;> omega)) only [reduceIte, Bool.false_eq_true, if_pos, if_neg, up_ne, up_eq, up_nj, gf_ne, gf_in, sa_ne, sa_eq, and_self, true_and, and_true, p_89_303]
            rw [p_89_306]
            exact done
          · have hv : wvX G0 1000 (e * G0 13 5 + p.length) (6 * a + m) = lkX G0 (6 * a + m) - 1000 := by
              rw [wvX, if_neg n36, if_neg (by omega)]
            rw [hv] at hret done
            simp (disch := first | omega | ((simp (disch := omega) only [up_ne, up_eq, up_nj, gf_ne, gf_in, sa_ne, sa_eq]) <;> omega)) only [reduceIte, Bool.false_eq_true, if_pos, if_neg, up_ne, up_eq, up_nj, gf_ne, gf_in, sa_ne, sa_eq, and_self, true_and, and_true, p_89_222, p_89_224, p_89_227, p_89_230, p_89_231, p_89_234, p_89_236, p_89_238, p_89_239, p_89_241, p_89_242, p_89_243, p_89_245, p_89_248, p_89_249, p_89_252, p_89_254, p_89_255, p_89_257, p_89_260, p_89_261, p_89_264, p_89_266, p_89_267, p_89_269, p_89_272, p_89_275, p_89_278, p_89_279, p_89_280, p_89_282, p_89_283, p_89_284, p_89_285, p_89_286, p_89_287, p_89_288, p_89_289, p_89_291, p_89_292, p_89_293, p_89_295, p_89_297, p_89_298, hgd, e59, e72, e73]
            rw [p_89_300 (d := d + 3) hret]
            simp (disch := first | omega | ((simp (disch := omega) only [up_ne, up_eq, up_nj, gf_ne, gf_in, sa_ne, sa_eq]) <;> omega)) only [reduceIte, Bool.false_eq_true, if_pos, if_neg, up_ne, up_eq, up_nj, gf_ne, gf_in, sa_ne, sa_eq, and_self, true_and, and_true, p_89_303]
            rw [p_89_306]
            exact done
        · have hv : wvX G0 1000 (e * G0 13 5 + p.length) (6 * a + m) = lkX G0 (6 * a + m) - 1000 := by
            rw [wvX, if_neg n36, if_neg (by omega)]
          rw [hv] at hret done
          simp (disch := first | omega | ((simp (disch := omega) only [up_ne, up_eq, up_nj, gf_ne, gf_in, sa_ne, sa_eq]) <;> omega)) only [reduceIte, Bool.false_eq_true, if_pos, if_neg, up_ne, up_eq, up_nj, gf_ne, gf_in, sa_ne, sa_eq, and_self, true_and, and_true, p_89_222, p_89_224, p_89_227, p_89_230, p_89_231, p_89_234, p_89_236, p_89_238, p_89_239, p_89_241, p_89_242, p_89_243, p_89_245, p_89_248, p_89_249, p_89_252, p_89_254, p_89_255, p_89_257, p_89_260, p_89_261, p_89_264, p_89_266, p_89_267, p_89_269, p_89_272, p_89_275, p_89_278, p_89_279, p_89_280, p_89_282, p_89_283, p_89_284, p_89_285, p_89_286, p_89_287, p_89_288, p_89_289, p_89_291, p_89_292, p_89_293, p_89_295, p_89_297, p_89_298, hgd, e59, e72, e73]
          rw [p_89_300 (d := d + 3) hret]
          simp (disch := first | omega | ((simp (disch := omega) only [up_ne, up_eq, up_nj, gf_ne, gf_in, sa_ne, sa_eq]) <;> omega)) only [reduceIte, Bool.false_eq_true, if_pos, if_neg, up_ne, up_eq, up_nj, gf_ne, gf_in, sa_ne, sa_eq, and_self, true_and, and_true, p_89_303]
          rw [p_89_306]
          exact done
    · simp (disch := first | omega | ((simp (disch := omega) only [up_ne, up_eq, up_nj, gf_ne, gf_in, sa_ne, sa_eq]) <;> omega)) only [reduceIte, Bool.false_eq_true, if_pos, if_neg, up_ne, up_eq, up_nj, gf_ne, gf_in, sa_ne, sa_eq, and_self, true_and, and_true, p_89_222, p_89_224, p_89_227, hgd]
      simp (disch := first | omega | ((simp (disch := omega) only [up_ne, up_eq, up_nj, gf_ne, gf_in, sa_ne, sa_eq]) <;> omega)) only [reduceIte, Bool.false_eq_true, if_pos, if_neg, up_ne, up_eq, up_nj, gf_ne, gf_in, sa_ne, sa_eq, and_self, true_and, and_true, p_89_303]
      rw [p_89_306]
      refine ih (m + 1) G1 _ _ (Or.inr ⟨_, rfl⟩) (by omega) (by omega) hI1 s1 ?_ K
      rw [wt]
      rw [fMo, if_neg (by rw [hg]; exact hgd)] at hX'
      exact hX'
