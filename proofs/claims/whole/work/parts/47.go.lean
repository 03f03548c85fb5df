theorem may_no {G0 GT : AG} {cost z0 a : Int} (hT : TBL G0 cost GT) (hz : 0 ≤ z0 ∧ z0 < 64) (ha : 0 ≤ a ∧ a < 6) {p : List Int} (hp : PO G0 p) (h : tb (cmpP p) a = true) : tb (mayP GT z0 p) a = false := by
  have hv := PO.pv hT hp
  rw [tb_cmp ha.1 hv] at h
  obtain ⟨q, hq, h2⟩ := List.any_eq_true.mp h
  rw [Bool.and_eq_true, decide_eq_true_iff, decide_eq_true_iff] at h2
  rw [tb_may hz hv]
  have hf : p.all (fun q => decide (q = 36) || tb (GT 29 (q / 6)) a) = false := by
    rw [List.all_eq_false]
    refine ⟨q, hq, ?_⟩
    rcases hp q hq with e | ⟨h3, h4, h5, h6⟩
    · exact absurd e h2.1
    · rw [(hT.2.2.2.1 (q / 6) (by omega) h5).2.2 a ha.1 ha.2]
      simp [h2.1, fow, h2.2]
  rw [hf, Bool.and_false]
theorem l_goA {G0 GT Gs G : AG} {cost e near : Int} {k d : Nat} {p : List Int} {X : T3} {Q : Option AV → AG → Prop} (hR : Rel G0) (hT : TBL G0 cost GT) (hr : SR G0 Gs near cost) (he : 0 ≤ e ∧ e < G0 13 4) (hp : PO G0 p) (hl : (p.length : Int) < G0 13 5) (hW : PW (G 61) (G 62) (e * G0 13 5) p)
    (hrec : ∀ (o : Int) (G1 : AG) (Q : Option AV → AG → Prop), 0 ≤ o → o < 36 → o / 6 < G0 3 4 → o % 6 < G0 0 2 → GI Gs G1 → PW (G1 61) (G1 62) (e * G0 13 5) (o :: p) → (∀ G' : AG, GE Gs G1 (e * G0 13 5 + (o :: p).length) (e * G0 13 5) (G0 13 5) (enM G0 GT cost (((2 ^ (G0 3 4).toNat : Nat) : Int) - 1) e (e * G0 13 5) k (o :: p) (tri G1)) G' → Q none G') → Ends (d + 3) 89 0 [vR 54, vI e, vI (o :: p).length, vI (cmpP (o :: p)), vI (swP G0 cost (e * G0 13 5) (o :: p)), vI near, vU, vU, vU, vU, vU] [] G1 Q)
    (K : ∀ (Gc' : AG) (l8' l9' l10' : AV), GI Gs Gc' → (∀ t : Int, t < e * G0 13 5 + p.length ∨ e * G0 13 5 + G0 13 5 ≤ t → Gc' 61 t = G 61 t ∧ Gc' 62 t = G 62 t) → tri Gc' = X → Ends (d + 4) 89 315 [vR 54, vI e, vI p.length, vI (cmpP p), vI (swP G0 cost (e * G0 13 5) p), vI near, vI (e * G0 13 5 + p.length), vI (G0 3 4), l8', l9', l10'] [] Gc' Q) :
    ∀ (n : Nat) (a : Int) (Gc : AG) (l8 l9 l10 : AV), (l9 = vU ∨ ∃ z, l9 = vI z) → 0 ≤ a → a + n = G0 3 4 → GI Gs Gc → (∀ t : Int, t < e * G0 13 5 + p.length ∨ e * G0 13 5 + G0 13 5 ≤ t → Gc 61 t = G 61 t ∧ Gc 62 t = G 62 t) → loM G0 GT cost (((2 ^ (G0 3 4).toNat : Nat) : Int) - 1) e (e * G0 13 5) k p (36 - 6 * a).toNat (6 * a) (tri Gc) = X →
      Ends (d + 4) 89 122 [vR 54, vI e, vI p.length, vI (cmpP p), vI (swP G0 cost (e * G0 13 5) p), vI near, vI (e * G0 13 5 + p.length), vI a, l8, l9, l10] [] Gc Q := by
  obtain ⟨hm0, hm1, hm2, hm3, hm4, hm5, hm6⟩ := id hR.1
  obtain ⟨ha0, ha1, ha2, ha3, ha4, ha5, ha6⟩ := id hR.2.1
  have hcm := cmpP_rng (PO.pv hT hp)
  have hq : 0 < 2 ^ (G0 3 4).toNat := Nat.pos_of_ne_zero (by simp)
  have hq6 : 2 ^ (G0 3 4).toNat ≤ 2 ^ 6 := Nat.pow_le_pow_right (by decide) (by omega)
  intro n
  induction n with
  | zero =>
    intro a Gc l8 l9 l10 o9 h0 h1 hI hsame hX
    have ea : a = G0 3 4 := by omega
    subst ea
    have e7 : Gc 54 7 = G0 3 4 := by rw [(hI.same hr.1).2 7 (by decide) (by decide), ha2]
    simp (disch := first | omega | ((simp (disch := omega) only [up_ne, up_eq, up_nj, gf_ne, gf_in, sa_ne, sa_eq]) <;> omega)) only [reduceIte, Bool.false_eq_true, if_pos, if_neg, up_ne, up_eq, up_nj, gf_ne, gf_in, sa_ne, sa_eq, and_self, true_and, and_true, p_89_122, p_89_124, p_89_125, p_89_128, e7]
    refine K Gc l8 l9 l10 hI hsame ?_
    have hk := lo_skip (G0 := G0) (GT := GT) (cost := cost) (z0 := ((2 ^ (G0 3 4).toNat : Nat) : Int) - 1) (e := e) (fs := e * G0 13 5) (k := k) (p := p) (x := tri Gc) (36 - 6 * G0 3 4).toNat 0 (6 * G0 3 4) (fun q q1 q2 => by rw [ok1_no hR (by omega) (by omega) (Or.inl (by omega))]; rfl)
    rw [Nat.add_zero, hX] at hk
    exact hk.symm
  | succ n ih =>
    intro a Gc l8 l9 l10 o9 h0 h1 hI hsame hX
    have e7 : Gc 54 7 = G0 3 4 := by rw [(hI.same hr.1).2 7 (by decide) (by decide), ha2]
    have hbit := fi_hasBit (s := cmpP p) (i := a) hcm.1 (by omega) h0 (by omega)
    by_cases b : tb (cmpP p) a = true
    · have hk := lo_skip (G0 := G0) (GT := GT) (cost := cost) (z0 := ((2 ^ (G0 3 4).toNat : Nat) : Int) - 1) (e := e) (fs := e * G0 13 5) (k := k) (p := p) (x := tri Gc) 6 (30 - 6 * a).toNat (6 * a) (fun q q1 q2 => by
        have e6 : q / 6 = a := by omega
        have := may_no (z0 := ((2 ^ (G0 3 4).toNat : Nat) : Int) - 1) hT (by omega) ⟨h0, by omega⟩ hp b
        rw [okX, e6, this, Bool.false_and, Bool.and_false])
      rw [show 6 + (30 - 6 * a).toNat = (36 - 6 * a).toNat by omega, show 6 * a + ((6 : Nat) : Int) = 6 * (a + 1) by omega, hX, show (30 - 6 * a).toNat = (36 - 6 * (a + 1)).toNat by omega] at hk
      simp (disch := first | omega | ((simp (disch := omega) only [up_ne, up_eq, up_nj, gf_ne, gf_in, sa_ne, sa_eq]) <;> omega)) only [reduceIte, Bool.false_eq_true, if_pos, if_neg, up_ne, up_eq, up_nj, gf_ne, gf_in, sa_ne, sa_eq, and_self, true_and, and_true, p_89_122, p_89_124, p_89_125, p_89_128, p_89_131, p_89_132, p_89_134, p_89_135, p_89_136, p_89_137, p_89_138, p_89_141, e7, hbit, b]
      simp (disch := first | omega | ((simp (disch := omega) only [up_ne, up_eq, up_nj, gf_ne, gf_in, sa_ne, sa_eq]) <;> omega)) only [reduceIte, Bool.false_eq_true, if_pos, if_neg, up_ne, up_eq, up_nj, gf_ne, gf_in, sa_ne, sa_eq, and_self, true_and, and_true, p_89_309]
      rw [p_89_312]
      exact ih (a + 1) Gc _ _ _ o9 (by omega) (by omega) hI hsame hk.symm
    · have b' : tb (cmpP p) a = false := by simpa using b
      simp (disch := first | omega | ((simp (disch := omega) only [up_ne, up_eq, up_nj, gf_ne, gf_in, sa_ne, sa_eq]) <;> omega)) only [reduceIte, Bool.false_eq_true, if_pos, if_neg, up_ne, up_eq, up_nj, gf_ne, gf_in, sa_ne, sa_eq, and_self, true_and, and_true, p_89_122, p_89_124, p_89_125, p_89_128, p_89_131, p_89_132, p_89_134, p_89_135, p_89_136, p_89_137, p_89_138, p_89_141, p_89_144, p_89_145, e7, hbit, b]
      refine l_goM (X := X) hR hT hr he hp hl hW ⟨h0, by omega⟩ b' hrec (G0 0 2).toNat 0 Gc _ _ o9 (by omega) (by omega) hI hsame (by rw [← hX, show 36 - 6 * a - 0 = 36 - 6 * a by omega, Int.add_zero]) ?_
      intro Gc' l9' l10' o9' hI' hsame' hX'
      simp (disch := first | omega | ((simp (disch := omega) only [up_ne, up_eq, up_nj, gf_ne, gf_in, sa_ne, sa_eq]) <;> omega)) only [reduceIte, Bool.false_eq_true, if_pos, if_neg, up_ne, up_eq, up_nj, gf_ne, gf_in, sa_ne, sa_eq, and_self, true_and, and_true, p_89_309]
      rw [p_89_312]
      refine ih (a + 1) Gc' _ _ _ o9' (by omega) (by omega) hI' hsame' ?_
      rw [← hX', show (30 - 6 * a).toNat = (36 - 6 * (a + 1)).toNat by omega, show 6 * a + 6 = 6 * (a + 1) by omega]
