/-! search -/
theorem l_sr1 {d : Nat} {Q : Option AV → AG → Prop} {near : Int} {G1 : AG}
    (K : ∀ (G' : AG), (∀ b : Nat, b ≠ 72 → b ≠ 73 → G' b = G1 b) → (∀ j : Int, 0 ≤ j → j < 6 → G' 72 j = G1 61 j ∧ G' 73 j = G1 62 j) → Ends d 92 38 [vR 54, vI near, vI 6, vU] [] G' Q) :
    ∀ (m : Nat) (i : Int) (G : AG), 0 ≤ i → i + m = 6 → (∀ b : Nat, b ≠ 72 → b ≠ 73 → G b = G1 b) → (∀ j : Int, 0 ≤ j → j < i → G 72 j = G1 61 j ∧ G 73 j = G1 62 j) → Ends d 92 2 [vR 54, vI near, vI i, vU] [] G Q := by
  intro m
  induction m with
  | zero =>
    intro i G h0 h1 hk hc
    have e : i = 6 := by omega
    subst e
    simp (disch := first | omega | ((simp (disch := omega) only [up_ne, up_eq, up_nj, gf_ne, gf_in, sa_ne, sa_eq]) <;> omega)) only [reduceIte, Bool.false_eq_true, if_pos, if_neg, up_ne, up_eq, up_nj, gf_ne, gf_in, sa_ne, sa_eq, and_self, true_and, and_true, p_92_2, p_92_3, p_92_5]
    exact K G hk hc
  | succ m ih =>
    intro i G h0 h1 hk hc
    have e61 : G 61 i = G1 61 i := by rw [hk 61 (by decide) (by decide)]
    have e62 : G 62 i = G1 62 i := by rw [hk 62 (by decide) (by decide)]
    simp (disch := first | omega | ((simp (disch := omega) only [up_ne, up_eq, up_nj, gf_ne, gf_in, sa_ne, sa_eq]) <;> omega)) only [reduceIte, Bool.false_eq_true, if_pos, if_neg, up_ne, up_eq, up_nj, gf_ne, gf_in, sa_ne, sa_eq, and_self, true_and, and_true, p_92_2, p_92_3, p_92_5, p_92_8, p_92_9, p_92_12, p_92_13, p_92_14, p_92_17, p_92_18, p_92_19, p_92_20, p_92_21, p_92_24, p_92_25, p_92_26, p_92_29, p_92_30, p_92_31, p_92_32, e61, e62]
    rw [p_92_35]
    refine ih (i + 1) _ (by omega) (by omega) (fun b w1 w2 => ?_) (fun j q1 q2 => ?_)
    · rw [am_up_ne _ _ _ _ _ w2, am_up_ne _ _ _ _ _ w1, hk b w1 w2]
    · by_cases u : j = i
      · rw [up_ne (by decide), up_eq rfl u, up_eq rfl u, u]
        exact ⟨rfl, rfl⟩
      · rw [up_ne (by decide), up_nj u, up_nj u, up_ne (by decide)]
        exact hc j q1 (by omega)
theorem l_sr2 {d : Nat} {Q : Option AV → AG → Prop} {near : Int} {G1 : AG}
    (K : ∀ (G' : AG), (∀ b : Nat, b ≠ 74 → G' b = G1 b) → (∀ j : Int, 0 ≤ j → j < 192 → G' 74 j = -1000000) → Ends d 92 61 [vR 54, vI near, vI 192, vU] [] G' Q) :
    ∀ (m : Nat) (i : Int) (G : AG), 0 ≤ i → i + m = 192 → (∀ b : Nat, b ≠ 74 → G b = G1 b) → (∀ j : Int, 0 ≤ j → j < i → G 74 j = -1000000) → Ends d 92 40 [vR 54, vI near, vI i, vU] [] G Q := by
  intro m
  induction m with
  | zero =>
    intro i G h0 h1 hk hc
    have e : i = 192 := by omega
    subst e
    simp (disch := first | omega | ((simp (disch := omega) only [up_ne, up_eq, up_nj, gf_ne, gf_in, sa_ne, sa_eq]) <;> omega)) only [reduceIte, Bool.false_eq_true, if_pos, if_neg, up_ne, up_eq, up_nj, gf_ne, gf_in, sa_ne, sa_eq, and_self, true_and, and_true, p_92_40, p_92_41, p_92_44]
    exact K G hk hc
  | succ m ih =>
    intro i G h0 h1 hk hc
    simp (disch := first | omega | ((simp (disch := omega) only [up_ne, up_eq, up_nj, gf_ne, gf_in, sa_ne, sa_eq]) <;> omega)) only [reduceIte, Bool.false_eq_true, if_pos, if_neg, up_ne, up_eq, up_nj, gf_ne, gf_in, sa_ne, sa_eq, and_self, true_and, and_true, p_92_40, p_92_41, p_92_44, p_92_47, p_92_48, p_92_51, p_92_52, p_92_54, p_92_55]
    rw [p_92_58]
    refine ih (i + 1) _ (by omega) (by omega) (fun b w1 => ?_) (fun j q1 q2 => ?_)
    · rw [am_up_ne _ _ _ _ _ w1, hk b w1]
    · by_cases u : j = i
      · rw [up_eq rfl u]
      · rw [up_nj u, hc j q1 (by omega)]
theorem l_sr3 {d : Nat} {Q : Option AV → AG → Prop} {near cost : Int} {G0 GT Gs : AG} (hR : Rel G0) (hT : TBL G0 cost GT) (hr : SR G0 Gs near cost)
    (K : ∀ (G' : AG), GI Gs G' → (∀ t : Int, G0 13 6 ≤ t → G' 61 t = Gs 61 t ∧ G' 62 t = Gs 62 t) → (∀ e : Int, 0 ≤ e → e < G0 13 4 → SIM G0 GT cost e (e * G0 13 5) (G0 13 5) (37 ^ (G0 13 5).toNat : Nat) (ovX GT G0 e) (tri G')) → Ends (d + 9) 92 86 [vR 54, vI near, vI (G0 13 4), vU] [] G' Q) :
    ∀ (m : Nat) (e : Int) (G : AG), 0 ≤ e → e + m = G0 13 4 → GI Gs G → (∀ t : Int, G0 13 6 ≤ t → G 61 t = Gs 61 t ∧ G 62 t = Gs 62 t) → (∀ e' : Int, 0 ≤ e' → e' < e → SIM G0 GT cost e' (e' * G0 13 5) (G0 13 5) (37 ^ (G0 13 5).toNat : Nat) (ovX GT G0 e') (tri G)) → (∀ j : Int, 64 * e ≤ j → j < 192 → G 74 j = -1000000) → Ends (d + 9) 92 63 [vR 54, vI near, vI e, vU] [] G Q := by
  obtain ⟨hp1, hp2, hp3, hp4, hp5, hp6, hp7, hp8, hp9, hp10⟩ := id hR.2.2.1
  have hs := hR.2.2.1.slots
  have hc : 0 ≤ cost ∧ cost ≤ 1000 := by have := hr.2.2; omega
  intro m
  induction m with
  | zero =>
    intro e G h0 h1 hI hk hs1 hs2
    have ee : e = G0 13 4 := by omega
    have e10 : G 54 10 = G0 13 4 := by rw [(hI.same hr.1).2 10 (by decide) (by decide), hp7]
    rw [ee]
    simp (disch := first | omega | ((simp (disch := omega) only [up_ne, up_eq, up_nj, gf_ne, gf_in, sa_ne, sa_eq]) <;> omega)) only [reduceIte, Bool.false_eq_true, if_pos, if_neg, up_ne, up_eq, up_nj, gf_ne, gf_in, sa_ne, sa_eq, and_self, true_and, and_true, p_92_63, p_92_64, p_92_65, p_92_68, e10]
    exact K G hI hk (fun e' q1 q2 => hs1 e' q1 (by omega))
  | succ m ih =>
    intro e G h0 h1 hI hk hs1 hs2
    have hmu := mul_le6 (S := G0 13 5) (e := e) (E := G0 13 4) h0 (by omega) hp3
    have e10 : G 54 10 = G0 13 4 := by rw [(hI.same hr.1).2 10 (by decide) (by decide), hp7]
    have hpn : PO G0 [] := fun q hq => by simp at hq
    obtain ⟨r, G2, hret, hrn, hGE⟩ := (c_go hR hT hr (e := e) ⟨h0, by omega⟩ (G0 13 5).toNat (d + 5 - (G0 13 5).toNat) [] G (fun r G' => r = none ∧ GE Gs G (e * G0 13 5 + ([] : List Int).length) (e * G0 13 5) (G0 13 5) (enM G0 GT cost (((2 ^ (G0 3 4).toNat : Nat) : Int) - 1) e (e * G0 13 5) (G0 13 5).toNat [] (tri G)) G') hpn (by simp; omega) hI trivial (fun G' h => ⟨rfl, h⟩)).ret
    subst hrn
    rw [show d + 5 - (G0 13 5).toNat + (G0 13 5).toNat + 3 = d + 8 by omega] at hret
    obtain ⟨g1, g2, g3, g4⟩ := hGE
    have hkp := enM_keep (cost := cost) (z0 := (((2 ^ (G0 3 4).toNat : Nat) : Int) - 1)) (e := e) (fs := e * G0 13 5) hR hT (G0 13 5).toNat [] (tri G) (tri G) hpn (by simp; omega) ⟨fun _ _ => rfl, fun _ _ => ⟨rfl, rfl⟩⟩
    rw [← g2] at hkp
    have hsim : SIM G0 GT cost e (e * G0 13 5) (G0 13 5) (37 ^ (G0 13 5).toNat : Nat) (ovX GT G0 e) (tri G2) := by
      have h5 := sim_en (z0 := (((2 ^ (G0 3 4).toNat : Nat) : Int) - 1)) hR hc hT (fs := e * G0 13 5) (S := G0 13 5) (e := e) hmu.1 ⟨hp3, hp4⟩ (by omega) (fun q hq hl => cd_lt hmu.1 ⟨hp3, hp4⟩ (by omega) q hq hl) (G0 13 5).toNat [] (fun _ => -9223372036854775808) (tri G) 0 hpn (by simp; omega) (by simp [rcd]) (fun c q1 q2 => Or.inl ⟨rfl, hs2 _ (by omega) (by omega)⟩)
      have h6 : ovX GT G0 e = enX GT (((2 ^ (G0 3 4).toNat : Nat) : Int) - 1) (e * G0 13 5) (G0 13 5).toNat [] (fun _ => -9223372036854775808) := by
        funext c
        unfold ovX oce
        rw [show G0 13 4 - 1 - (((G0 13 4 - 1 - e).toNat : Nat) : Int) = e by omega]
      rw [← g2, ← h6] at h5
      simpa [rcd] using h5
    have hn0 : vI (cmpP []) = vI 0 := rfl
    have hn1 : vI (swP G0 cost (e * G0 13 5) []) = vI 0 := rfl
    have hn2 : vI ((([] : List Int).length : Nat) : Int) = vI 0 := rfl
    rw [hn0, hn1, hn2] at hret
    simp (disch := first | omega | ((simp (disch := omega) only [up_ne, up_eq, up_nj, gf_ne, gf_in, sa_ne, sa_eq]) <;> omega)) only [reduceIte, Bool.false_eq_true, if_pos, if_neg, up_ne, up_eq, up_nj, gf_ne, gf_in, sa_ne, sa_eq, and_self, true_and, and_true, p_92_63, p_92_64, p_92_65, p_92_68, p_92_71, p_92_72, p_92_73, p_92_74, p_92_75, p_92_76, e10]
    rw [p_92_77 (d := d + 8) hret]
    simp (disch := first | omega | ((simp (disch := omega) only [up_ne, up_eq, up_nj, gf_ne, gf_in, sa_ne, sa_eq]) <;> omega)) only [reduceIte, Bool.false_eq_true, if_pos, if_neg, up_ne, up_eq, up_nj, gf_ne, gf_in, sa_ne, sa_eq, and_self, true_and, and_true, p_92_80]
    rw [p_92_83]
    refine ih (e + 1) G2 (by omega) (by omega) g1 (fun t ht => ?_) (fun e' q1 q2 => ?_) (fun j q1 q2 => ?_)
    · have h3 := g3 t (Or.inr (by omega))
      have h4 := hk t ht
      exact ⟨h3.1.trans h4.1, h3.2.trans h4.2⟩
    · by_cases u : e' = e
      · rw [u]
        exact hsim
      · exact (hs1 e' q1 (by omega)).keep hp4 hkp (by omega)
    · have h3 := hkp.1 j (Or.inr (by omega))
      change G2 74 j = G 74 j at h3
      rw [h3]
      exact hs2 j (by omega) q2
theorem l_sr4 {d : Nat} {Q : Option AV → AG → Prop} {near n S E : Int} {G1 : AG} {u : Int → Int} (hS : 1 ≤ S ∧ S ≤ 3) (hE : 1 ≤ E ∧ E ≤ 3) (hn : E * S ≤ 6) (hn2 : E * S = n) (g10 : G1 54 10 = E) (g11 : G1 54 11 = S)
    (hU : ∀ e i : Int, 0 ≤ e → e < E → 0 ≤ i → i < S → 0 ≤ G1 78 e ∧ G1 78 e < 64 ∧ G1 75 (3 * (64 * e + G1 78 e) + i) = aO (u (e * S + i)) ∧ G1 76 (3 * (64 * e + G1 78 e) + i) = mO (u (e * S + i)) ∧ 0 ≤ u (e * S + i) ∧ u (e * S + i) ≤ 36)
    (K : ∀ (G' : AG), (∀ b : Nat, b ≠ 61 → b ≠ 62 → G' b = G1 b) → (∀ s : Int, 0 ≤ s → s < n → G' 61 s = aO (u s) ∧ G' 62 s = mO (u s)) → (∀ s : Int, n ≤ s → G' 61 s = G1 61 s ∧ G' 62 s = G1 62 s) → Q none G') :
    ∀ (m : Nat) (i : Int) (G : AG) (l3 : AV), 0 ≤ i → i + m = n → (∀ b : Nat, b ≠ 61 → b ≠ 62 → G b = G1 b) → (∀ s : Int, 0 ≤ s → s < i → G 61 s = aO (u s) ∧ G 62 s = mO (u s)) → (∀ s : Int, n ≤ s → G 61 s = G1 61 s ∧ G 62 s = G1 62 s) → Ends (d + 9) 92 101 [vR 54, vI near, vI i, l3] [] G Q := by
  intro m
  induction m with
  | zero =>
    intro i G l3 h0 h1 hk hc hk2
    have e : i = n := by omega
    subst e
    have e10 : G 54 10 = E := by rw [hk 54 (by decide) (by decide), g10]
    have e11 : G 54 11 = S := by rw [hk 54 (by decide) (by decide), g11]
    simp (disch := first | omega | ((simp (disch := omega) only [up_ne, up_eq, up_nj, gf_ne, gf_in, sa_ne, sa_eq]) <;> omega)) only [reduceIte, Bool.false_eq_true, if_pos, if_neg, up_ne, up_eq, up_nj, gf_ne, gf_in, sa_ne, sa_eq, and_self, true_and, and_true, p_92_101, p_92_102, q_92_103, p_92_106, p_92_170, e10, e11, hn2]
    exact K G hk hc hk2
  | succ m ih =>
    intro i G l3 h0 h1 hk hc hk2
    have e10 : G 54 10 = E := by rw [hk 54 (by decide) (by decide), g10]
    have e11 : G 54 11 = S := by rw [hk 54 (by decide) (by decide), g11]
    obtain ⟨c1, c2, c3, c4, c5⟩ := slot_split (E := E) (S := S) (s := i) hS.1 h0 (by omega)
    obtain ⟨u1, u2, u3, u4, u5, u6⟩ := hU (i / S) (i % S) c1 c2 c3 c4
    rw [c5] at u3 u4 u5 u6
    have ru := aO_rng ⟨u5, u6⟩
    have e78 : G 78 (i / S) = G1 78 (i / S) := by rw [hk 78 (by decide) (by decide)]
    have e75 : G 75 (3 * (64 * (i / S) + G1 78 (i / S)) + i % S) = aO (u i) := by rw [hk 75 (by decide) (by decide), u3]
    have e76 : G 76 (3 * (64 * (i / S) + G1 78 (i / S)) + i % S) = mO (u i) := by rw [hk 76 (by decide) (by decide), u4]
    simp (disch := first | omega | ((simp (disch := omega) only [up_ne, up_eq, up_nj, gf_ne, gf_in, sa_ne, sa_eq]) <;> omega)) only [reduceIte, Bool.false_eq_true, if_pos, if_neg, up_ne, up_eq, up_nj, gf_ne, gf_in, sa_ne, sa_eq, and_self, true_and, and_true, p_92_101, p_92_102, q_92_103, p_92_106, p_92_109, p_92_110, p_92_112, p_92_113, p_92_114, p_92_117, p_92_118, p_92_119, p_92_120, p_92_123, p_92_124, p_92_125, p_92_128, p_92_129, p_92_130, p_92_131, p_92_132, p_92_133, p_92_134, p_92_137, p_92_138, p_92_139, p_92_140, p_92_141, p_92_144, p_92_145, p_92_146, p_92_149, p_92_150, p_92_151, p_92_152, p_92_153, p_92_156, p_92_157, p_92_158, p_92_161, p_92_162, p_92_163, p_92_164, e10, e11, hn2, e78, e75, e76]
    rw [p_92_167]
    refine ih (i + 1) _ _ (by omega) (by omega) (fun b w1 w2 => ?_) (fun s q1 q2 => ?_) (fun s q1 => ?_)
    · rw [am_up_ne _ _ _ _ _ w2, am_up_ne _ _ _ _ _ w1, hk b w1 w2]
    · by_cases w : s = i
      · rw [up_ne (by decide), up_eq rfl w, up_eq rfl w, w]
        exact ⟨rfl, rfl⟩
      · rw [up_ne (by decide), up_nj w, up_nj w, up_ne (by decide)]
        exact hc s q1 (by omega)
    · rw [up_ne (by decide), up_nj (by omega), up_nj (by omega), up_ne (by decide)]
      exact hk2 s q1
