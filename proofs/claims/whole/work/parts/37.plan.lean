/-! the tables of a plan -/
def TBL (G0 : AG) (cost : Int) (GT : AG) : Prop := (∀ b : Nat, (b ≤ 16 ∨ 33 ≤ b) → GT b = G0 b) ∧ (∀ s o : Int, 0 ≤ s → s < G0 13 6 → 0 ≤ o → o < 37 → GT (18 + s.toNat) o = vvX G0 cost s o) ∧ (∀ h : Int, 0 ≤ h → h < G0 13 5 → GT 28 h = (chs G0 h).length ∧ ∀ j : Nat, j < (chs G0 h).length → GT (25 + h.toNat) (j : Int) = (chs G0 h).getD j 0) ∧ (∀ a : Int, 0 ≤ a → a < G0 3 4 → bitsOf (G0 3 4) (fow G0 a) (GT 29 a)) ∧ (∀ a : Int, 0 ≤ a → a < G0 0 2 → bitsOf (G0 0 2) (fun j => !nrX G0 a j) (GT 30 a)) ∧ ∀ t : Int, 0 ≤ t → t < 64 → GT 32 t = 0
theorem vvX_cong {G G' : AG} {cost s o : Int} (h : ∀ b : Nat, b ≤ 15 → G' b = G b) (ho : 0 ≤ o ∧ o < 37) : vvX G' cost s o = vvX G cost s o := by
  unfold vvX wvX lkX
  rw [h 14 (by omega)]
  by_cases e : o = 36
  · rw [if_pos e, if_pos e]
  · rw [if_neg e, if_neg e, h (7 + (o / 6).toNat) (by omega)]
theorem fow_cong {G G' : AG} {a : Int} (h4 : G' 4 = G 4) (h5 : G' 5 = G 5) : fow G' a = fow G a := by
  funext j
  unfold fow
  rw [h4, h5]
theorem nrX_cong {G G' : AG} {a b : Int} (h0 : G' 0 = G 0) (h1 : G' 1 = G 1) : nrX G' a b = nrX G a b := by
  unfold nrX
  rw [h0, h1]
theorem XS.cong {G G' : AG} (h : XS G) (e : ∀ b : Nat, b ≤ 15 → G' b = G b) : XS G' := by
  unfold XS at h ⊢
  rw [e 13 (by omega), e 0 (by omega), e 3 (by omega), e 4 (by omega), e 5 (by omega), e 2 (by omega)]
  refine ⟨h.1, h.2.1, h.2.2.1, h.2.2.2.1, h.2.2.2.2.1, h.2.2.2.2.2.1, h.2.2.2.2.2.2.1, fun a b q1 q2 q3 q4 => ?_⟩
  rw [e (7 + a.toNat) (by omega)]
  exact h.2.2.2.2.2.2.2 a b q1 q2 q3 q4
theorem HO.cong {G G' : AG} (h : HO G) (e : G' 14 = G 14) : HO G' := by
  unfold HO at h ⊢
  rw [e]
  exact h
theorem l_pl1 {d : Nat} {Q : Option AV → AG → Prop} {cost : Int} {G0 : AG} (hO : HO G0) (hX : XS G0) (hc : 0 ≤ cost ∧ cost ≤ 1000) (hn : 0 ≤ G0 13 6 ∧ G0 13 6 ≤ 6)
    (K : ∀ G' : AG, (∀ b : Nat, (b ≤ 17 ∨ 24 ≤ b) → G' b = G0 b) → (∀ s o : Int, 0 ≤ s → s < G0 13 6 → 0 ≤ o → o < 37 → G' (18 + s.toNat) o = vvX G0 cost s o) → Ends (d + 11) 23 25 [vR 16, vI cost, vI (G0 13 6)] [] G' Q) :
    ∀ (m : Nat) (i : Int) (G : AG), 0 ≤ i → i + m = G0 13 6 → (∀ b : Nat, (b ≤ 17 ∨ 24 ≤ b) → G b = G0 b) → (∀ s o : Int, 0 ≤ s → s < i → 0 ≤ o → o < 37 → G (18 + s.toNat) o = vvX G0 cost s o) → Ends (d + 11) 23 2 [vR 16, vI cost, vI i] [] G Q := by
  intro m
  induction m with
  | zero =>
    intro i G h0 h1 hE hV
    have e : i = G0 13 6 := by omega
    subst e
    have e13 : G 13 6 = G0 13 6 := by rw [hE 13 (by omega)]
    simp (disch := first | omega | ((simp (disch := omega) only [up_ne, up_eq, up_nj, gf_ne, gf_in, sa_ne, sa_eq]) <;> omega)) only [reduceIte, Bool.false_eq_true, if_pos, if_neg, up_ne, up_eq, up_nj, gf_ne, gf_in, sa_ne, sa_eq, and_self, true_and, and_true, p_23_2, p_23_3, p_23_4, p_23_7, p_23_10, p_23_13, p_23_14, p_23_15, p_23_19, e13]
    exact K G hE (fun s o q1 q2 q3 q4 => hV s o q1 q2 q3 q4)
  | succ m ih =>
    intro i G h0 h1 hE hV
    have e13 : G 13 6 = G0 13 6 := by rw [hE 13 (by omega)]
    have e15 : ∀ b : Nat, b ≤ 15 → G b = G0 b := fun b hb => hE b (by omega)
    have hw : Ends (d + 10) 24 0 [vR 16, vI i, vI cost, vU, vU, vU] [] G (fun r G' => r = none ∧ (∀ b : Nat, b ≠ 18 + i.toNat → G' b = G b) ∧ (∀ o : Int, 0 ≤ o → o < 37 → G' (18 + i.toNat) o = vvX G cost i o)) := by
      simp (disch := first | omega | ((simp (disch := omega) only [up_ne, up_eq, up_nj, gf_ne, gf_in, sa_ne, sa_eq]) <;> omega)) only [reduceIte, Bool.false_eq_true, if_pos, if_neg, up_ne, up_eq, up_nj, gf_ne, gf_in, sa_ne, sa_eq, and_self, true_and, and_true, p_24_0, p_24_1]
      exact l_weigh (hO.cong (hE 14 (by omega))) (hX.cong e15) ⟨h0, by omega⟩ hc (fun G' q1 q2 => ⟨rfl, q1, q2⟩) 37 0 G _ _ (by omega) (by omega) (fun _ _ => rfl) (fun o q1 q2 => by omega)
    obtain ⟨r, G1, hret, hr, q1, q2⟩ := hw.ret
    subst hr
    simp (disch := first | omega | ((simp (disch := omega) only [up_ne, up_eq, up_nj, gf_ne, gf_in, sa_ne, sa_eq]) <;> omega)) only [reduceIte, Bool.false_eq_true, if_pos, if_neg, up_ne, up_eq, up_nj, gf_ne, gf_in, sa_ne, sa_eq, and_self, true_and, and_true, p_23_2, p_23_3, p_23_4, p_23_7, p_23_10, p_23_13, p_23_14, p_23_15, p_23_19, e13]
    rw [p_23_16 (d := d + 10) hret]
    simp (disch := first | omega | ((simp (disch := omega) only [up_ne, up_eq, up_nj, gf_ne, gf_in, sa_ne, sa_eq]) <;> omega)) only [reduceIte, Bool.false_eq_true, if_pos, if_neg, up_ne, up_eq, up_nj, gf_ne, gf_in, sa_ne, sa_eq, and_self, true_and, and_true, p_23_19]
    rw [p_23_22]
    refine ih (i + 1) G1 (by omega) (by omega) (fun b hb => by rw [q1 b (by omega), hE b hb]) (fun s o r1 r2 r3 r4 => ?_)
    by_cases e : s = i
    · subst e
      rw [q2 o r3 r4, vvX_cong e15 ⟨r3, r4⟩]
    · rw [q1 (18 + s.toNat) (by omega)]
      exact hV s o r1 (by omega) r3 r4
theorem l_pl2 {d : Nat} {Q : Option AV → AG → Prop} {cost S : Int} {G0 : AG} (hX : XS G0) (hS : 0 ≤ S ∧ S ≤ 3) (hS2 : G0 13 5 = S)
    (K : ∀ G' : AG, (∀ b : Nat, (b ≤ 24 ∨ 29 ≤ b) → G' b = G0 b) → (∀ h : Int, 0 ≤ h → h < S → G' 28 h = (chs G0 h).length ∧ ∀ j : Nat, j < (chs G0 h).length → G' (25 + h.toNat) (j : Int) = (chs G0 h).getD j 0) → Ends (d + 11) 23 49 [vR 16, vI cost, vI S] [] G' Q) :
    ∀ (m : Nat) (i : Int) (G : AG), 0 ≤ i → i + m = S → (∀ b : Nat, (b ≤ 24 ∨ 29 ≤ b) → G b = G0 b) → (∀ h : Int, 0 ≤ h → h < i → G 28 h = (chs G0 h).length ∧ ∀ j : Nat, j < (chs G0 h).length → G (25 + h.toNat) (j : Int) = (chs G0 h).getD j 0) → Ends (d + 11) 23 27 [vR 16, vI cost, vI i] [] G Q := by
  intro m
  induction m with
  | zero =>
    intro i G h0 h1 hE hV
    have e : i = S := by omega
    subst e
    have e13 : G 13 5 = G0 13 5 := by rw [hE 13 (by omega)]
    simp (disch := first | omega | ((simp (disch := omega) only [up_ne, up_eq, up_nj, gf_ne, gf_in, sa_ne, sa_eq]) <;> omega)) only [reduceIte, Bool.false_eq_true, if_pos, if_neg, up_ne, up_eq, up_nj, gf_ne, gf_in, sa_ne, sa_eq, and_self, true_and, and_true, p_23_27, p_23_28, p_23_29, p_23_32, p_23_35, p_23_38, p_23_39, p_23_43, e13]
    exact K G hE hV
  | succ m ih =>
    intro i G h0 h1 hE hV
    have e13 : G 13 5 = G0 13 5 := by rw [hE 13 (by omega)]
    have e15 : ∀ b : Nat, b ≤ 15 → G b = G0 b := fun b hb => hE b (by omega)
    have ech : chs G i = chs G0 i := chs_cong e15
    have hw : Ends (d + 10) 25 0 [vR 16, vI i, vU, vU, vU, vU] [] G (fun r G' => r = none ∧ (∀ b : Nat, b ≠ 25 + i.toNat → b ≠ 28 → G' b = G b) ∧ (∀ j : Int, j ≠ i → G' 28 j = G 28 j) ∧ G' 28 i = (chs G i).length ∧ (∀ j : Nat, j < (chs G i).length → G' (25 + i.toNat) (j : Int) = (chs G i).getD j 0)) := by
      simp (disch := first | omega | ((simp (disch := omega) only [up_ne, up_eq, up_nj, gf_ne, gf_in, sa_ne, sa_eq]) <;> omega)) only [reduceIte, Bool.false_eq_true, if_pos, if_neg, up_ne, up_eq, up_nj, gf_ne, gf_in, sa_ne, sa_eq, and_self, true_and, and_true, p_25_0, p_25_1, p_25_2, p_25_3]
      exact l_choices (d := d + 9) (hX.cong e15) ⟨h0, by omega⟩ (fun G' q1 q2 q3 q4 => ⟨rfl, q1, q2, q3, q4⟩) 36 0 [] G _ _ (by omega) (by omega) (by simp) (by simp) (fun _ _ => rfl) (fun j hj => by simp at hj)
    rw [ech] at hw
    obtain ⟨r, G1, hret, hr, q1, q2, q3, q4⟩ := hw.ret
    subst hr
    simp (disch := first | omega | ((simp (disch := omega) only [up_ne, up_eq, up_nj, gf_ne, gf_in, sa_ne, sa_eq]) <;> omega)) only [reduceIte, Bool.false_eq_true, if_pos, if_neg, up_ne, up_eq, up_nj, gf_ne, gf_in, sa_ne, sa_eq, and_self, true_and, and_true, p_23_27, p_23_28, p_23_29, p_23_32, p_23_35, p_23_38, p_23_39, p_23_43, e13]
    rw [p_23_40 (d := d + 10) hret]
    simp (disch := first | omega | ((simp (disch := omega) only [up_ne, up_eq, up_nj, gf_ne, gf_in, sa_ne, sa_eq]) <;> omega)) only [reduceIte, Bool.false_eq_true, if_pos, if_neg, up_ne, up_eq, up_nj, gf_ne, gf_in, sa_ne, sa_eq, and_self, true_and, and_true, p_23_43]
    rw [p_23_46]
    refine ih (i + 1) G1 (by omega) (by omega) (fun b hb => by rw [q1 b (by omega) (by omega), hE b hb]) (fun h r1 r2 => ?_)
    by_cases e : h = i
    · subst e
      exact ⟨q3, q4⟩
    · have := hV h r1 (by omega)
      rw [q2 h e]
      refine ⟨this.1, fun j hj => ?_⟩
      rw [q1 (25 + h.toNat) (by omega) (by omega)]
      exact this.2 j hj
theorem c_tables {d : Nat} {Q : Option AV → AG → Prop} {cost : Int} {G0 : AG} (hR : Rel G0) (hc : 0 ≤ cost ∧ cost ≤ 1000)
    (K : ∀ GT : AG, TBL G0 cost GT → Ends (d + 11) 23 65 [vR 16, vI cost, vI (G0 13 5)] [] GT Q) : Ends (d + 11) 23 0 [vR 16, vI cost, vU] [] G0 Q := by
  obtain ⟨hm0, hm1, hm2, hm3, hm4, hm5, hm6⟩ := id hR.1
  obtain ⟨ha0, ha1, ha2, ha3, ha4, ha5, ha6⟩ := id hR.2.1
  obtain ⟨hp1, hp2, hp3, hp4, hp5, hp6, hp7, hp8, hp9, hp10⟩ := id hR.2.2.1
  have hs := hR.2.2.1.slots
  have hO := hR.2.2.1.ho ha1 hm1
  have hX := hR.xs
  simp (disch := first | omega | ((simp (disch := omega) only [up_ne, up_eq, up_nj, gf_ne, gf_in, sa_ne, sa_eq]) <;> omega)) only [reduceIte, Bool.false_eq_true, if_pos, if_neg, up_ne, up_eq, up_nj, gf_ne, gf_in, sa_ne, sa_eq, and_self, true_and, and_true, p_23_0, p_23_1]
  refine l_pl1 hO hX hc (by omega) ?_ (G0 13 6).toNat 0 G0 (by omega) (by omega) (fun _ _ => rfl) (fun s o q1 q2 => by omega)
  intro G1 a1 a2
  simp (disch := first | omega | ((simp (disch := omega) only [up_ne, up_eq, up_nj, gf_ne, gf_in, sa_ne, sa_eq]) <;> omega)) only [reduceIte, Bool.false_eq_true, if_pos, if_neg, up_ne, up_eq, up_nj, gf_ne, gf_in, sa_ne, sa_eq, and_self, true_and, and_true, p_23_25, p_23_26]
  have eq1 : ∀ b : Nat, b ≤ 15 → G1 b = G0 b := fun b hb => a1 b (by omega)
  refine l_pl2 (hX.cong eq1) ⟨by omega, hp4⟩ (by rw [eq1 13 (by omega)]) ?_ (G0 13 5).toNat 0 G1 (by omega) (by omega) (fun _ _ => rfl) (fun h q1 q2 => by omega)
  intro G2 b1 b2
  have eq2 : ∀ b : Nat, b ≤ 15 → G2 b = G0 b := fun b hb => by rw [b1 b (by omega), eq1 b hb]
  have hf : Ends (d + 10) 26 0 [vR 16, vU, vU, vU] [] G2 (fun r G' => r = none ∧ (∀ b : Nat, b ≠ 29 → G' b = G2 b) ∧ ∀ a : Int, 0 ≤ a → a < G0 3 4 → bitsOf (G0 3 4) (fow G0 a) (G' 29 a)) := by
    simp (disch := first | omega | ((simp (disch := omega) only [up_ne, up_eq, up_nj, gf_ne, gf_in, sa_ne, sa_eq]) <;> omega)) only [reduceIte, Bool.false_eq_true, if_pos, if_neg, up_ne, up_eq, up_nj, gf_ne, gf_in, sa_ne, sa_eq, and_self, true_and, and_true, p_26_0, p_26_1r]
    refine l_fol2 (d := d + 9) (hX.cong eq2) ⟨ha0, ha1⟩ (by rw [eq2 3 (by omega)]) (fun G' q1 q2 => ⟨rfl, q1, fun a r1 r2 => ?_⟩) (G0 3 4).toNat 0 G2 _ _ (by omega) (by omega) (fun _ _ => rfl) (fun a q1 q2 => by omega)
    have := q2 a r1 r2
    rw [fow_cong (eq2 4 (by omega)) (eq2 5 (by omega))] at this
    exact this
  obtain ⟨r3, G3, hret3, hr3, c1, c2⟩ := hf.ret
  subst hr3
  have eq3 : ∀ b : Nat, b ≤ 15 → G3 b = G0 b := fun b hb => by rw [c1 b (by omega), eq2 b hb]
  have hg : Ends (d + 10) 27 0 [vR 16, vU, vU] [] G3 (fun r G' => r = none ∧ (∀ b : Nat, b ≠ 30 → G' b = G3 b) ∧ ∀ a : Int, 0 ≤ a → a < G0 0 2 → bitsOf (G0 0 2) (fun j => !nrX G0 a j) (G' 30 a)) := by
    simp (disch := first | omega | ((simp (disch := omega) only [up_ne, up_eq, up_nj, gf_ne, gf_in, sa_ne, sa_eq]) <;> omega)) only [reduceIte, Bool.false_eq_true, if_pos, if_neg, up_ne, up_eq, up_nj, gf_ne, gf_in, sa_ne, sa_eq, and_self, true_and, and_true, p_27_0, p_27_1r]
    refine l_far2 (d := d + 7) (hX.cong eq3) ⟨hm0, hm1⟩ (by rw [eq3 0 (by omega)]) (fun G' q1 q2 => ⟨rfl, q1, fun a r1 r2 => ?_⟩) (G0 0 2).toNat 0 G3 _ (by omega) (by omega) (fun _ _ => rfl) (fun a q1 q2 => by omega)
    have := q2 a r1 r2
    simp only [nrX_cong (eq3 0 (by omega)) (eq3 1 (by omega))] at this
    exact this
  obtain ⟨r4, G4, hret4, hr4, d1, d2⟩ := hg.ret
  subst hr4
  simp (disch := first | omega | ((simp (disch := omega) only [up_ne, up_eq, up_nj, gf_ne, gf_in, sa_ne, sa_eq]) <;> omega)) only [reduceIte, Bool.false_eq_true, if_pos, if_neg, up_ne, up_eq, up_nj, gf_ne, gf_in, sa_ne, sa_eq, and_self, true_and, and_true, p_23_49, p_23_53, p_23_57]
  rw [p_23_50 (d := d + 10) hret3]
  simp (disch := first | omega | ((simp (disch := omega) only [up_ne, up_eq, up_nj, gf_ne, gf_in, sa_ne, sa_eq]) <;> omega)) only [reduceIte, Bool.false_eq_true, if_pos, if_neg, up_ne, up_eq, up_nj, gf_ne, gf_in, sa_ne, sa_eq, and_self, true_and, and_true, p_23_53, p_23_57]
  rw [p_23_54 (d := d + 10) hret4]
  simp (disch := first | omega | ((simp (disch := omega) only [up_ne, up_eq, up_nj, gf_ne, gf_in, sa_ne, sa_eq]) <;> omega)) only [reduceIte, Bool.false_eq_true, if_pos, if_neg, up_ne, up_eq, up_nj, gf_ne, gf_in, sa_ne, sa_eq, and_self, true_and, and_true, p_23_57, p_23_58, p_23_61]
  rw [p_23_62 (d := d + 10) (c_filll (r := 32) (n := 64) rfl (by decide))]
  refine K _ ⟨fun b hb => ?_, fun s o q1 q2 q3 q4 => ?_, fun h q1 q2 => ⟨?_, fun j hj => ?_⟩, fun a q1 q2 => ?_, fun a q1 q2 => ?_, fun t q1 q2 => ?_⟩
  · funext j
    simp (disch := first | omega | ((simp (disch := omega) only [up_ne, up_eq, up_nj, gf_ne, gf_in, sa_ne, sa_eq]) <;> omega)) only [reduceIte, Bool.false_eq_true, if_pos, if_neg, up_ne, up_eq, up_nj, gf_ne, gf_in, sa_ne, sa_eq, and_self, true_and, and_true]
    rw [d1 b (by omega), c1 b (by omega), b1 b (by omega), a1 b (by omega)]
  · simp (disch := first | omega | ((simp (disch := omega) only [up_ne, up_eq, up_nj, gf_ne, gf_in, sa_ne, sa_eq]) <;> omega)) only [reduceIte, Bool.false_eq_true, if_pos, if_neg, up_ne, up_eq, up_nj, gf_ne, gf_in, sa_ne, sa_eq, and_self, true_and, and_true]
    rw [d1 _ (by omega), c1 _ (by omega), b1 _ (by omega)]
    exact a2 s o q1 q2 q3 q4
  · simp (disch := first | omega | ((simp (disch := omega) only [up_ne, up_eq, up_nj, gf_ne, gf_in, sa_ne, sa_eq]) <;> omega)) only [reduceIte, Bool.false_eq_true, if_pos, if_neg, up_ne, up_eq, up_nj, gf_ne, gf_in, sa_ne, sa_eq, and_self, true_and, and_true]
    rw [d1 _ (by omega), c1 _ (by omega), (b2 h q1 q2).1, chs_cong eq1]
  · simp (disch := first | omega | ((simp (disch := omega) only [up_ne, up_eq, up_nj, gf_ne, gf_in, sa_ne, sa_eq]) <;> omega)) only [reduceIte, Bool.false_eq_true, if_pos, if_neg, up_ne, up_eq, up_nj, gf_ne, gf_in, sa_ne, sa_eq, and_self, true_and, and_true]
    rw [← chs_cong (h := h) eq1] at hj ⊢
    rw [d1 _ (by omega), c1 _ (by omega), (b2 h q1 q2).2 j hj]
  · simp (disch := omega) only [up_ne, up_eq, up_nj, gf_ne, gf_in, sa_ne, sa_eq]
    rw [d1 _ (by omega)]
    exact c2 a q1 q2
  · simp (disch := omega) only [up_ne, up_eq, up_nj, gf_ne, gf_in, sa_ne, sa_eq]
    exact d2 a q1 q2
  · simp (disch := first | omega | ((simp (disch := omega) only [up_ne, up_eq, up_nj, gf_ne, gf_in, sa_ne, sa_eq]) <;> omega)) only [reduceIte, Bool.false_eq_true, if_pos, if_neg, up_ne, up_eq, up_nj, gf_ne, gf_in, sa_ne, sa_eq, and_self, true_and, and_true]
