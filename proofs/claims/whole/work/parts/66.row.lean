/-! row -/
theorem EN.cong {n : Int} {fo fo' : Int → Int → Bool} {F fw : Int → Int} (h : EN n fo F fw) (e : ∀ p q : Int, 0 ≤ p → p < n → 0 ≤ q → q < n → fo p q = fo' p q) : EN n fo' F fw := by
  obtain ⟨h1, h2, h3, h4, h5⟩ := h
  refine ⟨h1, h2, h3, fun w q1 q2 => bx_cong (h4 w q1 q2) (fun p r1 r2 => ?_), fun p q1 q2 => bx_cong (h5 p q1 q2) (fun q r1 r2 => e p q q1 q2 r1 r2)⟩
  unfold pfs
  rw [any_cong n.toNat 0 (fun q x1 x2 => by rw [e p q r1 r2 x1 (by omega)])]
theorem swf_cong {f g : Int → Int} {n w : Int} (hn : 0 ≤ n) (e : ∀ i : Int, 0 ≤ i → i < n → f i = g i) : swf f n w = swf g n w := by
  unfold swf
  refine sumf_cong _ _ (fun k q1 q2 => ?_)
  show (if tb w k = true then f k else 0) = if tb w k = true then g k else 0
  rw [e k q1 (by omega)]
theorem bst_cong {P P' : Int → Bool} {B B' : Int → Int → Bool} (hP : ∀ w : Int, P w = P' w) (hB : ∀ w b : Int, B w b = B' w b) : ∀ (m : Nat) (w b : Int), bst P B m w b = bst P' B' m w b
  | 0, _, _ => rfl
  | m + 1, w, b => by rw [bst, bst, hP, hB, bst_cong hP hB m]
theorem rel_row {G GM : AG} (hR : Rel G) (e : ∀ c : Nat, c ≠ 33 → c ≠ 38 → c ≠ 39 → c ≠ 40 → c ≠ 54 → c ≠ 68 → c < 79 → GM c = G c) (e33 : ∀ j : Int, j ≠ 11 → GM 33 j = G 33 j) (e54 : ∀ j : Int, j ≠ 21 → j ≠ 25 → GM 54 j = G 54 j)
    (hk : 0 ≤ GM 33 11 ∧ GM 33 11 ≤ 10 ∧ GM 54 21 = GM 33 11) (hrow : ∀ i : Int, 0 ≤ i → i < GM 33 11 → GM 68 i = GM 39 i ∧ 0 ≤ GM 39 i ∧ GM 39 i < 10) (h40 : GM 40 0 = 0) : Rel GM := by
  refine ⟨?_, ?_, ?_, ?_, ?_⟩
  · refine hR.1.cong ?_ ?_ ?_ ?_ ?_ ?_ ?_
    all_goals first | (apply e <;> omega) | (apply e54 <;> decide)
  · refine hR.2.1.cong ?_ ?_ ?_ ?_ (fun a _ _ => ?_) ?_ ?_ ?_ ?_ ?_
    all_goals first | (apply e <;> omega) | (apply e54 <;> decide) | (rw [e 0 (by omega) (by omega) (by omega) (by omega) (by omega) (by omega) (by omega)]; exact Int.le_refl _)
  · refine hR.2.2.1.cong ?_ ?_ ?_ ?_ ?_ ?_ ?_ ?_ ?_
    all_goals first | (apply e <;> omega) | (apply e54 <;> decide) | (rw [e 0 (by omega) (by omega) (by omega) (by omega) (by omega) (by omega) (by omega)]; exact Int.le_refl _) | (rw [e 3 (by omega) (by omega) (by omega) (by omega) (by omega) (by omega) (by omega)]; exact Int.le_refl _)
  · obtain ⟨hc1, hc2, hc3, hc4, hc5, hc6, hc7, hc8, hc9, hc10, hc11, hc12, hc13⟩ := id hR.2.2.2.1
    unfold RC
    rw [e33 9 (by decide), e33 10 (by decide), e33 8 (by decide), e54 19 (by decide) (by decide), e54 9 (by decide) (by decide), e 34 (by omega) (by omega) (by omega) (by omega) (by omega) (by omega) (by omega), e 35 (by omega) (by omega) (by omega) (by omega) (by omega) (by omega) (by omega), e 36 (by omega) (by omega) (by omega) (by omega) (by omega) (by omega) (by omega), e 37 (by omega) (by omega) (by omega) (by omega) (by omega) (by omega) (by omega), e 63 (by omega) (by omega) (by omega) (by omega) (by omega) (by omega) (by omega), e 64 (by omega) (by omega) (by omega) (by omega) (by omega) (by omega) (by omega), e 65 (by omega) (by omega) (by omega) (by omega) (by omega) (by omega) (by omega), e 66 (by omega) (by omega) (by omega) (by omega) (by omega) (by omega) (by omega), e 67 (by omega) (by omega) (by omega) (by omega) (by omega) (by omega) (by omega), e 0 (by omega) (by omega) (by omega) (by omega) (by omega) (by omega) (by omega)]
    exact ⟨hc1, hc2, hc3, hc4, hc5, hc6, hc7, hc8, hk.1, hk.2.1, hk.2.2, hc12, hrow, h40⟩
  · refine hR.2.2.2.2.cong ?_ ?_ ?_ (fun a _ _ => ?_) ?_ ?_ ?_
    all_goals first | (apply e <;> omega) | (rw [e 3 (by omega) (by omega) (by omega) (by omega) (by omega) (by omega) (by omega)]; exact Int.le_refl _)
theorem c_rowM {d : Nat} {Q : Option AV → AG → Prop} {n day mm : Int} {fo : Int → Int → Bool} {F fw : Int → Int} {G0 : AG} {im : Int → Bool} (h : EN n fo F fw) (hC : CM G0) (hN : G0 54 19 = n) (hfo : ∀ p q : Int, fo p q = foM G0 p q) (hd : 0 ≤ day ∧ day ≤ 400) (hmm : 1 ≤ mm ∧ mm ≤ 300) (him : ∀ p : Int, 0 ≤ p → p < n → G0 66 p = if im p = true then 1 else 0) {b : Int} (hb : b = bst (okW n F (rdM G0 day) im (G0 64) mm) (btr n F fw (G0 65)) (2 ^ n.toNat - 1) 1 0)
    (K0 : b = 0 → ∀ G' : AG, (∀ c : Nat, c ≠ 79 → c ≠ 80 → c ≠ 81 → G' c = G0 c) → Q (some (vI (-1))) G')
    (K1 : 1 ≤ b → b < (2 ^ n.toNat : Nat) → F b ≠ 0 → ∀ G' : AG, (∀ c : Nat, c ≠ 54 → c ≠ 68 → c ≠ 79 → c ≠ 80 → c ≠ 81 → G' c = G0 c) → (∀ j : Int, j ≠ 21 → G' 54 j = G0 54 j) → G' 54 21 = (n_bc b.toNat : Int) → (∀ j : Int, 0 ≤ j → j < n_bc b.toNat → G' 68 j = gt (rowOf F fw b) j) → Q (some (vI (swf (G0 65) n b))) G') :
    Ends (d + 4) 103 29 [vR 54, vI day, vI mm, vU, vU, vU, vU] [] G0 Q := by
  have hn : 0 ≤ n ∧ n ≤ 10 := ⟨h.1, h.2.1⟩
  have hp : 2 ^ n.toNat ≤ 2 ^ 10 := Nat.pow_le_pow_right (by decide) (by omega)
  have hp1 : 1 ≤ 2 ^ n.toNat := Nat.pos_of_ne_zero (by simp)
  obtain ⟨r, G1, hret, hr, hE, h79⟩ := (c_ff (d := d) (Q := fun r G1 => r = none ∧ (∀ b : Nat, b ≠ 79 → G1 b = G0 b) ∧ (∀ x : Int, 0 ≤ x → x < (2 ^ n.toNat : Nat) → G1 79 x = F x)) h hC hN hfo (fun G' q1 q2 => ⟨rfl, q1, q2⟩)).ret
  subst hr
  have hC1 : CM G1 := by
    unfold CM
    rw [hE 54 (by decide), hE 64 (by decide), hE 65 (by decide), hE 66 (by decide), hE 67 (by decide), hE 63 (by decide)]
    exact hC
  have hN1 : G1 54 19 = n := by rw [hE 54 (by decide), hN]
  have hfo1 : ∀ p q : Int, fo p q = foM G1 p q := fun p q => by
    rw [hfo p q]
    unfold foM nrM
    rw [hE 54 (by decide), hE 55 (by decide), hE 63 (by decide)]
  have hrd : rdM G1 day = rdM G0 day := by
    funext p
    unfold rdM
    rw [hE 67 (by decide), hE 54 (by decide)]
  simp (disch := first | omega | ((simp (disch := omega) only [up_ne, up_eq, up_nj, gf_ne, gf_in, sa_ne, sa_eq]) <;> omega)) only [reduceIte, Bool.false_eq_true, if_pos, if_neg, up_ne, up_eq, up_nj, gf_ne, gf_in, sa_ne, sa_eq, and_self, true_and, and_true, p_103_29]
  rw [p_103_30 (d := d + 3) hret]
  simp (disch := first | omega | ((simp (disch := omega) only [up_ne, up_eq, up_nj, gf_ne, gf_in, sa_ne, sa_eq]) <;> omega)) only [reduceIte, Bool.false_eq_true, if_pos, if_neg, up_ne, up_eq, up_nj, gf_ne, gf_in, sa_ne, sa_eq, and_self, true_and, and_true, p_103_33, p_103_34, p_103_35, p_103_36]
  refine l_rw (d := d) (im := im) h hC1 hN1 hfo1 h79 hd hmm (fun p q1 q2 => by rw [hE 66 (by decide), him p q1 q2]) (fun b' G2 l5 l6 hb' hE2 hbg => ?_) (2 ^ n.toNat - 1) 1 0 G1 _ _ (by omega) (by omega) rfl (fun _ _ _ => rfl) (Or.inl rfl)
  rw [hrd, hE 64 (by decide), hE 65 (by decide), ← hb] at hb'
  subst hb'
  rcases hbg with q | ⟨q1, q2, q3, q4⟩
  · have := K0 q G2 (fun c x1 x2 x3 => by rw [hE2 c x2 x3, hE c x1])
    clear K0 K1
    simp (disch := first | omega | ((simp (disch := omega) only [up_ne, up_eq, up_nj, gf_ne, gf_in, sa_ne, sa_eq]) <;> omega)) only [reduceIte, Bool.false_eq_true, if_pos, if_neg, up_ne, up_eq, up_nj, gf_ne, gf_in, sa_ne, sa_eq, and_self, true_and, and_true, p_103_179, p_103_180, p_103_183, p_103_184]
    exact this
  · obtain ⟨w1, -, w2, -⟩ := bc_of (w := b') (by omega)
    have hf65 : ∀ i : Int, 0 ≤ i → i < 10 → 0 ≤ G0 65 i ∧ G0 65 i ≤ 100 := fun i x1 x2 => by
      have := hC.2.2.2.2.2.2 i x1 x2
      omega
    have hcp := l_cp2 (d := d + 4) (Q := Q) (day := day) (mm := mm) (b := b') (n := (n_bc b'.toNat : Int)) (G1 := am_up G2 54 21 (n_bc b'.toNat : Int)) (l5 := l5) (l6 := l6) (by omega) (up_eq rfl rfl) (fun G3 x1 x2 => by
      have e65 : G3 65 = G0 65 := by rw [x1 65 (by decide), am_up_ne _ _ _ _ _ (by decide), hE2 65 (by decide) (by decide), hE 65 (by decide)]
      have s1 := c_smM (d := d + 3) (n := n) (w := b') (G := G3) hn (by rw [x1 54 (by decide), up_nj (by decide), hE2 54 (by decide) (by decide), hN1]) (by omega) (by rw [e65]; exact hf65)
      rw [e65] at s1
      have := K1 q1 q2 q3 G3 (fun c y1 y2 y3 y4 y5 => by rw [x1 c y2, am_up_ne _ _ _ _ _ y1, hE2 c y4 y5, hE c y3]) (fun j hj => by rw [x1 54 (by decide), up_nj hj, hE2 54 (by decide) (by decide), hE 54 (by decide)]) (by rw [x1 54 (by decide), up_eq rfl rfl]) (fun j y1 y2 => by rw [x2 j y1 y2, up_ne (by decide), q4 j y1 y2])
      clear K0 K1 q4 x2
      simp (disch := first | omega | ((simp (disch := omega) only [up_ne, up_eq, up_nj, gf_ne, gf_in, sa_ne, sa_eq]) <;> omega)) only [reduceIte, Bool.false_eq_true, if_pos, if_neg, up_ne, up_eq, up_nj, gf_ne, gf_in, sa_ne, sa_eq, and_self, true_and, and_true, p_103_225, p_103_226]
      rw [p_103_227 (d := d + 3) s1]
      simp (disch := first | omega | ((simp (disch := omega) only [up_ne, up_eq, up_nj, gf_ne, gf_in, sa_ne, sa_eq]) <;> omega)) only [reduceIte, Bool.false_eq_true, if_pos, if_neg, up_ne, up_eq, up_nj, gf_ne, gf_in, sa_ne, sa_eq, and_self, true_and, and_true, p_103_230]
      exact this) (n_bc b'.toNat) 0 _ (by omega) (by omega) (fun _ _ => rfl) (fun j _ _ => by omega)
    clear K0 K1 q4
    simp (disch := first | omega | ((simp (disch := omega) only [up_ne, up_eq, up_nj, gf_ne, gf_in, sa_ne, sa_eq]) <;> omega)) only [reduceIte, Bool.false_eq_true, if_pos, if_neg, up_ne, up_eq, up_nj, gf_ne, gf_in, sa_ne, sa_eq, and_self, true_and, and_true, p_103_179, p_103_180, p_103_183, p_103_184, p_103_185, p_103_186, q_103_187, p_103_190, p_103_193, p_103_194, w1]
    exact hcp
theorem gt_mem : ∀ (l : List Int) (j : Int), 0 ≤ j → j < l.length → gt l j ∈ l
  | [], j, h0, h1 => by simp at h1; omega
  | x :: l, j, h0, h1 => by
    rw [List.length_cons] at h1
    rw [gt]
    by_cases u : j = 0
    · rw [if_pos u]
      exact List.mem_cons_self
    · rw [if_neg u]
      exact List.mem_cons_of_mem _ (gt_mem l (j - 1) (by omega) (by omega))
theorem pair_row {G : AG} (hR : Rel G) {x y : Int} (hx : -2147483648 ≤ x ∧ x < 2147483648) (hy : -2147483648 ≤ y ∧ y < 2147483648) : Pair 60 103 [vI x, vI y] [vI x, vI y, vU, vU, vU, vU] G := by
  obtain ⟨hm0, hm1, hm2, hm3, hm4, hm5, hm6⟩ := id hR.1
  obtain ⟨hc1, hc2, hc3, hc4, hc5, hc6, hc7, hc8, hc9, hc10, hc11, hc12, hc13⟩ := id hR.2.2.2.1
  by_cases a : 0 ≤ x ∧ x ≤ 400
  · by_cases b : 1 ≤ y ∧ y ≤ 300
    · obtain ⟨F, fw, hEN⟩ := en_ex (n := G 33 9) ⟨hc1, hc2⟩ (foX G)
      have hp : 2 ^ (G 33 9).toNat ≤ 2 ^ 10 := Nat.pow_le_pow_right (by decide) (by omega)
      have hp1 : 1 ≤ 2 ^ (G 33 9).toNat := Nat.pos_of_ne_zero (by simp)
      generalize hB : bst (okW (G 33 9) F (rdX G x) (tb (G 33 8)) (G 35) y) (btr (G 33 9) F fw (G 36)) (2 ^ (G 33 9).toNat - 1) 1 0 = B
      obtain ⟨r, GX, hretX, hX⟩ := (c_find (d := 25) (Q := fun r G' => (B = 0 ∧ r = some (vI (-1)) ∧ (∀ c : Nat, c ≠ 38 → c ≠ 40 → G' c = G c) ∧ G' 40 0 = 0) ∨ (1 ≤ B ∧ B < (2 ^ (G 33 9).toNat : Nat) ∧ F B ≠ 0 ∧ r = some (vI (swf (G 36) (G 33 9) B)) ∧ (∀ c : Nat, c ≠ 33 → c ≠ 38 → c ≠ 39 → c ≠ 40 → G' c = G c) ∧ (∀ j : Int, j ≠ 11 → G' 33 j = G 33 j) ∧ G' 33 11 = (n_bc B.toNat : Int) ∧ (∀ j : Int, 0 ≤ j → j < n_bc B.toNat → G' 39 j = gt (rowOf F fw B) j) ∧ G' 40 0 = 0)) hR.cx rfl a b hEN hc13.2 hB.symm (fun q1 G' q2 q3 => Or.inl ⟨q1, rfl, q2, q3⟩) (fun q1 q2 q3 G' q4 q5 q6 q7 q8 => Or.inr ⟨q1, q2, q3, rfl, q4, q5, q6, q7, q8⟩)).ret
      have eX : ∀ c : Nat, c ≠ 33 → c ≠ 38 → c ≠ 39 → c ≠ 40 → GX c = G c := fun c z1 z2 z3 z4 => by
        rcases hX with ⟨q1, q2, q3, q4⟩ | ⟨q1, q2, q3, q4, q5, q6, q7, q8, q9⟩
        · exact q3 c z2 z4
        · exact q5 c z1 z2 z3 z4
      have e1 : ∀ c : Nat, 55 ≤ c → am_up GX 54 25 0 c = G c := fun c z => by rw [am_up_ne _ _ _ _ _ (by omega), eX c (by omega) (by omega) (by omega) (by omega)]
      have e54 : ∀ j : Int, j ≠ 25 → am_up GX 54 25 0 54 j = G 54 j := fun j z => by rw [up_nj z, eX 54 (by decide) (by decide) (by decide) (by decide)]
      have hCM : CM (am_up GX 54 25 0) := by
        have := hR.cm
        unfold CM at this ⊢
        rw [e54 19 (by decide), e54 9 (by decide), e54 8 (by decide), e1 64 (by decide), e1 65 (by decide), e1 66 (by decide), e1 67 (by decide), e1 63 (by decide)]
        exact this
      have hfo : ∀ p q : Int, 0 ≤ p → p < G 33 9 → 0 ≤ q → q < G 33 9 → foX G p q = foM (am_up GX 54 25 0) p q := by
        intro p q z1 z2 z3 z4
        obtain ⟨k1, k2, k3, k4, k5, k6, k7, k8, k9, k10, k11, k12⟩ := hc12 p z1 (by omega)
        obtain ⟨g1, g2, g3, g4, g5, g6, g7, g8, g9, g10, g11, g12⟩ := hc12 q z3 (by omega)
        have k12 := k12 z2
        have g12 := g12 z4
        unfold foX foM nrX nrM
        rw [e54 8 (by decide), e1 55 (by decide), e1 63 (by decide), k1, g1, (hm6 (G 34 p) k12.1 (by omega)).1, (hm6 (G 34 q) g12.1 (by omega)).1, hm5]
      have hrd : ∀ p : Int, 0 ≤ p → p < G 33 9 → rdX G x p = rdM (am_up GX 54 25 0) x p := by
        intro p z1 z2
        obtain ⟨k1, k2, k3, k4, k5, k6, k7, k8, k9, k10, k11, k12⟩ := hc12 p z1 (by omega)
        unfold rdX rdM
        rw [e54 9 (by decide), e1 67 (by decide), k8, hc6]
        congr 2
        rw [show (if x - G 37 p < 0 then -(x - G 37 p) else x - G 37 p) = (if G 37 p - x < 0 then -(G 37 p - x) else G 37 p - x) by split <;> split <;> omega]
      have hB' : B = bst (okW (G 33 9) F (rdM (am_up GX 54 25 0) x) (tb (G 33 8)) (am_up GX 54 25 0 64) y) (btr (G 33 9) F fw (am_up GX 54 25 0 65)) (2 ^ (G 33 9).toNat - 1) 1 0 := by
        rw [← hB]
        have h64 : ∀ i : Int, 0 ≤ i → i < G 33 9 → G 35 i = am_up GX 54 25 0 64 i := fun i z1 z2 => by rw [e1 64 (by decide), (hc12 i z1 (by omega)).2.1]
        have h65 : ∀ i : Int, 0 ≤ i → i < G 33 9 → G 36 i = am_up GX 54 25 0 65 i := fun i z1 z2 => by rw [e1 65 (by decide), (hc12 i z1 (by omega)).2.2.2.2.1]
        refine bst_cong (fun w => ?_) (fun w b => ?_) _ _ _
        · unfold okW
          rw [any_cong (G 33 9).toNat 0 (fun p z1 z2 => by rw [hrd p z1 (by omega)]), swf_cong hc1 h64]
        · unfold btr
          rw [swf_cong (w := w) hc1 h65, swf_cong (w := b) hc1 h65]
      have h65s : swf (am_up GX 54 25 0 65) (G 33 9) B = swf (G 36) (G 33 9) B := swf_cong hc1 (fun i z1 z2 => by rw [e1 65 (by decide), (hc12 i z1 (by omega)).2.2.2.2.1])
      have hM := c_rowM (d := 26) (Q := fun r' GM => r' = r ∧ Rel GM ∧ GM 54 25 = 0) (day := x) (mm := y) (im := tb (G 33 8)) (G0 := am_up GX 54 25 0) (hEN.cong hfo) hCM (by rw [e54 19 (by decide), hc3]) (fun _ _ => rfl) a b (fun p z1 z2 => by rw [e1 66 (by decide), (hc12 p z1 (by omega)).2.2.2.2.2.2.2.2.2.2.1]) hB' (fun q GM q2 => by
        rcases hX with ⟨q1, q2', q3, q4⟩ | ⟨q1, -⟩
        · refine ⟨q2'.symm, rel_row hR (fun c z1 z2 z3 z4 z5 z6 z7 => ?_) (fun j z => ?_) (fun j z1 z2 => ?_) ?_ (fun i z1 z2 => ?_) ?_, ?_⟩
          · rw [q2 c (by omega) (by omega) (by omega), am_up_ne _ _ _ _ _ z5, eX c z1 z2 z3 z4]
          · rw [q2 33 (by decide) (by decide) (by decide), up_ne (by decide), q3 33 (by decide) (by decide)]
          · rw [q2 54 (by decide) (by decide) (by decide), e54 j z2]
          · rw [q2 33 (by decide) (by decide) (by decide), up_ne (by decide), q3 33 (by decide) (by decide), q2 54 (by decide) (by decide) (by decide), e54 21 (by decide)]
            exact ⟨hc9, hc10, hc11⟩
          · rw [q2 33 (by decide) (by decide) (by decide), up_ne (by decide), q3 33 (by decide) (by decide)] at z2
            rw [q2 68 (by decide) (by decide) (by decide), e1 68 (by decide), q2 39 (by decide) (by decide) (by decide), up_ne (by decide), q3 39 (by decide) (by decide)]
            exact hc13.1 i z1 z2
          · rw [q2 40 (by decide) (by decide) (by decide), up_ne (by decide), q4]
          · rw [q2 54 (by decide) (by decide) (by decide), up_eq rfl rfl]
        · omega) (fun r1 r2 r3 GM q2 q3 q4 q5 => by
        rcases hX with ⟨q1, -⟩ | ⟨p1, p2, p3, p4, p5, p6, p7, p8, p9⟩
        · omega
        · obtain ⟨-, -, w2, -⟩ := bc_of (w := B) (by omega)
          have hdw := rws_dig hEN (n_bc B.toNat) B (F B) (gw_first hEN (by omega) p3) rfl
          have hlw : (rowOf F fw B).length = n_bc B.toNat := rws_len (F := F) (fw := fw) (n_bc B.toNat) B (F B)
          refine ⟨by rw [h65s, p4], rel_row hR (fun c z1 z2 z3 z4 z5 z6 z7 => ?_) (fun j z => ?_) (fun j z1 z2 => ?_) ?_ (fun i z1 z2 => ?_) ?_, ?_⟩
          · rw [q2 c z5 z6 (by omega) (by omega) (by omega), am_up_ne _ _ _ _ _ z5, eX c z1 z2 z3 z4]
          · rw [q2 33 (by decide) (by decide) (by decide) (by decide) (by decide), up_ne (by decide), p6 j z]
          · rw [q3 j z1, e54 j z2]
          · rw [q2 33 (by decide) (by decide) (by decide) (by decide) (by decide), up_ne (by decide), p7, q4]
            exact ⟨by omega, by omega, rfl⟩
          · rw [q2 33 (by decide) (by decide) (by decide) (by decide) (by decide), up_ne (by decide), p7] at z2
            rw [q5 i z1 z2, q2 39 (by decide) (by decide) (by decide) (by decide) (by decide), up_ne (by decide), p8 i z1 z2]
            have hg := hdw _ (gt_mem (rowOf F fw B) i z1 (by omega))
            exact ⟨rfl, hg.1, by omega⟩
          · rw [q2 40 (by decide) (by decide) (by decide) (by decide) (by decide), up_ne (by decide), p9]
          · rw [q3 25 (by decide), up_eq rfl rfl])
      obtain ⟨r', GM, hr', hrM, hRM⟩ : ∃ (r' : Option AV) (GM : AG), Ret 30 103 [vR 54, vI x, vI y, vU, vU, vU, vU] GX r' GM ∧ r' = r ∧ Rel GM ∧ GM 54 25 = 0 := by
        have h1 : Ends 30 103 0 [vR 54, vI x, vI y, vU, vU, vU, vU] [] GX (fun r' GM => r' = r ∧ Rel GM ∧ GM 54 25 = 0) := by
          clear hX
          simp (disch := first | omega | ((simp (disch := omega) only [up_ne, up_eq, up_nj, gf_ne, gf_in, sa_ne, sa_eq]) <;> omega)) only [reduceIte, Bool.false_eq_true, if_pos, if_neg, up_ne, up_eq, up_nj, gf_ne, gf_in, sa_ne, sa_eq, and_self, true_and, and_true, p_103_0, p_103_1, p_103_2, p_103_5, p_103_6, p_103_7, q_103_10, p_103_13, p_103_16, p_103_17, p_103_18, q_103_21, p_103_24]
          exact hM
        exact h1.ret
      subst hrM
      refine ⟨r', GX, GM, ?_, hr', hRM⟩
      rcases hX with ⟨q1, q2, q3, q4⟩ | ⟨q1, q2, q3, q4, q5, q6, q7, q8, q9⟩
      · subst q2
        unfold Ret
        simp (disch := first | omega | ((simp (disch := omega) only [up_ne, up_eq, up_nj, gf_ne, gf_in, sa_ne, sa_eq]) <;> omega)) only [reduceIte, Bool.false_eq_true, if_pos, if_neg, up_ne, up_eq, up_nj, gf_ne, gf_in, sa_ne, sa_eq, and_self, true_and, and_true, p_60_0, p_60_1, p_60_2, q_60_5, p_60_8, p_60_11, p_60_12, p_60_13, q_60_16, p_60_19, p_60_22, p_60_23, p_60_24, p_60_25, p_60_28, p_60_29]
        rw [p_60_30 (d := 29) hretX]
        simp (disch := first | omega | ((simp (disch := omega) only [up_ne, up_eq, up_nj, gf_ne, gf_in, sa_ne, sa_eq]) <;> omega)) only [reduceIte, Bool.false_eq_true, if_pos, if_neg, up_ne, up_eq, up_nj, gf_ne, gf_in, sa_ne, sa_eq, and_self, true_and, and_true, p_60_33]
      · subst q4
        unfold Ret
        clear q8
        simp (disch := first | omega | ((simp (disch := omega) only [up_ne, up_eq, up_nj, gf_ne, gf_in, sa_ne, sa_eq]) <;> omega)) only [reduceIte, Bool.false_eq_true, if_pos, if_neg, up_ne, up_eq, up_nj, gf_ne, gf_in, sa_ne, sa_eq, and_self, true_and, and_true, p_60_0, p_60_1, p_60_2, q_60_5, p_60_8, p_60_11, p_60_12, p_60_13, q_60_16, p_60_19, p_60_22, p_60_23, p_60_24, p_60_25, p_60_28, p_60_29]
        rw [p_60_30 (d := 29) hretX]
        simp (disch := first | omega | ((simp (disch := omega) only [up_ne, up_eq, up_nj, gf_ne, gf_in, sa_ne, sa_eq]) <;> omega)) only [reduceIte, Bool.false_eq_true, if_pos, if_neg, up_ne, up_eq, up_nj, gf_ne, gf_in, sa_ne, sa_eq, and_self, true_and, and_true, p_60_33]
    · refine ⟨some (vI (-1)), G, am_up G 54 25 0, ?_, ?_, hR.thrown 0, up_eq rfl rfl⟩
      · unfold Ret
        simp (disch := first | omega | ((simp (disch := omega) only [up_ne, up_eq, up_nj, gf_ne, gf_in, sa_ne, sa_eq]) <;> omega)) only [reduceIte, Bool.false_eq_true, if_pos, if_neg, up_ne, up_eq, up_nj, gf_ne, gf_in, sa_ne, sa_eq, and_self, true_and, and_true, p_60_0, p_60_1, p_60_2, q_60_5, p_60_8, p_60_11, p_60_12, p_60_13, q_60_16, p_60_19, p_60_22, p_60_23, p_60_24, p_60_25, p_60_28, p_60_29, p_60_33]
      · unfold Ret
        simp (disch := first | omega | ((simp (disch := omega) only [up_ne, up_eq, up_nj, gf_ne, gf_in, sa_ne, sa_eq]) <;> omega)) only [reduceIte, Bool.false_eq_true, if_pos, if_neg, up_ne, up_eq, up_nj, gf_ne, gf_in, sa_ne, sa_eq, and_self, true_and, and_true, p_103_0, p_103_1, p_103_2, p_103_5, p_103_6, p_103_7, q_103_10, p_103_13, p_103_16, p_103_17, p_103_18, q_103_21, p_103_24, p_103_27, p_103_28, p_103_29, p_103_33, p_103_34, p_103_35, p_103_36, p_103_38, p_103_40, p_103_41, p_103_42, p_103_45, p_103_46, p_103_49, p_103_50, p_103_52, p_103_53, p_103_57, p_103_60, p_103_63, p_103_64, p_103_67, p_103_68, p_103_71, p_103_72, p_103_77, p_103_78, p_103_82, p_103_83, p_103_85, p_103_87, p_103_90, q_103_91, p_103_94, q_103_96, p_103_99, p_103_100, p_103_102, p_103_104, p_103_107, p_103_110, p_103_111, p_103_116, p_103_118, p_103_121, p_103_122, q_103_124, p_103_127, p_103_128, p_103_134, p_103_137, p_103_140, p_103_142, p_103_143, p_103_144, p_103_146, p_103_148, p_103_150, p_103_153, p_103_154, p_103_157, p_103_159, p_103_160, p_103_163, p_103_165, p_103_166, p_103_167, p_103_173, p_103_179, p_103_180, p_103_183, p_103_184, p_103_185, p_103_186, q_103_187, p_103_190, p_103_193, p_103_194, p_103_196, p_103_198, p_103_199, p_103_202, p_103_205, p_103_206, p_103_209, p_103_211, p_103_212, p_103_215, p_103_217, p_103_218, p_103_219, p_103_225, p_103_226, p_103_230]
  · refine ⟨some (vI (-1)), G, am_up G 54 25 0, ?_, ?_, hR.thrown 0, up_eq rfl rfl⟩
    · unfold Ret
      simp (disch := first | omega | ((simp (disch := omega) only [up_ne, up_eq, up_nj, gf_ne, gf_in, sa_ne, sa_eq]) <;> omega)) only [reduceIte, Bool.false_eq_true, if_pos, if_neg, up_ne, up_eq, up_nj, gf_ne, gf_in, sa_ne, sa_eq, and_self, true_and, and_true, p_60_0, p_60_1, p_60_2, q_60_5, p_60_8, p_60_11, p_60_12, p_60_13, q_60_16, p_60_19, p_60_22, p_60_23, p_60_24, p_60_25, p_60_28, p_60_29, p_60_33]
    · unfold Ret
      simp (disch := first | omega | ((simp (disch := omega) only [up_ne, up_eq, up_nj, gf_ne, gf_in, sa_ne, sa_eq]) <;> omega)) only [reduceIte, Bool.false_eq_true, if_pos, if_neg, up_ne, up_eq, up_nj, gf_ne, gf_in, sa_ne, sa_eq, and_self, true_and, and_true, p_103_0, p_103_1, p_103_2, p_103_5, p_103_6, p_103_7, q_103_10, p_103_13, p_103_16, p_103_17, p_103_18, q_103_21, p_103_24, p_103_27, p_103_28, p_103_29, p_103_33, p_103_34, p_103_35, p_103_36, p_103_38, p_103_40, p_103_41, p_103_42, p_103_45, p_103_46, p_103_49, p_103_50, p_103_52, p_103_53, p_103_57, p_103_60, p_103_63, p_103_64, p_103_67, p_103_68, p_103_71, p_103_72, p_103_77, p_103_78, p_103_82, p_103_83, p_103_85, p_103_87, p_103_90, q_103_91, p_103_94, q_103_96, p_103_99, p_103_100, p_103_102, p_103_104, p_103_107, p_103_110, p_103_111, p_103_116, p_103_118, p_103_121, p_103_122, q_103_124, p_103_127, p_103_128, p_103_134, p_103_137, p_103_140, p_103_142, p_103_143, p_103_144, p_103_146, p_103_148, p_103_150, p_103_153, p_103_154, p_103_157, p_103_159, p_103_160, p_103_163, p_103_165, p_103_166, p_103_167, p_103_173, p_103_179, p_103_180, p_103_183, p_103_184, p_103_185, p_103_186, q_103_187, p_103_190, p_103_193, p_103_194, p_103_196, p_103_198, p_103_199, p_103_202, p_103_205, p_103_206, p_103_209, p_103_211, p_103_212, p_103_215, p_103_217, p_103_218, p_103_219, p_103_225, p_103_226, p_103_230]
