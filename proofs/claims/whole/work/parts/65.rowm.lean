/-! row, the reference's whole -/
theorem c_ra {d : Nat} {l m : List Int} {G : AG} (hk : l.length ≤ 10) (hl : l.length = m.length) (hx : ∀ x ∈ l, 0 ≤ x ∧ x < 10) (hy : ∀ x ∈ m, 0 ≤ x ∧ x < 10) (hg : ∀ j : Int, 0 ≤ j → j < l.length → G 80 j = gt l j ∧ G 81 j = gt m j) :
    Ret d 102 [vR 54, vI (l.length : Int), vR 81, vU] G (some (vI (if lx l m = true then 1 else 0))) G := by
  have := (l_ra (d := d) (Q := fun r G1 => r = some (vI (if lx l m = true then 1 else 0)) ∧ G1 = G) (k := l.length) (G := G) (by omega) l m 0 (by omega) (by omega) hl hx hy (fun j q1 q2 => by rw [Int.zero_add]; exact hg j q1 q2)).mpr ⟨rfl, rfl⟩
  unfold Ret
  clear hg hx hy
  simp (disch := first | omega | ((simp (disch := omega) only [up_ne, up_eq, up_nj, gf_ne, gf_in, sa_ne, sa_eq]) <;> omega)) only [reduceIte, Bool.false_eq_true, if_pos, if_neg, up_ne, up_eq, up_nj, gf_ne, gf_in, sa_ne, sa_eq, and_self, true_and, and_true, p_102_0, p_102_1r]
  exact this
theorem l_cp1 {d : Nat} {Q : Option AV → AG → Prop} {day mm b w x5 : Int} {G1 : AG}
    (K : ∀ G' : AG, (∀ c : Nat, c ≠ 81 → G' c = G1 c) → (∀ j : Int, 0 ≤ j → j < 10 → G' 81 j = G1 80 j) → Ends d 103 173 [vR 54, vI day, vI mm, vI b, vI w, vI x5, vI 10] [] G' Q) :
    ∀ (m : Nat) (i : Int) (G : AG), 0 ≤ i → i + m = 10 → (∀ c : Nat, c ≠ 81 → G c = G1 c) → (∀ j : Int, 0 ≤ j → j < i → G 81 j = G1 80 j) → Ends d 103 146 [vR 54, vI day, vI mm, vI b, vI w, vI x5, vI i] [] G Q := by
  intro m
  induction m with
  | zero =>
    intro i G h0 h1 hE hc
    have e : i = 10 := by omega
    subst e
    have := K G hE hc
    clear K
    simp (disch := first | omega | ((simp (disch := omega) only [up_ne, up_eq, up_nj, gf_ne, gf_in, sa_ne, sa_eq]) <;> omega)) only [reduceIte, Bool.false_eq_true, if_pos, if_neg, up_ne, up_eq, up_nj, gf_ne, gf_in, sa_ne, sa_eq, and_self, true_and, and_true, p_103_146, p_103_148, p_103_150]
    exact this
  | succ m ih =>
    intro i G h0 h1 hE hc
    have e80 : G 80 i = G1 80 i := by rw [hE 80 (by decide)]
    simp (disch := first | omega | ((simp (disch := omega) only [up_ne, up_eq, up_nj, gf_ne, gf_in, sa_ne, sa_eq]) <;> omega)) only [reduceIte, Bool.false_eq_true, if_pos, if_neg, up_ne, up_eq, up_nj, gf_ne, gf_in, sa_ne, sa_eq, and_self, true_and, and_true, p_103_146, p_103_148, p_103_150, p_103_153, p_103_154, p_103_157, p_103_159, p_103_160, p_103_163, p_103_165, p_103_166, p_103_167, e80]
    rw [p_103_170]
    refine ih (i + 1) _ (by omega) (by omega) (fun c q => by rw [am_up_ne _ _ _ _ _ q, hE c q]) (fun j q1 q2 => ?_)
    by_cases u : j = i
    · rw [up_eq rfl u, u]
    · rw [up_nj u, hc j q1 (by omega)]
theorem l_cp2 {d : Nat} {Q : Option AV → AG → Prop} {day mm b n : Int} {G1 : AG} {l5 l6 : AV} (hn : 0 ≤ n ∧ n ≤ 10) (hN : G1 54 21 = n)
    (K : ∀ G' : AG, (∀ c : Nat, c ≠ 68 → G' c = G1 c) → (∀ j : Int, 0 ≤ j → j < n → G' 68 j = G1 81 j) → Ends d 103 225 [vR 54, vI day, vI mm, vI b, vI n, l5, l6] [] G' Q) :
    ∀ (m : Nat) (i : Int) (G : AG), 0 ≤ i → i + m = n → (∀ c : Nat, c ≠ 68 → G c = G1 c) → (∀ j : Int, 0 ≤ j → j < i → G 68 j = G1 81 j) → Ends d 103 196 [vR 54, vI day, vI mm, vI b, vI i, l5, l6] [] G Q := by
  intro m
  induction m with
  | zero =>
    intro i G h0 h1 hE hc
    have e : i = n := by omega
    subst e
    have e21 : G 54 21 = i := by rw [hE 54 (by decide), hN]
    have := K G hE hc
    clear K
    simp (disch := first | omega | ((simp (disch := omega) only [up_ne, up_eq, up_nj, gf_ne, gf_in, sa_ne, sa_eq]) <;> omega)) only [reduceIte, Bool.false_eq_true, if_pos, if_neg, up_ne, up_eq, up_nj, gf_ne, gf_in, sa_ne, sa_eq, and_self, true_and, and_true, p_103_196, p_103_198, p_103_199, p_103_202, e21]
    exact this
  | succ m ih =>
    intro i G h0 h1 hE hc
    have e21 : G 54 21 = n := by rw [hE 54 (by decide), hN]
    have e81 : G 81 i = G1 81 i := by rw [hE 81 (by decide)]
    simp (disch := first | omega | ((simp (disch := omega) only [up_ne, up_eq, up_nj, gf_ne, gf_in, sa_ne, sa_eq]) <;> omega)) only [reduceIte, Bool.false_eq_true, if_pos, if_neg, up_ne, up_eq, up_nj, gf_ne, gf_in, sa_ne, sa_eq, and_self, true_and, and_true, p_103_196, p_103_198, p_103_199, p_103_202, p_103_205, p_103_206, p_103_209, p_103_211, p_103_212, p_103_215, p_103_217, p_103_218, p_103_219, e81, e21]
    rw [p_103_222]
    refine ih (i + 1) _ (by omega) (by omega) (fun c q => by rw [am_up_ne _ _ _ _ _ q, hE c q]) (fun j q1 q2 => ?_)
    by_cases u : j = i
    · rw [up_eq rfl u, u]
    · rw [up_nj u, hc j q1 (by omega)]
theorem l_rw {d : Nat} {Q : Option AV → AG → Prop} {n day mm : Int} {fo : Int → Int → Bool} {F fw : Int → Int} {G1 : AG} {im : Int → Bool} (h : EN n fo F fw) (hC : CM G1) (hN : G1 54 19 = n) (hfo : ∀ p q : Int, fo p q = foM G1 p q) (h79 : ∀ x : Int, 0 ≤ x → x < (2 ^ n.toNat : Nat) → G1 79 x = F x) (hd : 0 ≤ day ∧ day ≤ 400) (hmm : 1 ≤ mm ∧ mm ≤ 300) (him : ∀ p : Int, 0 ≤ p → p < n → G1 66 p = if im p = true then 1 else 0)
    (K : ∀ (b : Int) (G' : AG) (l5 l6 : AV), b = bst (okW n F (rdM G1 day) im (G1 64) mm) (btr n F fw (G1 65)) (2 ^ n.toNat - 1) 1 0 → (∀ c : Nat, c ≠ 80 → c ≠ 81 → G' c = G1 c) → (b = 0 ∨ (1 ≤ b ∧ b < (2 ^ n.toNat : Nat) ∧ F b ≠ 0 ∧ ∀ j : Int, 0 ≤ j → j < n_bc b.toNat → G' 81 j = gt (rowOf F fw b) j)) → Ends (d + 4) 103 179 [vR 54, vI day, vI mm, vI b, vI ((2 ^ n.toNat : Nat) : Int), l5, l6] [] G' Q) :
    ∀ (m : Nat) (w b : Int) (G : AG) (l5 l6 : AV), 1 ≤ w → w + m = (2 ^ n.toNat : Nat) → bst (okW n F (rdM G1 day) im (G1 64) mm) (btr n F fw (G1 65)) m w b = bst (okW n F (rdM G1 day) im (G1 64) mm) (btr n F fw (G1 65)) (2 ^ n.toNat - 1) 1 0 → (∀ c : Nat, c ≠ 80 → c ≠ 81 → G c = G1 c) → (b = 0 ∨ (1 ≤ b ∧ b < w ∧ F b ≠ 0 ∧ ∀ j : Int, 0 ≤ j → j < n_bc b.toNat → G 81 j = gt (rowOf F fw b) j)) → Ends (d + 4) 103 38 [vR 54, vI day, vI mm, vI b, vI w, l5, l6] [] G Q := by
  obtain ⟨c1, c2, c3, c4, c5, c6, c7⟩ := id hC
  have hn : 0 ≤ n ∧ n ≤ 10 := by omega
  have hp : 2 ^ n.toNat ≤ 2 ^ 10 := Nat.pow_le_pow_right (by decide) (by omega)
  have hsh : f_shl 1 n = ((2 ^ n.toNat : Nat) : Int) := fi_shl hn.1 (by omega)
  intro m
  induction m with
  | zero =>
    intro w b G l5 l6 h0 h1 hb hE hbg
    have e19 : G 54 19 = n := by rw [hE 54 (by decide) (by decide), hN]
    have ew : w = ((2 ^ n.toNat : Nat) : Int) := by omega
    have hKK := K b G l5 l6 hb hE (by rcases hbg with q | q; exact Or.inl q; exact Or.inr ⟨q.1, by omega, q.2.2⟩)
    rw [← ew] at hKK
    clear K hbg
    generalize 2 ^ n.toNat = T at *
    simp (disch := first | omega | ((simp (disch := omega) only [up_ne, up_eq, up_nj, gf_ne, gf_in, sa_ne, sa_eq]) <;> omega)) only [reduceIte, Bool.false_eq_true, if_pos, if_neg, up_ne, up_eq, up_nj, gf_ne, gf_in, sa_ne, sa_eq, and_self, true_and, and_true, p_103_38, p_103_40, p_103_41, p_103_42, p_103_45, p_103_46, e19, hsh]
    exact hKK
  | succ m ih =>
    intro w b G l5 l6 h0 h1 hb hE hbg
    have e19 : G 54 19 = n := by rw [hE 54 (by decide) (by decide), hN]
    have hw2 : 0 ≤ w ∧ w < ((2 ^ n.toNat : Nat) : Int) := by omega
    have hCG : CM G := by
      unfold CM
      rw [hE 54 (by decide) (by decide), hE 64 (by decide) (by decide), hE 65 (by decide) (by decide), hE 66 (by decide) (by decide), hE 67 (by decide) (by decide), hE 63 (by decide) (by decide)]
      exact hC
    have hfoG : ∀ p q : Int, fo p q = foM G p q := fun p q => by
      rw [hfo p q]
      unfold foM nrM
      rw [hE 54 (by decide) (by decide), hE 55 (by decide) (by decide), hE 63 (by decide) (by decide)]
    have h79G : ∀ x : Int, 0 ≤ x → x < (2 ^ n.toNat : Nat) → G 79 x = F x := fun x q1 q2 => by rw [hE 79 (by decide) (by decide), h79 x q1 q2]
    have hrdG : rdM G day = rdM G1 day := by
      funext p
      unfold rdM
      rw [hE 67 (by decide) (by decide), hE 54 (by decide) (by decide)]
    have hF := h.rng (w := w) (by omega)
    have e79 := h79G w hw2.1 hw2.2
    have hbr : 0 ≤ b ∧ b < 1024 := by omega
    have r1 := c_mb (d := d + 2) (G := G) (n := n) (w := w) (day := day) (mm := mm) hCG e19 (by omega) hd hmm (by omega)
    have hsw : swf (G1 66) n w = swf (fun p => if im p = true then 1 else 0) n w := by
      unfold swf
      refine sumf_cong _ _ (fun k q1 q2 => ?_)
      show (if tb w k = true then G1 66 k else 0) = if tb w k = true then (if im k = true then 1 else 0) else 0
      rw [him k q1 (by omega)]
    have hok : ((!any (fun p => tb w p && !rdM G day p) n.toNat 0) && (decide (G 79 w ≠ 0) && (decide (swf (G 66) n w = 1) && decide (swf (G 64) n w ≤ mm)))) = okW n F (rdM G1 day) im (G1 64) mm w := by
      unfold okW
      rw [hrdG, e79, hE 66 (by decide) (by decide), hE 64 (by decide) (by decide), hsw]
    rw [hok] at r1
    rw [bst] at hb
    have nxt : ∀ (b' : Int) (G' : AG) (l5 l6 : AV), (∀ c : Nat, c ≠ 80 → c ≠ 81 → G' c = G1 c) → (b' = 0 ∨ (1 ≤ b' ∧ b' < w + 1 ∧ F b' ≠ 0 ∧ ∀ j : Int, 0 ≤ j → j < n_bc b'.toNat → G' 81 j = gt (rowOf F fw b') j)) → b' = (if (okW n F (rdM G1 day) im (G1 64) mm w && btr n F fw (G1 65) w b) = true then w else b) → Ends (d + 4) 103 173 [vR 54, vI day, vI mm, vI b', vI w, l5, l6] [] G' Q := by
      intro b' G' l5 l6 q1 q3 q4
      have := ih (w + 1) b' G' l5 l6 (by omega) (by omega) (by rw [q4]; exact hb) q1 q3
      clear ih K hb hbg q3
      simp (disch := first | omega | ((simp (disch := omega) only [up_ne, up_eq, up_nj, gf_ne, gf_in, sa_ne, sa_eq]) <;> omega)) only [reduceIte, Bool.false_eq_true, if_pos, if_neg, up_ne, up_eq, up_nj, gf_ne, gf_in, sa_ne, sa_eq, and_self, true_and, and_true, p_103_173]
      rw [p_103_176]
      exact this
    clear ih K
    by_cases v : okW n F (rdM G1 day) im (G1 64) mm w = true
    · rw [if_pos v] at r1
      have hF0 : F w ≠ 0 := by
        unfold okW at v
        rw [Bool.and_eq_true, Bool.and_eq_true, decide_eq_true_iff] at v
        exact v.2.1
      obtain ⟨r, G2, r2, hr, hE2, h80⟩ := (c_lay (d := d) (Q := fun r G2 => r = none ∧ (∀ b : Nat, b ≠ 80 → G2 b = G b) ∧ (∀ j : Int, 0 ≤ j → j < n_bc w.toNat → G2 80 j = gt (rowOf F fw w) j)) h hCG e19 hfoG h79G ⟨h0, hw2.2⟩ hF0 (fun G' q1 q2 => ⟨rfl, q1, q2⟩)).ret
      subst hr
      have hE12 : ∀ c : Nat, c ≠ 80 → c ≠ 81 → G2 c = G1 c := fun c q1 q2 => by rw [hE2 c q1, hE c q1 q2]
      have take : btr n F fw (G1 65) w b = true → ∀ x5 : Int, ∀ l6 : AV, Ends (d + 4) 103 140 [vR 54, vI day, vI mm, vI b, vI w, vI x5, l6] [] G2 Q := by
        intro x x5 l6
        have hc := l_cp1 (d := d + 4) (Q := Q) (day := day) (mm := mm) (b := w) (w := w) (x5 := x5) (G1 := G2) (fun G' q1 q2 => nxt w G' _ _ (fun c z1 z2 => by rw [q1 c z2, hE12 c z1 z2]) (Or.inr ⟨h0, by omega, hF0, fun j z1 z2 => by
          have := (bc_of (w := w) (by omega)).2.2.1
          rw [q2 j z1 (by omega), h80 j z1 z2]⟩) (by rw [v, x]; rfl)) 10 0 G2 (by omega) (by omega) (fun _ _ => rfl) (fun j _ _ => by omega)
        clear nxt hbg
        simp (disch := first | omega | ((simp (disch := omega) only [up_ne, up_eq, up_nj, gf_ne, gf_in, sa_ne, sa_eq]) <;> omega)) only [reduceIte, Bool.false_eq_true, if_pos, if_neg, up_ne, up_eq, up_nj, gf_ne, gf_in, sa_ne, sa_eq, and_self, true_and, and_true, p_103_140, p_103_142, p_103_143, p_103_144]
        exact hc
      have leave : btr n F fw (G1 65) w b = false → ∀ l5 l6 : AV, Ends (d + 4) 103 173 [vR 54, vI day, vI mm, vI b, vI w, l5, l6] [] G2 Q := by
        intro x l5 l6
        exact nxt b G2 l5 l6 hE12 (by rcases hbg with q | q; exact Or.inl q; exact Or.inr ⟨q.1, by omega, q.2.2.1, fun j z1 z2 => by rw [hE2 81 (by decide)]; exact q.2.2.2 j z1 z2⟩) (by rw [v, x]; rfl)
      have leave' : btr n F fw (G1 65) w b = false → ∀ l5 l6 : AV, Ends (d + 4) 103 173 [vR 54, vI day, vI mm, vI b, vI w, l5, l6] [] G Q := by
        intro x l5 l6
        exact nxt b G l5 l6 hE (by rcases hbg with q | q; exact Or.inl q; exact Or.inr ⟨q.1, by omega, q.2.2⟩) (by rw [v, x]; rfl)
      clear nxt
      rcases hbg with hb0 | ⟨hb1, hb2, hb3, hb4⟩
      · have hbt : btr n F fw (G1 65) w b = true := by unfold btr; rw [if_pos hb0]
        have tk := take hbt 1
        clear take leave leave' hb
        simp (disch := first | omega | ((simp (disch := omega) only [up_ne, up_eq, up_nj, gf_ne, gf_in, sa_ne, sa_eq]) <;> omega)) only [reduceIte, Bool.false_eq_true, if_pos, if_neg, up_ne, up_eq, up_nj, gf_ne, gf_in, sa_ne, sa_eq, and_self, true_and, and_true, p_103_38, p_103_40, p_103_41, p_103_42, p_103_45, p_103_46, p_103_49, p_103_50, p_103_52, p_103_53, e19, hsh]
        rw [p_103_54 (d := d + 3) r1]
        simp (disch := first | omega | ((simp (disch := omega) only [up_ne, up_eq, up_nj, gf_ne, gf_in, sa_ne, sa_eq]) <;> omega)) only [reduceIte, Bool.false_eq_true, if_pos, if_neg, up_ne, up_eq, up_nj, gf_ne, gf_in, sa_ne, sa_eq, and_self, true_and, and_true, p_103_57, p_103_60, p_103_63, p_103_64, p_103_67, p_103_68, p_103_71, p_103_72, p_103_77, p_103_78, p_103_82, p_103_83, p_103_85, p_103_87, p_103_90, q_103_91, p_103_94, q_103_96, p_103_99, p_103_100, p_103_102, p_103_104, p_103_107, p_103_110, p_103_111]
        rw [p_103_113 (d := d + 3) r2]
        simp (disch := first | omega | ((simp (disch := omega) only [up_ne, up_eq, up_nj, gf_ne, gf_in, sa_ne, sa_eq]) <;> omega)) only [reduceIte, Bool.false_eq_true, if_pos, if_neg, up_ne, up_eq, up_nj, gf_ne, gf_in, sa_ne, sa_eq, and_self, true_and, and_true, p_103_116, p_103_118]
        exact tk _
      · have hf65 : ∀ i : Int, 0 ≤ i → i < 10 → 0 ≤ G 65 i ∧ G 65 i ≤ 100 := fun i q1 q2 => by
          rw [hE 65 (by decide) (by decide)]
          have := c7 i q1 q2
          omega
        have hr1 := swf_rng (f := G 65) (n := n) (w := w) (c := 100) hn (by omega) hf65
        have hr2 := swf_rng (f := G 65) (n := n) (w := b) (c := 100) hn (by omega) hf65
        have s1 := c_smM (d := d + 3) (n := n) (w := w) (G := G) hn e19 (by omega) hf65
        have s2 := c_smM (d := d + 3) (n := n) (w := b) (G := G) hn e19 (by omega) hf65
        rw [hE 65 (by decide) (by decide)] at hr1 hr2 s1 s2
        obtain ⟨w1, -, w2, -⟩ := bc_of (w := w) (by omega)
        obtain ⟨v1, -, v2, -⟩ := bc_of (w := b) (by omega)
        have hlw := rws_len (F := F) (fw := fw) (n_bc w.toNat) w (F w)
        have hlb := rws_len (F := F) (fw := fw) (n_bc b.toNat) b (F b)
        have hdw := rws_dig h (n_bc w.toNat) w (F w) (gw_first h (by omega) hF0) rfl
        have hdb := rws_dig h (n_bc b.toNat) b (F b) (gw_first h (by omega) hb3) rfl
        have r3 : n_bc w.toNat = n_bc b.toNat → Ret (d + 3) 102 [vR 54, vI (n_bc w.toNat : Int), vR 81, vU] G2 (some (vI (if lx (rowOf F fw w) (rowOf F fw b) = true then 1 else 0))) G2 := by
          intro e
          have hrl : (rowOf F fw w).length = n_bc w.toNat := hlw
          have hrb : (rowOf F fw b).length = n_bc b.toNat := hlb
          have := c_ra (d := d + 3) (l := rowOf F fw w) (m := rowOf F fw b) (G := G2) (by omega) (by omega) (fun x hx => by have := hdw x hx; omega) (fun x hx => by have := hdb x hx; omega) (fun j q1 q2 => ⟨h80 j q1 (by omega), by rw [hE2 81 (by decide), hb4 j q1 (by omega)]⟩)
          rw [hrl] at this
          exact this
        have hbtr : btr n F fw (G1 65) w b = if swf (G1 65) n w ≠ swf (G1 65) n b then decide (swf (G1 65) n b < swf (G1 65) n w) else if n_bc w.toNat ≠ n_bc b.toNat then decide (n_bc w.toNat < n_bc b.toNat) else lx (rowOf F fw w) (rowOf F fw b) := by
          unfold btr
          rw [if_neg (show ¬ b = 0 by omega)]
        clear hb4 hdw hdb h80 hf65 hfoG h79G hb hrdG
        rw [hbtr] at take leave leave'
        generalize lx (rowOf F fw w) (rowOf F fw b) = L at *
        generalize swf (G1 65) n w = Sw at *
        generalize swf (G1 65) n b = Sb at *
        simp (disch := first | omega | ((simp (disch := omega) only [up_ne, up_eq, up_nj, gf_ne, gf_in, sa_ne, sa_eq]) <;> omega)) only [reduceIte, Bool.false_eq_true, if_pos, if_neg, up_ne, up_eq, up_nj, gf_ne, gf_in, sa_ne, sa_eq, and_self, true_and, and_true, p_103_38, p_103_40, p_103_41, p_103_42, p_103_45, p_103_46, p_103_49, p_103_50, p_103_52, p_103_53, e19, hsh]
        rw [p_103_54 (d := d + 3) r1]
        simp (disch := first | omega | ((simp (disch := omega) only [up_ne, up_eq, up_nj, gf_ne, gf_in, sa_ne, sa_eq]) <;> omega)) only [reduceIte, Bool.false_eq_true, if_pos, if_neg, up_ne, up_eq, up_nj, gf_ne, gf_in, sa_ne, sa_eq, and_self, true_and, and_true, p_103_57, p_103_60, p_103_63, p_103_64, p_103_67, p_103_68, p_103_71, p_103_72]
        rw [p_103_74 (d := d + 3) s1]
        simp (disch := first | omega | ((simp (disch := omega) only [up_ne, up_eq, up_nj, gf_ne, gf_in, sa_ne, sa_eq]) <;> omega)) only [reduceIte, Bool.false_eq_true, if_pos, if_neg, up_ne, up_eq, up_nj, gf_ne, gf_in, sa_ne, sa_eq, and_self, true_and, and_true, p_103_77, p_103_78]
        rw [p_103_79 (d := d + 3) s2]
        by_cases a1 : Sw = Sb
        · rw [if_neg (show ¬ (Sw ≠ Sb) from fun z => z a1)] at take leave leave'
          by_cases a2 : n_bc w.toNat = n_bc b.toNat
          · rw [if_neg (show ¬ (n_bc w.toNat ≠ n_bc b.toNat) from fun z => z a2)] at take leave leave'
            have r3 := r3 a2
            simp (disch := first | omega | ((simp (disch := omega) only [up_ne, up_eq, up_nj, gf_ne, gf_in, sa_ne, sa_eq]) <;> omega)) only [reduceIte, Bool.false_eq_true, if_pos, if_neg, up_ne, up_eq, up_nj, gf_ne, gf_in, sa_ne, sa_eq, and_self, true_and, and_true, p_103_82, p_103_83, p_103_85, p_103_87, p_103_90, q_103_91, p_103_94, q_103_96, p_103_99, p_103_100, p_103_102, p_103_104, p_103_107, p_103_110, p_103_111, v1, w1]
            rw [p_103_113 (d := d + 3) r2]
            simp (disch := first | omega | ((simp (disch := omega) only [up_ne, up_eq, up_nj, gf_ne, gf_in, sa_ne, sa_eq]) <;> omega)) only [reduceIte, Bool.false_eq_true, if_pos, if_neg, up_ne, up_eq, up_nj, gf_ne, gf_in, sa_ne, sa_eq, and_self, true_and, and_true, p_103_116, p_103_118, p_103_121, p_103_122, q_103_124, p_103_127, p_103_128, w1]
            rw [p_103_131 (d := d + 3) r3]
            cases L
            · have lv := leave rfl
              clear take leave leave'
              simp (disch := first | omega | ((simp (disch := omega) only [up_ne, up_eq, up_nj, gf_ne, gf_in, sa_ne, sa_eq]) <;> omega)) only [reduceIte, Bool.false_eq_true, if_pos, if_neg, up_ne, up_eq, up_nj, gf_ne, gf_in, sa_ne, sa_eq, and_self, true_and, and_true, p_103_134, p_103_137]
              exact lv _ _
            · have tk := take rfl
              clear take leave leave'
              simp (disch := first | omega | ((simp (disch := omega) only [up_ne, up_eq, up_nj, gf_ne, gf_in, sa_ne, sa_eq]) <;> omega)) only [reduceIte, Bool.false_eq_true, if_pos, if_neg, up_ne, up_eq, up_nj, gf_ne, gf_in, sa_ne, sa_eq, and_self, true_and, and_true, p_103_134, p_103_137]
              exact tk _ _
          · rw [if_pos (show n_bc w.toNat ≠ n_bc b.toNat from a2)] at take leave leave'
            by_cases a3 : n_bc w.toNat < n_bc b.toNat
            · have tk := take (decide_eq_true a3)
              clear take leave leave'
              simp (disch := first | omega | ((simp (disch := omega) only [up_ne, up_eq, up_nj, gf_ne, gf_in, sa_ne, sa_eq]) <;> omega)) only [reduceIte, Bool.false_eq_true, if_pos, if_neg, up_ne, up_eq, up_nj, gf_ne, gf_in, sa_ne, sa_eq, and_self, true_and, and_true, p_103_82, p_103_83, p_103_85, p_103_87, p_103_90, q_103_91, p_103_94, q_103_96, p_103_99, p_103_100, p_103_102, p_103_104, p_103_107, p_103_110, p_103_111, v1, w1]
              rw [p_103_113 (d := d + 3) r2]
              simp (disch := first | omega | ((simp (disch := omega) only [up_ne, up_eq, up_nj, gf_ne, gf_in, sa_ne, sa_eq]) <;> omega)) only [reduceIte, Bool.false_eq_true, if_pos, if_neg, up_ne, up_eq, up_nj, gf_ne, gf_in, sa_ne, sa_eq, and_self, true_and, and_true, p_103_116, p_103_118]
              exact tk _ _
            · have lv := leave' (decide_eq_false a3)
              clear take leave leave'
              simp (disch := first | omega | ((simp (disch := omega) only [up_ne, up_eq, up_nj, gf_ne, gf_in, sa_ne, sa_eq]) <;> omega)) only [reduceIte, Bool.false_eq_true, if_pos, if_neg, up_ne, up_eq, up_nj, gf_ne, gf_in, sa_ne, sa_eq, and_self, true_and, and_true, p_103_82, p_103_83, p_103_85, p_103_87, p_103_90, q_103_91, p_103_94, q_103_96, p_103_99, p_103_100, p_103_102, p_103_104, p_103_107, v1, w1]
              exact lv _ _
        · rw [if_pos (show Sw ≠ Sb from a1)] at take leave leave'
          by_cases a3 : Sb < Sw
          · have tk := take (decide_eq_true a3)
            clear take leave leave'
            simp (disch := first | omega | ((simp (disch := omega) only [up_ne, up_eq, up_nj, gf_ne, gf_in, sa_ne, sa_eq]) <;> omega)) only [reduceIte, Bool.false_eq_true, if_pos, if_neg, up_ne, up_eq, up_nj, gf_ne, gf_in, sa_ne, sa_eq, and_self, true_and, and_true, p_103_82, p_103_83, p_103_85, p_103_87, p_103_90, q_103_91, p_103_94, q_103_96, p_103_99, p_103_100, p_103_102, p_103_104, p_103_107, p_103_110, p_103_111]
            rw [p_103_113 (d := d + 3) r2]
            simp (disch := first | omega | ((simp (disch := omega) only [up_ne, up_eq, up_nj, gf_ne, gf_in, sa_ne, sa_eq]) <;> omega)) only [reduceIte, Bool.false_eq_true, if_pos, if_neg, up_ne, up_eq, up_nj, gf_ne, gf_in, sa_ne, sa_eq, and_self, true_and, and_true, p_103_116, p_103_118]
            exact tk _ _
          · have lv := leave' (decide_eq_false a3)
            clear take leave leave'
            simp (disch := first | omega | ((simp (disch := omega) only [up_ne, up_eq, up_nj, gf_ne, gf_in, sa_ne, sa_eq]) <;> omega)) only [reduceIte, Bool.false_eq_true, if_pos, if_neg, up_ne, up_eq, up_nj, gf_ne, gf_in, sa_ne, sa_eq, and_self, true_and, and_true, p_103_82, p_103_83, p_103_85, p_103_87, p_103_90, q_103_91, p_103_94, q_103_96, p_103_99, p_103_100, p_103_102, p_103_104, p_103_107]
            exact lv _ _
    · rw [if_neg v] at r1
      have lv := nxt b G l5 l6 hE (by rcases hbg with q | q; exact Or.inl q; exact Or.inr ⟨q.1, by omega, q.2.2⟩) (by rw [if_neg (fun z => v (by rw [Bool.and_eq_true] at z; exact z.1))])
      clear nxt hbg hb
      simp (disch := first | omega | ((simp (disch := omega) only [up_ne, up_eq, up_nj, gf_ne, gf_in, sa_ne, sa_eq]) <;> omega)) only [reduceIte, Bool.false_eq_true, if_pos, if_neg, up_ne, up_eq, up_nj, gf_ne, gf_in, sa_ne, sa_eq, and_self, true_and, and_true, p_103_38, p_103_40, p_103_41, p_103_42, p_103_45, p_103_46, p_103_49, p_103_50, p_103_52, p_103_53, e19, hsh]
      rw [p_103_54 (d := d + 3) r1]
      simp (disch := first | omega | ((simp (disch := omega) only [up_ne, up_eq, up_nj, gf_ne, gf_in, sa_ne, sa_eq]) <;> omega)) only [reduceIte, Bool.false_eq_true, if_pos, if_neg, up_ne, up_eq, up_nj, gf_ne, gf_in, sa_ne, sa_eq, and_self, true_and, and_true, p_103_57, p_103_60]
      exact lv
