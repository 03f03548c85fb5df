/-! the class's rows, found -/
theorem sumf_app {p : Int → Int} : ∀ (a b : Nat) (i : Int), sumf p (a + b) i = sumf p a i + sumf p b (i + a)
  | 0, b, i => by simp [sumf]
  | a + 1, b, i => by
    rw [show a + 1 + b = (a + b) + 1 by omega, sumf, sumf, sumf_app a b (i + 1), show i + 1 + (a : Int) = i + ((a + 1 : Nat) : Int) by omega, Int.add_assoc]
theorem sumf_zero {p : Int → Int} : ∀ (m : Nat) (i : Int), (∀ k : Int, i ≤ k → k < i + m → p k = 0) → sumf p m i = 0
  | 0, _, _ => rfl
  | m + 1, i, h => by rw [sumf, h i (by omega) (by omega), sumf_zero m (i + 1) (fun k q1 q2 => h k (by omega) (by omega))]; rfl
/-- the mains of a set, counted both ways -/
theorem mains_eq {n w M : Int} {im : Int → Bool} (hn : 0 ≤ n ∧ n ≤ 10) (hw : 0 ≤ w ∧ w < (2 ^ n.toNat : Nat)) (hM : 0 ≤ M ∧ M < 1024) (him : ∀ p : Int, 0 ≤ p → p < n → im p = tb M p) : f_bc (f_and w M) = swf (fun p => if im p = true then 1 else 0) n w := by
  have hp : 2 ^ n.toNat ≤ 2 ^ 10 := Nat.pow_le_pow_right (by decide) (by omega)
  have hw2 : 0 ≤ w ∧ w < 1024 := by omega
  have har := f_and_rng2 hw2 hM
  obtain ⟨b1, -, -, b2⟩ := bc_of har
  rw [b1, b2, show (10 : Nat) = n.toNat + (10 - n.toNat) by omega, sumf_app, sumf_zero (10 - n.toNat) _ (fun k q1 q2 => ?_), Int.add_zero]
  · unfold swf
    refine sumf_cong _ _ (fun k q1 q2 => ?_)
    show (if tb (f_and w M) k = true then (1 : Int) else 0) = if tb w k = true then (if im k = true then 1 else 0) else 0
    rw [tb_and2 hw2 hM, him k q1 (by omega)]
    cases tb w k <;> cases tb M k <;> rfl
  · show (if tb (f_and w M) k = true then (1 : Int) else 0) = 0
    rw [tb_and2 hw2 hM, tb_hi hw.1 hw.2 (by omega), Bool.false_and]
    rfl
theorem c_good {d : Nat} {n w mm f : Int} {G : AG} (hC : CX G) (hN : G 33 9 = n) (hw : 0 ≤ w ∧ w < 1024) (hmm : 1 ≤ mm ∧ mm ≤ 300) (h40 : G 40 w = f) (hf : 0 ≤ f ∧ f < 1024) :
    Ret (d + 2) 18 [vR 33, vI w, vI mm] G (some (vI (if (decide (f ≠ 0) && (decide (f_bc (f_and w (G 33 8)) = 1) && decide (swf (G 35) n w ≤ mm))) = true then 1 else 0))) G := by
  obtain ⟨c1, c2, c3, c4, c5, c6, c7, c8, c9⟩ := id hC
  have hr := swf_rng (f := G 35) (n := n) (w := w) (c := 90) (by omega) (by omega) (fun i q1 q2 => by have := c9 i q1 q2; omega)
  obtain ⟨b1, -, b2, -⟩ := bc_of (f_and_rng2 hw ⟨c5, c6⟩)
  unfold Ret
  by_cases u : f = 0
  · simp (disch := first | omega | ((simp (disch := omega) only [up_ne, up_eq, up_nj, gf_ne, gf_in, sa_ne, sa_eq]) <;> omega)) only [reduceIte, Bool.false_eq_true, if_pos, if_neg, up_ne, up_eq, up_nj, gf_ne, gf_in, sa_ne, sa_eq, and_self, true_and, and_true, p_18_0, p_18_1, p_18_4, p_18_5, p_18_6, p_18_9, p_18_10, p_18_11, p_18_14, q_18_15, p_18_18, p_18_19, p_18_22, p_18_23, p_18_24, p_18_27, p_18_31, p_18_32, p_18_35, p_18_36, p_18_39, p_18_40, h40]
    rw [u]
    rfl
  · by_cases v : f_bc (f_and w (G 33 8)) = 1
    · simp (disch := first | omega | ((simp (disch := omega) only [up_ne, up_eq, up_nj, gf_ne, gf_in, sa_ne, sa_eq]) <;> omega)) only [reduceIte, Bool.false_eq_true, if_pos, if_neg, up_ne, up_eq, up_nj, gf_ne, gf_in, sa_ne, sa_eq, and_self, true_and, and_true, p_18_0, p_18_1, p_18_4, p_18_5, p_18_6, p_18_9, p_18_10, p_18_11, p_18_14, q_18_15, p_18_18, p_18_19, p_18_22, p_18_23, p_18_24, p_18_27, p_18_31, p_18_32, p_18_35, p_18_36, p_18_39, p_18_40, h40]
      rw [p_18_28 (d := d + 1) (c_sm (d := d) (n := n) rfl (by omega) hN hw (fun i q1 q2 => by have := c9 i q1 q2; omega))]
      by_cases x : swf (G 35) n w ≤ mm
      · simp (disch := first | omega | ((simp (disch := omega) only [up_ne, up_eq, up_nj, gf_ne, gf_in, sa_ne, sa_eq]) <;> omega)) only [reduceIte, Bool.false_eq_true, if_pos, if_neg, up_ne, up_eq, up_nj, gf_ne, gf_in, sa_ne, sa_eq, and_self, true_and, and_true, p_18_31, p_18_32, p_18_35, p_18_36, p_18_39, p_18_40]
        rw [decide_eq_true u, decide_eq_true v, decide_eq_true x]
        rfl
      · simp (disch := first | omega | ((simp (disch := omega) only [up_ne, up_eq, up_nj, gf_ne, gf_in, sa_ne, sa_eq]) <;> omega)) only [reduceIte, Bool.false_eq_true, if_pos, if_neg, up_ne, up_eq, up_nj, gf_ne, gf_in, sa_ne, sa_eq, and_self, true_and, and_true, p_18_31, p_18_32, p_18_35, p_18_36, p_18_39, p_18_40]
        rw [decide_eq_true u, decide_eq_true v, decide_eq_false x]
        rfl
    · simp (disch := first | omega | ((simp (disch := omega) only [up_ne, up_eq, up_nj, gf_ne, gf_in, sa_ne, sa_eq]) <;> omega)) only [reduceIte, Bool.false_eq_true, if_pos, if_neg, up_ne, up_eq, up_nj, gf_ne, gf_in, sa_ne, sa_eq, and_self, true_and, and_true, p_18_0, p_18_1, p_18_4, p_18_5, p_18_6, p_18_9, p_18_10, p_18_11, p_18_14, q_18_15, p_18_18, p_18_19, p_18_22, p_18_23, p_18_24, p_18_27, p_18_31, p_18_32, p_18_35, p_18_36, p_18_39, p_18_40, h40]
      rw [decide_eq_true u, decide_eq_false v]
      rfl
/-- only pieces that are ready -/
def sub (rd : Int → Bool) (x : Int) : Prop := ∀ p : Int, 0 ≤ p → p < 10 → tb x p = true → rd p = true
theorem sub_clr {rd : Int → Bool} {x p : Int} (h : sub rd x) (hp : 0 ≤ p) : sub rd (wb x p false) := by
  intro q q1 q2 q3
  rw [tb_wb hp q1] at q3
  by_cases u : q = p
  · rw [if_pos u] at q3
    cases q3
  · rw [if_neg u] at q3
    exact h q q1 q2 q3
theorem l_fr {d : Nat} {Q : Option AV → AG → Prop} {n w0 B : Int} {fo : Int → Int → Bool} {F fw : Int → Int} {rd : Int → Bool} {G : AG} (h : EN n fo F fw) (hN : G 33 9 = n) (h40 : ∀ x : Int, 0 ≤ x → x ≤ B → sub rd x → G 40 x = F x) (h38 : ∀ p : Int, 0 ≤ p → p < n → G 38 p = fw p) :
    ∀ (k : Nat) (w z : Int) (t : Nat) (acc : Int) (l7 : AV), GW F w z → n_bc w.toNat = k → t + k ≤ n.toNat → 0 ≤ acc → acc < (10 ^ t : Nat) → w ≤ B → sub rd w → (Ends (d + 1) 21 16 [vR 33, vI w0, vL acc, vU, vI w, vI z, vI t, l7] [] G Q ↔ Q (some (vL (nm acc (rws F fw k w z)))) G) := by
  have hn1 := h.1
  have hn2 := h.2.1
  have hd0 : decide ((0 : Int) = 1) = false := by decide
  intro k
  induction k with
  | zero =>
    intro w z t acc l7 hG hk ht ha0 ha1 hB hsub
    have hw0 : w = 0 := (bc_of hG.1).2.1 hk
    have hz0 : z = 0 := hG.2.2.2.mp hw0
    rw [rws, nm]
    clear hG
    by_cases u : n ≤ t
    · simp (disch := first | omega | ((simp (disch := omega) only [up_ne, up_eq, up_nj, gf_ne, gf_in, sa_ne, sa_eq]) <;> omega)) only [reduceIte, Bool.false_eq_true, if_pos, if_neg, up_ne, up_eq, up_nj, gf_ne, gf_in, sa_ne, sa_eq, and_self, true_and, and_true, p_21_16, p_21_18, p_21_19, p_21_22, p_21_25, p_21_27, p_21_80, p_21_81, hN]
    · simp (disch := first | omega | ((simp (disch := omega) only [up_ne, up_eq, up_nj, gf_ne, gf_in, sa_ne, sa_eq]) <;> omega)) only [reduceIte, Bool.false_eq_true, if_pos, if_neg, up_ne, up_eq, up_nj, gf_ne, gf_in, sa_ne, sa_eq, and_self, true_and, and_true, p_21_16, p_21_18, p_21_19, p_21_22, p_21_25, p_21_27, p_21_80, p_21_81, hN]
  | succ k ih =>
    intro w z t acc l7 hG hk ht ha0 ha1 hB hsub
    have hw0 : w ≠ 0 := by
      intro e
      have h00 : n_bc (Int.toNat 0) = 0 := by decide
      rw [e] at hk
      omega
    have hz := hG.2.1
    have hz0 : z ≠ 0 := fun e => hw0 (hG.2.2.2.mpr e)
    have hwr := hG.1
    obtain ⟨s1, s2, s3, s4, s5, s6, s7, s8, s9⟩ := gw_step h hG hw0
    have hwc := (wb_clr hwr ⟨s1, by omega⟩ s4).1
    have e40 := h40 (wb w (lb z) false) hwc (by omega) (sub_clr hsub s1)
    have e38 := h38 (lb z) s1 s2
    have hten : 10 ^ t ≤ 10 ^ 9 := Nat.pow_le_pow_right (by decide) (by omega)
    have hih := ih (wb w (lb z) false) (f_and (F (wb w (lb z) false)) (fw (lb z))) (t + 1) (10 * acc + lb z) (vI (lb z)) s6 (by omega) (by omega) (by omega) (by rw [Nat.pow_succ]; omega) (by omega) (sub_clr hsub s1)
    rw [rws, nm]
    generalize hpt : 10 ^ t = P at *
    clear ih hG s6 s5 h40 h38 hsub
    simp (disch := first | omega | ((simp (disch := omega) only [up_ne, up_eq, up_nj, gf_ne, gf_in, sa_ne, sa_eq]) <;> omega)) only [reduceIte, Bool.false_eq_true, if_pos, if_neg, up_ne, up_eq, up_nj, gf_ne, gf_in, sa_ne, sa_eq, and_self, true_and, and_true, p_21_16, p_21_18, p_21_19, p_21_22, p_21_25, p_21_27, p_21_30, q_21_32, p_21_35, p_21_37, p_21_38, p_21_41, p_21_42, p_21_44, p_21_45, p_21_46, p_21_47, p_21_49, p_21_51, q_21_52, p_21_55, p_21_55r, p_21_55u, p_21_57, p_21_58, p_21_61, p_21_63, p_21_64, p_21_65, p_21_68, p_21_70, p_21_71, p_21_72, p_21_74, hN, e40, e38, hd0]
    rw [p_21_77, show acc * 10 + lb z = 10 * acc + lb z by omega, show (t : Int) + 1 = ((t + 1 : Nat) : Int) by omega]
    exact hih
theorem c_fr {d : Nat} {n w : Int} {fo : Int → Int → Bool} {F fw : Int → Int} {rd : Int → Bool} {G : AG} (h : EN n fo F fw) (hN : G 33 9 = n) (h40 : ∀ x : Int, 0 ≤ x → x ≤ w → sub rd x → G 40 x = F x) (h38 : ∀ p : Int, 0 ≤ p → p < n → G 38 p = fw p) (hw : 1 ≤ w ∧ w < 1024) (hF : F w ≠ 0) (hsub : sub rd w) (hk : n_bc w.toNat ≤ n.toNat) :
    Ret (d + 1) 21 [vR 33, vI w, vU, vU, vU, vU, vU, vU] G (some (vL (nm 0 (rowOf F fw w)))) G := by
  have e40 := h40 w (by omega) (by omega) hsub
  have hr := h.rng (w := w) (by omega)
  unfold Ret
  simp (disch := first | omega | ((simp (disch := omega) only [up_ne, up_eq, up_nj, gf_ne, gf_in, sa_ne, sa_eq]) <;> omega)) only [reduceIte, Bool.false_eq_true, if_pos, if_neg, up_ne, up_eq, up_nj, gf_ne, gf_in, sa_ne, sa_eq, and_self, true_and, and_true, p_21_0, p_21_1, p_21_2, p_21_3, p_21_3r, p_21_3u, p_21_5, p_21_6, p_21_9, p_21_10, p_21_11, p_21_13, p_21_14, e40]
  have hl := l_fr (d := d) (w0 := w) (B := w) (Q := fun r' G'' => r' = some (vL (nm 0 (rowOf F fw w))) ∧ G'' = G) h hN h40 h38 (n_bc w.toNat) w (F w) 0 0 vU (gw_first h hw hF) rfl (by omega) (by omega) (by decide) (by omega) hsub
  refine hl.mpr ⟨rfl, rfl⟩
theorem bc_le {n w : Int} (hn : 0 ≤ n ∧ n ≤ 10) (hw : 0 ≤ w ∧ w < (2 ^ n.toNat : Nat)) : n_bc w.toNat ≤ n.toNat := by
  have hp : 2 ^ n.toNat ≤ 2 ^ 10 := Nat.pow_le_pow_right (by decide) (by omega)
  obtain ⟨-, -, -, b2⟩ := bc_of (w := w) (by omega)
  rw [show (10 : Nat) = n.toNat + (10 - n.toNat) by omega, sumf_app, sumf_zero (10 - n.toNat) _ (fun k q1 q2 => by
    show (if tb w k = true then (1 : Int) else 0) = 0
    rw [tb_hi hw.1 hw.2 (by omega)]
    rfl), Int.add_zero] at b2
  have := sumf_rng (p := fun p => if tb w p = true then (1 : Int) else 0) (c := 1) n.toNat 0 (fun k q1 q2 => by
    show 0 ≤ (if tb w k = true then (1 : Int) else 0) ∧ (if tb w k = true then (1 : Int) else 0) ≤ 1
    split <;> omega)
  omega
theorem c_btr {d : Nat} {n w b : Int} {fo : Int → Int → Bool} {F fw : Int → Int} {rd : Int → Bool} {G : AG} (h : EN n fo F fw) (hC : CX G) (hN : G 33 9 = n) (h40 : ∀ x : Int, 0 ≤ x → x ≤ w → sub rd x → G 40 x = F x) (h38 : ∀ p : Int, 0 ≤ p → p < n → G 38 p = fw p) (hw : 1 ≤ w ∧ w < (2 ^ n.toNat : Nat)) (hF : F w ≠ 0) (hsub : sub rd w)
    (hb : b = 0 ∨ (1 ≤ b ∧ b < w ∧ F b ≠ 0 ∧ sub rd b)) :
    Ret (d + 2) 19 [vR 33, vI w, vI b, vU, vU] G (some (vI (if btr n F fw (G 36) w b = true then 1 else 0))) G := by
  obtain ⟨c1, c2, c3, c4, c5, c6, c7, c8, c9⟩ := id hC
  have hn : 0 ≤ n ∧ n ≤ 10 := by omega
  have hp : 2 ^ n.toNat ≤ 2 ^ 10 := Nat.pow_le_pow_right (by decide) (by omega)
  have hf36 : ∀ i : Int, 0 ≤ i → i < 10 → 0 ≤ G 36 i ∧ G 36 i ≤ 100 := fun i q1 q2 => by have := c9 i q1 q2; omega
  unfold Ret
  rcases hb with hb0 | ⟨hb1, hb2, hb3, hb4⟩
  · unfold btr
    simp (disch := first | omega | ((simp (disch := omega) only [up_ne, up_eq, up_nj, gf_ne, gf_in, sa_ne, sa_eq]) <;> omega)) only [reduceIte, Bool.false_eq_true, if_pos, if_neg, up_ne, up_eq, up_nj, gf_ne, gf_in, sa_ne, sa_eq, and_self, true_and, and_true, p_19_0, p_19_1, p_19_4, p_19_5]
  · have hr1 := swf_rng (f := G 36) (n := n) (w := w) (c := 100) hn (by omega) hf36
    have hr2 := swf_rng (f := G 36) (n := n) (w := b) (c := 100) hn (by omega) hf36
    obtain ⟨w1, -, w2, -⟩ := bc_of (w := w) (by omega)
    obtain ⟨v1, -, v2, -⟩ := bc_of (w := b) (by omega)
    have hlw := rws_len (F := F) (fw := fw) (n_bc w.toNat) w (F w)
    have hlb := rws_len (F := F) (fw := fw) (n_bc b.toNat) b (F b)
    have hdw := rws_dig h (n_bc w.toNat) w (F w) (gw_first h (by omega) hF) rfl
    have hdb := rws_dig h (n_bc b.toNat) b (F b) (gw_first h (by omega) hb3) rfl
    have hnw := nm_rng (rowOf F fw w) 0 1 (by omega) (by omega) (fun x hx => by have := hdw x hx; omega)
    have hnb := nm_rng (rowOf F fw b) 0 1 (by omega) (by omega) (fun x hx => by have := hdb x hx; omega)
    have hten1 : 10 ^ (rowOf F fw w).length ≤ 10 ^ 10 := Nat.pow_le_pow_right (by decide) (by unfold rowOf; omega)
    have hten2 : 10 ^ (rowOf F fw b).length ≤ 10 ^ 10 := Nat.pow_le_pow_right (by decide) (by unfold rowOf; omega)
    have hlx : n_bc w.toNat = n_bc b.toNat → lx (rowOf F fw w) (rowOf F fw b) = decide (nm 0 (rowOf F fw w) < nm 0 (rowOf F fw b)) := fun e => lx_nm _ _ 0 (by unfold rowOf; omega) (fun x hx => by have := hdw x hx; omega) (fun x hx => by have := hdb x hx; omega)
    have r1 := c_fr (d := d) h hN h40 h38 (w := w) (by omega) hF hsub (bc_le hn (by omega))
    have r2 := c_fr (d := d) h hN (fun x q1 q2 => h40 x q1 (by omega)) h38 (w := b) (by omega) hb3 hb4 (bc_le hn (by omega))
    have r3 := c_sm (d := d) (n := n) (a := 36) (w := w) rfl hn hN (by omega) hf36
    have r4 := c_sm (d := d) (n := n) (a := 36) (w := b) rfl hn hN (by omega) hf36
    clear h40 h38 hdw hdb
    unfold btr
    rw [if_neg (show ¬ b = 0 by omega)]
    generalize nm 0 (rowOf F fw w) = Nw at *
    generalize nm 0 (rowOf F fw b) = Nb at *
    generalize 10 ^ (rowOf F fw w).length = T1 at *
    generalize 10 ^ (rowOf F fw b).length = T2 at *
    generalize lx (rowOf F fw w) (rowOf F fw b) = L at *
    generalize swf (G 36) n w = Sw at *
    generalize swf (G 36) n b = Sb at *
    simp (disch := first | omega | ((simp (disch := omega) only [up_ne, up_eq, up_nj, gf_ne, gf_in, sa_ne, sa_eq]) <;> omega)) only [reduceIte, Bool.false_eq_true, if_pos, if_neg, up_ne, up_eq, up_nj, gf_ne, gf_in, sa_ne, sa_eq, and_self, true_and, and_true, p_19_0, p_19_1, p_19_4, p_19_5, p_19_6, p_19_7, p_19_8, p_19_11]
    rw [p_19_12 (d := d + 1) r3]
    simp (disch := first | omega | ((simp (disch := omega) only [up_ne, up_eq, up_nj, gf_ne, gf_in, sa_ne, sa_eq]) <;> omega)) only [reduceIte, Bool.false_eq_true, if_pos, if_neg, up_ne, up_eq, up_nj, gf_ne, gf_in, sa_ne, sa_eq, and_self, true_and, and_true, p_19_15, p_19_16, p_19_17, p_19_20]
    rw [p_19_21 (d := d + 1) r4]
    by_cases a1 : Sw = Sb
    · rw [if_neg (show ¬ (Sw ≠ Sb) from fun z => z a1)]
      by_cases a2 : n_bc w.toNat = n_bc b.toNat
      · rw [if_neg (show ¬ (n_bc w.toNat ≠ n_bc b.toNat) from fun z => z a2), hlx a2]
        simp (disch := first | omega | ((simp (disch := omega) only [up_ne, up_eq, up_nj, gf_ne, gf_in, sa_ne, sa_eq]) <;> omega)) only [reduceIte, Bool.false_eq_true, if_pos, if_neg, up_ne, up_eq, up_nj, gf_ne, gf_in, sa_ne, sa_eq, and_self, true_and, and_true, p_19_24, p_19_25, p_19_26, p_19_27, p_19_30, p_19_31, p_19_34, p_19_35, p_19_38, p_19_39, p_19_40, q_19_41, p_19_44, q_19_45, p_19_48, p_19_49, p_19_51, p_19_53, p_19_56, p_19_58, p_19_61, p_19_62, p_19_65, p_19_66, p_19_67, p_19_68, v1, w1]
        rw [p_19_69 (d := d + 1) r1]
        simp (disch := first | omega | ((simp (disch := omega) only [up_ne, up_eq, up_nj, gf_ne, gf_in, sa_ne, sa_eq]) <;> omega)) only [reduceIte, Bool.false_eq_true, if_pos, if_neg, up_ne, up_eq, up_nj, gf_ne, gf_in, sa_ne, sa_eq, and_self, true_and, and_true, p_19_72, p_19_73]
        rw [p_19_74 (d := d + 1) r2]
        by_cases a3 : Nw < Nb
        · rw [decide_eq_true a3]
          simp (disch := first | omega | ((simp (disch := omega) only [up_ne, up_eq, up_nj, gf_ne, gf_in, sa_ne, sa_eq]) <;> omega)) only [reduceIte, Bool.false_eq_true, if_pos, if_neg, up_ne, up_eq, up_nj, gf_ne, gf_in, sa_ne, sa_eq, and_self, true_and, and_true, p_19_77, p_19_78, p_19_81, p_19_82, p_19_85, p_19_86, f_cmp]
        · rw [decide_eq_false a3]
          by_cases a4 : Nw = Nb
          · simp (disch := first | omega | ((simp (disch := omega) only [up_ne, up_eq, up_nj, gf_ne, gf_in, sa_ne, sa_eq]) <;> omega)) only [reduceIte, Bool.false_eq_true, if_pos, if_neg, up_ne, up_eq, up_nj, gf_ne, gf_in, sa_ne, sa_eq, and_self, true_and, and_true, p_19_77, p_19_78, p_19_81, p_19_82, p_19_85, p_19_86, f_cmp]
          · simp (disch := first | omega | ((simp (disch := omega) only [up_ne, up_eq, up_nj, gf_ne, gf_in, sa_ne, sa_eq]) <;> omega)) only [reduceIte, Bool.false_eq_true, if_pos, if_neg, up_ne, up_eq, up_nj, gf_ne, gf_in, sa_ne, sa_eq, and_self, true_and, and_true, p_19_77, p_19_78, p_19_81, p_19_82, p_19_85, p_19_86, f_cmp]
      · rw [if_pos (show n_bc w.toNat ≠ n_bc b.toNat from a2)]
        by_cases a3 : n_bc w.toNat < n_bc b.toNat
        · rw [decide_eq_true a3]
          simp (disch := first | omega | ((simp (disch := omega) only [up_ne, up_eq, up_nj, gf_ne, gf_in, sa_ne, sa_eq]) <;> omega)) only [reduceIte, Bool.false_eq_true, if_pos, if_neg, up_ne, up_eq, up_nj, gf_ne, gf_in, sa_ne, sa_eq, and_self, true_and, and_true, p_19_24, p_19_25, p_19_26, p_19_27, p_19_30, p_19_31, p_19_34, p_19_35, p_19_38, p_19_39, p_19_40, q_19_41, p_19_44, q_19_45, p_19_48, p_19_49, p_19_51, p_19_53, p_19_56, p_19_58, p_19_61, p_19_62, p_19_65, p_19_66, v1, w1]
        · rw [decide_eq_false a3]
          simp (disch := first | omega | ((simp (disch := omega) only [up_ne, up_eq, up_nj, gf_ne, gf_in, sa_ne, sa_eq]) <;> omega)) only [reduceIte, Bool.false_eq_true, if_pos, if_neg, up_ne, up_eq, up_nj, gf_ne, gf_in, sa_ne, sa_eq, and_self, true_and, and_true, p_19_24, p_19_25, p_19_26, p_19_27, p_19_30, p_19_31, p_19_34, p_19_35, p_19_38, p_19_39, p_19_40, q_19_41, p_19_44, q_19_45, p_19_48, p_19_49, p_19_51, p_19_53, p_19_56, p_19_58, p_19_61, p_19_62, p_19_65, p_19_66, v1, w1]
    · rw [if_pos (show Sw ≠ Sb from a1)]
      by_cases a3 : Sb < Sw
      · rw [decide_eq_true a3]
        simp (disch := first | omega | ((simp (disch := omega) only [up_ne, up_eq, up_nj, gf_ne, gf_in, sa_ne, sa_eq]) <;> omega)) only [reduceIte, Bool.false_eq_true, if_pos, if_neg, up_ne, up_eq, up_nj, gf_ne, gf_in, sa_ne, sa_eq, and_self, true_and, and_true, p_19_24, p_19_25, p_19_26, p_19_27, p_19_30, p_19_31, p_19_34, p_19_35, p_19_38, p_19_39]
      · rw [decide_eq_false a3]
        simp (disch := first | omega | ((simp (disch := omega) only [up_ne, up_eq, up_nj, gf_ne, gf_in, sa_ne, sa_eq]) <;> omega)) only [reduceIte, Bool.false_eq_true, if_pos, if_neg, up_ne, up_eq, up_nj, gf_ne, gf_in, sa_ne, sa_eq, and_self, true_and, and_true, p_19_24, p_19_25, p_19_26, p_19_27, p_19_30, p_19_31, p_19_34, p_19_35, p_19_38, p_19_39]
