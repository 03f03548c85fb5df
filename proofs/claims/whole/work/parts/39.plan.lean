theorem enX_pt {G : AG} {z0 fs S : Int} (hF : FS G z0 fs S) : ∀ (k : Nat) (p : List Int) (oc oc' : Int → Int), PV G p → (p.length : Int) + k = S → (∀ c : Int, 0 ≤ c → c < 64 → oc c = oc' c) → ∀ c : Int, 0 ≤ c → c < 64 → enX G z0 fs k p oc c = enX G z0 fs k p oc' c
  | 0, p, oc, oc', hp, hl, h, c, q1, q2 => by
    have hc := cmpP_rng hp
    simp only [enX, stX]
    rw [h c q1 q2, h _ hc.1 hc.2]
  | k + 1, p, oc, oc', hp, hl, h, c, q1, q2 => by
    rw [enX, enX]
    refine enX_pt hF k (36 :: p) _ _ (hp.cons (Or.inl rfl)) (by simp; omega) ?_ c q1 q2
    have hc := hF.2.2.2.2.2.2.2.2.1 p.length (by omega) (by omega)
    have key : ∀ (l : List Int) (oc oc' : Int → Int), (∀ o ∈ l, o ∈ chs G p.length) → (∀ c : Int, 0 ≤ c → c < 64 → oc c = oc' c) → ∀ c : Int, 0 ≤ c → c < 64 → (l.foldl (fun oc o => if okX G z0 p o = true then enX G z0 fs k (o :: p) oc else oc) oc) c = (l.foldl (fun oc o => if okX G z0 p o = true then enX G z0 fs k (o :: p) oc else oc) oc') c := by
      intro l
      induction l with
      | nil => intro oc oc' _ h; exact h
      | cons o l ih2 =>
        intro oc oc' hm h
        rw [List.foldl_cons, List.foldl_cons]
        refine ih2 _ _ (fun x hx => hm x (List.mem_cons_of_mem _ hx)) ?_
        intro c r1 r2
        by_cases e : okX G z0 p o = true
        · rw [if_pos e, if_pos e]
          exact enX_pt hF k (o :: p) oc oc' (hp.cons (Or.inr (hc.2.2.2 o (hm o List.mem_cons_self)))) (by simp; omega) h c r1 r2
        · rw [if_neg e, if_neg e]
          exact h c r1 r2
    exact key _ oc oc' (fun _ h => h) h
theorem jn_pt {oc oc' lt lt' : Int → Int} {tk : Int} : ∀ (m : Nat) (c g : Int), (∀ i : Int, c ≤ i → i < c + m → oc i = oc' i ∧ lt (f_or tk i) = lt' (f_or tk i)) → jn oc lt tk m c g = jn oc' lt' tk m c g
  | 0, _, _, _ => rfl
  | m + 1, c, g, h => by
    have h1 := h c (by omega) (by omega)
    rw [jn, jn, h1.1, h1.2, jn_pt m (c + 1) _ (fun i q1 q2 => h i (by omega) (by omega))]
def oce (GT : AG) (z0 S E : Int) (r : Nat) : Int → Int := enX GT z0 ((E - 1 - r) * S) S.toNat [] (fun _ => -9223372036854775808)
theorem oce_b {G0 GT : AG} {cost z0 : Int} (hR : Rel G0) (hc : 0 ≤ cost ∧ cost ≤ 1000) (hT : TBL G0 cost GT) (hz : 0 ≤ z0 ∧ z0 < 64) {r : Nat} (hr : (r : Int) < G0 13 4) : VB 64 10000000000000 (oce GT z0 (G0 13 5) (G0 13 4) r) ∧ -10000000000000 ≤ oce GT z0 (G0 13 5) (G0 13 4) r 0 := by
  obtain ⟨hp1, hp2, hp3, hp4, hp5, hp6, hp7, hp8, hp9, hp10⟩ := id hR.2.2.1
  have hs := hR.2.2.1.slots
  have hm := mul_le6 (e := G0 13 4 - 1 - r) (E := G0 13 4) (S := G0 13 5) (by omega) (by omega) hp3
  have hF : FS (am_up GT 16 10 ((G0 13 4 - 1 - r) * G0 13 5)) z0 ((G0 13 4 - 1 - r) * G0 13 5) (G0 13 5) := tbl_fs hR hc hT (e := G0 13 4 - 1 - r) (by omega) (fun b q1 q2 q3 => am_up_ne _ _ _ _ _ q1) (up_eq rfl rfl) hz
  have hx : oce GT z0 (G0 13 5) (G0 13 4) r = enX (am_up GT 16 10 ((G0 13 4 - 1 - r) * G0 13 5)) z0 ((G0 13 4 - 1 - r) * G0 13 5) (G0 13 5).toNat [] (fun _ => -9223372036854775808) := by
    unfold oce
    rw [enX_cong (n := (G0 13 5).toNat) (by omega) (fun b q1 q2 q3 => am_up_ne _ _ _ _ _ q1) _ _ _ (by simp)]
  have hv : PV (am_up GT 16 10 ((G0 13 4 - 1 - r) * G0 13 5)) [] := fun q hq => by simp at hq
  rw [hx]
  refine ⟨enX_vb hF _ [] _ hv (by simp; omega) (fun c _ _ => Or.inl rfl), ?_⟩
  have := enX_self hF (G0 13 5).toNat [] (fun _ => -9223372036854775808) hv (by simp; omega)
  rw [cmpP] at this
  exact this
theorem f_and_0 {t : Int} (h0 : 0 ≤ t) (h1 : t < 64) : f_and 0 t = 0 := by
  rw [fi_and (by omega) (by omega) h0 (by omega)]
  simp
theorem f_or_0 {t : Int} (h0 : 0 ≤ t) (h1 : t < 64) : f_or t 0 = t := by
  rw [fi_or h0 (by omega) (by omega) (by omega)]
  simp
  omega
theorem latX_rng {G0 GT : AG} {cost z0 : Int} (hR : Rel G0) (hc : 0 ≤ cost ∧ cost ≤ 1000) (hT : TBL G0 cost GT) (hz : 0 ≤ z0 ∧ z0 < 64) {k : Nat} (hk : k ≤ 6) : ∀ (r : Nat), (r : Int) ≤ G0 13 4 → ∀ t : Int, 0 ≤ t → t < (2 ^ k : Nat) → -(10000000000000 * (r : Int)) ≤ latX GT z0 (G0 13 5) (G0 13 4) (2 ^ k) r t ∧ latX GT z0 (G0 13 5) (G0 13 4) (2 ^ k) r t ≤ 10000000000000 * (r : Int) := by
  have hp : 2 ^ k ≤ 2 ^ 6 := Nat.pow_le_pow_right (by decide) hk
  have hq : 0 < 2 ^ k := Nat.pos_of_ne_zero (by simp)
  intro r
  induction r with
  | zero => intro _ t _ _; simp [latX]
  | succ r ih =>
    intro hr t h0 h1
    have hr' : (r : Int) < G0 13 4 := by omega
    obtain ⟨b1, b2⟩ := oce_b hR hc hT hz hr'
    rw [latX]
    change _ ≤ jn (oce GT z0 (G0 13 5) (G0 13 4) r) _ _ _ _ _ ∧ jn (oce GT z0 (G0 13 5) (G0 13 4) r) _ _ _ _ _ ≤ _
    constructor
    · have h2 := jn_one (oc := oce GT z0 (G0 13 5) (G0 13 4) r) (lt := latX GT z0 (G0 13 5) (G0 13 4) (2 ^ k) r) (tk := t) (2 ^ k) 0 (-9223372036854775808) 0 (by omega) (by omega) (f_and_0 h0 (by omega)) (by omega)
      rw [f_or_0 h0 (by omega)] at h2
      have h3 := ih (by omega) t h0 h1
      omega
    · refine jn_le _ _ _ (by omega) (fun i q1 q2 q3 q4 => ?_)
      have ho := f_or_rng (a := t) (b := i) (k := k) (by omega) h0 h1 q1 (by omega)
      have h3 := ih (by omega) (f_or t i) (by omega) ho.2
      have h4 := b1 i q1 (by omega)
      omega
theorem l_even {d : Nat} {Q : Option AV → AG → Prop} {cost : Int} {G0 GT : AG} (hR : Rel G0) (hc : 0 ≤ cost ∧ cost ≤ 1000) (hT : TBL G0 cost GT) {k : Nat} (hk : (k : Int) = G0 3 4)
    (K : ∀ G' : AG, (∀ b : Nat, b ≠ 16 → b ≠ 31 → b ≠ 32 → G' b = GT b) → G' 32 0 = latX GT ((2 ^ k : Nat) - 1) (G0 13 5) (G0 13 4) (2 ^ k) (G0 13 4).toNat 0 → Ends (d + 11) 23 134 [vR 16, vI cost, vI (-1)] [] G' Q) :
    ∀ (m r : Nat) (G : AG), (r : Int) + m = G0 13 4 → (∀ b : Nat, b ≠ 16 → b ≠ 31 → b ≠ 32 → G b = GT b) → (∀ t : Int, 0 ≤ t → t < (2 ^ k : Nat) → G 32 t = latX GT ((2 ^ k : Nat) - 1) (G0 13 5) (G0 13 4) (2 ^ k) r t) → Ends (d + 11) 23 75 [vR 16, vI cost, vI (G0 13 4 - 1 - r)] [] G Q := by
  obtain ⟨ha0, ha1, ha2, ha3, ha4, ha5, ha6⟩ := id hR.2.1
  obtain ⟨hp1, hp2, hp3, hp4, hp5, hp6, hp7, hp8, hp9, hp10⟩ := id hR.2.2.1
  have hs := hR.2.2.1.slots
  have hk6 : k ≤ 6 := by omega
  have hp : 2 ^ k ≤ 2 ^ 6 := Nat.pow_le_pow_right (by decide) hk6
  have hq : 0 < 2 ^ k := Nat.pos_of_ne_zero (by simp)
  have hz : 0 ≤ ((2 ^ k : Nat) : Int) - 1 ∧ ((2 ^ k : Nat) : Int) - 1 < 64 := by omega
  have hkn : (G0 3 4).toNat = k := by omega
  intro m
  induction m with
  | zero =>
    intro r G h1 hE hL
    have er : r = (G0 13 4).toNat := by omega
    simp (disch := first | omega | ((simp (disch := omega) only [up_ne, up_eq, up_nj, gf_ne, gf_in, sa_ne, sa_eq]) <;> omega)) only [reduceIte, Bool.false_eq_true, if_pos, if_neg, up_ne, up_eq, up_nj, gf_ne, gf_in, sa_ne, sa_eq, and_self, true_and, and_true, p_23_75, p_23_76, p_23_79, p_23_80, p_23_83, p_23_89, p_23_90, p_23_91, p_23_92, p_23_95, p_23_98, p_23_99, p_23_102, p_23_103, p_23_104, p_23_105, p_23_106, p_23_107, p_23_110, p_23_113, p_23_114, p_23_115, p_23_116, p_23_118, p_23_120, p_23_124, p_23_128]
    rw [show G0 13 4 - 1 - (r : Int) = -1 by omega]
    exact K G hE (by rw [hL 0 (by omega) (by omega), er])
  | succ m ih =>
    intro r G h1 hE hL
    have hr' : (r : Int) < G0 13 4 := by omega
    have e15 : ∀ b : Nat, b ≤ 15 → G b = G0 b := fun b hb => by rw [hE b (by omega) (by omega) (by omega), hT.1 b (by omega)]
    have e13 : G 13 5 = G0 13 5 := by rw [e15 13 (by omega)]
    have e34 : G 3 4 = G0 3 4 := by rw [e15 3 (by omega)]
    have hm := mul_le6 (e := G0 13 4 - 1 - r) (E := G0 13 4) (S := G0 13 5) (by omega) (by omega) hp3
    have esh : f_shl 1 (G0 3 4) = ((2 ^ k : Nat) : Int) := by rw [fi_shl ha0 (by omega), hkn]
    simp (disch := first | omega | ((simp (disch := omega) only [up_ne, up_eq, up_nj, gf_ne, gf_in, sa_ne, sa_eq]) <;> omega)) only [reduceIte, Bool.false_eq_true, if_pos, if_neg, up_ne, up_eq, up_nj, gf_ne, gf_in, sa_ne, sa_eq, and_self, true_and, and_true, p_23_75, p_23_76, p_23_79, p_23_80, p_23_83]
    rw [p_23_86 (d := d + 10) (c_filll (r := 31) (n := 64) rfl (by decide))]
    simp (disch := first | omega | ((simp (disch := omega) only [up_ne, up_eq, up_nj, gf_ne, gf_in, sa_ne, sa_eq]) <;> omega)) only [reduceIte, Bool.false_eq_true, if_pos, if_neg, up_ne, up_eq, up_nj, gf_ne, gf_in, sa_ne, sa_eq, and_self, true_and, and_true, p_23_89, p_23_90, p_23_91, p_23_92, p_23_95, p_23_98, p_23_99, p_23_102, p_23_103, p_23_104, p_23_105, p_23_106, p_23_107, p_23_110, p_23_113, p_23_114, p_23_115, p_23_116, p_23_118, p_23_120, e13, e34, esh]
    generalize hG2 : am_up (gfill G 31 0 (64 : Nat) (-9223372036854775808)) 16 10 ((G0 13 4 - 1 - r) * G0 13 5) = G2
    have hE2 : ∀ b : Nat, b ≠ 16 → b ≠ 31 → b ≠ 32 → G2 b = GT b := by
      intro b q1 q2 q3
      rw [← hG2, ← hE b q1 q2 q3]
      funext j
      simp (disch := first | omega | ((simp (disch := omega) only [up_ne, up_eq, up_nj, gf_ne, gf_in, sa_ne, sa_eq]) <;> omega)) only [reduceIte, Bool.false_eq_true, if_pos, if_neg, up_ne, up_eq, up_nj, gf_ne, gf_in, sa_ne, sa_eq, and_self, true_and, and_true]
    have hF : FS G2 (((2 ^ k : Nat) : Int) - 1) ((G0 13 4 - 1 - r) * G0 13 5) (G0 13 5) := tbl_fs hR hc hT (e := G0 13 4 - 1 - r) (by omega) hE2 (by rw [← hG2]; exact up_eq rfl rfl) hz
    have hv : PV G2 [] := fun q hq => by simp at hq
    have h31 : ∀ c : Int, 0 ≤ c → c < 64 → G2 31 c = -9223372036854775808 := by
      intro c q1 q2
      rw [← hG2]
      simp (disch := first | omega | ((simp (disch := omega) only [up_ne, up_eq, up_nj, gf_ne, gf_in, sa_ne, sa_eq]) <;> omega)) only [reduceIte, Bool.false_eq_true, if_pos, if_neg, up_ne, up_eq, up_nj, gf_ne, gf_in, sa_ne, sa_eq, and_self, true_and, and_true]
    have h32 : ∀ t : Int, G2 32 t = G 32 t := by
      intro t
      rw [← hG2]
      simp (disch := first | omega | ((simp (disch := omega) only [up_ne, up_eq, up_nj, gf_ne, gf_in, sa_ne, sa_eq]) <;> omega)) only [reduceIte, Bool.false_eq_true, if_pos, if_neg, up_ne, up_eq, up_nj, gf_ne, gf_in, sa_ne, sa_eq, and_self, true_and, and_true]
    have hff := c_fillFrom hF (G0 13 5).toNat (d + 9 - 2 * (G0 13 5).toNat) [] (G2 31) hv (by simp; omega) (fun c q1 q2 => by rw [h31 c q1 q2]; omega)
    rw [sa_self, show d + 9 - 2 * (G0 13 5).toNat + 2 * (G0 13 5).toNat + 1 = d + 10 by omega] at hff
    have hff' : Ret (d + 10) 28 [vR 16, vI 0, vI 0, vI (((2 ^ k : Nat) : Int) - 1), vI 63, vI 63, vL 0, vU, vU, vU] G2 none (setA G2 31 (enX G2 (((2 ^ k : Nat) : Int) - 1) ((G0 13 4 - 1 - r) * G0 13 5) (G0 13 5).toNat [] (G2 31))) := hff
    rw [p_23_121 (d := d + 10) hff']
    generalize hG3 : setA G2 31 (enX G2 (((2 ^ k : Nat) : Int) - 1) ((G0 13 4 - 1 - r) * G0 13 5) (G0 13 5).toNat [] (G2 31)) = G3
    have hb := oce_b hR hc hT hz hr'
    have h331 : ∀ c : Int, 0 ≤ c → c < 64 → G3 31 c = oce GT (((2 ^ k : Nat) : Int) - 1) (G0 13 5) (G0 13 4) r c := by
      intro c q1 q2
      rw [← hG3, sa_eq rfl, enX_pt hF _ [] (G2 31) (fun _ => -9223372036854775808) hv (by simp; omega) h31 c q1 q2, enX_cong (n := (G0 13 5).toNat) (by omega) hE2 _ _ _ (by simp)]
      rfl
    have h332 : ∀ t : Int, 0 ≤ t → t < (2 ^ k : Nat) → G3 32 t = latX GT (((2 ^ k : Nat) : Int) - 1) (G0 13 5) (G0 13 4) (2 ^ k) r t := by
      intro t q1 q2
      rw [← hG3, sa_ne (by decide), h32 t, hL t q1 q2]
    have e334 : G3 3 4 = G0 3 4 := by rw [← hG3, sa_ne (by decide), hE2 3 (by decide) (by decide) (by decide), hT.1 3 (by omega)]
    have hj : Ends (d + 10) 30 0 [vR 16, vU, vU, vU, vU, vU] [] G3 (fun q G' => q = none ∧ (∀ b : Nat, b ≠ 32 → G' b = G3 b) ∧ (∀ t : Int, 0 ≤ t → t < (2 ^ k : Nat) → G' 32 t = jn (G3 31) (G3 32) t (2 ^ k) 0 (-9223372036854775808))) := by
      simp (disch := first | omega | ((simp (disch := omega) only [up_ne, up_eq, up_nj, gf_ne, gf_in, sa_ne, sa_eq]) <;> omega)) only [reduceIte, Bool.false_eq_true, if_pos, if_neg, up_ne, up_eq, up_nj, gf_ne, gf_in, sa_ne, sa_eq, and_self, true_and, and_true, p_30_0, p_30_1, p_30_2, p_30_5, p_30_8, p_30_9r, p_30_10, p_30_11, e334, esh]
      refine l_join2 (d := d + 9) hk6 (fun c q1 q2 => ?_) (fun t q1 q2 => ?_) (fun G' q1 q2 => ⟨rfl, q1, q2⟩) (2 ^ k) 0 G3 _ _ _ (by omega) (by omega) (fun _ _ => rfl) (fun _ _ _ => rfl) (fun t q1 q2 => by omega) (Or.inl rfl)
      · rw [h331 c q1 (by omega)]
        have := hb.1 c q1 (by omega)
        omega
      · rw [h332 t q1 q2]
        have := latX_rng hR hc hT hz hk6 r (by omega) t q1 q2
        omega
    obtain ⟨q, G4, hret, hqn, w1, w2⟩ := hj.ret
    subst hqn
    simp (disch := first | omega | ((simp (disch := omega) only [up_ne, up_eq, up_nj, gf_ne, gf_in, sa_ne, sa_eq]) <;> omega)) only [reduceIte, Bool.false_eq_true, if_pos, if_neg, up_ne, up_eq, up_nj, gf_ne, gf_in, sa_ne, sa_eq, and_self, true_and, and_true, p_23_124, p_23_128]
    rw [p_23_125 (d := d + 10) hret]
    simp (disch := first | omega | ((simp (disch := omega) only [up_ne, up_eq, up_nj, gf_ne, gf_in, sa_ne, sa_eq]) <;> omega)) only [reduceIte, Bool.false_eq_true, if_pos, if_neg, up_ne, up_eq, up_nj, gf_ne, gf_in, sa_ne, sa_eq, and_self, true_and, and_true, p_23_128]
    rw [p_23_131, show G0 13 4 - 1 - (r : Int) + -1 = G0 13 4 - 1 - ((r + 1 : Nat) : Int) by omega]
    refine ih (r + 1) G4 (by omega) (fun b q1 q2 q3 => by rw [w1 b q3, ← hG3, sa_row q2, hE2 b q1 q2 q3]) (fun t q1 q2 => ?_)
    rw [w2 t q1 q2, latX]
    refine jn_pt _ _ _ (fun i r1 r2 => ⟨h331 i r1 (by omega), ?_⟩)
    have ho := f_or_rng (a := t) (b := i) (k := k) (by omega) q1 q2 r1 (by omega)
    exact h332 _ (by omega) ho.2
