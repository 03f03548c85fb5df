/-! joining evenings, the reference -/
/-- values and rows of all sets -/
def JD (G : AG) (E S k : Int) (ov : Int → Int → Int) (rr : Int → Int → Int → Int) : Prop :=
  1 ≤ S ∧ S ≤ 3 ∧ 1 ≤ E ∧ E ≤ 3 ∧ E * S ≤ 6 ∧ 0 ≤ k ∧ k ≤ 6 ∧ G 54 10 = E ∧ G 54 11 = S ∧ G 54 7 = k ∧ ∀ e c : Int, 0 ≤ e → e < E → 0 ≤ c → c < 64 →
    (G 74 (64 * e + c) = -1000000 ∧ ov e c = -9223372036854775808) ∨ (-3000 ≤ G 74 (64 * e + c) ∧ G 74 (64 * e + c) ≤ 300 ∧ ov e c = G 74 (64 * e + c) * 2565726409 - cdU (rr e c) S.toNat (e * S) ∧
      ∀ i : Int, 0 ≤ i → i < S → 0 ≤ rr e c (e * S + i) ∧ rr e c (e * S + i) ≤ 36 ∧ G 75 (3 * (64 * e + c) + i) = aO (rr e c (e * S + i)) ∧ G 76 (3 * (64 * e + c) + i) = mO (rr e c (e * S + i)))
def JK (e : Int) (G G' : AG) : Prop := (∀ b : Nat, b ≠ 54 → b ≠ 77 → b ≠ 78 → G' b = G b) ∧ (∀ j : Int, j ≠ 33 → G' 54 j = G 54 j) ∧ ∀ j : Int, j < e → G' 77 j = G 77 j
theorem JD.keep {G G' : AG} {e E S k : Int} {ov : Int → Int → Int} {rr : Int → Int → Int → Int} (h : JD G E S k ov rr) (q : JK e G G') : JD G' E S k ov rr := by
  unfold JD at h ⊢
  rw [q.1 74 (by decide) (by decide) (by decide), q.1 75 (by decide) (by decide) (by decide), q.1 76 (by decide) (by decide) (by decide), q.2.1 10 (by decide), q.2.1 11 (by decide), q.2.1 7 (by decide)]
  exact h
theorem JK.trans {e e' : Int} {G G' G'' : AG} (h : JK e G G') (h' : JK e' G' G'') (he : e ≤ e') : JK e G G'' :=
  ⟨fun b q1 q2 q3 => (h'.1 b q1 q2 q3).trans (h.1 b q1 q2 q3), fun j q => (h'.2.1 j q).trans (h.2.1 j q), fun j q => (h'.2.2 j (by omega)).trans (h.2.2 j q)⟩
def tsm (f : Int → Int → Int) (t : Int → Int) : Nat → Int
  | 0 => 0
  | n + 1 => tsm f t n + f n (t n)
theorem tsm_cong {f : Int → Int → Int} {t t' : Int → Int} : ∀ (n : Nat), (∀ e : Int, 0 ≤ e → e < n → t e = t' e) → tsm f t n = tsm f t' n
  | 0, _ => rfl
  | n + 1, h => by rw [tsm, tsm, tsm_cong n (fun e q1 q2 => h e q1 (by omega)), h n (by omega) (by omega)]
def vlM (G : AG) (e c : Int) : Int := G 74 (64 * e + c)
def VT (ov : Int → Int → Int) (t : Int → Int) (n : Nat) : Prop := ∀ e : Int, 0 ≤ e → e < n → 0 ≤ t e ∧ t e < 64 ∧ ov e (t e) ≠ -9223372036854775808
def ut (S : Int) (rr : Int → Int → Int → Int) (t : Int → Int) : Int → Int := fun s => rr (s / S) (t (s / S)) s
theorem ut_at {S : Int} {rr : Int → Int → Int → Int} {t : Int → Int} (hS : 1 ≤ S) {e i : Int} (h0 : 0 ≤ i) (h1 : i < S) : ut S rr t (e * S + i) = rr e (t e) (e * S + i) := by
  have : (e * S + i) / S = e := by
    rw [Int.add_comm, Int.add_mul_ediv_right _ _ (by omega), Int.ediv_eq_zero_of_lt h0 h1]
    omega
  unfold ut
  rw [this]
theorem cdU_app {u : Int → Int} (b : Nat) : ∀ (a : Nat) (s : Int), cdU u (a + b) s = cdU u a s + cdU u b (s + a)
  | 0, s => by simp [cdU]
  | a + 1, s => by
    rw [show a + 1 + b = a + b + 1 by omega, cdU, cdU, cdU_app b a (s + 1), show s + 1 + (a : Int) = s + ((a + 1 : Nat) : Int) by omega]
    omega
theorem cdU_cong {u v : Int → Int} : ∀ (m : Nat) (s : Int), (∀ i : Int, s ≤ i → i < s + m → u i = v i) → cdU u m s = cdU v m s
  | 0, _, _ => rfl
  | m + 1, s, h => by rw [cdU, cdU, h s (by omega) (by omega), cdU_cong m (s + 1) (fun i q1 q2 => h i (by omega) (by omega))]
theorem tup {G : AG} {E S k : Int} {ov : Int → Int → Int} {rr : Int → Int → Int → Int} (h : JD G E S k ov rr) {t : Int → Int} : ∀ (n : Nat), (n : Int) ≤ E → VT ov t n →
    tsm ov t n = tsm (vlM G) t n * 2565726409 - cdU (ut S rr t) (n * S.toNat) 0 ∧ -(3000 * (n : Int)) ≤ tsm (vlM G) t n ∧ tsm (vlM G) t n ≤ 300 * (n : Int)
  | 0, _, _ => by simp [tsm, cdU]
  | n + 1, hn, hv => by
    obtain ⟨s1, s2, e1, e2, es, k1, k2, g1, g2, g3, hd⟩ := id h
    obtain ⟨i1, i2, i3⟩ := tup h n (by omega) (fun e q1 q2 => hv e q1 (by omega))
    obtain ⟨v1, v2, v3⟩ := hv n (by omega) (by omega)
    have hnS : ((n * S.toNat : Nat) : Int) = (n : Int) * S := by
      rw [Int.natCast_mul, Int.toNat_of_nonneg (by omega)]
    rcases hd n (t n) (by omega) (by omega) v1 v2 with ⟨_, w⟩ | ⟨w1, w2, w3, w4⟩
    · exact absurd w v3
    · have hc : cdU (ut S rr t) S.toNat ((n : Int) * S) = cdU (rr n (t n)) S.toNat ((n : Int) * S) := by
        refine cdU_cong _ _ (fun i q1 q2 => ?_)
        have := ut_at (rr := rr) (t := t) s1 (e := n) (i := i - n * S) (by omega) (by omega)
        rw [show (n : Int) * S + (i - n * S) = i by omega] at this
        exact this
      rw [tsm, tsm, i1, w3, Nat.succ_mul, cdU_app, Int.zero_add, hnS, hc]
      unfold vlM at *
      refine ⟨by rw [Int.add_mul]; omega, by omega, by omega⟩
theorem ut_rng {G : AG} {E S k : Int} {ov : Int → Int → Int} {rr : Int → Int → Int → Int} (h : JD G E S k ov rr) {t : Int → Int} (hv : VT ov t E.toNat) {e i : Int} (he : 0 ≤ e ∧ e < E) (hi : 0 ≤ i ∧ i < S) : 0 ≤ t e ∧ t e < 64 ∧ 0 ≤ ut S rr t (e * S + i) ∧ ut S rr t (e * S + i) ≤ 36 ∧ G 75 (3 * (64 * e + t e) + i) = aO (ut S rr t (e * S + i)) ∧ G 76 (3 * (64 * e + t e) + i) = mO (ut S rr t (e * S + i)) := by
  obtain ⟨s1, s2, e1, e2, es, k1, k2, g1, g2, g3, hd⟩ := id h
  obtain ⟨v1, v2, v3⟩ := hv e he.1 (by omega)
  rcases hd e (t e) he.1 he.2 v1 v2 with ⟨_, w⟩ | ⟨w1, w2, w3, w4⟩
  · exact absurd w v3
  · rw [ut_at s1 hi.1 hi.2]
    exact ⟨v1, v2, w4 i hi.1 hi.2⟩
theorem slot_split {E S s : Int} (hS : 1 ≤ S) (h0 : 0 ≤ s) (h1 : s < E * S) : 0 ≤ s / S ∧ s / S < E ∧ 0 ≤ s % S ∧ s % S < S ∧ s / S * S + s % S = s := by
  have a := Int.emod_nonneg s (show S ≠ 0 by omega)
  have b := Int.emod_lt_of_pos s (show 0 < S by omega)
  have c := Int.mul_ediv_add_emod s S
  rw [Int.mul_comm] at c
  exact ⟨Int.ediv_nonneg h0 (by omega), Int.ediv_lt_of_lt_mul (by omega) h1, a, b, c⟩
theorem ut_rng6 {G : AG} {E S k : Int} {ov : Int → Int → Int} {rr : Int → Int → Int → Int} (h : JD G E S k ov rr) {t : Int → Int} (hv : VT ov t E.toNat) {s : Int} (h0 : 0 ≤ s) (h1 : s < E * S) : 0 ≤ ut S rr t s ∧ ut S rr t s ≤ 36 := by
  obtain ⟨s1, s2, e1, e2, es, k1, k2, g1, g2, g3, hd⟩ := id h
  obtain ⟨c1, c2, c3, c4, c5⟩ := slot_split s1 h0 h1
  have := ut_rng h hv ⟨c1, c2⟩ ⟨c3, c4⟩
  rw [c5] at this
  exact ⟨this.2.2.1, this.2.2.2.1⟩
theorem toNat_mul {E S : Int} (hE : 0 ≤ E) (hS : 0 ≤ S) : ((E.toNat * S.toNat : Nat) : Int) = E * S := by
  rw [Int.natCast_mul, Int.toNat_of_nonneg hE, Int.toNat_of_nonneg hS]
/-- what is found so far -/
def FD (G : AG) (E : Int) (ov : Int → Int → Int) (V : Int) : Prop := (G 54 33 = -1000000 ∧ V = -9223372036854775808) ∨ (VT ov (G 78) E.toNat ∧ G 54 33 = tsm (vlM G) (G 78) E.toNat ∧ V = tsm ov (G 78) E.toNat)
theorem l_jcp {d : Nat} {Q : Option AV → AG → Prop} {E x1 x2 x3 : Int} {G1 : AG} (hE : 1 ≤ E ∧ E ≤ 3) (hE2 : G1 54 10 = E)
    (K : ∀ G' : AG, (∀ b : Nat, b ≠ 78 → G' b = G1 b) → (∀ j : Int, 0 ≤ j → j < E → G' 78 j = G1 77 j) → Q none G') :
    ∀ (m : Nat) (i : Int) (G : AG) (l5 : AV), 0 ≤ i → i + m = E → (∀ b : Nat, b ≠ 78 → G b = G1 b) → (∀ j : Int, 0 ≤ j → j < i → G 78 j = G1 77 j) → Ends d 90 40 [vR 54, vI x1, vI x2, vI x3, vI i, l5] [] G Q := by
  intro m
  induction m with
  | zero =>
    intro i G l5 h0 h1 hk hc
    have e : i = E := by omega
    subst e
    have e10 : G 54 10 = i := by rw [hk 54 (by decide), hE2]
    simp (disch := first | omega | ((simp (disch := omega) only [up_ne, up_eq, up_nj, gf_ne, gf_in, sa_ne, sa_eq]) <;> omega)) only [reduceIte, Bool.false_eq_true, if_pos, if_neg, up_ne, up_eq, up_nj, gf_ne, gf_in, sa_ne, sa_eq, and_self, true_and, and_true, p_90_40, p_90_42, p_90_43, p_90_46, p_90_69, e10]
    exact K G hk hc
  | succ m ih =>
    intro i G l5 h0 h1 hk hc
    have e10 : G 54 10 = E := by rw [hk 54 (by decide), hE2]
    have e77 : G 77 i = G1 77 i := by rw [hk 77 (by decide)]
    simp (disch := first | omega | ((simp (disch := omega) only [up_ne, up_eq, up_nj, gf_ne, gf_in, sa_ne, sa_eq]) <;> omega)) only [reduceIte, Bool.false_eq_true, if_pos, if_neg, up_ne, up_eq, up_nj, gf_ne, gf_in, sa_ne, sa_eq, and_self, true_and, and_true, p_90_40, p_90_42, p_90_43, p_90_46, p_90_49, p_90_50, p_90_53, p_90_55, p_90_56, p_90_59, p_90_61, p_90_62, p_90_63, e10, e77]
    rw [p_90_66]
    refine ih (i + 1) _ _ (by omega) (by omega) (fun b hb => ?_) (fun j q1 q2 => ?_)
    · rw [am_up_ne _ _ _ _ _ hb, hk b hb]
    · by_cases u : j = i
      · rw [up_eq rfl u, u]
      · rw [up_nj u, hc j q1 (by omega)]
theorem c_jleaf {d : Nat} {Q : Option AV → AG → Prop} {E S k x2 : Int} {ov : Int → Int → Int} {rr : Int → Int → Int → Int} {G : AG} (hD : JD G E S k ov rr) {V : Int} (hF : FD G E ov V) (hv : VT ov (G 77) E.toNat)
    (K : ∀ G' : AG, JK E G G' → FD G' E ov (max V (tsm ov (G 77) E.toNat)) → Q none G') :
    Ends (d + 1) 90 0 [vR 54, vI E, vI x2, vI (tsm (vlM G) (G 77) E.toNat), vU, vU] [] G Q := by
  obtain ⟨s1, s2, e1, e2, es, k1, k2, g1, g2, g3, hd⟩ := id hD
  obtain ⟨t1, t2, t3⟩ := tup hD E.toNat (by omega) hv
  have hES := toNat_mul (E := E) (S := S) (by omega) (by omega)
  have hcr := cdU_rng (u := ut S rr (G 77)) (E.toNat * S.toNat) 0 (by omega) (by omega) (fun i q1 q2 => ut_rng6 hD hv q1 (by omega))
  have hp0 : f_pl 0 = 69343957 := by decide
  rw [hp0] at hcr
  obtain ⟨hcr0, hcr1, -⟩ := hcr
  have hcr1 := hcr1 (by omega)
  have cpy : ∀ (x3 : Int) (l5 : AV) , x3 = tsm (vlM G) (G 77) E.toNat → max V (tsm ov (G 77) E.toNat) = tsm ov (G 77) E.toNat → Ends (d + 1) 90 40 [vR 54, vI E, vI x2, vI x3, vI 0, l5] [] (am_up G 54 33 x3) Q := by
    intro x3 l5 hx hm
    refine l_jcp (E := E) ⟨e1, e2⟩ (by rw [up_nj (by decide), g1]) (fun G' q1 q2 => ?_) E.toNat 0 _ l5 (by omega) (by omega) (fun _ _ => rfl) (fun j _ _ => by omega)
    refine K G' ⟨fun b w1 w2 w3 => by rw [q1 b w3, am_up_ne _ _ _ _ _ w1], fun j w => by rw [q1 54 (by decide), up_nj w], fun j w => by rw [q1 77 (by decide), am_up_ne _ _ _ _ _ (by decide)]⟩ ?_
    rw [hm]
    have q3 : ∀ j : Int, 0 ≤ j → j < E.toNat → G' 78 j = G 77 j := fun j w1 w2 => by rw [q2 j w1 (by omega), up_ne (by decide)]
    refine Or.inr ⟨fun e w1 w2 => ?_, ?_, ?_⟩
    · rw [q3 e w1 w2]
      exact hv e w1 w2
    · rw [q1 54 (by decide), up_eq rfl rfl, hx, tsm_cong (t := G' 78) (t' := G 77) _ q3]
      have : vlM G' = vlM G := by
        funext e c
        unfold vlM
        rw [q1 74 (by decide), up_ne (by decide)]
      rw [this]
    · rw [tsm_cong (t := G' 78) (t' := G 77) _ q3]
  generalize hX : tsm (vlM G) (G 77) E.toNat = X at *
  generalize hP : tsm ov (G 77) E.toNat = P at *
  rcases hF with ⟨f1, f2⟩ | ⟨f1, f2, f3⟩
  · simp (disch := first | omega | ((simp (disch := omega) only [up_ne, up_eq, up_nj, gf_ne, gf_in, sa_ne, sa_eq]) <;> omega)) only [reduceIte, Bool.false_eq_true, if_pos, if_neg, up_ne, up_eq, up_nj, gf_ne, gf_in, sa_ne, sa_eq, and_self, true_and, and_true, p_90_0, p_90_1, p_90_2, p_90_5, p_90_8, p_90_9, p_90_10, p_90_13, p_90_16, p_90_17, p_90_18, p_90_21, p_90_24, p_90_28, p_90_31, p_90_32, p_90_33, p_90_34, p_90_37, p_90_38, g1, f1]
    exact cpy X _ rfl (by omega)
  · obtain ⟨y1, y2, y3⟩ := tup hD E.toNat (by omega) f1
    have hcy := cdU_rng (u := ut S rr (G 78)) (E.toNat * S.toNat) 0 (by omega) (by omega) (fun i q1 q2 => ut_rng6 hD f1 q1 (by omega))
    rw [hp0] at hcy
    obtain ⟨hcy0, hcy1, -⟩ := hcy
    have hcy1 := hcy1 (by omega)
    rw [← f2] at y1 y2 y3
    rw [← f3] at y1
    have hself : Q none G ∨ ¬ (P ≤ V) := by
      by_cases w : P ≤ V
      · refine Or.inl (K G ⟨fun _ _ _ _ => rfl, fun _ _ => rfl, fun _ _ => rfl⟩ ?_)
        rw [show max V P = V by omega]
        exact Or.inr ⟨f1, f2, f3⟩
      · exact Or.inr w
    by_cases w : X < G 54 33
    · have hq : Q none G := by
        rcases hself with h | h
        · exact h
        · omega
      simp (disch := first | omega | ((simp (disch := omega) only [up_ne, up_eq, up_nj, gf_ne, gf_in, sa_ne, sa_eq]) <;> omega)) only [reduceIte, Bool.false_eq_true, if_pos, if_neg, up_ne, up_eq, up_nj, gf_ne, gf_in, sa_ne, sa_eq, and_self, true_and, and_true, p_90_0, p_90_1, p_90_2, p_90_5, p_90_8, p_90_9, p_90_10, p_90_13, p_90_16, p_90_17, p_90_18, p_90_21, p_90_24, p_90_28, p_90_31, p_90_32, p_90_33, p_90_34, p_90_37, p_90_38, g1]
      exact hq
    · by_cases w2 : X = G 54 33
      · have hlex := lex_cd (u := ut S rr (G 77)) (v := ut S rr (G 78)) (E.toNat * S.toNat) 0 (by omega) (by omega) (fun i q1 q2 => ⟨(ut_rng6 hD hv q1 (by omega)).1, (ut_rng6 hD hv q1 (by omega)).2, ut_rng6 hD f1 q1 (by omega)⟩)
        have hU : RWS G 77 E S (ut S rr (G 77)) := fun e i q1 q2 q3 q4 => ut_rng hD hv ⟨q1, q2⟩ ⟨q3, q4⟩
        have hV : RWS G 78 E S (ut S rr (G 78)) := fun e i q1 q2 q3 q4 => ut_rng hD f1 ⟨q1, q2⟩ ⟨q3, q4⟩
        obtain ⟨r, G2, hret, hr, hG⟩ := (c_isAheadM (d := d) (Q := fun r G' => r = some (vI (if decide (cdU (ut S rr (G 77)) (E.toNat * S.toNat) 0 < cdU (ut S rr (G 78)) (E.toNat * S.toNat) 0) = true then 1 else 0)) ∧ G' = G) ⟨s1, s2⟩ g2 ⟨e1, e2⟩ g1 hU hV hlex ⟨rfl, rfl⟩).ret
        subst hr
        subst hG
        by_cases w3 : cdU (ut S rr (G2 77)) (E.toNat * S.toNat) 0 < cdU (ut S rr (G2 78)) (E.toNat * S.toNat) 0
        · rw [if_pos (by simpa using w3)] at hret
          simp (disch := first | omega | ((simp (disch := omega) only [up_ne, up_eq, up_nj, gf_ne, gf_in, sa_ne, sa_eq]) <;> omega)) only [reduceIte, Bool.false_eq_true, if_pos, if_neg, up_ne, up_eq, up_nj, gf_ne, gf_in, sa_ne, sa_eq, and_self, true_and, and_true, p_90_0, p_90_1, p_90_2, p_90_5, p_90_8, p_90_9, p_90_10, p_90_13, p_90_16, p_90_17, p_90_18, p_90_21, p_90_24, g1]
          rw [p_90_25 (d := d) hret]
          simp (disch := first | omega | ((simp (disch := omega) only [up_ne, up_eq, up_nj, gf_ne, gf_in, sa_ne, sa_eq]) <;> omega)) only [reduceIte, Bool.false_eq_true, if_pos, if_neg, up_ne, up_eq, up_nj, gf_ne, gf_in, sa_ne, sa_eq, and_self, true_and, and_true, p_90_28, p_90_31, p_90_32, p_90_33, p_90_34, p_90_37, p_90_38]
          exact cpy X _ rfl (by omega)
        · rw [if_neg (by simpa using w3)] at hret
          have hq : Q none G2 := by
            rcases hself with h | h
            · exact h
            · omega
          simp (disch := first | omega | ((simp (disch := omega) only [up_ne, up_eq, up_nj, gf_ne, gf_in, sa_ne, sa_eq]) <;> omega)) only [reduceIte, Bool.false_eq_true, if_pos, if_neg, up_ne, up_eq, up_nj, gf_ne, gf_in, sa_ne, sa_eq, and_self, true_and, and_true, p_90_0, p_90_1, p_90_2, p_90_5, p_90_8, p_90_9, p_90_10, p_90_13, p_90_16, p_90_17, p_90_18, p_90_21, p_90_24, g1]
          rw [p_90_25 (d := d) hret]
          simp (disch := first | omega | ((simp (disch := omega) only [up_ne, up_eq, up_nj, gf_ne, gf_in, sa_ne, sa_eq]) <;> omega)) only [reduceIte, Bool.false_eq_true, if_pos, if_neg, up_ne, up_eq, up_nj, gf_ne, gf_in, sa_ne, sa_eq, and_self, true_and, and_true, p_90_28, p_90_31, p_90_32, p_90_33, p_90_34, p_90_37, p_90_38]
          exact hq
      · simp (disch := first | omega | ((simp (disch := omega) only [up_ne, up_eq, up_nj, gf_ne, gf_in, sa_ne, sa_eq]) <;> omega)) only [reduceIte, Bool.false_eq_true, if_pos, if_neg, up_ne, up_eq, up_nj, gf_ne, gf_in, sa_ne, sa_eq, and_self, true_and, and_true, p_90_0, p_90_1, p_90_2, p_90_5, p_90_8, p_90_9, p_90_10, p_90_13, p_90_16, p_90_17, p_90_18, p_90_21, p_90_24, p_90_28, p_90_31, p_90_32, p_90_33, p_90_34, p_90_37, p_90_38, g1]
        exact cpy X _ rfl (by omega)
