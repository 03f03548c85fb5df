theorem tsm_succ {f : Int → Int → Int} {t : Int → Int} {e : Int} (he : 0 ≤ e) : tsm f t (e + 1).toNat = tsm f t e.toNat + f e (t e) := by
  rw [show (e + 1).toNat = e.toNat + 1 by omega, tsm, Int.toNat_of_nonneg he]
theorem c_joinM {E S k : Int} {ov : Int → Int → Int} {rr : Int → Int → Int → Int} {lat : Nat → Int → Int} (hl0 : ∀ t : Int, lat 0 t = 0) (hl1 : ∀ (r : Nat) (t : Int), (r : Int) < E → lat (r + 1) t = jn (ov (E - 1 - r)) (lat r) t (2 ^ k.toNat) 0 (-9223372036854775808))
    (hlr : ∀ (r : Nat) (t : Int), (r : Int) ≤ E → 0 ≤ t → t < (2 ^ k.toNat : Nat) → -(10000000000000 * (r : Int)) ≤ lat r t ∧ lat r t ≤ 10000000000000 * (r : Int)) :
    ∀ (r d : Nat) (e t V : Int) (G : AG) (Q : Option AV → AG → Prop), JD G E S k ov rr → 0 ≤ e → e + r = E → 0 ≤ t → t < (2 ^ k.toNat : Nat) → FD G E ov V → -9223372036854775808 ≤ V → VT ov (G 77) e.toNat →
    (∀ G' : AG, JK e G G' → FD G' E ov (max V (tsm ov (G 77) e.toNat + lat r t)) → Q none G') →
    Ends (d + r + 1) 90 0 [vR 54, vI e, vI t, vI (tsm (vlM G) (G 77) e.toNat), vU, vU] [] G Q := by
  intro r
  induction r with
  | zero =>
    intro d e t V G Q hD h0 h1 h2 h3 hF hV0 hv K
    have ee : e = E := by omega
    subst ee
    refine c_jleaf (d := d) hD hF hv (fun G' q1 q2 => K G' q1 ?_)
    rw [hl0, Int.add_zero]
    exact q2
  | succ r ih =>
    intro d e t V G Q hD h0 h1 h2 h3 hF hV0 hv K
    obtain ⟨s1, s2, e1, e2, es, k1, k2, g1, g2, g3, hd⟩ := id hD
    have hp : 2 ^ k.toNat ≤ 2 ^ 6 := Nat.pow_le_pow_right (by decide) (by omega)
    have hsh : f_shl 1 k = ((2 ^ k.toNat : Nat) : Int) := fi_shl k1 (by omega)
    obtain ⟨t1, t2, t3⟩ := tup hD e.toNat (by omega) hv
    have hlt := hl1 r t (by omega)
    rw [show E - 1 - (r : Int) = e by omega] at hlt
    have hlb := hlr (r + 1) t (by omega) h2 h3
    generalize hX : tsm (vlM G) (G 77) e.toNat = X at *
    generalize hP : tsm ov (G 77) e.toNat = P at *
    generalize hN : 2 ^ k.toNat = N at *
    have lp : ∀ (m : Nat) (c g Vc : Int) (Gc : AG) (l5 : AV), 0 ≤ c → c + m = N → jn (ov e) (lat r) t m c g = lat (r + 1) t → JK e G Gc → FD Gc E ov Vc → ((g = -9223372036854775808 ∧ Vc = V) ∨ (-50000000000000 ≤ g ∧ Vc = max V (P + g))) → Ends (d + (r + 1) + 1) 90 73 [vR 54, vI e, vI t, vI X, vI c, l5] [] Gc Q := by
      intro m
      induction m with
      | zero =>
        intro c g Vc Gc l5 q0 q1 q2 q3 q4 q5
        have ec : c = N := by omega
        have hg : g = lat (r + 1) t := q2
        have e7 : Gc 54 7 = k := by rw [q3.2.1 7 (by decide), g3]
        simp (disch := first | omega | ((simp (disch := omega) only [up_ne, up_eq, up_nj, gf_ne, gf_in, sa_ne, sa_eq]) <;> omega)) only [reduceIte, Bool.false_eq_true, if_pos, if_neg, up_ne, up_eq, up_nj, gf_ne, gf_in, sa_ne, sa_eq, and_self, true_and, and_true, p_90_73, p_90_75, p_90_76, p_90_77, p_90_80, p_90_81, p_90_144, e7, hsh]
        refine K Gc q3 ?_
        rw [← hg]
        rcases q5 with ⟨w1, w2⟩ | ⟨w1, w2⟩
        · omega
        · rw [← w2]
          exact q4
      | succ m ih2 =>
        intro c g Vc Gc l5 q0 q1 q2 q3 q4 q5
        have e7 : Gc 54 7 = k := by rw [q3.2.1 7 (by decide), g3]
        have e74 : Gc 74 (64 * e + c) = G 74 (64 * e + c) := by rw [q3.1 74 (by decide) (by decide) (by decide)]
        have ha := f_and_rng (a := c) (b := t) q0 (by omega) h2 (by omega)
        rw [jn] at q2
        by_cases a : f_and c t = 0
        · rcases hd e c h0 (by omega) q0 (by omega) with ⟨w1, w2⟩ | ⟨w1, w2, w3, w4⟩
          · rw [if_neg (fun z => z.2 w2)] at q2
            simp (disch := first | omega | ((simp (disch := omega) only [up_ne, up_eq, up_nj, gf_ne, gf_in, sa_ne, sa_eq]) <;> omega)) only [reduceIte, Bool.false_eq_true, if_pos, if_neg, up_ne, up_eq, up_nj, gf_ne, gf_in, sa_ne, sa_eq, and_self, true_and, and_true, p_90_73, p_90_75, p_90_76, p_90_77, p_90_80, p_90_81, p_90_84, p_90_85, p_90_88, p_90_90, p_90_91, p_90_92, p_90_94, p_90_95, p_90_96, p_90_98, p_90_100, p_90_101, p_90_102, p_90_105, p_90_107, p_90_109, p_90_112, p_90_115, p_90_116, p_90_119, p_90_120, p_90_122, p_90_123, p_90_124, p_90_125, p_90_126, p_90_127, p_90_128, p_90_130, p_90_131, p_90_132, p_90_134, p_90_138, e7, hsh, e74]
            rw [p_90_141]
            exact ih2 (c + 1) g Vc Gc _ (by omega) (by omega) q2 q3 q4 q5
          · have hor := f_or_rng (a := t) (b := c) (k := k.toNat) (by omega) h2 (by omega) q0 (by omega)
            rw [hN] at hor
            have hcd := cdU_rng (u := rr e c) S.toNat (e * S) (by have := mul_le6 (e := e) (E := E) (S := S) h0 (by omega) s1; omega) (by have := mul_le6 (e := e) (E := E) (S := S) h0 (by omega) s1; omega) (fun i u1 u2 => by
              have := w4 (i - e * S) (by omega) (by omega)
              rw [show e * S + (i - e * S) = i by omega] at this
              exact ⟨this.1, this.2.1⟩)
            have hpl := @f_pl_pos (e * S)
            have hcd1 := hcd.2.1 (by have := mul_le6 (e := e) (E := E) (S := S) h0 (by omega) s1; omega)
            have hcd0 := hcd.1
            clear hcd
            have hovb : -10000000000000 ≤ ov e c ∧ ov e c ≤ 1000000000000 := by omega
            rw [if_pos ⟨a, by omega⟩] at q2
            have hlb2 := hlr r (f_or t c) (by omega) (by omega) hor.2
            have q3' : JK e G (am_up Gc 77 e c) := ⟨fun b u1 u2 u3 => by rw [am_up_ne _ _ _ _ _ u2, q3.1 b u1 u2 u3], fun j u => by rw [up_ne (by decide), q3.2.1 j u], fun j u => by rw [up_nj (by omega), q3.2.2 j u]⟩
            have hpre : ∀ j : Int, 0 ≤ j → j < e.toNat → am_up Gc 77 e c 77 j = G 77 j := fun j u1 u2 => q3'.2.2 j (by omega)
            have hat : am_up Gc 77 e c 77 e = c := up_eq rfl rfl
            have hvl : vlM (am_up Gc 77 e c) = vlM G := by
              funext e' c'
              unfold vlM
              rw [q3'.1 74 (by decide) (by decide) (by decide)]
            have hsX : tsm (vlM (am_up Gc 77 e c)) (am_up Gc 77 e c 77) (e + 1).toNat = X + G 74 (64 * e + c) := by
              rw [tsm_succ h0, hvl, tsm_cong _ hpre, hX, hat]
              rfl
            have hsP : tsm ov (am_up Gc 77 e c 77) (e + 1).toNat = P + ov e c := by
              rw [tsm_succ h0, tsm_cong _ hpre, hP, hat]
            have hF' : FD (am_up Gc 77 e c) E ov Vc := by
              have z1 : am_up Gc 77 e c 54 33 = Gc 54 33 := up_ne (by decide)
              have z2 : am_up Gc 77 e c 78 = Gc 78 := am_up_ne _ _ _ _ _ (by decide)
              have z3 : vlM (am_up Gc 77 e c) = vlM Gc := by
                funext e' c'
                unfold vlM
                rw [up_ne (by decide)]
              unfold FD
              rw [z1, z2, z3]
              exact q4
            have hVT : VT ov (am_up Gc 77 e c 77) (e + 1).toNat := by
              intro j u1 u2
              by_cases u : j = e
              · rw [u, hat]
                exact ⟨q0, by omega, by omega⟩
              · rw [hpre j u1 (by omega)]
                exact hv j u1 (by omega)
            obtain ⟨rv, G2, hret, hrn, hK2, hF2⟩ := (ih d (e + 1) (f_or t c) Vc (am_up Gc 77 e c) (fun rv G' => rv = none ∧ JK (e + 1) (am_up Gc 77 e c) G' ∧ FD G' E ov (max Vc (tsm ov (am_up Gc 77 e c 77) (e + 1).toNat + lat r (f_or t c)))) (hD.keep q3') (by omega) (by omega) (by omega) hor.2 hF' (by omega) hVT (fun G' u1 u2 => ⟨rfl, u1, u2⟩)).ret
            subst hrn
            rw [hsX] at hret
            rw [hsP] at hF2
            show Ends (d + r + 1 + 1) 90 73 _ _ _ _
            simp (disch := first | omega | ((simp (disch := omega) only [up_ne, up_eq, up_nj, gf_ne, gf_in, sa_ne, sa_eq]) <;> omega)) only [reduceIte, Bool.false_eq_true, if_pos, if_neg, up_ne, up_eq, up_nj, gf_ne, gf_in, sa_ne, sa_eq, and_self, true_and, and_true, p_90_73, p_90_75, p_90_76, p_90_77, p_90_80, p_90_81, p_90_84, p_90_85, p_90_88, p_90_90, p_90_91, p_90_92, p_90_94, p_90_95, p_90_96, p_90_98, p_90_100, p_90_101, p_90_102, p_90_105, p_90_107, p_90_109, p_90_112, p_90_115, p_90_116, p_90_119, p_90_120, p_90_122, p_90_123, p_90_124, p_90_125, p_90_126, p_90_127, p_90_128, p_90_130, p_90_131, p_90_132, p_90_134, e7, hsh, e74]
            rw [p_90_135 (d := d + r + 1) hret]
            simp (disch := first | omega | ((simp (disch := omega) only [up_ne, up_eq, up_nj, gf_ne, gf_in, sa_ne, sa_eq]) <;> omega)) only [reduceIte, Bool.false_eq_true, if_pos, if_neg, up_ne, up_eq, up_nj, gf_ne, gf_in, sa_ne, sa_eq, and_self, true_and, and_true, p_90_138]
            rw [p_90_141]
            refine ih2 (c + 1) _ _ G2 _ (by omega) (by omega) q2 (q3'.trans hK2 (by omega)) hF2 ?_
            right
            omega
        · rw [if_neg (fun z => a z.1)] at q2
          simp (disch := first | omega | ((simp (disch := omega) only [up_ne, up_eq, up_nj, gf_ne, gf_in, sa_ne, sa_eq]) <;> omega)) only [reduceIte, Bool.false_eq_true, if_pos, if_neg, up_ne, up_eq, up_nj, gf_ne, gf_in, sa_ne, sa_eq, and_self, true_and, and_true, p_90_73, p_90_75, p_90_76, p_90_77, p_90_80, p_90_81, p_90_84, p_90_85, p_90_88, p_90_90, p_90_91, p_90_92, p_90_94, p_90_95, p_90_96, p_90_98, p_90_100, p_90_101, p_90_102, p_90_105, p_90_107, p_90_109, p_90_112, p_90_115, p_90_116, p_90_119, p_90_120, p_90_122, p_90_123, p_90_124, p_90_125, p_90_126, p_90_127, p_90_128, p_90_130, p_90_131, p_90_132, p_90_134, p_90_138, e7, hsh, e74]
          rw [p_90_141]
          exact ih2 (c + 1) g Vc Gc _ (by omega) (by omega) q2 q3 q4 q5
    show Ends (d + (r + 1) + 1) 90 0 _ _ _ _
    simp (disch := first | omega | ((simp (disch := omega) only [up_ne, up_eq, up_nj, gf_ne, gf_in, sa_ne, sa_eq]) <;> omega)) only [reduceIte, Bool.false_eq_true, if_pos, if_neg, up_ne, up_eq, up_nj, gf_ne, gf_in, sa_ne, sa_eq, and_self, true_and, and_true, p_90_0, p_90_1, p_90_2, p_90_5, p_90_70, p_90_71, g1]
    exact lp N 0 (-9223372036854775808) V G _ (by omega) (by omega) hlt.symm ⟨fun _ _ _ _ => rfl, fun _ _ => rfl, fun _ _ => rfl⟩ hF (Or.inl ⟨rfl, rfl⟩)
