/-! the reference's rows -/
def CM (G : AG) : Prop := 0 ≤ G 54 19 ∧ G 54 19 ≤ 10 ∧ 0 ≤ G 54 9 ∧ G 54 9 ≤ 30 ∧ 0 ≤ G 54 8 ∧ G 54 8 ≤ 12 ∧ ∀ i : Int, 0 ≤ i → i < 10 → 0 ≤ G 64 i ∧ G 64 i ≤ 90 ∧ 0 ≤ G 65 i ∧ G 65 i ≤ 100 ∧ -1 ≤ G 67 i ∧ G 67 i ≤ 400 ∧ 0 ≤ G 66 i ∧ G 66 i ≤ 1 ∧ (i < G 54 19 → 0 ≤ G 63 i ∧ G 63 i < 6)
theorem Rel.cm {G : AG} (hR : Rel G) : CM G := by
  obtain ⟨hm0, hm1, hm2, hm3, hm4, hm5, hm6⟩ := id hR.1
  obtain ⟨hc1, hc2, hc3, hc4, hc5, hc6, hc7, hc8, hc9, hc10, hc11, hc12, hc13⟩ := id hR.2.2.2.1
  refine ⟨by omega, by omega, by omega, by omega, by omega, by omega, fun i q1 q2 => ?_⟩
  obtain ⟨k1, k2, k3, k4, k5, k6, k7, k8, k9, k10, k11, k12⟩ := hc12 i q1 q2
  refine ⟨by omega, by omega, by omega, by omega, by omega, by omega, ?_, ?_, fun q => by have := k12 (by omega); omega⟩
  · rw [k11]
    split <;> omega
  · rw [k11]
    split <;> omega
def foM (G : AG) (p q : Int) : Bool := !nrM G (G 63 p) (G 63 q)
def rdM (G : AG) (day p : Int) : Bool := decide (G 67 p = -1) || decide (G 54 9 ≤ (if G 67 p - day < 0 then -(G 67 p - day) else G 67 p - day))
theorem c_canF {d : Nat} {G : AG} {x0 x1 : Int} (h0 : 0 ≤ x0) (h1 : x0 < 10) (h2 : 0 ≤ x1) (h3 : x1 < 10) (h4 : 0 ≤ G 63 x0) (h5 : G 63 x0 < 6) (h6 : 0 ≤ G 63 x1) (h7 : G 63 x1 < 6) (h8 : 0 ≤ G 54 8) (h9 : G 54 8 ≤ 12) : Ret (d + 2) 97 [vR 54, vI x0, vI x1] G (some (vI (if foM G x0 x1 = true then 1 else 0))) (G) := by
  unfold Ret
  have hr := f_bc_rng (f_and (G 55 (G 63 x0)) (G 55 (G 63 x1)))
  by_cases u : G 54 8 < f_bc (f_and (G 55 (G 63 x0)) (G 55 (G 63 x1)))
  · have e : foM G x0 x1 = false := by unfold foM nrM; rw [decide_eq_true u]; rfl
    simp (disch := first | omega | ((simp (disch := omega) only [up_ne, up_eq, up_nj, gf_ne, gf_in, sa_ne, sa_eq]) <;> omega)) only [reduceIte, Bool.false_eq_true, if_pos, if_neg, up_ne, up_eq, up_nj, gf_ne, gf_in, sa_ne, sa_eq, and_self, true_and, and_true, p_97_0, p_97_1, p_97_2, p_97_5, p_97_6, p_97_7, p_97_8, p_97_11, p_97_12, q_97_13, p_97_16, p_97_17, p_97_20, p_97_23, p_97_24, p_97_27, p_97_28, e]
  · have e : foM G x0 x1 = true := by unfold foM nrM; rw [decide_eq_false u]; rfl
    simp (disch := first | omega | ((simp (disch := omega) only [up_ne, up_eq, up_nj, gf_ne, gf_in, sa_ne, sa_eq]) <;> omega)) only [reduceIte, Bool.false_eq_true, if_pos, if_neg, up_ne, up_eq, up_nj, gf_ne, gf_in, sa_ne, sa_eq, and_self, true_and, and_true, p_97_0, p_97_1, p_97_2, p_97_5, p_97_6, p_97_7, p_97_8, p_97_11, p_97_12, q_97_13, p_97_16, p_97_17, p_97_20, p_97_23, p_97_24, p_97_27, p_97_28, e]
theorem q_98_100 {d : Nat} {G : AG} {Q : Option AV → AG → Prop} {x0 x1 : Int} {l0 l1 l2 l3 l4 l5 : AV} (h0 : 0 ≤ x0) (h1 : x0 < 10) (h2 : 0 ≤ x1) (h3 : x1 < 10) (h4 : 0 ≤ G 63 x0) (h5 : G 63 x0 < 6) (h6 : 0 ≤ G 63 x1) (h7 : G 63 x1 < 6) (h8 : 0 ≤ G 54 8) (h9 : G 54 8 ≤ 12) : Ends (d + 3) 98 100 [l0, l1, l2, l3, l4, l5] (vI x1 :: vI x0 :: vR 54 :: []) G Q ↔ Ends (d + 3) 98 103 [l0, l1, l2, l3, l4, l5] (vI (if foM G x0 x1 = true then 1 else 0) :: []) (G) Q := p_98_100 (d := d + 2) (c_canF (d := d + 0) h0 h1 h2 h3 h4 h5 h6 h7 h8 h9)
theorem q_101_40 {d : Nat} {G : AG} {Q : Option AV → AG → Prop} {x0 x1 : Int} {l0 l1 l2 l3 l4 : AV} (h0 : 0 ≤ x0) (h1 : x0 < 10) (h2 : 0 ≤ x1) (h3 : x1 < 10) (h4 : 0 ≤ G 63 x0) (h5 : G 63 x0 < 6) (h6 : 0 ≤ G 63 x1) (h7 : G 63 x1 < 6) (h8 : 0 ≤ G 54 8) (h9 : G 54 8 ≤ 12) : Ends (d + 3) 101 40 [l0, l1, l2, l3, l4] (vI x1 :: vI x0 :: vR 54 :: []) G Q ↔ Ends (d + 3) 101 43 [l0, l1, l2, l3, l4] (vI (if foM G x0 x1 = true then 1 else 0) :: []) (G) Q := p_101_40 (d := d + 2) (c_canF (d := d + 0) h0 h1 h2 h3 h4 h5 h6 h7 h8 h9)
theorem l_ff_in {d : Nat} {Q : Option AV → AG → Prop} {n w p v : Int} {fo : Int → Int → Bool} {G : AG} (hC : CM G) (hN : G 54 19 = n) (hfo : ∀ p q : Int, fo p q = foM G p q) (hp : 0 ≤ p ∧ p < n) (hv : 0 ≤ v ∧ v < 1024) (hr : 0 ≤ G 79 v ∧ G 79 v < 1024) {c : Bool}
    (K : ∀ l5 : AV, Ends (d + 3) 98 119 [vR 54, vI w, vI p, vI v, vI (if c = true then 1 else 0), l5] [] G Q) :
    ∀ (m : Nat) (i : Int), 0 ≤ i → i + m = n → any (fun q => tb (G 79 v) q && fo p q) m i = c → Ends (d + 3) 98 67 [vR 54, vI w, vI p, vI v, vI 0, vI i] [] G Q := by
  obtain ⟨c1, c2, c3, c4, c5, c6, c7⟩ := id hC
  obtain ⟨x1, x2, x3, x4, x5, x6, x7, x8, x9⟩ := c7 p hp.1 (by omega)
  have x9' := x9 (by omega)
  intro m
  induction m with
  | zero =>
    intro i h0 h1 hc
    rw [any] at hc
    subst hc
    have := K (vI i)
    rw [if_neg (by decide)] at this
    simp (disch := first | omega | ((simp (disch := omega) only [up_ne, up_eq, up_nj, gf_ne, gf_in, sa_ne, sa_eq]) <;> omega)) only [reduceIte, Bool.false_eq_true, if_pos, if_neg, up_ne, up_eq, up_nj, gf_ne, gf_in, sa_ne, sa_eq, and_self, true_and, and_true, p_98_67, p_98_69, p_98_70, p_98_73, hN]
    exact this
  | succ m ih =>
    intro i h0 h1 hc
    obtain ⟨y1, y2, y3, y4, y5, y6, y7, y8, y9⟩ := c7 i h0 (by omega)
    have y9' := y9 (by omega)
    have hb := fi_hasBit (s := G 79 v) (i := i) hr.1 (by omega) h0 (by omega)
    rw [any] at hc
    by_cases u : tb (G 79 v) i = true
    · by_cases u2 : foM G p i = true
      · have hcc : c = true := by rw [← hc, u, hfo, u2]; rfl
        subst hcc
        have hK := K (vI (i + 1))
        rw [if_pos rfl] at hK
        clear K ih
        simp (disch := first | omega | ((simp (disch := omega) only [up_ne, up_eq, up_nj, gf_ne, gf_in, sa_ne, sa_eq]) <;> omega)) only [reduceIte, Bool.false_eq_true, if_pos, if_neg, up_ne, up_eq, up_nj, gf_ne, gf_in, sa_ne, sa_eq, and_self, true_and, and_true, p_98_67, p_98_69, p_98_70, p_98_73, p_98_76, p_98_78, p_98_81, p_98_82, p_98_85, p_98_86, p_98_87, p_98_89, p_98_90, p_98_91, p_98_92, p_98_93, p_98_96, p_98_97, p_98_98, q_98_100, p_98_103, p_98_106, p_98_107, p_98_110, p_98_111, p_98_113, hN, hb, u, u2]
        rw [p_98_116]
        by_cases z : n ≤ i + 1
        · simp (disch := first | omega | ((simp (disch := omega) only [up_ne, up_eq, up_nj, gf_ne, gf_in, sa_ne, sa_eq]) <;> omega)) only [reduceIte, Bool.false_eq_true, if_pos, if_neg, up_ne, up_eq, up_nj, gf_ne, gf_in, sa_ne, sa_eq, and_self, true_and, and_true, p_98_67, p_98_69, p_98_70, p_98_73, p_98_76, p_98_78, hN]
          exact hK
        · simp (disch := first | omega | ((simp (disch := omega) only [up_ne, up_eq, up_nj, gf_ne, gf_in, sa_ne, sa_eq]) <;> omega)) only [reduceIte, Bool.false_eq_true, if_pos, if_neg, up_ne, up_eq, up_nj, gf_ne, gf_in, sa_ne, sa_eq, and_self, true_and, and_true, p_98_67, p_98_69, p_98_70, p_98_73, p_98_76, p_98_78, hN]
          exact hK
      · have u2' : foM G p i = false := by simpa using u2
        have hih := ih (i + 1) (by omega) (by omega) (by rw [← hc, hfo p i, u2', Bool.and_false, Bool.false_or])
        clear K ih
        simp (disch := first | omega | ((simp (disch := omega) only [up_ne, up_eq, up_nj, gf_ne, gf_in, sa_ne, sa_eq]) <;> omega)) only [reduceIte, Bool.false_eq_true, if_pos, if_neg, up_ne, up_eq, up_nj, gf_ne, gf_in, sa_ne, sa_eq, and_self, true_and, and_true, p_98_67, p_98_69, p_98_70, p_98_73, p_98_76, p_98_78, p_98_81, p_98_82, p_98_85, p_98_86, p_98_87, p_98_89, p_98_90, p_98_91, p_98_92, p_98_93, p_98_96, p_98_97, p_98_98, q_98_100, p_98_103, p_98_106, p_98_107, p_98_110, p_98_111, p_98_113, hN, hb, u, u2']
        rw [p_98_116]
        exact hih
    · have u' : tb (G 79 v) i = false := by simpa using u
      have hih := ih (i + 1) (by omega) (by omega) (by rw [← hc, u', Bool.false_and, Bool.false_or])
      clear K ih
      simp (disch := first | omega | ((simp (disch := omega) only [up_ne, up_eq, up_nj, gf_ne, gf_in, sa_ne, sa_eq]) <;> omega)) only [reduceIte, Bool.false_eq_true, if_pos, if_neg, up_ne, up_eq, up_nj, gf_ne, gf_in, sa_ne, sa_eq, and_self, true_and, and_true, p_98_67, p_98_69, p_98_70, p_98_73, p_98_76, p_98_78, p_98_81, p_98_82, p_98_85, p_98_86, p_98_87, p_98_89, p_98_90, p_98_91, p_98_92, p_98_93, p_98_96, p_98_97, p_98_98, q_98_100, p_98_103, p_98_106, p_98_107, p_98_110, p_98_111, p_98_113, hN, hb, u']
      rw [p_98_116]
      exact hih
theorem l_ff_mid {d : Nat} {Q : Option AV → AG → Prop} {n w : Int} {fo : Int → Int → Bool} {F fw : Int → Int} {G0 : AG} (h : EN n fo F fw) (hC : CM G0) (hN : G0 54 19 = n) (hfo : ∀ p q : Int, fo p q = foM G0 p q) (hw : 1 ≤ w ∧ w < 1024) :
    ∀ (m : Nat) (i : Int) (G : AG) (l3 l4 l5 : AV), 0 ≤ i → i + m = n → (∀ b : Nat, b ≠ 79 → G b = G0 b) → (∀ x : Int, 0 ≤ x → x < w → G 79 x = F x) → bx i (pfs n fo F w) (G 79 w) →
      (∀ (G' : AG) (l3 l4 l5 : AV), (∀ b : Nat, b ≠ 79 → G' b = G0 b) → (∀ x : Int, 0 ≤ x → x < w → G' 79 x = F x) → bx n (pfs n fo F w) (G' 79 w) → Ends (d + 3) 98 142 [vR 54, vI w, vI n, l3, l4, l5] [] G' Q) →
      Ends (d + 3) 98 28 [vR 54, vI w, vI i, l3, l4, l5] [] G Q := by
  have hn1 := h.1
  have hn2 := h.2.1
  intro m
  induction m with
  | zero =>
    intro i G l3 l4 l5 h0 h1 hE h79 hB K
    have e : i = n := by omega
    subst e
    have e19 : G 54 19 = i := by rw [hE 54 (by decide), hN]
    have := K G l3 l4 l5 hE h79 hB
    clear K
    simp (disch := first | omega | ((simp (disch := omega) only [up_ne, up_eq, up_nj, gf_ne, gf_in, sa_ne, sa_eq]) <;> omega)) only [reduceIte, Bool.false_eq_true, if_pos, if_neg, up_ne, up_eq, up_nj, gf_ne, gf_in, sa_ne, sa_eq, and_self, true_and, and_true, p_98_28, p_98_29, p_98_30, p_98_33, e19]
    exact this
  | succ m ih =>
    intro i G l3 l4 l5 h0 h1 hE h79 hB K
    have e19 : G 54 19 = n := by rw [hE 54 (by decide), hN]
    have hb := fi_hasBit (s := w) (i := i) (by omega) (by omega) h0 (by omega)
    obtain ⟨b1, b2, -⟩ := id hB
    have st := bx_step hB h0 (by omega)
    by_cases u : tb w i = true
    · obtain ⟨w1, w2, w3, -⟩ := wb_clr ⟨by omega, hw.2⟩ ⟨h0, by omega⟩ u
      have hCG : CM G := by
        unfold CM
        rw [hE 54 (by decide), hE 64 (by decide), hE 65 (by decide), hE 66 (by decide), hE 67 (by decide), hE 63 (by decide)]
        exact hC
      have hfoG : ∀ p q : Int, fo p q = foM G p q := fun p q => by
        rw [hfo p q]
        unfold foM nrM
        rw [hE 54 (by decide), hE 55 (by decide), hE 63 (by decide)]
      have hset := fi_setBit (s := G 79 w) (i := i) b1 (by omega) h0 (by omega)
      have fin : ∀ (c : Bool) (l5 : AV), pfs n fo F w i = c → Ends (d + 3) 98 119 [vR 54, vI w, vI i, vI (wb w i false), vI (if c = true then 1 else 0), l5] [] G Q := by
        intro c l5 hc
        cases c
        · have hih := ih (i + 1) G (vI (wb w i false)) (vI 0) l5 (by omega) (by omega) hE h79 (bx_skip hB hc) K
          clear K ih
          simp (disch := first | omega | ((simp (disch := omega) only [up_ne, up_eq, up_nj, gf_ne, gf_in, sa_ne, sa_eq]) <;> omega)) only [reduceIte, Bool.false_eq_true, if_pos, if_neg, up_ne, up_eq, up_nj, gf_ne, gf_in, sa_ne, sa_eq, and_self, true_and, and_true, p_98_119, p_98_121, p_98_136]
          rw [p_98_139]
          exact hih
        · rw [hc] at st
          have hih := ih (i + 1) (am_up G 79 w (wb (G 79 w) i true)) (vI (wb w i false)) (vI 1) l5 (by omega) (by omega) (fun b hb => by rw [am_up_ne _ _ _ _ _ hb, hE b hb]) (fun x q1 q2 => by rw [up_nj (by omega), h79 x q1 q2]) (by rw [up_eq rfl rfl]; exact st) K
          clear K ih
          simp (disch := first | omega | ((simp (disch := omega) only [up_ne, up_eq, up_nj, gf_ne, gf_in, sa_ne, sa_eq]) <;> omega)) only [reduceIte, Bool.false_eq_true, if_pos, if_neg, up_ne, up_eq, up_nj, gf_ne, gf_in, sa_ne, sa_eq, and_self, true_and, and_true, p_98_119, p_98_121, p_98_124, p_98_125, p_98_128, p_98_129, p_98_130, p_98_131, p_98_132, p_98_133, p_98_134, p_98_135, p_98_136, hset]
          rw [p_98_139]
          exact hih
      by_cases v : wb w i false = 0
      · have hf := fun l5 => fin true l5 (by unfold pfs; rw [u, decide_eq_true v]; rfl)
        rw [v] at hf
        have hf := hf (vI 0)
        rw [if_pos rfl] at hf
        rw [v] at w3
        clear K ih fin
        simp (disch := first | omega | ((simp (disch := omega) only [up_ne, up_eq, up_nj, gf_ne, gf_in, sa_ne, sa_eq]) <;> omega)) only [reduceIte, Bool.false_eq_true, if_pos, if_neg, up_ne, up_eq, up_nj, gf_ne, gf_in, sa_ne, sa_eq, and_self, true_and, and_true, p_98_28, p_98_29, p_98_30, p_98_33, p_98_36, p_98_37, p_98_38, p_98_39, p_98_40, p_98_41, p_98_44, p_98_47, p_98_48, p_98_49, p_98_50, p_98_51, p_98_52, p_98_53, p_98_54, p_98_57, p_98_58, p_98_61, p_98_62, p_98_64, p_98_65, e19, hb, u, w3]
        by_cases z : n ≤ 0
        · simp (disch := first | omega | ((simp (disch := omega) only [up_ne, up_eq, up_nj, gf_ne, gf_in, sa_ne, sa_eq]) <;> omega)) only [reduceIte, Bool.false_eq_true, if_pos, if_neg, up_ne, up_eq, up_nj, gf_ne, gf_in, sa_ne, sa_eq, and_self, true_and, and_true, p_98_67, p_98_69, p_98_70, p_98_73, p_98_76, p_98_78, e19]
          exact hf
        · simp (disch := first | omega | ((simp (disch := omega) only [up_ne, up_eq, up_nj, gf_ne, gf_in, sa_ne, sa_eq]) <;> omega)) only [reduceIte, Bool.false_eq_true, if_pos, if_neg, up_ne, up_eq, up_nj, gf_ne, gf_in, sa_ne, sa_eq, and_self, true_and, and_true, p_98_67, p_98_69, p_98_70, p_98_73, p_98_76, p_98_78, e19]
          exact hf
      · have hFr := h.rng (w := wb w i false) ⟨w1, by omega⟩
        have e79 := h79 (wb w i false) w1 w2
        have hpf : pfs n fo F w i = any (fun q => tb (G 79 (wb w i false)) q && fo i q) n.toNat 0 := by
          unfold pfs
          rw [u, decide_eq_false v, e79, Bool.true_and, Bool.false_or]
        have hin := l_ff_in (d := d) (Q := Q) (w := w) (p := i) (v := wb w i false) (c := pfs n fo F w i) hCG e19 hfoG ⟨h0, by omega⟩ ⟨w1, by omega⟩ (by rw [e79]; exact hFr) (fun l5 => fin _ l5 rfl) n.toNat 0 (by omega) (by omega) hpf.symm
        clear K ih fin
        simp (disch := first | omega | ((simp (disch := omega) only [up_ne, up_eq, up_nj, gf_ne, gf_in, sa_ne, sa_eq]) <;> omega)) only [reduceIte, Bool.false_eq_true, if_pos, if_neg, up_ne, up_eq, up_nj, gf_ne, gf_in, sa_ne, sa_eq, and_self, true_and, and_true, p_98_28, p_98_29, p_98_30, p_98_33, p_98_36, p_98_37, p_98_38, p_98_39, p_98_40, p_98_41, p_98_44, p_98_47, p_98_48, p_98_49, p_98_50, p_98_51, p_98_52, p_98_53, p_98_54, p_98_57, p_98_58, p_98_61, p_98_62, p_98_64, p_98_65, e19, hb, u, w3]
        exact hin
    · have u' : tb w i = false := by simpa using u
      have hih := ih (i + 1) G l3 l4 l5 (by omega) (by omega) hE h79 (bx_skip hB (by unfold pfs; rw [u', Bool.false_and])) K
      clear K ih
      simp (disch := first | omega | ((simp (disch := omega) only [up_ne, up_eq, up_nj, gf_ne, gf_in, sa_ne, sa_eq]) <;> omega)) only [reduceIte, Bool.false_eq_true, if_pos, if_neg, up_ne, up_eq, up_nj, gf_ne, gf_in, sa_ne, sa_eq, and_self, true_and, and_true, p_98_28, p_98_29, p_98_30, p_98_33, p_98_36, p_98_37, p_98_38, p_98_39, p_98_40, p_98_41, p_98_44, e19, hb, u']
      simp (disch := first | omega | ((simp (disch := omega) only [up_ne, up_eq, up_nj, gf_ne, gf_in, sa_ne, sa_eq]) <;> omega)) only [reduceIte, Bool.false_eq_true, if_pos, if_neg, up_ne, up_eq, up_nj, gf_ne, gf_in, sa_ne, sa_eq, and_self, true_and, and_true, p_98_136]
      rw [p_98_139]
      exact hih
theorem l_ff_out {d : Nat} {Q : Option AV → AG → Prop} {n : Int} {fo : Int → Int → Bool} {F fw : Int → Int} {G0 : AG} (h : EN n fo F fw) (hC : CM G0) (hN : G0 54 19 = n) (hfo : ∀ p q : Int, fo p q = foM G0 p q)
    (K : ∀ G' : AG, (∀ b : Nat, b ≠ 79 → G' b = G0 b) → (∀ x : Int, 0 ≤ x → x < (2 ^ n.toNat : Nat) → G' 79 x = F x) → Q none G') :
    ∀ (m : Nat) (w : Int) (G : AG) (l2 l3 l4 l5 : AV), 1 ≤ w → w + m = (2 ^ n.toNat : Nat) → (∀ b : Nat, b ≠ 79 → G b = G0 b) → (∀ x : Int, 0 ≤ x → x < w → G 79 x = F x) → Ends (d + 3) 98 9 [vR 54, vI w, l2, l3, l4, l5] [] G Q := by
  have hn1 := h.1
  have hn2 := h.2.1
  have hp : 2 ^ n.toNat ≤ 2 ^ 10 := Nat.pow_le_pow_right (by decide) (by omega)
  have hsh : f_shl 1 n = ((2 ^ n.toNat : Nat) : Int) := fi_shl hn1 (by omega)
  intro m
  induction m with
  | zero =>
    intro w G l2 l3 l4 l5 h0 h1 hE h79
    have e19 : G 54 19 = n := by rw [hE 54 (by decide), hN]
    have := K G hE (fun x q1 q2 => h79 x q1 (by omega))
    clear K
    simp (disch := first | omega | ((simp (disch := omega) only [up_ne, up_eq, up_nj, gf_ne, gf_in, sa_ne, sa_eq]) <;> omega)) only [reduceIte, Bool.false_eq_true, if_pos, if_neg, up_ne, up_eq, up_nj, gf_ne, gf_in, sa_ne, sa_eq, and_self, true_and, and_true, p_98_9, p_98_10, p_98_11, p_98_12, p_98_15, p_98_16, p_98_148, e19, hsh]
    exact this
  | succ m ih =>
    intro w G l2 l3 l4 l5 h0 h1 hE h79
    have e19 : G 54 19 = n := by rw [hE 54 (by decide), hN]
    have hmid := l_ff_mid (d := d) (Q := Q) (w := w) h hC hN hfo ⟨h0, by omega⟩ n.toNat 0 (am_up G 79 w 0) l3 l4 l5 (by omega) (by omega) (fun b hb => by rw [am_up_ne _ _ _ _ _ hb, hE b hb]) (fun x q1 q2 => by rw [up_nj (by omega), h79 x q1 q2]) (by rw [up_eq rfl rfl]; exact bx_zero) (fun G' l3' l4' l5' q1 q2 q3 => by
      have hih := ih (w + 1) G' (vI n) l3' l4' l5' (by omega) (by omega) q1 (fun x r1 r2 => by
        by_cases v : x = w
        · rw [v]
          exact bx_uni q3 (h.2.2.2.1 w h0 (by omega))
        · exact q2 x r1 (by omega))
      clear K ih
      simp (disch := first | omega | ((simp (disch := omega) only [up_ne, up_eq, up_nj, gf_ne, gf_in, sa_ne, sa_eq]) <;> omega)) only [reduceIte, Bool.false_eq_true, if_pos, if_neg, up_ne, up_eq, up_nj, gf_ne, gf_in, sa_ne, sa_eq, and_self, true_and, and_true, p_98_142]
      rw [p_98_145]
      exact hih)
    clear K ih
    simp (disch := first | omega | ((simp (disch := omega) only [up_ne, up_eq, up_nj, gf_ne, gf_in, sa_ne, sa_eq]) <;> omega)) only [reduceIte, Bool.false_eq_true, if_pos, if_neg, up_ne, up_eq, up_nj, gf_ne, gf_in, sa_ne, sa_eq, and_self, true_and, and_true, p_98_9, p_98_10, p_98_11, p_98_12, p_98_15, p_98_16, p_98_19, p_98_20, p_98_23, p_98_24, p_98_25, p_98_26, p_98_27, e19, hsh]
    exact hmid
theorem c_ff {d : Nat} {Q : Option AV → AG → Prop} {n : Int} {fo : Int → Int → Bool} {F fw : Int → Int} {G0 : AG} (h : EN n fo F fw) (hC : CM G0) (hN : G0 54 19 = n) (hfo : ∀ p q : Int, fo p q = foM G0 p q)
    (K : ∀ G' : AG, (∀ b : Nat, b ≠ 79 → G' b = G0 b) → (∀ x : Int, 0 ≤ x → x < (2 ^ n.toNat : Nat) → G' 79 x = F x) → Q none G') : Ends (d + 3) 98 0 [vR 54, vU, vU, vU, vU, vU] [] G0 Q := by
  have hp1 : 1 ≤ 2 ^ n.toNat := Nat.pos_of_ne_zero (by simp)
  have hout := l_ff_out (d := d) h hC hN hfo K (2 ^ n.toNat - 1) 1 (am_up G0 79 0 0) vU vU vU vU (by omega) (by omega) (fun b hb => am_up_ne _ _ _ _ _ hb) (fun x q1 q2 => by
    have e : x = 0 := by omega
    rw [e, up_eq rfl rfl, h.2.2.1])
  clear K
  simp (disch := first | omega | ((simp (disch := omega) only [up_ne, up_eq, up_nj, gf_ne, gf_in, sa_ne, sa_eq]) <;> omega)) only [reduceIte, Bool.false_eq_true, if_pos, if_neg, up_ne, up_eq, up_nj, gf_ne, gf_in, sa_ne, sa_eq, and_self, true_and, and_true, p_98_0, p_98_1, p_98_4, p_98_5, p_98_6, p_98_7, p_98_8r]
  exact hout
theorem l_smM {d : Nat} {Q : Option AV → AG → Prop} {n w : Int} {G : AG} (hn : 0 ≤ n ∧ n ≤ 10) (hN : G 54 19 = n) (hw : 0 ≤ w ∧ w < 1024) (hf : ∀ i : Int, 0 ≤ i → i < 10 → 0 ≤ G 65 i ∧ G 65 i ≤ 100) :
    ∀ (m : Nat) (i acc : Int), 0 ≤ i → i + m = n → 0 ≤ acc → acc ≤ 100 * i → (Ends d 100 4 [vR 54, vI w, vI acc, vI i] [] G Q ↔ Q (some (vI (acc + sumf (fun p => if tb w p = true then G 65 p else 0) m i))) G) := by
  intro m
  induction m with
  | zero =>
    intro i acc h0 h1 h2 h3
    have e : i = n := by omega
    subst e
    simp (disch := first | omega | ((simp (disch := omega) only [up_ne, up_eq, up_nj, gf_ne, gf_in, sa_ne, sa_eq]) <;> omega)) only [reduceIte, Bool.false_eq_true, if_pos, if_neg, up_ne, up_eq, up_nj, gf_ne, gf_in, sa_ne, sa_eq, and_self, true_and, and_true, p_100_4, p_100_5, p_100_6, p_100_9, p_100_36, p_100_37, hN]
    rw [sumf, Int.add_zero]
  | succ m ih =>
    intro i acc h0 h1 h2 h3
    have y := hf i h0 (by omega)
    have hb := fi_hasBit (s := w) (i := i) (by omega) (by omega) h0 (by omega)
    rw [sumf]
    by_cases u : tb w i = true
    · simp (disch := first | omega | ((simp (disch := omega) only [up_ne, up_eq, up_nj, gf_ne, gf_in, sa_ne, sa_eq]) <;> omega)) only [reduceIte, Bool.false_eq_true, if_pos, if_neg, up_ne, up_eq, up_nj, gf_ne, gf_in, sa_ne, sa_eq, and_self, true_and, and_true, p_100_4, p_100_5, p_100_6, p_100_9, p_100_12, p_100_13, p_100_14, p_100_15, p_100_16, p_100_17, p_100_18, p_100_21, p_100_22, p_100_23, p_100_26, p_100_27, p_100_28, p_100_29, p_100_30, hN, hb, u]
      rw [p_100_33, ih (i + 1) (acc + G 65 i) (by omega) (by omega) (by omega) (by omega), Int.add_assoc]
    · simp (disch := first | omega | ((simp (disch := omega) only [up_ne, up_eq, up_nj, gf_ne, gf_in, sa_ne, sa_eq]) <;> omega)) only [reduceIte, Bool.false_eq_true, if_pos, if_neg, up_ne, up_eq, up_nj, gf_ne, gf_in, sa_ne, sa_eq, and_self, true_and, and_true, p_100_4, p_100_5, p_100_6, p_100_9, p_100_12, p_100_13, p_100_14, p_100_15, p_100_16, p_100_17, p_100_18, p_100_21, p_100_22, p_100_23, p_100_26, p_100_27, p_100_28, p_100_29, p_100_30, hN, hb, u]
      rw [p_100_33, ih (i + 1) acc (by omega) (by omega) (by omega) (by omega), Int.zero_add]
theorem c_smM {d : Nat} {n w : Int} {G : AG} (hn : 0 ≤ n ∧ n ≤ 10) (hN : G 54 19 = n) (hw : 0 ≤ w ∧ w < 1024) (hf : ∀ i : Int, 0 ≤ i → i < 10 → 0 ≤ G 65 i ∧ G 65 i ≤ 100) :
    Ret d 100 [vR 54, vI w, vU, vU] G (some (vI (swf (G 65) n w))) G := by
  unfold Ret
  simp (disch := first | omega | ((simp (disch := omega) only [up_ne, up_eq, up_nj, gf_ne, gf_in, sa_ne, sa_eq]) <;> omega)) only [reduceIte, Bool.false_eq_true, if_pos, if_neg, up_ne, up_eq, up_nj, gf_ne, gf_in, sa_ne, sa_eq, and_self, true_and, and_true, p_100_0, p_100_1, p_100_2, p_100_3]
  rw [l_smM hn hN hw hf n.toNat 0 0 (by omega) (by omega) (by omega) (by omega), Int.zero_add]
  exact ⟨rfl, rfl⟩
