/-! filling an evening; what stands is a list, the latest first -/
def cmpP : List Int → Int
  | [] => 0
  | q :: p => if q = 36 then cmpP p else wb (cmpP p) (q / 6) true
def mayP (G : AG) (z0 : Int) : List Int → Int
  | [] => z0
  | q :: p => if q = 36 then mayP G z0 p else f_and (mayP G z0 p) (G 29 (q / 6))
def freP : List Int → Int
  | [] => 63
  | q :: p => if q = 36 then freP p else wb (freP p) (q % 6) false
def farP (G : AG) : List Int → Int
  | [] => 63
  | q :: p => if q = 36 then farP G p else G 30 (q % 6)
def vlsP (G : AG) (fs : Int) : List Int → Int
  | [] => 0
  | q :: p => vlsP G fs p + G (18 + (fs + p.length).toNat) q
def okX (G : AG) (z0 : Int) (p : List Int) (o : Int) : Bool := tb (mayP G z0 p) (o / 6) && tb (f_and (freP p) (farP G p)) (o % 6)
def stX (G : AG) (fs : Int) (oc : Int → Int) (p : List Int) : Int → Int := fun c => if c = cmpP p then max (oc (cmpP p)) (vlsP G fs p) else oc c
def chs (G : AG) (h : Int) : List Int := rl (ok1 G h) 36 0
def enX (G : AG) (z0 fs : Int) : Nat → List Int → (Int → Int) → (Int → Int)
  | 0, p, oc => stX G fs oc p
  | k + 1, p, oc => enX G z0 fs k (36 :: p) ((chs G p.length).foldl (fun oc o => if okX G z0 p o = true then enX G z0 fs k (o :: p) oc else oc) oc)
def FS (G : AG) (z0 fs S : Int) : Prop := 1 ≤ S ∧ S ≤ 3 ∧ G 13 5 = S ∧ G 16 10 = fs ∧ 0 ≤ fs ∧ fs + S ≤ 6 ∧ 0 ≤ z0 ∧ z0 < 64 ∧
  (∀ h : Int, 0 ≤ h → h < S → G 28 h = (chs G h).length ∧ (chs G h).length ≤ 36 ∧ (∀ j : Nat, j < (chs G h).length → G (25 + h.toNat) (j : Int) = (chs G h).getD j 0) ∧ ∀ o ∈ chs G h, 0 ≤ o ∧ o < 36 ∧ 0 ≤ G 29 (o / 6) ∧ G 29 (o / 6) < 64 ∧ 0 ≤ G 30 (o % 6) ∧ G 30 (o % 6) < 64) ∧
  ∀ s o : Int, fs ≤ s → s < fs + S → 0 ≤ o → o < 37 → -3000000000000 ≤ G (18 + s.toNat) o ∧ G (18 + s.toNat) o ≤ 3000000000000
def PV (G : AG) (p : List Int) : Prop := ∀ q ∈ p, q = 36 ∨ (0 ≤ q ∧ q < 36 ∧ 0 ≤ G 29 (q / 6) ∧ G 29 (q / 6) < 64 ∧ 0 ≤ G 30 (q % 6) ∧ G 30 (q % 6) < 64)
def OC (oc : Int → Int) : Prop := ∀ c : Int, 0 ≤ c → c < 64 → -9223372036854775808 ≤ oc c ∧ oc c ≤ 100000000000000
theorem f_and_rng {a b : Int} (h0 : 0 ≤ a) (h1 : a < 64) (h2 : 0 ≤ b) (h3 : b < 64) : 0 ≤ f_and a b ∧ f_and a b < 64 := by
  rw [fi_and h0 (by omega) h2 (by omega)]
  have := @Nat.and_le_left a.toNat b.toNat
  omega
theorem PV.tl {G : AG} {q : Int} {p : List Int} (h : PV G (q :: p)) : PV G p := fun x hx => h x (List.mem_cons_of_mem _ hx)
theorem cmpP_rng {G : AG} : ∀ {p : List Int}, PV G p → 0 ≤ cmpP p ∧ cmpP p < 64
  | [], _ => by simp [cmpP]
  | q :: p, h => by
    have ih := cmpP_rng h.tl
    rw [cmpP]
    split
    · exact ih
    · have := h q List.mem_cons_self
      exact ⟨wb_nonneg _ _ _, wb_lt (n := 6) ih.1 ih.2 (by omega) (by omega)⟩
theorem freP_rng {G : AG} : ∀ {p : List Int}, PV G p → 0 ≤ freP p ∧ freP p < 64
  | [], _ => by simp [freP]
  | q :: p, h => by
    have ih := freP_rng h.tl
    rw [freP]
    split
    · exact ih
    · have := h q List.mem_cons_self
      exact ⟨wb_nonneg _ _ _, wb_lt (n := 6) ih.1 ih.2 (by omega) (by omega)⟩
theorem mayP_rng {G : AG} {z0 : Int} (hz : 0 ≤ z0 ∧ z0 < 64) : ∀ {p : List Int}, PV G p → 0 ≤ mayP G z0 p ∧ mayP G z0 p < 64
  | [], _ => hz
  | q :: p, h => by
    have ih := mayP_rng hz h.tl
    rw [mayP]
    split
    · exact ih
    · have := h q List.mem_cons_self
      exact f_and_rng ih.1 ih.2 (by omega) (by omega)
theorem farP_rng {G : AG} : ∀ {p : List Int}, PV G p → 0 ≤ farP G p ∧ farP G p < 64
  | [], _ => by simp [farP]
  | q :: p, h => by
    have ih := farP_rng h.tl
    rw [farP]
    split
    · exact ih
    · have := h q List.mem_cons_self
      omega
theorem vlsP_rng {G : AG} {z0 fs S : Int} (hF : FS G z0 fs S) : ∀ {p : List Int}, PV G p → (p.length : Int) ≤ S → -(3000000000000 * p.length) ≤ vlsP G fs p ∧ vlsP G fs p ≤ 3000000000000 * p.length
  | [], _, _ => by simp [vlsP]
  | q :: p, h, hl => by
    simp only [List.length_cons] at hl ⊢
    have ih := vlsP_rng hF h.tl (by omega)
    have hq := h q List.mem_cons_self
    have := hF.2.2.2.2.2.2.2.2.2 (fs + p.length) q (by omega) (by omega) (by omega) (by omega)
    rw [vlsP]
    omega
theorem stX_oc {G : AG} {fs : Int} {oc : Int → Int} {p : List Int} (h : OC oc) (hc : 0 ≤ cmpP p ∧ cmpP p < 64) (hv : vlsP G fs p ≤ 100000000000000) : OC (stX G fs oc p) := by
  intro c q1 q2
  have h1 := h c q1 q2
  have h2 := h (cmpP p) hc.1 hc.2
  unfold stX
  split <;> omega
theorem PV.cons {G : AG} {q : Int} {p : List Int} (h : PV G p) (hq : q = 36 ∨ (0 ≤ q ∧ q < 36 ∧ 0 ≤ G 29 (q / 6) ∧ G 29 (q / 6) < 64 ∧ 0 ≤ G 30 (q % 6) ∧ G 30 (q % 6) < 64)) : PV G (q :: p) := by
  intro x hx
  rcases List.mem_cons.mp hx with rfl | hx
  · exact hq
  · exact h x hx
theorem enX_oc {G : AG} {z0 fs S : Int} (hF : FS G z0 fs S) : ∀ (k : Nat) (p : List Int) (oc : Int → Int), PV G p → (p.length : Int) + k = S → OC oc → OC (enX G z0 fs k p oc)
  | 0, p, oc, hp, hl, ho => by
    have h1 := vlsP_rng hF hp (by omega)
    have := hF.2.1
    exact stX_oc ho (cmpP_rng hp) (by omega)
  | k + 1, p, oc, hp, hl, ho => by
    rw [enX]
    refine enX_oc hF k (36 :: p) _ (hp.cons (Or.inl rfl)) (by simp; omega) ?_
    have hc := hF.2.2.2.2.2.2.2.2.1 p.length (by omega) (by omega)
    have key : ∀ (l : List Int) (oc : Int → Int), (∀ o ∈ l, o ∈ chs G p.length) → OC oc → OC (l.foldl (fun oc o => if okX G z0 p o = true then enX G z0 fs k (o :: p) oc else oc) oc) := by
      intro l
      induction l with
      | nil => intro oc _ h; exact h
      | cons o l ih2 =>
        intro oc hm h
        rw [List.foldl_cons]
        refine ih2 _ (fun x hx => hm x (List.mem_cons_of_mem _ hx)) ?_
        split
        · exact enX_oc hF k (o :: p) oc (hp.cons (Or.inr (hc.2.2.2 o (hm o List.mem_cons_self)))) (by simp; omega) h
        · exact h
    exact key _ oc (fun _ h => h) ho
theorem l_fillL {G0 : AG} {z0 fs S : Int} (hF : FS G0 z0 fs S) {k d : Nat} {p : List Int} {Q : Option AV → AG → Prop} (hp : PV G0 p) (hl : (p.length : Int) + (k + 1 : Nat) = S)
    (hW : ∀ (o : Int) (oc : Int → Int), o ∈ chs G0 p.length → OC oc → Ret (d + 1) 29 [vR 16, vI o, vI p.length, vI (cmpP p), vI (mayP G0 z0 p), vI (freP p), vL (vlsP G0 fs p), vU, vU, vU] (setA G0 31 oc) none (setA G0 31 (enX G0 z0 fs k (o :: p) oc))) :
    ∀ (l : List Int) (i : Nat) (oc : Int → Int) (l9 : AV), i + l.length = (chs G0 p.length).length → (∀ j : Nat, j < l.length → (chs G0 p.length).getD (i + j) 0 = l.getD j 0) → (∀ o ∈ l, o ∈ chs G0 p.length) → OC oc →
      (∀ l9' : AV, Ends (d + 2) 28 101 [vR 16, vI p.length, vI (cmpP p), vI (mayP G0 z0 p), vI (freP p), vI (farP G0 p), vL (vlsP G0 fs p), vU, vI (chs G0 p.length).length, l9'] [] (setA G0 31 (l.foldl (fun oc o => if okX G0 z0 p o = true then enX G0 z0 fs k (o :: p) oc else oc) oc)) Q) →
      Ends (d + 2) 28 32 [vR 16, vI p.length, vI (cmpP p), vI (mayP G0 z0 p), vI (freP p), vI (farP G0 p), vL (vlsP G0 fs p), vU, vI i, l9] [] (setA G0 31 oc) Q := by
  obtain ⟨f1, f2, f3, f4, f5, f6, f7, f8, f9, f10⟩ := id hF
  have hm := mayP_rng ⟨f7, f8⟩ hp (G := G0)
  have hfr := freP_rng hp
  have hfa := farP_rng hp
  have hff := f_and_rng hfr.1 hfr.2 hfa.1 hfa.2
  have hch := f9 p.length (by omega) (by omega)
  intro l
  induction l with
  | nil =>
    intro i oc l9 h1 h2 h3 ho K
    simp only [List.length_nil, Nat.add_zero] at h1
    subst h1
    simp (disch := first | omega | ((simp (disch := omega) only [up_ne, up_eq, up_nj, gf_ne, gf_in, sa_ne, sa_eq]) <;> omega)) only [reduceIte, Bool.false_eq_true, if_pos, if_neg, up_ne, up_eq, up_nj, gf_ne, gf_in, sa_ne, sa_eq, and_self, true_and, and_true, p_28_32, p_28_34, p_28_35, p_28_38, p_28_39, p_28_40, p_28_43, p_28_44, p_28_47, p_28_48, p_28_49, p_28_51, p_28_52, p_28_54, p_28_55, p_28_57, p_28_59, q_28_60, p_28_63, p_28_66, p_28_68, p_28_70, p_28_71, p_28_73, p_28_75, q_28_76, p_28_79, p_28_82, p_28_83, p_28_85, p_28_86, p_28_87, p_28_88, p_28_90, p_28_95, hch.1]
    exact K l9
  | cons o l ih =>
    intro i oc l9 h1 h2 h3 ho K
    simp only [List.length_cons] at h1 h2
    have ho' := h3 o List.mem_cons_self
    have hov := hch.2.2.2 o ho'
    have hi := hch.2.2.1 i (by omega)
    have h20 := h2 0 (by omega)
    simp only [Nat.add_zero, List.getD_cons_zero] at h20
    rw [h20] at hi
    have step : ∀ oc' : Int → Int, oc' = (if okX G0 z0 p o = true then enX G0 z0 fs k (o :: p) oc else oc) → OC oc' → Ends (d + 2) 28 32 [vR 16, vI p.length, vI (cmpP p), vI (mayP G0 z0 p), vI (freP p), vI (farP G0 p), vL (vlsP G0 fs p), vU, vI ((i : Int) + 1), vI o] [] (setA G0 31 oc') Q := by
      intro oc' e hoc
      have h4 := ih (i + 1) oc' (vI o) (by omega) (fun j hj => by
        have := h2 (j + 1) (by omega)
        rw [List.getD_cons_succ] at this
        rw [← this]
        congr 1
        omega) (fun x hx => h3 x (List.mem_cons_of_mem _ hx)) hoc (by rw [e]; exact K)
      exact h4
    by_cases a : tb (mayP G0 z0 p) (o / 6) = true
    · by_cases b : tb (f_and (freP p) (farP G0 p)) (o % 6) = true
      · simp (disch := first | omega | ((simp (disch := omega) only [up_ne, up_eq, up_nj, gf_ne, gf_in, sa_ne, sa_eq]) <;> omega)) only [reduceIte, Bool.false_eq_true, if_pos, if_neg, up_ne, up_eq, up_nj, gf_ne, gf_in, sa_ne, sa_eq, and_self, true_and, and_true, p_28_32, p_28_34, p_28_35, p_28_38, p_28_39, p_28_40, p_28_43, p_28_44, p_28_47, p_28_48, p_28_49, p_28_51, p_28_52, p_28_54, p_28_55, p_28_57, p_28_59, q_28_60, p_28_63, p_28_66, p_28_68, p_28_70, p_28_71, p_28_73, p_28_75, q_28_76, p_28_79, p_28_82, p_28_83, p_28_85, p_28_86, p_28_87, p_28_88, p_28_90, p_28_95, hch.1, hi, a, b]
        rw [p_28_92 (d := d + 1) (hW o oc ho' ho)]
        simp (disch := first | omega | ((simp (disch := omega) only [up_ne, up_eq, up_nj, gf_ne, gf_in, sa_ne, sa_eq]) <;> omega)) only [reduceIte, Bool.false_eq_true, if_pos, if_neg, up_ne, up_eq, up_nj, gf_ne, gf_in, sa_ne, sa_eq, and_self, true_and, and_true, p_28_95]
        rw [p_28_98]
        refine step _ (by rw [if_pos (by simp [okX, a, b])]) ?_
        exact enX_oc hF k (o :: p) oc (hp.cons (Or.inr hov)) (by simp; omega) ho
      · simp (disch := first | omega | ((simp (disch := omega) only [up_ne, up_eq, up_nj, gf_ne, gf_in, sa_ne, sa_eq]) <;> omega)) only [reduceIte, Bool.false_eq_true, if_pos, if_neg, up_ne, up_eq, up_nj, gf_ne, gf_in, sa_ne, sa_eq, and_self, true_and, and_true, p_28_32, p_28_34, p_28_35, p_28_38, p_28_39, p_28_40, p_28_43, p_28_44, p_28_47, p_28_48, p_28_49, p_28_51, p_28_52, p_28_54, p_28_55, p_28_57, p_28_59, q_28_60, p_28_63, p_28_66, p_28_68, p_28_70, p_28_71, p_28_73, p_28_75, q_28_76, p_28_79, p_28_82, p_28_83, p_28_85, p_28_86, p_28_87, p_28_88, p_28_90, p_28_95, hch.1, hi, a, b]
        rw [p_28_98]
        exact step oc (by rw [if_neg (by simp [okX, b])]) ho
    · simp (disch := first | omega | ((simp (disch := omega) only [up_ne, up_eq, up_nj, gf_ne, gf_in, sa_ne, sa_eq]) <;> omega)) only [reduceIte, Bool.false_eq_true, if_pos, if_neg, up_ne, up_eq, up_nj, gf_ne, gf_in, sa_ne, sa_eq, and_self, true_and, and_true, p_28_32, p_28_34, p_28_35, p_28_38, p_28_39, p_28_40, p_28_43, p_28_44, p_28_47, p_28_48, p_28_49, p_28_51, p_28_52, p_28_54, p_28_55, p_28_57, p_28_59, q_28_60, p_28_63, p_28_66, p_28_68, p_28_70, p_28_71, p_28_73, p_28_75, q_28_76, p_28_79, p_28_82, p_28_83, p_28_85, p_28_86, p_28_87, p_28_88, p_28_90, p_28_95, hch.1, hi, a]
      rw [p_28_98]
      exact step oc (by rw [if_neg (by simp [okX, a])]) ho
theorem c_fillWith {G0 : AG} {z0 fs S : Int} (hF : FS G0 z0 fs S) {k d : Nat} {p : List Int} (hp : PV G0 p) (hl : (p.length : Int) + (k + 1 : Nat) = S) {o : Int} (hov : 0 ≤ o ∧ o < 36 ∧ 0 ≤ G0 29 (o / 6) ∧ G0 29 (o / 6) < 64 ∧ 0 ≤ G0 30 (o % 6) ∧ G0 30 (o % 6) < 64) {oc oc' : Int → Int}
    (hR : Ret d 28 [vR 16, vI (o :: p).length, vI (cmpP (o :: p)), vI (mayP G0 z0 (o :: p)), vI (freP (o :: p)), vI (farP G0 (o :: p)), vL (vlsP G0 fs (o :: p)), vU, vU, vU] (setA G0 31 oc) none (setA G0 31 oc')) :
    Ret (d + 1) 29 [vR 16, vI o, vI p.length, vI (cmpP p), vI (mayP G0 z0 p), vI (freP p), vL (vlsP G0 fs p), vU, vU, vU] (setA G0 31 oc) none (setA G0 31 oc') := by
  obtain ⟨f1, f2, f3, f4, f5, f6, f7, f8, f9, f10⟩ := id hF
  have hc := cmpP_rng hp
  have hm := mayP_rng ⟨f7, f8⟩ hp (G := G0)
  have hfr := freP_rng hp
  have e1 : (decide ((1 : Int) = 1)) = true := rfl
  have e0 : (decide ((0 : Int) = 1)) = false := rfl
  have hlen : (((o :: p).length : Nat) : Int) = (p.length : Int) + 1 := by simp
  rw [hlen, cmpP, mayP, freP, farP, vlsP, if_neg (by omega), if_neg (by omega), if_neg (by omega), if_neg (by omega)] at hR
  unfold Ret
  simp (disch := first | omega | ((simp (disch := omega) only [up_ne, up_eq, up_nj, gf_ne, gf_in, sa_ne, sa_eq]) <;> omega)) only [reduceIte, Bool.false_eq_true, if_pos, if_neg, up_ne, up_eq, up_nj, gf_ne, gf_in, sa_ne, sa_eq, and_self, true_and, and_true, p_29_0, p_29_1, p_29_3, p_29_4, p_29_4r, p_29_4u, p_29_6, p_29_7, p_29_9, p_29_10, p_29_12, p_29_13, p_29_14, p_29_15, p_29_16, p_29_17, p_29_19, q_29_20, p_29_23, p_29_25, p_29_26, p_29_29, p_29_31, p_29_32, p_29_33, p_29_35, p_29_37, q_29_38, p_29_41, p_29_42, p_29_45, p_29_47, p_29_48, p_29_50, p_29_51, p_29_54, p_29_55, p_29_58, p_29_59, p_29_60, p_29_61, p_29_62, p_29_63, p_29_67, f4, e1, e0, decide_true]
  rw [p_29_64 (d := d) hR]
  simp (disch := first | omega | ((simp (disch := omega) only [up_ne, up_eq, up_nj, gf_ne, gf_in, sa_ne, sa_eq]) <;> omega)) only [reduceIte, Bool.false_eq_true, if_pos, if_neg, up_ne, up_eq, up_nj, gf_ne, gf_in, sa_ne, sa_eq, and_self, true_and, and_true, p_29_0, p_29_1, p_29_3, p_29_4, p_29_4r, p_29_4u, p_29_6, p_29_7, p_29_9, p_29_10, p_29_12, p_29_13, p_29_14, p_29_15, p_29_16, p_29_17, p_29_19, q_29_20, p_29_23, p_29_25, p_29_26, p_29_29, p_29_31, p_29_32, p_29_33, p_29_35, p_29_37, q_29_38, p_29_41, p_29_42, p_29_45, p_29_47, p_29_48, p_29_50, p_29_51, p_29_54, p_29_55, p_29_58, p_29_59, p_29_60, p_29_61, p_29_62, p_29_63, p_29_67]
theorem c_fillFrom {G0 : AG} {z0 fs S : Int} (hF : FS G0 z0 fs S) : ∀ (k d : Nat) (p : List Int) (oc : Int → Int), PV G0 p → (p.length : Int) + k = S → OC oc →
    Ret (d + 2 * k + 1) 28 [vR 16, vI p.length, vI (cmpP p), vI (mayP G0 z0 p), vI (freP p), vI (farP G0 p), vL (vlsP G0 fs p), vU, vU, vU] (setA G0 31 oc) none (setA G0 31 (enX G0 z0 fs k p oc)) := by
  obtain ⟨f1, f2, f3, f4, f5, f6, f7, f8, f9, f10⟩ := id hF
  intro k
  induction k with
  | zero =>
    intro d p oc hp hl ho
    have hc := cmpP_rng hp
    have hv := vlsP_rng hF hp (by omega)
    have ho1 := ho (cmpP p) hc.1 hc.2
    unfold Ret
    simp (disch := first | omega | ((simp (disch := omega) only [up_ne, up_eq, up_nj, gf_ne, gf_in, sa_ne, sa_eq]) <;> omega)) only [reduceIte, Bool.false_eq_true, if_pos, if_neg, up_ne, up_eq, up_nj, gf_ne, gf_in, sa_ne, sa_eq, and_self, true_and, and_true, p_28_0, p_28_1, p_28_2, p_28_5, p_28_8, p_28_11, p_28_12, p_28_15, p_28_16, p_28_17, p_28_20, p_28_21, p_28_22, q_28_24, p_28_27, p_28_28, p_28_29, p_28_30, p_28_30r, p_28_30u, p_28_32, p_28_34, p_28_35, p_28_38, p_28_39, p_28_40, p_28_43, p_28_44, p_28_47, p_28_48, p_28_49, p_28_51, p_28_52, p_28_54, p_28_55, p_28_57, p_28_59, q_28_60, p_28_63, p_28_66, p_28_68, p_28_70, p_28_71, p_28_73, p_28_75, q_28_76, p_28_79, p_28_82, p_28_83, p_28_85, p_28_86, p_28_87, p_28_88, p_28_90, p_28_95, p_28_101, p_28_102, p_28_103, p_28_104, p_28_105, p_28_106, p_28_107, p_28_109, p_28_111, p_28_113, p_28_114, p_28_117, p_28_118, p_28_121, p_28_122, p_28_123, p_28_124, p_28_126, p_28_127, p_28_131]
    rw [sa_up]
    rfl
  | succ k ih =>
    intro d p oc hp hl ho
    have hch := f9 p.length (by omega) (by omega)
    have hW : ∀ (o : Int) (oc : Int → Int), o ∈ chs G0 p.length → OC oc → Ret (d + 2 * k + 1 + 1) 29 [vR 16, vI o, vI p.length, vI (cmpP p), vI (mayP G0 z0 p), vI (freP p), vL (vlsP G0 fs p), vU, vU, vU] (setA G0 31 oc) none (setA G0 31 (enX G0 z0 fs k (o :: p) oc)) := by
      intro o oc ho' hoc
      have hov := hch.2.2.2 o ho'
      exact c_fillWith hF hp hl hov (ih d (o :: p) oc (hp.cons (Or.inr hov)) (by simp; omega) hoc)
    unfold Ret
    show Ends (d + 2 * k + 1 + 2) 28 0 _ _ _ _
    simp (disch := first | omega | ((simp (disch := omega) only [up_ne, up_eq, up_nj, gf_ne, gf_in, sa_ne, sa_eq]) <;> omega)) only [reduceIte, Bool.false_eq_true, if_pos, if_neg, up_ne, up_eq, up_nj, gf_ne, gf_in, sa_ne, sa_eq, and_self, true_and, and_true, p_28_0, p_28_1, p_28_2, p_28_5, p_28_8, p_28_11, p_28_12, p_28_15, p_28_16, p_28_17, p_28_20, p_28_21, p_28_22, q_28_24, p_28_27, p_28_28, p_28_29, p_28_30, p_28_30r, p_28_30u]
    refine l_fillL hF hp hl hW (chs G0 p.length) 0 oc _ (by simp) (fun j hj => by simp) (fun _ h => h) ho ?_
    intro l9'
    have hoc2 : OC ((chs G0 p.length).foldl (fun oc o => if okX G0 z0 p o = true then enX G0 z0 fs k (o :: p) oc else oc) oc) := by
      have key : ∀ (l : List Int) (oc : Int → Int), (∀ o ∈ l, o ∈ chs G0 p.length) → OC oc → OC (l.foldl (fun oc o => if okX G0 z0 p o = true then enX G0 z0 fs k (o :: p) oc else oc) oc) := by
        intro l
        induction l with
        | nil => intro oc _ h; exact h
        | cons o l ih2 =>
          intro oc hm h
          rw [List.foldl_cons]
          refine ih2 _ (fun x hx => hm x (List.mem_cons_of_mem _ hx)) ?_
          split
          · exact enX_oc hF k (o :: p) oc (hp.cons (Or.inr (hch.2.2.2 o (hm o List.mem_cons_self)))) (by simp; omega) h
          · exact h
      exact key _ oc (fun _ h => h) ho
    have hrec := ih (d + 1) (36 :: p) _ (hp.cons (Or.inl rfl)) (by simp; omega) hoc2
    have hlen : (((36 :: p : List Int).length : Nat) : Int) = (p.length : Int) + 1 := by simp
    rw [hlen, cmpP, mayP, freP, farP, vlsP, if_pos rfl, if_pos rfl, if_pos rfl, if_pos rfl, show d + 1 + 2 * k + 1 = d + 2 * k + 1 + 1 by omega] at hrec
    simp (disch := first | omega | ((simp (disch := omega) only [up_ne, up_eq, up_nj, gf_ne, gf_in, sa_ne, sa_eq]) <;> omega)) only [reduceIte, Bool.false_eq_true, if_pos, if_neg, up_ne, up_eq, up_nj, gf_ne, gf_in, sa_ne, sa_eq, and_self, true_and, and_true, p_28_101, p_28_102, p_28_103, p_28_104, p_28_105, p_28_106, p_28_107, p_28_109, p_28_111, p_28_113, p_28_114, p_28_117, p_28_118, p_28_121, p_28_122, p_28_123, p_28_124, p_28_126, p_28_127, p_28_131, f4]
    rw [p_28_128 (d := d + 2 * k + 1 + 1) hrec]
    simp (disch := first | omega | ((simp (disch := omega) only [up_ne, up_eq, up_nj, gf_ne, gf_in, sa_ne, sa_eq]) <;> omega)) only [reduceIte, Bool.false_eq_true, if_pos, if_neg, up_ne, up_eq, up_nj, gf_ne, gf_in, sa_ne, sa_eq, and_self, true_and, and_true, p_28_101, p_28_102, p_28_103, p_28_104, p_28_105, p_28_106, p_28_107, p_28_109, p_28_111, p_28_113, p_28_114, p_28_117, p_28_118, p_28_121, p_28_122, p_28_123, p_28_124, p_28_126, p_28_127, p_28_131]
    rw [enX]
