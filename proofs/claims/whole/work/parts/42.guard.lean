/-! class and reference allow the same -/
theorem tb_z0 {k : Nat} {a : Int} (h0 : 0 ≤ a) (h1 : a < k) : tb (((2 ^ k : Nat) : Int) - 1) a = true := by
  have hq : 0 < 2 ^ k := Nat.pos_of_ne_zero (by simp)
  have e : (((2 ^ k : Nat) : Int) - 1).toNat = 2 ^ k - 1 := by omega
  unfold tb
  rw [e, Nat.testBit_two_pow_sub_one]
  simp
  omega
/-- the reference's cells that a search only reads -/
def MSame (G0 G : AG) : Prop := (∀ b : Nat, 55 ≤ b → b ≤ 60 → G b = G0 b) ∧ ∀ j : Int, j ≠ 25 → j ≠ 33 → G 54 j = G0 54 j
/-- what may stand in a filling -/
def PO (G0 : AG) (p : List Int) : Prop := ∀ q ∈ p, q = 36 ∨ (0 ≤ q ∧ q < 36 ∧ q / 6 < G0 3 4 ∧ q % 6 < G0 0 2)
theorem PO.tl {G : AG} {q : Int} {p : List Int} (h : PO G (q :: p)) : PO G p := fun x hx => h x (List.mem_cons_of_mem _ hx)
theorem PO.pv {G0 GT : AG} {cost : Int} (hT : TBL G0 cost GT) {p : List Int} (h : PO G0 p) : PV GT p := by
  intro q hq
  rcases h q hq with e | ⟨h1, h2, h3, h4⟩
  · exact Or.inl e
  · have b1 := hT.2.2.2.1 (q / 6) (by omega) h3
    have b2 := hT.2.2.2.2.1 (q % 6) (by omega) h4
    exact Or.inr ⟨h1, h2, b1.1, b1.2.1, b2.1, b2.2.1⟩
def good (G : AG) (s : Int) : Bool := !hldM G 0 s && !hldM G 2 s && !hldM G 3 s && !hldM G 4 s && !hldM G 5 s && !hldM G 6 s && !hldM G 7 s
theorem aO_n {q : Int} (h : q ≠ 36) : aO q = q / 6 := if_neg h
theorem mO_n {q : Int} (h : q ≠ 36) : mO q = q % 6 := if_neg h
theorem all_cg {f g : Int → Bool} : ∀ {p : List Int}, (∀ q ∈ p, f q = g q) → p.all f = p.all g
  | [], _ => rfl
  | q :: p, h => by rw [List.all_cons, List.all_cons, h q List.mem_cons_self, all_cg (fun x hx => h x (List.mem_cons_of_mem _ hx))]
theorem all_3 {x y z : Int → Bool} : ∀ (p : List Int), p.all (fun q => x q && y q && z q) = (p.all x && p.all y && p.all z)
  | [] => rfl
  | q :: p => by
    rw [List.all_cons, List.all_cons, List.all_cons, List.all_cons, all_3 p]
    cases x q <;> cases y q <;> cases z q <;> cases p.all x <;> cases p.all y <;> cases p.all z <;> rfl
theorem dwn_cg {F R F' R' : Int → Bool} : ∀ {p : List Int}, (∀ q ∈ p, F q = F' q ∧ (F q = true → R q = R' q)) → dwn F R p = dwn F' R' p
  | [], _ => rfl
  | q :: p, h => by
    have h1 := h q List.mem_cons_self
    rw [dwn, dwn, ← h1.1, dwn_cg (fun x hx => h x (List.mem_cons_of_mem _ hx))]
    by_cases e : F q = true
    · rw [if_pos e, if_pos e, h1.2 e]
    · rw [if_neg e, if_neg e]
theorem guard {G0 GT G : AG} {cost e a m : Int} (hR : Rel G0) (hT : TBL G0 cost GT) (hS : MSame G0 G) {p : List Int} (hp : PO G0 p) (he : 0 ≤ e) (hl : (p.length : Int) < G0 13 5) (hA : 0 ≤ a ∧ a < G0 3 4) (hM : 0 ≤ m ∧ m < G0 0 2)
    (hW : PW (G 61) (G 62) (e * G0 13 5) p) (h61 : G 61 (e * G0 13 5 + p.length) = a) (h62 : G 62 (e * G0 13 5 + p.length) = m) :
    (ok1 G0 p.length (6 * a + m) && okX GT (((2 ^ (G0 3 4).toNat : Nat) : Int) - 1) p (6 * a + m)) = (!tb (cmpP p) a && good G (e * G0 13 5 + p.length)) := by
  obtain ⟨hm0, hm1, hm2, hm3, hm4, hm5, hm6⟩ := id hR.1
  obtain ⟨ha0, ha1, ha2, ha3, ha4, ha5, ha6⟩ := id hR.2.1
  obtain ⟨hp1, hp2, hp3, hp4, hp5, hp6, hp7, hp8, hp9, hp10⟩ := id hR.2.2.1
  have hq : 0 < 2 ^ (G0 3 4).toNat := Nat.pos_of_ne_zero (by simp)
  have hq6 : 2 ^ (G0 3 4).toNat ≤ 2 ^ 6 := Nat.pow_le_pow_right (by decide) (by omega)
  have e6 : (6 * a + m) / 6 = a := by omega
  have e6' : (6 * a + m) % 6 = m := by omega
  have eS : G 54 11 = G0 13 5 := by rw [hS.2 11 (by decide) (by decide), hp8]
  have es : (e * G0 13 5 + p.length) % G0 13 5 = p.length := by
    rw [Int.add_comm, Int.add_mul_emod_self_right]
    exact Int.emod_eq_of_lt (by omega) hl
  have hv := PO.pv hT hp
  have hz : 0 ≤ ((2 ^ (G0 3 4).toNat : Nat) : Int) - 1 ∧ ((2 ^ (G0 3 4).toNat : Nat) : Int) - 1 < 64 := by omega
  have g1 := ha6 a m hA.1 (by omega) hM.1 (by omega)
  have g2 := ha5 a hA.1 (by omega)
  have g3 := hm6 m hM.1 (by omega)
  have rows : ∀ b : Nat, 55 ≤ b → b ≤ 60 → G b = G0 b := hS.1
  -- the reasons, one by one
  have r0 : hldM G 0 (e * G0 13 5 + p.length) = tb (G0 3 3) a := by
    simp only [hldM, hld, if_pos, h61]
    rw [rows 58 (by omega) (by omega), g2.2.2.2.1]
    cases tb (G0 3 3) a <;> rfl
  have r2 : (!hldM G 2 (e * G0 13 5 + p.length)) = decide (0 < lkX G0 (6 * a + m)) := by
    have : hldM G 2 (e * G0 13 5 + p.length) = decide (G 59 (6 * a + m) = 0) := by
      simp only [hldM, hld, h61, h62]
      rfl
    rw [this, rows 59 (by omega) (by omega), g1.1, lkX, e6, e6']
    have := g1.2.1
    by_cases u : G0 (7 + a.toNat) m = 0
    · simp [u]
    · simp [u]; omega
  have r3 : (!hldM G 3 (e * G0 13 5 + p.length)) = tb (G0 2 m) p.length := by
    have : hldM G 3 (e * G0 13 5 + p.length) = !tb (G 56 m) ((e * G0 13 5 + p.length) % G 54 11) := by
      simp only [hldM, hld, h62]
      rfl
    rw [this, eS, es, rows 56 (by omega) (by omega), g3.2.2.2.1, Bool.not_not]
  have r4 : (!hldM G 4 (e * G0 13 5 + p.length)) = tb (freP p) m := by
    have : hldM G 4 (e * G0 13 5 + p.length) = any (fun t => decide (G 61 t ≠ -1 ∧ G 62 t = m)) p.length (e * G0 13 5) := by
      simp only [hldM, hld, h62, eS, es]
      show any _ _ _ = _
      congr 1 <;> omega
    rw [this, any_pw (F := fun x y => decide (x ≠ -1 ∧ y = m)) hW, tb_fre hM.1 (by omega) hv, List.not_any_eq_all_not]
    refine all_cg (fun q hq => ?_)
    rcases hp q hq with rfl | ⟨h1, h2, h3, h4⟩
    · simp [aO]
    · rw [aO_n (by omega), mO_n (by omega)]
      have u1 : ¬ q = 36 := by omega
      have u2 : ¬ q / 6 = -1 := by omega
      simp [u1, u2]
  have r5 : hldM G 5 (e * G0 13 5 + p.length) = p.any (fun q => decide (aO q ≠ -1 ∧ G0 4 a < G0 57 (aO q))) := by
    have : hldM G 5 (e * G0 13 5 + p.length) = any (fun t => decide (G 61 t ≠ -1 ∧ G 57 a < G 57 (G 61 t))) p.length (e * G0 13 5) := by
      simp only [hldM, hld, h61, eS, es]
      show any _ _ _ = _
      congr 1 <;> omega
    rw [this, rows 57 (by omega) (by omega), any_pw (F := fun x _ => decide (x ≠ -1 ∧ G0 57 a < G0 57 x)) hW, g2.1]
  have r6 : hldM G 6 (e * G0 13 5 + p.length) = p.any (fun q => decide (aO q ≠ -1) && decide (G0 60 (6 * aO q + a) = 1)) := by
    have : hldM G 6 (e * G0 13 5 + p.length) = any (fun t => decide (G 61 t ≠ -1) && decide (G 60 (6 * G 61 t + a) = 1)) p.length (e * G0 13 5) := by
      simp only [hldM, hld, h61, eS, es]
      show any _ _ _ = _
      congr 1 <;> omega
    rw [this, rows 60 (by omega) (by omega), any_pw (F := fun x _ => decide (x ≠ -1) && decide (G0 60 (6 * x + a) = 1)) hW]
  have r7 : (!hldM G 7 (e * G0 13 5 + p.length)) = tb (farP GT p) m := by
    have : hldM G 7 (e * G0 13 5 + p.length) = down (fun t => decide (G 61 t ≠ -1)) (fun t => nrM G (G 62 t) m) p.length (e * G0 13 5 + p.length - 1) := by
      simp only [hldM, hld, h62, eS, es]
      show down _ _ _ _ = _
      congr 1
    rw [this, down_pw (F := fun x _ => decide (x ≠ -1)) (R := fun _ y => nrM G y m) hW, tb_far (n := G0 0 2) hM.1 hM.2 hm1 hT.2.2.2.2.1 (fun q hq => by have := hp q hq; omega)]
    congr 1
    refine dwn_cg (fun q hq => ?_)
    rcases hp q hq with rfl | ⟨h1, h2, h3, h4⟩
    · exact ⟨by simp [aO], fun h => by simp [aO] at h⟩
    · rw [aO_n (by omega), mO_n (by omega)]
      have u1 : ¬ q = 36 := by omega
      have u2 : ¬ q / 6 = -1 := by omega
      refine ⟨by simp [u1, u2], fun _ => ?_⟩
      unfold nrM nrX
      rw [hS.2 8 (by decide) (by decide), hm5, rows 55 (by omega) (by omega), (hm6 (q % 6) (by omega) (by omega)).1, g3.1]
  have rm : tb (mayP GT (((2 ^ (G0 3 4).toNat : Nat) : Int) - 1) p) a = (!tb (cmpP p) a && !hldM G 5 (e * G0 13 5 + p.length) && !hldM G 6 (e * G0 13 5 + p.length)) := by
    rw [tb_may hz hv, tb_z0 hA.1 (by omega), Bool.true_and, r5, r6, tb_cmp hA.1 hv, List.not_any_eq_all_not, List.not_any_eq_all_not, List.not_any_eq_all_not, ← all_3]
    refine all_cg (fun q hq => ?_)
    rcases hp q hq with rfl | ⟨h1, h2, h3, h4⟩
    · simp [aO]
    · have u1 : ¬ q = 36 := by omega
      have u2 : ¬ q / 6 = -1 := by omega
      have b1 := (hT.2.2.2.1 (q / 6) (by omega) h3).2.2 a hA.1 (by omega)
      have b2 := ha6 (q / 6) a (by omega) (by omega) hA.1 (by omega)
      have b3 := ha5 (q / 6) (by omega) (by omega)
      rw [aO_n u1, b1, fow, b2.2.2.2.2.1, b3.1]
      simp only [u1, u2, hA.2, decide_false, decide_true, Bool.false_or, Bool.true_and, ne_eq, not_false_eq_true, true_and]
      have c1 : decide (¬ a = q / 6) = !decide (q / 6 = a) := by
        by_cases u : a = q / 6
        · simp [u]
        · have : ¬ q / 6 = a := fun z => u z.symm
          simp [u, this]
      have c2 : decide (G0 4 (q / 6) ≤ G0 4 a) = !decide (G0 4 a < G0 4 (q / 6)) := by
        by_cases u : G0 4 (q / 6) ≤ G0 4 a
        · have : ¬ G0 4 a < G0 4 (q / 6) := by omega
          simp [u, this]
        · have : G0 4 a < G0 4 (q / 6) := by omega
          simp [u, this]
      rw [c1, c2]
      cases tb (G0 5 (q / 6)) a <;> simp
  have hfr := freP_rng hv
  have hfa := farP_rng hv
  unfold ok1 okX good
  rw [e6, e6', tb_and hfr hfa, rm, ← r2, ← r3, ← r4, ← r7, ← r0]
  cases hldM G 0 (e * G0 13 5 + p.length) <;> cases hldM G 2 (e * G0 13 5 + p.length) <;> cases hldM G 3 (e * G0 13 5 + p.length) <;> cases hldM G 4 (e * G0 13 5 + p.length) <;> cases hldM G 5 (e * G0 13 5 + p.length) <;> cases hldM G 6 (e * G0 13 5 + p.length) <;> cases hldM G 7 (e * G0 13 5 + p.length) <;> cases tb (cmpP p) a <;> rfl
