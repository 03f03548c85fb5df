/-! the two folds, side by side -/
def rcd : List Int → Int
  | [] => 0
  | q :: p => 37 * rcd p + q
def cdP (fs : Int) : List Int → Int
  | [] => 0
  | q :: p => cdP fs p + q * f_pl (fs + p.length)
theorem f_pl_37 {s : Int} (h0 : 0 ≤ s) (h1 : s < 5) : f_pl s = 37 * f_pl (s + 1) := by
  rcases (show s = 0 ∨ s = 1 ∨ s = 2 ∨ s = 3 ∨ s = 4 by omega) with rfl | rfl | rfl | rfl | rfl <;> decide
theorem cdP_rcd {fs : Int} (h0 : 0 ≤ fs) : ∀ (q : Int) (p : List Int), fs + p.length ≤ 5 → cdP fs (q :: p) = rcd (q :: p) * f_pl (fs + p.length)
  | q, [], _ => by simp [cdP, rcd]
  | q, q2 :: p, h => by
    simp only [List.length_cons] at h
    have ih := cdP_rcd h0 q2 p (by omega)
    have hf := f_pl_37 (s := fs + p.length) (by omega) (by omega)
    have hl : fs + (((q2 :: p).length : Nat) : Int) = fs + p.length + 1 := by simp; omega
    have hr : rcd (q :: q2 :: p) = 37 * rcd (q2 :: p) + q := rfl
    rw [cdP, ih, hl, hf, hr]
    generalize rcd (q2 :: p) = R
    rw [Int.add_mul, ← Int.mul_assoc, Int.mul_comm R 37]
theorem cdP_rng {fs : Int} (h0 : 0 ≤ fs) : ∀ {p : List Int}, (∀ q ∈ p, 0 ≤ q ∧ q ≤ 36) → fs + p.length ≤ 6 → 0 ≤ cdP fs p
  | [], _, _ => by simp [cdP]
  | q :: p, h, hl => by
    simp only [List.length_cons] at hl
    have ih := cdP_rng h0 (p := p) (fun x hx => h x (List.mem_cons_of_mem _ hx)) (by omega)
    have hq := h q List.mem_cons_self
    have := Int.mul_nonneg hq.1 (show 0 ≤ f_pl (fs + p.length) by have := @f_pl_pos (fs + p.length); omega)
    rw [cdP]
    omega
theorem PO.rng {G0 : AG} {p : List Int} (h : PO G0 p) : ∀ q ∈ p, 0 ≤ q ∧ q ≤ 36 := fun q hq => by have := h q hq; omega
theorem vls_sw {G0 GT : AG} {cost fs : Int} (hT : TBL G0 cost GT) (h0 : 0 ≤ fs) : ∀ {p : List Int}, PO G0 p → fs + p.length ≤ G0 13 6 → vlsP GT fs p = swP G0 cost fs p * 2565726409 - cdP fs p
  | [], _, _ => by simp [vlsP, swP, cdP]
  | q :: p, h, hl => by
    simp only [List.length_cons] at hl
    have ih := vls_sw hT h0 h.tl (by omega)
    have hq := h.rng q List.mem_cons_self
    rw [vlsP, ih, hT.2.1 (fs + p.length) q (by omega) (by omega) (by omega) (by omega), vvX, swP, cdP, Int.add_mul]
    omega
/-- what stands at a set, on both sides -/
def SIM (G0 GT : AG) (cost e fs S : Int) (B : Int) (oc : Int → Int) (x : T3) : Prop := ∀ c : Int, 0 ≤ c → c < 64 →
  (oc c = -9223372036854775808 ∧ x.1 (64 * e + c) = -1000000) ∨ ∃ q : List Int, PO G0 q ∧ (q.length : Int) = S ∧ rcd q < B ∧ x.1 (64 * e + c) = swP G0 cost fs q ∧ oc c = vlsP GT fs q ∧ cmpP q = c ∧ ∀ i : Int, 0 ≤ i → i < S → x.2.1 (3 * (64 * e + c) + i) = aO (hrO q i) ∧ x.2.2 (3 * (64 * e + c) + i) = mO (hrO q i)
theorem SIM.mono {G0 GT : AG} {cost e fs S B B' : Int} {oc : Int → Int} {x : T3} (h : SIM G0 GT cost e fs S B oc x) (hB : B ≤ B') : SIM G0 GT cost e fs S B' oc x := by
  intro c q1 q2
  rcases h c q1 q2 with h | ⟨q, a1, a2, a3, a4⟩
  · exact Or.inl h
  · exact Or.inr ⟨q, a1, a2, by omega, a4⟩
theorem cd_le {fs S : Int} (h0 : 0 ≤ fs) (hS : 1 ≤ S) (hf : fs + S ≤ 6) {p q : List Int} (hp : (p.length : Int) = S) (hq : (q.length : Int) = S) (h : rcd q ≤ rcd p) : cdP fs q ≤ cdP fs p := by
  cases p with
  | nil => simp at hp; omega
  | cons a p =>
    cases q with
    | nil => simp at hq; omega
    | cons b q =>
      simp only [List.length_cons] at hp hq
      have e : (q.length : Int) = p.length := by omega
      rw [cdP_rcd h0 a p (by omega), cdP_rcd h0 b q (by omega), e]
      exact Int.mul_le_mul_of_nonneg_right h (by have := @f_pl_pos (fs + p.length); omega)
theorem rcd_rng : ∀ {p : List Int}, (∀ q ∈ p, 0 ≤ q ∧ q ≤ 36) → 0 ≤ rcd p ∧ rcd p + 1 ≤ (37 ^ p.length : Nat)
  | [], _ => by simp [rcd]
  | q :: p, h => by
    have ih := rcd_rng (p := p) (fun x hx => h x (List.mem_cons_of_mem _ hx))
    have hq := h q List.mem_cons_self
    rw [rcd, List.length_cons, Nat.pow_succ]
    omega
theorem sim_step {G0 GT : AG} {cost e fs S B : Int} {oc : Int → Int} {x : T3} {p : List Int} (hR : Rel G0) (hc : 0 ≤ cost ∧ cost ≤ 1000) (hT : TBL G0 cost GT) (h0 : 0 ≤ fs) (hS : 1 ≤ S ∧ S ≤ 3) (hf : fs + S ≤ G0 13 6) (hp : PO G0 p) (hl : (p.length : Int) = S) (hB : B ≤ rcd p) (hcd : ∀ q : List Int, PO G0 q → (q.length : Int) = S → cdP fs q < 2565726409) (h : SIM G0 GT cost e fs S B oc x) : SIM G0 GT cost e fs S (rcd p + 1) (stX GT fs oc p) (stM G0 cost e fs x p) := by
  have hs := hR.2.2.1.slots
  have hcm := cmpP_rng (PO.pv hT hp)
  have hsw := swP_rng hR.xs (fs := fs) hc (p := p) (fun q hq => by have := hp q hq; omega)
  have hvp := vls_sw hT h0 hp (by omega)
  have hcp := hcd p hp hl
  have hcp0 := cdP_rng h0 (p := p) hp.rng (by omega)
  have new : (oc (cmpP p) = -9223372036854775808 ∧ x.1 (64 * e + cmpP p) = -1000000) ∨ _ := h (cmpP p) hcm.1 hcm.2
  intro c q1 q2
  by_cases ec : c = cmpP p
  · subst ec
    have upd : x.1 (64 * e + cmpP p) < swP G0 cost fs p → oc (cmpP p) ≤ vlsP GT fs p → (stX GT fs oc p (cmpP p) = -9223372036854775808 ∧ (stM G0 cost e fs x p).1 (64 * e + cmpP p) = -1000000) ∨ ∃ q : List Int, PO G0 q ∧ (q.length : Int) = S ∧ rcd q < rcd p + 1 ∧ (stM G0 cost e fs x p).1 (64 * e + cmpP p) = swP G0 cost fs q ∧ stX GT fs oc p (cmpP p) = vlsP GT fs q ∧ cmpP q = cmpP p ∧ ∀ i : Int, 0 ≤ i → i < S → (stM G0 cost e fs x p).2.1 (3 * (64 * e + cmpP p) + i) = aO (hrO q i) ∧ (stM G0 cost e fs x p).2.2 (3 * (64 * e + cmpP p) + i) = mO (hrO q i) := by
      intro u v
      refine Or.inr ⟨p, hp, hl, by omega, ?_, ?_, rfl, fun i r1 r2 => ?_⟩
      · rw [stM, if_pos u]
        exact if_pos rfl
      · rw [stX, if_pos rfl]
        omega
      · rw [stM, if_pos u]
        unfold cpP
        dsimp only
        rw [if_pos (by omega), if_pos (by omega), show 3 * (64 * e + cmpP p) + i - 3 * (64 * e + cmpP p) = i by omega]
        exact ⟨rfl, rfl⟩
    rcases new with ⟨n1, n2⟩ | ⟨q, a1, a2, a3, a4, a5, a6, a7⟩
    · exact upd (by omega) (by omega)
    · have hvq := vls_sw hT h0 a1 (by omega)
      have hcq := hcd q a1 a2
      have hcq0 := cdP_rng h0 (p := q) a1.rng (by omega)
      have hle := cd_le h0 hS.1 (by omega) hl a2 (by omega)
      by_cases u : x.1 (64 * e + cmpP p) < swP G0 cost fs p
      · exact upd u (by omega)
      · refine Or.inr ⟨q, a1, a2, by omega, ?_, ?_, a6, ?_⟩
        · rw [stM, if_neg u]
          exact a4
        · rw [stX, if_pos rfl]
          omega
        · rw [stM, if_neg u]
          exact a7
  · have e1 : stX GT fs oc p c = oc c := by rw [stX, if_neg ec]
    have e2 : (stM G0 cost e fs x p).1 (64 * e + c) = x.1 (64 * e + c) := by
      unfold stM
      split
      · exact if_neg (by omega)
      · rfl
    have e3 : ∀ i : Int, 0 ≤ i → i < S → (stM G0 cost e fs x p).2.1 (3 * (64 * e + c) + i) = x.2.1 (3 * (64 * e + c) + i) ∧ (stM G0 cost e fs x p).2.2 (3 * (64 * e + c) + i) = x.2.2 (3 * (64 * e + c) + i) := by
      intro i r1 r2
      unfold stM
      split
      · unfold cpP
        dsimp only
        rw [if_neg (by omega), if_neg (by omega)]
        exact ⟨rfl, rfl⟩
      · exact ⟨rfl, rfl⟩
    rw [e1, e2]
    rcases h c q1 q2 with h | ⟨q, a1, a2, a3, a4, a5, a6, a7⟩
    · exact Or.inl h
    · refine Or.inr ⟨q, a1, a2, by omega, a4, a5, a6, fun i r1 r2 => ?_⟩
      rw [(e3 i r1 r2).1, (e3 i r1 r2).2]
      exact a7 i r1 r2
