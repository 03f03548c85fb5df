theorem ok1_po {G0 : AG} (hR : Rel G0) {h o : Int} (h0 : 0 ≤ o) (h1 : o < 36) (hk : ok1 G0 h o = true) : o / 6 < G0 3 4 ∧ o % 6 < G0 0 2 := by
  by_cases u : o / 6 < G0 3 4 ∧ o % 6 < G0 0 2
  · exact u
  · rw [ok1_no hR h0 h1 (by omega)] at hk
    cases hk
theorem sim_en {G0 GT : AG} {cost e fs S z0 : Int} (hR : Rel G0) (hc : 0 ≤ cost ∧ cost ≤ 1000) (hT : TBL G0 cost GT) (h0 : 0 ≤ fs) (hS : 1 ≤ S ∧ S ≤ 3) (hf : fs + S ≤ G0 13 6) (hcd : ∀ q : List Int, PO G0 q → (q.length : Int) = S → cdP fs q < 2565726409) : ∀ (k : Nat) (p : List Int) (oc : Int → Int) (x : T3) (B : Int), PO G0 p → (p.length : Int) + k = S → B ≤ rcd p * (37 ^ k : Nat) → SIM G0 GT cost e fs S B oc x → SIM G0 GT cost e fs S (rcd p * (37 ^ k : Nat) + (37 ^ k : Nat)) (enX GT z0 fs k p oc) (enM G0 GT cost z0 e fs k p x) := by
  have ech : ∀ h : Int, chs GT h = chs G0 h := fun h => chs_cong (fun b hb => hT.1 b (by omega))
  intro k
  induction k with
  | zero =>
    intro p oc x B hp hl hB h
    have hB' : B ≤ rcd p := by simpa using hB
    have := sim_step hR hc hT h0 hS hf hp (by omega) hB' hcd h
    simpa [enX, enM] using this
  | succ k ih =>
    intro p oc x B hp hl hB h
    have fold : ∀ (n : Nat) (o : Int) (oc : Int → Int) (x : T3) (B : Int), 0 ≤ o → o + n ≤ 36 → B ≤ (37 * rcd p + o) * (37 ^ k : Nat) → SIM G0 GT cost e fs S B oc x →
        SIM G0 GT cost e fs S ((37 * rcd p + (o + n)) * (37 ^ k : Nat)) ((rl (ok1 G0 p.length) n o).foldl (fun oc o => if okX GT z0 p o = true then enX GT z0 fs k (o :: p) oc else oc) oc) ((rl (ok1 G0 p.length) n o).foldl (fun x o => if okX GT z0 p o = true then enM G0 GT cost z0 e fs k (o :: p) x else x) x) := by
      intro n
      induction n with
      | zero =>
        intro o oc x B q0 q1 qB hs
        exact hs.mono (by simpa using qB)
      | succ n ih2 =>
        intro o oc x B q0 q1 qB hs
        have e1 : (37 * rcd p + (o + ((n + 1 : Nat) : Int))) = 37 * rcd p + (o + 1 + (n : Int)) := by omega
        have hup : (37 * rcd p + o) * ((37 ^ k : Nat) : Int) + (37 ^ k : Nat) = (37 * rcd p + (o + 1)) * (37 ^ k : Nat) := by
          rw [show 37 * rcd p + (o + 1) = (37 * rcd p + o) + 1 by omega, Int.add_mul (37 * rcd p + o) 1, Int.one_mul]
        have hpos : (0 : Int) ≤ ((37 ^ k : Nat) : Int) := Int.natCast_nonneg _
        rw [e1, rl]
        by_cases u : ok1 G0 p.length o = true
        · rw [if_pos u, List.foldl_cons, List.foldl_cons]
          by_cases v : okX GT z0 p o = true
          · rw [if_pos v, if_pos v]
            have hpo : PO G0 (o :: p) := by
              intro y hy
              rcases List.mem_cons.mp hy with rfl | hy
              · exact Or.inr ⟨q0, by omega, ok1_po hR q0 (by omega) u⟩
              · exact hp y hy
            have h3 := ih (o :: p) oc x B hpo (by simp; omega) (by rw [rcd]; exact qB) hs
            rw [rcd, hup] at h3
            exact ih2 (o + 1) _ _ _ (by omega) (by omega) (Int.le_refl _) h3
          · rw [if_neg v, if_neg v]
            exact ih2 (o + 1) oc x B (by omega) (by omega) (by rw [← hup]; omega) hs
        · rw [if_neg u]
          exact ih2 (o + 1) oc x B (by omega) (by omega) (by rw [← hup]; omega) hs
    have hpw : ((37 ^ (k + 1) : Nat) : Int) = 37 * ((37 ^ k : Nat) : Int) := by rw [Nat.pow_succ]; omega
    have hB0 : B ≤ (37 * rcd p + 0) * (37 ^ k : Nat) := by
      rw [hpw, ← Int.mul_assoc, Int.mul_comm (rcd p) 37] at hB
      simpa using hB
    have h1 := fold 36 0 oc x B (by omega) (by omega) hB0 h
    have hpo : PO G0 (36 :: p) := by
      intro y hy
      rcases List.mem_cons.mp hy with rfl | hy
      · exact Or.inl rfl
      · exact hp y hy
    have h2 := ih (36 :: p) _ _ _ hpo (by simp; omega) (Int.le_refl _) (h1.mono (B' := rcd (36 :: p) * (37 ^ k : Nat)) (by rw [rcd]; simp))
    rw [enX, enM, ech, chs]
    refine h2.mono ?_
    rw [rcd, hpw, Int.add_mul, ← Int.mul_assoc (rcd p), Int.mul_comm (rcd p) 37]
    omega
