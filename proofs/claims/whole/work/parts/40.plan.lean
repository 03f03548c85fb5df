/-- the value of the best, as the class reckons it -/
def topX (GT G0 : AG) : Int := latX GT (((2 ^ (G0 3 4).toNat : Nat) : Int) - 1) (G0 13 5) (G0 13 4) (2 ^ (G0 3 4).toNat) (G0 13 4).toNat 0
theorem c_plan {d : Nat} {Q : Option AV → AG → Prop} {cost : Int} {G0 : AG} (hR : Rel G0) (hc : 0 ≤ cost ∧ cost ≤ 1000)
    (K : ∀ GT G' : AG, TBL G0 cost GT → (∀ b : Nat, (b ≤ 13 ∨ b = 15 ∨ 33 ≤ b) → G' b = G0 b) → (∀ s : Int, 0 ≤ s → s < G0 13 6 → G' 14 s = dg (-topX GT G0 % 2565726409) s) → (∀ s : Int, G0 13 6 ≤ s → G' 14 s = G0 14 s) → Q (some (vI (sumf (fun s => if dg (-topX GT G0 % 2565726409) s = G0 14 s then 0 else 1) (G0 13 6).toNat 0))) G') :
    Ends (d + 11) 23 0 [vR 16, vI cost, vU] [] G0 Q := by
  obtain ⟨hm0, hm1, hm2, hm3, hm4, hm5, hm6⟩ := id hR.1
  obtain ⟨ha0, ha1, ha2, ha3, ha4, ha5, ha6⟩ := id hR.2.1
  obtain ⟨hp1, hp2, hp3, hp4, hp5, hp6, hp7, hp8, hp9, hp10⟩ := id hR.2.2.1
  have hs := hR.2.2.1.slots
  have hO := hR.2.2.1.ho ha1 hm1
  have hk6 : (G0 3 4).toNat ≤ 6 := by omega
  have hp : 2 ^ (G0 3 4).toNat ≤ 2 ^ 6 := Nat.pow_le_pow_right (by decide) hk6
  have hq : 0 < 2 ^ (G0 3 4).toNat := Nat.pos_of_ne_zero (by simp)
  refine c_tables hR hc (fun GT hT => ?_)
  have e13 : GT 13 4 = G0 13 4 := by rw [hT.1 13 (by omega)]
  simp (disch := first | omega | ((simp (disch := omega) only [up_ne, up_eq, up_nj, gf_ne, gf_in, sa_ne, sa_eq]) <;> omega)) only [reduceIte, Bool.false_eq_true, if_pos, if_neg, up_ne, up_eq, up_nj, gf_ne, gf_in, sa_ne, sa_eq, and_self, true_and, and_true, p_23_65, p_23_66, p_23_69, p_23_72, p_23_73, p_23_74, e13]
  have h0 := l_even (d := d) (Q := Q) hR hc hT (k := (G0 3 4).toNat) (by omega) ?_ (G0 13 4).toNat 0 GT (by omega) (fun _ _ _ _ => rfl) (fun t q1 q2 => by rw [hT.2.2.2.2.2 t q1 (by omega)]; rfl)
  · simpa using h0
  · intro G1 hE hV
    have e15 : ∀ b : Nat, b ≤ 15 → G1 b = G0 b := fun b hb => by rw [hE b (by omega) (by omega) (by omega), hT.1 b (by omega)]
    have hb := latX_rng hR hc hT (z0 := ((2 ^ (G0 3 4).toNat : Nat) : Int) - 1) (by omega) hk6 (G0 13 4).toNat (by omega) 0 (by omega) (by omega)
    have e136 : G1 13 6 = G0 13 6 := by rw [e15 13 (by omega)]
    have e14 : G1 14 = G0 14 := e15 14 (by omega)
    have hcar : Ends (d + 10) 31 0 [vR 16, vL (topX GT G0), vU, vU, vU, vU, vU, vU] [] G1 (fun r G' => (∀ b : Nat, (b ≤ 13 ∨ b = 15 ∨ 33 ≤ b) → G' b = G0 b) ∧ (∀ s : Int, 0 ≤ s → s < G0 13 6 → G' 14 s = dg (-topX GT G0 % 2565726409) s) ∧ (∀ s : Int, G0 13 6 ≤ s → G' 14 s = G0 14 s) ∧ r = some (vI (sumf (fun s => if dg (-topX GT G0 % 2565726409) s = G0 14 s then 0 else 1) (G0 13 6).toNat 0))) := by
      refine c_carry (d := d + 9) (by unfold topX; omega) (hO.cong e14) (by omega) (fun G' q1 q2 q3 => ?_)
      rw [e136] at q2 q3 ⊢
      rw [e14] at q3 ⊢
      refine ⟨fun b hb => ?_, q2, q3, rfl⟩
      rw [q1 b (by omega)]
      by_cases u : b ≤ 15
      · exact e15 b u
      · rw [hE b (by omega) (by omega) (by omega), hT.1 b (by omega)]
    obtain ⟨r, G2, hret, w1, w2, w3, w4⟩ := hcar.ret
    subst w4
    change G1 32 0 = topX GT G0 at hV
    simp (disch := first | omega | ((simp (disch := omega) only [up_ne, up_eq, up_nj, gf_ne, gf_in, sa_ne, sa_eq]) <;> omega)) only [reduceIte, Bool.false_eq_true, if_pos, if_neg, up_ne, up_eq, up_nj, gf_ne, gf_in, sa_ne, sa_eq, and_self, true_and, and_true, p_23_134, p_23_135, p_23_136, p_23_139, p_23_140, hV]
    rw [p_23_141 (d := d + 10) hret]
    simp (disch := first | omega | ((simp (disch := omega) only [up_ne, up_eq, up_nj, gf_ne, gf_in, sa_ne, sa_eq]) <;> omega)) only [reduceIte, Bool.false_eq_true, if_pos, if_neg, up_ne, up_eq, up_nj, gf_ne, gf_in, sa_ne, sa_eq, and_self, true_and, and_true, p_23_144]
    exact K GT G2 hT w1 w2 w3
