/-! what class and reference have in common -/
theorem up_ne {G : AG} {a : Nat} {i z : Int} {b : Nat} {j : Int} (h : b ≠ a) : am_up G a i z b j = G b j := by simp [am_up, h]
theorem up_eq {G : AG} {a : Nat} {i z : Int} {b : Nat} {j : Int} (h : b = a) (h2 : j = i) : am_up G a i z b j = z := by simp [am_up, h, h2]
theorem up_nj {G : AG} {a : Nat} {i z : Int} {b : Nat} {j : Int} (h : j ≠ i) : am_up G a i z b j = G b j := by simp [am_up, h]
theorem gf_ne {G : AG} {r : Nat} {i n z : Int} {b : Nat} {j : Int} (h : b ≠ r) : gfill G r i n z b j = G b j := by simp [gfill, h]
theorem gf_in {G : AG} {r : Nat} {i n z : Int} {b : Nat} {j : Int} (h : b = r) (h1 : i ≤ j) (h2 : j < n) : gfill G r i n z b j = z := by simp [gfill, h, h1, h2]
def setA (G : AG) (a : Nat) (f : Int → Int) : AG := fun b => if b = a then f else G b
theorem sa_ne {G : AG} {a : Nat} {f : Int → Int} {b : Nat} {j : Int} (h : b ≠ a) : setA G a f b j = G b j := by simp [setA, h]
theorem sa_eq {G : AG} {a : Nat} {f : Int → Int} {b : Nat} {j : Int} (h : b = a) : setA G a f b j = f j := by simp [setA, h]
theorem sa_row {G : AG} {a : Nat} {f : Int → Int} {b : Nat} (h : b ≠ a) : setA G a f b = G b := by simp [setA, h]
theorem sa_up (G : AG) (a : Nat) (f : Int → Int) (c z : Int) : am_up (setA G a f) a c z = setA G a (fun j => if j = c then z else f j) := by
  funext b j
  by_cases h : b = a
  · simp [am_up, setA, h]
  · simp [am_up, setA, h]
theorem sa_self (G : AG) (a : Nat) : setA G a (G a) = G := by
  funext b
  unfold setA
  split
  · rename_i h; rw [h]
  · rfl
def RM (G : AG) : Prop := 0 ≤ G 0 2 ∧ G 0 2 ≤ 6 ∧ G 54 2 = G 0 2 ∧ 0 ≤ G 0 3 ∧ G 0 3 ≤ 12 ∧ G 54 8 = G 0 3 ∧ ∀ i : Int, 0 ≤ i → i < 6 → (G 55 i = G 1 i ∧ 0 ≤ G 1 i ∧ G 1 i ≤ 4095 ∧ G 56 i = G 2 i ∧ 0 ≤ G 2 i ∧ G 2 i ≤ 15)
def RA (G : AG) : Prop := 0 ≤ G 3 4 ∧ G 3 4 ≤ 6 ∧ G 54 7 = G 3 4 ∧ 0 ≤ G 3 3 ∧ G 3 3 < 64 ∧ (∀ i : Int, 0 ≤ i → i < 6 → (G 57 i = G 4 i ∧ 0 ≤ G 4 i ∧ G 4 i ≤ 9 ∧ G 58 i = (if tb (G 3 3) i = true then 1 else 0) ∧ 0 ≤ G 5 i ∧ G 5 i < 64)) ∧
  ∀ a b : Int, 0 ≤ a → a < 6 → 0 ≤ b → b < 6 → (G 59 (6 * a + b) = G (7 + a.toNat) b ∧ 0 ≤ G (7 + a.toNat) b ∧ G (7 + a.toNat) b ≤ 100 ∧ (G (7 + a.toNat) b ≠ 0 → a < G 3 4 ∧ b < G 0 2) ∧ G 60 (6 * a + b) = (if tb (G 5 a) b = true then 1 else 0) ∧ tb (G 5 a) b = tb (G 5 b) a)
def RP (G : AG) : Prop := 1 ≤ G 13 4 ∧ G 13 4 ≤ 3 ∧ 1 ≤ G 13 5 ∧ G 13 5 ≤ 3 ∧ G 13 4 * G 13 5 ≤ 6 ∧ G 13 6 = G 13 4 * G 13 5 ∧ G 54 10 = G 13 4 ∧ G 54 11 = G 13 5 ∧ (∀ i : Int, 0 ≤ i → i < G 13 6 → G 15 i = i % G 13 5) ∧
  ∀ i : Int, 0 ≤ i → i < 6 → ((G 14 i = 36 ∧ G 61 i = -1 ∧ G 62 i = -1) ∨ (i < G 13 6 ∧ 0 ≤ G 61 i ∧ G 61 i < G 3 4 ∧ 0 ≤ G 62 i ∧ G 62 i < G 0 2 ∧ G 14 i = 6 * G 61 i + G 62 i))
def RC (G : AG) : Prop := 0 ≤ G 33 9 ∧ G 33 9 ≤ 10 ∧ G 54 19 = G 33 9 ∧ 0 ≤ G 33 10 ∧ G 33 10 ≤ 30 ∧ G 54 9 = G 33 10 ∧ 0 ≤ G 33 8 ∧ G 33 8 < 1024 ∧ 0 ≤ G 33 11 ∧ G 33 11 ≤ 10 ∧ G 54 21 = G 33 11 ∧
  (∀ i : Int, 0 ≤ i → i < 10 → (G 63 i = G 34 i ∧ G 64 i = G 35 i ∧ 0 ≤ G 35 i ∧ G 35 i ≤ 90 ∧ G 65 i = G 36 i ∧ 0 ≤ G 36 i ∧ G 36 i ≤ 100 ∧ G 67 i = G 37 i ∧ -1 ≤ G 37 i ∧ G 37 i ≤ 400 ∧ G 66 i = (if tb (G 33 8) i = true then 1 else 0) ∧ (i < G 33 9 → 0 ≤ G 34 i ∧ G 34 i < G 0 2))) ∧
  (∀ i : Int, 0 ≤ i → i < G 33 11 → (G 68 i = G 39 i ∧ 0 ≤ G 39 i ∧ G 39 i < 10)) ∧ G 40 0 = 0
def RJ (G : AG) : Prop := ∀ j : Int, 0 ≤ j → j < 7 → (0 ≤ G 50 j ∧ G 50 j ≤ 6 ∧ G 70 j = G 50 j ∧ 0 ≤ G 51 j ∧ G 51 j < 64 ∧ (∀ a : Int, 0 ≤ a → a < 6 → G 71 (6 * j + a) = (if tb (G 51 j) a = true then 1 else 0)) ∧
  (∀ i : Int, 0 ≤ i → i < G 50 j → (G 69 (6 * j + i) = G (43 + j.toNat) i ∧ 0 ≤ G (43 + j.toNat) i ∧ G (43 + j.toNat) i < G 3 4)) ∧
  ∀ i k : Int, 0 ≤ i → i < G 50 j → 0 ≤ k → k < G 50 j → G (43 + j.toNat) i = G (43 + j.toNat) k → i = k)
def Rel (G : AG) : Prop := RM G ∧ RA G ∧ RP G ∧ RC G ∧ RJ G
/-- each part looks at its own cells -/
theorem RM.cong {G G' : AG} (h : RM G) (h0 : G' 0 = G 0) (h1 : G' 1 = G 1) (h2 : G' 2 = G 2) (h3 : G' 55 = G 55) (h4 : G' 56 = G 56) (h5 : G' 54 2 = G 54 2) (h6 : G' 54 8 = G 54 8) : RM G' := by
  unfold RM at h ⊢
  rw [h0, h1, h2, h3, h4, h5, h6]
  exact h
theorem RA.cong {G G' : AG} (h : RA G) (h0 : G 0 2 ≤ G' 0 2) (h1 : G' 3 = G 3) (h2 : G' 4 = G 4) (h3 : G' 5 = G 5) (h4 : ∀ a : Int, 0 ≤ a → a < 6 → G' (7 + a.toNat) = G (7 + a.toNat)) (h5 : G' 57 = G 57) (h6 : G' 58 = G 58) (h7 : G' 59 = G 59) (h8 : G' 60 = G 60) (h9 : G' 54 7 = G 54 7) : RA G' := by
  unfold RA at h ⊢
  rw [h1, h2, h3, h5, h6, h7, h8, h9]
  refine ⟨h.1, h.2.1, h.2.2.1, h.2.2.2.1, h.2.2.2.2.1, h.2.2.2.2.2.1, fun a b q1 q2 q3 q4 => ?_⟩
  rw [h4 a q1 q2]
  obtain ⟨g1, g2, g3, g4, g5, g6⟩ := h.2.2.2.2.2.2 a b q1 q2 q3 q4
  exact ⟨g1, g2, g3, fun q => by have := g4 q; omega, g5, g6⟩
theorem RP.cong {G G' : AG} (h : RP G) (h0 : G 0 2 ≤ G' 0 2) (h1 : G 3 4 ≤ G' 3 4) (h2 : G' 13 = G 13) (h3 : G' 14 = G 14) (h4 : G' 15 = G 15) (h5 : G' 61 = G 61) (h6 : G' 62 = G 62) (h7 : G' 54 10 = G 54 10) (h8 : G' 54 11 = G 54 11) : RP G' := by
  unfold RP at h ⊢
  rw [h2, h3, h4, h5, h6, h7, h8]
  obtain ⟨g1, g2, g3, g4, g5, g6, g7, g8, g9, g10⟩ := h
  exact ⟨g1, g2, g3, g4, g5, g6, g7, g8, g9, fun i q1 q2 => by have := g10 i q1 q2; omega⟩
theorem RC.cong {G G' : AG} (h : RC G) (h0 : G 0 2 ≤ G' 0 2) (h1 : G' 33 = G 33) (h2 : G' 34 = G 34) (h3 : G' 35 = G 35) (h4 : G' 36 = G 36) (h5 : G' 37 = G 37) (h6 : G' 39 = G 39) (h7 : G' 63 = G 63) (h8 : G' 64 = G 64) (h9 : G' 65 = G 65) (h10 : G' 66 = G 66) (h11 : G' 67 = G 67) (h12 : G' 68 = G 68) (h13 : G' 54 19 = G 54 19) (h14 : G' 54 9 = G 54 9) (h15 : G' 54 21 = G 54 21) (h16 : G' 40 = G 40) : RC G' := by
  unfold RC at h ⊢
  rw [h1, h2, h3, h4, h5, h6, h7, h8, h9, h10, h11, h12, h13, h14, h15, h16]
  obtain ⟨g1, g2, g3, g4, g5, g6, g7, g8, g9, g10, g11, g12, g13⟩ := h
  exact ⟨g1, g2, g3, g4, g5, g6, g7, g8, g9, g10, g11, fun i q1 q2 => by
    obtain ⟨k1, k2, k3, k4, k5, k6, k7, k8, k9, k10, k11, k12⟩ := g12 i q1 q2
    exact ⟨k1, k2, k3, k4, k5, k6, k7, k8, k9, k10, k11, fun q => by have := k12 q; omega⟩, g13⟩
theorem RJ.cong {G G' : AG} (h : RJ G) (h0 : G 3 4 ≤ G' 3 4) (h1 : G' 50 = G 50) (h2 : G' 51 = G 51) (h3 : ∀ a : Int, 0 ≤ a → a < 7 → G' (43 + a.toNat) = G (43 + a.toNat)) (h4 : G' 69 = G 69) (h5 : G' 70 = G 70) (h6 : G' 71 = G 71) : RJ G' := by
  unfold RJ at h ⊢
  rw [h1, h2, h4, h5, h6]
  intro j q1 q2
  rw [h3 j q1 q2]
  obtain ⟨g1, g2, g3, g4, g5, g6, g7, g8⟩ := h j q1 q2
  exact ⟨g1, g2, g3, g4, g5, g6, fun i r1 r2 => by have := g7 i r1 r2; omega, g8⟩
/-- 54 25 (thrown) is in no part -/
theorem Rel.thrown {G : AG} (h : Rel G) (z : Int) : Rel (am_up G 54 25 z) := by
  have e : ∀ b : Nat, b ≠ 54 → am_up G 54 25 z b = G b := fun b hb => am_up_ne G 54 25 z b hb
  have e2 : ∀ j : Int, j ≠ 25 → am_up G 54 25 z 54 j = G 54 j := fun j hj => up_nj hj
  exact ⟨h.1.cong (e _ (by decide)) (e _ (by decide)) (e _ (by decide)) (e _ (by decide)) (e _ (by decide)) (e2 _ (by decide)) (e2 _ (by decide)),
    h.2.1.cong (by rw [e _ (by decide)]; exact Int.le_refl _) (e _ (by decide)) (e _ (by decide)) (e _ (by decide)) (fun a _ _ => e _ (by omega)) (e _ (by decide)) (e _ (by decide)) (e _ (by decide)) (e _ (by decide)) (e2 _ (by decide)),
    h.2.2.1.cong (by rw [e _ (by decide)]; exact Int.le_refl _) (by rw [e _ (by decide)]; exact Int.le_refl _) (e _ (by decide)) (e _ (by decide)) (e _ (by decide)) (e _ (by decide)) (e _ (by decide)) (e2 _ (by decide)) (e2 _ (by decide)),
    h.2.2.2.1.cong (by rw [e _ (by decide)]; exact Int.le_refl _) (e _ (by decide)) (e _ (by decide)) (e _ (by decide)) (e _ (by decide)) (e _ (by decide)) (e _ (by decide)) (e _ (by decide)) (e _ (by decide)) (e _ (by decide)) (e _ (by decide)) (e _ (by decide)) (e _ (by decide)) (e2 _ (by decide)) (e2 _ (by decide)) (e2 _ (by decide)) (e _ (by decide)),
    h.2.2.2.2.cong (by rw [e _ (by decide)]; exact Int.le_refl _) (e _ (by decide)) (e _ (by decide)) (fun a _ _ => e _ (by omega)) (e _ (by decide)) (e _ (by decide)) (e _ (by decide))⟩
/-- a call on both: one answer, and they still agree -/
def Pair (jx jm : Nat) (as bs : List AV) (G : AG) : Prop := ∃ (r : Option AV) (GX GM : AG), Ret 30 jx (vR 53 :: as) G r GX ∧ Ret 30 jm (vR 54 :: bs) GX r GM ∧ Rel GM ∧ GM 54 25 = 0
