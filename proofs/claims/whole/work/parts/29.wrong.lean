/-! the reasons -/
def any (P : Int → Bool) : Nat → Int → Bool
  | 0, _ => false
  | m + 1, i => P i || any P m (i + 1)
def down (F R : Int → Bool) : Nat → Int → Bool
  | 0, _ => false
  | m + 1, i => if F i = true then R i else down F R m (i - 1)
theorem any_cong {P P' : Int → Bool} : ∀ (m : Nat) (i : Int), (∀ k : Int, i ≤ k → k < i + m → P k = P' k) → any P m i = any P' m i
  | 0, _, _ => rfl
  | m + 1, i, h => by
    rw [any, any, h i (by omega) (by omega), any_cong m (i + 1) (fun k q1 q2 => h k (by omega) (by omega))]
theorem down_cong {F R F' R' : Int → Bool} : ∀ (m : Nat) (i : Int), (∀ k : Int, i - m < k → k ≤ i → F k = F' k ∧ (F k = true → R k = R' k)) → down F R m i = down F' R' m i
  | 0, _, _ => rfl
  | m + 1, i, h => by
    have h1 := h i (by omega) (by omega)
    rw [down, down, ← h1.1, down_cong m (i - 1) (fun k q1 q2 => h k (by omega) (by omega))]
    by_cases e : F i = true
    · rw [if_pos e, if_pos e, h1.2 e]
    · rw [if_neg e, if_neg e]
def hld (A M : Int → Int) (sk : Int → Bool) (lk : Int → Int → Int) (hr : Int → Int → Bool) (rk : Int → Int) (rv nr : Int → Int → Bool) (S r s : Int) : Bool :=
  if r = 0 then sk (A s) else if r = 1 then any (fun t => decide (A t = A s)) s.toNat 0 else if r = 2 then decide (lk (A s) (M s) = 0) else if r = 3 then !hr (M s) (s % S)
  else if r = 4 then any (fun t => decide (A t ≠ -1 ∧ M t = M s)) (s % S).toNat (s - s % S) else if r = 5 then any (fun t => decide (A t ≠ -1 ∧ rk (A s) < rk (A t))) (s % S).toNat (s - s % S)
  else if r = 6 then any (fun t => decide (A t ≠ -1) && rv (A t) (A s)) (s % S).toNat (s - s % S) else down (fun t => decide (A t ≠ -1)) (fun t => nr (M t) (M s)) (s % S).toNat (s - 1)
def nrX (G : AG) (m n : Int) : Bool := decide (G 0 3 < f_bc (f_and (G 1 m) (G 1 n)))
def nrM (G : AG) (m n : Int) : Bool := decide (G 54 8 < f_bc (f_and (G 55 m) (G 55 n)))
def hldX (G : AG) (r s : Int) : Bool := hld (artX G) (modX G) (tb (G 3 3)) (fun a m => G (7 + a.toNat) m) (fun m h => tb (G 2 m) h) (G 4) (fun a b => tb (G 5 b) a) (nrX G) (G 13 5) r s
def hldM (G : AG) (r s : Int) : Bool := hld (G 61) (G 62) (fun a => decide (G 58 a = 1)) (fun a m => G 59 (6 * a + m)) (fun m h => tb (G 56 m) h) (G 57) (fun a b => decide (G 60 (6 * a + b) = 1)) (nrM G) (G 54 11) r s
/-- what the reference's questions need -/
def MS (G : AG) : Prop := 1 ≤ G 54 11 ∧ G 54 11 ≤ 3 ∧ 0 ≤ G 54 8 ∧ G 54 8 ≤ 12 ∧ (∀ i : Int, 0 ≤ i → i < 6 → 0 ≤ G 57 i ∧ G 57 i ≤ 9 ∧ (G 58 i = 0 ∨ G 58 i = 1) ∧ 0 ≤ G 56 i ∧ G 56 i ≤ 15) ∧ ∀ a b : Int, 0 ≤ a → a < 6 → 0 ≤ b → b < 6 → 0 ≤ G 59 (6 * a + b) ∧ G 59 (6 * a + b) ≤ 100 ∧ (G 60 (6 * a + b) = 0 ∨ G 60 (6 * a + b) = 1)
theorem Rel.ms {G : AG} (hR : Rel G) : MS G := by
  obtain ⟨hm0, hm1, hm2, hm3, hm4, hm5, hm6⟩ := id hR.1
  obtain ⟨ha0, ha1, ha2, ha3, ha4, ha5, ha6⟩ := id hR.2.1
  obtain ⟨hp1, hp2, hp3, hp4, hp5, hp6, hp7, hp8, hp9, hp10⟩ := id hR.2.2.1
  refine ⟨by omega, by omega, by omega, by omega, fun i q1 q2 => ?_, fun a b q1 q2 q3 q4 => ?_⟩
  · obtain ⟨g1, g2, g3, g4, g5, g6⟩ := ha5 i q1 q2
    have := hm6 i q1 q2
    refine ⟨by omega, by omega, ?_, by omega, by omega⟩
    rw [g4]
    split <;> omega
  · obtain ⟨g1, g2, g3, g4, g5, g6⟩ := ha6 a b q1 q2 q3 q4
    refine ⟨by omega, by omega, ?_⟩
    rw [g5]
    split <;> omega
section Holds
variable {d : Nat} {G : AG} {Q : Option AV → AG → Prop} {r s a m f : Int} {l6 : AV}
theorem l_h1 (hM : MO G) (hs : 0 ≤ s ∧ s < 6) (ha : 0 ≤ a ∧ a < 6) : ∀ (n : Nat) (t : Int), 0 ≤ t → t + n = s → (Ends d 87 82 [vR 54, vI r, vI s, vI a, vI m, vI f, vI t] [] G Q ↔ Q (some (vI (if any (fun t => decide (G 61 t = a)) n t = true then 1 else 0))) G) := by
  intro n
  induction n with
  | zero =>
    intro t h0 h1
    simp (disch := first | omega | ((simp (disch := omega) only [up_ne, up_eq, up_nj, gf_ne, gf_in, sa_ne, sa_eq]) <;> omega)) only [reduceIte, Bool.false_eq_true, if_pos, if_neg, up_ne, up_eq, up_nj, gf_ne, gf_in, sa_ne, sa_eq, and_self, true_and, and_true, p_87_82, p_87_84, p_87_85, p_87_88, p_87_89, p_87_92, p_87_94, p_87_95, p_87_96, p_87_99, p_87_100, p_87_101, p_87_107, p_87_108, any]
  | succ n ih =>
    intro t h0 h1
    have b := hM t h0 (by omega)
    by_cases e : G 61 t = a
    · simp (disch := first | omega | ((simp (disch := omega) only [up_ne, up_eq, up_nj, gf_ne, gf_in, sa_ne, sa_eq]) <;> omega)) only [reduceIte, Bool.false_eq_true, if_pos, if_neg, up_ne, up_eq, up_nj, gf_ne, gf_in, sa_ne, sa_eq, and_self, true_and, and_true, p_87_82, p_87_84, p_87_85, p_87_88, p_87_89, p_87_92, p_87_94, p_87_95, p_87_96, p_87_99, p_87_100, p_87_101, p_87_107, p_87_108, any]
      simp [e]
    · simp (disch := first | omega | ((simp (disch := omega) only [up_ne, up_eq, up_nj, gf_ne, gf_in, sa_ne, sa_eq]) <;> omega)) only [reduceIte, Bool.false_eq_true, if_pos, if_neg, up_ne, up_eq, up_nj, gf_ne, gf_in, sa_ne, sa_eq, and_self, true_and, and_true, p_87_82, p_87_84, p_87_85, p_87_88, p_87_89, p_87_92, p_87_94, p_87_95, p_87_96, p_87_99, p_87_100, p_87_101, p_87_107, p_87_108]
      rw [p_87_104, ih (t + 1) (by omega) (by omega), any]
      simp [e]
theorem l_h4 (hM : MO G) (hs : 0 ≤ s ∧ s < 6) (hm : 0 ≤ m ∧ m < 6) : ∀ (n : Nat) (t : Int), 0 ≤ t → t + n = s → (Ends d 87 159 [vR 54, vI r, vI s, vI a, vI m, vI f, vI t] [] G Q ↔ Q (some (vI (if any (fun t => decide (G 61 t ≠ -1 ∧ G 62 t = m)) n t = true then 1 else 0))) G) := by
  intro n
  induction n with
  | zero =>
    intro t h0 h1
    simp (disch := first | omega | ((simp (disch := omega) only [up_ne, up_eq, up_nj, gf_ne, gf_in, sa_ne, sa_eq]) <;> omega)) only [reduceIte, Bool.false_eq_true, if_pos, if_neg, up_ne, up_eq, up_nj, gf_ne, gf_in, sa_ne, sa_eq, and_self, true_and, and_true, p_87_159, p_87_161, p_87_162, p_87_165, p_87_166, p_87_169, p_87_171, p_87_172, p_87_173, p_87_176, p_87_177, p_87_180, p_87_182, p_87_183, p_87_185, p_87_188, p_87_189, p_87_190, p_87_196, p_87_197, any]
  | succ n ih =>
    intro t h0 h1
    have b := hM t h0 (by omega)
    by_cases e : G 61 t = -1
    · simp (disch := first | omega | ((simp (disch := omega) only [up_ne, up_eq, up_nj, gf_ne, gf_in, sa_ne, sa_eq]) <;> omega)) only [reduceIte, Bool.false_eq_true, if_pos, if_neg, up_ne, up_eq, up_nj, gf_ne, gf_in, sa_ne, sa_eq, and_self, true_and, and_true, p_87_159, p_87_161, p_87_162, p_87_165, p_87_166, p_87_169, p_87_171, p_87_172, p_87_173, p_87_176, p_87_177, p_87_180, p_87_182, p_87_183, p_87_185, p_87_188, p_87_189, p_87_190, p_87_196, p_87_197]
      rw [p_87_193, ih (t + 1) (by omega) (by omega), any]
      simp [e]
    · by_cases e2 : G 62 t = m
      · simp (disch := first | omega | ((simp (disch := omega) only [up_ne, up_eq, up_nj, gf_ne, gf_in, sa_ne, sa_eq]) <;> omega)) only [reduceIte, Bool.false_eq_true, if_pos, if_neg, up_ne, up_eq, up_nj, gf_ne, gf_in, sa_ne, sa_eq, and_self, true_and, and_true, p_87_159, p_87_161, p_87_162, p_87_165, p_87_166, p_87_169, p_87_171, p_87_172, p_87_173, p_87_176, p_87_177, p_87_180, p_87_182, p_87_183, p_87_185, p_87_188, p_87_189, p_87_190, p_87_196, p_87_197, any]
        simp [e, e2]
      · simp (disch := first | omega | ((simp (disch := omega) only [up_ne, up_eq, up_nj, gf_ne, gf_in, sa_ne, sa_eq]) <;> omega)) only [reduceIte, Bool.false_eq_true, if_pos, if_neg, up_ne, up_eq, up_nj, gf_ne, gf_in, sa_ne, sa_eq, and_self, true_and, and_true, p_87_159, p_87_161, p_87_162, p_87_165, p_87_166, p_87_169, p_87_171, p_87_172, p_87_173, p_87_176, p_87_177, p_87_180, p_87_182, p_87_183, p_87_185, p_87_188, p_87_189, p_87_190, p_87_196, p_87_197]
        rw [p_87_193, ih (t + 1) (by omega) (by omega), any]
        simp [e2]
theorem l_h5 (hM : MO G) (hS : MS G) (hs : 0 ≤ s ∧ s < 6) (ha : 0 ≤ a ∧ a < 6) : ∀ (n : Nat) (t : Int), 0 ≤ t → t + n = s → (Ends d 87 202 [vR 54, vI r, vI s, vI a, vI m, vI f, vI t] [] G Q ↔ Q (some (vI (if any (fun t => decide (G 61 t ≠ -1 ∧ G 57 a < G 57 (G 61 t))) n t = true then 1 else 0))) G) := by
  have ba := hS.2.2.2.2.1 a ha.1 ha.2
  intro n
  induction n with
  | zero =>
    intro t h0 h1
    simp (disch := first | omega | ((simp (disch := omega) only [up_ne, up_eq, up_nj, gf_ne, gf_in, sa_ne, sa_eq]) <;> omega)) only [reduceIte, Bool.false_eq_true, if_pos, if_neg, up_ne, up_eq, up_nj, gf_ne, gf_in, sa_ne, sa_eq, and_self, true_and, and_true, p_87_202, p_87_204, p_87_205, p_87_208, p_87_209, p_87_212, p_87_214, p_87_215, p_87_216, p_87_219, p_87_220, p_87_223, p_87_224, p_87_227, p_87_229, p_87_230, p_87_231, p_87_232, p_87_235, p_87_236, p_87_237, p_87_240, p_87_241, p_87_242, p_87_248, p_87_249, any]
  | succ n ih =>
    intro t h0 h1
    have b := hM t h0 (by omega)
    by_cases e : G 61 t = -1
    · simp (disch := first | omega | ((simp (disch := omega) only [up_ne, up_eq, up_nj, gf_ne, gf_in, sa_ne, sa_eq]) <;> omega)) only [reduceIte, Bool.false_eq_true, if_pos, if_neg, up_ne, up_eq, up_nj, gf_ne, gf_in, sa_ne, sa_eq, and_self, true_and, and_true, p_87_202, p_87_204, p_87_205, p_87_208, p_87_209, p_87_212, p_87_214, p_87_215, p_87_216, p_87_219, p_87_220, p_87_223, p_87_224, p_87_227, p_87_229, p_87_230, p_87_231, p_87_232, p_87_235, p_87_236, p_87_237, p_87_240, p_87_241, p_87_242, p_87_248, p_87_249]
      rw [p_87_245, ih (t + 1) (by omega) (by omega), any]
      simp [e]
    · have b2 := hS.2.2.2.2.1 (G 61 t) (by omega) (by omega)
      by_cases e2 : G 57 a < G 57 (G 61 t)
      · simp (disch := first | omega | ((simp (disch := omega) only [up_ne, up_eq, up_nj, gf_ne, gf_in, sa_ne, sa_eq]) <;> omega)) only [reduceIte, Bool.false_eq_true, if_pos, if_neg, up_ne, up_eq, up_nj, gf_ne, gf_in, sa_ne, sa_eq, and_self, true_and, and_true, p_87_202, p_87_204, p_87_205, p_87_208, p_87_209, p_87_212, p_87_214, p_87_215, p_87_216, p_87_219, p_87_220, p_87_223, p_87_224, p_87_227, p_87_229, p_87_230, p_87_231, p_87_232, p_87_235, p_87_236, p_87_237, p_87_240, p_87_241, p_87_242, p_87_248, p_87_249, any]
        simp [e, e2]
      · simp (disch := first | omega | ((simp (disch := omega) only [up_ne, up_eq, up_nj, gf_ne, gf_in, sa_ne, sa_eq]) <;> omega)) only [reduceIte, Bool.false_eq_true, if_pos, if_neg, up_ne, up_eq, up_nj, gf_ne, gf_in, sa_ne, sa_eq, and_self, true_and, and_true, p_87_202, p_87_204, p_87_205, p_87_208, p_87_209, p_87_212, p_87_214, p_87_215, p_87_216, p_87_219, p_87_220, p_87_223, p_87_224, p_87_227, p_87_229, p_87_230, p_87_231, p_87_232, p_87_235, p_87_236, p_87_237, p_87_240, p_87_241, p_87_242, p_87_248, p_87_249]
        rw [p_87_245, ih (t + 1) (by omega) (by omega), any]
        simp [e2]
theorem l_h6 (hM : MO G) (hS : MS G) (hs : 0 ≤ s ∧ s < 6) (ha : 0 ≤ a ∧ a < 6) : ∀ (n : Nat) (t : Int), 0 ≤ t → t + n = s → (Ends d 87 254 [vR 54, vI r, vI s, vI a, vI m, vI f, vI t] [] G Q ↔ Q (some (vI (if any (fun t => decide (G 61 t ≠ -1) && decide (G 60 (6 * G 61 t + a) = 1)) n t = true then 1 else 0))) G) := by
  intro n
  induction n with
  | zero =>
    intro t h0 h1
    simp (disch := first | omega | ((simp (disch := omega) only [up_ne, up_eq, up_nj, gf_ne, gf_in, sa_ne, sa_eq]) <;> omega)) only [reduceIte, Bool.false_eq_true, if_pos, if_neg, up_ne, up_eq, up_nj, gf_ne, gf_in, sa_ne, sa_eq, and_self, true_and, and_true, p_87_254, p_87_256, p_87_257, p_87_260, p_87_261, p_87_264, p_87_266, p_87_267, p_87_268, p_87_271, p_87_272, p_87_275, p_87_277, p_87_278, p_87_281, p_87_283, p_87_284, p_87_285, p_87_286, p_87_287, p_87_288, p_87_291, p_87_292, p_87_293, p_87_299, p_87_300, any]
  | succ n ih =>
    intro t h0 h1
    have b := hM t h0 (by omega)
    by_cases e : G 61 t = -1
    · simp (disch := first | omega | ((simp (disch := omega) only [up_ne, up_eq, up_nj, gf_ne, gf_in, sa_ne, sa_eq]) <;> omega)) only [reduceIte, Bool.false_eq_true, if_pos, if_neg, up_ne, up_eq, up_nj, gf_ne, gf_in, sa_ne, sa_eq, and_self, true_and, and_true, p_87_254, p_87_256, p_87_257, p_87_260, p_87_261, p_87_264, p_87_266, p_87_267, p_87_268, p_87_271, p_87_272, p_87_275, p_87_277, p_87_278, p_87_281, p_87_283, p_87_284, p_87_285, p_87_286, p_87_287, p_87_288, p_87_291, p_87_292, p_87_293, p_87_299, p_87_300]
      rw [p_87_296, ih (t + 1) (by omega) (by omega), any]
      simp [e]
    · rcases (hS.2.2.2.2.2 (G 61 t) a (by omega) (by omega) ha.1 ha.2).2.2 with e2 | e2
      · simp (disch := first | omega | ((simp (disch := omega) only [up_ne, up_eq, up_nj, gf_ne, gf_in, sa_ne, sa_eq]) <;> omega)) only [reduceIte, Bool.false_eq_true, if_pos, if_neg, up_ne, up_eq, up_nj, gf_ne, gf_in, sa_ne, sa_eq, and_self, true_and, and_true, p_87_254, p_87_256, p_87_257, p_87_260, p_87_261, p_87_264, p_87_266, p_87_267, p_87_268, p_87_271, p_87_272, p_87_275, p_87_277, p_87_278, p_87_281, p_87_283, p_87_284, p_87_285, p_87_286, p_87_287, p_87_288, p_87_291, p_87_292, p_87_293, p_87_299, p_87_300, e2]
        rw [p_87_296, ih (t + 1) (by omega) (by omega), any]
        simp [e2]
      · simp (disch := first | omega | ((simp (disch := omega) only [up_ne, up_eq, up_nj, gf_ne, gf_in, sa_ne, sa_eq]) <;> omega)) only [reduceIte, Bool.false_eq_true, if_pos, if_neg, up_ne, up_eq, up_nj, gf_ne, gf_in, sa_ne, sa_eq, and_self, true_and, and_true, p_87_254, p_87_256, p_87_257, p_87_260, p_87_261, p_87_264, p_87_266, p_87_267, p_87_268, p_87_271, p_87_272, p_87_275, p_87_277, p_87_278, p_87_281, p_87_283, p_87_284, p_87_285, p_87_286, p_87_287, p_87_288, p_87_291, p_87_292, p_87_293, p_87_299, p_87_300, any, e2]
        simp [e, e2]
theorem l_h7 (hM : MO G) (hS : MS G) (hs : 0 ≤ s ∧ s < 6) (hm : 0 ≤ m ∧ m < 6) (hf : 0 ≤ f) : ∀ (n : Nat) (t : Int), t < s → t - n + 1 = f → (Ends (d + 2) 87 306 [vR 54, vI r, vI s, vI a, vI m, vI f, vI t] [] G Q ↔ Q (some (vI (if down (fun t => decide (G 61 t ≠ -1)) (fun t => nrM G (G 62 t) m) n t = true then 1 else 0))) G) := by
  intro n
  induction n with
  | zero =>
    intro t h0 h1
    simp (disch := first | omega | ((simp (disch := omega) only [up_ne, up_eq, up_nj, gf_ne, gf_in, sa_ne, sa_eq]) <;> omega)) only [reduceIte, Bool.false_eq_true, if_pos, if_neg, up_ne, up_eq, up_nj, gf_ne, gf_in, sa_ne, sa_eq, and_self, true_and, and_true, p_87_306, p_87_308, p_87_310, p_87_313, p_87_314, p_87_317, p_87_319, p_87_320, p_87_321, p_87_324, p_87_325, p_87_326, p_87_329, p_87_331, p_87_332, q_87_334, p_87_337, p_87_338, p_87_341, p_87_344, p_87_345, p_87_348, p_87_349, p_87_350, p_87_356, p_87_357, down]
  | succ n ih =>
    intro t h0 h1
    have b := hM t (by omega) (by omega)
    have bl := hS.2.2.1
    have bl2 := hS.2.2.2.1
    by_cases e : G 61 t = -1
    · simp (disch := first | omega | ((simp (disch := omega) only [up_ne, up_eq, up_nj, gf_ne, gf_in, sa_ne, sa_eq]) <;> omega)) only [reduceIte, Bool.false_eq_true, if_pos, if_neg, up_ne, up_eq, up_nj, gf_ne, gf_in, sa_ne, sa_eq, and_self, true_and, and_true, p_87_306, p_87_308, p_87_310, p_87_313, p_87_314, p_87_317, p_87_319, p_87_320, p_87_321, p_87_324, p_87_325, p_87_326, p_87_329, p_87_331, p_87_332, q_87_334, p_87_337, p_87_338, p_87_341, p_87_344, p_87_345, p_87_348, p_87_349, p_87_350, p_87_356, p_87_357]
      rw [p_87_353, show t + -1 = t - 1 by omega, ih (t - 1) (by omega) (by omega), down]
      simp [e]
    · have b2 := f_bc_rng (f_and (G 55 (G 62 t)) (G 55 m))
      by_cases e2 : G 54 8 < f_bc (f_and (G 55 (G 62 t)) (G 55 m))
      · simp (disch := first | omega | ((simp (disch := omega) only [up_ne, up_eq, up_nj, gf_ne, gf_in, sa_ne, sa_eq]) <;> omega)) only [reduceIte, Bool.false_eq_true, if_pos, if_neg, up_ne, up_eq, up_nj, gf_ne, gf_in, sa_ne, sa_eq, and_self, true_and, and_true, p_87_306, p_87_308, p_87_310, p_87_313, p_87_314, p_87_317, p_87_319, p_87_320, p_87_321, p_87_324, p_87_325, p_87_326, p_87_329, p_87_331, p_87_332, q_87_334, p_87_337, p_87_338, p_87_341, p_87_344, p_87_345, p_87_348, p_87_349, p_87_350, p_87_356, p_87_357, down]
        simp [e, e2, nrM]
      · simp (disch := first | omega | ((simp (disch := omega) only [up_ne, up_eq, up_nj, gf_ne, gf_in, sa_ne, sa_eq]) <;> omega)) only [reduceIte, Bool.false_eq_true, if_pos, if_neg, up_ne, up_eq, up_nj, gf_ne, gf_in, sa_ne, sa_eq, and_self, true_and, and_true, p_87_306, p_87_308, p_87_310, p_87_313, p_87_314, p_87_317, p_87_319, p_87_320, p_87_321, p_87_324, p_87_325, p_87_326, p_87_329, p_87_331, p_87_332, q_87_334, p_87_337, p_87_338, p_87_341, p_87_344, p_87_345, p_87_348, p_87_349, p_87_350, p_87_356, p_87_357, down]
        simp [e, e2, nrM]
end Holds
theorem c_holds {d : Nat} {G : AG} {r s : Int} (hM : MO G) (hS : MS G) (hr : 0 ≤ r ∧ r < 8) (hs : 0 ≤ s ∧ s < 6) (hw : G 61 s ≠ -1) : Ret (d + 2) 87 [vR 54, vI r, vI s, vU, vU, vU, vU] G (some (vI (if hldM G r s = true then 1 else 0))) G := by
  have b := hM s hs.1 hs.2
  have b1 := hS.1
  have b2 := hS.2.1
  have b3 := hS.2.2.2.2.1 (G 61 s) (by omega) (by omega)
  have b4 := hS.2.2.2.2.1 (G 62 s) (by omega) (by omega)
  have b5 := hS.2.2.2.2.2 (G 61 s) (G 62 s) (by omega) (by omega) (by omega) (by omega)
  have e1 : s / G 54 11 * G 54 11 = s - s % G 54 11 := by
    have := Int.emod_add_mul_ediv s (G 54 11)
    rw [Int.mul_comm]
    omega
  have e2 : 0 ≤ s % G 54 11 := Int.emod_nonneg _ (by omega)
  have e3 : s % G 54 11 < G 54 11 := Int.emod_lt_of_pos _ (by omega)
  have e4 : s % G 54 11 ≤ s := by
    have := Int.ediv_nonneg hs.1 (show 0 ≤ G 54 11 by omega)
    have := Int.mul_nonneg this (show 0 ≤ G 54 11 by omega)
    omega
  unfold Ret hldM hld
  rcases (show r = 0 ∨ r = 1 ∨ r = 2 ∨ r = 3 ∨ r = 4 ∨ r = 5 ∨ r = 6 ∨ r = 7 by omega) with rfl | rfl | rfl | rfl | rfl | rfl | rfl | rfl
  · rcases b3.2.2.1 with e | e
    · simp (disch := first | omega | ((simp (disch := omega) only [up_ne, up_eq, up_nj, gf_ne, gf_in, sa_ne, sa_eq]) <;> omega)) only [reduceIte, Bool.false_eq_true, if_pos, if_neg, up_ne, up_eq, up_nj, gf_ne, gf_in, sa_ne, sa_eq, and_self, true_and, and_true, p_87_0, p_87_1, p_87_4, p_87_5, p_87_6, p_87_7, p_87_8, p_87_11, p_87_12, p_87_13, p_87_15, p_87_16, p_87_17, p_87_20, p_87_21, p_87_22, p_87_25, p_87_26, p_87_28, p_87_29, p_87_72, p_87_73, p_87_76, p_87_77, p_87_78, p_87_79, p_87_80, e]
      simp
    · simp (disch := first | omega | ((simp (disch := omega) only [up_ne, up_eq, up_nj, gf_ne, gf_in, sa_ne, sa_eq]) <;> omega)) only [reduceIte, Bool.false_eq_true, if_pos, if_neg, up_ne, up_eq, up_nj, gf_ne, gf_in, sa_ne, sa_eq, and_self, true_and, and_true, p_87_0, p_87_1, p_87_4, p_87_5, p_87_6, p_87_7, p_87_8, p_87_11, p_87_12, p_87_13, p_87_15, p_87_16, p_87_17, p_87_20, p_87_21, p_87_22, p_87_25, p_87_26, p_87_28, p_87_29, p_87_72, p_87_73, p_87_76, p_87_77, p_87_78, p_87_79, p_87_80, e]
      simp
  · simp (disch := first | omega | ((simp (disch := omega) only [up_ne, up_eq, up_nj, gf_ne, gf_in, sa_ne, sa_eq]) <;> omega)) only [reduceIte, Bool.false_eq_true, if_pos, if_neg, up_ne, up_eq, up_nj, gf_ne, gf_in, sa_ne, sa_eq, and_self, true_and, and_true, p_87_0, p_87_1, p_87_4, p_87_5, p_87_6, p_87_7, p_87_8, p_87_11, p_87_12, p_87_13, p_87_15, p_87_16, p_87_17, p_87_20, p_87_21, p_87_22, p_87_25, p_87_26, p_87_28, p_87_29, p_87_72, p_87_73, p_87_76, p_87_77, p_87_78, p_87_79, p_87_80]
    rw [l_h1 hM hs (by omega) s.toNat 0 (by omega) (by omega)]
    simp
  · by_cases e : G 59 (6 * G 61 s + G 62 s) = 0
    · simp (disch := first | omega | ((simp (disch := omega) only [up_ne, up_eq, up_nj, gf_ne, gf_in, sa_ne, sa_eq]) <;> omega)) only [reduceIte, Bool.false_eq_true, if_pos, if_neg, up_ne, up_eq, up_nj, gf_ne, gf_in, sa_ne, sa_eq, and_self, true_and, and_true, p_87_0, p_87_1, p_87_4, p_87_5, p_87_6, p_87_7, p_87_8, p_87_11, p_87_12, p_87_13, p_87_15, p_87_16, p_87_17, p_87_20, p_87_21, p_87_22, p_87_25, p_87_26, p_87_28, p_87_29, p_87_72, p_87_73, p_87_76, p_87_77, p_87_78, p_87_79, p_87_80, p_87_109, p_87_110, p_87_113, p_87_115, p_87_116, p_87_117, p_87_119, p_87_120, p_87_121, p_87_124, p_87_125, p_87_128, p_87_129, e]
      simp
    · simp (disch := first | omega | ((simp (disch := omega) only [up_ne, up_eq, up_nj, gf_ne, gf_in, sa_ne, sa_eq]) <;> omega)) only [reduceIte, Bool.false_eq_true, if_pos, if_neg, up_ne, up_eq, up_nj, gf_ne, gf_in, sa_ne, sa_eq, and_self, true_and, and_true, p_87_0, p_87_1, p_87_4, p_87_5, p_87_6, p_87_7, p_87_8, p_87_11, p_87_12, p_87_13, p_87_15, p_87_16, p_87_17, p_87_20, p_87_21, p_87_22, p_87_25, p_87_26, p_87_28, p_87_29, p_87_72, p_87_73, p_87_76, p_87_77, p_87_78, p_87_79, p_87_80, p_87_109, p_87_110, p_87_113, p_87_115, p_87_116, p_87_117, p_87_119, p_87_120, p_87_121, p_87_124, p_87_125, p_87_128, p_87_129]
      simp [e]
  · simp (disch := first | omega | ((simp (disch := omega) only [up_ne, up_eq, up_nj, gf_ne, gf_in, sa_ne, sa_eq]) <;> omega)) only [reduceIte, Bool.false_eq_true, if_pos, if_neg, up_ne, up_eq, up_nj, gf_ne, gf_in, sa_ne, sa_eq, and_self, true_and, and_true, p_87_0, p_87_1, p_87_4, p_87_5, p_87_6, p_87_7, p_87_8, p_87_11, p_87_12, p_87_13, p_87_15, p_87_16, p_87_17, p_87_20, p_87_21, p_87_22, p_87_25, p_87_26, p_87_28, p_87_29, p_87_72, p_87_73, p_87_76, p_87_77, p_87_78, p_87_79, p_87_80, p_87_130, p_87_131, p_87_134, p_87_136, p_87_137, p_87_138, p_87_139, p_87_142, p_87_143, p_87_144, p_87_145, p_87_146, p_87_149, p_87_150, p_87_153, p_87_154, fi_hasBit b4.2.2.2.1 (show G 56 (G 62 s) < 2147483648 by omega) e2 (show s % G 54 11 < 31 by omega)]
    by_cases e : tb (G 56 (G 62 s)) (s % G 54 11) = true
    · simp (disch := first | omega | ((simp (disch := omega) only [up_ne, up_eq, up_nj, gf_ne, gf_in, sa_ne, sa_eq]) <;> omega)) only [reduceIte, Bool.false_eq_true, if_pos, if_neg, up_ne, up_eq, up_nj, gf_ne, gf_in, sa_ne, sa_eq, and_self, true_and, and_true, p_87_130, p_87_131, p_87_134, p_87_136, p_87_137, p_87_138, p_87_139, p_87_142, p_87_143, p_87_144, p_87_145, p_87_146, p_87_149, p_87_150, p_87_153, p_87_154, e]
      simp
    · simp (disch := first | omega | ((simp (disch := omega) only [up_ne, up_eq, up_nj, gf_ne, gf_in, sa_ne, sa_eq]) <;> omega)) only [reduceIte, Bool.false_eq_true, if_pos, if_neg, up_ne, up_eq, up_nj, gf_ne, gf_in, sa_ne, sa_eq, and_self, true_and, and_true, p_87_130, p_87_131, p_87_134, p_87_136, p_87_137, p_87_138, p_87_139, p_87_142, p_87_143, p_87_144, p_87_145, p_87_146, p_87_149, p_87_150, p_87_153, p_87_154, e]
      simp
  · simp (disch := first | omega | ((simp (disch := omega) only [up_ne, up_eq, up_nj, gf_ne, gf_in, sa_ne, sa_eq]) <;> omega)) only [reduceIte, Bool.false_eq_true, if_pos, if_neg, up_ne, up_eq, up_nj, gf_ne, gf_in, sa_ne, sa_eq, and_self, true_and, and_true, p_87_0, p_87_1, p_87_4, p_87_5, p_87_6, p_87_7, p_87_8, p_87_11, p_87_12, p_87_13, p_87_15, p_87_16, p_87_17, p_87_20, p_87_21, p_87_22, p_87_25, p_87_26, p_87_28, p_87_29, p_87_72, p_87_73, p_87_76, p_87_77, p_87_78, p_87_79, p_87_80, p_87_155, p_87_157, e1]
    rw [l_h4 hM hs (by omega) (s % G 54 11).toNat _ (by omega) (by omega)]
    simp
  · simp (disch := first | omega | ((simp (disch := omega) only [up_ne, up_eq, up_nj, gf_ne, gf_in, sa_ne, sa_eq]) <;> omega)) only [reduceIte, Bool.false_eq_true, if_pos, if_neg, up_ne, up_eq, up_nj, gf_ne, gf_in, sa_ne, sa_eq, and_self, true_and, and_true, p_87_0, p_87_1, p_87_4, p_87_5, p_87_6, p_87_7, p_87_8, p_87_11, p_87_12, p_87_13, p_87_15, p_87_16, p_87_17, p_87_20, p_87_21, p_87_22, p_87_25, p_87_26, p_87_28, p_87_29, p_87_72, p_87_73, p_87_76, p_87_77, p_87_78, p_87_79, p_87_80, p_87_198, p_87_200, e1]
    rw [l_h5 hM hS hs (by omega) (s % G 54 11).toNat _ (by omega) (by omega)]
    simp
  · simp (disch := first | omega | ((simp (disch := omega) only [up_ne, up_eq, up_nj, gf_ne, gf_in, sa_ne, sa_eq]) <;> omega)) only [reduceIte, Bool.false_eq_true, if_pos, if_neg, up_ne, up_eq, up_nj, gf_ne, gf_in, sa_ne, sa_eq, and_self, true_and, and_true, p_87_0, p_87_1, p_87_4, p_87_5, p_87_6, p_87_7, p_87_8, p_87_11, p_87_12, p_87_13, p_87_15, p_87_16, p_87_17, p_87_20, p_87_21, p_87_22, p_87_25, p_87_26, p_87_28, p_87_29, p_87_72, p_87_73, p_87_76, p_87_77, p_87_78, p_87_79, p_87_80, p_87_250, p_87_252, e1]
    rw [l_h6 hM hS hs (by omega) (s % G 54 11).toNat _ (by omega) (by omega)]
    simp
  · simp (disch := first | omega | ((simp (disch := omega) only [up_ne, up_eq, up_nj, gf_ne, gf_in, sa_ne, sa_eq]) <;> omega)) only [reduceIte, Bool.false_eq_true, if_pos, if_neg, up_ne, up_eq, up_nj, gf_ne, gf_in, sa_ne, sa_eq, and_self, true_and, and_true, p_87_0, p_87_1, p_87_4, p_87_5, p_87_6, p_87_7, p_87_8, p_87_11, p_87_12, p_87_13, p_87_15, p_87_16, p_87_17, p_87_20, p_87_21, p_87_22, p_87_25, p_87_26, p_87_28, p_87_29, p_87_72, p_87_73, p_87_76, p_87_77, p_87_78, p_87_79, p_87_80, p_87_301, p_87_302, p_87_303, p_87_304, e1]
    rw [l_h7 hM hS hs (by omega) (by omega) (s % G 54 11).toNat (s - 1) (by omega) (by omega)]
    simp
