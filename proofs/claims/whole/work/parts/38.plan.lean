/-! evening by evening -/
theorem rl_mem {P : Int → Bool} : ∀ (n : Nat) (o x : Int), x ∈ rl P n o → o ≤ x ∧ x < o + n ∧ P x = true
  | 0, _, _, h => by simp [rl] at h
  | n + 1, o, x, h => by
    rw [rl] at h
    split at h
    · rename_i e
      rcases List.mem_cons.mp h with rfl | h
      · exact ⟨by omega, by omega, e⟩
      · have := rl_mem n (o + 1) x h
        exact ⟨by omega, by omega, this.2.2⟩
    · have := rl_mem n (o + 1) x h
      exact ⟨by omega, by omega, this.2.2⟩
theorem rl_len {P : Int → Bool} : ∀ (n : Nat) (o : Int), (rl P n o).length ≤ n
  | 0, _ => by simp [rl]
  | n + 1, o => by
    have := rl_len (P := P) n (o + 1)
    rw [rl]
    split
    · simp; omega
    · omega
theorem chs_mem {G : AG} (hR : Rel G) {h o : Int} (ho : o ∈ chs G h) : 0 ≤ o ∧ o < 36 ∧ o / 6 < G 3 4 ∧ o % 6 < G 0 2 := by
  have h1 := rl_mem _ _ _ ho
  obtain ⟨ha0, ha1, ha2, ha3, ha4, ha5, ha6⟩ := id hR.2.1
  have h2 := h1.2.2
  unfold ok1 at h2
  rw [Bool.and_eq_true, Bool.and_eq_true, decide_eq_true_iff] at h2
  have h3 := h2.1.1
  unfold lkX at h3
  have h4 := (ha6 (o / 6) (o % 6) (by omega) (by omega) (by omega) (by omega)).2.2.2.1 (by omega)
  exact ⟨by omega, by omega, h4.1, h4.2⟩
theorem vvX_rng {G : AG} (hX : XS G) {cost s o : Int} (hc : 0 ≤ cost ∧ cost ≤ 1000) (ho : 0 ≤ o ∧ o < 37) : -3000000000000 ≤ vvX G cost s o ∧ vvX G cost s o ≤ 3000000000000 := by
  have hf := @f_pl_pos s
  have h1 : 0 ≤ o * f_pl s := Int.mul_nonneg ho.1 (by omega)
  have h2 : o * f_pl s ≤ 36 * 69343957 := Int.mul_le_mul (by omega) hf.2 (by omega) (by omega)
  have h3 : -1000 ≤ wvX G cost s o ∧ wvX G cost s o ≤ 100 := by
    unfold wvX lkX
    by_cases e : o = 36
    · rw [if_pos e]
      split <;> omega
    · rw [if_neg e]
      have := hX.2.2.2.2.2.2.2 (o / 6) (o % 6) (by omega) (by omega) (by omega) (by omega)
      split <;> omega
  unfold vvX
  omega
theorem mul_le6 {e E S : Int} (h0 : 0 ≤ e) (h1 : e < E) (hS : 1 ≤ S) : 0 ≤ e * S ∧ e * S + S ≤ E * S := by
  have h2 : 0 ≤ e * S := Int.mul_nonneg h0 (by omega)
  have h3 : (e + 1) * S ≤ E * S := Int.mul_le_mul_of_nonneg_right (by omega) (by omega)
  rw [Int.add_mul] at h3
  omega
theorem tbl_fs {G0 GT G : AG} {cost e : Int} (hR : Rel G0) (hc : 0 ≤ cost ∧ cost ≤ 1000) (hT : TBL G0 cost GT) (he : 0 ≤ e ∧ e < G0 13 4) (hE : ∀ b : Nat, b ≠ 16 → b ≠ 31 → b ≠ 32 → G b = GT b) (hf : G 16 10 = e * G0 13 5) {z0 : Int} (hz : 0 ≤ z0 ∧ z0 < 64) : FS G z0 (e * G0 13 5) (G0 13 5) := by
  obtain ⟨t1, t2, t3, t4, t5, t6⟩ := hT
  obtain ⟨hp1, hp2, hp3, hp4, hp5, hp6, hp7, hp8, hp9, hp10⟩ := id hR.2.2.1
  have hs := hR.2.2.1.slots
  have hm := mul_le6 (S := G0 13 5) he.1 he.2 hp3
  have e15 : ∀ b : Nat, b ≤ 15 → G b = G0 b := fun b hb => by rw [hE b (by omega) (by omega) (by omega), t1 b (by omega)]
  refine ⟨hp3, hp4, by rw [e15 13 (by omega)], hf, hm.1, by omega, hz.1, hz.2, fun h q1 q2 => ?_, fun s o q1 q2 q3 q4 => ?_⟩
  · rw [chs_cong e15]
    have := t3 h q1 q2
    refine ⟨by rw [hE 28 (by decide) (by decide) (by decide)]; exact this.1, rl_len _ _, fun j hj => ?_, fun o ho => ?_⟩
    · rw [hE _ (by omega) (by omega) (by omega)]
      exact this.2 j hj
    · have hm := chs_mem hR ho
      have b1 := t4 (o / 6) (by omega) (by omega)
      have b2 := t5 (o % 6) (by omega) (by omega)
      rw [hE 29 (by decide) (by decide) (by decide), hE 30 (by decide) (by decide) (by decide)]
      exact ⟨hm.1, hm.2.1, b1.1, b1.2.1, b2.1, b2.2.1⟩
  · rw [hE _ (by omega) (by omega) (by omega), t2 s o (by omega) (by omega) q3 q4]
    exact vvX_rng hR.xs hc ⟨q3, q4⟩
theorem stX_vb {G : AG} {fs b n : Int} {oc : Int → Int} {p : List Int} (h : VB n b oc) (hc : 0 ≤ cmpP p ∧ cmpP p < n) (hv : -b ≤ vlsP G fs p ∧ vlsP G fs p ≤ b) (hb : b ≤ 9000000000000000000) : VB n b (stX G fs oc p) := by
  intro c q1 q2
  have h1 := h c q1 q2
  have h2 := h (cmpP p) hc.1 hc.2
  unfold stX
  split
  · right
    omega
  · exact h1
theorem enX_vb {G : AG} {z0 fs S : Int} (hF : FS G z0 fs S) : ∀ (k : Nat) (p : List Int) (oc : Int → Int), PV G p → (p.length : Int) + k = S → VB 64 10000000000000 oc → VB 64 10000000000000 (enX G z0 fs k p oc)
  | 0, p, oc, hp, hl, ho => by
    have h1 := vlsP_rng hF hp (by omega)
    have := hF.2.1
    exact stX_vb ho (cmpP_rng hp) (by omega) (by omega)
  | k + 1, p, oc, hp, hl, ho => by
    rw [enX]
    refine enX_vb hF k (36 :: p) _ (hp.cons (Or.inl rfl)) (by simp; omega) ?_
    have hc := hF.2.2.2.2.2.2.2.2.1 p.length (by omega) (by omega)
    have key : ∀ (l : List Int) (oc : Int → Int), (∀ o ∈ l, o ∈ chs G p.length) → VB 64 10000000000000 oc → VB 64 10000000000000 (l.foldl (fun oc o => if okX G z0 p o = true then enX G z0 fs k (o :: p) oc else oc) oc) := by
      intro l
      induction l with
      | nil => intro oc _ h; exact h
      | cons o l ih2 =>
        intro oc hm h
        rw [List.foldl_cons]
        refine ih2 _ (fun x hx => hm x (List.mem_cons_of_mem _ hx)) ?_
        split
        · exact enX_vb hF k (o :: p) oc (hp.cons (Or.inr (hc.2.2.2 o (hm o List.mem_cons_self)))) (by simp; omega) h
        · exact h
    exact key _ oc (fun _ h => h) ho
/-- nobody at all is a way -/
theorem enX_self {G : AG} {z0 fs S : Int} (hF : FS G z0 fs S) : ∀ (k : Nat) (p : List Int) (oc : Int → Int), PV G p → (p.length : Int) + k = S → -10000000000000 ≤ enX G z0 fs k p oc (cmpP p)
  | 0, p, oc, hp, hl => by
    have h1 := vlsP_rng hF hp (by omega)
    have := hF.2.1
    rw [enX, stX, if_pos rfl]
    omega
  | k + 1, p, oc, hp, hl => by
    rw [enX]
    have := enX_self hF k (36 :: p) ((chs G p.length).foldl (fun oc o => if okX G z0 p o = true then enX G z0 fs k (o :: p) oc else oc) oc) (hp.cons (Or.inl rfl)) (by simp; omega)
    rw [cmpP, if_pos rfl] at this
    exact this
theorem jn_ge {oc lt : Int → Int} {tk : Int} : ∀ (m : Nat) (c g : Int), g ≤ jn oc lt tk m c g
  | 0, _, _ => Int.le_refl _
  | m + 1, c, g => by
    rw [jn]
    refine Int.le_trans ?_ (jn_ge m (c + 1) _)
    split <;> omega
theorem jn_le {oc lt : Int → Int} {tk B : Int} : ∀ (m : Nat) (c g : Int), g ≤ B → (∀ i : Int, c ≤ i → i < c + m → f_and i tk = 0 → oc i ≠ -9223372036854775808 → oc i + lt (f_or tk i) ≤ B) → jn oc lt tk m c g ≤ B
  | 0, _, _, h, _ => h
  | m + 1, c, g, h, ht => by
    rw [jn]
    refine jn_le m (c + 1) _ ?_ (fun i q1 q2 q3 q4 => ht i (by omega) (by omega) q3 q4)
    split
    · rename_i e
      have := ht c (by omega) (by omega) e.1 e.2
      omega
    · exact h
theorem jn_one {oc lt : Int → Int} {tk : Int} : ∀ (m : Nat) (c g i : Int), c ≤ i → i < c + m → f_and i tk = 0 → oc i ≠ -9223372036854775808 → oc i + lt (f_or tk i) ≤ jn oc lt tk m c g
  | 0, _, _, _, h0, h1, _, _ => by omega
  | m + 1, c, g, i, h0, h1, h2, h3 => by
    rw [jn]
    by_cases e : i = c
    · subst e
      refine Int.le_trans ?_ (jn_ge m (i + 1) _)
      rw [if_pos ⟨h2, h3⟩]
      omega
    · exact jn_one m (c + 1) _ i (by omega) (by omega) h2 h3
/-- the value of the last r evenings, for each set that is taken ahead of them -/
def latX (G : AG) (z0 S E : Int) (N : Nat) : Nat → Int → Int
  | 0, _ => 0
  | r + 1, t => jn (enX G z0 ((E - 1 - r) * S) S.toNat [] (fun _ => -9223372036854775808)) (latX G z0 S E N r) t N 0 (-9223372036854775808)
