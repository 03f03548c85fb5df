/-! wrong -/
def ffs (P : Int → Bool) : Nat → Int → Int
  | 0, _ => -1
  | m + 1, s => if P s = true then s else ffs P m (s + 1)
def ffr (P : Int → Int → Bool) (n : Nat) : Nat → Int → Int
  | 0, _ => 0
  | m + 1, r => if ffs (P r) n 0 = -1 then ffr P n m (r + 1) else 10 * (r + 1) + ffs (P r) n 0
theorem ffs_cong {P P' : Int → Bool} : ∀ (m : Nat) (i : Int), (∀ k : Int, i ≤ k → k < i + m → P k = P' k) → ffs P m i = ffs P' m i
  | 0, _, _ => rfl
  | m + 1, i, h => by
    rw [ffs, ffs, h i (by omega) (by omega), ffs_cong m (i + 1) (fun k q1 q2 => h k (by omega) (by omega))]
theorem ffr_cong {P P' : Int → Int → Bool} {n : Nat} : ∀ (m : Nat) (r : Int), (∀ q k : Int, r ≤ q → q < r + m → 0 ≤ k → k < n → P q k = P' q k) → ffr P n m r = ffr P' n m r
  | 0, _, _ => rfl
  | m + 1, r, h => by
    have h1 : ffs (P r) n 0 = ffs (P' r) n 0 := ffs_cong _ _ (fun k q1 q2 => h r k (by omega) (by omega) q1 (by omega))
    rw [ffr, ffr, h1, ffr_cong m (r + 1) (fun q k q1 q2 q3 q4 => h q k (by omega) (by omega) q3 q4)]
def PX (G : AG) (r s : Int) : Bool := decide (G 14 s ≠ 36) && hldX G r s
def PM (G : AG) (r s : Int) : Bool := decide (G 61 s ≠ -1) && hldM G r s
theorem l_ff1 {d : Nat} {G : AG} {Q : Option AV → AG → Prop} {r : Int} (hO : HO G) (hX : XS G) (hr : 0 ≤ r ∧ r < 8) (hn : 0 ≤ G 13 6 ∧ G 13 6 ≤ 6) (h15 : ∀ i : Int, 0 ≤ i → i < G 13 6 → G 15 i = i % G 13 5) : ∀ (m : Nat) (s : Int), 0 ≤ s → s + m = G 13 6 → (Ends (d + 5) 39 10 [vR 13, vI r, vI s] [] G Q ↔ if ffs (PX G r) m s = -1 then Ends (d + 5) 39 50 [vR 13, vI r, vI (G 13 6)] [] G Q else Q (some (vI (10 * (r + 1) + ffs (PX G r) m s))) G) := by
  intro m
  induction m with
  | zero =>
    intro s h0 h1
    have e : s = G 13 6 := by omega
    subst e
    simp (disch := first | omega | ((simp (disch := omega) only [up_ne, up_eq, up_nj, gf_ne, gf_in, sa_ne, sa_eq]) <;> omega)) only [reduceIte, Bool.false_eq_true, if_pos, if_neg, up_ne, up_eq, up_nj, gf_ne, gf_in, sa_ne, sa_eq, and_self, true_and, and_true, p_39_10, p_39_11, p_39_12, p_39_15, p_39_18, p_39_19, q_39_20, p_39_23, p_39_26, p_39_27, p_39_28, p_39_32, p_39_35, p_39_37, p_39_38, p_39_39, p_39_40, p_39_41, p_39_42, p_39_43, p_39_44, ffs]
  | succ m ih =>
    intro s h0 h1
    have b := hO s h0 (by omega)
    rw [ffs]
    by_cases e : G 14 s = 36
    · simp (disch := first | omega | ((simp (disch := omega) only [up_ne, up_eq, up_nj, gf_ne, gf_in, sa_ne, sa_eq]) <;> omega)) only [reduceIte, Bool.false_eq_true, if_pos, if_neg, up_ne, up_eq, up_nj, gf_ne, gf_in, sa_ne, sa_eq, and_self, true_and, and_true, p_39_10, p_39_11, p_39_12, p_39_15, p_39_18, p_39_19, q_39_20, p_39_23, p_39_26, p_39_27, p_39_28, p_39_32, p_39_35, p_39_37, p_39_38, p_39_39, p_39_40, p_39_41, p_39_42, p_39_43, p_39_44]
      rw [p_39_47, ih (s + 1) (by omega) (by omega), if_neg (show ¬ PX G r s = true by simp [PX, e])]
    · simp (disch := first | omega | ((simp (disch := omega) only [up_ne, up_eq, up_nj, gf_ne, gf_in, sa_ne, sa_eq]) <;> omega)) only [reduceIte, Bool.false_eq_true, if_pos, if_neg, up_ne, up_eq, up_nj, gf_ne, gf_in, sa_ne, sa_eq, and_self, true_and, and_true, p_39_10, p_39_11, p_39_12, p_39_15, p_39_18, p_39_19, q_39_20, p_39_23, p_39_26, p_39_27, p_39_28, p_39_32, p_39_35, p_39_37, p_39_38, p_39_39, p_39_40, p_39_41, p_39_42, p_39_43, p_39_44]
      rw [p_39_29 (d := d + 4) (c_isFault hO hX hr ⟨h0, by omega⟩ e (h15 s h0 (by omega)))]
      by_cases e2 : hldX G r s = true
      · simp (disch := first | omega | ((simp (disch := omega) only [up_ne, up_eq, up_nj, gf_ne, gf_in, sa_ne, sa_eq]) <;> omega)) only [reduceIte, Bool.false_eq_true, if_pos, if_neg, up_ne, up_eq, up_nj, gf_ne, gf_in, sa_ne, sa_eq, and_self, true_and, and_true, p_39_10, p_39_11, p_39_12, p_39_15, p_39_18, p_39_19, q_39_20, p_39_23, p_39_26, p_39_27, p_39_28, p_39_32, p_39_35, p_39_37, p_39_38, p_39_39, p_39_40, p_39_41, p_39_42, p_39_43, p_39_44, e2]
        have e3 : PX G r s = true := by simp [PX, e, e2]
        rw [if_pos e3, if_neg (by omega)]
      · simp (disch := first | omega | ((simp (disch := omega) only [up_ne, up_eq, up_nj, gf_ne, gf_in, sa_ne, sa_eq]) <;> omega)) only [reduceIte, Bool.false_eq_true, if_pos, if_neg, up_ne, up_eq, up_nj, gf_ne, gf_in, sa_ne, sa_eq, and_self, true_and, and_true, p_39_10, p_39_11, p_39_12, p_39_15, p_39_18, p_39_19, q_39_20, p_39_23, p_39_26, p_39_27, p_39_28, p_39_32, p_39_35, p_39_37, p_39_38, p_39_39, p_39_40, p_39_41, p_39_42, p_39_43, p_39_44, e2]
        have e3 : ¬ PX G r s = true := by simp [PX, e2]
        rw [p_39_47, ih (s + 1) (by omega) (by omega), if_neg e3]
theorem l_ff2 {d : Nat} {G : AG} {Q : Option AV → AG → Prop} (hO : HO G) (hX : XS G) (hn : 0 ≤ G 13 6 ∧ G 13 6 ≤ 6) (h15 : ∀ i : Int, 0 ≤ i → i < G 13 6 → G 15 i = i % G 13 5) : ∀ (m : Nat) (r : Int) (l2 : AV), 0 ≤ r → r + m = 8 → (Ends (d + 5) 39 2 [vR 13, vI r, l2] [] G Q ↔ Q (some (vI (ffr (PX G) (G 13 6).toNat m r))) G) := by
  intro m
  induction m with
  | zero =>
    intro r l2 h0 h1
    simp (disch := first | omega | ((simp (disch := omega) only [up_ne, up_eq, up_nj, gf_ne, gf_in, sa_ne, sa_eq]) <;> omega)) only [reduceIte, Bool.false_eq_true, if_pos, if_neg, up_ne, up_eq, up_nj, gf_ne, gf_in, sa_ne, sa_eq, and_self, true_and, and_true, p_39_2, p_39_3, p_39_5, p_39_8, p_39_9, p_39_50, p_39_56, p_39_57, ffr]
  | succ m ih =>
    intro r l2 h0 h1
    rw [ffr]
    simp (disch := first | omega | ((simp (disch := omega) only [up_ne, up_eq, up_nj, gf_ne, gf_in, sa_ne, sa_eq]) <;> omega)) only [reduceIte, Bool.false_eq_true, if_pos, if_neg, up_ne, up_eq, up_nj, gf_ne, gf_in, sa_ne, sa_eq, and_self, true_and, and_true, p_39_2, p_39_3, p_39_5, p_39_8, p_39_9]
    rw [l_ff1 hO hX ⟨h0, by omega⟩ hn h15 (G 13 6).toNat 0 (by omega) (by omega)]
    split
    · simp (disch := first | omega | ((simp (disch := omega) only [up_ne, up_eq, up_nj, gf_ne, gf_in, sa_ne, sa_eq]) <;> omega)) only [reduceIte, Bool.false_eq_true, if_pos, if_neg, up_ne, up_eq, up_nj, gf_ne, gf_in, sa_ne, sa_eq, and_self, true_and, and_true, p_39_50, p_39_56, p_39_57]
      rw [p_39_53, ih (r + 1) _ (by omega) (by omega)]
    · rfl
theorem c_firstFault {d : Nat} {G : AG} (hO : HO G) (hX : XS G) (hn : 0 ≤ G 13 6 ∧ G 13 6 ≤ 6) (h15 : ∀ i : Int, 0 ≤ i → i < G 13 6 → G 15 i = i % G 13 5) : Ret (d + 5) 39 [vR 13, vU, vU] G (some (vI (ffr (PX G) (G 13 6).toNat 8 0))) G := by
  unfold Ret
  simp (disch := first | omega | ((simp (disch := omega) only [up_ne, up_eq, up_nj, gf_ne, gf_in, sa_ne, sa_eq]) <;> omega)) only [reduceIte, Bool.false_eq_true, if_pos, if_neg, up_ne, up_eq, up_nj, gf_ne, gf_in, sa_ne, sa_eq, and_self, true_and, and_true, p_39_0, p_39_1r]
  rw [l_ff2 hO hX hn h15 8 0 _ (by omega) (by omega)]
  exact ⟨rfl, rfl⟩
theorem l_wr1 {d : Nat} {G : AG} {Q : Option AV → AG → Prop} {r n : Int} (hM : MO G) (hS : MS G) (hr : 0 ≤ r ∧ r < 8) (hn : 0 ≤ n ∧ n ≤ 6) (hN : G 54 10 * G 54 11 = n) : ∀ (m : Nat) (s : Int), 0 ≤ s → s + m = n → (Ends (d + 3) 88 15 [vR 54, vI r, vI s] [] G Q ↔ if ffs (PM G r) m s = -1 then Ends (d + 3) 88 57 [vR 54, vI r, vI n] [] G Q else Q (some (vI (10 * (r + 1) + ffs (PM G r) m s))) G) := by
  intro m
  induction m with
  | zero =>
    intro s h0 h1
    have e : s = n := by omega
    subst e
    simp (disch := first | omega | ((simp (disch := omega) only [up_ne, up_eq, up_nj, gf_ne, gf_in, sa_ne, sa_eq]) <;> omega)) only [reduceIte, Bool.false_eq_true, if_pos, if_neg, up_ne, up_eq, up_nj, gf_ne, gf_in, sa_ne, sa_eq, and_self, true_and, and_true, p_88_15, p_88_16, q_88_17, p_88_20, p_88_23, p_88_24, p_88_27, p_88_28, p_88_29, p_88_30, p_88_33, p_88_34, p_88_35, p_88_39, p_88_42, p_88_44, p_88_45, p_88_46, p_88_47, p_88_48, p_88_49, p_88_50, p_88_51, ffs]
  | succ m ih =>
    intro s h0 h1
    have b := hM s h0 (by omega)
    rw [ffs]
    by_cases e : G 61 s = -1
    · simp (disch := first | omega | ((simp (disch := omega) only [up_ne, up_eq, up_nj, gf_ne, gf_in, sa_ne, sa_eq]) <;> omega)) only [reduceIte, Bool.false_eq_true, if_pos, if_neg, up_ne, up_eq, up_nj, gf_ne, gf_in, sa_ne, sa_eq, and_self, true_and, and_true, p_88_15, p_88_16, q_88_17, p_88_20, p_88_23, p_88_24, p_88_27, p_88_28, p_88_29, p_88_30, p_88_33, p_88_34, p_88_35, p_88_39, p_88_42, p_88_44, p_88_45, p_88_46, p_88_47, p_88_48, p_88_49, p_88_50, p_88_51]
      rw [p_88_54, ih (s + 1) (by omega) (by omega), if_neg (show ¬ PM G r s = true by simp [PM, e])]
    · simp (disch := first | omega | ((simp (disch := omega) only [up_ne, up_eq, up_nj, gf_ne, gf_in, sa_ne, sa_eq]) <;> omega)) only [reduceIte, Bool.false_eq_true, if_pos, if_neg, up_ne, up_eq, up_nj, gf_ne, gf_in, sa_ne, sa_eq, and_self, true_and, and_true, p_88_15, p_88_16, q_88_17, p_88_20, p_88_23, p_88_24, p_88_27, p_88_28, p_88_29, p_88_30, p_88_33, p_88_34, p_88_35, p_88_39, p_88_42, p_88_44, p_88_45, p_88_46, p_88_47, p_88_48, p_88_49, p_88_50, p_88_51]
      rw [p_88_36 (d := d + 2) (c_holds hM hS hr ⟨h0, by omega⟩ e)]
      by_cases e2 : hldM G r s = true
      · simp (disch := first | omega | ((simp (disch := omega) only [up_ne, up_eq, up_nj, gf_ne, gf_in, sa_ne, sa_eq]) <;> omega)) only [reduceIte, Bool.false_eq_true, if_pos, if_neg, up_ne, up_eq, up_nj, gf_ne, gf_in, sa_ne, sa_eq, and_self, true_and, and_true, p_88_15, p_88_16, q_88_17, p_88_20, p_88_23, p_88_24, p_88_27, p_88_28, p_88_29, p_88_30, p_88_33, p_88_34, p_88_35, p_88_39, p_88_42, p_88_44, p_88_45, p_88_46, p_88_47, p_88_48, p_88_49, p_88_50, p_88_51, e2]
        have e3 : PM G r s = true := by simp [PM, e, e2]
        rw [if_pos e3, if_neg (by omega)]
      · simp (disch := first | omega | ((simp (disch := omega) only [up_ne, up_eq, up_nj, gf_ne, gf_in, sa_ne, sa_eq]) <;> omega)) only [reduceIte, Bool.false_eq_true, if_pos, if_neg, up_ne, up_eq, up_nj, gf_ne, gf_in, sa_ne, sa_eq, and_self, true_and, and_true, p_88_15, p_88_16, q_88_17, p_88_20, p_88_23, p_88_24, p_88_27, p_88_28, p_88_29, p_88_30, p_88_33, p_88_34, p_88_35, p_88_39, p_88_42, p_88_44, p_88_45, p_88_46, p_88_47, p_88_48, p_88_49, p_88_50, p_88_51, e2]
        have e3 : ¬ PM G r s = true := by simp [PM, e2]
        rw [p_88_54, ih (s + 1) (by omega) (by omega), if_neg e3]
theorem l_wr2 {d : Nat} {G : AG} {Q : Option AV → AG → Prop} {n : Int} (hM : MO G) (hS : MS G) (hn : 0 ≤ n ∧ n ≤ 6) (hN : G 54 10 * G 54 11 = n) : ∀ (m : Nat) (r : Int) (l2 : AV), 0 ≤ r → r + m = 8 → (Ends (d + 3) 88 7 [vR 54, vI r, l2] [] G Q ↔ Q (some (vI (ffr (PM G) n.toNat m r))) G) := by
  intro m
  induction m with
  | zero =>
    intro r l2 h0 h1
    simp (disch := first | omega | ((simp (disch := omega) only [up_ne, up_eq, up_nj, gf_ne, gf_in, sa_ne, sa_eq]) <;> omega)) only [reduceIte, Bool.false_eq_true, if_pos, if_neg, up_ne, up_eq, up_nj, gf_ne, gf_in, sa_ne, sa_eq, and_self, true_and, and_true, p_88_7, p_88_8, p_88_10, p_88_13, p_88_14, p_88_57, p_88_63, p_88_64, ffr]
  | succ m ih =>
    intro r l2 h0 h1
    rw [ffr]
    simp (disch := first | omega | ((simp (disch := omega) only [up_ne, up_eq, up_nj, gf_ne, gf_in, sa_ne, sa_eq]) <;> omega)) only [reduceIte, Bool.false_eq_true, if_pos, if_neg, up_ne, up_eq, up_nj, gf_ne, gf_in, sa_ne, sa_eq, and_self, true_and, and_true, p_88_7, p_88_8, p_88_10, p_88_13, p_88_14]
    rw [l_wr1 hM hS ⟨h0, by omega⟩ hn hN n.toNat 0 (by omega) (by omega)]
    split
    · simp (disch := first | omega | ((simp (disch := omega) only [up_ne, up_eq, up_nj, gf_ne, gf_in, sa_ne, sa_eq]) <;> omega)) only [reduceIte, Bool.false_eq_true, if_pos, if_neg, up_ne, up_eq, up_nj, gf_ne, gf_in, sa_ne, sa_eq, and_self, true_and, and_true, p_88_57, p_88_63, p_88_64]
      rw [p_88_60, ih (r + 1) _ (by omega) (by omega)]
    · rfl
/-- class and reference hold the same reasons -/
theorem hld_eq {G : AG} (hR : Rel G) {r s : Int} (hr : 0 ≤ r ∧ r < 8) (hs : 0 ≤ s ∧ s < G 13 6) (hw : G 14 s ≠ 36) : hldM G r s = hldX G r s := by
  obtain ⟨hm0, hm1, hm2, hm3, hm4, hm5, hm6⟩ := id hR.1
  obtain ⟨ha0, ha1, ha2, ha3, ha4, ha5, ha6⟩ := id hR.2.1
  obtain ⟨hp1, hp2, hp3, hp4, hp5, hp6, hp7, hp8, hp9, hp10⟩ := id hR.2.2.1
  have hsl := hR.2.2.1.slots
  have hO := hR.2.2.1.ho ha1 hm1
  have e2 : 0 ≤ s % G 13 5 := Int.emod_nonneg _ (by omega)
  have e4 : s % G 13 5 ≤ s := by
    have h1 := Int.emod_add_mul_ediv s (G 13 5)
    have h2 := Int.ediv_nonneg hs.1 (show 0 ≤ G 13 5 by omega)
    have h3 := Int.mul_nonneg (show 0 ≤ G 13 5 by omega) h2
    omega
  have hA : ∀ t : Int, 0 ≤ t → t < 6 → G 61 t = artX G t ∧ G 62 t = modX G t := by
    intro t q1 q2
    unfold artX modX
    rcases hp10 t q1 q2 with ⟨w1, w2, w3⟩ | ⟨w0, w1, w2, w3, w4, w5⟩
    · rw [if_pos w1, if_pos w1]
      exact ⟨w2, w3⟩
    · rw [if_neg (by omega), if_neg (by omega)]
      omega
  have hV : ∀ t : Int, 0 ≤ t → t < 6 → artX G t ≠ -1 → (0 ≤ artX G t ∧ artX G t < 6) ∧ (0 ≤ modX G t ∧ modX G t < 6) := by
    intro t q1 q2 q3
    have := artX_rng hO q1 q2
    have h3 := modX_rng hO q1 q2
    have h4 := (artX_ne hO q1 q2).mp q3
    have := this.2.2 h4
    have := h3.2.2 h4
    omega
  have ws := hV s hs.1 (by omega) ((artX_ne hO hs.1 (by omega)).mpr hw)
  have hn : ∀ m n : Int, 0 ≤ m → m < 6 → 0 ≤ n → n < 6 → nrM G m n = nrX G m n := by
    intro m n q1 q2 q3 q4
    unfold nrM nrX
    rw [hm5, (hm6 m q1 q2).1, (hm6 n q3 q4).1]
  unfold hldM hldX hld
  rw [hp8, (hA s hs.1 (by omega)).1, (hA s hs.1 (by omega)).2]
  rcases (show r = 0 ∨ r = 1 ∨ r = 2 ∨ r = 3 ∨ r = 4 ∨ r = 5 ∨ r = 6 ∨ r = 7 by omega) with rfl | rfl | rfl | rfl | rfl | rfl | rfl | rfl
  · simp (disch := first | omega | ((simp (disch := omega) only [up_ne, up_eq, up_nj, gf_ne, gf_in, sa_ne, sa_eq]) <;> omega)) only [reduceIte, Bool.false_eq_true, if_pos, if_neg, up_ne, up_eq, up_nj, gf_ne, gf_in, sa_ne, sa_eq, and_self, true_and, and_true]
    rw [(ha5 _ ws.1.1 ws.1.2).2.2.2.1]
    cases tb (G 3 3) (artX G s) <;> rfl
  · simp (disch := first | omega | ((simp (disch := omega) only [up_ne, up_eq, up_nj, gf_ne, gf_in, sa_ne, sa_eq]) <;> omega)) only [reduceIte, Bool.false_eq_true, if_pos, if_neg, up_ne, up_eq, up_nj, gf_ne, gf_in, sa_ne, sa_eq, and_self, true_and, and_true]
    exact any_cong _ _ (fun k q1 q2 => by rw [(hA k q1 (by omega)).1])
  · simp (disch := first | omega | ((simp (disch := omega) only [up_ne, up_eq, up_nj, gf_ne, gf_in, sa_ne, sa_eq]) <;> omega)) only [reduceIte, Bool.false_eq_true, if_pos, if_neg, up_ne, up_eq, up_nj, gf_ne, gf_in, sa_ne, sa_eq, and_self, true_and, and_true]
    simp only [(ha6 _ _ ws.1.1 ws.1.2 ws.2.1 ws.2.2).1]
  · simp (disch := first | omega | ((simp (disch := omega) only [up_ne, up_eq, up_nj, gf_ne, gf_in, sa_ne, sa_eq]) <;> omega)) only [reduceIte, Bool.false_eq_true, if_pos, if_neg, up_ne, up_eq, up_nj, gf_ne, gf_in, sa_ne, sa_eq, and_self, true_and, and_true]
    rw [(hm6 _ ws.2.1 ws.2.2).2.2.2.1]
  · simp (disch := first | omega | ((simp (disch := omega) only [up_ne, up_eq, up_nj, gf_ne, gf_in, sa_ne, sa_eq]) <;> omega)) only [reduceIte, Bool.false_eq_true, if_pos, if_neg, up_ne, up_eq, up_nj, gf_ne, gf_in, sa_ne, sa_eq, and_self, true_and, and_true]
    exact any_cong _ _ (fun k q1 q2 => by rw [(hA k (by omega) (by omega)).1, (hA k (by omega) (by omega)).2])
  · simp (disch := first | omega | ((simp (disch := omega) only [up_ne, up_eq, up_nj, gf_ne, gf_in, sa_ne, sa_eq]) <;> omega)) only [reduceIte, Bool.false_eq_true, if_pos, if_neg, up_ne, up_eq, up_nj, gf_ne, gf_in, sa_ne, sa_eq, and_self, true_and, and_true]
    refine any_cong _ _ (fun k q1 q2 => ?_)
    rw [(hA k (by omega) (by omega)).1, (ha5 _ ws.1.1 ws.1.2).1]
    by_cases e : artX G k = -1
    · simp [e]
    · have wk := hV k (by omega) (by omega) e
      rw [(ha5 _ wk.1.1 wk.1.2).1]
  · simp (disch := first | omega | ((simp (disch := omega) only [up_ne, up_eq, up_nj, gf_ne, gf_in, sa_ne, sa_eq]) <;> omega)) only [reduceIte, Bool.false_eq_true, if_pos, if_neg, up_ne, up_eq, up_nj, gf_ne, gf_in, sa_ne, sa_eq, and_self, true_and, and_true]
    refine any_cong _ _ (fun k q1 q2 => ?_)
    rw [(hA k (by omega) (by omega)).1]
    by_cases e : artX G k = -1
    · simp [e]
    · have wk := hV k (by omega) (by omega) e
      have h6 := ha6 _ _ wk.1.1 wk.1.2 ws.1.1 ws.1.2
      rw [h6.2.2.2.2.1, h6.2.2.2.2.2]
      cases tb (G 5 (artX G s)) (artX G k) <;> rfl
  · simp (disch := first | omega | ((simp (disch := omega) only [up_ne, up_eq, up_nj, gf_ne, gf_in, sa_ne, sa_eq]) <;> omega)) only [reduceIte, Bool.false_eq_true, if_pos, if_neg, up_ne, up_eq, up_nj, gf_ne, gf_in, sa_ne, sa_eq, and_self, true_and, and_true]
    refine down_cong _ _ (fun k q1 q2 => ?_)
    rw [(hA k (by omega) (by omega)).1, (hA k (by omega) (by omega)).2]
    refine ⟨rfl, fun e => ?_⟩
    have wk := hV k (by omega) (by omega) (of_decide_eq_true e)
    exact hn _ _ wk.2.1 wk.2.2 ws.2.1 ws.2.2
theorem pair_wrong {G : AG} (hR : Rel G) : Pair 55 88 [] [vU, vU] G := by
  obtain ⟨hm0, hm1, hm2, hm3, hm4, hm5, hm6⟩ := id hR.1
  obtain ⟨ha0, ha1, ha2, ha3, ha4, ha5, ha6⟩ := id hR.2.1
  obtain ⟨hp1, hp2, hp3, hp4, hp5, hp6, hp7, hp8, hp9, hp10⟩ := id hR.2.2.1
  have hs := hR.2.2.1.slots
  have hR' := hR.thrown 0
  have hO := hR.2.2.1.ho ha1 hm1
  have hM := hR'.2.2.1.mo (by simp (disch := omega) only [up_ne, up_eq, up_nj, gf_ne, gf_in, sa_ne, sa_eq]; exact ha1) (by simp (disch := omega) only [up_ne, up_eq, up_nj, gf_ne, gf_in, sa_ne, sa_eq]; exact hm1)
  refine ⟨some (vI (ffr (PX G) (G 13 6).toNat 8 0)), G, am_up G 54 25 0, ?_, ?_, hR', up_eq rfl rfl⟩
  · unfold Ret
    simp (disch := first | omega | ((simp (disch := omega) only [up_ne, up_eq, up_nj, gf_ne, gf_in, sa_ne, sa_eq]) <;> omega)) only [reduceIte, Bool.false_eq_true, if_pos, if_neg, up_ne, up_eq, up_nj, gf_ne, gf_in, sa_ne, sa_eq, and_self, true_and, and_true, p_55_0, p_55_1, p_55_7]
    rw [p_55_4 (c_firstFault (d := 24) hO hR.xs (by omega) hp9)]
    simp (disch := first | omega | ((simp (disch := omega) only [up_ne, up_eq, up_nj, gf_ne, gf_in, sa_ne, sa_eq]) <;> omega)) only [reduceIte, Bool.false_eq_true, if_pos, if_neg, up_ne, up_eq, up_nj, gf_ne, gf_in, sa_ne, sa_eq, and_self, true_and, and_true, p_55_0, p_55_1, p_55_7]
  · unfold Ret
    simp (disch := first | omega | ((simp (disch := omega) only [up_ne, up_eq, up_nj, gf_ne, gf_in, sa_ne, sa_eq]) <;> omega)) only [reduceIte, Bool.false_eq_true, if_pos, if_neg, up_ne, up_eq, up_nj, gf_ne, gf_in, sa_ne, sa_eq, and_self, true_and, and_true, p_88_0, p_88_1, p_88_2, p_88_5, p_88_6r]
    rw [l_wr2 hM hR'.ms (show 0 ≤ G 13 6 ∧ G 13 6 ≤ 6 by omega) (by simp (disch := omega) only [up_ne, up_eq, up_nj, gf_ne, gf_in, sa_ne, sa_eq]; exact hs.2.2) 8 0 _ (by omega) (by omega)]
    refine ⟨?_, rfl⟩
    congr 2
    refine ffr_cong _ _ (fun q k q1 q2 q3 q4 => ?_)
    have e1 : hldM (am_up G 54 25 0) q k = hldM G q k := by
      unfold hldM nrM
      rw [am_up_ne G 54 25 0 61 (by decide), am_up_ne G 54 25 0 62 (by decide), am_up_ne G 54 25 0 58 (by decide), am_up_ne G 54 25 0 59 (by decide), am_up_ne G 54 25 0 56 (by decide), am_up_ne G 54 25 0 57 (by decide), am_up_ne G 54 25 0 60 (by decide), am_up_ne G 54 25 0 55 (by decide)]
      simp (disch := omega) only [up_ne, up_eq, up_nj, gf_ne, gf_in, sa_ne, sa_eq]
    unfold PM PX
    rw [e1]
    simp (disch := omega) only [up_ne, up_eq, up_nj, gf_ne, gf_in, sa_ne, sa_eq]
    have w := hp10 k q3 (by omega)
    by_cases e : G 14 k = 36
    · have : G 61 k = -1 := by omega
      simp [e, this]
    · have : G 61 k ≠ -1 := by omega
      rw [hld_eq hR ⟨q1, by omega⟩ ⟨q3, by omega⟩ e]
      simp [e, this]
