/-! the reference's search of an evening -/
def gfr (G : AG) (s : Int) : Nat → Int → Bool
  | 0, _ => true
  | m + 1, r => (decide (r = 1) || !hldM G r s) && gfr G s m (r + 1)
theorem gfr_good (G : AG) (s : Int) : gfr G s 8 0 = good G s := by
  unfold good
  simp only [gfr, Int.reduceAdd, Int.reduceEq, decide_false, decide_true, Bool.false_or, Bool.true_or, Bool.true_and, Bool.and_true]
  cases hldM G 0 s <;> cases hldM G 2 s <;> cases hldM G 3 s <;> cases hldM G 4 s <;> cases hldM G 5 s <;> cases hldM G 6 s <;> cases hldM G 7 s <;> rfl
theorem l_reas {d : Nat} {G : AG} {Q : Option AV → AG → Prop} {e h set sum near s a m : Int} (hM : MO G) (hS : MS G) (hs : 0 ≤ s ∧ s < 6) (hw : G 61 s ≠ -1) : ∀ (n : Nat) (r : Int), 0 ≤ r → r + n = 8 → (∀ r' : Int, Ends (d + 3) 89 222 [vR 54, vI e, vI h, vI set, vI sum, vI near, vI s, vI a, vI m, vI (if gfr G s n r = true then 1 else 0), vI r'] [] G Q) → Ends (d + 3) 89 180 [vR 54, vI e, vI h, vI set, vI sum, vI near, vI s, vI a, vI m, vI 1, vI r] [] G Q := by
  intro n
  induction n with
  | zero =>
    intro r h0 h1 K
    simp (disch := first | omega | ((simp (disch := omega) only [up_ne, up_eq, up_nj, gf_ne, gf_in, sa_ne, sa_eq]) <;> omega)) only [reduceIte, Bool.false_eq_true, if_pos, if_neg, up_ne, up_eq, up_nj, gf_ne, gf_in, sa_ne, sa_eq, and_self, true_and, and_true, p_89_180, p_89_182, p_89_184, p_89_187, p_89_189, p_89_192, p_89_194, p_89_195, p_89_198, p_89_199, p_89_201, p_89_206, p_89_209, p_89_210, p_89_213, p_89_214, p_89_216]
    exact K r
  | succ n ih =>
    intro r h0 h1 K
    by_cases e1 : r = 1
    · subst e1
      simp (disch := first | omega | ((simp (disch := omega) only [up_ne, up_eq, up_nj, gf_ne, gf_in, sa_ne, sa_eq]) <;> omega)) only [reduceIte, Bool.false_eq_true, if_pos, if_neg, up_ne, up_eq, up_nj, gf_ne, gf_in, sa_ne, sa_eq, and_self, true_and, and_true, p_89_180, p_89_182, p_89_184, p_89_187, p_89_189, p_89_192, p_89_194, p_89_195, p_89_198, p_89_199, p_89_201, p_89_206, p_89_209, p_89_210, p_89_213, p_89_214, p_89_216]
      rw [p_89_219]
      refine ih _ (by omega) (by omega) (fun r' => ?_)
      have := K r'
      rw [gfr] at this
      simpa using this
    · simp (disch := first | omega | ((simp (disch := omega) only [up_ne, up_eq, up_nj, gf_ne, gf_in, sa_ne, sa_eq]) <;> omega)) only [reduceIte, Bool.false_eq_true, if_pos, if_neg, up_ne, up_eq, up_nj, gf_ne, gf_in, sa_ne, sa_eq, and_self, true_and, and_true, p_89_180, p_89_182, p_89_184, p_89_187, p_89_189, p_89_192, p_89_194, p_89_195, p_89_198, p_89_199, p_89_201, p_89_206, p_89_209, p_89_210, p_89_213, p_89_214, p_89_216]
      rw [p_89_203 (d := d + 2) (c_holds hM hS ⟨h0, by omega⟩ hs hw)]
      by_cases e2 : hldM G r s = true
      · have eg : gfr G s (n + 1) r = false := by
          rw [gfr, e2]
          simp [e1]
        rw [eg] at K
        simp (disch := first | omega | ((simp (disch := omega) only [up_ne, up_eq, up_nj, gf_ne, gf_in, sa_ne, sa_eq]) <;> omega)) only [reduceIte, Bool.false_eq_true, if_pos, if_neg, up_ne, up_eq, up_nj, gf_ne, gf_in, sa_ne, sa_eq, and_self, true_and, and_true, p_89_206, p_89_209, p_89_210, p_89_213, p_89_214, p_89_216, e2]
        rw [p_89_219]
        by_cases e3 : 8 ≤ r + 1
        · simp (disch := first | omega | ((simp (disch := omega) only [up_ne, up_eq, up_nj, gf_ne, gf_in, sa_ne, sa_eq]) <;> omega)) only [reduceIte, Bool.false_eq_true, if_pos, if_neg, up_ne, up_eq, up_nj, gf_ne, gf_in, sa_ne, sa_eq, and_self, true_and, and_true, p_89_180, p_89_182, p_89_184, p_89_187, p_89_189]
          exact K (r + 1)
        · simp (disch := first | omega | ((simp (disch := omega) only [up_ne, up_eq, up_nj, gf_ne, gf_in, sa_ne, sa_eq]) <;> omega)) only [reduceIte, Bool.false_eq_true, if_pos, if_neg, up_ne, up_eq, up_nj, gf_ne, gf_in, sa_ne, sa_eq, and_self, true_and, and_true, p_89_180, p_89_182, p_89_184, p_89_187, p_89_189]
          exact K (r + 1)
      · simp (disch := first | omega | ((simp (disch := omega) only [up_ne, up_eq, up_nj, gf_ne, gf_in, sa_ne, sa_eq]) <;> omega)) only [reduceIte, Bool.false_eq_true, if_pos, if_neg, up_ne, up_eq, up_nj, gf_ne, gf_in, sa_ne, sa_eq, and_self, true_and, and_true, p_89_206, p_89_209, p_89_210, p_89_213, p_89_214, p_89_216, e2]
        rw [p_89_219]
        refine ih _ (by omega) (by omega) (fun r' => ?_)
        have := K r'
        rw [gfr] at this
        simpa [e1, e2] using this
/-- the option at hour i -/
def hrO : List Int → Int → Int
  | [], _ => 36
  | q :: p, i => if i = p.length then q else hrO p i
theorem hrO_pw {A M : Int → Int} {fs : Int} : ∀ {p : List Int}, PW A M fs p → ∀ i : Int, 0 ≤ i → i < p.length → A (fs + i) = aO (hrO p i) ∧ M (fs + i) = mO (hrO p i)
  | [], _, i, h0, h1 => by simp at h1; omega
  | q :: p, h, i, h0, h1 => by
    simp only [List.length_cons] at h1
    rw [hrO]
    by_cases e : i = p.length
    · rw [if_pos e, e]
      exact ⟨h.1, h.2.1⟩
    · rw [if_neg e]
      exact hrO_pw h.2.2 i h0 (by omega)
abbrev T3 : Type := (Int → Int) × (Int → Int) × (Int → Int)
def swP (G : AG) (cost fs : Int) : List Int → Int
  | [] => 0
  | q :: p => swP G cost fs p + wvX G cost (fs + p.length) q
def cpP (b : Int → Int) (f : Int → Int) (k : Int) (p : List Int) : Int → Int := fun j => if k ≤ j ∧ j < k + p.length then f (hrO p (j - k)) else b j
def stM (G0 : AG) (cost e fs : Int) (x : T3) (p : List Int) : T3 :=
  if x.1 (64 * e + cmpP p) < swP G0 cost fs p then (fun j => if j = 64 * e + cmpP p then swP G0 cost fs p else x.1 j, cpP x.2.1 aO (3 * (64 * e + cmpP p)) p, cpP x.2.2 mO (3 * (64 * e + cmpP p)) p) else x
def enM (G0 GT : AG) (cost z0 e fs : Int) : Nat → List Int → T3 → T3
  | 0, p, x => stM G0 cost e fs x p
  | k + 1, p, x => enM G0 GT cost z0 e fs k (36 :: p) ((chs G0 p.length).foldl (fun x o => if okX GT z0 p o = true then enM G0 GT cost z0 e fs k (o :: p) x else x) x)
/-- the leaf's copying -/
theorem l_cp {d : Nat} {Q : Option AV → AG → Prop} {e set sum near k : Int} {p : List Int} {G1 : AG} {bw bt : Int → Int} (he : 0 ≤ e ∧ e < 3) (hk : 0 ≤ k ∧ k < 192) (hS : 1 ≤ G1 54 11 ∧ G1 54 11 ≤ 3) (hes : e * G1 54 11 + G1 54 11 ≤ 6) (hes0 : 0 ≤ e * G1 54 11) (hlen : (p.length : Int) = G1 54 11) (hW : PW (G1 61) (G1 62) (e * G1 54 11) p)
    (K : ∀ G' : AG, (∀ b : Nat, b ≠ 75 → b ≠ 76 → G' b = G1 b) → G' 75 = cpP bw aO (3 * k) p → G' 76 = cpP bt mO (3 * k) p → Q none G') :
    ∀ (m : Nat) (i : Int) (G : AG) (l8 l9 l10 : AV), 0 ≤ i → i + m = G1 54 11 → (∀ b : Nat, b ≠ 75 → b ≠ 76 → G b = G1 b) → (G 75 = fun j => if 3 * k ≤ j ∧ j < 3 * k + i then aO (hrO p (j - 3 * k)) else bw j) → (G 76 = fun j => if 3 * k ≤ j ∧ j < 3 * k + i then mO (hrO p (j - 3 * k)) else bt j) → Ends d 89 41 [vR 54, vI e, vI (G1 54 11), vI set, vI sum, vI near, vI k, vI i, l8, l9, l10] [] G Q := by
  intro m
  induction m with
  | zero =>
    intro i G l8 l9 l10 h0 h1 hE h75 h76
    have ei : i = p.length := by omega
    have e11 : G 54 11 = G1 54 11 := by rw [hE 54 (by decide) (by decide)]
    simp (disch := first | omega | ((simp (disch := omega) only [up_ne, up_eq, up_nj, gf_ne, gf_in, sa_ne, sa_eq]) <;> omega)) only [reduceIte, Bool.false_eq_true, if_pos, if_neg, up_ne, up_eq, up_nj, gf_ne, gf_in, sa_ne, sa_eq, and_self, true_and, and_true, p_89_41, p_89_43, p_89_44, p_89_47, p_89_50, p_89_51, p_89_54, p_89_55, p_89_57, p_89_58, p_89_60, p_89_61, p_89_62, p_89_65, p_89_66, p_89_69, p_89_70, p_89_71, p_89_73, p_89_74, p_89_75, p_89_76, p_89_77, p_89_80, p_89_81, p_89_83, p_89_84, p_89_86, p_89_87, p_89_88, p_89_91, p_89_92, p_89_95, p_89_96, p_89_97, p_89_99, p_89_100, p_89_101, p_89_102, p_89_108, e11]
    refine K G hE ?_ ?_
    · rw [h75, ei]; rfl
    · rw [h76, ei]; rfl
  | succ m ih =>
    intro i G l8 l9 l10 h0 h1 hE h75 h76
    have e11 : G 54 11 = G1 54 11 := by rw [hE 54 (by decide) (by decide)]
    have hm : G1 54 11 * e = e * G1 54 11 := Int.mul_comm _ _
    have hr := hrO_pw hW i h0 (by omega)
    have e61 : G 61 (e * G1 54 11 + i) = aO (hrO p i) := by rw [hE 61 (by decide) (by decide)]; exact hr.1
    have e62 : G 62 (e * G1 54 11 + i) = mO (hrO p i) := by rw [hE 62 (by decide) (by decide)]; exact hr.2
    simp (disch := first | omega | ((simp (disch := omega) only [up_ne, up_eq, up_nj, gf_ne, gf_in, sa_ne, sa_eq]) <;> omega)) only [reduceIte, Bool.false_eq_true, if_pos, if_neg, up_ne, up_eq, up_nj, gf_ne, gf_in, sa_ne, sa_eq, and_self, true_and, and_true, p_89_41, p_89_43, p_89_44, p_89_47, p_89_50, p_89_51, p_89_54, p_89_55, p_89_57, p_89_58, p_89_60, p_89_61, p_89_62, p_89_65, p_89_66, p_89_69, p_89_70, p_89_71, p_89_73, p_89_74, p_89_75, p_89_76, p_89_77, p_89_80, p_89_81, p_89_83, p_89_84, p_89_86, p_89_87, p_89_88, p_89_91, p_89_92, p_89_95, p_89_96, p_89_97, p_89_99, p_89_100, p_89_101, p_89_102, p_89_108, e11, hm, e61, e62]
    rw [p_89_105]
    refine ih (i + 1) _ _ _ _ (by omega) (by omega) (fun b q1 q2 => by rw [am_up_ne _ _ _ _ _ q2, am_up_ne _ _ _ _ _ q1, hE b q1 q2]) ?_ ?_
    · funext j
      rw [up_ne (by decide)]
      by_cases u : j = 3 * k + i
      · rw [up_eq rfl u, if_pos (by omega), show j - 3 * k = i by omega]
      · rw [up_nj u, h75]
        dsimp only
        by_cases w : 3 * k ≤ j ∧ j < 3 * k + i
        · rw [if_pos w, if_pos (by omega)]
        · rw [if_neg w, if_neg (by omega)]
    · funext j
      by_cases u : j = 3 * k + i
      · rw [up_eq rfl u, if_pos (by omega), show j - 3 * k = i by omega]
      · rw [up_nj u, up_ne (by decide), h76]
        dsimp only
        by_cases w : 3 * k ≤ j ∧ j < 3 * k + i
        · rw [if_pos w, if_pos (by omega)]
        · rw [if_neg w, if_neg (by omega)]
