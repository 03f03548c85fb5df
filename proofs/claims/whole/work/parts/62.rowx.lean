/-! the class's row, the whole -/
def gt : List Int → Int → Int
  | [], _ => 0
  | d :: l, j => if j = 0 then d else gt l (j - 1)
theorem gt_app {d : Int} : ∀ (l : List Int) (j : Int), 0 ≤ j → j ≤ l.length → gt (l ++ [d]) j = if j = l.length then d else gt l j
  | [], j, h0, h1 => by
    simp at h1
    have e : j = 0 := by omega
    rw [e]
    rfl
  | x :: l, j, h0, h1 => by
    rw [List.cons_append, gt, gt, List.length_cons]
    rw [List.length_cons] at h1
    by_cases u : j = 0
    · rw [if_pos u, if_pos u, if_neg (by omega)]
    · rw [if_neg u, if_neg u, gt_app l (j - 1) (by omega) (by omega)]
      by_cases v : j - 1 = l.length
      · rw [if_pos v, if_pos (by omega)]
      · rw [if_neg v, if_neg (by omega)]
theorem snoc_ex : ∀ (l : List Int) (k : Nat), l.length = k + 1 → ∃ (l' : List Int) (d : Int), l = l' ++ [d] ∧ l'.length = k
  | [], k, h => by simp at h
  | [x], k, h => ⟨[], x, rfl, by simp at h; simp [h]⟩
  | x :: y :: l, k, h => by
    obtain ⟨l', d, e1, e2⟩ := snoc_ex (y :: l) (k - 1) (by simp at h ⊢; omega)
    refine ⟨x :: l', d, by rw [e1, List.cons_append], ?_⟩
    simp at h ⊢
    omega
theorem nm_snoc {d : Int} : ∀ (l : List Int) (a : Int), nm a (l ++ [d]) = 10 * nm a l + d
  | [], a => rfl
  | x :: l, a => by rw [List.cons_append, nm, nm, nm_snoc l]
theorem l_wl {d : Nat} {Q : Option AV → AG → Prop} {w : Int} : ∀ (k : Nat) (l : List Int) (G : AG), l.length = k → k ≤ 10 → (∀ x ∈ l, 0 ≤ x ∧ x < 10) →
    (∀ G' : AG, (∀ b : Nat, b ≠ 39 → G' b = G b) → (∀ j : Int, 0 ≤ j → j < k → G' 39 j = gt l j) → (∀ j : Int, k ≤ j → G' 39 j = G 39 j) → Q none G') → Ends d 22 22 [vR 33, vI w, vL (nm 0 l), vU, vI ((k : Int) - 1)] [] G Q := by
  intro k
  induction k with
  | zero =>
    intro l G hl hk hd K
    simp (disch := first | omega | ((simp (disch := omega) only [up_ne, up_eq, up_nj, gf_ne, gf_in, sa_ne, sa_eq]) <;> omega)) only [reduceIte, Bool.false_eq_true, if_pos, if_neg, up_ne, up_eq, up_nj, gf_ne, gf_in, sa_ne, sa_eq, and_self, true_and, and_true, p_22_22, p_22_24, p_22_52]
    exact K G (fun _ _ => rfl) (fun j q1 q2 => by omega) (fun _ _ => rfl)
  | succ k ih =>
    intro l G hl hk hd K
    obtain ⟨l', x, e1, e2⟩ := snoc_ex l k hl
    have hx := hd x (by rw [e1]; simp)
    have hd' : ∀ y ∈ l', 0 ≤ y ∧ y < 10 := fun y hy => hd y (by rw [e1]; simp [hy])
    have hr := nm_rng l' 0 1 (by omega) (by omega) hd'
    have hten : 10 ^ l'.length ≤ 10 ^ 10 := Nat.pow_le_pow_right (by decide) (by omega)
    have hih := ih l' (am_up G 39 k x) e2 (by omega) hd' (fun G' q1 q2 q3 => K G' (fun b hb => by rw [q1 b hb, am_up_ne _ _ _ _ _ hb]) (fun j r1 r2 => by
      rw [e1, gt_app l' j r1 (by omega)]
      by_cases u : j = l'.length
      · rw [if_pos u, q3 j (by omega), up_eq rfl (by omega)]
      · rw [if_neg u]
        exact q2 j r1 (by omega)) (fun j r1 => by rw [q3 j (by omega), up_nj (by omega)]))
    rw [e1, nm_snoc]
    clear ih K hd hd' e1
    generalize nm 0 l' = N at *
    generalize 10 ^ l'.length = T at *
    rw [show ((k + 1 : Nat) : Int) - 1 = (k : Int) by omega]
    simp (disch := first | omega | ((simp (disch := omega) only [up_ne, up_eq, up_nj, gf_ne, gf_in, sa_ne, sa_eq]) <;> omega)) only [reduceIte, Bool.false_eq_true, if_pos, if_neg, up_ne, up_eq, up_nj, gf_ne, gf_in, sa_ne, sa_eq, and_self, true_and, and_true, p_22_22, p_22_24, p_22_27, p_22_28, p_22_31, p_22_33, p_22_34, p_22_37, p_22_38, p_22_39, p_22_40, p_22_41, p_22_44, p_22_45, p_22_46]
    rw [p_22_49, show (10 * N + x) % 10 = x by omega, show (10 * N + x) / 10 = N by omega, show (k : Int) + (-1) = (k : Int) - 1 by omega]
    exact hih
theorem c_wl {d : Nat} {Q : Option AV → AG → Prop} {n w : Int} {fo : Int → Int → Bool} {F fw : Int → Int} {rd : Int → Bool} {G : AG} (h : EN n fo F fw) (hN : G 33 9 = n) (h40 : ∀ x : Int, 0 ≤ x → x ≤ w → sub rd x → G 40 x = F x) (h38 : ∀ p : Int, 0 ≤ p → p < n → G 38 p = fw p) (hw : 1 ≤ w ∧ w < (2 ^ n.toNat : Nat)) (hF : F w ≠ 0) (hsub : sub rd w)
    (K : ∀ G' : AG, (∀ b : Nat, b ≠ 33 → b ≠ 39 → G' b = G b) → (∀ j : Int, j ≠ 11 → G' 33 j = G 33 j) → G' 33 11 = (n_bc w.toNat : Int) → (∀ j : Int, 0 ≤ j → j < n_bc w.toNat → G' 39 j = gt (rowOf F fw w) j) → Q none G') :
    Ends (d + 2) 22 0 [vR 33, vI w, vU, vU, vU] [] G Q := by
  have hn : 0 ≤ n ∧ n ≤ 10 := ⟨h.1, h.2.1⟩
  have hp : 2 ^ n.toNat ≤ 2 ^ 10 := Nat.pow_le_pow_right (by decide) (by omega)
  have hbl := bc_le hn (w := w) (by omega)
  obtain ⟨w1, -, w2, -⟩ := bc_of (w := w) (by omega)
  have r1 := c_fr (d := d) (G := am_up G 33 11 (n_bc w.toNat : Int)) h (by rw [up_nj (by decide), hN]) (fun x q1 q2 q3 => by rw [up_ne (by decide), h40 x q1 q2 q3]) (fun p q1 q2 => by rw [up_ne (by decide), h38 p q1 q2]) (w := w) (by omega) hF hsub hbl
  have hd := rws_dig h (n_bc w.toNat) w (F w) (gw_first h (by omega) hF) rfl
  have hll := rws_len (F := F) (fw := fw) (n_bc w.toNat) w (F w)
  have hwl := l_wl (d := d + 2) (Q := Q) (w := w) (n_bc w.toNat) (rowOf F fw w) (am_up G 33 11 (n_bc w.toNat : Int)) hll (by omega) (fun x hx => by have := hd x hx; omega) (fun G' q1 q2 q3 => K G' (fun b b1 b2 => by rw [q1 b b2, am_up_ne _ _ _ _ _ b1]) (fun j hj => by rw [q1 33 (by decide), up_nj hj]) (by rw [q1 33 (by decide), up_eq rfl rfl]) q2)
  clear h40 h38 hd K
  simp (disch := first | omega | ((simp (disch := omega) only [up_ne, up_eq, up_nj, gf_ne, gf_in, sa_ne, sa_eq]) <;> omega)) only [reduceIte, Bool.false_eq_true, if_pos, if_neg, up_ne, up_eq, up_nj, gf_ne, gf_in, sa_ne, sa_eq, and_self, true_and, and_true, p_22_0, p_22_1, q_22_2, p_22_5, p_22_8, p_22_9, w1]
  rw [p_22_10 (d := d + 1) r1]
  simp (disch := first | omega | ((simp (disch := omega) only [up_ne, up_eq, up_nj, gf_ne, gf_in, sa_ne, sa_eq]) <;> omega)) only [reduceIte, Bool.false_eq_true, if_pos, if_neg, up_ne, up_eq, up_nj, gf_ne, gf_in, sa_ne, sa_eq, and_self, true_and, and_true, p_22_13, p_22_14, p_22_15, p_22_18, p_22_19, p_22_20, p_22_20r, p_22_20u]
  exact hwl
theorem fn_andn {a b : Nat} (ha : a < 1024) (hb : b < 1024) : f_and a (f_xor b (-1)) = ((a &&& (b ^^^ 1023) : Nat) : Int) := by
  refine i32_toInt _ _ ?_ (Nat.lt_of_le_of_lt Nat.and_le_left (by omega))
  rw [f_xor, am_i_t, Int32.toBitVec_and, Int32.toBitVec_xor, am_i_nat, am_i_nat]
  apply Nat.eq_of_testBit_eq
  intro j
  rw [BitVec.toNat_and, BitVec.toNat_xor, BitVec.toNat_ofNat, BitVec.toNat_ofNat, Nat.mod_eq_of_lt (by omega), Nat.mod_eq_of_lt (by omega)]
  have e1 : (am_i (-1)).toBitVec.toNat = 2 ^ 32 - 1 := rfl
  have e2 : (1023 : Nat) = 2 ^ 10 - 1 := rfl
  rw [e1, e2, Nat.testBit_and, Nat.testBit_and, Nat.testBit_xor, Nat.testBit_xor, Nat.testBit_two_pow_sub_one, Nat.testBit_two_pow_sub_one]
  by_cases hj : j < 10
  · rw [decide_eq_true hj, decide_eq_true (show j < 32 by omega)]
  · have h2 : a.testBit j = false := Nat.testBit_lt_two_pow (Nat.lt_of_lt_of_le ha (by
      have : 2 ^ 10 ≤ 2 ^ j := Nat.pow_le_pow_right (by decide) (by omega)
      omega))
    rw [h2, Bool.false_and, Bool.false_and]
theorem fi_andn {w R : Int} (hw : 0 ≤ w ∧ w < 1024) (hR : 0 ≤ R ∧ R < 1024) : (0 ≤ f_and w (f_xor R (-1)) ∧ f_and w (f_xor R (-1)) < 1024) ∧ (f_and w (f_xor R (-1)) = 0 ↔ sub (tb R) w) := by
  have e : f_and w (f_xor R (-1)) = ((w.toNat &&& (R.toNat ^^^ 1023) : Nat) : Int) := by
    conv => lhs; rw [fi_nat hw.1, fi_nat hR.1]
    exact fn_andn (by omega) (by omega)
  have hle := @Nat.and_le_left w.toNat (R.toNat ^^^ 1023)
  have hb : ∀ j : Int, 0 ≤ j → j < 10 → tb (f_and w (f_xor R (-1))) j = (tb w j && !tb R j) := by
    intro j q1 q2
    rw [e]
    unfold tb
    rw [Int.toNat_natCast, Nat.testBit_and, Nat.testBit_xor, show (1023 : Nat) = 2 ^ 10 - 1 from rfl, Nat.testBit_two_pow_sub_one, decide_eq_true (by omega), Bool.xor_true]
  have hr : 0 ≤ f_and w (f_xor R (-1)) ∧ f_and w (f_xor R (-1)) < 1024 := by rw [e]; omega
  refine ⟨hr, fun h p q1 q2 q3 => ?_, fun h => ?_⟩
  · have h1 := hb p q1 q2
    rw [h, tb_zero, q3, Bool.true_and] at h1
    simpa using h1.symm
  · refine tb_ext10 hr ⟨by omega, by omega⟩ (fun j q1 q2 => ?_)
    rw [hb j q1 q2, tb_zero]
    cases u : tb w j
    · rfl
    · rw [h j q1 q2 u]
      rfl
theorem sub_any {n R w : Int} {P : Int → Bool} (hn : 0 ≤ n ∧ n ≤ 10) (hR : bx n P R) (hw : 0 ≤ w ∧ w < (2 ^ n.toNat : Nat)) : any (fun p => tb w p && !P p) n.toNat 0 = false ↔ sub (tb R) w := by
  constructor
  · intro h p q1 q2 q3
    have hp : p < n := by
      by_cases u : p < n
      · exact u
      · rw [tb_hi hw.1 hw.2 (by omega)] at q3
        cases q3
    rw [hR.2.2 p q1 q2, decide_eq_true hp, Bool.true_and]
    cases u : P p
    · exfalso
      have : any (fun p => tb w p && !P p) n.toNat 0 = true := (any_iff _ _).mpr ⟨p, q1, by omega, by show (tb w p && !P p) = true; rw [q3, u]; rfl⟩
      rw [h] at this
      cases this
    · rfl
  · intro h
    cases e : any (fun p => tb w p && !P p) n.toNat 0
    · rfl
    · exfalso
      obtain ⟨k, k1, k2, k3⟩ := (any_iff _ _).mp e
      rw [Bool.and_eq_true] at k3
      have h1 := h k k1 (by omega) k3.1
      rw [hR.2.2 k k1 (by omega), Bool.and_eq_true] at h1
      rw [h1.2] at k3
      exact absurd k3.2 (by decide)
theorem l_fd {d : Nat} {Q : Option AV → AG → Prop} {n day mm R : Int} {F fw : Int → Int} {G0 G1 : AG} (hC : CX G1) (hN : G1 33 9 = n) (hmm : 1 ≤ mm ∧ mm ≤ 300) (hE0 : ∀ b : Nat, b ≠ 38 → G1 b = G0 b) (h : EN n (foX G0) F fw) (hR : bx n (rdX G0 day) R) (h38 : ∀ p : Int, 0 ≤ p → p < n → G1 38 p = fw p)
    (K : ∀ (b : Int) (G' : AG), b = bst (okW n F (rdX G0 day) (tb (G0 33 8)) (G0 35) mm) (btr n F fw (G0 36)) (2 ^ n.toNat - 1) 1 0 → (∀ c : Nat, c ≠ 40 → G' c = G1 c) → (∀ x : Int, 0 ≤ x → x < (2 ^ n.toNat : Nat) → sub (tb R) x → G' 40 x = F x) → (b = 0 ∨ (1 ≤ b ∧ b < (2 ^ n.toNat : Nat) ∧ F b ≠ 0 ∧ sub (tb R) b)) → Ends (d + 3) 14 80 [vR 33, vI day, vI mm, vI R, vI b, vI ((2 ^ n.toNat : Nat) : Int)] [] G' Q) :
    ∀ (m : Nat) (w b : Int) (G : AG), 1 ≤ w → w + m = (2 ^ n.toNat : Nat) → bst (okW n F (rdX G0 day) (tb (G0 33 8)) (G0 35) mm) (btr n F fw (G0 36)) m w b = bst (okW n F (rdX G0 day) (tb (G0 33 8)) (G0 35) mm) (btr n F fw (G0 36)) (2 ^ n.toNat - 1) 1 0 → (∀ c : Nat, c ≠ 40 → G c = G1 c) → (∀ x : Int, 0 ≤ x → x < w → sub (tb R) x → G 40 x = F x) → (b = 0 ∨ (1 ≤ b ∧ b < w ∧ F b ≠ 0 ∧ sub (tb R) b)) → Ends (d + 3) 14 16 [vR 33, vI day, vI mm, vI R, vI b, vI w] [] G Q := by
  obtain ⟨c1, c2, c3, c4, c5, c6, c7, c8, c9⟩ := id hC
  have hn : 0 ≤ n ∧ n ≤ 10 := by omega
  have hp : 2 ^ n.toNat ≤ 2 ^ 10 := Nat.pow_le_pow_right (by decide) (by omega)
  have hsh : f_shl 1 n = ((2 ^ n.toNat : Nat) : Int) := fi_shl hn.1 (by omega)
  have hRr : 0 ≤ R ∧ R < 1024 := ⟨hR.1, hR.2.1⟩
  intro m
  induction m with
  | zero =>
    intro w b G h0 h1 hb hE h40 hbg
    have e9 : G 33 9 = n := by rw [hE 33 (by decide), hN]
    have ew : w = ((2 ^ n.toNat : Nat) : Int) := by omega
    have hKK := K b G hb hE (fun x q1 q2 => h40 x q1 (by omega)) (by rcases hbg with q | q; exact Or.inl q; exact Or.inr ⟨q.1, by omega, q.2.2⟩)
    rw [← ew] at hKK
    clear K
    generalize 2 ^ n.toNat = T at *
    simp (disch := first | omega | ((simp (disch := omega) only [up_ne, up_eq, up_nj, gf_ne, gf_in, sa_ne, sa_eq]) <;> omega)) only [reduceIte, Bool.false_eq_true, if_pos, if_neg, up_ne, up_eq, up_nj, gf_ne, gf_in, sa_ne, sa_eq, and_self, true_and, and_true, p_14_16, p_14_18, p_14_19, p_14_20, p_14_23, p_14_24, e9, hsh]
    exact hKK
  | succ m ih =>
    intro w b G h0 h1 hb hE h40 hbg
    have e9 : G 33 9 = n := by rw [hE 33 (by decide), hN]
    have hw2 : 0 ≤ w ∧ w < ((2 ^ n.toNat : Nat) : Int) := by omega
    obtain ⟨an1, an2⟩ := fi_andn (w := w) (R := R) (by omega) hRr
    have hany := sub_any hn hR hw2
    rw [bst] at hb
    have nxt : ∀ (b' : Int) (G' : AG), (∀ c : Nat, c ≠ 40 → G' c = G1 c) → (∀ x : Int, 0 ≤ x → x < w + 1 → sub (tb R) x → G' 40 x = F x) → (b' = 0 ∨ (1 ≤ b' ∧ b' < w + 1 ∧ F b' ≠ 0 ∧ sub (tb R) b')) → b' = (if (okW n F (rdX G0 day) (tb (G0 33 8)) (G0 35) mm w && btr n F fw (G0 36) w b) = true then w else b) → Ends (d + 3) 14 16 [vR 33, vI day, vI mm, vI R, vI b', vI (w + 1)] [] G' Q := by
      intro b' G' q1 q2 q3 q4
      refine ih (w + 1) b' G' (by omega) (by omega) ?_ q1 q2 q3
      rw [q4]
      exact hb
    by_cases u : f_and w (f_xor R (-1)) = 0
    · have hsub : sub (tb R) w := an2.mp u
      have ho : any (fun p => tb w p && !rdX G0 day p) n.toNat 0 = false := hany.mpr hsub
      have hF := h.rng (w := w) (by omega)
      have r1 := c_fo (d := d + 1) (G := G) h e9 (w := w) (by omega) (fun p q1 q2 q3 q4 => by
        obtain ⟨z1, z2, -, -⟩ := wb_clr (w := w) (p := p) (by omega) (by omega) q3
        exact h40 _ z1 (by omega) (sub_clr hsub q1)) (fun p q1 q2 => by rw [hE 38 (by decide), h38 p q1 q2])
      have hEX : ∀ c : Nat, c ≠ 40 → am_up G 40 w (F w) c = G1 c := fun c hc => by rw [am_up_ne _ _ _ _ _ hc, hE c hc]
      have hCG : CX (am_up G 40 w (F w)) := by
        unfold CX
        rw [hEX 33 (by decide), hEX 0 (by decide), hEX 35 (by decide), hEX 36 (by decide), hEX 37 (by decide), hEX 34 (by decide)]
        exact hC
      have hX40 : ∀ x : Int, 0 ≤ x → x < w + 1 → sub (tb R) x → am_up G 40 w (F w) 40 x = F x := by
        intro x q1 q2 q3
        by_cases v : x = w
        · rw [up_eq rfl v, v]
        · rw [up_nj v]
          exact h40 x q1 (by omega) q3
      have e9' : am_up G 40 w (F w) 33 9 = n := by rw [up_ne (by decide), e9]
      have r2 := c_good (d := d) (G := am_up G 40 w (F w)) (n := n) (w := w) (mm := mm) (f := F w) hCG e9' (by omega) hmm (up_eq rfl rfl) hF
      rw [hEX 33 (by decide), hEX 35 (by decide), hE0 33 (by decide), hE0 35 (by decide), mains_eq (im := tb (G0 33 8)) hn hw2 (by rw [← hE0 33 (by decide)]; exact ⟨c5, c6⟩) (fun _ _ _ => rfl)] at r2
      have hok : okW n F (rdX G0 day) (tb (G0 33 8)) (G0 35) mm w = (decide (F w ≠ 0) && (decide (swf (fun p => if tb (G0 33 8) p = true then 1 else 0) n w = 1) && decide (swf (G0 35) n w ≤ mm))) := by
        unfold okW
        rw [ho]
        rfl
      rw [← hok] at r2
      have hbr : 0 ≤ b ∧ b < 1024 := by omega
      by_cases v : okW n F (rdX G0 day) (tb (G0 33 8)) (G0 35) mm w = true
      · have hF0 : F w ≠ 0 := by
          rw [hok, Bool.and_eq_true, decide_eq_true_iff] at v
          exact v.1
        have r3 := c_btr (d := d) (G := am_up G 40 w (F w)) (rd := tb R) h hCG e9' (fun x q1 q2 => hX40 x q1 (by omega)) (fun p q1 q2 => by rw [hEX 38 (by decide), h38 p q1 q2]) (w := w) (b := b) ⟨h0, hw2.2⟩ hF0 hsub hbg
        rw [hEX 36 (by decide), hE0 36 (by decide)] at r3
        rw [v, if_pos rfl] at r2
        by_cases x : btr n F fw (G0 36) w b = true
        · have hnx := nxt w (am_up G 40 w (F w)) hEX hX40 (Or.inr ⟨h0, by omega, hF0, hsub⟩) (by rw [v, x]; rfl)
          rw [x, if_pos rfl] at r3
          clear nxt ih K h40 hX40 hany ho
          simp (disch := first | omega | ((simp (disch := omega) only [up_ne, up_eq, up_nj, gf_ne, gf_in, sa_ne, sa_eq]) <;> omega)) only [reduceIte, Bool.false_eq_true, if_pos, if_neg, up_ne, up_eq, up_nj, gf_ne, gf_in, sa_ne, sa_eq, and_self, true_and, and_true, p_14_16, p_14_18, p_14_19, p_14_20, p_14_23, p_14_24, p_14_27, p_14_29, p_14_30, p_14_31, p_14_32, p_14_33, p_14_36, p_14_37, p_14_40, p_14_42, p_14_43, e9, hsh]
          rw [p_14_45 (d := d + 2) r1]
          simp (disch := first | omega | ((simp (disch := omega) only [up_ne, up_eq, up_nj, gf_ne, gf_in, sa_ne, sa_eq]) <;> omega)) only [reduceIte, Bool.false_eq_true, if_pos, if_neg, up_ne, up_eq, up_nj, gf_ne, gf_in, sa_ne, sa_eq, and_self, true_and, and_true, p_14_48, p_14_49, p_14_50, p_14_52]
          rw [p_14_53 (d := d + 2) r2]
          simp (disch := first | omega | ((simp (disch := omega) only [up_ne, up_eq, up_nj, gf_ne, gf_in, sa_ne, sa_eq]) <;> omega)) only [reduceIte, Bool.false_eq_true, if_pos, if_neg, up_ne, up_eq, up_nj, gf_ne, gf_in, sa_ne, sa_eq, and_self, true_and, and_true, p_14_56, p_14_59, p_14_60, p_14_62]
          rw [p_14_64 (d := d + 2) r3]
          simp (disch := first | omega | ((simp (disch := omega) only [up_ne, up_eq, up_nj, gf_ne, gf_in, sa_ne, sa_eq]) <;> omega)) only [reduceIte, Bool.false_eq_true, if_pos, if_neg, up_ne, up_eq, up_nj, gf_ne, gf_in, sa_ne, sa_eq, and_self, true_and, and_true, p_14_67, p_14_70, p_14_72, p_14_74]
          rw [p_14_77]
          exact hnx
        · have hnx := nxt b (am_up G 40 w (F w)) hEX hX40 (by rcases hbg with q | q; exact Or.inl q; exact Or.inr ⟨q.1, by omega, q.2.2⟩) (by rw [v, Bool.true_and, if_neg x])
          rw [if_neg x] at r3
          clear nxt ih K h40 hX40 hany ho
          simp (disch := first | omega | ((simp (disch := omega) only [up_ne, up_eq, up_nj, gf_ne, gf_in, sa_ne, sa_eq]) <;> omega)) only [reduceIte, Bool.false_eq_true, if_pos, if_neg, up_ne, up_eq, up_nj, gf_ne, gf_in, sa_ne, sa_eq, and_self, true_and, and_true, p_14_16, p_14_18, p_14_19, p_14_20, p_14_23, p_14_24, p_14_27, p_14_29, p_14_30, p_14_31, p_14_32, p_14_33, p_14_36, p_14_37, p_14_40, p_14_42, p_14_43, e9, hsh]
          rw [p_14_45 (d := d + 2) r1]
          simp (disch := first | omega | ((simp (disch := omega) only [up_ne, up_eq, up_nj, gf_ne, gf_in, sa_ne, sa_eq]) <;> omega)) only [reduceIte, Bool.false_eq_true, if_pos, if_neg, up_ne, up_eq, up_nj, gf_ne, gf_in, sa_ne, sa_eq, and_self, true_and, and_true, p_14_48, p_14_49, p_14_50, p_14_52]
          rw [p_14_53 (d := d + 2) r2]
          simp (disch := first | omega | ((simp (disch := omega) only [up_ne, up_eq, up_nj, gf_ne, gf_in, sa_ne, sa_eq]) <;> omega)) only [reduceIte, Bool.false_eq_true, if_pos, if_neg, up_ne, up_eq, up_nj, gf_ne, gf_in, sa_ne, sa_eq, and_self, true_and, and_true, p_14_56, p_14_59, p_14_60, p_14_62]
          rw [p_14_64 (d := d + 2) r3]
          simp (disch := first | omega | ((simp (disch := omega) only [up_ne, up_eq, up_nj, gf_ne, gf_in, sa_ne, sa_eq]) <;> omega)) only [reduceIte, Bool.false_eq_true, if_pos, if_neg, up_ne, up_eq, up_nj, gf_ne, gf_in, sa_ne, sa_eq, and_self, true_and, and_true, p_14_67, p_14_70, p_14_72, p_14_74]
          rw [p_14_77]
          exact hnx
      · have hnx := nxt b (am_up G 40 w (F w)) hEX hX40 (by rcases hbg with q | q; exact Or.inl q; exact Or.inr ⟨q.1, by omega, q.2.2⟩) (by rw [if_neg (fun z => v (by rw [Bool.and_eq_true] at z; exact z.1))])
        rw [if_neg v] at r2
        clear nxt ih K h40 hX40 hany ho
        simp (disch := first | omega | ((simp (disch := omega) only [up_ne, up_eq, up_nj, gf_ne, gf_in, sa_ne, sa_eq]) <;> omega)) only [reduceIte, Bool.false_eq_true, if_pos, if_neg, up_ne, up_eq, up_nj, gf_ne, gf_in, sa_ne, sa_eq, and_self, true_and, and_true, p_14_16, p_14_18, p_14_19, p_14_20, p_14_23, p_14_24, p_14_27, p_14_29, p_14_30, p_14_31, p_14_32, p_14_33, p_14_36, p_14_37, p_14_40, p_14_42, p_14_43, e9, hsh]
        rw [p_14_45 (d := d + 2) r1]
        simp (disch := first | omega | ((simp (disch := omega) only [up_ne, up_eq, up_nj, gf_ne, gf_in, sa_ne, sa_eq]) <;> omega)) only [reduceIte, Bool.false_eq_true, if_pos, if_neg, up_ne, up_eq, up_nj, gf_ne, gf_in, sa_ne, sa_eq, and_self, true_and, and_true, p_14_48, p_14_49, p_14_50, p_14_52]
        rw [p_14_53 (d := d + 2) r2]
        simp (disch := first | omega | ((simp (disch := omega) only [up_ne, up_eq, up_nj, gf_ne, gf_in, sa_ne, sa_eq]) <;> omega)) only [reduceIte, Bool.false_eq_true, if_pos, if_neg, up_ne, up_eq, up_nj, gf_ne, gf_in, sa_ne, sa_eq, and_self, true_and, and_true, p_14_56, p_14_74]
        rw [p_14_77]
        exact hnx
    · have hnsub : ¬ sub (tb R) w := fun z => u (an2.mpr z)
      have ho : any (fun p => tb w p && !rdX G0 day p) n.toNat 0 = true := by
        cases e : any (fun p => tb w p && !rdX G0 day p) n.toNat 0
        · exact absurd (hany.mp e) hnsub
        · rfl
      have hnx := nxt b G hE (fun x q1 q2 q3 => by
        by_cases v : x = w
        · rw [v] at q3
          exact absurd q3 hnsub
        · exact h40 x q1 (by omega) q3) (by rcases hbg with q | q; exact Or.inl q; exact Or.inr ⟨q.1, by omega, q.2.2⟩) (by unfold okW; rw [ho]; rfl)
      clear nxt ih K h40 hany ho
      simp (disch := first | omega | ((simp (disch := omega) only [up_ne, up_eq, up_nj, gf_ne, gf_in, sa_ne, sa_eq]) <;> omega)) only [reduceIte, Bool.false_eq_true, if_pos, if_neg, up_ne, up_eq, up_nj, gf_ne, gf_in, sa_ne, sa_eq, and_self, true_and, and_true, p_14_16, p_14_18, p_14_19, p_14_20, p_14_23, p_14_24, p_14_27, p_14_29, p_14_30, p_14_31, p_14_32, p_14_33, p_14_74, e9, hsh]
      rw [p_14_77]
      exact hnx
theorem c_find {d : Nat} {Q : Option AV → AG → Prop} {n day mm : Int} {F fw : Int → Int} {G0 : AG} (hC : CX G0) (hN : G0 33 9 = n) (hd : 0 ≤ day ∧ day ≤ 400) (hmm : 1 ≤ mm ∧ mm ≤ 300) (h : EN n (foX G0) F fw) (h400 : G0 40 0 = 0) {b : Int} (hb : b = bst (okW n F (rdX G0 day) (tb (G0 33 8)) (G0 35) mm) (btr n F fw (G0 36)) (2 ^ n.toNat - 1) 1 0)
    (K0 : b = 0 → ∀ G' : AG, (∀ c : Nat, c ≠ 38 → c ≠ 40 → G' c = G0 c) → G' 40 0 = 0 → Q (some (vI (-1))) G')
    (K1 : 1 ≤ b → b < (2 ^ n.toNat : Nat) → F b ≠ 0 → ∀ G' : AG, (∀ c : Nat, c ≠ 33 → c ≠ 38 → c ≠ 39 → c ≠ 40 → G' c = G0 c) → (∀ j : Int, j ≠ 11 → G' 33 j = G0 33 j) → G' 33 11 = (n_bc b.toNat : Int) → (∀ j : Int, 0 ≤ j → j < n_bc b.toNat → G' 39 j = gt (rowOf F fw b) j) → G' 40 0 = 0 → Q (some (vI (swf (G0 36) n b))) G') :
    Ends (d + 4) 14 0 [vR 33, vI day, vI mm, vU, vU, vU] [] G0 Q := by
  have hn : 0 ≤ n ∧ n ≤ 10 := ⟨h.1, h.2.1⟩
  have hp : 2 ^ n.toNat ≤ 2 ^ 10 := Nat.pow_le_pow_right (by decide) (by omega)
  have hp1 : 1 ≤ 2 ^ n.toNat := Nat.pos_of_ne_zero (by simp)
  obtain ⟨r, G', hret, R, hr, hG, hR⟩ := (c_rdy (d := d + 2) (Q := fun r G' => ∃ z : Int, r = some (vI z) ∧ G' = G0 ∧ bx (G0 33 9) (rdX G0 day) z) hC hd (fun z hz => ⟨z, rfl, rfl, hz⟩)).ret
  subst hr
  subst hG
  obtain ⟨r, G1, hret2, hr, hE, hB⟩ := (c_lf (d := d) (Q := fun r G1 => r = none ∧ (∀ b : Nat, b ≠ 38 → G1 b = G' b) ∧ (∀ a : Int, 0 ≤ a → a < G' 33 9 → bx (G' 33 9) (foX G' a) (G1 38 a))) hC (fun G'' q1 q2 => ⟨rfl, q1, q2⟩)).ret
  subst hr
  rw [hN] at hR hB
  have hC1 : CX G1 := by
    unfold CX
    rw [hE 33 (by decide), hE 0 (by decide), hE 35 (by decide), hE 36 (by decide), hE 37 (by decide), hE 34 (by decide)]
    exact hC
  have hN1 : G1 33 9 = n := by rw [hE 33 (by decide), hN]
  have h38 : ∀ p : Int, 0 ≤ p → p < n → G1 38 p = fw p := fun p q1 q2 => bx_uni (hB p q1 q2) (h.2.2.2.2 p q1 q2)
  simp (disch := first | omega | ((simp (disch := omega) only [up_ne, up_eq, up_nj, gf_ne, gf_in, sa_ne, sa_eq]) <;> omega)) only [reduceIte, Bool.false_eq_true, if_pos, if_neg, up_ne, up_eq, up_nj, gf_ne, gf_in, sa_ne, sa_eq, and_self, true_and, and_true, p_14_0, p_14_1]
  rw [p_14_2 (d := d + 3) hret]
  simp (disch := first | omega | ((simp (disch := omega) only [up_ne, up_eq, up_nj, gf_ne, gf_in, sa_ne, sa_eq]) <;> omega)) only [reduceIte, Bool.false_eq_true, if_pos, if_neg, up_ne, up_eq, up_nj, gf_ne, gf_in, sa_ne, sa_eq, and_self, true_and, and_true, p_14_5, p_14_6]
  rw [p_14_7 (d := d + 3) hret2]
  simp (disch := first | omega | ((simp (disch := omega) only [up_ne, up_eq, up_nj, gf_ne, gf_in, sa_ne, sa_eq]) <;> omega)) only [reduceIte, Bool.false_eq_true, if_pos, if_neg, up_ne, up_eq, up_nj, gf_ne, gf_in, sa_ne, sa_eq, and_self, true_and, and_true, p_14_10, p_14_11, p_14_13, p_14_14]
  refine l_fd (d := d + 1) (R := R) hC1 hN1 hmm hE h hR h38 (fun b' G2 hb' hE2 h40 hbg => ?_) (2 ^ n.toNat - 1) 1 0 G1 (by omega) (by omega) rfl (fun _ _ => rfl) (fun x q1 q2 q3 => ?_) (Or.inl rfl)
  · rw [← hb] at hb'
    subst hb'
    have hz0 : sub (tb R) 0 := fun p _ _ q => by rw [tb_zero] at q; cases q
    have e0 : G2 40 0 = 0 := by rw [h40 0 (by omega) (by omega) hz0, h.2.2.1]
    rcases hbg with q | ⟨q1, q2, q3, q4⟩
    · have := K0 q G2 (fun c x1 x2 => by rw [hE2 c x2, hE c x1]) e0
      simp (disch := first | omega | ((simp (disch := omega) only [up_ne, up_eq, up_nj, gf_ne, gf_in, sa_ne, sa_eq]) <;> omega)) only [reduceIte, Bool.false_eq_true, if_pos, if_neg, up_ne, up_eq, up_nj, gf_ne, gf_in, sa_ne, sa_eq, and_self, true_and, and_true, p_14_80, p_14_82, p_14_85, p_14_86]
      exact this
    · have hN2 : G2 33 9 = n := by rw [hE2 33 (by decide), hN1]
      obtain ⟨r, G3, hret3, hr, k1, k2, k3, k4⟩ := (c_wl (d := d + 1) (Q := fun r G3 => r = none ∧ (∀ b : Nat, b ≠ 33 → b ≠ 39 → G3 b = G2 b) ∧ (∀ j : Int, j ≠ 11 → G3 33 j = G2 33 j) ∧ G3 33 11 = (n_bc b'.toNat : Int) ∧ (∀ j : Int, 0 ≤ j → j < n_bc b'.toNat → G3 39 j = gt (rowOf F fw b') j)) h hN2 (fun x x1 x2 => h40 x x1 (by omega)) (fun p x1 x2 => by rw [hE2 38 (by decide), h38 p x1 x2]) ⟨q1, q2⟩ q3 q4 (fun G' x1 x2 x3 x4 => ⟨rfl, x1, x2, x3, x4⟩)).ret
      subst hr
      have hf36 : ∀ i : Int, 0 ≤ i → i < 10 → 0 ≤ G3 36 i ∧ G3 36 i ≤ 100 := fun i x1 x2 => by
        rw [k1 36 (by decide) (by decide), hE2 36 (by decide)]
        have := hC1.2.2.2.2.2.2.2.2 i x1 x2
        omega
      have r3 := c_sm (d := d + 2) (n := n) (a := 36) (w := b') (G := G3) rfl hn (by rw [k2 9 (by decide), hN2]) (by omega) hf36
      have := K1 q1 q2 q3 G3 (fun c x1 x2 x3 x4 => by rw [k1 c x1 x3, hE2 c x4, hE c x2]) (fun j hj => by rw [k2 j hj, hE2 33 (by decide), hE 33 (by decide)]) k3 k4 (by rw [k1 40 (by decide) (by decide), e0])
      have e36 : G3 36 = G' 36 := by rw [k1 36 (by decide) (by decide), hE2 36 (by decide), hE 36 (by decide)]
      rw [e36] at r3
      clear K0 K1 h40 k4 hf36
      simp (disch := first | omega | ((simp (disch := omega) only [up_ne, up_eq, up_nj, gf_ne, gf_in, sa_ne, sa_eq]) <;> omega)) only [reduceIte, Bool.false_eq_true, if_pos, if_neg, up_ne, up_eq, up_nj, gf_ne, gf_in, sa_ne, sa_eq, and_self, true_and, and_true, p_14_80, p_14_82, p_14_85, p_14_86, p_14_87, p_14_88]
      rw [p_14_90 (d := d + 3) hret3]
      simp (disch := first | omega | ((simp (disch := omega) only [up_ne, up_eq, up_nj, gf_ne, gf_in, sa_ne, sa_eq]) <;> omega)) only [reduceIte, Bool.false_eq_true, if_pos, if_neg, up_ne, up_eq, up_nj, gf_ne, gf_in, sa_ne, sa_eq, and_self, true_and, and_true, p_14_93, p_14_94, p_14_95, p_14_98]
      rw [p_14_100 (d := d + 3) r3]
      simp (disch := first | omega | ((simp (disch := omega) only [up_ne, up_eq, up_nj, gf_ne, gf_in, sa_ne, sa_eq]) <;> omega)) only [reduceIte, Bool.false_eq_true, if_pos, if_neg, up_ne, up_eq, up_nj, gf_ne, gf_in, sa_ne, sa_eq, and_self, true_and, and_true, p_14_103]
      exact this
  · have e : x = 0 := by omega
    rw [e, hE 40 (by decide), h400, h.2.2.1]
