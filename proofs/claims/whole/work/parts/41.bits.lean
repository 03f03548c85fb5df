/-! what the bits of a filling say -/
theorem tb_and {x y j : Int} (hx : 0 ≤ x ∧ x < 64) (hy : 0 ≤ y ∧ y < 64) : tb (f_and x y) j = (tb x j && tb y j) := by
  rw [fi_and hx.1 (by omega) hy.1 (by omega)]
  unfold tb
  rw [Int.toNat_natCast, Nat.testBit_and]
theorem tb_may {G : AG} {z0 a : Int} (hz : 0 ≤ z0 ∧ z0 < 64) : ∀ {p : List Int}, PV G p → tb (mayP G z0 p) a = (tb z0 a && p.all (fun q => decide (q = 36) || tb (G 29 (q / 6)) a))
  | [], _ => by simp [mayP]
  | q :: p, h => by
    have ih := tb_may hz (a := a) h.tl
    have hm := mayP_rng hz h.tl
    have hq := h q List.mem_cons_self
    rw [mayP, List.all_cons]
    by_cases e : q = 36
    · rw [if_pos e, ih]
      simp [e]
    · rw [if_neg e, tb_and hm (by omega), ih]
      simp only [e, decide_false, Bool.false_or]
      cases tb z0 a <;> cases tb (G 29 (q / 6)) a <;> simp
theorem tb_63 {m : Int} (h0 : 0 ≤ m) (h1 : m < 6) : tb 63 m = true := by
  rcases (show m = 0 ∨ m = 1 ∨ m = 2 ∨ m = 3 ∨ m = 4 ∨ m = 5 by omega) with rfl | rfl | rfl | rfl | rfl | rfl <;> rfl
theorem tb_fre {G : AG} {m : Int} (h0 : 0 ≤ m) (h1 : m < 6) : ∀ {p : List Int}, PV G p → tb (freP p) m = p.all (fun q => decide (q = 36) || decide (q % 6 ≠ m))
  | [], _ => by rw [freP, tb_63 h0 h1]; rfl
  | q :: p, h => by
    have ih := tb_fre h0 h1 h.tl
    have hq := h q List.mem_cons_self
    rw [freP, List.all_cons]
    by_cases e : q = 36
    · rw [if_pos e, ih]
      simp [e]
    · rw [if_neg e, tb_wb (by omega) h0, ih]
      by_cases e2 : m = q % 6
      · rw [if_pos e2]
        simp [e, e2]
      · rw [if_neg e2]
        have e3 : ¬ q % 6 = m := fun z => e2 z.symm
        simp [e, e3]
theorem tb_cmp {G : AG} {a : Int} (h0 : 0 ≤ a) : ∀ {p : List Int}, PV G p → tb (cmpP p) a = p.any (fun q => decide (q ≠ 36) && decide (q / 6 = a))
  | [], _ => by rw [cmpP, tb_zero]; rfl
  | q :: p, h => by
    have ih := tb_cmp h0 h.tl
    have hq := h q List.mem_cons_self
    rw [cmpP, List.any_cons]
    by_cases e : q = 36
    · rw [if_pos e, ih]
      simp [e]
    · rw [if_neg e, tb_wb (by omega) h0, ih]
      by_cases e2 : a = q / 6
      · rw [if_pos e2]
        simp [e, e2]
      · rw [if_neg e2]
        have e3 : ¬ q / 6 = a := fun z => e2 z.symm
        simp [e3]
def aO (q : Int) : Int := if q = 36 then -1 else q / 6
def mO (q : Int) : Int := if q = 36 then -1 else q % 6
/-- the reference's slots from fs on hold p -/
def PW (A M : Int → Int) (fs : Int) : List Int → Prop
  | [] => True
  | q :: p => A (fs + p.length) = aO q ∧ M (fs + p.length) = mO q ∧ PW A M fs p
theorem any_snoc {P : Int → Bool} : ∀ (m : Nat) (i : Int), any P (m + 1) i = (any P m i || P (i + m))
  | 0, i => by simp [any]
  | m + 1, i => by
    rw [any, any_snoc m (i + 1), any, Bool.or_assoc, show i + 1 + (m : Int) = i + ((m + 1 : Nat) : Int) by omega]
theorem any_pw {A M : Int → Int} {fs : Int} {F : Int → Int → Bool} : ∀ {p : List Int}, PW A M fs p → any (fun t => F (A t) (M t)) p.length fs = p.any (fun q => F (aO q) (mO q))
  | [], _ => rfl
  | q :: p, h => by
    rw [List.length_cons, any_snoc, any_pw h.2.2, List.any_cons, h.1, h.2.1, Bool.or_comm]
def dwn (F R : Int → Bool) : List Int → Bool
  | [] => false
  | q :: p => if F q = true then R q else dwn F R p
theorem down_pw {A M : Int → Int} {fs : Int} {F R : Int → Int → Bool} : ∀ {p : List Int}, PW A M fs p → down (fun t => F (A t) (M t)) (fun t => R (A t) (M t)) p.length (fs + p.length - 1) = dwn (fun q => F (aO q) (mO q)) (fun q => R (aO q) (mO q)) p
  | [], _ => rfl
  | q :: p, h => by
    rw [List.length_cons, down, dwn, show fs + ((p.length + 1 : Nat) : Int) - 1 = fs + p.length by omega, h.1, h.2.1, down_pw h.2.2]
theorem tb_far {G G0 : AG} {n m : Int} (h0 : 0 ≤ m) (h1 : m < n) (hn : n ≤ 6) (hB : ∀ a : Int, 0 ≤ a → a < n → bitsOf n (fun j => !nrX G0 a j) (G 30 a)) : ∀ {p : List Int}, (∀ q ∈ p, q = 36 ∨ (0 ≤ q ∧ q < 36 ∧ q % 6 < n)) → tb (farP G p) m = !dwn (fun q => decide (q ≠ 36)) (fun q => nrX G0 (q % 6) m) p
  | [], _ => by rw [farP, tb_63 h0 (by omega)]; rfl
  | q :: p, h => by
    have ih := tb_far h0 h1 hn hB (p := p) (fun x hx => h x (List.mem_cons_of_mem _ hx))
    have hq := h q List.mem_cons_self
    rw [farP, dwn]
    by_cases e : q = 36
    · rw [if_pos e, ih]
      simp [e]
    · rw [if_neg e, (hB (q % 6) (by omega) (by omega)).2.2 m h0 (by omega)]
      simp [e, h1]
