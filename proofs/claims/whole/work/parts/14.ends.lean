/-! runs of the small machine, from the end backwards -/
theorem am_run_s {mt : MT} {sk : SK} {n d k pc : Nat} {ls st : List AV} {G : AG} : am_run mt sk (n + 1) d k pc ls st G = match am_at (mt k).1 pc with
    | none => none
    | some (.inl op) => match op sk ls st G with
      | none => none
      | some (pc', ls', st', G') => am_run mt sk n d k pc' ls' st' G'
    | some (.inr (.inl (j, na))) => match d with
      | 0 => none
      | d' + 1 => if na ≤ st.length ∧ am_cats (st.drop na) ≤ 8 ∧ am_recv sk (mt j).2.2.2 (st.take na).reverse = true ∧ am_vals (st.take na) = true ∧ (am_slots (st.take na).reverse).length ≤ (mt j).2.1 then
          match am_run mt sk n d' j 0 (am_ent (mt j).2.1 (st.take na).reverse) [] G with
          | none => none
          | some (r, G') => am_run mt sk n (d' + 1) k (pc + 3) ls (r.toList ++ st.drop na) G'
        else none
    | some (.inr (.inr ())) => match am_ret (mt k).2.2.1 st with
      | none => none
      | some r => some (r, G) := by
  conv => lhs; unfold am_run
  rfl
theorem am_run_mono {mt : MT} {sk : SK} : ∀ (n d k pc : Nat) (ls st : List AV) (G : AG) (x : Option AV × AG), am_run mt sk n d k pc ls st G = some x → am_run mt sk (n + 1) d k pc ls st G = some x := by
  intro n
  induction n with
  | zero =>
    intro d k pc ls st G x h
    simp [am_run] at h
  | succ n ih =>
    intro d k pc ls st G x h
    rw [am_run_s] at h ⊢
    cases ha : am_at (mt k).1 pc with
    | none => rw [ha] at h; cases h
    | some i =>
      rw [ha] at h
      rcases i with op | ⟨j, na⟩ | u
      · simp only at h ⊢
        cases ho : op sk ls st G with
        | none => rw [ho] at h; cases h
        | some cf =>
          rw [ho] at h
          exact ih _ _ _ _ _ _ _ h
      · simp only at h ⊢
        cases d with
        | zero => cases h
        | succ d' =>
          simp only at h ⊢
          by_cases hc : na ≤ st.length ∧ am_cats (st.drop na) ≤ 8 ∧ am_recv sk (mt j).2.2.2 (st.take na).reverse = true ∧ am_vals (st.take na) = true ∧ (am_slots (st.take na).reverse).length ≤ (mt j).2.1
          · rw [if_pos hc] at h ⊢
            cases h1 : am_run mt sk n d' j 0 (am_ent (mt j).2.1 (st.take na).reverse) [] G with
            | none => rw [h1] at h; cases h
            | some q =>
              rw [h1] at h
              rw [ih _ _ _ _ _ _ _ h1]
              exact ih _ _ _ _ _ _ _ h
          · rw [if_neg hc] at h
            cases h
      · exact h
theorem am_run_le {mt : MT} {sk : SK} {n d k pc : Nat} {ls st : List AV} {G : AG} {x : Option AV × AG} (h : am_run mt sk n d k pc ls st G = some x) : ∀ m, am_run mt sk (n + m) d k pc ls st G = some x
  | 0 => h
  | m + 1 => am_run_mono _ _ _ _ _ _ _ _ (am_run_le h m)
theorem am_run_one {mt : MT} {sk : SK} {n n' d k pc : Nat} {ls st : List AV} {G : AG} {x y : Option AV × AG} (h : am_run mt sk n d k pc ls st G = some x) (h' : am_run mt sk n' d k pc ls st G = some y) : x = y := by
  have h1 := am_run_le h n'
  have h2 := am_run_le h' n
  rw [Nat.add_comm n' n] at h2
  exact Option.some.inj (h1.symm.trans h2)
/-- from here the method ends, with Q -/
def Ends (d k pc : Nat) (ls st : List AV) (G : AG) (Q : Option AV → AG → Prop) : Prop := ∃ n r G', am_run gm_mt SKG n d k pc ls st G = some (r, G') ∧ Q r G'
section AmEnds
variable {d k pc : Nat} {ls st : List AV} {G : AG} {Q : Option AV → AG → Prop}
theorem e_op {op : OP} {pc' : Nat} {ls' st' : List AV} {G' : AG} (hf : am_at (gm_mt k).1 pc = some (.inl op)) (ho : op SKG ls st G = some (pc', ls', st', G')) : Ends d k pc ls st G Q ↔ Ends d k pc' ls' st' G' Q := by
  constructor
  · rintro ⟨n, r, G1, h, hq⟩
    cases n with
    | zero => simp [am_run] at h
    | succ n =>
      unfold am_run at h
      simp only [hf, ho] at h
      exact ⟨n, r, G1, h, hq⟩
  · rintro ⟨n, r, G1, h, hq⟩
    refine ⟨n + 1, r, G1, ?_, hq⟩
    unfold am_run
    simp only [hf, ho]
    exact h
theorem e_ret {r : Option AV} (hf : am_at (gm_mt k).1 pc = some (.inr (.inr ()))) (hr : am_ret (gm_mt k).2.2.1 st = some r) : Ends d k pc ls st G Q ↔ Q r G := by
  constructor
  · rintro ⟨n, r1, G1, h, hq⟩
    cases n with
    | zero => simp [am_run] at h
    | succ n =>
      unfold am_run at h
      simp only [hf, hr] at h
      cases h
      exact hq
  · intro hq
    refine ⟨1, r, G, ?_, hq⟩
    unfold am_run
    simp only [hf, hr]
/-- the method ends from its start, with this answer -/
def Ret (d j : Nat) (ls : List AV) (G : AG) (r : Option AV) (G' : AG) : Prop := Ends d j 0 ls [] G (fun r1 G1 => r1 = r ∧ G1 = G')
theorem e_call {j na : Nat} {r : Option AV} {G' : AG} (hf : am_at (gm_mt k).1 pc = some (.inr (.inl (j, na)))) (hc : na ≤ st.length ∧ am_cats (st.drop na) ≤ 8 ∧ am_recv SKG (gm_mt j).2.2.2 (st.take na).reverse = true ∧ am_vals (st.take na) = true ∧ (am_slots (st.take na).reverse).length ≤ (gm_mt j).2.1)
    (h : Ret d j (am_ent (gm_mt j).2.1 (st.take na).reverse) G r G') : Ends (d + 1) k pc ls st G Q ↔ Ends (d + 1) k (pc + 3) ls (r.toList ++ st.drop na) G' Q := by
  obtain ⟨n1, r1, G1, h1, rfl, rfl⟩ := h
  constructor
  · rintro ⟨n, r2, G2, h2, hq⟩
    cases n with
    | zero => simp [am_run] at h2
    | succ n =>
      unfold am_run at h2
      simp only [hf, if_pos hc] at h2
      split at h2
      · cases h2
      · rename_i r3 G3 h3
        have e := am_run_one h3 h1
        cases e
        exact ⟨n, r2, G2, h2, hq⟩
  · rintro ⟨n, r2, G2, h2, hq⟩
    refine ⟨n1 + n + 1, r2, G2, ?_, hq⟩
    unfold am_run
    simp only [hf, if_pos hc, am_run_le h1 n]
    rw [Nat.add_comm n1 n]
    exact am_run_le h2 n1
/-- deeper is as good -/
theorem am_run_d {mt : MT} {sk : SK} : ∀ (n d k pc : Nat) (ls st : List AV) (G : AG) (x : Option AV × AG), am_run mt sk n d k pc ls st G = some x → am_run mt sk n (d + 1) k pc ls st G = some x := by
  intro n
  induction n with
  | zero =>
    intro d k pc ls st G x h
    simp [am_run] at h
  | succ n ih =>
    intro d k pc ls st G x h
    rw [am_run_s] at h ⊢
    cases ha : am_at (mt k).1 pc with
    | none => rw [ha] at h; cases h
    | some i =>
      rw [ha] at h
      rcases i with op | ⟨j, na⟩ | u
      · simp only at h ⊢
        cases ho : op sk ls st G with
        | none => rw [ho] at h; cases h
        | some cf =>
          rw [ho] at h
          exact ih _ _ _ _ _ _ _ h
      · simp only at h ⊢
        cases d with
        | zero => cases h
        | succ d' =>
          simp only at h ⊢
          by_cases hc : na ≤ st.length ∧ am_cats (st.drop na) ≤ 8 ∧ am_recv sk (mt j).2.2.2 (st.take na).reverse = true ∧ am_vals (st.take na) = true ∧ (am_slots (st.take na).reverse).length ≤ (mt j).2.1
          · rw [if_pos hc] at h ⊢
            cases h1 : am_run mt sk n d' j 0 (am_ent (mt j).2.1 (st.take na).reverse) [] G with
            | none => rw [h1] at h; cases h
            | some q =>
              rw [h1] at h
              rw [ih _ _ _ _ _ _ _ h1]
              exact ih _ _ _ _ _ _ _ h
          · rw [if_neg hc] at h
            cases h
      · exact h
theorem Ends.up (h : Ends d k pc ls st G Q) : Ends (d + 1) k pc ls st G Q := by
  obtain ⟨n, r, G', h1, h2⟩ := h
  exact ⟨n, r, G', am_run_d _ _ _ _ _ _ _ _ h1, h2⟩
theorem Ends.post {Q' : Option AV → AG → Prop} (h : Ends d k pc ls st G Q) (hq : ∀ r G', Q r G' → Q' r G') : Ends d k pc ls st G Q' := by
  obtain ⟨n, r, G', h1, h2⟩ := h
  exact ⟨n, r, G', h1, hq _ _ h2⟩
theorem Ret.use {r : Option AV} {G' : AG} (h : Ret d k ls G r G') (hq : Q r G') : Ends d k 0 ls [] G Q := Ends.post h (fun _ _ e => by rw [e.1, e.2]; exact hq)
/-- a value that is had is one answer -/
theorem Ends.ret (h : Ends d k 0 ls [] G Q) : ∃ r G', Ret d k ls G r G' ∧ Q r G' := by
  obtain ⟨n, r, G', h1, h2⟩ := h
  exact ⟨r, G', ⟨n, r, G', h1, rfl, rfl⟩, h2⟩
/-! numbers in their ranges -/
theorem am_it {a : Int} (h1 : -2147483648 ≤ a) (h2 : a < 2147483648) : (am_i a).toInt = a := by
  rw [am_i, Int32.toInt_ofInt]
  exact Int.bmod_eq_of_le (by have : ((2 ^ 32 : Nat) : Int) = 4294967296 := rfl; simp only [Int32.size]; omega) (by simp only [Int32.size]; omega)
theorem am_lt {a : Int} (h1 : -9223372036854775808 ≤ a) (h2 : a < 9223372036854775808) : (am_l a).toInt = a := by
  rw [am_l, Int64.toInt_ofInt]
  exact Int.bmod_eq_of_le (by simp only [Int64.size]; omega) (by simp only [Int64.size]; omega)
theorem e_if {op : OP} {t n : Nat} {q : Int32 → Bool} {a : Int} {c : Prop} (ic : Decidable c) (hf : am_at (gm_mt k).1 pc = some (.inl op)) (ho : op = o_if t n q) (hc : q (am_i a) = true ↔ c) : Ends d k pc ls (vI a :: st) G Q ↔ if c then Ends d k t ls st G Q else Ends d k n ls st G Q := by
  subst ho
  have h := e_op (d := d) (Q := Q) (ls := ls) (st := vI a :: st) (G := G) hf rfl
  rw [h]
  by_cases hq : q (am_i a) = true
  · rw [if_pos hq, if_pos (hc.mp hq)]
  · rw [if_neg hq, if_neg (fun z => hq (hc.mpr z))]
theorem e_ic {op : OP} {t n : Nat} {q : Int32 → Int32 → Bool} {a b : Int} {c : Prop} (ic : Decidable c) (hf : am_at (gm_mt k).1 pc = some (.inl op)) (ho : op = o_ic t n q) (hc : q (am_i a) (am_i b) = true ↔ c) : Ends d k pc ls (vI b :: vI a :: st) G Q ↔ if c then Ends d k t ls st G Q else Ends d k n ls st G Q := by
  subst ho
  have h := e_op (d := d) (Q := Q) (ls := ls) (st := vI b :: vI a :: st) (G := G) hf rfl
  rw [h]
  by_cases hq : q (am_i a) (am_i b) = true
  · rw [if_pos hq, if_pos (hc.mp hq)]
  · rw [if_neg hq, if_neg (fun z => hq (hc.mpr z))]
end AmEnds
section AmNum
variable {a b : Int}
theorem am_ile (ha : -2147483648 ≤ a) (ha2 : a < 2147483648) (hb : -2147483648 ≤ b) (hb2 : b < 2147483648) : am_i a ≤ am_i b ↔ a ≤ b := by
  rw [Int32.le_iff_toInt_le, am_it ha ha2, am_it hb hb2]
theorem am_ilt (ha : -2147483648 ≤ a) (ha2 : a < 2147483648) (hb : -2147483648 ≤ b) (hb2 : b < 2147483648) : am_i a < am_i b ↔ a < b := by
  rw [Int32.lt_iff_toInt_lt, am_it ha ha2, am_it hb hb2]
theorem am_ieq (ha : -2147483648 ≤ a) (ha2 : a < 2147483648) (hb : -2147483648 ≤ b) (hb2 : b < 2147483648) : am_i a = am_i b ↔ a = b := by
  rw [← Int32.toInt_inj, am_it ha ha2, am_it hb hb2]
theorem am_i0 : (0 : Int32) = am_i 0 := rfl
end AmNum
