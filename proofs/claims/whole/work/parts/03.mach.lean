/-! A small machine of numbers: its values, its steps, its runs (my own words for the class's bytecode) -/
abbrev AV : Type := Int ⊕ (Int ⊕ Option Nat)
abbrev vI (z : Int) : AV := Sum.inl z
abbrev vL (z : Int) : AV := Sum.inr (Sum.inl z)
abbrev vR (a : Nat) : AV := Sum.inr (Sum.inr (some a))
abbrev vU : AV := Sum.inr (Sum.inr none)
abbrev AG : Type := Nat → Int → Int
abbrev SK : Type := List (Nat × Nat × List Nat)
abbrev CF : Type := Nat × List AV × List AV × AG
abbrev OP : Type := SK → List AV → List AV → AG → Option CF
abbrev IN : Type := OP ⊕ ((Nat × Nat) ⊕ Unit)
abbrev CD : Type := List (Nat × IN)
def am_i (z : Int) : Int32 := Int32.ofInt z
def am_l (z : Int) : Int64 := Int64.ofInt z
def am_up (G : AG) (a : Nat) (i z : Int) : AG := fun b j => if b = a then (if j = i then z else G b j) else G b j
def am_nl : AV → Bool
  | .inr (.inl _) => false
  | _ => true
def am_okst (ls : List AV) (i : Nat) : Bool := decide (i < ls.length) && (match i with
  | 0 => true
  | j + 1 => match ls[j]? with
    | some v => am_nl v
    | none => true)
def am_cat : AV → Nat
  | .inr (.inl _) => 2
  | _ => 1
def am_cats : List AV → Nat
  | [] => 0
  | v :: r => am_cat v + am_cats r
/-- the steps; n is where they go on -/
def o_k (n : Nat) (v : AV) : OP := fun _ ls st G => some (n, ls, v :: st, G)
def o_il (n i : Nat) : OP := fun _ ls st G => match ls[i]? with
  | some (.inl z) => some (n, ls, vI z :: st, G)
  | _ => none
def o_ll (n i : Nat) : OP := fun _ ls st G => match ls[i]? with
  | some (.inr (.inl z)) => some (n, ls, vL z :: st, G)
  | _ => none
def o_al (n i : Nat) : OP := fun _ ls st G => match ls[i]? with
  | some (.inr (.inr (some a))) => some (n, ls, vR a :: st, G)
  | _ => none
def o_is (n i : Nat) : OP := fun _ ls st G => match st with
  | .inl z :: st' => if am_okst ls i = true then some (n, ls.set i (vI z), st', G) else none
  | _ => none
def o_as (n i : Nat) : OP := fun _ ls st G => match st with
  | .inr (.inr (some a)) :: st' => if am_okst ls i = true then some (n, ls.set i (vR a), st', G) else none
  | _ => none
def o_ls (n i : Nat) : OP := fun _ ls st G => match st with
  | .inr (.inl z) :: st' => if am_okst ls i = true then (if i + 1 < ls.length then some (n, (ls.set i (vL z)).set (i + 1) vU, st', G) else none) else none
  | _ => none
def o_ii (n i : Nat) (k : Int) : OP := fun _ ls st G => match ls[i]? with
  | some (.inl z) => some (n, ls.set i (vI (z + k)), st, G)
  | _ => none
def o_ib (n : Nat) (f : Int → Int → Int) : OP := fun _ ls st G => match st with
  | .inl b :: .inl a :: st' => some (n, ls, vI (f a b) :: st', G)
  | _ => none
def o_id (n : Nat) (f : Int → Int → Int) : OP := fun _ ls st G => match st with
  | .inl b :: .inl a :: st' => if am_i b = 0 then none else some (n, ls, vI (f a b) :: st', G)
  | _ => none
def o_lb (n : Nat) (f : Int → Int → Int) : OP := fun _ ls st G => match st with
  | .inr (.inl b) :: .inr (.inl a) :: st' => some (n, ls, vL (f a b) :: st', G)
  | _ => none
def o_ld (n : Nat) (f : Int → Int → Int) : OP := fun _ ls st G => match st with
  | .inr (.inl b) :: .inr (.inl a) :: st' => if am_l b = 0 then none else some (n, ls, vL (f a b) :: st', G)
  | _ => none
def o_iu (n : Nat) (f : Int → Int) : OP := fun _ ls st G => match st with
  | .inl a :: st' => some (n, ls, vI (f a) :: st', G)
  | _ => none
def o_lu (n : Nat) (f : Int → Int) : OP := fun _ ls st G => match st with
  | .inr (.inl a) :: st' => some (n, ls, vL (f a) :: st', G)
  | _ => none
def o_i2l (n : Nat) : OP := fun _ ls st G => match st with
  | .inl a :: st' => some (n, ls, vL ((am_i a).toInt) :: st', G)
  | _ => none
def o_l2i (n : Nat) : OP := fun _ ls st G => match st with
  | .inr (.inl a) :: st' => some (n, ls, vI a :: st', G)
  | _ => none
def o_lcmp (n : Nat) : OP := fun _ ls st G => match st with
  | .inr (.inl b) :: .inr (.inl a) :: st' => some (n, ls, vI (lg_cmp (am_l a) (am_l b)).toInt :: st', G)
  | _ => none
def o_dup (n : Nat) : OP := fun _ ls st G => match st with
  | v :: st' => if am_nl v = true then some (n, ls, v :: v :: st', G) else none
  | _ => none
def o_dup2 (n : Nat) : OP := fun _ ls st G => match st with
  | v :: w :: st' => if am_nl v = true then (if am_nl w = true then some (n, ls, v :: w :: v :: w :: st', G) else none) else none
  | _ => none
def o_pop (n : Nat) : OP := fun _ ls st G => match st with
  | v :: st' => if am_nl v = true then some (n, ls, st', G) else none
  | _ => none
def o_if (t n : Nat) (q : Int32 → Bool) : OP := fun _ ls st G => match st with
  | .inl a :: st' => some (if q (am_i a) = true then t else n, ls, st', G)
  | _ => none
def o_ic (t n : Nat) (q : Int32 → Int32 → Bool) : OP := fun _ ls st G => match st with
  | .inl b :: .inl a :: st' => some (if q (am_i a) (am_i b) = true then t else n, ls, st', G)
  | _ => none
def o_go (t : Nat) : OP := fun _ ls st G => some (t, ls, st, G)
def o_sw (f : Int → Nat) : OP := fun _ ls st G => match st with
  | .inl a :: st' => some (f (am_i a).toInt, ls, st', G)
  | _ => none
def o_gf (n ci f : Nat) : OP := fun sk ls st G => match st with
  | .inr (.inr (some a)) :: st' => match sk[a]? with
    | some (0, c, fl) => if c = ci then (match fl[f]? with
      | some 0 => some (n, ls, vI (G a f) :: st', G)
      | some (r + 1) => some (n, ls, vR r :: st', G)
      | none => none) else none
    | _ => none
  | _ => none
def o_pf (n ci f : Nat) : OP := fun sk ls st G => match st with
  | .inl z :: .inr (.inr (some a)) :: st' => match sk[a]? with
    | some (0, c, fl) => if c = ci then (match fl[f]? with
      | some 0 => some (n, ls, st', am_up G a f z)
      | _ => none) else none
    | _ => none
  | _ => none
/-- the class's one static row -/
def am_pl : List Int := [69343957, 1874161, 50653, 1369, 37, 1]
def am_in (z : Int) (n : Nat) : Bool := decide (0 ≤ (am_i z).toInt) && decide ((am_i z).toInt < n)
def o_ia (n : Nat) : OP := fun sk ls st G => match st with
  | .inl i :: .inr (.inr (some a)) :: st' => match sk[a]? with
    | some (1, len, _) => if am_in i len = true then some (n, ls, vI (G a (am_i i).toInt) :: st', G) else none
    | _ => none
  | _ => none
def o_ba (n : Nat) : OP := fun sk ls st G => match st with
  | .inl i :: .inr (.inr (some a)) :: st' => match sk[a]? with
    | some (2, len, _) => if am_in i len = true then some (n, ls, vI (G a (am_i i).toInt) :: st', G) else none
    | _ => none
  | _ => none
def o_la (n : Nat) : OP := fun sk ls st G => match st with
  | .inl i :: .inr (.inr (some a)) :: st' => match sk[a]? with
    | some (3, len, _) => if am_in i len = true then some (n, ls, vL (G a (am_i i).toInt) :: st', G) else none
    | none => if a = 1000 then (if am_in i 6 = true then some (n, ls, vL (am_pl.getD (am_i i).toInt.toNat 0) :: st', G) else none) else none
    | _ => none
  | _ => none
def o_aa (n : Nat) : OP := fun sk ls st G => match st with
  | .inl i :: .inr (.inr (some a)) :: st' => match sk[a]? with
    | some (4, len, fl) => if am_in i len = true then (match fl[(am_i i).toInt.toNat]? with
      | some r => some (n, ls, vR r :: st', G)
      | none => none) else none
    | some (5, len, fl) => if am_in i len = true then (match fl[(am_i i).toInt.toNat]? with
      | some r => some (n, ls, vR r :: st', G)
      | none => none) else none
    | _ => none
  | _ => none
def o_iw (n : Nat) : OP := fun sk ls st G => match st with
  | .inl z :: .inl i :: .inr (.inr (some a)) :: st' => match sk[a]? with
    | some (1, len, _) => if am_in i len = true then some (n, ls, st', am_up G a (am_i i).toInt z) else none
    | _ => none
  | _ => none
def o_bw (n : Nat) : OP := fun sk ls st G => match st with
  | .inl z :: .inl i :: .inr (.inr (some a)) :: st' => match sk[a]? with
    | some (2, len, _) => if am_in i len = true then (if z = 0 ∨ z = 1 then some (n, ls, st', am_up G a (am_i i).toInt z) else none) else none
    | _ => none
  | _ => none
def o_lw (n : Nat) : OP := fun sk ls st G => match st with
  | .inr (.inl z) :: .inl i :: .inr (.inr (some a)) :: st' => match sk[a]? with
    | some (3, len, _) => if am_in i len = true then some (n, ls, st', am_up G a (am_i i).toInt z) else none
    | _ => none
  | _ => none
def o_len (n : Nat) : OP := fun sk ls st G => match st with
  | .inr (.inr (some a)) :: st' => match sk[a]? with
    | some (1, len, _) => some (n, ls, vI len :: st', G)
    | some (3, len, _) => some (n, ls, vI len :: st', G)
    | _ => none
  | _ => none
/-- where the code stands -/
def am_at : CD → Nat → Option IN
  | [], _ => none
  | q :: r, pc => if q.1 = pc then some q.2 else am_at r pc
def am_slots : List AV → List AV
  | [] => []
  | .inr (.inl z) :: r => vL z :: vU :: am_slots r
  | v :: r => v :: am_slots r
def am_ent (n : Nat) (as : List AV) : List AV := am_slots as ++ List.replicate (n - (am_slots as).length) vU
/-- of a method: its code, its locals, what it answers (0: nothing, 1: an int, 2: a truth value, 3: a long), whether it has a receiver (its class + 1) -/
abbrev MT : Type := Nat → CD × Nat × Nat × Nat
def am_ret (q : Nat) (st : List AV) : Option (Option AV) := match q, st with
  | 0, [] => some none
  | 1, [.inl z] => some (some (vI z))
  | 2, [.inl z] => if z = 0 ∨ z = 1 then some (some (vI z)) else none
  | 3, [.inr (.inl z)] => some (some (vL z))
  | _, _ => none
def am_recv (sk : SK) (q : Nat) (as : List AV) : Bool := match q with
  | 0 => true
  | ci + 1 => match as with
    | .inr (.inr (some a)) :: _ => match sk[a]? with
      | some (0, c, _) => decide (c = ci)
      | _ => false
    | _ => false
/-- no value that isn't one -/
def am_vals : List AV → Bool
  | [] => true
  | .inr (.inr none) :: _ => false
  | _ :: r => am_vals r
def am_run (mt : MT) (sk : SK) : Nat → Nat → Nat → Nat → List AV → List AV → AG → Option (Option AV × AG)
  | 0, _, _, _, _, _, _ => none
  | n + 1, d, k, pc, ls, st, G => match am_at (mt k).1 pc with
    | none => none
    | some (.inl op) => match op sk ls st G with
      | none => none
      | some (pc', ls', st', G') => am_run mt sk n d k pc' ls' st' G'
    | some (.inr (.inl (j, na))) => match d with
      | 0 => none
      | d' + 1 => if na ≤ st.length ∧ am_cats (st.drop na) ≤ 8 ∧ am_recv sk (mt j).2.2.2 (st.take na).reverse = true ∧ am_vals (st.take na) = true ∧ (am_slots (st.take na).reverse).length ≤ (mt j).2.1 then
          match am_run mt sk n d' j 0 (am_ent (mt j).2.1 (st.take na).reverse) [] G with
          | none => none
          | some (r, G') => am_run mt sk n (d' + 1) k (pc + 3) ls (r.toList ++ st.drop na) G'
        else none
    | some (.inr (.inr ())) => match am_ret (mt k).2.2.1 st with
      | none => none
      | some r => some (r, G)
