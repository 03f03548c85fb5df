theorem nl_i (z : Int) : am_nl (vI z) = true := rfl
theorem nl_r (a : Nat) : am_nl (vR a) = true := rfl
theorem nl_u : am_nl vU = true := rfl
section AmEnds2
variable {d k pc : Nat} {ls st : List AV} {G : AG} {Q : Option AV → AG → Prop}
theorem e_is {n i : Nat} {z : Int} (hf : am_at (gm_mt k).1 pc = some (.inl (o_is n i))) (h : am_okst ls i = true) : Ends d k pc ls (vI z :: st) G Q ↔ Ends d k n (ls.set i (vI z)) st G Q := e_op hf (by simp only [o_is, h, if_true])
theorem e_as {n i : Nat} {r : Nat} (hf : am_at (gm_mt k).1 pc = some (.inl (o_as n i))) (h : am_okst ls i = true) : Ends d k pc ls (vR r :: st) G Q ↔ Ends d k n (ls.set i (vR r)) st G Q := e_op hf (by simp only [o_as, h, if_true])
theorem e_ls {n i : Nat} {z : Int} (hf : am_at (gm_mt k).1 pc = some (.inl (o_ls n i))) (h : am_okst ls i = true) (h2 : i + 1 < ls.length) : Ends d k pc ls (vL z :: st) G Q ↔ Ends d k n ((ls.set i (vL z)).set (i + 1) vU) st G Q := e_op hf (by simp only [o_ls, h, h2, if_true])
theorem am_ine {b : Int} (h3 : 0 < b) (h4 : b < 2147483648) : ¬ am_i b = 0 := by
  rw [am_i0, am_ieq (by omega) h4 (by decide) (by decide)]
  omega
theorem am_lne {b : Int} (h3 : 0 < b) (h4 : b < 9223372036854775808) : ¬ am_l b = 0 := by
  intro h
  have h1 := congrArg Int64.toInt h
  rw [am_lt (by omega) h4] at h1
  have h2 : (0 : Int64).toInt = 0 := rfl
  omega
theorem am_iinj {x y : Int32} (h : x.toInt = y.toInt) : x = y := Int32.toInt_inj.mp h
theorem am_div {a b : Int} (h1 : 0 ≤ a) (h2 : a < 2147483648) (h3 : 0 < b) (h4 : b < 2147483648) : am_i a / am_i b = am_i (a / b) := by
  apply am_iinj
  have h5 : a / b ≤ a := Int.ediv_le_self _ h1
  have h6 : 0 ≤ a / b := Int.ediv_nonneg h1 (by omega)
  rw [Int32.toInt_div, am_it (by omega) h2, am_it (by omega) h4, am_it (by omega) (by omega), Int.tdiv_eq_ediv_of_nonneg h1]
  exact Int.bmod_eq_of_le (by omega) (by omega)
theorem am_rem {a b : Int} (h1 : 0 ≤ a) (h2 : a < 2147483648) (h3 : 0 < b) (h4 : b < 2147483648) : am_i a - am_i a / am_i b * am_i b = am_i (a % b) := by
  rw [am_div h1 h2 h3 h4, ← am_i_mul, ← am_i_sub]
  congr 1
  have h5 := Int.emod_add_mul_ediv a b
  have h6 : a / b * b = b * (a / b) := Int.mul_comm _ _
  omega
theorem am_ldiv {a b : Int} (h1 : 0 ≤ a) (h2 : a < 9223372036854775808) (h3 : 0 < b) (h4 : b < 9223372036854775808) : am_l a / am_l b = am_l (a / b) := by
  apply Int64.toInt_inj.mp
  have h5 : a / b ≤ a := Int.ediv_le_self _ h1
  have h6 : 0 ≤ a / b := Int.ediv_nonneg h1 (by omega)
  rw [Int64.toInt_div, am_lt (by omega) h2, am_lt (by omega) h4, am_lt (by omega) (by omega), Int.tdiv_eq_ediv_of_nonneg h1]
  exact Int.bmod_eq_of_le (by omega) (by omega)
theorem am_lrem {a b : Int} (h1 : 0 ≤ a) (h2 : a < 9223372036854775808) (h3 : 0 < b) (h4 : b < 9223372036854775808) : am_l a - am_l a / am_l b * am_l b = am_l (a % b) := by
  rw [am_ldiv h1 h2 h3 h4, ← am_l_mul, ← am_l_sub]
  congr 1
  have h5 := Int.emod_add_mul_ediv a b
  have h6 : a / b * b = b * (a / b) := Int.mul_comm _ _
  omega
theorem e_div {n : Nat} {a b : Int} (hf : am_at (gm_mt k).1 pc = some (.inl (o_id n f_div))) (h1 : 0 ≤ a) (h2 : a < 2147483648) (h3 : 0 < b) (h4 : b < 2147483648) : Ends d k pc ls (vI b :: vI a :: st) G Q ↔ Ends d k n ls (vI (a / b) :: st) G Q := e_op hf (by
  have h6 : 0 ≤ a / b := Int.ediv_nonneg h1 (by omega)
  have h5 : a / b ≤ a := Int.ediv_le_self _ h1
  simp only [o_id, am_ine h3 h4, if_false, f_div, am_div h1 h2 h3 h4, am_it (show -2147483648 ≤ a / b by omega) (by omega)])
theorem e_rem {n : Nat} {a b : Int} (hf : am_at (gm_mt k).1 pc = some (.inl (o_id n f_rem))) (h1 : 0 ≤ a) (h2 : a < 2147483648) (h3 : 0 < b) (h4 : b < 2147483648) : Ends d k pc ls (vI b :: vI a :: st) G Q ↔ Ends d k n ls (vI (a % b) :: st) G Q := e_op hf (by
  have h6 : 0 ≤ a % b := Int.emod_nonneg a (by omega)
  have h5 : a % b < b := Int.emod_lt_of_pos a h3
  simp only [o_id, am_ine h3 h4, if_false, f_rem, am_rem h1 h2 h3 h4, am_it (show -2147483648 ≤ a % b by omega) (by omega)])
theorem e_ldiv {n : Nat} {a b : Int} (hf : am_at (gm_mt k).1 pc = some (.inl (o_ld n f_ldiv))) (h1 : 0 ≤ a) (h2 : a < 9223372036854775808) (h3 : 0 < b) (h4 : b < 9223372036854775808) : Ends d k pc ls (vL b :: vL a :: st) G Q ↔ Ends d k n ls (vL (a / b) :: st) G Q := e_op hf (by
  have h6 : 0 ≤ a / b := Int.ediv_nonneg h1 (by omega)
  have h5 : a / b ≤ a := Int.ediv_le_self _ h1
  simp only [o_ld, am_lne h3 h4, if_false, f_ldiv, am_ldiv h1 h2 h3 h4, am_lt (show -9223372036854775808 ≤ a / b by omega) (by omega)])
theorem e_lrem {n : Nat} {a b : Int} (hf : am_at (gm_mt k).1 pc = some (.inl (o_ld n f_lrem))) (h1 : 0 ≤ a) (h2 : a < 9223372036854775808) (h3 : 0 < b) (h4 : b < 9223372036854775808) : Ends d k pc ls (vL b :: vL a :: st) G Q ↔ Ends d k n ls (vL (a % b) :: st) G Q := e_op hf (by
  have h6 : 0 ≤ a % b := Int.emod_nonneg a (by omega)
  have h5 : a % b < b := Int.emod_lt_of_pos a h3
  simp only [o_ld, am_lne h3 h4, if_false, f_lrem, am_lrem h1 h2 h3 h4, am_lt (show -9223372036854775808 ≤ a % b by omega) (by omega)])
theorem e_lrem0 {n : Nat} {a b : Int} (hf : am_at (gm_mt k).1 pc = some (.inl (o_ld n f_lrem))) (h3 : 0 < b) (h4 : b < 9223372036854775808) : Ends d k pc ls (vL b :: vL a :: st) G Q ↔ Ends d k n ls (vL (f_lrem a b) :: st) G Q := e_op hf (by
  simp only [o_ld, am_lne h3 h4, if_false])
theorem e_i2l {n : Nat} {a : Int} (hf : am_at (gm_mt k).1 pc = some (.inl (o_i2l n))) (h1 : -2147483648 ≤ a) (h2 : a < 2147483648) : Ends d k pc ls (vI a :: st) G Q ↔ Ends d k n ls (vL a :: st) G Q := e_op hf (by
  simp only [o_i2l, am_it h1 h2])
def f_cmp (a b : Int) : Int := if a < b then -1 else if a = b then 0 else 1
theorem am_llt {a b : Int} (h1 : -9223372036854775808 ≤ a) (h2 : a < 9223372036854775808) (h3 : -9223372036854775808 ≤ b) (h4 : b < 9223372036854775808) : am_l a < am_l b ↔ a < b := by
  rw [Int64.lt_iff_toInt_lt, am_lt h1 h2, am_lt h3 h4]
theorem am_leq {a b : Int} (h1 : -9223372036854775808 ≤ a) (h2 : a < 9223372036854775808) (h3 : -9223372036854775808 ≤ b) (h4 : b < 9223372036854775808) : am_l a = am_l b ↔ a = b := by
  rw [← Int64.toInt_inj, am_lt h1 h2, am_lt h3 h4]
theorem e_lcmp {n : Nat} {a b : Int} (hf : am_at (gm_mt k).1 pc = some (.inl (o_lcmp n))) (h1 : -9223372036854775808 ≤ a) (h2 : a < 9223372036854775808) (h3 : -9223372036854775808 ≤ b) (h4 : b < 9223372036854775808) : Ends d k pc ls (vL b :: vL a :: st) G Q ↔ Ends d k n ls (vI (f_cmp a b) :: st) G Q := e_op hf (by
  have e1 : (lg_cmp (am_l a) (am_l b)).toInt = f_cmp a b := by
    unfold lg_cmp f_cmp
    simp only [gt_iff_lt, am_llt h3 h4 h1 h2, am_leq h1 h2 h3 h4]
    repeat' split
    all_goals first | rfl | omega
  simp only [o_lcmp, e1])
theorem e_sw {f : Int → Nat} {a : Int} (hf : am_at (gm_mt k).1 pc = some (.inl (o_sw f))) (h1 : -2147483648 ≤ a) (h2 : a < 2147483648) : Ends d k pc ls (vI a :: st) G Q ↔ Ends d k (f a) ls st G Q := e_op hf (by
  simp only [o_sw, am_it h1 h2])
theorem am_in_of {i : Int} {n : Nat} (h0 : 0 ≤ i) (h1 : i < n) (hn : (n : Int) ≤ 2147483647) : am_in i n = true := by
  rw [am_in, am_it (by omega) (by omega), Bool.and_eq_true, decide_eq_true_iff, decide_eq_true_iff]
  exact ⟨h0, h1⟩
theorem e_ia {x r n : Nat} {fl : List Nat} {i : Int} (hf : am_at (gm_mt k).1 pc = some (.inl (o_ia x))) (hs : SKG[r]? = some (1, n, fl)) (h0 : 0 ≤ i) (h1 : i < n) (hn : (n : Int) < 2147483648) : Ends d k pc ls (vI i :: vR r :: st) G Q ↔ Ends d k x ls (vI (G r i) :: st) G Q := e_op hf (by
  simp only [o_ia, hs, am_in_of h0 h1 (by omega), if_true, am_it (show -2147483648 ≤ i by omega) (by omega)])
theorem e_ba {x r n : Nat} {fl : List Nat} {i : Int} (hf : am_at (gm_mt k).1 pc = some (.inl (o_ba x))) (hs : SKG[r]? = some (2, n, fl)) (h0 : 0 ≤ i) (h1 : i < n) (hn : (n : Int) < 2147483648) : Ends d k pc ls (vI i :: vR r :: st) G Q ↔ Ends d k x ls (vI (G r i) :: st) G Q := e_op hf (by
  simp only [o_ba, hs, am_in_of h0 h1 (by omega), if_true, am_it (show -2147483648 ≤ i by omega) (by omega)])
theorem e_la {x r n : Nat} {fl : List Nat} {i : Int} (hf : am_at (gm_mt k).1 pc = some (.inl (o_la x))) (hs : SKG[r]? = some (3, n, fl)) (h0 : 0 ≤ i) (h1 : i < n) (hn : (n : Int) < 2147483648) : Ends d k pc ls (vI i :: vR r :: st) G Q ↔ Ends d k x ls (vL (G r i) :: st) G Q := e_op hf (by
  simp only [o_la, hs, am_in_of h0 h1 (by omega), if_true, am_it (show -2147483648 ≤ i by omega) (by omega)])
def f_pl (i : Int) : Int := if i = 0 then 69343957 else if i = 1 then 1874161 else if i = 2 then 50653 else if i = 3 then 1369 else if i = 4 then 37 else 1
theorem e_pl {x : Nat} {i : Int} (hf : am_at (gm_mt k).1 pc = some (.inl (o_la x))) (h0 : 0 ≤ i) (h1 : i < 6) : Ends d k pc ls (vI i :: vR 1000 :: st) G Q ↔ Ends d k x ls (vL (f_pl i) :: st) G Q := e_op hf (by
  have hs : SKG[1000]? = none := rfl
  have e1 : am_pl.getD i.toNat 0 = f_pl i := by rcases (show i = 0 ∨ i = 1 ∨ i = 2 ∨ i = 3 ∨ i = 4 ∨ i = 5 by omega) with rfl | rfl | rfl | rfl | rfl | rfl <;> rfl
  simp only [o_la, hs, am_in_of h0 (show i < ((6 : Nat) : Int) from h1) (by decide), if_true, am_it (show -2147483648 ≤ i by omega) (show i < 2147483648 by omega), e1])
theorem e_aa {x r n b : Nat} {fl : List Nat} {i : Int} (hf : am_at (gm_mt k).1 pc = some (.inl (o_aa x))) (hs : SKG[r]? = some (4, n, fl)) (h0 : 0 ≤ i) (h1 : i < n) (hn : (n : Int) < 2147483648) (hb : fl[i.toNat]? = some b) : Ends d k pc ls (vI i :: vR r :: st) G Q ↔ Ends d k x ls (vR b :: st) G Q := e_op hf (by
  simp only [o_aa, hs, am_in_of h0 h1 (by omega), if_true, am_it (show -2147483648 ≤ i by omega) (show i < 2147483648 by omega), hb])
theorem e_aa5 {x r n b : Nat} {fl : List Nat} {i : Int} (hf : am_at (gm_mt k).1 pc = some (.inl (o_aa x))) (hs : SKG[r]? = some (5, n, fl)) (h0 : 0 ≤ i) (h1 : i < n) (hn : (n : Int) < 2147483648) (hb : fl[i.toNat]? = some b) : Ends d k pc ls (vI i :: vR r :: st) G Q ↔ Ends d k x ls (vR b :: st) G Q := e_op hf (by
  simp only [o_aa, hs, am_in_of h0 h1 (by omega), if_true, am_it (show -2147483648 ≤ i by omega) (show i < 2147483648 by omega), hb])
theorem e_iw {x r n : Nat} {fl : List Nat} {i z : Int} (hf : am_at (gm_mt k).1 pc = some (.inl (o_iw x))) (hs : SKG[r]? = some (1, n, fl)) (h0 : 0 ≤ i) (h1 : i < n) (hn : (n : Int) < 2147483648) : Ends d k pc ls (vI z :: vI i :: vR r :: st) G Q ↔ Ends d k x ls st (am_up G r i z) Q := e_op hf (by
  simp only [o_iw, hs, am_in_of h0 h1 (by omega), if_true, am_it (show -2147483648 ≤ i by omega) (by omega)])
theorem e_bw {x r n : Nat} {fl : List Nat} {i z : Int} (hf : am_at (gm_mt k).1 pc = some (.inl (o_bw x))) (hs : SKG[r]? = some (2, n, fl)) (h0 : 0 ≤ i) (h1 : i < n) (hn : (n : Int) < 2147483648) (hz : z = 0 ∨ z = 1) : Ends d k pc ls (vI z :: vI i :: vR r :: st) G Q ↔ Ends d k x ls st (am_up G r i z) Q := e_op hf (by
  simp only [o_bw, hs, am_in_of h0 h1 (by omega), if_true, am_it (show -2147483648 ≤ i by omega) (by omega), if_pos hz])
theorem e_lw {x r n : Nat} {fl : List Nat} {i z : Int} (hf : am_at (gm_mt k).1 pc = some (.inl (o_lw x))) (hs : SKG[r]? = some (3, n, fl)) (h0 : 0 ≤ i) (h1 : i < n) (hn : (n : Int) < 2147483648) : Ends d k pc ls (vL z :: vI i :: vR r :: st) G Q ↔ Ends d k x ls st (am_up G r i z) Q := e_op hf (by
  simp only [o_lw, hs, am_in_of h0 h1 (by omega), if_true, am_it (show -2147483648 ≤ i by omega) (by omega)])
theorem e_len1 {x r n : Nat} {fl : List Nat} (hf : am_at (gm_mt k).1 pc = some (.inl (o_len x))) (hs : SKG[r]? = some (1, n, fl)) : Ends d k pc ls (vR r :: st) G Q ↔ Ends d k x ls (vI n :: st) G Q := e_op hf (by
  simp only [o_len, hs])
theorem e_len3 {x r n : Nat} {fl : List Nat} (hf : am_at (gm_mt k).1 pc = some (.inl (o_len x))) (hs : SKG[r]? = some (3, n, fl)) : Ends d k pc ls (vR r :: st) G Q ↔ Ends d k x ls (vI n :: st) G Q := e_op hf (by
  simp only [o_len, hs])
theorem am_ieq0 {a : Int} (h1 : -2147483648 ≤ a) (h2 : a < 2147483648) : am_i a = 0 ↔ a = 0 := am_ieq (b := 0) h1 h2 (by decide) (by decide)
theorem am_ilt0 {a : Int} (h1 : -2147483648 ≤ a) (h2 : a < 2147483648) : am_i a < 0 ↔ a < 0 := am_ilt (b := 0) h1 h2 (by decide) (by decide)
theorem am_ile0 {a : Int} (h1 : -2147483648 ≤ a) (h2 : a < 2147483648) : am_i a ≤ 0 ↔ a ≤ 0 := am_ile (b := 0) h1 h2 (by decide) (by decide)
theorem am_0lt {a : Int} (h1 : -2147483648 ≤ a) (h2 : a < 2147483648) : 0 < am_i a ↔ 0 < a := am_ilt (a := 0) (by decide) (by decide) h1 h2
theorem am_0le {a : Int} (h1 : -2147483648 ≤ a) (h2 : a < 2147483648) : 0 ≤ am_i a ↔ 0 ≤ a := am_ile (a := 0) (by decide) (by decide) h1 h2
end AmEnds2
