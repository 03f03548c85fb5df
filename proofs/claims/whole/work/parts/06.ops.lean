theorem fb_rng' (x : Int32) : -2147483648 ≤ x.toInt ∧ x.toInt < 2147483648 := by
  have h1 := Int32.le_toInt x
  have h2 := Int32.toInt_lt x
  omega
/-! arithmetic, compares, branches -/
section AmOps2
variable {Ts : List Cond} {cc : ByteArray} {nL pc : Nat} {own : String}
def f_and (a b : Int) : Int := (am_i a &&& am_i b).toInt
def f_or (a b : Int) : Int := (am_i a ||| am_i b).toInt
def f_xor (a b : Int) : Int := (am_i a ^^^ am_i b).toInt
def f_shl (a b : Int) : Int := (am_i a <<< (am_i b &&& 31)).toInt
def f_shr (a b : Int) : Int := (am_i a >>> (am_i b &&& 31)).toInt
def f_ushr (a b : Int) : Int := ((am_i a).toUInt32 >>> ((am_i b).toUInt32 &&& Int32.toUInt32 31)).toInt32.toInt
def f_div (a b : Int) : Int := (am_i a / am_i b).toInt
def f_rem (a b : Int) : Int := (am_i a - am_i a / am_i b * am_i b).toInt
def f_ldiv (a b : Int) : Int := (am_l a / am_l b).toInt
def f_lrem (a b : Int) : Int := (am_l a - am_l a / am_l b * am_l b).toInt
def f_lxor (a b : Int) : Int := (am_l a ^^^ am_l b).toInt
def f_add (a b : Int) : Int := a + b
def f_sub (a b : Int) : Int := a - b
def f_mul (a b : Int) : Int := a * b
theorem so_iadd (hdg : decode cc pc = .ok (.iadd, 1)) : am_ok Ts cc nL own pc (o_ib (pc + 1) f_add) := by
  intro ad cA D sk Ns p l e R s m args below meth c H locs Q ls al st G cf hj hC hS ho k
  obtain ⟨hx, hb, -⟩ := hC
  unfold o_ib at ho
  split at ho
  · rename_i b a st'
    cases ho
    have k := k H locs ls hS
    have e9 : am_rp ad (vI (f_add a b)) = .int (am_i a + am_i b) := congrArg _ (am_i_add a b)
    rw [List.map_cons, e9] at k
    exact lv_iadd hx hb hdg k
  · cases ho
theorem so_isub (hdg : decode cc pc = .ok (.isub, 1)) : am_ok Ts cc nL own pc (o_ib (pc + 1) f_sub) := by
  intro ad cA D sk Ns p l e R s m args below meth c H locs Q ls al st G cf hj hC hS ho k
  obtain ⟨hx, hb, -⟩ := hC
  unfold o_ib at ho
  split at ho
  · rename_i b a st'
    cases ho
    have k := k H locs ls hS
    have e9 : am_rp ad (vI (f_sub a b)) = .int (am_i a - am_i b) := congrArg _ (am_i_sub a b)
    rw [List.map_cons, e9] at k
    exact lv_isub hx hb hdg k
  · cases ho
theorem so_imul (hdg : decode cc pc = .ok (.imul, 1)) : am_ok Ts cc nL own pc (o_ib (pc + 1) f_mul) := by
  intro ad cA D sk Ns p l e R s m args below meth c H locs Q ls al st G cf hj hC hS ho k
  obtain ⟨hx, hb, -⟩ := hC
  unfold o_ib at ho
  split at ho
  · rename_i b a st'
    cases ho
    have k := k H locs ls hS
    have e9 : am_rp ad (vI (f_mul a b)) = .int (am_i a * am_i b) := congrArg _ (am_i_mul a b)
    rw [List.map_cons, e9] at k
    exact lv_imul hx hb hdg k
  · cases ho
theorem so_iand (hdg : decode cc pc = .ok (.iand, 1)) : am_ok Ts cc nL own pc (o_ib (pc + 1) f_and) := by
  intro ad cA D sk Ns p l e R s m args below meth c H locs Q ls al st G cf hj hC hS ho k
  obtain ⟨hx, hb, -⟩ := hC
  unfold o_ib at ho
  split at ho
  · rename_i b a st'
    cases ho
    have k := k H locs ls hS
    have e9 : am_rp ad (vI (f_and a b)) = .int (am_i a &&& am_i b) := congrArg _ (am_i_t _)
    rw [List.map_cons, e9] at k
    exact lv_iand hx hb hdg k
  · cases ho
theorem so_ior (hdg : decode cc pc = .ok (.ior, 1)) : am_ok Ts cc nL own pc (o_ib (pc + 1) f_or) := by
  intro ad cA D sk Ns p l e R s m args below meth c H locs Q ls al st G cf hj hC hS ho k
  obtain ⟨hx, hb, -⟩ := hC
  unfold o_ib at ho
  split at ho
  · rename_i b a st'
    cases ho
    have k := k H locs ls hS
    have e9 : am_rp ad (vI (f_or a b)) = .int (am_i a ||| am_i b) := congrArg _ (am_i_t _)
    rw [List.map_cons, e9] at k
    exact lv_ior hx hb hdg k
  · cases ho
theorem so_ixor (hdg : decode cc pc = .ok (.ixor, 1)) : am_ok Ts cc nL own pc (o_ib (pc + 1) f_xor) := by
  intro ad cA D sk Ns p l e R s m args below meth c H locs Q ls al st G cf hj hC hS ho k
  obtain ⟨hx, hb, -⟩ := hC
  unfold o_ib at ho
  split at ho
  · rename_i b a st'
    cases ho
    have k := k H locs ls hS
    have e9 : am_rp ad (vI (f_xor a b)) = .int (am_i a ^^^ am_i b) := congrArg _ (am_i_t _)
    rw [List.map_cons, e9] at k
    exact lv_ixor hx hb hdg k
  · cases ho
theorem so_ishl (hdg : decode cc pc = .ok (.ishl, 1)) : am_ok Ts cc nL own pc (o_ib (pc + 1) f_shl) := by
  intro ad cA D sk Ns p l e R s m args below meth c H locs Q ls al st G cf hj hC hS ho k
  obtain ⟨hx, hb, -⟩ := hC
  unfold o_ib at ho
  split at ho
  · rename_i b a st'
    cases ho
    have k := k H locs ls hS
    have e9 : am_rp ad (vI (f_shl a b)) = .int (am_i a <<< (am_i b &&& 31)) := congrArg _ (am_i_t _)
    rw [List.map_cons, e9] at k
    exact lv_ishl hx hb hdg k
  · cases ho
theorem so_ishr (hdg : decode cc pc = .ok (.ishr, 1)) : am_ok Ts cc nL own pc (o_ib (pc + 1) f_shr) := by
  intro ad cA D sk Ns p l e R s m args below meth c H locs Q ls al st G cf hj hC hS ho k
  obtain ⟨hx, hb, -⟩ := hC
  unfold o_ib at ho
  split at ho
  · rename_i b a st'
    cases ho
    have k := k H locs ls hS
    have e9 : am_rp ad (vI (f_shr a b)) = .int (am_i a >>> (am_i b &&& 31)) := congrArg _ (am_i_t _)
    rw [List.map_cons, e9] at k
    exact lv_ishr hx hb hdg k
  · cases ho
theorem so_iushr (hdg : decode cc pc = .ok (.iushr, 1)) : am_ok Ts cc nL own pc (o_ib (pc + 1) f_ushr) := by
  intro ad cA D sk Ns p l e R s m args below meth c H locs Q ls al st G cf hj hC hS ho k
  obtain ⟨hx, hb, -⟩ := hC
  unfold o_ib at ho
  split at ho
  · rename_i b a st'
    cases ho
    have k := k H locs ls hS
    have e9 : am_rp ad (vI (f_ushr a b)) = .int (((am_i a).toUInt32 >>> ((am_i b).toUInt32 &&& Int32.toUInt32 31)).toInt32) := congrArg _ (am_i_t _)
    rw [List.map_cons, e9] at k
    exact lv_iushr hx hb hdg rfl k
  · cases ho
theorem so_idiv (hdg : decode cc pc = .ok (.idiv, 1)) : am_ok Ts cc nL own pc (o_id (pc + 1) f_div) := by
  intro ad cA D sk Ns p l e R s m args below meth c H locs Q ls al st G cf hj hC hS ho k
  obtain ⟨hx, hb, -⟩ := hC
  unfold o_id at ho
  split at ho
  · split at ho
    · cases ho
    · rename_i b a st' hne
      cases ho
      have k := k H locs ls hS
      have e9 : am_rp ad (vI (f_div a b)) = .int (am_i a / am_i b) := congrArg _ (am_i_t _)
      rw [List.map_cons, e9] at k
      exact lv_idiv hx hb hdg hne k
  · cases ho
theorem so_irem (hdg : decode cc pc = .ok (.irem, 1)) : am_ok Ts cc nL own pc (o_id (pc + 1) f_rem) := by
  intro ad cA D sk Ns p l e R s m args below meth c H locs Q ls al st G cf hj hC hS ho k
  obtain ⟨hx, hb, -⟩ := hC
  unfold o_id at ho
  split at ho
  · split at ho
    · cases ho
    · rename_i b a st' hne
      cases ho
      have k := k H locs ls hS
      have e9 : am_rp ad (vI (f_rem a b)) = .int (am_i a - am_i a / am_i b * am_i b) := congrArg _ (am_i_t _)
      rw [List.map_cons, e9] at k
      exact lv_irem hx hb hdg hne k
  · cases ho
theorem so_ladd (hdg : decode cc pc = .ok (.ladd, 1)) : am_ok Ts cc nL own pc (o_lb (pc + 1) f_add) := by
  intro ad cA D sk Ns p l e R s m args below meth c H locs Q ls al st G cf hj hC hS ho k
  obtain ⟨hx, hb, -⟩ := hC
  unfold o_lb at ho
  split at ho
  · rename_i b a st'
    cases ho
    have k := k H locs ls hS
    have e9 : am_rp ad (vL (f_add a b)) = .long (am_l a + am_l b) := congrArg _ (am_l_add a b)
    rw [List.map_cons, e9] at k
    exact lv_ladd hx hb hdg k
  · cases ho
theorem so_lsub (hdg : decode cc pc = .ok (.lsub, 1)) : am_ok Ts cc nL own pc (o_lb (pc + 1) f_sub) := by
  intro ad cA D sk Ns p l e R s m args below meth c H locs Q ls al st G cf hj hC hS ho k
  obtain ⟨hx, hb, -⟩ := hC
  unfold o_lb at ho
  split at ho
  · rename_i b a st'
    cases ho
    have k := k H locs ls hS
    have e9 : am_rp ad (vL (f_sub a b)) = .long (am_l a - am_l b) := congrArg _ (am_l_sub a b)
    rw [List.map_cons, e9] at k
    exact lv_lsub hx hb hdg k
  · cases ho
theorem so_lmul (hdg : decode cc pc = .ok (.lmul, 1)) : am_ok Ts cc nL own pc (o_lb (pc + 1) f_mul) := by
  intro ad cA D sk Ns p l e R s m args below meth c H locs Q ls al st G cf hj hC hS ho k
  obtain ⟨hx, hb, -⟩ := hC
  unfold o_lb at ho
  split at ho
  · rename_i b a st'
    cases ho
    have k := k H locs ls hS
    have e9 : am_rp ad (vL (f_mul a b)) = .long (am_l a * am_l b) := congrArg _ (am_l_mul a b)
    rw [List.map_cons, e9] at k
    exact lv_lmul hx hb hdg k
  · cases ho
theorem so_lxor (hdg : decode cc pc = .ok (.lxor, 1)) : am_ok Ts cc nL own pc (o_lb (pc + 1) f_lxor) := by
  intro ad cA D sk Ns p l e R s m args below meth c H locs Q ls al st G cf hj hC hS ho k
  obtain ⟨hx, hb, -⟩ := hC
  unfold o_lb at ho
  split at ho
  · rename_i b a st'
    cases ho
    have k := k H locs ls hS
    have e9 : am_rp ad (vL (f_lxor a b)) = .long (am_l a ^^^ am_l b) := congrArg _ (am_l_t _)
    rw [List.map_cons, e9] at k
    exact lv_lxor hx hb hdg k
  · cases ho
theorem so_ldiv (hdg : decode cc pc = .ok (.ldiv, 1)) : am_ok Ts cc nL own pc (o_ld (pc + 1) f_ldiv) := by
  intro ad cA D sk Ns p l e R s m args below meth c H locs Q ls al st G cf hj hC hS ho k
  obtain ⟨hx, hb, -⟩ := hC
  unfold o_ld at ho
  split at ho
  · split at ho
    · cases ho
    · rename_i b a st' hne
      cases ho
      have k := k H locs ls hS
      have e9 : am_rp ad (vL (f_ldiv a b)) = .long (am_l a / am_l b) := congrArg _ (am_l_t _)
      rw [List.map_cons, e9] at k
      exact lv_ldiv hx hb hdg hne k
  · cases ho
theorem so_lrem (hdg : decode cc pc = .ok (.lrem, 1)) : am_ok Ts cc nL own pc (o_ld (pc + 1) f_lrem) := by
  intro ad cA D sk Ns p l e R s m args below meth c H locs Q ls al st G cf hj hC hS ho k
  obtain ⟨hx, hb, -⟩ := hC
  unfold o_ld at ho
  split at ho
  · split at ho
    · cases ho
    · rename_i b a st' hne
      cases ho
      have k := k H locs ls hS
      have e9 : am_rp ad (vL (f_lrem a b)) = .long (am_l a - am_l a / am_l b * am_l b) := congrArg _ (am_l_t _)
      rw [List.map_cons, e9] at k
      exact lv_lrem hx hb hdg hne k
  · cases ho
def f_neg (a : Int) : Int := -a
theorem so_ineg (hdg : decode cc pc = .ok (.ineg, 1)) : am_ok Ts cc nL own pc (o_iu (pc + 1) f_neg) := by
  intro ad cA D sk Ns p l e R s m args below meth c H locs Q ls al st G cf hj hC hS ho k
  obtain ⟨hx, hb, -⟩ := hC
  unfold o_iu at ho
  split at ho
  · rename_i a st'
    cases ho
    have k := k H locs ls hS
    have e9 : am_rp ad (vI (f_neg a)) = .int (-am_i a) := congrArg _ (am_i_neg a)
    rw [List.map_cons, e9] at k
    exact lv_ineg hx hb hdg k
  · cases ho
theorem so_lneg (hdg : decode cc pc = .ok (.lneg, 1)) : am_ok Ts cc nL own pc (o_lu (pc + 1) f_neg) := by
  intro ad cA D sk Ns p l e R s m args below meth c H locs Q ls al st G cf hj hC hS ho k
  obtain ⟨hx, hb, -⟩ := hC
  unfold o_lu at ho
  split at ho
  · rename_i a st'
    cases ho
    have k := k H locs ls hS
    have e9 : am_rp ad (vL (f_neg a)) = .long (-am_l a) := congrArg _ (am_l_neg a)
    rw [List.map_cons, e9] at k
    exact lv_lneg hx hb hdg k
  · cases ho
theorem am_i2l (x : Int32) : x.toInt64 = am_l x.toInt := by
  apply Int64.toInt_inj.mp
  have h1 := fb_rng' x
  rw [Int32.toInt_toInt64, am_l, Int64.toInt_ofInt]
  have h2 : (Int64.size : Int) = 18446744073709551616 := rfl
  exact (Int.bmod_eq_of_le (by omega) (by omega)).symm
theorem am_l2i (a : Int) : (am_l a).toInt32 = am_i a := by
  rw [am_l, am_i]
  exact Int64.toInt32_ofInt
theorem so_i2l (hdg : decode cc pc = .ok (.i2l, 1)) : am_ok Ts cc nL own pc (o_i2l (pc + 1)) := by
  intro ad cA D sk Ns p l e R s m args below meth c H locs Q ls al st G cf hj hC hS ho k
  obtain ⟨hx, hb, -⟩ := hC
  unfold o_i2l at ho
  split at ho
  · rename_i a st'
    cases ho
    exact lv_i2l hx hb hdg (am_i2l _) (k H locs ls hS)
  · cases ho
theorem so_l2i (hdg : decode cc pc = .ok (.l2i, 1)) : am_ok Ts cc nL own pc (o_l2i (pc + 1)) := by
  intro ad cA D sk Ns p l e R s m args below meth c H locs Q ls al st G cf hj hC hS ho k
  obtain ⟨hx, hb, -⟩ := hC
  unfold o_l2i at ho
  split at ho
  · rename_i a st'
    cases ho
    exact lv_l2i hx hb hdg (am_l2i a) (k H locs ls hS)
  · cases ho
theorem so_lcmp (hdg : decode cc pc = .ok (.lcmp, 1)) : am_ok Ts cc nL own pc (o_lcmp (pc + 1)) := by
  intro ad cA D sk Ns p l e R s m args below meth c H locs Q ls al st G cf hj hC hS ho k
  obtain ⟨hx, hb, -⟩ := hC
  unfold o_lcmp at ho
  split at ho
  · rename_i b a st'
    cases ho
    have k := k H locs ls hS
    have e9 : am_rp ad (vI (lg_cmp (am_l a) (am_l b)).toInt) = .int (lg_cmp (am_l a) (am_l b)) := congrArg _ (am_i_t _)
    rw [List.map_cons, e9] at k
    exact W.lcmp hx hb hdg k
  · cases ho
theorem so_dup (hdg : decode cc pc = .ok (.dup, 1)) : am_ok Ts cc nL own pc (o_dup (pc + 1)) := by
  intro ad cA D sk Ns p l e R s m args below meth c H locs Q ls al st G cf hj hC hS ho k
  obtain ⟨hx, hb, -⟩ := hC
  unfold o_dup at ho
  split at ho
  · split at ho
    · rename_i v st' hv
      cases ho
      exact lv_dup hx hb hdg (am_rp_cat hv) (k H locs ls hS)
    · cases ho
  · cases ho
theorem so_dup2 (hdg : decode cc pc = .ok (.dup2, 1)) : am_ok Ts cc nL own pc (o_dup2 (pc + 1)) := by
  intro ad cA D sk Ns p l e R s m args below meth c H locs Q ls al st G cf hj hC hS ho k
  obtain ⟨hx, hb, -⟩ := hC
  unfold o_dup2 at ho
  split at ho
  · split at ho
    · split at ho
      · rename_i v w st' hv hw
        cases ho
        exact lv_dup2_11 hx hb hdg (am_rp_cat hv) (am_rp_cat hw) (k H locs ls hS)
      · cases ho
    · cases ho
  · cases ho
theorem so_pop (hdg : decode cc pc = .ok (.pop, 1)) : am_ok Ts cc nL own pc (o_pop (pc + 1)) := by
  intro ad cA D sk Ns p l e R s m args below meth c H locs Q ls al st G cf hj hC hS ho k
  obtain ⟨hx, hb, -⟩ := hC
  unfold o_pop at ho
  split at ho
  · split at ho
    · rename_i v st' hv
      cases ho
      exact lv_pop hx hb hdg (am_rp_cat hv) (k H locs ls hS)
    · cases ho
  · cases ho
def q_eq (x : Int32) : Bool := decide (x = 0)
def r_eq (x y : Int32) : Bool := decide (x = y)
theorem so_if_eq {off : Int} {t : Nat} (hdg : decode cc pc = .ok (.ifCond .eq off, 3)) (ht : (pc : Int) + off = (t : Int)) : am_ok Ts cc nL own pc (o_if t (pc + 3) q_eq) := by
  intro ad cA D sk Ns p l e R s m args below meth c H locs Q ls al st G cf hj hC hS ho k
  obtain ⟨hx, hb, -⟩ := hC
  unfold o_if at ho
  split at ho
  · rename_i a st'
    cases ho
    have k := k H locs ls hS
    refine lv_if_eq hx hb hdg ht (fun h => ?_) (fun h => ?_)
    · rw [if_pos (show q_eq (am_i a) = true from decide_eq_true h)] at k
      exact k
    · rw [if_neg (show ¬ q_eq (am_i a) = true from fun q => h (of_decide_eq_true q))] at k
      exact k
  · cases ho
theorem so_ic_eq {off : Int} {t : Nat} (hdg : decode cc pc = .ok (.if_icmp .eq off, 3)) (ht : (pc : Int) + off = (t : Int)) : am_ok Ts cc nL own pc (o_ic t (pc + 3) r_eq) := by
  intro ad cA D sk Ns p l e R s m args below meth c H locs Q ls al st G cf hj hC hS ho k
  obtain ⟨hx, hb, -⟩ := hC
  unfold o_ic at ho
  split at ho
  · rename_i b a st'
    cases ho
    have k := k H locs ls hS
    refine lv_icmp_eq hx hb hdg ht (fun h => ?_) (fun h => ?_)
    · rw [if_pos (show r_eq (am_i a) (am_i b) = true from decide_eq_true h)] at k
      exact k
    · rw [if_neg (show ¬ r_eq (am_i a) (am_i b) = true from fun q => h (of_decide_eq_true q))] at k
      exact k
  · cases ho
def q_ne (x : Int32) : Bool := decide (x ≠ 0)
def r_ne (x y : Int32) : Bool := decide (x ≠ y)
theorem so_if_ne {off : Int} {t : Nat} (hdg : decode cc pc = .ok (.ifCond .ne off, 3)) (ht : (pc : Int) + off = (t : Int)) : am_ok Ts cc nL own pc (o_if t (pc + 3) q_ne) := by
  intro ad cA D sk Ns p l e R s m args below meth c H locs Q ls al st G cf hj hC hS ho k
  obtain ⟨hx, hb, -⟩ := hC
  unfold o_if at ho
  split at ho
  · rename_i a st'
    cases ho
    have k := k H locs ls hS
    refine lv_if_ne hx hb hdg ht (fun h => ?_) (fun h => ?_)
    · rw [if_pos (show q_ne (am_i a) = true from decide_eq_true h)] at k
      exact k
    · rw [if_neg (show ¬ q_ne (am_i a) = true from fun q => absurd h (of_decide_eq_true q))] at k
      exact k
  · cases ho
theorem so_ic_ne {off : Int} {t : Nat} (hdg : decode cc pc = .ok (.if_icmp .ne off, 3)) (ht : (pc : Int) + off = (t : Int)) : am_ok Ts cc nL own pc (o_ic t (pc + 3) r_ne) := by
  intro ad cA D sk Ns p l e R s m args below meth c H locs Q ls al st G cf hj hC hS ho k
  obtain ⟨hx, hb, -⟩ := hC
  unfold o_ic at ho
  split at ho
  · rename_i b a st'
    cases ho
    have k := k H locs ls hS
    refine lv_icmp_ne hx hb hdg ht (fun h => ?_) (fun h => ?_)
    · rw [if_pos (show r_ne (am_i a) (am_i b) = true from decide_eq_true h)] at k
      exact k
    · rw [if_neg (show ¬ r_ne (am_i a) (am_i b) = true from fun q => absurd h (of_decide_eq_true q))] at k
      exact k
  · cases ho
def q_lt (x : Int32) : Bool := decide (x < 0)
def r_lt (x y : Int32) : Bool := decide (x < y)
theorem so_if_lt {off : Int} {t : Nat} (hdg : decode cc pc = .ok (.ifCond .lt off, 3)) (ht : (pc : Int) + off = (t : Int)) : am_ok Ts cc nL own pc (o_if t (pc + 3) q_lt) := by
  intro ad cA D sk Ns p l e R s m args below meth c H locs Q ls al st G cf hj hC hS ho k
  obtain ⟨hx, hb, -⟩ := hC
  unfold o_if at ho
  split at ho
  · rename_i a st'
    cases ho
    have k := k H locs ls hS
    refine lv_if_lt hx hb hdg ht (fun h => ?_) (fun h => ?_)
    · rw [if_pos (show q_lt (am_i a) = true from decide_eq_true h)] at k
      exact k
    · rw [if_neg (show ¬ q_lt (am_i a) = true from fun q => h (of_decide_eq_true q))] at k
      exact k
  · cases ho
theorem so_ic_lt {off : Int} {t : Nat} (hdg : decode cc pc = .ok (.if_icmp .lt off, 3)) (ht : (pc : Int) + off = (t : Int)) : am_ok Ts cc nL own pc (o_ic t (pc + 3) r_lt) := by
  intro ad cA D sk Ns p l e R s m args below meth c H locs Q ls al st G cf hj hC hS ho k
  obtain ⟨hx, hb, -⟩ := hC
  unfold o_ic at ho
  split at ho
  · rename_i b a st'
    cases ho
    have k := k H locs ls hS
    refine lv_icmp_lt hx hb hdg ht (fun h => ?_) (fun h => ?_)
    · rw [if_pos (show r_lt (am_i a) (am_i b) = true from decide_eq_true h)] at k
      exact k
    · rw [if_neg (show ¬ r_lt (am_i a) (am_i b) = true from fun q => h (of_decide_eq_true q))] at k
      exact k
  · cases ho
def q_ge (x : Int32) : Bool := decide (0 ≤ x)
def r_ge (x y : Int32) : Bool := decide (y ≤ x)
theorem so_if_ge {off : Int} {t : Nat} (hdg : decode cc pc = .ok (.ifCond .ge off, 3)) (ht : (pc : Int) + off = (t : Int)) : am_ok Ts cc nL own pc (o_if t (pc + 3) q_ge) := by
  intro ad cA D sk Ns p l e R s m args below meth c H locs Q ls al st G cf hj hC hS ho k
  obtain ⟨hx, hb, -⟩ := hC
  unfold o_if at ho
  split at ho
  · rename_i a st'
    cases ho
    have k := k H locs ls hS
    refine lv_if_ge hx hb hdg ht (fun h => ?_) (fun h => ?_)
    · rw [if_pos (show q_ge (am_i a) = true from decide_eq_true h)] at k
      exact k
    · rw [if_neg (show ¬ q_ge (am_i a) = true from fun q => h (of_decide_eq_true q))] at k
      exact k
  · cases ho
theorem so_ic_ge {off : Int} {t : Nat} (hdg : decode cc pc = .ok (.if_icmp .ge off, 3)) (ht : (pc : Int) + off = (t : Int)) : am_ok Ts cc nL own pc (o_ic t (pc + 3) r_ge) := by
  intro ad cA D sk Ns p l e R s m args below meth c H locs Q ls al st G cf hj hC hS ho k
  obtain ⟨hx, hb, -⟩ := hC
  unfold o_ic at ho
  split at ho
  · rename_i b a st'
    cases ho
    have k := k H locs ls hS
    refine lv_icmp_ge hx hb hdg ht (fun h => ?_) (fun h => ?_)
    · rw [if_pos (show r_ge (am_i a) (am_i b) = true from decide_eq_true h)] at k
      exact k
    · rw [if_neg (show ¬ r_ge (am_i a) (am_i b) = true from fun q => h (of_decide_eq_true q))] at k
      exact k
  · cases ho
def q_gt (x : Int32) : Bool := decide (0 < x)
def r_gt (x y : Int32) : Bool := decide (y < x)
theorem so_if_gt {off : Int} {t : Nat} (hdg : decode cc pc = .ok (.ifCond .gt off, 3)) (ht : (pc : Int) + off = (t : Int)) : am_ok Ts cc nL own pc (o_if t (pc + 3) q_gt) := by
  intro ad cA D sk Ns p l e R s m args below meth c H locs Q ls al st G cf hj hC hS ho k
  obtain ⟨hx, hb, -⟩ := hC
  unfold o_if at ho
  split at ho
  · rename_i a st'
    cases ho
    have k := k H locs ls hS
    refine lv_if_gt hx hb hdg ht (fun h => ?_) (fun h => ?_)
    · rw [if_pos (show q_gt (am_i a) = true from decide_eq_true h)] at k
      exact k
    · rw [if_neg (show ¬ q_gt (am_i a) = true from fun q => h (of_decide_eq_true q))] at k
      exact k
  · cases ho
theorem so_ic_gt {off : Int} {t : Nat} (hdg : decode cc pc = .ok (.if_icmp .gt off, 3)) (ht : (pc : Int) + off = (t : Int)) : am_ok Ts cc nL own pc (o_ic t (pc + 3) r_gt) := by
  intro ad cA D sk Ns p l e R s m args below meth c H locs Q ls al st G cf hj hC hS ho k
  obtain ⟨hx, hb, -⟩ := hC
  unfold o_ic at ho
  split at ho
  · rename_i b a st'
    cases ho
    have k := k H locs ls hS
    refine lv_icmp_gt hx hb hdg ht (fun h => ?_) (fun h => ?_)
    · rw [if_pos (show r_gt (am_i a) (am_i b) = true from decide_eq_true h)] at k
      exact k
    · rw [if_neg (show ¬ r_gt (am_i a) (am_i b) = true from fun q => h (of_decide_eq_true q))] at k
      exact k
  · cases ho
def q_le (x : Int32) : Bool := decide (x ≤ 0)
def r_le (x y : Int32) : Bool := decide (x ≤ y)
theorem so_if_le {off : Int} {t : Nat} (hdg : decode cc pc = .ok (.ifCond .le off, 3)) (ht : (pc : Int) + off = (t : Int)) : am_ok Ts cc nL own pc (o_if t (pc + 3) q_le) := by
  intro ad cA D sk Ns p l e R s m args below meth c H locs Q ls al st G cf hj hC hS ho k
  obtain ⟨hx, hb, -⟩ := hC
  unfold o_if at ho
  split at ho
  · rename_i a st'
    cases ho
    have k := k H locs ls hS
    refine lv_if_le hx hb hdg ht (fun h => ?_) (fun h => ?_)
    · rw [if_pos (show q_le (am_i a) = true from decide_eq_true h)] at k
      exact k
    · rw [if_neg (show ¬ q_le (am_i a) = true from fun q => h (of_decide_eq_true q))] at k
      exact k
  · cases ho
theorem so_ic_le {off : Int} {t : Nat} (hdg : decode cc pc = .ok (.if_icmp .le off, 3)) (ht : (pc : Int) + off = (t : Int)) : am_ok Ts cc nL own pc (o_ic t (pc + 3) r_le) := by
  intro ad cA D sk Ns p l e R s m args below meth c H locs Q ls al st G cf hj hC hS ho k
  obtain ⟨hx, hb, -⟩ := hC
  unfold o_ic at ho
  split at ho
  · rename_i b a st'
    cases ho
    have k := k H locs ls hS
    refine lv_icmp_le hx hb hdg ht (fun h => ?_) (fun h => ?_)
    · rw [if_pos (show r_le (am_i a) (am_i b) = true from decide_eq_true h)] at k
      exact k
    · rw [if_neg (show ¬ r_le (am_i a) (am_i b) = true from fun q => h (of_decide_eq_true q))] at k
      exact k
  · cases ho
theorem so_go {off : Int} {t : Nat} (hdg : decode cc pc = .ok (.goto off, 3)) (ht : (pc : Int) + off = (t : Int)) : am_ok Ts cc nL own pc (o_go t) := by
  intro ad cA D sk Ns p l e R s m args below meth c H locs Q ls al st G cf hj hC hS ho k
  obtain ⟨hx, hb, -⟩ := hC
  cases ho
  exact lv_goto hx hb hdg ht (k H locs ls hS)
def f_sw (pc : Nat) (dflt lo hi : Int) (offs : Array Int) (x : Int) : Nat := if x < lo ∨ hi < x then (pc + dflt).toNat else (pc + offs.getD (x - lo).toNat 0).toNat
theorem so_sw {dflt lo hi : Int} {offs : Array Int} {len : Nat} (hdg : decode cc pc = .ok (.tableswitch dflt lo hi offs, len)) (h1 : 0 ≤ (pc : Int) + dflt) (h2 : ∀ o ∈ offs.toList, 0 ≤ (pc : Int) + o) (h3 : hi - lo < offs.size) : am_ok Ts cc nL own pc (o_sw (f_sw pc dflt lo hi offs)) := by
  intro ad cA D sk Ns p l e R s m args below meth c H locs Q ls al st G cf hj hC hS ho k
  obtain ⟨hx, hb, -⟩ := hC
  unfold o_sw at ho
  split at ho
  · rename_i a st'
    cases ho
    have k := k H locs ls hS
    by_cases h : (am_i a).toInt < lo ∨ hi < (am_i a).toInt
    · refine lv_tableOut hx hb hdg h ?_ k
      show _ = ((f_sw pc dflt lo hi offs (am_i a).toInt : Nat) : Int)
      rw [f_sw, if_pos h]
      exact (Int.toNat_of_nonneg h1).symm
    · have hlt : ((am_i a).toInt - lo).toNat < offs.size := by omega
      refine lv_tableIn hx hb hdg (fun q => h (Or.inl q)) (fun q => h (Or.inr q)) (Array.getElem?_eq_getElem hlt) ?_ k
      show _ = ((f_sw pc dflt lo hi offs (am_i a).toInt : Nat) : Int)
      rw [f_sw, if_neg h, Array.getD_eq_getD_getElem?, Array.getElem?_eq_getElem hlt]
      exact (Int.toNat_of_nonneg (h2 _ (by simp))).symm
  · cases ho
def f_lk (pc : Nat) (dflt : Int) (ps : List (Int × Int)) (x : Int) : Nat := (pc + Op.lookupswitch.offset ps dflt x).toNat
theorem so_lk2 {dflt : Int} {ps : Array (Int × Int)} {len : Nat} (hdg : decode cc pc = .ok (.lookupswitch dflt ps, len)) (hp : (ps.toList.zip (ps.toList.drop 1)).all (fun (a, next) => a.1 < next.1) = true) (h0 : ∀ x, 0 ≤ (pc : Int) + Op.lookupswitch.offset ps.toList dflt x) : am_ok Ts cc nL own pc (o_sw (f_lk pc dflt ps.toList)) := by
  intro ad cA D sk Ns p l e R s m args below meth c H locs Q ls al st G cf hj hC hS ho k
  obtain ⟨hx, hb, -⟩ := hC
  unfold o_sw at ho
  split at ho
  · rename_i a st'
    cases ho
    exact lv_lookup hx hb hdg hp rfl (Int.toNat_of_nonneg (h0 _)).symm (k H locs ls hS)
  · cases ho
end AmOps2
