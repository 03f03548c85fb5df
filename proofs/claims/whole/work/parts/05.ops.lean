/-! each step of the small machine is the machine's -/
section AmOps
variable {Ts : List Cond} {cc : ByteArray} {nL pc : Nat} {own : String}
theorem so_k {v : Int} (hdg : decode cc pc = .ok (.iconst v, 1)) : am_ok Ts cc nL own pc (o_k (pc + 1) (vI v)) := by
  intro ad cA D sk Ns p l e R s m args below meth c H locs Q ls al st G cf hj hC hS ho k
  obtain ⟨hx, hb, -⟩ := hC
  cases ho
  exact lv_iconst (v := am_i v) hx hb hdg rfl (k H locs ls hS)
theorem so_bp {v : Int} (hv : (Int8.ofInt v).toInt32 = am_i v) (hdg : decode cc pc = .ok (.bipush v, 2)) : am_ok Ts cc nL own pc (o_k (pc + 2) (vI v)) := by
  intro ad cA D sk Ns p l e R s m args below meth c H locs Q ls al st G cf hj hC hS ho k
  obtain ⟨hx, hb, -⟩ := hC
  cases ho
  exact lv_bipush (v := am_i v) hx hb hdg hv (k H locs ls hS)
theorem so_sp {v : Int} (hv : (Int16.ofInt v).toInt32 = am_i v) (hdg : decode cc pc = .ok (.sipush v, 3)) : am_ok Ts cc nL own pc (o_k (pc + 3) (vI v)) := by
  intro ad cA D sk Ns p l e R s m args below meth c H locs Q ls al st G cf hj hC hS ho k
  obtain ⟨hx, hb, -⟩ := hC
  cases ho
  exact lv_sipush (v := am_i v) hx hb hdg hv (k H locs ls hS)
theorem so_lk {v : Int} {n : Fin 2} (hn : (Int64.ofNat n.val) = am_l v) (hdg : decode cc pc = .ok (.lconst n, 1)) : am_ok Ts cc nL own pc (o_k (pc + 1) (vL v)) := by
  intro ad cA D sk Ns p l e R s m args below meth c H locs Q ls al st G cf hj hC hS ho k
  obtain ⟨hx, hb, -⟩ := hC
  cases ho
  exact lv_lconst (v := am_l v) hx hb hdg hn (k H locs ls hS)
theorem so_ldc {v : Int} {ix : Nat} (hw : Cond.constant own ix (am_i v) ∈ Ts) (hdg : decode cc pc = .ok (.ldc ix, 2)) : am_ok Ts cc nL own pc (o_k (pc + 2) (vI v)) := by
  intro ad cA D sk Ns p l e R s m args below meth c H locs Q ls al st G cf hj hC hS ho k
  obtain ⟨hx, hb, -, hown, hts, -⟩ := hC
  cases ho
  exact lv_ldc hx hb hown (hts _ hw) hdg (k H locs ls hS)
theorem so_ldcw {v : Int} {ix : Nat} (hw : Cond.constant own ix (am_i v) ∈ Ts) (hdg : decode cc pc = .ok (.ldc_w ix, 3)) : am_ok Ts cc nL own pc (o_k (pc + 3) (vI v)) := by
  intro ad cA D sk Ns p l e R s m args below meth c H locs Q ls al st G cf hj hC hS ho k
  obtain ⟨hx, hb, -, hown, hts, -⟩ := hC
  cases ho
  exact lv_ldcw hx hb hown (hts _ hw) hdg (k H locs ls hS)
theorem so_ldc2 {v : Int} {ix : Nat} (hw : Cond.constantLong own ix (am_l v) ∈ Ts) (hdg : decode cc pc = .ok (.ldc2_w ix, 3)) : am_ok Ts cc nL own pc (o_k (pc + 3) (vL v)) := by
  intro ad cA D sk Ns p l e R s m args below meth c H locs Q ls al st G cf hj hC hS ho k
  obtain ⟨hx, hb, -, hown, hts, -⟩ := hC
  cases ho
  exact lv_ldc2 hx hb hown (hts _ hw) hdg (k H locs ls hS)
theorem so_gs {ix : Nat} (hw : Cond.fieldLink own ix "SeasonOfHours$Planner" "PLACES" "[J" ∈ Ts) (hdg : decode cc pc = .ok (.getstatic ix, 3)) : am_ok Ts cc nL own pc (o_k (pc + 3) (vR 1000)) := by
  intro ad cA D sk Ns p l e R s m args below meth c H locs Q ls al st G cf hj hC hS ho k
  obtain ⟨hx, hb, -, hown, hts, -, -, hZ⟩ := hC
  cases ho
  exact va_gets hx hb hZ.1 hS.2.1 hown (hts _ hw) (fun _ h => h) hdg (k H locs ls hS)
theorem so_il {i n : Nat} {q : Instr} (hi : (∃ f : Fin 4, q = .iload_n f ∧ (f : Nat) = i ∧ n = pc + 1) ∨ q = .iload i ∧ n = pc + 2) (hdg : decode cc pc = .ok (q, n - pc)) : am_ok Ts cc nL own pc (o_il n i) := by
  intro ad cA D sk Ns p l e R s m args below meth c H locs Q ls al st G cf hj hC hS ho k
  obtain ⟨hx, hb, -⟩ := hC
  unfold o_il at ho
  split at ho
  · rename_i z hz
    cases ho
    have h1 := hS.2.2.2.2.2 i _ hz (by simp)
    have k := k H locs ls hS
    rcases hi with ⟨f, rfl, hf, rfl⟩ | ⟨rfl, rfl⟩
    · rw [show pc + 1 - pc = 1 by omega] at hdg
      exact lv_iload_n hx hb hdg hf h1 k
    · rw [show pc + 2 - pc = 2 by omega] at hdg
      exact lv_iload hx hb hdg h1 k
  · cases ho
theorem so_ll {i n : Nat} {q : Instr} (hi : (∃ f : Fin 4, q = .lload_n f ∧ (f : Nat) = i ∧ n = pc + 1) ∨ q = .lload i ∧ n = pc + 2) (hdg : decode cc pc = .ok (q, n - pc)) : am_ok Ts cc nL own pc (o_ll n i) := by
  intro ad cA D sk Ns p l e R s m args below meth c H locs Q ls al st G cf hj hC hS ho k
  obtain ⟨hx, hb, -⟩ := hC
  unfold o_ll at ho
  split at ho
  · rename_i z hz
    cases ho
    have h1 := hS.2.2.2.2.2 i _ hz (by simp)
    have k := k H locs ls hS
    rcases hi with ⟨f, rfl, hf, rfl⟩ | ⟨rfl, rfl⟩
    · rw [show pc + 1 - pc = 1 by omega] at hdg
      exact lv_lload_n hx hb hdg hf h1 k
    · rw [show pc + 2 - pc = 2 by omega] at hdg
      exact lv_lload hx hb hdg h1 k
  · cases ho
theorem so_al {i n : Nat} {q : Instr} (hi : (∃ f : Fin 4, q = .aload_n f ∧ (f : Nat) = i ∧ n = pc + 1) ∨ q = .aload i ∧ n = pc + 2) (hdg : decode cc pc = .ok (q, n - pc)) : am_ok Ts cc nL own pc (o_al n i) := by
  intro ad cA D sk Ns p l e R s m args below meth c H locs Q ls al st G cf hj hC hS ho k
  obtain ⟨hx, hb, -⟩ := hC
  unfold o_al at ho
  split at ho
  · rename_i z hz
    cases ho
    have h1 := hS.2.2.2.2.2 i _ hz (by simp)
    have k := k H locs ls hS
    rcases hi with ⟨f, rfl, hf, rfl⟩ | ⟨rfl, rfl⟩
    · rw [show pc + 1 - pc = 1 by omega] at hdg
      exact lv_aload_n hx hb hdg hf h1 k
    · rw [show pc + 2 - pc = 2 by omega] at hdg
      exact lv_aload hx hb hdg h1 k
  · cases ho
theorem so_is {i n : Nat} {q : Instr} (hi : (∃ f : Fin 4, q = .istore_n f ∧ (f : Nat) = i ∧ n = pc + 1) ∨ q = .istore i ∧ n = pc + 2) (hdg : decode cc pc = .ok (q, n - pc)) : am_ok Ts cc nL own pc (o_is n i) := by
  intro ad cA D sk Ns p l e R s m args below meth c H locs Q ls al st G cf hj hC hS ho k
  obtain ⟨hx, hb, -⟩ := hC
  unfold o_is at ho
  split at ho
  · split at ho
    · rename_i z st' hok
      cases ho
      have hlt : i < nL := by rw [← hS.2.2.2.1]; exact am_okst_lt hok
      rcases hi with ⟨f, rfl, hf, rfl⟩ | ⟨rfl, rfl⟩
      · rw [show pc + 1 - pc = 1 by omega] at hdg
        exact lv_istore_n hx hb hdg hf hS.2.2.has hlt rfl (fun ls' hl => k H locs ls' ⟨hS.1, hS.2.1, hS.2.2.st1 (v := vI z) hok hl⟩)
      · rw [show pc + 2 - pc = 2 by omega] at hdg
        exact lv_istore hx hb hdg hS.2.2.has hlt rfl (fun ls' hl => k H locs ls' ⟨hS.1, hS.2.1, hS.2.2.st1 (v := vI z) hok hl⟩)
    · cases ho
  · cases ho
theorem so_as {i n : Nat} {q : Instr} (hi : (∃ f : Fin 4, q = .astore_n f ∧ (f : Nat) = i ∧ n = pc + 1) ∨ q = .astore i ∧ n = pc + 2) (hdg : decode cc pc = .ok (q, n - pc)) : am_ok Ts cc nL own pc (o_as n i) := by
  intro ad cA D sk Ns p l e R s m args below meth c H locs Q ls al st G cf hj hC hS ho k
  obtain ⟨hx, hb, -⟩ := hC
  unfold o_as at ho
  split at ho
  · split at ho
    · rename_i z st' hok
      cases ho
      have hlt : i < nL := by rw [← hS.2.2.2.1]; exact am_okst_lt hok
      rcases hi with ⟨f, rfl, hf, rfl⟩ | ⟨rfl, rfl⟩
      · rw [show pc + 1 - pc = 1 by omega] at hdg
        exact lv_astore_n hx hb hdg hf hS.2.2.has hlt rfl (fun ls' hl => k H locs ls' ⟨hS.1, hS.2.1, hS.2.2.st1 (v := vR z) hok hl⟩)
      · rw [show pc + 2 - pc = 2 by omega] at hdg
        exact lv_astore hx hb hdg hS.2.2.has hlt rfl (fun ls' hl => k H locs ls' ⟨hS.1, hS.2.1, hS.2.2.st1 (v := vR z) hok hl⟩)
    · cases ho
  · cases ho
theorem so_ls {i n : Nat} {q : Instr} (hi : (∃ f : Fin 4, q = .lstore_n f ∧ (f : Nat) = i ∧ n = pc + 1) ∨ q = .lstore i ∧ n = pc + 2) (hdg : decode cc pc = .ok (q, n - pc)) : am_ok Ts cc nL own pc (o_ls n i) := by
  intro ad cA D sk Ns p l e R s m args below meth c H locs Q ls al st G cf hj hC hS ho k
  obtain ⟨hx, hb, -⟩ := hC
  unfold o_ls at ho
  split at ho
  · split at ho
    · split at ho
      · rename_i z st' hok hlt
        cases ho
        have hlt : i + 1 < nL := by rw [← hS.2.2.2.1]; exact hlt
        rcases hi with ⟨f, rfl, hf, rfl⟩ | ⟨rfl, rfl⟩
        · rw [show pc + 1 - pc = 1 by omega] at hdg
          exact lv_lstore_n hx hb hdg hf hS.2.2.has hlt rfl (fun ls' hl => k H locs ls' ⟨hS.1, hS.2.1, hS.2.2.st2 (v := vL z) hok hl⟩)
        · rw [show pc + 2 - pc = 2 by omega] at hdg
          exact lv_lstore hx hb hdg hS.2.2.has hlt rfl (fun ls' hl => k H locs ls' ⟨hS.1, hS.2.1, hS.2.2.st2 (v := vL z) hok hl⟩)
      · cases ho
    · cases ho
  · cases ho
theorem so_ii {i : Nat} {v : Int} (hdg : decode cc pc = .ok (.iinc i v, 3)) : am_ok Ts cc nL own pc (o_ii (pc + 3) i v) := by
  intro ad cA D sk Ns p l e R s m args below meth c H locs Q ls al st G cf hj hC hS ho k
  obtain ⟨hx, hb, -⟩ := hC
  unfold o_ii at ho
  split at ho
  · rename_i z hz
    cases ho
    have hok := hS.2.2.okst hz
    have hlt : i < nL := by rw [← hS.2.2.2.1]; exact am_okst_lt hok
    obtain ⟨kk, hkk⟩ := List.getElem?_of_mem (am_toL_mem (ad := ad).mpr ⟨i, vI z, hz, by simp, rfl⟩)
    exact lv_iinc (v := am_i (z + v)) hx hb hdg hS.2.2.has hkk (am_i_add z v).symm hlt rfl (fun ls' hl => k H locs ls' ⟨hS.1, hS.2.1, hS.2.2.st1 (v := vI (z + v)) hok hl⟩)
  · cases ho
end AmOps
