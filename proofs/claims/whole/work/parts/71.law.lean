/-! steps of the law -/
theorem nI_am (n : Nat) : nI n = am_i (n : Int) := by
  apply Int32.toBitVec_inj.mp
  rw [am_i_nat]
  rfl
theorem nI_plus (i k : Nat) : nI i + Int32.ofInt (k : Int) = nI (i + k) := by
  rw [nI_am, nI_am, show ((i + k : Nat) : Int) = (i : Int) + (k : Int) by omega, am_i_add]
  rfl
theorem am_run_ret {mt : MT} {sk : SK} : ∀ (n d k pc : Nat) (ls st : List AV) (G : AG) (r : Option AV) (G' : AG), am_run mt sk n d k pc ls st G = some (r, G') → ∃ st', am_ret (mt k).2.2.1 st' = some r := by
  intro n
  induction n with
  | zero =>
    intro d k pc ls st G r G' h
    simp [am_run] at h
  | succ n ih =>
    intro d k pc ls st G r G' h
    unfold am_run at h
    split at h
    · cases h
    · split at h
      · cases h
      · exact ih _ _ _ _ _ _ _ _ h
    · split at h
      · cases h
      · split at h
        · split at h
          · cases h
          · exact ih _ _ _ _ _ _ _ _ h
        · cases h
    · split at h
      · cases h
      · rename_i r0 hr0
        cases h
        exact ⟨_, hr0⟩
theorem ret_int {d j : Nat} {ls : List AV} {G G' : AG} {r : Option AV} (h : Ret d j ls G r G') (hj : (gm_mt j).2.2.1 = 1 ∨ (gm_mt j).2.2.1 = 2) : ∃ z : Int, r = some (vI z) := by
  obtain ⟨n, r1, G1, hrun, e1, e2⟩ := h
  subst e1
  obtain ⟨st, hst⟩ := am_run_ret _ _ _ _ _ _ _ _ _ hrun
  rcases hj with hj | hj <;> rw [hj] at hst <;> unfold am_ret at hst <;> split at hst
  all_goals first | (cases hst; exact ⟨_, rfl⟩) | (cases hst; done) | (rename_i q; cases q; done) | skip
  all_goals first | (split at hst; (cases hst; exact ⟨_, rfl⟩); (cases hst; done)) | (rename_i q _; cases q; done) | skip
def bl (x : Int32) : Int := if x = 0 then 0 else 1
theorem bl_01 (x : Int32) : bl x = 0 ∨ bl x = 1 := by
  unfold bl
  split
  · exact Or.inl rfl
  · exact Or.inr rfl
theorem lw_rd {p : Program} {l : Launch} {e : Env} {s : State} {m : MethodId} {below : List Frame} {meth : Method} {c : Code} {b L : Nat} {xs : Nat → Int32} (C0 : lw_At p s m meth c b L xs) (hL : L ≤ 2560) {H : Heap} {locs : List Loc} (hS : va_S (fun q => s.heap.size ≤ q) s.heap H locs) {cells slots i k : Nat} {ls : Array Slot} {rl : List (Nat × Value)} (hl : lv_has ls 7 ((0, .ref b) :: (4, .int (nI i)) :: rl)) (hi : i + k < L) {pc : Nat} (d0 : decode code pc = .ok (.aload_n 0, 1)) (d1 : decode code (pc + 1) = .ok (.iload 4, 2)) (d2 : decode code (pc + 3) = .ok (.iconst (k : Int), 1)) (d3 : decode code (pc + 4) = .ok (.iadd, 1)) (d4 : decode code (pc + 5) = .ok (.iaload, 1)) {st : List Value} {Q : State → Prop}
    (K : W p l e room_1 s m #[Value.ref b] below meth c H locs cells slots Q (F0 m (pc + 6) ls (.int (am_i (xs (i + k)).toInt) :: st))) :
    W p l e room_1 s m #[Value.ref b] below meth c H locs cells slots Q (F0 m pc ls st) := by
  obtain ⟨hx, hb, hr, hml, hown, hts, hX, hbl, hlocks, hgv⟩ := C0
  have hbA : ¬ (fun q : Nat => s.heap.size ≤ q) b := Nat.not_le.mpr hbl
  refine lv_aload_n hx hb d0 rfl (lv_at hl 0 rfl) ?_
  refine lv_iload hx hb d1 (lv_at hl 1 rfl) ?_
  refine lv_iconst hx hb d2 rfl ?_
  refine lv_iadd hx hb d3 ?_
  rw [nI_plus]
  refine va_sld hx hb hX hbl hbA hS (vp_in_nI hi (by omega)) d4 ?_
  have hc : (nI (i + k)).toNatClampNeg = i + k := by
    have h1 : (nI (i + k)).toInt = ((i + k : Nat) : Int) := nI_toInt (by omega)
    show (nI (i + k)).toInt.toNat = i + k
    rw [h1]
    omega
  rw [hc]
  rw [am_i_t] at K
  exact K
theorem lw_bl {p : Program} {l : Launch} {e : Env} {s : State} {m : MethodId} {below : List Frame} {meth : Method} {c : Code} {b L : Nat} {xs : Nat → Int32} (C0 : lw_At p s m meth c b L xs) (hL : L ≤ 2560) {H : Heap} {locs : List Loc} (hS : va_S (fun q => s.heap.size ≤ q) s.heap H locs) {cells slots i k : Nat} {ls : Array Slot} {rl : List (Nat × Value)} (hl : lv_has ls 7 ((0, .ref b) :: (4, .int (nI i)) :: rl)) (hi : i + k < L) {pc : Nat} (d0 : decode code pc = .ok (.aload_n 0, 1)) (d1 : decode code (pc + 1) = .ok (.iload 4, 2)) (d2 : decode code (pc + 3) = .ok (.iconst (k : Int), 1)) (d3 : decode code (pc + 4) = .ok (.iadd, 1)) (d4 : decode code (pc + 5) = .ok (.iaload, 1)) (d5 : decode code (pc + 6) = .ok (.ifCond .eq 7, 3)) (d6 : decode code (pc + 9) = .ok (.iconst 1, 1)) (d7 : decode code (pc + 10) = .ok (.goto 4, 3)) (d8 : decode code (pc + 13) = .ok (.iconst 0, 1)) {st : List Value} {Q : State → Prop}
    (K : W p l e room_1 s m #[Value.ref b] below meth c H locs cells slots Q (F0 m (pc + 14) ls (.int (am_i (bl (xs (i + k)))) :: st))) :
    W p l e room_1 s m #[Value.ref b] below meth c H locs cells slots Q (F0 m pc ls st) := by
  have hx := C0.1
  have hb := C0.2.1
  refine lw_rd C0 hL hS hl hi d0 d1 d2 d3 d4 ?_
  rw [am_i_t]
  refine lv_if_eq (tgt := pc + 13) hx hb d5 (by omega) (fun h => ?_) (fun h => ?_)
  · refine lv_iconst (v := 0) hx hb d8 rfl ?_
    unfold bl at K
    rw [if_pos h] at K
    exact K
  · refine lv_iconst (v := 1) hx hb d6 rfl ?_
    refine lv_goto (tgt := pc + 14) hx hb d7 (by omega) ?_
    unfold bl at K
    rw [if_neg h] at K
    exact K
