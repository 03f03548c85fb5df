/-! constructors of Programme and of the reference -/
theorem wk_139 : (.selects "SeasonOfHours$Programme" yX5_begin yX5_begin : Cond) ∈ lw_Ts := am_mem 139 (by decide +kernel) rfl
theorem wk_25 : (.selects "SeasonOfHoursModel" yX7_empty yX7_empty : Cond) ∈ lw_Ts := am_mem 25 (by decide +kernel) rfl
theorem wk_138 : (.instanceMethod yX5_begin : Cond) ∈ lw_Ts := am_mem 138 (by decide +kernel) rfl
theorem wk_137 : (.methodLink "SeasonOfHours$Programme" 26 yX5_begin : Cond) ∈ lw_Ts := am_mem 137 (by decide +kernel) rfl
theorem wk_707 : (.instanceMethod yX7_empty : Cond) ∈ lw_Ts := am_mem 707 (by decide +kernel) rfl
theorem wk_705 : (.methodLink "SeasonOfHoursModel" 105 yX7_empty : Cond) ∈ lw_Ts := am_mem 705 (by decide +kernel) rfl
theorem tk_X5 : am_okc gm_mi gm_mt lw_Ts lw_Ns cX5_init RX5 33 32 3 := ⟨26, cf_32.1, cf_32.2.1, cf_32.2.2.1, cf_32.2.2.2, Or.inr ⟨5, 2, TX5, 7, rfl, rfl, rfl, dc_X5_init_33, wk_138, wk_139, wk_137, by decide +kernel⟩⟩
theorem tk_X7 : am_okc gm_mi gm_mt lw_Ts lw_Ns cX7_init RX7 245 71 1 := ⟨105, cf_71.1, cf_71.2.1, cf_71.2.2.1, cf_71.2.2.2, Or.inr ⟨7, 0, TX7, 37, rfl, rfl, rfl, dc_X7_init_245, wk_707, wk_25, wk_705, by decide +kernel⟩⟩
set_option maxHeartbeats 4000000 in
set_option maxRecDepth 100000 in
theorem ci_X5_init (l : Launch) (D : va_G) (cA : Nat → ClassId) (t h0 sz : Nat) (a1 a2 : Nat) : Met l yX5_init (Cond.code yX5_init cX5_init 3 none :: lw_Ts) ({ frames := 3, cells := 2, slots := 12, locals := 200 }) (CPre cA D t [.ref h0, .ref a1, .ref a2] h0 (.inr (5, [.null, .null, .null, .null, .int 0, .int 0, .int 0])) sz) (va_Qv (fun _ : Unit => True) (fun _ u => ∃ (q7 : Nat) (q15 : Nat), va_P D classes (am_wo (adL [h0, q7, q15, a1, a2] t) cA skP GPb) u.heap ∧ va_D (va_A [(h0, .inr (5, [.null, .null, .null, .null, .int 0, .int 0, .int 0]))] sz) (am_wo (adL [h0, q7, q15, a1, a2] t) cA skP GPb)) (va_A [(h0, .inr (5, [.null, .null, .null, .null, .int 0, .int 0, .int 0]))] sz)) 2 12 (va_A [(h0, .inr (5, [.null, .null, .null, .null, .int 0, .int 0, .int 0]))] sz) := by
  refine am_ofW (cc := cX5_init) (maxL := 3) (ret := none) (by decide) rfl ?_
  intro p e s m args below meth c s₁ B hml hv
  obtain ⟨rfl, hsz, hP, hE⟩ := hv
  have hx := B.exec
  have hb := B.bytes
  have hr := B.returns
  have hts := atoms_spec (ws := Cond.code yX5_init cX5_init 3 none :: lw_Ts) B.pre
  have hTs : ∀ w ∈ lw_Ts, w.before ([.ref h0, .ref a1, .ref a2] : List Value).toArray s = true := fun w hw => hts w (List.mem_cons_of_mem _ hw)
  have hown : s.vm.findClass RX5 = some m.cls := findClass_of_methodNamed B.named
  have hlocks := B.notSynchronized
  have hin : meth.name = "<init>" := (name_of_methodNamed B.named B.method).1
  subst hsz
  have hD : va_D (va_A [(h0, .inr (5, [.null, .null, .null, .null, .int 0, .int 0, .int 0]))] s.heap.size) [(h0, .inr (5, [.null, .null, .null, .null, .int 0, .int 0, .int 0]))] := one_D (Or.inl ⟨0, _, rfl⟩)
  generalize hAe : va_A [(h0, .inr (5, [.null, .null, .null, .null, .int 0, .int 0, .int 0]))] s.heap.size = A at hD hE ⊢
  have hA : ∀ q : Nat, s.heap.size ≤ q → A q := fun q h => by rw [← hAe]; exact Or.inr h
  have hS : va_S A s.heap s.heap [] := va_S.rf
  have hK := hE.1
  have hl := lv_entry ([.ref h0, .ref a1, .ref a2]) (n := 3) (Nat.le_of_ble_eq_true rfl)
  rw [lg_entry_eq]
  generalize (lg_sl ([.ref h0, .ref a1, .ref a2]) ++ List.replicate (3 - (lg_sl ([.ref h0, .ref a1, .ref a2])).length) Slot.unset).toArray = ls at hl ⊢
  have hl : lv_has ls 3 [(0, .ref h0), (1, .ref a1), (2, .ref a2)] := hl
  refine lv_aload_n hx hb dc_X5_init_0 rfl (lv_at hl 0 rfl) ?_
  refine W.objInit hx hb hown (hTs _ wk_136) (hTs _ wk_65) (hTs _ wk_66) rfl (by rw [hml]; exact hl.1) rfl dc_X5_init_1 (Nat.le_of_ble_eq_true rfl) (Nat.le_of_ble_eq_true rfl) ?_
  refine W.eq (g2 := F0 m 4 ls []) rfl ?_
  refine lv_aload_n hx hb dc_X5_init_4 rfl (lv_at hl 0 rfl) ?_
  refine lv_bipush (v := 6) hx hb dc_X5_init_5 (by decide) ?_
  refine am_newa (a0 := (6, .inl (fun _ => 0))) (atype := .int) hx hb 0 (ty := .int) rfl rfl (hTs _ wk_91) (fun _ h1 h2 => Option.some.inj (h1.symm.trans h2)) hK hP hD hS hA (fun _ => rfl) (by decide) (N' := 6) (by decide) (by decide) (Nat.le_of_ble_eq_true rfl) (Nat.le_of_ble_eq_true rfl) dc_X5_init_7 (fun q7 H hP hD hS => ?_)
  have hP : va_P D classes [(h0, .inr (5, [.null, .null, .null, .null, .int 0, .int 0, .int 0])), (q7, .inl (cA 0, 6, .inl (fun _ => 0)))] H := hP
  have hD : va_D A [(h0, .inr (5, [.null, .null, .null, .null, .int 0, .int 0, .int 0])), (q7, .inl (cA 0, 6, .inl (fun _ => 0)))] := hD
  refine va_putF (D := D) (ci := 5) (v := .ref q7) (ty := .array .int) (C := RX5) (T := TX5) (N := 7) hx hb hTs cl_X5.2 tyX5 tyX5_ok nmX5 hown hK hP hD hS 0 rfl rfl 2 (by decide) (hTs _ wk_146) (fun _ h9 => h9) rfl hin rfl (by decide +kernel) rfl rfl (Nat.le_of_ble_eq_true rfl) dc_X5_init_9 (fun H locs hP hD hS => ?_)
  have hP : va_P D classes [(h0, .inr (5, [.null, .null, .ref q7, .null, .int 0, .int 0, .int 0])), (q7, .inl (cA 0, 6, .inl (fun _ => 0)))] H := hP
  have hD : va_D A [(h0, .inr (5, [.null, .null, .ref q7, .null, .int 0, .int 0, .int 0])), (q7, .inl (cA 0, 6, .inl (fun _ => 0)))] := hD
  refine lv_aload_n hx hb dc_X5_init_12 rfl (lv_at hl 0 rfl) ?_
  refine lv_bipush (v := 6) hx hb dc_X5_init_13 (by decide) ?_
  refine am_newa (a0 := (6, .inl (fun _ => 0))) (atype := .int) hx hb 0 (ty := .int) rfl rfl (hTs _ wk_91) (fun _ h1 h2 => Option.some.inj (h1.symm.trans h2)) hK hP hD hS hA (fun _ => rfl) (by decide) (N' := 6) (by decide) (by decide) (Nat.le_of_ble_eq_true rfl) (Nat.le_of_ble_eq_true rfl) dc_X5_init_15 (fun q15 H hP hD hS => ?_)
  have hP : va_P D classes [(h0, .inr (5, [.null, .null, .ref q7, .null, .int 0, .int 0, .int 0])), (q7, .inl (cA 0, 6, .inl (fun _ => 0))), (q15, .inl (cA 0, 6, .inl (fun _ => 0)))] H := hP
  have hD : va_D A [(h0, .inr (5, [.null, .null, .ref q7, .null, .int 0, .int 0, .int 0])), (q7, .inl (cA 0, 6, .inl (fun _ => 0))), (q15, .inl (cA 0, 6, .inl (fun _ => 0)))] := hD
  refine va_putF (D := D) (ci := 5) (v := .ref q15) (ty := .array .int) (C := RX5) (T := TX5) (N := 7) hx hb hTs cl_X5.2 tyX5 tyX5_ok nmX5 hown hK hP hD hS 0 rfl rfl 3 (by decide) (hTs _ wk_149) (fun _ h9 => h9) rfl hin rfl (by decide +kernel) rfl rfl (Nat.le_of_ble_eq_true rfl) dc_X5_init_17 (fun H locs hP hD hS => ?_)
  have hP : va_P D classes [(h0, .inr (5, [.null, .null, .ref q7, .ref q15, .int 0, .int 0, .int 0])), (q7, .inl (cA 0, 6, .inl (fun _ => 0))), (q15, .inl (cA 0, 6, .inl (fun _ => 0)))] H := hP
  have hD : va_D A [(h0, .inr (5, [.null, .null, .ref q7, .ref q15, .int 0, .int 0, .int 0])), (q7, .inl (cA 0, 6, .inl (fun _ => 0))), (q15, .inl (cA 0, 6, .inl (fun _ => 0)))] := hD
  refine lv_aload_n hx hb dc_X5_init_20 rfl (lv_at hl 0 rfl) ?_
  refine lv_aload_n hx hb dc_X5_init_21 rfl (lv_at hl 1 rfl) ?_
  refine va_putF (D := D) (ci := 5) (v := .ref a1) (ty := .object "SeasonOfHours$Modes") (C := RX5) (T := TX5) (N := 7) hx hb hTs cl_X5.2 tyX5 tyX5_ok nmX5 hown hK hP hD hS 0 rfl rfl 0 (by decide) (hTs _ wk_144) (fun _ h9 => h9) rfl hin rfl (by decide +kernel) rfl rfl (Nat.le_of_ble_eq_true rfl) dc_X5_init_22 (fun H locs hP hD hS => ?_)
  have hP : va_P D classes [(h0, .inr (5, [.ref a1, .null, .ref q7, .ref q15, .int 0, .int 0, .int 0])), (q7, .inl (cA 0, 6, .inl (fun _ => 0))), (q15, .inl (cA 0, 6, .inl (fun _ => 0)))] H := hP
  have hD : va_D A [(h0, .inr (5, [.ref a1, .null, .ref q7, .ref q15, .int 0, .int 0, .int 0])), (q7, .inl (cA 0, 6, .inl (fun _ => 0))), (q15, .inl (cA 0, 6, .inl (fun _ => 0)))] := hD
  refine lv_aload_n hx hb dc_X5_init_25 rfl (lv_at hl 0 rfl) ?_
  refine lv_aload_n hx hb dc_X5_init_26 rfl (lv_at hl 2 rfl) ?_
  refine va_putF (D := D) (ci := 5) (v := .ref a2) (ty := .object "SeasonOfHours$Artists") (C := RX5) (T := TX5) (N := 7) hx hb hTs cl_X5.2 tyX5 tyX5_ok nmX5 hown hK hP hD hS 0 rfl rfl 1 (by decide) (hTs _ wk_145) (fun _ h9 => h9) rfl hin rfl (by decide +kernel) rfl rfl (Nat.le_of_ble_eq_true rfl) dc_X5_init_27 (fun H locs hP hD hS => ?_)
  have hP : va_P D classes [(h0, .inr (5, [.ref a1, .ref a2, .ref q7, .ref q15, .int 0, .int 0, .int 0])), (q7, .inl (cA 0, 6, .inl (fun _ => 0))), (q15, .inl (cA 0, 6, .inl (fun _ => 0)))] H := hP
  have hD : va_D A [(h0, .inr (5, [.ref a1, .ref a2, .ref q7, .ref q15, .int 0, .int 0, .int 0])), (q7, .inl (cA 0, 6, .inl (fun _ => 0))), (q15, .inl (cA 0, 6, .inl (fun _ => 0)))] := hD
  refine lv_aload_n hx hb dc_X5_init_30 rfl (lv_at hl 0 rfl) ?_
  refine lv_iconst (v := 1) hx hb dc_X5_init_31 (by decide) ?_
  refine lv_iconst (v := 1) hx hb dc_X5_init_32 (by decide) ?_
  have hPw : va_P D classes (am_wo (adL [h0, q7, q15, a1, a2] t) cA skP (fun _ _ => 0)) H := hP
  have hDw : va_D A (am_wo (adL [h0, q7, q15, a1, a2] t) cA skP (fun _ _ => 0)) := hD
  refine ctor_call (as := [vI 1, vI 1]) (a := 0) (rest := []) (d := 2) hx hb hml hown hTs hE (ad := (adL [h0, q7, q15, a1, a2] t)) rfl hPw hDw hS ⟨Nat.le_of_ble_eq_true rfl, Nat.le_of_ble_eq_true rfl⟩ hl.1 (Nat.le_of_ble_eq_true rfl) tk_X5 rfl rfl run_begin (Nat.le_of_ble_eq_true rfl) rfl rfl ⟨Nat.le_of_ble_eq_true rfl, Nat.le_of_ble_eq_true rfl⟩ (fun H locs hP hD hS => ?_)
  refine W.widen (k := 2) (n := 12) (Nat.le_of_ble_eq_true rfl) (Nat.le_of_ble_eq_true rfl) ?_
  exact W.vret hx hb hr (fun u hu hW => ⟨⟨(), rfl, trivial, q7, q15, by rw [hu]; exact hP, hD⟩, hS.F hu⟩) hS.2.2 dc_X5_init_36 hlocks
