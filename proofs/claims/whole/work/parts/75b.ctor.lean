/-! constructors of Modes, Artists, Pieces -/
set_option maxHeartbeats 4000000 in
set_option maxRecDepth 100000 in
theorem ci_X2_init (l : Launch) (D : va_G) (cA : Nat → ClassId) (t h0 sz : Nat) : Met l yX2_init (Cond.code yX2_init cX2_init 1 none :: lw_Ts) ({ frames := 1, cells := 2, slots := 12, locals := 12 }) (CPre cA D t [.ref h0] h0 (.inr (2, [.null, .null, .int 0, .int 0])) sz) (va_Qv (fun _ : Unit => True) (fun _ u => ∃ (q7 : Nat) (q15 : Nat), va_P D classes [(h0, .inr (2, [.ref q7, .ref q15, .int 0, .int 12])), (q7, .inl (cA 0, 6, .inl (fun _ => 0))), (q15, .inl (cA 0, 6, .inl (fun _ => 0)))] u.heap ∧ va_D (va_A [(h0, .inr (2, [.null, .null, .int 0, .int 0]))] sz) [(h0, .inr (2, [.ref q7, .ref q15, .int 0, .int 12])), (q7, .inl (cA 0, 6, .inl (fun _ => 0))), (q15, .inl (cA 0, 6, .inl (fun _ => 0)))]) (va_A [(h0, .inr (2, [.null, .null, .int 0, .int 0]))] sz)) 2 12 (va_A [(h0, .inr (2, [.null, .null, .int 0, .int 0]))] sz) := by
  refine am_ofW (cc := cX2_init) (maxL := 1) (ret := none) (by decide) rfl ?_
  intro p e s m args below meth c s₁ B hml hv
  obtain ⟨rfl, hsz, hP, hE⟩ := hv
  have hx := B.exec
  have hb := B.bytes
  have hr := B.returns
  have hts := atoms_spec (ws := Cond.code yX2_init cX2_init 1 none :: lw_Ts) B.pre
  have hTs : ∀ w ∈ lw_Ts, w.before ([.ref h0] : List Value).toArray s = true := fun w hw => hts w (List.mem_cons_of_mem _ hw)
  have hown : s.vm.findClass RX2 = some m.cls := findClass_of_methodNamed B.named
  have hlocks := B.notSynchronized
  have hin : meth.name = "<init>" := (name_of_methodNamed B.named B.method).1
  subst hsz
  have hD : va_D (va_A [(h0, .inr (2, [.null, .null, .int 0, .int 0]))] s.heap.size) [(h0, .inr (2, [.null, .null, .int 0, .int 0]))] := one_D (Or.inl ⟨0, _, rfl⟩)
  generalize hAe : va_A [(h0, .inr (2, [.null, .null, .int 0, .int 0]))] s.heap.size = A at hD hE ⊢
  have hA : ∀ q : Nat, s.heap.size ≤ q → A q := fun q h => by rw [← hAe]; exact Or.inr h
  have hS : va_S A s.heap s.heap [] := va_S.rf
  have hK := hE.1
  have hl := lv_entry ([.ref h0]) (n := 1) (Nat.le_of_ble_eq_true rfl)
  rw [lg_entry_eq]
  generalize (lg_sl ([.ref h0]) ++ List.replicate (1 - (lg_sl ([.ref h0])).length) Slot.unset).toArray = ls at hl ⊢
  have hl : lv_has ls 1 [(0, .ref h0)] := hl
  refine lv_aload_n hx hb dc_X2_init_0 rfl (lv_at hl 0 rfl) ?_
  refine W.objInit hx hb hown (hTs _ wk_72) (hTs _ wk_65) (hTs _ wk_66) rfl (by rw [hml]; exact hl.1) rfl dc_X2_init_1 (Nat.le_of_ble_eq_true rfl) (Nat.le_of_ble_eq_true rfl) ?_
  refine W.eq (g2 := F0 m 4 ls []) rfl ?_
  refine lv_aload_n hx hb dc_X2_init_4 rfl (lv_at hl 0 rfl) ?_
  refine lv_bipush (v := 6) hx hb dc_X2_init_5 (by decide) ?_
  refine am_newa (a0 := (6, .inl (fun _ => 0))) (atype := .int) hx hb 0 (ty := .int) rfl rfl (hTs _ wk_91) (fun _ h1 h2 => Option.some.inj (h1.symm.trans h2)) hK hP hD hS hA (fun _ => rfl) (by decide) (N' := 6) (by decide) (by decide) (Nat.le_of_ble_eq_true rfl) (Nat.le_of_ble_eq_true rfl) dc_X2_init_7 (fun q7 H hP hD hS => ?_)
  have hP : va_P D classes [(h0, .inr (2, [.null, .null, .int 0, .int 0])), (q7, .inl (cA 0, 6, .inl (fun _ => 0)))] H := hP
  have hD : va_D A [(h0, .inr (2, [.null, .null, .int 0, .int 0])), (q7, .inl (cA 0, 6, .inl (fun _ => 0)))] := hD
  refine va_putF (D := D) (ci := 2) (v := .ref q7) (ty := .array .int) (C := RX2) (T := TX2) (N := 4) hx hb hTs cl_X2.2 tyX2 tyX2_ok nmX2 hown hK hP hD hS 0 rfl rfl 0 (by decide) (hTs _ wk_73) (fun _ h9 => h9) rfl hin rfl (by decide +kernel) rfl rfl (Nat.le_of_ble_eq_true rfl) dc_X2_init_9 (fun H locs hP hD hS => ?_)
  have hP : va_P D classes [(h0, .inr (2, [.ref q7, .null, .int 0, .int 0])), (q7, .inl (cA 0, 6, .inl (fun _ => 0)))] H := hP
  have hD : va_D A [(h0, .inr (2, [.ref q7, .null, .int 0, .int 0])), (q7, .inl (cA 0, 6, .inl (fun _ => 0)))] := hD
  refine lv_aload_n hx hb dc_X2_init_12 rfl (lv_at hl 0 rfl) ?_
  refine lv_bipush (v := 6) hx hb dc_X2_init_13 (by decide) ?_
  refine am_newa (a0 := (6, .inl (fun _ => 0))) (atype := .int) hx hb 0 (ty := .int) rfl rfl (hTs _ wk_91) (fun _ h1 h2 => Option.some.inj (h1.symm.trans h2)) hK hP hD hS hA (fun _ => rfl) (by decide) (N' := 6) (by decide) (by decide) (Nat.le_of_ble_eq_true rfl) (Nat.le_of_ble_eq_true rfl) dc_X2_init_15 (fun q15 H hP hD hS => ?_)
  have hP : va_P D classes [(h0, .inr (2, [.ref q7, .null, .int 0, .int 0])), (q7, .inl (cA 0, 6, .inl (fun _ => 0))), (q15, .inl (cA 0, 6, .inl (fun _ => 0)))] H := hP
  have hD : va_D A [(h0, .inr (2, [.ref q7, .null, .int 0, .int 0])), (q7, .inl (cA 0, 6, .inl (fun _ => 0))), (q15, .inl (cA 0, 6, .inl (fun _ => 0)))] := hD
  refine va_putF (D := D) (ci := 2) (v := .ref q15) (ty := .array .int) (C := RX2) (T := TX2) (N := 4) hx hb hTs cl_X2.2 tyX2 tyX2_ok nmX2 hown hK hP hD hS 0 rfl rfl 1 (by decide) (hTs _ wk_74) (fun _ h9 => h9) rfl hin rfl (by decide +kernel) rfl rfl (Nat.le_of_ble_eq_true rfl) dc_X2_init_17 (fun H locs hP hD hS => ?_)
  have hP : va_P D classes [(h0, .inr (2, [.ref q7, .ref q15, .int 0, .int 0])), (q7, .inl (cA 0, 6, .inl (fun _ => 0))), (q15, .inl (cA 0, 6, .inl (fun _ => 0)))] H := hP
  have hD : va_D A [(h0, .inr (2, [.ref q7, .ref q15, .int 0, .int 0])), (q7, .inl (cA 0, 6, .inl (fun _ => 0))), (q15, .inl (cA 0, 6, .inl (fun _ => 0)))] := hD
  refine lv_aload_n hx hb dc_X2_init_20 rfl (lv_at hl 0 rfl) ?_
  refine lv_iconst (v := 0) hx hb dc_X2_init_21 (by decide) ?_
  refine va_put (D := D) (ci := 2) (v := .int 0) (ty := .int) (C := RX2) (T := TX2) (N := 4) hx hb hTs cl_X2.2 tyX2 tyX2_ok nmX2 hown hK hP hD hS 0 rfl rfl 2 (by decide) (hTs _ wk_77) (fun _ h9 => h9) rfl (by decide +kernel) rfl rfl (Nat.le_of_ble_eq_true rfl) dc_X2_init_22 (fun H locs hP hD hS => ?_)
  have hP : va_P D classes [(h0, .inr (2, [.ref q7, .ref q15, .int 0, .int 0])), (q7, .inl (cA 0, 6, .inl (fun _ => 0))), (q15, .inl (cA 0, 6, .inl (fun _ => 0)))] H := hP
  have hD : va_D A [(h0, .inr (2, [.ref q7, .ref q15, .int 0, .int 0])), (q7, .inl (cA 0, 6, .inl (fun _ => 0))), (q15, .inl (cA 0, 6, .inl (fun _ => 0)))] := hD
  refine lv_aload_n hx hb dc_X2_init_25 rfl (lv_at hl 0 rfl) ?_
  refine lv_bipush (v := 12) hx hb dc_X2_init_26 (by decide) ?_
  refine va_put (D := D) (ci := 2) (v := .int 12) (ty := .int) (C := RX2) (T := TX2) (N := 4) hx hb hTs cl_X2.2 tyX2 tyX2_ok nmX2 hown hK hP hD hS 0 rfl rfl 3 (by decide) (hTs _ wk_80) (fun _ h9 => h9) rfl (by decide +kernel) rfl rfl (Nat.le_of_ble_eq_true rfl) dc_X2_init_28 (fun H locs hP hD hS => ?_)
  have hP : va_P D classes [(h0, .inr (2, [.ref q7, .ref q15, .int 0, .int 12])), (q7, .inl (cA 0, 6, .inl (fun _ => 0))), (q15, .inl (cA 0, 6, .inl (fun _ => 0)))] H := hP
  have hD : va_D A [(h0, .inr (2, [.ref q7, .ref q15, .int 0, .int 12])), (q7, .inl (cA 0, 6, .inl (fun _ => 0))), (q15, .inl (cA 0, 6, .inl (fun _ => 0)))] := hD
  refine W.widen (k := 2) (n := 12) (Nat.le_of_ble_eq_true rfl) (Nat.le_of_ble_eq_true rfl) ?_
  exact W.vret hx hb hr (fun u hu hW => ⟨⟨(), rfl, trivial, q7, q15, by rw [hu]; exact hP, hD⟩, hS.F hu⟩) hS.2.2 dc_X2_init_31 hlocks
set_option maxHeartbeats 4000000 in
set_option maxRecDepth 100000 in
theorem ci_X0_init (l : Launch) (D : va_G) (cA : Nat → ClassId) (t h0 sz : Nat) : Met l yX0_init (Cond.code yX0_init cX0_init 1 none :: lw_Ts) ({ frames := 1, cells := 9, slots := 54, locals := 12 }) (CPre cA D t [.ref h0] h0 (.inr (0, [.null, .null, .null, .int 0, .int 0])) sz) (va_Qv (fun _ : Unit => True) (fun _ u => ∃ (q7 : Nat) (q15 : Nat) (q25 : Nat) (r25 : Nat → Nat), va_P D classes [(h0, .inr (0, [.ref q7, .ref q15, .ref q25, .int 0, .int 0])), (q7, .inl (cA 0, 6, .inl (fun _ => 0))), (q15, .inl (cA 0, 6, .inl (fun _ => 0))), (q25, .inl (cA 3, 6, .inr (.inr (.inr (.inr (fun i => if i < 6 then some (r25 i) else none)))))), (r25 0, .inl (cA 0, 6, .inl (fun _ => 0))), (r25 1, .inl (cA 0, 6, .inl (fun _ => 0))), (r25 2, .inl (cA 0, 6, .inl (fun _ => 0))), (r25 3, .inl (cA 0, 6, .inl (fun _ => 0))), (r25 4, .inl (cA 0, 6, .inl (fun _ => 0))), (r25 5, .inl (cA 0, 6, .inl (fun _ => 0)))] u.heap ∧ va_D (va_A [(h0, .inr (0, [.null, .null, .null, .int 0, .int 0]))] sz) [(h0, .inr (0, [.ref q7, .ref q15, .ref q25, .int 0, .int 0])), (q7, .inl (cA 0, 6, .inl (fun _ => 0))), (q15, .inl (cA 0, 6, .inl (fun _ => 0))), (q25, .inl (cA 3, 6, .inr (.inr (.inr (.inr (fun i => if i < 6 then some (r25 i) else none)))))), (r25 0, .inl (cA 0, 6, .inl (fun _ => 0))), (r25 1, .inl (cA 0, 6, .inl (fun _ => 0))), (r25 2, .inl (cA 0, 6, .inl (fun _ => 0))), (r25 3, .inl (cA 0, 6, .inl (fun _ => 0))), (r25 4, .inl (cA 0, 6, .inl (fun _ => 0))), (r25 5, .inl (cA 0, 6, .inl (fun _ => 0)))]) (va_A [(h0, .inr (0, [.null, .null, .null, .int 0, .int 0]))] sz)) 9 54 (va_A [(h0, .inr (0, [.null, .null, .null, .int 0, .int 0]))] sz) := by
  refine am_ofW (cc := cX0_init) (maxL := 1) (ret := none) (by decide) rfl ?_
  intro p e s m args below meth c s₁ B hml hv
  obtain ⟨rfl, hsz, hP, hE⟩ := hv
  have hx := B.exec
  have hb := B.bytes
  have hr := B.returns
  have hts := atoms_spec (ws := Cond.code yX0_init cX0_init 1 none :: lw_Ts) B.pre
  have hTs : ∀ w ∈ lw_Ts, w.before ([.ref h0] : List Value).toArray s = true := fun w hw => hts w (List.mem_cons_of_mem _ hw)
  have hown : s.vm.findClass RX0 = some m.cls := findClass_of_methodNamed B.named
  have hlocks := B.notSynchronized
  have hin : meth.name = "<init>" := (name_of_methodNamed B.named B.method).1
  subst hsz
  have hD : va_D (va_A [(h0, .inr (0, [.null, .null, .null, .int 0, .int 0]))] s.heap.size) [(h0, .inr (0, [.null, .null, .null, .int 0, .int 0]))] := one_D (Or.inl ⟨0, _, rfl⟩)
  generalize hAe : va_A [(h0, .inr (0, [.null, .null, .null, .int 0, .int 0]))] s.heap.size = A at hD hE ⊢
  have hA : ∀ q : Nat, s.heap.size ≤ q → A q := fun q h => by rw [← hAe]; exact Or.inr h
  have hS : va_S A s.heap s.heap [] := va_S.rf
  have hK := hE.1
  have hl := lv_entry ([.ref h0]) (n := 1) (Nat.le_of_ble_eq_true rfl)
  rw [lg_entry_eq]
  generalize (lg_sl ([.ref h0]) ++ List.replicate (1 - (lg_sl ([.ref h0])).length) Slot.unset).toArray = ls at hl ⊢
  have hl : lv_has ls 1 [(0, .ref h0)] := hl
  refine lv_aload_n hx hb dc_X0_init_0 rfl (lv_at hl 0 rfl) ?_
  refine W.objInit hx hb hown (hTs _ wk_97) (hTs _ wk_65) (hTs _ wk_66) rfl (by rw [hml]; exact hl.1) rfl dc_X0_init_1 (Nat.le_of_ble_eq_true rfl) (Nat.le_of_ble_eq_true rfl) ?_
  refine W.eq (g2 := F0 m 4 ls []) rfl ?_
  refine lv_aload_n hx hb dc_X0_init_4 rfl (lv_at hl 0 rfl) ?_
  refine lv_bipush (v := 6) hx hb dc_X0_init_5 (by decide) ?_
  refine am_newa (a0 := (6, .inl (fun _ => 0))) (atype := .int) hx hb 0 (ty := .int) rfl rfl (hTs _ wk_91) (fun _ h1 h2 => Option.some.inj (h1.symm.trans h2)) hK hP hD hS hA (fun _ => rfl) (by decide) (N' := 6) (by decide) (by decide) (Nat.le_of_ble_eq_true rfl) (Nat.le_of_ble_eq_true rfl) dc_X0_init_7 (fun q7 H hP hD hS => ?_)
  have hP : va_P D classes [(h0, .inr (0, [.null, .null, .null, .int 0, .int 0])), (q7, .inl (cA 0, 6, .inl (fun _ => 0)))] H := hP
  have hD : va_D A [(h0, .inr (0, [.null, .null, .null, .int 0, .int 0])), (q7, .inl (cA 0, 6, .inl (fun _ => 0)))] := hD
  refine va_putF (D := D) (ci := 0) (v := .ref q7) (ty := .array .int) (C := RX0) (T := TX0) (N := 5) hx hb hTs cl_X0.2 tyX0 tyX0_ok nmX0 hown hK hP hD hS 0 rfl rfl 0 (by decide) (hTs _ wk_100) (fun _ h9 => h9) rfl hin rfl (by decide +kernel) rfl rfl (Nat.le_of_ble_eq_true rfl) dc_X0_init_9 (fun H locs hP hD hS => ?_)
  have hP : va_P D classes [(h0, .inr (0, [.ref q7, .null, .null, .int 0, .int 0])), (q7, .inl (cA 0, 6, .inl (fun _ => 0)))] H := hP
  have hD : va_D A [(h0, .inr (0, [.ref q7, .null, .null, .int 0, .int 0])), (q7, .inl (cA 0, 6, .inl (fun _ => 0)))] := hD
  refine lv_aload_n hx hb dc_X0_init_12 rfl (lv_at hl 0 rfl) ?_
  refine lv_bipush (v := 6) hx hb dc_X0_init_13 (by decide) ?_
  refine am_newa (a0 := (6, .inl (fun _ => 0))) (atype := .int) hx hb 0 (ty := .int) rfl rfl (hTs _ wk_91) (fun _ h1 h2 => Option.some.inj (h1.symm.trans h2)) hK hP hD hS hA (fun _ => rfl) (by decide) (N' := 6) (by decide) (by decide) (Nat.le_of_ble_eq_true rfl) (Nat.le_of_ble_eq_true rfl) dc_X0_init_15 (fun q15 H hP hD hS => ?_)
  have hP : va_P D classes [(h0, .inr (0, [.ref q7, .null, .null, .int 0, .int 0])), (q7, .inl (cA 0, 6, .inl (fun _ => 0))), (q15, .inl (cA 0, 6, .inl (fun _ => 0)))] H := hP
  have hD : va_D A [(h0, .inr (0, [.ref q7, .null, .null, .int 0, .int 0])), (q7, .inl (cA 0, 6, .inl (fun _ => 0))), (q15, .inl (cA 0, 6, .inl (fun _ => 0)))] := hD
  refine va_putF (D := D) (ci := 0) (v := .ref q15) (ty := .array .int) (C := RX0) (T := TX0) (N := 5) hx hb hTs cl_X0.2 tyX0 tyX0_ok nmX0 hown hK hP hD hS 0 rfl rfl 1 (by decide) (hTs _ wk_104) (fun _ h9 => h9) rfl hin rfl (by decide +kernel) rfl rfl (Nat.le_of_ble_eq_true rfl) dc_X0_init_17 (fun H locs hP hD hS => ?_)
  have hP : va_P D classes [(h0, .inr (0, [.ref q7, .ref q15, .null, .int 0, .int 0])), (q7, .inl (cA 0, 6, .inl (fun _ => 0))), (q15, .inl (cA 0, 6, .inl (fun _ => 0)))] H := hP
  have hD : va_D A [(h0, .inr (0, [.ref q7, .ref q15, .null, .int 0, .int 0])), (q7, .inl (cA 0, 6, .inl (fun _ => 0))), (q15, .inl (cA 0, 6, .inl (fun _ => 0)))] := hD
  refine lv_aload_n hx hb dc_X0_init_20 rfl (lv_at hl 0 rfl) ?_
  refine lv_bipush (v := 6) hx hb dc_X0_init_21 (by decide) ?_
  refine lv_bipush (v := 6) hx hb dc_X0_init_23 (by decide) ?_
  refine am_mna (z := (6, .inl (fun _ => 0))) hx hb 3 0 (own := RX0) (ty := .int) hown (hTs _ wk_98) hE.2.2.2.1 (hTs _ wk_91) rfl (hK.2 0 _ rfl).2 hK hP hD hS hA (N' := 6) (K' := 6) (by decide) (by decide) (by decide) (by decide) (by decide) (by decide) (by decide) rfl rfl (Nat.le_of_ble_eq_true rfl) (Nat.le_of_ble_eq_true rfl) (fun _ => arrV_new _ _ _) dc_X0_init_25 (fun q25 r25 H hP hD hS => ?_)
  have hP : va_P D classes [(h0, .inr (0, [.ref q7, .ref q15, .null, .int 0, .int 0])), (q7, .inl (cA 0, 6, .inl (fun _ => 0))), (q15, .inl (cA 0, 6, .inl (fun _ => 0))), (q25, .inl (cA 3, 6, .inr (.inr (.inr (.inr (fun i => if i < 6 then some (r25 i) else none)))))), (r25 0, .inl (cA 0, 6, .inl (fun _ => 0))), (r25 1, .inl (cA 0, 6, .inl (fun _ => 0))), (r25 2, .inl (cA 0, 6, .inl (fun _ => 0))), (r25 3, .inl (cA 0, 6, .inl (fun _ => 0))), (r25 4, .inl (cA 0, 6, .inl (fun _ => 0))), (r25 5, .inl (cA 0, 6, .inl (fun _ => 0)))] H := hP
  have hD : va_D A [(h0, .inr (0, [.ref q7, .ref q15, .null, .int 0, .int 0])), (q7, .inl (cA 0, 6, .inl (fun _ => 0))), (q15, .inl (cA 0, 6, .inl (fun _ => 0))), (q25, .inl (cA 3, 6, .inr (.inr (.inr (.inr (fun i => if i < 6 then some (r25 i) else none)))))), (r25 0, .inl (cA 0, 6, .inl (fun _ => 0))), (r25 1, .inl (cA 0, 6, .inl (fun _ => 0))), (r25 2, .inl (cA 0, 6, .inl (fun _ => 0))), (r25 3, .inl (cA 0, 6, .inl (fun _ => 0))), (r25 4, .inl (cA 0, 6, .inl (fun _ => 0))), (r25 5, .inl (cA 0, 6, .inl (fun _ => 0)))] := hD
  refine va_putF (D := D) (ci := 0) (v := .ref q25) (ty := .array (.array .int)) (C := RX0) (T := TX0) (N := 5) hx hb hTs cl_X0.2 tyX0 tyX0_ok nmX0 hown hK hP hD hS 0 rfl rfl 2 (by decide) (hTs _ wk_108) (fun _ h9 => h9) rfl hin rfl (by decide +kernel) rfl rfl (Nat.le_of_ble_eq_true rfl) dc_X0_init_29 (fun H locs hP hD hS => ?_)
  have hP : va_P D classes [(h0, .inr (0, [.ref q7, .ref q15, .ref q25, .int 0, .int 0])), (q7, .inl (cA 0, 6, .inl (fun _ => 0))), (q15, .inl (cA 0, 6, .inl (fun _ => 0))), (q25, .inl (cA 3, 6, .inr (.inr (.inr (.inr (fun i => if i < 6 then some (r25 i) else none)))))), (r25 0, .inl (cA 0, 6, .inl (fun _ => 0))), (r25 1, .inl (cA 0, 6, .inl (fun _ => 0))), (r25 2, .inl (cA 0, 6, .inl (fun _ => 0))), (r25 3, .inl (cA 0, 6, .inl (fun _ => 0))), (r25 4, .inl (cA 0, 6, .inl (fun _ => 0))), (r25 5, .inl (cA 0, 6, .inl (fun _ => 0)))] H := hP
  have hD : va_D A [(h0, .inr (0, [.ref q7, .ref q15, .ref q25, .int 0, .int 0])), (q7, .inl (cA 0, 6, .inl (fun _ => 0))), (q15, .inl (cA 0, 6, .inl (fun _ => 0))), (q25, .inl (cA 3, 6, .inr (.inr (.inr (.inr (fun i => if i < 6 then some (r25 i) else none)))))), (r25 0, .inl (cA 0, 6, .inl (fun _ => 0))), (r25 1, .inl (cA 0, 6, .inl (fun _ => 0))), (r25 2, .inl (cA 0, 6, .inl (fun _ => 0))), (r25 3, .inl (cA 0, 6, .inl (fun _ => 0))), (r25 4, .inl (cA 0, 6, .inl (fun _ => 0))), (r25 5, .inl (cA 0, 6, .inl (fun _ => 0)))] := hD
  refine lv_aload_n hx hb dc_X0_init_32 rfl (lv_at hl 0 rfl) ?_
  refine lv_iconst (v := 0) hx hb dc_X0_init_33 (by decide) ?_
  refine va_put (D := D) (ci := 0) (v := .int 0) (ty := .int) (C := RX0) (T := TX0) (N := 5) hx hb hTs cl_X0.2 tyX0 tyX0_ok nmX0 hown hK hP hD hS 0 rfl rfl 3 (by decide) (hTs _ wk_112) (fun _ h9 => h9) rfl (by decide +kernel) rfl rfl (Nat.le_of_ble_eq_true rfl) dc_X0_init_34 (fun H locs hP hD hS => ?_)
  have hP : va_P D classes [(h0, .inr (0, [.ref q7, .ref q15, .ref q25, .int 0, .int 0])), (q7, .inl (cA 0, 6, .inl (fun _ => 0))), (q15, .inl (cA 0, 6, .inl (fun _ => 0))), (q25, .inl (cA 3, 6, .inr (.inr (.inr (.inr (fun i => if i < 6 then some (r25 i) else none)))))), (r25 0, .inl (cA 0, 6, .inl (fun _ => 0))), (r25 1, .inl (cA 0, 6, .inl (fun _ => 0))), (r25 2, .inl (cA 0, 6, .inl (fun _ => 0))), (r25 3, .inl (cA 0, 6, .inl (fun _ => 0))), (r25 4, .inl (cA 0, 6, .inl (fun _ => 0))), (r25 5, .inl (cA 0, 6, .inl (fun _ => 0)))] H := hP
  have hD : va_D A [(h0, .inr (0, [.ref q7, .ref q15, .ref q25, .int 0, .int 0])), (q7, .inl (cA 0, 6, .inl (fun _ => 0))), (q15, .inl (cA 0, 6, .inl (fun _ => 0))), (q25, .inl (cA 3, 6, .inr (.inr (.inr (.inr (fun i => if i < 6 then some (r25 i) else none)))))), (r25 0, .inl (cA 0, 6, .inl (fun _ => 0))), (r25 1, .inl (cA 0, 6, .inl (fun _ => 0))), (r25 2, .inl (cA 0, 6, .inl (fun _ => 0))), (r25 3, .inl (cA 0, 6, .inl (fun _ => 0))), (r25 4, .inl (cA 0, 6, .inl (fun _ => 0))), (r25 5, .inl (cA 0, 6, .inl (fun _ => 0)))] := hD
  refine lv_aload_n hx hb dc_X0_init_37 rfl (lv_at hl 0 rfl) ?_
  refine lv_iconst (v := 0) hx hb dc_X0_init_38 (by decide) ?_
  refine va_put (D := D) (ci := 0) (v := .int 0) (ty := .int) (C := RX0) (T := TX0) (N := 5) hx hb hTs cl_X0.2 tyX0 tyX0_ok nmX0 hown hK hP hD hS 0 rfl rfl 4 (by decide) (hTs _ wk_116) (fun _ h9 => h9) rfl (by decide +kernel) rfl rfl (Nat.le_of_ble_eq_true rfl) dc_X0_init_39 (fun H locs hP hD hS => ?_)
  have hP : va_P D classes [(h0, .inr (0, [.ref q7, .ref q15, .ref q25, .int 0, .int 0])), (q7, .inl (cA 0, 6, .inl (fun _ => 0))), (q15, .inl (cA 0, 6, .inl (fun _ => 0))), (q25, .inl (cA 3, 6, .inr (.inr (.inr (.inr (fun i => if i < 6 then some (r25 i) else none)))))), (r25 0, .inl (cA 0, 6, .inl (fun _ => 0))), (r25 1, .inl (cA 0, 6, .inl (fun _ => 0))), (r25 2, .inl (cA 0, 6, .inl (fun _ => 0))), (r25 3, .inl (cA 0, 6, .inl (fun _ => 0))), (r25 4, .inl (cA 0, 6, .inl (fun _ => 0))), (r25 5, .inl (cA 0, 6, .inl (fun _ => 0)))] H := hP
  have hD : va_D A [(h0, .inr (0, [.ref q7, .ref q15, .ref q25, .int 0, .int 0])), (q7, .inl (cA 0, 6, .inl (fun _ => 0))), (q15, .inl (cA 0, 6, .inl (fun _ => 0))), (q25, .inl (cA 3, 6, .inr (.inr (.inr (.inr (fun i => if i < 6 then some (r25 i) else none)))))), (r25 0, .inl (cA 0, 6, .inl (fun _ => 0))), (r25 1, .inl (cA 0, 6, .inl (fun _ => 0))), (r25 2, .inl (cA 0, 6, .inl (fun _ => 0))), (r25 3, .inl (cA 0, 6, .inl (fun _ => 0))), (r25 4, .inl (cA 0, 6, .inl (fun _ => 0))), (r25 5, .inl (cA 0, 6, .inl (fun _ => 0)))] := hD
  refine W.widen (k := 9) (n := 54) (Nat.le_of_ble_eq_true rfl) (Nat.le_of_ble_eq_true rfl) ?_
  exact W.vret hx hb hr (fun u hu hW => ⟨⟨(), rfl, trivial, q7, q15, q25, r25, by rw [hu]; exact hP, hD⟩, hS.F hu⟩) hS.2.2 dc_X0_init_42 hlocks
set_option maxHeartbeats 4000000 in
set_option maxRecDepth 100000 in
theorem ci_X3_init (l : Launch) (D : va_G) (cA : Nat → ClassId) (t h0 sz : Nat) (a1 : Nat) : Met l yX3_init (Cond.code yX3_init cX3_init 2 none :: lw_Ts) ({ frames := 1, cells := 7, slots := 1084, locals := 12 }) (CPre cA D t [.ref h0, .ref a1] h0 (.inr (3, [.null, .null, .null, .null, .null, .null, .null, .null, .int 0, .int 0, .int 0, .int 0])) sz) (va_Qv (fun _ : Unit => True) (fun _ u => ∃ (q7 : Nat) (q15 : Nat) (q23 : Nat) (q31 : Nat) (q39 : Nat) (q47 : Nat) (q56 : Nat), va_P D classes [(h0, .inr (3, [.ref a1, .ref q7, .ref q15, .ref q23, .ref q31, .ref q39, .ref q47, .ref q56, .int 0, .int 0, .int 7, .int 0])), (q7, .inl (cA 0, 10, .inl (fun _ => 0))), (q15, .inl (cA 0, 10, .inl (fun _ => 0))), (q23, .inl (cA 0, 10, .inl (fun _ => 0))), (q31, .inl (cA 0, 10, .inl (fun _ => 0))), (q39, .inl (cA 0, 10, .inl (fun _ => 0))), (q47, .inl (cA 0, 10, .inl (fun _ => 0))), (q56, .inl (cA 0, 1024, .inl (fun _ => 0)))] u.heap ∧ va_D (va_A [(h0, .inr (3, [.null, .null, .null, .null, .null, .null, .null, .null, .int 0, .int 0, .int 0, .int 0]))] sz) [(h0, .inr (3, [.ref a1, .ref q7, .ref q15, .ref q23, .ref q31, .ref q39, .ref q47, .ref q56, .int 0, .int 0, .int 7, .int 0])), (q7, .inl (cA 0, 10, .inl (fun _ => 0))), (q15, .inl (cA 0, 10, .inl (fun _ => 0))), (q23, .inl (cA 0, 10, .inl (fun _ => 0))), (q31, .inl (cA 0, 10, .inl (fun _ => 0))), (q39, .inl (cA 0, 10, .inl (fun _ => 0))), (q47, .inl (cA 0, 10, .inl (fun _ => 0))), (q56, .inl (cA 0, 1024, .inl (fun _ => 0)))]) (va_A [(h0, .inr (3, [.null, .null, .null, .null, .null, .null, .null, .null, .int 0, .int 0, .int 0, .int 0]))] sz)) 7 1084 (va_A [(h0, .inr (3, [.null, .null, .null, .null, .null, .null, .null, .null, .int 0, .int 0, .int 0, .int 0]))] sz) := by
  refine am_ofW (cc := cX3_init) (maxL := 2) (ret := none) (by decide) rfl ?_
  intro p e s m args below meth c s₁ B hml hv
  obtain ⟨rfl, hsz, hP, hE⟩ := hv
  have hx := B.exec
  have hb := B.bytes
  have hr := B.returns
  have hts := atoms_spec (ws := Cond.code yX3_init cX3_init 2 none :: lw_Ts) B.pre
  have hTs : ∀ w ∈ lw_Ts, w.before ([.ref h0, .ref a1] : List Value).toArray s = true := fun w hw => hts w (List.mem_cons_of_mem _ hw)
  have hown : s.vm.findClass RX3 = some m.cls := findClass_of_methodNamed B.named
  have hlocks := B.notSynchronized
  have hin : meth.name = "<init>" := (name_of_methodNamed B.named B.method).1
  subst hsz
  have hD : va_D (va_A [(h0, .inr (3, [.null, .null, .null, .null, .null, .null, .null, .null, .int 0, .int 0, .int 0, .int 0]))] s.heap.size) [(h0, .inr (3, [.null, .null, .null, .null, .null, .null, .null, .null, .int 0, .int 0, .int 0, .int 0]))] := one_D (Or.inl ⟨0, _, rfl⟩)
  generalize hAe : va_A [(h0, .inr (3, [.null, .null, .null, .null, .null, .null, .null, .null, .int 0, .int 0, .int 0, .int 0]))] s.heap.size = A at hD hE ⊢
  have hA : ∀ q : Nat, s.heap.size ≤ q → A q := fun q h => by rw [← hAe]; exact Or.inr h
  have hS : va_S A s.heap s.heap [] := va_S.rf
  have hK := hE.1
  have hl := lv_entry ([.ref h0, .ref a1]) (n := 2) (Nat.le_of_ble_eq_true rfl)
  rw [lg_entry_eq]
  generalize (lg_sl ([.ref h0, .ref a1]) ++ List.replicate (2 - (lg_sl ([.ref h0, .ref a1])).length) Slot.unset).toArray = ls at hl ⊢
  have hl : lv_has ls 2 [(0, .ref h0), (1, .ref a1)] := hl
  refine lv_aload_n hx hb dc_X3_init_0 rfl (lv_at hl 0 rfl) ?_
  refine W.objInit hx hb hown (hTs _ wk_221) (hTs _ wk_65) (hTs _ wk_66) rfl (by rw [hml]; exact hl.1) rfl dc_X3_init_1 (Nat.le_of_ble_eq_true rfl) (Nat.le_of_ble_eq_true rfl) ?_
  refine W.eq (g2 := F0 m 4 ls []) rfl ?_
  refine lv_aload_n hx hb dc_X3_init_4 rfl (lv_at hl 0 rfl) ?_
  refine lv_bipush (v := 10) hx hb dc_X3_init_5 (by decide) ?_
  refine am_newa (a0 := (10, .inl (fun _ => 0))) (atype := .int) hx hb 0 (ty := .int) rfl rfl (hTs _ wk_91) (fun _ h1 h2 => Option.some.inj (h1.symm.trans h2)) hK hP hD hS hA (fun _ => rfl) (by decide) (N' := 10) (by decide) (by decide) (Nat.le_of_ble_eq_true rfl) (Nat.le_of_ble_eq_true rfl) dc_X3_init_7 (fun q7 H hP hD hS => ?_)
  have hP : va_P D classes [(h0, .inr (3, [.null, .null, .null, .null, .null, .null, .null, .null, .int 0, .int 0, .int 0, .int 0])), (q7, .inl (cA 0, 10, .inl (fun _ => 0)))] H := hP
  have hD : va_D A [(h0, .inr (3, [.null, .null, .null, .null, .null, .null, .null, .null, .int 0, .int 0, .int 0, .int 0])), (q7, .inl (cA 0, 10, .inl (fun _ => 0)))] := hD
  refine va_putF (D := D) (ci := 3) (v := .ref q7) (ty := .array .int) (C := RX3) (T := TX3) (N := 12) hx hb hTs cl_X3.2 tyX3 tyX3_ok nmX3 hown hK hP hD hS 0 rfl rfl 1 (by decide) (hTs _ wk_223) (fun _ h9 => h9) rfl hin rfl (by decide +kernel) rfl rfl (Nat.le_of_ble_eq_true rfl) dc_X3_init_9 (fun H locs hP hD hS => ?_)
  have hP : va_P D classes [(h0, .inr (3, [.null, .ref q7, .null, .null, .null, .null, .null, .null, .int 0, .int 0, .int 0, .int 0])), (q7, .inl (cA 0, 10, .inl (fun _ => 0)))] H := hP
  have hD : va_D A [(h0, .inr (3, [.null, .ref q7, .null, .null, .null, .null, .null, .null, .int 0, .int 0, .int 0, .int 0])), (q7, .inl (cA 0, 10, .inl (fun _ => 0)))] := hD
  refine lv_aload_n hx hb dc_X3_init_12 rfl (lv_at hl 0 rfl) ?_
  refine lv_bipush (v := 10) hx hb dc_X3_init_13 (by decide) ?_
  refine am_newa (a0 := (10, .inl (fun _ => 0))) (atype := .int) hx hb 0 (ty := .int) rfl rfl (hTs _ wk_91) (fun _ h1 h2 => Option.some.inj (h1.symm.trans h2)) hK hP hD hS hA (fun _ => rfl) (by decide) (N' := 10) (by decide) (by decide) (Nat.le_of_ble_eq_true rfl) (Nat.le_of_ble_eq_true rfl) dc_X3_init_15 (fun q15 H hP hD hS => ?_)
  have hP : va_P D classes [(h0, .inr (3, [.null, .ref q7, .null, .null, .null, .null, .null, .null, .int 0, .int 0, .int 0, .int 0])), (q7, .inl (cA 0, 10, .inl (fun _ => 0))), (q15, .inl (cA 0, 10, .inl (fun _ => 0)))] H := hP
  have hD : va_D A [(h0, .inr (3, [.null, .ref q7, .null, .null, .null, .null, .null, .null, .int 0, .int 0, .int 0, .int 0])), (q7, .inl (cA 0, 10, .inl (fun _ => 0))), (q15, .inl (cA 0, 10, .inl (fun _ => 0)))] := hD
  refine va_putF (D := D) (ci := 3) (v := .ref q15) (ty := .array .int) (C := RX3) (T := TX3) (N := 12) hx hb hTs cl_X3.2 tyX3 tyX3_ok nmX3 hown hK hP hD hS 0 rfl rfl 2 (by decide) (hTs _ wk_224) (fun _ h9 => h9) rfl hin rfl (by decide +kernel) rfl rfl (Nat.le_of_ble_eq_true rfl) dc_X3_init_17 (fun H locs hP hD hS => ?_)
  have hP : va_P D classes [(h0, .inr (3, [.null, .ref q7, .ref q15, .null, .null, .null, .null, .null, .int 0, .int 0, .int 0, .int 0])), (q7, .inl (cA 0, 10, .inl (fun _ => 0))), (q15, .inl (cA 0, 10, .inl (fun _ => 0)))] H := hP
  have hD : va_D A [(h0, .inr (3, [.null, .ref q7, .ref q15, .null, .null, .null, .null, .null, .int 0, .int 0, .int 0, .int 0])), (q7, .inl (cA 0, 10, .inl (fun _ => 0))), (q15, .inl (cA 0, 10, .inl (fun _ => 0)))] := hD
  refine lv_aload_n hx hb dc_X3_init_20 rfl (lv_at hl 0 rfl) ?_
  refine lv_bipush (v := 10) hx hb dc_X3_init_21 (by decide) ?_
  refine am_newa (a0 := (10, .inl (fun _ => 0))) (atype := .int) hx hb 0 (ty := .int) rfl rfl (hTs _ wk_91) (fun _ h1 h2 => Option.some.inj (h1.symm.trans h2)) hK hP hD hS hA (fun _ => rfl) (by decide) (N' := 10) (by decide) (by decide) (Nat.le_of_ble_eq_true rfl) (Nat.le_of_ble_eq_true rfl) dc_X3_init_23 (fun q23 H hP hD hS => ?_)
  have hP : va_P D classes [(h0, .inr (3, [.null, .ref q7, .ref q15, .null, .null, .null, .null, .null, .int 0, .int 0, .int 0, .int 0])), (q7, .inl (cA 0, 10, .inl (fun _ => 0))), (q15, .inl (cA 0, 10, .inl (fun _ => 0))), (q23, .inl (cA 0, 10, .inl (fun _ => 0)))] H := hP
  have hD : va_D A [(h0, .inr (3, [.null, .ref q7, .ref q15, .null, .null, .null, .null, .null, .int 0, .int 0, .int 0, .int 0])), (q7, .inl (cA 0, 10, .inl (fun _ => 0))), (q15, .inl (cA 0, 10, .inl (fun _ => 0))), (q23, .inl (cA 0, 10, .inl (fun _ => 0)))] := hD
  refine va_putF (D := D) (ci := 3) (v := .ref q23) (ty := .array .int) (C := RX3) (T := TX3) (N := 12) hx hb hTs cl_X3.2 tyX3 tyX3_ok nmX3 hown hK hP hD hS 0 rfl rfl 3 (by decide) (hTs _ wk_225) (fun _ h9 => h9) rfl hin rfl (by decide +kernel) rfl rfl (Nat.le_of_ble_eq_true rfl) dc_X3_init_25 (fun H locs hP hD hS => ?_)
  have hP : va_P D classes [(h0, .inr (3, [.null, .ref q7, .ref q15, .ref q23, .null, .null, .null, .null, .int 0, .int 0, .int 0, .int 0])), (q7, .inl (cA 0, 10, .inl (fun _ => 0))), (q15, .inl (cA 0, 10, .inl (fun _ => 0))), (q23, .inl (cA 0, 10, .inl (fun _ => 0)))] H := hP
  have hD : va_D A [(h0, .inr (3, [.null, .ref q7, .ref q15, .ref q23, .null, .null, .null, .null, .int 0, .int 0, .int 0, .int 0])), (q7, .inl (cA 0, 10, .inl (fun _ => 0))), (q15, .inl (cA 0, 10, .inl (fun _ => 0))), (q23, .inl (cA 0, 10, .inl (fun _ => 0)))] := hD
  refine lv_aload_n hx hb dc_X3_init_28 rfl (lv_at hl 0 rfl) ?_
  refine lv_bipush (v := 10) hx hb dc_X3_init_29 (by decide) ?_
  refine am_newa (a0 := (10, .inl (fun _ => 0))) (atype := .int) hx hb 0 (ty := .int) rfl rfl (hTs _ wk_91) (fun _ h1 h2 => Option.some.inj (h1.symm.trans h2)) hK hP hD hS hA (fun _ => rfl) (by decide) (N' := 10) (by decide) (by decide) (Nat.le_of_ble_eq_true rfl) (Nat.le_of_ble_eq_true rfl) dc_X3_init_31 (fun q31 H hP hD hS => ?_)
  have hP : va_P D classes [(h0, .inr (3, [.null, .ref q7, .ref q15, .ref q23, .null, .null, .null, .null, .int 0, .int 0, .int 0, .int 0])), (q7, .inl (cA 0, 10, .inl (fun _ => 0))), (q15, .inl (cA 0, 10, .inl (fun _ => 0))), (q23, .inl (cA 0, 10, .inl (fun _ => 0))), (q31, .inl (cA 0, 10, .inl (fun _ => 0)))] H := hP
  have hD : va_D A [(h0, .inr (3, [.null, .ref q7, .ref q15, .ref q23, .null, .null, .null, .null, .int 0, .int 0, .int 0, .int 0])), (q7, .inl (cA 0, 10, .inl (fun _ => 0))), (q15, .inl (cA 0, 10, .inl (fun _ => 0))), (q23, .inl (cA 0, 10, .inl (fun _ => 0))), (q31, .inl (cA 0, 10, .inl (fun _ => 0)))] := hD
  refine va_putF (D := D) (ci := 3) (v := .ref q31) (ty := .array .int) (C := RX3) (T := TX3) (N := 12) hx hb hTs cl_X3.2 tyX3 tyX3_ok nmX3 hown hK hP hD hS 0 rfl rfl 4 (by decide) (hTs _ wk_226) (fun _ h9 => h9) rfl hin rfl (by decide +kernel) rfl rfl (Nat.le_of_ble_eq_true rfl) dc_X3_init_33 (fun H locs hP hD hS => ?_)
  have hP : va_P D classes [(h0, .inr (3, [.null, .ref q7, .ref q15, .ref q23, .ref q31, .null, .null, .null, .int 0, .int 0, .int 0, .int 0])), (q7, .inl (cA 0, 10, .inl (fun _ => 0))), (q15, .inl (cA 0, 10, .inl (fun _ => 0))), (q23, .inl (cA 0, 10, .inl (fun _ => 0))), (q31, .inl (cA 0, 10, .inl (fun _ => 0)))] H := hP
  have hD : va_D A [(h0, .inr (3, [.null, .ref q7, .ref q15, .ref q23, .ref q31, .null, .null, .null, .int 0, .int 0, .int 0, .int 0])), (q7, .inl (cA 0, 10, .inl (fun _ => 0))), (q15, .inl (cA 0, 10, .inl (fun _ => 0))), (q23, .inl (cA 0, 10, .inl (fun _ => 0))), (q31, .inl (cA 0, 10, .inl (fun _ => 0)))] := hD
  refine lv_aload_n hx hb dc_X3_init_36 rfl (lv_at hl 0 rfl) ?_
  refine lv_bipush (v := 10) hx hb dc_X3_init_37 (by decide) ?_
  refine am_newa (a0 := (10, .inl (fun _ => 0))) (atype := .int) hx hb 0 (ty := .int) rfl rfl (hTs _ wk_91) (fun _ h1 h2 => Option.some.inj (h1.symm.trans h2)) hK hP hD hS hA (fun _ => rfl) (by decide) (N' := 10) (by decide) (by decide) (Nat.le_of_ble_eq_true rfl) (Nat.le_of_ble_eq_true rfl) dc_X3_init_39 (fun q39 H hP hD hS => ?_)
  have hP : va_P D classes [(h0, .inr (3, [.null, .ref q7, .ref q15, .ref q23, .ref q31, .null, .null, .null, .int 0, .int 0, .int 0, .int 0])), (q7, .inl (cA 0, 10, .inl (fun _ => 0))), (q15, .inl (cA 0, 10, .inl (fun _ => 0))), (q23, .inl (cA 0, 10, .inl (fun _ => 0))), (q31, .inl (cA 0, 10, .inl (fun _ => 0))), (q39, .inl (cA 0, 10, .inl (fun _ => 0)))] H := hP
  have hD : va_D A [(h0, .inr (3, [.null, .ref q7, .ref q15, .ref q23, .ref q31, .null, .null, .null, .int 0, .int 0, .int 0, .int 0])), (q7, .inl (cA 0, 10, .inl (fun _ => 0))), (q15, .inl (cA 0, 10, .inl (fun _ => 0))), (q23, .inl (cA 0, 10, .inl (fun _ => 0))), (q31, .inl (cA 0, 10, .inl (fun _ => 0))), (q39, .inl (cA 0, 10, .inl (fun _ => 0)))] := hD
  refine va_putF (D := D) (ci := 3) (v := .ref q39) (ty := .array .int) (C := RX3) (T := TX3) (N := 12) hx hb hTs cl_X3.2 tyX3 tyX3_ok nmX3 hown hK hP hD hS 0 rfl rfl 5 (by decide) (hTs _ wk_228) (fun _ h9 => h9) rfl hin rfl (by decide +kernel) rfl rfl (Nat.le_of_ble_eq_true rfl) dc_X3_init_41 (fun H locs hP hD hS => ?_)
  have hP : va_P D classes [(h0, .inr (3, [.null, .ref q7, .ref q15, .ref q23, .ref q31, .ref q39, .null, .null, .int 0, .int 0, .int 0, .int 0])), (q7, .inl (cA 0, 10, .inl (fun _ => 0))), (q15, .inl (cA 0, 10, .inl (fun _ => 0))), (q23, .inl (cA 0, 10, .inl (fun _ => 0))), (q31, .inl (cA 0, 10, .inl (fun _ => 0))), (q39, .inl (cA 0, 10, .inl (fun _ => 0)))] H := hP
  have hD : va_D A [(h0, .inr (3, [.null, .ref q7, .ref q15, .ref q23, .ref q31, .ref q39, .null, .null, .int 0, .int 0, .int 0, .int 0])), (q7, .inl (cA 0, 10, .inl (fun _ => 0))), (q15, .inl (cA 0, 10, .inl (fun _ => 0))), (q23, .inl (cA 0, 10, .inl (fun _ => 0))), (q31, .inl (cA 0, 10, .inl (fun _ => 0))), (q39, .inl (cA 0, 10, .inl (fun _ => 0)))] := hD
  refine lv_aload_n hx hb dc_X3_init_44 rfl (lv_at hl 0 rfl) ?_
  refine lv_bipush (v := 10) hx hb dc_X3_init_45 (by decide) ?_
  refine am_newa (a0 := (10, .inl (fun _ => 0))) (atype := .int) hx hb 0 (ty := .int) rfl rfl (hTs _ wk_91) (fun _ h1 h2 => Option.some.inj (h1.symm.trans h2)) hK hP hD hS hA (fun _ => rfl) (by decide) (N' := 10) (by decide) (by decide) (Nat.le_of_ble_eq_true rfl) (Nat.le_of_ble_eq_true rfl) dc_X3_init_47 (fun q47 H hP hD hS => ?_)
  have hP : va_P D classes [(h0, .inr (3, [.null, .ref q7, .ref q15, .ref q23, .ref q31, .ref q39, .null, .null, .int 0, .int 0, .int 0, .int 0])), (q7, .inl (cA 0, 10, .inl (fun _ => 0))), (q15, .inl (cA 0, 10, .inl (fun _ => 0))), (q23, .inl (cA 0, 10, .inl (fun _ => 0))), (q31, .inl (cA 0, 10, .inl (fun _ => 0))), (q39, .inl (cA 0, 10, .inl (fun _ => 0))), (q47, .inl (cA 0, 10, .inl (fun _ => 0)))] H := hP
  have hD : va_D A [(h0, .inr (3, [.null, .ref q7, .ref q15, .ref q23, .ref q31, .ref q39, .null, .null, .int 0, .int 0, .int 0, .int 0])), (q7, .inl (cA 0, 10, .inl (fun _ => 0))), (q15, .inl (cA 0, 10, .inl (fun _ => 0))), (q23, .inl (cA 0, 10, .inl (fun _ => 0))), (q31, .inl (cA 0, 10, .inl (fun _ => 0))), (q39, .inl (cA 0, 10, .inl (fun _ => 0))), (q47, .inl (cA 0, 10, .inl (fun _ => 0)))] := hD
  refine va_putF (D := D) (ci := 3) (v := .ref q47) (ty := .array .int) (C := RX3) (T := TX3) (N := 12) hx hb hTs cl_X3.2 tyX3 tyX3_ok nmX3 hown hK hP hD hS 0 rfl rfl 6 (by decide) (hTs _ wk_229) (fun _ h9 => h9) rfl hin rfl (by decide +kernel) rfl rfl (Nat.le_of_ble_eq_true rfl) dc_X3_init_49 (fun H locs hP hD hS => ?_)
  have hP : va_P D classes [(h0, .inr (3, [.null, .ref q7, .ref q15, .ref q23, .ref q31, .ref q39, .ref q47, .null, .int 0, .int 0, .int 0, .int 0])), (q7, .inl (cA 0, 10, .inl (fun _ => 0))), (q15, .inl (cA 0, 10, .inl (fun _ => 0))), (q23, .inl (cA 0, 10, .inl (fun _ => 0))), (q31, .inl (cA 0, 10, .inl (fun _ => 0))), (q39, .inl (cA 0, 10, .inl (fun _ => 0))), (q47, .inl (cA 0, 10, .inl (fun _ => 0)))] H := hP
  have hD : va_D A [(h0, .inr (3, [.null, .ref q7, .ref q15, .ref q23, .ref q31, .ref q39, .ref q47, .null, .int 0, .int 0, .int 0, .int 0])), (q7, .inl (cA 0, 10, .inl (fun _ => 0))), (q15, .inl (cA 0, 10, .inl (fun _ => 0))), (q23, .inl (cA 0, 10, .inl (fun _ => 0))), (q31, .inl (cA 0, 10, .inl (fun _ => 0))), (q39, .inl (cA 0, 10, .inl (fun _ => 0))), (q47, .inl (cA 0, 10, .inl (fun _ => 0)))] := hD
  refine lv_aload_n hx hb dc_X3_init_52 rfl (lv_at hl 0 rfl) ?_
  refine lv_sipush (v := 1024) hx hb dc_X3_init_53 (by decide) ?_
  refine am_newa (a0 := (1024, .inl (fun _ => 0))) (atype := .int) hx hb 0 (ty := .int) rfl rfl (hTs _ wk_91) (fun _ h1 h2 => Option.some.inj (h1.symm.trans h2)) hK hP hD hS hA (fun _ => rfl) (by decide) (N' := 1024) (by decide) (by decide) (Nat.le_of_ble_eq_true rfl) (Nat.le_of_ble_eq_true rfl) dc_X3_init_56 (fun q56 H hP hD hS => ?_)
  have hP : va_P D classes [(h0, .inr (3, [.null, .ref q7, .ref q15, .ref q23, .ref q31, .ref q39, .ref q47, .null, .int 0, .int 0, .int 0, .int 0])), (q7, .inl (cA 0, 10, .inl (fun _ => 0))), (q15, .inl (cA 0, 10, .inl (fun _ => 0))), (q23, .inl (cA 0, 10, .inl (fun _ => 0))), (q31, .inl (cA 0, 10, .inl (fun _ => 0))), (q39, .inl (cA 0, 10, .inl (fun _ => 0))), (q47, .inl (cA 0, 10, .inl (fun _ => 0))), (q56, .inl (cA 0, 1024, .inl (fun _ => 0)))] H := hP
  have hD : va_D A [(h0, .inr (3, [.null, .ref q7, .ref q15, .ref q23, .ref q31, .ref q39, .ref q47, .null, .int 0, .int 0, .int 0, .int 0])), (q7, .inl (cA 0, 10, .inl (fun _ => 0))), (q15, .inl (cA 0, 10, .inl (fun _ => 0))), (q23, .inl (cA 0, 10, .inl (fun _ => 0))), (q31, .inl (cA 0, 10, .inl (fun _ => 0))), (q39, .inl (cA 0, 10, .inl (fun _ => 0))), (q47, .inl (cA 0, 10, .inl (fun _ => 0))), (q56, .inl (cA 0, 1024, .inl (fun _ => 0)))] := hD
  refine va_putF (D := D) (ci := 3) (v := .ref q56) (ty := .array .int) (C := RX3) (T := TX3) (N := 12) hx hb hTs cl_X3.2 tyX3 tyX3_ok nmX3 hown hK hP hD hS 0 rfl rfl 7 (by decide) (hTs _ wk_231) (fun _ h9 => h9) rfl hin rfl (by decide +kernel) rfl rfl (Nat.le_of_ble_eq_true rfl) dc_X3_init_58 (fun H locs hP hD hS => ?_)
  have hP : va_P D classes [(h0, .inr (3, [.null, .ref q7, .ref q15, .ref q23, .ref q31, .ref q39, .ref q47, .ref q56, .int 0, .int 0, .int 0, .int 0])), (q7, .inl (cA 0, 10, .inl (fun _ => 0))), (q15, .inl (cA 0, 10, .inl (fun _ => 0))), (q23, .inl (cA 0, 10, .inl (fun _ => 0))), (q31, .inl (cA 0, 10, .inl (fun _ => 0))), (q39, .inl (cA 0, 10, .inl (fun _ => 0))), (q47, .inl (cA 0, 10, .inl (fun _ => 0))), (q56, .inl (cA 0, 1024, .inl (fun _ => 0)))] H := hP
  have hD : va_D A [(h0, .inr (3, [.null, .ref q7, .ref q15, .ref q23, .ref q31, .ref q39, .ref q47, .ref q56, .int 0, .int 0, .int 0, .int 0])), (q7, .inl (cA 0, 10, .inl (fun _ => 0))), (q15, .inl (cA 0, 10, .inl (fun _ => 0))), (q23, .inl (cA 0, 10, .inl (fun _ => 0))), (q31, .inl (cA 0, 10, .inl (fun _ => 0))), (q39, .inl (cA 0, 10, .inl (fun _ => 0))), (q47, .inl (cA 0, 10, .inl (fun _ => 0))), (q56, .inl (cA 0, 1024, .inl (fun _ => 0)))] := hD
  refine lv_aload_n hx hb dc_X3_init_61 rfl (lv_at hl 0 rfl) ?_
  refine lv_iconst (v := 0) hx hb dc_X3_init_62 (by decide) ?_
  refine va_put (D := D) (ci := 3) (v := .int 0) (ty := .int) (C := RX3) (T := TX3) (N := 12) hx hb hTs cl_X3.2 tyX3 tyX3_ok nmX3 hown hK hP hD hS 0 rfl rfl 8 (by decide) (hTs _ wk_232) (fun _ h9 => h9) rfl (by decide +kernel) rfl rfl (Nat.le_of_ble_eq_true rfl) dc_X3_init_63 (fun H locs hP hD hS => ?_)
  have hP : va_P D classes [(h0, .inr (3, [.null, .ref q7, .ref q15, .ref q23, .ref q31, .ref q39, .ref q47, .ref q56, .int 0, .int 0, .int 0, .int 0])), (q7, .inl (cA 0, 10, .inl (fun _ => 0))), (q15, .inl (cA 0, 10, .inl (fun _ => 0))), (q23, .inl (cA 0, 10, .inl (fun _ => 0))), (q31, .inl (cA 0, 10, .inl (fun _ => 0))), (q39, .inl (cA 0, 10, .inl (fun _ => 0))), (q47, .inl (cA 0, 10, .inl (fun _ => 0))), (q56, .inl (cA 0, 1024, .inl (fun _ => 0)))] H := hP
  have hD : va_D A [(h0, .inr (3, [.null, .ref q7, .ref q15, .ref q23, .ref q31, .ref q39, .ref q47, .ref q56, .int 0, .int 0, .int 0, .int 0])), (q7, .inl (cA 0, 10, .inl (fun _ => 0))), (q15, .inl (cA 0, 10, .inl (fun _ => 0))), (q23, .inl (cA 0, 10, .inl (fun _ => 0))), (q31, .inl (cA 0, 10, .inl (fun _ => 0))), (q39, .inl (cA 0, 10, .inl (fun _ => 0))), (q47, .inl (cA 0, 10, .inl (fun _ => 0))), (q56, .inl (cA 0, 1024, .inl (fun _ => 0)))] := hD
  refine lv_aload_n hx hb dc_X3_init_66 rfl (lv_at hl 0 rfl) ?_
  refine lv_iconst (v := 0) hx hb dc_X3_init_67 (by decide) ?_
  refine va_put (D := D) (ci := 3) (v := .int 0) (ty := .int) (C := RX3) (T := TX3) (N := 12) hx hb hTs cl_X3.2 tyX3 tyX3_ok nmX3 hown hK hP hD hS 0 rfl rfl 9 (by decide) (hTs _ wk_233) (fun _ h9 => h9) rfl (by decide +kernel) rfl rfl (Nat.le_of_ble_eq_true rfl) dc_X3_init_68 (fun H locs hP hD hS => ?_)
  have hP : va_P D classes [(h0, .inr (3, [.null, .ref q7, .ref q15, .ref q23, .ref q31, .ref q39, .ref q47, .ref q56, .int 0, .int 0, .int 0, .int 0])), (q7, .inl (cA 0, 10, .inl (fun _ => 0))), (q15, .inl (cA 0, 10, .inl (fun _ => 0))), (q23, .inl (cA 0, 10, .inl (fun _ => 0))), (q31, .inl (cA 0, 10, .inl (fun _ => 0))), (q39, .inl (cA 0, 10, .inl (fun _ => 0))), (q47, .inl (cA 0, 10, .inl (fun _ => 0))), (q56, .inl (cA 0, 1024, .inl (fun _ => 0)))] H := hP
  have hD : va_D A [(h0, .inr (3, [.null, .ref q7, .ref q15, .ref q23, .ref q31, .ref q39, .ref q47, .ref q56, .int 0, .int 0, .int 0, .int 0])), (q7, .inl (cA 0, 10, .inl (fun _ => 0))), (q15, .inl (cA 0, 10, .inl (fun _ => 0))), (q23, .inl (cA 0, 10, .inl (fun _ => 0))), (q31, .inl (cA 0, 10, .inl (fun _ => 0))), (q39, .inl (cA 0, 10, .inl (fun _ => 0))), (q47, .inl (cA 0, 10, .inl (fun _ => 0))), (q56, .inl (cA 0, 1024, .inl (fun _ => 0)))] := hD
  refine lv_aload_n hx hb dc_X3_init_71 rfl (lv_at hl 0 rfl) ?_
  refine lv_bipush (v := 7) hx hb dc_X3_init_72 (by decide) ?_
  refine va_put (D := D) (ci := 3) (v := .int 7) (ty := .int) (C := RX3) (T := TX3) (N := 12) hx hb hTs cl_X3.2 tyX3 tyX3_ok nmX3 hown hK hP hD hS 0 rfl rfl 10 (by decide) (hTs _ wk_235) (fun _ h9 => h9) rfl (by decide +kernel) rfl rfl (Nat.le_of_ble_eq_true rfl) dc_X3_init_74 (fun H locs hP hD hS => ?_)
  have hP : va_P D classes [(h0, .inr (3, [.null, .ref q7, .ref q15, .ref q23, .ref q31, .ref q39, .ref q47, .ref q56, .int 0, .int 0, .int 7, .int 0])), (q7, .inl (cA 0, 10, .inl (fun _ => 0))), (q15, .inl (cA 0, 10, .inl (fun _ => 0))), (q23, .inl (cA 0, 10, .inl (fun _ => 0))), (q31, .inl (cA 0, 10, .inl (fun _ => 0))), (q39, .inl (cA 0, 10, .inl (fun _ => 0))), (q47, .inl (cA 0, 10, .inl (fun _ => 0))), (q56, .inl (cA 0, 1024, .inl (fun _ => 0)))] H := hP
  have hD : va_D A [(h0, .inr (3, [.null, .ref q7, .ref q15, .ref q23, .ref q31, .ref q39, .ref q47, .ref q56, .int 0, .int 0, .int 7, .int 0])), (q7, .inl (cA 0, 10, .inl (fun _ => 0))), (q15, .inl (cA 0, 10, .inl (fun _ => 0))), (q23, .inl (cA 0, 10, .inl (fun _ => 0))), (q31, .inl (cA 0, 10, .inl (fun _ => 0))), (q39, .inl (cA 0, 10, .inl (fun _ => 0))), (q47, .inl (cA 0, 10, .inl (fun _ => 0))), (q56, .inl (cA 0, 1024, .inl (fun _ => 0)))] := hD
  refine lv_aload_n hx hb dc_X3_init_77 rfl (lv_at hl 0 rfl) ?_
  refine lv_iconst (v := 0) hx hb dc_X3_init_78 (by decide) ?_
  refine va_put (D := D) (ci := 3) (v := .int 0) (ty := .int) (C := RX3) (T := TX3) (N := 12) hx hb hTs cl_X3.2 tyX3 tyX3_ok nmX3 hown hK hP hD hS 0 rfl rfl 11 (by decide) (hTs _ wk_237) (fun _ h9 => h9) rfl (by decide +kernel) rfl rfl (Nat.le_of_ble_eq_true rfl) dc_X3_init_79 (fun H locs hP hD hS => ?_)
  have hP : va_P D classes [(h0, .inr (3, [.null, .ref q7, .ref q15, .ref q23, .ref q31, .ref q39, .ref q47, .ref q56, .int 0, .int 0, .int 7, .int 0])), (q7, .inl (cA 0, 10, .inl (fun _ => 0))), (q15, .inl (cA 0, 10, .inl (fun _ => 0))), (q23, .inl (cA 0, 10, .inl (fun _ => 0))), (q31, .inl (cA 0, 10, .inl (fun _ => 0))), (q39, .inl (cA 0, 10, .inl (fun _ => 0))), (q47, .inl (cA 0, 10, .inl (fun _ => 0))), (q56, .inl (cA 0, 1024, .inl (fun _ => 0)))] H := hP
  have hD : va_D A [(h0, .inr (3, [.null, .ref q7, .ref q15, .ref q23, .ref q31, .ref q39, .ref q47, .ref q56, .int 0, .int 0, .int 7, .int 0])), (q7, .inl (cA 0, 10, .inl (fun _ => 0))), (q15, .inl (cA 0, 10, .inl (fun _ => 0))), (q23, .inl (cA 0, 10, .inl (fun _ => 0))), (q31, .inl (cA 0, 10, .inl (fun _ => 0))), (q39, .inl (cA 0, 10, .inl (fun _ => 0))), (q47, .inl (cA 0, 10, .inl (fun _ => 0))), (q56, .inl (cA 0, 1024, .inl (fun _ => 0)))] := hD
  refine lv_aload_n hx hb dc_X3_init_82 rfl (lv_at hl 0 rfl) ?_
  refine lv_aload_n hx hb dc_X3_init_83 rfl (lv_at hl 1 rfl) ?_
  refine va_putF (D := D) (ci := 3) (v := .ref a1) (ty := .object "SeasonOfHours$Modes") (C := RX3) (T := TX3) (N := 12) hx hb hTs cl_X3.2 tyX3 tyX3_ok nmX3 hown hK hP hD hS 0 rfl rfl 0 (by decide) (hTs _ wk_222) (fun _ h9 => h9) rfl hin rfl (by decide +kernel) rfl rfl (Nat.le_of_ble_eq_true rfl) dc_X3_init_84 (fun H locs hP hD hS => ?_)
  have hP : va_P D classes [(h0, .inr (3, [.ref a1, .ref q7, .ref q15, .ref q23, .ref q31, .ref q39, .ref q47, .ref q56, .int 0, .int 0, .int 7, .int 0])), (q7, .inl (cA 0, 10, .inl (fun _ => 0))), (q15, .inl (cA 0, 10, .inl (fun _ => 0))), (q23, .inl (cA 0, 10, .inl (fun _ => 0))), (q31, .inl (cA 0, 10, .inl (fun _ => 0))), (q39, .inl (cA 0, 10, .inl (fun _ => 0))), (q47, .inl (cA 0, 10, .inl (fun _ => 0))), (q56, .inl (cA 0, 1024, .inl (fun _ => 0)))] H := hP
  have hD : va_D A [(h0, .inr (3, [.ref a1, .ref q7, .ref q15, .ref q23, .ref q31, .ref q39, .ref q47, .ref q56, .int 0, .int 0, .int 7, .int 0])), (q7, .inl (cA 0, 10, .inl (fun _ => 0))), (q15, .inl (cA 0, 10, .inl (fun _ => 0))), (q23, .inl (cA 0, 10, .inl (fun _ => 0))), (q31, .inl (cA 0, 10, .inl (fun _ => 0))), (q39, .inl (cA 0, 10, .inl (fun _ => 0))), (q47, .inl (cA 0, 10, .inl (fun _ => 0))), (q56, .inl (cA 0, 1024, .inl (fun _ => 0)))] := hD
  refine W.widen (k := 7) (n := 1084) (Nat.le_of_ble_eq_true rfl) (Nat.le_of_ble_eq_true rfl) ?_
  exact W.vret hx hb hr (fun u hu hW => ⟨⟨(), rfl, trivial, q7, q15, q23, q31, q39, q47, q56, by rw [hu]; exact hP, hD⟩, hS.F hu⟩) hS.2.2 dc_X3_init_87 hlocks
