/-! the law's start -/
theorem arr_of {s : State} {args : Array Value} {ty : FieldType} (h : (Cond.arrayClass ty).before args s = true) : ∃ cA : ClassId, ArrOfT s cA ty ∧ s.vm.findClass ("[" ++ ty.toString) = some cA := by
  obtain ⟨cA, k, comp, h1, h2, h3⟩ := Cond.arrayClass_spec h
  exact ⟨cA, fun N z => ⟨(fun q hq => by cases hq), k, h2, comp, h3⟩, h1⟩
theorem arr_ofA {s : State} {args : Array Value} {ty : FieldType} (h : (Cond.arrayOver (.array ty)).before args s = true) : ∃ cA : ClassId, ArrOfT s cA (.array ty) ∧ s.vm.findClass ("[" ++ (FieldType.array ty).toString) = some cA := by
  obtain ⟨comp, cA, kA, h1, h2, h3, h4⟩ := Cond.arrayOver_specA h
  exact ⟨cA, fun N z => ⟨(fun q hq => by cases hq), kA, h2, comp, h3⟩, h4⟩
def pick (l : List ClassId) (d : ClassId) (k : Nat) : ClassId := l.getD k d
set_option maxHeartbeats 4000000 in
set_option maxRecDepth 100000 in
theorem lw_start {p : Program} {s : State} {m : MethodId} {meth : Method} {c : Code} {b L : Nat} {xs : Nat → Int32} (C0 : lw_At p s m meth c b L xs) : ∃ (D : va_G) (cA : Nat → ClassId) (t : Nat), EVf cA D t (fun q => s.heap.size ≤ q) s := by
  obtain ⟨hx, hb, hr, hml, hown, hts, hX, hbl, hlocks, hgv⟩ := id C0
  have hTs := lw_hTs C0
  obtain ⟨c0, i0, k0⟩ := u_known (C := RX0) (T := TX0) (N := 5) (n := 5) hTs cl_X0.2 (hTs _ wk_93)
  obtain ⟨c1, i1, k1⟩ := u_known (C := RX1) (T := TX1) (N := 5) (n := 5) hTs cl_X1.2 (hTs _ wk_265)
  obtain ⟨c2, i2, k2⟩ := u_known (C := RX2) (T := TX2) (N := 4) (n := 4) hTs cl_X2.2 (hTs _ wk_68)
  obtain ⟨c3, i3, k3⟩ := u_known (C := RX3) (T := TX3) (N := 12) (n := 12) hTs cl_X3.2 (hTs _ wk_217)
  obtain ⟨c4, i4, k4⟩ := u_known (C := RX4) (T := TX4) (N := 11) (n := 11) hTs cl_X4.2 (hTs _ wk_173)
  obtain ⟨c5, i5, k5⟩ := u_known (C := RX5) (T := TX5) (N := 7) (n := 7) hTs cl_X5.2 (hTs _ wk_132)
  obtain ⟨c6, i6, k6⟩ := u_known (C := RX6) (T := TX6) (N := 6) (n := 6) hTs cl_X6.2 (hts (.instantiable "SeasonOfHours" 6) (List.mem_of_getElem? (i := 60) (by decide +kernel)))
  obtain ⟨c7, i7, k7⟩ := u_known (C := RX7) (T := TX7) (N := 37) (n := 37) hTs cl_X7.2 (hts (.instantiable "SeasonOfHoursModel" 37) (List.mem_of_getElem? (i := 700) (by decide +kernel)))
  have o4 : (Cond.arrayOver (.array .int)).before #[Value.ref b] s = true := hts _ (List.mem_of_getElem? (i := 99) (by decide +kernel))
  have o5 : (Cond.arrayOver (.array .long)).before #[Value.ref b] s = true := hts _ (List.mem_of_getElem? (i := 179) (by decide +kernel))
  obtain ⟨x0, a0, f0⟩ := arr_of (hTs _ wk_91)
  obtain ⟨x1, a1, f1⟩ := arr_of (hTs _ wk_821)
  obtain ⟨x2, a2, f2⟩ := arr_of (hTs _ wk_215)
  obtain ⟨x3, a3, f3⟩ := arr_ofA o4
  obtain ⟨x4, a4, f4⟩ := arr_ofA o5
  have hs := flat_of_before _ hgv
  have hnA : ∀ a : Nat, a < s.heap.size → ¬ (fun q : Nat => s.heap.size ≤ q) a := fun a ha => Nat.not_le.mpr ha
  obtain ⟨t, ht, hT⟩ := va_Tof (args := #[Value.ref b]) (s := s) (tm := .static "SeasonOfHours$Planner" "PLACES" "[J") (ty := .long) (N := 6) (f := fun j => .long (am_l (am_pl.getD j 0))) (A := fun q => s.heap.size ≤ q) (by decide) (hs _ (by decide +kernel)) (va_eqt (hs _ (by decide +kernel))) (fun j hj => by
    rcases (show j = 0 ∨ j = 1 ∨ j = 2 ∨ j = 3 ∨ j = 4 ∨ j = 5 by omega) with rfl | rfl | rfl | rfl | rfl | rfl
    · exact va_eqtl (z := 69343957) (hs _ (by decide +kernel))
    · exact va_eqtl (z := 1874161) (hs _ (by decide +kernel))
    · exact va_eqtl (z := 50653) (hs _ (by decide +kernel))
    · exact va_eqtl (z := 1369) (hs _ (by decide +kernel))
    · exact va_eqtl (z := 37) (hs _ (by decide +kernel))
    · exact va_eqtl (z := 1) (hs _ (by decide +kernel))) hnA
  have hZ : va_Z "SeasonOfHours$Planner" "PLACES" "[J" (.ref t) (fun q => s.heap.size ≤ q) s s.heap := va_Zof (args := #[Value.ref b]) (hts _ (List.mem_of_getElem? (i := 457) (by decide +kernel))) (hTs _ wk_49) ht hnA
  refine ⟨(pick [c0, c1, c2, c3, c4, c5, c6, c7] c0, fun k => [i0, i1, i2, i3, i4, i5, i6, i7].getD k i0), pick [x0, x1, x2, x3, x4] x0, t, ⟨fun k q hq => ?_, fun k q hq => ?_⟩, fun q hq => va_Nw.of rfl (hts _ ((show ∀ q ∈ lw_Ns, (Cond.methodLinkNest q.1 q.2.1 q.2.2.1 q.2.2.2) ∈ lw_tbl by decide +kernel) q hq)), fun q hq => va_Nw.of rfl (hts _ ((show ∀ q ∈ lw_Ni, (Cond.methodLinkNest q.1 q.2.1 q.2.2.1 q.2.2.2) ∈ lw_tbl by decide +kernel) q hq)), o4, o5, hZ, hT⟩
  · match k, hq with
    | 0, hq => cases hq; exact k0
    | 1, hq => cases hq; exact k1
    | 2, hq => cases hq; exact k2
    | 3, hq => cases hq; exact k3
    | 4, hq => cases hq; exact k4
    | 5, hq => cases hq; exact k5
    | 6, hq => cases hq; exact k6
    | 7, hq => cases hq; exact k7
    | k + 8, hq => simp [classes] at hq
  · match k, hq with
    | 0, hq => cases hq; exact ⟨a0, f0⟩
    | 1, hq => cases hq; exact ⟨a1, f1⟩
    | 2, hq => cases hq; exact ⟨a2, f2⟩
    | 3, hq => cases hq; exact ⟨a3, f3⟩
    | 4, hq => cases hq; exact ⟨a4, f4⟩
    | k + 5, hq => simp [am_tys] at hq
