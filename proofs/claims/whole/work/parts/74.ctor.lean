/-! what the constructors stand on -/
def lw_Ni : NS := [("SeasonOfHours", 9, yX2_init, "SeasonOfHours"), ("SeasonOfHours", 18, yX0_init, "SeasonOfHours")]
def EVf (cA : Nat → ClassId) (D : va_G) (t : Nat) (A : Nat → Prop) (U : State) : Prop := va_K D classes (am_tys cA) U ∧ (∀ q ∈ lw_Ns, va_Nw (.methodLinkNest q.1 q.2.1 q.2.2.1 q.2.2.2) U) ∧ (∀ q ∈ lw_Ni, va_Nw (.methodLinkNest q.1 q.2.1 q.2.2.1 q.2.2.2) U) ∧ va_AOA .int U ∧ va_AOA .long U ∧ am_Z (fun _ => t) A U U.heap
theorem va_AOA.moved {ty : FieldType} {s U : State} (hvm : s.vm.Alike U.vm) (h : va_AOA ty s) : va_AOA ty U := by
  have h1 : (Cond.arrayOver (.array ty)).before #[] (s.setVm U.vm) = true := by
    rw [Cond.arrayOver_setVmC hvm]
    exact h
  exact h1
theorem EVf.call {cA : Nat → ClassId} {D : va_G} {t : Nat} {A : Nat → Prop} {U : State} {g : JFrame} {mk : MethodId} {a : Array Value} (h : EVf cA D t A U) : EVf cA D t A (U.calling g mk a) := by
  obtain ⟨h1, h2, h3, h4, h5, h6⟩ := h
  exact ⟨va_K.moved (u := U) (U := U.calling g mk a) (Vm.Alike.refl U.vm) h1, fun w hw => va_Nw.same rfl (u := U) (U := U.calling g mk a) rfl (h2 w hw), fun w hw => va_Nw.same rfl (u := U) (U := U.calling g mk a) rfl (h3 w hw), va_AOA.moved (s := U) (U := U.calling g mk a) (Vm.Alike.refl U.vm) h4, va_AOA.moved (s := U) (U := U.calling g mk a) (Vm.Alike.refl U.vm) h5, va_Z.moved (u := U) (U := U.calling g mk a) (Vm.Alike.refl U.vm) h6.1, va_T.moved (u := U) (U := U.calling g mk a) (Vm.Alike.refl U.vm) h6.2⟩
theorem EVf.go {cA : Nat → ClassId} {D : va_G} {t : Nat} {A A' : Nat → Prop} {s U : State} {H : Heap} {locs : List Loc} (h : EVf cA D t A s) (hS : va_S A s.heap H locs) (hU : U.heap = H) (hW : s.WarmedH U.vm) (hA : ∀ q, A' q → A q) : EVf cA D t A' U := by
  obtain ⟨h1, h2, h3, h4, h5, h6⟩ := h
  have hz := am_Zk h6 hS hU hW
  exact ⟨va_K.moved hW.alike h1, fun q hq => va_Nw.warmM hW (h2 q hq), fun q hq => va_Nw.warmM hW (h3 q hq), h4.moved hW.alike, h5.moved hW.alike, hz.1.narrow hA, hz.2.narrow hA⟩
def CPre (cA : Nat → ClassId) (D : va_G) (t : Nat) (av : List Value) (h0 : Nat) (e0 : va_E) (sz : Nat) : Array Value → State → Prop := va_Pc av (fun U => U.heap.size = sz ∧ va_P D classes [(h0, e0)] U.heap ∧ EVf cA D t (va_A [(h0, e0)] sz) U)
theorem CPre.blind {cA : Nat → ClassId} {D : va_G} {t : Nat} {av : List Value} {h0 : Nat} {e0 : va_E} {sz : Nat} : FrameBlind (CPre cA D t av h0 e0 sz) := by
  intro a U g mk q
  obtain ⟨q0, q1, q2, q3⟩ := q
  exact ⟨q0, q1, q2, q3.call⟩
theorem one_D {h0 : Nat} {e0 : va_E} {A : Nat → Prop} (h : A h0) : va_D A [(h0, e0)] := by
  refine ⟨fun i j x y hx hy _ => ?_, fun k q hq => ?_⟩
  · have h1 : i < 1 := (List.getElem?_eq_some_iff.mp hx).1
    have h2 : j < 1 := (List.getElem?_eq_some_iff.mp hy).1
    omega
  · have h1 : k < 1 := (List.getElem?_eq_some_iff.mp hq).1
    rw [show k = 0 by omega] at hq
    cases hq
    exact h
section CT
variable {p : Program} {l : Launch} {e : Env} {R : Room} {s : State} {m : MethodId} {args : Array Value} {below : List Frame} {meth : Method} {c : Code} {H H0 : Heap} {locs : List Loc} {cells slots : Nat} {Q : State → Prop} {cc : ByteArray} {pc : Nat} {ls : Array Slot} {D : va_G} {cA : Nat → ClassId} {A : Nat → Prop} {ws : va_W} {rest : List Value}
theorem am_newa (hx : p.tables.exec = Jvm.exec) (hb : c.code = cc) {atype : ArrayType} (tn : Nat) {ty : FieldType} (hty : newarray.typeOf atype = ty) (ht : (am_tys cA)[tn]? = some (cA tn, ty)) (harr : (Cond.arrayClass (newarray.typeOf atype)).before args s = true) (hRA : ∀ c', va_RA s c' ty → va_RA s (cA tn) ty → c' = cA tn) (hK : va_K D classes (am_tys cA) s) (hP : va_P D classes ws H) (hD : va_D A ws) (hS : va_S A H0 H locs) (hA : ∀ q, H0.size ≤ q → A q)
    {n : Int32} {N' : Nat} {a0 : vp_A} (ha : ∀ cA : ClassId, vp_cell cA a0 = arrV cA N' (fun _ => defaultValue ty)) (hn : ¬ n < 0) (hN : n.toNatClampNeg = N') (hbytes : N' * componentBytes ty ≤ 536870912) (hcells : cells + 1 ≤ R.cells) (hslots : slots + N' ≤ R.slots) (hdg : decode cc pc = .ok (.newarray atype, 2))
    (kk : ∀ (q : Nat) (H1 : Heap), va_P D classes (ws ++ [(q, .inl (cA tn, a0))]) H1 → va_D A (ws ++ [(q, .inl (cA tn, a0))]) → va_S A H0 H1 locs → W p l e R s m args below meth c H1 locs (cells + 1) (slots + N') Q (F0 m (pc + 2) ls (.ref q :: rest))) :
    W p l e R s m args below meth c H locs cells slots Q (F0 m pc ls (.int n :: rest)) := by
  refine va_newa hx hb harr hty hK hP hD hS hA ha hn hN hbytes hcells hslots hdg (fun q cA' H1 hK1 hP1 hD1 hS1 => ?_)
  have h1 : va_RA s cA' ty := (hK1.2 5 (cA', ty) rfl).2
  have h2 : va_RA s (cA tn) ty := (hK.2 tn _ ht).2
  have e := hRA cA' h1 h2
  subst e
  exact kk q H1 hP1 hD1 hS1
theorem am_mna (hx : p.tables.exec = Jvm.exec) (hb : c.code = cc) {own : String} {index : Nat} {ty : FieldType} (tn ti : Nat) (hown : s.vm.findClass own = some m.cls) (hclink : (Cond.classLink own index ("[" ++ (FieldType.array ty).toString)).before args s = true) (hover : va_AOA ty s) (harr : (Cond.arrayClass ty).before args s = true) (ht : (am_tys cA)[tn]? = some (cA tn, .array ty)) (hcy : s.vm.findClass (FieldType.array ty).toString = some (cA ti))
    (hK : va_K D classes (am_tys cA) s) (hP : va_P D classes ws H) (hD : va_D A ws) (hS : va_S A H0 H locs) (hA : ∀ q, H0.size ≤ q → A q) {n k : Int32} {N' K' : Nat} {z : vp_A} (hn : ¬ n < 0) (hk : ¬ k < 0) (hN : n.toNatClampNeg = N') (hM : k.toNatClampNeg = K')
    (hb1 : N' * 4 ≤ 536870912) (hb2 : K' * componentBytes ty ≤ 536870912) (hb3 : K' ≤ 536870912) (hdf : fits ty (defaultValue ty) = true) (hdd : (defaultValue ty).isDefault = true) (hcells : cells + (1 + N') ≤ R.cells) (hslots : slots + (N' + N' * K') ≤ R.slots) (hz : ∀ c : ClassId, Jvm.Free.Multi.innerC c K' (defaultValue ty) = vp_cell c z) (hdg : decode cc pc = .ok (.multianewarray index 2, 4))
    (kk : ∀ (q : Nat) (r : Nat → Nat) (H1 : Heap), va_P D classes ((ws ++ [(q, .inl (cA tn, N', .inr (.inr (.inr (.inr (fun i => if i < N' then some (r i) else none))))))]) ++ (List.range N').map (fun i => (r i, .inl (cA ti, z)))) H1 → va_D A ((ws ++ [(q, .inl (cA tn, N', .inr (.inr (.inr (.inr (fun i => if i < N' then some (r i) else none))))))]) ++ (List.range N').map (fun i => (r i, .inl (cA ti, z)))) → va_S A H0 H1 locs →
      W p l e R s m args below meth c H1 locs (cells + 1 + N') (slots + N' + N' * K') Q (F0 m (pc + 4) ls (.ref q :: rest))) :
    W p l e R s m args below meth c H locs cells slots Q (F0 m pc ls (.int k :: .int n :: rest)) := by
  have hnil : va_pl [] (fun _ => (.inl (cA 0, z) : va_E)) = [] := rfl
  refine va_mna (X := ws) (L := []) (f := fun _ => .inl (cA 0, z)) hx hb hown hclink hover harr hcy hK (by rw [hnil, List.append_nil]; exact hP) (by rw [hnil, List.append_nil]; exact hD) hS hA hn hk hN hM hb1 hb2 hb3 hdf hdd hcells hslots hz hdg (fun q r cA' H1 _ _ hK1 hP1 hD1 hS1 => ?_)
  have h1 : s.vm.findClass ("[" ++ (FieldType.array ty).toString) = some cA' := (hK1.2 5 (cA', .array ty) rfl).2
  have h2 : s.vm.findClass ("[" ++ (FieldType.array ty).toString) = some (cA tn) := (hK.2 tn _ ht).2
  have e : cA' = cA tn := Option.some.inj (h1.symm.trans h2)
  subst e
  have hv : va_pl ([] ++ (List.range N').map r) (vr_up (fun _ => (.inl (cA 0, z) : va_E)) ((List.range N').map r) (.inl (cA ti, z))) = (List.range N').map (fun i => ((r i, .inl (cA ti, z)) : Nat × va_E)) := by
    rw [← vr_rows (fun a _ h => by cases h), hnil, List.nil_append, List.map_map]
    rfl
  rw [hv] at hP1 hD1
  exact kk q r H1 hP1 hD1 hS1
end CT
