/-! a run of the small machine is a run of the machine -/
theorem am_args_mem {ad : Nat → Nat} : ∀ (as : List AV) (i0 i : Nat) (v : AV), (am_slots as)[i]? = some v → v ≠ vU → (i0 + i, am_rp ad v) ∈ lv_args i0 (as.map (am_rp ad))
  | [], i0, i, v, h, _ => by simp [am_slots] at h
  | .inr (.inl z) :: r, i0, i, v, h, hu => by
    show _ ∈ (i0, am_rp ad (vL z)) :: lv_args (i0 + 2) (r.map (am_rp ad))
    match i, h with
    | 0, h => cases h; exact List.mem_cons_self
    | 1, h => cases h; exact absurd rfl hu
    | i + 2, h =>
      have h2 := am_args_mem (ad := ad) r (i0 + 2) i v h hu
      rw [show i0 + (i + 2) = i0 + 2 + i by omega]
      exact List.mem_cons_of_mem _ h2
  | .inl z :: r, i0, i, v, h, hu => by
    show _ ∈ (i0, am_rp ad (vI z)) :: lv_args (i0 + 1) (r.map (am_rp ad))
    match i, h with
    | 0, h => cases h; exact List.mem_cons_self
    | i + 1, h =>
      have h2 := am_args_mem (ad := ad) r (i0 + 1) i v h hu
      rw [show i0 + (i + 1) = i0 + 1 + i by omega]
      exact List.mem_cons_of_mem _ h2
  | .inr (.inr none) :: r, i0, i, v, h, hu => by
    show _ ∈ (i0, am_rp ad vU) :: lv_args (i0 + 1) (r.map (am_rp ad))
    match i, h with
    | 0, h => cases h; exact List.mem_cons_self
    | i + 1, h =>
      have h2 := am_args_mem (ad := ad) r (i0 + 1) i v h hu
      rw [show i0 + (i + 1) = i0 + 1 + i by omega]
      exact List.mem_cons_of_mem _ h2
  | .inr (.inr (some a)) :: r, i0, i, v, h, hu => by
    show _ ∈ (i0, am_rp ad (vR a)) :: lv_args (i0 + 1) (r.map (am_rp ad))
    match i, h with
    | 0, h => cases h; exact List.mem_cons_self
    | i + 1, h =>
      have h2 := am_args_mem (ad := ad) r (i0 + 1) i v h hu
      rw [show i0 + (i + 1) = i0 + 1 + i by omega]
      exact List.mem_cons_of_mem _ h2
theorem am_sl_len {ad : Nat → Nat} : ∀ as : List AV, (lg_sl (as.map (am_rp ad))).length = (am_slots as).length
  | [] => rfl
  | .inr (.inl z) :: r => by
    have h := am_sl_len (ad := ad) r
    simp only [List.map_cons, am_slots, lg_sl, am_rp, Value.category, List.length_cons] at h ⊢
    simp [h]
  | .inl z :: r => by
    have h := am_sl_len (ad := ad) r
    simp only [List.map_cons, am_slots, lg_sl, am_rp, Value.category, List.length_cons] at h ⊢
    simp [h]
  | .inr (.inr none) :: r => by
    have h := am_sl_len (ad := ad) r
    simp only [List.map_cons, am_slots, lg_sl, am_rp, Value.category, List.length_cons] at h ⊢
    simp [h]
  | .inr (.inr (some a)) :: r => by
    have h := am_sl_len (ad := ad) r
    simp only [List.map_cons, am_slots, lg_sl, am_rp, Value.category, List.length_cons] at h ⊢
    simp [h]
theorem am_LR_ent {ad : Nat → Nat} {n : Nat} {as : List AV} (h : (am_slots as).length ≤ n) : am_LR ad n (am_ent n as) ((lg_sl (as.map (am_rp ad)) ++ List.replicate (n - (lg_sl (as.map (am_rp ad))).length) Slot.unset).toArray) := by
  have hl := lv_entry (as.map (am_rp ad)) (n := n) (by rw [am_sl_len]; exact h)
  refine ⟨hl.1, by simp [am_ent]; omega, hl.2.1, fun i v hv hu => ?_⟩
  have h1 : (am_slots as)[i]? = some v := by
    unfold am_ent at hv
    rw [List.getElem?_append] at hv
    split at hv
    · exact hv
    · rw [List.getElem?_replicate] at hv
      split at hv
      · cases hv; exact absurd rfl hu
      · cases hv
  have h2 := am_args_mem (ad := ad) as 0 i v h1 hu
  rw [Nat.zero_add] at h2
  exact hl.2.2 _ h2
/-- of a method in the machine: its name, its bytes, its locals, what it answers -/
abbrev MI : Type := Nat → MethodName × ByteArray × Nat × Option FieldType
def am_rt (q : Nat) : Option FieldType := match q with
  | 0 => none
  | 1 => some .int
  | 2 => some .boolean
  | _ => some .long
/-- what a contract says of the end -/
def am_Q (ad : Nat → Nat) (cA : Nat → ClassId) (D : va_G) (sk : SK) (r : Option AV) (G : AG) : Array Value → State → Outcome → State → Prop := match r with
  | some (.inl z) => va_Qi (fun (x : Int32) (_ : Unit) => x = am_i z) (fun _ t => va_P D classes (am_wo ad cA sk G) t.heap) (am_A ad sk)
  | some (.inr (.inl z)) => va_Ql (fun (x : Int64) (_ : Unit) => x = am_l z) (fun _ t => va_P D classes (am_wo ad cA sk G) t.heap) (am_A ad sk)
  | none => va_Qv (fun (_ : Unit) => True) (fun _ t => va_P D classes (am_wo ad cA sk G) t.heap) (am_A ad sk)
  | _ => fun _ _ _ _ => False
def am_P (ad : Nat → Nat) (cA : Nat → ClassId) (D : va_G) (sk : SK) (Ns : NS) (as : List AV) (G : AG) : Array Value → State → Prop := va_Pc (as.map (am_rp ad)) (fun U => va_P D classes (am_wo ad cA sk G) U.heap ∧ va_K D classes (am_tys cA) U ∧ (∀ q ∈ Ns, va_Nw (.methodLinkNest q.1 q.2.1 q.2.2.1 q.2.2.2) U) ∧ am_Z ad (am_A ad sk) U U.heap)
def am_room (d : Nat) : Room := { frames := d, cells := 0, slots := 0, locals := 60 * d }
/-- what is to be known of a call -/
def am_okc (mi : MI) (mt : MT) (Ts : List Cond) (Ns : NS) (cc : ByteArray) (own : String) (pc j na : Nat) : Prop :=
  ∃ ix : Nat, ((mi j).1.cls ≠ "java/lang/invoke/MethodHandle" ∧ (mi j).1.cls ≠ "java/lang/invoke/VarHandle" ∧ plainFor (mi j).1 = true) ∧ Cond.code (mi j).1 (mi j).2.1 (mi j).2.2.1 (mi j).2.2.2 ∈ Ts ∧ Cond.initialized (mi j).1.cls ∈ Ts ∧ (mi j).2.2.1 ≤ 40 ∧
    (((mt j).2.2.2 = 0 ∧ decode cc pc = .ok (.invokestatic ix, 3) ∧ Cond.static (mi j).1 ∈ Ts ∧ (parseMethodDescriptor (mi j).1.desc).map (fun d => d.parameters.length) = some na ∧ (Cond.methodLink own ix (mi j).1 ∈ Ts ∨ ∃ host, (own, ix, (mi j).1, host) ∈ Ns)) ∨
     (∃ (ci nb : Nat) (T : u_T) (N : Nat), (mt j).2.2.2 = ci + 1 ∧ na = nb + 1 ∧ classes[ci]? = some ((mi j).1.cls, T, N) ∧ decode cc pc = .ok (.invokevirtual ix, 3) ∧ Cond.instanceMethod (mi j).1 ∈ Ts ∧ Cond.selects (mi j).1.cls (mi j).1 (mi j).1 ∈ Ts ∧ Cond.methodLink own ix (mi j).1 ∈ Ts ∧ (parseMethodDescriptor (mi j).1.desc).map (fun d => d.parameters.length) = some nb))
def am_okr (cc : ByteArray) (pc q : Nat) : Prop := match q with
  | 0 => decode cc pc = .ok (.return_, 1)
  | 1 => decode cc pc = .ok (.ireturn, 1)
  | 2 => decode cc pc = .ok (.ireturn, 1)
  | _ => decode cc pc = .ok (.lreturn, 1)
def am_okI (mi : MI) (mt : MT) (Ts : List Cond) (Ns : NS) (k pc : Nat) (i : IN) : Prop := match i with
  | .inl op => am_ok Ts (mi k).2.1 (mi k).2.2.1 (mi k).1.cls pc op
  | .inr (.inl (j, na)) => am_okc mi mt Ts Ns (mi k).2.1 (mi k).1.cls pc j na
  | .inr (.inr ()) => am_okr (mi k).2.1 pc (mt k).2.2.1
def am_okT (mi : MI) (mt : MT) (Ts : List Cond) (Ns : NS) : Prop := ∀ k pc i, am_at (mt k).1 pc = some i → (mi k).2.2.1 = (mt k).2.1 ∧ (mi k).2.2.2 = am_rt (mt k).2.2.1 ∧ am_okI mi mt Ts Ns k pc i
theorem am_blind {ad : Nat → Nat} {cA : Nat → ClassId} {D : va_G} {sk : SK} {Ns : NS} {as : List AV} {G : AG} : FrameBlind (am_P ad cA D sk Ns as G) := by
  intro a U g mk q
  obtain ⟨q0, q1, q2, q3, q4⟩ := q
  exact ⟨q0, q1, va_K.moved (u := U) (U := U.calling g mk a) (Vm.Alike.refl U.vm) q2, fun w hw => va_Nw.same rfl (u := U) (U := U.calling g mk a) rfl (q3 w hw), va_Z.moved (u := U) (U := U.calling g mk a) (Vm.Alike.refl U.vm) q4.1, va_T.moved (u := U) (U := U.calling g mk a) (Vm.Alike.refl U.vm) q4.2⟩
