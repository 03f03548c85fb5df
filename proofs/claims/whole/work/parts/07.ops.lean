/-! fields and rows -/
section AmOps3
variable {Ts : List Cond} {cc : ByteArray} {nL pc : Nat} {own : String}
theorem am_fl_at {ad : Nat → Nat} {g : Int → Int} {fl : List Nat} {f x : Nat} (h : fl[f]? = some x) : (fl.mapIdx (fun j x => am_fld ad g j x))[f]? = some (am_fld ad g f x) := by
  simp [List.getElem?_mapIdx, h]
/-- what the table of a class says -/
def am_cl (Ts : List Cond) (ci : Nat) (C : String) (T : u_T) (N : Nat) : Prop := classes[ci]? = some (C, T, N) ∧ (∀ w ∈ u_ws C T N, w ∈ Ts)
theorem so_gf {ix ci f N : Nat} {C : String} {T : u_T} (hc : am_cl Ts ci C T N) (hf : f < N) (hw : Cond.fieldLink own ix (T f).1 (T f).2.1 (T f).2.2.1 ∈ Ts) (hdg : decode cc pc = .ok (.getfield ix, 3)) : am_ok Ts cc nL own pc (o_gf (pc + 3) ci f) := by
  intro ad cA D sk Ns p l e R s m args below meth c H locs Q ls al st G cf hj hC hS ho k
  obtain ⟨hx, hb, -, hown, hts, -, hK, -⟩ := hC
  unfold o_gf at ho
  split at ho
  · rename_i a st'
    split at ho
    · rename_i c0 fl hsk
      split at ho
      · rename_i hci
        subst hci
        have he := am_wo_at (ad := ad) (cA := cA) (G := G) hsk
        split at ho
        · rename_i hfl
          cases ho
          exact va_get hx hb hts hc.2 hown hK hS.1 a he hc.1 f hf (hts _ hw) (fun _ h => h) (am_fl_at hfl) hdg (k H locs ls hS)
        · rename_i r hfl
          cases ho
          exact va_get hx hb hts hc.2 hown hK hS.1 a he hc.1 f hf (hts _ hw) (fun _ h => h) (am_fl_at hfl) hdg (k H locs ls hS)
        · cases ho
      · cases ho
    · cases ho
  · cases ho
theorem am_obj_set {ad : Nat → Nat} {G : AG} {a f : Nat} {fl : List Nat} {z : Int} (h : fl[f]? = some 0) : fl.mapIdx (fun j x => am_fld ad (am_up G a f z a) j x) = (fl.mapIdx (fun j x => am_fld ad (G a) j x)).set f (.int (am_i z)) := by
  refine List.ext_getElem? fun j => ?_
  by_cases e : j = f
  · subst e
    rw [am_fl_at h, List.getElem?_set_self (by rw [List.length_mapIdx]; exact (List.getElem?_eq_some_iff.mp h).1)]
    simp [am_fld, am_up]
  · rw [List.getElem?_set_ne (fun q => e q.symm), List.getElem?_mapIdx, List.getElem?_mapIdx]
    cases fl[j]? with
    | none => rfl
    | some x =>
      cases x with
      | zero => simp [am_fld, am_up, show ¬ (j : Int) = (f : Int) by omega]
      | succ r => simp [am_fld]
theorem so_pf {ix ci f N : Nat} {C : String} {T : u_T} {ty : Nat → FieldType} (hc : am_cl Ts ci C T N) (hty : ∀ k, k < N → parseFieldDescriptor (T k).2.2.1 = some (ty k)) (hnm : ∀ a, a < N → ∀ b, b < N → a ≠ b → (T a).2.1 ≠ (T b).2.1) (hf : f < N) (hi : ty f = .int) (hfin : (T f).2.2.2 = false) (hw : Cond.fieldLink own ix (T f).1 (T f).2.1 (T f).2.2.1 ∈ Ts) (hdg : decode cc pc = .ok (.putfield ix, 3)) : am_ok Ts cc nL own pc (o_pf (pc + 3) ci f) := by
  intro ad cA D sk Ns p l e R s m args below meth c H locs Q ls al st G cf hj hC hS ho k
  obtain ⟨hx, hb, -, hown, hts, -, hK, -⟩ := hC
  unfold o_pf at ho
  split at ho
  · rename_i z a st'
    split at ho
    · rename_i c0 fl hsk
      split at ho
      · rename_i hci
        subst hci
        have he := am_wo_at (ad := ad) (cA := cA) (G := G) hsk
        split at ho
        · rename_i hfl
          cases ho
          have hd : parseFieldDescriptor (T f).2.2.1 = some .int := by rw [← hi]; exact hty f hf
          refine va_put hx hb hts hc.2 ty hty hnm hown hK hS.1 (am_D hj G) hS.2.1 a he hc.1 f hf (hts _ hw) (fun _ h => h) hfin hd (v := .int (am_i z)) rfl rfl (by rw [List.length_mapIdx]; exact (List.getElem?_eq_some_iff.mp hfl).1) hdg (fun H1 locs1 hP1 _ hS1 => ?_)
          refine k H1 locs1 ls ⟨?_, hS1, hS.2.2⟩
          rw [am_wo_set (G' := am_up G a f z) hsk (congrArg Sum.inr (congrArg (Prod.mk c0) (am_obj_set hfl))) (fun b hb => am_up_ne G a f z b hb)] at hP1
          exact hP1
        · cases ho
      · cases ho
    · cases ho
  · cases ho
theorem am_ix {i : Int} {n : Nat} (h : am_in i n = true) (g : Int → Int) : g ((am_i i).toNatClampNeg : Int) = g (am_i i).toInt := by rw [am_clamp h]
theorem so_ia (hdg : decode cc pc = .ok (.iaload, 1)) : am_ok Ts cc nL own pc (o_ia (pc + 1)) := by
  intro ad cA D sk Ns p l e R s m args below meth c H locs Q ls al st G cf hj hC hS ho k
  obtain ⟨hx, hb, -, hown, hts, -, hK, -⟩ := hC
  unfold o_ia at ho
  split at ho
  · rename_i i a st'
    split at ho
    · rename_i len fl hsk
      split at ho
      · rename_i hin
        cases ho
        have he := am_wo_at (ad := ad) (cA := cA) (G := G) hsk
        have k := k H locs ls hS
        refine va_iald hx hb hK hS.1 a 0 he rfl (am_in_iff.mp hin) hdg ?_
        have e9 : am_rp ad (vI (G a (am_i i).toInt)) = .int (am_i (G a ((am_i i).toNatClampNeg : Int))) := by rw [am_clamp hin]; rfl
        rw [List.map_cons, e9] at k
        exact k
      · cases ho
    · cases ho
  · cases ho
theorem so_ba (hdg : decode cc pc = .ok (.baload, 1)) : am_ok Ts cc nL own pc (o_ba (pc + 1)) := by
  intro ad cA D sk Ns p l e R s m args below meth c H locs Q ls al st G cf hj hC hS ho k
  obtain ⟨hx, hb, -, hown, hts, -, hK, -⟩ := hC
  unfold o_ba at ho
  split at ho
  · rename_i i a st'
    split at ho
    · rename_i len fl hsk
      split at ho
      · rename_i hin
        cases ho
        have he := am_wo_at (ad := ad) (cA := cA) (G := G) hsk
        have k := k H locs ls hS
        refine va_zald hx hb hK hS.1 a 1 he rfl (am_in_iff.mp hin) hdg ?_
        have e9 : am_rp ad (vI (G a (am_i i).toInt)) = .int (am_i (G a ((am_i i).toNatClampNeg : Int))) := by rw [am_clamp hin]; rfl
        rw [List.map_cons, e9] at k
        exact k
      · cases ho
    · cases ho
  · cases ho
theorem so_la (hdg : decode cc pc = .ok (.laload, 1)) : am_ok Ts cc nL own pc (o_la (pc + 1)) := by
  intro ad cA D sk Ns p l e R s m args below meth c H locs Q ls al st G cf hj hC hS ho k
  obtain ⟨hx, hb, -, hown, hts, -, hK, hZ⟩ := hC
  unfold o_la at ho
  split at ho
  · rename_i i a st'
    split at ho
    · rename_i len fl hsk
      split at ho
      · rename_i hin
        cases ho
        have he := am_wo_at (ad := ad) (cA := cA) (G := G) hsk
        have k := k H locs ls hS
        refine va_lald hx hb hK hS.1 a 2 he rfl (am_in_iff.mp hin) hdg ?_
        have e9 : am_rp ad (vL (G a (am_i i).toInt)) = .long (am_l (G a ((am_i i).toNatClampNeg : Int))) := by rw [am_clamp hin]; rfl
        rw [List.map_cons, e9] at k
        exact k
      · cases ho
    · split at ho
      · rename_i ha
        subst ha
        split at ho
        · rename_i hin
          cases ho
          have k := k H locs ls hS
          refine va_tl hx hb hZ.2 hS.2.1 (am_in_iff.mp hin) rfl hdg ?_
          exact k
        · cases ho
      · cases ho
    · cases ho
  · cases ho
theorem am_aald {ad : Nat → Nat} {cA : Nat → ClassId} {D : va_G} {p : Program} {l : Launch} {e : Env} {R : Room} {s : State} {m : MethodId} {args : Array Value} {below : List Frame} {meth : Method} {c : Code} {H : Heap} {locs : List Loc} {Q : State → Prop} {ls : Array Slot} {rest : List Value} {ws : va_W} {a len t0 r : Nat} {cls : ClassId} {ty : FieldType} {fl : List Nat} {i : Int} (hx : p.tables.exec = Jvm.exec) (hb : c.code = cc) (hK : va_K D classes (am_tys cA) s) (hP : va_P D classes ws H) (he : ws[a]? = some (ad a, .inl (cls, len, .inr (.inr (.inr (.inr (fun j => (fl[j]?).map ad))))))) (ht : (am_tys cA)[t0]? = some (cls, ty)) (hty : ty.isReference = true) (hin : am_in i len = true) (hfl : fl[(am_i i).toInt.toNat]? = some r) (hdg : decode cc pc = .ok (.aaload, 1))
    (k : W p l e R s m args below meth c H locs 0 0 Q (F0 m (pc + 1) ls (.ref (ad r) :: rest))) : W p l e R s m args below meth c H locs 0 0 Q (F0 m pc ls (.int (am_i i) :: .ref (ad a) :: rest)) := by
  refine W.aald hx hb (hP a _ he) ((hK.2 t0 _ ht).1 len (fun j => va_rf ((fl[j]?).map ad))) hty (fun q => by cases q) (by show ¬ (_ ∨ (arrV _ _ _).slots.size ≤ _); rw [arrV_size]; exact am_in_iff.mp hin) (v := .ref (ad r)) ?_ rfl rfl hdg k
  show (arrV _ _ _).slots[_]? = _
  have h1 := (vp_in_iff.mp (am_in_iff.mp hin))
  have hlt : (am_i i).toInt.toNat < len := by omega
  refine (arrV_read cls (fun j => va_rf ((fl[j]?).map ad)) hlt).trans ?_
  rw [hfl]
  rfl
theorem so_aa (hdg : decode cc pc = .ok (.aaload, 1)) : am_ok Ts cc nL own pc (o_aa (pc + 1)) := by
  intro ad cA D sk Ns p l e R s m args below meth c H locs Q ls al st G cf hj hC hS ho k
  obtain ⟨hx, hb, -, hown, hts, -, hK, -⟩ := hC
  unfold o_aa at ho
  split at ho
  · rename_i i a st'
    split at ho
    · rename_i len fl hsk
      split at ho
      · rename_i hin
        split at ho
        · rename_i r hfl
          cases ho
          exact am_aald (t0 := 3) hx hb hK hS.1 (am_wo_at hsk) rfl rfl hin hfl hdg (k H locs ls hS)
        · cases ho
      · cases ho
    · rename_i len fl hsk
      split at ho
      · rename_i hin
        split at ho
        · rename_i r hfl
          cases ho
          exact am_aald (t0 := 4) hx hb hK hS.1 (am_wo_at hsk) rfl rfl hin hfl hdg (k H locs ls hS)
        · cases ho
      · cases ho
    · cases ho
  · cases ho
theorem am_updI {G : AG} {a n : Nat} {i z : Int} (h : am_in i n = true) : (fun j : Nat => am_i (am_up G a (am_i i).toInt z a j)) = upd (fun j : Nat => am_i (G a j)) (am_i i).toNatClampNeg (am_i z) := by
  funext j
  have h1 := am_clamp h
  unfold upd am_up
  by_cases e : j = (am_i i).toNatClampNeg
  · rw [if_pos e, if_pos rfl, if_pos (by rw [e, h1])]
  · rw [if_neg e, if_pos rfl, if_neg (fun q => e (by omega))]
theorem am_updL {G : AG} {a n : Nat} {i z : Int} (h : am_in i n = true) : (fun j : Nat => am_l (am_up G a (am_i i).toInt z a j)) = vp_updL (fun j : Nat => am_l (G a j)) (am_i i).toNatClampNeg (am_l z) := by
  funext j
  have h1 := am_clamp h
  unfold vp_updL am_up
  by_cases e : j = (am_i i).toNatClampNeg
  · rw [if_pos e, if_pos rfl, if_pos (by rw [e, h1])]
  · rw [if_neg e, if_pos rfl, if_neg (fun q => e (by omega))]
theorem so_iw (hdg : decode cc pc = .ok (.iastore, 1)) : am_ok Ts cc nL own pc (o_iw (pc + 1)) := by
  intro ad cA D sk Ns p l e R s m args below meth c H locs Q ls al st G cf hj hC hS ho k
  obtain ⟨hx, hb, -, hown, hts, -, hK, -⟩ := hC
  unfold o_iw at ho
  split at ho
  · rename_i z i a st'
    split at ho
    · rename_i len fl hsk
      split at ho
      · rename_i hin
        cases ho
        have he := am_wo_at (ad := ad) (cA := cA) (G := G) hsk
        refine va_iast hx hb hK hS.1 (am_D hj G) hS.2.1 a 0 he rfl (am_in_iff.mp hin) hdg (fun H1 locs1 hP1 _ hS1 => ?_)
        refine k H1 locs1 ls ⟨?_, hS1, hS.2.2⟩
        rw [am_wo_set (G' := am_up G a (am_i i).toInt z) hsk (by rw [← am_updI hin]; rfl) (fun b hb => am_up_ne G a _ z b hb)] at hP1
        exact hP1
      · cases ho
    · cases ho
  · cases ho
theorem so_bw (hdg : decode cc pc = .ok (.bastore, 1)) : am_ok Ts cc nL own pc (o_bw (pc + 1)) := by
  intro ad cA D sk Ns p l e R s m args below meth c H locs Q ls al st G cf hj hC hS ho k
  obtain ⟨hx, hb, -, hown, hts, -, hK, -⟩ := hC
  unfold o_bw at ho
  split at ho
  · rename_i z i a st'
    split at ho
    · rename_i len fl hsk
      split at ho
      · rename_i hin
        split at ho
        · rename_i hz
          cases ho
          have he := am_wo_at (ad := ad) (cA := cA) (G := G) hsk
          have e8 : vp_nar .boolean (am_i z) = am_i z := by rcases hz with rfl | rfl <;> rfl
          refine va_zast hx hb hK hS.1 (am_D hj G) hS.2.1 a 1 he rfl (am_in_iff.mp hin) hdg (fun H1 locs1 hP1 _ hS1 => ?_)
          refine k H1 locs1 ls ⟨?_, hS1, hS.2.2⟩
          try rw [e8] at hP1
          rw [am_wo_set (G' := am_up G a (am_i i).toInt z) hsk (by rw [← am_updI hin]; rfl) (fun b hb => am_up_ne G a _ z b hb)] at hP1
          exact hP1
        · cases ho
      · cases ho
    · cases ho
  · cases ho
theorem so_lw (hdg : decode cc pc = .ok (.lastore, 1)) : am_ok Ts cc nL own pc (o_lw (pc + 1)) := by
  intro ad cA D sk Ns p l e R s m args below meth c H locs Q ls al st G cf hj hC hS ho k
  obtain ⟨hx, hb, -, hown, hts, -, hK, -⟩ := hC
  unfold o_lw at ho
  split at ho
  · rename_i z i a st'
    split at ho
    · rename_i len fl hsk
      split at ho
      · rename_i hin
        cases ho
        have he := am_wo_at (ad := ad) (cA := cA) (G := G) hsk
        refine va_last hx hb hK hS.1 (am_D hj G) hS.2.1 a 2 he rfl (am_in_iff.mp hin) hdg (fun H1 locs1 hP1 _ hS1 => ?_)
        refine k H1 locs1 ls ⟨?_, hS1, hS.2.2⟩
        rw [am_wo_set (G' := am_up G a (am_i i).toInt z) hsk (by rw [← am_updL hin]; rfl) (fun b hb => am_up_ne G a _ z b hb)] at hP1
        exact hP1
      · cases ho
    · cases ho
  · cases ho
theorem so_len (hdg : decode cc pc = .ok (.arraylength, 1)) : am_ok Ts cc nL own pc (o_len (pc + 1)) := by
  intro ad cA D sk Ns p l e R s m args below meth c H locs Q ls al st G cf hj hC hS ho k
  obtain ⟨hx, hb, -, hown, hts, -, hK, -⟩ := hC
  unfold o_len at ho
  split at ho
  · rename_i a st'
    split at ho
    · rename_i len fl hsk
      cases ho
      exact va_alen hx hb hK hS.1 a 0 (am_wo_at hsk) rfl (by show Int32.ofNat len = am_i len; rfl) hdg (k H locs ls hS)
    · rename_i len fl hsk
      cases ho
      exact va_alen hx hb hK hS.1 a 2 (am_wo_at hsk) rfl (by show Int32.ofNat len = am_i len; rfl) hdg (k H locs ls hS)
    · cases ho
  · cases ho
end AmOps3
