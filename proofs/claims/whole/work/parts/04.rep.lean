/-! How the small machine's values and cells stand in the machine -/
def am_rp (ad : Nat → Nat) : AV → Value
  | .inl z => .int (am_i z)
  | .inr (.inl z) => .long (am_l z)
  | .inr (.inr (some a)) => .ref (ad a)
  | .inr (.inr none) => .null
def am_fld (ad : Nat → Nat) (g : Int → Int) (j x : Nat) : Value := match x with
  | 0 => .int (am_i (g j))
  | r + 1 => .ref (ad r)
def am_cell (ad : Nat → Nat) (cA : Nat → ClassId) (c : Nat × Nat × List Nat) (g : Int → Int) : va_E := match c with
  | (0, ci, fl) => .inr (ci, fl.mapIdx (fun j x => am_fld ad g j x))
  | (1, n, _) => .inl (cA 0, n, .inl (fun j => am_i (g j)))
  | (2, n, _) => .inl (cA 1, n, .inl (fun j => am_i (g j)))
  | (3, n, _) => .inl (cA 2, n, .inr (.inl (fun j => am_l (g j))))
  | (4, n, fl) => .inl (cA 3, n, .inr (.inr (.inr (.inr (fun j => (fl[j]?).map ad)))))
  | (_, n, fl) => .inl (cA 4, n, .inr (.inr (.inr (.inr (fun j => (fl[j]?).map ad)))))
def am_wo (ad : Nat → Nat) (cA : Nat → ClassId) (sk : SK) (G : AG) : va_W := sk.mapIdx (fun k c => (ad k, am_cell ad cA c (G k)))
def am_tys (cA : Nat → ClassId) : List (ClassId × FieldType) := [(cA 0, .int), (cA 1, .boolean), (cA 2, .long), (cA 3, .array .int), (cA 4, .array .long)]
def am_A (ad : Nat → Nat) (sk : SK) : Nat → Prop := fun q => ∃ k, k < sk.length ∧ ad k = q
def am_inj (ad : Nat → Nat) (sk : SK) : Prop := ∀ i j, i < sk.length → j < sk.length → ad i = ad j → i = j
def am_Z (ad : Nat → Nat) (A : Nat → Prop) (U : State) (H : Heap) : Prop := va_Z "SeasonOfHours$Planner" "PLACES" "[J" (.ref (ad 1000)) A U H ∧ va_T .long (ad 1000) 6 (fun j => .long (am_l (am_pl.getD j 0))) A U H
def am_LR (ad : Nat → Nat) (nL : Nat) (al : List AV) (ls : Array Slot) : Prop := ls.size = nL ∧ al.length = nL ∧ lv_wf ls ∧ ∀ (i : Nat) (v : AV), al[i]? = some v → v ≠ vU → ls[i]? = some (.val (am_rp ad v))
abbrev NS : Type := List (String × Nat × MethodName × String)
def am_Cx (ad : Nat → Nat) (cA : Nat → ClassId) (D : va_G) (sk : SK) (Ts : List Cond) (Ns : NS) (p : Program) (s : State) (m : MethodId) (args : Array Value) (c : Code) (cc : ByteArray) (nL : Nat) (own : String) : Prop :=
  p.tables.exec = Jvm.exec ∧ c.code = cc ∧ c.maxLocals = nL ∧ s.vm.findClass own = some m.cls ∧ (∀ w ∈ Ts, w.before args s = true) ∧ (∀ q ∈ Ns, va_Nw (.methodLinkNest q.1 q.2.1 q.2.2.1 q.2.2.2) s) ∧ va_K D classes (am_tys cA) s ∧ am_Z ad (am_A ad sk) s s.heap
def am_St (ad : Nat → Nat) (cA : Nat → ClassId) (D : va_G) (sk : SK) (s : State) (nL : Nat) (al : List AV) (G : AG) (H : Heap) (locs : List Loc) (ls : Array Slot) : Prop :=
  va_P D classes (am_wo ad cA sk G) H ∧ va_S (am_A ad sk) s.heap H locs ∧ am_LR ad nL al ls
def am_ok (Ts : List Cond) (cc : ByteArray) (nL : Nat) (own : String) (pc : Nat) (op : OP) : Prop :=
  ∀ (ad : Nat → Nat) (cA : Nat → ClassId) (D : va_G) (sk : SK) (Ns : NS) (p : Program) (l : Launch) (e : Env) (R : Room) (s : State) (m : MethodId) (args : Array Value) (below : List Frame) (meth : Method) (c : Code) (H : Heap) (locs : List Loc) (Q : State → Prop) (ls : Array Slot) (al st : List AV) (G : AG) (cf : CF),
    am_inj ad sk → am_Cx ad cA D sk Ts Ns p s m args c cc nL own → am_St ad cA D sk s nL al G H locs ls → op sk al st G = some cf →
    (∀ (H' : Heap) (locs' : List Loc) (ls' : Array Slot), am_St ad cA D sk s nL cf.2.1 cf.2.2.2 H' locs' ls' → W p l e R s m args below meth c H' locs' 0 0 Q (F0 m cf.1 ls' (cf.2.2.1.map (am_rp ad)))) →
    W p l e R s m args below meth c H locs 0 0 Q (F0 m pc ls (st.map (am_rp ad)))
/-! numbers -/
theorem am_i_add (a b : Int) : am_i (a + b) = am_i a + am_i b := Int32.ofInt_add ..
theorem am_i_sub (a b : Int) : am_i (a - b) = am_i a - am_i b := Int32.ofInt_sub ..
theorem am_i_mul (a b : Int) : am_i (a * b) = am_i a * am_i b := Int32.ofInt_mul ..
theorem am_i_neg (a : Int) : am_i (-a) = -am_i a := Int32.ofInt_neg ..
theorem am_l_add (a b : Int) : am_l (a + b) = am_l a + am_l b := Int64.ofInt_add ..
theorem am_l_sub (a b : Int) : am_l (a - b) = am_l a - am_l b := Int64.ofInt_sub ..
theorem am_l_mul (a b : Int) : am_l (a * b) = am_l a * am_l b := Int64.ofInt_mul ..
theorem am_l_neg (a : Int) : am_l (-a) = -am_l a := Int64.ofInt_neg ..
theorem am_i_t (x : Int32) : am_i x.toInt = x := Int32.ofInt_toInt x
theorem am_l_t (x : Int64) : am_l x.toInt = x := Int64.ofInt_toInt x
/-! cells -/
theorem am_wo_at {ad : Nat → Nat} {cA : Nat → ClassId} {sk : SK} {G : AG} {a : Nat} {c : Nat × Nat × List Nat} (h : sk[a]? = some c) : (am_wo ad cA sk G)[a]? = some (ad a, am_cell ad cA c (G a)) := by
  simp [am_wo, List.getElem?_mapIdx, h]
theorem am_wo_get {ad : Nat → Nat} {cA : Nat → ClassId} {sk : SK} {G : AG} {a : Nat} {q : Nat × va_E} (h : (am_wo ad cA sk G)[a]? = some q) : a < sk.length ∧ q.1 = ad a := by
  simp only [am_wo, List.getElem?_mapIdx, Option.map_eq_some_iff] at h
  obtain ⟨c, h1, h2⟩ := h
  exact ⟨(List.getElem?_eq_some_iff.mp h1).1, by rw [← h2]⟩
theorem am_D {ad : Nat → Nat} {cA : Nat → ClassId} {sk : SK} (h : am_inj ad sk) (G : AG) : va_D (am_A ad sk) (am_wo ad cA sk G) := by
  refine ⟨fun i j p q hp hq e => ?_, fun k q hq => ?_⟩
  · obtain ⟨h1, h2⟩ := am_wo_get hp
    obtain ⟨h3, h4⟩ := am_wo_get hq
    exact h i j h1 h3 (by rw [← h2, ← h4]; exact e)
  · obtain ⟨h1, h2⟩ := am_wo_get hq
    exact ⟨k, h1, h2.symm⟩
theorem am_wo_set {ad : Nat → Nat} {cA : Nat → ClassId} {sk : SK} {G : AG} {a : Nat} {c : Nat × Nat × List Nat} {E : va_E} {G' : AG} (h : sk[a]? = some c) (he : am_cell ad cA c (G' a) = E) (ho : ∀ b, b ≠ a → G' b = G b) : (am_wo ad cA sk G).set a (ad a, E) = am_wo ad cA sk G' := by
  refine List.ext_getElem? fun k => ?_
  by_cases hk : k = a
  · subst hk
    rw [am_wo_at (G := G') h, he, List.getElem?_set_self]
    simp only [am_wo, List.length_mapIdx]
    exact (List.getElem?_eq_some_iff.mp h).1
  · rw [List.getElem?_set_ne (fun q => hk q.symm)]
    simp only [am_wo, List.getElem?_mapIdx, ho k hk]
theorem am_up_ne (G : AG) (a : Nat) (i z : Int) (b : Nat) (h : b ≠ a) : am_up G a i z b = G b := by
  funext j
  simp [am_up, h]
theorem am_in_iff {z : Int} {n : Nat} : am_in z n = true ↔ vp_in (am_i z) n := by
  rw [vp_in_iff, am_in, Bool.and_eq_true, decide_eq_true_iff, decide_eq_true_iff]
theorem am_clamp {z : Int} {n : Nat} (h : am_in z n = true) : ((am_i z).toNatClampNeg : Int) = (am_i z).toInt := by
  have h1 := (vp_in_iff.mp (am_in_iff.mp h)).1
  show (((am_i z).toInt.toNat : Nat) : Int) = _
  exact Int.toNat_of_nonneg h1
/-! locals -/
def am_toL (ad : Nat → Nat) (al : List AV) : List (Nat × Value) := (al.zipIdx).filterMap (fun q => match q.1 with
  | .inr (.inr none) => none
  | v => some (q.2, am_rp ad v))
theorem am_toL_mem {ad : Nat → Nat} {al : List AV} {q : Nat × Value} : q ∈ am_toL ad al ↔ ∃ (i : Nat) (v : AV), al[i]? = some v ∧ v ≠ vU ∧ q = (i, am_rp ad v) := by
  unfold am_toL
  rw [List.mem_filterMap]
  constructor
  · rintro ⟨⟨v, i⟩, h1, h2⟩
    have h3 := List.mem_zipIdx_iff_getElem?.mp h1
    refine ⟨i, v, h3, ?_⟩
    rcases v with z | z | _ | a
    · simp at h2; exact ⟨by simp, h2.symm⟩
    · simp at h2; exact ⟨by simp, h2.symm⟩
    · simp at h2
    · simp at h2; exact ⟨by simp, h2.symm⟩
  · rintro ⟨i, v, h1, h2, rfl⟩
    refine ⟨(v, i), List.mem_zipIdx_iff_getElem?.mpr h1, ?_⟩
    rcases v with z | z | _ | a
    · rfl
    · rfl
    · exact absurd rfl h2
    · rfl
theorem am_LR.has {ad : Nat → Nat} {nL : Nat} {al : List AV} {ls : Array Slot} (h : am_LR ad nL al ls) : lv_has ls nL (am_toL ad al) := by
  refine ⟨h.1, h.2.2.1, fun q hq => ?_⟩
  obtain ⟨i, v, h1, h2, rfl⟩ := am_toL_mem.mp hq
  exact h.2.2.2 i v h1 h2
theorem am_rp_cat {ad : Nat → Nat} {v : AV} (h : am_nl v = true) : (am_rp ad v).category = 1 := by
  rcases v with z | z | _ | a
  · rfl
  · simp [am_nl] at h
  · rfl
  · rfl
theorem am_okst_lt {al : List AV} {i : Nat} (h : am_okst al i = true) : i < al.length := by
  unfold am_okst at h
  rw [Bool.and_eq_true] at h
  exact of_decide_eq_true h.1
theorem am_okst_nl {al : List AV} {j : Nat} {v : AV} (h : am_okst al (j + 1) = true) (hv : al[j]? = some v) : am_nl v = true := by
  unfold am_okst at h
  rw [Bool.and_eq_true] at h
  have h2 := h.2
  simp only [hv] at h2
  exact h2
theorem am_LR.st1 {ad : Nat → Nat} {nL : Nat} {al : List AV} {ls ls' : Array Slot} {i : Nat} {v : AV} (h : am_LR ad nL al ls) (hi : am_okst al i = true)
    (h' : lv_has ls' nL ((i, am_rp ad v) :: (am_toL ad al).filter (fun q => !(q.1 == i) && !(q.1 + 1 == i && q.2.category == 2)))) : am_LR ad nL (al.set i v) ls' := by
  refine ⟨h'.1, by rw [List.length_set]; exact h.2.1, h'.2.1, fun j w hw hu => ?_⟩
  by_cases e : j = i
  · subst e
    rw [List.getElem?_set_self (am_okst_lt hi)] at hw
    cases hw
    exact h'.2.2 _ List.mem_cons_self
  · rw [List.getElem?_set_ne (fun q => e q.symm)] at hw
    refine h'.2.2 (j, am_rp ad w) (List.mem_cons_of_mem _ (List.mem_filter.mpr ⟨am_toL_mem.mpr ⟨j, w, hw, hu, rfl⟩, ?_⟩))
    have h2 : (j + 1 == i && (am_rp ad w).category == 2) = false := by
      by_cases e2 : j + 1 = i
      · subst e2
        rw [am_rp_cat (am_okst_nl hi hw)]
        simp
      · simp [e2]
    simp [e, h2]
theorem am_LR.st2 {ad : Nat → Nat} {nL : Nat} {al : List AV} {ls ls' : Array Slot} {i : Nat} {v : AV} (h : am_LR ad nL al ls) (hi : am_okst al i = true)
    (h' : lv_has ls' nL ((i, am_rp ad v) :: (am_toL ad al).filter (fun q => !(q.1 == i) && (!(q.1 == i + 1) && !(q.1 + 1 == i && q.2.category == 2))))) : am_LR ad nL ((al.set i v).set (i + 1) vU) ls' := by
  refine ⟨h'.1, by rw [List.length_set, List.length_set]; exact h.2.1, h'.2.1, fun j w hw hu => ?_⟩
  by_cases e1 : j = i + 1
  · subst e1
    by_cases hl : i + 1 < (al.set i v).length
    · rw [List.getElem?_set_self hl] at hw
      cases hw
      exact absurd rfl hu
    · rw [List.getElem?_eq_none (by rw [List.length_set]; omega)] at hw
      cases hw
  · rw [List.getElem?_set_ne (fun q => e1 q.symm)] at hw
    by_cases e : j = i
    · subst e
      rw [List.getElem?_set_self (am_okst_lt hi)] at hw
      cases hw
      exact h'.2.2 _ List.mem_cons_self
    · rw [List.getElem?_set_ne (fun q => e q.symm)] at hw
      refine h'.2.2 (j, am_rp ad w) (List.mem_cons_of_mem _ (List.mem_filter.mpr ⟨am_toL_mem.mpr ⟨j, w, hw, hu, rfl⟩, ?_⟩))
      have h2 : (j + 1 == i && (am_rp ad w).category == 2) = false := by
        by_cases e2 : j + 1 = i
        · subst e2
          rw [am_rp_cat (am_okst_nl hi hw)]
          simp
        · simp [e2]
      simp [e, e1, h2]
/-- at an int no wide value stands ahead -/
theorem am_LR.okst {ad : Nat → Nat} {nL : Nat} {al : List AV} {ls : Array Slot} {i : Nat} {z : Int} (h : am_LR ad nL al ls) (hz : al[i]? = some (vI z)) : am_okst al i = true := by
  have hl : i < al.length := (List.getElem?_eq_some_iff.mp hz).1
  have h1 := h.2.2.2 i _ hz (by simp)
  unfold am_okst
  rw [Bool.and_eq_true]
  refine ⟨decide_eq_true hl, ?_⟩
  cases i with
  | zero => rfl
  | succ j =>
    cases hj : al[j]? with
    | none => simp only [hj]
    | some v =>
      simp only [hj]
      rcases v with a | a | _ | a
      · rfl
      · have h2 := h.2.2.2 j _ hj (by simp)
        have h3 := h.2.2.1.1 j _ h2 rfl
        rw [h3] at h1
        cases h1
      · rfl
      · rfl
