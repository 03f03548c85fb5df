/-! the law's world, and a call out of the law -/
def LWf (ad : Nat → Nat) (cA : Nat → ClassId) (D : va_G) (qo : Nat) (s : State) : Prop := am_inj ad SKG ∧ (∀ k, k < SKG.length → s.heap.size ≤ ad k) ∧ (∀ k, k < SKG.length → ad k ≠ qo) ∧ s.heap.size ≤ qo ∧ va_K D classes (am_tys cA) s ∧ (∀ q ∈ lw_Ns, va_Nw (.methodLinkNest q.1 q.2.1 q.2.2.1 q.2.2.2) s) ∧ am_Z ad (fun q => s.heap.size ≤ q) s s.heap
def LWw (ad : Nat → Nat) (cA : Nat → ClassId) (D : va_G) (qo : Nat) (s : State) (G : AG) (H : Heap) (locs : List Loc) : Prop := va_P D classes (am_wo ad cA SKG G) H ∧ (∃ f : Nat → Int64, va_P D classes [(qo, .inl (cA 2, 1, .inr (.inl f)))] H) ∧ va_S (fun q => s.heap.size ≤ q) s.heap H locs
theorem lw_hTs {p : Program} {s : State} {m : MethodId} {meth : Method} {c : Code} {b L : Nat} {xs : Nat → Int32} (C0 : lw_At p s m meth c b L xs) : ∀ w ∈ lw_Ts, w.before #[Value.ref b] s = true := fun w hw => C0.2.2.2.2.2.1 w (List.mem_filter.mp hw).1
theorem lw_free {ad : Nat → Nat} {cA : Nat → ClassId} {D : va_G} {qo : Nat} {s : State} (hF : LWf ad cA D qo s) : ∀ q, am_A ad SKG q → s.heap.size ≤ q := by
  rintro q ⟨k, h1, h2⟩
  rw [← h2]
  exact hF.2.1 k h1
theorem lw_Pre {ad : Nat → Nat} {cA : Nat → ClassId} {D : va_G} {qo : Nat} {s : State} (hF : LWf ad cA D qo s) {G : AG} {H : Heap} {locs : List Loc} (hw : LWw ad cA D qo s G H locs) (as : List AV) : ∀ U : State, U.heap = H → s.WarmedH U.vm → am_P ad cA D SKG lw_Ns as G ((as.map (am_rp ad)).toArray) U := by
  intro U hU hW
  obtain ⟨f1, f2, f3, f4, f5, f6, f7⟩ := id hF
  have hz := am_Zk f7 hw.2.2 hU hW
  exact ⟨rfl, by rw [hU]; exact hw.1, va_K.moved hW.alike f5, fun q hq => va_Nw.warmM hW (f6 q hq), hz.1.narrow (lw_free hF), hz.2.narrow (lw_free hF)⟩
/-- a virtual call out of the law: the class's or the reference's method, by a run of the small machine -/
theorem lw_run {p : Program} {l : Launch} {e : Env} {s : State} {m : MethodId} {below : List Frame} {meth : Method} {c : Code} {b L : Nat} {xs : Nat → Int32} (C0 : lw_At p s m meth c b L xs) {ad : Nat → Nat} {cA : Nat → ClassId} {D : va_G} {qo : Nat} (hF : LWf ad cA D qo s) {G G' : AG} {H : Heap} {locs : List Loc} (hw : LWw ad cA D qo s G H locs) {cells slots : Nat} (hcs : cells ≤ 601024 ∧ slots ≤ 7293034) {ls : Array Slot} (hls : ls.size = 7) {pc j na a : Nat} {as : List AV} {r : Option AV} {rest : List Value} (hrest : (rest.map fun v => v.category).sum ≤ 8)
    (hok : am_okc gm_mi gm_mt lw_Ts lw_Ns code R_law pc j na) (hna : na = as.length + 1) (hmj : (gm_mi j).2.2.1 = (gm_mt j).2.1) (hret : Ret 30 j (am_ent (gm_mt j).2.1 (vR a :: as)) G r G') (hsl : (am_slots (vR a :: as)).length ≤ (gm_mt j).2.1) {ci : Nat} {fl : List Nat} (hq : (gm_mt j).2.2.2 = ci + 1) (hsk : SKG[a]? = some (0, ci, fl)) :
    va_Run p l e room_1 s m #[Value.ref b] below meth c H locs cells slots 0 0 (F0 m pc ls ((as.map (am_rp ad)).reverse ++ .ref (ad a) :: rest)) rest (am_Q ad cA D SKG r G' (((vR a :: as).map (am_rp ad)).toArray)) (am_A ad SKG) := by
  obtain ⟨hx, hb, hr, hml, hown, hts, hX, hbl, hlocks, hgv⟩ := id C0
  have hTs := lw_hTs C0
  obtain ⟨n, r1, G1, hrun, e1, e2⟩ := hret
  subst e1
  subst e2
  rw [← hmj] at hrun hsl
  obtain ⟨ix, ⟨hy1, hy2, hy3⟩, hcode, hini, hml2, hcase⟩ := hok
  have hM := am_met_of (am_sound (ad := ad) (cA := cA) (D := D) gm_ok lw_Ts_good hF.1 n) l hrun hsl hy3
  have hGood : GoodIn lw_Ts (Cond.code (gm_mi j).1 (gm_mi j).2.1 (gm_mi j).2.2.1 (gm_mi j).2.2.2 :: lw_Ts) := by
    intro w hw
    rcases List.mem_cons.mp hw with rfl | hw
    · exact ⟨hcode, good_of_word (lw_Ts_good _ hcode)⟩
    · exact ⟨hw, good_of_word (lw_Ts_good _ hw)⟩
  have hRm : (am_room 30).frames + 1 ≤ room_1.frames ∧ 8 + ((gm_mi j).2.2.1 + 11) + (am_room 30).locals ≤ room_1.locals := ⟨Nat.le_of_ble_eq_true rfl, by show 8 + ((gm_mi j).2.2.1 + 11) + 1800 ≤ 84000; omega⟩
  rcases hcase with ⟨h0, -⟩ | ⟨ci', nb, T, N, hq', hnb, hcl, hdg, hinst, hsel, hlink, hpar⟩
  · rw [hq] at h0
    cases h0
  · have ec : ci' = ci := by omega
    subst ec
    have hlen : (as.map (am_rp ad)).length = nb := by
      rw [List.length_map]
      omega
    have hcw : CallW room_1 s #[Value.ref b] R_law (gm_mi j).1.cls ix (gm_mi j).1 (gm_mi j).2.1 (gm_mi j).2.2.1 (gm_mi j).2.2.2 (Cond.code (gm_mi j).1 (gm_mi j).2.1 (gm_mi j).2.2.1 (gm_mi j).2.2.2 :: lw_Ts) (am_room 30) 0 0 nb := ⟨callB_of nb hTs hGood rfl rfl rfl (hTs _ hini) (hTs _ hlink) ⟨hy1, hy2, hpar⟩ hRm, hTs _ hinst, hTs _ hsel⟩
    exact va_runV ⟨hx, hb, hml, hown, hTs⟩ hM hcw ⟨am_blind, va_recv hF.2.2.2.2.1 hw.1 hcl (am_wo_at hsk), lw_Pre hF hw (vR a :: as)⟩ rfl hlen hls rfl (lv_room hrest) hdg hcs
theorem lw_after {ad : Nat → Nat} {cA : Nat → ClassId} {D : va_G} {qo : Nat} {s : State} (hF : LWf ad cA D qo s) {G G' : AG} {H H1 : Heap} {locs locs1 : List Loc} (hw : LWw ad cA D qo s G H locs) (hB : va_P D classes (am_wo ad cA SKG G') H1) (hk : ∀ q : Nat, q < H.size → ¬ am_A ad SKG q → H1[q]? = H[q]?) (hS : va_S (fun q => s.heap.size ≤ q) s.heap H1 locs1) : LWw ad cA D qo s G' H1 locs1 := by
  obtain ⟨f, hf⟩ := hw.2.1
  refine ⟨hB, ⟨f, hf.kept (fun k q hq => ?_)⟩, hS⟩
  have hq' : q.1 = qo := by
    match k, hq with
    | 0, hq => cases hq; rfl
  have hcell := hf 0 _ rfl
  have hlt : qo < H.size := (Array.getElem?_eq_some_iff.mp hcell).1
  rw [hq']
  refine hk qo hlt ?_
  rintro ⟨k', h1, h2⟩
  exact hF.2.2.1 k' h1 h2
theorem lw_calli {p : Program} {l : Launch} {e : Env} {s : State} {m : MethodId} {below : List Frame} {meth : Method} {c : Code} {b L : Nat} {xs : Nat → Int32} (C0 : lw_At p s m meth c b L xs) {ad : Nat → Nat} {cA : Nat → ClassId} {D : va_G} {qo : Nat} (hF : LWf ad cA D qo s) {G G' : AG} {H : Heap} {locs : List Loc} (hw : LWw ad cA D qo s G H locs) {cells slots : Nat} (hcs : cells ≤ 601024 ∧ slots ≤ 7293034) {ls : Array Slot} (hls : ls.size = 7) {pc j na a : Nat} {as : List AV} {z : Int} {rest : List Value} (hrest : (rest.map fun v => v.category).sum ≤ 8)
    (hok : am_okc gm_mi gm_mt lw_Ts lw_Ns code R_law pc j na) (hna : na = as.length + 1) (hmj : (gm_mi j).2.2.1 = (gm_mt j).2.1) (hret : Ret 30 j (am_ent (gm_mt j).2.1 (vR a :: as)) G (some (vI z)) G') (hsl : (am_slots (vR a :: as)).length ≤ (gm_mt j).2.1) {ci : Nat} {fl : List Nat} (hq : (gm_mt j).2.2.2 = ci + 1) (hsk : SKG[a]? = some (0, ci, fl)) {Q : State → Prop}
    (kk : ∀ (H' : Heap) (locs' : List Loc), LWw ad cA D qo s G' H' locs' → W p l e room_1 s m #[Value.ref b] below meth c H' locs' cells slots Q (F0 m (pc + 3) ls (.int (am_i z) :: rest))) :
    W p l e room_1 s m #[Value.ref b] below meth c H locs cells slots Q (F0 m pc ls ((as.map (am_rp ad)).reverse ++ .ref (ad a) :: rest)) := by
  refine va_calli (a := ((vR a :: as).map (am_rp ad)).toArray) (lw_run C0 hF hw hcs hls hrest hok hna hmj hret hsl hq hsk) hw.2.2 (fun q _ h => lw_free hF q h) (fun q h => lw_free hF q h) (fun x u t H1 locs1 ht hvm hx hB hz hk hS1 => ?_)
  have hx : x = am_i z := hx
  subst hx
  exact kk H1 locs1 (lw_after hF hw (by rw [← ht]; exact hB) hk hS1)
/-- both: the class and the reference, and the answers are one -/
theorem lw_xs (x : Int32) : -2147483648 ≤ x.toInt ∧ x.toInt < 2147483648 := ⟨Int32.le_toInt x, Int32.toInt_lt x⟩
