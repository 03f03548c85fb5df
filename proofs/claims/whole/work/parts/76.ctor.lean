/-! a constructor calls a method of its own object -/
def adL (qs : List Nat) (t k : Nat) : Nat := if k = 1000 then t else qs.getD k 0
theorem am_inj_of {ad : Nat → Nat} {cA : Nat → ClassId} {sk : SK} {G : AG} {A : Nat → Prop} (hD : va_D A (am_wo ad cA sk G)) : am_inj ad sk := by
  intro i j hi hj e
  have h1 : sk[i]? = some sk[i] := List.getElem?_eq_getElem hi
  have h2 : sk[j]? = some sk[j] := List.getElem?_eq_getElem hj
  exact hD.1 i j _ _ (am_wo_at h1) (am_wo_at h2) e
theorem am_free_of {ad : Nat → Nat} {cA : Nat → ClassId} {sk : SK} {G : AG} {A : Nat → Prop} (hD : va_D A (am_wo ad cA sk G)) : ∀ q, am_A ad sk q → A q := by
  rintro q ⟨k, h1, h2⟩
  have h3 : sk[k]? = some sk[k] := List.getElem?_eq_getElem h1
  have := hD.2 k _ (am_wo_at h3)
  rw [← h2]
  exact this
theorem am_wo_D {ad : Nat → Nat} {cA : Nat → ClassId} {sk : SK} {G G' : AG} {A : Nat → Prop} (hD : va_D A (am_wo ad cA sk G)) : va_D A (am_wo ad cA sk G') := by
  refine ⟨fun i j x y hx hy exy => ?_, fun k q hq => ?_⟩
  · obtain ⟨h1, h2⟩ := am_wo_get hx
    obtain ⟨h3, h4⟩ := am_wo_get hy
    exact am_inj_of hD i j h1 h3 (by rw [← h2, ← h4]; exact exy)
  · obtain ⟨h1, h2⟩ := am_wo_get hq
    rw [h2]
    exact am_free_of hD _ ⟨k, h1, rfl⟩
theorem ctor_call {p : Program} {l : Launch} {e : Env} {R : Room} {s : State} {m : MethodId} {args : Array Value} {below : List Frame} {meth : Method} {c : Code} {H : Heap} {locs : List Loc} {cells slots : Nat} {Q : State → Prop} {cc : ByteArray} {nL : Nat} {own : String} (hx : p.tables.exec = Jvm.exec) (hb : c.code = cc) (hml : c.maxLocals = nL) (hown : s.vm.findClass own = some m.cls) (hTs : ∀ w ∈ lw_Ts, w.before args s = true) {ad : Nat → Nat} {cA : Nat → ClassId} {D : va_G} {sk : SK} {G G' : AG} {t : Nat} {A : Nat → Prop} (hE : EVf cA D t A s) (hat : ad 1000 = t) (hP : va_P D classes (am_wo ad cA sk G) H) (hD : va_D A (am_wo ad cA sk G)) (hS : va_S A s.heap H locs)
    {n d j na pc a : Nat} {ls : Array Slot} {as : List AV} {rest : List Value} (hcs : cells ≤ R.cells ∧ slots ≤ R.slots) (hls : ls.size = nL) (hrest : (rest.map fun v => v.category).sum ≤ 8) (hok : am_okc gm_mi gm_mt lw_Ts lw_Ns cc own pc j na) (hna : na = as.length + 1) (hmj : (gm_mi j).2.2.1 = (gm_mt j).2.1) (hrun : am_run gm_mt sk n d j 0 (am_ent (gm_mt j).2.1 (vR a :: as)) [] G = some (none, G')) (hsl : (am_slots (vR a :: as)).length ≤ (gm_mt j).2.1) {ci : Nat} {fl : List Nat} (hq : (gm_mt j).2.2.2 = ci + 1) (hsk : sk[a]? = some (0, ci, fl)) (hR : d + 1 ≤ R.frames ∧ 8 + ((gm_mi j).2.2.1 + 11) + 60 * d ≤ R.locals)
    (kk : ∀ (H' : Heap) (locs' : List Loc), va_P D classes (am_wo ad cA sk G') H' → va_D A (am_wo ad cA sk G') → va_S A s.heap H' locs' → W p l e R s m args below meth c H' locs' cells slots Q (F0 m (pc + 3) ls rest)) :
    W p l e R s m args below meth c H locs cells slots Q (F0 m pc ls ((as.map (am_rp ad)).reverse ++ .ref (ad a) :: rest)) := by
  rw [← hmj] at hrun hsl
  obtain ⟨ix, ⟨hy1, hy2, hy3⟩, hcode, hini, hml2, hcase⟩ := hok
  have hfr := am_free_of hD
  have hM := am_met_of (am_sound (ad := ad) (cA := cA) (D := D) gm_ok lw_Ts_good (am_inj_of hD) n) l hrun hsl hy3
  have hGood : GoodIn lw_Ts (Cond.code (gm_mi j).1 (gm_mi j).2.1 (gm_mi j).2.2.1 (gm_mi j).2.2.2 :: lw_Ts) := by
    intro w hw
    rcases List.mem_cons.mp hw with rfl | hw
    · exact ⟨hcode, good_of_word (lw_Ts_good _ hcode)⟩
    · exact ⟨hw, good_of_word (lw_Ts_good _ hw)⟩
  have hpre : ∀ U : State, U.heap = H → s.WarmedH U.vm → am_P ad cA D sk lw_Ns (vR a :: as) G (((vR a :: as).map (am_rp ad)).toArray) U := by
    intro U hU hW
    obtain ⟨g1, g2, g3, g4, g5, g6⟩ := hE.go hS hU hW hfr
    refine ⟨rfl, by rw [hU]; exact hP, g1, g2, ?_⟩
    unfold am_Z at g6 ⊢
    rw [hat]
    exact g6
  rcases hcase with ⟨h0, -⟩ | ⟨ci', nb, T, N, hq', hnb, hcl, hdg, hinst, hsel, hlink, hpar⟩
  · rw [hq] at h0
    cases h0
  · have ec : ci' = ci := by omega
    subst ec
    have hlen : (as.map (am_rp ad)).length = nb := by
      rw [List.length_map]
      omega
    have hcw : CallW R s args own (gm_mi j).1.cls ix (gm_mi j).1 (gm_mi j).2.1 (gm_mi j).2.2.1 (gm_mi j).2.2.2 (Cond.code (gm_mi j).1 (gm_mi j).2.1 (gm_mi j).2.2.1 (gm_mi j).2.2.2 :: lw_Ts) (am_room d) 0 0 nb := ⟨callB_of nb hTs hGood rfl rfl rfl (hTs _ hini) (hTs _ hlink) ⟨hy1, hy2, hpar⟩ hR, hTs _ hinst, hTs _ hsel⟩
    refine va_callv (a := ((vR a :: as).map (am_rp ad)).toArray) (va_runV ⟨hx, hb, hml, hown, hTs⟩ hM hcw ⟨am_blind, va_recv hE.1 hP hcl (am_wo_at hsk), hpre⟩ rfl hlen hls rfl (lv_room hrest) hdg hcs) hS (fun q _ h => hfr q h) hfr (fun u t' H1 locs1 ht hvm hx hB hz hk hS1 => ?_)
    exact kk H1 locs1 (by rw [← ht]; exact hB) (am_wo_D hD) hS1
