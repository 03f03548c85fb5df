/-! the law's at -/
theorem P_cons {D : va_G} {ws : va_W} {q : Nat} {e0 : va_E} {H : Heap} (h : va_P D classes ws H) (h0 : va_P D classes [(q, e0)] H) : va_P D classes ((q, e0) :: ws) H := by
  intro k z hk
  cases k with
  | zero => exact h0 0 z hk
  | succ k => exact h k z hk
theorem P_tail {D : va_G} {ws : va_W} {q : Nat} {e0 : va_E} {H : Heap} (h : va_P D classes ((q, e0) :: ws) H) : va_P D classes ws H ∧ va_P D classes [(q, e0)] H := by
  refine ⟨fun k z hk => h (k + 1) z hk, fun k z hk => ?_⟩
  have h1 : k < 1 := (List.getElem?_eq_some_iff.mp hk).1
  rw [show k = 0 by omega] at hk
  exact h 0 z hk
theorem D_cons {ws : va_W} {q : Nat} {e0 : va_E} {A : Nat → Prop} (h : va_D A ws) (hq : A q) (hne : ∀ (k : Nat) (z : Nat × va_E), ws[k]? = some z → z.1 ≠ q) : va_D A ((q, e0) :: ws) := by
  refine ⟨fun i j x y hx hy exy => ?_, fun k z hk => ?_⟩
  · cases i with
    | zero =>
      cases j with
      | zero => rfl
      | succ j =>
        cases hx
        exact absurd exy.symm (hne j y hy)
    | succ i =>
      cases j with
      | zero =>
        cases hy
        exact absurd exy (hne i x hx)
      | succ j => rw [h.1 i j x y hx hy exy]
  · cases k with
    | zero => cases hk; exact hq
    | succ k => exact h.2 k z hk
def FA (ad : Nat → Nat) (qo : Nat) : Nat → Prop := fun q => am_A ad SKG q ∨ q = qo
def LtP (ad : Nat → Nat) (cA : Nat → ClassId) (D : va_G) (qo : Nat) (f : Nat → Int64) (G : AG) (x y : Int) : Array Value → State → Prop := va_Pc [.ref (ad 53), .int (am_i x), .int (am_i y), .ref qo] (fun U => va_P D classes (am_wo ad cA SKG G) U.heap ∧ va_P D classes [(qo, .inl (cA 2, 1, .inr (.inl f)))] U.heap ∧ va_K D classes (am_tys cA) U ∧ (∀ q ∈ lw_Ns, va_Nw (.methodLinkNest q.1 q.2.1 q.2.2.1 q.2.2.2) U) ∧ am_Z ad (FA ad qo) U U.heap ∧ THf (FA ad qo) U)
theorem LtP.blind {ad : Nat → Nat} {cA : Nat → ClassId} {D : va_G} {qo : Nat} {f : Nat → Int64} {G : AG} {x y : Int} : FrameBlind (LtP ad cA D qo f G x y) := by
  intro a U g mk q
  obtain ⟨q0, q1, q2, q3, q4, q5, q6⟩ := q
  exact ⟨q0, q1, q2, va_K.moved (u := U) (U := U.calling g mk a) (Vm.Alike.refl U.vm) q3, fun w hw => va_Nw.same rfl (u := U) (U := U.calling g mk a) rfl (q4 w hw), ⟨va_Z.moved (u := U) (U := U.calling g mk a) (Vm.Alike.refl U.vm) q5.1, va_T.moved (u := U) (U := U.calling g mk a) (Vm.Alike.refl U.vm) q5.2⟩, q6.call⟩
theorem AtP.blind {ad : Nat → Nat} {cA : Nat → ClassId} {D : va_G} {G : AG} {x y : Int} : FrameBlind (AtP ad cA D G x y) := by
  intro a U g mk q
  exact ⟨am_blind a U g mk q.1, q.2.call⟩
set_option maxHeartbeats 4000000 in
set_option maxRecDepth 100000 in
theorem c_atL (l : Launch) (hlt : l.stackTraces = false) {ad : Nat → Nat} {cA : Nat → ClassId} {D : va_G} {qo : Nat} (hj : am_inj ad SKG) (hqo : ∀ k, k < SKG.length → ad k ≠ qo) {G : AG} (hRel : Rel G) {x y : Int} (hxr : -2147483648 ≤ x ∧ x < 2147483648) (hyr : -2147483648 ≤ y ∧ y < 2147483648) (f : Nat → Int64) :
    Met l yL_at (Cond.codeWith yL_at cL_at 5 (some .int) [(0, 10, 13, 13)] :: lw_Ts) ({ frames := 42, cells := 1, slots := 6, locals := 3200 }) (LtP ad cA D qo f G x y)
      (va_Qi (fun r (u : Nat → Int64) => (okA G x y ∧ r = 0 ∧ u 0 = (am_i (vlA G x y)).toInt64) ∨ (¬ okA G x y ∧ r = 1)) (fun u t => va_P D classes (am_wo ad cA SKG G) t.heap ∧ va_P D classes [(qo, .inl (cA 2, 1, .inr (.inl u)))] t.heap) (FA ad qo)) 1 6 (FA ad qo) := by
  refine va_MetW (cc := cL_at) (maxL := 5) (ret := some .int) (hh := [(0, 10, 13, 13)]) (by decide) rfl ?_
  intro p e s m args below meth c s₁ B hml hv
  obtain ⟨rfl, hP, hPo, hK, hN, hZ, hTH⟩ := hv
  have hx := B.exec
  have hb := B.bytes
  have hr := B.returns
  have hts := atoms_spec (ws := Cond.codeWith yL_at cL_at 5 (some .int) [(0, 10, 13, 13)] :: lw_Ts) B.pre
  have hTs : ∀ w ∈ lw_Ts, w.before ([.ref (ad 53), .int (am_i x), .int (am_i y), .ref qo] : List Value).toArray s = true := fun w hw => hts w (List.mem_cons_of_mem _ hw)
  have hown : s.vm.findClass RL = some m.cls := findClass_of_methodNamed B.named
  have hlocks := B.notSynchronized
  have htab : c.exceptionTable.toList = [] ++ ({ startPc := 0, endPc := 10, handlerPc := 13, catchType := 13 } : ExceptionTableEntry) :: [] := vx_table (x := yL_at) B (hts _ List.mem_cons_self)
  have hS : va_S (FA ad qo) s.heap s.heap [] := va_S.rf
  have hAA : ∀ q, am_A ad SKG q → FA ad qo q := fun q h => Or.inl h
  have hl := lv_entry ([.ref (ad 53), .int (am_i x), .int (am_i y), .ref qo]) (n := 5) (Nat.le_of_ble_eq_true rfl)
  rw [lg_entry_eq]
  generalize (lg_sl ([.ref (ad 53), .int (am_i x), .int (am_i y), .ref qo]) ++ List.replicate (5 - (lg_sl ([.ref (ad 53), .int (am_i x), .int (am_i y), .ref qo])).length) Slot.unset).toArray = ls at hl ⊢
  have hl : lv_has ls 5 [(0, .ref (ad 53)), (1, .int (am_i x)), (2, .int (am_i y)), (3, .ref qo)] := hl
  have hqs : qo < s.heap.size := (hPo 0 _ rfl).lt
  have hqn : ¬ am_A ad SKG qo := by
    rintro ⟨k, h1, h2⟩
    exact hqo k h1 h2
  refine lv_aload_n hx hb db_0 rfl (lv_at hl 3 rfl) ?_
  refine lv_iconst (v := 0) hx hb db_1 (by decide) ?_
  refine lv_aload_n hx hb db_2 rfl (lv_at hl 0 rfl) ?_
  refine lv_iload_n hx hb db_3 rfl (lv_at hl 1 rfl) ?_
  refine lv_iload_n hx hb db_4 rfl (lv_at hl 2 rfl) ?_
  refine vx_calli (a := ([.ref (ad 53), .int (am_i x), .int (am_i y)] : List Value).toArray) (vx_runV (As := [.int (am_i x), .int (am_i y)]) (rest := [.int 0, .ref qo]) ⟨hx, hb, hml, hown, hTs⟩ (c_atX l hlt hj hRel hxr hyr) ⟨callB_of 2 hTs (good_cons we_a1) rfl rfl rfl (hTs _ we_a5) (hTs _ we_a4) ⟨by decide, by decide, by decide +kernel⟩ ⟨Nat.le_of_ble_eq_true rfl, Nat.le_of_ble_eq_true rfl⟩, hTs _ we_a2, hTs _ we_a3⟩ ⟨AtP.blind, va_recv (ci := 6) hK hP rfl wo53, fun U hU hW => ⟨⟨rfl, by rw [hU]; exact hP, va_K.moved hW.alike hK, fun q hq => va_Nw.warmM hW (hN q hq), ⟨(am_Zk hZ hS hU hW).1.narrow hAA, (am_Zk hZ hS hU hW).2.narrow hAA⟩⟩, hTH.go hS hU hW hAA⟩⟩ rfl rfl hl.1 rfl (lv_room (Nat.le_of_ble_eq_true rfl)) db_5 ⟨Nat.le_of_ble_eq_true rfl, Nat.le_of_ble_eq_true rfl⟩) hS (fun q _ h => hAA q h) hAA (fun q _ h => hAA q h) (fun E ce q9 u t H1 locs ht hvm hpx hBX hz hk hS => ?_) (fun r u t H1 locs ht hvm hw hB hz hk hS => ?_)
  · intro hce hcv hcl
    obtain ⟨hE, hP1⟩ := hBX
    rw [ht] at hP1
    subst hE
    have hPo1 : va_P D classes [(qo, .inl (cA 2, 1, .inr (.inl f)))] H1 := hPo.kept (fun k z hzk => by
      have h1 : k < 1 := (List.getElem?_eq_some_iff.mp hzk).1
      rw [show k = 0 by omega] at hzk
      cases hzk
      exact hk qo hqs hqn)
    refine vx_catch (own := RL) (name := "java/util/NoSuchElementException") hown [] { startPc := 0, endPc := 10, handlerPc := 13, catchType := 13 } [] htab (fun z hz => by cases hz) (by decide) (by decide) (hTs _ we_c2) (va_Nw.use rfl (hTH.2.2.1 _ List.mem_cons_self)) hce hcv hcl ?_
    refine lv_astore (lv' := [(4, .ref q9), (0, .ref (ad 53)), (1, .int (am_i x)), (2, .int (am_i y)), (3, .ref qo)]) hx hb db_13 hl (by decide) rfl (fun ls hl => ?_)
    refine lv_iconst (v := 1) hx hb db_15 (by decide) ?_
    exact W.iret (v := 1) hx hb hr (fun t ht hW => ⟨⟨_, f, rfl, Or.inr ⟨hpx, rfl⟩, by rw [ht]; exact hP1, by rw [ht]; exact hPo1⟩, hS.F ht⟩) hS.2.2 db_16 hlocks
  · obtain ⟨hok, hrr⟩ := hw
    subst hrr
    have hP1 : va_P D classes (am_wo ad cA SKG G) H1 := by rw [← ht]; exact hB
    have hPo1 : va_P D classes [(qo, .inl (cA 2, 1, .inr (.inl f)))] H1 := hPo.kept (fun k z hzk => by
      have h1 : k < 1 := (List.getElem?_eq_some_iff.mp hzk).1
      rw [show k = 0 by omega] at hzk
      cases hzk
      exact hk qo hqs hqn)
    have hDc : va_D (FA ad qo) ((qo, .inl (cA 2, 1, .inr (.inl f))) :: am_wo ad cA SKG G) := D_cons ((am_D hj G).weaken (fun _ _ _ h => hAA _ h)) (Or.inr rfl) (fun k z hzk => by
      obtain ⟨h1, h2⟩ := am_wo_get hzk
      rw [h2]
      exact hqo k h1)
    refine lv_i2l (v := (am_i (vlA G x y)).toInt64) hx hb db_8 rfl ?_
    refine va_last hx hb hK (P_cons hP1 hPo1) hDc hS 0 2 rfl rfl (vp_in_iff.mpr ⟨by decide, by decide⟩) db_9 (fun H locs hP2 hD2 hS => ?_)
    obtain ⟨hP3, hPo3⟩ := P_tail (ws := am_wo ad cA SKG G) hP2
    refine lv_goto (tgt := 17) hx hb db_10 (by decide) ?_
    refine lv_iconst (v := 0) hx hb db_17 (by decide) ?_
    exact W.iret (v := 0) hx hb hr (fun t ht hW => ⟨⟨_, vp_updL f (0 : Int32).toNatClampNeg (am_i (vlA G x y)).toInt64, rfl, Or.inl ⟨hok, rfl, rfl⟩, by rw [ht]; exact hP3, by rw [ht]; exact hPo3⟩, hS.F ht⟩) hS.2.2 db_18 hlocks
