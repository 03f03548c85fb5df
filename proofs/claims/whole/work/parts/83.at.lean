/-! at of the class -/
theorem am_runG {p : Program} {l : Launch} {e : Env} {R : Room} {s : State} {m : MethodId} {args : Array Value} {below : List Frame} {meth : Method} {c : Code} {H : Heap} {locs : List Loc} {cells slots : Nat} {cc : ByteArray} {nL : Nat} {own : String} (hx : p.tables.exec = Jvm.exec) (hb : c.code = cc) (hml : c.maxLocals = nL) (hown : s.vm.findClass own = some m.cls) (hTs : ∀ w ∈ lw_Ts, w.before args s = true) (hN : ∀ q ∈ lw_Ns, va_Nw (.methodLinkNest q.1 q.2.1 q.2.2.1 q.2.2.2) s) {ad : Nat → Nat} {cA : Nat → ClassId} {D : va_G} {sk : SK} {G G' : AG} (hj : am_inj ad sk) (hK : va_K D classes (am_tys cA) s) (hZ : am_Z ad (am_A ad sk) s s.heap) (hP : va_P D classes (am_wo ad cA sk G) H) (hS : va_S (am_A ad sk) s.heap H locs)
    {n d j na pc : Nat} {ls : Array Slot} {st : List AV} {r : Option AV} (hcs : cells ≤ R.cells ∧ slots ≤ R.slots) (hls : ls.size = nL) (hok : am_okc gm_mi gm_mt lw_Ts lw_Ns cc own pc j na) (hc : na ≤ st.length ∧ am_cats (st.drop na) ≤ 8 ∧ am_recv sk (gm_mt j).2.2.2 (st.take na).reverse = true ∧ (am_slots (st.take na).reverse).length ≤ (gm_mt j).2.1) (hmj : (gm_mi j).2.2.1 = (gm_mt j).2.1) (hrun : am_run gm_mt sk n d j 0 (am_ent (gm_mt j).2.1 (st.take na).reverse) [] G = some (r, G')) (hR : d + 1 ≤ R.frames ∧ 8 + ((gm_mi j).2.2.1 + 11) + 60 * d ≤ R.locals) :
    va_Run p l e R s m args below meth c H locs cells slots 0 0 (F0 m pc ls (st.map (am_rp ad))) ((st.drop na).map (am_rp ad)) (am_Q ad cA D sk r G' (((st.take na).reverse.map (am_rp ad)).toArray)) (am_A ad sk) := by
  obtain ⟨hna, hcat, hrecv, hslots⟩ := hc
  obtain ⟨ix, ⟨hy1, hy2, hy3⟩, hcode, hini, hml2, hcase⟩ := hok
  rw [← hmj] at hrun hslots
  have hM := am_met_of (am_sound (ad := ad) (cA := cA) (D := D) gm_ok lw_Ts_good hj n) l hrun hslots hy3
  have hGood := good_cons hcode
  have hroom : (((st.drop na).map (am_rp ad)).map fun v => v.category).sum ≤ 8 := by rw [am_cats_eq]; exact hcat
  have hpre : ∀ U : State, U.heap = H → s.WarmedH U.vm → am_P ad cA D sk lw_Ns (st.take na).reverse G (((st.take na).reverse).map (am_rp ad)).toArray U := fun U hU hW => ⟨rfl, by rw [hU]; exact hP, va_K.moved hW.alike hK, fun q hq => va_Nw.warmM hW (hN q hq), am_Zk hZ hS hU hW⟩
  rcases hcase with ⟨-, hdg, hstat, hpar, hlink⟩ | ⟨ci, nb, T, N, hq, hnb, hcl, hdg, hinst, hsel, hlink, hpar⟩
  · have hstack : st.map (am_rp ad) = (((st.take na).reverse).map (am_rp ad)).reverse ++ (st.drop na).map (am_rp ad) := by
      rw [List.map_reverse, List.reverse_reverse, ← List.map_append, List.take_append_drop]
    have hlen : (((st.take na).reverse).map (am_rp ad)).length = na := by simp; omega
    rcases hlink with hlink | ⟨host, hlink⟩
    · exact va_runS ⟨hx, hb, hml, hown, hTs⟩ hM ⟨callB_of na hTs hGood rfl rfl rfl (hTs _ hini) (hTs _ hlink) ⟨hy1, hy2, hpar⟩ hR, hTs _ hstat⟩ ⟨am_blind, hpre⟩ rfl hlen hls hstack (lv_room hroom) hdg hcs
    · exact va_runSN ⟨hx, hb, hml, hown, hTs⟩ hM ⟨va_cnB na hTs hGood rfl rfl rfl (hN _ hlink) (hTs _ hini) ⟨hy1, hy2, hpar⟩ hR, hTs _ hstat, trivial⟩ ⟨am_blind, hpre⟩ rfl hlen hls hstack (lv_room hroom) hdg hcs
  · rw [hq] at hrecv
    cases has : (st.take na).reverse with
    | nil => rw [has] at hrecv; simp [am_recv] at hrecv
    | cons v as =>
      rw [has] at hrecv hpre hM
      rcases v with z | z | _ | b
      · simp [am_recv] at hrecv
      · simp [am_recv] at hrecv
      · simp [am_recv] at hrecv
      · simp only [am_recv] at hrecv
        split at hrecv
        · rename_i c0 fl hsk
          have hc0 := of_decide_eq_true hrecv
          subst hc0
          have hlen : (as.map (am_rp ad)).length = nb := by
            have h5 := congrArg List.length has
            simp at h5
            simp
            omega
          have hstack : st.map (am_rp ad) = (as.map (am_rp ad)).reverse ++ .ref (ad b) :: (st.drop na).map (am_rp ad) := by
            have h5 : st.take na = (as.reverse ++ [vR b] : List AV) := by
              have h6 := congrArg List.reverse has
              rw [List.reverse_reverse, List.reverse_cons] at h6
              exact h6
            conv => lhs; rw [← List.take_append_drop na st, h5]
            simp [am_rp]
          have hcw : CallW R s args own (gm_mi j).1.cls ix (gm_mi j).1 (gm_mi j).2.1 (gm_mi j).2.2.1 (gm_mi j).2.2.2 (Cond.code (gm_mi j).1 (gm_mi j).2.1 (gm_mi j).2.2.1 (gm_mi j).2.2.2 :: lw_Ts) (am_room d) 0 0 nb := ⟨callB_of nb hTs hGood rfl rfl rfl (hTs _ hini) (hTs _ hlink) ⟨hy1, hy2, hpar⟩ hR, hTs _ hinst, hTs _ hsel⟩
          exact va_runV ⟨hx, hb, hml, hown, hTs⟩ hM hcw ⟨am_blind, va_recv hK hP hcl (am_wo_at hsk), hpre⟩ rfl hlen hls hstack (lv_room hroom) hdg hcs
        · cases hrecv
theorem am_stepI {p : Program} {l : Launch} {e : Env} {R : Room} {s : State} {m : MethodId} {args : Array Value} {below : List Frame} {meth : Method} {c : Code} {H : Heap} {locs : List Loc} {cells slots : Nat} {Q : State → Prop} {cc : ByteArray} {nL : Nat} {own : String} (hx : p.tables.exec = Jvm.exec) (hb : c.code = cc) (hml : c.maxLocals = nL) (hown : s.vm.findClass own = some m.cls) (hTs : ∀ w ∈ lw_Ts, w.before args s = true) (hN : ∀ q ∈ lw_Ns, va_Nw (.methodLinkNest q.1 q.2.1 q.2.2.1 q.2.2.2) s) {ad : Nat → Nat} {cA : Nat → ClassId} {D : va_G} {G G' : AG} (hj : am_inj ad SKG) (hK : va_K D classes (am_tys cA) s) (hZ : am_Z ad (am_A ad SKG) s s.heap) (hP : va_P D classes (am_wo ad cA SKG G) H) (hS : va_S (am_A ad SKG) s.heap H locs)
    {d j na pc : Nat} {ls : Array Slot} {st : List AV} {z : Int} (hcs : cells ≤ R.cells ∧ slots ≤ R.slots) (hls : ls.size = nL) (hok : am_okc gm_mi gm_mt lw_Ts lw_Ns cc own pc j na) (hc : na ≤ st.length ∧ am_cats (st.drop na) ≤ 8 ∧ am_recv SKG (gm_mt j).2.2.2 (st.take na).reverse = true ∧ (am_slots (st.take na).reverse).length ≤ (gm_mt j).2.1) (hmj : (gm_mi j).2.2.1 = (gm_mt j).2.1) (hret : Ret d j (am_ent (gm_mt j).2.1 (st.take na).reverse) G (some (vI z)) G') (hR : d + 1 ≤ R.frames ∧ 8 + ((gm_mi j).2.2.1 + 11) + 60 * d ≤ R.locals)
    (kk : ∀ (H' : Heap) (locs' : List Loc), va_P D classes (am_wo ad cA SKG G') H' → va_S (am_A ad SKG) s.heap H' locs' → W p l e R s m args below meth c H' locs' cells slots Q (F0 m (pc + 3) ls (.int (am_i z) :: (st.drop na).map (am_rp ad)))) :
    W p l e R s m args below meth c H locs cells slots Q (F0 m pc ls (st.map (am_rp ad))) := by
  obtain ⟨n, r1, G1, hrun, e1, e2⟩ := hret
  subst e1
  subst e2
  refine va_calli (a := (((st.take na).reverse.map (am_rp ad)).toArray)) (am_runG hx hb hml hown hTs hN hj hK hZ hP hS hcs hls hok hc hmj hrun hR) hS (fun q _ h => h) (fun q h => h) (fun x u t H1 locs1 ht hvm hx hB hz hk hS1 => ?_)
  have hx : x = am_i z := hx
  subst hx
  exact kk H1 locs1 (by rw [← ht]; exact hB) hS1
def THf (A : Nat → Prop) (U : State) : Prop := (∃ sa : Nat, vk_R RX6 130 "no such slot" sa U) ∧ (∃ sa : Nat, vk_R RX6 135 "a slot has an artist (0) and a mode (1)" sa U) ∧ (∀ w ∈ nseD, va_Nw w U) ∧ vx_Zq Bundle.tN "UNASSIGNED_STACK" Bundle.steD A U U.heap ∧ vx_Zq Bundle.tN "SUPPRESSED_SENTINEL" Bundle.listD A U U.heap
theorem nseD_on : ∀ w ∈ nseD, w.onTables = true := by decide +kernel
theorem THf.call {A : Nat → Prop} {U : State} {g : JFrame} {mk : MethodId} {a : Array Value} (h : THf A U) : THf A (U.calling g mk a) := by
  obtain ⟨⟨s1, h1⟩, ⟨s2, h2⟩, h3, h4, h5⟩ := h
  exact ⟨⟨s1, vk_R.same (u := U) (U := U.calling g mk a) rfl h1⟩, ⟨s2, vk_R.same (u := U) (U := U.calling g mk a) rfl h2⟩, fun w hw => va_Nw.same (nseD_on w hw) (u := U) (U := U.calling g mk a) rfl (h3 w hw), vx_Zq.moved (u := U) (U := U.calling g mk a) (Vm.Alike.refl U.vm) h4, vx_Zq.moved (u := U) (U := U.calling g mk a) (Vm.Alike.refl U.vm) h5⟩
theorem THf.go {A A' : Nat → Prop} {s U : State} {H : Heap} {locs : List Loc} (h : THf A s) (hS : va_S A s.heap H locs) (hU : U.heap = H) (hW : s.WarmedH U.vm) (hA : ∀ q, A' q → A q) : THf A' U := by
  obtain ⟨⟨s1, h1⟩, ⟨s2, h2⟩, h3, h4, h5⟩ := h
  refine ⟨⟨s1, h1.warm hW⟩, ⟨s2, h2.warm hW⟩, fun w hw => ?_, ?_, ?_⟩
  · have := h3 w hw
    simp only [nseD, List.mem_cons, List.not_mem_nil, or_false] at hw
    rcases hw with rfl | rfl | rfl | rfl
    · exact va_Nw.warmC hW this
    · exact va_Nw.warmD hW this
    · exact va_Nw.warmD hW this
    · exact va_Nw.warmD hW this
  · rw [hU]
    exact (vx_Zq.moved hW.alike (h4.kept hS.2.1)).narrow hA
  · rw [hU]
    exact (vx_Zq.moved hW.alike (h5.kept hS.2.1)).narrow hA
def okA (G : AG) (x y : Int) : Prop := (0 ≤ x ∧ x < G 13 6) ∧ (y = 0 ∨ y = 1)
def vlA (G : AG) (x y : Int) : Int := if y = 0 then artX G x else modX G x
def NSE : String := "java/util/NoSuchElementException"
def AtP (ad : Nat → Nat) (cA : Nat → ClassId) (D : va_G) (G : AG) (x y : Int) : Array Value → State → Prop := fun a U => am_P ad cA D SKG lw_Ns [vR 53, vI x, vI y] G a U ∧ THf (am_A ad SKG) U
theorem wo53 {ad : Nat → Nat} {cA : Nat → ClassId} {G : AG} : (am_wo ad cA SKG G)[53]? = some (ad 53, .inr (6, [.ref (ad 0), .ref (ad 3), .ref (ad 13), .ref (ad 16), .ref (ad 33), .ref (ad 41)])) := am_wo_at (c := (0, 6, [1, 4, 14, 17, 34, 42])) rfl
set_option maxHeartbeats 4000000 in
set_option maxRecDepth 100000 in
theorem c_atX (l : Launch) (hlt : l.stackTraces = false) {ad : Nat → Nat} {cA : Nat → ClassId} {D : va_G} (hj : am_inj ad SKG) {G : AG} (hRel : Rel G) {x y : Int} (hxr : -2147483648 ≤ x ∧ x < 2147483648) (hyr : -2147483648 ≤ y ∧ y < 2147483648) :
    vx_Met l yX6_at (Cond.code yX6_at cX6_at 3 (some .int) :: lw_Ts) ({ frames := 40, cells := 1, slots := 6, locals := 3000 }) (AtP ad cA D G x y)
      (va_Qi (fun r (_ : Unit) => okA G x y ∧ r = am_i (vlA G x y)) (fun _ t => va_P D classes (am_wo ad cA SKG G) t.heap) (am_A ad SKG))
      (vx_X (fun _ : Unit => ¬ okA G x y) (fun E _ t => E = NSE ∧ va_P D classes (am_wo ad cA SKG G) t.heap) (am_A ad SKG)) 1 6 (am_A ad SKG) := by
  obtain ⟨hm0, hm1, hm2, hm3, hm4, hm5, hm6⟩ := id hRel.1
  obtain ⟨ha0, ha1, ha2, ha3, ha4, ha5, ha6⟩ := id hRel.2.1
  have hsl := hRel.2.2.1.slots
  have hO := hRel.2.2.1.ho ha1 hm1
  refine vx_ofW (cc := cX6_at) (maxL := 3) (ret := some .int) (by decide) rfl ?_
  intro p e s m args below meth c s₁ B hml hnt hv
  obtain ⟨⟨rfl, hP, hK, hN, hZ⟩, hTH⟩ := hv
  have hx := B.exec
  have hb := B.bytes
  have hr := B.returns
  have hts := atoms_spec (ws := Cond.code yX6_at cX6_at 3 (some .int) :: lw_Ts) B.pre
  have hTs : ∀ w ∈ lw_Ts, w.before (([vR 53, vI x, vI y] : List AV).map (am_rp ad)).toArray s = true := fun w hw => hts w (List.mem_cons_of_mem _ hw)
  have hown : s.vm.findClass RX6 = some m.cls := findClass_of_methodNamed B.named
  have hlocks := B.notSynchronized
  have hS : va_S (am_A ad SKG) s.heap s.heap [] := va_S.rf
  have hl := lv_entry (([vR 53, vI x, vI y] : List AV).map (am_rp ad)) (n := 3) (Nat.le_of_ble_eq_true rfl)
  rw [lg_entry_eq]
  generalize (lg_sl (([vR 53, vI x, vI y] : List AV).map (am_rp ad)) ++ List.replicate (3 - (lg_sl (([vR 53, vI x, vI y] : List AV).map (am_rp ad))).length) Slot.unset).toArray = ls at hl ⊢
  have hl : lv_has ls 3 [(0, .ref (ad 53)), (1, .int (am_i x)), (2, .int (am_i y))] := hl
  have hat : ∀ w ∈ nseL, w.before (([vR 53, vI x, vI y] : List AV).map (am_rp ad)).toArray s = true := vx_hat (fun w hw => hTs w (nse_good w hw)) nse_bad (fun w hw => va_Nw.use (nseD_on w hw) (hTH.2.2.1 w hw))
  have hXC : ∀ (H : Heap) (locs : List Loc), va_P D classes (am_wo ad cA SKG G) H → va_S (am_A ad SKG) s.heap H locs → ¬ okA G x y → ∀ t : State, s.vm.Alike t.vm → H.size ≤ t.heap.size → (∀ q : Nat, q < H.size → t.heap[q]? = H[q]?) → vx_X (fun _ : Unit => ¬ okA G x y) (fun E _ t => E = NSE ∧ va_P D classes (am_wo ad cA SKG G) t.heap) (am_A ad SKG) NSE s t := by
    intro H locs hP hS hno t _ h1 h2
    exact ⟨(), hno, ⟨rfl, hP.kept (fun k q hq => h2 q.1 ((hP k q hq).lt))⟩, Nat.le_trans hS.1 h1, fun q g1 g2 => (h2 q (Nat.lt_of_lt_of_le g1 hS.1)).trans (hS.2.1 q g1 g2)⟩
  refine lv_aload_n hx hb da_0 rfl (lv_at hl 0 rfl) ?_
  refine va_get (D := D) (ci := 6) (v := .ref (ad 13)) (C := RX6) (T := TX6) (N := 6) hx hb hTs cl_X6.2 hown hK hP 53 wo53 rfl 2 (by decide) (hTs _ we_290) (fun _ h9 => h9) rfl da_1 ?_
  refine lv_iload_n hx hb da_4 rfl (lv_at hl 1 rfl) ?_
  refine am_stepI (st := [vI x, vR 13]) (d := 5) hx hb hml hown hTs hN hj hK hZ hP hS ⟨Nat.le_of_ble_eq_true rfl, Nat.le_of_ble_eq_true rfl⟩ hl.1 ta_5 ⟨Nat.le_of_ble_eq_true rfl, Nat.le_of_ble_eq_true rfl, rfl, Nat.le_of_ble_eq_true rfl⟩ rfl (c_hasS (d := 4) hxr.1 hxr.2 (by omega) (by omega)) ⟨Nat.le_of_ble_eq_true rfl, Nat.le_of_ble_eq_true rfl⟩ (fun H locs hP hS => ?_)
  by_cases a1 : 0 ≤ x ∧ x < G 13 6
  · rw [if_pos a1]
    refine lv_if_ne (tgt := 21) hx hb da_8 (by decide) (fun _ => ?_) (fun h => absurd h (by decide))
    refine lv_iload_n hx hb da_21 rfl (lv_at hl 2 rfl) ?_
    refine lv_iconst (v := am_i 0) hx hb da_22 (by decide) ?_
    refine lv_iconst (v := am_i 1) hx hb da_23 (by decide) ?_
    refine am_stepI (st := [vI 1, vI 0, vI y]) (d := 5) hx hb hml hown hTs hN hj hK hZ hP hS ⟨Nat.le_of_ble_eq_true rfl, Nat.le_of_ble_eq_true rfl⟩ hl.1 ta_24 ⟨Nat.le_of_ble_eq_true rfl, Nat.le_of_ble_eq_true rfl, rfl, Nat.le_of_ble_eq_true rfl⟩ rfl (c_isWithin (d := 5) hyr.1 hyr.2 (by omega) (by omega) (by omega) (by omega)) ⟨Nat.le_of_ble_eq_true rfl, Nat.le_of_ble_eq_true rfl⟩ (fun H locs hP hS => ?_)
    by_cases a2 : 0 ≤ y ∧ y ≤ 1
    · rw [if_pos a2]
      have hb14 := hO x a1.1 (by omega)
      refine lv_if_ne (tgt := 40) hx hb da_27 (by decide) (fun _ => ?_) (fun h => absurd h (by decide))
      refine lv_iload_n hx hb da_40 rfl (lv_at hl 2 rfl) ?_
      by_cases a3 : y = 0
      · have hv : vlA G x y = artX G x := by unfold vlA; rw [if_pos a3]
        refine lv_if_ne (tgt := 55) hx hb da_41 (by decide) (fun h => absurd (by rw [a3]; rfl) h) (fun _ => ?_)
        refine lv_aload_n hx hb da_44 rfl (lv_at hl 0 rfl) ?_
        refine va_get (D := D) (ci := 6) (v := .ref (ad 13)) (C := RX6) (T := TX6) (N := 6) hx hb hTs cl_X6.2 hown hK hP 53 wo53 rfl 2 (by decide) (hTs _ we_290) (fun _ h9 => h9) rfl da_45 ?_
        refine lv_iload_n hx hb da_48 rfl (lv_at hl 1 rfl) ?_
        refine am_stepI (st := [vI x, vR 13]) (d := 5) hx hb hml hown hTs hN hj hK hZ hP hS ⟨Nat.le_of_ble_eq_true rfl, Nat.le_of_ble_eq_true rfl⟩ hl.1 ta_49 ⟨Nat.le_of_ble_eq_true rfl, Nat.le_of_ble_eq_true rfl, rfl, Nat.le_of_ble_eq_true rfl⟩ rfl (c_artistAt (d := 4) a1.1 (by omega) hb14.1 hb14.2) ⟨Nat.le_of_ble_eq_true rfl, Nat.le_of_ble_eq_true rfl⟩ (fun H locs hP hS => ?_)
        refine lv_goto (tgt := 63) hx hb da_52 (by decide) ?_
        refine vx_ret ?_
        refine W.widen (k := 1) (n := 6) (Nat.le_of_ble_eq_true rfl) (Nat.le_of_ble_eq_true rfl) ?_
        exact W.iret (v := am_i (artX G x)) hx hb hr (fun t ht hW => ⟨⟨_, (), rfl, ⟨⟨a1, by omega⟩, by rw [hv]⟩, by show va_P D classes (am_wo ad cA SKG G) t.heap; rw [ht]; exact hP⟩, hS.F ht⟩) hS.2.2 da_63 hlocks
      · have hv : vlA G x y = modX G x := by unfold vlA; rw [if_neg a3]
        have hy1 : y = 1 := by omega
        refine lv_if_ne (tgt := 55) hx hb da_41 (by decide) (fun _ => ?_) (fun h => absurd h (by rw [hy1]; decide))
        refine lv_aload_n hx hb da_55 rfl (lv_at hl 0 rfl) ?_
        refine va_get (D := D) (ci := 6) (v := .ref (ad 13)) (C := RX6) (T := TX6) (N := 6) hx hb hTs cl_X6.2 hown hK hP 53 wo53 rfl 2 (by decide) (hTs _ we_290) (fun _ h9 => h9) rfl da_56 ?_
        refine lv_iload_n hx hb da_59 rfl (lv_at hl 1 rfl) ?_
        refine am_stepI (st := [vI x, vR 13]) (d := 5) hx hb hml hown hTs hN hj hK hZ hP hS ⟨Nat.le_of_ble_eq_true rfl, Nat.le_of_ble_eq_true rfl⟩ hl.1 ta_60 ⟨Nat.le_of_ble_eq_true rfl, Nat.le_of_ble_eq_true rfl, rfl, Nat.le_of_ble_eq_true rfl⟩ rfl (c_modeAt (d := 4) a1.1 (by omega) hb14.1 hb14.2) ⟨Nat.le_of_ble_eq_true rfl, Nat.le_of_ble_eq_true rfl⟩ (fun H locs hP hS => ?_)
        refine vx_ret ?_
        refine W.widen (k := 1) (n := 6) (Nat.le_of_ble_eq_true rfl) (Nat.le_of_ble_eq_true rfl) ?_
        exact W.iret (v := am_i (modX G x)) hx hb hr (fun t ht hW => ⟨⟨_, (), rfl, ⟨⟨a1, by omega⟩, by rw [hv]⟩, by show va_P D classes (am_wo ad cA SKG G) t.heap; rw [ht]; exact hP⟩, hS.F ht⟩) hS.2.2 da_63 hlocks
    · rw [if_neg a2]
      refine lv_if_ne (tgt := 40) hx hb da_27 (by decide) (fun h => absurd rfl h) (fun _ => ?_)
      obtain ⟨sa, hsa⟩ := hTH.2.1
      exact tx_throw (own := RX6) (cls := "java/util/NoSuchElementException") (ik := 128) (is := 135) (ic := 132) (ix := 13) (rx := nseB) (names := ["java/lang/RuntimeException", "java/lang/Exception"]) hx hb hlt dn_0 dn_1 dn_2 dn_5 hown (by decide) (by decide) (hTs _ we_c1) (hTs _ we_c3) hsa hat nse_ot nse_in1 nse_in2 hTH.2.2.2.1 hTH.2.2.2.2 hS (by rw [hml]; exact hl.1) da_30 da_33 da_34 da_36 da_39 (fun z hz => (hnt z hz).elim) (Nat.le_of_ble_eq_true rfl) (Nat.le_of_ble_eq_true rfl) (Nat.le_of_ble_eq_true rfl) (Nat.le_of_ble_eq_true rfl) hlocks (hXC _ _ hP hS (fun h => a2 (by have := h.2; omega))) hS.2.2 (Nat.le_of_ble_eq_true rfl) (Nat.le_of_ble_eq_true rfl)
  · rw [if_neg a1]
    refine lv_if_ne (tgt := 21) hx hb da_8 (by decide) (fun h => absurd rfl h) (fun _ => ?_)
    obtain ⟨sa, hsa⟩ := hTH.1
    exact tx_throw (own := RX6) (cls := "java/util/NoSuchElementException") (ik := 128) (is := 130) (ic := 132) (ix := 13) (rx := nseB) (names := ["java/lang/RuntimeException", "java/lang/Exception"]) hx hb hlt dn_0 dn_1 dn_2 dn_5 hown (by decide) (by decide) (hTs _ we_c1) (hTs _ we_c3) hsa hat nse_ot nse_in1 nse_in2 hTH.2.2.2.1 hTH.2.2.2.2 hS (by rw [hml]; exact hl.1) da_11 da_14 da_15 da_17 da_20 (fun z hz => (hnt z hz).elim) (Nat.le_of_ble_eq_true rfl) (Nat.le_of_ble_eq_true rfl) (Nat.le_of_ble_eq_true rfl) (Nat.le_of_ble_eq_true rfl) hlocks (hXC _ _ hP hS (fun h => a1 h.1)) hS.2.2 (Nat.le_of_ble_eq_true rfl) (Nat.le_of_ble_eq_true rfl)
