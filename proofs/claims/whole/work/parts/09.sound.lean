theorem am_ofW {l : Launch} {y : MethodName} {ws ws' : List Cond} {rm : Room} {Pc : Array Value → State → Prop} {Qc : Array Value → State → Outcome → State → Prop} {mc ms : Nat} {free : Addr → Prop} {cc : ByteArray} {maxL : Nat} {ret : Option FieldType}
    (hy : plainFor y = true) (hw : ws = Cond.code y cc maxL ret :: ws')
    (body : ∀ p e s m args below meth c s₁, BodyLoose p l y (headSpec ws rm) cc maxL ret e s m args below meth c s₁ → c.maxLocals = maxL → Pc args s →
      W p l e (headSpec ws rm).room s m args below meth c s.heap [] 0 0 (MQ below Qc args s mc ms free) (entryFrame m args maxL)) : Met l y ws rm Pc Qc mc ms free := by
  refine MetFree.of_bodySF (code := cc) (maxLocals := maxL) (ret := ret) hy ?_ ?_
  · intro args s m h hn
    obtain ⟨meth, c, h1, h2, h3, h4, h5, h6, -, -⟩ := Cond.code_spec hn (atoms_spec (ws := ws) h _ (by rw [hw]; exact List.mem_cons_self))
    exact ⟨meth, c, h1, h2, h3, h4, h5, h6⟩
  · intro p e s m args below meth c s₁ B hml hP _
    have hh0 : s₁.heap = s.heap := by rw [B.state]; rfl
    obtain ⟨t, a1, o, b1, b2, b3⟩ := body p e s m args below meth c s₁ B hml hP s₁ hh0 (Stand.of_body B)
    exact ⟨t, o, a1, b1, b2, b3⟩
theorem am_cats_eq {ad : Nat → Nat} : ∀ l : List AV, ((l.map (am_rp ad)).map fun v => v.category).sum = am_cats l
  | [] => rfl
  | .inl z :: r => by simp only [List.map_cons, List.sum_cons, am_cats, am_cats_eq r]; rfl
  | .inr (.inl z) :: r => by simp only [List.map_cons, List.sum_cons, am_cats, am_cats_eq r]; rfl
  | .inr (.inr none) :: r => by simp only [List.map_cons, List.sum_cons, am_cats, am_cats_eq r]; rfl
  | .inr (.inr (some a)) :: r => by simp only [List.map_cons, List.sum_cons, am_cats, am_cats_eq r]; rfl
/-- the statement of n steps -/
def am_SW (mi : MI) (mt : MT) (Ts : List Cond) (Ns : NS) (ad : Nat → Nat) (cA : Nat → ClassId) (D : va_G) (sk : SK) (n : Nat) : Prop :=
  ∀ (d k pc : Nat) (al st : List AV) (G : AG) (r : Option AV) (G' : AG), am_run mt sk n d k pc al st G = some (r, G') →
    ∀ (p : Program) (l : Launch) (e : Env) (R : Room) (s : State) (m : MethodId) (args : Array Value) (below : List Frame) (meth : Method) (c : Code) (H : Heap) (locs : List Loc) (ls : Array Slot),
      am_Cx ad cA D sk Ts Ns p s m args c (mi k).2.1 (mi k).2.2.1 (mi k).1.cls → am_St ad cA D sk s (mi k).2.2.1 al G H locs ls → meth.sig.returnType = (mi k).2.2.2 → meth.locks = false → d ≤ R.frames ∧ 60 * d ≤ R.locals →
      W p l e R s m args below meth c H locs 0 0 (MQ below (am_Q ad cA D sk r G') args s 0 0 (am_A ad sk)) (F0 m pc ls (st.map (am_rp ad)))
section AmSound
variable {mi : MI} {mt : MT} {Ts : List Cond} {Ns : NS} {ad : Nat → Nat} {cA : Nat → ClassId} {D : va_G} {sk : SK}
theorem am_met_of {n : Nat} (h : am_SW mi mt Ts Ns ad cA D sk n) (l : Launch) {d j : Nat} {as : List AV} {G : AG} {r : Option AV} {G' : AG} (hr : am_run mt sk n d j 0 (am_ent (mi j).2.2.1 as) [] G = some (r, G')) (hs : (am_slots as).length ≤ (mi j).2.2.1) (hy : plainFor (mi j).1 = true) :
    Met l (mi j).1 (Cond.code (mi j).1 (mi j).2.1 (mi j).2.2.1 (mi j).2.2.2 :: Ts) (am_room d) (am_P ad cA D sk Ns as G) (am_Q ad cA D sk r G') 0 0 (am_A ad sk) := by
  refine am_ofW (cc := (mi j).2.1) (maxL := (mi j).2.2.1) (ret := (mi j).2.2.2) hy rfl ?_
  intro p e s m args below meth c s₁ B hml hv
  obtain ⟨rfl, hP, hK, hN, hZ⟩ := hv
  have hts := atoms_spec (ws := Cond.code (mi j).1 (mi j).2.1 (mi j).2.2.1 (mi j).2.2.2 :: Ts) B.pre
  rw [lg_entry_eq]
  exact h d j 0 _ [] G r G' hr p l e (am_room d) s m _ below meth c s.heap [] _ ⟨B.exec, B.bytes, hml, findClass_of_methodNamed B.named, fun w hw => hts w (List.mem_cons_of_mem _ hw), hN, hK, hZ⟩ ⟨hP, va_S.rf, am_LR_ent hs⟩ B.returns B.notSynchronized ⟨Nat.le_refl _, Nat.le_refl _⟩
theorem am_Zk {s U : State} {H : Heap} {locs : List Loc} {A : Nat → Prop} (hZ : am_Z ad A s s.heap) (hS : va_S A s.heap H locs) (hU : U.heap = H) (hW : s.WarmedH U.vm) : am_Z ad A U U.heap := by
  rw [hU]
  exact ⟨va_Z.moved hW.alike (hZ.1.kept hS.2.1), va_T.moved hW.alike (hZ.2.kept hS.2.1)⟩
theorem am_call {n : Nat} (ih : am_SW mi mt Ts Ns ad cA D sk n) {d' k pc na : Nat} {al st : List AV} {r r' : Option AV} {G1 G' : AG} (h2 : am_run mt sk n (d' + 1) k (pc + 3) al (r'.toList ++ st.drop na) G1 = some (r, G'))
    {p : Program} {l : Launch} {e : Env} {R : Room} {s : State} {m : MethodId} {args : Array Value} {below : List Frame} {meth : Method} {c : Code} {H : Heap} {locs : List Loc} {ls : Array Slot} {a : Array Value} {stk : List Value}
    (hC : am_Cx ad cA D sk Ts Ns p s m args c (mi k).2.1 (mi k).2.2.1 (mi k).1.cls) {G : AG} (hS : am_St ad cA D sk s (mi k).2.2.1 al G H locs ls) (hret : meth.sig.returnType = (mi k).2.2.2) (hlk : meth.locks = false) (hR : d' + 1 ≤ R.frames ∧ 60 * (d' + 1) ≤ R.locals)
    (hrun : va_Run p l e R s m args below meth c H locs 0 0 0 0 (F0 m pc ls stk) ((st.drop na).map (am_rp ad)) (am_Q ad cA D sk r' G1 a) (am_A ad sk)) :
    W p l e R s m args below meth c H locs 0 0 (MQ below (am_Q ad cA D sk r G') args s 0 0 (am_A ad sk)) (F0 m pc ls stk) := by
  rcases r' with _ | z | z | _ | b
  · exact va_callv (a := a) hrun hS.2.1 (fun _ _ h => h) (fun _ h => h) (fun u t H1 locs1 ht hvm hw hB hz hk hS1 => ih _ _ _ _ _ _ _ _ h2 p l e R s m args below meth c H1 locs1 ls hC ⟨by rw [← ht]; exact hB, hS1, hS.2.2⟩ hret hlk hR)
  · refine va_calli (a := a) hrun hS.2.1 (fun _ _ h => h) (fun _ h => h) (fun x u t H1 locs1 ht hvm hw hB hz hk hS1 => ?_)
    have hw : x = am_i z := hw
    subst hw
    exact ih _ _ _ _ _ _ _ _ h2 p l e R s m args below meth c H1 locs1 ls hC ⟨by rw [← ht]; exact hB, hS1, hS.2.2⟩ hret hlk hR
  · refine va_calll (a := a) hrun hS.2.1 (fun _ _ h => h) (fun _ h => h) (fun x u t H1 locs1 ht hvm hw hB hz hk hS1 => ?_)
    have hw : x = am_l z := hw
    subst hw
    exact ih _ _ _ _ _ _ _ _ h2 p l e R s m args below meth c H1 locs1 ls hC ⟨by rw [← ht]; exact hB, hS1, hS.2.2⟩ hret hlk hR
  · intro T hT X
    obtain ⟨v, st₀, t, T', L, h0, X', hL, e1, e2, hf, st⟩ := hrun T hT X
    exact hf.elim
  · intro T hT X
    obtain ⟨v, st₀, t, T', L, h0, X', hL, e1, e2, hf, st⟩ := hrun T hT X
    exact hf.elim
theorem am_sound (hT : am_okT mi mt Ts Ns) (hg : ∀ w ∈ Ts, goodWord w = true) (hj : am_inj ad sk) : ∀ n, am_SW mi mt Ts Ns ad cA D sk n := by
  intro n
  induction n with
  | zero =>
    intro d k pc al st G r G' h
    simp [am_run] at h
  | succ n ih =>
    intro d k pc al st G r G' h p l e R s m args below meth c H locs ls hC hS hret hlk hR
    unfold am_run at h
    split at h
    · cases h
    · rename_i op hat
      obtain ⟨-, -, hok⟩ := hT k pc _ hat
      split at h
      · cases h
      · rename_i pc' ls' st' G1 hop
        exact hok ad cA D sk Ns p l e R s m args below meth c H locs _ ls al st G _ hj hC hS hop (fun H' locs' ls'' hS' => ih _ _ _ _ _ _ _ _ h p l e R s m args below meth c H' locs' ls'' hC hS' hret hlk hR)
    · rename_i j na hat
      obtain ⟨-, -, hok⟩ := hT k pc _ hat
      obtain ⟨ix, ⟨hy1, hy2, hy3⟩, hcode, hini, hml, hcase⟩ := hok
      split at h
      · cases h
      · rename_i d'
        split at h
        · rename_i hc
          obtain ⟨hna, hcat, hrecv, -, hslots⟩ := hc
          split at h
          · cases h
          · rename_i r' G1 h1
            obtain ⟨hx, hb, hmx, hown, hts, hN, hK, hZ⟩ := id hC
            have hmj : (mi j).2.2.1 = (mt j).2.1 := by
              cases n with
              | zero => simp [am_run] at h1
              | succ n =>
                cases ha : am_at (mt j).1 0 with
                | none => simp [am_run, ha] at h1
                | some i => exact (hT j 0 i ha).1
            rw [← hmj] at h1 hslots
            have hM := am_met_of ih l h1 hslots hy3
            have hGood : GoodIn Ts (Cond.code (mi j).1 (mi j).2.1 (mi j).2.2.1 (mi j).2.2.2 :: Ts) := by
              intro w hw
              rcases List.mem_cons.mp hw with rfl | hw
              · exact ⟨hcode, good_of_word (hg _ hcode)⟩
              · exact ⟨hw, good_of_word (hg _ hw)⟩
            have hRm : (am_room d').frames + 1 ≤ R.frames ∧ 8 + ((mi j).2.2.1 + 11) + (am_room d').locals ≤ R.locals := ⟨hR.1, by show 8 + ((mi j).2.2.1 + 11) + 60 * d' ≤ R.locals; omega⟩
            have hroom : (((st.drop na).map (am_rp ad)).map fun v => v.category).sum ≤ 8 := by rw [am_cats_eq]; exact hcat
            have hpre : ∀ U : State, U.heap = H → s.WarmedH U.vm → am_P ad cA D sk Ns (st.take na).reverse G (((st.take na).reverse).map (am_rp ad)).toArray U := fun U hU hW => ⟨rfl, by rw [hU]; exact hS.1, va_K.moved hW.alike hK, fun q hq => va_Nw.warmM hW (hN q hq), am_Zk hZ hS.2.1 hU hW⟩
            refine am_call (na := na) ih h hC hS hret hlk hR (a := (((st.take na).reverse).map (am_rp ad)).toArray) ?_
            rcases hcase with ⟨-, hdg, hstat, hpar, hlink⟩ | ⟨ci, nb, T, N, hq, hnb, hcl, hdg, hinst, hsel, hlink, hpar⟩
            · have hstack : st.map (am_rp ad) = (((st.take na).reverse).map (am_rp ad)).reverse ++ (st.drop na).map (am_rp ad) := by
                rw [List.map_reverse, List.reverse_reverse, ← List.map_append, List.take_append_drop]
              have hlen : (((st.take na).reverse).map (am_rp ad)).length = na := by simp; omega
              rcases hlink with hlink | ⟨host, hlink⟩
              · exact va_runS ⟨hx, hb, hmx, hown, hts⟩ hM ⟨callB_of na hts hGood rfl rfl rfl (hts _ hini) (hts _ hlink) ⟨hy1, hy2, hpar⟩ hRm, hts _ hstat⟩ ⟨am_blind, hpre⟩ rfl hlen hS.2.2.1 hstack (lv_room hroom) hdg ⟨Nat.zero_le _, Nat.zero_le _⟩
              · exact va_runSN ⟨hx, hb, hmx, hown, hts⟩ hM ⟨va_cnB na hts hGood rfl rfl rfl (hN _ hlink) (hts _ hini) ⟨hy1, hy2, hpar⟩ hRm, hts _ hstat, trivial⟩ ⟨am_blind, hpre⟩ rfl hlen hS.2.2.1 hstack (lv_room hroom) hdg ⟨Nat.zero_le _, Nat.zero_le _⟩
            · rw [hq] at hrecv
              cases has : (st.take na).reverse with
              | nil => rw [has] at hrecv; simp [am_recv] at hrecv
              | cons v as =>
                rw [has] at hrecv hpre hM
                rcases v with z | z | _ | b
                · simp [am_recv] at hrecv
                · simp [am_recv] at hrecv
                · simp [am_recv] at hrecv
                · simp only [am_recv] at hrecv
                  split at hrecv
                  · rename_i c0 fl hsk
                    have hc0 := of_decide_eq_true hrecv
                    subst hc0
                    have hlen : (as.map (am_rp ad)).length = nb := by
                      have h5 := congrArg List.length has
                      simp at h5
                      simp
                      omega
                    have hstack : st.map (am_rp ad) = (as.map (am_rp ad)).reverse ++ .ref (ad b) :: (st.drop na).map (am_rp ad) := by
                      have h5 : st.take na = (as.reverse ++ [vR b] : List AV) := by
                        have h6 := congrArg List.reverse has
                        rw [List.reverse_reverse, List.reverse_cons] at h6
                        exact h6
                      conv => lhs; rw [← List.take_append_drop na st, h5]
                      simp [am_rp]
                    have hcw : CallW R s args (mi k).1.cls (mi j).1.cls ix (mi j).1 (mi j).2.1 (mi j).2.2.1 (mi j).2.2.2 (Cond.code (mi j).1 (mi j).2.1 (mi j).2.2.1 (mi j).2.2.2 :: Ts) (am_room d') 0 0 nb := ⟨callB_of nb hts hGood rfl rfl rfl (hts _ hini) (hts _ hlink) ⟨hy1, hy2, hpar⟩ hRm, hts _ hinst, hts _ hsel⟩
                    exact va_runV ⟨hx, hb, hmx, hown, hts⟩ hM hcw ⟨am_blind, va_recv hK hS.1 hcl (am_wo_at hsk), hpre⟩ rfl hlen hS.2.2.1 hstack (lv_room hroom) hdg ⟨Nat.zero_le _, Nat.zero_le _⟩
                  · cases hrecv
        · cases h
    · rename_i hat
      obtain ⟨-, hrt, hok⟩ := hT k pc _ hat
      obtain ⟨hx, hb, -⟩ := id hC
      split at h
      · cases h
      · rename_i r0 hr0
        cases h
        rw [hrt] at hret
        have hok : am_okr (mi k).2.1 pc (mt k).2.2.1 := hok
        generalize (mt k).2.2.1 = q at hr0 hok hret
        unfold am_ret at hr0
        split at hr0
        · cases hr0
          exact W.vret hx hb hret (fun t ht hW => ⟨⟨(), rfl, trivial, by show va_P D classes (am_wo ad cA sk G) t.heap; rw [ht]; exact hS.1⟩, hS.2.1.F ht⟩) hS.2.1.2.2 hok hlk
        · rename_i z
          cases hr0
          exact W.iret (v := am_i z) hx hb hret (fun t ht hW => ⟨⟨am_i z, (), rfl, rfl, by show va_P D classes (am_wo ad cA sk G) t.heap; rw [ht]; exact hS.1⟩, hS.2.1.F ht⟩) hS.2.1.2.2 hok hlk
        · rename_i z
          split at hr0
          · rename_i hz
            cases hr0
            exact W.zret (v := am_i z) hx hb hret (by rcases hz with rfl | rfl <;> rfl) (fun t ht hW => ⟨⟨am_i z, (), rfl, rfl, by show va_P D classes (am_wo ad cA sk G) t.heap; rw [ht]; exact hS.1⟩, hS.2.1.F ht⟩) hS.2.1.2.2 hok hlk
          · cases hr0
        · rename_i z
          cases hr0
          exact W.lret (v := am_l z) hx hb hret (fun t ht hW => ⟨⟨am_l z, (), rfl, rfl, by show va_P D classes (am_wo ad cA sk G) t.heap; rw [ht]; exact hS.1⟩, hS.2.1.F ht⟩) hS.2.1.2.2 hok hlk
        · cases hr0
end AmSound
