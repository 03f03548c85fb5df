/-! the law's case of at, walked -/
theorem lw_calliF {p : Program} {l : Launch} {e : Env} {s : State} {m : MethodId} {below : List Frame} {meth : Method} {c : Code} {b L : Nat} {xs : Nat → Int32} (C0 : lw_At p s m meth c b L xs) {ad : Nat → Nat} {cA : Nat → ClassId} {D : va_G} {qo : Nat} (hF : LWf ad cA D qo s) {G G' : AG} {H : Heap} {locs : List Loc} (hw : LWw ad cA D qo s G H locs) {f : Nat → Int64} (hf : va_P D classes [(qo, .inl (cA 2, 1, .inr (.inl f)))] H) {cells slots : Nat} (hcs : cells ≤ 601024 ∧ slots ≤ 7293034) {ls : Array Slot} (hls : ls.size = 7) {pc j na a : Nat} {as : List AV} {z : Int} {rest : List Value} (hrest : (rest.map fun v => v.category).sum ≤ 8)
    (hok : am_okc gm_mi gm_mt lw_Ts lw_Ns code R_law pc j na) (hna : na = as.length + 1) (hmj : (gm_mi j).2.2.1 = (gm_mt j).2.1) (hret : Ret 30 j (am_ent (gm_mt j).2.1 (vR a :: as)) G (some (vI z)) G') (hsl : (am_slots (vR a :: as)).length ≤ (gm_mt j).2.1) {ci : Nat} {fl : List Nat} (hq : (gm_mt j).2.2.2 = ci + 1) (hsk : SKG[a]? = some (0, ci, fl)) {Q : State → Prop}
    (kk : ∀ (H' : Heap) (locs' : List Loc), LWw ad cA D qo s G' H' locs' → va_P D classes [(qo, .inl (cA 2, 1, .inr (.inl f)))] H' → W p l e room_1 s m #[Value.ref b] below meth c H' locs' cells slots Q (F0 m (pc + 3) ls (.int (am_i z) :: rest))) :
    W p l e room_1 s m #[Value.ref b] below meth c H locs cells slots Q (F0 m pc ls ((as.map (am_rp ad)).reverse ++ .ref (ad a) :: rest)) := by
  refine va_calli (a := ((vR a :: as).map (am_rp ad)).toArray) (lw_run C0 hF hw hcs hls hrest hok hna hmj hret hsl hq hsk) hw.2.2 (fun q _ h => lw_free hF q h) (fun q h => lw_free hF q h) (fun x u t H1 locs1 ht hvm hx hB hz hk hS1 => ?_)
  have hx : x = am_i z := hx
  subst hx
  have hw1 := lw_after hF hw (by rw [← ht]; exact hB) hk hS1
  refine kk H1 locs1 hw1 (hf.kept (fun k q hq => ?_))
  have hq' : q.1 = qo := by
    match k, hq with
    | 0, hq => cases hq; rfl
  rw [hq']
  refine hk qo (hf 0 _ rfl).lt ?_
  rintro ⟨k', h1, h2⟩
  exact hF.2.2.1 k' h1 h2
theorem lw_FA {ad : Nat → Nat} {cA : Nat → ClassId} {D : va_G} {qo : Nat} {s : State} (hF : LWf ad cA D qo s) : ∀ q, FA ad qo q → s.heap.size ≤ q := by
  rintro q (h | h)
  · exact lw_free hF q h
  · rw [h]
    exact hF.2.2.2.1
theorem good_L : GoodIn lw_Ts (va_wsS R_law 64 yL_at (Cond.codeWith yL_at cL_at 5 (some .int) [(0, 10, 13, 13)] :: lw_Ts)) := by
  have hm : ∀ w ∈ va_wsS R_law 64 yL_at (Cond.codeWith yL_at cL_at 5 (some .int) [(0, 10, 13, 13)] :: lw_Ts), w ∈ lw_Ts := by
    intro w hw
    unfold va_wsS at hw
    simp only [List.cons_append, List.nil_append, List.mem_cons] at hw
    rcases hw with rfl | rfl | rfl | rfl | hw
    · exact we_b2
    · exact we_b3
    · exact we_b4
    · exact we_b1
    · exact hw
  exact fun w hw => ⟨hm w hw, good_of_word (lw_Ts_good _ (hm w hw))⟩
theorem lcmp_eq {p : Program} {l : Launch} {e : Env} {R : Room} {s : State} {m : MethodId} {args : Array Value} {below : List Frame} {meth : Method} {c : Code} {H : Heap} {locs : List Loc} {cells slots : Nat} {Q : State → Prop} {cc : ByteArray} {pc : Nat} {ls : Array Slot} {rest : List Value} (hx : p.tables.exec = Jvm.exec) (hb : c.code = cc) {v : Int64} (hdg : decode cc pc = .ok (.lcmp, 1)) (k : W p l e R s m args below meth c H locs cells slots Q (F0 m (pc + 1) ls (.int 0 :: rest))) : W p l e R s m args below meth c H locs cells slots Q (F0 m pc ls (.long v :: .long v :: rest)) := by
  have h0 : lg_cmp v v = 0 := by
    unfold lg_cmp
    simp
  exact W.lcmp hx hb hdg (by rw [h0]; exact k)
set_option maxHeartbeats 4000000 in
theorem law_at {p : Program} {l : Launch} {e : Env} {s : State} {m : MethodId} {below : List Frame} {meth : Method} {c : Code} {b L : Nat} {xs : Nat → Int32} (C0 : lw_At p s m meth c b L xs) (hL : L ≤ 2560) (hlt : l.stackTraces = false) (hTH : THf (fun q => s.heap.size ≤ q) s) {ad : Nat → Nat} {cA : Nat → ClassId} {D : va_G} {qo : Nat} (hF : LWf ad cA D qo s) {G : AG} (hR : Rel G) {H : Heap} {locs : List Loc} (hw : LWw ad cA D qo s G H locs) {cells slots : Nat} (hcs : cells + 1 ≤ 601024 ∧ slots + 6 ≤ 7293034) {i : Nat} (hi : i + 5 ≤ L) {ls : Array Slot} (hl : lv_has ls 7 [(0, .ref b), (4, .int (nI i)), (1, .ref (ad 53)), (2, .ref (ad 54)), (3, .ref qo)]) {Q : State → Prop}
    (K : ∀ (G' : AG) (H' : Heap) (locs' : List Loc) (ls' : Array Slot), Rel G' → LWw ad cA D qo s G' H' locs' → lv_has ls' 7 [(0, .ref b), (4, .int (nI i)), (1, .ref (ad 53)), (2, .ref (ad 54)), (3, .ref qo)] → W p l e room_1 s m #[Value.ref b] below meth c H' locs' (cells + 1) (slots + 6) Q (F0 m 989 ls' [])) :
    W p l e room_1 s m #[Value.ref b] below meth c H locs cells slots Q (F0 m 554 ls []) := by
  obtain ⟨hx, hb, hr, hml, hown, hts, hX, hbl, hlocks, hgv⟩ := id C0
  have hTs := lw_hTs C0
  obtain ⟨f, hf⟩ := hw.2.1
  have hFA := lw_FA hF
  obtain ⟨z, GM, hret, hRM, hk1, hk2⟩ := at_M hR (lw_xs (xs (i + 1))) (lw_xs (xs (i + 2)))
  refine lv_aload_n hx hb dl_554 rfl (lv_at hl 2 rfl) ?_
  refine lw_rd (k := 1) C0 hL hw.2.2 hl (by omega) dl_555 dl_556 dl_558 dl_559 dl_560 ?_
  refine lw_rd (k := 2) C0 hL hw.2.2 hl (by omega) dl_561 dl_562 dl_564 dl_565 dl_566 ?_
  refine lv_aload_n hx hb dl_567 rfl (lv_at hl 4 rfl) ?_
  refine va_calli (a := ([.ref (ad 53), .int (am_i (xs (i + 1)).toInt), .int (am_i (xs (i + 2)).toInt), .ref qo] : List Value).toArray) (vx_runSW (As := [.ref (ad 53), .int (am_i (xs (i + 1)).toInt), .int (am_i (xs (i + 2)).toInt), .ref qo]) (rest := []) ⟨hx, hb, hml, hown, hTs⟩ (c_atL l hlt hF.1 hF.2.2.1 hR (lw_xs _) (lw_xs _) f) (vx_cwSW (own := R_law) (index := 64) 4 hTs good_L rfl rfl rfl ⟨by decide, by decide, by decide +kernel⟩ ⟨Nat.le_of_ble_eq_true rfl, Nat.le_of_ble_eq_true rfl⟩) ⟨LtP.blind, fun U hU hW => ⟨rfl, by rw [hU]; exact hw.1, by rw [hU]; exact hf, va_K.moved hW.alike hF.2.2.2.2.1, fun q hq => va_Nw.warmM hW (hF.2.2.2.2.2.1 q hq), ⟨(am_Zk hF.2.2.2.2.2.2 hw.2.2 hU hW).1.narrow hFA, (am_Zk hF.2.2.2.2.2.2 hw.2.2 hU hW).2.narrow hFA⟩, hTH.go hw.2.2 hU hW hFA⟩⟩ rfl rfl hl.1 rfl (lv_room (Nat.le_of_ble_eq_true rfl)) dl_568 hcs) hw.2.2 (fun q _ h => hFA q h) hFA (fun r u t H1 locs1 ht hvm hr1 hB hz hk hS1 => ?_)
  obtain ⟨hB1, hB2⟩ := hB
  rw [ht] at hB1 hB2
  have hw : LWw ad cA D qo s G H1 locs1 := ⟨hB1, ⟨u, hB2⟩, hS1⟩
  refine lv_istore (lv' := [(5, .int r), (0, .ref b), (4, .int (nI i)), (1, .ref (ad 53)), (2, .ref (ad 54)), (3, .ref qo)]) hx hb dl_571 hl (by decide) rfl (fun ls hl => ?_)
  have hl : lv_has ls 7 [(0, .ref b), (4, .int (nI i)), (1, .ref (ad 53)), (2, .ref (ad 54)), (3, .ref qo), (5, .int r)] := lv_sub hl [1, 2, 3, 4, 5, 0] rfl
  refine lv_aload_n hx hb dl_573 rfl (lv_at hl 3 rfl) ?_
  refine lw_rd (k := 1) C0 hL hw.2.2 hl (by omega) dl_574 dl_575 dl_577 dl_578 dl_579 ?_
  refine lw_rd (k := 2) C0 hL hw.2.2 hl (by omega) dl_580 dl_581 dl_583 dl_584 dl_585 ?_
  refine lw_calliF (as := [vI (xs (i + 1)).toInt, vI (xs (i + 2)).toInt]) (a := 54) (rest := []) C0 hF hw hB2 hcs hl.1 (Nat.le_of_ble_eq_true rfl) tl_586 rfl rfl hret (Nat.le_of_ble_eq_true rfl) rfl rfl (fun H locs hw hB2 => ?_)
  refine lv_istore (lv' := [(6, .int (am_i z)), (0, .ref b), (4, .int (nI i)), (1, .ref (ad 53)), (2, .ref (ad 54)), (3, .ref qo), (5, .int r)]) hx hb dl_589 hl (by decide) rfl (fun ls hl => ?_)
  refine lv_aload_n hx hb dl_591 rfl (lv_at hl 4 rfl) ?_
  refine lw_calliF (as := []) (a := 54) (rest := []) C0 hF hw hB2 hcs hl.1 (Nat.le_of_ble_eq_true rfl) tl_592 rfl rfl (c_thrown (d := 30)) (Nat.le_of_ble_eq_true rfl) rfl rfl (fun H locs hw hB2 => ?_)
  refine lv_iload hx hb dl_595 (lv_at hl 6 rfl) ?_
  have hl9 : lv_has ls 7 [(0, .ref b), (4, .int (nI i)), (1, .ref (ad 53)), (2, .ref (ad 54)), (3, .ref qo)] := lv_sub hl [1, 2, 3, 4, 5] rfl
  rcases hr1 with ⟨ok, hr0, hu0⟩ | ⟨nok, hr0⟩
  · obtain ⟨g1, g2⟩ := hk1 ok
    subst hr0
    rw [g1]
    refine lv_icmp_eq (tgt := 602) hx hb dl_597 (by decide) (fun _ => ?_) (fun hne => absurd rfl hne)
    refine lv_iload hx hb dl_602 (lv_at hl 6 rfl) ?_
    refine lv_if_ne (tgt := 619) hx hb dl_604 (by decide) (fun h => absurd rfl h) (fun _ => ?_)
    refine lv_aload_n hx hb dl_607 rfl (lv_at hl 5 rfl) ?_
    refine lv_iconst (v := 0) hx hb dl_608 (by decide) ?_
    refine va_lald hx hb hF.2.2.2.2.1 hB2 0 2 rfl rfl (vp_in_iff.mpr ⟨by decide, by decide⟩) dl_609 ?_
    refine lv_iload hx hb dl_610 (lv_at hl 0 rfl) ?_
    refine lv_i2l (v := (am_i (vlA G (xs (i + 1)).toInt (xs (i + 2)).toInt)).toInt64) hx hb dl_612 (by rw [g2]) ?_
    have e0 : u (0 : Int32).toNatClampNeg = (am_i (vlA G (xs (i + 1)).toInt (xs (i + 2)).toInt)).toInt64 := hu0
    rw [e0]
    refine lcmp_eq hx hb dl_613 ?_
    refine lv_if_eq (tgt := 619) hx hb dl_614 (by decide) (fun _ => ?_) (fun hne => absurd rfl hne)
    exact lv_goto (tgt := 989) hx hb dl_619 (by decide) (K GM H locs ls hRM hw hl9)
  · have g1 := hk2 nok
    subst hr0
    rw [g1]
    refine lv_icmp_eq (tgt := 602) hx hb dl_597 (by decide) (fun _ => ?_) (fun hne => absurd rfl hne)
    refine lv_iload hx hb dl_602 (lv_at hl 6 rfl) ?_
    refine lv_if_ne (tgt := 619) hx hb dl_604 (by decide) (fun _ => ?_) (fun h => absurd h (by decide))
    exact lv_goto (tgt := 989) hx hb dl_619 (by decide) (K GM H locs ls hRM hw hl9)
