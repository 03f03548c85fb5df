/-! the law's loop -/
set_option maxHeartbeats 4000000 in
set_option maxRecDepth 100000 in
theorem law_loop {p : Program} {l : Launch} {e : Env} {s : State} {m : MethodId} {below : List Frame} {meth : Method} {c : Code} {b L : Nat} {xs : Nat → Int32} (C0 : lw_At p s m meth c b L xs) (hL : L ≤ 2560) (hlt : l.stackTraces = false) (hTH : THf (fun q => s.heap.size ≤ q) s) {ad : Nat → Nat} {cA : Nat → ClassId} {D : va_G} {qo : Nat} (hF : LWf ad cA D qo s) :
    ∀ (n i cells slots : Nat) (G : AG) (H : Heap) (locs : List Loc) (ls : Array Slot), i ≤ L → L + 1 ≤ i + n → cells + n ≤ 601024 → slots + 6 * n ≤ 7293034 → Rel G → LWw ad cA D qo s G H locs → lv_has ls 7 [(0, .ref b), (4, .int (nI i)), (1, .ref (ad 53)), (2, .ref (ad 54)), (3, .ref qo)] → W p l e room_1 s m #[Value.ref b] below meth c H locs cells slots (lw_Z below #[Value.ref b] s) (F0 m 23 ls []) := by
  obtain ⟨hx, hb, hr, hml, hown, hts, hX, hbl, hlocks, hgv⟩ := id C0
  have hbA : ¬ (fun q : Nat => s.heap.size ≤ q) b := Nat.not_le.mpr hbl
  intro n
  induction n with
  | zero =>
    intro i cells slots G H locs ls h1 h2
    exact absurd h2 (by omega)
  | succ n ih =>
    intro i cells slots G H locs ls hiL hin hc1 hc2 hR hw hl
    have e5 : Int32.ofNat L - 5 = am_i ((L : Int) - 5) := by
      rw [am_i_sub]
      show nI L - 5 = am_i (L : Int) - am_i 5
      rw [nI_am]
      rfl
    have t5 : (am_i ((L : Int) - 5)).toInt = (L : Int) - 5 := am_it (by omega) (by omega)
    have ti : (nI i).toInt = (i : Int) := nI_toInt (by omega)
    have nxt : ∀ (G' : AG) (H' : Heap) (locs' : List Loc) (ls' : Array Slot) (cells' slots' : Nat), Rel G' → LWw ad cA D qo s G' H' locs' → lv_has ls' 7 [(0, .ref b), (4, .int (nI i)), (1, .ref (ad 53)), (2, .ref (ad 54)), (3, .ref qo)] → cells' + n ≤ 601024 → slots' + 6 * n ≤ 7293034 → i + 5 ≤ L → W p l e room_1 s m #[Value.ref b] below meth c H' locs' cells' slots' (lw_Z below #[Value.ref b] s) (F0 m 989 ls' []) := by
      intro G' H' locs' ls' cells' slots' g1 g2 hl g3 g4 g5
      refine lv_iinc (v := nI (i + 5)) (lv' := [(4, .int (nI (i + 5))), (0, .ref b), (1, .ref (ad 53)), (2, .ref (ad 54)), (3, .ref qo)]) hx hb dl_989 hl (k := 1) rfl (nI_plus i 5) (by decide) rfl (fun ls hl => ?_)
      refine lv_goto (tgt := 23) hx hb dl_992 (by decide) ?_
      exact ih (i + 5) cells' slots' G' H' locs' ls g5 (by omega) g3 g4 g1 g2 (lv_sub hl [1, 0, 2, 3, 4] rfl)
    refine lv_iload hx hb dl_23 (lv_at hl 1 rfl) ?_
    refine lv_aload_n hx hb dl_25 rfl (lv_at hl 0 rfl) ?_
    refine va_slen hx hb hX hbl hbA hw.2.2 dl_26 ?_
    refine lv_iconst (v := 5) hx hb dl_27 (by decide) ?_
    refine lv_isub hx hb dl_28 ?_
    refine lv_icmp_gt (tgt := 995) hx hb dl_29 (by decide) (fun _ => ?_) (fun hle => ?_)
    · refine lv_iconst (v := 1) hx hb dl_995 (by decide) ?_
      refine va_forget (fun q hq => hw.2.2.2.2 q hq) ?_
      refine W.widen (k := 601024) (n := 7293034) (by omega) (by omega) ?_
      exact lw_ret hx hb hr hlocks dl_996
    · have hi5 : i + 5 ≤ L := by
        rw [e5, Int32.lt_iff_toInt_lt, t5, ti] at hle
        omega
      have nxt := fun (G' : AG) (H' : Heap) (locs' : List Loc) (ls' : Array Slot) (cells' slots' : Nat) g1 g2 g3 g4 g5 => nxt G' H' locs' ls' cells' slots' g1 g2 g3 g4 g5 hi5
      refine lv_aload_n hx hb dl_32 rfl (lv_at hl 0 rfl) ?_
      refine lv_iload hx hb dl_33 (lv_at hl 1 rfl) ?_
      refine va_sld hx hb hX hbl hbA hw.2.2 (vp_in_nI (by omega) (by omega)) dl_35 ?_
      refine lv_bipush (v := 31) hx hb dl_36 (by decide) ?_
      refine lv_iand hx hb dl_38 ?_
      refine lv_topi (fun v ev => ?_)
      clear ih
      by_cases hv : v.toInt < 0 ∨ 21 < v.toInt
      · exact lv_tableOut (tgt := 989) hx hb dl_39 hv (by decide) (nxt G H locs ls cells slots hR hw hl (by omega) (by omega))
      · rcases (show v.toInt = 0 ∨ v.toInt = 1 ∨ v.toInt = 2 ∨ v.toInt = 3 ∨ v.toInt = 4 ∨ v.toInt = 5 ∨ v.toInt = 6 ∨ v.toInt = 7 ∨ v.toInt = 8 ∨ v.toInt = 9 ∨ v.toInt = 10 ∨ v.toInt = 11 ∨ v.toInt = 12 ∨ v.toInt = 13 ∨ v.toInt = 14 ∨ v.toInt = 15 ∨ v.toInt = 16 ∨ v.toInt = 17 ∨ v.toInt = 18 ∨ v.toInt = 19 ∨ v.toInt = 20 ∨ v.toInt = 21 by omega) with ee | ee | ee | ee | ee | ee | ee | ee | ee | ee | ee | ee | ee | ee | ee | ee | ee | ee | ee | ee | ee | ee
        · exact lv_tableIn (off := 101) (tgt := 140) hx hb dl_39 (by omega) (by omega) (by rw [ee]; rfl) (by decide) (law_mode C0 hL hF hR hw ⟨by omega, by omega⟩ hi5 hl (fun G' H' locs' h1 h2 => nxt G' H' locs' ls _ _ h1 h2 hl (by omega) (by omega)))
        · exact lv_tableIn (off := 138) (tgt := 177) hx hb dl_39 (by omega) (by omega) (by rw [ee]; rfl) (by decide) (law_artist C0 hL hF hR hw ⟨by omega, by omega⟩ hi5 hl (fun G' H' locs' h1 h2 => nxt G' H' locs' ls _ _ h1 h2 hl (by omega) (by omega)))
        · exact lv_tableIn (off := 163) (tgt := 202) hx hb dl_39 (by omega) (by omega) (by rw [ee]; rfl) (by decide) (law_like C0 hL hF hR hw ⟨by omega, by omega⟩ hi5 hl (fun G' H' locs' h1 h2 => nxt G' H' locs' ls _ _ h1 h2 hl (by omega) (by omega)))
        · exact lv_tableIn (off := 212) (tgt := 251) hx hb dl_39 (by omega) (by omega) (by rw [ee]; rfl) (by decide) (law_rival C0 hL hF hR hw ⟨by omega, by omega⟩ hi5 hl (fun G' H' locs' h1 h2 => nxt G' H' locs' ls _ _ h1 h2 hl (by omega) (by omega)))
        · exact lv_tableIn (off := 277) (tgt := 316) hx hb dl_39 (by omega) (by omega) (by rw [ee]; rfl) (by decide) (law_ill C0 hL hF hR hw ⟨by omega, by omega⟩ hi5 hl (fun G' H' locs' h1 h2 => nxt G' H' locs' ls _ _ h1 h2 hl (by omega) (by omega)))
        · exact lv_tableIn (off := 330) (tgt := 369) hx hb dl_39 (by omega) (by omega) (by rw [ee]; rfl) (by decide) (law_set C0 hL hF hR hw ⟨by omega, by omega⟩ hi5 hl (fun G' H' locs' h1 h2 => nxt G' H' locs' ls _ _ h1 h2 hl (by omega) (by omega)))
        · exact lv_tableIn (off := 367) (tgt := 406) hx hb dl_39 (by omega) (by omega) (by rw [ee]; rfl) (by decide) (law_season C0 hL hF hR hw ⟨by omega, by omega⟩ hi5 hl (fun G' H' locs' h1 h2 => nxt G' H' locs' ls _ _ h1 h2 hl (by omega) (by omega)))
        · exact lv_tableIn (off := 404) (tgt := 443) hx hb dl_39 (by omega) (by omega) (by rw [ee]; rfl) (by decide) (law_near C0 hL hF hR hw ⟨by omega, by omega⟩ hi5 hl (fun G' H' locs' h1 h2 => nxt G' H' locs' ls _ _ h1 h2 hl (by omega) (by omega)))
        · exact lv_tableIn (off := 441) (tgt := 480) hx hb dl_39 (by omega) (by omega) (by rw [ee]; rfl) (by decide) (law_count C0 hL hF hR hw ⟨by omega, by omega⟩ hi5 hl (fun G' H' locs' h1 h2 => nxt G' H' locs' ls _ _ h1 h2 hl (by omega) (by omega)))
        · exact lv_tableIn (off := 466) (tgt := 505) hx hb dl_39 (by omega) (by omega) (by rw [ee]; rfl) (by decide) (law_put C0 hL hF hR hw ⟨by omega, by omega⟩ hi5 hl (fun G' H' locs' h1 h2 => nxt G' H' locs' ls _ _ h1 h2 hl (by omega) (by omega)))
        · exact lv_tableIn (off := 515) (tgt := 554) hx hb dl_39 (by omega) (by omega) (by rw [ee]; rfl) (by decide) (law_at C0 hL hlt hTH hF hR hw ⟨by omega, by omega⟩ hi5 hl (fun G' H' locs' ls' h1 h2 h3 => nxt G' H' locs' ls' _ _ h1 h2 h3 (by omega) (by omega)))
        · exact lv_tableIn (off := 583) (tgt := 622) hx hb dl_39 (by omega) (by omega) (by rw [ee]; rfl) (by decide) (law_wrong C0 hL hF hR hw ⟨by omega, by omega⟩ hi5 hl (fun G' H' locs' h1 h2 => nxt G' H' locs' ls _ _ h1 h2 hl (by omega) (by omega)))
        · exact lv_tableIn (off := 596) (tgt := 635) hx hb dl_39 (by omega) (by omega) (by rw [ee]; rfl) (by decide) (law_best C0 hL hF hR hw ⟨by omega, by omega⟩ hi5 hl (fun G' H' locs' h1 h2 => nxt G' H' locs' ls _ _ h1 h2 hl (by omega) (by omega)))
        · exact lv_tableIn (off := 609) (tgt := 648) hx hb dl_39 (by omega) (by omega) (by rw [ee]; rfl) (by decide) (law_mend C0 hL hF hR hw ⟨by omega, by omega⟩ hi5 hl (fun G' H' locs' h1 h2 => nxt G' H' locs' ls _ _ h1 h2 hl (by omega) (by omega)))
        · exact lv_tableIn (off := 622) (tgt := 661) hx hb dl_39 (by omega) (by omega) (by rw [ee]; rfl) (by decide) (law_piece C0 hL hF hR hw ⟨by omega, by omega⟩ hi5 hl (fun G' H' locs' h1 h2 => nxt G' H' locs' ls _ _ h1 h2 hl (by omega) (by omega)))
        · exact lv_tableIn (off := 699) (tgt := 738) hx hb dl_39 (by omega) (by omega) (by rw [ee]; rfl) (by decide) (law_played C0 hL hF hR hw ⟨by omega, by omega⟩ hi5 hl (fun G' H' locs' h1 h2 => nxt G' H' locs' ls _ _ h1 h2 hl (by omega) (by omega)))
        · exact lv_tableIn (off := 736) (tgt := 775) hx hb dl_39 (by omega) (by omega) (by rw [ee]; rfl) (by decide) (law_row C0 hL hF hR hw ⟨by omega, by omega⟩ hi5 hl (fun G' H' locs' h1 h2 => nxt G' H' locs' ls _ _ h1 h2 hl (by omega) (by omega)))
        · exact lv_tableIn (off := 773) (tgt := 812) hx hb dl_39 (by omega) (by omega) (by rw [ee]; rfl) (by decide) (law_told C0 hL hF hR hw ⟨by omega, by omega⟩ hi5 hl (fun G' H' locs' h1 h2 => nxt G' H' locs' ls _ _ h1 h2 hl (by omega) (by omega)))
        · exact lv_tableIn (off := 798) (tgt := 837) hx hb dl_39 (by omega) (by omega) (by rw [ee]; rfl) (by decide) (law_vote C0 hL hF hR hw ⟨by omega, by omega⟩ hi5 hl (fun G' H' locs' h1 h2 => nxt G' H' locs' ls _ _ h1 h2 hl (by omega) (by omega)))
        · exact lv_tableIn (off := 835) (tgt := 874) hx hb dl_39 (by omega) (by omega) (by rw [ee]; rfl) (by decide) (law_kin C0 hL hF hR hw ⟨by omega, by omega⟩ hi5 hl (fun G' H' locs' h1 h2 => nxt G' H' locs' ls _ _ h1 h2 hl (by omega) (by omega)))
        · exact lv_tableIn (off := 900) (tgt := 939) hx hb dl_39 (by omega) (by omega) (by rw [ee]; rfl) (by decide) (law_points C0 hL hF hR hw ⟨by omega, by omega⟩ hi5 hl (fun G' H' locs' h1 h2 => nxt G' H' locs' ls _ _ h1 h2 hl (by omega) (by omega)))
        · exact lv_tableIn (off := 925) (tgt := 964) hx hb dl_39 (by omega) (by omega) (by rw [ee]; rfl) (by decide) (law_prize C0 hL hF hR hw ⟨by omega, by omega⟩ hi5 hl (fun G' H' locs' h1 h2 => nxt G' H' locs' ls _ _ h1 h2 hl (by omega) (by omega)))

