/-! the cases of the law -/
theorem law_best {p : Program} {l : Launch} {e : Env} {s : State} {m : MethodId} {below : List Frame} {meth : Method} {c : Code} {b L : Nat} {xs : Nat → Int32} (C0 : lw_At p s m meth c b L xs) (hL : L ≤ 2560) {ad : Nat → Nat} {cA : Nat → ClassId} {D : va_G} {qo : Nat} (hF : LWf ad cA D qo s) {G : AG} (hR : Rel G) {H : Heap} {locs : List Loc} (hw : LWw ad cA D qo s G H locs) {cells slots : Nat} (hcs : cells ≤ 601024 ∧ slots ≤ 7293034) {i : Nat} (hi : i + 5 ≤ L) {ls : Array Slot} (hl : lv_has ls 7 [(0, .ref b), (4, .int (nI i)), (1, .ref (ad 53)), (2, .ref (ad 54)), (3, .ref qo)]) {Q : State → Prop}
    (K : ∀ (G' : AG) (H' : Heap) (locs' : List Loc), Rel G' → LWw ad cA D qo s G' H' locs' → W p l e room_1 s m #[Value.ref b] below meth c H' locs' cells slots Q (F0 m 989 ls [])) :
    W p l e room_1 s m #[Value.ref b] below meth c H locs cells slots Q (F0 m 635 ls []) := by
  have hx := C0.1
  have hb := C0.2.1
  obtain ⟨r, GX, GM, h1, h2, h3, h4⟩ := pair_best hR 
  obtain ⟨z, rfl⟩ := ret_int h1 (Or.inl rfl)
  refine lv_aload_n hx hb dl_635 rfl (lv_at hl 2 rfl) ?_
  refine lw_calli (as := []) (a := 53) (rest := []) C0 hF hw hcs hl.1 (Nat.le_of_ble_eq_true rfl) tl_636 rfl rfl h1 (Nat.le_of_ble_eq_true rfl) rfl rfl (fun H locs hw => ?_)
  refine lv_aload_n hx hb dl_639 rfl (lv_at hl 3 rfl) ?_
  refine lw_calli (as := []) (a := 54) (rest := [.int (am_i z)]) C0 hF hw hcs hl.1 (Nat.le_of_ble_eq_true rfl) tl_640 rfl rfl h2 (Nat.le_of_ble_eq_true rfl) rfl rfl (fun H locs hw => ?_)
  exact lv_icmp_eq (tgt := 989) hx hb dl_643 (by decide) (fun _ => K GM H locs h3 hw) (fun hne => absurd rfl hne)
theorem law_mend {p : Program} {l : Launch} {e : Env} {s : State} {m : MethodId} {below : List Frame} {meth : Method} {c : Code} {b L : Nat} {xs : Nat → Int32} (C0 : lw_At p s m meth c b L xs) (hL : L ≤ 2560) {ad : Nat → Nat} {cA : Nat → ClassId} {D : va_G} {qo : Nat} (hF : LWf ad cA D qo s) {G : AG} (hR : Rel G) {H : Heap} {locs : List Loc} (hw : LWw ad cA D qo s G H locs) {cells slots : Nat} (hcs : cells ≤ 601024 ∧ slots ≤ 7293034) {i : Nat} (hi : i + 5 ≤ L) {ls : Array Slot} (hl : lv_has ls 7 [(0, .ref b), (4, .int (nI i)), (1, .ref (ad 53)), (2, .ref (ad 54)), (3, .ref qo)]) {Q : State → Prop}
    (K : ∀ (G' : AG) (H' : Heap) (locs' : List Loc), Rel G' → LWw ad cA D qo s G' H' locs' → W p l e room_1 s m #[Value.ref b] below meth c H' locs' cells slots Q (F0 m 989 ls [])) :
    W p l e room_1 s m #[Value.ref b] below meth c H locs cells slots Q (F0 m 648 ls []) := by
  have hx := C0.1
  have hb := C0.2.1
  obtain ⟨r, GX, GM, h1, h2, h3, h4⟩ := pair_mend hR 
  obtain ⟨z, rfl⟩ := ret_int h1 (Or.inl rfl)
  refine lv_aload_n hx hb dl_648 rfl (lv_at hl 2 rfl) ?_
  refine lw_calli (as := []) (a := 53) (rest := []) C0 hF hw hcs hl.1 (Nat.le_of_ble_eq_true rfl) tl_649 rfl rfl h1 (Nat.le_of_ble_eq_true rfl) rfl rfl (fun H locs hw => ?_)
  refine lv_aload_n hx hb dl_652 rfl (lv_at hl 3 rfl) ?_
  refine lw_calli (as := []) (a := 54) (rest := [.int (am_i z)]) C0 hF hw hcs hl.1 (Nat.le_of_ble_eq_true rfl) tl_653 rfl rfl h2 (Nat.le_of_ble_eq_true rfl) rfl rfl (fun H locs hw => ?_)
  exact lv_icmp_eq (tgt := 989) hx hb dl_656 (by decide) (fun _ => K GM H locs h3 hw) (fun hne => absurd rfl hne)
theorem law_piece {p : Program} {l : Launch} {e : Env} {s : State} {m : MethodId} {below : List Frame} {meth : Method} {c : Code} {b L : Nat} {xs : Nat → Int32} (C0 : lw_At p s m meth c b L xs) (hL : L ≤ 2560) {ad : Nat → Nat} {cA : Nat → ClassId} {D : va_G} {qo : Nat} (hF : LWf ad cA D qo s) {G : AG} (hR : Rel G) {H : Heap} {locs : List Loc} (hw : LWw ad cA D qo s G H locs) {cells slots : Nat} (hcs : cells ≤ 601024 ∧ slots ≤ 7293034) {i : Nat} (hi : i + 5 ≤ L) {ls : Array Slot} (hl : lv_has ls 7 [(0, .ref b), (4, .int (nI i)), (1, .ref (ad 53)), (2, .ref (ad 54)), (3, .ref qo)]) {Q : State → Prop}
    (K : ∀ (G' : AG) (H' : Heap) (locs' : List Loc), Rel G' → LWw ad cA D qo s G' H' locs' → W p l e room_1 s m #[Value.ref b] below meth c H' locs' cells slots Q (F0 m 989 ls [])) :
    W p l e room_1 s m #[Value.ref b] below meth c H locs cells slots Q (F0 m 661 ls []) := by
  have hx := C0.1
  have hb := C0.2.1
  obtain ⟨r, GX, GM, h1, h2, h3, h4⟩ := pair_piece hR (lw_xs (xs (i + 1))) (lw_xs (xs (i + 2))) (lw_xs (xs (i + 3))) (bl_01 (xs (i + 4)))
  obtain ⟨z, rfl⟩ := ret_int h1 (Or.inl rfl)
  refine lv_aload_n hx hb dl_661 rfl (lv_at hl 2 rfl) ?_
  refine lw_rd (k := 1) C0 hL hw.2.2 hl (by omega) dl_662 dl_663 dl_665 dl_666 dl_667 ?_
  refine lw_rd (k := 2) C0 hL hw.2.2 hl (by omega) dl_668 dl_669 dl_671 dl_672 dl_673 ?_
  refine lw_rd (k := 3) C0 hL hw.2.2 hl (by omega) dl_674 dl_675 dl_677 dl_678 dl_679 ?_
  refine lw_bl (k := 4) C0 hL hw.2.2 hl (by omega) dl_680 dl_681 dl_683 dl_684 dl_685 dl_686 dl_689 dl_690 dl_693 ?_
  refine lw_calli (as := [vI (xs (i + 1)).toInt, vI (xs (i + 2)).toInt, vI (xs (i + 3)).toInt, vI (bl (xs (i + 4)))]) (a := 53) (rest := []) C0 hF hw hcs hl.1 (Nat.le_of_ble_eq_true rfl) tl_694 rfl rfl h1 (Nat.le_of_ble_eq_true rfl) rfl rfl (fun H locs hw => ?_)
  refine lv_aload_n hx hb dl_697 rfl (lv_at hl 3 rfl) ?_
  refine lw_rd (k := 1) C0 hL hw.2.2 hl (by omega) dl_698 dl_699 dl_701 dl_702 dl_703 ?_
  refine lw_rd (k := 2) C0 hL hw.2.2 hl (by omega) dl_704 dl_705 dl_707 dl_708 dl_709 ?_
  refine lw_rd (k := 3) C0 hL hw.2.2 hl (by omega) dl_710 dl_711 dl_713 dl_714 dl_715 ?_
  refine lw_bl (k := 4) C0 hL hw.2.2 hl (by omega) dl_716 dl_717 dl_719 dl_720 dl_721 dl_722 dl_725 dl_726 dl_729 ?_
  refine lw_calli (as := [vI (xs (i + 1)).toInt, vI (xs (i + 2)).toInt, vI (xs (i + 3)).toInt, vI (bl (xs (i + 4)))]) (a := 54) (rest := [.int (am_i z)]) C0 hF hw hcs hl.1 (Nat.le_of_ble_eq_true rfl) tl_730 rfl rfl h2 (Nat.le_of_ble_eq_true rfl) rfl rfl (fun H locs hw => ?_)
  exact lv_icmp_eq (tgt := 989) hx hb dl_733 (by decide) (fun _ => K GM H locs h3 hw) (fun hne => absurd rfl hne)
theorem law_played {p : Program} {l : Launch} {e : Env} {s : State} {m : MethodId} {below : List Frame} {meth : Method} {c : Code} {b L : Nat} {xs : Nat → Int32} (C0 : lw_At p s m meth c b L xs) (hL : L ≤ 2560) {ad : Nat → Nat} {cA : Nat → ClassId} {D : va_G} {qo : Nat} (hF : LWf ad cA D qo s) {G : AG} (hR : Rel G) {H : Heap} {locs : List Loc} (hw : LWw ad cA D qo s G H locs) {cells slots : Nat} (hcs : cells ≤ 601024 ∧ slots ≤ 7293034) {i : Nat} (hi : i + 5 ≤ L) {ls : Array Slot} (hl : lv_has ls 7 [(0, .ref b), (4, .int (nI i)), (1, .ref (ad 53)), (2, .ref (ad 54)), (3, .ref qo)]) {Q : State → Prop}
    (K : ∀ (G' : AG) (H' : Heap) (locs' : List Loc), Rel G' → LWw ad cA D qo s G' H' locs' → W p l e room_1 s m #[Value.ref b] below meth c H' locs' cells slots Q (F0 m 989 ls [])) :
    W p l e room_1 s m #[Value.ref b] below meth c H locs cells slots Q (F0 m 738 ls []) := by
  have hx := C0.1
  have hb := C0.2.1
  obtain ⟨r, GX, GM, h1, h2, h3, h4⟩ := pair_played hR (lw_xs (xs (i + 1))) (lw_xs (xs (i + 2)))
  obtain ⟨z, rfl⟩ := ret_int h1 (Or.inr rfl)
  refine lv_aload_n hx hb dl_738 rfl (lv_at hl 2 rfl) ?_
  refine lw_rd (k := 1) C0 hL hw.2.2 hl (by omega) dl_739 dl_740 dl_742 dl_743 dl_744 ?_
  refine lw_rd (k := 2) C0 hL hw.2.2 hl (by omega) dl_745 dl_746 dl_748 dl_749 dl_750 ?_
  refine lw_calli (as := [vI (xs (i + 1)).toInt, vI (xs (i + 2)).toInt]) (a := 53) (rest := []) C0 hF hw hcs hl.1 (Nat.le_of_ble_eq_true rfl) tl_751 rfl rfl h1 (Nat.le_of_ble_eq_true rfl) rfl rfl (fun H locs hw => ?_)
  refine lv_aload_n hx hb dl_754 rfl (lv_at hl 3 rfl) ?_
  refine lw_rd (k := 1) C0 hL hw.2.2 hl (by omega) dl_755 dl_756 dl_758 dl_759 dl_760 ?_
  refine lw_rd (k := 2) C0 hL hw.2.2 hl (by omega) dl_761 dl_762 dl_764 dl_765 dl_766 ?_
  refine lw_calli (as := [vI (xs (i + 1)).toInt, vI (xs (i + 2)).toInt]) (a := 54) (rest := [.int (am_i z)]) C0 hF hw hcs hl.1 (Nat.le_of_ble_eq_true rfl) tl_767 rfl rfl h2 (Nat.le_of_ble_eq_true rfl) rfl rfl (fun H locs hw => ?_)
  exact lv_icmp_eq (tgt := 989) hx hb dl_770 (by decide) (fun _ => K GM H locs h3 hw) (fun hne => absurd rfl hne)
theorem law_row {p : Program} {l : Launch} {e : Env} {s : State} {m : MethodId} {below : List Frame} {meth : Method} {c : Code} {b L : Nat} {xs : Nat → Int32} (C0 : lw_At p s m meth c b L xs) (hL : L ≤ 2560) {ad : Nat → Nat} {cA : Nat → ClassId} {D : va_G} {qo : Nat} (hF : LWf ad cA D qo s) {G : AG} (hR : Rel G) {H : Heap} {locs : List Loc} (hw : LWw ad cA D qo s G H locs) {cells slots : Nat} (hcs : cells ≤ 601024 ∧ slots ≤ 7293034) {i : Nat} (hi : i + 5 ≤ L) {ls : Array Slot} (hl : lv_has ls 7 [(0, .ref b), (4, .int (nI i)), (1, .ref (ad 53)), (2, .ref (ad 54)), (3, .ref qo)]) {Q : State → Prop}
    (K : ∀ (G' : AG) (H' : Heap) (locs' : List Loc), Rel G' → LWw ad cA D qo s G' H' locs' → W p l e room_1 s m #[Value.ref b] below meth c H' locs' cells slots Q (F0 m 989 ls [])) :
    W p l e room_1 s m #[Value.ref b] below meth c H locs cells slots Q (F0 m 775 ls []) := by
  have hx := C0.1
  have hb := C0.2.1
  obtain ⟨r, GX, GM, h1, h2, h3, h4⟩ := pair_row hR (lw_xs (xs (i + 1))) (lw_xs (xs (i + 2)))
  obtain ⟨z, rfl⟩ := ret_int h1 (Or.inl rfl)
  refine lv_aload_n hx hb dl_775 rfl (lv_at hl 2 rfl) ?_
  refine lw_rd (k := 1) C0 hL hw.2.2 hl (by omega) dl_776 dl_777 dl_779 dl_780 dl_781 ?_
  refine lw_rd (k := 2) C0 hL hw.2.2 hl (by omega) dl_782 dl_783 dl_785 dl_786 dl_787 ?_
  refine lw_calli (as := [vI (xs (i + 1)).toInt, vI (xs (i + 2)).toInt]) (a := 53) (rest := []) C0 hF hw hcs hl.1 (Nat.le_of_ble_eq_true rfl) tl_788 rfl rfl h1 (Nat.le_of_ble_eq_true rfl) rfl rfl (fun H locs hw => ?_)
  refine lv_aload_n hx hb dl_791 rfl (lv_at hl 3 rfl) ?_
  refine lw_rd (k := 1) C0 hL hw.2.2 hl (by omega) dl_792 dl_793 dl_795 dl_796 dl_797 ?_
  refine lw_rd (k := 2) C0 hL hw.2.2 hl (by omega) dl_798 dl_799 dl_801 dl_802 dl_803 ?_
  refine lw_calli (as := [vI (xs (i + 1)).toInt, vI (xs (i + 2)).toInt]) (a := 54) (rest := [.int (am_i z)]) C0 hF hw hcs hl.1 (Nat.le_of_ble_eq_true rfl) tl_804 rfl rfl h2 (Nat.le_of_ble_eq_true rfl) rfl rfl (fun H locs hw => ?_)
  exact lv_icmp_eq (tgt := 989) hx hb dl_807 (by decide) (fun _ => K GM H locs h3 hw) (fun hne => absurd rfl hne)
theorem law_told {p : Program} {l : Launch} {e : Env} {s : State} {m : MethodId} {below : List Frame} {meth : Method} {c : Code} {b L : Nat} {xs : Nat → Int32} (C0 : lw_At p s m meth c b L xs) (hL : L ≤ 2560) {ad : Nat → Nat} {cA : Nat → ClassId} {D : va_G} {qo : Nat} (hF : LWf ad cA D qo s) {G : AG} (hR : Rel G) {H : Heap} {locs : List Loc} (hw : LWw ad cA D qo s G H locs) {cells slots : Nat} (hcs : cells ≤ 601024 ∧ slots ≤ 7293034) {i : Nat} (hi : i + 5 ≤ L) {ls : Array Slot} (hl : lv_has ls 7 [(0, .ref b), (4, .int (nI i)), (1, .ref (ad 53)), (2, .ref (ad 54)), (3, .ref qo)]) {Q : State → Prop}
    (K : ∀ (G' : AG) (H' : Heap) (locs' : List Loc), Rel G' → LWw ad cA D qo s G' H' locs' → W p l e room_1 s m #[Value.ref b] below meth c H' locs' cells slots Q (F0 m 989 ls [])) :
    W p l e room_1 s m #[Value.ref b] below meth c H locs cells slots Q (F0 m 812 ls []) := by
  have hx := C0.1
  have hb := C0.2.1
  obtain ⟨r, GX, GM, h1, h2, h3, h4⟩ := pair_told hR (lw_xs (xs (i + 1)))
  obtain ⟨z, rfl⟩ := ret_int h1 (Or.inl rfl)
  refine lv_aload_n hx hb dl_812 rfl (lv_at hl 2 rfl) ?_
  refine lw_rd (k := 1) C0 hL hw.2.2 hl (by omega) dl_813 dl_814 dl_816 dl_817 dl_818 ?_
  refine lw_calli (as := [vI (xs (i + 1)).toInt]) (a := 53) (rest := []) C0 hF hw hcs hl.1 (Nat.le_of_ble_eq_true rfl) tl_819 rfl rfl h1 (Nat.le_of_ble_eq_true rfl) rfl rfl (fun H locs hw => ?_)
  refine lv_aload_n hx hb dl_822 rfl (lv_at hl 3 rfl) ?_
  refine lw_rd (k := 1) C0 hL hw.2.2 hl (by omega) dl_823 dl_824 dl_826 dl_827 dl_828 ?_
  refine lw_calli (as := [vI (xs (i + 1)).toInt]) (a := 54) (rest := [.int (am_i z)]) C0 hF hw hcs hl.1 (Nat.le_of_ble_eq_true rfl) tl_829 rfl rfl h2 (Nat.le_of_ble_eq_true rfl) rfl rfl (fun H locs hw => ?_)
  exact lv_icmp_eq (tgt := 989) hx hb dl_832 (by decide) (fun _ => K GM H locs h3 hw) (fun hne => absurd rfl hne)
theorem law_vote {p : Program} {l : Launch} {e : Env} {s : State} {m : MethodId} {below : List Frame} {meth : Method} {c : Code} {b L : Nat} {xs : Nat → Int32} (C0 : lw_At p s m meth c b L xs) (hL : L ≤ 2560) {ad : Nat → Nat} {cA : Nat → ClassId} {D : va_G} {qo : Nat} (hF : LWf ad cA D qo s) {G : AG} (hR : Rel G) {H : Heap} {locs : List Loc} (hw : LWw ad cA D qo s G H locs) {cells slots : Nat} (hcs : cells ≤ 601024 ∧ slots ≤ 7293034) {i : Nat} (hi : i + 5 ≤ L) {ls : Array Slot} (hl : lv_has ls 7 [(0, .ref b), (4, .int (nI i)), (1, .ref (ad 53)), (2, .ref (ad 54)), (3, .ref qo)]) {Q : State → Prop}
    (K : ∀ (G' : AG) (H' : Heap) (locs' : List Loc), Rel G' → LWw ad cA D qo s G' H' locs' → W p l e room_1 s m #[Value.ref b] below meth c H' locs' cells slots Q (F0 m 989 ls [])) :
    W p l e room_1 s m #[Value.ref b] below meth c H locs cells slots Q (F0 m 837 ls []) := by
  have hx := C0.1
  have hb := C0.2.1
  obtain ⟨r, GX, GM, h1, h2, h3, h4⟩ := pair_vote hR (lw_xs (xs (i + 1))) (lw_xs (xs (i + 2)))
  obtain ⟨z, rfl⟩ := ret_int h1 (Or.inl rfl)
  refine lv_aload_n hx hb dl_837 rfl (lv_at hl 2 rfl) ?_
  refine lw_rd (k := 1) C0 hL hw.2.2 hl (by omega) dl_838 dl_839 dl_841 dl_842 dl_843 ?_
  refine lw_rd (k := 2) C0 hL hw.2.2 hl (by omega) dl_844 dl_845 dl_847 dl_848 dl_849 ?_
  refine lw_calli (as := [vI (xs (i + 1)).toInt, vI (xs (i + 2)).toInt]) (a := 53) (rest := []) C0 hF hw hcs hl.1 (Nat.le_of_ble_eq_true rfl) tl_850 rfl rfl h1 (Nat.le_of_ble_eq_true rfl) rfl rfl (fun H locs hw => ?_)
  refine lv_aload_n hx hb dl_853 rfl (lv_at hl 3 rfl) ?_
  refine lw_rd (k := 1) C0 hL hw.2.2 hl (by omega) dl_854 dl_855 dl_857 dl_858 dl_859 ?_
  refine lw_rd (k := 2) C0 hL hw.2.2 hl (by omega) dl_860 dl_861 dl_863 dl_864 dl_865 ?_
  refine lw_calli (as := [vI (xs (i + 1)).toInt, vI (xs (i + 2)).toInt]) (a := 54) (rest := [.int (am_i z)]) C0 hF hw hcs hl.1 (Nat.le_of_ble_eq_true rfl) tl_866 rfl rfl h2 (Nat.le_of_ble_eq_true rfl) rfl rfl (fun H locs hw => ?_)
  exact lv_icmp_eq (tgt := 989) hx hb dl_869 (by decide) (fun _ => K GM H locs h3 hw) (fun hne => absurd rfl hne)
theorem law_kin {p : Program} {l : Launch} {e : Env} {s : State} {m : MethodId} {below : List Frame} {meth : Method} {c : Code} {b L : Nat} {xs : Nat → Int32} (C0 : lw_At p s m meth c b L xs) (hL : L ≤ 2560) {ad : Nat → Nat} {cA : Nat → ClassId} {D : va_G} {qo : Nat} (hF : LWf ad cA D qo s) {G : AG} (hR : Rel G) {H : Heap} {locs : List Loc} (hw : LWw ad cA D qo s G H locs) {cells slots : Nat} (hcs : cells ≤ 601024 ∧ slots ≤ 7293034) {i : Nat} (hi : i + 5 ≤ L) {ls : Array Slot} (hl : lv_has ls 7 [(0, .ref b), (4, .int (nI i)), (1, .ref (ad 53)), (2, .ref (ad 54)), (3, .ref qo)]) {Q : State → Prop}
    (K : ∀ (G' : AG) (H' : Heap) (locs' : List Loc), Rel G' → LWw ad cA D qo s G' H' locs' → W p l e room_1 s m #[Value.ref b] below meth c H' locs' cells slots Q (F0 m 989 ls [])) :
    W p l e room_1 s m #[Value.ref b] below meth c H locs cells slots Q (F0 m 874 ls []) := by
  have hx := C0.1
  have hb := C0.2.1
  obtain ⟨r, GX, GM, h1, h2, h3, h4⟩ := pair_kin hR (lw_xs (xs (i + 1))) (lw_xs (xs (i + 2))) (bl_01 (xs (i + 3)))
  obtain ⟨z, rfl⟩ := ret_int h1 (Or.inr rfl)
  refine lv_aload_n hx hb dl_874 rfl (lv_at hl 2 rfl) ?_
  refine lw_rd (k := 1) C0 hL hw.2.2 hl (by omega) dl_875 dl_876 dl_878 dl_879 dl_880 ?_
  refine lw_rd (k := 2) C0 hL hw.2.2 hl (by omega) dl_881 dl_882 dl_884 dl_885 dl_886 ?_
  refine lw_bl (k := 3) C0 hL hw.2.2 hl (by omega) dl_887 dl_888 dl_890 dl_891 dl_892 dl_893 dl_896 dl_897 dl_900 ?_
  refine lw_calli (as := [vI (xs (i + 1)).toInt, vI (xs (i + 2)).toInt, vI (bl (xs (i + 3)))]) (a := 53) (rest := []) C0 hF hw hcs hl.1 (Nat.le_of_ble_eq_true rfl) tl_901 rfl rfl h1 (Nat.le_of_ble_eq_true rfl) rfl rfl (fun H locs hw => ?_)
  refine lv_aload_n hx hb dl_904 rfl (lv_at hl 3 rfl) ?_
  refine lw_rd (k := 1) C0 hL hw.2.2 hl (by omega) dl_905 dl_906 dl_908 dl_909 dl_910 ?_
  refine lw_rd (k := 2) C0 hL hw.2.2 hl (by omega) dl_911 dl_912 dl_914 dl_915 dl_916 ?_
  refine lw_bl (k := 3) C0 hL hw.2.2 hl (by omega) dl_917 dl_918 dl_920 dl_921 dl_922 dl_923 dl_926 dl_927 dl_930 ?_
  refine lw_calli (as := [vI (xs (i + 1)).toInt, vI (xs (i + 2)).toInt, vI (bl (xs (i + 3)))]) (a := 54) (rest := [.int (am_i z)]) C0 hF hw hcs hl.1 (Nat.le_of_ble_eq_true rfl) tl_931 rfl rfl h2 (Nat.le_of_ble_eq_true rfl) rfl rfl (fun H locs hw => ?_)
  exact lv_icmp_eq (tgt := 989) hx hb dl_934 (by decide) (fun _ => K GM H locs h3 hw) (fun hne => absurd rfl hne)
theorem law_points {p : Program} {l : Launch} {e : Env} {s : State} {m : MethodId} {below : List Frame} {meth : Method} {c : Code} {b L : Nat} {xs : Nat → Int32} (C0 : lw_At p s m meth c b L xs) (hL : L ≤ 2560) {ad : Nat → Nat} {cA : Nat → ClassId} {D : va_G} {qo : Nat} (hF : LWf ad cA D qo s) {G : AG} (hR : Rel G) {H : Heap} {locs : List Loc} (hw : LWw ad cA D qo s G H locs) {cells slots : Nat} (hcs : cells ≤ 601024 ∧ slots ≤ 7293034) {i : Nat} (hi : i + 5 ≤ L) {ls : Array Slot} (hl : lv_has ls 7 [(0, .ref b), (4, .int (nI i)), (1, .ref (ad 53)), (2, .ref (ad 54)), (3, .ref qo)]) {Q : State → Prop}
    (K : ∀ (G' : AG) (H' : Heap) (locs' : List Loc), Rel G' → LWw ad cA D qo s G' H' locs' → W p l e room_1 s m #[Value.ref b] below meth c H' locs' cells slots Q (F0 m 989 ls [])) :
    W p l e room_1 s m #[Value.ref b] below meth c H locs cells slots Q (F0 m 939 ls []) := by
  have hx := C0.1
  have hb := C0.2.1
  obtain ⟨r, GX, GM, h1, h2, h3, h4⟩ := pair_points hR (lw_xs (xs (i + 1)))
  obtain ⟨z, rfl⟩ := ret_int h1 (Or.inl rfl)
  refine lv_aload_n hx hb dl_939 rfl (lv_at hl 2 rfl) ?_
  refine lw_rd (k := 1) C0 hL hw.2.2 hl (by omega) dl_940 dl_941 dl_943 dl_944 dl_945 ?_
  refine lw_calli (as := [vI (xs (i + 1)).toInt]) (a := 53) (rest := []) C0 hF hw hcs hl.1 (Nat.le_of_ble_eq_true rfl) tl_946 rfl rfl h1 (Nat.le_of_ble_eq_true rfl) rfl rfl (fun H locs hw => ?_)
  refine lv_aload_n hx hb dl_949 rfl (lv_at hl 3 rfl) ?_
  refine lw_rd (k := 1) C0 hL hw.2.2 hl (by omega) dl_950 dl_951 dl_953 dl_954 dl_955 ?_
  refine lw_calli (as := [vI (xs (i + 1)).toInt]) (a := 54) (rest := [.int (am_i z)]) C0 hF hw hcs hl.1 (Nat.le_of_ble_eq_true rfl) tl_956 rfl rfl h2 (Nat.le_of_ble_eq_true rfl) rfl rfl (fun H locs hw => ?_)
  exact lv_icmp_eq (tgt := 989) hx hb dl_959 (by decide) (fun _ => K GM H locs h3 hw) (fun hne => absurd rfl hne)
theorem law_prize {p : Program} {l : Launch} {e : Env} {s : State} {m : MethodId} {below : List Frame} {meth : Method} {c : Code} {b L : Nat} {xs : Nat → Int32} (C0 : lw_At p s m meth c b L xs) (hL : L ≤ 2560) {ad : Nat → Nat} {cA : Nat → ClassId} {D : va_G} {qo : Nat} (hF : LWf ad cA D qo s) {G : AG} (hR : Rel G) {H : Heap} {locs : List Loc} (hw : LWw ad cA D qo s G H locs) {cells slots : Nat} (hcs : cells ≤ 601024 ∧ slots ≤ 7293034) {i : Nat} (hi : i + 5 ≤ L) {ls : Array Slot} (hl : lv_has ls 7 [(0, .ref b), (4, .int (nI i)), (1, .ref (ad 53)), (2, .ref (ad 54)), (3, .ref qo)]) {Q : State → Prop}
    (K : ∀ (G' : AG) (H' : Heap) (locs' : List Loc), Rel G' → LWw ad cA D qo s G' H' locs' → W p l e room_1 s m #[Value.ref b] below meth c H' locs' cells slots Q (F0 m 989 ls [])) :
    W p l e room_1 s m #[Value.ref b] below meth c H locs cells slots Q (F0 m 964 ls []) := by
  have hx := C0.1
  have hb := C0.2.1
  obtain ⟨r, GX, GM, h1, h2, h3, h4⟩ := pair_prize hR (lw_xs (xs (i + 1)))
  obtain ⟨z, rfl⟩ := ret_int h1 (Or.inl rfl)
  refine lv_aload_n hx hb dl_964 rfl (lv_at hl 2 rfl) ?_
  refine lw_rd (k := 1) C0 hL hw.2.2 hl (by omega) dl_965 dl_966 dl_968 dl_969 dl_970 ?_
  refine lw_calli (as := [vI (xs (i + 1)).toInt]) (a := 53) (rest := []) C0 hF hw hcs hl.1 (Nat.le_of_ble_eq_true rfl) tl_971 rfl rfl h1 (Nat.le_of_ble_eq_true rfl) rfl rfl (fun H locs hw => ?_)
  refine lv_aload_n hx hb dl_974 rfl (lv_at hl 3 rfl) ?_
  refine lw_rd (k := 1) C0 hL hw.2.2 hl (by omega) dl_975 dl_976 dl_978 dl_979 dl_980 ?_
  refine lw_calli (as := [vI (xs (i + 1)).toInt]) (a := 54) (rest := [.int (am_i z)]) C0 hF hw hcs hl.1 (Nat.le_of_ble_eq_true rfl) tl_981 rfl rfl h2 (Nat.le_of_ble_eq_true rfl) rfl rfl (fun H locs hw => ?_)
  exact lv_icmp_eq (tgt := 989) hx hb dl_984 (by decide) (fun _ => K GM H locs h3 hw) (fun hne => absurd rfl hne)
