/-! into the loop -/
theorem law_enter {p : Program} {l : Launch} {e : Env} {s : State} {m : MethodId} {below : List Frame} {meth : Method} {c : Code} {b L : Nat} {xs : Nat → Int32} (C0 : lw_At p s m meth c b L xs) (hL : L ≤ 2560) (hlt : l.stackTraces = false) {cA : Nat → ClassId} {D : va_G} {t : Nat} (hE : EVf cA D t (fun q => s.heap.size ≤ q) s) {ad : Nat → Nat} (hat : ad 1000 = t) {G : AG} (hR : Rel G) {qo : Nat} {H : Heap} {locs : List Loc} (hS : va_S (fun q => s.heap.size ≤ q) s.heap H locs) (hP : va_P D classes ((qo, .inl (cA 2, 1, .inr (.inl (fun _ => 0)))) :: am_wo ad cA SKG G) H) (hD : va_D (fun q => s.heap.size ≤ q) ((qo, .inl (cA 2, 1, .inr (.inl (fun _ => 0)))) :: am_wo ad cA SKG G)) {cells slots : Nat} (hc : cells ≤ 1000) (hs : slots ≤ 10000) {ls : Array Slot} (hl : lv_has ls 7 [(0, .ref b), (4, .int (nI 0)), (1, .ref (ad 53)), (2, .ref (ad 54)), (3, .ref qo)]) :
    W p l e room_1 s m #[Value.ref b] below meth c H locs cells slots (lw_Z below #[Value.ref b] s) (F0 m 23 ls []) := by
  obtain ⟨hP1, hPo⟩ := P_tail hP
  have hD1 : va_D (fun q => s.heap.size ≤ q) (am_wo ad cA SKG G) := ⟨fun i j x y hx hy exy => by have := hD.1 (i + 1) (j + 1) x y (by rw [List.getElem?_cons_succ]; exact hx) (by rw [List.getElem?_cons_succ]; exact hy) exy; omega, fun k q hq => hD.2 (k + 1) q (by rw [List.getElem?_cons_succ]; exact hq)⟩
  have hF : LWf ad cA D qo s := by
    refine ⟨am_inj_of hD1, fun k hk => am_free_of hD1 _ ⟨k, hk, rfl⟩, fun k hk hq => ?_, hD.2 0 (qo, .inl (cA 2, 1, .inr (.inl (fun _ => 0)))) rfl, hE.1, hE.2.1, ?_⟩
    · have h1 : SKG[k]? = some SKG[k] := List.getElem?_eq_getElem hk
      have h2 := hD.1 0 (k + 1) (qo, .inl (cA 2, 1, .inr (.inl (fun _ => 0)))) (ad k, am_cell ad cA SKG[k] (G k)) rfl (by rw [List.getElem?_cons_succ]; exact am_wo_at h1) hq.symm
      omega
    · have h6 := hE.2.2.2.2.2
      unfold am_Z at h6 ⊢
      rw [hat]
      exact h6
  exact law_loop C0 hL hlt (lw_TH C0) hF (L + 1) 0 cells slots G H locs ls (by omega) (by omega) (by omega) (by omega) hR ⟨hP1, ⟨_, hPo⟩, hS⟩ hl
