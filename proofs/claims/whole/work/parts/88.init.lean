/-! the first state -/
theorem lw_TH {p : Program} {s : State} {m : MethodId} {meth : Method} {c : Code} {b L : Nat} {xs : Nat → Int32} (C0 : lw_At p s m meth c b L xs) : THf (fun q => s.heap.size ≤ q) s := by
  obtain ⟨hx, hb, hr, hml, hown, hts, hX, hbl, hlocks, hgv⟩ := id C0
  have hs := flat_of_before _ hgv
  have hnA : ∀ a : Nat, a < s.heap.size → ¬ (fun q : Nat => s.heap.size ≤ q) a := fun a ha => Nat.not_le.mpr ha
  have hT : (Cond.initialized "java/lang/Throwable").before #[Value.ref b] s = true := hts _ (List.mem_of_getElem? (i := 54) (by decide +kernel))
  obtain ⟨a1, c1, e1, k1, q1, -⟩ := Cond.exactly_spec (hs (.exactly (.string "SeasonOfHours" 130) "java/lang/String") (by decide +kernel))
  obtain ⟨a2, c2, e2, k2, q2, -⟩ := Cond.exactly_spec (hs (.exactly (.string "SeasonOfHours" 135) "java/lang/String") (by decide +kernel))
  refine ⟨⟨a1, vk_R.of (A := #[Value.ref b]) (hts _ (List.mem_of_getElem? (i := 669) (by decide +kernel))) q1⟩, ⟨a2, vk_R.of (A := #[Value.ref b]) (hts _ (List.mem_of_getElem? (i := 696) (by decide +kernel))) q2⟩, fun w hw => va_Nw.of (nseD_on w hw) (hts w ((show ∀ w ∈ nseD, w ∈ lw_tbl by decide +kernel) w hw)), ?_, ?_⟩
  · exact vx_Zqof (args := #[Value.ref b]) (hts _ (List.mem_of_getElem? (i := 657) (by decide +kernel))) hT (hs _ (by decide +kernel)) hnA
  · exact vx_Zqof (args := #[Value.ref b]) (hts _ (List.mem_of_getElem? (i := 659) (by decide +kernel))) hT (hs _ (by decide +kernel)) hnA
def G0l : AG := fun b j => if b = 0 then (if j = 3 then 12 else 0) else if b = 33 then (if j = 10 then 7 else 0) else if b = 13 then GPb 0 j else if b = 14 then GPb 1 j else if b = 15 then GPb 2 j else if b < 54 then 0 else GMb (b - 54) j
theorem fin6 {P : Int → Prop} {n : Nat} (h : ∀ i : Fin n, P (i.val : Int)) : ∀ i : Int, 0 ≤ i → i < n → P i := fun i h0 h1 => by
  have := h ⟨i.toNat, by omega⟩
  simp only [Int.toNat_of_nonneg h0] at this
  exact this
theorem tb00 (i : Int) : tb 0 i = false := tb_zero i
set_option maxRecDepth 100000 in
theorem Rel0 : Rel G0l := by
  refine ⟨?_, ?_, ?_, ?_, ?_⟩
  · refine ⟨by decide, by decide, by decide, by decide, by decide, by decide, fin6 (n := 6) (by decide +kernel)⟩
  · refine ⟨by decide, by decide, by decide, by decide, by decide, fin6 (n := 6) (by decide +kernel), fun a b a0 a1 b0 b1 => ?_⟩
    exact fin6 (n := 6) (P := fun a => ∀ b : Int, 0 ≤ b → b < 6 → (G0l 59 (6 * a + b) = G0l (7 + a.toNat) b ∧ 0 ≤ G0l (7 + a.toNat) b ∧ G0l (7 + a.toNat) b ≤ 100 ∧ (G0l (7 + a.toNat) b ≠ 0 → a < G0l 3 4 ∧ b < G0l 0 2) ∧ G0l 60 (6 * a + b) = (if tb (G0l 5 a) b = true then 1 else 0) ∧ tb (G0l 5 a) b = tb (G0l 5 b) a)) (fun a' => fin6 (n := 6) (P := fun b => (G0l 59 (6 * (a'.val : Int) + b) = G0l (7 + (a'.val : Int).toNat) b ∧ 0 ≤ G0l (7 + (a'.val : Int).toNat) b ∧ G0l (7 + (a'.val : Int).toNat) b ≤ 100 ∧ (G0l (7 + (a'.val : Int).toNat) b ≠ 0 → (a'.val : Int) < G0l 3 4 ∧ b < G0l 0 2) ∧ G0l 60 (6 * (a'.val : Int) + b) = (if tb (G0l 5 (a'.val : Int)) b = true then 1 else 0) ∧ tb (G0l 5 (a'.val : Int)) b = tb (G0l 5 b) (a'.val : Int))) (by revert a'; decide +kernel)) a a0 a1 b b0 b1
  · refine ⟨by decide, by decide, by decide, by decide, by decide, by decide, by decide, by decide, fun i i0 i1 => ?_, fin6 (n := 6) (by decide +kernel)⟩
    have h1 : G0l 13 6 = 1 := by decide
    have e : i = 0 := by omega
    rw [e]
    decide
  · refine ⟨by decide, by decide, by decide, by decide, by decide, by decide, by decide, by decide, by decide, by decide, by decide, fin6 (n := 10) (by decide +kernel), fun i i0 i1 => ?_, by decide⟩
    have h1 : G0l 33 11 = 0 := by decide
    omega
  · refine fin6 (n := 7) (P := fun j => (0 ≤ G0l 50 j ∧ G0l 50 j ≤ 6 ∧ G0l 70 j = G0l 50 j ∧ 0 ≤ G0l 51 j ∧ G0l 51 j < 64 ∧ (∀ a : Int, 0 ≤ a → a < 6 → G0l 71 (6 * j + a) = (if tb (G0l 51 j) a = true then 1 else 0)) ∧
  (∀ i : Int, 0 ≤ i → i < G0l 50 j → (G0l 69 (6 * j + i) = G0l (43 + j.toNat) i ∧ 0 ≤ G0l (43 + j.toNat) i ∧ G0l (43 + j.toNat) i < G0l 3 4)) ∧
  ∀ i k : Int, 0 ≤ i → i < G0l 50 j → 0 ≤ k → k < G0l 50 j → G0l (43 + j.toNat) i = G0l (43 + j.toNat) k → i = k)) (fun j => ?_)
    have h50 : ∀ j : Int, G0l 50 j = 0 := fun _ => rfl
    refine ⟨by rw [h50]; omega, by rw [h50]; omega, by revert j; decide +kernel, by revert j; decide +kernel, by revert j; decide +kernel, fin6 (n := 6) (by revert j; decide +kernel), fun i i0 i1 => ?_, fun i k i0 i1 => ?_⟩
    · rw [h50] at i1
      omega
    · rw [h50] at i1
      omega
