/-! from the folds to the joining -/
theorem cdP_cdU {fs : Int} : ∀ (p : List Int), cdP fs p = cdU (fun s => hrO p (s - fs)) p.length fs
  | [] => rfl
  | q :: p => by
    have e1 : cdU (fun s => hrO (q :: p) (s - fs)) p.length fs = cdU (fun s => hrO p (s - fs)) p.length fs := by
      refine cdU_cong _ _ (fun i q1 q2 => ?_)
      show hrO (q :: p) (i - fs) = hrO p (i - fs)
      rw [hrO, if_neg (by omega)]
    have e2 : hrO (q :: p) (fs + p.length - fs) = q := by rw [hrO, if_pos (by omega)]
    rw [List.length_cons, cdU_app 1 p.length fs, e1, ← cdP_cdU p, cdP, cdU, cdU]
    show _ = cdP fs p + (hrO (q :: p) (fs + p.length - fs) * f_pl (fs + p.length) + 0)
    rw [e2]
    omega
theorem hrO_mem : ∀ {p : List Int} {i : Int}, 0 ≤ i → i < p.length → hrO p i ∈ p
  | [], i, h0, h1 => by simp at h1; omega
  | q :: p, i, h0, h1 => by
    simp only [List.length_cons] at h1
    rw [hrO]
    by_cases e : i = p.length
    · rw [if_pos e]
      exact List.mem_cons_self
    · rw [if_neg e]
      exact List.mem_cons_of_mem _ (hrO_mem h0 (by omega))
theorem fold_inv {α β : Type} {P : α → Prop} {f : α → β → α} : ∀ {l : List β} {x : α}, P x → (∀ x o, o ∈ l → P x → P (f x o)) → P (l.foldl f x)
  | [], _, h, _ => h
  | b :: l, x, h, hf => by
    rw [List.foldl_cons]
    exact fold_inv (hf x b List.mem_cons_self h) (fun x o ho => hf x o (List.mem_cons_of_mem _ ho))
/-- an evening's fold leaves the other evenings alone -/
def KP (e : Int) (x y : T3) : Prop := (∀ j : Int, j < 64 * e ∨ 64 * e + 64 ≤ j → y.1 j = x.1 j) ∧ ∀ j : Int, j < 192 * e ∨ 192 * e + 192 ≤ j → y.2.1 j = x.2.1 j ∧ y.2.2 j = x.2.2 j
theorem enM_keep {G0 GT : AG} {cost z0 e fs : Int} (hR : Rel G0) (hT : TBL G0 cost GT) : ∀ (k : Nat) (p : List Int) (x y : T3), PO G0 p → p.length + k ≤ 3 → KP e y x → KP e y (enM G0 GT cost z0 e fs k p x)
  | 0, p, x, y, hp, hl, h => by
    have hc := cmpP_rng (PO.pv hT hp)
    rw [enM, stM]
    split
    · refine ⟨fun j hj => ?_, fun j hj => ?_⟩
      · show (if j = _ then _ else x.1 j) = _
        rw [if_neg (by omega)]
        exact h.1 j hj
      · show cpP x.2.1 aO _ p j = _ ∧ cpP x.2.2 mO _ p j = _
        rw [cpP, cpP, if_neg (by omega), if_neg (by omega)]
        exact h.2 j hj
    · exact h
  | k + 1, p, x, y, hp, hl, h => by
    have hp36 : PO G0 (36 :: p) := by
      intro z hz
      rcases List.mem_cons.mp hz with rfl | hz
      · exact Or.inl rfl
      · exact hp z hz
    rw [enM]
    refine enM_keep hR hT k (36 :: p) _ y hp36 (by simp; omega) (fold_inv (P := KP e y) h (fun x o ho hx => ?_))
    by_cases u : okX GT z0 p o = true
    · rw [if_pos u]
      have hm := chs_mem hR ho
      refine enM_keep hR hT k (o :: p) x y (fun z hz => ?_) (by simp; omega) hx
      rcases List.mem_cons.mp hz with rfl | hz
      · exact Or.inr hm
      · exact hp z hz
    · rw [if_neg u]
      exact hx
theorem SIM.keep {G0 GT : AG} {cost e e' fs S B : Int} {oc : Int → Int} {x y : T3} (h : SIM G0 GT cost e fs S B oc x) (hS : S ≤ 3) (hk : KP e' x y) (hne : e < e' ∨ e' < e) : SIM G0 GT cost e fs S B oc y := by
  intro c q1 q2
  have h1 := hk.1 (64 * e + c) (by omega)
  rcases h c q1 q2 with ⟨a1, a2⟩ | ⟨q, a1, a2, a3, a4, a5, a6, a7⟩
  · exact Or.inl ⟨a1, h1.trans a2⟩
  · refine Or.inr ⟨q, a1, a2, a3, h1.trans a4, a5, a6, fun i r1 r2 => ?_⟩
    have h2 := hk.2 (3 * (64 * e + c) + i) (by omega)
    have h3 := a7 i r1 r2
    exact ⟨h2.1.trans h3.1, h2.2.trans h3.2⟩
def ovX (GT G0 : AG) (e c : Int) : Int := oce GT (((2 ^ (G0 3 4).toNat : Nat) : Int) - 1) (G0 13 5) (G0 13 4) (G0 13 4 - 1 - e).toNat c
theorem jd_of {G0 GT G : AG} {cost B : Int} (hR : Rel G0) (hc : 0 ≤ cost ∧ cost ≤ 1000) (hT : TBL G0 cost GT) (hG : MSame G0 G) (h : ∀ e : Int, 0 ≤ e → e < G0 13 4 → SIM G0 GT cost e (e * G0 13 5) (G0 13 5) B (ovX GT G0 e) (tri G)) :
    ∃ rr : Int → Int → Int → Int, JD G (G0 13 4) (G0 13 5) (G0 3 4) (ovX GT G0) rr ∧ ∀ e c i : Int, 0 ≤ e → e < G0 13 4 → 0 ≤ c → c < 64 → ovX GT G0 e c ≠ -9223372036854775808 → 0 ≤ i → i < G0 13 5 → (rr e c (e * G0 13 5 + i) = 36 ∨ (0 ≤ rr e c (e * G0 13 5 + i) ∧ rr e c (e * G0 13 5 + i) < 36 ∧ rr e c (e * G0 13 5 + i) / 6 < G0 3 4 ∧ rr e c (e * G0 13 5 + i) % 6 < G0 0 2)) := by
  obtain ⟨ha0, ha1, ha2, ha3, ha4, ha5, ha6⟩ := id hR.2.1
  obtain ⟨hp1, hp2, hp3, hp4, hp5, hp6, hp7, hp8, hp9, hp10⟩ := id hR.2.2.1
  have hq : ∀ ec : Int × Int, ∃ q : List Int, 0 ≤ ec.1 → ec.1 < G0 13 4 → 0 ≤ ec.2 → ec.2 < 64 → (ovX GT G0 ec.1 ec.2 = -9223372036854775808 ∧ (tri G).1 (64 * ec.1 + ec.2) = -1000000) ∨ (PO G0 q ∧ (q.length : Int) = G0 13 5 ∧ (tri G).1 (64 * ec.1 + ec.2) = swP G0 cost (ec.1 * G0 13 5) q ∧ ovX GT G0 ec.1 ec.2 = vlsP GT (ec.1 * G0 13 5) q ∧ ∀ i : Int, 0 ≤ i → i < G0 13 5 → (tri G).2.1 (3 * (64 * ec.1 + ec.2) + i) = aO (hrO q i) ∧ (tri G).2.2 (3 * (64 * ec.1 + ec.2) + i) = mO (hrO q i)) := by
    intro ec
    by_cases u : 0 ≤ ec.1 ∧ ec.1 < G0 13 4 ∧ 0 ≤ ec.2 ∧ ec.2 < 64
    · rcases h ec.1 u.1 u.2.1 ec.2 u.2.2.1 u.2.2.2 with w | ⟨q, a1, a2, a3, a4, a5, a6, a7⟩
      · exact ⟨[], fun _ _ _ _ => Or.inl w⟩
      · exact ⟨q, fun _ _ _ _ => Or.inr ⟨a1, a2, a4, a5, a7⟩⟩
    · exact ⟨[], fun u1 u2 u3 u4 => absurd ⟨u1, u2, u3, u4⟩ u⟩
  obtain ⟨f, hf⟩ := Classical.axiomOfChoice hq
  refine ⟨fun e c s => hrO (f (e, c)) (s - e * G0 13 5), ⟨hp3, hp4, hp1, hp2, hp5, ha0, ha1, by rw [hG.2 10 (by decide) (by decide), hp7], by rw [hG.2 11 (by decide) (by decide), hp8], by rw [hG.2 7 (by decide) (by decide), ha2], fun e c q1 q2 q3 q4 => ?_⟩, fun e c i q1 q2 q3 q4 q5 q6 q7 => ?_⟩
  · rcases hf (e, c) q1 q2 q3 q4 with w | ⟨a1, a2, a3, a4, a5⟩
    · exact Or.inl ⟨w.2, w.1⟩
    · right
      have hmu := mul_le6 (S := G0 13 5) q1 q2 hp3
      have hsw := swP_rng hR.xs hc (fs := e * G0 13 5) (p := f (e, c)) (fun q hq => by have := a1 q hq; omega)
      have hvs := vls_sw hT (fs := e * G0 13 5) hmu.1 a1 (by omega)
      change G 74 (64 * e + c) = swP G0 cost (e * G0 13 5) (f (e, c)) at a3
      change ovX GT G0 e c = vlsP GT (e * G0 13 5) (f (e, c)) at a4
      refine ⟨by omega, by omega, ?_, fun i r1 r2 => ?_⟩
      · rw [a4, hvs, a3, cdP_cdU, show (f (e, c)).length = (G0 13 5).toNat by omega]
      · have h5 := a5 i r1 r2
        have hm := hrO_mem (p := f (e, c)) (i := i) r1 (by omega)
        have hr := a1.rng _ hm
        show 0 ≤ hrO (f (e, c)) (e * G0 13 5 + i - e * G0 13 5) ∧ hrO (f (e, c)) (e * G0 13 5 + i - e * G0 13 5) ≤ 36 ∧ _ = aO (hrO (f (e, c)) (e * G0 13 5 + i - e * G0 13 5)) ∧ _ = mO (hrO (f (e, c)) (e * G0 13 5 + i - e * G0 13 5))
        rw [show e * G0 13 5 + i - e * G0 13 5 = i by omega]
        exact ⟨hr.1, hr.2, h5.1, h5.2⟩
  · rcases hf (e, c) q1 q2 q3 q4 with w | ⟨a1, a2, a3, a4, a5⟩
    · exact absurd w.1 q5
    · show hrO (f (e, c)) (e * G0 13 5 + i - e * G0 13 5) = 36 ∨ (0 ≤ hrO (f (e, c)) (e * G0 13 5 + i - e * G0 13 5) ∧ hrO (f (e, c)) (e * G0 13 5 + i - e * G0 13 5) < 36 ∧ hrO (f (e, c)) (e * G0 13 5 + i - e * G0 13 5) / 6 < G0 3 4 ∧ hrO (f (e, c)) (e * G0 13 5 + i - e * G0 13 5) % 6 < G0 0 2)
      rw [show e * G0 13 5 + i - e * G0 13 5 = i by omega]
      exact a1 _ (hrO_mem q6 (by omega))
