/-! one option behind another -/
def fMo (G0 GT : AG) (cost z0 e fs : Int) (k : Nat) (p : List Int) (x : T3) (o : Int) : T3 := if (ok1 G0 p.length o && okX GT z0 p o) = true then enM G0 GT cost z0 e fs k (o :: p) x else x
def loM (G0 GT : AG) (cost z0 e fs : Int) (k : Nat) (p : List Int) : Nat → Int → T3 → T3
  | 0, _, x => x
  | n + 1, o, x => loM G0 GT cost z0 e fs k p n (o + 1) (fMo G0 GT cost z0 e fs k p x o)
theorem lo_rl {G0 GT : AG} {cost z0 e fs : Int} {k : Nat} {p : List Int} : ∀ (n : Nat) (o : Int) (x : T3), (rl (ok1 G0 p.length) n o).foldl (fun x o => if okX GT z0 p o = true then enM G0 GT cost z0 e fs k (o :: p) x else x) x = loM G0 GT cost z0 e fs k p n o x
  | 0, _, _ => rfl
  | n + 1, o, x => by
    rw [rl, loM, fMo]
    by_cases e1 : ok1 G0 p.length o = true
    · rw [if_pos e1, List.foldl_cons, lo_rl n (o + 1)]
      by_cases e2 : okX GT z0 p o = true
      · rw [if_pos e2, if_pos (by rw [e1, e2]; rfl)]
      · rw [if_neg e2, if_neg (by simp [e2])]
    · rw [if_neg e1, lo_rl n (o + 1), if_neg (by simp [e1])]
theorem lo_skip {G0 GT : AG} {cost z0 e fs : Int} {k : Nat} {p : List Int} {x : T3} : ∀ (j n : Nat) (o : Int), (∀ q : Int, o ≤ q → q < o + j → (ok1 G0 p.length q && okX GT z0 p q) = false) → loM G0 GT cost z0 e fs k p (j + n) o x = loM G0 GT cost z0 e fs k p n (o + j) x
  | 0, n, o, _ => by simp
  | j + 1, n, o, h => by
    rw [show j + 1 + n = j + n + 1 by omega, loM, fMo, if_neg (by rw [h o (by omega) (by omega)]; decide), lo_skip j n (o + 1) (fun q q1 q2 => h q (by omega) (by omega)), show o + 1 + (j : Int) = o + ((j + 1 : Nat) : Int) by omega]
theorem ok1_no {G0 : AG} (hR : Rel G0) {h o : Int} (h0 : 0 ≤ o) (h1 : o < 36) (hn : G0 3 4 ≤ o / 6 ∨ G0 0 2 ≤ o % 6) : ok1 G0 h o = false := by
  obtain ⟨ha0, ha1, ha2, ha3, ha4, ha5, ha6⟩ := id hR.2.1
  have g := ha6 (o / 6) (o % 6) (by omega) (by omega) (by omega) (by omega)
  have hz : lkX G0 o = 0 := by
    by_cases u : lkX G0 o = 0
    · exact u
    · have := g.2.2.2.1 u
      omega
  simp [ok1, hz]
