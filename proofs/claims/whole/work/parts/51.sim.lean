theorem cd_lt {G0 : AG} {fs S : Int} (h0 : 0 ≤ fs) (hS : 1 ≤ S ∧ S ≤ 3) (hf : fs + S ≤ 6) (q : List Int) (hq : PO G0 q) (hl : (q.length : Int) = S) : cdP fs q < 2565726409 := by
  cases q with
  | nil => simp at hl; omega
  | cons b q =>
    have hr := rcd_rng hq.rng
    simp only [List.length_cons] at hl hr
    rw [cdP_rcd h0 b q (by omega)]
    generalize rcd (b :: q) = R at hr
    have el : fs + (q.length : Int) = fs + S - 1 := by omega
    rw [el]
    rcases (show S = 1 ∨ S = 2 ∨ S = 3 by omega) with rfl | rfl | rfl
    · have e : q.length = 0 := by omega
      rw [e] at hr
      have h1 : R ≤ 36 := by simp at hr; omega
      have hp := @f_pl_pos (fs + 1 - 1)
      have := Int.mul_le_mul h1 hp.2 (by omega) (by omega)
      omega
    · have e : q.length = 1 := by omega
      rw [e] at hr
      have h1 : R ≤ 1368 := by simp at hr; omega
      have hp : 1 ≤ f_pl (fs + 2 - 1) ∧ f_pl (fs + 2 - 1) ≤ 1874161 := by
        rcases (show fs = 0 ∨ fs = 1 ∨ fs = 2 ∨ fs = 3 ∨ fs = 4 by omega) with rfl | rfl | rfl | rfl | rfl <;> decide
      have := Int.mul_le_mul h1 hp.2 (by omega) (by omega)
      omega
    · have e : q.length = 2 := by omega
      rw [e] at hr
      have h1 : R ≤ 50652 := by simp at hr; omega
      have hp : 1 ≤ f_pl (fs + 3 - 1) ∧ f_pl (fs + 3 - 1) ≤ 50653 := by
        rcases (show fs = 0 ∨ fs = 1 ∨ fs = 2 ∨ fs = 3 by omega) with rfl | rfl | rfl | rfl <;> decide
      have := Int.mul_le_mul h1 hp.2 (by omega) (by omega)
      omega
