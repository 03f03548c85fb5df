/-! rows of pieces: what both reckon -/
theorem any_iff {P : Int → Bool} : ∀ (m : Nat) (i : Int), any P m i = true ↔ ∃ k : Int, i ≤ k ∧ k < i + m ∧ P k = true
  | 0, i => by
    rw [any]
    constructor
    · intro h
      cases h
    · rintro ⟨k, a, b, c⟩
      omega
  | m + 1, i => by
    rw [any, Bool.or_eq_true, any_iff m (i + 1)]
    constructor
    · rintro (h | ⟨k, a, b, c⟩)
      · exact ⟨i, by omega, by omega, h⟩
      · exact ⟨k, by omega, by omega, c⟩
    · rintro ⟨k, a, b, c⟩
      by_cases e : k = i
      · left
        rw [← e]
        exact c
      · right
        exact ⟨k, by omega, by omega, c⟩
theorem ffs_spec {P : Int → Bool} : ∀ (m : Nat) (i : Int), 0 ≤ i → (ffs P m i = -1 ∧ ∀ k : Int, i ≤ k → k < i + m → P k = false) ∨ (i ≤ ffs P m i ∧ ffs P m i < i + m ∧ P (ffs P m i) = true ∧ ∀ k : Int, i ≤ k → k < ffs P m i → P k = false)
  | 0, i, _ => Or.inl ⟨rfl, fun k a b => by omega⟩
  | m + 1, i, hi => by
    rw [ffs]
    by_cases e : P i = true
    · rw [if_pos e]
      exact Or.inr ⟨by omega, by omega, e, fun k a b => by omega⟩
    · rw [if_neg e]
      have e' : P i = false := by simpa using e
      rcases ffs_spec (P := P) m (i + 1) (by omega) with ⟨a, b⟩ | ⟨a, b, c, f⟩
      · refine Or.inl ⟨a, fun k q1 q2 => ?_⟩
        by_cases u : k = i
        · rw [u, e']
        · exact b k (by omega) (by omega)
      · refine Or.inr ⟨by omega, by omega, c, fun k q1 q2 => ?_⟩
        by_cases u : k = i
        · rw [u, e']
        · exact f k (by omega) q2
theorem f_and_rng2 {a b : Int} (ha : 0 ≤ a ∧ a < 1024) (hb : 0 ≤ b ∧ b < 1024) : 0 ≤ f_and a b ∧ f_and a b < 1024 := by
  rw [fi_and ha.1 (by omega) hb.1 (by omega)]
  have := @Nat.and_le_left a.toNat b.toNat
  omega
theorem tb_and2 {x y j : Int} (hx : 0 ≤ x ∧ x < 1024) (hy : 0 ≤ y ∧ y < 1024) : tb (f_and x y) j = (tb x j && tb y j) := by
  rw [fi_and hx.1 (by omega) hy.1 (by omega)]
  unfold tb
  rw [Int.toNat_natCast, Nat.testBit_and]
theorem tb_ext10 {s t : Int} (hs : 0 ≤ s ∧ s < 1024) (ht : 0 ≤ t ∧ t < 1024) (h : ∀ j : Int, 0 ≤ j → j < 10 → tb s j = tb t j) : s = t :=
  tb_ext (n := 10) hs.1 (show s < ((2 ^ 10 : Nat) : Int) by omega) ht.1 (show t < ((2 ^ 10 : Nat) : Int) by omega) h
theorem tb_hi {w j : Int} {n : Nat} (h0 : 0 ≤ w) (h1 : w < (2 ^ n : Nat)) (hj : (n : Int) ≤ j) : tb w j = false := by
  have hp : 2 ^ n ≤ 2 ^ j.toNat := Nat.pow_le_pow_right (by decide) (by omega)
  unfold tb
  exact Nat.testBit_lt_two_pow (by omega)
/-- a word's bits -/
def bx (n : Int) (P : Int → Bool) (z : Int) : Prop := 0 ≤ z ∧ z < 1024 ∧ ∀ j : Int, 0 ≤ j → j < 10 → tb z j = (decide (j < n) && P j)
theorem bx_uni {n : Int} {P : Int → Bool} {z z' : Int} (h : bx n P z) (h' : bx n P z') : z = z' :=
  tb_ext10 ⟨h.1, h.2.1⟩ ⟨h'.1, h'.2.1⟩ (fun j q1 q2 => by rw [h.2.2 j q1 q2, h'.2.2 j q1 q2])
theorem bx_cong {n : Int} {P P' : Int → Bool} {z : Int} (h : bx n P z) (e : ∀ j : Int, 0 ≤ j → j < n → P j = P' j) : bx n P' z :=
  ⟨h.1, h.2.1, fun j q1 q2 => by
    rw [h.2.2 j q1 q2]
    by_cases u : j < n
    · rw [e j q1 u]
    · rw [decide_eq_false u, Bool.false_and, Bool.false_and]⟩
theorem bx_zero {P : Int → Bool} : bx 0 P 0 := ⟨by omega, by omega, fun j q1 q2 => by rw [tb_zero, decide_eq_false (by omega), Bool.false_and]⟩
theorem bx_step {i : Int} {P : Int → Bool} {z : Int} (h : bx i P z) (h0 : 0 ≤ i) (h1 : i < 10) : bx (i + 1) P (wb z i (P i)) := by
  refine ⟨wb_nonneg _ _ _, ?_, fun j q1 q2 => ?_⟩
  · have := wb_lt (s := z) (i := i) (c := P i) (n := 10) h.1 (by have := h.2.1; omega) h0 (by omega)
    omega
  · rw [tb_wb h0 q1]
    by_cases u : j = i
    · rw [if_pos u, u, decide_eq_true (by omega), Bool.true_and]
    · rw [if_neg u, h.2.2 j q1 q2]
      congr 1
      exact decide_eq_decide.mpr (by omega)
theorem bx_skip {i : Int} {P : Int → Bool} {z : Int} (h : bx i P z) (hp : P i = false) : bx (i + 1) P z := by
  refine ⟨h.1, h.2.1, fun j q1 q2 => ?_⟩
  rw [h.2.2 j q1 q2]
  by_cases u : j = i
  · rw [u, hp, Bool.and_false, Bool.and_false]
  · congr 1
    exact decide_eq_decide.mpr (by omega)
theorem bx_ex (P : Int → Bool) : ∀ n : Nat, n ≤ 10 → ∃ z : Int, bx n P z
  | 0, _ => ⟨0, bx_zero⟩
  | n + 1, h => by
    obtain ⟨z, hz⟩ := bx_ex P n (by omega)
    exact ⟨_, bx_step hz (by omega) (by omega)⟩
set_option maxRecDepth 100000 in
theorem wb_tab : ∀ (w : Fin 1024) (p : Fin 10), w.val.testBit p.val = true → ((w.val ||| 2 ^ p.val) ^^^ 2 ^ p.val) < w.val ∧ ((w.val ||| 2 ^ p.val) ^^^ 2 ^ p.val) = w.val ^^^ 2 ^ p.val ∧ n_bc w.val = n_bc ((w.val ||| 2 ^ p.val) ^^^ 2 ^ p.val) + 1 := by decide +kernel
theorem wb_clr {w p : Int} (hw : 0 ≤ w ∧ w < 1024) (hp : 0 ≤ p ∧ p < 10) (h : tb w p = true) : 0 ≤ wb w p false ∧ wb w p false < w ∧ f_xor w (f_shl 1 p) = wb w p false ∧ n_bc w.toNat = n_bc (wb w p false).toNat + 1 := by
  obtain ⟨a, b, c⟩ := wb_tab ⟨w.toNat, by omega⟩ ⟨p.toNat, by omega⟩ h
  simp only at a b c
  have hpp : 2 ^ p.toNat < 1024 := Nat.pow_lt_pow_right (a := 2) (n := 10) (by decide) (by omega)
  have e : wb w p false = (((w.toNat ||| 2 ^ p.toNat) ^^^ 2 ^ p.toNat : Nat) : Int) := by
    unfold wb
    rw [if_neg (by decide)]
  refine ⟨wb_nonneg _ _ _, by rw [e]; omega, ?_, ?_⟩
  · rw [fi_shl hp.1 (by omega), fi_xor hw.1 (by omega) (Int.natCast_nonneg _) (show ((2 ^ p.toNat : Nat) : Int) < ((2147483648 : Nat) : Int) from Int.ofNat_lt.mpr (by omega)), e, b, Int.toNat_natCast]
  · rw [e, Int.toNat_natCast]
    exact c
set_option maxRecDepth 100000 in
theorem bc_tab : ∀ w : Fin 1024, (n_bc w.val = 0 → w.val = 0) ∧ n_bc w.val ≤ 10 ∧ (n_bc w.val : Int) = sumf (fun p => if tb (w.val : Int) p = true then 1 else 0) 10 0 := by decide +kernel
theorem bc_of {w : Int} (hw : 0 ≤ w ∧ w < 1024) : f_bc w = (n_bc w.toNat : Int) ∧ (n_bc w.toNat = 0 → w = 0) ∧ n_bc w.toNat ≤ 10 ∧ (n_bc w.toNat : Int) = sumf (fun p => if tb w p = true then 1 else 0) 10 0 := by
  have h1 := f_bc_eq ⟨w.toNat, by omega⟩
  have h2 := bc_tab ⟨w.toNat, by omega⟩
  simp only [Int.toNat_of_nonneg hw.1] at h1 h2
  exact ⟨h1, fun q => by have := h2.1 q; omega, h2.2.1, h2.2.2⟩
def lb (z : Int) : Int := ffs (tb z) 10 0
theorem lb_spec {z : Int} (hz : 0 ≤ z ∧ z < 1024) (h : z ≠ 0) : 0 ≤ lb z ∧ lb z < 10 ∧ tb z (lb z) = true ∧ ∀ k : Int, 0 ≤ k → k < lb z → tb z k = false := by
  rcases ffs_spec (P := tb z) 10 0 (by omega) with ⟨a, b⟩ | ⟨a, b, c, d⟩
  · exfalso
    apply h
    refine tb_ext10 hz ⟨by omega, by omega⟩ (fun j q1 q2 => ?_)
    rw [tb_zero, b j q1 (by omega)]
  · exact ⟨a, by unfold lb; omega, c, d⟩
def pfs (n : Int) (fo : Int → Int → Bool) (F : Int → Int) (w p : Int) : Bool := tb w p && (decide (wb w p false = 0) || any (fun q => tb (F (wb w p false)) q && fo p q) n.toNat 0)
theorem pfs_cong {n : Int} {fo : Int → Int → Bool} {F F' : Int → Int} {w p : Int} (hw : 0 ≤ w ∧ w < 1024) (hp : 0 ≤ p ∧ p < 10) (h : ∀ x : Int, 0 ≤ x → x < w → F x = F' x) : pfs n fo F w p = pfs n fo F' w p := by
  unfold pfs
  by_cases u : tb w p = true
  · obtain ⟨a, b, -, -⟩ := wb_clr hw hp u
    rw [h _ a b]
  · have u' : tb w p = false := by simpa using u
    rw [u', Bool.false_and, Bool.false_and]
theorem fr_ex {n : Int} (hn : 0 ≤ n ∧ n ≤ 10) (fo : Int → Int → Bool) : ∀ N : Nat, N ≤ 1024 → ∃ F : Int → Int, F 0 = 0 ∧ ∀ w : Int, 1 ≤ w → w < N → bx n (pfs n fo F w) (F w)
  | 0, _ => ⟨fun _ => 0, rfl, fun w a b => by omega⟩
  | N + 1, hN => by
    obtain ⟨F, h0, hF⟩ := fr_ex hn fo N (by omega)
    by_cases u : N = 0
    · exact ⟨F, h0, fun w a b => by omega⟩
    · obtain ⟨z, hz⟩ := bx_ex (pfs n fo F N) n.toNat (by omega)
      rw [Int.toNat_of_nonneg hn.1] at hz
      refine ⟨fun x => if x = N then z else F x, (by show (if (0 : Int) = N then z else F 0) = 0; rw [if_neg (by omega), h0]), fun w a b => ?_⟩
      have hc : ∀ p : Int, 0 ≤ p → p < n → pfs n fo F w p = pfs n fo (fun x => if x = N then z else F x) w p := fun p q1 q2 => pfs_cong (by omega) (by omega) (fun x r1 r2 => by show F x = if x = N then z else F x; rw [if_neg (by omega)])
      show bx n (pfs n fo (fun x => if x = N then z else F x) w) (if w = N then z else F w)
      by_cases e : w = N
      · rw [if_pos e]
        refine bx_cong ?_ hc
        rw [e]
        exact hz
      · rw [if_neg e]
        exact bx_cong (hF w a (by omega)) hc
/-- firsts and followers of all sets -/
def EN (n : Int) (fo : Int → Int → Bool) (F fw : Int → Int) : Prop := 0 ≤ n ∧ n ≤ 10 ∧ F 0 = 0 ∧ (∀ w : Int, 1 ≤ w → w < 1024 → bx n (pfs n fo F w) (F w)) ∧ ∀ p : Int, 0 ≤ p → p < n → bx n (fo p) (fw p)
theorem en_ex {n : Int} (hn : 0 ≤ n ∧ n ≤ 10) (fo : Int → Int → Bool) : ∃ F fw : Int → Int, EN n fo F fw := by
  obtain ⟨F, h0, hF⟩ := fr_ex hn fo 1024 (by omega)
  have hq : ∀ p : Int, ∃ z : Int, bx n (fo p) z := fun p => by
    obtain ⟨z, hz⟩ := bx_ex (fo p) n.toNat (by omega)
    rw [Int.toNat_of_nonneg hn.1] at hz
    exact ⟨z, hz⟩
  obtain ⟨fw, hfw⟩ := Classical.axiomOfChoice hq
  exact ⟨F, fw, hn.1, hn.2, h0, hF, fun p _ _ => hfw p⟩
theorem EN.rng {n : Int} {fo : Int → Int → Bool} {F fw : Int → Int} (h : EN n fo F fw) {w : Int} (hw : 0 ≤ w ∧ w < 1024) : 0 ≤ F w ∧ F w < 1024 := by
  by_cases u : w = 0
  · rw [u, h.2.2.1]
    omega
  · have := h.2.2.2.1 w (by omega) (by omega)
    exact ⟨this.1, this.2.1⟩
def rws (F fw : Int → Int) : Nat → Int → Int → List Int
  | 0, _, _ => []
  | k + 1, w, z => lb z :: rws F fw k (wb w (lb z) false) (f_and (F (wb w (lb z) false)) (fw (lb z)))
def GW (F : Int → Int) (w z : Int) : Prop := (0 ≤ w ∧ w < 1024) ∧ (0 ≤ z ∧ z < 1024) ∧ (∀ q : Int, 0 ≤ q → q < 10 → tb z q = true → tb (F w) q = true) ∧ (w = 0 ↔ z = 0)
theorem gw_first {n : Int} {fo : Int → Int → Bool} {F fw : Int → Int} (h : EN n fo F fw) {w : Int} (hw : 1 ≤ w ∧ w < 1024) (hf : F w ≠ 0) : GW F w (F w) :=
  ⟨⟨by omega, hw.2⟩, h.rng ⟨by omega, hw.2⟩, fun _ _ _ q => q, by omega⟩
theorem gw_step {n : Int} {fo : Int → Int → Bool} {F fw : Int → Int} (h : EN n fo F fw) {w z : Int} (hG : GW F w z) (hw : w ≠ 0) :
    0 ≤ lb z ∧ lb z < n ∧ tb z (lb z) = true ∧ tb w (lb z) = true ∧ (∀ k : Int, 0 ≤ k → k < lb z → tb z k = false) ∧ GW F (wb w (lb z) false) (f_and (F (wb w (lb z) false)) (fw (lb z))) ∧ n_bc w.toNat = n_bc (wb w (lb z) false).toNat + 1 ∧ f_xor w (f_shl 1 (lb z)) = wb w (lb z) false ∧ wb w (lb z) false < w := by
  obtain ⟨h1, h2, h3, h4⟩ := hG
  obtain ⟨l1, l2, l3, l4⟩ := lb_spec h2 (fun e => hw (h4.mpr e))
  generalize lb z = p at *
  have hb := (h.2.2.2.1 w (by omega) (by omega)).2.2 p l1 l2
  rw [h3 p l1 l2 l3] at hb
  have hb' := hb.symm
  rw [Bool.and_eq_true, decide_eq_true_iff] at hb'
  obtain ⟨hpn, hpf⟩ := hb'
  unfold pfs at hpf
  rw [Bool.and_eq_true, Bool.or_eq_true, decide_eq_true_iff] at hpf
  obtain ⟨htw, hor⟩ := hpf
  obtain ⟨c1, c2, c3, c4⟩ := wb_clr h1 ⟨l1, l2⟩ htw
  have hFr := h.rng (w := wb w p false) ⟨c1, by omega⟩
  have hfw := h.2.2.2.2 p l1 hpn
  have har := f_and_rng2 hFr ⟨hfw.1, hfw.2.1⟩
  refine ⟨l1, hpn, l3, htw, l4, ⟨⟨c1, by omega⟩, har, fun q q1 q2 q3 => ?_, ?_⟩, c4, c3, c2⟩
  · rw [tb_and2 hFr ⟨hfw.1, hfw.2.1⟩, Bool.and_eq_true] at q3
    exact q3.1
  · constructor
    · intro e
      rw [e, h.2.2.1]
      have h00 := f_and_rng2 (a := 0) (b := fw p) ⟨by omega, by omega⟩ ⟨hfw.1, hfw.2.1⟩
      exact tb_ext10 h00 ⟨by omega, by omega⟩ (fun j q1 q2 => by rw [tb_and2 ⟨by omega, by omega⟩ ⟨hfw.1, hfw.2.1⟩, tb_zero, Bool.false_and])
    · intro e
      rcases hor with e' | e'
      · exact e'
      · exfalso
        obtain ⟨k, k1, k2, k3⟩ := (any_iff _ _).mp e'
        have hk : tb (f_and (F (wb w p false)) (fw p)) k = true := by
          rw [tb_and2 hFr ⟨hfw.1, hfw.2.1⟩, hfw.2.2 k k1 (by have := h.1; have := h.2.1; omega), decide_eq_true (by have := h.1; omega), Bool.true_and]
          exact k3
        rw [e, tb_zero] at hk
        cases hk
theorem rws_len {F fw : Int → Int} : ∀ (k : Nat) (w z : Int), (rws F fw k w z).length = k
  | 0, _, _ => rfl
  | k + 1, w, z => by rw [rws, List.length_cons, rws_len k]
theorem rws_dig {n : Int} {fo : Int → Int → Bool} {F fw : Int → Int} (h : EN n fo F fw) : ∀ (k : Nat) (w z : Int), GW F w z → n_bc w.toNat = k → ∀ d ∈ rws F fw k w z, 0 ≤ d ∧ d < n
  | 0, _, _, _, _, d, hd => by simp [rws] at hd
  | k + 1, w, z, hG, hk, d, hd => by
    have hw : w ≠ 0 := by
      intro e
      have h00 : n_bc (Int.toNat 0) = 0 := by decide
      rw [e] at hk
      omega
    obtain ⟨s1, s2, s3, s4, s5, s6, s7, s8, s9⟩ := gw_step h hG hw
    rw [rws] at hd
    rcases List.mem_cons.mp hd with e | e
    · rw [e]
      exact ⟨s1, s2⟩
    · exact rws_dig h k _ _ s6 (by omega) d e
/-- digits as a number -/
def nm : Int → List Int → Int
  | a, [] => a
  | a, d :: l => nm (10 * a + d) l
theorem nm_lt : ∀ (l m : List Int) (a b : Int), a < b → l.length = m.length → (∀ d ∈ l, 0 ≤ d ∧ d < 10) → (∀ d ∈ m, 0 ≤ d ∧ d < 10) → nm a l < nm b m
  | [], [], a, b, h, _, _, _ => h
  | [], _ :: _, _, _, _, h, _, _ => by simp at h
  | _ :: _, [], _, _, _, h, _, _ => by simp at h
  | d :: l, e :: m, a, b, h, hl, h1, h2 => by
    have d1 := h1 d List.mem_cons_self
    have d2 := h2 e List.mem_cons_self
    exact nm_lt l m _ _ (by omega) (by simpa using hl) (fun x hx => h1 x (List.mem_cons_of_mem _ hx)) (fun x hx => h2 x (List.mem_cons_of_mem _ hx))
def lx : List Int → List Int → Bool
  | a :: l, b :: m => if a = b then lx l m else decide (a < b)
  | _, _ => false
theorem lx_nm : ∀ (l m : List Int) (a : Int), l.length = m.length → (∀ d ∈ l, 0 ≤ d ∧ d < 10) → (∀ d ∈ m, 0 ≤ d ∧ d < 10) → lx l m = decide (nm a l < nm a m)
  | [], [], a, _, _, _ => by rw [lx, decide_eq_false (by omega)]; simp
  | [], _ :: _, _, h, _, _ => by simp at h
  | _ :: _, [], _, h, _, _ => by simp at h
  | d :: l, e :: m, a, hl, h1, h2 => by
    have d1 := h1 d List.mem_cons_self
    have d2 := h2 e List.mem_cons_self
    have hl' : l.length = m.length := by simpa using hl
    have g1 : ∀ x ∈ l, 0 ≤ x ∧ x < 10 := fun x hx => h1 x (List.mem_cons_of_mem _ hx)
    have g2 : ∀ x ∈ m, 0 ≤ x ∧ x < 10 := fun x hx => h2 x (List.mem_cons_of_mem _ hx)
    rw [lx, nm, nm]
    by_cases u : d = e
    · rw [if_pos u, u]
      exact lx_nm l m _ hl' g1 g2
    · rw [if_neg u]
      by_cases v : d < e
      · rw [decide_eq_true v, decide_eq_true (nm_lt l m _ _ (by omega) hl' g1 g2)]
      · have := nm_lt m l (10 * a + e) (10 * a + d) (by omega) hl'.symm g2 g1
        rw [decide_eq_false v, decide_eq_false (by omega)]
theorem nm_rng : ∀ (l : List Int) (a : Int) (A : Nat), 0 ≤ a → a < A → (∀ d ∈ l, 0 ≤ d ∧ d < 10) → 0 ≤ nm a l ∧ nm a l < (A * 10 ^ l.length : Nat)
  | [], a, A, h0, h1, _ => by simpa [nm] using ⟨h0, h1⟩
  | d :: l, a, A, h0, h1, h => by
    have d1 := h d List.mem_cons_self
    have := nm_rng l (10 * a + d) (10 * A) (by omega) (by omega) (fun x hx => h x (List.mem_cons_of_mem _ hx))
    rw [nm, List.length_cons, Nat.pow_succ, show A * (10 ^ l.length * 10) = 10 * A * 10 ^ l.length by rw [Nat.mul_comm (10 ^ l.length) 10, ← Nat.mul_assoc, Nat.mul_comm A 10]]
    exact this
/-- the search of the best set -/
def swf (f : Int → Int) (n w : Int) : Int := sumf (fun p => if tb w p = true then f p else 0) n.toNat 0
def rowOf (F fw : Int → Int) (w : Int) : List Int := rws F fw (n_bc w.toNat) w (F w)
def okW (n : Int) (F : Int → Int) (rdy im : Int → Bool) (mn : Int → Int) (mm w : Int) : Bool := (!any (fun p => tb w p && !rdy p) n.toNat 0) && (decide (F w ≠ 0) && (decide (swf (fun p => if im p = true then 1 else 0) n w = 1) && decide (swf mn n w ≤ mm)))
def btr (n : Int) (F fw lk : Int → Int) (w b : Int) : Bool := if b = 0 then true else if swf lk n w ≠ swf lk n b then decide (swf lk n b < swf lk n w) else if n_bc w.toNat ≠ n_bc b.toNat then decide (n_bc w.toNat < n_bc b.toNat) else lx (rowOf F fw w) (rowOf F fw b)
def bst (P : Int → Bool) (B : Int → Int → Bool) : Nat → Int → Int → Int
  | 0, _, b => b
  | m + 1, w, b => bst P B m (w + 1) (if (P w && B w b) = true then w else b)
