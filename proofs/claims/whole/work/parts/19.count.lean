/-! counts of bits -/
def f_bc (x : Int) : Int := let a := x - f_and (f_ushr x 1) 1431655765; let b := f_and a 858993459 + f_and (f_ushr a 2) 858993459; let c := f_and (b + f_ushr b 4) 252645135; let e := c + f_ushr c 8; f_and (e + f_ushr e 16) 63
theorem c_bitCount {d : Nat} {G : AG} {x : Int} : Ret d 112 [vI x] G (some (vI (f_bc x))) G := by
  unfold Ret
  simp (disch := omega) only [reduceIte, Bool.false_eq_true, p_112_0, p_112_1, p_112_2, p_112_3, p_112_4, p_112_7, p_112_8, p_112_9, p_112_10, p_112_11, p_112_14, p_112_15, p_112_16, p_112_17, p_112_18, p_112_21, p_112_22, p_112_23, p_112_24, p_112_25, p_112_26, p_112_27, p_112_28, p_112_29, p_112_32, p_112_33, p_112_34, p_112_35, p_112_36, p_112_38, p_112_39, p_112_40, p_112_41, p_112_42, p_112_43, p_112_45, p_112_46, p_112_47, p_112_48, p_112_49, p_112_51, p_112_52]
  exact ⟨rfl, trivial⟩
def n_bc (n : Nat) : Nat := (List.range 12).foldl (fun s i => if n.testBit i then s + 1 else s) 0
set_option maxRecDepth 100000 in
theorem f_bc_eq : ∀ n : Fin 4096, f_bc (n.val : Int) = (n_bc n.val : Int) := by decide +kernel
