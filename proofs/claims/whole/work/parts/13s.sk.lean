/-! the cells of the class and of the reference, by their places -/
def SKG : SK := [(0, 2, [2, 3, 0, 0]), (1, 6, []), (1, 6, []), (0, 0, [5, 6, 7, 0, 0]), (1, 6, []), (1, 6, []), (4, 6, [7, 8, 9, 10, 11, 12]), (1, 6, []), (1, 6, []), (1, 6, []), (1, 6, []), (1, 6, []), (1, 6, []), (0, 5, [1, 4, 15, 16, 0, 0, 0]), (1, 6, []), (1, 6, []), (0, 4, [1, 4, 14, 18, 25, 29, 30, 31, 32, 33, 0]), (5, 6, [18, 19, 20, 21, 22, 23]), (3, 37, []), (3, 37, []), (3, 37, []), (3, 37, []), (3, 37, []), (3, 37, []), (4, 3, [25, 26, 27]), (1, 36, []), (1, 36, []), (1, 36, []), (1, 3, []), (1, 6, []), (1, 6, []), (3, 64, []), (3, 64, []), (0, 3, [1, 35, 36, 37, 38, 39, 40, 41, 0, 0, 0, 0]), (1, 10, []), (1, 10, []), (1, 10, []), (1, 10, []), (1, 10, []), (1, 10, []), (1, 1024, []), (0, 1, [4, 43, 51, 52, 53]), (4, 7, [43, 44, 45, 46, 47, 48, 49]), (1, 6, []), (1, 6, []), (1, 6, []), (1, 6, []), (1, 6, []), (1, 6, []), (1, 6, []), (1, 7, []), (1, 7, []), (1, 6, []), (0, 6, [1, 4, 14, 17, 34, 42]), (0, 7, [56, 57, 0, 58, 59, 60, 61, 0, 0, 0, 0, 0, 62, 63, 64, 65, 66, 67, 68, 0, 69, 0, 70, 71, 72, 0, 73, 74, 75, 76, 77, 78, 79, 0, 80, 81, 82]), (1, 6, []), (1, 6, []), (1, 6, []), (2, 6, []), (1, 36, []), (2, 36, []), (1, 6, []), (1, 6, []), (1, 10, []), (1, 10, []), (1, 10, []), (2, 10, []), (1, 10, []), (1, 10, []), (1, 42, []), (1, 7, []), (2, 42, []), (1, 6, []), (1, 6, []), (1, 192, []), (1, 576, []), (1, 576, []), (1, 3, []), (1, 3, []), (1, 1024, []), (1, 10, []), (1, 10, [])]
theorem row_7 {i : Int} (h0 : 0 ≤ i) (h1 : i < 6) : SKG[7 + i.toNat]? = some (1, 6, []) := by
  rcases (show i = 0 ∨ i = 1 ∨ i = 2 ∨ i = 3 ∨ i = 4 ∨ i = 5 by omega) with rfl | rfl | rfl | rfl | rfl | rfl <;> rfl
theorem aa_7 {i : Int} (h0 : 0 ≤ i) (h1 : i < 6) : ([7, 8, 9, 10, 11, 12] : List Nat)[i.toNat]? = some (7 + i.toNat) := by
  rcases (show i = 0 ∨ i = 1 ∨ i = 2 ∨ i = 3 ∨ i = 4 ∨ i = 5 by omega) with rfl | rfl | rfl | rfl | rfl | rfl <;> rfl
theorem row_18 {i : Int} (h0 : 0 ≤ i) (h1 : i < 6) : SKG[18 + i.toNat]? = some (3, 37, []) := by
  rcases (show i = 0 ∨ i = 1 ∨ i = 2 ∨ i = 3 ∨ i = 4 ∨ i = 5 by omega) with rfl | rfl | rfl | rfl | rfl | rfl <;> rfl
theorem aa_18 {i : Int} (h0 : 0 ≤ i) (h1 : i < 6) : ([18, 19, 20, 21, 22, 23] : List Nat)[i.toNat]? = some (18 + i.toNat) := by
  rcases (show i = 0 ∨ i = 1 ∨ i = 2 ∨ i = 3 ∨ i = 4 ∨ i = 5 by omega) with rfl | rfl | rfl | rfl | rfl | rfl <;> rfl
theorem row_25 {i : Int} (h0 : 0 ≤ i) (h1 : i < 3) : SKG[25 + i.toNat]? = some (1, 36, []) := by
  rcases (show i = 0 ∨ i = 1 ∨ i = 2 by omega) with rfl | rfl | rfl <;> rfl
theorem aa_25 {i : Int} (h0 : 0 ≤ i) (h1 : i < 3) : ([25, 26, 27] : List Nat)[i.toNat]? = some (25 + i.toNat) := by
  rcases (show i = 0 ∨ i = 1 ∨ i = 2 by omega) with rfl | rfl | rfl <;> rfl
theorem row_43 {i : Int} (h0 : 0 ≤ i) (h1 : i < 7) : SKG[43 + i.toNat]? = some (1, 6, []) := by
  rcases (show i = 0 ∨ i = 1 ∨ i = 2 ∨ i = 3 ∨ i = 4 ∨ i = 5 ∨ i = 6 by omega) with rfl | rfl | rfl | rfl | rfl | rfl | rfl <;> rfl
theorem aa_43 {i : Int} (h0 : 0 ≤ i) (h1 : i < 7) : ([43, 44, 45, 46, 47, 48, 49] : List Nat)[i.toNat]? = some (43 + i.toNat) := by
  rcases (show i = 0 ∨ i = 1 ∨ i = 2 ∨ i = 3 ∨ i = 4 ∨ i = 5 ∨ i = 6 by omega) with rfl | rfl | rfl | rfl | rfl | rfl | rfl <;> rfl
