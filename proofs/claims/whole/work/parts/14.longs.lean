/-! longs that are whole numbers -/
def iL (z : Int) : Int64 := Int64.ofInt z
theorem iL_add (a b : Int) : iL a + iL b = iL (a + b) := (Int64.ofInt_add a b).symm
theorem iL_0 : iL 0 = 0 := rfl
theorem iL_toInt {a : Int} (h : -4611686018427387904 ≤ a) (h2 : a ≤ 4611686018427387904) : (iL a).toInt = a := Int64.toInt_ofInt_of_le (by omega) (by omega)
theorem iL_lt {a b : Int} (h : -4611686018427387904 ≤ a) (h2 : a ≤ 4611686018427387904) (h3 : -4611686018427387904 ≤ b) (h4 : b ≤ 4611686018427387904) : iL a < iL b ↔ a < b := by
  rw [Int64.lt_iff_toInt_lt, iL_toInt h h2, iL_toInt h3 h4]
theorem iL_le {a b : Int} (h : -4611686018427387904 ≤ a) (h2 : a ≤ 4611686018427387904) (h3 : -4611686018427387904 ≤ b) (h4 : b ≤ 4611686018427387904) : iL a ≤ iL b ↔ a ≤ b := by
  rw [Int64.le_iff_toInt_le, iL_toInt h h2, iL_toInt h3 h4]
