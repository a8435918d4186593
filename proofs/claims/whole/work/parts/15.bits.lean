/-! labels in the bits of an int; sums of weights -/
def lb_at (x : Int32) (w : Nat) : Nat := x.toBitVec.toNat / 2 ^ (2 * w) % 4
theorem lb_sh : ∀ w, w < 16 → (((nI (2 * w)).toUInt32 &&& Int32.toUInt32 31).toBitVec % 32).toNat = 2 * w := by decide
theorem lb_u (x : Int32) {w : Nat} (hw : w < 16) : ((x.toUInt32 >>> ((nI (2 * w)).toUInt32 &&& Int32.toUInt32 31)).toInt32 &&& nI 3) = nI (lb_at x w) := by
  rw [pk_and _ (m := nI 3) 2 (by decide), pk_ushr x (nI (2 * w)) (2 * w) (lb_sh w hw)]
  rfl
theorem lb_lt (x : Int32) (w : Nat) : lb_at x w < 4 := Nat.mod_lt _ (by decide)
theorem lb_nI {c : Nat} (h : c < 4294967296) (w : Nat) : lb_at (nI c) w = c / 4 ^ w % 4 := by
  rw [lb_at, pk_tn (by omega), Nat.pow_mul]
theorem lb_ss : ∀ w, w < 16 → ((nI (2 * w) &&& 31).toBitVec.smod 32).toNat = 2 * w := by decide
theorem lb_cond (y : Int32) : y.toInt = (y.toBitVec.toNat : Int) ∨ y.toInt = (y.toBitVec.toNat : Int) - 4294967296 := by
  rw [← Int32.toInt_toBitVec, BitVec.toInt_eq_toNat_cond]
  by_cases h : 2 * y.toBitVec.toNat < 2 ^ 32
  · simp [h]
  · simp [h]
theorem lb_s (x : Int32) {w : Nat} (hw : w < 6) : ((x >>> (nI (2 * w) &&& 31)) &&& nI 3) = nI (lb_at x w) := by
  rw [pk_and _ (m := nI 3) 2 (by decide)]
  congr 1
  have h1 := pk_shr x (nI (2 * w) &&& 31) (2 * w) (lb_ss w (by omega))
  have h2 := lb_cond (x >>> (nI (2 * w) &&& 31))
  have h3 := lb_cond x
  rw [Int.shiftRight_eq_div_pow] at h1
  simp only [lb_at]
  generalize (x >>> (nI (2 * w) &&& 31)).toInt = a at h1 h2
  generalize (x >>> (nI (2 * w) &&& 31)).toBitVec.toNat = b at h2 ⊢
  generalize x.toInt = c at h1 h3
  generalize x.toBitVec.toNat = e at h3 ⊢
  have h4 : w = 0 ∨ w = 1 ∨ w = 2 ∨ w = 3 ∨ w = 4 ∨ w = 5 := by omega
  rcases h4 with rfl | rfl | rfl | rfl | rfl | rfl <;> simp at h1 ⊢ <;> omega
/-- what a word's label weighs, k features of it -/
def wd_S (wt : Nat → Int) (B : Nat → Nat) (l : Nat) : Nat → Int
  | 0 => 0
  | k + 1 => wd_S wt B l k + wt (B k * 4 + l)
def wd_W (wt : Nat → Int) (B : Nat → Nat) (w l : Nat) : Int := wd_S wt (fun k => B (w * 3 + k)) l 3
/-- the row of the first weight of word w -/
def wd_r (g : Nat → Nat) (w : Nat) : Nat := if w = 0 then 32 else 33 + g (w - 1)
/-- what labels weigh -/
def wd_T (wt : Nat → Int) (B : Nat → Nat) (g : Nat → Nat) : Nat → Int
  | 0 => 0
  | w + 1 => wd_T wt B g w + (wt (wd_r g w * 4 + g w) + wd_W wt B w (g w))
theorem wd_r_s (g : Nat → Nat) (w : Nat) : wd_r g (w + 1) = 33 + g w := by simp [wd_r]
theorem wd_r_lt {g : Nat → Nat} (hg : ∀ w, g w < 4) (w : Nat) : wd_r g w < 37 := by
  unfold wd_r
  by_cases h : w = 0
  · simp [h]
  · have := hg (w - 1)
    simp [h]; omega
theorem ct_r_eq (g : Nat → Nat) (w : Nat) : ct_r g w = wd_r g w * 4 + g w := rfl
