/-! pure: c added at each place of a row of places -/
def ct_ad (w : Nat → Int) (c : Int) (is : List Nat) : Nat → Int := fun j => w j + c * (is.count j : Nat)
theorem ct_ad_nil (w : Nat → Int) (c : Int) : ct_ad w c [] = w := by
  funext j; simp [ct_ad]
theorem ct_ad_snoc (w : Nat → Int) (c : Int) (is : List Nat) (i : Nat) : ct_ad w c (is ++ [i]) = fun j => if j = i then ct_ad w c is i + c else ct_ad w c is j := by
  funext j
  by_cases h : j = i
  · subst h
    simp only [ct_ad, List.count_append, List.count_singleton, if_true, beq_self_eq_true]
    push_cast
    rw [Int.mul_add, Int.mul_one]
    omega
  · have h1 : ¬ (i == j) = true := by simp; exact fun e => h e.symm
    simp [ct_ad, List.count_append, List.count_singleton, h, h1]
theorem ct_ad_app (w : Nat → Int) (c : Int) (is js : List Nat) : ct_ad (ct_ad w c is) c js = ct_ad w c (is ++ js) := by
  funext j
  simp only [ct_ad, List.count_append]
  push_cast
  rw [Int.mul_add]
  omega
/-- the place of a word's first weight (its label first, or behind the label before) -/
def ct_r (g : Nat → Nat) (w : Nat) : Nat := (if w = 0 then 32 else 33 + g (w - 1)) * 4 + g w
/-- the places of n words in the order of the class, and of the reference -/
def ct_C (b : Nat → Nat → Nat) (g : Nat → Nat) (n : Nat) : List Nat := (List.range n).flatMap (fun w => [ct_r g w, b w 0 * 4 + g w, b w 1 * 4 + g w, b w 2 * 4 + g w])
def ct_M (b : Nat → Nat → Nat) (g : Nat → Nat) (n : Nat) : List Nat := (List.range n).flatMap (fun w => [b w 0 * 4 + g w, b w 1 * 4 + g w, b w 2 * 4 + g w, ct_r g w])
theorem ct_C_succ (b : Nat → Nat → Nat) (g : Nat → Nat) (n : Nat) : ct_C b g (n + 1) = ct_C b g n ++ [ct_r g n, b n 0 * 4 + g n, b n 1 * 4 + g n, b n 2 * 4 + g n] := by
  simp [ct_C, List.range_succ, List.flatMap_append]
theorem ct_M_succ (b : Nat → Nat → Nat) (g : Nat → Nat) (n : Nat) : ct_M b g (n + 1) = ct_M b g n ++ [b n 0 * 4 + g n, b n 1 * 4 + g n, b n 2 * 4 + g n, ct_r g n] := by
  simp [ct_M, List.range_succ, List.flatMap_append]
theorem ct_same (b : Nat → Nat → Nat) (g : Nat → Nat) (n j : Nat) : (ct_C b g n).count j = (ct_M b g n).count j := by
  induction n with
  | zero => rfl
  | succ n ih =>
    rw [ct_C_succ, ct_M_succ, List.count_append, List.count_append, ih]
    simp only [List.count_cons, List.count_nil]
    omega
theorem ct_ad_same (w : Nat → Int) (c : Int) (b : Nat → Nat → Nat) (g : Nat → Nat) (n : Nat) : ct_ad w c (ct_C b g n) = ct_ad w c (ct_M b g n) := by
  funext j
  simp only [ct_ad, ct_same]
theorem ct_C_congr {b b' : Nat → Nat → Nat} {g g' : Nat → Nat} : ∀ n, (∀ w, w < n → g w = g' w) → (∀ w k, w < n → k < 3 → b w k = b' w k) → ct_C b g n = ct_C b' g' n := by
  intro n
  induction n with
  | zero => intro _ _; rfl
  | succ n ih =>
    intro h1 h2
    have e : ct_r g n = ct_r g' n := by
      unfold ct_r
      by_cases h0 : n = 0
      · simp [h0]; rw [← h0]; exact h1 n (by omega)
      · simp [h0]; rw [h1 n (by omega), h1 (n - 1) (by omega)]
    rw [ct_C_succ, ct_C_succ, ih (fun w hw => h1 w (by omega)) (fun w k hw hk => h2 w k (by omega) hk), e, h1 n (by omega), h2 n 0 (by omega) (by omega), h2 n 1 (by omega) (by omega), h2 n 2 (by omega) (by omega)]
theorem ct_len (b : Nat → Nat → Nat) (g : Nat → Nat) (n : Nat) : (ct_C b g n).length = 4 * n := by
  induction n with
  | zero => rfl
  | succ n ih => rw [ct_C_succ, List.length_append, ih]; simp; omega
theorem ct_abs {w : Nat → Int} {B : Int} {is : List Nat} (c : Int) (hc : c = 1 ∨ c = -1) (h : ∀ j, -B ≤ w j ∧ w j ≤ B) (hl : is.length ≤ 24) : ∀ j, -(B + 24) ≤ ct_ad w c is j ∧ ct_ad w c is j ≤ B + 24 := by
  intro j
  have h1 := h j
  have h2 : is.count j ≤ 24 := Nat.le_trans List.count_le_length hl
  simp only [ct_ad]
  rcases hc with rfl | rfl <;> constructor <;> omega
