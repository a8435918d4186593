/-! pure: all labellings of a sentence of n words, in the order of their labels; S: what a word's label weighs, P: what two labels side by side weigh, F: the first label -/
def tl_T (n : Nat) (S P : Nat → Nat → Int) : Nat → Nat → List (Int × Nat)
  | 0, l => [(S (n - 1) l, l * 4 ^ (n - 1))]
  | m + 1, l => (List.range 4).flatMap (fun q => (tl_T n S P m q).map (tk_sh (S (n - 2 - m) l + P l q) (l * 4 ^ (n - 2 - m))))
def tl_A (n : Nat) (S P : Nat → Nat → Int) (F : Nat → Int) : List (Int × Nat) := (List.range 4).flatMap (fun q => (tl_T n S P (n - 1) q).map (tk_sh (F q) 0))
/-- one group more -/
theorem tl_more (L : Nat → List (Int × Nat)) (c : Nat → Int) (k q : Nat) :
    tk_all [] ((List.range (q + 1)).flatMap (fun i => (L i).map (tk_sh (c i) k))) = tk_all (tk_all [] ((List.range q).flatMap (fun i => (L i).map (tk_sh (c i) k)))) ((tk_all [] (L q)).map (tk_sh (c q) k)) := by
  rw [List.range_succ, List.flatMap_append, tk_all_app]
  simp only [List.flatMap_cons, List.flatMap_nil, List.append_nil]
  exact tk_group (tk_ok_all (r := []) _ trivial) _ _ _
def tl_s (n : Nat) (S P : Nat → Nat → Int) : Nat → Nat → Nat → Int
  | 0, l, _ => S (n - 1) l
  | m + 1, l, j => tl_s n S P m (j / 4 ^ m) (j % 4 ^ m) + (S (n - 2 - m) l + P l (j / 4 ^ m))
def tl_c (n : Nat) : Nat → Nat → Nat → Nat
  | 0, l, _ => l * 4 ^ (n - 1)
  | m + 1, l, j => tl_c n m (j / 4 ^ m) (j % 4 ^ m) + l * 4 ^ (n - 2 - m)
theorem tl_range {α : Type} (M : Nat) (f : Nat → α) : ∀ a : Nat, (List.range (a * M)).map f = (List.range a).flatMap (fun q => (List.range M).map (fun j => f (q * M + j))) := by
  intro a
  induction a with
  | zero => simp
  | succ a ih =>
    rw [Nat.succ_mul, List.range_add, List.map_append, ih, List.range_succ, List.flatMap_append]
    simp only [List.flatMap_cons, List.flatMap_nil, List.append_nil, List.map_map]
    rfl
theorem tl_T_eq (n : Nat) (S P : Nat → Nat → Int) : ∀ m l, tl_T n S P m l = (List.range (4 ^ m)).map (fun j => (tl_s n S P m l j, tl_c n m l j)) := by
  intro m
  induction m with
  | zero => intro l; simp [tl_T, tl_s, tl_c, List.range_succ]
  | succ m ih =>
    intro l
    have hM : 0 < 4 ^ m := Nat.pow_pos (by decide)
    rw [show 4 ^ (m + 1) = 4 * 4 ^ m by rw [Nat.pow_succ, Nat.mul_comm], tl_range, tl_T]
    congr 1
    funext q
    rw [ih, List.map_map]
    apply List.map_congr_left
    intro j hj
    have hj : j < 4 ^ m := List.mem_range.mp hj
    have e1 : (q * 4 ^ m + j) / 4 ^ m = q := by
      rw [Nat.mul_comm, Nat.mul_add_div hM, Nat.div_eq_of_lt hj, Nat.add_zero]
    have e2 : (q * 4 ^ m + j) % 4 ^ m = j := by
      rw [Nat.mul_comm, Nat.mul_add_mod, Nat.mod_eq_of_lt hj]
    show tk_sh _ _ _ = (_, _)
    simp only [tk_sh, tl_s, tl_c, e1, e2]
theorem tl_A_eq (k : Nat) (S P : Nat → Nat → Int) (F : Nat → Int) : tl_A (k + 1) S P F = (List.range (4 ^ (k + 1))).map (fun j => (tl_s (k + 1) S P k (j / 4 ^ k) (j % 4 ^ k) + F (j / 4 ^ k), tl_c (k + 1) k (j / 4 ^ k) (j % 4 ^ k))) := by
  have hM : 0 < 4 ^ k := Nat.pow_pos (by decide)
  rw [show 4 ^ (k + 1) = 4 * 4 ^ k by rw [Nat.pow_succ, Nat.mul_comm], tl_range, tl_A, Nat.add_sub_cancel]
  congr 1
  funext q
  rw [tl_T_eq, List.map_map]
  apply List.map_congr_left
  intro j hj
  have hj : j < 4 ^ k := List.mem_range.mp hj
  have e1 : (q * 4 ^ k + j) / 4 ^ k = q := by
    rw [Nat.mul_comm, Nat.mul_add_div hM, Nat.div_eq_of_lt hj, Nat.add_zero]
  have e2 : (q * 4 ^ k + j) % 4 ^ k = j := by
    rw [Nat.mul_comm, Nat.mul_add_mod, Nat.mod_eq_of_lt hj]
  show tk_sh _ _ _ = (_, _)
  simp only [tk_sh, e1, e2, Nat.add_zero]
/-- the label of word w in the labelling number j -/
def tl_g (n j w : Nat) : Nat := j / 4 ^ (n - 1 - w) % 4
/-- sums from the first word on, as they are made one word after another -/
def tl_m (S P : Nat → Nat → Int) (F : Nat → Int) (g : Nat → Nat) : Nat → Int
  | 0 => 0
  | w + 1 => tl_m S P F g w + ((if w = 0 then F (g w) else 0) + S w (g w)) + (if w = 0 then 0 else P (g (w - 1)) (g w))
/-- the code of labels -/
def tl_d (g : Nat → Nat) : Nat → Nat
  | 0 => 0
  | w + 1 => tl_d g w + g w * 4 ^ w
theorem tl_sum (k j : Nat) (S P : Nat → Nat → Int) (F : Nat → Int) : ∀ m, m ≤ k →
    tl_m S P F (tl_g (k + 1) j) (k - m) + (if k - m = 0 then F (tl_g (k + 1) j (k - m)) else P (tl_g (k + 1) j (k - m - 1)) (tl_g (k + 1) j (k - m))) + tl_s (k + 1) S P m (tl_g (k + 1) j (k - m)) (j % 4 ^ m) = tl_m S P F (tl_g (k + 1) j) (k + 1) := by
  intro m
  induction m with
  | zero =>
    intro _
    rw [Nat.sub_zero, tl_m, tl_s, Nat.add_sub_cancel]
    by_cases h : k = 0
    · simp [h]; omega
    · simp [h]; omega
  | succ m ih =>
    intro hm
    have ih := ih (by omega)
    rw [← ih]
    have e0 : k - m = (k - (m + 1)) + 1 := by omega
    have e1 : j % 4 ^ (m + 1) / 4 ^ m = tl_g (k + 1) j (k - m) := by
      rw [tl_g, Nat.pow_succ, Nat.mod_mul_right_div_self]
      congr 3
      omega
    have e2 : j % 4 ^ (m + 1) % 4 ^ m = j % 4 ^ m := Nat.mod_mod_of_dvd _ ⟨4, Nat.pow_succ 4 m⟩
    have e3 : k + 1 - 2 - m = k - (m + 1) := by omega
    rw [tl_s, e1, e2, e3]
    have e4 : tl_m S P F (tl_g (k + 1) j) (k - m) = tl_m S P F (tl_g (k + 1) j) (k - (m + 1)) + ((if k - (m + 1) = 0 then F (tl_g (k + 1) j (k - (m + 1))) else 0) + S (k - (m + 1)) (tl_g (k + 1) j (k - (m + 1)))) + (if k - (m + 1) = 0 then 0 else P (tl_g (k + 1) j (k - (m + 1) - 1)) (tl_g (k + 1) j (k - (m + 1)))) := by
      rw [e0, tl_m]
    rw [e4, if_neg (show ¬ k - m = 0 by omega), show k - m - 1 = k - (m + 1) by omega]
    by_cases h : k - (m + 1) = 0
    · simp only [h, if_true]; omega
    · simp only [h, if_false]; omega
theorem tl_code (k j : Nat) : ∀ m, m ≤ k → tl_d (tl_g (k + 1) j) (k - m) + tl_c (k + 1) m (tl_g (k + 1) j (k - m)) (j % 4 ^ m) = tl_d (tl_g (k + 1) j) (k + 1) := by
  intro m
  induction m with
  | zero =>
    intro _
    rw [Nat.sub_zero, tl_c, tl_d, Nat.add_sub_cancel]
  | succ m ih =>
    intro hm
    have ih := ih (by omega)
    rw [← ih]
    have e0 : k - m = (k - (m + 1)) + 1 := by omega
    have e1 : j % 4 ^ (m + 1) / 4 ^ m = tl_g (k + 1) j (k - m) := by
      rw [tl_g, Nat.pow_succ, Nat.mod_mul_right_div_self]
      congr 3
      omega
    have e2 : j % 4 ^ (m + 1) % 4 ^ m = j % 4 ^ m := Nat.mod_mod_of_dvd _ ⟨4, Nat.pow_succ 4 m⟩
    have e3 : k + 1 - 2 - m = k - (m + 1) := by omega
    have e4 : tl_d (tl_g (k + 1) j) (k - m) = tl_d (tl_g (k + 1) j) (k - (m + 1)) + tl_g (k + 1) j (k - (m + 1)) * 4 ^ (k - (m + 1)) := by
      rw [e0, tl_d]
    rw [tl_c, e1, e2, e3, e4]
    omega
/-- the labelling number j: score and code as they are made from its labels -/
def tl_x (n : Nat) (S P : Nat → Nat → Int) (F : Nat → Int) (j : Nat) : Int × Nat := (tl_m S P F (tl_g n j) n, tl_d (tl_g n j) n)
theorem tl_A_x (k : Nat) (S P : Nat → Nat → Int) (F : Nat → Int) : tl_A (k + 1) S P F = (List.range (4 ^ (k + 1))).map (tl_x (k + 1) S P F) := by
  rw [tl_A_eq]
  apply List.map_congr_left
  intro j hj
  have hj : j < 4 ^ (k + 1) := List.mem_range.mp hj
  have e0 : tl_g (k + 1) j 0 = j / 4 ^ k := by
    rw [tl_g, Nat.sub_zero, Nat.add_sub_cancel]
    refine Nat.mod_eq_of_lt ?_
    rw [Nat.div_lt_iff_lt_mul (Nat.pow_pos (by decide))]
    rw [Nat.pow_succ] at hj
    omega
  have h1 := tl_sum k j S P F k (Nat.le_refl _)
  have h2 := tl_code k j k (Nat.le_refl _)
  rw [Nat.sub_self, e0] at h1 h2
  simp only [if_true] at h1
  show (_, _) = (_, _)
  rw [← h1, ← h2]
  simp only [tl_m, tl_d, Prod.mk.injEq]
  omega
/-! codes -/
theorem tl_d_lt {g : Nat → Nat} : ∀ n, (∀ w, w < n → g w < 4) → tl_d g n < 4 ^ n := by
  intro n
  induction n with
  | zero => intro _; simp [tl_d]
  | succ n ih =>
    intro h
    have h1 := ih (fun w hw => h w (by omega))
    have h2 := h n (by omega)
    rw [tl_d, Nat.pow_succ]
    have h3 : g n * 4 ^ n ≤ 3 * 4 ^ n := Nat.mul_le_mul_right _ (by omega)
    omega
theorem tl_d_at {g : Nat → Nat} : ∀ n, (∀ w, w < n → g w < 4) → ∀ w, w < n → tl_d g n / 4 ^ w % 4 = g w := by
  intro n
  induction n with
  | zero => intro _ w hw; omega
  | succ n ih =>
    intro h w hw
    have hp : 0 < 4 ^ w := Nat.pow_pos (by decide)
    have h1 := tl_d_lt n (fun w hw => h w (by omega))
    by_cases e : w = n
    · subst e
      rw [tl_d, Nat.add_mul_div_right _ _ hp, Nat.div_eq_of_lt h1, Nat.zero_add]
      exact Nat.mod_eq_of_lt (h w (by omega))
    · have hlt : w < n := by omega
      have h2 := ih (fun w hw => h w (by omega)) w hlt
      obtain ⟨d, rfl⟩ : ∃ d, n = w + 1 + d := ⟨n - w - 1, by omega⟩
      rw [tl_d, show g (w + 1 + d) * 4 ^ (w + 1 + d) = (g (w + 1 + d) * 4 ^ d * 4) * 4 ^ w by rw [Nat.pow_add, Nat.pow_succ]; simp only [Nat.mul_assoc, Nat.mul_comm, Nat.mul_left_comm], Nat.add_mul_div_right _ _ hp, Nat.add_mul_mod_self_right]
      exact h2
theorem tl_g_lt (n j w : Nat) : tl_g n j w < 4 := Nat.mod_lt _ (by decide)
theorem tl_d_congr {g h : Nat → Nat} : ∀ n, (∀ w, w < n → g w = h w) → tl_d g n = tl_d h n := by
  intro n
  induction n with
  | zero => intro _; rfl
  | succ n ih =>
    intro e
    rw [tl_d, tl_d, ih (fun w hw => e w (by omega)), e n (by omega)]
theorem tl_m_congr {S P : Nat → Nat → Int} {F : Nat → Int} {g h : Nat → Nat} : ∀ n, (∀ w, w < n → g w = h w) → tl_m S P F g n = tl_m S P F h n := by
  intro n
  induction n with
  | zero => intro _; rfl
  | succ n ih =>
    intro e
    rw [tl_m, tl_m, ih (fun w hw => e w (by omega)), e n (by omega)]
    by_cases h0 : n = 0
    · simp [h0]
    · rw [e (n - 1) (by omega)]
/-- a code's own labels give it back -/
theorem tl_d_of {c : Nat} : ∀ n, c < 4 ^ n → tl_d (fun w => c / 4 ^ w % 4) n = c := by
  intro n
  induction n generalizing c with
  | zero => intro h; simp [tl_d] at h ⊢; omega
  | succ n ih =>
    intro h
    have hp : 0 < 4 ^ n := Nat.pow_pos (by decide)
    have h1 : c % 4 ^ n < 4 ^ n := Nat.mod_lt _ hp
    have h2 := ih h1
    rw [tl_d]
    have e : tl_d (fun w => c / 4 ^ w % 4) n = tl_d (fun w => c % 4 ^ n / 4 ^ w % 4) n := by
      refine tl_d_congr n fun w hw => ?_
      obtain ⟨d, rfl⟩ : ∃ d, n = w + (d + 1) := ⟨n - w - 1, by omega⟩
      rw [Nat.pow_add, Nat.mod_mul_right_div_self, Nat.mod_mod_of_dvd _ ⟨4 ^ d, by rw [Nat.pow_succ, Nat.mul_comm]⟩]
    have h3 : c / 4 ^ n < 4 := by
      rw [Nat.div_lt_iff_lt_mul hp]
      rw [Nat.pow_succ] at h
      omega
    rw [e, h2, Nat.mod_eq_of_lt h3]
    have := Nat.mod_add_div c (4 ^ n)
    rw [Nat.mul_comm] at this
    exact this
/-- an or that is a sum -/
theorem tl_or {a b w : Nat} (h : a < 4 ^ w) : a ||| b * 4 ^ w = a + b * 4 ^ w := by
  have h4 : (4 : Nat) ^ w = 2 ^ (2 * w) := by rw [Nat.pow_mul]
  rw [h4] at h ⊢
  rw [Nat.or_comm, ← Nat.shiftLeft_eq, ← Nat.shiftLeft_add_eq_or_of_lt h, Nat.add_comm]
theorem tl_or' {a b w : Nat} (h : a < 4 ^ w) : b * 4 ^ w ||| a = b * 4 ^ w + a := by
  rw [Nat.or_comm, tl_or h, Nat.add_comm]
/-- a tail's code is a multiple -/
theorem tl_T_code (n : Nat) (S P : Nat → Nat → Int) : ∀ m, m < n → ∀ l x, x ∈ tl_T n S P m l → ∃ d, x.2 = d * 4 ^ (n - 1 - m) := by
  intro m
  induction m with
  | zero =>
    intro _ l x hx
    simp only [tl_T, List.mem_singleton] at hx
    subst hx
    exact ⟨l, rfl⟩
  | succ m ih =>
    intro hm l x hx
    simp only [tl_T, List.mem_flatMap, List.mem_map] at hx
    obtain ⟨q, -, y, hy, rfl⟩ := hx
    obtain ⟨d, hd⟩ := ih (by omega) q y hy
    refine ⟨d * 4 + l, ?_⟩
    simp only [tk_sh, hd]
    have e : n - 1 - m = (n - 2 - m) + 1 := by omega
    have e2 : n - 1 - (m + 1) = n - 2 - m := by omega
    rw [e, e2, Nat.pow_succ, Nat.add_mul]
    simp only [Nat.mul_assoc, Nat.mul_comm, Nat.mul_left_comm]
/-- how large scores may be -/
theorem tl_T_abs (n : Nat) (S P : Nat → Nat → Int) (B : Int) (hS : ∀ w l, l < 4 → -B ≤ S w l ∧ S w l ≤ B) (hP : ∀ l q, l < 4 → q < 4 → -B ≤ P l q ∧ P l q ≤ B) : ∀ m l, l < 4 → ∀ x ∈ tl_T n S P m l, -((2 * m + 1 : Nat) * B) ≤ x.1 ∧ x.1 ≤ (2 * m + 1 : Nat) * B := by
  intro m
  induction m with
  | zero =>
    intro l hl x hx
    simp only [tl_T, List.mem_singleton] at hx
    subst hx
    have := hS (n - 1) l hl
    simp
    omega
  | succ m ih =>
    intro l hl x hx
    simp only [tl_T, List.mem_flatMap, List.mem_map, List.mem_range] at hx
    obtain ⟨q, hq, y, hy, rfl⟩ := hx
    have h1 := ih q hq y hy
    have h2 := hS (n - 2 - m) l hl
    have h3 := hP l q hl hq
    have e : ((2 * (m + 1) + 1 : Nat) : Int) * B = ((2 * m + 1 : Nat) : Int) * B + B + B := by
      rw [show (2 * (m + 1) + 1 : Nat) = (2 * m + 1) + 1 + 1 by omega]
      push_cast
      rw [Int.add_mul, Int.add_mul, Int.one_mul]
    rw [e]
    simp only [tk_sh]
    omega
