/-! ===== counting through the labellings ===== -/
theorem tg_low {J : Nat} : ∀ d, (∀ e, e < d → J / 4 ^ e % 4 = 3) → J % 4 ^ d + 1 = 4 ^ d := by
  intro d
  induction d with
  | zero => intro _; simp [Nat.mod_one]
  | succ d ih =>
    intro h
    have h1 := ih (fun e he => h e (by omega))
    have h2 := h d (by omega)
    rw [Nat.mod_pow_succ, h2, Nat.pow_succ]
    omega
theorem tg_eq {J d : Nat} (h : J % 4 ^ d + 1 = 4 ^ d) : J + 1 = 4 ^ d * (J / 4 ^ d + 1) := by
  have h1 := Nat.div_add_mod J (4 ^ d)
  rw [Nat.mul_add]
  omega
theorem tg_b {J d : Nat} (h : J % 4 ^ d + 1 = 4 ^ d) : (J + 1) / 4 ^ d = J / 4 ^ d + 1 := by
  rw [tg_eq h]
  exact Nat.mul_div_cancel_left _ (Nat.pow_pos (by decide))
theorem tg_a {J d : Nat} (h : J % 4 ^ d + 1 = 4 ^ d) {e : Nat} (he : e < d) : (J + 1) / 4 ^ e % 4 = 0 := by
  obtain ⟨c, rfl⟩ : ∃ c, d = e + (c + 1) := ⟨d - e - 1, by omega⟩
  rw [tg_eq h, Nat.pow_add, Nat.mul_assoc, Nat.mul_div_cancel_left _ (Nat.pow_pos (by decide)), Nat.pow_succ, Nat.mul_comm (4 ^ c) 4, Nat.mul_assoc]
  exact Nat.mul_mod_right _ _
theorem tg_c {J d : Nat} (h : J % 4 ^ d + 1 = 4 ^ d) (hn : J / 4 ^ d % 4 ≠ 3) {e : Nat} (he : d < e) : (J + 1) / 4 ^ e = J / 4 ^ e := by
  obtain ⟨c, rfl⟩ : ∃ c, e = d + (c + 1) := ⟨e - d - 1, by omega⟩
  rw [Nat.pow_add, ← Nat.div_div_eq_div_mul, ← Nat.div_div_eq_div_mul, tg_b h, Nat.pow_succ, Nat.mul_comm (4 ^ c) 4, ← Nat.div_div_eq_div_mul, ← Nat.div_div_eq_div_mul]
  congr 1
  omega
theorem tl_inc {N J q : Nat} (hq : q < N) (h3 : ∀ w, q < w → w < N → tl_g N J w = 3) (hn : tl_g N J q ≠ 3) : ∀ w, w < N → tl_g N (J + 1) w = if w < q then tl_g N J w else if w = q then tl_g N J q + 1 else 0 := by
  have hl : J % 4 ^ (N - 1 - q) + 1 = 4 ^ (N - 1 - q) := tg_low _ (fun e he => by
    have := h3 (N - 1 - e) (by omega) (by omega)
    unfold tl_g at this
    rw [show N - 1 - (N - 1 - e) = e by omega] at this
    exact this)
  intro w hw
  unfold tl_g at hn ⊢
  by_cases h1 : w < q
  · rw [if_pos h1, tg_c hl hn (by omega)]
  · rw [if_neg h1]
    by_cases h2 : w = q
    · rw [if_pos h2, h2, tg_b hl]
      omega
    · rw [if_neg h2]
      exact tg_a hl (by omega)
theorem tl_end {N J : Nat} (h3 : ∀ w, w < N → tl_g N J w = 3) (hJ : J < 4 ^ N) : J + 1 = 4 ^ N := by
  have hl : J % 4 ^ N + 1 = 4 ^ N := tg_low _ (fun e he => by
    have := h3 (N - 1 - e) (by omega)
    unfold tl_g at this
    rw [show N - 1 - (N - 1 - e) = e by omega] at this
    exact this)
  rw [Nat.mod_eq_of_lt hJ] at hl
  exact hl
theorem tl_g_0 (N w : Nat) : tl_g N 0 w = 0 := by unfold tl_g; simp
theorem tl_m_bd {wt : Nat → Int} (h : dc_B wt) (B : Nat → Nat) (g : Nat → Nat) : ∀ k : Nat, -(6000000000000 * (k : Int)) ≤ tl_m (wd_W wt B) (dc_P wt) (dc_F wt) g k ∧ tl_m (wd_W wt B) (dc_P wt) (dc_F wt) g k ≤ 6000000000000 * (k : Int) := by
  intro k
  induction k with
  | zero => simp [tl_m]
  | succ k ih =>
    have h1 := dc_S_bd h B k (g k)
    have h2 := h (32 * 4 + g k)
    have h3 := h ((33 + g (k - 1)) * 4 + g k)
    rw [tl_m]
    unfold dc_P dc_F at ih ⊢
    split <;> omega
abbrev sx (wt : Nat → Int) (ws : List px_W) (J : Nat) : Int × Nat := tl_x ws.length (wd_W wt (se_B ws)) (dc_P wt) (dc_F wt) J
def sx_R (wt : Nat → Int) (ws : List px_W) (J : Nat) : List (Int × Nat) := tk_all [] ((List.range J).map (sx wt ws))
theorem sx_R_s (wt : Nat → Int) (ws : List px_W) (J : Nat) : sx_R wt ws (J + 1) = tk_offer (sx_R wt ws J) (sx wt ws J) := by
  unfold sx_R
  rw [List.range_succ, List.map_append, tk_all_app]
  rfl
theorem sx_R_end {wt : Nat → Int} {ws : List px_W} (h : ws ≠ []) : sx_R wt ws (4 ^ ws.length) = ab_rk wt ws := (ab_rk_x h).symm
theorem sx_ok (wt : Nat → Int) (ws : List px_W) (J : Nat) : tk_ok (sx_R wt ws J) := tk_ok_all _ trivial
theorem sx_bd {wt : Nat → Int} (h : dc_B wt) {ws : List px_W} (hl : ws.length ≤ 6) (J : Nat) : -4611686018427387904 ≤ (sx wt ws J).1 ∧ (sx wt ws J).1 ≤ 4611686018427387904 := by
  have h1 := tl_m_bd h (se_B ws) (tl_g ws.length J) ws.length
  show -4611686018427387904 ≤ tl_m _ _ _ _ _ ∧ tl_m _ _ _ _ _ ≤ 4611686018427387904
  omega
theorem sx_R_bd {wt : Nat → Int} (h : dc_B wt) {ws : List px_W} (hl : ws.length ≤ 6) (J : Nat) : ∀ x ∈ sx_R wt ws J, -4611686018427387904 ≤ x.1 ∧ x.1 ≤ 4611686018427387904 := by
  intro x hx
  rcases tk_mem _ [] trivial _ hx with h2 | h2
  · cases h2
  · obtain ⟨q, -, e⟩ := List.mem_map.mp h2
    rw [← e]
    exact sx_bd h hl q
theorem sx_R_len (wt : Nat → Int) (ws : List px_W) (J : Nat) : (sx_R wt ws J).length = min 2 J := by
  unfold sx_R
  rw [tk_len _ [] trivial]
  simp
/-- what the model holds of the labellings that it has seen -/
def sr_ok (R : List (Int × Nat)) (bs s2 : Int64) (be se : Int32) : Prop := (∀ x, R[0]? = some x → bs = iL x.1 ∧ be = nI x.2) ∧ ∀ x, R[1]? = some x → s2 = iL x.1 ∧ se = nI x.2
theorem sc_T (wt : Nat → Int) (B : Nat → Nat) (g : Nat → Nat) : ∀ n, wd_T wt B g n = tl_m (wd_W wt B) (dc_P wt) (dc_F wt) g n := by
  intro n
  induction n with
  | zero => rfl
  | succ n ih =>
    rw [wd_T, tl_m, ih]
    unfold wd_r dc_F dc_P
    by_cases h : n = 0
    · simp only [h, if_true]; omega
    · simp only [if_neg h]; omega
