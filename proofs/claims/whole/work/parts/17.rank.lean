/-! rankings as they lie in the heap -/
def rk_at (σ : gw_S) (Z : gw_Z) (r : Nat) (R : List (Int × Nat)) : Prop := ∃ (fs : Nat → Int64) (fl : Nat → Int32), σ.2 r = some (.inr (4, [.ref (r + 1), .ref (r + 2), .int (nI R.length)])) ∧ σ.2 (r + 1) = some (gw_J Z 2 fs) ∧ σ.2 (r + 2) = some (gw_I Z 2 fl) ∧ ∀ (i : Nat) (x : Int × Nat), R[i]? = some x → fs i = iL x.1 ∧ fl i = nI x.2
/-- some ranking or other -/
def rk_any (σ : gw_S) (Z : gw_Z) (r : Nat) : Prop := ∃ (k : Int32) (fs : Nat → Int64) (fl : Nat → Int32), σ.2 r = some (.inr (4, [.ref (r + 1), .ref (r + 2), .int k])) ∧ σ.2 (r + 1) = some (gw_J Z 2 fs) ∧ σ.2 (r + 2) = some (gw_I Z 2 fl)
theorem rk_at_any {σ : gw_S} {Z : gw_Z} {r : Nat} {R : List (Int × Nat)} (h : rk_at σ Z r R) : rk_any σ Z r := by
  obtain ⟨fs, fl, h0, h1, h2, -⟩ := h
  exact ⟨_, fs, fl, h0, h1, h2⟩
theorem rk_at_fr {σ σ' : gw_S} {Z : gw_Z} {r lo hi : Nat} {R : List (Int × Nat)} (h : rk_at σ Z r R) (f : gw_fr σ σ' lo hi) (d : r + 3 ≤ lo ∨ hi ≤ r) : rk_at σ' Z r R := by
  obtain ⟨fs, fl, h0, h1, h2, h3⟩ := h
  exact ⟨fs, fl, (f.2 r (by omega)).trans h0, (f.2 (r + 1) (by omega)).trans h1, (f.2 (r + 2) (by omega)).trans h2, h3⟩
theorem rk_any_fr {σ σ' : gw_S} {Z : gw_Z} {r lo hi : Nat} (h : rk_any σ Z r) (f : gw_fr σ σ' lo hi) (d : r + 3 ≤ lo ∨ hi ≤ r) : rk_any σ' Z r := by
  obtain ⟨k, fs, fl, h0, h1, h2⟩ := h
  exact ⟨k, fs, fl, (f.2 r (by omega)).trans h0, (f.2 (r + 1) (by omega)).trans h1, (f.2 (r + 2) (by omega)).trans h2⟩
/-- scores that can be compared as whole numbers -/
def rk_bd (R : List (Int × Nat)) : Prop := ∀ x ∈ R, -4611686018427387904 ≤ x.1 ∧ x.1 ≤ 4611686018427387904
theorem rk_one {a : Int × Nat} {fs : Nat → Int64} {fl : Nat → Int32} (h0 : fs 0 = iL a.1) (h1 : fl 0 = nI a.2) : ∀ (i : Nat) (x : Int × Nat), [a][i]? = some x → fs i = iL x.1 ∧ fl i = nI x.2 := by
  intro i x hx
  match i, hx with
  | 0, hx => cases hx; exact ⟨h0, h1⟩
  | i + 1, hx => simp at hx
theorem rk_two {a b : Int × Nat} {fs : Nat → Int64} {fl : Nat → Int32} (h0 : fs 0 = iL a.1) (h1 : fl 0 = nI a.2) (h2 : fs 1 = iL b.1) (h3 : fl 1 = nI b.2) : ∀ (i : Nat) (x : Int × Nat), [a, b][i]? = some x → fs i = iL x.1 ∧ fl i = nI x.2 := by
  intro i x hx
  match i, hx with
  | 0, hx => cases hx; exact ⟨h0, h1⟩
  | 1, hx => cases hx; exact ⟨h2, h3⟩
  | i + 2, hx => simp at hx
theorem rk_cmp {a b : Int} (ha : -4611686018427387904 ≤ a ∧ a ≤ 4611686018427387904) (hb : -4611686018427387904 ≤ b ∧ b ≤ 4611686018427387904) : lg_cmp (iL a) (iL b) ≤ 0 ↔ a ≤ b := by
  have h1 := iL_lt hb.1 hb.2 ha.1 ha.2
  unfold lg_cmp
  by_cases h : b < a
  · have h2 : iL a > iL b := h1.mpr h
    rw [if_pos h2]
    constructor
    · intro q; exact absurd q (by decide)
    · intro q; omega
  · have h2 : ¬ iL a > iL b := fun q => h (h1.mp q)
    rw [if_neg h2]
    constructor
    · intro _; omega
    · intro _
      by_cases h3 : iL a = iL b
      · rw [if_pos h3]; decide
      · rw [if_neg h3]; decide
theorem rk_bd_offer {R : List (Int × Nat)} (hR : tk_ok R) (h : rk_bd R) {x : Int × Nat} (hx : -4611686018427387904 ≤ x.1 ∧ x.1 ≤ 4611686018427387904) : rk_bd (tk_offer R x) := by
  intro y hy
  rcases tk_mem [x] R hR y hy with h1 | h1
  · exact h y h1
  · rw [List.mem_singleton.mp h1]; exact hx
theorem rk_bd_all {R l : List (Int × Nat)} (hR : tk_ok R) (h : rk_bd R) (hl : rk_bd l) : rk_bd (tk_all R l) := by
  intro y hy
  rcases tk_mem l R hR y hy with h1 | h1
  · exact h y h1
  · exact hl y h1
theorem rk_take {T : List (Int × Nat)} {i : Nat} {x : Int × Nat} (h : T[i]? = some x) (R : List (Int × Nat)) (c : Int) (k : Nat) : tk_offer (tk_all R ((T.take i).map (tk_sh c k))) (x.1 + c, x.2 + k) = tk_all R ((T.take (i + 1)).map (tk_sh c k)) := by
  have h1 : T.take (i + 1) = T.take i ++ [x] := by
    rw [List.take_add_one, h]; rfl
  rw [h1, List.map_append, tk_all_app]
  rfl
/-! places of the changed weights, one word's -/
def ct_P (b : Nat → Nat → Nat) (g : Nat → Nat) (w k : Nat) : List Nat := ct_C b g w ++ (ct_r g w :: (List.range k).map (fun i => b w i * 4 + g w))
theorem ct_P0 (b : Nat → Nat → Nat) (g : Nat → Nat) (w : Nat) : ct_C b g w ++ [ct_r g w] = ct_P b g w 0 := rfl
theorem ct_Ps (b : Nat → Nat → Nat) (g : Nat → Nat) (w k : Nat) : ct_P b g w k ++ [b w k * 4 + g w] = ct_P b g w (k + 1) := by
  simp [ct_P, List.range_succ]
theorem ct_P3 (b : Nat → Nat → Nat) (g : Nat → Nat) (w : Nat) : ct_P b g w 3 = ct_C b g (w + 1) := by
  rw [ct_C_succ]; rfl
theorem ct_upd (wt : Nat → Int) (c : Int) (is : List Nat) (i : Nat) : vp_updL (fun j => iL (ct_ad wt c is j)) i (iL (ct_ad wt c is i) + iL c) = fun j => iL (ct_ad wt c (is ++ [i]) j) := by
  funext j
  rw [ct_ad_snoc, iL_add]
  simp only [vp_updL]
  split
  · rfl
  · rfl
