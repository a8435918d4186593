/-- in how many of N words two labellings differ -/
def df_n (x y : Int32) : Nat → Nat
  | 0 => 0
  | w + 1 => if lb_at x w = lb_at y w then df_n x y w else df_n x y w + 1
theorem df_le (x y : Int32) : ∀ n, df_n x y n ≤ n := by
  intro n
  induction n with
  | zero => exact Nat.le_refl _
  | succ n ih =>
    simp only [df_n]
    split <;> omega
/-- arrays that agree on their places are the same cell -/
theorem gw_arr_ext (cA : ClassId) (n : Nat) {f g : Nat → Value} (h : ∀ j, j < n → f j = g j) : arrV cA n f = arrV cA n g := by
  unfold arrV
  congr 1
  apply Array.ext
  · simp
  · intro j h1 h2
    simp only [Array.getElem_ofFn]
    exact h j (by simpa using h1)
section GWX
variable {X : gw_C} {σ : gw_S} {ce sl pc : Nat} {L : List (Nat × Value)} {st : List Value}
/-- an array told by another list of the same contents -/
theorem gw_extI {a n : Nat} {f g : Nat → Int32} (h : σ.2 a = some (gw_I (gw_z X) n f)) (he : ∀ j, j < n → f j = g j) (kk : gw_W X (gw_up σ a (gw_I (gw_z X) n g)) ce sl pc L st) : gw_W X σ ce sl pc L st := by
  intro H locs ls hG hS hL
  refine kk H locs ls (gw_H_up hG h ?_ rfl (fun _ _ => rfl)) hS hL
  have h1 : H[a]? = some (vp_cell _ _) := (hG.2.2 a _ h).2
  show H[a]? = some (vp_cell _ _)
  rw [h1, vp_cell_i, vp_cell_i, gw_arr_ext _ _ (fun j hj => by rw [he j hj])]
theorem gw_extC {a n : Nat} {f g : Nat → Int32} (h : σ.2 a = some (gw_Ch (gw_z X) n f)) (he : ∀ j, j < n → f j = g j) (kk : gw_W X (gw_up σ a (gw_Ch (gw_z X) n g)) ce sl pc L st) : gw_W X σ ce sl pc L st := by
  intro H locs ls hG hS hL
  refine kk H locs ls (gw_H_up hG h ?_ rfl (fun _ _ => rfl)) hS hL
  have h1 : H[a]? = some (vp_cell _ _) := (hG.2.2 a _ h).2
  show H[a]? = some (vp_cell _ _)
  rw [h1, vp_cell_i, vp_cell_i, gw_arr_ext _ _ (fun j hj => by rw [he j hj])]
theorem gw_extJ {a n : Nat} {f g : Nat → Int64} (h : σ.2 a = some (gw_J (gw_z X) n f)) (he : ∀ j, j < n → f j = g j) (kk : gw_W X (gw_up σ a (gw_J (gw_z X) n g)) ce sl pc L st) : gw_W X σ ce sl pc L st := by
  intro H locs ls hG hS hL
  refine kk H locs ls (gw_H_up hG h ?_ rfl (fun _ _ => rfl)) hS hL
  have h1 : H[a]? = some (vp_cell _ _) := (hG.2.2 a _ h).2
  show H[a]? = some (vp_cell _ _)
  rw [h1, vp_cell_l, vp_cell_l, gw_arr_ext _ _ (fun j hj => by rw [he j hj])]
end GWX
