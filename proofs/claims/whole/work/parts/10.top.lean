/-! pure: the best two of a row of scored labellings, an earlier one held better among equals -/
def tk_offer (r : List (Int × Nat)) (x : Int × Nat) : List (Int × Nat) := match r with
  | [] => [x]
  | [a] => if a.1 < x.1 then [x, a] else [a, x]
  | a :: b :: _ => if a.1 < x.1 then [x, a] else if b.1 < x.1 then [a, x] else [a, b]
def tk_all (r l : List (Int × Nat)) : List (Int × Nat) := l.foldl tk_offer r
def tk_ok (r : List (Int × Nat)) : Prop := match r with
  | [] => True
  | [_] => True
  | [a, b] => b.1 ≤ a.1
  | _ => False
theorem tk_all_nil (r : List (Int × Nat)) : tk_all r [] = r := rfl
theorem tk_all_cons (r : List (Int × Nat)) (x : Int × Nat) (l : List (Int × Nat)) : tk_all r (x :: l) = tk_all (tk_offer r x) l := rfl
theorem tk_all_app (r l k : List (Int × Nat)) : tk_all r (l ++ k) = tk_all (tk_all r l) k := by
  simp [tk_all, List.foldl_append]
theorem tk_cases {r : List (Int × Nat)} (hr : tk_ok r) : r = [] ∨ (∃ a, r = [a]) ∨ ∃ a b, r = [a, b] ∧ b.1 ≤ a.1 := by
  match r, hr with
  | [], _ => exact Or.inl rfl
  | [a], _ => exact Or.inr (Or.inl ⟨a, rfl⟩)
  | [a, b], h => exact Or.inr (Or.inr ⟨a, b, rfl, h⟩)
theorem tk_ok_offer {r : List (Int × Nat)} (hr : tk_ok r) (x : Int × Nat) : tk_ok (tk_offer r x) := by
  rcases tk_cases hr with rfl | ⟨a, rfl⟩ | ⟨a, b, rfl, h⟩
  · trivial
  · by_cases h1 : a.1 < x.1
    · simp [tk_offer, tk_ok, h1]; omega
    · simp [tk_offer, tk_ok, h1]; omega
  · by_cases h1 : a.1 < x.1
    · simp [tk_offer, tk_ok, h1]; omega
    · by_cases h2 : b.1 < x.1
      · simp [tk_offer, tk_ok, h1, h2]; omega
      · simp [tk_offer, tk_ok, h1, h2]; omega
theorem tk_ok_all {r : List (Int × Nat)} (l : List (Int × Nat)) (hr : tk_ok r) : tk_ok (tk_all r l) := by
  induction l generalizing r with
  | nil => exact hr
  | cons x l ih => exact ih (tk_ok_offer hr x)
theorem tk_of1 {a x : Int × Nat} (h : a.1 < x.1) : tk_offer [a] x = [x, a] := by simp [tk_offer, h]
theorem tk_of2 {a x : Int × Nat} (h : x.1 ≤ a.1) : tk_offer [a] x = [a, x] := by
  have : ¬ a.1 < x.1 := by omega
  simp [tk_offer, this]
theorem tk_of3 {a b x : Int × Nat} (h : a.1 < x.1) : tk_offer [a, b] x = [x, a] := by simp [tk_offer, h]
theorem tk_of4 {a b x : Int × Nat} (h : x.1 ≤ a.1) (h2 : b.1 < x.1) : tk_offer [a, b] x = [a, x] := by
  have : ¬ a.1 < x.1 := by omega
  simp [tk_offer, this, h2]
theorem tk_of5 {a b x : Int × Nat} (h : x.1 ≤ a.1) (h2 : x.1 ≤ b.1) : tk_offer [a, b] x = [a, b] := by
  have h1 : ¬ a.1 < x.1 := by omega
  have h3 : ¬ b.1 < x.1 := by omega
  simp [tk_offer, h1, h3]
theorem tk_swap {r : List (Int × Nat)} (hr : tk_ok r) {a x : Int × Nat} (h : a.1 < x.1) : tk_offer (tk_offer r x) a = tk_offer (tk_offer r a) x := by
  rcases tk_cases hr with rfl | ⟨u, rfl⟩ | ⟨u, v, rfl, hv⟩
  · show tk_offer [x] a = tk_offer [a] x
    rw [tk_of1 h, tk_of2 (Int.le_of_lt h)]
  · by_cases h1 : u.1 < x.1
    · rw [tk_of1 h1]
      by_cases h2 : u.1 < a.1
      · rw [tk_of4 (by omega) h2, tk_of1 h2, tk_of3 h]
      · rw [tk_of5 (by omega) (by omega), tk_of2 (by omega), tk_of3 h1]
    · rw [tk_of2 (by omega), tk_of5 (by omega) (by omega), tk_of2 (by omega), tk_of4 (by omega) h]
  · by_cases h1 : u.1 < x.1
    · rw [tk_of3 h1]
      by_cases h2 : u.1 < a.1
      · rw [tk_of4 (by omega) h2, tk_of3 h2, tk_of3 h]
      · rw [tk_of5 (by omega) (by omega)]
        by_cases h3 : v.1 < a.1
        · rw [tk_of4 (by omega) h3, tk_of3 h1]
        · rw [tk_of5 (by omega) (by omega), tk_of3 h1]
    · by_cases h2 : v.1 < x.1
      · rw [tk_of4 (by omega) h2, tk_of5 (by omega) (by omega)]
        by_cases h3 : v.1 < a.1
        · rw [tk_of4 (by omega) h3, tk_of4 (by omega) h]
        · rw [tk_of5 (by omega) (by omega), tk_of4 (by omega) h2]
      · rw [tk_of5 (by omega) (by omega), tk_of5 (by omega) (by omega), tk_of5 (by omega) (by omega)]
theorem tk_drop {r : List (Int × Nat)} (hr : tk_ok r) {a b x : Int × Nat} (h1 : b.1 ≤ a.1) (h2 : b.1 ≤ x.1) : tk_offer (tk_offer (tk_offer r x) a) b = tk_offer (tk_offer r x) a := by
  have key : ∃ u v, tk_offer (tk_offer r x) a = [u, v] ∧ b.1 ≤ u.1 ∧ b.1 ≤ v.1 := by
    rcases tk_cases hr with rfl | ⟨u, rfl⟩ | ⟨u, v, rfl, hv⟩
    · by_cases h3 : x.1 < a.1
      · exact ⟨a, x, tk_of1 h3, h1, h2⟩
      · exact ⟨x, a, tk_of2 (by omega), h2, h1⟩
    · by_cases h3 : u.1 < x.1
      · rw [tk_of1 h3]
        by_cases h4 : x.1 < a.1
        · exact ⟨a, x, tk_of3 h4, h1, h2⟩
        · by_cases h5 : u.1 < a.1
          · exact ⟨x, a, tk_of4 (by omega) h5, h2, h1⟩
          · exact ⟨x, u, tk_of5 (by omega) (by omega), h2, by omega⟩
      · rw [tk_of2 (by omega)]
        by_cases h4 : u.1 < a.1
        · exact ⟨a, u, tk_of3 h4, h1, by omega⟩
        · by_cases h5 : x.1 < a.1
          · exact ⟨u, a, tk_of4 (by omega) h5, by omega, h1⟩
          · exact ⟨u, x, tk_of5 (by omega) (by omega), by omega, h2⟩
    · by_cases h3 : u.1 < x.1
      · rw [tk_of3 h3]
        by_cases h4 : x.1 < a.1
        · exact ⟨a, x, tk_of3 h4, h1, h2⟩
        · by_cases h5 : u.1 < a.1
          · exact ⟨x, a, tk_of4 (by omega) h5, h2, h1⟩
          · exact ⟨x, u, tk_of5 (by omega) (by omega), h2, by omega⟩
      · by_cases h6 : v.1 < x.1
        · rw [tk_of4 (by omega) h6]
          by_cases h4 : u.1 < a.1
          · exact ⟨a, u, tk_of3 h4, h1, by omega⟩
          · by_cases h5 : x.1 < a.1
            · exact ⟨u, a, tk_of4 (by omega) h5, by omega, h1⟩
            · exact ⟨u, x, tk_of5 (by omega) (by omega), by omega, h2⟩
        · rw [tk_of5 (by omega) (by omega)]
          by_cases h4 : u.1 < a.1
          · exact ⟨a, u, tk_of3 h4, h1, by omega⟩
          · by_cases h5 : v.1 < a.1
            · exact ⟨u, a, tk_of4 (by omega) h5, by omega, h1⟩
            · exact ⟨u, v, tk_of5 (by omega) (by omega), by omega, by omega⟩
  obtain ⟨u, v, e, hu, hv⟩ := key
  rw [e, tk_of5 hu hv]
theorem tk_key {r t : List (Int × Nat)} (hr : tk_ok r) (ht : tk_ok t) (x : Int × Nat) : tk_all r (tk_offer t x) = tk_offer (tk_all r t) x := by
  rcases tk_cases ht with rfl | ⟨a, rfl⟩ | ⟨a, b, rfl, hab⟩
  · rfl
  · by_cases h1 : a.1 < x.1
    · rw [tk_of1 h1]
      exact tk_swap hr h1
    · rw [tk_of2 (by omega)]; rfl
  · by_cases h1 : a.1 < x.1
    · rw [tk_of3 h1]
      show tk_offer (tk_offer r x) a = tk_offer (tk_offer (tk_offer r a) b) x
      rw [← tk_swap (tk_ok_offer hr a) (show b.1 < x.1 by omega), ← tk_swap hr h1, tk_drop hr hab (by omega)]
    · by_cases h2 : b.1 < x.1
      · rw [tk_of4 (by omega) h2]
        show tk_offer (tk_offer r a) x = tk_offer (tk_offer (tk_offer r a) b) x
        rw [← tk_swap (tk_ok_offer hr a) h2, tk_drop hr (by omega) hab]
      · rw [tk_of5 (by omega) (by omega)]
        show tk_offer (tk_offer r a) b = tk_offer (tk_offer (tk_offer r a) b) x
        rw [tk_drop hr (by omega) (by omega)]
theorem tk_mid {r : List (Int × Nat)} (hr : tk_ok r) (l : List (Int × Nat)) : ∀ t, tk_ok t → tk_all r (tk_all t l) = tk_all (tk_all r t) l := by
  induction l with
  | nil => intro t _; rfl
  | cons x l ih =>
    intro t ht
    rw [tk_all_cons, ih _ (tk_ok_offer ht x), tk_key hr ht, tk_all_cons]
theorem tk_top {r : List (Int × Nat)} (hr : tk_ok r) (l : List (Int × Nat)) : tk_all r (tk_all [] l) = tk_all r l := tk_mid hr l [] trivial
/-- scores and codes moved by the same -/
def tk_sh (c : Int) (k : Nat) (p : Int × Nat) : Int × Nat := (p.1 + c, p.2 + k)
theorem tk_sh_offer (c : Int) (k : Nat) {r : List (Int × Nat)} (hr : tk_ok r) (x : Int × Nat) : (tk_offer r x).map (tk_sh c k) = tk_offer (r.map (tk_sh c k)) (tk_sh c k x) := by
  have e : ∀ p q : Int × Nat, (tk_sh c k p).1 < (tk_sh c k q).1 ↔ p.1 < q.1 := by
    intro p q
    simp only [tk_sh]; omega
  rcases tk_cases hr with rfl | ⟨a, rfl⟩ | ⟨a, b, rfl, hab⟩
  · rfl
  · by_cases h1 : a.1 < x.1
    · simp [tk_offer, h1, (e a x).mpr h1]
    · have h2 : ¬ (tk_sh c k a).1 < (tk_sh c k x).1 := fun h => h1 ((e a x).mp h)
      simp [tk_offer, h1, h2]
  · by_cases h1 : a.1 < x.1
    · simp [tk_offer, h1, (e a x).mpr h1]
    · have h2 : ¬ (tk_sh c k a).1 < (tk_sh c k x).1 := fun h => h1 ((e a x).mp h)
      by_cases h3 : b.1 < x.1
      · simp [tk_offer, h1, h2, h3, (e b x).mpr h3]
      · have h4 : ¬ (tk_sh c k b).1 < (tk_sh c k x).1 := fun h => h3 ((e b x).mp h)
        simp [tk_offer, h1, h2, h3, h4]
theorem tk_sh_all (c : Int) (k : Nat) (l : List (Int × Nat)) : ∀ r, tk_ok r → (tk_all r l).map (tk_sh c k) = tk_all (r.map (tk_sh c k)) (l.map (tk_sh c k)) := by
  induction l with
  | nil => intro r _; rfl
  | cons x l ih =>
    intro r hr
    rw [tk_all_cons, ih _ (tk_ok_offer hr x), tk_sh_offer c k hr, List.map_cons, tk_all_cons]
/-- a row of tails offered moved, or its best two alone: the same -/
theorem tk_group {r : List (Int × Nat)} (hr : tk_ok r) (c : Int) (k : Nat) (l : List (Int × Nat)) : tk_all r (l.map (tk_sh c k)) = tk_all r ((tk_all [] l).map (tk_sh c k)) := by
  rw [tk_sh_all c k l [] trivial]
  exact (tk_top hr _).symm
theorem tk_len (l : List (Int × Nat)) : ∀ r, tk_ok r → (tk_all r l).length = min 2 (r.length + l.length) := by
  induction l with
  | nil =>
    intro r hr
    rcases tk_cases hr with rfl | ⟨a, rfl⟩ | ⟨a, b, rfl, -⟩ <;> simp [tk_all]
  | cons x l ih =>
    intro r hr
    rw [tk_all_cons, ih _ (tk_ok_offer hr x)]
    rcases tk_cases hr with rfl | ⟨a, rfl⟩ | ⟨a, b, rfl, -⟩
    · simp [tk_offer]; omega
    · by_cases h1 : a.1 < x.1 <;> simp [tk_offer, h1] <;> omega
    · by_cases h1 : a.1 < x.1 <;> by_cases h2 : b.1 < x.1 <;> simp [tk_offer, h1, h2]
theorem tk_mem (l : List (Int × Nat)) : ∀ r, tk_ok r → ∀ x ∈ tk_all r l, x ∈ r ∨ x ∈ l := by
  induction l with
  | nil => intro r _ x hx; exact Or.inl hx
  | cons y l ih =>
    intro r hr x hx
    rw [tk_all_cons] at hx
    rcases ih _ (tk_ok_offer hr y) x hx with h | h
    · rcases tk_cases hr with rfl | ⟨a, rfl⟩ | ⟨a, b, rfl, -⟩
      · simp [tk_offer] at h; simp [h]
      · by_cases h1 : a.1 < y.1 <;> simp [tk_offer, h1] at h <;> rcases h with rfl | rfl <;> simp
      · by_cases h1 : a.1 < y.1 <;> by_cases h2 : b.1 < y.1 <;> simp [tk_offer, h1, h2] at h <;> rcases h with rfl | rfl <;> simp
    · exact Or.inr (List.mem_cons_of_mem _ h)
