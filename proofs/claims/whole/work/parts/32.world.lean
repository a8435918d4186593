/-! ===== what a run has come to, apart from how it is held ===== -/
abbrev ab_A : Type := (Nat × (Nat → Nat)) × (List (List px_W) × List px_W) × ((Nat → Int) × (Nat → Int)) × (Nat × Nat) × (Nat × Nat)
def ab_A.len (A : ab_A) : Nat := A.1.1
def ab_A.ch (A : ab_A) : Nat → Nat := A.1.2
def ab_A.ss (A : ab_A) : List (List px_W) := A.2.1.1
def ab_A.sp (A : ab_A) : List px_W := A.2.1.2
def ab_A.wt (A : ab_A) : Nat → Int := A.2.2.1.1
def ab_A.tt (A : ab_A) : Nat → Int := A.2.2.1.2
def ab_A.mk (A : ab_A) : Nat := A.2.2.2.1.1
def ab_A.ps (A : ab_A) : Nat := A.2.2.2.1.2
def ab_A.kw (A : ab_A) : Nat := A.2.2.2.2.1
def ab_A.kc (A : ab_A) : Nat := A.2.2.2.2.2
def ab_g (ws : List px_W) : Prop := se_ok ws ∧ ws.length ≤ 6
def ab_ok (A : ab_A) : Prop := A.len ≤ 240 ∧ (∀ j, A.ch j < 127) ∧ A.ss.length ≤ 8 ∧ (∀ ws ∈ A.ss, ab_g ws ∧ ws ≠ []) ∧ ab_g A.sp ∧ (A.kw ≤ 6 ∧ A.kc < 4 ^ A.kw)
def ab_sent (A : ab_A) (x : Int32) : Option (List px_W) := if x = -1 then (if A.sp = [] then none else some A.sp) else if x < 0 then none else A.ss[x.toNatClampNeg]?
theorem ab_sent_ok {A : ab_A} (h : ab_ok A) {x : Int32} {ws : List px_W} (e : ab_sent A x = some ws) : ab_g ws ∧ ws ≠ [] := by
  unfold ab_sent at e
  split at e
  · split at e
    · cases e
    · cases e
      exact ⟨h.2.2.2.2.1, by assumption⟩
  · split at e
    · cases e
    · exact h.2.2.2.1 ws (List.mem_of_getElem? e)
def px_k (w : px_W) (k : Nat) : Nat := if k = 0 then w.1 else if k = 1 then w.2.1 else w.2.2.1
/-- a word of a sentence -/
def ab_word (ws : List px_W) (y : Int32) : Option px_W := if y < 0 then none else ws[y.toNatClampNeg]?
def ab_given (A : ab_A) (x y : Int32) : Option Nat := if x = -1 then none else ((ab_sent A x).bind (fun ws => ab_word ws y)).map (fun w => w.2.2.2)
def ab_feat (A : ab_A) (x y z : Int32) : Option Nat := if z < 0 ∨ nI 3 ≤ z then none else ((ab_sent A x).bind (fun ws => ab_word ws y)).map (fun w => px_k w z.toNatClampNeg)
theorem ix_of {x : Int32} {K : Nat} (hK : K < 2 ^ 31) (h1 : ¬ x < 0) (h2 : x < nI K) : ∃ j, j < K ∧ x = nI j := by
  obtain ⟨j, hj, rfl⟩ := nI_of h1
  exact ⟨j, (nI_ltI hj hK).mp h2, rfl⟩
theorem ix_no {x : Int32} {K : Nat} (hK : K < 2 ^ 31) (h : x < 0 ∨ ¬ x < nI K) : ∀ j, j < K → x ≠ nI j := by
  intro j hj e
  subst e
  rcases h with h | h
  · exact nI_pos (by omega) h
  · exact h (nI_lt hj hK)
theorem ab_word_of {ws : List px_W} {j : Nat} (h : j < ws.length) (hl : ws.length ≤ 6) : ab_word ws (nI j) = some ws[j] := by
  unfold ab_word
  rw [if_neg (nI_pos (by omega)), nI_clamp (by omega), List.getElem?_eq_getElem h]
theorem ab_word_no {ws : List px_W} {y : Int32} (hl : ws.length ≤ 6) (h : y < 0 ∨ ¬ y < nI ws.length) : ab_word ws y = none := by
  unfold ab_word
  split
  · rfl
  · rename_i h0
    rcases h with h | h
    · exact absurd h h0
    · obtain ⟨j, hj, rfl⟩ := nI_of h0
      rw [nI_clamp (by omega), List.getElem?_eq_none_iff]
      by_cases e : j < ws.length
      · exact absurd (nI_lt e (by omega)) h
      · omega
theorem ab_sent_of {A : ab_A} {j : Nat} (h : j < A.ss.length) (hl : A.ss.length ≤ 8) : ab_sent A (nI j) = some A.ss[j] := by
  unfold ab_sent
  have h1 : ¬ nI j = -1 := by
    intro e
    have h2 := nI_pos (n := j) (by omega)
    rw [e] at h2
    exact h2 (by decide)
  rw [if_neg h1, if_neg (nI_pos (by omega)), nI_clamp (by omega), List.getElem?_eq_getElem h]
theorem ab_sent_no {A : ab_A} {x : Int32} (hl : A.ss.length ≤ 8) (hx : ¬ x = -1 ∨ ¬ 0 < A.sp.length) (h : x < 0 ∨ ¬ x < nI A.ss.length) : ab_sent A x = none := by
  unfold ab_sent
  by_cases h1 : x = -1
  · rw [if_pos h1]
    rcases hx with hx | hx
    · exact absurd h1 hx
    · rw [if_pos]
      exact List.length_eq_zero_iff.mp (by omega)
  · rw [if_neg h1]
    split
    · rfl
    · rename_i h0
      rcases h with h | h
      · exact absurd h h0
      · obtain ⟨j, hj, rfl⟩ := nI_of h0
        rw [nI_clamp (by omega), List.getElem?_eq_none_iff]
        by_cases e : j < A.ss.length
        · exact absurd (nI_lt e (by omega)) h
        · omega
theorem ab_sent_sp {A : ab_A} (h : ¬ A.sp.length ≤ 0) : ab_sent A (-1) = some A.sp := by
  unfold ab_sent
  rw [if_pos rfl, if_neg]
  intro e
  rw [e] at h
  exact h (Nat.le_refl 0)
theorem se_lab {ws : List px_W} (ho : se_ok ws) (hl : ws.length ≤ 6) {j : Nat} (hj : j < ws.length) : lb_at (nI (se_c ws)) j = ws[j].2.2.2 := by
  have h4 : se_c ws < 4 ^ ws.length := se_c_lt ho
  have h5 : (4 : Nat) ^ ws.length ≤ 4 ^ 6 := Nat.pow_le_pow_right (by decide) hl
  rw [lb_nI (by omega)]
  unfold se_c
  rw [tl_d_at _ (fun w hw => ?_) j hj]
  · simp [List.getElem?_eq_getElem hj]
  · simp only [List.getElem?_eq_getElem hw, Option.map_some, Option.getD_some]
    exact (ho _ (List.getElem_mem hw)).2.2.2
/-! ===== the class, as it lies in the heap from n on ===== -/
def we_at (σ : gw_S) (Z : gw_Z) (a : Nat) (wt : Nat → Int) : Prop := σ.2 a = some (.inr (7, [.ref (a + 1)])) ∧ σ.2 (a + 1) = some (gw_J Z 148 (fun j => iL (wt j)))
theorem we_at_fr {σ σ' : gw_S} {Z : gw_Z} {a lo hi : Nat} {wt : Nat → Int} (h : we_at σ Z a wt) (f : gw_fr σ σ' lo hi) (d : a + 2 ≤ lo ∨ hi ≤ a) : we_at σ' Z a wt := ⟨(f.2 _ (by omega)).trans h.1, (f.2 _ (by omega)).trans h.2⟩
theorem we_at_f2 {σ σ' : gw_S} {Z : gw_Z} {a lo hi lo2 hi2 : Nat} {wt : Nat → Int} (h : we_at σ Z a wt) (f : gw_f2 σ σ' lo hi lo2 hi2) (d : a + 2 ≤ lo ∨ hi ≤ a) (d2 : a + 2 ≤ lo2 ∨ hi2 ≤ a) : we_at σ' Z a wt := ⟨(f.2 _ (by omega) (by omega)).trans h.1, (f.2 _ (by omega) (by omega)).trans h.2⟩
def de_at (σ : gw_S) (Z : gw_Z) (d : Nat) : Prop := σ.2 d = some (.inr (3, [.ref (d + 1), .ref (d + 2)])) ∧ σ.2 (d + 1) = some (gw_Q4 Z 24 (fun i => some (d + 5 + 3 * i))) ∧ rk_any σ Z (d + 2) ∧ ∀ i, i < 24 → rk_any σ Z (d + 5 + 3 * i)
theorem rk_any_f2 {σ σ' : gw_S} {Z : gw_Z} {r lo hi lo2 hi2 : Nat} (h : rk_any σ Z r) (f : gw_f2 σ σ' lo hi lo2 hi2) (d : r + 3 ≤ lo ∨ hi ≤ r) (d2 : r + 3 ≤ lo2 ∨ hi2 ≤ r) : rk_any σ' Z r := by
  obtain ⟨k, fs, fl, h1, h2, h3⟩ := h
  exact ⟨k, fs, fl, (f.2 _ (by omega) (by omega)).trans h1, (f.2 _ (by omega) (by omega)).trans h2, (f.2 _ (by omega) (by omega)).trans h3⟩
theorem de_at_fr {σ σ' : gw_S} {Z : gw_Z} {a lo hi : Nat} (h : de_at σ Z a) (f : gw_fr σ σ' lo hi) (d : a + 77 ≤ lo ∨ hi ≤ a) : de_at σ' Z a := ⟨(f.2 _ (by omega)).trans h.1, (f.2 _ (by omega)).trans h.2.1, rk_any_fr h.2.2.1 f (by omega), fun i hi => rk_any_fr (h.2.2.2 i hi) f (by omega)⟩
theorem de_at_f2 {σ σ' : gw_S} {Z : gw_Z} {a lo hi lo2 hi2 : Nat} (h : de_at σ Z a) (f : gw_f2 σ σ' lo hi lo2 hi2) (d : a + 77 ≤ lo ∨ hi ≤ a) (d2 : a + 77 ≤ lo2 ∨ hi2 ≤ a) : de_at σ' Z a := ⟨(f.2 _ (by omega) (by omega)).trans h.1, (f.2 _ (by omega) (by omega)).trans h.2.1, rk_any_f2 h.2.2.1 f (by omega) (by omega), fun i hi => rk_any_f2 (h.2.2.2 i hi) f (by omega) (by omega)⟩
theorem rc_any_fr {σ σ' : gw_S} {Z : gw_Z} {c lo hi : Nat} (h : rc_any σ Z c) (f : gw_fr σ σ' lo hi) (d : c + 18 ≤ lo ∨ hi ≤ c) : rc_any σ' Z c := by
  obtain ⟨sz, h1, h2, h3⟩ := h
  exact ⟨sz, (f.2 _ (by omega)).trans h1, (f.2 _ (by omega)).trans h2, fun j hj => se_any_fr (h3 j hj) f (by omega)⟩
theorem rc_any_f2 {σ σ' : gw_S} {Z : gw_Z} {c lo hi lo2 hi2 : Nat} (h : rc_any σ Z c) (f : gw_f2 σ σ' lo hi lo2 hi2) (d : c + 18 ≤ lo ∨ hi ≤ c) (d2 : c + 18 ≤ lo2 ∨ hi2 ≤ c) : rc_any σ' Z c := by
  obtain ⟨sz, h1, h2, h3⟩ := h
  exact ⟨sz, (f.2 _ (by omega) (by omega)).trans h1, (f.2 _ (by omega) (by omega)).trans h2, fun j hj => se_any_f2 (h3 j hj) f (by omega) (by omega)⟩
theorem rc_len {σ : gw_S} {Z : gw_Z} {c : Nat} {ss : List (List px_W)} (hl : ss.length ≤ 8) {j : Nat} {ws : List px_W} (h : ss[j]? = some ws) : j < 8 := by
  have := (List.getElem?_eq_some_iff.mp h).1
  omega
theorem rc_at_fr {σ σ' : gw_S} {Z : gw_Z} {c lo hi : Nat} {ss : List (List px_W)} (hl : ss.length ≤ 8) (h : rc_at σ Z c ss) (f : gw_fr σ σ' lo hi) (d : c + 18 ≤ lo ∨ hi ≤ c) : rc_at σ' Z c ss := by
  obtain ⟨h1, h2, h3, h4⟩ := h
  refine ⟨(f.2 _ (by omega)).trans h1, (f.2 _ (by omega)).trans h2, fun j hj => se_any_fr (h3 j hj) f (by omega), fun j ws e => ?_⟩
  have := (List.getElem?_eq_some_iff.mp e).1
  exact ⟨se_at_fr (h4 j ws e).1 f (by omega), (h4 j ws e).2⟩
theorem rc_at_f2 {σ σ' : gw_S} {Z : gw_Z} {c lo hi lo2 hi2 : Nat} {ss : List (List px_W)} (hl : ss.length ≤ 8) (h : rc_at σ Z c ss) (f : gw_f2 σ σ' lo hi lo2 hi2) (d : c + 18 ≤ lo ∨ hi ≤ c) (d2 : c + 18 ≤ lo2 ∨ hi2 ≤ c) : rc_at σ' Z c ss := by
  obtain ⟨h1, h2, h3, h4⟩ := h
  refine ⟨(f.2 _ (by omega) (by omega)).trans h1, (f.2 _ (by omega) (by omega)).trans h2, fun j hj => se_any_f2 (h3 j hj) f (by omega) (by omega), fun j ws e => ?_⟩
  have := (List.getElem?_eq_some_iff.mp e).1
  exact ⟨se_at_f2 (h4 j ws e).1 f (by omega) (by omega), (h4 j ws e).2⟩
theorem rc_at_any {σ : gw_S} {Z : gw_Z} {c : Nat} {ss : List (List px_W)} (h : rc_at σ Z c ss) : rc_any σ Z c := ⟨_, h.1, h.2.1, h.2.2.1⟩
abbrev cw_sw (n c cd s sd : Nat) : Prop := (c = n + 84 ∧ cd = n + 102 ∨ c = n + 102 ∧ cd = n + 84) ∧ (s = n + 120 ∧ sd = n + 122 ∨ s = n + 122 ∧ sd = n + 120)
def cw_at (σ : gw_S) (Z : gw_Z) (n : Nat) (A : ab_A) (c cd s sd : Nat) : Prop :=
  cw_sw n c cd s sd ∧ σ.2 n = some (.inr (0, [.ref (n + 1), .ref (n + 3), .ref (n + 80), .ref (n + 82), .ref c, .ref cd, .ref s, .ref sd, .int (nI A.mk), .int (nI A.ps), .int (nI A.kw), .int (nI A.kc)])) ∧
  (∃ k, k ≤ 240 ∧ tx_at σ Z (n + 1) A.len k A.ch) ∧ de_at σ Z (n + 3) ∧ we_at σ Z (n + 80) A.wt ∧ we_at σ Z (n + 82) A.tt ∧ rc_at σ Z c A.ss ∧ rc_any σ Z cd ∧ se_at σ Z s A.sp ∧ se_any σ Z sd
def cw (σ : gw_S) (Z : gw_Z) (n : Nat) (A : ab_A) : Prop := ∃ c cd s sd, cw_at σ Z n A c cd s sd
/-- what lies elsewhere may change, and the heap may grow -/
theorem cw_mv {σ σ' : gw_S} {Z : gw_Z} {n : Nat} {A : ab_A} (h : cw σ Z n A) (f : ∀ b, n ≤ b → b < n + 124 → σ'.2 b = σ.2 b) (hA : ab_ok A) : cw σ' Z n A := by
  obtain ⟨c, cd, s, sd, hsw, h0, ⟨k, hk, h1⟩, h2, h3, h4, h5, h6, h7, h8⟩ := h
  obtain ⟨w1, w2⟩ := id hsw
  have hl := hA.2.2.1
  obtain ⟨σ1, e1⟩ : ∃ τ : gw_S, τ = (σ.1, σ'.2) := ⟨_, rfl⟩
  have e2 : ∀ b, n ≤ b → b < n + 124 → σ1.2 b = σ.2 b := by rw [e1]; exact f
  obtain ⟨p1, p2, p3, p4⟩ := h2
  obtain ⟨q1, q2, q3, q4⟩ := h5
  obtain ⟨sz, r1, r2, r3⟩ := h6
  obtain ⟨b7, t1, t2, t3⟩ := h7
  obtain ⟨b8, l8, z8, u1, u2⟩ := h8
  have rk : ∀ r, n ≤ r → r + 3 ≤ n + 124 → rk_any σ Z r → rk_any σ' Z r := fun r a b hr => by
    obtain ⟨k, fs, fl, x1, x2, x3⟩ := hr
    exact ⟨k, fs, fl, (f _ (by omega) (by omega)).trans x1, (f _ (by omega) (by omega)).trans x2, (f _ (by omega) (by omega)).trans x3⟩
  have sa : ∀ r, n ≤ r → r + 2 ≤ n + 124 → se_any σ Z r → se_any σ' Z r := fun r a b hr => by
    obtain ⟨b9, l9, z9, x1, x2⟩ := hr
    exact ⟨b9, l9, z9, (f _ (by omega) (by omega)).trans x1, (f _ (by omega) (by omega)).trans x2⟩
  refine ⟨c, cd, s, sd, hsw, (f _ (by omega) (by omega)).trans h0, ⟨k, hk, (f _ (by omega) (by omega)).trans h1.1, (f _ (by omega) (by omega)).trans h1.2⟩, ⟨(f _ (by omega) (by omega)).trans p1, (f _ (by omega) (by omega)).trans p2, rk _ (by omega) (by omega) p3, fun i hi => rk _ (by omega) (by omega) (p4 i hi)⟩,
    ⟨(f _ (by omega) (by omega)).trans h3.1, (f _ (by omega) (by omega)).trans h3.2⟩, ⟨(f _ (by omega) (by omega)).trans h4.1, (f _ (by omega) (by omega)).trans h4.2⟩,
    ⟨(f _ (by omega) (by omega)).trans q1, (f _ (by omega) (by omega)).trans q2, fun j hj => sa _ (by omega) (by omega) (q3 j hj), fun j ws e => ?_⟩, ⟨sz, (f _ (by omega) (by omega)).trans r1, (f _ (by omega) (by omega)).trans r2, fun j hj => sa _ (by omega) (by omega) (r3 j hj)⟩,
    ⟨b7, (f _ (by omega) (by omega)).trans t1, (f _ (by omega) (by omega)).trans t2, t3⟩, ⟨b8, l8, z8, (f _ (by omega) (by omega)).trans u1, (f _ (by omega) (by omega)).trans u2⟩⟩
  have hj := (List.getElem?_eq_some_iff.mp e).1
  obtain ⟨⟨b9, y1, y2, y3⟩, y4⟩ := q4 j ws e
  exact ⟨⟨b9, (f _ (by omega) (by omega)).trans y1, (f _ (by omega) (by omega)).trans y2, y3⟩, y4⟩
abbrev cw_ad (c s a : Nat) : Prop := a = s ∨ ∃ j, j < 8 ∧ a = c + 2 + 2 * j
