/-! what a decoding stands on: the decoder at d, weights at a, a sentence of N words at s -/
def dc_E (σ : gw_S) (Z : gw_Z) (d a s : Nat) (wt : Nat → Int) (b : Nat → Int32) (lab : Int32) (N : Nat) : Prop :=
  σ.2 d = some (.inr (3, [.ref (d + 1), .ref (d + 2)])) ∧ σ.2 (d + 1) = some (gw_Q4 Z 24 (fun i => some (d + 5 + 3 * i))) ∧ σ.2 a = some (.inr (7, [.ref (a + 1)])) ∧ σ.2 (a + 1) = some (gw_J Z 148 (fun j => iL (wt j))) ∧ σ.2 s = some (.inr (5, [.ref (s + 1), .int lab, .int (nI N)])) ∧ σ.2 (s + 1) = some (gw_I Z 18 b) ∧ rk_any σ Z (d + 2) ∧ ∀ i, i < 24 → rk_any σ Z (d + 5 + 3 * i)
/-- they lie apart -/
abbrev dc_D (d a s : Nat) : Prop := (a + 2 ≤ d ∨ d + 77 ≤ a) ∧ (s + 2 ≤ d ∨ d + 77 ≤ s)
theorem dc_E_tail {σ σ' : gw_S} {Z : gw_Z} {d a s : Nat} {wt : Nat → Int} {b : Nat → Int32} {lab : Int32} {N : Nat} (h : dc_E σ Z d a s wt b lab N) (hd : dc_D d a s) {i : Nat} (hi : i < 24) (f : gw_fr σ σ' (d + 5 + 3 * i) (d + 5 + 3 * i + 3)) (k : rk_any σ' Z (d + 5 + 3 * i)) : dc_E σ' Z d a s wt b lab N := by
  obtain ⟨h1, h2, h3, h4, h5, h6, h7, h8⟩ := h
  refine ⟨(f.2 _ (by omega)).trans h1, (f.2 _ (by omega)).trans h2, (f.2 _ (by omega)).trans h3, (f.2 _ (by omega)).trans h4, (f.2 _ (by omega)).trans h5, (f.2 _ (by omega)).trans h6, rk_any_fr h7 f (by omega), fun j hj => ?_⟩
  by_cases e : j = i
  · rw [e]; exact k
  · exact rk_any_fr (h8 j hj) f (by omega)
theorem dc_E_whole {σ σ' : gw_S} {Z : gw_Z} {d a s : Nat} {wt : Nat → Int} {b : Nat → Int32} {lab : Int32} {N : Nat} (h : dc_E σ Z d a s wt b lab N) (hd : dc_D d a s) (f : gw_fr σ σ' (d + 2) (d + 2 + 3)) (k : rk_any σ' Z (d + 2)) : dc_E σ' Z d a s wt b lab N := by
  obtain ⟨h1, h2, h3, h4, h5, h6, h7, h8⟩ := h
  exact ⟨(f.2 _ (by omega)).trans h1, (f.2 _ (by omega)).trans h2, (f.2 _ (by omega)).trans h3, (f.2 _ (by omega)).trans h4, (f.2 _ (by omega)).trans h5, (f.2 _ (by omega)).trans h6, k, fun j hj => rk_any_fr (h8 j hj) f (by omega)⟩
/-- what two labels side by side weigh, what the first one weighs -/
def dc_P (wt : Nat → Int) (l q : Nat) : Int := wt ((33 + l) * 4 + q)
def dc_F (wt : Nat → Int) (q : Nat) : Int := wt (32 * 4 + q)
/-- weights of this size can't run over -/
abbrev dc_B (wt : Nat → Int) : Prop := ∀ j, -1099511627776 ≤ wt j ∧ wt j ≤ 1099511627776
theorem dc_S_bd {wt : Nat → Int} (h : dc_B wt) (B : Nat → Nat) (w l : Nat) : -3298534883328 ≤ wd_W wt B w l ∧ wd_W wt B w l ≤ 3298534883328 := by
  have h0 := h (B (w * 3 + 0) * 4 + l)
  have h1 := h (B (w * 3 + 1) * 4 + l)
  have h2 := h (B (w * 3 + 2) * 4 + l)
  simp only [wd_W, wd_S]
  omega
theorem dc_T_bd {wt : Nat → Int} (h : dc_B wt) (B : Nat → Nat) (N m l : Nat) (hm : m ≤ 5) (hl : l < 4) : ∀ x ∈ tl_T N (wd_W wt B) (dc_P wt) m l, -36283883716608 ≤ x.1 ∧ x.1 ≤ 36283883716608 := by
  intro x hx
  have h1 := tl_T_abs N (wd_W wt B) (dc_P wt) 3298534883328 (fun w l _ => dc_S_bd h B w l) (fun l q _ _ => by have := h ((33 + l) * 4 + q); simp only [dc_P]; omega) m l hl x hx
  omega
theorem dc_top_bd {wt : Nat → Int} (h : dc_B wt) (B : Nat → Nat) (N m l : Nat) (hm : m ≤ 5) (hl : l < 4) : ∀ x ∈ tk_all [] (tl_T N (wd_W wt B) (dc_P wt) m l), -36283883716608 ≤ x.1 ∧ x.1 ≤ 36283883716608 := by
  intro x hx
  rcases tk_mem _ [] trivial x hx with h1 | h1
  · cases h1
  · exact dc_T_bd h B N m l hm hl x h1
theorem nI_or (a b : Nat) : nI a ||| nI b = nI (a ||| b) := by
  apply Int32.toBitVec_inj.mp
  show BitVec.ofNat 32 a ||| BitVec.ofNat 32 b = BitVec.ofNat 32 (a ||| b)
  apply BitVec.eq_of_toNat_eq
  simp only [BitVec.toNat_or, BitVec.toNat_ofNat]
  exact (Nat.or_mod_two_pow).symm
theorem dc_or {wt : Nat → Int} (B : Nat → Nat) (N m l w : Nat) (hm : m < N) (hw : N - 1 - m = w + 1) {lb : Nat} (hlb : lb < 4) : ∀ x ∈ tk_all [] (tl_T N (wd_W wt B) (dc_P wt) m l), nI x.2 ||| nI (lb * 4 ^ w) = nI (x.2 + lb * 4 ^ w) := by
  intro x hx
  rcases tk_mem _ [] trivial x hx with h1 | h1
  · cases h1
  · obtain ⟨e, he⟩ := tl_T_code N _ _ m hm l x h1
    rw [hw] at he
    rw [nI_or, he, tl_or']
    rw [Nat.pow_succ]
    have : lb * 4 ^ w ≤ 3 * 4 ^ w := Nat.mul_le_mul_right _ (by omega)
    have h4 : 0 < 4 ^ w := Nat.pow_pos (by decide)
    omega
theorem lb_shl {lb w : Nat} (hlb : lb < 4) (hw : w < 6) : nI lb <<< (nI (2 * w) &&& 31) = nI (lb * 4 ^ w) := by
  have e : (2 : Nat) ^ (2 * w) = 4 ^ w := by rw [Nat.pow_mul]
  rw [pk_shlN (nI (2 * w) &&& 31) (2 * w) (lb_ss w (by omega)), e]
  rw [e]
  have h1 : 4 ^ w ≤ 4 ^ 5 := Nat.pow_le_pow_right (by decide) (by omega)
  have h2 : lb * 4 ^ w ≤ 3 * 4 ^ 5 := Nat.mul_le_mul (by omega) h1
  omega
theorem dc_len (N : Nat) (S P : Nat → Nat → Int) (m l : Nat) : (tk_all [] (tl_T N S P m l)).length ≤ 2 := by
  rw [tk_len _ [] trivial]; omega
