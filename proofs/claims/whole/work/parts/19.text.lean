/-! the text as it lies in the heap; its characters -/
def tx_at (σ : gw_S) (Z : gw_Z) (t len k : Nat) (ch : Nat → Nat) : Prop := σ.2 t = some (.inr (6, [.ref (t + 1), .int (nI len), .int (nI k)])) ∧ σ.2 (t + 1) = some (gw_Ch Z 240 (fun j => nI (ch j)))
theorem tx_at_fr {σ σ' : gw_S} {Z : gw_Z} {t len k lo hi : Nat} {ch : Nat → Nat} (h : tx_at σ Z t len k ch) (f : gw_fr σ σ' lo hi) (d : t + 2 ≤ lo ∨ hi ≤ t) : tx_at σ' Z t len k ch := ⟨(f.2 _ (by omega)).trans h.1, (f.2 _ (by omega)).trans h.2⟩
def tx_c (len : Nat) (ch : Nat → Nat) (k : Nat) : Int32 := if k < len then nI (ch k) else (-1)
def tx_l (x : Int32) : Nat := if x < nI 97 ∨ nI 122 < x then 0 else 1
theorem tx_l_c {len : Nat} {ch : Nat → Nat} (hch : ∀ j, ch j < 127) (k : Nat) : tx_l (tx_c len ch k) = if px_lt len ch k then 1 else 0 := by
  unfold tx_l tx_c px_lt
  by_cases h : k < len
  · have h1 := hch k
    have e1 : nI (ch k) < nI 97 ↔ ch k < 97 := nI_ltI (by omega) (by omega)
    have e2 : nI 122 < nI (ch k) ↔ 122 < ch k := nI_ltI (by omega) (by omega)
    simp only [h, if_true, e1, e2, decide_true, Bool.true_and]
    by_cases h2 : 97 ≤ ch k
    · by_cases h3 : ch k ≤ 122
      · rw [if_neg (by omega), if_pos (by simp [h2, h3])]
      · rw [if_pos (by omega), if_neg (by simp [h3])]
    · rw [if_pos (by omega), if_neg (by simp [h2])]
  · simp only [h, if_false, decide_false, Bool.false_and]
    rw [if_pos (Or.inl (by decide))]
    rfl
theorem tx_c_eq {len : Nat} {ch : Nat → Nat} (hch : ∀ j, ch j < 127) (k : Nat) {c : Nat} (hc : c < 127) : tx_c len ch k = nI c ↔ px_is len ch c k = true := by
  unfold tx_c px_is
  by_cases h : k < len
  · have h1 := hch k
    simp only [h, if_true, decide_true, Bool.true_and, decide_eq_true_eq]
    exact nI_eq (by omega) (by omega)
  · simp only [h, if_false, decide_false, Bool.false_and]
    constructor
    · intro q
      have h2 := nI_toInt (show c < 2 ^ 31 by omega)
      rw [← q] at h2
      exact absurd h2 (by have : ((-1 : Int32)).toInt = -1 := by decide
                          rw [this]; omega)
    · intro q; cases q
def by_at (w : Int64) (i : Nat) : Nat := w.toBitVec.toNat / 2 ^ (8 * i) % 256
theorem by_lt (w : Int64) (i : Nat) : by_at w i < 256 := Nat.mod_lt _ (by decide)
theorem by_sh : ∀ i, i < 8 → ((nI (8 * i)).toInt64.toUInt64 &&& Int64.toUInt64 63) = UInt64.ofNat (8 * i) := by decide
theorem by_l2i (u : UInt64) : u.toInt64.toInt32.toBitVec.toNat = u.toNat % 4294967296 := by
  have e : u.toInt64 = lN u.toNat := by
    apply Int64.toBitVec_inj.mp
    show u.toBitVec = BitVec.ofNat 64 u.toBitVec.toNat
    rw [BitVec.ofNat_toNat, BitVec.setWidth_eq]
  rw [e, lN_i]
  show (BitVec.ofNat 32 u.toNat).toNat = _
  rw [BitVec.toNat_ofNat]
theorem by_u (w : Int64) {i : Nat} (hi : i < 8) : ((w.toUInt64 >>> ((nI (8 * i)).toInt64.toUInt64 &&& Int64.toUInt64 63)).toInt64.toInt32 &&& nI 255) = nI (by_at w i) := by
  rw [pk_and _ (m := nI 255) 8 (by decide), by_sh i hi, by_l2i, UInt64.toNat_shiftRight]
  congr 1
  have h1 : (UInt64.ofNat (8 * i)).toNat = 8 * i := UInt64.toNat_ofNat_of_lt' (by show 8 * i < 18446744073709551616; omega)
  rw [h1, Nat.mod_eq_of_lt (show 8 * i < 64 by omega), Nat.shiftRight_eq_div_pow]
  show w.toBitVec.toNat / 2 ^ (8 * i) % 4294967296 % 2 ^ 8 = _
  rw [by_at]
  omega
theorem px_b_nI (h : Int32) : px_b h = nI (px_B h) := by
  unfold px_B
  apply Int32.toBitVec_inj.mp
  show (px_b h).toBitVec = BitVec.ofNat 32 (px_b h).toBitVec.toNat
  rw [BitVec.ofNat_toNat, BitVec.setWidth_eq]
theorem px_B_lt (h : Int32) : px_B h < 32 := by
  obtain ⟨j, hj, e⟩ := pk_andE (h ^^^ (h.toUInt32 >>> ((15 : Int32).toUInt32 &&& Int32.toUInt32 31)).toInt32) (m := 31) 5 (by decide)
  have e2 : px_b h = nI j := e
  rw [px_B, e2, pk_tn (by omega)]
  exact hj
/-- Math.max -/
theorem kx_l : Cond.methodLink "LabelLearner$Text" 72 Lib.Math.max.name ∈ gw_ws := gw_in_t 285 (by decide +kernel) rfl
theorem kx_s : Cond.static Lib.Math.max.name ∈ gw_ws := gw_in_t 286 (by decide +kernel) rfl
theorem kx_c : Cond.code Lib.Math.max.name Lib.Math.max.code 2 (some .int) ∈ gw_ws := gw_in_t 287 (by decide +kernel) rfl
theorem kx_i : Cond.initialized "java/lang/Math" ∈ gw_ws := gw_in_t 9 (by decide +kernel) rfl
theorem gw_max {X : gw_C} {cc : ByteArray} {q : gw_N} {σ : gw_S} {ce sl pc : Nat} {L : List (Nat × Value)} {st : List Value} (hX : gw_ok X cc "LabelLearner$Text" q) (d : decode cc pc = .ok (.invokestatic 72, 3)) {x y : Int32} (h1 : 1 ≤ q.2.1) (h2 : (st.map fun v => v.category).sum + 13 ≤ q.2.2.1) (h3 : ce ≤ q.2.2.2.1) (h4 : sl ≤ q.2.2.2.2) (kk : gw_W X σ ce sl (pc + 3) L (.int (if x < y then y else x) :: st)) : gw_W X σ ce sl pc L (.int y :: .int x :: st) := by
  intro H locs ls hG hS hL
  have hw := hX.2.2.2.2.1
  have hR : X.1.2.2.2 = _ := hX.2.2.1.2.2.1
  exact va_mmax hX.1 hX.2.1 (hX.2.2.1.1.trans hL.1.symm) hX.2.2.2.1 (hw _ kx_l) (hw _ kx_s) (hw _ kx_i) (hw _ kx_c) (by rw [hR]; exact h1) (by rw [hR]; exact h2) (by rw [hR]; exact h3) (by rw [hR]; exact h4) d (kk H locs ls hG hS hL)
