/-! reading: what a typed piece makes of the text, sentences as they lie in the heap -/
def ap_ok (len : Nat) (w : Int64) (x : Int32) : Prop := 1 ≤ x.toInt ∧ x.toInt ≤ 8 ∧ x.toInt + len ≤ 240 ∧ ∀ j, j < x.toNatClampNeg → 32 ≤ by_at w j ∧ by_at w j ≤ 126
def ap_ch (len : Nat) (w : Int64) (c : Nat) (ch : Nat → Nat) : Nat → Nat := fun j => if len ≤ j ∧ j < len + c then by_at w (j - len) else ch j
theorem ap_ch_0 (len : Nat) (w : Int64) (ch : Nat → Nat) : ap_ch len w 0 ch = ch := by
  funext j
  rw [ap_ch, if_neg (by omega)]
theorem ap_ch_s (len : Nat) (w : Int64) (c : Nat) (ch : Nat → Nat) : upd (fun j => nI (ap_ch len w c ch j)) (len + c) (nI (by_at w c)) = fun j => nI (ap_ch len w (c + 1) ch j) := by
  funext j
  simp only [upd, ap_ch]
  by_cases h : j = len + c
  · rw [if_pos h, if_pos (by omega), h, Nat.add_sub_cancel_left]
  · rw [if_neg h]
    by_cases h2 : len ≤ j ∧ j < len + c
    · rw [if_pos h2, if_pos (by omega)]
    · rw [if_neg h2, if_neg (by omega)]
theorem ap_nI {c : Nat} (h : c < 1000) : (nI c).toInt = c ∧ (nI c).toNatClampNeg = c := ⟨nI_toInt (by omega), nI_clamp (by omega)⟩
theorem ap_of {x : Int32} (h1 : ¬ x < nI 1) (h2 : ¬ nI 8 < x) : ∃ c, 1 ≤ c ∧ c ≤ 8 ∧ x = nI c := by
  have h3 : ¬ x < 0 := by
    intro h
    exact h1 (by rw [Int32.lt_iff_toInt_lt] at h ⊢; have := nI_toInt (show 1 < 2 ^ 31 by decide); rw [Int32.toInt_zero] at h; omega)
  obtain ⟨c, hc, rfl⟩ := nI_of h3
  refine ⟨c, ?_, ?_, rfl⟩
  · by_cases h : 1 ≤ c
    · exact h
    · exact absurd ((nI_ltI hc (by decide)).mpr (by omega)) h1
  · by_cases h : c ≤ 8
    · exact h
    · exact absurd ((nI_ltI (by decide) hc).mpr (by omega)) h2
theorem ap_lo {x : Int32} (h : x < nI 1) : ¬ 1 ≤ x.toInt := by
  rw [Int32.lt_iff_toInt_lt, nI_toInt (by decide)] at h
  omega
theorem ap_hi {x : Int32} (h : nI 8 < x) : ¬ x.toInt ≤ 8 := by
  rw [Int32.lt_iff_toInt_lt, nI_toInt (by decide)] at h
  omega
theorem ap_chr {q : Nat} (hq : q < 256) : narrow .char (.int (nI q)) = .int (nI q) := (pk_charN (by omega)).1
theorem ap_i2c {q : Nat} (hq : q < 256) : ((nI q).toUInt32 % 65536).toInt32 = nI q := by
  rw [pk_char, pk_tn (by omega), Nat.mod_eq_of_lt (by omega)]
/-- two pieces of the heap have changed -/
def gw_f2 (σ σ' : gw_S) (lo hi lo2 hi2 : Nat) : Prop := σ'.1 = σ.1 ∧ ∀ b, b < lo ∨ hi ≤ b → b < lo2 ∨ hi2 ≤ b → σ'.2 b = σ.2 b
theorem gw_f2_rf (σ : gw_S) (lo hi lo2 hi2 : Nat) : gw_f2 σ σ lo hi lo2 hi2 := ⟨rfl, fun _ _ _ => rfl⟩
theorem gw_f2_l {σ σ1 σ2 : gw_S} {lo hi lo2 hi2 a b : Nat} (h : gw_f2 σ σ1 lo hi lo2 hi2) (f : gw_fr σ1 σ2 a b) (h1 : lo ≤ a := by omega) (h2 : b ≤ hi := by omega) : gw_f2 σ σ2 lo hi lo2 hi2 := ⟨f.1.trans h.1, fun q g1 g2 => (f.2 q (by omega)).trans (h.2 q g1 g2)⟩
theorem gw_f2_r {σ σ1 σ2 : gw_S} {lo hi lo2 hi2 a b : Nat} (h : gw_f2 σ σ1 lo hi lo2 hi2) (f : gw_fr σ1 σ2 a b) (h1 : lo2 ≤ a := by omega) (h2 : b ≤ hi2 := by omega) : gw_f2 σ σ2 lo hi lo2 hi2 := ⟨f.1.trans h.1, fun q g1 g2 => (f.2 q (by omega)).trans (h.2 q g1 g2)⟩
theorem gw_f2_tr {σ σ1 σ2 : gw_S} {lo hi lo2 hi2 a b c d : Nat} (h : gw_f2 σ σ1 lo hi lo2 hi2) (f : gw_f2 σ1 σ2 a b c d) (h1 : lo ≤ a := by omega) (h2 : b ≤ hi := by omega) (h3 : lo2 ≤ c := by omega) (h4 : d ≤ hi2 := by omega) : gw_f2 σ σ2 lo hi lo2 hi2 := ⟨f.1.trans h.1, fun q g1 g2 => (f.2 q (by omega) (by omega)).trans (h.2 q g1 g2)⟩
theorem tx_at_f2 {σ σ' : gw_S} {Z : gw_Z} {t len k a b c d : Nat} {ch : Nat → Nat} (h : tx_at σ Z t len k ch) (f : gw_f2 σ σ' a b c d) (d1 : t + 2 ≤ a ∨ b ≤ t) (d2 : t + 2 ≤ c ∨ d ≤ t) : tx_at σ' Z t len k ch := ⟨(f.2 _ (by omega) (by omega)).trans h.1, (f.2 _ (by omega) (by omega)).trans h.2⟩
/-- the code of a sentence's labels -/
def se_c (ws : List px_W) : Nat := tl_d (fun w => ((ws[w]?).map (fun x => x.2.2.2)).getD 0) ws.length
theorem se_c_nil : se_c [] = 0 := rfl
theorem se_c_snoc (ws : List px_W) (x : px_W) : se_c (ws ++ [x]) = se_c ws + x.2.2.2 * 4 ^ ws.length := by
  unfold se_c
  rw [List.length_append, List.length_singleton, tl_d]
  congr 1
  · refine tl_d_congr _ fun w hw => ?_
    rw [List.getElem?_append_left hw]
  · rw [List.getElem?_append_right (Nat.le_refl _), Nat.sub_self]
    rfl
/-- labels are four -/
def se_ok (ws : List px_W) : Prop := ∀ x ∈ ws, x.1 < 32 ∧ x.2.1 < 32 ∧ x.2.2.1 < 32 ∧ x.2.2.2 < 4
theorem se_c_lt {ws : List px_W} (h : se_ok ws) : se_c ws < 4 ^ ws.length := by
  refine tl_d_lt _ fun w hw => ?_
  rw [List.getElem?_eq_getElem hw]
  exact (h _ (List.getElem_mem hw)).2.2.2
theorem se_ok_snoc {ws : List px_W} (h : se_ok ws) {x : px_W} (hx : x.1 < 32 ∧ x.2.1 < 32 ∧ x.2.2.1 < 32 ∧ x.2.2.2 < 4) : se_ok (ws ++ [x]) := by
  intro y hy
  rcases List.mem_append.mp hy with h1 | h1
  · exact h y h1
  · rw [List.mem_singleton.mp h1]; exact hx
def se_bk (b : Nat → Int32) (ws : List px_W) : Prop := ∀ (w : Nat) (x : px_W), ws[w]? = some x → b (w * 3 + 0) = nI x.1 ∧ b (w * 3 + 1) = nI x.2.1 ∧ b (w * 3 + 2) = nI x.2.2.1
def se_at (σ : gw_S) (Z : gw_Z) (s : Nat) (ws : List px_W) : Prop := ∃ b : Nat → Int32, σ.2 s = some (.inr (5, [.ref (s + 1), .int (nI (se_c ws)), .int (nI ws.length)])) ∧ σ.2 (s + 1) = some (gw_I Z 18 b) ∧ se_bk b ws
def se_any (σ : gw_S) (Z : gw_Z) (s : Nat) : Prop := ∃ (b : Nat → Int32) (lab sz : Int32), σ.2 s = some (.inr (5, [.ref (s + 1), .int lab, .int sz])) ∧ σ.2 (s + 1) = some (gw_I Z 18 b)
theorem se_at_any {σ : gw_S} {Z : gw_Z} {s : Nat} {ws : List px_W} (h : se_at σ Z s ws) : se_any σ Z s := by
  obtain ⟨b, h0, h1, -⟩ := h
  exact ⟨b, _, _, h0, h1⟩
theorem se_any_f2 {σ σ' : gw_S} {Z : gw_Z} {s a b c d : Nat} (h : se_any σ Z s) (f : gw_f2 σ σ' a b c d) (d1 : s + 2 ≤ a ∨ b ≤ s) (d2 : s + 2 ≤ c ∨ d ≤ s) : se_any σ' Z s := by
  obtain ⟨bb, l1, l2, h0, h1⟩ := h
  exact ⟨bb, l1, l2, (f.2 _ (by omega) (by omega)).trans h0, (f.2 _ (by omega) (by omega)).trans h1⟩
theorem se_at_f2 {σ σ' : gw_S} {Z : gw_Z} {s a b c d : Nat} {ws : List px_W} (h : se_at σ Z s ws) (f : gw_f2 σ σ' a b c d) (d1 : s + 2 ≤ a ∨ b ≤ s) (d2 : s + 2 ≤ c ∨ d ≤ s) : se_at σ' Z s ws := by
  obtain ⟨bb, h0, h1, h2⟩ := h
  exact ⟨bb, (f.2 _ (by omega) (by omega)).trans h0, (f.2 _ (by omega) (by omega)).trans h1, h2⟩
theorem se_at_fr {σ σ' : gw_S} {Z : gw_Z} {s a b : Nat} {ws : List px_W} (h : se_at σ Z s ws) (f : gw_fr σ σ' a b) (d1 : s + 2 ≤ a ∨ b ≤ s) : se_at σ' Z s ws := by
  obtain ⟨bb, h0, h1, h2⟩ := h
  exact ⟨bb, (f.2 _ (by omega)).trans h0, (f.2 _ (by omega)).trans h1, h2⟩
theorem se_any_fr {σ σ' : gw_S} {Z : gw_Z} {s a b : Nat} (h : se_any σ Z s) (f : gw_fr σ σ' a b) (d1 : s + 2 ≤ a ∨ b ≤ s) : se_any σ' Z s := by
  obtain ⟨bb, l1, l2, h0, h1⟩ := h
  exact ⟨bb, l1, l2, (f.2 _ (by omega)).trans h0, (f.2 _ (by omega)).trans h1⟩
theorem se_bk_snoc {b : Nat → Int32} {ws : List px_W} (h : se_bk b ws) (x : px_W) : se_bk (upd (upd (upd b (ws.length * 3 + 0) (nI x.1)) (ws.length * 3 + 1) (nI x.2.1)) (ws.length * 3 + 2) (nI x.2.2.1)) (ws ++ [x]) := by
  intro w y hy
  by_cases e : w < ws.length
  · rw [List.getElem?_append_left e] at hy
    have := h w y hy
    simp only [upd]
    rw [if_neg (by omega), if_neg (by omega), if_neg (by omega), if_neg (by omega), if_neg (by omega), if_neg (by omega), if_neg (by omega), if_neg (by omega), if_neg (by omega)]
    exact this
  · have hl : w = ws.length := by
      have := (List.getElem?_eq_some_iff.mp hy).1
      rw [List.length_append, List.length_singleton] at this
      omega
    subst hl
    rw [List.getElem?_append_right (Nat.le_refl _), Nat.sub_self] at hy
    cases hy
    simp only [upd]
    refine ⟨?_, ?_, ?_⟩
    · rw [if_neg (by omega), if_neg (by omega), if_pos trivial]
    · rw [if_neg (by omega), if_pos trivial]
    · rw [if_pos trivial]
theorem px_f_ok (ch : Nat → Nat) (i e b be : Nat) {lab : Nat} (h : lab < 4) : (px_f ch i e b be lab).1 < 32 ∧ (px_f ch i e b be lab).2.1 < 32 ∧ (px_f ch i e b be lab).2.2.1 < 32 ∧ (px_f ch i e b be lab).2.2.2 < 4 := ⟨px_B_lt _, px_B_lt _, px_B_lt _, h⟩
theorem tx_max {a e : Nat} (h : a < e) (he : e ≤ 240) : (if nI a < nI e - nI 2 then nI e - nI 2 else nI a) = nI (if e - a > 1 then e - 2 else a) := by
  by_cases h2 : 2 ≤ e
  · rw [pk_sub h2]
    by_cases h3 : a < e - 2
    · rw [if_pos ((nI_ltI (by omega) (by omega)).mpr h3), if_pos (by omega)]
    · rw [if_neg (fun q => h3 ((nI_ltI (by omega) (by omega)).mp q))]
      by_cases h4 : e - a > 1
      · rw [if_pos h4]; congr 1; omega
      · rw [if_neg h4]
  · obtain rfl : e = 1 := by omega
    obtain rfl : a = 0 := by omega
    decide
/-- is a label behind the word that ends at k -/
def rl_ok (len : Nat) (ch : Nat → Nat) (k : Nat) : Prop := px_is len ch 47 k = true ∧ k + 1 < len ∧ 65 ≤ ch (k + 1) ∧ ch (k + 1) ≤ 68
theorem rl_neg {len : Nat} {ch : Nat → Nat} (hch : ∀ j, ch j < 127) {k : Nat} (h : tx_c len ch k - nI 65 < 0) : ¬ (k < len ∧ 65 ≤ ch k) := by
  rintro ⟨h1, h2⟩
  rw [show tx_c len ch k = nI (ch k) from if_pos h1, pk_sub h2] at h
  exact nI_pos (by have := hch k; omega) h
theorem rl_pos {len : Nat} {ch : Nat → Nat} (hch : ∀ j, ch j < 127) {k : Nat} (h : ¬ tx_c len ch k - nI 65 < 0) : k < len ∧ 65 ≤ ch k ∧ tx_c len ch k - nI 65 = nI (ch k - 65) := by
  by_cases h1 : k < len
  · have e : tx_c len ch k = nI (ch k) := if_pos h1
    rw [e] at h ⊢
    by_cases h2 : 65 ≤ ch k
    · exact ⟨h1, h2, pk_sub h2⟩
    · exact absurd (pk_sneg (by decide) (by omega)) h
  · exact absurd (by rw [show tx_c len ch k = (-1) from if_neg h1]; decide) h
