/-! pure: how the class's reading of words follows the sentences' -/
/-- what is still to be said of the reading at a loop's head: p: a space stood ahead -/
def rs_R (len : Nat) (ch : Nat → Nat) (lb : Bool) (R : Option (Nat × List px_W)) (p : Bool) (i b be : Nat) (acc : List px_W) : Prop :=
  (p = true → R = px_go len ch lb (8 - acc.length) i b be acc) ∧ (p = false → px_lt len ch i = false → R = some (i, acc)) ∧ (p = false → px_lt len ch i = true → R = none)
theorem rs_no {len : Nat} {ch : Nat → Nat} {lb : Bool} {f i b be : Nat} {acc : List px_W} (h : px_lt len ch i = false) : px_go len ch lb (f + 1) i b be acc = some (i, acc) := by
  simp [px_go, h]
theorem rs_exit {len : Nat} {ch : Nat → Nat} {lb : Bool} {R : Option (Nat × List px_W)} {p : Bool} {i b be : Nat} {acc : List px_W} (h : rs_R len ch lb R p i b be acc) (hl : acc.length ≤ 6) (he : acc.length = 6 ∨ p = false ∨ px_lt len ch i = false) :
    (px_lt len ch i = true → R = none) ∧ (px_lt len ch i = false → R = some (i, acc)) := by
  obtain ⟨h1, h2, h3⟩ := h
  obtain ⟨f, hf⟩ : ∃ f, 8 - acc.length = f + 1 := ⟨7 - acc.length, by omega⟩
  constructor
  · intro hlt
    cases hp : p with
    | false => exact h3 hp hlt
    | true =>
      rw [h1 hp, hf]
      rcases he with h6 | h6 | h6
      · simp [px_go, hlt, h6]
      · rw [hp] at h6; cases h6
      · rw [hlt] at h6; cases h6
  · intro hlt
    cases hp : p with
    | false => exact h2 hp hlt
    | true => rw [h1 hp, hf, rs_no hlt]
/-- the class reads six letters at most -/
theorem rs_word {len : Nat} {ch : Nat → Nat} {i e : Nat} (h1 : i ≤ e) (h2 : e ≤ i + 6) (h3 : ∀ j, i ≤ j → j < e → px_lt len ch j = true) (h4 : e = i + 6 ∨ px_lt len ch e = false) :
    (px_lt len ch e = false ∧ px_word len ch i = e ∧ ¬ e - i > 6) ∨ (px_lt len ch e = true ∧ px_word len ch i - i > 6) := by
  cases h : px_lt len ch e with
  | false => exact Or.inl ⟨rfl, px_word_of ⟨h1, h3, h⟩, by omega⟩
  | true =>
    refine Or.inr ⟨rfl, ?_⟩
    have h5 : e = i + 6 := by
      rcases h4 with h4 | h4
      · exact h4
      · rw [h] at h4; cases h4
    obtain ⟨w1, w2, w3⟩ := px_word_end len ch i
    have h6 : e < px_word len ch i := by
      by_cases h7 : e < px_word len ch i
      · exact h7
      · have h8 : px_word len ch i < e ∨ px_word len ch i = e := by omega
        rcases h8 with h8 | h8
        · rw [h3 _ w1 h8] at w3; cases w3
        · rw [h8, h] at w3; cases w3
    omega
theorem rs_bad {len : Nat} {ch : Nat → Nat} {f i e b be : Nat} {acc : List px_W} (hi : px_lt len ch i = true) (h : (px_lt len ch e = false ∧ px_word len ch i = e ∧ ¬ e - i > 6) ∨ (px_lt len ch e = true ∧ px_word len ch i - i > 6)) (hr : ¬ rl_ok len ch e) : px_go len ch true (f + 1) i b be acc = none := by
  simp only [px_go, hi, if_true]
  rcases h with ⟨h1, h2, h3⟩ | ⟨h1, h2⟩
  · rw [h2]
    by_cases h6 : e - i > 6 ∨ acc.length = 6
    · rw [if_pos h6]
    · rw [if_neg h6, if_neg (fun q => hr ⟨q.1, q.2⟩)]
  · rw [if_pos (Or.inl h2)]
theorem rs_good {len : Nat} {ch : Nat → Nat} {f i e b be : Nat} {acc : List px_W} (hi : px_lt len ch i = true) (h : (px_lt len ch e = false ∧ px_word len ch i = e ∧ ¬ e - i > 6) ∨ (px_lt len ch e = true ∧ px_word len ch i - i > 6)) (hr : rl_ok len ch e) (ha : acc.length < 6) :
    px_go len ch true (f + 1) i b be acc = if px_skip len ch (e + 2) = e + 2 ∧ px_lt len ch (e + 2) = true then none else px_go len ch true f (px_skip len ch (e + 2)) i e (acc ++ [px_f ch i e b be (ch (e + 1) - 65)]) := by
  rcases h with ⟨h1, h2, h3⟩ | ⟨h1, h2⟩
  · rw [px_go]
    simp only [hi, if_true, h2]
    rw [if_neg (show ¬ (e - i > 6 ∨ acc.length = 6) by omega), if_pos (show px_is len ch 47 e = true ∧ _ from hr)]
  · have h5 := (px_is_iff.mp hr.1).2
    have h6 := (px_lt_iff.mp h1).2
    omega
theorem rs_plain {len : Nat} {ch : Nat → Nat} {f i e b be : Nat} {acc : List px_W} (hi : px_lt len ch i = true) (h : (px_lt len ch e = false ∧ px_word len ch i = e ∧ ¬ e - i > 6) ∨ (px_lt len ch e = true ∧ px_word len ch i - i > 6)) (ha : acc.length < 6) :
    px_go len ch false (f + 1) i b be acc = if px_lt len ch e = true then none else px_go len ch false f (px_skip len ch e) i e (acc ++ [px_f ch i e b be 0]) := by
  rw [px_go]
  simp only [hi, if_true]
  rcases h with ⟨h1, h2, h3⟩ | ⟨h1, h2⟩
  · rw [h2, h1, if_neg (show ¬ (e - i > 6 ∨ acc.length = 6) by omega)]
    rfl
  · rw [h1, if_pos (Or.inl h2)]
    rfl
theorem rs_skip_id {len : Nat} {ch : Nat → Nat} {e : Nat} (h : px_lt len ch e = true) : px_skip len ch e = e := by
  refine px_skip_of ⟨Nat.le_refl _, fun j h1 h2 => absurd h2 (by omega), ?_⟩
  cases h2 : px_is len ch 32 e with
  | false => rfl
  | true =>
    have h3 := (px_is_iff.mp h2).2
    have h4 := (px_lt_iff.mp h).2
    omega
theorem rs_skip_ge (len : Nat) (ch : Nat → Nat) (e : Nat) : e ≤ px_skip len ch e := (px_skip_end len ch e).1
theorem rs_skip_le {len : Nat} {ch : Nat → Nat} {e : Nat} (hl : len ≤ 240) (h : e ≤ 240) : px_skip len ch e ≤ 240 := px_end_le (M := 240) (fun j hj => by have := (px_is_iff.mp hj).1; omega) (px_skip_end len ch e) h
/-- behind a word with a label -/
theorem rs_next_t {len : Nat} {ch : Nat → Nat} {R : Option (Nat × List px_W)} {i e b be : Nat} {acc : List px_W} (hR : R = px_go len ch true (8 - acc.length) i b be acc) (hi : px_lt len ch i = true) (h : (px_lt len ch e = false ∧ px_word len ch i = e ∧ ¬ e - i > 6) ∨ (px_lt len ch e = true ∧ px_word len ch i - i > 6)) (hr : rl_ok len ch e) (ha : acc.length < 6) :
    rs_R len ch true R (decide (e + 2 < px_skip len ch (e + 2))) (px_skip len ch (e + 2)) i e (acc ++ [px_f ch i e b be (ch (e + 1) - 65)]) := by
  have hf : 8 - acc.length = (8 - (acc ++ [px_f ch i e b be (ch (e + 1) - 65)]).length) + 1 := by
    rw [List.length_append, List.length_singleton]; omega
  obtain ⟨g, hg⟩ : ∃ g, 8 - (acc ++ [px_f ch i e b be (ch (e + 1) - 65)]).length = g + 1 := ⟨6 - acc.length, by rw [List.length_append, List.length_singleton]; omega⟩
  rw [hf, rs_good hi h hr ha] at hR
  have hge := rs_skip_ge len ch (e + 2)
  refine ⟨fun hp => ?_, fun hp hlt => ?_, fun hp hlt => ?_⟩
  · have hp := of_decide_eq_true hp
    rw [if_neg (by omega)] at hR
    exact hR
  · have hp := of_decide_eq_false hp
    have he : px_skip len ch (e + 2) = e + 2 := by omega
    rw [if_neg (by rw [← he, hlt]; simp), hg, rs_no hlt] at hR
    exact hR
  · have hp := of_decide_eq_false hp
    have he : px_skip len ch (e + 2) = e + 2 := by omega
    rw [if_pos ⟨he, by rw [← he]; exact hlt⟩] at hR
    exact hR
/-- behind a word without one -/
theorem rs_next_f {len : Nat} {ch : Nat → Nat} {R : Option (Nat × List px_W)} {i e b be : Nat} {acc : List px_W} (hR : R = px_go len ch false (8 - acc.length) i b be acc) (hi : px_lt len ch i = true) (h : (px_lt len ch e = false ∧ px_word len ch i = e ∧ ¬ e - i > 6) ∨ (px_lt len ch e = true ∧ px_word len ch i - i > 6)) (ha : acc.length < 6) :
    rs_R len ch false R (decide (e < px_skip len ch e)) (px_skip len ch e) i e (acc ++ [px_f ch i e b be 0]) := by
  have hf : 8 - acc.length = (8 - (acc ++ [px_f ch i e b be 0]).length) + 1 := by
    rw [List.length_append, List.length_singleton]; omega
  obtain ⟨g, hg⟩ : ∃ g, 8 - (acc ++ [px_f ch i e b be 0]).length = g + 1 := ⟨6 - acc.length, by rw [List.length_append, List.length_singleton]; omega⟩
  rw [hf, rs_plain hi h ha] at hR
  have hge := rs_skip_ge len ch e
  refine ⟨fun hp => ?_, fun hp hlt => ?_, fun hp hlt => ?_⟩
  · have hp := of_decide_eq_true hp
    have h1 : ¬ px_lt len ch e = true := fun q => by rw [rs_skip_id q] at hp; omega
    rw [if_neg h1] at hR
    exact hR
  · have hp := of_decide_eq_false hp
    have he : px_skip len ch e = e := by omega
    rw [if_neg (by rw [← he, hlt]; simp), hg, rs_no hlt] at hR
    exact hR
  · have hp := of_decide_eq_false hp
    have he : px_skip len ch e = e := by omega
    rw [if_pos (by rw [← he]; exact hlt)] at hR
    exact hR
/-- what a reading of a sentence leaves -/
def rs_post (σ0 σ' : gw_S) (Z : gw_Z) (t s len : Nat) (ch : Nat → Nat) (R : Option (Nat × List px_W)) (v : Option Value) : Prop :=
  ((∃ (k : Nat) (ws : List px_W), R = some (k, ws) ∧ ws ≠ [] ∧ v = some (.int (nI 1)) ∧ k ≤ 240 ∧ tx_at σ' Z t len k ch ∧ se_at σ' Z s ws ∧ se_ok ws ∧ ws.length ≤ 6) ∨
   ((∀ (k : Nat) (ws : List px_W), R = some (k, ws) → ws = []) ∧ se_any σ' Z s ∧ ∃ k, k ≤ 240 ∧ tx_at σ' Z t len k ch ∧ (v = some (.int (nI 0)) ∨ (v = some (.int (nI 1)) ∧ px_lt len ch k = true)))) ∧ gw_f2 σ0 σ' t (t + 2) s (s + 2)
theorem rs_end1 {σ0 σ' : gw_S} {Z : gw_Z} {t s len i : Nat} {ch : Nat → Nat} {R : Option (Nat × List px_W)} {acc : List px_W} (hx : (px_lt len ch i = true → R = none) ∧ (px_lt len ch i = false → R = some (i, acc))) (hi : i ≤ 240) (h : tx_at σ' Z t len i ch) (hs : se_at σ' Z s acc) (ho : se_ok acc) (hl : acc.length ≤ 6) (hf : gw_f2 σ0 σ' t (t + 2) s (s + 2)) (ha : 0 < acc.length) : rs_post σ0 σ' Z t s len ch R (some (.int (nI 1))) := by
  refine ⟨?_, hf⟩
  cases e : px_lt len ch i with
  | true =>
    have hn := hx.1 e
    exact Or.inr ⟨fun k ws q => (by rw [hn] at q; cases q), se_at_any hs, i, hi, h, Or.inr ⟨rfl, e⟩⟩
  | false => exact Or.inl ⟨i, acc, hx.2 e, fun q => (by rw [q] at ha; exact absurd ha (by decide)), rfl, hi, h, hs, ho, hl⟩
theorem rs_end0 {σ0 σ' : gw_S} {Z : gw_Z} {t s len i : Nat} {ch : Nat → Nat} {R : Option (Nat × List px_W)} {acc : List px_W} (hx : (px_lt len ch i = true → R = none) ∧ (px_lt len ch i = false → R = some (i, acc))) (hi : i ≤ 240) (h : tx_at σ' Z t len i ch) (hs : se_at σ' Z s acc) (hf : gw_f2 σ0 σ' t (t + 2) s (s + 2)) (ha : ¬ 0 < acc.length) : rs_post σ0 σ' Z t s len ch R (some (.int (nI 0))) := by
  refine ⟨Or.inr ⟨fun k ws q => ?_, se_at_any hs, i, hi, h, Or.inl rfl⟩, hf⟩
  cases e : px_lt len ch i with
  | true => rw [hx.1 e] at q; cases q
  | false =>
    rw [hx.2 e] at q
    cases q
    exact List.eq_nil_of_length_eq_zero (by omega)
