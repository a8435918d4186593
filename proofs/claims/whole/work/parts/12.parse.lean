/-! pure: the text, read -/
/-- the first place from i on where p doesn't hold; f: no more places than that hold it -/
def px_run (p : Nat → Bool) : Nat → Nat → Nat
  | 0, i => i
  | f + 1, i => if p i then px_run p f (i + 1) else i
/-- k ends the run of p from i -/
def px_end (p : Nat → Bool) (i k : Nat) : Prop := i ≤ k ∧ (∀ j, i ≤ j → j < k → p j = true) ∧ p k = false
theorem px_end_un {p : Nat → Bool} {i k k' : Nat} (h : px_end p i k) (h' : px_end p i k') : k = k' := by
  obtain ⟨a1, a2, a3⟩ := h
  obtain ⟨b1, b2, b3⟩ := h'
  rcases Nat.lt_trichotomy k k' with h | h | h
  · exact absurd (b2 k a1 h) (by rw [a3]; decide)
  · exact h
  · exact absurd (a2 k' b1 h) (by rw [b3]; decide)
theorem px_run_end {p : Nat → Bool} {M : Nat} (hp : ∀ j, p j = true → j < M) : ∀ f i, M ≤ i + f → px_end p i (px_run p f i) := by
  intro f
  induction f with
  | zero =>
    intro i h
    refine ⟨Nat.le_refl _, fun j h1 h2 => ?_, ?_⟩
    · simp only [px_run] at h2; omega
    · cases h3 : p i with
      | false => simp [px_run, h3]
      | true => exact absurd (hp i h3) (by omega)
  | succ f ih =>
    intro i h
    cases h3 : p i with
    | false =>
      simp only [px_run, h3]
      exact ⟨Nat.le_refl _, fun j h1 h2 => by simp at h2; omega, by simpa using h3⟩
    | true =>
      obtain ⟨a1, a2, a3⟩ := ih (i + 1) (by omega)
      simp only [px_run, h3, if_true]
      refine ⟨by omega, fun j h1 h2 => ?_, a3⟩
      by_cases e : j = i
      · rw [e]; exact h3
      · exact a2 j (by omega) h2
def px_lt (len : Nat) (ch : Nat → Nat) (i : Nat) : Bool := decide (i < len) && (decide (97 ≤ ch i) && decide (ch i ≤ 122))
def px_is (len : Nat) (ch : Nat → Nat) (c i : Nat) : Bool := decide (i < len) && decide (ch i = c)
theorem px_lt_iff {len : Nat} {ch : Nat → Nat} {i : Nat} : px_lt len ch i = true ↔ i < len ∧ 97 ≤ ch i ∧ ch i ≤ 122 := by
  simp [px_lt]
theorem px_is_iff {len : Nat} {ch : Nat → Nat} {c i : Nat} : px_is len ch c i = true ↔ i < len ∧ ch i = c := by
  simp [px_is]
def px_skip (len : Nat) (ch : Nat → Nat) (i : Nat) : Nat := px_run (px_is len ch 32) len i
def px_word (len : Nat) (ch : Nat → Nat) (i : Nat) : Nat := px_run (px_lt len ch) len i
theorem px_skip_end (len : Nat) (ch : Nat → Nat) (i : Nat) : px_end (px_is len ch 32) i (px_skip len ch i) := px_run_end (M := len) (fun j h => (px_is_iff.mp h).1) len i (by omega)
theorem px_word_end (len : Nat) (ch : Nat → Nat) (i : Nat) : px_end (px_lt len ch) i (px_word len ch i) := px_run_end (M := len) (fun j h => (px_lt_iff.mp h).1) len i (by omega)
theorem px_skip_of {len : Nat} {ch : Nat → Nat} {i k : Nat} (h : px_end (px_is len ch 32) i k) : px_skip len ch i = k := px_end_un (px_skip_end len ch i) h
theorem px_word_of {len : Nat} {ch : Nat → Nat} {i k : Nat} (h : px_end (px_lt len ch) i k) : px_word len ch i = k := px_end_un (px_word_end len ch i) h
theorem px_end_le {p : Nat → Bool} {M i k : Nat} (hp : ∀ j, p j = true → j < M) (h : px_end p i k) (hi : i ≤ M) : k ≤ M := by
  obtain ⟨a1, a2, -⟩ := h
  by_cases e : k = i
  · omega
  · have := hp (k - 1) (a2 (k - 1) (by omega) (by omega))
    omega
/-! numbers of words -/
def px_h (ch : Nat → Nat) (h : Int32) (i : Nat) : Nat → Int32
  | 0 => h
  | m + 1 => 31 * px_h ch h i m + nI (ch (i + m))
def px_b (h : Int32) : Int32 := (h ^^^ (h.toUInt32 >>> ((15 : Int32).toUInt32 &&& Int32.toUInt32 31)).toInt32) &&& 31
def px_B (h : Int32) : Nat := (px_b h).toBitVec.toNat
/-- a word: its three buckets and its label -/
abbrev px_W : Type := Nat × Nat × Nat × Nat
def px_f (ch : Nat → Nat) (i e b be lab : Nat) : px_W :=
  (px_B (px_h ch 7 i (e - i)), px_B (px_h ch (31 * 7 + 45) (if e - i > 1 then e - 2 else i) (e - (if e - i > 1 then e - 2 else i))), px_B (px_h ch (31 * 7 + 60) b (be - b)), lab)
/-- words from i on, wd of them read before, the last one from b to be -/
def px_go (len : Nat) (ch : Nat → Nat) (lb : Bool) : Nat → Nat → Nat → Nat → List px_W → Option (Nat × List px_W)
  | 0, _, _, _, _ => none
  | f + 1, i, b, be, acc =>
    if px_lt len ch i then
      let e := px_word len ch i
      if e - i > 6 ∨ acc.length = 6 then none else
      if lb then
        if px_is len ch 47 e ∧ e + 1 < len ∧ 65 ≤ ch (e + 1) ∧ ch (e + 1) ≤ 68 then
          let k := px_skip len ch (e + 2)
          if k = e + 2 ∧ px_lt len ch (e + 2) then none else px_go len ch lb f k i e (acc ++ [px_f ch i e b be (ch (e + 1) - 65)])
        else none
      else
        px_go len ch lb f (px_skip len ch e) i e (acc ++ [px_f ch i e b be 0])
    else some (i, acc)
def px_S (len : Nat) (ch : Nat → Nat) (lb : Bool) (i : Nat) : Option (Nat × List px_W) :=
  match px_go len ch lb 8 (px_skip len ch i) (px_skip len ch i) (px_skip len ch i) [] with
  | some (k, ws) => if ws = [] then none else some (k, ws)
  | none => none
/-- sentences: at most f more -/
def px_C (len : Nat) (ch : Nat → Nat) : Nat → Nat → List (List px_W) → Option (List (List px_W))
  | 0, _, _ => none
  | f + 1, i, acc => match px_S len ch true i with
    | none => none
    | some (k, ws) => if px_is len ch 59 k then px_C len ch f (k + 1) (acc ++ [ws]) else if k = len then some (acc ++ [ws]) else none
