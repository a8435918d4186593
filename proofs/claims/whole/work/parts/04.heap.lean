/-! ===== heaps as maps: how large, and what lies where ===== -/
abbrev gw_S : Type := Nat × (Nat → Option va_E)
def gw_up (σ : gw_S) (a : Nat) (e : va_E) : gw_S := (σ.1, fun b => if b = a then some e else σ.2 b)
def gw_nw (σ : gw_S) (e : va_E) : gw_S := (σ.1 + 1, fun b => if b = σ.1 then some e else σ.2 b)
theorem gw_up_eq (σ : gw_S) (a : Nat) (e : va_E) : (gw_up σ a e).2 a = some e := by simp [gw_up]
theorem gw_up_ne {σ : gw_S} {a b : Nat} {e : va_E} (h : b ≠ a) : (gw_up σ a e).2 b = σ.2 b := by simp [gw_up, h]
theorem gw_nw_eq (σ : gw_S) (e : va_E) : (gw_nw σ e).2 σ.1 = some e := by simp [gw_nw]
theorem gw_nw_ne {σ : gw_S} {b : Nat} {e : va_E} (h : b ≠ σ.1) : (gw_nw σ e).2 b = σ.2 b := by simp [gw_nw, h]
/-- nothing but what lies from lo up to hi has changed -/
def gw_fr (σ σ' : gw_S) (lo hi : Nat) : Prop := σ'.1 = σ.1 ∧ ∀ b, b < lo ∨ hi ≤ b → σ'.2 b = σ.2 b
theorem gw_fr_rf (σ : gw_S) (lo hi : Nat) : gw_fr σ σ lo hi := ⟨rfl, fun _ _ => rfl⟩
theorem gw_fr_up (σ : gw_S) (a : Nat) (e : va_E) {lo hi : Nat} (h1 : lo ≤ a) (h2 : a < hi) : gw_fr σ (gw_up σ a e) lo hi := ⟨rfl, fun b hb => gw_up_ne (by omega)⟩
theorem gw_fr_tr {σ σ1 σ2 : gw_S} {lo hi lo1 hi1 lo2 hi2 : Nat} (h1 : gw_fr σ σ1 lo1 hi1) (h2 : gw_fr σ1 σ2 lo2 hi2) (a : lo ≤ lo1 := by omega) (b : lo ≤ lo2 := by omega) (c : hi1 ≤ hi := by omega) (d : hi2 ≤ hi := by omega) : gw_fr σ σ2 lo hi :=
  ⟨h2.1.trans h1.1, fun q hq => (h2.2 q (by omega)).trans (h1.2 q (by omega))⟩
abbrev gw_Z : Type := va_G × (Nat → ClassId)
def gw_T (Z : gw_Z) : List (ClassId × FieldType) := [(Z.2 0, .int), (Z.2 1, .long), (Z.2 2, .char), (Z.2 3, .object nR_Se), (Z.2 4, .object nR_Ra)]
abbrev gw_I (Z : gw_Z) (n : Nat) (f : Nat → Int32) : va_E := .inl (Z.2 0, n, .inl f)
abbrev gw_J (Z : gw_Z) (n : Nat) (f : Nat → Int64) : va_E := .inl (Z.2 1, n, .inr (.inl f))
abbrev gw_Ch (Z : gw_Z) (n : Nat) (f : Nat → Int32) : va_E := .inl (Z.2 2, n, .inl f)
abbrev gw_Q3 (Z : gw_Z) (n : Nat) (f : Nat → Option Nat) : va_E := .inl (Z.2 3, n, .inr (.inr (.inr (.inr f))))
abbrev gw_Q4 (Z : gw_Z) (n : Nat) (f : Nat → Option Nat) : va_E := .inl (Z.2 4, n, .inr (.inr (.inr (.inr f))))
/-- the heap is σ from b0 on, and no statics lie there -/
def gw_H (Z : gw_Z) (b0 : Nat) (σ : gw_S) (H : Heap) : Prop := H.size = σ.1 ∧ (b0 ≤ σ.1 ∧ ∀ (a : Nat) (cell : Cell), b0 ≤ a → H[a]? = some cell → cell.vm.isStatics = false) ∧ ∀ a e, σ.2 a = some e → b0 ≤ a ∧ va_at Z.1 nv_cl (a, e) H
theorem gw_ns {D : va_G} {cl : List vw_C} {a : Nat} {e : va_E} {H : Heap} (h : va_at D cl (a, e) H) {cell : Cell} (hc : H[a]? = some cell) : cell.vm.isStatics = false := by
  cases e with
  | inl x =>
    have h1 : H[a]? = some (vp_cell x.1 x.2) := h
    rw [hc] at h1
    cases h1
    obtain ⟨c, n, f | f | f | f | f⟩ := x <;> rfl
  | inr o =>
    obtain ⟨r, -, cell2, q1, q2, q3, -⟩ := h
    have q1 : H[a]? = some cell2 := q1
    rw [hc] at q1
    cases q1
    rw [q3]; rfl
theorem gw_H_lt {Z : gw_Z} {b0 : Nat} {σ : gw_S} {H : Heap} (h : gw_H Z b0 σ H) {a : Nat} {e : va_E} (ha : σ.2 a = some e) : a < σ.1 := by
  have := (h.2.2 a e ha).2.lt
  rw [h.1] at this
  exact this
theorem gw_H_up {Z : gw_Z} {b0 : Nat} {σ : gw_S} {H H1 : Heap} (h : gw_H Z b0 σ H) {a : Nat} {e0 e : va_E} (ha : σ.2 a = some e0) (he : va_at Z.1 nv_cl (a, e) H1) (z : H1.size = H.size) (oq : ∀ q : Nat, q ≠ a → H1[q]? = H[q]?) : gw_H Z b0 (gw_up σ a e) H1 := by
  refine ⟨z.trans h.1, ⟨h.2.1.1, fun q cell hq hc => ?_⟩, fun b f hb => ?_⟩
  · by_cases e9 : q = a
    · subst e9; exact gw_ns he hc
    · exact h.2.1.2 q cell hq (by rw [← oq q e9]; exact hc)
  by_cases hq : b = a
  · subst hq
    rw [gw_up_eq] at hb
    cases hb
    exact ⟨(h.2.2 _ _ ha).1, he⟩
  · rw [gw_up_ne hq] at hb
    exact ⟨(h.2.2 b f hb).1, (h.2.2 b f hb).2.kept (oq b hq)⟩
theorem gw_H_nw {Z : gw_Z} {b0 : Nat} {σ : gw_S} {H H1 : Heap} (h : gw_H Z b0 σ H) {e : va_E} (he : va_at Z.1 nv_cl (H.size, e) H1) (z : H1.size = H.size + 1) (oq : ∀ q : Nat, q < H.size → H1[q]? = H[q]?) : gw_H Z b0 (gw_nw σ e) H1 := by
  refine ⟨by rw [z, h.1]; rfl, ⟨Nat.le_succ_of_le h.2.1.1, fun q cell hq hc => ?_⟩, fun b f hb => ?_⟩
  · by_cases e9 : q = H.size
    · subst e9; exact gw_ns he hc
    · have h9 : q < H.size := by
        have := (Array.getElem?_eq_some_iff.mp hc).1
        omega
      exact h.2.1.2 q cell hq (by rw [← oq q h9]; exact hc)
  by_cases hq : b = σ.1
  · subst hq
    rw [gw_nw_eq] at hb
    cases hb
    exact ⟨h.2.1.1, by rw [← h.1]; exact he⟩
  · rw [gw_nw_ne hq] at hb
    exact ⟨(h.2.2 b f hb).1, (h.2.2 b f hb).2.kept (oq b (by have := gw_H_lt h hb; rw [h.1]; exact this))⟩
theorem gw_one {D : va_G} {cl : List vw_C} {a : Nat} {e : va_E} {H : Heap} (h : va_at D cl (a, e) H) : va_P D cl [(a, e)] H := by
  intro k q hk
  match k, hk with
  | 0, hk => cases hk; exact h
  | k + 1, hk => simp at hk
/-! ===== the words, all of them in one list ===== -/
def gw_ws : List Cond := lw_tbl.filter goodWord
def gw_isN (w : Cond) : Bool := match w with
  | .methodLinkNest _ _ _ _ => true
  | .fieldLinkNest _ _ _ _ _ _ => true
  | _ => false
def gw_nl : List Cond := tables_1.filter gw_isN
theorem gw_in {w : Cond} (h : w ∈ lw_tbl) (g : goodWord w = true) : w ∈ gw_ws := List.mem_filter.mpr ⟨h, g⟩
theorem gw_in_t {w : Cond} (i : Nat) (h : tables_1[i]? = some w) (g : goodWord w = true) : w ∈ gw_ws := gw_in (List.mem_append_right _ (List.mem_of_getElem? h)) g
theorem gw_in_p {w : Cond} (i : Nat) (h : (k2_sels lw_privs)[i]? = some w) (g : goodWord w = true) : w ∈ gw_ws := gw_in (List.mem_append_left _ (List.mem_of_getElem? h)) g
theorem gw_in_n {w : Cond} (i : Nat) (h : tables_1[i]? = some w) (g : gw_isN w = true) : w ∈ gw_nl := List.mem_filter.mpr ⟨List.mem_of_getElem? h, g⟩
theorem gw_good : ∀ w ∈ gw_ws, (w.onTables && w.keeps) = true ∨ ∃ ty, w = .arrayClass ty := fun w h => good_of_word (List.mem_filter.mp h).2
theorem gw_goodIn : GoodIn gw_ws gw_ws := fun w h => ⟨h, gw_good w h⟩
/-- what the tables say, wherever a method of the program begins -/
def gw_K (Z : gw_Z) (U : State) : Prop := va_K Z.1 nv_cl (gw_T Z) U ∧ (∀ w ∈ gw_nl, va_Nw w U) ∧ va_AO nR_Se U ∧ va_AO nR_Ra U
theorem gw_K_warm {Z : gw_Z} {s U : State} (hW : s.WarmedH U.vm) (h : gw_K Z s) : gw_K Z U := by
  refine ⟨va_K.moved hW.alike h.1, fun w hw => ?_, va_AO.moved hW.alike h.2.2.1, va_AO.moved hW.alike h.2.2.2⟩
  have h1 := h.2.1 w hw
  have h2 : gw_isN w = true := (List.mem_filter.mp hw).2
  cases w with
  | methodLinkNest a b c d => exact va_Nw.warmM hW h1
  | fieldLinkNest a b c d e f => exact va_Nw.warmF hW h1
  | _ => cases h2
theorem gw_K_vm {Z : gw_Z} {s U : State} (hW : s.vm = U.vm) (h : gw_K Z s) : gw_K Z U := gw_K_warm (by rw [← hW]; exact State.WarmedH.refl s) h
/-! ===== where a walk stands ===== -/
/-- machine; invocation; method; class numbers, the first cell of its own, how many locals; what is to be reached -/
abbrev gw_C : Type := (Program × Launch × Env × Room) × (State × MethodId × Array Value × List Frame) × (Method × Code) × (gw_Z × Nat × Nat) × (State → Prop)
abbrev gw_s (X : gw_C) : State := X.2.1.1
abbrev gw_m (X : gw_C) : MethodId := X.2.1.2.1
abbrev gw_a (X : gw_C) : Array Value := X.2.1.2.2.1
abbrev gw_R (X : gw_C) : Room := X.1.2.2.2
abbrev gw_z (X : gw_C) : gw_Z := X.2.2.2.1.1
abbrev gw_b (X : gw_C) : Nat := X.2.2.2.1.2.1
abbrev gw_n (X : gw_C) : Nat := X.2.2.2.1.2.2
abbrev gw_w (X : gw_C) (H : Heap) (locs : List Loc) (ce sl : Nat) (g : JFrame) : Prop := W X.1.1 X.1.2.1 X.1.2.2.1 X.1.2.2.2 X.2.1.1 X.2.1.2.1 X.2.1.2.2.1 X.2.1.2.2.2 X.2.2.1.1 X.2.2.1.2 H locs ce sl X.2.2.2.2 g
def gw_W (X : gw_C) (σ : gw_S) (ce sl pc : Nat) (L : List (Nat × Value)) (st : List Value) : Prop :=
  ∀ (H : Heap) (locs : List Loc) (ls : Array Slot), gw_H (gw_z X) (gw_b X) σ H → va_S (fun q => gw_b X ≤ q) (gw_s X).heap H locs → lv_has ls (gw_n X) L → gw_w X H locs ce sl (F0 (gw_m X) pc ls st)
/-- how many locals; its room: frames, words, cells, slots -/
abbrev gw_N : Type := Nat × Nat × Nat × Nat × Nat
def gw_ok (X : gw_C) (cc : ByteArray) (own : String) (q : gw_N) : Prop :=
  X.1.1.tables.exec = Jvm.exec ∧ X.2.2.1.2.code = cc ∧ (X.2.2.1.2.maxLocals = gw_n X ∧ gw_n X = q.1 ∧ gw_R X = { frames := q.2.1, cells := q.2.2.2.1, slots := q.2.2.2.2, locals := q.2.2.1 } ∧ X.2.2.1.1.locks = false) ∧ (gw_s X).vm.findClass own = some (gw_m X).cls ∧ (∀ w ∈ gw_ws, w.before (gw_a X) (gw_s X) = true) ∧ gw_K (gw_z X) (gw_s X)
theorem gw_nL {X : gw_C} {cc : ByteArray} {own : String} {q : gw_N} (hX : gw_ok X cc own q) {i : Nat} (h : i < q.1) : i < gw_n X := by rw [hX.2.2.1.2.1]; exact h
theorem gw_rc {X : gw_C} {cc : ByteArray} {own : String} {q : gw_N} (hX : gw_ok X cc own q) {i : Nat} (h : i ≤ q.2.2.2.1) : i ≤ (gw_R X).cells := by rw [hX.2.2.1.2.2.1]; exact h
theorem gw_rs {X : gw_C} {cc : ByteArray} {own : String} {q : gw_N} (hX : gw_ok X cc own q) {i : Nat} (h : i ≤ q.2.2.2.2) : i ≤ (gw_R X).slots := by rw [hX.2.2.1.2.2.1]; exact h
