/-! ===== methods that may throw (no stack traces are kept) ===== -/
/-- a static of the class C that nobody here writes holds a reference or null -/
def gx_S (C n d : String) (b0 : Nat) (U : State) : Prop := ∃ (c : ClassId) (k : Class) (i : Nat) (f : Field) (a : Nat) (cell : Cell), U.vm.findClass C = some c ∧ U.fieldFound? C n d = some (c, k, i, f) ∧ f.isStatic = true ∧ k.statics = some a ∧ U.heap[a]? = some cell ∧ cell.vm.isStatics = true ∧ cell.cls = c ∧ f.slot < cell.slots.size ∧ k.staticTypes[f.slot]? = some f.type ∧ a < b0 ∧ (cell.slots[f.slot]? = some .null ∨ ∃ r : Nat, cell.slots[f.slot]? = some (.ref r))
theorem gx_S_mv {C n d : String} {b0 : Nat} {u U : State} (hvm : u.vm.Alike U.vm) (hh : ∀ a, a < b0 → U.heap[a]? = u.heap[a]?) (h : gx_S C n d b0 u) : gx_S C n d b0 U := by
  obtain ⟨c, k, i, f, a, cell, h1, h2, h3, h4, h5, h6, h7, h8, h9, h10, h11⟩ := h
  obtain ⟨k', hi', he⟩ := State.fieldFound?_setVm hvm h2
  exact ⟨c, k', i, f, a, cell, by rw [hvm.findClass]; exact h1, hi', h3, by rw [he]; exact h4, by rw [hh a h10]; exact h5, h6, h7, h8, by rw [he]; exact h9, h10, h11⟩
theorem gx_S_lays {C n d : String} {b0 : Nat} {U : State} (h : gx_S C n d b0 U) (args : Array Value) : (Cond.laysStatic C n d).before args U = true := by
  obtain ⟨c, k, i, f, a, cell, h1, h2, h3, h4, h5, h6, h7, h8, h9, h10, h11⟩ := h
  simp [Cond.before, Cond.holds, Cond.value, h1, h2, h3, h4, h5, h6, h7, h8, h9]
theorem gx_S_ref {C n d : String} {b0 : Nat} {U : State} (h : gx_S C n d b0 U) (args : Array Value) : (Cond.isRef (.static C n d)).before args U = true := by
  obtain ⟨c, k, i, f, a, cell, h1, h2, h3, h4, h5, h6, h7, h8, h9, h10, h11⟩ := h
  have he : (Term.static C n d).eval args U none [] U = cell.slots[f.slot]? := by
    simp [Term.eval, State.fieldNamed?, h2, h3, h4, h5, h6]
  rcases h11 with h11 | ⟨r, h11⟩
  · rw [h11] at he
    simp [Cond.before, Cond.holds, Cond.value, he]
  · rw [h11] at he
    simp [Cond.before, Cond.holds, Cond.value, he]
theorem gx_S_of {C n d : String} {args : Array Value} {s : State} (hl : (Cond.laysStatic C n d).before args s = true) (hr : (Cond.isRef (.static C n d)).before args s = true) : gx_S C n d s.heap.size s := by
  obtain ⟨c, k, i, f, a, cell, h1, h2, h3, h4, h5, h6, h7, h8, h9⟩ := Cond.laysStatic_spec hl
  obtain ⟨u, hu⟩ := Cond.staticRefV h2 h3 h4 h5 h6 hr
  refine ⟨c, k, i, f, a, cell, h1, h2, h3, h4, h5, h6, h7, h8, h9, (Array.getElem?_eq_some_iff.mp h5).1, ?_⟩
  obtain ⟨v, hv⟩ := u
  cases v with
  | null => exact Or.inl hu
  | ref r => exact Or.inr ⟨r, hu⟩
  | _ => simp [Value.isRef] at hv
def gx_isT (w : Cond) : Bool := match w with
  | .castable _ _ => true
  | .declares _ => true
  | _ => false
def gx_tl : List Cond := tables_1.filter gx_isT
def gx_sl : List (Nat × String) := [(67, "the text is no corpus"), (92, "the text is no speech"), (173, "no such sentence"), (101, "the speech is not in the corpus"), (188, "no such word"), (115, "no such feature"), (120, "passes are 1 to 6"), (124, "there is no corpus"), (131, "no such weight")]
/-- what is known where a method begins that may throw -/
def gx_K (b0 : Nat) (U : State) : Prop := gx_S Bundle.tN "UNASSIGNED_STACK" Bundle.steD b0 U ∧ gx_S Bundle.tN "SUPPRESSED_SENTINEL" Bundle.listD b0 U ∧ (∀ w ∈ gx_tl, va_Nw w U) ∧ (∀ q ∈ gx_sl, (∃ sa : Nat, vk_R "LabelLearner" q.1 q.2 sa U)) ∧ ∀ c c', U.vm.findClass "java/lang/IllegalStateException" = some c → U.vm.findClass "java/lang/IllegalArgumentException" = some c' → U.vm.assignable c c' = false
theorem gx_K_mv {b0 : Nat} {s U : State} (hW : s.WarmedH U.vm) (hh : ∀ a, a < b0 → U.heap[a]? = s.heap[a]?) (h : gx_K b0 s) : gx_K b0 U := by
  refine ⟨gx_S_mv hW.alike hh h.1, gx_S_mv hW.alike hh h.2.1, fun w hw => ?_, fun q hq => ?_, fun c c' h1 h2 => ?_⟩
  · have h1 := h.2.2.1 w hw
    have h2 : gx_isT w = true := (List.mem_filter.mp hw).2
    cases w with
    | castable a b => exact va_Nw.warmC hW h1
    | declares x => exact va_Nw.warmD hW h1
    | _ => cases h2
  · obtain ⟨sa, h1⟩ := h.2.2.2.1 q hq
    exact ⟨sa, vk_R.warm hW h1⟩
  · rw [hW.alike.findClass] at h1 h2
    rw [hW.alike.assignable]
    exact h.2.2.2.2 c c' h1 h2
/-! contracts -/
def gx_Pc (Z : gw_Z) (b0 : Nat) (σ : gw_S) (av : List Value) : Array Value → State → Prop := va_Pc av (fun U => gw_K Z U ∧ gw_H Z b0 σ U.heap ∧ gx_K b0 U)
theorem gx_blind (Z : gw_Z) (b0 : Nat) (σ : gw_S) (av : List Value) : FrameBlind (gx_Pc Z b0 σ av) := fun a U g mk h => ⟨h.1, gw_K_vm (s := U) (U := U.calling g mk a) rfl h.2.1, h.2.2.1, gx_K_mv (s := U) (U := U.calling g mk a) (State.WarmedH.refl U) (fun _ _ => rfl) h.2.2.2⟩
def gx_Q (Z : gw_Z) (b0 : Nat) (post : Option Value → gw_S → Prop) (px : String → gw_S → Prop) (mc ms : Nat) : Array Value → State → Outcome → State → Prop := fun a s0 o t =>
  (gw_Qc Z b0 post a s0 o t ∧ ∃ L, FrameEnd s0 o t L mc ms ∧ ∀ z ∈ L, b0 ≤ z.base) ∨
  ∃ (q : Addr) (E : String) (ce : Cell) (L : List Loc) (σ' : gw_S), o = .threw q ∧ px E σ' ∧ gw_H Z b0 σ' t.heap ∧ va_F (fun z => b0 ≤ z) s0 t ∧ t.heap[q]? = some ce ∧ ce.vm = .none ∧ s0.vm.findClass E = some ce.cls ∧ s0.WarmedH t.vm ∧ s0.sameButNew ({ t with vm := s0.vm } : State) L mc ms ∧ ∀ z ∈ L, b0 ≤ z.base
def gx_M (l : Launch) (y : MethodName) (cc : ByteArray) (q : gw_N) (ret : Option FieldType) (Z : gw_Z) (b0 : Nat) (σ : gw_S) (av : List Value) (post : Option Value → gw_S → Prop) (px : String → gw_S → Prop) : Prop :=
  MetFree l y (headSpec (.code y cc q.1 ret :: gw_ws) { frames := q.2.1, cells := q.2.2.2.1, slots := q.2.2.2.2, locals := q.2.2.1 }) (gx_Pc Z b0 σ av) (fun _ _ _ _ _ => True) (gx_Q Z b0 post px q.2.2.2.1 q.2.2.2.2)
def gx_end (X : gw_C) (post : Option Value → gw_S → Prop) (px : String → gw_S → Prop) (mc ms : Nat) : State → Prop := fun t => ∃ o, t.status = .running ∧ Ended t X.2.1.2.2.2 o ∧ gx_Q (gw_z X) (gw_b X) post px mc ms (gw_a X) (gw_s X) o t
/-- what a walk of such a method has besides -/
def gx_ok (X : gw_C) : Prop := gx_K (gw_b X) (gw_s X) ∧ X.1.2.1.stackTraces = false ∧ (∀ x ∈ X.2.2.1.2.exceptionTable.toList, False) ∧ gw_b X ≤ (gw_s X).heap.size
theorem gx_M_of {l : Launch} {y : MethodName} {cc : ByteArray} {q : gw_N} {ret : Option FieldType} {Z : gw_Z} {b0 : Nat} {σ : gw_S} {av : List Value} {post : Option Value → gw_S → Prop} {px : String → gw_S → Prop} (hy : plainName y.cls = true) (ha : (lg_sl av).length ≤ q.1) (hl0 : l.stackTraces = false)
    (body : ∀ X : gw_C, gw_ok X cc y.cls q → X.1.2.1 = l → gw_z X = Z → gw_b X = b0 → X.2.2.1.1.sig.returnType = ret → X.2.2.1.1.name = y.name → X.2.2.2.2 = gx_end X post px q.2.2.2.1 q.2.2.2.2 → gx_ok X → gw_W X σ 0 0 0 (lv_args 0 av) []) : gx_M l y cc q ret Z b0 σ av post px := by
  refine MetFree.of_bodyS (code := cc) (maxLocals := q.1) (ret := ret) hy ?_ ?_
  · intro args s m h hn
    obtain ⟨meth, c, h1, h2, h3, h4, h5, h6, -, -⟩ := Cond.code_spec hn (atoms_spec (ws := .code y cc q.1 ret :: gw_ws) h _ List.mem_cons_self)
    exact ⟨meth, c, h1, h2, h3, h4, h5, h6⟩
  · intro p e s m args below meth c s₁ B hml hv _
    obtain ⟨rfl, hK, hG, hK9⟩ := hv
    have hts := atoms_spec (ws := .code y cc q.1 ret :: gw_ws) B.pre
    have hl := lv_entry av (n := q.1) ha
    have hh0 : s₁.heap = s.heap := by rw [B.state]; rfl
    have htab : ∀ x ∈ c.exceptionTable.toList, False := by
      obtain ⟨meth9, c9, h1, h2, -, -, -, -, h7, -⟩ := Cond.code_spec B.named (hts _ List.mem_cons_self)
      cases Option.some.inj (h1.symm.trans B.method)
      cases Option.some.inj (h2.symm.trans (Stand.of_body B).code)
      intro x hx
      rw [Array.isEmpty_iff.mp h7] at hx
      cases hx
    have h9 := body ((p, l, e, { frames := q.2.1, cells := q.2.2.2.1, slots := q.2.2.2.2, locals := q.2.2.1 }), (s, m, av.toArray, below), (meth, c), (Z, b0, q.1), fun t => ∃ o, t.status = .running ∧ Ended t below o ∧ gx_Q Z b0 post px q.2.2.2.1 q.2.2.2.2 av.toArray s o t)
      ⟨B.exec, B.bytes, ⟨hml, rfl, rfl, B.notSynchronized⟩, findClass_of_methodNamed B.named, fun w hw => hts w (List.mem_cons_of_mem _ hw), hK⟩ rfl rfl rfl B.returns (name_of_methodNamed B.named B.method).1 rfl ⟨hK9, hl0, htab, by show b0 ≤ s.heap.size; rw [hG.1]; exact hG.2.1.1⟩ s.heap [] _ hG va_S.rf hl
    rw [← lg_entry_eq] at h9
    obtain ⟨t, a1, o, b1, b2, b3⟩ := h9 s₁ hh0 (Stand.of_body B)
    exact ⟨t, o, a1, b1, b2, b3⟩
section GXR
variable {X : gw_C} {cc : ByteArray} {own : String} {q : gw_N} {σ : gw_S} {ce sl pc : Nat} {L : List (Nat × Value)} {st : List Value} {post : Option Value → gw_S → Prop} {px : String → gw_S → Prop} {mc ms : Nat}
/-- it is enough to reach what says more -/
theorem gx_mono {Q1 : State → Prop} (h : ∀ t, Q1 t → X.2.2.2.2 t) (k : gw_W (X.1, X.2.1, X.2.2.1, X.2.2.2.1, Q1) σ ce sl pc L st) : gw_W X σ ce sl pc L st := by
  intro H locs ls hG hS hL T hT X0
  obtain ⟨t, a1, b1⟩ := k H locs ls hG hS hL T hT X0
  exact ⟨t, a1, h t b1⟩
theorem gx_ret (hQ : X.2.2.2.2 = gx_end X post px mc ms) (k : gw_W (X.1, X.2.1, X.2.2.1, X.2.2.2.1, gw_end X post mc ms) σ ce sl pc L st) : gw_W X σ ce sl pc L st := by
  refine gx_mono (Q1 := gw_end X post mc ms) (fun t h => ?_) k
  rw [hQ]
  obtain ⟨o, b1, b2, b3, b4⟩ := h
  exact ⟨o, b1, b2, Or.inl ⟨b3, b4⟩⟩
theorem gx_okQ {Q1 : State → Prop} (hX : gw_ok X cc own q) : gw_ok (X.1, X.2.1, X.2.2.1, X.2.2.2.1, Q1) cc own q := hX
theorem gx_iret (hX : gw_ok X cc own q) (hQ : X.2.2.2.2 = gx_end X post px mc ms) (hr : X.2.2.1.1.sig.returnType = some .int) (d : decode cc pc = .ok (.ireturn, 1)) {v : Int32} (h1 : ce ≤ mc) (h2 : sl ≤ ms) (hp : post (some (.int v)) σ) : gw_W X σ ce sl pc L [.int v] :=
  gx_ret hQ (gw_iret (X := (X.1, X.2.1, X.2.2.1, X.2.2.2.1, gw_end X post mc ms)) hX rfl hr d h1 h2 hp)
theorem gx_lret (hX : gw_ok X cc own q) (hQ : X.2.2.2.2 = gx_end X post px mc ms) (hr : X.2.2.1.1.sig.returnType = some .long) (d : decode cc pc = .ok (.lreturn, 1)) {v : Int64} (h1 : ce ≤ mc) (h2 : sl ≤ ms) (hp : post (some (.long v)) σ) : gw_W X σ ce sl pc L [.long v] :=
  gx_ret hQ (gw_lret (X := (X.1, X.2.1, X.2.2.1, X.2.2.2.1, gw_end X post mc ms)) hX rfl hr d h1 h2 hp)
theorem gx_aret (hX : gw_ok X cc own q) (hQ : X.2.2.2.2 = gx_end X post px mc ms) {n : String} (hr : X.2.2.1.1.sig.returnType = some (.object n)) (d : decode cc pc = .ok (.areturn, 1)) {a : Nat} (h1 : ce ≤ mc) (h2 : sl ≤ ms) (hp : post (some (.ref a)) σ) : gw_W X σ ce sl pc L [.ref a] :=
  gx_ret hQ (gw_aret (X := (X.1, X.2.1, X.2.2.1, X.2.2.2.1, gw_end X post mc ms)) hX rfl hr d h1 h2 hp)
theorem gx_vret (hX : gw_ok X cc own q) (hQ : X.2.2.2.2 = gx_end X post px mc ms) (hr : X.2.2.1.1.sig.returnType = none) (d : decode cc pc = .ok (.return_, 1)) (h1 : ce ≤ mc) (h2 : sl ≤ ms) (hp : post none σ) : gw_W X σ ce sl pc L [] :=
  gx_ret hQ (gw_vret (X := (X.1, X.2.1, X.2.2.1, X.2.2.2.1, gw_end X post mc ms)) hX rfl hr d h1 h2 hp)
end GXR
