/-! ===== the law's helpers, that catch ===== -/
def gy_M (l : Launch) (y : MethodName) (cc : ByteArray) (q : gw_N) (ret : Option FieldType) (hh : List (Nat × Nat × Nat × Nat)) (Z : gw_Z) (b0 : Nat) (σ : gw_S) (av : List Value) (post : Option Value → gw_S → Prop) (px : String → gw_S → Prop) : Prop :=
  MetFree l y (headSpec (.codeWith y cc q.1 ret hh :: gw_ws) { frames := q.2.1, cells := q.2.2.2.1, slots := q.2.2.2.2, locals := q.2.2.1 }) (gx_Pc Z b0 σ av) (fun _ _ _ _ _ => True) (gx_Q Z b0 post px q.2.2.2.1 q.2.2.2.2)
def gy_ok (X : gw_C) (hh : List (Nat × Nat × Nat × Nat)) : Prop := gx_K (gw_b X) (gw_s X) ∧ X.1.2.1.stackTraces = false ∧ X.2.2.1.2.exceptionTable.toList = tableOf hh ∧ gw_b X ≤ (gw_s X).heap.size
theorem gy_M_of {hh : List (Nat × Nat × Nat × Nat)} {l : Launch} {y : MethodName} {cc : ByteArray} {q : gw_N} {ret : Option FieldType} {Z : gw_Z} {b0 : Nat} {σ : gw_S} {av : List Value} {post : Option Value → gw_S → Prop} {px : String → gw_S → Prop} (hy : plainName y.cls = true) (ha : (lg_sl av).length ≤ q.1) (hl0 : l.stackTraces = false)
    (body : ∀ X : gw_C, gw_ok X cc y.cls q → X.1.2.1 = l → gw_z X = Z → gw_b X = b0 → X.2.2.1.1.sig.returnType = ret → X.2.2.1.1.name = y.name → X.2.2.2.2 = gx_end X post px q.2.2.2.1 q.2.2.2.2 → gy_ok X hh → gw_W X σ 0 0 0 (lv_args 0 av) []) : gy_M l y cc q ret hh Z b0 σ av post px := by
  refine MetFree.of_bodyS (code := cc) (maxLocals := q.1) (ret := ret) hy ?_ ?_
  · intro args s m h hn
    obtain ⟨m9, meth, c, hn9, h1, h2, h3, h4, -, h5, h6, -⟩ := Cond.codeWith_spec (atoms_spec (ws := .codeWith y cc q.1 ret hh :: gw_ws) h _ List.mem_cons_self)
    cases hn.symm.trans hn9
    exact ⟨meth, c, h1, h2, h3, h4, h5, h6⟩
  · intro p e s m args below meth c s₁ B hml hv _
    obtain ⟨rfl, hK, hG, hK9⟩ := hv
    have hts := atoms_spec (ws := .codeWith y cc q.1 ret hh :: gw_ws) B.pre
    have hl := lv_entry av (n := q.1) ha
    have hh0 : s₁.heap = s.heap := by rw [B.state]; rfl
    have htab : c.exceptionTable.toList = tableOf hh := by
      obtain ⟨m9, meth9, c9, hn9, h1, h2, -, -, h7, -, -, -⟩ := Cond.codeWith_spec (hts _ List.mem_cons_self)
      cases B.named.symm.trans hn9
      cases Option.some.inj (h1.symm.trans B.method)
      cases Option.some.inj (h2.symm.trans (Stand.of_body B).code)
      rw [← h7, table_eq]
    have h9 := body ((p, l, e, { frames := q.2.1, cells := q.2.2.2.1, slots := q.2.2.2.2, locals := q.2.2.1 }), (s, m, av.toArray, below), (meth, c), (Z, b0, q.1), fun t => ∃ o, t.status = .running ∧ Ended t below o ∧ gx_Q Z b0 post px q.2.2.2.1 q.2.2.2.2 av.toArray s o t)
      ⟨B.exec, B.bytes, ⟨hml, rfl, rfl, B.notSynchronized⟩, findClass_of_methodNamed B.named, fun w hw => hts w (List.mem_cons_of_mem _ hw), hK⟩ rfl rfl rfl B.returns (name_of_methodNamed B.named B.method).1 rfl ⟨hK9, hl0, htab, by show b0 ≤ s.heap.size; rw [hG.1]; exact hG.2.1.1⟩ s.heap [] _ hG va_S.rf hl
    rw [← lg_entry_eq] at h9
    obtain ⟨t, a1, o, b1, b2, b3⟩ := h9 s₁ hh0 (Stand.of_body B)
    exact ⟨t, o, a1, b1, b2, b3⟩
def gy_cal (y : MethodName) (cc : ByteArray) (maxL : Nat) (ret : Option FieldType) (hh : List (Nat × Nat × Nat × Nat)) (n : Nat) : Prop := Cond.codeWith y cc maxL ret hh ∈ gw_ws ∧ Cond.initialized y.cls ∈ gw_ws ∧ y.cls ≠ "java/lang/invoke/MethodHandle" ∧ y.cls ≠ "java/lang/invoke/VarHandle" ∧ (parseMethodDescriptor y.desc).map (fun d => d.parameters.length) = some n
theorem gy_cal_in {y : MethodName} {cb : ByteArray} {maxL n : Nat} {ret : Option FieldType} {hh : List (Nat × Nat × Nat × Nat)} (h : gy_cal y cb maxL ret hh n) : GoodIn gw_ws (.codeWith y cb maxL ret hh :: gw_ws) := fun w hw => by
  rcases List.mem_cons.mp hw with rfl | h1
  · exact ⟨h.1, gw_good _ h.1⟩
  · exact ⟨h1, gw_good _ h1⟩
def gy_sS (own : String) (idx : Nat) (y : MethodName) (cb : ByteArray) (maxL : Nat) (ret : Option FieldType) (hh : List (Nat × Nat × Nat × Nat)) (n : Nat) : Prop := gy_cal y cb maxL ret hh n ∧ Cond.static y ∈ gw_ws
section GYB
variable {p : Program} {l : Launch} {e : Env} {R : Room} {s : State} {m : MethodId} {args : Array Value} {below : List Frame} {meth : Method} {c : Code} {locs : List Loc} {cells slots : Nat}
/-- the callee's contract, used by a caller that stands at U with the arguments taken off its stack -/
theorem gy_run {hh : List (Nat × Nat × Nat × Nat)} {y : MethodName} {cb : ByteArray} {q : gw_N} {ret : Option FieldType} {Z : gw_Z} {b0 : Nat} {σ : gw_S} {av : List Value} {post : Option Value → gw_S → Prop} {px : String → gw_S → Prop} (hM : gy_M l y cb q ret hh Z b0 σ av post px)
    {U : State} (X : Stand p l e R s m args below meth c U locs cells slots) {g : JFrame} (hg : g.method = m) (hsize : g.locals.size = c.maxLocals) {ig : Instr} (hdg : decode c.code g.pc = .ok (ig, 3)) (hw : 2 * g.monitorRoom + (g.stack.map fun v => v.category).sum ≤ 8) {mk : MethodId} (hn : U.methodNamed? y = some mk)
    (hws : ∀ w ∈ (Cond.codeWith y cb q.1 ret hh :: gw_ws), w.before av.toArray U = true) (hini : (Cond.initialized y.cls).before av.toArray U = true) (hPc : gx_Pc Z b0 σ av av.toArray U) (hR : q.2.1 + 1 ≤ R.frames ∧ 8 + (q.1 + 11) + q.2.2.1 ≤ R.locals) (hc : cells + q.2.2.2.1 ≤ R.cells ∧ slots + q.2.2.2.2 ≤ R.slots) :
    (∃ (v : Option Value) (σ' : gw_S) (V : State) (L' : List Loc), Stand p l e R s m args below meth c V (locs ++ L') (cells + q.2.2.2.1) (slots + q.2.2.2.2) ∧ (∀ z ∈ L', b0 ≤ z.base) ∧ post v σ' ∧ gw_H Z b0 σ' V.heap ∧ U.heap.size ≤ V.heap.size ∧ (∀ a : Nat, a < U.heap.size → ¬ b0 ≤ a → V.heap[a]? = U.heap[a]?) ∧
      Steps p.tables e below (doInvoke e (U.setTop g) [] mk av.toArray).1 (V.setTop { g with pc := g.pc + 3, stack := v.toList ++ g.stack })) ∨
    (∃ (x : Addr) (E : String) (cx : Cell) (σ' : gw_S) (V : State) (L' : List Loc), Stand p l e R s m args below meth c V (locs ++ L') (cells + q.2.2.2.1) (slots + q.2.2.2.2) ∧ (∀ z ∈ L', b0 ≤ z.base) ∧ px E σ' ∧ gw_H Z b0 σ' V.heap ∧ U.heap.size ≤ V.heap.size ∧ (∀ a : Nat, a < U.heap.size → ¬ b0 ≤ a → V.heap[a]? = U.heap[a]?) ∧ V.heap[x]? = some cx ∧ cx.vm = .none ∧ U.vm.findClass E = some cx.cls ∧
      Steps p.tables e below (doInvoke e (U.setTop g) [] mk av.toArray).1 ((V.setTop g).pushFrame (.throwing x))) := by
  have h1 : (headSpec (.codeWith y cb q.1 ret hh :: gw_ws) { frames := q.2.1, cells := q.2.2.2.1, slots := q.2.2.2.2, locals := q.2.2.1 }).pre.before av.toArray U = true := atoms_intro hws
  obtain ⟨mY9, methY, cY, hn9, hmY, hcY, -, hlY, -, -, -, -⟩ := Cond.codeWith_spec (hws _ List.mem_cons_self)
  cases hn.symm.trans hn9
  obtain ⟨kY, hkY, -⟩ := className_of_methodNamed hn
  have hiY : kY.init = .initialized := Cond.initialized_spec (findClass_of_methodNamed hn) hkY hini
  have hA : At U g.method c below := by rw [hg]; exact X.here
  have happ := Spec.appliesLoose_calling (g := g) (args := av.toArray) hA hdg hn hkY hiY (X.room_calling (g := g) (R' := (headSpec (.codeWith y cb q.1 ret hh :: gw_ws) { frames := q.2.1, cells := q.2.2.2.1, slots := q.2.2.2.2, locals := q.2.2.1 }).room) hsize hmY hcY hR.1 (by rw [hlY]; exact Nat.le_trans (Nat.add_le_add_right (Nat.add_le_add_right hw _) _) hR.2) hc.1 hc.2) h1
  obtain ⟨mid, hmid⟩ := hA.above
  have hfr : (U.setTop g).frames = (.java g :: mid) ++ below := by rw [State.frames_setTop' g hA.top, hmid]; rfl
  obtain ⟨o, t, hsteps, -, hend, hq⟩ := Steps.callFree hM p X.admits X.cas X.clock (acts := []) hfr happ (gx_blind Z b0 σ av _ _ g mk hPc) trivial
  have hq : gx_Q Z b0 post px q.2.2.2.1 q.2.2.2.2 av.toArray (U.calling g mk av.toArray) o t := hq
  rw [State.frames_setTop' g hA.top] at hend
  obtain ⟨g₀, hg0⟩ := Option.isSome_iff_exists.mp hA.top
  obtain ⟨r, hr⟩ := State.topJava?_eq_some.mp hg0
  generalize hVe : ({ U with heap := t.heap, slotsUsed := t.slotsUsed } : State).setVm t.vm = V
  have hr' : V.frames = .java g₀ :: r := by rw [← hVe]; exact hr
  have hVh : V.heap = t.heap := by rw [← hVe]; rfl
  have back : ∀ L' : List Loc, U.WarmedH t.vm → (U.calling g mk av.toArray).sameButNew ({ t with vm := (U.calling g mk av.toArray).vm } : State) L' q.2.2.2.1 q.2.2.2.2 →
      Stand p l e R s m args below meth c V (locs ++ L') (cells + q.2.2.2.1) (slots + q.2.2.2.2) ∧ t = V.setFrames t.frames := by
    intro L' hW hsm
    obtain ⟨e2, q2, q3, q4, q5, q6⟩ := hsm
    have e3 : t = ({ (U.calling g mk av.toArray).setFrames t.frames with heap := t.heap, slotsUsed := t.slotsUsed } : State).setVm t.vm := by
      have h9 : t = ({ t with vm := (U.calling g mk av.toArray).vm } : State).setVm t.vm := rfl
      rw [e2] at h9
      exact h9
    have hsame : U.sameButNew ({ U with heap := t.heap, slotsUsed := t.slotsUsed } : State) L' q.2.2.2.1 q.2.2.2.2 := by
      refine ⟨?_, q2, q3, q4, q5, q6⟩
      obtain ⟨th, hth, -⟩ := State.frames_cons hr
      show ({ U with heap := t.heap, slotsUsed := t.slotsUsed } : State) = { U.setFrames U.frames with heap := t.heap, slotsUsed := t.slotsUsed }
      rw [State.setFrames_self hth]
    constructor
    · rw [← hVe]
      exact ⟨X.admits, X.cas, X.clock, X.frames, X.room, X.hears, X.method, X.code, (X.here.setHeapUsed t.heap t.slotsUsed).setVm hW.alike, X.tail, State.WarmedH.trans X.warmed hW, X.limits, X.bytes, X.same.trans (hsame.setVm s.vm)⟩
    · refine e3.trans ?_
      rw [State.calling_eq hA.top, State.setFrames_setFrames, ← hVe]
      rfl
  rcases hq with ⟨⟨v, σ', rfl, hp, hG, hF⟩, L', ⟨-, hW, hsm⟩, hL'⟩ | ⟨x, E, cx, L', σ', rfl, hp, hG, hF, hcx, hcv, hcl, hW, hsm, hL'⟩
  · obtain ⟨XV, ht⟩ := back L' hW hsm
    refine Or.inl ⟨v, σ', V, L', XV, hL', hp, by rw [hVh]; exact hG, by rw [hVh]; exact hF.1, fun a h1 h2 => by rw [hVh]; exact hF.2 a h1 h2, ?_⟩
    obtain ⟨c₂, i₂, n₂, hc₂, hd₂, hf₂⟩ := hend
    have hcc : c₂ = c := by
      have h9 : t.code? g.method = U.code? g.method := by
        rw [State.code?_eq, State.code?_eq, hW.alike.method?]
        rfl
      exact Option.some.inj (hc₂.symm.trans (h9.trans hA.code))
    subst hcc
    have hn2 : n₂ = 3 := by rw [hdg] at hd₂; cases hd₂; rfl
    subst hn2
    have hfin : t = V.setTop { g with pc := g.pc + 3, stack := v.toList ++ g.stack } := by
      rw [ht, hf₂, State.setTop_of_frames _ hr', hr]
      rfl
    rw [← hfin]
    exact hsteps
  · obtain ⟨XV, ht⟩ := back L' hW hsm
    refine Or.inr ⟨x, E, cx, σ', V, L', XV, hL', hp, by rw [hVh]; exact hG, by rw [hVh]; exact hF.1, fun a h1 h2 => by rw [hVh]; exact hF.2 a h1 h2, by rw [hVh]; exact hcx, hcv, hcl, ?_⟩
    have hf₂ : t.frames = .throwing x :: .java g :: U.frames.tail := hend
    have hfin : t = (V.setTop g).pushFrame (.throwing x) := by
      rw [ht, hf₂, State.pushFrame, State.frames_setTop _ hr', State.setTop_of_frames _ hr', State.setFrames_setFrames, hr]
      rfl
    rw [← hfin]
    exact hsteps
end GYB
section GYC
variable {X : gw_C} {cc : ByteArray} {own : String} {q : gw_N} {σ : gw_S} {ce sl pc : Nat} {L : List (Nat × Value)} {st : List Value} {post : Option Value → gw_S → Prop} {px : String → gw_S → Prop} {mc ms : Nat}
theorem gy_callS {hh : List (Nat × Nat × Nat × Nat)} (hX : gw_ok X cc own q) (hK : gx_K (gw_b X) (gw_s X)) (hb0 : gw_b X ≤ (gw_s X).heap.size) {idx n : Nat} {y : MethodName} {cb : ByteArray} {q' : gw_N} {ret : Option FieldType} (k : gy_sS own idx y cb q'.1 ret hh n) (hlk : Cond.methodLink own idx y ∈ gw_ws) {As rest : List Value} (hM : gy_M X.1.2.1 y cb q' ret hh (gw_z X) (gw_b X) σ As post px) (hn : As.length = n) (hst : st = As.reverse ++ rest) (hw : (rest.map fun v => v.category).sum ≤ 8) (d : decode cc pc = .ok (.invokestatic idx, 3)) (hR : gw_rm q q' ce sl)
    (kx : ∀ (E : String) (σ' : gw_S), px E σ' → gx_X X σ' (ce + q'.2.2.2.1) (sl + q'.2.2.2.2) pc L rest E)
    (kk : ∀ (v : Option Value) (σ' : gw_S), post v σ' → gw_W X σ' (ce + q'.2.2.2.1) (sl + q'.2.2.2.2) (pc + 3) L (v.toList ++ rest)) : gw_W X σ ce sl pc L st := by
  obtain ⟨hc, hs⟩ := k
  subst hst
  intro H locs ls hG hS hL T hT X0
  have hws := hX.2.2.2.2.1
  have hRm : X.1.2.2.2 = _ := hX.2.2.1.2.2.1
  obtain ⟨mk, methM, cM, hnamed, hmethM, -, -, -, -, -, -, hsigM⟩ := Cond.codeWith_spec (hws _ hc.1)
  have hstatic : methM.isStatic = true := Cond.static_spec hnamed hmethM (hws _ hs)
  obtain ⟨kP, hkP, -⟩ := className_of_methodNamed hnamed
  have hinitP : kP.init = .initialized := Cond.initialized_spec (findClass_of_methodNamed hnamed) hkP (hws _ hc.2.1)
  have hlen : As.length = methM.sig.parameters.length := by
    have h2 := hc.2.2.2.2
    rw [hsigM] at h2
    exact hn.trans (Option.some.inj h2).symm
  obtain ⟨vm₁, X₁, hstep₁⟩ := X0.invokestatic hX.1 hX.2.2.2.1 (hws _ hlk) hnamed hmethM hstatic hkP hinitP ⟨hc.2.2.1, hc.2.2.2.1⟩ (g := F0 (gw_m X) pc ls (As.reverse ++ rest)) rfl (argsL := As) (rest := rest) hlen rfl (by rw [hX.2.1]; exact d)
  have hW₁ := X₁.warmed
  have hPc : gx_Pc (gw_z X) (gw_b X) σ As As.toArray (T.setVm vm₁) := ⟨rfl, gw_K_warm hW₁ hX.2.2.2.2.2, by show gw_H _ _ _ T.heap; rw [hT]; exact hG, gx_env hK hb0 hS hT hW₁⟩
  rcases gy_run hM X₁ (g := { F0 (gw_m X) pc ls (As.reverse ++ rest) with stack := rest }) rfl (by rw [hX.2.2.1.1]; exact hL.1) (by rw [hX.2.1]; exact d) (lv_room hw) (X₁.named hnamed) (fun w hw9 => word_at hW₁ ((gy_cal_in hc) w hw9).2 (hws w ((gy_cal_in hc) w hw9).1)) (word_at hW₁ (gw_good _ hc.2.1) (hws _ hc.2.1)) hPc (by rw [hRm]; exact hR.1) (by rw [hRm]; exact hR.2) with ⟨v, σ', V, L', XV, hL', hp, hG', f1, f2, hsteps⟩ | ⟨x, E, cx, σ', V, L', XV, hL', hp, hG', f1, f2, hcx, hcv, hcl, hsteps⟩
  · have f1 : T.heap.size ≤ V.heap.size := f1
    have f2 : ∀ a : Nat, a < T.heap.size → ¬ gw_b X ≤ a → V.heap[a]? = T.heap[a]? := f2
    rw [hT] at f1 f2
    obtain ⟨t2, a1, b1⟩ := kk v σ' hp V.heap (locs ++ L') ls hG' ⟨Nat.le_trans hS.1 f1, fun a g1 g2 => (f2 a (Nat.lt_of_lt_of_le g1 hS.1) g2).trans (hS.2.1 a g1 g2), fun z hz => (List.mem_append.mp hz).elim (hS.2.2 z) (hL' z)⟩ hL V rfl XV
    exact ⟨t2, hstep₁ _ fun acts => by rw [doInvoke_state]; exact hsteps.trans a1, b1⟩
  · have f1 : T.heap.size ≤ V.heap.size := f1
    have f2 : ∀ a : Nat, a < T.heap.size → ¬ gw_b X ≤ a → V.heap[a]? = T.heap[a]? := f2
    rw [hT] at f1 f2
    have hcl9 : (gw_s X).vm.findClass E = some cx.cls := by
      have h9 := hcl
      rw [hW₁.alike.findClass] at h9
      exact h9
    obtain ⟨t2, a1, b1⟩ := kx E σ' hp V.heap (locs ++ L') ls hG' ⟨Nat.le_trans hS.1 f1, fun a g1 g2 => (f2 a (Nat.lt_of_lt_of_le g1 hS.1) g2).trans (hS.2.1 a g1 g2), fun z hz => (List.mem_append.mp hz).elim (hS.2.2 z) (hL' z)⟩ hL x cx hcx hcv hcl9 V rfl XV
    exact ⟨t2, hstep₁ _ fun acts => by rw [doInvoke_state]; exact hsteps.trans a1, b1⟩
/-- caught by the first row -/
theorem gy_catch1 (hX : gw_ok X cc own q) {lo hi hp idx : Nat} {rest : List (Nat × Nat × Nat × Nat)} (hE : gy_ok X ((lo, hi, hp, idx) :: rest)) {E : String} (hk : Cond.classLink own idx E ∈ gw_ws) (h1 : lo ≤ pc) (h2 : pc < hi) (h0 : idx ≠ 0) (kk : ∀ x : Nat, gw_W X σ ce sl hp L [.ref x]) : gx_X X σ ce sl pc L st E := by
  intro H locs ls hG hS hL x cx hx hv hcl T hT X0
  obtain ⟨vm', X1, st1⟩ := gx_catch1 X0 hX.2.2.2.1 (hX.2.2.2.2.1 _ hk) hE.2.2.1 (g := F0 (gw_m X) pc ls st) rfl (by simp [covers, F0]; exact ⟨h1, h2⟩) h0 rfl (a := x) (cell := cx) (by rw [hT]; exact hx) hv hcl
  obtain ⟨t, a1, b1⟩ := kk x H locs ls hG hS hL (T.setVm vm') hT X1
  exact ⟨t, st1 t a1, b1⟩
theorem gy_catch2 (hX : gw_ok X cc own q) {lo hi hp idx lo' hi' hp' idx' : Nat} {rest : List (Nat × Nat × Nat × Nat)} (hE : gy_ok X ((lo', hi', hp', idx') :: (lo, hi, hp, idx) :: rest)) {E E' : String} (hk' : Cond.classLink own idx' E' ∈ gw_ws) (hk : Cond.classLink own idx E ∈ gw_ws) (h1 : lo ≤ pc) (h2 : pc < hi) (h0 : idx ≠ 0) (h1' : lo' ≤ pc) (h2' : pc < hi') (h0' : idx' ≠ 0) (hno : ∀ c c', (gw_s X).vm.findClass E = some c → (gw_s X).vm.findClass E' = some c' → (gw_s X).vm.assignable c c' = false) (kk : ∀ x : Nat, gw_W X σ ce sl hp L [.ref x]) : gx_X X σ ce sl pc L st E := by
  intro H locs ls hG hS hL x cx hx hv hcl T hT X0
  obtain ⟨vm', X1, st1⟩ := gx_catch2 X0 hX.2.2.2.1 (hX.2.2.2.2.1 _ hk') (hX.2.2.2.2.1 _ hk) hE.2.2.1 (g := F0 (gw_m X) pc ls st) rfl (by simp [covers, F0]; exact ⟨h1, h2⟩) h0 rfl (by simp [covers, F0]; exact ⟨h1', h2'⟩) h0' rfl (a := x) (cell := cx) (by rw [hT]; exact hx) hv hcl (fun c' h9 => hno _ _ hcl h9)
  obtain ⟨t, a1, b1⟩ := kk x H locs ls hG hS hL (T.setVm vm') hT X1
  exact ⟨t, st1 t a1, b1⟩
end GYC
