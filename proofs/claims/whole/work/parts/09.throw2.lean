/-! ===== a call that returns or throws; a throw ===== -/
section GXB
variable {p : Program} {l : Launch} {e : Env} {R : Room} {s : State} {m : MethodId} {args : Array Value} {below : List Frame} {meth : Method} {c : Code} {locs : List Loc} {cells slots : Nat}
/-- the callee's contract, used by a caller that stands at U with the arguments taken off its stack -/
theorem gx_run {y : MethodName} {cb : ByteArray} {q : gw_N} {ret : Option FieldType} {Z : gw_Z} {b0 : Nat} {σ : gw_S} {av : List Value} {post : Option Value → gw_S → Prop} {px : String → gw_S → Prop} (hM : gx_M l y cb q ret Z b0 σ av post px)
    {U : State} (X : Stand p l e R s m args below meth c U locs cells slots) {g : JFrame} (hg : g.method = m) (hsize : g.locals.size = c.maxLocals) {ig : Instr} (hdg : decode c.code g.pc = .ok (ig, 3)) (hw : 2 * g.monitorRoom + (g.stack.map fun v => v.category).sum ≤ 8) {mk : MethodId} (hn : U.methodNamed? y = some mk)
    (hws : ∀ w ∈ (Cond.code y cb q.1 ret :: gw_ws), w.before av.toArray U = true) (hini : (Cond.initialized y.cls).before av.toArray U = true) (hPc : gx_Pc Z b0 σ av av.toArray U) (hR : q.2.1 + 1 ≤ R.frames ∧ 8 + (q.1 + 11) + q.2.2.1 ≤ R.locals) (hc : cells + q.2.2.2.1 ≤ R.cells ∧ slots + q.2.2.2.2 ≤ R.slots) :
    (∃ (v : Option Value) (σ' : gw_S) (V : State) (L' : List Loc), Stand p l e R s m args below meth c V (locs ++ L') (cells + q.2.2.2.1) (slots + q.2.2.2.2) ∧ (∀ z ∈ L', b0 ≤ z.base) ∧ post v σ' ∧ gw_H Z b0 σ' V.heap ∧ U.heap.size ≤ V.heap.size ∧ (∀ a : Nat, a < U.heap.size → ¬ b0 ≤ a → V.heap[a]? = U.heap[a]?) ∧
      Steps p.tables e below (doInvoke e (U.setTop g) [] mk av.toArray).1 (V.setTop { g with pc := g.pc + 3, stack := v.toList ++ g.stack })) ∨
    (∃ (x : Addr) (E : String) (cx : Cell) (σ' : gw_S) (V : State) (L' : List Loc), Stand p l e R s m args below meth c V (locs ++ L') (cells + q.2.2.2.1) (slots + q.2.2.2.2) ∧ (∀ z ∈ L', b0 ≤ z.base) ∧ px E σ' ∧ gw_H Z b0 σ' V.heap ∧ U.heap.size ≤ V.heap.size ∧ (∀ a : Nat, a < U.heap.size → ¬ b0 ≤ a → V.heap[a]? = U.heap[a]?) ∧ V.heap[x]? = some cx ∧ cx.vm = .none ∧ U.vm.findClass E = some cx.cls ∧
      Steps p.tables e below (doInvoke e (U.setTop g) [] mk av.toArray).1 ((V.setTop g).pushFrame (.throwing x))) := by
  have h1 : (headSpec (.code y cb q.1 ret :: gw_ws) { frames := q.2.1, cells := q.2.2.2.1, slots := q.2.2.2.2, locals := q.2.2.1 }).pre.before av.toArray U = true := atoms_intro hws
  obtain ⟨methY, cY, hmY, hcY, -, hlY, -, -, -, -⟩ := Cond.code_spec hn (hws _ List.mem_cons_self)
  obtain ⟨kY, hkY, -⟩ := className_of_methodNamed hn
  have hiY : kY.init = .initialized := Cond.initialized_spec (findClass_of_methodNamed hn) hkY hini
  have hA : At U g.method c below := by rw [hg]; exact X.here
  have happ := Spec.appliesLoose_calling (g := g) (args := av.toArray) hA hdg hn hkY hiY (X.room_calling (g := g) (R' := (headSpec (.code y cb q.1 ret :: gw_ws) { frames := q.2.1, cells := q.2.2.2.1, slots := q.2.2.2.2, locals := q.2.2.1 }).room) hsize hmY hcY hR.1 (by rw [hlY]; exact Nat.le_trans (Nat.add_le_add_right (Nat.add_le_add_right hw _) _) hR.2) hc.1 hc.2) h1
  obtain ⟨mid, hmid⟩ := hA.above
  have hfr : (U.setTop g).frames = (.java g :: mid) ++ below := by rw [State.frames_setTop' g hA.top, hmid]; rfl
  obtain ⟨o, t, hsteps, -, hend, hq⟩ := Steps.callFree hM p X.admits X.cas X.clock (acts := []) hfr happ (gx_blind Z b0 σ av _ _ g mk hPc) trivial
  have hq : gx_Q Z b0 post px q.2.2.2.1 q.2.2.2.2 av.toArray (U.calling g mk av.toArray) o t := hq
  rw [State.frames_setTop' g hA.top] at hend
  obtain ⟨g₀, hg0⟩ := Option.isSome_iff_exists.mp hA.top
  obtain ⟨r, hr⟩ := State.topJava?_eq_some.mp hg0
  generalize hVe : ({ U with heap := t.heap, slotsUsed := t.slotsUsed } : State).setVm t.vm = V
  have hr' : V.frames = .java g₀ :: r := by rw [← hVe]; exact hr
  have hVh : V.heap = t.heap := by rw [← hVe]; rfl
  have back : ∀ L' : List Loc, U.WarmedH t.vm → (U.calling g mk av.toArray).sameButNew ({ t with vm := (U.calling g mk av.toArray).vm } : State) L' q.2.2.2.1 q.2.2.2.2 →
      Stand p l e R s m args below meth c V (locs ++ L') (cells + q.2.2.2.1) (slots + q.2.2.2.2) ∧ t = V.setFrames t.frames := by
    intro L' hW hsm
    obtain ⟨e2, q2, q3, q4, q5, q6⟩ := hsm
    have e3 : t = ({ (U.calling g mk av.toArray).setFrames t.frames with heap := t.heap, slotsUsed := t.slotsUsed } : State).setVm t.vm := by
      have h9 : t = ({ t with vm := (U.calling g mk av.toArray).vm } : State).setVm t.vm := rfl
      rw [e2] at h9
      exact h9
    have hsame : U.sameButNew ({ U with heap := t.heap, slotsUsed := t.slotsUsed } : State) L' q.2.2.2.1 q.2.2.2.2 := by
      refine ⟨?_, q2, q3, q4, q5, q6⟩
      obtain ⟨th, hth, -⟩ := State.frames_cons hr
      show ({ U with heap := t.heap, slotsUsed := t.slotsUsed } : State) = { U.setFrames U.frames with heap := t.heap, slotsUsed := t.slotsUsed }
      rw [State.setFrames_self hth]
    constructor
    · rw [← hVe]
      exact ⟨X.admits, X.cas, X.clock, X.frames, X.room, X.hears, X.method, X.code, (X.here.setHeapUsed t.heap t.slotsUsed).setVm hW.alike, X.tail, State.WarmedH.trans X.warmed hW, X.limits, X.bytes, X.same.trans (hsame.setVm s.vm)⟩
    · refine e3.trans ?_
      rw [State.calling_eq hA.top, State.setFrames_setFrames, ← hVe]
      rfl
  rcases hq with ⟨⟨v, σ', rfl, hp, hG, hF⟩, L', ⟨-, hW, hsm⟩, hL'⟩ | ⟨x, E, cx, L', σ', rfl, hp, hG, hF, hcx, hcv, hcl, hW, hsm, hL'⟩
  · obtain ⟨XV, ht⟩ := back L' hW hsm
    refine Or.inl ⟨v, σ', V, L', XV, hL', hp, by rw [hVh]; exact hG, by rw [hVh]; exact hF.1, fun a h1 h2 => by rw [hVh]; exact hF.2 a h1 h2, ?_⟩
    obtain ⟨c₂, i₂, n₂, hc₂, hd₂, hf₂⟩ := hend
    have hcc : c₂ = c := by
      have h9 : t.code? g.method = U.code? g.method := by
        rw [State.code?_eq, State.code?_eq, hW.alike.method?]
        rfl
      exact Option.some.inj (hc₂.symm.trans (h9.trans hA.code))
    subst hcc
    have hn2 : n₂ = 3 := by rw [hdg] at hd₂; cases hd₂; rfl
    subst hn2
    have hfin : t = V.setTop { g with pc := g.pc + 3, stack := v.toList ++ g.stack } := by
      rw [ht, hf₂, State.setTop_of_frames _ hr', hr]
      rfl
    rw [← hfin]
    exact hsteps
  · obtain ⟨XV, ht⟩ := back L' hW hsm
    refine Or.inr ⟨x, E, cx, σ', V, L', XV, hL', hp, by rw [hVh]; exact hG, by rw [hVh]; exact hF.1, fun a h1 h2 => by rw [hVh]; exact hF.2 a h1 h2, by rw [hVh]; exact hcx, hcv, hcl, ?_⟩
    have hf₂ : t.frames = .throwing x :: .java g :: U.frames.tail := hend
    have hfin : t = (V.setTop g).pushFrame (.throwing x) := by
      rw [ht, hf₂, State.pushFrame, State.frames_setTop _ hr', State.setTop_of_frames _ hr', State.setFrames_setFrames, hr]
      rfl
    rw [← hfin]
    exact hsteps
end GXB
section GXC
variable {X : gw_C} {cc : ByteArray} {own : String} {q : gw_N} {σ : gw_S} {ce sl pc : Nat} {L : List (Nat × Value)} {st : List Value} {post : Option Value → gw_S → Prop} {px : String → gw_S → Prop} {mc ms : Nat}
/-- an exception of the class E lies over the frame -/
def gx_X (X : gw_C) (σ : gw_S) (ce sl pc : Nat) (L : List (Nat × Value)) (st : List Value) (E : String) : Prop :=
  ∀ (H : Heap) (locs : List Loc) (ls : Array Slot), gw_H (gw_z X) (gw_b X) σ H → va_S (fun q => gw_b X ≤ q) (gw_s X).heap H locs → lv_has ls (gw_n X) L → ∀ (x : Nat) (cx : Cell), H[x]? = some cx → cx.vm = .none → (gw_s X).vm.findClass E = some cx.cls →
    ∀ T : State, T.heap = H → Stand X.1.1 X.1.2.1 X.1.2.2.1 X.1.2.2.2 X.2.1.1 X.2.1.2.1 X.2.1.2.2.1 X.2.1.2.2.2 X.2.2.1.1 X.2.2.1.2 T locs ce sl → ∃ t, Steps X.1.1.tables X.1.2.2.1 X.2.1.2.2.2 ((T.setTop (F0 (gw_m X) pc ls st)).pushFrame (.throwing x)) t ∧ X.2.2.2.2 t
/-- it goes on to the caller -/
theorem gx_out (hX : gw_ok X cc own q) (hE : gx_ok X) (hQ : X.2.2.2.2 = gx_end X post px mc ms) {E : String} (h1 : ce ≤ mc) (h2 : sl ≤ ms) (hp : px E σ) : gx_X X σ ce sl pc L st E := by
  intro H locs ls hG hS hL x cx hx hv hcl T hT X0
  obtain ⟨st1, hrun, hend, hW, hsm⟩ := X0.leaveThrown x (g := F0 (gw_m X) pc ls st) rfl rfl rfl (fun z hz => (hE.2.2.1 z hz).elim) hX.2.2.1.2.2.2
  have hcell9 : (T.setFrames (.throwing x :: X.2.1.2.2.2)).heap[x]? = some cx := by
    show T.heap[x]? = some cx
    rw [hT]; exact hx
  refine ⟨_, st1, ?_⟩
  rw [hQ]
  refine ⟨.threw x, hrun, hend, Or.inr ⟨x, E, cx, locs, σ, rfl, hp, ?_, ?_, hcell9, hv, hcl, hW, hsm.mono h1 h2, hS.2.2⟩⟩
  · show gw_H _ _ σ T.heap
    rw [hT]; exact hG
  · exact ⟨by show _ ≤ T.heap.size; rw [hT]; exact hS.1, fun a g1 g2 => by show T.heap[a]? = _; rw [hT]; exact hS.2.1 a g1 g2⟩
theorem gx_env {H : Heap} {locs : List Loc} {U : State} (hK : gx_K (gw_b X) (gw_s X)) (hb0 : gw_b X ≤ (gw_s X).heap.size) (hS : va_S (fun q => gw_b X ≤ q) (gw_s X).heap H locs) (hU : U.heap = H) (hW : (gw_s X).WarmedH U.vm) : gx_K (gw_b X) U :=
  gx_K_mv hW (fun a ha => by rw [hU]; exact hS.2.1 a (by omega) (by omega)) hK
theorem gx_callV (hX : gw_ok X cc own q) (hK : gx_K (gw_b X) (gw_s X)) (hb0 : gw_b X ≤ (gw_s X).heap.size) {idx n ci : Nat} {y : MethodName} {cb : ByteArray} {q' : gw_N} {ret : Option FieldType} (k : gw_sV own idx y cb q'.1 ret n ci) (hlk : Cond.methodLink own idx y ∈ gw_ws) {b : Nat} {As rest : List Value} {fs : List Value} (hM : gx_M X.1.2.1 y cb q' ret (gw_z X) (gw_b X) σ (.ref b :: As) post px) (hb : σ.2 b = some (.inr (ci, fs))) (hn : As.length = n) (hst : st = As.reverse ++ .ref b :: rest) (hw : (rest.map fun v => v.category).sum ≤ 8) (d : decode cc pc = .ok (.invokevirtual idx, 3)) (hR : gw_rm q q' ce sl)
    (kx : ∀ (E : String) (σ' : gw_S), px E σ' → gx_X X σ' (ce + q'.2.2.2.1) (sl + q'.2.2.2.2) pc L rest E)
    (kk : ∀ (v : Option Value) (σ' : gw_S), post v σ' → gw_W X σ' (ce + q'.2.2.2.1) (sl + q'.2.2.2.2) (pc + 3) L (v.toList ++ rest)) : gw_W X σ ce sl pc L st := by
  obtain ⟨hc, -, hi, hs, r, hr, hry⟩ := k
  subst hst
  intro H locs ls hG hS hL T hT X0
  have hws := hX.2.2.2.2.1
  have hRm : X.1.2.2.2 = _ := hX.2.2.1.2.2.1
  obtain ⟨cellB, hcB, hoB, hclB⟩ := va_recv hX.2.2.2.2.2.1 (gw_one (hG.2.2 b _ hb).2) hr (q0 := 0) rfl
  rw [hry] at hclB
  obtain ⟨mk, methM, hnamed, hmethM, hstM, habM⟩ := Cond.instanceMethod_spec (hws _ hi)
  obtain ⟨methM', cM, hmethM', -, -, -, -, -, -, hsigM⟩ := Cond.code_spec hnamed (hws _ hc.1)
  cases hmethM.symm.trans hmethM'
  obtain ⟨c2, r2, m2, q1, q2, q3, q4, kP, hkP, hkPi⟩ := Cond.selects_spec (hws _ hs)
  cases hclB.symm.trans q1
  cases (State.methodFound?_of_named hnamed ⟨hc.2.2.1, hc.2.2.2.1⟩).symm.trans q2
  cases hnamed.symm.trans q3
  have hselP : selectMethod X.1.2.2.1.platform (gw_s X).vm cellB.cls mk = .method mk := by rw [Launch.admits_selectMethod X0.admits]; exact q4
  have hlen : As.length = methM.sig.parameters.length := by
    have h2 := hc.2.2.2.2
    rw [hsigM] at h2
    exact hn.trans (Option.some.inj h2).symm
  obtain ⟨vm₁, X₁, hstep₁⟩ := X0.invokevirtual hX.1 hX.2.2.2.1 (hws _ hlk) hnamed hmethM hstM hkP hkPi ⟨hc.2.2.1, hc.2.2.2.1⟩ (a := b) (cell := cellB) (by rw [hT]; exact hcB)
    (fun z h => by rw [h] at hoB; cases hoB) hselP hmethM habM hkP hkPi (g := F0 (gw_m X) pc ls (As.reverse ++ .ref b :: rest)) rfl (argsL := As) (rest := rest) hlen rfl (by rw [hX.2.1]; exact d)
  have hW₁ := X₁.warmed
  have hPc : gx_Pc (gw_z X) (gw_b X) σ (.ref b :: As) (Value.ref b :: As).toArray (T.setVm vm₁) := ⟨rfl, gw_K_warm hW₁ hX.2.2.2.2.2, by show gw_H _ _ _ T.heap; rw [hT]; exact hG, gx_env hK hb0 hS hT hW₁⟩
  rcases gx_run hM X₁ (g := { F0 (gw_m X) pc ls (As.reverse ++ .ref b :: rest) with stack := rest }) rfl (by rw [hX.2.2.1.1]; exact hL.1) (by rw [hX.2.1]; exact d) (lv_room hw) (X₁.named hnamed) (fun w hw9 => word_at hW₁ ((gw_cal_in hc) w hw9).2 (hws w ((gw_cal_in hc) w hw9).1)) (word_at hW₁ (gw_good _ hc.2.1) (hws _ hc.2.1)) hPc (by rw [hRm]; exact hR.1) (by rw [hRm]; exact hR.2) with ⟨v, σ', V, L', XV, hL', hp, hG', f1, f2, hsteps⟩ | ⟨x, E, cx, σ', V, L', XV, hL', hp, hG', f1, f2, hcx, hcv, hcl, hsteps⟩
  · have f1 : T.heap.size ≤ V.heap.size := f1
    have f2 : ∀ a : Nat, a < T.heap.size → ¬ gw_b X ≤ a → V.heap[a]? = T.heap[a]? := f2
    rw [hT] at f1 f2
    obtain ⟨t2, a1, b1⟩ := kk v σ' hp V.heap (locs ++ L') ls hG' ⟨Nat.le_trans hS.1 f1, fun a g1 g2 => (f2 a (Nat.lt_of_lt_of_le g1 hS.1) g2).trans (hS.2.1 a g1 g2), fun z hz => (List.mem_append.mp hz).elim (hS.2.2 z) (hL' z)⟩ hL V rfl XV
    exact ⟨t2, hstep₁ _ fun acts => by rw [doInvoke_state]; exact hsteps.trans a1, b1⟩
  · have f1 : T.heap.size ≤ V.heap.size := f1
    have f2 : ∀ a : Nat, a < T.heap.size → ¬ gw_b X ≤ a → V.heap[a]? = T.heap[a]? := f2
    rw [hT] at f1 f2
    have hcl9 : (gw_s X).vm.findClass E = some cx.cls := by
      have h9 := hcl
      rw [hW₁.alike.findClass] at h9
      exact h9
    obtain ⟨t2, a1, b1⟩ := kx E σ' hp V.heap (locs ++ L') ls hG' ⟨Nat.le_trans hS.1 f1, fun a g1 g2 => (f2 a (Nat.lt_of_lt_of_le g1 hS.1) g2).trans (hS.2.1 a g1 g2), fun z hz => (List.mem_append.mp hz).elim (hS.2.2 z) (hL' z)⟩ hL x cx hcx hcv hcl9 V rfl XV
    exact ⟨t2, hstep₁ _ fun acts => by rw [doInvoke_state]; exact hsteps.trans a1, b1⟩
theorem gx_callS (hX : gw_ok X cc own q) (hK : gx_K (gw_b X) (gw_s X)) (hb0 : gw_b X ≤ (gw_s X).heap.size) {idx n : Nat} {y : MethodName} {cb : ByteArray} {q' : gw_N} {ret : Option FieldType} (k : gw_sS own idx y cb q'.1 ret n) (hlk : Cond.methodLink own idx y ∈ gw_ws) {As rest : List Value} (hM : gx_M X.1.2.1 y cb q' ret (gw_z X) (gw_b X) σ As post px) (hn : As.length = n) (hst : st = As.reverse ++ rest) (hw : (rest.map fun v => v.category).sum ≤ 8) (d : decode cc pc = .ok (.invokestatic idx, 3)) (hR : gw_rm q q' ce sl)
    (kx : ∀ (E : String) (σ' : gw_S), px E σ' → gx_X X σ' (ce + q'.2.2.2.1) (sl + q'.2.2.2.2) pc L rest E)
    (kk : ∀ (v : Option Value) (σ' : gw_S), post v σ' → gw_W X σ' (ce + q'.2.2.2.1) (sl + q'.2.2.2.2) (pc + 3) L (v.toList ++ rest)) : gw_W X σ ce sl pc L st := by
  obtain ⟨hc, -, hs⟩ := k
  subst hst
  intro H locs ls hG hS hL T hT X0
  have hws := hX.2.2.2.2.1
  have hRm : X.1.2.2.2 = _ := hX.2.2.1.2.2.1
  obtain ⟨mk, hnamed⟩ := Cond.code_named (hws _ hc.1)
  obtain ⟨methM, cM, hmethM, -, -, -, -, -, -, hsigM⟩ := Cond.code_spec hnamed (hws _ hc.1)
  have hstatic : methM.isStatic = true := Cond.static_spec hnamed hmethM (hws _ hs)
  obtain ⟨kP, hkP, -⟩ := className_of_methodNamed hnamed
  have hinitP : kP.init = .initialized := Cond.initialized_spec (findClass_of_methodNamed hnamed) hkP (hws _ hc.2.1)
  have hlen : As.length = methM.sig.parameters.length := by
    have h2 := hc.2.2.2.2
    rw [hsigM] at h2
    exact hn.trans (Option.some.inj h2).symm
  obtain ⟨vm₁, X₁, hstep₁⟩ := X0.invokestatic hX.1 hX.2.2.2.1 (hws _ hlk) hnamed hmethM hstatic hkP hinitP ⟨hc.2.2.1, hc.2.2.2.1⟩ (g := F0 (gw_m X) pc ls (As.reverse ++ rest)) rfl (argsL := As) (rest := rest) hlen rfl (by rw [hX.2.1]; exact d)
  have hW₁ := X₁.warmed
  have hPc : gx_Pc (gw_z X) (gw_b X) σ As As.toArray (T.setVm vm₁) := ⟨rfl, gw_K_warm hW₁ hX.2.2.2.2.2, by show gw_H _ _ _ T.heap; rw [hT]; exact hG, gx_env hK hb0 hS hT hW₁⟩
  rcases gx_run hM X₁ (g := { F0 (gw_m X) pc ls (As.reverse ++ rest) with stack := rest }) rfl (by rw [hX.2.2.1.1]; exact hL.1) (by rw [hX.2.1]; exact d) (lv_room hw) (X₁.named hnamed) (fun w hw9 => word_at hW₁ ((gw_cal_in hc) w hw9).2 (hws w ((gw_cal_in hc) w hw9).1)) (word_at hW₁ (gw_good _ hc.2.1) (hws _ hc.2.1)) hPc (by rw [hRm]; exact hR.1) (by rw [hRm]; exact hR.2) with ⟨v, σ', V, L', XV, hL', hp, hG', f1, f2, hsteps⟩ | ⟨x, E, cx, σ', V, L', XV, hL', hp, hG', f1, f2, hcx, hcv, hcl, hsteps⟩
  · have f1 : T.heap.size ≤ V.heap.size := f1
    have f2 : ∀ a : Nat, a < T.heap.size → ¬ gw_b X ≤ a → V.heap[a]? = T.heap[a]? := f2
    rw [hT] at f1 f2
    obtain ⟨t2, a1, b1⟩ := kk v σ' hp V.heap (locs ++ L') ls hG' ⟨Nat.le_trans hS.1 f1, fun a g1 g2 => (f2 a (Nat.lt_of_lt_of_le g1 hS.1) g2).trans (hS.2.1 a g1 g2), fun z hz => (List.mem_append.mp hz).elim (hS.2.2 z) (hL' z)⟩ hL V rfl XV
    exact ⟨t2, hstep₁ _ fun acts => by rw [doInvoke_state]; exact hsteps.trans a1, b1⟩
  · have f1 : T.heap.size ≤ V.heap.size := f1
    have f2 : ∀ a : Nat, a < T.heap.size → ¬ gw_b X ≤ a → V.heap[a]? = T.heap[a]? := f2
    rw [hT] at f1 f2
    have hcl9 : (gw_s X).vm.findClass E = some cx.cls := by
      have h9 := hcl
      rw [hW₁.alike.findClass] at h9
      exact h9
    obtain ⟨t2, a1, b1⟩ := kx E σ' hp V.heap (locs ++ L') ls hG' ⟨Nat.le_trans hS.1 f1, fun a g1 g2 => (f2 a (Nat.lt_of_lt_of_le g1 hS.1) g2).trans (hS.2.1 a g1 g2), fun z hz => (List.mem_append.mp hz).elim (hS.2.2 z) (hL' z)⟩ hL x cx hcx hcv hcl9 V rfl XV
    exact ⟨t2, hstep₁ _ fun acts => by rw [doInvoke_state]; exact hsteps.trans a1, b1⟩
end GXC
