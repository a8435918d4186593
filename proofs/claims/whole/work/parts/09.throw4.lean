/-! ===== a catch whose class is resolved only then ===== -/
section GXF
theorem gx_go {e : Env} {s : State} {f : JFrame} {a : Addr} {x : ExceptionTableEntry} {t : List ExceptionTableEntry} {c : ClassId} {cell : Cell} {vm' : Vm} (hx : covers x f.pc = true) (h0 : x.catchType ≠ 0)
    (hg : (Jvm.resolveClass f.method.cls x.catchType).Gives e.toSetting s.vm (.ok c) vm') (hsz : vm'.classes.size ≤ s.vm.classes.size) (hcell : s.heap[a]? = some cell) (hobj : ∀ k, cell.vm ≠ .statics k)
    (hk : ∃ k, vm'.classes[cell.cls]? = some k) (hc : ∃ k, vm'.classes[c]? = some k) (Q : Handler → Pre) (E : CtlPost) (d : Bool) (acts : List Action) :
    wp (findHandler.go f a (x :: t)) Q E e d acts s ↔
      if vm'.assignable cell.cls c = true then Q (.found x.handlerPc) d acts (s.setVm vm') else wp (findHandler.go f a t) Q E e d acts (s.setVm vm') := by
  simp only [covers] at hx
  obtain ⟨ha, ht⟩ := hg.op (op := VmOp.resolveClass f.method.cls x.catchType) rfl
  have hcell' : (s.setVm vm').heap[a]? = some cell := hcell
  cases hfit : vm'.assignable cell.cls c <;>
    simp [findHandler.go, hx, h0, ha, ht, hsz, hcell, hcell', hobj, hk, hc, hfit, VmOp.dirties, VmOp.acts]
theorem gx_stepC {e : Env} {s s' : State} {a : Addr} {f : JFrame} {r : List Frame} {pc : Nat} (hfind : ∀ (Q : Handler → Pre) (E : CtlPost) (d : Bool) (acts : List Action), wp (findHandler f a) Q E e d acts s ↔ Q (.found pc) d acts s') :
    (stepThrowing e s a (.java f :: r)).Is (s'.setFrames (.java { f with pc := pc, stack := [.ref a] } :: r)) [] := by
  simp only [stepThrowing, searchFrame, vmDo]
  generalize hr : Sem.go _ e false [] s = res
  obtain ⟨as, rfl, ha⟩ := Sem.eq_ok_of hr (a := Handler.found pc) (s' := s') (acts' := []) (by simp [hfind _ _ _ _])
  exact ⟨rfl, ha⟩
theorem gx_caught {tb : Tables} {e : Env} {s target : State} {g : JFrame} {c : Code} {below : List Frame} {a : Addr} (h : At s g.method c below) {pc : Nat} {vm' : Vm} (hfind : ∀ (Q : Handler → Pre) (E : CtlPost) (d : Bool) (acts : List Action), wp (findHandler g a) Q E e d acts ((s.setTop g).pushFrame (.throwing a)) ↔ Q (.found pc) d acts (((s.setTop g).pushFrame (.throwing a)).setVm vm'))
    (hrest : Steps tb e below ((s.setVm vm').setTop { g with pc := pc, stack := [.ref a] }) target) :
    Steps tb e below ((s.setTop g).pushFrame (.throwing a)) target := by
  obtain ⟨hgo, hw⟩ := h.throwing a
  refine Steps.head hgo hw ?_
  rw [stepThread_throwing (frames_entered h.top _), (gx_stepC (s := (s.setTop g).pushFrame (.throwing a)) hfind).1]
  obtain ⟨g₀, hg⟩ := Option.isSome_iff_exists.mp h.top
  obtain ⟨r, hr⟩ := State.topJava?_eq_some.mp hg
  have e1 : (((s.setTop g).pushFrame (.throwing a)).setVm vm') = (((s.setVm vm').setTop g).pushFrame (.throwing a)) := by
    rw [State.setTop_of_frames _ hr, State.setTop_of_frames (s := s.setVm vm') _ hr]
    rfl
  have hr' : (s.setVm vm').frames = .java g₀ :: r := hr
  rw [e1, State.pushFrame, State.setFrames_setFrames, State.setTop_of_frames _ hr', State.setFrames_setFrames]
  rw [State.setTop_of_frames _ hr'] at hrest
  rw [hr]
  exact hrest
variable {p : Program} {l : Launch} {e : Env} {R : Room} {s : State} {m : MethodId} {args : Array Value} {below : List Frame} {meth : Method} {c : Code} {T : State} {locs : List Loc} {cells slots : Nat}
/-- the class of a row, resolved at the latest now -/
theorem gx_rowC (X : Stand p l e R s m args below meth c T locs cells slots) {own E : String} {idx : Nat} (hown : s.vm.findClass own = some m.cls) (hcl : (Cond.classLink own idx E).before args s = true) :
    ∃ (cC : ClassId) (vm' : Vm), s.vm.findClass E = some cC ∧ (Jvm.resolveClass m.cls idx).Gives e.toSetting T.vm (.ok cC) vm' ∧ vm'.classes.size ≤ T.vm.classes.size ∧ s.WarmedH vm' := by
  have hpl : e.platform.magicAccessors = ({} : Platform).magicAccessors := by rw [X.admits.platform]
  obtain ⟨cc, hfcc, hcl⟩ := Cond.classLink_spec hown hcl e.platform hpl
  obtain ⟨hg₁, hwarm₁, hready₁⟩ := State.classEntry (e := e) X.warmed hcl
  exact ⟨cc, _, hfcc, hg₁, by first | no_record | simp [Vm.noted], hwarm₁⟩
theorem gx_catch1 (X : Stand p l e R s m args below meth c T locs cells slots) {own E : String} {idx : Nat} (hown : s.vm.findClass own = some m.cls) (hcl : (Cond.classLink own idx E).before args s = true) {x : ExceptionTableEntry} {rest : List ExceptionTableEntry} (htab : c.exceptionTable.toList = x :: rest)
    {g : JFrame} (hg : g.method = m) (hx : covers x g.pc = true) (h0 : x.catchType ≠ 0) (hi : x.catchType = idx) {a : Addr} {cell : Cell} (hcell : T.heap[a]? = some cell) (hv : cell.vm = .none) (hc : s.vm.findClass E = some cell.cls) :
    ∃ vm', Stand p l e R s m args below meth c (T.setVm vm') locs cells slots ∧ ∀ target, Steps p.tables e below ((T.setVm vm').setTop { g with pc := x.handlerPc, stack := [.ref a] }) target → Steps p.tables e below ((T.setTop g).pushFrame (.throwing a)) target := by
  subst hi
  obtain ⟨cC, vm', hf, hgv, hsz, hW⟩ := gx_rowC X hown hcl
  cases hf.symm.trans hc
  obtain ⟨k0, hk0⟩ := Vm.classAt_of_findClass hf
  obtain ⟨k1, hk1, -⟩ := hW.alike.2.2 _ _ hk0
  refine ⟨vm', X.noted hW, fun target hrest => ?_⟩
  have h : At T g.method c below := by rw [hg]; exact X.here
  refine gx_caught h (vm' := vm') (pc := x.handlerPc) (fun Q E d acts => ?_) hrest
  have hm : ((T.setTop g).pushFrame (.throwing a)).vm.method? g.method = some meth := by rw [hg]; exact X.method'
  rw [W.findHandler_eq hm X.code, htab, gx_go (s := (T.setTop g).pushFrame (.throwing a)) hx h0 (by rw [hg]; exact hgv) hsz (show ((T.setTop g).pushFrame (.throwing a)).heap[a]? = some cell from hcell) (fun k h9 => by rw [hv] at h9; cases h9) ⟨_, hk1⟩ ⟨_, hk1⟩, if_pos (va_asg _ _)]
theorem gx_catch2 (X : Stand p l e R s m args below meth c T locs cells slots) {own E E' : String} {idx idx' : Nat} (hown : s.vm.findClass own = some m.cls) (hcl' : (Cond.classLink own idx' E').before args s = true) (hcl : (Cond.classLink own idx E).before args s = true) {x x' : ExceptionTableEntry} {rest : List ExceptionTableEntry} (htab : c.exceptionTable.toList = x' :: x :: rest)
    {g : JFrame} (hg : g.method = m) (hx : covers x g.pc = true) (h0 : x.catchType ≠ 0) (hi : x.catchType = idx) (hx' : covers x' g.pc = true) (h0' : x'.catchType ≠ 0) (hi' : x'.catchType = idx') {a : Addr} {cell : Cell} (hcell : T.heap[a]? = some cell) (hv : cell.vm = .none) (hc : s.vm.findClass E = some cell.cls) (hno : ∀ c', s.vm.findClass E' = some c' → s.vm.assignable cell.cls c' = false) :
    ∃ vm', Stand p l e R s m args below meth c (T.setVm vm') locs cells slots ∧ ∀ target, Steps p.tables e below ((T.setVm vm').setTop { g with pc := x.handlerPc, stack := [.ref a] }) target → Steps p.tables e below ((T.setTop g).pushFrame (.throwing a)) target := by
  subst hi; subst hi'
  obtain ⟨cC', vm1, hf', hgv', hsz', hW'⟩ := gx_rowC X hown hcl'
  have X1 := X.noted hW'
  obtain ⟨cC, vm', hf, hgv, hsz, hW⟩ := gx_rowC X1 hown hcl
  cases hf.symm.trans hc
  obtain ⟨k0, hk0⟩ := Vm.classAt_of_findClass hf
  obtain ⟨k1, hk1, -⟩ := hW.alike.2.2 _ _ hk0
  obtain ⟨k2, hk2, -⟩ := hW'.alike.2.2 _ _ hk0
  obtain ⟨k3, hk3⟩ := Vm.classAt_of_findClass hf'
  obtain ⟨k4, hk4, -⟩ := hW'.alike.2.2 _ _ hk3
  refine ⟨vm', X.noted hW, fun target hrest => ?_⟩
  have h : At T g.method c below := by rw [hg]; exact X.here
  refine gx_caught h (vm' := vm') (pc := x.handlerPc) (fun Q E d acts => ?_) hrest
  have hm : ((T.setTop g).pushFrame (.throwing a)).vm.method? g.method = some meth := by rw [hg]; exact X.method'
  have hn : vm1.assignable cell.cls cC' = false := by rw [hW'.alike.assignable]; exact hno _ hf'
  rw [W.findHandler_eq hm X.code, htab, gx_go (s := (T.setTop g).pushFrame (.throwing a)) hx' h0' (by rw [hg]; exact hgv') hsz' (show ((T.setTop g).pushFrame (.throwing a)).heap[a]? = some cell from hcell) (fun k h9 => by rw [hv] at h9; cases h9) ⟨_, hk2⟩ ⟨_, hk4⟩, if_neg (by rw [hn]; decide),
    gx_go (s := ((T.setTop g).pushFrame (.throwing a)).setVm vm1) hx h0 (by rw [hg]; exact hgv) hsz (show (((T.setTop g).pushFrame (.throwing a)).setVm vm1).heap[a]? = some cell from hcell) (fun k h9 => by rw [hv] at h9; cases h9) ⟨_, hk1⟩ ⟨_, hk1⟩, if_pos (va_asg _ _)]
  rfl
end GXF
