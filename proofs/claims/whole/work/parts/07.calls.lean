/-! ===== contracts and calls ===== -/
def gw_Pc (Z : gw_Z) (b0 : Nat) (σ : gw_S) (av : List Value) : Array Value → State → Prop := va_Pc av (fun U => gw_K Z U ∧ gw_H Z b0 σ U.heap)
theorem gw_blind (Z : gw_Z) (b0 : Nat) (σ : gw_S) (av : List Value) : FrameBlind (gw_Pc Z b0 σ av) := fun a U g mk h => ⟨h.1, gw_K_vm (s := U) (U := U.calling g mk a) rfl h.2.1, h.2.2⟩
def gw_Qc (Z : gw_Z) (b0 : Nat) (post : Option Value → gw_S → Prop) : Array Value → State → Outcome → State → Prop := fun _ s0 oc t => ∃ (v : Option Value) (σ' : gw_S), oc = .returned v ∧ post v σ' ∧ gw_H Z b0 σ' t.heap ∧ va_F (fun q => b0 ≤ q) s0 t
def gw_end (X : gw_C) (post : Option Value → gw_S → Prop) (mc ms : Nat) : State → Prop := MQ X.2.1.2.2.2 (gw_Qc (gw_z X) (gw_b X) post) (gw_a X) (gw_s X) mc ms (fun q => gw_b X ≤ q)
/-- the contract of a method that returns: on every heap that is σ it answers and leaves what post says -/
def gw_M (l : Launch) (y : MethodName) (cc : ByteArray) (q : gw_N) (ret : Option FieldType) (Z : gw_Z) (b0 : Nat) (σ : gw_S) (av : List Value) (post : Option Value → gw_S → Prop) : Prop :=
  Met l y (.code y cc q.1 ret :: gw_ws) { frames := q.2.1, cells := q.2.2.2.1, slots := q.2.2.2.2, locals := q.2.2.1 } (gw_Pc Z b0 σ av) (gw_Qc Z b0 post) q.2.2.2.1 q.2.2.2.2 (fun a => b0 ≤ a)
theorem gw_M_of {l : Launch} {y : MethodName} {cc : ByteArray} {q : gw_N} {ret : Option FieldType} {Z : gw_Z} {b0 : Nat} {σ : gw_S} {av : List Value} {post : Option Value → gw_S → Prop} (hy : plainName y.cls = true) (ha : (lg_sl av).length ≤ q.1)
    (body : ∀ X : gw_C, gw_ok X cc y.cls q → X.1.2.1 = l → gw_z X = Z → gw_b X = b0 → X.2.2.1.1.sig.returnType = ret → X.2.2.1.1.name = y.name → X.2.2.2.2 = gw_end X post q.2.2.2.1 q.2.2.2.2 → gw_W X σ 0 0 0 (lv_args 0 av) []) : gw_M l y cc q ret Z b0 σ av post := by
  refine Met.ofW (cc := cc) (maxL := q.1) (ret := ret) hy rfl ?_
  intro p e s m args below meth c s₁ B hml hv
  obtain ⟨rfl, hK, hG⟩ := hv
  have hts := atoms_spec (ws := .code y cc q.1 ret :: gw_ws) B.pre
  have hl := lv_entry av (n := q.1) ha
  rw [lg_entry_eq]
  exact body ((p, l, e, { frames := q.2.1, cells := q.2.2.2.1, slots := q.2.2.2.2, locals := q.2.2.1 }), (s, m, av.toArray, below), (meth, c), (Z, b0, q.1), MQ below (gw_Qc Z b0 post) av.toArray s q.2.2.2.1 q.2.2.2.2 (fun a => b0 ≤ a))
    ⟨B.exec, B.bytes, ⟨hml, rfl, rfl, B.notSynchronized⟩, findClass_of_methodNamed B.named, fun w hw => hts w (List.mem_cons_of_mem _ hw), hK⟩ rfl rfl rfl B.returns (name_of_methodNamed B.named B.method).1 rfl s.heap [] _ hG va_S.rf hl
section GWC
variable {X : gw_C} {cc : ByteArray} {own : String} {q : gw_N} {σ : gw_S} {ce sl pc : Nat} {L : List (Nat × Value)} {st : List Value} {post : Option Value → gw_S → Prop} {mc ms : Nat}
theorem gw_iret (hX : gw_ok X cc own q) (hQ : X.2.2.2.2 = gw_end X post mc ms) (hr : X.2.2.1.1.sig.returnType = some .int) (d : decode cc pc = .ok (.ireturn, 1)) {v : Int32} (h1 : ce ≤ mc) (h2 : sl ≤ ms) (hp : post (some (.int v)) σ) : gw_W X σ ce sl pc L [.int v] := by
  intro H locs ls hG hS hL
  refine W.widen h1 h2 ?_
  rw [hQ]
  exact W.iret hX.1 hX.2.1 hr (fun t ht hW => ⟨some (.int v), σ, rfl, hp, by rw [ht]; exact hG, hS.F ht⟩) hS.2.2 d hX.2.2.1.2.2.2
theorem gw_zret (hX : gw_ok X cc own q) (hQ : X.2.2.2.2 = gw_end X post mc ms) (hr : X.2.2.1.1.sig.returnType = some .boolean) (d : decode cc pc = .ok (.ireturn, 1)) {v : Int32} (hn : narrow .boolean (.int v) = .int v) (h1 : ce ≤ mc) (h2 : sl ≤ ms) (hp : post (some (.int v)) σ) : gw_W X σ ce sl pc L [.int v] := by
  intro H locs ls hG hS hL
  refine W.widen h1 h2 ?_
  rw [hQ]
  exact W.zret hX.1 hX.2.1 hr hn (fun t ht hW => ⟨some (.int v), σ, rfl, hp, by rw [ht]; exact hG, hS.F ht⟩) hS.2.2 d hX.2.2.1.2.2.2
theorem gw_lret (hX : gw_ok X cc own q) (hQ : X.2.2.2.2 = gw_end X post mc ms) (hr : X.2.2.1.1.sig.returnType = some .long) (d : decode cc pc = .ok (.lreturn, 1)) {v : Int64} (h1 : ce ≤ mc) (h2 : sl ≤ ms) (hp : post (some (.long v)) σ) : gw_W X σ ce sl pc L [.long v] := by
  intro H locs ls hG hS hL
  refine W.widen h1 h2 ?_
  rw [hQ]
  exact W.lret hX.1 hX.2.1 hr (fun t ht hW => ⟨some (.long v), σ, rfl, hp, by rw [ht]; exact hG, hS.F ht⟩) hS.2.2 d hX.2.2.1.2.2.2
theorem gw_aret (hX : gw_ok X cc own q) (hQ : X.2.2.2.2 = gw_end X post mc ms) {n : String} (hr : X.2.2.1.1.sig.returnType = some (.object n)) (d : decode cc pc = .ok (.areturn, 1)) {a : Nat} (h1 : ce ≤ mc) (h2 : sl ≤ ms) (hp : post (some (.ref a)) σ) : gw_W X σ ce sl pc L [.ref a] := by
  intro H locs ls hG hS hL
  refine W.widen h1 h2 ?_
  rw [hQ]
  exact W.aret hX.1 hX.2.1 hr (Or.inl ⟨n, rfl⟩) (Or.inr ⟨a, rfl⟩) (fun t ht hW => ⟨some (.ref a), σ, rfl, hp, by rw [ht]; exact hG, hS.F ht⟩) hS.2.2 d hX.2.2.1.2.2.2
theorem gw_vret (hX : gw_ok X cc own q) (hQ : X.2.2.2.2 = gw_end X post mc ms) (hr : X.2.2.1.1.sig.returnType = none) (d : decode cc pc = .ok (.return_, 1)) (h1 : ce ≤ mc) (h2 : sl ≤ ms) (hp : post none σ) : gw_W X σ ce sl pc L [] := by
  intro H locs ls hG hS hL
  refine W.widen h1 h2 ?_
  rw [hQ]
  exact W.vret hX.1 hX.2.1 hr (fun t ht hW => ⟨none, σ, rfl, hp, by rw [ht]; exact hG, hS.F ht⟩) hS.2.2 d hX.2.2.1.2.2.2
/-- behind a call -/
theorem gw_back {H : Heap} {locs : List Loc} {ls : Array Slot} {st0 rest : List Value} {a : Array Value} (hr : va_Run X.1.1 X.1.2.1 X.1.2.2.1 X.1.2.2.2 X.2.1.1 X.2.1.2.1 X.2.1.2.2.1 X.2.1.2.2.2 X.2.2.1.1 X.2.2.1.2 H locs ce sl mc ms (F0 (gw_m X) pc ls st0) rest (gw_Qc (gw_z X) (gw_b X) post a) (fun q => gw_b X ≤ q)) (hS : va_S (fun q => gw_b X ≤ q) (gw_s X).heap H locs) (hL : lv_has ls (gw_n X) L)
    (kk : ∀ (v : Option Value) (σ' : gw_S), post v σ' → gw_W X σ' (ce + mc) (sl + ms) (pc + 3) L (v.toList ++ rest)) : gw_w X H locs ce sl (F0 (gw_m X) pc ls st0) := by
  intro T hT X0
  obtain ⟨v, s0, t, T', L', h0, X', hL', e1, e2, ⟨v', σ', hv, hp, hG', hF⟩, hst⟩ := hr T hT X0
  cases hv
  obtain ⟨f1, f2⟩ := hF
  rw [h0, ← e1] at f1
  have f3 : ∀ q : Nat, q < H.size → ¬ gw_b X ≤ q → T'.heap[q]? = H[q]? := fun q h1 h2 => by
    rw [e1, f2 q (by rw [h0]; exact h1) h2, h0]
  obtain ⟨t2, a1, b1⟩ := kk v σ' hp T'.heap (locs ++ L') ls (by rw [e1]; exact hG') ⟨Nat.le_trans hS.1 f1, fun q g1 g2 => (f3 q (Nat.lt_of_lt_of_le g1 hS.1) g2).trans (hS.2.1 q g1 g2), fun z hz => (List.mem_append.mp hz).elim (hS.2.2 z) (hL' z)⟩ hL T' rfl X'
  exact ⟨t2, hst t2 a1, b1⟩
/-- what the tables say of a method that is called -/
def gw_cal (y : MethodName) (cc : ByteArray) (maxL : Nat) (ret : Option FieldType) (n : Nat) : Prop := Cond.code y cc maxL ret ∈ gw_ws ∧ Cond.initialized y.cls ∈ gw_ws ∧ y.cls ≠ "java/lang/invoke/MethodHandle" ∧ y.cls ≠ "java/lang/invoke/VarHandle" ∧ (parseMethodDescriptor y.desc).map (fun d => d.parameters.length) = some n
theorem gw_cal_in {y : MethodName} {cb : ByteArray} {maxL n : Nat} {ret : Option FieldType} (h : gw_cal y cb maxL ret n) : GoodIn gw_ws (.code y cb maxL ret :: gw_ws) := fun w hw => by
  rcases List.mem_cons.mp hw with rfl | h1
  · exact ⟨h.1, gw_good _ h.1⟩
  · exact ⟨h1, gw_good _ h1⟩
/-- the call's own words: a virtual one, a static one, a constructor -/
def gw_sV (own : String) (idx : Nat) (y : MethodName) (cb : ByteArray) (maxL : Nat) (ret : Option FieldType) (n ci : Nat) : Prop := gw_cal y cb maxL ret n ∧ (Cond.methodLink own idx y ∈ gw_ws ∨ ∃ host : String, Cond.methodLinkNest own idx y host ∈ gw_nl) ∧ Cond.instanceMethod y ∈ gw_ws ∧ Cond.selects y.cls y y ∈ gw_ws ∧ ∃ r : vw_C, nv_cl[ci]? = some r ∧ r.1 = y.cls
def gw_sS (own : String) (idx : Nat) (y : MethodName) (cb : ByteArray) (maxL : Nat) (ret : Option FieldType) (n : Nat) : Prop := gw_cal y cb maxL ret n ∧ (Cond.methodLink own idx y ∈ gw_ws ∨ ∃ host : String, Cond.methodLinkNest own idx y host ∈ gw_nl) ∧ Cond.static y ∈ gw_ws
def gw_sI (own : String) (idx : Nat) (y : MethodName) (cb : ByteArray) (maxL : Nat) (n : Nat) : Prop := gw_cal y cb maxL none n ∧ (Cond.methodLink own idx y ∈ gw_ws ∨ ∃ host : String, Cond.methodLinkNest own idx y host ∈ gw_nl) ∧ Cond.instanceMethod y ∈ gw_ws ∧ y.name = "<init>"
/-- room for a callee's frames, words, cells, slots -/
abbrev gw_rm (q q' : gw_N) (ce sl : Nat) : Prop := (q'.2.1 + 1 ≤ q.2.1 ∧ 8 + (q'.1 + 11) + q'.2.2.1 ≤ q.2.2.1) ∧ ce + q'.2.2.2.1 ≤ q.2.2.2.1 ∧ sl + q'.2.2.2.2 ≤ q.2.2.2.2
theorem gw_callV (hX : gw_ok X cc own q) {idx n ci : Nat} {y : MethodName} {cb : ByteArray} {q' : gw_N} {ret : Option FieldType} (k : gw_sV own idx y cb q'.1 ret n ci) {b : Nat} {As rest : List Value} {fs : List Value} (hM : gw_M X.1.2.1 y cb q' ret (gw_z X) (gw_b X) σ (.ref b :: As) post) (hb : σ.2 b = some (.inr (ci, fs))) (hn : As.length = n) (hst : st = As.reverse ++ .ref b :: rest) (hw : (rest.map fun v => v.category).sum ≤ 8) (d : decode cc pc = .ok (.invokevirtual idx, 3)) (hR : gw_rm q q' ce sl)
    (kk : ∀ (v : Option Value) (σ' : gw_S), post v σ' → gw_W X σ' (ce + q'.2.2.2.1) (sl + q'.2.2.2.2) (pc + 3) L (v.toList ++ rest)) : gw_W X σ ce sl pc L st := by
  obtain ⟨hc, hlk, hi, hs, r, hr, hry⟩ := k
  subst hst
  intro H locs ls hG hS hL
  have hws := hX.2.2.2.2.1
  have hRm : X.1.2.2.2 = _ := hX.2.2.1.2.2.1
  have hfix : CallFix X.1.1 (gw_m X) X.2.2.1.2 cc (gw_n X) (gw_s X) (gw_a X) gw_ws own := ⟨hX.1, hX.2.1, hX.2.2.1.1, hX.2.2.2.1, hws⟩
  have hpre : PreV (gw_s X) H y.cls b (gw_Pc (gw_z X) (gw_b X) σ (.ref b :: As)) As := ⟨gw_blind _ _ _ _, by rw [← hry]; exact va_recv hX.2.2.2.2.2.1 (gw_one (hG.2.2 b _ hb).2) hr (q0 := 0) rfl, fun U hU hW => ⟨rfl, gw_K_warm hW hX.2.2.2.2.2, by rw [hU]; exact hG⟩⟩
  rcases hlk with hlk | ⟨host, hlk⟩
  · exact gw_back (va_runV hfix hM ⟨callB_of n hws (gw_cal_in hc) rfl rfl rfl (hws _ hc.2.1) (hws _ hlk) hc.2.2 (by rw [hRm]; exact hR.1), hws _ hi, hws _ hs⟩ hpre rfl hn hL.1 rfl (lv_room hw) d (by rw [hRm]; exact hR.2)) hS hL kk
  · exact gw_back (va_runVN hfix hM ⟨va_cnB n hws (gw_cal_in hc) rfl rfl rfl (hX.2.2.2.2.2.2.1 _ hlk) (hws _ hc.2.1) hc.2.2 (by rw [hRm]; exact hR.1), hws _ hi, hws _ hs⟩ hpre rfl hn hL.1 rfl (lv_room hw) d (by rw [hRm]; exact hR.2)) hS hL kk
theorem gw_callS (hX : gw_ok X cc own q) {idx n : Nat} {y : MethodName} {cb : ByteArray} {q' : gw_N} {ret : Option FieldType} (k : gw_sS own idx y cb q'.1 ret n) {As rest : List Value} (hM : gw_M X.1.2.1 y cb q' ret (gw_z X) (gw_b X) σ As post) (hn : As.length = n) (hst : st = As.reverse ++ rest) (hw : (rest.map fun v => v.category).sum ≤ 8) (d : decode cc pc = .ok (.invokestatic idx, 3)) (hR : gw_rm q q' ce sl)
    (kk : ∀ (v : Option Value) (σ' : gw_S), post v σ' → gw_W X σ' (ce + q'.2.2.2.1) (sl + q'.2.2.2.2) (pc + 3) L (v.toList ++ rest)) : gw_W X σ ce sl pc L st := by
  obtain ⟨hc, hlk, hs⟩ := k
  subst hst
  intro H locs ls hG hS hL
  have hws := hX.2.2.2.2.1
  have hRm : X.1.2.2.2 = _ := hX.2.2.1.2.2.1
  have hfix : CallFix X.1.1 (gw_m X) X.2.2.1.2 cc (gw_n X) (gw_s X) (gw_a X) gw_ws own := ⟨hX.1, hX.2.1, hX.2.2.1.1, hX.2.2.2.1, hws⟩
  have hpre : PreS (gw_s X) H (gw_Pc (gw_z X) (gw_b X) σ As) As := ⟨gw_blind _ _ _ _, fun U hU hW => ⟨rfl, gw_K_warm hW hX.2.2.2.2.2, by rw [hU]; exact hG⟩⟩
  rcases hlk with hlk | ⟨host, hlk⟩
  · exact gw_back (va_runS hfix hM ⟨callB_of n hws (gw_cal_in hc) rfl rfl rfl (hws _ hc.2.1) (hws _ hlk) hc.2.2 (by rw [hRm]; exact hR.1), hws _ hs⟩ hpre rfl hn hL.1 rfl (lv_room hw) d (by rw [hRm]; exact hR.2)) hS hL kk
  · exact gw_back (va_runSN hfix hM ⟨va_cnB n hws (gw_cal_in hc) rfl rfl rfl (hX.2.2.2.2.2.2.1 _ hlk) (hws _ hc.2.1) hc.2.2 (by rw [hRm]; exact hR.1), hws _ hs, trivial⟩ hpre rfl hn hL.1 rfl (lv_room hw) d (by rw [hRm]; exact hR.2)) hS hL kk
theorem gw_callI (hX : gw_ok X cc own q) {idx n : Nat} {y : MethodName} {cb : ByteArray} {q' : gw_N} (k : gw_sI own idx y cb q'.1 n) {b : Nat} {As rest : List Value} (hM : gw_M X.1.2.1 y cb q' none (gw_z X) (gw_b X) σ (.ref b :: As) post) (hn : As.length = n) (hst : st = As.reverse ++ .ref b :: rest) (hw : (rest.map fun v => v.category).sum ≤ 8) (d : decode cc pc = .ok (.invokespecial idx, 3)) (hR : gw_rm q q' ce sl)
    (kk : ∀ (v : Option Value) (σ' : gw_S), post v σ' → gw_W X σ' (ce + q'.2.2.2.1) (sl + q'.2.2.2.2) (pc + 3) L (v.toList ++ rest)) : gw_W X σ ce sl pc L st := by
  obtain ⟨hc, hlk, hi, hy1⟩ := k
  subst hst
  intro H locs ls hG hS hL
  have hws := hX.2.2.2.2.1
  have hRm : X.1.2.2.2 = _ := hX.2.2.1.2.2.1
  have hfix : CallFix X.1.1 (gw_m X) X.2.2.1.2 cc (gw_n X) (gw_s X) (gw_a X) gw_ws own := ⟨hX.1, hX.2.1, hX.2.2.1.1, hX.2.2.2.1, hws⟩
  have hpre : PreS (gw_s X) H (gw_Pc (gw_z X) (gw_b X) σ (.ref b :: As)) (.ref b :: As) := ⟨gw_blind _ _ _ _, fun U hU hW => ⟨rfl, gw_K_warm hW hX.2.2.2.2.2, by rw [hU]; exact hG⟩⟩
  rcases hlk with hlk | ⟨host, hlk⟩
  · exact gw_back (va_runI hfix hM ⟨callB_of n hws (gw_cal_in hc) rfl rfl rfl (hws _ hc.2.1) (hws _ hlk) hc.2.2 (by rw [hRm]; exact hR.1), hy1, hws _ hi⟩ hpre rfl hn hL.1 rfl (lv_room hw) d (by rw [hRm]; exact hR.2)) hS hL kk
  · exact gw_back (va_runIN hfix hM ⟨va_cnB n hws (gw_cal_in hc) rfl rfl rfl (hX.2.2.2.2.2.2.1 _ hlk) (hws _ hc.2.1) hc.2.2 (by rw [hRm]; exact hR.1), hy1, hws _ hi⟩ hpre rfl hn hL.1 rfl (lv_room hw) d (by rw [hRm]; exact hR.2)) hS hL kk
end GWC
