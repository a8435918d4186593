/-! ===== a throw ===== -/
def gx_has (w : Cond) : Prop := w ∈ gw_ws ∨ w ∈ gx_tl ∨ w = .laysStatic Bundle.tN "UNASSIGNED_STACK" Bundle.steD ∨ w = .laysStatic Bundle.tN "SUPPRESSED_SENTINEL" Bundle.listD ∨ w = .isRef (.static Bundle.tN "UNASSIGNED_STACK" Bundle.steD) ∨ w = .isRef (.static Bundle.tN "SUPPRESSED_SENTINEL" Bundle.listD)
def gx_all : List Cond → Prop
  | [] => True
  | w :: r => gx_has w ∧ gx_all r
theorem gx_all_at : ∀ {ws : List Cond}, gx_all ws → ∀ w ∈ ws, gx_has w
  | [], _, _, h => by cases h
  | _ :: _, h, w, hw => (List.mem_cons.mp hw).elim (fun e => e ▸ h.1) (gx_all_at h.2 w)
def gx_up : List String := ["java/lang/RuntimeException", "java/lang/Exception"]
def gx_IA : String := "java/lang/IllegalArgumentException"
theorem gx_wIA : gx_all (Bundle.ownAtoms "LabelLearner" 69 gx_IA gx_up) := ⟨Or.inl (gw_in_t 10 (by decide +kernel) rfl), Or.inl (gw_in_t 332 (by decide +kernel) rfl), Or.inl (gw_in_t 341 (by decide +kernel) rfl), Or.inl (gw_in_t 345 (by decide +kernel) rfl), Or.inl (gw_in_t 348 (by decide +kernel) rfl), Or.inl (gw_in_t 350 (by decide +kernel) rfl), Or.inl (gw_in_t 333 (by decide +kernel) rfl), Or.inl (gw_in_t 334 (by decide +kernel) rfl), Or.inl (gw_in_t 22 (by decide +kernel) rfl), Or.inl (gw_in_t 23 (by decide +kernel) rfl), Or.inl (gw_in_t 335 (by decide +kernel) rfl), Or.inl (gw_in_t 340 (by decide +kernel) rfl), Or.inl (gw_in_t 346 (by decide +kernel) rfl), Or.inl (gw_in_t 366 (by decide +kernel) rfl), Or.inl (gw_in_t 322 (by decide +kernel) rfl), Or.inl (gw_in_t 367 (by decide +kernel) rfl), Or.inl (gw_in_t 324 (by decide +kernel) rfl), Or.inl (gw_in_t 368 (by decide +kernel) rfl), Or.inl (gw_in_t 326 (by decide +kernel) rfl), Or.inl (gw_in_t 336 (by decide +kernel) rfl), Or.inr (Or.inr (Or.inl rfl)), Or.inl (gw_in_t 338 (by decide +kernel) rfl), Or.inr (Or.inr (Or.inr (Or.inl rfl))), Or.inl (gw_in_t 328 (by decide +kernel) rfl), Or.inl (gw_in_t 362 (by decide +kernel) rfl), Or.inl (gw_in_t 363 (by decide +kernel) rfl), Or.inl (gw_in_t 365 (by decide +kernel) rfl), Or.inl (gw_in_t 328 (by decide +kernel) rfl), Or.inl (gw_in_t 353 (by decide +kernel) rfl), Or.inl (gw_in_t 354 (by decide +kernel) rfl), Or.inl (gw_in_t 355 (by decide +kernel) rfl), Or.inl (gw_in_t 356 (by decide +kernel) rfl), Or.inr (Or.inl (List.mem_filter.mpr ⟨List.mem_of_getElem? (show tables_1[314]? = _ by decide +kernel), rfl⟩)), Or.inl (gw_in_t 356 (by decide +kernel) rfl), Or.inl (gw_in_t 357 (by decide +kernel) rfl), Or.inl (gw_in_t 358 (by decide +kernel) rfl), Or.inl (gw_in_t 359 (by decide +kernel) rfl), Or.inr (Or.inl (List.mem_filter.mpr ⟨List.mem_of_getElem? (show tables_1[316]? = _ by decide +kernel), rfl⟩)), Or.inl (gw_in_t 359 (by decide +kernel) rfl), Or.inl (gw_in_t 360 (by decide +kernel) rfl), Or.inl (gw_in_t 361 (by decide +kernel) rfl), Or.inl (gw_in_t 362 (by decide +kernel) rfl), Or.inr (Or.inl (List.mem_filter.mpr ⟨List.mem_of_getElem? (show tables_1[318]? = _ by decide +kernel), rfl⟩)), Or.inl (gw_in_t 352 (by decide +kernel) rfl), Or.inl (gw_in_t 311 (by decide +kernel) rfl), Or.inr (Or.inl (List.mem_filter.mpr ⟨List.mem_of_getElem? (show tables_1[312]? = _ by decide +kernel), rfl⟩)), Or.inl (gw_in_t 319 (by decide +kernel) rfl), Or.inl (gw_in_t 320 (by decide +kernel) rfl), Or.inl (gw_in_t 321 (by decide +kernel) rfl), Or.inl (gw_in_t 323 (by decide +kernel) rfl), Or.inl (gw_in_t 325 (by decide +kernel) rfl), Or.inl (gw_in_t 327 (by decide +kernel) rfl), Or.inr (Or.inr (Or.inr (Or.inr (Or.inl rfl)))), Or.inr (Or.inr (Or.inr (Or.inr (Or.inr rfl)))), Or.inl (gw_in_t 331 (by decide +kernel) rfl), Or.inl (gw_in_t 330 (by decide +kernel) rfl), Or.inl (gw_in_t 329 (by decide +kernel) rfl), trivial⟩
def gx_IO : String := "java/lang/IndexOutOfBoundsException"
theorem gx_wIO : gx_all (Bundle.ownAtoms "LabelLearner" 103 gx_IO gx_up) := ⟨Or.inl (gw_in_t 10 (by decide +kernel) rfl), Or.inl (gw_in_t 332 (by decide +kernel) rfl), Or.inl (gw_in_t 341 (by decide +kernel) rfl), Or.inl (gw_in_t 345 (by decide +kernel) rfl), Or.inl (gw_in_t 348 (by decide +kernel) rfl), Or.inl (gw_in_t 350 (by decide +kernel) rfl), Or.inl (gw_in_t 333 (by decide +kernel) rfl), Or.inl (gw_in_t 334 (by decide +kernel) rfl), Or.inl (gw_in_t 22 (by decide +kernel) rfl), Or.inl (gw_in_t 23 (by decide +kernel) rfl), Or.inl (gw_in_t 335 (by decide +kernel) rfl), Or.inl (gw_in_t 340 (by decide +kernel) rfl), Or.inl (gw_in_t 346 (by decide +kernel) rfl), Or.inl (gw_in_t 366 (by decide +kernel) rfl), Or.inl (gw_in_t 322 (by decide +kernel) rfl), Or.inl (gw_in_t 367 (by decide +kernel) rfl), Or.inl (gw_in_t 324 (by decide +kernel) rfl), Or.inl (gw_in_t 368 (by decide +kernel) rfl), Or.inl (gw_in_t 326 (by decide +kernel) rfl), Or.inl (gw_in_t 336 (by decide +kernel) rfl), Or.inr (Or.inr (Or.inl rfl)), Or.inl (gw_in_t 338 (by decide +kernel) rfl), Or.inr (Or.inr (Or.inr (Or.inl rfl))), Or.inl (gw_in_t 328 (by decide +kernel) rfl), Or.inl (gw_in_t 362 (by decide +kernel) rfl), Or.inl (gw_in_t 363 (by decide +kernel) rfl), Or.inl (gw_in_t 365 (by decide +kernel) rfl), Or.inl (gw_in_t 328 (by decide +kernel) rfl), Or.inl (gw_in_t 421 (by decide +kernel) rfl), Or.inl (gw_in_t 422 (by decide +kernel) rfl), Or.inl (gw_in_t 423 (by decide +kernel) rfl), Or.inl (gw_in_t 356 (by decide +kernel) rfl), Or.inr (Or.inl (List.mem_filter.mpr ⟨List.mem_of_getElem? (show tables_1[314]? = _ by decide +kernel), rfl⟩)), Or.inl (gw_in_t 356 (by decide +kernel) rfl), Or.inl (gw_in_t 357 (by decide +kernel) rfl), Or.inl (gw_in_t 358 (by decide +kernel) rfl), Or.inl (gw_in_t 359 (by decide +kernel) rfl), Or.inr (Or.inl (List.mem_filter.mpr ⟨List.mem_of_getElem? (show tables_1[316]? = _ by decide +kernel), rfl⟩)), Or.inl (gw_in_t 359 (by decide +kernel) rfl), Or.inl (gw_in_t 360 (by decide +kernel) rfl), Or.inl (gw_in_t 361 (by decide +kernel) rfl), Or.inl (gw_in_t 362 (by decide +kernel) rfl), Or.inr (Or.inl (List.mem_filter.mpr ⟨List.mem_of_getElem? (show tables_1[318]? = _ by decide +kernel), rfl⟩)), Or.inl (gw_in_t 420 (by decide +kernel) rfl), Or.inl (gw_in_t 411 (by decide +kernel) rfl), Or.inr (Or.inl (List.mem_filter.mpr ⟨List.mem_of_getElem? (show tables_1[412]? = _ by decide +kernel), rfl⟩)), Or.inl (gw_in_t 413 (by decide +kernel) rfl), Or.inl (gw_in_t 344 (by decide +kernel) rfl), Or.inl (gw_in_t 414 (by decide +kernel) rfl), Or.inl (gw_in_t 415 (by decide +kernel) rfl), Or.inl (gw_in_t 416 (by decide +kernel) rfl), Or.inl (gw_in_t 417 (by decide +kernel) rfl), Or.inr (Or.inr (Or.inr (Or.inr (Or.inl rfl)))), Or.inr (Or.inr (Or.inr (Or.inr (Or.inr rfl)))), Or.inl (gw_in_t 331 (by decide +kernel) rfl), Or.inl (gw_in_t 330 (by decide +kernel) rfl), Or.inl (gw_in_t 418 (by decide +kernel) rfl), trivial⟩
def gx_IS : String := "java/lang/IllegalStateException"
theorem gx_wIS : gx_all (Bundle.ownAtoms "LabelLearner" 126 gx_IS gx_up) := ⟨Or.inl (gw_in_t 10 (by decide +kernel) rfl), Or.inl (gw_in_t 332 (by decide +kernel) rfl), Or.inl (gw_in_t 341 (by decide +kernel) rfl), Or.inl (gw_in_t 345 (by decide +kernel) rfl), Or.inl (gw_in_t 348 (by decide +kernel) rfl), Or.inl (gw_in_t 350 (by decide +kernel) rfl), Or.inl (gw_in_t 333 (by decide +kernel) rfl), Or.inl (gw_in_t 334 (by decide +kernel) rfl), Or.inl (gw_in_t 22 (by decide +kernel) rfl), Or.inl (gw_in_t 23 (by decide +kernel) rfl), Or.inl (gw_in_t 335 (by decide +kernel) rfl), Or.inl (gw_in_t 340 (by decide +kernel) rfl), Or.inl (gw_in_t 346 (by decide +kernel) rfl), Or.inl (gw_in_t 366 (by decide +kernel) rfl), Or.inl (gw_in_t 322 (by decide +kernel) rfl), Or.inl (gw_in_t 367 (by decide +kernel) rfl), Or.inl (gw_in_t 324 (by decide +kernel) rfl), Or.inl (gw_in_t 368 (by decide +kernel) rfl), Or.inl (gw_in_t 326 (by decide +kernel) rfl), Or.inl (gw_in_t 336 (by decide +kernel) rfl), Or.inr (Or.inr (Or.inl rfl)), Or.inl (gw_in_t 338 (by decide +kernel) rfl), Or.inr (Or.inr (Or.inr (Or.inl rfl))), Or.inl (gw_in_t 328 (by decide +kernel) rfl), Or.inl (gw_in_t 362 (by decide +kernel) rfl), Or.inl (gw_in_t 363 (by decide +kernel) rfl), Or.inl (gw_in_t 365 (by decide +kernel) rfl), Or.inl (gw_in_t 328 (by decide +kernel) rfl), Or.inl (gw_in_t 467 (by decide +kernel) rfl), Or.inl (gw_in_t 468 (by decide +kernel) rfl), Or.inl (gw_in_t 469 (by decide +kernel) rfl), Or.inl (gw_in_t 356 (by decide +kernel) rfl), Or.inr (Or.inl (List.mem_filter.mpr ⟨List.mem_of_getElem? (show tables_1[314]? = _ by decide +kernel), rfl⟩)), Or.inl (gw_in_t 356 (by decide +kernel) rfl), Or.inl (gw_in_t 357 (by decide +kernel) rfl), Or.inl (gw_in_t 358 (by decide +kernel) rfl), Or.inl (gw_in_t 359 (by decide +kernel) rfl), Or.inr (Or.inl (List.mem_filter.mpr ⟨List.mem_of_getElem? (show tables_1[316]? = _ by decide +kernel), rfl⟩)), Or.inl (gw_in_t 359 (by decide +kernel) rfl), Or.inl (gw_in_t 360 (by decide +kernel) rfl), Or.inl (gw_in_t 361 (by decide +kernel) rfl), Or.inl (gw_in_t 362 (by decide +kernel) rfl), Or.inr (Or.inl (List.mem_filter.mpr ⟨List.mem_of_getElem? (show tables_1[318]? = _ by decide +kernel), rfl⟩)), Or.inl (gw_in_t 466 (by decide +kernel) rfl), Or.inl (gw_in_t 457 (by decide +kernel) rfl), Or.inr (Or.inl (List.mem_filter.mpr ⟨List.mem_of_getElem? (show tables_1[458]? = _ by decide +kernel), rfl⟩)), Or.inl (gw_in_t 459 (by decide +kernel) rfl), Or.inl (gw_in_t 343 (by decide +kernel) rfl), Or.inl (gw_in_t 460 (by decide +kernel) rfl), Or.inl (gw_in_t 461 (by decide +kernel) rfl), Or.inl (gw_in_t 462 (by decide +kernel) rfl), Or.inl (gw_in_t 463 (by decide +kernel) rfl), Or.inr (Or.inr (Or.inr (Or.inr (Or.inl rfl)))), Or.inr (Or.inr (Or.inr (Or.inr (Or.inr rfl)))), Or.inl (gw_in_t 331 (by decide +kernel) rfl), Or.inl (gw_in_t 330 (by decide +kernel) rfl), Or.inl (gw_in_t 464 (by decide +kernel) rfl), trivial⟩
def gx_site (ic ik : Nat) (E : String) : Prop := Bundle.fit E = true ∧ gx_all (Bundle.ownAtoms "LabelLearner" ic E gx_up) ∧ Cond.classLink "LabelLearner" ik E ∈ gw_ws ∧ Cond.instantiable E 6 ∈ gw_ws ∧ Cond.initialized E ∈ gw_ws
theorem gx_sIA : gx_site 69 65 gx_IA := ⟨by decide, gx_wIA, gw_in_t 310 (by decide +kernel) rfl, gw_in_t 311 (by decide +kernel) rfl, gw_in_t 13 (by decide +kernel) rfl⟩
theorem gx_sIO : gx_site 103 99 gx_IO := ⟨by decide, gx_wIO, gw_in_t 410 (by decide +kernel) rfl, gw_in_t 411 (by decide +kernel) rfl, gw_in_t 14 (by decide +kernel) rfl⟩
theorem gx_sIS : gx_site 126 122 gx_IS := ⟨by decide, gx_wIS, gw_in_t 456 (by decide +kernel) rfl, gw_in_t 457 (by decide +kernel) rfl, gw_in_t 15 (by decide +kernel) rfl⟩
section GXD
variable {p : Program} {l : Launch} {e : Env} {R : Room} {s : State} {m : MethodId} {args : Array Value} {below : List Frame} {meth : Method} {c : Code} {T : State} {locs : List Loc} {cells slots : Nat}
/-- the same walk, as if the method had begun in the present heap -/
def gx_now (s T : State) : State := { s with heap := T.heap, slotsUsed := T.slotsUsed }
theorem gx_rebase (X : Stand p l e R s m args below meth c T locs cells slots) (h1 : cells ≤ R.cells) (h2 : slots ≤ R.slots) :
    Stand p l e { R with cells := R.cells - cells, slots := R.slots - slots } (gx_now s T) m args below meth c T [] 0 0 := by
  have hb := X.book
  have h3 := X.heapSize
  have h4 := X.used
  refine ⟨X.admits, X.cas, X.clock, X.frames, ?_, X.hears, X.method, X.code, X.here, X.tail, X.warmed, X.limits, X.bytes, ?_⟩
  · have hr := X.room
    simp only [State.hasRoom, Bool.and_eq_true, decide_eq_true_eq] at hr ⊢
    obtain ⟨⟨⟨⟨r1, r2⟩, r3⟩, r4⟩, r5⟩ := hr
    refine ⟨⟨⟨⟨r1, r2⟩, ?_⟩, ?_⟩, hb⟩
    · show T.heap.size + (R.cells - cells) ≤ _
      omega
    · show T.slotsUsed + (R.slots - slots) ≤ _
      omega
  · refine ⟨X.same.1, Nat.le_refl _, Nat.le_refl _, ?_, ?_, fun a c9 h => ⟨c9, h, rfl, rfl, fun _ _ => rfl⟩⟩
    · show T.slotsUsed = T.slotsUsed + ((T.heap.toList.drop T.heap.size).map (·.slots.size)).sum
      rw [show T.heap.toList.drop T.heap.size = [] from List.drop_eq_nil_of_le (by simp)]
      rfl
    · show ((T.heap.toList.drop T.heap.size).map (·.slots.size)).sum ≤ 0
      rw [show T.heap.toList.drop T.heap.size = [] from List.drop_eq_nil_of_le (by simp)]
      exact Nat.le_refl 0
theorem gx_rejoin (X : Stand p l e R s m args below meth c T locs cells slots) {U : State} {L' : List Loc} {c1 s1 : Nat} (h : (gx_now s T).sameButNew ({ U with vm := (gx_now s T).vm } : State) L' c1 s1) :
    s.sameButNew ({ U with vm := s.vm } : State) (locs ++ L') (cells + c1) (slots + s1) := by
  refine X.same.trans ⟨?_, h.2⟩
  refine h.1.trans (congrArg (fun z : State => ({ z with heap := U.heap, slotsUsed := U.slotsUsed } : State)) (?_ : (gx_now s T).setFrames U.frames = (T.setVm s.vm).setFrames U.frames))
  have h3 : T.setVm s.vm = (gx_now s T).setFrames T.frames := X.same.1
  rw [h3, State.setFrames_setFrames]
theorem gx_dup {cc : ByteArray} {pc : Nat} {ls : Array Slot} {va : Value} {rest : List Value} {t : State} (X : Stand p l e R s m args below meth c T locs cells slots) (hexec : p.tables.exec = Jvm.exec) (hb : c.code = cc) (hdg : decode cc pc = .ok (.dup, 1)) (hva : va.category = 1)
    (a : Steps p.tables e below (T.setTop (F0 m (pc + 1) ls (va :: va :: rest))) t) : Steps p.tables e below (T.setTop (F0 m pc ls (va :: rest))) t := by
  jvm_step X.here [X.here.top, hexec, hb, hdg, hva]
  exact a
end GXD
section GXE
variable {X : gw_C} {cc : ByteArray} {q : gw_N} {σ : gw_S} {ce sl pc : Nat} {L : List (Nat × Value)} {post : Option Value → gw_S → Prop} {px : String → gw_S → Prop} {mc ms : Nat}
theorem gx_words {b0 : Nat} {A : Array Value} {U : State} (hw : ∀ w ∈ gw_ws, w.before A U = true) (hE : gx_K b0 U) {w : Cond} (h : gx_has w) : w.before A U = true := by
  rcases h with h | h | rfl | rfl | rfl | rfl
  · exact hw w h
  · have h2 : gx_isT w = true := (List.mem_filter.mp h).2
    have h3 := hE.2.2.1 w h
    cases w with
    | castable a b => exact va_Nw.use rfl h3
    | declares x => exact va_Nw.use rfl h3
    | _ => cases h2
  · exact gx_S_lays hE.1 _
  · exact gx_S_lays hE.2.1 _
  · exact gx_S_ref hE.1 _
  · exact gx_S_ref hE.2.1 _
theorem gx_throw (hX : gw_ok X cc "LabelLearner" q) (hE : gx_ok X) (hQ : X.2.2.2.2 = gx_end X post px mc ms) {ic ik sn : Nat} {E tx : String} (hs : gx_site ic ik E) (hsn : (sn, tx) ∈ gx_sl) (d0 : decode cc pc = .ok (.new ik, 3)) (d1 : decode cc (pc + 3) = .ok (.dup, 1)) (d2 : decode cc (pc + 4) = .ok (.ldc sn, 2)) (d3 : decode cc (pc + 6) = .ok (.invokespecial ic, 3)) (d4 : decode cc (pc + 9) = .ok (.athrow, 1))
    (hf : 5 < q.2.1) (hl : 85 ≤ q.2.2.1) (hc : ce + 1 ≤ mc) (hs2 : sl + 6 ≤ ms) (hc1 : mc ≤ q.2.2.2.1) (hs1 : ms ≤ q.2.2.2.2) (hp : px E (σ.1 + 1, σ.2)) : gw_W X σ ce sl pc L [] := by
  have hb0 := hE.2.2.2
  intro H locs ls hG hS hL T hT X0
  have hRm : X.1.2.2.2 = _ := hX.2.2.1.2.2.1
  have Y0 := gx_rebase X0 (by rw [hRm]; show ce ≤ q.2.2.2.1; omega) (by rw [hRm]; show sl ≤ q.2.2.2.2; omega)
  have hWn : (gw_s X).WarmedH (gx_now (gw_s X) T).vm := State.WarmedH.refl _
  have hw : ∀ w ∈ gw_ws, w.before (gw_a X) (gx_now (gw_s X) T) = true := fun w h9 => word_at (U := gx_now (gw_s X) T) hWn (gw_good w h9) (hX.2.2.2.2.1 w h9)
  have hK : gx_K (gw_b X) (gx_now (gw_s X) T) := gx_K_mv hWn (fun a ha => by show T.heap[a]? = _; rw [hT]; exact hS.2.1 a (by omega) (by omega)) hE.1
  obtain ⟨vm', cC, kC, hfc, hkC, -, -, X1, st1⟩ := Y0.newCold hX.1 hX.2.2.2.1 (hw _ hs.2.2.1) (hw _ hs.2.2.2.1) (hw _ hs.2.2.2.2) (g := F0 (gw_m X) pc ls []) rfl (by rw [hX.2.1]; exact d0) (by rw [hRm]; show 0 + 1 ≤ q.2.2.2.1 - ce; omega) (by rw [hRm]; show 0 + 6 ≤ q.2.2.2.2 - sl; omega)
  obtain ⟨sa, hsa⟩ := hK.2.2.2.1 _ hsn
  have hsz : T.heap.size = σ.1 := by rw [hT]; exact hG.1
  have st2 := fun target => Stand.ldcString X1 hX.1 hX.2.2.2.1 (args := gw_a X) (text := tx) (index := sn) (a := sa) hsa.1 hsa.2 (g := F0 (gw_m X) (pc + 4) ls [.ref T.heap.size, .ref T.heap.size]) rfl (by rw [hX.2.1]; exact d2) target
  obtain ⟨U, st3, hrun, hend, hW, hsm, cx, hcx, hoc⟩ := X1.ctorThrowS hX.1 (by rw [X0.admits.platform]; exact hE.2.1) hX.2.2.2.1 (names := gx_up) (cls := E) (ic := ic) hs.1 (by decide) (fun w hw9 => gx_words hw hK (gx_all_at hs.2.1 w hw9)) (fun z hz => by cases hz) hfc hkC (a := T.heap.size) (State.heap_pushCell_size (T.setVm vm') _) (Nat.le_refl _) (msg := .ref sa) rfl (g := F0 (gw_m X) (pc + 6) ls [.ref sa, .ref T.heap.size, .ref T.heap.size]) rfl (by rw [hX.2.2.1.1]; exact hL.1) rfl rfl (rest := []) rfl (by rw [hX.2.1]; exact d3) (by rw [hX.2.1]; exact d4) (fun z hz => (hE.2.2.1 z hz).elim) (by rw [hRm]; show 2 + 3 < q.2.1; omega) (by rw [hRm]; show 2 * 0 + 1 + (13 * (2 + 1) + 42) ≤ q.2.2.1; omega) hX.2.2.1.2.2.2
  have hk : ∀ a : Nat, a < T.heap.size → U.heap[a]? = T.heap[a]? := by
    intro a ha
    obtain ⟨c9, hc9⟩ : ∃ c9, T.heap[a]? = some c9 := ⟨_, Array.getElem?_eq_getElem ha⟩
    obtain ⟨c8, e1, e2, e3, e4⟩ := hsm.2.2.2.2.2 a c9 hc9
    have e1 : U.heap[a]? = some c8 := e1
    rw [e1, hc9, e2, show c8.slots = c9.slots from Array.ext_getElem? fun i => e4 i (by simp)]
  have hU : U.heap.size = T.heap.size + 1 := by
    have e1 : U.heap.size ≤ T.heap.size + (0 + 1) := hsm.2.2.1
    have e2 := (Array.getElem?_eq_some_iff.mp hcx).1
    omega
  refine ⟨U, st1 _ ?_, ?_⟩
  · show Steps _ _ _ (((T.setVm vm').pushCell { cls := cC, slots := kC.instanceTypes.map defaultValue, vm := .none }).setTop (F0 (gw_m X) (pc + 3) ls [.ref T.heap.size])) U
    have h9 := st2 _ st3
    exact gx_dup X1 hX.1 hX.2.1 d1 rfl h9
  · rw [hQ]
    have hcl : (gw_s X).vm.findClass E = some cx.cls := hoc.cls
    refine ⟨.threw T.heap.size, hrun, hend, Or.inr ⟨T.heap.size, E, cx, locs ++ [], (σ.1 + 1, σ.2), rfl, hp, ⟨by rw [hU, hsz], ⟨Nat.le_succ_of_le hG.2.1.1, fun a cell ha hcell => ?_⟩, fun a e9 he9 => ?_⟩, ⟨?_, fun a g1 g2 => ?_⟩, hcx, hoc.vm, hcl, hW, (gx_rejoin X0 hsm).mono (by omega) (by omega), fun z hz => ?_⟩⟩
    · by_cases h9 : a = T.heap.size
      · subst h9
        cases hcx.symm.trans hcell
        rw [hoc.vm]; rfl
      · have h8 := (Array.getElem?_eq_some_iff.mp hcell).1
        exact hG.2.1.2 a cell ha (by rw [← hT, ← hk a (by omega)]; exact hcell)
    · have h8 := gw_H_lt hG he9
      exact ⟨(hG.2.2 a e9 he9).1, (hG.2.2 a e9 he9).2.kept (by rw [hk a (by omega), hT])⟩
    · show (gw_s X).heap.size ≤ U.heap.size
      have := hS.1
      rw [← hT] at this
      omega
    · show U.heap[a]? = _
      have := hS.1
      rw [← hT] at this
      rw [hk a (Nat.lt_of_lt_of_le g1 this), hT]
      exact hS.2.1 a g1 g2
    · rw [List.append_nil] at hz
      exact hS.2.2 z hz
end GXE
