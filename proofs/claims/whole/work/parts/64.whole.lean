/-! the start of the law -/
theorem la_arr {s : State} {A : Array Value} {t : FieldType} (h : (Cond.arrayClass t).before A s = true) : ∃ cA : ClassId, ArrOfT s cA t ∧ s.vm.findClass ("[" ++ t.toString) = some cA := by
  obtain ⟨c, k, comp, h1, h2, h3⟩ := Cond.arrayClass_spec h
  exact ⟨c, fun n z => ⟨fun k h => (by cases h), k, h2, comp, h3⟩, h1⟩
theorem la_ovr {s : State} {A : Array Value} {C : String} (h : (Cond.arrayOver (.object C)).before A s = true) : ∃ cA : ClassId, ArrOfT s cA (.object C) ∧ va_RA s cA (.object C) := by
  obtain ⟨comp, c, k, h1, -, h2, h3, h4⟩ := Cond.arrayOver_spec h
  exact ⟨c, fun n z => ⟨fun k h => (by cases h), k, h2, comp, h3⟩, k, comp, h2, h3, h1, h4⟩
set_option maxRecDepth 100000 in
set_option maxHeartbeats 4000000 in
theorem la_K {s : State} {A : Array Value} (hts : ∀ w ∈ lw_tbl, w.before A s = true) : ∃ Z : gw_Z, gw_K Z s := by
  have hT : ∀ w ∈ tables_1, w.before A s = true := fun w hw => hts w (List.mem_append_right _ hw)
  have hW : ∀ w ∈ gw_ws, w.before A s = true := fun w hw => hts w (List.mem_filter.mp hw).1
  obtain ⟨c0, i0, k0⟩ := u_known (C := nR_LL) (T := nF_LL) (N := 12) (n := 12) hW kc_LL.2.1 (hW _ km_LL)
  obtain ⟨c1, i1, k1⟩ := u_known (C := nR_Mo) (T := nF_Mo) (N := 24) (n := 24) hW kc_Mo.2.1 (hW _ km_Mo)
  obtain ⟨c2, i2, k2⟩ := u_known (C := nR_Co) (T := nF_Co) (N := 2) (n := 2) hW kc_Co.2.1 (hW _ km_Co)
  obtain ⟨c3, i3, k3⟩ := u_known (C := nR_De) (T := nF_De) (N := 2) (n := 2) hW kc_De.2.1 (hW _ km_De)
  obtain ⟨c4, i4, k4⟩ := u_known (C := nR_Ra) (T := nF_Ra) (N := 3) (n := 3) hW kc_Ra.2.1 (hW _ km_Ra)
  obtain ⟨c5, i5, k5⟩ := u_known (C := nR_Se) (T := nF_Se) (N := 3) (n := 3) hW kc_Se.2.1 (hW _ km_Se)
  obtain ⟨c6, i6, k6⟩ := u_known (C := nR_Te) (T := nF_Te) (N := 3) (n := 3) hW kc_Te.2.1 (hW _ km_Te)
  obtain ⟨c7, i7, k7⟩ := u_known (C := nR_We) (T := nF_We) (N := 1) (n := 1) hW kc_We.2.1 (hW _ km_We)
  obtain ⟨a0, x0, y0⟩ := la_arr (hW _ ka_int)
  obtain ⟨a1, x1, y1⟩ := la_arr (hW _ ka_long)
  obtain ⟨a2, x2, y2⟩ := la_arr (hW _ ka_char)
  have o3 : (Cond.arrayOver (.object nR_Se)).before A s = true := (hT _ (List.mem_of_getElem? (i := 92) (by decide +kernel)))
  have o4 : (Cond.arrayOver (.object nR_Ra)).before A s = true := (hT _ (List.mem_of_getElem? (i := 48) (by decide +kernel)))
  obtain ⟨a3, x3, y3⟩ := la_ovr o3
  obtain ⟨a4, x4, y4⟩ := la_ovr o4
  refine ⟨((fun i => match i with | 0 => c0 | 1 => c1 | 2 => c2 | 3 => c3 | 4 => c4 | 5 => c5 | 6 => c6 | _ => c7, fun i => match i with | 0 => i0 | 1 => i1 | 2 => i2 | 3 => i3 | 4 => i4 | 5 => i5 | 6 => i6 | _ => i7), fun i => match i with | 0 => a0 | 1 => a1 | 2 => a2 | 3 => a3 | _ => a4), ⟨fun c q h => ?_, fun k q h => ?_⟩, fun w hw => ?_, va_AO.of o3, va_AO.of o4⟩
  · match c, h with
    | 0, h => cases h; exact k0
    | 1, h => cases h; exact k1
    | 2, h => cases h; exact k2
    | 3, h => cases h; exact k3
    | 4, h => cases h; exact k4
    | 5, h => cases h; exact k5
    | 6, h => cases h; exact k6
    | 7, h => cases h; exact k7
    | c + 8, h => exact absurd h (by simp [nv_cl])
  · match k, h with
    | 0, h => cases h; exact ⟨x0, y0⟩
    | 1, h => cases h; exact ⟨x1, y1⟩
    | 2, h => cases h; exact ⟨x2, y2⟩
    | 3, h => cases h; exact ⟨x3, y3⟩
    | 4, h => cases h; exact ⟨x4, y4⟩
    | k + 5, h => exact absurd h (by simp [gw_T])
  · have h1 := hT w (List.mem_filter.mp hw).1
    have h2 : gw_isN w = true := (List.mem_filter.mp hw).2
    cases w with
    | methodLinkNest a b c d => exact va_Nw.of rfl h1
    | fieldLinkNest a b c d e f => exact va_Nw.of rfl h1
    | _ => cases h2
set_option maxRecDepth 100000 in
set_option maxHeartbeats 4000000 in
theorem la_gx {s : State} {A : Array Value} (hts : ∀ w ∈ lw_tbl, w.before A s = true) (hgv : (Jvm.Cond.and given_1 narrow_1).before A s = true) : gx_K s.heap.size s := by
  have hT : ∀ w ∈ tables_1, w.before A s = true := fun w hw => hts w (List.mem_append_right _ hw)
  have hF := flat_of_before _ hgv
  have hu1 : (Cond.laysStatic "java/lang/Throwable" "UNASSIGNED_STACK" "[Ljava/lang/StackTraceElement;").before A s = true := (hT _ (List.mem_of_getElem? (i := 337) (by decide +kernel)))
  have hu2 : (Cond.isRef (.static "java/lang/Throwable" "UNASSIGNED_STACK" "[Ljava/lang/StackTraceElement;")).before A s = true := (hF (Cond.isRef (.static "java/lang/Throwable" "UNASSIGNED_STACK" "[Ljava/lang/StackTraceElement;")) (by decide +kernel))
  have hs1 : (Cond.laysStatic "java/lang/Throwable" "SUPPRESSED_SENTINEL" "Ljava/util/List;").before A s = true := (hT _ (List.mem_of_getElem? (i := 339) (by decide +kernel)))
  have hs2 : (Cond.isRef (.static "java/lang/Throwable" "SUPPRESSED_SENTINEL" "Ljava/util/List;")).before A s = true := (hF (Cond.isRef (.static "java/lang/Throwable" "SUPPRESSED_SENTINEL" "Ljava/util/List;")) (by decide +kernel))
  refine ⟨gx_S_of hu1 hu2, gx_S_of hs1 hs2, fun w hw => ?_, fun q hq => ?_, fun c c' h1 h2 => ?_⟩
  · have h1 := hT w (List.mem_filter.mp hw).1
    have h2 : gx_isT w = true := (List.mem_filter.mp hw).2
    cases w with
    | castable a b => exact va_Nw.of rfl h1
    | declares x => exact va_Nw.of rfl h1
    | _ => cases h2
  · have hc : ∃ cur, s.vm.findClass "LabelLearner" = some cur := (by
      obtain ⟨cC, kC, hfc, -⟩ := Cond.instantiable_spec (hT _ (List.mem_of_getElem? (i := 17) (by decide +kernel)) : (Cond.instantiable "LabelLearner" 12).before A s = true)
      exact ⟨cC, hfc⟩)
    obtain ⟨cur, hcur⟩ := hc
    have hst : (Cond.stringRef "LabelLearner" q.1 q.2).before A s = true := by
      revert hq
      revert q
      show ∀ q ∈ gx_sl, (Cond.stringRef "LabelLearner" q.1 q.2).before A s = true
      exact List.forall_mem_cons.mpr ⟨(hT _ (List.mem_of_getElem? (i := 351) (by decide +kernel))), List.forall_mem_cons.mpr ⟨(hT _ (List.mem_of_getElem? (i := 397) (by decide +kernel))), List.forall_mem_cons.mpr ⟨(hT _ (List.mem_of_getElem? (i := 419) (by decide +kernel))), List.forall_mem_cons.mpr ⟨(hT _ (List.mem_of_getElem? (i := 433) (by decide +kernel))), List.forall_mem_cons.mpr ⟨(hT _ (List.mem_of_getElem? (i := 437) (by decide +kernel))), List.forall_mem_cons.mpr ⟨(hT _ (List.mem_of_getElem? (i := 445) (by decide +kernel))), List.forall_mem_cons.mpr ⟨(hT _ (List.mem_of_getElem? (i := 455) (by decide +kernel))), List.forall_mem_cons.mpr ⟨(hT _ (List.mem_of_getElem? (i := 465) (by decide +kernel))), List.forall_mem_cons.mpr ⟨(hT _ (List.mem_of_getElem? (i := 501) (by decide +kernel))), fun _ h => absurd h List.not_mem_nil⟩⟩⟩⟩⟩⟩⟩⟩⟩
    obtain ⟨k, cf, i, a, -, -, -, -, -, h9⟩ := Cond.stringRef_spec hcur hst
    exact ⟨a, vk_R.of hst h9⟩
  · have h9 : (Cond.not (.castable "java/lang/IllegalStateException" "java/lang/IllegalArgumentException")).before A s = true := hF _ (by decide +kernel)
    simpa [Cond.before, Cond.holds, Cond.value, h1, h2] using h9
theorem la_fl {l : Launch} (h : l.flags = flags0) : l.stackTraces = false := by
  unfold Launch.stackTraces
  rw [h]
  decide +kernel
set_option maxRecDepth 100000 in
set_option maxHeartbeats 4000000 in
theorem whole_start {p : Program} {e : Env} {s : State} {m : MethodId} {below : List Frame} {meth : Method} {c : Code} (l : Launch) (hl0 : l.stackTraces = false) {b L : Nat} {xs : Nat → Int32} (hL : L ≤ 2048) (C0 : lw_At p s m meth c b L xs) : W p l e room_1 s m #[Value.ref b] below meth c s.heap [] 0 0 (lw_Z below #[Value.ref b] s) (entryFrame m ([Value.ref b] : List Value).toArray 8) := by
  obtain ⟨hx, hb, hr, hml, hown, hts, hX, hbl, hlk, hgv⟩ := C0
  obtain ⟨Z, hZ⟩ := la_K hts
  have hok : gw_ok (la_X p l e s m below meth c Z b) nc_La_law "LabelLearnerLaw" (8, 11, 394, 601024, 7293033) := ⟨hx, hb, ⟨hml, rfl, rfl, hlk⟩, hown, fun w hw => hts w (List.mem_filter.mp hw).1, hZ⟩
  have hC : la_C (la_X p l e s m below meth c Z b) b L xs := ⟨la_gx hts hgv, Nat.le_refl _, hl0, hX, hbl, Nat.not_le.mpr hbl, hL⟩
  have hl := lv_entry [Value.ref b] (n := 8) (Nat.le_of_ble_eq_true rfl)
  rw [lg_entry_eq]
  exact la_begin hok b s.heap.size (fun σ' h' => la_loop hok hC hr s.heap.size 1000 0 σ' rfl h') (s.heap.size, fun _ => none) rfl s.heap [] _ ⟨rfl, ⟨Nat.le_refl _, fun a cell h1 h2 => absurd (Array.getElem?_eq_some_iff.mp h2).1 (Nat.not_lt.mpr h1)⟩, fun a e h => (by cases h)⟩ va_S.rf hl
set_option maxHeartbeats 4000000 in
theorem lw_walk (l : Launch) (hl0 : l.stackTraces = false) (b : Addr) (xs : List Int32) : MetFree l x (headSpec (Jvm.Cond.code x code maxLocals ret :: tables_1) room_1) (lw_P b xs) (fun _ _ _ _ _ => True) lw_Q := by
  refine MetFree.of_bodyS (code := code) (maxLocals := maxLocals) (ret := ret) (by decide) ?_ ?_
  · intro args s m h hn
    obtain ⟨meth, c, h1, h2, h3, h4, h5, h6, -, -⟩ := Cond.code_spec hn (atoms_spec (ws := Jvm.Cond.code x code maxLocals ret :: tables_1) h _ List.mem_cons_self)
    exact ⟨meth, c, h1, h2, h3, h4, h5, h6⟩
  · intro p e s m args below meth c s₁ B hml0 hP _
    obtain ⟨rfl, hx, hbd, hgv⟩ := hP
    obtain ⟨scr, harrAt, hlist, hof, hsmall⟩ := hx
    obtain ⟨hcb, hkn, -, -⟩ := State.arrayAt?_spec harrAt
    have hown : s.vm.findClass R_law = some m.cls := findClass_of_methodNamed B.named
    have hts0 : ∀ c ∈ (Jvm.Cond.code x code maxLocals ret :: tables_1), c.before #[Value.ref b] s = true := atoms_spec (ws := Jvm.Cond.code x code maxLocals ret :: tables_1) B.pre
    have hts : ∀ w ∈ lw_tbl, w.before #[Value.ref b] s = true := k2_hts_sels lw_privs (fun w hw => hts0 w (List.mem_cons_of_mem _ hw)) lw_privs_ok
    have hml : c.maxLocals = 8 := B.maxLocals_eq (hts0 _ List.mem_cons_self)
    have X₀ : Stand p l e room_1 s m #[Value.ref b] below meth c s₁ [] 0 0 := Stand.of_body B
    have hh0 : s₁.heap = s.heap := by rw [B.state]; rfl
    have hsz : scr.slots.size = xs.length := by rw [← Array.length_toList, hlist, List.length_map]
    have hval : ∀ j : Nat, j < xs.length → scr.slots[j]? = some (.int (xs.getD j 0)) := fun j hj => by
      rw [← Array.getElem?_toList, hlist]
      simp [hj]
    have hbl : b < s.heap.size := (Array.getElem?_eq_some_iff.mp hcb).1
    have hX : va_X b xs.length (fun j => xs.getD j 0) s s.heap := ⟨scr, hcb, hof, hkn, hsz, hval⟩
    have K : W p l e room_1 s m #[Value.ref b] below meth c s₁.heap [] 0 0 (lw_Z below #[Value.ref b] s) (entryFrame m ([Value.ref b] : List Value).toArray 8) := by
      rw [hh0]
      exact whole_start l hl0 hbd ⟨B.exec, B.bytes, B.returns, hml, hown, hts, hX, hbl, B.notSynchronized, hgv⟩
    obtain ⟨t, a1, o, b1, b2, b3⟩ := K s₁ rfl X₀
    exact ⟨t, o, a1, b1, b2, b3⟩
theorem lw_pre_spec {args : Array Value} {s : State} (h : (Jvm.Cond.and given_1 narrow_1).before args s = true) (hr : rest_1_c.before args s = true) : ∃ (b : Addr) (xs : List Int32), lw_P b xs args s := by
  have hs := flat_of_before _ h
  have hq := flat_of_before _ hr
  have hc : (Cond.count 1).before args s = true := hs _ (by decide +kernel)
  have harr : (Cond.arrayOf (.arg 0) .int).before args s = true := hs _ (by decide +kernel)
  have hle : (Cond.le (.length (.arg 0)) (.int 2048)).before args s = true := hs _ (by decide +kernel)
  have hlen : (Cond.isInt (.length (.arg 0))).before args s = true := hq _ (by decide +kernel)
  have hall : (Cond.all (.arg 0) (.isInt (.elem (.arg 0) (.index 0)))).before args s = true := hq _ (by decide +kernel)
  obtain ⟨b, xs, hb, hx⟩ := State.ints_of_pre rfl harr hlen hall
  have hsm : xs.length < 2 ^ 31 := hx.choose_spec.2.2.2
  have hev : (Term.length (.arg 0)).eval args s none [] s = some (.int xs.length.toInt32) := hx.length_eval hb
  have hv := Cond.le_ints hev (show (Term.int 2048).eval args s none [] s = some (.int 2048) from rfl)
  have hd : xs.length.toInt32 ≤ 2048 := by
    simpa [Cond.before, Cond.holds, hv] using hle
  have hN : xs.length ≤ 2048 := (Int32.ofNat_le_ofNat hsm (by decide)).mp (show Int32.ofNat xs.length ≤ Int32.ofNat 2048 from hd)
  exact ⟨b, xs, Cond.one_arg hc (show args[0]? = some (.ref b) from hb), hx, hN, h⟩
theorem lw_comes (l : Launch) (hl0 : l.stackTraces = false) : Comes l x (Jvm.Cond.code x code maxLocals ret :: tables_1) room_1 (fun tb e args s => Calls_1 tb e args s ∧ rest_1 tb e args s ∧ Pre_1 tb e args s)
    (fun _ _ args s o t => lw_Q args s o t) := by
  intro p e ha hc hk s m args below hf hfit hheap happ hpre
  obtain ⟨b, xs, hP⟩ := lw_pre_spec hpre.2.2 hpre.2.1
  obtain ⟨k, o, h1, h2, h3, hQ⟩ := lw_walk l hl0 b xs p e ha hc hk s m args below hf ((Spec.applies_iff_loose hf).mp happ).1 hP trivial
  exact ⟨k, o, h1, h2, h3, hQ⟩
theorem lw_frame {s t : State} {o : Outcome} {args : Array Value} (h : Framed s o t [] 601024 7293033) :
    Framed s o t (fieldLocs frame_1_writes args s ++ arrayLocs frame_1_arrays args s ++ staticLocs frame_1_statics s) 601024 7293033 := h
theorem lw_limb (L : Cond) (hL : ∀ (args : Array Value) (s t : State), L.after args s (.returned (some (.int 1))) t = true) :
    ArmFor flags0 classFile x code maxLocals ret World_1 tables_1 room_1 Calls_1 rest_1 Pre_1
      (fun tb e a s o t => postC L tb e a s o t ∧ Framed s o t (fieldLocs frame_1_writes a s ++ arrayLocs frame_1_arrays a s ++ staticLocs frame_1_statics s) 601024 7293033) := by
  intro l hfl _ _ p e ha hc hk s m args below hf hfit hheap happ hpre
  obtain ⟨k, o, h1, h2, h3, rfl, hF⟩ := lw_comes l (la_fl hfl) p e ha hc hk s m args below hf hfit hheap happ hpre
  exact ⟨k, _, h1, h2, h3, hL args s _, lw_frame hF⟩
theorem i_vc : Claimed_1_1 ∧ Claimed_1_2 := ⟨lw_limb limb_1_1 (fun args s t => by simp [limb_1_1, Cond.after, Cond.holds, Cond.value]), lw_limb limb_1_2 (fun args s t => Cond.after_iff.mpr (by
  first | (rw [show limb_1_2 = Cond.eq .result (.int 1) from rfl, Cond.eq_ints (x := 1) (y := 1) rfl rfl]; simp; done) | (simp [limb_1_2, Cond.value, Term.eval]; done)))⟩
