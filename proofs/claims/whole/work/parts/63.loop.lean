/-! THE CLAIM OUT OF ONE WALK OF THE LAW'S BODY. -/
def R_law : String := "LabelLearnerLaw"
def lw_P (b : Addr) (xs : List Int32) (args : Array Value) (s : State) : Prop := args = #[.ref b] ∧ s.IntsAt b xs ∧ xs.length ≤ 2048 ∧ (Jvm.Cond.and given_1 narrow_1).before args s = true
def lw_Q (_ : Array Value) (s : State) (o : Outcome) (t : State) : Prop := o = .returned (some (.int 1)) ∧ Framed s o t [] 601024 7293033
def lw_Z (below : List Frame) (a : Array Value) (s : State) : State → Prop := fun t => ∃ o, t.status = .running ∧ Ended t below o ∧ lw_Q a s o t
/-- the law's own end, with 1 on the stack, nothing written that was there before, its room as the claim has it -/
theorem lw_ret {p : Program} {l : Launch} {e : Env} {s : State} {m : MethodId} {below : List Frame} {meth : Method} {c : Code} {b : Nat} (hx : p.tables.exec = Jvm.exec) (hb : c.code = code) (hr : meth.sig.returnType = ret) (hlocks : meth.locks = false) {pc : Nat} {H : Heap} {ls : Array Slot} (hdg : decode code pc = .ok (.ireturn, 1)) : W p l e room_1 s m #[Value.ref b] below meth c H [] 601024 7293033 (lw_Z below #[Value.ref b] s) (F0 m pc ls [.int 1]) := by
  intro T hT X
  obtain ⟨fs, hret, hrun, hended, hW, hframe⟩ := X.leave (v := some (.int 1)) (hlocks := hlocks) (fun h => by rw [hr] at h; cases h)
  have hmeth' : T.vm.method? m = some meth := X.method'
  refine ⟨T.setFrames fs, ?_, .returned (some (.int 1)), hrun, hended, rfl, ⟨_, rfl⟩, hW, hframe⟩
  jvm_step X.here [X.here.top, hx, hb, hdg, hmeth', hr, ret, narrow_b1]
  (try refine ⟨rfl, ?_⟩); (try refine ⟨rfl, ?_⟩)
  first | (intro acts; rw [hret _ acts rfl rfl rfl]) | rw [hret _ _ rfl rfl rfl]
  exact Steps.refl _
/-- what holds at the law's entry: the machine, the code, the tables' words (any of lw_tbl by 'hts w (by decide +kernel)'), the script of L ints xs at the cell b, what the Statement gives of the start (any of its parts by flat_of_before) -/
def lw_At (p : Program) (s : State) (m : MethodId) (meth : Method) (c : Code) (b L : Nat) (xs : Nat → Int32) : Prop :=
  p.tables.exec = Jvm.exec ∧ c.code = code ∧ meth.sig.returnType = ret ∧ c.maxLocals = 8 ∧ s.vm.findClass R_law = some m.cls ∧ (∀ w ∈ lw_tbl, w.before #[Value.ref b] s = true) ∧ va_X b L xs s s.heap ∧ b < s.heap.size ∧ meth.locks = false ∧ (Jvm.Cond.and given_1 narrow_1).before #[Value.ref b] s = true
/-- where the law's walk stands -/
abbrev la_X (p : Program) (l : Launch) (e : Env) (s : State) (m : MethodId) (below : List Frame) (meth : Method) (c : Code) (Z : gw_Z) (b : Nat) : gw_C := ((p, l, e, room_1), (s, m, #[Value.ref b], below), (meth, c), (Z, s.heap.size, 8), lw_Z below #[Value.ref b] s)
theorem la_ret {p : Program} {l : Launch} {e : Env} {s : State} {m : MethodId} {below : List Frame} {meth : Method} {c : Code} {Z : gw_Z} {b : Nat} {q : gw_N} (hX : gw_ok (la_X p l e s m below meth c Z b) code "LabelLearnerLaw" q) (hr : meth.sig.returnType = ret) {σ : gw_S} {ce sl pc : Nat} {L : List (Nat × Value)} (d : decode code pc = .ok (.ireturn, 1)) (h1 : ce ≤ 601024) (h2 : sl ≤ 7293033) : gw_W (la_X p l e s m below meth c Z b) σ ce sl pc L [.int (nI 1)] := by
  intro H locs ls hG hS hL
  refine W.widen h1 h2 ?_
  intro T hT X0
  exact lw_ret hX.1 hX.2.1 hr hX.2.2.1.2.2.2 d T hT (Stand.dropFresh (locs := []) (J := locs) X0 hS.2.2)
theorem ab_ok_0 : ab_ok ab_0 := ⟨Nat.zero_le _, fun _ => (by decide : 0 < 127), Nat.zero_le _, fun ws h => absurd (show ws ∈ ([] : List (List px_W)) from h) List.not_mem_nil, ⟨fun x h => absurd (show x ∈ ([] : List px_W) from h) List.not_mem_nil, Nat.zero_le _⟩, Nat.zero_le _, Nat.one_pos⟩
theorem mw_ok_0 (kw : Int32) : mw_ok ab_0 (-1) kw (fun _ => 0) (fun _ => 0) (fun _ => 0) := ⟨fun i ws h => absurd (show ([] : List (List px_W))[i]? = some ws from h) (by simp), ⟨zz_I, fun w x h => absurd (show ([] : List px_W)[w]? = some x from h) (by simp)⟩, fun _ => rfl, fun h => absurd rfl h⟩
set_option maxRecDepth 100000 in
set_option maxHeartbeats 8000000 in
theorem la_loop {p : Program} {l : Launch} {e : Env} {s : State} {m : MethodId} {below : List Frame} {meth : Method} {c : Code} {Z : gw_Z} {b L : Nat} {xs : Nat → Int32} (hX : gw_ok (la_X p l e s m below meth c Z b) nc_La_law "LabelLearnerLaw" (8, 11, 394, 601024, 7293033)) (hCx : la_C (la_X p l e s m below meth c Z b) b L xs) (hr : meth.sig.returnType = ret) (n : Nat) : ∀ (u k : Nat) (σ : gw_S), k + u = 1000 → la_I σ Z n k → gw_W (la_X p l e s m below meth c Z b) σ (138 + 3 * k) (2200 + 18 * k) 23 [(0, .ref b), (1, .ref n), (2, .ref (n + 124)), (3, .ref (n + 137)), (4, .int (nI (4 * k)))] [] := by
  intro u
  induction u using Nat.strongRecOn with
  | ind u ih =>
    intro k σ hku hI
    obtain ⟨hK, hb0, hl0, hx, hbl, hbA, hL⟩ := id hCx
    have KK : 4 * k + 4 ≤ L → ∀ σ' : gw_S, la_I σ' Z n (k + 1) → gw_W (la_X p l e s m below meth c Z b) σ' (138 + 3 * (k + 1)) (2200 + 18 * (k + 1)) 23 [(0, .ref b), (1, .ref n), (2, .ref (n + 124)), (3, .ref (n + 137)), (4, .int (nI (4 * k + 4)))] [] := fun hk4 σ' h9 => by
      have h8 := ih (u - 1) (by omega) (k + 1) σ' (by omega) h9
      rw [show 4 * (k + 1) = 4 * k + 4 by omega] at h8
      exact h8
    refine gw_iload hX nd_La_law_23 4 rfl ?_
    refine gw_aload_n hX nd_La_law_25 rfl 0 rfl ?_
    refine gw_slen hX hx hbl hbA nd_La_law_26 ?_
    refine gw_iconst (v := nI 4) hX nd_La_law_27 rfl ?_
    refine gw_isub hX nd_La_law_28 ?_
    refine gw_icmp_gt (tgt := 1001) hX nd_La_law_29 rfl (fun hb => ?_) (fun hb => ?_)
    · skip
      refine gw_iconst (v := nI 1) hX nd_La_law_1001 rfl ?_
      exact la_ret hX hr nd_La_law_1002 (by omega) (by omega)
    · skip
      have hk4 : 4 * k + 4 ≤ L := sc_go hL (by omega) hb
      refine gw_aload_n hX nd_La_law_32 rfl 0 rfl ?_
      refine gw_iload hX nd_La_law_33 4 rfl ?_
      refine gw_sld hX hx hbl hbA nd_La_law_35 (4 * k) rfl (by omega) hL ?_
      refine gw_bipush (v := nI 15) hX nd_La_law_36 rfl ?_
      refine gw_iand hX nd_La_law_38 ?_
      obtain ⟨j, hj, ej⟩ := pk_andE (xs (4 * k)) (m := nI 15) 4 (by decide)
      refine gw_topi ej ?_
      have hj : j < 16 := hj
      rcases (show j = 0 ∨ j = 1 ∨ j = 2 ∨ j = 3 ∨ j = 4 ∨ j = 5 ∨ j = 6 ∨ j = 7 ∨ j = 8 ∨ j = 9 ∨ j = 10 ∨ j = 11 ∨ j = 12 ∨ j = 13 ∨ j = 14 ∨ j = 15 by omega) with rfl | rfl | rfl | rfl | rfl | rfl | rfl | rfl | rfl | rfl | rfl | rfl | rfl | rfl | rfl | rfl
      · exact gw_tsw (tgt := 116) hX nd_La_law_39 (by decide) (by decide) rfl rfl (la_type hX hCx n k hk4 (KK hk4) σ hI)
      · exact gw_tsw (tgt := 185) hX nd_La_law_39 (by decide) (by decide) rfl rfl (la_cut hX hCx n k hk4 (KK hk4) σ hI)
      · exact gw_tsw (tgt := 210) hX nd_La_law_39 (by decide) (by decide) rfl rfl (la_load hX hCx n k hk4 (KK hk4) σ hI)
      · exact gw_tsw (tgt := 254) hX nd_La_law_39 (by decide) (by decide) rfl rfl (la_speak hX hCx n k hk4 (KK hk4) σ hI)
      · exact gw_tsw (tgt := 298) hX nd_La_law_39 (by decide) (by decide) rfl rfl (la_sentences hX hCx n k hk4 (KK hk4) σ hI)
      · exact gw_tsw (tgt := 311) hX nd_La_law_39 (by decide) (by decide) rfl rfl (la_words hX hCx n k hk4 (KK hk4) σ hI)
      · exact gw_tsw (tgt := 367) hX nd_La_law_39 (by decide) (by decide) rfl rfl (la_given hX hCx n k hk4 (KK hk4) σ hI)
      · exact gw_tsw (tgt := 435) hX nd_La_law_39 (by decide) (by decide) rfl rfl (la_feature hX hCx n k hk4 (KK hk4) σ hI)
      · exact gw_tsw (tgt := 515) hX nd_La_law_39 (by decide) (by decide) rfl rfl (la_learn hX hCx n k hk4 (KK hk4) σ hI)
      · exact gw_tsw (tgt := 571) hX nd_La_law_39 (by decide) (by decide) rfl rfl (la_mistakes hX hCx n k hk4 (KK hk4) σ hI)
      · exact gw_tsw (tgt := 584) hX nd_La_law_39 (by decide) (by decide) rfl rfl (la_passes hX hCx n k hk4 (KK hk4) σ hI)
      · exact gw_tsw (tgt := 597) hX nd_La_law_39 (by decide) (by decide) rfl rfl (la_weight hX hCx n k hk4 (KK hk4) σ hI)
      · exact gw_tsw (tgt := 692) hX nd_La_law_39 (by decide) (by decide) rfl rfl (la_decode hX hCx n k hk4 (KK hk4) σ hI)
      · exact gw_tsw (tgt := 803) hX nd_La_law_39 (by decide) (by decide) rfl rfl (la_label hX hCx n k hk4 (KK hk4) σ hI)
      · exact gw_tsw (tgt := 859) hX nd_La_law_39 (by decide) (by decide) rfl rfl (la_score hX hCx n k hk4 (KK hk4) σ hI)
      · exact gw_tsw (tgt := 954) hX nd_La_law_39 (by decide) (by decide) rfl rfl (la_errors hX hCx n k hk4 (KK hk4) σ hI)
set_option maxRecDepth 100000 in
set_option maxHeartbeats 8000000 in
theorem la_begin {X : gw_C} (hX : gw_ok X nc_La_law "LabelLearnerLaw" (8, 11, 394, 601024, 7293033)) (b n : Nat) (K : ∀ σ' : gw_S, la_I σ' (gw_z X) n 0 → gw_W X σ' (138 + 3 * 0) (2200 + 18 * 0) 23 [(0, .ref b), (1, .ref n), (2, .ref (n + 124)), (3, .ref (n + 137)), (4, .int (nI 0))] []) (σ : gw_S) (hsz : σ.1 = n) : gw_W X σ 0 0 0 [(0, .ref b)] [] := by
  replace fr : ∀ b, b < n → σ.2 b = σ.2 b := fun _ _ => rfl
  refine gw_new hX kc_LL kn_La_8 km_LL kb_LL nd_La_law_0 (fs := [.null, .null, .null, .null, .null, .null, .null, .null, .int (nI 0), .int (nI 0), .int (nI 0), .int (nI 0)]) (by decide) (by show 0 + 1 ≤ 601024; omega) (by show 0 + 12 ≤ 7293033; omega) ?_
  obtain ⟨σ1, eσ1⟩ : ∃ hp_, hp_ = gw_nw σ (.inr (0, [.null, .null, .null, .null, .null, .null, .null, .null, .int (nI 0), .int (nI 0), .int (nI 0), .int (nI 0)])) := ⟨_, rfl⟩
  refine gw_heap eσ1.symm ?_
  rw [hsz]
  replace h0 : σ1.2 n = some (.inr (0, [.null, .null, .null, .null, .null, .null, .null, .null, .int (nI 0), .int (nI 0), .int (nI 0), .int (nI 0)])) := by rw [eσ1, ← hsz]; exact gw_nw_eq _ _
  replace fr : ∀ b, b < n → σ1.2 b = σ.2 b := fun b hb9 => (show σ1.2 b = σ.2 b by rw [eσ1, gw_nw_ne (by omega)]).trans (fr b hb9)
  replace hsz : σ1.1 = n + 1 := by rw [eσ1]; show σ.1 + 1 = _; omega
  refine gw_dup hX nd_La_law_3 rfl ?_
  refine gw_callI (rest := [.ref n]) hX ks_La_51 (ct_LL_init _ _ _ _ n hsz h0) rfl rfl (Nat.le_of_ble_eq_true rfl) nd_La_law_4 (by refine ⟨⟨by decide, by decide⟩, ?_, ?_⟩; (show (0 + 1) + 123 ≤ 601024; omega); (show (0 + 12) + 1140 ≤ 7293033; omega)) ?_
  rintro _ σ2 ⟨rfl, hsz, hcw, -⟩
  replace fr : ∀ b, b < n + 124 → σ2.2 b = σ2.2 b := fun _ _ => rfl
  show gw_W X σ2 ((0 + 1) + 123) ((0 + 12) + 1140) 7 [(0, .ref b)] [.ref n]
  refine gw_astore_n hX nd_La_law_7 rfl (by decide) (L' := [(1, .ref n), (0, .ref b)]) rfl ?_
  refine gw_new hX kc_Mo kn_La_52 km_Mo kb_Mo nd_La_law_8 (fs := [.int (nI 0), .int (nI 0), .null, .int (nI 0), .null, .null, .null, .int (nI 0), .null, .null, .null, .null, .null, .int (nI 0), .int (nI 0), .null, .null, .null, .long 0, .long 0, .int (nI 0), .int (nI 0), .int (nI 0), .int (nI 0)]) (by decide) (by show ((0 + 1) + 123) + 1 ≤ 601024; omega) (by show ((0 + 12) + 1140) + 24 ≤ 7293033; omega) ?_
  obtain ⟨σ3, eσ3⟩ : ∃ hp_, hp_ = gw_nw σ2 (.inr (1, [.int (nI 0), .int (nI 0), .null, .int (nI 0), .null, .null, .null, .int (nI 0), .null, .null, .null, .null, .null, .int (nI 0), .int (nI 0), .null, .null, .null, .long 0, .long 0, .int (nI 0), .int (nI 0), .int (nI 0), .int (nI 0)])) := ⟨_, rfl⟩
  refine gw_heap eσ3.symm ?_
  rw [hsz]
  replace g0 : σ3.2 (n + 124) = some (.inr (1, [.int (nI 0), .int (nI 0), .null, .int (nI 0), .null, .null, .null, .int (nI 0), .null, .null, .null, .null, .null, .int (nI 0), .int (nI 0), .null, .null, .null, .long 0, .long 0, .int (nI 0), .int (nI 0), .int (nI 0), .int (nI 0)])) := by rw [eσ3, ← hsz]; exact gw_nw_eq _ _
  replace fr : ∀ b, b < (n + 124) → σ3.2 b = σ2.2 b := fun b hb9 => (show σ3.2 b = σ2.2 b by rw [eσ3, gw_nw_ne (by omega)]).trans (fr b hb9)
  replace hsz : σ3.1 = n + 125 := by rw [eσ3]; show σ2.1 + 1 = _; omega
  refine gw_dup hX nd_La_law_11 rfl ?_
  refine gw_callI (rest := [.ref (n + 124)]) hX ks_La_54 (ct_Mo_init _ _ _ _ (n + 124) hsz g0) rfl rfl (Nat.le_of_ble_eq_true rfl) nd_La_law_12 (by refine ⟨⟨by decide, by decide⟩, ?_, ?_⟩; (show (((0 + 1) + 123) + 1) + 12 ≤ 601024; omega); (show (((0 + 12) + 1140) + 24) + 1023 ≤ 7293033; omega)) ?_
  rintro _ σ4 ⟨rfl, hsz, m0, m1, m2, m3, m4, m5, m6, m7, m8, m9, m10, m11, m12, hlow⟩
  replace fr : ∀ b, b < n + 124 → σ4.2 b = σ2.2 b := fun b hb9 => (hlow b hb9).trans (fr b hb9)
  replace hsz : σ4.1 = n + 137 := by omega
  show gw_W X σ4 ((((0 + 1) + 123) + 1) + 12) ((((0 + 12) + 1140) + 24) + 1023) 15 [(1, .ref n), (0, .ref b)] [.ref (n + 124)]
  refine gw_astore_n hX nd_La_law_15 rfl (by decide) (L' := [(2, .ref (n + 124)), (1, .ref n), (0, .ref b)]) rfl ?_
  refine gw_iconst (v := nI 1) hX nd_La_law_16 rfl ?_
  refine gw_newJ hX ka_long nd_La_law_17 1 rfl (by decide) (by show ((((0 + 1) + 123) + 1) + 12) + 1 ≤ 601024; omega) (by show ((((0 + 12) + 1140) + 24) + 1023) + 1 ≤ 7293033; omega) ?_
  obtain ⟨σ5, eσ5⟩ : ∃ hp_, hp_ = gw_nw σ4 ((gw_J (gw_z X) 1 (fun _ => 0))) := ⟨_, rfl⟩
  refine gw_heap eσ5.symm ?_
  rw [hsz]
  replace m0 : σ5.2 (n + 124) = some (.inr (1, [.int (nI 0), .int (nI 0), .ref (n + 124 + 1), .int (nI 0), .ref (n + 124 + 2), .ref (n + 124 + 3), .ref (n + 124 + 4), .int (nI 0), .ref (n + 124 + 5), .ref (n + 124 + 6), .ref (n + 124 + 7), .ref (n + 124 + 8), .ref (n + 124 + 9), .int (nI 0), .int (nI 0), .ref (n + 124 + 10), .ref (n + 124 + 11), .ref (n + 124 + 12), .long 0, .long 0, .int (nI 0), .int (nI 0), .int ((-1)), .int (nI 0)])) := by rw [eσ5, gw_nw_ne (by omega)]; exact m0
  replace m1 : σ5.2 (n + 124 + 1) = some ((gw_I (gw_z X) 240 (fun _ => 0))) := by rw [eσ5, gw_nw_ne (by omega)]; exact m1
  replace m2 : σ5.2 (n + 124 + 2) = some ((gw_I (gw_z X) 9 (fun _ => 0))) := by rw [eσ5, gw_nw_ne (by omega)]; exact m2
  replace m3 : σ5.2 (n + 124 + 3) = some ((gw_I (gw_z X) 162 (fun _ => 0))) := by rw [eσ5, gw_nw_ne (by omega)]; exact m3
  replace m4 : σ5.2 (n + 124 + 4) = some ((gw_I (gw_z X) 54 (fun _ => 0))) := by rw [eσ5, gw_nw_ne (by omega)]; exact m4
  replace m5 : σ5.2 (n + 124 + 5) = some ((gw_I (gw_z X) 9 (fun _ => 0))) := by rw [eσ5, gw_nw_ne (by omega)]; exact m5
  replace m6 : σ5.2 (n + 124 + 6) = some ((gw_I (gw_z X) 162 (fun _ => 0))) := by rw [eσ5, gw_nw_ne (by omega)]; exact m6
  replace m7 : σ5.2 (n + 124 + 7) = some ((gw_I (gw_z X) 54 (fun _ => 0))) := by rw [eσ5, gw_nw_ne (by omega)]; exact m7
  replace m8 : σ5.2 (n + 124 + 8) = some ((gw_J (gw_z X) 148 (fun _ => 0))) := by rw [eσ5, gw_nw_ne (by omega)]; exact m8
  replace m9 : σ5.2 (n + 124 + 9) = some ((gw_J (gw_z X) 148 (fun _ => 0))) := by rw [eσ5, gw_nw_ne (by omega)]; exact m9
  replace m10 : σ5.2 (n + 124 + 10) = some ((gw_J (gw_z X) 24 (fun _ => 0))) := by rw [eσ5, gw_nw_ne (by omega)]; exact m10
  replace m11 : σ5.2 (n + 124 + 11) = some ((gw_I (gw_z X) 6 (fun _ => 0))) := by rw [eσ5, gw_nw_ne (by omega)]; exact m11
  replace m12 : σ5.2 (n + 124 + 12) = some ((gw_J (gw_z X) 7 (fun _ => 0))) := by rw [eσ5, gw_nw_ne (by omega)]; exact m12
  replace ho : σ5.2 (n + 137) = some ((gw_J (gw_z X) 1 (fun _ => 0))) := by rw [eσ5, ← hsz]; exact gw_nw_eq _ _
  replace fr : ∀ b, b < (n + 124) → σ5.2 b = σ2.2 b := fun b hb9 => (show σ5.2 b = σ4.2 b by rw [eσ5, gw_nw_ne (by omega)]).trans (fr b hb9)
  replace hsz : σ5.1 = n + 138 := by rw [eσ5]; show σ4.1 + 1 = _; omega
  refine gw_astore_n hX nd_La_law_19 rfl (by decide) (L' := [(3, .ref (n + 137)), (2, .ref (n + 124)), (1, .ref n), (0, .ref b)]) rfl ?_
  refine gw_iconst (v := nI 0) hX nd_La_law_20 rfl ?_
  refine gw_istore hX nd_La_law_21 (by decide) (L' := [(4, .int (nI 0)), (3, .ref (n + 137)), (2, .ref (n + 124)), (1, .ref n), (0, .ref b)]) rfl ?_
  refine gw_cut (ks := [4, 3, 2, 1, 0]) (L' := [(0, .ref b), (1, .ref n), (2, .ref (n + 124)), (3, .ref (n + 137)), (4, .int (nI 0))]) rfl ?_
  replace hcw2 : cw σ5 (gw_z X) n ab_0 := cw_mv ⟨_, _, _, _, hcw⟩ (fun b h1 h2 => fr b h2) ab_ok_0
  replace hmw2 : mw σ5 (gw_z X) (n + 124) ab_0 0 := ⟨_, _, _, _, _, _, _, fun _ => 0, fun _ => 0, fun _ => 0, ⟨m0, m1.trans (by rw [zz_Im]; rfl), m2, m3, m4, ⟨_, m5⟩, ⟨_, m6⟩, ⟨_, m7⟩, m8.trans (by rw [zz_J]; rfl), m9.trans (by rw [zz_J]; rfl), ⟨_, m10⟩, ⟨_, m11⟩, ⟨_, m12, zz_L⟩⟩, mw_ok_0 _⟩
  refine gw_wide (ce' := 138 + 3 * 0) (sl' := 2200 + 18 * 0) (by omega) (by omega) ?_
  exact K σ5 ⟨ab_0, ab_ok_0, ab_bd_z _ (fun _ => rfl) (fun _ => rfl), hcw2, ⟨_, hmw2⟩, ⟨_, ho⟩⟩
