/-! the law: what carries its loop -/
theorem mw_mv {σ σ' : gw_S} {Z : gw_Z} {m : Nat} {A : ab_A} {th : Nat} (h : mw σ Z m A th) (f : ∀ b, m ≤ b → b < m + 13 → σ'.2 b = σ.2 b) : mw σ' Z m A th := by
  obtain ⟨rs, be, se, kp, kw, bs, s2, fm, fb, fl, ⟨h0, h1, h2, h3, h4, ⟨f5, h5⟩, ⟨f6, h6⟩, ⟨f7, h7⟩, h8, h9, ⟨f10, h10⟩, ⟨f11, h11⟩, ⟨f12, h12, hz12⟩⟩, hO⟩ := h
  exact ⟨rs, be, se, kp, kw, bs, s2, fm, fb, fl, ⟨(f _ (by omega) (by omega)).trans h0, (f _ (by omega) (by omega)).trans h1, (f _ (by omega) (by omega)).trans h2, (f _ (by omega) (by omega)).trans h3, (f _ (by omega) (by omega)).trans h4, ⟨f5, (f _ (by omega) (by omega)).trans h5⟩, ⟨f6, (f _ (by omega) (by omega)).trans h6⟩, ⟨f7, (f _ (by omega) (by omega)).trans h7⟩, (f _ (by omega) (by omega)).trans h8, (f _ (by omega) (by omega)).trans h9, ⟨f10, (f _ (by omega) (by omega)).trans h10⟩, ⟨f11, (f _ (by omega) (by omega)).trans h11⟩, ⟨f12, (f _ (by omega) (by omega)).trans h12, hz12⟩⟩, hO⟩
theorem ab_dec_ok {A B : ab_A} {x : Int32} {q b : Nat} {z : Int} (hA : ab_ok A) (hb2 : b < 2) (h : ab_dec A x q b = some (z, B)) : ab_ok B := by
  unfold ab_dec at h
  obtain ⟨ws, hws, he⟩ := Option.map_eq_some_iff.mp h
  cases he
  have hg := ab_sent_ok hA hws
  exact ⟨hA.1, hA.2.1, hA.2.2.1, hA.2.2.2.1, hA.2.2.2.2.1, hg.1.2, ab_best_lt hg.2 hb2⟩
theorem ab_dec_bd {A B : ab_A} {x : Int32} {q b N : Nat} {z : Int} (hbd : ab_bd A N) (h : ab_dec A x q b = some (z, B)) : ab_bd B N := by
  unfold ab_dec at h
  obtain ⟨ws, hws, he⟩ := Option.map_eq_some_iff.mp h
  cases he
  exact fun j => hbd j
theorem ab_learn_ok {A : ab_A} {x : Int32} (hA : ab_ok A) : ab_ok (ab_learn A x).2 := ab_eq_ok (ab_eq_tr (ab_eq_pass A) (ab_eq_loop _ _)) hA
theorem ab_lk_le (A : ab_A) (x : Int32) : ab_lk A x ≤ 2 := by
  unfold ab_lk
  split
  · omega
  · split <;> omega
theorem ab_learn_bd {A : ab_A} {x : Int32} {N : Nat} (hA : ab_ok A) (hbd : ab_bd A N) (h : ab_lk A x = 0) : ab_bd (ab_learn A x).2 (N + 48) := by
  have h1 : ¬ (x < nI 1 ∨ nI 6 < x) := fun h2 => by
    rw [ab_lk_1 h2] at h
    cases h
  obtain ⟨k, ⟨hk1, hk6⟩, rfl⟩ := lk_of (fun q => h1 (Or.inl q)) (fun q => h1 (Or.inr q))
  unfold ab_learn
  rw [nI_clamp (by omega)]
  exact ab_bd_mono (ab_bd_loop (k - 1) (ab_bd_pass hbd hA) (ab_eq_ok (ab_eq_pass A) hA)) (by omega)
theorem ab_bd_z {A : ab_A} (N : Nat) (h1 : ∀ j, A.wt j = 0) (h2 : ∀ j, A.tt j = 0) : ab_bd A N := by
  intro j
  rw [h1, h2]
  exact ⟨⟨Int.neg_nonpos_of_nonneg (Int.mul_nonneg (by decide) (Int.natCast_nonneg _)), Int.mul_nonneg (by decide) (Int.natCast_nonneg _)⟩, Int.neg_nonpos_of_nonneg (Int.mul_nonneg (by decide) (Int.natCast_nonneg _)), Int.mul_nonneg (by decide) (Int.natCast_nonneg _)⟩
theorem ab_t_un {A B C : ab_A} {w : Int64} {x : Int32} {u v : Nat} (h : ab_t A w x u B) (k : ab_t A w x v C) : u = v ∧ B = C := by
  rcases h with ⟨h1, rfl, rfl⟩ | ⟨h1, rfl, rfl⟩
  · rcases k with ⟨k1, rfl, rfl⟩ | ⟨k1, rfl, rfl⟩
    · exact ⟨rfl, rfl⟩
    · exact absurd h1 k1
  · rcases k with ⟨k1, rfl, rfl⟩ | ⟨k1, rfl, rfl⟩
    · exact absurd k1 h1
    · exact ⟨rfl, rfl⟩
theorem ab_t_ok {A B : ab_A} {w : Int64} {x : Int32} {u : Nat} (hA : ab_ok A) (h : ab_t A w x u B) : ab_ok B := by
  rcases h with ⟨⟨h1, h2, h3, h4⟩, rfl, rfl⟩ | ⟨h1, rfl, rfl⟩
  · have e : x.toNatClampNeg = x.toInt.toNat := rfl
    refine ⟨?_, fun j => ?_, hA.2.2⟩
    · show A.len + x.toNatClampNeg ≤ 240
      omega
    · show ap_ch A.len w x.toNatClampNeg A.ch j < 127
      unfold ap_ch
      split
      · have := h4 (j - A.len) (by omega)
        omega
      · exact hA.2.1 j
  · exact hA
theorem ab_t_bd {A B : ab_A} {w : Int64} {x : Int32} {u N : Nat} (hbd : ab_bd A N) (h : ab_t A w x u B) : ab_bd B N := by
  rcases h with ⟨h1, rfl, rfl⟩ | ⟨h1, rfl, rfl⟩
  · exact fun j => hbd j
  · exact hbd
theorem ab_c_un {A B C : ab_A} {x : Int32} {u v : Nat} (hA : ab_ok A) (h : ab_c A x u B) (k : ab_c A x v C) : u = v ∧ B = C := by
  have hl := hA.1
  rcases h with ⟨c, rfl, h1, rfl, rfl⟩ | ⟨h1, rfl, rfl⟩
  · rcases k with ⟨c2, he, k1, rfl, rfl⟩ | ⟨k1, rfl, rfl⟩
    · have h2 : c = c2 := (nI_eq (by omega) (by omega)).mp he
      subst h2
      exact ⟨rfl, rfl⟩
    · exact absurd rfl (k1 c h1)
  · rcases k with ⟨c2, he, k1, rfl, rfl⟩ | ⟨k1, rfl, rfl⟩
    · exact absurd he (h1 c2 k1)
    · exact ⟨rfl, rfl⟩
theorem ab_c_ok {A B : ab_A} {x : Int32} {u : Nat} (hA : ab_ok A) (h : ab_c A x u B) : ab_ok B := by
  rcases h with ⟨c, rfl, h1, rfl, rfl⟩ | ⟨h1, rfl, rfl⟩
  · exact ⟨Nat.le_trans h1 hA.1, hA.2⟩
  · exact hA
theorem ab_c_bd {A B : ab_A} {x : Int32} {u N : Nat} (hbd : ab_bd A N) (h : ab_c A x u B) : ab_bd B N := by
  rcases h with ⟨c, rfl, h1, rfl, rfl⟩ | ⟨h1, rfl, rfl⟩
  · exact fun j => hbd j
  · exact hbd
set_option maxRecDepth 100000 in
set_option maxHeartbeats 4000000 in
theorem ct_La_load (l : Launch) (hl0 : l.stackTraces = false) (Z : gw_Z) (b0 : Nat) (σ : gw_S) (n c cd s sd : Nat) (A : ab_A) (hA : ab_ok A) (hC : cw_at σ Z n A c cd s sd) (o : Nat) (f : Nat → Int64) (ho : σ.2 o = some (gw_J Z 1 f)) (hno : n + 124 ≤ o) : gy_M l ny_La_load nc_La_load (3, 7, 141, 1, 6) (some .int) [(0, 8, 11, 13)] Z b0 σ [.ref n, .ref o] (fun v σ' => ((∃ ss : List (List px_W), px_C A.len A.ch 8 0 [] = some ss ∧ v = some (.int (nI 0)) ∧ ab_ok (ab_ld A ss) ∧ cw σ' Z n (ab_ld A ss) ∧ σ'.2 o = some (gw_J Z 1 (vp_updL f 0 ((nI ss.length).toInt64)))) ∨ ((px_C A.len A.ch 8 0 [] = none) ∧ v = some (.int (nI 1)) ∧ cw σ' Z n A ∧ σ'.2 o = some (gw_J Z 1 f))) ∧ (∀ b, n + 124 ≤ b → b ≠ o → σ'.2 b = σ.2 b)) (fun _ _ => False) := by
  refine gy_M_of rfl (Nat.le_of_ble_eq_true rfl) hl0 ?_
  intro X hX hl hz hb0 hr hnm hQ hE
  subst hz hb0 hl
  have hX : gw_ok X nc_La_load "LabelLearnerLaw" (3, 7, 141, 1, 6) := hX
  show gw_W X σ 0 0 0 [(0, .ref n), (1, .ref o)] []
  refine gw_aload_n hX nd_La_load_0 rfl 1 rfl ?_
  refine gw_iconst (v := nI 0) hX nd_La_load_1 rfl ?_
  refine gw_aload_n hX nd_La_load_2 rfl 0 rfl ?_
  refine gx_callV (rest := [.int (nI 0), .ref o]) hX hE.1 hE.2.2.2 ks_La_7 (gw_in_t 250 (by decide +kernel) rfl) (ct_LL_load _ hE.2.1 _ _ σ n c cd s sd A hA hC) hC.2.1 rfl rfl (Nat.le_of_ble_eq_true rfl) nd_La_load_3 (by decide) (fun E_ s_ hx_ => ?_) ?_
  · obtain ⟨rfl, hnone, hC3, hfo9⟩ := hx_
    refine gy_catch1 hX hE (show Cond.classLink "LabelLearnerLaw" 13 gx_IA ∈ gw_ws from gw_in_t 249 (by decide +kernel) rfl) (by decide) (by decide) (by decide) (fun x_ => ?_)
    show gw_W X s_ 1 6 11 [(0, .ref n), (1, .ref o)] [.ref x_]
    refine gw_astore_n hX nd_La_load_11 rfl (by decide) (L' := [(2, .ref x_), (0, .ref n), (1, .ref o)]) rfl ?_
    refine gw_iconst (v := nI 1) hX nd_La_load_12 rfl ?_
    exact gx_iret hX hQ hr nd_La_load_13 (by decide) (by decide) ⟨Or.inr ⟨hnone, rfl, ⟨_, _, _, _, hC3⟩, (hfo9 o (Or.inr hno)).trans ho⟩, fun b h1 h2 => hfo9 b (Or.inr h1)⟩
  · skip
    rintro _ σ1 ⟨⟨ss, heq, rfl, hA2, hC2⟩, hfo9⟩
    have hfo : ∀ b, n + 124 ≤ b → σ1.2 b = σ.2 b := fun b h1 => hfo9 b (Or.inr h1)
    have hcw : cw σ1 (gw_z X) n (ab_ld A ss) := ⟨_, _, _, _, hC2⟩
    have ho : σ1.2 o = some (gw_J (gw_z X) 1 f) := (hfo o hno).trans ho
    show gw_W X σ1 1 6 6 [(0, .ref n), (1, .ref o)] [.int (nI ss.length), .int (nI 0), .ref o]
    refine gw_i2l hX nd_La_load_6 ?_
    refine gw_topl (y := (nI ss.length).toInt64) rfl ?_
    refine gw_last hX nd_La_load_7 ho 0 rfl (by omega) (by decide) ?_
    obtain ⟨σ2, eσ2⟩ : ∃ hp_, hp_ = gw_up σ1 o ((gw_J (gw_z X) 1 (vp_updL f 0 ((nI ss.length).toInt64)))) := ⟨_, rfl⟩
    refine gw_heap eσ2.symm ?_
    have ho : σ2.2 o = some ((gw_J (gw_z X) 1 (vp_updL f 0 ((nI ss.length).toInt64)))) := by rw [eσ2]; exact gw_up_eq _ _ _
    have hcw2 : cw σ2 (gw_z X) n (ab_ld A ss) := cw_mv hcw (fun b h1 h2 => by rw [eσ2, gw_up_ne (by omega)]) hA2
    have hfr2 : ∀ b, n + 124 ≤ b → b ≠ o → σ2.2 b = σ.2 b := fun b h1 h2 => (show σ2.2 b = σ1.2 b by rw [eσ2, gw_up_ne h2]).trans (hfo b h1)
    refine gw_goto (tgt := 14) hX nd_La_load_8 rfl ?_
    refine gw_iconst (v := nI 0) hX nd_La_load_14 rfl ?_
    exact gx_iret hX hQ hr nd_La_load_15 (by decide) (by decide) ⟨Or.inl ⟨ss, heq, rfl, hA2, hcw2, ho⟩, hfr2⟩
set_option maxRecDepth 100000 in
set_option maxHeartbeats 4000000 in
theorem ct_La_speak (l : Launch) (hl0 : l.stackTraces = false) (Z : gw_Z) (b0 : Nat) (σ : gw_S) (n c cd s sd : Nat) (A : ab_A) (hA : ab_ok A) (hC : cw_at σ Z n A c cd s sd) (o : Nat) (f : Nat → Int64) (ho : σ.2 o = some (gw_J Z 1 f)) (hno : n + 124 ≤ o) : gy_M l ny_La_speak nc_La_speak (3, 7, 140, 1, 6) (some .int) [(0, 8, 11, 13)] Z b0 σ [.ref n, .ref o] (fun v σ' => ((∃ ws : List px_W, px_S A.len A.ch false 0 = some (A.len, ws) ∧ v = some (.int (nI 0)) ∧ ab_ok (ab_sk A ws) ∧ cw σ' Z n (ab_sk A ws) ∧ σ'.2 o = some (gw_J Z 1 (vp_updL f 0 ((nI ws.length).toInt64)))) ∨ ((∀ ws : List px_W, px_S A.len A.ch false 0 ≠ some (A.len, ws)) ∧ v = some (.int (nI 1)) ∧ cw σ' Z n A ∧ σ'.2 o = some (gw_J Z 1 f))) ∧ (∀ b, n + 124 ≤ b → b ≠ o → σ'.2 b = σ.2 b)) (fun _ _ => False) := by
  refine gy_M_of rfl (Nat.le_of_ble_eq_true rfl) hl0 ?_
  intro X hX hl hz hb0 hr hnm hQ hE
  subst hz hb0 hl
  have hX : gw_ok X nc_La_speak "LabelLearnerLaw" (3, 7, 140, 1, 6) := hX
  show gw_W X σ 0 0 0 [(0, .ref n), (1, .ref o)] []
  refine gw_aload_n hX nd_La_speak_0 rfl 1 rfl ?_
  refine gw_iconst (v := nI 0) hX nd_La_speak_1 rfl ?_
  refine gw_aload_n hX nd_La_speak_2 rfl 0 rfl ?_
  refine gx_callV (rest := [.int (nI 0), .ref o]) hX hE.1 hE.2.2.2 ks_La_15 (gw_in_t 389 (by decide +kernel) rfl) (ct_LL_speak _ hE.2.1 _ _ σ n c cd s sd A hA hC) hC.2.1 rfl rfl (Nat.le_of_ble_eq_true rfl) nd_La_speak_3 (by decide) (fun E_ s_ hx_ => ?_) ?_
  · obtain ⟨rfl, hnone, hC3, hfo9⟩ := hx_
    refine gy_catch1 hX hE (show Cond.classLink "LabelLearnerLaw" 13 gx_IA ∈ gw_ws from gw_in_t 249 (by decide +kernel) rfl) (by decide) (by decide) (by decide) (fun x_ => ?_)
    show gw_W X s_ 1 6 11 [(0, .ref n), (1, .ref o)] [.ref x_]
    refine gw_astore_n hX nd_La_speak_11 rfl (by decide) (L' := [(2, .ref x_), (0, .ref n), (1, .ref o)]) rfl ?_
    refine gw_iconst (v := nI 1) hX nd_La_speak_12 rfl ?_
    exact gx_iret hX hQ hr nd_La_speak_13 (by decide) (by decide) ⟨Or.inr ⟨hnone, rfl, ⟨_, _, _, _, hC3⟩, (hfo9 o (Or.inr hno)).trans ho⟩, fun b h1 h2 => hfo9 b (Or.inr h1)⟩
  · skip
    rintro _ σ1 ⟨⟨ws, heq, rfl, hA2, hne9, hC2⟩, hfo9⟩
    have hfo : ∀ b, n + 124 ≤ b → σ1.2 b = σ.2 b := fun b h1 => hfo9 b (Or.inr h1)
    have hcw : cw σ1 (gw_z X) n (ab_sk A ws) := ⟨_, _, _, _, hC2⟩
    have ho : σ1.2 o = some (gw_J (gw_z X) 1 f) := (hfo o hno).trans ho
    show gw_W X σ1 1 6 6 [(0, .ref n), (1, .ref o)] [.int (nI ws.length), .int (nI 0), .ref o]
    refine gw_i2l hX nd_La_speak_6 ?_
    refine gw_topl (y := (nI ws.length).toInt64) rfl ?_
    refine gw_last hX nd_La_speak_7 ho 0 rfl (by omega) (by decide) ?_
    obtain ⟨σ2, eσ2⟩ : ∃ hp_, hp_ = gw_up σ1 o ((gw_J (gw_z X) 1 (vp_updL f 0 ((nI ws.length).toInt64)))) := ⟨_, rfl⟩
    refine gw_heap eσ2.symm ?_
    have ho : σ2.2 o = some ((gw_J (gw_z X) 1 (vp_updL f 0 ((nI ws.length).toInt64)))) := by rw [eσ2]; exact gw_up_eq _ _ _
    have hcw2 : cw σ2 (gw_z X) n (ab_sk A ws) := cw_mv hcw (fun b h1 h2 => by rw [eσ2, gw_up_ne (by omega)]) hA2
    have hfr2 : ∀ b, n + 124 ≤ b → b ≠ o → σ2.2 b = σ.2 b := fun b h1 h2 => (show σ2.2 b = σ1.2 b by rw [eσ2, gw_up_ne h2]).trans (hfo b h1)
    refine gw_goto (tgt := 14) hX nd_La_speak_8 rfl ?_
    refine gw_iconst (v := nI 0) hX nd_La_speak_14 rfl ?_
    exact gx_iret hX hQ hr nd_La_speak_15 (by decide) (by decide) ⟨Or.inl ⟨ws, heq, rfl, hA2, hcw2, ho⟩, hfr2⟩
set_option maxRecDepth 100000 in
set_option maxHeartbeats 4000000 in
theorem ct_La_words (l : Launch) (hl0 : l.stackTraces = false) (Z : gw_Z) (b0 : Nat) (σ : gw_S) (n c cd s sd : Nat) (A : ab_A) (hA : ab_ok A) (hC : cw_at σ Z n A c cd s sd) (o : Nat) (f : Nat → Int64) (ho : σ.2 o = some (gw_J Z 1 f)) (hno : n + 124 ≤ o) (x : Int32) : gy_M l ny_La_words nc_La_words (4, 8, 142, 1, 6) (some .int) [(0, 9, 12, 22)] Z b0 σ [.ref n, .int x, .ref o] (fun v σ' => ((∃ ws : List px_W, ab_sent A x = some ws ∧ v = some (.int (nI 0)) ∧ ab_ok A ∧ cw σ' Z n A ∧ σ'.2 o = some (gw_J Z 1 (vp_updL f 0 ((nI ws.length).toInt64)))) ∨ ((ab_sent A x = none) ∧ v = some (.int (nI 1)) ∧ cw σ' Z n A ∧ σ'.2 o = some (gw_J Z 1 f))) ∧ (∀ b, n + 124 ≤ b → b ≠ o → σ'.2 b = σ.2 b)) (fun _ _ => False) := by
  refine gy_M_of rfl (Nat.le_of_ble_eq_true rfl) hl0 ?_
  intro X hX hl hz hb0 hr hnm hQ hE
  subst hz hb0 hl
  have hX : gw_ok X nc_La_words "LabelLearnerLaw" (4, 8, 142, 1, 6) := hX
  show gw_W X σ 0 0 0 [(0, .ref n), (1, .int x), (2, .ref o)] []
  refine gw_aload_n hX nd_La_words_0 rfl 2 rfl ?_
  refine gw_iconst (v := nI 0) hX nd_La_words_1 rfl ?_
  refine gw_aload_n hX nd_La_words_2 rfl 0 rfl ?_
  refine gw_iload_n hX nd_La_words_3 rfl 1 rfl ?_
  refine gx_callV (rest := [.int (nI 0), .ref o]) hX hE.1 hE.2.2.2 ks_La_18 (gw_in_t 402 (by decide +kernel) rfl) (ct_LL_words _ hE.2.1 _ _ σ n c cd s sd A hA hC x) hC.2.1 rfl rfl (Nat.le_of_ble_eq_true rfl) nd_La_words_4 (by decide) (fun E_ s_ hx_ => ?_) ?_
  · obtain ⟨rfl, hnone, rfl⟩ := hx_
    refine gy_catch1 hX hE (show Cond.classLink "LabelLearnerLaw" 22 gx_IO ∈ gw_ws from gw_in_t 401 (by decide +kernel) rfl) (by decide) (by decide) (by decide) (fun x_ => ?_)
    show gw_W X ((σ.1 + 1, σ.2)) 1 6 12 [(0, .ref n), (1, .int x), (2, .ref o)] [.ref x_]
    refine gw_astore_n hX nd_La_words_12 rfl (by decide) (L' := [(3, .ref x_), (0, .ref n), (1, .int x), (2, .ref o)]) rfl ?_
    refine gw_iconst (v := nI 1) hX nd_La_words_13 rfl ?_
    exact gx_iret hX hQ hr nd_La_words_14 (by decide) (by decide) ⟨Or.inr ⟨hnone, rfl, cw_mv (σ' := (σ.1 + 1, σ.2)) ⟨c, cd, s, sd, hC⟩ (fun _ _ _ => rfl) hA, ho⟩, fun _ _ _ => rfl⟩
  · skip
    rintro v_ s_ ⟨⟨ws, heq, rfl⟩,hs_⟩
    have hs_ := hs_.symm
    subst hs_
    have hfo : ∀ b, n + 124 ≤ b → σ.2 b = σ.2 b := fun _ _ => rfl
    have hcw : cw σ (gw_z X) n A := ⟨c, cd, s, sd, hC⟩
    have hA2 := hA
    show gw_W X σ 1 6 7 [(0, .ref n), (1, .int x), (2, .ref o)] [.int (nI ws.length), .int (nI 0), .ref o]
    refine gw_i2l hX nd_La_words_7 ?_
    refine gw_topl (y := (nI ws.length).toInt64) rfl ?_
    refine gw_last hX nd_La_words_8 ho 0 rfl (by omega) (by decide) ?_
    obtain ⟨σ1, eσ1⟩ : ∃ hp_, hp_ = gw_up σ o ((gw_J (gw_z X) 1 (vp_updL f 0 ((nI ws.length).toInt64)))) := ⟨_, rfl⟩
    refine gw_heap eσ1.symm ?_
    have ho : σ1.2 o = some ((gw_J (gw_z X) 1 (vp_updL f 0 ((nI ws.length).toInt64)))) := by rw [eσ1]; exact gw_up_eq _ _ _
    have hcw2 : cw σ1 (gw_z X) n A := cw_mv hcw (fun b h1 h2 => by rw [eσ1, gw_up_ne (by omega)]) hA2
    have hfr2 : ∀ b, n + 124 ≤ b → b ≠ o → σ1.2 b = σ.2 b := fun b h1 h2 => (show σ1.2 b = σ.2 b by rw [eσ1, gw_up_ne h2]).trans (hfo b h1)
    refine gw_goto (tgt := 15) hX nd_La_words_9 rfl ?_
    refine gw_iconst (v := nI 0) hX nd_La_words_15 rfl ?_
    exact gx_iret hX hQ hr nd_La_words_16 (by decide) (by decide) ⟨Or.inl ⟨ws, heq, rfl, hA2, hcw2, ho⟩, hfr2⟩
set_option maxRecDepth 100000 in
set_option maxHeartbeats 4000000 in
theorem ct_La_given (l : Launch) (hl0 : l.stackTraces = false) (Z : gw_Z) (b0 : Nat) (σ : gw_S) (n c cd s sd : Nat) (A : ab_A) (hA : ab_ok A) (hC : cw_at σ Z n A c cd s sd) (o : Nat) (f : Nat → Int64) (ho : σ.2 o = some (gw_J Z 1 f)) (hno : n + 124 ≤ o) (x y : Int32) : gy_M l ny_La_given nc_La_given (5, 8, 144, 2, 12) (some .int) [(0, 10, 13, 22)] Z b0 σ [.ref n, .int x, .int y, .ref o] (fun v σ' => ((∃ q : Nat, ab_given A x y = some q ∧ v = some (.int (nI 0)) ∧ ab_ok A ∧ cw σ' Z n A ∧ σ'.2 o = some (gw_J Z 1 (vp_updL f 0 ((nI q).toInt64)))) ∨ ((ab_given A x y = none) ∧ v = some (.int (nI 1)) ∧ cw σ' Z n A ∧ σ'.2 o = some (gw_J Z 1 f))) ∧ (∀ b, n + 124 ≤ b → b ≠ o → σ'.2 b = σ.2 b)) (fun _ _ => False) := by
  refine gy_M_of rfl (Nat.le_of_ble_eq_true rfl) hl0 ?_
  intro X hX hl hz hb0 hr hnm hQ hE
  subst hz hb0 hl
  have hX : gw_ok X nc_La_given "LabelLearnerLaw" (5, 8, 144, 2, 12) := hX
  show gw_W X σ 0 0 0 [(0, .ref n), (1, .int x), (2, .int y), (3, .ref o)] []
  refine gw_aload_n hX nd_La_given_0 rfl 3 rfl ?_
  refine gw_iconst (v := nI 0) hX nd_La_given_1 rfl ?_
  refine gw_aload_n hX nd_La_given_2 rfl 0 rfl ?_
  refine gw_iload_n hX nd_La_given_3 rfl 1 rfl ?_
  refine gw_iload_n hX nd_La_given_4 rfl 2 rfl ?_
  refine gx_callV (rest := [.int (nI 0), .ref o]) hX hE.1 hE.2.2.2 ks_La_24 (gw_in_t 429 (by decide +kernel) rfl) (ct_LL_given _ hE.2.1 _ _ σ n c cd s sd A hA hC x y) hC.2.1 rfl rfl (Nat.le_of_ble_eq_true rfl) nd_La_given_5 (by decide) (fun E_ s_ hx_ => ?_) ?_
  · obtain ⟨rfl, hnone, rfl⟩ := hx_
    refine gy_catch1 hX hE (show Cond.classLink "LabelLearnerLaw" 22 gx_IO ∈ gw_ws from gw_in_t 401 (by decide +kernel) rfl) (by decide) (by decide) (by decide) (fun x_ => ?_)
    show gw_W X ((σ.1 + 1, σ.2)) 2 12 13 [(0, .ref n), (1, .int x), (2, .int y), (3, .ref o)] [.ref x_]
    refine gw_astore hX nd_La_given_13 (by decide) (L' := [(4, .ref x_), (0, .ref n), (1, .int x), (2, .int y), (3, .ref o)]) rfl ?_
    refine gw_iconst (v := nI 1) hX nd_La_given_15 rfl ?_
    exact gx_iret hX hQ hr nd_La_given_16 (by decide) (by decide) ⟨Or.inr ⟨hnone, rfl, cw_mv (σ' := (σ.1 + 1, σ.2)) ⟨c, cd, s, sd, hC⟩ (fun _ _ _ => rfl) hA, ho⟩, fun _ _ _ => rfl⟩
  · skip
    rintro v_ s_ ⟨⟨q, heq, -, rfl⟩,hs_⟩
    have hs_ := hs_.symm
    subst hs_
    have hfo : ∀ b, n + 124 ≤ b → σ.2 b = σ.2 b := fun _ _ => rfl
    have hcw : cw σ (gw_z X) n A := ⟨c, cd, s, sd, hC⟩
    have hA2 := hA
    show gw_W X σ 2 12 8 [(0, .ref n), (1, .int x), (2, .int y), (3, .ref o)] [.int (nI q), .int (nI 0), .ref o]
    refine gw_i2l hX nd_La_given_8 ?_
    refine gw_topl (y := (nI q).toInt64) rfl ?_
    refine gw_last hX nd_La_given_9 ho 0 rfl (by omega) (by decide) ?_
    obtain ⟨σ1, eσ1⟩ : ∃ hp_, hp_ = gw_up σ o ((gw_J (gw_z X) 1 (vp_updL f 0 ((nI q).toInt64)))) := ⟨_, rfl⟩
    refine gw_heap eσ1.symm ?_
    have ho : σ1.2 o = some ((gw_J (gw_z X) 1 (vp_updL f 0 ((nI q).toInt64)))) := by rw [eσ1]; exact gw_up_eq _ _ _
    have hcw2 : cw σ1 (gw_z X) n A := cw_mv hcw (fun b h1 h2 => by rw [eσ1, gw_up_ne (by omega)]) hA2
    have hfr2 : ∀ b, n + 124 ≤ b → b ≠ o → σ1.2 b = σ.2 b := fun b h1 h2 => (show σ1.2 b = σ.2 b by rw [eσ1, gw_up_ne h2]).trans (hfo b h1)
    refine gw_goto (tgt := 17) hX nd_La_given_10 rfl ?_
    refine gw_iconst (v := nI 0) hX nd_La_given_17 rfl ?_
    exact gx_iret hX hQ hr nd_La_given_18 (by decide) (by decide) ⟨Or.inl ⟨q, heq, rfl, hA2, hcw2, ho⟩, hfr2⟩
set_option maxRecDepth 100000 in
set_option maxHeartbeats 4000000 in
theorem ct_La_feature (l : Launch) (hl0 : l.stackTraces = false) (Z : gw_Z) (b0 : Nat) (σ : gw_S) (n c cd s sd : Nat) (A : ab_A) (hA : ab_ok A) (hC : cw_at σ Z n A c cd s sd) (o : Nat) (f : Nat → Int64) (ho : σ.2 o = some (gw_J Z 1 f)) (hno : n + 124 ≤ o) (x y z : Int32) : gy_M l ny_La_feature nc_La_feature (6, 8, 145, 3, 18) (some .int) [(0, 12, 15, 22)] Z b0 σ [.ref n, .int x, .int y, .int z, .ref o] (fun v σ' => ((∃ q : Nat, ab_feat A x y z = some q ∧ v = some (.int (nI 0)) ∧ ab_ok A ∧ cw σ' Z n A ∧ σ'.2 o = some (gw_J Z 1 (vp_updL f 0 ((nI q).toInt64)))) ∨ ((ab_feat A x y z = none) ∧ v = some (.int (nI 1)) ∧ cw σ' Z n A ∧ σ'.2 o = some (gw_J Z 1 f))) ∧ (∀ b, n + 124 ≤ b → b ≠ o → σ'.2 b = σ.2 b)) (fun _ _ => False) := by
  refine gy_M_of rfl (Nat.le_of_ble_eq_true rfl) hl0 ?_
  intro X hX hl hz hb0 hr hnm hQ hE
  subst hz hb0 hl
  have hX : gw_ok X nc_La_feature "LabelLearnerLaw" (6, 8, 145, 3, 18) := hX
  show gw_W X σ 0 0 0 [(0, .ref n), (1, .int x), (2, .int y), (3, .int z), (4, .ref o)] []
  refine gw_aload hX nd_La_feature_0 4 rfl ?_
  refine gw_iconst (v := nI 0) hX nd_La_feature_2 rfl ?_
  refine gw_aload_n hX nd_La_feature_3 rfl 0 rfl ?_
  refine gw_iload_n hX nd_La_feature_4 rfl 1 rfl ?_
  refine gw_iload_n hX nd_La_feature_5 rfl 2 rfl ?_
  refine gw_iload_n hX nd_La_feature_6 rfl 3 rfl ?_
  refine gx_callV (rest := [.int (nI 0), .ref o]) hX hE.1 hE.2.2.2 ks_La_28 (gw_in_t 441 (by decide +kernel) rfl) (ct_LL_feature _ hE.2.1 _ _ σ n c cd s sd A hA hC x y z) hC.2.1 rfl rfl (Nat.le_of_ble_eq_true rfl) nd_La_feature_7 (by decide) (fun E_ s_ hx_ => ?_) ?_
  · obtain ⟨rfl, hnone, rfl⟩ := hx_
    refine gy_catch1 hX hE (show Cond.classLink "LabelLearnerLaw" 22 gx_IO ∈ gw_ws from gw_in_t 401 (by decide +kernel) rfl) (by decide) (by decide) (by decide) (fun x_ => ?_)
    show gw_W X ((σ.1 + 1, σ.2)) 3 18 15 [(0, .ref n), (1, .int x), (2, .int y), (3, .int z), (4, .ref o)] [.ref x_]
    refine gw_astore hX nd_La_feature_15 (by decide) (L' := [(5, .ref x_), (0, .ref n), (1, .int x), (2, .int y), (3, .int z), (4, .ref o)]) rfl ?_
    refine gw_iconst (v := nI 1) hX nd_La_feature_17 rfl ?_
    exact gx_iret hX hQ hr nd_La_feature_18 (by decide) (by decide) ⟨Or.inr ⟨hnone, rfl, cw_mv (σ' := (σ.1 + 1, σ.2)) ⟨c, cd, s, sd, hC⟩ (fun _ _ _ => rfl) hA, ho⟩, fun _ _ _ => rfl⟩
  · skip
    rintro v_ s_ ⟨⟨q, heq, -, rfl⟩,hs_⟩
    have hs_ := hs_.symm
    subst hs_
    have hfo : ∀ b, n + 124 ≤ b → σ.2 b = σ.2 b := fun _ _ => rfl
    have hcw : cw σ (gw_z X) n A := ⟨c, cd, s, sd, hC⟩
    have hA2 := hA
    show gw_W X σ 3 18 10 [(0, .ref n), (1, .int x), (2, .int y), (3, .int z), (4, .ref o)] [.int (nI q), .int (nI 0), .ref o]
    refine gw_i2l hX nd_La_feature_10 ?_
    refine gw_topl (y := (nI q).toInt64) rfl ?_
    refine gw_last hX nd_La_feature_11 ho 0 rfl (by omega) (by decide) ?_
    obtain ⟨σ1, eσ1⟩ : ∃ hp_, hp_ = gw_up σ o ((gw_J (gw_z X) 1 (vp_updL f 0 ((nI q).toInt64)))) := ⟨_, rfl⟩
    refine gw_heap eσ1.symm ?_
    have ho : σ1.2 o = some ((gw_J (gw_z X) 1 (vp_updL f 0 ((nI q).toInt64)))) := by rw [eσ1]; exact gw_up_eq _ _ _
    have hcw2 : cw σ1 (gw_z X) n A := cw_mv hcw (fun b h1 h2 => by rw [eσ1, gw_up_ne (by omega)]) hA2
    have hfr2 : ∀ b, n + 124 ≤ b → b ≠ o → σ1.2 b = σ.2 b := fun b h1 h2 => (show σ1.2 b = σ.2 b by rw [eσ1, gw_up_ne h2]).trans (hfo b h1)
    refine gw_goto (tgt := 19) hX nd_La_feature_12 rfl ?_
    refine gw_iconst (v := nI 0) hX nd_La_feature_19 rfl ?_
    exact gx_iret hX hQ hr nd_La_feature_20 (by decide) (by decide) ⟨Or.inl ⟨q, heq, rfl, hA2, hcw2, ho⟩, hfr2⟩
set_option maxRecDepth 100000 in
set_option maxHeartbeats 4000000 in
theorem ct_La_label (l : Launch) (hl0 : l.stackTraces = false) (Z : gw_Z) (b0 : Nat) (σ : gw_S) (n c cd s sd : Nat) (A : ab_A) (hA : ab_ok A) (hC : cw_at σ Z n A c cd s sd) (o : Nat) (f : Nat → Int64) (ho : σ.2 o = some (gw_J Z 1 f)) (hno : n + 124 ≤ o) (x : Int32) : gy_M l ny_La_label nc_La_label (4, 8, 142, 1, 6) (some .int) [(0, 9, 12, 22)] Z b0 σ [.ref n, .int x, .ref o] (fun v σ' => ((∃ q : Nat, ab_label A x = some q ∧ v = some (.int (nI 0)) ∧ ab_ok A ∧ cw σ' Z n A ∧ σ'.2 o = some (gw_J Z 1 (vp_updL f 0 ((nI q).toInt64)))) ∨ ((ab_label A x = none) ∧ v = some (.int (nI 1)) ∧ cw σ' Z n A ∧ σ'.2 o = some (gw_J Z 1 f))) ∧ (∀ b, n + 124 ≤ b → b ≠ o → σ'.2 b = σ.2 b)) (fun _ _ => False) := by
  refine gy_M_of rfl (Nat.le_of_ble_eq_true rfl) hl0 ?_
  intro X hX hl hz hb0 hr hnm hQ hE
  subst hz hb0 hl
  have hX : gw_ok X nc_La_label "LabelLearnerLaw" (4, 8, 142, 1, 6) := hX
  show gw_W X σ 0 0 0 [(0, .ref n), (1, .int x), (2, .ref o)] []
  refine gw_aload_n hX nd_La_label_0 rfl 2 rfl ?_
  refine gw_iconst (v := nI 0) hX nd_La_label_1 rfl ?_
  refine gw_aload_n hX nd_La_label_2 rfl 0 rfl ?_
  refine gw_iload_n hX nd_La_label_3 rfl 1 rfl ?_
  refine gx_callV (rest := [.int (nI 0), .ref o]) hX hE.1 hE.2.2.2 ks_La_45 (gw_in_t 513 (by decide +kernel) rfl) (ct_LL_label _ hE.2.1 _ _ σ n c cd s sd A hA hC x) hC.2.1 rfl rfl (Nat.le_of_ble_eq_true rfl) nd_La_label_4 (by decide) (fun E_ s_ hx_ => ?_) ?_
  · obtain ⟨rfl, hnone, rfl⟩ := hx_
    refine gy_catch1 hX hE (show Cond.classLink "LabelLearnerLaw" 22 gx_IO ∈ gw_ws from gw_in_t 401 (by decide +kernel) rfl) (by decide) (by decide) (by decide) (fun x_ => ?_)
    show gw_W X ((σ.1 + 1, σ.2)) 1 6 12 [(0, .ref n), (1, .int x), (2, .ref o)] [.ref x_]
    refine gw_astore_n hX nd_La_label_12 rfl (by decide) (L' := [(3, .ref x_), (0, .ref n), (1, .int x), (2, .ref o)]) rfl ?_
    refine gw_iconst (v := nI 1) hX nd_La_label_13 rfl ?_
    exact gx_iret hX hQ hr nd_La_label_14 (by decide) (by decide) ⟨Or.inr ⟨hnone, rfl, cw_mv (σ' := (σ.1 + 1, σ.2)) ⟨c, cd, s, sd, hC⟩ (fun _ _ _ => rfl) hA, ho⟩, fun _ _ _ => rfl⟩
  · skip
    rintro v_ s_ ⟨⟨q, heq, -, rfl⟩,hs_⟩
    have hs_ := hs_.symm
    subst hs_
    have hfo : ∀ b, n + 124 ≤ b → σ.2 b = σ.2 b := fun _ _ => rfl
    have hcw : cw σ (gw_z X) n A := ⟨c, cd, s, sd, hC⟩
    have hA2 := hA
    show gw_W X σ 1 6 7 [(0, .ref n), (1, .int x), (2, .ref o)] [.int (nI q), .int (nI 0), .ref o]
    refine gw_i2l hX nd_La_label_7 ?_
    refine gw_topl (y := (nI q).toInt64) rfl ?_
    refine gw_last hX nd_La_label_8 ho 0 rfl (by omega) (by decide) ?_
    obtain ⟨σ1, eσ1⟩ : ∃ hp_, hp_ = gw_up σ o ((gw_J (gw_z X) 1 (vp_updL f 0 ((nI q).toInt64)))) := ⟨_, rfl⟩
    refine gw_heap eσ1.symm ?_
    have ho : σ1.2 o = some ((gw_J (gw_z X) 1 (vp_updL f 0 ((nI q).toInt64)))) := by rw [eσ1]; exact gw_up_eq _ _ _
    have hcw2 : cw σ1 (gw_z X) n A := cw_mv hcw (fun b h1 h2 => by rw [eσ1, gw_up_ne (by omega)]) hA2
    have hfr2 : ∀ b, n + 124 ≤ b → b ≠ o → σ1.2 b = σ.2 b := fun b h1 h2 => (show σ1.2 b = σ.2 b by rw [eσ1, gw_up_ne h2]).trans (hfo b h1)
    refine gw_goto (tgt := 15) hX nd_La_label_9 rfl ?_
    refine gw_iconst (v := nI 0) hX nd_La_label_15 rfl ?_
    exact gx_iret hX hQ hr nd_La_label_16 (by decide) (by decide) ⟨Or.inl ⟨q, heq, rfl, hA2, hcw2, ho⟩, hfr2⟩
set_option maxRecDepth 100000 in
set_option maxHeartbeats 4000000 in
theorem ct_La_weight (l : Launch) (hl0 : l.stackTraces = false) (Z : gw_Z) (b0 : Nat) (σ : gw_S) (n c cd s sd : Nat) (A : ab_A) (hA : ab_ok A) (hC : cw_at σ Z n A c cd s sd) (o : Nat) (f : Nat → Int64) (ho : σ.2 o = some (gw_J Z 1 f)) (hno : n + 124 ≤ o) (x y : Int32) (q : Nat) (hq : q < 2) : gy_M l ny_La_weight nc_La_weight (6, 7, 123, 1, 6) (some .int) [(0, 11, 14, 22)] Z b0 σ [.ref n, .int x, .int y, .int (nI q), .ref o] (fun v σ' => ((∃ z : Int, ab_wgt A x y q = some z ∧ v = some (.int (nI 0)) ∧ ab_ok A ∧ cw σ' Z n A ∧ σ'.2 o = some (gw_J Z 1 (vp_updL f 0 (iL z)))) ∨ ((ab_wgt A x y q = none) ∧ v = some (.int (nI 1)) ∧ cw σ' Z n A ∧ σ'.2 o = some (gw_J Z 1 f))) ∧ (∀ b, n + 124 ≤ b → b ≠ o → σ'.2 b = σ.2 b)) (fun _ _ => False) := by
  refine gy_M_of rfl (Nat.le_of_ble_eq_true rfl) hl0 ?_
  intro X hX hl hz hb0 hr hnm hQ hE
  subst hz hb0 hl
  have hX : gw_ok X nc_La_weight "LabelLearnerLaw" (6, 7, 123, 1, 6) := hX
  show gw_W X σ 0 0 0 [(0, .ref n), (1, .int x), (2, .int y), (3, .int (nI q)), (4, .ref o)] []
  refine gw_aload hX nd_La_weight_0 4 rfl ?_
  refine gw_iconst (v := nI 0) hX nd_La_weight_2 rfl ?_
  refine gw_aload_n hX nd_La_weight_3 rfl 0 rfl ?_
  refine gw_iload_n hX nd_La_weight_4 rfl 1 rfl ?_
  refine gw_iload_n hX nd_La_weight_5 rfl 2 rfl ?_
  refine gw_iload_n hX nd_La_weight_6 rfl 3 rfl ?_
  refine gx_callV (rest := [.int (nI 0), .ref o]) hX hE.1 hE.2.2.2 ks_La_37 (gw_in_t 497 (by decide +kernel) rfl) (ct_LL_weight _ hE.2.1 _ _ σ n c cd s sd A hA hC x y q hq) hC.2.1 rfl rfl (Nat.le_of_ble_eq_true rfl) nd_La_weight_7 (by decide) (fun E_ s_ hx_ => ?_) ?_
  · obtain ⟨rfl, hnone, rfl⟩ := hx_
    refine gy_catch1 hX hE (show Cond.classLink "LabelLearnerLaw" 22 gx_IO ∈ gw_ws from gw_in_t 401 (by decide +kernel) rfl) (by decide) (by decide) (by decide) (fun x_ => ?_)
    show gw_W X ((σ.1 + 1, σ.2)) 1 6 14 [(0, .ref n), (1, .int x), (2, .int y), (3, .int (nI q)), (4, .ref o)] [.ref x_]
    refine gw_astore hX nd_La_weight_14 (by decide) (L' := [(5, .ref x_), (0, .ref n), (1, .int x), (2, .int y), (3, .int (nI q)), (4, .ref o)]) rfl ?_
    refine gw_iconst (v := nI 1) hX nd_La_weight_16 rfl ?_
    exact gx_iret hX hQ hr nd_La_weight_17 (by decide) (by decide) ⟨Or.inr ⟨hnone, rfl, cw_mv (σ' := (σ.1 + 1, σ.2)) ⟨c, cd, s, sd, hC⟩ (fun _ _ _ => rfl) hA, ho⟩, fun _ _ _ => rfl⟩
  · skip
    rintro v_ s_ ⟨⟨z, heq, rfl⟩,hs_⟩
    have hs_ := hs_.symm
    subst hs_
    have hfo : ∀ b, n + 124 ≤ b → σ.2 b = σ.2 b := fun _ _ => rfl
    have hcw : cw σ (gw_z X) n A := ⟨c, cd, s, sd, hC⟩
    have hA2 := hA
    show gw_W X σ 1 6 10 [(0, .ref n), (1, .int x), (2, .int y), (3, .int (nI q)), (4, .ref o)] [.long (iL z), .int (nI 0), .ref o]
    refine gw_last hX nd_La_weight_10 ho 0 rfl (by omega) (by decide) ?_
    obtain ⟨σ1, eσ1⟩ : ∃ hp_, hp_ = gw_up σ o ((gw_J (gw_z X) 1 (vp_updL f 0 (iL z)))) := ⟨_, rfl⟩
    refine gw_heap eσ1.symm ?_
    have ho : σ1.2 o = some ((gw_J (gw_z X) 1 (vp_updL f 0 (iL z)))) := by rw [eσ1]; exact gw_up_eq _ _ _
    have hcw2 : cw σ1 (gw_z X) n A := cw_mv hcw (fun b h1 h2 => by rw [eσ1, gw_up_ne (by omega)]) hA2
    have hfr2 : ∀ b, n + 124 ≤ b → b ≠ o → σ1.2 b = σ.2 b := fun b h1 h2 => (show σ1.2 b = σ.2 b by rw [eσ1, gw_up_ne h2]).trans (hfo b h1)
    refine gw_goto (tgt := 18) hX nd_La_weight_11 rfl ?_
    refine gw_iconst (v := nI 0) hX nd_La_weight_18 rfl ?_
    exact gx_iret hX hQ hr nd_La_weight_19 (by decide) (by decide) ⟨Or.inl ⟨z, heq, rfl, hA2, hcw2, ho⟩, hfr2⟩
set_option maxRecDepth 100000 in
set_option maxHeartbeats 4000000 in
theorem ct_La_score (l : Launch) (hl0 : l.stackTraces = false) (Z : gw_Z) (b0 : Nat) (σ : gw_S) (n c cd s sd : Nat) (A : ab_A) (hA : ab_ok A) (hC : cw_at σ Z n A c cd s sd) (o : Nat) (f : Nat → Int64) (ho : σ.2 o = some (gw_J Z 1 f)) (hno : n + 124 ≤ o) (x y : Int32) (q : Nat) (hq : q < 2) : gy_M l ny_La_score nc_La_score (6, 8, 144, 1, 6) (some .int) [(0, 11, 14, 22)] Z b0 σ [.ref n, .int x, .int y, .int (nI q), .ref o] (fun v σ' => ((∃ z : Int, ab_score A x y q = some z ∧ v = some (.int (nI 0)) ∧ ab_ok A ∧ cw σ' Z n A ∧ σ'.2 o = some (gw_J Z 1 (vp_updL f 0 (iL z)))) ∨ ((ab_score A x y q = none) ∧ v = some (.int (nI 1)) ∧ cw σ' Z n A ∧ σ'.2 o = some (gw_J Z 1 f))) ∧ (∀ b, n + 124 ≤ b → b ≠ o → σ'.2 b = σ.2 b)) (fun _ _ => False) := by
  refine gy_M_of rfl (Nat.le_of_ble_eq_true rfl) hl0 ?_
  intro X hX hl hz hb0 hr hnm hQ hE
  subst hz hb0 hl
  have hX : gw_ok X nc_La_score "LabelLearnerLaw" (6, 8, 144, 1, 6) := hX
  show gw_W X σ 0 0 0 [(0, .ref n), (1, .int x), (2, .int y), (3, .int (nI q)), (4, .ref o)] []
  refine gw_aload hX nd_La_score_0 4 rfl ?_
  refine gw_iconst (v := nI 0) hX nd_La_score_2 rfl ?_
  refine gw_aload_n hX nd_La_score_3 rfl 0 rfl ?_
  refine gw_iload_n hX nd_La_score_4 rfl 1 rfl ?_
  refine gw_iload_n hX nd_La_score_5 rfl 2 rfl ?_
  refine gw_iload_n hX nd_La_score_6 rfl 3 rfl ?_
  refine gx_callV (rest := [.int (nI 0), .ref o]) hX hE.1 hE.2.2.2 ks_La_48 (gw_in_t 520 (by decide +kernel) rfl) (ct_LL_score _ hE.2.1 _ _ σ n c cd s sd A hA hC x y q hq) hC.2.1 rfl rfl (Nat.le_of_ble_eq_true rfl) nd_La_score_7 (by decide) (fun E_ s_ hx_ => ?_) ?_
  · obtain ⟨rfl, hnone, rfl⟩ := hx_
    refine gy_catch1 hX hE (show Cond.classLink "LabelLearnerLaw" 22 gx_IO ∈ gw_ws from gw_in_t 401 (by decide +kernel) rfl) (by decide) (by decide) (by decide) (fun x_ => ?_)
    show gw_W X ((σ.1 + 1, σ.2)) 1 6 14 [(0, .ref n), (1, .int x), (2, .int y), (3, .int (nI q)), (4, .ref o)] [.ref x_]
    refine gw_astore hX nd_La_score_14 (by decide) (L' := [(5, .ref x_), (0, .ref n), (1, .int x), (2, .int y), (3, .int (nI q)), (4, .ref o)]) rfl ?_
    refine gw_iconst (v := nI 1) hX nd_La_score_16 rfl ?_
    exact gx_iret hX hQ hr nd_La_score_17 (by decide) (by decide) ⟨Or.inr ⟨hnone, rfl, cw_mv (σ' := (σ.1 + 1, σ.2)) ⟨c, cd, s, sd, hC⟩ (fun _ _ _ => rfl) hA, ho⟩, fun _ _ _ => rfl⟩
  · skip
    rintro v_ s_ ⟨⟨z, heq, rfl⟩,hs_⟩
    have hs_ := hs_.symm
    subst hs_
    have hfo : ∀ b, n + 124 ≤ b → σ.2 b = σ.2 b := fun _ _ => rfl
    have hcw : cw σ (gw_z X) n A := ⟨c, cd, s, sd, hC⟩
    have hA2 := hA
    show gw_W X σ 1 6 10 [(0, .ref n), (1, .int x), (2, .int y), (3, .int (nI q)), (4, .ref o)] [.long (iL z), .int (nI 0), .ref o]
    refine gw_last hX nd_La_score_10 ho 0 rfl (by omega) (by decide) ?_
    obtain ⟨σ1, eσ1⟩ : ∃ hp_, hp_ = gw_up σ o ((gw_J (gw_z X) 1 (vp_updL f 0 (iL z)))) := ⟨_, rfl⟩
    refine gw_heap eσ1.symm ?_
    have ho : σ1.2 o = some ((gw_J (gw_z X) 1 (vp_updL f 0 (iL z)))) := by rw [eσ1]; exact gw_up_eq _ _ _
    have hcw2 : cw σ1 (gw_z X) n A := cw_mv hcw (fun b h1 h2 => by rw [eσ1, gw_up_ne (by omega)]) hA2
    have hfr2 : ∀ b, n + 124 ≤ b → b ≠ o → σ1.2 b = σ.2 b := fun b h1 h2 => (show σ1.2 b = σ.2 b by rw [eσ1, gw_up_ne h2]).trans (hfo b h1)
    refine gw_goto (tgt := 18) hX nd_La_score_11 rfl ?_
    refine gw_iconst (v := nI 0) hX nd_La_score_18 rfl ?_
    exact gx_iret hX hQ hr nd_La_score_19 (by decide) (by decide) ⟨Or.inl ⟨z, heq, rfl, hA2, hcw2, ho⟩, hfr2⟩
set_option maxRecDepth 100000 in
set_option maxHeartbeats 4000000 in
theorem ct_La_decode (l : Launch) (hl0 : l.stackTraces = false) (Z : gw_Z) (b0 : Nat) (σ : gw_S) (n c cd s sd : Nat) (A : ab_A) (hA : ab_ok A) (hC : cw_at σ Z n A c cd s sd) (o : Nat) (f : Nat → Int64) (ho : σ.2 o = some (gw_J Z 1 f)) (hno : n + 124 ≤ o) (x : Int32) (q b : Nat) (hq : q < 2) (hb2 : b < 2) (hB : dc_B (ab_w A q)) : gy_M l ny_La_decode nc_La_decode (6, 8, 147, 1, 6) (some .int) [(0, 11, 14, 22)] Z b0 σ [.ref n, .int x, .int (nI q), .int (nI b), .ref o] (fun v σ' => ((∃ (z : Int) (B : ab_A), ab_dec A x q b = some (z, B) ∧ v = some (.int (nI 0)) ∧ ab_ok B ∧ cw σ' Z n B ∧ σ'.2 o = some (gw_J Z 1 (vp_updL f 0 (iL z)))) ∨ ((ab_dec A x q b = none) ∧ v = some (.int (nI 1)) ∧ cw σ' Z n A ∧ σ'.2 o = some (gw_J Z 1 f))) ∧ (∀ b, n + 124 ≤ b → b ≠ o → σ'.2 b = σ.2 b)) (fun _ _ => False) := by
  refine gy_M_of rfl (Nat.le_of_ble_eq_true rfl) hl0 ?_
  intro X hX hl hz hb0 hr hnm hQ hE
  subst hz hb0 hl
  have hX : gw_ok X nc_La_decode "LabelLearnerLaw" (6, 8, 147, 1, 6) := hX
  show gw_W X σ 0 0 0 [(0, .ref n), (1, .int x), (2, .int (nI q)), (3, .int (nI b)), (4, .ref o)] []
  refine gw_aload hX nd_La_decode_0 4 rfl ?_
  refine gw_iconst (v := nI 0) hX nd_La_decode_2 rfl ?_
  refine gw_aload_n hX nd_La_decode_3 rfl 0 rfl ?_
  refine gw_iload_n hX nd_La_decode_4 rfl 1 rfl ?_
  refine gw_iload_n hX nd_La_decode_5 rfl 2 rfl ?_
  refine gw_iload_n hX nd_La_decode_6 rfl 3 rfl ?_
  refine gx_callV (rest := [.int (nI 0), .ref o]) hX hE.1 hE.2.2.2 ks_La_41 (gw_in_t 506 (by decide +kernel) rfl) (ct_LL_decode _ hE.2.1 _ _ σ n c cd s sd A hA hC x q b hq hb2 hB) hC.2.1 rfl rfl (Nat.le_of_ble_eq_true rfl) nd_La_decode_7 (by decide) (fun E_ s_ hx_ => ?_) ?_
  · obtain ⟨rfl, hnone, rfl⟩ := hx_
    refine gy_catch1 hX hE (show Cond.classLink "LabelLearnerLaw" 22 gx_IO ∈ gw_ws from gw_in_t 401 (by decide +kernel) rfl) (by decide) (by decide) (by decide) (fun x_ => ?_)
    show gw_W X ((σ.1 + 1, σ.2)) 1 6 14 [(0, .ref n), (1, .int x), (2, .int (nI q)), (3, .int (nI b)), (4, .ref o)] [.ref x_]
    refine gw_astore hX nd_La_decode_14 (by decide) (L' := [(5, .ref x_), (0, .ref n), (1, .int x), (2, .int (nI q)), (3, .int (nI b)), (4, .ref o)]) rfl ?_
    refine gw_iconst (v := nI 1) hX nd_La_decode_16 rfl ?_
    exact gx_iret hX hQ hr nd_La_decode_17 (by decide) (by decide) ⟨Or.inr ⟨hnone, rfl, cw_mv (σ' := (σ.1 + 1, σ.2)) ⟨c, cd, s, sd, hC⟩ (fun _ _ _ => rfl) hA, ho⟩, fun _ _ _ => rfl⟩
  · skip
    rintro _ σ1 ⟨⟨z, B, heq, rfl, hC2⟩, hf9⟩
    have hfo : ∀ b, n + 124 ≤ b → σ1.2 b = σ.2 b := fun b h1 => hf9.2 b (by omega) (by omega)
    have hcw : cw σ1 (gw_z X) n B := ⟨_, _, _, _, hC2⟩
    have hA2 : ab_ok B := ab_dec_ok hA hb2 heq
    have ho : σ1.2 o = some (gw_J (gw_z X) 1 f) := (hfo o hno).trans ho
    show gw_W X σ1 1 6 10 [(0, .ref n), (1, .int x), (2, .int (nI q)), (3, .int (nI b)), (4, .ref o)] [.long (iL z), .int (nI 0), .ref o]
    refine gw_last hX nd_La_decode_10 ho 0 rfl (by omega) (by decide) ?_
    obtain ⟨σ2, eσ2⟩ : ∃ hp_, hp_ = gw_up σ1 o ((gw_J (gw_z X) 1 (vp_updL f 0 (iL z)))) := ⟨_, rfl⟩
    refine gw_heap eσ2.symm ?_
    have ho : σ2.2 o = some ((gw_J (gw_z X) 1 (vp_updL f 0 (iL z)))) := by rw [eσ2]; exact gw_up_eq _ _ _
    have hcw2 : cw σ2 (gw_z X) n B := cw_mv hcw (fun b h1 h2 => by rw [eσ2, gw_up_ne (by omega)]) hA2
    have hfr2 : ∀ b, n + 124 ≤ b → b ≠ o → σ2.2 b = σ.2 b := fun b h1 h2 => (show σ2.2 b = σ1.2 b by rw [eσ2, gw_up_ne h2]).trans (hfo b h1)
    refine gw_goto (tgt := 18) hX nd_La_decode_11 rfl ?_
    refine gw_iconst (v := nI 0) hX nd_La_decode_18 rfl ?_
    exact gx_iret hX hQ hr nd_La_decode_19 (by decide) (by decide) ⟨Or.inl ⟨z, B, heq, rfl, hA2, hcw2, ho⟩, hfr2⟩
set_option maxRecDepth 100000 in
set_option maxHeartbeats 4000000 in
theorem ct_La_learn (l : Launch) (hl0 : l.stackTraces = false) (Z : gw_Z) (b0 : Nat) (σ : gw_S) (n c cd s sd : Nat) (A : ab_A) (hA : ab_ok A) (hC : cw_at σ Z n A c cd s sd) (o : Nat) (f : Nat → Int64) (ho : σ.2 o = some (gw_J Z 1 f)) (hno : n + 124 ≤ o) (N : Nat) (hbd : ab_bd A N) (hN : N + 48 ≤ 100000) (x : Int32) : gy_M l ny_La_learn nc_La_learn (4, 7, 169, 1, 6) (some .int) [(0, 9, 12, 13), (0, 9, 15, 35)] Z b0 σ [.ref n, .int x, .ref o] (fun v σ' => ((ab_lk A x = 0 ∧ v = some (.int (nI 0)) ∧ ab_ok (ab_learn A x).2 ∧ cw σ' Z n (ab_learn A x).2 ∧ σ'.2 o = some (gw_J Z 1 (vp_updL f 0 ((nI ((ab_learn A x).1)).toInt64)))) ∨ ((ab_lk A x ≠ 0) ∧ v = some (.int (nI (ab_lk A x))) ∧ cw σ' Z n A ∧ σ'.2 o = some (gw_J Z 1 f))) ∧ (∀ b, n + 124 ≤ b → b ≠ o → σ'.2 b = σ.2 b)) (fun _ _ => False) := by
  refine gy_M_of rfl (Nat.le_of_ble_eq_true rfl) hl0 ?_
  intro X hX hl hz hb0 hr hnm hQ hE
  subst hz hb0 hl
  have hX : gw_ok X nc_La_learn "LabelLearnerLaw" (4, 7, 169, 1, 6) := hX
  show gw_W X σ 0 0 0 [(0, .ref n), (1, .int x), (2, .ref o)] []
  refine gw_aload_n hX nd_La_learn_0 rfl 2 rfl ?_
  refine gw_iconst (v := nI 0) hX nd_La_learn_1 rfl ?_
  refine gw_aload_n hX nd_La_learn_2 rfl 0 rfl ?_
  refine gw_iload_n hX nd_La_learn_3 rfl 1 rfl ?_
  refine gx_callV (rest := [.int (nI 0), .ref o]) hX hE.1 hE.2.2.2 ks_La_32 (gw_in_t 451 (by decide +kernel) rfl) (ct_LL_learn _ hE.2.1 _ _ σ n c cd s sd A hA N hbd hN hC x) hC.2.1 rfl rfl (Nat.le_of_ble_eq_true rfl) nd_La_learn_4 (by decide) (fun E_ s_ hx_ => ?_) ?_
  · obtain ⟨hor_, rfl⟩ := hx_
    rcases hor_ with ⟨rfl, hlk⟩ | ⟨rfl, hlk⟩
    · skip
      refine gy_catch1 hX hE (show Cond.classLink "LabelLearnerLaw" 13 gx_IA ∈ gw_ws from gw_in_t 249 (by decide +kernel) rfl) (by decide) (by decide) (by decide) (fun x_ => ?_)
      show gw_W X ((σ.1 + 1, σ.2)) 1 6 12 [(0, .ref n), (1, .int x), (2, .ref o)] [.ref x_]
      refine gw_astore_n hX nd_La_learn_12 rfl (by decide) (L' := [(3, .ref x_), (0, .ref n), (1, .int x), (2, .ref o)]) rfl ?_
      refine gw_iconst (v := nI 1) hX nd_La_learn_13 rfl ?_
      exact gx_iret hX hQ hr nd_La_learn_14 (by decide) (by decide) ⟨Or.inr ⟨by rw [hlk]; decide, by rw [hlk], cw_mv (σ' := (σ.1 + 1, σ.2)) ⟨c, cd, s, sd, hC⟩ (fun _ _ _ => rfl) hA, ho⟩, fun _ _ _ => rfl⟩
    · skip
      refine gy_catch2 hX hE (show Cond.classLink "LabelLearnerLaw" 13 gx_IA ∈ gw_ws from gw_in_t 249 (by decide +kernel) rfl) (show Cond.classLink "LabelLearnerLaw" 35 gx_IS ∈ gw_ws from gw_in_t 450 (by decide +kernel) rfl) (by decide) (by decide) (by decide) (by decide) (by decide) (by decide) hE.1.2.2.2.2 (fun x_ => ?_)
      show gw_W X ((σ.1 + 1, σ.2)) 1 6 15 [(0, .ref n), (1, .int x), (2, .ref o)] [.ref x_]
      refine gw_astore_n hX nd_La_learn_15 rfl (by decide) (L' := [(3, .ref x_), (0, .ref n), (1, .int x), (2, .ref o)]) rfl ?_
      refine gw_iconst (v := nI 2) hX nd_La_learn_16 rfl ?_
      exact gx_iret hX hQ hr nd_La_learn_17 (by decide) (by decide) ⟨Or.inr ⟨by rw [hlk]; decide, by rw [hlk], cw_mv (σ' := (σ.1 + 1, σ.2)) ⟨c, cd, s, sd, hC⟩ (fun _ _ _ => rfl) hA, ho⟩, fun _ _ _ => rfl⟩
  · skip
    rintro _ σ1 ⟨heq, rfl, hC2, hf9⟩
    have hfo : ∀ b, n + 124 ≤ b → σ1.2 b = σ.2 b := fun b h1 => hf9.2 b (by omega) (by omega)
    have hcw : cw σ1 (gw_z X) n (ab_learn A x).2 := ⟨_, _, _, _, hC2⟩
    have hA2 : ab_ok (ab_learn A x).2 := ab_learn_ok hA
    have ho : σ1.2 o = some (gw_J (gw_z X) 1 f) := (hfo o hno).trans ho
    show gw_W X σ1 1 6 7 [(0, .ref n), (1, .int x), (2, .ref o)] [.int (nI ((ab_learn A x).1)), .int (nI 0), .ref o]
    refine gw_i2l hX nd_La_learn_7 ?_
    refine gw_topl (y := (nI ((ab_learn A x).1)).toInt64) rfl ?_
    refine gw_last hX nd_La_learn_8 ho 0 rfl (by omega) (by decide) ?_
    obtain ⟨σ2, eσ2⟩ : ∃ hp_, hp_ = gw_up σ1 o ((gw_J (gw_z X) 1 (vp_updL f 0 ((nI ((ab_learn A x).1)).toInt64)))) := ⟨_, rfl⟩
    refine gw_heap eσ2.symm ?_
    have ho : σ2.2 o = some ((gw_J (gw_z X) 1 (vp_updL f 0 ((nI ((ab_learn A x).1)).toInt64)))) := by rw [eσ2]; exact gw_up_eq _ _ _
    have hcw2 : cw σ2 (gw_z X) n (ab_learn A x).2 := cw_mv hcw (fun b h1 h2 => by rw [eσ2, gw_up_ne (by omega)]) hA2
    have hfr2 : ∀ b, n + 124 ≤ b → b ≠ o → σ2.2 b = σ.2 b := fun b h1 h2 => (show σ2.2 b = σ1.2 b by rw [eσ2, gw_up_ne h2]).trans (hfo b h1)
    refine gw_goto (tgt := 18) hX nd_La_learn_9 rfl ?_
    refine gw_iconst (v := nI 0) hX nd_La_learn_18 rfl ?_
    exact gx_iret hX hQ hr nd_La_learn_19 (by decide) (by decide) ⟨Or.inl ⟨heq, rfl, hA2, hcw2, ho⟩, hfr2⟩
