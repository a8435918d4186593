set_option maxRecDepth 100000 in
set_option maxHeartbeats 4000000 in
theorem ct_Mo_place (l : Launch) (Z : gw_Z) (b0 : Nat) (σ : gw_S) (m : Nat) (A : ab_A) (hA : ab_ok A) {th rs be se kp kw : Int32} {bs s2 : Int64} {fm fb fl : Nat → Int32} (hM : mw_at σ Z m A th rs be se kp kw bs s2 fm fb fl) (hO : mw_ok A kp kw fm fb fl) (x : Int32) : gw_M l ny_Mo_place nc_Mo_place (2, 0, 0, 0, 0) (some .int) Z b0 σ [.ref m, .int x] (fun v σ' => ((∃ (ws : List px_W) (j : Nat), ab_sent A x = some ws ∧ v = some (.int (nI j)) ∧ j ≤ 8 ∧ mm_b fm fb j ws ∧ (¬ x = -1 → x = nI j ∧ mm_l fl j ws)) ∨ (ab_sent A x = none ∧ v = some (.int (-1)))) ∧ σ' = σ) := by
  refine gw_M_of rfl (Nat.le_of_ble_eq_true rfl) ?_
  intro X hX hl hz hb0 hr hnm hQ
  subst hz hb0 hl
  have hX : gw_ok X nc_Mo_place "LabelLearnerModel" (2, 0, 0, 0, 0) := hX
  show gw_W X σ 0 0 0 [(0, .ref m), (1, .int x)] []
  obtain ⟨h0, h1, h2, h3, h4, ⟨f5, h5⟩, ⟨f6, h6⟩, ⟨f7, h7⟩, h8, h9, ⟨f10, h10⟩, ⟨f11, h11⟩, ⟨f12, h12, hz12⟩⟩ := id hM
  have hl8 := hA.2.2.1
  have hsp6 := hA.2.2.2.2.1.2
  refine gw_iload_n hX nd_Mo_place_0 rfl 1 rfl ?_
  refine gw_iconst (v := (-1)) hX nd_Mo_place_1 rfl ?_
  refine gw_icmp_ne (tgt := 24) hX nd_Mo_place_2 rfl (fun hb => ?_) (fun hb => ?_)
  · skip
    refine gw_iload_n hX nd_Mo_place_24 rfl 1 rfl ?_
    have hx := hb
    refine gw_if_lt (tgt := 40) hX nd_Mo_place_25 rfl (fun hb => ?_) (fun hb => ?_)
    · skip
      refine gw_iconst (v := (-1)) hX nd_Mo_place_40 rfl ?_
      exact gw_iret hX hQ hr nd_Mo_place_41 (by decide) (by decide) ⟨Or.inr ⟨ab_sent_no hl8 (Or.inl hx) (Or.inl hb), rfl⟩, rfl⟩
    · skip
      refine gw_iload_n hX nd_Mo_place_28 rfl 1 rfl ?_
      refine gw_aload_n hX nd_Mo_place_29 rfl 0 rfl ?_
      refine gw_get hX kf_Mo_89 nd_Mo_place_30 h0 rfl ?_
      have hx0 := hb
      refine gw_icmp_ge (tgt := 40) hX nd_Mo_place_33 rfl (fun hb => ?_) (fun hb => ?_)
      · skip
        refine gw_iconst (v := (-1)) hX nd_Mo_place_40 rfl ?_
        exact gw_iret hX hQ hr nd_Mo_place_41 (by decide) (by decide) ⟨Or.inr ⟨ab_sent_no hl8 (Or.inl hx) (Or.inr (Int32.not_lt.mpr hb)), rfl⟩, rfl⟩
      · skip
        obtain ⟨j, hj, rfl⟩ := ix_of (K := A.ss.length) (by omega) hx0 (Int32.not_le.mp hb)
        refine gw_iload_n hX nd_Mo_place_36 rfl 1 rfl ?_
        refine gw_goto (tgt := 41) hX nd_Mo_place_37 rfl ?_
        exact gw_iret hX hQ hr nd_Mo_place_41 (by decide) (by decide) ⟨Or.inl ⟨A.ss[j], j, ab_sent_of hj hl8, rfl, by omega, (hO.1 j _ (List.getElem?_eq_getElem hj)).1, fun _ => ⟨rfl, (hO.1 j _ (List.getElem?_eq_getElem hj)).2⟩⟩, rfl⟩
  · skip
    subst hb
    refine gw_aload_n hX nd_Mo_place_5 rfl 0 rfl ?_
    refine gw_get hX kf_Mo_13 nd_Mo_place_6 h0 rfl ?_
    refine gw_bipush (v := nI 8) hX nd_Mo_place_9 rfl ?_
    refine gw_iald hX nd_Mo_place_11 h2 8 rfl (by omega) (by decide) ?_
    refine gw_topi (y := nI A.sp.length) hO.2.1.1 ?_
    refine gw_if_le (tgt := 20) hX nd_Mo_place_12 rfl (fun hb => ?_) (fun hb => ?_)
    · have hb : A.sp.length ≤ 0 := (nI_leI (a := A.sp.length) (b := 0) (by omega) (by omega)).mp hb
      refine gw_iconst (v := (-1)) hX nd_Mo_place_20 rfl ?_
      refine gw_goto (tgt := 41) hX nd_Mo_place_21 rfl ?_
      exact gw_iret hX hQ hr nd_Mo_place_41 (by decide) (by decide) ⟨Or.inr ⟨ab_sent_no hl8 (Or.inr (by omega)) (Or.inl (by decide)), rfl⟩, rfl⟩
    · have hb : ¬ A.sp.length ≤ 0 := fun h => hb ((nI_leI (a := A.sp.length) (b := 0) (by omega) (by omega)).mpr h)
      refine gw_bipush (v := nI 8) hX nd_Mo_place_15 rfl ?_
      refine gw_goto (tgt := 41) hX nd_Mo_place_17 rfl ?_
      exact gw_iret hX hQ hr nd_Mo_place_41 (by decide) (by decide) ⟨Or.inl ⟨A.sp, 8, ab_sent_sp hb, rfl, by omega, hO.2.1, fun h => absurd rfl h⟩, rfl⟩
set_option maxRecDepth 100000 in
set_option maxHeartbeats 4000000 in
theorem ct_Mo_wordsOf (l : Launch) (Z : gw_Z) (b0 : Nat) (σ : gw_S) (m : Nat) (A : ab_A) (hA : ab_ok A) {th rs be se kp kw : Int32} {bs s2 : Int64} {fm fb fl : Nat → Int32} (hM : mw_at σ Z m A th rs be se kp kw bs s2 fm fb fl) (hO : mw_ok A kp kw fm fb fl) (x : Int32) : gw_M l ny_Mo_wordsOf nc_Mo_wordsOf (2, 1, 21, 0, 0) (some .int) Z b0 σ [.ref m, .int x] (fun v σ' => ((∃ ws : List px_W, ab_sent A x = some ws ∧ v = some (.int (nI ws.length))) ∨ (ab_sent A x = none ∧ v = some (.int (nI 0)))) ∧ σ' = σ) := by
  refine gw_M_of rfl (Nat.le_of_ble_eq_true rfl) ?_
  intro X hX hl hz hb0 hr hnm hQ
  subst hz hb0 hl
  have hX : gw_ok X nc_Mo_wordsOf "LabelLearnerModel" (2, 1, 21, 0, 0) := hX
  show gw_W X σ 0 0 0 [(0, .ref m), (1, .int x)] []
  obtain ⟨h0, h1, h2, h3, h4, ⟨f5, h5⟩, ⟨f6, h6⟩, ⟨f7, h7⟩, h8, h9, ⟨f10, h10⟩, ⟨f11, h11⟩, ⟨f12, h12, hz12⟩⟩ := id hM
  have hl8 := hA.2.2.1
  have hsp6 := hA.2.2.2.2.1.2
  refine gw_aload_n hX nd_Mo_wordsOf_0 rfl 0 rfl ?_
  refine gw_iload_n hX nd_Mo_wordsOf_1 rfl 1 rfl ?_
  refine gw_callV (rest := []) hX ks_Mo_102 (ct_Mo_place _ _ _ σ m A hA hM hO x) h0 rfl rfl (Nat.le_of_ble_eq_true rfl) nd_Mo_wordsOf_2 (by decide) ?_
  rintro v_ s_ ⟨hor, hs_⟩
  have hs_ := hs_.symm
  subst hs_
  rcases hor with ⟨ws, j, hws, rfl, hj8, hmb, hml⟩ | ⟨hno, rfl⟩
  · show gw_W X σ 0 0 5 [(0, .ref m), (1, .int x)] [.int (nI j)]
    obtain ⟨⟨hso, hsl6⟩, hne⟩ := ab_sent_ok hA hws
    refine gw_if_ge (tgt := 12) hX nd_Mo_wordsOf_5 rfl (fun hb => ?_) (fun hb => ?_)
    · have hb : 0 ≤ j := (nI_leI (a := 0) (b := j) (by omega) (by omega)).mp hb
      refine gw_aload_n hX nd_Mo_wordsOf_12 rfl 0 rfl ?_
      refine gw_get hX kf_Mo_13 nd_Mo_wordsOf_13 h0 rfl ?_
      refine gw_aload_n hX nd_Mo_wordsOf_16 rfl 0 rfl ?_
      refine gw_iload_n hX nd_Mo_wordsOf_17 rfl 1 rfl ?_
      refine gw_callV (rest := [.ref (m + 2)]) hX ks_Mo_102 (ct_Mo_place _ _ _ σ m A hA hM hO x) h0 rfl rfl (Nat.le_of_ble_eq_true rfl) nd_Mo_wordsOf_18 (by decide) ?_
      rintro v_ s_ ⟨hor, hs_⟩
      have hs_ := hs_.symm
      subst hs_
      rcases hor with ⟨ws2, j2, hws2, rfl, hj82, hmb2, hml2⟩ | ⟨hno, rfl⟩
      · show gw_W X σ 0 0 21 [(0, .ref m), (1, .int x)] [.int (nI j2), .ref (m + 2)]
        cases hws.symm.trans hws2
        refine gw_iald hX nd_Mo_wordsOf_21 h2 j2 rfl (by omega) (by decide) ?_
        refine gw_topi (y := nI ws.length) hmb2.1 ?_
        exact gw_iret hX hQ hr nd_Mo_wordsOf_22 (by decide) (by decide) ⟨Or.inl ⟨ws, hws, rfl⟩, rfl⟩
      · show gw_W X σ 0 0 21 [(0, .ref m), (1, .int x)] [.int ((-1)), .ref (m + 2)]
        exact absurd (hno.symm.trans hws) (by simp)
    · have hb : ¬ 0 ≤ j := fun h => hb ((nI_leI (a := 0) (b := j) (by omega) (by omega)).mpr h)
      exfalso; omega
  · show gw_W X σ 0 0 5 [(0, .ref m), (1, .int x)] [.int ((-1))]
    refine gw_if_ge (tgt := 12) hX nd_Mo_wordsOf_5 rfl (fun hb => ?_) (fun hb => ?_)
    · skip
      exact absurd hb (by decide)
    · skip
      refine gw_iconst (v := nI 0) hX nd_Mo_wordsOf_8 rfl ?_
      refine gw_goto (tgt := 22) hX nd_Mo_wordsOf_9 rfl ?_
      exact gw_iret hX hQ hr nd_Mo_wordsOf_22 (by decide) (by decide) ⟨Or.inr ⟨hno, rfl⟩, rfl⟩
set_option maxRecDepth 100000 in
set_option maxHeartbeats 4000000 in
theorem ct_Mo_words (l : Launch) (Z : gw_Z) (b0 : Nat) (σ : gw_S) (m : Nat) (A : ab_A) (hA : ab_ok A) {th rs be se kp kw : Int32} {bs s2 : Int64} {fm fb fl : Nat → Int32} (hM : mw_at σ Z m A th rs be se kp kw bs s2 fm fb fl) (hO : mw_ok A kp kw fm fb fl) (x : Int32) : gw_M l ny_Mo_words nc_Mo_words (2, 2, 42, 0, 0) (some .int) Z b0 σ [.ref m, .int x] (fun v σ' => ((∃ ws : List px_W, ab_sent A x = some ws ∧ v = some (.int (nI ws.length)) ∧ mw σ' Z m A 0) ∨ (ab_sent A x = none ∧ v = some (.int (nI 0)) ∧ mw σ' Z m A 1)) ∧ (∀ b, b < m ∨ m + 13 ≤ b → σ'.2 b = σ.2 b)) := by
  refine gw_M_of rfl (Nat.le_of_ble_eq_true rfl) ?_
  intro X hX hl hz hb0 hr hnm hQ
  subst hz hb0 hl
  have hX : gw_ok X nc_Mo_words "LabelLearnerModel" (2, 2, 42, 0, 0) := hX
  show gw_W X σ 0 0 0 [(0, .ref m), (1, .int x)] []
  have fr : gw_fr σ σ m (m + 13) := gw_fr_rf _ _ _
  obtain ⟨h0, h1, h2, h3, h4, ⟨f5, h5⟩, ⟨f6, h6⟩, ⟨f7, h7⟩, h8, h9, ⟨f10, h10⟩, ⟨f11, h11⟩, ⟨f12, h12, hz12⟩⟩ := id hM
  have hl8 := hA.2.2.1
  have hsp6 := hA.2.2.2.2.1.2
  refine gw_aload_n hX nd_Mo_words_0 rfl 0 rfl ?_
  refine gw_aload_n hX nd_Mo_words_1 rfl 0 rfl ?_
  refine gw_iload_n hX nd_Mo_words_2 rfl 1 rfl ?_
  refine gw_callV (rest := [.ref m]) hX ks_Mo_102 (ct_Mo_place _ _ _ σ m A hA hM hO x) h0 rfl rfl (Nat.le_of_ble_eq_true rfl) nd_Mo_words_3 (by decide) ?_
  rintro v_ s_ ⟨hor, hs_⟩
  have hs_ := hs_.symm
  subst hs_
  rcases hor with ⟨ws, j, hws, rfl, hj8, hmb, hml⟩ | ⟨hno, rfl⟩
  · show gw_W X σ 0 0 6 [(0, .ref m), (1, .int x)] [.int (nI j), .ref m]
    obtain ⟨⟨hso, hsl6⟩, hne⟩ := ab_sent_ok hA hws
    refine gw_if_ge (tgt := 13) hX nd_Mo_words_6 rfl (fun hb => ?_) (fun hb => ?_)
    · have hb : 0 ≤ j := (nI_leI (a := 0) (b := j) (by omega) (by omega)).mp hb
      refine gw_iconst (v := nI 0) hX nd_Mo_words_13 rfl ?_
      refine gw_put hX kf_Mo_51 nd_Mo_words_14 h0 rfl rfl (Nat.le_of_ble_eq_true rfl) (e' := .inr (1, [.int (nI 0), .int (nI A.len), .ref (m + 1), .int (nI A.ss.length), .ref (m + 2), .ref (m + 3), .ref (m + 4), .int rs, .ref (m + 5), .ref (m + 6), .ref (m + 7), .ref (m + 8), .ref (m + 9), .int (nI A.mk), .int (nI A.ps), .ref (m + 10), .ref (m + 11), .ref (m + 12), .long bs, .long s2, .int be, .int se, .int kp, .int kw])) rfl ?_
      obtain ⟨σ1, eσ1⟩ : ∃ hp_, hp_ = gw_up σ m (.inr (1, [.int (nI 0), .int (nI A.len), .ref (m + 1), .int (nI A.ss.length), .ref (m + 2), .ref (m + 3), .ref (m + 4), .int rs, .ref (m + 5), .ref (m + 6), .ref (m + 7), .ref (m + 8), .ref (m + 9), .int (nI A.mk), .int (nI A.ps), .ref (m + 10), .ref (m + 11), .ref (m + 12), .long bs, .long s2, .int be, .int se, .int kp, .int kw])) := ⟨_, rfl⟩
      refine gw_heap eσ1.symm ?_
      have h0 : σ1.2 m = some (.inr (1, [.int (nI 0), .int (nI A.len), .ref (m + 1), .int (nI A.ss.length), .ref (m + 2), .ref (m + 3), .ref (m + 4), .int rs, .ref (m + 5), .ref (m + 6), .ref (m + 7), .ref (m + 8), .ref (m + 9), .int (nI A.mk), .int (nI A.ps), .ref (m + 10), .ref (m + 11), .ref (m + 12), .long bs, .long s2, .int be, .int se, .int kp, .int kw])) := by rw [eσ1]; exact gw_up_eq _ _ _
      have h1 : σ1.2 (m + 1) = some ((gw_I (gw_z X) 240 (fun j => nI (A.ch j)))) := by rw [eσ1, gw_up_ne (by omega)]; exact h1
      have h2 : σ1.2 (m + 2) = some ((gw_I (gw_z X) 9 fm)) := by rw [eσ1, gw_up_ne (by omega)]; exact h2
      have h3 : σ1.2 (m + 3) = some ((gw_I (gw_z X) 162 fb)) := by rw [eσ1, gw_up_ne (by omega)]; exact h3
      have h4 : σ1.2 (m + 4) = some ((gw_I (gw_z X) 54 fl)) := by rw [eσ1, gw_up_ne (by omega)]; exact h4
      have h5 : σ1.2 (m + 5) = some ((gw_I (gw_z X) 9 f5)) := by rw [eσ1, gw_up_ne (by omega)]; exact h5
      have h6 : σ1.2 (m + 6) = some ((gw_I (gw_z X) 162 f6)) := by rw [eσ1, gw_up_ne (by omega)]; exact h6
      have h7 : σ1.2 (m + 7) = some ((gw_I (gw_z X) 54 f7)) := by rw [eσ1, gw_up_ne (by omega)]; exact h7
      have h8 : σ1.2 (m + 8) = some ((gw_J (gw_z X) 148 (fun j => iL (A.wt j)))) := by rw [eσ1, gw_up_ne (by omega)]; exact h8
      have h9 : σ1.2 (m + 9) = some ((gw_J (gw_z X) 148 (fun j => iL (A.tt j)))) := by rw [eσ1, gw_up_ne (by omega)]; exact h9
      have h10 : σ1.2 (m + 10) = some ((gw_J (gw_z X) 24 f10)) := by rw [eσ1, gw_up_ne (by omega)]; exact h10
      have h11 : σ1.2 (m + 11) = some ((gw_I (gw_z X) 6 f11)) := by rw [eσ1, gw_up_ne (by omega)]; exact h11
      have h12 : σ1.2 (m + 12) = some ((gw_J (gw_z X) 7 f12)) := by rw [eσ1, gw_up_ne (by omega)]; exact h12
      have fr : gw_fr σ σ1 m (m + 13) := gw_fr_tr fr (show gw_fr _ σ1 m (m + 13) by rw [eσ1]; exact gw_fr_up _ _ _ (by omega) (by omega))
      refine gw_aload_n hX nd_Mo_words_17 rfl 0 rfl ?_
      refine gw_iload_n hX nd_Mo_words_18 rfl 1 rfl ?_
      have hM1 : mw_at σ1 (gw_z X) m A (nI 0) rs be se kp kw bs s2 fm fb fl := ⟨h0, h1, h2, h3, h4, ⟨_, h5⟩, ⟨_, h6⟩, ⟨_, h7⟩, h8, h9, ⟨_, h10⟩, ⟨_, h11⟩, ⟨_, h12, hz12⟩⟩
      refine gw_callV (rest := []) hX ks_Mo_105 (ct_Mo_wordsOf _ _ _ σ1 m A hA hM1 hO x) h0 rfl rfl (Nat.le_of_ble_eq_true rfl) nd_Mo_words_19 (by decide) ?_
      rintro v_ s_ ⟨hor, hs_⟩
      have hs_ := hs_.symm
      subst hs_
      rcases hor with ⟨ws2, hws2, rfl⟩ | ⟨hno, rfl⟩
      · show gw_W X σ1 0 0 22 [(0, .ref m), (1, .int x)] [.int (nI ws2.length)]
        cases hws.symm.trans hws2
        exact gw_iret hX hQ hr nd_Mo_words_22 (by decide) (by decide) ⟨Or.inl ⟨ws, hws, rfl, ⟨_, _, _, _, _, _, _, _, _, _, ⟨h0, h1, h2, h3, h4, ⟨_, h5⟩, ⟨_, h6⟩, ⟨_, h7⟩, h8, h9, ⟨_, h10⟩, ⟨_, h11⟩, ⟨_, h12, hz12⟩⟩, hO⟩⟩, (fun b hb9 => fr.2 b (by omega))⟩
      · show gw_W X σ1 0 0 22 [(0, .ref m), (1, .int x)] [.int (nI 0)]
        exact absurd (hno.symm.trans hws) (by simp)
    · have hb : ¬ 0 ≤ j := fun h => hb ((nI_leI (a := 0) (b := j) (by omega) (by omega)).mpr h)
      exfalso; omega
  · show gw_W X σ 0 0 6 [(0, .ref m), (1, .int x)] [.int ((-1)), .ref m]
    refine gw_if_ge (tgt := 13) hX nd_Mo_words_6 rfl (fun hb => ?_) (fun hb => ?_)
    · skip
      exact absurd hb (by decide)
    · skip
      refine gw_iconst (v := nI 1) hX nd_Mo_words_9 rfl ?_
      refine gw_goto (tgt := 14) hX nd_Mo_words_10 rfl ?_
      refine gw_put hX kf_Mo_51 nd_Mo_words_14 h0 rfl rfl (Nat.le_of_ble_eq_true rfl) (e' := .inr (1, [.int (nI 1), .int (nI A.len), .ref (m + 1), .int (nI A.ss.length), .ref (m + 2), .ref (m + 3), .ref (m + 4), .int rs, .ref (m + 5), .ref (m + 6), .ref (m + 7), .ref (m + 8), .ref (m + 9), .int (nI A.mk), .int (nI A.ps), .ref (m + 10), .ref (m + 11), .ref (m + 12), .long bs, .long s2, .int be, .int se, .int kp, .int kw])) rfl ?_
      obtain ⟨σ2, eσ2⟩ : ∃ hp_, hp_ = gw_up σ m (.inr (1, [.int (nI 1), .int (nI A.len), .ref (m + 1), .int (nI A.ss.length), .ref (m + 2), .ref (m + 3), .ref (m + 4), .int rs, .ref (m + 5), .ref (m + 6), .ref (m + 7), .ref (m + 8), .ref (m + 9), .int (nI A.mk), .int (nI A.ps), .ref (m + 10), .ref (m + 11), .ref (m + 12), .long bs, .long s2, .int be, .int se, .int kp, .int kw])) := ⟨_, rfl⟩
      refine gw_heap eσ2.symm ?_
      have h0 : σ2.2 m = some (.inr (1, [.int (nI 1), .int (nI A.len), .ref (m + 1), .int (nI A.ss.length), .ref (m + 2), .ref (m + 3), .ref (m + 4), .int rs, .ref (m + 5), .ref (m + 6), .ref (m + 7), .ref (m + 8), .ref (m + 9), .int (nI A.mk), .int (nI A.ps), .ref (m + 10), .ref (m + 11), .ref (m + 12), .long bs, .long s2, .int be, .int se, .int kp, .int kw])) := by rw [eσ2]; exact gw_up_eq _ _ _
      have h1 : σ2.2 (m + 1) = some ((gw_I (gw_z X) 240 (fun j => nI (A.ch j)))) := by rw [eσ2, gw_up_ne (by omega)]; exact h1
      have h2 : σ2.2 (m + 2) = some ((gw_I (gw_z X) 9 fm)) := by rw [eσ2, gw_up_ne (by omega)]; exact h2
      have h3 : σ2.2 (m + 3) = some ((gw_I (gw_z X) 162 fb)) := by rw [eσ2, gw_up_ne (by omega)]; exact h3
      have h4 : σ2.2 (m + 4) = some ((gw_I (gw_z X) 54 fl)) := by rw [eσ2, gw_up_ne (by omega)]; exact h4
      have h5 : σ2.2 (m + 5) = some ((gw_I (gw_z X) 9 f5)) := by rw [eσ2, gw_up_ne (by omega)]; exact h5
      have h6 : σ2.2 (m + 6) = some ((gw_I (gw_z X) 162 f6)) := by rw [eσ2, gw_up_ne (by omega)]; exact h6
      have h7 : σ2.2 (m + 7) = some ((gw_I (gw_z X) 54 f7)) := by rw [eσ2, gw_up_ne (by omega)]; exact h7
      have h8 : σ2.2 (m + 8) = some ((gw_J (gw_z X) 148 (fun j => iL (A.wt j)))) := by rw [eσ2, gw_up_ne (by omega)]; exact h8
      have h9 : σ2.2 (m + 9) = some ((gw_J (gw_z X) 148 (fun j => iL (A.tt j)))) := by rw [eσ2, gw_up_ne (by omega)]; exact h9
      have h10 : σ2.2 (m + 10) = some ((gw_J (gw_z X) 24 f10)) := by rw [eσ2, gw_up_ne (by omega)]; exact h10
      have h11 : σ2.2 (m + 11) = some ((gw_I (gw_z X) 6 f11)) := by rw [eσ2, gw_up_ne (by omega)]; exact h11
      have h12 : σ2.2 (m + 12) = some ((gw_J (gw_z X) 7 f12)) := by rw [eσ2, gw_up_ne (by omega)]; exact h12
      have fr : gw_fr σ σ2 m (m + 13) := gw_fr_tr fr (show gw_fr _ σ2 m (m + 13) by rw [eσ2]; exact gw_fr_up _ _ _ (by omega) (by omega))
      refine gw_aload_n hX nd_Mo_words_17 rfl 0 rfl ?_
      refine gw_iload_n hX nd_Mo_words_18 rfl 1 rfl ?_
      have hM1 : mw_at σ2 (gw_z X) m A (nI 1) rs be se kp kw bs s2 fm fb fl := ⟨h0, h1, h2, h3, h4, ⟨_, h5⟩, ⟨_, h6⟩, ⟨_, h7⟩, h8, h9, ⟨_, h10⟩, ⟨_, h11⟩, ⟨_, h12, hz12⟩⟩
      refine gw_callV (rest := []) hX ks_Mo_105 (ct_Mo_wordsOf _ _ _ σ2 m A hA hM1 hO x) h0 rfl rfl (Nat.le_of_ble_eq_true rfl) nd_Mo_words_19 (by decide) ?_
      rintro v_ s_ ⟨hor, hs_⟩
      have hs_ := hs_.symm
      subst hs_
      rcases hor with ⟨ws2, hws2, rfl⟩ | ⟨hno2, rfl⟩
      · show gw_W X σ2 0 0 22 [(0, .ref m), (1, .int x)] [.int (nI ws2.length)]
        exact absurd (hno.symm.trans hws2) (by simp)
      · show gw_W X σ2 0 0 22 [(0, .ref m), (1, .int x)] [.int (nI 0)]
        exact gw_iret hX hQ hr nd_Mo_words_22 (by decide) (by decide) ⟨Or.inr ⟨hno, rfl, ⟨_, _, _, _, _, _, _, _, _, _, ⟨h0, h1, h2, h3, h4, ⟨_, h5⟩, ⟨_, h6⟩, ⟨_, h7⟩, h8, h9, ⟨_, h10⟩, ⟨_, h11⟩, ⟨_, h12, hz12⟩⟩, hO⟩⟩, (fun b hb9 => fr.2 b (by omega))⟩
set_option maxRecDepth 100000 in
set_option maxHeartbeats 4000000 in
theorem ct_Mo_sentences (l : Launch) (Z : gw_Z) (b0 : Nat) (σ : gw_S) (m : Nat) (A : ab_A) (hA : ab_ok A) {th rs be se kp kw : Int32} {bs s2 : Int64} {fm fb fl : Nat → Int32} (hM : mw_at σ Z m A th rs be se kp kw bs s2 fm fb fl) (hO : mw_ok A kp kw fm fb fl) : gw_M l ny_Mo_sentences nc_Mo_sentences (1, 0, 0, 0, 0) (some .int) Z b0 σ [.ref m] (fun v σ' => v = some (.int (nI A.ss.length)) ∧ mw σ' Z m A 0 ∧ (∀ b, b < m ∨ m + 13 ≤ b → σ'.2 b = σ.2 b)) := by
  refine gw_M_of rfl (Nat.le_of_ble_eq_true rfl) ?_
  intro X hX hl hz hb0 hr hnm hQ
  subst hz hb0 hl
  have hX : gw_ok X nc_Mo_sentences "LabelLearnerModel" (1, 0, 0, 0, 0) := hX
  show gw_W X σ 0 0 0 [(0, .ref m)] []
  have fr : gw_fr σ σ m (m + 13) := gw_fr_rf _ _ _
  obtain ⟨h0, h1, h2, h3, h4, ⟨f5, h5⟩, ⟨f6, h6⟩, ⟨f7, h7⟩, h8, h9, ⟨f10, h10⟩, ⟨f11, h11⟩, ⟨f12, h12, hz12⟩⟩ := id hM
  have hl8 := hA.2.2.1
  have hsp6 := hA.2.2.2.2.1.2
  refine gw_aload_n hX nd_Mo_sentences_0 rfl 0 rfl ?_
  refine gw_iconst (v := nI 0) hX nd_Mo_sentences_1 rfl ?_
  refine gw_put hX kf_Mo_51 nd_Mo_sentences_2 h0 rfl rfl (Nat.le_of_ble_eq_true rfl) (e' := .inr (1, [.int (nI 0), .int (nI A.len), .ref (m + 1), .int (nI A.ss.length), .ref (m + 2), .ref (m + 3), .ref (m + 4), .int rs, .ref (m + 5), .ref (m + 6), .ref (m + 7), .ref (m + 8), .ref (m + 9), .int (nI A.mk), .int (nI A.ps), .ref (m + 10), .ref (m + 11), .ref (m + 12), .long bs, .long s2, .int be, .int se, .int kp, .int kw])) rfl ?_
  obtain ⟨σ1, eσ1⟩ : ∃ hp_, hp_ = gw_up σ m (.inr (1, [.int (nI 0), .int (nI A.len), .ref (m + 1), .int (nI A.ss.length), .ref (m + 2), .ref (m + 3), .ref (m + 4), .int rs, .ref (m + 5), .ref (m + 6), .ref (m + 7), .ref (m + 8), .ref (m + 9), .int (nI A.mk), .int (nI A.ps), .ref (m + 10), .ref (m + 11), .ref (m + 12), .long bs, .long s2, .int be, .int se, .int kp, .int kw])) := ⟨_, rfl⟩
  refine gw_heap eσ1.symm ?_
  have h0 : σ1.2 m = some (.inr (1, [.int (nI 0), .int (nI A.len), .ref (m + 1), .int (nI A.ss.length), .ref (m + 2), .ref (m + 3), .ref (m + 4), .int rs, .ref (m + 5), .ref (m + 6), .ref (m + 7), .ref (m + 8), .ref (m + 9), .int (nI A.mk), .int (nI A.ps), .ref (m + 10), .ref (m + 11), .ref (m + 12), .long bs, .long s2, .int be, .int se, .int kp, .int kw])) := by rw [eσ1]; exact gw_up_eq _ _ _
  have h1 : σ1.2 (m + 1) = some ((gw_I (gw_z X) 240 (fun j => nI (A.ch j)))) := by rw [eσ1, gw_up_ne (by omega)]; exact h1
  have h2 : σ1.2 (m + 2) = some ((gw_I (gw_z X) 9 fm)) := by rw [eσ1, gw_up_ne (by omega)]; exact h2
  have h3 : σ1.2 (m + 3) = some ((gw_I (gw_z X) 162 fb)) := by rw [eσ1, gw_up_ne (by omega)]; exact h3
  have h4 : σ1.2 (m + 4) = some ((gw_I (gw_z X) 54 fl)) := by rw [eσ1, gw_up_ne (by omega)]; exact h4
  have h5 : σ1.2 (m + 5) = some ((gw_I (gw_z X) 9 f5)) := by rw [eσ1, gw_up_ne (by omega)]; exact h5
  have h6 : σ1.2 (m + 6) = some ((gw_I (gw_z X) 162 f6)) := by rw [eσ1, gw_up_ne (by omega)]; exact h6
  have h7 : σ1.2 (m + 7) = some ((gw_I (gw_z X) 54 f7)) := by rw [eσ1, gw_up_ne (by omega)]; exact h7
  have h8 : σ1.2 (m + 8) = some ((gw_J (gw_z X) 148 (fun j => iL (A.wt j)))) := by rw [eσ1, gw_up_ne (by omega)]; exact h8
  have h9 : σ1.2 (m + 9) = some ((gw_J (gw_z X) 148 (fun j => iL (A.tt j)))) := by rw [eσ1, gw_up_ne (by omega)]; exact h9
  have h10 : σ1.2 (m + 10) = some ((gw_J (gw_z X) 24 f10)) := by rw [eσ1, gw_up_ne (by omega)]; exact h10
  have h11 : σ1.2 (m + 11) = some ((gw_I (gw_z X) 6 f11)) := by rw [eσ1, gw_up_ne (by omega)]; exact h11
  have h12 : σ1.2 (m + 12) = some ((gw_J (gw_z X) 7 f12)) := by rw [eσ1, gw_up_ne (by omega)]; exact h12
  have fr : gw_fr σ σ1 m (m + 13) := gw_fr_tr fr (show gw_fr _ σ1 m (m + 13) by rw [eσ1]; exact gw_fr_up _ _ _ (by omega) (by omega))
  refine gw_aload_n hX nd_Mo_sentences_5 rfl 0 rfl ?_
  refine gw_get hX kf_Mo_89 nd_Mo_sentences_6 h0 rfl ?_
  exact gw_iret hX hQ hr nd_Mo_sentences_9 (by decide) (by decide) ⟨rfl, ⟨_, _, _, _, _, _, _, _, _, _, ⟨h0, h1, h2, h3, h4, ⟨_, h5⟩, ⟨_, h6⟩, ⟨_, h7⟩, h8, h9, ⟨_, h10⟩, ⟨_, h11⟩, ⟨_, h12, hz12⟩⟩, hO⟩, (fun b hb9 => fr.2 b (by omega))⟩
set_option maxRecDepth 100000 in
set_option maxHeartbeats 4000000 in
theorem ct_Mo_mistakes (l : Launch) (Z : gw_Z) (b0 : Nat) (σ : gw_S) (m : Nat) (A : ab_A) (hA : ab_ok A) {th rs be se kp kw : Int32} {bs s2 : Int64} {fm fb fl : Nat → Int32} (hM : mw_at σ Z m A th rs be se kp kw bs s2 fm fb fl) (hO : mw_ok A kp kw fm fb fl) : gw_M l ny_Mo_mistakes nc_Mo_mistakes (1, 0, 0, 0, 0) (some .int) Z b0 σ [.ref m] (fun v σ' => v = some (.int (nI A.mk)) ∧ mw σ' Z m A 0 ∧ (∀ b, b < m ∨ m + 13 ≤ b → σ'.2 b = σ.2 b)) := by
  refine gw_M_of rfl (Nat.le_of_ble_eq_true rfl) ?_
  intro X hX hl hz hb0 hr hnm hQ
  subst hz hb0 hl
  have hX : gw_ok X nc_Mo_mistakes "LabelLearnerModel" (1, 0, 0, 0, 0) := hX
  show gw_W X σ 0 0 0 [(0, .ref m)] []
  have fr : gw_fr σ σ m (m + 13) := gw_fr_rf _ _ _
  obtain ⟨h0, h1, h2, h3, h4, ⟨f5, h5⟩, ⟨f6, h6⟩, ⟨f7, h7⟩, h8, h9, ⟨f10, h10⟩, ⟨f11, h11⟩, ⟨f12, h12, hz12⟩⟩ := id hM
  have hl8 := hA.2.2.1
  have hsp6 := hA.2.2.2.2.1.2
  refine gw_aload_n hX nd_Mo_mistakes_0 rfl 0 rfl ?_
  refine gw_iconst (v := nI 0) hX nd_Mo_mistakes_1 rfl ?_
  refine gw_put hX kf_Mo_51 nd_Mo_mistakes_2 h0 rfl rfl (Nat.le_of_ble_eq_true rfl) (e' := .inr (1, [.int (nI 0), .int (nI A.len), .ref (m + 1), .int (nI A.ss.length), .ref (m + 2), .ref (m + 3), .ref (m + 4), .int rs, .ref (m + 5), .ref (m + 6), .ref (m + 7), .ref (m + 8), .ref (m + 9), .int (nI A.mk), .int (nI A.ps), .ref (m + 10), .ref (m + 11), .ref (m + 12), .long bs, .long s2, .int be, .int se, .int kp, .int kw])) rfl ?_
  obtain ⟨σ1, eσ1⟩ : ∃ hp_, hp_ = gw_up σ m (.inr (1, [.int (nI 0), .int (nI A.len), .ref (m + 1), .int (nI A.ss.length), .ref (m + 2), .ref (m + 3), .ref (m + 4), .int rs, .ref (m + 5), .ref (m + 6), .ref (m + 7), .ref (m + 8), .ref (m + 9), .int (nI A.mk), .int (nI A.ps), .ref (m + 10), .ref (m + 11), .ref (m + 12), .long bs, .long s2, .int be, .int se, .int kp, .int kw])) := ⟨_, rfl⟩
  refine gw_heap eσ1.symm ?_
  have h0 : σ1.2 m = some (.inr (1, [.int (nI 0), .int (nI A.len), .ref (m + 1), .int (nI A.ss.length), .ref (m + 2), .ref (m + 3), .ref (m + 4), .int rs, .ref (m + 5), .ref (m + 6), .ref (m + 7), .ref (m + 8), .ref (m + 9), .int (nI A.mk), .int (nI A.ps), .ref (m + 10), .ref (m + 11), .ref (m + 12), .long bs, .long s2, .int be, .int se, .int kp, .int kw])) := by rw [eσ1]; exact gw_up_eq _ _ _
  have h1 : σ1.2 (m + 1) = some ((gw_I (gw_z X) 240 (fun j => nI (A.ch j)))) := by rw [eσ1, gw_up_ne (by omega)]; exact h1
  have h2 : σ1.2 (m + 2) = some ((gw_I (gw_z X) 9 fm)) := by rw [eσ1, gw_up_ne (by omega)]; exact h2
  have h3 : σ1.2 (m + 3) = some ((gw_I (gw_z X) 162 fb)) := by rw [eσ1, gw_up_ne (by omega)]; exact h3
  have h4 : σ1.2 (m + 4) = some ((gw_I (gw_z X) 54 fl)) := by rw [eσ1, gw_up_ne (by omega)]; exact h4
  have h5 : σ1.2 (m + 5) = some ((gw_I (gw_z X) 9 f5)) := by rw [eσ1, gw_up_ne (by omega)]; exact h5
  have h6 : σ1.2 (m + 6) = some ((gw_I (gw_z X) 162 f6)) := by rw [eσ1, gw_up_ne (by omega)]; exact h6
  have h7 : σ1.2 (m + 7) = some ((gw_I (gw_z X) 54 f7)) := by rw [eσ1, gw_up_ne (by omega)]; exact h7
  have h8 : σ1.2 (m + 8) = some ((gw_J (gw_z X) 148 (fun j => iL (A.wt j)))) := by rw [eσ1, gw_up_ne (by omega)]; exact h8
  have h9 : σ1.2 (m + 9) = some ((gw_J (gw_z X) 148 (fun j => iL (A.tt j)))) := by rw [eσ1, gw_up_ne (by omega)]; exact h9
  have h10 : σ1.2 (m + 10) = some ((gw_J (gw_z X) 24 f10)) := by rw [eσ1, gw_up_ne (by omega)]; exact h10
  have h11 : σ1.2 (m + 11) = some ((gw_I (gw_z X) 6 f11)) := by rw [eσ1, gw_up_ne (by omega)]; exact h11
  have h12 : σ1.2 (m + 12) = some ((gw_J (gw_z X) 7 f12)) := by rw [eσ1, gw_up_ne (by omega)]; exact h12
  have fr : gw_fr σ σ1 m (m + 13) := gw_fr_tr fr (show gw_fr _ σ1 m (m + 13) by rw [eσ1]; exact gw_fr_up _ _ _ (by omega) (by omega))
  refine gw_aload_n hX nd_Mo_mistakes_5 rfl 0 rfl ?_
  refine gw_get hX kf_Mo_96 nd_Mo_mistakes_6 h0 rfl ?_
  exact gw_iret hX hQ hr nd_Mo_mistakes_9 (by decide) (by decide) ⟨rfl, ⟨_, _, _, _, _, _, _, _, _, _, ⟨h0, h1, h2, h3, h4, ⟨_, h5⟩, ⟨_, h6⟩, ⟨_, h7⟩, h8, h9, ⟨_, h10⟩, ⟨_, h11⟩, ⟨_, h12, hz12⟩⟩, hO⟩, (fun b hb9 => fr.2 b (by omega))⟩
set_option maxRecDepth 100000 in
set_option maxHeartbeats 4000000 in
theorem ct_Mo_passes (l : Launch) (Z : gw_Z) (b0 : Nat) (σ : gw_S) (m : Nat) (A : ab_A) (hA : ab_ok A) {th rs be se kp kw : Int32} {bs s2 : Int64} {fm fb fl : Nat → Int32} (hM : mw_at σ Z m A th rs be se kp kw bs s2 fm fb fl) (hO : mw_ok A kp kw fm fb fl) : gw_M l ny_Mo_passes nc_Mo_passes (1, 0, 0, 0, 0) (some .int) Z b0 σ [.ref m] (fun v σ' => v = some (.int (nI A.ps)) ∧ mw σ' Z m A 0 ∧ (∀ b, b < m ∨ m + 13 ≤ b → σ'.2 b = σ.2 b)) := by
  refine gw_M_of rfl (Nat.le_of_ble_eq_true rfl) ?_
  intro X hX hl hz hb0 hr hnm hQ
  subst hz hb0 hl
  have hX : gw_ok X nc_Mo_passes "LabelLearnerModel" (1, 0, 0, 0, 0) := hX
  show gw_W X σ 0 0 0 [(0, .ref m)] []
  have fr : gw_fr σ σ m (m + 13) := gw_fr_rf _ _ _
  obtain ⟨h0, h1, h2, h3, h4, ⟨f5, h5⟩, ⟨f6, h6⟩, ⟨f7, h7⟩, h8, h9, ⟨f10, h10⟩, ⟨f11, h11⟩, ⟨f12, h12, hz12⟩⟩ := id hM
  have hl8 := hA.2.2.1
  have hsp6 := hA.2.2.2.2.1.2
  refine gw_aload_n hX nd_Mo_passes_0 rfl 0 rfl ?_
  refine gw_iconst (v := nI 0) hX nd_Mo_passes_1 rfl ?_
  refine gw_put hX kf_Mo_51 nd_Mo_passes_2 h0 rfl rfl (Nat.le_of_ble_eq_true rfl) (e' := .inr (1, [.int (nI 0), .int (nI A.len), .ref (m + 1), .int (nI A.ss.length), .ref (m + 2), .ref (m + 3), .ref (m + 4), .int rs, .ref (m + 5), .ref (m + 6), .ref (m + 7), .ref (m + 8), .ref (m + 9), .int (nI A.mk), .int (nI A.ps), .ref (m + 10), .ref (m + 11), .ref (m + 12), .long bs, .long s2, .int be, .int se, .int kp, .int kw])) rfl ?_
  obtain ⟨σ1, eσ1⟩ : ∃ hp_, hp_ = gw_up σ m (.inr (1, [.int (nI 0), .int (nI A.len), .ref (m + 1), .int (nI A.ss.length), .ref (m + 2), .ref (m + 3), .ref (m + 4), .int rs, .ref (m + 5), .ref (m + 6), .ref (m + 7), .ref (m + 8), .ref (m + 9), .int (nI A.mk), .int (nI A.ps), .ref (m + 10), .ref (m + 11), .ref (m + 12), .long bs, .long s2, .int be, .int se, .int kp, .int kw])) := ⟨_, rfl⟩
  refine gw_heap eσ1.symm ?_
  have h0 : σ1.2 m = some (.inr (1, [.int (nI 0), .int (nI A.len), .ref (m + 1), .int (nI A.ss.length), .ref (m + 2), .ref (m + 3), .ref (m + 4), .int rs, .ref (m + 5), .ref (m + 6), .ref (m + 7), .ref (m + 8), .ref (m + 9), .int (nI A.mk), .int (nI A.ps), .ref (m + 10), .ref (m + 11), .ref (m + 12), .long bs, .long s2, .int be, .int se, .int kp, .int kw])) := by rw [eσ1]; exact gw_up_eq _ _ _
  have h1 : σ1.2 (m + 1) = some ((gw_I (gw_z X) 240 (fun j => nI (A.ch j)))) := by rw [eσ1, gw_up_ne (by omega)]; exact h1
  have h2 : σ1.2 (m + 2) = some ((gw_I (gw_z X) 9 fm)) := by rw [eσ1, gw_up_ne (by omega)]; exact h2
  have h3 : σ1.2 (m + 3) = some ((gw_I (gw_z X) 162 fb)) := by rw [eσ1, gw_up_ne (by omega)]; exact h3
  have h4 : σ1.2 (m + 4) = some ((gw_I (gw_z X) 54 fl)) := by rw [eσ1, gw_up_ne (by omega)]; exact h4
  have h5 : σ1.2 (m + 5) = some ((gw_I (gw_z X) 9 f5)) := by rw [eσ1, gw_up_ne (by omega)]; exact h5
  have h6 : σ1.2 (m + 6) = some ((gw_I (gw_z X) 162 f6)) := by rw [eσ1, gw_up_ne (by omega)]; exact h6
  have h7 : σ1.2 (m + 7) = some ((gw_I (gw_z X) 54 f7)) := by rw [eσ1, gw_up_ne (by omega)]; exact h7
  have h8 : σ1.2 (m + 8) = some ((gw_J (gw_z X) 148 (fun j => iL (A.wt j)))) := by rw [eσ1, gw_up_ne (by omega)]; exact h8
  have h9 : σ1.2 (m + 9) = some ((gw_J (gw_z X) 148 (fun j => iL (A.tt j)))) := by rw [eσ1, gw_up_ne (by omega)]; exact h9
  have h10 : σ1.2 (m + 10) = some ((gw_J (gw_z X) 24 f10)) := by rw [eσ1, gw_up_ne (by omega)]; exact h10
  have h11 : σ1.2 (m + 11) = some ((gw_I (gw_z X) 6 f11)) := by rw [eσ1, gw_up_ne (by omega)]; exact h11
  have h12 : σ1.2 (m + 12) = some ((gw_J (gw_z X) 7 f12)) := by rw [eσ1, gw_up_ne (by omega)]; exact h12
  have fr : gw_fr σ σ1 m (m + 13) := gw_fr_tr fr (show gw_fr _ σ1 m (m + 13) by rw [eσ1]; exact gw_fr_up _ _ _ (by omega) (by omega))
  refine gw_aload_n hX nd_Mo_passes_5 rfl 0 rfl ?_
  refine gw_get hX kf_Mo_99 nd_Mo_passes_6 h0 rfl ?_
  exact gw_iret hX hQ hr nd_Mo_passes_9 (by decide) (by decide) ⟨rfl, ⟨_, _, _, _, _, _, _, _, _, _, ⟨h0, h1, h2, h3, h4, ⟨_, h5⟩, ⟨_, h6⟩, ⟨_, h7⟩, h8, h9, ⟨_, h10⟩, ⟨_, h11⟩, ⟨_, h12, hz12⟩⟩, hO⟩, (fun b hb9 => fr.2 b (by omega))⟩
