theorem ab_sent_j {A : ab_A} {x : Int32} {ws : List px_W} (h0 : ¬ x < 0) (h : ab_sent A x = some ws) : ∃ j, x = nI j ∧ A.ss[j]? = some ws := by
  obtain ⟨j, hj, rfl⟩ := nI_of h0
  unfold ab_sent at h
  have h1 : ¬ nI j = -1 := by
    intro e
    rw [e] at h0
    exact h0 (by decide)
  rw [if_neg h1, if_neg h0, nI_clamp hj] at h
  exact ⟨j, rfl, h⟩
theorem ab_given_neg {A : ab_A} {x y : Int32} (h : x < 0) : ab_given A x y = none := by
  by_cases e : x = -1
  · rw [e]; exact ab_given_1
  · refine ab_given_s ?_
    unfold ab_sent
    rw [if_neg e, if_pos h]
theorem ab_word_neg {ws : List px_W} {y : Int32} (h : y < 0) : ab_word ws y = none := by unfold ab_word; rw [if_pos h]
theorem ab_given_y {A : ab_A} {x y : Int32} (h : y < 0) : ab_given A x y = none := by
  cases e : ab_sent A x with
  | none => exact ab_given_s e
  | some ws => exact ab_given_w e (ab_word_neg h)
theorem ab_feat_y {A : ab_A} {x y z : Int32} (h : y < 0) : ab_feat A x y z = none := by
  cases e : ab_sent A x with
  | none => exact ab_feat_s e
  | some ws => exact ab_feat_w e (ab_word_neg h)
theorem i3_of {z : Int32} (h : ¬ z ≤ nI 2) : nI 3 ≤ z := by
  rw [Int32.le_iff_toInt_le] at h ⊢
  have e1 : (nI 2).toInt = 2 := by decide
  have e2 : (nI 3).toInt = 3 := by decide
  omega
theorem i37_of {z : Int32} (h : nI 36 < z) : nI 37 ≤ z := by
  rw [Int32.lt_iff_toInt_lt] at h
  rw [Int32.le_iff_toInt_le]
  have e1 : (nI 36).toInt = 36 := by decide
  have e2 : (nI 37).toInt = 37 := by decide
  omega
theorem i4_of {z : Int32} (h : ¬ z ≤ nI 3) : ¬ z < nI 4 := by
  rw [Int32.le_iff_toInt_le] at h
  rw [Int32.lt_iff_toInt_lt]
  have e1 : (nI 3).toInt = 3 := by decide
  have e2 : (nI 4).toInt = 4 := by decide
  omega
theorem ab_label_0 {A : ab_A} {x : Int32} (h : A.kw = 0) : ab_label A x = none := by
  refine ab_label_no ?_
  rw [h]
  by_cases e : x < 0
  · exact Or.inl e
  · exact Or.inr e
set_option maxRecDepth 100000 in
set_option maxHeartbeats 4000000 in
theorem ct_Mo_given (l : Launch) (Z : gw_Z) (b0 : Nat) (σ : gw_S) (m : Nat) (A : ab_A) (hA : ab_ok A) {th rs be se kp kw : Int32} {bs s2 : Int64} {fm fb fl : Nat → Int32} (hM : mw_at σ Z m A th rs be se kp kw bs s2 fm fb fl) (hO : mw_ok A kp kw fm fb fl) (x y : Int32) : gw_M l ny_Mo_given nc_Mo_given (3, 2, 42, 0, 0) (some .int) Z b0 σ [.ref m, .int x, .int y] (fun v σ' => ((∃ q : Nat, ab_given A x y = some q ∧ v = some (.int (nI q)) ∧ mw σ' Z m A 0) ∨ (ab_given A x y = none ∧ v = some (.int (nI 0)) ∧ mw σ' Z m A 1)) ∧ (∀ b, b < m ∨ m + 13 ≤ b → σ'.2 b = σ.2 b)) := by
  refine gw_M_of rfl (Nat.le_of_ble_eq_true rfl) ?_
  intro X hX hl hz hb0 hr hnm hQ
  subst hz hb0 hl
  have hX : gw_ok X nc_Mo_given "LabelLearnerModel" (3, 2, 42, 0, 0) := hX
  show gw_W X σ 0 0 0 [(0, .ref m), (1, .int x), (2, .int y)] []
  have fr : gw_fr σ σ m (m + 13) := gw_fr_rf _ _ _
  obtain ⟨h0, h1, h2, h3, h4, ⟨f5, h5⟩, ⟨f6, h6⟩, ⟨f7, h7⟩, h8, h9, ⟨f10, h10⟩, ⟨f11, h11⟩, ⟨f12, h12, hz12⟩⟩ := id hM
  have hl8 := hA.2.2.1
  have hsp6 := hA.2.2.2.2.1.2
  refine gw_aload_n hX nd_Mo_given_0 rfl 0 rfl ?_
  refine gw_iload_n hX nd_Mo_given_1 rfl 1 rfl ?_
  refine gw_if_lt (tgt := 18) hX nd_Mo_given_2 rfl (fun hb => ?_) (fun hb => ?_)
  · skip
    have hx := hb
    refine gw_iconst (v := nI 1) hX nd_Mo_given_18 rfl ?_
    refine gw_goto (tgt := 23) hX nd_Mo_given_19 rfl ?_
    refine gw_put hX kf_Mo_51 nd_Mo_given_23 h0 rfl rfl (Nat.le_of_ble_eq_true rfl) (e' := .inr (1, [.int (nI 1), .int (nI A.len), .ref (m + 1), .int (nI A.ss.length), .ref (m + 2), .ref (m + 3), .ref (m + 4), .int rs, .ref (m + 5), .ref (m + 6), .ref (m + 7), .ref (m + 8), .ref (m + 9), .int (nI A.mk), .int (nI A.ps), .ref (m + 10), .ref (m + 11), .ref (m + 12), .long bs, .long s2, .int be, .int se, .int kp, .int kw])) rfl ?_
    obtain ⟨σ1, eσ1⟩ : ∃ hp_, hp_ = gw_up σ m (.inr (1, [.int (nI 1), .int (nI A.len), .ref (m + 1), .int (nI A.ss.length), .ref (m + 2), .ref (m + 3), .ref (m + 4), .int rs, .ref (m + 5), .ref (m + 6), .ref (m + 7), .ref (m + 8), .ref (m + 9), .int (nI A.mk), .int (nI A.ps), .ref (m + 10), .ref (m + 11), .ref (m + 12), .long bs, .long s2, .int be, .int se, .int kp, .int kw])) := ⟨_, rfl⟩
    refine gw_heap eσ1.symm ?_
    have h0 : σ1.2 m = some (.inr (1, [.int (nI 1), .int (nI A.len), .ref (m + 1), .int (nI A.ss.length), .ref (m + 2), .ref (m + 3), .ref (m + 4), .int rs, .ref (m + 5), .ref (m + 6), .ref (m + 7), .ref (m + 8), .ref (m + 9), .int (nI A.mk), .int (nI A.ps), .ref (m + 10), .ref (m + 11), .ref (m + 12), .long bs, .long s2, .int be, .int se, .int kp, .int kw])) := by rw [eσ1]; exact gw_up_eq _ _ _
    have h1 : σ1.2 (m + 1) = some ((gw_I (gw_z X) 240 (fun j => nI (A.ch j)))) := by rw [eσ1, gw_up_ne (by omega)]; exact h1
    have h2 : σ1.2 (m + 2) = some ((gw_I (gw_z X) 9 fm)) := by rw [eσ1, gw_up_ne (by omega)]; exact h2
    have h3 : σ1.2 (m + 3) = some ((gw_I (gw_z X) 162 fb)) := by rw [eσ1, gw_up_ne (by omega)]; exact h3
    have h4 : σ1.2 (m + 4) = some ((gw_I (gw_z X) 54 fl)) := by rw [eσ1, gw_up_ne (by omega)]; exact h4
    have h5 : σ1.2 (m + 5) = some ((gw_I (gw_z X) 9 f5)) := by rw [eσ1, gw_up_ne (by omega)]; exact h5
    have h6 : σ1.2 (m + 6) = some ((gw_I (gw_z X) 162 f6)) := by rw [eσ1, gw_up_ne (by omega)]; exact h6
    have h7 : σ1.2 (m + 7) = some ((gw_I (gw_z X) 54 f7)) := by rw [eσ1, gw_up_ne (by omega)]; exact h7
    have h8 : σ1.2 (m + 8) = some ((gw_J (gw_z X) 148 (fun j => iL (A.wt j)))) := by rw [eσ1, gw_up_ne (by omega)]; exact h8
    have h9 : σ1.2 (m + 9) = some ((gw_J (gw_z X) 148 (fun j => iL (A.tt j)))) := by rw [eσ1, gw_up_ne (by omega)]; exact h9
    have h10 : σ1.2 (m + 10) = some ((gw_J (gw_z X) 24 f10)) := by rw [eσ1, gw_up_ne (by omega)]; exact h10
    have h11 : σ1.2 (m + 11) = some ((gw_I (gw_z X) 6 f11)) := by rw [eσ1, gw_up_ne (by omega)]; exact h11
    have h12 : σ1.2 (m + 12) = some ((gw_J (gw_z X) 7 f12)) := by rw [eσ1, gw_up_ne (by omega)]; exact h12
    have fr : gw_fr σ σ1 m (m + 13) := gw_fr_tr fr (show gw_fr _ σ1 m (m + 13) by rw [eσ1]; exact gw_fr_up _ _ _ (by omega) (by omega))
    refine gw_aload_n hX nd_Mo_given_26 rfl 0 rfl ?_
    refine gw_get hX kf_Mo_51 nd_Mo_given_27 h0 rfl ?_
    refine gw_if_le (tgt := 37) hX nd_Mo_given_30 rfl (fun hb => ?_) (fun hb => ?_)
    · have hb : 1 ≤ 0 := (nI_leI (a := 1) (b := 0) (by omega) (by omega)).mp hb
      exfalso; omega
    · have hb : ¬ 1 ≤ 0 := fun h => hb ((nI_leI (a := 1) (b := 0) (by omega) (by omega)).mpr h)
      refine gw_iconst (v := nI 0) hX nd_Mo_given_33 rfl ?_
      refine gw_goto (tgt := 48) hX nd_Mo_given_34 rfl ?_
      exact gw_iret hX hQ hr nd_Mo_given_48 (by decide) (by decide) ⟨Or.inr ⟨ab_given_neg hx, rfl, ⟨_, _, _, _, _, _, _, _, _, _, ⟨h0, h1, h2, h3, h4, ⟨_, h5⟩, ⟨_, h6⟩, ⟨_, h7⟩, h8, h9, ⟨_, h10⟩, ⟨_, h11⟩, ⟨_, h12, hz12⟩⟩, hO⟩⟩, (fun b hb9 => fr.2 b (by omega))⟩
  · skip
    refine gw_iload_n hX nd_Mo_given_5 rfl 2 rfl ?_
    have hx0 := hb
    refine gw_if_lt (tgt := 18) hX nd_Mo_given_6 rfl (fun hb => ?_) (fun hb => ?_)
    · skip
      have hy := hb
      refine gw_iconst (v := nI 1) hX nd_Mo_given_18 rfl ?_
      refine gw_goto (tgt := 23) hX nd_Mo_given_19 rfl ?_
      refine gw_put hX kf_Mo_51 nd_Mo_given_23 h0 rfl rfl (Nat.le_of_ble_eq_true rfl) (e' := .inr (1, [.int (nI 1), .int (nI A.len), .ref (m + 1), .int (nI A.ss.length), .ref (m + 2), .ref (m + 3), .ref (m + 4), .int rs, .ref (m + 5), .ref (m + 6), .ref (m + 7), .ref (m + 8), .ref (m + 9), .int (nI A.mk), .int (nI A.ps), .ref (m + 10), .ref (m + 11), .ref (m + 12), .long bs, .long s2, .int be, .int se, .int kp, .int kw])) rfl ?_
      obtain ⟨σ2, eσ2⟩ : ∃ hp_, hp_ = gw_up σ m (.inr (1, [.int (nI 1), .int (nI A.len), .ref (m + 1), .int (nI A.ss.length), .ref (m + 2), .ref (m + 3), .ref (m + 4), .int rs, .ref (m + 5), .ref (m + 6), .ref (m + 7), .ref (m + 8), .ref (m + 9), .int (nI A.mk), .int (nI A.ps), .ref (m + 10), .ref (m + 11), .ref (m + 12), .long bs, .long s2, .int be, .int se, .int kp, .int kw])) := ⟨_, rfl⟩
      refine gw_heap eσ2.symm ?_
      have h0 : σ2.2 m = some (.inr (1, [.int (nI 1), .int (nI A.len), .ref (m + 1), .int (nI A.ss.length), .ref (m + 2), .ref (m + 3), .ref (m + 4), .int rs, .ref (m + 5), .ref (m + 6), .ref (m + 7), .ref (m + 8), .ref (m + 9), .int (nI A.mk), .int (nI A.ps), .ref (m + 10), .ref (m + 11), .ref (m + 12), .long bs, .long s2, .int be, .int se, .int kp, .int kw])) := by rw [eσ2]; exact gw_up_eq _ _ _
      have h1 : σ2.2 (m + 1) = some ((gw_I (gw_z X) 240 (fun j => nI (A.ch j)))) := by rw [eσ2, gw_up_ne (by omega)]; exact h1
      have h2 : σ2.2 (m + 2) = some ((gw_I (gw_z X) 9 fm)) := by rw [eσ2, gw_up_ne (by omega)]; exact h2
      have h3 : σ2.2 (m + 3) = some ((gw_I (gw_z X) 162 fb)) := by rw [eσ2, gw_up_ne (by omega)]; exact h3
      have h4 : σ2.2 (m + 4) = some ((gw_I (gw_z X) 54 fl)) := by rw [eσ2, gw_up_ne (by omega)]; exact h4
      have h5 : σ2.2 (m + 5) = some ((gw_I (gw_z X) 9 f5)) := by rw [eσ2, gw_up_ne (by omega)]; exact h5
      have h6 : σ2.2 (m + 6) = some ((gw_I (gw_z X) 162 f6)) := by rw [eσ2, gw_up_ne (by omega)]; exact h6
      have h7 : σ2.2 (m + 7) = some ((gw_I (gw_z X) 54 f7)) := by rw [eσ2, gw_up_ne (by omega)]; exact h7
      have h8 : σ2.2 (m + 8) = some ((gw_J (gw_z X) 148 (fun j => iL (A.wt j)))) := by rw [eσ2, gw_up_ne (by omega)]; exact h8
      have h9 : σ2.2 (m + 9) = some ((gw_J (gw_z X) 148 (fun j => iL (A.tt j)))) := by rw [eσ2, gw_up_ne (by omega)]; exact h9
      have h10 : σ2.2 (m + 10) = some ((gw_J (gw_z X) 24 f10)) := by rw [eσ2, gw_up_ne (by omega)]; exact h10
      have h11 : σ2.2 (m + 11) = some ((gw_I (gw_z X) 6 f11)) := by rw [eσ2, gw_up_ne (by omega)]; exact h11
      have h12 : σ2.2 (m + 12) = some ((gw_J (gw_z X) 7 f12)) := by rw [eσ2, gw_up_ne (by omega)]; exact h12
      have fr : gw_fr σ σ2 m (m + 13) := gw_fr_tr fr (show gw_fr _ σ2 m (m + 13) by rw [eσ2]; exact gw_fr_up _ _ _ (by omega) (by omega))
      refine gw_aload_n hX nd_Mo_given_26 rfl 0 rfl ?_
      refine gw_get hX kf_Mo_51 nd_Mo_given_27 h0 rfl ?_
      refine gw_if_le (tgt := 37) hX nd_Mo_given_30 rfl (fun hb => ?_) (fun hb => ?_)
      · have hb : 1 ≤ 0 := (nI_leI (a := 1) (b := 0) (by omega) (by omega)).mp hb
        exfalso; omega
      · have hb : ¬ 1 ≤ 0 := fun h => hb ((nI_leI (a := 1) (b := 0) (by omega) (by omega)).mpr h)
        refine gw_iconst (v := nI 0) hX nd_Mo_given_33 rfl ?_
        refine gw_goto (tgt := 48) hX nd_Mo_given_34 rfl ?_
        exact gw_iret hX hQ hr nd_Mo_given_48 (by decide) (by decide) ⟨Or.inr ⟨ab_given_y hy, rfl, ⟨_, _, _, _, _, _, _, _, _, _, ⟨h0, h1, h2, h3, h4, ⟨_, h5⟩, ⟨_, h6⟩, ⟨_, h7⟩, h8, h9, ⟨_, h10⟩, ⟨_, h11⟩, ⟨_, h12, hz12⟩⟩, hO⟩⟩, (fun b hb9 => fr.2 b (by omega))⟩
    · skip
      refine gw_iload_n hX nd_Mo_given_9 rfl 2 rfl ?_
      refine gw_aload_n hX nd_Mo_given_10 rfl 0 rfl ?_
      refine gw_iload_n hX nd_Mo_given_11 rfl 1 rfl ?_
      have hy0 := hb
      refine gw_callV (rest := [.int y, .ref m]) hX ks_Mo_105 (ct_Mo_wordsOf _ _ _ σ m A hA hM hO x) h0 rfl rfl (Nat.le_of_ble_eq_true rfl) nd_Mo_given_12 (by decide) ?_
      rintro v_ s_ ⟨hor, hs_⟩
      have hs_ := hs_.symm
      subst hs_
      rcases hor with ⟨ws, hws, rfl⟩ | ⟨hno, rfl⟩
      · show gw_W X σ 0 0 15 [(0, .ref m), (1, .int x), (2, .int y)] [.int (nI ws.length), .int y, .ref m]
        obtain ⟨⟨hso, hsl6⟩, hne⟩ := ab_sent_ok hA hws
        refine gw_icmp_lt (tgt := 22) hX nd_Mo_given_15 rfl (fun hb => ?_) (fun hb => ?_)
        · skip
          have hxm : ¬ x = -1 := fun e => hx0 (by rw [e]; decide)
          obtain ⟨w, hw, rfl⟩ := ix_of (K := ws.length) (by omega) hy0 hb
          obtain ⟨j, rfl, hj⟩ := ab_sent_j hx0 hws
          have hj8 := (List.getElem?_eq_some_iff.mp hj).1
          refine gw_iconst (v := nI 0) hX nd_Mo_given_22 rfl ?_
          refine gw_put hX kf_Mo_51 nd_Mo_given_23 h0 rfl rfl (Nat.le_of_ble_eq_true rfl) (e' := .inr (1, [.int (nI 0), .int (nI A.len), .ref (m + 1), .int (nI A.ss.length), .ref (m + 2), .ref (m + 3), .ref (m + 4), .int rs, .ref (m + 5), .ref (m + 6), .ref (m + 7), .ref (m + 8), .ref (m + 9), .int (nI A.mk), .int (nI A.ps), .ref (m + 10), .ref (m + 11), .ref (m + 12), .long bs, .long s2, .int be, .int se, .int kp, .int kw])) rfl ?_
          obtain ⟨σ3, eσ3⟩ : ∃ hp_, hp_ = gw_up σ m (.inr (1, [.int (nI 0), .int (nI A.len), .ref (m + 1), .int (nI A.ss.length), .ref (m + 2), .ref (m + 3), .ref (m + 4), .int rs, .ref (m + 5), .ref (m + 6), .ref (m + 7), .ref (m + 8), .ref (m + 9), .int (nI A.mk), .int (nI A.ps), .ref (m + 10), .ref (m + 11), .ref (m + 12), .long bs, .long s2, .int be, .int se, .int kp, .int kw])) := ⟨_, rfl⟩
          refine gw_heap eσ3.symm ?_
          have h0 : σ3.2 m = some (.inr (1, [.int (nI 0), .int (nI A.len), .ref (m + 1), .int (nI A.ss.length), .ref (m + 2), .ref (m + 3), .ref (m + 4), .int rs, .ref (m + 5), .ref (m + 6), .ref (m + 7), .ref (m + 8), .ref (m + 9), .int (nI A.mk), .int (nI A.ps), .ref (m + 10), .ref (m + 11), .ref (m + 12), .long bs, .long s2, .int be, .int se, .int kp, .int kw])) := by rw [eσ3]; exact gw_up_eq _ _ _
          have h1 : σ3.2 (m + 1) = some ((gw_I (gw_z X) 240 (fun j => nI (A.ch j)))) := by rw [eσ3, gw_up_ne (by omega)]; exact h1
          have h2 : σ3.2 (m + 2) = some ((gw_I (gw_z X) 9 fm)) := by rw [eσ3, gw_up_ne (by omega)]; exact h2
          have h3 : σ3.2 (m + 3) = some ((gw_I (gw_z X) 162 fb)) := by rw [eσ3, gw_up_ne (by omega)]; exact h3
          have h4 : σ3.2 (m + 4) = some ((gw_I (gw_z X) 54 fl)) := by rw [eσ3, gw_up_ne (by omega)]; exact h4
          have h5 : σ3.2 (m + 5) = some ((gw_I (gw_z X) 9 f5)) := by rw [eσ3, gw_up_ne (by omega)]; exact h5
          have h6 : σ3.2 (m + 6) = some ((gw_I (gw_z X) 162 f6)) := by rw [eσ3, gw_up_ne (by omega)]; exact h6
          have h7 : σ3.2 (m + 7) = some ((gw_I (gw_z X) 54 f7)) := by rw [eσ3, gw_up_ne (by omega)]; exact h7
          have h8 : σ3.2 (m + 8) = some ((gw_J (gw_z X) 148 (fun j => iL (A.wt j)))) := by rw [eσ3, gw_up_ne (by omega)]; exact h8
          have h9 : σ3.2 (m + 9) = some ((gw_J (gw_z X) 148 (fun j => iL (A.tt j)))) := by rw [eσ3, gw_up_ne (by omega)]; exact h9
          have h10 : σ3.2 (m + 10) = some ((gw_J (gw_z X) 24 f10)) := by rw [eσ3, gw_up_ne (by omega)]; exact h10
          have h11 : σ3.2 (m + 11) = some ((gw_I (gw_z X) 6 f11)) := by rw [eσ3, gw_up_ne (by omega)]; exact h11
          have h12 : σ3.2 (m + 12) = some ((gw_J (gw_z X) 7 f12)) := by rw [eσ3, gw_up_ne (by omega)]; exact h12
          have fr : gw_fr σ σ3 m (m + 13) := gw_fr_tr fr (show gw_fr _ σ3 m (m + 13) by rw [eσ3]; exact gw_fr_up _ _ _ (by omega) (by omega))
          refine gw_aload_n hX nd_Mo_given_26 rfl 0 rfl ?_
          refine gw_get hX kf_Mo_51 nd_Mo_given_27 h0 rfl ?_
          refine gw_if_le (tgt := 37) hX nd_Mo_given_30 rfl (fun hb => ?_) (fun hb => ?_)
          · have hb : 0 ≤ 0 := (nI_leI (a := 0) (b := 0) (by omega) (by omega)).mp hb
            refine gw_aload_n hX nd_Mo_given_37 rfl 0 rfl ?_
            refine gw_get hX kf_Mo_19 nd_Mo_given_38 h0 rfl ?_
            refine gw_bipush (v := nI 6) hX nd_Mo_given_41 rfl ?_
            refine gw_iload_n hX nd_Mo_given_43 rfl 1 rfl ?_
            refine gw_imul hX nd_Mo_given_44 ?_
            refine gw_topi (y := nI (6 * j)) (pk_mul _ _) ?_
            refine gw_iload_n hX nd_Mo_given_45 rfl 2 rfl ?_
            refine gw_iadd hX nd_Mo_given_46 ?_
            refine gw_topi (y := nI (6 * j + w)) (nI_add _ _) ?_
            refine gw_iald hX nd_Mo_given_47 h4 (6 * j + w) rfl (by omega) (by decide) ?_
            refine gw_topi (y := nI (ws[w].2.2.2)) ((hO.1 j ws hj).2 w _ (List.getElem?_eq_getElem hw)) ?_
            exact gw_iret hX hQ hr nd_Mo_given_48 (by decide) (by decide) ⟨Or.inl ⟨_, ab_given_of hxm hws hw hsl6, rfl, ⟨_, _, _, _, _, _, _, _, _, _, ⟨h0, h1, h2, h3, h4, ⟨_, h5⟩, ⟨_, h6⟩, ⟨_, h7⟩, h8, h9, ⟨_, h10⟩, ⟨_, h11⟩, ⟨_, h12, hz12⟩⟩, hO⟩⟩, (fun b hb9 => fr.2 b (by omega))⟩
          · have hb : ¬ 0 ≤ 0 := fun h => hb ((nI_leI (a := 0) (b := 0) (by omega) (by omega)).mpr h)
            exfalso; omega
        · skip
          have hyl := hb
          refine gw_iconst (v := nI 1) hX nd_Mo_given_18 rfl ?_
          refine gw_goto (tgt := 23) hX nd_Mo_given_19 rfl ?_
          refine gw_put hX kf_Mo_51 nd_Mo_given_23 h0 rfl rfl (Nat.le_of_ble_eq_true rfl) (e' := .inr (1, [.int (nI 1), .int (nI A.len), .ref (m + 1), .int (nI A.ss.length), .ref (m + 2), .ref (m + 3), .ref (m + 4), .int rs, .ref (m + 5), .ref (m + 6), .ref (m + 7), .ref (m + 8), .ref (m + 9), .int (nI A.mk), .int (nI A.ps), .ref (m + 10), .ref (m + 11), .ref (m + 12), .long bs, .long s2, .int be, .int se, .int kp, .int kw])) rfl ?_
          obtain ⟨σ4, eσ4⟩ : ∃ hp_, hp_ = gw_up σ m (.inr (1, [.int (nI 1), .int (nI A.len), .ref (m + 1), .int (nI A.ss.length), .ref (m + 2), .ref (m + 3), .ref (m + 4), .int rs, .ref (m + 5), .ref (m + 6), .ref (m + 7), .ref (m + 8), .ref (m + 9), .int (nI A.mk), .int (nI A.ps), .ref (m + 10), .ref (m + 11), .ref (m + 12), .long bs, .long s2, .int be, .int se, .int kp, .int kw])) := ⟨_, rfl⟩
          refine gw_heap eσ4.symm ?_
          have h0 : σ4.2 m = some (.inr (1, [.int (nI 1), .int (nI A.len), .ref (m + 1), .int (nI A.ss.length), .ref (m + 2), .ref (m + 3), .ref (m + 4), .int rs, .ref (m + 5), .ref (m + 6), .ref (m + 7), .ref (m + 8), .ref (m + 9), .int (nI A.mk), .int (nI A.ps), .ref (m + 10), .ref (m + 11), .ref (m + 12), .long bs, .long s2, .int be, .int se, .int kp, .int kw])) := by rw [eσ4]; exact gw_up_eq _ _ _
          have h1 : σ4.2 (m + 1) = some ((gw_I (gw_z X) 240 (fun j => nI (A.ch j)))) := by rw [eσ4, gw_up_ne (by omega)]; exact h1
          have h2 : σ4.2 (m + 2) = some ((gw_I (gw_z X) 9 fm)) := by rw [eσ4, gw_up_ne (by omega)]; exact h2
          have h3 : σ4.2 (m + 3) = some ((gw_I (gw_z X) 162 fb)) := by rw [eσ4, gw_up_ne (by omega)]; exact h3
          have h4 : σ4.2 (m + 4) = some ((gw_I (gw_z X) 54 fl)) := by rw [eσ4, gw_up_ne (by omega)]; exact h4
          have h5 : σ4.2 (m + 5) = some ((gw_I (gw_z X) 9 f5)) := by rw [eσ4, gw_up_ne (by omega)]; exact h5
          have h6 : σ4.2 (m + 6) = some ((gw_I (gw_z X) 162 f6)) := by rw [eσ4, gw_up_ne (by omega)]; exact h6
          have h7 : σ4.2 (m + 7) = some ((gw_I (gw_z X) 54 f7)) := by rw [eσ4, gw_up_ne (by omega)]; exact h7
          have h8 : σ4.2 (m + 8) = some ((gw_J (gw_z X) 148 (fun j => iL (A.wt j)))) := by rw [eσ4, gw_up_ne (by omega)]; exact h8
          have h9 : σ4.2 (m + 9) = some ((gw_J (gw_z X) 148 (fun j => iL (A.tt j)))) := by rw [eσ4, gw_up_ne (by omega)]; exact h9
          have h10 : σ4.2 (m + 10) = some ((gw_J (gw_z X) 24 f10)) := by rw [eσ4, gw_up_ne (by omega)]; exact h10
          have h11 : σ4.2 (m + 11) = some ((gw_I (gw_z X) 6 f11)) := by rw [eσ4, gw_up_ne (by omega)]; exact h11
          have h12 : σ4.2 (m + 12) = some ((gw_J (gw_z X) 7 f12)) := by rw [eσ4, gw_up_ne (by omega)]; exact h12
          have fr : gw_fr σ σ4 m (m + 13) := gw_fr_tr fr (show gw_fr _ σ4 m (m + 13) by rw [eσ4]; exact gw_fr_up _ _ _ (by omega) (by omega))
          refine gw_aload_n hX nd_Mo_given_26 rfl 0 rfl ?_
          refine gw_get hX kf_Mo_51 nd_Mo_given_27 h0 rfl ?_
          refine gw_if_le (tgt := 37) hX nd_Mo_given_30 rfl (fun hb => ?_) (fun hb => ?_)
          · have hb : 1 ≤ 0 := (nI_leI (a := 1) (b := 0) (by omega) (by omega)).mp hb
            exfalso; omega
          · have hb : ¬ 1 ≤ 0 := fun h => hb ((nI_leI (a := 1) (b := 0) (by omega) (by omega)).mpr h)
            refine gw_iconst (v := nI 0) hX nd_Mo_given_33 rfl ?_
            refine gw_goto (tgt := 48) hX nd_Mo_given_34 rfl ?_
            exact gw_iret hX hQ hr nd_Mo_given_48 (by decide) (by decide) ⟨Or.inr ⟨ab_given_w hws (ab_word_no hsl6 (Or.inr hyl)), rfl, ⟨_, _, _, _, _, _, _, _, _, _, ⟨h0, h1, h2, h3, h4, ⟨_, h5⟩, ⟨_, h6⟩, ⟨_, h7⟩, h8, h9, ⟨_, h10⟩, ⟨_, h11⟩, ⟨_, h12, hz12⟩⟩, hO⟩⟩, (fun b hb9 => fr.2 b (by omega))⟩
      · show gw_W X σ 0 0 15 [(0, .ref m), (1, .int x), (2, .int y)] [.int (nI 0), .int y, .ref m]
        refine gw_icmp_lt (tgt := 22) hX nd_Mo_given_15 rfl (fun hb => ?_) (fun hb => ?_)
        · skip
          exact absurd hb hy0
        · skip
          refine gw_iconst (v := nI 1) hX nd_Mo_given_18 rfl ?_
          refine gw_goto (tgt := 23) hX nd_Mo_given_19 rfl ?_
          refine gw_put hX kf_Mo_51 nd_Mo_given_23 h0 rfl rfl (Nat.le_of_ble_eq_true rfl) (e' := .inr (1, [.int (nI 1), .int (nI A.len), .ref (m + 1), .int (nI A.ss.length), .ref (m + 2), .ref (m + 3), .ref (m + 4), .int rs, .ref (m + 5), .ref (m + 6), .ref (m + 7), .ref (m + 8), .ref (m + 9), .int (nI A.mk), .int (nI A.ps), .ref (m + 10), .ref (m + 11), .ref (m + 12), .long bs, .long s2, .int be, .int se, .int kp, .int kw])) rfl ?_
          obtain ⟨σ5, eσ5⟩ : ∃ hp_, hp_ = gw_up σ m (.inr (1, [.int (nI 1), .int (nI A.len), .ref (m + 1), .int (nI A.ss.length), .ref (m + 2), .ref (m + 3), .ref (m + 4), .int rs, .ref (m + 5), .ref (m + 6), .ref (m + 7), .ref (m + 8), .ref (m + 9), .int (nI A.mk), .int (nI A.ps), .ref (m + 10), .ref (m + 11), .ref (m + 12), .long bs, .long s2, .int be, .int se, .int kp, .int kw])) := ⟨_, rfl⟩
          refine gw_heap eσ5.symm ?_
          have h0 : σ5.2 m = some (.inr (1, [.int (nI 1), .int (nI A.len), .ref (m + 1), .int (nI A.ss.length), .ref (m + 2), .ref (m + 3), .ref (m + 4), .int rs, .ref (m + 5), .ref (m + 6), .ref (m + 7), .ref (m + 8), .ref (m + 9), .int (nI A.mk), .int (nI A.ps), .ref (m + 10), .ref (m + 11), .ref (m + 12), .long bs, .long s2, .int be, .int se, .int kp, .int kw])) := by rw [eσ5]; exact gw_up_eq _ _ _
          have h1 : σ5.2 (m + 1) = some ((gw_I (gw_z X) 240 (fun j => nI (A.ch j)))) := by rw [eσ5, gw_up_ne (by omega)]; exact h1
          have h2 : σ5.2 (m + 2) = some ((gw_I (gw_z X) 9 fm)) := by rw [eσ5, gw_up_ne (by omega)]; exact h2
          have h3 : σ5.2 (m + 3) = some ((gw_I (gw_z X) 162 fb)) := by rw [eσ5, gw_up_ne (by omega)]; exact h3
          have h4 : σ5.2 (m + 4) = some ((gw_I (gw_z X) 54 fl)) := by rw [eσ5, gw_up_ne (by omega)]; exact h4
          have h5 : σ5.2 (m + 5) = some ((gw_I (gw_z X) 9 f5)) := by rw [eσ5, gw_up_ne (by omega)]; exact h5
          have h6 : σ5.2 (m + 6) = some ((gw_I (gw_z X) 162 f6)) := by rw [eσ5, gw_up_ne (by omega)]; exact h6
          have h7 : σ5.2 (m + 7) = some ((gw_I (gw_z X) 54 f7)) := by rw [eσ5, gw_up_ne (by omega)]; exact h7
          have h8 : σ5.2 (m + 8) = some ((gw_J (gw_z X) 148 (fun j => iL (A.wt j)))) := by rw [eσ5, gw_up_ne (by omega)]; exact h8
          have h9 : σ5.2 (m + 9) = some ((gw_J (gw_z X) 148 (fun j => iL (A.tt j)))) := by rw [eσ5, gw_up_ne (by omega)]; exact h9
          have h10 : σ5.2 (m + 10) = some ((gw_J (gw_z X) 24 f10)) := by rw [eσ5, gw_up_ne (by omega)]; exact h10
          have h11 : σ5.2 (m + 11) = some ((gw_I (gw_z X) 6 f11)) := by rw [eσ5, gw_up_ne (by omega)]; exact h11
          have h12 : σ5.2 (m + 12) = some ((gw_J (gw_z X) 7 f12)) := by rw [eσ5, gw_up_ne (by omega)]; exact h12
          have fr : gw_fr σ σ5 m (m + 13) := gw_fr_tr fr (show gw_fr _ σ5 m (m + 13) by rw [eσ5]; exact gw_fr_up _ _ _ (by omega) (by omega))
          refine gw_aload_n hX nd_Mo_given_26 rfl 0 rfl ?_
          refine gw_get hX kf_Mo_51 nd_Mo_given_27 h0 rfl ?_
          refine gw_if_le (tgt := 37) hX nd_Mo_given_30 rfl (fun hb => ?_) (fun hb => ?_)
          · have hb : 1 ≤ 0 := (nI_leI (a := 1) (b := 0) (by omega) (by omega)).mp hb
            exfalso; omega
          · have hb : ¬ 1 ≤ 0 := fun h => hb ((nI_leI (a := 1) (b := 0) (by omega) (by omega)).mpr h)
            refine gw_iconst (v := nI 0) hX nd_Mo_given_33 rfl ?_
            refine gw_goto (tgt := 48) hX nd_Mo_given_34 rfl ?_
            exact gw_iret hX hQ hr nd_Mo_given_48 (by decide) (by decide) ⟨Or.inr ⟨ab_given_s hno, rfl, ⟨_, _, _, _, _, _, _, _, _, _, ⟨h0, h1, h2, h3, h4, ⟨_, h5⟩, ⟨_, h6⟩, ⟨_, h7⟩, h8, h9, ⟨_, h10⟩, ⟨_, h11⟩, ⟨_, h12, hz12⟩⟩, hO⟩⟩, (fun b hb9 => fr.2 b (by omega))⟩
set_option maxRecDepth 100000 in
set_option maxHeartbeats 4000000 in
theorem ct_Mo_feature (l : Launch) (Z : gw_Z) (b0 : Nat) (σ : gw_S) (m : Nat) (A : ab_A) (hA : ab_ok A) {th rs be se kp kw : Int32} {bs s2 : Int64} {fm fb fl : Nat → Int32} (hM : mw_at σ Z m A th rs be se kp kw bs s2 fm fb fl) (hO : mw_ok A kp kw fm fb fl) (x y z : Int32) : gw_M l ny_Mo_feature nc_Mo_feature (4, 2, 42, 0, 0) (some .int) Z b0 σ [.ref m, .int x, .int y, .int z] (fun v σ' => ((∃ q : Nat, ab_feat A x y z = some q ∧ v = some (.int (nI q)) ∧ mw σ' Z m A 0) ∨ (ab_feat A x y z = none ∧ v = some (.int (nI 0)) ∧ mw σ' Z m A 1)) ∧ (∀ b, b < m ∨ m + 13 ≤ b → σ'.2 b = σ.2 b)) := by
  refine gw_M_of rfl (Nat.le_of_ble_eq_true rfl) ?_
  intro X hX hl hz hb0 hr hnm hQ
  subst hz hb0 hl
  have hX : gw_ok X nc_Mo_feature "LabelLearnerModel" (4, 2, 42, 0, 0) := hX
  show gw_W X σ 0 0 0 [(0, .ref m), (1, .int x), (2, .int y), (3, .int z)] []
  have fr : gw_fr σ σ m (m + 13) := gw_fr_rf _ _ _
  obtain ⟨h0, h1, h2, h3, h4, ⟨f5, h5⟩, ⟨f6, h6⟩, ⟨f7, h7⟩, h8, h9, ⟨f10, h10⟩, ⟨f11, h11⟩, ⟨f12, h12, hz12⟩⟩ := id hM
  have hl8 := hA.2.2.1
  have hsp6 := hA.2.2.2.2.1.2
  refine gw_aload_n hX nd_Mo_feature_0 rfl 0 rfl ?_
  refine gw_iload_n hX nd_Mo_feature_1 rfl 2 rfl ?_
  refine gw_if_lt (tgt := 23) hX nd_Mo_feature_2 rfl (fun hb => ?_) (fun hb => ?_)
  · skip
    have hy := hb
    refine gw_iconst (v := nI 1) hX nd_Mo_feature_23 rfl ?_
    refine gw_goto (tgt := 28) hX nd_Mo_feature_24 rfl ?_
    refine gw_put hX kf_Mo_51 nd_Mo_feature_28 h0 rfl rfl (Nat.le_of_ble_eq_true rfl) (e' := .inr (1, [.int (nI 1), .int (nI A.len), .ref (m + 1), .int (nI A.ss.length), .ref (m + 2), .ref (m + 3), .ref (m + 4), .int rs, .ref (m + 5), .ref (m + 6), .ref (m + 7), .ref (m + 8), .ref (m + 9), .int (nI A.mk), .int (nI A.ps), .ref (m + 10), .ref (m + 11), .ref (m + 12), .long bs, .long s2, .int be, .int se, .int kp, .int kw])) rfl ?_
    obtain ⟨σ1, eσ1⟩ : ∃ hp_, hp_ = gw_up σ m (.inr (1, [.int (nI 1), .int (nI A.len), .ref (m + 1), .int (nI A.ss.length), .ref (m + 2), .ref (m + 3), .ref (m + 4), .int rs, .ref (m + 5), .ref (m + 6), .ref (m + 7), .ref (m + 8), .ref (m + 9), .int (nI A.mk), .int (nI A.ps), .ref (m + 10), .ref (m + 11), .ref (m + 12), .long bs, .long s2, .int be, .int se, .int kp, .int kw])) := ⟨_, rfl⟩
    refine gw_heap eσ1.symm ?_
    have h0 : σ1.2 m = some (.inr (1, [.int (nI 1), .int (nI A.len), .ref (m + 1), .int (nI A.ss.length), .ref (m + 2), .ref (m + 3), .ref (m + 4), .int rs, .ref (m + 5), .ref (m + 6), .ref (m + 7), .ref (m + 8), .ref (m + 9), .int (nI A.mk), .int (nI A.ps), .ref (m + 10), .ref (m + 11), .ref (m + 12), .long bs, .long s2, .int be, .int se, .int kp, .int kw])) := by rw [eσ1]; exact gw_up_eq _ _ _
    have h1 : σ1.2 (m + 1) = some ((gw_I (gw_z X) 240 (fun j => nI (A.ch j)))) := by rw [eσ1, gw_up_ne (by omega)]; exact h1
    have h2 : σ1.2 (m + 2) = some ((gw_I (gw_z X) 9 fm)) := by rw [eσ1, gw_up_ne (by omega)]; exact h2
    have h3 : σ1.2 (m + 3) = some ((gw_I (gw_z X) 162 fb)) := by rw [eσ1, gw_up_ne (by omega)]; exact h3
    have h4 : σ1.2 (m + 4) = some ((gw_I (gw_z X) 54 fl)) := by rw [eσ1, gw_up_ne (by omega)]; exact h4
    have h5 : σ1.2 (m + 5) = some ((gw_I (gw_z X) 9 f5)) := by rw [eσ1, gw_up_ne (by omega)]; exact h5
    have h6 : σ1.2 (m + 6) = some ((gw_I (gw_z X) 162 f6)) := by rw [eσ1, gw_up_ne (by omega)]; exact h6
    have h7 : σ1.2 (m + 7) = some ((gw_I (gw_z X) 54 f7)) := by rw [eσ1, gw_up_ne (by omega)]; exact h7
    have h8 : σ1.2 (m + 8) = some ((gw_J (gw_z X) 148 (fun j => iL (A.wt j)))) := by rw [eσ1, gw_up_ne (by omega)]; exact h8
    have h9 : σ1.2 (m + 9) = some ((gw_J (gw_z X) 148 (fun j => iL (A.tt j)))) := by rw [eσ1, gw_up_ne (by omega)]; exact h9
    have h10 : σ1.2 (m + 10) = some ((gw_J (gw_z X) 24 f10)) := by rw [eσ1, gw_up_ne (by omega)]; exact h10
    have h11 : σ1.2 (m + 11) = some ((gw_I (gw_z X) 6 f11)) := by rw [eσ1, gw_up_ne (by omega)]; exact h11
    have h12 : σ1.2 (m + 12) = some ((gw_J (gw_z X) 7 f12)) := by rw [eσ1, gw_up_ne (by omega)]; exact h12
    have fr : gw_fr σ σ1 m (m + 13) := gw_fr_tr fr (show gw_fr _ σ1 m (m + 13) by rw [eσ1]; exact gw_fr_up _ _ _ (by omega) (by omega))
    refine gw_aload_n hX nd_Mo_feature_31 rfl 0 rfl ?_
    refine gw_get hX kf_Mo_51 nd_Mo_feature_32 h0 rfl ?_
    refine gw_if_le (tgt := 42) hX nd_Mo_feature_35 rfl (fun hb => ?_) (fun hb => ?_)
    · have hb : 1 ≤ 0 := (nI_leI (a := 1) (b := 0) (by omega) (by omega)).mp hb
      exfalso; omega
    · have hb : ¬ 1 ≤ 0 := fun h => hb ((nI_leI (a := 1) (b := 0) (by omega) (by omega)).mpr h)
      refine gw_iconst (v := nI 0) hX nd_Mo_feature_38 rfl ?_
      refine gw_goto (tgt := 61) hX nd_Mo_feature_39 rfl ?_
      exact gw_iret hX hQ hr nd_Mo_feature_61 (by decide) (by decide) ⟨Or.inr ⟨ab_feat_y hy, rfl, ⟨_, _, _, _, _, _, _, _, _, _, ⟨h0, h1, h2, h3, h4, ⟨_, h5⟩, ⟨_, h6⟩, ⟨_, h7⟩, h8, h9, ⟨_, h10⟩, ⟨_, h11⟩, ⟨_, h12, hz12⟩⟩, hO⟩⟩, (fun b hb9 => fr.2 b (by omega))⟩
  · skip
    refine gw_iload_n hX nd_Mo_feature_5 rfl 2 rfl ?_
    refine gw_aload_n hX nd_Mo_feature_6 rfl 0 rfl ?_
    refine gw_iload_n hX nd_Mo_feature_7 rfl 1 rfl ?_
    have hy0 := hb
    refine gw_callV (rest := [.int y, .ref m]) hX ks_Mo_105 (ct_Mo_wordsOf _ _ _ σ m A hA hM hO x) h0 rfl rfl (Nat.le_of_ble_eq_true rfl) nd_Mo_feature_8 (by decide) ?_
    rintro v_ s_ ⟨hor, hs_⟩
    have hs_ := hs_.symm
    subst hs_
    rcases hor with ⟨ws, hws, rfl⟩ | ⟨hno, rfl⟩
    · show gw_W X σ 0 0 11 [(0, .ref m), (1, .int x), (2, .int y), (3, .int z)] [.int (nI ws.length), .int y, .ref m]
      obtain ⟨⟨hso, hsl6⟩, hne⟩ := ab_sent_ok hA hws
      refine gw_icmp_ge (tgt := 23) hX nd_Mo_feature_11 rfl (fun hb => ?_) (fun hb => ?_)
      · skip
        have hyl := hb
        refine gw_iconst (v := nI 1) hX nd_Mo_feature_23 rfl ?_
        refine gw_goto (tgt := 28) hX nd_Mo_feature_24 rfl ?_
        refine gw_put hX kf_Mo_51 nd_Mo_feature_28 h0 rfl rfl (Nat.le_of_ble_eq_true rfl) (e' := .inr (1, [.int (nI 1), .int (nI A.len), .ref (m + 1), .int (nI A.ss.length), .ref (m + 2), .ref (m + 3), .ref (m + 4), .int rs, .ref (m + 5), .ref (m + 6), .ref (m + 7), .ref (m + 8), .ref (m + 9), .int (nI A.mk), .int (nI A.ps), .ref (m + 10), .ref (m + 11), .ref (m + 12), .long bs, .long s2, .int be, .int se, .int kp, .int kw])) rfl ?_
        obtain ⟨σ2, eσ2⟩ : ∃ hp_, hp_ = gw_up σ m (.inr (1, [.int (nI 1), .int (nI A.len), .ref (m + 1), .int (nI A.ss.length), .ref (m + 2), .ref (m + 3), .ref (m + 4), .int rs, .ref (m + 5), .ref (m + 6), .ref (m + 7), .ref (m + 8), .ref (m + 9), .int (nI A.mk), .int (nI A.ps), .ref (m + 10), .ref (m + 11), .ref (m + 12), .long bs, .long s2, .int be, .int se, .int kp, .int kw])) := ⟨_, rfl⟩
        refine gw_heap eσ2.symm ?_
        have h0 : σ2.2 m = some (.inr (1, [.int (nI 1), .int (nI A.len), .ref (m + 1), .int (nI A.ss.length), .ref (m + 2), .ref (m + 3), .ref (m + 4), .int rs, .ref (m + 5), .ref (m + 6), .ref (m + 7), .ref (m + 8), .ref (m + 9), .int (nI A.mk), .int (nI A.ps), .ref (m + 10), .ref (m + 11), .ref (m + 12), .long bs, .long s2, .int be, .int se, .int kp, .int kw])) := by rw [eσ2]; exact gw_up_eq _ _ _
        have h1 : σ2.2 (m + 1) = some ((gw_I (gw_z X) 240 (fun j => nI (A.ch j)))) := by rw [eσ2, gw_up_ne (by omega)]; exact h1
        have h2 : σ2.2 (m + 2) = some ((gw_I (gw_z X) 9 fm)) := by rw [eσ2, gw_up_ne (by omega)]; exact h2
        have h3 : σ2.2 (m + 3) = some ((gw_I (gw_z X) 162 fb)) := by rw [eσ2, gw_up_ne (by omega)]; exact h3
        have h4 : σ2.2 (m + 4) = some ((gw_I (gw_z X) 54 fl)) := by rw [eσ2, gw_up_ne (by omega)]; exact h4
        have h5 : σ2.2 (m + 5) = some ((gw_I (gw_z X) 9 f5)) := by rw [eσ2, gw_up_ne (by omega)]; exact h5
        have h6 : σ2.2 (m + 6) = some ((gw_I (gw_z X) 162 f6)) := by rw [eσ2, gw_up_ne (by omega)]; exact h6
        have h7 : σ2.2 (m + 7) = some ((gw_I (gw_z X) 54 f7)) := by rw [eσ2, gw_up_ne (by omega)]; exact h7
        have h8 : σ2.2 (m + 8) = some ((gw_J (gw_z X) 148 (fun j => iL (A.wt j)))) := by rw [eσ2, gw_up_ne (by omega)]; exact h8
        have h9 : σ2.2 (m + 9) = some ((gw_J (gw_z X) 148 (fun j => iL (A.tt j)))) := by rw [eσ2, gw_up_ne (by omega)]; exact h9
        have h10 : σ2.2 (m + 10) = some ((gw_J (gw_z X) 24 f10)) := by rw [eσ2, gw_up_ne (by omega)]; exact h10
        have h11 : σ2.2 (m + 11) = some ((gw_I (gw_z X) 6 f11)) := by rw [eσ2, gw_up_ne (by omega)]; exact h11
        have h12 : σ2.2 (m + 12) = some ((gw_J (gw_z X) 7 f12)) := by rw [eσ2, gw_up_ne (by omega)]; exact h12
        have fr : gw_fr σ σ2 m (m + 13) := gw_fr_tr fr (show gw_fr _ σ2 m (m + 13) by rw [eσ2]; exact gw_fr_up _ _ _ (by omega) (by omega))
        refine gw_aload_n hX nd_Mo_feature_31 rfl 0 rfl ?_
        refine gw_get hX kf_Mo_51 nd_Mo_feature_32 h0 rfl ?_
        refine gw_if_le (tgt := 42) hX nd_Mo_feature_35 rfl (fun hb => ?_) (fun hb => ?_)
        · have hb : 1 ≤ 0 := (nI_leI (a := 1) (b := 0) (by omega) (by omega)).mp hb
          exfalso; omega
        · have hb : ¬ 1 ≤ 0 := fun h => hb ((nI_leI (a := 1) (b := 0) (by omega) (by omega)).mpr h)
          refine gw_iconst (v := nI 0) hX nd_Mo_feature_38 rfl ?_
          refine gw_goto (tgt := 61) hX nd_Mo_feature_39 rfl ?_
          exact gw_iret hX hQ hr nd_Mo_feature_61 (by decide) (by decide) ⟨Or.inr ⟨ab_feat_w hws (ab_word_no hsl6 (Or.inr (Int32.not_lt.mpr hyl))), rfl, ⟨_, _, _, _, _, _, _, _, _, _, ⟨h0, h1, h2, h3, h4, ⟨_, h5⟩, ⟨_, h6⟩, ⟨_, h7⟩, h8, h9, ⟨_, h10⟩, ⟨_, h11⟩, ⟨_, h12, hz12⟩⟩, hO⟩⟩, (fun b hb9 => fr.2 b (by omega))⟩
      · skip
        have hyl := hb
        refine gw_iload_n hX nd_Mo_feature_14 rfl 3 rfl ?_
        refine gw_if_lt (tgt := 23) hX nd_Mo_feature_15 rfl (fun hb => ?_) (fun hb => ?_)
        · skip
          have hzn := hb
          refine gw_iconst (v := nI 1) hX nd_Mo_feature_23 rfl ?_
          refine gw_goto (tgt := 28) hX nd_Mo_feature_24 rfl ?_
          refine gw_put hX kf_Mo_51 nd_Mo_feature_28 h0 rfl rfl (Nat.le_of_ble_eq_true rfl) (e' := .inr (1, [.int (nI 1), .int (nI A.len), .ref (m + 1), .int (nI A.ss.length), .ref (m + 2), .ref (m + 3), .ref (m + 4), .int rs, .ref (m + 5), .ref (m + 6), .ref (m + 7), .ref (m + 8), .ref (m + 9), .int (nI A.mk), .int (nI A.ps), .ref (m + 10), .ref (m + 11), .ref (m + 12), .long bs, .long s2, .int be, .int se, .int kp, .int kw])) rfl ?_
          obtain ⟨σ3, eσ3⟩ : ∃ hp_, hp_ = gw_up σ m (.inr (1, [.int (nI 1), .int (nI A.len), .ref (m + 1), .int (nI A.ss.length), .ref (m + 2), .ref (m + 3), .ref (m + 4), .int rs, .ref (m + 5), .ref (m + 6), .ref (m + 7), .ref (m + 8), .ref (m + 9), .int (nI A.mk), .int (nI A.ps), .ref (m + 10), .ref (m + 11), .ref (m + 12), .long bs, .long s2, .int be, .int se, .int kp, .int kw])) := ⟨_, rfl⟩
          refine gw_heap eσ3.symm ?_
          have h0 : σ3.2 m = some (.inr (1, [.int (nI 1), .int (nI A.len), .ref (m + 1), .int (nI A.ss.length), .ref (m + 2), .ref (m + 3), .ref (m + 4), .int rs, .ref (m + 5), .ref (m + 6), .ref (m + 7), .ref (m + 8), .ref (m + 9), .int (nI A.mk), .int (nI A.ps), .ref (m + 10), .ref (m + 11), .ref (m + 12), .long bs, .long s2, .int be, .int se, .int kp, .int kw])) := by rw [eσ3]; exact gw_up_eq _ _ _
          have h1 : σ3.2 (m + 1) = some ((gw_I (gw_z X) 240 (fun j => nI (A.ch j)))) := by rw [eσ3, gw_up_ne (by omega)]; exact h1
          have h2 : σ3.2 (m + 2) = some ((gw_I (gw_z X) 9 fm)) := by rw [eσ3, gw_up_ne (by omega)]; exact h2
          have h3 : σ3.2 (m + 3) = some ((gw_I (gw_z X) 162 fb)) := by rw [eσ3, gw_up_ne (by omega)]; exact h3
          have h4 : σ3.2 (m + 4) = some ((gw_I (gw_z X) 54 fl)) := by rw [eσ3, gw_up_ne (by omega)]; exact h4
          have h5 : σ3.2 (m + 5) = some ((gw_I (gw_z X) 9 f5)) := by rw [eσ3, gw_up_ne (by omega)]; exact h5
          have h6 : σ3.2 (m + 6) = some ((gw_I (gw_z X) 162 f6)) := by rw [eσ3, gw_up_ne (by omega)]; exact h6
          have h7 : σ3.2 (m + 7) = some ((gw_I (gw_z X) 54 f7)) := by rw [eσ3, gw_up_ne (by omega)]; exact h7
          have h8 : σ3.2 (m + 8) = some ((gw_J (gw_z X) 148 (fun j => iL (A.wt j)))) := by rw [eσ3, gw_up_ne (by omega)]; exact h8
          have h9 : σ3.2 (m + 9) = some ((gw_J (gw_z X) 148 (fun j => iL (A.tt j)))) := by rw [eσ3, gw_up_ne (by omega)]; exact h9
          have h10 : σ3.2 (m + 10) = some ((gw_J (gw_z X) 24 f10)) := by rw [eσ3, gw_up_ne (by omega)]; exact h10
          have h11 : σ3.2 (m + 11) = some ((gw_I (gw_z X) 6 f11)) := by rw [eσ3, gw_up_ne (by omega)]; exact h11
          have h12 : σ3.2 (m + 12) = some ((gw_J (gw_z X) 7 f12)) := by rw [eσ3, gw_up_ne (by omega)]; exact h12
          have fr : gw_fr σ σ3 m (m + 13) := gw_fr_tr fr (show gw_fr _ σ3 m (m + 13) by rw [eσ3]; exact gw_fr_up _ _ _ (by omega) (by omega))
          refine gw_aload_n hX nd_Mo_feature_31 rfl 0 rfl ?_
          refine gw_get hX kf_Mo_51 nd_Mo_feature_32 h0 rfl ?_
          refine gw_if_le (tgt := 42) hX nd_Mo_feature_35 rfl (fun hb => ?_) (fun hb => ?_)
          · have hb : 1 ≤ 0 := (nI_leI (a := 1) (b := 0) (by omega) (by omega)).mp hb
            exfalso; omega
          · have hb : ¬ 1 ≤ 0 := fun h => hb ((nI_leI (a := 1) (b := 0) (by omega) (by omega)).mpr h)
            refine gw_iconst (v := nI 0) hX nd_Mo_feature_38 rfl ?_
            refine gw_goto (tgt := 61) hX nd_Mo_feature_39 rfl ?_
            exact gw_iret hX hQ hr nd_Mo_feature_61 (by decide) (by decide) ⟨Or.inr ⟨ab_feat_z (Or.inl hzn), rfl, ⟨_, _, _, _, _, _, _, _, _, _, ⟨h0, h1, h2, h3, h4, ⟨_, h5⟩, ⟨_, h6⟩, ⟨_, h7⟩, h8, h9, ⟨_, h10⟩, ⟨_, h11⟩, ⟨_, h12, hz12⟩⟩, hO⟩⟩, (fun b hb9 => fr.2 b (by omega))⟩
        · skip
          have hz0 := hb
          refine gw_iload_n hX nd_Mo_feature_18 rfl 3 rfl ?_
          refine gw_iconst (v := nI 2) hX nd_Mo_feature_19 rfl ?_
          refine gw_icmp_le (tgt := 27) hX nd_Mo_feature_20 rfl (fun hb => ?_) (fun hb => ?_)
          · skip
            obtain ⟨k, hk, rfl⟩ := nI_of2 (M := nI 2) (n := 2) (by decide) hz0 hb
            obtain ⟨w, hw, rfl⟩ := ix_of (K := ws.length) (by omega) hy0 (Int32.not_le.mp hyl)
            refine gw_iconst (v := nI 0) hX nd_Mo_feature_27 rfl ?_
            refine gw_put hX kf_Mo_51 nd_Mo_feature_28 h0 rfl rfl (Nat.le_of_ble_eq_true rfl) (e' := .inr (1, [.int (nI 0), .int (nI A.len), .ref (m + 1), .int (nI A.ss.length), .ref (m + 2), .ref (m + 3), .ref (m + 4), .int rs, .ref (m + 5), .ref (m + 6), .ref (m + 7), .ref (m + 8), .ref (m + 9), .int (nI A.mk), .int (nI A.ps), .ref (m + 10), .ref (m + 11), .ref (m + 12), .long bs, .long s2, .int be, .int se, .int kp, .int kw])) rfl ?_
            obtain ⟨σ4, eσ4⟩ : ∃ hp_, hp_ = gw_up σ m (.inr (1, [.int (nI 0), .int (nI A.len), .ref (m + 1), .int (nI A.ss.length), .ref (m + 2), .ref (m + 3), .ref (m + 4), .int rs, .ref (m + 5), .ref (m + 6), .ref (m + 7), .ref (m + 8), .ref (m + 9), .int (nI A.mk), .int (nI A.ps), .ref (m + 10), .ref (m + 11), .ref (m + 12), .long bs, .long s2, .int be, .int se, .int kp, .int kw])) := ⟨_, rfl⟩
            refine gw_heap eσ4.symm ?_
            have h0 : σ4.2 m = some (.inr (1, [.int (nI 0), .int (nI A.len), .ref (m + 1), .int (nI A.ss.length), .ref (m + 2), .ref (m + 3), .ref (m + 4), .int rs, .ref (m + 5), .ref (m + 6), .ref (m + 7), .ref (m + 8), .ref (m + 9), .int (nI A.mk), .int (nI A.ps), .ref (m + 10), .ref (m + 11), .ref (m + 12), .long bs, .long s2, .int be, .int se, .int kp, .int kw])) := by rw [eσ4]; exact gw_up_eq _ _ _
            have h1 : σ4.2 (m + 1) = some ((gw_I (gw_z X) 240 (fun j => nI (A.ch j)))) := by rw [eσ4, gw_up_ne (by omega)]; exact h1
            have h2 : σ4.2 (m + 2) = some ((gw_I (gw_z X) 9 fm)) := by rw [eσ4, gw_up_ne (by omega)]; exact h2
            have h3 : σ4.2 (m + 3) = some ((gw_I (gw_z X) 162 fb)) := by rw [eσ4, gw_up_ne (by omega)]; exact h3
            have h4 : σ4.2 (m + 4) = some ((gw_I (gw_z X) 54 fl)) := by rw [eσ4, gw_up_ne (by omega)]; exact h4
            have h5 : σ4.2 (m + 5) = some ((gw_I (gw_z X) 9 f5)) := by rw [eσ4, gw_up_ne (by omega)]; exact h5
            have h6 : σ4.2 (m + 6) = some ((gw_I (gw_z X) 162 f6)) := by rw [eσ4, gw_up_ne (by omega)]; exact h6
            have h7 : σ4.2 (m + 7) = some ((gw_I (gw_z X) 54 f7)) := by rw [eσ4, gw_up_ne (by omega)]; exact h7
            have h8 : σ4.2 (m + 8) = some ((gw_J (gw_z X) 148 (fun j => iL (A.wt j)))) := by rw [eσ4, gw_up_ne (by omega)]; exact h8
            have h9 : σ4.2 (m + 9) = some ((gw_J (gw_z X) 148 (fun j => iL (A.tt j)))) := by rw [eσ4, gw_up_ne (by omega)]; exact h9
            have h10 : σ4.2 (m + 10) = some ((gw_J (gw_z X) 24 f10)) := by rw [eσ4, gw_up_ne (by omega)]; exact h10
            have h11 : σ4.2 (m + 11) = some ((gw_I (gw_z X) 6 f11)) := by rw [eσ4, gw_up_ne (by omega)]; exact h11
            have h12 : σ4.2 (m + 12) = some ((gw_J (gw_z X) 7 f12)) := by rw [eσ4, gw_up_ne (by omega)]; exact h12
            have fr : gw_fr σ σ4 m (m + 13) := gw_fr_tr fr (show gw_fr _ σ4 m (m + 13) by rw [eσ4]; exact gw_fr_up _ _ _ (by omega) (by omega))
            refine gw_aload_n hX nd_Mo_feature_31 rfl 0 rfl ?_
            refine gw_get hX kf_Mo_51 nd_Mo_feature_32 h0 rfl ?_
            refine gw_if_le (tgt := 42) hX nd_Mo_feature_35 rfl (fun hb => ?_) (fun hb => ?_)
            · have hb : 0 ≤ 0 := (nI_leI (a := 0) (b := 0) (by omega) (by omega)).mp hb
              refine gw_aload_n hX nd_Mo_feature_42 rfl 0 rfl ?_
              refine gw_get hX kf_Mo_16 nd_Mo_feature_43 h0 rfl ?_
              refine gw_iconst (v := nI 3) hX nd_Mo_feature_46 rfl ?_
              refine gw_bipush (v := nI 6) hX nd_Mo_feature_47 rfl ?_
              refine gw_aload_n hX nd_Mo_feature_49 rfl 0 rfl ?_
              refine gw_iload_n hX nd_Mo_feature_50 rfl 1 rfl ?_
              have hM1 := (show mw_at _ (gw_z X) m A (nI 0) rs be se kp kw bs s2 fm fb fl from ⟨h0, h1, h2, h3, h4, ⟨_, h5⟩, ⟨_, h6⟩, ⟨_, h7⟩, h8, h9, ⟨_, h10⟩, ⟨_, h11⟩, ⟨_, h12, hz12⟩⟩)
              refine gw_callV (rest := [.int (nI 6), .int (nI 3), .ref (m + 3)]) hX ks_Mo_102 (ct_Mo_place _ _ _ _ m A hA hM1 hO x) h0 rfl rfl (Nat.le_of_ble_eq_true rfl) nd_Mo_feature_51 (by decide) ?_
              rintro v_ s_ ⟨hor, hs_⟩
              have hs_ := hs_.symm
              subst hs_
              rcases hor with ⟨ws2, j, hws2, rfl, hj8, hmb, hml⟩ | ⟨hno, rfl⟩
              · show gw_W X σ4 0 0 54 [(0, .ref m), (1, .int x), (2, .int (nI w)), (3, .int (nI k))] [.int (nI j), .int (nI 6), .int (nI 3), .ref (m + 3)]
                cases hws.symm.trans hws2
                refine gw_imul hX nd_Mo_feature_54 ?_
                refine gw_topi (y := nI (6 * j)) (pk_mul _ _) ?_
                refine gw_iload_n hX nd_Mo_feature_55 rfl 2 rfl ?_
                refine gw_iadd hX nd_Mo_feature_56 ?_
                refine gw_topi (y := nI (6 * j + w)) (nI_add _ _) ?_
                refine gw_imul hX nd_Mo_feature_57 ?_
                refine gw_topi (y := nI (3 * (6 * j + w))) (pk_mul _ _) ?_
                refine gw_iload_n hX nd_Mo_feature_58 rfl 3 rfl ?_
                refine gw_iadd hX nd_Mo_feature_59 ?_
                refine gw_topi (y := nI (3 * (6 * j + w) + k)) (nI_add _ _) ?_
                refine gw_iald hX nd_Mo_feature_60 h3 (3 * (6 * j + w) + k) rfl (by omega) (by decide) ?_
                refine gw_topi (y := nI (px_k ws[w] k)) (hmb.2 w _ (List.getElem?_eq_getElem hw) k (by omega)) ?_
                exact gw_iret hX hQ hr nd_Mo_feature_61 (by decide) (by decide) ⟨Or.inl ⟨_, ab_feat_of hws hw hsl6 (by omega), rfl, ⟨_, _, _, _, _, _, _, _, _, _, ⟨h0, h1, h2, h3, h4, ⟨_, h5⟩, ⟨_, h6⟩, ⟨_, h7⟩, h8, h9, ⟨_, h10⟩, ⟨_, h11⟩, ⟨_, h12, hz12⟩⟩, hO⟩⟩, (fun b hb9 => fr.2 b (by omega))⟩
              · show gw_W X σ4 0 0 54 [(0, .ref m), (1, .int x), (2, .int (nI w)), (3, .int (nI k))] [.int ((-1)), .int (nI 6), .int (nI 3), .ref (m + 3)]
                exact absurd (hno.symm.trans hws) (by simp)
            · have hb : ¬ 0 ≤ 0 := fun h => hb ((nI_leI (a := 0) (b := 0) (by omega) (by omega)).mpr h)
              exfalso; omega
          · skip
            have hzn := hb
            refine gw_iconst (v := nI 1) hX nd_Mo_feature_23 rfl ?_
            refine gw_goto (tgt := 28) hX nd_Mo_feature_24 rfl ?_
            refine gw_put hX kf_Mo_51 nd_Mo_feature_28 h0 rfl rfl (Nat.le_of_ble_eq_true rfl) (e' := .inr (1, [.int (nI 1), .int (nI A.len), .ref (m + 1), .int (nI A.ss.length), .ref (m + 2), .ref (m + 3), .ref (m + 4), .int rs, .ref (m + 5), .ref (m + 6), .ref (m + 7), .ref (m + 8), .ref (m + 9), .int (nI A.mk), .int (nI A.ps), .ref (m + 10), .ref (m + 11), .ref (m + 12), .long bs, .long s2, .int be, .int se, .int kp, .int kw])) rfl ?_
            obtain ⟨σ5, eσ5⟩ : ∃ hp_, hp_ = gw_up σ m (.inr (1, [.int (nI 1), .int (nI A.len), .ref (m + 1), .int (nI A.ss.length), .ref (m + 2), .ref (m + 3), .ref (m + 4), .int rs, .ref (m + 5), .ref (m + 6), .ref (m + 7), .ref (m + 8), .ref (m + 9), .int (nI A.mk), .int (nI A.ps), .ref (m + 10), .ref (m + 11), .ref (m + 12), .long bs, .long s2, .int be, .int se, .int kp, .int kw])) := ⟨_, rfl⟩
            refine gw_heap eσ5.symm ?_
            have h0 : σ5.2 m = some (.inr (1, [.int (nI 1), .int (nI A.len), .ref (m + 1), .int (nI A.ss.length), .ref (m + 2), .ref (m + 3), .ref (m + 4), .int rs, .ref (m + 5), .ref (m + 6), .ref (m + 7), .ref (m + 8), .ref (m + 9), .int (nI A.mk), .int (nI A.ps), .ref (m + 10), .ref (m + 11), .ref (m + 12), .long bs, .long s2, .int be, .int se, .int kp, .int kw])) := by rw [eσ5]; exact gw_up_eq _ _ _
            have h1 : σ5.2 (m + 1) = some ((gw_I (gw_z X) 240 (fun j => nI (A.ch j)))) := by rw [eσ5, gw_up_ne (by omega)]; exact h1
            have h2 : σ5.2 (m + 2) = some ((gw_I (gw_z X) 9 fm)) := by rw [eσ5, gw_up_ne (by omega)]; exact h2
            have h3 : σ5.2 (m + 3) = some ((gw_I (gw_z X) 162 fb)) := by rw [eσ5, gw_up_ne (by omega)]; exact h3
            have h4 : σ5.2 (m + 4) = some ((gw_I (gw_z X) 54 fl)) := by rw [eσ5, gw_up_ne (by omega)]; exact h4
            have h5 : σ5.2 (m + 5) = some ((gw_I (gw_z X) 9 f5)) := by rw [eσ5, gw_up_ne (by omega)]; exact h5
            have h6 : σ5.2 (m + 6) = some ((gw_I (gw_z X) 162 f6)) := by rw [eσ5, gw_up_ne (by omega)]; exact h6
            have h7 : σ5.2 (m + 7) = some ((gw_I (gw_z X) 54 f7)) := by rw [eσ5, gw_up_ne (by omega)]; exact h7
            have h8 : σ5.2 (m + 8) = some ((gw_J (gw_z X) 148 (fun j => iL (A.wt j)))) := by rw [eσ5, gw_up_ne (by omega)]; exact h8
            have h9 : σ5.2 (m + 9) = some ((gw_J (gw_z X) 148 (fun j => iL (A.tt j)))) := by rw [eσ5, gw_up_ne (by omega)]; exact h9
            have h10 : σ5.2 (m + 10) = some ((gw_J (gw_z X) 24 f10)) := by rw [eσ5, gw_up_ne (by omega)]; exact h10
            have h11 : σ5.2 (m + 11) = some ((gw_I (gw_z X) 6 f11)) := by rw [eσ5, gw_up_ne (by omega)]; exact h11
            have h12 : σ5.2 (m + 12) = some ((gw_J (gw_z X) 7 f12)) := by rw [eσ5, gw_up_ne (by omega)]; exact h12
            have fr : gw_fr σ σ5 m (m + 13) := gw_fr_tr fr (show gw_fr _ σ5 m (m + 13) by rw [eσ5]; exact gw_fr_up _ _ _ (by omega) (by omega))
            refine gw_aload_n hX nd_Mo_feature_31 rfl 0 rfl ?_
            refine gw_get hX kf_Mo_51 nd_Mo_feature_32 h0 rfl ?_
            refine gw_if_le (tgt := 42) hX nd_Mo_feature_35 rfl (fun hb => ?_) (fun hb => ?_)
            · have hb : 1 ≤ 0 := (nI_leI (a := 1) (b := 0) (by omega) (by omega)).mp hb
              exfalso; omega
            · have hb : ¬ 1 ≤ 0 := fun h => hb ((nI_leI (a := 1) (b := 0) (by omega) (by omega)).mpr h)
              refine gw_iconst (v := nI 0) hX nd_Mo_feature_38 rfl ?_
              refine gw_goto (tgt := 61) hX nd_Mo_feature_39 rfl ?_
              exact gw_iret hX hQ hr nd_Mo_feature_61 (by decide) (by decide) ⟨Or.inr ⟨ab_feat_z (Or.inr (i3_of hzn)), rfl, ⟨_, _, _, _, _, _, _, _, _, _, ⟨h0, h1, h2, h3, h4, ⟨_, h5⟩, ⟨_, h6⟩, ⟨_, h7⟩, h8, h9, ⟨_, h10⟩, ⟨_, h11⟩, ⟨_, h12, hz12⟩⟩, hO⟩⟩, (fun b hb9 => fr.2 b (by omega))⟩
    · show gw_W X σ 0 0 11 [(0, .ref m), (1, .int x), (2, .int y), (3, .int z)] [.int (nI 0), .int y, .ref m]
      refine gw_icmp_ge (tgt := 23) hX nd_Mo_feature_11 rfl (fun hb => ?_) (fun hb => ?_)
      · skip
        refine gw_iconst (v := nI 1) hX nd_Mo_feature_23 rfl ?_
        refine gw_goto (tgt := 28) hX nd_Mo_feature_24 rfl ?_
        refine gw_put hX kf_Mo_51 nd_Mo_feature_28 h0 rfl rfl (Nat.le_of_ble_eq_true rfl) (e' := .inr (1, [.int (nI 1), .int (nI A.len), .ref (m + 1), .int (nI A.ss.length), .ref (m + 2), .ref (m + 3), .ref (m + 4), .int rs, .ref (m + 5), .ref (m + 6), .ref (m + 7), .ref (m + 8), .ref (m + 9), .int (nI A.mk), .int (nI A.ps), .ref (m + 10), .ref (m + 11), .ref (m + 12), .long bs, .long s2, .int be, .int se, .int kp, .int kw])) rfl ?_
        obtain ⟨σ6, eσ6⟩ : ∃ hp_, hp_ = gw_up σ m (.inr (1, [.int (nI 1), .int (nI A.len), .ref (m + 1), .int (nI A.ss.length), .ref (m + 2), .ref (m + 3), .ref (m + 4), .int rs, .ref (m + 5), .ref (m + 6), .ref (m + 7), .ref (m + 8), .ref (m + 9), .int (nI A.mk), .int (nI A.ps), .ref (m + 10), .ref (m + 11), .ref (m + 12), .long bs, .long s2, .int be, .int se, .int kp, .int kw])) := ⟨_, rfl⟩
        refine gw_heap eσ6.symm ?_
        have h0 : σ6.2 m = some (.inr (1, [.int (nI 1), .int (nI A.len), .ref (m + 1), .int (nI A.ss.length), .ref (m + 2), .ref (m + 3), .ref (m + 4), .int rs, .ref (m + 5), .ref (m + 6), .ref (m + 7), .ref (m + 8), .ref (m + 9), .int (nI A.mk), .int (nI A.ps), .ref (m + 10), .ref (m + 11), .ref (m + 12), .long bs, .long s2, .int be, .int se, .int kp, .int kw])) := by rw [eσ6]; exact gw_up_eq _ _ _
        have h1 : σ6.2 (m + 1) = some ((gw_I (gw_z X) 240 (fun j => nI (A.ch j)))) := by rw [eσ6, gw_up_ne (by omega)]; exact h1
        have h2 : σ6.2 (m + 2) = some ((gw_I (gw_z X) 9 fm)) := by rw [eσ6, gw_up_ne (by omega)]; exact h2
        have h3 : σ6.2 (m + 3) = some ((gw_I (gw_z X) 162 fb)) := by rw [eσ6, gw_up_ne (by omega)]; exact h3
        have h4 : σ6.2 (m + 4) = some ((gw_I (gw_z X) 54 fl)) := by rw [eσ6, gw_up_ne (by omega)]; exact h4
        have h5 : σ6.2 (m + 5) = some ((gw_I (gw_z X) 9 f5)) := by rw [eσ6, gw_up_ne (by omega)]; exact h5
        have h6 : σ6.2 (m + 6) = some ((gw_I (gw_z X) 162 f6)) := by rw [eσ6, gw_up_ne (by omega)]; exact h6
        have h7 : σ6.2 (m + 7) = some ((gw_I (gw_z X) 54 f7)) := by rw [eσ6, gw_up_ne (by omega)]; exact h7
        have h8 : σ6.2 (m + 8) = some ((gw_J (gw_z X) 148 (fun j => iL (A.wt j)))) := by rw [eσ6, gw_up_ne (by omega)]; exact h8
        have h9 : σ6.2 (m + 9) = some ((gw_J (gw_z X) 148 (fun j => iL (A.tt j)))) := by rw [eσ6, gw_up_ne (by omega)]; exact h9
        have h10 : σ6.2 (m + 10) = some ((gw_J (gw_z X) 24 f10)) := by rw [eσ6, gw_up_ne (by omega)]; exact h10
        have h11 : σ6.2 (m + 11) = some ((gw_I (gw_z X) 6 f11)) := by rw [eσ6, gw_up_ne (by omega)]; exact h11
        have h12 : σ6.2 (m + 12) = some ((gw_J (gw_z X) 7 f12)) := by rw [eσ6, gw_up_ne (by omega)]; exact h12
        have fr : gw_fr σ σ6 m (m + 13) := gw_fr_tr fr (show gw_fr _ σ6 m (m + 13) by rw [eσ6]; exact gw_fr_up _ _ _ (by omega) (by omega))
        refine gw_aload_n hX nd_Mo_feature_31 rfl 0 rfl ?_
        refine gw_get hX kf_Mo_51 nd_Mo_feature_32 h0 rfl ?_
        refine gw_if_le (tgt := 42) hX nd_Mo_feature_35 rfl (fun hb => ?_) (fun hb => ?_)
        · have hb : 1 ≤ 0 := (nI_leI (a := 1) (b := 0) (by omega) (by omega)).mp hb
          exfalso; omega
        · have hb : ¬ 1 ≤ 0 := fun h => hb ((nI_leI (a := 1) (b := 0) (by omega) (by omega)).mpr h)
          refine gw_iconst (v := nI 0) hX nd_Mo_feature_38 rfl ?_
          refine gw_goto (tgt := 61) hX nd_Mo_feature_39 rfl ?_
          exact gw_iret hX hQ hr nd_Mo_feature_61 (by decide) (by decide) ⟨Or.inr ⟨ab_feat_s hno, rfl, ⟨_, _, _, _, _, _, _, _, _, _, ⟨h0, h1, h2, h3, h4, ⟨_, h5⟩, ⟨_, h6⟩, ⟨_, h7⟩, h8, h9, ⟨_, h10⟩, ⟨_, h11⟩, ⟨_, h12, hz12⟩⟩, hO⟩⟩, (fun b hb9 => fr.2 b (by omega))⟩
      · skip
        exact absurd (Int32.not_lt.mp hy0) hb
set_option maxRecDepth 100000 in
set_option maxHeartbeats 4000000 in
theorem ct_Mo_weight (l : Launch) (Z : gw_Z) (b0 : Nat) (σ : gw_S) (m : Nat) (A : ab_A) (hA : ab_ok A) {th rs be se kp kw : Int32} {bs s2 : Int64} {fm fb fl : Nat → Int32} (hM : mw_at σ Z m A th rs be se kp kw bs s2 fm fb fl) (hO : mw_ok A kp kw fm fb fl) (x y : Int32) (q : Nat) (hq : q < 2) : gw_M l ny_Mo_weight nc_Mo_weight (4, 0, 0, 0, 0) (some .long) Z b0 σ [.ref m, .int x, .int y, .int (nI q)] (fun v σ' => ((∃ z : Int, ab_wgt A x y q = some z ∧ v = some (.long (iL z)) ∧ mw σ' Z m A 0) ∨ (ab_wgt A x y q = none ∧ v = some (.long 0) ∧ mw σ' Z m A 1)) ∧ (∀ b, b < m ∨ m + 13 ≤ b → σ'.2 b = σ.2 b)) := by
  refine gw_M_of rfl (Nat.le_of_ble_eq_true rfl) ?_
  intro X hX hl hz hb0 hr hnm hQ
  subst hz hb0 hl
  have hX : gw_ok X nc_Mo_weight "LabelLearnerModel" (4, 0, 0, 0, 0) := hX
  show gw_W X σ 0 0 0 [(0, .ref m), (1, .int x), (2, .int y), (3, .int (nI q))] []
  have fr : gw_fr σ σ m (m + 13) := gw_fr_rf _ _ _
  obtain ⟨h0, h1, h2, h3, h4, ⟨f5, h5⟩, ⟨f6, h6⟩, ⟨f7, h7⟩, h8, h9, ⟨f10, h10⟩, ⟨f11, h11⟩, ⟨f12, h12, hz12⟩⟩ := id hM
  have hl8 := hA.2.2.1
  have hsp6 := hA.2.2.2.2.1.2
  refine gw_aload_n hX nd_Mo_weight_0 rfl 0 rfl ?_
  refine gw_iload_n hX nd_Mo_weight_1 rfl 1 rfl ?_
  refine gw_if_lt (tgt := 20) hX nd_Mo_weight_2 rfl (fun hb => ?_) (fun hb => ?_)
  · skip
    refine gw_iconst (v := nI 1) hX nd_Mo_weight_20 rfl ?_
    refine gw_goto (tgt := 25) hX nd_Mo_weight_21 rfl ?_
    have hbad := (Or.inl hb : x < 0 ∨ nI 37 ≤ x ∨ y < 0 ∨ ¬ y < nI 4)
    refine gw_put hX kf_Mo_51 nd_Mo_weight_25 h0 rfl rfl (Nat.le_of_ble_eq_true rfl) (e' := .inr (1, [.int (nI 1), .int (nI A.len), .ref (m + 1), .int (nI A.ss.length), .ref (m + 2), .ref (m + 3), .ref (m + 4), .int rs, .ref (m + 5), .ref (m + 6), .ref (m + 7), .ref (m + 8), .ref (m + 9), .int (nI A.mk), .int (nI A.ps), .ref (m + 10), .ref (m + 11), .ref (m + 12), .long bs, .long s2, .int be, .int se, .int kp, .int kw])) rfl ?_
    obtain ⟨σ1, eσ1⟩ : ∃ hp_, hp_ = gw_up σ m (.inr (1, [.int (nI 1), .int (nI A.len), .ref (m + 1), .int (nI A.ss.length), .ref (m + 2), .ref (m + 3), .ref (m + 4), .int rs, .ref (m + 5), .ref (m + 6), .ref (m + 7), .ref (m + 8), .ref (m + 9), .int (nI A.mk), .int (nI A.ps), .ref (m + 10), .ref (m + 11), .ref (m + 12), .long bs, .long s2, .int be, .int se, .int kp, .int kw])) := ⟨_, rfl⟩
    refine gw_heap eσ1.symm ?_
    have h0 : σ1.2 m = some (.inr (1, [.int (nI 1), .int (nI A.len), .ref (m + 1), .int (nI A.ss.length), .ref (m + 2), .ref (m + 3), .ref (m + 4), .int rs, .ref (m + 5), .ref (m + 6), .ref (m + 7), .ref (m + 8), .ref (m + 9), .int (nI A.mk), .int (nI A.ps), .ref (m + 10), .ref (m + 11), .ref (m + 12), .long bs, .long s2, .int be, .int se, .int kp, .int kw])) := by rw [eσ1]; exact gw_up_eq _ _ _
    have h1 : σ1.2 (m + 1) = some ((gw_I (gw_z X) 240 (fun j => nI (A.ch j)))) := by rw [eσ1, gw_up_ne (by omega)]; exact h1
    have h2 : σ1.2 (m + 2) = some ((gw_I (gw_z X) 9 fm)) := by rw [eσ1, gw_up_ne (by omega)]; exact h2
    have h3 : σ1.2 (m + 3) = some ((gw_I (gw_z X) 162 fb)) := by rw [eσ1, gw_up_ne (by omega)]; exact h3
    have h4 : σ1.2 (m + 4) = some ((gw_I (gw_z X) 54 fl)) := by rw [eσ1, gw_up_ne (by omega)]; exact h4
    have h5 : σ1.2 (m + 5) = some ((gw_I (gw_z X) 9 f5)) := by rw [eσ1, gw_up_ne (by omega)]; exact h5
    have h6 : σ1.2 (m + 6) = some ((gw_I (gw_z X) 162 f6)) := by rw [eσ1, gw_up_ne (by omega)]; exact h6
    have h7 : σ1.2 (m + 7) = some ((gw_I (gw_z X) 54 f7)) := by rw [eσ1, gw_up_ne (by omega)]; exact h7
    have h8 : σ1.2 (m + 8) = some ((gw_J (gw_z X) 148 (fun j => iL (A.wt j)))) := by rw [eσ1, gw_up_ne (by omega)]; exact h8
    have h9 : σ1.2 (m + 9) = some ((gw_J (gw_z X) 148 (fun j => iL (A.tt j)))) := by rw [eσ1, gw_up_ne (by omega)]; exact h9
    have h10 : σ1.2 (m + 10) = some ((gw_J (gw_z X) 24 f10)) := by rw [eσ1, gw_up_ne (by omega)]; exact h10
    have h11 : σ1.2 (m + 11) = some ((gw_I (gw_z X) 6 f11)) := by rw [eσ1, gw_up_ne (by omega)]; exact h11
    have h12 : σ1.2 (m + 12) = some ((gw_J (gw_z X) 7 f12)) := by rw [eσ1, gw_up_ne (by omega)]; exact h12
    have fr : gw_fr σ σ1 m (m + 13) := gw_fr_tr fr (show gw_fr _ σ1 m (m + 13) by rw [eσ1]; exact gw_fr_up _ _ _ (by omega) (by omega))
    refine gw_aload_n hX nd_Mo_weight_28 rfl 0 rfl ?_
    refine gw_get hX kf_Mo_51 nd_Mo_weight_29 h0 rfl ?_
    refine gw_if_le (tgt := 39) hX nd_Mo_weight_32 rfl (fun hb => ?_) (fun hb => ?_)
    · have hb : 1 ≤ 0 := (nI_leI (a := 1) (b := 0) (by omega) (by omega)).mp hb
      exfalso; omega
    · have hb : ¬ 1 ≤ 0 := fun h => hb ((nI_leI (a := 1) (b := 0) (by omega) (by omega)).mpr h)
      refine gw_lconst (v := 0) hX nd_Mo_weight_35 rfl ?_
      refine gw_goto (tgt := 66) hX nd_Mo_weight_36 rfl ?_
      exact gw_lret hX hQ hr nd_Mo_weight_66 (by decide) (by decide) ⟨Or.inr ⟨ab_wgt_no hbad, rfl, ⟨_, _, _, _, _, _, _, _, _, _, ⟨h0, h1, h2, h3, h4, ⟨_, h5⟩, ⟨_, h6⟩, ⟨_, h7⟩, h8, h9, ⟨_, h10⟩, ⟨_, h11⟩, ⟨_, h12, hz12⟩⟩, hO⟩⟩, (fun b hb9 => fr.2 b (by omega))⟩
  · skip
    have hx0 := hb
    refine gw_iload_n hX nd_Mo_weight_5 rfl 1 rfl ?_
    refine gw_bipush (v := nI 36) hX nd_Mo_weight_6 rfl ?_
    refine gw_icmp_gt (tgt := 20) hX nd_Mo_weight_8 rfl (fun hb => ?_) (fun hb => ?_)
    · skip
      refine gw_iconst (v := nI 1) hX nd_Mo_weight_20 rfl ?_
      refine gw_goto (tgt := 25) hX nd_Mo_weight_21 rfl ?_
      have hbad := (Or.inr (Or.inl (i37_of hb)) : x < 0 ∨ nI 37 ≤ x ∨ y < 0 ∨ ¬ y < nI 4)
      refine gw_put hX kf_Mo_51 nd_Mo_weight_25 h0 rfl rfl (Nat.le_of_ble_eq_true rfl) (e' := .inr (1, [.int (nI 1), .int (nI A.len), .ref (m + 1), .int (nI A.ss.length), .ref (m + 2), .ref (m + 3), .ref (m + 4), .int rs, .ref (m + 5), .ref (m + 6), .ref (m + 7), .ref (m + 8), .ref (m + 9), .int (nI A.mk), .int (nI A.ps), .ref (m + 10), .ref (m + 11), .ref (m + 12), .long bs, .long s2, .int be, .int se, .int kp, .int kw])) rfl ?_
      obtain ⟨σ2, eσ2⟩ : ∃ hp_, hp_ = gw_up σ m (.inr (1, [.int (nI 1), .int (nI A.len), .ref (m + 1), .int (nI A.ss.length), .ref (m + 2), .ref (m + 3), .ref (m + 4), .int rs, .ref (m + 5), .ref (m + 6), .ref (m + 7), .ref (m + 8), .ref (m + 9), .int (nI A.mk), .int (nI A.ps), .ref (m + 10), .ref (m + 11), .ref (m + 12), .long bs, .long s2, .int be, .int se, .int kp, .int kw])) := ⟨_, rfl⟩
      refine gw_heap eσ2.symm ?_
      have h0 : σ2.2 m = some (.inr (1, [.int (nI 1), .int (nI A.len), .ref (m + 1), .int (nI A.ss.length), .ref (m + 2), .ref (m + 3), .ref (m + 4), .int rs, .ref (m + 5), .ref (m + 6), .ref (m + 7), .ref (m + 8), .ref (m + 9), .int (nI A.mk), .int (nI A.ps), .ref (m + 10), .ref (m + 11), .ref (m + 12), .long bs, .long s2, .int be, .int se, .int kp, .int kw])) := by rw [eσ2]; exact gw_up_eq _ _ _
      have h1 : σ2.2 (m + 1) = some ((gw_I (gw_z X) 240 (fun j => nI (A.ch j)))) := by rw [eσ2, gw_up_ne (by omega)]; exact h1
      have h2 : σ2.2 (m + 2) = some ((gw_I (gw_z X) 9 fm)) := by rw [eσ2, gw_up_ne (by omega)]; exact h2
      have h3 : σ2.2 (m + 3) = some ((gw_I (gw_z X) 162 fb)) := by rw [eσ2, gw_up_ne (by omega)]; exact h3
      have h4 : σ2.2 (m + 4) = some ((gw_I (gw_z X) 54 fl)) := by rw [eσ2, gw_up_ne (by omega)]; exact h4
      have h5 : σ2.2 (m + 5) = some ((gw_I (gw_z X) 9 f5)) := by rw [eσ2, gw_up_ne (by omega)]; exact h5
      have h6 : σ2.2 (m + 6) = some ((gw_I (gw_z X) 162 f6)) := by rw [eσ2, gw_up_ne (by omega)]; exact h6
      have h7 : σ2.2 (m + 7) = some ((gw_I (gw_z X) 54 f7)) := by rw [eσ2, gw_up_ne (by omega)]; exact h7
      have h8 : σ2.2 (m + 8) = some ((gw_J (gw_z X) 148 (fun j => iL (A.wt j)))) := by rw [eσ2, gw_up_ne (by omega)]; exact h8
      have h9 : σ2.2 (m + 9) = some ((gw_J (gw_z X) 148 (fun j => iL (A.tt j)))) := by rw [eσ2, gw_up_ne (by omega)]; exact h9
      have h10 : σ2.2 (m + 10) = some ((gw_J (gw_z X) 24 f10)) := by rw [eσ2, gw_up_ne (by omega)]; exact h10
      have h11 : σ2.2 (m + 11) = some ((gw_I (gw_z X) 6 f11)) := by rw [eσ2, gw_up_ne (by omega)]; exact h11
      have h12 : σ2.2 (m + 12) = some ((gw_J (gw_z X) 7 f12)) := by rw [eσ2, gw_up_ne (by omega)]; exact h12
      have fr : gw_fr σ σ2 m (m + 13) := gw_fr_tr fr (show gw_fr _ σ2 m (m + 13) by rw [eσ2]; exact gw_fr_up _ _ _ (by omega) (by omega))
      refine gw_aload_n hX nd_Mo_weight_28 rfl 0 rfl ?_
      refine gw_get hX kf_Mo_51 nd_Mo_weight_29 h0 rfl ?_
      refine gw_if_le (tgt := 39) hX nd_Mo_weight_32 rfl (fun hb => ?_) (fun hb => ?_)
      · have hb : 1 ≤ 0 := (nI_leI (a := 1) (b := 0) (by omega) (by omega)).mp hb
        exfalso; omega
      · have hb : ¬ 1 ≤ 0 := fun h => hb ((nI_leI (a := 1) (b := 0) (by omega) (by omega)).mpr h)
        refine gw_lconst (v := 0) hX nd_Mo_weight_35 rfl ?_
        refine gw_goto (tgt := 66) hX nd_Mo_weight_36 rfl ?_
        exact gw_lret hX hQ hr nd_Mo_weight_66 (by decide) (by decide) ⟨Or.inr ⟨ab_wgt_no hbad, rfl, ⟨_, _, _, _, _, _, _, _, _, _, ⟨h0, h1, h2, h3, h4, ⟨_, h5⟩, ⟨_, h6⟩, ⟨_, h7⟩, h8, h9, ⟨_, h10⟩, ⟨_, h11⟩, ⟨_, h12, hz12⟩⟩, hO⟩⟩, (fun b hb9 => fr.2 b (by omega))⟩
    · skip
      have hx1 := hb
      refine gw_iload_n hX nd_Mo_weight_11 rfl 2 rfl ?_
      refine gw_if_lt (tgt := 20) hX nd_Mo_weight_12 rfl (fun hb => ?_) (fun hb => ?_)
      · skip
        refine gw_iconst (v := nI 1) hX nd_Mo_weight_20 rfl ?_
        refine gw_goto (tgt := 25) hX nd_Mo_weight_21 rfl ?_
        have hbad := (Or.inr (Or.inr (Or.inl hb)) : x < 0 ∨ nI 37 ≤ x ∨ y < 0 ∨ ¬ y < nI 4)
        refine gw_put hX kf_Mo_51 nd_Mo_weight_25 h0 rfl rfl (Nat.le_of_ble_eq_true rfl) (e' := .inr (1, [.int (nI 1), .int (nI A.len), .ref (m + 1), .int (nI A.ss.length), .ref (m + 2), .ref (m + 3), .ref (m + 4), .int rs, .ref (m + 5), .ref (m + 6), .ref (m + 7), .ref (m + 8), .ref (m + 9), .int (nI A.mk), .int (nI A.ps), .ref (m + 10), .ref (m + 11), .ref (m + 12), .long bs, .long s2, .int be, .int se, .int kp, .int kw])) rfl ?_
        obtain ⟨σ3, eσ3⟩ : ∃ hp_, hp_ = gw_up σ m (.inr (1, [.int (nI 1), .int (nI A.len), .ref (m + 1), .int (nI A.ss.length), .ref (m + 2), .ref (m + 3), .ref (m + 4), .int rs, .ref (m + 5), .ref (m + 6), .ref (m + 7), .ref (m + 8), .ref (m + 9), .int (nI A.mk), .int (nI A.ps), .ref (m + 10), .ref (m + 11), .ref (m + 12), .long bs, .long s2, .int be, .int se, .int kp, .int kw])) := ⟨_, rfl⟩
        refine gw_heap eσ3.symm ?_
        have h0 : σ3.2 m = some (.inr (1, [.int (nI 1), .int (nI A.len), .ref (m + 1), .int (nI A.ss.length), .ref (m + 2), .ref (m + 3), .ref (m + 4), .int rs, .ref (m + 5), .ref (m + 6), .ref (m + 7), .ref (m + 8), .ref (m + 9), .int (nI A.mk), .int (nI A.ps), .ref (m + 10), .ref (m + 11), .ref (m + 12), .long bs, .long s2, .int be, .int se, .int kp, .int kw])) := by rw [eσ3]; exact gw_up_eq _ _ _
        have h1 : σ3.2 (m + 1) = some ((gw_I (gw_z X) 240 (fun j => nI (A.ch j)))) := by rw [eσ3, gw_up_ne (by omega)]; exact h1
        have h2 : σ3.2 (m + 2) = some ((gw_I (gw_z X) 9 fm)) := by rw [eσ3, gw_up_ne (by omega)]; exact h2
        have h3 : σ3.2 (m + 3) = some ((gw_I (gw_z X) 162 fb)) := by rw [eσ3, gw_up_ne (by omega)]; exact h3
        have h4 : σ3.2 (m + 4) = some ((gw_I (gw_z X) 54 fl)) := by rw [eσ3, gw_up_ne (by omega)]; exact h4
        have h5 : σ3.2 (m + 5) = some ((gw_I (gw_z X) 9 f5)) := by rw [eσ3, gw_up_ne (by omega)]; exact h5
        have h6 : σ3.2 (m + 6) = some ((gw_I (gw_z X) 162 f6)) := by rw [eσ3, gw_up_ne (by omega)]; exact h6
        have h7 : σ3.2 (m + 7) = some ((gw_I (gw_z X) 54 f7)) := by rw [eσ3, gw_up_ne (by omega)]; exact h7
        have h8 : σ3.2 (m + 8) = some ((gw_J (gw_z X) 148 (fun j => iL (A.wt j)))) := by rw [eσ3, gw_up_ne (by omega)]; exact h8
        have h9 : σ3.2 (m + 9) = some ((gw_J (gw_z X) 148 (fun j => iL (A.tt j)))) := by rw [eσ3, gw_up_ne (by omega)]; exact h9
        have h10 : σ3.2 (m + 10) = some ((gw_J (gw_z X) 24 f10)) := by rw [eσ3, gw_up_ne (by omega)]; exact h10
        have h11 : σ3.2 (m + 11) = some ((gw_I (gw_z X) 6 f11)) := by rw [eσ3, gw_up_ne (by omega)]; exact h11
        have h12 : σ3.2 (m + 12) = some ((gw_J (gw_z X) 7 f12)) := by rw [eσ3, gw_up_ne (by omega)]; exact h12
        have fr : gw_fr σ σ3 m (m + 13) := gw_fr_tr fr (show gw_fr _ σ3 m (m + 13) by rw [eσ3]; exact gw_fr_up _ _ _ (by omega) (by omega))
        refine gw_aload_n hX nd_Mo_weight_28 rfl 0 rfl ?_
        refine gw_get hX kf_Mo_51 nd_Mo_weight_29 h0 rfl ?_
        refine gw_if_le (tgt := 39) hX nd_Mo_weight_32 rfl (fun hb => ?_) (fun hb => ?_)
        · have hb : 1 ≤ 0 := (nI_leI (a := 1) (b := 0) (by omega) (by omega)).mp hb
          exfalso; omega
        · have hb : ¬ 1 ≤ 0 := fun h => hb ((nI_leI (a := 1) (b := 0) (by omega) (by omega)).mpr h)
          refine gw_lconst (v := 0) hX nd_Mo_weight_35 rfl ?_
          refine gw_goto (tgt := 66) hX nd_Mo_weight_36 rfl ?_
          exact gw_lret hX hQ hr nd_Mo_weight_66 (by decide) (by decide) ⟨Or.inr ⟨ab_wgt_no hbad, rfl, ⟨_, _, _, _, _, _, _, _, _, _, ⟨h0, h1, h2, h3, h4, ⟨_, h5⟩, ⟨_, h6⟩, ⟨_, h7⟩, h8, h9, ⟨_, h10⟩, ⟨_, h11⟩, ⟨_, h12, hz12⟩⟩, hO⟩⟩, (fun b hb9 => fr.2 b (by omega))⟩
      · skip
        have hy0 := hb
        refine gw_iload_n hX nd_Mo_weight_15 rfl 2 rfl ?_
        refine gw_iconst (v := nI 3) hX nd_Mo_weight_16 rfl ?_
        refine gw_icmp_le (tgt := 24) hX nd_Mo_weight_17 rfl (fun hb => ?_) (fun hb => ?_)
        · skip
          obtain ⟨j, hj, rfl⟩ := nI_of2 (M := nI 3) (n := 3) (by decide) hy0 hb
          obtain ⟨i, hi, rfl⟩ := nI_of2 (M := nI 36) (n := 36) (by decide) hx0 (Int32.not_lt.mp hx1)
          have hi : i < 37 := by omega
          have hj : j < 4 := by omega
          refine gw_iconst (v := nI 0) hX nd_Mo_weight_24 rfl ?_
          refine gw_put hX kf_Mo_51 nd_Mo_weight_25 h0 rfl rfl (Nat.le_of_ble_eq_true rfl) (e' := .inr (1, [.int (nI 0), .int (nI A.len), .ref (m + 1), .int (nI A.ss.length), .ref (m + 2), .ref (m + 3), .ref (m + 4), .int rs, .ref (m + 5), .ref (m + 6), .ref (m + 7), .ref (m + 8), .ref (m + 9), .int (nI A.mk), .int (nI A.ps), .ref (m + 10), .ref (m + 11), .ref (m + 12), .long bs, .long s2, .int be, .int se, .int kp, .int kw])) rfl ?_
          obtain ⟨σ4, eσ4⟩ : ∃ hp_, hp_ = gw_up σ m (.inr (1, [.int (nI 0), .int (nI A.len), .ref (m + 1), .int (nI A.ss.length), .ref (m + 2), .ref (m + 3), .ref (m + 4), .int rs, .ref (m + 5), .ref (m + 6), .ref (m + 7), .ref (m + 8), .ref (m + 9), .int (nI A.mk), .int (nI A.ps), .ref (m + 10), .ref (m + 11), .ref (m + 12), .long bs, .long s2, .int be, .int se, .int kp, .int kw])) := ⟨_, rfl⟩
          refine gw_heap eσ4.symm ?_
          have h0 : σ4.2 m = some (.inr (1, [.int (nI 0), .int (nI A.len), .ref (m + 1), .int (nI A.ss.length), .ref (m + 2), .ref (m + 3), .ref (m + 4), .int rs, .ref (m + 5), .ref (m + 6), .ref (m + 7), .ref (m + 8), .ref (m + 9), .int (nI A.mk), .int (nI A.ps), .ref (m + 10), .ref (m + 11), .ref (m + 12), .long bs, .long s2, .int be, .int se, .int kp, .int kw])) := by rw [eσ4]; exact gw_up_eq _ _ _
          have h1 : σ4.2 (m + 1) = some ((gw_I (gw_z X) 240 (fun j => nI (A.ch j)))) := by rw [eσ4, gw_up_ne (by omega)]; exact h1
          have h2 : σ4.2 (m + 2) = some ((gw_I (gw_z X) 9 fm)) := by rw [eσ4, gw_up_ne (by omega)]; exact h2
          have h3 : σ4.2 (m + 3) = some ((gw_I (gw_z X) 162 fb)) := by rw [eσ4, gw_up_ne (by omega)]; exact h3
          have h4 : σ4.2 (m + 4) = some ((gw_I (gw_z X) 54 fl)) := by rw [eσ4, gw_up_ne (by omega)]; exact h4
          have h5 : σ4.2 (m + 5) = some ((gw_I (gw_z X) 9 f5)) := by rw [eσ4, gw_up_ne (by omega)]; exact h5
          have h6 : σ4.2 (m + 6) = some ((gw_I (gw_z X) 162 f6)) := by rw [eσ4, gw_up_ne (by omega)]; exact h6
          have h7 : σ4.2 (m + 7) = some ((gw_I (gw_z X) 54 f7)) := by rw [eσ4, gw_up_ne (by omega)]; exact h7
          have h8 : σ4.2 (m + 8) = some ((gw_J (gw_z X) 148 (fun j => iL (A.wt j)))) := by rw [eσ4, gw_up_ne (by omega)]; exact h8
          have h9 : σ4.2 (m + 9) = some ((gw_J (gw_z X) 148 (fun j => iL (A.tt j)))) := by rw [eσ4, gw_up_ne (by omega)]; exact h9
          have h10 : σ4.2 (m + 10) = some ((gw_J (gw_z X) 24 f10)) := by rw [eσ4, gw_up_ne (by omega)]; exact h10
          have h11 : σ4.2 (m + 11) = some ((gw_I (gw_z X) 6 f11)) := by rw [eσ4, gw_up_ne (by omega)]; exact h11
          have h12 : σ4.2 (m + 12) = some ((gw_J (gw_z X) 7 f12)) := by rw [eσ4, gw_up_ne (by omega)]; exact h12
          have fr : gw_fr σ σ4 m (m + 13) := gw_fr_tr fr (show gw_fr _ σ4 m (m + 13) by rw [eσ4]; exact gw_fr_up _ _ _ (by omega) (by omega))
          refine gw_aload_n hX nd_Mo_weight_28 rfl 0 rfl ?_
          refine gw_get hX kf_Mo_51 nd_Mo_weight_29 h0 rfl ?_
          refine gw_if_le (tgt := 39) hX nd_Mo_weight_32 rfl (fun hb => ?_) (fun hb => ?_)
          · have hb : 0 ≤ 0 := (nI_leI (a := 0) (b := 0) (by omega) (by omega)).mp hb
            refine gw_iload_n hX nd_Mo_weight_39 rfl 3 rfl ?_
            refine gw_if_eq (tgt := 56) hX nd_Mo_weight_40 rfl (fun hb => ?_) (fun hb => ?_)
            · have hb : q = 0 := (nI_eq (a := q) (b := 0) (by omega) (by omega)).mp hb
              refine gw_aload_n hX nd_Mo_weight_56 rfl 0 rfl ?_
              refine gw_get hX kf_Mo_31 nd_Mo_weight_57 h0 rfl ?_
              refine gw_iconst (v := nI 4) hX nd_Mo_weight_60 rfl ?_
              refine gw_iload_n hX nd_Mo_weight_61 rfl 1 rfl ?_
              refine gw_imul hX nd_Mo_weight_62 ?_
              refine gw_topi (y := nI (4 * i)) (pk_mul _ _) ?_
              refine gw_iload_n hX nd_Mo_weight_63 rfl 2 rfl ?_
              refine gw_iadd hX nd_Mo_weight_64 ?_
              refine gw_topi (y := nI (4 * i + j)) (nI_add _ _) ?_
              refine gw_lald hX nd_Mo_weight_65 h8 (4 * i + j) rfl (by omega) (by decide) ?_
              exact gw_lret hX hQ hr nd_Mo_weight_66 (by decide) (by decide) ⟨Or.inl ⟨_, ab_wgt_of hi hj, by rw [Nat.mul_comm i 4, show ab_w A q = A.wt from by unfold ab_w; rw [if_pos hb]], ⟨_, _, _, _, _, _, _, _, _, _, ⟨h0, h1, h2, h3, h4, ⟨_, h5⟩, ⟨_, h6⟩, ⟨_, h7⟩, h8, h9, ⟨_, h10⟩, ⟨_, h11⟩, ⟨_, h12, hz12⟩⟩, hO⟩⟩, (fun b hb9 => fr.2 b (by omega))⟩
            · have hb : ¬ q = 0 := fun h => hb ((nI_eq (a := q) (b := 0) (by omega) (by omega)).mpr h)
              refine gw_aload_n hX nd_Mo_weight_43 rfl 0 rfl ?_
              refine gw_get hX kf_Mo_35 nd_Mo_weight_44 h0 rfl ?_
              refine gw_iconst (v := nI 4) hX nd_Mo_weight_47 rfl ?_
              refine gw_iload_n hX nd_Mo_weight_48 rfl 1 rfl ?_
              refine gw_imul hX nd_Mo_weight_49 ?_
              refine gw_topi (y := nI (4 * i)) (pk_mul _ _) ?_
              refine gw_iload_n hX nd_Mo_weight_50 rfl 2 rfl ?_
              refine gw_iadd hX nd_Mo_weight_51 ?_
              refine gw_topi (y := nI (4 * i + j)) (nI_add _ _) ?_
              refine gw_lald hX nd_Mo_weight_52 h9 (4 * i + j) rfl (by omega) (by decide) ?_
              refine gw_goto (tgt := 66) hX nd_Mo_weight_53 rfl ?_
              exact gw_lret hX hQ hr nd_Mo_weight_66 (by decide) (by decide) ⟨Or.inl ⟨_, ab_wgt_of hi hj, by rw [Nat.mul_comm i 4, show ab_w A q = A.tt from by unfold ab_w; rw [if_neg hb]], ⟨_, _, _, _, _, _, _, _, _, _, ⟨h0, h1, h2, h3, h4, ⟨_, h5⟩, ⟨_, h6⟩, ⟨_, h7⟩, h8, h9, ⟨_, h10⟩, ⟨_, h11⟩, ⟨_, h12, hz12⟩⟩, hO⟩⟩, (fun b hb9 => fr.2 b (by omega))⟩
          · have hb : ¬ 0 ≤ 0 := fun h => hb ((nI_leI (a := 0) (b := 0) (by omega) (by omega)).mpr h)
            exfalso; omega
        · skip
          refine gw_iconst (v := nI 1) hX nd_Mo_weight_20 rfl ?_
          refine gw_goto (tgt := 25) hX nd_Mo_weight_21 rfl ?_
          have hbad := (Or.inr (Or.inr (Or.inr (i4_of hb))) : x < 0 ∨ nI 37 ≤ x ∨ y < 0 ∨ ¬ y < nI 4)
          refine gw_put hX kf_Mo_51 nd_Mo_weight_25 h0 rfl rfl (Nat.le_of_ble_eq_true rfl) (e' := .inr (1, [.int (nI 1), .int (nI A.len), .ref (m + 1), .int (nI A.ss.length), .ref (m + 2), .ref (m + 3), .ref (m + 4), .int rs, .ref (m + 5), .ref (m + 6), .ref (m + 7), .ref (m + 8), .ref (m + 9), .int (nI A.mk), .int (nI A.ps), .ref (m + 10), .ref (m + 11), .ref (m + 12), .long bs, .long s2, .int be, .int se, .int kp, .int kw])) rfl ?_
          obtain ⟨σ5, eσ5⟩ : ∃ hp_, hp_ = gw_up σ m (.inr (1, [.int (nI 1), .int (nI A.len), .ref (m + 1), .int (nI A.ss.length), .ref (m + 2), .ref (m + 3), .ref (m + 4), .int rs, .ref (m + 5), .ref (m + 6), .ref (m + 7), .ref (m + 8), .ref (m + 9), .int (nI A.mk), .int (nI A.ps), .ref (m + 10), .ref (m + 11), .ref (m + 12), .long bs, .long s2, .int be, .int se, .int kp, .int kw])) := ⟨_, rfl⟩
          refine gw_heap eσ5.symm ?_
          have h0 : σ5.2 m = some (.inr (1, [.int (nI 1), .int (nI A.len), .ref (m + 1), .int (nI A.ss.length), .ref (m + 2), .ref (m + 3), .ref (m + 4), .int rs, .ref (m + 5), .ref (m + 6), .ref (m + 7), .ref (m + 8), .ref (m + 9), .int (nI A.mk), .int (nI A.ps), .ref (m + 10), .ref (m + 11), .ref (m + 12), .long bs, .long s2, .int be, .int se, .int kp, .int kw])) := by rw [eσ5]; exact gw_up_eq _ _ _
          have h1 : σ5.2 (m + 1) = some ((gw_I (gw_z X) 240 (fun j => nI (A.ch j)))) := by rw [eσ5, gw_up_ne (by omega)]; exact h1
          have h2 : σ5.2 (m + 2) = some ((gw_I (gw_z X) 9 fm)) := by rw [eσ5, gw_up_ne (by omega)]; exact h2
          have h3 : σ5.2 (m + 3) = some ((gw_I (gw_z X) 162 fb)) := by rw [eσ5, gw_up_ne (by omega)]; exact h3
          have h4 : σ5.2 (m + 4) = some ((gw_I (gw_z X) 54 fl)) := by rw [eσ5, gw_up_ne (by omega)]; exact h4
          have h5 : σ5.2 (m + 5) = some ((gw_I (gw_z X) 9 f5)) := by rw [eσ5, gw_up_ne (by omega)]; exact h5
          have h6 : σ5.2 (m + 6) = some ((gw_I (gw_z X) 162 f6)) := by rw [eσ5, gw_up_ne (by omega)]; exact h6
          have h7 : σ5.2 (m + 7) = some ((gw_I (gw_z X) 54 f7)) := by rw [eσ5, gw_up_ne (by omega)]; exact h7
          have h8 : σ5.2 (m + 8) = some ((gw_J (gw_z X) 148 (fun j => iL (A.wt j)))) := by rw [eσ5, gw_up_ne (by omega)]; exact h8
          have h9 : σ5.2 (m + 9) = some ((gw_J (gw_z X) 148 (fun j => iL (A.tt j)))) := by rw [eσ5, gw_up_ne (by omega)]; exact h9
          have h10 : σ5.2 (m + 10) = some ((gw_J (gw_z X) 24 f10)) := by rw [eσ5, gw_up_ne (by omega)]; exact h10
          have h11 : σ5.2 (m + 11) = some ((gw_I (gw_z X) 6 f11)) := by rw [eσ5, gw_up_ne (by omega)]; exact h11
          have h12 : σ5.2 (m + 12) = some ((gw_J (gw_z X) 7 f12)) := by rw [eσ5, gw_up_ne (by omega)]; exact h12
          have fr : gw_fr σ σ5 m (m + 13) := gw_fr_tr fr (show gw_fr _ σ5 m (m + 13) by rw [eσ5]; exact gw_fr_up _ _ _ (by omega) (by omega))
          refine gw_aload_n hX nd_Mo_weight_28 rfl 0 rfl ?_
          refine gw_get hX kf_Mo_51 nd_Mo_weight_29 h0 rfl ?_
          refine gw_if_le (tgt := 39) hX nd_Mo_weight_32 rfl (fun hb => ?_) (fun hb => ?_)
          · have hb : 1 ≤ 0 := (nI_leI (a := 1) (b := 0) (by omega) (by omega)).mp hb
            exfalso; omega
          · have hb : ¬ 1 ≤ 0 := fun h => hb ((nI_leI (a := 1) (b := 0) (by omega) (by omega)).mpr h)
            refine gw_lconst (v := 0) hX nd_Mo_weight_35 rfl ?_
            refine gw_goto (tgt := 66) hX nd_Mo_weight_36 rfl ?_
            exact gw_lret hX hQ hr nd_Mo_weight_66 (by decide) (by decide) ⟨Or.inr ⟨ab_wgt_no hbad, rfl, ⟨_, _, _, _, _, _, _, _, _, _, ⟨h0, h1, h2, h3, h4, ⟨_, h5⟩, ⟨_, h6⟩, ⟨_, h7⟩, h8, h9, ⟨_, h10⟩, ⟨_, h11⟩, ⟨_, h12, hz12⟩⟩, hO⟩⟩, (fun b hb9 => fr.2 b (by omega))⟩
set_option maxRecDepth 100000 in
set_option maxHeartbeats 4000000 in
theorem ct_Mo_label (l : Launch) (Z : gw_Z) (b0 : Nat) (σ : gw_S) (m : Nat) (A : ab_A) (hA : ab_ok A) {th rs be se kp kw : Int32} {bs s2 : Int64} {fm fb fl : Nat → Int32} (hM : mw_at σ Z m A th rs be se kp kw bs s2 fm fb fl) (hO : mw_ok A kp kw fm fb fl) (x : Int32) : gw_M l ny_Mo_label nc_Mo_label (2, 0, 0, 0, 0) (some .int) Z b0 σ [.ref m, .int x] (fun v σ' => ((∃ q : Nat, ab_label A x = some q ∧ v = some (.int (nI q)) ∧ mw σ' Z m A 0) ∨ (ab_label A x = none ∧ v = some (.int (nI 0)) ∧ mw σ' Z m A 1)) ∧ (∀ b, b < m ∨ m + 13 ≤ b → σ'.2 b = σ.2 b)) := by
  refine gw_M_of rfl (Nat.le_of_ble_eq_true rfl) ?_
  intro X hX hl hz hb0 hr hnm hQ
  subst hz hb0 hl
  have hX : gw_ok X nc_Mo_label "LabelLearnerModel" (2, 0, 0, 0, 0) := hX
  show gw_W X σ 0 0 0 [(0, .ref m), (1, .int x)] []
  have fr : gw_fr σ σ m (m + 13) := gw_fr_rf _ _ _
  obtain ⟨h0, h1, h2, h3, h4, ⟨f5, h5⟩, ⟨f6, h6⟩, ⟨f7, h7⟩, h8, h9, ⟨f10, h10⟩, ⟨f11, h11⟩, ⟨f12, h12, hz12⟩⟩ := id hM
  have hl8 := hA.2.2.1
  have hsp6 := hA.2.2.2.2.1.2
  refine gw_aload_n hX nd_Mo_label_0 rfl 0 rfl ?_
  refine gw_aload_n hX nd_Mo_label_1 rfl 0 rfl ?_
  refine gw_get hX kf_Mo_47 nd_Mo_label_2 h0 rfl ?_
  refine gw_if_lt (tgt := 20) hX nd_Mo_label_5 rfl (fun hb => ?_) (fun hb => ?_)
  · skip
    have hkn : A.kw = 0 := by
      by_cases e : A.kw = 0
      · exact e
      · exfalso
        have h9 := (hO.2.2.2 e).1
        rw [h9] at hb
        have hkc := hA.2.2.2.2.2.2
        have hkp : (4 : Nat) ^ A.kw ≤ 4 ^ 6 := Nat.pow_le_pow_right (by decide) hA.2.2.2.2.2.1
        exact nI_pos (by omega) hb
    refine gw_iconst (v := nI 1) hX nd_Mo_label_20 rfl ?_
    refine gw_goto (tgt := 25) hX nd_Mo_label_21 rfl ?_
    refine gw_put hX kf_Mo_51 nd_Mo_label_25 h0 rfl rfl (Nat.le_of_ble_eq_true rfl) (e' := .inr (1, [.int (nI 1), .int (nI A.len), .ref (m + 1), .int (nI A.ss.length), .ref (m + 2), .ref (m + 3), .ref (m + 4), .int rs, .ref (m + 5), .ref (m + 6), .ref (m + 7), .ref (m + 8), .ref (m + 9), .int (nI A.mk), .int (nI A.ps), .ref (m + 10), .ref (m + 11), .ref (m + 12), .long bs, .long s2, .int be, .int se, .int kp, .int kw])) rfl ?_
    obtain ⟨σ1, eσ1⟩ : ∃ hp_, hp_ = gw_up σ m (.inr (1, [.int (nI 1), .int (nI A.len), .ref (m + 1), .int (nI A.ss.length), .ref (m + 2), .ref (m + 3), .ref (m + 4), .int rs, .ref (m + 5), .ref (m + 6), .ref (m + 7), .ref (m + 8), .ref (m + 9), .int (nI A.mk), .int (nI A.ps), .ref (m + 10), .ref (m + 11), .ref (m + 12), .long bs, .long s2, .int be, .int se, .int kp, .int kw])) := ⟨_, rfl⟩
    refine gw_heap eσ1.symm ?_
    have h0 : σ1.2 m = some (.inr (1, [.int (nI 1), .int (nI A.len), .ref (m + 1), .int (nI A.ss.length), .ref (m + 2), .ref (m + 3), .ref (m + 4), .int rs, .ref (m + 5), .ref (m + 6), .ref (m + 7), .ref (m + 8), .ref (m + 9), .int (nI A.mk), .int (nI A.ps), .ref (m + 10), .ref (m + 11), .ref (m + 12), .long bs, .long s2, .int be, .int se, .int kp, .int kw])) := by rw [eσ1]; exact gw_up_eq _ _ _
    have h1 : σ1.2 (m + 1) = some ((gw_I (gw_z X) 240 (fun j => nI (A.ch j)))) := by rw [eσ1, gw_up_ne (by omega)]; exact h1
    have h2 : σ1.2 (m + 2) = some ((gw_I (gw_z X) 9 fm)) := by rw [eσ1, gw_up_ne (by omega)]; exact h2
    have h3 : σ1.2 (m + 3) = some ((gw_I (gw_z X) 162 fb)) := by rw [eσ1, gw_up_ne (by omega)]; exact h3
    have h4 : σ1.2 (m + 4) = some ((gw_I (gw_z X) 54 fl)) := by rw [eσ1, gw_up_ne (by omega)]; exact h4
    have h5 : σ1.2 (m + 5) = some ((gw_I (gw_z X) 9 f5)) := by rw [eσ1, gw_up_ne (by omega)]; exact h5
    have h6 : σ1.2 (m + 6) = some ((gw_I (gw_z X) 162 f6)) := by rw [eσ1, gw_up_ne (by omega)]; exact h6
    have h7 : σ1.2 (m + 7) = some ((gw_I (gw_z X) 54 f7)) := by rw [eσ1, gw_up_ne (by omega)]; exact h7
    have h8 : σ1.2 (m + 8) = some ((gw_J (gw_z X) 148 (fun j => iL (A.wt j)))) := by rw [eσ1, gw_up_ne (by omega)]; exact h8
    have h9 : σ1.2 (m + 9) = some ((gw_J (gw_z X) 148 (fun j => iL (A.tt j)))) := by rw [eσ1, gw_up_ne (by omega)]; exact h9
    have h10 : σ1.2 (m + 10) = some ((gw_J (gw_z X) 24 f10)) := by rw [eσ1, gw_up_ne (by omega)]; exact h10
    have h11 : σ1.2 (m + 11) = some ((gw_I (gw_z X) 6 f11)) := by rw [eσ1, gw_up_ne (by omega)]; exact h11
    have h12 : σ1.2 (m + 12) = some ((gw_J (gw_z X) 7 f12)) := by rw [eσ1, gw_up_ne (by omega)]; exact h12
    have fr : gw_fr σ σ1 m (m + 13) := gw_fr_tr fr (show gw_fr _ σ1 m (m + 13) by rw [eσ1]; exact gw_fr_up _ _ _ (by omega) (by omega))
    refine gw_aload_n hX nd_Mo_label_28 rfl 0 rfl ?_
    refine gw_get hX kf_Mo_51 nd_Mo_label_29 h0 rfl ?_
    refine gw_if_le (tgt := 39) hX nd_Mo_label_32 rfl (fun hb => ?_) (fun hb => ?_)
    · have hb : 1 ≤ 0 := (nI_leI (a := 1) (b := 0) (by omega) (by omega)).mp hb
      exfalso; omega
    · have hb : ¬ 1 ≤ 0 := fun h => hb ((nI_leI (a := 1) (b := 0) (by omega) (by omega)).mpr h)
      refine gw_iconst (v := nI 0) hX nd_Mo_label_35 rfl ?_
      refine gw_goto (tgt := 49) hX nd_Mo_label_36 rfl ?_
      exact gw_iret hX hQ hr nd_Mo_label_49 (by decide) (by decide) ⟨Or.inr ⟨ab_label_0 hkn, rfl, ⟨_, _, _, _, _, _, _, _, _, _, ⟨h0, h1, h2, h3, h4, ⟨_, h5⟩, ⟨_, h6⟩, ⟨_, h7⟩, h8, h9, ⟨_, h10⟩, ⟨_, h11⟩, ⟨_, h12, hz12⟩⟩, hO⟩⟩, (fun b hb9 => fr.2 b (by omega))⟩
  · skip
    have hk : A.kw ≠ 0 := fun e => by rw [hO.2.2.1 e] at hb; exact hb (by decide)
    obtain ⟨hkp, hkw⟩ := hO.2.2.2 hk
    subst hkp hkw
    have hk6 := hA.2.2.2.2.2.1
    have hkc := hA.2.2.2.2.2.2
    have hk46 : (4 : Nat) ^ A.kw ≤ 4 ^ 6 := Nat.pow_le_pow_right (by decide) hk6
    refine gw_iload_n hX nd_Mo_label_8 rfl 1 rfl ?_
    refine gw_if_lt (tgt := 20) hX nd_Mo_label_9 rfl (fun hb => ?_) (fun hb => ?_)
    · skip
      have hxn := hb
      refine gw_iconst (v := nI 1) hX nd_Mo_label_20 rfl ?_
      refine gw_goto (tgt := 25) hX nd_Mo_label_21 rfl ?_
      refine gw_put hX kf_Mo_51 nd_Mo_label_25 h0 rfl rfl (Nat.le_of_ble_eq_true rfl) (e' := .inr (1, [.int (nI 1), .int (nI A.len), .ref (m + 1), .int (nI A.ss.length), .ref (m + 2), .ref (m + 3), .ref (m + 4), .int rs, .ref (m + 5), .ref (m + 6), .ref (m + 7), .ref (m + 8), .ref (m + 9), .int (nI A.mk), .int (nI A.ps), .ref (m + 10), .ref (m + 11), .ref (m + 12), .long bs, .long s2, .int be, .int se, .int (nI A.kc), .int (nI A.kw)])) rfl ?_
      obtain ⟨σ2, eσ2⟩ : ∃ hp_, hp_ = gw_up σ m (.inr (1, [.int (nI 1), .int (nI A.len), .ref (m + 1), .int (nI A.ss.length), .ref (m + 2), .ref (m + 3), .ref (m + 4), .int rs, .ref (m + 5), .ref (m + 6), .ref (m + 7), .ref (m + 8), .ref (m + 9), .int (nI A.mk), .int (nI A.ps), .ref (m + 10), .ref (m + 11), .ref (m + 12), .long bs, .long s2, .int be, .int se, .int (nI A.kc), .int (nI A.kw)])) := ⟨_, rfl⟩
      refine gw_heap eσ2.symm ?_
      have h0 : σ2.2 m = some (.inr (1, [.int (nI 1), .int (nI A.len), .ref (m + 1), .int (nI A.ss.length), .ref (m + 2), .ref (m + 3), .ref (m + 4), .int rs, .ref (m + 5), .ref (m + 6), .ref (m + 7), .ref (m + 8), .ref (m + 9), .int (nI A.mk), .int (nI A.ps), .ref (m + 10), .ref (m + 11), .ref (m + 12), .long bs, .long s2, .int be, .int se, .int (nI A.kc), .int (nI A.kw)])) := by rw [eσ2]; exact gw_up_eq _ _ _
      have h1 : σ2.2 (m + 1) = some ((gw_I (gw_z X) 240 (fun j => nI (A.ch j)))) := by rw [eσ2, gw_up_ne (by omega)]; exact h1
      have h2 : σ2.2 (m + 2) = some ((gw_I (gw_z X) 9 fm)) := by rw [eσ2, gw_up_ne (by omega)]; exact h2
      have h3 : σ2.2 (m + 3) = some ((gw_I (gw_z X) 162 fb)) := by rw [eσ2, gw_up_ne (by omega)]; exact h3
      have h4 : σ2.2 (m + 4) = some ((gw_I (gw_z X) 54 fl)) := by rw [eσ2, gw_up_ne (by omega)]; exact h4
      have h5 : σ2.2 (m + 5) = some ((gw_I (gw_z X) 9 f5)) := by rw [eσ2, gw_up_ne (by omega)]; exact h5
      have h6 : σ2.2 (m + 6) = some ((gw_I (gw_z X) 162 f6)) := by rw [eσ2, gw_up_ne (by omega)]; exact h6
      have h7 : σ2.2 (m + 7) = some ((gw_I (gw_z X) 54 f7)) := by rw [eσ2, gw_up_ne (by omega)]; exact h7
      have h8 : σ2.2 (m + 8) = some ((gw_J (gw_z X) 148 (fun j => iL (A.wt j)))) := by rw [eσ2, gw_up_ne (by omega)]; exact h8
      have h9 : σ2.2 (m + 9) = some ((gw_J (gw_z X) 148 (fun j => iL (A.tt j)))) := by rw [eσ2, gw_up_ne (by omega)]; exact h9
      have h10 : σ2.2 (m + 10) = some ((gw_J (gw_z X) 24 f10)) := by rw [eσ2, gw_up_ne (by omega)]; exact h10
      have h11 : σ2.2 (m + 11) = some ((gw_I (gw_z X) 6 f11)) := by rw [eσ2, gw_up_ne (by omega)]; exact h11
      have h12 : σ2.2 (m + 12) = some ((gw_J (gw_z X) 7 f12)) := by rw [eσ2, gw_up_ne (by omega)]; exact h12
      have fr : gw_fr σ σ2 m (m + 13) := gw_fr_tr fr (show gw_fr _ σ2 m (m + 13) by rw [eσ2]; exact gw_fr_up _ _ _ (by omega) (by omega))
      refine gw_aload_n hX nd_Mo_label_28 rfl 0 rfl ?_
      refine gw_get hX kf_Mo_51 nd_Mo_label_29 h0 rfl ?_
      refine gw_if_le (tgt := 39) hX nd_Mo_label_32 rfl (fun hb => ?_) (fun hb => ?_)
      · have hb : 1 ≤ 0 := (nI_leI (a := 1) (b := 0) (by omega) (by omega)).mp hb
        exfalso; omega
      · have hb : ¬ 1 ≤ 0 := fun h => hb ((nI_leI (a := 1) (b := 0) (by omega) (by omega)).mpr h)
        refine gw_iconst (v := nI 0) hX nd_Mo_label_35 rfl ?_
        refine gw_goto (tgt := 49) hX nd_Mo_label_36 rfl ?_
        exact gw_iret hX hQ hr nd_Mo_label_49 (by decide) (by decide) ⟨Or.inr ⟨ab_label_no (Or.inl hxn), rfl, ⟨_, _, _, _, _, _, _, _, _, _, ⟨h0, h1, h2, h3, h4, ⟨_, h5⟩, ⟨_, h6⟩, ⟨_, h7⟩, h8, h9, ⟨_, h10⟩, ⟨_, h11⟩, ⟨_, h12, hz12⟩⟩, hO⟩⟩, (fun b hb9 => fr.2 b (by omega))⟩
    · skip
      have hx0 := hb
      refine gw_iload_n hX nd_Mo_label_12 rfl 1 rfl ?_
      refine gw_aload_n hX nd_Mo_label_13 rfl 0 rfl ?_
      refine gw_get hX kf_Mo_154 nd_Mo_label_14 h0 rfl ?_
      refine gw_icmp_lt (tgt := 24) hX nd_Mo_label_17 rfl (fun hb => ?_) (fun hb => ?_)
      · skip
        obtain ⟨j, hj, rfl⟩ := ix_of (K := A.kw) (by omega) hx0 hb
        refine gw_iconst (v := nI 0) hX nd_Mo_label_24 rfl ?_
        refine gw_put hX kf_Mo_51 nd_Mo_label_25 h0 rfl rfl (Nat.le_of_ble_eq_true rfl) (e' := .inr (1, [.int (nI 0), .int (nI A.len), .ref (m + 1), .int (nI A.ss.length), .ref (m + 2), .ref (m + 3), .ref (m + 4), .int rs, .ref (m + 5), .ref (m + 6), .ref (m + 7), .ref (m + 8), .ref (m + 9), .int (nI A.mk), .int (nI A.ps), .ref (m + 10), .ref (m + 11), .ref (m + 12), .long bs, .long s2, .int be, .int se, .int (nI A.kc), .int (nI A.kw)])) rfl ?_
        obtain ⟨σ3, eσ3⟩ : ∃ hp_, hp_ = gw_up σ m (.inr (1, [.int (nI 0), .int (nI A.len), .ref (m + 1), .int (nI A.ss.length), .ref (m + 2), .ref (m + 3), .ref (m + 4), .int rs, .ref (m + 5), .ref (m + 6), .ref (m + 7), .ref (m + 8), .ref (m + 9), .int (nI A.mk), .int (nI A.ps), .ref (m + 10), .ref (m + 11), .ref (m + 12), .long bs, .long s2, .int be, .int se, .int (nI A.kc), .int (nI A.kw)])) := ⟨_, rfl⟩
        refine gw_heap eσ3.symm ?_
        have h0 : σ3.2 m = some (.inr (1, [.int (nI 0), .int (nI A.len), .ref (m + 1), .int (nI A.ss.length), .ref (m + 2), .ref (m + 3), .ref (m + 4), .int rs, .ref (m + 5), .ref (m + 6), .ref (m + 7), .ref (m + 8), .ref (m + 9), .int (nI A.mk), .int (nI A.ps), .ref (m + 10), .ref (m + 11), .ref (m + 12), .long bs, .long s2, .int be, .int se, .int (nI A.kc), .int (nI A.kw)])) := by rw [eσ3]; exact gw_up_eq _ _ _
        have h1 : σ3.2 (m + 1) = some ((gw_I (gw_z X) 240 (fun j => nI (A.ch j)))) := by rw [eσ3, gw_up_ne (by omega)]; exact h1
        have h2 : σ3.2 (m + 2) = some ((gw_I (gw_z X) 9 fm)) := by rw [eσ3, gw_up_ne (by omega)]; exact h2
        have h3 : σ3.2 (m + 3) = some ((gw_I (gw_z X) 162 fb)) := by rw [eσ3, gw_up_ne (by omega)]; exact h3
        have h4 : σ3.2 (m + 4) = some ((gw_I (gw_z X) 54 fl)) := by rw [eσ3, gw_up_ne (by omega)]; exact h4
        have h5 : σ3.2 (m + 5) = some ((gw_I (gw_z X) 9 f5)) := by rw [eσ3, gw_up_ne (by omega)]; exact h5
        have h6 : σ3.2 (m + 6) = some ((gw_I (gw_z X) 162 f6)) := by rw [eσ3, gw_up_ne (by omega)]; exact h6
        have h7 : σ3.2 (m + 7) = some ((gw_I (gw_z X) 54 f7)) := by rw [eσ3, gw_up_ne (by omega)]; exact h7
        have h8 : σ3.2 (m + 8) = some ((gw_J (gw_z X) 148 (fun j => iL (A.wt j)))) := by rw [eσ3, gw_up_ne (by omega)]; exact h8
        have h9 : σ3.2 (m + 9) = some ((gw_J (gw_z X) 148 (fun j => iL (A.tt j)))) := by rw [eσ3, gw_up_ne (by omega)]; exact h9
        have h10 : σ3.2 (m + 10) = some ((gw_J (gw_z X) 24 f10)) := by rw [eσ3, gw_up_ne (by omega)]; exact h10
        have h11 : σ3.2 (m + 11) = some ((gw_I (gw_z X) 6 f11)) := by rw [eσ3, gw_up_ne (by omega)]; exact h11
        have h12 : σ3.2 (m + 12) = some ((gw_J (gw_z X) 7 f12)) := by rw [eσ3, gw_up_ne (by omega)]; exact h12
        have fr : gw_fr σ σ3 m (m + 13) := gw_fr_tr fr (show gw_fr _ σ3 m (m + 13) by rw [eσ3]; exact gw_fr_up _ _ _ (by omega) (by omega))
        refine gw_aload_n hX nd_Mo_label_28 rfl 0 rfl ?_
        refine gw_get hX kf_Mo_51 nd_Mo_label_29 h0 rfl ?_
        refine gw_if_le (tgt := 39) hX nd_Mo_label_32 rfl (fun hb => ?_) (fun hb => ?_)
        · have hb : 0 ≤ 0 := (nI_leI (a := 0) (b := 0) (by omega) (by omega)).mp hb
          refine gw_aload_n hX nd_Mo_label_39 rfl 0 rfl ?_
          refine gw_get hX kf_Mo_47 nd_Mo_label_40 h0 rfl ?_
          refine gw_iconst (v := nI 2) hX nd_Mo_label_43 rfl ?_
          refine gw_iload_n hX nd_Mo_label_44 rfl 1 rfl ?_
          refine gw_imul hX nd_Mo_label_45 ?_
          refine gw_topi (y := nI (2 * j)) (pk_mul _ _) ?_
          refine gw_ishr hX nd_Mo_label_46 ?_
          refine gw_iconst (v := nI 3) hX nd_Mo_label_47 rfl ?_
          refine gw_iand hX nd_Mo_label_48 ?_
          refine gw_topi (y := nI (lb_at (nI A.kc) j)) (lb_s _ (by omega)) ?_
          exact gw_iret hX hQ hr nd_Mo_label_49 (by decide) (by decide) ⟨Or.inl ⟨_, ab_label_of hj hk6, by rw [lb_nI (by omega)], ⟨_, _, _, _, _, _, _, _, _, _, ⟨h0, h1, h2, h3, h4, ⟨_, h5⟩, ⟨_, h6⟩, ⟨_, h7⟩, h8, h9, ⟨_, h10⟩, ⟨_, h11⟩, ⟨_, h12, hz12⟩⟩, hO⟩⟩, (fun b hb9 => fr.2 b (by omega))⟩
        · have hb : ¬ 0 ≤ 0 := fun h => hb ((nI_leI (a := 0) (b := 0) (by omega) (by omega)).mpr h)
          exfalso; omega
      · skip
        have hxn := hb
        refine gw_iconst (v := nI 1) hX nd_Mo_label_20 rfl ?_
        refine gw_goto (tgt := 25) hX nd_Mo_label_21 rfl ?_
        refine gw_put hX kf_Mo_51 nd_Mo_label_25 h0 rfl rfl (Nat.le_of_ble_eq_true rfl) (e' := .inr (1, [.int (nI 1), .int (nI A.len), .ref (m + 1), .int (nI A.ss.length), .ref (m + 2), .ref (m + 3), .ref (m + 4), .int rs, .ref (m + 5), .ref (m + 6), .ref (m + 7), .ref (m + 8), .ref (m + 9), .int (nI A.mk), .int (nI A.ps), .ref (m + 10), .ref (m + 11), .ref (m + 12), .long bs, .long s2, .int be, .int se, .int (nI A.kc), .int (nI A.kw)])) rfl ?_
        obtain ⟨σ4, eσ4⟩ : ∃ hp_, hp_ = gw_up σ m (.inr (1, [.int (nI 1), .int (nI A.len), .ref (m + 1), .int (nI A.ss.length), .ref (m + 2), .ref (m + 3), .ref (m + 4), .int rs, .ref (m + 5), .ref (m + 6), .ref (m + 7), .ref (m + 8), .ref (m + 9), .int (nI A.mk), .int (nI A.ps), .ref (m + 10), .ref (m + 11), .ref (m + 12), .long bs, .long s2, .int be, .int se, .int (nI A.kc), .int (nI A.kw)])) := ⟨_, rfl⟩
        refine gw_heap eσ4.symm ?_
        have h0 : σ4.2 m = some (.inr (1, [.int (nI 1), .int (nI A.len), .ref (m + 1), .int (nI A.ss.length), .ref (m + 2), .ref (m + 3), .ref (m + 4), .int rs, .ref (m + 5), .ref (m + 6), .ref (m + 7), .ref (m + 8), .ref (m + 9), .int (nI A.mk), .int (nI A.ps), .ref (m + 10), .ref (m + 11), .ref (m + 12), .long bs, .long s2, .int be, .int se, .int (nI A.kc), .int (nI A.kw)])) := by rw [eσ4]; exact gw_up_eq _ _ _
        have h1 : σ4.2 (m + 1) = some ((gw_I (gw_z X) 240 (fun j => nI (A.ch j)))) := by rw [eσ4, gw_up_ne (by omega)]; exact h1
        have h2 : σ4.2 (m + 2) = some ((gw_I (gw_z X) 9 fm)) := by rw [eσ4, gw_up_ne (by omega)]; exact h2
        have h3 : σ4.2 (m + 3) = some ((gw_I (gw_z X) 162 fb)) := by rw [eσ4, gw_up_ne (by omega)]; exact h3
        have h4 : σ4.2 (m + 4) = some ((gw_I (gw_z X) 54 fl)) := by rw [eσ4, gw_up_ne (by omega)]; exact h4
        have h5 : σ4.2 (m + 5) = some ((gw_I (gw_z X) 9 f5)) := by rw [eσ4, gw_up_ne (by omega)]; exact h5
        have h6 : σ4.2 (m + 6) = some ((gw_I (gw_z X) 162 f6)) := by rw [eσ4, gw_up_ne (by omega)]; exact h6
        have h7 : σ4.2 (m + 7) = some ((gw_I (gw_z X) 54 f7)) := by rw [eσ4, gw_up_ne (by omega)]; exact h7
        have h8 : σ4.2 (m + 8) = some ((gw_J (gw_z X) 148 (fun j => iL (A.wt j)))) := by rw [eσ4, gw_up_ne (by omega)]; exact h8
        have h9 : σ4.2 (m + 9) = some ((gw_J (gw_z X) 148 (fun j => iL (A.tt j)))) := by rw [eσ4, gw_up_ne (by omega)]; exact h9
        have h10 : σ4.2 (m + 10) = some ((gw_J (gw_z X) 24 f10)) := by rw [eσ4, gw_up_ne (by omega)]; exact h10
        have h11 : σ4.2 (m + 11) = some ((gw_I (gw_z X) 6 f11)) := by rw [eσ4, gw_up_ne (by omega)]; exact h11
        have h12 : σ4.2 (m + 12) = some ((gw_J (gw_z X) 7 f12)) := by rw [eσ4, gw_up_ne (by omega)]; exact h12
        have fr : gw_fr σ σ4 m (m + 13) := gw_fr_tr fr (show gw_fr _ σ4 m (m + 13) by rw [eσ4]; exact gw_fr_up _ _ _ (by omega) (by omega))
        refine gw_aload_n hX nd_Mo_label_28 rfl 0 rfl ?_
        refine gw_get hX kf_Mo_51 nd_Mo_label_29 h0 rfl ?_
        refine gw_if_le (tgt := 39) hX nd_Mo_label_32 rfl (fun hb => ?_) (fun hb => ?_)
        · have hb : 1 ≤ 0 := (nI_leI (a := 1) (b := 0) (by omega) (by omega)).mp hb
          exfalso; omega
        · have hb : ¬ 1 ≤ 0 := fun h => hb ((nI_leI (a := 1) (b := 0) (by omega) (by omega)).mpr h)
          refine gw_iconst (v := nI 0) hX nd_Mo_label_35 rfl ?_
          refine gw_goto (tgt := 49) hX nd_Mo_label_36 rfl ?_
          exact gw_iret hX hQ hr nd_Mo_label_49 (by decide) (by decide) ⟨Or.inr ⟨ab_label_no (Or.inr hxn), rfl, ⟨_, _, _, _, _, _, _, _, _, _, ⟨h0, h1, h2, h3, h4, ⟨_, h5⟩, ⟨_, h6⟩, ⟨_, h7⟩, h8, h9, ⟨_, h10⟩, ⟨_, h11⟩, ⟨_, h12, hz12⟩⟩, hO⟩⟩, (fun b hb9 => fr.2 b (by omega))⟩
set_option maxRecDepth 100000 in
set_option maxHeartbeats 4000000 in
theorem ct_Mo_cut (l : Launch) (Z : gw_Z) (b0 : Nat) (σ : gw_S) (m : Nat) (A : ab_A) (hA : ab_ok A) {th rs be se kp kw : Int32} {bs s2 : Int64} {fm fb fl : Nat → Int32} (hM : mw_at σ Z m A th rs be se kp kw bs s2 fm fb fl) (hO : mw_ok A kp kw fm fb fl) (x : Int32) : gw_M l ny_Mo_cut nc_Mo_cut (2, 0, 0, 0, 0) (some .boolean) Z b0 σ [.ref m, .int x] (fun v σ' => (∃ (u : Nat) (A' : ab_A), ab_c A x u A' ∧ u < 2 ∧ v = some (.int (nI u)) ∧ mw σ' Z m A' 0) ∧ (∀ b, b < m ∨ m + 13 ≤ b → σ'.2 b = σ.2 b)) := by
  refine gw_M_of rfl (Nat.le_of_ble_eq_true rfl) ?_
  intro X hX hl hz hb0 hr hnm hQ
  subst hz hb0 hl
  have hX : gw_ok X nc_Mo_cut "LabelLearnerModel" (2, 0, 0, 0, 0) := hX
  show gw_W X σ 0 0 0 [(0, .ref m), (1, .int x)] []
  have fr : gw_fr σ σ m (m + 13) := gw_fr_rf _ _ _
  obtain ⟨h0, h1, h2, h3, h4, ⟨f5, h5⟩, ⟨f6, h6⟩, ⟨f7, h7⟩, h8, h9, ⟨f10, h10⟩, ⟨f11, h11⟩, ⟨f12, h12, hz12⟩⟩ := id hM
  have hl8 := hA.2.2.1
  have hsp6 := hA.2.2.2.2.1.2
  have hln := hA.1
  refine gw_aload_n hX nd_Mo_cut_0 rfl 0 rfl ?_
  refine gw_iconst (v := nI 0) hX nd_Mo_cut_1 rfl ?_
  refine gw_put hX kf_Mo_51 nd_Mo_cut_2 h0 rfl rfl (Nat.le_of_ble_eq_true rfl) (e' := .inr (1, [.int (nI 0), .int (nI A.len), .ref (m + 1), .int (nI A.ss.length), .ref (m + 2), .ref (m + 3), .ref (m + 4), .int rs, .ref (m + 5), .ref (m + 6), .ref (m + 7), .ref (m + 8), .ref (m + 9), .int (nI A.mk), .int (nI A.ps), .ref (m + 10), .ref (m + 11), .ref (m + 12), .long bs, .long s2, .int be, .int se, .int kp, .int kw])) rfl ?_
  obtain ⟨σ1, eσ1⟩ : ∃ hp_, hp_ = gw_up σ m (.inr (1, [.int (nI 0), .int (nI A.len), .ref (m + 1), .int (nI A.ss.length), .ref (m + 2), .ref (m + 3), .ref (m + 4), .int rs, .ref (m + 5), .ref (m + 6), .ref (m + 7), .ref (m + 8), .ref (m + 9), .int (nI A.mk), .int (nI A.ps), .ref (m + 10), .ref (m + 11), .ref (m + 12), .long bs, .long s2, .int be, .int se, .int kp, .int kw])) := ⟨_, rfl⟩
  refine gw_heap eσ1.symm ?_
  have h0 : σ1.2 m = some (.inr (1, [.int (nI 0), .int (nI A.len), .ref (m + 1), .int (nI A.ss.length), .ref (m + 2), .ref (m + 3), .ref (m + 4), .int rs, .ref (m + 5), .ref (m + 6), .ref (m + 7), .ref (m + 8), .ref (m + 9), .int (nI A.mk), .int (nI A.ps), .ref (m + 10), .ref (m + 11), .ref (m + 12), .long bs, .long s2, .int be, .int se, .int kp, .int kw])) := by rw [eσ1]; exact gw_up_eq _ _ _
  have h1 : σ1.2 (m + 1) = some ((gw_I (gw_z X) 240 (fun j => nI (A.ch j)))) := by rw [eσ1, gw_up_ne (by omega)]; exact h1
  have h2 : σ1.2 (m + 2) = some ((gw_I (gw_z X) 9 fm)) := by rw [eσ1, gw_up_ne (by omega)]; exact h2
  have h3 : σ1.2 (m + 3) = some ((gw_I (gw_z X) 162 fb)) := by rw [eσ1, gw_up_ne (by omega)]; exact h3
  have h4 : σ1.2 (m + 4) = some ((gw_I (gw_z X) 54 fl)) := by rw [eσ1, gw_up_ne (by omega)]; exact h4
  have h5 : σ1.2 (m + 5) = some ((gw_I (gw_z X) 9 f5)) := by rw [eσ1, gw_up_ne (by omega)]; exact h5
  have h6 : σ1.2 (m + 6) = some ((gw_I (gw_z X) 162 f6)) := by rw [eσ1, gw_up_ne (by omega)]; exact h6
  have h7 : σ1.2 (m + 7) = some ((gw_I (gw_z X) 54 f7)) := by rw [eσ1, gw_up_ne (by omega)]; exact h7
  have h8 : σ1.2 (m + 8) = some ((gw_J (gw_z X) 148 (fun j => iL (A.wt j)))) := by rw [eσ1, gw_up_ne (by omega)]; exact h8
  have h9 : σ1.2 (m + 9) = some ((gw_J (gw_z X) 148 (fun j => iL (A.tt j)))) := by rw [eσ1, gw_up_ne (by omega)]; exact h9
  have h10 : σ1.2 (m + 10) = some ((gw_J (gw_z X) 24 f10)) := by rw [eσ1, gw_up_ne (by omega)]; exact h10
  have h11 : σ1.2 (m + 11) = some ((gw_I (gw_z X) 6 f11)) := by rw [eσ1, gw_up_ne (by omega)]; exact h11
  have h12 : σ1.2 (m + 12) = some ((gw_J (gw_z X) 7 f12)) := by rw [eσ1, gw_up_ne (by omega)]; exact h12
  have fr : gw_fr σ σ1 m (m + 13) := gw_fr_tr fr (show gw_fr _ σ1 m (m + 13) by rw [eσ1]; exact gw_fr_up _ _ _ (by omega) (by omega))
  refine gw_iload_n hX nd_Mo_cut_5 rfl 1 rfl ?_
  refine gw_if_lt (tgt := 17) hX nd_Mo_cut_6 rfl (fun hb => ?_) (fun hb => ?_)
  · skip
    refine gw_iconst (v := nI 0) hX nd_Mo_cut_17 rfl ?_
    exact gw_zret hX hQ hr nd_Mo_cut_18 rfl (by decide) (by decide) ⟨⟨0, A, Or.inr ⟨fun c hc e => nI_pos (n := c) (by omega) (by rw [← e]; exact hb), rfl, rfl⟩, by omega, rfl, ⟨_, _, _, _, _, _, _, _, _, _, ⟨h0, h1, h2, h3, h4, ⟨_, h5⟩, ⟨_, h6⟩, ⟨_, h7⟩, h8, h9, ⟨_, h10⟩, ⟨_, h11⟩, ⟨_, h12, hz12⟩⟩, hO⟩⟩, (fun b hb9 => fr.2 b (by omega))⟩
  · skip
    have hx0 := hb
    refine gw_iload_n hX nd_Mo_cut_9 rfl 1 rfl ?_
    refine gw_aload_n hX nd_Mo_cut_10 rfl 0 rfl ?_
    refine gw_get hX kf_Mo_56 nd_Mo_cut_11 h0 rfl ?_
    refine gw_icmp_le (tgt := 19) hX nd_Mo_cut_14 rfl (fun hb => ?_) (fun hb => ?_)
    · skip
      have hln := hA.1
      obtain ⟨c, hc, rfl⟩ := nI_of2 (M := nI A.len) (n := A.len) (nI_toInt (by omega)) hx0 hb
      refine gw_aload_n hX nd_Mo_cut_19 rfl 0 rfl ?_
      refine gw_iload_n hX nd_Mo_cut_20 rfl 1 rfl ?_
      refine gw_put hX kf_Mo_56 nd_Mo_cut_21 h0 rfl rfl (Nat.le_of_ble_eq_true rfl) (e' := .inr (1, [.int (nI 0), .int (nI c), .ref (m + 1), .int (nI A.ss.length), .ref (m + 2), .ref (m + 3), .ref (m + 4), .int rs, .ref (m + 5), .ref (m + 6), .ref (m + 7), .ref (m + 8), .ref (m + 9), .int (nI A.mk), .int (nI A.ps), .ref (m + 10), .ref (m + 11), .ref (m + 12), .long bs, .long s2, .int be, .int se, .int kp, .int kw])) rfl ?_
      obtain ⟨σ2, eσ2⟩ : ∃ hp_, hp_ = gw_up σ1 m (.inr (1, [.int (nI 0), .int (nI c), .ref (m + 1), .int (nI A.ss.length), .ref (m + 2), .ref (m + 3), .ref (m + 4), .int rs, .ref (m + 5), .ref (m + 6), .ref (m + 7), .ref (m + 8), .ref (m + 9), .int (nI A.mk), .int (nI A.ps), .ref (m + 10), .ref (m + 11), .ref (m + 12), .long bs, .long s2, .int be, .int se, .int kp, .int kw])) := ⟨_, rfl⟩
      refine gw_heap eσ2.symm ?_
      have h0 : σ2.2 m = some (.inr (1, [.int (nI 0), .int (nI c), .ref (m + 1), .int (nI A.ss.length), .ref (m + 2), .ref (m + 3), .ref (m + 4), .int rs, .ref (m + 5), .ref (m + 6), .ref (m + 7), .ref (m + 8), .ref (m + 9), .int (nI A.mk), .int (nI A.ps), .ref (m + 10), .ref (m + 11), .ref (m + 12), .long bs, .long s2, .int be, .int se, .int kp, .int kw])) := by rw [eσ2]; exact gw_up_eq _ _ _
      have h1 : σ2.2 (m + 1) = some ((gw_I (gw_z X) 240 (fun j => nI (A.ch j)))) := by rw [eσ2, gw_up_ne (by omega)]; exact h1
      have h2 : σ2.2 (m + 2) = some ((gw_I (gw_z X) 9 fm)) := by rw [eσ2, gw_up_ne (by omega)]; exact h2
      have h3 : σ2.2 (m + 3) = some ((gw_I (gw_z X) 162 fb)) := by rw [eσ2, gw_up_ne (by omega)]; exact h3
      have h4 : σ2.2 (m + 4) = some ((gw_I (gw_z X) 54 fl)) := by rw [eσ2, gw_up_ne (by omega)]; exact h4
      have h5 : σ2.2 (m + 5) = some ((gw_I (gw_z X) 9 f5)) := by rw [eσ2, gw_up_ne (by omega)]; exact h5
      have h6 : σ2.2 (m + 6) = some ((gw_I (gw_z X) 162 f6)) := by rw [eσ2, gw_up_ne (by omega)]; exact h6
      have h7 : σ2.2 (m + 7) = some ((gw_I (gw_z X) 54 f7)) := by rw [eσ2, gw_up_ne (by omega)]; exact h7
      have h8 : σ2.2 (m + 8) = some ((gw_J (gw_z X) 148 (fun j => iL (A.wt j)))) := by rw [eσ2, gw_up_ne (by omega)]; exact h8
      have h9 : σ2.2 (m + 9) = some ((gw_J (gw_z X) 148 (fun j => iL (A.tt j)))) := by rw [eσ2, gw_up_ne (by omega)]; exact h9
      have h10 : σ2.2 (m + 10) = some ((gw_J (gw_z X) 24 f10)) := by rw [eσ2, gw_up_ne (by omega)]; exact h10
      have h11 : σ2.2 (m + 11) = some ((gw_I (gw_z X) 6 f11)) := by rw [eσ2, gw_up_ne (by omega)]; exact h11
      have h12 : σ2.2 (m + 12) = some ((gw_J (gw_z X) 7 f12)) := by rw [eσ2, gw_up_ne (by omega)]; exact h12
      have fr : gw_fr σ σ2 m (m + 13) := gw_fr_tr fr (show gw_fr _ σ2 m (m + 13) by rw [eσ2]; exact gw_fr_up _ _ _ (by omega) (by omega))
      refine gw_iconst (v := nI 1) hX nd_Mo_cut_24 rfl ?_
      exact gw_zret hX hQ hr nd_Mo_cut_25 rfl (by decide) (by decide) ⟨⟨1, ab_tx A c A.ch, Or.inl ⟨c, rfl, hc, rfl, rfl⟩, by omega, rfl, ⟨_, _, _, _, _, _, _, _, _, _, ⟨h0, h1, h2, h3, h4, ⟨_, h5⟩, ⟨_, h6⟩, ⟨_, h7⟩, h8, h9, ⟨_, h10⟩, ⟨_, h11⟩, ⟨_, h12, hz12⟩⟩, hO⟩⟩, (fun b hb9 => fr.2 b (by omega))⟩
    · skip
      refine gw_iconst (v := nI 0) hX nd_Mo_cut_17 rfl ?_
      exact gw_zret hX hQ hr nd_Mo_cut_18 rfl (by decide) (by decide) ⟨⟨0, A, Or.inr ⟨fun c hc e => hb (by rw [e]; exact nI_le hc (by omega)), rfl, rfl⟩, by omega, rfl, ⟨_, _, _, _, _, _, _, _, _, _, ⟨h0, h1, h2, h3, h4, ⟨_, h5⟩, ⟨_, h6⟩, ⟨_, h7⟩, h8, h9, ⟨_, h10⟩, ⟨_, h11⟩, ⟨_, h12, hz12⟩⟩, hO⟩⟩, (fun b hb9 => fr.2 b (by omega))⟩
