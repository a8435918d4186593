set_option maxRecDepth 100000 in
set_option maxHeartbeats 4000000 in
theorem ct_Ra_clear (l : Launch) (Z : gw_Z) (b0 : Nat) (σ : gw_S) (a : Nat) (h : rk_any σ Z a) : gw_M l ny_Ra_clear nc_Ra_clear (1, 0, 0, 0, 0) none Z b0 σ [.ref a] (fun v σ' => v = none ∧ rk_at σ' Z a [] ∧ gw_fr σ σ' a (a + 3)) := by
  refine gw_M_of rfl (Nat.le_of_ble_eq_true rfl) ?_
  intro X hX hl hz hb0 hr hnm hQ
  subst hz hb0 hl
  have hX : gw_ok X nc_Ra_clear "LabelLearner$Ranking" (1, 0, 0, 0, 0) := hX
  show gw_W X σ 0 0 0 [(0, .ref a)] []
  have fr : gw_fr σ σ a (a + 3) := gw_fr_rf _ _ _
  obtain ⟨k0, fs, fl, h0, h1, h2⟩ := h
  refine gw_aload_n hX nd_Ra_clear_0 rfl 0 rfl ?_
  refine gw_iconst (v := nI 0) hX nd_Ra_clear_1 rfl ?_
  refine gw_put hX kf_Ra_19 nd_Ra_clear_2 h0 rfl rfl (Nat.le_of_ble_eq_true rfl) (e' := .inr (4, [.ref (a + 1), .ref (a + 2), .int (nI 0)])) rfl ?_
  obtain ⟨σ1, eσ1⟩ : ∃ hp_, hp_ = gw_up σ a (.inr (4, [.ref (a + 1), .ref (a + 2), .int (nI 0)])) := ⟨_, rfl⟩
  refine gw_heap eσ1.symm ?_
  have h0 : σ1.2 a = some (.inr (4, [.ref (a + 1), .ref (a + 2), .int (nI 0)])) := by rw [eσ1]; exact gw_up_eq _ _ _
  have h1 : σ1.2 (a + 1) = some ((gw_J (gw_z X) 2 fs)) := by rw [eσ1, gw_up_ne (by omega)]; exact h1
  have h2 : σ1.2 (a + 2) = some ((gw_I (gw_z X) 2 fl)) := by rw [eσ1, gw_up_ne (by omega)]; exact h2
  have fr : gw_fr σ σ1 a (a + 3) := gw_fr_tr fr (show gw_fr _ σ1 a (a + 3) by rw [eσ1]; exact gw_fr_up _ _ _ (by omega) (by omega))
  exact gw_vret hX hQ hr nd_Ra_clear_5 (by decide) (by decide) ⟨rfl, ⟨fs, fl, h0, h1, h2, fun i x hx => by simp at hx⟩, fr⟩
set_option maxRecDepth 100000 in
set_option maxHeartbeats 4000000 in
theorem co_Ra_offer0 (l : Launch) (Z : gw_Z) (b0 : Nat) (σ : gw_S) (a : Nat) (s : Int) (c : Nat) (fs : Nat → Int64) (fl : Nat → Int32) (hs : -4611686018427387904 ≤ s ∧ s ≤ 4611686018427387904) (h0 : σ.2 a = some (.inr (4, [.ref (a + 1), .ref (a + 2), .int (nI 0)]))) (h1 : σ.2 (a + 1) = some (gw_J Z 2 fs)) (h2 : σ.2 (a + 2) = some (gw_I Z 2 fl)) : gw_M l ny_Ra_offer nc_Ra_offer (4, 0, 0, 0, 0) none Z b0 σ [.ref a, .long (iL s), .int (nI c)] (fun v σ' => v = none ∧ rk_at σ' Z a (tk_offer [] (s, c)) ∧ gw_fr σ σ' a (a + 3)) := by
  refine gw_M_of rfl (Nat.le_of_ble_eq_true rfl) ?_
  intro X hX hl hz hb0 hr hnm hQ
  subst hz hb0 hl
  have hX : gw_ok X nc_Ra_offer "LabelLearner$Ranking" (4, 0, 0, 0, 0) := hX
  show gw_W X σ 0 0 0 [(0, .ref a), (1, .long (iL s)), (3, .int (nI c))] []
  have fr : gw_fr σ σ a (a + 3) := gw_fr_rf _ _ _
  refine gw_aload_n hX nd_Ra_offer_0 rfl 0 rfl ?_
  refine gw_get hX kf_Ra_19 nd_Ra_offer_1 h0 rfl ?_
  refine gw_if_eq (tgt := 18) hX nd_Ra_offer_4 rfl (fun hb => ?_) (fun hb => ?_)
  · have hb : 0 = 0 := (nI_eq (a := 0) (b := 0) (by omega) (by omega)).mp hb
    refine gw_aload_n hX nd_Ra_offer_18 rfl 0 rfl ?_
    refine gw_get hX kf_Ra_9 nd_Ra_offer_19 h0 rfl ?_
    refine gw_iconst (v := nI 1) hX nd_Ra_offer_22 rfl ?_
    refine gw_aload_n hX nd_Ra_offer_23 rfl 0 rfl ?_
    refine gw_get hX kf_Ra_9 nd_Ra_offer_24 h0 rfl ?_
    refine gw_iconst (v := nI 0) hX nd_Ra_offer_27 rfl ?_
    refine gw_lald hX nd_Ra_offer_28 h1 0 rfl (by omega) (by decide) ?_
    refine gw_last hX nd_Ra_offer_29 h1 1 rfl (by omega) (by decide) ?_
    obtain ⟨σ1, eσ1⟩ : ∃ hp_, hp_ = gw_up σ (a + 1) ((gw_J (gw_z X) 2 (vp_updL fs 1 (fs 0)))) := ⟨_, rfl⟩
    refine gw_heap eσ1.symm ?_
    have h0 : σ1.2 a = some (.inr (4, [.ref (a + 1), .ref (a + 2), .int (nI 0)])) := by rw [eσ1, gw_up_ne (by omega)]; exact h0
    have h1 : σ1.2 (a + 1) = some ((gw_J (gw_z X) 2 (vp_updL fs 1 (fs 0)))) := by rw [eσ1]; exact gw_up_eq _ _ _
    have h2 : σ1.2 (a + 2) = some ((gw_I (gw_z X) 2 fl)) := by rw [eσ1, gw_up_ne (by omega)]; exact h2
    have fr : gw_fr σ σ1 a (a + 3) := gw_fr_tr fr (show gw_fr _ σ1 a (a + 3) by rw [eσ1]; exact gw_fr_up _ _ _ (by omega) (by omega))
    refine gw_aload_n hX nd_Ra_offer_30 rfl 0 rfl ?_
    refine gw_get hX kf_Ra_15 nd_Ra_offer_31 h0 rfl ?_
    refine gw_iconst (v := nI 1) hX nd_Ra_offer_34 rfl ?_
    refine gw_aload_n hX nd_Ra_offer_35 rfl 0 rfl ?_
    refine gw_get hX kf_Ra_15 nd_Ra_offer_36 h0 rfl ?_
    refine gw_iconst (v := nI 0) hX nd_Ra_offer_39 rfl ?_
    refine gw_iald hX nd_Ra_offer_40 h2 0 rfl (by omega) (by decide) ?_
    refine gw_iast hX nd_Ra_offer_41 h2 1 rfl (by omega) (by decide) ?_
    obtain ⟨σ2, eσ2⟩ : ∃ hp_, hp_ = gw_up σ1 (a + 2) ((gw_I (gw_z X) 2 (upd fl 1 (fl 0)))) := ⟨_, rfl⟩
    refine gw_heap eσ2.symm ?_
    have h0 : σ2.2 a = some (.inr (4, [.ref (a + 1), .ref (a + 2), .int (nI 0)])) := by rw [eσ2, gw_up_ne (by omega)]; exact h0
    have h1 : σ2.2 (a + 1) = some ((gw_J (gw_z X) 2 (vp_updL fs 1 (fs 0)))) := by rw [eσ2, gw_up_ne (by omega)]; exact h1
    have h2 : σ2.2 (a + 2) = some ((gw_I (gw_z X) 2 (upd fl 1 (fl 0)))) := by rw [eσ2]; exact gw_up_eq _ _ _
    have fr : gw_fr σ σ2 a (a + 3) := gw_fr_tr fr (show gw_fr _ σ2 a (a + 3) by rw [eσ2]; exact gw_fr_up _ _ _ (by omega) (by omega))
    refine gw_aload_n hX nd_Ra_offer_42 rfl 0 rfl ?_
    refine gw_get hX kf_Ra_9 nd_Ra_offer_43 h0 rfl ?_
    refine gw_iconst (v := nI 0) hX nd_Ra_offer_46 rfl ?_
    refine gw_lload_n hX nd_Ra_offer_47 rfl 1 rfl ?_
    refine gw_last hX nd_Ra_offer_48 h1 0 rfl (by omega) (by decide) ?_
    obtain ⟨σ3, eσ3⟩ : ∃ hp_, hp_ = gw_up σ2 (a + 1) ((gw_J (gw_z X) 2 (vp_updL (vp_updL fs 1 (fs 0)) 0 (iL s)))) := ⟨_, rfl⟩
    refine gw_heap eσ3.symm ?_
    have h0 : σ3.2 a = some (.inr (4, [.ref (a + 1), .ref (a + 2), .int (nI 0)])) := by rw [eσ3, gw_up_ne (by omega)]; exact h0
    have h1 : σ3.2 (a + 1) = some ((gw_J (gw_z X) 2 (vp_updL (vp_updL fs 1 (fs 0)) 0 (iL s)))) := by rw [eσ3]; exact gw_up_eq _ _ _
    have h2 : σ3.2 (a + 2) = some ((gw_I (gw_z X) 2 (upd fl 1 (fl 0)))) := by rw [eσ3, gw_up_ne (by omega)]; exact h2
    have fr : gw_fr σ σ3 a (a + 3) := gw_fr_tr fr (show gw_fr _ σ3 a (a + 3) by rw [eσ3]; exact gw_fr_up _ _ _ (by omega) (by omega))
    refine gw_aload_n hX nd_Ra_offer_49 rfl 0 rfl ?_
    refine gw_get hX kf_Ra_15 nd_Ra_offer_50 h0 rfl ?_
    refine gw_iconst (v := nI 0) hX nd_Ra_offer_53 rfl ?_
    refine gw_iload_n hX nd_Ra_offer_54 rfl 2 rfl ?_
    refine gw_iast hX nd_Ra_offer_55 h2 0 rfl (by omega) (by decide) ?_
    obtain ⟨σ4, eσ4⟩ : ∃ hp_, hp_ = gw_up σ3 (a + 2) ((gw_I (gw_z X) 2 (upd (upd fl 1 (fl 0)) 0 (nI c)))) := ⟨_, rfl⟩
    refine gw_heap eσ4.symm ?_
    have h0 : σ4.2 a = some (.inr (4, [.ref (a + 1), .ref (a + 2), .int (nI 0)])) := by rw [eσ4, gw_up_ne (by omega)]; exact h0
    have h1 : σ4.2 (a + 1) = some ((gw_J (gw_z X) 2 (vp_updL (vp_updL fs 1 (fs 0)) 0 (iL s)))) := by rw [eσ4, gw_up_ne (by omega)]; exact h1
    have h2 : σ4.2 (a + 2) = some ((gw_I (gw_z X) 2 (upd (upd fl 1 (fl 0)) 0 (nI c)))) := by rw [eσ4]; exact gw_up_eq _ _ _
    have fr : gw_fr σ σ4 a (a + 3) := gw_fr_tr fr (show gw_fr _ σ4 a (a + 3) by rw [eσ4]; exact gw_fr_up _ _ _ (by omega) (by omega))
    refine gw_goto (tgt := 92) hX nd_Ra_offer_56 rfl ?_
    refine gw_aload_n hX nd_Ra_offer_92 rfl 0 rfl ?_
    refine gw_get hX kf_Ra_19 nd_Ra_offer_93 h0 rfl ?_
    refine gw_iconst (v := nI 2) hX nd_Ra_offer_96 rfl ?_
    refine gw_icmp_ge (tgt := 110) hX nd_Ra_offer_97 rfl (fun hb => ?_) (fun hb => ?_)
    · have hb : 2 ≤ 0 := (nI_leI (a := 2) (b := 0) (by omega) (by omega)).mp hb
      exfalso; omega
    · have hb : ¬ 2 ≤ 0 := fun h => hb ((nI_leI (a := 2) (b := 0) (by omega) (by omega)).mpr h)
      refine gw_aload_n hX nd_Ra_offer_100 rfl 0 rfl ?_
      refine gw_dup hX nd_Ra_offer_101 rfl ?_
      refine gw_get hX kf_Ra_19 nd_Ra_offer_102 h0 rfl ?_
      refine gw_iconst (v := nI 1) hX nd_Ra_offer_105 rfl ?_
      refine gw_iadd hX nd_Ra_offer_106 ?_
      refine gw_topi (y := nI 1) (nI_add _ _) ?_
      refine gw_put hX kf_Ra_19 nd_Ra_offer_107 h0 rfl rfl (Nat.le_of_ble_eq_true rfl) (e' := .inr (4, [.ref (a + 1), .ref (a + 2), .int (nI 1)])) rfl ?_
      obtain ⟨σ5, eσ5⟩ : ∃ hp_, hp_ = gw_up σ4 a (.inr (4, [.ref (a + 1), .ref (a + 2), .int (nI 1)])) := ⟨_, rfl⟩
      refine gw_heap eσ5.symm ?_
      have h0 : σ5.2 a = some (.inr (4, [.ref (a + 1), .ref (a + 2), .int (nI 1)])) := by rw [eσ5]; exact gw_up_eq _ _ _
      have h1 : σ5.2 (a + 1) = some ((gw_J (gw_z X) 2 (vp_updL (vp_updL fs 1 (fs 0)) 0 (iL s)))) := by rw [eσ5, gw_up_ne (by omega)]; exact h1
      have h2 : σ5.2 (a + 2) = some ((gw_I (gw_z X) 2 (upd (upd fl 1 (fl 0)) 0 (nI c)))) := by rw [eσ5, gw_up_ne (by omega)]; exact h2
      have fr : gw_fr σ σ5 a (a + 3) := gw_fr_tr fr (show gw_fr _ σ5 a (a + 3) by rw [eσ5]; exact gw_fr_up _ _ _ (by omega) (by omega))
      exact gw_vret hX hQ hr nd_Ra_offer_110 (by decide) (by decide) ⟨rfl, ⟨_, _, h0, h1, h2, rk_one (by simp [vp_updL, upd]) (by simp [vp_updL, upd])⟩, fr⟩
  · have hb : ¬ 0 = 0 := fun h => hb ((nI_eq (a := 0) (b := 0) (by omega) (by omega)).mpr h)
    exfalso; omega
set_option maxRecDepth 100000 in
set_option maxHeartbeats 4000000 in
theorem co_Ra_offer1 (l : Launch) (Z : gw_Z) (b0 : Nat) (σ : gw_S) (a : Nat) (s : Int) (c : Nat) (fs : Nat → Int64) (fl : Nat → Int32) (hs : -4611686018427387904 ≤ s ∧ s ≤ 4611686018427387904) (u : Int × Nat) (hu : -4611686018427387904 ≤ u.1 ∧ u.1 ≤ 4611686018427387904) (e0 : fs 0 = iL u.1) (e1 : fl 0 = nI u.2) (h0 : σ.2 a = some (.inr (4, [.ref (a + 1), .ref (a + 2), .int (nI 1)]))) (h1 : σ.2 (a + 1) = some (gw_J Z 2 fs)) (h2 : σ.2 (a + 2) = some (gw_I Z 2 fl)) : gw_M l ny_Ra_offer nc_Ra_offer (4, 0, 0, 0, 0) none Z b0 σ [.ref a, .long (iL s), .int (nI c)] (fun v σ' => v = none ∧ rk_at σ' Z a (tk_offer [u] (s, c)) ∧ gw_fr σ σ' a (a + 3)) := by
  refine gw_M_of rfl (Nat.le_of_ble_eq_true rfl) ?_
  intro X hX hl hz hb0 hr hnm hQ
  subst hz hb0 hl
  have hX : gw_ok X nc_Ra_offer "LabelLearner$Ranking" (4, 0, 0, 0, 0) := hX
  show gw_W X σ 0 0 0 [(0, .ref a), (1, .long (iL s)), (3, .int (nI c))] []
  have fr : gw_fr σ σ a (a + 3) := gw_fr_rf _ _ _
  refine gw_aload_n hX nd_Ra_offer_0 rfl 0 rfl ?_
  refine gw_get hX kf_Ra_19 nd_Ra_offer_1 h0 rfl ?_
  refine gw_if_eq (tgt := 18) hX nd_Ra_offer_4 rfl (fun hb => ?_) (fun hb => ?_)
  · have hb : 1 = 0 := (nI_eq (a := 1) (b := 0) (by omega) (by omega)).mp hb
    exfalso; omega
  · have hb : ¬ 1 = 0 := fun h => hb ((nI_eq (a := 1) (b := 0) (by omega) (by omega)).mpr h)
    refine gw_lload_n hX nd_Ra_offer_7 rfl 1 rfl ?_
    refine gw_aload_n hX nd_Ra_offer_8 rfl 0 rfl ?_
    refine gw_get hX kf_Ra_9 nd_Ra_offer_9 h0 rfl ?_
    refine gw_iconst (v := nI 0) hX nd_Ra_offer_12 rfl ?_
    refine gw_lald hX nd_Ra_offer_13 h1 0 rfl (by omega) (by decide) ?_
    refine gw_topl (y := iL u.1) e0 ?_
    refine gw_lcmp hX nd_Ra_offer_14 ?_
    refine gw_if_le (tgt := 59) hX nd_Ra_offer_15 rfl (fun hb => ?_) (fun hb => ?_)
    · skip
      have hb : s ≤ u.1 := (rk_cmp hs hu).mp hb
      refine gw_aload_n hX nd_Ra_offer_59 rfl 0 rfl ?_
      refine gw_get hX kf_Ra_19 nd_Ra_offer_60 h0 rfl ?_
      refine gw_iconst (v := nI 1) hX nd_Ra_offer_63 rfl ?_
      refine gw_icmp_eq (tgt := 78) hX nd_Ra_offer_64 rfl (fun hb => ?_) (fun hb => ?_)
      · have hb : 1 = 1 := (nI_eq (a := 1) (b := 1) (by omega) (by omega)).mp hb
        refine gw_aload_n hX nd_Ra_offer_78 rfl 0 rfl ?_
        refine gw_get hX kf_Ra_9 nd_Ra_offer_79 h0 rfl ?_
        refine gw_iconst (v := nI 1) hX nd_Ra_offer_82 rfl ?_
        refine gw_lload_n hX nd_Ra_offer_83 rfl 1 rfl ?_
        refine gw_last hX nd_Ra_offer_84 h1 1 rfl (by omega) (by decide) ?_
        obtain ⟨σ1, eσ1⟩ : ∃ hp_, hp_ = gw_up σ (a + 1) ((gw_J (gw_z X) 2 (vp_updL fs 1 (iL s)))) := ⟨_, rfl⟩
        refine gw_heap eσ1.symm ?_
        have h0 : σ1.2 a = some (.inr (4, [.ref (a + 1), .ref (a + 2), .int (nI 1)])) := by rw [eσ1, gw_up_ne (by omega)]; exact h0
        have h1 : σ1.2 (a + 1) = some ((gw_J (gw_z X) 2 (vp_updL fs 1 (iL s)))) := by rw [eσ1]; exact gw_up_eq _ _ _
        have h2 : σ1.2 (a + 2) = some ((gw_I (gw_z X) 2 fl)) := by rw [eσ1, gw_up_ne (by omega)]; exact h2
        have fr : gw_fr σ σ1 a (a + 3) := gw_fr_tr fr (show gw_fr _ σ1 a (a + 3) by rw [eσ1]; exact gw_fr_up _ _ _ (by omega) (by omega))
        refine gw_aload_n hX nd_Ra_offer_85 rfl 0 rfl ?_
        refine gw_get hX kf_Ra_15 nd_Ra_offer_86 h0 rfl ?_
        refine gw_iconst (v := nI 1) hX nd_Ra_offer_89 rfl ?_
        refine gw_iload_n hX nd_Ra_offer_90 rfl 2 rfl ?_
        refine gw_iast hX nd_Ra_offer_91 h2 1 rfl (by omega) (by decide) ?_
        obtain ⟨σ2, eσ2⟩ : ∃ hp_, hp_ = gw_up σ1 (a + 2) ((gw_I (gw_z X) 2 (upd fl 1 (nI c)))) := ⟨_, rfl⟩
        refine gw_heap eσ2.symm ?_
        have h0 : σ2.2 a = some (.inr (4, [.ref (a + 1), .ref (a + 2), .int (nI 1)])) := by rw [eσ2, gw_up_ne (by omega)]; exact h0
        have h1 : σ2.2 (a + 1) = some ((gw_J (gw_z X) 2 (vp_updL fs 1 (iL s)))) := by rw [eσ2, gw_up_ne (by omega)]; exact h1
        have h2 : σ2.2 (a + 2) = some ((gw_I (gw_z X) 2 (upd fl 1 (nI c)))) := by rw [eσ2]; exact gw_up_eq _ _ _
        have fr : gw_fr σ σ2 a (a + 3) := gw_fr_tr fr (show gw_fr _ σ2 a (a + 3) by rw [eσ2]; exact gw_fr_up _ _ _ (by omega) (by omega))
        refine gw_aload_n hX nd_Ra_offer_92 rfl 0 rfl ?_
        refine gw_get hX kf_Ra_19 nd_Ra_offer_93 h0 rfl ?_
        refine gw_iconst (v := nI 2) hX nd_Ra_offer_96 rfl ?_
        refine gw_icmp_ge (tgt := 110) hX nd_Ra_offer_97 rfl (fun hb => ?_) (fun hb => ?_)
        · have hb : 2 ≤ 1 := (nI_leI (a := 2) (b := 1) (by omega) (by omega)).mp hb
          exfalso; omega
        · have hb : ¬ 2 ≤ 1 := fun h => hb ((nI_leI (a := 2) (b := 1) (by omega) (by omega)).mpr h)
          refine gw_aload_n hX nd_Ra_offer_100 rfl 0 rfl ?_
          refine gw_dup hX nd_Ra_offer_101 rfl ?_
          refine gw_get hX kf_Ra_19 nd_Ra_offer_102 h0 rfl ?_
          refine gw_iconst (v := nI 1) hX nd_Ra_offer_105 rfl ?_
          refine gw_iadd hX nd_Ra_offer_106 ?_
          refine gw_topi (y := nI 2) (nI_add _ _) ?_
          refine gw_put hX kf_Ra_19 nd_Ra_offer_107 h0 rfl rfl (Nat.le_of_ble_eq_true rfl) (e' := .inr (4, [.ref (a + 1), .ref (a + 2), .int (nI 2)])) rfl ?_
          obtain ⟨σ3, eσ3⟩ : ∃ hp_, hp_ = gw_up σ2 a (.inr (4, [.ref (a + 1), .ref (a + 2), .int (nI 2)])) := ⟨_, rfl⟩
          refine gw_heap eσ3.symm ?_
          have h0 : σ3.2 a = some (.inr (4, [.ref (a + 1), .ref (a + 2), .int (nI 2)])) := by rw [eσ3]; exact gw_up_eq _ _ _
          have h1 : σ3.2 (a + 1) = some ((gw_J (gw_z X) 2 (vp_updL fs 1 (iL s)))) := by rw [eσ3, gw_up_ne (by omega)]; exact h1
          have h2 : σ3.2 (a + 2) = some ((gw_I (gw_z X) 2 (upd fl 1 (nI c)))) := by rw [eσ3, gw_up_ne (by omega)]; exact h2
          have fr : gw_fr σ σ3 a (a + 3) := gw_fr_tr fr (show gw_fr _ σ3 a (a + 3) by rw [eσ3]; exact gw_fr_up _ _ _ (by omega) (by omega))
          exact gw_vret hX hQ hr nd_Ra_offer_110 (by decide) (by decide) ⟨rfl, by rw [tk_of2 (x := (s, c)) (a := u) (by show s ≤ u.1; omega)]; exact ⟨_, _, h0, h1, h2, rk_two (by simp [vp_updL, upd, e0]) (by simp [vp_updL, upd, e1]) (by simp [vp_updL, upd]) (by simp [vp_updL, upd])⟩, fr⟩
      · have hb : ¬ 1 = 1 := fun h => hb ((nI_eq (a := 1) (b := 1) (by omega) (by omega)).mpr h)
        exfalso; omega
    · skip
      have hb : ¬ s ≤ u.1 := fun h => hb ((rk_cmp hs hu).mpr h)
      refine gw_aload_n hX nd_Ra_offer_18 rfl 0 rfl ?_
      refine gw_get hX kf_Ra_9 nd_Ra_offer_19 h0 rfl ?_
      refine gw_iconst (v := nI 1) hX nd_Ra_offer_22 rfl ?_
      refine gw_aload_n hX nd_Ra_offer_23 rfl 0 rfl ?_
      refine gw_get hX kf_Ra_9 nd_Ra_offer_24 h0 rfl ?_
      refine gw_iconst (v := nI 0) hX nd_Ra_offer_27 rfl ?_
      refine gw_lald hX nd_Ra_offer_28 h1 0 rfl (by omega) (by decide) ?_
      refine gw_last hX nd_Ra_offer_29 h1 1 rfl (by omega) (by decide) ?_
      obtain ⟨σ4, eσ4⟩ : ∃ hp_, hp_ = gw_up σ (a + 1) ((gw_J (gw_z X) 2 (vp_updL fs 1 (fs 0)))) := ⟨_, rfl⟩
      refine gw_heap eσ4.symm ?_
      have h0 : σ4.2 a = some (.inr (4, [.ref (a + 1), .ref (a + 2), .int (nI 1)])) := by rw [eσ4, gw_up_ne (by omega)]; exact h0
      have h1 : σ4.2 (a + 1) = some ((gw_J (gw_z X) 2 (vp_updL fs 1 (fs 0)))) := by rw [eσ4]; exact gw_up_eq _ _ _
      have h2 : σ4.2 (a + 2) = some ((gw_I (gw_z X) 2 fl)) := by rw [eσ4, gw_up_ne (by omega)]; exact h2
      have fr : gw_fr σ σ4 a (a + 3) := gw_fr_tr fr (show gw_fr _ σ4 a (a + 3) by rw [eσ4]; exact gw_fr_up _ _ _ (by omega) (by omega))
      refine gw_aload_n hX nd_Ra_offer_30 rfl 0 rfl ?_
      refine gw_get hX kf_Ra_15 nd_Ra_offer_31 h0 rfl ?_
      refine gw_iconst (v := nI 1) hX nd_Ra_offer_34 rfl ?_
      refine gw_aload_n hX nd_Ra_offer_35 rfl 0 rfl ?_
      refine gw_get hX kf_Ra_15 nd_Ra_offer_36 h0 rfl ?_
      refine gw_iconst (v := nI 0) hX nd_Ra_offer_39 rfl ?_
      refine gw_iald hX nd_Ra_offer_40 h2 0 rfl (by omega) (by decide) ?_
      refine gw_iast hX nd_Ra_offer_41 h2 1 rfl (by omega) (by decide) ?_
      obtain ⟨σ5, eσ5⟩ : ∃ hp_, hp_ = gw_up σ4 (a + 2) ((gw_I (gw_z X) 2 (upd fl 1 (fl 0)))) := ⟨_, rfl⟩
      refine gw_heap eσ5.symm ?_
      have h0 : σ5.2 a = some (.inr (4, [.ref (a + 1), .ref (a + 2), .int (nI 1)])) := by rw [eσ5, gw_up_ne (by omega)]; exact h0
      have h1 : σ5.2 (a + 1) = some ((gw_J (gw_z X) 2 (vp_updL fs 1 (fs 0)))) := by rw [eσ5, gw_up_ne (by omega)]; exact h1
      have h2 : σ5.2 (a + 2) = some ((gw_I (gw_z X) 2 (upd fl 1 (fl 0)))) := by rw [eσ5]; exact gw_up_eq _ _ _
      have fr : gw_fr σ σ5 a (a + 3) := gw_fr_tr fr (show gw_fr _ σ5 a (a + 3) by rw [eσ5]; exact gw_fr_up _ _ _ (by omega) (by omega))
      refine gw_aload_n hX nd_Ra_offer_42 rfl 0 rfl ?_
      refine gw_get hX kf_Ra_9 nd_Ra_offer_43 h0 rfl ?_
      refine gw_iconst (v := nI 0) hX nd_Ra_offer_46 rfl ?_
      refine gw_lload_n hX nd_Ra_offer_47 rfl 1 rfl ?_
      refine gw_last hX nd_Ra_offer_48 h1 0 rfl (by omega) (by decide) ?_
      obtain ⟨σ6, eσ6⟩ : ∃ hp_, hp_ = gw_up σ5 (a + 1) ((gw_J (gw_z X) 2 (vp_updL (vp_updL fs 1 (fs 0)) 0 (iL s)))) := ⟨_, rfl⟩
      refine gw_heap eσ6.symm ?_
      have h0 : σ6.2 a = some (.inr (4, [.ref (a + 1), .ref (a + 2), .int (nI 1)])) := by rw [eσ6, gw_up_ne (by omega)]; exact h0
      have h1 : σ6.2 (a + 1) = some ((gw_J (gw_z X) 2 (vp_updL (vp_updL fs 1 (fs 0)) 0 (iL s)))) := by rw [eσ6]; exact gw_up_eq _ _ _
      have h2 : σ6.2 (a + 2) = some ((gw_I (gw_z X) 2 (upd fl 1 (fl 0)))) := by rw [eσ6, gw_up_ne (by omega)]; exact h2
      have fr : gw_fr σ σ6 a (a + 3) := gw_fr_tr fr (show gw_fr _ σ6 a (a + 3) by rw [eσ6]; exact gw_fr_up _ _ _ (by omega) (by omega))
      refine gw_aload_n hX nd_Ra_offer_49 rfl 0 rfl ?_
      refine gw_get hX kf_Ra_15 nd_Ra_offer_50 h0 rfl ?_
      refine gw_iconst (v := nI 0) hX nd_Ra_offer_53 rfl ?_
      refine gw_iload_n hX nd_Ra_offer_54 rfl 2 rfl ?_
      refine gw_iast hX nd_Ra_offer_55 h2 0 rfl (by omega) (by decide) ?_
      obtain ⟨σ7, eσ7⟩ : ∃ hp_, hp_ = gw_up σ6 (a + 2) ((gw_I (gw_z X) 2 (upd (upd fl 1 (fl 0)) 0 (nI c)))) := ⟨_, rfl⟩
      refine gw_heap eσ7.symm ?_
      have h0 : σ7.2 a = some (.inr (4, [.ref (a + 1), .ref (a + 2), .int (nI 1)])) := by rw [eσ7, gw_up_ne (by omega)]; exact h0
      have h1 : σ7.2 (a + 1) = some ((gw_J (gw_z X) 2 (vp_updL (vp_updL fs 1 (fs 0)) 0 (iL s)))) := by rw [eσ7, gw_up_ne (by omega)]; exact h1
      have h2 : σ7.2 (a + 2) = some ((gw_I (gw_z X) 2 (upd (upd fl 1 (fl 0)) 0 (nI c)))) := by rw [eσ7]; exact gw_up_eq _ _ _
      have fr : gw_fr σ σ7 a (a + 3) := gw_fr_tr fr (show gw_fr _ σ7 a (a + 3) by rw [eσ7]; exact gw_fr_up _ _ _ (by omega) (by omega))
      refine gw_goto (tgt := 92) hX nd_Ra_offer_56 rfl ?_
      refine gw_aload_n hX nd_Ra_offer_92 rfl 0 rfl ?_
      refine gw_get hX kf_Ra_19 nd_Ra_offer_93 h0 rfl ?_
      refine gw_iconst (v := nI 2) hX nd_Ra_offer_96 rfl ?_
      refine gw_icmp_ge (tgt := 110) hX nd_Ra_offer_97 rfl (fun hb => ?_) (fun hb => ?_)
      · have hb : 2 ≤ 1 := (nI_leI (a := 2) (b := 1) (by omega) (by omega)).mp hb
        exfalso; omega
      · have hb : ¬ 2 ≤ 1 := fun h => hb ((nI_leI (a := 2) (b := 1) (by omega) (by omega)).mpr h)
        refine gw_aload_n hX nd_Ra_offer_100 rfl 0 rfl ?_
        refine gw_dup hX nd_Ra_offer_101 rfl ?_
        refine gw_get hX kf_Ra_19 nd_Ra_offer_102 h0 rfl ?_
        refine gw_iconst (v := nI 1) hX nd_Ra_offer_105 rfl ?_
        refine gw_iadd hX nd_Ra_offer_106 ?_
        refine gw_topi (y := nI 2) (nI_add _ _) ?_
        refine gw_put hX kf_Ra_19 nd_Ra_offer_107 h0 rfl rfl (Nat.le_of_ble_eq_true rfl) (e' := .inr (4, [.ref (a + 1), .ref (a + 2), .int (nI 2)])) rfl ?_
        obtain ⟨σ8, eσ8⟩ : ∃ hp_, hp_ = gw_up σ7 a (.inr (4, [.ref (a + 1), .ref (a + 2), .int (nI 2)])) := ⟨_, rfl⟩
        refine gw_heap eσ8.symm ?_
        have h0 : σ8.2 a = some (.inr (4, [.ref (a + 1), .ref (a + 2), .int (nI 2)])) := by rw [eσ8]; exact gw_up_eq _ _ _
        have h1 : σ8.2 (a + 1) = some ((gw_J (gw_z X) 2 (vp_updL (vp_updL fs 1 (fs 0)) 0 (iL s)))) := by rw [eσ8, gw_up_ne (by omega)]; exact h1
        have h2 : σ8.2 (a + 2) = some ((gw_I (gw_z X) 2 (upd (upd fl 1 (fl 0)) 0 (nI c)))) := by rw [eσ8, gw_up_ne (by omega)]; exact h2
        have fr : gw_fr σ σ8 a (a + 3) := gw_fr_tr fr (show gw_fr _ σ8 a (a + 3) by rw [eσ8]; exact gw_fr_up _ _ _ (by omega) (by omega))
        exact gw_vret hX hQ hr nd_Ra_offer_110 (by decide) (by decide) ⟨rfl, by rw [tk_of1 (x := (s, c)) (a := u) (by show u.1 < s; omega)]; exact ⟨_, _, h0, h1, h2, rk_two (by simp [vp_updL, upd]) (by simp [vp_updL, upd]) (by simp [vp_updL, upd, e0]) (by simp [vp_updL, upd, e1])⟩, fr⟩
set_option maxRecDepth 100000 in
set_option maxHeartbeats 4000000 in
theorem co_Ra_offer2 (l : Launch) (Z : gw_Z) (b0 : Nat) (σ : gw_S) (a : Nat) (s : Int) (c : Nat) (fs : Nat → Int64) (fl : Nat → Int32) (hs : -4611686018427387904 ≤ s ∧ s ≤ 4611686018427387904) (u : Int × Nat) (hu : -4611686018427387904 ≤ u.1 ∧ u.1 ≤ 4611686018427387904) (e0 : fs 0 = iL u.1) (e1 : fl 0 = nI u.2) (w : Int × Nat) (hw : -4611686018427387904 ≤ w.1 ∧ w.1 ≤ 4611686018427387904) (e2 : fs 1 = iL w.1) (e3 : fl 1 = nI w.2) (h0 : σ.2 a = some (.inr (4, [.ref (a + 1), .ref (a + 2), .int (nI 2)]))) (h1 : σ.2 (a + 1) = some (gw_J Z 2 fs)) (h2 : σ.2 (a + 2) = some (gw_I Z 2 fl)) : gw_M l ny_Ra_offer nc_Ra_offer (4, 0, 0, 0, 0) none Z b0 σ [.ref a, .long (iL s), .int (nI c)] (fun v σ' => v = none ∧ rk_at σ' Z a (tk_offer [u, w] (s, c)) ∧ gw_fr σ σ' a (a + 3)) := by
  refine gw_M_of rfl (Nat.le_of_ble_eq_true rfl) ?_
  intro X hX hl hz hb0 hr hnm hQ
  subst hz hb0 hl
  have hX : gw_ok X nc_Ra_offer "LabelLearner$Ranking" (4, 0, 0, 0, 0) := hX
  show gw_W X σ 0 0 0 [(0, .ref a), (1, .long (iL s)), (3, .int (nI c))] []
  have fr : gw_fr σ σ a (a + 3) := gw_fr_rf _ _ _
  refine gw_aload_n hX nd_Ra_offer_0 rfl 0 rfl ?_
  refine gw_get hX kf_Ra_19 nd_Ra_offer_1 h0 rfl ?_
  refine gw_if_eq (tgt := 18) hX nd_Ra_offer_4 rfl (fun hb => ?_) (fun hb => ?_)
  · have hb : 2 = 0 := (nI_eq (a := 2) (b := 0) (by omega) (by omega)).mp hb
    exfalso; omega
  · have hb : ¬ 2 = 0 := fun h => hb ((nI_eq (a := 2) (b := 0) (by omega) (by omega)).mpr h)
    refine gw_lload_n hX nd_Ra_offer_7 rfl 1 rfl ?_
    refine gw_aload_n hX nd_Ra_offer_8 rfl 0 rfl ?_
    refine gw_get hX kf_Ra_9 nd_Ra_offer_9 h0 rfl ?_
    refine gw_iconst (v := nI 0) hX nd_Ra_offer_12 rfl ?_
    refine gw_lald hX nd_Ra_offer_13 h1 0 rfl (by omega) (by decide) ?_
    refine gw_topl (y := iL u.1) e0 ?_
    refine gw_lcmp hX nd_Ra_offer_14 ?_
    refine gw_if_le (tgt := 59) hX nd_Ra_offer_15 rfl (fun hb => ?_) (fun hb => ?_)
    · skip
      have hb : s ≤ u.1 := (rk_cmp hs hu).mp hb
      refine gw_aload_n hX nd_Ra_offer_59 rfl 0 rfl ?_
      refine gw_get hX kf_Ra_19 nd_Ra_offer_60 h0 rfl ?_
      refine gw_iconst (v := nI 1) hX nd_Ra_offer_63 rfl ?_
      refine gw_icmp_eq (tgt := 78) hX nd_Ra_offer_64 rfl (fun hb => ?_) (fun hb => ?_)
      · have hb : 2 = 1 := (nI_eq (a := 2) (b := 1) (by omega) (by omega)).mp hb
        exfalso; omega
      · have hb : ¬ 2 = 1 := fun h => hb ((nI_eq (a := 2) (b := 1) (by omega) (by omega)).mpr h)
        have hb0 : s ≤ u.1 := by omega
        refine gw_lload_n hX nd_Ra_offer_67 rfl 1 rfl ?_
        refine gw_aload_n hX nd_Ra_offer_68 rfl 0 rfl ?_
        refine gw_get hX kf_Ra_9 nd_Ra_offer_69 h0 rfl ?_
        refine gw_iconst (v := nI 1) hX nd_Ra_offer_72 rfl ?_
        refine gw_lald hX nd_Ra_offer_73 h1 1 rfl (by omega) (by decide) ?_
        refine gw_topl (y := iL w.1) e2 ?_
        refine gw_lcmp hX nd_Ra_offer_74 ?_
        refine gw_if_le (tgt := 92) hX nd_Ra_offer_75 rfl (fun hb => ?_) (fun hb => ?_)
        · skip
          have hb9 : s ≤ w.1 := (rk_cmp hs hw).mp hb
          refine gw_aload_n hX nd_Ra_offer_92 rfl 0 rfl ?_
          refine gw_get hX kf_Ra_19 nd_Ra_offer_93 h0 rfl ?_
          refine gw_iconst (v := nI 2) hX nd_Ra_offer_96 rfl ?_
          refine gw_icmp_ge (tgt := 110) hX nd_Ra_offer_97 rfl (fun hb => ?_) (fun hb => ?_)
          · have hb : 2 ≤ 2 := (nI_leI (a := 2) (b := 2) (by omega) (by omega)).mp hb
            exact gw_vret hX hQ hr nd_Ra_offer_110 (by decide) (by decide) ⟨rfl, by rw [tk_of5 (x := (s, c)) (a := u) (b := w) (by show s ≤ u.1; omega) (by show s ≤ w.1; omega)]; exact ⟨_, _, h0, h1, h2, rk_two e0 e1 e2 e3⟩, fr⟩
          · have hb : ¬ 2 ≤ 2 := fun h => hb ((nI_leI (a := 2) (b := 2) (by omega) (by omega)).mpr h)
            exfalso; omega
        · skip
          have hb9 : ¬ s ≤ w.1 := fun h => hb ((rk_cmp hs hw).mpr h)
          refine gw_aload_n hX nd_Ra_offer_78 rfl 0 rfl ?_
          refine gw_get hX kf_Ra_9 nd_Ra_offer_79 h0 rfl ?_
          refine gw_iconst (v := nI 1) hX nd_Ra_offer_82 rfl ?_
          refine gw_lload_n hX nd_Ra_offer_83 rfl 1 rfl ?_
          refine gw_last hX nd_Ra_offer_84 h1 1 rfl (by omega) (by decide) ?_
          obtain ⟨σ1, eσ1⟩ : ∃ hp_, hp_ = gw_up σ (a + 1) ((gw_J (gw_z X) 2 (vp_updL fs 1 (iL s)))) := ⟨_, rfl⟩
          refine gw_heap eσ1.symm ?_
          have h0 : σ1.2 a = some (.inr (4, [.ref (a + 1), .ref (a + 2), .int (nI 2)])) := by rw [eσ1, gw_up_ne (by omega)]; exact h0
          have h1 : σ1.2 (a + 1) = some ((gw_J (gw_z X) 2 (vp_updL fs 1 (iL s)))) := by rw [eσ1]; exact gw_up_eq _ _ _
          have h2 : σ1.2 (a + 2) = some ((gw_I (gw_z X) 2 fl)) := by rw [eσ1, gw_up_ne (by omega)]; exact h2
          have fr : gw_fr σ σ1 a (a + 3) := gw_fr_tr fr (show gw_fr _ σ1 a (a + 3) by rw [eσ1]; exact gw_fr_up _ _ _ (by omega) (by omega))
          refine gw_aload_n hX nd_Ra_offer_85 rfl 0 rfl ?_
          refine gw_get hX kf_Ra_15 nd_Ra_offer_86 h0 rfl ?_
          refine gw_iconst (v := nI 1) hX nd_Ra_offer_89 rfl ?_
          refine gw_iload_n hX nd_Ra_offer_90 rfl 2 rfl ?_
          refine gw_iast hX nd_Ra_offer_91 h2 1 rfl (by omega) (by decide) ?_
          obtain ⟨σ2, eσ2⟩ : ∃ hp_, hp_ = gw_up σ1 (a + 2) ((gw_I (gw_z X) 2 (upd fl 1 (nI c)))) := ⟨_, rfl⟩
          refine gw_heap eσ2.symm ?_
          have h0 : σ2.2 a = some (.inr (4, [.ref (a + 1), .ref (a + 2), .int (nI 2)])) := by rw [eσ2, gw_up_ne (by omega)]; exact h0
          have h1 : σ2.2 (a + 1) = some ((gw_J (gw_z X) 2 (vp_updL fs 1 (iL s)))) := by rw [eσ2, gw_up_ne (by omega)]; exact h1
          have h2 : σ2.2 (a + 2) = some ((gw_I (gw_z X) 2 (upd fl 1 (nI c)))) := by rw [eσ2]; exact gw_up_eq _ _ _
          have fr : gw_fr σ σ2 a (a + 3) := gw_fr_tr fr (show gw_fr _ σ2 a (a + 3) by rw [eσ2]; exact gw_fr_up _ _ _ (by omega) (by omega))
          refine gw_aload_n hX nd_Ra_offer_92 rfl 0 rfl ?_
          refine gw_get hX kf_Ra_19 nd_Ra_offer_93 h0 rfl ?_
          refine gw_iconst (v := nI 2) hX nd_Ra_offer_96 rfl ?_
          refine gw_icmp_ge (tgt := 110) hX nd_Ra_offer_97 rfl (fun hb => ?_) (fun hb => ?_)
          · have hb : 2 ≤ 2 := (nI_leI (a := 2) (b := 2) (by omega) (by omega)).mp hb
            exact gw_vret hX hQ hr nd_Ra_offer_110 (by decide) (by decide) ⟨rfl, by rw [tk_of4 (x := (s, c)) (a := u) (b := w) (by show s ≤ u.1; omega) (by show w.1 < s; omega)]; exact ⟨_, _, h0, h1, h2, rk_two (by simp [vp_updL, upd, e0]) (by simp [vp_updL, upd, e1]) (by simp [vp_updL, upd]) (by simp [vp_updL, upd])⟩, fr⟩
          · have hb : ¬ 2 ≤ 2 := fun h => hb ((nI_leI (a := 2) (b := 2) (by omega) (by omega)).mpr h)
            exfalso; omega
    · skip
      have hb : ¬ s ≤ u.1 := fun h => hb ((rk_cmp hs hu).mpr h)
      refine gw_aload_n hX nd_Ra_offer_18 rfl 0 rfl ?_
      refine gw_get hX kf_Ra_9 nd_Ra_offer_19 h0 rfl ?_
      refine gw_iconst (v := nI 1) hX nd_Ra_offer_22 rfl ?_
      refine gw_aload_n hX nd_Ra_offer_23 rfl 0 rfl ?_
      refine gw_get hX kf_Ra_9 nd_Ra_offer_24 h0 rfl ?_
      refine gw_iconst (v := nI 0) hX nd_Ra_offer_27 rfl ?_
      refine gw_lald hX nd_Ra_offer_28 h1 0 rfl (by omega) (by decide) ?_
      refine gw_last hX nd_Ra_offer_29 h1 1 rfl (by omega) (by decide) ?_
      obtain ⟨σ3, eσ3⟩ : ∃ hp_, hp_ = gw_up σ (a + 1) ((gw_J (gw_z X) 2 (vp_updL fs 1 (fs 0)))) := ⟨_, rfl⟩
      refine gw_heap eσ3.symm ?_
      have h0 : σ3.2 a = some (.inr (4, [.ref (a + 1), .ref (a + 2), .int (nI 2)])) := by rw [eσ3, gw_up_ne (by omega)]; exact h0
      have h1 : σ3.2 (a + 1) = some ((gw_J (gw_z X) 2 (vp_updL fs 1 (fs 0)))) := by rw [eσ3]; exact gw_up_eq _ _ _
      have h2 : σ3.2 (a + 2) = some ((gw_I (gw_z X) 2 fl)) := by rw [eσ3, gw_up_ne (by omega)]; exact h2
      have fr : gw_fr σ σ3 a (a + 3) := gw_fr_tr fr (show gw_fr _ σ3 a (a + 3) by rw [eσ3]; exact gw_fr_up _ _ _ (by omega) (by omega))
      refine gw_aload_n hX nd_Ra_offer_30 rfl 0 rfl ?_
      refine gw_get hX kf_Ra_15 nd_Ra_offer_31 h0 rfl ?_
      refine gw_iconst (v := nI 1) hX nd_Ra_offer_34 rfl ?_
      refine gw_aload_n hX nd_Ra_offer_35 rfl 0 rfl ?_
      refine gw_get hX kf_Ra_15 nd_Ra_offer_36 h0 rfl ?_
      refine gw_iconst (v := nI 0) hX nd_Ra_offer_39 rfl ?_
      refine gw_iald hX nd_Ra_offer_40 h2 0 rfl (by omega) (by decide) ?_
      refine gw_iast hX nd_Ra_offer_41 h2 1 rfl (by omega) (by decide) ?_
      obtain ⟨σ4, eσ4⟩ : ∃ hp_, hp_ = gw_up σ3 (a + 2) ((gw_I (gw_z X) 2 (upd fl 1 (fl 0)))) := ⟨_, rfl⟩
      refine gw_heap eσ4.symm ?_
      have h0 : σ4.2 a = some (.inr (4, [.ref (a + 1), .ref (a + 2), .int (nI 2)])) := by rw [eσ4, gw_up_ne (by omega)]; exact h0
      have h1 : σ4.2 (a + 1) = some ((gw_J (gw_z X) 2 (vp_updL fs 1 (fs 0)))) := by rw [eσ4, gw_up_ne (by omega)]; exact h1
      have h2 : σ4.2 (a + 2) = some ((gw_I (gw_z X) 2 (upd fl 1 (fl 0)))) := by rw [eσ4]; exact gw_up_eq _ _ _
      have fr : gw_fr σ σ4 a (a + 3) := gw_fr_tr fr (show gw_fr _ σ4 a (a + 3) by rw [eσ4]; exact gw_fr_up _ _ _ (by omega) (by omega))
      refine gw_aload_n hX nd_Ra_offer_42 rfl 0 rfl ?_
      refine gw_get hX kf_Ra_9 nd_Ra_offer_43 h0 rfl ?_
      refine gw_iconst (v := nI 0) hX nd_Ra_offer_46 rfl ?_
      refine gw_lload_n hX nd_Ra_offer_47 rfl 1 rfl ?_
      refine gw_last hX nd_Ra_offer_48 h1 0 rfl (by omega) (by decide) ?_
      obtain ⟨σ5, eσ5⟩ : ∃ hp_, hp_ = gw_up σ4 (a + 1) ((gw_J (gw_z X) 2 (vp_updL (vp_updL fs 1 (fs 0)) 0 (iL s)))) := ⟨_, rfl⟩
      refine gw_heap eσ5.symm ?_
      have h0 : σ5.2 a = some (.inr (4, [.ref (a + 1), .ref (a + 2), .int (nI 2)])) := by rw [eσ5, gw_up_ne (by omega)]; exact h0
      have h1 : σ5.2 (a + 1) = some ((gw_J (gw_z X) 2 (vp_updL (vp_updL fs 1 (fs 0)) 0 (iL s)))) := by rw [eσ5]; exact gw_up_eq _ _ _
      have h2 : σ5.2 (a + 2) = some ((gw_I (gw_z X) 2 (upd fl 1 (fl 0)))) := by rw [eσ5, gw_up_ne (by omega)]; exact h2
      have fr : gw_fr σ σ5 a (a + 3) := gw_fr_tr fr (show gw_fr _ σ5 a (a + 3) by rw [eσ5]; exact gw_fr_up _ _ _ (by omega) (by omega))
      refine gw_aload_n hX nd_Ra_offer_49 rfl 0 rfl ?_
      refine gw_get hX kf_Ra_15 nd_Ra_offer_50 h0 rfl ?_
      refine gw_iconst (v := nI 0) hX nd_Ra_offer_53 rfl ?_
      refine gw_iload_n hX nd_Ra_offer_54 rfl 2 rfl ?_
      refine gw_iast hX nd_Ra_offer_55 h2 0 rfl (by omega) (by decide) ?_
      obtain ⟨σ6, eσ6⟩ : ∃ hp_, hp_ = gw_up σ5 (a + 2) ((gw_I (gw_z X) 2 (upd (upd fl 1 (fl 0)) 0 (nI c)))) := ⟨_, rfl⟩
      refine gw_heap eσ6.symm ?_
      have h0 : σ6.2 a = some (.inr (4, [.ref (a + 1), .ref (a + 2), .int (nI 2)])) := by rw [eσ6, gw_up_ne (by omega)]; exact h0
      have h1 : σ6.2 (a + 1) = some ((gw_J (gw_z X) 2 (vp_updL (vp_updL fs 1 (fs 0)) 0 (iL s)))) := by rw [eσ6, gw_up_ne (by omega)]; exact h1
      have h2 : σ6.2 (a + 2) = some ((gw_I (gw_z X) 2 (upd (upd fl 1 (fl 0)) 0 (nI c)))) := by rw [eσ6]; exact gw_up_eq _ _ _
      have fr : gw_fr σ σ6 a (a + 3) := gw_fr_tr fr (show gw_fr _ σ6 a (a + 3) by rw [eσ6]; exact gw_fr_up _ _ _ (by omega) (by omega))
      refine gw_goto (tgt := 92) hX nd_Ra_offer_56 rfl ?_
      refine gw_aload_n hX nd_Ra_offer_92 rfl 0 rfl ?_
      refine gw_get hX kf_Ra_19 nd_Ra_offer_93 h0 rfl ?_
      refine gw_iconst (v := nI 2) hX nd_Ra_offer_96 rfl ?_
      refine gw_icmp_ge (tgt := 110) hX nd_Ra_offer_97 rfl (fun hb => ?_) (fun hb => ?_)
      · have hb : 2 ≤ 2 := (nI_leI (a := 2) (b := 2) (by omega) (by omega)).mp hb
        exact gw_vret hX hQ hr nd_Ra_offer_110 (by decide) (by decide) ⟨rfl, by rw [tk_of3 (x := (s, c)) (a := u) (b := w) (by show u.1 < s; omega)]; exact ⟨_, _, h0, h1, h2, rk_two (by simp [vp_updL, upd]) (by simp [vp_updL, upd]) (by simp [vp_updL, upd, e0]) (by simp [vp_updL, upd, e1])⟩, fr⟩
      · have hb : ¬ 2 ≤ 2 := fun h => hb ((nI_leI (a := 2) (b := 2) (by omega) (by omega)).mpr h)
        exfalso; omega
theorem ct_Ra_offer (l : Launch) (Z : gw_Z) (b0 : Nat) (σ : gw_S) (a : Nat) (s : Int) (c : Nat) (R : List (Int × Nat)) (hR : tk_ok R) (hs : -4611686018427387904 ≤ s ∧ s ≤ 4611686018427387904) (hb : rk_bd R) (h : rk_at σ Z a R) : gw_M l ny_Ra_offer nc_Ra_offer (4, 0, 0, 0, 0) none Z b0 σ [.ref a, .long (iL s), .int (nI c)] (fun v σ' => v = none ∧ rk_at σ' Z a (tk_offer R (s, c)) ∧ gw_fr σ σ' a (a + 3)) := by
  obtain ⟨fs, fl, h0, h1, h2, h3⟩ := h
  rcases tk_cases hR with rfl | ⟨u, rfl⟩ | ⟨u, w, rfl, hv⟩
  · exact co_Ra_offer0 l Z b0 σ a s c fs fl hs h0 h1 h2
  · have e := h3 0 u rfl
    exact co_Ra_offer1 l Z b0 σ a s c fs fl hs u (hb u (by simp)) e.1 e.2 h0 h1 h2
  · have e := h3 0 u rfl
    have e' := h3 1 w rfl
    exact co_Ra_offer2 l Z b0 σ a s c fs fl hs u (hb u (by simp)) e.1 e.2 w (hb w (by simp)) e'.1 e'.2 h0 h1 h2
set_option maxRecDepth 100000 in
set_option maxHeartbeats 4000000 in
theorem lp_Ra_offerLonger {X : gw_C} (a t : Nat) (R T : List (Int × Nat)) (mo : Int) (k : Nat) (hat : a + 3 ≤ t ∨ t + 3 ≤ a) (hR : tk_ok R) (hT : T.length ≤ 2) (hbR : rk_bd R) (hbT : rk_bd (T.map (tk_sh mo k))) (hor : ∀ x ∈ T, nI x.2 ||| nI k = nI (x.2 + k)) (σ0 : gw_S) (hX : gw_ok X nc_Ra_offerLonger "LabelLearner$Ranking" (6, 1, 23, 0, 0)) (hQ : X.2.2.2.2 = gw_end X (fun v σ' => v = none ∧ rk_at σ' (gw_z X) a (tk_all R (T.map (tk_sh mo k))) ∧ gw_fr σ0 σ' a (a + 3)) 0 0) (hr : X.2.2.1.1.sig.returnType = none) : ∀ (m : Nat) (j : Nat) (σ : gw_S), j + m = T.length → rk_at σ (gw_z X) a (tk_all R ((T.take j).map (tk_sh mo k))) → rk_at σ (gw_z X) t T → gw_fr σ0 σ a (a + 3) → gw_W X σ 0 0 3 [(5, .int (nI j)), (0, .ref a), (1, .ref t), (2, .long (iL mo)), (4, .int (nI k))] [] := by
  intro m
  induction m using Nat.strongRecOn with
  | ind m ih =>
    intro j σ
    intro hm ha ht fr
    obtain ⟨gs, gl, g0, g1, g2, g3⟩ := ht
    refine gw_iload hX nd_Ra_offerLonger_3 0 rfl ?_
    refine gw_aload_n hX nd_Ra_offerLonger_5 rfl 2 rfl ?_
    refine gw_get hX kf_Ra_19 nd_Ra_offerLonger_6 g0 rfl ?_
    refine gw_icmp_ge (tgt := 41) hX nd_Ra_offerLonger_9 rfl (fun hb => ?_) (fun hb => ?_)
    · have hb : T.length ≤ j := (nI_leI (a := T.length) (b := j) (by omega) (by omega)).mp hb
      rw [show j = T.length by omega, List.take_length] at ha
      exact gw_vret hX hQ hr nd_Ra_offerLonger_41 (by decide) (by decide) ⟨rfl, ha, fr⟩
    · have hb : ¬ T.length ≤ j := fun h => hb ((nI_leI (a := T.length) (b := j) (by omega) (by omega)).mpr h)
      obtain ⟨x, hx⟩ : ∃ x, T[j]? = some x := ⟨_, List.getElem?_eq_getElem (by omega)⟩
      have hm9 : x ∈ T := List.mem_of_getElem? hx
      have hx3 := g3 j x hx
      have hx4 := hbT (tk_sh mo k x) (List.mem_map_of_mem hm9)
      have hx5 := hor x hm9
      refine gw_aload_n hX nd_Ra_offerLonger_12 rfl 1 rfl ?_
      refine gw_aload_n hX nd_Ra_offerLonger_13 rfl 2 rfl ?_
      refine gw_get hX kf_Ra_9 nd_Ra_offerLonger_14 g0 rfl ?_
      refine gw_iload hX nd_Ra_offerLonger_17 0 rfl ?_
      refine gw_lald hX nd_Ra_offerLonger_19 g1 j rfl (by omega) (by decide) ?_
      refine gw_topl (y := iL x.1) hx3.1 ?_
      refine gw_lload_n hX nd_Ra_offerLonger_20 rfl 3 rfl ?_
      refine gw_ladd hX nd_Ra_offerLonger_21 ?_
      refine gw_topl (y := iL (x.1 + mo)) (iL_add _ _) ?_
      refine gw_aload_n hX nd_Ra_offerLonger_22 rfl 2 rfl ?_
      refine gw_get hX kf_Ra_15 nd_Ra_offerLonger_23 g0 rfl ?_
      refine gw_iload hX nd_Ra_offerLonger_26 0 rfl ?_
      refine gw_iald hX nd_Ra_offerLonger_28 g2 j rfl (by omega) (by decide) ?_
      refine gw_topi (y := nI x.2) hx3.2 ?_
      refine gw_iload hX nd_Ra_offerLonger_29 4 rfl ?_
      refine gw_ior hX nd_Ra_offerLonger_31 ?_
      refine gw_topi (y := nI (x.2 + k)) hx5 ?_
      obtain ⟨fs9, fl9, ha9, -⟩ := id ha
      refine gw_callV (rest := []) hX ks_Ra_23 (ct_Ra_offer X.1.2.1 (gw_z X) (gw_b X) σ a (x.1 + mo) (x.2 + k) _ (tk_ok_all _ hR) hx4 (rk_bd_all hR hbR (fun y hy => hbT y (by obtain ⟨z, hz, rfl⟩ := List.mem_map.mp hy; exact List.mem_map_of_mem (List.mem_of_mem_take hz)))) ha) ha9 rfl rfl (Nat.le_of_ble_eq_true rfl) nd_Ra_offerLonger_32 (by decide) ?_
      rintro _ σ1 ⟨rfl, ha, hf⟩
      have g0 : σ1.2 t = some (.inr (4, [.ref (t + 1), .ref (t + 2), .int (nI T.length)])) := (hf.2 t (by omega)).trans g0
      have g1 : σ1.2 (t + 1) = some ((gw_J (gw_z X) 2 gs)) := (hf.2 (t + 1) (by omega)).trans g1
      have g2 : σ1.2 (t + 2) = some ((gw_I (gw_z X) 2 gl)) := (hf.2 (t + 2) (by omega)).trans g2
      have fr : gw_fr σ0 σ1 a (a + 3) := gw_fr_tr fr hf
      rw [rk_take hx] at ha
      show gw_W X σ1 0 0 35 [(5, .int (nI j)), (0, .ref a), (1, .ref t), (2, .long (iL mo)), (4, .int (nI k))] []
      refine gw_iinc hX nd_Ra_offerLonger_35 0 rfl (v := nI (j + 1)) (show nI j + nI 1 = nI (j + 1) from nI_add _ _) (by decide) (L' := [(5, .int (nI (j + 1))), (0, .ref a), (1, .ref t), (2, .long (iL mo)), (4, .int (nI k))]) rfl ?_
      refine gw_goto (tgt := 3) hX nd_Ra_offerLonger_38 rfl ?_
      refine gw_cut (ks := [0, 1, 2, 3, 4]) (L' := [(5, .int (nI (j + 1))), (0, .ref a), (1, .ref t), (2, .long (iL mo)), (4, .int (nI k))]) rfl ?_
      exact ih (m - 1) (by omega) (j + 1) σ1 (by omega) ha ⟨gs, gl, g0, g1, g2, g3⟩ fr
set_option maxRecDepth 100000 in
set_option maxHeartbeats 4000000 in
theorem ct_Ra_offerLonger (l : Launch) (Z : gw_Z) (b0 : Nat) (σ : gw_S) (a t : Nat) (R T : List (Int × Nat)) (mo : Int) (k : Nat) (hat : a + 3 ≤ t ∨ t + 3 ≤ a) (hR : tk_ok R) (hT : T.length ≤ 2) (hbR : rk_bd R) (hbT : rk_bd (T.map (tk_sh mo k))) (hor : ∀ x ∈ T, nI x.2 ||| nI k = nI (x.2 + k)) (h : rk_at σ Z a R) (ht : rk_at σ Z t T) : gw_M l ny_Ra_offerLonger nc_Ra_offerLonger (6, 1, 23, 0, 0) none Z b0 σ [.ref a, .ref t, .long (iL mo), .int (nI k)] (fun v σ' => v = none ∧ rk_at σ' Z a (tk_all R (T.map (tk_sh mo k))) ∧ gw_fr σ σ' a (a + 3)) := by
  refine gw_M_of rfl (Nat.le_of_ble_eq_true rfl) ?_
  intro X hX hl hz hb0 hr hnm hQ
  subst hz hb0 hl
  have hX : gw_ok X nc_Ra_offerLonger "LabelLearner$Ranking" (6, 1, 23, 0, 0) := hX
  show gw_W X σ 0 0 0 [(0, .ref a), (1, .ref t), (2, .long (iL mo)), (4, .int (nI k))] []
  refine gw_iconst (v := nI 0) hX nd_Ra_offerLonger_0 rfl ?_
  refine gw_istore hX nd_Ra_offerLonger_1 (by decide) (L' := [(5, .int (nI 0)), (0, .ref a), (1, .ref t), (2, .long (iL mo)), (4, .int (nI k))]) rfl ?_
  exact lp_Ra_offerLonger a t R T mo k hat hR hT hbR hbT hor σ hX hQ hr T.length 0 σ (by omega) h ht (gw_fr_rf _ _ _)
