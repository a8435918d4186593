theorem ty_lo {x : Int32} (h : x ≤ 0) : ¬ 1 ≤ x.toInt := by
  rw [Int32.le_iff_toInt_le] at h
  have e0 : (0 : Int32).toInt = 0 := by decide
  omega
theorem ty_hi {x : Int32} (h : nI 9 ≤ x) : ¬ x.toInt ≤ 8 := by
  rw [Int32.le_iff_toInt_le] at h
  have e0 : (nI 9).toInt = 9 := by decide
  omega
theorem ty_of {x : Int32} (h0 : ¬ x ≤ 0) (h9 : ¬ nI 9 ≤ x) : ∃ c, 1 ≤ c ∧ c ≤ 8 ∧ x = nI c := by
  rw [Int32.le_iff_toInt_le] at h0 h9
  have e0 : (0 : Int32).toInt = 0 := by decide
  have e1 : (nI 1).toInt = 1 := by decide
  have e8 : (nI 8).toInt = 8 := by decide
  have e9 : (nI 9).toInt = 9 := by decide
  refine ap_of (fun h => ?_) (fun h => ?_)
  · rw [Int32.lt_iff_toInt_lt] at h; omega
  · rw [Int32.lt_iff_toInt_lt] at h; omega
set_option maxRecDepth 100000 in
set_option maxHeartbeats 4000000 in
theorem lp_Mo_type0 {X : gw_C} (m : Nat) (A : ab_A) (hA : ab_ok A) {rs be se kp kw : Int32} {bs s2 : Int64} {fm fb fl : Nat → Int32} (hO : mw_ok A kp kw fm fb fl) (w : Int64) {σ0 : gw_S} (x : Int32) (hno : ¬ ap_ok A.len w x) (hX : gw_ok X nc_Mo_type "LabelLearnerModel" (6, 1, 22, 0, 0)) (hQ : X.2.2.2.2 = gw_end X (fun v σ' => (∃ (u : Nat) (A' : ab_A), ab_t A w x u A' ∧ u < 2 ∧ v = some (.int (nI u)) ∧ mw σ' (gw_z X) m A' 0) ∧ (∀ b, b < m ∨ m + 13 ≤ b → σ'.2 b = σ0.2 b)) 0 0) (hr : X.2.2.1.1.sig.returnType = (some .boolean)) : ∀ (u : Nat) (k : Nat) (σ : gw_S), k ≤ 9 → mw_at σ (gw_z X) m A (nI 0) rs be se kp kw bs s2 fm fb fl → gw_fr σ0 σ m (m + 13) → gw_W X σ 0 0 37 [(0, .ref m), (1, .long w), (3, .int x), (4, .int (nI 0)), (5, .int (nI k))] [] := by
  intro u
  induction u using Nat.strongRecOn with
  | ind u ih =>
    intro k σ
    intro hk hM fr
    obtain ⟨h0, h1, h2, h3, h4, ⟨f5, h5⟩, ⟨f6, h6⟩, ⟨f7, h7⟩, h8, h9, ⟨f10, h10⟩, ⟨f11, h11⟩, ⟨f12, h12, hz12⟩⟩ := id hM
    refine gw_iload hX nd_Mo_type_37 4 rfl ?_
    refine gw_iload_n hX nd_Mo_type_39 rfl 2 rfl ?_
    refine gw_icmp_ge (tgt := 83) hX nd_Mo_type_40 rfl (fun hb => ?_) (fun hb => ?_)
    · skip
      refine gw_iconst (v := nI 0) hX nd_Mo_type_83 rfl ?_
      refine gw_istore hX nd_Mo_type_84 (by decide) (L' := [(5, .int (nI 0)), (0, .ref m), (1, .long w), (3, .int x), (4, .int (nI 0))]) rfl ?_
      refine gw_iload hX nd_Mo_type_86 0 rfl ?_
      refine gw_iload_n hX nd_Mo_type_88 rfl 3 rfl ?_
      refine gw_icmp_ge (tgt := 128) hX nd_Mo_type_89 rfl (fun hb => ?_) (fun hb => ?_)
      · skip
        refine gw_iload hX nd_Mo_type_128 4 rfl ?_
        exact gw_zret hX hQ hr nd_Mo_type_130 rfl (by decide) (by decide) ⟨⟨0, A, Or.inr ⟨hno, rfl, rfl⟩, by omega, rfl, ⟨_, _, _, _, _, _, _, _, _, _, ⟨h0, h1, h2, h3, h4, ⟨_, h5⟩, ⟨_, h6⟩, ⟨_, h7⟩, h8, h9, ⟨_, h10⟩, ⟨_, h11⟩, ⟨_, h12, hz12⟩⟩, hO⟩⟩, (fun b hb9 => fr.2 b (by omega))⟩
      · skip
        refine gw_iload hX nd_Mo_type_92 4 rfl ?_
        refine gw_if_eq (tgt := 128) hX nd_Mo_type_94 rfl (fun hb => ?_) (fun hb => ?_)
        · have hb : 0 = 0 := (nI_eq (a := 0) (b := 0) (by omega) (by omega)).mp hb
          refine gw_iload hX nd_Mo_type_128 4 rfl ?_
          exact gw_zret hX hQ hr nd_Mo_type_130 rfl (by decide) (by decide) ⟨⟨0, A, Or.inr ⟨hno, rfl, rfl⟩, by omega, rfl, ⟨_, _, _, _, _, _, _, _, _, _, ⟨h0, h1, h2, h3, h4, ⟨_, h5⟩, ⟨_, h6⟩, ⟨_, h7⟩, h8, h9, ⟨_, h10⟩, ⟨_, h11⟩, ⟨_, h12, hz12⟩⟩, hO⟩⟩, (fun b hb9 => fr.2 b (by omega))⟩
        · have hb : ¬ 0 = 0 := fun h => hb ((nI_eq (a := 0) (b := 0) (by omega) (by omega)).mpr h)
          exfalso; omega
    · skip
      refine gw_iload hX nd_Mo_type_43 3 rfl ?_
      refine gw_if_eq (tgt := 83) hX nd_Mo_type_45 rfl (fun hb => ?_) (fun hb => ?_)
      · have hb : 0 = 0 := (nI_eq (a := 0) (b := 0) (by omega) (by omega)).mp hb
        refine gw_iconst (v := nI 0) hX nd_Mo_type_83 rfl ?_
        refine gw_istore hX nd_Mo_type_84 (by decide) (L' := [(5, .int (nI 0)), (0, .ref m), (1, .long w), (3, .int x), (4, .int (nI 0))]) rfl ?_
        refine gw_iload hX nd_Mo_type_86 0 rfl ?_
        refine gw_iload_n hX nd_Mo_type_88 rfl 3 rfl ?_
        refine gw_icmp_ge (tgt := 128) hX nd_Mo_type_89 rfl (fun hb => ?_) (fun hb => ?_)
        · skip
          refine gw_iload hX nd_Mo_type_128 4 rfl ?_
          exact gw_zret hX hQ hr nd_Mo_type_130 rfl (by decide) (by decide) ⟨⟨0, A, Or.inr ⟨hno, rfl, rfl⟩, by omega, rfl, ⟨_, _, _, _, _, _, _, _, _, _, ⟨h0, h1, h2, h3, h4, ⟨_, h5⟩, ⟨_, h6⟩, ⟨_, h7⟩, h8, h9, ⟨_, h10⟩, ⟨_, h11⟩, ⟨_, h12, hz12⟩⟩, hO⟩⟩, (fun b hb9 => fr.2 b (by omega))⟩
        · skip
          refine gw_iload hX nd_Mo_type_92 4 rfl ?_
          refine gw_if_eq (tgt := 128) hX nd_Mo_type_94 rfl (fun hb => ?_) (fun hb => ?_)
          · have hb : 0 = 0 := (nI_eq (a := 0) (b := 0) (by omega) (by omega)).mp hb
            refine gw_iload hX nd_Mo_type_128 4 rfl ?_
            exact gw_zret hX hQ hr nd_Mo_type_130 rfl (by decide) (by decide) ⟨⟨0, A, Or.inr ⟨hno, rfl, rfl⟩, by omega, rfl, ⟨_, _, _, _, _, _, _, _, _, _, ⟨h0, h1, h2, h3, h4, ⟨_, h5⟩, ⟨_, h6⟩, ⟨_, h7⟩, h8, h9, ⟨_, h10⟩, ⟨_, h11⟩, ⟨_, h12, hz12⟩⟩, hO⟩⟩, (fun b hb9 => fr.2 b (by omega))⟩
          · have hb : ¬ 0 = 0 := fun h => hb ((nI_eq (a := 0) (b := 0) (by omega) (by omega)).mpr h)
            exfalso; omega
      · have hb : ¬ 0 = 0 := fun h => hb ((nI_eq (a := 0) (b := 0) (by omega) (by omega)).mpr h)
        exfalso; omega
set_option maxRecDepth 100000 in
set_option maxHeartbeats 4000000 in
theorem lp_Mo_type2 {X : gw_C} (m : Nat) (A : ab_A) (hA : ab_ok A) {rs be se kp kw : Int32} {bs s2 : Int64} {fm fb fl : Nat → Int32} (hO : mw_ok A kp kw fm fb fl) (w : Int64) {σ0 : gw_S} (c : Nat) (hc1 : 1 ≤ c) (hc8 : c ≤ 8) (hlc : A.len + c ≤ 240) (hok : ap_ok A.len w (nI c)) (hX : gw_ok X nc_Mo_type "LabelLearnerModel" (6, 1, 22, 0, 0)) (hQ : X.2.2.2.2 = gw_end X (fun v σ' => (∃ (u : Nat) (A' : ab_A), ab_t A w (nI c) u A' ∧ u < 2 ∧ v = some (.int (nI u)) ∧ mw σ' (gw_z X) m A' 0) ∧ (∀ b, b < m ∨ m + 13 ≤ b → σ'.2 b = σ0.2 b)) 0 0) (hr : X.2.2.1.1.sig.returnType = (some .boolean)) : ∀ (u : Nat) (k : Nat) (σ : gw_S), k + u = c → mw_at σ (gw_z X) m (ab_tx A (A.len + k) (ap_ch A.len w k A.ch)) (nI 0) rs be se kp kw bs s2 fm fb fl → gw_fr σ0 σ m (m + 13) → gw_W X σ 0 0 86 [(0, .ref m), (1, .long w), (3, .int (nI c)), (4, .int (nI 1)), (5, .int (nI k))] [] := by
  intro u
  induction u using Nat.strongRecOn with
  | ind u ih =>
    intro k σ
    intro hk hM fr
    obtain ⟨h0, h1, h2, h3, h4, ⟨f5, h5⟩, ⟨f6, h6⟩, ⟨f7, h7⟩, h8, h9, ⟨f10, h10⟩, ⟨f11, h11⟩, ⟨f12, h12, hz12⟩⟩ := id hM
    have h0 : σ.2 m = some (.inr (1, [.int (nI 0), .int (nI (A.len + k)), .ref (m + 1), .int (nI A.ss.length), .ref (m + 2), .ref (m + 3), .ref (m + 4), .int rs, .ref (m + 5), .ref (m + 6), .ref (m + 7), .ref (m + 8), .ref (m + 9), .int (nI A.mk), .int (nI A.ps), .ref (m + 10), .ref (m + 11), .ref (m + 12), .long bs, .long s2, .int be, .int se, .int kp, .int kw])) := h0
    have h1 : σ.2 (m + 1) = some (gw_I (gw_z X) 240 (fun j => nI (ap_ch A.len w k A.ch j))) := h1
    have h8 : σ.2 (m + 8) = some (gw_J (gw_z X) 148 (fun j => iL (A.wt j))) := h8
    have h9 : σ.2 (m + 9) = some (gw_J (gw_z X) 148 (fun j => iL (A.tt j))) := h9
    refine gw_iload hX nd_Mo_type_86 4 rfl ?_
    refine gw_iload_n hX nd_Mo_type_88 rfl 2 rfl ?_
    refine gw_icmp_ge (tgt := 128) hX nd_Mo_type_89 rfl (fun hb => ?_) (fun hb => ?_)
    · have hb : c ≤ k := (nI_leI (a := c) (b := k) (by omega) (by omega)).mp hb
      refine gw_iload hX nd_Mo_type_128 3 rfl ?_
      exact gw_zret hX hQ hr nd_Mo_type_130 rfl (by decide) (by decide) ⟨⟨1, ab_tx A (A.len + c) (ap_ch A.len w c A.ch), Or.inl ⟨hok, rfl, by rw [nI_clamp (by omega)]⟩, by omega, rfl, (by have hke : k = c := (by omega); subst hke; exact ⟨_, _, _, _, _, _, _, _, _, _, ⟨h0, h1, h2, h3, h4, ⟨_, h5⟩, ⟨_, h6⟩, ⟨_, h7⟩, h8, h9, ⟨_, h10⟩, ⟨_, h11⟩, ⟨_, h12, hz12⟩⟩, hO⟩)⟩, (fun b hb9 => fr.2 b (by omega))⟩
    · have hb : ¬ c ≤ k := fun h => hb ((nI_leI (a := c) (b := k) (by omega) (by omega)).mpr h)
      refine gw_iload hX nd_Mo_type_92 3 rfl ?_
      refine gw_if_eq (tgt := 128) hX nd_Mo_type_94 rfl (fun hb => ?_) (fun hb => ?_)
      · have hb : 1 = 0 := (nI_eq (a := 1) (b := 0) (by omega) (by omega)).mp hb
        exfalso; omega
      · have hb : ¬ 1 = 0 := fun h => hb ((nI_eq (a := 1) (b := 0) (by omega) (by omega)).mpr h)
        refine gw_aload_n hX nd_Mo_type_97 rfl 0 rfl ?_
        refine gw_get hX kf_Mo_7 nd_Mo_type_98 h0 rfl ?_
        refine gw_aload_n hX nd_Mo_type_101 rfl 0 rfl ?_
        refine gw_get hX kf_Mo_56 nd_Mo_type_102 h0 rfl ?_
        refine gw_lload_n hX nd_Mo_type_105 rfl 1 rfl ?_
        refine gw_iload hX nd_Mo_type_106 4 rfl ?_
        refine gw_callS (rest := [.int (nI (A.len + k)), .ref (m + 1)]) hX ks_Mo_59 (ct_Mo_letter _ _ _ σ w k (by omega)) rfl rfl (Nat.le_of_ble_eq_true rfl) nd_Mo_type_108 (by decide) ?_
        rintro v_ s_ ⟨hv_, hs_⟩
        have hs_ := hs_.symm
        subst hs_ hv_
        show gw_W X σ 0 0 111 [(0, .ref m), (1, .long w), (3, .int (nI c)), (4, .int (nI 1)), (5, .int (nI k))] [.int (nI (by_at w k)), .int (nI (A.len + k)), .ref (m + 1)]
        refine gw_iast hX nd_Mo_type_111 h1 (A.len + k) rfl (by omega) (by decide) ?_
        refine gw_heap (show gw_up σ (m + 1) ((gw_I (gw_z X) 240 (upd (fun j => nI (ap_ch A.len w k A.ch j)) (A.len + k) (nI (by_at w k))))) = gw_up σ (m + 1) ((gw_I (gw_z X) 240 (fun j => nI (ap_ch A.len w (k + 1) A.ch j)))) by rw [show upd (fun j => nI (ap_ch A.len w k A.ch j)) (A.len + k) (nI (by_at w k)) = fun j => nI (ap_ch A.len w (k + 1) A.ch j) from (ap_ch_s _ _ _ _)]) ?_
        obtain ⟨σ1, eσ1⟩ : ∃ hp_, hp_ = gw_up σ (m + 1) ((gw_I (gw_z X) 240 (fun j => nI (ap_ch A.len w (k + 1) A.ch j)))) := ⟨_, rfl⟩
        refine gw_heap eσ1.symm ?_
        have h0 : σ1.2 m = some (.inr (1, [.int (nI 0), .int (nI (A.len + k)), .ref (m + 1), .int (nI A.ss.length), .ref (m + 2), .ref (m + 3), .ref (m + 4), .int rs, .ref (m + 5), .ref (m + 6), .ref (m + 7), .ref (m + 8), .ref (m + 9), .int (nI A.mk), .int (nI A.ps), .ref (m + 10), .ref (m + 11), .ref (m + 12), .long bs, .long s2, .int be, .int se, .int kp, .int kw])) := by rw [eσ1, gw_up_ne (by omega)]; exact h0
        have h1 : σ1.2 (m + 1) = some ((gw_I (gw_z X) 240 (fun j => nI (ap_ch A.len w (k + 1) A.ch j)))) := by rw [eσ1]; exact gw_up_eq _ _ _
        have h2 : σ1.2 (m + 2) = some ((gw_I (gw_z X) 9 fm)) := by rw [eσ1, gw_up_ne (by omega)]; exact h2
        have h3 : σ1.2 (m + 3) = some ((gw_I (gw_z X) 162 fb)) := by rw [eσ1, gw_up_ne (by omega)]; exact h3
        have h4 : σ1.2 (m + 4) = some ((gw_I (gw_z X) 54 fl)) := by rw [eσ1, gw_up_ne (by omega)]; exact h4
        have h5 : σ1.2 (m + 5) = some ((gw_I (gw_z X) 9 f5)) := by rw [eσ1, gw_up_ne (by omega)]; exact h5
        have h6 : σ1.2 (m + 6) = some ((gw_I (gw_z X) 162 f6)) := by rw [eσ1, gw_up_ne (by omega)]; exact h6
        have h7 : σ1.2 (m + 7) = some ((gw_I (gw_z X) 54 f7)) := by rw [eσ1, gw_up_ne (by omega)]; exact h7
        have h8 : σ1.2 (m + 8) = some ((gw_J (gw_z X) 148 (fun j => iL (A.wt j)))) := by rw [eσ1, gw_up_ne (by omega)]; exact h8
        have h9 : σ1.2 (m + 9) = some ((gw_J (gw_z X) 148 (fun j => iL (A.tt j)))) := by rw [eσ1, gw_up_ne (by omega)]; exact h9
        have h10 : σ1.2 (m + 10) = some ((gw_J (gw_z X) 24 f10)) := by rw [eσ1, gw_up_ne (by omega)]; exact h10
        have h11 : σ1.2 (m + 11) = some ((gw_I (gw_z X) 6 f11)) := by rw [eσ1, gw_up_ne (by omega)]; exact h11
        have h12 : σ1.2 (m + 12) = some ((gw_J (gw_z X) 7 f12)) := by rw [eσ1, gw_up_ne (by omega)]; exact h12
        have fr : gw_fr σ0 σ1 m (m + 13) := gw_fr_tr fr (show gw_fr _ σ1 m (m + 13) by rw [eσ1]; exact gw_fr_up _ _ _ (by omega) (by omega))
        refine gw_aload_n hX nd_Mo_type_112 rfl 0 rfl ?_
        refine gw_dup hX nd_Mo_type_113 rfl ?_
        refine gw_get hX kf_Mo_56 nd_Mo_type_114 h0 rfl ?_
        refine gw_iconst (v := nI 1) hX nd_Mo_type_117 rfl ?_
        refine gw_iadd hX nd_Mo_type_118 ?_
        refine gw_topi (y := nI (A.len + k + 1)) (nI_add _ _) ?_
        refine gw_put hX kf_Mo_56 nd_Mo_type_119 h0 rfl rfl (Nat.le_of_ble_eq_true rfl) (e' := .inr (1, [.int (nI 0), .int (nI (A.len + k + 1)), .ref (m + 1), .int (nI A.ss.length), .ref (m + 2), .ref (m + 3), .ref (m + 4), .int rs, .ref (m + 5), .ref (m + 6), .ref (m + 7), .ref (m + 8), .ref (m + 9), .int (nI A.mk), .int (nI A.ps), .ref (m + 10), .ref (m + 11), .ref (m + 12), .long bs, .long s2, .int be, .int se, .int kp, .int kw])) rfl ?_
        obtain ⟨σ2, eσ2⟩ : ∃ hp_, hp_ = gw_up σ1 m (.inr (1, [.int (nI 0), .int (nI (A.len + k + 1)), .ref (m + 1), .int (nI A.ss.length), .ref (m + 2), .ref (m + 3), .ref (m + 4), .int rs, .ref (m + 5), .ref (m + 6), .ref (m + 7), .ref (m + 8), .ref (m + 9), .int (nI A.mk), .int (nI A.ps), .ref (m + 10), .ref (m + 11), .ref (m + 12), .long bs, .long s2, .int be, .int se, .int kp, .int kw])) := ⟨_, rfl⟩
        refine gw_heap eσ2.symm ?_
        have h0 : σ2.2 m = some (.inr (1, [.int (nI 0), .int (nI (A.len + k + 1)), .ref (m + 1), .int (nI A.ss.length), .ref (m + 2), .ref (m + 3), .ref (m + 4), .int rs, .ref (m + 5), .ref (m + 6), .ref (m + 7), .ref (m + 8), .ref (m + 9), .int (nI A.mk), .int (nI A.ps), .ref (m + 10), .ref (m + 11), .ref (m + 12), .long bs, .long s2, .int be, .int se, .int kp, .int kw])) := by rw [eσ2]; exact gw_up_eq _ _ _
        have h1 : σ2.2 (m + 1) = some ((gw_I (gw_z X) 240 (fun j => nI (ap_ch A.len w (k + 1) A.ch j)))) := by rw [eσ2, gw_up_ne (by omega)]; exact h1
        have h2 : σ2.2 (m + 2) = some ((gw_I (gw_z X) 9 fm)) := by rw [eσ2, gw_up_ne (by omega)]; exact h2
        have h3 : σ2.2 (m + 3) = some ((gw_I (gw_z X) 162 fb)) := by rw [eσ2, gw_up_ne (by omega)]; exact h3
        have h4 : σ2.2 (m + 4) = some ((gw_I (gw_z X) 54 fl)) := by rw [eσ2, gw_up_ne (by omega)]; exact h4
        have h5 : σ2.2 (m + 5) = some ((gw_I (gw_z X) 9 f5)) := by rw [eσ2, gw_up_ne (by omega)]; exact h5
        have h6 : σ2.2 (m + 6) = some ((gw_I (gw_z X) 162 f6)) := by rw [eσ2, gw_up_ne (by omega)]; exact h6
        have h7 : σ2.2 (m + 7) = some ((gw_I (gw_z X) 54 f7)) := by rw [eσ2, gw_up_ne (by omega)]; exact h7
        have h8 : σ2.2 (m + 8) = some ((gw_J (gw_z X) 148 (fun j => iL (A.wt j)))) := by rw [eσ2, gw_up_ne (by omega)]; exact h8
        have h9 : σ2.2 (m + 9) = some ((gw_J (gw_z X) 148 (fun j => iL (A.tt j)))) := by rw [eσ2, gw_up_ne (by omega)]; exact h9
        have h10 : σ2.2 (m + 10) = some ((gw_J (gw_z X) 24 f10)) := by rw [eσ2, gw_up_ne (by omega)]; exact h10
        have h11 : σ2.2 (m + 11) = some ((gw_I (gw_z X) 6 f11)) := by rw [eσ2, gw_up_ne (by omega)]; exact h11
        have h12 : σ2.2 (m + 12) = some ((gw_J (gw_z X) 7 f12)) := by rw [eσ2, gw_up_ne (by omega)]; exact h12
        have fr : gw_fr σ0 σ2 m (m + 13) := gw_fr_tr fr (show gw_fr _ σ2 m (m + 13) by rw [eσ2]; exact gw_fr_up _ _ _ (by omega) (by omega))
        refine gw_iinc hX nd_Mo_type_122 4 rfl (v := nI (k + 1)) (show nI k + nI 1 = nI (k + 1) from nI_add _ _) (by decide) (L' := [(5, .int (nI (k + 1))), (0, .ref m), (1, .long w), (3, .int (nI c)), (4, .int (nI 1))]) rfl ?_
        refine gw_goto (tgt := 86) hX nd_Mo_type_125 rfl ?_
        refine gw_cut (ks := [1, 2, 3, 4, 0]) (L' := [(0, .ref m), (1, .long w), (3, .int (nI c)), (4, .int (nI 1)), (5, .int (nI (k + 1)))]) rfl ?_
        exact ih (u - 1) (by omega) (k + 1) _ (by omega) ⟨h0, h1, h2, h3, h4, ⟨_, h5⟩, ⟨_, h6⟩, ⟨_, h7⟩, h8, h9, ⟨_, h10⟩, ⟨_, h11⟩, ⟨_, h12, hz12⟩⟩ fr
set_option maxRecDepth 100000 in
set_option maxHeartbeats 4000000 in
theorem lp_Mo_type1 {X : gw_C} (m : Nat) (A : ab_A) (hA : ab_ok A) {rs be se kp kw : Int32} {bs s2 : Int64} {fm fb fl : Nat → Int32} (hO : mw_ok A kp kw fm fb fl) (w : Int64) {σ0 : gw_S} (c : Nat) (hc1 : 1 ≤ c) (hc8 : c ≤ 8) (hlc : A.len + c ≤ 240) {σ : gw_S} (hM : mw_at σ (gw_z X) m A (nI 0) rs be se kp kw bs s2 fm fb fl) (fr : gw_fr σ0 σ m (m + 13)) (hX : gw_ok X nc_Mo_type "LabelLearnerModel" (6, 1, 22, 0, 0)) (hQ : X.2.2.2.2 = gw_end X (fun v σ' => (∃ (u : Nat) (A' : ab_A), ab_t A w (nI c) u A' ∧ u < 2 ∧ v = some (.int (nI u)) ∧ mw σ' (gw_z X) m A' 0) ∧ (∀ b, b < m ∨ m + 13 ≤ b → σ'.2 b = σ0.2 b)) 0 0) (hr : X.2.2.1.1.sig.returnType = (some .boolean)) : ∀ (u : Nat) (k : Nat), k + u = c → (∀ j, j < k → 32 ≤ by_at w j ∧ by_at w j ≤ 126) → gw_W X σ 0 0 37 [(0, .ref m), (1, .long w), (3, .int (nI c)), (4, .int (nI 1)), (5, .int (nI k))] [] := by
  intro u
  induction u using Nat.strongRecOn with
  | ind u ih =>
    intro k
    intro hk hal
    obtain ⟨h0, h1, h2, h3, h4, ⟨f5, h5⟩, ⟨f6, h6⟩, ⟨f7, h7⟩, h8, h9, ⟨f10, h10⟩, ⟨f11, h11⟩, ⟨f12, h12, hz12⟩⟩ := id hM
    refine gw_iload hX nd_Mo_type_37 4 rfl ?_
    refine gw_iload_n hX nd_Mo_type_39 rfl 2 rfl ?_
    refine gw_icmp_ge (tgt := 83) hX nd_Mo_type_40 rfl (fun hb => ?_) (fun hb => ?_)
    · have hb : c ≤ k := (nI_leI (a := c) (b := k) (by omega) (by omega)).mp hb
      refine gw_iconst (v := nI 0) hX nd_Mo_type_83 rfl ?_
      refine gw_istore hX nd_Mo_type_84 (by decide) (L' := [(5, .int (nI 0)), (0, .ref m), (1, .long w), (3, .int (nI c)), (4, .int (nI 1))]) rfl ?_
      refine gw_cut (ks := [1, 2, 3, 4, 0]) (L' := [(0, .ref m), (1, .long w), (3, .int (nI c)), (4, .int (nI 1)), (5, .int (nI 0))]) rfl ?_
      exact lp_Mo_type2 m A hA hO w c hc1 hc8 hlc ⟨by rw [nI_toInt (by omega)]; omega, by rw [nI_toInt (by omega)]; omega, by rw [nI_toInt (by omega)]; omega, fun j hj => by rw [nI_clamp (by omega)] at hj; exact hal j (by omega)⟩ hX hQ hr c 0 σ (by omega) (by rw [ap_ch_0]; exact hM) fr
    · have hb : ¬ c ≤ k := fun h => hb ((nI_leI (a := c) (b := k) (by omega) (by omega)).mpr h)
      refine gw_iload hX nd_Mo_type_43 3 rfl ?_
      refine gw_if_eq (tgt := 83) hX nd_Mo_type_45 rfl (fun hb => ?_) (fun hb => ?_)
      · have hb : 1 = 0 := (nI_eq (a := 1) (b := 0) (by omega) (by omega)).mp hb
        exfalso; omega
      · have hb : ¬ 1 = 0 := fun h => hb ((nI_eq (a := 1) (b := 0) (by omega) (by omega)).mpr h)
        refine gw_lload_n hX nd_Mo_type_48 rfl 1 rfl ?_
        refine gw_iload hX nd_Mo_type_49 4 rfl ?_
        have hbl := by_lt w k
        have hkc := hb
        refine gw_callS (rest := []) hX ks_Mo_59 (ct_Mo_letter _ _ _ σ w k (by omega)) rfl rfl (Nat.le_of_ble_eq_true rfl) nd_Mo_type_51 (by decide) ?_
        rintro v_ s_ ⟨hv_, hs_⟩
        have hs_ := hs_.symm
        subst hs_ hv_
        show gw_W X σ 0 0 54 [(0, .ref m), (1, .long w), (3, .int (nI c)), (4, .int (nI 1)), (5, .int (nI k))] [.int (nI (by_at w k))]
        refine gw_bipush (v := nI 31) hX nd_Mo_type_54 rfl ?_
        refine gw_icmp_le (tgt := 74) hX nd_Mo_type_56 rfl (fun hb => ?_) (fun hb => ?_)
        · have hb : by_at w k ≤ 31 := (nI_leI (a := by_at w k) (b := 31) (by omega) (by omega)).mp hb
          refine gw_iconst (v := nI 0) hX nd_Mo_type_74 rfl ?_
          refine gw_istore hX nd_Mo_type_75 (by decide) (L' := [(4, .int (nI 0)), (0, .ref m), (1, .long w), (3, .int (nI c)), (5, .int (nI k))]) rfl ?_
          refine gw_iinc hX nd_Mo_type_77 4 rfl (v := nI (k + 1)) (show nI k + nI 1 = nI (k + 1) from nI_add _ _) (by decide) (L' := [(5, .int (nI (k + 1))), (4, .int (nI 0)), (0, .ref m), (1, .long w), (3, .int (nI c))]) rfl ?_
          refine gw_goto (tgt := 37) hX nd_Mo_type_80 rfl ?_
          refine gw_cut (ks := [2, 3, 4, 1, 0]) (L' := [(0, .ref m), (1, .long w), (3, .int (nI c)), (4, .int (nI 0)), (5, .int (nI (k + 1)))]) rfl ?_
          exact lp_Mo_type0 m A hA hO w (nI c) (fun h => by have := h.2.2.2 k (by rw [nI_clamp (by omega)]; omega); omega) hX hQ hr 0 (k + 1) _ (by omega) hM fr
        · have hb : ¬ by_at w k ≤ 31 := fun h => hb ((nI_leI (a := by_at w k) (b := 31) (by omega) (by omega)).mpr h)
          refine gw_lload_n hX nd_Mo_type_59 rfl 1 rfl ?_
          refine gw_iload hX nd_Mo_type_60 4 rfl ?_
          have hlo := hb
          refine gw_callS (rest := []) hX ks_Mo_59 (ct_Mo_letter _ _ _ σ w k (by omega)) rfl rfl (Nat.le_of_ble_eq_true rfl) nd_Mo_type_62 (by decide) ?_
          rintro v_ s_ ⟨hv_, hs_⟩
          have hs_ := hs_.symm
          subst hs_ hv_
          show gw_W X σ 0 0 65 [(0, .ref m), (1, .long w), (3, .int (nI c)), (4, .int (nI 1)), (5, .int (nI k))] [.int (nI (by_at w k))]
          refine gw_bipush (v := nI 127) hX nd_Mo_type_65 rfl ?_
          refine gw_icmp_ge (tgt := 74) hX nd_Mo_type_67 rfl (fun hb => ?_) (fun hb => ?_)
          · have hb : 127 ≤ by_at w k := (nI_leI (a := 127) (b := by_at w k) (by omega) (by omega)).mp hb
            refine gw_iconst (v := nI 0) hX nd_Mo_type_74 rfl ?_
            refine gw_istore hX nd_Mo_type_75 (by decide) (L' := [(4, .int (nI 0)), (0, .ref m), (1, .long w), (3, .int (nI c)), (5, .int (nI k))]) rfl ?_
            refine gw_iinc hX nd_Mo_type_77 4 rfl (v := nI (k + 1)) (show nI k + nI 1 = nI (k + 1) from nI_add _ _) (by decide) (L' := [(5, .int (nI (k + 1))), (4, .int (nI 0)), (0, .ref m), (1, .long w), (3, .int (nI c))]) rfl ?_
            refine gw_goto (tgt := 37) hX nd_Mo_type_80 rfl ?_
            refine gw_cut (ks := [2, 3, 4, 1, 0]) (L' := [(0, .ref m), (1, .long w), (3, .int (nI c)), (4, .int (nI 0)), (5, .int (nI (k + 1)))]) rfl ?_
            exact lp_Mo_type0 m A hA hO w (nI c) (fun h => by have := h.2.2.2 k (by rw [nI_clamp (by omega)]; omega); omega) hX hQ hr 0 (k + 1) _ (by omega) hM fr
          · have hb : ¬ 127 ≤ by_at w k := fun h => hb ((nI_leI (a := 127) (b := by_at w k) (by omega) (by omega)).mpr h)
            refine gw_iconst (v := nI 1) hX nd_Mo_type_70 rfl ?_
            refine gw_goto (tgt := 75) hX nd_Mo_type_71 rfl ?_
            refine gw_istore hX nd_Mo_type_75 (by decide) (L' := [(4, .int (nI 1)), (0, .ref m), (1, .long w), (3, .int (nI c)), (5, .int (nI k))]) rfl ?_
            refine gw_iinc hX nd_Mo_type_77 4 rfl (v := nI (k + 1)) (show nI k + nI 1 = nI (k + 1) from nI_add _ _) (by decide) (L' := [(5, .int (nI (k + 1))), (4, .int (nI 1)), (0, .ref m), (1, .long w), (3, .int (nI c))]) rfl ?_
            refine gw_goto (tgt := 37) hX nd_Mo_type_80 rfl ?_
            refine gw_cut (ks := [2, 3, 4, 1, 0]) (L' := [(0, .ref m), (1, .long w), (3, .int (nI c)), (4, .int (nI 1)), (5, .int (nI (k + 1)))]) rfl ?_
            exact ih (u - 1) (by omega) (k + 1) (by omega) (fun j hj => by by_cases e : j = k; (rw [e]; omega); exact hal j (by omega))
set_option maxRecDepth 100000 in
set_option maxHeartbeats 4000000 in
theorem ct_Mo_type (l : Launch) (Z : gw_Z) (b0 : Nat) (σ : gw_S) (m : Nat) (A : ab_A) (hA : ab_ok A) {th rs be se kp kw : Int32} {bs s2 : Int64} {fm fb fl : Nat → Int32} (hM : mw_at σ Z m A th rs be se kp kw bs s2 fm fb fl) (hO : mw_ok A kp kw fm fb fl) (w : Int64) (x : Int32) : gw_M l ny_Mo_type nc_Mo_type (6, 1, 22, 0, 0) (some .boolean) Z b0 σ [.ref m, .long w, .int x] (fun v σ' => (∃ (u : Nat) (A' : ab_A), ab_t A w x u A' ∧ u < 2 ∧ v = some (.int (nI u)) ∧ mw σ' Z m A' 0) ∧ (∀ b, b < m ∨ m + 13 ≤ b → σ'.2 b = σ.2 b)) := by
  refine gw_M_of rfl (Nat.le_of_ble_eq_true rfl) ?_
  intro X hX hl hz hb0 hr hnm hQ
  subst hz hb0 hl
  have hX : gw_ok X nc_Mo_type "LabelLearnerModel" (6, 1, 22, 0, 0) := hX
  show gw_W X σ 0 0 0 [(0, .ref m), (1, .long w), (3, .int x)] []
  have fr : gw_fr σ σ m (m + 13) := gw_fr_rf _ _ _
  obtain ⟨h0, h1, h2, h3, h4, ⟨f5, h5⟩, ⟨f6, h6⟩, ⟨f7, h7⟩, h8, h9, ⟨f10, h10⟩, ⟨f11, h11⟩, ⟨f12, h12, hz12⟩⟩ := id hM
  have hl8 := hA.2.2.1
  have hsp6 := hA.2.2.2.2.1.2
  have hln := hA.1
  refine gw_aload_n hX nd_Mo_type_0 rfl 0 rfl ?_
  refine gw_iconst (v := nI 0) hX nd_Mo_type_1 rfl ?_
  refine gw_put hX kf_Mo_51 nd_Mo_type_2 h0 rfl rfl (Nat.le_of_ble_eq_true rfl) (e' := .inr (1, [.int (nI 0), .int (nI A.len), .ref (m + 1), .int (nI A.ss.length), .ref (m + 2), .ref (m + 3), .ref (m + 4), .int rs, .ref (m + 5), .ref (m + 6), .ref (m + 7), .ref (m + 8), .ref (m + 9), .int (nI A.mk), .int (nI A.ps), .ref (m + 10), .ref (m + 11), .ref (m + 12), .long bs, .long s2, .int be, .int se, .int kp, .int kw])) rfl ?_
  obtain ⟨σ1, eσ1⟩ : ∃ hp_, hp_ = gw_up σ m (.inr (1, [.int (nI 0), .int (nI A.len), .ref (m + 1), .int (nI A.ss.length), .ref (m + 2), .ref (m + 3), .ref (m + 4), .int rs, .ref (m + 5), .ref (m + 6), .ref (m + 7), .ref (m + 8), .ref (m + 9), .int (nI A.mk), .int (nI A.ps), .ref (m + 10), .ref (m + 11), .ref (m + 12), .long bs, .long s2, .int be, .int se, .int kp, .int kw])) := ⟨_, rfl⟩
  refine gw_heap eσ1.symm ?_
  have h0 : σ1.2 m = some (.inr (1, [.int (nI 0), .int (nI A.len), .ref (m + 1), .int (nI A.ss.length), .ref (m + 2), .ref (m + 3), .ref (m + 4), .int rs, .ref (m + 5), .ref (m + 6), .ref (m + 7), .ref (m + 8), .ref (m + 9), .int (nI A.mk), .int (nI A.ps), .ref (m + 10), .ref (m + 11), .ref (m + 12), .long bs, .long s2, .int be, .int se, .int kp, .int kw])) := by rw [eσ1]; exact gw_up_eq _ _ _
  have h1 : σ1.2 (m + 1) = some ((gw_I (gw_z X) 240 (fun j => nI (A.ch j)))) := by rw [eσ1, gw_up_ne (by omega)]; exact h1
  have h2 : σ1.2 (m + 2) = some ((gw_I (gw_z X) 9 fm)) := by rw [eσ1, gw_up_ne (by omega)]; exact h2
  have h3 : σ1.2 (m + 3) = some ((gw_I (gw_z X) 162 fb)) := by rw [eσ1, gw_up_ne (by omega)]; exact h3
  have h4 : σ1.2 (m + 4) = some ((gw_I (gw_z X) 54 fl)) := by rw [eσ1, gw_up_ne (by omega)]; exact h4
  have h5 : σ1.2 (m + 5) = some ((gw_I (gw_z X) 9 f5)) := by rw [eσ1, gw_up_ne (by omega)]; exact h5
  have h6 : σ1.2 (m + 6) = some ((gw_I (gw_z X) 162 f6)) := by rw [eσ1, gw_up_ne (by omega)]; exact h6
  have h7 : σ1.2 (m + 7) = some ((gw_I (gw_z X) 54 f7)) := by rw [eσ1, gw_up_ne (by omega)]; exact h7
  have h8 : σ1.2 (m + 8) = some ((gw_J (gw_z X) 148 (fun j => iL (A.wt j)))) := by rw [eσ1, gw_up_ne (by omega)]; exact h8
  have h9 : σ1.2 (m + 9) = some ((gw_J (gw_z X) 148 (fun j => iL (A.tt j)))) := by rw [eσ1, gw_up_ne (by omega)]; exact h9
  have h10 : σ1.2 (m + 10) = some ((gw_J (gw_z X) 24 f10)) := by rw [eσ1, gw_up_ne (by omega)]; exact h10
  have h11 : σ1.2 (m + 11) = some ((gw_I (gw_z X) 6 f11)) := by rw [eσ1, gw_up_ne (by omega)]; exact h11
  have h12 : σ1.2 (m + 12) = some ((gw_J (gw_z X) 7 f12)) := by rw [eσ1, gw_up_ne (by omega)]; exact h12
  have fr : gw_fr σ σ1 m (m + 13) := gw_fr_tr fr (show gw_fr _ σ1 m (m + 13) by rw [eσ1]; exact gw_fr_up _ _ _ (by omega) (by omega))
  refine gw_iload_n hX nd_Mo_type_5 rfl 2 rfl ?_
  refine gw_if_le (tgt := 31) hX nd_Mo_type_6 rfl (fun hb => ?_) (fun hb => ?_)
  · skip
    have hno : ¬ ap_ok A.len w x := fun h => ty_lo hb h.1
    refine gw_iconst (v := nI 0) hX nd_Mo_type_31 rfl ?_
    refine gw_istore hX nd_Mo_type_32 (by decide) (L' := [(4, .int (nI 0)), (0, .ref m), (1, .long w), (3, .int x)]) rfl ?_
    refine gw_iconst (v := nI 0) hX nd_Mo_type_34 rfl ?_
    refine gw_istore hX nd_Mo_type_35 (by decide) (L' := [(5, .int (nI 0)), (4, .int (nI 0)), (0, .ref m), (1, .long w), (3, .int x)]) rfl ?_
    refine gw_cut (ks := [2, 3, 4, 1, 0]) (L' := [(0, .ref m), (1, .long w), (3, .int x), (4, .int (nI 0)), (5, .int (nI 0))]) rfl ?_
    exact lp_Mo_type0 m A hA hO w x hno hX hQ hr 0 0 _ (by omega) ⟨h0, h1, h2, h3, h4, ⟨_, h5⟩, ⟨_, h6⟩, ⟨_, h7⟩, h8, h9, ⟨_, h10⟩, ⟨_, h11⟩, ⟨_, h12, hz12⟩⟩ fr
  · skip
    have hx0 := hb
    refine gw_iload_n hX nd_Mo_type_9 rfl 2 rfl ?_
    refine gw_bipush (v := nI 9) hX nd_Mo_type_10 rfl ?_
    refine gw_icmp_ge (tgt := 31) hX nd_Mo_type_12 rfl (fun hb => ?_) (fun hb => ?_)
    · skip
      have hno : ¬ ap_ok A.len w x := fun h => ty_hi hb h.2.1
      refine gw_iconst (v := nI 0) hX nd_Mo_type_31 rfl ?_
      refine gw_istore hX nd_Mo_type_32 (by decide) (L' := [(4, .int (nI 0)), (0, .ref m), (1, .long w), (3, .int x)]) rfl ?_
      refine gw_iconst (v := nI 0) hX nd_Mo_type_34 rfl ?_
      refine gw_istore hX nd_Mo_type_35 (by decide) (L' := [(5, .int (nI 0)), (4, .int (nI 0)), (0, .ref m), (1, .long w), (3, .int x)]) rfl ?_
      refine gw_cut (ks := [2, 3, 4, 1, 0]) (L' := [(0, .ref m), (1, .long w), (3, .int x), (4, .int (nI 0)), (5, .int (nI 0))]) rfl ?_
      exact lp_Mo_type0 m A hA hO w x hno hX hQ hr 0 0 _ (by omega) ⟨h0, h1, h2, h3, h4, ⟨_, h5⟩, ⟨_, h6⟩, ⟨_, h7⟩, h8, h9, ⟨_, h10⟩, ⟨_, h11⟩, ⟨_, h12, hz12⟩⟩ fr
    · skip
      obtain ⟨c, hc1, hc8, rfl⟩ := ty_of hx0 hb
      refine gw_aload_n hX nd_Mo_type_15 rfl 0 rfl ?_
      refine gw_get hX kf_Mo_56 nd_Mo_type_16 h0 rfl ?_
      refine gw_iload_n hX nd_Mo_type_19 rfl 2 rfl ?_
      refine gw_iadd hX nd_Mo_type_20 ?_
      refine gw_topi (y := nI (A.len + c)) (nI_add _ _) ?_
      refine gw_sipush (v := nI 240) hX nd_Mo_type_21 rfl ?_
      refine gw_icmp_gt (tgt := 31) hX nd_Mo_type_24 rfl (fun hb => ?_) (fun hb => ?_)
      · have hb : 240 < A.len + c := (nI_ltI (a := 240) (b := A.len + c) (by omega) (by omega)).mp hb
        have hno : ¬ ap_ok A.len w (nI c) := fun h => by have h1 := h.2.2.1; rw [nI_toInt (by omega)] at h1; omega
        refine gw_iconst (v := nI 0) hX nd_Mo_type_31 rfl ?_
        refine gw_istore hX nd_Mo_type_32 (by decide) (L' := [(4, .int (nI 0)), (0, .ref m), (1, .long w), (3, .int (nI c))]) rfl ?_
        refine gw_iconst (v := nI 0) hX nd_Mo_type_34 rfl ?_
        refine gw_istore hX nd_Mo_type_35 (by decide) (L' := [(5, .int (nI 0)), (4, .int (nI 0)), (0, .ref m), (1, .long w), (3, .int (nI c))]) rfl ?_
        refine gw_cut (ks := [2, 3, 4, 1, 0]) (L' := [(0, .ref m), (1, .long w), (3, .int (nI c)), (4, .int (nI 0)), (5, .int (nI 0))]) rfl ?_
        exact lp_Mo_type0 m A hA hO w (nI c) hno hX hQ hr 0 0 _ (by omega) ⟨h0, h1, h2, h3, h4, ⟨_, h5⟩, ⟨_, h6⟩, ⟨_, h7⟩, h8, h9, ⟨_, h10⟩, ⟨_, h11⟩, ⟨_, h12, hz12⟩⟩ fr
      · have hb : ¬ 240 < A.len + c := fun h => hb ((nI_ltI (a := 240) (b := A.len + c) (by omega) (by omega)).mpr h)
        have hlc : A.len + c ≤ 240 := by omega
        refine gw_iconst (v := nI 1) hX nd_Mo_type_27 rfl ?_
        refine gw_goto (tgt := 32) hX nd_Mo_type_28 rfl ?_
        refine gw_istore hX nd_Mo_type_32 (by decide) (L' := [(4, .int (nI 1)), (0, .ref m), (1, .long w), (3, .int (nI c))]) rfl ?_
        refine gw_iconst (v := nI 0) hX nd_Mo_type_34 rfl ?_
        refine gw_istore hX nd_Mo_type_35 (by decide) (L' := [(5, .int (nI 0)), (4, .int (nI 1)), (0, .ref m), (1, .long w), (3, .int (nI c))]) rfl ?_
        refine gw_cut (ks := [2, 3, 4, 1, 0]) (L' := [(0, .ref m), (1, .long w), (3, .int (nI c)), (4, .int (nI 1)), (5, .int (nI 0))]) rfl ?_
        exact lp_Mo_type1 m A hA hO w c hc1 hc8 hlc ⟨h0, h1, h2, h3, h4, ⟨_, h5⟩, ⟨_, h6⟩, ⟨_, h7⟩, h8, h9, ⟨_, h10⟩, ⟨_, h11⟩, ⟨_, h12, hz12⟩⟩ fr hX hQ hr c 0 (by omega) (fun j hj => by omega)
