set_option maxRecDepth 100000 in
set_option maxHeartbeats 4000000 in
theorem ct_Te_keep (l : Launch) (Z : gw_Z) (b0 : Nat) (σ : gw_S) (t len k : Nat) (ch : Nat → Nat) (hlen : len ≤ 240) (x : Int32) (h : tx_at σ Z t len k ch) : gw_M l ny_Te_keep nc_Te_keep (2, 0, 0, 0, 0) (some .boolean) Z b0 σ [.ref t, .int x] (fun v σ' => ((∃ c, x = nI c ∧ c ≤ len ∧ v = some (.int (nI 1)) ∧ tx_at σ' Z t c k ch) ∨ ((∀ c, c ≤ len → x ≠ nI c) ∧ v = some (.int (nI 0)) ∧ tx_at σ' Z t len k ch)) ∧ gw_fr σ σ' t (t + 2)) := by
  refine gw_M_of rfl (Nat.le_of_ble_eq_true rfl) ?_
  intro X hX hl hz hb0 hr hnm hQ
  subst hz hb0 hl
  have hX : gw_ok X nc_Te_keep "LabelLearner$Text" (2, 0, 0, 0, 0) := hX
  show gw_W X σ 0 0 0 [(0, .ref t), (1, .int x)] []
  have fr : gw_fr σ σ t (t + 2) := gw_fr_rf _ _ _
  obtain ⟨h0, h1⟩ := id h
  refine gw_iload_n hX nd_Te_keep_0 rfl 1 rfl ?_
  refine gw_if_lt (tgt := 12) hX nd_Te_keep_1 rfl (fun hb => ?_) (fun hb => ?_)
  · skip
    refine gw_iconst (v := nI 0) hX nd_Te_keep_12 rfl ?_
    exact gw_zret hX hQ hr nd_Te_keep_13 rfl (by decide) (by decide) ⟨Or.inr ⟨fun c hc e => by rw [e] at hb; exact nI_pos (by omega) hb, rfl, h⟩, fr⟩
  · skip
    obtain ⟨c, hc, rfl⟩ := nI_of hb
    refine gw_iload_n hX nd_Te_keep_4 rfl 1 rfl ?_
    refine gw_aload_n hX nd_Te_keep_5 rfl 0 rfl ?_
    refine gw_get hX kf_Te_15 nd_Te_keep_6 h0 rfl ?_
    refine gw_icmp_le (tgt := 14) hX nd_Te_keep_9 rfl (fun hb => ?_) (fun hb => ?_)
    · have hb : c ≤ len := (nI_leI (a := c) (b := len) (by omega) (by omega)).mp hb
      refine gw_aload_n hX nd_Te_keep_14 rfl 0 rfl ?_
      refine gw_iload_n hX nd_Te_keep_15 rfl 1 rfl ?_
      refine gw_put hX kf_Te_15 nd_Te_keep_16 h0 rfl rfl (Nat.le_of_ble_eq_true rfl) (e' := .inr (6, [.ref (t + 1), .int (nI c), .int (nI k)])) rfl ?_
      obtain ⟨σ1, eσ1⟩ : ∃ hp_, hp_ = gw_up σ t (.inr (6, [.ref (t + 1), .int (nI c), .int (nI k)])) := ⟨_, rfl⟩
      refine gw_heap eσ1.symm ?_
      have h0 : σ1.2 t = some (.inr (6, [.ref (t + 1), .int (nI c), .int (nI k)])) := by rw [eσ1]; exact gw_up_eq _ _ _
      have h1 : σ1.2 (t + 1) = some ((gw_Ch (gw_z X) 240 (fun j => nI (ch j)))) := by rw [eσ1, gw_up_ne (by omega)]; exact h1
      have fr : gw_fr σ σ1 t (t + 2) := gw_fr_tr fr (show gw_fr _ σ1 t (t + 2) by rw [eσ1]; exact gw_fr_up _ _ _ (by omega) (by omega))
      refine gw_iconst (v := nI 1) hX nd_Te_keep_19 rfl ?_
      exact gw_zret hX hQ hr nd_Te_keep_20 rfl (by decide) (by decide) ⟨Or.inl ⟨c, rfl, by omega, rfl, ⟨h0, h1⟩⟩, fr⟩
    · have hb : ¬ c ≤ len := fun h => hb ((nI_leI (a := c) (b := len) (by omega) (by omega)).mpr h)
      refine gw_iconst (v := nI 0) hX nd_Te_keep_12 rfl ?_
      exact gw_zret hX hQ hr nd_Te_keep_13 rfl (by decide) (by decide) ⟨Or.inr ⟨fun c2 hc2 e => hb (by have := (nI_eq hc (by omega)).mp e; omega), rfl, h⟩, fr⟩
set_option maxRecDepth 100000 in
set_option maxHeartbeats 4000000 in
theorem lp_Te_append2 {X : gw_C} (t len k c : Nat) (w : Int64) (ch : Nat → Nat) (hlen : len ≤ 240) (hc : c ≤ 8) (hc1 : 1 ≤ c) (hcl : c + len ≤ 240) (σ0 : gw_S) (hok : ∀ j, j < c → 32 ≤ by_at w j ∧ by_at w j ≤ 126) (hX : gw_ok X nc_Te_append "LabelLearner$Text" (6, 1, 22, 0, 0)) (hQ : X.2.2.2.2 = gw_end X (fun v σ' => ((ap_ok len w (nI c) ∧ v = some (.int (nI 1)) ∧ tx_at σ' (gw_z X) t (len + (nI c).toNatClampNeg) k (ap_ch len w (nI c).toNatClampNeg ch)) ∨ (¬ ap_ok len w (nI c) ∧ v = some (.int (nI 0)) ∧ tx_at σ' (gw_z X) t len k ch)) ∧ gw_fr σ0 σ' t (t + 2)) 0 0) (hr : X.2.2.1.1.sig.returnType = (some .boolean)) : ∀ (m : Nat) (j : Nat) (σ : gw_S), j + m = c → tx_at σ (gw_z X) t len k (ap_ch len w j ch) → gw_fr σ0 σ t (t + 2) → gw_W X σ 0 0 67 [(4, .int (nI j)), (0, .ref t), (1, .long w), (3, .int (nI c))] [] := by
  intro m
  induction m using Nat.strongRecOn with
  | ind m ih =>
    intro j σ
    intro hm h fr
    obtain ⟨h0, h1⟩ := id h
    refine gw_iload hX nd_Te_append_67 0 rfl ?_
    refine gw_iload_n hX nd_Te_append_69 rfl 3 rfl ?_
    refine gw_icmp_ge (tgt := 98) hX nd_Te_append_70 rfl (fun hb => ?_) (fun hb => ?_)
    · have hb : c ≤ j := (nI_leI (a := c) (b := j) (by omega) (by omega)).mp hb
      refine gw_aload_n hX nd_Te_append_98 rfl 1 rfl ?_
      refine gw_dup hX nd_Te_append_99 rfl ?_
      refine gw_get hX kf_Te_15 nd_Te_append_100 h0 rfl ?_
      refine gw_iload_n hX nd_Te_append_103 rfl 3 rfl ?_
      refine gw_iadd hX nd_Te_append_104 ?_
      refine gw_topi (y := nI (len + c)) (nI_add _ _) ?_
      refine gw_put hX kf_Te_15 nd_Te_append_105 h0 rfl rfl (Nat.le_of_ble_eq_true rfl) (e' := .inr (6, [.ref (t + 1), .int (nI (len + c)), .int (nI k)])) rfl ?_
      obtain ⟨σ1, eσ1⟩ : ∃ hp_, hp_ = gw_up σ t (.inr (6, [.ref (t + 1), .int (nI (len + c)), .int (nI k)])) := ⟨_, rfl⟩
      refine gw_heap eσ1.symm ?_
      have h0 : σ1.2 t = some (.inr (6, [.ref (t + 1), .int (nI (len + c)), .int (nI k)])) := by rw [eσ1]; exact gw_up_eq _ _ _
      have h1 : σ1.2 (t + 1) = some ((gw_Ch (gw_z X) 240 (fun i => nI (ap_ch len w j ch i)))) := by rw [eσ1, gw_up_ne (by omega)]; exact h1
      have fr : gw_fr σ0 σ1 t (t + 2) := gw_fr_tr fr (show gw_fr _ σ1 t (t + 2) by rw [eσ1]; exact gw_fr_up _ _ _ (by omega) (by omega))
      refine gw_iconst (v := nI 1) hX nd_Te_append_108 rfl ?_
      have e := ap_nI (c := c) (by omega)
      have hj : j = c := by omega
      subst hj
      exact gw_zret hX hQ hr nd_Te_append_109 rfl (by decide) (by decide) ⟨Or.inl ⟨⟨by omega, by omega, by omega, fun i hi => hok i (by omega)⟩, rfl, by rw [e.2]; exact ⟨h0, h1⟩⟩, fr⟩
    · have hb : ¬ c ≤ j := fun h => hb ((nI_leI (a := c) (b := j) (by omega) (by omega)).mpr h)
      refine gw_aload_n hX nd_Te_append_73 rfl 1 rfl ?_
      refine gw_get hX kf_Te_9 nd_Te_append_74 h0 rfl ?_
      refine gw_aload_n hX nd_Te_append_77 rfl 1 rfl ?_
      refine gw_get hX kf_Te_15 nd_Te_append_78 h0 rfl ?_
      refine gw_iload hX nd_Te_append_81 0 rfl ?_
      refine gw_iadd hX nd_Te_append_83 ?_
      refine gw_topi (y := nI (len + j)) (nI_add _ _) ?_
      refine gw_lload_n hX nd_Te_append_84 rfl 2 rfl ?_
      refine gw_iload hX nd_Te_append_85 0 rfl ?_
      refine gw_callS (rest := [.int (nI (len + j)), .ref (t + 1)]) hX ks_Te_19 (ct_Te_byteOf X.1.2.1 (gw_z X) (gw_b X) σ w j (by omega)) rfl rfl (Nat.le_of_ble_eq_true rfl) nd_Te_append_87 (by decide) ?_
      rintro v_ s_ ⟨hv_, hs_⟩
      have hs_ := hs_.symm
      subst hs_ hv_
      show gw_W X σ 0 0 90 [(4, .int (nI j)), (0, .ref t), (1, .long w), (3, .int (nI c))] [.int (nI (by_at w j)), .int (nI (len + j)), .ref (t + 1)]
      refine gw_i2c hX nd_Te_append_90 ?_
      refine gw_topi (y := nI (by_at w j)) (ap_i2c (by_lt w j)) ?_
      refine gw_cast hX nd_Te_append_91 h1 (len + j) rfl (by omega) (by decide) (ap_chr (by_lt w j)) ?_
      refine gw_heap (show gw_up σ (t + 1) ((gw_Ch (gw_z X) 240 (upd (fun i => nI (ap_ch len w j ch i)) (len + j) (nI (by_at w j))))) = gw_up σ (t + 1) ((gw_Ch (gw_z X) 240 (fun i => nI (ap_ch len w (j + 1) ch i)))) by rw [show upd (fun i => nI (ap_ch len w j ch i)) (len + j) (nI (by_at w j)) = fun i => nI (ap_ch len w (j + 1) ch i) from ap_ch_s len w j ch]) ?_
      obtain ⟨σ2, eσ2⟩ : ∃ hp_, hp_ = gw_up σ (t + 1) ((gw_Ch (gw_z X) 240 (fun i => nI (ap_ch len w (j + 1) ch i)))) := ⟨_, rfl⟩
      refine gw_heap eσ2.symm ?_
      have h0 : σ2.2 t = some (.inr (6, [.ref (t + 1), .int (nI len), .int (nI k)])) := by rw [eσ2, gw_up_ne (by omega)]; exact h0
      have h1 : σ2.2 (t + 1) = some ((gw_Ch (gw_z X) 240 (fun i => nI (ap_ch len w (j + 1) ch i)))) := by rw [eσ2]; exact gw_up_eq _ _ _
      have fr : gw_fr σ0 σ2 t (t + 2) := gw_fr_tr fr (show gw_fr _ σ2 t (t + 2) by rw [eσ2]; exact gw_fr_up _ _ _ (by omega) (by omega))
      refine gw_iinc hX nd_Te_append_92 0 rfl (v := nI (j + 1)) (show nI j + nI 1 = nI (j + 1) from nI_add _ _) (by decide) (L' := [(4, .int (nI (j + 1))), (0, .ref t), (1, .long w), (3, .int (nI c))]) rfl ?_
      refine gw_goto (tgt := 67) hX nd_Te_append_95 rfl ?_
      refine gw_cut (ks := [0, 1, 2, 3]) (L' := [(4, .int (nI (j + 1))), (0, .ref t), (1, .long w), (3, .int (nI c))]) rfl ?_
      exact ih (m - 1) (by omega) (j + 1) σ2 (by omega) ⟨h0, h1⟩ fr
set_option maxRecDepth 100000 in
set_option maxHeartbeats 4000000 in
theorem lp_Te_append {X : gw_C} (t len k c : Nat) (w : Int64) (ch : Nat → Nat) (hlen : len ≤ 240) (hc : c ≤ 8) (hc1 : 1 ≤ c) (hcl : c + len ≤ 240) (σ0 : gw_S) (hX : gw_ok X nc_Te_append "LabelLearner$Text" (6, 1, 22, 0, 0)) (hQ : X.2.2.2.2 = gw_end X (fun v σ' => ((ap_ok len w (nI c) ∧ v = some (.int (nI 1)) ∧ tx_at σ' (gw_z X) t (len + (nI c).toNatClampNeg) k (ap_ch len w (nI c).toNatClampNeg ch)) ∨ (¬ ap_ok len w (nI c) ∧ v = some (.int (nI 0)) ∧ tx_at σ' (gw_z X) t len k ch)) ∧ gw_fr σ0 σ' t (t + 2)) 0 0) (hr : X.2.2.1.1.sig.returnType = (some .boolean)) : ∀ (m : Nat) (j : Nat) (σ : gw_S), j + m = c → (∀ i, i < j → 32 ≤ by_at w i ∧ by_at w i ≤ 126) → tx_at σ (gw_z X) t len k ch → gw_fr σ0 σ t (t + 2) → gw_W X σ 0 0 28 [(4, .int (nI j)), (0, .ref t), (1, .long w), (3, .int (nI c))] [] := by
  intro m
  induction m using Nat.strongRecOn with
  | ind m ih =>
    intro j σ
    intro hm hok h fr
    have hbl := by_lt w j
    obtain ⟨h0, h1⟩ := id h
    refine gw_iload hX nd_Te_append_28 0 rfl ?_
    refine gw_iload_n hX nd_Te_append_30 rfl 3 rfl ?_
    refine gw_icmp_ge (tgt := 64) hX nd_Te_append_31 rfl (fun hb => ?_) (fun hb => ?_)
    · have hb : c ≤ j := (nI_leI (a := c) (b := j) (by omega) (by omega)).mp hb
      refine gw_iconst (v := nI 0) hX nd_Te_append_64 rfl ?_
      refine gw_istore hX nd_Te_append_65 (by decide) (L' := [(4, .int (nI 0)), (0, .ref t), (1, .long w), (3, .int (nI c))]) rfl ?_
      refine gw_cut (ks := [0, 1, 2, 3]) (L' := [(4, .int (nI 0)), (0, .ref t), (1, .long w), (3, .int (nI c))]) rfl ?_
      exact lp_Te_append2 t len k c w ch hlen hc hc1 hcl σ0 (fun i hi => hok i (by omega)) hX hQ hr c 0 σ (by omega) (by rw [ap_ch_0]; exact h) fr
    · have hb : ¬ c ≤ j := fun h => hb ((nI_leI (a := c) (b := j) (by omega) (by omega)).mpr h)
      refine gw_lload_n hX nd_Te_append_34 rfl 2 rfl ?_
      refine gw_iload hX nd_Te_append_35 0 rfl ?_
      refine gw_callS (rest := []) hX ks_Te_19 (ct_Te_byteOf X.1.2.1 (gw_z X) (gw_b X) σ w j (by omega)) rfl rfl (Nat.le_of_ble_eq_true rfl) nd_Te_append_37 (by decide) ?_
      rintro v_ s_ ⟨hv_, hs_⟩
      have hs_ := hs_.symm
      subst hs_ hv_
      show gw_W X σ 0 0 40 [(4, .int (nI j)), (0, .ref t), (1, .long w), (3, .int (nI c))] [.int (nI (by_at w j))]
      refine gw_istore hX nd_Te_append_40 (by decide) (L' := [(5, .int (nI (by_at w j))), (4, .int (nI j)), (0, .ref t), (1, .long w), (3, .int (nI c))]) rfl ?_
      refine gw_iload hX nd_Te_append_42 0 rfl ?_
      refine gw_bipush (v := nI 32) hX nd_Te_append_44 rfl ?_
      refine gw_icmp_lt (tgt := 56) hX nd_Te_append_46 rfl (fun hb => ?_) (fun hb => ?_)
      · have hb : by_at w j < 32 := (nI_ltI (a := by_at w j) (b := 32) (by omega) (by omega)).mp hb
        refine gw_iconst (v := nI 0) hX nd_Te_append_56 rfl ?_
        exact gw_zret hX hQ hr nd_Te_append_57 rfl (by decide) (by decide) ⟨Or.inr ⟨fun q => by have := q.2.2.2 j (by rw [(ap_nI (c := c) (by omega)).2]; omega); omega, rfl, h⟩, fr⟩
      · have hb : ¬ by_at w j < 32 := fun h => hb ((nI_ltI (a := by_at w j) (b := 32) (by omega) (by omega)).mpr h)
        have hb1 := hb
        refine gw_iload hX nd_Te_append_49 0 rfl ?_
        refine gw_bipush (v := nI 126) hX nd_Te_append_51 rfl ?_
        refine gw_icmp_le (tgt := 58) hX nd_Te_append_53 rfl (fun hb => ?_) (fun hb => ?_)
        · have hb : by_at w j ≤ 126 := (nI_leI (a := by_at w j) (b := 126) (by omega) (by omega)).mp hb
          refine gw_iinc hX nd_Te_append_58 1 rfl (v := nI (j + 1)) (show nI j + nI 1 = nI (j + 1) from nI_add _ _) (by decide) (L' := [(4, .int (nI (j + 1))), (5, .int (nI (by_at w j))), (0, .ref t), (1, .long w), (3, .int (nI c))]) rfl ?_
          refine gw_goto (tgt := 28) hX nd_Te_append_61 rfl ?_
          refine gw_cut (ks := [0, 2, 3, 4]) (L' := [(4, .int (nI (j + 1))), (0, .ref t), (1, .long w), (3, .int (nI c))]) rfl ?_
          refine ih (m - 1) (by omega) (j + 1) σ (by omega) ?_ h fr
          intro i hi
          by_cases e : i = j
          · rw [e]; omega
          · exact hok i (by omega)
        · have hb : ¬ by_at w j ≤ 126 := fun h => hb ((nI_leI (a := by_at w j) (b := 126) (by omega) (by omega)).mpr h)
          refine gw_iconst (v := nI 0) hX nd_Te_append_56 rfl ?_
          exact gw_zret hX hQ hr nd_Te_append_57 rfl (by decide) (by decide) ⟨Or.inr ⟨fun q => by have := q.2.2.2 j (by rw [(ap_nI (c := c) (by omega)).2]; omega); omega, rfl, h⟩, fr⟩
set_option maxRecDepth 100000 in
set_option maxHeartbeats 4000000 in
theorem ct_Te_append (l : Launch) (Z : gw_Z) (b0 : Nat) (σ : gw_S) (t len k : Nat) (w : Int64) (x : Int32) (ch : Nat → Nat) (hlen : len ≤ 240) (h : tx_at σ Z t len k ch) : gw_M l ny_Te_append nc_Te_append (6, 1, 22, 0, 0) (some .boolean) Z b0 σ [.ref t, .long w, .int x] (fun v σ' => ((ap_ok len w (x) ∧ v = some (.int (nI 1)) ∧ tx_at σ' Z t (len + (x).toNatClampNeg) k (ap_ch len w (x).toNatClampNeg ch)) ∨ (¬ ap_ok len w (x) ∧ v = some (.int (nI 0)) ∧ tx_at σ' Z t len k ch)) ∧ gw_fr σ σ' t (t + 2)) := by
  refine gw_M_of rfl (Nat.le_of_ble_eq_true rfl) ?_
  intro X hX hl hz hb0 hr hnm hQ
  subst hz hb0 hl
  have hX : gw_ok X nc_Te_append "LabelLearner$Text" (6, 1, 22, 0, 0) := hX
  show gw_W X σ 0 0 0 [(0, .ref t), (1, .long w), (3, .int x)] []
  obtain ⟨h0, h1⟩ := id h
  refine gw_iload_n hX nd_Te_append_0 rfl 2 rfl ?_
  refine gw_iconst (v := nI 1) hX nd_Te_append_1 rfl ?_
  refine gw_icmp_lt (tgt := 23) hX nd_Te_append_2 rfl (fun hb => ?_) (fun hb => ?_)
  · skip
    refine gw_iconst (v := nI 0) hX nd_Te_append_23 rfl ?_
    exact gw_zret hX hQ hr nd_Te_append_24 rfl (by decide) (by decide) ⟨Or.inr ⟨fun q => ap_lo hb q.1, rfl, h⟩, gw_fr_rf _ _ _⟩
  · skip
    have hb0 := hb
    refine gw_iload_n hX nd_Te_append_5 rfl 2 rfl ?_
    refine gw_bipush (v := nI 8) hX nd_Te_append_6 rfl ?_
    refine gw_icmp_gt (tgt := 23) hX nd_Te_append_8 rfl (fun hb => ?_) (fun hb => ?_)
    · skip
      refine gw_iconst (v := nI 0) hX nd_Te_append_23 rfl ?_
      exact gw_zret hX hQ hr nd_Te_append_24 rfl (by decide) (by decide) ⟨Or.inr ⟨fun q => ap_hi hb q.2.1, rfl, h⟩, gw_fr_rf _ _ _⟩
    · skip
      obtain ⟨c, hc1, hc, rfl⟩ := ap_of hb0 hb
      have e := ap_nI (c := c) (by omega)
      refine gw_iload_n hX nd_Te_append_11 rfl 2 rfl ?_
      refine gw_sipush (v := nI 240) hX nd_Te_append_12 rfl ?_
      refine gw_aload_n hX nd_Te_append_15 rfl 0 rfl ?_
      refine gw_get hX kf_Te_15 nd_Te_append_16 h0 rfl ?_
      refine gw_isub hX nd_Te_append_19 ?_
      refine gw_topi (y := nI (240 - len)) (pk_sub (by omega)) ?_
      refine gw_icmp_le (tgt := 25) hX nd_Te_append_20 rfl (fun hb => ?_) (fun hb => ?_)
      · have hb : c ≤ 240 - len := (nI_leI (a := c) (b := 240 - len) (by omega) (by omega)).mp hb
        refine gw_iconst (v := nI 0) hX nd_Te_append_25 rfl ?_
        refine gw_istore hX nd_Te_append_26 (by decide) (L' := [(4, .int (nI 0)), (0, .ref t), (1, .long w), (3, .int (nI c))]) rfl ?_
        refine gw_cut (ks := [0, 1, 2, 3]) (L' := [(4, .int (nI 0)), (0, .ref t), (1, .long w), (3, .int (nI c))]) rfl ?_
        exact lp_Te_append t len k c w ch hlen hc hc1 (by omega) σ hX hQ hr c 0 σ (by omega) (fun i hi => absurd hi (by omega)) h (gw_fr_rf _ _ _)
      · have hb : ¬ c ≤ 240 - len := fun h => hb ((nI_leI (a := c) (b := 240 - len) (by omega) (by omega)).mpr h)
        refine gw_iconst (v := nI 0) hX nd_Te_append_23 rfl ?_
        exact gw_zret hX hQ hr nd_Te_append_24 rfl (by decide) (by decide) ⟨Or.inr ⟨fun q => by have := q.2.2.1; omega, rfl, h⟩, gw_fr_rf _ _ _⟩
set_option maxRecDepth 100000 in
set_option maxHeartbeats 4000000 in
theorem ct_Te_setFeatures (l : Launch) (Z : gw_Z) (b0 : Nat) (σ : gw_S) (t s len a e b1 b2 w lb : Nat) (ch : Nat → Nat) (b : Nat → Int32) (lab : Int32) (hae : a < e) (he : e ≤ 240) (hb12 : b1 ≤ b2) (hb2 : b2 ≤ 240) (hw : w < 6) (hd : t + 2 ≤ s ∨ s + 2 ≤ t) (h : tx_at σ Z t len e ch) (g0 : σ.2 s = some (.inr (5, [.ref (s + 1), .int lab, .int (nI w)]))) (g1 : σ.2 (s + 1) = some (gw_I Z 18 b)) : gw_M l ny_Te_setFeatures nc_Te_setFeatures (6, 2, 46, 0, 0) none Z b0 σ [.ref t, .ref s, .int (nI a), .int (nI b1), .int (nI b2)] (fun v σ' => v = none ∧ σ'.2 s = some (.inr (5, [.ref (s + 1), .int lab, .int (nI w)])) ∧ σ'.2 (s + 1) = some (gw_I Z 18 (upd (upd (upd b (w * 3 + 0) (nI (px_f ch a e b1 b2 lb).1)) (w * 3 + 1) (nI (px_f ch a e b1 b2 lb).2.1)) (w * 3 + 2) (nI (px_f ch a e b1 b2 lb).2.2.1))) ∧ gw_fr σ σ' s (s + 2)) := by
  refine gw_M_of rfl (Nat.le_of_ble_eq_true rfl) ?_
  intro X hX hl hz hb0 hr hnm hQ
  subst hz hb0 hl
  have hX : gw_ok X nc_Te_setFeatures "LabelLearner$Text" (6, 2, 46, 0, 0) := hX
  show gw_W X σ 0 0 0 [(0, .ref t), (1, .ref s), (2, .int (nI a)), (3, .int (nI b1)), (4, .int (nI b2))] []
  obtain ⟨h0, h1⟩ := id h
  have fr : gw_fr σ σ s (s + 2) := gw_fr_rf _ _ _
  refine gw_iload_n hX nd_Te_setFeatures_0 rfl 2 rfl ?_
  refine gw_aload_n hX nd_Te_setFeatures_1 rfl 0 rfl ?_
  refine gw_get hX kf_Te_23 nd_Te_setFeatures_2 h0 rfl ?_
  refine gw_iconst (v := nI 2) hX nd_Te_setFeatures_5 rfl ?_
  refine gw_isub hX nd_Te_setFeatures_6 ?_
  refine gw_max hX nd_Te_setFeatures_7 (by decide) (Nat.le_of_ble_eq_true rfl) (by decide) (by decide) ?_
  refine gw_topi (y := nI (if e - a > 1 then e - 2 else a)) (tx_max hae he) ?_
  refine gw_istore hX nd_Te_setFeatures_10 (by decide) (L' := [(5, .int (nI (if e - a > 1 then e - 2 else a))), (0, .ref t), (1, .ref s), (2, .int (nI a)), (3, .int (nI b1)), (4, .int (nI b2))]) rfl ?_
  refine gw_aload_n hX nd_Te_setFeatures_12 rfl 2 rfl ?_
  refine gw_aload_n hX nd_Te_setFeatures_13 rfl 2 rfl ?_
  refine gw_get hX kf_Te_71 nd_Te_setFeatures_14 g0 rfl ?_
  refine gw_iconst (v := nI 0) hX nd_Te_setFeatures_17 rfl ?_
  refine gw_aload_n hX nd_Te_setFeatures_18 rfl 1 rfl ?_
  refine gw_bipush (v := nI 7) hX nd_Te_setFeatures_19 rfl ?_
  refine gw_iload_n hX nd_Te_setFeatures_21 rfl 3 rfl ?_
  refine gw_aload_n hX nd_Te_setFeatures_22 rfl 1 rfl ?_
  refine gw_get hX kf_Te_23 nd_Te_setFeatures_23 h0 rfl ?_
  refine gw_callV (rest := [.int (nI 0), .int (nI w), .ref s]) hX ks_Te_78 (ct_Te_hash X.1.2.1 (gw_z X) (gw_b X) σ t len e a e ch 7 (by omega) (by omega) h) h0 rfl rfl (Nat.le_of_ble_eq_true rfl) nd_Te_setFeatures_26 (by decide) ?_
  rintro v_ s_ ⟨hv_, hs_⟩
  have hs_ := hs_.symm
  subst hs_ hv_
  show gw_W X σ 0 0 29 [(5, .int (nI (if e - a > 1 then e - 2 else a))), (0, .ref t), (1, .ref s), (2, .int (nI a)), (3, .int (nI b1)), (4, .int (nI b2))] [.int (px_h ch 7 a (e - a)), .int (nI 0), .int (nI w), .ref s]
  refine gw_callS (rest := [.int (nI 0), .int (nI w), .ref s]) hX ks_Te_82 (ct_Te_bucket X.1.2.1 (gw_z X) (gw_b X) σ (px_h ch 7 a (e - a))) rfl rfl (Nat.le_of_ble_eq_true rfl) nd_Te_setFeatures_29 (by decide) ?_
  rintro v_ s_ ⟨hv_, hs_⟩
  have hs_ := hs_.symm
  subst hs_ hv_
  show gw_W X σ 0 0 32 [(5, .int (nI (if e - a > 1 then e - 2 else a))), (0, .ref t), (1, .ref s), (2, .int (nI a)), (3, .int (nI b1)), (4, .int (nI b2))] [.int (nI ((px_f ch a e b1 b2 lb).1)), .int (nI 0), .int (nI w), .ref s]
  refine gw_callV (rest := []) hX ks_Te_86 (ct_Se_setBucket X.1.2.1 (gw_z X) (gw_b X) σ s w 0 (nI (px_f ch a e b1 b2 lb).1) (b) lab (nI w) g0 g1 (by omega)) g0 rfl rfl (Nat.le_of_ble_eq_true rfl) nd_Te_setFeatures_32 (by decide) ?_
  rintro _ σ1 ⟨rfl, g0, g1, hf⟩
  have h : tx_at σ1 (gw_z X) t len e ch := tx_at_fr h hf (by omega)
  obtain ⟨h0, h1⟩ := id h
  have fr : gw_fr σ σ1 s (s + 2) := gw_fr_tr fr hf
  show gw_W X σ1 0 0 35 [(5, .int (nI (if e - a > 1 then e - 2 else a))), (0, .ref t), (1, .ref s), (2, .int (nI a)), (3, .int (nI b1)), (4, .int (nI b2))] []
  refine gw_aload_n hX nd_Te_setFeatures_35 rfl 2 rfl ?_
  refine gw_aload_n hX nd_Te_setFeatures_36 rfl 2 rfl ?_
  refine gw_get hX kf_Te_71 nd_Te_setFeatures_37 g0 rfl ?_
  refine gw_iconst (v := nI 1) hX nd_Te_setFeatures_40 rfl ?_
  refine gw_aload_n hX nd_Te_setFeatures_41 rfl 1 rfl ?_
  refine gw_bipush (v := nI 7) hX nd_Te_setFeatures_42 rfl ?_
  refine gw_bipush (v := nI 45) hX nd_Te_setFeatures_44 rfl ?_
  refine gw_callS (rest := [.ref t, .int (nI 1), .int (nI w), .ref s]) hX ks_Te_90 (ct_Te_mix X.1.2.1 (gw_z X) (gw_b X) σ1 (nI 7) 45) rfl rfl (Nat.le_of_ble_eq_true rfl) nd_Te_setFeatures_46 (by decide) ?_
  rintro v_ s_ ⟨hv_, hs_⟩
  have hs_ := hs_.symm
  subst hs_ hv_
  show gw_W X σ1 0 0 49 [(5, .int (nI (if e - a > 1 then e - 2 else a))), (0, .ref t), (1, .ref s), (2, .int (nI a)), (3, .int (nI b1)), (4, .int (nI b2))] [.int (31 * 7 + 45), .ref t, .int (nI 1), .int (nI w), .ref s]
  refine gw_iload hX nd_Te_setFeatures_49 0 rfl ?_
  refine gw_aload_n hX nd_Te_setFeatures_51 rfl 1 rfl ?_
  refine gw_get hX kf_Te_23 nd_Te_setFeatures_52 h0 rfl ?_
  refine gw_callV (rest := [.int (nI 1), .int (nI w), .ref s]) hX ks_Te_78 (ct_Te_hash X.1.2.1 (gw_z X) (gw_b X) σ1 t len e (if e - a > 1 then e - 2 else a) e ch (31 * 7 + 45) (by split <;> omega) (by omega) h) h0 rfl rfl (Nat.le_of_ble_eq_true rfl) nd_Te_setFeatures_55 (by decide) ?_
  rintro v_ s_ ⟨hv_, hs_⟩
  have hs_ := hs_.symm
  subst hs_ hv_
  show gw_W X σ1 0 0 58 [(5, .int (nI (if e - a > 1 then e - 2 else a))), (0, .ref t), (1, .ref s), (2, .int (nI a)), (3, .int (nI b1)), (4, .int (nI b2))] [.int (px_h ch (31 * 7 + 45) (if e - a > 1 then e - 2 else a) (e - (if e - a > 1 then e - 2 else a))), .int (nI 1), .int (nI w), .ref s]
  refine gw_callS (rest := [.int (nI 1), .int (nI w), .ref s]) hX ks_Te_82 (ct_Te_bucket X.1.2.1 (gw_z X) (gw_b X) σ1 (px_h ch (31 * 7 + 45) (if e - a > 1 then e - 2 else a) (e - (if e - a > 1 then e - 2 else a)))) rfl rfl (Nat.le_of_ble_eq_true rfl) nd_Te_setFeatures_58 (by decide) ?_
  rintro v_ s_ ⟨hv_, hs_⟩
  have hs_ := hs_.symm
  subst hs_ hv_
  show gw_W X σ1 0 0 61 [(5, .int (nI (if e - a > 1 then e - 2 else a))), (0, .ref t), (1, .ref s), (2, .int (nI a)), (3, .int (nI b1)), (4, .int (nI b2))] [.int (nI ((px_f ch a e b1 b2 lb).2.1)), .int (nI 1), .int (nI w), .ref s]
  refine gw_callV (rest := []) hX ks_Te_86 (ct_Se_setBucket X.1.2.1 (gw_z X) (gw_b X) σ1 s w 1 (nI (px_f ch a e b1 b2 lb).2.1) (upd b (w * 3 + 0) (nI (px_f ch a e b1 b2 lb).1)) lab (nI w) g0 g1 (by omega)) g0 rfl rfl (Nat.le_of_ble_eq_true rfl) nd_Te_setFeatures_61 (by decide) ?_
  rintro _ σ2 ⟨rfl, g0, g1, hf⟩
  have h : tx_at σ2 (gw_z X) t len e ch := tx_at_fr h hf (by omega)
  obtain ⟨h0, h1⟩ := id h
  have fr : gw_fr σ σ2 s (s + 2) := gw_fr_tr fr hf
  show gw_W X σ2 0 0 64 [(5, .int (nI (if e - a > 1 then e - 2 else a))), (0, .ref t), (1, .ref s), (2, .int (nI a)), (3, .int (nI b1)), (4, .int (nI b2))] []
  refine gw_aload_n hX nd_Te_setFeatures_64 rfl 2 rfl ?_
  refine gw_aload_n hX nd_Te_setFeatures_65 rfl 2 rfl ?_
  refine gw_get hX kf_Te_71 nd_Te_setFeatures_66 g0 rfl ?_
  refine gw_iconst (v := nI 2) hX nd_Te_setFeatures_69 rfl ?_
  refine gw_aload_n hX nd_Te_setFeatures_70 rfl 1 rfl ?_
  refine gw_bipush (v := nI 7) hX nd_Te_setFeatures_71 rfl ?_
  refine gw_bipush (v := nI 60) hX nd_Te_setFeatures_73 rfl ?_
  refine gw_callS (rest := [.ref t, .int (nI 2), .int (nI w), .ref s]) hX ks_Te_90 (ct_Te_mix X.1.2.1 (gw_z X) (gw_b X) σ2 (nI 7) 60) rfl rfl (Nat.le_of_ble_eq_true rfl) nd_Te_setFeatures_75 (by decide) ?_
  rintro v_ s_ ⟨hv_, hs_⟩
  have hs_ := hs_.symm
  subst hs_ hv_
  show gw_W X σ2 0 0 78 [(5, .int (nI (if e - a > 1 then e - 2 else a))), (0, .ref t), (1, .ref s), (2, .int (nI a)), (3, .int (nI b1)), (4, .int (nI b2))] [.int (31 * 7 + 60), .ref t, .int (nI 2), .int (nI w), .ref s]
  refine gw_iload_n hX nd_Te_setFeatures_78 rfl 4 rfl ?_
  refine gw_iload hX nd_Te_setFeatures_79 5 rfl ?_
  refine gw_callV (rest := [.int (nI 2), .int (nI w), .ref s]) hX ks_Te_78 (ct_Te_hash X.1.2.1 (gw_z X) (gw_b X) σ2 t len e b1 b2 ch (31 * 7 + 60) (by omega) (by omega) h) h0 rfl rfl (Nat.le_of_ble_eq_true rfl) nd_Te_setFeatures_81 (by decide) ?_
  rintro v_ s_ ⟨hv_, hs_⟩
  have hs_ := hs_.symm
  subst hs_ hv_
  show gw_W X σ2 0 0 84 [(5, .int (nI (if e - a > 1 then e - 2 else a))), (0, .ref t), (1, .ref s), (2, .int (nI a)), (3, .int (nI b1)), (4, .int (nI b2))] [.int (px_h ch (31 * 7 + 60) b1 (b2 - b1)), .int (nI 2), .int (nI w), .ref s]
  refine gw_callS (rest := [.int (nI 2), .int (nI w), .ref s]) hX ks_Te_82 (ct_Te_bucket X.1.2.1 (gw_z X) (gw_b X) σ2 (px_h ch (31 * 7 + 60) b1 (b2 - b1))) rfl rfl (Nat.le_of_ble_eq_true rfl) nd_Te_setFeatures_84 (by decide) ?_
  rintro v_ s_ ⟨hv_, hs_⟩
  have hs_ := hs_.symm
  subst hs_ hv_
  show gw_W X σ2 0 0 87 [(5, .int (nI (if e - a > 1 then e - 2 else a))), (0, .ref t), (1, .ref s), (2, .int (nI a)), (3, .int (nI b1)), (4, .int (nI b2))] [.int (nI ((px_f ch a e b1 b2 lb).2.2.1)), .int (nI 2), .int (nI w), .ref s]
  refine gw_callV (rest := []) hX ks_Te_86 (ct_Se_setBucket X.1.2.1 (gw_z X) (gw_b X) σ2 s w 2 (nI (px_f ch a e b1 b2 lb).2.2.1) (upd (upd b (w * 3 + 0) (nI (px_f ch a e b1 b2 lb).1)) (w * 3 + 1) (nI (px_f ch a e b1 b2 lb).2.1)) lab (nI w) g0 g1 (by omega)) g0 rfl rfl (Nat.le_of_ble_eq_true rfl) nd_Te_setFeatures_87 (by decide) ?_
  rintro _ σ3 ⟨rfl, g0, g1, hf⟩
  have h : tx_at σ3 (gw_z X) t len e ch := tx_at_fr h hf (by omega)
  obtain ⟨h0, h1⟩ := id h
  have fr : gw_fr σ σ3 s (s + 2) := gw_fr_tr fr hf
  show gw_W X σ3 0 0 90 [(5, .int (nI (if e - a > 1 then e - 2 else a))), (0, .ref t), (1, .ref s), (2, .int (nI a)), (3, .int (nI b1)), (4, .int (nI b2))] []
  exact gw_vret hX hQ hr nd_Te_setFeatures_90 (by decide) (by decide) ⟨rfl, g0, g1, fr⟩
set_option maxRecDepth 100000 in
set_option maxHeartbeats 4000000 in
theorem ct_Te_readLabel (l : Launch) (Z : gw_Z) (b0 : Nat) (σ : gw_S) (t s len k w c : Nat) (ch : Nat → Nat) (b : Nat → Int32) (hlen : len ≤ 240) (hk : k ≤ 240) (hch : ∀ j, ch j < 127) (hw : w < 6) (hc : c < 4 ^ w) (hd : t + 2 ≤ s ∨ s + 2 ≤ t) (h : tx_at σ Z t len k ch) (g0 : σ.2 s = some (.inr (5, [.ref (s + 1), .int (nI c), .int (nI w)]))) (g1 : σ.2 (s + 1) = some (gw_I Z 18 b)) : gw_M l ny_Te_readLabel nc_Te_readLabel (3, 2, 41, 0, 0) (some .boolean) Z b0 σ [.ref t, .ref s] (fun v σ' => ((rl_ok len ch k ∧ v = some (.int (nI 1)) ∧ tx_at σ' Z t len (k + 2) ch ∧ σ'.2 s = some (.inr (5, [.ref (s + 1), .int (nI (c + (ch (k + 1) - 65) * 4 ^ w)), .int (nI w)]))) ∨ (¬ rl_ok len ch k ∧ v = some (.int (nI 0)) ∧ (∃ k', k' ≤ 240 ∧ tx_at σ' Z t len k' ch) ∧ σ'.2 s = some (.inr (5, [.ref (s + 1), .int (nI c), .int (nI w)])))) ∧ σ'.2 (s + 1) = some (gw_I Z 18 b) ∧ gw_f2 σ σ' t (t + 2) s (s + 2)) := by
  refine gw_M_of rfl (Nat.le_of_ble_eq_true rfl) ?_
  intro X hX hl hz hb0 hr hnm hQ
  subst hz hb0 hl
  have hX : gw_ok X nc_Te_readLabel "LabelLearner$Text" (3, 2, 41, 0, 0) := hX
  show gw_W X σ 0 0 0 [(0, .ref t), (1, .ref s)] []
  obtain ⟨h0, h1⟩ := id h
  have fr : gw_f2 σ σ t (t + 2) s (s + 2) := gw_f2_rf _ _ _ _ _
  refine gw_aload_n hX nd_Te_readLabel_0 rfl 0 rfl ?_
  refine gw_bipush (v := nI 47) hX nd_Te_readLabel_1 rfl ?_
  refine gw_callV (rest := []) hX ks_Te_39 (ct_Te_take X.1.2.1 (gw_z X) (gw_b X) σ t len k ch hlen hk hch (by omega) 47 (by decide) h) h0 rfl rfl (Nat.le_of_ble_eq_true rfl) nd_Te_readLabel_3 (by decide) ?_
  rintro _ σ1 ⟨rfl, hT, hf⟩
  have g0 : σ1.2 s = some (.inr (5, [.ref (s + 1), .int (nI c), .int (nI w)])) := (hf.2 s (by omega)).trans g0
  have g1 : σ1.2 (s + 1) = some ((gw_I (gw_z X) 18 b)) := (hf.2 (s + 1) (by omega)).trans g1
  have fr : gw_f2 σ σ1 t (t + 2) s (s + 2) := gw_f2_l fr hf
  show gw_W X σ1 0 0 6 [(0, .ref t), (1, .ref s)] [.int (nI (if px_is len ch 47 k then 1 else 0))]
  refine gw_if_ne (tgt := 11) hX nd_Te_readLabel_6 rfl (fun hb => ?_) (fun hb => ?_)
  · skip
    have hp : px_is len ch 47 k = true := by
      cases e : px_is len ch 47 k with
      | true => rfl
      | false => rw [e] at hb; exact absurd rfl hb
    rw [hp] at hT
    have hk1 := (px_is_iff.mp hp).1
    obtain ⟨h0, h1⟩ := id hT
    refine gw_aload_n hX nd_Te_readLabel_11 rfl 0 rfl ?_
    refine gw_callV (rest := []) hX ks_Te_52 (ct_Te_current X.1.2.1 (gw_z X) (gw_b X) σ1 t len (k + 1) ch hlen (by omega) hch ⟨h0, h1⟩) h0 rfl rfl (Nat.le_of_ble_eq_true rfl) nd_Te_readLabel_12 (by decide) ?_
    rintro v_ s_ ⟨hv_, hs_⟩
    have hs_ := hs_.symm
    subst hs_ hv_
    show gw_W X σ1 0 0 15 [(0, .ref t), (1, .ref s)] [.int (tx_c len ch (k + 1))]
    refine gw_bipush (v := nI 65) hX nd_Te_readLabel_15 rfl ?_
    refine gw_isub hX nd_Te_readLabel_17 ?_
    refine gw_istore_n hX nd_Te_readLabel_18 rfl (by decide) (L' := [(2, .int ((tx_c len ch (k + 1)) - nI 65)), (0, .ref t), (1, .ref s)]) rfl ?_
    refine gw_iload_n hX nd_Te_readLabel_19 rfl 0 rfl ?_
    refine gw_if_lt (tgt := 28) hX nd_Te_readLabel_20 rfl (fun hb => ?_) (fun hb => ?_)
    · skip
      refine gw_iconst (v := nI 0) hX nd_Te_readLabel_28 rfl ?_
      exact gw_zret hX hQ hr nd_Te_readLabel_29 rfl (by decide) (by decide) ⟨Or.inr ⟨fun q => rl_neg hch hb ⟨q.2.1, q.2.2.1⟩, rfl, ⟨k + 1, by omega, hT⟩, g0⟩, g1, fr⟩
    · skip
      obtain ⟨hq1, hq2, hq3⟩ := rl_pos hch hb
      have hq4 := hch (k + 1)
      rw [hq3]
      refine gw_iload_n hX nd_Te_readLabel_23 rfl 0 rfl ?_
      refine gw_iconst (v := nI 4) hX nd_Te_readLabel_24 rfl ?_
      refine gw_icmp_lt (tgt := 30) hX nd_Te_readLabel_25 rfl (fun hb => ?_) (fun hb => ?_)
      · have hb : ch (k + 1) - 65 < 4 := (nI_ltI (a := ch (k + 1) - 65) (b := 4) (by omega) (by omega)).mp hb
        refine gw_aload_n hX nd_Te_readLabel_30 rfl 1 rfl ?_
        refine gw_dup hX nd_Te_readLabel_31 rfl ?_
        refine gw_get hX kf_Te_23 nd_Te_readLabel_32 h0 rfl ?_
        refine gw_iconst (v := nI 1) hX nd_Te_readLabel_35 rfl ?_
        refine gw_iadd hX nd_Te_readLabel_36 ?_
        refine gw_topi (y := nI (k + 1 + 1)) (nI_add _ _) ?_
        refine gw_put hX kf_Te_23 nd_Te_readLabel_37 h0 rfl rfl (Nat.le_of_ble_eq_true rfl) (e' := .inr (6, [.ref (t + 1), .int (nI len), .int (nI (k + 1 + 1))])) rfl ?_
        obtain ⟨σ2, eσ2⟩ : ∃ hp_, hp_ = gw_up σ1 t (.inr (6, [.ref (t + 1), .int (nI len), .int (nI (k + 1 + 1))])) := ⟨_, rfl⟩
        refine gw_heap eσ2.symm ?_
        have g0 : σ2.2 s = some (.inr (5, [.ref (s + 1), .int (nI c), .int (nI w)])) := by rw [eσ2, gw_up_ne (by omega)]; exact g0
        have g1 : σ2.2 (s + 1) = some ((gw_I (gw_z X) 18 b)) := by rw [eσ2, gw_up_ne (by omega)]; exact g1
        have h0 : σ2.2 t = some (.inr (6, [.ref (t + 1), .int (nI len), .int (nI (k + 1 + 1))])) := by rw [eσ2]; exact gw_up_eq _ _ _
        have h1 : σ2.2 (t + 1) = some ((gw_Ch (gw_z X) 240 (fun j => nI (ch j)))) := by rw [eσ2, gw_up_ne (by omega)]; exact h1
        have fr : gw_f2 σ σ2 t (t + 2) s (s + 2) := gw_f2_l fr (show gw_fr _ σ2 t (t + 2) by rw [eσ2]; exact gw_fr_up _ _ _ (by omega) (by omega))
        refine gw_aload_n hX nd_Te_readLabel_40 rfl 2 rfl ?_
        refine gw_dup hX nd_Te_readLabel_41 rfl ?_
        refine gw_get hX kf_Te_94 nd_Te_readLabel_42 g0 rfl ?_
        refine gw_iload_n hX nd_Te_readLabel_45 rfl 0 rfl ?_
        refine gw_iconst (v := nI 2) hX nd_Te_readLabel_46 rfl ?_
        refine gw_aload_n hX nd_Te_readLabel_47 rfl 2 rfl ?_
        refine gw_get hX kf_Te_71 nd_Te_readLabel_48 g0 rfl ?_
        refine gw_imul hX nd_Te_readLabel_51 ?_
        refine gw_topi (y := nI (2 * w)) (pk_mul _ _) ?_
        refine gw_ishl hX nd_Te_readLabel_52 ?_
        refine gw_topi (y := nI ((ch (k + 1) - 65) * 4 ^ w)) (lb_shl (by omega) hw) ?_
        refine gw_ior hX nd_Te_readLabel_53 ?_
        refine gw_topi (y := nI (c + (ch (k + 1) - 65) * 4 ^ w)) ((nI_or _ _).trans (by rw [tl_or hc])) ?_
        refine gw_put hX kf_Te_94 nd_Te_readLabel_54 g0 rfl rfl (Nat.le_of_ble_eq_true rfl) (e' := .inr (5, [.ref (s + 1), .int (nI (c + (ch (k + 1) - 65) * 4 ^ w)), .int (nI w)])) rfl ?_
        obtain ⟨σ3, eσ3⟩ : ∃ hp_, hp_ = gw_up σ2 s (.inr (5, [.ref (s + 1), .int (nI (c + (ch (k + 1) - 65) * 4 ^ w)), .int (nI w)])) := ⟨_, rfl⟩
        refine gw_heap eσ3.symm ?_
        have g0 : σ3.2 s = some (.inr (5, [.ref (s + 1), .int (nI (c + (ch (k + 1) - 65) * 4 ^ w)), .int (nI w)])) := by rw [eσ3]; exact gw_up_eq _ _ _
        have g1 : σ3.2 (s + 1) = some ((gw_I (gw_z X) 18 b)) := by rw [eσ3, gw_up_ne (by omega)]; exact g1
        have h0 : σ3.2 t = some (.inr (6, [.ref (t + 1), .int (nI len), .int (nI (k + 1 + 1))])) := by rw [eσ3, gw_up_ne (by omega)]; exact h0
        have h1 : σ3.2 (t + 1) = some ((gw_Ch (gw_z X) 240 (fun j => nI (ch j)))) := by rw [eσ3, gw_up_ne (by omega)]; exact h1
        have fr : gw_f2 σ σ3 t (t + 2) s (s + 2) := gw_f2_r fr (show gw_fr _ σ3 s (s + 2) by rw [eσ3]; exact gw_fr_up _ _ _ (by omega) (by omega))
        refine gw_iconst (v := nI 1) hX nd_Te_readLabel_57 rfl ?_
        exact gw_zret hX hQ hr nd_Te_readLabel_58 rfl (by decide) (by decide) ⟨Or.inl ⟨⟨hp, hq1, hq2, by omega⟩, rfl, ⟨h0, h1⟩, g0⟩, g1, fr⟩
      · have hb : ¬ ch (k + 1) - 65 < 4 := fun h => hb ((nI_ltI (a := ch (k + 1) - 65) (b := 4) (by omega) (by omega)).mpr h)
        refine gw_iconst (v := nI 0) hX nd_Te_readLabel_28 rfl ?_
        exact gw_zret hX hQ hr nd_Te_readLabel_29 rfl (by decide) (by decide) ⟨Or.inr ⟨fun q => hb (by have := q.2.2.2; omega), rfl, ⟨k + 1, by omega, hT⟩, g0⟩, g1, fr⟩
  · skip
    have hp : px_is len ch 47 k = false := by
      cases e : px_is len ch 47 k with
      | false => rfl
      | true => rw [e] at hb; exact absurd hb (by decide)
    rw [hp] at hT
    refine gw_iconst (v := nI 0) hX nd_Te_readLabel_9 rfl ?_
    exact gw_zret hX hQ hr nd_Te_readLabel_10 rfl (by decide) (by decide) ⟨Or.inr ⟨fun q => absurd q.1 (by rw [hp]; decide), rfl, ⟨k, hk, hT⟩, g0⟩, g1, fr⟩
