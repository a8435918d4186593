set_option maxRecDepth 100000 in
set_option maxHeartbeats 4000000 in
theorem ct_Te_byteOf (l : Launch) (Z : gw_Z) (b0 : Nat) (σ : gw_S) (w : Int64) (j : Nat) (hj : j < 8) : gw_M l ny_Te_byteOf nc_Te_byteOf (3, 0, 0, 0, 0) (some .int) Z b0 σ [.long w, .int (nI j)] (fun v σ' => v = some (.int (nI (by_at w j))) ∧ σ' = σ) := by
  refine gw_M_of rfl (Nat.le_of_ble_eq_true rfl) ?_
  intro X hX hl hz hb0 hr hnm hQ
  subst hz hb0 hl
  have hX : gw_ok X nc_Te_byteOf "LabelLearner$Text" (3, 0, 0, 0, 0) := hX
  show gw_W X σ 0 0 0 [(0, .long w), (2, .int (nI j))] []
  refine gw_lload_n hX nd_Te_byteOf_0 rfl 0 rfl ?_
  refine gw_bipush (v := nI 8) hX nd_Te_byteOf_1 rfl ?_
  refine gw_iload_n hX nd_Te_byteOf_3 rfl 1 rfl ?_
  refine gw_imul hX nd_Te_byteOf_4 ?_
  refine gw_topi (y := nI (8 * j)) (pk_mul _ _) ?_
  refine gw_lushr hX nd_Te_byteOf_5 ?_
  refine gw_topl (y := (w.toUInt64 >>> ((nI (8 * j)).toInt64.toUInt64 &&& Int64.toUInt64 63)).toInt64) rfl ?_
  refine gw_l2i hX nd_Te_byteOf_6 ?_
  refine gw_topi (y := ((w.toUInt64 >>> ((nI (8 * j)).toInt64.toUInt64 &&& Int64.toUInt64 63)).toInt64.toInt32)) rfl ?_
  refine gw_sipush (v := nI 255) hX nd_Te_byteOf_7 rfl ?_
  refine gw_iand hX nd_Te_byteOf_10 ?_
  refine gw_topi (y := nI (by_at w j)) (by_u w hj) ?_
  exact gw_iret hX hQ hr nd_Te_byteOf_11 (by decide) (by decide) ⟨rfl, rfl⟩
set_option maxRecDepth 100000 in
set_option maxHeartbeats 4000000 in
theorem ct_Te_mix (l : Launch) (Z : gw_Z) (b0 : Nat) (σ : gw_S) (h : Int32) (c : Nat) : gw_M l ny_Te_mix nc_Te_mix (2, 0, 0, 0, 0) (some .int) Z b0 σ [.int h, .int (nI c)] (fun v σ' => v = some (.int (31 * h + nI c)) ∧ σ' = σ) := by
  refine gw_M_of rfl (Nat.le_of_ble_eq_true rfl) ?_
  intro X hX hl hz hb0 hr hnm hQ
  subst hz hb0 hl
  have hX : gw_ok X nc_Te_mix "LabelLearner$Text" (2, 0, 0, 0, 0) := hX
  show gw_W X σ 0 0 0 [(0, .int h), (1, .int (nI c))] []
  refine gw_bipush (v := nI 31) hX nd_Te_mix_0 rfl ?_
  refine gw_iload_n hX nd_Te_mix_2 rfl 0 rfl ?_
  refine gw_imul hX nd_Te_mix_3 ?_
  refine gw_iload_n hX nd_Te_mix_4 rfl 1 rfl ?_
  refine gw_iadd hX nd_Te_mix_5 ?_
  exact gw_iret hX hQ hr nd_Te_mix_6 (by decide) (by decide) ⟨rfl, rfl⟩
set_option maxRecDepth 100000 in
set_option maxHeartbeats 4000000 in
theorem ct_Te_bucket (l : Launch) (Z : gw_Z) (b0 : Nat) (σ : gw_S) (h : Int32) : gw_M l ny_Te_bucket nc_Te_bucket (1, 0, 0, 0, 0) (some .int) Z b0 σ [.int h] (fun v σ' => v = some (.int (nI (px_B h))) ∧ σ' = σ) := by
  refine gw_M_of rfl (Nat.le_of_ble_eq_true rfl) ?_
  intro X hX hl hz hb0 hr hnm hQ
  subst hz hb0 hl
  have hX : gw_ok X nc_Te_bucket "LabelLearner$Text" (1, 0, 0, 0, 0) := hX
  show gw_W X σ 0 0 0 [(0, .int h)] []
  refine gw_iload_n hX nd_Te_bucket_0 rfl 0 rfl ?_
  refine gw_iload_n hX nd_Te_bucket_1 rfl 0 rfl ?_
  refine gw_bipush (v := nI 15) hX nd_Te_bucket_2 rfl ?_
  refine gw_iushr hX nd_Te_bucket_4 ?_
  refine gw_ixor hX nd_Te_bucket_5 ?_
  refine gw_bipush (v := nI 31) hX nd_Te_bucket_6 rfl ?_
  refine gw_iand hX nd_Te_bucket_8 ?_
  refine gw_topi (y := nI (px_B h)) (px_b_nI h) ?_
  exact gw_iret hX hQ hr nd_Te_bucket_9 (by decide) (by decide) ⟨rfl, rfl⟩
set_option maxRecDepth 100000 in
set_option maxHeartbeats 4000000 in
theorem ct_Te_isLetter (l : Launch) (Z : gw_Z) (b0 : Nat) (σ : gw_S) (x : Int32) : gw_M l ny_Te_isLetter nc_Te_isLetter (1, 0, 0, 0, 0) (some .boolean) Z b0 σ [.int x] (fun v σ' => v = some (.int (nI (tx_l x))) ∧ σ' = σ) := by
  refine gw_M_of rfl (Nat.le_of_ble_eq_true rfl) ?_
  intro X hX hl hz hb0 hr hnm hQ
  subst hz hb0 hl
  have hX : gw_ok X nc_Te_isLetter "LabelLearner$Text" (1, 0, 0, 0, 0) := hX
  show gw_W X σ 0 0 0 [(0, .int x)] []
  refine gw_iload_n hX nd_Te_isLetter_0 rfl 0 rfl ?_
  refine gw_bipush (v := nI 97) hX nd_Te_isLetter_1 rfl ?_
  refine gw_icmp_lt (tgt := 16) hX nd_Te_isLetter_3 rfl (fun hb => ?_) (fun hb => ?_)
  · skip
    refine gw_iconst (v := nI 0) hX nd_Te_isLetter_16 rfl ?_
    exact gw_zret hX hQ hr nd_Te_isLetter_17 rfl (by decide) (by decide) ⟨by rw [show tx_l x = 0 from if_pos (Or.inl hb)], rfl⟩
  · skip
    have hb0 := hb
    refine gw_iload_n hX nd_Te_isLetter_6 rfl 0 rfl ?_
    refine gw_bipush (v := nI 122) hX nd_Te_isLetter_7 rfl ?_
    refine gw_icmp_gt (tgt := 16) hX nd_Te_isLetter_9 rfl (fun hb => ?_) (fun hb => ?_)
    · skip
      refine gw_iconst (v := nI 0) hX nd_Te_isLetter_16 rfl ?_
      exact gw_zret hX hQ hr nd_Te_isLetter_17 rfl (by decide) (by decide) ⟨by rw [show tx_l x = 0 from if_pos (Or.inr hb)], rfl⟩
    · skip
      refine gw_iconst (v := nI 1) hX nd_Te_isLetter_12 rfl ?_
      refine gw_goto (tgt := 17) hX nd_Te_isLetter_13 rfl ?_
      exact gw_zret hX hQ hr nd_Te_isLetter_17 rfl (by decide) (by decide) ⟨by rw [show tx_l x = 1 from if_neg (fun h => h.elim hb0 hb)], rfl⟩
set_option maxRecDepth 100000 in
set_option maxHeartbeats 4000000 in
theorem ct_Te_current (l : Launch) (Z : gw_Z) (b0 : Nat) (σ : gw_S) (t len k : Nat) (ch : Nat → Nat) (hlen : len ≤ 240) (hk : k ≤ 240) (hch : ∀ j, ch j < 127) (h : tx_at σ Z t len k ch) : gw_M l ny_Te_current nc_Te_current (1, 0, 0, 0, 0) (some .int) Z b0 σ [.ref t] (fun v σ' => v = some (.int (tx_c len ch k)) ∧ σ' = σ) := by
  refine gw_M_of rfl (Nat.le_of_ble_eq_true rfl) ?_
  intro X hX hl hz hb0 hr hnm hQ
  subst hz hb0 hl
  have hX : gw_ok X nc_Te_current "LabelLearner$Text" (1, 0, 0, 0, 0) := hX
  show gw_W X σ 0 0 0 [(0, .ref t)] []
  obtain ⟨h0, h1⟩ := id h
  refine gw_aload_n hX nd_Te_current_0 rfl 0 rfl ?_
  refine gw_get hX kf_Te_23 nd_Te_current_1 h0 rfl ?_
  refine gw_aload_n hX nd_Te_current_4 rfl 0 rfl ?_
  refine gw_get hX kf_Te_15 nd_Te_current_5 h0 rfl ?_
  refine gw_icmp_ge (tgt := 23) hX nd_Te_current_8 rfl (fun hb => ?_) (fun hb => ?_)
  · have hb : len ≤ k := (nI_leI (a := len) (b := k) (by omega) (by omega)).mp hb
    refine gw_iconst (v := (-1)) hX nd_Te_current_23 rfl ?_
    exact gw_iret hX hQ hr nd_Te_current_24 (by decide) (by decide) ⟨by rw [show tx_c len ch k = (-1) from if_neg (by omega)], rfl⟩
  · have hb : ¬ len ≤ k := fun h => hb ((nI_leI (a := len) (b := k) (by omega) (by omega)).mpr h)
    refine gw_aload_n hX nd_Te_current_11 rfl 0 rfl ?_
    refine gw_get hX kf_Te_9 nd_Te_current_12 h0 rfl ?_
    refine gw_aload_n hX nd_Te_current_15 rfl 0 rfl ?_
    refine gw_get hX kf_Te_23 nd_Te_current_16 h0 rfl ?_
    refine gw_cald hX nd_Te_current_19 h1 k rfl (by omega) (by decide) ?_
    refine gw_topi (y := nI (ch k)) rfl ?_
    refine gw_goto (tgt := 24) hX nd_Te_current_20 rfl ?_
    exact gw_iret hX hQ hr nd_Te_current_24 (by decide) (by decide) ⟨by rw [show tx_c len ch k = nI (ch k) from if_pos (by omega)], rfl⟩
set_option maxRecDepth 100000 in
set_option maxHeartbeats 4000000 in
theorem ct_Te_take (l : Launch) (Z : gw_Z) (b0 : Nat) (σ : gw_S) (t len k : Nat) (ch : Nat → Nat) (hlen : len ≤ 240) (hk : k ≤ 240) (hch : ∀ j, ch j < 127) (hk1 : k < 240 ∨ len ≤ k) (c : Nat) (hc : c < 127) (h : tx_at σ Z t len k ch) : gw_M l ny_Te_take nc_Te_take (2, 1, 20, 0, 0) (some .boolean) Z b0 σ [.ref t, .int (nI c)] (fun v σ' => v = some (.int (nI (if px_is len ch c k then 1 else 0))) ∧ tx_at σ' Z t len (if px_is len ch c k then k + 1 else k) ch ∧ gw_fr σ σ' t (t + 2)) := by
  refine gw_M_of rfl (Nat.le_of_ble_eq_true rfl) ?_
  intro X hX hl hz hb0 hr hnm hQ
  subst hz hb0 hl
  have hX : gw_ok X nc_Te_take "LabelLearner$Text" (2, 1, 20, 0, 0) := hX
  show gw_W X σ 0 0 0 [(0, .ref t), (1, .int (nI c))] []
  have fr : gw_fr σ σ t (t + 2) := gw_fr_rf _ _ _
  obtain ⟨h0, h1⟩ := id h
  refine gw_aload_n hX nd_Te_take_0 rfl 0 rfl ?_
  refine gw_callV (rest := []) hX ks_Te_52 (ct_Te_current X.1.2.1 (gw_z X) (gw_b X) σ t len k ch hlen (by omega) hch ⟨h0, h1⟩) h0 rfl rfl (Nat.le_of_ble_eq_true rfl) nd_Te_take_1 (by decide) ?_
  rintro v_ s_ ⟨hv_, hs_⟩
  have hs_ := hs_.symm
  subst hs_ hv_
  show gw_W X σ 0 0 4 [(0, .ref t), (1, .int (nI c))] [.int (tx_c len ch k)]
  refine gw_iload_n hX nd_Te_take_4 rfl 1 rfl ?_
  refine gw_icmp_eq (tgt := 10) hX nd_Te_take_5 rfl (fun hb => ?_) (fun hb => ?_)
  · skip
    have hb := (tx_c_eq hch k hc).mp hb
    refine gw_aload_n hX nd_Te_take_10 rfl 0 rfl ?_
    refine gw_dup hX nd_Te_take_11 rfl ?_
    refine gw_get hX kf_Te_23 nd_Te_take_12 h0 rfl ?_
    refine gw_iconst (v := nI 1) hX nd_Te_take_15 rfl ?_
    refine gw_iadd hX nd_Te_take_16 ?_
    refine gw_topi (y := nI (k + 1)) (nI_add _ _) ?_
    refine gw_put hX kf_Te_23 nd_Te_take_17 h0 rfl rfl (Nat.le_of_ble_eq_true rfl) (e' := .inr (6, [.ref (t + 1), .int (nI len), .int (nI (k + 1))])) rfl ?_
    obtain ⟨σ1, eσ1⟩ : ∃ hp_, hp_ = gw_up σ t (.inr (6, [.ref (t + 1), .int (nI len), .int (nI (k + 1))])) := ⟨_, rfl⟩
    refine gw_heap eσ1.symm ?_
    have h0 : σ1.2 t = some (.inr (6, [.ref (t + 1), .int (nI len), .int (nI (k + 1))])) := by rw [eσ1]; exact gw_up_eq _ _ _
    have h1 : σ1.2 (t + 1) = some ((gw_Ch (gw_z X) 240 (fun j => nI (ch j)))) := by rw [eσ1, gw_up_ne (by omega)]; exact h1
    have fr : gw_fr σ σ1 t (t + 2) := gw_fr_tr fr (show gw_fr _ σ1 t (t + 2) by rw [eσ1]; exact gw_fr_up _ _ _ (by omega) (by omega))
    refine gw_iconst (v := nI 1) hX nd_Te_take_20 rfl ?_
    exact gw_zret hX hQ hr nd_Te_take_21 rfl (by decide) (by decide) ⟨by rw [hb]; rfl, by rw [hb]; exact ⟨h0, h1⟩, fr⟩
  · skip
    have hb : px_is len ch c k = false := by
      cases e : px_is len ch c k with
      | false => rfl
      | true => exact absurd ((tx_c_eq hch k hc).mpr e) hb
    refine gw_iconst (v := nI 0) hX nd_Te_take_8 rfl ?_
    exact gw_zret hX hQ hr nd_Te_take_9 rfl (by decide) (by decide) ⟨by rw [hb]; rfl, by rw [hb]; exact ⟨h0, h1⟩, fr⟩
set_option maxRecDepth 100000 in
set_option maxHeartbeats 4000000 in
theorem lp_Te_skipSpaces {X : gw_C} (t len k0 : Nat) (ch : Nat → Nat) (hlen : len ≤ 240) (hch : ∀ j, ch j < 127) (σ0 : gw_S) (hX : gw_ok X nc_Te_skipSpaces "LabelLearner$Text" (2, 1, 20, 0, 0)) (hQ : X.2.2.2.2 = gw_end X (fun v σ' => v = some (.int (nI (if k0 < px_skip len ch k0 then 1 else 0))) ∧ tx_at σ' (gw_z X) t len (px_skip len ch k0) ch ∧ gw_fr σ0 σ' t (t + 2)) 0 0) (hr : X.2.2.1.1.sig.returnType = (some .boolean)) : ∀ (m : Nat) (k : Nat) (σ : gw_S), m + k = 240 → k0 ≤ k → (∀ j, k0 ≤ j → j < k → px_is len ch 32 j = true) → tx_at σ (gw_z X) t len k ch → gw_fr σ0 σ t (t + 2) → gw_W X σ 0 0 5 [(1, .int (nI k0)), (0, .ref t)] [] := by
  intro m
  induction m using Nat.strongRecOn with
  | ind m ih =>
    intro k σ
    intro hm hk0 hsp h fr
    obtain ⟨h0, h1⟩ := id h
    refine gw_aload_n hX nd_Te_skipSpaces_5 rfl 1 rfl ?_
    refine gw_get hX kf_Te_23 nd_Te_skipSpaces_6 h0 rfl ?_
    refine gw_aload_n hX nd_Te_skipSpaces_9 rfl 1 rfl ?_
    refine gw_get hX kf_Te_15 nd_Te_skipSpaces_10 h0 rfl ?_
    refine gw_icmp_ge (tgt := 38) hX nd_Te_skipSpaces_13 rfl (fun hb => ?_) (fun hb => ?_)
    · have hb : len ≤ k := (nI_leI (a := len) (b := k) (by omega) (by omega)).mp hb
      have he : px_skip len ch k0 = k := px_skip_of ⟨hk0, hsp, by cases e : px_is len ch 32 k with
        | false => rfl
        | true => exact absurd (px_is_iff.mp e).1 (by omega)⟩
      refine gw_aload_n hX nd_Te_skipSpaces_38 rfl 1 rfl ?_
      refine gw_get hX kf_Te_23 nd_Te_skipSpaces_39 h0 rfl ?_
      refine gw_iload_n hX nd_Te_skipSpaces_42 rfl 0 rfl ?_
      refine gw_icmp_le (tgt := 50) hX nd_Te_skipSpaces_43 rfl (fun hb => ?_) (fun hb => ?_)
      · have hb : k ≤ k0 := (nI_leI (a := k) (b := k0) (by omega) (by omega)).mp hb
        refine gw_iconst (v := nI 0) hX nd_Te_skipSpaces_50 rfl ?_
        exact gw_zret hX hQ hr nd_Te_skipSpaces_51 rfl (by decide) (by decide) ⟨by rw [he, if_neg (by omega)], by rw [he]; exact ⟨h0, h1⟩, fr⟩
      · have hb : ¬ k ≤ k0 := fun h => hb ((nI_leI (a := k) (b := k0) (by omega) (by omega)).mpr h)
        refine gw_iconst (v := nI 1) hX nd_Te_skipSpaces_46 rfl ?_
        refine gw_goto (tgt := 51) hX nd_Te_skipSpaces_47 rfl ?_
        exact gw_zret hX hQ hr nd_Te_skipSpaces_51 rfl (by decide) (by decide) ⟨by rw [he, if_pos (by omega)], by rw [he]; exact ⟨h0, h1⟩, fr⟩
    · have hb : ¬ len ≤ k := fun h => hb ((nI_leI (a := len) (b := k) (by omega) (by omega)).mpr h)
      have hb1 := hb
      refine gw_aload_n hX nd_Te_skipSpaces_16 rfl 1 rfl ?_
      refine gw_callV (rest := []) hX ks_Te_52 (ct_Te_current X.1.2.1 (gw_z X) (gw_b X) σ t len k ch hlen (by omega) hch ⟨h0, h1⟩) h0 rfl rfl (Nat.le_of_ble_eq_true rfl) nd_Te_skipSpaces_17 (by decide) ?_
      rintro v_ s_ ⟨hv_, hs_⟩
      have hs_ := hs_.symm
      subst hs_ hv_
      show gw_W X σ 0 0 20 [(1, .int (nI k0)), (0, .ref t)] [.int (tx_c len ch k)]
      refine gw_bipush (v := nI 32) hX nd_Te_skipSpaces_20 rfl ?_
      refine gw_icmp_ne (tgt := 38) hX nd_Te_skipSpaces_22 rfl (fun hb => ?_) (fun hb => ?_)
      · skip
        have hb2 : px_is len ch 32 k = false := by
          cases e : px_is len ch 32 k with
          | false => rfl
          | true => exact absurd ((tx_c_eq hch k (by decide)).mpr e) hb
        have he : px_skip len ch k0 = k := px_skip_of ⟨hk0, hsp, hb2⟩
        refine gw_aload_n hX nd_Te_skipSpaces_38 rfl 1 rfl ?_
        refine gw_get hX kf_Te_23 nd_Te_skipSpaces_39 h0 rfl ?_
        refine gw_iload_n hX nd_Te_skipSpaces_42 rfl 0 rfl ?_
        refine gw_icmp_le (tgt := 50) hX nd_Te_skipSpaces_43 rfl (fun hb => ?_) (fun hb => ?_)
        · have hb : k ≤ k0 := (nI_leI (a := k) (b := k0) (by omega) (by omega)).mp hb
          refine gw_iconst (v := nI 0) hX nd_Te_skipSpaces_50 rfl ?_
          exact gw_zret hX hQ hr nd_Te_skipSpaces_51 rfl (by decide) (by decide) ⟨by rw [he, if_neg (by omega)], by rw [he]; exact ⟨h0, h1⟩, fr⟩
        · have hb : ¬ k ≤ k0 := fun h => hb ((nI_leI (a := k) (b := k0) (by omega) (by omega)).mpr h)
          refine gw_iconst (v := nI 1) hX nd_Te_skipSpaces_46 rfl ?_
          refine gw_goto (tgt := 51) hX nd_Te_skipSpaces_47 rfl ?_
          exact gw_zret hX hQ hr nd_Te_skipSpaces_51 rfl (by decide) (by decide) ⟨by rw [he, if_pos (by omega)], by rw [he]; exact ⟨h0, h1⟩, fr⟩
      · skip
        have hb2 := (tx_c_eq hch k (by decide)).mp hb
        refine gw_aload_n hX nd_Te_skipSpaces_25 rfl 1 rfl ?_
        refine gw_dup hX nd_Te_skipSpaces_26 rfl ?_
        refine gw_get hX kf_Te_23 nd_Te_skipSpaces_27 h0 rfl ?_
        refine gw_iconst (v := nI 1) hX nd_Te_skipSpaces_30 rfl ?_
        refine gw_iadd hX nd_Te_skipSpaces_31 ?_
        refine gw_topi (y := nI (k + 1)) (nI_add _ _) ?_
        refine gw_put hX kf_Te_23 nd_Te_skipSpaces_32 h0 rfl rfl (Nat.le_of_ble_eq_true rfl) (e' := .inr (6, [.ref (t + 1), .int (nI len), .int (nI (k + 1))])) rfl ?_
        obtain ⟨σ1, eσ1⟩ : ∃ hp_, hp_ = gw_up σ t (.inr (6, [.ref (t + 1), .int (nI len), .int (nI (k + 1))])) := ⟨_, rfl⟩
        refine gw_heap eσ1.symm ?_
        have h0 : σ1.2 t = some (.inr (6, [.ref (t + 1), .int (nI len), .int (nI (k + 1))])) := by rw [eσ1]; exact gw_up_eq _ _ _
        have h1 : σ1.2 (t + 1) = some ((gw_Ch (gw_z X) 240 (fun j => nI (ch j)))) := by rw [eσ1, gw_up_ne (by omega)]; exact h1
        have fr : gw_fr σ0 σ1 t (t + 2) := gw_fr_tr fr (show gw_fr _ σ1 t (t + 2) by rw [eσ1]; exact gw_fr_up _ _ _ (by omega) (by omega))
        refine gw_goto (tgt := 5) hX nd_Te_skipSpaces_35 rfl ?_
        refine gw_cut (ks := [0, 1]) (L' := [(1, .int (nI k0)), (0, .ref t)]) rfl ?_
        refine ih (m - 1) (by omega) (k + 1) σ1 (by omega) (by omega) ?_ ⟨h0, h1⟩ fr
        intro j h1 h2
        by_cases e : j = k
        · rw [e]; exact hb2
        · exact hsp j h1 (by omega)
set_option maxRecDepth 100000 in
set_option maxHeartbeats 4000000 in
theorem ct_Te_skipSpaces (l : Launch) (Z : gw_Z) (b0 : Nat) (σ : gw_S) (t len k : Nat) (ch : Nat → Nat) (hlen : len ≤ 240) (hk : k ≤ 240) (hch : ∀ j, ch j < 127) (h : tx_at σ Z t len k ch) : gw_M l ny_Te_skipSpaces nc_Te_skipSpaces (2, 1, 20, 0, 0) (some .boolean) Z b0 σ [.ref t] (fun v σ' => v = some (.int (nI (if k < px_skip len ch k then 1 else 0))) ∧ tx_at σ' Z t len (px_skip len ch k) ch ∧ gw_fr σ σ' t (t + 2)) := by
  refine gw_M_of rfl (Nat.le_of_ble_eq_true rfl) ?_
  intro X hX hl hz hb0 hr hnm hQ
  subst hz hb0 hl
  have hX : gw_ok X nc_Te_skipSpaces "LabelLearner$Text" (2, 1, 20, 0, 0) := hX
  show gw_W X σ 0 0 0 [(0, .ref t)] []
  obtain ⟨h0, h1⟩ := id h
  refine gw_aload_n hX nd_Te_skipSpaces_0 rfl 0 rfl ?_
  refine gw_get hX kf_Te_23 nd_Te_skipSpaces_1 h0 rfl ?_
  refine gw_istore_n hX nd_Te_skipSpaces_4 rfl (by decide) (L' := [(1, .int (nI k)), (0, .ref t)]) rfl ?_
  exact lp_Te_skipSpaces t len k ch hlen hch σ hX hQ hr (240 - k) k σ (by omega) (Nat.le_refl _) (fun j h1 h2 => absurd h2 (by omega)) h (gw_fr_rf _ _ _)
set_option maxRecDepth 100000 in
set_option maxHeartbeats 4000000 in
theorem lp_Te_skipLetters {X : gw_C} (t len k0 : Nat) (ch : Nat → Nat) (hlen : len ≤ 240) (hk0 : k0 ≤ 240) (hch : ∀ j, ch j < 127) (σ0 : gw_S) (hX : gw_ok X nc_Te_skipLetters "LabelLearner$Text" (2, 1, 20, 0, 0)) (hQ : X.2.2.2.2 = gw_end X (fun v σ' => v = none ∧ (∃ e, k0 ≤ e ∧ e ≤ k0 + 6 ∧ e ≤ 240 ∧ (∀ j, k0 ≤ j → j < e → px_lt len ch j = true) ∧ (e = k0 + 6 ∨ px_lt len ch e = false) ∧ tx_at σ' (gw_z X) t len e ch) ∧ gw_fr σ0 σ' t (t + 2)) 0 0) (hr : X.2.2.1.1.sig.returnType = none) : ∀ (m : Nat) (j : Nat) (σ : gw_S), j + m = 6 → k0 + j ≤ 240 → (∀ i, k0 ≤ i → i < k0 + j → px_lt len ch i = true) → tx_at σ (gw_z X) t len (k0 + j) ch → gw_fr σ0 σ t (t + 2) → gw_W X σ 0 0 2 [(1, .int (nI j)), (0, .ref t)] [] := by
  intro m
  induction m using Nat.strongRecOn with
  | ind m ih =>
    intro j σ
    intro hm hkj hlt h fr
    obtain ⟨h0, h1⟩ := id h
    refine gw_iload_n hX nd_Te_skipLetters_2 rfl 0 rfl ?_
    refine gw_bipush (v := nI 6) hX nd_Te_skipLetters_3 rfl ?_
    refine gw_icmp_ge (tgt := 34) hX nd_Te_skipLetters_5 rfl (fun hb => ?_) (fun hb => ?_)
    · have hb : 6 ≤ j := (nI_leI (a := 6) (b := j) (by omega) (by omega)).mp hb
      exact gw_vret hX hQ hr nd_Te_skipLetters_34 (by decide) (by decide) ⟨rfl, ⟨k0 + j, by omega, by omega, by omega, hlt, Or.inl (by omega), h⟩, fr⟩
    · have hb : ¬ 6 ≤ j := fun h => hb ((nI_leI (a := 6) (b := j) (by omega) (by omega)).mpr h)
      refine gw_aload_n hX nd_Te_skipLetters_8 rfl 1 rfl ?_
      refine gw_callV (rest := []) hX ks_Te_52 (ct_Te_current X.1.2.1 (gw_z X) (gw_b X) σ t len (k0 + j) ch hlen (by omega) hch ⟨h0, h1⟩) h0 rfl rfl (Nat.le_of_ble_eq_true rfl) nd_Te_skipLetters_9 (by decide) ?_
      rintro v_ s_ ⟨hv_, hs_⟩
      have hs_ := hs_.symm
      subst hs_ hv_
      show gw_W X σ 0 0 12 [(1, .int (nI j)), (0, .ref t)] [.int (tx_c len ch (k0 + j))]
      refine gw_callS (rest := []) hX ks_Te_56 (ct_Te_isLetter X.1.2.1 (gw_z X) (gw_b X) σ (tx_c len ch (k0 + j))) rfl rfl (Nat.le_of_ble_eq_true rfl) nd_Te_skipLetters_12 (by decide) ?_
      rintro v_ s_ ⟨hv_, hs_⟩
      have hs_ := hs_.symm
      subst hs_ hv_
      show gw_W X σ 0 0 15 [(1, .int (nI j)), (0, .ref t)] [.int (nI (tx_l (tx_c len ch (k0 + j))))]
      rw [tx_l_c hch]
      refine gw_if_eq (tgt := 34) hX nd_Te_skipLetters_15 rfl (fun hb => ?_) (fun hb => ?_)
      · skip
        have hb2 : px_lt len ch (k0 + j) = false := by
          cases e : px_lt len ch (k0 + j) with
          | false => rfl
          | true => rw [e] at hb; exact absurd hb (by decide)
        exact gw_vret hX hQ hr nd_Te_skipLetters_34 (by decide) (by decide) ⟨rfl, ⟨k0 + j, by omega, by omega, by omega, hlt, Or.inr hb2, h⟩, fr⟩
      · skip
        have hb2 : px_lt len ch (k0 + j) = true := by
          cases e : px_lt len ch (k0 + j) with
          | true => rfl
          | false => rw [e] at hb; exact absurd rfl hb
        refine gw_aload_n hX nd_Te_skipLetters_18 rfl 1 rfl ?_
        refine gw_dup hX nd_Te_skipLetters_19 rfl ?_
        refine gw_get hX kf_Te_23 nd_Te_skipLetters_20 h0 rfl ?_
        refine gw_iconst (v := nI 1) hX nd_Te_skipLetters_23 rfl ?_
        refine gw_iadd hX nd_Te_skipLetters_24 ?_
        refine gw_topi (y := nI (k0 + j + 1)) (nI_add _ _) ?_
        refine gw_put hX kf_Te_23 nd_Te_skipLetters_25 h0 rfl rfl (Nat.le_of_ble_eq_true rfl) (e' := .inr (6, [.ref (t + 1), .int (nI len), .int (nI (k0 + j + 1))])) rfl ?_
        obtain ⟨σ1, eσ1⟩ : ∃ hp_, hp_ = gw_up σ t (.inr (6, [.ref (t + 1), .int (nI len), .int (nI (k0 + j + 1))])) := ⟨_, rfl⟩
        refine gw_heap eσ1.symm ?_
        have h0 : σ1.2 t = some (.inr (6, [.ref (t + 1), .int (nI len), .int (nI (k0 + j + 1))])) := by rw [eσ1]; exact gw_up_eq _ _ _
        have h1 : σ1.2 (t + 1) = some ((gw_Ch (gw_z X) 240 (fun j => nI (ch j)))) := by rw [eσ1, gw_up_ne (by omega)]; exact h1
        have fr : gw_fr σ0 σ1 t (t + 2) := gw_fr_tr fr (show gw_fr _ σ1 t (t + 2) by rw [eσ1]; exact gw_fr_up _ _ _ (by omega) (by omega))
        refine gw_iinc hX nd_Te_skipLetters_28 0 rfl (v := nI (j + 1)) (show nI j + nI 1 = nI (j + 1) from nI_add _ _) (by decide) (L' := [(1, .int (nI (j + 1))), (0, .ref t)]) rfl ?_
        refine gw_goto (tgt := 2) hX nd_Te_skipLetters_31 rfl ?_
        refine gw_cut (ks := [0, 1]) (L' := [(1, .int (nI (j + 1))), (0, .ref t)]) rfl ?_
        refine ih (m - 1) (by omega) (j + 1) σ1 (by omega) (by have := (px_lt_iff.mp hb2).1; omega) ?_ ⟨h0, h1⟩ fr
        intro i h1 h2
        by_cases e : i = k0 + j
        · rw [e]; exact hb2
        · exact hlt i h1 (by omega)
set_option maxRecDepth 100000 in
set_option maxHeartbeats 4000000 in
theorem ct_Te_skipLetters (l : Launch) (Z : gw_Z) (b0 : Nat) (σ : gw_S) (t len k0 : Nat) (ch : Nat → Nat) (hlen : len ≤ 240) (hk0 : k0 ≤ 240) (hch : ∀ j, ch j < 127) (h : tx_at σ Z t len k0 ch) : gw_M l ny_Te_skipLetters nc_Te_skipLetters (2, 1, 20, 0, 0) none Z b0 σ [.ref t] (fun v σ' => v = none ∧ (∃ e, k0 ≤ e ∧ e ≤ k0 + 6 ∧ e ≤ 240 ∧ (∀ j, k0 ≤ j → j < e → px_lt len ch j = true) ∧ (e = k0 + 6 ∨ px_lt len ch e = false) ∧ tx_at σ' Z t len e ch) ∧ gw_fr σ σ' t (t + 2)) := by
  refine gw_M_of rfl (Nat.le_of_ble_eq_true rfl) ?_
  intro X hX hl hz hb0 hr hnm hQ
  subst hz hb0 hl
  have hX : gw_ok X nc_Te_skipLetters "LabelLearner$Text" (2, 1, 20, 0, 0) := hX
  show gw_W X σ 0 0 0 [(0, .ref t)] []
  obtain ⟨h0, h1⟩ := id h
  refine gw_iconst (v := nI 0) hX nd_Te_skipLetters_0 rfl ?_
  refine gw_istore_n hX nd_Te_skipLetters_1 rfl (by decide) (L' := [(1, .int (nI 0)), (0, .ref t)]) rfl ?_
  exact lp_Te_skipLetters t len k0 ch hlen hk0 hch σ hX hQ hr 6 0 σ (by omega) (by omega) (fun i h1 h2 => absurd h2 (by omega)) h (gw_fr_rf _ _ _)
set_option maxRecDepth 100000 in
set_option maxHeartbeats 4000000 in
theorem lp_Te_hash {X : gw_C} {σ : gw_S} (t len k a e : Nat) (ch : Nat → Nat) (h0 : Int32) (hae : a ≤ e) (he : e ≤ 240) (h : tx_at σ (gw_z X) t len k ch) (hX : gw_ok X nc_Te_hash "LabelLearner$Text" (6, 1, 21, 0, 0)) (hQ : X.2.2.2.2 = gw_end X (fun v σ' => v = some (.int (px_h ch h0 a (e - a))) ∧ σ' = σ) 0 0) (hr : X.2.2.1.1.sig.returnType = (some .int)) : ∀ (m : Nat) (j : Nat), a + j + m = e → gw_W X σ 0 0 6 [(5, .int (nI (a + j))), (4, .int (px_h ch h0 a j)), (0, .ref t), (1, .int h0), (2, .int (nI a)), (3, .int (nI e))] [] := by
  intro m
  induction m using Nat.strongRecOn with
  | ind m ih =>
    intro j
    intro hm
    obtain ⟨g0, g1⟩ := id h
    refine gw_iload hX nd_Te_hash_6 0 rfl ?_
    refine gw_iload_n hX nd_Te_hash_8 rfl 5 rfl ?_
    refine gw_icmp_ge (tgt := 32) hX nd_Te_hash_9 rfl (fun hb => ?_) (fun hb => ?_)
    · have hb : e ≤ a + j := (nI_leI (a := e) (b := a + j) (by omega) (by omega)).mp hb
      refine gw_iload hX nd_Te_hash_32 1 rfl ?_
      exact gw_iret hX hQ hr nd_Te_hash_34 (by decide) (by decide) ⟨by rw [show e - a = j by omega], rfl⟩
    · have hb : ¬ e ≤ a + j := fun h => hb ((nI_leI (a := e) (b := a + j) (by omega) (by omega)).mpr h)
      refine gw_iload hX nd_Te_hash_12 1 rfl ?_
      refine gw_aload_n hX nd_Te_hash_14 rfl 2 rfl ?_
      refine gw_get hX kf_Te_9 nd_Te_hash_15 g0 rfl ?_
      refine gw_iload hX nd_Te_hash_18 0 rfl ?_
      refine gw_cald hX nd_Te_hash_20 g1 (a + j) rfl (by omega) (by decide) ?_
      refine gw_topi (y := nI (ch (a + j))) rfl ?_
      refine gw_callS (rest := []) hX ks_Te_90 (ct_Te_mix X.1.2.1 (gw_z X) (gw_b X) σ (px_h ch h0 a j) (ch (a + j))) rfl rfl (Nat.le_of_ble_eq_true rfl) nd_Te_hash_21 (by decide) ?_
      rintro v_ s_ ⟨hv_, hs_⟩
      have hs_ := hs_.symm
      subst hs_ hv_
      show gw_W X σ 0 0 24 [(5, .int (nI (a + j))), (4, .int (px_h ch h0 a j)), (0, .ref t), (1, .int h0), (2, .int (nI a)), (3, .int (nI e))] [.int (px_h ch h0 a (j + 1))]
      refine gw_istore hX nd_Te_hash_24 (by decide) (L' := [(4, .int (px_h ch h0 a (j + 1))), (5, .int (nI (a + j))), (0, .ref t), (1, .int h0), (2, .int (nI a)), (3, .int (nI e))]) rfl ?_
      refine gw_iinc hX nd_Te_hash_26 1 rfl (v := nI (a + j + 1)) (show nI (a + j) + nI 1 = nI (a + j + 1) from nI_add _ _) (by decide) (L' := [(5, .int (nI (a + j + 1))), (4, .int (px_h ch h0 a (j + 1))), (0, .ref t), (1, .int h0), (2, .int (nI a)), (3, .int (nI e))]) rfl ?_
      refine gw_goto (tgt := 6) hX nd_Te_hash_29 rfl ?_
      refine gw_cut (ks := [0, 1, 2, 3, 4, 5]) (L' := [(5, .int (nI (a + j + 1))), (4, .int (px_h ch h0 a (j + 1))), (0, .ref t), (1, .int h0), (2, .int (nI a)), (3, .int (nI e))]) rfl ?_
      exact ih (m - 1) (by omega) (j + 1) (by omega)
set_option maxRecDepth 100000 in
set_option maxHeartbeats 4000000 in
theorem ct_Te_hash (l : Launch) (Z : gw_Z) (b0 : Nat) (σ : gw_S) (t len k a e : Nat) (ch : Nat → Nat) (h0 : Int32) (hae : a ≤ e) (he : e ≤ 240) (h : tx_at σ Z t len k ch) : gw_M l ny_Te_hash nc_Te_hash (6, 1, 21, 0, 0) (some .int) Z b0 σ [.ref t, .int h0, .int (nI a), .int (nI e)] (fun v σ' => v = some (.int (px_h ch h0 a (e - a))) ∧ σ' = σ) := by
  refine gw_M_of rfl (Nat.le_of_ble_eq_true rfl) ?_
  intro X hX hl hz hb0 hr hnm hQ
  subst hz hb0 hl
  have hX : gw_ok X nc_Te_hash "LabelLearner$Text" (6, 1, 21, 0, 0) := hX
  show gw_W X σ 0 0 0 [(0, .ref t), (1, .int h0), (2, .int (nI a)), (3, .int (nI e))] []
  refine gw_iload_n hX nd_Te_hash_0 rfl 1 rfl ?_
  refine gw_istore hX nd_Te_hash_1 (by decide) (L' := [(4, .int h0), (0, .ref t), (1, .int h0), (2, .int (nI a)), (3, .int (nI e))]) rfl ?_
  refine gw_iload_n hX nd_Te_hash_3 rfl 3 rfl ?_
  refine gw_istore hX nd_Te_hash_4 (by decide) (L' := [(5, .int (nI a)), (4, .int h0), (0, .ref t), (1, .int h0), (2, .int (nI a)), (3, .int (nI e))]) rfl ?_
  exact lp_Te_hash t len k a e ch h0 hae he h hX hQ hr (e - a) 0 (by omega)
