/-! what a reading of a corpus leaves, and of a speech -/
def rc_any (σ : gw_S) (Z : gw_Z) (c : Nat) : Prop := ∃ sz : Int32, σ.2 c = some (.inr (2, [.ref (c + 1), .int sz])) ∧ σ.2 (c + 1) = some (gw_Q3 Z 8 (fun j => some (c + 2 + 2 * j))) ∧ ∀ j, j < 8 → se_any σ Z (c + 2 + 2 * j)
def rc_at (σ : gw_S) (Z : gw_Z) (c : Nat) (ss : List (List px_W)) : Prop := σ.2 c = some (.inr (2, [.ref (c + 1), .int (nI ss.length)])) ∧ σ.2 (c + 1) = some (gw_Q3 Z 8 (fun j => some (c + 2 + 2 * j))) ∧ (∀ j, j < 8 → se_any σ Z (c + 2 + 2 * j)) ∧ ∀ (j : Nat) (ws : List px_W), ss[j]? = some ws → se_at σ Z (c + 2 + 2 * j) ws ∧ se_ok ws ∧ ws.length ≤ 6 ∧ ws ≠ []
theorem px_S_some {len : Nat} {ch : Nat → Nat} {lb : Bool} {i k : Nat} {ws : List px_W} (h : px_go len ch lb 8 (px_skip len ch i) (px_skip len ch i) (px_skip len ch i) [] = some (k, ws)) (hw : ws ≠ []) : px_S len ch lb i = some (k, ws) := by
  unfold px_S
  rw [h]
  simp [hw]
theorem px_S_none {len : Nat} {ch : Nat → Nat} {lb : Bool} {i : Nat} (h : ∀ (k : Nat) (ws : List px_W), px_go len ch lb 8 (px_skip len ch i) (px_skip len ch i) (px_skip len ch i) [] = some (k, ws) → ws = []) : px_S len ch lb i = none := by
  unfold px_S
  split
  · rename_i k ws e
    rw [if_pos (h k ws e)]
  · rfl
set_option maxRecDepth 100000 in
set_option maxHeartbeats 4000000 in
theorem ct_Te_readSpeech (l : Launch) (Z : gw_Z) (b0 : Nat) (σ : gw_S) (t s len k0 : Nat) (ch : Nat → Nat) (hlen : len ≤ 240) (hch : ∀ j, ch j < 127) (hd : t + 2 ≤ s ∨ s + 2 ≤ t) (h : tx_at σ Z t len k0 ch) (hs : se_any σ Z s) : gw_M l ny_Te_readSpeech nc_Te_readSpeech (2, 4, 98, 0, 0) (some .boolean) Z b0 σ [.ref t, .ref s] (fun v σ' => ((∃ ws : List px_W, px_S len ch false 0 = some (len, ws) ∧ v = some (.int (nI 1)) ∧ se_at σ' Z s ws ∧ se_ok ws ∧ ws.length ≤ 6 ∧ ws ≠ []) ∨ ((∀ ws : List px_W, px_S len ch false 0 ≠ some (len, ws)) ∧ v = some (.int (nI 0)) ∧ se_any σ' Z s)) ∧ (∃ k', k' ≤ 240 ∧ tx_at σ' Z t len k' ch) ∧ gw_f2 σ σ' t (t + 2) s (s + 2)) := by
  refine gw_M_of rfl (Nat.le_of_ble_eq_true rfl) ?_
  intro X hX hl hz hb0 hr hnm hQ
  subst hz hb0 hl
  have hX : gw_ok X nc_Te_readSpeech "LabelLearner$Text" (2, 4, 98, 0, 0) := hX
  show gw_W X σ 0 0 0 [(0, .ref t), (1, .ref s)] []
  obtain ⟨h0, h1⟩ := id h
  refine gw_aload_n hX nd_Te_readSpeech_0 rfl 0 rfl ?_
  refine gw_iconst (v := nI 0) hX nd_Te_readSpeech_1 rfl ?_
  refine gw_put hX kf_Te_23 nd_Te_readSpeech_2 h0 rfl rfl (Nat.le_of_ble_eq_true rfl) (e' := .inr (6, [.ref (t + 1), .int (nI len), .int (nI 0)])) rfl ?_
  obtain ⟨σ1, eσ1⟩ : ∃ hp_, hp_ = gw_up σ t (.inr (6, [.ref (t + 1), .int (nI len), .int (nI 0)])) := ⟨_, rfl⟩
  refine gw_heap eσ1.symm ?_
  have h0 : σ1.2 t = some (.inr (6, [.ref (t + 1), .int (nI len), .int (nI 0)])) := by rw [eσ1]; exact gw_up_eq _ _ _
  have h1 : σ1.2 (t + 1) = some ((gw_Ch (gw_z X) 240 (fun j => nI (ch j)))) := by rw [eσ1, gw_up_ne (by omega)]; exact h1
  have fr1 : gw_fr σ σ1 t (t + 2) := by rw [eσ1]; exact gw_fr_up _ _ _ (by omega) (by omega)
  refine gw_aload_n hX nd_Te_readSpeech_5 rfl 0 rfl ?_
  refine gw_aload_n hX nd_Te_readSpeech_6 rfl 1 rfl ?_
  refine gw_iconst (v := nI 0) hX nd_Te_readSpeech_7 rfl ?_
  have h : tx_at σ1 (gw_z X) t len 0 ch := ⟨h0, h1⟩
  have hs : se_any σ1 (gw_z X) s := se_any_fr hs fr1 (by omega)
  have fr : gw_f2 σ σ1 t (t + 2) s (s + 2) := gw_f2_l (gw_f2_rf _ _ _ _ _) fr1
  obtain ⟨b9, l9, z9, g9, -⟩ := id hs
  refine gw_callV (rest := []) hX ks_Te_35 (ct_Te_readSentence_f X.1.2.1 (gw_z X) (gw_b X) σ1 t s len 0 ch hlen (by omega) hch hd h hs) h0 rfl rfl (Nat.le_of_ble_eq_true rfl) nd_Te_readSpeech_8 (by decide) ?_
  rintro _ σ2 ⟨⟨k, ws, hR, hne, rfl, hk1, h, hs, hso, hsl⟩ | ⟨hR, hs, k, hk1, h, rfl | ⟨rfl, hlt⟩⟩, hf⟩
  · show gw_W X σ2 0 0 11 [(0, .ref t), (1, .ref s)] [.int (nI 1)]
    have fr : gw_f2 σ σ2 t (t + 2) s (s + 2) := gw_f2_tr fr hf
    obtain ⟨h0, h1⟩ := id h
    refine gw_if_eq (tgt := 29) hX nd_Te_readSpeech_11 rfl (fun hb => ?_) (fun hb => ?_)
    · have hb : 1 = 0 := (nI_eq (a := 1) (b := 0) (by omega) (by omega)).mp hb
      exfalso; omega
    · have hb : ¬ 1 = 0 := fun h => hb ((nI_eq (a := 1) (b := 0) (by omega) (by omega)).mpr h)
      refine gw_aload_n hX nd_Te_readSpeech_14 rfl 0 rfl ?_
      refine gw_get hX kf_Te_23 nd_Te_readSpeech_15 h0 rfl ?_
      refine gw_aload_n hX nd_Te_readSpeech_18 rfl 0 rfl ?_
      refine gw_get hX kf_Te_15 nd_Te_readSpeech_19 h0 rfl ?_
      refine gw_icmp_ne (tgt := 29) hX nd_Te_readSpeech_22 rfl (fun hb => ?_) (fun hb => ?_)
      · have hb : ¬ k = len := fun h => hb ((nI_eq (a := k) (b := len) (by omega) (by omega)).mpr h)
        refine gw_iconst (v := nI 0) hX nd_Te_readSpeech_29 rfl ?_
        exact gw_zret hX hQ hr nd_Te_readSpeech_30 rfl (by decide) (by decide) ⟨Or.inr ⟨fun ws2 q => (by rw [px_S_some hR hne] at q; cases q; exact hb rfl), rfl, se_at_any hs⟩, ⟨k, hk1, h⟩, fr⟩
      · have hb : k = len := (nI_eq (a := k) (b := len) (by omega) (by omega)).mp hb
        refine gw_iconst (v := nI 1) hX nd_Te_readSpeech_25 rfl ?_
        refine gw_goto (tgt := 30) hX nd_Te_readSpeech_26 rfl ?_
        exact gw_zret hX hQ hr nd_Te_readSpeech_30 rfl (by decide) (by decide) ⟨Or.inl ⟨ws, (by rw [px_S_some hR hne, hb]), rfl, hs, hso, hsl, hne⟩, ⟨k, hk1, h⟩, fr⟩
  · show gw_W X σ2 0 0 11 [(0, .ref t), (1, .ref s)] [.int (nI 0)]
    have fr : gw_f2 σ σ2 t (t + 2) s (s + 2) := gw_f2_tr fr hf
    obtain ⟨h0, h1⟩ := id h
    refine gw_if_eq (tgt := 29) hX nd_Te_readSpeech_11 rfl (fun hb => ?_) (fun hb => ?_)
    · have hb : 0 = 0 := (nI_eq (a := 0) (b := 0) (by omega) (by omega)).mp hb
      refine gw_iconst (v := nI 0) hX nd_Te_readSpeech_29 rfl ?_
      exact gw_zret hX hQ hr nd_Te_readSpeech_30 rfl (by decide) (by decide) ⟨Or.inr ⟨fun ws2 q => (by rw [px_S_none hR] at q; cases q), rfl, hs⟩, ⟨k, hk1, h⟩, fr⟩
    · have hb : ¬ 0 = 0 := fun h => hb ((nI_eq (a := 0) (b := 0) (by omega) (by omega)).mpr h)
      exfalso; omega
  · show gw_W X σ2 0 0 11 [(0, .ref t), (1, .ref s)] [.int (nI 1)]
    have fr : gw_f2 σ σ2 t (t + 2) s (s + 2) := gw_f2_tr fr hf
    obtain ⟨h0, h1⟩ := id h
    refine gw_if_eq (tgt := 29) hX nd_Te_readSpeech_11 rfl (fun hb => ?_) (fun hb => ?_)
    · have hb : 1 = 0 := (nI_eq (a := 1) (b := 0) (by omega) (by omega)).mp hb
      exfalso; omega
    · have hb : ¬ 1 = 0 := fun h => hb ((nI_eq (a := 1) (b := 0) (by omega) (by omega)).mpr h)
      refine gw_aload_n hX nd_Te_readSpeech_14 rfl 0 rfl ?_
      refine gw_get hX kf_Te_23 nd_Te_readSpeech_15 h0 rfl ?_
      refine gw_aload_n hX nd_Te_readSpeech_18 rfl 0 rfl ?_
      refine gw_get hX kf_Te_15 nd_Te_readSpeech_19 h0 rfl ?_
      refine gw_icmp_ne (tgt := 29) hX nd_Te_readSpeech_22 rfl (fun hb => ?_) (fun hb => ?_)
      · have hb : ¬ k = len := fun h => hb ((nI_eq (a := k) (b := len) (by omega) (by omega)).mpr h)
        refine gw_iconst (v := nI 0) hX nd_Te_readSpeech_29 rfl ?_
        exact gw_zret hX hQ hr nd_Te_readSpeech_30 rfl (by decide) (by decide) ⟨Or.inr ⟨fun ws2 q => (by rw [px_S_none hR] at q; cases q), rfl, hs⟩, ⟨k, hk1, h⟩, fr⟩
      · have hb : k = len := (nI_eq (a := k) (b := len) (by omega) (by omega)).mp hb
        have := (px_lt_iff.mp hlt).1; omega
set_option maxRecDepth 100000 in
set_option maxHeartbeats 4000000 in
theorem lp_Te_readCorpus {X : gw_C} (t c len : Nat) (ch : Nat → Nat) (hlen : len ≤ 240) (hch : ∀ j, ch j < 127) (hd : t + 2 ≤ c ∨ c + 18 ≤ t) (σ0 : gw_S) (hX : gw_ok X nc_Te_readCorpus "LabelLearner$Text" (3, 4, 98, 0, 0)) (hQ : X.2.2.2.2 = gw_end X (fun v σ' => ((∃ ss : List (List px_W), px_C len ch 8 0 [] = some ss ∧ v = some (.int (nI 1)) ∧ rc_at σ' (gw_z X) c ss ∧ ss.length ≤ 8 ∧ ss ≠ []) ∨ (px_C len ch 8 0 [] = none ∧ v = some (.int (nI 0)) ∧ rc_any σ' (gw_z X) c)) ∧ (∃ k', k' ≤ 240 ∧ tx_at σ' (gw_z X) t len k' ch) ∧ gw_f2 σ0 σ' t (t + 2) c (c + 18)) 0 0) (hr : X.2.2.1.1.sig.returnType = some .boolean) : ∀ (m : Nat) (acc : List (List px_W)) (k : Nat) (σ : gw_S), acc.length + m = 8 → px_C len ch 8 0 [] = px_C len ch (8 - acc.length) k acc → k ≤ 240 → tx_at σ (gw_z X) t len k ch → σ.2 c = some (.inr (2, [.ref (c + 1), .int (nI acc.length)])) → σ.2 (c + 1) = some (gw_Q3 (gw_z X) 8 (fun j => some (c + 2 + 2 * j))) → (∀ j, j < 8 → se_any σ (gw_z X) (c + 2 + 2 * j)) → (∀ (j : Nat) (ws : List px_W), acc[j]? = some ws → se_at σ (gw_z X) (c + 2 + 2 * j) ws ∧ se_ok ws ∧ ws.length ≤ 6 ∧ ws ≠ []) → gw_f2 σ0 σ t (t + 2) c (c + 18) → gw_W X σ 0 0 12 [(2, .int (nI acc.length)), (0, .ref t), (1, .ref c)] [] := by
  intro m
  induction m using Nat.strongRecOn with
  | ind m ih =>
    intro acc k σ hm hC hk h y0 y1 ya ys fr
    obtain ⟨h0, h1⟩ := id h
    refine gw_iload_n hX nd_Te_readCorpus_12 rfl 0 rfl ?_
    refine gw_bipush (v := nI 8) hX nd_Te_readCorpus_13 rfl ?_
    refine gw_icmp_ge (tgt := 74) hX nd_Te_readCorpus_15 rfl (fun hb => ?_) (fun hb => ?_)
    · have hb : 8 ≤ acc.length := (nI_leI (a := 8) (b := acc.length) (by omega) (by omega)).mp hb
      refine gw_iconst (v := nI 0) hX nd_Te_readCorpus_74 rfl ?_
      exact gw_zret hX hQ hr nd_Te_readCorpus_75 rfl (by decide) (by decide) ⟨Or.inr ⟨(by rw [hC, show 8 - acc.length = 0 by omega]; rfl), rfl, _, y0, y1, ya⟩, ⟨k, hk, h⟩, fr⟩
    · have hb : ¬ 8 ≤ acc.length := fun h => hb ((nI_leI (a := 8) (b := acc.length) (by omega) (by omega)).mpr h)
      obtain ⟨f8, hf8⟩ : ∃ f, 8 - acc.length = f + 1 := ⟨7 - acc.length, by omega⟩
      refine gw_aload_n hX nd_Te_readCorpus_18 rfl 1 rfl ?_
      refine gw_aload_n hX nd_Te_readCorpus_19 rfl 2 rfl ?_
      refine gw_get hX kf_Te_31 nd_Te_readCorpus_20 y0 rfl ?_
      refine gw_iload_n hX nd_Te_readCorpus_23 rfl 0 rfl ?_
      refine gw_ald3 hX nd_Te_readCorpus_24 y1 acc.length rfl (by omega) (by decide) (r := c + 2 + 2 * acc.length) rfl ?_
      refine gw_iconst (v := nI 1) hX nd_Te_readCorpus_25 rfl ?_
      obtain ⟨b9, l9, z9, g9, -⟩ := id (ya acc.length (by omega))
      refine gw_callV (rest := []) hX ks_Te_35 (ct_Te_readSentence_t X.1.2.1 (gw_z X) (gw_b X) σ t (c + 2 + 2 * acc.length) len k ch hlen hk hch (by omega) h (ya acc.length (by omega))) h0 rfl rfl (Nat.le_of_ble_eq_true rfl) nd_Te_readCorpus_26 (by decide) ?_
      rintro _ σ1 ⟨⟨k, ws, hS, hne, rfl, hk1, h, hs, hso, hsl⟩ | ⟨hS, hs, k, hk1, h, rfl | ⟨rfl, hlt⟩⟩, hf⟩
      · skip
        have y0 : σ1.2 c = some (.inr (2, [.ref (c + 1), .int (nI acc.length)])) := (hf.2 c (by omega) (by omega)).trans y0
        have y1 : σ1.2 (c + 1) = some ((gw_Q3 (gw_z X) 8 (fun j => some (c + 2 + 2 * j)))) := (hf.2 (c + 1) (by omega) (by omega)).trans y1
        have ya : ∀ j, j < 8 → se_any σ1 (gw_z X) (c + 2 + 2 * j) := by
          intro j hj
          by_cases q : j = acc.length
          · rw [q]; exact se_at_any hs
          · exact se_any_f2 (ya j hj) hf (by omega) (by omega)
        have ys : ∀ (j : Nat) (w : List px_W), (acc ++ [ws])[j]? = some w → se_at σ1 (gw_z X) (c + 2 + 2 * j) w ∧ se_ok w ∧ w.length ≤ 6 ∧ w ≠ [] := by
          intro j w hj
          by_cases q : j < acc.length
          · rw [List.getElem?_append_left q] at hj
            exact ⟨se_at_f2 (ys j w hj).1 hf (by omega) (by omega), (ys j w hj).2⟩
          · have q2 : j = acc.length := by
              have := (List.getElem?_eq_some_iff.mp hj).1
              rw [List.length_append, List.length_singleton] at this
              omega
            rw [q2, List.getElem?_append_right (Nat.le_refl _), Nat.sub_self] at hj
            cases hj
            rw [q2]
            exact ⟨hs, hso, hsl, hne⟩
        have fr : gw_f2 σ0 σ1 t (t + 2) c (c + 18) := gw_f2_tr fr hf
        obtain ⟨h0, h1⟩ := id h
        have hSS := px_S_some hS hne
        show gw_W X σ1 0 0 29 [(2, .int (nI acc.length)), (0, .ref t), (1, .ref c)] [.int (nI 1)]
        refine gw_if_ne (tgt := 34) hX nd_Te_readCorpus_29 rfl (fun hb => ?_) (fun hb => ?_)
        · have hb : ¬ 1 = 0 := fun h => hb ((nI_eq (a := 1) (b := 0) (by omega) (by omega)).mpr h)
          refine gw_aload_n hX nd_Te_readCorpus_34 rfl 2 rfl ?_
          refine gw_dup hX nd_Te_readCorpus_35 rfl ?_
          refine gw_get hX kf_Te_26 nd_Te_readCorpus_36 y0 rfl ?_
          refine gw_iconst (v := nI 1) hX nd_Te_readCorpus_39 rfl ?_
          refine gw_iadd hX nd_Te_readCorpus_40 ?_
          refine gw_topi (y := nI (acc.length + 1)) (nI_add _ _) ?_
          refine gw_put hX kf_Te_26 nd_Te_readCorpus_41 y0 rfl rfl (Nat.le_of_ble_eq_true rfl) (e' := .inr (2, [.ref (c + 1), .int (nI (acc.length + 1))])) rfl ?_
          obtain ⟨σ2, eσ2⟩ : ∃ hp_, hp_ = gw_up σ1 c (.inr (2, [.ref (c + 1), .int (nI (acc.length + 1))])) := ⟨_, rfl⟩
          refine gw_heap eσ2.symm ?_
          have h0 : σ2.2 t = some (.inr (6, [.ref (t + 1), .int (nI len), .int (nI k)])) := by rw [eσ2, gw_up_ne (by omega)]; exact h0
          have h1 : σ2.2 (t + 1) = some ((gw_Ch (gw_z X) 240 (fun j => nI (ch j)))) := by rw [eσ2, gw_up_ne (by omega)]; exact h1
          have y0 : σ2.2 c = some (.inr (2, [.ref (c + 1), .int (nI (acc.length + 1))])) := by rw [eσ2]; exact gw_up_eq _ _ _
          have y1 : σ2.2 (c + 1) = some ((gw_Q3 (gw_z X) 8 (fun j => some (c + 2 + 2 * j)))) := by rw [eσ2, gw_up_ne (by omega)]; exact y1
          have hf : gw_fr σ1 σ2 c (c + 1) := by rw [eσ2]; exact gw_fr_up _ _ _ (by omega) (by omega)
          have h : tx_at σ2 (gw_z X) t len k ch := tx_at_fr h hf (by omega)
          have ya : ∀ j, j < 8 → se_any σ2 (gw_z X) (c + 2 + 2 * j) := fun j hj => se_any_fr (ya j hj) hf (by omega)
          try have ys : ∀ (j : Nat) (w : List px_W), (acc ++ [ws])[j]? = some w → se_at σ2 (gw_z X) (c + 2 + 2 * j) w ∧ se_ok w ∧ w.length ≤ 6 ∧ w ≠ [] := fun j w hj => ⟨se_at_fr (ys j w hj).1 hf (by omega), (ys j w hj).2⟩
          try have hlx : (acc ++ [ws]).length = acc.length + 1 := by simp
          have fr : gw_f2 σ0 σ2 t (t + 2) c (c + 18) := gw_f2_r fr hf
          refine gw_aload_n hX nd_Te_readCorpus_44 rfl 1 rfl ?_
          refine gw_get hX kf_Te_23 nd_Te_readCorpus_45 h0 rfl ?_
          refine gw_aload_n hX nd_Te_readCorpus_48 rfl 1 rfl ?_
          refine gw_get hX kf_Te_15 nd_Te_readCorpus_49 h0 rfl ?_
          refine gw_icmp_ne (tgt := 57) hX nd_Te_readCorpus_52 rfl (fun hb => ?_) (fun hb => ?_)
          · have hb : ¬ k = len := fun h => hb ((nI_eq (a := k) (b := len) (by omega) (by omega)).mpr h)
            have hnk : k ≠ len := by omega
            refine gw_aload_n hX nd_Te_readCorpus_57 rfl 1 rfl ?_
            refine gw_bipush (v := nI 59) hX nd_Te_readCorpus_58 rfl ?_
            refine gw_callV (rest := []) hX ks_Te_39 (ct_Te_take X.1.2.1 (gw_z X) (gw_b X) σ2 t len k ch hlen hk1 hch (by omega) 59 (by decide) h) h0 rfl rfl (Nat.le_of_ble_eq_true rfl) nd_Te_readCorpus_60 (by decide) ?_
            rintro _ σ3 ⟨rfl, h, hf⟩
            have y0 : σ3.2 c = some (.inr (2, [.ref (c + 1), .int (nI (acc.length + 1))])) := (hf.2 c (by omega)).trans y0
            have y1 : σ3.2 (c + 1) = some ((gw_Q3 (gw_z X) 8 (fun j => some (c + 2 + 2 * j)))) := (hf.2 (c + 1) (by omega)).trans y1
            have ya : ∀ j, j < 8 → se_any σ3 (gw_z X) (c + 2 + 2 * j) := fun j hj => se_any_fr (ya j hj) hf (by omega)
            have ys : ∀ (j : Nat) (w : List px_W), (acc ++ [ws])[j]? = some w → se_at σ3 (gw_z X) (c + 2 + 2 * j) w ∧ se_ok w ∧ w.length ≤ 6 ∧ w ≠ [] := fun j w hj => ⟨se_at_fr (ys j w hj).1 hf (by have := (List.getElem?_eq_some_iff.mp hj).1; rw [hlx] at this; omega), (ys j w hj).2⟩
            have fr : gw_f2 σ0 σ3 t (t + 2) c (c + 18) := gw_f2_l fr hf
            show gw_W X σ3 0 0 63 [(2, .int (nI acc.length)), (0, .ref t), (1, .ref c)] [.int (nI (if px_is len ch 59 k then 1 else 0))]
            refine gw_if_ne (tgt := 68) hX nd_Te_readCorpus_63 rfl (fun hb => ?_) (fun hb => ?_)
            · skip
              have his : px_is len ch 59 k = true := by
                cases q : px_is len ch 59 k with
                | true => rfl
                | false => rw [q] at hb; exact absurd rfl hb
              rw [his] at h
              have hkl := (px_is_iff.mp his).1
              obtain ⟨h0, h1⟩ := id h
              refine gw_iinc hX nd_Te_readCorpus_68 0 rfl (v := nI (acc.length + 1)) (show nI acc.length + nI 1 = nI (acc.length + 1) from nI_add _ _) (by decide) (L' := [(2, .int (nI (acc.length + 1))), (0, .ref t), (1, .ref c)]) rfl ?_
              refine gw_goto (tgt := 12) hX nd_Te_readCorpus_71 rfl ?_
              refine gw_cut (ks := [0, 1, 2]) (L' := [(2, .int (nI (acc.length + 1))), (0, .ref t), (1, .ref c)]) rfl ?_
              refine gw_head ?_ (ih (m - 1) (by omega) (acc ++ [ws]) (k + 1) σ3 (by rw [hlx]; omega) ?_ (by omega) h (by rw [hlx]; exact y0) y1 ya ys fr)
              · rw [hlx]
              · rw [hC, hf8, show 8 - (acc ++ [ws]).length = f8 by rw [hlx]; omega]
                simp only [px_C, hSS, his, if_true]
            · skip
              have his : px_is len ch 59 k = false := by
                cases q : px_is len ch 59 k with
                | false => rfl
                | true => rw [q] at hb; exact absurd hb (by decide)
              rw [his] at h
              refine gw_iconst (v := nI 0) hX nd_Te_readCorpus_66 rfl ?_
              exact gw_zret hX hQ hr nd_Te_readCorpus_67 rfl (by decide) (by decide) ⟨Or.inr ⟨(by rw [hC, hf8]; simp only [px_C, hSS, his]; simp [hnk]), rfl, _, y0, y1, ya⟩, ⟨k, hk1, h⟩, fr⟩
          · have hb : k = len := (nI_eq (a := k) (b := len) (by omega) (by omega)).mp hb
            have hb : k = len := by omega
            refine gw_iconst (v := nI 1) hX nd_Te_readCorpus_55 rfl ?_
            have hnl : px_is len ch 59 k = false := by
              cases q : px_is len ch 59 k with
              | false => rfl
              | true => exact absurd (px_is_iff.mp q).1 (by omega)
            exact gw_zret hX hQ hr nd_Te_readCorpus_56 rfl (by decide) (by decide) ⟨Or.inl ⟨acc ++ [ws], (by rw [hC, hf8]; simp only [px_C, hSS, hnl]; simp [hb]), rfl, ⟨by rw [hlx]; exact y0, y1, ya, ys⟩, by rw [hlx]; omega, by simp⟩, ⟨k, hk1, h⟩, fr⟩
        · have hb : 1 = 0 := (nI_eq (a := 1) (b := 0) (by omega) (by omega)).mp hb
          exfalso; omega
      · skip
        have y0 : σ1.2 c = some (.inr (2, [.ref (c + 1), .int (nI acc.length)])) := (hf.2 c (by omega) (by omega)).trans y0
        have y1 : σ1.2 (c + 1) = some ((gw_Q3 (gw_z X) 8 (fun j => some (c + 2 + 2 * j)))) := (hf.2 (c + 1) (by omega) (by omega)).trans y1
        have ya : ∀ j, j < 8 → se_any σ1 (gw_z X) (c + 2 + 2 * j) := by
          intro j hj
          by_cases q : j = acc.length
          · rw [q]; exact hs
          · exact se_any_f2 (ya j hj) hf (by omega) (by omega)
        have fr : gw_f2 σ0 σ1 t (t + 2) c (c + 18) := gw_f2_tr fr hf
        obtain ⟨h0, h1⟩ := id h
        have hSS := px_S_none hS
        have hC0 : px_C len ch 8 0 [] = none := by rw [hC, hf8]; simp only [px_C, hSS]
        show gw_W X σ1 0 0 29 [(2, .int (nI acc.length)), (0, .ref t), (1, .ref c)] [.int (nI 0)]
        refine gw_if_ne (tgt := 34) hX nd_Te_readCorpus_29 rfl (fun hb => ?_) (fun hb => ?_)
        · have hb : ¬ 0 = 0 := fun h => hb ((nI_eq (a := 0) (b := 0) (by omega) (by omega)).mpr h)
          exfalso; omega
        · have hb : 0 = 0 := (nI_eq (a := 0) (b := 0) (by omega) (by omega)).mp hb
          refine gw_iconst (v := nI 0) hX nd_Te_readCorpus_32 rfl ?_
          exact gw_zret hX hQ hr nd_Te_readCorpus_33 rfl (by decide) (by decide) ⟨Or.inr ⟨hC0, rfl, _, y0, y1, ya⟩, ⟨k, hk1, h⟩, fr⟩
      · skip
        have y0 : σ1.2 c = some (.inr (2, [.ref (c + 1), .int (nI acc.length)])) := (hf.2 c (by omega) (by omega)).trans y0
        have y1 : σ1.2 (c + 1) = some ((gw_Q3 (gw_z X) 8 (fun j => some (c + 2 + 2 * j)))) := (hf.2 (c + 1) (by omega) (by omega)).trans y1
        have ya : ∀ j, j < 8 → se_any σ1 (gw_z X) (c + 2 + 2 * j) := by
          intro j hj
          by_cases q : j = acc.length
          · rw [q]; exact hs
          · exact se_any_f2 (ya j hj) hf (by omega) (by omega)
        have fr : gw_f2 σ0 σ1 t (t + 2) c (c + 18) := gw_f2_tr fr hf
        obtain ⟨h0, h1⟩ := id h
        have hSS := px_S_none hS
        have hC0 : px_C len ch 8 0 [] = none := by rw [hC, hf8]; simp only [px_C, hSS]
        show gw_W X σ1 0 0 29 [(2, .int (nI acc.length)), (0, .ref t), (1, .ref c)] [.int (nI 1)]
        refine gw_if_ne (tgt := 34) hX nd_Te_readCorpus_29 rfl (fun hb => ?_) (fun hb => ?_)
        · have hb : ¬ 1 = 0 := fun h => hb ((nI_eq (a := 1) (b := 0) (by omega) (by omega)).mpr h)
          refine gw_aload_n hX nd_Te_readCorpus_34 rfl 2 rfl ?_
          refine gw_dup hX nd_Te_readCorpus_35 rfl ?_
          refine gw_get hX kf_Te_26 nd_Te_readCorpus_36 y0 rfl ?_
          refine gw_iconst (v := nI 1) hX nd_Te_readCorpus_39 rfl ?_
          refine gw_iadd hX nd_Te_readCorpus_40 ?_
          refine gw_topi (y := nI (acc.length + 1)) (nI_add _ _) ?_
          refine gw_put hX kf_Te_26 nd_Te_readCorpus_41 y0 rfl rfl (Nat.le_of_ble_eq_true rfl) (e' := .inr (2, [.ref (c + 1), .int (nI (acc.length + 1))])) rfl ?_
          obtain ⟨σ4, eσ4⟩ : ∃ hp_, hp_ = gw_up σ1 c (.inr (2, [.ref (c + 1), .int (nI (acc.length + 1))])) := ⟨_, rfl⟩
          refine gw_heap eσ4.symm ?_
          have h0 : σ4.2 t = some (.inr (6, [.ref (t + 1), .int (nI len), .int (nI k)])) := by rw [eσ4, gw_up_ne (by omega)]; exact h0
          have h1 : σ4.2 (t + 1) = some ((gw_Ch (gw_z X) 240 (fun j => nI (ch j)))) := by rw [eσ4, gw_up_ne (by omega)]; exact h1
          have y0 : σ4.2 c = some (.inr (2, [.ref (c + 1), .int (nI (acc.length + 1))])) := by rw [eσ4]; exact gw_up_eq _ _ _
          have y1 : σ4.2 (c + 1) = some ((gw_Q3 (gw_z X) 8 (fun j => some (c + 2 + 2 * j)))) := by rw [eσ4, gw_up_ne (by omega)]; exact y1
          have hf : gw_fr σ1 σ4 c (c + 1) := by rw [eσ4]; exact gw_fr_up _ _ _ (by omega) (by omega)
          have h : tx_at σ4 (gw_z X) t len k ch := tx_at_fr h hf (by omega)
          have ya : ∀ j, j < 8 → se_any σ4 (gw_z X) (c + 2 + 2 * j) := fun j hj => se_any_fr (ya j hj) hf (by omega)
          try have ys : ∀ (j : Nat) (w : List px_W), (acc ++ [ws])[j]? = some w → se_at σ4 (gw_z X) (c + 2 + 2 * j) w ∧ se_ok w ∧ w.length ≤ 6 ∧ w ≠ [] := fun j w hj => ⟨se_at_fr (ys j w hj).1 hf (by omega), (ys j w hj).2⟩
          try have hlx : (acc ++ [ws]).length = acc.length + 1 := by simp
          have fr : gw_f2 σ0 σ4 t (t + 2) c (c + 18) := gw_f2_r fr hf
          refine gw_aload_n hX nd_Te_readCorpus_44 rfl 1 rfl ?_
          refine gw_get hX kf_Te_23 nd_Te_readCorpus_45 h0 rfl ?_
          refine gw_aload_n hX nd_Te_readCorpus_48 rfl 1 rfl ?_
          refine gw_get hX kf_Te_15 nd_Te_readCorpus_49 h0 rfl ?_
          refine gw_icmp_ne (tgt := 57) hX nd_Te_readCorpus_52 rfl (fun hb => ?_) (fun hb => ?_)
          · have hb : ¬ k = len := fun h => hb ((nI_eq (a := k) (b := len) (by omega) (by omega)).mpr h)
            refine gw_aload_n hX nd_Te_readCorpus_57 rfl 1 rfl ?_
            refine gw_bipush (v := nI 59) hX nd_Te_readCorpus_58 rfl ?_
            refine gw_callV (rest := []) hX ks_Te_39 (ct_Te_take X.1.2.1 (gw_z X) (gw_b X) σ4 t len k ch hlen hk1 hch (by omega) 59 (by decide) h) h0 rfl rfl (Nat.le_of_ble_eq_true rfl) nd_Te_readCorpus_60 (by decide) ?_
            rintro _ σ5 ⟨rfl, h, hf⟩
            have y0 : σ5.2 c = some (.inr (2, [.ref (c + 1), .int (nI (acc.length + 1))])) := (hf.2 c (by omega)).trans y0
            have y1 : σ5.2 (c + 1) = some ((gw_Q3 (gw_z X) 8 (fun j => some (c + 2 + 2 * j)))) := (hf.2 (c + 1) (by omega)).trans y1
            have ya : ∀ j, j < 8 → se_any σ5 (gw_z X) (c + 2 + 2 * j) := fun j hj => se_any_fr (ya j hj) hf (by omega)
            have fr : gw_f2 σ0 σ5 t (t + 2) c (c + 18) := gw_f2_l fr hf
            show gw_W X σ5 0 0 63 [(2, .int (nI acc.length)), (0, .ref t), (1, .ref c)] [.int (nI (if px_is len ch 59 k then 1 else 0))]
            have hns : px_is len ch 59 k = false := by
              cases q : px_is len ch 59 k with
              | false => rfl
              | true => have q1 := (px_is_iff.mp q).2; have q2 := (px_lt_iff.mp hlt).2; omega
            rw [hns]
            rw [hns] at h
            refine gw_if_ne (tgt := 68) hX nd_Te_readCorpus_63 rfl (fun hb => ?_) (fun hb => ?_)
            · have hb : ¬ 0 = 0 := fun h => hb ((nI_eq (a := 0) (b := 0) (by omega) (by omega)).mpr h)
              exfalso; omega
            · have hb : 0 = 0 := (nI_eq (a := 0) (b := 0) (by omega) (by omega)).mp hb
              refine gw_iconst (v := nI 0) hX nd_Te_readCorpus_66 rfl ?_
              exact gw_zret hX hQ hr nd_Te_readCorpus_67 rfl (by decide) (by decide) ⟨Or.inr ⟨hC0, rfl, _, y0, y1, ya⟩, ⟨k, hk1, h⟩, fr⟩
          · have hb : k = len := (nI_eq (a := k) (b := len) (by omega) (by omega)).mp hb
            have := (px_lt_iff.mp hlt).1; omega
        · have hb : 1 = 0 := (nI_eq (a := 1) (b := 0) (by omega) (by omega)).mp hb
          exfalso; omega
set_option maxRecDepth 100000 in
set_option maxHeartbeats 4000000 in
theorem ct_Te_readCorpus (l : Launch) (Z : gw_Z) (b0 : Nat) (σ : gw_S) (t c len k0 : Nat) (ch : Nat → Nat) (hlen : len ≤ 240) (hch : ∀ j, ch j < 127) (hd : t + 2 ≤ c ∨ c + 18 ≤ t) (h : tx_at σ Z t len k0 ch) (hc : rc_any σ Z c) : gw_M l ny_Te_readCorpus nc_Te_readCorpus (3, 4, 98, 0, 0) (some .boolean) Z b0 σ [.ref t, .ref c] (fun v σ' => ((∃ ss : List (List px_W), px_C len ch 8 0 [] = some ss ∧ v = some (.int (nI 1)) ∧ rc_at σ' Z c ss ∧ ss.length ≤ 8 ∧ ss ≠ []) ∨ (px_C len ch 8 0 [] = none ∧ v = some (.int (nI 0)) ∧ rc_any σ' Z c)) ∧ (∃ k', k' ≤ 240 ∧ tx_at σ' Z t len k' ch) ∧ gw_f2 σ σ' t (t + 2) c (c + 18)) := by
  refine gw_M_of rfl (Nat.le_of_ble_eq_true rfl) ?_
  intro X hX hl hz hb0 hr hnm hQ
  subst hz hb0 hl
  have hX : gw_ok X nc_Te_readCorpus "LabelLearner$Text" (3, 4, 98, 0, 0) := hX
  show gw_W X σ 0 0 0 [(0, .ref t), (1, .ref c)] []
  obtain ⟨h0, h1⟩ := id h
  obtain ⟨sz, y0, y1, ya⟩ := id hc
  refine gw_aload_n hX nd_Te_readCorpus_0 rfl 0 rfl ?_
  refine gw_iconst (v := nI 0) hX nd_Te_readCorpus_1 rfl ?_
  refine gw_put hX kf_Te_23 nd_Te_readCorpus_2 h0 rfl rfl (Nat.le_of_ble_eq_true rfl) (e' := .inr (6, [.ref (t + 1), .int (nI len), .int (nI 0)])) rfl ?_
  obtain ⟨σ1, eσ1⟩ : ∃ hp_, hp_ = gw_up σ t (.inr (6, [.ref (t + 1), .int (nI len), .int (nI 0)])) := ⟨_, rfl⟩
  refine gw_heap eσ1.symm ?_
  have h0 : σ1.2 t = some (.inr (6, [.ref (t + 1), .int (nI len), .int (nI 0)])) := by rw [eσ1]; exact gw_up_eq _ _ _
  have h1 : σ1.2 (t + 1) = some ((gw_Ch (gw_z X) 240 (fun j => nI (ch j)))) := by rw [eσ1, gw_up_ne (by omega)]; exact h1
  have y0 : σ1.2 c = some (.inr (2, [.ref (c + 1), .int sz])) := by rw [eσ1, gw_up_ne (by omega)]; exact y0
  have y1 : σ1.2 (c + 1) = some ((gw_Q3 (gw_z X) 8 (fun j => some (c + 2 + 2 * j)))) := by rw [eσ1, gw_up_ne (by omega)]; exact y1
  have f1 : gw_fr σ σ1 t (t + 1) := by rw [eσ1]; exact gw_fr_up _ _ _ (by omega) (by omega)
  refine gw_aload_n hX nd_Te_readCorpus_5 rfl 1 rfl ?_
  refine gw_iconst (v := nI 0) hX nd_Te_readCorpus_6 rfl ?_
  refine gw_put hX kf_Te_26 nd_Te_readCorpus_7 y0 rfl rfl (Nat.le_of_ble_eq_true rfl) (e' := .inr (2, [.ref (c + 1), .int (nI 0)])) rfl ?_
  obtain ⟨σ2, eσ2⟩ : ∃ hp_, hp_ = gw_up σ1 c (.inr (2, [.ref (c + 1), .int (nI 0)])) := ⟨_, rfl⟩
  refine gw_heap eσ2.symm ?_
  have h0 : σ2.2 t = some (.inr (6, [.ref (t + 1), .int (nI len), .int (nI 0)])) := by rw [eσ2, gw_up_ne (by omega)]; exact h0
  have h1 : σ2.2 (t + 1) = some ((gw_Ch (gw_z X) 240 (fun j => nI (ch j)))) := by rw [eσ2, gw_up_ne (by omega)]; exact h1
  have y0 : σ2.2 c = some (.inr (2, [.ref (c + 1), .int (nI 0)])) := by rw [eσ2]; exact gw_up_eq _ _ _
  have y1 : σ2.2 (c + 1) = some ((gw_Q3 (gw_z X) 8 (fun j => some (c + 2 + 2 * j)))) := by rw [eσ2, gw_up_ne (by omega)]; exact y1
  have f2 : gw_fr σ1 σ2 c (c + 1) := by rw [eσ2]; exact gw_fr_up _ _ _ (by omega) (by omega)
  refine gw_iconst (v := nI 0) hX nd_Te_readCorpus_10 rfl ?_
  refine gw_istore_n hX nd_Te_readCorpus_11 rfl (by decide) (L' := [(2, .int (nI 0)), (0, .ref t), (1, .ref c)]) rfl ?_
  refine gw_cut (ks := [0, 1, 2]) (L' := [(2, .int (nI 0)), (0, .ref t), (1, .ref c)]) rfl ?_
  exact lp_Te_readCorpus t c len ch hlen hch hd σ hX hQ hr 8 [] 0 σ2 (by simp) rfl (by omega) ⟨h0, h1⟩ y0 y1 (fun j hj => se_any_fr (se_any_fr (ya j hj) f1 (by omega)) f2 (by omega)) (fun j ws hj => (by simp at hj)) (gw_f2_r (gw_f2_l (gw_f2_rf _ _ _ _ _) f1) f2)
