set_option maxRecDepth 100000 in
set_option maxHeartbeats 4000000 in
theorem lp_Mo_s0 {X : gw_C} (m a : Nat) (hma : m + 4 < a) (hma2 : a + 1 ≤ m + 10) {th rs kp kw : Int32} {len sn mk ps : Nat} (ws : List px_W) (hso : se_ok ws) (hsl : ws.length ≤ 6) (hne : ws ≠ []) (wt : Nat → Int) (hB : dc_B wt) (f10 : Nat → Int64) (hpr : pr_ok f10 wt ws (4 * ws.length)) {bs s2 : Int64} {be se : Int32} (f12 : Nat → Int64) (hz12 : f12 0 = iL 0) {σ0 : gw_S} (hX : gw_ok X nc_Mo_search "LabelLearnerModel" (9, 2, 49, 0, 0)) (hQ : X.2.2.2.2 = gw_end X (fun v σ' => v = none ∧ σ'.2 m = some (.inr (1, [.int th, .int (nI len), .ref (m + 1), .int (nI sn), .ref (m + 2), .ref (m + 3), .ref (m + 4), .int rs, .ref (m + 5), .ref (m + 6), .ref (m + 7), .ref (m + 8), .ref (m + 9), .int (nI mk), .int (nI ps), .ref (m + 10), .ref (m + 11), .ref (m + 12), .long (iL (ab_best wt ws 0).1), .long (iL (ab_best wt ws 1).1), .int (nI ((ab_best wt ws 0).2)), .int (nI ((ab_best wt ws 1).2)), .int kp, .int kw])) ∧ (∃ f, σ'.2 (m + 10) = some (gw_J (gw_z X) 24 f)) ∧ (∃ f, σ'.2 (m + 11) = some (gw_I (gw_z X) 6 f)) ∧ (∃ f, σ'.2 (m + 12) = some (gw_J (gw_z X) 7 f) ∧ f 0 = iL 0) ∧ gw_f2 σ0 σ' m (m + 1) (m + 10) (m + 13)) 0 0) (hr : X.2.2.1.1.sig.returnType = none) : ∀ (u : Nat) (k : Nat) (fn : Nat → Int32) (σ : gw_S), k + u = 6 → (∀ w, w < k → fn w = nI 0) → σ.2 m = some (.inr (1, [.int th, .int (nI len), .ref (m + 1), .int (nI sn), .ref (m + 2), .ref (m + 3), .ref (m + 4), .int rs, .ref (m + 5), .ref (m + 6), .ref (m + 7), .ref (m + 8), .ref (m + 9), .int (nI mk), .int (nI ps), .ref (m + 10), .ref (m + 11), .ref (m + 12), .long bs, .long s2, .int be, .int se, .int kp, .int kw])) → σ.2 a = some (gw_J (gw_z X) 148 (fun j => iL (wt j))) → σ.2 (m + 10) = some (gw_J (gw_z X) 24 f10) → σ.2 (m + 11) = some (gw_I (gw_z X) 6 fn) → σ.2 (m + 12) = some (gw_J (gw_z X) 7 f12) → gw_f2 σ0 σ m (m + 1) (m + 10) (m + 13) → gw_W X σ 0 0 16 [(0, .ref m), (2, .ref a), (3, .int (nI ws.length)), (4, .int (nI k))] [] := by
  intro u
  induction u using Nat.strongRecOn with
  | ind u ih =>
    intro k fn σ
    intro hk hz h0 ha h10 h11 h12 fr
    have hws0 := List.length_pos_iff.mpr hne
    refine gw_iload hX nd_Mo_search_16 3 rfl ?_
    refine gw_bipush (v := nI 6) hX nd_Mo_search_18 rfl ?_
    refine gw_icmp_ge (tgt := 37) hX nd_Mo_search_20 rfl (fun hb => ?_) (fun hb => ?_)
    · have hb : 6 ≤ k := (nI_leI (a := 6) (b := k) (by omega) (by omega)).mp hb
      refine gw_extI h11 (g := fun w => nI ((fun _ => 0) w)) (fun j hj => by rw [hz j (by omega)]) ?_
      obtain ⟨σ1, eσ1⟩ : ∃ hp_, hp_ = gw_up σ (m + 11) ((gw_I (gw_z X) 6 (fun w => nI ((fun _ => 0) w)))) := ⟨_, rfl⟩
      refine gw_heap eσ1.symm ?_
      have h0 : σ1.2 m = some (.inr (1, [.int th, .int (nI len), .ref (m + 1), .int (nI sn), .ref (m + 2), .ref (m + 3), .ref (m + 4), .int rs, .ref (m + 5), .ref (m + 6), .ref (m + 7), .ref (m + 8), .ref (m + 9), .int (nI mk), .int (nI ps), .ref (m + 10), .ref (m + 11), .ref (m + 12), .long bs, .long s2, .int be, .int se, .int kp, .int kw])) := by rw [eσ1, gw_up_ne (by omega)]; exact h0
      have ha : σ1.2 a = some ((gw_J (gw_z X) 148 (fun j => iL (wt j)))) := by rw [eσ1, gw_up_ne (by omega)]; exact ha
      have h10 : σ1.2 (m + 10) = some ((gw_J (gw_z X) 24 f10)) := by rw [eσ1, gw_up_ne (by omega)]; exact h10
      have h11 : σ1.2 (m + 11) = some ((gw_I (gw_z X) 6 (fun w => nI ((fun _ => 0) w)))) := by rw [eσ1]; exact gw_up_eq _ _ _
      have h12 : σ1.2 (m + 12) = some ((gw_J (gw_z X) 7 f12)) := by rw [eσ1, gw_up_ne (by omega)]; exact h12
      have fr : gw_f2 σ0 σ1 m (m + 1) (m + 10) (m + 13) := by first | exact gw_f2_l fr (show gw_fr _ σ1 m (m + 1) by rw [eσ1]; exact gw_fr_up _ _ _ (by omega) (by omega)) | exact gw_f2_r fr (show gw_fr _ σ1 (m + 10) (m + 13) by rw [eσ1]; exact gw_fr_up _ _ _ (by omega) (by omega))
      refine gw_iconst (v := nI 0) hX nd_Mo_search_37 rfl ?_
      refine gw_istore hX nd_Mo_search_38 (by decide) (L' := [(4, .int (nI 0)), (0, .ref m), (2, .ref a), (3, .int (nI ws.length))]) rfl ?_
      refine gw_iconst (v := nI 0) hX nd_Mo_search_40 rfl ?_
      refine gw_istore hX nd_Mo_search_41 (by decide) (L' := [(5, .int (nI 0)), (4, .int (nI 0)), (0, .ref m), (2, .ref a), (3, .int (nI ws.length))]) rfl ?_
      refine gw_iconst (v := nI 0) hX nd_Mo_search_43 rfl ?_
      refine gw_istore hX nd_Mo_search_44 (by decide) (L' := [(6, .int (nI 0)), (5, .int (nI 0)), (4, .int (nI 0)), (0, .ref m), (2, .ref a), (3, .int (nI ws.length))]) rfl ?_
      refine gw_cut (ks := [3, 4, 5, 2, 1, 0]) (L' := [(0, .ref m), (2, .ref a), (3, .int (nI ws.length)), (4, .int (nI 0)), (5, .int (nI 0)), (6, .int (nI 0))]) rfl ?_
      exact lp_Mo_search m a hma hma2 ws hso hsl hne wt hB f10 hpr hX hQ hr _ 0 0 (fun _ => 0) f12 bs s2 be se 0 0 _ rfl (Nat.pow_pos (by decide)) hws0 (fun w hw => (tl_g_0 _ _).symm) (fun w hw => by show 0 < 4; omega) (fun w hw => by rw [show w = 0 by omega]; exact hz12) ⟨fun x hx => by simp [sx_R, tk_all] at hx, fun x hx => by simp [sx_R, tk_all] at hx⟩ ⟨rfl, rfl⟩ h0 ha h10 h11 h12 fr
    · have hb : ¬ 6 ≤ k := fun h => hb ((nI_leI (a := 6) (b := k) (by omega) (by omega)).mpr h)
      refine gw_aload_n hX nd_Mo_search_23 rfl 0 rfl ?_
      refine gw_get hX kf_Mo_41 nd_Mo_search_24 h0 rfl ?_
      refine gw_iload hX nd_Mo_search_27 3 rfl ?_
      refine gw_iconst (v := nI 0) hX nd_Mo_search_29 rfl ?_
      refine gw_iast hX nd_Mo_search_30 h11 k rfl (by omega) (by decide) ?_
      obtain ⟨σ2, eσ2⟩ : ∃ hp_, hp_ = gw_up σ (m + 11) ((gw_I (gw_z X) 6 (upd fn k (nI 0)))) := ⟨_, rfl⟩
      refine gw_heap eσ2.symm ?_
      have h0 : σ2.2 m = some (.inr (1, [.int th, .int (nI len), .ref (m + 1), .int (nI sn), .ref (m + 2), .ref (m + 3), .ref (m + 4), .int rs, .ref (m + 5), .ref (m + 6), .ref (m + 7), .ref (m + 8), .ref (m + 9), .int (nI mk), .int (nI ps), .ref (m + 10), .ref (m + 11), .ref (m + 12), .long bs, .long s2, .int be, .int se, .int kp, .int kw])) := by rw [eσ2, gw_up_ne (by omega)]; exact h0
      have ha : σ2.2 a = some ((gw_J (gw_z X) 148 (fun j => iL (wt j)))) := by rw [eσ2, gw_up_ne (by omega)]; exact ha
      have h10 : σ2.2 (m + 10) = some ((gw_J (gw_z X) 24 f10)) := by rw [eσ2, gw_up_ne (by omega)]; exact h10
      have h11 : σ2.2 (m + 11) = some ((gw_I (gw_z X) 6 (upd fn k (nI 0)))) := by rw [eσ2]; exact gw_up_eq _ _ _
      have h12 : σ2.2 (m + 12) = some ((gw_J (gw_z X) 7 f12)) := by rw [eσ2, gw_up_ne (by omega)]; exact h12
      have fr : gw_f2 σ0 σ2 m (m + 1) (m + 10) (m + 13) := by first | exact gw_f2_l fr (show gw_fr _ σ2 m (m + 1) by rw [eσ2]; exact gw_fr_up _ _ _ (by omega) (by omega)) | exact gw_f2_r fr (show gw_fr _ σ2 (m + 10) (m + 13) by rw [eσ2]; exact gw_fr_up _ _ _ (by omega) (by omega))
      refine gw_iinc hX nd_Mo_search_31 3 rfl (v := nI (k + 1)) (show nI k + nI 1 = nI (k + 1) from nI_add _ _) (by decide) (L' := [(4, .int (nI (k + 1))), (0, .ref m), (2, .ref a), (3, .int (nI ws.length))]) rfl ?_
      refine gw_goto (tgt := 16) hX nd_Mo_search_34 rfl ?_
      refine gw_cut (ks := [1, 2, 3, 0]) (L' := [(0, .ref m), (2, .ref a), (3, .int (nI ws.length)), (4, .int (nI (k + 1)))]) rfl ?_
      exact ih (u - 1) (by omega) (k + 1) _ _ (by omega) (fun w hw => by unfold upd; split; rfl; exact hz w (by omega)) h0 ha h10 h11 h12 fr
set_option maxRecDepth 100000 in
set_option maxHeartbeats 4000000 in
theorem ct_Mo_search (l : Launch) (Z : gw_Z) (b0 : Nat) (σ : gw_S) (m a : Nat) (hma : m + 4 < a) (hma2 : a + 1 ≤ m + 10) {th rs be se kp kw : Int32} {len sn mk ps : Nat} {bs s2 : Int64} (fm fb : Nat → Int32) (j : Nat) (hj : j ≤ 8) (ws : List px_W) (hso : se_ok ws) (hsl : ws.length ≤ 6) (hne : ws ≠ []) (hmb : mm_b fm fb j ws) (wt : Nat → Int) (hB : dc_B wt) (h0 : σ.2 m = some (.inr (1, [.int th, .int (nI len), .ref (m + 1), .int (nI sn), .ref (m + 2), .ref (m + 3), .ref (m + 4), .int rs, .ref (m + 5), .ref (m + 6), .ref (m + 7), .ref (m + 8), .ref (m + 9), .int (nI mk), .int (nI ps), .ref (m + 10), .ref (m + 11), .ref (m + 12), .long bs, .long s2, .int be, .int se, .int kp, .int kw]))) (h2 : σ.2 (m + 2) = some (gw_I Z 9 fm)) (h3 : σ.2 (m + 3) = some (gw_I Z 162 fb)) (ha : σ.2 a = some (gw_J Z 148 (fun j => iL (wt j)))) (f10 : Nat → Int64) (h10 : σ.2 (m + 10) = some (gw_J Z 24 f10)) (f11 : Nat → Int32) (h11 : σ.2 (m + 11) = some (gw_I Z 6 f11)) (f12 : Nat → Int64) (h12 : σ.2 (m + 12) = some (gw_J Z 7 f12)) (hz12 : f12 0 = iL 0) : gw_M l ny_Mo_search nc_Mo_search (9, 2, 49, 0, 0) none Z b0 σ [.ref m, .int (nI j), .ref a] (fun v σ' => v = none ∧ σ'.2 m = some (.inr (1, [.int th, .int (nI len), .ref (m + 1), .int (nI sn), .ref (m + 2), .ref (m + 3), .ref (m + 4), .int rs, .ref (m + 5), .ref (m + 6), .ref (m + 7), .ref (m + 8), .ref (m + 9), .int (nI mk), .int (nI ps), .ref (m + 10), .ref (m + 11), .ref (m + 12), .long (iL (ab_best wt ws 0).1), .long (iL (ab_best wt ws 1).1), .int (nI ((ab_best wt ws 0).2)), .int (nI ((ab_best wt ws 1).2)), .int kp, .int kw])) ∧ (∃ f, σ'.2 (m + 10) = some (gw_J Z 24 f)) ∧ (∃ f, σ'.2 (m + 11) = some (gw_I Z 6 f)) ∧ (∃ f, σ'.2 (m + 12) = some (gw_J Z 7 f) ∧ f 0 = iL 0) ∧ gw_f2 σ σ' m (m + 1) (m + 10) (m + 13)) := by
  refine gw_M_of rfl (Nat.le_of_ble_eq_true rfl) ?_
  intro X hX hl hz hb0 hr hnm hQ
  subst hz hb0 hl
  have hX : gw_ok X nc_Mo_search "LabelLearnerModel" (9, 2, 49, 0, 0) := hX
  show gw_W X σ 0 0 0 [(0, .ref m), (1, .int (nI j)), (2, .ref a)] []
  have fr : gw_f2 σ σ m (m + 1) (m + 10) (m + 13) := gw_f2_rf _ _ _ _ _
  have hws0 := List.length_pos_iff.mpr hne
  refine gw_aload_n hX nd_Mo_search_0 rfl 0 rfl ?_
  refine gw_get hX kf_Mo_13 nd_Mo_search_1 h0 rfl ?_
  refine gw_iload_n hX nd_Mo_search_4 rfl 1 rfl ?_
  refine gw_iald hX nd_Mo_search_5 h2 j rfl (by omega) (by decide) ?_
  refine gw_topi (y := nI ws.length) hmb.1 ?_
  refine gw_istore_n hX nd_Mo_search_6 rfl (by decide) (L' := [(3, .int (nI ws.length)), (0, .ref m), (1, .int (nI j)), (2, .ref a)]) rfl ?_
  refine gw_aload_n hX nd_Mo_search_7 rfl 1 rfl ?_
  refine gw_iload_n hX nd_Mo_search_8 rfl 2 rfl ?_
  refine gw_aload_n hX nd_Mo_search_9 rfl 3 rfl ?_
  refine gw_callV (rest := []) hX ks_Mo_112 (ct_Mo_prepare _ _ _ σ m a (by omega) hma2 (by omega) (by omega) fm fb j hj ws hso hsl hmb wt hws0 f10 h0 h2 h3 ha h10) h0 rfl rfl (Nat.le_of_ble_eq_true rfl) nd_Mo_search_10 (by decide) ?_
  rintro _ σ1 ⟨rfl, ⟨f10, h10, hpr⟩, hf9⟩
  have h0 : σ1.2 m = some (.inr (1, [.int th, .int (nI len), .ref (m + 1), .int (nI sn), .ref (m + 2), .ref (m + 3), .ref (m + 4), .int rs, .ref (m + 5), .ref (m + 6), .ref (m + 7), .ref (m + 8), .ref (m + 9), .int (nI mk), .int (nI ps), .ref (m + 10), .ref (m + 11), .ref (m + 12), .long bs, .long s2, .int be, .int se, .int kp, .int kw])) := (hf9.2 m (by omega)).trans h0
  have h2 : σ1.2 (m + 2) = some ((gw_I (gw_z X) 9 fm)) := (hf9.2 (m + 2) (by omega)).trans h2
  have h3 : σ1.2 (m + 3) = some ((gw_I (gw_z X) 162 fb)) := (hf9.2 (m + 3) (by omega)).trans h3
  have ha : σ1.2 a = some ((gw_J (gw_z X) 148 (fun j => iL (wt j)))) := (hf9.2 a (by omega)).trans ha
  have h11 : σ1.2 (m + 11) = some ((gw_I (gw_z X) 6 f11)) := (hf9.2 (m + 11) (by omega)).trans h11
  have h12 : σ1.2 (m + 12) = some ((gw_J (gw_z X) 7 f12)) := (hf9.2 (m + 12) (by omega)).trans h12
  have fr : gw_f2 σ σ1 m (m + 1) (m + 10) (m + 13) := gw_f2_r fr hf9
  show gw_W X σ1 0 0 13 [(3, .int (nI ws.length)), (0, .ref m), (1, .int (nI j)), (2, .ref a)] []
  refine gw_iconst (v := nI 0) hX nd_Mo_search_13 rfl ?_
  refine gw_istore hX nd_Mo_search_14 (by decide) (L' := [(4, .int (nI 0)), (3, .int (nI ws.length)), (0, .ref m), (1, .int (nI j)), (2, .ref a)]) rfl ?_
  refine gw_cut (ks := [2, 4, 1, 0]) (L' := [(0, .ref m), (2, .ref a), (3, .int (nI ws.length)), (4, .int (nI 0))]) rfl ?_
  exact lp_Mo_s0 m a hma hma2 ws hso hsl hne wt hB f10 hpr f12 hz12 hX hQ hr 6 0 f11 _ (by omega) (fun w hw => by omega) h0 ha h10 h11 h12 fr
/-- the model's world behind a search -/
theorem mw_srch {σ σ' : gw_S} {Z : gw_Z} {m : Nat} {A : ab_A} {th rs be se kp kw be' se' : Int32} {bs s2 bs' s2' : Int64} {fm fb fl : Nat → Int32} (h : mw_at σ Z m A th rs be se kp kw bs s2 fm fb fl) (h0 : σ'.2 m = some (.inr (1, [.int th, .int (nI A.len), .ref (m + 1), .int (nI A.ss.length), .ref (m + 2), .ref (m + 3), .ref (m + 4), .int rs, .ref (m + 5), .ref (m + 6), .ref (m + 7), .ref (m + 8), .ref (m + 9), .int (nI A.mk), .int (nI A.ps), .ref (m + 10), .ref (m + 11), .ref (m + 12), .long bs', .long s2', .int be', .int se', .int kp, .int kw]))) (h10 : ∃ f, σ'.2 (m + 10) = some (gw_J Z 24 f)) (h11 : ∃ f, σ'.2 (m + 11) = some (gw_I Z 6 f)) (h12 : ∃ f, σ'.2 (m + 12) = some (gw_J Z 7 f) ∧ f 0 = iL 0) (f : gw_f2 σ σ' m (m + 1) (m + 10) (m + 13)) : mw_at σ' Z m A th rs be' se' kp kw bs' s2' fm fb fl := by
  obtain ⟨-, h1, h2, h3, h4, ⟨f5, h5⟩, ⟨f6, h6⟩, ⟨f7, h7⟩, h8, h9, -, -, -⟩ := h
  exact ⟨h0, (f.2 _ (by omega) (by omega)).trans h1, (f.2 _ (by omega) (by omega)).trans h2, (f.2 _ (by omega) (by omega)).trans h3, (f.2 _ (by omega) (by omega)).trans h4, ⟨f5, (f.2 _ (by omega) (by omega)).trans h5⟩, ⟨f6, (f.2 _ (by omega) (by omega)).trans h6⟩, ⟨f7, (f.2 _ (by omega) (by omega)).trans h7⟩, (f.2 _ (by omega) (by omega)).trans h8, (f.2 _ (by omega) (by omega)).trans h9, h10, h11, h12⟩
set_option maxRecDepth 100000 in
set_option maxHeartbeats 4000000 in
theorem ct_Mo_searchBy (l : Launch) (Z : gw_Z) (b0 : Nat) (σ : gw_S) (m : Nat) (A : ab_A) (hA : ab_ok A) {th rs be se kp kw : Int32} {bs s2 : Int64} {fm fb fl : Nat → Int32} (hM : mw_at σ Z m A th rs be se kp kw bs s2 fm fb fl) (hO : mw_ok A kp kw fm fb fl) (j : Nat) (hj : j ≤ 8) (ws : List px_W) (hso : se_ok ws) (hsl : ws.length ≤ 6) (hne : ws ≠ []) (hmb : mm_b fm fb j ws) (q : Nat) (hq : q < 2) (hB : dc_B (ab_w A q)) : gw_M l ny_Mo_searchBy nc_Mo_searchBy (3, 3, 77, 0, 0) none Z b0 σ [.ref m, .int (nI j), .int (nI q)] (fun v σ' => v = none ∧ mw_at σ' Z m A th rs (nI (ab_best (ab_w A q) ws 0).2) (nI (ab_best (ab_w A q) ws 1).2) kp kw (iL (ab_best (ab_w A q) ws 0).1) (iL (ab_best (ab_w A q) ws 1).1) fm fb fl ∧ gw_f2 σ σ' m (m + 1) (m + 10) (m + 13)) := by
  refine gw_M_of rfl (Nat.le_of_ble_eq_true rfl) ?_
  intro X hX hl hz hb0 hr hnm hQ
  subst hz hb0 hl
  have hX : gw_ok X nc_Mo_searchBy "LabelLearnerModel" (3, 3, 77, 0, 0) := hX
  show gw_W X σ 0 0 0 [(0, .ref m), (1, .int (nI j)), (2, .int (nI q))] []
  obtain ⟨h0, h1, h2, h3, h4, ⟨f5, h5⟩, ⟨f6, h6⟩, ⟨f7, h7⟩, h8, h9, ⟨f10, h10⟩, ⟨f11, h11⟩, ⟨f12, h12, hz12⟩⟩ := id hM
  have hl8 := hA.2.2.1
  have hsp6 := hA.2.2.2.2.1.2
  refine gw_iload_n hX nd_Mo_searchBy_0 rfl 2 rfl ?_
  refine gw_if_eq (tgt := 16) hX nd_Mo_searchBy_1 rfl (fun hb => ?_) (fun hb => ?_)
  · have hb : q = 0 := (nI_eq (a := q) (b := 0) (by omega) (by omega)).mp hb
    have hw : ab_w A q = A.wt := by unfold ab_w; rw [if_pos hb]
    rw [hw] at hB
    refine gw_aload_n hX nd_Mo_searchBy_16 rfl 0 rfl ?_
    refine gw_iload_n hX nd_Mo_searchBy_17 rfl 1 rfl ?_
    refine gw_aload_n hX nd_Mo_searchBy_18 rfl 0 rfl ?_
    refine gw_get hX kf_Mo_31 nd_Mo_searchBy_19 h0 rfl ?_
    refine gw_callV (rest := []) hX ks_Mo_136 (ct_Mo_search _ _ _ σ m (m + 8) (by omega) (by omega) fm fb j hj ws hso hsl hne hmb A.wt hB h0 h2 h3 h8 f10 h10 f11 h11 f12 h12 hz12) h0 rfl rfl (Nat.le_of_ble_eq_true rfl) nd_Mo_searchBy_22 (by decide) ?_
    rintro _ σ1 ⟨rfl, h0, h10, h11, h12, hf9⟩
    have hM1 := mw_srch hM h0 h10 h11 h12 hf9
    show gw_W X σ1 0 0 25 [(0, .ref m), (1, .int (nI j)), (2, .int (nI q))] []
    exact gw_vret hX hQ hr nd_Mo_searchBy_25 (by decide) (by decide) ⟨rfl, by rw [hw]; exact hM1, hf9⟩
  · have hb : ¬ q = 0 := fun h => hb ((nI_eq (a := q) (b := 0) (by omega) (by omega)).mpr h)
    have hw : ab_w A q = A.tt := by unfold ab_w; rw [if_neg hb]
    rw [hw] at hB
    refine gw_aload_n hX nd_Mo_searchBy_4 rfl 0 rfl ?_
    refine gw_iload_n hX nd_Mo_searchBy_5 rfl 1 rfl ?_
    refine gw_aload_n hX nd_Mo_searchBy_6 rfl 0 rfl ?_
    refine gw_get hX kf_Mo_35 nd_Mo_searchBy_7 h0 rfl ?_
    refine gw_callV (rest := []) hX ks_Mo_136 (ct_Mo_search _ _ _ σ m (m + 9) (by omega) (by omega) fm fb j hj ws hso hsl hne hmb A.tt hB h0 h2 h3 h9 f10 h10 f11 h11 f12 h12 hz12) h0 rfl rfl (Nat.le_of_ble_eq_true rfl) nd_Mo_searchBy_10 (by decide) ?_
    rintro _ σ2 ⟨rfl, h0, h10, h11, h12, hf9⟩
    have hM1 := mw_srch hM h0 h10 h11 h12 hf9
    show gw_W X σ2 0 0 13 [(0, .ref m), (1, .int (nI j)), (2, .int (nI q))] []
    refine gw_goto (tgt := 25) hX nd_Mo_searchBy_13 rfl ?_
    exact gw_vret hX hQ hr nd_Mo_searchBy_25 (by decide) (by decide) ⟨rfl, by rw [hw]; exact hM1, hf9⟩
