set_option maxRecDepth 100000 in
set_option maxHeartbeats 4000000 in
theorem ct_LL_labelIn (l : Launch) (Z : gw_Z) (b0 : Nat) (σ : gw_S) (x : Int32) (w : Nat) (hw : w < 6) : gw_M l ny_LL_labelIn nc_LL_labelIn (2, 0, 0, 0, 0) (some .int) Z b0 σ [.int x, .int (nI w)] (fun v σ' => v = some (.int (nI (lb_at x w))) ∧ σ' = σ) := by
  refine gw_M_of rfl (Nat.le_of_ble_eq_true rfl) ?_
  intro X hX hl hz hb0 hr hnm hQ
  subst hz hb0 hl
  have hX : gw_ok X nc_LL_labelIn "LabelLearner" (2, 0, 0, 0, 0) := hX
  show gw_W X σ 0 0 0 [(0, .int x), (1, .int (nI w))] []
  refine gw_iload_n hX nd_LL_labelIn_0 rfl 0 rfl ?_
  refine gw_iconst (v := nI 2) hX nd_LL_labelIn_1 rfl ?_
  refine gw_iload_n hX nd_LL_labelIn_2 rfl 1 rfl ?_
  refine gw_imul hX nd_LL_labelIn_3 ?_
  refine gw_topi (y := nI (2 * w)) (pk_mul _ _) ?_
  refine gw_iushr hX nd_LL_labelIn_4 ?_
  refine gw_iconst (v := nI 3) hX nd_LL_labelIn_5 rfl ?_
  refine gw_iand hX nd_LL_labelIn_6 ?_
  refine gw_topi (y := nI (lb_at x w)) (lb_u x (by omega)) ?_
  exact gw_iret hX hQ hr nd_LL_labelIn_7 (by decide) (by decide) ⟨rfl, rfl⟩
set_option maxRecDepth 100000 in
set_option maxHeartbeats 4000000 in
theorem lp_LL_differences {X : gw_C} {σ : gw_S} (N : Nat) (x y : Int32) (hN : N ≤ 6) (hX : gw_ok X nc_LL_differences "LabelLearner" (5, 1, 21, 0, 0)) (hQ : X.2.2.2.2 = gw_end X (fun v σ' => v = some (.int (nI (df_n x y N))) ∧ σ' = σ) 0 0) (hr : X.2.2.1.1.sig.returnType = (some .int)) : ∀ (m : Nat) (w : Nat), w + m = N → gw_W X σ 0 0 5 [(4, .int (nI w)), (3, .int (nI (df_n x y w))), (0, .int (nI N)), (1, .int x), (2, .int y)] [] := by
  intro m
  induction m using Nat.strongRecOn with
  | ind m ih =>
    intro w
    intro hm
    have hl1 := lb_lt x w
    have hl2 := lb_lt y w
    refine gw_iload hX nd_LL_differences_5 0 rfl ?_
    refine gw_iload_n hX nd_LL_differences_7 rfl 2 rfl ?_
    refine gw_icmp_ge (tgt := 35) hX nd_LL_differences_8 rfl (fun hb => ?_) (fun hb => ?_)
    · have hb : N ≤ w := (nI_leI (a := N) (b := w) (by omega) (by omega)).mp hb
      refine gw_iload_n hX nd_LL_differences_35 rfl 1 rfl ?_
      exact gw_iret hX hQ hr nd_LL_differences_36 (by decide) (by decide) ⟨by rw [show w = N by omega], rfl⟩
    · have hb : ¬ N ≤ w := fun h => hb ((nI_leI (a := N) (b := w) (by omega) (by omega)).mpr h)
      refine gw_iload_n hX nd_LL_differences_11 rfl 3 rfl ?_
      refine gw_iload hX nd_LL_differences_12 0 rfl ?_
      refine gw_callS (rest := []) hX ks_LL_111 (ct_LL_labelIn X.1.2.1 (gw_z X) (gw_b X) σ x w (by omega)) rfl rfl (Nat.le_of_ble_eq_true rfl) nd_LL_differences_14 (by decide) ?_
      rintro v_ s_ ⟨hv_, hs_⟩
      have hs_ := hs_.symm
      subst hs_ hv_
      show gw_W X σ 0 0 17 [(4, .int (nI w)), (3, .int (nI (df_n x y w))), (0, .int (nI N)), (1, .int x), (2, .int y)] [.int (nI (lb_at x w))]
      refine gw_iload_n hX nd_LL_differences_17 rfl 4 rfl ?_
      refine gw_iload hX nd_LL_differences_18 0 rfl ?_
      refine gw_callS (rest := [.int (nI (lb_at x w))]) hX ks_LL_111 (ct_LL_labelIn X.1.2.1 (gw_z X) (gw_b X) σ y w (by omega)) rfl rfl (Nat.le_of_ble_eq_true rfl) nd_LL_differences_20 (by decide) ?_
      rintro v_ s_ ⟨hv_, hs_⟩
      have hs_ := hs_.symm
      subst hs_ hv_
      show gw_W X σ 0 0 23 [(4, .int (nI w)), (3, .int (nI (df_n x y w))), (0, .int (nI N)), (1, .int x), (2, .int y)] [.int (nI (lb_at y w)), .int (nI (lb_at x w))]
      refine gw_icmp_eq (tgt := 29) hX nd_LL_differences_23 rfl (fun hb => ?_) (fun hb => ?_)
      · have hb : lb_at x w = lb_at y w := (nI_eq (a := lb_at x w) (b := lb_at y w) (by omega) (by omega)).mp hb
        have hd : df_n x y (w + 1) = df_n x y w := by simp [df_n, hb]
        rw [← hd]
        refine gw_iinc hX nd_LL_differences_29 0 rfl (v := nI (w + 1)) (show nI w + nI 1 = nI (w + 1) from nI_add _ _) (by decide) (L' := [(4, .int (nI (w + 1))), (3, .int (nI (df_n x y (w + 1)))), (0, .int (nI N)), (1, .int x), (2, .int y)]) rfl ?_
        refine gw_goto (tgt := 5) hX nd_LL_differences_32 rfl ?_
        exact ih (m - 1) (by omega) (w + 1) (by omega)
      · have hb : ¬ lb_at x w = lb_at y w := fun h => hb ((nI_eq (a := lb_at x w) (b := lb_at y w) (by omega) (by omega)).mpr h)
        refine gw_iinc hX nd_LL_differences_26 1 rfl (v := nI (df_n x y (w + 1))) (show nI (df_n x y w) + nI 1 = nI (df_n x y (w + 1)) by rw [nI_add]; simp [df_n, hb]) (by decide) (L' := [(3, .int (nI (df_n x y (w + 1)))), (4, .int (nI w)), (0, .int (nI N)), (1, .int x), (2, .int y)]) rfl ?_
        refine gw_iinc hX nd_LL_differences_29 1 rfl (v := nI (w + 1)) (show nI w + nI 1 = nI (w + 1) from nI_add _ _) (by decide) (L' := [(4, .int (nI (w + 1))), (3, .int (nI (df_n x y (w + 1)))), (0, .int (nI N)), (1, .int x), (2, .int y)]) rfl ?_
        refine gw_goto (tgt := 5) hX nd_LL_differences_32 rfl ?_
        exact ih (m - 1) (by omega) (w + 1) (by omega)
set_option maxRecDepth 100000 in
set_option maxHeartbeats 4000000 in
theorem ct_LL_differences (l : Launch) (Z : gw_Z) (b0 : Nat) (σ : gw_S) (N : Nat) (x y : Int32) (hN : N ≤ 6) : gw_M l ny_LL_differences nc_LL_differences (5, 1, 21, 0, 0) (some .int) Z b0 σ [.int (nI N), .int x, .int y] (fun v σ' => v = some (.int (nI (df_n x y N))) ∧ σ' = σ) := by
  refine gw_M_of rfl (Nat.le_of_ble_eq_true rfl) ?_
  intro X hX hl hz hb0 hr hnm hQ
  subst hz hb0 hl
  have hX : gw_ok X nc_LL_differences "LabelLearner" (5, 1, 21, 0, 0) := hX
  show gw_W X σ 0 0 0 [(0, .int (nI N)), (1, .int x), (2, .int y)] []
  refine gw_iconst (v := nI 0) hX nd_LL_differences_0 rfl ?_
  refine gw_istore_n hX nd_LL_differences_1 rfl (by decide) (L' := [(3, .int (nI 0)), (0, .int (nI N)), (1, .int x), (2, .int y)]) rfl ?_
  refine gw_iconst (v := nI 0) hX nd_LL_differences_2 rfl ?_
  refine gw_istore hX nd_LL_differences_3 (by decide) (L' := [(4, .int (nI 0)), (3, .int (nI 0)), (0, .int (nI N)), (1, .int x), (2, .int y)]) rfl ?_
  exact lp_LL_differences N x y hN hX hQ hr N 0 (by omega)
set_option maxRecDepth 100000 in
set_option maxHeartbeats 4000000 in
theorem lp_We_clear {X : gw_C} (a : Nat) (σ0 : gw_S) (hX : gw_ok X nc_We_clear "LabelLearner$Weights" (2, 0, 0, 0, 0)) (hQ : X.2.2.2.2 = gw_end X (fun v σ' => v = none ∧ σ'.2 a = some (.inr (7, [.ref (a + 1)])) ∧ σ'.2 (a + 1) = some (gw_J (gw_z X) 148 (fun _ => iL 0)) ∧ gw_fr σ0 σ' a (a + 2)) 0 0) (hr : X.2.2.1.1.sig.returnType = none) : ∀ (m : Nat) (k : Nat) (σ : gw_S) (f : Nat → Int64), k + m = 148 → (∀ j, j < k → f j = iL 0) → σ.2 a = some (.inr (7, [.ref (a + 1)])) → σ.2 (a + 1) = some (gw_J (gw_z X) 148 f) → gw_fr σ0 σ a (a + 2) → gw_W X σ 0 0 2 [(1, .int (nI k)), (0, .ref a)] [] := by
  intro m
  induction m using Nat.strongRecOn with
  | ind m ih =>
    intro k σ f
    intro hm hz h0 h1 fr
    refine gw_iload_n hX nd_We_clear_2 rfl 0 rfl ?_
    refine gw_aload_n hX nd_We_clear_3 rfl 1 rfl ?_
    refine gw_get hX kf_We_9 nd_We_clear_4 h0 rfl ?_
    refine gw_alen hX nd_We_clear_7 (t := 1) h1 rfl (v := nI 148) rfl ?_
    refine gw_icmp_ge (tgt := 24) hX nd_We_clear_8 rfl (fun hb => ?_) (fun hb => ?_)
    · have hb : 148 ≤ k := (nI_leI (a := 148) (b := k) (by omega) (by omega)).mp hb
      refine gw_extJ h1 (g := fun _ => iL 0) (fun j hj => hz j (by omega)) ?_
      obtain ⟨σ1, eσ1⟩ : ∃ hp_, hp_ = gw_up σ (a + 1) ((gw_J (gw_z X) 148 (fun _ => iL 0))) := ⟨_, rfl⟩
      refine gw_heap eσ1.symm ?_
      have h0 : σ1.2 a = some (.inr (7, [.ref (a + 1)])) := by rw [eσ1, gw_up_ne (by omega)]; exact h0
      have h1 : σ1.2 (a + 1) = some ((gw_J (gw_z X) 148 (fun _ => iL 0))) := by rw [eσ1]; exact gw_up_eq _ _ _
      have fr : gw_fr σ0 σ1 a (a + 2) := gw_fr_tr fr (show gw_fr _ σ1 a (a + 2) by rw [eσ1]; exact gw_fr_up _ _ _ (by omega) (by omega))
      exact gw_vret hX hQ hr nd_We_clear_24 (by decide) (by decide) ⟨rfl, h0, h1, fr⟩
    · have hb : ¬ 148 ≤ k := fun h => hb ((nI_leI (a := 148) (b := k) (by omega) (by omega)).mpr h)
      refine gw_aload_n hX nd_We_clear_11 rfl 1 rfl ?_
      refine gw_get hX kf_We_9 nd_We_clear_12 h0 rfl ?_
      refine gw_iload_n hX nd_We_clear_15 rfl 0 rfl ?_
      refine gw_lconst (v := 0) hX nd_We_clear_16 rfl ?_
      refine gw_last hX nd_We_clear_17 h1 k rfl (by omega) (by decide) ?_
      obtain ⟨σ2, eσ2⟩ : ∃ hp_, hp_ = gw_up σ (a + 1) ((gw_J (gw_z X) 148 (vp_updL f k 0))) := ⟨_, rfl⟩
      refine gw_heap eσ2.symm ?_
      have h0 : σ2.2 a = some (.inr (7, [.ref (a + 1)])) := by rw [eσ2, gw_up_ne (by omega)]; exact h0
      have h1 : σ2.2 (a + 1) = some ((gw_J (gw_z X) 148 (vp_updL f k 0))) := by rw [eσ2]; exact gw_up_eq _ _ _
      have fr : gw_fr σ0 σ2 a (a + 2) := gw_fr_tr fr (show gw_fr _ σ2 a (a + 2) by rw [eσ2]; exact gw_fr_up _ _ _ (by omega) (by omega))
      refine gw_iinc hX nd_We_clear_18 0 rfl (v := nI (k + 1)) (show nI k + nI 1 = nI (k + 1) from nI_add _ _) (by decide) (L' := [(1, .int (nI (k + 1))), (0, .ref a)]) rfl ?_
      refine gw_goto (tgt := 2) hX nd_We_clear_21 rfl ?_
      refine ih (m - 1) (by omega) (k + 1) σ2 _ (by omega) ?_ h0 h1 fr
      intro j hj
      by_cases e : j = k
      · rw [e]; exact pk_uLs
      · rw [pk_uLn e]; exact hz j (by omega)
set_option maxRecDepth 100000 in
set_option maxHeartbeats 4000000 in
theorem ct_We_clear (l : Launch) (Z : gw_Z) (b0 : Nat) (σ : gw_S) (a : Nat) (f : Nat → Int64) (h0 : σ.2 a = some (.inr (7, [.ref (a + 1)]))) (h1 : σ.2 (a + 1) = some (gw_J Z 148 f)) : gw_M l ny_We_clear nc_We_clear (2, 0, 0, 0, 0) none Z b0 σ [.ref a] (fun v σ' => v = none ∧ σ'.2 a = some (.inr (7, [.ref (a + 1)])) ∧ σ'.2 (a + 1) = some (gw_J Z 148 (fun _ => iL 0)) ∧ gw_fr σ σ' a (a + 2)) := by
  refine gw_M_of rfl (Nat.le_of_ble_eq_true rfl) ?_
  intro X hX hl hz hb0 hr hnm hQ
  subst hz hb0 hl
  have hX : gw_ok X nc_We_clear "LabelLearner$Weights" (2, 0, 0, 0, 0) := hX
  show gw_W X σ 0 0 0 [(0, .ref a)] []
  refine gw_iconst (v := nI 0) hX nd_We_clear_0 rfl ?_
  refine gw_istore_n hX nd_We_clear_1 rfl (by decide) (L' := [(1, .int (nI 0)), (0, .ref a)]) rfl ?_
  exact lp_We_clear a σ hX hQ hr 148 0 σ f (by omega) (fun j hj => absurd hj (by omega)) h0 h1 (gw_fr_rf _ _ _)
set_option maxRecDepth 100000 in
set_option maxHeartbeats 4000000 in
theorem lp_We_addAll {X : gw_C} (a b : Nat) (σ0 : gw_S) (wt tt : Nat → Int) (hab : a + 2 ≤ b ∨ b + 2 ≤ a) (hX : gw_ok X nc_We_addAll "LabelLearner$Weights" (3, 0, 0, 0, 0)) (hQ : X.2.2.2.2 = gw_end X (fun v σ' => v = none ∧ σ'.2 a = some (.inr (7, [.ref (a + 1)])) ∧ σ'.2 (a + 1) = some (gw_J (gw_z X) 148 (fun j => iL (tt j + wt j))) ∧ gw_fr σ0 σ' a (a + 2)) 0 0) (hr : X.2.2.1.1.sig.returnType = none) : ∀ (m : Nat) (k : Nat) (σ : gw_S) (f : Nat → Int64), k + m = 148 → (∀ j, j < k → f j = iL (tt j + wt j)) → (∀ j, k ≤ j → f j = iL (tt j)) → σ.2 a = some (.inr (7, [.ref (a + 1)])) → σ.2 (a + 1) = some (gw_J (gw_z X) 148 f) → σ.2 b = some (.inr (7, [.ref (b + 1)])) → σ.2 (b + 1) = some (gw_J (gw_z X) 148 (fun j => iL (wt j))) → gw_fr σ0 σ a (a + 2) → gw_W X σ 0 0 2 [(2, .int (nI k)), (0, .ref a), (1, .ref b)] [] := by
  intro m
  induction m using Nat.strongRecOn with
  | ind m ih =>
    intro k σ f
    intro hm hz hy h0 h1 g0 g1 fr
    refine gw_iload_n hX nd_We_addAll_2 rfl 0 rfl ?_
    refine gw_aload_n hX nd_We_addAll_3 rfl 1 rfl ?_
    refine gw_get hX kf_We_9 nd_We_addAll_4 h0 rfl ?_
    refine gw_alen hX nd_We_addAll_7 (t := 1) h1 rfl (v := nI 148) rfl ?_
    refine gw_icmp_ge (tgt := 32) hX nd_We_addAll_8 rfl (fun hb => ?_) (fun hb => ?_)
    · have hb : 148 ≤ k := (nI_leI (a := 148) (b := k) (by omega) (by omega)).mp hb
      refine gw_extJ h1 (g := fun j => iL (tt j + wt j)) (fun j hj => hz j (by omega)) ?_
      obtain ⟨σ1, eσ1⟩ : ∃ hp_, hp_ = gw_up σ (a + 1) ((gw_J (gw_z X) 148 (fun j => iL (tt j + wt j)))) := ⟨_, rfl⟩
      refine gw_heap eσ1.symm ?_
      have h0 : σ1.2 a = some (.inr (7, [.ref (a + 1)])) := by rw [eσ1, gw_up_ne (by omega)]; exact h0
      have h1 : σ1.2 (a + 1) = some ((gw_J (gw_z X) 148 (fun j => iL (tt j + wt j)))) := by rw [eσ1]; exact gw_up_eq _ _ _
      have g0 : σ1.2 b = some (.inr (7, [.ref (b + 1)])) := by rw [eσ1, gw_up_ne (by omega)]; exact g0
      have g1 : σ1.2 (b + 1) = some ((gw_J (gw_z X) 148 (fun j => iL (wt j)))) := by rw [eσ1, gw_up_ne (by omega)]; exact g1
      have fr : gw_fr σ0 σ1 a (a + 2) := gw_fr_tr fr (show gw_fr _ σ1 a (a + 2) by rw [eσ1]; exact gw_fr_up _ _ _ (by omega) (by omega))
      exact gw_vret hX hQ hr nd_We_addAll_32 (by decide) (by decide) ⟨rfl, h0, h1, fr⟩
    · have hb : ¬ 148 ≤ k := fun h => hb ((nI_leI (a := 148) (b := k) (by omega) (by omega)).mpr h)
      refine gw_aload_n hX nd_We_addAll_11 rfl 1 rfl ?_
      refine gw_get hX kf_We_9 nd_We_addAll_12 h0 rfl ?_
      refine gw_iload_n hX nd_We_addAll_15 rfl 0 rfl ?_
      refine gw_dup2_11 hX nd_We_addAll_16 rfl rfl ?_
      refine gw_lald hX nd_We_addAll_17 h1 k rfl (by omega) (by decide) ?_
      refine gw_topl (y := iL (tt k)) (hy k (Nat.le_refl _)) ?_
      refine gw_aload_n hX nd_We_addAll_18 rfl 2 rfl ?_
      refine gw_get hX kf_We_9 nd_We_addAll_19 g0 rfl ?_
      refine gw_iload_n hX nd_We_addAll_22 rfl 0 rfl ?_
      refine gw_lald hX nd_We_addAll_23 g1 k rfl (by omega) (by decide) ?_
      refine gw_topl (y := iL (wt k)) rfl ?_
      refine gw_ladd hX nd_We_addAll_24 ?_
      refine gw_topl (y := iL (tt k + wt k)) (iL_add _ _) ?_
      refine gw_last hX nd_We_addAll_25 h1 k rfl (by omega) (by decide) ?_
      obtain ⟨σ2, eσ2⟩ : ∃ hp_, hp_ = gw_up σ (a + 1) ((gw_J (gw_z X) 148 (vp_updL f k (iL (tt k + wt k))))) := ⟨_, rfl⟩
      refine gw_heap eσ2.symm ?_
      have h0 : σ2.2 a = some (.inr (7, [.ref (a + 1)])) := by rw [eσ2, gw_up_ne (by omega)]; exact h0
      have h1 : σ2.2 (a + 1) = some ((gw_J (gw_z X) 148 (vp_updL f k (iL (tt k + wt k))))) := by rw [eσ2]; exact gw_up_eq _ _ _
      have g0 : σ2.2 b = some (.inr (7, [.ref (b + 1)])) := by rw [eσ2, gw_up_ne (by omega)]; exact g0
      have g1 : σ2.2 (b + 1) = some ((gw_J (gw_z X) 148 (fun j => iL (wt j)))) := by rw [eσ2, gw_up_ne (by omega)]; exact g1
      have fr : gw_fr σ0 σ2 a (a + 2) := gw_fr_tr fr (show gw_fr _ σ2 a (a + 2) by rw [eσ2]; exact gw_fr_up _ _ _ (by omega) (by omega))
      refine gw_iinc hX nd_We_addAll_26 0 rfl (v := nI (k + 1)) (show nI k + nI 1 = nI (k + 1) from nI_add _ _) (by decide) (L' := [(2, .int (nI (k + 1))), (0, .ref a), (1, .ref b)]) rfl ?_
      refine gw_goto (tgt := 2) hX nd_We_addAll_29 rfl ?_
      refine ih (m - 1) (by omega) (k + 1) σ2 _ (by omega) ?_ ?_ h0 h1 g0 g1 fr
      · intro j hj
        by_cases e : j = k
        · rw [e]; exact pk_uLs
        · rw [pk_uLn e]; exact hz j (by omega)
      · intro j hj
        rw [pk_uLn (by omega)]; exact hy j (by omega)
set_option maxRecDepth 100000 in
set_option maxHeartbeats 4000000 in
theorem ct_We_addAll (l : Launch) (Z : gw_Z) (b0 : Nat) (σ : gw_S) (a b : Nat) (wt tt : Nat → Int) (hab : a + 2 ≤ b ∨ b + 2 ≤ a) (h0 : σ.2 a = some (.inr (7, [.ref (a + 1)]))) (h1 : σ.2 (a + 1) = some (gw_J Z 148 (fun j => iL (tt j)))) (g0 : σ.2 b = some (.inr (7, [.ref (b + 1)]))) (g1 : σ.2 (b + 1) = some (gw_J Z 148 (fun j => iL (wt j)))) : gw_M l ny_We_addAll nc_We_addAll (3, 0, 0, 0, 0) none Z b0 σ [.ref a, .ref b] (fun v σ' => v = none ∧ σ'.2 a = some (.inr (7, [.ref (a + 1)])) ∧ σ'.2 (a + 1) = some (gw_J Z 148 (fun j => iL (tt j + wt j))) ∧ gw_fr σ σ' a (a + 2)) := by
  refine gw_M_of rfl (Nat.le_of_ble_eq_true rfl) ?_
  intro X hX hl hz hb0 hr hnm hQ
  subst hz hb0 hl
  have hX : gw_ok X nc_We_addAll "LabelLearner$Weights" (3, 0, 0, 0, 0) := hX
  show gw_W X σ 0 0 0 [(0, .ref a), (1, .ref b)] []
  refine gw_iconst (v := nI 0) hX nd_We_addAll_0 rfl ?_
  refine gw_istore_n hX nd_We_addAll_1 rfl (by decide) (L' := [(2, .int (nI 0)), (0, .ref a), (1, .ref b)]) rfl ?_
  exact lp_We_addAll a b σ wt tt hab hX hQ hr 148 0 σ _ (by omega) (fun j hj => absurd hj (by omega)) (fun j _ => rfl) h0 h1 g0 g1 (gw_fr_rf _ _ _)
set_option maxRecDepth 100000 in
set_option maxHeartbeats 4000000 in
theorem lp_We_ofWord {X : gw_C} {σ : gw_S} (a s : Nat) (wt : Nat → Int) (b : Nat → Int32) (B : Nat → Nat) (lab sz : Int32) (w lb : Nat) (hB : ∀ k, k < 3 → b (w * 3 + k) = nI (B k) ∧ B k < 37) (hw : w < 6) (hlb : lb < 4) (h0 : σ.2 a = some (.inr (7, [.ref (a + 1)]))) (h1 : σ.2 (a + 1) = some (gw_J (gw_z X) 148 (fun j => iL (wt j)))) (g0 : σ.2 s = some (.inr (5, [.ref (s + 1), .int lab, .int sz]))) (g1 : σ.2 (s + 1) = some (gw_I (gw_z X) 18 b)) (hX : gw_ok X nc_We_ofWord "LabelLearner$Weights" (7, 1, 22, 0, 0)) (hQ : X.2.2.2.2 = gw_end X (fun v σ' => v = some (.long (iL (wd_S wt B lb 3))) ∧ σ' = σ) 0 0) (hr : X.2.2.1.1.sig.returnType = (some .long)) : ∀ (m : Nat) (k : Nat), k + m = 3 → gw_W X σ 0 0 6 [(6, .int (nI k)), (4, .long (iL (wd_S wt B lb k))), (0, .ref a), (1, .ref s), (2, .int (nI w)), (3, .int (nI lb))] [] := by
  intro m
  induction m using Nat.strongRecOn with
  | ind m ih =>
    intro k
    intro hm
    refine gw_iload hX nd_We_ofWord_6 0 rfl ?_
    refine gw_iconst (v := nI 3) hX nd_We_ofWord_8 rfl ?_
    refine gw_icmp_ge (tgt := 35) hX nd_We_ofWord_9 rfl (fun hb => ?_) (fun hb => ?_)
    · have hb : 3 ≤ k := (nI_leI (a := 3) (b := k) (by omega) (by omega)).mp hb
      refine gw_lload hX nd_We_ofWord_35 1 rfl ?_
      exact gw_lret hX hQ hr nd_We_ofWord_37 (by decide) (by decide) ⟨by rw [show k = 3 by omega], rfl⟩
    · have hb : ¬ 3 ≤ k := fun h => hb ((nI_leI (a := 3) (b := k) (by omega) (by omega)).mpr h)
      have hBk := hB k (by omega)
      refine gw_lload hX nd_We_ofWord_12 1 rfl ?_
      refine gw_aload_n hX nd_We_ofWord_14 rfl 2 rfl ?_
      refine gw_aload_n hX nd_We_ofWord_15 rfl 3 rfl ?_
      refine gw_iload_n hX nd_We_ofWord_16 rfl 4 rfl ?_
      refine gw_iload hX nd_We_ofWord_17 0 rfl ?_
      refine gw_callV (rest := [.ref a, .long (iL (wd_S wt B lb k))]) hX ks_We_15 (ct_Se_bucketOf X.1.2.1 (gw_z X) (gw_b X) σ s w k b lab sz g0 g1 (by omega)) g0 rfl rfl (Nat.le_of_ble_eq_true rfl) nd_We_ofWord_19 (by decide) ?_
      rintro v_ s_ ⟨hv_, hs_⟩
      have hs_ := hs_.symm
      subst hs_ hv_
      show gw_W X σ 0 0 22 [(6, .int (nI k)), (4, .long (iL (wd_S wt B lb k))), (0, .ref a), (1, .ref s), (2, .int (nI w)), (3, .int (nI lb))] [.int (b (w * 3 + k)), .ref a, .long (iL (wd_S wt B lb k))]
      rw [hBk.1]
      refine gw_iload_n hX nd_We_ofWord_22 rfl 5 rfl ?_
      refine gw_callV (rest := [.long (iL (wd_S wt B lb k))]) hX ks_We_21 (ct_We_at X.1.2.1 (gw_z X) (gw_b X) σ a (B k) lb (fun j => iL (wt j)) h0 h1 (by omega)) h0 rfl rfl (Nat.le_of_ble_eq_true rfl) nd_We_ofWord_23 (by decide) ?_
      rintro v_ s_ ⟨hv_, hs_⟩
      have hs_ := hs_.symm
      subst hs_ hv_
      show gw_W X σ 0 0 26 [(6, .int (nI k)), (4, .long (iL (wd_S wt B lb k))), (0, .ref a), (1, .ref s), (2, .int (nI w)), (3, .int (nI lb))] [.long (iL (wt (B k * 4 + lb))), .long (iL (wd_S wt B lb k))]
      refine gw_ladd hX nd_We_ofWord_26 ?_
      refine gw_topl (y := iL (wd_S wt B lb (k + 1))) (iL_add _ _) ?_
      refine gw_lstore hX nd_We_ofWord_27 (by decide) (L' := [(4, .long (iL (wd_S wt B lb (k + 1)))), (6, .int (nI k)), (0, .ref a), (1, .ref s), (2, .int (nI w)), (3, .int (nI lb))]) rfl ?_
      refine gw_iinc hX nd_We_ofWord_29 1 rfl (v := nI (k + 1)) (show nI k + nI 1 = nI (k + 1) from nI_add _ _) (by decide) (L' := [(6, .int (nI (k + 1))), (4, .long (iL (wd_S wt B lb (k + 1)))), (0, .ref a), (1, .ref s), (2, .int (nI w)), (3, .int (nI lb))]) rfl ?_
      refine gw_goto (tgt := 6) hX nd_We_ofWord_32 rfl ?_
      exact ih (m - 1) (by omega) (k + 1) (by omega)
set_option maxRecDepth 100000 in
set_option maxHeartbeats 4000000 in
theorem ct_We_ofWord (l : Launch) (Z : gw_Z) (b0 : Nat) (σ : gw_S) (a s : Nat) (wt : Nat → Int) (b : Nat → Int32) (B : Nat → Nat) (lab sz : Int32) (w lb : Nat) (hB : ∀ k, k < 3 → b (w * 3 + k) = nI (B k) ∧ B k < 37) (hw : w < 6) (hlb : lb < 4) (h0 : σ.2 a = some (.inr (7, [.ref (a + 1)]))) (h1 : σ.2 (a + 1) = some (gw_J Z 148 (fun j => iL (wt j)))) (g0 : σ.2 s = some (.inr (5, [.ref (s + 1), .int lab, .int sz]))) (g1 : σ.2 (s + 1) = some (gw_I Z 18 b)) : gw_M l ny_We_ofWord nc_We_ofWord (7, 1, 22, 0, 0) (some .long) Z b0 σ [.ref a, .ref s, .int (nI w), .int (nI lb)] (fun v σ' => v = some (.long (iL (wd_S wt B lb 3))) ∧ σ' = σ) := by
  refine gw_M_of rfl (Nat.le_of_ble_eq_true rfl) ?_
  intro X hX hl hz hb0 hr hnm hQ
  subst hz hb0 hl
  have hX : gw_ok X nc_We_ofWord "LabelLearner$Weights" (7, 1, 22, 0, 0) := hX
  show gw_W X σ 0 0 0 [(0, .ref a), (1, .ref s), (2, .int (nI w)), (3, .int (nI lb))] []
  refine gw_lconst (v := 0) hX nd_We_ofWord_0 rfl ?_
  refine gw_topl rfl ?_
  refine gw_lstore hX nd_We_ofWord_1 (by decide) (L' := [(4, .long (iL (wd_S wt B lb 0))), (0, .ref a), (1, .ref s), (2, .int (nI w)), (3, .int (nI lb))]) rfl ?_
  refine gw_iconst (v := nI 0) hX nd_We_ofWord_3 rfl ?_
  refine gw_istore hX nd_We_ofWord_4 (by decide) (L' := [(6, .int (nI 0)), (4, .long (iL (wd_S wt B lb 0))), (0, .ref a), (1, .ref s), (2, .int (nI w)), (3, .int (nI lb))]) rfl ?_
  exact lp_We_ofWord a s wt b B lab sz w lb hB hw hlb h0 h1 g0 g1 hX hQ hr 3 0 (by omega)
