set_option maxRecDepth 100000 in
set_option maxHeartbeats 4000000 in
theorem lp_We_sum {X : gw_C} {σ : gw_S} (a s : Nat) (wt : Nat → Int) (b : Nat → Int32) (B : Nat → Nat) (lab x : Int32) (N : Nat) (hB : ∀ j, j < N * 3 → b j = nI (B j) ∧ B j < 32) (hN : N ≤ 6) (h0 : σ.2 a = some (.inr (7, [.ref (a + 1)]))) (h1 : σ.2 (a + 1) = some (gw_J (gw_z X) 148 (fun j => iL (wt j)))) (g0 : σ.2 s = some (.inr (5, [.ref (s + 1), .int lab, .int (nI N)]))) (g1 : σ.2 (s + 1) = some (gw_I (gw_z X) 18 b)) (hX : gw_ok X nc_We_sum "LabelLearner$Weights" (8, 2, 48, 0, 0)) (hQ : X.2.2.2.2 = gw_end X (fun v σ' => v = some (.long (iL (wd_T wt B (lb_at x) N))) ∧ σ' = σ) 0 0) (hr : X.2.2.1.1.sig.returnType = (some .long)) : ∀ (m : Nat) (w : Nat), w + m = N → gw_W X σ 0 0 9 [(6, .int (nI w)), (5, .int (nI (wd_r (lb_at x) w))), (3, .long (iL (wd_T wt B (lb_at x) w))), (0, .ref a), (1, .ref s), (2, .int x)] [] := by
  intro m
  induction m using Nat.strongRecOn with
  | ind m ih =>
    intro w
    intro hm
    have hl1 := lb_lt x w
    have hl2 := wd_r_lt (lb_lt x) w
    refine gw_iload hX nd_We_sum_9 0 rfl ?_
    refine gw_aload_n hX nd_We_sum_11 rfl 4 rfl ?_
    refine gw_get hX kf_We_25 nd_We_sum_12 g0 rfl ?_
    refine gw_icmp_ge (tgt := 60) hX nd_We_sum_15 rfl (fun hb => ?_) (fun hb => ?_)
    · have hb : N ≤ w := (nI_leI (a := N) (b := w) (by omega) (by omega)).mp hb
      refine gw_lload_n hX nd_We_sum_60 rfl 2 rfl ?_
      exact gw_lret hX hQ hr nd_We_sum_61 (by decide) (by decide) ⟨by rw [show w = N by omega], rfl⟩
    · have hb : ¬ N ≤ w := fun h => hb ((nI_leI (a := N) (b := w) (by omega) (by omega)).mpr h)
      refine gw_iload_n hX nd_We_sum_18 rfl 5 rfl ?_
      refine gw_iload hX nd_We_sum_19 0 rfl ?_
      refine gw_callS (rest := []) hX ks_We_29 (ct_LL_labelIn X.1.2.1 (gw_z X) (gw_b X) σ x w (by omega)) rfl rfl (Nat.le_of_ble_eq_true rfl) nd_We_sum_21 (by decide) ?_
      rintro v_ s_ ⟨hv_, hs_⟩
      have hs_ := hs_.symm
      subst hs_ hv_
      show gw_W X σ 0 0 24 [(6, .int (nI w)), (5, .int (nI (wd_r (lb_at x) w))), (3, .long (iL (wd_T wt B (lb_at x) w))), (0, .ref a), (1, .ref s), (2, .int x)] [.int (nI (lb_at x w))]
      refine gw_istore hX nd_We_sum_24 (by decide) (L' := [(7, .int (nI (lb_at x w))), (6, .int (nI w)), (5, .int (nI (wd_r (lb_at x) w))), (3, .long (iL (wd_T wt B (lb_at x) w))), (0, .ref a), (1, .ref s), (2, .int x)]) rfl ?_
      refine gw_lload_n hX nd_We_sum_26 rfl 3 rfl ?_
      refine gw_aload_n hX nd_We_sum_27 rfl 4 rfl ?_
      refine gw_iload hX nd_We_sum_28 2 rfl ?_
      refine gw_iload hX nd_We_sum_30 0 rfl ?_
      refine gw_callV (rest := [.long (iL (wd_T wt B (lb_at x) w))]) hX ks_We_21 (ct_We_at X.1.2.1 (gw_z X) (gw_b X) σ a (wd_r (lb_at x) w) (lb_at x w) (fun j => iL (wt j)) h0 h1 (by omega)) h0 rfl rfl (Nat.le_of_ble_eq_true rfl) nd_We_sum_32 (by decide) ?_
      rintro v_ s_ ⟨hv_, hs_⟩
      have hs_ := hs_.symm
      subst hs_ hv_
      show gw_W X σ 0 0 35 [(7, .int (nI (lb_at x w))), (6, .int (nI w)), (5, .int (nI (wd_r (lb_at x) w))), (3, .long (iL (wd_T wt B (lb_at x) w))), (0, .ref a), (1, .ref s), (2, .int x)] [.long (iL (wt (wd_r (lb_at x) w * 4 + lb_at x w))), .long (iL (wd_T wt B (lb_at x) w))]
      refine gw_aload_n hX nd_We_sum_35 rfl 4 rfl ?_
      refine gw_aload_n hX nd_We_sum_36 rfl 5 rfl ?_
      refine gw_iload hX nd_We_sum_37 1 rfl ?_
      refine gw_iload hX nd_We_sum_39 0 rfl ?_
      refine gw_callV (rest := [.long (iL (wt (wd_r (lb_at x) w * 4 + lb_at x w))), .long (iL (wd_T wt B (lb_at x) w))]) hX ks_We_32 (ct_We_ofWord X.1.2.1 (gw_z X) (gw_b X) σ a s wt b (fun k => B (w * 3 + k)) lab (nI N) w (lb_at x w) (fun k hk => ⟨(hB _ (by omega)).1, Nat.lt_trans (hB _ (by omega)).2 (by decide)⟩) (by omega) hl1 h0 h1 g0 g1) h0 rfl rfl (Nat.le_of_ble_eq_true rfl) nd_We_sum_41 (by decide) ?_
      rintro v_ s_ ⟨hv_, hs_⟩
      have hs_ := hs_.symm
      subst hs_ hv_
      show gw_W X σ 0 0 44 [(7, .int (nI (lb_at x w))), (6, .int (nI w)), (5, .int (nI (wd_r (lb_at x) w))), (3, .long (iL (wd_T wt B (lb_at x) w))), (0, .ref a), (1, .ref s), (2, .int x)] [.long (iL (wd_W wt B w (lb_at x w))), .long (iL (wt (wd_r (lb_at x) w * 4 + lb_at x w))), .long (iL (wd_T wt B (lb_at x) w))]
      refine gw_ladd hX nd_We_sum_44 ?_
      refine gw_topl (y := iL (wt (wd_r (lb_at x) w * 4 + lb_at x w) + wd_W wt B w (lb_at x w))) (iL_add _ _) ?_
      refine gw_ladd hX nd_We_sum_45 ?_
      refine gw_topl (y := iL (wd_T wt B (lb_at x) (w + 1))) (iL_add _ _) ?_
      refine gw_lstore_n hX nd_We_sum_46 rfl (by decide) (L' := [(3, .long (iL (wd_T wt B (lb_at x) (w + 1)))), (7, .int (nI (lb_at x w))), (6, .int (nI w)), (5, .int (nI (wd_r (lb_at x) w))), (0, .ref a), (1, .ref s), (2, .int x)]) rfl ?_
      refine gw_bipush (v := nI 33) hX nd_We_sum_47 rfl ?_
      refine gw_iload hX nd_We_sum_49 1 rfl ?_
      refine gw_iadd hX nd_We_sum_51 ?_
      refine gw_topi (y := nI (33 + (lb_at x w))) (nI_add _ _) ?_
      refine gw_istore hX nd_We_sum_52 (by decide) (L' := [(5, .int (nI (33 + (lb_at x w)))), (3, .long (iL (wd_T wt B (lb_at x) (w + 1)))), (7, .int (nI (lb_at x w))), (6, .int (nI w)), (0, .ref a), (1, .ref s), (2, .int x)]) rfl ?_
      refine gw_iinc hX nd_We_sum_54 3 rfl (v := nI (w + 1)) (show nI w + nI 1 = nI (w + 1) from nI_add _ _) (by decide) (L' := [(6, .int (nI (w + 1))), (5, .int (nI (33 + (lb_at x w)))), (3, .long (iL (wd_T wt B (lb_at x) (w + 1)))), (7, .int (nI (lb_at x w))), (0, .ref a), (1, .ref s), (2, .int x)]) rfl ?_
      refine gw_goto (tgt := 9) hX nd_We_sum_57 rfl ?_
      refine gw_cut (ks := [0, 1, 2, 4, 5, 6]) (L' := [(6, .int (nI (w + 1))), (5, .int (nI (33 + (lb_at x w)))), (3, .long (iL (wd_T wt B (lb_at x) (w + 1)))), (0, .ref a), (1, .ref s), (2, .int x)]) rfl ?_
      rw [← wd_r_s]
      exact ih (m - 1) (by omega) (w + 1) (by omega)
set_option maxRecDepth 100000 in
set_option maxHeartbeats 4000000 in
theorem ct_We_sum (l : Launch) (Z : gw_Z) (b0 : Nat) (σ : gw_S) (a s : Nat) (wt : Nat → Int) (b : Nat → Int32) (B : Nat → Nat) (lab x : Int32) (N : Nat) (hB : ∀ j, j < N * 3 → b j = nI (B j) ∧ B j < 32) (hN : N ≤ 6) (h0 : σ.2 a = some (.inr (7, [.ref (a + 1)]))) (h1 : σ.2 (a + 1) = some (gw_J Z 148 (fun j => iL (wt j)))) (g0 : σ.2 s = some (.inr (5, [.ref (s + 1), .int lab, .int (nI N)]))) (g1 : σ.2 (s + 1) = some (gw_I Z 18 b)) : gw_M l ny_We_sum nc_We_sum (8, 2, 48, 0, 0) (some .long) Z b0 σ [.ref a, .ref s, .int x] (fun v σ' => v = some (.long (iL (wd_T wt B (lb_at x) N))) ∧ σ' = σ) := by
  refine gw_M_of rfl (Nat.le_of_ble_eq_true rfl) ?_
  intro X hX hl hz hb0 hr hnm hQ
  subst hz hb0 hl
  have hX : gw_ok X nc_We_sum "LabelLearner$Weights" (8, 2, 48, 0, 0) := hX
  show gw_W X σ 0 0 0 [(0, .ref a), (1, .ref s), (2, .int x)] []
  refine gw_lconst (v := 0) hX nd_We_sum_0 rfl ?_
  refine gw_topl rfl ?_
  refine gw_lstore_n hX nd_We_sum_1 rfl (by decide) (L' := [(3, .long (iL (wd_T wt B (lb_at x) 0))), (0, .ref a), (1, .ref s), (2, .int x)]) rfl ?_
  
  refine gw_bipush (v := nI 32) hX nd_We_sum_2 rfl ?_
  refine gw_istore hX nd_We_sum_4 (by decide) (L' := [(5, .int (nI 32)), (3, .long (iL (wd_T wt B (lb_at x) 0))), (0, .ref a), (1, .ref s), (2, .int x)]) rfl ?_
  refine gw_iconst (v := nI 0) hX nd_We_sum_6 rfl ?_
  refine gw_istore hX nd_We_sum_7 (by decide) (L' := [(6, .int (nI 0)), (5, .int (nI 32)), (3, .long (iL (wd_T wt B (lb_at x) 0))), (0, .ref a), (1, .ref s), (2, .int x)]) rfl ?_
  exact lp_We_sum a s wt b B lab x N hB hN h0 h1 g0 g1 hX hQ hr N 0 (by omega)
set_option maxRecDepth 100000 in
set_option maxHeartbeats 4000000 in
theorem lp_We_change2 {X : gw_C} (a s : Nat) (σ0 : gw_S) (wt : Nat → Int) (c : Int) (b : Nat → Int32) (B : Nat → Nat) (lab x : Int32) (N : Nat) (hB : ∀ j, j < N * 3 → b j = nI (B j) ∧ B j < 32) (hN : N ≤ 6) (has : a + 2 ≤ s ∨ s + 2 ≤ a) (w : Nat) (hw : w < N) (kk : ∀ σ : gw_S, σ.2 a = some (.inr (7, [.ref (a + 1)])) → σ.2 (a + 1) = some (gw_J (gw_z X) 148 (fun j => iL (ct_ad wt c (ct_P (fun w k => B (w * 3 + k)) (lb_at x) w 3) j))) → σ.2 s = some (.inr (5, [.ref (s + 1), .int lab, .int (nI N)])) → σ.2 (s + 1) = some (gw_I (gw_z X) 18 b) → gw_fr σ0 σ a (a + 2) → gw_W X σ 0 0 63 [(7, .int (nI (lb_at x w))), (6, .int (nI w)), (5, .int (nI (wd_r (lb_at x) w))), (0, .ref a), (1, .ref s), (2, .int x), (3, .long (iL c))] []) (hX : gw_ok X nc_We_change "LabelLearner$Weights" (9, 1, 24, 0, 0))  : ∀ (m : Nat) (k : Nat) (σ : gw_S), k + m = 3 → σ.2 a = some (.inr (7, [.ref (a + 1)])) → σ.2 (a + 1) = some (gw_J (gw_z X) 148 (fun j => iL (ct_ad wt c (ct_P (fun w k => B (w * 3 + k)) (lb_at x) w k) j))) → σ.2 s = some (.inr (5, [.ref (s + 1), .int lab, .int (nI N)])) → σ.2 (s + 1) = some (gw_I (gw_z X) 18 b) → gw_fr σ0 σ a (a + 2) → gw_W X σ 0 0 36 [(8, .int (nI k)), (7, .int (nI (lb_at x w))), (6, .int (nI w)), (5, .int (nI (wd_r (lb_at x) w))), (0, .ref a), (1, .ref s), (2, .int x), (3, .long (iL c))] [] := by
  intro m
  induction m using Nat.strongRecOn with
  | ind m ih =>
    intro k σ
    intro hm h0 h1 g0 g1 fr
    have hl1 := lb_lt x w
    refine gw_iload hX nd_We_change_36 0 rfl ?_
    refine gw_iconst (v := nI 3) hX nd_We_change_38 rfl ?_
    refine gw_icmp_ge (tgt := 63) hX nd_We_change_39 rfl (fun hb => ?_) (fun hb => ?_)
    · have hb : 3 ≤ k := (nI_leI (a := 3) (b := k) (by omega) (by omega)).mp hb
      refine gw_cut (ks := [1, 2, 3, 4, 5, 6, 7]) (L' := [(7, .int (nI (lb_at x w))), (6, .int (nI w)), (5, .int (nI (wd_r (lb_at x) w))), (0, .ref a), (1, .ref s), (2, .int x), (3, .long (iL c))]) rfl ?_
      have hk : k = 3 := by omega
      subst hk
      exact kk σ h0 h1 g0 g1 fr
    · have hb : ¬ 3 ≤ k := fun h => hb ((nI_leI (a := 3) (b := k) (by omega) (by omega)).mpr h)
      have hBk := hB (w * 3 + k) (by omega)
      refine gw_aload_n hX nd_We_change_42 rfl 4 rfl ?_
      refine gw_aload_n hX nd_We_change_43 rfl 5 rfl ?_
      refine gw_iload hX nd_We_change_44 2 rfl ?_
      refine gw_iload hX nd_We_change_46 0 rfl ?_
      refine gw_callV (rest := [.ref a]) hX ks_We_15 (ct_Se_bucketOf X.1.2.1 (gw_z X) (gw_b X) σ s w k b lab (nI N) g0 g1 (by omega)) g0 rfl rfl (Nat.le_of_ble_eq_true rfl) nd_We_change_48 (by decide) ?_
      rintro v_ s_ ⟨hv_, hs_⟩
      have hs_ := hs_.symm
      subst hs_ hv_
      show gw_W X σ 0 0 51 [(8, .int (nI k)), (7, .int (nI (lb_at x w))), (6, .int (nI w)), (5, .int (nI (wd_r (lb_at x) w))), (0, .ref a), (1, .ref s), (2, .int x), (3, .long (iL c))] [.int (b (w * 3 + k)), .ref a]
      rw [hBk.1]
      refine gw_iload hX nd_We_change_51 1 rfl ?_
      refine gw_lload_n hX nd_We_change_53 rfl 7 rfl ?_
      refine gw_callV (rest := []) hX ks_We_36 (ct_We_add X.1.2.1 (gw_z X) (gw_b X) σ a (B (w * 3 + k)) (lb_at x w) (iL c) _ h0 h1 (by omega)) h0 rfl rfl (Nat.le_of_ble_eq_true rfl) nd_We_change_54 (by decide) ?_
      rintro _ σ1 ⟨rfl, h0, h1, hf⟩
      have h1 : σ1.2 (a + 1) = some (gw_J (gw_z X) 148 (fun j => iL (ct_ad wt c (ct_P (fun w k => B (w * 3 + k)) (lb_at x) w (k + 1)) j))) := by rw [h1]; exact congrArg (fun y => some (gw_J (gw_z X) 148 y)) ((ct_upd wt c _ _).trans (by rw [← ct_Ps]))
      have g0 : σ1.2 s = some (.inr (5, [.ref (s + 1), .int lab, .int (nI N)])) := (hf.2 s (by omega)).trans g0
      have g1 : σ1.2 (s + 1) = some ((gw_I (gw_z X) 18 b)) := (hf.2 (s + 1) (by omega)).trans g1
      have fr : gw_fr σ0 σ1 a (a + 2) := gw_fr_tr fr hf
      show gw_W X σ1 0 0 57 [(8, .int (nI k)), (7, .int (nI (lb_at x w))), (6, .int (nI w)), (5, .int (nI (wd_r (lb_at x) w))), (0, .ref a), (1, .ref s), (2, .int x), (3, .long (iL c))] []
      refine gw_iinc hX nd_We_change_57 0 rfl (v := nI (k + 1)) (show nI k + nI 1 = nI (k + 1) from nI_add _ _) (by decide) (L' := [(8, .int (nI (k + 1))), (7, .int (nI (lb_at x w))), (6, .int (nI w)), (5, .int (nI (wd_r (lb_at x) w))), (0, .ref a), (1, .ref s), (2, .int x), (3, .long (iL c))]) rfl ?_
      refine gw_goto (tgt := 36) hX nd_We_change_60 rfl ?_
      refine gw_cut (ks := [0, 1, 2, 3, 4, 5, 6, 7]) (L' := [(8, .int (nI (k + 1))), (7, .int (nI (lb_at x w))), (6, .int (nI w)), (5, .int (nI (wd_r (lb_at x) w))), (0, .ref a), (1, .ref s), (2, .int x), (3, .long (iL c))]) rfl ?_
      exact ih (m - 1) (by omega) (k + 1) σ1 (by omega) h0 h1 g0 g1 fr
set_option maxRecDepth 100000 in
set_option maxHeartbeats 4000000 in
theorem lp_We_change {X : gw_C} (a s : Nat) (σ0 : gw_S) (wt : Nat → Int) (c : Int) (b : Nat → Int32) (B : Nat → Nat) (lab x : Int32) (N : Nat) (hB : ∀ j, j < N * 3 → b j = nI (B j) ∧ B j < 32) (hN : N ≤ 6) (has : a + 2 ≤ s ∨ s + 2 ≤ a) (hX : gw_ok X nc_We_change "LabelLearner$Weights" (9, 1, 24, 0, 0)) (hQ : X.2.2.2.2 = gw_end X (fun v σ' => v = none ∧ σ'.2 a = some (.inr (7, [.ref (a + 1)])) ∧ σ'.2 (a + 1) = some (gw_J (gw_z X) 148 (fun j => iL (ct_ad wt c (ct_C (fun w k => B (w * 3 + k)) (lb_at x) N) j))) ∧ gw_fr σ0 σ' a (a + 2)) 0 0) (hr : X.2.2.1.1.sig.returnType = none) : ∀ (m : Nat) (w : Nat) (σ : gw_S), w + m = N → σ.2 a = some (.inr (7, [.ref (a + 1)])) → σ.2 (a + 1) = some (gw_J (gw_z X) 148 (fun j => iL (ct_ad wt c (ct_C (fun w k => B (w * 3 + k)) (lb_at x) w) j))) → σ.2 s = some (.inr (5, [.ref (s + 1), .int lab, .int (nI N)])) → σ.2 (s + 1) = some (gw_I (gw_z X) 18 b) → gw_fr σ0 σ a (a + 2) → gw_W X σ 0 0 7 [(6, .int (nI w)), (5, .int (nI (wd_r (lb_at x) w))), (0, .ref a), (1, .ref s), (2, .int x), (3, .long (iL c))] [] := by
  intro m
  induction m using Nat.strongRecOn with
  | ind m ih =>
    intro w σ
    intro hm h0 h1 g0 g1 fr
    have hl1 := lb_lt x w
    have hl2 := wd_r_lt (lb_lt x) w
    refine gw_iload hX nd_We_change_7 0 rfl ?_
    refine gw_aload_n hX nd_We_change_9 rfl 3 rfl ?_
    refine gw_get hX kf_We_25 nd_We_change_10 g0 rfl ?_
    refine gw_icmp_ge (tgt := 76) hX nd_We_change_13 rfl (fun hb => ?_) (fun hb => ?_)
    · have hb : N ≤ w := (nI_leI (a := N) (b := w) (by omega) (by omega)).mp hb
      have hk : w = N := by omega
      subst hk
      exact gw_vret hX hQ hr nd_We_change_76 (by decide) (by decide) ⟨rfl, h0, h1, fr⟩
    · have hb : ¬ N ≤ w := fun h => hb ((nI_leI (a := N) (b := w) (by omega) (by omega)).mpr h)
      refine gw_iload_n hX nd_We_change_16 rfl 4 rfl ?_
      refine gw_iload hX nd_We_change_17 0 rfl ?_
      refine gw_callS (rest := []) hX ks_We_29 (ct_LL_labelIn X.1.2.1 (gw_z X) (gw_b X) σ x w (by omega)) rfl rfl (Nat.le_of_ble_eq_true rfl) nd_We_change_19 (by decide) ?_
      rintro v_ s_ ⟨hv_, hs_⟩
      have hs_ := hs_.symm
      subst hs_ hv_
      show gw_W X σ 0 0 22 [(6, .int (nI w)), (5, .int (nI (wd_r (lb_at x) w))), (0, .ref a), (1, .ref s), (2, .int x), (3, .long (iL c))] [.int (nI (lb_at x w))]
      refine gw_istore hX nd_We_change_22 (by decide) (L' := [(7, .int (nI (lb_at x w))), (6, .int (nI w)), (5, .int (nI (wd_r (lb_at x) w))), (0, .ref a), (1, .ref s), (2, .int x), (3, .long (iL c))]) rfl ?_
      refine gw_aload_n hX nd_We_change_24 rfl 3 rfl ?_
      refine gw_iload hX nd_We_change_25 2 rfl ?_
      refine gw_iload hX nd_We_change_27 0 rfl ?_
      refine gw_lload_n hX nd_We_change_29 rfl 6 rfl ?_
      refine gw_callV (rest := []) hX ks_We_36 (ct_We_add X.1.2.1 (gw_z X) (gw_b X) σ a (wd_r (lb_at x) w) (lb_at x w) (iL c) _ h0 h1 (by omega)) h0 rfl rfl (Nat.le_of_ble_eq_true rfl) nd_We_change_30 (by decide) ?_
      rintro _ σ1 ⟨rfl, h0, h1, hf⟩
      have h1 : σ1.2 (a + 1) = some (gw_J (gw_z X) 148 (fun j => iL (ct_ad wt c (ct_P (fun w k => B (w * 3 + k)) (lb_at x) w 0) j))) := by rw [h1]; exact congrArg (fun y => some (gw_J (gw_z X) 148 y)) ((ct_upd wt c _ _).trans (by rw [← ct_P0, ct_r_eq]))
      have g0 : σ1.2 s = some (.inr (5, [.ref (s + 1), .int lab, .int (nI N)])) := (hf.2 s (by omega)).trans g0
      have g1 : σ1.2 (s + 1) = some ((gw_I (gw_z X) 18 b)) := (hf.2 (s + 1) (by omega)).trans g1
      have fr : gw_fr σ0 σ1 a (a + 2) := gw_fr_tr fr hf
      show gw_W X σ1 0 0 33 [(7, .int (nI (lb_at x w))), (6, .int (nI w)), (5, .int (nI (wd_r (lb_at x) w))), (0, .ref a), (1, .ref s), (2, .int x), (3, .long (iL c))] []
      refine gw_iconst (v := nI 0) hX nd_We_change_33 rfl ?_
      refine gw_istore hX nd_We_change_34 (by decide) (L' := [(8, .int (nI 0)), (7, .int (nI (lb_at x w))), (6, .int (nI w)), (5, .int (nI (wd_r (lb_at x) w))), (0, .ref a), (1, .ref s), (2, .int x), (3, .long (iL c))]) rfl ?_
      refine gw_cut (ks := [0, 1, 2, 3, 4, 5, 6, 7]) (L' := [(8, .int (nI 0)), (7, .int (nI (lb_at x w))), (6, .int (nI w)), (5, .int (nI (wd_r (lb_at x) w))), (0, .ref a), (1, .ref s), (2, .int x), (3, .long (iL c))]) rfl ?_
      refine lp_We_change2 a s σ0 wt c b B lab x N hB hN has w (by omega) ?_ hX 3 0 σ1 (by omega) h0 h1 g0 g1 fr
      clear h0 h1 g0 g1 fr
      intro σ h0 h1 g0 g1 fr
      rw [ct_P3] at h1
      refine gw_bipush (v := nI 33) hX nd_We_change_63 rfl ?_
      refine gw_iload hX nd_We_change_65 0 rfl ?_
      refine gw_iadd hX nd_We_change_67 ?_
      refine gw_topi (y := nI (33 + (lb_at x w))) (nI_add _ _) ?_
      refine gw_istore hX nd_We_change_68 (by decide) (L' := [(5, .int (nI (33 + (lb_at x w)))), (7, .int (nI (lb_at x w))), (6, .int (nI w)), (0, .ref a), (1, .ref s), (2, .int x), (3, .long (iL c))]) rfl ?_
      refine gw_iinc hX nd_We_change_70 2 rfl (v := nI (w + 1)) (show nI w + nI 1 = nI (w + 1) from nI_add _ _) (by decide) (L' := [(6, .int (nI (w + 1))), (5, .int (nI (33 + (lb_at x w)))), (7, .int (nI (lb_at x w))), (0, .ref a), (1, .ref s), (2, .int x), (3, .long (iL c))]) rfl ?_
      refine gw_goto (tgt := 7) hX nd_We_change_73 rfl ?_
      refine gw_cut (ks := [0, 1, 3, 4, 5, 6]) (L' := [(6, .int (nI (w + 1))), (5, .int (nI (33 + (lb_at x w)))), (0, .ref a), (1, .ref s), (2, .int x), (3, .long (iL c))]) rfl ?_
      rw [← wd_r_s]
      exact ih (m - 1) (by omega) (w + 1) σ (by omega) h0 h1 g0 g1 fr
set_option maxRecDepth 100000 in
set_option maxHeartbeats 4000000 in
theorem ct_We_change (l : Launch) (Z : gw_Z) (b0 : Nat) (σ : gw_S) (a s : Nat) (wt : Nat → Int) (c : Int) (b : Nat → Int32) (B : Nat → Nat) (lab x : Int32) (N : Nat) (hB : ∀ j, j < N * 3 → b j = nI (B j) ∧ B j < 32) (hN : N ≤ 6) (has : a + 2 ≤ s ∨ s + 2 ≤ a) (h0 : σ.2 a = some (.inr (7, [.ref (a + 1)]))) (h1 : σ.2 (a + 1) = some (gw_J Z 148 (fun j => iL (wt j)))) (g0 : σ.2 s = some (.inr (5, [.ref (s + 1), .int lab, .int (nI N)]))) (g1 : σ.2 (s + 1) = some (gw_I Z 18 b)) : gw_M l ny_We_change nc_We_change (9, 1, 24, 0, 0) none Z b0 σ [.ref a, .ref s, .int x, .long (iL c)] (fun v σ' => v = none ∧ σ'.2 a = some (.inr (7, [.ref (a + 1)])) ∧ σ'.2 (a + 1) = some (gw_J Z 148 (fun j => iL (ct_ad wt c (ct_C (fun w k => B (w * 3 + k)) (lb_at x) N) j))) ∧ gw_fr σ σ' a (a + 2)) := by
  refine gw_M_of rfl (Nat.le_of_ble_eq_true rfl) ?_
  intro X hX hl hz hb0 hr hnm hQ
  subst hz hb0 hl
  have hX : gw_ok X nc_We_change "LabelLearner$Weights" (9, 1, 24, 0, 0) := hX
  show gw_W X σ 0 0 0 [(0, .ref a), (1, .ref s), (2, .int x), (3, .long (iL c))] []
  refine gw_bipush (v := nI 32) hX nd_We_change_0 rfl ?_
  refine gw_istore hX nd_We_change_2 (by decide) (L' := [(5, .int (nI 32)), (0, .ref a), (1, .ref s), (2, .int x), (3, .long (iL c))]) rfl ?_
  refine gw_iconst (v := nI 0) hX nd_We_change_4 rfl ?_
  refine gw_istore hX nd_We_change_5 (by decide) (L' := [(6, .int (nI 0)), (5, .int (nI 32)), (0, .ref a), (1, .ref s), (2, .int x), (3, .long (iL c))]) rfl ?_
  exact lp_We_change a s σ wt c b B lab x N hB hN has hX hQ hr N 0 σ (by omega) h0 (by rw [h1]; exact congrArg (fun y => some (gw_J (gw_z X) 148 y)) (by funext j; rw [show ct_C (fun w k => B (w * 3 + k)) (lb_at x) 0 = [] from rfl, ct_ad_nil])) g0 g1 (gw_fr_rf _ _ _)
