set_option maxRecDepth 100000 in
set_option maxHeartbeats 4000000 in
theorem ct_Se_bucketOf (l : Launch) (Z : gw_Z) (b0 : Nat) (σ : gw_S) (a w k : Nat) (f : Nat → Int32) (lab sz : Int32) (h0 : σ.2 a = some (.inr (5, [.ref (a + 1), .int lab, .int sz]))) (h1 : σ.2 (a + 1) = some (gw_I Z 18 f)) (hk : w * 3 + k < 18) : gw_M l ny_Se_bucketOf nc_Se_bucketOf (3, 0, 0, 0, 0) (some .int) Z b0 σ [.ref a, .int (nI w), .int (nI k)] (fun v σ' => v = some (.int (f (w * 3 + k))) ∧ σ' = σ) := by
  refine gw_M_of rfl (Nat.le_of_ble_eq_true rfl) ?_
  intro X hX hl hz hb0 hr hnm hQ
  subst hz hb0 hl
  have hX : gw_ok X nc_Se_bucketOf "LabelLearner$Sentence" (3, 0, 0, 0, 0) := hX
  show gw_W X σ 0 0 0 [(0, .ref a), (1, .int (nI w)), (2, .int (nI k))] []
  refine gw_aload_n hX nd_Se_bucketOf_0 rfl 0 rfl ?_
  refine gw_get hX kf_Se_9 nd_Se_bucketOf_1 h0 rfl ?_
  refine gw_iload_n hX nd_Se_bucketOf_4 rfl 1 rfl ?_
  refine gw_iconst (v := nI 3) hX nd_Se_bucketOf_5 rfl ?_
  refine gw_imul hX nd_Se_bucketOf_6 ?_
  refine gw_topi (y := nI (w * 3)) (pk_mul _ _) ?_
  refine gw_iload_n hX nd_Se_bucketOf_7 rfl 2 rfl ?_
  refine gw_iadd hX nd_Se_bucketOf_8 ?_
  refine gw_topi (y := nI (w * 3 + k)) (nI_add _ _) ?_
  refine gw_iald hX nd_Se_bucketOf_9 h1 (w * 3 + k) rfl (by omega) (by decide) ?_
  exact gw_iret hX hQ hr nd_Se_bucketOf_10 (by decide) (by decide) ⟨rfl, rfl⟩
set_option maxRecDepth 100000 in
set_option maxHeartbeats 4000000 in
theorem ct_Se_setBucket (l : Launch) (Z : gw_Z) (b0 : Nat) (σ : gw_S) (a w k : Nat) (x : Int32) (f : Nat → Int32) (lab sz : Int32) (h0 : σ.2 a = some (.inr (5, [.ref (a + 1), .int lab, .int sz]))) (h1 : σ.2 (a + 1) = some (gw_I Z 18 f)) (hk : w * 3 + k < 18) : gw_M l ny_Se_setBucket nc_Se_setBucket (4, 0, 0, 0, 0) none Z b0 σ [.ref a, .int (nI w), .int (nI k), .int x] (fun v σ' => v = none ∧ σ'.2 a = some (.inr (5, [.ref (a + 1), .int lab, .int sz])) ∧ σ'.2 (a + 1) = some (gw_I Z 18 (upd f (w * 3 + k) x)) ∧ gw_fr σ σ' a (a + 2)) := by
  refine gw_M_of rfl (Nat.le_of_ble_eq_true rfl) ?_
  intro X hX hl hz hb0 hr hnm hQ
  subst hz hb0 hl
  have hX : gw_ok X nc_Se_setBucket "LabelLearner$Sentence" (4, 0, 0, 0, 0) := hX
  show gw_W X σ 0 0 0 [(0, .ref a), (1, .int (nI w)), (2, .int (nI k)), (3, .int x)] []
  have fr : gw_fr σ σ a (a + 2) := gw_fr_rf _ _ _
  refine gw_aload_n hX nd_Se_setBucket_0 rfl 0 rfl ?_
  refine gw_get hX kf_Se_9 nd_Se_setBucket_1 h0 rfl ?_
  refine gw_iload_n hX nd_Se_setBucket_4 rfl 1 rfl ?_
  refine gw_iconst (v := nI 3) hX nd_Se_setBucket_5 rfl ?_
  refine gw_imul hX nd_Se_setBucket_6 ?_
  refine gw_topi (y := nI (w * 3)) (pk_mul _ _) ?_
  refine gw_iload_n hX nd_Se_setBucket_7 rfl 2 rfl ?_
  refine gw_iadd hX nd_Se_setBucket_8 ?_
  refine gw_topi (y := nI (w * 3 + k)) (nI_add _ _) ?_
  refine gw_iload_n hX nd_Se_setBucket_9 rfl 3 rfl ?_
  refine gw_iast hX nd_Se_setBucket_10 h1 (w * 3 + k) rfl (by omega) (by decide) ?_
  obtain ⟨σ1, eσ1⟩ : ∃ hp_, hp_ = gw_up σ (a + 1) ((gw_I (gw_z X) 18 (upd f (w * 3 + k) x))) := ⟨_, rfl⟩
  refine gw_heap eσ1.symm ?_
  have h0 : σ1.2 a = some (.inr (5, [.ref (a + 1), .int lab, .int sz])) := by rw [eσ1, gw_up_ne (by omega)]; exact h0
  have h1 : σ1.2 (a + 1) = some ((gw_I (gw_z X) 18 (upd f (w * 3 + k) x))) := by rw [eσ1]; exact gw_up_eq _ _ _
  have fr : gw_fr σ σ1 a (a + 2) := gw_fr_tr fr (show gw_fr _ σ1 a (a + 2) by rw [eσ1]; exact gw_fr_up _ _ _ (by omega) (by omega))
  exact gw_vret hX hQ hr nd_Se_setBucket_11 (by decide) (by decide) ⟨rfl, h0, h1, fr⟩
set_option maxRecDepth 100000 in
set_option maxHeartbeats 4000000 in
theorem ct_Se_clear (l : Launch) (Z : gw_Z) (b0 : Nat) (σ : gw_S) (a : Nat) (lab sz : Int32) (f : Nat → Int32) (h0 : σ.2 a = some (.inr (5, [.ref (a + 1), .int lab, .int sz]))) (h1 : σ.2 (a + 1) = some (gw_I Z 18 f)) : gw_M l ny_Se_clear nc_Se_clear (1, 0, 0, 0, 0) none Z b0 σ [.ref a] (fun v σ' => v = none ∧ σ'.2 a = some (.inr (5, [.ref (a + 1), .int (nI 0), .int (nI 0)])) ∧ σ'.2 (a + 1) = some (gw_I Z 18 f) ∧ gw_fr σ σ' a (a + 2)) := by
  refine gw_M_of rfl (Nat.le_of_ble_eq_true rfl) ?_
  intro X hX hl hz hb0 hr hnm hQ
  subst hz hb0 hl
  have hX : gw_ok X nc_Se_clear "LabelLearner$Sentence" (1, 0, 0, 0, 0) := hX
  show gw_W X σ 0 0 0 [(0, .ref a)] []
  have fr : gw_fr σ σ a (a + 2) := gw_fr_rf _ _ _
  refine gw_aload_n hX nd_Se_clear_0 rfl 0 rfl ?_
  refine gw_iconst (v := nI 0) hX nd_Se_clear_1 rfl ?_
  refine gw_put hX kf_Se_15 nd_Se_clear_2 h0 rfl rfl (Nat.le_of_ble_eq_true rfl) (e' := .inr (5, [.ref (a + 1), .int lab, .int (nI 0)])) rfl ?_
  obtain ⟨σ1, eσ1⟩ : ∃ hp_, hp_ = gw_up σ a (.inr (5, [.ref (a + 1), .int lab, .int (nI 0)])) := ⟨_, rfl⟩
  refine gw_heap eσ1.symm ?_
  have h0 : σ1.2 a = some (.inr (5, [.ref (a + 1), .int lab, .int (nI 0)])) := by rw [eσ1]; exact gw_up_eq _ _ _
  have h1 : σ1.2 (a + 1) = some ((gw_I (gw_z X) 18 f)) := by rw [eσ1, gw_up_ne (by omega)]; exact h1
  have fr : gw_fr σ σ1 a (a + 2) := gw_fr_tr fr (show gw_fr _ σ1 a (a + 2) by rw [eσ1]; exact gw_fr_up _ _ _ (by omega) (by omega))
  refine gw_aload_n hX nd_Se_clear_5 rfl 0 rfl ?_
  refine gw_iconst (v := nI 0) hX nd_Se_clear_6 rfl ?_
  refine gw_put hX kf_Se_19 nd_Se_clear_7 h0 rfl rfl (Nat.le_of_ble_eq_true rfl) (e' := .inr (5, [.ref (a + 1), .int (nI 0), .int (nI 0)])) rfl ?_
  obtain ⟨σ2, eσ2⟩ : ∃ hp_, hp_ = gw_up σ1 a (.inr (5, [.ref (a + 1), .int (nI 0), .int (nI 0)])) := ⟨_, rfl⟩
  refine gw_heap eσ2.symm ?_
  have h0 : σ2.2 a = some (.inr (5, [.ref (a + 1), .int (nI 0), .int (nI 0)])) := by rw [eσ2]; exact gw_up_eq _ _ _
  have h1 : σ2.2 (a + 1) = some ((gw_I (gw_z X) 18 f)) := by rw [eσ2, gw_up_ne (by omega)]; exact h1
  have fr : gw_fr σ σ2 a (a + 2) := gw_fr_tr fr (show gw_fr _ σ2 a (a + 2) by rw [eσ2]; exact gw_fr_up _ _ _ (by omega) (by omega))
  exact gw_vret hX hQ hr nd_Se_clear_10 (by decide) (by decide) ⟨rfl, h0, h1, fr⟩
set_option maxRecDepth 100000 in
set_option maxHeartbeats 4000000 in
theorem ct_We_at (l : Launch) (Z : gw_Z) (b0 : Nat) (σ : gw_S) (a w k : Nat) (f : Nat → Int64) (h0 : σ.2 a = some (.inr (7, [.ref (a + 1)]))) (h1 : σ.2 (a + 1) = some (gw_J Z 148 f)) (hk : w * 4 + k < 148) : gw_M l ny_We_at nc_We_at (3, 0, 0, 0, 0) (some .long) Z b0 σ [.ref a, .int (nI w), .int (nI k)] (fun v σ' => v = some (.long (f (w * 4 + k))) ∧ σ' = σ) := by
  refine gw_M_of rfl (Nat.le_of_ble_eq_true rfl) ?_
  intro X hX hl hz hb0 hr hnm hQ
  subst hz hb0 hl
  have hX : gw_ok X nc_We_at "LabelLearner$Weights" (3, 0, 0, 0, 0) := hX
  show gw_W X σ 0 0 0 [(0, .ref a), (1, .int (nI w)), (2, .int (nI k))] []
  refine gw_aload_n hX nd_We_at_0 rfl 0 rfl ?_
  refine gw_get hX kf_We_9 nd_We_at_1 h0 rfl ?_
  refine gw_iload_n hX nd_We_at_4 rfl 1 rfl ?_
  refine gw_iconst (v := nI 4) hX nd_We_at_5 rfl ?_
  refine gw_imul hX nd_We_at_6 ?_
  refine gw_topi (y := nI (w * 4)) (pk_mul _ _) ?_
  refine gw_iload_n hX nd_We_at_7 rfl 2 rfl ?_
  refine gw_iadd hX nd_We_at_8 ?_
  refine gw_topi (y := nI (w * 4 + k)) (nI_add _ _) ?_
  refine gw_lald hX nd_We_at_9 h1 (w * 4 + k) rfl (by omega) (by decide) ?_
  exact gw_lret hX hQ hr nd_We_at_10 (by decide) (by decide) ⟨rfl, rfl⟩
set_option maxRecDepth 100000 in
set_option maxHeartbeats 4000000 in
theorem ct_We_add (l : Launch) (Z : gw_Z) (b0 : Nat) (σ : gw_S) (a w k : Nat) (x : Int64) (f : Nat → Int64) (h0 : σ.2 a = some (.inr (7, [.ref (a + 1)]))) (h1 : σ.2 (a + 1) = some (gw_J Z 148 f)) (hk : w * 4 + k < 148) : gw_M l ny_We_add nc_We_add (5, 0, 0, 0, 0) none Z b0 σ [.ref a, .int (nI w), .int (nI k), .long x] (fun v σ' => v = none ∧ σ'.2 a = some (.inr (7, [.ref (a + 1)])) ∧ σ'.2 (a + 1) = some (gw_J Z 148 (vp_updL f (w * 4 + k) (f (w * 4 + k) + x))) ∧ gw_fr σ σ' a (a + 2)) := by
  refine gw_M_of rfl (Nat.le_of_ble_eq_true rfl) ?_
  intro X hX hl hz hb0 hr hnm hQ
  subst hz hb0 hl
  have hX : gw_ok X nc_We_add "LabelLearner$Weights" (5, 0, 0, 0, 0) := hX
  show gw_W X σ 0 0 0 [(0, .ref a), (1, .int (nI w)), (2, .int (nI k)), (3, .long x)] []
  have fr : gw_fr σ σ a (a + 2) := gw_fr_rf _ _ _
  refine gw_aload_n hX nd_We_add_0 rfl 0 rfl ?_
  refine gw_get hX kf_We_9 nd_We_add_1 h0 rfl ?_
  refine gw_iload_n hX nd_We_add_4 rfl 1 rfl ?_
  refine gw_iconst (v := nI 4) hX nd_We_add_5 rfl ?_
  refine gw_imul hX nd_We_add_6 ?_
  refine gw_topi (y := nI (w * 4)) (pk_mul _ _) ?_
  refine gw_iload_n hX nd_We_add_7 rfl 2 rfl ?_
  refine gw_iadd hX nd_We_add_8 ?_
  refine gw_topi (y := nI (w * 4 + k)) (nI_add _ _) ?_
  refine gw_dup2_11 hX nd_We_add_9 rfl rfl ?_
  refine gw_lald hX nd_We_add_10 h1 (w * 4 + k) rfl (by omega) (by decide) ?_
  refine gw_lload_n hX nd_We_add_11 rfl 3 rfl ?_
  refine gw_ladd hX nd_We_add_12 ?_
  refine gw_last hX nd_We_add_13 h1 (w * 4 + k) rfl (by omega) (by decide) ?_
  obtain ⟨σ1, eσ1⟩ : ∃ hp_, hp_ = gw_up σ (a + 1) ((gw_J (gw_z X) 148 (vp_updL f (w * 4 + k) ((f (w * 4 + k)) + x)))) := ⟨_, rfl⟩
  refine gw_heap eσ1.symm ?_
  have h0 : σ1.2 a = some (.inr (7, [.ref (a + 1)])) := by rw [eσ1, gw_up_ne (by omega)]; exact h0
  have h1 : σ1.2 (a + 1) = some ((gw_J (gw_z X) 148 (vp_updL f (w * 4 + k) ((f (w * 4 + k)) + x)))) := by rw [eσ1]; exact gw_up_eq _ _ _
  have fr : gw_fr σ σ1 a (a + 2) := gw_fr_tr fr (show gw_fr _ σ1 a (a + 2) by rw [eσ1]; exact gw_fr_up _ _ _ (by omega) (by omega))
  exact gw_vret hX hQ hr nd_We_add_14 (by decide) (by decide) ⟨rfl, h0, h1, fr⟩
