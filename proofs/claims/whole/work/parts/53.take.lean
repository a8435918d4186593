/-- f, but g from lo up to hi -/
def cp_f (f g : Nat → Int32) (lo hi i : Nat) : Int32 := if lo ≤ i ∧ i < hi then g i else f i
theorem cp_0 (f g : Nat → Int32) (lo : Nat) : cp_f f g lo (lo + 0) = f := by
  funext i
  unfold cp_f
  rw [if_neg (by omega)]
theorem cp_s (f g : Nat → Int32) (lo k : Nat) : upd (cp_f f g lo (lo + k)) (lo + k) (g (lo + k)) = cp_f f g lo (lo + (k + 1)) := by
  funext i
  unfold upd cp_f
  by_cases e : i = lo + k
  · rw [if_pos e, if_pos (by omega), e]
  · rw [if_neg e]
    by_cases e2 : lo ≤ i ∧ i < lo + k
    · rw [if_pos e2, if_pos (by omega)]
    · rw [if_neg e2, if_neg (by omega)]
set_option maxRecDepth 100000 in
set_option maxHeartbeats 4000000 in
theorem lp_Mo_take2 {X : gw_C} (m : Nat) {th rs be se kp kw : Int32} {len sn mk ps : Nat} {bs s2 : Int64} (fm fb fl f5 f6 f7 : Nat → Int32) (j : Nat) (hj : j ≤ 8) {σ0 : gw_S} (hX : gw_ok X nc_Mo_take "LabelLearnerModel" (3, 0, 0, 0, 0)) (hQ : X.2.2.2.2 = gw_end X (fun v σ' => v = none ∧ σ'.2 (m + 2) = some (gw_I (gw_z X) 9 (upd fm j (f5 j))) ∧ σ'.2 (m + 3) = some (gw_I (gw_z X) 162 (cp_f fb f6 (18 * j) (18 * j + 18))) ∧ σ'.2 (m + 4) = some (gw_I (gw_z X) 54 (cp_f fl f7 (6 * j) (6 * j + 6))) ∧ gw_fr σ0 σ' (m + 2) (m + 5)) 0 0) (hr : X.2.2.1.1.sig.returnType = none) : ∀ (u : Nat) (k : Nat) (σ : gw_S), k + u = 6 → σ.2 m = some (.inr (1, [.int th, .int (nI len), .ref (m + 1), .int (nI sn), .ref (m + 2), .ref (m + 3), .ref (m + 4), .int rs, .ref (m + 5), .ref (m + 6), .ref (m + 7), .ref (m + 8), .ref (m + 9), .int (nI mk), .int (nI ps), .ref (m + 10), .ref (m + 11), .ref (m + 12), .long bs, .long s2, .int be, .int se, .int kp, .int kw])) → σ.2 (m + 2) = some (gw_I (gw_z X) 9 (upd fm j (f5 j))) → σ.2 (m + 3) = some (gw_I (gw_z X) 162 (cp_f fb f6 (18 * j) (18 * j + 18))) → σ.2 (m + 4) = some (gw_I (gw_z X) 54 (cp_f fl f7 (6 * j) (6 * j + k))) → σ.2 (m + 6) = some (gw_I (gw_z X) 162 f6) → σ.2 (m + 7) = some (gw_I (gw_z X) 54 f7) → gw_fr σ0 σ (m + 2) (m + 5) → gw_W X σ 0 0 50 [(0, .ref m), (1, .int (nI j)), (2, .int (nI k))] [] := by
  intro u
  induction u using Nat.strongRecOn with
  | ind u ih =>
    intro k σ
    intro hk h0 h2 h3 h4 h6 h7 fr
    refine gw_iload_n hX nd_Mo_take_50 rfl 2 rfl ?_
    refine gw_bipush (v := nI 6) hX nd_Mo_take_51 rfl ?_
    refine gw_icmp_ge (tgt := 84) hX nd_Mo_take_53 rfl (fun hb => ?_) (fun hb => ?_)
    · have hb : 6 ≤ k := (nI_leI (a := 6) (b := k) (by omega) (by omega)).mp hb
      have hk6 : k = 6 := by omega
      subst hk6
      exact gw_vret hX hQ hr nd_Mo_take_84 (by decide) (by decide) ⟨rfl, h2, h3, h4, fr⟩
    · have hb : ¬ 6 ≤ k := fun h => hb ((nI_leI (a := 6) (b := k) (by omega) (by omega)).mpr h)
      refine gw_aload_n hX nd_Mo_take_56 rfl 0 rfl ?_
      refine gw_get hX kf_Mo_19 nd_Mo_take_57 h0 rfl ?_
      refine gw_bipush (v := nI 6) hX nd_Mo_take_60 rfl ?_
      refine gw_iload_n hX nd_Mo_take_62 rfl 1 rfl ?_
      refine gw_imul hX nd_Mo_take_63 ?_
      refine gw_topi (y := nI (6 * j)) (pk_mul _ _) ?_
      refine gw_iload_n hX nd_Mo_take_64 rfl 2 rfl ?_
      refine gw_iadd hX nd_Mo_take_65 ?_
      refine gw_topi (y := nI (6 * j + k)) (nI_add _ _) ?_
      refine gw_aload_n hX nd_Mo_take_66 rfl 0 rfl ?_
      refine gw_get hX kf_Mo_28 nd_Mo_take_67 h0 rfl ?_
      refine gw_bipush (v := nI 6) hX nd_Mo_take_70 rfl ?_
      refine gw_iload_n hX nd_Mo_take_72 rfl 1 rfl ?_
      refine gw_imul hX nd_Mo_take_73 ?_
      refine gw_topi (y := nI (6 * j)) (pk_mul _ _) ?_
      refine gw_iload_n hX nd_Mo_take_74 rfl 2 rfl ?_
      refine gw_iadd hX nd_Mo_take_75 ?_
      refine gw_topi (y := nI (6 * j + k)) (nI_add _ _) ?_
      refine gw_iald hX nd_Mo_take_76 h7 (6 * j + k) rfl (by omega) (by decide) ?_
      refine gw_iast hX nd_Mo_take_77 h4 (6 * j + k) rfl (by omega) (by decide) ?_
      refine gw_heap (show gw_up σ (m + 4) ((gw_I (gw_z X) 54 (upd (cp_f fl f7 (6 * j) (6 * j + k)) (6 * j + k) (f7 (6 * j + k))))) = gw_up σ (m + 4) ((gw_I (gw_z X) 54 (cp_f fl f7 (6 * j) (6 * j + (k + 1))))) by rw [show upd (cp_f fl f7 (6 * j) (6 * j + k)) (6 * j + k) (f7 (6 * j + k)) = cp_f fl f7 (6 * j) (6 * j + (k + 1)) from (cp_s _ _ _ _)]) ?_
      obtain ⟨σ1, eσ1⟩ : ∃ hp_, hp_ = gw_up σ (m + 4) ((gw_I (gw_z X) 54 (cp_f fl f7 (6 * j) (6 * j + (k + 1))))) := ⟨_, rfl⟩
      refine gw_heap eσ1.symm ?_
      have h0 : σ1.2 m = some (.inr (1, [.int th, .int (nI len), .ref (m + 1), .int (nI sn), .ref (m + 2), .ref (m + 3), .ref (m + 4), .int rs, .ref (m + 5), .ref (m + 6), .ref (m + 7), .ref (m + 8), .ref (m + 9), .int (nI mk), .int (nI ps), .ref (m + 10), .ref (m + 11), .ref (m + 12), .long bs, .long s2, .int be, .int se, .int kp, .int kw])) := by rw [eσ1, gw_up_ne (by omega)]; exact h0
      have h2 : σ1.2 (m + 2) = some ((gw_I (gw_z X) 9 (upd fm j (f5 j)))) := by rw [eσ1, gw_up_ne (by omega)]; exact h2
      have h3 : σ1.2 (m + 3) = some ((gw_I (gw_z X) 162 (cp_f fb f6 (18 * j) (18 * j + 18)))) := by rw [eσ1, gw_up_ne (by omega)]; exact h3
      have h4 : σ1.2 (m + 4) = some ((gw_I (gw_z X) 54 (cp_f fl f7 (6 * j) (6 * j + (k + 1))))) := by rw [eσ1]; exact gw_up_eq _ _ _
      have h6 : σ1.2 (m + 6) = some ((gw_I (gw_z X) 162 f6)) := by rw [eσ1, gw_up_ne (by omega)]; exact h6
      have h7 : σ1.2 (m + 7) = some ((gw_I (gw_z X) 54 f7)) := by rw [eσ1, gw_up_ne (by omega)]; exact h7
      have fr : gw_fr σ0 σ1 (m + 2) (m + 5) := gw_fr_tr fr (show gw_fr _ σ1 (m + 2) (m + 5) by rw [eσ1]; exact gw_fr_up _ _ _ (by omega) (by omega))
      refine gw_iinc hX nd_Mo_take_78 2 rfl (v := nI (k + 1)) (show nI k + nI 1 = nI (k + 1) from nI_add _ _) (by decide) (L' := [(2, .int (nI (k + 1))), (0, .ref m), (1, .int (nI j))]) rfl ?_
      refine gw_goto (tgt := 50) hX nd_Mo_take_81 rfl ?_
      refine gw_cut (ks := [1, 2, 0]) (L' := [(0, .ref m), (1, .int (nI j)), (2, .int (nI (k + 1)))]) rfl ?_
      exact ih (u - 1) (by omega) (k + 1) _ (by omega) h0 h2 h3 h4 h6 h7 fr
set_option maxRecDepth 100000 in
set_option maxHeartbeats 4000000 in
theorem lp_Mo_take1 {X : gw_C} (m : Nat) {th rs be se kp kw : Int32} {len sn mk ps : Nat} {bs s2 : Int64} (fm fb fl f5 f6 f7 : Nat → Int32) (j : Nat) (hj : j ≤ 8) {σ0 : gw_S} (hX : gw_ok X nc_Mo_take "LabelLearnerModel" (3, 0, 0, 0, 0)) (hQ : X.2.2.2.2 = gw_end X (fun v σ' => v = none ∧ σ'.2 (m + 2) = some (gw_I (gw_z X) 9 (upd fm j (f5 j))) ∧ σ'.2 (m + 3) = some (gw_I (gw_z X) 162 (cp_f fb f6 (18 * j) (18 * j + 18))) ∧ σ'.2 (m + 4) = some (gw_I (gw_z X) 54 (cp_f fl f7 (6 * j) (6 * j + 6))) ∧ gw_fr σ0 σ' (m + 2) (m + 5)) 0 0) (hr : X.2.2.1.1.sig.returnType = none) : ∀ (u : Nat) (k : Nat) (σ : gw_S), k + u = 18 → σ.2 m = some (.inr (1, [.int th, .int (nI len), .ref (m + 1), .int (nI sn), .ref (m + 2), .ref (m + 3), .ref (m + 4), .int rs, .ref (m + 5), .ref (m + 6), .ref (m + 7), .ref (m + 8), .ref (m + 9), .int (nI mk), .int (nI ps), .ref (m + 10), .ref (m + 11), .ref (m + 12), .long bs, .long s2, .int be, .int se, .int kp, .int kw])) → σ.2 (m + 2) = some (gw_I (gw_z X) 9 (upd fm j (f5 j))) → σ.2 (m + 3) = some (gw_I (gw_z X) 162 (cp_f fb f6 (18 * j) (18 * j + k))) → σ.2 (m + 4) = some (gw_I (gw_z X) 54 (fl)) → σ.2 (m + 6) = some (gw_I (gw_z X) 162 f6) → σ.2 (m + 7) = some (gw_I (gw_z X) 54 f7) → gw_fr σ0 σ (m + 2) (m + 5) → gw_W X σ 0 0 14 [(0, .ref m), (1, .int (nI j)), (2, .int (nI k))] [] := by
  intro u
  induction u using Nat.strongRecOn with
  | ind u ih =>
    intro k σ
    intro hk h0 h2 h3 h4 h6 h7 fr
    refine gw_iload_n hX nd_Mo_take_14 rfl 2 rfl ?_
    refine gw_bipush (v := nI 18) hX nd_Mo_take_15 rfl ?_
    refine gw_icmp_ge (tgt := 48) hX nd_Mo_take_17 rfl (fun hb => ?_) (fun hb => ?_)
    · have hb : 18 ≤ k := (nI_leI (a := 18) (b := k) (by omega) (by omega)).mp hb
      refine gw_iconst (v := nI 0) hX nd_Mo_take_48 rfl ?_
      refine gw_istore_n hX nd_Mo_take_49 rfl (by decide) (L' := [(2, .int (nI 0)), (0, .ref m), (1, .int (nI j))]) rfl ?_
      refine gw_cut (ks := [1, 2, 0]) (L' := [(0, .ref m), (1, .int (nI j)), (2, .int (nI 0))]) rfl ?_
      exact lp_Mo_take2 m fm fb fl f5 f6 f7 j hj hX hQ hr 6 0 _ (by omega) h0 h2 (by rw [show 18 * j + 18 = 18 * j + k by omega]; exact h3) (by rw [cp_0]; exact h4) h6 h7 fr
    · have hb : ¬ 18 ≤ k := fun h => hb ((nI_leI (a := 18) (b := k) (by omega) (by omega)).mpr h)
      refine gw_aload_n hX nd_Mo_take_20 rfl 0 rfl ?_
      refine gw_get hX kf_Mo_16 nd_Mo_take_21 h0 rfl ?_
      refine gw_bipush (v := nI 18) hX nd_Mo_take_24 rfl ?_
      refine gw_iload_n hX nd_Mo_take_26 rfl 1 rfl ?_
      refine gw_imul hX nd_Mo_take_27 ?_
      refine gw_topi (y := nI (18 * j)) (pk_mul _ _) ?_
      refine gw_iload_n hX nd_Mo_take_28 rfl 2 rfl ?_
      refine gw_iadd hX nd_Mo_take_29 ?_
      refine gw_topi (y := nI (18 * j + k)) (nI_add _ _) ?_
      refine gw_aload_n hX nd_Mo_take_30 rfl 0 rfl ?_
      refine gw_get hX kf_Mo_25 nd_Mo_take_31 h0 rfl ?_
      refine gw_bipush (v := nI 18) hX nd_Mo_take_34 rfl ?_
      refine gw_iload_n hX nd_Mo_take_36 rfl 1 rfl ?_
      refine gw_imul hX nd_Mo_take_37 ?_
      refine gw_topi (y := nI (18 * j)) (pk_mul _ _) ?_
      refine gw_iload_n hX nd_Mo_take_38 rfl 2 rfl ?_
      refine gw_iadd hX nd_Mo_take_39 ?_
      refine gw_topi (y := nI (18 * j + k)) (nI_add _ _) ?_
      refine gw_iald hX nd_Mo_take_40 h6 (18 * j + k) rfl (by omega) (by decide) ?_
      refine gw_iast hX nd_Mo_take_41 h3 (18 * j + k) rfl (by omega) (by decide) ?_
      refine gw_heap (show gw_up σ (m + 3) ((gw_I (gw_z X) 162 (upd (cp_f fb f6 (18 * j) (18 * j + k)) (18 * j + k) (f6 (18 * j + k))))) = gw_up σ (m + 3) ((gw_I (gw_z X) 162 (cp_f fb f6 (18 * j) (18 * j + (k + 1))))) by rw [show upd (cp_f fb f6 (18 * j) (18 * j + k)) (18 * j + k) (f6 (18 * j + k)) = cp_f fb f6 (18 * j) (18 * j + (k + 1)) from (cp_s _ _ _ _)]) ?_
      obtain ⟨σ1, eσ1⟩ : ∃ hp_, hp_ = gw_up σ (m + 3) ((gw_I (gw_z X) 162 (cp_f fb f6 (18 * j) (18 * j + (k + 1))))) := ⟨_, rfl⟩
      refine gw_heap eσ1.symm ?_
      have h0 : σ1.2 m = some (.inr (1, [.int th, .int (nI len), .ref (m + 1), .int (nI sn), .ref (m + 2), .ref (m + 3), .ref (m + 4), .int rs, .ref (m + 5), .ref (m + 6), .ref (m + 7), .ref (m + 8), .ref (m + 9), .int (nI mk), .int (nI ps), .ref (m + 10), .ref (m + 11), .ref (m + 12), .long bs, .long s2, .int be, .int se, .int kp, .int kw])) := by rw [eσ1, gw_up_ne (by omega)]; exact h0
      have h2 : σ1.2 (m + 2) = some ((gw_I (gw_z X) 9 (upd fm j (f5 j)))) := by rw [eσ1, gw_up_ne (by omega)]; exact h2
      have h3 : σ1.2 (m + 3) = some ((gw_I (gw_z X) 162 (cp_f fb f6 (18 * j) (18 * j + (k + 1))))) := by rw [eσ1]; exact gw_up_eq _ _ _
      have h4 : σ1.2 (m + 4) = some ((gw_I (gw_z X) 54 fl)) := by rw [eσ1, gw_up_ne (by omega)]; exact h4
      have h6 : σ1.2 (m + 6) = some ((gw_I (gw_z X) 162 f6)) := by rw [eσ1, gw_up_ne (by omega)]; exact h6
      have h7 : σ1.2 (m + 7) = some ((gw_I (gw_z X) 54 f7)) := by rw [eσ1, gw_up_ne (by omega)]; exact h7
      have fr : gw_fr σ0 σ1 (m + 2) (m + 5) := gw_fr_tr fr (show gw_fr _ σ1 (m + 2) (m + 5) by rw [eσ1]; exact gw_fr_up _ _ _ (by omega) (by omega))
      refine gw_iinc hX nd_Mo_take_42 2 rfl (v := nI (k + 1)) (show nI k + nI 1 = nI (k + 1) from nI_add _ _) (by decide) (L' := [(2, .int (nI (k + 1))), (0, .ref m), (1, .int (nI j))]) rfl ?_
      refine gw_goto (tgt := 14) hX nd_Mo_take_45 rfl ?_
      refine gw_cut (ks := [1, 2, 0]) (L' := [(0, .ref m), (1, .int (nI j)), (2, .int (nI (k + 1)))]) rfl ?_
      exact ih (u - 1) (by omega) (k + 1) _ (by omega) h0 h2 h3 h4 h6 h7 fr
set_option maxRecDepth 100000 in
set_option maxHeartbeats 4000000 in
theorem ct_Mo_take (l : Launch) (Z : gw_Z) (b0 : Nat) (σ : gw_S) (m : Nat) {th rs be se kp kw : Int32} {len sn mk ps : Nat} {bs s2 : Int64} (fm fb fl f5 f6 f7 : Nat → Int32) (j : Nat) (hj : j ≤ 8) (h0 : σ.2 m = some (.inr (1, [.int th, .int (nI len), .ref (m + 1), .int (nI sn), .ref (m + 2), .ref (m + 3), .ref (m + 4), .int rs, .ref (m + 5), .ref (m + 6), .ref (m + 7), .ref (m + 8), .ref (m + 9), .int (nI mk), .int (nI ps), .ref (m + 10), .ref (m + 11), .ref (m + 12), .long bs, .long s2, .int be, .int se, .int kp, .int kw]))) (h2 : σ.2 (m + 2) = some (gw_I Z 9 fm)) (h3 : σ.2 (m + 3) = some (gw_I Z 162 fb)) (h4 : σ.2 (m + 4) = some (gw_I Z 54 fl)) (h5 : σ.2 (m + 5) = some (gw_I Z 9 f5)) (h6 : σ.2 (m + 6) = some (gw_I Z 162 f6)) (h7 : σ.2 (m + 7) = some (gw_I Z 54 f7)) : gw_M l ny_Mo_take nc_Mo_take (3, 0, 0, 0, 0) none Z b0 σ [.ref m, .int (nI j)] (fun v σ' => v = none ∧ σ'.2 (m + 2) = some (gw_I Z 9 (upd fm j (f5 j))) ∧ σ'.2 (m + 3) = some (gw_I Z 162 (cp_f fb f6 (18 * j) (18 * j + 18))) ∧ σ'.2 (m + 4) = some (gw_I Z 54 (cp_f fl f7 (6 * j) (6 * j + 6))) ∧ gw_fr σ σ' (m + 2) (m + 5)) := by
  refine gw_M_of rfl (Nat.le_of_ble_eq_true rfl) ?_
  intro X hX hl hz hb0 hr hnm hQ
  subst hz hb0 hl
  have hX : gw_ok X nc_Mo_take "LabelLearnerModel" (3, 0, 0, 0, 0) := hX
  show gw_W X σ 0 0 0 [(0, .ref m), (1, .int (nI j))] []
  have fr : gw_fr σ σ (m + 2) (m + 5) := gw_fr_rf _ _ _
  refine gw_aload_n hX nd_Mo_take_0 rfl 0 rfl ?_
  refine gw_get hX kf_Mo_13 nd_Mo_take_1 h0 rfl ?_
  refine gw_iload_n hX nd_Mo_take_4 rfl 1 rfl ?_
  refine gw_aload_n hX nd_Mo_take_5 rfl 0 rfl ?_
  refine gw_get hX kf_Mo_22 nd_Mo_take_6 h0 rfl ?_
  refine gw_iload_n hX nd_Mo_take_9 rfl 1 rfl ?_
  refine gw_iald hX nd_Mo_take_10 h5 j rfl (by omega) (by decide) ?_
  refine gw_iast hX nd_Mo_take_11 h2 j rfl (by omega) (by decide) ?_
  obtain ⟨σ1, eσ1⟩ : ∃ hp_, hp_ = gw_up σ (m + 2) ((gw_I (gw_z X) 9 (upd fm j (f5 j)))) := ⟨_, rfl⟩
  refine gw_heap eσ1.symm ?_
  have h0 : σ1.2 m = some (.inr (1, [.int th, .int (nI len), .ref (m + 1), .int (nI sn), .ref (m + 2), .ref (m + 3), .ref (m + 4), .int rs, .ref (m + 5), .ref (m + 6), .ref (m + 7), .ref (m + 8), .ref (m + 9), .int (nI mk), .int (nI ps), .ref (m + 10), .ref (m + 11), .ref (m + 12), .long bs, .long s2, .int be, .int se, .int kp, .int kw])) := by rw [eσ1, gw_up_ne (by omega)]; exact h0
  have h2 : σ1.2 (m + 2) = some ((gw_I (gw_z X) 9 (upd fm j (f5 j)))) := by rw [eσ1]; exact gw_up_eq _ _ _
  have h3 : σ1.2 (m + 3) = some ((gw_I (gw_z X) 162 fb)) := by rw [eσ1, gw_up_ne (by omega)]; exact h3
  have h4 : σ1.2 (m + 4) = some ((gw_I (gw_z X) 54 fl)) := by rw [eσ1, gw_up_ne (by omega)]; exact h4
  have h6 : σ1.2 (m + 6) = some ((gw_I (gw_z X) 162 f6)) := by rw [eσ1, gw_up_ne (by omega)]; exact h6
  have h7 : σ1.2 (m + 7) = some ((gw_I (gw_z X) 54 f7)) := by rw [eσ1, gw_up_ne (by omega)]; exact h7
  have h5 : σ1.2 (m + 5) = some ((gw_I (gw_z X) 9 f5)) := by rw [eσ1, gw_up_ne (by omega)]; exact h5
  have fr : gw_fr σ σ1 (m + 2) (m + 5) := gw_fr_tr fr (show gw_fr _ σ1 (m + 2) (m + 5) by rw [eσ1]; exact gw_fr_up _ _ _ (by omega) (by omega))
  refine gw_iconst (v := nI 0) hX nd_Mo_take_12 rfl ?_
  refine gw_istore_n hX nd_Mo_take_13 rfl (by decide) (L' := [(2, .int (nI 0)), (0, .ref m), (1, .int (nI j))]) rfl ?_
  refine gw_cut (ks := [1, 2, 0]) (L' := [(0, .ref m), (1, .int (nI j)), (2, .int (nI 0))]) rfl ?_
  exact lp_Mo_take1 m fm fb fl f5 f6 f7 j hj hX hQ hr 18 0 _ (by omega) h0 h2 (by rw [cp_0]; exact h3) h4 h6 h7 fr
