set_option maxRecDepth 100000 in
set_option maxHeartbeats 4000000 in
theorem ct_Se_init (l : Launch) (Z : gw_Z) (b0 : Nat) (σ : gw_S) (a : Nat) (hsz : σ.1 = a + 1) (h0 : σ.2 a = some (.inr (5, [.null, .int (nI 0), .int (nI 0)]))) : gw_M l ny_Se_init nc_Se_init (1, 1, 24, 1, 18) none Z b0 σ [.ref a] (fun v σ' => v = none ∧ σ'.1 = a + 2 ∧ σ'.2 a = some (.inr (5, [.ref (a + 1), .int (nI 0), .int (nI 0)])) ∧ σ'.2 (a + 1) = some (gw_I Z 18 (fun _ => 0)) ∧ (∀ b, b < a → σ'.2 b = σ.2 b)) := by
  refine gw_M_of rfl (Nat.le_of_ble_eq_true rfl) ?_
  intro X hX hl hz hb0 hr hnm hQ
  subst hz hb0 hl
  have hX : gw_ok X nc_Se_init "LabelLearner$Sentence" (1, 1, 24, 1, 18) := hX
  show gw_W X σ 0 0 0 [(0, .ref a)] []
  have fr : ∀ b, b < a → σ.2 b = σ.2 b := fun _ _ => rfl
  refine gw_aload_n hX nd_Se_init_0 rfl 0 rfl ?_
  refine gw_obj hX ko_Se_3 ko_i ko_c nd_Se_init_1 (by decide) (by decide) ?_
  refine gw_aload_n hX nd_Se_init_4 rfl 0 rfl ?_
  refine gw_bipush (v := nI 18) hX nd_Se_init_5 rfl ?_
  refine gw_newI hX ka_int nd_Se_init_7 18 rfl (by decide) (by decide) (by decide) ?_
  obtain ⟨σ1, eσ1⟩ : ∃ hp_, hp_ = gw_nw σ ((gw_I (gw_z X) 18 (fun _ => 0))) := ⟨_, rfl⟩
  refine gw_heap eσ1.symm ?_
  rw [hsz]
  have h0 : σ1.2 a = some (.inr (5, [.null, .int (nI 0), .int (nI 0)])) := by rw [eσ1, gw_nw_ne (by omega)]; exact h0
  have g1 : σ1.2 (a + 1) = some ((gw_I (gw_z X) 18 (fun _ => 0))) := by rw [eσ1, ← hsz]; exact gw_nw_eq _ _
  have fr : ∀ b, b < a → σ1.2 b = σ.2 b := fun b hb9 => (show σ1.2 b = σ.2 b by rw [eσ1, gw_nw_ne (by omega)]).trans (fr b hb9)
  have hsz : σ1.1 = a + 2 := by rw [eσ1]; show σ.1 + 1 = _; omega
  refine gw_putF hX kf_Se_9 (fun C T N h => by cases h; rfl) hnm nd_Se_init_9 h0 rfl rfl (Nat.le_of_ble_eq_true rfl) (e' := .inr (5, [.ref (a + 1), .int (nI 0), .int (nI 0)])) rfl (gw_in_t 98 (by decide +kernel) rfl) ?_
  obtain ⟨σ2, eσ2⟩ : ∃ hp_, hp_ = gw_up σ1 a (.inr (5, [.ref (a + 1), .int (nI 0), .int (nI 0)])) := ⟨_, rfl⟩
  refine gw_heap eσ2.symm ?_
  have h0 : σ2.2 a = some (.inr (5, [.ref (a + 1), .int (nI 0), .int (nI 0)])) := by rw [eσ2]; exact gw_up_eq _ _ _
  have g1 : σ2.2 (a + 1) = some ((gw_I (gw_z X) 18 (fun _ => 0))) := by rw [eσ2, gw_up_ne (by omega)]; exact g1
  have fr : ∀ b, b < a → σ2.2 b = σ.2 b := fun b hb9 => (show σ2.2 b = σ1.2 b by rw [eσ2, gw_up_ne (by omega)]).trans (fr b hb9)
  have hsz : σ2.1 = a + 2 := by rw [eσ2]; exact hsz
  exact gw_vret hX hQ hr nd_Se_init_12 (by decide) (by decide) ⟨rfl, hsz, h0, g1, fr⟩
set_option maxRecDepth 100000 in
set_option maxHeartbeats 4000000 in
theorem ct_We_init (l : Launch) (Z : gw_Z) (b0 : Nat) (σ : gw_S) (a : Nat) (hsz : σ.1 = a + 1) (h0 : σ.2 a = some (.inr (7, [.null]))) : gw_M l ny_We_init nc_We_init (1, 1, 24, 1, 148) none Z b0 σ [.ref a] (fun v σ' => v = none ∧ σ'.1 = a + 2 ∧ σ'.2 a = some (.inr (7, [.ref (a + 1)])) ∧ σ'.2 (a + 1) = some (gw_J Z 148 (fun _ => 0)) ∧ (∀ b, b < a → σ'.2 b = σ.2 b)) := by
  refine gw_M_of rfl (Nat.le_of_ble_eq_true rfl) ?_
  intro X hX hl hz hb0 hr hnm hQ
  subst hz hb0 hl
  have hX : gw_ok X nc_We_init "LabelLearner$Weights" (1, 1, 24, 1, 148) := hX
  show gw_W X σ 0 0 0 [(0, .ref a)] []
  have fr : ∀ b, b < a → σ.2 b = σ.2 b := fun _ _ => rfl
  refine gw_aload_n hX nd_We_init_0 rfl 0 rfl ?_
  refine gw_obj hX ko_We_3 ko_i ko_c nd_We_init_1 (by decide) (by decide) ?_
  refine gw_aload_n hX nd_We_init_4 rfl 0 rfl ?_
  refine gw_sipush (v := nI 148) hX nd_We_init_5 rfl ?_
  refine gw_newJ hX ka_long nd_We_init_8 148 rfl (by decide) (by decide) (by decide) ?_
  obtain ⟨σ1, eσ1⟩ : ∃ hp_, hp_ = gw_nw σ ((gw_J (gw_z X) 148 (fun _ => 0))) := ⟨_, rfl⟩
  refine gw_heap eσ1.symm ?_
  rw [hsz]
  have h0 : σ1.2 a = some (.inr (7, [.null])) := by rw [eσ1, gw_nw_ne (by omega)]; exact h0
  have g1 : σ1.2 (a + 1) = some ((gw_J (gw_z X) 148 (fun _ => 0))) := by rw [eσ1, ← hsz]; exact gw_nw_eq _ _
  have fr : ∀ b, b < a → σ1.2 b = σ.2 b := fun b hb9 => (show σ1.2 b = σ.2 b by rw [eσ1, gw_nw_ne (by omega)]).trans (fr b hb9)
  have hsz : σ1.1 = a + 2 := by rw [eσ1]; show σ.1 + 1 = _; omega
  refine gw_putF hX kf_We_9 (fun C T N h => by cases h; rfl) hnm nd_We_init_10 h0 rfl rfl (Nat.le_of_ble_eq_true rfl) (e' := .inr (7, [.ref (a + 1)])) rfl (gw_in_t 81 (by decide +kernel) rfl) ?_
  obtain ⟨σ2, eσ2⟩ : ∃ hp_, hp_ = gw_up σ1 a (.inr (7, [.ref (a + 1)])) := ⟨_, rfl⟩
  refine gw_heap eσ2.symm ?_
  have h0 : σ2.2 a = some (.inr (7, [.ref (a + 1)])) := by rw [eσ2]; exact gw_up_eq _ _ _
  have g1 : σ2.2 (a + 1) = some ((gw_J (gw_z X) 148 (fun _ => 0))) := by rw [eσ2, gw_up_ne (by omega)]; exact g1
  have fr : ∀ b, b < a → σ2.2 b = σ.2 b := fun b hb9 => (show σ2.2 b = σ1.2 b by rw [eσ2, gw_up_ne (by omega)]).trans (fr b hb9)
  have hsz : σ2.1 = a + 2 := by rw [eσ2]; exact hsz
  exact gw_vret hX hQ hr nd_We_init_13 (by decide) (by decide) ⟨rfl, hsz, h0, g1, fr⟩
set_option maxRecDepth 100000 in
set_option maxHeartbeats 4000000 in
theorem ct_Te_init (l : Launch) (Z : gw_Z) (b0 : Nat) (σ : gw_S) (a : Nat) (hsz : σ.1 = a + 1) (h0 : σ.2 a = some (.inr (6, [.null, .int (nI 0), .int (nI 0)]))) : gw_M l ny_Te_init nc_Te_init (1, 1, 24, 1, 240) none Z b0 σ [.ref a] (fun v σ' => v = none ∧ σ'.1 = a + 2 ∧ σ'.2 a = some (.inr (6, [.ref (a + 1), .int (nI 0), .int (nI 0)])) ∧ σ'.2 (a + 1) = some (gw_Ch Z 240 (fun _ => 0)) ∧ (∀ b, b < a → σ'.2 b = σ.2 b)) := by
  refine gw_M_of rfl (Nat.le_of_ble_eq_true rfl) ?_
  intro X hX hl hz hb0 hr hnm hQ
  subst hz hb0 hl
  have hX : gw_ok X nc_Te_init "LabelLearner$Text" (1, 1, 24, 1, 240) := hX
  show gw_W X σ 0 0 0 [(0, .ref a)] []
  have fr : ∀ b, b < a → σ.2 b = σ.2 b := fun _ _ => rfl
  refine gw_aload_n hX nd_Te_init_0 rfl 0 rfl ?_
  refine gw_obj hX ko_Te_3 ko_i ko_c nd_Te_init_1 (by decide) (by decide) ?_
  refine gw_aload_n hX nd_Te_init_4 rfl 0 rfl ?_
  refine gw_sipush (v := nI 240) hX nd_Te_init_5 rfl ?_
  refine gw_newC hX ka_char nd_Te_init_8 240 rfl (by decide) (by decide) (by decide) ?_
  obtain ⟨σ1, eσ1⟩ : ∃ hp_, hp_ = gw_nw σ ((gw_Ch (gw_z X) 240 (fun _ => 0))) := ⟨_, rfl⟩
  refine gw_heap eσ1.symm ?_
  rw [hsz]
  have h0 : σ1.2 a = some (.inr (6, [.null, .int (nI 0), .int (nI 0)])) := by rw [eσ1, gw_nw_ne (by omega)]; exact h0
  have g1 : σ1.2 (a + 1) = some ((gw_Ch (gw_z X) 240 (fun _ => 0))) := by rw [eσ1, ← hsz]; exact gw_nw_eq _ _
  have fr : ∀ b, b < a → σ1.2 b = σ.2 b := fun b hb9 => (show σ1.2 b = σ.2 b by rw [eσ1, gw_nw_ne (by omega)]).trans (fr b hb9)
  have hsz : σ1.1 = a + 2 := by rw [eσ1]; show σ.1 + 1 = _; omega
  refine gw_putF hX kf_Te_9 (fun C T N h => by cases h; rfl) hnm nd_Te_init_10 h0 rfl rfl (Nat.le_of_ble_eq_true rfl) (e' := .inr (6, [.ref (a + 1), .int (nI 0), .int (nI 0)])) rfl (gw_in_t 30 (by decide +kernel) rfl) ?_
  obtain ⟨σ2, eσ2⟩ : ∃ hp_, hp_ = gw_up σ1 a (.inr (6, [.ref (a + 1), .int (nI 0), .int (nI 0)])) := ⟨_, rfl⟩
  refine gw_heap eσ2.symm ?_
  have h0 : σ2.2 a = some (.inr (6, [.ref (a + 1), .int (nI 0), .int (nI 0)])) := by rw [eσ2]; exact gw_up_eq _ _ _
  have g1 : σ2.2 (a + 1) = some ((gw_Ch (gw_z X) 240 (fun _ => 0))) := by rw [eσ2, gw_up_ne (by omega)]; exact g1
  have fr : ∀ b, b < a → σ2.2 b = σ.2 b := fun b hb9 => (show σ2.2 b = σ1.2 b by rw [eσ2, gw_up_ne (by omega)]).trans (fr b hb9)
  have hsz : σ2.1 = a + 2 := by rw [eσ2]; exact hsz
  exact gw_vret hX hQ hr nd_Te_init_13 (by decide) (by decide) ⟨rfl, hsz, h0, g1, fr⟩
set_option maxRecDepth 100000 in
set_option maxHeartbeats 4000000 in
theorem ct_Ra_init (l : Launch) (Z : gw_Z) (b0 : Nat) (σ : gw_S) (a : Nat) (hsz : σ.1 = a + 1) (h0 : σ.2 a = some (.inr (4, [.null, .null, .int (nI 0)]))) : gw_M l ny_Ra_init nc_Ra_init (1, 1, 24, 2, 4) none Z b0 σ [.ref a] (fun v σ' => v = none ∧ σ'.1 = a + 3 ∧ σ'.2 a = some (.inr (4, [.ref (a + 1), .ref (a + 2), .int (nI 0)])) ∧ σ'.2 (a + 1) = some (gw_J Z 2 (fun _ => 0)) ∧ σ'.2 (a + 2) = some (gw_I Z 2 (fun _ => 0)) ∧ (∀ b, b < a → σ'.2 b = σ.2 b)) := by
  refine gw_M_of rfl (Nat.le_of_ble_eq_true rfl) ?_
  intro X hX hl hz hb0 hr hnm hQ
  subst hz hb0 hl
  have hX : gw_ok X nc_Ra_init "LabelLearner$Ranking" (1, 1, 24, 2, 4) := hX
  show gw_W X σ 0 0 0 [(0, .ref a)] []
  have fr : ∀ b, b < a → σ.2 b = σ.2 b := fun _ _ => rfl
  refine gw_aload_n hX nd_Ra_init_0 rfl 0 rfl ?_
  refine gw_obj hX ko_Ra_3 ko_i ko_c nd_Ra_init_1 (by decide) (by decide) ?_
  refine gw_aload_n hX nd_Ra_init_4 rfl 0 rfl ?_
  refine gw_iconst (v := nI 2) hX nd_Ra_init_5 rfl ?_
  refine gw_newJ hX ka_long nd_Ra_init_6 2 rfl (by decide) (by decide) (by decide) ?_
  obtain ⟨σ1, eσ1⟩ : ∃ hp_, hp_ = gw_nw σ ((gw_J (gw_z X) 2 (fun _ => 0))) := ⟨_, rfl⟩
  refine gw_heap eσ1.symm ?_
  rw [hsz]
  have h0 : σ1.2 a = some (.inr (4, [.null, .null, .int (nI 0)])) := by rw [eσ1, gw_nw_ne (by omega)]; exact h0
  have g1 : σ1.2 (a + 1) = some ((gw_J (gw_z X) 2 (fun _ => 0))) := by rw [eσ1, ← hsz]; exact gw_nw_eq _ _
  have fr : ∀ b, b < a → σ1.2 b = σ.2 b := fun b hb9 => (show σ1.2 b = σ.2 b by rw [eσ1, gw_nw_ne (by omega)]).trans (fr b hb9)
  have hsz : σ1.1 = a + 2 := by rw [eσ1]; show σ.1 + 1 = _; omega
  refine gw_putF hX kf_Ra_9 (fun C T N h => by cases h; rfl) hnm nd_Ra_init_8 h0 rfl rfl (Nat.le_of_ble_eq_true rfl) (e' := .inr (4, [.ref (a + 1), .null, .int (nI 0)])) rfl (gw_in_t 54 (by decide +kernel) rfl) ?_
  obtain ⟨σ2, eσ2⟩ : ∃ hp_, hp_ = gw_up σ1 a (.inr (4, [.ref (a + 1), .null, .int (nI 0)])) := ⟨_, rfl⟩
  refine gw_heap eσ2.symm ?_
  have h0 : σ2.2 a = some (.inr (4, [.ref (a + 1), .null, .int (nI 0)])) := by rw [eσ2]; exact gw_up_eq _ _ _
  have g1 : σ2.2 (a + 1) = some ((gw_J (gw_z X) 2 (fun _ => 0))) := by rw [eσ2, gw_up_ne (by omega)]; exact g1
  have fr : ∀ b, b < a → σ2.2 b = σ.2 b := fun b hb9 => (show σ2.2 b = σ1.2 b by rw [eσ2, gw_up_ne (by omega)]).trans (fr b hb9)
  have hsz : σ2.1 = a + 2 := by rw [eσ2]; exact hsz
  refine gw_aload_n hX nd_Ra_init_11 rfl 0 rfl ?_
  refine gw_iconst (v := nI 2) hX nd_Ra_init_12 rfl ?_
  refine gw_newI hX ka_int nd_Ra_init_13 2 rfl (by decide) (by decide) (by decide) ?_
  obtain ⟨σ3, eσ3⟩ : ∃ hp_, hp_ = gw_nw σ2 ((gw_I (gw_z X) 2 (fun _ => 0))) := ⟨_, rfl⟩
  refine gw_heap eσ3.symm ?_
  rw [hsz]
  have h0 : σ3.2 a = some (.inr (4, [.ref (a + 1), .null, .int (nI 0)])) := by rw [eσ3, gw_nw_ne (by omega)]; exact h0
  have g1 : σ3.2 (a + 1) = some ((gw_J (gw_z X) 2 (fun _ => 0))) := by rw [eσ3, gw_nw_ne (by omega)]; exact g1
  have g2 : σ3.2 (a + 2) = some ((gw_I (gw_z X) 2 (fun _ => 0))) := by rw [eσ3, ← hsz]; exact gw_nw_eq _ _
  have fr : ∀ b, b < a → σ3.2 b = σ.2 b := fun b hb9 => (show σ3.2 b = σ2.2 b by rw [eσ3, gw_nw_ne (by omega)]).trans (fr b hb9)
  have hsz : σ3.1 = a + 3 := by rw [eσ3]; show σ2.1 + 1 = _; omega
  refine gw_putF hX kf_Ra_15 (fun C T N h => by cases h; rfl) hnm nd_Ra_init_15 h0 rfl rfl (Nat.le_of_ble_eq_true rfl) (e' := .inr (4, [.ref (a + 1), .ref (a + 2), .int (nI 0)])) rfl (gw_in_t 56 (by decide +kernel) rfl) ?_
  obtain ⟨σ4, eσ4⟩ : ∃ hp_, hp_ = gw_up σ3 a (.inr (4, [.ref (a + 1), .ref (a + 2), .int (nI 0)])) := ⟨_, rfl⟩
  refine gw_heap eσ4.symm ?_
  have h0 : σ4.2 a = some (.inr (4, [.ref (a + 1), .ref (a + 2), .int (nI 0)])) := by rw [eσ4]; exact gw_up_eq _ _ _
  have g1 : σ4.2 (a + 1) = some ((gw_J (gw_z X) 2 (fun _ => 0))) := by rw [eσ4, gw_up_ne (by omega)]; exact g1
  have g2 : σ4.2 (a + 2) = some ((gw_I (gw_z X) 2 (fun _ => 0))) := by rw [eσ4, gw_up_ne (by omega)]; exact g2
  have fr : ∀ b, b < a → σ4.2 b = σ.2 b := fun b hb9 => (show σ4.2 b = σ3.2 b by rw [eσ4, gw_up_ne (by omega)]).trans (fr b hb9)
  have hsz : σ4.1 = a + 3 := by rw [eσ4]; exact hsz
  exact gw_vret hX hQ hr nd_Ra_init_18 (by decide) (by decide) ⟨rfl, hsz, h0, g1, g2, fr⟩
