set_option maxRecDepth 100000 in
set_option maxHeartbeats 4000000 in
theorem ct_Mo_init (l : Launch) (Z : gw_Z) (b0 : Nat) (σ : gw_S) (a : Nat) (hsz : σ.1 = a + 1) (h0 : σ.2 a = some (.inr (1, [.int (nI 0), .int (nI 0), .null, .int (nI 0), .null, .null, .null, .int (nI 0), .null, .null, .null, .null, .null, .int (nI 0), .int (nI 0), .null, .null, .null, .long 0, .long 0, .int (nI 0), .int (nI 0), .int (nI 0), .int (nI 0)]))) : gw_M l ny_Mo_init nc_Mo_init (1, 1, 24, 12, 1023) none Z b0 σ [.ref a] (fun v σ' => v = none ∧ σ'.1 = a + 13 ∧ σ'.2 a = some (.inr (1, [.int (nI 0), .int (nI 0), .ref (a + 1), .int (nI 0), .ref (a + 2), .ref (a + 3), .ref (a + 4), .int (nI 0), .ref (a + 5), .ref (a + 6), .ref (a + 7), .ref (a + 8), .ref (a + 9), .int (nI 0), .int (nI 0), .ref (a + 10), .ref (a + 11), .ref (a + 12), .long 0, .long 0, .int (nI 0), .int (nI 0), .int ((-1)), .int (nI 0)])) ∧ σ'.2 (a + 1) = some (gw_I Z 240 (fun _ => 0)) ∧ σ'.2 (a + 2) = some (gw_I Z 9 (fun _ => 0)) ∧ σ'.2 (a + 3) = some (gw_I Z 162 (fun _ => 0)) ∧ σ'.2 (a + 4) = some (gw_I Z 54 (fun _ => 0)) ∧ σ'.2 (a + 5) = some (gw_I Z 9 (fun _ => 0)) ∧ σ'.2 (a + 6) = some (gw_I Z 162 (fun _ => 0)) ∧ σ'.2 (a + 7) = some (gw_I Z 54 (fun _ => 0)) ∧ σ'.2 (a + 8) = some (gw_J Z 148 (fun _ => 0)) ∧ σ'.2 (a + 9) = some (gw_J Z 148 (fun _ => 0)) ∧ σ'.2 (a + 10) = some (gw_J Z 24 (fun _ => 0)) ∧ σ'.2 (a + 11) = some (gw_I Z 6 (fun _ => 0)) ∧ σ'.2 (a + 12) = some (gw_J Z 7 (fun _ => 0)) ∧ (∀ b, b < a → σ'.2 b = σ.2 b)) := by
  refine gw_M_of rfl (Nat.le_of_ble_eq_true rfl) ?_
  intro X hX hl hz hb0 hr hnm hQ
  subst hz hb0 hl
  have hX : gw_ok X nc_Mo_init "LabelLearnerModel" (1, 1, 24, 12, 1023) := hX
  show gw_W X σ 0 0 0 [(0, .ref a)] []
  replace fr : ∀ b, b < a → σ.2 b = σ.2 b := fun _ _ => rfl
  refine gw_aload_n hX nd_Mo_init_0 rfl 0 rfl ?_
  refine gw_obj hX ko_Mo_1 ko_i ko_c nd_Mo_init_1 (by decide) (by decide) ?_
  refine gw_aload_n hX nd_Mo_init_4 rfl 0 rfl ?_
  refine gw_sipush (v := nI 240) hX nd_Mo_init_5 rfl ?_
  refine gw_newI hX ka_int nd_Mo_init_8 240 rfl (by decide) (by decide) (by decide) ?_
  obtain ⟨σ1, eσ1⟩ : ∃ hp_, hp_ = gw_nw σ ((gw_I (gw_z X) 240 (fun _ => 0))) := ⟨_, rfl⟩
  refine gw_heap eσ1.symm ?_
  rw [hsz]
  replace h0 : σ1.2 a = some (.inr (1, [.int (nI 0), .int (nI 0), .null, .int (nI 0), .null, .null, .null, .int (nI 0), .null, .null, .null, .null, .null, .int (nI 0), .int (nI 0), .null, .null, .null, .long 0, .long 0, .int (nI 0), .int (nI 0), .int (nI 0), .int (nI 0)])) := by rw [eσ1, gw_nw_ne (by omega)]; exact h0
  replace g1 : σ1.2 (a + 1) = some ((gw_I (gw_z X) 240 (fun _ => 0))) := by rw [eσ1, ← hsz]; exact gw_nw_eq _ _
  replace fr : ∀ b, b < a → σ1.2 b = σ.2 b := fun b hb9 => (show σ1.2 b = σ.2 b by rw [eσ1, gw_nw_ne (by omega)]).trans (fr b hb9)
  replace hsz : σ1.1 = a + 2 := by rw [eσ1]; show σ.1 + 1 = _; omega
  refine gw_putF hX kf_Mo_7 (fun C T N h => by cases h; rfl) hnm nd_Mo_init_10 h0 rfl rfl (Nat.le_of_ble_eq_true rfl) (e' := .inr (1, [.int (nI 0), .int (nI 0), .ref (a + 1), .int (nI 0), .null, .null, .null, .int (nI 0), .null, .null, .null, .null, .null, .int (nI 0), .int (nI 0), .null, .null, .null, .long 0, .long 0, .int (nI 0), .int (nI 0), .int (nI 0), .int (nI 0)])) rfl (gw_in_t 537 (by decide +kernel) rfl) ?_
  obtain ⟨σ2, eσ2⟩ : ∃ hp_, hp_ = gw_up σ1 a (.inr (1, [.int (nI 0), .int (nI 0), .ref (a + 1), .int (nI 0), .null, .null, .null, .int (nI 0), .null, .null, .null, .null, .null, .int (nI 0), .int (nI 0), .null, .null, .null, .long 0, .long 0, .int (nI 0), .int (nI 0), .int (nI 0), .int (nI 0)])) := ⟨_, rfl⟩
  refine gw_heap eσ2.symm ?_
  replace h0 : σ2.2 a = some (.inr (1, [.int (nI 0), .int (nI 0), .ref (a + 1), .int (nI 0), .null, .null, .null, .int (nI 0), .null, .null, .null, .null, .null, .int (nI 0), .int (nI 0), .null, .null, .null, .long 0, .long 0, .int (nI 0), .int (nI 0), .int (nI 0), .int (nI 0)])) := by rw [eσ2]; exact gw_up_eq _ _ _
  replace g1 : σ2.2 (a + 1) = some ((gw_I (gw_z X) 240 (fun _ => 0))) := by rw [eσ2, gw_up_ne (by omega)]; exact g1
  replace fr : ∀ b, b < a → σ2.2 b = σ.2 b := fun b hb9 => (show σ2.2 b = σ1.2 b by rw [eσ2, gw_up_ne (by omega)]).trans (fr b hb9)
  replace hsz : σ2.1 = a + 2 := by rw [eσ2]; exact hsz
  refine gw_aload_n hX nd_Mo_init_13 rfl 0 rfl ?_
  refine gw_bipush (v := nI 9) hX nd_Mo_init_14 rfl ?_
  refine gw_newI hX ka_int nd_Mo_init_16 9 rfl (by decide) (by decide) (by decide) ?_
  obtain ⟨σ3, eσ3⟩ : ∃ hp_, hp_ = gw_nw σ2 ((gw_I (gw_z X) 9 (fun _ => 0))) := ⟨_, rfl⟩
  refine gw_heap eσ3.symm ?_
  rw [hsz]
  replace h0 : σ3.2 a = some (.inr (1, [.int (nI 0), .int (nI 0), .ref (a + 1), .int (nI 0), .null, .null, .null, .int (nI 0), .null, .null, .null, .null, .null, .int (nI 0), .int (nI 0), .null, .null, .null, .long 0, .long 0, .int (nI 0), .int (nI 0), .int (nI 0), .int (nI 0)])) := by rw [eσ3, gw_nw_ne (by omega)]; exact h0
  replace g1 : σ3.2 (a + 1) = some ((gw_I (gw_z X) 240 (fun _ => 0))) := by rw [eσ3, gw_nw_ne (by omega)]; exact g1
  replace g2 : σ3.2 (a + 2) = some ((gw_I (gw_z X) 9 (fun _ => 0))) := by rw [eσ3, ← hsz]; exact gw_nw_eq _ _
  replace fr : ∀ b, b < a → σ3.2 b = σ.2 b := fun b hb9 => (show σ3.2 b = σ2.2 b by rw [eσ3, gw_nw_ne (by omega)]).trans (fr b hb9)
  replace hsz : σ3.1 = a + 3 := by rw [eσ3]; show σ2.1 + 1 = _; omega
  refine gw_putF hX kf_Mo_13 (fun C T N h => by cases h; rfl) hnm nd_Mo_init_18 h0 rfl rfl (Nat.le_of_ble_eq_true rfl) (e' := .inr (1, [.int (nI 0), .int (nI 0), .ref (a + 1), .int (nI 0), .ref (a + 2), .null, .null, .int (nI 0), .null, .null, .null, .null, .null, .int (nI 0), .int (nI 0), .null, .null, .null, .long 0, .long 0, .int (nI 0), .int (nI 0), .int (nI 0), .int (nI 0)])) rfl (gw_in_t 539 (by decide +kernel) rfl) ?_
  obtain ⟨σ4, eσ4⟩ : ∃ hp_, hp_ = gw_up σ3 a (.inr (1, [.int (nI 0), .int (nI 0), .ref (a + 1), .int (nI 0), .ref (a + 2), .null, .null, .int (nI 0), .null, .null, .null, .null, .null, .int (nI 0), .int (nI 0), .null, .null, .null, .long 0, .long 0, .int (nI 0), .int (nI 0), .int (nI 0), .int (nI 0)])) := ⟨_, rfl⟩
  refine gw_heap eσ4.symm ?_
  replace h0 : σ4.2 a = some (.inr (1, [.int (nI 0), .int (nI 0), .ref (a + 1), .int (nI 0), .ref (a + 2), .null, .null, .int (nI 0), .null, .null, .null, .null, .null, .int (nI 0), .int (nI 0), .null, .null, .null, .long 0, .long 0, .int (nI 0), .int (nI 0), .int (nI 0), .int (nI 0)])) := by rw [eσ4]; exact gw_up_eq _ _ _
  replace g1 : σ4.2 (a + 1) = some ((gw_I (gw_z X) 240 (fun _ => 0))) := by rw [eσ4, gw_up_ne (by omega)]; exact g1
  replace g2 : σ4.2 (a + 2) = some ((gw_I (gw_z X) 9 (fun _ => 0))) := by rw [eσ4, gw_up_ne (by omega)]; exact g2
  replace fr : ∀ b, b < a → σ4.2 b = σ.2 b := fun b hb9 => (show σ4.2 b = σ3.2 b by rw [eσ4, gw_up_ne (by omega)]).trans (fr b hb9)
  replace hsz : σ4.1 = a + 3 := by rw [eσ4]; exact hsz
  refine gw_aload_n hX nd_Mo_init_21 rfl 0 rfl ?_
  refine gw_sipush (v := nI 162) hX nd_Mo_init_22 rfl ?_
  refine gw_newI hX ka_int nd_Mo_init_25 162 rfl (by decide) (by decide) (by decide) ?_
  obtain ⟨σ5, eσ5⟩ : ∃ hp_, hp_ = gw_nw σ4 ((gw_I (gw_z X) 162 (fun _ => 0))) := ⟨_, rfl⟩
  refine gw_heap eσ5.symm ?_
  rw [hsz]
  replace h0 : σ5.2 a = some (.inr (1, [.int (nI 0), .int (nI 0), .ref (a + 1), .int (nI 0), .ref (a + 2), .null, .null, .int (nI 0), .null, .null, .null, .null, .null, .int (nI 0), .int (nI 0), .null, .null, .null, .long 0, .long 0, .int (nI 0), .int (nI 0), .int (nI 0), .int (nI 0)])) := by rw [eσ5, gw_nw_ne (by omega)]; exact h0
  replace g1 : σ5.2 (a + 1) = some ((gw_I (gw_z X) 240 (fun _ => 0))) := by rw [eσ5, gw_nw_ne (by omega)]; exact g1
  replace g2 : σ5.2 (a + 2) = some ((gw_I (gw_z X) 9 (fun _ => 0))) := by rw [eσ5, gw_nw_ne (by omega)]; exact g2
  replace g3 : σ5.2 (a + 3) = some ((gw_I (gw_z X) 162 (fun _ => 0))) := by rw [eσ5, ← hsz]; exact gw_nw_eq _ _
  replace fr : ∀ b, b < a → σ5.2 b = σ.2 b := fun b hb9 => (show σ5.2 b = σ4.2 b by rw [eσ5, gw_nw_ne (by omega)]).trans (fr b hb9)
  replace hsz : σ5.1 = a + 4 := by rw [eσ5]; show σ4.1 + 1 = _; omega
  refine gw_putF hX kf_Mo_16 (fun C T N h => by cases h; rfl) hnm nd_Mo_init_27 h0 rfl rfl (Nat.le_of_ble_eq_true rfl) (e' := .inr (1, [.int (nI 0), .int (nI 0), .ref (a + 1), .int (nI 0), .ref (a + 2), .ref (a + 3), .null, .int (nI 0), .null, .null, .null, .null, .null, .int (nI 0), .int (nI 0), .null, .null, .null, .long 0, .long 0, .int (nI 0), .int (nI 0), .int (nI 0), .int (nI 0)])) rfl (gw_in_t 540 (by decide +kernel) rfl) ?_
  obtain ⟨σ6, eσ6⟩ : ∃ hp_, hp_ = gw_up σ5 a (.inr (1, [.int (nI 0), .int (nI 0), .ref (a + 1), .int (nI 0), .ref (a + 2), .ref (a + 3), .null, .int (nI 0), .null, .null, .null, .null, .null, .int (nI 0), .int (nI 0), .null, .null, .null, .long 0, .long 0, .int (nI 0), .int (nI 0), .int (nI 0), .int (nI 0)])) := ⟨_, rfl⟩
  refine gw_heap eσ6.symm ?_
  replace h0 : σ6.2 a = some (.inr (1, [.int (nI 0), .int (nI 0), .ref (a + 1), .int (nI 0), .ref (a + 2), .ref (a + 3), .null, .int (nI 0), .null, .null, .null, .null, .null, .int (nI 0), .int (nI 0), .null, .null, .null, .long 0, .long 0, .int (nI 0), .int (nI 0), .int (nI 0), .int (nI 0)])) := by rw [eσ6]; exact gw_up_eq _ _ _
  replace g1 : σ6.2 (a + 1) = some ((gw_I (gw_z X) 240 (fun _ => 0))) := by rw [eσ6, gw_up_ne (by omega)]; exact g1
  replace g2 : σ6.2 (a + 2) = some ((gw_I (gw_z X) 9 (fun _ => 0))) := by rw [eσ6, gw_up_ne (by omega)]; exact g2
  replace g3 : σ6.2 (a + 3) = some ((gw_I (gw_z X) 162 (fun _ => 0))) := by rw [eσ6, gw_up_ne (by omega)]; exact g3
  replace fr : ∀ b, b < a → σ6.2 b = σ.2 b := fun b hb9 => (show σ6.2 b = σ5.2 b by rw [eσ6, gw_up_ne (by omega)]).trans (fr b hb9)
  replace hsz : σ6.1 = a + 4 := by rw [eσ6]; exact hsz
  refine gw_aload_n hX nd_Mo_init_30 rfl 0 rfl ?_
  refine gw_bipush (v := nI 54) hX nd_Mo_init_31 rfl ?_
  refine gw_newI hX ka_int nd_Mo_init_33 54 rfl (by decide) (by decide) (by decide) ?_
  obtain ⟨σ7, eσ7⟩ : ∃ hp_, hp_ = gw_nw σ6 ((gw_I (gw_z X) 54 (fun _ => 0))) := ⟨_, rfl⟩
  refine gw_heap eσ7.symm ?_
  rw [hsz]
  replace h0 : σ7.2 a = some (.inr (1, [.int (nI 0), .int (nI 0), .ref (a + 1), .int (nI 0), .ref (a + 2), .ref (a + 3), .null, .int (nI 0), .null, .null, .null, .null, .null, .int (nI 0), .int (nI 0), .null, .null, .null, .long 0, .long 0, .int (nI 0), .int (nI 0), .int (nI 0), .int (nI 0)])) := by rw [eσ7, gw_nw_ne (by omega)]; exact h0
  replace g1 : σ7.2 (a + 1) = some ((gw_I (gw_z X) 240 (fun _ => 0))) := by rw [eσ7, gw_nw_ne (by omega)]; exact g1
  replace g2 : σ7.2 (a + 2) = some ((gw_I (gw_z X) 9 (fun _ => 0))) := by rw [eσ7, gw_nw_ne (by omega)]; exact g2
  replace g3 : σ7.2 (a + 3) = some ((gw_I (gw_z X) 162 (fun _ => 0))) := by rw [eσ7, gw_nw_ne (by omega)]; exact g3
  replace g4 : σ7.2 (a + 4) = some ((gw_I (gw_z X) 54 (fun _ => 0))) := by rw [eσ7, ← hsz]; exact gw_nw_eq _ _
  replace fr : ∀ b, b < a → σ7.2 b = σ.2 b := fun b hb9 => (show σ7.2 b = σ6.2 b by rw [eσ7, gw_nw_ne (by omega)]).trans (fr b hb9)
  replace hsz : σ7.1 = a + 5 := by rw [eσ7]; show σ6.1 + 1 = _; omega
  refine gw_putF hX kf_Mo_19 (fun C T N h => by cases h; rfl) hnm nd_Mo_init_35 h0 rfl rfl (Nat.le_of_ble_eq_true rfl) (e' := .inr (1, [.int (nI 0), .int (nI 0), .ref (a + 1), .int (nI 0), .ref (a + 2), .ref (a + 3), .ref (a + 4), .int (nI 0), .null, .null, .null, .null, .null, .int (nI 0), .int (nI 0), .null, .null, .null, .long 0, .long 0, .int (nI 0), .int (nI 0), .int (nI 0), .int (nI 0)])) rfl (gw_in_t 541 (by decide +kernel) rfl) ?_
  obtain ⟨σ8, eσ8⟩ : ∃ hp_, hp_ = gw_up σ7 a (.inr (1, [.int (nI 0), .int (nI 0), .ref (a + 1), .int (nI 0), .ref (a + 2), .ref (a + 3), .ref (a + 4), .int (nI 0), .null, .null, .null, .null, .null, .int (nI 0), .int (nI 0), .null, .null, .null, .long 0, .long 0, .int (nI 0), .int (nI 0), .int (nI 0), .int (nI 0)])) := ⟨_, rfl⟩
  refine gw_heap eσ8.symm ?_
  replace h0 : σ8.2 a = some (.inr (1, [.int (nI 0), .int (nI 0), .ref (a + 1), .int (nI 0), .ref (a + 2), .ref (a + 3), .ref (a + 4), .int (nI 0), .null, .null, .null, .null, .null, .int (nI 0), .int (nI 0), .null, .null, .null, .long 0, .long 0, .int (nI 0), .int (nI 0), .int (nI 0), .int (nI 0)])) := by rw [eσ8]; exact gw_up_eq _ _ _
  replace g1 : σ8.2 (a + 1) = some ((gw_I (gw_z X) 240 (fun _ => 0))) := by rw [eσ8, gw_up_ne (by omega)]; exact g1
  replace g2 : σ8.2 (a + 2) = some ((gw_I (gw_z X) 9 (fun _ => 0))) := by rw [eσ8, gw_up_ne (by omega)]; exact g2
  replace g3 : σ8.2 (a + 3) = some ((gw_I (gw_z X) 162 (fun _ => 0))) := by rw [eσ8, gw_up_ne (by omega)]; exact g3
  replace g4 : σ8.2 (a + 4) = some ((gw_I (gw_z X) 54 (fun _ => 0))) := by rw [eσ8, gw_up_ne (by omega)]; exact g4
  replace fr : ∀ b, b < a → σ8.2 b = σ.2 b := fun b hb9 => (show σ8.2 b = σ7.2 b by rw [eσ8, gw_up_ne (by omega)]).trans (fr b hb9)
  replace hsz : σ8.1 = a + 5 := by rw [eσ8]; exact hsz
  refine gw_aload_n hX nd_Mo_init_38 rfl 0 rfl ?_
  refine gw_bipush (v := nI 9) hX nd_Mo_init_39 rfl ?_
  refine gw_newI hX ka_int nd_Mo_init_41 9 rfl (by decide) (by decide) (by decide) ?_
  obtain ⟨σ9, eσ9⟩ : ∃ hp_, hp_ = gw_nw σ8 ((gw_I (gw_z X) 9 (fun _ => 0))) := ⟨_, rfl⟩
  refine gw_heap eσ9.symm ?_
  rw [hsz]
  replace h0 : σ9.2 a = some (.inr (1, [.int (nI 0), .int (nI 0), .ref (a + 1), .int (nI 0), .ref (a + 2), .ref (a + 3), .ref (a + 4), .int (nI 0), .null, .null, .null, .null, .null, .int (nI 0), .int (nI 0), .null, .null, .null, .long 0, .long 0, .int (nI 0), .int (nI 0), .int (nI 0), .int (nI 0)])) := by rw [eσ9, gw_nw_ne (by omega)]; exact h0
  replace g1 : σ9.2 (a + 1) = some ((gw_I (gw_z X) 240 (fun _ => 0))) := by rw [eσ9, gw_nw_ne (by omega)]; exact g1
  replace g2 : σ9.2 (a + 2) = some ((gw_I (gw_z X) 9 (fun _ => 0))) := by rw [eσ9, gw_nw_ne (by omega)]; exact g2
  replace g3 : σ9.2 (a + 3) = some ((gw_I (gw_z X) 162 (fun _ => 0))) := by rw [eσ9, gw_nw_ne (by omega)]; exact g3
  replace g4 : σ9.2 (a + 4) = some ((gw_I (gw_z X) 54 (fun _ => 0))) := by rw [eσ9, gw_nw_ne (by omega)]; exact g4
  replace g5 : σ9.2 (a + 5) = some ((gw_I (gw_z X) 9 (fun _ => 0))) := by rw [eσ9, ← hsz]; exact gw_nw_eq _ _
  replace fr : ∀ b, b < a → σ9.2 b = σ.2 b := fun b hb9 => (show σ9.2 b = σ8.2 b by rw [eσ9, gw_nw_ne (by omega)]).trans (fr b hb9)
  replace hsz : σ9.1 = a + 6 := by rw [eσ9]; show σ8.1 + 1 = _; omega
  refine gw_putF hX kf_Mo_22 (fun C T N h => by cases h; rfl) hnm nd_Mo_init_43 h0 rfl rfl (Nat.le_of_ble_eq_true rfl) (e' := .inr (1, [.int (nI 0), .int (nI 0), .ref (a + 1), .int (nI 0), .ref (a + 2), .ref (a + 3), .ref (a + 4), .int (nI 0), .ref (a + 5), .null, .null, .null, .null, .int (nI 0), .int (nI 0), .null, .null, .null, .long 0, .long 0, .int (nI 0), .int (nI 0), .int (nI 0), .int (nI 0)])) rfl (gw_in_t 543 (by decide +kernel) rfl) ?_
  obtain ⟨σ10, eσ10⟩ : ∃ hp_, hp_ = gw_up σ9 a (.inr (1, [.int (nI 0), .int (nI 0), .ref (a + 1), .int (nI 0), .ref (a + 2), .ref (a + 3), .ref (a + 4), .int (nI 0), .ref (a + 5), .null, .null, .null, .null, .int (nI 0), .int (nI 0), .null, .null, .null, .long 0, .long 0, .int (nI 0), .int (nI 0), .int (nI 0), .int (nI 0)])) := ⟨_, rfl⟩
  refine gw_heap eσ10.symm ?_
  replace h0 : σ10.2 a = some (.inr (1, [.int (nI 0), .int (nI 0), .ref (a + 1), .int (nI 0), .ref (a + 2), .ref (a + 3), .ref (a + 4), .int (nI 0), .ref (a + 5), .null, .null, .null, .null, .int (nI 0), .int (nI 0), .null, .null, .null, .long 0, .long 0, .int (nI 0), .int (nI 0), .int (nI 0), .int (nI 0)])) := by rw [eσ10]; exact gw_up_eq _ _ _
  replace g1 : σ10.2 (a + 1) = some ((gw_I (gw_z X) 240 (fun _ => 0))) := by rw [eσ10, gw_up_ne (by omega)]; exact g1
  replace g2 : σ10.2 (a + 2) = some ((gw_I (gw_z X) 9 (fun _ => 0))) := by rw [eσ10, gw_up_ne (by omega)]; exact g2
  replace g3 : σ10.2 (a + 3) = some ((gw_I (gw_z X) 162 (fun _ => 0))) := by rw [eσ10, gw_up_ne (by omega)]; exact g3
  replace g4 : σ10.2 (a + 4) = some ((gw_I (gw_z X) 54 (fun _ => 0))) := by rw [eσ10, gw_up_ne (by omega)]; exact g4
  replace g5 : σ10.2 (a + 5) = some ((gw_I (gw_z X) 9 (fun _ => 0))) := by rw [eσ10, gw_up_ne (by omega)]; exact g5
  replace fr : ∀ b, b < a → σ10.2 b = σ.2 b := fun b hb9 => (show σ10.2 b = σ9.2 b by rw [eσ10, gw_up_ne (by omega)]).trans (fr b hb9)
  replace hsz : σ10.1 = a + 6 := by rw [eσ10]; exact hsz
  refine gw_aload_n hX nd_Mo_init_46 rfl 0 rfl ?_
  refine gw_sipush (v := nI 162) hX nd_Mo_init_47 rfl ?_
  refine gw_newI hX ka_int nd_Mo_init_50 162 rfl (by decide) (by decide) (by decide) ?_
  obtain ⟨σ11, eσ11⟩ : ∃ hp_, hp_ = gw_nw σ10 ((gw_I (gw_z X) 162 (fun _ => 0))) := ⟨_, rfl⟩
  refine gw_heap eσ11.symm ?_
  rw [hsz]
  replace h0 : σ11.2 a = some (.inr (1, [.int (nI 0), .int (nI 0), .ref (a + 1), .int (nI 0), .ref (a + 2), .ref (a + 3), .ref (a + 4), .int (nI 0), .ref (a + 5), .null, .null, .null, .null, .int (nI 0), .int (nI 0), .null, .null, .null, .long 0, .long 0, .int (nI 0), .int (nI 0), .int (nI 0), .int (nI 0)])) := by rw [eσ11, gw_nw_ne (by omega)]; exact h0
  replace g1 : σ11.2 (a + 1) = some ((gw_I (gw_z X) 240 (fun _ => 0))) := by rw [eσ11, gw_nw_ne (by omega)]; exact g1
  replace g2 : σ11.2 (a + 2) = some ((gw_I (gw_z X) 9 (fun _ => 0))) := by rw [eσ11, gw_nw_ne (by omega)]; exact g2
  replace g3 : σ11.2 (a + 3) = some ((gw_I (gw_z X) 162 (fun _ => 0))) := by rw [eσ11, gw_nw_ne (by omega)]; exact g3
  replace g4 : σ11.2 (a + 4) = some ((gw_I (gw_z X) 54 (fun _ => 0))) := by rw [eσ11, gw_nw_ne (by omega)]; exact g4
  replace g5 : σ11.2 (a + 5) = some ((gw_I (gw_z X) 9 (fun _ => 0))) := by rw [eσ11, gw_nw_ne (by omega)]; exact g5
  replace g6 : σ11.2 (a + 6) = some ((gw_I (gw_z X) 162 (fun _ => 0))) := by rw [eσ11, ← hsz]; exact gw_nw_eq _ _
  replace fr : ∀ b, b < a → σ11.2 b = σ.2 b := fun b hb9 => (show σ11.2 b = σ10.2 b by rw [eσ11, gw_nw_ne (by omega)]).trans (fr b hb9)
  replace hsz : σ11.1 = a + 7 := by rw [eσ11]; show σ10.1 + 1 = _; omega
  refine gw_putF hX kf_Mo_25 (fun C T N h => by cases h; rfl) hnm nd_Mo_init_52 h0 rfl rfl (Nat.le_of_ble_eq_true rfl) (e' := .inr (1, [.int (nI 0), .int (nI 0), .ref (a + 1), .int (nI 0), .ref (a + 2), .ref (a + 3), .ref (a + 4), .int (nI 0), .ref (a + 5), .ref (a + 6), .null, .null, .null, .int (nI 0), .int (nI 0), .null, .null, .null, .long 0, .long 0, .int (nI 0), .int (nI 0), .int (nI 0), .int (nI 0)])) rfl (gw_in_t 544 (by decide +kernel) rfl) ?_
  obtain ⟨σ12, eσ12⟩ : ∃ hp_, hp_ = gw_up σ11 a (.inr (1, [.int (nI 0), .int (nI 0), .ref (a + 1), .int (nI 0), .ref (a + 2), .ref (a + 3), .ref (a + 4), .int (nI 0), .ref (a + 5), .ref (a + 6), .null, .null, .null, .int (nI 0), .int (nI 0), .null, .null, .null, .long 0, .long 0, .int (nI 0), .int (nI 0), .int (nI 0), .int (nI 0)])) := ⟨_, rfl⟩
  refine gw_heap eσ12.symm ?_
  replace h0 : σ12.2 a = some (.inr (1, [.int (nI 0), .int (nI 0), .ref (a + 1), .int (nI 0), .ref (a + 2), .ref (a + 3), .ref (a + 4), .int (nI 0), .ref (a + 5), .ref (a + 6), .null, .null, .null, .int (nI 0), .int (nI 0), .null, .null, .null, .long 0, .long 0, .int (nI 0), .int (nI 0), .int (nI 0), .int (nI 0)])) := by rw [eσ12]; exact gw_up_eq _ _ _
  replace g1 : σ12.2 (a + 1) = some ((gw_I (gw_z X) 240 (fun _ => 0))) := by rw [eσ12, gw_up_ne (by omega)]; exact g1
  replace g2 : σ12.2 (a + 2) = some ((gw_I (gw_z X) 9 (fun _ => 0))) := by rw [eσ12, gw_up_ne (by omega)]; exact g2
  replace g3 : σ12.2 (a + 3) = some ((gw_I (gw_z X) 162 (fun _ => 0))) := by rw [eσ12, gw_up_ne (by omega)]; exact g3
  replace g4 : σ12.2 (a + 4) = some ((gw_I (gw_z X) 54 (fun _ => 0))) := by rw [eσ12, gw_up_ne (by omega)]; exact g4
  replace g5 : σ12.2 (a + 5) = some ((gw_I (gw_z X) 9 (fun _ => 0))) := by rw [eσ12, gw_up_ne (by omega)]; exact g5
  replace g6 : σ12.2 (a + 6) = some ((gw_I (gw_z X) 162 (fun _ => 0))) := by rw [eσ12, gw_up_ne (by omega)]; exact g6
  replace fr : ∀ b, b < a → σ12.2 b = σ.2 b := fun b hb9 => (show σ12.2 b = σ11.2 b by rw [eσ12, gw_up_ne (by omega)]).trans (fr b hb9)
  replace hsz : σ12.1 = a + 7 := by rw [eσ12]; exact hsz
  refine gw_aload_n hX nd_Mo_init_55 rfl 0 rfl ?_
  refine gw_bipush (v := nI 54) hX nd_Mo_init_56 rfl ?_
  refine gw_newI hX ka_int nd_Mo_init_58 54 rfl (by decide) (by decide) (by decide) ?_
  obtain ⟨σ13, eσ13⟩ : ∃ hp_, hp_ = gw_nw σ12 ((gw_I (gw_z X) 54 (fun _ => 0))) := ⟨_, rfl⟩
  refine gw_heap eσ13.symm ?_
  rw [hsz]
  replace h0 : σ13.2 a = some (.inr (1, [.int (nI 0), .int (nI 0), .ref (a + 1), .int (nI 0), .ref (a + 2), .ref (a + 3), .ref (a + 4), .int (nI 0), .ref (a + 5), .ref (a + 6), .null, .null, .null, .int (nI 0), .int (nI 0), .null, .null, .null, .long 0, .long 0, .int (nI 0), .int (nI 0), .int (nI 0), .int (nI 0)])) := by rw [eσ13, gw_nw_ne (by omega)]; exact h0
  replace g1 : σ13.2 (a + 1) = some ((gw_I (gw_z X) 240 (fun _ => 0))) := by rw [eσ13, gw_nw_ne (by omega)]; exact g1
  replace g2 : σ13.2 (a + 2) = some ((gw_I (gw_z X) 9 (fun _ => 0))) := by rw [eσ13, gw_nw_ne (by omega)]; exact g2
  replace g3 : σ13.2 (a + 3) = some ((gw_I (gw_z X) 162 (fun _ => 0))) := by rw [eσ13, gw_nw_ne (by omega)]; exact g3
  replace g4 : σ13.2 (a + 4) = some ((gw_I (gw_z X) 54 (fun _ => 0))) := by rw [eσ13, gw_nw_ne (by omega)]; exact g4
  replace g5 : σ13.2 (a + 5) = some ((gw_I (gw_z X) 9 (fun _ => 0))) := by rw [eσ13, gw_nw_ne (by omega)]; exact g5
  replace g6 : σ13.2 (a + 6) = some ((gw_I (gw_z X) 162 (fun _ => 0))) := by rw [eσ13, gw_nw_ne (by omega)]; exact g6
  replace g7 : σ13.2 (a + 7) = some ((gw_I (gw_z X) 54 (fun _ => 0))) := by rw [eσ13, ← hsz]; exact gw_nw_eq _ _
  replace fr : ∀ b, b < a → σ13.2 b = σ.2 b := fun b hb9 => (show σ13.2 b = σ12.2 b by rw [eσ13, gw_nw_ne (by omega)]).trans (fr b hb9)
  replace hsz : σ13.1 = a + 8 := by rw [eσ13]; show σ12.1 + 1 = _; omega
  refine gw_putF hX kf_Mo_28 (fun C T N h => by cases h; rfl) hnm nd_Mo_init_60 h0 rfl rfl (Nat.le_of_ble_eq_true rfl) (e' := .inr (1, [.int (nI 0), .int (nI 0), .ref (a + 1), .int (nI 0), .ref (a + 2), .ref (a + 3), .ref (a + 4), .int (nI 0), .ref (a + 5), .ref (a + 6), .ref (a + 7), .null, .null, .int (nI 0), .int (nI 0), .null, .null, .null, .long 0, .long 0, .int (nI 0), .int (nI 0), .int (nI 0), .int (nI 0)])) rfl (gw_in_t 545 (by decide +kernel) rfl) ?_
  obtain ⟨σ14, eσ14⟩ : ∃ hp_, hp_ = gw_up σ13 a (.inr (1, [.int (nI 0), .int (nI 0), .ref (a + 1), .int (nI 0), .ref (a + 2), .ref (a + 3), .ref (a + 4), .int (nI 0), .ref (a + 5), .ref (a + 6), .ref (a + 7), .null, .null, .int (nI 0), .int (nI 0), .null, .null, .null, .long 0, .long 0, .int (nI 0), .int (nI 0), .int (nI 0), .int (nI 0)])) := ⟨_, rfl⟩
  refine gw_heap eσ14.symm ?_
  replace h0 : σ14.2 a = some (.inr (1, [.int (nI 0), .int (nI 0), .ref (a + 1), .int (nI 0), .ref (a + 2), .ref (a + 3), .ref (a + 4), .int (nI 0), .ref (a + 5), .ref (a + 6), .ref (a + 7), .null, .null, .int (nI 0), .int (nI 0), .null, .null, .null, .long 0, .long 0, .int (nI 0), .int (nI 0), .int (nI 0), .int (nI 0)])) := by rw [eσ14]; exact gw_up_eq _ _ _
  replace g1 : σ14.2 (a + 1) = some ((gw_I (gw_z X) 240 (fun _ => 0))) := by rw [eσ14, gw_up_ne (by omega)]; exact g1
  replace g2 : σ14.2 (a + 2) = some ((gw_I (gw_z X) 9 (fun _ => 0))) := by rw [eσ14, gw_up_ne (by omega)]; exact g2
  replace g3 : σ14.2 (a + 3) = some ((gw_I (gw_z X) 162 (fun _ => 0))) := by rw [eσ14, gw_up_ne (by omega)]; exact g3
  replace g4 : σ14.2 (a + 4) = some ((gw_I (gw_z X) 54 (fun _ => 0))) := by rw [eσ14, gw_up_ne (by omega)]; exact g4
  replace g5 : σ14.2 (a + 5) = some ((gw_I (gw_z X) 9 (fun _ => 0))) := by rw [eσ14, gw_up_ne (by omega)]; exact g5
  replace g6 : σ14.2 (a + 6) = some ((gw_I (gw_z X) 162 (fun _ => 0))) := by rw [eσ14, gw_up_ne (by omega)]; exact g6
  replace g7 : σ14.2 (a + 7) = some ((gw_I (gw_z X) 54 (fun _ => 0))) := by rw [eσ14, gw_up_ne (by omega)]; exact g7
  replace fr : ∀ b, b < a → σ14.2 b = σ.2 b := fun b hb9 => (show σ14.2 b = σ13.2 b by rw [eσ14, gw_up_ne (by omega)]).trans (fr b hb9)
  replace hsz : σ14.1 = a + 8 := by rw [eσ14]; exact hsz
  refine gw_aload_n hX nd_Mo_init_63 rfl 0 rfl ?_
  refine gw_sipush (v := nI 148) hX nd_Mo_init_64 rfl ?_
  refine gw_newJ hX ka_long nd_Mo_init_67 148 rfl (by decide) (by decide) (by decide) ?_
  obtain ⟨σ15, eσ15⟩ : ∃ hp_, hp_ = gw_nw σ14 ((gw_J (gw_z X) 148 (fun _ => 0))) := ⟨_, rfl⟩
  refine gw_heap eσ15.symm ?_
  rw [hsz]
  replace h0 : σ15.2 a = some (.inr (1, [.int (nI 0), .int (nI 0), .ref (a + 1), .int (nI 0), .ref (a + 2), .ref (a + 3), .ref (a + 4), .int (nI 0), .ref (a + 5), .ref (a + 6), .ref (a + 7), .null, .null, .int (nI 0), .int (nI 0), .null, .null, .null, .long 0, .long 0, .int (nI 0), .int (nI 0), .int (nI 0), .int (nI 0)])) := by rw [eσ15, gw_nw_ne (by omega)]; exact h0
  replace g1 : σ15.2 (a + 1) = some ((gw_I (gw_z X) 240 (fun _ => 0))) := by rw [eσ15, gw_nw_ne (by omega)]; exact g1
  replace g2 : σ15.2 (a + 2) = some ((gw_I (gw_z X) 9 (fun _ => 0))) := by rw [eσ15, gw_nw_ne (by omega)]; exact g2
  replace g3 : σ15.2 (a + 3) = some ((gw_I (gw_z X) 162 (fun _ => 0))) := by rw [eσ15, gw_nw_ne (by omega)]; exact g3
  replace g4 : σ15.2 (a + 4) = some ((gw_I (gw_z X) 54 (fun _ => 0))) := by rw [eσ15, gw_nw_ne (by omega)]; exact g4
  replace g5 : σ15.2 (a + 5) = some ((gw_I (gw_z X) 9 (fun _ => 0))) := by rw [eσ15, gw_nw_ne (by omega)]; exact g5
  replace g6 : σ15.2 (a + 6) = some ((gw_I (gw_z X) 162 (fun _ => 0))) := by rw [eσ15, gw_nw_ne (by omega)]; exact g6
  replace g7 : σ15.2 (a + 7) = some ((gw_I (gw_z X) 54 (fun _ => 0))) := by rw [eσ15, gw_nw_ne (by omega)]; exact g7
  replace g8 : σ15.2 (a + 8) = some ((gw_J (gw_z X) 148 (fun _ => 0))) := by rw [eσ15, ← hsz]; exact gw_nw_eq _ _
  replace fr : ∀ b, b < a → σ15.2 b = σ.2 b := fun b hb9 => (show σ15.2 b = σ14.2 b by rw [eσ15, gw_nw_ne (by omega)]).trans (fr b hb9)
  replace hsz : σ15.1 = a + 9 := by rw [eσ15]; show σ14.1 + 1 = _; omega
  refine gw_putF hX kf_Mo_31 (fun C T N h => by cases h; rfl) hnm nd_Mo_init_69 h0 rfl rfl (Nat.le_of_ble_eq_true rfl) (e' := .inr (1, [.int (nI 0), .int (nI 0), .ref (a + 1), .int (nI 0), .ref (a + 2), .ref (a + 3), .ref (a + 4), .int (nI 0), .ref (a + 5), .ref (a + 6), .ref (a + 7), .ref (a + 8), .null, .int (nI 0), .int (nI 0), .null, .null, .null, .long 0, .long 0, .int (nI 0), .int (nI 0), .int (nI 0), .int (nI 0)])) rfl (gw_in_t 546 (by decide +kernel) rfl) ?_
  obtain ⟨σ16, eσ16⟩ : ∃ hp_, hp_ = gw_up σ15 a (.inr (1, [.int (nI 0), .int (nI 0), .ref (a + 1), .int (nI 0), .ref (a + 2), .ref (a + 3), .ref (a + 4), .int (nI 0), .ref (a + 5), .ref (a + 6), .ref (a + 7), .ref (a + 8), .null, .int (nI 0), .int (nI 0), .null, .null, .null, .long 0, .long 0, .int (nI 0), .int (nI 0), .int (nI 0), .int (nI 0)])) := ⟨_, rfl⟩
  refine gw_heap eσ16.symm ?_
  replace h0 : σ16.2 a = some (.inr (1, [.int (nI 0), .int (nI 0), .ref (a + 1), .int (nI 0), .ref (a + 2), .ref (a + 3), .ref (a + 4), .int (nI 0), .ref (a + 5), .ref (a + 6), .ref (a + 7), .ref (a + 8), .null, .int (nI 0), .int (nI 0), .null, .null, .null, .long 0, .long 0, .int (nI 0), .int (nI 0), .int (nI 0), .int (nI 0)])) := by rw [eσ16]; exact gw_up_eq _ _ _
  replace g1 : σ16.2 (a + 1) = some ((gw_I (gw_z X) 240 (fun _ => 0))) := by rw [eσ16, gw_up_ne (by omega)]; exact g1
  replace g2 : σ16.2 (a + 2) = some ((gw_I (gw_z X) 9 (fun _ => 0))) := by rw [eσ16, gw_up_ne (by omega)]; exact g2
  replace g3 : σ16.2 (a + 3) = some ((gw_I (gw_z X) 162 (fun _ => 0))) := by rw [eσ16, gw_up_ne (by omega)]; exact g3
  replace g4 : σ16.2 (a + 4) = some ((gw_I (gw_z X) 54 (fun _ => 0))) := by rw [eσ16, gw_up_ne (by omega)]; exact g4
  replace g5 : σ16.2 (a + 5) = some ((gw_I (gw_z X) 9 (fun _ => 0))) := by rw [eσ16, gw_up_ne (by omega)]; exact g5
  replace g6 : σ16.2 (a + 6) = some ((gw_I (gw_z X) 162 (fun _ => 0))) := by rw [eσ16, gw_up_ne (by omega)]; exact g6
  replace g7 : σ16.2 (a + 7) = some ((gw_I (gw_z X) 54 (fun _ => 0))) := by rw [eσ16, gw_up_ne (by omega)]; exact g7
  replace g8 : σ16.2 (a + 8) = some ((gw_J (gw_z X) 148 (fun _ => 0))) := by rw [eσ16, gw_up_ne (by omega)]; exact g8
  replace fr : ∀ b, b < a → σ16.2 b = σ.2 b := fun b hb9 => (show σ16.2 b = σ15.2 b by rw [eσ16, gw_up_ne (by omega)]).trans (fr b hb9)
  replace hsz : σ16.1 = a + 9 := by rw [eσ16]; exact hsz
  refine gw_aload_n hX nd_Mo_init_72 rfl 0 rfl ?_
  refine gw_sipush (v := nI 148) hX nd_Mo_init_73 rfl ?_
  refine gw_newJ hX ka_long nd_Mo_init_76 148 rfl (by decide) (by decide) (by decide) ?_
  obtain ⟨σ17, eσ17⟩ : ∃ hp_, hp_ = gw_nw σ16 ((gw_J (gw_z X) 148 (fun _ => 0))) := ⟨_, rfl⟩
  refine gw_heap eσ17.symm ?_
  rw [hsz]
  replace h0 : σ17.2 a = some (.inr (1, [.int (nI 0), .int (nI 0), .ref (a + 1), .int (nI 0), .ref (a + 2), .ref (a + 3), .ref (a + 4), .int (nI 0), .ref (a + 5), .ref (a + 6), .ref (a + 7), .ref (a + 8), .null, .int (nI 0), .int (nI 0), .null, .null, .null, .long 0, .long 0, .int (nI 0), .int (nI 0), .int (nI 0), .int (nI 0)])) := by rw [eσ17, gw_nw_ne (by omega)]; exact h0
  replace g1 : σ17.2 (a + 1) = some ((gw_I (gw_z X) 240 (fun _ => 0))) := by rw [eσ17, gw_nw_ne (by omega)]; exact g1
  replace g2 : σ17.2 (a + 2) = some ((gw_I (gw_z X) 9 (fun _ => 0))) := by rw [eσ17, gw_nw_ne (by omega)]; exact g2
  replace g3 : σ17.2 (a + 3) = some ((gw_I (gw_z X) 162 (fun _ => 0))) := by rw [eσ17, gw_nw_ne (by omega)]; exact g3
  replace g4 : σ17.2 (a + 4) = some ((gw_I (gw_z X) 54 (fun _ => 0))) := by rw [eσ17, gw_nw_ne (by omega)]; exact g4
  replace g5 : σ17.2 (a + 5) = some ((gw_I (gw_z X) 9 (fun _ => 0))) := by rw [eσ17, gw_nw_ne (by omega)]; exact g5
  replace g6 : σ17.2 (a + 6) = some ((gw_I (gw_z X) 162 (fun _ => 0))) := by rw [eσ17, gw_nw_ne (by omega)]; exact g6
  replace g7 : σ17.2 (a + 7) = some ((gw_I (gw_z X) 54 (fun _ => 0))) := by rw [eσ17, gw_nw_ne (by omega)]; exact g7
  replace g8 : σ17.2 (a + 8) = some ((gw_J (gw_z X) 148 (fun _ => 0))) := by rw [eσ17, gw_nw_ne (by omega)]; exact g8
  replace g9 : σ17.2 (a + 9) = some ((gw_J (gw_z X) 148 (fun _ => 0))) := by rw [eσ17, ← hsz]; exact gw_nw_eq _ _
  replace fr : ∀ b, b < a → σ17.2 b = σ.2 b := fun b hb9 => (show σ17.2 b = σ16.2 b by rw [eσ17, gw_nw_ne (by omega)]).trans (fr b hb9)
  replace hsz : σ17.1 = a + 10 := by rw [eσ17]; show σ16.1 + 1 = _; omega
  refine gw_putF hX kf_Mo_35 (fun C T N h => by cases h; rfl) hnm nd_Mo_init_78 h0 rfl rfl (Nat.le_of_ble_eq_true rfl) (e' := .inr (1, [.int (nI 0), .int (nI 0), .ref (a + 1), .int (nI 0), .ref (a + 2), .ref (a + 3), .ref (a + 4), .int (nI 0), .ref (a + 5), .ref (a + 6), .ref (a + 7), .ref (a + 8), .ref (a + 9), .int (nI 0), .int (nI 0), .null, .null, .null, .long 0, .long 0, .int (nI 0), .int (nI 0), .int (nI 0), .int (nI 0)])) rfl (gw_in_t 547 (by decide +kernel) rfl) ?_
  obtain ⟨σ18, eσ18⟩ : ∃ hp_, hp_ = gw_up σ17 a (.inr (1, [.int (nI 0), .int (nI 0), .ref (a + 1), .int (nI 0), .ref (a + 2), .ref (a + 3), .ref (a + 4), .int (nI 0), .ref (a + 5), .ref (a + 6), .ref (a + 7), .ref (a + 8), .ref (a + 9), .int (nI 0), .int (nI 0), .null, .null, .null, .long 0, .long 0, .int (nI 0), .int (nI 0), .int (nI 0), .int (nI 0)])) := ⟨_, rfl⟩
  refine gw_heap eσ18.symm ?_
  replace h0 : σ18.2 a = some (.inr (1, [.int (nI 0), .int (nI 0), .ref (a + 1), .int (nI 0), .ref (a + 2), .ref (a + 3), .ref (a + 4), .int (nI 0), .ref (a + 5), .ref (a + 6), .ref (a + 7), .ref (a + 8), .ref (a + 9), .int (nI 0), .int (nI 0), .null, .null, .null, .long 0, .long 0, .int (nI 0), .int (nI 0), .int (nI 0), .int (nI 0)])) := by rw [eσ18]; exact gw_up_eq _ _ _
  replace g1 : σ18.2 (a + 1) = some ((gw_I (gw_z X) 240 (fun _ => 0))) := by rw [eσ18, gw_up_ne (by omega)]; exact g1
  replace g2 : σ18.2 (a + 2) = some ((gw_I (gw_z X) 9 (fun _ => 0))) := by rw [eσ18, gw_up_ne (by omega)]; exact g2
  replace g3 : σ18.2 (a + 3) = some ((gw_I (gw_z X) 162 (fun _ => 0))) := by rw [eσ18, gw_up_ne (by omega)]; exact g3
  replace g4 : σ18.2 (a + 4) = some ((gw_I (gw_z X) 54 (fun _ => 0))) := by rw [eσ18, gw_up_ne (by omega)]; exact g4
  replace g5 : σ18.2 (a + 5) = some ((gw_I (gw_z X) 9 (fun _ => 0))) := by rw [eσ18, gw_up_ne (by omega)]; exact g5
  replace g6 : σ18.2 (a + 6) = some ((gw_I (gw_z X) 162 (fun _ => 0))) := by rw [eσ18, gw_up_ne (by omega)]; exact g6
  replace g7 : σ18.2 (a + 7) = some ((gw_I (gw_z X) 54 (fun _ => 0))) := by rw [eσ18, gw_up_ne (by omega)]; exact g7
  replace g8 : σ18.2 (a + 8) = some ((gw_J (gw_z X) 148 (fun _ => 0))) := by rw [eσ18, gw_up_ne (by omega)]; exact g8
  replace g9 : σ18.2 (a + 9) = some ((gw_J (gw_z X) 148 (fun _ => 0))) := by rw [eσ18, gw_up_ne (by omega)]; exact g9
  replace fr : ∀ b, b < a → σ18.2 b = σ.2 b := fun b hb9 => (show σ18.2 b = σ17.2 b by rw [eσ18, gw_up_ne (by omega)]).trans (fr b hb9)
  replace hsz : σ18.1 = a + 10 := by rw [eσ18]; exact hsz
  refine gw_aload_n hX nd_Mo_init_81 rfl 0 rfl ?_
  refine gw_bipush (v := nI 24) hX nd_Mo_init_82 rfl ?_
  refine gw_newJ hX ka_long nd_Mo_init_84 24 rfl (by decide) (by decide) (by decide) ?_
  obtain ⟨σ19, eσ19⟩ : ∃ hp_, hp_ = gw_nw σ18 ((gw_J (gw_z X) 24 (fun _ => 0))) := ⟨_, rfl⟩
  refine gw_heap eσ19.symm ?_
  rw [hsz]
  replace h0 : σ19.2 a = some (.inr (1, [.int (nI 0), .int (nI 0), .ref (a + 1), .int (nI 0), .ref (a + 2), .ref (a + 3), .ref (a + 4), .int (nI 0), .ref (a + 5), .ref (a + 6), .ref (a + 7), .ref (a + 8), .ref (a + 9), .int (nI 0), .int (nI 0), .null, .null, .null, .long 0, .long 0, .int (nI 0), .int (nI 0), .int (nI 0), .int (nI 0)])) := by rw [eσ19, gw_nw_ne (by omega)]; exact h0
  replace g1 : σ19.2 (a + 1) = some ((gw_I (gw_z X) 240 (fun _ => 0))) := by rw [eσ19, gw_nw_ne (by omega)]; exact g1
  replace g2 : σ19.2 (a + 2) = some ((gw_I (gw_z X) 9 (fun _ => 0))) := by rw [eσ19, gw_nw_ne (by omega)]; exact g2
  replace g3 : σ19.2 (a + 3) = some ((gw_I (gw_z X) 162 (fun _ => 0))) := by rw [eσ19, gw_nw_ne (by omega)]; exact g3
  replace g4 : σ19.2 (a + 4) = some ((gw_I (gw_z X) 54 (fun _ => 0))) := by rw [eσ19, gw_nw_ne (by omega)]; exact g4
  replace g5 : σ19.2 (a + 5) = some ((gw_I (gw_z X) 9 (fun _ => 0))) := by rw [eσ19, gw_nw_ne (by omega)]; exact g5
  replace g6 : σ19.2 (a + 6) = some ((gw_I (gw_z X) 162 (fun _ => 0))) := by rw [eσ19, gw_nw_ne (by omega)]; exact g6
  replace g7 : σ19.2 (a + 7) = some ((gw_I (gw_z X) 54 (fun _ => 0))) := by rw [eσ19, gw_nw_ne (by omega)]; exact g7
  replace g8 : σ19.2 (a + 8) = some ((gw_J (gw_z X) 148 (fun _ => 0))) := by rw [eσ19, gw_nw_ne (by omega)]; exact g8
  replace g9 : σ19.2 (a + 9) = some ((gw_J (gw_z X) 148 (fun _ => 0))) := by rw [eσ19, gw_nw_ne (by omega)]; exact g9
  replace g10 : σ19.2 (a + 10) = some ((gw_J (gw_z X) 24 (fun _ => 0))) := by rw [eσ19, ← hsz]; exact gw_nw_eq _ _
  replace fr : ∀ b, b < a → σ19.2 b = σ.2 b := fun b hb9 => (show σ19.2 b = σ18.2 b by rw [eσ19, gw_nw_ne (by omega)]).trans (fr b hb9)
  replace hsz : σ19.1 = a + 11 := by rw [eσ19]; show σ18.1 + 1 = _; omega
  refine gw_putF hX kf_Mo_38 (fun C T N h => by cases h; rfl) hnm nd_Mo_init_86 h0 rfl rfl (Nat.le_of_ble_eq_true rfl) (e' := .inr (1, [.int (nI 0), .int (nI 0), .ref (a + 1), .int (nI 0), .ref (a + 2), .ref (a + 3), .ref (a + 4), .int (nI 0), .ref (a + 5), .ref (a + 6), .ref (a + 7), .ref (a + 8), .ref (a + 9), .int (nI 0), .int (nI 0), .ref (a + 10), .null, .null, .long 0, .long 0, .int (nI 0), .int (nI 0), .int (nI 0), .int (nI 0)])) rfl (gw_in_t 550 (by decide +kernel) rfl) ?_
  obtain ⟨σ20, eσ20⟩ : ∃ hp_, hp_ = gw_up σ19 a (.inr (1, [.int (nI 0), .int (nI 0), .ref (a + 1), .int (nI 0), .ref (a + 2), .ref (a + 3), .ref (a + 4), .int (nI 0), .ref (a + 5), .ref (a + 6), .ref (a + 7), .ref (a + 8), .ref (a + 9), .int (nI 0), .int (nI 0), .ref (a + 10), .null, .null, .long 0, .long 0, .int (nI 0), .int (nI 0), .int (nI 0), .int (nI 0)])) := ⟨_, rfl⟩
  refine gw_heap eσ20.symm ?_
  replace h0 : σ20.2 a = some (.inr (1, [.int (nI 0), .int (nI 0), .ref (a + 1), .int (nI 0), .ref (a + 2), .ref (a + 3), .ref (a + 4), .int (nI 0), .ref (a + 5), .ref (a + 6), .ref (a + 7), .ref (a + 8), .ref (a + 9), .int (nI 0), .int (nI 0), .ref (a + 10), .null, .null, .long 0, .long 0, .int (nI 0), .int (nI 0), .int (nI 0), .int (nI 0)])) := by rw [eσ20]; exact gw_up_eq _ _ _
  replace g1 : σ20.2 (a + 1) = some ((gw_I (gw_z X) 240 (fun _ => 0))) := by rw [eσ20, gw_up_ne (by omega)]; exact g1
  replace g2 : σ20.2 (a + 2) = some ((gw_I (gw_z X) 9 (fun _ => 0))) := by rw [eσ20, gw_up_ne (by omega)]; exact g2
  replace g3 : σ20.2 (a + 3) = some ((gw_I (gw_z X) 162 (fun _ => 0))) := by rw [eσ20, gw_up_ne (by omega)]; exact g3
  replace g4 : σ20.2 (a + 4) = some ((gw_I (gw_z X) 54 (fun _ => 0))) := by rw [eσ20, gw_up_ne (by omega)]; exact g4
  replace g5 : σ20.2 (a + 5) = some ((gw_I (gw_z X) 9 (fun _ => 0))) := by rw [eσ20, gw_up_ne (by omega)]; exact g5
  replace g6 : σ20.2 (a + 6) = some ((gw_I (gw_z X) 162 (fun _ => 0))) := by rw [eσ20, gw_up_ne (by omega)]; exact g6
  replace g7 : σ20.2 (a + 7) = some ((gw_I (gw_z X) 54 (fun _ => 0))) := by rw [eσ20, gw_up_ne (by omega)]; exact g7
  replace g8 : σ20.2 (a + 8) = some ((gw_J (gw_z X) 148 (fun _ => 0))) := by rw [eσ20, gw_up_ne (by omega)]; exact g8
  replace g9 : σ20.2 (a + 9) = some ((gw_J (gw_z X) 148 (fun _ => 0))) := by rw [eσ20, gw_up_ne (by omega)]; exact g9
  replace g10 : σ20.2 (a + 10) = some ((gw_J (gw_z X) 24 (fun _ => 0))) := by rw [eσ20, gw_up_ne (by omega)]; exact g10
  replace fr : ∀ b, b < a → σ20.2 b = σ.2 b := fun b hb9 => (show σ20.2 b = σ19.2 b by rw [eσ20, gw_up_ne (by omega)]).trans (fr b hb9)
  replace hsz : σ20.1 = a + 11 := by rw [eσ20]; exact hsz
  refine gw_aload_n hX nd_Mo_init_89 rfl 0 rfl ?_
  refine gw_bipush (v := nI 6) hX nd_Mo_init_90 rfl ?_
  refine gw_newI hX ka_int nd_Mo_init_92 6 rfl (by decide) (by decide) (by decide) ?_
  obtain ⟨σ21, eσ21⟩ : ∃ hp_, hp_ = gw_nw σ20 ((gw_I (gw_z X) 6 (fun _ => 0))) := ⟨_, rfl⟩
  refine gw_heap eσ21.symm ?_
  rw [hsz]
  replace h0 : σ21.2 a = some (.inr (1, [.int (nI 0), .int (nI 0), .ref (a + 1), .int (nI 0), .ref (a + 2), .ref (a + 3), .ref (a + 4), .int (nI 0), .ref (a + 5), .ref (a + 6), .ref (a + 7), .ref (a + 8), .ref (a + 9), .int (nI 0), .int (nI 0), .ref (a + 10), .null, .null, .long 0, .long 0, .int (nI 0), .int (nI 0), .int (nI 0), .int (nI 0)])) := by rw [eσ21, gw_nw_ne (by omega)]; exact h0
  replace g1 : σ21.2 (a + 1) = some ((gw_I (gw_z X) 240 (fun _ => 0))) := by rw [eσ21, gw_nw_ne (by omega)]; exact g1
  replace g2 : σ21.2 (a + 2) = some ((gw_I (gw_z X) 9 (fun _ => 0))) := by rw [eσ21, gw_nw_ne (by omega)]; exact g2
  replace g3 : σ21.2 (a + 3) = some ((gw_I (gw_z X) 162 (fun _ => 0))) := by rw [eσ21, gw_nw_ne (by omega)]; exact g3
  replace g4 : σ21.2 (a + 4) = some ((gw_I (gw_z X) 54 (fun _ => 0))) := by rw [eσ21, gw_nw_ne (by omega)]; exact g4
  replace g5 : σ21.2 (a + 5) = some ((gw_I (gw_z X) 9 (fun _ => 0))) := by rw [eσ21, gw_nw_ne (by omega)]; exact g5
  replace g6 : σ21.2 (a + 6) = some ((gw_I (gw_z X) 162 (fun _ => 0))) := by rw [eσ21, gw_nw_ne (by omega)]; exact g6
  replace g7 : σ21.2 (a + 7) = some ((gw_I (gw_z X) 54 (fun _ => 0))) := by rw [eσ21, gw_nw_ne (by omega)]; exact g7
  replace g8 : σ21.2 (a + 8) = some ((gw_J (gw_z X) 148 (fun _ => 0))) := by rw [eσ21, gw_nw_ne (by omega)]; exact g8
  replace g9 : σ21.2 (a + 9) = some ((gw_J (gw_z X) 148 (fun _ => 0))) := by rw [eσ21, gw_nw_ne (by omega)]; exact g9
  replace g10 : σ21.2 (a + 10) = some ((gw_J (gw_z X) 24 (fun _ => 0))) := by rw [eσ21, gw_nw_ne (by omega)]; exact g10
  replace g11 : σ21.2 (a + 11) = some ((gw_I (gw_z X) 6 (fun _ => 0))) := by rw [eσ21, ← hsz]; exact gw_nw_eq _ _
  replace fr : ∀ b, b < a → σ21.2 b = σ.2 b := fun b hb9 => (show σ21.2 b = σ20.2 b by rw [eσ21, gw_nw_ne (by omega)]).trans (fr b hb9)
  replace hsz : σ21.1 = a + 12 := by rw [eσ21]; show σ20.1 + 1 = _; omega
  refine gw_putF hX kf_Mo_41 (fun C T N h => by cases h; rfl) hnm nd_Mo_init_94 h0 rfl rfl (Nat.le_of_ble_eq_true rfl) (e' := .inr (1, [.int (nI 0), .int (nI 0), .ref (a + 1), .int (nI 0), .ref (a + 2), .ref (a + 3), .ref (a + 4), .int (nI 0), .ref (a + 5), .ref (a + 6), .ref (a + 7), .ref (a + 8), .ref (a + 9), .int (nI 0), .int (nI 0), .ref (a + 10), .ref (a + 11), .null, .long 0, .long 0, .int (nI 0), .int (nI 0), .int (nI 0), .int (nI 0)])) rfl (gw_in_t 551 (by decide +kernel) rfl) ?_
  obtain ⟨σ22, eσ22⟩ : ∃ hp_, hp_ = gw_up σ21 a (.inr (1, [.int (nI 0), .int (nI 0), .ref (a + 1), .int (nI 0), .ref (a + 2), .ref (a + 3), .ref (a + 4), .int (nI 0), .ref (a + 5), .ref (a + 6), .ref (a + 7), .ref (a + 8), .ref (a + 9), .int (nI 0), .int (nI 0), .ref (a + 10), .ref (a + 11), .null, .long 0, .long 0, .int (nI 0), .int (nI 0), .int (nI 0), .int (nI 0)])) := ⟨_, rfl⟩
  refine gw_heap eσ22.symm ?_
  replace h0 : σ22.2 a = some (.inr (1, [.int (nI 0), .int (nI 0), .ref (a + 1), .int (nI 0), .ref (a + 2), .ref (a + 3), .ref (a + 4), .int (nI 0), .ref (a + 5), .ref (a + 6), .ref (a + 7), .ref (a + 8), .ref (a + 9), .int (nI 0), .int (nI 0), .ref (a + 10), .ref (a + 11), .null, .long 0, .long 0, .int (nI 0), .int (nI 0), .int (nI 0), .int (nI 0)])) := by rw [eσ22]; exact gw_up_eq _ _ _
  replace g1 : σ22.2 (a + 1) = some ((gw_I (gw_z X) 240 (fun _ => 0))) := by rw [eσ22, gw_up_ne (by omega)]; exact g1
  replace g2 : σ22.2 (a + 2) = some ((gw_I (gw_z X) 9 (fun _ => 0))) := by rw [eσ22, gw_up_ne (by omega)]; exact g2
  replace g3 : σ22.2 (a + 3) = some ((gw_I (gw_z X) 162 (fun _ => 0))) := by rw [eσ22, gw_up_ne (by omega)]; exact g3
  replace g4 : σ22.2 (a + 4) = some ((gw_I (gw_z X) 54 (fun _ => 0))) := by rw [eσ22, gw_up_ne (by omega)]; exact g4
  replace g5 : σ22.2 (a + 5) = some ((gw_I (gw_z X) 9 (fun _ => 0))) := by rw [eσ22, gw_up_ne (by omega)]; exact g5
  replace g6 : σ22.2 (a + 6) = some ((gw_I (gw_z X) 162 (fun _ => 0))) := by rw [eσ22, gw_up_ne (by omega)]; exact g6
  replace g7 : σ22.2 (a + 7) = some ((gw_I (gw_z X) 54 (fun _ => 0))) := by rw [eσ22, gw_up_ne (by omega)]; exact g7
  replace g8 : σ22.2 (a + 8) = some ((gw_J (gw_z X) 148 (fun _ => 0))) := by rw [eσ22, gw_up_ne (by omega)]; exact g8
  replace g9 : σ22.2 (a + 9) = some ((gw_J (gw_z X) 148 (fun _ => 0))) := by rw [eσ22, gw_up_ne (by omega)]; exact g9
  replace g10 : σ22.2 (a + 10) = some ((gw_J (gw_z X) 24 (fun _ => 0))) := by rw [eσ22, gw_up_ne (by omega)]; exact g10
  replace g11 : σ22.2 (a + 11) = some ((gw_I (gw_z X) 6 (fun _ => 0))) := by rw [eσ22, gw_up_ne (by omega)]; exact g11
  replace fr : ∀ b, b < a → σ22.2 b = σ.2 b := fun b hb9 => (show σ22.2 b = σ21.2 b by rw [eσ22, gw_up_ne (by omega)]).trans (fr b hb9)
  replace hsz : σ22.1 = a + 12 := by rw [eσ22]; exact hsz
  refine gw_aload_n hX nd_Mo_init_97 rfl 0 rfl ?_
  refine gw_bipush (v := nI 7) hX nd_Mo_init_98 rfl ?_
  refine gw_newJ hX ka_long nd_Mo_init_100 7 rfl (by decide) (by decide) (by decide) ?_
  obtain ⟨σ23, eσ23⟩ : ∃ hp_, hp_ = gw_nw σ22 ((gw_J (gw_z X) 7 (fun _ => 0))) := ⟨_, rfl⟩
  refine gw_heap eσ23.symm ?_
  rw [hsz]
  replace h0 : σ23.2 a = some (.inr (1, [.int (nI 0), .int (nI 0), .ref (a + 1), .int (nI 0), .ref (a + 2), .ref (a + 3), .ref (a + 4), .int (nI 0), .ref (a + 5), .ref (a + 6), .ref (a + 7), .ref (a + 8), .ref (a + 9), .int (nI 0), .int (nI 0), .ref (a + 10), .ref (a + 11), .null, .long 0, .long 0, .int (nI 0), .int (nI 0), .int (nI 0), .int (nI 0)])) := by rw [eσ23, gw_nw_ne (by omega)]; exact h0
  replace g1 : σ23.2 (a + 1) = some ((gw_I (gw_z X) 240 (fun _ => 0))) := by rw [eσ23, gw_nw_ne (by omega)]; exact g1
  replace g2 : σ23.2 (a + 2) = some ((gw_I (gw_z X) 9 (fun _ => 0))) := by rw [eσ23, gw_nw_ne (by omega)]; exact g2
  replace g3 : σ23.2 (a + 3) = some ((gw_I (gw_z X) 162 (fun _ => 0))) := by rw [eσ23, gw_nw_ne (by omega)]; exact g3
  replace g4 : σ23.2 (a + 4) = some ((gw_I (gw_z X) 54 (fun _ => 0))) := by rw [eσ23, gw_nw_ne (by omega)]; exact g4
  replace g5 : σ23.2 (a + 5) = some ((gw_I (gw_z X) 9 (fun _ => 0))) := by rw [eσ23, gw_nw_ne (by omega)]; exact g5
  replace g6 : σ23.2 (a + 6) = some ((gw_I (gw_z X) 162 (fun _ => 0))) := by rw [eσ23, gw_nw_ne (by omega)]; exact g6
  replace g7 : σ23.2 (a + 7) = some ((gw_I (gw_z X) 54 (fun _ => 0))) := by rw [eσ23, gw_nw_ne (by omega)]; exact g7
  replace g8 : σ23.2 (a + 8) = some ((gw_J (gw_z X) 148 (fun _ => 0))) := by rw [eσ23, gw_nw_ne (by omega)]; exact g8
  replace g9 : σ23.2 (a + 9) = some ((gw_J (gw_z X) 148 (fun _ => 0))) := by rw [eσ23, gw_nw_ne (by omega)]; exact g9
  replace g10 : σ23.2 (a + 10) = some ((gw_J (gw_z X) 24 (fun _ => 0))) := by rw [eσ23, gw_nw_ne (by omega)]; exact g10
  replace g11 : σ23.2 (a + 11) = some ((gw_I (gw_z X) 6 (fun _ => 0))) := by rw [eσ23, gw_nw_ne (by omega)]; exact g11
  replace g12 : σ23.2 (a + 12) = some ((gw_J (gw_z X) 7 (fun _ => 0))) := by rw [eσ23, ← hsz]; exact gw_nw_eq _ _
  replace fr : ∀ b, b < a → σ23.2 b = σ.2 b := fun b hb9 => (show σ23.2 b = σ22.2 b by rw [eσ23, gw_nw_ne (by omega)]).trans (fr b hb9)
  replace hsz : σ23.1 = a + 13 := by rw [eσ23]; show σ22.1 + 1 = _; omega
  refine gw_putF hX kf_Mo_44 (fun C T N h => by cases h; rfl) hnm nd_Mo_init_102 h0 rfl rfl (Nat.le_of_ble_eq_true rfl) (e' := .inr (1, [.int (nI 0), .int (nI 0), .ref (a + 1), .int (nI 0), .ref (a + 2), .ref (a + 3), .ref (a + 4), .int (nI 0), .ref (a + 5), .ref (a + 6), .ref (a + 7), .ref (a + 8), .ref (a + 9), .int (nI 0), .int (nI 0), .ref (a + 10), .ref (a + 11), .ref (a + 12), .long 0, .long 0, .int (nI 0), .int (nI 0), .int (nI 0), .int (nI 0)])) rfl (gw_in_t 552 (by decide +kernel) rfl) ?_
  obtain ⟨σ24, eσ24⟩ : ∃ hp_, hp_ = gw_up σ23 a (.inr (1, [.int (nI 0), .int (nI 0), .ref (a + 1), .int (nI 0), .ref (a + 2), .ref (a + 3), .ref (a + 4), .int (nI 0), .ref (a + 5), .ref (a + 6), .ref (a + 7), .ref (a + 8), .ref (a + 9), .int (nI 0), .int (nI 0), .ref (a + 10), .ref (a + 11), .ref (a + 12), .long 0, .long 0, .int (nI 0), .int (nI 0), .int (nI 0), .int (nI 0)])) := ⟨_, rfl⟩
  refine gw_heap eσ24.symm ?_
  replace h0 : σ24.2 a = some (.inr (1, [.int (nI 0), .int (nI 0), .ref (a + 1), .int (nI 0), .ref (a + 2), .ref (a + 3), .ref (a + 4), .int (nI 0), .ref (a + 5), .ref (a + 6), .ref (a + 7), .ref (a + 8), .ref (a + 9), .int (nI 0), .int (nI 0), .ref (a + 10), .ref (a + 11), .ref (a + 12), .long 0, .long 0, .int (nI 0), .int (nI 0), .int (nI 0), .int (nI 0)])) := by rw [eσ24]; exact gw_up_eq _ _ _
  replace g1 : σ24.2 (a + 1) = some ((gw_I (gw_z X) 240 (fun _ => 0))) := by rw [eσ24, gw_up_ne (by omega)]; exact g1
  replace g2 : σ24.2 (a + 2) = some ((gw_I (gw_z X) 9 (fun _ => 0))) := by rw [eσ24, gw_up_ne (by omega)]; exact g2
  replace g3 : σ24.2 (a + 3) = some ((gw_I (gw_z X) 162 (fun _ => 0))) := by rw [eσ24, gw_up_ne (by omega)]; exact g3
  replace g4 : σ24.2 (a + 4) = some ((gw_I (gw_z X) 54 (fun _ => 0))) := by rw [eσ24, gw_up_ne (by omega)]; exact g4
  replace g5 : σ24.2 (a + 5) = some ((gw_I (gw_z X) 9 (fun _ => 0))) := by rw [eσ24, gw_up_ne (by omega)]; exact g5
  replace g6 : σ24.2 (a + 6) = some ((gw_I (gw_z X) 162 (fun _ => 0))) := by rw [eσ24, gw_up_ne (by omega)]; exact g6
  replace g7 : σ24.2 (a + 7) = some ((gw_I (gw_z X) 54 (fun _ => 0))) := by rw [eσ24, gw_up_ne (by omega)]; exact g7
  replace g8 : σ24.2 (a + 8) = some ((gw_J (gw_z X) 148 (fun _ => 0))) := by rw [eσ24, gw_up_ne (by omega)]; exact g8
  replace g9 : σ24.2 (a + 9) = some ((gw_J (gw_z X) 148 (fun _ => 0))) := by rw [eσ24, gw_up_ne (by omega)]; exact g9
  replace g10 : σ24.2 (a + 10) = some ((gw_J (gw_z X) 24 (fun _ => 0))) := by rw [eσ24, gw_up_ne (by omega)]; exact g10
  replace g11 : σ24.2 (a + 11) = some ((gw_I (gw_z X) 6 (fun _ => 0))) := by rw [eσ24, gw_up_ne (by omega)]; exact g11
  replace g12 : σ24.2 (a + 12) = some ((gw_J (gw_z X) 7 (fun _ => 0))) := by rw [eσ24, gw_up_ne (by omega)]; exact g12
  replace fr : ∀ b, b < a → σ24.2 b = σ.2 b := fun b hb9 => (show σ24.2 b = σ23.2 b by rw [eσ24, gw_up_ne (by omega)]).trans (fr b hb9)
  replace hsz : σ24.1 = a + 13 := by rw [eσ24]; exact hsz
  refine gw_aload_n hX nd_Mo_init_105 rfl 0 rfl ?_
  refine gw_iconst (v := (-1)) hX nd_Mo_init_106 rfl ?_
  refine gw_put hX kf_Mo_47 nd_Mo_init_107 h0 rfl rfl (Nat.le_of_ble_eq_true rfl) (e' := .inr (1, [.int (nI 0), .int (nI 0), .ref (a + 1), .int (nI 0), .ref (a + 2), .ref (a + 3), .ref (a + 4), .int (nI 0), .ref (a + 5), .ref (a + 6), .ref (a + 7), .ref (a + 8), .ref (a + 9), .int (nI 0), .int (nI 0), .ref (a + 10), .ref (a + 11), .ref (a + 12), .long 0, .long 0, .int (nI 0), .int (nI 0), .int ((-1)), .int (nI 0)])) rfl ?_
  obtain ⟨σ25, eσ25⟩ : ∃ hp_, hp_ = gw_up σ24 a (.inr (1, [.int (nI 0), .int (nI 0), .ref (a + 1), .int (nI 0), .ref (a + 2), .ref (a + 3), .ref (a + 4), .int (nI 0), .ref (a + 5), .ref (a + 6), .ref (a + 7), .ref (a + 8), .ref (a + 9), .int (nI 0), .int (nI 0), .ref (a + 10), .ref (a + 11), .ref (a + 12), .long 0, .long 0, .int (nI 0), .int (nI 0), .int ((-1)), .int (nI 0)])) := ⟨_, rfl⟩
  refine gw_heap eσ25.symm ?_
  replace h0 : σ25.2 a = some (.inr (1, [.int (nI 0), .int (nI 0), .ref (a + 1), .int (nI 0), .ref (a + 2), .ref (a + 3), .ref (a + 4), .int (nI 0), .ref (a + 5), .ref (a + 6), .ref (a + 7), .ref (a + 8), .ref (a + 9), .int (nI 0), .int (nI 0), .ref (a + 10), .ref (a + 11), .ref (a + 12), .long 0, .long 0, .int (nI 0), .int (nI 0), .int ((-1)), .int (nI 0)])) := by rw [eσ25]; exact gw_up_eq _ _ _
  replace g1 : σ25.2 (a + 1) = some ((gw_I (gw_z X) 240 (fun _ => 0))) := by rw [eσ25, gw_up_ne (by omega)]; exact g1
  replace g2 : σ25.2 (a + 2) = some ((gw_I (gw_z X) 9 (fun _ => 0))) := by rw [eσ25, gw_up_ne (by omega)]; exact g2
  replace g3 : σ25.2 (a + 3) = some ((gw_I (gw_z X) 162 (fun _ => 0))) := by rw [eσ25, gw_up_ne (by omega)]; exact g3
  replace g4 : σ25.2 (a + 4) = some ((gw_I (gw_z X) 54 (fun _ => 0))) := by rw [eσ25, gw_up_ne (by omega)]; exact g4
  replace g5 : σ25.2 (a + 5) = some ((gw_I (gw_z X) 9 (fun _ => 0))) := by rw [eσ25, gw_up_ne (by omega)]; exact g5
  replace g6 : σ25.2 (a + 6) = some ((gw_I (gw_z X) 162 (fun _ => 0))) := by rw [eσ25, gw_up_ne (by omega)]; exact g6
  replace g7 : σ25.2 (a + 7) = some ((gw_I (gw_z X) 54 (fun _ => 0))) := by rw [eσ25, gw_up_ne (by omega)]; exact g7
  replace g8 : σ25.2 (a + 8) = some ((gw_J (gw_z X) 148 (fun _ => 0))) := by rw [eσ25, gw_up_ne (by omega)]; exact g8
  replace g9 : σ25.2 (a + 9) = some ((gw_J (gw_z X) 148 (fun _ => 0))) := by rw [eσ25, gw_up_ne (by omega)]; exact g9
  replace g10 : σ25.2 (a + 10) = some ((gw_J (gw_z X) 24 (fun _ => 0))) := by rw [eσ25, gw_up_ne (by omega)]; exact g10
  replace g11 : σ25.2 (a + 11) = some ((gw_I (gw_z X) 6 (fun _ => 0))) := by rw [eσ25, gw_up_ne (by omega)]; exact g11
  replace g12 : σ25.2 (a + 12) = some ((gw_J (gw_z X) 7 (fun _ => 0))) := by rw [eσ25, gw_up_ne (by omega)]; exact g12
  replace fr : ∀ b, b < a → σ25.2 b = σ.2 b := fun b hb9 => (show σ25.2 b = σ24.2 b by rw [eσ25, gw_up_ne (by omega)]).trans (fr b hb9)
  replace hsz : σ25.1 = a + 13 := by rw [eσ25]; exact hsz
  exact gw_vret hX hQ hr nd_Mo_init_110 (by decide) (by decide) ⟨rfl, hsz, h0, g1, g2, g3, g4, g5, g6, g7, g8, g9, g10, g11, g12, fr⟩
