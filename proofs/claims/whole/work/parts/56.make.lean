theorem rk_keep {σ σ' : gw_S} {Z : gw_Z} {r : Nat} (h : rk_any σ Z r) (f : ∀ b, r ≤ b → b < r + 3 → σ'.2 b = σ.2 b) : rk_any σ' Z r := by
  obtain ⟨k, fs, fl, h1, h2, h3⟩ := h
  exact ⟨k, fs, fl, (f _ (by omega) (by omega)).trans h1, (f _ (by omega) (by omega)).trans h2, (f _ (by omega) (by omega)).trans h3⟩
set_option maxRecDepth 100000 in
set_option maxHeartbeats 4000000 in
theorem lp_De_init {X : gw_C} (a : Nat) {σ0 : gw_S} (hX : gw_ok X nc_De_init "LabelLearner$Decoder" (2, 2, 44, 76, 199)) (hQ : X.2.2.2.2 = gw_end X (fun v σ' => v = none ∧ σ'.1 = a + 77 ∧ σ'.2 a = some (.inr (3, [.ref (a + 1), .ref (a + 2)])) ∧ σ'.2 (a + 1) = some (gw_Q4 (gw_z X) 24 (fun j => some (a + 5 + 3 * j))) ∧ rk_any σ' (gw_z X) (a + 2) ∧ (∀ j, j < 24 → rk_any σ' (gw_z X) (a + 5 + 3 * j)) ∧ (∀ b, b < a → σ'.2 b = σ0.2 b)) 76 199) (hr : X.2.2.1.1.sig.returnType = none) : ∀ (u k : Nat) (f : Nat → Option Nat) (σ : gw_S), k + u = 24 → σ.1 = a + 5 + 3 * k → σ.2 a = some (.inr (3, [.ref (a + 1), .ref (a + 2)])) → σ.2 (a + 1) = some (gw_Q4 (gw_z X) 24 f) → (∀ j, j < k → f j = some (a + 5 + 3 * j)) → rk_any σ (gw_z X) (a + 2) → (∀ j, j < k → rk_any σ (gw_z X) (a + 5 + 3 * j)) → (∀ b, b < a → σ.2 b = σ0.2 b) → gw_W X σ (4 + 3 * k) (31 + 7 * k) 26 [(0, .ref a), (1, .int (nI k))] [] := by
  intro u
  induction u using Nat.strongRecOn with
  | ind u ih =>
    intro k f σ hku hsz h0 h1 hf hw hse fr
    have hkp : ∀ b, a + 2 ≤ b → b < a + 5 + 3 * k → σ.2 b = σ.2 b := fun _ _ _ => rfl
    refine gw_iload_n hX nd_De_init_26 rfl 1 rfl ?_
    refine gw_aload_n hX nd_De_init_27 rfl 0 rfl ?_
    refine gw_get hX kf_De_11 nd_De_init_28 h0 rfl ?_
    refine gw_alen hX nd_De_init_31 (t := 4) h1 rfl (v := nI 24) rfl ?_
    refine gw_icmp_ge (tgt := 54) hX nd_De_init_32 rfl (fun hb => ?_) (fun hb => ?_)
    · have hb : 24 ≤ k := (nI_leI (a := 24) (b := k) (by omega) (by omega)).mp hb
      have hk8 : k = 24 := by omega
      refine gw_extQ (j := 4) h1 (g := fun j => some (a + 5 + 3 * j)) (fun j hj => hf j (by omega)) ?_
      exact gw_vret hX hQ hr nd_De_init_54 (by omega) (by omega) ⟨rfl, by show σ.1 = _; omega, by rw [gw_up_ne (by omega)]; exact h0, gw_up_eq _ _ _, rk_keep hw (fun b q1 q2 => gw_up_ne (by omega)), fun j hj => rk_keep (hse j (by omega)) (fun b q1 q2 => gw_up_ne (by omega)), fun b hb9 => by rw [gw_up_ne (by omega)]; exact fr b hb9⟩
    · have hb : ¬ 24 ≤ k := fun h => hb ((nI_leI (a := 24) (b := k) (by omega) (by omega)).mpr h)
      refine gw_aload_n hX nd_De_init_35 rfl 0 rfl ?_
      refine gw_get hX kf_De_11 nd_De_init_36 h0 rfl ?_
      refine gw_iload_n hX nd_De_init_39 rfl 1 rfl ?_
      refine gw_new hX kc_Ra kn_De_9 km_Ra kb_Ra nd_De_init_40 (fs := [.null, .null, .int (nI 0)]) (by decide) (by show (4 + 3 * k) + 1 ≤ 76; omega) (by show (31 + 7 * k) + 3 ≤ 199; omega) ?_
      obtain ⟨σ1, eσ1⟩ : ∃ hp_, hp_ = gw_nw σ (.inr (4, [.null, .null, .int (nI 0)])) := ⟨_, rfl⟩
      refine gw_heap eσ1.symm ?_
      rw [hsz]
      have h0 : σ1.2 a = some (.inr (3, [.ref (a + 1), .ref (a + 2)])) := by rw [eσ1, gw_nw_ne (by omega)]; exact h0
      have h1 : σ1.2 (a + 1) = some ((gw_Q4 (gw_z X) 24 f)) := by rw [eσ1, gw_nw_ne (by omega)]; exact h1
      have g0 : σ1.2 (a + 5 + 3 * k) = some (.inr (4, [.null, .null, .int (nI 0)])) := by rw [eσ1, ← hsz]; exact gw_nw_eq _ _
      have fr : ∀ b, b < a → σ1.2 b = σ0.2 b := fun b hb9 => (show σ1.2 b = σ.2 b by rw [eσ1, gw_nw_ne (by omega)]).trans (fr b hb9)
      have hsz : σ1.1 = a + 5 + 3 * k + 1 := by rw [eσ1]; show σ.1 + 1 = _; omega
      have hkp : ∀ b, a + 2 ≤ b → b < a + 5 + 3 * k → σ1.2 b = σ.2 b := fun b q1 q2 => by rw [eσ1, gw_nw_ne (by omega)]
      refine gw_dup hX nd_De_init_43 rfl ?_
      refine gw_callI (rest := [.ref (a + 5 + 3 * k), .int (nI k), .ref (a + 1)]) hX ks_De_17 (ct_Ra_init _ _ _ _ (a + 5 + 3 * k) hsz g0) rfl rfl (Nat.le_of_ble_eq_true rfl) nd_De_init_44 (by refine ⟨⟨by decide, by decide⟩, ?_, ?_⟩; (show ((4 + 3 * k) + 1) + 2 ≤ 76; omega); (show ((31 + 7 * k) + 3) + 4 ≤ 199; omega)) ?_
      rintro _ σ2 ⟨rfl, hsz, g0, g1, g2, hlow⟩
      have h0 : σ2.2 a = some (.inr (3, [.ref (a + 1), .ref (a + 2)])) := (hlow a (by omega)).trans h0
      have h1 : σ2.2 (a + 1) = some ((gw_Q4 (gw_z X) 24 f)) := (hlow (a + 1) (by omega)).trans h1
      have fr : ∀ b, b < a → σ2.2 b = σ0.2 b := fun b hb9 => (hlow b (by omega)).trans (fr b hb9)
      have hkp : ∀ b, a + 2 ≤ b → b < a + 5 + 3 * k → σ2.2 b = σ.2 b := fun b q1 q2 => (hlow b (by omega)).trans (hkp b q1 q2)
      show gw_W X σ2 (((4 + 3 * k) + 1) + 2) (((31 + 7 * k) + 3) + 4) 47 [(0, .ref a), (1, .int (nI k))] [.ref (a + 5 + 3 * k), .int (nI k), .ref (a + 1)]
      refine gw_astQ (j := 4) hX rfl rfl nd_De_init_47 h1 g0 k rfl (by omega) (by decide) ?_
      obtain ⟨σ3, eσ3⟩ : ∃ hp_, hp_ = gw_up σ2 (a + 1) ((gw_Q4 (gw_z X) 24 (va_up f k (some (a + 5 + 3 * k))))) := ⟨_, rfl⟩
      refine gw_heap eσ3.symm ?_
      have h0 : σ3.2 a = some (.inr (3, [.ref (a + 1), .ref (a + 2)])) := by rw [eσ3, gw_up_ne (by omega)]; exact h0
      have h1 : σ3.2 (a + 1) = some ((gw_Q4 (gw_z X) 24 (va_up f k (some (a + 5 + 3 * k))))) := by rw [eσ3]; exact gw_up_eq _ _ _
      have g0 : σ3.2 (a + 5 + 3 * k) = some (.inr (4, [.ref (a + 5 + 3 * k + 1), .ref (a + 5 + 3 * k + 2), .int (nI 0)])) := by rw [eσ3, gw_up_ne (by omega)]; exact g0
      have g1 : σ3.2 (a + 5 + 3 * k + 1) = some ((gw_J (gw_z X) 2 (fun _ => 0))) := by rw [eσ3, gw_up_ne (by omega)]; exact g1
      have g2 : σ3.2 (a + 5 + 3 * k + 2) = some ((gw_I (gw_z X) 2 (fun _ => 0))) := by rw [eσ3, gw_up_ne (by omega)]; exact g2
      have fr : ∀ b, b < a → σ3.2 b = σ0.2 b := fun b hb9 => (show σ3.2 b = σ2.2 b by rw [eσ3, gw_up_ne (by omega)]).trans (fr b hb9)
      have hsz : σ3.1 = a + 5 + 3 * k + 3 := by rw [eσ3]; exact hsz
      have hkp : ∀ b, a + 2 ≤ b → b < a + 5 + 3 * k → σ3.2 b = σ.2 b := fun b q1 q2 => (show σ3.2 b = σ2.2 b by rw [eσ3, gw_up_ne (by omega)]).trans (hkp b q1 q2)
      refine gw_iinc hX nd_De_init_48 1 rfl (v := nI (k + 1)) (show nI k + nI 1 = nI (k + 1) from nI_add _ _) (by decide) (L' := [(1, .int (nI (k + 1))), (0, .ref a)]) rfl ?_
      refine gw_goto (tgt := 26) hX nd_De_init_51 rfl ?_
      refine gw_cut (ks := [1, 0]) (L' := [(0, .ref a), (1, .int (nI (k + 1)))]) rfl ?_
      refine gw_wide (ce' := 4 + 3 * (k + 1)) (sl' := 31 + 7 * (k + 1)) (by omega) (by omega) ?_
      exact ih (u - 1) (by omega) (k + 1) _ _ (by omega) (by rw [hsz]; omega) h0 h1 (fun j hj => by by_cases e : j = k; (rw [e, va_up_self]); (rw [va_up_ne _ _ e]; exact hf j (by omega))) (rk_keep hw (fun b q1 q2 => hkp b (by omega) (by omega))) (fun j hj => by by_cases e : j = k; (rw [e]; exact ⟨_, _, _, g0, g1, g2⟩); exact rk_keep (hse j (by omega)) (fun b q1 q2 => hkp b (by omega) (by omega))) fr
set_option maxRecDepth 100000 in
set_option maxHeartbeats 4000000 in
theorem ct_De_init (l : Launch) (Z : gw_Z) (b0 : Nat) (σ : gw_S) (a : Nat) (hsz : σ.1 = a + 1) (h0 : σ.2 a = some (.inr (3, [.null, .null]))) : gw_M l ny_De_init nc_De_init (2, 2, 44, 76, 199) none Z b0 σ [.ref a] (fun v σ' => v = none ∧ σ'.1 = a + 77 ∧ σ'.2 a = some (.inr (3, [.ref (a + 1), .ref (a + 2)])) ∧ σ'.2 (a + 1) = some (gw_Q4 Z 24 (fun j => some (a + 5 + 3 * j))) ∧ rk_any σ' Z (a + 2) ∧ (∀ j, j < 24 → rk_any σ' Z (a + 5 + 3 * j)) ∧ (∀ b, b < a → σ'.2 b = σ.2 b)) := by
  refine gw_M_of rfl (Nat.le_of_ble_eq_true rfl) ?_
  intro X hX hl hz hb0 hr hnm hQ
  subst hz hb0 hl
  have hX : gw_ok X nc_De_init "LabelLearner$Decoder" (2, 2, 44, 76, 199) := hX
  show gw_W X σ 0 0 0 [(0, .ref a)] []
  have fr : ∀ b, b < a → σ.2 b = σ.2 b := fun _ _ => rfl
  refine gw_aload_n hX nd_De_init_0 rfl 0 rfl ?_
  refine gw_obj hX ko_De_3 ko_i ko_c nd_De_init_1 (by decide) (by decide) ?_
  refine gw_aload_n hX nd_De_init_4 rfl 0 rfl ?_
  refine gw_bipush (v := nI 24) hX nd_De_init_5 rfl ?_
  refine gw_newQ (j := 4) hX rfl hX.2.2.2.2.2.2.2.2 kn_De_9 nd_De_init_7 24 rfl (by decide) (by decide) (by decide) ?_
  obtain ⟨σ1, eσ1⟩ : ∃ hp_, hp_ = gw_nw σ ((gw_Q4 (gw_z X) 24 (fun _ => none))) := ⟨_, rfl⟩
  refine gw_heap eσ1.symm ?_
  rw [hsz]
  have h0 : σ1.2 a = some (.inr (3, [.null, .null])) := by rw [eσ1, gw_nw_ne (by omega)]; exact h0
  have q1 : σ1.2 (a + 1) = some ((gw_Q4 (gw_z X) 24 (fun _ => none))) := by rw [eσ1, ← hsz]; exact gw_nw_eq _ _
  have fr : ∀ b, b < a → σ1.2 b = σ.2 b := fun b hb9 => (show σ1.2 b = σ.2 b by rw [eσ1, gw_nw_ne (by omega)]).trans (fr b hb9)
  have hsz : σ1.1 = a + 2 := by rw [eσ1]; show σ.1 + 1 = _; omega
  refine gw_putF hX kf_De_11 (fun C T N h => by cases h; rfl) hnm nd_De_init_10 h0 rfl rfl (Nat.le_of_ble_eq_true rfl) (e' := .inr (3, [.ref (a + 1), .null])) rfl (gw_in_t 68 (by decide +kernel) rfl) ?_
  obtain ⟨σ2, eσ2⟩ : ∃ hp_, hp_ = gw_up σ1 a (.inr (3, [.ref (a + 1), .null])) := ⟨_, rfl⟩
  refine gw_heap eσ2.symm ?_
  have h0 : σ2.2 a = some (.inr (3, [.ref (a + 1), .null])) := by rw [eσ2]; exact gw_up_eq _ _ _
  have q1 : σ2.2 (a + 1) = some ((gw_Q4 (gw_z X) 24 (fun _ => none))) := by rw [eσ2, gw_up_ne (by omega)]; exact q1
  have fr : ∀ b, b < a → σ2.2 b = σ.2 b := fun b hb9 => (show σ2.2 b = σ1.2 b by rw [eσ2, gw_up_ne (by omega)]).trans (fr b hb9)
  have hsz : σ2.1 = a + 2 := by rw [eσ2]; exact hsz
  refine gw_aload_n hX nd_De_init_13 rfl 0 rfl ?_
  refine gw_new hX kc_Ra kn_De_9 km_Ra kb_Ra nd_De_init_14 (fs := [.null, .null, .int (nI 0)]) (by decide) (by decide) (by decide) ?_
  obtain ⟨σ3, eσ3⟩ : ∃ hp_, hp_ = gw_nw σ2 (.inr (4, [.null, .null, .int (nI 0)])) := ⟨_, rfl⟩
  refine gw_heap eσ3.symm ?_
  rw [hsz]
  have h0 : σ3.2 a = some (.inr (3, [.ref (a + 1), .null])) := by rw [eσ3, gw_nw_ne (by omega)]; exact h0
  have q1 : σ3.2 (a + 1) = some ((gw_Q4 (gw_z X) 24 (fun _ => none))) := by rw [eσ3, gw_nw_ne (by omega)]; exact q1
  have g0 : σ3.2 (a + 2) = some (.inr (4, [.null, .null, .int (nI 0)])) := by rw [eσ3, ← hsz]; exact gw_nw_eq _ _
  have fr : ∀ b, b < a → σ3.2 b = σ.2 b := fun b hb9 => (show σ3.2 b = σ2.2 b by rw [eσ3, gw_nw_ne (by omega)]).trans (fr b hb9)
  have hsz : σ3.1 = a + 3 := by rw [eσ3]; show σ2.1 + 1 = _; omega
  refine gw_dup hX nd_De_init_17 rfl ?_
  refine gw_callI (rest := [.ref (a + 2), .ref a]) hX ks_De_17 (ct_Ra_init _ _ _ _ (a + 2) hsz g0) rfl rfl (Nat.le_of_ble_eq_true rfl) nd_De_init_18 (by decide) ?_
  rintro _ σ4 ⟨rfl, hsz, g0, g1, g2, hlow⟩
  have h0 : σ4.2 a = some (.inr (3, [.ref (a + 1), .null])) := (hlow a (by omega)).trans h0
  have q1 : σ4.2 (a + 1) = some ((gw_Q4 (gw_z X) 24 (fun _ => none))) := (hlow (a + 1) (by omega)).trans q1
  have fr : ∀ b, b < a → σ4.2 b = σ.2 b := fun b hb9 => (hlow b (by omega)).trans (fr b hb9)
  show gw_W X σ4 4 31 21 [(0, .ref a)] [.ref (a + 2), .ref a]
  refine gw_putF hX kf_De_18 (fun C T N h => by cases h; rfl) hnm nd_De_init_21 h0 rfl rfl (Nat.le_of_ble_eq_true rfl) (e' := .inr (3, [.ref (a + 1), .ref (a + 2)])) rfl (gw_in_t 69 (by decide +kernel) rfl) ?_
  obtain ⟨σ5, eσ5⟩ : ∃ hp_, hp_ = gw_up σ4 a (.inr (3, [.ref (a + 1), .ref (a + 2)])) := ⟨_, rfl⟩
  refine gw_heap eσ5.symm ?_
  have h0 : σ5.2 a = some (.inr (3, [.ref (a + 1), .ref (a + 2)])) := by rw [eσ5]; exact gw_up_eq _ _ _
  have q1 : σ5.2 (a + 1) = some ((gw_Q4 (gw_z X) 24 (fun _ => none))) := by rw [eσ5, gw_up_ne (by omega)]; exact q1
  have g0 : σ5.2 (a + 2) = some (.inr (4, [.ref (a + 2 + 1), .ref (a + 2 + 2), .int (nI 0)])) := by rw [eσ5, gw_up_ne (by omega)]; exact g0
  have g1 : σ5.2 (a + 2 + 1) = some ((gw_J (gw_z X) 2 (fun _ => 0))) := by rw [eσ5, gw_up_ne (by omega)]; exact g1
  have g2 : σ5.2 (a + 2 + 2) = some ((gw_I (gw_z X) 2 (fun _ => 0))) := by rw [eσ5, gw_up_ne (by omega)]; exact g2
  have fr : ∀ b, b < a → σ5.2 b = σ.2 b := fun b hb9 => (show σ5.2 b = σ4.2 b by rw [eσ5, gw_up_ne (by omega)]).trans (fr b hb9)
  have hsz : σ5.1 = a + 5 := by rw [eσ5]; exact hsz
  refine gw_iconst (v := nI 0) hX nd_De_init_24 rfl ?_
  refine gw_istore_n hX nd_De_init_25 rfl (by decide) (L' := [(1, .int (nI 0)), (0, .ref a)]) rfl ?_
  refine gw_cut (ks := [1, 0]) (L' := [(0, .ref a), (1, .int (nI 0))]) rfl ?_
  exact lp_De_init a hX hQ hr 24 0 _ _ (by omega) (by rw [hsz]) h0 q1 (fun j hj => by omega) ⟨_, _, _, g0, g1, g2⟩ (fun j hj => by omega) fr
