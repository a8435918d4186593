abbrev ab_0 : ab_A := ((0, fun _ => 0), ([], []), (fun _ => 0, fun _ => 0), (0, 0), (0, 0))
theorem zz_I : (0 : Int32) = nI 0 := by decide
theorem zz_L : (0 : Int64) = iL 0 := by decide
theorem zz_Ch (Z : gw_Z) (m : Nat) : gw_Ch Z m (fun _ => 0) = gw_Ch Z m (fun j => nI ((fun _ => 0 : Nat → Nat) j)) := congrArg (gw_Ch Z m) (funext fun _ => zz_I)
theorem zz_J (Z : gw_Z) (m : Nat) : gw_J Z m (fun _ => 0) = gw_J Z m (fun j => iL ((fun _ => 0 : Nat → Int) j)) := congrArg (gw_J Z m) (funext fun _ => zz_L)
theorem zz_Im (Z : gw_Z) (m : Nat) : gw_I Z m (fun _ => 0) = gw_I Z m (fun j => nI ((fun _ => 0 : Nat → Nat) j)) := congrArg (gw_I Z m) (funext fun _ => zz_I)
set_option maxRecDepth 100000 in
set_option maxHeartbeats 4000000 in
theorem ct_LL_init (l : Launch) (Z : gw_Z) (b0 : Nat) (σ : gw_S) (n : Nat) (hsz : σ.1 = n + 1) (h0 : σ.2 n = some (.inr (0, [.null, .null, .null, .null, .null, .null, .null, .null, .int (nI 0), .int (nI 0), .int (nI 0), .int (nI 0)]))) : gw_M l ny_LL_init nc_LL_init (1, 3, 65, 123, 1140) none Z b0 σ [.ref n] (fun v σ' => v = none ∧ σ'.1 = n + 124 ∧ cw_at σ' Z n ab_0 (n + 84) (n + 102) (n + 120) (n + 122) ∧ (∀ b, b < n → σ'.2 b = σ.2 b)) := by
  refine gw_M_of rfl (Nat.le_of_ble_eq_true rfl) ?_
  intro X hX hl hz hb0 hr hnm hQ
  subst hz hb0 hl
  have hX : gw_ok X nc_LL_init "LabelLearner" (1, 3, 65, 123, 1140) := hX
  show gw_W X σ 0 0 0 [(0, .ref n)] []
  replace fr : ∀ b, b < n → σ.2 b = σ.2 b := fun _ _ => rfl
  replace hH : ∀ τ : gw_S, (∀ b, n + 1 ≤ b → b < n + 1 → τ.2 b = σ.2 b) → True := fun _ _ => trivial
  refine gw_aload_n hX nd_LL_init_0 rfl 0 rfl ?_
  refine gw_obj hX ko_LL_1 ko_i ko_c nd_LL_init_1 (by decide) (by decide) ?_
  refine gw_aload_n hX nd_LL_init_4 rfl 0 rfl ?_
  refine gw_new hX kc_Te kn_LL_7 km_Te kb_Te nd_LL_init_5 (fs := [.null, .int (nI 0), .int (nI 0)]) (by decide) (by show 0 + 1 ≤ 123; omega) (by show 0 + 3 ≤ 1140; omega) ?_
  replace hso : σ.1 = n + 1 := hsz
  obtain ⟨σ1, eσ1⟩ : ∃ hp_, hp_ = gw_nw σ (.inr (6, [.null, .int (nI 0), .int (nI 0)])) := ⟨_, rfl⟩
  refine gw_heap eσ1.symm ?_
  rw [hsz]
  replace h0 : σ1.2 n = some (.inr (0, [.null, .null, .null, .null, .null, .null, .null, .null, .int (nI 0), .int (nI 0), .int (nI 0), .int (nI 0)])) := by rw [eσ1, gw_nw_ne (by omega)]; exact h0
  replace g0 : σ1.2 (n + 1) = some (.inr (6, [.null, .int (nI 0), .int (nI 0)])) := by rw [eσ1, ← hsz]; exact gw_nw_eq _ _
  replace fr : ∀ b, b < n → σ1.2 b = σ.2 b := fun b hb9 => (show σ1.2 b = σ.2 b by rw [eσ1, gw_nw_ne (by omega)]).trans (fr b hb9)
  replace hsz : σ1.1 = n + 2 := by rw [eσ1]; show σ.1 + 1 = _; omega
  replace hH : ∀ τ : gw_S, (∀ b, n + 1 ≤ b → b < n + 1 → τ.2 b = σ1.2 b) → True := fun τ f => hH τ (fun b q1 q2 => (f b q1 q2).trans (by rw [eσ1, gw_nw_ne (by omega)]))
  refine gw_dup hX nd_LL_init_8 rfl ?_
  refine gw_callI (rest := [.ref (n + 1), .ref n]) hX ks_LL_9 (ct_Te_init _ _ _ _ (n + 1) hsz g0) rfl rfl (Nat.le_of_ble_eq_true rfl) nd_LL_init_9 (by refine ⟨⟨by decide, by decide⟩, ?_, ?_⟩; (show (0 + 1) + 1 ≤ 123; omega); (show (0 + 3) + 240 ≤ 1140; omega)) ?_
  rintro _ σ2 ⟨rfl, hsz, g0, g1, hlow⟩
  replace h0 : σ2.2 n = some (.inr (0, [.null, .null, .null, .null, .null, .null, .null, .null, .int (nI 0), .int (nI 0), .int (nI 0), .int (nI 0)])) := (hlow n (by omega)).trans h0
  replace fr : ∀ b, b < n → σ2.2 b = σ.2 b := fun b hb9 => (hlow b (by omega)).trans (fr b hb9)
  replace hH : ∀ τ : gw_S, (∀ b, n + 1 ≤ b → b < n + 3 → τ.2 b = σ2.2 b) → (True) ∧ tx_at τ (gw_z X) (n + 1) 0 0 (fun _ => 0) := fun τ f => ⟨hH τ (fun b q1 q2 => (f b q1 (by omega)).trans (hlow b (by omega))), ((f _ (by omega) (by omega)).trans g0), ((f _ (by omega) (by omega)).trans (g1.trans (by rw [zz_Ch])))⟩
  replace hsz : σ2.1 = n + 3 := by omega
  show gw_W X σ2 ((0 + 1) + 1) ((0 + 3) + 240) 12 [(0, .ref n)] [.ref (n + 1), .ref n]
  refine gw_putF hX kf_LL_10 (fun C T N h => by cases h; rfl) hnm nd_LL_init_12 h0 rfl rfl (Nat.le_of_ble_eq_true rfl) (e' := .inr (0, [.ref (n + 1), .null, .null, .null, .null, .null, .null, .null, .int (nI 0), .int (nI 0), .int (nI 0), .int (nI 0)])) rfl (gw_in_t 126 (by decide +kernel) rfl) ?_
  obtain ⟨σ3, eσ3⟩ : ∃ hp_, hp_ = gw_up σ2 n (.inr (0, [.ref (n + 1), .null, .null, .null, .null, .null, .null, .null, .int (nI 0), .int (nI 0), .int (nI 0), .int (nI 0)])) := ⟨_, rfl⟩
  refine gw_heap eσ3.symm ?_
  replace h0 : σ3.2 n = some (.inr (0, [.ref (n + 1), .null, .null, .null, .null, .null, .null, .null, .int (nI 0), .int (nI 0), .int (nI 0), .int (nI 0)])) := by rw [eσ3]; exact gw_up_eq _ _ _
  replace fr : ∀ b, b < n → σ3.2 b = σ.2 b := fun b hb9 => (show σ3.2 b = σ2.2 b by rw [eσ3, gw_up_ne (by omega)]).trans (fr b hb9)
  replace hsz : σ3.1 = n + 3 := by rw [eσ3]; exact hsz
  replace hH : ∀ τ : gw_S, (∀ b, n + 1 ≤ b → b < n + 3 → τ.2 b = σ3.2 b) → (True) ∧ tx_at τ (gw_z X) (n + 1) 0 0 (fun _ => 0) := fun τ f => hH τ (fun b q1 q2 => (f b q1 q2).trans (by rw [eσ3, gw_up_ne (by omega)]))
  refine gw_aload_n hX nd_LL_init_15 rfl 0 rfl ?_
  refine gw_new hX kc_De kn_LL_16 km_De kb_De nd_LL_init_16 (fs := [.null, .null]) (by decide) (by show ((0 + 1) + 1) + 1 ≤ 123; omega) (by show ((0 + 3) + 240) + 2 ≤ 1140; omega) ?_
  replace hso : σ3.1 = n + 3 := hsz
  obtain ⟨σ4, eσ4⟩ : ∃ hp_, hp_ = gw_nw σ3 (.inr (3, [.null, .null])) := ⟨_, rfl⟩
  refine gw_heap eσ4.symm ?_
  rw [hsz]
  replace h0 : σ4.2 n = some (.inr (0, [.ref (n + 1), .null, .null, .null, .null, .null, .null, .null, .int (nI 0), .int (nI 0), .int (nI 0), .int (nI 0)])) := by rw [eσ4, gw_nw_ne (by omega)]; exact h0
  replace g0 : σ4.2 (n + 3) = some (.inr (3, [.null, .null])) := by rw [eσ4, ← hsz]; exact gw_nw_eq _ _
  replace fr : ∀ b, b < n → σ4.2 b = σ.2 b := fun b hb9 => (show σ4.2 b = σ3.2 b by rw [eσ4, gw_nw_ne (by omega)]).trans (fr b hb9)
  replace hsz : σ4.1 = n + 4 := by rw [eσ4]; show σ3.1 + 1 = _; omega
  replace hH : ∀ τ : gw_S, (∀ b, n + 1 ≤ b → b < n + 3 → τ.2 b = σ4.2 b) → (True) ∧ tx_at τ (gw_z X) (n + 1) 0 0 (fun _ => 0) := fun τ f => hH τ (fun b q1 q2 => (f b q1 q2).trans (by rw [eσ4, gw_nw_ne (by omega)]))
  refine gw_dup hX nd_LL_init_19 rfl ?_
  refine gw_callI (rest := [.ref (n + 3), .ref n]) hX ks_LL_18 (ct_De_init _ _ _ _ (n + 3) hsz g0) rfl rfl (Nat.le_of_ble_eq_true rfl) nd_LL_init_20 (by refine ⟨⟨by decide, by decide⟩, ?_, ?_⟩; (show (((0 + 1) + 1) + 1) + 76 ≤ 123; omega); (show (((0 + 3) + 240) + 2) + 199 ≤ 1140; omega)) ?_
  rintro _ σ5 ⟨rfl, hsz, g0, g1, hw, hse, hlow⟩
  replace h0 : σ5.2 n = some (.inr (0, [.ref (n + 1), .null, .null, .null, .null, .null, .null, .null, .int (nI 0), .int (nI 0), .int (nI 0), .int (nI 0)])) := (hlow n (by omega)).trans h0
  replace fr : ∀ b, b < n → σ5.2 b = σ.2 b := fun b hb9 => (hlow b (by omega)).trans (fr b hb9)
  replace hH : ∀ τ : gw_S, (∀ b, n + 1 ≤ b → b < n + 80 → τ.2 b = σ5.2 b) → ((True) ∧ tx_at τ (gw_z X) (n + 1) 0 0 (fun _ => 0)) ∧ de_at τ (gw_z X) (n + 3) := fun τ f => ⟨hH τ (fun b q1 q2 => (f b q1 (by omega)).trans (hlow b (by omega))), ((f _ (by omega) (by omega)).trans g0), ((f _ (by omega) (by omega)).trans g1), rk_keep hw (fun b q1 q2 => f b (by omega) (by omega)), fun j hj => rk_keep (hse j hj) (fun b q1 q2 => f b (by omega) (by omega))⟩
  replace hsz : σ5.1 = n + 80 := by omega
  show gw_W X σ5 ((((0 + 1) + 1) + 1) + 76) ((((0 + 3) + 240) + 2) + 199) 23 [(0, .ref n)] [.ref (n + 3), .ref n]
  refine gw_putF hX kf_LL_19 (fun C T N h => by cases h; rfl) hnm nd_LL_init_23 h0 rfl rfl (Nat.le_of_ble_eq_true rfl) (e' := .inr (0, [.ref (n + 1), .ref (n + 3), .null, .null, .null, .null, .null, .null, .int (nI 0), .int (nI 0), .int (nI 0), .int (nI 0)])) rfl (gw_in_t 127 (by decide +kernel) rfl) ?_
  obtain ⟨σ6, eσ6⟩ : ∃ hp_, hp_ = gw_up σ5 n (.inr (0, [.ref (n + 1), .ref (n + 3), .null, .null, .null, .null, .null, .null, .int (nI 0), .int (nI 0), .int (nI 0), .int (nI 0)])) := ⟨_, rfl⟩
  refine gw_heap eσ6.symm ?_
  replace h0 : σ6.2 n = some (.inr (0, [.ref (n + 1), .ref (n + 3), .null, .null, .null, .null, .null, .null, .int (nI 0), .int (nI 0), .int (nI 0), .int (nI 0)])) := by rw [eσ6]; exact gw_up_eq _ _ _
  replace fr : ∀ b, b < n → σ6.2 b = σ.2 b := fun b hb9 => (show σ6.2 b = σ5.2 b by rw [eσ6, gw_up_ne (by omega)]).trans (fr b hb9)
  replace hsz : σ6.1 = n + 80 := by rw [eσ6]; exact hsz
  replace hH : ∀ τ : gw_S, (∀ b, n + 1 ≤ b → b < n + 80 → τ.2 b = σ6.2 b) → ((True) ∧ tx_at τ (gw_z X) (n + 1) 0 0 (fun _ => 0)) ∧ de_at τ (gw_z X) (n + 3) := fun τ f => hH τ (fun b q1 q2 => (f b q1 q2).trans (by rw [eσ6, gw_up_ne (by omega)]))
  refine gw_aload_n hX nd_LL_init_26 rfl 0 rfl ?_
  refine gw_new hX kc_We kn_LL_23 km_We kb_We nd_LL_init_27 (fs := [.null]) (by decide) (by show ((((0 + 1) + 1) + 1) + 76) + 1 ≤ 123; omega) (by show ((((0 + 3) + 240) + 2) + 199) + 1 ≤ 1140; omega) ?_
  replace hso : σ6.1 = n + 80 := hsz
  obtain ⟨σ7, eσ7⟩ : ∃ hp_, hp_ = gw_nw σ6 (.inr (7, [.null])) := ⟨_, rfl⟩
  refine gw_heap eσ7.symm ?_
  rw [hsz]
  replace h0 : σ7.2 n = some (.inr (0, [.ref (n + 1), .ref (n + 3), .null, .null, .null, .null, .null, .null, .int (nI 0), .int (nI 0), .int (nI 0), .int (nI 0)])) := by rw [eσ7, gw_nw_ne (by omega)]; exact h0
  replace g0 : σ7.2 (n + 80) = some (.inr (7, [.null])) := by rw [eσ7, ← hsz]; exact gw_nw_eq _ _
  replace fr : ∀ b, b < n → σ7.2 b = σ.2 b := fun b hb9 => (show σ7.2 b = σ6.2 b by rw [eσ7, gw_nw_ne (by omega)]).trans (fr b hb9)
  replace hsz : σ7.1 = n + 81 := by rw [eσ7]; show σ6.1 + 1 = _; omega
  replace hH : ∀ τ : gw_S, (∀ b, n + 1 ≤ b → b < n + 80 → τ.2 b = σ7.2 b) → ((True) ∧ tx_at τ (gw_z X) (n + 1) 0 0 (fun _ => 0)) ∧ de_at τ (gw_z X) (n + 3) := fun τ f => hH τ (fun b q1 q2 => (f b q1 q2).trans (by rw [eσ7, gw_nw_ne (by omega)]))
  refine gw_dup hX nd_LL_init_30 rfl ?_
  refine gw_callI (rest := [.ref (n + 80), .ref n]) hX ks_LL_25 (ct_We_init _ _ _ _ (n + 80) hsz g0) rfl rfl (Nat.le_of_ble_eq_true rfl) nd_LL_init_31 (by refine ⟨⟨by decide, by decide⟩, ?_, ?_⟩; (show (((((0 + 1) + 1) + 1) + 76) + 1) + 1 ≤ 123; omega); (show (((((0 + 3) + 240) + 2) + 199) + 1) + 148 ≤ 1140; omega)) ?_
  rintro _ σ8 ⟨rfl, hsz, g0, g1, hlow⟩
  replace h0 : σ8.2 n = some (.inr (0, [.ref (n + 1), .ref (n + 3), .null, .null, .null, .null, .null, .null, .int (nI 0), .int (nI 0), .int (nI 0), .int (nI 0)])) := (hlow n (by omega)).trans h0
  replace fr : ∀ b, b < n → σ8.2 b = σ.2 b := fun b hb9 => (hlow b (by omega)).trans (fr b hb9)
  replace hH : ∀ τ : gw_S, (∀ b, n + 1 ≤ b → b < n + 82 → τ.2 b = σ8.2 b) → (((True) ∧ tx_at τ (gw_z X) (n + 1) 0 0 (fun _ => 0)) ∧ de_at τ (gw_z X) (n + 3)) ∧ we_at τ (gw_z X) (n + 80) (fun _ => 0) := fun τ f => ⟨hH τ (fun b q1 q2 => (f b q1 (by omega)).trans (hlow b (by omega))), ((f _ (by omega) (by omega)).trans g0), ((f _ (by omega) (by omega)).trans (g1.trans (by rw [zz_J])))⟩
  replace hsz : σ8.1 = n + 82 := by omega
  show gw_W X σ8 ((((((0 + 1) + 1) + 1) + 76) + 1) + 1) ((((((0 + 3) + 240) + 2) + 199) + 1) + 148) 34 [(0, .ref n)] [.ref (n + 80), .ref n]
  refine gw_putF hX kf_LL_26 (fun C T N h => by cases h; rfl) hnm nd_LL_init_34 h0 rfl rfl (Nat.le_of_ble_eq_true rfl) (e' := .inr (0, [.ref (n + 1), .ref (n + 3), .ref (n + 80), .null, .null, .null, .null, .null, .int (nI 0), .int (nI 0), .int (nI 0), .int (nI 0)])) rfl (gw_in_t 128 (by decide +kernel) rfl) ?_
  obtain ⟨σ9, eσ9⟩ : ∃ hp_, hp_ = gw_up σ8 n (.inr (0, [.ref (n + 1), .ref (n + 3), .ref (n + 80), .null, .null, .null, .null, .null, .int (nI 0), .int (nI 0), .int (nI 0), .int (nI 0)])) := ⟨_, rfl⟩
  refine gw_heap eσ9.symm ?_
  replace h0 : σ9.2 n = some (.inr (0, [.ref (n + 1), .ref (n + 3), .ref (n + 80), .null, .null, .null, .null, .null, .int (nI 0), .int (nI 0), .int (nI 0), .int (nI 0)])) := by rw [eσ9]; exact gw_up_eq _ _ _
  replace fr : ∀ b, b < n → σ9.2 b = σ.2 b := fun b hb9 => (show σ9.2 b = σ8.2 b by rw [eσ9, gw_up_ne (by omega)]).trans (fr b hb9)
  replace hsz : σ9.1 = n + 82 := by rw [eσ9]; exact hsz
  replace hH : ∀ τ : gw_S, (∀ b, n + 1 ≤ b → b < n + 82 → τ.2 b = σ9.2 b) → (((True) ∧ tx_at τ (gw_z X) (n + 1) 0 0 (fun _ => 0)) ∧ de_at τ (gw_z X) (n + 3)) ∧ we_at τ (gw_z X) (n + 80) (fun _ => 0) := fun τ f => hH τ (fun b q1 q2 => (f b q1 q2).trans (by rw [eσ9, gw_up_ne (by omega)]))
  refine gw_aload_n hX nd_LL_init_37 rfl 0 rfl ?_
  refine gw_new hX kc_We kn_LL_23 km_We kb_We nd_LL_init_38 (fs := [.null]) (by decide) (by show ((((((0 + 1) + 1) + 1) + 76) + 1) + 1) + 1 ≤ 123; omega) (by show ((((((0 + 3) + 240) + 2) + 199) + 1) + 148) + 1 ≤ 1140; omega) ?_
  replace hso : σ9.1 = n + 82 := hsz
  obtain ⟨σ10, eσ10⟩ : ∃ hp_, hp_ = gw_nw σ9 (.inr (7, [.null])) := ⟨_, rfl⟩
  refine gw_heap eσ10.symm ?_
  rw [hsz]
  replace h0 : σ10.2 n = some (.inr (0, [.ref (n + 1), .ref (n + 3), .ref (n + 80), .null, .null, .null, .null, .null, .int (nI 0), .int (nI 0), .int (nI 0), .int (nI 0)])) := by rw [eσ10, gw_nw_ne (by omega)]; exact h0
  replace g0 : σ10.2 (n + 82) = some (.inr (7, [.null])) := by rw [eσ10, ← hsz]; exact gw_nw_eq _ _
  replace fr : ∀ b, b < n → σ10.2 b = σ.2 b := fun b hb9 => (show σ10.2 b = σ9.2 b by rw [eσ10, gw_nw_ne (by omega)]).trans (fr b hb9)
  replace hsz : σ10.1 = n + 83 := by rw [eσ10]; show σ9.1 + 1 = _; omega
  replace hH : ∀ τ : gw_S, (∀ b, n + 1 ≤ b → b < n + 82 → τ.2 b = σ10.2 b) → (((True) ∧ tx_at τ (gw_z X) (n + 1) 0 0 (fun _ => 0)) ∧ de_at τ (gw_z X) (n + 3)) ∧ we_at τ (gw_z X) (n + 80) (fun _ => 0) := fun τ f => hH τ (fun b q1 q2 => (f b q1 q2).trans (by rw [eσ10, gw_nw_ne (by omega)]))
  refine gw_dup hX nd_LL_init_41 rfl ?_
  refine gw_callI (rest := [.ref (n + 82), .ref n]) hX ks_LL_25 (ct_We_init _ _ _ _ (n + 82) hsz g0) rfl rfl (Nat.le_of_ble_eq_true rfl) nd_LL_init_42 (by refine ⟨⟨by decide, by decide⟩, ?_, ?_⟩; (show (((((((0 + 1) + 1) + 1) + 76) + 1) + 1) + 1) + 1 ≤ 123; omega); (show (((((((0 + 3) + 240) + 2) + 199) + 1) + 148) + 1) + 148 ≤ 1140; omega)) ?_
  rintro _ σ11 ⟨rfl, hsz, g0, g1, hlow⟩
  replace h0 : σ11.2 n = some (.inr (0, [.ref (n + 1), .ref (n + 3), .ref (n + 80), .null, .null, .null, .null, .null, .int (nI 0), .int (nI 0), .int (nI 0), .int (nI 0)])) := (hlow n (by omega)).trans h0
  replace fr : ∀ b, b < n → σ11.2 b = σ.2 b := fun b hb9 => (hlow b (by omega)).trans (fr b hb9)
  replace hH : ∀ τ : gw_S, (∀ b, n + 1 ≤ b → b < n + 84 → τ.2 b = σ11.2 b) → ((((True) ∧ tx_at τ (gw_z X) (n + 1) 0 0 (fun _ => 0)) ∧ de_at τ (gw_z X) (n + 3)) ∧ we_at τ (gw_z X) (n + 80) (fun _ => 0)) ∧ we_at τ (gw_z X) (n + 82) (fun _ => 0) := fun τ f => ⟨hH τ (fun b q1 q2 => (f b q1 (by omega)).trans (hlow b (by omega))), ((f _ (by omega) (by omega)).trans g0), ((f _ (by omega) (by omega)).trans (g1.trans (by rw [zz_J])))⟩
  replace hsz : σ11.1 = n + 84 := by omega
  show gw_W X σ11 ((((((((0 + 1) + 1) + 1) + 76) + 1) + 1) + 1) + 1) ((((((((0 + 3) + 240) + 2) + 199) + 1) + 148) + 1) + 148) 45 [(0, .ref n)] [.ref (n + 82), .ref n]
  refine gw_putF hX kf_LL_30 (fun C T N h => by cases h; rfl) hnm nd_LL_init_45 h0 rfl rfl (Nat.le_of_ble_eq_true rfl) (e' := .inr (0, [.ref (n + 1), .ref (n + 3), .ref (n + 80), .ref (n + 82), .null, .null, .null, .null, .int (nI 0), .int (nI 0), .int (nI 0), .int (nI 0)])) rfl (gw_in_t 129 (by decide +kernel) rfl) ?_
  obtain ⟨σ12, eσ12⟩ : ∃ hp_, hp_ = gw_up σ11 n (.inr (0, [.ref (n + 1), .ref (n + 3), .ref (n + 80), .ref (n + 82), .null, .null, .null, .null, .int (nI 0), .int (nI 0), .int (nI 0), .int (nI 0)])) := ⟨_, rfl⟩
  refine gw_heap eσ12.symm ?_
  replace h0 : σ12.2 n = some (.inr (0, [.ref (n + 1), .ref (n + 3), .ref (n + 80), .ref (n + 82), .null, .null, .null, .null, .int (nI 0), .int (nI 0), .int (nI 0), .int (nI 0)])) := by rw [eσ12]; exact gw_up_eq _ _ _
  replace fr : ∀ b, b < n → σ12.2 b = σ.2 b := fun b hb9 => (show σ12.2 b = σ11.2 b by rw [eσ12, gw_up_ne (by omega)]).trans (fr b hb9)
  replace hsz : σ12.1 = n + 84 := by rw [eσ12]; exact hsz
  replace hH : ∀ τ : gw_S, (∀ b, n + 1 ≤ b → b < n + 84 → τ.2 b = σ12.2 b) → ((((True) ∧ tx_at τ (gw_z X) (n + 1) 0 0 (fun _ => 0)) ∧ de_at τ (gw_z X) (n + 3)) ∧ we_at τ (gw_z X) (n + 80) (fun _ => 0)) ∧ we_at τ (gw_z X) (n + 82) (fun _ => 0) := fun τ f => hH τ (fun b q1 q2 => (f b q1 q2).trans (by rw [eσ12, gw_up_ne (by omega)]))
  refine gw_aload_n hX nd_LL_init_48 rfl 0 rfl ?_
  refine gw_new hX kc_Co kn_LL_33 km_Co kb_Co nd_LL_init_49 (fs := [.null, .int (nI 0)]) (by decide) (by show ((((((((0 + 1) + 1) + 1) + 76) + 1) + 1) + 1) + 1) + 1 ≤ 123; omega) (by show ((((((((0 + 3) + 240) + 2) + 199) + 1) + 148) + 1) + 148) + 2 ≤ 1140; omega) ?_
  replace hso : σ12.1 = n + 84 := hsz
  obtain ⟨σ13, eσ13⟩ : ∃ hp_, hp_ = gw_nw σ12 (.inr (2, [.null, .int (nI 0)])) := ⟨_, rfl⟩
  refine gw_heap eσ13.symm ?_
  rw [hsz]
  replace h0 : σ13.2 n = some (.inr (0, [.ref (n + 1), .ref (n + 3), .ref (n + 80), .ref (n + 82), .null, .null, .null, .null, .int (nI 0), .int (nI 0), .int (nI 0), .int (nI 0)])) := by rw [eσ13, gw_nw_ne (by omega)]; exact h0
  replace g0 : σ13.2 (n + 84) = some (.inr (2, [.null, .int (nI 0)])) := by rw [eσ13, ← hsz]; exact gw_nw_eq _ _
  replace fr : ∀ b, b < n → σ13.2 b = σ.2 b := fun b hb9 => (show σ13.2 b = σ12.2 b by rw [eσ13, gw_nw_ne (by omega)]).trans (fr b hb9)
  replace hsz : σ13.1 = n + 85 := by rw [eσ13]; show σ12.1 + 1 = _; omega
  replace hH : ∀ τ : gw_S, (∀ b, n + 1 ≤ b → b < n + 84 → τ.2 b = σ13.2 b) → ((((True) ∧ tx_at τ (gw_z X) (n + 1) 0 0 (fun _ => 0)) ∧ de_at τ (gw_z X) (n + 3)) ∧ we_at τ (gw_z X) (n + 80) (fun _ => 0)) ∧ we_at τ (gw_z X) (n + 82) (fun _ => 0) := fun τ f => hH τ (fun b q1 q2 => (f b q1 q2).trans (by rw [eσ13, gw_nw_ne (by omega)]))
  refine gw_dup hX nd_LL_init_52 rfl ?_
  refine gw_callI (rest := [.ref (n + 84), .ref n]) hX ks_LL_35 (ct_Co_init _ _ _ _ (n + 84) hsz g0) rfl rfl (Nat.le_of_ble_eq_true rfl) nd_LL_init_53 (by refine ⟨⟨by decide, by decide⟩, ?_, ?_⟩; (show (((((((((0 + 1) + 1) + 1) + 76) + 1) + 1) + 1) + 1) + 1) + 17 ≤ 123; omega); (show (((((((((0 + 3) + 240) + 2) + 199) + 1) + 148) + 1) + 148) + 2) + 176 ≤ 1140; omega)) ?_
  rintro _ σ14 ⟨rfl, hsz, g0, g1, hse, hlow⟩
  replace h0 : σ14.2 n = some (.inr (0, [.ref (n + 1), .ref (n + 3), .ref (n + 80), .ref (n + 82), .null, .null, .null, .null, .int (nI 0), .int (nI 0), .int (nI 0), .int (nI 0)])) := (hlow n (by omega)).trans h0
  replace fr : ∀ b, b < n → σ14.2 b = σ.2 b := fun b hb9 => (hlow b (by omega)).trans (fr b hb9)
  replace hH : ∀ τ : gw_S, (∀ b, n + 1 ≤ b → b < n + 102 → τ.2 b = σ14.2 b) → (((((True) ∧ tx_at τ (gw_z X) (n + 1) 0 0 (fun _ => 0)) ∧ de_at τ (gw_z X) (n + 3)) ∧ we_at τ (gw_z X) (n + 80) (fun _ => 0)) ∧ we_at τ (gw_z X) (n + 82) (fun _ => 0)) ∧ rc_at τ (gw_z X) (n + 84) [] := fun τ f => ⟨hH τ (fun b q1 q2 => (f b q1 (by omega)).trans (hlow b (by omega))), ((f _ (by omega) (by omega)).trans g0), ((f _ (by omega) (by omega)).trans g1), fun j hj => ⟨_, _, _, (f _ (by omega) (by omega)).trans (hse j hj).1, (f _ (by omega) (by omega)).trans (hse j hj).2⟩, fun j ws e => by simp at e⟩
  replace hsz : σ14.1 = n + 102 := by omega
  show gw_W X σ14 ((((((((((0 + 1) + 1) + 1) + 76) + 1) + 1) + 1) + 1) + 1) + 17) ((((((((((0 + 3) + 240) + 2) + 199) + 1) + 148) + 1) + 148) + 2) + 176) 56 [(0, .ref n)] [.ref (n + 84), .ref n]
  refine gw_put hX kf_LL_36 nd_LL_init_56 h0 rfl rfl (Nat.le_of_ble_eq_true rfl) (e' := .inr (0, [.ref (n + 1), .ref (n + 3), .ref (n + 80), .ref (n + 82), .ref (n + 84), .null, .null, .null, .int (nI 0), .int (nI 0), .int (nI 0), .int (nI 0)])) rfl ?_
  obtain ⟨σ15, eσ15⟩ : ∃ hp_, hp_ = gw_up σ14 n (.inr (0, [.ref (n + 1), .ref (n + 3), .ref (n + 80), .ref (n + 82), .ref (n + 84), .null, .null, .null, .int (nI 0), .int (nI 0), .int (nI 0), .int (nI 0)])) := ⟨_, rfl⟩
  refine gw_heap eσ15.symm ?_
  replace h0 : σ15.2 n = some (.inr (0, [.ref (n + 1), .ref (n + 3), .ref (n + 80), .ref (n + 82), .ref (n + 84), .null, .null, .null, .int (nI 0), .int (nI 0), .int (nI 0), .int (nI 0)])) := by rw [eσ15]; exact gw_up_eq _ _ _
  replace fr : ∀ b, b < n → σ15.2 b = σ.2 b := fun b hb9 => (show σ15.2 b = σ14.2 b by rw [eσ15, gw_up_ne (by omega)]).trans (fr b hb9)
  replace hsz : σ15.1 = n + 102 := by rw [eσ15]; exact hsz
  replace hH : ∀ τ : gw_S, (∀ b, n + 1 ≤ b → b < n + 102 → τ.2 b = σ15.2 b) → (((((True) ∧ tx_at τ (gw_z X) (n + 1) 0 0 (fun _ => 0)) ∧ de_at τ (gw_z X) (n + 3)) ∧ we_at τ (gw_z X) (n + 80) (fun _ => 0)) ∧ we_at τ (gw_z X) (n + 82) (fun _ => 0)) ∧ rc_at τ (gw_z X) (n + 84) [] := fun τ f => hH τ (fun b q1 q2 => (f b q1 q2).trans (by rw [eσ15, gw_up_ne (by omega)]))
  refine gw_aload_n hX nd_LL_init_59 rfl 0 rfl ?_
  refine gw_new hX kc_Co kn_LL_33 km_Co kb_Co nd_LL_init_60 (fs := [.null, .int (nI 0)]) (by decide) (by show ((((((((((0 + 1) + 1) + 1) + 76) + 1) + 1) + 1) + 1) + 1) + 17) + 1 ≤ 123; omega) (by show ((((((((((0 + 3) + 240) + 2) + 199) + 1) + 148) + 1) + 148) + 2) + 176) + 2 ≤ 1140; omega) ?_
  replace hso : σ15.1 = n + 102 := hsz
  obtain ⟨σ16, eσ16⟩ : ∃ hp_, hp_ = gw_nw σ15 (.inr (2, [.null, .int (nI 0)])) := ⟨_, rfl⟩
  refine gw_heap eσ16.symm ?_
  rw [hsz]
  replace h0 : σ16.2 n = some (.inr (0, [.ref (n + 1), .ref (n + 3), .ref (n + 80), .ref (n + 82), .ref (n + 84), .null, .null, .null, .int (nI 0), .int (nI 0), .int (nI 0), .int (nI 0)])) := by rw [eσ16, gw_nw_ne (by omega)]; exact h0
  replace g0 : σ16.2 (n + 102) = some (.inr (2, [.null, .int (nI 0)])) := by rw [eσ16, ← hsz]; exact gw_nw_eq _ _
  replace fr : ∀ b, b < n → σ16.2 b = σ.2 b := fun b hb9 => (show σ16.2 b = σ15.2 b by rw [eσ16, gw_nw_ne (by omega)]).trans (fr b hb9)
  replace hsz : σ16.1 = n + 103 := by rw [eσ16]; show σ15.1 + 1 = _; omega
  replace hH : ∀ τ : gw_S, (∀ b, n + 1 ≤ b → b < n + 102 → τ.2 b = σ16.2 b) → (((((True) ∧ tx_at τ (gw_z X) (n + 1) 0 0 (fun _ => 0)) ∧ de_at τ (gw_z X) (n + 3)) ∧ we_at τ (gw_z X) (n + 80) (fun _ => 0)) ∧ we_at τ (gw_z X) (n + 82) (fun _ => 0)) ∧ rc_at τ (gw_z X) (n + 84) [] := fun τ f => hH τ (fun b q1 q2 => (f b q1 q2).trans (by rw [eσ16, gw_nw_ne (by omega)]))
  refine gw_dup hX nd_LL_init_63 rfl ?_
  refine gw_callI (rest := [.ref (n + 102), .ref n]) hX ks_LL_35 (ct_Co_init _ _ _ _ (n + 102) hsz g0) rfl rfl (Nat.le_of_ble_eq_true rfl) nd_LL_init_64 (by refine ⟨⟨by decide, by decide⟩, ?_, ?_⟩; (show (((((((((((0 + 1) + 1) + 1) + 76) + 1) + 1) + 1) + 1) + 1) + 17) + 1) + 17 ≤ 123; omega); (show (((((((((((0 + 3) + 240) + 2) + 199) + 1) + 148) + 1) + 148) + 2) + 176) + 2) + 176 ≤ 1140; omega)) ?_
  rintro _ σ17 ⟨rfl, hsz, g0, g1, hse, hlow⟩
  replace h0 : σ17.2 n = some (.inr (0, [.ref (n + 1), .ref (n + 3), .ref (n + 80), .ref (n + 82), .ref (n + 84), .null, .null, .null, .int (nI 0), .int (nI 0), .int (nI 0), .int (nI 0)])) := (hlow n (by omega)).trans h0
  replace fr : ∀ b, b < n → σ17.2 b = σ.2 b := fun b hb9 => (hlow b (by omega)).trans (fr b hb9)
  replace hH : ∀ τ : gw_S, (∀ b, n + 1 ≤ b → b < n + 120 → τ.2 b = σ17.2 b) → ((((((True) ∧ tx_at τ (gw_z X) (n + 1) 0 0 (fun _ => 0)) ∧ de_at τ (gw_z X) (n + 3)) ∧ we_at τ (gw_z X) (n + 80) (fun _ => 0)) ∧ we_at τ (gw_z X) (n + 82) (fun _ => 0)) ∧ rc_at τ (gw_z X) (n + 84) []) ∧ rc_any τ (gw_z X) (n + 102) := fun τ f => ⟨hH τ (fun b q1 q2 => (f b q1 (by omega)).trans (hlow b (by omega))), _, ((f _ (by omega) (by omega)).trans g0), ((f _ (by omega) (by omega)).trans g1), fun j hj => ⟨_, _, _, (f _ (by omega) (by omega)).trans (hse j hj).1, (f _ (by omega) (by omega)).trans (hse j hj).2⟩⟩
  replace hsz : σ17.1 = n + 120 := by omega
  show gw_W X σ17 ((((((((((((0 + 1) + 1) + 1) + 76) + 1) + 1) + 1) + 1) + 1) + 17) + 1) + 17) ((((((((((((0 + 3) + 240) + 2) + 199) + 1) + 148) + 1) + 148) + 2) + 176) + 2) + 176) 67 [(0, .ref n)] [.ref (n + 102), .ref n]
  refine gw_put hX kf_LL_40 nd_LL_init_67 h0 rfl rfl (Nat.le_of_ble_eq_true rfl) (e' := .inr (0, [.ref (n + 1), .ref (n + 3), .ref (n + 80), .ref (n + 82), .ref (n + 84), .ref (n + 102), .null, .null, .int (nI 0), .int (nI 0), .int (nI 0), .int (nI 0)])) rfl ?_
  obtain ⟨σ18, eσ18⟩ : ∃ hp_, hp_ = gw_up σ17 n (.inr (0, [.ref (n + 1), .ref (n + 3), .ref (n + 80), .ref (n + 82), .ref (n + 84), .ref (n + 102), .null, .null, .int (nI 0), .int (nI 0), .int (nI 0), .int (nI 0)])) := ⟨_, rfl⟩
  refine gw_heap eσ18.symm ?_
  replace h0 : σ18.2 n = some (.inr (0, [.ref (n + 1), .ref (n + 3), .ref (n + 80), .ref (n + 82), .ref (n + 84), .ref (n + 102), .null, .null, .int (nI 0), .int (nI 0), .int (nI 0), .int (nI 0)])) := by rw [eσ18]; exact gw_up_eq _ _ _
  replace fr : ∀ b, b < n → σ18.2 b = σ.2 b := fun b hb9 => (show σ18.2 b = σ17.2 b by rw [eσ18, gw_up_ne (by omega)]).trans (fr b hb9)
  replace hsz : σ18.1 = n + 120 := by rw [eσ18]; exact hsz
  replace hH : ∀ τ : gw_S, (∀ b, n + 1 ≤ b → b < n + 120 → τ.2 b = σ18.2 b) → ((((((True) ∧ tx_at τ (gw_z X) (n + 1) 0 0 (fun _ => 0)) ∧ de_at τ (gw_z X) (n + 3)) ∧ we_at τ (gw_z X) (n + 80) (fun _ => 0)) ∧ we_at τ (gw_z X) (n + 82) (fun _ => 0)) ∧ rc_at τ (gw_z X) (n + 84) []) ∧ rc_any τ (gw_z X) (n + 102) := fun τ f => hH τ (fun b q1 q2 => (f b q1 q2).trans (by rw [eσ18, gw_up_ne (by omega)]))
  refine gw_aload_n hX nd_LL_init_70 rfl 0 rfl ?_
  refine gw_new hX kc_Se kn_LL_43 km_Se kb_Se nd_LL_init_71 (fs := [.null, .int (nI 0), .int (nI 0)]) (by decide) (by show ((((((((((((0 + 1) + 1) + 1) + 76) + 1) + 1) + 1) + 1) + 1) + 17) + 1) + 17) + 1 ≤ 123; omega) (by show ((((((((((((0 + 3) + 240) + 2) + 199) + 1) + 148) + 1) + 148) + 2) + 176) + 2) + 176) + 3 ≤ 1140; omega) ?_
  replace hso : σ18.1 = n + 120 := hsz
  obtain ⟨σ19, eσ19⟩ : ∃ hp_, hp_ = gw_nw σ18 (.inr (5, [.null, .int (nI 0), .int (nI 0)])) := ⟨_, rfl⟩
  refine gw_heap eσ19.symm ?_
  rw [hsz]
  replace h0 : σ19.2 n = some (.inr (0, [.ref (n + 1), .ref (n + 3), .ref (n + 80), .ref (n + 82), .ref (n + 84), .ref (n + 102), .null, .null, .int (nI 0), .int (nI 0), .int (nI 0), .int (nI 0)])) := by rw [eσ19, gw_nw_ne (by omega)]; exact h0
  replace g0 : σ19.2 (n + 120) = some (.inr (5, [.null, .int (nI 0), .int (nI 0)])) := by rw [eσ19, ← hsz]; exact gw_nw_eq _ _
  replace fr : ∀ b, b < n → σ19.2 b = σ.2 b := fun b hb9 => (show σ19.2 b = σ18.2 b by rw [eσ19, gw_nw_ne (by omega)]).trans (fr b hb9)
  replace hsz : σ19.1 = n + 121 := by rw [eσ19]; show σ18.1 + 1 = _; omega
  replace hH : ∀ τ : gw_S, (∀ b, n + 1 ≤ b → b < n + 120 → τ.2 b = σ19.2 b) → ((((((True) ∧ tx_at τ (gw_z X) (n + 1) 0 0 (fun _ => 0)) ∧ de_at τ (gw_z X) (n + 3)) ∧ we_at τ (gw_z X) (n + 80) (fun _ => 0)) ∧ we_at τ (gw_z X) (n + 82) (fun _ => 0)) ∧ rc_at τ (gw_z X) (n + 84) []) ∧ rc_any τ (gw_z X) (n + 102) := fun τ f => hH τ (fun b q1 q2 => (f b q1 q2).trans (by rw [eσ19, gw_nw_ne (by omega)]))
  refine gw_dup hX nd_LL_init_74 rfl ?_
  refine gw_callI (rest := [.ref (n + 120), .ref n]) hX ks_LL_45 (ct_Se_init _ _ _ _ (n + 120) hsz g0) rfl rfl (Nat.le_of_ble_eq_true rfl) nd_LL_init_75 (by refine ⟨⟨by decide, by decide⟩, ?_, ?_⟩; (show (((((((((((((0 + 1) + 1) + 1) + 76) + 1) + 1) + 1) + 1) + 1) + 17) + 1) + 17) + 1) + 1 ≤ 123; omega); (show (((((((((((((0 + 3) + 240) + 2) + 199) + 1) + 148) + 1) + 148) + 2) + 176) + 2) + 176) + 3) + 18 ≤ 1140; omega)) ?_
  rintro _ σ20 ⟨rfl, hsz, g0, g1, hlow⟩
  replace h0 : σ20.2 n = some (.inr (0, [.ref (n + 1), .ref (n + 3), .ref (n + 80), .ref (n + 82), .ref (n + 84), .ref (n + 102), .null, .null, .int (nI 0), .int (nI 0), .int (nI 0), .int (nI 0)])) := (hlow n (by omega)).trans h0
  replace fr : ∀ b, b < n → σ20.2 b = σ.2 b := fun b hb9 => (hlow b (by omega)).trans (fr b hb9)
  replace hH : ∀ τ : gw_S, (∀ b, n + 1 ≤ b → b < n + 122 → τ.2 b = σ20.2 b) → (((((((True) ∧ tx_at τ (gw_z X) (n + 1) 0 0 (fun _ => 0)) ∧ de_at τ (gw_z X) (n + 3)) ∧ we_at τ (gw_z X) (n + 80) (fun _ => 0)) ∧ we_at τ (gw_z X) (n + 82) (fun _ => 0)) ∧ rc_at τ (gw_z X) (n + 84) []) ∧ rc_any τ (gw_z X) (n + 102)) ∧ se_at τ (gw_z X) (n + 120) [] := fun τ f => ⟨hH τ (fun b q1 q2 => (f b q1 (by omega)).trans (hlow b (by omega))), _, ((f _ (by omega) (by omega)).trans (g0.trans (by rw [se_c_nil]; rfl))), ((f _ (by omega) (by omega)).trans g1), fun w x hx => by simp at hx⟩
  replace hsz : σ20.1 = n + 122 := by omega
  show gw_W X σ20 ((((((((((((((0 + 1) + 1) + 1) + 76) + 1) + 1) + 1) + 1) + 1) + 17) + 1) + 17) + 1) + 1) ((((((((((((((0 + 3) + 240) + 2) + 199) + 1) + 148) + 1) + 148) + 2) + 176) + 2) + 176) + 3) + 18) 78 [(0, .ref n)] [.ref (n + 120), .ref n]
  refine gw_put hX kf_LL_46 nd_LL_init_78 h0 rfl rfl (Nat.le_of_ble_eq_true rfl) (e' := .inr (0, [.ref (n + 1), .ref (n + 3), .ref (n + 80), .ref (n + 82), .ref (n + 84), .ref (n + 102), .ref (n + 120), .null, .int (nI 0), .int (nI 0), .int (nI 0), .int (nI 0)])) rfl ?_
  obtain ⟨σ21, eσ21⟩ : ∃ hp_, hp_ = gw_up σ20 n (.inr (0, [.ref (n + 1), .ref (n + 3), .ref (n + 80), .ref (n + 82), .ref (n + 84), .ref (n + 102), .ref (n + 120), .null, .int (nI 0), .int (nI 0), .int (nI 0), .int (nI 0)])) := ⟨_, rfl⟩
  refine gw_heap eσ21.symm ?_
  replace h0 : σ21.2 n = some (.inr (0, [.ref (n + 1), .ref (n + 3), .ref (n + 80), .ref (n + 82), .ref (n + 84), .ref (n + 102), .ref (n + 120), .null, .int (nI 0), .int (nI 0), .int (nI 0), .int (nI 0)])) := by rw [eσ21]; exact gw_up_eq _ _ _
  replace fr : ∀ b, b < n → σ21.2 b = σ.2 b := fun b hb9 => (show σ21.2 b = σ20.2 b by rw [eσ21, gw_up_ne (by omega)]).trans (fr b hb9)
  replace hsz : σ21.1 = n + 122 := by rw [eσ21]; exact hsz
  replace hH : ∀ τ : gw_S, (∀ b, n + 1 ≤ b → b < n + 122 → τ.2 b = σ21.2 b) → (((((((True) ∧ tx_at τ (gw_z X) (n + 1) 0 0 (fun _ => 0)) ∧ de_at τ (gw_z X) (n + 3)) ∧ we_at τ (gw_z X) (n + 80) (fun _ => 0)) ∧ we_at τ (gw_z X) (n + 82) (fun _ => 0)) ∧ rc_at τ (gw_z X) (n + 84) []) ∧ rc_any τ (gw_z X) (n + 102)) ∧ se_at τ (gw_z X) (n + 120) [] := fun τ f => hH τ (fun b q1 q2 => (f b q1 q2).trans (by rw [eσ21, gw_up_ne (by omega)]))
  refine gw_aload_n hX nd_LL_init_81 rfl 0 rfl ?_
  refine gw_new hX kc_Se kn_LL_43 km_Se kb_Se nd_LL_init_82 (fs := [.null, .int (nI 0), .int (nI 0)]) (by decide) (by show ((((((((((((((0 + 1) + 1) + 1) + 76) + 1) + 1) + 1) + 1) + 1) + 17) + 1) + 17) + 1) + 1) + 1 ≤ 123; omega) (by show ((((((((((((((0 + 3) + 240) + 2) + 199) + 1) + 148) + 1) + 148) + 2) + 176) + 2) + 176) + 3) + 18) + 3 ≤ 1140; omega) ?_
  replace hso : σ21.1 = n + 122 := hsz
  obtain ⟨σ22, eσ22⟩ : ∃ hp_, hp_ = gw_nw σ21 (.inr (5, [.null, .int (nI 0), .int (nI 0)])) := ⟨_, rfl⟩
  refine gw_heap eσ22.symm ?_
  rw [hsz]
  replace h0 : σ22.2 n = some (.inr (0, [.ref (n + 1), .ref (n + 3), .ref (n + 80), .ref (n + 82), .ref (n + 84), .ref (n + 102), .ref (n + 120), .null, .int (nI 0), .int (nI 0), .int (nI 0), .int (nI 0)])) := by rw [eσ22, gw_nw_ne (by omega)]; exact h0
  replace g0 : σ22.2 (n + 122) = some (.inr (5, [.null, .int (nI 0), .int (nI 0)])) := by rw [eσ22, ← hsz]; exact gw_nw_eq _ _
  replace fr : ∀ b, b < n → σ22.2 b = σ.2 b := fun b hb9 => (show σ22.2 b = σ21.2 b by rw [eσ22, gw_nw_ne (by omega)]).trans (fr b hb9)
  replace hsz : σ22.1 = n + 123 := by rw [eσ22]; show σ21.1 + 1 = _; omega
  replace hH : ∀ τ : gw_S, (∀ b, n + 1 ≤ b → b < n + 122 → τ.2 b = σ22.2 b) → (((((((True) ∧ tx_at τ (gw_z X) (n + 1) 0 0 (fun _ => 0)) ∧ de_at τ (gw_z X) (n + 3)) ∧ we_at τ (gw_z X) (n + 80) (fun _ => 0)) ∧ we_at τ (gw_z X) (n + 82) (fun _ => 0)) ∧ rc_at τ (gw_z X) (n + 84) []) ∧ rc_any τ (gw_z X) (n + 102)) ∧ se_at τ (gw_z X) (n + 120) [] := fun τ f => hH τ (fun b q1 q2 => (f b q1 q2).trans (by rw [eσ22, gw_nw_ne (by omega)]))
  refine gw_dup hX nd_LL_init_85 rfl ?_
  refine gw_callI (rest := [.ref (n + 122), .ref n]) hX ks_LL_45 (ct_Se_init _ _ _ _ (n + 122) hsz g0) rfl rfl (Nat.le_of_ble_eq_true rfl) nd_LL_init_86 (by refine ⟨⟨by decide, by decide⟩, ?_, ?_⟩; (show (((((((((((((((0 + 1) + 1) + 1) + 76) + 1) + 1) + 1) + 1) + 1) + 17) + 1) + 17) + 1) + 1) + 1) + 1 ≤ 123; omega); (show (((((((((((((((0 + 3) + 240) + 2) + 199) + 1) + 148) + 1) + 148) + 2) + 176) + 2) + 176) + 3) + 18) + 3) + 18 ≤ 1140; omega)) ?_
  rintro _ σ23 ⟨rfl, hsz, g0, g1, hlow⟩
  replace h0 : σ23.2 n = some (.inr (0, [.ref (n + 1), .ref (n + 3), .ref (n + 80), .ref (n + 82), .ref (n + 84), .ref (n + 102), .ref (n + 120), .null, .int (nI 0), .int (nI 0), .int (nI 0), .int (nI 0)])) := (hlow n (by omega)).trans h0
  replace fr : ∀ b, b < n → σ23.2 b = σ.2 b := fun b hb9 => (hlow b (by omega)).trans (fr b hb9)
  replace hH : ∀ τ : gw_S, (∀ b, n + 1 ≤ b → b < n + 124 → τ.2 b = σ23.2 b) → ((((((((True) ∧ tx_at τ (gw_z X) (n + 1) 0 0 (fun _ => 0)) ∧ de_at τ (gw_z X) (n + 3)) ∧ we_at τ (gw_z X) (n + 80) (fun _ => 0)) ∧ we_at τ (gw_z X) (n + 82) (fun _ => 0)) ∧ rc_at τ (gw_z X) (n + 84) []) ∧ rc_any τ (gw_z X) (n + 102)) ∧ se_at τ (gw_z X) (n + 120) []) ∧ se_any τ (gw_z X) (n + 122) := fun τ f => ⟨hH τ (fun b q1 q2 => (f b q1 (by omega)).trans (hlow b (by omega))), _, _, _, ((f _ (by omega) (by omega)).trans g0), ((f _ (by omega) (by omega)).trans g1)⟩
  replace hsz : σ23.1 = n + 124 := by omega
  show gw_W X σ23 ((((((((((((((((0 + 1) + 1) + 1) + 76) + 1) + 1) + 1) + 1) + 1) + 17) + 1) + 17) + 1) + 1) + 1) + 1) ((((((((((((((((0 + 3) + 240) + 2) + 199) + 1) + 148) + 1) + 148) + 2) + 176) + 2) + 176) + 3) + 18) + 3) + 18) 89 [(0, .ref n)] [.ref (n + 122), .ref n]
  refine gw_put hX kf_LL_50 nd_LL_init_89 h0 rfl rfl (Nat.le_of_ble_eq_true rfl) (e' := .inr (0, [.ref (n + 1), .ref (n + 3), .ref (n + 80), .ref (n + 82), .ref (n + 84), .ref (n + 102), .ref (n + 120), .ref (n + 122), .int (nI 0), .int (nI 0), .int (nI 0), .int (nI 0)])) rfl ?_
  obtain ⟨σ24, eσ24⟩ : ∃ hp_, hp_ = gw_up σ23 n (.inr (0, [.ref (n + 1), .ref (n + 3), .ref (n + 80), .ref (n + 82), .ref (n + 84), .ref (n + 102), .ref (n + 120), .ref (n + 122), .int (nI 0), .int (nI 0), .int (nI 0), .int (nI 0)])) := ⟨_, rfl⟩
  refine gw_heap eσ24.symm ?_
  replace h0 : σ24.2 n = some (.inr (0, [.ref (n + 1), .ref (n + 3), .ref (n + 80), .ref (n + 82), .ref (n + 84), .ref (n + 102), .ref (n + 120), .ref (n + 122), .int (nI 0), .int (nI 0), .int (nI 0), .int (nI 0)])) := by rw [eσ24]; exact gw_up_eq _ _ _
  replace fr : ∀ b, b < n → σ24.2 b = σ.2 b := fun b hb9 => (show σ24.2 b = σ23.2 b by rw [eσ24, gw_up_ne (by omega)]).trans (fr b hb9)
  replace hsz : σ24.1 = n + 124 := by rw [eσ24]; exact hsz
  replace hH : ∀ τ : gw_S, (∀ b, n + 1 ≤ b → b < n + 124 → τ.2 b = σ24.2 b) → ((((((((True) ∧ tx_at τ (gw_z X) (n + 1) 0 0 (fun _ => 0)) ∧ de_at τ (gw_z X) (n + 3)) ∧ we_at τ (gw_z X) (n + 80) (fun _ => 0)) ∧ we_at τ (gw_z X) (n + 82) (fun _ => 0)) ∧ rc_at τ (gw_z X) (n + 84) []) ∧ rc_any τ (gw_z X) (n + 102)) ∧ se_at τ (gw_z X) (n + 120) []) ∧ se_any τ (gw_z X) (n + 122) := fun τ f => hH τ (fun b q1 q2 => (f b q1 q2).trans (by rw [eσ24, gw_up_ne (by omega)]))
  replace hP := hH σ24 (fun _ _ _ => rfl)
  obtain ⟨⟨⟨⟨⟨⟨⟨⟨-, p1⟩, p2⟩, p3⟩, p4⟩, p5⟩, p6⟩, p7⟩, p8⟩ := hP
  exact gw_vret hX hQ hr nd_LL_init_92 (by decide) (by decide) ⟨rfl, hsz, ⟨⟨Or.inl ⟨rfl, rfl⟩, Or.inl ⟨rfl, rfl⟩⟩, h0, ⟨0, by decide, p1⟩, p2, p3, p4, p5, p6, p7, p8⟩, fr⟩
