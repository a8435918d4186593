theorem gw_extQ {X : gw_C} {σ : gw_S} {ce sl pc : Nat} {L : List (Nat × Value)} {st : List Value} {a n j : Nat} {f g : Nat → Option Nat} (h : σ.2 a = some (.inl ((gw_z X).2 j, n, .inr (.inr (.inr (.inr f)))))) (he : ∀ j, j < n → f j = g j) (kk : gw_W X (gw_up σ a (.inl ((gw_z X).2 j, n, .inr (.inr (.inr (.inr g)))))) ce sl pc L st) : gw_W X σ ce sl pc L st := by
  intro H locs ls hG hS hL
  refine kk H locs ls (gw_H_up hG h ?_ rfl (fun _ _ => rfl)) hS hL
  have h1 : H[a]? = some (vp_cell _ _) := (hG.2.2 a _ h).2
  show H[a]? = some (vp_cell _ _)
  rw [h1, vp_cell_q, vp_cell_q, gw_arr_ext _ _ (fun j hj => by rw [he j hj])]
theorem gw_wide {X : gw_C} {σ : gw_S} {ce sl ce' sl' pc : Nat} {L : List (Nat × Value)} {st : List Value} (h1 : ce ≤ ce') (h2 : sl ≤ sl') (kk : gw_W X σ ce' sl' pc L st) : gw_W X σ ce sl pc L st := fun H locs ls hG hS hL => W.widen h1 h2 (kk H locs ls hG hS hL)
def se_new (σ : gw_S) (Z : gw_Z) (s : Nat) : Prop := σ.2 s = some (.inr (5, [.ref (s + 1), .int (nI 0), .int (nI 0)])) ∧ σ.2 (s + 1) = some (gw_I Z 18 (fun _ => 0))
theorem se_keep {σ σ' : gw_S} {Z : gw_Z} {s : Nat} (h : se_new σ Z s) (f : ∀ b, s ≤ b → b < s + 2 → σ'.2 b = σ.2 b) : se_new σ' Z s := ⟨(f _ (by omega) (by omega)).trans h.1, (f _ (by omega) (by omega)).trans h.2⟩
set_option maxRecDepth 100000 in
set_option maxHeartbeats 4000000 in
theorem lp_Co_init {X : gw_C} (a : Nat) {σ0 : gw_S} (hX : gw_ok X nc_Co_init "LabelLearner$Corpus" (2, 2, 44, 17, 176)) (hQ : X.2.2.2.2 = gw_end X (fun v σ' => v = none ∧ σ'.1 = a + 18 ∧ σ'.2 a = some (.inr (2, [.ref (a + 1), .int (nI 0)])) ∧ σ'.2 (a + 1) = some (gw_Q3 (gw_z X) 8 (fun j => some (a + 2 + 2 * j))) ∧ (∀ j, j < 8 → se_new σ' (gw_z X) (a + 2 + 2 * j)) ∧ (∀ b, b < a → σ'.2 b = σ0.2 b)) 17 176) (hr : X.2.2.1.1.sig.returnType = none) : ∀ (u k : Nat) (f : Nat → Option Nat) (σ : gw_S), k + u = 8 → σ.1 = a + 2 + 2 * k → σ.2 a = some (.inr (2, [.ref (a + 1), .int (nI 0)])) → σ.2 (a + 1) = some (gw_Q3 (gw_z X) 8 f) → (∀ j, j < k → f j = some (a + 2 + 2 * j)) → (∀ j, j < k → se_new σ (gw_z X) (a + 2 + 2 * j)) → (∀ b, b < a → σ.2 b = σ0.2 b) → gw_W X σ (1 + 2 * k) (8 + 21 * k) 15 [(0, .ref a), (1, .int (nI k))] [] := by
  intro u
  induction u using Nat.strongRecOn with
  | ind u ih =>
    intro k f σ hku hsz h0 h1 hf hse fr
    have hkp : ∀ b, a + 2 ≤ b → b < a + 2 + 2 * k → σ.2 b = σ.2 b := fun _ _ _ => rfl
    refine gw_iload_n hX nd_Co_init_15 rfl 1 rfl ?_
    refine gw_bipush (v := nI 8) hX nd_Co_init_16 rfl ?_
    refine gw_icmp_ge (tgt := 40) hX nd_Co_init_18 rfl (fun hb => ?_) (fun hb => ?_)
    · have hb : 8 ≤ k := (nI_leI (a := 8) (b := k) (by omega) (by omega)).mp hb
      have hk8 : k = 8 := by omega
      refine gw_extQ (j := 3) h1 (g := fun j => some (a + 2 + 2 * j)) (fun j hj => hf j (by omega)) ?_
      exact gw_vret hX hQ hr nd_Co_init_40 (by omega) (by omega) ⟨rfl, by show σ.1 = _; omega, by rw [gw_up_ne (by omega)]; exact h0, gw_up_eq _ _ _, fun j hj => ⟨by rw [gw_up_ne (by omega)]; exact (hse j (by omega)).1, by rw [gw_up_ne (by omega)]; exact (hse j (by omega)).2⟩, fun b hb9 => by rw [gw_up_ne (by omega)]; exact fr b hb9⟩
    · have hb : ¬ 8 ≤ k := fun h => hb ((nI_leI (a := 8) (b := k) (by omega) (by omega)).mpr h)
      refine gw_aload_n hX nd_Co_init_21 rfl 0 rfl ?_
      refine gw_get hX kf_Co_11 nd_Co_init_22 h0 rfl ?_
      refine gw_iload_n hX nd_Co_init_25 rfl 1 rfl ?_
      refine gw_new hX kc_Se kn_Co_9 km_Se kb_Se nd_Co_init_26 (fs := [.null, .int (nI 0), .int (nI 0)]) (by decide) (by show (1 + 2 * k) + 1 ≤ 17; omega) (by show (8 + 21 * k) + 3 ≤ 176; omega) ?_
      obtain ⟨σ1, eσ1⟩ : ∃ hp_, hp_ = gw_nw σ (.inr (5, [.null, .int (nI 0), .int (nI 0)])) := ⟨_, rfl⟩
      refine gw_heap eσ1.symm ?_
      rw [hsz]
      have h0 : σ1.2 a = some (.inr (2, [.ref (a + 1), .int (nI 0)])) := by rw [eσ1, gw_nw_ne (by omega)]; exact h0
      have h1 : σ1.2 (a + 1) = some ((gw_Q3 (gw_z X) 8 f)) := by rw [eσ1, gw_nw_ne (by omega)]; exact h1
      have g0 : σ1.2 (a + 2 + 2 * k) = some (.inr (5, [.null, .int (nI 0), .int (nI 0)])) := by rw [eσ1, ← hsz]; exact gw_nw_eq _ _
      have fr : ∀ b, b < a → σ1.2 b = σ0.2 b := fun b hb9 => (show σ1.2 b = σ.2 b by rw [eσ1, gw_nw_ne (by omega)]).trans (fr b hb9)
      have hsz : σ1.1 = a + 2 + 2 * k + 1 := by rw [eσ1]; show σ.1 + 1 = _; omega
      have hkp : ∀ b, a + 2 ≤ b → b < a + 2 + 2 * k → σ1.2 b = σ.2 b := fun b q1 q2 => by rw [eσ1, gw_nw_ne (by omega)]
      refine gw_dup hX nd_Co_init_29 rfl ?_
      refine gw_callI (rest := [.ref (a + 2 + 2 * k), .int (nI k), .ref (a + 1)]) hX ks_Co_17 (ct_Se_init _ _ _ _ (a + 2 + 2 * k) hsz g0) rfl rfl (Nat.le_of_ble_eq_true rfl) nd_Co_init_30 (by refine ⟨⟨by decide, by decide⟩, ?_, ?_⟩; (show ((1 + 2 * k) + 1) + 1 ≤ 17; omega); (show ((8 + 21 * k) + 3) + 18 ≤ 176; omega)) ?_
      rintro _ σ2 ⟨rfl, hsz, g0, g1, hlow⟩
      have h0 : σ2.2 a = some (.inr (2, [.ref (a + 1), .int (nI 0)])) := (hlow a (by omega)).trans h0
      have h1 : σ2.2 (a + 1) = some ((gw_Q3 (gw_z X) 8 f)) := (hlow (a + 1) (by omega)).trans h1
      have fr : ∀ b, b < a → σ2.2 b = σ0.2 b := fun b hb9 => (hlow b (by omega)).trans (fr b hb9)
      have hkp : ∀ b, a + 2 ≤ b → b < a + 2 + 2 * k → σ2.2 b = σ.2 b := fun b q1 q2 => (hlow b (by omega)).trans (hkp b q1 q2)
      show gw_W X σ2 (((1 + 2 * k) + 1) + 1) (((8 + 21 * k) + 3) + 18) 33 [(0, .ref a), (1, .int (nI k))] [.ref (a + 2 + 2 * k), .int (nI k), .ref (a + 1)]
      refine gw_astQ (j := 3) hX rfl rfl nd_Co_init_33 h1 g0 k rfl (by omega) (by decide) ?_
      obtain ⟨σ3, eσ3⟩ : ∃ hp_, hp_ = gw_up σ2 (a + 1) ((gw_Q3 (gw_z X) 8 (va_up f k (some (a + 2 + 2 * k))))) := ⟨_, rfl⟩
      refine gw_heap eσ3.symm ?_
      have h0 : σ3.2 a = some (.inr (2, [.ref (a + 1), .int (nI 0)])) := by rw [eσ3, gw_up_ne (by omega)]; exact h0
      have h1 : σ3.2 (a + 1) = some ((gw_Q3 (gw_z X) 8 (va_up f k (some (a + 2 + 2 * k))))) := by rw [eσ3]; exact gw_up_eq _ _ _
      have g0 : σ3.2 (a + 2 + 2 * k) = some (.inr (5, [.ref (a + 2 + 2 * k + 1), .int (nI 0), .int (nI 0)])) := by rw [eσ3, gw_up_ne (by omega)]; exact g0
      have g1 : σ3.2 (a + 2 + 2 * k + 1) = some ((gw_I (gw_z X) 18 (fun _ => 0))) := by rw [eσ3, gw_up_ne (by omega)]; exact g1
      have fr : ∀ b, b < a → σ3.2 b = σ0.2 b := fun b hb9 => (show σ3.2 b = σ2.2 b by rw [eσ3, gw_up_ne (by omega)]).trans (fr b hb9)
      have hsz : σ3.1 = a + 2 + 2 * k + 2 := by rw [eσ3]; exact hsz
      have hkp : ∀ b, a + 2 ≤ b → b < a + 2 + 2 * k → σ3.2 b = σ.2 b := fun b q1 q2 => (show σ3.2 b = σ2.2 b by rw [eσ3, gw_up_ne (by omega)]).trans (hkp b q1 q2)
      refine gw_iinc hX nd_Co_init_34 1 rfl (v := nI (k + 1)) (show nI k + nI 1 = nI (k + 1) from nI_add _ _) (by decide) (L' := [(1, .int (nI (k + 1))), (0, .ref a)]) rfl ?_
      refine gw_goto (tgt := 15) hX nd_Co_init_37 rfl ?_
      refine gw_cut (ks := [1, 0]) (L' := [(0, .ref a), (1, .int (nI (k + 1)))]) rfl ?_
      refine gw_wide (ce' := 1 + 2 * (k + 1)) (sl' := 8 + 21 * (k + 1)) (by omega) (by omega) ?_
      exact ih (u - 1) (by omega) (k + 1) _ _ (by omega) (by rw [hsz]; omega) h0 h1 (fun j hj => by by_cases e : j = k; (rw [e, va_up_self]); (rw [va_up_ne _ _ e]; exact hf j (by omega))) (fun j hj => by by_cases e : j = k; (rw [e]; exact ⟨g0, g1⟩); exact se_keep (hse j (by omega)) (fun b h1 h2 => hkp b (by omega) (by omega))) fr
set_option maxRecDepth 100000 in
set_option maxHeartbeats 4000000 in
theorem ct_Co_init (l : Launch) (Z : gw_Z) (b0 : Nat) (σ : gw_S) (a : Nat) (hsz : σ.1 = a + 1) (h0 : σ.2 a = some (.inr (2, [.null, .int (nI 0)]))) : gw_M l ny_Co_init nc_Co_init (2, 2, 44, 17, 176) none Z b0 σ [.ref a] (fun v σ' => v = none ∧ σ'.1 = a + 18 ∧ σ'.2 a = some (.inr (2, [.ref (a + 1), .int (nI 0)])) ∧ σ'.2 (a + 1) = some (gw_Q3 Z 8 (fun j => some (a + 2 + 2 * j))) ∧ (∀ j, j < 8 → se_new σ' Z (a + 2 + 2 * j)) ∧ (∀ b, b < a → σ'.2 b = σ.2 b)) := by
  refine gw_M_of rfl (Nat.le_of_ble_eq_true rfl) ?_
  intro X hX hl hz hb0 hr hnm hQ
  subst hz hb0 hl
  have hX : gw_ok X nc_Co_init "LabelLearner$Corpus" (2, 2, 44, 17, 176) := hX
  show gw_W X σ 0 0 0 [(0, .ref a)] []
  have fr : ∀ b, b < a → σ.2 b = σ.2 b := fun _ _ => rfl
  refine gw_aload_n hX nd_Co_init_0 rfl 0 rfl ?_
  refine gw_obj hX ko_Co_3 ko_i ko_c nd_Co_init_1 (by decide) (by decide) ?_
  refine gw_aload_n hX nd_Co_init_4 rfl 0 rfl ?_
  refine gw_bipush (v := nI 8) hX nd_Co_init_5 rfl ?_
  refine gw_newQ (j := 3) hX rfl hX.2.2.2.2.2.2.2.1 kn_Co_9 nd_Co_init_7 8 rfl (by decide) (by decide) (by decide) ?_
  obtain ⟨σ1, eσ1⟩ : ∃ hp_, hp_ = gw_nw σ ((gw_Q3 (gw_z X) 8 (fun _ => none))) := ⟨_, rfl⟩
  refine gw_heap eσ1.symm ?_
  rw [hsz]
  have h0 : σ1.2 a = some (.inr (2, [.null, .int (nI 0)])) := by rw [eσ1, gw_nw_ne (by omega)]; exact h0
  have g1 : σ1.2 (a + 1) = some ((gw_Q3 (gw_z X) 8 (fun _ => none))) := by rw [eσ1, ← hsz]; exact gw_nw_eq _ _
  have fr : ∀ b, b < a → σ1.2 b = σ.2 b := fun b hb9 => (show σ1.2 b = σ.2 b by rw [eσ1, gw_nw_ne (by omega)]).trans (fr b hb9)
  have hsz : σ1.1 = a + 2 := by rw [eσ1]; show σ.1 + 1 = _; omega
  refine gw_putF hX kf_Co_11 (fun C T N h => by cases h; rfl) hnm nd_Co_init_10 h0 rfl rfl (Nat.le_of_ble_eq_true rfl) (e' := .inr (2, [.ref (a + 1), .int (nI 0)])) rfl (gw_in_t 114 (by decide +kernel) rfl) ?_
  obtain ⟨σ2, eσ2⟩ : ∃ hp_, hp_ = gw_up σ1 a (.inr (2, [.ref (a + 1), .int (nI 0)])) := ⟨_, rfl⟩
  refine gw_heap eσ2.symm ?_
  have h0 : σ2.2 a = some (.inr (2, [.ref (a + 1), .int (nI 0)])) := by rw [eσ2]; exact gw_up_eq _ _ _
  have g1 : σ2.2 (a + 1) = some ((gw_Q3 (gw_z X) 8 (fun _ => none))) := by rw [eσ2, gw_up_ne (by omega)]; exact g1
  have fr : ∀ b, b < a → σ2.2 b = σ.2 b := fun b hb9 => (show σ2.2 b = σ1.2 b by rw [eσ2, gw_up_ne (by omega)]).trans (fr b hb9)
  have hsz : σ2.1 = a + 2 := by rw [eσ2]; exact hsz
  refine gw_iconst (v := nI 0) hX nd_Co_init_13 rfl ?_
  refine gw_istore_n hX nd_Co_init_14 rfl (by decide) (L' := [(1, .int (nI 0)), (0, .ref a)]) rfl ?_
  refine gw_cut (ks := [1, 0]) (L' := [(0, .ref a), (1, .int (nI 0))]) rfl ?_
  exact lp_Co_init a hX hQ hr 8 0 _ _ (by omega) (by rw [hsz]) h0 g1 (fun j hj => by omega) (fun j hj => by omega) fr
