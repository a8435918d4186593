theorem ab_learn_1 {A : ab_A} {x : Nat} (h1 : 1 ≤ x) (h2 : x ≤ 6) : ab_learn A (nI x) = ab_loop x (1, A) := by
  rw [ab_learn_x h1 h2]
  obtain ⟨k, rfl⟩ : ∃ k, x = k + 1 := ⟨x - 1, by omega⟩
  rw [ab_loop_s (show (1, A).1 ≠ 0 by show 1 ≠ 0; omega)]
  rfl
set_option maxRecDepth 100000 in
set_option maxHeartbeats 4000000 in
theorem lp_Mo_learn {X : gw_C} (m : Nat) (A : ab_A) (hA : ab_ok A) (N : Nat) (hbd : ab_bd A N) (hN : N + 48 ≤ 100000) (x : Nat) (hx1 : 1 ≤ x) (hx6 : x ≤ 6) (hss : A.ss.length ≠ 0) {σ0 : gw_S} (hX : gw_ok X nc_Mo_learn "LabelLearnerModel" (4, 4, 101, 0, 0)) (hQ : X.2.2.2.2 = gw_end X (fun v σ' => ((ab_lk A (nI x) = 0 ∧ v = some (.int (nI (ab_learn A (nI x)).1)) ∧ mw σ' (gw_z X) m (ab_learn A (nI x)).2 0) ∨ (ab_lk A (nI x) ≠ 0 ∧ v = some (.int (nI 0)) ∧ mw σ' (gw_z X) m A (ab_lk A (nI x)))) ∧ (∀ b, b < m ∨ m + 13 ≤ b → σ'.2 b = σ0.2 b)) 0 0) (hr : X.2.2.1.1.sig.returnType = (some .int)) : ∀ (u : Nat) (k wr : Nat) (B : ab_A) (σ : gw_S), ab_loop (x - k) (wr, B) = ab_loop x (1, A) → k + u = x → wr ≤ 8 → ab_bd B (N + 8 * k) → ab_eq A B → mw σ (gw_z X) m B 0 → (∀ b, b < m ∨ m + 13 ≤ b → σ.2 b = σ0.2 b) → gw_W X σ 0 0 44 [(0, .ref m), (1, .int (nI x)), (2, .int (nI wr)), (3, .int (nI k))] [] := by
  intro u
  induction u using Nat.strongRecOn with
  | ind u ih =>
    intro k wr B σ
    intro hlp hk hwr hbB hBq hM fr
    have hB : ab_ok B := ab_eq_ok hBq hA
    obtain ⟨rs, be, se, kp, kw, bs, s2, fm, fb, fl, hMa, hO⟩ := id hM
    have h0 := hMa.1
    refine gw_iload_n hX nd_Mo_learn_44 rfl 3 rfl ?_
    refine gw_iload_n hX nd_Mo_learn_45 rfl 1 rfl ?_
    refine gw_icmp_ge (tgt := 64) hX nd_Mo_learn_46 rfl (fun hb => ?_) (fun hb => ?_)
    · have hb : x ≤ k := (nI_leI (a := x) (b := k) (by omega) (by omega)).mp hb
      refine gw_iload_n hX nd_Mo_learn_64 rfl 2 rfl ?_
      exact gw_iret hX hQ hr nd_Mo_learn_65 (by decide) (by decide) ⟨Or.inl ⟨ab_lk_0 hx1 hx6 hss, by rw [ab_learn_1 hx1 hx6, ← hlp, show x - k = 0 by omega, show ab_loop 0 (wr, B) = (wr, B) from rfl], by rw [ab_learn_1 hx1 hx6, ← hlp, show x - k = 0 by omega, show ab_loop 0 (wr, B) = (wr, B) from rfl]; exact hM⟩, fr⟩
    · have hb : ¬ x ≤ k := fun h => hb ((nI_leI (a := x) (b := k) (by omega) (by omega)).mpr h)
      have hkx := hb
      refine gw_iload_n hX nd_Mo_learn_49 rfl 2 rfl ?_
      refine gw_if_le (tgt := 64) hX nd_Mo_learn_50 rfl (fun hb => ?_) (fun hb => ?_)
      · have hb : wr ≤ 0 := (nI_leI (a := wr) (b := 0) (by omega) (by omega)).mp hb
        refine gw_iload_n hX nd_Mo_learn_64 rfl 2 rfl ?_
        have hz : wr = 0 := by omega
        exact gw_iret hX hQ hr nd_Mo_learn_65 (by decide) (by decide) ⟨Or.inl ⟨ab_lk_0 hx1 hx6 hss, by rw [ab_learn_1 hx1 hx6, ← hlp, ab_loop_e hz], by rw [ab_learn_1 hx1 hx6, ← hlp, ab_loop_e hz]; exact hM⟩, fr⟩
      · have hb : ¬ wr ≤ 0 := fun h => hb ((nI_leI (a := wr) (b := 0) (by omega) (by omega)).mpr h)
        have hnz := hb
        refine gw_aload_n hX nd_Mo_learn_53 rfl 0 rfl ?_
        refine gw_callV (rest := []) hX ks_Mo_146 (ct_Mo_onePass _ _ _ σ m B hB hMa hO (N + 8 * k) hbB (by omega)) h0 rfl rfl (Nat.le_of_ble_eq_true rfl) nd_Mo_learn_54 (by decide) ?_
        rintro _ σ1 ⟨rfl, hM1, hf9⟩
        have fr : ∀ b, b < m ∨ m + 13 ≤ b → σ1.2 b = σ0.2 b := fun b hb9 => (hf9 b hb9).trans (fr b hb9)
        have hp8 := ab_pass_le hB
        show gw_W X σ1 0 0 57 [(0, .ref m), (1, .int (nI x)), (2, .int (nI wr)), (3, .int (nI k))] [.int (nI ((ab_pass B).1))]
        refine gw_istore_n hX nd_Mo_learn_57 rfl (by decide) (L' := [(2, .int (nI ((ab_pass B).1))), (0, .ref m), (1, .int (nI x)), (3, .int (nI k))]) rfl ?_
        refine gw_iinc hX nd_Mo_learn_58 3 rfl (v := nI (k + 1)) (show nI k + nI 1 = nI (k + 1) from nI_add _ _) (by decide) (L' := [(3, .int (nI (k + 1))), (2, .int (nI ((ab_pass B).1))), (0, .ref m), (1, .int (nI x))]) rfl ?_
        refine gw_goto (tgt := 44) hX nd_Mo_learn_61 rfl ?_
        refine gw_cut (ks := [2, 3, 1, 0]) (L' := [(0, .ref m), (1, .int (nI x)), (2, .int (nI ((ab_pass B).1))), (3, .int (nI (k + 1)))]) rfl ?_
        exact ih (u - 1) (by omega) (k + 1) _ (ab_pass B).2 _ (by rw [← hlp, show x - k = (x - (k + 1)) + 1 by omega, ab_loop_s (show (wr, B).1 ≠ 0 by show wr ≠ 0; omega)]) (by omega) hp8 (ab_bd_mono (ab_bd_pass hbB hB) (by omega)) (ab_eq_tr hBq (ab_eq_pass B)) hM1 fr
set_option maxRecDepth 100000 in
set_option maxHeartbeats 4000000 in
theorem ct_Mo_learn (l : Launch) (Z : gw_Z) (b0 : Nat) (σ : gw_S) (m : Nat) (A : ab_A) (hA : ab_ok A) {th rs be se kp kw : Int32} {bs s2 : Int64} {fm fb fl : Nat → Int32} (hM : mw_at σ Z m A th rs be se kp kw bs s2 fm fb fl) (hO : mw_ok A kp kw fm fb fl) (N : Nat) (hbd : ab_bd A N) (hN : N + 48 ≤ 100000) (x : Int32) : gw_M l ny_Mo_learn nc_Mo_learn (4, 4, 101, 0, 0) (some .int) Z b0 σ [.ref m, .int x] (fun v σ' => ((ab_lk A x = 0 ∧ v = some (.int (nI (ab_learn A x).1)) ∧ mw σ' Z m (ab_learn A x).2 0) ∨ (ab_lk A x ≠ 0 ∧ v = some (.int (nI 0)) ∧ mw σ' Z m A (ab_lk A x))) ∧ (∀ b, b < m ∨ m + 13 ≤ b → σ'.2 b = σ.2 b)) := by
  refine gw_M_of rfl (Nat.le_of_ble_eq_true rfl) ?_
  intro X hX hl hz hb0 hr hnm hQ
  subst hz hb0 hl
  have hX : gw_ok X nc_Mo_learn "LabelLearnerModel" (4, 4, 101, 0, 0) := hX
  show gw_W X σ 0 0 0 [(0, .ref m), (1, .int x)] []
  have fr : gw_fr σ σ m (m + 13) := gw_fr_rf _ _ _
  obtain ⟨h0, h1, h2, h3, h4, ⟨f5, h5⟩, ⟨f6, h6⟩, ⟨f7, h7⟩, h8, h9, ⟨f10, h10⟩, ⟨f11, h11⟩, ⟨f12, h12, hz12⟩⟩ := id hM
  have hl8 := hA.2.2.1
  have hsp6 := hA.2.2.2.2.1.2
  refine gw_aload_n hX nd_Mo_learn_0 rfl 0 rfl ?_
  refine gw_iload_n hX nd_Mo_learn_1 rfl 1 rfl ?_
  refine gw_iconst (v := nI 1) hX nd_Mo_learn_2 rfl ?_
  refine gw_icmp_lt (tgt := 12) hX nd_Mo_learn_3 rfl (fun hb => ?_) (fun hb => ?_)
  · skip
    have hlk : ab_lk A x = 1 := ab_lk_1 (Or.inl hb)
    refine gw_iconst (v := nI 1) hX nd_Mo_learn_12 rfl ?_
    refine gw_goto (tgt := 28) hX nd_Mo_learn_13 rfl ?_
    refine gw_put hX kf_Mo_51 nd_Mo_learn_28 h0 rfl rfl (Nat.le_of_ble_eq_true rfl) (e' := .inr (1, [.int (nI 1), .int (nI A.len), .ref (m + 1), .int (nI A.ss.length), .ref (m + 2), .ref (m + 3), .ref (m + 4), .int rs, .ref (m + 5), .ref (m + 6), .ref (m + 7), .ref (m + 8), .ref (m + 9), .int (nI A.mk), .int (nI A.ps), .ref (m + 10), .ref (m + 11), .ref (m + 12), .long bs, .long s2, .int be, .int se, .int kp, .int kw])) rfl ?_
    obtain ⟨σ1, eσ1⟩ : ∃ hp_, hp_ = gw_up σ m (.inr (1, [.int (nI 1), .int (nI A.len), .ref (m + 1), .int (nI A.ss.length), .ref (m + 2), .ref (m + 3), .ref (m + 4), .int rs, .ref (m + 5), .ref (m + 6), .ref (m + 7), .ref (m + 8), .ref (m + 9), .int (nI A.mk), .int (nI A.ps), .ref (m + 10), .ref (m + 11), .ref (m + 12), .long bs, .long s2, .int be, .int se, .int kp, .int kw])) := ⟨_, rfl⟩
    refine gw_heap eσ1.symm ?_
    have h0 : σ1.2 m = some (.inr (1, [.int (nI 1), .int (nI A.len), .ref (m + 1), .int (nI A.ss.length), .ref (m + 2), .ref (m + 3), .ref (m + 4), .int rs, .ref (m + 5), .ref (m + 6), .ref (m + 7), .ref (m + 8), .ref (m + 9), .int (nI A.mk), .int (nI A.ps), .ref (m + 10), .ref (m + 11), .ref (m + 12), .long bs, .long s2, .int be, .int se, .int kp, .int kw])) := by rw [eσ1]; exact gw_up_eq _ _ _
    have h1 : σ1.2 (m + 1) = some ((gw_I (gw_z X) 240 (fun j => nI (A.ch j)))) := by rw [eσ1, gw_up_ne (by omega)]; exact h1
    have h2 : σ1.2 (m + 2) = some ((gw_I (gw_z X) 9 fm)) := by rw [eσ1, gw_up_ne (by omega)]; exact h2
    have h3 : σ1.2 (m + 3) = some ((gw_I (gw_z X) 162 fb)) := by rw [eσ1, gw_up_ne (by omega)]; exact h3
    have h4 : σ1.2 (m + 4) = some ((gw_I (gw_z X) 54 fl)) := by rw [eσ1, gw_up_ne (by omega)]; exact h4
    have h5 : σ1.2 (m + 5) = some ((gw_I (gw_z X) 9 f5)) := by rw [eσ1, gw_up_ne (by omega)]; exact h5
    have h6 : σ1.2 (m + 6) = some ((gw_I (gw_z X) 162 f6)) := by rw [eσ1, gw_up_ne (by omega)]; exact h6
    have h7 : σ1.2 (m + 7) = some ((gw_I (gw_z X) 54 f7)) := by rw [eσ1, gw_up_ne (by omega)]; exact h7
    have h8 : σ1.2 (m + 8) = some ((gw_J (gw_z X) 148 (fun j => iL (A.wt j)))) := by rw [eσ1, gw_up_ne (by omega)]; exact h8
    have h9 : σ1.2 (m + 9) = some ((gw_J (gw_z X) 148 (fun j => iL (A.tt j)))) := by rw [eσ1, gw_up_ne (by omega)]; exact h9
    have h10 : σ1.2 (m + 10) = some ((gw_J (gw_z X) 24 f10)) := by rw [eσ1, gw_up_ne (by omega)]; exact h10
    have h11 : σ1.2 (m + 11) = some ((gw_I (gw_z X) 6 f11)) := by rw [eσ1, gw_up_ne (by omega)]; exact h11
    have h12 : σ1.2 (m + 12) = some ((gw_J (gw_z X) 7 f12)) := by rw [eσ1, gw_up_ne (by omega)]; exact h12
    have fr : gw_fr σ σ1 m (m + 13) := gw_fr_tr fr (show gw_fr _ σ1 m (m + 13) by rw [eσ1]; exact gw_fr_up _ _ _ (by omega) (by omega))
    refine gw_aload_n hX nd_Mo_learn_31 rfl 0 rfl ?_
    refine gw_get hX kf_Mo_51 nd_Mo_learn_32 h0 rfl ?_
    refine gw_if_le (tgt := 40) hX nd_Mo_learn_35 rfl (fun hb => ?_) (fun hb => ?_)
    · have hb : 1 ≤ 0 := (nI_leI (a := 1) (b := 0) (by omega) (by omega)).mp hb
      exfalso; omega
    · have hb : ¬ 1 ≤ 0 := fun h => hb ((nI_leI (a := 1) (b := 0) (by omega) (by omega)).mpr h)
      refine gw_iconst (v := nI 0) hX nd_Mo_learn_38 rfl ?_
      exact gw_iret hX hQ hr nd_Mo_learn_39 (by decide) (by decide) ⟨Or.inr ⟨by rw [hlk]; decide, rfl, by rw [hlk]; exact ⟨_, _, _, _, _, _, _, _, _, _, ⟨h0, h1, h2, h3, h4, ⟨_, h5⟩, ⟨_, h6⟩, ⟨_, h7⟩, h8, h9, ⟨_, h10⟩, ⟨_, h11⟩, ⟨_, h12, hz12⟩⟩, hO⟩⟩, (fun b hb9 => fr.2 b (by omega))⟩
  · skip
    have hb1 := hb
    refine gw_iload_n hX nd_Mo_learn_6 rfl 1 rfl ?_
    refine gw_bipush (v := nI 6) hX nd_Mo_learn_7 rfl ?_
    refine gw_icmp_le (tgt := 16) hX nd_Mo_learn_9 rfl (fun hb => ?_) (fun hb => ?_)
    · skip
      obtain ⟨k, ⟨hk1, hk6⟩, rfl⟩ := lk_of hb1 (Int32.not_lt.mpr hb)
      refine gw_aload_n hX nd_Mo_learn_16 rfl 0 rfl ?_
      refine gw_get hX kf_Mo_89 nd_Mo_learn_17 h0 rfl ?_
      refine gw_if_ne (tgt := 27) hX nd_Mo_learn_20 rfl (fun hb => ?_) (fun hb => ?_)
      · have hb : ¬ A.ss.length = 0 := fun h => hb ((nI_eq (a := A.ss.length) (b := 0) (by omega) (by omega)).mpr h)
        have hss := hb
        refine gw_iconst (v := nI 0) hX nd_Mo_learn_27 rfl ?_
        refine gw_put hX kf_Mo_51 nd_Mo_learn_28 h0 rfl rfl (Nat.le_of_ble_eq_true rfl) (e' := .inr (1, [.int (nI 0), .int (nI A.len), .ref (m + 1), .int (nI A.ss.length), .ref (m + 2), .ref (m + 3), .ref (m + 4), .int rs, .ref (m + 5), .ref (m + 6), .ref (m + 7), .ref (m + 8), .ref (m + 9), .int (nI A.mk), .int (nI A.ps), .ref (m + 10), .ref (m + 11), .ref (m + 12), .long bs, .long s2, .int be, .int se, .int kp, .int kw])) rfl ?_
        obtain ⟨σ2, eσ2⟩ : ∃ hp_, hp_ = gw_up σ m (.inr (1, [.int (nI 0), .int (nI A.len), .ref (m + 1), .int (nI A.ss.length), .ref (m + 2), .ref (m + 3), .ref (m + 4), .int rs, .ref (m + 5), .ref (m + 6), .ref (m + 7), .ref (m + 8), .ref (m + 9), .int (nI A.mk), .int (nI A.ps), .ref (m + 10), .ref (m + 11), .ref (m + 12), .long bs, .long s2, .int be, .int se, .int kp, .int kw])) := ⟨_, rfl⟩
        refine gw_heap eσ2.symm ?_
        have h0 : σ2.2 m = some (.inr (1, [.int (nI 0), .int (nI A.len), .ref (m + 1), .int (nI A.ss.length), .ref (m + 2), .ref (m + 3), .ref (m + 4), .int rs, .ref (m + 5), .ref (m + 6), .ref (m + 7), .ref (m + 8), .ref (m + 9), .int (nI A.mk), .int (nI A.ps), .ref (m + 10), .ref (m + 11), .ref (m + 12), .long bs, .long s2, .int be, .int se, .int kp, .int kw])) := by rw [eσ2]; exact gw_up_eq _ _ _
        have h1 : σ2.2 (m + 1) = some ((gw_I (gw_z X) 240 (fun j => nI (A.ch j)))) := by rw [eσ2, gw_up_ne (by omega)]; exact h1
        have h2 : σ2.2 (m + 2) = some ((gw_I (gw_z X) 9 fm)) := by rw [eσ2, gw_up_ne (by omega)]; exact h2
        have h3 : σ2.2 (m + 3) = some ((gw_I (gw_z X) 162 fb)) := by rw [eσ2, gw_up_ne (by omega)]; exact h3
        have h4 : σ2.2 (m + 4) = some ((gw_I (gw_z X) 54 fl)) := by rw [eσ2, gw_up_ne (by omega)]; exact h4
        have h5 : σ2.2 (m + 5) = some ((gw_I (gw_z X) 9 f5)) := by rw [eσ2, gw_up_ne (by omega)]; exact h5
        have h6 : σ2.2 (m + 6) = some ((gw_I (gw_z X) 162 f6)) := by rw [eσ2, gw_up_ne (by omega)]; exact h6
        have h7 : σ2.2 (m + 7) = some ((gw_I (gw_z X) 54 f7)) := by rw [eσ2, gw_up_ne (by omega)]; exact h7
        have h8 : σ2.2 (m + 8) = some ((gw_J (gw_z X) 148 (fun j => iL (A.wt j)))) := by rw [eσ2, gw_up_ne (by omega)]; exact h8
        have h9 : σ2.2 (m + 9) = some ((gw_J (gw_z X) 148 (fun j => iL (A.tt j)))) := by rw [eσ2, gw_up_ne (by omega)]; exact h9
        have h10 : σ2.2 (m + 10) = some ((gw_J (gw_z X) 24 f10)) := by rw [eσ2, gw_up_ne (by omega)]; exact h10
        have h11 : σ2.2 (m + 11) = some ((gw_I (gw_z X) 6 f11)) := by rw [eσ2, gw_up_ne (by omega)]; exact h11
        have h12 : σ2.2 (m + 12) = some ((gw_J (gw_z X) 7 f12)) := by rw [eσ2, gw_up_ne (by omega)]; exact h12
        have fr : gw_fr σ σ2 m (m + 13) := gw_fr_tr fr (show gw_fr _ σ2 m (m + 13) by rw [eσ2]; exact gw_fr_up _ _ _ (by omega) (by omega))
        refine gw_aload_n hX nd_Mo_learn_31 rfl 0 rfl ?_
        refine gw_get hX kf_Mo_51 nd_Mo_learn_32 h0 rfl ?_
        refine gw_if_le (tgt := 40) hX nd_Mo_learn_35 rfl (fun hb => ?_) (fun hb => ?_)
        · have hb : 0 ≤ 0 := (nI_leI (a := 0) (b := 0) (by omega) (by omega)).mp hb
          refine gw_iconst (v := nI 1) hX nd_Mo_learn_40 rfl ?_
          refine gw_istore_n hX nd_Mo_learn_41 rfl (by decide) (L' := [(2, .int (nI 1)), (0, .ref m), (1, .int (nI k))]) rfl ?_
          refine gw_iconst (v := nI 0) hX nd_Mo_learn_42 rfl ?_
          refine gw_istore_n hX nd_Mo_learn_43 rfl (by decide) (L' := [(3, .int (nI 0)), (2, .int (nI 1)), (0, .ref m), (1, .int (nI k))]) rfl ?_
          refine gw_cut (ks := [2, 3, 1, 0]) (L' := [(0, .ref m), (1, .int (nI k)), (2, .int (nI 1)), (3, .int (nI 0))]) rfl ?_
          exact lp_Mo_learn m A hA N hbd hN k hk1 hk6 hss hX hQ hr k 0 1 A _ rfl (by omega) (by omega) hbd (ab_eq_rf A) ⟨_, _, _, _, _, _, _, _, _, _, ⟨h0, h1, h2, h3, h4, ⟨_, h5⟩, ⟨_, h6⟩, ⟨_, h7⟩, h8, h9, ⟨_, h10⟩, ⟨_, h11⟩, ⟨_, h12, hz12⟩⟩, hO⟩ (fun b hb9 => fr.2 b (by omega))
        · have hb : ¬ 0 ≤ 0 := fun h => hb ((nI_leI (a := 0) (b := 0) (by omega) (by omega)).mpr h)
          exfalso; omega
      · have hb : A.ss.length = 0 := (nI_eq (a := A.ss.length) (b := 0) (by omega) (by omega)).mp hb
        have hlk : ab_lk A (nI k) = 2 := ab_lk_2 hk1 hk6 hb
        refine gw_iconst (v := nI 2) hX nd_Mo_learn_23 rfl ?_
        refine gw_goto (tgt := 28) hX nd_Mo_learn_24 rfl ?_
        refine gw_put hX kf_Mo_51 nd_Mo_learn_28 h0 rfl rfl (Nat.le_of_ble_eq_true rfl) (e' := .inr (1, [.int (nI 2), .int (nI A.len), .ref (m + 1), .int (nI A.ss.length), .ref (m + 2), .ref (m + 3), .ref (m + 4), .int rs, .ref (m + 5), .ref (m + 6), .ref (m + 7), .ref (m + 8), .ref (m + 9), .int (nI A.mk), .int (nI A.ps), .ref (m + 10), .ref (m + 11), .ref (m + 12), .long bs, .long s2, .int be, .int se, .int kp, .int kw])) rfl ?_
        obtain ⟨σ3, eσ3⟩ : ∃ hp_, hp_ = gw_up σ m (.inr (1, [.int (nI 2), .int (nI A.len), .ref (m + 1), .int (nI A.ss.length), .ref (m + 2), .ref (m + 3), .ref (m + 4), .int rs, .ref (m + 5), .ref (m + 6), .ref (m + 7), .ref (m + 8), .ref (m + 9), .int (nI A.mk), .int (nI A.ps), .ref (m + 10), .ref (m + 11), .ref (m + 12), .long bs, .long s2, .int be, .int se, .int kp, .int kw])) := ⟨_, rfl⟩
        refine gw_heap eσ3.symm ?_
        have h0 : σ3.2 m = some (.inr (1, [.int (nI 2), .int (nI A.len), .ref (m + 1), .int (nI A.ss.length), .ref (m + 2), .ref (m + 3), .ref (m + 4), .int rs, .ref (m + 5), .ref (m + 6), .ref (m + 7), .ref (m + 8), .ref (m + 9), .int (nI A.mk), .int (nI A.ps), .ref (m + 10), .ref (m + 11), .ref (m + 12), .long bs, .long s2, .int be, .int se, .int kp, .int kw])) := by rw [eσ3]; exact gw_up_eq _ _ _
        have h1 : σ3.2 (m + 1) = some ((gw_I (gw_z X) 240 (fun j => nI (A.ch j)))) := by rw [eσ3, gw_up_ne (by omega)]; exact h1
        have h2 : σ3.2 (m + 2) = some ((gw_I (gw_z X) 9 fm)) := by rw [eσ3, gw_up_ne (by omega)]; exact h2
        have h3 : σ3.2 (m + 3) = some ((gw_I (gw_z X) 162 fb)) := by rw [eσ3, gw_up_ne (by omega)]; exact h3
        have h4 : σ3.2 (m + 4) = some ((gw_I (gw_z X) 54 fl)) := by rw [eσ3, gw_up_ne (by omega)]; exact h4
        have h5 : σ3.2 (m + 5) = some ((gw_I (gw_z X) 9 f5)) := by rw [eσ3, gw_up_ne (by omega)]; exact h5
        have h6 : σ3.2 (m + 6) = some ((gw_I (gw_z X) 162 f6)) := by rw [eσ3, gw_up_ne (by omega)]; exact h6
        have h7 : σ3.2 (m + 7) = some ((gw_I (gw_z X) 54 f7)) := by rw [eσ3, gw_up_ne (by omega)]; exact h7
        have h8 : σ3.2 (m + 8) = some ((gw_J (gw_z X) 148 (fun j => iL (A.wt j)))) := by rw [eσ3, gw_up_ne (by omega)]; exact h8
        have h9 : σ3.2 (m + 9) = some ((gw_J (gw_z X) 148 (fun j => iL (A.tt j)))) := by rw [eσ3, gw_up_ne (by omega)]; exact h9
        have h10 : σ3.2 (m + 10) = some ((gw_J (gw_z X) 24 f10)) := by rw [eσ3, gw_up_ne (by omega)]; exact h10
        have h11 : σ3.2 (m + 11) = some ((gw_I (gw_z X) 6 f11)) := by rw [eσ3, gw_up_ne (by omega)]; exact h11
        have h12 : σ3.2 (m + 12) = some ((gw_J (gw_z X) 7 f12)) := by rw [eσ3, gw_up_ne (by omega)]; exact h12
        have fr : gw_fr σ σ3 m (m + 13) := gw_fr_tr fr (show gw_fr _ σ3 m (m + 13) by rw [eσ3]; exact gw_fr_up _ _ _ (by omega) (by omega))
        refine gw_aload_n hX nd_Mo_learn_31 rfl 0 rfl ?_
        refine gw_get hX kf_Mo_51 nd_Mo_learn_32 h0 rfl ?_
        refine gw_if_le (tgt := 40) hX nd_Mo_learn_35 rfl (fun hb => ?_) (fun hb => ?_)
        · have hb : 2 ≤ 0 := (nI_leI (a := 2) (b := 0) (by omega) (by omega)).mp hb
          exfalso; omega
        · have hb : ¬ 2 ≤ 0 := fun h => hb ((nI_leI (a := 2) (b := 0) (by omega) (by omega)).mpr h)
          refine gw_iconst (v := nI 0) hX nd_Mo_learn_38 rfl ?_
          exact gw_iret hX hQ hr nd_Mo_learn_39 (by decide) (by decide) ⟨Or.inr ⟨by rw [hlk]; decide, rfl, by rw [hlk]; exact ⟨_, _, _, _, _, _, _, _, _, _, ⟨h0, h1, h2, h3, h4, ⟨_, h5⟩, ⟨_, h6⟩, ⟨_, h7⟩, h8, h9, ⟨_, h10⟩, ⟨_, h11⟩, ⟨_, h12, hz12⟩⟩, hO⟩⟩, (fun b hb9 => fr.2 b (by omega))⟩
    · skip
      have hlk : ab_lk A x = 1 := ab_lk_1 (Or.inr (Int32.not_le.mp hb))
      refine gw_iconst (v := nI 1) hX nd_Mo_learn_12 rfl ?_
      refine gw_goto (tgt := 28) hX nd_Mo_learn_13 rfl ?_
      refine gw_put hX kf_Mo_51 nd_Mo_learn_28 h0 rfl rfl (Nat.le_of_ble_eq_true rfl) (e' := .inr (1, [.int (nI 1), .int (nI A.len), .ref (m + 1), .int (nI A.ss.length), .ref (m + 2), .ref (m + 3), .ref (m + 4), .int rs, .ref (m + 5), .ref (m + 6), .ref (m + 7), .ref (m + 8), .ref (m + 9), .int (nI A.mk), .int (nI A.ps), .ref (m + 10), .ref (m + 11), .ref (m + 12), .long bs, .long s2, .int be, .int se, .int kp, .int kw])) rfl ?_
      obtain ⟨σ4, eσ4⟩ : ∃ hp_, hp_ = gw_up σ m (.inr (1, [.int (nI 1), .int (nI A.len), .ref (m + 1), .int (nI A.ss.length), .ref (m + 2), .ref (m + 3), .ref (m + 4), .int rs, .ref (m + 5), .ref (m + 6), .ref (m + 7), .ref (m + 8), .ref (m + 9), .int (nI A.mk), .int (nI A.ps), .ref (m + 10), .ref (m + 11), .ref (m + 12), .long bs, .long s2, .int be, .int se, .int kp, .int kw])) := ⟨_, rfl⟩
      refine gw_heap eσ4.symm ?_
      have h0 : σ4.2 m = some (.inr (1, [.int (nI 1), .int (nI A.len), .ref (m + 1), .int (nI A.ss.length), .ref (m + 2), .ref (m + 3), .ref (m + 4), .int rs, .ref (m + 5), .ref (m + 6), .ref (m + 7), .ref (m + 8), .ref (m + 9), .int (nI A.mk), .int (nI A.ps), .ref (m + 10), .ref (m + 11), .ref (m + 12), .long bs, .long s2, .int be, .int se, .int kp, .int kw])) := by rw [eσ4]; exact gw_up_eq _ _ _
      have h1 : σ4.2 (m + 1) = some ((gw_I (gw_z X) 240 (fun j => nI (A.ch j)))) := by rw [eσ4, gw_up_ne (by omega)]; exact h1
      have h2 : σ4.2 (m + 2) = some ((gw_I (gw_z X) 9 fm)) := by rw [eσ4, gw_up_ne (by omega)]; exact h2
      have h3 : σ4.2 (m + 3) = some ((gw_I (gw_z X) 162 fb)) := by rw [eσ4, gw_up_ne (by omega)]; exact h3
      have h4 : σ4.2 (m + 4) = some ((gw_I (gw_z X) 54 fl)) := by rw [eσ4, gw_up_ne (by omega)]; exact h4
      have h5 : σ4.2 (m + 5) = some ((gw_I (gw_z X) 9 f5)) := by rw [eσ4, gw_up_ne (by omega)]; exact h5
      have h6 : σ4.2 (m + 6) = some ((gw_I (gw_z X) 162 f6)) := by rw [eσ4, gw_up_ne (by omega)]; exact h6
      have h7 : σ4.2 (m + 7) = some ((gw_I (gw_z X) 54 f7)) := by rw [eσ4, gw_up_ne (by omega)]; exact h7
      have h8 : σ4.2 (m + 8) = some ((gw_J (gw_z X) 148 (fun j => iL (A.wt j)))) := by rw [eσ4, gw_up_ne (by omega)]; exact h8
      have h9 : σ4.2 (m + 9) = some ((gw_J (gw_z X) 148 (fun j => iL (A.tt j)))) := by rw [eσ4, gw_up_ne (by omega)]; exact h9
      have h10 : σ4.2 (m + 10) = some ((gw_J (gw_z X) 24 f10)) := by rw [eσ4, gw_up_ne (by omega)]; exact h10
      have h11 : σ4.2 (m + 11) = some ((gw_I (gw_z X) 6 f11)) := by rw [eσ4, gw_up_ne (by omega)]; exact h11
      have h12 : σ4.2 (m + 12) = some ((gw_J (gw_z X) 7 f12)) := by rw [eσ4, gw_up_ne (by omega)]; exact h12
      have fr : gw_fr σ σ4 m (m + 13) := gw_fr_tr fr (show gw_fr _ σ4 m (m + 13) by rw [eσ4]; exact gw_fr_up _ _ _ (by omega) (by omega))
      refine gw_aload_n hX nd_Mo_learn_31 rfl 0 rfl ?_
      refine gw_get hX kf_Mo_51 nd_Mo_learn_32 h0 rfl ?_
      refine gw_if_le (tgt := 40) hX nd_Mo_learn_35 rfl (fun hb => ?_) (fun hb => ?_)
      · have hb : 1 ≤ 0 := (nI_leI (a := 1) (b := 0) (by omega) (by omega)).mp hb
        exfalso; omega
      · have hb : ¬ 1 ≤ 0 := fun h => hb ((nI_leI (a := 1) (b := 0) (by omega) (by omega)).mpr h)
        refine gw_iconst (v := nI 0) hX nd_Mo_learn_38 rfl ?_
        exact gw_iret hX hQ hr nd_Mo_learn_39 (by decide) (by decide) ⟨Or.inr ⟨by rw [hlk]; decide, rfl, by rw [hlk]; exact ⟨_, _, _, _, _, _, _, _, _, _, ⟨h0, h1, h2, h3, h4, ⟨_, h5⟩, ⟨_, h6⟩, ⟨_, h7⟩, h8, h9, ⟨_, h10⟩, ⟨_, h11⟩, ⟨_, h12, hz12⟩⟩, hO⟩⟩, (fun b hb9 => fr.2 b (by omega))⟩
