set_option maxRecDepth 100000 in
set_option maxHeartbeats 4000000 in
theorem lp_Mo_score {X : gw_C} (m : Nat) (A : ab_A) (hA : ab_ok A) {rs be se kp kw : Int32} {bs s2 : Int64} {fm fb fl f5 f6 f7 : Nat → Int32} (hO : mw_ok A kp kw fm fb fl) {f10 f12 : Nat → Int64} (hz12 : f12 0 = iL 0) (x y : Int32) (q : Nat) (hq : q < 2) (j : Nat) (hj8 : j ≤ 8) (ws : List px_W) (hws : ab_sent A x = some ws) (hmb : mm_b fm fb j ws) {σ0 : gw_S} (hX : gw_ok X nc_Mo_score "LabelLearnerModel" (6, 2, 49, 0, 0)) (hQ : X.2.2.2.2 = gw_end X (fun v σ' => ((∃ z : Int, ab_score A x y q = some z ∧ v = some (.long (iL z)) ∧ mw σ' (gw_z X) m A 0) ∨ (ab_score A x y q = none ∧ v = some (.long 0) ∧ mw σ' (gw_z X) m A 1)) ∧ (∀ b, b < m ∨ m + 13 ≤ b → σ'.2 b = σ0.2 b)) 0 0) (hr : X.2.2.1.1.sig.returnType = (some .long)) : ∀ (u : Nat) (k : Nat) (f11 : Nat → Int32) (σ : gw_S), k + u = 6 → (∀ w, w < k → f11 w = nI (lb_at y w)) → σ.2 m = some (.inr (1, [.int (nI 0), .int (nI A.len), .ref (m + 1), .int (nI A.ss.length), .ref (m + 2), .ref (m + 3), .ref (m + 4), .int rs, .ref (m + 5), .ref (m + 6), .ref (m + 7), .ref (m + 8), .ref (m + 9), .int (nI A.mk), .int (nI A.ps), .ref (m + 10), .ref (m + 11), .ref (m + 12), .long bs, .long s2, .int be, .int se, .int kp, .int kw])) → σ.2 (m + 1) = some (gw_I (gw_z X) 240 (fun j => nI (A.ch j))) → σ.2 (m + 2) = some (gw_I (gw_z X) 9 fm) → σ.2 (m + 3) = some (gw_I (gw_z X) 162 fb) → σ.2 (m + 4) = some (gw_I (gw_z X) 54 fl) → σ.2 (m + 5) = some (gw_I (gw_z X) 9 f5) → σ.2 (m + 6) = some (gw_I (gw_z X) 162 f6) → σ.2 (m + 7) = some (gw_I (gw_z X) 54 f7) → σ.2 (m + 8) = some (gw_J (gw_z X) 148 (fun j => iL (A.wt j))) → σ.2 (m + 9) = some (gw_J (gw_z X) 148 (fun j => iL (A.tt j))) → σ.2 (m + 10) = some (gw_J (gw_z X) 24 f10) → σ.2 (m + 11) = some (gw_I (gw_z X) 6 f11) → σ.2 (m + 12) = some (gw_J (gw_z X) 7 f12) → gw_fr σ0 σ m (m + 13) → gw_W X σ 0 0 33 [(0, .ref m), (2, .int y), (3, .int (nI q)), (4, .int (nI j)), (5, .int (nI k))] [] := by
  intro u
  induction u using Nat.strongRecOn with
  | ind u ih =>
    intro k f11 σ
    intro hk hf h0 h1 h2 h3 h4 h5 h6 h7 h8 h9 h10 h11 h12 fr
    obtain ⟨⟨hso, hsl6⟩, hne⟩ := ab_sent_ok hA hws
    have hws0 := List.length_pos_iff.mpr hne
    refine gw_iload hX nd_Mo_score_33 4 rfl ?_
    refine gw_bipush (v := nI 6) hX nd_Mo_score_35 rfl ?_
    refine gw_icmp_ge (tgt := 61) hX nd_Mo_score_37 rfl (fun hb => ?_) (fun hb => ?_)
    · have hb : 6 ≤ k := (nI_leI (a := 6) (b := k) (by omega) (by omega)).mp hb
      refine gw_extI h11 (g := fun w => nI (lb_at y w)) (fun w hw => hf w (by omega)) ?_
      obtain ⟨σ1, eσ1⟩ : ∃ hp_, hp_ = gw_up σ (m + 11) ((gw_I (gw_z X) 6 (fun w => nI (lb_at y w)))) := ⟨_, rfl⟩
      refine gw_heap eσ1.symm ?_
      have h0 : σ1.2 m = some (.inr (1, [.int (nI 0), .int (nI A.len), .ref (m + 1), .int (nI A.ss.length), .ref (m + 2), .ref (m + 3), .ref (m + 4), .int rs, .ref (m + 5), .ref (m + 6), .ref (m + 7), .ref (m + 8), .ref (m + 9), .int (nI A.mk), .int (nI A.ps), .ref (m + 10), .ref (m + 11), .ref (m + 12), .long bs, .long s2, .int be, .int se, .int kp, .int kw])) := by rw [eσ1, gw_up_ne (by omega)]; exact h0
      have h1 : σ1.2 (m + 1) = some ((gw_I (gw_z X) 240 (fun j => nI (A.ch j)))) := by rw [eσ1, gw_up_ne (by omega)]; exact h1
      have h2 : σ1.2 (m + 2) = some ((gw_I (gw_z X) 9 fm)) := by rw [eσ1, gw_up_ne (by omega)]; exact h2
      have h3 : σ1.2 (m + 3) = some ((gw_I (gw_z X) 162 fb)) := by rw [eσ1, gw_up_ne (by omega)]; exact h3
      have h4 : σ1.2 (m + 4) = some ((gw_I (gw_z X) 54 fl)) := by rw [eσ1, gw_up_ne (by omega)]; exact h4
      have h5 : σ1.2 (m + 5) = some ((gw_I (gw_z X) 9 f5)) := by rw [eσ1, gw_up_ne (by omega)]; exact h5
      have h6 : σ1.2 (m + 6) = some ((gw_I (gw_z X) 162 f6)) := by rw [eσ1, gw_up_ne (by omega)]; exact h6
      have h7 : σ1.2 (m + 7) = some ((gw_I (gw_z X) 54 f7)) := by rw [eσ1, gw_up_ne (by omega)]; exact h7
      have h8 : σ1.2 (m + 8) = some ((gw_J (gw_z X) 148 (fun j => iL (A.wt j)))) := by rw [eσ1, gw_up_ne (by omega)]; exact h8
      have h9 : σ1.2 (m + 9) = some ((gw_J (gw_z X) 148 (fun j => iL (A.tt j)))) := by rw [eσ1, gw_up_ne (by omega)]; exact h9
      have h10 : σ1.2 (m + 10) = some ((gw_J (gw_z X) 24 f10)) := by rw [eσ1, gw_up_ne (by omega)]; exact h10
      have h11 : σ1.2 (m + 11) = some ((gw_I (gw_z X) 6 (fun w => nI (lb_at y w)))) := by rw [eσ1]; exact gw_up_eq _ _ _
      have h12 : σ1.2 (m + 12) = some ((gw_J (gw_z X) 7 f12)) := by rw [eσ1, gw_up_ne (by omega)]; exact h12
      have fr : gw_fr σ0 σ1 m (m + 13) := gw_fr_tr fr (show gw_fr _ σ1 m (m + 13) by rw [eσ1]; exact gw_fr_up _ _ _ (by omega) (by omega))
      refine gw_iload_n hX nd_Mo_score_61 rfl 2 rfl ?_
      refine gw_if_eq (tgt := 94) hX nd_Mo_score_62 rfl (fun hb => ?_) (fun hb => ?_)
      · have hb : q = 0 := (nI_eq (a := q) (b := 0) (by omega) (by omega)).mp hb
        have hw : ab_w A q = A.wt := by unfold ab_w; rw [if_pos hb]
        refine gw_aload_n hX nd_Mo_score_94 rfl 0 rfl ?_
        refine gw_iload hX nd_Mo_score_95 3 rfl ?_
        refine gw_aload_n hX nd_Mo_score_97 rfl 0 rfl ?_
        refine gw_get hX kf_Mo_31 nd_Mo_score_98 h0 rfl ?_
        refine gw_callV (rest := []) hX ks_Mo_112 (ct_Mo_prepare _ _ _ _ m (m + 8) (by omega) (by omega) (by omega) (by omega) fm fb j hj8 ws hso hsl6 hmb A.wt hws0 f10 h0 h2 h3 h8 h10) h0 rfl rfl (Nat.le_of_ble_eq_true rfl) nd_Mo_score_101 (by decide) ?_
        rintro _ σ2 ⟨rfl, ⟨f10, h10, hpr⟩, hf9⟩
        have h0 : σ2.2 m = some (.inr (1, [.int (nI 0), .int (nI A.len), .ref (m + 1), .int (nI A.ss.length), .ref (m + 2), .ref (m + 3), .ref (m + 4), .int rs, .ref (m + 5), .ref (m + 6), .ref (m + 7), .ref (m + 8), .ref (m + 9), .int (nI A.mk), .int (nI A.ps), .ref (m + 10), .ref (m + 11), .ref (m + 12), .long bs, .long s2, .int be, .int se, .int kp, .int kw])) := (hf9.2 m (by omega)).trans h0
        have h1 : σ2.2 (m + 1) = some ((gw_I (gw_z X) 240 (fun j => nI (A.ch j)))) := (hf9.2 (m + 1) (by omega)).trans h1
        have h2 : σ2.2 (m + 2) = some ((gw_I (gw_z X) 9 fm)) := (hf9.2 (m + 2) (by omega)).trans h2
        have h3 : σ2.2 (m + 3) = some ((gw_I (gw_z X) 162 fb)) := (hf9.2 (m + 3) (by omega)).trans h3
        have h4 : σ2.2 (m + 4) = some ((gw_I (gw_z X) 54 fl)) := (hf9.2 (m + 4) (by omega)).trans h4
        have h5 : σ2.2 (m + 5) = some ((gw_I (gw_z X) 9 f5)) := (hf9.2 (m + 5) (by omega)).trans h5
        have h6 : σ2.2 (m + 6) = some ((gw_I (gw_z X) 162 f6)) := (hf9.2 (m + 6) (by omega)).trans h6
        have h7 : σ2.2 (m + 7) = some ((gw_I (gw_z X) 54 f7)) := (hf9.2 (m + 7) (by omega)).trans h7
        have h8 : σ2.2 (m + 8) = some ((gw_J (gw_z X) 148 (fun j => iL (A.wt j)))) := (hf9.2 (m + 8) (by omega)).trans h8
        have h9 : σ2.2 (m + 9) = some ((gw_J (gw_z X) 148 (fun j => iL (A.tt j)))) := (hf9.2 (m + 9) (by omega)).trans h9
        have h11 : σ2.2 (m + 11) = some ((gw_I (gw_z X) 6 (fun w => nI (lb_at y w)))) := (hf9.2 (m + 11) (by omega)).trans h11
        have h12 : σ2.2 (m + 12) = some ((gw_J (gw_z X) 7 f12)) := (hf9.2 (m + 12) (by omega)).trans h12
        have fr : gw_fr σ0 σ2 m (m + 13) := gw_fr_tr fr hf9
        show gw_W X σ2 0 0 104 [(0, .ref m), (2, .int y), (3, .int (nI q)), (4, .int (nI j)), (5, .int (nI k))] []
        refine gw_aload_n hX nd_Mo_score_104 rfl 0 rfl ?_
        refine gw_iconst (v := nI 0) hX nd_Mo_score_105 rfl ?_
        refine gw_aload_n hX nd_Mo_score_106 rfl 0 rfl ?_
        refine gw_get hX kf_Mo_13 nd_Mo_score_107 h0 rfl ?_
        refine gw_iload hX nd_Mo_score_110 3 rfl ?_
        refine gw_iald hX nd_Mo_score_112 h2 j rfl (by omega) (by decide) ?_
        refine gw_topi (y := nI ws.length) hmb.1 ?_
        refine gw_aload_n hX nd_Mo_score_113 rfl 0 rfl ?_
        refine gw_get hX kf_Mo_31 nd_Mo_score_114 h0 rfl ?_
        refine gw_callV (rest := []) hX ks_Mo_116 (ct_Mo_sumFrom _ _ _ _ m (m + 8) (by omega) (by omega) ws hsl6 A.wt f10 hpr (lb_at y) (fun w _ => lb_lt y w) 0 (by omega) f12 (fun w hw => by rw [show w = 0 by omega]; exact hz12) h0 h8 h10 h11 h12) h0 rfl rfl (Nat.le_of_ble_eq_true rfl) nd_Mo_score_117 (by decide) ?_
        rintro _ σ3 ⟨rfl, ⟨f12, h12, hf12⟩, hf9⟩
        have h0 : σ3.2 m = some (.inr (1, [.int (nI 0), .int (nI A.len), .ref (m + 1), .int (nI A.ss.length), .ref (m + 2), .ref (m + 3), .ref (m + 4), .int rs, .ref (m + 5), .ref (m + 6), .ref (m + 7), .ref (m + 8), .ref (m + 9), .int (nI A.mk), .int (nI A.ps), .ref (m + 10), .ref (m + 11), .ref (m + 12), .long bs, .long s2, .int be, .int se, .int kp, .int kw])) := (hf9.2 m (by omega)).trans h0
        have h1 : σ3.2 (m + 1) = some ((gw_I (gw_z X) 240 (fun j => nI (A.ch j)))) := (hf9.2 (m + 1) (by omega)).trans h1
        have h2 : σ3.2 (m + 2) = some ((gw_I (gw_z X) 9 fm)) := (hf9.2 (m + 2) (by omega)).trans h2
        have h3 : σ3.2 (m + 3) = some ((gw_I (gw_z X) 162 fb)) := (hf9.2 (m + 3) (by omega)).trans h3
        have h4 : σ3.2 (m + 4) = some ((gw_I (gw_z X) 54 fl)) := (hf9.2 (m + 4) (by omega)).trans h4
        have h5 : σ3.2 (m + 5) = some ((gw_I (gw_z X) 9 f5)) := (hf9.2 (m + 5) (by omega)).trans h5
        have h6 : σ3.2 (m + 6) = some ((gw_I (gw_z X) 162 f6)) := (hf9.2 (m + 6) (by omega)).trans h6
        have h7 : σ3.2 (m + 7) = some ((gw_I (gw_z X) 54 f7)) := (hf9.2 (m + 7) (by omega)).trans h7
        have h8 : σ3.2 (m + 8) = some ((gw_J (gw_z X) 148 (fun j => iL (A.wt j)))) := (hf9.2 (m + 8) (by omega)).trans h8
        have h9 : σ3.2 (m + 9) = some ((gw_J (gw_z X) 148 (fun j => iL (A.tt j)))) := (hf9.2 (m + 9) (by omega)).trans h9
        have h10 : σ3.2 (m + 10) = some ((gw_J (gw_z X) 24 f10)) := (hf9.2 (m + 10) (by omega)).trans h10
        have h11 : σ3.2 (m + 11) = some ((gw_I (gw_z X) 6 (fun w => nI (lb_at y w)))) := (hf9.2 (m + 11) (by omega)).trans h11
        have fr : gw_fr σ0 σ3 m (m + 13) := gw_fr_tr fr hf9
        have hz12 := hf12 0 (by omega)
        show gw_W X σ3 0 0 120 [(0, .ref m), (2, .int y), (3, .int (nI q)), (4, .int (nI j)), (5, .int (nI k))] []
        refine gw_aload_n hX nd_Mo_score_120 rfl 0 rfl ?_
        refine gw_get hX kf_Mo_44 nd_Mo_score_121 h0 rfl ?_
        refine gw_aload_n hX nd_Mo_score_124 rfl 0 rfl ?_
        refine gw_get hX kf_Mo_13 nd_Mo_score_125 h0 rfl ?_
        refine gw_iload hX nd_Mo_score_128 3 rfl ?_
        refine gw_iald hX nd_Mo_score_130 h2 j rfl (by omega) (by decide) ?_
        refine gw_topi (y := nI ws.length) hmb.1 ?_
        refine gw_lald hX nd_Mo_score_131 h12 ws.length rfl (by omega) (by decide) ?_
        refine gw_topl (y := iL (tl_m (wd_W A.wt (se_B ws)) (dc_P A.wt) (dc_F A.wt) (lb_at y) ws.length)) (hf12 _ (Nat.le_refl _)) ?_
        exact gw_lret hX hQ hr nd_Mo_score_132 (by decide) (by decide) ⟨Or.inl ⟨_, by unfold ab_score; rw [hws, Option.map_some, sc_T, hw], rfl, ⟨_, _, _, _, _, _, _, _, _, _, ⟨h0, h1, h2, h3, h4, ⟨_, h5⟩, ⟨_, h6⟩, ⟨_, h7⟩, h8, h9, ⟨_, h10⟩, ⟨_, h11⟩, ⟨_, h12, hz12⟩⟩, hO⟩⟩, (fun b hb9 => fr.2 b (by omega))⟩
      · have hb : ¬ q = 0 := fun h => hb ((nI_eq (a := q) (b := 0) (by omega) (by omega)).mpr h)
        have hw : ab_w A q = A.tt := by unfold ab_w; rw [if_neg hb]
        refine gw_aload_n hX nd_Mo_score_65 rfl 0 rfl ?_
        refine gw_iload hX nd_Mo_score_66 3 rfl ?_
        refine gw_aload_n hX nd_Mo_score_68 rfl 0 rfl ?_
        refine gw_get hX kf_Mo_35 nd_Mo_score_69 h0 rfl ?_
        refine gw_callV (rest := []) hX ks_Mo_112 (ct_Mo_prepare _ _ _ _ m (m + 9) (by omega) (by omega) (by omega) (by omega) fm fb j hj8 ws hso hsl6 hmb A.tt hws0 f10 h0 h2 h3 h9 h10) h0 rfl rfl (Nat.le_of_ble_eq_true rfl) nd_Mo_score_72 (by decide) ?_
        rintro _ σ4 ⟨rfl, ⟨f10, h10, hpr⟩, hf9⟩
        have h0 : σ4.2 m = some (.inr (1, [.int (nI 0), .int (nI A.len), .ref (m + 1), .int (nI A.ss.length), .ref (m + 2), .ref (m + 3), .ref (m + 4), .int rs, .ref (m + 5), .ref (m + 6), .ref (m + 7), .ref (m + 8), .ref (m + 9), .int (nI A.mk), .int (nI A.ps), .ref (m + 10), .ref (m + 11), .ref (m + 12), .long bs, .long s2, .int be, .int se, .int kp, .int kw])) := (hf9.2 m (by omega)).trans h0
        have h1 : σ4.2 (m + 1) = some ((gw_I (gw_z X) 240 (fun j => nI (A.ch j)))) := (hf9.2 (m + 1) (by omega)).trans h1
        have h2 : σ4.2 (m + 2) = some ((gw_I (gw_z X) 9 fm)) := (hf9.2 (m + 2) (by omega)).trans h2
        have h3 : σ4.2 (m + 3) = some ((gw_I (gw_z X) 162 fb)) := (hf9.2 (m + 3) (by omega)).trans h3
        have h4 : σ4.2 (m + 4) = some ((gw_I (gw_z X) 54 fl)) := (hf9.2 (m + 4) (by omega)).trans h4
        have h5 : σ4.2 (m + 5) = some ((gw_I (gw_z X) 9 f5)) := (hf9.2 (m + 5) (by omega)).trans h5
        have h6 : σ4.2 (m + 6) = some ((gw_I (gw_z X) 162 f6)) := (hf9.2 (m + 6) (by omega)).trans h6
        have h7 : σ4.2 (m + 7) = some ((gw_I (gw_z X) 54 f7)) := (hf9.2 (m + 7) (by omega)).trans h7
        have h8 : σ4.2 (m + 8) = some ((gw_J (gw_z X) 148 (fun j => iL (A.wt j)))) := (hf9.2 (m + 8) (by omega)).trans h8
        have h9 : σ4.2 (m + 9) = some ((gw_J (gw_z X) 148 (fun j => iL (A.tt j)))) := (hf9.2 (m + 9) (by omega)).trans h9
        have h11 : σ4.2 (m + 11) = some ((gw_I (gw_z X) 6 (fun w => nI (lb_at y w)))) := (hf9.2 (m + 11) (by omega)).trans h11
        have h12 : σ4.2 (m + 12) = some ((gw_J (gw_z X) 7 f12)) := (hf9.2 (m + 12) (by omega)).trans h12
        have fr : gw_fr σ0 σ4 m (m + 13) := gw_fr_tr fr hf9
        show gw_W X σ4 0 0 75 [(0, .ref m), (2, .int y), (3, .int (nI q)), (4, .int (nI j)), (5, .int (nI k))] []
        refine gw_aload_n hX nd_Mo_score_75 rfl 0 rfl ?_
        refine gw_iconst (v := nI 0) hX nd_Mo_score_76 rfl ?_
        refine gw_aload_n hX nd_Mo_score_77 rfl 0 rfl ?_
        refine gw_get hX kf_Mo_13 nd_Mo_score_78 h0 rfl ?_
        refine gw_iload hX nd_Mo_score_81 3 rfl ?_
        refine gw_iald hX nd_Mo_score_83 h2 j rfl (by omega) (by decide) ?_
        refine gw_topi (y := nI ws.length) hmb.1 ?_
        refine gw_aload_n hX nd_Mo_score_84 rfl 0 rfl ?_
        refine gw_get hX kf_Mo_35 nd_Mo_score_85 h0 rfl ?_
        refine gw_callV (rest := []) hX ks_Mo_116 (ct_Mo_sumFrom _ _ _ _ m (m + 9) (by omega) (by omega) ws hsl6 A.tt f10 hpr (lb_at y) (fun w _ => lb_lt y w) 0 (by omega) f12 (fun w hw => by rw [show w = 0 by omega]; exact hz12) h0 h9 h10 h11 h12) h0 rfl rfl (Nat.le_of_ble_eq_true rfl) nd_Mo_score_88 (by decide) ?_
        rintro _ σ5 ⟨rfl, ⟨f12, h12, hf12⟩, hf9⟩
        have h0 : σ5.2 m = some (.inr (1, [.int (nI 0), .int (nI A.len), .ref (m + 1), .int (nI A.ss.length), .ref (m + 2), .ref (m + 3), .ref (m + 4), .int rs, .ref (m + 5), .ref (m + 6), .ref (m + 7), .ref (m + 8), .ref (m + 9), .int (nI A.mk), .int (nI A.ps), .ref (m + 10), .ref (m + 11), .ref (m + 12), .long bs, .long s2, .int be, .int se, .int kp, .int kw])) := (hf9.2 m (by omega)).trans h0
        have h1 : σ5.2 (m + 1) = some ((gw_I (gw_z X) 240 (fun j => nI (A.ch j)))) := (hf9.2 (m + 1) (by omega)).trans h1
        have h2 : σ5.2 (m + 2) = some ((gw_I (gw_z X) 9 fm)) := (hf9.2 (m + 2) (by omega)).trans h2
        have h3 : σ5.2 (m + 3) = some ((gw_I (gw_z X) 162 fb)) := (hf9.2 (m + 3) (by omega)).trans h3
        have h4 : σ5.2 (m + 4) = some ((gw_I (gw_z X) 54 fl)) := (hf9.2 (m + 4) (by omega)).trans h4
        have h5 : σ5.2 (m + 5) = some ((gw_I (gw_z X) 9 f5)) := (hf9.2 (m + 5) (by omega)).trans h5
        have h6 : σ5.2 (m + 6) = some ((gw_I (gw_z X) 162 f6)) := (hf9.2 (m + 6) (by omega)).trans h6
        have h7 : σ5.2 (m + 7) = some ((gw_I (gw_z X) 54 f7)) := (hf9.2 (m + 7) (by omega)).trans h7
        have h8 : σ5.2 (m + 8) = some ((gw_J (gw_z X) 148 (fun j => iL (A.wt j)))) := (hf9.2 (m + 8) (by omega)).trans h8
        have h9 : σ5.2 (m + 9) = some ((gw_J (gw_z X) 148 (fun j => iL (A.tt j)))) := (hf9.2 (m + 9) (by omega)).trans h9
        have h10 : σ5.2 (m + 10) = some ((gw_J (gw_z X) 24 f10)) := (hf9.2 (m + 10) (by omega)).trans h10
        have h11 : σ5.2 (m + 11) = some ((gw_I (gw_z X) 6 (fun w => nI (lb_at y w)))) := (hf9.2 (m + 11) (by omega)).trans h11
        have fr : gw_fr σ0 σ5 m (m + 13) := gw_fr_tr fr hf9
        have hz12 := hf12 0 (by omega)
        show gw_W X σ5 0 0 91 [(0, .ref m), (2, .int y), (3, .int (nI q)), (4, .int (nI j)), (5, .int (nI k))] []
        refine gw_goto (tgt := 120) hX nd_Mo_score_91 rfl ?_
        refine gw_aload_n hX nd_Mo_score_120 rfl 0 rfl ?_
        refine gw_get hX kf_Mo_44 nd_Mo_score_121 h0 rfl ?_
        refine gw_aload_n hX nd_Mo_score_124 rfl 0 rfl ?_
        refine gw_get hX kf_Mo_13 nd_Mo_score_125 h0 rfl ?_
        refine gw_iload hX nd_Mo_score_128 3 rfl ?_
        refine gw_iald hX nd_Mo_score_130 h2 j rfl (by omega) (by decide) ?_
        refine gw_topi (y := nI ws.length) hmb.1 ?_
        refine gw_lald hX nd_Mo_score_131 h12 ws.length rfl (by omega) (by decide) ?_
        refine gw_topl (y := iL (tl_m (wd_W A.tt (se_B ws)) (dc_P A.tt) (dc_F A.tt) (lb_at y) ws.length)) (hf12 _ (Nat.le_refl _)) ?_
        exact gw_lret hX hQ hr nd_Mo_score_132 (by decide) (by decide) ⟨Or.inl ⟨_, by unfold ab_score; rw [hws, Option.map_some, sc_T, hw], rfl, ⟨_, _, _, _, _, _, _, _, _, _, ⟨h0, h1, h2, h3, h4, ⟨_, h5⟩, ⟨_, h6⟩, ⟨_, h7⟩, h8, h9, ⟨_, h10⟩, ⟨_, h11⟩, ⟨_, h12, hz12⟩⟩, hO⟩⟩, (fun b hb9 => fr.2 b (by omega))⟩
    · have hb : ¬ 6 ≤ k := fun h => hb ((nI_leI (a := 6) (b := k) (by omega) (by omega)).mpr h)
      refine gw_aload_n hX nd_Mo_score_40 rfl 0 rfl ?_
      refine gw_get hX kf_Mo_41 nd_Mo_score_41 h0 rfl ?_
      refine gw_iload hX nd_Mo_score_44 4 rfl ?_
      refine gw_iload_n hX nd_Mo_score_46 rfl 1 rfl ?_
      refine gw_iconst (v := nI 2) hX nd_Mo_score_47 rfl ?_
      refine gw_iload hX nd_Mo_score_48 4 rfl ?_
      refine gw_imul hX nd_Mo_score_50 ?_
      refine gw_topi (y := nI (2 * k)) (pk_mul _ _) ?_
      refine gw_ishr hX nd_Mo_score_51 ?_
      refine gw_iconst (v := nI 3) hX nd_Mo_score_52 rfl ?_
      refine gw_iand hX nd_Mo_score_53 ?_
      refine gw_topi (y := nI (lb_at y k)) (lb_s _ (by omega)) ?_
      refine gw_iast hX nd_Mo_score_54 h11 k rfl (by omega) (by decide) ?_
      obtain ⟨σ6, eσ6⟩ : ∃ hp_, hp_ = gw_up σ (m + 11) ((gw_I (gw_z X) 6 (upd f11 k (nI (lb_at y k))))) := ⟨_, rfl⟩
      refine gw_heap eσ6.symm ?_
      have h0 : σ6.2 m = some (.inr (1, [.int (nI 0), .int (nI A.len), .ref (m + 1), .int (nI A.ss.length), .ref (m + 2), .ref (m + 3), .ref (m + 4), .int rs, .ref (m + 5), .ref (m + 6), .ref (m + 7), .ref (m + 8), .ref (m + 9), .int (nI A.mk), .int (nI A.ps), .ref (m + 10), .ref (m + 11), .ref (m + 12), .long bs, .long s2, .int be, .int se, .int kp, .int kw])) := by rw [eσ6, gw_up_ne (by omega)]; exact h0
      have h1 : σ6.2 (m + 1) = some ((gw_I (gw_z X) 240 (fun j => nI (A.ch j)))) := by rw [eσ6, gw_up_ne (by omega)]; exact h1
      have h2 : σ6.2 (m + 2) = some ((gw_I (gw_z X) 9 fm)) := by rw [eσ6, gw_up_ne (by omega)]; exact h2
      have h3 : σ6.2 (m + 3) = some ((gw_I (gw_z X) 162 fb)) := by rw [eσ6, gw_up_ne (by omega)]; exact h3
      have h4 : σ6.2 (m + 4) = some ((gw_I (gw_z X) 54 fl)) := by rw [eσ6, gw_up_ne (by omega)]; exact h4
      have h5 : σ6.2 (m + 5) = some ((gw_I (gw_z X) 9 f5)) := by rw [eσ6, gw_up_ne (by omega)]; exact h5
      have h6 : σ6.2 (m + 6) = some ((gw_I (gw_z X) 162 f6)) := by rw [eσ6, gw_up_ne (by omega)]; exact h6
      have h7 : σ6.2 (m + 7) = some ((gw_I (gw_z X) 54 f7)) := by rw [eσ6, gw_up_ne (by omega)]; exact h7
      have h8 : σ6.2 (m + 8) = some ((gw_J (gw_z X) 148 (fun j => iL (A.wt j)))) := by rw [eσ6, gw_up_ne (by omega)]; exact h8
      have h9 : σ6.2 (m + 9) = some ((gw_J (gw_z X) 148 (fun j => iL (A.tt j)))) := by rw [eσ6, gw_up_ne (by omega)]; exact h9
      have h10 : σ6.2 (m + 10) = some ((gw_J (gw_z X) 24 f10)) := by rw [eσ6, gw_up_ne (by omega)]; exact h10
      have h11 : σ6.2 (m + 11) = some ((gw_I (gw_z X) 6 (upd f11 k (nI (lb_at y k))))) := by rw [eσ6]; exact gw_up_eq _ _ _
      have h12 : σ6.2 (m + 12) = some ((gw_J (gw_z X) 7 f12)) := by rw [eσ6, gw_up_ne (by omega)]; exact h12
      have fr : gw_fr σ0 σ6 m (m + 13) := gw_fr_tr fr (show gw_fr _ σ6 m (m + 13) by rw [eσ6]; exact gw_fr_up _ _ _ (by omega) (by omega))
      refine gw_iinc hX nd_Mo_score_55 4 rfl (v := nI (k + 1)) (show nI k + nI 1 = nI (k + 1) from nI_add _ _) (by decide) (L' := [(5, .int (nI (k + 1))), (0, .ref m), (2, .int y), (3, .int (nI q)), (4, .int (nI j))]) rfl ?_
      refine gw_goto (tgt := 33) hX nd_Mo_score_58 rfl ?_
      refine gw_cut (ks := [1, 2, 3, 4, 0]) (L' := [(0, .ref m), (2, .int y), (3, .int (nI q)), (4, .int (nI j)), (5, .int (nI (k + 1)))]) rfl ?_
      exact ih (u - 1) (by omega) (k + 1) _ _ (by omega) (fun w hw => by unfold upd; by_cases e : w = k; (rw [if_pos e, e]); (rw [if_neg e]; exact hf w (by omega))) h0 h1 h2 h3 h4 h5 h6 h7 h8 h9 h10 h11 h12 fr
set_option maxRecDepth 100000 in
set_option maxHeartbeats 4000000 in
theorem ct_Mo_score (l : Launch) (Z : gw_Z) (b0 : Nat) (σ : gw_S) (m : Nat) (A : ab_A) (hA : ab_ok A) {th rs be se kp kw : Int32} {bs s2 : Int64} {fm fb fl : Nat → Int32} (hM : mw_at σ Z m A th rs be se kp kw bs s2 fm fb fl) (hO : mw_ok A kp kw fm fb fl) (x y : Int32) (q : Nat) (hq : q < 2) : gw_M l ny_Mo_score nc_Mo_score (6, 2, 49, 0, 0) (some .long) Z b0 σ [.ref m, .int x, .int y, .int (nI q)] (fun v σ' => ((∃ z : Int, ab_score A x y q = some z ∧ v = some (.long (iL z)) ∧ mw σ' Z m A 0) ∨ (ab_score A x y q = none ∧ v = some (.long 0) ∧ mw σ' Z m A 1)) ∧ (∀ b, b < m ∨ m + 13 ≤ b → σ'.2 b = σ.2 b)) := by
  refine gw_M_of rfl (Nat.le_of_ble_eq_true rfl) ?_
  intro X hX hl hz hb0 hr hnm hQ
  subst hz hb0 hl
  have hX : gw_ok X nc_Mo_score "LabelLearnerModel" (6, 2, 49, 0, 0) := hX
  show gw_W X σ 0 0 0 [(0, .ref m), (1, .int x), (2, .int y), (3, .int (nI q))] []
  have fr : gw_fr σ σ m (m + 13) := gw_fr_rf _ _ _
  obtain ⟨h0, h1, h2, h3, h4, ⟨f5, h5⟩, ⟨f6, h6⟩, ⟨f7, h7⟩, h8, h9, ⟨f10, h10⟩, ⟨f11, h11⟩, ⟨f12, h12, hz12⟩⟩ := id hM
  have hl8 := hA.2.2.1
  have hsp6 := hA.2.2.2.2.1.2
  refine gw_aload_n hX nd_Mo_score_0 rfl 0 rfl ?_
  refine gw_iload_n hX nd_Mo_score_1 rfl 1 rfl ?_
  refine gw_callV (rest := []) hX ks_Mo_102 (ct_Mo_place _ _ _ σ m A hA hM hO x) h0 rfl rfl (Nat.le_of_ble_eq_true rfl) nd_Mo_score_2 (by decide) ?_
  rintro v_ s_ ⟨hor, hs_⟩
  have hs_ := hs_.symm
  subst hs_
  rcases hor with ⟨ws, j, hws, rfl, hj8, hmb, hml⟩ | ⟨hno, rfl⟩
  · show gw_W X σ 0 0 5 [(0, .ref m), (1, .int x), (2, .int y), (3, .int (nI q))] [.int (nI j)]
    refine gw_istore hX nd_Mo_score_5 (by decide) (L' := [(4, .int (nI j)), (0, .ref m), (1, .int x), (2, .int y), (3, .int (nI q))]) rfl ?_
    refine gw_aload_n hX nd_Mo_score_7 rfl 1 rfl ?_
    refine gw_iload hX nd_Mo_score_8 0 rfl ?_
    refine gw_if_ge (tgt := 17) hX nd_Mo_score_10 rfl (fun hb => ?_) (fun hb => ?_)
    · have hb : 0 ≤ j := (nI_leI (a := 0) (b := j) (by omega) (by omega)).mp hb
      refine gw_iconst (v := nI 0) hX nd_Mo_score_17 rfl ?_
      refine gw_put hX kf_Mo_51 nd_Mo_score_18 h0 rfl rfl (Nat.le_of_ble_eq_true rfl) (e' := .inr (1, [.int (nI 0), .int (nI A.len), .ref (m + 1), .int (nI A.ss.length), .ref (m + 2), .ref (m + 3), .ref (m + 4), .int rs, .ref (m + 5), .ref (m + 6), .ref (m + 7), .ref (m + 8), .ref (m + 9), .int (nI A.mk), .int (nI A.ps), .ref (m + 10), .ref (m + 11), .ref (m + 12), .long bs, .long s2, .int be, .int se, .int kp, .int kw])) rfl ?_
      obtain ⟨σ1, eσ1⟩ : ∃ hp_, hp_ = gw_up σ m (.inr (1, [.int (nI 0), .int (nI A.len), .ref (m + 1), .int (nI A.ss.length), .ref (m + 2), .ref (m + 3), .ref (m + 4), .int rs, .ref (m + 5), .ref (m + 6), .ref (m + 7), .ref (m + 8), .ref (m + 9), .int (nI A.mk), .int (nI A.ps), .ref (m + 10), .ref (m + 11), .ref (m + 12), .long bs, .long s2, .int be, .int se, .int kp, .int kw])) := ⟨_, rfl⟩
      refine gw_heap eσ1.symm ?_
      have h0 : σ1.2 m = some (.inr (1, [.int (nI 0), .int (nI A.len), .ref (m + 1), .int (nI A.ss.length), .ref (m + 2), .ref (m + 3), .ref (m + 4), .int rs, .ref (m + 5), .ref (m + 6), .ref (m + 7), .ref (m + 8), .ref (m + 9), .int (nI A.mk), .int (nI A.ps), .ref (m + 10), .ref (m + 11), .ref (m + 12), .long bs, .long s2, .int be, .int se, .int kp, .int kw])) := by rw [eσ1]; exact gw_up_eq _ _ _
      have h1 : σ1.2 (m + 1) = some ((gw_I (gw_z X) 240 (fun j => nI (A.ch j)))) := by rw [eσ1, gw_up_ne (by omega)]; exact h1
      have h2 : σ1.2 (m + 2) = some ((gw_I (gw_z X) 9 fm)) := by rw [eσ1, gw_up_ne (by omega)]; exact h2
      have h3 : σ1.2 (m + 3) = some ((gw_I (gw_z X) 162 fb)) := by rw [eσ1, gw_up_ne (by omega)]; exact h3
      have h4 : σ1.2 (m + 4) = some ((gw_I (gw_z X) 54 fl)) := by rw [eσ1, gw_up_ne (by omega)]; exact h4
      have h5 : σ1.2 (m + 5) = some ((gw_I (gw_z X) 9 f5)) := by rw [eσ1, gw_up_ne (by omega)]; exact h5
      have h6 : σ1.2 (m + 6) = some ((gw_I (gw_z X) 162 f6)) := by rw [eσ1, gw_up_ne (by omega)]; exact h6
      have h7 : σ1.2 (m + 7) = some ((gw_I (gw_z X) 54 f7)) := by rw [eσ1, gw_up_ne (by omega)]; exact h7
      have h8 : σ1.2 (m + 8) = some ((gw_J (gw_z X) 148 (fun j => iL (A.wt j)))) := by rw [eσ1, gw_up_ne (by omega)]; exact h8
      have h9 : σ1.2 (m + 9) = some ((gw_J (gw_z X) 148 (fun j => iL (A.tt j)))) := by rw [eσ1, gw_up_ne (by omega)]; exact h9
      have h10 : σ1.2 (m + 10) = some ((gw_J (gw_z X) 24 f10)) := by rw [eσ1, gw_up_ne (by omega)]; exact h10
      have h11 : σ1.2 (m + 11) = some ((gw_I (gw_z X) 6 f11)) := by rw [eσ1, gw_up_ne (by omega)]; exact h11
      have h12 : σ1.2 (m + 12) = some ((gw_J (gw_z X) 7 f12)) := by rw [eσ1, gw_up_ne (by omega)]; exact h12
      have fr : gw_fr σ σ1 m (m + 13) := gw_fr_tr fr (show gw_fr _ σ1 m (m + 13) by rw [eσ1]; exact gw_fr_up _ _ _ (by omega) (by omega))
      refine gw_aload_n hX nd_Mo_score_21 rfl 1 rfl ?_
      refine gw_get hX kf_Mo_51 nd_Mo_score_22 h0 rfl ?_
      refine gw_if_le (tgt := 30) hX nd_Mo_score_25 rfl (fun hb => ?_) (fun hb => ?_)
      · have hb : 0 ≤ 0 := (nI_leI (a := 0) (b := 0) (by omega) (by omega)).mp hb
        refine gw_iconst (v := nI 0) hX nd_Mo_score_30 rfl ?_
        refine gw_istore hX nd_Mo_score_31 (by decide) (L' := [(5, .int (nI 0)), (4, .int (nI j)), (0, .ref m), (1, .int x), (2, .int y), (3, .int (nI q))]) rfl ?_
        refine gw_cut (ks := [2, 4, 5, 1, 0]) (L' := [(0, .ref m), (2, .int y), (3, .int (nI q)), (4, .int (nI j)), (5, .int (nI 0))]) rfl ?_
        exact lp_Mo_score m A hA hO hz12 x y q hq j hj8 ws hws hmb hX hQ hr 6 0 _ _ (by omega) (fun w hw => by omega) h0 h1 h2 h3 h4 h5 h6 h7 h8 h9 h10 h11 h12 fr
      · have hb : ¬ 0 ≤ 0 := fun h => hb ((nI_leI (a := 0) (b := 0) (by omega) (by omega)).mpr h)
        exfalso; omega
    · have hb : ¬ 0 ≤ j := fun h => hb ((nI_leI (a := 0) (b := j) (by omega) (by omega)).mpr h)
      exfalso; omega
  · show gw_W X σ 0 0 5 [(0, .ref m), (1, .int x), (2, .int y), (3, .int (nI q))] [.int ((-1))]
    refine gw_istore hX nd_Mo_score_5 (by decide) (L' := [(4, .int ((-1))), (0, .ref m), (1, .int x), (2, .int y), (3, .int (nI q))]) rfl ?_
    refine gw_aload_n hX nd_Mo_score_7 rfl 1 rfl ?_
    refine gw_iload hX nd_Mo_score_8 0 rfl ?_
    refine gw_if_ge (tgt := 17) hX nd_Mo_score_10 rfl (fun hb => ?_) (fun hb => ?_)
    · skip
      exact absurd hb (by decide)
    · skip
      refine gw_iconst (v := nI 1) hX nd_Mo_score_13 rfl ?_
      refine gw_goto (tgt := 18) hX nd_Mo_score_14 rfl ?_
      refine gw_put hX kf_Mo_51 nd_Mo_score_18 h0 rfl rfl (Nat.le_of_ble_eq_true rfl) (e' := .inr (1, [.int (nI 1), .int (nI A.len), .ref (m + 1), .int (nI A.ss.length), .ref (m + 2), .ref (m + 3), .ref (m + 4), .int rs, .ref (m + 5), .ref (m + 6), .ref (m + 7), .ref (m + 8), .ref (m + 9), .int (nI A.mk), .int (nI A.ps), .ref (m + 10), .ref (m + 11), .ref (m + 12), .long bs, .long s2, .int be, .int se, .int kp, .int kw])) rfl ?_
      obtain ⟨σ2, eσ2⟩ : ∃ hp_, hp_ = gw_up σ m (.inr (1, [.int (nI 1), .int (nI A.len), .ref (m + 1), .int (nI A.ss.length), .ref (m + 2), .ref (m + 3), .ref (m + 4), .int rs, .ref (m + 5), .ref (m + 6), .ref (m + 7), .ref (m + 8), .ref (m + 9), .int (nI A.mk), .int (nI A.ps), .ref (m + 10), .ref (m + 11), .ref (m + 12), .long bs, .long s2, .int be, .int se, .int kp, .int kw])) := ⟨_, rfl⟩
      refine gw_heap eσ2.symm ?_
      have h0 : σ2.2 m = some (.inr (1, [.int (nI 1), .int (nI A.len), .ref (m + 1), .int (nI A.ss.length), .ref (m + 2), .ref (m + 3), .ref (m + 4), .int rs, .ref (m + 5), .ref (m + 6), .ref (m + 7), .ref (m + 8), .ref (m + 9), .int (nI A.mk), .int (nI A.ps), .ref (m + 10), .ref (m + 11), .ref (m + 12), .long bs, .long s2, .int be, .int se, .int kp, .int kw])) := by rw [eσ2]; exact gw_up_eq _ _ _
      have h1 : σ2.2 (m + 1) = some ((gw_I (gw_z X) 240 (fun j => nI (A.ch j)))) := by rw [eσ2, gw_up_ne (by omega)]; exact h1
      have h2 : σ2.2 (m + 2) = some ((gw_I (gw_z X) 9 fm)) := by rw [eσ2, gw_up_ne (by omega)]; exact h2
      have h3 : σ2.2 (m + 3) = some ((gw_I (gw_z X) 162 fb)) := by rw [eσ2, gw_up_ne (by omega)]; exact h3
      have h4 : σ2.2 (m + 4) = some ((gw_I (gw_z X) 54 fl)) := by rw [eσ2, gw_up_ne (by omega)]; exact h4
      have h5 : σ2.2 (m + 5) = some ((gw_I (gw_z X) 9 f5)) := by rw [eσ2, gw_up_ne (by omega)]; exact h5
      have h6 : σ2.2 (m + 6) = some ((gw_I (gw_z X) 162 f6)) := by rw [eσ2, gw_up_ne (by omega)]; exact h6
      have h7 : σ2.2 (m + 7) = some ((gw_I (gw_z X) 54 f7)) := by rw [eσ2, gw_up_ne (by omega)]; exact h7
      have h8 : σ2.2 (m + 8) = some ((gw_J (gw_z X) 148 (fun j => iL (A.wt j)))) := by rw [eσ2, gw_up_ne (by omega)]; exact h8
      have h9 : σ2.2 (m + 9) = some ((gw_J (gw_z X) 148 (fun j => iL (A.tt j)))) := by rw [eσ2, gw_up_ne (by omega)]; exact h9
      have h10 : σ2.2 (m + 10) = some ((gw_J (gw_z X) 24 f10)) := by rw [eσ2, gw_up_ne (by omega)]; exact h10
      have h11 : σ2.2 (m + 11) = some ((gw_I (gw_z X) 6 f11)) := by rw [eσ2, gw_up_ne (by omega)]; exact h11
      have h12 : σ2.2 (m + 12) = some ((gw_J (gw_z X) 7 f12)) := by rw [eσ2, gw_up_ne (by omega)]; exact h12
      have fr : gw_fr σ σ2 m (m + 13) := gw_fr_tr fr (show gw_fr _ σ2 m (m + 13) by rw [eσ2]; exact gw_fr_up _ _ _ (by omega) (by omega))
      refine gw_aload_n hX nd_Mo_score_21 rfl 1 rfl ?_
      refine gw_get hX kf_Mo_51 nd_Mo_score_22 h0 rfl ?_
      refine gw_if_le (tgt := 30) hX nd_Mo_score_25 rfl (fun hb => ?_) (fun hb => ?_)
      · have hb : 1 ≤ 0 := (nI_leI (a := 1) (b := 0) (by omega) (by omega)).mp hb
        exfalso; omega
      · have hb : ¬ 1 ≤ 0 := fun h => hb ((nI_leI (a := 1) (b := 0) (by omega) (by omega)).mpr h)
        refine gw_lconst (v := 0) hX nd_Mo_score_28 rfl ?_
        exact gw_lret hX hQ hr nd_Mo_score_29 (by decide) (by decide) ⟨Or.inr ⟨by unfold ab_score; rw [hno]; rfl, rfl, ⟨_, _, _, _, _, _, _, _, _, _, ⟨h0, h1, h2, h3, h4, ⟨_, h5⟩, ⟨_, h6⟩, ⟨_, h7⟩, h8, h9, ⟨_, h10⟩, ⟨_, h11⟩, ⟨_, h12, hz12⟩⟩, hO⟩⟩, (fun b hb9 => fr.2 b (by omega))⟩
