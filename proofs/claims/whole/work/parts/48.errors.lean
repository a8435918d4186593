theorem gw_fr_f2 {σ σ' : gw_S} {m : Nat} (f : gw_f2 σ σ' m (m + 1) (m + 10) (m + 13)) : gw_fr σ σ' m (m + 13) := ⟨f.1, fun b hb => f.2 b (by omega) (by omega)⟩
theorem mw_ok_kp {A : ab_A} {kp kw : Int32} {fm fb fl : Nat → Int32} (h : mw_ok A kp kw fm fb fl) {n c : Nat} (hn : 0 < n) : mw_ok (ab_kp A n c) (nI c) (nI n) fm fb fl :=
  ⟨h.1, h.2.1, fun e => by have e : n = 0 := e; omega, fun _ => ⟨rfl, rfl⟩⟩
set_option maxRecDepth 100000 in
set_option maxHeartbeats 4000000 in
theorem ct_Mo_decode (l : Launch) (Z : gw_Z) (b0 : Nat) (σ : gw_S) (m : Nat) (A : ab_A) (hA : ab_ok A) {th rs be se kp kw : Int32} {bs s2 : Int64} {fm fb fl : Nat → Int32} (hM : mw_at σ Z m A th rs be se kp kw bs s2 fm fb fl) (hO : mw_ok A kp kw fm fb fl) (x : Int32) (q b : Nat) (hq : q < 2) (hb2 : b < 2) (hB : dc_B (ab_w A q)) : gw_M l ny_Mo_decode nc_Mo_decode (5, 4, 99, 0, 0) (some .long) Z b0 σ [.ref m, .int x, .int (nI q), .int (nI b)] (fun v σ' => ((∃ (z : Int) (A' : ab_A), ab_dec A x q b = some (z, A') ∧ v = some (.long (iL z)) ∧ mw σ' Z m A' 0) ∨ (ab_dec A x q b = none ∧ v = some (.long 0) ∧ mw σ' Z m A 1)) ∧ (∀ b, b < m ∨ m + 13 ≤ b → σ'.2 b = σ.2 b)) := by
  refine gw_M_of rfl (Nat.le_of_ble_eq_true rfl) ?_
  intro X hX hl hz hb0 hr hnm hQ
  subst hz hb0 hl
  have hX : gw_ok X nc_Mo_decode "LabelLearnerModel" (5, 4, 99, 0, 0) := hX
  show gw_W X σ 0 0 0 [(0, .ref m), (1, .int x), (2, .int (nI q)), (3, .int (nI b))] []
  have fr : gw_fr σ σ m (m + 13) := gw_fr_rf _ _ _
  obtain ⟨h0, h1, h2, h3, h4, ⟨f5, h5⟩, ⟨f6, h6⟩, ⟨f7, h7⟩, h8, h9, ⟨f10, h10⟩, ⟨f11, h11⟩, ⟨f12, h12, hz12⟩⟩ := id hM
  have hl8 := hA.2.2.1
  have hsp6 := hA.2.2.2.2.1.2
  refine gw_aload_n hX nd_Mo_decode_0 rfl 0 rfl ?_
  refine gw_iload_n hX nd_Mo_decode_1 rfl 1 rfl ?_
  refine gw_callV (rest := []) hX ks_Mo_102 (ct_Mo_place _ _ _ σ m A hA hM hO x) h0 rfl rfl (Nat.le_of_ble_eq_true rfl) nd_Mo_decode_2 (by decide) ?_
  rintro v_ s_ ⟨hor, hs_⟩
  have hs_ := hs_.symm
  subst hs_
  rcases hor with ⟨ws, j, hws, rfl, hj8, hmb, hml⟩ | ⟨hno, rfl⟩
  · show gw_W X σ 0 0 5 [(0, .ref m), (1, .int x), (2, .int (nI q)), (3, .int (nI b))] [.int (nI j)]
    obtain ⟨⟨hso, hsl6⟩, hne⟩ := ab_sent_ok hA hws
    have hws0 := List.length_pos_iff.mpr hne
    refine gw_istore hX nd_Mo_decode_5 (by decide) (L' := [(4, .int (nI j)), (0, .ref m), (1, .int x), (2, .int (nI q)), (3, .int (nI b))]) rfl ?_
    refine gw_aload_n hX nd_Mo_decode_7 rfl 1 rfl ?_
    refine gw_iload hX nd_Mo_decode_8 0 rfl ?_
    refine gw_if_ge (tgt := 17) hX nd_Mo_decode_10 rfl (fun hb => ?_) (fun hb => ?_)
    · have hb : 0 ≤ j := (nI_leI (a := 0) (b := j) (by omega) (by omega)).mp hb
      refine gw_iconst (v := nI 0) hX nd_Mo_decode_17 rfl ?_
      refine gw_put hX kf_Mo_51 nd_Mo_decode_18 h0 rfl rfl (Nat.le_of_ble_eq_true rfl) (e' := .inr (1, [.int (nI 0), .int (nI A.len), .ref (m + 1), .int (nI A.ss.length), .ref (m + 2), .ref (m + 3), .ref (m + 4), .int rs, .ref (m + 5), .ref (m + 6), .ref (m + 7), .ref (m + 8), .ref (m + 9), .int (nI A.mk), .int (nI A.ps), .ref (m + 10), .ref (m + 11), .ref (m + 12), .long bs, .long s2, .int be, .int se, .int kp, .int kw])) rfl ?_
      obtain ⟨σ1, eσ1⟩ : ∃ hp_, hp_ = gw_up σ m (.inr (1, [.int (nI 0), .int (nI A.len), .ref (m + 1), .int (nI A.ss.length), .ref (m + 2), .ref (m + 3), .ref (m + 4), .int rs, .ref (m + 5), .ref (m + 6), .ref (m + 7), .ref (m + 8), .ref (m + 9), .int (nI A.mk), .int (nI A.ps), .ref (m + 10), .ref (m + 11), .ref (m + 12), .long bs, .long s2, .int be, .int se, .int kp, .int kw])) := ⟨_, rfl⟩
      refine gw_heap eσ1.symm ?_
      have h0 : σ1.2 m = some (.inr (1, [.int (nI 0), .int (nI A.len), .ref (m + 1), .int (nI A.ss.length), .ref (m + 2), .ref (m + 3), .ref (m + 4), .int rs, .ref (m + 5), .ref (m + 6), .ref (m + 7), .ref (m + 8), .ref (m + 9), .int (nI A.mk), .int (nI A.ps), .ref (m + 10), .ref (m + 11), .ref (m + 12), .long bs, .long s2, .int be, .int se, .int kp, .int kw])) := by rw [eσ1]; exact gw_up_eq _ _ _
      have h1 : σ1.2 (m + 1) = some ((gw_I (gw_z X) 240 (fun j => nI (A.ch j)))) := by rw [eσ1, gw_up_ne (by omega)]; exact h1
      have h2 : σ1.2 (m + 2) = some ((gw_I (gw_z X) 9 fm)) := by rw [eσ1, gw_up_ne (by omega)]; exact h2
      have h3 : σ1.2 (m + 3) = some ((gw_I (gw_z X) 162 fb)) := by rw [eσ1, gw_up_ne (by omega)]; exact h3
      have h4 : σ1.2 (m + 4) = some ((gw_I (gw_z X) 54 fl)) := by rw [eσ1, gw_up_ne (by omega)]; exact h4
      have h5 : σ1.2 (m + 5) = some ((gw_I (gw_z X) 9 f5)) := by rw [eσ1, gw_up_ne (by omega)]; exact h5
      have h6 : σ1.2 (m + 6) = some ((gw_I (gw_z X) 162 f6)) := by rw [eσ1, gw_up_ne (by omega)]; exact h6
      have h7 : σ1.2 (m + 7) = some ((gw_I (gw_z X) 54 f7)) := by rw [eσ1, gw_up_ne (by omega)]; exact h7
      have h8 : σ1.2 (m + 8) = some ((gw_J (gw_z X) 148 (fun j => iL (A.wt j)))) := by rw [eσ1, gw_up_ne (by omega)]; exact h8
      have h9 : σ1.2 (m + 9) = some ((gw_J (gw_z X) 148 (fun j => iL (A.tt j)))) := by rw [eσ1, gw_up_ne (by omega)]; exact h9
      have h10 : σ1.2 (m + 10) = some ((gw_J (gw_z X) 24 f10)) := by rw [eσ1, gw_up_ne (by omega)]; exact h10
      have h11 : σ1.2 (m + 11) = some ((gw_I (gw_z X) 6 f11)) := by rw [eσ1, gw_up_ne (by omega)]; exact h11
      have h12 : σ1.2 (m + 12) = some ((gw_J (gw_z X) 7 f12)) := by rw [eσ1, gw_up_ne (by omega)]; exact h12
      have fr : gw_fr σ σ1 m (m + 13) := gw_fr_tr fr (show gw_fr _ σ1 m (m + 13) by rw [eσ1]; exact gw_fr_up _ _ _ (by omega) (by omega))
      refine gw_aload_n hX nd_Mo_decode_21 rfl 1 rfl ?_
      refine gw_get hX kf_Mo_51 nd_Mo_decode_22 h0 rfl ?_
      refine gw_if_le (tgt := 30) hX nd_Mo_decode_25 rfl (fun hb => ?_) (fun hb => ?_)
      · have hb : 0 ≤ 0 := (nI_leI (a := 0) (b := 0) (by omega) (by omega)).mp hb
        refine gw_aload_n hX nd_Mo_decode_30 rfl 1 rfl ?_
        refine gw_iload hX nd_Mo_decode_31 0 rfl ?_
        refine gw_iload_n hX nd_Mo_decode_33 rfl 3 rfl ?_
        have hM1 := (show mw_at _ (gw_z X) m A (nI 0) rs be se kp kw bs s2 fm fb fl from ⟨h0, h1, h2, h3, h4, ⟨_, h5⟩, ⟨_, h6⟩, ⟨_, h7⟩, h8, h9, ⟨_, h10⟩, ⟨_, h11⟩, ⟨_, h12, hz12⟩⟩)
        refine gw_callV (rest := []) hX ks_Mo_150 (ct_Mo_searchBy _ _ _ _ m A hA hM1 hO j hj8 ws hso hsl6 hne hmb q hq hB) h0 rfl rfl (Nat.le_of_ble_eq_true rfl) nd_Mo_decode_34 (by decide) ?_
        rintro _ σ2 ⟨rfl, hM2, hf9⟩
        have fr := gw_fr_tr (lo := m) (hi := m + 13) fr (gw_fr_f2 hf9)
        obtain ⟨h0, h1, h2, h3, h4, ⟨f5, h5⟩, ⟨f6, h6⟩, ⟨f7, h7⟩, h8, h9, ⟨f10, h10⟩, ⟨f11, h11⟩, ⟨f12, h12, hz12⟩⟩ := id hM2
        show gw_W X σ2 0 0 37 [(4, .int (nI j)), (0, .ref m), (1, .int x), (2, .int (nI q)), (3, .int (nI b))] []
        refine gw_aload_n hX nd_Mo_decode_37 rfl 1 rfl ?_
        refine gw_iload_n hX nd_Mo_decode_38 rfl 4 rfl ?_
        refine gw_if_eq (tgt := 49) hX nd_Mo_decode_39 rfl (fun hb => ?_) (fun hb => ?_)
        · have hb : b = 0 := (nI_eq (a := b) (b := 0) (by omega) (by omega)).mp hb
          have hbq : b = 0 := hb
          refine gw_aload_n hX nd_Mo_decode_49 rfl 1 rfl ?_
          refine gw_get hX kf_Mo_124 nd_Mo_decode_50 h0 rfl ?_
          refine gw_put hX kf_Mo_47 nd_Mo_decode_53 h0 rfl rfl (Nat.le_of_ble_eq_true rfl) (e' := .inr (1, [.int (nI 0), .int (nI A.len), .ref (m + 1), .int (nI A.ss.length), .ref (m + 2), .ref (m + 3), .ref (m + 4), .int rs, .ref (m + 5), .ref (m + 6), .ref (m + 7), .ref (m + 8), .ref (m + 9), .int (nI A.mk), .int (nI A.ps), .ref (m + 10), .ref (m + 11), .ref (m + 12), .long (iL (ab_best (ab_w A q) ws 0).1), .long (iL (ab_best (ab_w A q) ws 1).1), .int (nI ((ab_best (ab_w A q) ws 0).2)), .int (nI ((ab_best (ab_w A q) ws 1).2)), .int (nI ((ab_best (ab_w A q) ws 0).2)), .int kw])) rfl ?_
          obtain ⟨σ3, eσ3⟩ : ∃ hp_, hp_ = gw_up σ2 m (.inr (1, [.int (nI 0), .int (nI A.len), .ref (m + 1), .int (nI A.ss.length), .ref (m + 2), .ref (m + 3), .ref (m + 4), .int rs, .ref (m + 5), .ref (m + 6), .ref (m + 7), .ref (m + 8), .ref (m + 9), .int (nI A.mk), .int (nI A.ps), .ref (m + 10), .ref (m + 11), .ref (m + 12), .long (iL (ab_best (ab_w A q) ws 0).1), .long (iL (ab_best (ab_w A q) ws 1).1), .int (nI ((ab_best (ab_w A q) ws 0).2)), .int (nI ((ab_best (ab_w A q) ws 1).2)), .int (nI ((ab_best (ab_w A q) ws 0).2)), .int kw])) := ⟨_, rfl⟩
          refine gw_heap eσ3.symm ?_
          have h0 : σ3.2 m = some (.inr (1, [.int (nI 0), .int (nI A.len), .ref (m + 1), .int (nI A.ss.length), .ref (m + 2), .ref (m + 3), .ref (m + 4), .int rs, .ref (m + 5), .ref (m + 6), .ref (m + 7), .ref (m + 8), .ref (m + 9), .int (nI A.mk), .int (nI A.ps), .ref (m + 10), .ref (m + 11), .ref (m + 12), .long (iL (ab_best (ab_w A q) ws 0).1), .long (iL (ab_best (ab_w A q) ws 1).1), .int (nI ((ab_best (ab_w A q) ws 0).2)), .int (nI ((ab_best (ab_w A q) ws 1).2)), .int (nI ((ab_best (ab_w A q) ws 0).2)), .int kw])) := by rw [eσ3]; exact gw_up_eq _ _ _
          have h1 : σ3.2 (m + 1) = some ((gw_I (gw_z X) 240 (fun j => nI (A.ch j)))) := by rw [eσ3, gw_up_ne (by omega)]; exact h1
          have h2 : σ3.2 (m + 2) = some ((gw_I (gw_z X) 9 fm)) := by rw [eσ3, gw_up_ne (by omega)]; exact h2
          have h3 : σ3.2 (m + 3) = some ((gw_I (gw_z X) 162 fb)) := by rw [eσ3, gw_up_ne (by omega)]; exact h3
          have h4 : σ3.2 (m + 4) = some ((gw_I (gw_z X) 54 fl)) := by rw [eσ3, gw_up_ne (by omega)]; exact h4
          have h5 : σ3.2 (m + 5) = some ((gw_I (gw_z X) 9 f5)) := by rw [eσ3, gw_up_ne (by omega)]; exact h5
          have h6 : σ3.2 (m + 6) = some ((gw_I (gw_z X) 162 f6)) := by rw [eσ3, gw_up_ne (by omega)]; exact h6
          have h7 : σ3.2 (m + 7) = some ((gw_I (gw_z X) 54 f7)) := by rw [eσ3, gw_up_ne (by omega)]; exact h7
          have h8 : σ3.2 (m + 8) = some ((gw_J (gw_z X) 148 (fun j => iL (A.wt j)))) := by rw [eσ3, gw_up_ne (by omega)]; exact h8
          have h9 : σ3.2 (m + 9) = some ((gw_J (gw_z X) 148 (fun j => iL (A.tt j)))) := by rw [eσ3, gw_up_ne (by omega)]; exact h9
          have h10 : σ3.2 (m + 10) = some ((gw_J (gw_z X) 24 f10)) := by rw [eσ3, gw_up_ne (by omega)]; exact h10
          have h11 : σ3.2 (m + 11) = some ((gw_I (gw_z X) 6 f11)) := by rw [eσ3, gw_up_ne (by omega)]; exact h11
          have h12 : σ3.2 (m + 12) = some ((gw_J (gw_z X) 7 f12)) := by rw [eσ3, gw_up_ne (by omega)]; exact h12
          have fr : gw_fr σ σ3 m (m + 13) := gw_fr_tr fr (show gw_fr _ σ3 m (m + 13) by rw [eσ3]; exact gw_fr_up _ _ _ (by omega) (by omega))
          refine gw_aload_n hX nd_Mo_decode_56 rfl 1 rfl ?_
          refine gw_aload_n hX nd_Mo_decode_57 rfl 1 rfl ?_
          refine gw_get hX kf_Mo_13 nd_Mo_decode_58 h0 rfl ?_
          refine gw_iload hX nd_Mo_decode_61 0 rfl ?_
          refine gw_iald hX nd_Mo_decode_63 h2 j rfl (by omega) (by decide) ?_
          refine gw_topi (y := nI ws.length) hmb.1 ?_
          refine gw_put hX kf_Mo_154 nd_Mo_decode_64 h0 rfl rfl (Nat.le_of_ble_eq_true rfl) (e' := .inr (1, [.int (nI 0), .int (nI A.len), .ref (m + 1), .int (nI A.ss.length), .ref (m + 2), .ref (m + 3), .ref (m + 4), .int rs, .ref (m + 5), .ref (m + 6), .ref (m + 7), .ref (m + 8), .ref (m + 9), .int (nI A.mk), .int (nI A.ps), .ref (m + 10), .ref (m + 11), .ref (m + 12), .long (iL (ab_best (ab_w A q) ws 0).1), .long (iL (ab_best (ab_w A q) ws 1).1), .int (nI ((ab_best (ab_w A q) ws 0).2)), .int (nI ((ab_best (ab_w A q) ws 1).2)), .int (nI ((ab_best (ab_w A q) ws 0).2)), .int (nI ws.length)])) rfl ?_
          obtain ⟨σ4, eσ4⟩ : ∃ hp_, hp_ = gw_up σ3 m (.inr (1, [.int (nI 0), .int (nI A.len), .ref (m + 1), .int (nI A.ss.length), .ref (m + 2), .ref (m + 3), .ref (m + 4), .int rs, .ref (m + 5), .ref (m + 6), .ref (m + 7), .ref (m + 8), .ref (m + 9), .int (nI A.mk), .int (nI A.ps), .ref (m + 10), .ref (m + 11), .ref (m + 12), .long (iL (ab_best (ab_w A q) ws 0).1), .long (iL (ab_best (ab_w A q) ws 1).1), .int (nI ((ab_best (ab_w A q) ws 0).2)), .int (nI ((ab_best (ab_w A q) ws 1).2)), .int (nI ((ab_best (ab_w A q) ws 0).2)), .int (nI ws.length)])) := ⟨_, rfl⟩
          refine gw_heap eσ4.symm ?_
          have h0 : σ4.2 m = some (.inr (1, [.int (nI 0), .int (nI A.len), .ref (m + 1), .int (nI A.ss.length), .ref (m + 2), .ref (m + 3), .ref (m + 4), .int rs, .ref (m + 5), .ref (m + 6), .ref (m + 7), .ref (m + 8), .ref (m + 9), .int (nI A.mk), .int (nI A.ps), .ref (m + 10), .ref (m + 11), .ref (m + 12), .long (iL (ab_best (ab_w A q) ws 0).1), .long (iL (ab_best (ab_w A q) ws 1).1), .int (nI ((ab_best (ab_w A q) ws 0).2)), .int (nI ((ab_best (ab_w A q) ws 1).2)), .int (nI ((ab_best (ab_w A q) ws 0).2)), .int (nI ws.length)])) := by rw [eσ4]; exact gw_up_eq _ _ _
          have h1 : σ4.2 (m + 1) = some ((gw_I (gw_z X) 240 (fun j => nI (A.ch j)))) := by rw [eσ4, gw_up_ne (by omega)]; exact h1
          have h2 : σ4.2 (m + 2) = some ((gw_I (gw_z X) 9 fm)) := by rw [eσ4, gw_up_ne (by omega)]; exact h2
          have h3 : σ4.2 (m + 3) = some ((gw_I (gw_z X) 162 fb)) := by rw [eσ4, gw_up_ne (by omega)]; exact h3
          have h4 : σ4.2 (m + 4) = some ((gw_I (gw_z X) 54 fl)) := by rw [eσ4, gw_up_ne (by omega)]; exact h4
          have h5 : σ4.2 (m + 5) = some ((gw_I (gw_z X) 9 f5)) := by rw [eσ4, gw_up_ne (by omega)]; exact h5
          have h6 : σ4.2 (m + 6) = some ((gw_I (gw_z X) 162 f6)) := by rw [eσ4, gw_up_ne (by omega)]; exact h6
          have h7 : σ4.2 (m + 7) = some ((gw_I (gw_z X) 54 f7)) := by rw [eσ4, gw_up_ne (by omega)]; exact h7
          have h8 : σ4.2 (m + 8) = some ((gw_J (gw_z X) 148 (fun j => iL (A.wt j)))) := by rw [eσ4, gw_up_ne (by omega)]; exact h8
          have h9 : σ4.2 (m + 9) = some ((gw_J (gw_z X) 148 (fun j => iL (A.tt j)))) := by rw [eσ4, gw_up_ne (by omega)]; exact h9
          have h10 : σ4.2 (m + 10) = some ((gw_J (gw_z X) 24 f10)) := by rw [eσ4, gw_up_ne (by omega)]; exact h10
          have h11 : σ4.2 (m + 11) = some ((gw_I (gw_z X) 6 f11)) := by rw [eσ4, gw_up_ne (by omega)]; exact h11
          have h12 : σ4.2 (m + 12) = some ((gw_J (gw_z X) 7 f12)) := by rw [eσ4, gw_up_ne (by omega)]; exact h12
          have fr : gw_fr σ σ4 m (m + 13) := gw_fr_tr fr (show gw_fr _ σ4 m (m + 13) by rw [eσ4]; exact gw_fr_up _ _ _ (by omega) (by omega))
          refine gw_iload_n hX nd_Mo_decode_67 rfl 4 rfl ?_
          refine gw_if_eq (tgt := 78) hX nd_Mo_decode_68 rfl (fun hb => ?_) (fun hb => ?_)
          · have hb : b = 0 := (nI_eq (a := b) (b := 0) (by omega) (by omega)).mp hb
            refine gw_aload_n hX nd_Mo_decode_78 rfl 1 rfl ?_
            refine gw_get hX kf_Mo_120 nd_Mo_decode_79 h0 rfl ?_
            exact gw_lret hX hQ hr nd_Mo_decode_82 (by decide) (by decide) ⟨Or.inl ⟨_, ab_kp A ws.length (ab_best (ab_w A q) ws 0).2, by unfold ab_dec; rw [hws, hbq]; rfl, rfl, ⟨_, _, _, _, _, _, _, _, _, _, ⟨h0, h1, h2, h3, h4, ⟨_, h5⟩, ⟨_, h6⟩, ⟨_, h7⟩, h8, h9, ⟨_, h10⟩, ⟨_, h11⟩, ⟨_, h12, hz12⟩⟩, mw_ok_kp hO hws0⟩⟩, (fun b hb9 => fr.2 b (by omega))⟩
          · have hb : ¬ b = 0 := fun h => hb ((nI_eq (a := b) (b := 0) (by omega) (by omega)).mpr h)
            exfalso; omega
        · have hb : ¬ b = 0 := fun h => hb ((nI_eq (a := b) (b := 0) (by omega) (by omega)).mpr h)
          have hbq : b = 1 := by omega
          refine gw_aload_n hX nd_Mo_decode_42 rfl 1 rfl ?_
          refine gw_get hX kf_Mo_127 nd_Mo_decode_43 h0 rfl ?_
          refine gw_goto (tgt := 53) hX nd_Mo_decode_46 rfl ?_
          refine gw_put hX kf_Mo_47 nd_Mo_decode_53 h0 rfl rfl (Nat.le_of_ble_eq_true rfl) (e' := .inr (1, [.int (nI 0), .int (nI A.len), .ref (m + 1), .int (nI A.ss.length), .ref (m + 2), .ref (m + 3), .ref (m + 4), .int rs, .ref (m + 5), .ref (m + 6), .ref (m + 7), .ref (m + 8), .ref (m + 9), .int (nI A.mk), .int (nI A.ps), .ref (m + 10), .ref (m + 11), .ref (m + 12), .long (iL (ab_best (ab_w A q) ws 0).1), .long (iL (ab_best (ab_w A q) ws 1).1), .int (nI ((ab_best (ab_w A q) ws 0).2)), .int (nI ((ab_best (ab_w A q) ws 1).2)), .int (nI ((ab_best (ab_w A q) ws 1).2)), .int kw])) rfl ?_
          obtain ⟨σ5, eσ5⟩ : ∃ hp_, hp_ = gw_up σ2 m (.inr (1, [.int (nI 0), .int (nI A.len), .ref (m + 1), .int (nI A.ss.length), .ref (m + 2), .ref (m + 3), .ref (m + 4), .int rs, .ref (m + 5), .ref (m + 6), .ref (m + 7), .ref (m + 8), .ref (m + 9), .int (nI A.mk), .int (nI A.ps), .ref (m + 10), .ref (m + 11), .ref (m + 12), .long (iL (ab_best (ab_w A q) ws 0).1), .long (iL (ab_best (ab_w A q) ws 1).1), .int (nI ((ab_best (ab_w A q) ws 0).2)), .int (nI ((ab_best (ab_w A q) ws 1).2)), .int (nI ((ab_best (ab_w A q) ws 1).2)), .int kw])) := ⟨_, rfl⟩
          refine gw_heap eσ5.symm ?_
          have h0 : σ5.2 m = some (.inr (1, [.int (nI 0), .int (nI A.len), .ref (m + 1), .int (nI A.ss.length), .ref (m + 2), .ref (m + 3), .ref (m + 4), .int rs, .ref (m + 5), .ref (m + 6), .ref (m + 7), .ref (m + 8), .ref (m + 9), .int (nI A.mk), .int (nI A.ps), .ref (m + 10), .ref (m + 11), .ref (m + 12), .long (iL (ab_best (ab_w A q) ws 0).1), .long (iL (ab_best (ab_w A q) ws 1).1), .int (nI ((ab_best (ab_w A q) ws 0).2)), .int (nI ((ab_best (ab_w A q) ws 1).2)), .int (nI ((ab_best (ab_w A q) ws 1).2)), .int kw])) := by rw [eσ5]; exact gw_up_eq _ _ _
          have h1 : σ5.2 (m + 1) = some ((gw_I (gw_z X) 240 (fun j => nI (A.ch j)))) := by rw [eσ5, gw_up_ne (by omega)]; exact h1
          have h2 : σ5.2 (m + 2) = some ((gw_I (gw_z X) 9 fm)) := by rw [eσ5, gw_up_ne (by omega)]; exact h2
          have h3 : σ5.2 (m + 3) = some ((gw_I (gw_z X) 162 fb)) := by rw [eσ5, gw_up_ne (by omega)]; exact h3
          have h4 : σ5.2 (m + 4) = some ((gw_I (gw_z X) 54 fl)) := by rw [eσ5, gw_up_ne (by omega)]; exact h4
          have h5 : σ5.2 (m + 5) = some ((gw_I (gw_z X) 9 f5)) := by rw [eσ5, gw_up_ne (by omega)]; exact h5
          have h6 : σ5.2 (m + 6) = some ((gw_I (gw_z X) 162 f6)) := by rw [eσ5, gw_up_ne (by omega)]; exact h6
          have h7 : σ5.2 (m + 7) = some ((gw_I (gw_z X) 54 f7)) := by rw [eσ5, gw_up_ne (by omega)]; exact h7
          have h8 : σ5.2 (m + 8) = some ((gw_J (gw_z X) 148 (fun j => iL (A.wt j)))) := by rw [eσ5, gw_up_ne (by omega)]; exact h8
          have h9 : σ5.2 (m + 9) = some ((gw_J (gw_z X) 148 (fun j => iL (A.tt j)))) := by rw [eσ5, gw_up_ne (by omega)]; exact h9
          have h10 : σ5.2 (m + 10) = some ((gw_J (gw_z X) 24 f10)) := by rw [eσ5, gw_up_ne (by omega)]; exact h10
          have h11 : σ5.2 (m + 11) = some ((gw_I (gw_z X) 6 f11)) := by rw [eσ5, gw_up_ne (by omega)]; exact h11
          have h12 : σ5.2 (m + 12) = some ((gw_J (gw_z X) 7 f12)) := by rw [eσ5, gw_up_ne (by omega)]; exact h12
          have fr : gw_fr σ σ5 m (m + 13) := gw_fr_tr fr (show gw_fr _ σ5 m (m + 13) by rw [eσ5]; exact gw_fr_up _ _ _ (by omega) (by omega))
          refine gw_aload_n hX nd_Mo_decode_56 rfl 1 rfl ?_
          refine gw_aload_n hX nd_Mo_decode_57 rfl 1 rfl ?_
          refine gw_get hX kf_Mo_13 nd_Mo_decode_58 h0 rfl ?_
          refine gw_iload hX nd_Mo_decode_61 0 rfl ?_
          refine gw_iald hX nd_Mo_decode_63 h2 j rfl (by omega) (by decide) ?_
          refine gw_topi (y := nI ws.length) hmb.1 ?_
          refine gw_put hX kf_Mo_154 nd_Mo_decode_64 h0 rfl rfl (Nat.le_of_ble_eq_true rfl) (e' := .inr (1, [.int (nI 0), .int (nI A.len), .ref (m + 1), .int (nI A.ss.length), .ref (m + 2), .ref (m + 3), .ref (m + 4), .int rs, .ref (m + 5), .ref (m + 6), .ref (m + 7), .ref (m + 8), .ref (m + 9), .int (nI A.mk), .int (nI A.ps), .ref (m + 10), .ref (m + 11), .ref (m + 12), .long (iL (ab_best (ab_w A q) ws 0).1), .long (iL (ab_best (ab_w A q) ws 1).1), .int (nI ((ab_best (ab_w A q) ws 0).2)), .int (nI ((ab_best (ab_w A q) ws 1).2)), .int (nI ((ab_best (ab_w A q) ws 1).2)), .int (nI ws.length)])) rfl ?_
          obtain ⟨σ6, eσ6⟩ : ∃ hp_, hp_ = gw_up σ5 m (.inr (1, [.int (nI 0), .int (nI A.len), .ref (m + 1), .int (nI A.ss.length), .ref (m + 2), .ref (m + 3), .ref (m + 4), .int rs, .ref (m + 5), .ref (m + 6), .ref (m + 7), .ref (m + 8), .ref (m + 9), .int (nI A.mk), .int (nI A.ps), .ref (m + 10), .ref (m + 11), .ref (m + 12), .long (iL (ab_best (ab_w A q) ws 0).1), .long (iL (ab_best (ab_w A q) ws 1).1), .int (nI ((ab_best (ab_w A q) ws 0).2)), .int (nI ((ab_best (ab_w A q) ws 1).2)), .int (nI ((ab_best (ab_w A q) ws 1).2)), .int (nI ws.length)])) := ⟨_, rfl⟩
          refine gw_heap eσ6.symm ?_
          have h0 : σ6.2 m = some (.inr (1, [.int (nI 0), .int (nI A.len), .ref (m + 1), .int (nI A.ss.length), .ref (m + 2), .ref (m + 3), .ref (m + 4), .int rs, .ref (m + 5), .ref (m + 6), .ref (m + 7), .ref (m + 8), .ref (m + 9), .int (nI A.mk), .int (nI A.ps), .ref (m + 10), .ref (m + 11), .ref (m + 12), .long (iL (ab_best (ab_w A q) ws 0).1), .long (iL (ab_best (ab_w A q) ws 1).1), .int (nI ((ab_best (ab_w A q) ws 0).2)), .int (nI ((ab_best (ab_w A q) ws 1).2)), .int (nI ((ab_best (ab_w A q) ws 1).2)), .int (nI ws.length)])) := by rw [eσ6]; exact gw_up_eq _ _ _
          have h1 : σ6.2 (m + 1) = some ((gw_I (gw_z X) 240 (fun j => nI (A.ch j)))) := by rw [eσ6, gw_up_ne (by omega)]; exact h1
          have h2 : σ6.2 (m + 2) = some ((gw_I (gw_z X) 9 fm)) := by rw [eσ6, gw_up_ne (by omega)]; exact h2
          have h3 : σ6.2 (m + 3) = some ((gw_I (gw_z X) 162 fb)) := by rw [eσ6, gw_up_ne (by omega)]; exact h3
          have h4 : σ6.2 (m + 4) = some ((gw_I (gw_z X) 54 fl)) := by rw [eσ6, gw_up_ne (by omega)]; exact h4
          have h5 : σ6.2 (m + 5) = some ((gw_I (gw_z X) 9 f5)) := by rw [eσ6, gw_up_ne (by omega)]; exact h5
          have h6 : σ6.2 (m + 6) = some ((gw_I (gw_z X) 162 f6)) := by rw [eσ6, gw_up_ne (by omega)]; exact h6
          have h7 : σ6.2 (m + 7) = some ((gw_I (gw_z X) 54 f7)) := by rw [eσ6, gw_up_ne (by omega)]; exact h7
          have h8 : σ6.2 (m + 8) = some ((gw_J (gw_z X) 148 (fun j => iL (A.wt j)))) := by rw [eσ6, gw_up_ne (by omega)]; exact h8
          have h9 : σ6.2 (m + 9) = some ((gw_J (gw_z X) 148 (fun j => iL (A.tt j)))) := by rw [eσ6, gw_up_ne (by omega)]; exact h9
          have h10 : σ6.2 (m + 10) = some ((gw_J (gw_z X) 24 f10)) := by rw [eσ6, gw_up_ne (by omega)]; exact h10
          have h11 : σ6.2 (m + 11) = some ((gw_I (gw_z X) 6 f11)) := by rw [eσ6, gw_up_ne (by omega)]; exact h11
          have h12 : σ6.2 (m + 12) = some ((gw_J (gw_z X) 7 f12)) := by rw [eσ6, gw_up_ne (by omega)]; exact h12
          have fr : gw_fr σ σ6 m (m + 13) := gw_fr_tr fr (show gw_fr _ σ6 m (m + 13) by rw [eσ6]; exact gw_fr_up _ _ _ (by omega) (by omega))
          refine gw_iload_n hX nd_Mo_decode_67 rfl 4 rfl ?_
          refine gw_if_eq (tgt := 78) hX nd_Mo_decode_68 rfl (fun hb => ?_) (fun hb => ?_)
          · have hb : b = 0 := (nI_eq (a := b) (b := 0) (by omega) (by omega)).mp hb
            exfalso; omega
          · have hb : ¬ b = 0 := fun h => hb ((nI_eq (a := b) (b := 0) (by omega) (by omega)).mpr h)
            refine gw_aload_n hX nd_Mo_decode_71 rfl 1 rfl ?_
            refine gw_get hX kf_Mo_130 nd_Mo_decode_72 h0 rfl ?_
            refine gw_goto (tgt := 82) hX nd_Mo_decode_75 rfl ?_
            exact gw_lret hX hQ hr nd_Mo_decode_82 (by decide) (by decide) ⟨Or.inl ⟨_, ab_kp A ws.length (ab_best (ab_w A q) ws 1).2, by unfold ab_dec; rw [hws, hbq]; rfl, rfl, ⟨_, _, _, _, _, _, _, _, _, _, ⟨h0, h1, h2, h3, h4, ⟨_, h5⟩, ⟨_, h6⟩, ⟨_, h7⟩, h8, h9, ⟨_, h10⟩, ⟨_, h11⟩, ⟨_, h12, hz12⟩⟩, mw_ok_kp hO hws0⟩⟩, (fun b hb9 => fr.2 b (by omega))⟩
      · have hb : ¬ 0 ≤ 0 := fun h => hb ((nI_leI (a := 0) (b := 0) (by omega) (by omega)).mpr h)
        exfalso; omega
    · have hb : ¬ 0 ≤ j := fun h => hb ((nI_leI (a := 0) (b := j) (by omega) (by omega)).mpr h)
      exfalso; omega
  · show gw_W X σ 0 0 5 [(0, .ref m), (1, .int x), (2, .int (nI q)), (3, .int (nI b))] [.int ((-1))]
    refine gw_istore hX nd_Mo_decode_5 (by decide) (L' := [(4, .int ((-1))), (0, .ref m), (1, .int x), (2, .int (nI q)), (3, .int (nI b))]) rfl ?_
    refine gw_aload_n hX nd_Mo_decode_7 rfl 1 rfl ?_
    refine gw_iload hX nd_Mo_decode_8 0 rfl ?_
    refine gw_if_ge (tgt := 17) hX nd_Mo_decode_10 rfl (fun hb => ?_) (fun hb => ?_)
    · skip
      exact absurd hb (by decide)
    · skip
      refine gw_iconst (v := nI 1) hX nd_Mo_decode_13 rfl ?_
      refine gw_goto (tgt := 18) hX nd_Mo_decode_14 rfl ?_
      refine gw_put hX kf_Mo_51 nd_Mo_decode_18 h0 rfl rfl (Nat.le_of_ble_eq_true rfl) (e' := .inr (1, [.int (nI 1), .int (nI A.len), .ref (m + 1), .int (nI A.ss.length), .ref (m + 2), .ref (m + 3), .ref (m + 4), .int rs, .ref (m + 5), .ref (m + 6), .ref (m + 7), .ref (m + 8), .ref (m + 9), .int (nI A.mk), .int (nI A.ps), .ref (m + 10), .ref (m + 11), .ref (m + 12), .long bs, .long s2, .int be, .int se, .int kp, .int kw])) rfl ?_
      obtain ⟨σ7, eσ7⟩ : ∃ hp_, hp_ = gw_up σ m (.inr (1, [.int (nI 1), .int (nI A.len), .ref (m + 1), .int (nI A.ss.length), .ref (m + 2), .ref (m + 3), .ref (m + 4), .int rs, .ref (m + 5), .ref (m + 6), .ref (m + 7), .ref (m + 8), .ref (m + 9), .int (nI A.mk), .int (nI A.ps), .ref (m + 10), .ref (m + 11), .ref (m + 12), .long bs, .long s2, .int be, .int se, .int kp, .int kw])) := ⟨_, rfl⟩
      refine gw_heap eσ7.symm ?_
      have h0 : σ7.2 m = some (.inr (1, [.int (nI 1), .int (nI A.len), .ref (m + 1), .int (nI A.ss.length), .ref (m + 2), .ref (m + 3), .ref (m + 4), .int rs, .ref (m + 5), .ref (m + 6), .ref (m + 7), .ref (m + 8), .ref (m + 9), .int (nI A.mk), .int (nI A.ps), .ref (m + 10), .ref (m + 11), .ref (m + 12), .long bs, .long s2, .int be, .int se, .int kp, .int kw])) := by rw [eσ7]; exact gw_up_eq _ _ _
      have h1 : σ7.2 (m + 1) = some ((gw_I (gw_z X) 240 (fun j => nI (A.ch j)))) := by rw [eσ7, gw_up_ne (by omega)]; exact h1
      have h2 : σ7.2 (m + 2) = some ((gw_I (gw_z X) 9 fm)) := by rw [eσ7, gw_up_ne (by omega)]; exact h2
      have h3 : σ7.2 (m + 3) = some ((gw_I (gw_z X) 162 fb)) := by rw [eσ7, gw_up_ne (by omega)]; exact h3
      have h4 : σ7.2 (m + 4) = some ((gw_I (gw_z X) 54 fl)) := by rw [eσ7, gw_up_ne (by omega)]; exact h4
      have h5 : σ7.2 (m + 5) = some ((gw_I (gw_z X) 9 f5)) := by rw [eσ7, gw_up_ne (by omega)]; exact h5
      have h6 : σ7.2 (m + 6) = some ((gw_I (gw_z X) 162 f6)) := by rw [eσ7, gw_up_ne (by omega)]; exact h6
      have h7 : σ7.2 (m + 7) = some ((gw_I (gw_z X) 54 f7)) := by rw [eσ7, gw_up_ne (by omega)]; exact h7
      have h8 : σ7.2 (m + 8) = some ((gw_J (gw_z X) 148 (fun j => iL (A.wt j)))) := by rw [eσ7, gw_up_ne (by omega)]; exact h8
      have h9 : σ7.2 (m + 9) = some ((gw_J (gw_z X) 148 (fun j => iL (A.tt j)))) := by rw [eσ7, gw_up_ne (by omega)]; exact h9
      have h10 : σ7.2 (m + 10) = some ((gw_J (gw_z X) 24 f10)) := by rw [eσ7, gw_up_ne (by omega)]; exact h10
      have h11 : σ7.2 (m + 11) = some ((gw_I (gw_z X) 6 f11)) := by rw [eσ7, gw_up_ne (by omega)]; exact h11
      have h12 : σ7.2 (m + 12) = some ((gw_J (gw_z X) 7 f12)) := by rw [eσ7, gw_up_ne (by omega)]; exact h12
      have fr : gw_fr σ σ7 m (m + 13) := gw_fr_tr fr (show gw_fr _ σ7 m (m + 13) by rw [eσ7]; exact gw_fr_up _ _ _ (by omega) (by omega))
      refine gw_aload_n hX nd_Mo_decode_21 rfl 1 rfl ?_
      refine gw_get hX kf_Mo_51 nd_Mo_decode_22 h0 rfl ?_
      refine gw_if_le (tgt := 30) hX nd_Mo_decode_25 rfl (fun hb => ?_) (fun hb => ?_)
      · have hb : 1 ≤ 0 := (nI_leI (a := 1) (b := 0) (by omega) (by omega)).mp hb
        exfalso; omega
      · have hb : ¬ 1 ≤ 0 := fun h => hb ((nI_leI (a := 1) (b := 0) (by omega) (by omega)).mpr h)
        refine gw_lconst (v := 0) hX nd_Mo_decode_28 rfl ?_
        exact gw_lret hX hQ hr nd_Mo_decode_29 (by decide) (by decide) ⟨Or.inr ⟨by unfold ab_dec; rw [hno]; rfl, rfl, ⟨_, _, _, _, _, _, _, _, _, _, ⟨h0, h1, h2, h3, h4, ⟨_, h5⟩, ⟨_, h6⟩, ⟨_, h7⟩, h8, h9, ⟨_, h10⟩, ⟨_, h11⟩, ⟨_, h12, hz12⟩⟩, hO⟩⟩, (fun b hb9 => fr.2 b (by omega))⟩
theorem er_step {ws : List px_W} (ho : se_ok ws) (hl : ws.length ≤ 6) {c w : Nat} (hw : w < ws.length) : df_n (nI c) (nI (se_c ws)) (w + 1) = df_n (nI c) (nI (se_c ws)) w + (if lb_at (nI c) w = gr_g ws w then 0 else 1) := by
  have h1 : lb_at (nI (se_c ws)) w = gr_g ws w := by
    rw [se_lab ho hl hw]
    unfold gr_g
    rw [List.getElem?_eq_getElem hw]
    rfl
  rw [df_n, h1]
  split <;> omega
set_option maxRecDepth 100000 in
set_option maxHeartbeats 4000000 in
theorem lp_Mo_err1 {X : gw_C} (m : Nat) (A : ab_A) (hA : ab_ok A) {rs kp kw : Int32} {fm fb fl : Nat → Int32} (hO : mw_ok A kp kw fm fb fl) (q : Nat) (hq : q < 2) (hB : dc_B (ab_w A q)) {σ0 : gw_S} (k : Nat) (hk : k < A.ss.length) (ws : List px_W) (hws : ws = A.ss[k]) {bs s2 : Int64} {se : Int32} {σ : gw_S} (hM : mw_at σ (gw_z X) m A (nI 0) rs (nI (ab_best (ab_w A q) ws 0).2) se kp kw bs s2 fm fb fl) (fr : gw_fr σ0 σ m (m + 13)) (k9 : (∀ (be se : Int32) (bs s2 : Int64) (σ : gw_S), mw_at σ (gw_z X) m A (nI 0) rs be se kp kw bs s2 fm fb fl → gw_fr σ0 σ m (m + 13) → gw_W X σ 0 0 9 [(0, .ref m), (1, .int (nI q)), (2, .int (nI (ab_err A q (k + 1)))), (3, .int (nI (k + 1)))] [])) (hX : gw_ok X nc_Mo_errors "LabelLearnerModel" (5, 4, 99, 0, 0)) (hQ : X.2.2.2.2 = gw_end X (fun v σ' => v = some (.int (nI (ab_err A q A.ss.length))) ∧ mw σ' (gw_z X) m A 0 ∧ (∀ b, b < m ∨ m + 13 ≤ b → σ'.2 b = σ0.2 b)) 0 0) (hr : X.2.2.1.1.sig.returnType = (some .int)) : ∀ (u : Nat) (w d : Nat), d = ab_err A q k + df_n (nI (ab_best (ab_w A q) ws 0).2) (nI (se_c ws)) w → w + u = ws.length → gw_W X σ 0 0 26 [(0, .ref m), (1, .int (nI q)), (2, .int (nI d)), (3, .int (nI k)), (4, .int (nI w))] [] := by
  intro u
  induction u using Nat.strongRecOn with
  | ind u ih =>
    intro w d
    intro hd hw
    have hj := List.getElem?_eq_getElem hk
    obtain ⟨hmb, hml⟩ := hO.1 k _ hj
    obtain ⟨⟨hso, hsl6⟩, hne⟩ := hA.2.2.2.1 _ (List.getElem_mem hk)
    rw [← hws] at hmb hml hso hsl6 hne
    have hl8 := hA.2.2.1
    obtain ⟨h0, h1, h2, h3, h4, ⟨f5, h5⟩, ⟨f6, h6⟩, ⟨f7, h7⟩, h8, h9, ⟨f10, h10⟩, ⟨f11, h11⟩, ⟨f12, h12, hz12⟩⟩ := id hM
    refine gw_iload hX nd_Mo_errors_26 4 rfl ?_
    refine gw_aload_n hX nd_Mo_errors_28 rfl 0 rfl ?_
    refine gw_get hX kf_Mo_13 nd_Mo_errors_29 h0 rfl ?_
    refine gw_iload_n hX nd_Mo_errors_32 rfl 3 rfl ?_
    refine gw_iald hX nd_Mo_errors_33 h2 k rfl (by omega) (by decide) ?_
    refine gw_topi (y := nI ws.length) hmb.1 ?_
    refine gw_icmp_ge (tgt := 77) hX nd_Mo_errors_34 rfl (fun hb => ?_) (fun hb => ?_)
    · have hb : ws.length ≤ w := (nI_leI (a := ws.length) (b := w) (by omega) (by omega)).mp hb
      refine gw_iinc hX nd_Mo_errors_77 3 rfl (v := nI (k + 1)) (show nI k + nI 1 = nI (k + 1) from nI_add _ _) (by decide) (L' := [(3, .int (nI (k + 1))), (0, .ref m), (1, .int (nI q)), (2, .int (nI d)), (4, .int (nI w))]) rfl ?_
      refine gw_goto (tgt := 9) hX nd_Mo_errors_80 rfl ?_
      refine gw_cut (ks := [1, 2, 3, 0]) (L' := [(0, .ref m), (1, .int (nI q)), (2, .int (nI d)), (3, .int (nI (k + 1)))]) rfl ?_
      rw [show d = ab_err A q (k + 1) from by rw [ab_err_s hk, hd, show w = ws.length by omega, ← hws]; rfl]
      exact k9 _ _ _ _ _ hM fr
    · have hb : ¬ ws.length ≤ w := fun h => hb ((nI_leI (a := ws.length) (b := w) (by omega) (by omega)).mpr h)
      refine gw_aload_n hX nd_Mo_errors_37 rfl 0 rfl ?_
      refine gw_get hX kf_Mo_124 nd_Mo_errors_38 h0 rfl ?_
      refine gw_iconst (v := nI 2) hX nd_Mo_errors_41 rfl ?_
      refine gw_iload hX nd_Mo_errors_42 4 rfl ?_
      refine gw_imul hX nd_Mo_errors_44 ?_
      refine gw_topi (y := nI (2 * w)) (pk_mul _ _) ?_
      refine gw_ishr hX nd_Mo_errors_45 ?_
      refine gw_iconst (v := nI 3) hX nd_Mo_errors_46 rfl ?_
      refine gw_iand hX nd_Mo_errors_47 ?_
      refine gw_topi (y := nI (lb_at (nI (ab_best (ab_w A q) ws 0).2) w)) (lb_s _ (by omega)) ?_
      refine gw_aload_n hX nd_Mo_errors_48 rfl 0 rfl ?_
      refine gw_get hX kf_Mo_19 nd_Mo_errors_49 h0 rfl ?_
      refine gw_bipush (v := nI 6) hX nd_Mo_errors_52 rfl ?_
      refine gw_iload_n hX nd_Mo_errors_54 rfl 3 rfl ?_
      refine gw_imul hX nd_Mo_errors_55 ?_
      refine gw_topi (y := nI (6 * k)) (pk_mul _ _) ?_
      refine gw_iload hX nd_Mo_errors_56 4 rfl ?_
      refine gw_iadd hX nd_Mo_errors_58 ?_
      refine gw_topi (y := nI (6 * k + w)) (nI_add _ _) ?_
      refine gw_iald hX nd_Mo_errors_59 h4 (6 * k + w) rfl (by omega) (by decide) ?_
      refine gw_topi (y := nI (gr_g ws w)) (gr_at hml (by omega)) ?_
      have hg4 := gr_lt hso w
      have hl4 := lb_lt (nI (ab_best (ab_w A q) ws 0).2) w
      refine gw_icmp_eq (tgt := 69) hX nd_Mo_errors_60 rfl (fun hb => ?_) (fun hb => ?_)
      · have hb : lb_at (nI (ab_best (ab_w A q) ws 0).2) w = gr_g ws w := (nI_eq (a := lb_at (nI (ab_best (ab_w A q) ws 0).2) w) (b := gr_g ws w) (by omega) (by omega)).mp hb
        refine gw_iload_n hX nd_Mo_errors_69 rfl 2 rfl ?_
        refine gw_istore_n hX nd_Mo_errors_70 rfl (by decide) (L' := [(2, .int (nI d)), (0, .ref m), (1, .int (nI q)), (3, .int (nI k)), (4, .int (nI w))]) rfl ?_
        refine gw_iinc hX nd_Mo_errors_71 4 rfl (v := nI (w + 1)) (show nI w + nI 1 = nI (w + 1) from nI_add _ _) (by decide) (L' := [(4, .int (nI (w + 1))), (2, .int (nI d)), (0, .ref m), (1, .int (nI q)), (3, .int (nI k))]) rfl ?_
        refine gw_goto (tgt := 26) hX nd_Mo_errors_74 rfl ?_
        refine gw_cut (ks := [2, 3, 1, 4, 0]) (L' := [(0, .ref m), (1, .int (nI q)), (2, .int (nI d)), (3, .int (nI k)), (4, .int (nI (w + 1)))]) rfl ?_
        exact ih (u - 1) (by omega) (w + 1) _ (by rw [er_step hso hsl6 (by omega), if_pos hb, hd]; omega) (by omega)
      · have hb : ¬ lb_at (nI (ab_best (ab_w A q) ws 0).2) w = gr_g ws w := fun h => hb ((nI_eq (a := lb_at (nI (ab_best (ab_w A q) ws 0).2) w) (b := gr_g ws w) (by omega) (by omega)).mpr h)
        refine gw_iload_n hX nd_Mo_errors_63 rfl 2 rfl ?_
        refine gw_iconst (v := nI 1) hX nd_Mo_errors_64 rfl ?_
        refine gw_iadd hX nd_Mo_errors_65 ?_
        refine gw_topi (y := nI (d + 1)) (nI_add _ _) ?_
        refine gw_goto (tgt := 70) hX nd_Mo_errors_66 rfl ?_
        refine gw_istore_n hX nd_Mo_errors_70 rfl (by decide) (L' := [(2, .int (nI (d + 1))), (0, .ref m), (1, .int (nI q)), (3, .int (nI k)), (4, .int (nI w))]) rfl ?_
        refine gw_iinc hX nd_Mo_errors_71 4 rfl (v := nI (w + 1)) (show nI w + nI 1 = nI (w + 1) from nI_add _ _) (by decide) (L' := [(4, .int (nI (w + 1))), (2, .int (nI (d + 1))), (0, .ref m), (1, .int (nI q)), (3, .int (nI k))]) rfl ?_
        refine gw_goto (tgt := 26) hX nd_Mo_errors_74 rfl ?_
        refine gw_cut (ks := [2, 3, 1, 4, 0]) (L' := [(0, .ref m), (1, .int (nI q)), (2, .int (nI (d + 1))), (3, .int (nI k)), (4, .int (nI (w + 1)))]) rfl ?_
        exact ih (u - 1) (by omega) (w + 1) _ (by rw [er_step hso hsl6 (by omega), if_neg hb, hd]; omega) (by omega)
set_option maxRecDepth 100000 in
set_option maxHeartbeats 4000000 in
theorem lp_Mo_errors {X : gw_C} (m : Nat) (A : ab_A) (hA : ab_ok A) {rs kp kw : Int32} {fm fb fl : Nat → Int32} (hO : mw_ok A kp kw fm fb fl) (q : Nat) (hq : q < 2) (hB : dc_B (ab_w A q)) {σ0 : gw_S} (hX : gw_ok X nc_Mo_errors "LabelLearnerModel" (5, 4, 99, 0, 0)) (hQ : X.2.2.2.2 = gw_end X (fun v σ' => v = some (.int (nI (ab_err A q A.ss.length))) ∧ mw σ' (gw_z X) m A 0 ∧ (∀ b, b < m ∨ m + 13 ≤ b → σ'.2 b = σ0.2 b)) 0 0) (hr : X.2.2.1.1.sig.returnType = (some .int)) : ∀ (u : Nat) (k : Nat) (be se : Int32) (bs s2 : Int64) (σ : gw_S), k + u = A.ss.length → mw_at σ (gw_z X) m A (nI 0) rs be se kp kw bs s2 fm fb fl → gw_fr σ0 σ m (m + 13) → gw_W X σ 0 0 9 [(0, .ref m), (1, .int (nI q)), (2, .int (nI (ab_err A q k))), (3, .int (nI k))] [] := by
  intro u
  induction u using Nat.strongRecOn with
  | ind u ih =>
    intro k be se bs s2 σ
    intro hk hM fr
    have hl8 := hA.2.2.1
    obtain ⟨h0, h1, h2, h3, h4, ⟨f5, h5⟩, ⟨f6, h6⟩, ⟨f7, h7⟩, h8, h9, ⟨f10, h10⟩, ⟨f11, h11⟩, ⟨f12, h12, hz12⟩⟩ := id hM
    refine gw_iload_n hX nd_Mo_errors_9 rfl 3 rfl ?_
    refine gw_aload_n hX nd_Mo_errors_10 rfl 0 rfl ?_
    refine gw_get hX kf_Mo_89 nd_Mo_errors_11 h0 rfl ?_
    refine gw_icmp_ge (tgt := 83) hX nd_Mo_errors_14 rfl (fun hb => ?_) (fun hb => ?_)
    · have hb : A.ss.length ≤ k := (nI_leI (a := A.ss.length) (b := k) (by omega) (by omega)).mp hb
      refine gw_iload_n hX nd_Mo_errors_83 rfl 2 rfl ?_
      exact gw_iret hX hQ hr nd_Mo_errors_84 (by decide) (by decide) ⟨by rw [show k = A.ss.length by omega], ⟨_, _, _, _, _, _, _, _, _, _, ⟨h0, h1, h2, h3, h4, ⟨_, h5⟩, ⟨_, h6⟩, ⟨_, h7⟩, h8, h9, ⟨_, h10⟩, ⟨_, h11⟩, ⟨_, h12, hz12⟩⟩, hO⟩, (fun b hb9 => fr.2 b (by omega))⟩
    · have hb : ¬ A.ss.length ≤ k := fun h => hb ((nI_leI (a := A.ss.length) (b := k) (by omega) (by omega)).mpr h)
      have hk8 : k < A.ss.length := by omega
      have hj := List.getElem?_eq_getElem hk8
      obtain ⟨hmb, hml⟩ := hO.1 k _ hj
      obtain ⟨⟨hso, hsl6⟩, hne⟩ := hA.2.2.2.1 _ (List.getElem_mem hk8)
      refine gw_aload_n hX nd_Mo_errors_17 rfl 0 rfl ?_
      refine gw_iload_n hX nd_Mo_errors_18 rfl 3 rfl ?_
      refine gw_iload_n hX nd_Mo_errors_19 rfl 1 rfl ?_
      refine gw_callV (rest := []) hX ks_Mo_150 (ct_Mo_searchBy _ _ _ σ m A hA hM hO k (by omega) A.ss[k] hso hsl6 hne hmb q hq hB) h0 rfl rfl (Nat.le_of_ble_eq_true rfl) nd_Mo_errors_20 (by decide) ?_
      rintro _ σ1 ⟨rfl, hM2, hf9⟩
      have fr := gw_fr_tr (lo := m) (hi := m + 13) fr (gw_fr_f2 hf9)
      show gw_W X σ1 0 0 23 [(0, .ref m), (1, .int (nI q)), (2, .int (nI (ab_err A q k))), (3, .int (nI k))] []
      refine gw_iconst (v := nI 0) hX nd_Mo_errors_23 rfl ?_
      refine gw_istore hX nd_Mo_errors_24 (by decide) (L' := [(4, .int (nI 0)), (0, .ref m), (1, .int (nI q)), (2, .int (nI (ab_err A q k))), (3, .int (nI k))]) rfl ?_
      refine gw_cut (ks := [1, 2, 3, 4, 0]) (L' := [(0, .ref m), (1, .int (nI q)), (2, .int (nI (ab_err A q k))), (3, .int (nI k)), (4, .int (nI 0))]) rfl ?_
      exact lp_Mo_err1 m A hA hO q hq hB k hk8 A.ss[k] rfl hM2 fr (fun be se bs s2 σ hM fr => ih (u - 1) (by omega) (k + 1) be se bs s2 σ (by omega) hM fr) hX hQ hr A.ss[k].length 0 _ (by show _ = ab_err A q k + 0; rfl) (by omega)
set_option maxRecDepth 100000 in
set_option maxHeartbeats 4000000 in
theorem ct_Mo_errors (l : Launch) (Z : gw_Z) (b0 : Nat) (σ : gw_S) (m : Nat) (A : ab_A) (hA : ab_ok A) {th rs be se kp kw : Int32} {bs s2 : Int64} {fm fb fl : Nat → Int32} (hM : mw_at σ Z m A th rs be se kp kw bs s2 fm fb fl) (hO : mw_ok A kp kw fm fb fl) (q : Nat) (hq : q < 2) (hB : dc_B (ab_w A q)) : gw_M l ny_Mo_errors nc_Mo_errors (5, 4, 99, 0, 0) (some .int) Z b0 σ [.ref m, .int (nI q)] (fun v σ' => v = some (.int (nI (ab_err A q A.ss.length))) ∧ mw σ' Z m A 0 ∧ (∀ b, b < m ∨ m + 13 ≤ b → σ'.2 b = σ.2 b)) := by
  refine gw_M_of rfl (Nat.le_of_ble_eq_true rfl) ?_
  intro X hX hl hz hb0 hr hnm hQ
  subst hz hb0 hl
  have hX : gw_ok X nc_Mo_errors "LabelLearnerModel" (5, 4, 99, 0, 0) := hX
  show gw_W X σ 0 0 0 [(0, .ref m), (1, .int (nI q))] []
  have fr : gw_fr σ σ m (m + 13) := gw_fr_rf _ _ _
  obtain ⟨h0, h1, h2, h3, h4, ⟨f5, h5⟩, ⟨f6, h6⟩, ⟨f7, h7⟩, h8, h9, ⟨f10, h10⟩, ⟨f11, h11⟩, ⟨f12, h12, hz12⟩⟩ := id hM
  have hl8 := hA.2.2.1
  have hsp6 := hA.2.2.2.2.1.2
  refine gw_aload_n hX nd_Mo_errors_0 rfl 0 rfl ?_
  refine gw_iconst (v := nI 0) hX nd_Mo_errors_1 rfl ?_
  refine gw_put hX kf_Mo_51 nd_Mo_errors_2 h0 rfl rfl (Nat.le_of_ble_eq_true rfl) (e' := .inr (1, [.int (nI 0), .int (nI A.len), .ref (m + 1), .int (nI A.ss.length), .ref (m + 2), .ref (m + 3), .ref (m + 4), .int rs, .ref (m + 5), .ref (m + 6), .ref (m + 7), .ref (m + 8), .ref (m + 9), .int (nI A.mk), .int (nI A.ps), .ref (m + 10), .ref (m + 11), .ref (m + 12), .long bs, .long s2, .int be, .int se, .int kp, .int kw])) rfl ?_
  obtain ⟨σ1, eσ1⟩ : ∃ hp_, hp_ = gw_up σ m (.inr (1, [.int (nI 0), .int (nI A.len), .ref (m + 1), .int (nI A.ss.length), .ref (m + 2), .ref (m + 3), .ref (m + 4), .int rs, .ref (m + 5), .ref (m + 6), .ref (m + 7), .ref (m + 8), .ref (m + 9), .int (nI A.mk), .int (nI A.ps), .ref (m + 10), .ref (m + 11), .ref (m + 12), .long bs, .long s2, .int be, .int se, .int kp, .int kw])) := ⟨_, rfl⟩
  refine gw_heap eσ1.symm ?_
  have h0 : σ1.2 m = some (.inr (1, [.int (nI 0), .int (nI A.len), .ref (m + 1), .int (nI A.ss.length), .ref (m + 2), .ref (m + 3), .ref (m + 4), .int rs, .ref (m + 5), .ref (m + 6), .ref (m + 7), .ref (m + 8), .ref (m + 9), .int (nI A.mk), .int (nI A.ps), .ref (m + 10), .ref (m + 11), .ref (m + 12), .long bs, .long s2, .int be, .int se, .int kp, .int kw])) := by rw [eσ1]; exact gw_up_eq _ _ _
  have h1 : σ1.2 (m + 1) = some ((gw_I (gw_z X) 240 (fun j => nI (A.ch j)))) := by rw [eσ1, gw_up_ne (by omega)]; exact h1
  have h2 : σ1.2 (m + 2) = some ((gw_I (gw_z X) 9 fm)) := by rw [eσ1, gw_up_ne (by omega)]; exact h2
  have h3 : σ1.2 (m + 3) = some ((gw_I (gw_z X) 162 fb)) := by rw [eσ1, gw_up_ne (by omega)]; exact h3
  have h4 : σ1.2 (m + 4) = some ((gw_I (gw_z X) 54 fl)) := by rw [eσ1, gw_up_ne (by omega)]; exact h4
  have h5 : σ1.2 (m + 5) = some ((gw_I (gw_z X) 9 f5)) := by rw [eσ1, gw_up_ne (by omega)]; exact h5
  have h6 : σ1.2 (m + 6) = some ((gw_I (gw_z X) 162 f6)) := by rw [eσ1, gw_up_ne (by omega)]; exact h6
  have h7 : σ1.2 (m + 7) = some ((gw_I (gw_z X) 54 f7)) := by rw [eσ1, gw_up_ne (by omega)]; exact h7
  have h8 : σ1.2 (m + 8) = some ((gw_J (gw_z X) 148 (fun j => iL (A.wt j)))) := by rw [eσ1, gw_up_ne (by omega)]; exact h8
  have h9 : σ1.2 (m + 9) = some ((gw_J (gw_z X) 148 (fun j => iL (A.tt j)))) := by rw [eσ1, gw_up_ne (by omega)]; exact h9
  have h10 : σ1.2 (m + 10) = some ((gw_J (gw_z X) 24 f10)) := by rw [eσ1, gw_up_ne (by omega)]; exact h10
  have h11 : σ1.2 (m + 11) = some ((gw_I (gw_z X) 6 f11)) := by rw [eσ1, gw_up_ne (by omega)]; exact h11
  have h12 : σ1.2 (m + 12) = some ((gw_J (gw_z X) 7 f12)) := by rw [eσ1, gw_up_ne (by omega)]; exact h12
  have fr : gw_fr σ σ1 m (m + 13) := gw_fr_tr fr (show gw_fr _ σ1 m (m + 13) by rw [eσ1]; exact gw_fr_up _ _ _ (by omega) (by omega))
  refine gw_iconst (v := nI 0) hX nd_Mo_errors_5 rfl ?_
  refine gw_istore_n hX nd_Mo_errors_6 rfl (by decide) (L' := [(2, .int (nI 0)), (0, .ref m), (1, .int (nI q))]) rfl ?_
  refine gw_iconst (v := nI 0) hX nd_Mo_errors_7 rfl ?_
  refine gw_istore_n hX nd_Mo_errors_8 rfl (by decide) (L' := [(3, .int (nI 0)), (2, .int (nI 0)), (0, .ref m), (1, .int (nI q))]) rfl ?_
  refine gw_cut (ks := [2, 3, 1, 0]) (L' := [(0, .ref m), (1, .int (nI q)), (2, .int (nI 0)), (3, .int (nI 0))]) rfl ?_
  exact lp_Mo_errors m A hA hO q hq hB hX hQ hr A.ss.length 0 be se bs s2 _ (by omega) ⟨h0, h1, h2, h3, h4, ⟨_, h5⟩, ⟨_, h6⟩, ⟨_, h7⟩, h8, h9, ⟨_, h10⟩, ⟨_, h11⟩, ⟨_, h12, hz12⟩⟩ fr
