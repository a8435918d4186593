set_option maxRecDepth 100000 in
set_option maxHeartbeats 4000000 in
theorem ct_LL_decode (l : Launch) (hl0 : l.stackTraces = false) (Z : gw_Z) (b0 : Nat) (σ : gw_S) (n c cd s sd : Nat) (A : ab_A) (hA : ab_ok A) (hC : cw_at σ Z n A c cd s sd) (x : Int32) (q b : Nat) (hq : q < 2) (hb2 : b < 2) (hB : dc_B (ab_w A q)) : gx_M l ny_LL_decode nc_LL_decode (7, 7, 121, 1, 6) (some .long) Z b0 σ [.ref n, .int x, .int (nI q), .int (nI b)] (fun v σ' => (∃ (z : Int) (A' : ab_A), ab_dec A x q b = some (z, A') ∧ v = some (.long (iL z)) ∧ cw_at σ' Z n A' c cd s sd) ∧ gw_f2 σ σ' n (n + 1) (n + 5) (n + 84)) (fun E σ' => E = gx_IO ∧ ab_dec A x q b = none ∧ σ' = (σ.1 + 1, σ.2)) := by
  refine gx_M_of rfl (Nat.le_of_ble_eq_true rfl) hl0 ?_
  intro X hX hl hz hb0 hr hnm hQ hE
  subst hz hb0 hl
  have hX : gw_ok X nc_LL_decode "LabelLearner" (7, 7, 121, 1, 6) := hX
  show gw_W X σ 0 0 0 [(0, .ref n), (1, .int x), (2, .int (nI q)), (3, .int (nI b))] []
  have fr : gw_f2 σ σ n (n + 1) (n + 5) (n + 80) := gw_f2_rf _ _ _ _ _
  obtain ⟨hsw, h0, ⟨kt, hkt, htx⟩, hde, hwe, hte, hrc, hrd, hsp, hsd⟩ := id hC
  obtain ⟨sw1, sw2⟩ := id hsw
  obtain ⟨c0, c1, c2, c3⟩ := id hrc
  obtain ⟨bsp, s0, s1, hbsp⟩ := id hsp
  have hl8 := hA.2.2.1
  have hsl := hA.2.2.2.2.1.2
  refine gw_aload_n hX nd_LL_decode_0 rfl 0 rfl ?_
  refine gw_iload_n hX nd_LL_decode_1 rfl 1 rfl ?_
  refine gx_callV (rest := []) hX hE.1 hE.2.2.2 ks_LL_95 (gw_in_t 406 (by decide +kernel) rfl) (ct_LL_sentenceNumbered _ hl0 _ _ _ n c cd s sd A hA hC x) h0 rfl rfl (Nat.le_of_ble_eq_true rfl) nd_LL_decode_2 (by decide) (fun E_ s_ hx_ => gx_out hX hE hQ (by decide) (by decide) ⟨hx_.1, by unfold ab_dec; rw [hx_.2.1]; rfl, hx_.2.2⟩) ?_
  rintro v_ s_ ⟨⟨ws, a, hws, rfl, hse, had⟩, hs_⟩
  have hs_ := hs_.symm
  subst hs_
  obtain ⟨bws, g0, g1, hbk⟩ := id hse
  obtain ⟨⟨hso, hsl6⟩, hne⟩ := ab_sent_ok hA hws
  have hws0 := List.length_pos_iff.mpr hne
  show gw_W X σ 1 6 5 [(0, .ref n), (1, .int x), (2, .int (nI q)), (3, .int (nI b))] [.ref a]
  have ha : n + 86 ≤ a ∧ a + 2 ≤ n + 124 := by rcases had with rfl | ⟨j, hj, rfl⟩ <;> omega
  refine gw_astore hX nd_LL_decode_5 (by decide) (L' := [(4, .ref a), (0, .ref n), (1, .int x), (2, .int (nI q)), (3, .int (nI b))]) rfl ?_
  refine gw_aload_n hX nd_LL_decode_7 rfl 1 rfl ?_
  refine gw_get hX kf_LL_19 nd_LL_decode_8 h0 rfl ?_
  refine gw_aload hX nd_LL_decode_11 0 rfl ?_
  refine gw_aload_n hX nd_LL_decode_13 rfl 1 rfl ?_
  refine gw_iload_n hX nd_LL_decode_14 rfl 3 rfl ?_
  refine gw_callV (rest := [.ref a, .ref (n + 3)]) hX ks_LL_133 (ct_LL_weightsOrTotals _ _ _ σ n c cd s sd A hA hC q hq) h0 rfl rfl (Nat.le_of_ble_eq_true rfl) nd_LL_decode_15 (by decide) ?_
  rintro v_ s_ ⟨hv_, hs_⟩
  have hs_ := hs_.symm
  subst hs_ hv_
  show gw_W X σ 1 6 18 [(4, .ref a), (0, .ref n), (1, .int x), (2, .int (nI q)), (3, .int (nI b))] [.ref (if q = 0 then n + 80 else n + 82), .ref a, .ref (n + 3)]
  obtain ⟨hw0, hw1⟩ := cw_w hC q
  have hE9 : dc_E σ (gw_z X) (n + 3) (if q = 0 then n + 80 else n + 82) a (ab_w A q) bws (nI (se_c ws)) ws.length := ⟨hde.1, hde.2.1, hw0, hw1, g0, g1, hde.2.2.1, hde.2.2.2⟩
  refine gw_callV (rest := []) hX ks_LL_141 (ct_De_rank _ _ _ σ (n + 3) (if q = 0 then n + 80 else n + 82) a (ab_w A q) bws (se_B ws) _ ws.length (se_B_ok hbk hso) hsl6 hB (by refine ⟨?_, ?_⟩ <;> (first | omega | (split <;> omega))) hws0 hE9) hde.1 rfl rfl (Nat.le_of_ble_eq_true rfl) nd_LL_decode_18 (by decide) ?_
  rintro _ σ1 ⟨rfl, hrk, hE_, hf⟩
  have h0 : σ1.2 n = some (.inr (0, [.ref (n + 1), .ref (n + 3), .ref (n + 80), .ref (n + 82), .ref c, .ref cd, .ref s, .ref sd, .int (nI A.mk), .int (nI A.ps), .int (nI A.kw), .int (nI A.kc)])) := (hf.2 n (by omega)).trans h0
  have c0 : σ1.2 c = some (.inr (2, [.ref (c + 1), .int (nI A.ss.length)])) := (hf.2 c (by omega)).trans c0
  have c1 : σ1.2 (c + 1) = some ((gw_Q3 (gw_z X) 8 (fun j => some (c + 2 + 2 * j)))) := (hf.2 (c + 1) (by omega)).trans c1
  have s0 : σ1.2 s = some (.inr (5, [.ref (s + 1), .int (nI (se_c A.sp)), .int (nI A.sp.length)])) := (hf.2 s (by omega)).trans s0
  have g0 : σ1.2 a = some (.inr (5, [.ref (a + 1), .int (nI (se_c ws)), .int (nI ws.length)])) := (hf.2 a (by omega)).trans g0
  have g1 : σ1.2 (a + 1) = some ((gw_I (gw_z X) 18 bws)) := (hf.2 (a + 1) (by omega)).trans g1
  have fr : gw_f2 σ σ1 n (n + 1) (n + 5) (n + 80) := gw_f2_r fr hf
  have hrk : rk_at σ1 (gw_z X) (n + 3 + 2) (ab_rk (ab_w A q) ws) := hrk
  obtain ⟨fs, fl, r0, r1, r2, hR⟩ := id hrk
  rw [ab_rk_len hne] at r0
  have hde : de_at σ1 (gw_z X) (n + 3) := ⟨hE_.1, hE_.2.1, hE_.2.2.2.2.2.2.1, hE_.2.2.2.2.2.2.2⟩
  show gw_W X σ1 1 6 21 [(4, .ref a), (0, .ref n), (1, .int x), (2, .int (nI q)), (3, .int (nI b))] [.ref (n + 3 + 2)]
  refine gw_astore hX nd_LL_decode_21 (by decide) (L' := [(5, .ref (n + 3 + 2)), (4, .ref a), (0, .ref n), (1, .int x), (2, .int (nI q)), (3, .int (nI b))]) rfl ?_
  refine gw_iload_n hX nd_LL_decode_23 rfl 5 rfl ?_
  refine gw_if_eq (tgt := 31) hX nd_LL_decode_24 rfl (fun hb => ?_) (fun hb => ?_)
  · have hb : b = 0 := (nI_eq (a := b) (b := 0) (by omega) (by omega)).mp hb
    refine gw_iconst (v := nI 0) hX nd_LL_decode_31 rfl ?_
    have hbq : b = 0 := hb
    refine gw_istore hX nd_LL_decode_32 (by decide) (L' := [(6, .int (nI 0)), (5, .ref (n + 3 + 2)), (4, .ref a), (0, .ref n), (1, .int x), (2, .int (nI q)), (3, .int (nI b))]) rfl ?_
    refine gw_aload_n hX nd_LL_decode_34 rfl 3 rfl ?_
    refine gw_aload hX nd_LL_decode_35 2 rfl ?_
    refine gw_get hX kf_LL_94 nd_LL_decode_37 g0 rfl ?_
    refine gw_put hX kf_LL_145 nd_LL_decode_40 h0 rfl rfl (Nat.le_of_ble_eq_true rfl) (e' := .inr (0, [.ref (n + 1), .ref (n + 3), .ref (n + 80), .ref (n + 82), .ref c, .ref cd, .ref s, .ref sd, .int (nI A.mk), .int (nI A.ps), .int (nI ws.length), .int (nI A.kc)])) rfl ?_
    obtain ⟨σ2, eσ2⟩ : ∃ hp_, hp_ = gw_up σ1 n (.inr (0, [.ref (n + 1), .ref (n + 3), .ref (n + 80), .ref (n + 82), .ref c, .ref cd, .ref s, .ref sd, .int (nI A.mk), .int (nI A.ps), .int (nI ws.length), .int (nI A.kc)])) := ⟨_, rfl⟩
    refine gw_heap eσ2.symm ?_
    have h0 : σ2.2 n = some (.inr (0, [.ref (n + 1), .ref (n + 3), .ref (n + 80), .ref (n + 82), .ref c, .ref cd, .ref s, .ref sd, .int (nI A.mk), .int (nI A.ps), .int (nI ws.length), .int (nI A.kc)])) := by rw [eσ2]; exact gw_up_eq _ _ _
    have c0 : σ2.2 c = some (.inr (2, [.ref (c + 1), .int (nI A.ss.length)])) := by rw [eσ2, gw_up_ne (by omega)]; exact c0
    have c1 : σ2.2 (c + 1) = some ((gw_Q3 (gw_z X) 8 (fun j => some (c + 2 + 2 * j)))) := by rw [eσ2, gw_up_ne (by omega)]; exact c1
    have s0 : σ2.2 s = some (.inr (5, [.ref (s + 1), .int (nI (se_c A.sp)), .int (nI A.sp.length)])) := by rw [eσ2, gw_up_ne (by omega)]; exact s0
    have g0 : σ2.2 a = some (.inr (5, [.ref (a + 1), .int (nI (se_c ws)), .int (nI ws.length)])) := by rw [eσ2, gw_up_ne (by omega)]; exact g0
    have g1 : σ2.2 (a + 1) = some ((gw_I (gw_z X) 18 bws)) := by rw [eσ2, gw_up_ne (by omega)]; exact g1
    have r0 : σ2.2 (n + 3 + 2) = some (.inr (4, [.ref (n + 3 + 2 + 1), .ref (n + 3 + 2 + 2), .int (nI 2)])) := by rw [eσ2, gw_up_ne (by omega)]; exact r0
    have r1 : σ2.2 (n + 3 + 2 + 1) = some ((gw_J (gw_z X) 2 fs)) := by rw [eσ2, gw_up_ne (by omega)]; exact r1
    have r2 : σ2.2 (n + 3 + 2 + 2) = some ((gw_I (gw_z X) 2 fl)) := by rw [eσ2, gw_up_ne (by omega)]; exact r2
    have fr : gw_f2 σ σ2 n (n + 1) (n + 5) (n + 80) := by first | exact gw_f2_l fr (show gw_fr _ σ2 n (n + 1) by rw [eσ2]; exact gw_fr_up _ _ _ (by omega) (by omega)) | exact gw_f2_r fr (show gw_fr _ σ2 (n + 5) (n + 80) by rw [eσ2]; exact gw_fr_up _ _ _ (by omega) (by omega))
    have f1 : gw_fr σ1 σ2 n (n + 1) := by rw [eσ2]; exact gw_fr_up _ _ _ (by omega) (by omega)
    refine gw_aload_n hX nd_LL_decode_43 rfl 3 rfl ?_
    refine gw_aload hX nd_LL_decode_44 1 rfl ?_
    refine gw_get hX kf_LL_148 nd_LL_decode_46 r0 rfl ?_
    refine gw_iload hX nd_LL_decode_49 0 rfl ?_
    refine gw_iald hX nd_LL_decode_51 r2 0 rfl (by omega) (by decide) ?_
    refine gw_topi (y := nI ((ab_best (ab_w A q) ws 0).2)) (hR 0 _ (ab_best_at hne (by decide))).2 ?_
    refine gw_put hX kf_LL_154 nd_LL_decode_52 h0 rfl rfl (Nat.le_of_ble_eq_true rfl) (e' := .inr (0, [.ref (n + 1), .ref (n + 3), .ref (n + 80), .ref (n + 82), .ref c, .ref cd, .ref s, .ref sd, .int (nI A.mk), .int (nI A.ps), .int (nI ws.length), .int (nI ((ab_best (ab_w A q) ws 0).2))])) rfl ?_
    obtain ⟨σ3, eσ3⟩ : ∃ hp_, hp_ = gw_up σ2 n (.inr (0, [.ref (n + 1), .ref (n + 3), .ref (n + 80), .ref (n + 82), .ref c, .ref cd, .ref s, .ref sd, .int (nI A.mk), .int (nI A.ps), .int (nI ws.length), .int (nI ((ab_best (ab_w A q) ws 0).2))])) := ⟨_, rfl⟩
    refine gw_heap eσ3.symm ?_
    have h0 : σ3.2 n = some (.inr (0, [.ref (n + 1), .ref (n + 3), .ref (n + 80), .ref (n + 82), .ref c, .ref cd, .ref s, .ref sd, .int (nI A.mk), .int (nI A.ps), .int (nI ws.length), .int (nI ((ab_best (ab_w A q) ws 0).2))])) := by rw [eσ3]; exact gw_up_eq _ _ _
    have c0 : σ3.2 c = some (.inr (2, [.ref (c + 1), .int (nI A.ss.length)])) := by rw [eσ3, gw_up_ne (by omega)]; exact c0
    have c1 : σ3.2 (c + 1) = some ((gw_Q3 (gw_z X) 8 (fun j => some (c + 2 + 2 * j)))) := by rw [eσ3, gw_up_ne (by omega)]; exact c1
    have s0 : σ3.2 s = some (.inr (5, [.ref (s + 1), .int (nI (se_c A.sp)), .int (nI A.sp.length)])) := by rw [eσ3, gw_up_ne (by omega)]; exact s0
    have g0 : σ3.2 a = some (.inr (5, [.ref (a + 1), .int (nI (se_c ws)), .int (nI ws.length)])) := by rw [eσ3, gw_up_ne (by omega)]; exact g0
    have g1 : σ3.2 (a + 1) = some ((gw_I (gw_z X) 18 bws)) := by rw [eσ3, gw_up_ne (by omega)]; exact g1
    have r0 : σ3.2 (n + 3 + 2) = some (.inr (4, [.ref (n + 3 + 2 + 1), .ref (n + 3 + 2 + 2), .int (nI 2)])) := by rw [eσ3, gw_up_ne (by omega)]; exact r0
    have r1 : σ3.2 (n + 3 + 2 + 1) = some ((gw_J (gw_z X) 2 fs)) := by rw [eσ3, gw_up_ne (by omega)]; exact r1
    have r2 : σ3.2 (n + 3 + 2 + 2) = some ((gw_I (gw_z X) 2 fl)) := by rw [eσ3, gw_up_ne (by omega)]; exact r2
    have fr : gw_f2 σ σ3 n (n + 1) (n + 5) (n + 80) := by first | exact gw_f2_l fr (show gw_fr _ σ3 n (n + 1) by rw [eσ3]; exact gw_fr_up _ _ _ (by omega) (by omega)) | exact gw_f2_r fr (show gw_fr _ σ3 (n + 5) (n + 80) by rw [eσ3]; exact gw_fr_up _ _ _ (by omega) (by omega))
    have f2 : gw_fr σ2 σ3 n (n + 1) := by rw [eσ3]; exact gw_fr_up _ _ _ (by omega) (by omega)
    refine gw_aload hX nd_LL_decode_55 1 rfl ?_
    refine gw_get hX kf_LL_157 nd_LL_decode_57 r0 rfl ?_
    refine gw_iload hX nd_LL_decode_60 0 rfl ?_
    refine gw_lald hX nd_LL_decode_62 r1 0 rfl (by omega) (by decide) ?_
    refine gw_topl (y := iL (ab_best (ab_w A q) ws 0).1) (hR 0 _ (ab_best_at hne (by decide))).1 ?_
    exact gx_lret hX hQ hr nd_LL_decode_63 (by decide) (by decide) ⟨⟨_, ab_kp A ws.length (ab_best (ab_w A q) ws 0).2, by unfold ab_dec; rw [hws, hbq]; rfl, rfl, cw_re hl8 hC (gw_f2_tr (gw_f2_rf _ _ _ _ _) fr) rfl rfl h0 (de_at_fr (de_at_fr hde f1 (by omega)) f2 (by omega)) (we_at_f2 hwe fr (by omega) (by omega)) (we_at_f2 hte fr (by omega) (by omega))⟩, gw_f2_tr (gw_f2_rf _ _ _ _ _) fr⟩
  · have hb : ¬ b = 0 := fun h => hb ((nI_eq (a := b) (b := 0) (by omega) (by omega)).mpr h)
    refine gw_iconst (v := nI 1) hX nd_LL_decode_27 rfl ?_
    refine gw_goto (tgt := 32) hX nd_LL_decode_28 rfl ?_
    have hbq : b = 1 := by omega
    refine gw_istore hX nd_LL_decode_32 (by decide) (L' := [(6, .int (nI 1)), (5, .ref (n + 3 + 2)), (4, .ref a), (0, .ref n), (1, .int x), (2, .int (nI q)), (3, .int (nI b))]) rfl ?_
    refine gw_aload_n hX nd_LL_decode_34 rfl 3 rfl ?_
    refine gw_aload hX nd_LL_decode_35 2 rfl ?_
    refine gw_get hX kf_LL_94 nd_LL_decode_37 g0 rfl ?_
    refine gw_put hX kf_LL_145 nd_LL_decode_40 h0 rfl rfl (Nat.le_of_ble_eq_true rfl) (e' := .inr (0, [.ref (n + 1), .ref (n + 3), .ref (n + 80), .ref (n + 82), .ref c, .ref cd, .ref s, .ref sd, .int (nI A.mk), .int (nI A.ps), .int (nI ws.length), .int (nI A.kc)])) rfl ?_
    obtain ⟨σ4, eσ4⟩ : ∃ hp_, hp_ = gw_up σ1 n (.inr (0, [.ref (n + 1), .ref (n + 3), .ref (n + 80), .ref (n + 82), .ref c, .ref cd, .ref s, .ref sd, .int (nI A.mk), .int (nI A.ps), .int (nI ws.length), .int (nI A.kc)])) := ⟨_, rfl⟩
    refine gw_heap eσ4.symm ?_
    have h0 : σ4.2 n = some (.inr (0, [.ref (n + 1), .ref (n + 3), .ref (n + 80), .ref (n + 82), .ref c, .ref cd, .ref s, .ref sd, .int (nI A.mk), .int (nI A.ps), .int (nI ws.length), .int (nI A.kc)])) := by rw [eσ4]; exact gw_up_eq _ _ _
    have c0 : σ4.2 c = some (.inr (2, [.ref (c + 1), .int (nI A.ss.length)])) := by rw [eσ4, gw_up_ne (by omega)]; exact c0
    have c1 : σ4.2 (c + 1) = some ((gw_Q3 (gw_z X) 8 (fun j => some (c + 2 + 2 * j)))) := by rw [eσ4, gw_up_ne (by omega)]; exact c1
    have s0 : σ4.2 s = some (.inr (5, [.ref (s + 1), .int (nI (se_c A.sp)), .int (nI A.sp.length)])) := by rw [eσ4, gw_up_ne (by omega)]; exact s0
    have g0 : σ4.2 a = some (.inr (5, [.ref (a + 1), .int (nI (se_c ws)), .int (nI ws.length)])) := by rw [eσ4, gw_up_ne (by omega)]; exact g0
    have g1 : σ4.2 (a + 1) = some ((gw_I (gw_z X) 18 bws)) := by rw [eσ4, gw_up_ne (by omega)]; exact g1
    have r0 : σ4.2 (n + 3 + 2) = some (.inr (4, [.ref (n + 3 + 2 + 1), .ref (n + 3 + 2 + 2), .int (nI 2)])) := by rw [eσ4, gw_up_ne (by omega)]; exact r0
    have r1 : σ4.2 (n + 3 + 2 + 1) = some ((gw_J (gw_z X) 2 fs)) := by rw [eσ4, gw_up_ne (by omega)]; exact r1
    have r2 : σ4.2 (n + 3 + 2 + 2) = some ((gw_I (gw_z X) 2 fl)) := by rw [eσ4, gw_up_ne (by omega)]; exact r2
    have fr : gw_f2 σ σ4 n (n + 1) (n + 5) (n + 80) := by first | exact gw_f2_l fr (show gw_fr _ σ4 n (n + 1) by rw [eσ4]; exact gw_fr_up _ _ _ (by omega) (by omega)) | exact gw_f2_r fr (show gw_fr _ σ4 (n + 5) (n + 80) by rw [eσ4]; exact gw_fr_up _ _ _ (by omega) (by omega))
    have f1 : gw_fr σ1 σ4 n (n + 1) := by rw [eσ4]; exact gw_fr_up _ _ _ (by omega) (by omega)
    refine gw_aload_n hX nd_LL_decode_43 rfl 3 rfl ?_
    refine gw_aload hX nd_LL_decode_44 1 rfl ?_
    refine gw_get hX kf_LL_148 nd_LL_decode_46 r0 rfl ?_
    refine gw_iload hX nd_LL_decode_49 0 rfl ?_
    refine gw_iald hX nd_LL_decode_51 r2 1 rfl (by omega) (by decide) ?_
    refine gw_topi (y := nI ((ab_best (ab_w A q) ws 1).2)) (hR 1 _ (ab_best_at hne (by decide))).2 ?_
    refine gw_put hX kf_LL_154 nd_LL_decode_52 h0 rfl rfl (Nat.le_of_ble_eq_true rfl) (e' := .inr (0, [.ref (n + 1), .ref (n + 3), .ref (n + 80), .ref (n + 82), .ref c, .ref cd, .ref s, .ref sd, .int (nI A.mk), .int (nI A.ps), .int (nI ws.length), .int (nI ((ab_best (ab_w A q) ws 1).2))])) rfl ?_
    obtain ⟨σ5, eσ5⟩ : ∃ hp_, hp_ = gw_up σ4 n (.inr (0, [.ref (n + 1), .ref (n + 3), .ref (n + 80), .ref (n + 82), .ref c, .ref cd, .ref s, .ref sd, .int (nI A.mk), .int (nI A.ps), .int (nI ws.length), .int (nI ((ab_best (ab_w A q) ws 1).2))])) := ⟨_, rfl⟩
    refine gw_heap eσ5.symm ?_
    have h0 : σ5.2 n = some (.inr (0, [.ref (n + 1), .ref (n + 3), .ref (n + 80), .ref (n + 82), .ref c, .ref cd, .ref s, .ref sd, .int (nI A.mk), .int (nI A.ps), .int (nI ws.length), .int (nI ((ab_best (ab_w A q) ws 1).2))])) := by rw [eσ5]; exact gw_up_eq _ _ _
    have c0 : σ5.2 c = some (.inr (2, [.ref (c + 1), .int (nI A.ss.length)])) := by rw [eσ5, gw_up_ne (by omega)]; exact c0
    have c1 : σ5.2 (c + 1) = some ((gw_Q3 (gw_z X) 8 (fun j => some (c + 2 + 2 * j)))) := by rw [eσ5, gw_up_ne (by omega)]; exact c1
    have s0 : σ5.2 s = some (.inr (5, [.ref (s + 1), .int (nI (se_c A.sp)), .int (nI A.sp.length)])) := by rw [eσ5, gw_up_ne (by omega)]; exact s0
    have g0 : σ5.2 a = some (.inr (5, [.ref (a + 1), .int (nI (se_c ws)), .int (nI ws.length)])) := by rw [eσ5, gw_up_ne (by omega)]; exact g0
    have g1 : σ5.2 (a + 1) = some ((gw_I (gw_z X) 18 bws)) := by rw [eσ5, gw_up_ne (by omega)]; exact g1
    have r0 : σ5.2 (n + 3 + 2) = some (.inr (4, [.ref (n + 3 + 2 + 1), .ref (n + 3 + 2 + 2), .int (nI 2)])) := by rw [eσ5, gw_up_ne (by omega)]; exact r0
    have r1 : σ5.2 (n + 3 + 2 + 1) = some ((gw_J (gw_z X) 2 fs)) := by rw [eσ5, gw_up_ne (by omega)]; exact r1
    have r2 : σ5.2 (n + 3 + 2 + 2) = some ((gw_I (gw_z X) 2 fl)) := by rw [eσ5, gw_up_ne (by omega)]; exact r2
    have fr : gw_f2 σ σ5 n (n + 1) (n + 5) (n + 80) := by first | exact gw_f2_l fr (show gw_fr _ σ5 n (n + 1) by rw [eσ5]; exact gw_fr_up _ _ _ (by omega) (by omega)) | exact gw_f2_r fr (show gw_fr _ σ5 (n + 5) (n + 80) by rw [eσ5]; exact gw_fr_up _ _ _ (by omega) (by omega))
    have f2 : gw_fr σ4 σ5 n (n + 1) := by rw [eσ5]; exact gw_fr_up _ _ _ (by omega) (by omega)
    refine gw_aload hX nd_LL_decode_55 1 rfl ?_
    refine gw_get hX kf_LL_157 nd_LL_decode_57 r0 rfl ?_
    refine gw_iload hX nd_LL_decode_60 0 rfl ?_
    refine gw_lald hX nd_LL_decode_62 r1 1 rfl (by omega) (by decide) ?_
    refine gw_topl (y := iL (ab_best (ab_w A q) ws 1).1) (hR 1 _ (ab_best_at hne (by decide))).1 ?_
    exact gx_lret hX hQ hr nd_LL_decode_63 (by decide) (by decide) ⟨⟨_, ab_kp A ws.length (ab_best (ab_w A q) ws 1).2, by unfold ab_dec; rw [hws, hbq]; rfl, rfl, cw_re hl8 hC (gw_f2_tr (gw_f2_rf _ _ _ _ _) fr) rfl rfl h0 (de_at_fr (de_at_fr hde f1 (by omega)) f2 (by omega)) (we_at_f2 hwe fr (by omega) (by omega)) (we_at_f2 hte fr (by omega) (by omega))⟩, gw_f2_tr (gw_f2_rf _ _ _ _ _) fr⟩
set_option maxRecDepth 100000 in
set_option maxHeartbeats 4000000 in
theorem ct_LL_learnSentence (l : Launch) (Z : gw_Z) (b0 : Nat) (σ : gw_S) (n c cd s sd : Nat) (A : ab_A) (hA : ab_ok A) (hC : cw_at σ Z n A c cd s sd) (a : Nat) (ws : List px_W) (hse : se_at σ Z a ws) (hg : ab_g ws ∧ ws ≠ []) (ha : n + 86 ≤ a ∧ a + 2 ≤ n + 124) (hB : dc_B A.wt) : gw_M l ny_LL_learnSentence nc_LL_learnSentence (4, 4, 101, 0, 0) (some .boolean) Z b0 σ [.ref n, .ref a] (fun v σ' => v = some (.int (nI (ab_ls A ws).1)) ∧ cw_at σ' Z n (ab_ls A ws).2 c cd s sd ∧ gw_f2 σ σ' n (n + 1) (n + 5) (n + 84)) := by
  refine gw_M_of rfl (Nat.le_of_ble_eq_true rfl) ?_
  intro X hX hl hz hb0 hr hnm hQ
  subst hz hb0 hl
  have hX : gw_ok X nc_LL_learnSentence "LabelLearner" (4, 4, 101, 0, 0) := hX
  show gw_W X σ 0 0 0 [(0, .ref n), (1, .ref a)] []
  have fr : gw_f2 σ σ n (n + 1) (n + 5) (n + 84) := gw_f2_rf _ _ _ _ _
  obtain ⟨hsw, h0, ⟨kt, hkt, htx⟩, hde, hwe, hte, hrc, hrd, hsp, hsd⟩ := id hC
  obtain ⟨sw1, sw2⟩ := id hsw
  obtain ⟨c0, c1, c2, c3⟩ := id hrc
  obtain ⟨bsp, s0, s1, hbsp⟩ := id hsp
  have hl8 := hA.2.2.1
  have hsl := hA.2.2.2.2.1.2
  obtain ⟨bws, g0, g1, hbk⟩ := id hse
  obtain ⟨⟨hso, hsl6⟩, hne⟩ := hg
  have hws0 := List.length_pos_iff.mpr hne
  obtain ⟨w0, w1⟩ := id hwe
  obtain ⟨t0, t1⟩ := id hte
  have hc4 := se_c_6 hso hsl6
  have hb4 := ab_best_6 (wt := A.wt) hne hsl6 (j := 0) (by decide)
  obtain ⟨bc, hbc⟩ : ∃ q, q = (ab_best A.wt ws 0).2 := ⟨_, rfl⟩
  rw [← hbc] at hb4
  refine gw_aload_n hX nd_LL_learnSentence_0 rfl 0 rfl ?_
  refine gw_get hX kf_LL_19 nd_LL_learnSentence_1 h0 rfl ?_
  refine gw_aload_n hX nd_LL_learnSentence_4 rfl 1 rfl ?_
  refine gw_aload_n hX nd_LL_learnSentence_5 rfl 0 rfl ?_
  refine gw_get hX kf_LL_26 nd_LL_learnSentence_6 h0 rfl ?_
  have hE9 : dc_E σ (gw_z X) (n + 3) (n + 80) a A.wt bws (nI (se_c ws)) ws.length := ⟨hde.1, hde.2.1, w0, w1, g0, g1, hde.2.2.1, hde.2.2.2⟩
  refine gw_callV (rest := []) hX ks_LL_141 (ct_De_rank _ _ _ σ (n + 3) (n + 80) a A.wt bws (se_B ws) _ ws.length (se_B_ok hbk hso) hsl6 hB (by refine ⟨?_, ?_⟩ <;> (first | omega | (split <;> omega))) hws0 hE9) hde.1 rfl rfl (Nat.le_of_ble_eq_true rfl) nd_LL_learnSentence_9 (by decide) ?_
  rintro _ σ1 ⟨rfl, hrk, hE_, hf⟩
  have h0 : σ1.2 n = some (.inr (0, [.ref (n + 1), .ref (n + 3), .ref (n + 80), .ref (n + 82), .ref c, .ref cd, .ref s, .ref sd, .int (nI A.mk), .int (nI A.ps), .int (nI A.kw), .int (nI A.kc)])) := (hf.2 n (by omega)).trans h0
  have g0 : σ1.2 a = some (.inr (5, [.ref (a + 1), .int (nI (se_c ws)), .int (nI ws.length)])) := (hf.2 a (by omega)).trans g0
  have g1 : σ1.2 (a + 1) = some ((gw_I (gw_z X) 18 bws)) := (hf.2 (a + 1) (by omega)).trans g1
  have w0 : σ1.2 (n + 80) = some (.inr (7, [.ref (n + 80 + 1)])) := (hf.2 (n + 80) (by omega)).trans w0
  have w1 : σ1.2 (n + 80 + 1) = some ((gw_J (gw_z X) 148 (fun j => iL (A.wt j)))) := (hf.2 (n + 80 + 1) (by omega)).trans w1
  have t0 : σ1.2 (n + 82) = some (.inr (7, [.ref (n + 82 + 1)])) := (hf.2 (n + 82) (by omega)).trans t0
  have t1 : σ1.2 (n + 82 + 1) = some ((gw_J (gw_z X) 148 (fun j => iL (A.tt j)))) := (hf.2 (n + 82 + 1) (by omega)).trans t1
  have fr : gw_f2 σ σ1 n (n + 1) (n + 5) (n + 84) := gw_f2_r fr hf
  have hrk : rk_at σ1 (gw_z X) (n + 3 + 2) (ab_rk A.wt ws) := hrk
  obtain ⟨fs, fl, r0, r1, r2, hR⟩ := id hrk
  rw [ab_rk_len hne] at r0
  have hde : de_at σ1 (gw_z X) (n + 3) := ⟨hE_.1, hE_.2.1, hE_.2.2.2.2.2.2.1, hE_.2.2.2.2.2.2.2⟩
  show gw_W X σ1 0 0 12 [(0, .ref n), (1, .ref a)] [.ref (n + 3 + 2)]
  refine gw_get hX kf_LL_148 nd_LL_learnSentence_12 r0 rfl ?_
  refine gw_iconst (v := nI 0) hX nd_LL_learnSentence_15 rfl ?_
  refine gw_iald hX nd_LL_learnSentence_16 r2 0 rfl (by omega) (by decide) ?_
  refine gw_topi (y := nI bc) ((hR 0 _ (ab_best_at hne (by decide))).2.trans (by rw [hbc])) ?_
  refine gw_istore_n hX nd_LL_learnSentence_17 rfl (by decide) (L' := [(2, .int (nI bc)), (0, .ref n), (1, .ref a)]) rfl ?_
  refine gw_iload_n hX nd_LL_learnSentence_18 rfl 0 rfl ?_
  refine gw_aload_n hX nd_LL_learnSentence_19 rfl 2 rfl ?_
  refine gw_get hX kf_LL_108 nd_LL_learnSentence_20 g0 rfl ?_
  refine gw_icmp_eq (tgt := 30) hX nd_LL_learnSentence_23 rfl (fun hb => ?_) (fun hb => ?_)
  · have hb : bc = se_c ws := (nI_eq (a := bc) (b := se_c ws) (by omega) (by omega)).mp hb
    have hbe := hb
    have hmd : ab_md A.wt ws = A.wt := by unfold ab_md; rw [← hbc, if_pos hbe]
    refine gw_iconst (v := nI 0) hX nd_LL_learnSentence_30 rfl ?_
    refine gw_istore_n hX nd_LL_learnSentence_31 rfl (by decide) (L' := [(3, .int (nI 0)), (2, .int (nI bc)), (0, .ref n), (1, .ref a)]) rfl ?_
    refine gw_iload_n hX nd_LL_learnSentence_32 rfl 0 rfl ?_
    refine gw_if_eq (tgt := 61) hX nd_LL_learnSentence_33 rfl (fun hb => ?_) (fun hb => ?_)
    · have hb : 0 = 0 := (nI_eq (a := 0) (b := 0) (by omega) (by omega)).mp hb
      refine gw_aload_n hX nd_LL_learnSentence_61 rfl 2 rfl ?_
      refine gw_get hX kf_LL_30 nd_LL_learnSentence_62 h0 rfl ?_
      refine gw_aload_n hX nd_LL_learnSentence_65 rfl 2 rfl ?_
      refine gw_get hX kf_LL_26 nd_LL_learnSentence_66 h0 rfl ?_
      refine gw_callV (rest := []) hX ks_LL_184 (ct_We_addAll _ _ _ _ (n + 82) (n + 80) (A.wt) A.tt (by omega) t0 t1 w0 w1) t0 rfl rfl (Nat.le_of_ble_eq_true rfl) nd_LL_learnSentence_69 (by decide) ?_
      rintro _ σ2 ⟨rfl, t0, t1, hf⟩
      have h0 : σ2.2 n = some (.inr (0, [.ref (n + 1), .ref (n + 3), .ref (n + 80), .ref (n + 82), .ref c, .ref cd, .ref s, .ref sd, .int (nI A.mk), .int (nI A.ps), .int (nI A.kw), .int (nI A.kc)])) := (hf.2 n (by omega)).trans h0
      have g0 : σ2.2 a = some (.inr (5, [.ref (a + 1), .int (nI (se_c ws)), .int (nI ws.length)])) := (hf.2 a (by omega)).trans g0
      have g1 : σ2.2 (a + 1) = some ((gw_I (gw_z X) 18 bws)) := (hf.2 (a + 1) (by omega)).trans g1
      have w0 : σ2.2 (n + 80) = some (.inr (7, [.ref (n + 80 + 1)])) := (hf.2 (n + 80) (by omega)).trans w0
      have w1 : σ2.2 (n + 80 + 1) = some ((gw_J (gw_z X) 148 (fun j => iL (A.wt j)))) := (hf.2 (n + 80 + 1) (by omega)).trans w1
      have r0 : σ2.2 (n + 3 + 2) = some (.inr (4, [.ref (n + 3 + 2 + 1), .ref (n + 3 + 2 + 2), .int (nI 2)])) := (hf.2 (n + 3 + 2) (by omega)).trans r0
      have r1 : σ2.2 (n + 3 + 2 + 1) = some ((gw_J (gw_z X) 2 fs)) := (hf.2 (n + 3 + 2 + 1) (by omega)).trans r1
      have r2 : σ2.2 (n + 3 + 2 + 2) = some ((gw_I (gw_z X) 2 fl)) := (hf.2 (n + 3 + 2 + 2) (by omega)).trans r2
      have fr : gw_f2 σ σ2 n (n + 1) (n + 5) (n + 84) := gw_f2_r fr hf
      have hde := de_at_fr hde hf (by omega)
      show gw_W X σ2 0 0 72 [(3, .int (nI 0)), (2, .int (nI bc)), (0, .ref n), (1, .ref a)] []
      refine gw_iload_n hX nd_LL_learnSentence_72 rfl 0 rfl ?_
      exact gw_zret hX hQ hr nd_LL_learnSentence_73 rfl (by decide) (by decide) ⟨by rw [show (ab_ls A ws).1 = 0 from by show ab_mis A.wt ws = _; unfold ab_mis; rw [← hbc, if_pos hbe]], cw_re hl8 hC fr rfl rfl h0 hde (by show we_at _ _ _ (ab_md A.wt ws); rw [hmd]; exact ⟨w0, w1⟩) (by show we_at _ _ _ (fun j => A.tt j + ab_md A.wt ws j); rw [hmd]; exact ⟨t0, t1⟩), fr⟩
    · have hb : ¬ 0 = 0 := fun h => hb ((nI_eq (a := 0) (b := 0) (by omega) (by omega)).mpr h)
      exfalso; omega
  · have hb : ¬ bc = se_c ws := fun h => hb ((nI_eq (a := bc) (b := se_c ws) (by omega) (by omega)).mpr h)
    have hbe := hb
    have hmd : ab_md A.wt ws = ct_ad (ct_ad A.wt 1 (ct_C (ab_sb ws) (lb_at (nI (se_c ws))) ws.length)) (-1) (ct_C (ab_sb ws) (lb_at (nI bc)) ws.length) := by unfold ab_md; rw [← hbc, if_neg hbe]
    refine gw_iconst (v := nI 1) hX nd_LL_learnSentence_26 rfl ?_
    refine gw_goto (tgt := 31) hX nd_LL_learnSentence_27 rfl ?_
    refine gw_istore_n hX nd_LL_learnSentence_31 rfl (by decide) (L' := [(3, .int (nI 1)), (2, .int (nI bc)), (0, .ref n), (1, .ref a)]) rfl ?_
    refine gw_iload_n hX nd_LL_learnSentence_32 rfl 0 rfl ?_
    refine gw_if_eq (tgt := 61) hX nd_LL_learnSentence_33 rfl (fun hb => ?_) (fun hb => ?_)
    · have hb : 1 = 0 := (nI_eq (a := 1) (b := 0) (by omega) (by omega)).mp hb
      exfalso; omega
    · have hb : ¬ 1 = 0 := fun h => hb ((nI_eq (a := 1) (b := 0) (by omega) (by omega)).mpr h)
      refine gw_aload_n hX nd_LL_learnSentence_36 rfl 2 rfl ?_
      refine gw_get hX kf_LL_26 nd_LL_learnSentence_37 h0 rfl ?_
      refine gw_aload_n hX nd_LL_learnSentence_40 rfl 3 rfl ?_
      refine gw_aload_n hX nd_LL_learnSentence_41 rfl 3 rfl ?_
      refine gw_get hX kf_LL_108 nd_LL_learnSentence_42 g0 rfl ?_
      refine gw_lconst (v := 1) hX nd_LL_learnSentence_45 rfl ?_
      refine gw_topl rfl ?_
      refine gw_callV (rest := []) hX ks_LL_178 (ct_We_change _ _ _ _ (n + 80) a (A.wt) (1) bws (se_B ws) _ (nI (se_c ws)) ws.length (se_B_ok hbk hso) hsl6 (by omega) w0 w1 g0 g1) w0 rfl rfl (Nat.le_of_ble_eq_true rfl) nd_LL_learnSentence_46 (by decide) ?_
      rintro _ σ3 ⟨rfl, w0, w1, hf⟩
      have h0 : σ3.2 n = some (.inr (0, [.ref (n + 1), .ref (n + 3), .ref (n + 80), .ref (n + 82), .ref c, .ref cd, .ref s, .ref sd, .int (nI A.mk), .int (nI A.ps), .int (nI A.kw), .int (nI A.kc)])) := (hf.2 n (by omega)).trans h0
      have g0 : σ3.2 a = some (.inr (5, [.ref (a + 1), .int (nI (se_c ws)), .int (nI ws.length)])) := (hf.2 a (by omega)).trans g0
      have g1 : σ3.2 (a + 1) = some ((gw_I (gw_z X) 18 bws)) := (hf.2 (a + 1) (by omega)).trans g1
      have t0 : σ3.2 (n + 82) = some (.inr (7, [.ref (n + 82 + 1)])) := (hf.2 (n + 82) (by omega)).trans t0
      have t1 : σ3.2 (n + 82 + 1) = some ((gw_J (gw_z X) 148 (fun j => iL (A.tt j)))) := (hf.2 (n + 82 + 1) (by omega)).trans t1
      have r0 : σ3.2 (n + 3 + 2) = some (.inr (4, [.ref (n + 3 + 2 + 1), .ref (n + 3 + 2 + 2), .int (nI 2)])) := (hf.2 (n + 3 + 2) (by omega)).trans r0
      have r1 : σ3.2 (n + 3 + 2 + 1) = some ((gw_J (gw_z X) 2 fs)) := (hf.2 (n + 3 + 2 + 1) (by omega)).trans r1
      have r2 : σ3.2 (n + 3 + 2 + 2) = some ((gw_I (gw_z X) 2 fl)) := (hf.2 (n + 3 + 2 + 2) (by omega)).trans r2
      have fr : gw_f2 σ σ3 n (n + 1) (n + 5) (n + 84) := gw_f2_r fr hf
      have hde := de_at_fr hde hf (by omega)
      show gw_W X σ3 0 0 49 [(3, .int (nI 1)), (2, .int (nI bc)), (0, .ref n), (1, .ref a)] []
      refine gw_aload_n hX nd_LL_learnSentence_49 rfl 2 rfl ?_
      refine gw_get hX kf_LL_26 nd_LL_learnSentence_50 h0 rfl ?_
      refine gw_aload_n hX nd_LL_learnSentence_53 rfl 3 rfl ?_
      refine gw_iload_n hX nd_LL_learnSentence_54 rfl 1 rfl ?_
      refine gw_ldc2 (v := -1) hX (gw_in_t 489 (by decide +kernel) rfl) nd_LL_learnSentence_55 ?_
      refine gw_topl (y := iL (-1)) rfl ?_
      refine gw_callV (rest := []) hX ks_LL_178 (ct_We_change _ _ _ _ (n + 80) a (ct_ad A.wt 1 (ct_C (ab_sb ws) (lb_at (nI (se_c ws))) ws.length)) (-1) bws (se_B ws) _ (nI bc) ws.length (se_B_ok hbk hso) hsl6 (by omega) w0 w1 g0 g1) w0 rfl rfl (Nat.le_of_ble_eq_true rfl) nd_LL_learnSentence_58 (by decide) ?_
      rintro _ σ4 ⟨rfl, w0, w1, hf⟩
      have h0 : σ4.2 n = some (.inr (0, [.ref (n + 1), .ref (n + 3), .ref (n + 80), .ref (n + 82), .ref c, .ref cd, .ref s, .ref sd, .int (nI A.mk), .int (nI A.ps), .int (nI A.kw), .int (nI A.kc)])) := (hf.2 n (by omega)).trans h0
      have g0 : σ4.2 a = some (.inr (5, [.ref (a + 1), .int (nI (se_c ws)), .int (nI ws.length)])) := (hf.2 a (by omega)).trans g0
      have g1 : σ4.2 (a + 1) = some ((gw_I (gw_z X) 18 bws)) := (hf.2 (a + 1) (by omega)).trans g1
      have t0 : σ4.2 (n + 82) = some (.inr (7, [.ref (n + 82 + 1)])) := (hf.2 (n + 82) (by omega)).trans t0
      have t1 : σ4.2 (n + 82 + 1) = some ((gw_J (gw_z X) 148 (fun j => iL (A.tt j)))) := (hf.2 (n + 82 + 1) (by omega)).trans t1
      have r0 : σ4.2 (n + 3 + 2) = some (.inr (4, [.ref (n + 3 + 2 + 1), .ref (n + 3 + 2 + 2), .int (nI 2)])) := (hf.2 (n + 3 + 2) (by omega)).trans r0
      have r1 : σ4.2 (n + 3 + 2 + 1) = some ((gw_J (gw_z X) 2 fs)) := (hf.2 (n + 3 + 2 + 1) (by omega)).trans r1
      have r2 : σ4.2 (n + 3 + 2 + 2) = some ((gw_I (gw_z X) 2 fl)) := (hf.2 (n + 3 + 2 + 2) (by omega)).trans r2
      have fr : gw_f2 σ σ4 n (n + 1) (n + 5) (n + 84) := gw_f2_r fr hf
      have hde := de_at_fr hde hf (by omega)
      show gw_W X σ4 0 0 61 [(3, .int (nI 1)), (2, .int (nI bc)), (0, .ref n), (1, .ref a)] []
      refine gw_aload_n hX nd_LL_learnSentence_61 rfl 2 rfl ?_
      refine gw_get hX kf_LL_30 nd_LL_learnSentence_62 h0 rfl ?_
      refine gw_aload_n hX nd_LL_learnSentence_65 rfl 2 rfl ?_
      refine gw_get hX kf_LL_26 nd_LL_learnSentence_66 h0 rfl ?_
      refine gw_callV (rest := []) hX ks_LL_184 (ct_We_addAll _ _ _ _ (n + 82) (n + 80) (ct_ad (ct_ad A.wt 1 (ct_C (ab_sb ws) (lb_at (nI (se_c ws))) ws.length)) (-1) (ct_C (ab_sb ws) (lb_at (nI bc)) ws.length)) A.tt (by omega) t0 t1 w0 w1) t0 rfl rfl (Nat.le_of_ble_eq_true rfl) nd_LL_learnSentence_69 (by decide) ?_
      rintro _ σ5 ⟨rfl, t0, t1, hf⟩
      have h0 : σ5.2 n = some (.inr (0, [.ref (n + 1), .ref (n + 3), .ref (n + 80), .ref (n + 82), .ref c, .ref cd, .ref s, .ref sd, .int (nI A.mk), .int (nI A.ps), .int (nI A.kw), .int (nI A.kc)])) := (hf.2 n (by omega)).trans h0
      have g0 : σ5.2 a = some (.inr (5, [.ref (a + 1), .int (nI (se_c ws)), .int (nI ws.length)])) := (hf.2 a (by omega)).trans g0
      have g1 : σ5.2 (a + 1) = some ((gw_I (gw_z X) 18 bws)) := (hf.2 (a + 1) (by omega)).trans g1
      have w0 : σ5.2 (n + 80) = some (.inr (7, [.ref (n + 80 + 1)])) := (hf.2 (n + 80) (by omega)).trans w0
      have w1 : σ5.2 (n + 80 + 1) = some ((gw_J (gw_z X) 148 (fun j => iL ((ct_ad (ct_ad A.wt 1 (ct_C (ab_sb ws) (lb_at (nI (se_c ws))) ws.length)) (-1) (ct_C (ab_sb ws) (lb_at (nI bc)) ws.length)) j)))) := (hf.2 (n + 80 + 1) (by omega)).trans w1
      have r0 : σ5.2 (n + 3 + 2) = some (.inr (4, [.ref (n + 3 + 2 + 1), .ref (n + 3 + 2 + 2), .int (nI 2)])) := (hf.2 (n + 3 + 2) (by omega)).trans r0
      have r1 : σ5.2 (n + 3 + 2 + 1) = some ((gw_J (gw_z X) 2 fs)) := (hf.2 (n + 3 + 2 + 1) (by omega)).trans r1
      have r2 : σ5.2 (n + 3 + 2 + 2) = some ((gw_I (gw_z X) 2 fl)) := (hf.2 (n + 3 + 2 + 2) (by omega)).trans r2
      have fr : gw_f2 σ σ5 n (n + 1) (n + 5) (n + 84) := gw_f2_r fr hf
      have hde := de_at_fr hde hf (by omega)
      show gw_W X σ5 0 0 72 [(3, .int (nI 1)), (2, .int (nI bc)), (0, .ref n), (1, .ref a)] []
      refine gw_iload_n hX nd_LL_learnSentence_72 rfl 0 rfl ?_
      exact gw_zret hX hQ hr nd_LL_learnSentence_73 rfl (by decide) (by decide) ⟨by rw [show (ab_ls A ws).1 = 1 from by show ab_mis A.wt ws = _; unfold ab_mis; rw [← hbc, if_neg hbe]], cw_re hl8 hC fr rfl rfl h0 hde (by show we_at _ _ _ (ab_md A.wt ws); rw [hmd]; exact ⟨w0, w1⟩) (by show we_at _ _ _ (fun j => A.tt j + ab_md A.wt ws j); rw [hmd]; exact ⟨t0, t1⟩), fr⟩
