set_option maxRecDepth 100000 in
set_option maxHeartbeats 4000000 in
theorem lp_LL_learnCorpus {X : gw_C} (n c cd s sd : Nat) (A : ab_A) (hA : ab_ok A) (N : Nat) (hbd : ab_bd A N) (hN : N + 8 ≤ 100000) {σ0 : gw_S} (hX : gw_ok X nc_LL_learnCorpus "LabelLearner" (3, 5, 124, 0, 0)) (hQ : X.2.2.2.2 = gw_end X (fun v σ' => v = some (.int (nI (ab_pass A).1)) ∧ cw_at σ' (gw_z X) n (ab_pass A).2 c cd s sd ∧ gw_f2 σ0 σ' n (n + 1) (n + 5) (n + 84)) 0 0) (hr : X.2.2.1.1.sig.returnType = (some .int)) : ∀ (m : Nat) (k wr : Nat) (B : ab_A) (σ : gw_S), ab_run A k = (wr, B) → k + m = A.ss.length → cw_at σ (gw_z X) n B c cd s sd → gw_f2 σ0 σ n (n + 1) (n + 5) (n + 84) → gw_W X σ 0 0 4 [(0, .ref n), (1, .int (nI wr)), (2, .int (nI k))] [] := by
  intro m
  induction m using Nat.strongRecOn with
  | ind m ih =>
    intro k wr B σ
    intro hrun hkm hC fr
    have hBe : B = (ab_run A k).2 := by rw [hrun]
    have hBq : ab_eq A B := by rw [hBe]; exact ab_eq_run A k
    have hB : ab_ok B := ab_eq_ok hBq hA
    have hss : B.ss = A.ss := ab_eq_ss hBq
    have hl9 : B.ss.length = A.ss.length := by rw [hss]
    have hkl : k ≤ A.ss.length := by omega
    have hwr : wr ≤ k := by have := ab_run_le A k hkl; rw [hrun] at this; exact this
    have hbB : ab_bd B (N + k) := by rw [hBe]; exact ab_bd_run hbd (fun ws hw => (hA.2.2.2.1 ws hw).1.2) k hkl
    obtain ⟨hsw, h0, ⟨kt, hkt, htx⟩, hde, hwe, hte, hrc, hrd, hsp, hsd⟩ := id hC
    obtain ⟨sw1, sw2⟩ := id hsw
    obtain ⟨c0, c1, c2, c3⟩ := id hrc
    have hl8 := hB.2.2.1
    have g9 : gw_fr σ σ n (n + 1) := gw_fr_rf _ _ _
    refine gw_iload_n hX nd_LL_learnCorpus_4 rfl 2 rfl ?_
    refine gw_aload_n hX nd_LL_learnCorpus_5 rfl 0 rfl ?_
    refine gw_get hX kf_LL_36 nd_LL_learnCorpus_6 h0 rfl ?_
    refine gw_get hX kf_LL_85 nd_LL_learnCorpus_9 c0 rfl ?_
    refine gw_icmp_ge (tgt := 40) hX nd_LL_learnCorpus_12 rfl (fun hb => ?_) (fun hb => ?_)
    · have hb : B.ss.length ≤ k := (nI_leI (a := B.ss.length) (b := k) (by omega) (by omega)).mp hb
      have hke : k = A.ss.length := by omega
      have hp : ab_pass A = (wr, ab_cnt B wr) := by unfold ab_pass; rw [← hke, hrun]
      refine gw_aload_n hX nd_LL_learnCorpus_40 rfl 0 rfl ?_
      refine gw_dup hX nd_LL_learnCorpus_41 rfl ?_
      refine gw_get hX kf_LL_75 nd_LL_learnCorpus_42 h0 rfl ?_
      refine gw_iload_n hX nd_LL_learnCorpus_45 rfl 1 rfl ?_
      refine gw_iadd hX nd_LL_learnCorpus_46 ?_
      refine gw_topi (y := nI (B.mk + wr)) (nI_add _ _) ?_
      refine gw_put hX kf_LL_75 nd_LL_learnCorpus_47 h0 rfl rfl (Nat.le_of_ble_eq_true rfl) (e' := .inr (0, [.ref (n + 1), .ref (n + 3), .ref (n + 80), .ref (n + 82), .ref c, .ref cd, .ref s, .ref sd, .int (nI (B.mk + wr)), .int (nI B.ps), .int (nI B.kw), .int (nI B.kc)])) rfl ?_
      obtain ⟨σ1, eσ1⟩ : ∃ hp_, hp_ = gw_up σ n (.inr (0, [.ref (n + 1), .ref (n + 3), .ref (n + 80), .ref (n + 82), .ref c, .ref cd, .ref s, .ref sd, .int (nI (B.mk + wr)), .int (nI B.ps), .int (nI B.kw), .int (nI B.kc)])) := ⟨_, rfl⟩
      refine gw_heap eσ1.symm ?_
      have h0 : σ1.2 n = some (.inr (0, [.ref (n + 1), .ref (n + 3), .ref (n + 80), .ref (n + 82), .ref c, .ref cd, .ref s, .ref sd, .int (nI (B.mk + wr)), .int (nI B.ps), .int (nI B.kw), .int (nI B.kc)])) := by rw [eσ1]; exact gw_up_eq _ _ _
      have c0 : σ1.2 c = some (.inr (2, [.ref (c + 1), .int (nI B.ss.length)])) := by rw [eσ1, gw_up_ne (by omega)]; exact c0
      have c1 : σ1.2 (c + 1) = some ((gw_Q3 (gw_z X) 8 (fun j => some (c + 2 + 2 * j)))) := by rw [eσ1, gw_up_ne (by omega)]; exact c1
      have fr : gw_f2 σ0 σ1 n (n + 1) (n + 5) (n + 84) := by first | exact gw_f2_l fr (show gw_fr _ σ1 n (n + 1) by rw [eσ1]; exact gw_fr_up _ _ _ (by omega) (by omega)) | exact gw_f2_r fr (show gw_fr _ σ1 (n + 5) (n + 84) by rw [eσ1]; exact gw_fr_up _ _ _ (by omega) (by omega))
      have g9 : gw_fr σ σ1 n (n + 1) := gw_fr_tr g9 (show gw_fr _ σ1 n (n + 1) by rw [eσ1]; exact gw_fr_up _ _ _ (by omega) (by omega))
      refine gw_aload_n hX nd_LL_learnCorpus_50 rfl 0 rfl ?_
      refine gw_dup hX nd_LL_learnCorpus_51 rfl ?_
      refine gw_get hX kf_LL_79 nd_LL_learnCorpus_52 h0 rfl ?_
      refine gw_iconst (v := nI 1) hX nd_LL_learnCorpus_55 rfl ?_
      refine gw_iadd hX nd_LL_learnCorpus_56 ?_
      refine gw_topi (y := nI (B.ps + 1)) (nI_add _ _) ?_
      refine gw_put hX kf_LL_79 nd_LL_learnCorpus_57 h0 rfl rfl (Nat.le_of_ble_eq_true rfl) (e' := .inr (0, [.ref (n + 1), .ref (n + 3), .ref (n + 80), .ref (n + 82), .ref c, .ref cd, .ref s, .ref sd, .int (nI (B.mk + wr)), .int (nI (B.ps + 1)), .int (nI B.kw), .int (nI B.kc)])) rfl ?_
      obtain ⟨σ2, eσ2⟩ : ∃ hp_, hp_ = gw_up σ1 n (.inr (0, [.ref (n + 1), .ref (n + 3), .ref (n + 80), .ref (n + 82), .ref c, .ref cd, .ref s, .ref sd, .int (nI (B.mk + wr)), .int (nI (B.ps + 1)), .int (nI B.kw), .int (nI B.kc)])) := ⟨_, rfl⟩
      refine gw_heap eσ2.symm ?_
      have h0 : σ2.2 n = some (.inr (0, [.ref (n + 1), .ref (n + 3), .ref (n + 80), .ref (n + 82), .ref c, .ref cd, .ref s, .ref sd, .int (nI (B.mk + wr)), .int (nI (B.ps + 1)), .int (nI B.kw), .int (nI B.kc)])) := by rw [eσ2]; exact gw_up_eq _ _ _
      have c0 : σ2.2 c = some (.inr (2, [.ref (c + 1), .int (nI B.ss.length)])) := by rw [eσ2, gw_up_ne (by omega)]; exact c0
      have c1 : σ2.2 (c + 1) = some ((gw_Q3 (gw_z X) 8 (fun j => some (c + 2 + 2 * j)))) := by rw [eσ2, gw_up_ne (by omega)]; exact c1
      have fr : gw_f2 σ0 σ2 n (n + 1) (n + 5) (n + 84) := by first | exact gw_f2_l fr (show gw_fr _ σ2 n (n + 1) by rw [eσ2]; exact gw_fr_up _ _ _ (by omega) (by omega)) | exact gw_f2_r fr (show gw_fr _ σ2 (n + 5) (n + 84) by rw [eσ2]; exact gw_fr_up _ _ _ (by omega) (by omega))
      have g9 : gw_fr σ σ2 n (n + 1) := gw_fr_tr g9 (show gw_fr _ σ2 n (n + 1) by rw [eσ2]; exact gw_fr_up _ _ _ (by omega) (by omega))
      refine gw_iload_n hX nd_LL_learnCorpus_60 rfl 1 rfl ?_
      exact gw_iret hX hQ hr nd_LL_learnCorpus_61 (by decide) (by decide) ⟨by rw [hp], by rw [hp]; exact cw_re hl8 hC (gw_f2_l (gw_f2_rf _ _ _ _ _) g9) rfl rfl h0 (de_at_fr hde g9 (by omega)) (we_at_fr hwe g9 (by omega)) (we_at_fr hte g9 (by omega)), fr⟩
    · have hb : ¬ B.ss.length ≤ k := fun h => hb ((nI_leI (a := B.ss.length) (b := k) (by omega) (by omega)).mpr h)
      have hk8 : k < B.ss.length := by omega
      have hkk : A.ss[k]'(by omega) = B.ss[k] := by simp only [hss]
      refine gw_aload_n hX nd_LL_learnCorpus_15 rfl 0 rfl ?_
      refine gw_aload_n hX nd_LL_learnCorpus_16 rfl 0 rfl ?_
      refine gw_get hX kf_LL_36 nd_LL_learnCorpus_17 h0 rfl ?_
      refine gw_get hX kf_LL_165 nd_LL_learnCorpus_20 c0 rfl ?_
      refine gw_iload_n hX nd_LL_learnCorpus_23 rfl 2 rfl ?_
      refine gw_ald3 hX nd_LL_learnCorpus_24 c1 k rfl (by omega) (by decide) (r := c + 2 + 2 * k) rfl ?_
      refine gw_callV (rest := []) hX ks_LL_175 (ct_LL_learnSentence _ _ _ σ n c cd s sd B hB hC (c + 2 + 2 * k) B.ss[k] (c3 k _ (List.getElem?_eq_getElem hk8)).1 (hB.2.2.2.1 _ (List.getElem_mem hk8)) (by omega) (ab_bd_B hbB (by omega) 0)) h0 rfl rfl (Nat.le_of_ble_eq_true rfl) nd_LL_learnCorpus_25 (by decide) ?_
      rintro _ σ3 ⟨rfl, hC1, hf⟩
      have fr : gw_f2 σ0 σ3 n (n + 1) (n + 5) (n + 84) := gw_f2_tr fr hf
      have hmi : (ab_ls B B.ss[k]).1 ≤ 1 := ab_mis_le _ _
      show gw_W X σ3 0 0 28 [(0, .ref n), (1, .int (nI wr)), (2, .int (nI k))] [.int (nI ((ab_ls B B.ss[k]).1))]
      refine gw_if_eq (tgt := 34) hX nd_LL_learnCorpus_28 rfl (fun hb => ?_) (fun hb => ?_)
      · have hb : (ab_ls B B.ss[k]).1 = 0 := (nI_eq (a := (ab_ls B B.ss[k]).1) (b := 0) (by omega) (by omega)).mp hb
        refine gw_iinc hX nd_LL_learnCorpus_34 2 rfl (v := nI (k + 1)) (show nI k + nI 1 = nI (k + 1) from nI_add _ _) (by decide) (L' := [(2, .int (nI (k + 1))), (0, .ref n), (1, .int (nI wr))]) rfl ?_
        refine gw_goto (tgt := 4) hX nd_LL_learnCorpus_37 rfl ?_
        refine gw_cut (ks := [1, 2, 0]) (L' := [(0, .ref n), (1, .int (nI wr)), (2, .int (nI (k + 1)))]) rfl ?_
        exact ih (m - 1) (by omega) (k + 1) (wr) (ab_ls B B.ss[k]).2 _ (by rw [ab_run_s (by omega), hrun]; show (wr + (ab_ls B (A.ss[k]'(by omega))).1, (ab_ls B (A.ss[k]'(by omega))).2) = _; rw [hkk, show (ab_ls B B.ss[k]).1 = wr - wr by omega]; congr 1; omega) (by omega) hC1 fr
      · have hb : ¬ (ab_ls B B.ss[k]).1 = 0 := fun h => hb ((nI_eq (a := (ab_ls B B.ss[k]).1) (b := 0) (by omega) (by omega)).mpr h)
        refine gw_iinc hX nd_LL_learnCorpus_31 1 rfl (v := nI (wr + 1)) (show nI wr + nI 1 = nI (wr + 1) from nI_add _ _) (by decide) (L' := [(1, .int (nI (wr + 1))), (0, .ref n), (2, .int (nI k))]) rfl ?_
        refine gw_iinc hX nd_LL_learnCorpus_34 2 rfl (v := nI (k + 1)) (show nI k + nI 1 = nI (k + 1) from nI_add _ _) (by decide) (L' := [(2, .int (nI (k + 1))), (1, .int (nI (wr + 1))), (0, .ref n)]) rfl ?_
        refine gw_goto (tgt := 4) hX nd_LL_learnCorpus_37 rfl ?_
        refine gw_cut (ks := [2, 1, 0]) (L' := [(0, .ref n), (1, .int (nI (wr + 1))), (2, .int (nI (k + 1)))]) rfl ?_
        exact ih (m - 1) (by omega) (k + 1) (wr + 1) (ab_ls B B.ss[k]).2 _ (by rw [ab_run_s (by omega), hrun]; show (wr + (ab_ls B (A.ss[k]'(by omega))).1, (ab_ls B (A.ss[k]'(by omega))).2) = _; rw [hkk, show (ab_ls B B.ss[k]).1 = wr + 1 - wr by omega]; congr 1; omega) (by omega) hC1 fr
set_option maxRecDepth 100000 in
set_option maxHeartbeats 4000000 in
theorem ct_LL_learnCorpus (l : Launch) (Z : gw_Z) (b0 : Nat) (σ : gw_S) (n c cd s sd : Nat) (A : ab_A) (hA : ab_ok A) (N : Nat) (hbd : ab_bd A N) (hN : N + 8 ≤ 100000) (hC : cw_at σ Z n A c cd s sd) : gw_M l ny_LL_learnCorpus nc_LL_learnCorpus (3, 5, 124, 0, 0) (some .int) Z b0 σ [.ref n] (fun v σ' => v = some (.int (nI (ab_pass A).1)) ∧ cw_at σ' Z n (ab_pass A).2 c cd s sd ∧ gw_f2 σ σ' n (n + 1) (n + 5) (n + 84)) := by
  refine gw_M_of rfl (Nat.le_of_ble_eq_true rfl) ?_
  intro X hX hl hz hb0 hr hnm hQ
  subst hz hb0 hl
  have hX : gw_ok X nc_LL_learnCorpus "LabelLearner" (3, 5, 124, 0, 0) := hX
  show gw_W X σ 0 0 0 [(0, .ref n)] []
  refine gw_iconst (v := nI 0) hX nd_LL_learnCorpus_0 rfl ?_
  refine gw_istore_n hX nd_LL_learnCorpus_1 rfl (by decide) (L' := [(1, .int (nI 0)), (0, .ref n)]) rfl ?_
  refine gw_iconst (v := nI 0) hX nd_LL_learnCorpus_2 rfl ?_
  refine gw_istore_n hX nd_LL_learnCorpus_3 rfl (by decide) (L' := [(2, .int (nI 0)), (1, .int (nI 0)), (0, .ref n)]) rfl ?_
  refine gw_cut (ks := [2, 1, 0]) (L' := [(0, .ref n), (1, .int (nI 0)), (2, .int (nI 0))]) rfl ?_
  exact lp_LL_learnCorpus n c cd s sd A hA N hbd hN hX hQ hr A.ss.length 0 0 A σ rfl (by omega) hC (gw_f2_rf _ _ _ _ _)
set_option maxRecDepth 100000 in
set_option maxHeartbeats 4000000 in
theorem lp_LL_errors {X : gw_C} (n c cd s sd : Nat) (A : ab_A) (hA : ab_ok A) (q : Nat) (hq : q < 2) (hB : dc_B (ab_w A q)) {σ0 : gw_S} (hX : gw_ok X nc_LL_errors "LabelLearner" (6, 4, 101, 0, 0)) (hQ : X.2.2.2.2 = gw_end X (fun v σ' => v = some (.int (nI (ab_err A q A.ss.length))) ∧ cw_at σ' (gw_z X) n A c cd s sd ∧ gw_f2 σ0 σ' n (n + 1) (n + 5) (n + 84)) 0 0) (hr : X.2.2.1.1.sig.returnType = (some .int)) : ∀ (m : Nat) (k wr : Nat) (σ : gw_S), wr = ab_err A q k → k + m = A.ss.length → cw_at σ (gw_z X) n A c cd s sd → gw_f2 σ0 σ n (n + 1) (n + 5) (n + 84) → gw_W X σ 0 0 4 [(0, .ref n), (1, .int (nI q)), (2, .int (nI wr)), (3, .int (nI k))] [] := by
  intro m
  induction m using Nat.strongRecOn with
  | ind m ih =>
    intro k wr σ
    intro hwr hkm hC fr
    have hkl : k ≤ A.ss.length := by omega
    have hwl := ab_err_le q hA k hkl
    obtain ⟨hsw, h0, ⟨kt, hkt, htx⟩, hde, hwe, hte, hrc, hrd, hsp, hsd⟩ := id hC
    obtain ⟨sw1, sw2⟩ := id hsw
    obtain ⟨c0, c1, c2, c3⟩ := id hrc
    have hl8 := hA.2.2.1
    refine gw_iload_n hX nd_LL_errors_4 rfl 3 rfl ?_
    refine gw_aload_n hX nd_LL_errors_5 rfl 0 rfl ?_
    refine gw_get hX kf_LL_36 nd_LL_errors_6 h0 rfl ?_
    refine gw_get hX kf_LL_85 nd_LL_errors_9 c0 rfl ?_
    refine gw_icmp_ge (tgt := 71) hX nd_LL_errors_12 rfl (fun hb => ?_) (fun hb => ?_)
    · have hb : A.ss.length ≤ k := (nI_leI (a := A.ss.length) (b := k) (by omega) (by omega)).mp hb
      have hke : k = A.ss.length := by omega
      refine gw_iload_n hX nd_LL_errors_71 rfl 2 rfl ?_
      exact gw_iret hX hQ hr nd_LL_errors_72 (by decide) (by decide) ⟨by rw [hwr, hke], hC, fr⟩
    · have hb : ¬ A.ss.length ≤ k := fun h => hb ((nI_leI (a := A.ss.length) (b := k) (by omega) (by omega)).mpr h)
      obtain ⟨ws, hws⟩ : ∃ ws, ws = A.ss[k]'(by omega) := ⟨_, rfl⟩
      obtain ⟨a, ha⟩ : ∃ a, a = c + 2 + 2 * k := ⟨_, rfl⟩
      have hse : se_at σ (gw_z X) a ws := by rw [ha, hws]; exact (c3 k _ (List.getElem?_eq_getElem (by omega))).1
      obtain ⟨bws, g0, g1, hbk⟩ := id hse
      obtain ⟨⟨hso, hsl6⟩, hne⟩ := (by rw [hws]; exact hA.2.2.2.1 _ (List.getElem_mem (by omega)) : ab_g ws ∧ ws ≠ [])
      have hws0 := List.length_pos_iff.mpr hne
      refine gw_aload_n hX nd_LL_errors_15 rfl 0 rfl ?_
      refine gw_get hX kf_LL_36 nd_LL_errors_16 h0 rfl ?_
      refine gw_get hX kf_LL_165 nd_LL_errors_19 c0 rfl ?_
      refine gw_iload_n hX nd_LL_errors_22 rfl 3 rfl ?_
      refine gw_ald3 hX nd_LL_errors_23 c1 k rfl (by omega) (by decide) (r := a) (by rw [ha]) ?_
      refine gw_astore hX nd_LL_errors_24 (by decide) (L' := [(4, .ref a), (0, .ref n), (1, .int (nI q)), (2, .int (nI wr)), (3, .int (nI k))]) rfl ?_
      refine gw_aload_n hX nd_LL_errors_26 rfl 1 rfl ?_
      refine gw_get hX kf_LL_19 nd_LL_errors_27 h0 rfl ?_
      refine gw_aload hX nd_LL_errors_30 0 rfl ?_
      refine gw_aload_n hX nd_LL_errors_32 rfl 1 rfl ?_
      refine gw_iload_n hX nd_LL_errors_33 rfl 2 rfl ?_
      refine gw_callV (rest := [.ref a, .ref (n + 3)]) hX ks_LL_133 (ct_LL_weightsOrTotals _ _ _ σ n c cd s sd A hA hC q hq) h0 rfl rfl (Nat.le_of_ble_eq_true rfl) nd_LL_errors_34 (by decide) ?_
      rintro v_ s_ ⟨hv_, hs_⟩
      have hs_ := hs_.symm
      subst hs_ hv_
      show gw_W X σ 0 0 37 [(4, .ref a), (0, .ref n), (1, .int (nI q)), (2, .int (nI wr)), (3, .int (nI k))] [.ref (if q = 0 then n + 80 else n + 82), .ref a, .ref (n + 3)]
      obtain ⟨hw0, hw1⟩ := cw_w hC q
      have hE9 : dc_E σ (gw_z X) (n + 3) (if q = 0 then n + 80 else n + 82) a (ab_w A q) bws (nI (se_c ws)) ws.length := ⟨hde.1, hde.2.1, hw0, hw1, g0, g1, hde.2.2.1, hde.2.2.2⟩
      refine gw_callV (rest := []) hX ks_LL_141 (ct_De_rank _ _ _ σ (n + 3) (if q = 0 then n + 80 else n + 82) a (ab_w A q) bws (se_B ws) _ ws.length (se_B_ok hbk hso) hsl6 hB (by refine ⟨?_, ?_⟩ <;> (first | omega | (split <;> omega))) hws0 hE9) hde.1 rfl rfl (Nat.le_of_ble_eq_true rfl) nd_LL_errors_37 (by decide) ?_
      rintro _ σ1 ⟨rfl, hrk, hE_, hf⟩
      have h0 : σ1.2 n = some (.inr (0, [.ref (n + 1), .ref (n + 3), .ref (n + 80), .ref (n + 82), .ref c, .ref cd, .ref s, .ref sd, .int (nI A.mk), .int (nI A.ps), .int (nI A.kw), .int (nI A.kc)])) := (hf.2 n (by omega)).trans h0
      have c0 : σ1.2 c = some (.inr (2, [.ref (c + 1), .int (nI A.ss.length)])) := (hf.2 c (by omega)).trans c0
      have c1 : σ1.2 (c + 1) = some ((gw_Q3 (gw_z X) 8 (fun j => some (c + 2 + 2 * j)))) := (hf.2 (c + 1) (by omega)).trans c1
      have g0 : σ1.2 a = some (.inr (5, [.ref (a + 1), .int (nI (se_c ws)), .int (nI ws.length)])) := (hf.2 a (by omega)).trans g0
      have g1 : σ1.2 (a + 1) = some ((gw_I (gw_z X) 18 bws)) := (hf.2 (a + 1) (by omega)).trans g1
      have fr : gw_f2 σ0 σ1 n (n + 1) (n + 5) (n + 84) := gw_f2_r fr hf
      have hrk : rk_at σ1 (gw_z X) (n + 3 + 2) (ab_rk (ab_w A q) ws) := hrk
      obtain ⟨fs, fl, r0, r1, r2, hR⟩ := id hrk
      rw [ab_rk_len hne] at r0
      have hde : de_at σ1 (gw_z X) (n + 3) := ⟨hE_.1, hE_.2.1, hE_.2.2.2.2.2.2.1, hE_.2.2.2.2.2.2.2⟩
      show gw_W X σ1 0 0 40 [(4, .ref a), (0, .ref n), (1, .int (nI q)), (2, .int (nI wr)), (3, .int (nI k))] [.ref (n + 3 + 2)]
      have hC : cw_at σ1 (gw_z X) n A c cd s sd := cw_re hl8 hC (gw_f2_r (gw_f2_rf _ _ _ _ _) hf) rfl rfl h0 hde (we_at_fr hwe hf (by omega)) (we_at_fr hte hf (by omega))
      refine gw_get hX kf_LL_148 nd_LL_errors_40 r0 rfl ?_
      refine gw_iconst (v := nI 0) hX nd_LL_errors_43 rfl ?_
      refine gw_iald hX nd_LL_errors_44 r2 0 rfl (by omega) (by decide) ?_
      refine gw_topi (y := nI ((ab_best (ab_w A q) ws 0).2)) (hR 0 _ (ab_best_at hne (by decide))).2 ?_
      refine gw_istore hX nd_LL_errors_45 (by decide) (L' := [(5, .int (nI ((ab_best (ab_w A q) ws 0).2))), (4, .ref a), (0, .ref n), (1, .int (nI q)), (2, .int (nI wr)), (3, .int (nI k))]) rfl ?_
      refine gw_iload_n hX nd_LL_errors_47 rfl 4 rfl ?_
      refine gw_aload hX nd_LL_errors_48 1 rfl ?_
      refine gw_get hX kf_LL_94 nd_LL_errors_50 g0 rfl ?_
      refine gw_iload hX nd_LL_errors_53 0 rfl ?_
      refine gw_aload hX nd_LL_errors_55 1 rfl ?_
      refine gw_get hX kf_LL_108 nd_LL_errors_57 g0 rfl ?_
      refine gw_callS (rest := [.int (nI wr)]) hX ks_LL_169 (ct_LL_differences _ _ _ σ1 ws.length (nI (ab_best (ab_w A q) ws 0).2) (nI (se_c ws)) hsl6) rfl rfl (Nat.le_of_ble_eq_true rfl) nd_LL_errors_60 (by decide) ?_
      rintro v_ s_ ⟨hv_, hs_⟩
      have hs_ := hs_.symm
      subst hs_ hv_
      show gw_W X σ1 0 0 63 [(5, .int (nI ((ab_best (ab_w A q) ws 0).2))), (4, .ref a), (0, .ref n), (1, .int (nI q)), (2, .int (nI wr)), (3, .int (nI k))] [.int (nI (df_n (nI (ab_best (ab_w A q) ws 0).2) (nI (se_c ws)) ws.length)), .int (nI wr)]
      refine gw_iadd hX nd_LL_errors_63 ?_
      refine gw_topi (y := nI (wr + (df_n (nI (ab_best (ab_w A q) ws 0).2) (nI (se_c ws)) ws.length))) (nI_add _ _) ?_
      refine gw_istore_n hX nd_LL_errors_64 rfl (by decide) (L' := [(2, .int (nI (wr + (df_n (nI (ab_best (ab_w A q) ws 0).2) (nI (se_c ws)) ws.length)))), (5, .int (nI ((ab_best (ab_w A q) ws 0).2))), (4, .ref a), (0, .ref n), (1, .int (nI q)), (3, .int (nI k))]) rfl ?_
      refine gw_iinc hX nd_LL_errors_65 5 rfl (v := nI (k + 1)) (show nI k + nI 1 = nI (k + 1) from nI_add _ _) (by decide) (L' := [(3, .int (nI (k + 1))), (2, .int (nI (wr + (df_n (nI (ab_best (ab_w A q) ws 0).2) (nI (se_c ws)) ws.length)))), (5, .int (nI ((ab_best (ab_w A q) ws 0).2))), (4, .ref a), (0, .ref n), (1, .int (nI q))]) rfl ?_
      refine gw_goto (tgt := 4) hX nd_LL_errors_68 rfl ?_
      refine gw_cut (ks := [4, 5, 1, 0]) (L' := [(0, .ref n), (1, .int (nI q)), (2, .int (nI (wr + (df_n (nI (ab_best (ab_w A q) ws 0).2) (nI (se_c ws)) ws.length)))), (3, .int (nI (k + 1)))]) rfl ?_
      exact ih (m - 1) (by omega) (k + 1) _ _ (by rw [ab_err_s (by omega), hwr, ← hws]; rfl) (by omega) hC fr
set_option maxRecDepth 100000 in
set_option maxHeartbeats 4000000 in
theorem ct_LL_errors (l : Launch) (Z : gw_Z) (b0 : Nat) (σ : gw_S) (n c cd s sd : Nat) (A : ab_A) (hA : ab_ok A) (q : Nat) (hq : q < 2) (hB : dc_B (ab_w A q)) (hC : cw_at σ Z n A c cd s sd) : gw_M l ny_LL_errors nc_LL_errors (6, 4, 101, 0, 0) (some .int) Z b0 σ [.ref n, .int (nI q)] (fun v σ' => v = some (.int (nI (ab_err A q A.ss.length))) ∧ cw_at σ' Z n A c cd s sd ∧ gw_f2 σ σ' n (n + 1) (n + 5) (n + 84)) := by
  refine gw_M_of rfl (Nat.le_of_ble_eq_true rfl) ?_
  intro X hX hl hz hb0 hr hnm hQ
  subst hz hb0 hl
  have hX : gw_ok X nc_LL_errors "LabelLearner" (6, 4, 101, 0, 0) := hX
  show gw_W X σ 0 0 0 [(0, .ref n), (1, .int (nI q))] []
  refine gw_iconst (v := nI 0) hX nd_LL_errors_0 rfl ?_
  refine gw_istore_n hX nd_LL_errors_1 rfl (by decide) (L' := [(2, .int (nI 0)), (0, .ref n), (1, .int (nI q))]) rfl ?_
  refine gw_iconst (v := nI 0) hX nd_LL_errors_2 rfl ?_
  refine gw_istore_n hX nd_LL_errors_3 rfl (by decide) (L' := [(3, .int (nI 0)), (2, .int (nI 0)), (0, .ref n), (1, .int (nI q))]) rfl ?_
  refine gw_cut (ks := [2, 3, 1, 0]) (L' := [(0, .ref n), (1, .int (nI q)), (2, .int (nI 0)), (3, .int (nI 0))]) rfl ?_
  exact lp_LL_errors n c cd s sd A hA q hq hB hX hQ hr A.ss.length 0 0 σ rfl (by omega) hC (gw_f2_rf _ _ _ _ _)
