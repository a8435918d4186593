theorem keep_0 {v : Option Value} {σ' : gw_S} {Z : gw_Z} {t len k : Nat} {ch : Nat → Nat} (hl : len ≤ 240) (h : (∃ c, nI 0 = nI c ∧ c ≤ len ∧ v = some (.int (nI 1)) ∧ tx_at σ' Z t c k ch) ∨ ((∀ c, c ≤ len → nI 0 ≠ nI c) ∧ v = some (.int (nI 0)) ∧ tx_at σ' Z t len k ch)) : v = some (.int (nI 1)) ∧ tx_at σ' Z t 0 k ch := by
  rcases h with ⟨c, h1, h2, h3, h4⟩ | ⟨h1, -, -⟩
  · have : 0 = c := (nI_eq (by omega) (by omega)).mp h1
    subst this
    exact ⟨h3, h4⟩
  · exact absurd rfl (h1 0 (by omega))
theorem ab_ok_ld {A : ab_A} {ss : List (List px_W)} (h : ab_ok A) (h8 : ss.length ≤ 8) (hg : ∀ (j : Nat) (ws : List px_W), ss[j]? = some ws → ab_g ws ∧ ws ≠ []) : ab_ok (ab_ld A ss) :=
  ⟨Nat.zero_le _, h.2.1, h8, fun ws hw => by obtain ⟨j, hj, e⟩ := List.getElem_of_mem (show ws ∈ ss from hw); exact hg j ws (by rw [List.getElem?_eq_getElem hj, e]), h.2.2.2.2.1, Nat.zero_le _, Nat.one_pos⟩
theorem ab_ok_sk {A : ab_A} {ws : List px_W} (h : ab_ok A) (hg : ab_g ws) : ab_ok (ab_sk A ws) := ⟨Nat.zero_le _, h.2.1, h.2.2.1, h.2.2.2.1, hg, Nat.zero_le _, Nat.one_pos⟩
set_option maxRecDepth 100000 in
set_option maxHeartbeats 4000000 in
theorem ct_LL_load (l : Launch) (hl0 : l.stackTraces = false) (Z : gw_Z) (b0 : Nat) (σ : gw_S) (n c cd s sd : Nat) (A : ab_A) (hA : ab_ok A) (hC : cw_at σ Z n A c cd s sd) : gx_M l ny_LL_load nc_LL_load (2, 6, 120, 1, 6) (some .int) Z b0 σ [.ref n] (fun v σ' => (∃ ss : List (List px_W), px_C A.len A.ch 8 0 [] = some ss ∧ v = some (.int (nI ss.length)) ∧ ab_ok (ab_ld A ss) ∧ cw_at σ' Z n (ab_ld A ss) cd c s sd) ∧ (∀ b, b < n ∨ n + 124 ≤ b → σ'.2 b = σ.2 b)) (fun E σ' => E = gx_IA ∧ px_C A.len A.ch 8 0 [] = none ∧ cw_at σ' Z n A c cd s sd ∧ (∀ b, b < n ∨ n + 124 ≤ b → σ'.2 b = σ.2 b)) := by
  refine gx_M_of rfl (Nat.le_of_ble_eq_true rfl) hl0 ?_
  intro X hX hl hz hb0 hr hnm hQ hE
  subst hz hb0 hl
  have hX : gw_ok X nc_LL_load "LabelLearner" (2, 6, 120, 1, 6) := hX
  show gw_W X σ 0 0 0 [(0, .ref n)] []
  obtain ⟨hsw, h0, ⟨kt, hkt, htx⟩, hde, hwe, hte, hrc, hrd, hsp, hsd⟩ := id hC
  obtain ⟨sw1, sw2⟩ := id hsw
  obtain ⟨c0, c1, c2, c3⟩ := id hrc
  obtain ⟨bsp, s0, s1, hbsp⟩ := id hsp
  have hl8 := hA.2.2.1
  have hsl := hA.2.2.2.2.1.2
  refine gw_aload_n hX nd_LL_load_0 rfl 0 rfl ?_
  refine gw_get hX kf_LL_10 nd_LL_load_1 h0 rfl ?_
  refine gw_aload_n hX nd_LL_load_4 rfl 0 rfl ?_
  refine gw_get hX kf_LL_40 nd_LL_load_5 h0 rfl ?_
  refine gw_callV (rest := []) hX ks_LL_61 (ct_Te_readCorpus _ _ _ σ (n + 1) cd A.len kt A.ch hA.1 hA.2.1 (by omega) htx hrd) htx.1 rfl rfl (Nat.le_of_ble_eq_true rfl) nd_LL_load_8 (by decide) ?_
  rintro v_ σ1 ⟨⟨ss, hss, rfl, hrs, hs8, hsne⟩ | ⟨hno, rfl, hra⟩, htk, hf0⟩
  · obtain ⟨k, hk, x0, x1⟩ := htk
    have h0 := (hf0.2 n (by omega) (by omega)).trans h0
    obtain ⟨d0, d1, d2, d3⟩ := id hrs
    have fr : gw_f2 σ1 σ1 n (n + 3) (n + 80) (n + 84) := gw_f2_rf _ _ _ _ _
    obtain ⟨w0, w1⟩ := we_at_f2 hwe hf0 (by omega) (by omega)
    obtain ⟨t0, t1⟩ := we_at_f2 hte hf0 (by omega) (by omega)
    show gw_W X σ1 0 0 11 [(0, .ref n)] [.int (nI 1)]
    refine gw_if_ne (tgt := 24) hX nd_LL_load_11 rfl (fun hb => ?_) (fun hb => ?_)
    · have hb : ¬ 1 = 0 := fun h => hb ((nI_eq (a := 1) (b := 0) (by omega) (by omega)).mpr h)
      refine gw_aload_n hX nd_LL_load_24 rfl 0 rfl ?_
      refine gw_get hX kf_LL_36 nd_LL_load_25 h0 rfl ?_
      refine gw_astore_n hX nd_LL_load_28 rfl (by decide) (L' := [(1, .ref c), (0, .ref n)]) rfl ?_
      refine gw_aload_n hX nd_LL_load_29 rfl 1 rfl ?_
      refine gw_aload_n hX nd_LL_load_30 rfl 1 rfl ?_
      refine gw_get hX kf_LL_40 nd_LL_load_31 h0 rfl ?_
      refine gw_put hX kf_LL_36 nd_LL_load_34 h0 rfl rfl (Nat.le_of_ble_eq_true rfl) (e' := .inr (0, [.ref (n + 1), .ref (n + 3), .ref (n + 80), .ref (n + 82), .ref cd, .ref cd, .ref s, .ref sd, .int (nI A.mk), .int (nI A.ps), .int (nI A.kw), .int (nI A.kc)])) rfl ?_
      obtain ⟨σ2, eσ2⟩ : ∃ hp_, hp_ = gw_up σ1 n (.inr (0, [.ref (n + 1), .ref (n + 3), .ref (n + 80), .ref (n + 82), .ref cd, .ref cd, .ref s, .ref sd, .int (nI A.mk), .int (nI A.ps), .int (nI A.kw), .int (nI A.kc)])) := ⟨_, rfl⟩
      refine gw_heap eσ2.symm ?_
      have h0 : σ2.2 n = some (.inr (0, [.ref (n + 1), .ref (n + 3), .ref (n + 80), .ref (n + 82), .ref cd, .ref cd, .ref s, .ref sd, .int (nI A.mk), .int (nI A.ps), .int (nI A.kw), .int (nI A.kc)])) := by rw [eσ2]; exact gw_up_eq _ _ _
      have x0 : σ2.2 (n + 1) = some (.inr (6, [.ref (n + 1 + 1), .int (nI A.len), .int (nI k)])) := by rw [eσ2, gw_up_ne (by omega)]; exact x0
      have x1 : σ2.2 (n + 1 + 1) = some ((gw_Ch (gw_z X) 240 (fun j => nI (A.ch j)))) := by rw [eσ2, gw_up_ne (by omega)]; exact x1
      have d0 : σ2.2 cd = some (.inr (2, [.ref (cd + 1), .int (nI ss.length)])) := by rw [eσ2, gw_up_ne (by omega)]; exact d0
      have w0 : σ2.2 (n + 80) = some (.inr (7, [.ref (n + 80 + 1)])) := by rw [eσ2, gw_up_ne (by omega)]; exact w0
      have w1 : σ2.2 (n + 80 + 1) = some ((gw_J (gw_z X) 148 (fun j => iL (A.wt j)))) := by rw [eσ2, gw_up_ne (by omega)]; exact w1
      have t0 : σ2.2 (n + 82) = some (.inr (7, [.ref (n + 82 + 1)])) := by rw [eσ2, gw_up_ne (by omega)]; exact t0
      have t1 : σ2.2 (n + 82 + 1) = some ((gw_J (gw_z X) 148 (fun j => iL (A.tt j)))) := by rw [eσ2, gw_up_ne (by omega)]; exact t1
      have fr : gw_f2 σ1 σ2 n (n + 3) (n + 80) (n + 84) := by first | exact gw_f2_l fr (show gw_fr _ σ2 n (n + 3) by rw [eσ2]; exact gw_fr_up _ _ _ (by omega) (by omega)) | exact gw_f2_r fr (show gw_fr _ σ2 (n + 80) (n + 84) by rw [eσ2]; exact gw_fr_up _ _ _ (by omega) (by omega))
      refine gw_aload_n hX nd_LL_load_37 rfl 1 rfl ?_
      refine gw_aload_n hX nd_LL_load_38 rfl 0 rfl ?_
      refine gw_put hX kf_LL_40 nd_LL_load_39 h0 rfl rfl (Nat.le_of_ble_eq_true rfl) (e' := .inr (0, [.ref (n + 1), .ref (n + 3), .ref (n + 80), .ref (n + 82), .ref cd, .ref c, .ref s, .ref sd, .int (nI A.mk), .int (nI A.ps), .int (nI A.kw), .int (nI A.kc)])) rfl ?_
      obtain ⟨σ3, eσ3⟩ : ∃ hp_, hp_ = gw_up σ2 n (.inr (0, [.ref (n + 1), .ref (n + 3), .ref (n + 80), .ref (n + 82), .ref cd, .ref c, .ref s, .ref sd, .int (nI A.mk), .int (nI A.ps), .int (nI A.kw), .int (nI A.kc)])) := ⟨_, rfl⟩
      refine gw_heap eσ3.symm ?_
      have h0 : σ3.2 n = some (.inr (0, [.ref (n + 1), .ref (n + 3), .ref (n + 80), .ref (n + 82), .ref cd, .ref c, .ref s, .ref sd, .int (nI A.mk), .int (nI A.ps), .int (nI A.kw), .int (nI A.kc)])) := by rw [eσ3]; exact gw_up_eq _ _ _
      have x0 : σ3.2 (n + 1) = some (.inr (6, [.ref (n + 1 + 1), .int (nI A.len), .int (nI k)])) := by rw [eσ3, gw_up_ne (by omega)]; exact x0
      have x1 : σ3.2 (n + 1 + 1) = some ((gw_Ch (gw_z X) 240 (fun j => nI (A.ch j)))) := by rw [eσ3, gw_up_ne (by omega)]; exact x1
      have d0 : σ3.2 cd = some (.inr (2, [.ref (cd + 1), .int (nI ss.length)])) := by rw [eσ3, gw_up_ne (by omega)]; exact d0
      have w0 : σ3.2 (n + 80) = some (.inr (7, [.ref (n + 80 + 1)])) := by rw [eσ3, gw_up_ne (by omega)]; exact w0
      have w1 : σ3.2 (n + 80 + 1) = some ((gw_J (gw_z X) 148 (fun j => iL (A.wt j)))) := by rw [eσ3, gw_up_ne (by omega)]; exact w1
      have t0 : σ3.2 (n + 82) = some (.inr (7, [.ref (n + 82 + 1)])) := by rw [eσ3, gw_up_ne (by omega)]; exact t0
      have t1 : σ3.2 (n + 82 + 1) = some ((gw_J (gw_z X) 148 (fun j => iL (A.tt j)))) := by rw [eσ3, gw_up_ne (by omega)]; exact t1
      have fr : gw_f2 σ1 σ3 n (n + 3) (n + 80) (n + 84) := by first | exact gw_f2_l fr (show gw_fr _ σ3 n (n + 3) by rw [eσ3]; exact gw_fr_up _ _ _ (by omega) (by omega)) | exact gw_f2_r fr (show gw_fr _ σ3 (n + 80) (n + 84) by rw [eσ3]; exact gw_fr_up _ _ _ (by omega) (by omega))
      refine gw_aload_n hX nd_LL_load_42 rfl 1 rfl ?_
      refine gw_get hX kf_LL_10 nd_LL_load_43 h0 rfl ?_
      refine gw_iconst (v := nI 0) hX nd_LL_load_46 rfl ?_
      
      refine gw_callV (rest := []) hX ks_LL_57 (ct_Te_keep _ _ _ _ (n + 1) A.len k A.ch hA.1 (nI 0) ⟨x0, x1⟩) x0 rfl rfl (Nat.le_of_ble_eq_true rfl) nd_LL_load_47 (by decide) ?_
      rintro _ σ4 ⟨hor, hf⟩
      have h0 : σ4.2 n = some (.inr (0, [.ref (n + 1), .ref (n + 3), .ref (n + 80), .ref (n + 82), .ref cd, .ref c, .ref s, .ref sd, .int (nI A.mk), .int (nI A.ps), .int (nI A.kw), .int (nI A.kc)])) := (hf.2 n (by omega)).trans h0
      have d0 : σ4.2 cd = some (.inr (2, [.ref (cd + 1), .int (nI ss.length)])) := (hf.2 cd (by omega)).trans d0
      have w0 : σ4.2 (n + 80) = some (.inr (7, [.ref (n + 80 + 1)])) := (hf.2 (n + 80) (by omega)).trans w0
      have w1 : σ4.2 (n + 80 + 1) = some ((gw_J (gw_z X) 148 (fun j => iL (A.wt j)))) := (hf.2 (n + 80 + 1) (by omega)).trans w1
      have t0 : σ4.2 (n + 82) = some (.inr (7, [.ref (n + 82 + 1)])) := (hf.2 (n + 82) (by omega)).trans t0
      have t1 : σ4.2 (n + 82 + 1) = some ((gw_J (gw_z X) 148 (fun j => iL (A.tt j)))) := (hf.2 (n + 82 + 1) (by omega)).trans t1
      have fr : gw_f2 σ1 σ4 n (n + 3) (n + 80) (n + 84) := gw_f2_l fr hf
      obtain ⟨rfl, x0, x1⟩ := keep_0 hA.1 hor
      clear hor
      show gw_W X σ4 0 0 50 [(1, .ref c), (0, .ref n)] [.int (nI 1)]
      refine gw_pop hX nd_LL_load_50 rfl ?_
      refine gw_aload_n hX nd_LL_load_51 rfl 1 rfl ?_
      refine gw_get hX kf_LL_26 nd_LL_load_52 h0 rfl ?_
      refine gw_callV (rest := []) hX ks_LL_72 (ct_We_clear _ _ _ _ (n + 80) _ w0 w1) w0 rfl rfl (Nat.le_of_ble_eq_true rfl) nd_LL_load_55 (by decide) ?_
      rintro _ σ5 ⟨rfl, w0, w1, hf⟩
      have h0 : σ5.2 n = some (.inr (0, [.ref (n + 1), .ref (n + 3), .ref (n + 80), .ref (n + 82), .ref cd, .ref c, .ref s, .ref sd, .int (nI A.mk), .int (nI A.ps), .int (nI A.kw), .int (nI A.kc)])) := (hf.2 n (by omega)).trans h0
      have x0 : σ5.2 (n + 1) = some (.inr (6, [.ref (n + 1 + 1), .int (nI 0), .int (nI k)])) := (hf.2 (n + 1) (by omega)).trans x0
      have x1 : σ5.2 (n + 1 + 1) = some ((gw_Ch (gw_z X) 240 (fun j => nI (A.ch j)))) := (hf.2 (n + 1 + 1) (by omega)).trans x1
      have d0 : σ5.2 cd = some (.inr (2, [.ref (cd + 1), .int (nI ss.length)])) := (hf.2 cd (by omega)).trans d0
      have t0 : σ5.2 (n + 82) = some (.inr (7, [.ref (n + 82 + 1)])) := (hf.2 (n + 82) (by omega)).trans t0
      have t1 : σ5.2 (n + 82 + 1) = some ((gw_J (gw_z X) 148 (fun j => iL (A.tt j)))) := (hf.2 (n + 82 + 1) (by omega)).trans t1
      have fr : gw_f2 σ1 σ5 n (n + 3) (n + 80) (n + 84) := gw_f2_r fr hf
      show gw_W X σ5 0 0 58 [(1, .ref c), (0, .ref n)] []
      refine gw_aload_n hX nd_LL_load_58 rfl 1 rfl ?_
      refine gw_get hX kf_LL_30 nd_LL_load_59 h0 rfl ?_
      refine gw_callV (rest := []) hX ks_LL_72 (ct_We_clear _ _ _ _ (n + 82) _ t0 t1) t0 rfl rfl (Nat.le_of_ble_eq_true rfl) nd_LL_load_62 (by decide) ?_
      rintro _ σ6 ⟨rfl, t0, t1, hf⟩
      have h0 : σ6.2 n = some (.inr (0, [.ref (n + 1), .ref (n + 3), .ref (n + 80), .ref (n + 82), .ref cd, .ref c, .ref s, .ref sd, .int (nI A.mk), .int (nI A.ps), .int (nI A.kw), .int (nI A.kc)])) := (hf.2 n (by omega)).trans h0
      have x0 : σ6.2 (n + 1) = some (.inr (6, [.ref (n + 1 + 1), .int (nI 0), .int (nI k)])) := (hf.2 (n + 1) (by omega)).trans x0
      have x1 : σ6.2 (n + 1 + 1) = some ((gw_Ch (gw_z X) 240 (fun j => nI (A.ch j)))) := (hf.2 (n + 1 + 1) (by omega)).trans x1
      have d0 : σ6.2 cd = some (.inr (2, [.ref (cd + 1), .int (nI ss.length)])) := (hf.2 cd (by omega)).trans d0
      have w0 : σ6.2 (n + 80) = some (.inr (7, [.ref (n + 80 + 1)])) := (hf.2 (n + 80) (by omega)).trans w0
      have w1 : σ6.2 (n + 80 + 1) = some ((gw_J (gw_z X) 148 (fun _ => iL 0))) := (hf.2 (n + 80 + 1) (by omega)).trans w1
      have fr : gw_f2 σ1 σ6 n (n + 3) (n + 80) (n + 84) := gw_f2_r fr hf
      show gw_W X σ6 0 0 65 [(1, .ref c), (0, .ref n)] []
      refine gw_aload_n hX nd_LL_load_65 rfl 1 rfl ?_
      refine gw_iconst (v := nI 0) hX nd_LL_load_66 rfl ?_
      refine gw_put hX kf_LL_75 nd_LL_load_67 h0 rfl rfl (Nat.le_of_ble_eq_true rfl) (e' := .inr (0, [.ref (n + 1), .ref (n + 3), .ref (n + 80), .ref (n + 82), .ref cd, .ref c, .ref s, .ref sd, .int (nI 0), .int (nI A.ps), .int (nI A.kw), .int (nI A.kc)])) rfl ?_
      obtain ⟨σ7, eσ7⟩ : ∃ hp_, hp_ = gw_up σ6 n (.inr (0, [.ref (n + 1), .ref (n + 3), .ref (n + 80), .ref (n + 82), .ref cd, .ref c, .ref s, .ref sd, .int (nI 0), .int (nI A.ps), .int (nI A.kw), .int (nI A.kc)])) := ⟨_, rfl⟩
      refine gw_heap eσ7.symm ?_
      have h0 : σ7.2 n = some (.inr (0, [.ref (n + 1), .ref (n + 3), .ref (n + 80), .ref (n + 82), .ref cd, .ref c, .ref s, .ref sd, .int (nI 0), .int (nI A.ps), .int (nI A.kw), .int (nI A.kc)])) := by rw [eσ7]; exact gw_up_eq _ _ _
      have x0 : σ7.2 (n + 1) = some (.inr (6, [.ref (n + 1 + 1), .int (nI 0), .int (nI k)])) := by rw [eσ7, gw_up_ne (by omega)]; exact x0
      have x1 : σ7.2 (n + 1 + 1) = some ((gw_Ch (gw_z X) 240 (fun j => nI (A.ch j)))) := by rw [eσ7, gw_up_ne (by omega)]; exact x1
      have d0 : σ7.2 cd = some (.inr (2, [.ref (cd + 1), .int (nI ss.length)])) := by rw [eσ7, gw_up_ne (by omega)]; exact d0
      have w0 : σ7.2 (n + 80) = some (.inr (7, [.ref (n + 80 + 1)])) := by rw [eσ7, gw_up_ne (by omega)]; exact w0
      have w1 : σ7.2 (n + 80 + 1) = some ((gw_J (gw_z X) 148 (fun _ => iL 0))) := by rw [eσ7, gw_up_ne (by omega)]; exact w1
      have t0 : σ7.2 (n + 82) = some (.inr (7, [.ref (n + 82 + 1)])) := by rw [eσ7, gw_up_ne (by omega)]; exact t0
      have t1 : σ7.2 (n + 82 + 1) = some ((gw_J (gw_z X) 148 (fun _ => iL 0))) := by rw [eσ7, gw_up_ne (by omega)]; exact t1
      have fr : gw_f2 σ1 σ7 n (n + 3) (n + 80) (n + 84) := by first | exact gw_f2_l fr (show gw_fr _ σ7 n (n + 3) by rw [eσ7]; exact gw_fr_up _ _ _ (by omega) (by omega)) | exact gw_f2_r fr (show gw_fr _ σ7 (n + 80) (n + 84) by rw [eσ7]; exact gw_fr_up _ _ _ (by omega) (by omega))
      refine gw_aload_n hX nd_LL_load_70 rfl 1 rfl ?_
      refine gw_iconst (v := nI 0) hX nd_LL_load_71 rfl ?_
      refine gw_put hX kf_LL_79 nd_LL_load_72 h0 rfl rfl (Nat.le_of_ble_eq_true rfl) (e' := .inr (0, [.ref (n + 1), .ref (n + 3), .ref (n + 80), .ref (n + 82), .ref cd, .ref c, .ref s, .ref sd, .int (nI 0), .int (nI 0), .int (nI A.kw), .int (nI A.kc)])) rfl ?_
      obtain ⟨σ8, eσ8⟩ : ∃ hp_, hp_ = gw_up σ7 n (.inr (0, [.ref (n + 1), .ref (n + 3), .ref (n + 80), .ref (n + 82), .ref cd, .ref c, .ref s, .ref sd, .int (nI 0), .int (nI 0), .int (nI A.kw), .int (nI A.kc)])) := ⟨_, rfl⟩
      refine gw_heap eσ8.symm ?_
      have h0 : σ8.2 n = some (.inr (0, [.ref (n + 1), .ref (n + 3), .ref (n + 80), .ref (n + 82), .ref cd, .ref c, .ref s, .ref sd, .int (nI 0), .int (nI 0), .int (nI A.kw), .int (nI A.kc)])) := by rw [eσ8]; exact gw_up_eq _ _ _
      have x0 : σ8.2 (n + 1) = some (.inr (6, [.ref (n + 1 + 1), .int (nI 0), .int (nI k)])) := by rw [eσ8, gw_up_ne (by omega)]; exact x0
      have x1 : σ8.2 (n + 1 + 1) = some ((gw_Ch (gw_z X) 240 (fun j => nI (A.ch j)))) := by rw [eσ8, gw_up_ne (by omega)]; exact x1
      have d0 : σ8.2 cd = some (.inr (2, [.ref (cd + 1), .int (nI ss.length)])) := by rw [eσ8, gw_up_ne (by omega)]; exact d0
      have w0 : σ8.2 (n + 80) = some (.inr (7, [.ref (n + 80 + 1)])) := by rw [eσ8, gw_up_ne (by omega)]; exact w0
      have w1 : σ8.2 (n + 80 + 1) = some ((gw_J (gw_z X) 148 (fun _ => iL 0))) := by rw [eσ8, gw_up_ne (by omega)]; exact w1
      have t0 : σ8.2 (n + 82) = some (.inr (7, [.ref (n + 82 + 1)])) := by rw [eσ8, gw_up_ne (by omega)]; exact t0
      have t1 : σ8.2 (n + 82 + 1) = some ((gw_J (gw_z X) 148 (fun _ => iL 0))) := by rw [eσ8, gw_up_ne (by omega)]; exact t1
      have fr : gw_f2 σ1 σ8 n (n + 3) (n + 80) (n + 84) := by first | exact gw_f2_l fr (show gw_fr _ σ8 n (n + 3) by rw [eσ8]; exact gw_fr_up _ _ _ (by omega) (by omega)) | exact gw_f2_r fr (show gw_fr _ σ8 (n + 80) (n + 84) by rw [eσ8]; exact gw_fr_up _ _ _ (by omega) (by omega))
      refine gw_aload_n hX nd_LL_load_75 rfl 1 rfl ?_
      refine gw_callV (rest := []) hX ks_LL_82 (ct_LL_forgetDecoding _ _ _ _ n cd c s sd 0 0 A.kw A.kc h0) h0 rfl rfl (Nat.le_of_ble_eq_true rfl) nd_LL_load_76 (by decide) ?_
      rintro _ σ9 ⟨rfl, h0, hf⟩
      have x0 : σ9.2 (n + 1) = some (.inr (6, [.ref (n + 1 + 1), .int (nI 0), .int (nI k)])) := (hf.2 (n + 1) (by omega)).trans x0
      have x1 : σ9.2 (n + 1 + 1) = some ((gw_Ch (gw_z X) 240 (fun j => nI (A.ch j)))) := (hf.2 (n + 1 + 1) (by omega)).trans x1
      have d0 : σ9.2 cd = some (.inr (2, [.ref (cd + 1), .int (nI ss.length)])) := (hf.2 cd (by omega)).trans d0
      have w0 : σ9.2 (n + 80) = some (.inr (7, [.ref (n + 80 + 1)])) := (hf.2 (n + 80) (by omega)).trans w0
      have w1 : σ9.2 (n + 80 + 1) = some ((gw_J (gw_z X) 148 (fun _ => iL 0))) := (hf.2 (n + 80 + 1) (by omega)).trans w1
      have t0 : σ9.2 (n + 82) = some (.inr (7, [.ref (n + 82 + 1)])) := (hf.2 (n + 82) (by omega)).trans t0
      have t1 : σ9.2 (n + 82 + 1) = some ((gw_J (gw_z X) 148 (fun _ => iL 0))) := (hf.2 (n + 82 + 1) (by omega)).trans t1
      have fr : gw_f2 σ1 σ9 n (n + 3) (n + 80) (n + 84) := gw_f2_l fr hf
      show gw_W X σ9 0 0 79 [(1, .ref c), (0, .ref n)] []
      refine gw_aload_n hX nd_LL_load_79 rfl 1 rfl ?_
      refine gw_get hX kf_LL_36 nd_LL_load_80 h0 rfl ?_
      refine gw_get hX kf_LL_85 nd_LL_load_83 d0 rfl ?_
      exact gx_iret hX hQ hr nd_LL_load_86 (by decide) (by decide) ⟨⟨ss, hss, rfl, ab_ok_ld hA hs8 (fun j ws e => ⟨⟨(d3 j ws e).2.1, (d3 j ws e).2.2.1⟩, (d3 j ws e).2.2.2⟩), ⟨⟨Or.symm (by omega), hsw.2⟩, h0, ⟨k, hk, x0, x1⟩, de_at_f2 (de_at_f2 hde hf0 (by omega) (by omega)) fr (by omega) (by omega), ⟨w0, w1⟩, ⟨t0, t1⟩, rc_at_f2 hs8 hrs fr (by omega) (by omega), rc_any_f2 (rc_at_any (rc_at_f2 hl8 hrc hf0 (by omega) (by omega))) fr (by omega) (by omega), se_at_f2 (se_at_f2 hsp hf0 (by omega) (by omega)) fr (by omega) (by omega), se_any_f2 (se_any_f2 hsd hf0 (by omega) (by omega)) fr (by omega) (by omega)⟩⟩, fun b hb9 => (fr.2 b (by omega) (by omega)).trans (hf0.2 b (by omega) (by omega))⟩
    · have hb : 1 = 0 := (nI_eq (a := 1) (b := 0) (by omega) (by omega)).mp hb
      exfalso; omega
  · show gw_W X σ1 0 0 11 [(0, .ref n)] [.int (nI 0)]
    refine gw_if_ne (tgt := 24) hX nd_LL_load_11 rfl (fun hb => ?_) (fun hb => ?_)
    · have hb : ¬ 0 = 0 := fun h => hb ((nI_eq (a := 0) (b := 0) (by omega) (by omega)).mpr h)
      exfalso; omega
    · have hb : 0 = 0 := (nI_eq (a := 0) (b := 0) (by omega) (by omega)).mp hb
      exact gx_throw (tx := "the text is no corpus") hX hE hQ gx_sIA (by decide +kernel) nd_LL_load_14 nd_LL_load_17 nd_LL_load_18 nd_LL_load_20 nd_LL_load_23 (by decide) (by decide) (by decide) (by decide) (by decide) (by decide) ⟨rfl, hno, (show cw_at σ1 (gw_z X) n A c cd s sd from cw_badC hl8 hC hf0 htk hra), fun b hb9 => hf0.2 b (by clear htk; omega) (by clear htk; omega)⟩
set_option maxRecDepth 100000 in
set_option maxHeartbeats 4000000 in
theorem ct_LL_speak (l : Launch) (hl0 : l.stackTraces = false) (Z : gw_Z) (b0 : Nat) (σ : gw_S) (n c cd s sd : Nat) (A : ab_A) (hA : ab_ok A) (hC : cw_at σ Z n A c cd s sd) : gx_M l ny_LL_speak nc_LL_speak (2, 6, 119, 1, 6) (some .int) Z b0 σ [.ref n] (fun v σ' => (∃ ws : List px_W, px_S A.len A.ch false 0 = some (A.len, ws) ∧ v = some (.int (nI ws.length)) ∧ ab_ok (ab_sk A ws) ∧ ws ≠ [] ∧ cw_at σ' Z n (ab_sk A ws) c cd sd s) ∧ (∀ b, b < n ∨ n + 124 ≤ b → σ'.2 b = σ.2 b)) (fun E σ' => E = gx_IA ∧ (∀ ws : List px_W, px_S A.len A.ch false 0 ≠ some (A.len, ws)) ∧ cw_at σ' Z n A c cd s sd ∧ (∀ b, b < n ∨ n + 124 ≤ b → σ'.2 b = σ.2 b)) := by
  refine gx_M_of rfl (Nat.le_of_ble_eq_true rfl) hl0 ?_
  intro X hX hl hz hb0 hr hnm hQ hE
  subst hz hb0 hl
  have hX : gw_ok X nc_LL_speak "LabelLearner" (2, 6, 119, 1, 6) := hX
  show gw_W X σ 0 0 0 [(0, .ref n)] []
  obtain ⟨hsw, h0, ⟨kt, hkt, htx⟩, hde, hwe, hte, hrc, hrd, hsp, hsd⟩ := id hC
  obtain ⟨sw1, sw2⟩ := id hsw
  obtain ⟨c0, c1, c2, c3⟩ := id hrc
  obtain ⟨bsp, s0, s1, hbsp⟩ := id hsp
  have hl8 := hA.2.2.1
  have hsl := hA.2.2.2.2.1.2
  refine gw_aload_n hX nd_LL_speak_0 rfl 0 rfl ?_
  refine gw_get hX kf_LL_10 nd_LL_speak_1 h0 rfl ?_
  refine gw_aload_n hX nd_LL_speak_4 rfl 0 rfl ?_
  refine gw_get hX kf_LL_50 nd_LL_speak_5 h0 rfl ?_
  refine gw_callV (rest := []) hX ks_LL_88 (ct_Te_readSpeech _ _ _ σ (n + 1) sd A.len kt A.ch hA.1 hA.2.1 (by omega) htx hsd) htx.1 rfl rfl (Nat.le_of_ble_eq_true rfl) nd_LL_speak_8 (by decide) ?_
  rintro v_ σ1 ⟨⟨ws, hws, rfl, hrs, hso, hs6, hsne⟩ | ⟨hno, rfl, hra⟩, htk, hf0⟩
  · obtain ⟨k, hk, x0, x1⟩ := htk
    have h0 := (hf0.2 n (by omega) (by omega)).trans h0
    obtain ⟨bd, d0, d1, d2⟩ := id hrs
    have fr : gw_f2 σ1 σ1 n (n + 3) (n + 80) (n + 80) := gw_f2_rf _ _ _ _ _
    show gw_W X σ1 0 0 11 [(0, .ref n)] [.int (nI 1)]
    refine gw_if_ne (tgt := 24) hX nd_LL_speak_11 rfl (fun hb => ?_) (fun hb => ?_)
    · have hb : ¬ 1 = 0 := fun h => hb ((nI_eq (a := 1) (b := 0) (by omega) (by omega)).mpr h)
      refine gw_aload_n hX nd_LL_speak_24 rfl 0 rfl ?_
      refine gw_get hX kf_LL_46 nd_LL_speak_25 h0 rfl ?_
      refine gw_astore_n hX nd_LL_speak_28 rfl (by decide) (L' := [(1, .ref s), (0, .ref n)]) rfl ?_
      refine gw_aload_n hX nd_LL_speak_29 rfl 1 rfl ?_
      refine gw_aload_n hX nd_LL_speak_30 rfl 1 rfl ?_
      refine gw_get hX kf_LL_50 nd_LL_speak_31 h0 rfl ?_
      refine gw_put hX kf_LL_46 nd_LL_speak_34 h0 rfl rfl (Nat.le_of_ble_eq_true rfl) (e' := .inr (0, [.ref (n + 1), .ref (n + 3), .ref (n + 80), .ref (n + 82), .ref c, .ref cd, .ref sd, .ref sd, .int (nI A.mk), .int (nI A.ps), .int (nI A.kw), .int (nI A.kc)])) rfl ?_
      obtain ⟨σ2, eσ2⟩ : ∃ hp_, hp_ = gw_up σ1 n (.inr (0, [.ref (n + 1), .ref (n + 3), .ref (n + 80), .ref (n + 82), .ref c, .ref cd, .ref sd, .ref sd, .int (nI A.mk), .int (nI A.ps), .int (nI A.kw), .int (nI A.kc)])) := ⟨_, rfl⟩
      refine gw_heap eσ2.symm ?_
      have h0 : σ2.2 n = some (.inr (0, [.ref (n + 1), .ref (n + 3), .ref (n + 80), .ref (n + 82), .ref c, .ref cd, .ref sd, .ref sd, .int (nI A.mk), .int (nI A.ps), .int (nI A.kw), .int (nI A.kc)])) := by rw [eσ2]; exact gw_up_eq _ _ _
      have x0 : σ2.2 (n + 1) = some (.inr (6, [.ref (n + 1 + 1), .int (nI A.len), .int (nI k)])) := by rw [eσ2, gw_up_ne (by omega)]; exact x0
      have x1 : σ2.2 (n + 1 + 1) = some ((gw_Ch (gw_z X) 240 (fun j => nI (A.ch j)))) := by rw [eσ2, gw_up_ne (by omega)]; exact x1
      have d0 : σ2.2 sd = some (.inr (5, [.ref (sd + 1), .int (nI (se_c ws)), .int (nI ws.length)])) := by rw [eσ2, gw_up_ne (by omega)]; exact d0
      have fr : gw_f2 σ1 σ2 n (n + 3) (n + 80) (n + 80) := by first | exact gw_f2_l fr (show gw_fr _ σ2 n (n + 3) by rw [eσ2]; exact gw_fr_up _ _ _ (by omega) (by omega)) | exact gw_f2_r fr (show gw_fr _ σ2 (n + 80) (n + 80) by rw [eσ2]; exact gw_fr_up _ _ _ (by omega) (by omega))
      refine gw_aload_n hX nd_LL_speak_37 rfl 1 rfl ?_
      refine gw_aload_n hX nd_LL_speak_38 rfl 0 rfl ?_
      refine gw_put hX kf_LL_50 nd_LL_speak_39 h0 rfl rfl (Nat.le_of_ble_eq_true rfl) (e' := .inr (0, [.ref (n + 1), .ref (n + 3), .ref (n + 80), .ref (n + 82), .ref c, .ref cd, .ref sd, .ref s, .int (nI A.mk), .int (nI A.ps), .int (nI A.kw), .int (nI A.kc)])) rfl ?_
      obtain ⟨σ3, eσ3⟩ : ∃ hp_, hp_ = gw_up σ2 n (.inr (0, [.ref (n + 1), .ref (n + 3), .ref (n + 80), .ref (n + 82), .ref c, .ref cd, .ref sd, .ref s, .int (nI A.mk), .int (nI A.ps), .int (nI A.kw), .int (nI A.kc)])) := ⟨_, rfl⟩
      refine gw_heap eσ3.symm ?_
      have h0 : σ3.2 n = some (.inr (0, [.ref (n + 1), .ref (n + 3), .ref (n + 80), .ref (n + 82), .ref c, .ref cd, .ref sd, .ref s, .int (nI A.mk), .int (nI A.ps), .int (nI A.kw), .int (nI A.kc)])) := by rw [eσ3]; exact gw_up_eq _ _ _
      have x0 : σ3.2 (n + 1) = some (.inr (6, [.ref (n + 1 + 1), .int (nI A.len), .int (nI k)])) := by rw [eσ3, gw_up_ne (by omega)]; exact x0
      have x1 : σ3.2 (n + 1 + 1) = some ((gw_Ch (gw_z X) 240 (fun j => nI (A.ch j)))) := by rw [eσ3, gw_up_ne (by omega)]; exact x1
      have d0 : σ3.2 sd = some (.inr (5, [.ref (sd + 1), .int (nI (se_c ws)), .int (nI ws.length)])) := by rw [eσ3, gw_up_ne (by omega)]; exact d0
      have fr : gw_f2 σ1 σ3 n (n + 3) (n + 80) (n + 80) := by first | exact gw_f2_l fr (show gw_fr _ σ3 n (n + 3) by rw [eσ3]; exact gw_fr_up _ _ _ (by omega) (by omega)) | exact gw_f2_r fr (show gw_fr _ σ3 (n + 80) (n + 80) by rw [eσ3]; exact gw_fr_up _ _ _ (by omega) (by omega))
      refine gw_aload_n hX nd_LL_speak_42 rfl 1 rfl ?_
      refine gw_get hX kf_LL_10 nd_LL_speak_43 h0 rfl ?_
      refine gw_iconst (v := nI 0) hX nd_LL_speak_46 rfl ?_
      refine gw_callV (rest := []) hX ks_LL_57 (ct_Te_keep _ _ _ _ (n + 1) A.len k A.ch hA.1 (nI 0) ⟨x0, x1⟩) x0 rfl rfl (Nat.le_of_ble_eq_true rfl) nd_LL_speak_47 (by decide) ?_
      rintro _ σ4 ⟨hor, hf⟩
      have h0 : σ4.2 n = some (.inr (0, [.ref (n + 1), .ref (n + 3), .ref (n + 80), .ref (n + 82), .ref c, .ref cd, .ref sd, .ref s, .int (nI A.mk), .int (nI A.ps), .int (nI A.kw), .int (nI A.kc)])) := (hf.2 n (by omega)).trans h0
      have d0 : σ4.2 sd = some (.inr (5, [.ref (sd + 1), .int (nI (se_c ws)), .int (nI ws.length)])) := (hf.2 sd (by omega)).trans d0
      have fr : gw_f2 σ1 σ4 n (n + 3) (n + 80) (n + 80) := gw_f2_l fr hf
      obtain ⟨rfl, x0, x1⟩ := keep_0 hA.1 hor
      clear hor
      show gw_W X σ4 0 0 50 [(1, .ref s), (0, .ref n)] [.int (nI 1)]
      refine gw_pop hX nd_LL_speak_50 rfl ?_
      refine gw_aload_n hX nd_LL_speak_51 rfl 1 rfl ?_
      refine gw_callV (rest := []) hX ks_LL_82 (ct_LL_forgetDecoding _ _ _ _ n c cd sd s A.mk A.ps A.kw A.kc h0) h0 rfl rfl (Nat.le_of_ble_eq_true rfl) nd_LL_speak_52 (by decide) ?_
      rintro _ σ5 ⟨rfl, h0, hf⟩
      have x0 : σ5.2 (n + 1) = some (.inr (6, [.ref (n + 1 + 1), .int (nI 0), .int (nI k)])) := (hf.2 (n + 1) (by omega)).trans x0
      have x1 : σ5.2 (n + 1 + 1) = some ((gw_Ch (gw_z X) 240 (fun j => nI (A.ch j)))) := (hf.2 (n + 1 + 1) (by omega)).trans x1
      have d0 : σ5.2 sd = some (.inr (5, [.ref (sd + 1), .int (nI (se_c ws)), .int (nI ws.length)])) := (hf.2 sd (by omega)).trans d0
      have fr : gw_f2 σ1 σ5 n (n + 3) (n + 80) (n + 80) := gw_f2_l fr hf
      show gw_W X σ5 0 0 55 [(1, .ref s), (0, .ref n)] []
      refine gw_aload_n hX nd_LL_speak_55 rfl 1 rfl ?_
      refine gw_get hX kf_LL_46 nd_LL_speak_56 h0 rfl ?_
      refine gw_get hX kf_LL_94 nd_LL_speak_59 d0 rfl ?_
      exact gx_iret hX hQ hr nd_LL_speak_62 (by decide) (by decide) ⟨⟨ws, hws, rfl, ab_ok_sk hA ⟨hso, hs6⟩, hsne, ⟨⟨hsw.1, Or.symm (by omega)⟩, h0, ⟨k, hk, x0, x1⟩, de_at_f2 (de_at_f2 hde hf0 (by omega) (by omega)) fr (by omega) (by omega), we_at_f2 (we_at_f2 hwe hf0 (by omega) (by omega)) fr (by omega) (by omega), we_at_f2 (we_at_f2 hte hf0 (by omega) (by omega)) fr (by omega) (by omega), rc_at_f2 hl8 (rc_at_f2 hl8 hrc hf0 (by omega) (by omega)) fr (by omega) (by omega), rc_any_f2 (rc_any_f2 hrd hf0 (by omega) (by omega)) fr (by omega) (by omega), se_at_f2 hrs fr (by omega) (by omega), se_any_f2 (se_any_f2 (se_at_any hsp) hf0 (by omega) (by omega)) fr (by omega) (by omega)⟩⟩, fun b hb9 => (fr.2 b (by omega) (by omega)).trans (hf0.2 b (by omega) (by omega))⟩
    · have hb : 1 = 0 := (nI_eq (a := 1) (b := 0) (by omega) (by omega)).mp hb
      exfalso; omega
  · show gw_W X σ1 0 0 11 [(0, .ref n)] [.int (nI 0)]
    refine gw_if_ne (tgt := 24) hX nd_LL_speak_11 rfl (fun hb => ?_) (fun hb => ?_)
    · have hb : ¬ 0 = 0 := fun h => hb ((nI_eq (a := 0) (b := 0) (by omega) (by omega)).mpr h)
      exfalso; omega
    · have hb : 0 = 0 := (nI_eq (a := 0) (b := 0) (by omega) (by omega)).mp hb
      exact gx_throw (tx := "the text is no speech") hX hE hQ gx_sIA (by decide +kernel) nd_LL_speak_14 nd_LL_speak_17 nd_LL_speak_18 nd_LL_speak_20 nd_LL_speak_23 (by decide) (by decide) (by decide) (by decide) (by decide) (by decide) ⟨rfl, hno, (show cw_at σ1 (gw_z X) n A c cd s sd from cw_badS hl8 hC hf0 htk hra), fun b hb9 => hf0.2 b (by clear htk; omega) (by clear htk; omega)⟩
