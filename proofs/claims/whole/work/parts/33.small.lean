set_option maxRecDepth 100000 in
set_option maxHeartbeats 4000000 in
theorem ct_LL_mistakes (l : Launch) (Z : gw_Z) (b0 : Nat) (σ : gw_S) (n c cd s sd : Nat) (A : ab_A) (hA : ab_ok A) (hC : cw_at σ Z n A c cd s sd) : gw_M l ny_LL_mistakes nc_LL_mistakes (1, 0, 0, 0, 0) (some .int) Z b0 σ [.ref n] (fun v σ' => v = some (.int (nI A.mk)) ∧ σ' = σ) := by
  refine gw_M_of rfl (Nat.le_of_ble_eq_true rfl) ?_
  intro X hX hl hz hb0 hr hnm hQ
  subst hz hb0 hl
  have hX : gw_ok X nc_LL_mistakes "LabelLearner" (1, 0, 0, 0, 0) := hX
  show gw_W X σ 0 0 0 [(0, .ref n)] []
  obtain ⟨hsw, h0, ⟨kt, hkt, htx⟩, hde, hwe, hte, hrc, hrd, hsp, hsd⟩ := id hC
  obtain ⟨sw1, sw2⟩ := id hsw
  obtain ⟨c0, c1, c2, c3⟩ := id hrc
  obtain ⟨bsp, s0, s1, hbsp⟩ := id hsp
  have hl8 := hA.2.2.1
  have hsl := hA.2.2.2.2.1.2
  refine gw_aload_n hX nd_LL_mistakes_0 rfl 0 rfl ?_
  refine gw_get hX kf_LL_75 nd_LL_mistakes_1 h0 rfl ?_
  exact gw_iret hX hQ hr nd_LL_mistakes_4 (by decide) (by decide) ⟨rfl, rfl⟩
set_option maxRecDepth 100000 in
set_option maxHeartbeats 4000000 in
theorem ct_LL_passes (l : Launch) (Z : gw_Z) (b0 : Nat) (σ : gw_S) (n c cd s sd : Nat) (A : ab_A) (hA : ab_ok A) (hC : cw_at σ Z n A c cd s sd) : gw_M l ny_LL_passes nc_LL_passes (1, 0, 0, 0, 0) (some .int) Z b0 σ [.ref n] (fun v σ' => v = some (.int (nI A.ps)) ∧ σ' = σ) := by
  refine gw_M_of rfl (Nat.le_of_ble_eq_true rfl) ?_
  intro X hX hl hz hb0 hr hnm hQ
  subst hz hb0 hl
  have hX : gw_ok X nc_LL_passes "LabelLearner" (1, 0, 0, 0, 0) := hX
  show gw_W X σ 0 0 0 [(0, .ref n)] []
  obtain ⟨hsw, h0, ⟨kt, hkt, htx⟩, hde, hwe, hte, hrc, hrd, hsp, hsd⟩ := id hC
  obtain ⟨sw1, sw2⟩ := id hsw
  obtain ⟨c0, c1, c2, c3⟩ := id hrc
  obtain ⟨bsp, s0, s1, hbsp⟩ := id hsp
  have hl8 := hA.2.2.1
  have hsl := hA.2.2.2.2.1.2
  refine gw_aload_n hX nd_LL_passes_0 rfl 0 rfl ?_
  refine gw_get hX kf_LL_79 nd_LL_passes_1 h0 rfl ?_
  exact gw_iret hX hQ hr nd_LL_passes_4 (by decide) (by decide) ⟨rfl, rfl⟩
set_option maxRecDepth 100000 in
set_option maxHeartbeats 4000000 in
theorem ct_LL_sentences (l : Launch) (Z : gw_Z) (b0 : Nat) (σ : gw_S) (n c cd s sd : Nat) (A : ab_A) (hA : ab_ok A) (hC : cw_at σ Z n A c cd s sd) : gw_M l ny_LL_sentences nc_LL_sentences (1, 0, 0, 0, 0) (some .int) Z b0 σ [.ref n] (fun v σ' => v = some (.int (nI A.ss.length)) ∧ σ' = σ) := by
  refine gw_M_of rfl (Nat.le_of_ble_eq_true rfl) ?_
  intro X hX hl hz hb0 hr hnm hQ
  subst hz hb0 hl
  have hX : gw_ok X nc_LL_sentences "LabelLearner" (1, 0, 0, 0, 0) := hX
  show gw_W X σ 0 0 0 [(0, .ref n)] []
  obtain ⟨hsw, h0, ⟨kt, hkt, htx⟩, hde, hwe, hte, hrc, hrd, hsp, hsd⟩ := id hC
  obtain ⟨sw1, sw2⟩ := id hsw
  obtain ⟨c0, c1, c2, c3⟩ := id hrc
  obtain ⟨bsp, s0, s1, hbsp⟩ := id hsp
  have hl8 := hA.2.2.1
  have hsl := hA.2.2.2.2.1.2
  refine gw_aload_n hX nd_LL_sentences_0 rfl 0 rfl ?_
  refine gw_get hX kf_LL_36 nd_LL_sentences_1 h0 rfl ?_
  refine gw_get hX kf_LL_85 nd_LL_sentences_4 c0 rfl ?_
  exact gw_iret hX hQ hr nd_LL_sentences_7 (by decide) (by decide) ⟨rfl, rfl⟩
set_option maxRecDepth 100000 in
set_option maxHeartbeats 4000000 in
theorem ct_LL_weightsOrTotals (l : Launch) (Z : gw_Z) (b0 : Nat) (σ : gw_S) (n c cd s sd : Nat) (A : ab_A) (hA : ab_ok A) (hC : cw_at σ Z n A c cd s sd) (q : Nat) (hq : q < 2) : gw_M l ny_LL_weightsOrTotals nc_LL_weightsOrTotals (2, 0, 0, 0, 0) (some (.object "LabelLearner$Weights")) Z b0 σ [.ref n, .int (nI q)] (fun v σ' => v = some (.ref (if q = 0 then n + 80 else n + 82)) ∧ σ' = σ) := by
  refine gw_M_of rfl (Nat.le_of_ble_eq_true rfl) ?_
  intro X hX hl hz hb0 hr hnm hQ
  subst hz hb0 hl
  have hX : gw_ok X nc_LL_weightsOrTotals "LabelLearner" (2, 0, 0, 0, 0) := hX
  show gw_W X σ 0 0 0 [(0, .ref n), (1, .int (nI q))] []
  obtain ⟨hsw, h0, ⟨kt, hkt, htx⟩, hde, hwe, hte, hrc, hrd, hsp, hsd⟩ := id hC
  obtain ⟨sw1, sw2⟩ := id hsw
  obtain ⟨c0, c1, c2, c3⟩ := id hrc
  obtain ⟨bsp, s0, s1, hbsp⟩ := id hsp
  have hl8 := hA.2.2.1
  have hsl := hA.2.2.2.2.1.2
  refine gw_iload_n hX nd_LL_weightsOrTotals_0 rfl 1 rfl ?_
  refine gw_if_eq (tgt := 11) hX nd_LL_weightsOrTotals_1 rfl (fun hb => ?_) (fun hb => ?_)
  · have hb : q = 0 := (nI_eq (a := q) (b := 0) (by omega) (by omega)).mp hb
    refine gw_aload_n hX nd_LL_weightsOrTotals_11 rfl 0 rfl ?_
    refine gw_get hX kf_LL_26 nd_LL_weightsOrTotals_12 h0 rfl ?_
    exact gw_aret hX hQ hr nd_LL_weightsOrTotals_15 (by decide) (by decide) ⟨by rw [if_pos hb], rfl⟩
  · have hb : ¬ q = 0 := fun h => hb ((nI_eq (a := q) (b := 0) (by omega) (by omega)).mpr h)
    refine gw_aload_n hX nd_LL_weightsOrTotals_4 rfl 0 rfl ?_
    refine gw_get hX kf_LL_30 nd_LL_weightsOrTotals_5 h0 rfl ?_
    refine gw_goto (tgt := 15) hX nd_LL_weightsOrTotals_8 rfl ?_
    exact gw_aret hX hQ hr nd_LL_weightsOrTotals_15 (by decide) (by decide) ⟨by rw [if_neg hb], rfl⟩
set_option maxRecDepth 100000 in
set_option maxHeartbeats 4000000 in
theorem ct_LL_requireWord (l : Launch) (hl0 : l.stackTraces = false) (Z : gw_Z) (b0 : Nat) (σ : gw_S) (x : Int32) (K : Nat) (hK : K ≤ 6) : gx_M l ny_LL_requireWord nc_LL_requireWord (2, 6, 100, 1, 6) none Z b0 σ [.int x, .int (nI K)] (fun v σ' => v = none ∧ (∃ j, j < K ∧ x = nI j) ∧ σ' = σ) (fun E σ' => E = gx_IO ∧ (x < 0 ∨ ¬ x < nI K) ∧ σ' = (σ.1 + 1, σ.2)) := by
  refine gx_M_of rfl (Nat.le_of_ble_eq_true rfl) hl0 ?_
  intro X hX hl hz hb0 hr hnm hQ hE
  subst hz hb0 hl
  have hX : gw_ok X nc_LL_requireWord "LabelLearner" (2, 6, 100, 1, 6) := hX
  show gw_W X σ 0 0 0 [(0, .int x), (1, .int (nI K))] []
  refine gw_iload_n hX nd_LL_requireWord_0 rfl 0 rfl ?_
  refine gw_if_lt (tgt := 9) hX nd_LL_requireWord_1 rfl (fun hb => ?_) (fun hb => ?_)
  · skip
    exact gx_throw (tx := "no such word") hX hE hQ gx_sIO (by decide +kernel) nd_LL_requireWord_9 nd_LL_requireWord_12 nd_LL_requireWord_13 nd_LL_requireWord_15 nd_LL_requireWord_18 (by decide) (by decide) (by decide) (by decide) (by decide) (by decide) ⟨rfl, Or.inl hb, rfl⟩
  · skip
    refine gw_iload_n hX nd_LL_requireWord_4 rfl 0 rfl ?_
    refine gw_iload_n hX nd_LL_requireWord_5 rfl 1 rfl ?_
    have hb0 := hb
    refine gw_icmp_lt (tgt := 19) hX nd_LL_requireWord_6 rfl (fun hb => ?_) (fun hb => ?_)
    · skip
      exact gx_vret hX hQ hr nd_LL_requireWord_19 (by decide) (by decide) ⟨rfl, ix_of (by omega) hb0 hb, rfl⟩
    · skip
      exact gx_throw (tx := "no such word") hX hE hQ gx_sIO (by decide +kernel) nd_LL_requireWord_9 nd_LL_requireWord_12 nd_LL_requireWord_13 nd_LL_requireWord_15 nd_LL_requireWord_18 (by decide) (by decide) (by decide) (by decide) (by decide) (by decide) ⟨rfl, Or.inr hb, rfl⟩
set_option maxRecDepth 100000 in
set_option maxHeartbeats 4000000 in
theorem ct_LL_sentenceNumbered (l : Launch) (hl0 : l.stackTraces = false) (Z : gw_Z) (b0 : Nat) (σ : gw_S) (n c cd s sd : Nat) (A : ab_A) (hA : ab_ok A) (hC : cw_at σ Z n A c cd s sd) (x : Int32) : gx_M l ny_LL_sentenceNumbered nc_LL_sentenceNumbered (2, 6, 100, 1, 6) (some (.object "LabelLearner$Sentence")) Z b0 σ [.ref n, .int x] (fun v σ' => (∃ (ws : List px_W) (a : Nat), ab_sent A x = some ws ∧ v = some (.ref a) ∧ se_at σ Z a ws ∧ cw_ad c s a) ∧ σ' = σ) (fun E σ' => E = gx_IO ∧ ab_sent A x = none ∧ σ' = (σ.1 + 1, σ.2)) := by
  refine gx_M_of rfl (Nat.le_of_ble_eq_true rfl) hl0 ?_
  intro X hX hl hz hb0 hr hnm hQ hE
  subst hz hb0 hl
  have hX : gw_ok X nc_LL_sentenceNumbered "LabelLearner" (2, 6, 100, 1, 6) := hX
  show gw_W X σ 0 0 0 [(0, .ref n), (1, .int x)] []
  obtain ⟨hsw, h0, ⟨kt, hkt, htx⟩, hde, hwe, hte, hrc, hrd, hsp, hsd⟩ := id hC
  obtain ⟨sw1, sw2⟩ := id hsw
  obtain ⟨c0, c1, c2, c3⟩ := id hrc
  obtain ⟨bsp, s0, s1, hbsp⟩ := id hsp
  have hl8 := hA.2.2.1
  have hsl := hA.2.2.2.2.1.2
  refine gw_iload_n hX nd_LL_sentenceNumbered_0 rfl 1 rfl ?_
  refine gw_iconst (v := (-1)) hX nd_LL_sentenceNumbered_1 rfl ?_
  refine gw_icmp_ne (tgt := 20) hX nd_LL_sentenceNumbered_2 rfl (fun hb => ?_) (fun hb => ?_)
  · skip
    refine gw_iload_n hX nd_LL_sentenceNumbered_20 rfl 1 rfl ?_
    have hx1 := hb
    refine gw_if_lt (tgt := 35) hX nd_LL_sentenceNumbered_21 rfl (fun hb => ?_) (fun hb => ?_)
    · skip
      exact gx_throw (tx := "no such sentence") hX hE hQ gx_sIO (by decide +kernel) nd_LL_sentenceNumbered_35 nd_LL_sentenceNumbered_38 nd_LL_sentenceNumbered_39 nd_LL_sentenceNumbered_41 nd_LL_sentenceNumbered_44 (by decide) (by decide) (by decide) (by decide) (by decide) (by decide) ⟨rfl, ab_sent_no hl8 (Or.inl hx1) (Or.inl hb), rfl⟩
    · skip
      refine gw_iload_n hX nd_LL_sentenceNumbered_24 rfl 1 rfl ?_
      refine gw_aload_n hX nd_LL_sentenceNumbered_25 rfl 0 rfl ?_
      refine gw_get hX kf_LL_36 nd_LL_sentenceNumbered_26 h0 rfl ?_
      refine gw_get hX kf_LL_85 nd_LL_sentenceNumbered_29 c0 rfl ?_
      have hx2 := hb
      refine gw_icmp_lt (tgt := 45) hX nd_LL_sentenceNumbered_32 rfl (fun hb => ?_) (fun hb => ?_)
      · skip
        obtain ⟨j, hj, rfl⟩ := ix_of (K := A.ss.length) (by omega) hx2 hb
        refine gw_aload_n hX nd_LL_sentenceNumbered_45 rfl 0 rfl ?_
        refine gw_get hX kf_LL_36 nd_LL_sentenceNumbered_46 h0 rfl ?_
        refine gw_get hX kf_LL_165 nd_LL_sentenceNumbered_49 c0 rfl ?_
        refine gw_iload_n hX nd_LL_sentenceNumbered_52 rfl 1 rfl ?_
        refine gw_ald3 hX nd_LL_sentenceNumbered_53 c1 j rfl (by omega) (by decide) (r := c + 2 + 2 * j) rfl ?_
        exact gx_aret hX hQ hr nd_LL_sentenceNumbered_54 (by decide) (by decide) ⟨⟨A.ss[j], c + 2 + 2 * j, ab_sent_of hj hl8, rfl, (c3 j _ (List.getElem?_eq_getElem hj)).1, Or.inr ⟨j, by omega, rfl⟩⟩, rfl⟩
      · skip
        exact gx_throw (tx := "no such sentence") hX hE hQ gx_sIO (by decide +kernel) nd_LL_sentenceNumbered_35 nd_LL_sentenceNumbered_38 nd_LL_sentenceNumbered_39 nd_LL_sentenceNumbered_41 nd_LL_sentenceNumbered_44 (by decide) (by decide) (by decide) (by decide) (by decide) (by decide) ⟨rfl, ab_sent_no hl8 (Or.inl hx1) (Or.inr hb), rfl⟩
  · skip
    subst hb
    refine gw_aload_n hX nd_LL_sentenceNumbered_5 rfl 0 rfl ?_
    refine gw_get hX kf_LL_46 nd_LL_sentenceNumbered_6 h0 rfl ?_
    refine gw_get hX kf_LL_94 nd_LL_sentenceNumbered_9 s0 rfl ?_
    
    refine gw_if_le (tgt := 20) hX nd_LL_sentenceNumbered_12 rfl (fun hb => ?_) (fun hb => ?_)
    · have hb : A.sp.length ≤ 0 := (nI_leI (a := A.sp.length) (b := 0) (by omega) (by omega)).mp hb
      have hz := hb
      refine gw_iload_n hX nd_LL_sentenceNumbered_20 rfl 1 rfl ?_
      refine gw_if_lt (tgt := 35) hX nd_LL_sentenceNumbered_21 rfl (fun hb => ?_) (fun hb => ?_)
      · skip
        exact gx_throw (tx := "no such sentence") hX hE hQ gx_sIO (by decide +kernel) nd_LL_sentenceNumbered_35 nd_LL_sentenceNumbered_38 nd_LL_sentenceNumbered_39 nd_LL_sentenceNumbered_41 nd_LL_sentenceNumbered_44 (by decide) (by decide) (by decide) (by decide) (by decide) (by decide) ⟨rfl, ab_sent_no hl8 (Or.inr (by omega)) (Or.inl (by decide)), rfl⟩
      · skip
        exact absurd (by decide) hb
    · have hb : ¬ A.sp.length ≤ 0 := fun h => hb ((nI_leI (a := A.sp.length) (b := 0) (by omega) (by omega)).mpr h)
      refine gw_aload_n hX nd_LL_sentenceNumbered_15 rfl 0 rfl ?_
      refine gw_get hX kf_LL_46 nd_LL_sentenceNumbered_16 h0 rfl ?_
      exact gx_aret hX hQ hr nd_LL_sentenceNumbered_19 (by decide) (by decide) ⟨⟨A.sp, s, ab_sent_sp hb, rfl, hsp, Or.inl rfl⟩, rfl⟩
