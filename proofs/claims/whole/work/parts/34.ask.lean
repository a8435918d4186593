/-! what the questions are answered with -/
def se_B (ws : List px_W) (j : Nat) : Nat := ((ws[j / 3]?).map (fun w => px_k w (j % 3))).getD 0
theorem se_B_ok {b : Nat → Int32} {ws : List px_W} (h : se_bk b ws) (ho : se_ok ws) : ∀ j, j < ws.length * 3 → b j = nI (se_B ws j) ∧ se_B ws j < 32 := by
  intro j hj
  have h1 : j / 3 < ws.length := by omega
  have e := List.getElem?_eq_getElem h1
  obtain ⟨p0, p1, p2⟩ := h _ _ e
  obtain ⟨o0, o1, o2, -⟩ := ho _ (List.getElem_mem h1)
  unfold se_B
  rw [e]
  simp only [Option.map_some, Option.getD_some]
  have hm : j % 3 = 0 ∨ j % 3 = 1 ∨ j % 3 = 2 := by omega
  rcases hm with hm | hm | hm
  · rw [hm, show b j = b (j / 3 * 3 + 0) from congrArg b (by omega)]; exact ⟨p0, o0⟩
  · rw [hm, show b j = b (j / 3 * 3 + 1) from congrArg b (by omega)]; exact ⟨p1, o1⟩
  · rw [hm, show b j = b (j / 3 * 3 + 2) from congrArg b (by omega)]; exact ⟨p2, o2⟩
def ab_w (A : ab_A) (q : Nat) : Nat → Int := if q = 0 then A.wt else A.tt
def ab_label (A : ab_A) (x : Int32) : Option Nat := if x < 0 ∨ ¬ x < nI A.kw then none else some (A.kc / 4 ^ x.toNatClampNeg % 4)
def ab_wgt (A : ab_A) (x y : Int32) (q : Nat) : Option Int := if x < 0 ∨ nI 37 ≤ x ∨ y < 0 ∨ ¬ y < nI 4 then none else some (ab_w A q (x.toNatClampNeg * 4 + y.toNatClampNeg))
def ab_score (A : ab_A) (x y : Int32) (q : Nat) : Option Int := (ab_sent A x).map (fun ws => wd_T (ab_w A q) (se_B ws) (lb_at y) ws.length)
theorem cw_w {σ : gw_S} {Z : gw_Z} {n c cd s sd : Nat} {A : ab_A} (h : cw_at σ Z n A c cd s sd) (q : Nat) : we_at σ Z (if q = 0 then n + 80 else n + 82) (ab_w A q) := by
  unfold ab_w
  split
  · exact h.2.2.2.2.1
  · exact h.2.2.2.2.2.1
theorem ab_feat_z {A : ab_A} {x y z : Int32} (h : z < 0 ∨ nI 3 ≤ z) : ab_feat A x y z = none := by unfold ab_feat; rw [if_pos h]
theorem ab_feat_s {A : ab_A} {x y z : Int32} (h : ab_sent A x = none) : ab_feat A x y z = none := by unfold ab_feat; split <;> simp [h]
theorem ab_feat_w {A : ab_A} {x y z : Int32} {ws : List px_W} (h : ab_sent A x = some ws) (hw : ab_word ws y = none) : ab_feat A x y z = none := by unfold ab_feat; split <;> simp [h, hw]
theorem ab_feat_of {A : ab_A} {x : Int32} {j k : Nat} {ws : List px_W} (h : ab_sent A x = some ws) (hj : j < ws.length) (hl : ws.length ≤ 6) (hk : k < 3) : ab_feat A x (nI j) (nI k) = some (px_k ws[j] k) := by
  unfold ab_feat
  rw [if_neg, h, nI_clamp (by omega)]
  · simp [ab_word_of hj hl]
  · rintro (h1 | h1)
    · exact nI_pos (by omega) h1
    · exact absurd ((nI_leI (by omega) (by omega)).mp h1) (by omega)
theorem ab_given_1 {A : ab_A} {y : Int32} : ab_given A (-1) y = none := by unfold ab_given; rw [if_pos rfl]
theorem ab_given_s {A : ab_A} {x y : Int32} (h : ab_sent A x = none) : ab_given A x y = none := by unfold ab_given; split <;> simp [h]
theorem ab_given_w {A : ab_A} {x y : Int32} {ws : List px_W} (h : ab_sent A x = some ws) (hw : ab_word ws y = none) : ab_given A x y = none := by unfold ab_given; split <;> simp [h, hw]
theorem ab_given_of {A : ab_A} {x : Int32} {j : Nat} {ws : List px_W} (hx : ¬ x = -1) (h : ab_sent A x = some ws) (hj : j < ws.length) (hl : ws.length ≤ 6) : ab_given A x (nI j) = some ws[j].2.2.2 := by
  unfold ab_given
  rw [if_neg hx, h]
  simp [ab_word_of hj hl]
theorem ab_label_of {A : ab_A} {j : Nat} (hj : j < A.kw) (h : A.kw ≤ 6) : ab_label A (nI j) = some (A.kc / 4 ^ j % 4) := by
  unfold ab_label
  rw [if_neg, nI_clamp (by omega)]
  rintro (h1 | h1)
  · exact nI_pos (by omega) h1
  · exact h1 (nI_lt hj (by omega))
theorem ab_label_no {A : ab_A} {x : Int32} (h : x < 0 ∨ ¬ x < nI A.kw) : ab_label A x = none := by unfold ab_label; rw [if_pos h]
theorem ab_wgt_of {A : ab_A} {i j q : Nat} (hi : i < 37) (hj : j < 4) : ab_wgt A (nI i) (nI j) q = some (ab_w A q (i * 4 + j)) := by
  unfold ab_wgt
  rw [if_neg, nI_clamp (by omega), nI_clamp (by omega)]
  rintro (h1 | h1 | h1 | h1)
  · exact nI_pos (by omega) h1
  · exact absurd ((nI_leI (by omega) (by omega)).mp h1) (by omega)
  · exact nI_pos (by omega) h1
  · exact h1 (nI_lt hj (by omega))
theorem ab_wgt_no {A : ab_A} {x y : Int32} {q : Nat} (h : x < 0 ∨ nI 37 ≤ x ∨ y < 0 ∨ ¬ y < nI 4) : ab_wgt A x y q = none := by unfold ab_wgt; rw [if_pos h]
theorem fk_ok {b : Nat → Int32} {ws : List px_W} (h : se_bk b ws) (ho : se_ok ws) {j k : Nat} (hj : j < ws.length) (hk : k < 3) : b (j * 3 + k) = nI (px_k ws[j] k) ∧ px_k ws[j] k < 32 := by
  have h1 := se_B_ok h ho (j * 3 + k) (by omega)
  have h2 : se_B ws (j * 3 + k) = px_k ws[j] k := by
    unfold se_B
    rw [show (j * 3 + k) / 3 = j by omega, show (j * 3 + k) % 3 = k by omega, List.getElem?_eq_getElem hj]
    rfl
  rw [h2] at h1
  exact h1
set_option maxRecDepth 100000 in
set_option maxHeartbeats 4000000 in
theorem ct_LL_words (l : Launch) (hl0 : l.stackTraces = false) (Z : gw_Z) (b0 : Nat) (σ : gw_S) (n c cd s sd : Nat) (A : ab_A) (hA : ab_ok A) (hC : cw_at σ Z n A c cd s sd) (x : Int32) : gx_M l ny_LL_words nc_LL_words (2, 7, 121, 1, 6) (some .int) Z b0 σ [.ref n, .int x] (fun v σ' => (∃ ws : List px_W, ab_sent A x = some ws ∧ v = some (.int (nI ws.length))) ∧ σ' = σ) (fun E σ' => E = gx_IO ∧ ab_sent A x = none ∧ σ' = (σ.1 + 1, σ.2)) := by
  refine gx_M_of rfl (Nat.le_of_ble_eq_true rfl) hl0 ?_
  intro X hX hl hz hb0 hr hnm hQ hE
  subst hz hb0 hl
  have hX : gw_ok X nc_LL_words "LabelLearner" (2, 7, 121, 1, 6) := hX
  show gw_W X σ 0 0 0 [(0, .ref n), (1, .int x)] []
  obtain ⟨hsw, h0, ⟨kt, hkt, htx⟩, hde, hwe, hte, hrc, hrd, hsp, hsd⟩ := id hC
  obtain ⟨sw1, sw2⟩ := id hsw
  obtain ⟨c0, c1, c2, c3⟩ := id hrc
  obtain ⟨bsp, s0, s1, hbsp⟩ := id hsp
  have hl8 := hA.2.2.1
  have hsl := hA.2.2.2.2.1.2
  refine gw_aload_n hX nd_LL_words_0 rfl 0 rfl ?_
  refine gw_iload_n hX nd_LL_words_1 rfl 1 rfl ?_
  refine gx_callV (rest := []) hX hE.1 hE.2.2.2 ks_LL_95 (gw_in_t 406 (by decide +kernel) rfl) (ct_LL_sentenceNumbered _ hl0 _ _ _ n c cd s sd A hA hC x) h0 rfl rfl (Nat.le_of_ble_eq_true rfl) nd_LL_words_2 (by decide) (fun E_ s_ hx_ => gx_out hX hE hQ (by decide) (by decide) hx_) ?_
  rintro v_ s_ ⟨⟨ws, a, hws, rfl, hse, had⟩, hs_⟩
  have hs_ := hs_.symm
  subst hs_
  obtain ⟨bws, g0, g1, hbk⟩ := id hse
  obtain ⟨⟨hso, hsl6⟩, hne⟩ := ab_sent_ok hA hws
  have hws0 := List.length_pos_iff.mpr hne
  show gw_W X σ 1 6 5 [(0, .ref n), (1, .int x)] [.ref a]
  refine gw_get hX kf_LL_94 nd_LL_words_5 g0 rfl ?_
  exact gx_iret hX hQ hr nd_LL_words_8 (by decide) (by decide) ⟨⟨ws, hws, rfl⟩, rfl⟩
set_option maxRecDepth 100000 in
set_option maxHeartbeats 4000000 in
theorem ct_LL_given (l : Launch) (hl0 : l.stackTraces = false) (Z : gw_Z) (b0 : Nat) (σ : gw_S) (n c cd s sd : Nat) (A : ab_A) (hA : ab_ok A) (hC : cw_at σ Z n A c cd s sd) (x y : Int32) : gx_M l ny_LL_given nc_LL_given (4, 7, 121, 2, 12) (some .int) Z b0 σ [.ref n, .int x, .int y] (fun v σ' => (∃ q : Nat, ab_given A x y = some q ∧ q < 4 ∧ v = some (.int (nI q))) ∧ σ' = σ) (fun E σ' => E = gx_IO ∧ ab_given A x y = none ∧ σ' = (σ.1 + 1, σ.2)) := by
  refine gx_M_of rfl (Nat.le_of_ble_eq_true rfl) hl0 ?_
  intro X hX hl hz hb0 hr hnm hQ hE
  subst hz hb0 hl
  have hX : gw_ok X nc_LL_given "LabelLearner" (4, 7, 121, 2, 12) := hX
  show gw_W X σ 0 0 0 [(0, .ref n), (1, .int x), (2, .int y)] []
  obtain ⟨hsw, h0, ⟨kt, hkt, htx⟩, hde, hwe, hte, hrc, hrd, hsp, hsd⟩ := id hC
  obtain ⟨sw1, sw2⟩ := id hsw
  obtain ⟨c0, c1, c2, c3⟩ := id hrc
  obtain ⟨bsp, s0, s1, hbsp⟩ := id hsp
  have hl8 := hA.2.2.1
  have hsl := hA.2.2.2.2.1.2
  refine gw_iload_n hX nd_LL_given_0 rfl 1 rfl ?_
  refine gw_iconst (v := (-1)) hX nd_LL_given_1 rfl ?_
  refine gw_icmp_ne (tgt := 15) hX nd_LL_given_2 rfl (fun hb => ?_) (fun hb => ?_)
  · skip
    have hx := hb
    refine gw_aload_n hX nd_LL_given_15 rfl 0 rfl ?_
    refine gw_iload_n hX nd_LL_given_16 rfl 1 rfl ?_
    refine gx_callV (rest := []) hX hE.1 hE.2.2.2 ks_LL_95 (gw_in_t 406 (by decide +kernel) rfl) (ct_LL_sentenceNumbered _ hl0 _ _ _ n c cd s sd A hA hC x) h0 rfl rfl (Nat.le_of_ble_eq_true rfl) nd_LL_given_17 (by decide) (fun E_ s_ hx_ => gx_out hX hE hQ (by decide) (by decide) ⟨hx_.1, ab_given_s hx_.2.1, hx_.2.2⟩) ?_
    rintro v_ s_ ⟨⟨ws, a, hws, rfl, hse, had⟩, hs_⟩
    have hs_ := hs_.symm
    subst hs_
    obtain ⟨bws, g0, g1, hbk⟩ := id hse
    obtain ⟨⟨hso, hsl6⟩, hne⟩ := ab_sent_ok hA hws
    have hws0 := List.length_pos_iff.mpr hne
    show gw_W X σ 1 6 20 [(0, .ref n), (1, .int x), (2, .int y)] [.ref a]
    refine gw_astore_n hX nd_LL_given_20 rfl (by decide) (L' := [(3, .ref a), (0, .ref n), (1, .int x), (2, .int y)]) rfl ?_
    refine gw_iload_n hX nd_LL_given_21 rfl 3 rfl ?_
    refine gw_aload_n hX nd_LL_given_22 rfl 0 rfl ?_
    refine gw_get hX kf_LL_94 nd_LL_given_23 g0 rfl ?_
    refine gx_callS (rest := []) hX hE.1 hE.2.2.2 ks_LL_104 (gw_in_t 434 (by decide +kernel) rfl) (ct_LL_requireWord _ hl0 _ _ σ y ws.length hsl6) rfl rfl (Nat.le_of_ble_eq_true rfl) nd_LL_given_26 (by decide) (fun E_ s_ hx_ => gx_out hX hE hQ (by decide) (by decide) ⟨hx_.1, ab_given_w hws (ab_word_no hsl6 hx_.2.1), hx_.2.2⟩) ?_
    rintro v_ s_ ⟨hv_, ⟨j, hj, hjx⟩, hs_⟩
    have hs_ := hs_.symm
    subst hs_ hv_ hjx
    show gw_W X σ 2 12 29 [(3, .ref a), (0, .ref n), (1, .int x), (2, .int (nI j))] []
    refine gw_aload_n hX nd_LL_given_29 rfl 0 rfl ?_
    refine gw_get hX kf_LL_108 nd_LL_given_30 g0 rfl ?_
    refine gw_iload_n hX nd_LL_given_33 rfl 3 rfl ?_
    refine gw_callS (rest := []) hX ks_LL_111 (ct_LL_labelIn _ _ _ σ (nI (se_c ws)) j (by omega)) rfl rfl (Nat.le_of_ble_eq_true rfl) nd_LL_given_34 (by decide) ?_
    rintro v_ s_ ⟨hv_, hs_⟩
    have hs_ := hs_.symm
    subst hs_ hv_
    show gw_W X σ 2 12 37 [(3, .ref a), (0, .ref n), (1, .int x), (2, .int (nI j))] [.int (nI (lb_at (nI (se_c ws)) j))]
    exact gx_iret hX hQ hr nd_LL_given_37 (by decide) (by decide) ⟨⟨ws[j].2.2.2, ab_given_of hx hws hj hsl6, (hso _ (List.getElem_mem hj)).2.2.2, by rw [se_lab hso hsl6 hj]⟩, rfl⟩
  · skip
    subst hb
    exact gx_throw (tx := "the speech is not in the corpus") hX hE hQ gx_sIO (by decide +kernel) nd_LL_given_5 nd_LL_given_8 nd_LL_given_9 nd_LL_given_11 nd_LL_given_14 (by decide) (by decide) (by decide) (by decide) (by decide) (by decide) ⟨rfl, ab_given_1, rfl⟩
set_option maxRecDepth 100000 in
set_option maxHeartbeats 4000000 in
theorem ct_LL_feature (l : Launch) (hl0 : l.stackTraces = false) (Z : gw_Z) (b0 : Nat) (σ : gw_S) (n c cd s sd : Nat) (A : ab_A) (hA : ab_ok A) (hC : cw_at σ Z n A c cd s sd) (x y z : Int32) : gx_M l ny_LL_feature nc_LL_feature (5, 7, 121, 3, 18) (some .int) Z b0 σ [.ref n, .int x, .int y, .int z] (fun v σ' => (∃ q : Nat, ab_feat A x y z = some q ∧ q < 32 ∧ v = some (.int (nI q))) ∧ σ' = σ) (fun E σ' => E = gx_IO ∧ ab_feat A x y z = none ∧ σ' = (σ.1 + 1, σ.2)) := by
  refine gx_M_of rfl (Nat.le_of_ble_eq_true rfl) hl0 ?_
  intro X hX hl hz hb0 hr hnm hQ hE
  subst hz hb0 hl
  have hX : gw_ok X nc_LL_feature "LabelLearner" (5, 7, 121, 3, 18) := hX
  show gw_W X σ 0 0 0 [(0, .ref n), (1, .int x), (2, .int y), (3, .int z)] []
  obtain ⟨hsw, h0, ⟨kt, hkt, htx⟩, hde, hwe, hte, hrc, hrd, hsp, hsd⟩ := id hC
  obtain ⟨sw1, sw2⟩ := id hsw
  obtain ⟨c0, c1, c2, c3⟩ := id hrc
  obtain ⟨bsp, s0, s1, hbsp⟩ := id hsp
  have hl8 := hA.2.2.1
  have hsl := hA.2.2.2.2.1.2
  refine gw_aload_n hX nd_LL_feature_0 rfl 0 rfl ?_
  refine gw_iload_n hX nd_LL_feature_1 rfl 1 rfl ?_
  refine gx_callV (rest := []) hX hE.1 hE.2.2.2 ks_LL_95 (gw_in_t 406 (by decide +kernel) rfl) (ct_LL_sentenceNumbered _ hl0 _ _ _ n c cd s sd A hA hC x) h0 rfl rfl (Nat.le_of_ble_eq_true rfl) nd_LL_feature_2 (by decide) (fun E_ s_ hx_ => gx_out hX hE hQ (by decide) (by decide) ⟨hx_.1, ab_feat_s hx_.2.1, hx_.2.2⟩) ?_
  rintro v_ s_ ⟨⟨ws, a, hws, rfl, hse, had⟩, hs_⟩
  have hs_ := hs_.symm
  subst hs_
  obtain ⟨bws, g0, g1, hbk⟩ := id hse
  obtain ⟨⟨hso, hsl6⟩, hne⟩ := ab_sent_ok hA hws
  have hws0 := List.length_pos_iff.mpr hne
  show gw_W X σ 1 6 5 [(0, .ref n), (1, .int x), (2, .int y), (3, .int z)] [.ref a]
  refine gw_astore hX nd_LL_feature_5 (by decide) (L' := [(4, .ref a), (0, .ref n), (1, .int x), (2, .int y), (3, .int z)]) rfl ?_
  refine gw_iload_n hX nd_LL_feature_7 rfl 3 rfl ?_
  refine gw_aload hX nd_LL_feature_8 0 rfl ?_
  refine gw_get hX kf_LL_94 nd_LL_feature_10 g0 rfl ?_
  refine gx_callS (rest := []) hX hE.1 hE.2.2.2 ks_LL_104 (gw_in_t 434 (by decide +kernel) rfl) (ct_LL_requireWord _ hl0 _ _ σ y ws.length hsl6) rfl rfl (Nat.le_of_ble_eq_true rfl) nd_LL_feature_13 (by decide) (fun E_ s_ hx_ => gx_out hX hE hQ (by decide) (by decide) ⟨hx_.1, ab_feat_w hws (ab_word_no hsl6 hx_.2.1), hx_.2.2⟩) ?_
  rintro v_ s_ ⟨hv_, ⟨j, hj, hjx⟩, hs_⟩
  have hs_ := hs_.symm
  subst hs_ hv_ hjx
  show gw_W X σ 2 12 16 [(4, .ref a), (0, .ref n), (1, .int x), (2, .int (nI j)), (3, .int z)] []
  refine gw_iload_n hX nd_LL_feature_16 rfl 4 rfl ?_
  refine gw_if_lt (tgt := 25) hX nd_LL_feature_17 rfl (fun hb => ?_) (fun hb => ?_)
  · skip
    exact gx_throw (tx := "no such feature") hX hE hQ gx_sIO (by decide +kernel) nd_LL_feature_25 nd_LL_feature_28 nd_LL_feature_29 nd_LL_feature_31 nd_LL_feature_34 (by decide) (by decide) (by decide) (by decide) (by decide) (by decide) ⟨rfl, ab_feat_z (Or.inl hb), rfl⟩
  · skip
    refine gw_iload_n hX nd_LL_feature_20 rfl 4 rfl ?_
    refine gw_iconst (v := nI 3) hX nd_LL_feature_21 rfl ?_
    have hz := hb
    refine gw_icmp_lt (tgt := 35) hX nd_LL_feature_22 rfl (fun hb => ?_) (fun hb => ?_)
    · skip
      obtain ⟨k, hk, rfl⟩ := ix_of (K := 3) (by omega) hz hb
      refine gw_aload hX nd_LL_feature_35 0 rfl ?_
      refine gw_iload_n hX nd_LL_feature_37 rfl 3 rfl ?_
      refine gw_iload_n hX nd_LL_feature_38 rfl 4 rfl ?_
      refine gw_callV (rest := []) hX ks_LL_117 (ct_Se_bucketOf _ _ _ σ a j k bws _ _ g0 g1 (by omega)) g0 rfl rfl (Nat.le_of_ble_eq_true rfl) nd_LL_feature_39 (by decide) ?_
      rintro v_ s_ ⟨hv_, hs_⟩
      have hs_ := hs_.symm
      subst hs_ hv_
      show gw_W X σ 2 12 42 [(4, .ref a), (0, .ref n), (1, .int x), (2, .int (nI j)), (3, .int (nI k))] [.int (bws (j * 3 + k))]
      exact gx_iret hX hQ hr nd_LL_feature_42 (by decide) (by decide) ⟨⟨px_k ws[j] k, ab_feat_of hws hj hsl6 hk, (fk_ok hbk hso hj hk).2, by rw [(fk_ok hbk hso hj hk).1]⟩, rfl⟩
    · skip
      exact gx_throw (tx := "no such feature") hX hE hQ gx_sIO (by decide +kernel) nd_LL_feature_25 nd_LL_feature_28 nd_LL_feature_29 nd_LL_feature_31 nd_LL_feature_34 (by decide) (by decide) (by decide) (by decide) (by decide) (by decide) ⟨rfl, ab_feat_z (Or.inr (Int32.not_lt.mp hb)), rfl⟩

set_option maxRecDepth 100000 in
set_option maxHeartbeats 4000000 in
theorem ct_LL_label (l : Launch) (hl0 : l.stackTraces = false) (Z : gw_Z) (b0 : Nat) (σ : gw_S) (n c cd s sd : Nat) (A : ab_A) (hA : ab_ok A) (hC : cw_at σ Z n A c cd s sd) (x : Int32) : gx_M l ny_LL_label nc_LL_label (2, 7, 121, 1, 6) (some .int) Z b0 σ [.ref n, .int x] (fun v σ' => (∃ q : Nat, ab_label A x = some q ∧ q < 4 ∧ v = some (.int (nI q))) ∧ σ' = σ) (fun E σ' => E = gx_IO ∧ ab_label A x = none ∧ σ' = (σ.1 + 1, σ.2)) := by
  refine gx_M_of rfl (Nat.le_of_ble_eq_true rfl) hl0 ?_
  intro X hX hl hz hb0 hr hnm hQ hE
  subst hz hb0 hl
  have hX : gw_ok X nc_LL_label "LabelLearner" (2, 7, 121, 1, 6) := hX
  show gw_W X σ 0 0 0 [(0, .ref n), (1, .int x)] []
  obtain ⟨hsw, h0, ⟨kt, hkt, htx⟩, hde, hwe, hte, hrc, hrd, hsp, hsd⟩ := id hC
  obtain ⟨sw1, sw2⟩ := id hsw
  obtain ⟨c0, c1, c2, c3⟩ := id hrc
  obtain ⟨bsp, s0, s1, hbsp⟩ := id hsp
  have hl8 := hA.2.2.1
  have hsl := hA.2.2.2.2.1.2
  refine gw_iload_n hX nd_LL_label_0 rfl 1 rfl ?_
  refine gw_aload_n hX nd_LL_label_1 rfl 0 rfl ?_
  refine gw_get hX kf_LL_145 nd_LL_label_2 h0 rfl ?_
  refine gx_callS (rest := []) hX hE.1 hE.2.2.2 ks_LL_104 (gw_in_t 434 (by decide +kernel) rfl) (ct_LL_requireWord _ hl0 _ _ σ x A.kw hA.2.2.2.2.2.1) rfl rfl (Nat.le_of_ble_eq_true rfl) nd_LL_label_5 (by decide) (fun E_ s_ hx_ => gx_out hX hE hQ (by decide) (by decide) ⟨hx_.1, ab_label_no hx_.2.1, hx_.2.2⟩) ?_
  rintro v_ s_ ⟨hv_, ⟨j, hj, hjx⟩, hs_⟩
  have hs_ := hs_.symm
  subst hs_ hv_ hjx
  show gw_W X σ 1 6 8 [(0, .ref n), (1, .int (nI j))] []
  refine gw_aload_n hX nd_LL_label_8 rfl 0 rfl ?_
  refine gw_get hX kf_LL_154 nd_LL_label_9 h0 rfl ?_
  refine gw_iload_n hX nd_LL_label_12 rfl 1 rfl ?_
  have hkw := hA.2.2.2.2.2.1
  have hkc := hA.2.2.2.2.2.2
  have hkp : (4 : Nat) ^ A.kw ≤ 4 ^ 6 := Nat.pow_le_pow_right (by decide) hkw
  refine gw_callS (rest := []) hX ks_LL_111 (ct_LL_labelIn _ _ _ σ (nI A.kc) j (by omega)) rfl rfl (Nat.le_of_ble_eq_true rfl) nd_LL_label_13 (by decide) ?_
  rintro v_ s_ ⟨hv_, hs_⟩
  have hs_ := hs_.symm
  subst hs_ hv_
  show gw_W X σ 1 6 16 [(0, .ref n), (1, .int (nI j))] [.int (nI (lb_at (nI A.kc) j))]
  exact gx_iret hX hQ hr nd_LL_label_16 (by decide) (by decide) ⟨⟨_, ab_label_of hj hkw, Nat.mod_lt _ (by decide), by rw [lb_nI (by omega)]⟩, rfl⟩
set_option maxRecDepth 100000 in
set_option maxHeartbeats 4000000 in
theorem ct_LL_weight (l : Launch) (hl0 : l.stackTraces = false) (Z : gw_Z) (b0 : Nat) (σ : gw_S) (n c cd s sd : Nat) (A : ab_A) (hA : ab_ok A) (hC : cw_at σ Z n A c cd s sd) (x y : Int32) (q : Nat) (hq : q < 2) : gx_M l ny_LL_weight nc_LL_weight (4, 6, 100, 1, 6) (some .long) Z b0 σ [.ref n, .int x, .int y, .int (nI q)] (fun v σ' => (∃ z : Int, ab_wgt A x y q = some z ∧ v = some (.long (iL z))) ∧ σ' = σ) (fun E σ' => E = gx_IO ∧ ab_wgt A x y q = none ∧ σ' = (σ.1 + 1, σ.2)) := by
  refine gx_M_of rfl (Nat.le_of_ble_eq_true rfl) hl0 ?_
  intro X hX hl hz hb0 hr hnm hQ hE
  subst hz hb0 hl
  have hX : gw_ok X nc_LL_weight "LabelLearner" (4, 6, 100, 1, 6) := hX
  show gw_W X σ 0 0 0 [(0, .ref n), (1, .int x), (2, .int y), (3, .int (nI q))] []
  obtain ⟨hsw, h0, ⟨kt, hkt, htx⟩, hde, hwe, hte, hrc, hrd, hsp, hsd⟩ := id hC
  obtain ⟨sw1, sw2⟩ := id hsw
  obtain ⟨c0, c1, c2, c3⟩ := id hrc
  obtain ⟨bsp, s0, s1, hbsp⟩ := id hsp
  have hl8 := hA.2.2.1
  have hsl := hA.2.2.2.2.1.2
  refine gw_iload_n hX nd_LL_weight_0 rfl 1 rfl ?_
  refine gw_if_lt (tgt := 19) hX nd_LL_weight_1 rfl (fun hb => ?_) (fun hb => ?_)
  · skip
    exact gx_throw (tx := "no such weight") hX hE hQ gx_sIO (by decide +kernel) nd_LL_weight_19 nd_LL_weight_22 nd_LL_weight_23 nd_LL_weight_25 nd_LL_weight_28 (by decide) (by decide) (by decide) (by decide) (by decide) (by decide) ⟨rfl, ab_wgt_no (Or.inl hb), rfl⟩
  · skip
    refine gw_iload_n hX nd_LL_weight_4 rfl 1 rfl ?_
    refine gw_bipush (v := nI 37) hX nd_LL_weight_5 rfl ?_
    have hx1 := hb
    refine gw_icmp_ge (tgt := 19) hX nd_LL_weight_7 rfl (fun hb => ?_) (fun hb => ?_)
    · skip
      exact gx_throw (tx := "no such weight") hX hE hQ gx_sIO (by decide +kernel) nd_LL_weight_19 nd_LL_weight_22 nd_LL_weight_23 nd_LL_weight_25 nd_LL_weight_28 (by decide) (by decide) (by decide) (by decide) (by decide) (by decide) ⟨rfl, ab_wgt_no (Or.inr (Or.inl hb)), rfl⟩
    · skip
      refine gw_iload_n hX nd_LL_weight_10 rfl 2 rfl ?_
      have hx2 := hb
      refine gw_if_lt (tgt := 19) hX nd_LL_weight_11 rfl (fun hb => ?_) (fun hb => ?_)
      · skip
        exact gx_throw (tx := "no such weight") hX hE hQ gx_sIO (by decide +kernel) nd_LL_weight_19 nd_LL_weight_22 nd_LL_weight_23 nd_LL_weight_25 nd_LL_weight_28 (by decide) (by decide) (by decide) (by decide) (by decide) (by decide) ⟨rfl, ab_wgt_no (Or.inr (Or.inr (Or.inl hb))), rfl⟩
      · skip
        refine gw_iload_n hX nd_LL_weight_14 rfl 2 rfl ?_
        refine gw_iconst (v := nI 4) hX nd_LL_weight_15 rfl ?_
        have hy1 := hb
        refine gw_icmp_lt (tgt := 29) hX nd_LL_weight_16 rfl (fun hb => ?_) (fun hb => ?_)
        · skip
          have hb9 := hb
          obtain ⟨i, hi, rfl⟩ := ix_of (K := 37) (by omega) hx1 (Int32.not_le.mp hx2)
          obtain ⟨j, hj, rfl⟩ := ix_of (K := 4) (by omega) hy1 hb9
          refine gw_aload_n hX nd_LL_weight_29 rfl 0 rfl ?_
          refine gw_iload_n hX nd_LL_weight_30 rfl 3 rfl ?_
          refine gw_callV (rest := []) hX ks_LL_133 (ct_LL_weightsOrTotals _ _ _ σ n c cd s sd A hA hC q hq) h0 rfl rfl (Nat.le_of_ble_eq_true rfl) nd_LL_weight_31 (by decide) ?_
          rintro v_ s_ ⟨hv_, hs_⟩
          have hs_ := hs_.symm
          subst hs_ hv_
          show gw_W X σ 0 0 34 [(0, .ref n), (1, .int (nI i)), (2, .int (nI j)), (3, .int (nI q))] [.ref (if q = 0 then n + 80 else n + 82)]
          refine gw_iload_n hX nd_LL_weight_34 rfl 1 rfl ?_
          refine gw_iload_n hX nd_LL_weight_35 rfl 2 rfl ?_
          obtain ⟨hw0, hw1⟩ := cw_w hC q
          refine gw_callV (rest := []) hX ks_LL_137 (ct_We_at _ _ _ σ (if q = 0 then n + 80 else n + 82) i j _ hw0 hw1 (by omega)) hw0 rfl rfl (Nat.le_of_ble_eq_true rfl) nd_LL_weight_36 (by decide) ?_
          rintro v_ s_ ⟨hv_, hs_⟩
          have hs_ := hs_.symm
          subst hs_ hv_
          show gw_W X σ 0 0 39 [(0, .ref n), (1, .int (nI i)), (2, .int (nI j)), (3, .int (nI q))] [.long (iL (ab_w A q (i * 4 + j)))]
          exact gx_lret hX hQ hr nd_LL_weight_39 (by decide) (by decide) ⟨⟨_, ab_wgt_of hi hj, rfl⟩, rfl⟩
        · skip
          exact gx_throw (tx := "no such weight") hX hE hQ gx_sIO (by decide +kernel) nd_LL_weight_19 nd_LL_weight_22 nd_LL_weight_23 nd_LL_weight_25 nd_LL_weight_28 (by decide) (by decide) (by decide) (by decide) (by decide) (by decide) ⟨rfl, ab_wgt_no (Or.inr (Or.inr (Or.inr hb))), rfl⟩
set_option maxRecDepth 100000 in
set_option maxHeartbeats 4000000 in
theorem ct_LL_score (l : Launch) (hl0 : l.stackTraces = false) (Z : gw_Z) (b0 : Nat) (σ : gw_S) (n c cd s sd : Nat) (A : ab_A) (hA : ab_ok A) (hC : cw_at σ Z n A c cd s sd) (x y : Int32) (q : Nat) (hq : q < 2) : gx_M l ny_LL_score nc_LL_score (4, 7, 121, 1, 6) (some .long) Z b0 σ [.ref n, .int x, .int y, .int (nI q)] (fun v σ' => (∃ z : Int, ab_score A x y q = some z ∧ v = some (.long (iL z))) ∧ σ' = σ) (fun E σ' => E = gx_IO ∧ ab_score A x y q = none ∧ σ' = (σ.1 + 1, σ.2)) := by
  refine gx_M_of rfl (Nat.le_of_ble_eq_true rfl) hl0 ?_
  intro X hX hl hz hb0 hr hnm hQ hE
  subst hz hb0 hl
  have hX : gw_ok X nc_LL_score "LabelLearner" (4, 7, 121, 1, 6) := hX
  show gw_W X σ 0 0 0 [(0, .ref n), (1, .int x), (2, .int y), (3, .int (nI q))] []
  obtain ⟨hsw, h0, ⟨kt, hkt, htx⟩, hde, hwe, hte, hrc, hrd, hsp, hsd⟩ := id hC
  obtain ⟨sw1, sw2⟩ := id hsw
  obtain ⟨c0, c1, c2, c3⟩ := id hrc
  obtain ⟨bsp, s0, s1, hbsp⟩ := id hsp
  have hl8 := hA.2.2.1
  have hsl := hA.2.2.2.2.1.2
  refine gw_aload_n hX nd_LL_score_0 rfl 0 rfl ?_
  refine gw_iload_n hX nd_LL_score_1 rfl 3 rfl ?_
  refine gw_callV (rest := []) hX ks_LL_133 (ct_LL_weightsOrTotals _ _ _ σ n c cd s sd A hA hC q hq) h0 rfl rfl (Nat.le_of_ble_eq_true rfl) nd_LL_score_2 (by decide) ?_
  rintro v_ s_ ⟨hv_, hs_⟩
  have hs_ := hs_.symm
  subst hs_ hv_
  show gw_W X σ 0 0 5 [(0, .ref n), (1, .int x), (2, .int y), (3, .int (nI q))] [.ref (if q = 0 then n + 80 else n + 82)]
  refine gw_aload_n hX nd_LL_score_5 rfl 0 rfl ?_
  refine gw_iload_n hX nd_LL_score_6 rfl 1 rfl ?_
  refine gx_callV (rest := [.ref (if q = 0 then n + 80 else n + 82)]) hX hE.1 hE.2.2.2 ks_LL_95 (gw_in_t 406 (by decide +kernel) rfl) (ct_LL_sentenceNumbered _ hl0 _ _ _ n c cd s sd A hA hC x) h0 rfl rfl (Nat.le_of_ble_eq_true rfl) nd_LL_score_7 (by decide) (fun E_ s_ hx_ => gx_out hX hE hQ (by decide) (by decide) ⟨hx_.1, by unfold ab_score; rw [hx_.2.1]; rfl, hx_.2.2⟩) ?_
  rintro v_ s_ ⟨⟨ws, a, hws, rfl, hse, had⟩, hs_⟩
  have hs_ := hs_.symm
  subst hs_
  obtain ⟨bws, g0, g1, hbk⟩ := id hse
  obtain ⟨⟨hso, hsl6⟩, hne⟩ := ab_sent_ok hA hws
  have hws0 := List.length_pos_iff.mpr hne
  show gw_W X σ 1 6 10 [(0, .ref n), (1, .int x), (2, .int y), (3, .int (nI q))] [.ref a, .ref (if q = 0 then n + 80 else n + 82)]
  refine gw_iload_n hX nd_LL_score_10 rfl 2 rfl ?_
  obtain ⟨hw0, hw1⟩ := cw_w hC q
  refine gw_callV (rest := []) hX ks_LL_161 (ct_We_sum _ _ _ σ (if q = 0 then n + 80 else n + 82) a (ab_w A q) bws (se_B ws) _ y ws.length (se_B_ok hbk hso) hsl6 hw0 hw1 g0 g1) hw0 rfl rfl (Nat.le_of_ble_eq_true rfl) nd_LL_score_11 (by decide) ?_
  rintro v_ s_ ⟨hv_, hs_⟩
  have hs_ := hs_.symm
  subst hs_ hv_
  show gw_W X σ 1 6 14 [(0, .ref n), (1, .int x), (2, .int y), (3, .int (nI q))] [.long (iL (wd_T (ab_w A q) (se_B ws) (lb_at y) ws.length))]
  exact gx_lret hX hQ hr nd_LL_score_14 (by decide) (by decide) ⟨⟨_, by unfold ab_score; rw [hws]; rfl, rfl⟩, rfl⟩
