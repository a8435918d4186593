/-! the model's reading of a sentence -/
def rd_s (f5 f6 f7 g5 g6 g7 : Nat → Int32) (j : Nat) : Prop := (∀ i, i ≠ j → g5 i = f5 i) ∧ (∀ i, i < 18 * j ∨ 18 * j + 18 ≤ i → g6 i = f6 i) ∧ ∀ i, i < 6 * j ∨ 6 * j + 6 ≤ i → g7 i = f7 i
def rd_P (σ0 σ' : gw_S) (Z : gw_Z) (m : Nat) (f5 f6 f7 : Nat → Int32) (j : Nat) (lb : Bool) (R : Option (Nat × List px_W)) (v : Option Value) : Prop :=
  ∃ g5 g6 g7 : Nat → Int32, σ'.2 (m + 5) = some (gw_I Z 9 g5) ∧ σ'.2 (m + 6) = some (gw_I Z 162 g6) ∧ σ'.2 (m + 7) = some (gw_I Z 54 g7) ∧ gw_fr σ0 σ' (m + 5) (m + 8) ∧
    (((∀ (k : Nat) (ws : List px_W), R = some (k, ws) → ws = []) ∧ v = some (.int (-1))) ∨
     ∃ (e : Nat) (ws : List px_W), R = some (e, ws) ∧ ws ≠ [] ∧ v = some (.int (nI e)) ∧ e ≤ 240 ∧ ws.length ≤ 6 ∧ mm_b g5 g6 j ws ∧ (lb = true → mm_l g7 j ws) ∧ rd_s f5 f6 f7 g5 g6 g7 j)
def rd_b (g6 : Nat → Int32) (j : Nat) (acc : List px_W) : Prop := ∀ (w : Nat) (x : px_W), acc[w]? = some x → ∀ k, k < 3 → g6 (3 * (6 * j + w) + k) = nI (px_k x k)
theorem rd_big {len : Nat} {ch : Nat → Nat} {lb : Bool} {f i e b be : Nat} {acc : List px_W} (hi : px_lt len ch i = true) (hw : px_word len ch i = e) (h : e - i > 6 ∨ acc.length = 6) : px_go len ch lb (f + 1) i b be acc = none := by
  simp only [px_go, hi, if_true]
  rw [hw, if_pos h]
theorem rd_bs {g6 : Nat → Int32} {j : Nat} {acc : List px_W} (h : rd_b g6 j acc) (x : px_W) : rd_b (upd (upd (upd g6 (3 * (6 * j + acc.length)) (nI x.1)) (3 * (6 * j + acc.length) + 1) (nI x.2.1)) (3 * (6 * j + acc.length) + 2) (nI x.2.2.1)) j (acc ++ [x]) := by
  intro w y hy k hk
  by_cases e : w < acc.length
  · rw [List.getElem?_append_left e] at hy
    unfold upd
    rw [if_neg (by omega), if_neg (by omega), if_neg (by omega)]
    exact h w y hy k hk
  · have hl : w = acc.length := by
      have := (List.getElem?_eq_some_iff.mp hy).1
      rw [List.length_append, List.length_singleton] at this
      omega
    subst hl
    rw [List.getElem?_append_right (Nat.le_refl _), Nat.sub_self] at hy
    cases hy
    unfold upd
    have hk3 : k = 0 ∨ k = 1 ∨ k = 2 := by omega
    rcases hk3 with rfl | rfl | rfl
    · rw [if_neg (by omega), if_neg (by omega), if_pos (by omega)]; rfl
    · rw [if_neg (by omega), if_pos (by omega)]; rfl
    · rw [if_pos (by omega)]; rfl
theorem rd_ls {g7 : Nat → Int32} {j : Nat} {acc : List px_W} (h : mm_l g7 j acc) (x : px_W) : mm_l (upd g7 (6 * j + acc.length) (nI x.2.2.2)) j (acc ++ [x]) := by
  intro w y hy
  by_cases e : w < acc.length
  · rw [List.getElem?_append_left e] at hy
    unfold upd
    rw [if_neg (by omega)]
    exact h w y hy
  · have hl : w = acc.length := by
      have := (List.getElem?_eq_some_iff.mp hy).1
      rw [List.length_append, List.length_singleton] at this
      omega
    subst hl
    rw [List.getElem?_append_right (Nat.le_refl _), Nat.sub_self] at hy
    cases hy
    exact if_pos rfl
theorem hs_0 : (if (0 : Nat) = 0 then (7 : Int32) else 31 * 7 + nI 0) = 7 := if_pos rfl
theorem hs_45 : (if (45 : Nat) = 0 then (7 : Int32) else 31 * 7 + nI 45) = 31 * 7 + 45 := by decide
theorem hs_60 : (if (60 : Nat) = 0 then (7 : Int32) else 31 * 7 + nI 60) = 31 * 7 + 60 := by decide
set_option maxRecDepth 100000 in
set_option maxHeartbeats 8000000 in
theorem lp_Mo_rdE {X : gw_C} (m : Nat) {th rs be0 se kp kw : Int32} {len sn mk ps : Nat} {bs s2 : Int64} {σ : gw_S} (h0 : σ.2 m = some (.inr (1, [.int th, .int (nI len), .ref (m + 1), .int (nI sn), .ref (m + 2), .ref (m + 3), .ref (m + 4), .int rs, .ref (m + 5), .ref (m + 6), .ref (m + 7), .ref (m + 8), .ref (m + 9), .int (nI mk), .int (nI ps), .ref (m + 10), .ref (m + 11), .ref (m + 12), .long bs, .long s2, .int be0, .int se, .int kp, .int kw]))) (ch : Nat → Nat) (hlen : len ≤ 240) (hch : ∀ j, ch j < 127) (h1 : σ.2 (m + 1) = some (gw_I (gw_z X) 240 (fun j => nI (ch j)))) {j lq wd i bf be e : Nat} (hwd : px_word len ch i = e) (K : gw_W X σ 0 0 46 [(0, .ref m), (1, .int (nI j)), (3, .int (nI lq)), (4, .int (nI wd)), (5, .int (nI i)), (6, .int (nI bf)), (7, .int (nI be)), (8, .int (nI e))] []) (hX : gw_ok X nc_Mo_readSentence "LabelLearnerModel" (11, 2, 45, 0, 0))  : ∀ (u : Nat) (k : Nat), k + u = 240 → i ≤ k → (∀ q, i ≤ q → q < k → px_lt len ch q = true) → gw_W X σ 0 0 31 [(0, .ref m), (1, .int (nI j)), (3, .int (nI lq)), (4, .int (nI wd)), (5, .int (nI i)), (6, .int (nI bf)), (7, .int (nI be)), (8, .int (nI k))] [] := by
  intro u
  induction u using Nat.strongRecOn with
  | ind u ih =>
    intro k
    intro hku hik hal
    refine gw_aload_n hX nd_Mo_readSentence_31 rfl 0 rfl ?_
    refine gw_iload hX nd_Mo_readSentence_32 7 rfl ?_
    refine gw_callV (rest := []) hX ks_Mo_74 (ct_Mo_isLetter _ _ _ σ m h0 ch hlen hch h1 k (by omega)) h0 rfl rfl (Nat.le_of_ble_eq_true rfl) nd_Mo_readSentence_34 (by decide) ?_
    rintro v_ s_ ⟨hv_, hs_⟩
    have hs_ := hs_.symm
    subst hs_ hv_
    show gw_W X σ 0 0 37 [(0, .ref m), (1, .int (nI j)), (3, .int (nI lq)), (4, .int (nI wd)), (5, .int (nI i)), (6, .int (nI bf)), (7, .int (nI be)), (8, .int (nI k))] [.int (nI ((if px_lt len ch k then 1 else 0)))]
    have hi9 : (if px_lt len ch k then 1 else 0) ≤ 1 := by split <;> omega
    refine gw_if_eq (tgt := 46) hX nd_Mo_readSentence_37 rfl (fun hb => ?_) (fun hb => ?_)
    · have hb : (if px_lt len ch k then 1 else 0) = 0 := (nI_eq (a := (if px_lt len ch k then 1 else 0)) (b := 0) (by omega) (by omega)).mp hb
      have hf : px_lt len ch k = false := by by_cases e9 : px_lt len ch k = true; (rw [if_pos e9] at hb; omega); exact Bool.not_eq_true _ ▸ e9
      have hke : k = e := (px_word_of ⟨hik, hal, hf⟩).symm.trans hwd
      refine gw_cut (ks := [0, 1, 2, 3, 4, 5, 6, 7]) (L' := [(0, .ref m), (1, .int (nI j)), (3, .int (nI lq)), (4, .int (nI wd)), (5, .int (nI i)), (6, .int (nI bf)), (7, .int (nI be)), (8, .int (nI k))]) rfl ?_
      rw [hke]
      exact K
    · have hb : ¬ (if px_lt len ch k then 1 else 0) = 0 := fun h => hb ((nI_eq (a := (if px_lt len ch k then 1 else 0)) (b := 0) (by omega) (by omega)).mpr h)
      have ht : px_lt len ch k = true := by by_cases e9 : px_lt len ch k = true; exact e9; (rw [if_neg e9] at hb; omega)
      have hkl := (px_lt_iff.mp ht).1
      refine gw_iinc hX nd_Mo_readSentence_40 7 rfl (v := nI (k + 1)) (show nI k + nI 1 = nI (k + 1) from nI_add _ _) (by decide) (L' := [(8, .int (nI (k + 1))), (0, .ref m), (1, .int (nI j)), (3, .int (nI lq)), (4, .int (nI wd)), (5, .int (nI i)), (6, .int (nI bf)), (7, .int (nI be))]) rfl ?_
      refine gw_goto (tgt := 31) hX nd_Mo_readSentence_43 rfl ?_
      refine gw_cut (ks := [1, 2, 3, 4, 5, 6, 7, 0]) (L' := [(0, .ref m), (1, .int (nI j)), (3, .int (nI lq)), (4, .int (nI wd)), (5, .int (nI i)), (6, .int (nI bf)), (7, .int (nI be)), (8, .int (nI (k + 1)))]) rfl ?_
      exact ih (u - 1) (by omega) (k + 1) (by omega) (by omega) (fun q q1 q2 => by by_cases e9 : q = k; (rw [e9]; exact ht); exact hal q q1 (by omega))
set_option maxRecDepth 100000 in
set_option maxHeartbeats 8000000 in
theorem lp_Mo_rd_t {X : gw_C} (m : Nat) {th rs be0 se kp kw : Int32} {len sn mk ps : Nat} {bs s2 : Int64} (ch : Nat → Nat) (hlen : len ≤ 240) (hch : ∀ j, ch j < 127) (f5 f6 f7 : Nat → Int32) (j : Nat) (hj : j ≤ 8) (R : Option (Nat × List px_W)) {σ0 : gw_S} (hX : gw_ok X nc_Mo_readSentence "LabelLearnerModel" (11, 2, 45, 0, 0)) (hQ : X.2.2.2.2 = gw_end X (fun v σ' => rd_P σ0 σ' (gw_z X) m f5 f6 f7 j true R v) 0 0) (hr : X.2.2.1.1.sig.returnType = (some .int)) : ∀ (u : Nat) (acc : List px_W) (i bf be : Nat) (σ : gw_S) (g6 g7 : Nat → Int32), acc.length + u = 6 → R = px_go len ch true (u + 2) i bf be acc → i ≤ 240 → bf ≤ be → be ≤ 240 → σ.2 m = some (.inr (1, [.int th, .int (nI len), .ref (m + 1), .int (nI sn), .ref (m + 2), .ref (m + 3), .ref (m + 4), .int rs, .ref (m + 5), .ref (m + 6), .ref (m + 7), .ref (m + 8), .ref (m + 9), .int (nI mk), .int (nI ps), .ref (m + 10), .ref (m + 11), .ref (m + 12), .long bs, .long s2, .int be0, .int se, .int kp, .int kw])) → σ.2 (m + 1) = some (gw_I (gw_z X) 240 (fun j => nI (ch j))) → σ.2 (m + 5) = some (gw_I (gw_z X) 9 f5) → σ.2 (m + 6) = some (gw_I (gw_z X) 162 g6) → σ.2 (m + 7) = some (gw_I (gw_z X) 54 g7) → rd_b g6 j acc → (true = true → mm_l g7 j acc) → (∀ i, i < 18 * j ∨ 18 * j + 18 ≤ i → g6 i = f6 i) → (∀ i, i < 6 * j ∨ 6 * j + 6 ≤ i → g7 i = f7 i) → gw_fr σ0 σ (m + 5) (m + 8) → gw_W X σ 0 0 18 [(0, .ref m), (1, .int (nI j)), (3, .int (nI 1)), (4, .int (nI acc.length)), (5, .int (nI i)), (6, .int (nI bf)), (7, .int (nI be))] [] := by
  intro u
  induction u using Nat.strongRecOn with
  | ind u ih =>
    intro acc i bf be σ g6 g7
    intro hau hR hi hbb hbe h0 h1 h5 h6 h7 hab hal hs6 hs7 fr
    refine gw_aload_n hX nd_Mo_readSentence_18 rfl 0 rfl ?_
    refine gw_iload hX nd_Mo_readSentence_19 4 rfl ?_
    refine gw_callV (rest := []) hX ks_Mo_74 (ct_Mo_isLetter _ _ _ σ m h0 ch hlen hch h1 i (by omega)) h0 rfl rfl (Nat.le_of_ble_eq_true rfl) nd_Mo_readSentence_21 (by decide) ?_
    rintro v_ s_ ⟨hv_, hs_⟩
    have hs_ := hs_.symm
    subst hs_ hv_
    show gw_W X σ 0 0 24 [(0, .ref m), (1, .int (nI j)), (3, .int (nI 1)), (4, .int (nI acc.length)), (5, .int (nI i)), (6, .int (nI bf)), (7, .int (nI be))] [.int (nI ((if px_lt len ch i then 1 else 0)))]
    have hi9 : (if px_lt len ch i then 1 else 0) ≤ 1 := by split <;> omega
    refine gw_if_eq (tgt := 280) hX nd_Mo_readSentence_24 rfl (fun hb => ?_) (fun hb => ?_)
    · have hb : (if px_lt len ch i then 1 else 0) = 0 := (nI_eq (a := (if px_lt len ch i then 1 else 0)) (b := 0) (by omega) (by omega)).mp hb
      have hlt : px_lt len ch i = false := by by_cases e9 : px_lt len ch i = true; (rw [if_pos e9] at hb; omega); exact Bool.not_eq_true _ ▸ e9
      have hRx : R = some (i, acc) := by rw [hR]; exact rs_no hlt
      refine gw_aload_n hX nd_Mo_readSentence_280 rfl 0 rfl ?_
      refine gw_get hX kf_Mo_22 nd_Mo_readSentence_281 h0 rfl ?_
      refine gw_iload_n hX nd_Mo_readSentence_284 rfl 1 rfl ?_
      refine gw_iload hX nd_Mo_readSentence_285 3 rfl ?_
      refine gw_iast hX nd_Mo_readSentence_287 h5 j rfl (by omega) (by decide) ?_
      obtain ⟨σ1, eσ1⟩ : ∃ hp_, hp_ = gw_up σ (m + 5) ((gw_I (gw_z X) 9 (upd f5 j (nI acc.length)))) := ⟨_, rfl⟩
      refine gw_heap eσ1.symm ?_
      have h0 : σ1.2 m = some (.inr (1, [.int th, .int (nI len), .ref (m + 1), .int (nI sn), .ref (m + 2), .ref (m + 3), .ref (m + 4), .int rs, .ref (m + 5), .ref (m + 6), .ref (m + 7), .ref (m + 8), .ref (m + 9), .int (nI mk), .int (nI ps), .ref (m + 10), .ref (m + 11), .ref (m + 12), .long bs, .long s2, .int be0, .int se, .int kp, .int kw])) := by rw [eσ1, gw_up_ne (by omega)]; exact h0
      have h1 : σ1.2 (m + 1) = some ((gw_I (gw_z X) 240 (fun j => nI (ch j)))) := by rw [eσ1, gw_up_ne (by omega)]; exact h1
      have h5 : σ1.2 (m + 5) = some ((gw_I (gw_z X) 9 (upd f5 j (nI acc.length)))) := by rw [eσ1]; exact gw_up_eq _ _ _
      have h6 : σ1.2 (m + 6) = some ((gw_I (gw_z X) 162 g6)) := by rw [eσ1, gw_up_ne (by omega)]; exact h6
      have h7 : σ1.2 (m + 7) = some ((gw_I (gw_z X) 54 g7)) := by rw [eσ1, gw_up_ne (by omega)]; exact h7
      have fr : gw_fr σ0 σ1 (m + 5) (m + 8) := gw_fr_tr fr (show gw_fr _ σ1 (m + 5) (m + 8) by rw [eσ1]; exact gw_fr_up _ _ _ (by omega) (by omega))
      refine gw_iload hX nd_Mo_readSentence_288 3 rfl ?_
      refine gw_if_ne (tgt := 297) hX nd_Mo_readSentence_290 rfl (fun hb => ?_) (fun hb => ?_)
      · have hb : ¬ acc.length = 0 := fun h => hb ((nI_eq (a := acc.length) (b := 0) (by omega) (by omega)).mpr h)
        refine gw_iload hX nd_Mo_readSentence_297 4 rfl ?_
        exact gw_iret hX hQ hr nd_Mo_readSentence_299 (by decide) (by decide) ⟨_, _, _, h5, h6, h7, fr, Or.inr ⟨i, acc, hRx, fun q => (by rw [q] at hb; exact hb rfl), rfl, by omega, by omega, ⟨if_pos rfl, hab⟩, hal, ⟨fun i9 hi9 => if_neg hi9, hs6, hs7⟩⟩⟩
      · have hb : acc.length = 0 := (nI_eq (a := acc.length) (b := 0) (by omega) (by omega)).mp hb
        refine gw_iconst (v := (-1)) hX nd_Mo_readSentence_293 rfl ?_
        refine gw_goto (tgt := 299) hX nd_Mo_readSentence_294 rfl ?_
        exact gw_iret hX hQ hr nd_Mo_readSentence_299 (by decide) (by decide) ⟨_, _, _, h5, h6, h7, fr, Or.inl ⟨fun k ws q => (by rw [hRx] at q; cases q; exact List.eq_nil_of_length_eq_zero (by omega)), rfl⟩⟩
    · have hb : ¬ (if px_lt len ch i then 1 else 0) = 0 := fun h => hb ((nI_eq (a := (if px_lt len ch i then 1 else 0)) (b := 0) (by omega) (by omega)).mpr h)
      have hlt : px_lt len ch i = true := by by_cases e9 : px_lt len ch i = true; exact e9; (rw [if_neg e9] at hb; omega)
      refine gw_iload hX nd_Mo_readSentence_27 4 rfl ?_
      refine gw_istore hX nd_Mo_readSentence_29 (by decide) (L' := [(8, .int (nI i)), (0, .ref m), (1, .int (nI j)), (3, .int (nI 1)), (4, .int (nI acc.length)), (5, .int (nI i)), (6, .int (nI bf)), (7, .int (nI be))]) rfl ?_
      refine gw_cut (ks := [1, 2, 3, 4, 5, 6, 7, 0]) (L' := [(0, .ref m), (1, .int (nI j)), (3, .int (nI 1)), (4, .int (nI acc.length)), (5, .int (nI i)), (6, .int (nI bf)), (7, .int (nI be)), (8, .int (nI i))]) rfl ?_
      obtain ⟨e, hwd⟩ : ∃ e, px_word len ch i = e := ⟨_, rfl⟩
      have hwe := px_word_end len ch i
      rw [hwd] at hwe
      have hil := (px_lt_iff.mp hlt).1
      have hel : e ≤ len := px_end_le (M := len) (fun q hq => (px_lt_iff.mp hq).1) hwe (by omega)
      have hie : i < e := by
        by_cases q : i < e
        · exact q
        · have q2 : e = i := by have := hwe.1; omega
          have q3 := hwe.2.2
          rw [q2, hlt] at q3; cases q3
      refine lp_Mo_rdE m h0 ch hlen hch h1 hwd (e := e) ?_ hX (240 - i) i (by omega) (Nat.le_refl _) (fun q q1 q2 => by omega)
      show gw_W X σ 0 0 46 [(0, .ref m), (1, .int (nI j)), (3, .int (nI 1)), (4, .int (nI acc.length)), (5, .int (nI i)), (6, .int (nI bf)), (7, .int (nI be)), (8, .int (nI e))] []
      refine gw_iload hX nd_Mo_readSentence_46 7 rfl ?_
      refine gw_iload hX nd_Mo_readSentence_48 4 rfl ?_
      refine gw_isub hX nd_Mo_readSentence_50 ?_
      refine gw_topi (y := nI (e - i)) (pk_sub (by omega)) ?_
      refine gw_bipush (v := nI 6) hX nd_Mo_readSentence_51 rfl ?_
      refine gw_icmp_gt (tgt := 63) hX nd_Mo_readSentence_53 rfl (fun hb => ?_) (fun hb => ?_)
      · have hb : 6 < e - i := (nI_ltI (a := 6) (b := e - i) (by omega) (by omega)).mp hb
        refine gw_iconst (v := (-1)) hX nd_Mo_readSentence_63 rfl ?_
        exact gw_iret hX hQ hr nd_Mo_readSentence_64 (by decide) (by decide) ⟨_, _, _, h5, h6, h7, fr, Or.inl ⟨fun k ws q => (by rw [hR, rd_big hlt hwd (Or.inl hb)] at q; cases q), rfl⟩⟩
      · have hb : ¬ 6 < e - i := fun h => hb ((nI_ltI (a := 6) (b := e - i) (by omega) (by omega)).mpr h)
        have hb6e := hb
        refine gw_iload hX nd_Mo_readSentence_56 3 rfl ?_
        refine gw_bipush (v := nI 6) hX nd_Mo_readSentence_58 rfl ?_
        refine gw_icmp_ne (tgt := 65) hX nd_Mo_readSentence_60 rfl (fun hb => ?_) (fun hb => ?_)
        · have hb : ¬ acc.length = 6 := fun h => hb ((nI_eq (a := acc.length) (b := 6) (by omega) (by omega)).mpr h)
          have hu1 : 1 ≤ u := by omega
          refine gw_iconst (v := nI 3) hX nd_Mo_readSentence_65 rfl ?_
          refine gw_bipush (v := nI 6) hX nd_Mo_readSentence_66 rfl ?_
          refine gw_iload_n hX nd_Mo_readSentence_68 rfl 1 rfl ?_
          refine gw_imul hX nd_Mo_readSentence_69 ?_
          refine gw_topi (y := nI (6 * j)) (pk_mul _ _) ?_
          refine gw_iload hX nd_Mo_readSentence_70 3 rfl ?_
          refine gw_iadd hX nd_Mo_readSentence_72 ?_
          refine gw_topi (y := nI (6 * j + acc.length)) (nI_add _ _) ?_
          refine gw_imul hX nd_Mo_readSentence_73 ?_
          refine gw_topi (y := nI (3 * (6 * j + acc.length))) (pk_mul _ _) ?_
          refine gw_istore hX nd_Mo_readSentence_74 (by decide) (L' := [(9, .int (nI (3 * (6 * j + acc.length)))), (0, .ref m), (1, .int (nI j)), (3, .int (nI 1)), (4, .int (nI acc.length)), (5, .int (nI i)), (6, .int (nI bf)), (7, .int (nI be)), (8, .int (nI e))]) rfl ?_
          refine gw_aload_n hX nd_Mo_readSentence_76 rfl 1 rfl ?_
          refine gw_get hX kf_Mo_25 nd_Mo_readSentence_77 h0 rfl ?_
          refine gw_iload hX nd_Mo_readSentence_80 0 rfl ?_
          refine gw_aload_n hX nd_Mo_readSentence_82 rfl 1 rfl ?_
          refine gw_iconst (v := nI 0) hX nd_Mo_readSentence_83 rfl ?_
          refine gw_iload hX nd_Mo_readSentence_84 5 rfl ?_
          refine gw_iload hX nd_Mo_readSentence_86 8 rfl ?_
          refine gw_callV (rest := [.int (nI (3 * (6 * j + acc.length))), .ref (m + 6)]) hX ks_Mo_78 (ct_Mo_hash _ _ _ σ m h0 ch hlen hch h1 0 i e (by omega) (by omega) (by omega)) h0 rfl rfl (Nat.le_of_ble_eq_true rfl) nd_Mo_readSentence_88 (by decide) ?_
          rintro v_ s_ ⟨hv_, hs_⟩
          rw [hs_0] at hv_
          have hs_ := hs_.symm
          subst hs_ hv_
          show gw_W X σ 0 0 91 [(9, .int (nI (3 * (6 * j + acc.length)))), (0, .ref m), (1, .int (nI j)), (3, .int (nI 1)), (4, .int (nI acc.length)), (5, .int (nI i)), (6, .int (nI bf)), (7, .int (nI be)), (8, .int (nI e))] [.int (nI (px_B (px_h ch 7 i (e - i)))), .int (nI (3 * (6 * j + acc.length))), .ref (m + 6)]
          refine gw_iast hX nd_Mo_readSentence_91 h6 (3 * (6 * j + acc.length)) rfl (by omega) (by decide) ?_
          obtain ⟨σ2, eσ2⟩ : ∃ hp_, hp_ = gw_up σ (m + 6) ((gw_I (gw_z X) 162 (upd g6 (3 * (6 * j + acc.length)) (nI (px_B (px_h ch 7 i (e - i))))))) := ⟨_, rfl⟩
          refine gw_heap eσ2.symm ?_
          have h0 : σ2.2 m = some (.inr (1, [.int th, .int (nI len), .ref (m + 1), .int (nI sn), .ref (m + 2), .ref (m + 3), .ref (m + 4), .int rs, .ref (m + 5), .ref (m + 6), .ref (m + 7), .ref (m + 8), .ref (m + 9), .int (nI mk), .int (nI ps), .ref (m + 10), .ref (m + 11), .ref (m + 12), .long bs, .long s2, .int be0, .int se, .int kp, .int kw])) := by rw [eσ2, gw_up_ne (by omega)]; exact h0
          have h1 : σ2.2 (m + 1) = some ((gw_I (gw_z X) 240 (fun j => nI (ch j)))) := by rw [eσ2, gw_up_ne (by omega)]; exact h1
          have h5 : σ2.2 (m + 5) = some ((gw_I (gw_z X) 9 f5)) := by rw [eσ2, gw_up_ne (by omega)]; exact h5
          have h6 : σ2.2 (m + 6) = some ((gw_I (gw_z X) 162 (upd g6 (3 * (6 * j + acc.length)) (nI (px_B (px_h ch 7 i (e - i))))))) := by rw [eσ2]; exact gw_up_eq _ _ _
          have h7 : σ2.2 (m + 7) = some ((gw_I (gw_z X) 54 g7)) := by rw [eσ2, gw_up_ne (by omega)]; exact h7
          have fr : gw_fr σ0 σ2 (m + 5) (m + 8) := gw_fr_tr fr (show gw_fr _ σ2 (m + 5) (m + 8) by rw [eσ2]; exact gw_fr_up _ _ _ (by omega) (by omega))
          refine gw_aload_n hX nd_Mo_readSentence_92 rfl 1 rfl ?_
          refine gw_get hX kf_Mo_25 nd_Mo_readSentence_93 h0 rfl ?_
          refine gw_iload hX nd_Mo_readSentence_96 0 rfl ?_
          refine gw_iconst (v := nI 1) hX nd_Mo_readSentence_98 rfl ?_
          refine gw_iadd hX nd_Mo_readSentence_99 ?_
          refine gw_topi (y := nI (3 * (6 * j + acc.length) + 1)) (nI_add _ _) ?_
          refine gw_aload_n hX nd_Mo_readSentence_100 rfl 1 rfl ?_
          refine gw_bipush (v := nI 45) hX nd_Mo_readSentence_101 rfl ?_
          refine gw_iload hX nd_Mo_readSentence_103 8 rfl ?_
          refine gw_iload hX nd_Mo_readSentence_105 5 rfl ?_
          refine gw_isub hX nd_Mo_readSentence_107 ?_
          refine gw_topi (y := nI (e - i)) (pk_sub (by omega)) ?_
          refine gw_iconst (v := nI 1) hX nd_Mo_readSentence_108 rfl ?_
          refine gw_icmp_le (tgt := 119) hX nd_Mo_readSentence_109 rfl (fun hb => ?_) (fun hb => ?_)
          · have hb : e - i ≤ 1 := (nI_leI (a := e - i) (b := 1) (by omega) (by omega)).mp hb
            refine gw_iload hX nd_Mo_readSentence_119 5 rfl ?_
            refine gw_iload hX nd_Mo_readSentence_121 8 rfl ?_
            refine gw_callV (rest := [.int (nI (3 * (6 * j + acc.length) + 1)), .ref (m + 6)]) hX ks_Mo_78 (ct_Mo_hash _ _ _ σ2 m h0 ch hlen hch h1 45 i e (by omega) (by omega) (by omega)) h0 rfl rfl (Nat.le_of_ble_eq_true rfl) nd_Mo_readSentence_123 (by decide) ?_
            rintro v_ s_ ⟨hv_, hs_⟩
            rw [hs_45] at hv_
            have hs_ := hs_.symm
            subst hs_ hv_
            show gw_W X σ2 0 0 126 [(9, .int (nI (3 * (6 * j + acc.length)))), (0, .ref m), (1, .int (nI j)), (3, .int (nI 1)), (4, .int (nI acc.length)), (5, .int (nI i)), (6, .int (nI bf)), (7, .int (nI be)), (8, .int (nI e))] [.int (nI (px_B (px_h ch (31 * 7 + 45) i (e - i)))), .int (nI (3 * (6 * j + acc.length) + 1)), .ref (m + 6)]
            refine gw_iast hX nd_Mo_readSentence_126 h6 (3 * (6 * j + acc.length) + 1) rfl (by omega) (by decide) ?_
            obtain ⟨σ3, eσ3⟩ : ∃ hp_, hp_ = gw_up σ2 (m + 6) ((gw_I (gw_z X) 162 (upd (upd g6 (3 * (6 * j + acc.length)) (nI (px_B (px_h ch 7 i (e - i))))) (3 * (6 * j + acc.length) + 1) (nI (px_B (px_h ch (31 * 7 + 45) i (e - i))))))) := ⟨_, rfl⟩
            refine gw_heap eσ3.symm ?_
            have h0 : σ3.2 m = some (.inr (1, [.int th, .int (nI len), .ref (m + 1), .int (nI sn), .ref (m + 2), .ref (m + 3), .ref (m + 4), .int rs, .ref (m + 5), .ref (m + 6), .ref (m + 7), .ref (m + 8), .ref (m + 9), .int (nI mk), .int (nI ps), .ref (m + 10), .ref (m + 11), .ref (m + 12), .long bs, .long s2, .int be0, .int se, .int kp, .int kw])) := by rw [eσ3, gw_up_ne (by omega)]; exact h0
            have h1 : σ3.2 (m + 1) = some ((gw_I (gw_z X) 240 (fun j => nI (ch j)))) := by rw [eσ3, gw_up_ne (by omega)]; exact h1
            have h5 : σ3.2 (m + 5) = some ((gw_I (gw_z X) 9 f5)) := by rw [eσ3, gw_up_ne (by omega)]; exact h5
            have h6 : σ3.2 (m + 6) = some ((gw_I (gw_z X) 162 (upd (upd g6 (3 * (6 * j + acc.length)) (nI (px_B (px_h ch 7 i (e - i))))) (3 * (6 * j + acc.length) + 1) (nI (px_B (px_h ch (31 * 7 + 45) i (e - i))))))) := by rw [eσ3]; exact gw_up_eq _ _ _
            have h7 : σ3.2 (m + 7) = some ((gw_I (gw_z X) 54 g7)) := by rw [eσ3, gw_up_ne (by omega)]; exact h7
            have fr : gw_fr σ0 σ3 (m + 5) (m + 8) := gw_fr_tr fr (show gw_fr _ σ3 (m + 5) (m + 8) by rw [eσ3]; exact gw_fr_up _ _ _ (by omega) (by omega))
            refine gw_aload_n hX nd_Mo_readSentence_127 rfl 1 rfl ?_
            refine gw_get hX kf_Mo_25 nd_Mo_readSentence_128 h0 rfl ?_
            refine gw_iload hX nd_Mo_readSentence_131 0 rfl ?_
            refine gw_iconst (v := nI 2) hX nd_Mo_readSentence_133 rfl ?_
            refine gw_iadd hX nd_Mo_readSentence_134 ?_
            refine gw_topi (y := nI (3 * (6 * j + acc.length) + 2)) (nI_add _ _) ?_
            refine gw_aload_n hX nd_Mo_readSentence_135 rfl 1 rfl ?_
            refine gw_bipush (v := nI 60) hX nd_Mo_readSentence_136 rfl ?_
            refine gw_iload hX nd_Mo_readSentence_138 6 rfl ?_
            refine gw_iload hX nd_Mo_readSentence_140 7 rfl ?_
            refine gw_callV (rest := [.int (nI (3 * (6 * j + acc.length) + 2)), .ref (m + 6)]) hX ks_Mo_78 (ct_Mo_hash _ _ _ σ3 m h0 ch hlen hch h1 60 bf be (by omega) (by omega) (by omega)) h0 rfl rfl (Nat.le_of_ble_eq_true rfl) nd_Mo_readSentence_142 (by decide) ?_
            rintro v_ s_ ⟨hv_, hs_⟩
            rw [hs_60] at hv_
            have hs_ := hs_.symm
            subst hs_ hv_
            show gw_W X σ3 0 0 145 [(9, .int (nI (3 * (6 * j + acc.length)))), (0, .ref m), (1, .int (nI j)), (3, .int (nI 1)), (4, .int (nI acc.length)), (5, .int (nI i)), (6, .int (nI bf)), (7, .int (nI be)), (8, .int (nI e))] [.int (nI (px_B (px_h ch (31 * 7 + 60) bf (be - bf)))), .int (nI (3 * (6 * j + acc.length) + 2)), .ref (m + 6)]
            refine gw_iast hX nd_Mo_readSentence_145 h6 (3 * (6 * j + acc.length) + 2) rfl (by omega) (by decide) ?_
            obtain ⟨σ4, eσ4⟩ : ∃ hp_, hp_ = gw_up σ3 (m + 6) ((gw_I (gw_z X) 162 (upd (upd (upd g6 (3 * (6 * j + acc.length)) (nI (px_B (px_h ch 7 i (e - i))))) (3 * (6 * j + acc.length) + 1) (nI (px_B (px_h ch (31 * 7 + 45) i (e - i))))) (3 * (6 * j + acc.length) + 2) (nI (px_B (px_h ch (31 * 7 + 60) bf (be - bf))))))) := ⟨_, rfl⟩
            refine gw_heap eσ4.symm ?_
            have h0 : σ4.2 m = some (.inr (1, [.int th, .int (nI len), .ref (m + 1), .int (nI sn), .ref (m + 2), .ref (m + 3), .ref (m + 4), .int rs, .ref (m + 5), .ref (m + 6), .ref (m + 7), .ref (m + 8), .ref (m + 9), .int (nI mk), .int (nI ps), .ref (m + 10), .ref (m + 11), .ref (m + 12), .long bs, .long s2, .int be0, .int se, .int kp, .int kw])) := by rw [eσ4, gw_up_ne (by omega)]; exact h0
            have h1 : σ4.2 (m + 1) = some ((gw_I (gw_z X) 240 (fun j => nI (ch j)))) := by rw [eσ4, gw_up_ne (by omega)]; exact h1
            have h5 : σ4.2 (m + 5) = some ((gw_I (gw_z X) 9 f5)) := by rw [eσ4, gw_up_ne (by omega)]; exact h5
            have h6 : σ4.2 (m + 6) = some ((gw_I (gw_z X) 162 (upd (upd (upd g6 (3 * (6 * j + acc.length)) (nI (px_B (px_h ch 7 i (e - i))))) (3 * (6 * j + acc.length) + 1) (nI (px_B (px_h ch (31 * 7 + 45) i (e - i))))) (3 * (6 * j + acc.length) + 2) (nI (px_B (px_h ch (31 * 7 + 60) bf (be - bf))))))) := by rw [eσ4]; exact gw_up_eq _ _ _
            have h7 : σ4.2 (m + 7) = some ((gw_I (gw_z X) 54 g7)) := by rw [eσ4, gw_up_ne (by omega)]; exact h7
            have fr : gw_fr σ0 σ4 (m + 5) (m + 8) := gw_fr_tr fr (show gw_fr _ σ4 (m + 5) (m + 8) by rw [eσ4]; exact gw_fr_up _ _ _ (by omega) (by omega))
            refine gw_iload hX nd_Mo_readSentence_146 5 rfl ?_
            refine gw_istore hX nd_Mo_readSentence_148 (by decide) (L' := [(6, .int (nI i)), (9, .int (nI (3 * (6 * j + acc.length)))), (0, .ref m), (1, .int (nI j)), (3, .int (nI 1)), (4, .int (nI acc.length)), (5, .int (nI i)), (7, .int (nI be)), (8, .int (nI e))]) rfl ?_
            refine gw_iload hX nd_Mo_readSentence_150 8 rfl ?_
            refine gw_istore hX nd_Mo_readSentence_152 (by decide) (L' := [(7, .int (nI e)), (6, .int (nI i)), (9, .int (nI (3 * (6 * j + acc.length)))), (0, .ref m), (1, .int (nI j)), (3, .int (nI 1)), (4, .int (nI acc.length)), (5, .int (nI i)), (8, .int (nI e))]) rfl ?_
            refine gw_iload hX nd_Mo_readSentence_154 8 rfl ?_
            refine gw_istore hX nd_Mo_readSentence_156 (by decide) (L' := [(5, .int (nI e)), (7, .int (nI e)), (6, .int (nI i)), (9, .int (nI (3 * (6 * j + acc.length)))), (0, .ref m), (1, .int (nI j)), (3, .int (nI 1)), (4, .int (nI acc.length)), (8, .int (nI e))]) rfl ?_
            refine gw_iload_n hX nd_Mo_readSentence_158 rfl 6 rfl ?_
            refine gw_if_eq (tgt := 244) hX nd_Mo_readSentence_159 rfl (fun hb => ?_) (fun hb => ?_)
            · have hb : 1 = 0 := (nI_eq (a := 1) (b := 0) (by omega) (by omega)).mp hb
              exfalso; omega
            · have hb : ¬ 1 = 0 := fun h => hb ((nI_eq (a := 1) (b := 0) (by omega) (by omega)).mpr h)
              refine gw_aload_n hX nd_Mo_readSentence_162 rfl 4 rfl ?_
              refine gw_iload hX nd_Mo_readSentence_163 0 rfl ?_
              refine gw_bipush (v := nI 47) hX nd_Mo_readSentence_165 rfl ?_
              refine gw_callV (rest := []) hX ks_Mo_63 (ct_Mo_is _ _ _ σ4 m h0 ch hlen hch h1 e 47 (by omega) (by omega)) h0 rfl rfl (Nat.le_of_ble_eq_true rfl) nd_Mo_readSentence_167 (by decide) ?_
              rintro v_ s_ ⟨hv_, hs_⟩
              have hs_ := hs_.symm
              subst hs_ hv_
              show gw_W X σ4 0 0 170 [(5, .int (nI e)), (7, .int (nI e)), (6, .int (nI i)), (9, .int (nI (3 * (6 * j + acc.length)))), (0, .ref m), (1, .int (nI j)), (3, .int (nI 1)), (4, .int (nI acc.length)), (8, .int (nI e))] [.int (nI ((if px_is len ch 47 e then 1 else 0)))]
              have hi9 : (if px_is len ch 47 e then 1 else 0) ≤ 1 := by split <;> omega
              refine gw_if_eq (tgt := 212) hX nd_Mo_readSentence_170 rfl (fun hb => ?_) (fun hb => ?_)
              · have hb : (if px_is len ch 47 e then 1 else 0) = 0 := (nI_eq (a := (if px_is len ch 47 e then 1 else 0)) (b := 0) (by omega) (by omega)).mp hb
                have hns : px_is len ch 47 e = false := by by_cases e9 : px_is len ch 47 e = true; (rw [if_pos e9] at hb; omega); exact Bool.not_eq_true _ ▸ e9
                refine gw_iconst (v := (-1)) hX nd_Mo_readSentence_212 rfl ?_
                exact gw_iret hX hQ hr nd_Mo_readSentence_213 (by decide) (by decide) ⟨_, _, _, h5, h6, h7, fr, Or.inl ⟨fun k ws q => (by rw [hR, rs_bad hlt (Or.inl ⟨hwe.2.2, hwd, by omega⟩) (fun q => by have q1 := q.1; rw [hns] at q1; cases q1)] at q; cases q), rfl⟩⟩
              · have hb : ¬ (if px_is len ch 47 e then 1 else 0) = 0 := fun h => hb ((nI_eq (a := (if px_is len ch 47 e then 1 else 0)) (b := 0) (by omega) (by omega)).mpr h)
                have hsl : px_is len ch 47 e = true := by by_cases e9 : px_is len ch 47 e = true; exact e9; (rw [if_neg e9] at hb; omega)
                refine gw_iload hX nd_Mo_readSentence_173 0 rfl ?_
                refine gw_iconst (v := nI 1) hX nd_Mo_readSentence_175 rfl ?_
                refine gw_iadd hX nd_Mo_readSentence_176 ?_
                refine gw_topi (y := nI (e + 1)) (nI_add _ _) ?_
                refine gw_aload_n hX nd_Mo_readSentence_177 rfl 4 rfl ?_
                refine gw_get hX kf_Mo_56 nd_Mo_readSentence_178 h0 rfl ?_
                refine gw_icmp_ge (tgt := 212) hX nd_Mo_readSentence_181 rfl (fun hb => ?_) (fun hb => ?_)
                · have hb : len ≤ e + 1 := (nI_leI (a := len) (b := e + 1) (by omega) (by omega)).mp hb
                  refine gw_iconst (v := (-1)) hX nd_Mo_readSentence_212 rfl ?_
                  exact gw_iret hX hQ hr nd_Mo_readSentence_213 (by decide) (by decide) ⟨_, _, _, h5, h6, h7, fr, Or.inl ⟨fun k ws q => (by rw [hR, rs_bad hlt (Or.inl ⟨hwe.2.2, hwd, by omega⟩) (fun q => by have q1 := q.2.1; omega)] at q; cases q), rfl⟩⟩
                · have hb : ¬ len ≤ e + 1 := fun h => hb ((nI_leI (a := len) (b := e + 1) (by omega) (by omega)).mpr h)
                  have hc9 := hch (e + 1)
                  have hel2 := hb
                  refine gw_aload_n hX nd_Mo_readSentence_184 rfl 4 rfl ?_
                  refine gw_get hX kf_Mo_7 nd_Mo_readSentence_185 h0 rfl ?_
                  refine gw_iload hX nd_Mo_readSentence_188 0 rfl ?_
                  refine gw_iconst (v := nI 1) hX nd_Mo_readSentence_190 rfl ?_
                  refine gw_iadd hX nd_Mo_readSentence_191 ?_
                  refine gw_topi (y := nI (e + 1)) (nI_add _ _) ?_
                  refine gw_iald hX nd_Mo_readSentence_192 h1 (e + 1) rfl (by omega) (by decide) ?_
                  refine gw_topi (y := nI (ch (e + 1))) rfl ?_
                  refine gw_bipush (v := nI 65) hX nd_Mo_readSentence_193 rfl ?_
                  refine gw_icmp_lt (tgt := 212) hX nd_Mo_readSentence_195 rfl (fun hb => ?_) (fun hb => ?_)
                  · have hb : ch (e + 1) < 65 := (nI_ltI (a := ch (e + 1)) (b := 65) (by omega) (by omega)).mp hb
                    refine gw_iconst (v := (-1)) hX nd_Mo_readSentence_212 rfl ?_
                    exact gw_iret hX hQ hr nd_Mo_readSentence_213 (by decide) (by decide) ⟨_, _, _, h5, h6, h7, fr, Or.inl ⟨fun k ws q => (by rw [hR, rs_bad hlt (Or.inl ⟨hwe.2.2, hwd, by omega⟩) (fun q => by have q1 := q.2.2.1; omega)] at q; cases q), rfl⟩⟩
                  · have hb : ¬ ch (e + 1) < 65 := fun h => hb ((nI_ltI (a := ch (e + 1)) (b := 65) (by omega) (by omega)).mpr h)
                    have hlo := hb
                    refine gw_aload_n hX nd_Mo_readSentence_198 rfl 4 rfl ?_
                    refine gw_get hX kf_Mo_7 nd_Mo_readSentence_199 h0 rfl ?_
                    refine gw_iload hX nd_Mo_readSentence_202 0 rfl ?_
                    refine gw_iconst (v := nI 1) hX nd_Mo_readSentence_204 rfl ?_
                    refine gw_iadd hX nd_Mo_readSentence_205 ?_
                    refine gw_topi (y := nI (e + 1)) (nI_add _ _) ?_
                    refine gw_iald hX nd_Mo_readSentence_206 h1 (e + 1) rfl (by omega) (by decide) ?_
                    refine gw_topi (y := nI (ch (e + 1))) rfl ?_
                    refine gw_bipush (v := nI 68) hX nd_Mo_readSentence_207 rfl ?_
                    refine gw_icmp_le (tgt := 214) hX nd_Mo_readSentence_209 rfl (fun hb => ?_) (fun hb => ?_)
                    · have hb : ch (e + 1) ≤ 68 := (nI_leI (a := ch (e + 1)) (b := 68) (by omega) (by omega)).mp hb
                      have hok : rl_ok len ch e := ⟨hsl, by omega, by omega, by omega⟩
                      refine gw_aload_n hX nd_Mo_readSentence_214 rfl 4 rfl ?_
                      refine gw_get hX kf_Mo_28 nd_Mo_readSentence_215 h0 rfl ?_
                      refine gw_bipush (v := nI 6) hX nd_Mo_readSentence_218 rfl ?_
                      refine gw_iload_n hX nd_Mo_readSentence_220 rfl 5 rfl ?_
                      refine gw_imul hX nd_Mo_readSentence_221 ?_
                      refine gw_topi (y := nI (6 * j)) (pk_mul _ _) ?_
                      refine gw_iload hX nd_Mo_readSentence_222 7 rfl ?_
                      refine gw_iadd hX nd_Mo_readSentence_224 ?_
                      refine gw_topi (y := nI (6 * j + acc.length)) (nI_add _ _) ?_
                      refine gw_aload_n hX nd_Mo_readSentence_225 rfl 4 rfl ?_
                      refine gw_get hX kf_Mo_7 nd_Mo_readSentence_226 h0 rfl ?_
                      refine gw_iload hX nd_Mo_readSentence_229 0 rfl ?_
                      refine gw_iconst (v := nI 1) hX nd_Mo_readSentence_231 rfl ?_
                      refine gw_iadd hX nd_Mo_readSentence_232 ?_
                      refine gw_topi (y := nI (e + 1)) (nI_add _ _) ?_
                      refine gw_iald hX nd_Mo_readSentence_233 h1 (e + 1) rfl (by omega) (by decide) ?_
                      refine gw_topi (y := nI (ch (e + 1))) rfl ?_
                      refine gw_bipush (v := nI 65) hX nd_Mo_readSentence_234 rfl ?_
                      refine gw_isub hX nd_Mo_readSentence_236 ?_
                      refine gw_topi (y := nI (ch (e + 1) - 65)) (pk_sub (by omega)) ?_
                      refine gw_iast hX nd_Mo_readSentence_237 h7 (6 * j + acc.length) rfl (by omega) (by decide) ?_
                      obtain ⟨σ5, eσ5⟩ : ∃ hp_, hp_ = gw_up σ4 (m + 7) ((gw_I (gw_z X) 54 (upd g7 (6 * j + acc.length) (nI (ch (e + 1) - 65))))) := ⟨_, rfl⟩
                      refine gw_heap eσ5.symm ?_
                      have h0 : σ5.2 m = some (.inr (1, [.int th, .int (nI len), .ref (m + 1), .int (nI sn), .ref (m + 2), .ref (m + 3), .ref (m + 4), .int rs, .ref (m + 5), .ref (m + 6), .ref (m + 7), .ref (m + 8), .ref (m + 9), .int (nI mk), .int (nI ps), .ref (m + 10), .ref (m + 11), .ref (m + 12), .long bs, .long s2, .int be0, .int se, .int kp, .int kw])) := by rw [eσ5, gw_up_ne (by omega)]; exact h0
                      have h1 : σ5.2 (m + 1) = some ((gw_I (gw_z X) 240 (fun j => nI (ch j)))) := by rw [eσ5, gw_up_ne (by omega)]; exact h1
                      have h5 : σ5.2 (m + 5) = some ((gw_I (gw_z X) 9 f5)) := by rw [eσ5, gw_up_ne (by omega)]; exact h5
                      have h6 : σ5.2 (m + 6) = some ((gw_I (gw_z X) 162 (upd (upd (upd g6 (3 * (6 * j + acc.length)) (nI (px_B (px_h ch 7 i (e - i))))) (3 * (6 * j + acc.length) + 1) (nI (px_B (px_h ch (31 * 7 + 45) i (e - i))))) (3 * (6 * j + acc.length) + 2) (nI (px_B (px_h ch (31 * 7 + 60) bf (be - bf))))))) := by rw [eσ5, gw_up_ne (by omega)]; exact h6
                      have h7 : σ5.2 (m + 7) = some ((gw_I (gw_z X) 54 (upd g7 (6 * j + acc.length) (nI (ch (e + 1) - 65))))) := by rw [eσ5]; exact gw_up_eq _ _ _
                      have fr : gw_fr σ0 σ5 (m + 5) (m + 8) := gw_fr_tr fr (show gw_fr _ σ5 (m + 5) (m + 8) by rw [eσ5]; exact gw_fr_up _ _ _ (by omega) (by omega))
                      refine gw_iload hX nd_Mo_readSentence_238 0 rfl ?_
                      refine gw_iconst (v := nI 2) hX nd_Mo_readSentence_240 rfl ?_
                      refine gw_iadd hX nd_Mo_readSentence_241 ?_
                      refine gw_topi (y := nI (e + 2)) (nI_add _ _) ?_
                      refine gw_istore hX nd_Mo_readSentence_242 (by decide) (L' := [(5, .int (nI (e + 2))), (7, .int (nI e)), (6, .int (nI i)), (9, .int (nI (3 * (6 * j + acc.length)))), (0, .ref m), (1, .int (nI j)), (3, .int (nI 1)), (4, .int (nI acc.length)), (8, .int (nI e))]) rfl ?_
                      refine gw_iinc hX nd_Mo_readSentence_244 7 rfl (v := nI (acc.length + 1)) (show nI acc.length + nI 1 = nI (acc.length + 1) from nI_add _ _) (by decide) (L' := [(4, .int (nI (acc.length + 1))), (5, .int (nI (e + 2))), (7, .int (nI e)), (6, .int (nI i)), (9, .int (nI (3 * (6 * j + acc.length)))), (0, .ref m), (1, .int (nI j)), (3, .int (nI 1)), (8, .int (nI e))]) rfl ?_
                      refine gw_aload_n hX nd_Mo_readSentence_247 rfl 5 rfl ?_
                      refine gw_iload hX nd_Mo_readSentence_248 1 rfl ?_
                      refine gw_callV (rest := []) hX ks_Mo_71 (ct_Mo_skip _ _ _ σ5 m h0 ch hlen hch h1 (e + 2) (by omega)) h0 rfl rfl (Nat.le_of_ble_eq_true rfl) nd_Mo_readSentence_250 (by decide) ?_
                      rintro v_ s_ ⟨hv_, hs_⟩
                      have hs_ := hs_.symm
                      subst hs_ hv_
                      show gw_W X σ5 0 0 253 [(4, .int (nI (acc.length + 1))), (5, .int (nI (e + 2))), (7, .int (nI e)), (6, .int (nI i)), (9, .int (nI (3 * (6 * j + acc.length)))), (0, .ref m), (1, .int (nI j)), (3, .int (nI 1)), (8, .int (nI e))] [.int (nI (px_skip len ch (e + 2)))]
                      refine gw_istore hX nd_Mo_readSentence_253 (by decide) (L' := [(10, .int (nI (px_skip len ch (e + 2)))), (4, .int (nI (acc.length + 1))), (5, .int (nI (e + 2))), (7, .int (nI e)), (6, .int (nI i)), (9, .int (nI (3 * (6 * j + acc.length)))), (0, .ref m), (1, .int (nI j)), (3, .int (nI 1)), (8, .int (nI e))]) rfl ?_
                      refine gw_iload hX nd_Mo_readSentence_255 0 rfl ?_
                      refine gw_iload hX nd_Mo_readSentence_257 2 rfl ?_
                      have hsk9 := rs_skip_le (ch := ch) (e := e + 2) hlen (by omega)
                      refine gw_icmp_ne (tgt := 273) hX nd_Mo_readSentence_259 rfl (fun hb => ?_) (fun hb => ?_)
                      · have hb : ¬ px_skip len ch (e + 2) = e + 2 := fun h => hb ((nI_eq (a := px_skip len ch (e + 2)) (b := e + 2) (by omega) (by omega)).mpr h)
                        have hgo : ¬ (px_skip len ch (e + 2) = e + 2 ∧ px_lt len ch (e + 2) = true) := fun q => hb q.1
                        refine gw_iload hX nd_Mo_readSentence_273 0 rfl ?_
                        refine gw_istore hX nd_Mo_readSentence_275 (by decide) (L' := [(5, .int (nI (px_skip len ch (e + 2)))), (10, .int (nI (px_skip len ch (e + 2)))), (4, .int (nI (acc.length + 1))), (7, .int (nI e)), (6, .int (nI i)), (9, .int (nI (3 * (6 * j + acc.length)))), (0, .ref m), (1, .int (nI j)), (3, .int (nI 1)), (8, .int (nI e))]) rfl ?_
                        refine gw_goto (tgt := 18) hX nd_Mo_readSentence_277 rfl ?_
                        refine gw_cut (ks := [6, 7, 8, 2, 0, 4, 3]) (L' := [(0, .ref m), (1, .int (nI j)), (3, .int (nI 1)), (4, .int (nI (acc.length + 1))), (5, .int (nI (px_skip len ch (e + 2)))), (6, .int (nI i)), (7, .int (nI e))]) rfl ?_
                        have hlx : (acc ++ [px_f ch i e bf be (ch (e + 1) - 65)]).length = acc.length + 1 := by simp
                        have hb6 : rd_b (upd (upd (upd g6 (3 * (6 * j + acc.length)) (nI (px_B (px_h ch 7 i (e - i))))) (3 * (6 * j + acc.length) + 1) (nI (px_B (px_h ch (31 * 7 + 45) i (e - i))))) (3 * (6 * j + acc.length) + 2) (nI (px_B (px_h ch (31 * 7 + 60) bf (be - bf))))) j (acc ++ [px_f ch i e bf be (ch (e + 1) - 65)]) := by
                          have e1 : (px_f ch i e bf be (ch (e + 1) - 65)).2.1 = px_B (px_h ch (31 * 7 + 45) i (e - i)) := by unfold px_f; rw [if_neg (show ¬ e - i > 1 by omega)]
                          have hq := rd_bs hab (px_f ch i e bf be (ch (e + 1) - 65))
                          rw [e1] at hq
                          exact hq
                        have hl7 : mm_l (upd g7 (6 * j + acc.length) (nI (ch (e + 1) - 65))) j (acc ++ [px_f ch i e bf be (ch (e + 1) - 65)]) := rd_ls (hal rfl) (px_f ch i e bf be (ch (e + 1) - 65))
                        refine gw_head ?_ (ih (u - 1) (by omega) (acc ++ [px_f ch i e bf be (ch (e + 1) - 65)]) (px_skip len ch (e + 2)) i e σ5 _ _ (by rw [hlx]; omega) (by rw [hR, rs_good hlt (Or.inl ⟨hwe.2.2, hwd, by omega⟩) hok (by omega), if_neg hgo, show u - 1 + 2 = u + 1 by omega]) (rs_skip_le hlen (by omega)) (by omega) (by omega) h0 h1 h5 h6 h7 hb6 (fun _ => hl7) (fun i9 hi9 => by unfold upd; rw [if_neg (by omega), if_neg (by omega), if_neg (by omega)]; exact hs6 i9 hi9) (fun i9 hi9 => by unfold upd; rw [if_neg (by omega)]; exact hs7 i9 hi9) fr)
                        rw [hlx]
                      · have hb : px_skip len ch (e + 2) = e + 2 := (nI_eq (a := px_skip len ch (e + 2)) (b := e + 2) (by omega) (by omega)).mp hb
                        have hse := hb
                        refine gw_aload_n hX nd_Mo_readSentence_262 rfl 6 rfl ?_
                        refine gw_iload hX nd_Mo_readSentence_263 2 rfl ?_
                        refine gw_callV (rest := []) hX ks_Mo_74 (ct_Mo_isLetter _ _ _ σ5 m h0 ch hlen hch h1 (e + 2) (by omega)) h0 rfl rfl (Nat.le_of_ble_eq_true rfl) nd_Mo_readSentence_265 (by decide) ?_
                        rintro v_ s_ ⟨hv_, hs_⟩
                        have hs_ := hs_.symm
                        subst hs_ hv_
                        show gw_W X σ5 0 0 268 [(10, .int (nI (px_skip len ch (e + 2)))), (4, .int (nI (acc.length + 1))), (5, .int (nI (e + 2))), (7, .int (nI e)), (6, .int (nI i)), (9, .int (nI (3 * (6 * j + acc.length)))), (0, .ref m), (1, .int (nI j)), (3, .int (nI 1)), (8, .int (nI e))] [.int (nI ((if px_lt len ch (e + 2) then 1 else 0)))]
                        have hi9 : (if px_lt len ch (e + 2) then 1 else 0) ≤ 1 := by split <;> omega
                        refine gw_if_eq (tgt := 273) hX nd_Mo_readSentence_268 rfl (fun hb => ?_) (fun hb => ?_)
                        · have hb : (if px_lt len ch (e + 2) then 1 else 0) = 0 := (nI_eq (a := (if px_lt len ch (e + 2) then 1 else 0)) (b := 0) (by omega) (by omega)).mp hb
                          have hnl : px_lt len ch (e + 2) = false := by by_cases e9 : px_lt len ch (e + 2) = true; (rw [if_pos e9] at hb; omega); exact Bool.not_eq_true _ ▸ e9
                          have hgo : ¬ (px_skip len ch (e + 2) = e + 2 ∧ px_lt len ch (e + 2) = true) := fun q => by rw [hnl] at q; exact absurd q.2 (by decide)
                          refine gw_iload hX nd_Mo_readSentence_273 0 rfl ?_
                          refine gw_istore hX nd_Mo_readSentence_275 (by decide) (L' := [(5, .int (nI (px_skip len ch (e + 2)))), (10, .int (nI (px_skip len ch (e + 2)))), (4, .int (nI (acc.length + 1))), (7, .int (nI e)), (6, .int (nI i)), (9, .int (nI (3 * (6 * j + acc.length)))), (0, .ref m), (1, .int (nI j)), (3, .int (nI 1)), (8, .int (nI e))]) rfl ?_
                          refine gw_goto (tgt := 18) hX nd_Mo_readSentence_277 rfl ?_
                          refine gw_cut (ks := [6, 7, 8, 2, 0, 4, 3]) (L' := [(0, .ref m), (1, .int (nI j)), (3, .int (nI 1)), (4, .int (nI (acc.length + 1))), (5, .int (nI (px_skip len ch (e + 2)))), (6, .int (nI i)), (7, .int (nI e))]) rfl ?_
                          have hlx : (acc ++ [px_f ch i e bf be (ch (e + 1) - 65)]).length = acc.length + 1 := by simp
                          have hb6 : rd_b (upd (upd (upd g6 (3 * (6 * j + acc.length)) (nI (px_B (px_h ch 7 i (e - i))))) (3 * (6 * j + acc.length) + 1) (nI (px_B (px_h ch (31 * 7 + 45) i (e - i))))) (3 * (6 * j + acc.length) + 2) (nI (px_B (px_h ch (31 * 7 + 60) bf (be - bf))))) j (acc ++ [px_f ch i e bf be (ch (e + 1) - 65)]) := by
                            have e1 : (px_f ch i e bf be (ch (e + 1) - 65)).2.1 = px_B (px_h ch (31 * 7 + 45) i (e - i)) := by unfold px_f; rw [if_neg (show ¬ e - i > 1 by omega)]
                            have hq := rd_bs hab (px_f ch i e bf be (ch (e + 1) - 65))
                            rw [e1] at hq
                            exact hq
                          have hl7 : mm_l (upd g7 (6 * j + acc.length) (nI (ch (e + 1) - 65))) j (acc ++ [px_f ch i e bf be (ch (e + 1) - 65)]) := rd_ls (hal rfl) (px_f ch i e bf be (ch (e + 1) - 65))
                          refine gw_head ?_ (ih (u - 1) (by omega) (acc ++ [px_f ch i e bf be (ch (e + 1) - 65)]) (px_skip len ch (e + 2)) i e σ5 _ _ (by rw [hlx]; omega) (by rw [hR, rs_good hlt (Or.inl ⟨hwe.2.2, hwd, by omega⟩) hok (by omega), if_neg hgo, show u - 1 + 2 = u + 1 by omega]) (rs_skip_le hlen (by omega)) (by omega) (by omega) h0 h1 h5 h6 h7 hb6 (fun _ => hl7) (fun i9 hi9 => by unfold upd; rw [if_neg (by omega), if_neg (by omega), if_neg (by omega)]; exact hs6 i9 hi9) (fun i9 hi9 => by unfold upd; rw [if_neg (by omega)]; exact hs7 i9 hi9) fr)
                          rw [hlx]
                        · have hb : ¬ (if px_lt len ch (e + 2) then 1 else 0) = 0 := fun h => hb ((nI_eq (a := (if px_lt len ch (e + 2) then 1 else 0)) (b := 0) (by omega) (by omega)).mpr h)
                          have hyl : px_lt len ch (e + 2) = true := by by_cases e9 : px_lt len ch (e + 2) = true; exact e9; (rw [if_neg e9] at hb; omega)
                          refine gw_iconst (v := (-1)) hX nd_Mo_readSentence_271 rfl ?_
                          exact gw_iret hX hQ hr nd_Mo_readSentence_272 (by decide) (by decide) ⟨_, _, _, h5, h6, h7, fr, Or.inl ⟨fun k ws q => (by rw [hR, rs_good hlt (Or.inl ⟨hwe.2.2, hwd, by omega⟩) hok (by omega), if_pos ⟨hse, hyl⟩] at q; cases q), rfl⟩⟩
                    · have hb : ¬ ch (e + 1) ≤ 68 := fun h => hb ((nI_leI (a := ch (e + 1)) (b := 68) (by omega) (by omega)).mpr h)
                      refine gw_iconst (v := (-1)) hX nd_Mo_readSentence_212 rfl ?_
                      exact gw_iret hX hQ hr nd_Mo_readSentence_213 (by decide) (by decide) ⟨_, _, _, h5, h6, h7, fr, Or.inl ⟨fun k ws q => (by rw [hR, rs_bad hlt (Or.inl ⟨hwe.2.2, hwd, by omega⟩) (fun q => by have q1 := q.2.2.2; omega)] at q; cases q), rfl⟩⟩
          · have hb : ¬ e - i ≤ 1 := fun h => hb ((nI_leI (a := e - i) (b := 1) (by omega) (by omega)).mpr h)
            refine gw_iload hX nd_Mo_readSentence_112 8 rfl ?_
            refine gw_iconst (v := nI 2) hX nd_Mo_readSentence_114 rfl ?_
            refine gw_isub hX nd_Mo_readSentence_115 ?_
            refine gw_topi (y := nI (e - 2)) (pk_sub (by omega)) ?_
            refine gw_goto (tgt := 121) hX nd_Mo_readSentence_116 rfl ?_
            refine gw_iload hX nd_Mo_readSentence_121 8 rfl ?_
            refine gw_callV (rest := [.int (nI (3 * (6 * j + acc.length) + 1)), .ref (m + 6)]) hX ks_Mo_78 (ct_Mo_hash _ _ _ σ2 m h0 ch hlen hch h1 45 (e - 2) e (by omega) (by omega) (by omega)) h0 rfl rfl (Nat.le_of_ble_eq_true rfl) nd_Mo_readSentence_123 (by decide) ?_
            rintro v_ s_ ⟨hv_, hs_⟩
            rw [hs_45] at hv_
            have hs_ := hs_.symm
            subst hs_ hv_
            show gw_W X σ2 0 0 126 [(9, .int (nI (3 * (6 * j + acc.length)))), (0, .ref m), (1, .int (nI j)), (3, .int (nI 1)), (4, .int (nI acc.length)), (5, .int (nI i)), (6, .int (nI bf)), (7, .int (nI be)), (8, .int (nI e))] [.int (nI (px_B (px_h ch (31 * 7 + 45) (e - 2) (e - (e - 2))))), .int (nI (3 * (6 * j + acc.length) + 1)), .ref (m + 6)]
            refine gw_iast hX nd_Mo_readSentence_126 h6 (3 * (6 * j + acc.length) + 1) rfl (by omega) (by decide) ?_
            obtain ⟨σ6, eσ6⟩ : ∃ hp_, hp_ = gw_up σ2 (m + 6) ((gw_I (gw_z X) 162 (upd (upd g6 (3 * (6 * j + acc.length)) (nI (px_B (px_h ch 7 i (e - i))))) (3 * (6 * j + acc.length) + 1) (nI (px_B (px_h ch (31 * 7 + 45) (e - 2) (e - (e - 2)))))))) := ⟨_, rfl⟩
            refine gw_heap eσ6.symm ?_
            have h0 : σ6.2 m = some (.inr (1, [.int th, .int (nI len), .ref (m + 1), .int (nI sn), .ref (m + 2), .ref (m + 3), .ref (m + 4), .int rs, .ref (m + 5), .ref (m + 6), .ref (m + 7), .ref (m + 8), .ref (m + 9), .int (nI mk), .int (nI ps), .ref (m + 10), .ref (m + 11), .ref (m + 12), .long bs, .long s2, .int be0, .int se, .int kp, .int kw])) := by rw [eσ6, gw_up_ne (by omega)]; exact h0
            have h1 : σ6.2 (m + 1) = some ((gw_I (gw_z X) 240 (fun j => nI (ch j)))) := by rw [eσ6, gw_up_ne (by omega)]; exact h1
            have h5 : σ6.2 (m + 5) = some ((gw_I (gw_z X) 9 f5)) := by rw [eσ6, gw_up_ne (by omega)]; exact h5
            have h6 : σ6.2 (m + 6) = some ((gw_I (gw_z X) 162 (upd (upd g6 (3 * (6 * j + acc.length)) (nI (px_B (px_h ch 7 i (e - i))))) (3 * (6 * j + acc.length) + 1) (nI (px_B (px_h ch (31 * 7 + 45) (e - 2) (e - (e - 2)))))))) := by rw [eσ6]; exact gw_up_eq _ _ _
            have h7 : σ6.2 (m + 7) = some ((gw_I (gw_z X) 54 g7)) := by rw [eσ6, gw_up_ne (by omega)]; exact h7
            have fr : gw_fr σ0 σ6 (m + 5) (m + 8) := gw_fr_tr fr (show gw_fr _ σ6 (m + 5) (m + 8) by rw [eσ6]; exact gw_fr_up _ _ _ (by omega) (by omega))
            refine gw_aload_n hX nd_Mo_readSentence_127 rfl 1 rfl ?_
            refine gw_get hX kf_Mo_25 nd_Mo_readSentence_128 h0 rfl ?_
            refine gw_iload hX nd_Mo_readSentence_131 0 rfl ?_
            refine gw_iconst (v := nI 2) hX nd_Mo_readSentence_133 rfl ?_
            refine gw_iadd hX nd_Mo_readSentence_134 ?_
            refine gw_topi (y := nI (3 * (6 * j + acc.length) + 2)) (nI_add _ _) ?_
            refine gw_aload_n hX nd_Mo_readSentence_135 rfl 1 rfl ?_
            refine gw_bipush (v := nI 60) hX nd_Mo_readSentence_136 rfl ?_
            refine gw_iload hX nd_Mo_readSentence_138 6 rfl ?_
            refine gw_iload hX nd_Mo_readSentence_140 7 rfl ?_
            refine gw_callV (rest := [.int (nI (3 * (6 * j + acc.length) + 2)), .ref (m + 6)]) hX ks_Mo_78 (ct_Mo_hash _ _ _ σ6 m h0 ch hlen hch h1 60 bf be (by omega) (by omega) (by omega)) h0 rfl rfl (Nat.le_of_ble_eq_true rfl) nd_Mo_readSentence_142 (by decide) ?_
            rintro v_ s_ ⟨hv_, hs_⟩
            rw [hs_60] at hv_
            have hs_ := hs_.symm
            subst hs_ hv_
            show gw_W X σ6 0 0 145 [(9, .int (nI (3 * (6 * j + acc.length)))), (0, .ref m), (1, .int (nI j)), (3, .int (nI 1)), (4, .int (nI acc.length)), (5, .int (nI i)), (6, .int (nI bf)), (7, .int (nI be)), (8, .int (nI e))] [.int (nI (px_B (px_h ch (31 * 7 + 60) bf (be - bf)))), .int (nI (3 * (6 * j + acc.length) + 2)), .ref (m + 6)]
            refine gw_iast hX nd_Mo_readSentence_145 h6 (3 * (6 * j + acc.length) + 2) rfl (by omega) (by decide) ?_
            obtain ⟨σ7, eσ7⟩ : ∃ hp_, hp_ = gw_up σ6 (m + 6) ((gw_I (gw_z X) 162 (upd (upd (upd g6 (3 * (6 * j + acc.length)) (nI (px_B (px_h ch 7 i (e - i))))) (3 * (6 * j + acc.length) + 1) (nI (px_B (px_h ch (31 * 7 + 45) (e - 2) (e - (e - 2)))))) (3 * (6 * j + acc.length) + 2) (nI (px_B (px_h ch (31 * 7 + 60) bf (be - bf))))))) := ⟨_, rfl⟩
            refine gw_heap eσ7.symm ?_
            have h0 : σ7.2 m = some (.inr (1, [.int th, .int (nI len), .ref (m + 1), .int (nI sn), .ref (m + 2), .ref (m + 3), .ref (m + 4), .int rs, .ref (m + 5), .ref (m + 6), .ref (m + 7), .ref (m + 8), .ref (m + 9), .int (nI mk), .int (nI ps), .ref (m + 10), .ref (m + 11), .ref (m + 12), .long bs, .long s2, .int be0, .int se, .int kp, .int kw])) := by rw [eσ7, gw_up_ne (by omega)]; exact h0
            have h1 : σ7.2 (m + 1) = some ((gw_I (gw_z X) 240 (fun j => nI (ch j)))) := by rw [eσ7, gw_up_ne (by omega)]; exact h1
            have h5 : σ7.2 (m + 5) = some ((gw_I (gw_z X) 9 f5)) := by rw [eσ7, gw_up_ne (by omega)]; exact h5
            have h6 : σ7.2 (m + 6) = some ((gw_I (gw_z X) 162 (upd (upd (upd g6 (3 * (6 * j + acc.length)) (nI (px_B (px_h ch 7 i (e - i))))) (3 * (6 * j + acc.length) + 1) (nI (px_B (px_h ch (31 * 7 + 45) (e - 2) (e - (e - 2)))))) (3 * (6 * j + acc.length) + 2) (nI (px_B (px_h ch (31 * 7 + 60) bf (be - bf))))))) := by rw [eσ7]; exact gw_up_eq _ _ _
            have h7 : σ7.2 (m + 7) = some ((gw_I (gw_z X) 54 g7)) := by rw [eσ7, gw_up_ne (by omega)]; exact h7
            have fr : gw_fr σ0 σ7 (m + 5) (m + 8) := gw_fr_tr fr (show gw_fr _ σ7 (m + 5) (m + 8) by rw [eσ7]; exact gw_fr_up _ _ _ (by omega) (by omega))
            refine gw_iload hX nd_Mo_readSentence_146 5 rfl ?_
            refine gw_istore hX nd_Mo_readSentence_148 (by decide) (L' := [(6, .int (nI i)), (9, .int (nI (3 * (6 * j + acc.length)))), (0, .ref m), (1, .int (nI j)), (3, .int (nI 1)), (4, .int (nI acc.length)), (5, .int (nI i)), (7, .int (nI be)), (8, .int (nI e))]) rfl ?_
            refine gw_iload hX nd_Mo_readSentence_150 8 rfl ?_
            refine gw_istore hX nd_Mo_readSentence_152 (by decide) (L' := [(7, .int (nI e)), (6, .int (nI i)), (9, .int (nI (3 * (6 * j + acc.length)))), (0, .ref m), (1, .int (nI j)), (3, .int (nI 1)), (4, .int (nI acc.length)), (5, .int (nI i)), (8, .int (nI e))]) rfl ?_
            refine gw_iload hX nd_Mo_readSentence_154 8 rfl ?_
            refine gw_istore hX nd_Mo_readSentence_156 (by decide) (L' := [(5, .int (nI e)), (7, .int (nI e)), (6, .int (nI i)), (9, .int (nI (3 * (6 * j + acc.length)))), (0, .ref m), (1, .int (nI j)), (3, .int (nI 1)), (4, .int (nI acc.length)), (8, .int (nI e))]) rfl ?_
            refine gw_iload_n hX nd_Mo_readSentence_158 rfl 6 rfl ?_
            refine gw_if_eq (tgt := 244) hX nd_Mo_readSentence_159 rfl (fun hb => ?_) (fun hb => ?_)
            · have hb : 1 = 0 := (nI_eq (a := 1) (b := 0) (by omega) (by omega)).mp hb
              exfalso; omega
            · have hb : ¬ 1 = 0 := fun h => hb ((nI_eq (a := 1) (b := 0) (by omega) (by omega)).mpr h)
              refine gw_aload_n hX nd_Mo_readSentence_162 rfl 4 rfl ?_
              refine gw_iload hX nd_Mo_readSentence_163 0 rfl ?_
              refine gw_bipush (v := nI 47) hX nd_Mo_readSentence_165 rfl ?_
              refine gw_callV (rest := []) hX ks_Mo_63 (ct_Mo_is _ _ _ σ7 m h0 ch hlen hch h1 e 47 (by omega) (by omega)) h0 rfl rfl (Nat.le_of_ble_eq_true rfl) nd_Mo_readSentence_167 (by decide) ?_
              rintro v_ s_ ⟨hv_, hs_⟩
              have hs_ := hs_.symm
              subst hs_ hv_
              show gw_W X σ7 0 0 170 [(5, .int (nI e)), (7, .int (nI e)), (6, .int (nI i)), (9, .int (nI (3 * (6 * j + acc.length)))), (0, .ref m), (1, .int (nI j)), (3, .int (nI 1)), (4, .int (nI acc.length)), (8, .int (nI e))] [.int (nI ((if px_is len ch 47 e then 1 else 0)))]
              have hi9 : (if px_is len ch 47 e then 1 else 0) ≤ 1 := by split <;> omega
              refine gw_if_eq (tgt := 212) hX nd_Mo_readSentence_170 rfl (fun hb => ?_) (fun hb => ?_)
              · have hb : (if px_is len ch 47 e then 1 else 0) = 0 := (nI_eq (a := (if px_is len ch 47 e then 1 else 0)) (b := 0) (by omega) (by omega)).mp hb
                have hns : px_is len ch 47 e = false := by by_cases e9 : px_is len ch 47 e = true; (rw [if_pos e9] at hb; omega); exact Bool.not_eq_true _ ▸ e9
                refine gw_iconst (v := (-1)) hX nd_Mo_readSentence_212 rfl ?_
                exact gw_iret hX hQ hr nd_Mo_readSentence_213 (by decide) (by decide) ⟨_, _, _, h5, h6, h7, fr, Or.inl ⟨fun k ws q => (by rw [hR, rs_bad hlt (Or.inl ⟨hwe.2.2, hwd, by omega⟩) (fun q => by have q1 := q.1; rw [hns] at q1; cases q1)] at q; cases q), rfl⟩⟩
              · have hb : ¬ (if px_is len ch 47 e then 1 else 0) = 0 := fun h => hb ((nI_eq (a := (if px_is len ch 47 e then 1 else 0)) (b := 0) (by omega) (by omega)).mpr h)
                have hsl : px_is len ch 47 e = true := by by_cases e9 : px_is len ch 47 e = true; exact e9; (rw [if_neg e9] at hb; omega)
                refine gw_iload hX nd_Mo_readSentence_173 0 rfl ?_
                refine gw_iconst (v := nI 1) hX nd_Mo_readSentence_175 rfl ?_
                refine gw_iadd hX nd_Mo_readSentence_176 ?_
                refine gw_topi (y := nI (e + 1)) (nI_add _ _) ?_
                refine gw_aload_n hX nd_Mo_readSentence_177 rfl 4 rfl ?_
                refine gw_get hX kf_Mo_56 nd_Mo_readSentence_178 h0 rfl ?_
                refine gw_icmp_ge (tgt := 212) hX nd_Mo_readSentence_181 rfl (fun hb => ?_) (fun hb => ?_)
                · have hb : len ≤ e + 1 := (nI_leI (a := len) (b := e + 1) (by omega) (by omega)).mp hb
                  refine gw_iconst (v := (-1)) hX nd_Mo_readSentence_212 rfl ?_
                  exact gw_iret hX hQ hr nd_Mo_readSentence_213 (by decide) (by decide) ⟨_, _, _, h5, h6, h7, fr, Or.inl ⟨fun k ws q => (by rw [hR, rs_bad hlt (Or.inl ⟨hwe.2.2, hwd, by omega⟩) (fun q => by have q1 := q.2.1; omega)] at q; cases q), rfl⟩⟩
                · have hb : ¬ len ≤ e + 1 := fun h => hb ((nI_leI (a := len) (b := e + 1) (by omega) (by omega)).mpr h)
                  have hc9 := hch (e + 1)
                  have hel2 := hb
                  refine gw_aload_n hX nd_Mo_readSentence_184 rfl 4 rfl ?_
                  refine gw_get hX kf_Mo_7 nd_Mo_readSentence_185 h0 rfl ?_
                  refine gw_iload hX nd_Mo_readSentence_188 0 rfl ?_
                  refine gw_iconst (v := nI 1) hX nd_Mo_readSentence_190 rfl ?_
                  refine gw_iadd hX nd_Mo_readSentence_191 ?_
                  refine gw_topi (y := nI (e + 1)) (nI_add _ _) ?_
                  refine gw_iald hX nd_Mo_readSentence_192 h1 (e + 1) rfl (by omega) (by decide) ?_
                  refine gw_topi (y := nI (ch (e + 1))) rfl ?_
                  refine gw_bipush (v := nI 65) hX nd_Mo_readSentence_193 rfl ?_
                  refine gw_icmp_lt (tgt := 212) hX nd_Mo_readSentence_195 rfl (fun hb => ?_) (fun hb => ?_)
                  · have hb : ch (e + 1) < 65 := (nI_ltI (a := ch (e + 1)) (b := 65) (by omega) (by omega)).mp hb
                    refine gw_iconst (v := (-1)) hX nd_Mo_readSentence_212 rfl ?_
                    exact gw_iret hX hQ hr nd_Mo_readSentence_213 (by decide) (by decide) ⟨_, _, _, h5, h6, h7, fr, Or.inl ⟨fun k ws q => (by rw [hR, rs_bad hlt (Or.inl ⟨hwe.2.2, hwd, by omega⟩) (fun q => by have q1 := q.2.2.1; omega)] at q; cases q), rfl⟩⟩
                  · have hb : ¬ ch (e + 1) < 65 := fun h => hb ((nI_ltI (a := ch (e + 1)) (b := 65) (by omega) (by omega)).mpr h)
                    have hlo := hb
                    refine gw_aload_n hX nd_Mo_readSentence_198 rfl 4 rfl ?_
                    refine gw_get hX kf_Mo_7 nd_Mo_readSentence_199 h0 rfl ?_
                    refine gw_iload hX nd_Mo_readSentence_202 0 rfl ?_
                    refine gw_iconst (v := nI 1) hX nd_Mo_readSentence_204 rfl ?_
                    refine gw_iadd hX nd_Mo_readSentence_205 ?_
                    refine gw_topi (y := nI (e + 1)) (nI_add _ _) ?_
                    refine gw_iald hX nd_Mo_readSentence_206 h1 (e + 1) rfl (by omega) (by decide) ?_
                    refine gw_topi (y := nI (ch (e + 1))) rfl ?_
                    refine gw_bipush (v := nI 68) hX nd_Mo_readSentence_207 rfl ?_
                    refine gw_icmp_le (tgt := 214) hX nd_Mo_readSentence_209 rfl (fun hb => ?_) (fun hb => ?_)
                    · have hb : ch (e + 1) ≤ 68 := (nI_leI (a := ch (e + 1)) (b := 68) (by omega) (by omega)).mp hb
                      have hok : rl_ok len ch e := ⟨hsl, by omega, by omega, by omega⟩
                      refine gw_aload_n hX nd_Mo_readSentence_214 rfl 4 rfl ?_
                      refine gw_get hX kf_Mo_28 nd_Mo_readSentence_215 h0 rfl ?_
                      refine gw_bipush (v := nI 6) hX nd_Mo_readSentence_218 rfl ?_
                      refine gw_iload_n hX nd_Mo_readSentence_220 rfl 5 rfl ?_
                      refine gw_imul hX nd_Mo_readSentence_221 ?_
                      refine gw_topi (y := nI (6 * j)) (pk_mul _ _) ?_
                      refine gw_iload hX nd_Mo_readSentence_222 7 rfl ?_
                      refine gw_iadd hX nd_Mo_readSentence_224 ?_
                      refine gw_topi (y := nI (6 * j + acc.length)) (nI_add _ _) ?_
                      refine gw_aload_n hX nd_Mo_readSentence_225 rfl 4 rfl ?_
                      refine gw_get hX kf_Mo_7 nd_Mo_readSentence_226 h0 rfl ?_
                      refine gw_iload hX nd_Mo_readSentence_229 0 rfl ?_
                      refine gw_iconst (v := nI 1) hX nd_Mo_readSentence_231 rfl ?_
                      refine gw_iadd hX nd_Mo_readSentence_232 ?_
                      refine gw_topi (y := nI (e + 1)) (nI_add _ _) ?_
                      refine gw_iald hX nd_Mo_readSentence_233 h1 (e + 1) rfl (by omega) (by decide) ?_
                      refine gw_topi (y := nI (ch (e + 1))) rfl ?_
                      refine gw_bipush (v := nI 65) hX nd_Mo_readSentence_234 rfl ?_
                      refine gw_isub hX nd_Mo_readSentence_236 ?_
                      refine gw_topi (y := nI (ch (e + 1) - 65)) (pk_sub (by omega)) ?_
                      refine gw_iast hX nd_Mo_readSentence_237 h7 (6 * j + acc.length) rfl (by omega) (by decide) ?_
                      obtain ⟨σ8, eσ8⟩ : ∃ hp_, hp_ = gw_up σ7 (m + 7) ((gw_I (gw_z X) 54 (upd g7 (6 * j + acc.length) (nI (ch (e + 1) - 65))))) := ⟨_, rfl⟩
                      refine gw_heap eσ8.symm ?_
                      have h0 : σ8.2 m = some (.inr (1, [.int th, .int (nI len), .ref (m + 1), .int (nI sn), .ref (m + 2), .ref (m + 3), .ref (m + 4), .int rs, .ref (m + 5), .ref (m + 6), .ref (m + 7), .ref (m + 8), .ref (m + 9), .int (nI mk), .int (nI ps), .ref (m + 10), .ref (m + 11), .ref (m + 12), .long bs, .long s2, .int be0, .int se, .int kp, .int kw])) := by rw [eσ8, gw_up_ne (by omega)]; exact h0
                      have h1 : σ8.2 (m + 1) = some ((gw_I (gw_z X) 240 (fun j => nI (ch j)))) := by rw [eσ8, gw_up_ne (by omega)]; exact h1
                      have h5 : σ8.2 (m + 5) = some ((gw_I (gw_z X) 9 f5)) := by rw [eσ8, gw_up_ne (by omega)]; exact h5
                      have h6 : σ8.2 (m + 6) = some ((gw_I (gw_z X) 162 (upd (upd (upd g6 (3 * (6 * j + acc.length)) (nI (px_B (px_h ch 7 i (e - i))))) (3 * (6 * j + acc.length) + 1) (nI (px_B (px_h ch (31 * 7 + 45) (e - 2) (e - (e - 2)))))) (3 * (6 * j + acc.length) + 2) (nI (px_B (px_h ch (31 * 7 + 60) bf (be - bf))))))) := by rw [eσ8, gw_up_ne (by omega)]; exact h6
                      have h7 : σ8.2 (m + 7) = some ((gw_I (gw_z X) 54 (upd g7 (6 * j + acc.length) (nI (ch (e + 1) - 65))))) := by rw [eσ8]; exact gw_up_eq _ _ _
                      have fr : gw_fr σ0 σ8 (m + 5) (m + 8) := gw_fr_tr fr (show gw_fr _ σ8 (m + 5) (m + 8) by rw [eσ8]; exact gw_fr_up _ _ _ (by omega) (by omega))
                      refine gw_iload hX nd_Mo_readSentence_238 0 rfl ?_
                      refine gw_iconst (v := nI 2) hX nd_Mo_readSentence_240 rfl ?_
                      refine gw_iadd hX nd_Mo_readSentence_241 ?_
                      refine gw_topi (y := nI (e + 2)) (nI_add _ _) ?_
                      refine gw_istore hX nd_Mo_readSentence_242 (by decide) (L' := [(5, .int (nI (e + 2))), (7, .int (nI e)), (6, .int (nI i)), (9, .int (nI (3 * (6 * j + acc.length)))), (0, .ref m), (1, .int (nI j)), (3, .int (nI 1)), (4, .int (nI acc.length)), (8, .int (nI e))]) rfl ?_
                      refine gw_iinc hX nd_Mo_readSentence_244 7 rfl (v := nI (acc.length + 1)) (show nI acc.length + nI 1 = nI (acc.length + 1) from nI_add _ _) (by decide) (L' := [(4, .int (nI (acc.length + 1))), (5, .int (nI (e + 2))), (7, .int (nI e)), (6, .int (nI i)), (9, .int (nI (3 * (6 * j + acc.length)))), (0, .ref m), (1, .int (nI j)), (3, .int (nI 1)), (8, .int (nI e))]) rfl ?_
                      refine gw_aload_n hX nd_Mo_readSentence_247 rfl 5 rfl ?_
                      refine gw_iload hX nd_Mo_readSentence_248 1 rfl ?_
                      refine gw_callV (rest := []) hX ks_Mo_71 (ct_Mo_skip _ _ _ σ8 m h0 ch hlen hch h1 (e + 2) (by omega)) h0 rfl rfl (Nat.le_of_ble_eq_true rfl) nd_Mo_readSentence_250 (by decide) ?_
                      rintro v_ s_ ⟨hv_, hs_⟩
                      have hs_ := hs_.symm
                      subst hs_ hv_
                      show gw_W X σ8 0 0 253 [(4, .int (nI (acc.length + 1))), (5, .int (nI (e + 2))), (7, .int (nI e)), (6, .int (nI i)), (9, .int (nI (3 * (6 * j + acc.length)))), (0, .ref m), (1, .int (nI j)), (3, .int (nI 1)), (8, .int (nI e))] [.int (nI (px_skip len ch (e + 2)))]
                      refine gw_istore hX nd_Mo_readSentence_253 (by decide) (L' := [(10, .int (nI (px_skip len ch (e + 2)))), (4, .int (nI (acc.length + 1))), (5, .int (nI (e + 2))), (7, .int (nI e)), (6, .int (nI i)), (9, .int (nI (3 * (6 * j + acc.length)))), (0, .ref m), (1, .int (nI j)), (3, .int (nI 1)), (8, .int (nI e))]) rfl ?_
                      refine gw_iload hX nd_Mo_readSentence_255 0 rfl ?_
                      refine gw_iload hX nd_Mo_readSentence_257 2 rfl ?_
                      have hsk9 := rs_skip_le (ch := ch) (e := e + 2) hlen (by omega)
                      refine gw_icmp_ne (tgt := 273) hX nd_Mo_readSentence_259 rfl (fun hb => ?_) (fun hb => ?_)
                      · have hb : ¬ px_skip len ch (e + 2) = e + 2 := fun h => hb ((nI_eq (a := px_skip len ch (e + 2)) (b := e + 2) (by omega) (by omega)).mpr h)
                        have hgo : ¬ (px_skip len ch (e + 2) = e + 2 ∧ px_lt len ch (e + 2) = true) := fun q => hb q.1
                        refine gw_iload hX nd_Mo_readSentence_273 0 rfl ?_
                        refine gw_istore hX nd_Mo_readSentence_275 (by decide) (L' := [(5, .int (nI (px_skip len ch (e + 2)))), (10, .int (nI (px_skip len ch (e + 2)))), (4, .int (nI (acc.length + 1))), (7, .int (nI e)), (6, .int (nI i)), (9, .int (nI (3 * (6 * j + acc.length)))), (0, .ref m), (1, .int (nI j)), (3, .int (nI 1)), (8, .int (nI e))]) rfl ?_
                        refine gw_goto (tgt := 18) hX nd_Mo_readSentence_277 rfl ?_
                        refine gw_cut (ks := [6, 7, 8, 2, 0, 4, 3]) (L' := [(0, .ref m), (1, .int (nI j)), (3, .int (nI 1)), (4, .int (nI (acc.length + 1))), (5, .int (nI (px_skip len ch (e + 2)))), (6, .int (nI i)), (7, .int (nI e))]) rfl ?_
                        have hlx : (acc ++ [px_f ch i e bf be (ch (e + 1) - 65)]).length = acc.length + 1 := by simp
                        have hb6 : rd_b (upd (upd (upd g6 (3 * (6 * j + acc.length)) (nI (px_B (px_h ch 7 i (e - i))))) (3 * (6 * j + acc.length) + 1) (nI (px_B (px_h ch (31 * 7 + 45) (e - 2) (e - (e - 2)))))) (3 * (6 * j + acc.length) + 2) (nI (px_B (px_h ch (31 * 7 + 60) bf (be - bf))))) j (acc ++ [px_f ch i e bf be (ch (e + 1) - 65)]) := by
                          have e1 : (px_f ch i e bf be (ch (e + 1) - 65)).2.1 = px_B (px_h ch (31 * 7 + 45) (e - 2) (e - (e - 2))) := by unfold px_f; rw [if_pos (show e - i > 1 by omega)]
                          have hq := rd_bs hab (px_f ch i e bf be (ch (e + 1) - 65))
                          rw [e1] at hq
                          exact hq
                        have hl7 : mm_l (upd g7 (6 * j + acc.length) (nI (ch (e + 1) - 65))) j (acc ++ [px_f ch i e bf be (ch (e + 1) - 65)]) := rd_ls (hal rfl) (px_f ch i e bf be (ch (e + 1) - 65))
                        refine gw_head ?_ (ih (u - 1) (by omega) (acc ++ [px_f ch i e bf be (ch (e + 1) - 65)]) (px_skip len ch (e + 2)) i e σ8 _ _ (by rw [hlx]; omega) (by rw [hR, rs_good hlt (Or.inl ⟨hwe.2.2, hwd, by omega⟩) hok (by omega), if_neg hgo, show u - 1 + 2 = u + 1 by omega]) (rs_skip_le hlen (by omega)) (by omega) (by omega) h0 h1 h5 h6 h7 hb6 (fun _ => hl7) (fun i9 hi9 => by unfold upd; rw [if_neg (by omega), if_neg (by omega), if_neg (by omega)]; exact hs6 i9 hi9) (fun i9 hi9 => by unfold upd; rw [if_neg (by omega)]; exact hs7 i9 hi9) fr)
                        rw [hlx]
                      · have hb : px_skip len ch (e + 2) = e + 2 := (nI_eq (a := px_skip len ch (e + 2)) (b := e + 2) (by omega) (by omega)).mp hb
                        have hse := hb
                        refine gw_aload_n hX nd_Mo_readSentence_262 rfl 6 rfl ?_
                        refine gw_iload hX nd_Mo_readSentence_263 2 rfl ?_
                        refine gw_callV (rest := []) hX ks_Mo_74 (ct_Mo_isLetter _ _ _ σ8 m h0 ch hlen hch h1 (e + 2) (by omega)) h0 rfl rfl (Nat.le_of_ble_eq_true rfl) nd_Mo_readSentence_265 (by decide) ?_
                        rintro v_ s_ ⟨hv_, hs_⟩
                        have hs_ := hs_.symm
                        subst hs_ hv_
                        show gw_W X σ8 0 0 268 [(10, .int (nI (px_skip len ch (e + 2)))), (4, .int (nI (acc.length + 1))), (5, .int (nI (e + 2))), (7, .int (nI e)), (6, .int (nI i)), (9, .int (nI (3 * (6 * j + acc.length)))), (0, .ref m), (1, .int (nI j)), (3, .int (nI 1)), (8, .int (nI e))] [.int (nI ((if px_lt len ch (e + 2) then 1 else 0)))]
                        have hi9 : (if px_lt len ch (e + 2) then 1 else 0) ≤ 1 := by split <;> omega
                        refine gw_if_eq (tgt := 273) hX nd_Mo_readSentence_268 rfl (fun hb => ?_) (fun hb => ?_)
                        · have hb : (if px_lt len ch (e + 2) then 1 else 0) = 0 := (nI_eq (a := (if px_lt len ch (e + 2) then 1 else 0)) (b := 0) (by omega) (by omega)).mp hb
                          have hnl : px_lt len ch (e + 2) = false := by by_cases e9 : px_lt len ch (e + 2) = true; (rw [if_pos e9] at hb; omega); exact Bool.not_eq_true _ ▸ e9
                          have hgo : ¬ (px_skip len ch (e + 2) = e + 2 ∧ px_lt len ch (e + 2) = true) := fun q => by rw [hnl] at q; exact absurd q.2 (by decide)
                          refine gw_iload hX nd_Mo_readSentence_273 0 rfl ?_
                          refine gw_istore hX nd_Mo_readSentence_275 (by decide) (L' := [(5, .int (nI (px_skip len ch (e + 2)))), (10, .int (nI (px_skip len ch (e + 2)))), (4, .int (nI (acc.length + 1))), (7, .int (nI e)), (6, .int (nI i)), (9, .int (nI (3 * (6 * j + acc.length)))), (0, .ref m), (1, .int (nI j)), (3, .int (nI 1)), (8, .int (nI e))]) rfl ?_
                          refine gw_goto (tgt := 18) hX nd_Mo_readSentence_277 rfl ?_
                          refine gw_cut (ks := [6, 7, 8, 2, 0, 4, 3]) (L' := [(0, .ref m), (1, .int (nI j)), (3, .int (nI 1)), (4, .int (nI (acc.length + 1))), (5, .int (nI (px_skip len ch (e + 2)))), (6, .int (nI i)), (7, .int (nI e))]) rfl ?_
                          have hlx : (acc ++ [px_f ch i e bf be (ch (e + 1) - 65)]).length = acc.length + 1 := by simp
                          have hb6 : rd_b (upd (upd (upd g6 (3 * (6 * j + acc.length)) (nI (px_B (px_h ch 7 i (e - i))))) (3 * (6 * j + acc.length) + 1) (nI (px_B (px_h ch (31 * 7 + 45) (e - 2) (e - (e - 2)))))) (3 * (6 * j + acc.length) + 2) (nI (px_B (px_h ch (31 * 7 + 60) bf (be - bf))))) j (acc ++ [px_f ch i e bf be (ch (e + 1) - 65)]) := by
                            have e1 : (px_f ch i e bf be (ch (e + 1) - 65)).2.1 = px_B (px_h ch (31 * 7 + 45) (e - 2) (e - (e - 2))) := by unfold px_f; rw [if_pos (show e - i > 1 by omega)]
                            have hq := rd_bs hab (px_f ch i e bf be (ch (e + 1) - 65))
                            rw [e1] at hq
                            exact hq
                          have hl7 : mm_l (upd g7 (6 * j + acc.length) (nI (ch (e + 1) - 65))) j (acc ++ [px_f ch i e bf be (ch (e + 1) - 65)]) := rd_ls (hal rfl) (px_f ch i e bf be (ch (e + 1) - 65))
                          refine gw_head ?_ (ih (u - 1) (by omega) (acc ++ [px_f ch i e bf be (ch (e + 1) - 65)]) (px_skip len ch (e + 2)) i e σ8 _ _ (by rw [hlx]; omega) (by rw [hR, rs_good hlt (Or.inl ⟨hwe.2.2, hwd, by omega⟩) hok (by omega), if_neg hgo, show u - 1 + 2 = u + 1 by omega]) (rs_skip_le hlen (by omega)) (by omega) (by omega) h0 h1 h5 h6 h7 hb6 (fun _ => hl7) (fun i9 hi9 => by unfold upd; rw [if_neg (by omega), if_neg (by omega), if_neg (by omega)]; exact hs6 i9 hi9) (fun i9 hi9 => by unfold upd; rw [if_neg (by omega)]; exact hs7 i9 hi9) fr)
                          rw [hlx]
                        · have hb : ¬ (if px_lt len ch (e + 2) then 1 else 0) = 0 := fun h => hb ((nI_eq (a := (if px_lt len ch (e + 2) then 1 else 0)) (b := 0) (by omega) (by omega)).mpr h)
                          have hyl : px_lt len ch (e + 2) = true := by by_cases e9 : px_lt len ch (e + 2) = true; exact e9; (rw [if_neg e9] at hb; omega)
                          refine gw_iconst (v := (-1)) hX nd_Mo_readSentence_271 rfl ?_
                          exact gw_iret hX hQ hr nd_Mo_readSentence_272 (by decide) (by decide) ⟨_, _, _, h5, h6, h7, fr, Or.inl ⟨fun k ws q => (by rw [hR, rs_good hlt (Or.inl ⟨hwe.2.2, hwd, by omega⟩) hok (by omega), if_pos ⟨hse, hyl⟩] at q; cases q), rfl⟩⟩
                    · have hb : ¬ ch (e + 1) ≤ 68 := fun h => hb ((nI_leI (a := ch (e + 1)) (b := 68) (by omega) (by omega)).mpr h)
                      refine gw_iconst (v := (-1)) hX nd_Mo_readSentence_212 rfl ?_
                      exact gw_iret hX hQ hr nd_Mo_readSentence_213 (by decide) (by decide) ⟨_, _, _, h5, h6, h7, fr, Or.inl ⟨fun k ws q => (by rw [hR, rs_bad hlt (Or.inl ⟨hwe.2.2, hwd, by omega⟩) (fun q => by have q1 := q.2.2.2; omega)] at q; cases q), rfl⟩⟩
        · have hb : acc.length = 6 := (nI_eq (a := acc.length) (b := 6) (by omega) (by omega)).mp hb
          refine gw_iconst (v := (-1)) hX nd_Mo_readSentence_63 rfl ?_
          exact gw_iret hX hQ hr nd_Mo_readSentence_64 (by decide) (by decide) ⟨_, _, _, h5, h6, h7, fr, Or.inl ⟨fun k ws q => (by rw [hR, rd_big hlt hwd (Or.inr hb)] at q; cases q), rfl⟩⟩
set_option maxRecDepth 100000 in
set_option maxHeartbeats 4000000 in
theorem ct_Mo_readSentence_t (l : Launch) (Z : gw_Z) (b0 : Nat) (σ : gw_S) (m : Nat) {th rs be0 se kp kw : Int32} {len sn mk ps : Nat} {bs s2 : Int64} (ch : Nat → Nat) (hlen : len ≤ 240) (hch : ∀ j, ch j < 127) (f5 f6 f7 : Nat → Int32) (j k : Nat) (hj : j ≤ 8) (hk : k ≤ 240) (h0 : σ.2 m = some (.inr (1, [.int th, .int (nI len), .ref (m + 1), .int (nI sn), .ref (m + 2), .ref (m + 3), .ref (m + 4), .int rs, .ref (m + 5), .ref (m + 6), .ref (m + 7), .ref (m + 8), .ref (m + 9), .int (nI mk), .int (nI ps), .ref (m + 10), .ref (m + 11), .ref (m + 12), .long bs, .long s2, .int be0, .int se, .int kp, .int kw]))) (h1 : σ.2 (m + 1) = some (gw_I Z 240 (fun j => nI (ch j)))) (h5 : σ.2 (m + 5) = some (gw_I Z 9 f5)) (h6 : σ.2 (m + 6) = some (gw_I Z 162 f6)) (h7 : σ.2 (m + 7) = some (gw_I Z 54 f7)) : gw_M l ny_Mo_readSentence nc_Mo_readSentence (11, 2, 45, 0, 0) (some .int) Z b0 σ [.ref m, .int (nI j), .int (nI k), .int (nI 1)] (fun v σ' => rd_P σ σ' Z m f5 f6 f7 j true (px_go len ch true 8 (px_skip len ch k) (px_skip len ch k) (px_skip len ch k) []) v) := by
  refine gw_M_of rfl (Nat.le_of_ble_eq_true rfl) ?_
  intro X hX hl hz hb0 hr hnm hQ
  subst hz hb0 hl
  have hX : gw_ok X nc_Mo_readSentence "LabelLearnerModel" (11, 2, 45, 0, 0) := hX
  show gw_W X σ 0 0 0 [(0, .ref m), (1, .int (nI j)), (2, .int (nI k)), (3, .int (nI 1))] []
  have fr : gw_fr σ σ (m + 5) (m + 8) := gw_fr_rf _ _ _
  refine gw_iconst (v := nI 0) hX nd_Mo_readSentence_0 rfl ?_
  refine gw_istore hX nd_Mo_readSentence_1 (by decide) (L' := [(4, .int (nI 0)), (0, .ref m), (1, .int (nI j)), (2, .int (nI k)), (3, .int (nI 1))]) rfl ?_
  refine gw_aload_n hX nd_Mo_readSentence_3 rfl 1 rfl ?_
  refine gw_iload_n hX nd_Mo_readSentence_4 rfl 3 rfl ?_
  refine gw_callV (rest := []) hX ks_Mo_71 (ct_Mo_skip _ _ _ σ m h0 ch hlen hch h1 k hk) h0 rfl rfl (Nat.le_of_ble_eq_true rfl) nd_Mo_readSentence_5 (by decide) ?_
  rintro v_ s_ ⟨hv_, hs_⟩
  have hs_ := hs_.symm
  subst hs_ hv_
  show gw_W X σ 0 0 8 [(4, .int (nI 0)), (0, .ref m), (1, .int (nI j)), (2, .int (nI k)), (3, .int (nI 1))] [.int (nI (px_skip len ch k))]
  refine gw_istore hX nd_Mo_readSentence_8 (by decide) (L' := [(5, .int (nI (px_skip len ch k))), (4, .int (nI 0)), (0, .ref m), (1, .int (nI j)), (2, .int (nI k)), (3, .int (nI 1))]) rfl ?_
  refine gw_iload hX nd_Mo_readSentence_10 0 rfl ?_
  refine gw_istore hX nd_Mo_readSentence_12 (by decide) (L' := [(6, .int (nI (px_skip len ch k))), (5, .int (nI (px_skip len ch k))), (4, .int (nI 0)), (0, .ref m), (1, .int (nI j)), (2, .int (nI k)), (3, .int (nI 1))]) rfl ?_
  refine gw_iload hX nd_Mo_readSentence_14 1 rfl ?_
  refine gw_istore hX nd_Mo_readSentence_16 (by decide) (L' := [(7, .int (nI (px_skip len ch k))), (6, .int (nI (px_skip len ch k))), (5, .int (nI (px_skip len ch k))), (4, .int (nI 0)), (0, .ref m), (1, .int (nI j)), (2, .int (nI k)), (3, .int (nI 1))]) rfl ?_
  refine gw_cut (ks := [4, 5, 7, 3, 2, 1, 0]) (L' := [(0, .ref m), (1, .int (nI j)), (3, .int (nI 1)), (4, .int (nI 0)), (5, .int (nI (px_skip len ch k))), (6, .int (nI (px_skip len ch k))), (7, .int (nI (px_skip len ch k)))]) rfl ?_
  exact lp_Mo_rd_t m ch hlen hch f5 f6 f7 j hj _ hX hQ hr 6 [] (px_skip len ch k) (px_skip len ch k) (px_skip len ch k) σ f6 f7 rfl rfl (rs_skip_le hlen hk) (Nat.le_refl _) (rs_skip_le hlen hk) h0 h1 h5 h6 h7 (fun w x hx => by simp at hx) (fun _ w x hx => by simp at hx) (fun _ _ => rfl) (fun _ _ => rfl) fr
set_option maxRecDepth 100000 in
set_option maxHeartbeats 8000000 in
theorem lp_Mo_rd_f {X : gw_C} (m : Nat) {th rs be0 se kp kw : Int32} {len sn mk ps : Nat} {bs s2 : Int64} (ch : Nat → Nat) (hlen : len ≤ 240) (hch : ∀ j, ch j < 127) (f5 f6 f7 : Nat → Int32) (j : Nat) (hj : j ≤ 8) (R : Option (Nat × List px_W)) {σ0 : gw_S} (hX : gw_ok X nc_Mo_readSentence "LabelLearnerModel" (11, 2, 45, 0, 0)) (hQ : X.2.2.2.2 = gw_end X (fun v σ' => rd_P σ0 σ' (gw_z X) m f5 f6 f7 j false R v) 0 0) (hr : X.2.2.1.1.sig.returnType = (some .int)) : ∀ (u : Nat) (acc : List px_W) (i bf be : Nat) (σ : gw_S) (g6 g7 : Nat → Int32), acc.length + u = 6 → R = px_go len ch false (u + 2) i bf be acc → i ≤ 240 → bf ≤ be → be ≤ 240 → σ.2 m = some (.inr (1, [.int th, .int (nI len), .ref (m + 1), .int (nI sn), .ref (m + 2), .ref (m + 3), .ref (m + 4), .int rs, .ref (m + 5), .ref (m + 6), .ref (m + 7), .ref (m + 8), .ref (m + 9), .int (nI mk), .int (nI ps), .ref (m + 10), .ref (m + 11), .ref (m + 12), .long bs, .long s2, .int be0, .int se, .int kp, .int kw])) → σ.2 (m + 1) = some (gw_I (gw_z X) 240 (fun j => nI (ch j))) → σ.2 (m + 5) = some (gw_I (gw_z X) 9 f5) → σ.2 (m + 6) = some (gw_I (gw_z X) 162 g6) → σ.2 (m + 7) = some (gw_I (gw_z X) 54 g7) → rd_b g6 j acc → (false = true → mm_l g7 j acc) → (∀ i, i < 18 * j ∨ 18 * j + 18 ≤ i → g6 i = f6 i) → (∀ i, i < 6 * j ∨ 6 * j + 6 ≤ i → g7 i = f7 i) → gw_fr σ0 σ (m + 5) (m + 8) → gw_W X σ 0 0 18 [(0, .ref m), (1, .int (nI j)), (3, .int (nI 0)), (4, .int (nI acc.length)), (5, .int (nI i)), (6, .int (nI bf)), (7, .int (nI be))] [] := by
  intro u
  induction u using Nat.strongRecOn with
  | ind u ih =>
    intro acc i bf be σ g6 g7
    intro hau hR hi hbb hbe h0 h1 h5 h6 h7 hab hal hs6 hs7 fr
    refine gw_aload_n hX nd_Mo_readSentence_18 rfl 0 rfl ?_
    refine gw_iload hX nd_Mo_readSentence_19 4 rfl ?_
    refine gw_callV (rest := []) hX ks_Mo_74 (ct_Mo_isLetter _ _ _ σ m h0 ch hlen hch h1 i (by omega)) h0 rfl rfl (Nat.le_of_ble_eq_true rfl) nd_Mo_readSentence_21 (by decide) ?_
    rintro v_ s_ ⟨hv_, hs_⟩
    have hs_ := hs_.symm
    subst hs_ hv_
    show gw_W X σ 0 0 24 [(0, .ref m), (1, .int (nI j)), (3, .int (nI 0)), (4, .int (nI acc.length)), (5, .int (nI i)), (6, .int (nI bf)), (7, .int (nI be))] [.int (nI ((if px_lt len ch i then 1 else 0)))]
    have hi9 : (if px_lt len ch i then 1 else 0) ≤ 1 := by split <;> omega
    refine gw_if_eq (tgt := 280) hX nd_Mo_readSentence_24 rfl (fun hb => ?_) (fun hb => ?_)
    · have hb : (if px_lt len ch i then 1 else 0) = 0 := (nI_eq (a := (if px_lt len ch i then 1 else 0)) (b := 0) (by omega) (by omega)).mp hb
      have hlt : px_lt len ch i = false := by by_cases e9 : px_lt len ch i = true; (rw [if_pos e9] at hb; omega); exact Bool.not_eq_true _ ▸ e9
      have hRx : R = some (i, acc) := by rw [hR]; exact rs_no hlt
      refine gw_aload_n hX nd_Mo_readSentence_280 rfl 0 rfl ?_
      refine gw_get hX kf_Mo_22 nd_Mo_readSentence_281 h0 rfl ?_
      refine gw_iload_n hX nd_Mo_readSentence_284 rfl 1 rfl ?_
      refine gw_iload hX nd_Mo_readSentence_285 3 rfl ?_
      refine gw_iast hX nd_Mo_readSentence_287 h5 j rfl (by omega) (by decide) ?_
      obtain ⟨σ1, eσ1⟩ : ∃ hp_, hp_ = gw_up σ (m + 5) ((gw_I (gw_z X) 9 (upd f5 j (nI acc.length)))) := ⟨_, rfl⟩
      refine gw_heap eσ1.symm ?_
      have h0 : σ1.2 m = some (.inr (1, [.int th, .int (nI len), .ref (m + 1), .int (nI sn), .ref (m + 2), .ref (m + 3), .ref (m + 4), .int rs, .ref (m + 5), .ref (m + 6), .ref (m + 7), .ref (m + 8), .ref (m + 9), .int (nI mk), .int (nI ps), .ref (m + 10), .ref (m + 11), .ref (m + 12), .long bs, .long s2, .int be0, .int se, .int kp, .int kw])) := by rw [eσ1, gw_up_ne (by omega)]; exact h0
      have h1 : σ1.2 (m + 1) = some ((gw_I (gw_z X) 240 (fun j => nI (ch j)))) := by rw [eσ1, gw_up_ne (by omega)]; exact h1
      have h5 : σ1.2 (m + 5) = some ((gw_I (gw_z X) 9 (upd f5 j (nI acc.length)))) := by rw [eσ1]; exact gw_up_eq _ _ _
      have h6 : σ1.2 (m + 6) = some ((gw_I (gw_z X) 162 g6)) := by rw [eσ1, gw_up_ne (by omega)]; exact h6
      have h7 : σ1.2 (m + 7) = some ((gw_I (gw_z X) 54 g7)) := by rw [eσ1, gw_up_ne (by omega)]; exact h7
      have fr : gw_fr σ0 σ1 (m + 5) (m + 8) := gw_fr_tr fr (show gw_fr _ σ1 (m + 5) (m + 8) by rw [eσ1]; exact gw_fr_up _ _ _ (by omega) (by omega))
      refine gw_iload hX nd_Mo_readSentence_288 3 rfl ?_
      refine gw_if_ne (tgt := 297) hX nd_Mo_readSentence_290 rfl (fun hb => ?_) (fun hb => ?_)
      · have hb : ¬ acc.length = 0 := fun h => hb ((nI_eq (a := acc.length) (b := 0) (by omega) (by omega)).mpr h)
        refine gw_iload hX nd_Mo_readSentence_297 4 rfl ?_
        exact gw_iret hX hQ hr nd_Mo_readSentence_299 (by decide) (by decide) ⟨_, _, _, h5, h6, h7, fr, Or.inr ⟨i, acc, hRx, fun q => (by rw [q] at hb; exact hb rfl), rfl, by omega, by omega, ⟨if_pos rfl, hab⟩, hal, ⟨fun i9 hi9 => if_neg hi9, hs6, hs7⟩⟩⟩
      · have hb : acc.length = 0 := (nI_eq (a := acc.length) (b := 0) (by omega) (by omega)).mp hb
        refine gw_iconst (v := (-1)) hX nd_Mo_readSentence_293 rfl ?_
        refine gw_goto (tgt := 299) hX nd_Mo_readSentence_294 rfl ?_
        exact gw_iret hX hQ hr nd_Mo_readSentence_299 (by decide) (by decide) ⟨_, _, _, h5, h6, h7, fr, Or.inl ⟨fun k ws q => (by rw [hRx] at q; cases q; exact List.eq_nil_of_length_eq_zero (by omega)), rfl⟩⟩
    · have hb : ¬ (if px_lt len ch i then 1 else 0) = 0 := fun h => hb ((nI_eq (a := (if px_lt len ch i then 1 else 0)) (b := 0) (by omega) (by omega)).mpr h)
      have hlt : px_lt len ch i = true := by by_cases e9 : px_lt len ch i = true; exact e9; (rw [if_neg e9] at hb; omega)
      refine gw_iload hX nd_Mo_readSentence_27 4 rfl ?_
      refine gw_istore hX nd_Mo_readSentence_29 (by decide) (L' := [(8, .int (nI i)), (0, .ref m), (1, .int (nI j)), (3, .int (nI 0)), (4, .int (nI acc.length)), (5, .int (nI i)), (6, .int (nI bf)), (7, .int (nI be))]) rfl ?_
      refine gw_cut (ks := [1, 2, 3, 4, 5, 6, 7, 0]) (L' := [(0, .ref m), (1, .int (nI j)), (3, .int (nI 0)), (4, .int (nI acc.length)), (5, .int (nI i)), (6, .int (nI bf)), (7, .int (nI be)), (8, .int (nI i))]) rfl ?_
      obtain ⟨e, hwd⟩ : ∃ e, px_word len ch i = e := ⟨_, rfl⟩
      have hwe := px_word_end len ch i
      rw [hwd] at hwe
      have hil := (px_lt_iff.mp hlt).1
      have hel : e ≤ len := px_end_le (M := len) (fun q hq => (px_lt_iff.mp hq).1) hwe (by omega)
      have hie : i < e := by
        by_cases q : i < e
        · exact q
        · have q2 : e = i := by have := hwe.1; omega
          have q3 := hwe.2.2
          rw [q2, hlt] at q3; cases q3
      refine lp_Mo_rdE m h0 ch hlen hch h1 hwd (e := e) ?_ hX (240 - i) i (by omega) (Nat.le_refl _) (fun q q1 q2 => by omega)
      show gw_W X σ 0 0 46 [(0, .ref m), (1, .int (nI j)), (3, .int (nI 0)), (4, .int (nI acc.length)), (5, .int (nI i)), (6, .int (nI bf)), (7, .int (nI be)), (8, .int (nI e))] []
      refine gw_iload hX nd_Mo_readSentence_46 7 rfl ?_
      refine gw_iload hX nd_Mo_readSentence_48 4 rfl ?_
      refine gw_isub hX nd_Mo_readSentence_50 ?_
      refine gw_topi (y := nI (e - i)) (pk_sub (by omega)) ?_
      refine gw_bipush (v := nI 6) hX nd_Mo_readSentence_51 rfl ?_
      refine gw_icmp_gt (tgt := 63) hX nd_Mo_readSentence_53 rfl (fun hb => ?_) (fun hb => ?_)
      · have hb : 6 < e - i := (nI_ltI (a := 6) (b := e - i) (by omega) (by omega)).mp hb
        refine gw_iconst (v := (-1)) hX nd_Mo_readSentence_63 rfl ?_
        exact gw_iret hX hQ hr nd_Mo_readSentence_64 (by decide) (by decide) ⟨_, _, _, h5, h6, h7, fr, Or.inl ⟨fun k ws q => (by rw [hR, rd_big hlt hwd (Or.inl hb)] at q; cases q), rfl⟩⟩
      · have hb : ¬ 6 < e - i := fun h => hb ((nI_ltI (a := 6) (b := e - i) (by omega) (by omega)).mpr h)
        have hb6e := hb
        refine gw_iload hX nd_Mo_readSentence_56 3 rfl ?_
        refine gw_bipush (v := nI 6) hX nd_Mo_readSentence_58 rfl ?_
        refine gw_icmp_ne (tgt := 65) hX nd_Mo_readSentence_60 rfl (fun hb => ?_) (fun hb => ?_)
        · have hb : ¬ acc.length = 6 := fun h => hb ((nI_eq (a := acc.length) (b := 6) (by omega) (by omega)).mpr h)
          have hu1 : 1 ≤ u := by omega
          refine gw_iconst (v := nI 3) hX nd_Mo_readSentence_65 rfl ?_
          refine gw_bipush (v := nI 6) hX nd_Mo_readSentence_66 rfl ?_
          refine gw_iload_n hX nd_Mo_readSentence_68 rfl 1 rfl ?_
          refine gw_imul hX nd_Mo_readSentence_69 ?_
          refine gw_topi (y := nI (6 * j)) (pk_mul _ _) ?_
          refine gw_iload hX nd_Mo_readSentence_70 3 rfl ?_
          refine gw_iadd hX nd_Mo_readSentence_72 ?_
          refine gw_topi (y := nI (6 * j + acc.length)) (nI_add _ _) ?_
          refine gw_imul hX nd_Mo_readSentence_73 ?_
          refine gw_topi (y := nI (3 * (6 * j + acc.length))) (pk_mul _ _) ?_
          refine gw_istore hX nd_Mo_readSentence_74 (by decide) (L' := [(9, .int (nI (3 * (6 * j + acc.length)))), (0, .ref m), (1, .int (nI j)), (3, .int (nI 0)), (4, .int (nI acc.length)), (5, .int (nI i)), (6, .int (nI bf)), (7, .int (nI be)), (8, .int (nI e))]) rfl ?_
          refine gw_aload_n hX nd_Mo_readSentence_76 rfl 1 rfl ?_
          refine gw_get hX kf_Mo_25 nd_Mo_readSentence_77 h0 rfl ?_
          refine gw_iload hX nd_Mo_readSentence_80 0 rfl ?_
          refine gw_aload_n hX nd_Mo_readSentence_82 rfl 1 rfl ?_
          refine gw_iconst (v := nI 0) hX nd_Mo_readSentence_83 rfl ?_
          refine gw_iload hX nd_Mo_readSentence_84 5 rfl ?_
          refine gw_iload hX nd_Mo_readSentence_86 8 rfl ?_
          refine gw_callV (rest := [.int (nI (3 * (6 * j + acc.length))), .ref (m + 6)]) hX ks_Mo_78 (ct_Mo_hash _ _ _ σ m h0 ch hlen hch h1 0 i e (by omega) (by omega) (by omega)) h0 rfl rfl (Nat.le_of_ble_eq_true rfl) nd_Mo_readSentence_88 (by decide) ?_
          rintro v_ s_ ⟨hv_, hs_⟩
          rw [hs_0] at hv_
          have hs_ := hs_.symm
          subst hs_ hv_
          show gw_W X σ 0 0 91 [(9, .int (nI (3 * (6 * j + acc.length)))), (0, .ref m), (1, .int (nI j)), (3, .int (nI 0)), (4, .int (nI acc.length)), (5, .int (nI i)), (6, .int (nI bf)), (7, .int (nI be)), (8, .int (nI e))] [.int (nI (px_B (px_h ch 7 i (e - i)))), .int (nI (3 * (6 * j + acc.length))), .ref (m + 6)]
          refine gw_iast hX nd_Mo_readSentence_91 h6 (3 * (6 * j + acc.length)) rfl (by omega) (by decide) ?_
          obtain ⟨σ2, eσ2⟩ : ∃ hp_, hp_ = gw_up σ (m + 6) ((gw_I (gw_z X) 162 (upd g6 (3 * (6 * j + acc.length)) (nI (px_B (px_h ch 7 i (e - i))))))) := ⟨_, rfl⟩
          refine gw_heap eσ2.symm ?_
          have h0 : σ2.2 m = some (.inr (1, [.int th, .int (nI len), .ref (m + 1), .int (nI sn), .ref (m + 2), .ref (m + 3), .ref (m + 4), .int rs, .ref (m + 5), .ref (m + 6), .ref (m + 7), .ref (m + 8), .ref (m + 9), .int (nI mk), .int (nI ps), .ref (m + 10), .ref (m + 11), .ref (m + 12), .long bs, .long s2, .int be0, .int se, .int kp, .int kw])) := by rw [eσ2, gw_up_ne (by omega)]; exact h0
          have h1 : σ2.2 (m + 1) = some ((gw_I (gw_z X) 240 (fun j => nI (ch j)))) := by rw [eσ2, gw_up_ne (by omega)]; exact h1
          have h5 : σ2.2 (m + 5) = some ((gw_I (gw_z X) 9 f5)) := by rw [eσ2, gw_up_ne (by omega)]; exact h5
          have h6 : σ2.2 (m + 6) = some ((gw_I (gw_z X) 162 (upd g6 (3 * (6 * j + acc.length)) (nI (px_B (px_h ch 7 i (e - i))))))) := by rw [eσ2]; exact gw_up_eq _ _ _
          have h7 : σ2.2 (m + 7) = some ((gw_I (gw_z X) 54 g7)) := by rw [eσ2, gw_up_ne (by omega)]; exact h7
          have fr : gw_fr σ0 σ2 (m + 5) (m + 8) := gw_fr_tr fr (show gw_fr _ σ2 (m + 5) (m + 8) by rw [eσ2]; exact gw_fr_up _ _ _ (by omega) (by omega))
          refine gw_aload_n hX nd_Mo_readSentence_92 rfl 1 rfl ?_
          refine gw_get hX kf_Mo_25 nd_Mo_readSentence_93 h0 rfl ?_
          refine gw_iload hX nd_Mo_readSentence_96 0 rfl ?_
          refine gw_iconst (v := nI 1) hX nd_Mo_readSentence_98 rfl ?_
          refine gw_iadd hX nd_Mo_readSentence_99 ?_
          refine gw_topi (y := nI (3 * (6 * j + acc.length) + 1)) (nI_add _ _) ?_
          refine gw_aload_n hX nd_Mo_readSentence_100 rfl 1 rfl ?_
          refine gw_bipush (v := nI 45) hX nd_Mo_readSentence_101 rfl ?_
          refine gw_iload hX nd_Mo_readSentence_103 8 rfl ?_
          refine gw_iload hX nd_Mo_readSentence_105 5 rfl ?_
          refine gw_isub hX nd_Mo_readSentence_107 ?_
          refine gw_topi (y := nI (e - i)) (pk_sub (by omega)) ?_
          refine gw_iconst (v := nI 1) hX nd_Mo_readSentence_108 rfl ?_
          refine gw_icmp_le (tgt := 119) hX nd_Mo_readSentence_109 rfl (fun hb => ?_) (fun hb => ?_)
          · have hb : e - i ≤ 1 := (nI_leI (a := e - i) (b := 1) (by omega) (by omega)).mp hb
            refine gw_iload hX nd_Mo_readSentence_119 5 rfl ?_
            refine gw_iload hX nd_Mo_readSentence_121 8 rfl ?_
            refine gw_callV (rest := [.int (nI (3 * (6 * j + acc.length) + 1)), .ref (m + 6)]) hX ks_Mo_78 (ct_Mo_hash _ _ _ σ2 m h0 ch hlen hch h1 45 i e (by omega) (by omega) (by omega)) h0 rfl rfl (Nat.le_of_ble_eq_true rfl) nd_Mo_readSentence_123 (by decide) ?_
            rintro v_ s_ ⟨hv_, hs_⟩
            rw [hs_45] at hv_
            have hs_ := hs_.symm
            subst hs_ hv_
            show gw_W X σ2 0 0 126 [(9, .int (nI (3 * (6 * j + acc.length)))), (0, .ref m), (1, .int (nI j)), (3, .int (nI 0)), (4, .int (nI acc.length)), (5, .int (nI i)), (6, .int (nI bf)), (7, .int (nI be)), (8, .int (nI e))] [.int (nI (px_B (px_h ch (31 * 7 + 45) i (e - i)))), .int (nI (3 * (6 * j + acc.length) + 1)), .ref (m + 6)]
            refine gw_iast hX nd_Mo_readSentence_126 h6 (3 * (6 * j + acc.length) + 1) rfl (by omega) (by decide) ?_
            obtain ⟨σ3, eσ3⟩ : ∃ hp_, hp_ = gw_up σ2 (m + 6) ((gw_I (gw_z X) 162 (upd (upd g6 (3 * (6 * j + acc.length)) (nI (px_B (px_h ch 7 i (e - i))))) (3 * (6 * j + acc.length) + 1) (nI (px_B (px_h ch (31 * 7 + 45) i (e - i))))))) := ⟨_, rfl⟩
            refine gw_heap eσ3.symm ?_
            have h0 : σ3.2 m = some (.inr (1, [.int th, .int (nI len), .ref (m + 1), .int (nI sn), .ref (m + 2), .ref (m + 3), .ref (m + 4), .int rs, .ref (m + 5), .ref (m + 6), .ref (m + 7), .ref (m + 8), .ref (m + 9), .int (nI mk), .int (nI ps), .ref (m + 10), .ref (m + 11), .ref (m + 12), .long bs, .long s2, .int be0, .int se, .int kp, .int kw])) := by rw [eσ3, gw_up_ne (by omega)]; exact h0
            have h1 : σ3.2 (m + 1) = some ((gw_I (gw_z X) 240 (fun j => nI (ch j)))) := by rw [eσ3, gw_up_ne (by omega)]; exact h1
            have h5 : σ3.2 (m + 5) = some ((gw_I (gw_z X) 9 f5)) := by rw [eσ3, gw_up_ne (by omega)]; exact h5
            have h6 : σ3.2 (m + 6) = some ((gw_I (gw_z X) 162 (upd (upd g6 (3 * (6 * j + acc.length)) (nI (px_B (px_h ch 7 i (e - i))))) (3 * (6 * j + acc.length) + 1) (nI (px_B (px_h ch (31 * 7 + 45) i (e - i))))))) := by rw [eσ3]; exact gw_up_eq _ _ _
            have h7 : σ3.2 (m + 7) = some ((gw_I (gw_z X) 54 g7)) := by rw [eσ3, gw_up_ne (by omega)]; exact h7
            have fr : gw_fr σ0 σ3 (m + 5) (m + 8) := gw_fr_tr fr (show gw_fr _ σ3 (m + 5) (m + 8) by rw [eσ3]; exact gw_fr_up _ _ _ (by omega) (by omega))
            refine gw_aload_n hX nd_Mo_readSentence_127 rfl 1 rfl ?_
            refine gw_get hX kf_Mo_25 nd_Mo_readSentence_128 h0 rfl ?_
            refine gw_iload hX nd_Mo_readSentence_131 0 rfl ?_
            refine gw_iconst (v := nI 2) hX nd_Mo_readSentence_133 rfl ?_
            refine gw_iadd hX nd_Mo_readSentence_134 ?_
            refine gw_topi (y := nI (3 * (6 * j + acc.length) + 2)) (nI_add _ _) ?_
            refine gw_aload_n hX nd_Mo_readSentence_135 rfl 1 rfl ?_
            refine gw_bipush (v := nI 60) hX nd_Mo_readSentence_136 rfl ?_
            refine gw_iload hX nd_Mo_readSentence_138 6 rfl ?_
            refine gw_iload hX nd_Mo_readSentence_140 7 rfl ?_
            refine gw_callV (rest := [.int (nI (3 * (6 * j + acc.length) + 2)), .ref (m + 6)]) hX ks_Mo_78 (ct_Mo_hash _ _ _ σ3 m h0 ch hlen hch h1 60 bf be (by omega) (by omega) (by omega)) h0 rfl rfl (Nat.le_of_ble_eq_true rfl) nd_Mo_readSentence_142 (by decide) ?_
            rintro v_ s_ ⟨hv_, hs_⟩
            rw [hs_60] at hv_
            have hs_ := hs_.symm
            subst hs_ hv_
            show gw_W X σ3 0 0 145 [(9, .int (nI (3 * (6 * j + acc.length)))), (0, .ref m), (1, .int (nI j)), (3, .int (nI 0)), (4, .int (nI acc.length)), (5, .int (nI i)), (6, .int (nI bf)), (7, .int (nI be)), (8, .int (nI e))] [.int (nI (px_B (px_h ch (31 * 7 + 60) bf (be - bf)))), .int (nI (3 * (6 * j + acc.length) + 2)), .ref (m + 6)]
            refine gw_iast hX nd_Mo_readSentence_145 h6 (3 * (6 * j + acc.length) + 2) rfl (by omega) (by decide) ?_
            obtain ⟨σ4, eσ4⟩ : ∃ hp_, hp_ = gw_up σ3 (m + 6) ((gw_I (gw_z X) 162 (upd (upd (upd g6 (3 * (6 * j + acc.length)) (nI (px_B (px_h ch 7 i (e - i))))) (3 * (6 * j + acc.length) + 1) (nI (px_B (px_h ch (31 * 7 + 45) i (e - i))))) (3 * (6 * j + acc.length) + 2) (nI (px_B (px_h ch (31 * 7 + 60) bf (be - bf))))))) := ⟨_, rfl⟩
            refine gw_heap eσ4.symm ?_
            have h0 : σ4.2 m = some (.inr (1, [.int th, .int (nI len), .ref (m + 1), .int (nI sn), .ref (m + 2), .ref (m + 3), .ref (m + 4), .int rs, .ref (m + 5), .ref (m + 6), .ref (m + 7), .ref (m + 8), .ref (m + 9), .int (nI mk), .int (nI ps), .ref (m + 10), .ref (m + 11), .ref (m + 12), .long bs, .long s2, .int be0, .int se, .int kp, .int kw])) := by rw [eσ4, gw_up_ne (by omega)]; exact h0
            have h1 : σ4.2 (m + 1) = some ((gw_I (gw_z X) 240 (fun j => nI (ch j)))) := by rw [eσ4, gw_up_ne (by omega)]; exact h1
            have h5 : σ4.2 (m + 5) = some ((gw_I (gw_z X) 9 f5)) := by rw [eσ4, gw_up_ne (by omega)]; exact h5
            have h6 : σ4.2 (m + 6) = some ((gw_I (gw_z X) 162 (upd (upd (upd g6 (3 * (6 * j + acc.length)) (nI (px_B (px_h ch 7 i (e - i))))) (3 * (6 * j + acc.length) + 1) (nI (px_B (px_h ch (31 * 7 + 45) i (e - i))))) (3 * (6 * j + acc.length) + 2) (nI (px_B (px_h ch (31 * 7 + 60) bf (be - bf))))))) := by rw [eσ4]; exact gw_up_eq _ _ _
            have h7 : σ4.2 (m + 7) = some ((gw_I (gw_z X) 54 g7)) := by rw [eσ4, gw_up_ne (by omega)]; exact h7
            have fr : gw_fr σ0 σ4 (m + 5) (m + 8) := gw_fr_tr fr (show gw_fr _ σ4 (m + 5) (m + 8) by rw [eσ4]; exact gw_fr_up _ _ _ (by omega) (by omega))
            refine gw_iload hX nd_Mo_readSentence_146 5 rfl ?_
            refine gw_istore hX nd_Mo_readSentence_148 (by decide) (L' := [(6, .int (nI i)), (9, .int (nI (3 * (6 * j + acc.length)))), (0, .ref m), (1, .int (nI j)), (3, .int (nI 0)), (4, .int (nI acc.length)), (5, .int (nI i)), (7, .int (nI be)), (8, .int (nI e))]) rfl ?_
            refine gw_iload hX nd_Mo_readSentence_150 8 rfl ?_
            refine gw_istore hX nd_Mo_readSentence_152 (by decide) (L' := [(7, .int (nI e)), (6, .int (nI i)), (9, .int (nI (3 * (6 * j + acc.length)))), (0, .ref m), (1, .int (nI j)), (3, .int (nI 0)), (4, .int (nI acc.length)), (5, .int (nI i)), (8, .int (nI e))]) rfl ?_
            refine gw_iload hX nd_Mo_readSentence_154 8 rfl ?_
            refine gw_istore hX nd_Mo_readSentence_156 (by decide) (L' := [(5, .int (nI e)), (7, .int (nI e)), (6, .int (nI i)), (9, .int (nI (3 * (6 * j + acc.length)))), (0, .ref m), (1, .int (nI j)), (3, .int (nI 0)), (4, .int (nI acc.length)), (8, .int (nI e))]) rfl ?_
            refine gw_iload_n hX nd_Mo_readSentence_158 rfl 6 rfl ?_
            refine gw_if_eq (tgt := 244) hX nd_Mo_readSentence_159 rfl (fun hb => ?_) (fun hb => ?_)
            · have hb : 0 = 0 := (nI_eq (a := 0) (b := 0) (by omega) (by omega)).mp hb
              refine gw_iinc hX nd_Mo_readSentence_244 7 rfl (v := nI (acc.length + 1)) (show nI acc.length + nI 1 = nI (acc.length + 1) from nI_add _ _) (by decide) (L' := [(4, .int (nI (acc.length + 1))), (5, .int (nI e)), (7, .int (nI e)), (6, .int (nI i)), (9, .int (nI (3 * (6 * j + acc.length)))), (0, .ref m), (1, .int (nI j)), (3, .int (nI 0)), (8, .int (nI e))]) rfl ?_
              refine gw_aload_n hX nd_Mo_readSentence_247 rfl 5 rfl ?_
              refine gw_iload hX nd_Mo_readSentence_248 1 rfl ?_
              refine gw_callV (rest := []) hX ks_Mo_71 (ct_Mo_skip _ _ _ σ4 m h0 ch hlen hch h1 (e) (by omega)) h0 rfl rfl (Nat.le_of_ble_eq_true rfl) nd_Mo_readSentence_250 (by decide) ?_
              rintro v_ s_ ⟨hv_, hs_⟩
              have hs_ := hs_.symm
              subst hs_ hv_
              show gw_W X σ4 0 0 253 [(4, .int (nI (acc.length + 1))), (5, .int (nI e)), (7, .int (nI e)), (6, .int (nI i)), (9, .int (nI (3 * (6 * j + acc.length)))), (0, .ref m), (1, .int (nI j)), (3, .int (nI 0)), (8, .int (nI e))] [.int (nI (px_skip len ch (e)))]
              refine gw_istore hX nd_Mo_readSentence_253 (by decide) (L' := [(10, .int (nI (px_skip len ch (e)))), (4, .int (nI (acc.length + 1))), (5, .int (nI e)), (7, .int (nI e)), (6, .int (nI i)), (9, .int (nI (3 * (6 * j + acc.length)))), (0, .ref m), (1, .int (nI j)), (3, .int (nI 0)), (8, .int (nI e))]) rfl ?_
              refine gw_iload hX nd_Mo_readSentence_255 0 rfl ?_
              refine gw_iload hX nd_Mo_readSentence_257 2 rfl ?_
              have hsk9 := rs_skip_le (ch := ch) (e := e) hlen (by omega)
              refine gw_icmp_ne (tgt := 273) hX nd_Mo_readSentence_259 rfl (fun hb => ?_) (fun hb => ?_)
              · have hb : ¬ px_skip len ch (e) = e := fun h => hb ((nI_eq (a := px_skip len ch (e)) (b := e) (by omega) (by omega)).mpr h)
                refine gw_iload hX nd_Mo_readSentence_273 0 rfl ?_
                refine gw_istore hX nd_Mo_readSentence_275 (by decide) (L' := [(5, .int (nI (px_skip len ch (e)))), (10, .int (nI (px_skip len ch (e)))), (4, .int (nI (acc.length + 1))), (7, .int (nI e)), (6, .int (nI i)), (9, .int (nI (3 * (6 * j + acc.length)))), (0, .ref m), (1, .int (nI j)), (3, .int (nI 0)), (8, .int (nI e))]) rfl ?_
                refine gw_goto (tgt := 18) hX nd_Mo_readSentence_277 rfl ?_
                refine gw_cut (ks := [6, 7, 8, 2, 0, 4, 3]) (L' := [(0, .ref m), (1, .int (nI j)), (3, .int (nI 0)), (4, .int (nI (acc.length + 1))), (5, .int (nI (px_skip len ch (e)))), (6, .int (nI i)), (7, .int (nI e))]) rfl ?_
                have hlx : (acc ++ [px_f ch i e bf be 0]).length = acc.length + 1 := by simp
                have hb6 : rd_b (upd (upd (upd g6 (3 * (6 * j + acc.length)) (nI (px_B (px_h ch 7 i (e - i))))) (3 * (6 * j + acc.length) + 1) (nI (px_B (px_h ch (31 * 7 + 45) i (e - i))))) (3 * (6 * j + acc.length) + 2) (nI (px_B (px_h ch (31 * 7 + 60) bf (be - bf))))) j (acc ++ [px_f ch i e bf be 0]) := by
                  have e1 : (px_f ch i e bf be 0).2.1 = px_B (px_h ch (31 * 7 + 45) i (e - i)) := by unfold px_f; rw [if_neg (show ¬ e - i > 1 by omega)]
                  have hq := rd_bs hab (px_f ch i e bf be 0)
                  rw [e1] at hq
                  exact hq
                refine gw_head ?_ (ih (u - 1) (by omega) (acc ++ [px_f ch i e bf be 0]) (px_skip len ch (e)) i e σ4 _ _ (by rw [hlx]; omega) (by rw [hR, rs_plain hlt (Or.inl ⟨hwe.2.2, hwd, by omega⟩) (by omega), if_neg (by rw [hwe.2.2]; decide), show u - 1 + 2 = u + 1 by omega]) (rs_skip_le hlen (by omega)) (by omega) (by omega) h0 h1 h5 h6 h7 hb6 (fun q => by cases q) (fun i9 hi9 => by unfold upd; rw [if_neg (by omega), if_neg (by omega), if_neg (by omega)]; exact hs6 i9 hi9) hs7 fr)
                rw [hlx]
              · have hb : px_skip len ch (e) = e := (nI_eq (a := px_skip len ch (e)) (b := e) (by omega) (by omega)).mp hb
                have hse := hb
                refine gw_aload_n hX nd_Mo_readSentence_262 rfl 6 rfl ?_
                refine gw_iload hX nd_Mo_readSentence_263 2 rfl ?_
                refine gw_callV (rest := []) hX ks_Mo_74 (ct_Mo_isLetter _ _ _ σ4 m h0 ch hlen hch h1 e (by omega)) h0 rfl rfl (Nat.le_of_ble_eq_true rfl) nd_Mo_readSentence_265 (by decide) ?_
                rintro v_ s_ ⟨hv_, hs_⟩
                have hs_ := hs_.symm
                subst hs_ hv_
                show gw_W X σ4 0 0 268 [(10, .int (nI (px_skip len ch (e)))), (4, .int (nI (acc.length + 1))), (5, .int (nI e)), (7, .int (nI e)), (6, .int (nI i)), (9, .int (nI (3 * (6 * j + acc.length)))), (0, .ref m), (1, .int (nI j)), (3, .int (nI 0)), (8, .int (nI e))] [.int (nI ((if px_lt len ch e then 1 else 0)))]
                have hi9 : (if px_lt len ch (e) then 1 else 0) ≤ 1 := by split <;> omega
                refine gw_if_eq (tgt := 273) hX nd_Mo_readSentence_268 rfl (fun hb => ?_) (fun hb => ?_)
                · have hb : (if px_lt len ch e then 1 else 0) = 0 := (nI_eq (a := (if px_lt len ch e then 1 else 0)) (b := 0) (by omega) (by omega)).mp hb
                  have hnl : px_lt len ch (e) = false := by by_cases e9 : px_lt len ch (e) = true; (rw [if_pos e9] at hb; omega); exact Bool.not_eq_true _ ▸ e9
                  refine gw_iload hX nd_Mo_readSentence_273 0 rfl ?_
                  refine gw_istore hX nd_Mo_readSentence_275 (by decide) (L' := [(5, .int (nI (px_skip len ch (e)))), (10, .int (nI (px_skip len ch (e)))), (4, .int (nI (acc.length + 1))), (7, .int (nI e)), (6, .int (nI i)), (9, .int (nI (3 * (6 * j + acc.length)))), (0, .ref m), (1, .int (nI j)), (3, .int (nI 0)), (8, .int (nI e))]) rfl ?_
                  refine gw_goto (tgt := 18) hX nd_Mo_readSentence_277 rfl ?_
                  refine gw_cut (ks := [6, 7, 8, 2, 0, 4, 3]) (L' := [(0, .ref m), (1, .int (nI j)), (3, .int (nI 0)), (4, .int (nI (acc.length + 1))), (5, .int (nI (px_skip len ch (e)))), (6, .int (nI i)), (7, .int (nI e))]) rfl ?_
                  have hlx : (acc ++ [px_f ch i e bf be 0]).length = acc.length + 1 := by simp
                  have hb6 : rd_b (upd (upd (upd g6 (3 * (6 * j + acc.length)) (nI (px_B (px_h ch 7 i (e - i))))) (3 * (6 * j + acc.length) + 1) (nI (px_B (px_h ch (31 * 7 + 45) i (e - i))))) (3 * (6 * j + acc.length) + 2) (nI (px_B (px_h ch (31 * 7 + 60) bf (be - bf))))) j (acc ++ [px_f ch i e bf be 0]) := by
                    have e1 : (px_f ch i e bf be 0).2.1 = px_B (px_h ch (31 * 7 + 45) i (e - i)) := by unfold px_f; rw [if_neg (show ¬ e - i > 1 by omega)]
                    have hq := rd_bs hab (px_f ch i e bf be 0)
                    rw [e1] at hq
                    exact hq
                  refine gw_head ?_ (ih (u - 1) (by omega) (acc ++ [px_f ch i e bf be 0]) (px_skip len ch (e)) i e σ4 _ _ (by rw [hlx]; omega) (by rw [hR, rs_plain hlt (Or.inl ⟨hwe.2.2, hwd, by omega⟩) (by omega), if_neg (by rw [hwe.2.2]; decide), show u - 1 + 2 = u + 1 by omega]) (rs_skip_le hlen (by omega)) (by omega) (by omega) h0 h1 h5 h6 h7 hb6 (fun q => by cases q) (fun i9 hi9 => by unfold upd; rw [if_neg (by omega), if_neg (by omega), if_neg (by omega)]; exact hs6 i9 hi9) hs7 fr)
                  rw [hlx]
                · have hb : ¬ (if px_lt len ch e then 1 else 0) = 0 := fun h => hb ((nI_eq (a := (if px_lt len ch e then 1 else 0)) (b := 0) (by omega) (by omega)).mpr h)
                  have hyl : px_lt len ch (e) = true := by by_cases e9 : px_lt len ch (e) = true; exact e9; (rw [if_neg e9] at hb; omega)
                  exfalso
                  have q3 := hwe.2.2
                  rw [hyl] at q3; cases q3
            · have hb : ¬ 0 = 0 := fun h => hb ((nI_eq (a := 0) (b := 0) (by omega) (by omega)).mpr h)
              exfalso; omega
          · have hb : ¬ e - i ≤ 1 := fun h => hb ((nI_leI (a := e - i) (b := 1) (by omega) (by omega)).mpr h)
            refine gw_iload hX nd_Mo_readSentence_112 8 rfl ?_
            refine gw_iconst (v := nI 2) hX nd_Mo_readSentence_114 rfl ?_
            refine gw_isub hX nd_Mo_readSentence_115 ?_
            refine gw_topi (y := nI (e - 2)) (pk_sub (by omega)) ?_
            refine gw_goto (tgt := 121) hX nd_Mo_readSentence_116 rfl ?_
            refine gw_iload hX nd_Mo_readSentence_121 8 rfl ?_
            refine gw_callV (rest := [.int (nI (3 * (6 * j + acc.length) + 1)), .ref (m + 6)]) hX ks_Mo_78 (ct_Mo_hash _ _ _ σ2 m h0 ch hlen hch h1 45 (e - 2) e (by omega) (by omega) (by omega)) h0 rfl rfl (Nat.le_of_ble_eq_true rfl) nd_Mo_readSentence_123 (by decide) ?_
            rintro v_ s_ ⟨hv_, hs_⟩
            rw [hs_45] at hv_
            have hs_ := hs_.symm
            subst hs_ hv_
            show gw_W X σ2 0 0 126 [(9, .int (nI (3 * (6 * j + acc.length)))), (0, .ref m), (1, .int (nI j)), (3, .int (nI 0)), (4, .int (nI acc.length)), (5, .int (nI i)), (6, .int (nI bf)), (7, .int (nI be)), (8, .int (nI e))] [.int (nI (px_B (px_h ch (31 * 7 + 45) (e - 2) (e - (e - 2))))), .int (nI (3 * (6 * j + acc.length) + 1)), .ref (m + 6)]
            refine gw_iast hX nd_Mo_readSentence_126 h6 (3 * (6 * j + acc.length) + 1) rfl (by omega) (by decide) ?_
            obtain ⟨σ5, eσ5⟩ : ∃ hp_, hp_ = gw_up σ2 (m + 6) ((gw_I (gw_z X) 162 (upd (upd g6 (3 * (6 * j + acc.length)) (nI (px_B (px_h ch 7 i (e - i))))) (3 * (6 * j + acc.length) + 1) (nI (px_B (px_h ch (31 * 7 + 45) (e - 2) (e - (e - 2)))))))) := ⟨_, rfl⟩
            refine gw_heap eσ5.symm ?_
            have h0 : σ5.2 m = some (.inr (1, [.int th, .int (nI len), .ref (m + 1), .int (nI sn), .ref (m + 2), .ref (m + 3), .ref (m + 4), .int rs, .ref (m + 5), .ref (m + 6), .ref (m + 7), .ref (m + 8), .ref (m + 9), .int (nI mk), .int (nI ps), .ref (m + 10), .ref (m + 11), .ref (m + 12), .long bs, .long s2, .int be0, .int se, .int kp, .int kw])) := by rw [eσ5, gw_up_ne (by omega)]; exact h0
            have h1 : σ5.2 (m + 1) = some ((gw_I (gw_z X) 240 (fun j => nI (ch j)))) := by rw [eσ5, gw_up_ne (by omega)]; exact h1
            have h5 : σ5.2 (m + 5) = some ((gw_I (gw_z X) 9 f5)) := by rw [eσ5, gw_up_ne (by omega)]; exact h5
            have h6 : σ5.2 (m + 6) = some ((gw_I (gw_z X) 162 (upd (upd g6 (3 * (6 * j + acc.length)) (nI (px_B (px_h ch 7 i (e - i))))) (3 * (6 * j + acc.length) + 1) (nI (px_B (px_h ch (31 * 7 + 45) (e - 2) (e - (e - 2)))))))) := by rw [eσ5]; exact gw_up_eq _ _ _
            have h7 : σ5.2 (m + 7) = some ((gw_I (gw_z X) 54 g7)) := by rw [eσ5, gw_up_ne (by omega)]; exact h7
            have fr : gw_fr σ0 σ5 (m + 5) (m + 8) := gw_fr_tr fr (show gw_fr _ σ5 (m + 5) (m + 8) by rw [eσ5]; exact gw_fr_up _ _ _ (by omega) (by omega))
            refine gw_aload_n hX nd_Mo_readSentence_127 rfl 1 rfl ?_
            refine gw_get hX kf_Mo_25 nd_Mo_readSentence_128 h0 rfl ?_
            refine gw_iload hX nd_Mo_readSentence_131 0 rfl ?_
            refine gw_iconst (v := nI 2) hX nd_Mo_readSentence_133 rfl ?_
            refine gw_iadd hX nd_Mo_readSentence_134 ?_
            refine gw_topi (y := nI (3 * (6 * j + acc.length) + 2)) (nI_add _ _) ?_
            refine gw_aload_n hX nd_Mo_readSentence_135 rfl 1 rfl ?_
            refine gw_bipush (v := nI 60) hX nd_Mo_readSentence_136 rfl ?_
            refine gw_iload hX nd_Mo_readSentence_138 6 rfl ?_
            refine gw_iload hX nd_Mo_readSentence_140 7 rfl ?_
            refine gw_callV (rest := [.int (nI (3 * (6 * j + acc.length) + 2)), .ref (m + 6)]) hX ks_Mo_78 (ct_Mo_hash _ _ _ σ5 m h0 ch hlen hch h1 60 bf be (by omega) (by omega) (by omega)) h0 rfl rfl (Nat.le_of_ble_eq_true rfl) nd_Mo_readSentence_142 (by decide) ?_
            rintro v_ s_ ⟨hv_, hs_⟩
            rw [hs_60] at hv_
            have hs_ := hs_.symm
            subst hs_ hv_
            show gw_W X σ5 0 0 145 [(9, .int (nI (3 * (6 * j + acc.length)))), (0, .ref m), (1, .int (nI j)), (3, .int (nI 0)), (4, .int (nI acc.length)), (5, .int (nI i)), (6, .int (nI bf)), (7, .int (nI be)), (8, .int (nI e))] [.int (nI (px_B (px_h ch (31 * 7 + 60) bf (be - bf)))), .int (nI (3 * (6 * j + acc.length) + 2)), .ref (m + 6)]
            refine gw_iast hX nd_Mo_readSentence_145 h6 (3 * (6 * j + acc.length) + 2) rfl (by omega) (by decide) ?_
            obtain ⟨σ6, eσ6⟩ : ∃ hp_, hp_ = gw_up σ5 (m + 6) ((gw_I (gw_z X) 162 (upd (upd (upd g6 (3 * (6 * j + acc.length)) (nI (px_B (px_h ch 7 i (e - i))))) (3 * (6 * j + acc.length) + 1) (nI (px_B (px_h ch (31 * 7 + 45) (e - 2) (e - (e - 2)))))) (3 * (6 * j + acc.length) + 2) (nI (px_B (px_h ch (31 * 7 + 60) bf (be - bf))))))) := ⟨_, rfl⟩
            refine gw_heap eσ6.symm ?_
            have h0 : σ6.2 m = some (.inr (1, [.int th, .int (nI len), .ref (m + 1), .int (nI sn), .ref (m + 2), .ref (m + 3), .ref (m + 4), .int rs, .ref (m + 5), .ref (m + 6), .ref (m + 7), .ref (m + 8), .ref (m + 9), .int (nI mk), .int (nI ps), .ref (m + 10), .ref (m + 11), .ref (m + 12), .long bs, .long s2, .int be0, .int se, .int kp, .int kw])) := by rw [eσ6, gw_up_ne (by omega)]; exact h0
            have h1 : σ6.2 (m + 1) = some ((gw_I (gw_z X) 240 (fun j => nI (ch j)))) := by rw [eσ6, gw_up_ne (by omega)]; exact h1
            have h5 : σ6.2 (m + 5) = some ((gw_I (gw_z X) 9 f5)) := by rw [eσ6, gw_up_ne (by omega)]; exact h5
            have h6 : σ6.2 (m + 6) = some ((gw_I (gw_z X) 162 (upd (upd (upd g6 (3 * (6 * j + acc.length)) (nI (px_B (px_h ch 7 i (e - i))))) (3 * (6 * j + acc.length) + 1) (nI (px_B (px_h ch (31 * 7 + 45) (e - 2) (e - (e - 2)))))) (3 * (6 * j + acc.length) + 2) (nI (px_B (px_h ch (31 * 7 + 60) bf (be - bf))))))) := by rw [eσ6]; exact gw_up_eq _ _ _
            have h7 : σ6.2 (m + 7) = some ((gw_I (gw_z X) 54 g7)) := by rw [eσ6, gw_up_ne (by omega)]; exact h7
            have fr : gw_fr σ0 σ6 (m + 5) (m + 8) := gw_fr_tr fr (show gw_fr _ σ6 (m + 5) (m + 8) by rw [eσ6]; exact gw_fr_up _ _ _ (by omega) (by omega))
            refine gw_iload hX nd_Mo_readSentence_146 5 rfl ?_
            refine gw_istore hX nd_Mo_readSentence_148 (by decide) (L' := [(6, .int (nI i)), (9, .int (nI (3 * (6 * j + acc.length)))), (0, .ref m), (1, .int (nI j)), (3, .int (nI 0)), (4, .int (nI acc.length)), (5, .int (nI i)), (7, .int (nI be)), (8, .int (nI e))]) rfl ?_
            refine gw_iload hX nd_Mo_readSentence_150 8 rfl ?_
            refine gw_istore hX nd_Mo_readSentence_152 (by decide) (L' := [(7, .int (nI e)), (6, .int (nI i)), (9, .int (nI (3 * (6 * j + acc.length)))), (0, .ref m), (1, .int (nI j)), (3, .int (nI 0)), (4, .int (nI acc.length)), (5, .int (nI i)), (8, .int (nI e))]) rfl ?_
            refine gw_iload hX nd_Mo_readSentence_154 8 rfl ?_
            refine gw_istore hX nd_Mo_readSentence_156 (by decide) (L' := [(5, .int (nI e)), (7, .int (nI e)), (6, .int (nI i)), (9, .int (nI (3 * (6 * j + acc.length)))), (0, .ref m), (1, .int (nI j)), (3, .int (nI 0)), (4, .int (nI acc.length)), (8, .int (nI e))]) rfl ?_
            refine gw_iload_n hX nd_Mo_readSentence_158 rfl 6 rfl ?_
            refine gw_if_eq (tgt := 244) hX nd_Mo_readSentence_159 rfl (fun hb => ?_) (fun hb => ?_)
            · have hb : 0 = 0 := (nI_eq (a := 0) (b := 0) (by omega) (by omega)).mp hb
              refine gw_iinc hX nd_Mo_readSentence_244 7 rfl (v := nI (acc.length + 1)) (show nI acc.length + nI 1 = nI (acc.length + 1) from nI_add _ _) (by decide) (L' := [(4, .int (nI (acc.length + 1))), (5, .int (nI e)), (7, .int (nI e)), (6, .int (nI i)), (9, .int (nI (3 * (6 * j + acc.length)))), (0, .ref m), (1, .int (nI j)), (3, .int (nI 0)), (8, .int (nI e))]) rfl ?_
              refine gw_aload_n hX nd_Mo_readSentence_247 rfl 5 rfl ?_
              refine gw_iload hX nd_Mo_readSentence_248 1 rfl ?_
              refine gw_callV (rest := []) hX ks_Mo_71 (ct_Mo_skip _ _ _ σ6 m h0 ch hlen hch h1 (e) (by omega)) h0 rfl rfl (Nat.le_of_ble_eq_true rfl) nd_Mo_readSentence_250 (by decide) ?_
              rintro v_ s_ ⟨hv_, hs_⟩
              have hs_ := hs_.symm
              subst hs_ hv_
              show gw_W X σ6 0 0 253 [(4, .int (nI (acc.length + 1))), (5, .int (nI e)), (7, .int (nI e)), (6, .int (nI i)), (9, .int (nI (3 * (6 * j + acc.length)))), (0, .ref m), (1, .int (nI j)), (3, .int (nI 0)), (8, .int (nI e))] [.int (nI (px_skip len ch (e)))]
              refine gw_istore hX nd_Mo_readSentence_253 (by decide) (L' := [(10, .int (nI (px_skip len ch (e)))), (4, .int (nI (acc.length + 1))), (5, .int (nI e)), (7, .int (nI e)), (6, .int (nI i)), (9, .int (nI (3 * (6 * j + acc.length)))), (0, .ref m), (1, .int (nI j)), (3, .int (nI 0)), (8, .int (nI e))]) rfl ?_
              refine gw_iload hX nd_Mo_readSentence_255 0 rfl ?_
              refine gw_iload hX nd_Mo_readSentence_257 2 rfl ?_
              have hsk9 := rs_skip_le (ch := ch) (e := e) hlen (by omega)
              refine gw_icmp_ne (tgt := 273) hX nd_Mo_readSentence_259 rfl (fun hb => ?_) (fun hb => ?_)
              · have hb : ¬ px_skip len ch (e) = e := fun h => hb ((nI_eq (a := px_skip len ch (e)) (b := e) (by omega) (by omega)).mpr h)
                refine gw_iload hX nd_Mo_readSentence_273 0 rfl ?_
                refine gw_istore hX nd_Mo_readSentence_275 (by decide) (L' := [(5, .int (nI (px_skip len ch (e)))), (10, .int (nI (px_skip len ch (e)))), (4, .int (nI (acc.length + 1))), (7, .int (nI e)), (6, .int (nI i)), (9, .int (nI (3 * (6 * j + acc.length)))), (0, .ref m), (1, .int (nI j)), (3, .int (nI 0)), (8, .int (nI e))]) rfl ?_
                refine gw_goto (tgt := 18) hX nd_Mo_readSentence_277 rfl ?_
                refine gw_cut (ks := [6, 7, 8, 2, 0, 4, 3]) (L' := [(0, .ref m), (1, .int (nI j)), (3, .int (nI 0)), (4, .int (nI (acc.length + 1))), (5, .int (nI (px_skip len ch (e)))), (6, .int (nI i)), (7, .int (nI e))]) rfl ?_
                have hlx : (acc ++ [px_f ch i e bf be 0]).length = acc.length + 1 := by simp
                have hb6 : rd_b (upd (upd (upd g6 (3 * (6 * j + acc.length)) (nI (px_B (px_h ch 7 i (e - i))))) (3 * (6 * j + acc.length) + 1) (nI (px_B (px_h ch (31 * 7 + 45) (e - 2) (e - (e - 2)))))) (3 * (6 * j + acc.length) + 2) (nI (px_B (px_h ch (31 * 7 + 60) bf (be - bf))))) j (acc ++ [px_f ch i e bf be 0]) := by
                  have e1 : (px_f ch i e bf be 0).2.1 = px_B (px_h ch (31 * 7 + 45) (e - 2) (e - (e - 2))) := by unfold px_f; rw [if_pos (show e - i > 1 by omega)]
                  have hq := rd_bs hab (px_f ch i e bf be 0)
                  rw [e1] at hq
                  exact hq
                refine gw_head ?_ (ih (u - 1) (by omega) (acc ++ [px_f ch i e bf be 0]) (px_skip len ch (e)) i e σ6 _ _ (by rw [hlx]; omega) (by rw [hR, rs_plain hlt (Or.inl ⟨hwe.2.2, hwd, by omega⟩) (by omega), if_neg (by rw [hwe.2.2]; decide), show u - 1 + 2 = u + 1 by omega]) (rs_skip_le hlen (by omega)) (by omega) (by omega) h0 h1 h5 h6 h7 hb6 (fun q => by cases q) (fun i9 hi9 => by unfold upd; rw [if_neg (by omega), if_neg (by omega), if_neg (by omega)]; exact hs6 i9 hi9) hs7 fr)
                rw [hlx]
              · have hb : px_skip len ch (e) = e := (nI_eq (a := px_skip len ch (e)) (b := e) (by omega) (by omega)).mp hb
                have hse := hb
                refine gw_aload_n hX nd_Mo_readSentence_262 rfl 6 rfl ?_
                refine gw_iload hX nd_Mo_readSentence_263 2 rfl ?_
                refine gw_callV (rest := []) hX ks_Mo_74 (ct_Mo_isLetter _ _ _ σ6 m h0 ch hlen hch h1 e (by omega)) h0 rfl rfl (Nat.le_of_ble_eq_true rfl) nd_Mo_readSentence_265 (by decide) ?_
                rintro v_ s_ ⟨hv_, hs_⟩
                have hs_ := hs_.symm
                subst hs_ hv_
                show gw_W X σ6 0 0 268 [(10, .int (nI (px_skip len ch (e)))), (4, .int (nI (acc.length + 1))), (5, .int (nI e)), (7, .int (nI e)), (6, .int (nI i)), (9, .int (nI (3 * (6 * j + acc.length)))), (0, .ref m), (1, .int (nI j)), (3, .int (nI 0)), (8, .int (nI e))] [.int (nI ((if px_lt len ch e then 1 else 0)))]
                have hi9 : (if px_lt len ch (e) then 1 else 0) ≤ 1 := by split <;> omega
                refine gw_if_eq (tgt := 273) hX nd_Mo_readSentence_268 rfl (fun hb => ?_) (fun hb => ?_)
                · have hb : (if px_lt len ch e then 1 else 0) = 0 := (nI_eq (a := (if px_lt len ch e then 1 else 0)) (b := 0) (by omega) (by omega)).mp hb
                  have hnl : px_lt len ch (e) = false := by by_cases e9 : px_lt len ch (e) = true; (rw [if_pos e9] at hb; omega); exact Bool.not_eq_true _ ▸ e9
                  refine gw_iload hX nd_Mo_readSentence_273 0 rfl ?_
                  refine gw_istore hX nd_Mo_readSentence_275 (by decide) (L' := [(5, .int (nI (px_skip len ch (e)))), (10, .int (nI (px_skip len ch (e)))), (4, .int (nI (acc.length + 1))), (7, .int (nI e)), (6, .int (nI i)), (9, .int (nI (3 * (6 * j + acc.length)))), (0, .ref m), (1, .int (nI j)), (3, .int (nI 0)), (8, .int (nI e))]) rfl ?_
                  refine gw_goto (tgt := 18) hX nd_Mo_readSentence_277 rfl ?_
                  refine gw_cut (ks := [6, 7, 8, 2, 0, 4, 3]) (L' := [(0, .ref m), (1, .int (nI j)), (3, .int (nI 0)), (4, .int (nI (acc.length + 1))), (5, .int (nI (px_skip len ch (e)))), (6, .int (nI i)), (7, .int (nI e))]) rfl ?_
                  have hlx : (acc ++ [px_f ch i e bf be 0]).length = acc.length + 1 := by simp
                  have hb6 : rd_b (upd (upd (upd g6 (3 * (6 * j + acc.length)) (nI (px_B (px_h ch 7 i (e - i))))) (3 * (6 * j + acc.length) + 1) (nI (px_B (px_h ch (31 * 7 + 45) (e - 2) (e - (e - 2)))))) (3 * (6 * j + acc.length) + 2) (nI (px_B (px_h ch (31 * 7 + 60) bf (be - bf))))) j (acc ++ [px_f ch i e bf be 0]) := by
                    have e1 : (px_f ch i e bf be 0).2.1 = px_B (px_h ch (31 * 7 + 45) (e - 2) (e - (e - 2))) := by unfold px_f; rw [if_pos (show e - i > 1 by omega)]
                    have hq := rd_bs hab (px_f ch i e bf be 0)
                    rw [e1] at hq
                    exact hq
                  refine gw_head ?_ (ih (u - 1) (by omega) (acc ++ [px_f ch i e bf be 0]) (px_skip len ch (e)) i e σ6 _ _ (by rw [hlx]; omega) (by rw [hR, rs_plain hlt (Or.inl ⟨hwe.2.2, hwd, by omega⟩) (by omega), if_neg (by rw [hwe.2.2]; decide), show u - 1 + 2 = u + 1 by omega]) (rs_skip_le hlen (by omega)) (by omega) (by omega) h0 h1 h5 h6 h7 hb6 (fun q => by cases q) (fun i9 hi9 => by unfold upd; rw [if_neg (by omega), if_neg (by omega), if_neg (by omega)]; exact hs6 i9 hi9) hs7 fr)
                  rw [hlx]
                · have hb : ¬ (if px_lt len ch e then 1 else 0) = 0 := fun h => hb ((nI_eq (a := (if px_lt len ch e then 1 else 0)) (b := 0) (by omega) (by omega)).mpr h)
                  have hyl : px_lt len ch (e) = true := by by_cases e9 : px_lt len ch (e) = true; exact e9; (rw [if_neg e9] at hb; omega)
                  exfalso
                  have q3 := hwe.2.2
                  rw [hyl] at q3; cases q3
            · have hb : ¬ 0 = 0 := fun h => hb ((nI_eq (a := 0) (b := 0) (by omega) (by omega)).mpr h)
              exfalso; omega
        · have hb : acc.length = 6 := (nI_eq (a := acc.length) (b := 6) (by omega) (by omega)).mp hb
          refine gw_iconst (v := (-1)) hX nd_Mo_readSentence_63 rfl ?_
          exact gw_iret hX hQ hr nd_Mo_readSentence_64 (by decide) (by decide) ⟨_, _, _, h5, h6, h7, fr, Or.inl ⟨fun k ws q => (by rw [hR, rd_big hlt hwd (Or.inr hb)] at q; cases q), rfl⟩⟩
set_option maxRecDepth 100000 in
set_option maxHeartbeats 4000000 in
theorem ct_Mo_readSentence_f (l : Launch) (Z : gw_Z) (b0 : Nat) (σ : gw_S) (m : Nat) {th rs be0 se kp kw : Int32} {len sn mk ps : Nat} {bs s2 : Int64} (ch : Nat → Nat) (hlen : len ≤ 240) (hch : ∀ j, ch j < 127) (f5 f6 f7 : Nat → Int32) (j k : Nat) (hj : j ≤ 8) (hk : k ≤ 240) (h0 : σ.2 m = some (.inr (1, [.int th, .int (nI len), .ref (m + 1), .int (nI sn), .ref (m + 2), .ref (m + 3), .ref (m + 4), .int rs, .ref (m + 5), .ref (m + 6), .ref (m + 7), .ref (m + 8), .ref (m + 9), .int (nI mk), .int (nI ps), .ref (m + 10), .ref (m + 11), .ref (m + 12), .long bs, .long s2, .int be0, .int se, .int kp, .int kw]))) (h1 : σ.2 (m + 1) = some (gw_I Z 240 (fun j => nI (ch j)))) (h5 : σ.2 (m + 5) = some (gw_I Z 9 f5)) (h6 : σ.2 (m + 6) = some (gw_I Z 162 f6)) (h7 : σ.2 (m + 7) = some (gw_I Z 54 f7)) : gw_M l ny_Mo_readSentence nc_Mo_readSentence (11, 2, 45, 0, 0) (some .int) Z b0 σ [.ref m, .int (nI j), .int (nI k), .int (nI 0)] (fun v σ' => rd_P σ σ' Z m f5 f6 f7 j false (px_go len ch false 8 (px_skip len ch k) (px_skip len ch k) (px_skip len ch k) []) v) := by
  refine gw_M_of rfl (Nat.le_of_ble_eq_true rfl) ?_
  intro X hX hl hz hb0 hr hnm hQ
  subst hz hb0 hl
  have hX : gw_ok X nc_Mo_readSentence "LabelLearnerModel" (11, 2, 45, 0, 0) := hX
  show gw_W X σ 0 0 0 [(0, .ref m), (1, .int (nI j)), (2, .int (nI k)), (3, .int (nI 0))] []
  have fr : gw_fr σ σ (m + 5) (m + 8) := gw_fr_rf _ _ _
  refine gw_iconst (v := nI 0) hX nd_Mo_readSentence_0 rfl ?_
  refine gw_istore hX nd_Mo_readSentence_1 (by decide) (L' := [(4, .int (nI 0)), (0, .ref m), (1, .int (nI j)), (2, .int (nI k)), (3, .int (nI 0))]) rfl ?_
  refine gw_aload_n hX nd_Mo_readSentence_3 rfl 1 rfl ?_
  refine gw_iload_n hX nd_Mo_readSentence_4 rfl 3 rfl ?_
  refine gw_callV (rest := []) hX ks_Mo_71 (ct_Mo_skip _ _ _ σ m h0 ch hlen hch h1 k hk) h0 rfl rfl (Nat.le_of_ble_eq_true rfl) nd_Mo_readSentence_5 (by decide) ?_
  rintro v_ s_ ⟨hv_, hs_⟩
  have hs_ := hs_.symm
  subst hs_ hv_
  show gw_W X σ 0 0 8 [(4, .int (nI 0)), (0, .ref m), (1, .int (nI j)), (2, .int (nI k)), (3, .int (nI 0))] [.int (nI (px_skip len ch k))]
  refine gw_istore hX nd_Mo_readSentence_8 (by decide) (L' := [(5, .int (nI (px_skip len ch k))), (4, .int (nI 0)), (0, .ref m), (1, .int (nI j)), (2, .int (nI k)), (3, .int (nI 0))]) rfl ?_
  refine gw_iload hX nd_Mo_readSentence_10 0 rfl ?_
  refine gw_istore hX nd_Mo_readSentence_12 (by decide) (L' := [(6, .int (nI (px_skip len ch k))), (5, .int (nI (px_skip len ch k))), (4, .int (nI 0)), (0, .ref m), (1, .int (nI j)), (2, .int (nI k)), (3, .int (nI 0))]) rfl ?_
  refine gw_iload hX nd_Mo_readSentence_14 1 rfl ?_
  refine gw_istore hX nd_Mo_readSentence_16 (by decide) (L' := [(7, .int (nI (px_skip len ch k))), (6, .int (nI (px_skip len ch k))), (5, .int (nI (px_skip len ch k))), (4, .int (nI 0)), (0, .ref m), (1, .int (nI j)), (2, .int (nI k)), (3, .int (nI 0))]) rfl ?_
  refine gw_cut (ks := [4, 5, 7, 3, 2, 1, 0]) (L' := [(0, .ref m), (1, .int (nI j)), (3, .int (nI 0)), (4, .int (nI 0)), (5, .int (nI (px_skip len ch k))), (6, .int (nI (px_skip len ch k))), (7, .int (nI (px_skip len ch k)))]) rfl ?_
  exact lp_Mo_rd_f m ch hlen hch f5 f6 f7 j hj _ hX hQ hr 6 [] (px_skip len ch k) (px_skip len ch k) (px_skip len ch k) σ f6 f7 rfl rfl (rs_skip_le hlen hk) (Nat.le_refl _) (rs_skip_le hlen hk) h0 h1 h5 h6 h7 (fun w x hx => by simp at hx) (fun _ w x hx => by simp at hx) (fun _ _ => rfl) (fun _ _ => rfl) fr
