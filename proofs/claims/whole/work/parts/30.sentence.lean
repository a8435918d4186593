theorem gw_head {X : gw_C} {σ : gw_S} {ce sl pc : Nat} {L L' : List (Nat × Value)} {st : List Value} (h : L' = L) (k : gw_W X σ ce sl pc L' st) : gw_W X σ ce sl pc L st := h ▸ k
set_option maxRecDepth 100000 in
set_option maxHeartbeats 4000000 in
theorem lp_Te_readSentence_t {X : gw_C} (t s len : Nat) (ch : Nat → Nat) (hlen : len ≤ 240) (hch : ∀ j, ch j < 127) (hd : t + 2 ≤ s ∨ s + 2 ≤ t) (σ0 : gw_S) (R : Option (Nat × List px_W)) (hX : gw_ok X nc_Te_readSentence "LabelLearner$Text" (8, 3, 71, 0, 0)) (hQ : X.2.2.2.2 = gw_end X (fun v σ' => rs_post σ0 σ' (gw_z X) t s len ch R v) 0 0) (hr : X.2.2.1.1.sig.returnType = some .boolean) : ∀ (m : Nat) (acc : List px_W) (p : Bool) (i bf be : Nat) (σ : gw_S) (b : Nat → Int32), acc.length + m = 6 → rs_R len ch true R p i bf be acc → i ≤ 240 → bf ≤ be → be ≤ 240 → se_ok acc → tx_at σ (gw_z X) t len i ch → σ.2 s = some (.inr (5, [.ref (s + 1), .int (nI (se_c acc)), .int (nI acc.length)])) → σ.2 (s + 1) = some (gw_I (gw_z X) 18 b) → se_bk b acc → gw_f2 σ0 σ t (t + 2) s (s + 2) → gw_W X σ 0 0 26 [(6, .int (nI acc.length)), (5, .int (nI (if p = true then 1 else 0))), (4, .int (nI be)), (3, .int (nI bf)), (0, .ref t), (1, .ref s), (2, .int (nI 1))] [] := by
  intro m
  induction m using Nat.strongRecOn with
  | ind m ih =>
    intro acc p i bf be σ b hm hR hi hbb hbe ho h g0 g1 hbk fr
    obtain ⟨h0, h1⟩ := id h
    refine gw_iload hX nd_Te_readSentence_26 0 rfl ?_
    refine gw_bipush (v := nI 6) hX nd_Te_readSentence_28 rfl ?_
    refine gw_icmp_ge (tgt := 111) hX nd_Te_readSentence_30 rfl (fun hb => ?_) (fun hb => ?_)
    · have hb : 6 ≤ acc.length := (nI_leI (a := 6) (b := acc.length) (by omega) (by omega)).mp hb
      have hx := rs_exit hR (by omega) (Or.inl (by omega))
      refine gw_aload_n hX nd_Te_readSentence_111 rfl 5 rfl ?_
      refine gw_get hX kf_Te_71 nd_Te_readSentence_112 g0 rfl ?_
      refine gw_if_le (tgt := 122) hX nd_Te_readSentence_115 rfl (fun hb => ?_) (fun hb => ?_)
      · have hb : acc.length ≤ 0 := (nI_leI (a := acc.length) (b := 0) (by omega) (by omega)).mp hb
        refine gw_iconst (v := nI 0) hX nd_Te_readSentence_122 rfl ?_
        exact gw_zret hX hQ hr nd_Te_readSentence_123 rfl (by decide) (by decide) (rs_end0 hx hi h ⟨b, g0, g1, hbk⟩ fr (by omega))
      · have hb : ¬ acc.length ≤ 0 := fun h => hb ((nI_leI (a := acc.length) (b := 0) (by omega) (by omega)).mpr h)
        refine gw_iconst (v := nI 1) hX nd_Te_readSentence_118 rfl ?_
        refine gw_goto (tgt := 123) hX nd_Te_readSentence_119 rfl ?_
        exact gw_zret hX hQ hr nd_Te_readSentence_123 rfl (by decide) (by decide) (rs_end1 hx hi h ⟨b, g0, g1, hbk⟩ ho (by omega) fr (by omega))
    · have hb : ¬ 6 ≤ acc.length := fun h => hb ((nI_leI (a := 6) (b := acc.length) (by omega) (by omega)).mpr h)
      refine gw_iload hX nd_Te_readSentence_33 1 rfl ?_
      refine gw_if_eq (tgt := 111) hX nd_Te_readSentence_35 rfl (fun hb => ?_) (fun hb => ?_)
      · skip
        have hp : p = false := by
          cases e : p with
          | false => rfl
          | true => rw [e] at hb; exact absurd hb (by decide)
        have hx := rs_exit hR (by omega) (Or.inr (Or.inl hp))
        refine gw_aload_n hX nd_Te_readSentence_111 rfl 5 rfl ?_
        refine gw_get hX kf_Te_71 nd_Te_readSentence_112 g0 rfl ?_
        refine gw_if_le (tgt := 122) hX nd_Te_readSentence_115 rfl (fun hb => ?_) (fun hb => ?_)
        · have hb : acc.length ≤ 0 := (nI_leI (a := acc.length) (b := 0) (by omega) (by omega)).mp hb
          refine gw_iconst (v := nI 0) hX nd_Te_readSentence_122 rfl ?_
          exact gw_zret hX hQ hr nd_Te_readSentence_123 rfl (by decide) (by decide) (rs_end0 hx hi h ⟨b, g0, g1, hbk⟩ fr (by omega))
        · have hb : ¬ acc.length ≤ 0 := fun h => hb ((nI_leI (a := acc.length) (b := 0) (by omega) (by omega)).mpr h)
          refine gw_iconst (v := nI 1) hX nd_Te_readSentence_118 rfl ?_
          refine gw_goto (tgt := 123) hX nd_Te_readSentence_119 rfl ?_
          exact gw_zret hX hQ hr nd_Te_readSentence_123 rfl (by decide) (by decide) (rs_end1 hx hi h ⟨b, g0, g1, hbk⟩ ho (by omega) fr (by omega))
      · skip
        have hp : p = true := by
          cases e : p with
          | true => rfl
          | false => rw [e] at hb; exact absurd rfl hb
        have hR1 := hR.1 hp
        refine gw_aload_n hX nd_Te_readSentence_38 rfl 4 rfl ?_
        refine gw_callV (rest := []) hX ks_Te_52 (ct_Te_current X.1.2.1 (gw_z X) (gw_b X) σ t len i ch hlen hi hch h) h0 rfl rfl (Nat.le_of_ble_eq_true rfl) nd_Te_readSentence_39 (by decide) ?_
        rintro v_ s_ ⟨hv_, hs_⟩
        have hs_ := hs_.symm
        subst hs_ hv_
        show gw_W X σ 0 0 42 [(6, .int (nI acc.length)), (5, .int (nI (if p = true then 1 else 0))), (4, .int (nI be)), (3, .int (nI bf)), (0, .ref t), (1, .ref s), (2, .int (nI 1))] [.int (tx_c len ch i)]
        refine gw_callS (rest := []) hX ks_Te_56 (ct_Te_isLetter X.1.2.1 (gw_z X) (gw_b X) σ (tx_c len ch i)) rfl rfl (Nat.le_of_ble_eq_true rfl) nd_Te_readSentence_42 (by decide) ?_
        rintro v_ s_ ⟨hv_, hs_⟩
        have hs_ := hs_.symm
        subst hs_ hv_
        show gw_W X σ 0 0 45 [(6, .int (nI acc.length)), (5, .int (nI (if p = true then 1 else 0))), (4, .int (nI be)), (3, .int (nI bf)), (0, .ref t), (1, .ref s), (2, .int (nI 1))] [.int (nI (tx_l (tx_c len ch i)))]
        rw [tx_l_c hch]
        refine gw_if_eq (tgt := 111) hX nd_Te_readSentence_45 rfl (fun hb => ?_) (fun hb => ?_)
        · skip
          have hb3 : px_lt len ch i = false := by
            cases e : px_lt len ch i with
            | false => rfl
            | true => rw [e] at hb; exact absurd hb (by decide)
          have hx := rs_exit hR (by omega) (Or.inr (Or.inr hb3))
          refine gw_aload_n hX nd_Te_readSentence_111 rfl 5 rfl ?_
          refine gw_get hX kf_Te_71 nd_Te_readSentence_112 g0 rfl ?_
          refine gw_if_le (tgt := 122) hX nd_Te_readSentence_115 rfl (fun hb => ?_) (fun hb => ?_)
          · have hb : acc.length ≤ 0 := (nI_leI (a := acc.length) (b := 0) (by omega) (by omega)).mp hb
            refine gw_iconst (v := nI 0) hX nd_Te_readSentence_122 rfl ?_
            exact gw_zret hX hQ hr nd_Te_readSentence_123 rfl (by decide) (by decide) (rs_end0 hx hi h ⟨b, g0, g1, hbk⟩ fr (by omega))
          · have hb : ¬ acc.length ≤ 0 := fun h => hb ((nI_leI (a := acc.length) (b := 0) (by omega) (by omega)).mpr h)
            refine gw_iconst (v := nI 1) hX nd_Te_readSentence_118 rfl ?_
            refine gw_goto (tgt := 123) hX nd_Te_readSentence_119 rfl ?_
            exact gw_zret hX hQ hr nd_Te_readSentence_123 rfl (by decide) (by decide) (rs_end1 hx hi h ⟨b, g0, g1, hbk⟩ ho (by omega) fr (by omega))
        · skip
          have hb3 : px_lt len ch i = true := by
            cases e : px_lt len ch i with
            | true => rfl
            | false => rw [e] at hb; exact absurd rfl hb
          obtain ⟨f8, hf8⟩ : ∃ f, 8 - acc.length = f + 1 := ⟨7 - acc.length, by omega⟩
          refine gw_aload_n hX nd_Te_readSentence_48 rfl 4 rfl ?_
          refine gw_get hX kf_Te_23 nd_Te_readSentence_49 h0 rfl ?_
          refine gw_istore hX nd_Te_readSentence_52 (by decide) (L' := [(7, .int (nI i)), (6, .int (nI acc.length)), (5, .int (nI (if p = true then 1 else 0))), (4, .int (nI be)), (3, .int (nI bf)), (0, .ref t), (1, .ref s), (2, .int (nI 1))]) rfl ?_
          refine gw_aload_n hX nd_Te_readSentence_54 rfl 5 rfl ?_
          refine gw_callV (rest := []) hX ks_Te_60 (ct_Te_skipLetters X.1.2.1 (gw_z X) (gw_b X) σ t len i ch hlen hi hch h) h0 rfl rfl (Nat.le_of_ble_eq_true rfl) nd_Te_readSentence_55 (by decide) ?_
          rintro _ σ1 ⟨rfl, ⟨e, he1, he2, he3, he4, he5, h⟩, hf⟩
          have g0 : σ1.2 s = some (.inr (5, [.ref (s + 1), .int (nI (se_c acc)), .int (nI acc.length)])) := (hf.2 s (by omega)).trans g0
          have g1 : σ1.2 (s + 1) = some ((gw_I (gw_z X) 18 b)) := (hf.2 (s + 1) (by omega)).trans g1
          have fr : gw_f2 σ0 σ1 t (t + 2) s (s + 2) := gw_f2_l fr hf
          have hwd := rs_word he1 he2 he4 he5
          have hie : i < e := by
            by_cases q : i < e
            · exact q
            · have q2 : e = i := by omega
              rcases he5 with q3 | q3
              · omega
              · rw [q2, hb3] at q3; cases q3
          obtain ⟨h0, h1⟩ := id h
          show gw_W X σ1 0 0 58 [(7, .int (nI i)), (6, .int (nI acc.length)), (5, .int (nI (if p = true then 1 else 0))), (4, .int (nI be)), (3, .int (nI bf)), (0, .ref t), (1, .ref s), (2, .int (nI 1))] []
          refine gw_aload_n hX nd_Te_readSentence_58 rfl 5 rfl ?_
          refine gw_aload_n hX nd_Te_readSentence_59 rfl 6 rfl ?_
          refine gw_iload hX nd_Te_readSentence_60 0 rfl ?_
          refine gw_iload_n hX nd_Te_readSentence_62 rfl 4 rfl ?_
          refine gw_iload hX nd_Te_readSentence_63 3 rfl ?_
          refine gw_callV (rest := []) hX ks_Te_63 (ct_Te_setFeatures X.1.2.1 (gw_z X) (gw_b X) σ1 t s len i e bf be acc.length (ch (e + 1) - 65) ch b (nI (se_c acc)) hie he3 hbb (by omega) (by omega) hd h g0 g1) h0 rfl rfl (Nat.le_of_ble_eq_true rfl) nd_Te_readSentence_65 (by decide) ?_
          rintro _ σ2 ⟨rfl, g0, g1, hf⟩
          have h : tx_at σ2 (gw_z X) t len e ch := tx_at_fr h hf (by omega)
          obtain ⟨h0, h1⟩ := id h
          have fr : gw_f2 σ0 σ2 t (t + 2) s (s + 2) := gw_f2_r fr hf
          show gw_W X σ2 0 0 68 [(7, .int (nI i)), (6, .int (nI acc.length)), (5, .int (nI (if p = true then 1 else 0))), (4, .int (nI be)), (3, .int (nI bf)), (0, .ref t), (1, .ref s), (2, .int (nI 1))] []
          refine gw_iload hX nd_Te_readSentence_68 0 rfl ?_
          refine gw_istore_n hX nd_Te_readSentence_70 rfl (by decide) (L' := [(3, .int (nI i)), (7, .int (nI i)), (6, .int (nI acc.length)), (5, .int (nI (if p = true then 1 else 0))), (4, .int (nI be)), (0, .ref t), (1, .ref s), (2, .int (nI 1))]) rfl ?_
          refine gw_aload_n hX nd_Te_readSentence_71 rfl 5 rfl ?_
          refine gw_get hX kf_Te_23 nd_Te_readSentence_72 h0 rfl ?_
          refine gw_istore hX nd_Te_readSentence_75 (by decide) (L' := [(4, .int (nI e)), (3, .int (nI i)), (7, .int (nI i)), (6, .int (nI acc.length)), (5, .int (nI (if p = true then 1 else 0))), (0, .ref t), (1, .ref s), (2, .int (nI 1))]) rfl ?_
          refine gw_iload_n hX nd_Te_readSentence_77 rfl 7 rfl ?_
          refine gw_if_eq (tgt := 91) hX nd_Te_readSentence_78 rfl (fun hb => ?_) (fun hb => ?_)
          · have hb : 1 = 0 := (nI_eq (a := 1) (b := 0) (by omega) (by omega)).mp hb
            exfalso; omega
          · have hb : ¬ 1 = 0 := fun h => hb ((nI_eq (a := 1) (b := 0) (by omega) (by omega)).mpr h)
            refine gw_aload_n hX nd_Te_readSentence_81 rfl 5 rfl ?_
            refine gw_aload_n hX nd_Te_readSentence_82 rfl 6 rfl ?_
            refine gw_callV (rest := []) hX ks_Te_67 (ct_Te_readLabel X.1.2.1 (gw_z X) (gw_b X) σ2 t s len e acc.length (se_c acc) ch _ hlen he3 hch (by omega) (se_c_lt ho) hd h g0 g1) h0 rfl rfl (Nat.le_of_ble_eq_true rfl) nd_Te_readSentence_83 (by decide) ?_
            rintro _ σ3 ⟨⟨hok, rfl, h, g0⟩ | ⟨hok, rfl, ⟨k9, hk9, h⟩, g0⟩, g1, hf⟩
            rotate_left
            · show gw_W X σ3 0 0 86 [(4, .int (nI e)), (3, .int (nI i)), (7, .int (nI i)), (6, .int (nI acc.length)), (5, .int (nI (if p = true then 1 else 0))), (0, .ref t), (1, .ref s), (2, .int (nI 1))] [.int (nI 0)]
              have fr : gw_f2 σ0 σ3 t (t + 2) s (s + 2) := gw_f2_tr fr hf
              refine gw_if_ne (tgt := 91) hX nd_Te_readSentence_86 rfl (fun hb => ?_) (fun hb => ?_)
              · have hb : ¬ 0 = 0 := fun h => hb ((nI_eq (a := 0) (b := 0) (by omega) (by omega)).mpr h)
                exfalso; omega
              · have hb : 0 = 0 := (nI_eq (a := 0) (b := 0) (by omega) (by omega)).mp hb
                refine gw_iconst (v := nI 0) hX nd_Te_readSentence_89 rfl ?_
                exact gw_zret hX hQ hr nd_Te_readSentence_90 rfl (by decide) (by decide) ⟨Or.inr ⟨fun k ws q => (by rw [hR1, hf8, rs_bad hb3 hwd hok] at q; cases q), ⟨_, _, _, g0, g1⟩, k9, hk9, h, Or.inl rfl⟩, fr⟩
            have fr : gw_f2 σ0 σ3 t (t + 2) s (s + 2) := gw_f2_tr fr hf
            obtain ⟨h0, h1⟩ := id h
            show gw_W X σ3 0 0 86 [(4, .int (nI e)), (3, .int (nI i)), (7, .int (nI i)), (6, .int (nI acc.length)), (5, .int (nI (if p = true then 1 else 0))), (0, .ref t), (1, .ref s), (2, .int (nI 1))] [.int (nI 1)]
            have hlen2 := hok.2.1
            refine gw_if_ne (tgt := 91) hX nd_Te_readSentence_86 rfl (fun hb => ?_) (fun hb => ?_)
            · have hb : ¬ 1 = 0 := fun h => hb ((nI_eq (a := 1) (b := 0) (by omega) (by omega)).mpr h)
              refine gw_aload_n hX nd_Te_readSentence_91 rfl 6 rfl ?_
              refine gw_iload hX nd_Te_readSentence_92 3 rfl ?_
              refine gw_iconst (v := nI 1) hX nd_Te_readSentence_94 rfl ?_
              refine gw_iadd hX nd_Te_readSentence_95 ?_
              refine gw_topi (y := nI (acc.length + 1)) (nI_add _ _) ?_
              refine gw_put hX kf_Te_71 nd_Te_readSentence_96 g0 rfl rfl (Nat.le_of_ble_eq_true rfl) (e' := .inr (5, [.ref (s + 1), .int (nI (se_c acc + (ch (e + 1) - 65) * 4 ^ acc.length)), .int (nI (acc.length + 1))])) rfl ?_
              obtain ⟨σ4, eσ4⟩ : ∃ hp_, hp_ = gw_up σ3 s (.inr (5, [.ref (s + 1), .int (nI (se_c acc + (ch (e + 1) - 65) * 4 ^ acc.length)), .int (nI (acc.length + 1))])) := ⟨_, rfl⟩
              refine gw_heap eσ4.symm ?_
              have h0 : σ4.2 t = some (.inr (6, [.ref (t + 1), .int (nI len), .int (nI (e + 2))])) := by rw [eσ4, gw_up_ne (by omega)]; exact h0
              have h1 : σ4.2 (t + 1) = some ((gw_Ch (gw_z X) 240 (fun j => nI (ch j)))) := by rw [eσ4, gw_up_ne (by omega)]; exact h1
              have g0 : σ4.2 s = some (.inr (5, [.ref (s + 1), .int (nI (se_c acc + (ch (e + 1) - 65) * 4 ^ acc.length)), .int (nI (acc.length + 1))])) := by rw [eσ4]; exact gw_up_eq _ _ _
              have g1 : σ4.2 (s + 1) = some ((gw_I (gw_z X) 18 (upd (upd (upd b (acc.length * 3 + 0) (nI (px_f ch i e bf be (ch (e + 1) - 65)).1)) (acc.length * 3 + 1) (nI (px_f ch i e bf be (ch (e + 1) - 65)).2.1)) (acc.length * 3 + 2) (nI (px_f ch i e bf be (ch (e + 1) - 65)).2.2.1)))) := by rw [eσ4, gw_up_ne (by omega)]; exact g1
              have fr : gw_f2 σ0 σ4 t (t + 2) s (s + 2) := gw_f2_r fr (show gw_fr _ σ4 s (s + 2) by rw [eσ4]; exact gw_fr_up _ _ _ (by omega) (by omega))
              refine gw_aload_n hX nd_Te_readSentence_99 rfl 5 rfl ?_
              refine gw_callV (rest := []) hX ks_Te_48 (ct_Te_skipSpaces X.1.2.1 (gw_z X) (gw_b X) σ4 t len (e + 2) ch hlen (by omega) hch ⟨h0, h1⟩) h0 rfl rfl (Nat.le_of_ble_eq_true rfl) nd_Te_readSentence_100 (by decide) ?_
              rintro _ σ5 ⟨rfl, h, hf⟩
              have g0 : σ5.2 s = some (.inr (5, [.ref (s + 1), .int (nI (se_c acc + (ch (e + 1) - 65) * 4 ^ acc.length)), .int (nI (acc.length + 1))])) := (hf.2 s (by omega)).trans g0
              have g1 : σ5.2 (s + 1) = some ((gw_I (gw_z X) 18 (upd (upd (upd b (acc.length * 3 + 0) (nI (px_f ch i e bf be (ch (e + 1) - 65)).1)) (acc.length * 3 + 1) (nI (px_f ch i e bf be (ch (e + 1) - 65)).2.1)) (acc.length * 3 + 2) (nI (px_f ch i e bf be (ch (e + 1) - 65)).2.2.1)))) := (hf.2 (s + 1) (by omega)).trans g1
              have fr : gw_f2 σ0 σ5 t (t + 2) s (s + 2) := gw_f2_l fr hf
              show gw_W X σ5 0 0 103 [(4, .int (nI e)), (3, .int (nI i)), (7, .int (nI i)), (6, .int (nI acc.length)), (5, .int (nI (if p = true then 1 else 0))), (0, .ref t), (1, .ref s), (2, .int (nI 1))] [.int (nI (if e + 2 < px_skip len ch (e + 2) then 1 else 0))]
              refine gw_istore hX nd_Te_readSentence_103 (by decide) (L' := [(5, .int (nI (if e + 2 < px_skip len ch (e + 2) then 1 else 0))), (4, .int (nI e)), (3, .int (nI i)), (7, .int (nI i)), (6, .int (nI acc.length)), (0, .ref t), (1, .ref s), (2, .int (nI 1))]) rfl ?_
              refine gw_iinc hX nd_Te_readSentence_105 4 rfl (v := nI (acc.length + 1)) (show nI acc.length + nI 1 = nI (acc.length + 1) from nI_add _ _) (by decide) (L' := [(6, .int (nI (acc.length + 1))), (5, .int (nI (if e + 2 < px_skip len ch (e + 2) then 1 else 0))), (4, .int (nI e)), (3, .int (nI i)), (7, .int (nI i)), (0, .ref t), (1, .ref s), (2, .int (nI 1))]) rfl ?_
              refine gw_goto (tgt := 26) hX nd_Te_readSentence_108 rfl ?_
              refine gw_cut (ks := [0, 1, 2, 3, 5, 6, 7]) (L' := [(6, .int (nI (acc.length + 1))), (5, .int (nI (if e + 2 < px_skip len ch (e + 2) then 1 else 0))), (4, .int (nI e)), (3, .int (nI i)), (0, .ref t), (1, .ref s), (2, .int (nI 1))]) rfl ?_
              have hlx : (acc ++ [px_f ch i e bf be (ch (e + 1) - 65)]).length = acc.length + 1 := by simp
              have hsc : se_c (acc ++ [px_f ch i e bf be (ch (e + 1) - 65)]) = se_c acc + (ch (e + 1) - 65) * 4 ^ acc.length := se_c_snoc acc _
              refine gw_head ?_ (ih (m - 1) (by omega) (acc ++ [px_f ch i e bf be (ch (e + 1) - 65)]) (decide (e + 2 < px_skip len ch (e + 2))) (px_skip len ch (e + 2)) i e σ5 _ (by rw [hlx]; omega) (rs_next_t hR1 hb3 hwd hok (by omega)) (rs_skip_le hlen (by omega)) (by omega) (by omega) (se_ok_snoc ho (px_f_ok ch i e bf be (by have := hok.2.2; omega))) h (by rw [hsc, hlx]; exact g0) g1 (se_bk_snoc hbk _) fr)
              rw [hlx]
              simp only [decide_eq_true_eq]
            · have hb : 1 = 0 := (nI_eq (a := 1) (b := 0) (by omega) (by omega)).mp hb
              exfalso; omega
set_option maxRecDepth 100000 in
set_option maxHeartbeats 4000000 in
theorem lp_Te_readSentence_f {X : gw_C} (t s len : Nat) (ch : Nat → Nat) (hlen : len ≤ 240) (hch : ∀ j, ch j < 127) (hd : t + 2 ≤ s ∨ s + 2 ≤ t) (σ0 : gw_S) (R : Option (Nat × List px_W)) (hX : gw_ok X nc_Te_readSentence "LabelLearner$Text" (8, 3, 71, 0, 0)) (hQ : X.2.2.2.2 = gw_end X (fun v σ' => rs_post σ0 σ' (gw_z X) t s len ch R v) 0 0) (hr : X.2.2.1.1.sig.returnType = some .boolean) : ∀ (m : Nat) (acc : List px_W) (p : Bool) (i bf be : Nat) (σ : gw_S) (b : Nat → Int32), acc.length + m = 6 → rs_R len ch false R p i bf be acc → i ≤ 240 → bf ≤ be → be ≤ 240 → se_ok acc → tx_at σ (gw_z X) t len i ch → σ.2 s = some (.inr (5, [.ref (s + 1), .int (nI (se_c acc)), .int (nI acc.length)])) → σ.2 (s + 1) = some (gw_I (gw_z X) 18 b) → se_bk b acc → gw_f2 σ0 σ t (t + 2) s (s + 2) → gw_W X σ 0 0 26 [(6, .int (nI acc.length)), (5, .int (nI (if p = true then 1 else 0))), (4, .int (nI be)), (3, .int (nI bf)), (0, .ref t), (1, .ref s), (2, .int (nI 0))] [] := by
  intro m
  induction m using Nat.strongRecOn with
  | ind m ih =>
    intro acc p i bf be σ b hm hR hi hbb hbe ho h g0 g1 hbk fr
    obtain ⟨h0, h1⟩ := id h
    refine gw_iload hX nd_Te_readSentence_26 0 rfl ?_
    refine gw_bipush (v := nI 6) hX nd_Te_readSentence_28 rfl ?_
    refine gw_icmp_ge (tgt := 111) hX nd_Te_readSentence_30 rfl (fun hb => ?_) (fun hb => ?_)
    · have hb : 6 ≤ acc.length := (nI_leI (a := 6) (b := acc.length) (by omega) (by omega)).mp hb
      have hx := rs_exit hR (by omega) (Or.inl (by omega))
      refine gw_aload_n hX nd_Te_readSentence_111 rfl 5 rfl ?_
      refine gw_get hX kf_Te_71 nd_Te_readSentence_112 g0 rfl ?_
      refine gw_if_le (tgt := 122) hX nd_Te_readSentence_115 rfl (fun hb => ?_) (fun hb => ?_)
      · have hb : acc.length ≤ 0 := (nI_leI (a := acc.length) (b := 0) (by omega) (by omega)).mp hb
        refine gw_iconst (v := nI 0) hX nd_Te_readSentence_122 rfl ?_
        exact gw_zret hX hQ hr nd_Te_readSentence_123 rfl (by decide) (by decide) (rs_end0 hx hi h ⟨b, g0, g1, hbk⟩ fr (by omega))
      · have hb : ¬ acc.length ≤ 0 := fun h => hb ((nI_leI (a := acc.length) (b := 0) (by omega) (by omega)).mpr h)
        refine gw_iconst (v := nI 1) hX nd_Te_readSentence_118 rfl ?_
        refine gw_goto (tgt := 123) hX nd_Te_readSentence_119 rfl ?_
        exact gw_zret hX hQ hr nd_Te_readSentence_123 rfl (by decide) (by decide) (rs_end1 hx hi h ⟨b, g0, g1, hbk⟩ ho (by omega) fr (by omega))
    · have hb : ¬ 6 ≤ acc.length := fun h => hb ((nI_leI (a := 6) (b := acc.length) (by omega) (by omega)).mpr h)
      refine gw_iload hX nd_Te_readSentence_33 1 rfl ?_
      refine gw_if_eq (tgt := 111) hX nd_Te_readSentence_35 rfl (fun hb => ?_) (fun hb => ?_)
      · skip
        have hp : p = false := by
          cases e : p with
          | false => rfl
          | true => rw [e] at hb; exact absurd hb (by decide)
        have hx := rs_exit hR (by omega) (Or.inr (Or.inl hp))
        refine gw_aload_n hX nd_Te_readSentence_111 rfl 5 rfl ?_
        refine gw_get hX kf_Te_71 nd_Te_readSentence_112 g0 rfl ?_
        refine gw_if_le (tgt := 122) hX nd_Te_readSentence_115 rfl (fun hb => ?_) (fun hb => ?_)
        · have hb : acc.length ≤ 0 := (nI_leI (a := acc.length) (b := 0) (by omega) (by omega)).mp hb
          refine gw_iconst (v := nI 0) hX nd_Te_readSentence_122 rfl ?_
          exact gw_zret hX hQ hr nd_Te_readSentence_123 rfl (by decide) (by decide) (rs_end0 hx hi h ⟨b, g0, g1, hbk⟩ fr (by omega))
        · have hb : ¬ acc.length ≤ 0 := fun h => hb ((nI_leI (a := acc.length) (b := 0) (by omega) (by omega)).mpr h)
          refine gw_iconst (v := nI 1) hX nd_Te_readSentence_118 rfl ?_
          refine gw_goto (tgt := 123) hX nd_Te_readSentence_119 rfl ?_
          exact gw_zret hX hQ hr nd_Te_readSentence_123 rfl (by decide) (by decide) (rs_end1 hx hi h ⟨b, g0, g1, hbk⟩ ho (by omega) fr (by omega))
      · skip
        have hp : p = true := by
          cases e : p with
          | true => rfl
          | false => rw [e] at hb; exact absurd rfl hb
        have hR1 := hR.1 hp
        refine gw_aload_n hX nd_Te_readSentence_38 rfl 4 rfl ?_
        refine gw_callV (rest := []) hX ks_Te_52 (ct_Te_current X.1.2.1 (gw_z X) (gw_b X) σ t len i ch hlen hi hch h) h0 rfl rfl (Nat.le_of_ble_eq_true rfl) nd_Te_readSentence_39 (by decide) ?_
        rintro v_ s_ ⟨hv_, hs_⟩
        have hs_ := hs_.symm
        subst hs_ hv_
        show gw_W X σ 0 0 42 [(6, .int (nI acc.length)), (5, .int (nI (if p = true then 1 else 0))), (4, .int (nI be)), (3, .int (nI bf)), (0, .ref t), (1, .ref s), (2, .int (nI 0))] [.int (tx_c len ch i)]
        refine gw_callS (rest := []) hX ks_Te_56 (ct_Te_isLetter X.1.2.1 (gw_z X) (gw_b X) σ (tx_c len ch i)) rfl rfl (Nat.le_of_ble_eq_true rfl) nd_Te_readSentence_42 (by decide) ?_
        rintro v_ s_ ⟨hv_, hs_⟩
        have hs_ := hs_.symm
        subst hs_ hv_
        show gw_W X σ 0 0 45 [(6, .int (nI acc.length)), (5, .int (nI (if p = true then 1 else 0))), (4, .int (nI be)), (3, .int (nI bf)), (0, .ref t), (1, .ref s), (2, .int (nI 0))] [.int (nI (tx_l (tx_c len ch i)))]
        rw [tx_l_c hch]
        refine gw_if_eq (tgt := 111) hX nd_Te_readSentence_45 rfl (fun hb => ?_) (fun hb => ?_)
        · skip
          have hb3 : px_lt len ch i = false := by
            cases e : px_lt len ch i with
            | false => rfl
            | true => rw [e] at hb; exact absurd hb (by decide)
          have hx := rs_exit hR (by omega) (Or.inr (Or.inr hb3))
          refine gw_aload_n hX nd_Te_readSentence_111 rfl 5 rfl ?_
          refine gw_get hX kf_Te_71 nd_Te_readSentence_112 g0 rfl ?_
          refine gw_if_le (tgt := 122) hX nd_Te_readSentence_115 rfl (fun hb => ?_) (fun hb => ?_)
          · have hb : acc.length ≤ 0 := (nI_leI (a := acc.length) (b := 0) (by omega) (by omega)).mp hb
            refine gw_iconst (v := nI 0) hX nd_Te_readSentence_122 rfl ?_
            exact gw_zret hX hQ hr nd_Te_readSentence_123 rfl (by decide) (by decide) (rs_end0 hx hi h ⟨b, g0, g1, hbk⟩ fr (by omega))
          · have hb : ¬ acc.length ≤ 0 := fun h => hb ((nI_leI (a := acc.length) (b := 0) (by omega) (by omega)).mpr h)
            refine gw_iconst (v := nI 1) hX nd_Te_readSentence_118 rfl ?_
            refine gw_goto (tgt := 123) hX nd_Te_readSentence_119 rfl ?_
            exact gw_zret hX hQ hr nd_Te_readSentence_123 rfl (by decide) (by decide) (rs_end1 hx hi h ⟨b, g0, g1, hbk⟩ ho (by omega) fr (by omega))
        · skip
          have hb3 : px_lt len ch i = true := by
            cases e : px_lt len ch i with
            | true => rfl
            | false => rw [e] at hb; exact absurd rfl hb
          obtain ⟨f8, hf8⟩ : ∃ f, 8 - acc.length = f + 1 := ⟨7 - acc.length, by omega⟩
          refine gw_aload_n hX nd_Te_readSentence_48 rfl 4 rfl ?_
          refine gw_get hX kf_Te_23 nd_Te_readSentence_49 h0 rfl ?_
          refine gw_istore hX nd_Te_readSentence_52 (by decide) (L' := [(7, .int (nI i)), (6, .int (nI acc.length)), (5, .int (nI (if p = true then 1 else 0))), (4, .int (nI be)), (3, .int (nI bf)), (0, .ref t), (1, .ref s), (2, .int (nI 0))]) rfl ?_
          refine gw_aload_n hX nd_Te_readSentence_54 rfl 5 rfl ?_
          refine gw_callV (rest := []) hX ks_Te_60 (ct_Te_skipLetters X.1.2.1 (gw_z X) (gw_b X) σ t len i ch hlen hi hch h) h0 rfl rfl (Nat.le_of_ble_eq_true rfl) nd_Te_readSentence_55 (by decide) ?_
          rintro _ σ1 ⟨rfl, ⟨e, he1, he2, he3, he4, he5, h⟩, hf⟩
          have g0 : σ1.2 s = some (.inr (5, [.ref (s + 1), .int (nI (se_c acc)), .int (nI acc.length)])) := (hf.2 s (by omega)).trans g0
          have g1 : σ1.2 (s + 1) = some ((gw_I (gw_z X) 18 b)) := (hf.2 (s + 1) (by omega)).trans g1
          have fr : gw_f2 σ0 σ1 t (t + 2) s (s + 2) := gw_f2_l fr hf
          have hwd := rs_word he1 he2 he4 he5
          have hie : i < e := by
            by_cases q : i < e
            · exact q
            · have q2 : e = i := by omega
              rcases he5 with q3 | q3
              · omega
              · rw [q2, hb3] at q3; cases q3
          obtain ⟨h0, h1⟩ := id h
          show gw_W X σ1 0 0 58 [(7, .int (nI i)), (6, .int (nI acc.length)), (5, .int (nI (if p = true then 1 else 0))), (4, .int (nI be)), (3, .int (nI bf)), (0, .ref t), (1, .ref s), (2, .int (nI 0))] []
          refine gw_aload_n hX nd_Te_readSentence_58 rfl 5 rfl ?_
          refine gw_aload_n hX nd_Te_readSentence_59 rfl 6 rfl ?_
          refine gw_iload hX nd_Te_readSentence_60 0 rfl ?_
          refine gw_iload_n hX nd_Te_readSentence_62 rfl 4 rfl ?_
          refine gw_iload hX nd_Te_readSentence_63 3 rfl ?_
          refine gw_callV (rest := []) hX ks_Te_63 (ct_Te_setFeatures X.1.2.1 (gw_z X) (gw_b X) σ1 t s len i e bf be acc.length 0 ch b (nI (se_c acc)) hie he3 hbb (by omega) (by omega) hd h g0 g1) h0 rfl rfl (Nat.le_of_ble_eq_true rfl) nd_Te_readSentence_65 (by decide) ?_
          rintro _ σ2 ⟨rfl, g0, g1, hf⟩
          have h : tx_at σ2 (gw_z X) t len e ch := tx_at_fr h hf (by omega)
          obtain ⟨h0, h1⟩ := id h
          have fr : gw_f2 σ0 σ2 t (t + 2) s (s + 2) := gw_f2_r fr hf
          show gw_W X σ2 0 0 68 [(7, .int (nI i)), (6, .int (nI acc.length)), (5, .int (nI (if p = true then 1 else 0))), (4, .int (nI be)), (3, .int (nI bf)), (0, .ref t), (1, .ref s), (2, .int (nI 0))] []
          refine gw_iload hX nd_Te_readSentence_68 0 rfl ?_
          refine gw_istore_n hX nd_Te_readSentence_70 rfl (by decide) (L' := [(3, .int (nI i)), (7, .int (nI i)), (6, .int (nI acc.length)), (5, .int (nI (if p = true then 1 else 0))), (4, .int (nI be)), (0, .ref t), (1, .ref s), (2, .int (nI 0))]) rfl ?_
          refine gw_aload_n hX nd_Te_readSentence_71 rfl 5 rfl ?_
          refine gw_get hX kf_Te_23 nd_Te_readSentence_72 h0 rfl ?_
          refine gw_istore hX nd_Te_readSentence_75 (by decide) (L' := [(4, .int (nI e)), (3, .int (nI i)), (7, .int (nI i)), (6, .int (nI acc.length)), (5, .int (nI (if p = true then 1 else 0))), (0, .ref t), (1, .ref s), (2, .int (nI 0))]) rfl ?_
          refine gw_iload_n hX nd_Te_readSentence_77 rfl 7 rfl ?_
          refine gw_if_eq (tgt := 91) hX nd_Te_readSentence_78 rfl (fun hb => ?_) (fun hb => ?_)
          · have hb : 0 = 0 := (nI_eq (a := 0) (b := 0) (by omega) (by omega)).mp hb
            refine gw_aload_n hX nd_Te_readSentence_91 rfl 6 rfl ?_
            refine gw_iload hX nd_Te_readSentence_92 3 rfl ?_
            refine gw_iconst (v := nI 1) hX nd_Te_readSentence_94 rfl ?_
            refine gw_iadd hX nd_Te_readSentence_95 ?_
            refine gw_topi (y := nI (acc.length + 1)) (nI_add _ _) ?_
            refine gw_put hX kf_Te_71 nd_Te_readSentence_96 g0 rfl rfl (Nat.le_of_ble_eq_true rfl) (e' := .inr (5, [.ref (s + 1), .int (nI (se_c acc)), .int (nI (acc.length + 1))])) rfl ?_
            obtain ⟨σ3, eσ3⟩ : ∃ hp_, hp_ = gw_up σ2 s (.inr (5, [.ref (s + 1), .int (nI (se_c acc)), .int (nI (acc.length + 1))])) := ⟨_, rfl⟩
            refine gw_heap eσ3.symm ?_
            have h0 : σ3.2 t = some (.inr (6, [.ref (t + 1), .int (nI len), .int (nI e)])) := by rw [eσ3, gw_up_ne (by omega)]; exact h0
            have h1 : σ3.2 (t + 1) = some ((gw_Ch (gw_z X) 240 (fun j => nI (ch j)))) := by rw [eσ3, gw_up_ne (by omega)]; exact h1
            have g0 : σ3.2 s = some (.inr (5, [.ref (s + 1), .int (nI (se_c acc)), .int (nI (acc.length + 1))])) := by rw [eσ3]; exact gw_up_eq _ _ _
            have g1 : σ3.2 (s + 1) = some ((gw_I (gw_z X) 18 (upd (upd (upd b (acc.length * 3 + 0) (nI (px_f ch i e bf be 0).1)) (acc.length * 3 + 1) (nI (px_f ch i e bf be 0).2.1)) (acc.length * 3 + 2) (nI (px_f ch i e bf be 0).2.2.1)))) := by rw [eσ3, gw_up_ne (by omega)]; exact g1
            have fr : gw_f2 σ0 σ3 t (t + 2) s (s + 2) := gw_f2_r fr (show gw_fr _ σ3 s (s + 2) by rw [eσ3]; exact gw_fr_up _ _ _ (by omega) (by omega))
            refine gw_aload_n hX nd_Te_readSentence_99 rfl 5 rfl ?_
            refine gw_callV (rest := []) hX ks_Te_48 (ct_Te_skipSpaces X.1.2.1 (gw_z X) (gw_b X) σ3 t len (e) ch hlen (by omega) hch ⟨h0, h1⟩) h0 rfl rfl (Nat.le_of_ble_eq_true rfl) nd_Te_readSentence_100 (by decide) ?_
            rintro _ σ4 ⟨rfl, h, hf⟩
            have g0 : σ4.2 s = some (.inr (5, [.ref (s + 1), .int (nI (se_c acc)), .int (nI (acc.length + 1))])) := (hf.2 s (by omega)).trans g0
            have g1 : σ4.2 (s + 1) = some ((gw_I (gw_z X) 18 (upd (upd (upd b (acc.length * 3 + 0) (nI (px_f ch i e bf be 0).1)) (acc.length * 3 + 1) (nI (px_f ch i e bf be 0).2.1)) (acc.length * 3 + 2) (nI (px_f ch i e bf be 0).2.2.1)))) := (hf.2 (s + 1) (by omega)).trans g1
            have fr : gw_f2 σ0 σ4 t (t + 2) s (s + 2) := gw_f2_l fr hf
            show gw_W X σ4 0 0 103 [(4, .int (nI e)), (3, .int (nI i)), (7, .int (nI i)), (6, .int (nI acc.length)), (5, .int (nI (if p = true then 1 else 0))), (0, .ref t), (1, .ref s), (2, .int (nI 0))] [.int (nI (if e < px_skip len ch (e) then 1 else 0))]
            refine gw_istore hX nd_Te_readSentence_103 (by decide) (L' := [(5, .int (nI (if e < px_skip len ch (e) then 1 else 0))), (4, .int (nI e)), (3, .int (nI i)), (7, .int (nI i)), (6, .int (nI acc.length)), (0, .ref t), (1, .ref s), (2, .int (nI 0))]) rfl ?_
            refine gw_iinc hX nd_Te_readSentence_105 4 rfl (v := nI (acc.length + 1)) (show nI acc.length + nI 1 = nI (acc.length + 1) from nI_add _ _) (by decide) (L' := [(6, .int (nI (acc.length + 1))), (5, .int (nI (if e < px_skip len ch (e) then 1 else 0))), (4, .int (nI e)), (3, .int (nI i)), (7, .int (nI i)), (0, .ref t), (1, .ref s), (2, .int (nI 0))]) rfl ?_
            refine gw_goto (tgt := 26) hX nd_Te_readSentence_108 rfl ?_
            refine gw_cut (ks := [0, 1, 2, 3, 5, 6, 7]) (L' := [(6, .int (nI (acc.length + 1))), (5, .int (nI (if e < px_skip len ch (e) then 1 else 0))), (4, .int (nI e)), (3, .int (nI i)), (0, .ref t), (1, .ref s), (2, .int (nI 0))]) rfl ?_
            have hlx : (acc ++ [px_f ch i e bf be 0]).length = acc.length + 1 := by simp
            have hsc : se_c (acc ++ [px_f ch i e bf be 0]) = se_c acc + 0 * 4 ^ acc.length := se_c_snoc acc _
            refine gw_head ?_ (ih (m - 1) (by omega) (acc ++ [px_f ch i e bf be 0]) (decide (e < px_skip len ch (e))) (px_skip len ch (e)) i e σ4 _ (by rw [hlx]; omega) (rs_next_f hR1 hb3 hwd (by omega)) (rs_skip_le hlen (by omega)) (by omega) (by omega) (se_ok_snoc ho (px_f_ok ch i e bf be (by decide))) h (by rw [hsc, hlx, Nat.zero_mul, Nat.add_zero]; exact g0) g1 (se_bk_snoc hbk _) fr)
            rw [hlx]
            simp only [decide_eq_true_eq]
          · have hb : ¬ 0 = 0 := fun h => hb ((nI_eq (a := 0) (b := 0) (by omega) (by omega)).mpr h)
            exfalso; omega
set_option maxRecDepth 100000 in
set_option maxHeartbeats 4000000 in
theorem ct_Te_readSentence_t (l : Launch) (Z : gw_Z) (b0 : Nat) (σ : gw_S) (t s len k : Nat) (ch : Nat → Nat) (hlen : len ≤ 240) (hk : k ≤ 240) (hch : ∀ j, ch j < 127) (hd : t + 2 ≤ s ∨ s + 2 ≤ t) (h : tx_at σ Z t len k ch) (hs : se_any σ Z s) : gw_M l ny_Te_readSentence nc_Te_readSentence (8, 3, 71, 0, 0) (some .boolean) Z b0 σ [.ref t, .ref s, .int (nI 1)] (fun v σ' => rs_post σ σ' Z t s len ch (px_go len ch true 8 (px_skip len ch k) (px_skip len ch k) (px_skip len ch k) []) v) := by
  refine gw_M_of rfl (Nat.le_of_ble_eq_true rfl) ?_
  intro X hX hl hz hb0 hr hnm hQ
  subst hz hb0 hl
  have hX : gw_ok X nc_Te_readSentence "LabelLearner$Text" (8, 3, 71, 0, 0) := hX
  show gw_W X σ 0 0 0 [(0, .ref t), (1, .ref s), (2, .int (nI 1))] []
  obtain ⟨b, lab, sz, g0, g1⟩ := id hs
  refine gw_aload_n hX nd_Te_readSentence_0 rfl 1 rfl ?_
  refine gw_callV (rest := []) hX ks_Te_43 (ct_Se_clear X.1.2.1 (gw_z X) (gw_b X) σ s lab sz b g0 g1) g0 rfl rfl (Nat.le_of_ble_eq_true rfl) nd_Te_readSentence_1 (by decide) ?_
  rintro _ σ1 ⟨rfl, g0, g1, hf⟩
  have h : tx_at σ1 (gw_z X) t len k ch := tx_at_fr h hf (by omega)
  have fr : gw_f2 σ σ1 t (t + 2) s (s + 2) := gw_f2_r (gw_f2_rf _ _ _ _ _) hf
  obtain ⟨h0, h1⟩ := id h
  show gw_W X σ1 0 0 4 [(0, .ref t), (1, .ref s), (2, .int (nI 1))] []
  refine gw_aload_n hX nd_Te_readSentence_4 rfl 0 rfl ?_
  refine gw_callV (rest := []) hX ks_Te_48 (ct_Te_skipSpaces X.1.2.1 (gw_z X) (gw_b X) σ1 t len k ch hlen hk hch h) h0 rfl rfl (Nat.le_of_ble_eq_true rfl) nd_Te_readSentence_5 (by decide) ?_
  rintro _ σ2 ⟨rfl, h, hf⟩
  have g0 : σ2.2 s = some (.inr (5, [.ref (s + 1), .int (nI 0), .int (nI 0)])) := (hf.2 s (by omega)).trans g0
  have g1 : σ2.2 (s + 1) = some ((gw_I (gw_z X) 18 b)) := (hf.2 (s + 1) (by omega)).trans g1
  have fr : gw_f2 σ σ2 t (t + 2) s (s + 2) := gw_f2_l fr hf
  obtain ⟨h0, h1⟩ := id h
  show gw_W X σ2 0 0 8 [(0, .ref t), (1, .ref s), (2, .int (nI 1))] [.int (nI (if k < px_skip len ch k then 1 else 0))]
  refine gw_pop hX nd_Te_readSentence_8 rfl ?_
  refine gw_aload_n hX nd_Te_readSentence_9 rfl 0 rfl ?_
  refine gw_get hX kf_Te_23 nd_Te_readSentence_10 h0 rfl ?_
  refine gw_istore_n hX nd_Te_readSentence_13 rfl (by decide) (L' := [(3, .int (nI (px_skip len ch k))), (0, .ref t), (1, .ref s), (2, .int (nI 1))]) rfl ?_
  refine gw_aload_n hX nd_Te_readSentence_14 rfl 1 rfl ?_
  refine gw_get hX kf_Te_23 nd_Te_readSentence_15 h0 rfl ?_
  refine gw_istore hX nd_Te_readSentence_18 (by decide) (L' := [(4, .int (nI (px_skip len ch k))), (3, .int (nI (px_skip len ch k))), (0, .ref t), (1, .ref s), (2, .int (nI 1))]) rfl ?_
  refine gw_iconst (v := nI 1) hX nd_Te_readSentence_20 rfl ?_
  refine gw_istore hX nd_Te_readSentence_21 (by decide) (L' := [(5, .int (nI 1)), (4, .int (nI (px_skip len ch k))), (3, .int (nI (px_skip len ch k))), (0, .ref t), (1, .ref s), (2, .int (nI 1))]) rfl ?_
  refine gw_iconst (v := nI 0) hX nd_Te_readSentence_23 rfl ?_
  refine gw_istore hX nd_Te_readSentence_24 (by decide) (L' := [(6, .int (nI 0)), (5, .int (nI 1)), (4, .int (nI (px_skip len ch k))), (3, .int (nI (px_skip len ch k))), (0, .ref t), (1, .ref s), (2, .int (nI 1))]) rfl ?_
  refine gw_cut (ks := [0, 1, 2, 3, 4, 5, 6]) (L' := [(6, .int (nI 0)), (5, .int (nI 1)), (4, .int (nI (px_skip len ch k))), (3, .int (nI (px_skip len ch k))), (0, .ref t), (1, .ref s), (2, .int (nI 1))]) rfl ?_
  exact lp_Te_readSentence_t t s len ch hlen hch hd σ _ hX hQ hr 6 [] true (px_skip len ch k) (px_skip len ch k) (px_skip len ch k) σ2 b (by simp) ⟨fun _ => rfl, fun q => (by cases q), fun q => (by cases q)⟩ (rs_skip_le hlen hk) (Nat.le_refl _) (rs_skip_le hlen hk) (fun x hx => (by cases hx)) h g0 g1 (fun w x hx => (by simp at hx)) fr
set_option maxRecDepth 100000 in
set_option maxHeartbeats 4000000 in
theorem ct_Te_readSentence_f (l : Launch) (Z : gw_Z) (b0 : Nat) (σ : gw_S) (t s len k : Nat) (ch : Nat → Nat) (hlen : len ≤ 240) (hk : k ≤ 240) (hch : ∀ j, ch j < 127) (hd : t + 2 ≤ s ∨ s + 2 ≤ t) (h : tx_at σ Z t len k ch) (hs : se_any σ Z s) : gw_M l ny_Te_readSentence nc_Te_readSentence (8, 3, 71, 0, 0) (some .boolean) Z b0 σ [.ref t, .ref s, .int (nI 0)] (fun v σ' => rs_post σ σ' Z t s len ch (px_go len ch false 8 (px_skip len ch k) (px_skip len ch k) (px_skip len ch k) []) v) := by
  refine gw_M_of rfl (Nat.le_of_ble_eq_true rfl) ?_
  intro X hX hl hz hb0 hr hnm hQ
  subst hz hb0 hl
  have hX : gw_ok X nc_Te_readSentence "LabelLearner$Text" (8, 3, 71, 0, 0) := hX
  show gw_W X σ 0 0 0 [(0, .ref t), (1, .ref s), (2, .int (nI 0))] []
  obtain ⟨b, lab, sz, g0, g1⟩ := id hs
  refine gw_aload_n hX nd_Te_readSentence_0 rfl 1 rfl ?_
  refine gw_callV (rest := []) hX ks_Te_43 (ct_Se_clear X.1.2.1 (gw_z X) (gw_b X) σ s lab sz b g0 g1) g0 rfl rfl (Nat.le_of_ble_eq_true rfl) nd_Te_readSentence_1 (by decide) ?_
  rintro _ σ1 ⟨rfl, g0, g1, hf⟩
  have h : tx_at σ1 (gw_z X) t len k ch := tx_at_fr h hf (by omega)
  have fr : gw_f2 σ σ1 t (t + 2) s (s + 2) := gw_f2_r (gw_f2_rf _ _ _ _ _) hf
  obtain ⟨h0, h1⟩ := id h
  show gw_W X σ1 0 0 4 [(0, .ref t), (1, .ref s), (2, .int (nI 0))] []
  refine gw_aload_n hX nd_Te_readSentence_4 rfl 0 rfl ?_
  refine gw_callV (rest := []) hX ks_Te_48 (ct_Te_skipSpaces X.1.2.1 (gw_z X) (gw_b X) σ1 t len k ch hlen hk hch h) h0 rfl rfl (Nat.le_of_ble_eq_true rfl) nd_Te_readSentence_5 (by decide) ?_
  rintro _ σ2 ⟨rfl, h, hf⟩
  have g0 : σ2.2 s = some (.inr (5, [.ref (s + 1), .int (nI 0), .int (nI 0)])) := (hf.2 s (by omega)).trans g0
  have g1 : σ2.2 (s + 1) = some ((gw_I (gw_z X) 18 b)) := (hf.2 (s + 1) (by omega)).trans g1
  have fr : gw_f2 σ σ2 t (t + 2) s (s + 2) := gw_f2_l fr hf
  obtain ⟨h0, h1⟩ := id h
  show gw_W X σ2 0 0 8 [(0, .ref t), (1, .ref s), (2, .int (nI 0))] [.int (nI (if k < px_skip len ch k then 1 else 0))]
  refine gw_pop hX nd_Te_readSentence_8 rfl ?_
  refine gw_aload_n hX nd_Te_readSentence_9 rfl 0 rfl ?_
  refine gw_get hX kf_Te_23 nd_Te_readSentence_10 h0 rfl ?_
  refine gw_istore_n hX nd_Te_readSentence_13 rfl (by decide) (L' := [(3, .int (nI (px_skip len ch k))), (0, .ref t), (1, .ref s), (2, .int (nI 0))]) rfl ?_
  refine gw_aload_n hX nd_Te_readSentence_14 rfl 1 rfl ?_
  refine gw_get hX kf_Te_23 nd_Te_readSentence_15 h0 rfl ?_
  refine gw_istore hX nd_Te_readSentence_18 (by decide) (L' := [(4, .int (nI (px_skip len ch k))), (3, .int (nI (px_skip len ch k))), (0, .ref t), (1, .ref s), (2, .int (nI 0))]) rfl ?_
  refine gw_iconst (v := nI 1) hX nd_Te_readSentence_20 rfl ?_
  refine gw_istore hX nd_Te_readSentence_21 (by decide) (L' := [(5, .int (nI 1)), (4, .int (nI (px_skip len ch k))), (3, .int (nI (px_skip len ch k))), (0, .ref t), (1, .ref s), (2, .int (nI 0))]) rfl ?_
  refine gw_iconst (v := nI 0) hX nd_Te_readSentence_23 rfl ?_
  refine gw_istore hX nd_Te_readSentence_24 (by decide) (L' := [(6, .int (nI 0)), (5, .int (nI 1)), (4, .int (nI (px_skip len ch k))), (3, .int (nI (px_skip len ch k))), (0, .ref t), (1, .ref s), (2, .int (nI 0))]) rfl ?_
  refine gw_cut (ks := [0, 1, 2, 3, 4, 5, 6]) (L' := [(6, .int (nI 0)), (5, .int (nI 1)), (4, .int (nI (px_skip len ch k))), (3, .int (nI (px_skip len ch k))), (0, .ref t), (1, .ref s), (2, .int (nI 0))]) rfl ?_
  exact lp_Te_readSentence_f t s len ch hlen hch hd σ _ hX hQ hr 6 [] true (px_skip len ch k) (px_skip len ch k) (px_skip len ch k) σ2 b (by simp) ⟨fun _ => rfl, fun q => (by cases q), fun q => (by cases q)⟩ (rs_skip_le hlen hk) (Nat.le_refl _) (rs_skip_le hlen hk) (fun x hx => (by cases hx)) h g0 g1 (fun w x hx => (by simp at hx)) fr
