def mn_P (ws : List px_W) (g : Nat → Nat) (w k : Nat) : List Nat := ct_M (ab_sb ws) g w ++ (List.range k).map (fun i => 4 * se_B ws (w * 3 + i) + g w)
theorem mn_s (ws : List px_W) (g : Nat → Nat) (w k : Nat) : mn_P ws g w k ++ [4 * se_B ws (w * 3 + k) + g w] = mn_P ws g w (k + 1) := by
  unfold mn_P
  rw [List.range_succ, List.map_append, List.append_assoc]
  rfl
theorem mn_e (ws : List px_W) (g : Nat → Nat) (w : Nat) {i : Nat} (hi : i = ct_r g w) : mn_P ws g w 3 ++ [i] = mn_P ws g (w + 1) 0 := by
  unfold mn_P
  rw [ct_M_succ, hi]
  simp [List.range_succ, Nat.mul_comm 4, ab_sb]
theorem mn_end (ws : List px_W) (g : Nat → Nat) : mn_P ws g ws.length 0 = ct_M (ab_sb ws) g ws.length := by
  unfold mn_P
  simp
theorem mn_0 (wt : Nat → Int) (c : Int) (ws : List px_W) (g : Nat → Nat) : ct_ad wt c (mn_P ws g 0 0) = wt := ct_ad_nil wt c
theorem mn_i0 {g : Nat → Nat} {w : Nat} (h : w = 0) : 128 + g w = ct_r g w := by unfold ct_r; rw [if_pos h]
theorem mn_i1 {g : Nat → Nat} {w : Nat} (h : ¬ w = 0) : 4 * (33 + g (w - 1)) + g w = ct_r g w := by unfold ct_r; rw [if_neg h, Nat.mul_comm]
theorem nI_sub2 {w : Nat} (h : ¬ w = 0) : nI (2 * w) - nI 2 = nI (2 * (w - 1)) := by
  rw [show 2 * w = 2 * (w - 1) + 2 by omega, ← nI_add, Int32.add_sub_cancel]
set_option maxRecDepth 100000 in
set_option maxHeartbeats 4000000 in
theorem lp_Mo_mend {X : gw_C} (m : Nat) {th rs be se kp kw : Int32} {len sn mk ps : Nat} {bs s2 : Int64} (fm fb : Nat → Int32) (j : Nat) (hj : j ≤ 8) (ws : List px_W) (hso : se_ok ws) (hsl : ws.length ≤ 6) (hmb : mm_b fm fb j ws) (wt : Nat → Int) (x c : Int32) (z : Int) (hcz : c.toInt64 = iL z) {σ0 : gw_S} (hX : gw_ok X nc_Mo_mend "LabelLearnerModel" (8, 0, 0, 0, 0)) (hQ : X.2.2.2.2 = gw_end X (fun v σ' => v = none ∧ σ'.2 (m + 8) = some (gw_J (gw_z X) 148 (fun i => iL (ct_ad wt z (ct_M (ab_sb ws) (lb_at x) ws.length) i))) ∧ gw_fr σ0 σ' (m + 8) (m + 9)) 0 0) (hr : X.2.2.1.1.sig.returnType = none) : ∀ (u : Nat) (w k : Nat) (σ : gw_S), u = (6 - w) * 8 + (3 - k) → w < ws.length → k ≤ 3 → σ.2 m = some (.inr (1, [.int th, .int (nI len), .ref (m + 1), .int (nI sn), .ref (m + 2), .ref (m + 3), .ref (m + 4), .int rs, .ref (m + 5), .ref (m + 6), .ref (m + 7), .ref (m + 8), .ref (m + 9), .int (nI mk), .int (nI ps), .ref (m + 10), .ref (m + 11), .ref (m + 12), .long bs, .long s2, .int be, .int se, .int kp, .int kw])) → σ.2 (m + 2) = some (gw_I (gw_z X) 9 fm) → σ.2 (m + 3) = some (gw_I (gw_z X) 162 fb) → σ.2 (m + 8) = some (gw_J (gw_z X) 148 (fun i => iL (ct_ad wt z (mn_P ws (lb_at x) w k) i))) → gw_fr σ0 σ (m + 8) (m + 9) → gw_W X σ 0 0 27 [(0, .ref m), (1, .int (nI j)), (2, .int x), (3, .int c), (4, .int (nI w)), (5, .int (nI (lb_at x w))), (6, .int (nI k))] [] := by
  intro u
  induction u using Nat.strongRecOn with
  | ind u ih =>
    intro w k σ
    intro hu hw hk h0 h2 h3 h8 fr
    have hlw := lb_lt x w
    refine gw_iload hX nd_Mo_mend_27 6 rfl ?_
    refine gw_iconst (v := nI 3) hX nd_Mo_mend_29 rfl ?_
    refine gw_icmp_ge (tgt := 80) hX nd_Mo_mend_30 rfl (fun hb => ?_) (fun hb => ?_)
    · have hb : 3 ≤ k := (nI_leI (a := 3) (b := k) (by omega) (by omega)).mp hb
      refine gw_iload hX nd_Mo_mend_80 4 rfl ?_
      refine gw_if_ne (tgt := 94) hX nd_Mo_mend_82 rfl (fun hb => ?_) (fun hb => ?_)
      · have hb : ¬ w = 0 := fun h => hb ((nI_eq (a := w) (b := 0) (by omega) (by omega)).mpr h)
        have hw0 := hb
        have hl1 := lb_lt x (w - 1)
        refine gw_iconst (v := nI 4) hX nd_Mo_mend_94 rfl ?_
        refine gw_bipush (v := nI 33) hX nd_Mo_mend_95 rfl ?_
        refine gw_iload_n hX nd_Mo_mend_97 rfl 2 rfl ?_
        refine gw_iconst (v := nI 2) hX nd_Mo_mend_98 rfl ?_
        refine gw_iload hX nd_Mo_mend_99 4 rfl ?_
        refine gw_imul hX nd_Mo_mend_101 ?_
        refine gw_topi (y := nI (2 * w)) (pk_mul _ _) ?_
        refine gw_iconst (v := nI 2) hX nd_Mo_mend_102 rfl ?_
        refine gw_isub hX nd_Mo_mend_103 ?_
        refine gw_topi (y := nI (2 * (w - 1))) (nI_sub2 hw0) ?_
        refine gw_ishr hX nd_Mo_mend_104 ?_
        refine gw_iconst (v := nI 3) hX nd_Mo_mend_105 rfl ?_
        refine gw_iand hX nd_Mo_mend_106 ?_
        refine gw_topi (y := nI (lb_at x (w - 1))) (lb_s _ (by omega)) ?_
        refine gw_iadd hX nd_Mo_mend_107 ?_
        refine gw_topi (y := nI (33 + (lb_at x (w - 1)))) (nI_add _ _) ?_
        refine gw_imul hX nd_Mo_mend_108 ?_
        refine gw_topi (y := nI (4 * (33 + (lb_at x (w - 1))))) (pk_mul _ _) ?_
        refine gw_iload hX nd_Mo_mend_109 5 rfl ?_
        refine gw_iadd hX nd_Mo_mend_111 ?_
        refine gw_topi (y := nI (4 * (33 + (lb_at x (w - 1))) + (lb_at x w))) (nI_add _ _) ?_
        refine gw_istore hX nd_Mo_mend_112 (by decide) (L' := [(6, .int (nI (4 * (33 + (lb_at x (w - 1))) + (lb_at x w)))), (0, .ref m), (1, .int (nI j)), (2, .int x), (3, .int c), (4, .int (nI w)), (5, .int (nI (lb_at x w)))]) rfl ?_
        refine gw_aload_n hX nd_Mo_mend_114 rfl 1 rfl ?_
        refine gw_get hX kf_Mo_31 nd_Mo_mend_115 h0 rfl ?_
        refine gw_iload hX nd_Mo_mend_118 0 rfl ?_
        refine gw_aload_n hX nd_Mo_mend_120 rfl 1 rfl ?_
        refine gw_get hX kf_Mo_31 nd_Mo_mend_121 h0 rfl ?_
        refine gw_iload hX nd_Mo_mend_124 0 rfl ?_
        have hk3 : k = 3 := by omega
        have hix := mn_i1 (g := lb_at x) hw0
        refine gw_lald hX nd_Mo_mend_126 h8 (4 * (33 + (lb_at x (w - 1))) + (lb_at x w)) rfl (by omega) (by decide) ?_
        refine gw_topl (y := iL (ct_ad wt z (mn_P ws (lb_at x) w k) (4 * (33 + lb_at x (w - 1)) + lb_at x w))) rfl ?_
        refine gw_iload_n hX nd_Mo_mend_127 rfl 4 rfl ?_
        refine gw_i2l hX nd_Mo_mend_128 ?_
        refine gw_topl (y := iL z) hcz ?_
        refine gw_ladd hX nd_Mo_mend_129 ?_
        refine gw_last hX nd_Mo_mend_130 h8 (4 * (33 + (lb_at x (w - 1))) + (lb_at x w)) rfl (by omega) (by decide) ?_
        refine gw_heap (show gw_up σ (m + 8) ((gw_J (gw_z X) 148 (vp_updL (fun i => iL (ct_ad wt z (mn_P ws (lb_at x) w k) i)) (4 * (33 + (lb_at x (w - 1))) + (lb_at x w)) ((iL (ct_ad wt z (mn_P ws (lb_at x) w k) (4 * (33 + lb_at x (w - 1)) + lb_at x w))) + (iL z))))) = gw_up σ (m + 8) ((gw_J (gw_z X) 148 (fun i => iL (ct_ad wt z (mn_P ws (lb_at x) (w + 1) 0) i)))) by rw [show vp_updL (fun i => iL (ct_ad wt z (mn_P ws (lb_at x) w k) i)) (4 * (33 + (lb_at x (w - 1))) + (lb_at x w)) ((iL (ct_ad wt z (mn_P ws (lb_at x) w k) (4 * (33 + lb_at x (w - 1)) + lb_at x w))) + (iL z)) = fun i => iL (ct_ad wt z (mn_P ws (lb_at x) (w + 1) 0) i) from (by rw [ct_upd, hk3, mn_e ws (lb_at x) w hix])]) ?_
        obtain ⟨σ1, eσ1⟩ : ∃ hp_, hp_ = gw_up σ (m + 8) ((gw_J (gw_z X) 148 (fun i => iL (ct_ad wt z (mn_P ws (lb_at x) (w + 1) 0) i)))) := ⟨_, rfl⟩
        refine gw_heap eσ1.symm ?_
        have h0 : σ1.2 m = some (.inr (1, [.int th, .int (nI len), .ref (m + 1), .int (nI sn), .ref (m + 2), .ref (m + 3), .ref (m + 4), .int rs, .ref (m + 5), .ref (m + 6), .ref (m + 7), .ref (m + 8), .ref (m + 9), .int (nI mk), .int (nI ps), .ref (m + 10), .ref (m + 11), .ref (m + 12), .long bs, .long s2, .int be, .int se, .int kp, .int kw])) := by rw [eσ1, gw_up_ne (by omega)]; exact h0
        have h2 : σ1.2 (m + 2) = some ((gw_I (gw_z X) 9 fm)) := by rw [eσ1, gw_up_ne (by omega)]; exact h2
        have h3 : σ1.2 (m + 3) = some ((gw_I (gw_z X) 162 fb)) := by rw [eσ1, gw_up_ne (by omega)]; exact h3
        have h8 : σ1.2 (m + 8) = some ((gw_J (gw_z X) 148 (fun i => iL (ct_ad wt z (mn_P ws (lb_at x) (w + 1) 0) i)))) := by rw [eσ1]; exact gw_up_eq _ _ _
        have fr : gw_fr σ0 σ1 (m + 8) (m + 9) := gw_fr_tr fr (show gw_fr _ σ1 (m + 8) (m + 9) by rw [eσ1]; exact gw_fr_up _ _ _ (by omega) (by omega))
        refine gw_iinc hX nd_Mo_mend_131 5 rfl (v := nI (w + 1)) (show nI w + nI 1 = nI (w + 1) from nI_add _ _) (by decide) (L' := [(4, .int (nI (w + 1))), (6, .int (nI (4 * (33 + (lb_at x (w - 1))) + (lb_at x w)))), (0, .ref m), (1, .int (nI j)), (2, .int x), (3, .int c), (5, .int (nI (lb_at x w)))]) rfl ?_
        refine gw_goto (tgt := 3) hX nd_Mo_mend_134 rfl ?_
        refine gw_iload hX nd_Mo_mend_3 0 rfl ?_
        refine gw_aload_n hX nd_Mo_mend_5 rfl 2 rfl ?_
        refine gw_get hX kf_Mo_13 nd_Mo_mend_6 h0 rfl ?_
        refine gw_iload_n hX nd_Mo_mend_9 rfl 3 rfl ?_
        refine gw_iald hX nd_Mo_mend_10 h2 j rfl (by omega) (by decide) ?_
        refine gw_topi (y := nI ws.length) hmb.1 ?_
        refine gw_icmp_ge (tgt := 137) hX nd_Mo_mend_11 rfl (fun hb => ?_) (fun hb => ?_)
        · have hb : ws.length ≤ w + 1 := (nI_leI (a := ws.length) (b := w + 1) (by omega) (by omega)).mp hb
          exact gw_vret hX hQ hr nd_Mo_mend_137 (by decide) (by decide) ⟨rfl, by rw [← mn_end, show ws.length = w + 1 by omega]; exact h8, fr⟩
        · have hb : ¬ ws.length ≤ w + 1 := fun h => hb ((nI_leI (a := ws.length) (b := w + 1) (by omega) (by omega)).mpr h)
          have hw1 := hb
          refine gw_iload_n hX nd_Mo_mend_14 rfl 4 rfl ?_
          refine gw_iconst (v := nI 2) hX nd_Mo_mend_15 rfl ?_
          refine gw_iload hX nd_Mo_mend_16 0 rfl ?_
          refine gw_imul hX nd_Mo_mend_18 ?_
          refine gw_topi (y := nI (2 * (w + 1))) (pk_mul _ _) ?_
          refine gw_ishr hX nd_Mo_mend_19 ?_
          refine gw_iconst (v := nI 3) hX nd_Mo_mend_20 rfl ?_
          refine gw_iand hX nd_Mo_mend_21 ?_
          refine gw_topi (y := nI (lb_at x (w + 1))) (lb_s _ (by omega)) ?_
          refine gw_istore hX nd_Mo_mend_22 (by decide) (L' := [(5, .int (nI (lb_at x (w + 1)))), (4, .int (nI (w + 1))), (6, .int (nI (4 * (33 + (lb_at x (w - 1))) + (lb_at x w)))), (0, .ref m), (1, .int (nI j)), (2, .int x), (3, .int c)]) rfl ?_
          refine gw_iconst (v := nI 0) hX nd_Mo_mend_24 rfl ?_
          refine gw_istore hX nd_Mo_mend_25 (by decide) (L' := [(6, .int (nI 0)), (5, .int (nI (lb_at x (w + 1)))), (4, .int (nI (w + 1))), (0, .ref m), (1, .int (nI j)), (2, .int x), (3, .int c)]) rfl ?_
          refine gw_cut (ks := [3, 4, 5, 6, 2, 1, 0]) (L' := [(0, .ref m), (1, .int (nI j)), (2, .int x), (3, .int c), (4, .int (nI (w + 1))), (5, .int (nI (lb_at x (w + 1)))), (6, .int (nI 0))]) rfl ?_
          exact ih ((6 - (w + 1)) * 8 + (3 - 0)) (by omega) (w + 1) 0 _ (by omega) (by omega) (by omega) h0 h2 h3 h8 fr
      · have hb : w = 0 := (nI_eq (a := w) (b := 0) (by omega) (by omega)).mp hb
        refine gw_sipush (v := nI 128) hX nd_Mo_mend_85 rfl ?_
        refine gw_iload hX nd_Mo_mend_88 5 rfl ?_
        refine gw_iadd hX nd_Mo_mend_90 ?_
        refine gw_topi (y := nI (128 + (lb_at x w))) (nI_add _ _) ?_
        refine gw_goto (tgt := 112) hX nd_Mo_mend_91 rfl ?_
        refine gw_istore hX nd_Mo_mend_112 (by decide) (L' := [(6, .int (nI (128 + (lb_at x w)))), (0, .ref m), (1, .int (nI j)), (2, .int x), (3, .int c), (4, .int (nI w)), (5, .int (nI (lb_at x w)))]) rfl ?_
        refine gw_aload_n hX nd_Mo_mend_114 rfl 1 rfl ?_
        refine gw_get hX kf_Mo_31 nd_Mo_mend_115 h0 rfl ?_
        refine gw_iload hX nd_Mo_mend_118 0 rfl ?_
        refine gw_aload_n hX nd_Mo_mend_120 rfl 1 rfl ?_
        refine gw_get hX kf_Mo_31 nd_Mo_mend_121 h0 rfl ?_
        refine gw_iload hX nd_Mo_mend_124 0 rfl ?_
        have hk3 : k = 3 := by omega
        have hix := mn_i0 (g := lb_at x) hb
        refine gw_lald hX nd_Mo_mend_126 h8 (128 + (lb_at x w)) rfl (by omega) (by decide) ?_
        refine gw_topl (y := iL (ct_ad wt z (mn_P ws (lb_at x) w k) (128 + lb_at x w))) rfl ?_
        refine gw_iload_n hX nd_Mo_mend_127 rfl 4 rfl ?_
        refine gw_i2l hX nd_Mo_mend_128 ?_
        refine gw_topl (y := iL z) hcz ?_
        refine gw_ladd hX nd_Mo_mend_129 ?_
        refine gw_last hX nd_Mo_mend_130 h8 (128 + (lb_at x w)) rfl (by omega) (by decide) ?_
        refine gw_heap (show gw_up σ (m + 8) ((gw_J (gw_z X) 148 (vp_updL (fun i => iL (ct_ad wt z (mn_P ws (lb_at x) w k) i)) (128 + (lb_at x w)) ((iL (ct_ad wt z (mn_P ws (lb_at x) w k) (128 + lb_at x w))) + (iL z))))) = gw_up σ (m + 8) ((gw_J (gw_z X) 148 (fun i => iL (ct_ad wt z (mn_P ws (lb_at x) (w + 1) 0) i)))) by rw [show vp_updL (fun i => iL (ct_ad wt z (mn_P ws (lb_at x) w k) i)) (128 + (lb_at x w)) ((iL (ct_ad wt z (mn_P ws (lb_at x) w k) (128 + lb_at x w))) + (iL z)) = fun i => iL (ct_ad wt z (mn_P ws (lb_at x) (w + 1) 0) i) from (by rw [ct_upd, hk3, mn_e ws (lb_at x) w hix])]) ?_
        obtain ⟨σ2, eσ2⟩ : ∃ hp_, hp_ = gw_up σ (m + 8) ((gw_J (gw_z X) 148 (fun i => iL (ct_ad wt z (mn_P ws (lb_at x) (w + 1) 0) i)))) := ⟨_, rfl⟩
        refine gw_heap eσ2.symm ?_
        have h0 : σ2.2 m = some (.inr (1, [.int th, .int (nI len), .ref (m + 1), .int (nI sn), .ref (m + 2), .ref (m + 3), .ref (m + 4), .int rs, .ref (m + 5), .ref (m + 6), .ref (m + 7), .ref (m + 8), .ref (m + 9), .int (nI mk), .int (nI ps), .ref (m + 10), .ref (m + 11), .ref (m + 12), .long bs, .long s2, .int be, .int se, .int kp, .int kw])) := by rw [eσ2, gw_up_ne (by omega)]; exact h0
        have h2 : σ2.2 (m + 2) = some ((gw_I (gw_z X) 9 fm)) := by rw [eσ2, gw_up_ne (by omega)]; exact h2
        have h3 : σ2.2 (m + 3) = some ((gw_I (gw_z X) 162 fb)) := by rw [eσ2, gw_up_ne (by omega)]; exact h3
        have h8 : σ2.2 (m + 8) = some ((gw_J (gw_z X) 148 (fun i => iL (ct_ad wt z (mn_P ws (lb_at x) (w + 1) 0) i)))) := by rw [eσ2]; exact gw_up_eq _ _ _
        have fr : gw_fr σ0 σ2 (m + 8) (m + 9) := gw_fr_tr fr (show gw_fr _ σ2 (m + 8) (m + 9) by rw [eσ2]; exact gw_fr_up _ _ _ (by omega) (by omega))
        refine gw_iinc hX nd_Mo_mend_131 5 rfl (v := nI (w + 1)) (show nI w + nI 1 = nI (w + 1) from nI_add _ _) (by decide) (L' := [(4, .int (nI (w + 1))), (6, .int (nI (128 + (lb_at x w)))), (0, .ref m), (1, .int (nI j)), (2, .int x), (3, .int c), (5, .int (nI (lb_at x w)))]) rfl ?_
        refine gw_goto (tgt := 3) hX nd_Mo_mend_134 rfl ?_
        refine gw_iload hX nd_Mo_mend_3 0 rfl ?_
        refine gw_aload_n hX nd_Mo_mend_5 rfl 2 rfl ?_
        refine gw_get hX kf_Mo_13 nd_Mo_mend_6 h0 rfl ?_
        refine gw_iload_n hX nd_Mo_mend_9 rfl 3 rfl ?_
        refine gw_iald hX nd_Mo_mend_10 h2 j rfl (by omega) (by decide) ?_
        refine gw_topi (y := nI ws.length) hmb.1 ?_
        refine gw_icmp_ge (tgt := 137) hX nd_Mo_mend_11 rfl (fun hb => ?_) (fun hb => ?_)
        · have hb : ws.length ≤ w + 1 := (nI_leI (a := ws.length) (b := w + 1) (by omega) (by omega)).mp hb
          exact gw_vret hX hQ hr nd_Mo_mend_137 (by decide) (by decide) ⟨rfl, by rw [← mn_end, show ws.length = w + 1 by omega]; exact h8, fr⟩
        · have hb : ¬ ws.length ≤ w + 1 := fun h => hb ((nI_leI (a := ws.length) (b := w + 1) (by omega) (by omega)).mpr h)
          have hw1 := hb
          refine gw_iload_n hX nd_Mo_mend_14 rfl 4 rfl ?_
          refine gw_iconst (v := nI 2) hX nd_Mo_mend_15 rfl ?_
          refine gw_iload hX nd_Mo_mend_16 0 rfl ?_
          refine gw_imul hX nd_Mo_mend_18 ?_
          refine gw_topi (y := nI (2 * (w + 1))) (pk_mul _ _) ?_
          refine gw_ishr hX nd_Mo_mend_19 ?_
          refine gw_iconst (v := nI 3) hX nd_Mo_mend_20 rfl ?_
          refine gw_iand hX nd_Mo_mend_21 ?_
          refine gw_topi (y := nI (lb_at x (w + 1))) (lb_s _ (by omega)) ?_
          refine gw_istore hX nd_Mo_mend_22 (by decide) (L' := [(5, .int (nI (lb_at x (w + 1)))), (4, .int (nI (w + 1))), (6, .int (nI (128 + (lb_at x w)))), (0, .ref m), (1, .int (nI j)), (2, .int x), (3, .int c)]) rfl ?_
          refine gw_iconst (v := nI 0) hX nd_Mo_mend_24 rfl ?_
          refine gw_istore hX nd_Mo_mend_25 (by decide) (L' := [(6, .int (nI 0)), (5, .int (nI (lb_at x (w + 1)))), (4, .int (nI (w + 1))), (0, .ref m), (1, .int (nI j)), (2, .int x), (3, .int c)]) rfl ?_
          refine gw_cut (ks := [3, 4, 5, 6, 2, 1, 0]) (L' := [(0, .ref m), (1, .int (nI j)), (2, .int x), (3, .int c), (4, .int (nI (w + 1))), (5, .int (nI (lb_at x (w + 1)))), (6, .int (nI 0))]) rfl ?_
          exact ih ((6 - (w + 1)) * 8 + (3 - 0)) (by omega) (w + 1) 0 _ (by omega) (by omega) (by omega) h0 h2 h3 h8 fr
    · have hb : ¬ 3 ≤ k := fun h => hb ((nI_leI (a := 3) (b := k) (by omega) (by omega)).mpr h)
      refine gw_iconst (v := nI 4) hX nd_Mo_mend_33 rfl ?_
      refine gw_aload_n hX nd_Mo_mend_34 rfl 0 rfl ?_
      refine gw_get hX kf_Mo_16 nd_Mo_mend_35 h0 rfl ?_
      refine gw_iconst (v := nI 3) hX nd_Mo_mend_38 rfl ?_
      refine gw_bipush (v := nI 6) hX nd_Mo_mend_39 rfl ?_
      refine gw_iload_n hX nd_Mo_mend_41 rfl 1 rfl ?_
      refine gw_imul hX nd_Mo_mend_42 ?_
      refine gw_topi (y := nI (6 * j)) (pk_mul _ _) ?_
      refine gw_iload hX nd_Mo_mend_43 4 rfl ?_
      refine gw_iadd hX nd_Mo_mend_45 ?_
      refine gw_topi (y := nI (6 * j + w)) (nI_add _ _) ?_
      refine gw_imul hX nd_Mo_mend_46 ?_
      refine gw_topi (y := nI (3 * (6 * j + w))) (pk_mul _ _) ?_
      refine gw_iload hX nd_Mo_mend_47 6 rfl ?_
      refine gw_iadd hX nd_Mo_mend_49 ?_
      refine gw_topi (y := nI (3 * (6 * j + w) + k)) (nI_add _ _) ?_
      refine gw_iald hX nd_Mo_mend_50 h3 (3 * (6 * j + w) + k) rfl (by omega) (by decide) ?_
      refine gw_topi (y := nI (se_B ws (w * 3 + k))) (mb_at hmb hw (by omega)) ?_
      refine gw_imul hX nd_Mo_mend_51 ?_
      refine gw_topi (y := nI (4 * (se_B ws (w * 3 + k)))) (pk_mul _ _) ?_
      refine gw_iload hX nd_Mo_mend_52 5 rfl ?_
      refine gw_iadd hX nd_Mo_mend_54 ?_
      refine gw_topi (y := nI (4 * (se_B ws (w * 3 + k)) + (lb_at x w))) (nI_add _ _) ?_
      refine gw_istore hX nd_Mo_mend_55 (by decide) (L' := [(7, .int (nI (4 * (se_B ws (w * 3 + k)) + (lb_at x w)))), (0, .ref m), (1, .int (nI j)), (2, .int x), (3, .int c), (4, .int (nI w)), (5, .int (nI (lb_at x w))), (6, .int (nI k))]) rfl ?_
      refine gw_aload_n hX nd_Mo_mend_57 rfl 1 rfl ?_
      refine gw_get hX kf_Mo_31 nd_Mo_mend_58 h0 rfl ?_
      refine gw_iload hX nd_Mo_mend_61 0 rfl ?_
      refine gw_aload_n hX nd_Mo_mend_63 rfl 1 rfl ?_
      refine gw_get hX kf_Mo_31 nd_Mo_mend_64 h0 rfl ?_
      refine gw_iload hX nd_Mo_mend_67 0 rfl ?_
      have hsb := se_B_lt hso (w * 3 + k)
      refine gw_lald hX nd_Mo_mend_69 h8 (4 * (se_B ws (w * 3 + k)) + (lb_at x w)) rfl (by omega) (by decide) ?_
      refine gw_topl (y := iL (ct_ad wt z (mn_P ws (lb_at x) w k) (4 * se_B ws (w * 3 + k) + lb_at x w))) rfl ?_
      refine gw_iload_n hX nd_Mo_mend_70 rfl 4 rfl ?_
      refine gw_i2l hX nd_Mo_mend_71 ?_
      refine gw_topl (y := iL z) hcz ?_
      refine gw_ladd hX nd_Mo_mend_72 ?_
      refine gw_last hX nd_Mo_mend_73 h8 (4 * (se_B ws (w * 3 + k)) + (lb_at x w)) rfl (by omega) (by decide) ?_
      refine gw_heap (show gw_up σ (m + 8) ((gw_J (gw_z X) 148 (vp_updL (fun i => iL (ct_ad wt z (mn_P ws (lb_at x) w k) i)) (4 * (se_B ws (w * 3 + k)) + (lb_at x w)) ((iL (ct_ad wt z (mn_P ws (lb_at x) w k) (4 * se_B ws (w * 3 + k) + lb_at x w))) + (iL z))))) = gw_up σ (m + 8) ((gw_J (gw_z X) 148 (fun i => iL (ct_ad wt z (mn_P ws (lb_at x) w (k + 1)) i)))) by rw [show vp_updL (fun i => iL (ct_ad wt z (mn_P ws (lb_at x) w k) i)) (4 * (se_B ws (w * 3 + k)) + (lb_at x w)) ((iL (ct_ad wt z (mn_P ws (lb_at x) w k) (4 * se_B ws (w * 3 + k) + lb_at x w))) + (iL z)) = fun i => iL (ct_ad wt z (mn_P ws (lb_at x) w (k + 1)) i) from (by rw [ct_upd, mn_s])]) ?_
      obtain ⟨σ3, eσ3⟩ : ∃ hp_, hp_ = gw_up σ (m + 8) ((gw_J (gw_z X) 148 (fun i => iL (ct_ad wt z (mn_P ws (lb_at x) w (k + 1)) i)))) := ⟨_, rfl⟩
      refine gw_heap eσ3.symm ?_
      have h0 : σ3.2 m = some (.inr (1, [.int th, .int (nI len), .ref (m + 1), .int (nI sn), .ref (m + 2), .ref (m + 3), .ref (m + 4), .int rs, .ref (m + 5), .ref (m + 6), .ref (m + 7), .ref (m + 8), .ref (m + 9), .int (nI mk), .int (nI ps), .ref (m + 10), .ref (m + 11), .ref (m + 12), .long bs, .long s2, .int be, .int se, .int kp, .int kw])) := by rw [eσ3, gw_up_ne (by omega)]; exact h0
      have h2 : σ3.2 (m + 2) = some ((gw_I (gw_z X) 9 fm)) := by rw [eσ3, gw_up_ne (by omega)]; exact h2
      have h3 : σ3.2 (m + 3) = some ((gw_I (gw_z X) 162 fb)) := by rw [eσ3, gw_up_ne (by omega)]; exact h3
      have h8 : σ3.2 (m + 8) = some ((gw_J (gw_z X) 148 (fun i => iL (ct_ad wt z (mn_P ws (lb_at x) w (k + 1)) i)))) := by rw [eσ3]; exact gw_up_eq _ _ _
      have fr : gw_fr σ0 σ3 (m + 8) (m + 9) := gw_fr_tr fr (show gw_fr _ σ3 (m + 8) (m + 9) by rw [eσ3]; exact gw_fr_up _ _ _ (by omega) (by omega))
      refine gw_iinc hX nd_Mo_mend_74 7 rfl (v := nI (k + 1)) (show nI k + nI 1 = nI (k + 1) from nI_add _ _) (by decide) (L' := [(6, .int (nI (k + 1))), (7, .int (nI (4 * (se_B ws (w * 3 + k)) + (lb_at x w)))), (0, .ref m), (1, .int (nI j)), (2, .int x), (3, .int c), (4, .int (nI w)), (5, .int (nI (lb_at x w)))]) rfl ?_
      refine gw_goto (tgt := 27) hX nd_Mo_mend_77 rfl ?_
      refine gw_cut (ks := [2, 3, 4, 5, 6, 7, 0]) (L' := [(0, .ref m), (1, .int (nI j)), (2, .int x), (3, .int c), (4, .int (nI w)), (5, .int (nI (lb_at x w))), (6, .int (nI (k + 1)))]) rfl ?_
      exact ih ((6 - w) * 8 + (3 - (k + 1))) (by omega) w (k + 1) _ (by omega) hw (by omega) h0 h2 h3 h8 fr
set_option maxRecDepth 100000 in
set_option maxHeartbeats 4000000 in
theorem ct_Mo_mend (l : Launch) (Z : gw_Z) (b0 : Nat) (σ : gw_S) (m : Nat) {th rs be se kp kw : Int32} {len sn mk ps : Nat} {bs s2 : Int64} (fm fb : Nat → Int32) (j : Nat) (hj : j ≤ 8) (ws : List px_W) (hso : se_ok ws) (hsl : ws.length ≤ 6) (hmb : mm_b fm fb j ws) (wt : Nat → Int) (x c : Int32) (z : Int) (hcz : c.toInt64 = iL z) (hws0 : 0 < ws.length) (h0 : σ.2 m = some (.inr (1, [.int th, .int (nI len), .ref (m + 1), .int (nI sn), .ref (m + 2), .ref (m + 3), .ref (m + 4), .int rs, .ref (m + 5), .ref (m + 6), .ref (m + 7), .ref (m + 8), .ref (m + 9), .int (nI mk), .int (nI ps), .ref (m + 10), .ref (m + 11), .ref (m + 12), .long bs, .long s2, .int be, .int se, .int kp, .int kw]))) (h2 : σ.2 (m + 2) = some (gw_I Z 9 fm)) (h3 : σ.2 (m + 3) = some (gw_I Z 162 fb)) (h8 : σ.2 (m + 8) = some (gw_J Z 148 (fun i => iL (wt i)))) : gw_M l ny_Mo_mend nc_Mo_mend (8, 0, 0, 0, 0) none Z b0 σ [.ref m, .int (nI j), .int x, .int c] (fun v σ' => v = none ∧ σ'.2 (m + 8) = some (gw_J Z 148 (fun i => iL (ct_ad wt z (ct_M (ab_sb ws) (lb_at x) ws.length) i))) ∧ gw_fr σ σ' (m + 8) (m + 9)) := by
  refine gw_M_of rfl (Nat.le_of_ble_eq_true rfl) ?_
  intro X hX hl hz hb0 hr hnm hQ
  subst hz hb0 hl
  have hX : gw_ok X nc_Mo_mend "LabelLearnerModel" (8, 0, 0, 0, 0) := hX
  show gw_W X σ 0 0 0 [(0, .ref m), (1, .int (nI j)), (2, .int x), (3, .int c)] []
  refine gw_iconst (v := nI 0) hX nd_Mo_mend_0 rfl ?_
  refine gw_istore hX nd_Mo_mend_1 (by decide) (L' := [(4, .int (nI 0)), (0, .ref m), (1, .int (nI j)), (2, .int x), (3, .int c)]) rfl ?_
  refine gw_iload hX nd_Mo_mend_3 0 rfl ?_
  refine gw_aload_n hX nd_Mo_mend_5 rfl 1 rfl ?_
  refine gw_get hX kf_Mo_13 nd_Mo_mend_6 h0 rfl ?_
  refine gw_iload_n hX nd_Mo_mend_9 rfl 2 rfl ?_
  refine gw_iald hX nd_Mo_mend_10 h2 j rfl (by omega) (by decide) ?_
  refine gw_topi (y := nI ws.length) hmb.1 ?_
  refine gw_icmp_ge (tgt := 137) hX nd_Mo_mend_11 rfl (fun hb => ?_) (fun hb => ?_)
  · have hb : ws.length ≤ 0 := (nI_leI (a := ws.length) (b := 0) (by omega) (by omega)).mp hb
    exfalso; omega
  · have hb : ¬ ws.length ≤ 0 := fun h => hb ((nI_leI (a := ws.length) (b := 0) (by omega) (by omega)).mpr h)
    refine gw_iload_n hX nd_Mo_mend_14 rfl 3 rfl ?_
    refine gw_iconst (v := nI 2) hX nd_Mo_mend_15 rfl ?_
    refine gw_iload hX nd_Mo_mend_16 0 rfl ?_
    refine gw_imul hX nd_Mo_mend_18 ?_
    refine gw_topi (y := nI 0) (pk_mul _ _) ?_
    refine gw_ishr hX nd_Mo_mend_19 ?_
    refine gw_iconst (v := nI 3) hX nd_Mo_mend_20 rfl ?_
    refine gw_iand hX nd_Mo_mend_21 ?_
    refine gw_topi (y := nI (lb_at x 0)) (lb_s (w := 0) _ (by omega)) ?_
    refine gw_istore hX nd_Mo_mend_22 (by decide) (L' := [(5, .int (nI (lb_at x 0))), (4, .int (nI 0)), (0, .ref m), (1, .int (nI j)), (2, .int x), (3, .int c)]) rfl ?_
    refine gw_iconst (v := nI 0) hX nd_Mo_mend_24 rfl ?_
    refine gw_istore hX nd_Mo_mend_25 (by decide) (L' := [(6, .int (nI 0)), (5, .int (nI (lb_at x 0))), (4, .int (nI 0)), (0, .ref m), (1, .int (nI j)), (2, .int x), (3, .int c)]) rfl ?_
    refine gw_cut (ks := [3, 4, 5, 6, 2, 1, 0]) (L' := [(0, .ref m), (1, .int (nI j)), (2, .int x), (3, .int c), (4, .int (nI 0)), (5, .int (nI (lb_at x 0))), (6, .int (nI 0))]) rfl ?_
    exact lp_Mo_mend m fm fb j hj ws hso hsl hmb wt x c z hcz hX hQ hr _ 0 0 σ rfl hws0 (by omega) h0 h2 h3 (by rw [mn_0]; exact h8) (gw_fr_rf _ _ _)
