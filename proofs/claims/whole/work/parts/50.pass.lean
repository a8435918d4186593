theorem md_mis {wt : Nat → Int} {ws : List px_W} (h : ¬ (ab_best wt ws 0).2 = se_c ws) : ct_ad (ct_ad wt 1 (ct_M (ab_sb ws) (lb_at (nI (se_c ws))) ws.length)) (-1) (ct_M (ab_sb ws) (lb_at (nI (ab_best wt ws 0).2)) ws.length) = ab_md wt ws := by
  unfold ab_md
  rw [if_neg h, ct_ad_same, ct_ad_same]
theorem md_eq {wt : Nat → Int} {ws : List px_W} (h : (ab_best wt ws 0).2 = se_c ws) : ab_md wt ws = wt := by
  unfold ab_md
  rw [if_pos h]
theorem tot_s {tt md : Nat → Int} {f : Nat → Int64} {k : Nat} (h : ∀ j, j < 148 → f j = iL (if j < k then tt j + md j else tt j)) (hk : k < 148) : ∀ j, j < 148 → vp_updL f k (f k + iL (md k)) j = iL (if j < k + 1 then tt j + md j else tt j) := by
  intro j hj
  simp only [vp_updL]
  by_cases e : j = k
  · subst e
    rw [if_pos rfl, h j hj, if_neg (by omega), if_pos (by omega), iL_add]
  · rw [if_neg e, h j hj]
    by_cases e2 : j < k
    · rw [if_pos e2, if_pos (by omega)]
    · rw [if_neg e2, if_neg (by omega)]
set_option maxRecDepth 100000 in
set_option maxHeartbeats 4000000 in
theorem lp_Mo_tot {X : gw_C} (m : Nat) (A B : ab_A) {rs be se kp kw : Int32} {bs s2 : Int64} {fm fb fl f5 f6 f7 f11 : Nat → Int32} {f10 f12 : Nat → Int64} (hz12 : f12 0 = iL 0) (k wr : Nat) (ws : List px_W) {σ0 : gw_S} (k4 : (∀ (be se : Int32) (bs s2 : Int64) (σ : gw_S), mw_at σ (gw_z X) m (ab_ls B ws).2 (nI 0) rs be se kp kw bs s2 fm fb fl → gw_fr σ0 σ m (m + 13) → gw_W X σ 0 0 4 [(0, .ref m), (1, .int (nI wr)), (2, .int (nI (k + 1)))] [])) (hX : gw_ok X nc_Mo_onePass "LabelLearnerModel" (5, 3, 77, 0, 0)) (hQ : X.2.2.2.2 = gw_end X (fun v σ' => v = some (.int (nI (ab_pass A).1)) ∧ mw σ' (gw_z X) m (ab_pass A).2 0 ∧ (∀ b, b < m ∨ m + 13 ≤ b → σ'.2 b = σ0.2 b)) 0 0) (hr : X.2.2.1.1.sig.returnType = (some .int)) : ∀ (u : Nat) (p : Nat) (f9 : Nat → Int64) (σ : gw_S), p + u = 148 → (∀ j, j < 148 → f9 j = iL (if j < p then B.tt j + ab_md B.wt ws j else B.tt j)) → σ.2 m = some (.inr (1, [.int (nI 0), .int (nI B.len), .ref (m + 1), .int (nI B.ss.length), .ref (m + 2), .ref (m + 3), .ref (m + 4), .int rs, .ref (m + 5), .ref (m + 6), .ref (m + 7), .ref (m + 8), .ref (m + 9), .int (nI B.mk), .int (nI B.ps), .ref (m + 10), .ref (m + 11), .ref (m + 12), .long bs, .long s2, .int be, .int se, .int kp, .int kw])) → σ.2 (m + 1) = some (gw_I (gw_z X) 240 (fun j => nI (B.ch j))) → σ.2 (m + 2) = some (gw_I (gw_z X) 9 fm) → σ.2 (m + 3) = some (gw_I (gw_z X) 162 fb) → σ.2 (m + 4) = some (gw_I (gw_z X) 54 fl) → σ.2 (m + 5) = some (gw_I (gw_z X) 9 f5) → σ.2 (m + 6) = some (gw_I (gw_z X) 162 f6) → σ.2 (m + 7) = some (gw_I (gw_z X) 54 f7) → σ.2 (m + 8) = some (gw_J (gw_z X) 148 (fun j => iL (ab_md B.wt ws j))) → σ.2 (m + 9) = some (gw_J (gw_z X) 148 f9) → σ.2 (m + 10) = some (gw_J (gw_z X) 24 f10) → σ.2 (m + 11) = some (gw_I (gw_z X) 6 f11) → σ.2 (m + 12) = some (gw_J (gw_z X) 7 f12) → gw_fr σ0 σ m (m + 13) → gw_W X σ 0 0 58 [(0, .ref m), (1, .int (nI wr)), (2, .int (nI k)), (4, .int (nI p))] [] := by
  intro u
  induction u using Nat.strongRecOn with
  | ind u ih =>
    intro p f9 σ
    intro hp hf h0 h1 h2 h3 h4 h5 h6 h7 h8 h9 h10 h11 h12 fr
    refine gw_iload hX nd_Mo_onePass_58 3 rfl ?_
    refine gw_sipush (v := nI 148) hX nd_Mo_onePass_60 rfl ?_
    refine gw_icmp_ge (tgt := 94) hX nd_Mo_onePass_63 rfl (fun hb => ?_) (fun hb => ?_)
    · have hb : 148 ≤ p := (nI_leI (a := 148) (b := p) (by omega) (by omega)).mp hb
      refine gw_extJ h9 (g := fun j => iL (B.tt j + ab_md B.wt ws j)) (fun j hj => by rw [hf j hj, if_pos (by omega)]) ?_
      obtain ⟨σ1, eσ1⟩ : ∃ hp_, hp_ = gw_up σ (m + 9) ((gw_J (gw_z X) 148 (fun j => iL (B.tt j + ab_md B.wt ws j)))) := ⟨_, rfl⟩
      refine gw_heap eσ1.symm ?_
      have h0 : σ1.2 m = some (.inr (1, [.int (nI 0), .int (nI B.len), .ref (m + 1), .int (nI B.ss.length), .ref (m + 2), .ref (m + 3), .ref (m + 4), .int rs, .ref (m + 5), .ref (m + 6), .ref (m + 7), .ref (m + 8), .ref (m + 9), .int (nI B.mk), .int (nI B.ps), .ref (m + 10), .ref (m + 11), .ref (m + 12), .long bs, .long s2, .int be, .int se, .int kp, .int kw])) := by rw [eσ1, gw_up_ne (by omega)]; exact h0
      have h1 : σ1.2 (m + 1) = some ((gw_I (gw_z X) 240 (fun j => nI (B.ch j)))) := by rw [eσ1, gw_up_ne (by omega)]; exact h1
      have h2 : σ1.2 (m + 2) = some ((gw_I (gw_z X) 9 fm)) := by rw [eσ1, gw_up_ne (by omega)]; exact h2
      have h3 : σ1.2 (m + 3) = some ((gw_I (gw_z X) 162 fb)) := by rw [eσ1, gw_up_ne (by omega)]; exact h3
      have h4 : σ1.2 (m + 4) = some ((gw_I (gw_z X) 54 fl)) := by rw [eσ1, gw_up_ne (by omega)]; exact h4
      have h5 : σ1.2 (m + 5) = some ((gw_I (gw_z X) 9 f5)) := by rw [eσ1, gw_up_ne (by omega)]; exact h5
      have h6 : σ1.2 (m + 6) = some ((gw_I (gw_z X) 162 f6)) := by rw [eσ1, gw_up_ne (by omega)]; exact h6
      have h7 : σ1.2 (m + 7) = some ((gw_I (gw_z X) 54 f7)) := by rw [eσ1, gw_up_ne (by omega)]; exact h7
      have h8 : σ1.2 (m + 8) = some ((gw_J (gw_z X) 148 (fun j => iL (ab_md B.wt ws j)))) := by rw [eσ1, gw_up_ne (by omega)]; exact h8
      have h9 : σ1.2 (m + 9) = some ((gw_J (gw_z X) 148 (fun j => iL (B.tt j + ab_md B.wt ws j)))) := by rw [eσ1]; exact gw_up_eq _ _ _
      have h10 : σ1.2 (m + 10) = some ((gw_J (gw_z X) 24 f10)) := by rw [eσ1, gw_up_ne (by omega)]; exact h10
      have h11 : σ1.2 (m + 11) = some ((gw_I (gw_z X) 6 f11)) := by rw [eσ1, gw_up_ne (by omega)]; exact h11
      have h12 : σ1.2 (m + 12) = some ((gw_J (gw_z X) 7 f12)) := by rw [eσ1, gw_up_ne (by omega)]; exact h12
      have fr : gw_fr σ0 σ1 m (m + 13) := gw_fr_tr fr (show gw_fr _ σ1 m (m + 13) by rw [eσ1]; exact gw_fr_up _ _ _ (by omega) (by omega))
      refine gw_iinc hX nd_Mo_onePass_94 2 rfl (v := nI (k + 1)) (show nI k + nI 1 = nI (k + 1) from nI_add _ _) (by decide) (L' := [(2, .int (nI (k + 1))), (0, .ref m), (1, .int (nI wr)), (4, .int (nI p))]) rfl ?_
      refine gw_goto (tgt := 4) hX nd_Mo_onePass_97 rfl ?_
      refine gw_cut (ks := [1, 2, 0]) (L' := [(0, .ref m), (1, .int (nI wr)), (2, .int (nI (k + 1)))]) rfl ?_
      exact k4 be se bs s2 _ ⟨h0, h1, h2, h3, h4, ⟨_, h5⟩, ⟨_, h6⟩, ⟨_, h7⟩, h8, h9, ⟨_, h10⟩, ⟨_, h11⟩, ⟨_, h12, hz12⟩⟩ fr
    · have hb : ¬ 148 ≤ p := fun h => hb ((nI_leI (a := 148) (b := p) (by omega) (by omega)).mpr h)
      refine gw_aload_n hX nd_Mo_onePass_66 rfl 0 rfl ?_
      refine gw_get hX kf_Mo_35 nd_Mo_onePass_67 h0 rfl ?_
      refine gw_iload hX nd_Mo_onePass_70 3 rfl ?_
      refine gw_aload_n hX nd_Mo_onePass_72 rfl 0 rfl ?_
      refine gw_get hX kf_Mo_35 nd_Mo_onePass_73 h0 rfl ?_
      refine gw_iload hX nd_Mo_onePass_76 3 rfl ?_
      refine gw_lald hX nd_Mo_onePass_78 h9 p rfl (by omega) (by decide) ?_
      refine gw_topl (y := f9 p) rfl ?_
      refine gw_aload_n hX nd_Mo_onePass_79 rfl 0 rfl ?_
      refine gw_get hX kf_Mo_31 nd_Mo_onePass_80 h0 rfl ?_
      refine gw_iload hX nd_Mo_onePass_83 3 rfl ?_
      refine gw_lald hX nd_Mo_onePass_85 h8 p rfl (by omega) (by decide) ?_
      refine gw_topl (y := iL (ab_md B.wt ws p)) rfl ?_
      refine gw_ladd hX nd_Mo_onePass_86 ?_
      refine gw_last hX nd_Mo_onePass_87 h9 p rfl (by omega) (by decide) ?_
      obtain ⟨σ2, eσ2⟩ : ∃ hp_, hp_ = gw_up σ (m + 9) ((gw_J (gw_z X) 148 (vp_updL f9 p ((f9 p) + (iL (ab_md B.wt ws p)))))) := ⟨_, rfl⟩
      refine gw_heap eσ2.symm ?_
      have h0 : σ2.2 m = some (.inr (1, [.int (nI 0), .int (nI B.len), .ref (m + 1), .int (nI B.ss.length), .ref (m + 2), .ref (m + 3), .ref (m + 4), .int rs, .ref (m + 5), .ref (m + 6), .ref (m + 7), .ref (m + 8), .ref (m + 9), .int (nI B.mk), .int (nI B.ps), .ref (m + 10), .ref (m + 11), .ref (m + 12), .long bs, .long s2, .int be, .int se, .int kp, .int kw])) := by rw [eσ2, gw_up_ne (by omega)]; exact h0
      have h1 : σ2.2 (m + 1) = some ((gw_I (gw_z X) 240 (fun j => nI (B.ch j)))) := by rw [eσ2, gw_up_ne (by omega)]; exact h1
      have h2 : σ2.2 (m + 2) = some ((gw_I (gw_z X) 9 fm)) := by rw [eσ2, gw_up_ne (by omega)]; exact h2
      have h3 : σ2.2 (m + 3) = some ((gw_I (gw_z X) 162 fb)) := by rw [eσ2, gw_up_ne (by omega)]; exact h3
      have h4 : σ2.2 (m + 4) = some ((gw_I (gw_z X) 54 fl)) := by rw [eσ2, gw_up_ne (by omega)]; exact h4
      have h5 : σ2.2 (m + 5) = some ((gw_I (gw_z X) 9 f5)) := by rw [eσ2, gw_up_ne (by omega)]; exact h5
      have h6 : σ2.2 (m + 6) = some ((gw_I (gw_z X) 162 f6)) := by rw [eσ2, gw_up_ne (by omega)]; exact h6
      have h7 : σ2.2 (m + 7) = some ((gw_I (gw_z X) 54 f7)) := by rw [eσ2, gw_up_ne (by omega)]; exact h7
      have h8 : σ2.2 (m + 8) = some ((gw_J (gw_z X) 148 (fun j => iL (ab_md B.wt ws j)))) := by rw [eσ2, gw_up_ne (by omega)]; exact h8
      have h9 : σ2.2 (m + 9) = some ((gw_J (gw_z X) 148 (vp_updL f9 p ((f9 p) + (iL (ab_md B.wt ws p)))))) := by rw [eσ2]; exact gw_up_eq _ _ _
      have h10 : σ2.2 (m + 10) = some ((gw_J (gw_z X) 24 f10)) := by rw [eσ2, gw_up_ne (by omega)]; exact h10
      have h11 : σ2.2 (m + 11) = some ((gw_I (gw_z X) 6 f11)) := by rw [eσ2, gw_up_ne (by omega)]; exact h11
      have h12 : σ2.2 (m + 12) = some ((gw_J (gw_z X) 7 f12)) := by rw [eσ2, gw_up_ne (by omega)]; exact h12
      have fr : gw_fr σ0 σ2 m (m + 13) := gw_fr_tr fr (show gw_fr _ σ2 m (m + 13) by rw [eσ2]; exact gw_fr_up _ _ _ (by omega) (by omega))
      refine gw_iinc hX nd_Mo_onePass_88 3 rfl (v := nI (p + 1)) (show nI p + nI 1 = nI (p + 1) from nI_add _ _) (by decide) (L' := [(4, .int (nI (p + 1))), (0, .ref m), (1, .int (nI wr)), (2, .int (nI k))]) rfl ?_
      refine gw_goto (tgt := 58) hX nd_Mo_onePass_91 rfl ?_
      refine gw_cut (ks := [1, 2, 3, 0]) (L' := [(0, .ref m), (1, .int (nI wr)), (2, .int (nI k)), (4, .int (nI (p + 1)))]) rfl ?_
      exact ih (u - 1) (by omega) (p + 1) _ _ (by omega) (tot_s hf (by omega)) h0 h1 h2 h3 h4 h5 h6 h7 h8 h9 h10 h11 h12 fr
theorem mw_ok_eq {A B : ab_A} {kp kw : Int32} {fm fb fl : Nat → Int32} (h : mw_ok A kp kw fm fb fl) (e : ab_eq A B) {k : Nat} : mw_ok (ab_cnt B k) kp kw fm fb fl := by
  obtain ⟨a1, a2, a3, a4, a5⟩ := A
  obtain ⟨b1, b2, b3, b4, b5⟩ := B
  obtain ⟨-, e2, e3⟩ := e
  simp only at e2 e3
  subst e2 e3
  exact h
set_option maxRecDepth 100000 in
set_option maxHeartbeats 4000000 in
theorem lp_Mo_pass {X : gw_C} (m : Nat) (A : ab_A) (hA : ab_ok A) {rs kp kw : Int32} {fm fb fl : Nat → Int32} (hO : mw_ok A kp kw fm fb fl) (N : Nat) (hbd : ab_bd A N) (hN : N + 8 ≤ 100000) {σ0 : gw_S} (hX : gw_ok X nc_Mo_onePass "LabelLearnerModel" (5, 3, 77, 0, 0)) (hQ : X.2.2.2.2 = gw_end X (fun v σ' => v = some (.int (nI (ab_pass A).1)) ∧ mw σ' (gw_z X) m (ab_pass A).2 0 ∧ (∀ b, b < m ∨ m + 13 ≤ b → σ'.2 b = σ0.2 b)) 0 0) (hr : X.2.2.1.1.sig.returnType = (some .int)) : ∀ (u : Nat) (k wr : Nat) (B : ab_A) (be se : Int32) (bs s2 : Int64) (σ : gw_S), ab_run A k = (wr, B) → k + u = A.ss.length → mw_at σ (gw_z X) m B (nI 0) rs be se kp kw bs s2 fm fb fl → gw_fr σ0 σ m (m + 13) → gw_W X σ 0 0 4 [(0, .ref m), (1, .int (nI wr)), (2, .int (nI k))] [] := by
  intro u
  induction u using Nat.strongRecOn with
  | ind u ih =>
    intro k wr B be se bs s2 σ
    intro hrun hkm hM fr
    have hBe : B = (ab_run A k).2 := by rw [hrun]
    have hBq : ab_eq A B := by rw [hBe]; exact ab_eq_run A k
    have hss : B.ss = A.ss := ab_eq_ss hBq
    have hl9 : B.ss.length = A.ss.length := by rw [hss]
    have hkl : k ≤ A.ss.length := by omega
    have hwr : wr ≤ k := by have := ab_run_le A k hkl; rw [hrun] at this; exact this
    have hbB : ab_bd B (N + k) := by rw [hBe]; exact ab_bd_run hbd (fun ws hw => (hA.2.2.2.1 ws hw).1.2) k hkl
    have hl8 := hA.2.2.1
    obtain ⟨h0, h1, h2, h3, h4, ⟨f5, h5⟩, ⟨f6, h6⟩, ⟨f7, h7⟩, h8, h9, ⟨f10, h10⟩, ⟨f11, h11⟩, ⟨f12, h12, hz12⟩⟩ := id hM
    refine gw_iload_n hX nd_Mo_onePass_4 rfl 2 rfl ?_
    refine gw_aload_n hX nd_Mo_onePass_5 rfl 0 rfl ?_
    refine gw_get hX kf_Mo_89 nd_Mo_onePass_6 h0 rfl ?_
    refine gw_icmp_ge (tgt := 100) hX nd_Mo_onePass_9 rfl (fun hb => ?_) (fun hb => ?_)
    · have hb : B.ss.length ≤ k := (nI_leI (a := B.ss.length) (b := k) (by omega) (by omega)).mp hb
      have hke : k = A.ss.length := by omega
      have hp : ab_pass A = (wr, ab_cnt B wr) := by unfold ab_pass; rw [← hke, hrun]
      refine gw_aload_n hX nd_Mo_onePass_100 rfl 0 rfl ?_
      refine gw_dup hX nd_Mo_onePass_101 rfl ?_
      refine gw_get hX kf_Mo_99 nd_Mo_onePass_102 h0 rfl ?_
      refine gw_iconst (v := nI 1) hX nd_Mo_onePass_105 rfl ?_
      refine gw_iadd hX nd_Mo_onePass_106 ?_
      refine gw_topi (y := nI (B.ps + 1)) (nI_add _ _) ?_
      refine gw_put hX kf_Mo_99 nd_Mo_onePass_107 h0 rfl rfl (Nat.le_of_ble_eq_true rfl) (e' := .inr (1, [.int (nI 0), .int (nI B.len), .ref (m + 1), .int (nI B.ss.length), .ref (m + 2), .ref (m + 3), .ref (m + 4), .int rs, .ref (m + 5), .ref (m + 6), .ref (m + 7), .ref (m + 8), .ref (m + 9), .int (nI B.mk), .int (nI (B.ps + 1)), .ref (m + 10), .ref (m + 11), .ref (m + 12), .long bs, .long s2, .int be, .int se, .int kp, .int kw])) rfl ?_
      obtain ⟨σ1, eσ1⟩ : ∃ hp_, hp_ = gw_up σ m (.inr (1, [.int (nI 0), .int (nI B.len), .ref (m + 1), .int (nI B.ss.length), .ref (m + 2), .ref (m + 3), .ref (m + 4), .int rs, .ref (m + 5), .ref (m + 6), .ref (m + 7), .ref (m + 8), .ref (m + 9), .int (nI B.mk), .int (nI (B.ps + 1)), .ref (m + 10), .ref (m + 11), .ref (m + 12), .long bs, .long s2, .int be, .int se, .int kp, .int kw])) := ⟨_, rfl⟩
      refine gw_heap eσ1.symm ?_
      have h0 : σ1.2 m = some (.inr (1, [.int (nI 0), .int (nI B.len), .ref (m + 1), .int (nI B.ss.length), .ref (m + 2), .ref (m + 3), .ref (m + 4), .int rs, .ref (m + 5), .ref (m + 6), .ref (m + 7), .ref (m + 8), .ref (m + 9), .int (nI B.mk), .int (nI (B.ps + 1)), .ref (m + 10), .ref (m + 11), .ref (m + 12), .long bs, .long s2, .int be, .int se, .int kp, .int kw])) := by rw [eσ1]; exact gw_up_eq _ _ _
      have h1 : σ1.2 (m + 1) = some ((gw_I (gw_z X) 240 (fun j => nI (B.ch j)))) := by rw [eσ1, gw_up_ne (by omega)]; exact h1
      have h2 : σ1.2 (m + 2) = some ((gw_I (gw_z X) 9 fm)) := by rw [eσ1, gw_up_ne (by omega)]; exact h2
      have h3 : σ1.2 (m + 3) = some ((gw_I (gw_z X) 162 fb)) := by rw [eσ1, gw_up_ne (by omega)]; exact h3
      have h4 : σ1.2 (m + 4) = some ((gw_I (gw_z X) 54 fl)) := by rw [eσ1, gw_up_ne (by omega)]; exact h4
      have h5 : σ1.2 (m + 5) = some ((gw_I (gw_z X) 9 f5)) := by rw [eσ1, gw_up_ne (by omega)]; exact h5
      have h6 : σ1.2 (m + 6) = some ((gw_I (gw_z X) 162 f6)) := by rw [eσ1, gw_up_ne (by omega)]; exact h6
      have h7 : σ1.2 (m + 7) = some ((gw_I (gw_z X) 54 f7)) := by rw [eσ1, gw_up_ne (by omega)]; exact h7
      have h8 : σ1.2 (m + 8) = some ((gw_J (gw_z X) 148 (fun j => iL (B.wt j)))) := by rw [eσ1, gw_up_ne (by omega)]; exact h8
      have h9 : σ1.2 (m + 9) = some ((gw_J (gw_z X) 148 (fun j => iL (B.tt j)))) := by rw [eσ1, gw_up_ne (by omega)]; exact h9
      have h10 : σ1.2 (m + 10) = some ((gw_J (gw_z X) 24 f10)) := by rw [eσ1, gw_up_ne (by omega)]; exact h10
      have h11 : σ1.2 (m + 11) = some ((gw_I (gw_z X) 6 f11)) := by rw [eσ1, gw_up_ne (by omega)]; exact h11
      have h12 : σ1.2 (m + 12) = some ((gw_J (gw_z X) 7 f12)) := by rw [eσ1, gw_up_ne (by omega)]; exact h12
      have fr : gw_fr σ0 σ1 m (m + 13) := gw_fr_tr fr (show gw_fr _ σ1 m (m + 13) by rw [eσ1]; exact gw_fr_up _ _ _ (by omega) (by omega))
      refine gw_aload_n hX nd_Mo_onePass_110 rfl 0 rfl ?_
      refine gw_aload_n hX nd_Mo_onePass_111 rfl 0 rfl ?_
      refine gw_get hX kf_Mo_96 nd_Mo_onePass_112 h0 rfl ?_
      refine gw_iload_n hX nd_Mo_onePass_115 rfl 1 rfl ?_
      refine gw_iadd hX nd_Mo_onePass_116 ?_
      refine gw_topi (y := nI (B.mk + wr)) (nI_add _ _) ?_
      refine gw_put hX kf_Mo_96 nd_Mo_onePass_117 h0 rfl rfl (Nat.le_of_ble_eq_true rfl) (e' := .inr (1, [.int (nI 0), .int (nI B.len), .ref (m + 1), .int (nI B.ss.length), .ref (m + 2), .ref (m + 3), .ref (m + 4), .int rs, .ref (m + 5), .ref (m + 6), .ref (m + 7), .ref (m + 8), .ref (m + 9), .int (nI (B.mk + wr)), .int (nI (B.ps + 1)), .ref (m + 10), .ref (m + 11), .ref (m + 12), .long bs, .long s2, .int be, .int se, .int kp, .int kw])) rfl ?_
      obtain ⟨σ2, eσ2⟩ : ∃ hp_, hp_ = gw_up σ1 m (.inr (1, [.int (nI 0), .int (nI B.len), .ref (m + 1), .int (nI B.ss.length), .ref (m + 2), .ref (m + 3), .ref (m + 4), .int rs, .ref (m + 5), .ref (m + 6), .ref (m + 7), .ref (m + 8), .ref (m + 9), .int (nI (B.mk + wr)), .int (nI (B.ps + 1)), .ref (m + 10), .ref (m + 11), .ref (m + 12), .long bs, .long s2, .int be, .int se, .int kp, .int kw])) := ⟨_, rfl⟩
      refine gw_heap eσ2.symm ?_
      have h0 : σ2.2 m = some (.inr (1, [.int (nI 0), .int (nI B.len), .ref (m + 1), .int (nI B.ss.length), .ref (m + 2), .ref (m + 3), .ref (m + 4), .int rs, .ref (m + 5), .ref (m + 6), .ref (m + 7), .ref (m + 8), .ref (m + 9), .int (nI (B.mk + wr)), .int (nI (B.ps + 1)), .ref (m + 10), .ref (m + 11), .ref (m + 12), .long bs, .long s2, .int be, .int se, .int kp, .int kw])) := by rw [eσ2]; exact gw_up_eq _ _ _
      have h1 : σ2.2 (m + 1) = some ((gw_I (gw_z X) 240 (fun j => nI (B.ch j)))) := by rw [eσ2, gw_up_ne (by omega)]; exact h1
      have h2 : σ2.2 (m + 2) = some ((gw_I (gw_z X) 9 fm)) := by rw [eσ2, gw_up_ne (by omega)]; exact h2
      have h3 : σ2.2 (m + 3) = some ((gw_I (gw_z X) 162 fb)) := by rw [eσ2, gw_up_ne (by omega)]; exact h3
      have h4 : σ2.2 (m + 4) = some ((gw_I (gw_z X) 54 fl)) := by rw [eσ2, gw_up_ne (by omega)]; exact h4
      have h5 : σ2.2 (m + 5) = some ((gw_I (gw_z X) 9 f5)) := by rw [eσ2, gw_up_ne (by omega)]; exact h5
      have h6 : σ2.2 (m + 6) = some ((gw_I (gw_z X) 162 f6)) := by rw [eσ2, gw_up_ne (by omega)]; exact h6
      have h7 : σ2.2 (m + 7) = some ((gw_I (gw_z X) 54 f7)) := by rw [eσ2, gw_up_ne (by omega)]; exact h7
      have h8 : σ2.2 (m + 8) = some ((gw_J (gw_z X) 148 (fun j => iL (B.wt j)))) := by rw [eσ2, gw_up_ne (by omega)]; exact h8
      have h9 : σ2.2 (m + 9) = some ((gw_J (gw_z X) 148 (fun j => iL (B.tt j)))) := by rw [eσ2, gw_up_ne (by omega)]; exact h9
      have h10 : σ2.2 (m + 10) = some ((gw_J (gw_z X) 24 f10)) := by rw [eσ2, gw_up_ne (by omega)]; exact h10
      have h11 : σ2.2 (m + 11) = some ((gw_I (gw_z X) 6 f11)) := by rw [eσ2, gw_up_ne (by omega)]; exact h11
      have h12 : σ2.2 (m + 12) = some ((gw_J (gw_z X) 7 f12)) := by rw [eσ2, gw_up_ne (by omega)]; exact h12
      have fr : gw_fr σ0 σ2 m (m + 13) := gw_fr_tr fr (show gw_fr _ σ2 m (m + 13) by rw [eσ2]; exact gw_fr_up _ _ _ (by omega) (by omega))
      refine gw_iload_n hX nd_Mo_onePass_120 rfl 1 rfl ?_
      exact gw_iret hX hQ hr nd_Mo_onePass_121 (by decide) (by decide) ⟨by rw [hp], by rw [hp]; exact ⟨_, _, _, _, _, _, _, _, _, _, ⟨h0, h1, h2, h3, h4, ⟨_, h5⟩, ⟨_, h6⟩, ⟨_, h7⟩, h8, h9, ⟨_, h10⟩, ⟨_, h11⟩, ⟨_, h12, hz12⟩⟩, mw_ok_eq hO hBq⟩, (fun b hb9 => fr.2 b (by omega))⟩
    · have hb : ¬ B.ss.length ≤ k := fun h => hb ((nI_leI (a := B.ss.length) (b := k) (by omega) (by omega)).mpr h)
      have hk8 : k < A.ss.length := by omega
      obtain ⟨ws, hws⟩ : ∃ ws, ws = A.ss[k] := ⟨_, rfl⟩
      obtain ⟨hmb, hml⟩ := hO.1 k _ (List.getElem?_eq_getElem hk8)
      obtain ⟨⟨hso, hsl6⟩, hne⟩ := hA.2.2.2.1 _ (List.getElem_mem hk8)
      rw [← hws] at hmb hml hso hsl6 hne
      have hws0 := List.length_pos_iff.mpr hne
      have hB : dc_B B.wt := ab_bd_B hbB (by omega) 0
      have hc4 := se_c_6 hso hsl6
      have hb4 := ab_best_6 (wt := B.wt) hne hsl6 (j := 0) (by decide)
      refine gw_aload_n hX nd_Mo_onePass_12 rfl 0 rfl ?_
      refine gw_iload_n hX nd_Mo_onePass_13 rfl 2 rfl ?_
      refine gw_aload_n hX nd_Mo_onePass_14 rfl 0 rfl ?_
      refine gw_get hX kf_Mo_31 nd_Mo_onePass_15 h0 rfl ?_
      refine gw_callV (rest := []) hX ks_Mo_136 (ct_Mo_search _ _ _ σ m (m + 8) (by omega) (by omega) fm fb k (by omega) ws hso hsl6 hne hmb B.wt hB h0 h2 h3 h8 f10 h10 f11 h11 f12 h12 hz12) h0 rfl rfl (Nat.le_of_ble_eq_true rfl) nd_Mo_onePass_18 (by decide) ?_
      rintro _ σ3 ⟨rfl, h0, h10, h11, h12, hf9⟩
      have hM2 := mw_srch hM h0 h10 h11 h12 hf9
      have fr := gw_fr_tr (lo := m) (hi := m + 13) fr (gw_fr_f2 hf9)
      clear h0 h10 h11 h12
      obtain ⟨h0, h1, h2, h3, h4, ⟨f5, h5⟩, ⟨f6, h6⟩, ⟨f7, h7⟩, h8, h9, ⟨f10, h10⟩, ⟨f11, h11⟩, ⟨f12, h12, hz12⟩⟩ := id hM2
      show gw_W X σ3 0 0 21 [(0, .ref m), (1, .int (nI wr)), (2, .int (nI k))] []
      refine gw_aload_n hX nd_Mo_onePass_21 rfl 0 rfl ?_
      refine gw_iload_n hX nd_Mo_onePass_22 rfl 2 rfl ?_
      refine gw_callV (rest := []) hX ks_Mo_139 (ct_Mo_givenRow _ _ _ _ m h0 fm fl h2 h4 k (by omega) ws hso hsl6 hmb.1 hml) h0 rfl rfl (Nat.le_of_ble_eq_true rfl) nd_Mo_onePass_23 (by decide) ?_
      rintro v_ s_ ⟨hv_, hs_⟩
      have hs_ := hs_.symm
      subst hs_ hv_
      show gw_W X σ3 0 0 26 [(0, .ref m), (1, .int (nI wr)), (2, .int (nI k))] [.int (nI (se_c ws))]
      refine gw_istore_n hX nd_Mo_onePass_26 rfl (by decide) (L' := [(3, .int (nI (se_c ws))), (0, .ref m), (1, .int (nI wr)), (2, .int (nI k))]) rfl ?_
      refine gw_aload_n hX nd_Mo_onePass_27 rfl 1 rfl ?_
      refine gw_get hX kf_Mo_124 nd_Mo_onePass_28 h0 rfl ?_
      refine gw_iload_n hX nd_Mo_onePass_31 rfl 0 rfl ?_
      refine gw_icmp_eq (tgt := 55) hX nd_Mo_onePass_32 rfl (fun hb => ?_) (fun hb => ?_)
      · have hb : (ab_best B.wt ws 0).2 = se_c ws := (nI_eq (a := (ab_best B.wt ws 0).2) (b := se_c ws) (by omega) (by omega)).mp hb
        have hmd : ab_md B.wt ws = B.wt := md_eq hb
        have hmis : wr + ab_mis B.wt ws = wr := by unfold ab_mis; rw [if_pos hb, Nat.add_zero]
        refine gw_iconst (v := nI 0) hX nd_Mo_onePass_55 rfl ?_
        refine gw_istore hX nd_Mo_onePass_56 (by decide) (L' := [(4, .int (nI 0)), (3, .int (nI (se_c ws))), (0, .ref m), (1, .int (nI wr)), (2, .int (nI k))]) rfl ?_
        refine gw_cut (ks := [2, 3, 4, 0]) (L' := [(0, .ref m), (1, .int (nI wr)), (2, .int (nI k)), (4, .int (nI 0))]) rfl ?_
        exact lp_Mo_tot m A B hz12 k (wr) ws (fun be se bs s2 σ hM fr => ih (u - 1) (by omega) (k + 1) (wr) (ab_ls B ws).2 be se bs s2 σ (by rw [ab_run_s hk8, hrun, ← hws]; show (wr + ab_mis B.wt ws, _) = _; rw [hmis]) (by omega) hM fr) hX hQ hr 148 0 _ _ (by omega) (fun j hj => by rw [if_neg (by omega)]) h0 h1 h2 h3 h4 h5 h6 h7 (by rw [hmd]; exact h8) h9 h10 h11 h12 fr
      · have hb : ¬ (ab_best B.wt ws 0).2 = se_c ws := fun h => hb ((nI_eq (a := (ab_best B.wt ws 0).2) (b := se_c ws) (by omega) (by omega)).mpr h)
        have hne9 := hb
        have hmis : wr + ab_mis B.wt ws = wr + 1 := by unfold ab_mis; rw [if_neg hb]
        have hmd := (md_mis hb).symm
        refine gw_iinc hX nd_Mo_onePass_35 2 rfl (v := nI (wr + 1)) (show nI wr + nI 1 = nI (wr + 1) from nI_add _ _) (by decide) (L' := [(1, .int (nI (wr + 1))), (3, .int (nI (se_c ws))), (0, .ref m), (2, .int (nI k))]) rfl ?_
        refine gw_aload_n hX nd_Mo_onePass_38 rfl 2 rfl ?_
        refine gw_iload_n hX nd_Mo_onePass_39 rfl 3 rfl ?_
        refine gw_iload_n hX nd_Mo_onePass_40 rfl 1 rfl ?_
        refine gw_iconst (v := nI 1) hX nd_Mo_onePass_41 rfl ?_
        refine gw_callV (rest := []) hX ks_Mo_142 (ct_Mo_mend _ _ _ _ m fm fb k (by omega) ws hso hsl6 hmb (B.wt) (nI (se_c ws)) (nI 1) (1) (by decide) hws0 h0 h2 h3 h8) h0 rfl rfl (Nat.le_of_ble_eq_true rfl) nd_Mo_onePass_42 (by decide) ?_
        rintro _ σ4 ⟨rfl, h8, hf9⟩
        have h0 : σ4.2 m = some (.inr (1, [.int (nI 0), .int (nI B.len), .ref (m + 1), .int (nI B.ss.length), .ref (m + 2), .ref (m + 3), .ref (m + 4), .int rs, .ref (m + 5), .ref (m + 6), .ref (m + 7), .ref (m + 8), .ref (m + 9), .int (nI B.mk), .int (nI B.ps), .ref (m + 10), .ref (m + 11), .ref (m + 12), .long (iL (ab_best B.wt ws 0).1), .long (iL (ab_best B.wt ws 1).1), .int (nI ((ab_best B.wt ws 0).2)), .int (nI ((ab_best B.wt ws 1).2)), .int kp, .int kw])) := (hf9.2 m (by omega)).trans h0
        have h1 : σ4.2 (m + 1) = some ((gw_I (gw_z X) 240 (fun j => nI (B.ch j)))) := (hf9.2 (m + 1) (by omega)).trans h1
        have h2 : σ4.2 (m + 2) = some ((gw_I (gw_z X) 9 fm)) := (hf9.2 (m + 2) (by omega)).trans h2
        have h3 : σ4.2 (m + 3) = some ((gw_I (gw_z X) 162 fb)) := (hf9.2 (m + 3) (by omega)).trans h3
        have h4 : σ4.2 (m + 4) = some ((gw_I (gw_z X) 54 fl)) := (hf9.2 (m + 4) (by omega)).trans h4
        have h5 : σ4.2 (m + 5) = some ((gw_I (gw_z X) 9 f5)) := (hf9.2 (m + 5) (by omega)).trans h5
        have h6 : σ4.2 (m + 6) = some ((gw_I (gw_z X) 162 f6)) := (hf9.2 (m + 6) (by omega)).trans h6
        have h7 : σ4.2 (m + 7) = some ((gw_I (gw_z X) 54 f7)) := (hf9.2 (m + 7) (by omega)).trans h7
        have h9 : σ4.2 (m + 9) = some ((gw_J (gw_z X) 148 (fun j => iL (B.tt j)))) := (hf9.2 (m + 9) (by omega)).trans h9
        have h10 : σ4.2 (m + 10) = some ((gw_J (gw_z X) 24 f10)) := (hf9.2 (m + 10) (by omega)).trans h10
        have h11 : σ4.2 (m + 11) = some ((gw_I (gw_z X) 6 f11)) := (hf9.2 (m + 11) (by omega)).trans h11
        have h12 : σ4.2 (m + 12) = some ((gw_J (gw_z X) 7 f12)) := (hf9.2 (m + 12) (by omega)).trans h12
        have fr : gw_fr σ0 σ4 m (m + 13) := gw_fr_tr fr hf9
        show gw_W X σ4 0 0 45 [(1, .int (nI (wr + 1))), (3, .int (nI (se_c ws))), (0, .ref m), (2, .int (nI k))] []
        refine gw_aload_n hX nd_Mo_onePass_45 rfl 2 rfl ?_
        refine gw_iload_n hX nd_Mo_onePass_46 rfl 3 rfl ?_
        refine gw_aload_n hX nd_Mo_onePass_47 rfl 2 rfl ?_
        refine gw_get hX kf_Mo_124 nd_Mo_onePass_48 h0 rfl ?_
        refine gw_iconst (v := (-1)) hX nd_Mo_onePass_51 rfl ?_
        refine gw_callV (rest := []) hX ks_Mo_142 (ct_Mo_mend _ _ _ _ m fm fb k (by omega) ws hso hsl6 hmb (ct_ad B.wt 1 (ct_M (ab_sb ws) (lb_at (nI (se_c ws))) ws.length)) (nI (ab_best B.wt ws 0).2) (-1) (-1) (by decide) hws0 h0 h2 h3 h8) h0 rfl rfl (Nat.le_of_ble_eq_true rfl) nd_Mo_onePass_52 (by decide) ?_
        rintro _ σ5 ⟨rfl, h8, hf9⟩
        have h0 : σ5.2 m = some (.inr (1, [.int (nI 0), .int (nI B.len), .ref (m + 1), .int (nI B.ss.length), .ref (m + 2), .ref (m + 3), .ref (m + 4), .int rs, .ref (m + 5), .ref (m + 6), .ref (m + 7), .ref (m + 8), .ref (m + 9), .int (nI B.mk), .int (nI B.ps), .ref (m + 10), .ref (m + 11), .ref (m + 12), .long (iL (ab_best B.wt ws 0).1), .long (iL (ab_best B.wt ws 1).1), .int (nI ((ab_best B.wt ws 0).2)), .int (nI ((ab_best B.wt ws 1).2)), .int kp, .int kw])) := (hf9.2 m (by omega)).trans h0
        have h1 : σ5.2 (m + 1) = some ((gw_I (gw_z X) 240 (fun j => nI (B.ch j)))) := (hf9.2 (m + 1) (by omega)).trans h1
        have h2 : σ5.2 (m + 2) = some ((gw_I (gw_z X) 9 fm)) := (hf9.2 (m + 2) (by omega)).trans h2
        have h3 : σ5.2 (m + 3) = some ((gw_I (gw_z X) 162 fb)) := (hf9.2 (m + 3) (by omega)).trans h3
        have h4 : σ5.2 (m + 4) = some ((gw_I (gw_z X) 54 fl)) := (hf9.2 (m + 4) (by omega)).trans h4
        have h5 : σ5.2 (m + 5) = some ((gw_I (gw_z X) 9 f5)) := (hf9.2 (m + 5) (by omega)).trans h5
        have h6 : σ5.2 (m + 6) = some ((gw_I (gw_z X) 162 f6)) := (hf9.2 (m + 6) (by omega)).trans h6
        have h7 : σ5.2 (m + 7) = some ((gw_I (gw_z X) 54 f7)) := (hf9.2 (m + 7) (by omega)).trans h7
        have h9 : σ5.2 (m + 9) = some ((gw_J (gw_z X) 148 (fun j => iL (B.tt j)))) := (hf9.2 (m + 9) (by omega)).trans h9
        have h10 : σ5.2 (m + 10) = some ((gw_J (gw_z X) 24 f10)) := (hf9.2 (m + 10) (by omega)).trans h10
        have h11 : σ5.2 (m + 11) = some ((gw_I (gw_z X) 6 f11)) := (hf9.2 (m + 11) (by omega)).trans h11
        have h12 : σ5.2 (m + 12) = some ((gw_J (gw_z X) 7 f12)) := (hf9.2 (m + 12) (by omega)).trans h12
        have fr : gw_fr σ0 σ5 m (m + 13) := gw_fr_tr fr hf9
        show gw_W X σ5 0 0 55 [(1, .int (nI (wr + 1))), (3, .int (nI (se_c ws))), (0, .ref m), (2, .int (nI k))] []
        refine gw_iconst (v := nI 0) hX nd_Mo_onePass_55 rfl ?_
        refine gw_istore hX nd_Mo_onePass_56 (by decide) (L' := [(4, .int (nI 0)), (1, .int (nI (wr + 1))), (3, .int (nI (se_c ws))), (0, .ref m), (2, .int (nI k))]) rfl ?_
        refine gw_cut (ks := [3, 1, 4, 0]) (L' := [(0, .ref m), (1, .int (nI (wr + 1))), (2, .int (nI k)), (4, .int (nI 0))]) rfl ?_
        exact lp_Mo_tot m A B hz12 k (wr + 1) ws (fun be se bs s2 σ hM fr => ih (u - 1) (by omega) (k + 1) (wr + 1) (ab_ls B ws).2 be se bs s2 σ (by rw [ab_run_s hk8, hrun, ← hws]; show (wr + ab_mis B.wt ws, _) = _; rw [hmis]) (by omega) hM fr) hX hQ hr 148 0 _ _ (by omega) (fun j hj => by rw [if_neg (by omega)]) h0 h1 h2 h3 h4 h5 h6 h7 (by rw [hmd]; exact h8) h9 h10 h11 h12 fr
set_option maxRecDepth 100000 in
set_option maxHeartbeats 4000000 in
theorem ct_Mo_onePass (l : Launch) (Z : gw_Z) (b0 : Nat) (σ : gw_S) (m : Nat) (A : ab_A) (hA : ab_ok A) {rs be se kp kw : Int32} {bs s2 : Int64} {fm fb fl : Nat → Int32} (hM : mw_at σ Z m A (nI 0) rs be se kp kw bs s2 fm fb fl) (hO : mw_ok A kp kw fm fb fl) (N : Nat) (hbd : ab_bd A N) (hN : N + 8 ≤ 100000) : gw_M l ny_Mo_onePass nc_Mo_onePass (5, 3, 77, 0, 0) (some .int) Z b0 σ [.ref m] (fun v σ' => v = some (.int (nI (ab_pass A).1)) ∧ mw σ' Z m (ab_pass A).2 0 ∧ (∀ b, b < m ∨ m + 13 ≤ b → σ'.2 b = σ.2 b)) := by
  refine gw_M_of rfl (Nat.le_of_ble_eq_true rfl) ?_
  intro X hX hl hz hb0 hr hnm hQ
  subst hz hb0 hl
  have hX : gw_ok X nc_Mo_onePass "LabelLearnerModel" (5, 3, 77, 0, 0) := hX
  show gw_W X σ 0 0 0 [(0, .ref m)] []
  refine gw_iconst (v := nI 0) hX nd_Mo_onePass_0 rfl ?_
  refine gw_istore_n hX nd_Mo_onePass_1 rfl (by decide) (L' := [(1, .int (nI 0)), (0, .ref m)]) rfl ?_
  refine gw_iconst (v := nI 0) hX nd_Mo_onePass_2 rfl ?_
  refine gw_istore_n hX nd_Mo_onePass_3 rfl (by decide) (L' := [(2, .int (nI 0)), (1, .int (nI 0)), (0, .ref m)]) rfl ?_
  refine gw_cut (ks := [2, 1, 0]) (L' := [(0, .ref m), (1, .int (nI 0)), (2, .int (nI 0))]) rfl ?_
  exact lp_Mo_pass m A hA hO N hbd hN hX hQ hr A.ss.length 0 0 A be se bs s2 σ rfl (by omega) hM (gw_fr_rf _ _ _)
