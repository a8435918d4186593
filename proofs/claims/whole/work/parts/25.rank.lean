theorem dc_m1 (n : Nat) : nI n - nI 1 = nI n + (-1) := by
  rw [Int32.sub_eq_add_neg]; rfl
set_option maxRecDepth 100000 in
set_option maxHeartbeats 4000000 in
theorem lp_De_rank3 {X : gw_C} (d a s : Nat) (wt : Nat → Int) (b : Nat → Int32) (B : Nat → Nat) (lab : Int32) (N : Nat) (hB : ∀ j, j < N * 3 → b j = nI (B j) ∧ B j < 32) (hN : N ≤ 6) (hwt : dc_B wt) (hd : dc_D d a s) (σ0 : gw_S) (hX : gw_ok X nc_De_rank "LabelLearner$Decoder" (5, 3, 77, 0, 0)) (hQ : X.2.2.2.2 = gw_end X (fun v σ' => v = some (.ref (d + 2)) ∧ rk_at σ' (gw_z X) (d + 2) (tk_all [] (tl_A N (wd_W wt B) (dc_P wt) (dc_F wt))) ∧ dc_E σ' (gw_z X) d a s wt b lab N ∧ gw_fr σ0 σ' (d + 2) (d + 77)) 0 0) (hr : X.2.2.1.1.sig.returnType = (some (.object "LabelLearner$Ranking"))) : ∀ (m : Nat) (q : Nat) (σ : gw_S), q + m = 4 → dc_E σ (gw_z X) d a s wt b lab N → rk_at σ (gw_z X) (d + 2) (tk_all [] ((List.range q).flatMap (fun i => (tl_T N (wd_W wt B) (dc_P wt) (N - 1) i).map (tk_sh (dc_F wt i) 0)))) → (∀ q, q < 4 → rk_at σ (gw_z X) (d + 5 + 3 * (0 * 4 + q)) (tk_all [] (tl_T N (wd_W wt B) (dc_P wt) (N - 1) q))) → gw_fr σ0 σ (d + 2) (d + 77) → gw_W X σ 0 0 50 [(3, .int (nI q)), (0, .ref d), (1, .ref s), (2, .ref a)] [] := by
  intro m
  induction m using Nat.strongRecOn with
  | ind m ih =>
    intro q σ
    intro hm hE hk hn fr
    obtain ⟨z1, z2, z3, z4, z5, z6, z7, z8⟩ := id hE
    refine gw_iload_n hX nd_De_rank_50 rfl 0 rfl ?_
    refine gw_iconst (v := nI 4) hX nd_De_rank_51 rfl ?_
    refine gw_icmp_ge (tgt := 82) hX nd_De_rank_52 rfl (fun hb => ?_) (fun hb => ?_)
    · have hb : 4 ≤ q := (nI_leI (a := 4) (b := q) (by omega) (by omega)).mp hb
      refine gw_aload_n hX nd_De_rank_82 rfl 1 rfl ?_
      refine gw_get hX kf_De_18 nd_De_rank_83 z1 rfl ?_
      have hq : q = 4 := by omega
      subst hq
      exact gw_aret hX hQ hr nd_De_rank_86 (by decide) (by decide) ⟨rfl, hk, hE, fr⟩
    · have hb : ¬ 4 ≤ q := fun h => hb ((nI_leI (a := 4) (b := q) (by omega) (by omega)).mpr h)
      refine gw_aload_n hX nd_De_rank_55 rfl 1 rfl ?_
      refine gw_get hX kf_De_18 nd_De_rank_56 z1 rfl ?_
      refine gw_aload_n hX nd_De_rank_59 rfl 1 rfl ?_
      refine gw_iconst (v := nI 0) hX nd_De_rank_60 rfl ?_
      refine gw_iload_n hX nd_De_rank_61 rfl 0 rfl ?_
      refine gw_callV (rest := [.ref (d + 2)]) hX ks_De_35 (ct_De_tailsFrom X.1.2.1 (gw_z X) (gw_b X) σ d 0 q z1 z2 (by omega)) z1 rfl rfl (Nat.le_of_ble_eq_true rfl) nd_De_rank_62 (by decide) ?_
      rintro v_ s_ ⟨hv_, hs_⟩
      have hs_ := hs_.symm
      subst hs_ hv_
      show gw_W X σ 0 0 65 [(3, .int (nI q)), (0, .ref d), (1, .ref s), (2, .ref a)] [.ref (d + 5 + 3 * (0 * 4 + q)), .ref (d + 2)]
      refine gw_aload_n hX nd_De_rank_65 rfl 3 rfl ?_
      refine gw_bipush (v := nI 32) hX nd_De_rank_66 rfl ?_
      refine gw_iload_n hX nd_De_rank_68 rfl 0 rfl ?_
      refine gw_callV (rest := [.ref (d + 5 + 3 * (0 * 4 + q)), .ref (d + 2)]) hX ks_De_39 (ct_We_at X.1.2.1 (gw_z X) (gw_b X) σ a 32 q (fun j => iL (wt j)) z3 z4 (by omega)) z3 rfl rfl (Nat.le_of_ble_eq_true rfl) nd_De_rank_69 (by decide) ?_
      rintro v_ s_ ⟨hv_, hs_⟩
      have hs_ := hs_.symm
      subst hs_ hv_
      show gw_W X σ 0 0 72 [(3, .int (nI q)), (0, .ref d), (1, .ref s), (2, .ref a)] [.long (iL (dc_F wt q)), .ref (d + 5 + 3 * (0 * 4 + q)), .ref (d + 2)]
      refine gw_iconst (v := nI 0) hX nd_De_rank_72 rfl ?_
      obtain ⟨fs9, fl9, k9, -⟩ := id hk
      refine gw_callV (rest := []) hX ks_De_45 (ct_Ra_offerLonger X.1.2.1 (gw_z X) (gw_b X) σ (d + 2) (d + 5 + 3 * (0 * 4 + q)) _ (tk_all [] (tl_T N (wd_W wt B) (dc_P wt) (N - 1) q)) (dc_F wt q) 0 (by omega) (tk_ok_all (r := []) _ trivial) (dc_len _ _ _ _ _) (dc_b3 hwt B N q hN (by omega)) (dc_b4 hwt B N q hN (by omega)) (fun x _ => by rw [nI_or, Nat.or_zero, Nat.add_zero]) hk (hn q (by omega))) k9 rfl rfl (Nat.le_of_ble_eq_true rfl) nd_De_rank_73 (by decide) ?_
      rintro _ σ1 ⟨rfl, hk, hf⟩
      have hk : rk_at σ1 (gw_z X) (d + 2) (tk_all [] ((List.range (q + 1)).flatMap (fun i => (tl_T N (wd_W wt B) (dc_P wt) (N - 1) i).map (tk_sh (dc_F wt i) 0)))) := by rw [tl_more]; exact hk
      have hE : dc_E σ1 (gw_z X) d a s wt b lab N := dc_E_whole hE hd hf (rk_at_any hk)
      have hn : ∀ q, q < 4 → rk_at σ1 (gw_z X) (d + 5 + 3 * (0 * 4 + q)) (tk_all [] (tl_T N (wd_W wt B) (dc_P wt) (N - 1) q)) := fun q hq => rk_at_fr (hn q hq) hf (by omega)
      have fr : gw_fr σ0 σ1 (d + 2) (d + 77) := gw_fr_tr fr hf
      show gw_W X σ1 0 0 76 [(3, .int (nI q)), (0, .ref d), (1, .ref s), (2, .ref a)] []
      refine gw_iinc hX nd_De_rank_76 0 rfl (v := nI (q + 1)) (show nI q + nI 1 = nI (q + 1) from nI_add _ _) (by decide) (L' := [(3, .int (nI (q + 1))), (0, .ref d), (1, .ref s), (2, .ref a)]) rfl ?_
      refine gw_goto (tgt := 50) hX nd_De_rank_79 rfl ?_
      refine gw_cut (ks := [0, 1, 2, 3]) (L' := [(3, .int (nI (q + 1))), (0, .ref d), (1, .ref s), (2, .ref a)]) rfl ?_
      exact ih (m - 1) (by omega) (q + 1) σ1 (by omega) hE hk hn fr
set_option maxRecDepth 100000 in
set_option maxHeartbeats 4000000 in
theorem lp_De_rank2 {X : gw_C} (d a s : Nat) (wt : Nat → Int) (b : Nat → Int32) (B : Nat → Nat) (lab : Int32) (N : Nat) (hB : ∀ j, j < N * 3 → b j = nI (B j) ∧ B j < 32) (hN : N ≤ 6) (hwt : dc_B wt) (hd : dc_D d a s) (σ0 : gw_S) (w : Nat) (hw : w < N) (kk : ∀ σ : gw_S, dc_E σ (gw_z X) d a s wt b lab N → (∀ p, p < 4 → rk_at σ (gw_z X) (d + 5 + 3 * (w * 4 + p)) (tk_all [] (tl_T N (wd_W wt B) (dc_P wt) (N - 1 - w) p))) → gw_fr σ0 σ (d + 2) (d + 77) → gw_W X σ 0 0 35 [(3, .int (nI w)), (0, .ref d), (1, .ref s), (2, .ref a)] []) (hX : gw_ok X nc_De_rank "LabelLearner$Decoder" (5, 3, 77, 0, 0))  : ∀ (m : Nat) (q : Nat) (σ : gw_S), q + m = 4 → dc_E σ (gw_z X) d a s wt b lab N → (∀ p, p < q → rk_at σ (gw_z X) (d + 5 + 3 * (w * 4 + p)) (tk_all [] (tl_T N (wd_W wt B) (dc_P wt) (N - 1 - w) p))) → (w + 1 < N → ∀ q, q < 4 → rk_at σ (gw_z X) (d + 5 + 3 * ((w + 1) * 4 + q)) (tk_all [] (tl_T N (wd_W wt B) (dc_P wt) (N - 2 - w) q))) → gw_fr σ0 σ (d + 2) (d + 77) → gw_W X σ 0 0 14 [(4, .int (nI q)), (3, .int (nI w)), (0, .ref d), (1, .ref s), (2, .ref a)] [] := by
  intro m
  induction m using Nat.strongRecOn with
  | ind m ih =>
    intro q σ
    intro hm hE ho hn fr
    obtain ⟨z1, z2, z3, z4, z5, z6, z7, z8⟩ := id hE
    refine gw_iload hX nd_De_rank_14 0 rfl ?_
    refine gw_iconst (v := nI 4) hX nd_De_rank_16 rfl ?_
    refine gw_icmp_ge (tgt := 35) hX nd_De_rank_17 rfl (fun hb => ?_) (fun hb => ?_)
    · have hb : 4 ≤ q := (nI_leI (a := 4) (b := q) (by omega) (by omega)).mp hb
      refine gw_cut (ks := [1, 2, 3, 4]) (L' := [(3, .int (nI w)), (0, .ref d), (1, .ref s), (2, .ref a)]) rfl ?_
      have hq : q = 4 := by omega
      subst hq
      exact kk σ hE ho fr
    · have hb : ¬ 4 ≤ q := fun h => hb ((nI_leI (a := 4) (b := q) (by omega) (by omega)).mpr h)
      refine gw_aload_n hX nd_De_rank_20 rfl 2 rfl ?_
      refine gw_aload_n hX nd_De_rank_21 rfl 3 rfl ?_
      refine gw_aload_n hX nd_De_rank_22 rfl 4 rfl ?_
      refine gw_iload_n hX nd_De_rank_23 rfl 1 rfl ?_
      refine gw_iload hX nd_De_rank_24 0 rfl ?_
      refine gw_callV (rest := []) hX ks_De_28 (ct_De_rankTails X.1.2.1 (gw_z X) (gw_b X) σ d a s wt b B lab N hB hN hwt hd w q hw (by omega) hE hn) z1 rfl rfl (Nat.le_of_ble_eq_true rfl) nd_De_rank_26 (by decide) ?_
      rintro _ σ1 ⟨rfl, hk, hf⟩
      have hE : dc_E σ1 (gw_z X) d a s wt b lab N := dc_E_tail hE hd (i := w * 4 + q) (by omega) hf (rk_at_any hk)
      have ho : (∀ p, p < (q + 1) → rk_at σ1 (gw_z X) (d + 5 + 3 * (w * 4 + p)) (tk_all [] (tl_T N (wd_W wt B) (dc_P wt) (N - 1 - w) p))) := by
        intro p hp
        by_cases e : p = q
        · rw [e]; exact hk
        · exact rk_at_fr (ho p (by omega)) hf (by omega)
      have hn : (w + 1 < N → ∀ q, q < 4 → rk_at σ1 (gw_z X) (d + 5 + 3 * ((w + 1) * 4 + q)) (tk_all [] (tl_T N (wd_W wt B) (dc_P wt) (N - 2 - w) q))) := fun h1 p hp => rk_at_fr (hn h1 p hp) hf (by omega)
      have fr : gw_fr σ0 σ1 (d + 2) (d + 77) := gw_fr_tr fr hf
      show gw_W X σ1 0 0 29 [(4, .int (nI q)), (3, .int (nI w)), (0, .ref d), (1, .ref s), (2, .ref a)] []
      refine gw_iinc hX nd_De_rank_29 0 rfl (v := nI (q + 1)) (show nI q + nI 1 = nI (q + 1) from nI_add _ _) (by decide) (L' := [(4, .int (nI (q + 1))), (3, .int (nI w)), (0, .ref d), (1, .ref s), (2, .ref a)]) rfl ?_
      refine gw_goto (tgt := 14) hX nd_De_rank_32 rfl ?_
      refine gw_cut (ks := [0, 1, 2, 3, 4]) (L' := [(4, .int (nI (q + 1))), (3, .int (nI w)), (0, .ref d), (1, .ref s), (2, .ref a)]) rfl ?_
      exact ih (m - 1) (by omega) (q + 1) σ1 (by omega) hE ho hn fr
set_option maxRecDepth 100000 in
set_option maxHeartbeats 4000000 in
theorem lp_De_rank1 {X : gw_C} (d a s : Nat) (wt : Nat → Int) (b : Nat → Int32) (B : Nat → Nat) (lab : Int32) (N : Nat) (hB : ∀ j, j < N * 3 → b j = nI (B j) ∧ B j < 32) (hN : N ≤ 6) (hwt : dc_B wt) (hd : dc_D d a s) (hN1 : 1 ≤ N) (σ0 : gw_S) (hX : gw_ok X nc_De_rank "LabelLearner$Decoder" (5, 3, 77, 0, 0)) (hQ : X.2.2.2.2 = gw_end X (fun v σ' => v = some (.ref (d + 2)) ∧ rk_at σ' (gw_z X) (d + 2) (tk_all [] (tl_A N (wd_W wt B) (dc_P wt) (dc_F wt))) ∧ dc_E σ' (gw_z X) d a s wt b lab N ∧ gw_fr σ0 σ' (d + 2) (d + 77)) 0 0) (hr : X.2.2.1.1.sig.returnType = (some (.object "LabelLearner$Ranking"))) : ∀ (c : Nat) (σ : gw_S), c ≤ N → dc_E σ (gw_z X) d a s wt b lab N → (c < N → ∀ q, q < 4 → rk_at σ (gw_z X) (d + 5 + 3 * (c * 4 + q)) (tk_all [] (tl_T N (wd_W wt B) (dc_P wt) (N - 1 - c) q))) → gw_fr σ0 σ (d + 2) (d + 77) → gw_W X σ 0 0 7 [(3, .int (nI c + (-1))), (0, .ref d), (1, .ref s), (2, .ref a)] [] := by
  intro c
  induction c with
  | zero =>
    intro σ hc hE hn fr
    obtain ⟨z1, z2, z3, z4, z5, z6, z7, z8⟩ := id hE
    refine gw_iload_n hX nd_De_rank_7 rfl 0 rfl ?_
    refine gw_if_lt (tgt := 41) hX nd_De_rank_8 rfl (fun hb => ?_) (fun hb => ?_)
    · skip
      refine gw_aload_n hX nd_De_rank_41 rfl 1 rfl ?_
      refine gw_get hX kf_De_18 nd_De_rank_42 z1 rfl ?_
      obtain ⟨kk9, fs9, fl9, k9, -⟩ := id z7
      refine gw_callV (rest := []) hX ks_De_32 (ct_Ra_clear X.1.2.1 (gw_z X) (gw_b X) σ (d + 2) z7) k9 rfl rfl (Nat.le_of_ble_eq_true rfl) nd_De_rank_45 (by decide) ?_
      rintro _ σ1 ⟨rfl, hk, hf⟩
      have hE : dc_E σ1 (gw_z X) d a s wt b lab N := dc_E_whole hE hd hf (rk_at_any hk)
      have fr : gw_fr σ0 σ1 (d + 2) (d + 77) := gw_fr_tr fr hf
      have hn : ∀ q, q < 4 → rk_at σ1 (gw_z X) (d + 5 + 3 * (0 * 4 + q)) (tk_all [] (tl_T N (wd_W wt B) (dc_P wt) (N - 1) q)) := fun q hq => rk_at_fr (hn (by omega) q hq) hf (by omega)
      show gw_W X σ1 0 0 48 [(3, .int (nI 0 + (-1))), (0, .ref d), (1, .ref s), (2, .ref a)] []
      refine gw_iconst (v := nI 0) hX nd_De_rank_48 rfl ?_
      refine gw_istore_n hX nd_De_rank_49 rfl (by decide) (L' := [(3, .int (nI 0)), (0, .ref d), (1, .ref s), (2, .ref a)]) rfl ?_
      refine gw_cut (ks := [0, 1, 2, 3]) (L' := [(3, .int (nI 0)), (0, .ref d), (1, .ref s), (2, .ref a)]) rfl ?_
      exact lp_De_rank3 d a s wt b B lab N hB hN hwt hd σ0 hX hQ hr 4 0 σ1 (by omega) hE hk hn fr
    · skip
      exact absurd (by decide) hb
  | succ c ih =>
    intro σ hc hE hn fr
    obtain ⟨z1, z2, z3, z4, z5, z6, z7, z8⟩ := id hE
    rw [pk_m1]
    refine gw_iload_n hX nd_De_rank_7 rfl 0 rfl ?_
    refine gw_if_lt (tgt := 41) hX nd_De_rank_8 rfl (fun hb => ?_) (fun hb => ?_)
    · have hb : c < 0 := (nI_ltI (a := c) (b := 0) (by omega) (by omega)).mp hb
      exfalso; omega
    · have hb : ¬ c < 0 := fun h => hb ((nI_ltI (a := c) (b := 0) (by omega) (by omega)).mpr h)
      refine gw_iconst (v := nI 0) hX nd_De_rank_11 rfl ?_
      refine gw_istore hX nd_De_rank_12 (by decide) (L' := [(4, .int (nI 0)), (3, .int (nI c)), (0, .ref d), (1, .ref s), (2, .ref a)]) rfl ?_
      refine gw_cut (ks := [0, 1, 2, 3, 4]) (L' := [(4, .int (nI 0)), (3, .int (nI c)), (0, .ref d), (1, .ref s), (2, .ref a)]) rfl ?_
      refine lp_De_rank2 d a s wt b B lab N hB hN hwt hd σ0 c (by omega) ?_ hX 4 0 σ (by omega) hE (fun p hp => absurd hp (by omega)) (fun h1 q hq => by have h9 := hn h1 q hq; rw [show N - 1 - (c + 1) = N - 2 - c by omega] at h9; exact h9) fr
      clear hE hn fr z1 z2 z3 z4 z5 z6 z7 z8
      intro σ hE ho fr
      refine gw_iinc hX nd_De_rank_35 0 rfl (v := (nI c + (-1))) (congrArg (fun y => nI c + y) (by decide : Int32.ofInt (-1) = (-1 : Int32))) (by decide) (L' := [(3, .int (nI c + (-1))), (0, .ref d), (1, .ref s), (2, .ref a)]) rfl ?_
      refine gw_goto (tgt := 7) hX nd_De_rank_38 rfl ?_
      refine gw_cut (ks := [0, 1, 2, 3]) (L' := [(3, .int (nI c + (-1))), (0, .ref d), (1, .ref s), (2, .ref a)]) rfl ?_
      exact ih σ (by omega) hE (fun _ => ho) fr
set_option maxRecDepth 100000 in
set_option maxHeartbeats 4000000 in
theorem ct_De_rank (l : Launch) (Z : gw_Z) (b0 : Nat) (σ : gw_S) (d a s : Nat) (wt : Nat → Int) (b : Nat → Int32) (B : Nat → Nat) (lab : Int32) (N : Nat) (hB : ∀ j, j < N * 3 → b j = nI (B j) ∧ B j < 32) (hN : N ≤ 6) (hwt : dc_B wt) (hd : dc_D d a s) (hN1 : 1 ≤ N) (hE : dc_E σ Z d a s wt b lab N) : gw_M l ny_De_rank nc_De_rank (5, 3, 77, 0, 0) (some (.object "LabelLearner$Ranking")) Z b0 σ [.ref d, .ref s, .ref a] (fun v σ' => v = some (.ref (d + 2)) ∧ rk_at σ' Z (d + 2) (tk_all [] (tl_A N (wd_W wt B) (dc_P wt) (dc_F wt))) ∧ dc_E σ' Z d a s wt b lab N ∧ gw_fr σ σ' (d + 2) (d + 77)) := by
  refine gw_M_of rfl (Nat.le_of_ble_eq_true rfl) ?_
  intro X hX hl hz hb0 hr hnm hQ
  subst hz hb0 hl
  have hX : gw_ok X nc_De_rank "LabelLearner$Decoder" (5, 3, 77, 0, 0) := hX
  show gw_W X σ 0 0 0 [(0, .ref d), (1, .ref s), (2, .ref a)] []
  obtain ⟨z1, z2, z3, z4, z5, z6, z7, z8⟩ := id hE
  refine gw_aload_n hX nd_De_rank_0 rfl 1 rfl ?_
  refine gw_get hX kf_De_22 nd_De_rank_1 z5 rfl ?_
  refine gw_iconst (v := nI 1) hX nd_De_rank_4 rfl ?_
  refine gw_isub hX nd_De_rank_5 ?_
  refine gw_topi (y := (nI N + (-1))) (dc_m1 N) ?_
  refine gw_istore_n hX nd_De_rank_6 rfl (by decide) (L' := [(3, .int (nI N + (-1))), (0, .ref d), (1, .ref s), (2, .ref a)]) rfl ?_
  refine gw_cut (ks := [0, 1, 2, 3]) (L' := [(3, .int (nI N + (-1))), (0, .ref d), (1, .ref s), (2, .ref a)]) rfl ?_
  exact lp_De_rank1 d a s wt b B lab N hB hN hwt hd hN1 σ hX hQ hr N σ (Nat.le_refl _) hE (fun h => absurd h (by omega)) (gw_fr_rf _ _ _)
