set_option maxRecDepth 100000 in
set_option maxHeartbeats 4000000 in
theorem ct_De_tailsFrom (l : Launch) (Z : gw_Z) (b0 : Nat) (σ : gw_S) (d w k : Nat) (h0 : σ.2 d = some (.inr (3, [.ref (d + 1), .ref (d + 2)]))) (h1 : σ.2 (d + 1) = some (gw_Q4 Z 24 (fun i => some (d + 5 + 3 * i)))) (hk : w * 4 + k < 24) : gw_M l ny_De_tailsFrom nc_De_tailsFrom (3, 0, 0, 0, 0) (some (.object "LabelLearner$Ranking")) Z b0 σ [.ref d, .int (nI w), .int (nI k)] (fun v σ' => v = some (.ref (d + 5 + 3 * (w * 4 + k))) ∧ σ' = σ) := by
  refine gw_M_of rfl (Nat.le_of_ble_eq_true rfl) ?_
  intro X hX hl hz hb0 hr hnm hQ
  subst hz hb0 hl
  have hX : gw_ok X nc_De_tailsFrom "LabelLearner$Decoder" (3, 0, 0, 0, 0) := hX
  show gw_W X σ 0 0 0 [(0, .ref d), (1, .int (nI w)), (2, .int (nI k))] []
  refine gw_aload_n hX nd_De_tailsFrom_0 rfl 0 rfl ?_
  refine gw_get hX kf_De_11 nd_De_tailsFrom_1 h0 rfl ?_
  refine gw_iload_n hX nd_De_tailsFrom_4 rfl 1 rfl ?_
  refine gw_iconst (v := nI 4) hX nd_De_tailsFrom_5 rfl ?_
  refine gw_imul hX nd_De_tailsFrom_6 ?_
  refine gw_topi (y := nI (w * 4)) (pk_mul _ _) ?_
  refine gw_iload_n hX nd_De_tailsFrom_7 rfl 2 rfl ?_
  refine gw_iadd hX nd_De_tailsFrom_8 ?_
  refine gw_topi (y := nI (w * 4 + k)) (nI_add _ _) ?_
  refine gw_ald4 hX nd_De_tailsFrom_9 h1 (w * 4 + k) rfl (by omega) (by decide) (r := d + 5 + 3 * (w * 4 + k)) rfl ?_
  exact gw_aret hX hQ hr nd_De_tailsFrom_10 (by decide) (by decide) ⟨rfl, rfl⟩
theorem dc_b1 {wt : Nat → Int} (hwt : dc_B wt) (B : Nat → Nat) (N w lb q : Nat) (hN : N ≤ 6) (hlb : lb < 4) (hq : q ≤ 4) : rk_bd (tk_all [] ((List.range q).flatMap (fun i => (tl_T N (wd_W wt B) (dc_P wt) (N - 2 - w) i).map (tk_sh (wd_W wt B w lb + dc_P wt lb i) (lb * 4 ^ w))))) := by
  intro x hx
  rcases tk_mem _ [] trivial x hx with h1 | h1
  · cases h1
  · obtain ⟨i, hi, h2⟩ := List.mem_flatMap.mp h1
    have hi := List.mem_range.mp hi
    obtain ⟨y, hy, rfl⟩ := List.mem_map.mp h2
    have h3 := dc_T_bd hwt B N (N - 2 - w) i (by omega) (by omega) y hy
    have h4 := dc_S_bd hwt B w lb
    have h5 := hwt ((33 + lb) * 4 + i)
    simp only [tk_sh, dc_P]
    omega
theorem dc_b2 {wt : Nat → Int} (hwt : dc_B wt) (B : Nat → Nat) (N w lb q : Nat) (hN : N ≤ 6) (hlb : lb < 4) (hq : q < 4) : rk_bd ((tk_all [] (tl_T N (wd_W wt B) (dc_P wt) (N - 2 - w) q)).map (tk_sh (wd_W wt B w lb + dc_P wt lb q) (lb * 4 ^ w))) := by
  intro x hx
  obtain ⟨y, hy, rfl⟩ := List.mem_map.mp hx
  have h3 := dc_top_bd hwt B N (N - 2 - w) q (by omega) hq y hy
  have h4 := dc_S_bd hwt B w lb
  have h5 := hwt ((33 + lb) * 4 + q)
  simp only [tk_sh, dc_P]
  omega
theorem dc_b3 {wt : Nat → Int} (hwt : dc_B wt) (B : Nat → Nat) (N q : Nat) (hN : N ≤ 6) (hq : q ≤ 4) : rk_bd (tk_all [] ((List.range q).flatMap (fun i => (tl_T N (wd_W wt B) (dc_P wt) (N - 1) i).map (tk_sh (dc_F wt i) 0)))) := by
  intro x hx
  rcases tk_mem _ [] trivial x hx with h1 | h1
  · cases h1
  · obtain ⟨i, hi, h2⟩ := List.mem_flatMap.mp h1
    have hi := List.mem_range.mp hi
    obtain ⟨y, hy, rfl⟩ := List.mem_map.mp h2
    have h3 := dc_T_bd hwt B N (N - 1) i (by omega) (by omega) y hy
    have h5 := hwt (32 * 4 + i)
    simp only [tk_sh, dc_F]
    omega
theorem dc_b4 {wt : Nat → Int} (hwt : dc_B wt) (B : Nat → Nat) (N q : Nat) (hN : N ≤ 6) (hq : q < 4) : rk_bd ((tk_all [] (tl_T N (wd_W wt B) (dc_P wt) (N - 1) q)).map (tk_sh (dc_F wt q) 0)) := by
  intro x hx
  obtain ⟨y, hy, rfl⟩ := List.mem_map.mp hx
  have h3 := dc_top_bd hwt B N (N - 1) q (by omega) hq y hy
  have h5 := hwt (32 * 4 + q)
  simp only [tk_sh, dc_F]
  omega
set_option maxRecDepth 100000 in
set_option maxHeartbeats 4000000 in
theorem lp_De_rankTails {X : gw_C} (d a s : Nat) (wt : Nat → Int) (b : Nat → Int32) (B : Nat → Nat) (lab : Int32) (N : Nat) (hB : ∀ j, j < N * 3 → b j = nI (B j) ∧ B j < 32) (hN : N ≤ 6) (hwt : dc_B wt) (hd : dc_D d a s) (w lb : Nat) (hw : w < N) (hlb : lb < 4) (hw1 : w + 1 < N) (σ0 : gw_S) (hX : gw_ok X nc_De_rankTails "LabelLearner$Decoder" (10, 2, 48, 0, 0)) (hQ : X.2.2.2.2 = gw_end X (fun v σ' => v = none ∧ rk_at σ' (gw_z X) (d + 5 + 3 * (w * 4 + lb)) (tk_all [] (tl_T N (wd_W wt B) (dc_P wt) (N - 1 - w) lb)) ∧ gw_fr σ0 σ' (d + 5 + 3 * (w * 4 + lb)) (d + 5 + 3 * (w * 4 + lb) + 3)) 0 0) (hr : X.2.2.1.1.sig.returnType = none) : ∀ (m : Nat) (q : Nat) (σ : gw_S), q + m = 4 → dc_E σ (gw_z X) d a s wt b lab N → rk_at σ (gw_z X) (d + 5 + 3 * (w * 4 + lb)) (tk_all [] ((List.range q).flatMap (fun i => (tl_T N (wd_W wt B) (dc_P wt) (N - 2 - w) i).map (tk_sh (wd_W wt B w lb + dc_P wt lb i) (lb * 4 ^ w))))) → (∀ q, q < 4 → rk_at σ (gw_z X) (d + 5 + 3 * ((w + 1) * 4 + q)) (tk_all [] (tl_T N (wd_W wt B) (dc_P wt) (N - 2 - w) q))) → gw_fr σ0 σ (d + 5 + 3 * (w * 4 + lb)) (d + 5 + 3 * (w * 4 + lb) + 3) → gw_W X σ 0 0 55 [(9, .int (nI q)), (8, .int (nI (lb * 4 ^ w))), (6, .long (iL (wd_W wt B w lb))), (5, .ref (d + 5 + 3 * (w * 4 + lb))), (0, .ref d), (1, .ref s), (2, .ref a), (3, .int (nI w)), (4, .int (nI lb))] [] := by
  intro m
  induction m using Nat.strongRecOn with
  | ind m ih =>
    intro q σ
    intro hm hE hk hn fr
    obtain ⟨z1, z2, z3, z4, z5, z6, z7, z8⟩ := id hE
    refine gw_iload hX nd_De_rankTails_55 0 rfl ?_
    refine gw_iconst (v := nI 4) hX nd_De_rankTails_57 rfl ?_
    refine gw_icmp_ge (tgt := 97) hX nd_De_rankTails_58 rfl (fun hb => ?_) (fun hb => ?_)
    · have hb : 4 ≤ q := (nI_leI (a := 4) (b := q) (by omega) (by omega)).mp hb
      have hq : q = 4 := by omega
      subst hq
      exact gw_vret hX hQ hr nd_De_rankTails_97 (by decide) (by decide) ⟨rfl, by rw [show N - 1 - w = (N - 2 - w) + 1 by omega, tl_T, show N - 2 - (N - 2 - w) = w by omega]; exact hk, fr⟩
    · have hb : ¬ 4 ≤ q := fun h => hb ((nI_leI (a := 4) (b := q) (by omega) (by omega)).mpr h)
      refine gw_aload hX nd_De_rankTails_61 3 rfl ?_
      refine gw_aload_n hX nd_De_rankTails_63 rfl 4 rfl ?_
      refine gw_iload_n hX nd_De_rankTails_64 rfl 7 rfl ?_
      refine gw_iconst (v := nI 1) hX nd_De_rankTails_65 rfl ?_
      refine gw_iadd hX nd_De_rankTails_66 ?_
      refine gw_topi (y := nI (w + 1)) (nI_add _ _) ?_
      refine gw_iload hX nd_De_rankTails_67 0 rfl ?_
      refine gw_callV (rest := [.ref (d + 5 + 3 * (w * 4 + lb))]) hX ks_De_35 (ct_De_tailsFrom X.1.2.1 (gw_z X) (gw_b X) σ d (w + 1) q z1 z2 (by omega)) z1 rfl rfl (Nat.le_of_ble_eq_true rfl) nd_De_rankTails_69 (by decide) ?_
      rintro v_ s_ ⟨hv_, hs_⟩
      have hs_ := hs_.symm
      subst hs_ hv_
      show gw_W X σ 0 0 72 [(9, .int (nI q)), (8, .int (nI (lb * 4 ^ w))), (6, .long (iL (wd_W wt B w lb))), (5, .ref (d + 5 + 3 * (w * 4 + lb))), (0, .ref d), (1, .ref s), (2, .ref a), (3, .int (nI w)), (4, .int (nI lb))] [.ref (d + 5 + 3 * ((w + 1) * 4 + q)), .ref (d + 5 + 3 * (w * 4 + lb))]
      refine gw_lload hX nd_De_rankTails_72 2 rfl ?_
      refine gw_aload_n hX nd_De_rankTails_74 rfl 6 rfl ?_
      refine gw_bipush (v := nI 33) hX nd_De_rankTails_75 rfl ?_
      refine gw_iload hX nd_De_rankTails_77 8 rfl ?_
      refine gw_iadd hX nd_De_rankTails_79 ?_
      refine gw_topi (y := nI (33 + lb)) (nI_add _ _) ?_
      refine gw_iload hX nd_De_rankTails_80 0 rfl ?_
      refine gw_callV (rest := [.long (iL (wd_W wt B w lb)), .ref (d + 5 + 3 * ((w + 1) * 4 + q)), .ref (d + 5 + 3 * (w * 4 + lb))]) hX ks_De_39 (ct_We_at X.1.2.1 (gw_z X) (gw_b X) σ a (33 + lb) q (fun j => iL (wt j)) z3 z4 (by omega)) z3 rfl rfl (Nat.le_of_ble_eq_true rfl) nd_De_rankTails_82 (by decide) ?_
      rintro v_ s_ ⟨hv_, hs_⟩
      have hs_ := hs_.symm
      subst hs_ hv_
      show gw_W X σ 0 0 85 [(9, .int (nI q)), (8, .int (nI (lb * 4 ^ w))), (6, .long (iL (wd_W wt B w lb))), (5, .ref (d + 5 + 3 * (w * 4 + lb))), (0, .ref d), (1, .ref s), (2, .ref a), (3, .int (nI w)), (4, .int (nI lb))] [.long (iL (dc_P wt lb q)), .long (iL (wd_W wt B w lb)), .ref (d + 5 + 3 * ((w + 1) * 4 + q)), .ref (d + 5 + 3 * (w * 4 + lb))]
      refine gw_ladd hX nd_De_rankTails_85 ?_
      refine gw_topl (y := iL (wd_W wt B w lb + dc_P wt lb q)) (iL_add _ _) ?_
      refine gw_iload hX nd_De_rankTails_86 1 rfl ?_
      obtain ⟨fs9, fl9, k9, -⟩ := id hk
      refine gw_callV (rest := []) hX ks_De_45 (ct_Ra_offerLonger X.1.2.1 (gw_z X) (gw_b X) σ (d + 5 + 3 * (w * 4 + lb)) (d + 5 + 3 * ((w + 1) * 4 + q)) _ (tk_all [] (tl_T N (wd_W wt B) (dc_P wt) (N - 2 - w) q)) (wd_W wt B w lb + dc_P wt lb q) (lb * 4 ^ w) (by omega) (tk_ok_all (r := []) _ trivial) (dc_len _ _ _ _ _) (dc_b1 hwt B N w lb q hN hlb (by omega)) (dc_b2 hwt B N w lb q hN hlb (by omega)) (dc_or B N (N - 2 - w) q w (by omega) (by omega) hlb) hk (hn q (by omega))) k9 rfl rfl (Nat.le_of_ble_eq_true rfl) nd_De_rankTails_88 (by decide) ?_
      rintro _ σ1 ⟨rfl, hk, hf⟩
      have hk : rk_at σ1 (gw_z X) (d + 5 + 3 * (w * 4 + lb)) (tk_all [] ((List.range (q + 1)).flatMap (fun i => (tl_T N (wd_W wt B) (dc_P wt) (N - 2 - w) i).map (tk_sh (wd_W wt B w lb + dc_P wt lb i) (lb * 4 ^ w))))) := by rw [tl_more]; exact hk
      have hE : dc_E σ1 (gw_z X) d a s wt b lab N := dc_E_tail hE hd (i := w * 4 + lb) (by omega) hf (rk_at_any hk)
      have hn : ∀ q, q < 4 → rk_at σ1 (gw_z X) (d + 5 + 3 * ((w + 1) * 4 + q)) (tk_all [] (tl_T N (wd_W wt B) (dc_P wt) (N - 2 - w) q)) := fun q hq => rk_at_fr (hn q hq) hf (by omega)
      have fr : gw_fr σ0 σ1 (d + 5 + 3 * (w * 4 + lb)) (d + 5 + 3 * (w * 4 + lb) + 3) := gw_fr_tr fr hf
      show gw_W X σ1 0 0 91 [(9, .int (nI q)), (8, .int (nI (lb * 4 ^ w))), (6, .long (iL (wd_W wt B w lb))), (5, .ref (d + 5 + 3 * (w * 4 + lb))), (0, .ref d), (1, .ref s), (2, .ref a), (3, .int (nI w)), (4, .int (nI lb))] []
      refine gw_iinc hX nd_De_rankTails_91 0 rfl (v := nI (q + 1)) (show nI q + nI 1 = nI (q + 1) from nI_add _ _) (by decide) (L' := [(9, .int (nI (q + 1))), (8, .int (nI (lb * 4 ^ w))), (6, .long (iL (wd_W wt B w lb))), (5, .ref (d + 5 + 3 * (w * 4 + lb))), (0, .ref d), (1, .ref s), (2, .ref a), (3, .int (nI w)), (4, .int (nI lb))]) rfl ?_
      refine gw_goto (tgt := 55) hX nd_De_rankTails_94 rfl ?_
      refine gw_cut (ks := [0, 1, 2, 3, 4, 5, 6, 7, 8]) (L' := [(9, .int (nI (q + 1))), (8, .int (nI (lb * 4 ^ w))), (6, .long (iL (wd_W wt B w lb))), (5, .ref (d + 5 + 3 * (w * 4 + lb))), (0, .ref d), (1, .ref s), (2, .ref a), (3, .int (nI w)), (4, .int (nI lb))]) rfl ?_
      exact ih (m - 1) (by omega) (q + 1) σ1 (by omega) hE hk hn fr
set_option maxRecDepth 100000 in
set_option maxHeartbeats 4000000 in
theorem ct_De_rankTails (l : Launch) (Z : gw_Z) (b0 : Nat) (σ : gw_S) (d a s : Nat) (wt : Nat → Int) (b : Nat → Int32) (B : Nat → Nat) (lab : Int32) (N : Nat) (hB : ∀ j, j < N * 3 → b j = nI (B j) ∧ B j < 32) (hN : N ≤ 6) (hwt : dc_B wt) (hd : dc_D d a s) (w lb : Nat) (hw : w < N) (hlb : lb < 4) (hE : dc_E σ Z d a s wt b lab N) (hn : w + 1 < N → ∀ q, q < 4 → rk_at σ Z (d + 5 + 3 * ((w + 1) * 4 + q)) (tk_all [] (tl_T N (wd_W wt B) (dc_P wt) (N - 2 - w) q))) : gw_M l ny_De_rankTails nc_De_rankTails (10, 2, 48, 0, 0) none Z b0 σ [.ref d, .ref s, .ref a, .int (nI w), .int (nI lb)] (fun v σ' => v = none ∧ rk_at σ' Z (d + 5 + 3 * (w * 4 + lb)) (tk_all [] (tl_T N (wd_W wt B) (dc_P wt) (N - 1 - w) lb)) ∧ gw_fr σ σ' (d + 5 + 3 * (w * 4 + lb)) (d + 5 + 3 * (w * 4 + lb) + 3)) := by
  refine gw_M_of rfl (Nat.le_of_ble_eq_true rfl) ?_
  intro X hX hl hz hb0 hr hnm hQ
  subst hz hb0 hl
  have hX : gw_ok X nc_De_rankTails "LabelLearner$Decoder" (10, 2, 48, 0, 0) := hX
  show gw_W X σ 0 0 0 [(0, .ref d), (1, .ref s), (2, .ref a), (3, .int (nI w)), (4, .int (nI lb))] []
  obtain ⟨z1, z2, z3, z4, z5, z6, z7, z8⟩ := id hE
  refine gw_aload_n hX nd_De_rankTails_0 rfl 0 rfl ?_
  refine gw_iload_n hX nd_De_rankTails_1 rfl 3 rfl ?_
  refine gw_iload hX nd_De_rankTails_2 4 rfl ?_
  refine gw_callV (rest := []) hX ks_De_35 (ct_De_tailsFrom X.1.2.1 (gw_z X) (gw_b X) σ d w lb z1 z2 (by omega)) z1 rfl rfl (Nat.le_of_ble_eq_true rfl) nd_De_rankTails_4 (by decide) ?_
  rintro v_ s_ ⟨hv_, hs_⟩
  have hs_ := hs_.symm
  subst hs_ hv_
  show gw_W X σ 0 0 7 [(0, .ref d), (1, .ref s), (2, .ref a), (3, .int (nI w)), (4, .int (nI lb))] [.ref (d + 5 + 3 * (w * 4 + lb))]
  refine gw_astore hX nd_De_rankTails_7 (by decide) (L' := [(5, .ref (d + 5 + 3 * (w * 4 + lb))), (0, .ref d), (1, .ref s), (2, .ref a), (3, .int (nI w)), (4, .int (nI lb))]) rfl ?_
  refine gw_aload_n hX nd_De_rankTails_9 rfl 3 rfl ?_
  refine gw_aload_n hX nd_De_rankTails_10 rfl 2 rfl ?_
  refine gw_iload_n hX nd_De_rankTails_11 rfl 4 rfl ?_
  refine gw_iload hX nd_De_rankTails_12 5 rfl ?_
  refine gw_callV (rest := []) hX ks_De_49 (ct_We_ofWord X.1.2.1 (gw_z X) (gw_b X) σ a s wt b (fun k => B (w * 3 + k)) lab (nI N) w lb (fun k hk => ⟨(hB _ (by omega)).1, Nat.lt_trans (hB _ (by omega)).2 (by decide)⟩) (by omega) hlb z3 z4 z5 z6) z3 rfl rfl (Nat.le_of_ble_eq_true rfl) nd_De_rankTails_14 (by decide) ?_
  rintro v_ s_ ⟨hv_, hs_⟩
  have hs_ := hs_.symm
  subst hs_ hv_
  show gw_W X σ 0 0 17 [(5, .ref (d + 5 + 3 * (w * 4 + lb))), (0, .ref d), (1, .ref s), (2, .ref a), (3, .int (nI w)), (4, .int (nI lb))] [.long (iL (wd_W wt B w lb))]
  refine gw_lstore hX nd_De_rankTails_17 (by decide) (L' := [(6, .long (iL (wd_W wt B w lb))), (5, .ref (d + 5 + 3 * (w * 4 + lb))), (0, .ref d), (1, .ref s), (2, .ref a), (3, .int (nI w)), (4, .int (nI lb))]) rfl ?_
  refine gw_iload hX nd_De_rankTails_19 6 rfl ?_
  refine gw_iconst (v := nI 2) hX nd_De_rankTails_21 rfl ?_
  refine gw_iload_n hX nd_De_rankTails_22 rfl 5 rfl ?_
  refine gw_imul hX nd_De_rankTails_23 ?_
  refine gw_topi (y := nI (2 * w)) (pk_mul _ _) ?_
  refine gw_ishl hX nd_De_rankTails_24 ?_
  refine gw_topi (y := nI (lb * 4 ^ w)) (lb_shl hlb (by omega)) ?_
  refine gw_istore hX nd_De_rankTails_25 (by decide) (L' := [(8, .int (nI (lb * 4 ^ w))), (6, .long (iL (wd_W wt B w lb))), (5, .ref (d + 5 + 3 * (w * 4 + lb))), (0, .ref d), (1, .ref s), (2, .ref a), (3, .int (nI w)), (4, .int (nI lb))]) rfl ?_
  refine gw_aload hX nd_De_rankTails_27 2 rfl ?_
  have k0 := z8 (w * 4 + lb) (by omega)
  obtain ⟨kk9, fs9, fl9, k9, -⟩ := id k0
  refine gw_callV (rest := []) hX ks_De_32 (ct_Ra_clear X.1.2.1 (gw_z X) (gw_b X) σ (d + 5 + 3 * (w * 4 + lb)) k0) k9 rfl rfl (Nat.le_of_ble_eq_true rfl) nd_De_rankTails_29 (by decide) ?_
  rintro _ σ1 ⟨rfl, hk, hf⟩
  have hE : dc_E σ1 (gw_z X) d a s wt b lab N := dc_E_tail hE hd (i := w * 4 + lb) (by omega) hf (rk_at_any hk)
  have hn : w + 1 < N → ∀ q, q < 4 → rk_at σ1 (gw_z X) (d + 5 + 3 * ((w + 1) * 4 + q)) (tk_all [] (tl_T N (wd_W wt B) (dc_P wt) (N - 2 - w) q)) := fun h1 q hq => rk_at_fr (hn h1 q hq) hf (by omega)
  obtain ⟨z1, z2, z3, z4, z5, z6, z7, z8⟩ := id hE
  show gw_W X σ1 0 0 32 [(8, .int (nI (lb * 4 ^ w))), (6, .long (iL (wd_W wt B w lb))), (5, .ref (d + 5 + 3 * (w * 4 + lb))), (0, .ref d), (1, .ref s), (2, .ref a), (3, .int (nI w)), (4, .int (nI lb))] []
  refine gw_iload_n hX nd_De_rankTails_32 rfl 6 rfl ?_
  refine gw_aload_n hX nd_De_rankTails_33 rfl 4 rfl ?_
  refine gw_get hX kf_De_22 nd_De_rankTails_34 z5 rfl ?_
  refine gw_iconst (v := nI 1) hX nd_De_rankTails_37 rfl ?_
  refine gw_isub hX nd_De_rankTails_38 ?_
  refine gw_topi (y := nI (N - 1)) (pk_sub (by omega)) ?_
  refine gw_icmp_ne (tgt := 52) hX nd_De_rankTails_39 rfl (fun hb => ?_) (fun hb => ?_)
  · have hb : ¬ w = N - 1 := fun h => hb ((nI_eq (a := w) (b := N - 1) (by omega) (by omega)).mpr h)
    refine gw_iconst (v := nI 0) hX nd_De_rankTails_52 rfl ?_
    refine gw_istore hX nd_De_rankTails_53 (by decide) (L' := [(9, .int (nI 0)), (8, .int (nI (lb * 4 ^ w))), (6, .long (iL (wd_W wt B w lb))), (5, .ref (d + 5 + 3 * (w * 4 + lb))), (0, .ref d), (1, .ref s), (2, .ref a), (3, .int (nI w)), (4, .int (nI lb))]) rfl ?_
    exact lp_De_rankTails d a s wt b B lab N hB hN hwt hd w lb hw hlb (by omega) σ hX hQ hr 4 0 σ1 (by omega) hE hk (hn (by omega)) hf
  · have hb : w = N - 1 := (nI_eq (a := w) (b := N - 1) (by omega) (by omega)).mp hb
    refine gw_aload hX nd_De_rankTails_42 2 rfl ?_
    refine gw_lload hX nd_De_rankTails_44 1 rfl ?_
    refine gw_iload hX nd_De_rankTails_46 0 rfl ?_
    obtain ⟨fs8, fl8, k8, -⟩ := id hk
    refine gw_callV (rest := []) hX ks_De_53 (ct_Ra_offer X.1.2.1 (gw_z X) (gw_b X) σ1 (d + 5 + 3 * (w * 4 + lb)) (wd_W wt B w lb) (lb * 4 ^ w) [] trivial (by have := dc_S_bd hwt B w lb; omega) (fun x hx => by cases hx) hk) k8 rfl rfl (Nat.le_of_ble_eq_true rfl) nd_De_rankTails_48 (by decide) ?_
    rintro _ σ2 ⟨rfl, hk2, hf2⟩
    show gw_W X σ2 0 0 51 [(8, .int (nI (lb * 4 ^ w))), (6, .long (iL (wd_W wt B w lb))), (5, .ref (d + 5 + 3 * (w * 4 + lb))), (0, .ref d), (1, .ref s), (2, .ref a), (3, .int (nI w)), (4, .int (nI lb))] []
    exact gw_vret hX hQ hr nd_De_rankTails_51 (by decide) (by decide) ⟨rfl, by rw [show N - 1 - w = 0 by omega, tl_T, show N - 1 = w by omega]; exact hk2, gw_fr_tr hf hf2⟩
