theorem pk_step {g : Nat → Nat} {k : Nat} (hg : ∀ w, w < 6 → g w < 4) (hk : k < 6) : nI (tl_d g k) ||| nI (g k) <<< (nI (2 * k) &&& 31) = nI (tl_d g (k + 1)) := by
  rw [lb_shl (hg k hk) hk, nI_or, tl_or (tl_d_lt k (fun w hw => hg w (by omega)))]
  rfl
def gr_g (ws : List px_W) (w : Nat) : Nat := ((ws[w]?).map (fun x => x.2.2.2)).getD 0
theorem gr_lt {ws : List px_W} (ho : se_ok ws) (w : Nat) : gr_g ws w < 4 := by
  unfold gr_g
  cases e : ws[w]? with
  | none => simp
  | some x => simp only [Option.map_some, Option.getD_some]; exact (ho x (List.mem_of_getElem? e)).2.2.2
theorem gr_at {fl : Nat → Int32} {j : Nat} {ws : List px_W} (h : mm_l fl j ws) {w : Nat} (hw : w < ws.length) : fl (6 * j + w) = nI (gr_g ws w) := by
  rw [h w _ (List.getElem?_eq_getElem hw)]
  unfold gr_g
  rw [List.getElem?_eq_getElem hw]
  rfl
/-- what stands in the scores: of word w with label q -/
def pr_v (wt : Nat → Int) (ws : List px_W) (w q : Nat) : Int := (if w = 0 then dc_F wt q else 0) + wd_W wt (se_B ws) w q
def pr_k (wt : Nat → Int) (ws : List px_W) (w q k : Nat) : Int := (if w = 0 then dc_F wt q else 0) + wd_S wt (fun k => se_B ws (w * 3 + k)) q k
theorem pr_k_s (wt : Nat → Int) (ws : List px_W) (w q k : Nat) : iL (pr_k wt ws w q k) + iL (wt (4 * se_B ws (w * 3 + k) + q)) = iL (pr_k wt ws w q (k + 1)) := by
  rw [iL_add]
  congr 1
  unfold pr_k
  rw [wd_S, Nat.mul_comm 4]
  omega
theorem pr_k_3 (wt : Nat → Int) (ws : List px_W) (w q : Nat) : pr_k wt ws w q 3 = pr_v wt ws w q := rfl
theorem mb_at {fm fb : Nat → Int32} {j : Nat} {ws : List px_W} (h : mm_b fm fb j ws) {w k : Nat} (hw : w < ws.length) (hk : k < 3) : fb (3 * (6 * j + w) + k) = nI (se_B ws (w * 3 + k)) := by
  rw [h.2 w _ (List.getElem?_eq_getElem hw) k hk]
  unfold se_B
  rw [show (w * 3 + k) / 3 = w by omega, show (w * 3 + k) % 3 = k by omega, List.getElem?_eq_getElem hw]
  rfl
theorem se_B_lt {ws : List px_W} (ho : se_ok ws) (j : Nat) : se_B ws j < 32 := by
  unfold se_B
  cases e : ws[j / 3]? with
  | none => simp
  | some x =>
    simp only [Option.map_some, Option.getD_some]
    obtain ⟨o0, o1, o2, -⟩ := ho x (List.mem_of_getElem? e)
    unfold px_k
    split
    · exact o0
    · split
      · exact o1
      · exact o2
def pr_ok (f : Nat → Int64) (wt : Nat → Int) (ws : List px_W) (N : Nat) : Prop := ∀ q, q < N → f q = iL (pr_v wt ws (q / 4) (q % 4))
theorem pr_ok_s {f : Nat → Int64} {wt : Nat → Int} {ws : List px_W} {w q : Nat} (h : pr_ok f wt ws (4 * w + q)) (hq : q < 4) : pr_ok (vp_updL f (4 * w + q) (iL (pr_v wt ws w q))) wt ws (4 * w + (q + 1)) := by
  intro j hj
  by_cases e : j = 4 * w + q
  · subst e
    rw [show (4 * w + q) / 4 = w by omega, show (4 * w + q) % 4 = q by omega]
    simp [vp_updL]
  · have h1 := h j (by omega)
    simp only [vp_updL]
    rw [if_neg e]
    exact h1
set_option maxRecDepth 100000 in
set_option maxHeartbeats 4000000 in
theorem lp_Mo_packed {X : gw_C} {σ : gw_S} (m : Nat) {th rs be se kp kw : Int32} {len sn mk ps : Nat} {bs s2 : Int64} (h0 : σ.2 m = some (.inr (1, [.int th, .int (nI len), .ref (m + 1), .int (nI sn), .ref (m + 2), .ref (m + 3), .ref (m + 4), .int rs, .ref (m + 5), .ref (m + 6), .ref (m + 7), .ref (m + 8), .ref (m + 9), .int (nI mk), .int (nI ps), .ref (m + 10), .ref (m + 11), .ref (m + 12), .long bs, .long s2, .int be, .int se, .int kp, .int kw]))) (g : Nat → Nat) (hg : ∀ w, w < 6 → g w < 4) (h11 : σ.2 (m + 11) = some (gw_I (gw_z X) 6 (fun w => nI (g w)))) (N : Nat) (hN : N ≤ 6) (hX : gw_ok X nc_Mo_packed "LabelLearnerModel" (4, 0, 0, 0, 0)) (hQ : X.2.2.2.2 = gw_end X (fun v σ' => v = some (.int (nI (tl_d g N))) ∧ σ' = σ) 0 0) (hr : X.2.2.1.1.sig.returnType = (some .int)) : ∀ (u : Nat) (k : Nat), k + u = N → gw_W X σ 0 0 4 [(0, .ref m), (1, .int (nI N)), (2, .int (nI (tl_d g k))), (3, .int (nI k))] [] := by
  intro u
  induction u using Nat.strongRecOn with
  | ind u ih =>
    intro k
    intro hk
    refine gw_iload_n hX nd_Mo_packed_4 rfl 3 rfl ?_
    refine gw_iload_n hX nd_Mo_packed_5 rfl 1 rfl ?_
    refine gw_icmp_ge (tgt := 28) hX nd_Mo_packed_6 rfl (fun hb => ?_) (fun hb => ?_)
    · have hb : N ≤ k := (nI_leI (a := N) (b := k) (by omega) (by omega)).mp hb
      refine gw_iload_n hX nd_Mo_packed_28 rfl 2 rfl ?_
      exact gw_iret hX hQ hr nd_Mo_packed_29 (by decide) (by decide) ⟨by rw [show k = N by omega], rfl⟩
    · have hb : ¬ N ≤ k := fun h => hb ((nI_leI (a := N) (b := k) (by omega) (by omega)).mpr h)
      refine gw_iload_n hX nd_Mo_packed_9 rfl 2 rfl ?_
      refine gw_aload_n hX nd_Mo_packed_10 rfl 0 rfl ?_
      refine gw_get hX kf_Mo_41 nd_Mo_packed_11 h0 rfl ?_
      refine gw_iload_n hX nd_Mo_packed_14 rfl 3 rfl ?_
      refine gw_iald hX nd_Mo_packed_15 h11 k rfl (by omega) (by decide) ?_
      refine gw_topi (y := nI (g k)) rfl ?_
      refine gw_iconst (v := nI 2) hX nd_Mo_packed_16 rfl ?_
      refine gw_iload_n hX nd_Mo_packed_17 rfl 3 rfl ?_
      refine gw_imul hX nd_Mo_packed_18 ?_
      refine gw_topi (y := nI (2 * k)) (pk_mul _ _) ?_
      refine gw_ishl hX nd_Mo_packed_19 ?_
      refine gw_ior hX nd_Mo_packed_20 ?_
      refine gw_topi (y := nI (tl_d g (k + 1))) (pk_step hg (by omega)) ?_
      refine gw_istore_n hX nd_Mo_packed_21 rfl (by decide) (L' := [(2, .int (nI (tl_d g (k + 1)))), (0, .ref m), (1, .int (nI N)), (3, .int (nI k))]) rfl ?_
      refine gw_iinc hX nd_Mo_packed_22 3 rfl (v := nI (k + 1)) (show nI k + nI 1 = nI (k + 1) from nI_add _ _) (by decide) (L' := [(3, .int (nI (k + 1))), (2, .int (nI (tl_d g (k + 1)))), (0, .ref m), (1, .int (nI N))]) rfl ?_
      refine gw_goto (tgt := 4) hX nd_Mo_packed_25 rfl ?_
      refine gw_cut (ks := [2, 3, 1, 0]) (L' := [(0, .ref m), (1, .int (nI N)), (2, .int (nI (tl_d g (k + 1)))), (3, .int (nI (k + 1)))]) rfl ?_
      exact ih (u - 1) (by omega) (k + 1) (by omega)
set_option maxRecDepth 100000 in
set_option maxHeartbeats 4000000 in
theorem ct_Mo_packed (l : Launch) (Z : gw_Z) (b0 : Nat) (σ : gw_S) (m : Nat) {th rs be se kp kw : Int32} {len sn mk ps : Nat} {bs s2 : Int64} (h0 : σ.2 m = some (.inr (1, [.int th, .int (nI len), .ref (m + 1), .int (nI sn), .ref (m + 2), .ref (m + 3), .ref (m + 4), .int rs, .ref (m + 5), .ref (m + 6), .ref (m + 7), .ref (m + 8), .ref (m + 9), .int (nI mk), .int (nI ps), .ref (m + 10), .ref (m + 11), .ref (m + 12), .long bs, .long s2, .int be, .int se, .int kp, .int kw]))) (g : Nat → Nat) (hg : ∀ w, w < 6 → g w < 4) (h11 : σ.2 (m + 11) = some (gw_I Z 6 (fun w => nI (g w)))) (N : Nat) (hN : N ≤ 6) : gw_M l ny_Mo_packed nc_Mo_packed (4, 0, 0, 0, 0) (some .int) Z b0 σ [.ref m, .int (nI N)] (fun v σ' => v = some (.int (nI (tl_d g N))) ∧ σ' = σ) := by
  refine gw_M_of rfl (Nat.le_of_ble_eq_true rfl) ?_
  intro X hX hl hz hb0 hr hnm hQ
  subst hz hb0 hl
  have hX : gw_ok X nc_Mo_packed "LabelLearnerModel" (4, 0, 0, 0, 0) := hX
  show gw_W X σ 0 0 0 [(0, .ref m), (1, .int (nI N))] []
  refine gw_iconst (v := nI 0) hX nd_Mo_packed_0 rfl ?_
  refine gw_istore_n hX nd_Mo_packed_1 rfl (by decide) (L' := [(2, .int (nI 0)), (0, .ref m), (1, .int (nI N))]) rfl ?_
  refine gw_iconst (v := nI 0) hX nd_Mo_packed_2 rfl ?_
  refine gw_istore_n hX nd_Mo_packed_3 rfl (by decide) (L' := [(3, .int (nI 0)), (2, .int (nI 0)), (0, .ref m), (1, .int (nI N))]) rfl ?_
  refine gw_cut (ks := [2, 3, 1, 0]) (L' := [(0, .ref m), (1, .int (nI N)), (2, .int (nI 0)), (3, .int (nI 0))]) rfl ?_
  exact lp_Mo_packed m h0 g hg h11 N hN hX hQ hr N 0 (by omega)
set_option maxRecDepth 100000 in
set_option maxHeartbeats 4000000 in
theorem lp_Mo_givenRow {X : gw_C} {σ : gw_S} (m : Nat) {th rs be se kp kw : Int32} {len sn mk ps : Nat} {bs s2 : Int64} (h0 : σ.2 m = some (.inr (1, [.int th, .int (nI len), .ref (m + 1), .int (nI sn), .ref (m + 2), .ref (m + 3), .ref (m + 4), .int rs, .ref (m + 5), .ref (m + 6), .ref (m + 7), .ref (m + 8), .ref (m + 9), .int (nI mk), .int (nI ps), .ref (m + 10), .ref (m + 11), .ref (m + 12), .long bs, .long s2, .int be, .int se, .int kp, .int kw]))) (fm fl : Nat → Int32) (h2 : σ.2 (m + 2) = some (gw_I (gw_z X) 9 fm)) (h4 : σ.2 (m + 4) = some (gw_I (gw_z X) 54 fl)) (j : Nat) (hj : j ≤ 8) (ws : List px_W) (hso : se_ok ws) (hsl : ws.length ≤ 6) (hm : fm j = nI ws.length) (hml : mm_l fl j ws) (hX : gw_ok X nc_Mo_givenRow "LabelLearnerModel" (4, 0, 0, 0, 0)) (hQ : X.2.2.2.2 = gw_end X (fun v σ' => v = some (.int (nI (se_c ws))) ∧ σ' = σ) 0 0) (hr : X.2.2.1.1.sig.returnType = (some .int)) : ∀ (u : Nat) (k : Nat), k + u = ws.length → gw_W X σ 0 0 4 [(0, .ref m), (1, .int (nI j)), (2, .int (nI (tl_d (gr_g ws) k))), (3, .int (nI k))] [] := by
  intro u
  induction u using Nat.strongRecOn with
  | ind u ih =>
    intro k
    intro hk
    refine gw_iload_n hX nd_Mo_givenRow_4 rfl 3 rfl ?_
    refine gw_aload_n hX nd_Mo_givenRow_5 rfl 0 rfl ?_
    refine gw_get hX kf_Mo_13 nd_Mo_givenRow_6 h0 rfl ?_
    refine gw_iload_n hX nd_Mo_givenRow_9 rfl 1 rfl ?_
    refine gw_iald hX nd_Mo_givenRow_10 h2 j rfl (by omega) (by decide) ?_
    refine gw_topi (y := nI ws.length) hm ?_
    refine gw_icmp_ge (tgt := 38) hX nd_Mo_givenRow_11 rfl (fun hb => ?_) (fun hb => ?_)
    · have hb : ws.length ≤ k := (nI_leI (a := ws.length) (b := k) (by omega) (by omega)).mp hb
      refine gw_iload_n hX nd_Mo_givenRow_38 rfl 2 rfl ?_
      exact gw_iret hX hQ hr nd_Mo_givenRow_39 (by decide) (by decide) ⟨by rw [show k = ws.length by omega]; rfl, rfl⟩
    · have hb : ¬ ws.length ≤ k := fun h => hb ((nI_leI (a := ws.length) (b := k) (by omega) (by omega)).mpr h)
      refine gw_iload_n hX nd_Mo_givenRow_14 rfl 2 rfl ?_
      refine gw_aload_n hX nd_Mo_givenRow_15 rfl 0 rfl ?_
      refine gw_get hX kf_Mo_19 nd_Mo_givenRow_16 h0 rfl ?_
      refine gw_bipush (v := nI 6) hX nd_Mo_givenRow_19 rfl ?_
      refine gw_iload_n hX nd_Mo_givenRow_21 rfl 1 rfl ?_
      refine gw_imul hX nd_Mo_givenRow_22 ?_
      refine gw_topi (y := nI (6 * j)) (pk_mul _ _) ?_
      refine gw_iload_n hX nd_Mo_givenRow_23 rfl 3 rfl ?_
      refine gw_iadd hX nd_Mo_givenRow_24 ?_
      refine gw_topi (y := nI (6 * j + k)) (nI_add _ _) ?_
      refine gw_iald hX nd_Mo_givenRow_25 h4 (6 * j + k) rfl (by omega) (by decide) ?_
      refine gw_topi (y := nI (gr_g ws k)) (gr_at hml (by omega)) ?_
      refine gw_iconst (v := nI 2) hX nd_Mo_givenRow_26 rfl ?_
      refine gw_iload_n hX nd_Mo_givenRow_27 rfl 3 rfl ?_
      refine gw_imul hX nd_Mo_givenRow_28 ?_
      refine gw_topi (y := nI (2 * k)) (pk_mul _ _) ?_
      refine gw_ishl hX nd_Mo_givenRow_29 ?_
      refine gw_ior hX nd_Mo_givenRow_30 ?_
      refine gw_topi (y := nI (tl_d (gr_g ws) (k + 1))) (pk_step (fun w _ => gr_lt hso w) (by omega)) ?_
      refine gw_istore_n hX nd_Mo_givenRow_31 rfl (by decide) (L' := [(2, .int (nI (tl_d (gr_g ws) (k + 1)))), (0, .ref m), (1, .int (nI j)), (3, .int (nI k))]) rfl ?_
      refine gw_iinc hX nd_Mo_givenRow_32 3 rfl (v := nI (k + 1)) (show nI k + nI 1 = nI (k + 1) from nI_add _ _) (by decide) (L' := [(3, .int (nI (k + 1))), (2, .int (nI (tl_d (gr_g ws) (k + 1)))), (0, .ref m), (1, .int (nI j))]) rfl ?_
      refine gw_goto (tgt := 4) hX nd_Mo_givenRow_35 rfl ?_
      refine gw_cut (ks := [2, 3, 1, 0]) (L' := [(0, .ref m), (1, .int (nI j)), (2, .int (nI (tl_d (gr_g ws) (k + 1)))), (3, .int (nI (k + 1)))]) rfl ?_
      exact ih (u - 1) (by omega) (k + 1) (by omega)
set_option maxRecDepth 100000 in
set_option maxHeartbeats 4000000 in
theorem ct_Mo_givenRow (l : Launch) (Z : gw_Z) (b0 : Nat) (σ : gw_S) (m : Nat) {th rs be se kp kw : Int32} {len sn mk ps : Nat} {bs s2 : Int64} (h0 : σ.2 m = some (.inr (1, [.int th, .int (nI len), .ref (m + 1), .int (nI sn), .ref (m + 2), .ref (m + 3), .ref (m + 4), .int rs, .ref (m + 5), .ref (m + 6), .ref (m + 7), .ref (m + 8), .ref (m + 9), .int (nI mk), .int (nI ps), .ref (m + 10), .ref (m + 11), .ref (m + 12), .long bs, .long s2, .int be, .int se, .int kp, .int kw]))) (fm fl : Nat → Int32) (h2 : σ.2 (m + 2) = some (gw_I Z 9 fm)) (h4 : σ.2 (m + 4) = some (gw_I Z 54 fl)) (j : Nat) (hj : j ≤ 8) (ws : List px_W) (hso : se_ok ws) (hsl : ws.length ≤ 6) (hm : fm j = nI ws.length) (hml : mm_l fl j ws) : gw_M l ny_Mo_givenRow nc_Mo_givenRow (4, 0, 0, 0, 0) (some .int) Z b0 σ [.ref m, .int (nI j)] (fun v σ' => v = some (.int (nI (se_c ws))) ∧ σ' = σ) := by
  refine gw_M_of rfl (Nat.le_of_ble_eq_true rfl) ?_
  intro X hX hl hz hb0 hr hnm hQ
  subst hz hb0 hl
  have hX : gw_ok X nc_Mo_givenRow "LabelLearnerModel" (4, 0, 0, 0, 0) := hX
  show gw_W X σ 0 0 0 [(0, .ref m), (1, .int (nI j))] []
  refine gw_iconst (v := nI 0) hX nd_Mo_givenRow_0 rfl ?_
  refine gw_istore_n hX nd_Mo_givenRow_1 rfl (by decide) (L' := [(2, .int (nI 0)), (0, .ref m), (1, .int (nI j))]) rfl ?_
  refine gw_iconst (v := nI 0) hX nd_Mo_givenRow_2 rfl ?_
  refine gw_istore_n hX nd_Mo_givenRow_3 rfl (by decide) (L' := [(3, .int (nI 0)), (2, .int (nI 0)), (0, .ref m), (1, .int (nI j))]) rfl ?_
  refine gw_cut (ks := [2, 3, 1, 0]) (L' := [(0, .ref m), (1, .int (nI j)), (2, .int (nI 0)), (3, .int (nI 0))]) rfl ?_
  exact lp_Mo_givenRow m h0 fm fl h2 h4 j hj ws hso hsl hm hml hX hQ hr ws.length 0 (by omega)
set_option maxRecDepth 100000 in
set_option maxHeartbeats 4000000 in
theorem lp_Mo_prep {X : gw_C} (m a : Nat) (hma : m < a) (hma2 : a + 1 ≤ m + 10) (ham : a ≠ m + 2) (ham3 : a ≠ m + 3) {th rs be se kp kw : Int32} {len sn mk ps : Nat} {bs s2 : Int64} (fm fb : Nat → Int32) (j : Nat) (hj : j ≤ 8) (ws : List px_W) (hso : se_ok ws) (hsl : ws.length ≤ 6) (hmb : mm_b fm fb j ws) (wt : Nat → Int) {σ0 : gw_S} (hX : gw_ok X nc_Mo_prepare "LabelLearnerModel" (8, 1, 22, 0, 0)) (hQ : X.2.2.2.2 = gw_end X (fun v σ' => v = none ∧ (∃ f, σ'.2 (m + 10) = some (gw_J (gw_z X) 24 f) ∧ pr_ok f wt ws (4 * ws.length)) ∧ gw_fr σ0 σ' (m + 10) (m + 11)) 0 0) (hr : X.2.2.1.1.sig.returnType = none) : ∀ (u : Nat) (w q k : Nat) (f : Nat → Int64) (σ : gw_S), ((w < ws.length ∧ q < 4) ∧ k ≤ 3) → u = (4 * (6 - w) + (4 - q)) * 8 + (4 - k) → pr_ok f wt ws (4 * w + q) → σ.2 m = some (.inr (1, [.int th, .int (nI len), .ref (m + 1), .int (nI sn), .ref (m + 2), .ref (m + 3), .ref (m + 4), .int rs, .ref (m + 5), .ref (m + 6), .ref (m + 7), .ref (m + 8), .ref (m + 9), .int (nI mk), .int (nI ps), .ref (m + 10), .ref (m + 11), .ref (m + 12), .long bs, .long s2, .int be, .int se, .int kp, .int kw])) → σ.2 (m + 2) = some (gw_I (gw_z X) 9 fm) → σ.2 (m + 3) = some (gw_I (gw_z X) 162 fb) → σ.2 a = some (gw_J (gw_z X) 148 (fun j => iL (wt j))) → σ.2 (m + 10) = some (gw_J (gw_z X) 24 f) → gw_fr σ0 σ (m + 10) (m + 11) → gw_W X σ 0 0 42 [(0, .ref m), (1, .int (nI j)), (2, .ref a), (3, .int (nI w)), (4, .int (nI q)), (5, .long (iL (pr_k wt ws w q k))), (7, .int (nI k))] [] := by
  intro u
  induction u using Nat.strongRecOn with
  | ind u ih =>
    intro w q k f σ
    intro hwq hu hpr h0 h2 h3 ha h10 fr
    refine gw_iload hX nd_Mo_prepare_42 6 rfl ?_
    refine gw_iconst (v := nI 3) hX nd_Mo_prepare_44 rfl ?_
    refine gw_icmp_ge (tgt := 81) hX nd_Mo_prepare_45 rfl (fun hb => ?_) (fun hb => ?_)
    · have hb : 3 ≤ k := (nI_leI (a := 3) (b := k) (by omega) (by omega)).mp hb
      refine gw_aload_n hX nd_Mo_prepare_81 rfl 0 rfl ?_
      refine gw_get hX kf_Mo_38 nd_Mo_prepare_82 h0 rfl ?_
      refine gw_iconst (v := nI 4) hX nd_Mo_prepare_85 rfl ?_
      refine gw_iload_n hX nd_Mo_prepare_86 rfl 3 rfl ?_
      refine gw_imul hX nd_Mo_prepare_87 ?_
      refine gw_topi (y := nI (4 * w)) (pk_mul _ _) ?_
      refine gw_iload hX nd_Mo_prepare_88 4 rfl ?_
      refine gw_iadd hX nd_Mo_prepare_90 ?_
      refine gw_topi (y := nI (4 * w + q)) (nI_add _ _) ?_
      refine gw_lload hX nd_Mo_prepare_91 5 rfl ?_
      have hk3 : k = 3 := by omega
      refine gw_topl (y := iL (pr_v wt ws w q)) (by rw [hk3]; rfl) ?_
      refine gw_last hX nd_Mo_prepare_93 h10 (4 * w + q) rfl (by omega) (by decide) ?_
      obtain ⟨σ1, eσ1⟩ : ∃ hp_, hp_ = gw_up σ (m + 10) ((gw_J (gw_z X) 24 (vp_updL f (4 * w + q) (iL (pr_v wt ws w q))))) := ⟨_, rfl⟩
      refine gw_heap eσ1.symm ?_
      have h0 : σ1.2 m = some (.inr (1, [.int th, .int (nI len), .ref (m + 1), .int (nI sn), .ref (m + 2), .ref (m + 3), .ref (m + 4), .int rs, .ref (m + 5), .ref (m + 6), .ref (m + 7), .ref (m + 8), .ref (m + 9), .int (nI mk), .int (nI ps), .ref (m + 10), .ref (m + 11), .ref (m + 12), .long bs, .long s2, .int be, .int se, .int kp, .int kw])) := by rw [eσ1, gw_up_ne (by omega)]; exact h0
      have h2 : σ1.2 (m + 2) = some ((gw_I (gw_z X) 9 fm)) := by rw [eσ1, gw_up_ne (by omega)]; exact h2
      have h3 : σ1.2 (m + 3) = some ((gw_I (gw_z X) 162 fb)) := by rw [eσ1, gw_up_ne (by omega)]; exact h3
      have ha : σ1.2 a = some ((gw_J (gw_z X) 148 (fun j => iL (wt j)))) := by rw [eσ1, gw_up_ne (by omega)]; exact ha
      have h10 : σ1.2 (m + 10) = some ((gw_J (gw_z X) 24 (vp_updL f (4 * w + q) (iL (pr_v wt ws w q))))) := by rw [eσ1]; exact gw_up_eq _ _ _
      have fr : gw_fr σ0 σ1 (m + 10) (m + 11) := gw_fr_tr fr (show gw_fr _ σ1 (m + 10) (m + 11) by rw [eσ1]; exact gw_fr_up _ _ _ (by omega) (by omega))
      have hpr1 := pr_ok_s hpr hwq.1.2
      refine gw_iinc hX nd_Mo_prepare_94 4 rfl (v := nI (q + 1)) (show nI q + nI 1 = nI (q + 1) from nI_add _ _) (by decide) (L' := [(4, .int (nI (q + 1))), (0, .ref m), (1, .int (nI j)), (2, .ref a), (3, .int (nI w)), (5, .long (iL (pr_k wt ws w q k))), (7, .int (nI k))]) rfl ?_
      refine gw_goto (tgt := 15) hX nd_Mo_prepare_97 rfl ?_
      refine gw_iload hX nd_Mo_prepare_15 0 rfl ?_
      refine gw_iconst (v := nI 4) hX nd_Mo_prepare_17 rfl ?_
      refine gw_icmp_ge (tgt := 100) hX nd_Mo_prepare_18 rfl (fun hb => ?_) (fun hb => ?_)
      · have hb : 4 ≤ q + 1 := (nI_leI (a := 4) (b := q + 1) (by omega) (by omega)).mp hb
        refine gw_iinc hX nd_Mo_prepare_100 4 rfl (v := nI (w + 1)) (show nI w + nI 1 = nI (w + 1) from nI_add _ _) (by decide) (L' := [(3, .int (nI (w + 1))), (4, .int (nI (q + 1))), (0, .ref m), (1, .int (nI j)), (2, .ref a), (5, .long (iL (pr_k wt ws w q k))), (7, .int (nI k))]) rfl ?_
        refine gw_goto (tgt := 2) hX nd_Mo_prepare_103 rfl ?_
        refine gw_iload_n hX nd_Mo_prepare_2 rfl 0 rfl ?_
        refine gw_aload_n hX nd_Mo_prepare_3 rfl 2 rfl ?_
        refine gw_get hX kf_Mo_13 nd_Mo_prepare_4 h0 rfl ?_
        refine gw_iload_n hX nd_Mo_prepare_7 rfl 3 rfl ?_
        refine gw_iald hX nd_Mo_prepare_8 h2 j rfl (by omega) (by decide) ?_
        refine gw_topi (y := nI ws.length) hmb.1 ?_
        refine gw_icmp_ge (tgt := 106) hX nd_Mo_prepare_9 rfl (fun hb => ?_) (fun hb => ?_)
        · have hb : ws.length ≤ w + 1 := (nI_leI (a := ws.length) (b := w + 1) (by omega) (by omega)).mp hb
          exact gw_vret hX hQ hr nd_Mo_prepare_106 (by decide) (by decide) ⟨rfl, ⟨_, h10, by rw [show 4 * ws.length = 4 * w + (q + 1) by omega]; exact hpr1⟩, fr⟩
        · have hb : ¬ ws.length ≤ w + 1 := fun h => hb ((nI_leI (a := ws.length) (b := w + 1) (by omega) (by omega)).mpr h)
          refine gw_iconst (v := nI 0) hX nd_Mo_prepare_12 rfl ?_
          refine gw_istore hX nd_Mo_prepare_13 (by decide) (L' := [(4, .int (nI 0)), (3, .int (nI (w + 1))), (0, .ref m), (1, .int (nI j)), (2, .ref a), (5, .long (iL (pr_k wt ws w q k))), (7, .int (nI k))]) rfl ?_
          refine gw_iload hX nd_Mo_prepare_15 0 rfl ?_
          refine gw_iconst (v := nI 4) hX nd_Mo_prepare_17 rfl ?_
          refine gw_icmp_ge (tgt := 100) hX nd_Mo_prepare_18 rfl (fun hb => ?_) (fun hb => ?_)
          · have hb : 4 ≤ 0 := (nI_leI (a := 4) (b := 0) (by omega) (by omega)).mp hb
            exfalso; omega
          · have hb : ¬ 4 ≤ 0 := fun h => hb ((nI_leI (a := 4) (b := 0) (by omega) (by omega)).mpr h)
            refine gw_iload_n hX nd_Mo_prepare_21 rfl 1 rfl ?_
            refine gw_if_ne (tgt := 36) hX nd_Mo_prepare_22 rfl (fun hb => ?_) (fun hb => ?_)
            · have hb : ¬ w + 1 = 0 := fun h => hb ((nI_eq (a := w + 1) (b := 0) (by omega) (by omega)).mpr h)
              refine gw_lconst (v := 0) hX nd_Mo_prepare_36 rfl ?_
              refine gw_topl (y := iL (pr_k wt ws (w + 1) 0 0)) (by unfold pr_k; rw [if_neg (by omega)]; rfl) ?_
              refine gw_lstore hX nd_Mo_prepare_37 (by decide) (L' := [(5, .long (iL (pr_k wt ws (w + 1) 0 0))), (4, .int (nI 0)), (3, .int (nI (w + 1))), (0, .ref m), (1, .int (nI j)), (2, .ref a), (7, .int (nI k))]) rfl ?_
              refine gw_iconst (v := nI 0) hX nd_Mo_prepare_39 rfl ?_
              refine gw_istore hX nd_Mo_prepare_40 (by decide) (L' := [(7, .int (nI 0)), (5, .long (iL (pr_k wt ws (w + 1) 0 0))), (4, .int (nI 0)), (3, .int (nI (w + 1))), (0, .ref m), (1, .int (nI j)), (2, .ref a)]) rfl ?_
              refine gw_cut (ks := [4, 5, 6, 3, 2, 1, 0]) (L' := [(0, .ref m), (1, .int (nI j)), (2, .ref a), (3, .int (nI (w + 1))), (4, .int (nI 0)), (5, .long (iL (pr_k wt ws (w + 1) 0 0))), (7, .int (nI 0))]) rfl ?_
              exact ih ((4 * (6 - (w + 1)) + (4 - 0)) * 8 + (4 - 0)) (by omega) (w + 1) 0 0 _ _ (by omega) rfl (by rw [show 4 * (w + 1) + 0 = 4 * w + (q + 1) by omega]; exact hpr1) h0 h2 h3 ha h10 fr
            · have hb : w + 1 = 0 := (nI_eq (a := w + 1) (b := 0) (by omega) (by omega)).mp hb
              exfalso; omega
      · have hb : ¬ 4 ≤ q + 1 := fun h => hb ((nI_leI (a := 4) (b := q + 1) (by omega) (by omega)).mpr h)
        refine gw_iload_n hX nd_Mo_prepare_21 rfl 4 rfl ?_
        refine gw_if_ne (tgt := 36) hX nd_Mo_prepare_22 rfl (fun hb => ?_) (fun hb => ?_)
        · have hb : ¬ w = 0 := fun h => hb ((nI_eq (a := w) (b := 0) (by omega) (by omega)).mpr h)
          refine gw_lconst (v := 0) hX nd_Mo_prepare_36 rfl ?_
          refine gw_topl (y := iL (pr_k wt ws w (q + 1) 0)) (by unfold pr_k; rw [if_neg (by omega)]; rfl) ?_
          refine gw_lstore hX nd_Mo_prepare_37 (by decide) (L' := [(5, .long (iL (pr_k wt ws w (q + 1) 0))), (4, .int (nI (q + 1))), (0, .ref m), (1, .int (nI j)), (2, .ref a), (3, .int (nI w)), (7, .int (nI k))]) rfl ?_
          refine gw_iconst (v := nI 0) hX nd_Mo_prepare_39 rfl ?_
          refine gw_istore hX nd_Mo_prepare_40 (by decide) (L' := [(7, .int (nI 0)), (5, .long (iL (pr_k wt ws w (q + 1) 0))), (4, .int (nI (q + 1))), (0, .ref m), (1, .int (nI j)), (2, .ref a), (3, .int (nI w))]) rfl ?_
          refine gw_cut (ks := [3, 4, 5, 6, 2, 1, 0]) (L' := [(0, .ref m), (1, .int (nI j)), (2, .ref a), (3, .int (nI w)), (4, .int (nI (q + 1))), (5, .long (iL (pr_k wt ws w (q + 1) 0))), (7, .int (nI 0))]) rfl ?_
          exact ih ((4 * (6 - w) + (4 - (q + 1))) * 8 + (4 - 0)) (by omega) w (q + 1) 0 _ _ (by omega) rfl hpr1 h0 h2 h3 ha h10 fr
        · have hb : w = 0 := (nI_eq (a := w) (b := 0) (by omega) (by omega)).mp hb
          refine gw_aload_n hX nd_Mo_prepare_25 rfl 3 rfl ?_
          refine gw_bipush (v := nI 32) hX nd_Mo_prepare_26 rfl ?_
          refine gw_iload hX nd_Mo_prepare_28 0 rfl ?_
          refine gw_callS (rest := []) hX ks_Mo_108 (ct_Mo_of _ _ _ _ a 32 (q + 1) (fun j => iL (wt j)) ha (by omega) (by omega)) rfl rfl (Nat.le_of_ble_eq_true rfl) nd_Mo_prepare_30 (by decide) ?_
          rintro v_ s_ ⟨hv_, hs_⟩
          have hs_ := hs_.symm
          subst hs_ hv_
          show gw_W X σ1 0 0 33 [(4, .int (nI (q + 1))), (0, .ref m), (1, .int (nI j)), (2, .ref a), (3, .int (nI w)), (5, .long (iL (pr_k wt ws w q k))), (7, .int (nI k))] [.long (iL (wt (4 * 32 + (q + 1))))]
          refine gw_topl (y := iL (pr_k wt ws w (q + 1) 0)) (by unfold pr_k; rw [if_pos hb]; show _ = iL (wt (32 * 4 + (q + 1)) + 0); rw [Int.add_zero]) ?_
          refine gw_goto (tgt := 37) hX nd_Mo_prepare_33 rfl ?_
          refine gw_lstore hX nd_Mo_prepare_37 (by decide) (L' := [(5, .long (iL (pr_k wt ws w (q + 1) 0))), (4, .int (nI (q + 1))), (0, .ref m), (1, .int (nI j)), (2, .ref a), (3, .int (nI w)), (7, .int (nI k))]) rfl ?_
          refine gw_iconst (v := nI 0) hX nd_Mo_prepare_39 rfl ?_
          refine gw_istore hX nd_Mo_prepare_40 (by decide) (L' := [(7, .int (nI 0)), (5, .long (iL (pr_k wt ws w (q + 1) 0))), (4, .int (nI (q + 1))), (0, .ref m), (1, .int (nI j)), (2, .ref a), (3, .int (nI w))]) rfl ?_
          refine gw_cut (ks := [3, 4, 5, 6, 2, 1, 0]) (L' := [(0, .ref m), (1, .int (nI j)), (2, .ref a), (3, .int (nI w)), (4, .int (nI (q + 1))), (5, .long (iL (pr_k wt ws w (q + 1) 0))), (7, .int (nI 0))]) rfl ?_
          exact ih ((4 * (6 - w) + (4 - (q + 1))) * 8 + (4 - 0)) (by omega) w (q + 1) 0 _ _ (by omega) rfl hpr1 h0 h2 h3 ha h10 fr
    · have hb : ¬ 3 ≤ k := fun h => hb ((nI_leI (a := 3) (b := k) (by omega) (by omega)).mpr h)
      refine gw_lload hX nd_Mo_prepare_48 5 rfl ?_
      refine gw_aload_n hX nd_Mo_prepare_50 rfl 2 rfl ?_
      refine gw_aload_n hX nd_Mo_prepare_51 rfl 0 rfl ?_
      refine gw_get hX kf_Mo_16 nd_Mo_prepare_52 h0 rfl ?_
      refine gw_iconst (v := nI 3) hX nd_Mo_prepare_55 rfl ?_
      refine gw_bipush (v := nI 6) hX nd_Mo_prepare_56 rfl ?_
      refine gw_iload_n hX nd_Mo_prepare_58 rfl 1 rfl ?_
      refine gw_imul hX nd_Mo_prepare_59 ?_
      refine gw_topi (y := nI (6 * j)) (pk_mul _ _) ?_
      refine gw_iload_n hX nd_Mo_prepare_60 rfl 3 rfl ?_
      refine gw_iadd hX nd_Mo_prepare_61 ?_
      refine gw_topi (y := nI (6 * j + w)) (nI_add _ _) ?_
      refine gw_imul hX nd_Mo_prepare_62 ?_
      refine gw_topi (y := nI (3 * (6 * j + w))) (pk_mul _ _) ?_
      refine gw_iload hX nd_Mo_prepare_63 6 rfl ?_
      refine gw_iadd hX nd_Mo_prepare_65 ?_
      refine gw_topi (y := nI (3 * (6 * j + w) + k)) (nI_add _ _) ?_
      refine gw_iald hX nd_Mo_prepare_66 h3 (3 * (6 * j + w) + k) rfl (by omega) (by decide) ?_
      refine gw_topi (y := nI (se_B ws (w * 3 + k))) (mb_at hmb hwq.1.1 (by omega)) ?_
      refine gw_iload hX nd_Mo_prepare_67 4 rfl ?_
      refine gw_callS (rest := [.long (iL (pr_k wt ws w q k))]) hX ks_Mo_108 (ct_Mo_of _ _ _ σ a (se_B ws (w * 3 + k)) q (fun j => iL (wt j)) ha (by have := se_B_lt hso (w * 3 + k); omega) hwq.1.2) rfl rfl (Nat.le_of_ble_eq_true rfl) nd_Mo_prepare_69 (by decide) ?_
      rintro v_ s_ ⟨hv_, hs_⟩
      have hs_ := hs_.symm
      subst hs_ hv_
      show gw_W X σ 0 0 72 [(0, .ref m), (1, .int (nI j)), (2, .ref a), (3, .int (nI w)), (4, .int (nI q)), (5, .long (iL (pr_k wt ws w q k))), (7, .int (nI k))] [.long (iL (wt (4 * se_B ws (w * 3 + k) + q))), .long (iL (pr_k wt ws w q k))]
      refine gw_ladd hX nd_Mo_prepare_72 ?_
      refine gw_topl (y := iL (pr_k wt ws w q (k + 1))) (pr_k_s wt ws w q k) ?_
      refine gw_lstore hX nd_Mo_prepare_73 (by decide) (L' := [(5, .long (iL (pr_k wt ws w q (k + 1)))), (0, .ref m), (1, .int (nI j)), (2, .ref a), (3, .int (nI w)), (4, .int (nI q)), (7, .int (nI k))]) rfl ?_
      refine gw_iinc hX nd_Mo_prepare_75 6 rfl (v := nI (k + 1)) (show nI k + nI 1 = nI (k + 1) from nI_add _ _) (by decide) (L' := [(7, .int (nI (k + 1))), (5, .long (iL (pr_k wt ws w q (k + 1)))), (0, .ref m), (1, .int (nI j)), (2, .ref a), (3, .int (nI w)), (4, .int (nI q))]) rfl ?_
      refine gw_goto (tgt := 42) hX nd_Mo_prepare_78 rfl ?_
      refine gw_cut (ks := [2, 3, 4, 5, 6, 1, 0]) (L' := [(0, .ref m), (1, .int (nI j)), (2, .ref a), (3, .int (nI w)), (4, .int (nI q)), (5, .long (iL (pr_k wt ws w q (k + 1)))), (7, .int (nI (k + 1)))]) rfl ?_
      exact ih ((4 * (6 - w) + (4 - q)) * 8 + (4 - (k + 1))) (by omega) w q (k + 1) f _ (by omega) rfl hpr h0 h2 h3 ha h10 fr
set_option maxRecDepth 100000 in
set_option maxHeartbeats 4000000 in
theorem ct_Mo_prepare (l : Launch) (Z : gw_Z) (b0 : Nat) (σ : gw_S) (m a : Nat) (hma : m < a) (hma2 : a + 1 ≤ m + 10) (ham : a ≠ m + 2) (ham3 : a ≠ m + 3) {th rs be se kp kw : Int32} {len sn mk ps : Nat} {bs s2 : Int64} (fm fb : Nat → Int32) (j : Nat) (hj : j ≤ 8) (ws : List px_W) (hso : se_ok ws) (hsl : ws.length ≤ 6) (hmb : mm_b fm fb j ws) (wt : Nat → Int) (hws0 : 0 < ws.length) (f : Nat → Int64) (h0 : σ.2 m = some (.inr (1, [.int th, .int (nI len), .ref (m + 1), .int (nI sn), .ref (m + 2), .ref (m + 3), .ref (m + 4), .int rs, .ref (m + 5), .ref (m + 6), .ref (m + 7), .ref (m + 8), .ref (m + 9), .int (nI mk), .int (nI ps), .ref (m + 10), .ref (m + 11), .ref (m + 12), .long bs, .long s2, .int be, .int se, .int kp, .int kw]))) (h2 : σ.2 (m + 2) = some (gw_I Z 9 fm)) (h3 : σ.2 (m + 3) = some (gw_I Z 162 fb)) (ha : σ.2 a = some (gw_J Z 148 (fun j => iL (wt j)))) (h10 : σ.2 (m + 10) = some (gw_J Z 24 f)) : gw_M l ny_Mo_prepare nc_Mo_prepare (8, 1, 22, 0, 0) none Z b0 σ [.ref m, .int (nI j), .ref a] (fun v σ' => v = none ∧ (∃ f, σ'.2 (m + 10) = some (gw_J Z 24 f) ∧ pr_ok f wt ws (4 * ws.length)) ∧ gw_fr σ σ' (m + 10) (m + 11)) := by
  refine gw_M_of rfl (Nat.le_of_ble_eq_true rfl) ?_
  intro X hX hl hz hb0 hr hnm hQ
  subst hz hb0 hl
  have hX : gw_ok X nc_Mo_prepare "LabelLearnerModel" (8, 1, 22, 0, 0) := hX
  show gw_W X σ 0 0 0 [(0, .ref m), (1, .int (nI j)), (2, .ref a)] []
  refine gw_iconst (v := nI 0) hX nd_Mo_prepare_0 rfl ?_
  refine gw_istore_n hX nd_Mo_prepare_1 rfl (by decide) (L' := [(3, .int (nI 0)), (0, .ref m), (1, .int (nI j)), (2, .ref a)]) rfl ?_
  refine gw_iload_n hX nd_Mo_prepare_2 rfl 0 rfl ?_
  refine gw_aload_n hX nd_Mo_prepare_3 rfl 1 rfl ?_
  refine gw_get hX kf_Mo_13 nd_Mo_prepare_4 h0 rfl ?_
  refine gw_iload_n hX nd_Mo_prepare_7 rfl 2 rfl ?_
  refine gw_iald hX nd_Mo_prepare_8 h2 j rfl (by omega) (by decide) ?_
  refine gw_topi (y := nI ws.length) hmb.1 ?_
  refine gw_icmp_ge (tgt := 106) hX nd_Mo_prepare_9 rfl (fun hb => ?_) (fun hb => ?_)
  · have hb : ws.length ≤ 0 := (nI_leI (a := ws.length) (b := 0) (by omega) (by omega)).mp hb
    exfalso; omega
  · have hb : ¬ ws.length ≤ 0 := fun h => hb ((nI_leI (a := ws.length) (b := 0) (by omega) (by omega)).mpr h)
    refine gw_iconst (v := nI 0) hX nd_Mo_prepare_12 rfl ?_
    refine gw_istore hX nd_Mo_prepare_13 (by decide) (L' := [(4, .int (nI 0)), (3, .int (nI 0)), (0, .ref m), (1, .int (nI j)), (2, .ref a)]) rfl ?_
    refine gw_iload hX nd_Mo_prepare_15 0 rfl ?_
    refine gw_iconst (v := nI 4) hX nd_Mo_prepare_17 rfl ?_
    refine gw_icmp_ge (tgt := 100) hX nd_Mo_prepare_18 rfl (fun hb => ?_) (fun hb => ?_)
    · have hb : 4 ≤ 0 := (nI_leI (a := 4) (b := 0) (by omega) (by omega)).mp hb
      exfalso; omega
    · have hb : ¬ 4 ≤ 0 := fun h => hb ((nI_leI (a := 4) (b := 0) (by omega) (by omega)).mpr h)
      refine gw_iload_n hX nd_Mo_prepare_21 rfl 1 rfl ?_
      refine gw_if_ne (tgt := 36) hX nd_Mo_prepare_22 rfl (fun hb => ?_) (fun hb => ?_)
      · have hb : ¬ 0 = 0 := fun h => hb ((nI_eq (a := 0) (b := 0) (by omega) (by omega)).mpr h)
        exfalso; omega
      · have hb : 0 = 0 := (nI_eq (a := 0) (b := 0) (by omega) (by omega)).mp hb
        refine gw_aload_n hX nd_Mo_prepare_25 rfl 4 rfl ?_
        refine gw_bipush (v := nI 32) hX nd_Mo_prepare_26 rfl ?_
        refine gw_iload hX nd_Mo_prepare_28 0 rfl ?_
        refine gw_callS (rest := []) hX ks_Mo_108 (ct_Mo_of _ _ _ _ a 32 0 (fun j => iL (wt j)) ha (by omega) (by omega)) rfl rfl (Nat.le_of_ble_eq_true rfl) nd_Mo_prepare_30 (by decide) ?_
        rintro v_ s_ ⟨hv_, hs_⟩
        have hs_ := hs_.symm
        subst hs_ hv_
        show gw_W X σ 0 0 33 [(4, .int (nI 0)), (3, .int (nI 0)), (0, .ref m), (1, .int (nI j)), (2, .ref a)] [.long (iL (wt (4 * 32 + 0)))]
        refine gw_topl (y := iL (pr_k wt ws 0 0 0)) (by unfold pr_k; rw [if_pos (rfl : 0 = 0)]; show _ = iL (wt (32 * 4 + 0) + 0); rw [Int.add_zero]) ?_
        refine gw_goto (tgt := 37) hX nd_Mo_prepare_33 rfl ?_
        refine gw_lstore hX nd_Mo_prepare_37 (by decide) (L' := [(5, .long (iL (pr_k wt ws 0 0 0))), (4, .int (nI 0)), (3, .int (nI 0)), (0, .ref m), (1, .int (nI j)), (2, .ref a)]) rfl ?_
        refine gw_iconst (v := nI 0) hX nd_Mo_prepare_39 rfl ?_
        refine gw_istore hX nd_Mo_prepare_40 (by decide) (L' := [(7, .int (nI 0)), (5, .long (iL (pr_k wt ws 0 0 0))), (4, .int (nI 0)), (3, .int (nI 0)), (0, .ref m), (1, .int (nI j)), (2, .ref a)]) rfl ?_
        refine gw_cut (ks := [4, 5, 6, 3, 2, 1, 0]) (L' := [(0, .ref m), (1, .int (nI j)), (2, .ref a), (3, .int (nI 0)), (4, .int (nI 0)), (5, .long (iL (pr_k wt ws 0 0 0))), (7, .int (nI 0))]) rfl ?_
        exact lp_Mo_prep m a hma hma2 ham ham3 fm fb j hj ws hso hsl hmb wt hX hQ hr _ 0 0 0 f σ (by omega) rfl (fun q hq => by omega) h0 h2 h3 ha h10 (gw_fr_rf _ _ _)
theorem sf_0 {wt : Nat → Int} {ws : List px_W} {g : Nat → Nat} {k : Nat} (hk : k = 0) : iL (tl_m (wd_W wt (se_B ws)) (dc_P wt) (dc_F wt) g k) + iL (pr_v wt ws k (g k)) + iL 0 = iL (tl_m (wd_W wt (se_B ws)) (dc_P wt) (dc_F wt) g (k + 1)) := by
  rw [iL_add, iL_add, tl_m, pr_v]
  simp [hk]
theorem sf_s {wt : Nat → Int} {ws : List px_W} {g : Nat → Nat} {k : Nat} (hk : ¬ k = 0) : iL (tl_m (wd_W wt (se_B ws)) (dc_P wt) (dc_F wt) g k) + iL (pr_v wt ws k (g k)) + iL (wt (4 * (33 + g (k - 1)) + g k)) = iL (tl_m (wd_W wt (se_B ws)) (dc_P wt) (dc_F wt) g (k + 1)) := by
  rw [iL_add, iL_add, tl_m, pr_v]
  simp only [if_neg hk, dc_P, Nat.mul_comm 4]
theorem sf_up {f : Nat → Int64} {T : Nat → Int} {k : Nat} (h : ∀ w, w ≤ k → f w = iL (T w)) : ∀ w, w ≤ k + 1 → vp_updL f (k + 1) (iL (T (k + 1))) w = iL (T w) := by
  intro w hw
  by_cases e : w = k + 1
  · subst e; simp [vp_updL]
  · simp only [vp_updL]; rw [if_neg e]; exact h w (by omega)
theorem sf_pr {f : Nat → Int64} {wt : Nat → Int} {ws : List px_W} {N w q : Nat} (h : pr_ok f wt ws N) (hq : q < 4) (hN : 4 * w + q < N) : f (4 * w + q) = iL (pr_v wt ws w q) := by
  rw [h _ hN, show (4 * w + q) / 4 = w by omega, show (4 * w + q) % 4 = q by omega]
set_option maxRecDepth 100000 in
set_option maxHeartbeats 4000000 in
theorem lp_Mo_sumFrom {X : gw_C} (m a : Nat) (hma : m < a) (hma2 : a + 1 ≤ m + 10) {th rs be se kp kw : Int32} {len sn mk ps : Nat} {bs s2 : Int64} (ws : List px_W) (hsl : ws.length ≤ 6) (wt : Nat → Int) (f10 : Nat → Int64) (hpr : pr_ok f10 wt ws (4 * ws.length)) (g : Nat → Nat) (hg : ∀ w, w < 6 → g w < 4) {σ0 : gw_S} (hX : gw_ok X nc_Mo_sumFrom "LabelLearnerModel" (5, 1, 22, 0, 0)) (hQ : X.2.2.2.2 = gw_end X (fun v σ' => v = none ∧ (∃ f, σ'.2 (m + 12) = some (gw_J (gw_z X) 7 f) ∧ ∀ w, w ≤ ws.length → f w = iL (tl_m (wd_W wt (se_B ws)) (dc_P wt) (dc_F wt) g w)) ∧ gw_fr σ0 σ' (m + 12) (m + 13)) 0 0) (hr : X.2.2.1.1.sig.returnType = none) : ∀ (u : Nat) (k : Nat) (f : Nat → Int64) (σ : gw_S), k + u = ws.length → (∀ w, w ≤ k → f w = iL (tl_m (wd_W wt (se_B ws)) (dc_P wt) (dc_F wt) g w)) → σ.2 m = some (.inr (1, [.int th, .int (nI len), .ref (m + 1), .int (nI sn), .ref (m + 2), .ref (m + 3), .ref (m + 4), .int rs, .ref (m + 5), .ref (m + 6), .ref (m + 7), .ref (m + 8), .ref (m + 9), .int (nI mk), .int (nI ps), .ref (m + 10), .ref (m + 11), .ref (m + 12), .long bs, .long s2, .int be, .int se, .int kp, .int kw])) → σ.2 a = some (gw_J (gw_z X) 148 (fun j => iL (wt j))) → σ.2 (m + 10) = some (gw_J (gw_z X) 24 f10) → σ.2 (m + 11) = some (gw_I (gw_z X) 6 (fun w => nI (g w))) → σ.2 (m + 12) = some (gw_J (gw_z X) 7 f) → gw_fr σ0 σ (m + 12) (m + 13) → gw_W X σ 0 0 3 [(0, .ref m), (2, .int (nI ws.length)), (3, .ref a), (4, .int (nI k))] [] := by
  intro u
  induction u using Nat.strongRecOn with
  | ind u ih =>
    intro k f σ
    intro hk hf h0 ha h10 h11 h12 fr
    refine gw_iload hX nd_Mo_sumFrom_3 3 rfl ?_
    refine gw_iload_n hX nd_Mo_sumFrom_5 rfl 1 rfl ?_
    refine gw_icmp_ge (tgt := 82) hX nd_Mo_sumFrom_6 rfl (fun hb => ?_) (fun hb => ?_)
    · have hb : ws.length ≤ k := (nI_leI (a := ws.length) (b := k) (by omega) (by omega)).mp hb
      exact gw_vret hX hQ hr nd_Mo_sumFrom_82 (by decide) (by decide) ⟨rfl, ⟨_, h12, by rw [show ws.length = k by omega]; exact hf⟩, fr⟩
    · have hb : ¬ ws.length ≤ k := fun h => hb ((nI_leI (a := ws.length) (b := k) (by omega) (by omega)).mpr h)
      have hgk := hg k (by omega)
      refine gw_aload_n hX nd_Mo_sumFrom_9 rfl 0 rfl ?_
      refine gw_get hX kf_Mo_44 nd_Mo_sumFrom_10 h0 rfl ?_
      refine gw_iload hX nd_Mo_sumFrom_13 3 rfl ?_
      refine gw_iconst (v := nI 1) hX nd_Mo_sumFrom_15 rfl ?_
      refine gw_iadd hX nd_Mo_sumFrom_16 ?_
      refine gw_topi (y := nI (k + 1)) (nI_add _ _) ?_
      refine gw_aload_n hX nd_Mo_sumFrom_17 rfl 0 rfl ?_
      refine gw_get hX kf_Mo_44 nd_Mo_sumFrom_18 h0 rfl ?_
      refine gw_iload hX nd_Mo_sumFrom_21 3 rfl ?_
      refine gw_lald hX nd_Mo_sumFrom_23 h12 k rfl (by omega) (by decide) ?_
      refine gw_topl (y := iL (tl_m (wd_W wt (se_B ws)) (dc_P wt) (dc_F wt) g k)) (hf k (Nat.le_refl _)) ?_
      refine gw_aload_n hX nd_Mo_sumFrom_24 rfl 0 rfl ?_
      refine gw_get hX kf_Mo_38 nd_Mo_sumFrom_25 h0 rfl ?_
      refine gw_iconst (v := nI 4) hX nd_Mo_sumFrom_28 rfl ?_
      refine gw_iload hX nd_Mo_sumFrom_29 3 rfl ?_
      refine gw_imul hX nd_Mo_sumFrom_31 ?_
      refine gw_topi (y := nI (4 * k)) (pk_mul _ _) ?_
      refine gw_aload_n hX nd_Mo_sumFrom_32 rfl 0 rfl ?_
      refine gw_get hX kf_Mo_41 nd_Mo_sumFrom_33 h0 rfl ?_
      refine gw_iload hX nd_Mo_sumFrom_36 3 rfl ?_
      refine gw_iald hX nd_Mo_sumFrom_38 h11 k rfl (by omega) (by decide) ?_
      refine gw_topi (y := nI (g k)) rfl ?_
      refine gw_iadd hX nd_Mo_sumFrom_39 ?_
      refine gw_topi (y := nI (4 * k + (g k))) (nI_add _ _) ?_
      refine gw_lald hX nd_Mo_sumFrom_40 h10 (4 * k + (g k)) rfl (by omega) (by decide) ?_
      refine gw_topl (y := iL (pr_v wt ws k (g k))) (sf_pr hpr hgk (by omega)) ?_
      refine gw_ladd hX nd_Mo_sumFrom_41 ?_
      refine gw_iload hX nd_Mo_sumFrom_42 3 rfl ?_
      refine gw_if_ne (tgt := 51) hX nd_Mo_sumFrom_44 rfl (fun hb => ?_) (fun hb => ?_)
      · have hb : ¬ k = 0 := fun h => hb ((nI_eq (a := k) (b := 0) (by omega) (by omega)).mpr h)
        have hg1 := hg (k - 1) (by omega)
        refine gw_aload_n hX nd_Mo_sumFrom_51 rfl 2 rfl ?_
        refine gw_bipush (v := nI 33) hX nd_Mo_sumFrom_52 rfl ?_
        refine gw_aload_n hX nd_Mo_sumFrom_54 rfl 0 rfl ?_
        refine gw_get hX kf_Mo_41 nd_Mo_sumFrom_55 h0 rfl ?_
        refine gw_iload hX nd_Mo_sumFrom_58 3 rfl ?_
        refine gw_iconst (v := nI 1) hX nd_Mo_sumFrom_60 rfl ?_
        refine gw_isub hX nd_Mo_sumFrom_61 ?_
        refine gw_topi (y := nI (k - 1)) (by rw [show k = (k - 1) + 1 by omega]; exact nI_pred _) ?_
        refine gw_iald hX nd_Mo_sumFrom_62 h11 (k - 1) rfl (by omega) (by decide) ?_
        refine gw_topi (y := nI (g (k - 1))) rfl ?_
        refine gw_iadd hX nd_Mo_sumFrom_63 ?_
        refine gw_topi (y := nI (33 + (g (k - 1)))) (nI_add _ _) ?_
        refine gw_aload_n hX nd_Mo_sumFrom_64 rfl 0 rfl ?_
        refine gw_get hX kf_Mo_41 nd_Mo_sumFrom_65 h0 rfl ?_
        refine gw_iload hX nd_Mo_sumFrom_68 3 rfl ?_
        refine gw_iald hX nd_Mo_sumFrom_70 h11 k rfl (by omega) (by decide) ?_
        refine gw_topi (y := nI (g k)) rfl ?_
        refine gw_callS (rest := [.long ((iL (tl_m (wd_W wt (se_B ws)) (dc_P wt) (dc_F wt) g k)) + (iL (pr_v wt ws k (g k)))), .int (nI (k + 1)), .ref (m + 12)]) hX ks_Mo_108 (ct_Mo_of _ _ _ _ a (33 + g (k - 1)) (g k) (fun j => iL (wt j)) ha (by omega) (by omega)) rfl rfl (Nat.le_of_ble_eq_true rfl) nd_Mo_sumFrom_71 (by decide) ?_
        rintro v_ s_ ⟨hv_, hs_⟩
        have hs_ := hs_.symm
        subst hs_ hv_
        show gw_W X σ 0 0 74 [(0, .ref m), (2, .int (nI ws.length)), (3, .ref a), (4, .int (nI k))] [.long (iL (wt (4 * (33 + g (k - 1)) + g k))), .long ((iL (tl_m (wd_W wt (se_B ws)) (dc_P wt) (dc_F wt) g k)) + (iL (pr_v wt ws k (g k)))), .int (nI (k + 1)), .ref (m + 12)]
        refine gw_ladd hX nd_Mo_sumFrom_74 ?_
        refine gw_topl (y := iL (tl_m (wd_W wt (se_B ws)) (dc_P wt) (dc_F wt) g (k + 1))) (sf_s hb) ?_
        refine gw_last hX nd_Mo_sumFrom_75 h12 (k + 1) rfl (by omega) (by decide) ?_
        obtain ⟨σ1, eσ1⟩ : ∃ hp_, hp_ = gw_up σ (m + 12) ((gw_J (gw_z X) 7 (vp_updL f (k + 1) (iL (tl_m (wd_W wt (se_B ws)) (dc_P wt) (dc_F wt) g (k + 1)))))) := ⟨_, rfl⟩
        refine gw_heap eσ1.symm ?_
        have h0 : σ1.2 m = some (.inr (1, [.int th, .int (nI len), .ref (m + 1), .int (nI sn), .ref (m + 2), .ref (m + 3), .ref (m + 4), .int rs, .ref (m + 5), .ref (m + 6), .ref (m + 7), .ref (m + 8), .ref (m + 9), .int (nI mk), .int (nI ps), .ref (m + 10), .ref (m + 11), .ref (m + 12), .long bs, .long s2, .int be, .int se, .int kp, .int kw])) := by rw [eσ1, gw_up_ne (by omega)]; exact h0
        have ha : σ1.2 a = some ((gw_J (gw_z X) 148 (fun j => iL (wt j)))) := by rw [eσ1, gw_up_ne (by omega)]; exact ha
        have h10 : σ1.2 (m + 10) = some ((gw_J (gw_z X) 24 f10)) := by rw [eσ1, gw_up_ne (by omega)]; exact h10
        have h11 : σ1.2 (m + 11) = some ((gw_I (gw_z X) 6 (fun w => nI (g w)))) := by rw [eσ1, gw_up_ne (by omega)]; exact h11
        have h12 : σ1.2 (m + 12) = some ((gw_J (gw_z X) 7 (vp_updL f (k + 1) (iL (tl_m (wd_W wt (se_B ws)) (dc_P wt) (dc_F wt) g (k + 1)))))) := by rw [eσ1]; exact gw_up_eq _ _ _
        have fr : gw_fr σ0 σ1 (m + 12) (m + 13) := gw_fr_tr fr (show gw_fr _ σ1 (m + 12) (m + 13) by rw [eσ1]; exact gw_fr_up _ _ _ (by omega) (by omega))
        refine gw_iinc hX nd_Mo_sumFrom_76 3 rfl (v := nI (k + 1)) (show nI k + nI 1 = nI (k + 1) from nI_add _ _) (by decide) (L' := [(4, .int (nI (k + 1))), (0, .ref m), (2, .int (nI ws.length)), (3, .ref a)]) rfl ?_
        refine gw_goto (tgt := 3) hX nd_Mo_sumFrom_79 rfl ?_
        refine gw_cut (ks := [1, 2, 3, 0]) (L' := [(0, .ref m), (2, .int (nI ws.length)), (3, .ref a), (4, .int (nI (k + 1)))]) rfl ?_
        exact ih (u - 1) (by omega) (k + 1) _ _ (by omega) (sf_up hf) h0 ha h10 h11 h12 fr
      · have hb : k = 0 := (nI_eq (a := k) (b := 0) (by omega) (by omega)).mp hb
        refine gw_lconst (v := 0) hX nd_Mo_sumFrom_47 rfl ?_
        refine gw_topl (y := iL 0) rfl ?_
        refine gw_goto (tgt := 74) hX nd_Mo_sumFrom_48 rfl ?_
        refine gw_ladd hX nd_Mo_sumFrom_74 ?_
        refine gw_topl (y := iL (tl_m (wd_W wt (se_B ws)) (dc_P wt) (dc_F wt) g (k + 1))) (sf_0 hb) ?_
        refine gw_last hX nd_Mo_sumFrom_75 h12 (k + 1) rfl (by omega) (by decide) ?_
        obtain ⟨σ2, eσ2⟩ : ∃ hp_, hp_ = gw_up σ (m + 12) ((gw_J (gw_z X) 7 (vp_updL f (k + 1) (iL (tl_m (wd_W wt (se_B ws)) (dc_P wt) (dc_F wt) g (k + 1)))))) := ⟨_, rfl⟩
        refine gw_heap eσ2.symm ?_
        have h0 : σ2.2 m = some (.inr (1, [.int th, .int (nI len), .ref (m + 1), .int (nI sn), .ref (m + 2), .ref (m + 3), .ref (m + 4), .int rs, .ref (m + 5), .ref (m + 6), .ref (m + 7), .ref (m + 8), .ref (m + 9), .int (nI mk), .int (nI ps), .ref (m + 10), .ref (m + 11), .ref (m + 12), .long bs, .long s2, .int be, .int se, .int kp, .int kw])) := by rw [eσ2, gw_up_ne (by omega)]; exact h0
        have ha : σ2.2 a = some ((gw_J (gw_z X) 148 (fun j => iL (wt j)))) := by rw [eσ2, gw_up_ne (by omega)]; exact ha
        have h10 : σ2.2 (m + 10) = some ((gw_J (gw_z X) 24 f10)) := by rw [eσ2, gw_up_ne (by omega)]; exact h10
        have h11 : σ2.2 (m + 11) = some ((gw_I (gw_z X) 6 (fun w => nI (g w)))) := by rw [eσ2, gw_up_ne (by omega)]; exact h11
        have h12 : σ2.2 (m + 12) = some ((gw_J (gw_z X) 7 (vp_updL f (k + 1) (iL (tl_m (wd_W wt (se_B ws)) (dc_P wt) (dc_F wt) g (k + 1)))))) := by rw [eσ2]; exact gw_up_eq _ _ _
        have fr : gw_fr σ0 σ2 (m + 12) (m + 13) := gw_fr_tr fr (show gw_fr _ σ2 (m + 12) (m + 13) by rw [eσ2]; exact gw_fr_up _ _ _ (by omega) (by omega))
        refine gw_iinc hX nd_Mo_sumFrom_76 3 rfl (v := nI (k + 1)) (show nI k + nI 1 = nI (k + 1) from nI_add _ _) (by decide) (L' := [(4, .int (nI (k + 1))), (0, .ref m), (2, .int (nI ws.length)), (3, .ref a)]) rfl ?_
        refine gw_goto (tgt := 3) hX nd_Mo_sumFrom_79 rfl ?_
        refine gw_cut (ks := [1, 2, 3, 0]) (L' := [(0, .ref m), (2, .int (nI ws.length)), (3, .ref a), (4, .int (nI (k + 1)))]) rfl ?_
        exact ih (u - 1) (by omega) (k + 1) _ _ (by omega) (sf_up hf) h0 ha h10 h11 h12 fr
set_option maxRecDepth 100000 in
set_option maxHeartbeats 4000000 in
theorem ct_Mo_sumFrom (l : Launch) (Z : gw_Z) (b0 : Nat) (σ : gw_S) (m a : Nat) (hma : m < a) (hma2 : a + 1 ≤ m + 10) {th rs be se kp kw : Int32} {len sn mk ps : Nat} {bs s2 : Int64} (ws : List px_W) (hsl : ws.length ≤ 6) (wt : Nat → Int) (f10 : Nat → Int64) (hpr : pr_ok f10 wt ws (4 * ws.length)) (g : Nat → Nat) (hg : ∀ w, w < 6 → g w < 4) (fr0 : Nat) (hfr : fr0 ≤ ws.length) (f : Nat → Int64) (hf : ∀ w, w ≤ fr0 → f w = iL (tl_m (wd_W wt (se_B ws)) (dc_P wt) (dc_F wt) g w)) (h0 : σ.2 m = some (.inr (1, [.int th, .int (nI len), .ref (m + 1), .int (nI sn), .ref (m + 2), .ref (m + 3), .ref (m + 4), .int rs, .ref (m + 5), .ref (m + 6), .ref (m + 7), .ref (m + 8), .ref (m + 9), .int (nI mk), .int (nI ps), .ref (m + 10), .ref (m + 11), .ref (m + 12), .long bs, .long s2, .int be, .int se, .int kp, .int kw]))) (ha : σ.2 a = some (gw_J Z 148 (fun j => iL (wt j)))) (h10 : σ.2 (m + 10) = some (gw_J Z 24 f10)) (h11 : σ.2 (m + 11) = some (gw_I Z 6 (fun w => nI (g w)))) (h12 : σ.2 (m + 12) = some (gw_J Z 7 f)) : gw_M l ny_Mo_sumFrom nc_Mo_sumFrom (5, 1, 22, 0, 0) none Z b0 σ [.ref m, .int (nI fr0), .int (nI ws.length), .ref a] (fun v σ' => v = none ∧ (∃ f, σ'.2 (m + 12) = some (gw_J Z 7 f) ∧ ∀ w, w ≤ ws.length → f w = iL (tl_m (wd_W wt (se_B ws)) (dc_P wt) (dc_F wt) g w)) ∧ gw_fr σ σ' (m + 12) (m + 13)) := by
  refine gw_M_of rfl (Nat.le_of_ble_eq_true rfl) ?_
  intro X hX hl hz hb0 hr hnm hQ
  subst hz hb0 hl
  have hX : gw_ok X nc_Mo_sumFrom "LabelLearnerModel" (5, 1, 22, 0, 0) := hX
  show gw_W X σ 0 0 0 [(0, .ref m), (1, .int (nI fr0)), (2, .int (nI ws.length)), (3, .ref a)] []
  refine gw_iload_n hX nd_Mo_sumFrom_0 rfl 1 rfl ?_
  refine gw_istore hX nd_Mo_sumFrom_1 (by decide) (L' := [(4, .int (nI fr0)), (0, .ref m), (1, .int (nI fr0)), (2, .int (nI ws.length)), (3, .ref a)]) rfl ?_
  refine gw_cut (ks := [1, 3, 4, 0]) (L' := [(0, .ref m), (2, .int (nI ws.length)), (3, .ref a), (4, .int (nI fr0))]) rfl ?_
  exact lp_Mo_sumFrom m a hma hma2 ws hsl wt f10 hpr g hg hX hQ hr (ws.length - fr0) fr0 f σ (by omega) hf h0 ha h10 h11 h12 (gw_fr_rf _ _ _)
