def gi_u (g : Nat → Nat) (q x w : Nat) : Nat := if w = q then x else g w
theorem gi_upd (g : Nat → Nat) (q x : Nat) : upd (fun w => nI (g w)) q (nI x) = fun w => nI (gi_u g q x w) := by
  funext w
  unfold upd gi_u
  split <;> rfl
theorem gi_dec {q : Nat} (h : 0 < q) : nI q + Int32.ofInt (-1) = nI (q - 1) := by
  have h1 := nI_pred (q - 1)
  rw [Nat.sub_add_cancel h] at h1
  rw [← h1, Int32.sub_eq_add_neg]
  rfl
theorem sr_1 {R : List (Int × Nat)} {x : Int × Nat} {bs s2 : Int64} {be se : Int32} (h : R = [x]) (e1 : bs = iL x.1) (e2 : be = nI x.2) : sr_ok R bs s2 be se := by
  subst h
  exact ⟨fun y hy => by cases hy; exact ⟨e1, e2⟩, fun y hy => by simp at hy⟩
theorem sr_2 {R : List (Int × Nat)} {x y : Int × Nat} {bs s2 : Int64} {be se : Int32} (h : R = [x, y]) (e1 : bs = iL x.1) (e2 : be = nI x.2) (e3 : s2 = iL y.1) (e4 : se = nI y.2) : sr_ok R bs s2 be se := by
  subst h
  exact ⟨fun z hz => by cases hz; exact ⟨e1, e2⟩, fun z hz => by cases hz; exact ⟨e3, e4⟩⟩
set_option maxRecDepth 100000 in
set_option maxHeartbeats 4000000 in
theorem lp_Mo_sE {X : gw_C} (m a : Nat) (hma : m + 4 < a) (hma2 : a + 1 ≤ m + 10) {th rs kp kw : Int32} {len sn mk ps : Nat} (ws : List px_W) (hso : se_ok ws) (hsl : ws.length ≤ 6) (hne : ws ≠ []) (wt : Nat → Int) (hB : dc_B wt) (f10 : Nat → Int64) (hpr : pr_ok f10 wt ws (4 * ws.length)) (y5 y6 : Nat) {bs s2 : Int64} {be se : Int32} (hsr : sr_ok (ab_rk wt ws) bs s2 be se) (f : Nat → Int64) (hf0 : f 0 = iL 0) {σ0 : gw_S} (hX : gw_ok X nc_Mo_search "LabelLearnerModel" (9, 2, 49, 0, 0)) (hQ : X.2.2.2.2 = gw_end X (fun v σ' => v = none ∧ σ'.2 m = some (.inr (1, [.int th, .int (nI len), .ref (m + 1), .int (nI sn), .ref (m + 2), .ref (m + 3), .ref (m + 4), .int rs, .ref (m + 5), .ref (m + 6), .ref (m + 7), .ref (m + 8), .ref (m + 9), .int (nI mk), .int (nI ps), .ref (m + 10), .ref (m + 11), .ref (m + 12), .long (iL (ab_best wt ws 0).1), .long (iL (ab_best wt ws 1).1), .int (nI ((ab_best wt ws 0).2)), .int (nI ((ab_best wt ws 1).2)), .int kp, .int kw])) ∧ (∃ f, σ'.2 (m + 10) = some (gw_J (gw_z X) 24 f)) ∧ (∃ f, σ'.2 (m + 11) = some (gw_I (gw_z X) 6 f)) ∧ (∃ f, σ'.2 (m + 12) = some (gw_J (gw_z X) 7 f) ∧ f 0 = iL 0) ∧ gw_f2 σ0 σ' m (m + 1) (m + 10) (m + 13)) 0 0) (hr : X.2.2.1.1.sig.returnType = none) : ∀ (u : Nat) (g : Nat → Nat) (σ : gw_S), σ.2 m = some (.inr (1, [.int th, .int (nI len), .ref (m + 1), .int (nI sn), .ref (m + 2), .ref (m + 3), .ref (m + 4), .int rs, .ref (m + 5), .ref (m + 6), .ref (m + 7), .ref (m + 8), .ref (m + 9), .int (nI mk), .int (nI ps), .ref (m + 10), .ref (m + 11), .ref (m + 12), .long bs, .long s2, .int be, .int se, .int kp, .int kw])) → σ.2 a = some (gw_J (gw_z X) 148 (fun j => iL (wt j))) → σ.2 (m + 10) = some (gw_J (gw_z X) 24 f10) → σ.2 (m + 11) = some (gw_I (gw_z X) 6 (fun w => nI (g w))) → σ.2 (m + 12) = some (gw_J (gw_z X) 7 f) → gw_f2 σ0 σ m (m + 1) (m + 10) (m + 13) → gw_W X σ 0 0 161 [(0, .ref m), (2, .ref a), (3, .int (nI ws.length)), (4, .int ((-1))), (5, .int (nI y5)), (6, .int (nI y6))] [] := by
  intro u
  induction u using Nat.strongRecOn with
  | ind u ih =>
    intro g σ
    intro  h0 ha h10 h11 h12 fr
    refine gw_iload hX nd_Mo_search_161 3 rfl ?_
    refine gw_if_lt (tgt := 191) hX nd_Mo_search_163 rfl (fun hb => ?_) (fun hb => ?_)
    · skip
      refine gw_iload hX nd_Mo_search_191 3 rfl ?_
      refine gw_if_lt (tgt := 207) hX nd_Mo_search_193 rfl (fun hb => ?_) (fun hb => ?_)
      · skip
        refine gw_goto (tgt := 46) hX nd_Mo_search_207 rfl ?_
        refine gw_iload hX nd_Mo_search_46 3 rfl ?_
        refine gw_if_lt (tgt := 210) hX nd_Mo_search_48 rfl (fun hb => ?_) (fun hb => ?_)
        · skip
          exact gw_vret hX hQ hr nd_Mo_search_210 (by decide) (by decide) ⟨rfl, by rw [← (hsr.1 _ (ab_best_at hne (by decide))).1, ← (hsr.1 _ (ab_best_at hne (by decide))).2, ← (hsr.2 _ (ab_best_at hne (by decide))).1, ← (hsr.2 _ (ab_best_at hne (by decide))).2]; exact h0, ⟨_, h10⟩, ⟨_, h11⟩, ⟨_, h12, hf0⟩, fr⟩
        · skip
          exact absurd (by decide) hb
      · skip
        exact absurd (by decide) hb
    · skip
      exact absurd (by decide) hb
theorem tl_last {N J q : Nat} (hq : q < N) (h : J + 1 = 4 ^ N) : tl_g N J q = 3 := by
  unfold tl_g
  obtain ⟨e, he⟩ : ∃ e, N = (N - 1 - q) + (e + 1) := ⟨q, by omega⟩
  have h1 : J = 4 ^ (N - 1 - q) * (4 ^ (e + 1) - 1) + (4 ^ (N - 1 - q) - 1) := by
    have h2 : 4 ^ N = 4 ^ (N - 1 - q) * 4 ^ (e + 1) := by rw [← Nat.pow_add, ← he]
    have h3 : 0 < 4 ^ (N - 1 - q) := Nat.pow_pos (by decide)
    have h4 : 0 < 4 ^ (e + 1) := Nat.pow_pos (by decide)
    rw [Nat.mul_sub, Nat.mul_one]
    have h5 : 4 ^ (N - 1 - q) ≤ 4 ^ (N - 1 - q) * 4 ^ (e + 1) := Nat.le_mul_of_pos_right _ h4
    omega
  have h3 : 0 < 4 ^ (N - 1 - q) := Nat.pow_pos (by decide)
  rw [h1, Nat.mul_add_div h3, Nat.div_eq_of_lt (by omega), Nat.add_zero, Nat.pow_succ]
  have h6 : 0 < 4 ^ e := Nat.pow_pos (by decide)
  omega
set_option maxRecDepth 100000 in
set_option maxHeartbeats 4000000 in
theorem lp_Mo_sI {X : gw_C} (m a : Nat) (hma : m + 4 < a) (hma2 : a + 1 ≤ m + 10) {th rs kp kw : Int32} {len sn mk ps : Nat} (ws : List px_W) (hso : se_ok ws) (hsl : ws.length ≤ 6) (hne : ws ≠ []) (wt : Nat → Int) (hB : dc_B wt) (f10 : Nat → Int64) (hpr : pr_ok f10 wt ws (4 * ws.length)) (y5 y6 : Nat) {bs s2 : Int64} {be se : Int32} (J : Nat) (hJ : J < 4 ^ ws.length) (f : Nat → Int64) (hf : ∀ w, w ≤ ws.length → f w = iL (tl_m (wd_W wt (se_B ws)) (dc_P wt) (dc_F wt) (tl_g ws.length J) w)) {σ0 : gw_S} (k46 : (∀ (q : Nat) (g' : Nat → Nat) (σ : gw_S), q < ws.length → J + 1 < 4 ^ ws.length → (∀ w, w < ws.length → g' w = tl_g ws.length (J + 1) w) → (∀ w, w < 6 → g' w < 4) → (∀ w, w ≤ q → f w = iL (tl_m (wd_W wt (se_B ws)) (dc_P wt) (dc_F wt) g' w)) → σ.2 m = some (.inr (1, [.int th, .int (nI len), .ref (m + 1), .int (nI sn), .ref (m + 2), .ref (m + 3), .ref (m + 4), .int rs, .ref (m + 5), .ref (m + 6), .ref (m + 7), .ref (m + 8), .ref (m + 9), .int (nI mk), .int (nI ps), .ref (m + 10), .ref (m + 11), .ref (m + 12), .long bs, .long s2, .int be, .int se, .int kp, .int kw])) → σ.2 a = some (gw_J (gw_z X) 148 (fun j => iL (wt j))) → σ.2 (m + 10) = some (gw_J (gw_z X) 24 f10) → σ.2 (m + 11) = some (gw_I (gw_z X) 6 (fun w => nI (g' w))) → σ.2 (m + 12) = some (gw_J (gw_z X) 7 f) → gw_f2 σ0 σ m (m + 1) (m + 10) (m + 13) → gw_W X σ 0 0 46 [(0, .ref m), (2, .ref a), (3, .int (nI ws.length)), (4, .int (nI q)), (5, .int (nI y5)), (6, .int (nI y6))] [])) (k161 : (∀ (g' : Nat → Nat) (σ : gw_S), J + 1 = 4 ^ ws.length → σ.2 m = some (.inr (1, [.int th, .int (nI len), .ref (m + 1), .int (nI sn), .ref (m + 2), .ref (m + 3), .ref (m + 4), .int rs, .ref (m + 5), .ref (m + 6), .ref (m + 7), .ref (m + 8), .ref (m + 9), .int (nI mk), .int (nI ps), .ref (m + 10), .ref (m + 11), .ref (m + 12), .long bs, .long s2, .int be, .int se, .int kp, .int kw])) → σ.2 a = some (gw_J (gw_z X) 148 (fun j => iL (wt j))) → σ.2 (m + 10) = some (gw_J (gw_z X) 24 f10) → σ.2 (m + 11) = some (gw_I (gw_z X) 6 (fun w => nI (g' w))) → σ.2 (m + 12) = some (gw_J (gw_z X) 7 f) → gw_f2 σ0 σ m (m + 1) (m + 10) (m + 13) → gw_W X σ 0 0 161 [(0, .ref m), (2, .ref a), (3, .int (nI ws.length)), (4, .int ((-1))), (5, .int (nI y5)), (6, .int (nI y6))] [])) (hX : gw_ok X nc_Mo_search "LabelLearnerModel" (9, 2, 49, 0, 0)) (hQ : X.2.2.2.2 = gw_end X (fun v σ' => v = none ∧ σ'.2 m = some (.inr (1, [.int th, .int (nI len), .ref (m + 1), .int (nI sn), .ref (m + 2), .ref (m + 3), .ref (m + 4), .int rs, .ref (m + 5), .ref (m + 6), .ref (m + 7), .ref (m + 8), .ref (m + 9), .int (nI mk), .int (nI ps), .ref (m + 10), .ref (m + 11), .ref (m + 12), .long (iL (ab_best wt ws 0).1), .long (iL (ab_best wt ws 1).1), .int (nI ((ab_best wt ws 0).2)), .int (nI ((ab_best wt ws 1).2)), .int kp, .int kw])) ∧ (∃ f, σ'.2 (m + 10) = some (gw_J (gw_z X) 24 f)) ∧ (∃ f, σ'.2 (m + 11) = some (gw_I (gw_z X) 6 f)) ∧ (∃ f, σ'.2 (m + 12) = some (gw_J (gw_z X) 7 f) ∧ f 0 = iL 0) ∧ gw_f2 σ0 σ' m (m + 1) (m + 10) (m + 13)) 0 0) (hr : X.2.2.1.1.sig.returnType = none) : ∀ (u : Nat) (q : Nat) (g : Nat → Nat) (σ : gw_S), q = u → q < ws.length → (∀ w, w < ws.length → g w = if q < w then 0 else tl_g ws.length J w) → (∀ w, w < 6 → g w < 4) → (∀ w, q < w → w < ws.length → tl_g ws.length J w = 3) → σ.2 m = some (.inr (1, [.int th, .int (nI len), .ref (m + 1), .int (nI sn), .ref (m + 2), .ref (m + 3), .ref (m + 4), .int rs, .ref (m + 5), .ref (m + 6), .ref (m + 7), .ref (m + 8), .ref (m + 9), .int (nI mk), .int (nI ps), .ref (m + 10), .ref (m + 11), .ref (m + 12), .long bs, .long s2, .int be, .int se, .int kp, .int kw])) → σ.2 a = some (gw_J (gw_z X) 148 (fun j => iL (wt j))) → σ.2 (m + 10) = some (gw_J (gw_z X) 24 f10) → σ.2 (m + 11) = some (gw_I (gw_z X) 6 (fun w => nI (g w))) → σ.2 (m + 12) = some (gw_J (gw_z X) 7 f) → gw_f2 σ0 σ m (m + 1) (m + 10) (m + 13) → gw_W X σ 0 0 161 [(0, .ref m), (2, .ref a), (3, .int (nI ws.length)), (4, .int (nI q)), (5, .int (nI y5)), (6, .int (nI y6))] [] := by
  intro u
  induction u using Nat.strongRecOn with
  | ind u ih =>
    intro q g σ
    intro hqu hqN hg hg6 h3 h0 ha h10 h11 h12 fr
    subst hqu
    have hg9 := hg6 q (by omega)
    have hgq : g q = tl_g ws.length J q := by rw [hg q hqN, if_neg (by omega)]
    refine gw_iload hX nd_Mo_search_161 3 rfl ?_
    refine gw_if_lt (tgt := 191) hX nd_Mo_search_163 rfl (fun hb => ?_) (fun hb => ?_)
    · have hb : q < 0 := (nI_ltI (a := q) (b := 0) (by omega) (by omega)).mp hb
      exfalso; omega
    · have hb : ¬ q < 0 := fun h => hb ((nI_ltI (a := q) (b := 0) (by omega) (by omega)).mpr h)
      refine gw_aload_n hX nd_Mo_search_166 rfl 0 rfl ?_
      refine gw_get hX kf_Mo_41 nd_Mo_search_167 h0 rfl ?_
      refine gw_iload hX nd_Mo_search_170 3 rfl ?_
      refine gw_iald hX nd_Mo_search_172 h11 q rfl (by omega) (by decide) ?_
      refine gw_topi (y := nI (g q)) rfl ?_
      refine gw_iconst (v := nI 3) hX nd_Mo_search_173 rfl ?_
      refine gw_icmp_ne (tgt := 191) hX nd_Mo_search_174 rfl (fun hb => ?_) (fun hb => ?_)
      · have hb : ¬ g q = 3 := fun h => hb ((nI_eq (a := g q) (b := 3) (by omega) (by omega)).mpr h)
        have hq3 := hb
        refine gw_iload hX nd_Mo_search_191 3 rfl ?_
        refine gw_if_lt (tgt := 207) hX nd_Mo_search_193 rfl (fun hb => ?_) (fun hb => ?_)
        · have hb : q < 0 := (nI_ltI (a := q) (b := 0) (by omega) (by omega)).mp hb
          exfalso; omega
        · have hb : ¬ q < 0 := fun h => hb ((nI_ltI (a := q) (b := 0) (by omega) (by omega)).mpr h)
          refine gw_aload_n hX nd_Mo_search_196 rfl 0 rfl ?_
          refine gw_get hX kf_Mo_41 nd_Mo_search_197 h0 rfl ?_
          refine gw_iload hX nd_Mo_search_200 3 rfl ?_
          refine gw_dup2_11 hX nd_Mo_search_202 rfl rfl ?_
          refine gw_iald hX nd_Mo_search_203 h11 q rfl (by omega) (by decide) ?_
          refine gw_topi (y := nI (g q)) rfl ?_
          refine gw_iconst (v := nI 1) hX nd_Mo_search_204 rfl ?_
          refine gw_iadd hX nd_Mo_search_205 ?_
          refine gw_topi (y := nI (g q + 1)) (nI_add _ _) ?_
          refine gw_iast hX nd_Mo_search_206 h11 q rfl (by omega) (by decide) ?_
          refine gw_heap (show gw_up σ (m + 11) ((gw_I (gw_z X) 6 (upd (fun w => nI (g w)) q (nI (g q + 1))))) = gw_up σ (m + 11) ((gw_I (gw_z X) 6 (fun w => nI (gi_u g q (g q + 1) w)))) by rw [show upd (fun w => nI (g w)) q (nI (g q + 1)) = fun w => nI (gi_u g q (g q + 1) w) from (gi_upd _ _ _)]) ?_
          obtain ⟨σ1, eσ1⟩ : ∃ hp_, hp_ = gw_up σ (m + 11) ((gw_I (gw_z X) 6 (fun w => nI (gi_u g q (g q + 1) w)))) := ⟨_, rfl⟩
          refine gw_heap eσ1.symm ?_
          have h0 : σ1.2 m = some (.inr (1, [.int th, .int (nI len), .ref (m + 1), .int (nI sn), .ref (m + 2), .ref (m + 3), .ref (m + 4), .int rs, .ref (m + 5), .ref (m + 6), .ref (m + 7), .ref (m + 8), .ref (m + 9), .int (nI mk), .int (nI ps), .ref (m + 10), .ref (m + 11), .ref (m + 12), .long bs, .long s2, .int be, .int se, .int kp, .int kw])) := by rw [eσ1, gw_up_ne (by omega)]; exact h0
          have ha : σ1.2 a = some ((gw_J (gw_z X) 148 (fun j => iL (wt j)))) := by rw [eσ1, gw_up_ne (by omega)]; exact ha
          have h10 : σ1.2 (m + 10) = some ((gw_J (gw_z X) 24 f10)) := by rw [eσ1, gw_up_ne (by omega)]; exact h10
          have h11 : σ1.2 (m + 11) = some ((gw_I (gw_z X) 6 (fun w => nI (gi_u g q (g q + 1) w)))) := by rw [eσ1]; exact gw_up_eq _ _ _
          have h12 : σ1.2 (m + 12) = some ((gw_J (gw_z X) 7 f)) := by rw [eσ1, gw_up_ne (by omega)]; exact h12
          have fr : gw_f2 σ0 σ1 m (m + 1) (m + 10) (m + 13) := by first | exact gw_f2_l fr (show gw_fr _ σ1 m (m + 1) by rw [eσ1]; exact gw_fr_up _ _ _ (by omega) (by omega)) | exact gw_f2_r fr (show gw_fr _ σ1 (m + 10) (m + 13) by rw [eσ1]; exact gw_fr_up _ _ _ (by omega) (by omega))
          refine gw_goto (tgt := 46) hX nd_Mo_search_207 rfl ?_
          refine gw_cut (ks := [0, 1, 2, 3, 4, 5]) (L' := [(0, .ref m), (2, .ref a), (3, .int (nI ws.length)), (4, .int (nI q)), (5, .int (nI y5)), (6, .int (nI y6))]) rfl ?_
          exact k46 q (gi_u g q (g q + 1)) _ hqN (by have hlt : J + 1 ≤ 4 ^ ws.length := hJ; rcases Nat.lt_or_eq_of_le hlt with h | h; exact h; exact absurd (tl_last hqN h) (by rw [← hgq]; exact hq3)) (fun w hw => by rw [tl_inc hqN h3 (by rw [← hgq]; exact hq3) w hw]; unfold gi_u; by_cases e1 : w < q; (rw [if_pos e1, if_neg (by omega), hg w hw, if_neg (by omega)]); (rw [if_neg e1]; by_cases e2 : w = q; (rw [if_pos e2, if_pos e2, hgq]); rw [if_neg e2, if_neg e2, hg w hw, if_pos (by omega)])) (fun w hw => by unfold gi_u; split; omega; exact hg6 w hw) (fun w hw => by rw [hf w (by omega)]; congr 1; refine tl_m_congr w (fun v hv => ?_); unfold gi_u; rw [if_neg (by omega), hg v (by omega), if_neg (by omega)]) h0 ha h10 h11 h12 fr
      · have hb : g q = 3 := (nI_eq (a := g q) (b := 3) (by omega) (by omega)).mp hb
        refine gw_aload_n hX nd_Mo_search_177 rfl 0 rfl ?_
        refine gw_get hX kf_Mo_41 nd_Mo_search_178 h0 rfl ?_
        refine gw_iload hX nd_Mo_search_181 3 rfl ?_
        refine gw_iconst (v := nI 0) hX nd_Mo_search_183 rfl ?_
        refine gw_iast hX nd_Mo_search_184 h11 q rfl (by omega) (by decide) ?_
        refine gw_heap (show gw_up σ (m + 11) ((gw_I (gw_z X) 6 (upd (fun w => nI (g w)) q (nI 0)))) = gw_up σ (m + 11) ((gw_I (gw_z X) 6 (fun w => nI (gi_u g q 0 w)))) by rw [show upd (fun w => nI (g w)) q (nI 0) = fun w => nI (gi_u g q 0 w) from (gi_upd _ _ _)]) ?_
        obtain ⟨σ2, eσ2⟩ : ∃ hp_, hp_ = gw_up σ (m + 11) ((gw_I (gw_z X) 6 (fun w => nI (gi_u g q 0 w)))) := ⟨_, rfl⟩
        refine gw_heap eσ2.symm ?_
        have h0 : σ2.2 m = some (.inr (1, [.int th, .int (nI len), .ref (m + 1), .int (nI sn), .ref (m + 2), .ref (m + 3), .ref (m + 4), .int rs, .ref (m + 5), .ref (m + 6), .ref (m + 7), .ref (m + 8), .ref (m + 9), .int (nI mk), .int (nI ps), .ref (m + 10), .ref (m + 11), .ref (m + 12), .long bs, .long s2, .int be, .int se, .int kp, .int kw])) := by rw [eσ2, gw_up_ne (by omega)]; exact h0
        have ha : σ2.2 a = some ((gw_J (gw_z X) 148 (fun j => iL (wt j)))) := by rw [eσ2, gw_up_ne (by omega)]; exact ha
        have h10 : σ2.2 (m + 10) = some ((gw_J (gw_z X) 24 f10)) := by rw [eσ2, gw_up_ne (by omega)]; exact h10
        have h11 : σ2.2 (m + 11) = some ((gw_I (gw_z X) 6 (fun w => nI (gi_u g q 0 w)))) := by rw [eσ2]; exact gw_up_eq _ _ _
        have h12 : σ2.2 (m + 12) = some ((gw_J (gw_z X) 7 f)) := by rw [eσ2, gw_up_ne (by omega)]; exact h12
        have fr : gw_f2 σ0 σ2 m (m + 1) (m + 10) (m + 13) := by first | exact gw_f2_l fr (show gw_fr _ σ2 m (m + 1) by rw [eσ2]; exact gw_fr_up _ _ _ (by omega) (by omega)) | exact gw_f2_r fr (show gw_fr _ σ2 (m + 10) (m + 13) by rw [eσ2]; exact gw_fr_up _ _ _ (by omega) (by omega))
        refine gw_iinc hX nd_Mo_search_185 3 rfl (v := (nI q + Int32.ofInt (-1))) rfl (by decide) (L' := [(4, .int (nI q + Int32.ofInt (-1))), (0, .ref m), (2, .ref a), (3, .int (nI ws.length)), (5, .int (nI y5)), (6, .int (nI y6))]) rfl ?_
        refine gw_goto (tgt := 161) hX nd_Mo_search_188 rfl ?_
        refine gw_cut (ks := [1, 2, 3, 0, 4, 5]) (L' := [(0, .ref m), (2, .ref a), (3, .int (nI ws.length)), (4, .int (nI q + Int32.ofInt (-1))), (5, .int (nI y5)), (6, .int (nI y6))]) rfl ?_
        rcases Nat.eq_zero_or_pos q with hq0 | hq0
        · rw [show nI q + Int32.ofInt (-1) = (-1) from by rw [hq0]; decide]
          exact k161 _ _ (tl_end (fun w hw => by by_cases e : w = q; (rw [e, ← hgq]; exact hb); exact h3 w (by omega) hw) hJ) h0 ha h10 h11 h12 fr
        · rw [gi_dec hq0]
          exact ih (q - 1) (by omega) (q - 1) (gi_u g q 0) _ rfl (by omega) (fun w hw => by unfold gi_u; by_cases e : w = q; (rw [if_pos e, if_pos (by omega)]); (rw [if_neg e, hg w hw]; by_cases e2 : q < w; (rw [if_pos e2, if_pos (by omega)]); rw [if_neg e2, if_neg (by omega)])) (fun w hw => by unfold gi_u; split; omega; exact hg6 w hw) (fun w h1 h2 => by by_cases e : w = q; (rw [e, ← hgq]; exact hb); exact h3 w (by omega) h2) h0 ha h10 h11 h12 fr
theorem sx_one {R : List (Int × Nat)} {u : Int × Nat} (h : R[0]? = some u) (hl : R.length = 1) : R = [u] := by
  match R, h, hl with
  | [x], h, _ => cases h; rfl
theorem sx_two {R : List (Int × Nat)} {u w : Int × Nat} (h : R[0]? = some u) (h1 : R[1]? = some w) (hl : R.length = 2) : R = [u, w] := by
  match R, h, h1, hl with
  | [x, y], h, h1, _ => cases h; cases h1; rfl
set_option maxRecDepth 100000 in
set_option maxHeartbeats 4000000 in
theorem lp_Mo_search {X : gw_C} (m a : Nat) (hma : m + 4 < a) (hma2 : a + 1 ≤ m + 10) {th rs kp kw : Int32} {len sn mk ps : Nat} (ws : List px_W) (hso : se_ok ws) (hsl : ws.length ≤ 6) (hne : ws ≠ []) (wt : Nat → Int) (hB : dc_B wt) (f10 : Nat → Int64) (hpr : pr_ok f10 wt ws (4 * ws.length)) {σ0 : gw_S} (hX : gw_ok X nc_Mo_search "LabelLearnerModel" (9, 2, 49, 0, 0)) (hQ : X.2.2.2.2 = gw_end X (fun v σ' => v = none ∧ σ'.2 m = some (.inr (1, [.int th, .int (nI len), .ref (m + 1), .int (nI sn), .ref (m + 2), .ref (m + 3), .ref (m + 4), .int rs, .ref (m + 5), .ref (m + 6), .ref (m + 7), .ref (m + 8), .ref (m + 9), .int (nI mk), .int (nI ps), .ref (m + 10), .ref (m + 11), .ref (m + 12), .long (iL (ab_best wt ws 0).1), .long (iL (ab_best wt ws 1).1), .int (nI ((ab_best wt ws 0).2)), .int (nI ((ab_best wt ws 1).2)), .int kp, .int kw])) ∧ (∃ f, σ'.2 (m + 10) = some (gw_J (gw_z X) 24 f)) ∧ (∃ f, σ'.2 (m + 11) = some (gw_I (gw_z X) 6 f)) ∧ (∃ f, σ'.2 (m + 12) = some (gw_J (gw_z X) 7 f) ∧ f 0 = iL 0) ∧ gw_f2 σ0 σ' m (m + 1) (m + 10) (m + 13)) 0 0) (hr : X.2.2.1.1.sig.returnType = none) : ∀ (u : Nat) (J fr0 : Nat) (g : Nat → Nat) (f : Nat → Int64) (bs s2 : Int64) (be se : Int32) (y5 y6 : Nat) (σ : gw_S), u = 4 ^ ws.length - J → J < 4 ^ ws.length → fr0 < ws.length → (∀ w, w < ws.length → g w = tl_g ws.length J w) → (∀ w, w < 6 → g w < 4) → (∀ w, w ≤ fr0 → f w = iL (tl_m (wd_W wt (se_B ws)) (dc_P wt) (dc_F wt) g w)) → sr_ok (sx_R wt ws J) bs s2 be se → (y5 = min 1 J ∧ y6 = min 1 (J - 1)) → σ.2 m = some (.inr (1, [.int th, .int (nI len), .ref (m + 1), .int (nI sn), .ref (m + 2), .ref (m + 3), .ref (m + 4), .int rs, .ref (m + 5), .ref (m + 6), .ref (m + 7), .ref (m + 8), .ref (m + 9), .int (nI mk), .int (nI ps), .ref (m + 10), .ref (m + 11), .ref (m + 12), .long bs, .long s2, .int be, .int se, .int kp, .int kw])) → σ.2 a = some (gw_J (gw_z X) 148 (fun j => iL (wt j))) → σ.2 (m + 10) = some (gw_J (gw_z X) 24 f10) → σ.2 (m + 11) = some (gw_I (gw_z X) 6 (fun w => nI (g w))) → σ.2 (m + 12) = some (gw_J (gw_z X) 7 f) → gw_f2 σ0 σ m (m + 1) (m + 10) (m + 13) → gw_W X σ 0 0 46 [(0, .ref m), (2, .ref a), (3, .int (nI ws.length)), (4, .int (nI fr0)), (5, .int (nI y5)), (6, .int (nI y6))] [] := by
  intro u
  induction u using Nat.strongRecOn with
  | ind u ih =>
    intro J fr0 g f bs s2 be se y5 y6 σ
    intro hu hJ hfr hg hg6 hf hsr hy h0 ha h10 h11 h12 fr
    have hws0 := List.length_pos_iff.mpr hne
    refine gw_iload hX nd_Mo_search_46 3 rfl ?_
    refine gw_if_lt (tgt := 210) hX nd_Mo_search_48 rfl (fun hb => ?_) (fun hb => ?_)
    · have hb : fr0 < 0 := (nI_ltI (a := fr0) (b := 0) (by omega) (by omega)).mp hb
      exfalso; omega
    · have hb : ¬ fr0 < 0 := fun h => hb ((nI_ltI (a := fr0) (b := 0) (by omega) (by omega)).mpr h)
      refine gw_aload_n hX nd_Mo_search_51 rfl 0 rfl ?_
      refine gw_iload hX nd_Mo_search_52 3 rfl ?_
      refine gw_iload_n hX nd_Mo_search_54 rfl 2 rfl ?_
      refine gw_aload_n hX nd_Mo_search_55 rfl 1 rfl ?_
      refine gw_callV (rest := []) hX ks_Mo_116 (ct_Mo_sumFrom _ _ _ σ m a (by omega) hma2 ws hsl wt f10 hpr g hg6 fr0 (by omega) f hf h0 ha h10 h11 h12) h0 rfl rfl (Nat.le_of_ble_eq_true rfl) nd_Mo_search_56 (by decide) ?_
      rintro _ σ1 ⟨rfl, ⟨f, h12, hf⟩, hf9⟩
      have h0 : σ1.2 m = some (.inr (1, [.int th, .int (nI len), .ref (m + 1), .int (nI sn), .ref (m + 2), .ref (m + 3), .ref (m + 4), .int rs, .ref (m + 5), .ref (m + 6), .ref (m + 7), .ref (m + 8), .ref (m + 9), .int (nI mk), .int (nI ps), .ref (m + 10), .ref (m + 11), .ref (m + 12), .long bs, .long s2, .int be, .int se, .int kp, .int kw])) := (hf9.2 m (by omega)).trans h0
      have ha : σ1.2 a = some ((gw_J (gw_z X) 148 (fun j => iL (wt j)))) := (hf9.2 a (by omega)).trans ha
      have h10 : σ1.2 (m + 10) = some ((gw_J (gw_z X) 24 f10)) := (hf9.2 (m + 10) (by omega)).trans h10
      have h11 : σ1.2 (m + 11) = some ((gw_I (gw_z X) 6 (fun w => nI (g w)))) := (hf9.2 (m + 11) (by omega)).trans h11
      have fr : gw_f2 σ0 σ1 m (m + 1) (m + 10) (m + 13) := gw_f2_r fr hf9
      have hf' : ∀ w, w ≤ ws.length → f w = iL (tl_m (wd_W wt (se_B ws)) (dc_P wt) (dc_F wt) (tl_g ws.length J) w) := fun w hw => by rw [hf w hw]; congr 1; exact tl_m_congr w (fun v hv => hg v (by omega))
      show gw_W X σ1 0 0 59 [(0, .ref m), (2, .ref a), (3, .int (nI ws.length)), (4, .int (nI fr0)), (5, .int (nI y5)), (6, .int (nI y6))] []
      refine gw_aload_n hX nd_Mo_search_59 rfl 0 rfl ?_
      refine gw_get hX kf_Mo_44 nd_Mo_search_60 h0 rfl ?_
      refine gw_iload_n hX nd_Mo_search_63 rfl 2 rfl ?_
      refine gw_lald hX nd_Mo_search_64 h12 ws.length rfl (by omega) (by decide) ?_
      refine gw_topl (y := iL (sx wt ws J).1) (hf' _ (Nat.le_refl _)) ?_
      refine gw_lstore hX nd_Mo_search_65 (by decide) (L' := [(7, .long (iL (sx wt ws J).1)), (0, .ref m), (2, .ref a), (3, .int (nI ws.length)), (4, .int (nI fr0)), (5, .int (nI y5)), (6, .int (nI y6))]) rfl ?_
      refine gw_iload hX nd_Mo_search_67 5 rfl ?_
      refine gw_if_eq (tgt := 82) hX nd_Mo_search_69 rfl (fun hb => ?_) (fun hb => ?_)
      · have hb : y5 = 0 := (nI_eq (a := y5) (b := 0) (by omega) (by omega)).mp hb
        refine gw_iload hX nd_Mo_search_82 5 rfl ?_
        refine gw_istore hX nd_Mo_search_84 (by decide) (L' := [(6, .int (nI y5)), (7, .long (iL (sx wt ws J).1)), (0, .ref m), (2, .ref a), (3, .int (nI ws.length)), (4, .int (nI fr0)), (5, .int (nI y5))]) rfl ?_
        refine gw_aload_n hX nd_Mo_search_86 rfl 2 rfl ?_
        refine gw_aload_n hX nd_Mo_search_87 rfl 2 rfl ?_
        refine gw_get hX kf_Mo_124 nd_Mo_search_88 h0 rfl ?_
        refine gw_put hX kf_Mo_127 nd_Mo_search_91 h0 rfl rfl (Nat.le_of_ble_eq_true rfl) (e' := .inr (1, [.int th, .int (nI len), .ref (m + 1), .int (nI sn), .ref (m + 2), .ref (m + 3), .ref (m + 4), .int rs, .ref (m + 5), .ref (m + 6), .ref (m + 7), .ref (m + 8), .ref (m + 9), .int (nI mk), .int (nI ps), .ref (m + 10), .ref (m + 11), .ref (m + 12), .long bs, .long s2, .int be, .int be, .int kp, .int kw])) rfl ?_
        obtain ⟨σ2, eσ2⟩ : ∃ hp_, hp_ = gw_up σ1 m (.inr (1, [.int th, .int (nI len), .ref (m + 1), .int (nI sn), .ref (m + 2), .ref (m + 3), .ref (m + 4), .int rs, .ref (m + 5), .ref (m + 6), .ref (m + 7), .ref (m + 8), .ref (m + 9), .int (nI mk), .int (nI ps), .ref (m + 10), .ref (m + 11), .ref (m + 12), .long bs, .long s2, .int be, .int be, .int kp, .int kw])) := ⟨_, rfl⟩
        refine gw_heap eσ2.symm ?_
        have h0 : σ2.2 m = some (.inr (1, [.int th, .int (nI len), .ref (m + 1), .int (nI sn), .ref (m + 2), .ref (m + 3), .ref (m + 4), .int rs, .ref (m + 5), .ref (m + 6), .ref (m + 7), .ref (m + 8), .ref (m + 9), .int (nI mk), .int (nI ps), .ref (m + 10), .ref (m + 11), .ref (m + 12), .long bs, .long s2, .int be, .int be, .int kp, .int kw])) := by rw [eσ2]; exact gw_up_eq _ _ _
        have ha : σ2.2 a = some ((gw_J (gw_z X) 148 (fun j => iL (wt j)))) := by rw [eσ2, gw_up_ne (by omega)]; exact ha
        have h10 : σ2.2 (m + 10) = some ((gw_J (gw_z X) 24 f10)) := by rw [eσ2, gw_up_ne (by omega)]; exact h10
        have h11 : σ2.2 (m + 11) = some ((gw_I (gw_z X) 6 (fun w => nI (g w)))) := by rw [eσ2, gw_up_ne (by omega)]; exact h11
        have h12 : σ2.2 (m + 12) = some ((gw_J (gw_z X) 7 f)) := by rw [eσ2, gw_up_ne (by omega)]; exact h12
        have fr : gw_f2 σ0 σ2 m (m + 1) (m + 10) (m + 13) := by first | exact gw_f2_l fr (show gw_fr _ σ2 m (m + 1) by rw [eσ2]; exact gw_fr_up _ _ _ (by omega) (by omega)) | exact gw_f2_r fr (show gw_fr _ σ2 (m + 10) (m + 13) by rw [eσ2]; exact gw_fr_up _ _ _ (by omega) (by omega))
        refine gw_aload_n hX nd_Mo_search_94 rfl 2 rfl ?_
        refine gw_aload_n hX nd_Mo_search_95 rfl 2 rfl ?_
        refine gw_get hX kf_Mo_120 nd_Mo_search_96 h0 rfl ?_
        refine gw_put hX kf_Mo_130 nd_Mo_search_99 h0 rfl rfl (Nat.le_of_ble_eq_true rfl) (e' := .inr (1, [.int th, .int (nI len), .ref (m + 1), .int (nI sn), .ref (m + 2), .ref (m + 3), .ref (m + 4), .int rs, .ref (m + 5), .ref (m + 6), .ref (m + 7), .ref (m + 8), .ref (m + 9), .int (nI mk), .int (nI ps), .ref (m + 10), .ref (m + 11), .ref (m + 12), .long bs, .long bs, .int be, .int be, .int kp, .int kw])) rfl ?_
        obtain ⟨σ3, eσ3⟩ : ∃ hp_, hp_ = gw_up σ2 m (.inr (1, [.int th, .int (nI len), .ref (m + 1), .int (nI sn), .ref (m + 2), .ref (m + 3), .ref (m + 4), .int rs, .ref (m + 5), .ref (m + 6), .ref (m + 7), .ref (m + 8), .ref (m + 9), .int (nI mk), .int (nI ps), .ref (m + 10), .ref (m + 11), .ref (m + 12), .long bs, .long bs, .int be, .int be, .int kp, .int kw])) := ⟨_, rfl⟩
        refine gw_heap eσ3.symm ?_
        have h0 : σ3.2 m = some (.inr (1, [.int th, .int (nI len), .ref (m + 1), .int (nI sn), .ref (m + 2), .ref (m + 3), .ref (m + 4), .int rs, .ref (m + 5), .ref (m + 6), .ref (m + 7), .ref (m + 8), .ref (m + 9), .int (nI mk), .int (nI ps), .ref (m + 10), .ref (m + 11), .ref (m + 12), .long bs, .long bs, .int be, .int be, .int kp, .int kw])) := by rw [eσ3]; exact gw_up_eq _ _ _
        have ha : σ3.2 a = some ((gw_J (gw_z X) 148 (fun j => iL (wt j)))) := by rw [eσ3, gw_up_ne (by omega)]; exact ha
        have h10 : σ3.2 (m + 10) = some ((gw_J (gw_z X) 24 f10)) := by rw [eσ3, gw_up_ne (by omega)]; exact h10
        have h11 : σ3.2 (m + 11) = some ((gw_I (gw_z X) 6 (fun w => nI (g w)))) := by rw [eσ3, gw_up_ne (by omega)]; exact h11
        have h12 : σ3.2 (m + 12) = some ((gw_J (gw_z X) 7 f)) := by rw [eσ3, gw_up_ne (by omega)]; exact h12
        have fr : gw_f2 σ0 σ3 m (m + 1) (m + 10) (m + 13) := by first | exact gw_f2_l fr (show gw_fr _ σ3 m (m + 1) by rw [eσ3]; exact gw_fr_up _ _ _ (by omega) (by omega)) | exact gw_f2_r fr (show gw_fr _ σ3 (m + 10) (m + 13) by rw [eσ3]; exact gw_fr_up _ _ _ (by omega) (by omega))
        refine gw_aload_n hX nd_Mo_search_102 rfl 2 rfl ?_
        refine gw_aload_n hX nd_Mo_search_103 rfl 2 rfl ?_
        refine gw_iload_n hX nd_Mo_search_104 rfl 4 rfl ?_
        refine gw_callV (rest := [.ref m]) hX ks_Mo_133 (ct_Mo_packed _ _ _ _ m h0 g hg6 h11 ws.length hsl) h0 rfl rfl (Nat.le_of_ble_eq_true rfl) nd_Mo_search_105 (by decide) ?_
        rintro v_ s_ ⟨hv_, hs_⟩
        have hs_ := hs_.symm
        subst hs_ hv_
        show gw_W X σ3 0 0 108 [(6, .int (nI y5)), (7, .long (iL (sx wt ws J).1)), (0, .ref m), (2, .ref a), (3, .int (nI ws.length)), (4, .int (nI fr0)), (5, .int (nI y5))] [.int (nI (tl_d g ws.length)), .ref m]
        refine gw_topi (y := nI (sx wt ws J).2) (by rw [show tl_d g ws.length = (sx wt ws J).2 from tl_d_congr _ hg]) ?_
        refine gw_put hX kf_Mo_124 nd_Mo_search_108 h0 rfl rfl (Nat.le_of_ble_eq_true rfl) (e' := .inr (1, [.int th, .int (nI len), .ref (m + 1), .int (nI sn), .ref (m + 2), .ref (m + 3), .ref (m + 4), .int rs, .ref (m + 5), .ref (m + 6), .ref (m + 7), .ref (m + 8), .ref (m + 9), .int (nI mk), .int (nI ps), .ref (m + 10), .ref (m + 11), .ref (m + 12), .long bs, .long bs, .int (nI ((sx wt ws J).2)), .int be, .int kp, .int kw])) rfl ?_
        obtain ⟨σ4, eσ4⟩ : ∃ hp_, hp_ = gw_up σ3 m (.inr (1, [.int th, .int (nI len), .ref (m + 1), .int (nI sn), .ref (m + 2), .ref (m + 3), .ref (m + 4), .int rs, .ref (m + 5), .ref (m + 6), .ref (m + 7), .ref (m + 8), .ref (m + 9), .int (nI mk), .int (nI ps), .ref (m + 10), .ref (m + 11), .ref (m + 12), .long bs, .long bs, .int (nI ((sx wt ws J).2)), .int be, .int kp, .int kw])) := ⟨_, rfl⟩
        refine gw_heap eσ4.symm ?_
        have h0 : σ4.2 m = some (.inr (1, [.int th, .int (nI len), .ref (m + 1), .int (nI sn), .ref (m + 2), .ref (m + 3), .ref (m + 4), .int rs, .ref (m + 5), .ref (m + 6), .ref (m + 7), .ref (m + 8), .ref (m + 9), .int (nI mk), .int (nI ps), .ref (m + 10), .ref (m + 11), .ref (m + 12), .long bs, .long bs, .int (nI ((sx wt ws J).2)), .int be, .int kp, .int kw])) := by rw [eσ4]; exact gw_up_eq _ _ _
        have ha : σ4.2 a = some ((gw_J (gw_z X) 148 (fun j => iL (wt j)))) := by rw [eσ4, gw_up_ne (by omega)]; exact ha
        have h10 : σ4.2 (m + 10) = some ((gw_J (gw_z X) 24 f10)) := by rw [eσ4, gw_up_ne (by omega)]; exact h10
        have h11 : σ4.2 (m + 11) = some ((gw_I (gw_z X) 6 (fun w => nI (g w)))) := by rw [eσ4, gw_up_ne (by omega)]; exact h11
        have h12 : σ4.2 (m + 12) = some ((gw_J (gw_z X) 7 f)) := by rw [eσ4, gw_up_ne (by omega)]; exact h12
        have fr : gw_f2 σ0 σ4 m (m + 1) (m + 10) (m + 13) := by first | exact gw_f2_l fr (show gw_fr _ σ4 m (m + 1) by rw [eσ4]; exact gw_fr_up _ _ _ (by omega) (by omega)) | exact gw_f2_r fr (show gw_fr _ σ4 (m + 10) (m + 13) by rw [eσ4]; exact gw_fr_up _ _ _ (by omega) (by omega))
        refine gw_aload_n hX nd_Mo_search_111 rfl 2 rfl ?_
        refine gw_lload hX nd_Mo_search_112 1 rfl ?_
        refine gw_put hX kf_Mo_120 nd_Mo_search_114 h0 rfl rfl (Nat.le_of_ble_eq_true rfl) (e' := .inr (1, [.int th, .int (nI len), .ref (m + 1), .int (nI sn), .ref (m + 2), .ref (m + 3), .ref (m + 4), .int rs, .ref (m + 5), .ref (m + 6), .ref (m + 7), .ref (m + 8), .ref (m + 9), .int (nI mk), .int (nI ps), .ref (m + 10), .ref (m + 11), .ref (m + 12), .long (iL (sx wt ws J).1), .long bs, .int (nI ((sx wt ws J).2)), .int be, .int kp, .int kw])) rfl ?_
        obtain ⟨σ5, eσ5⟩ : ∃ hp_, hp_ = gw_up σ4 m (.inr (1, [.int th, .int (nI len), .ref (m + 1), .int (nI sn), .ref (m + 2), .ref (m + 3), .ref (m + 4), .int rs, .ref (m + 5), .ref (m + 6), .ref (m + 7), .ref (m + 8), .ref (m + 9), .int (nI mk), .int (nI ps), .ref (m + 10), .ref (m + 11), .ref (m + 12), .long (iL (sx wt ws J).1), .long bs, .int (nI ((sx wt ws J).2)), .int be, .int kp, .int kw])) := ⟨_, rfl⟩
        refine gw_heap eσ5.symm ?_
        have h0 : σ5.2 m = some (.inr (1, [.int th, .int (nI len), .ref (m + 1), .int (nI sn), .ref (m + 2), .ref (m + 3), .ref (m + 4), .int rs, .ref (m + 5), .ref (m + 6), .ref (m + 7), .ref (m + 8), .ref (m + 9), .int (nI mk), .int (nI ps), .ref (m + 10), .ref (m + 11), .ref (m + 12), .long (iL (sx wt ws J).1), .long bs, .int (nI ((sx wt ws J).2)), .int be, .int kp, .int kw])) := by rw [eσ5]; exact gw_up_eq _ _ _
        have ha : σ5.2 a = some ((gw_J (gw_z X) 148 (fun j => iL (wt j)))) := by rw [eσ5, gw_up_ne (by omega)]; exact ha
        have h10 : σ5.2 (m + 10) = some ((gw_J (gw_z X) 24 f10)) := by rw [eσ5, gw_up_ne (by omega)]; exact h10
        have h11 : σ5.2 (m + 11) = some ((gw_I (gw_z X) 6 (fun w => nI (g w)))) := by rw [eσ5, gw_up_ne (by omega)]; exact h11
        have h12 : σ5.2 (m + 12) = some ((gw_J (gw_z X) 7 f)) := by rw [eσ5, gw_up_ne (by omega)]; exact h12
        have fr : gw_f2 σ0 σ5 m (m + 1) (m + 10) (m + 13) := by first | exact gw_f2_l fr (show gw_fr _ σ5 m (m + 1) by rw [eσ5]; exact gw_fr_up _ _ _ (by omega) (by omega)) | exact gw_f2_r fr (show gw_fr _ σ5 (m + 10) (m + 13) by rw [eσ5]; exact gw_fr_up _ _ _ (by omega) (by omega))
        refine gw_iconst (v := nI 1) hX nd_Mo_search_117 rfl ?_
        refine gw_istore hX nd_Mo_search_118 (by decide) (L' := [(5, .int (nI 1)), (6, .int (nI y5)), (7, .long (iL (sx wt ws J).1)), (0, .ref m), (2, .ref a), (3, .int (nI ws.length)), (4, .int (nI fr0))]) rfl ?_
        refine gw_goto (tgt := 156) hX nd_Mo_search_120 rfl ?_
        have hJ0 : J = 0 := by omega
        have hsr' := (show sr_ok (sx_R wt ws (J + 1)) (iL (sx wt ws J).1) bs (nI (sx wt ws J).2) be from sr_1 (x := sx wt ws J) (by rw [sx_R_s, show sx_R wt ws J = [] from by rw [hJ0]; rfl]; rfl) rfl rfl)
        refine gw_iload_n hX nd_Mo_search_156 rfl 5 rfl ?_
        refine gw_iconst (v := nI 1) hX nd_Mo_search_157 rfl ?_
        refine gw_isub hX nd_Mo_search_158 ?_
        refine gw_topi (y := nI (ws.length - 1)) (by rw [show ws.length = (ws.length - 1) + 1 by omega]; exact nI_pred _) ?_
        refine gw_istore hX nd_Mo_search_159 (by decide) (L' := [(4, .int (nI (ws.length - 1))), (5, .int (nI 1)), (6, .int (nI y5)), (7, .long (iL (sx wt ws J).1)), (0, .ref m), (2, .ref a), (3, .int (nI ws.length))]) rfl ?_
        refine gw_cut (ks := [4, 5, 6, 0, 1, 2]) (L' := [(0, .ref m), (2, .ref a), (3, .int (nI ws.length)), (4, .int (nI (ws.length - 1))), (5, .int (nI 1)), (6, .int (nI y5))]) rfl ?_
        exact lp_Mo_sI m a hma hma2 ws hso hsl hne wt hB f10 hpr 1 y5 J hJ f hf' (fun q g' σ hq hJ1 hg' hg6' hfq h0 ha h10 h11 h12 fr => ih (4 ^ ws.length - (J + 1)) (by omega) (J + 1) q g' f _ _ _ _ 1 y5 σ rfl hJ1 hq hg' hg6' hfq hsr' (by omega) h0 ha h10 h11 h12 fr) (fun g' σ hJe h0 ha h10 h11 h12 fr => lp_Mo_sE m a hma hma2 ws hso hsl hne wt hB f10 hpr 1 y5 (by rw [← sx_R_end hne, ← hJe]; exact hsr') f (hf' 0 (by omega)) hX hQ hr 0 g' σ h0 ha h10 h11 h12 fr) hX hQ hr _ (ws.length - 1) g _ rfl (by omega) (fun w hw => by rw [if_neg (by omega)]; exact hg w hw) hg6 (fun w h1 h2 => by omega) h0 ha h10 h11 h12 fr
      · have hb : ¬ y5 = 0 := fun h => hb ((nI_eq (a := y5) (b := 0) (by omega) (by omega)).mpr h)
        have hlen := sx_R_len wt ws J
        obtain ⟨u0, hu0⟩ : ∃ x, (sx_R wt ws J)[0]? = some x := ⟨_, List.getElem?_eq_getElem (by omega)⟩
        obtain ⟨e1, e2⟩ := hsr.1 _ hu0
        subst e1 e2
        have hb0 := sx_R_bd hB hsl J u0 (List.mem_of_getElem? hu0)
        have hbx := sx_bd hB hsl (ws := ws) J
        refine gw_lload hX nd_Mo_search_72 0 rfl ?_
        refine gw_aload_n hX nd_Mo_search_74 rfl 1 rfl ?_
        refine gw_get hX kf_Mo_120 nd_Mo_search_75 h0 rfl ?_
        refine gw_lcmp hX nd_Mo_search_78 ?_
        refine gw_if_le (tgt := 123) hX nd_Mo_search_79 rfl (fun hb => ?_) (fun hb => ?_)
        · skip
          have hbv : (sx wt ws J).1 ≤ u0.1 := (rk_cmp hbx hb0).mp hb
          refine gw_iload hX nd_Mo_search_123 6 rfl ?_
          refine gw_if_eq (tgt := 138) hX nd_Mo_search_125 rfl (fun hb => ?_) (fun hb => ?_)
          · have hb : y6 = 0 := (nI_eq (a := y6) (b := 0) (by omega) (by omega)).mp hb
            have hR1 : sx_R wt ws J = [u0] := sx_one hu0 (by omega)
            refine gw_aload_n hX nd_Mo_search_138 rfl 1 rfl ?_
            refine gw_aload_n hX nd_Mo_search_139 rfl 1 rfl ?_
            refine gw_iload_n hX nd_Mo_search_140 rfl 3 rfl ?_
            refine gw_callV (rest := [.ref m]) hX ks_Mo_133 (ct_Mo_packed _ _ _ _ m h0 g hg6 h11 ws.length hsl) h0 rfl rfl (Nat.le_of_ble_eq_true rfl) nd_Mo_search_141 (by decide) ?_
            rintro v_ s_ ⟨hv_, hs_⟩
            have hs_ := hs_.symm
            subst hs_ hv_
            show gw_W X σ1 0 0 144 [(7, .long (iL (sx wt ws J).1)), (0, .ref m), (2, .ref a), (3, .int (nI ws.length)), (4, .int (nI fr0)), (5, .int (nI y5)), (6, .int (nI y6))] [.int (nI (tl_d g ws.length)), .ref m]
            refine gw_topi (y := nI (sx wt ws J).2) (by rw [show tl_d g ws.length = (sx wt ws J).2 from tl_d_congr _ hg]) ?_
            refine gw_put hX kf_Mo_127 nd_Mo_search_144 h0 rfl rfl (Nat.le_of_ble_eq_true rfl) (e' := .inr (1, [.int th, .int (nI len), .ref (m + 1), .int (nI sn), .ref (m + 2), .ref (m + 3), .ref (m + 4), .int rs, .ref (m + 5), .ref (m + 6), .ref (m + 7), .ref (m + 8), .ref (m + 9), .int (nI mk), .int (nI ps), .ref (m + 10), .ref (m + 11), .ref (m + 12), .long (iL u0.1), .long s2, .int (nI u0.2), .int (nI ((sx wt ws J).2)), .int kp, .int kw])) rfl ?_
            obtain ⟨σ6, eσ6⟩ : ∃ hp_, hp_ = gw_up σ1 m (.inr (1, [.int th, .int (nI len), .ref (m + 1), .int (nI sn), .ref (m + 2), .ref (m + 3), .ref (m + 4), .int rs, .ref (m + 5), .ref (m + 6), .ref (m + 7), .ref (m + 8), .ref (m + 9), .int (nI mk), .int (nI ps), .ref (m + 10), .ref (m + 11), .ref (m + 12), .long (iL u0.1), .long s2, .int (nI u0.2), .int (nI ((sx wt ws J).2)), .int kp, .int kw])) := ⟨_, rfl⟩
            refine gw_heap eσ6.symm ?_
            have h0 : σ6.2 m = some (.inr (1, [.int th, .int (nI len), .ref (m + 1), .int (nI sn), .ref (m + 2), .ref (m + 3), .ref (m + 4), .int rs, .ref (m + 5), .ref (m + 6), .ref (m + 7), .ref (m + 8), .ref (m + 9), .int (nI mk), .int (nI ps), .ref (m + 10), .ref (m + 11), .ref (m + 12), .long (iL u0.1), .long s2, .int (nI u0.2), .int (nI ((sx wt ws J).2)), .int kp, .int kw])) := by rw [eσ6]; exact gw_up_eq _ _ _
            have ha : σ6.2 a = some ((gw_J (gw_z X) 148 (fun j => iL (wt j)))) := by rw [eσ6, gw_up_ne (by omega)]; exact ha
            have h10 : σ6.2 (m + 10) = some ((gw_J (gw_z X) 24 f10)) := by rw [eσ6, gw_up_ne (by omega)]; exact h10
            have h11 : σ6.2 (m + 11) = some ((gw_I (gw_z X) 6 (fun w => nI (g w)))) := by rw [eσ6, gw_up_ne (by omega)]; exact h11
            have h12 : σ6.2 (m + 12) = some ((gw_J (gw_z X) 7 f)) := by rw [eσ6, gw_up_ne (by omega)]; exact h12
            have fr : gw_f2 σ0 σ6 m (m + 1) (m + 10) (m + 13) := by first | exact gw_f2_l fr (show gw_fr _ σ6 m (m + 1) by rw [eσ6]; exact gw_fr_up _ _ _ (by omega) (by omega)) | exact gw_f2_r fr (show gw_fr _ σ6 (m + 10) (m + 13) by rw [eσ6]; exact gw_fr_up _ _ _ (by omega) (by omega))
            refine gw_aload_n hX nd_Mo_search_147 rfl 1 rfl ?_
            refine gw_lload hX nd_Mo_search_148 0 rfl ?_
            refine gw_put hX kf_Mo_130 nd_Mo_search_150 h0 rfl rfl (Nat.le_of_ble_eq_true rfl) (e' := .inr (1, [.int th, .int (nI len), .ref (m + 1), .int (nI sn), .ref (m + 2), .ref (m + 3), .ref (m + 4), .int rs, .ref (m + 5), .ref (m + 6), .ref (m + 7), .ref (m + 8), .ref (m + 9), .int (nI mk), .int (nI ps), .ref (m + 10), .ref (m + 11), .ref (m + 12), .long (iL u0.1), .long (iL (sx wt ws J).1), .int (nI u0.2), .int (nI ((sx wt ws J).2)), .int kp, .int kw])) rfl ?_
            obtain ⟨σ7, eσ7⟩ : ∃ hp_, hp_ = gw_up σ6 m (.inr (1, [.int th, .int (nI len), .ref (m + 1), .int (nI sn), .ref (m + 2), .ref (m + 3), .ref (m + 4), .int rs, .ref (m + 5), .ref (m + 6), .ref (m + 7), .ref (m + 8), .ref (m + 9), .int (nI mk), .int (nI ps), .ref (m + 10), .ref (m + 11), .ref (m + 12), .long (iL u0.1), .long (iL (sx wt ws J).1), .int (nI u0.2), .int (nI ((sx wt ws J).2)), .int kp, .int kw])) := ⟨_, rfl⟩
            refine gw_heap eσ7.symm ?_
            have h0 : σ7.2 m = some (.inr (1, [.int th, .int (nI len), .ref (m + 1), .int (nI sn), .ref (m + 2), .ref (m + 3), .ref (m + 4), .int rs, .ref (m + 5), .ref (m + 6), .ref (m + 7), .ref (m + 8), .ref (m + 9), .int (nI mk), .int (nI ps), .ref (m + 10), .ref (m + 11), .ref (m + 12), .long (iL u0.1), .long (iL (sx wt ws J).1), .int (nI u0.2), .int (nI ((sx wt ws J).2)), .int kp, .int kw])) := by rw [eσ7]; exact gw_up_eq _ _ _
            have ha : σ7.2 a = some ((gw_J (gw_z X) 148 (fun j => iL (wt j)))) := by rw [eσ7, gw_up_ne (by omega)]; exact ha
            have h10 : σ7.2 (m + 10) = some ((gw_J (gw_z X) 24 f10)) := by rw [eσ7, gw_up_ne (by omega)]; exact h10
            have h11 : σ7.2 (m + 11) = some ((gw_I (gw_z X) 6 (fun w => nI (g w)))) := by rw [eσ7, gw_up_ne (by omega)]; exact h11
            have h12 : σ7.2 (m + 12) = some ((gw_J (gw_z X) 7 f)) := by rw [eσ7, gw_up_ne (by omega)]; exact h12
            have fr : gw_f2 σ0 σ7 m (m + 1) (m + 10) (m + 13) := by first | exact gw_f2_l fr (show gw_fr _ σ7 m (m + 1) by rw [eσ7]; exact gw_fr_up _ _ _ (by omega) (by omega)) | exact gw_f2_r fr (show gw_fr _ σ7 (m + 10) (m + 13) by rw [eσ7]; exact gw_fr_up _ _ _ (by omega) (by omega))
            refine gw_iconst (v := nI 1) hX nd_Mo_search_153 rfl ?_
            refine gw_istore hX nd_Mo_search_154 (by decide) (L' := [(6, .int (nI 1)), (7, .long (iL (sx wt ws J).1)), (0, .ref m), (2, .ref a), (3, .int (nI ws.length)), (4, .int (nI fr0)), (5, .int (nI y5))]) rfl ?_
            have hsr' := (show sr_ok (sx_R wt ws (J + 1)) _ _ _ _ from sr_2 (x := u0) (y := sx wt ws J) (by rw [sx_R_s, hR1]; exact tk_of2 (by omega)) rfl rfl rfl rfl)
            refine gw_iload_n hX nd_Mo_search_156 rfl 4 rfl ?_
            refine gw_iconst (v := nI 1) hX nd_Mo_search_157 rfl ?_
            refine gw_isub hX nd_Mo_search_158 ?_
            refine gw_topi (y := nI (ws.length - 1)) (by rw [show ws.length = (ws.length - 1) + 1 by omega]; exact nI_pred _) ?_
            refine gw_istore hX nd_Mo_search_159 (by decide) (L' := [(4, .int (nI (ws.length - 1))), (6, .int (nI 1)), (7, .long (iL (sx wt ws J).1)), (0, .ref m), (2, .ref a), (3, .int (nI ws.length)), (5, .int (nI y5))]) rfl ?_
            refine gw_cut (ks := [3, 4, 5, 0, 6, 1]) (L' := [(0, .ref m), (2, .ref a), (3, .int (nI ws.length)), (4, .int (nI (ws.length - 1))), (5, .int (nI y5)), (6, .int (nI 1))]) rfl ?_
            exact lp_Mo_sI m a hma hma2 ws hso hsl hne wt hB f10 hpr y5 1 J hJ f hf' (fun q g' σ hq hJ1 hg' hg6' hfq h0 ha h10 h11 h12 fr => ih (4 ^ ws.length - (J + 1)) (by omega) (J + 1) q g' f _ _ _ _ y5 1 σ rfl hJ1 hq hg' hg6' hfq hsr' (by omega) h0 ha h10 h11 h12 fr) (fun g' σ hJe h0 ha h10 h11 h12 fr => lp_Mo_sE m a hma hma2 ws hso hsl hne wt hB f10 hpr y5 1 (by rw [← sx_R_end hne, ← hJe]; exact hsr') f (hf' 0 (by omega)) hX hQ hr 0 g' σ h0 ha h10 h11 h12 fr) hX hQ hr _ (ws.length - 1) g _ rfl (by omega) (fun w hw => by rw [if_neg (by omega)]; exact hg w hw) hg6 (fun w h1 h2 => by omega) h0 ha h10 h11 h12 fr
          · have hb : ¬ y6 = 0 := fun h => hb ((nI_eq (a := y6) (b := 0) (by omega) (by omega)).mpr h)
            obtain ⟨u1, hu1⟩ : ∃ x, (sx_R wt ws J)[1]? = some x := ⟨_, List.getElem?_eq_getElem (by omega)⟩
            obtain ⟨e3, e4⟩ := hsr.2 _ hu1
            subst e3 e4
            have hb1 := sx_R_bd hB hsl J u1 (List.mem_of_getElem? hu1)
            have hR2 : sx_R wt ws J = [u0, u1] := sx_two hu0 hu1 (by omega)
            refine gw_lload hX nd_Mo_search_128 0 rfl ?_
            refine gw_aload_n hX nd_Mo_search_130 rfl 1 rfl ?_
            refine gw_get hX kf_Mo_130 nd_Mo_search_131 h0 rfl ?_
            refine gw_lcmp hX nd_Mo_search_134 ?_
            refine gw_if_le (tgt := 156) hX nd_Mo_search_135 rfl (fun hb => ?_) (fun hb => ?_)
            · skip
              have hbw : (sx wt ws J).1 ≤ u1.1 := (rk_cmp hbx hb1).mp hb
              have hsr' := (show sr_ok (sx_R wt ws (J + 1)) _ _ _ _ from sr_2 (x := u0) (y := u1) (by rw [sx_R_s, hR2]; exact tk_of5 (by omega) (by omega)) rfl rfl rfl rfl)
              refine gw_iload_n hX nd_Mo_search_156 rfl 3 rfl ?_
              refine gw_iconst (v := nI 1) hX nd_Mo_search_157 rfl ?_
              refine gw_isub hX nd_Mo_search_158 ?_
              refine gw_topi (y := nI (ws.length - 1)) (by rw [show ws.length = (ws.length - 1) + 1 by omega]; exact nI_pred _) ?_
              refine gw_istore hX nd_Mo_search_159 (by decide) (L' := [(4, .int (nI (ws.length - 1))), (7, .long (iL (sx wt ws J).1)), (0, .ref m), (2, .ref a), (3, .int (nI ws.length)), (5, .int (nI y5)), (6, .int (nI y6))]) rfl ?_
              refine gw_cut (ks := [2, 3, 4, 0, 5, 6]) (L' := [(0, .ref m), (2, .ref a), (3, .int (nI ws.length)), (4, .int (nI (ws.length - 1))), (5, .int (nI y5)), (6, .int (nI y6))]) rfl ?_
              exact lp_Mo_sI m a hma hma2 ws hso hsl hne wt hB f10 hpr y5 y6 J hJ f hf' (fun q g' σ hq hJ1 hg' hg6' hfq h0 ha h10 h11 h12 fr => ih (4 ^ ws.length - (J + 1)) (by omega) (J + 1) q g' f _ _ _ _ y5 y6 σ rfl hJ1 hq hg' hg6' hfq hsr' (by omega) h0 ha h10 h11 h12 fr) (fun g' σ hJe h0 ha h10 h11 h12 fr => lp_Mo_sE m a hma hma2 ws hso hsl hne wt hB f10 hpr y5 y6 (by rw [← sx_R_end hne, ← hJe]; exact hsr') f (hf' 0 (by omega)) hX hQ hr 0 g' σ h0 ha h10 h11 h12 fr) hX hQ hr _ (ws.length - 1) g _ rfl (by omega) (fun w hw => by rw [if_neg (by omega)]; exact hg w hw) hg6 (fun w h1 h2 => by omega) h0 ha h10 h11 h12 fr
            · skip
              have hbw : ¬ (sx wt ws J).1 ≤ u1.1 := fun h => hb ((rk_cmp hbx hb1).mpr h)
              refine gw_aload_n hX nd_Mo_search_138 rfl 1 rfl ?_
              refine gw_aload_n hX nd_Mo_search_139 rfl 1 rfl ?_
              refine gw_iload_n hX nd_Mo_search_140 rfl 3 rfl ?_
              refine gw_callV (rest := [.ref m]) hX ks_Mo_133 (ct_Mo_packed _ _ _ _ m h0 g hg6 h11 ws.length hsl) h0 rfl rfl (Nat.le_of_ble_eq_true rfl) nd_Mo_search_141 (by decide) ?_
              rintro v_ s_ ⟨hv_, hs_⟩
              have hs_ := hs_.symm
              subst hs_ hv_
              show gw_W X σ1 0 0 144 [(7, .long (iL (sx wt ws J).1)), (0, .ref m), (2, .ref a), (3, .int (nI ws.length)), (4, .int (nI fr0)), (5, .int (nI y5)), (6, .int (nI y6))] [.int (nI (tl_d g ws.length)), .ref m]
              refine gw_topi (y := nI (sx wt ws J).2) (by rw [show tl_d g ws.length = (sx wt ws J).2 from tl_d_congr _ hg]) ?_
              refine gw_put hX kf_Mo_127 nd_Mo_search_144 h0 rfl rfl (Nat.le_of_ble_eq_true rfl) (e' := .inr (1, [.int th, .int (nI len), .ref (m + 1), .int (nI sn), .ref (m + 2), .ref (m + 3), .ref (m + 4), .int rs, .ref (m + 5), .ref (m + 6), .ref (m + 7), .ref (m + 8), .ref (m + 9), .int (nI mk), .int (nI ps), .ref (m + 10), .ref (m + 11), .ref (m + 12), .long (iL u0.1), .long (iL u1.1), .int (nI u0.2), .int (nI ((sx wt ws J).2)), .int kp, .int kw])) rfl ?_
              obtain ⟨σ8, eσ8⟩ : ∃ hp_, hp_ = gw_up σ1 m (.inr (1, [.int th, .int (nI len), .ref (m + 1), .int (nI sn), .ref (m + 2), .ref (m + 3), .ref (m + 4), .int rs, .ref (m + 5), .ref (m + 6), .ref (m + 7), .ref (m + 8), .ref (m + 9), .int (nI mk), .int (nI ps), .ref (m + 10), .ref (m + 11), .ref (m + 12), .long (iL u0.1), .long (iL u1.1), .int (nI u0.2), .int (nI ((sx wt ws J).2)), .int kp, .int kw])) := ⟨_, rfl⟩
              refine gw_heap eσ8.symm ?_
              have h0 : σ8.2 m = some (.inr (1, [.int th, .int (nI len), .ref (m + 1), .int (nI sn), .ref (m + 2), .ref (m + 3), .ref (m + 4), .int rs, .ref (m + 5), .ref (m + 6), .ref (m + 7), .ref (m + 8), .ref (m + 9), .int (nI mk), .int (nI ps), .ref (m + 10), .ref (m + 11), .ref (m + 12), .long (iL u0.1), .long (iL u1.1), .int (nI u0.2), .int (nI ((sx wt ws J).2)), .int kp, .int kw])) := by rw [eσ8]; exact gw_up_eq _ _ _
              have ha : σ8.2 a = some ((gw_J (gw_z X) 148 (fun j => iL (wt j)))) := by rw [eσ8, gw_up_ne (by omega)]; exact ha
              have h10 : σ8.2 (m + 10) = some ((gw_J (gw_z X) 24 f10)) := by rw [eσ8, gw_up_ne (by omega)]; exact h10
              have h11 : σ8.2 (m + 11) = some ((gw_I (gw_z X) 6 (fun w => nI (g w)))) := by rw [eσ8, gw_up_ne (by omega)]; exact h11
              have h12 : σ8.2 (m + 12) = some ((gw_J (gw_z X) 7 f)) := by rw [eσ8, gw_up_ne (by omega)]; exact h12
              have fr : gw_f2 σ0 σ8 m (m + 1) (m + 10) (m + 13) := by first | exact gw_f2_l fr (show gw_fr _ σ8 m (m + 1) by rw [eσ8]; exact gw_fr_up _ _ _ (by omega) (by omega)) | exact gw_f2_r fr (show gw_fr _ σ8 (m + 10) (m + 13) by rw [eσ8]; exact gw_fr_up _ _ _ (by omega) (by omega))
              refine gw_aload_n hX nd_Mo_search_147 rfl 1 rfl ?_
              refine gw_lload hX nd_Mo_search_148 0 rfl ?_
              refine gw_put hX kf_Mo_130 nd_Mo_search_150 h0 rfl rfl (Nat.le_of_ble_eq_true rfl) (e' := .inr (1, [.int th, .int (nI len), .ref (m + 1), .int (nI sn), .ref (m + 2), .ref (m + 3), .ref (m + 4), .int rs, .ref (m + 5), .ref (m + 6), .ref (m + 7), .ref (m + 8), .ref (m + 9), .int (nI mk), .int (nI ps), .ref (m + 10), .ref (m + 11), .ref (m + 12), .long (iL u0.1), .long (iL (sx wt ws J).1), .int (nI u0.2), .int (nI ((sx wt ws J).2)), .int kp, .int kw])) rfl ?_
              obtain ⟨σ9, eσ9⟩ : ∃ hp_, hp_ = gw_up σ8 m (.inr (1, [.int th, .int (nI len), .ref (m + 1), .int (nI sn), .ref (m + 2), .ref (m + 3), .ref (m + 4), .int rs, .ref (m + 5), .ref (m + 6), .ref (m + 7), .ref (m + 8), .ref (m + 9), .int (nI mk), .int (nI ps), .ref (m + 10), .ref (m + 11), .ref (m + 12), .long (iL u0.1), .long (iL (sx wt ws J).1), .int (nI u0.2), .int (nI ((sx wt ws J).2)), .int kp, .int kw])) := ⟨_, rfl⟩
              refine gw_heap eσ9.symm ?_
              have h0 : σ9.2 m = some (.inr (1, [.int th, .int (nI len), .ref (m + 1), .int (nI sn), .ref (m + 2), .ref (m + 3), .ref (m + 4), .int rs, .ref (m + 5), .ref (m + 6), .ref (m + 7), .ref (m + 8), .ref (m + 9), .int (nI mk), .int (nI ps), .ref (m + 10), .ref (m + 11), .ref (m + 12), .long (iL u0.1), .long (iL (sx wt ws J).1), .int (nI u0.2), .int (nI ((sx wt ws J).2)), .int kp, .int kw])) := by rw [eσ9]; exact gw_up_eq _ _ _
              have ha : σ9.2 a = some ((gw_J (gw_z X) 148 (fun j => iL (wt j)))) := by rw [eσ9, gw_up_ne (by omega)]; exact ha
              have h10 : σ9.2 (m + 10) = some ((gw_J (gw_z X) 24 f10)) := by rw [eσ9, gw_up_ne (by omega)]; exact h10
              have h11 : σ9.2 (m + 11) = some ((gw_I (gw_z X) 6 (fun w => nI (g w)))) := by rw [eσ9, gw_up_ne (by omega)]; exact h11
              have h12 : σ9.2 (m + 12) = some ((gw_J (gw_z X) 7 f)) := by rw [eσ9, gw_up_ne (by omega)]; exact h12
              have fr : gw_f2 σ0 σ9 m (m + 1) (m + 10) (m + 13) := by first | exact gw_f2_l fr (show gw_fr _ σ9 m (m + 1) by rw [eσ9]; exact gw_fr_up _ _ _ (by omega) (by omega)) | exact gw_f2_r fr (show gw_fr _ σ9 (m + 10) (m + 13) by rw [eσ9]; exact gw_fr_up _ _ _ (by omega) (by omega))
              refine gw_iconst (v := nI 1) hX nd_Mo_search_153 rfl ?_
              refine gw_istore hX nd_Mo_search_154 (by decide) (L' := [(6, .int (nI 1)), (7, .long (iL (sx wt ws J).1)), (0, .ref m), (2, .ref a), (3, .int (nI ws.length)), (4, .int (nI fr0)), (5, .int (nI y5))]) rfl ?_
              have hsr' := (show sr_ok (sx_R wt ws (J + 1)) _ _ _ _ from sr_2 (x := u0) (y := sx wt ws J) (by rw [sx_R_s, hR2]; exact tk_of4 (by omega) (by omega)) rfl rfl rfl rfl)
              refine gw_iload_n hX nd_Mo_search_156 rfl 4 rfl ?_
              refine gw_iconst (v := nI 1) hX nd_Mo_search_157 rfl ?_
              refine gw_isub hX nd_Mo_search_158 ?_
              refine gw_topi (y := nI (ws.length - 1)) (by rw [show ws.length = (ws.length - 1) + 1 by omega]; exact nI_pred _) ?_
              refine gw_istore hX nd_Mo_search_159 (by decide) (L' := [(4, .int (nI (ws.length - 1))), (6, .int (nI 1)), (7, .long (iL (sx wt ws J).1)), (0, .ref m), (2, .ref a), (3, .int (nI ws.length)), (5, .int (nI y5))]) rfl ?_
              refine gw_cut (ks := [3, 4, 5, 0, 6, 1]) (L' := [(0, .ref m), (2, .ref a), (3, .int (nI ws.length)), (4, .int (nI (ws.length - 1))), (5, .int (nI y5)), (6, .int (nI 1))]) rfl ?_
              exact lp_Mo_sI m a hma hma2 ws hso hsl hne wt hB f10 hpr y5 1 J hJ f hf' (fun q g' σ hq hJ1 hg' hg6' hfq h0 ha h10 h11 h12 fr => ih (4 ^ ws.length - (J + 1)) (by omega) (J + 1) q g' f _ _ _ _ y5 1 σ rfl hJ1 hq hg' hg6' hfq hsr' (by omega) h0 ha h10 h11 h12 fr) (fun g' σ hJe h0 ha h10 h11 h12 fr => lp_Mo_sE m a hma hma2 ws hso hsl hne wt hB f10 hpr y5 1 (by rw [← sx_R_end hne, ← hJe]; exact hsr') f (hf' 0 (by omega)) hX hQ hr 0 g' σ h0 ha h10 h11 h12 fr) hX hQ hr _ (ws.length - 1) g _ rfl (by omega) (fun w hw => by rw [if_neg (by omega)]; exact hg w hw) hg6 (fun w h1 h2 => by omega) h0 ha h10 h11 h12 fr
        · skip
          have hbv : ¬ (sx wt ws J).1 ≤ u0.1 := fun h => hb ((rk_cmp hbx hb0).mpr h)
          refine gw_iload hX nd_Mo_search_82 5 rfl ?_
          refine gw_istore hX nd_Mo_search_84 (by decide) (L' := [(6, .int (nI y5)), (7, .long (iL (sx wt ws J).1)), (0, .ref m), (2, .ref a), (3, .int (nI ws.length)), (4, .int (nI fr0)), (5, .int (nI y5))]) rfl ?_
          refine gw_aload_n hX nd_Mo_search_86 rfl 2 rfl ?_
          refine gw_aload_n hX nd_Mo_search_87 rfl 2 rfl ?_
          refine gw_get hX kf_Mo_124 nd_Mo_search_88 h0 rfl ?_
          refine gw_put hX kf_Mo_127 nd_Mo_search_91 h0 rfl rfl (Nat.le_of_ble_eq_true rfl) (e' := .inr (1, [.int th, .int (nI len), .ref (m + 1), .int (nI sn), .ref (m + 2), .ref (m + 3), .ref (m + 4), .int rs, .ref (m + 5), .ref (m + 6), .ref (m + 7), .ref (m + 8), .ref (m + 9), .int (nI mk), .int (nI ps), .ref (m + 10), .ref (m + 11), .ref (m + 12), .long (iL u0.1), .long s2, .int (nI u0.2), .int (nI u0.2), .int kp, .int kw])) rfl ?_
          obtain ⟨σ10, eσ10⟩ : ∃ hp_, hp_ = gw_up σ1 m (.inr (1, [.int th, .int (nI len), .ref (m + 1), .int (nI sn), .ref (m + 2), .ref (m + 3), .ref (m + 4), .int rs, .ref (m + 5), .ref (m + 6), .ref (m + 7), .ref (m + 8), .ref (m + 9), .int (nI mk), .int (nI ps), .ref (m + 10), .ref (m + 11), .ref (m + 12), .long (iL u0.1), .long s2, .int (nI u0.2), .int (nI u0.2), .int kp, .int kw])) := ⟨_, rfl⟩
          refine gw_heap eσ10.symm ?_
          have h0 : σ10.2 m = some (.inr (1, [.int th, .int (nI len), .ref (m + 1), .int (nI sn), .ref (m + 2), .ref (m + 3), .ref (m + 4), .int rs, .ref (m + 5), .ref (m + 6), .ref (m + 7), .ref (m + 8), .ref (m + 9), .int (nI mk), .int (nI ps), .ref (m + 10), .ref (m + 11), .ref (m + 12), .long (iL u0.1), .long s2, .int (nI u0.2), .int (nI u0.2), .int kp, .int kw])) := by rw [eσ10]; exact gw_up_eq _ _ _
          have ha : σ10.2 a = some ((gw_J (gw_z X) 148 (fun j => iL (wt j)))) := by rw [eσ10, gw_up_ne (by omega)]; exact ha
          have h10 : σ10.2 (m + 10) = some ((gw_J (gw_z X) 24 f10)) := by rw [eσ10, gw_up_ne (by omega)]; exact h10
          have h11 : σ10.2 (m + 11) = some ((gw_I (gw_z X) 6 (fun w => nI (g w)))) := by rw [eσ10, gw_up_ne (by omega)]; exact h11
          have h12 : σ10.2 (m + 12) = some ((gw_J (gw_z X) 7 f)) := by rw [eσ10, gw_up_ne (by omega)]; exact h12
          have fr : gw_f2 σ0 σ10 m (m + 1) (m + 10) (m + 13) := by first | exact gw_f2_l fr (show gw_fr _ σ10 m (m + 1) by rw [eσ10]; exact gw_fr_up _ _ _ (by omega) (by omega)) | exact gw_f2_r fr (show gw_fr _ σ10 (m + 10) (m + 13) by rw [eσ10]; exact gw_fr_up _ _ _ (by omega) (by omega))
          refine gw_aload_n hX nd_Mo_search_94 rfl 2 rfl ?_
          refine gw_aload_n hX nd_Mo_search_95 rfl 2 rfl ?_
          refine gw_get hX kf_Mo_120 nd_Mo_search_96 h0 rfl ?_
          refine gw_put hX kf_Mo_130 nd_Mo_search_99 h0 rfl rfl (Nat.le_of_ble_eq_true rfl) (e' := .inr (1, [.int th, .int (nI len), .ref (m + 1), .int (nI sn), .ref (m + 2), .ref (m + 3), .ref (m + 4), .int rs, .ref (m + 5), .ref (m + 6), .ref (m + 7), .ref (m + 8), .ref (m + 9), .int (nI mk), .int (nI ps), .ref (m + 10), .ref (m + 11), .ref (m + 12), .long (iL u0.1), .long (iL u0.1), .int (nI u0.2), .int (nI u0.2), .int kp, .int kw])) rfl ?_
          obtain ⟨σ11, eσ11⟩ : ∃ hp_, hp_ = gw_up σ10 m (.inr (1, [.int th, .int (nI len), .ref (m + 1), .int (nI sn), .ref (m + 2), .ref (m + 3), .ref (m + 4), .int rs, .ref (m + 5), .ref (m + 6), .ref (m + 7), .ref (m + 8), .ref (m + 9), .int (nI mk), .int (nI ps), .ref (m + 10), .ref (m + 11), .ref (m + 12), .long (iL u0.1), .long (iL u0.1), .int (nI u0.2), .int (nI u0.2), .int kp, .int kw])) := ⟨_, rfl⟩
          refine gw_heap eσ11.symm ?_
          have h0 : σ11.2 m = some (.inr (1, [.int th, .int (nI len), .ref (m + 1), .int (nI sn), .ref (m + 2), .ref (m + 3), .ref (m + 4), .int rs, .ref (m + 5), .ref (m + 6), .ref (m + 7), .ref (m + 8), .ref (m + 9), .int (nI mk), .int (nI ps), .ref (m + 10), .ref (m + 11), .ref (m + 12), .long (iL u0.1), .long (iL u0.1), .int (nI u0.2), .int (nI u0.2), .int kp, .int kw])) := by rw [eσ11]; exact gw_up_eq _ _ _
          have ha : σ11.2 a = some ((gw_J (gw_z X) 148 (fun j => iL (wt j)))) := by rw [eσ11, gw_up_ne (by omega)]; exact ha
          have h10 : σ11.2 (m + 10) = some ((gw_J (gw_z X) 24 f10)) := by rw [eσ11, gw_up_ne (by omega)]; exact h10
          have h11 : σ11.2 (m + 11) = some ((gw_I (gw_z X) 6 (fun w => nI (g w)))) := by rw [eσ11, gw_up_ne (by omega)]; exact h11
          have h12 : σ11.2 (m + 12) = some ((gw_J (gw_z X) 7 f)) := by rw [eσ11, gw_up_ne (by omega)]; exact h12
          have fr : gw_f2 σ0 σ11 m (m + 1) (m + 10) (m + 13) := by first | exact gw_f2_l fr (show gw_fr _ σ11 m (m + 1) by rw [eσ11]; exact gw_fr_up _ _ _ (by omega) (by omega)) | exact gw_f2_r fr (show gw_fr _ σ11 (m + 10) (m + 13) by rw [eσ11]; exact gw_fr_up _ _ _ (by omega) (by omega))
          refine gw_aload_n hX nd_Mo_search_102 rfl 2 rfl ?_
          refine gw_aload_n hX nd_Mo_search_103 rfl 2 rfl ?_
          refine gw_iload_n hX nd_Mo_search_104 rfl 4 rfl ?_
          refine gw_callV (rest := [.ref m]) hX ks_Mo_133 (ct_Mo_packed _ _ _ _ m h0 g hg6 h11 ws.length hsl) h0 rfl rfl (Nat.le_of_ble_eq_true rfl) nd_Mo_search_105 (by decide) ?_
          rintro v_ s_ ⟨hv_, hs_⟩
          have hs_ := hs_.symm
          subst hs_ hv_
          show gw_W X σ11 0 0 108 [(6, .int (nI y5)), (7, .long (iL (sx wt ws J).1)), (0, .ref m), (2, .ref a), (3, .int (nI ws.length)), (4, .int (nI fr0)), (5, .int (nI y5))] [.int (nI (tl_d g ws.length)), .ref m]
          refine gw_topi (y := nI (sx wt ws J).2) (by rw [show tl_d g ws.length = (sx wt ws J).2 from tl_d_congr _ hg]) ?_
          refine gw_put hX kf_Mo_124 nd_Mo_search_108 h0 rfl rfl (Nat.le_of_ble_eq_true rfl) (e' := .inr (1, [.int th, .int (nI len), .ref (m + 1), .int (nI sn), .ref (m + 2), .ref (m + 3), .ref (m + 4), .int rs, .ref (m + 5), .ref (m + 6), .ref (m + 7), .ref (m + 8), .ref (m + 9), .int (nI mk), .int (nI ps), .ref (m + 10), .ref (m + 11), .ref (m + 12), .long (iL u0.1), .long (iL u0.1), .int (nI ((sx wt ws J).2)), .int (nI u0.2), .int kp, .int kw])) rfl ?_
          obtain ⟨σ12, eσ12⟩ : ∃ hp_, hp_ = gw_up σ11 m (.inr (1, [.int th, .int (nI len), .ref (m + 1), .int (nI sn), .ref (m + 2), .ref (m + 3), .ref (m + 4), .int rs, .ref (m + 5), .ref (m + 6), .ref (m + 7), .ref (m + 8), .ref (m + 9), .int (nI mk), .int (nI ps), .ref (m + 10), .ref (m + 11), .ref (m + 12), .long (iL u0.1), .long (iL u0.1), .int (nI ((sx wt ws J).2)), .int (nI u0.2), .int kp, .int kw])) := ⟨_, rfl⟩
          refine gw_heap eσ12.symm ?_
          have h0 : σ12.2 m = some (.inr (1, [.int th, .int (nI len), .ref (m + 1), .int (nI sn), .ref (m + 2), .ref (m + 3), .ref (m + 4), .int rs, .ref (m + 5), .ref (m + 6), .ref (m + 7), .ref (m + 8), .ref (m + 9), .int (nI mk), .int (nI ps), .ref (m + 10), .ref (m + 11), .ref (m + 12), .long (iL u0.1), .long (iL u0.1), .int (nI ((sx wt ws J).2)), .int (nI u0.2), .int kp, .int kw])) := by rw [eσ12]; exact gw_up_eq _ _ _
          have ha : σ12.2 a = some ((gw_J (gw_z X) 148 (fun j => iL (wt j)))) := by rw [eσ12, gw_up_ne (by omega)]; exact ha
          have h10 : σ12.2 (m + 10) = some ((gw_J (gw_z X) 24 f10)) := by rw [eσ12, gw_up_ne (by omega)]; exact h10
          have h11 : σ12.2 (m + 11) = some ((gw_I (gw_z X) 6 (fun w => nI (g w)))) := by rw [eσ12, gw_up_ne (by omega)]; exact h11
          have h12 : σ12.2 (m + 12) = some ((gw_J (gw_z X) 7 f)) := by rw [eσ12, gw_up_ne (by omega)]; exact h12
          have fr : gw_f2 σ0 σ12 m (m + 1) (m + 10) (m + 13) := by first | exact gw_f2_l fr (show gw_fr _ σ12 m (m + 1) by rw [eσ12]; exact gw_fr_up _ _ _ (by omega) (by omega)) | exact gw_f2_r fr (show gw_fr _ σ12 (m + 10) (m + 13) by rw [eσ12]; exact gw_fr_up _ _ _ (by omega) (by omega))
          refine gw_aload_n hX nd_Mo_search_111 rfl 2 rfl ?_
          refine gw_lload hX nd_Mo_search_112 1 rfl ?_
          refine gw_put hX kf_Mo_120 nd_Mo_search_114 h0 rfl rfl (Nat.le_of_ble_eq_true rfl) (e' := .inr (1, [.int th, .int (nI len), .ref (m + 1), .int (nI sn), .ref (m + 2), .ref (m + 3), .ref (m + 4), .int rs, .ref (m + 5), .ref (m + 6), .ref (m + 7), .ref (m + 8), .ref (m + 9), .int (nI mk), .int (nI ps), .ref (m + 10), .ref (m + 11), .ref (m + 12), .long (iL (sx wt ws J).1), .long (iL u0.1), .int (nI ((sx wt ws J).2)), .int (nI u0.2), .int kp, .int kw])) rfl ?_
          obtain ⟨σ13, eσ13⟩ : ∃ hp_, hp_ = gw_up σ12 m (.inr (1, [.int th, .int (nI len), .ref (m + 1), .int (nI sn), .ref (m + 2), .ref (m + 3), .ref (m + 4), .int rs, .ref (m + 5), .ref (m + 6), .ref (m + 7), .ref (m + 8), .ref (m + 9), .int (nI mk), .int (nI ps), .ref (m + 10), .ref (m + 11), .ref (m + 12), .long (iL (sx wt ws J).1), .long (iL u0.1), .int (nI ((sx wt ws J).2)), .int (nI u0.2), .int kp, .int kw])) := ⟨_, rfl⟩
          refine gw_heap eσ13.symm ?_
          have h0 : σ13.2 m = some (.inr (1, [.int th, .int (nI len), .ref (m + 1), .int (nI sn), .ref (m + 2), .ref (m + 3), .ref (m + 4), .int rs, .ref (m + 5), .ref (m + 6), .ref (m + 7), .ref (m + 8), .ref (m + 9), .int (nI mk), .int (nI ps), .ref (m + 10), .ref (m + 11), .ref (m + 12), .long (iL (sx wt ws J).1), .long (iL u0.1), .int (nI ((sx wt ws J).2)), .int (nI u0.2), .int kp, .int kw])) := by rw [eσ13]; exact gw_up_eq _ _ _
          have ha : σ13.2 a = some ((gw_J (gw_z X) 148 (fun j => iL (wt j)))) := by rw [eσ13, gw_up_ne (by omega)]; exact ha
          have h10 : σ13.2 (m + 10) = some ((gw_J (gw_z X) 24 f10)) := by rw [eσ13, gw_up_ne (by omega)]; exact h10
          have h11 : σ13.2 (m + 11) = some ((gw_I (gw_z X) 6 (fun w => nI (g w)))) := by rw [eσ13, gw_up_ne (by omega)]; exact h11
          have h12 : σ13.2 (m + 12) = some ((gw_J (gw_z X) 7 f)) := by rw [eσ13, gw_up_ne (by omega)]; exact h12
          have fr : gw_f2 σ0 σ13 m (m + 1) (m + 10) (m + 13) := by first | exact gw_f2_l fr (show gw_fr _ σ13 m (m + 1) by rw [eσ13]; exact gw_fr_up _ _ _ (by omega) (by omega)) | exact gw_f2_r fr (show gw_fr _ σ13 (m + 10) (m + 13) by rw [eσ13]; exact gw_fr_up _ _ _ (by omega) (by omega))
          refine gw_iconst (v := nI 1) hX nd_Mo_search_117 rfl ?_
          refine gw_istore hX nd_Mo_search_118 (by decide) (L' := [(5, .int (nI 1)), (6, .int (nI y5)), (7, .long (iL (sx wt ws J).1)), (0, .ref m), (2, .ref a), (3, .int (nI ws.length)), (4, .int (nI fr0))]) rfl ?_
          refine gw_goto (tgt := 156) hX nd_Mo_search_120 rfl ?_
          have hsr' := (show sr_ok (sx_R wt ws (J + 1)) _ _ _ _ from sr_2 (x := sx wt ws J) (y := u0) (by rw [sx_R_s]; rcases Nat.lt_or_ge J 2 with h9 | h9; (rw [sx_one hu0 (by omega)]; exact tk_of1 (by omega)); (obtain ⟨u1, hu1⟩ : ∃ x, (sx_R wt ws J)[1]? = some x := ⟨_, List.getElem?_eq_getElem (by omega)⟩); rw [sx_two hu0 hu1 (by omega)]; exact tk_of3 (by omega)) rfl rfl rfl rfl)
          refine gw_iload_n hX nd_Mo_search_156 rfl 5 rfl ?_
          refine gw_iconst (v := nI 1) hX nd_Mo_search_157 rfl ?_
          refine gw_isub hX nd_Mo_search_158 ?_
          refine gw_topi (y := nI (ws.length - 1)) (by rw [show ws.length = (ws.length - 1) + 1 by omega]; exact nI_pred _) ?_
          refine gw_istore hX nd_Mo_search_159 (by decide) (L' := [(4, .int (nI (ws.length - 1))), (5, .int (nI 1)), (6, .int (nI y5)), (7, .long (iL (sx wt ws J).1)), (0, .ref m), (2, .ref a), (3, .int (nI ws.length))]) rfl ?_
          refine gw_cut (ks := [4, 5, 6, 0, 1, 2]) (L' := [(0, .ref m), (2, .ref a), (3, .int (nI ws.length)), (4, .int (nI (ws.length - 1))), (5, .int (nI 1)), (6, .int (nI y5))]) rfl ?_
          exact lp_Mo_sI m a hma hma2 ws hso hsl hne wt hB f10 hpr 1 y5 J hJ f hf' (fun q g' σ hq hJ1 hg' hg6' hfq h0 ha h10 h11 h12 fr => ih (4 ^ ws.length - (J + 1)) (by omega) (J + 1) q g' f _ _ _ _ 1 y5 σ rfl hJ1 hq hg' hg6' hfq hsr' (by omega) h0 ha h10 h11 h12 fr) (fun g' σ hJe h0 ha h10 h11 h12 fr => lp_Mo_sE m a hma hma2 ws hso hsl hne wt hB f10 hpr 1 y5 (by rw [← sx_R_end hne, ← hJe]; exact hsr') f (hf' 0 (by omega)) hX hQ hr 0 g' σ h0 ha h10 h11 h12 fr) hX hQ hr _ (ws.length - 1) g _ rfl (by omega) (fun w hw => by rw [if_neg (by omega)]; exact hg w hw) hg6 (fun w h1 h2 => by omega) h0 ha h10 h11 h12 fr
