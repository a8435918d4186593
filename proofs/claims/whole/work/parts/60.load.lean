/-! the model's load and speak -/
theorem ld_no {len : Nat} {ch : Nat → Nat} {f i : Nat} {acc : List (List px_W)} (h : px_S len ch true i = none) : px_C len ch (f + 1) i acc = none := by
  simp [px_C, h]
theorem ld_more {len : Nat} {ch : Nat → Nat} {f i k : Nat} {ws : List px_W} {acc : List (List px_W)} (h : px_S len ch true i = some (k, ws)) (hk : px_is len ch 59 k = true) : px_C len ch (f + 1) i acc = px_C len ch f (k + 1) (acc ++ [ws]) := by
  rw [px_C, h]
  simp only [hk, if_true]
theorem ld_end {len : Nat} {ch : Nat → Nat} {f i k : Nat} {ws : List px_W} {acc : List (List px_W)} (h : px_S len ch true i = some (k, ws)) (hk : px_is len ch 59 k = false) : px_C len ch (f + 1) i acc = if k = len then some (acc ++ [ws]) else none := by
  rw [px_C, h]
  simp [hk]
theorem ld_ne {k : Nat} (h : k < 2 ^ 31) : ¬ (-1 : Int32) = nI k := fun e => nI_pos h (by rw [← e]; decide)
def ld_G (g5 g6 g7 : Nat → Int32) (ss : List (List px_W)) : Prop := ∀ (i : Nat) (ws : List px_W), ss[i]? = some ws → mm_b g5 g6 i ws ∧ mm_l g7 i ws ∧ ws.length ≤ 6
def ld_T (fm fb fl : Nat → Int32) (ss : List (List px_W)) (q : Nat) : Prop := ∀ (i : Nat) (ws : List px_W), i < q → ss[i]? = some ws → mm_b fm fb i ws ∧ mm_l fl i ws ∧ ws.length ≤ 6
theorem mm_len {ws : List px_W} {w : Nat} {x : px_W} (h : ws[w]? = some x) : w < ws.length := (List.getElem?_eq_some_iff.mp h).1
theorem ld_Gs {f5 f6 f7 g5 g6 g7 : Nat → Int32} {ss : List (List px_W)} {ws : List px_W} (h : ld_G f5 f6 f7 ss) (hs : rd_s f5 f6 f7 g5 g6 g7 ss.length) (h1 : mm_b g5 g6 ss.length ws) (h2 : mm_l g7 ss.length ws) (h3 : ws.length ≤ 6) : ld_G g5 g6 g7 (ss ++ [ws]) := by
  intro i y hy
  by_cases e : i < ss.length
  · rw [List.getElem?_append_left e] at hy
    obtain ⟨⟨a1, a2⟩, a3, a4⟩ := h i y hy
    refine ⟨⟨(hs.1 i (by omega)).trans a1, fun w x hx k hk => ?_⟩, fun w x hx => ?_, a4⟩
    · have hw := mm_len hx
      exact (hs.2.1 _ (by omega)).trans (a2 w x hx k hk)
    · have hw := mm_len hx
      exact (hs.2.2 _ (by omega)).trans (a3 w x hx)
  · have hl : i = ss.length := by
      have := (List.getElem?_eq_some_iff.mp hy).1
      rw [List.length_append, List.length_singleton] at this
      omega
    subst hl
    rw [List.getElem?_append_right (Nat.le_refl _), Nat.sub_self] at hy
    cases hy
    exact ⟨h1, h2, h3⟩
theorem tk_new {fm fb g5 g6 : Nat → Int32} {q : Nat} {ws : List px_W} (h : mm_b g5 g6 q ws) (hl : ws.length ≤ 6) : mm_b (upd fm q (g5 q)) (cp_f fb g6 (18 * q) (18 * q + 18)) q ws := by
  refine ⟨(if_pos rfl : upd fm q (g5 q) q = g5 q).trans h.1, fun w x hx k hk => ?_⟩
  have hw := mm_len hx
  unfold cp_f
  rw [if_pos (by omega)]
  exact h.2 w x hx k hk
theorem tk_old {fm fb g5 g6 : Nat → Int32} {q i : Nat} {ws : List px_W} (h : mm_b fm fb i ws) (hl : ws.length ≤ 6) (hi : i ≠ q) : mm_b (upd fm q (g5 q)) (cp_f fb g6 (18 * q) (18 * q + 18)) i ws := by
  refine ⟨(if_neg hi : upd fm q (g5 q) i = fm i).trans h.1, fun w x hx k hk => ?_⟩
  have hw := mm_len hx
  unfold cp_f
  rw [if_neg (by omega)]
  exact h.2 w x hx k hk
theorem tl_new {fl g7 : Nat → Int32} {q : Nat} {ws : List px_W} (h : mm_l g7 q ws) (hl : ws.length ≤ 6) : mm_l (cp_f fl g7 (6 * q) (6 * q + 6)) q ws := by
  intro w x hx
  have hw := mm_len hx
  unfold cp_f
  rw [if_pos (by omega)]
  exact h w x hx
theorem tl_old {fl g7 : Nat → Int32} {q i : Nat} {ws : List px_W} (h : mm_l fl i ws) (hl : ws.length ≤ 6) (hi : i ≠ q) : mm_l (cp_f fl g7 (6 * q) (6 * q + 6)) i ws := by
  intro w x hx
  have hw := mm_len hx
  unfold cp_f
  rw [if_neg (by omega)]
  exact h w x hx
theorem ld_Ts {fm fb fl g5 g6 g7 : Nat → Int32} {ss : List (List px_W)} {q : Nat} (h : ld_T fm fb fl ss q) (hg : ld_G g5 g6 g7 ss) : ld_T (upd fm q (g5 q)) (cp_f fb g6 (18 * q) (18 * q + 18)) (cp_f fl g7 (6 * q) (6 * q + 6)) ss (q + 1) := by
  intro i ws hi hw
  by_cases e : i = q
  · subst e
    obtain ⟨a1, a2, a3⟩ := hg i ws hw
    exact ⟨tk_new a1 a3, tl_new a2 a3, a3⟩
  · obtain ⟨a1, a2, a3⟩ := h i ws (by omega) hw
    exact ⟨tk_old a1 a3 e, tl_old a2 a3 e, a3⟩
/-- cleared up to k -/
def cl_f (w : Nat → Int64) (k : Nat) : Nat → Int64 := fun j => if j < k then iL 0 else w j
theorem cl_0 (w : Nat → Int64) : cl_f w 0 = w := by
  funext j
  unfold cl_f
  rw [if_neg (by omega)]
theorem cl_s (w : Nat → Int64) (k : Nat) : vp_updL (cl_f w k) k 0 = cl_f w (k + 1) := by
  funext j
  unfold vp_updL cl_f
  by_cases e : j = k
  · rw [if_pos e, if_pos (by omega)]; exact zz_L
  · rw [if_neg e]
    by_cases e2 : j < k
    · rw [if_pos e2, if_pos (by omega)]
    · rw [if_neg e2, if_neg (by omega)]
theorem cl_e (w : Nat → Int64) : ∀ j, j < 148 → cl_f w 148 j = (fun _ => iL 0 : Nat → Int64) j := fun j hj => if_pos hj
set_option maxRecDepth 100000 in
set_option maxHeartbeats 8000000 in
theorem lp_Mo_ldC {X : gw_C} (m : Nat) (A : ab_A) (hA : ab_ok A) {rs be se kp kw : Int32} {bs s2 : Int64} (g5 g6 g7 : Nat → Int32) (f10 f12 : Nat → Int64) (f11 : Nat → Int32) (hz12 : f12 0 = iL 0) {σ0 : gw_S} (ss : List (List px_W)) (hss : ss.length ≤ 8) (hRC : px_C A.len A.ch 8 0 [] = some ss) (fm fb fl : Nat → Int32) (hT : mw_ok (ab_ld A ss) (-1) kw fm fb fl) (hX : gw_ok X nc_Mo_load "LabelLearnerModel" (4, 3, 75, 0, 0)) (hQ : X.2.2.2.2 = gw_end X (fun v σ' => ((∃ ss : List (List px_W), px_C A.len A.ch 8 0 [] = some ss ∧ v = some (.int (nI ss.length)) ∧ mw σ' (gw_z X) m (ab_ld A ss) 0) ∨ (px_C A.len A.ch 8 0 [] = none ∧ v = some (.int (nI 0)) ∧ mw σ' (gw_z X) m A 1)) ∧ (∀ b, b < m ∨ m + 13 ≤ b → σ'.2 b = σ0.2 b)) 0 0) (hr : X.2.2.1.1.sig.returnType = (some .int)) : ∀ (u : Nat) (k : Nat) (σ : gw_S), k + u = 148 → σ.2 m = some (.inr (1, [.int (nI 0), .int (nI 0), .ref (m + 1), .int (nI ss.length), .ref (m + 2), .ref (m + 3), .ref (m + 4), .int rs, .ref (m + 5), .ref (m + 6), .ref (m + 7), .ref (m + 8), .ref (m + 9), .int (nI A.mk), .int (nI A.ps), .ref (m + 10), .ref (m + 11), .ref (m + 12), .long bs, .long s2, .int be, .int se, .int kp, .int kw])) → σ.2 (m + 1) = some ((gw_I (gw_z X) 240 (fun j => nI (A.ch j)))) → σ.2 (m + 2) = some ((gw_I (gw_z X) 9 fm)) → σ.2 (m + 3) = some ((gw_I (gw_z X) 162 fb)) → σ.2 (m + 4) = some ((gw_I (gw_z X) 54 fl)) → σ.2 (m + 5) = some ((gw_I (gw_z X) 9 g5)) → σ.2 (m + 6) = some ((gw_I (gw_z X) 162 g6)) → σ.2 (m + 7) = some ((gw_I (gw_z X) 54 g7)) → σ.2 (m + 8) = some ((gw_J (gw_z X) 148 (cl_f (fun j => iL (A.wt j)) k))) → σ.2 (m + 9) = some ((gw_J (gw_z X) 148 (cl_f (fun j => iL (A.tt j)) k))) → σ.2 (m + 10) = some ((gw_J (gw_z X) 24 f10)) → σ.2 (m + 11) = some ((gw_I (gw_z X) 6 f11)) → σ.2 (m + 12) = some ((gw_J (gw_z X) 7 f12)) → gw_fr σ0 σ m (m + 13) → gw_W X σ 0 0 144 [(0, .ref m), (3, .int (nI k))] [] := by
  intro u
  induction u using Nat.strongRecOn with
  | ind u ih =>
    intro k σ
    intro hk h0 h1 h2 h3 h4 h5 h6 h7 h8 h9 h10 h11 h12 fr
    refine gw_iload_n hX nd_Mo_load_144 rfl 1 rfl ?_
    refine gw_sipush (v := nI 148) hX nd_Mo_load_145 rfl ?_
    refine gw_icmp_ge (tgt := 171) hX nd_Mo_load_148 rfl (fun hb => ?_) (fun hb => ?_)
    · have hb : 148 ≤ k := (nI_leI (a := 148) (b := k) (by omega) (by omega)).mp hb
      have hk148 : k = 148 := by omega
      subst hk148
      refine gw_extJ h8 (g := fun _ => iL 0) (cl_e _) ?_
      obtain ⟨σ1, eσ1⟩ : ∃ hp_, hp_ = gw_up σ (m + 8) ((gw_J (gw_z X) 148 (fun _ => iL 0))) := ⟨_, rfl⟩
      refine gw_heap eσ1.symm ?_
      have h0 : σ1.2 m = some (.inr (1, [.int (nI 0), .int (nI 0), .ref (m + 1), .int (nI ss.length), .ref (m + 2), .ref (m + 3), .ref (m + 4), .int rs, .ref (m + 5), .ref (m + 6), .ref (m + 7), .ref (m + 8), .ref (m + 9), .int (nI A.mk), .int (nI A.ps), .ref (m + 10), .ref (m + 11), .ref (m + 12), .long bs, .long s2, .int be, .int se, .int kp, .int kw])) := by rw [eσ1, gw_up_ne (by omega)]; exact h0
      have h1 : σ1.2 (m + 1) = some ((gw_I (gw_z X) 240 (fun j => nI (A.ch j)))) := by rw [eσ1, gw_up_ne (by omega)]; exact h1
      have h2 : σ1.2 (m + 2) = some ((gw_I (gw_z X) 9 fm)) := by rw [eσ1, gw_up_ne (by omega)]; exact h2
      have h3 : σ1.2 (m + 3) = some ((gw_I (gw_z X) 162 fb)) := by rw [eσ1, gw_up_ne (by omega)]; exact h3
      have h4 : σ1.2 (m + 4) = some ((gw_I (gw_z X) 54 fl)) := by rw [eσ1, gw_up_ne (by omega)]; exact h4
      have h5 : σ1.2 (m + 5) = some ((gw_I (gw_z X) 9 g5)) := by rw [eσ1, gw_up_ne (by omega)]; exact h5
      have h6 : σ1.2 (m + 6) = some ((gw_I (gw_z X) 162 g6)) := by rw [eσ1, gw_up_ne (by omega)]; exact h6
      have h7 : σ1.2 (m + 7) = some ((gw_I (gw_z X) 54 g7)) := by rw [eσ1, gw_up_ne (by omega)]; exact h7
      have h8 : σ1.2 (m + 8) = some ((gw_J (gw_z X) 148 (fun _ => iL 0))) := by rw [eσ1]; exact gw_up_eq _ _ _
      have h9 : σ1.2 (m + 9) = some ((gw_J (gw_z X) 148 (cl_f (fun j => iL (A.tt j)) 148))) := by rw [eσ1, gw_up_ne (by omega)]; exact h9
      have h10 : σ1.2 (m + 10) = some ((gw_J (gw_z X) 24 f10)) := by rw [eσ1, gw_up_ne (by omega)]; exact h10
      have h11 : σ1.2 (m + 11) = some ((gw_I (gw_z X) 6 f11)) := by rw [eσ1, gw_up_ne (by omega)]; exact h11
      have h12 : σ1.2 (m + 12) = some ((gw_J (gw_z X) 7 f12)) := by rw [eσ1, gw_up_ne (by omega)]; exact h12
      have fr : gw_fr σ0 σ1 m (m + 13) := gw_fr_tr fr (show gw_fr _ σ1 m (m + 13) by rw [eσ1]; exact gw_fr_up _ _ _ (by omega) (by omega))
      refine gw_extJ h9 (g := fun _ => iL 0) (cl_e _) ?_
      obtain ⟨σ2, eσ2⟩ : ∃ hp_, hp_ = gw_up σ1 (m + 9) ((gw_J (gw_z X) 148 (fun _ => iL 0))) := ⟨_, rfl⟩
      refine gw_heap eσ2.symm ?_
      have h0 : σ2.2 m = some (.inr (1, [.int (nI 0), .int (nI 0), .ref (m + 1), .int (nI ss.length), .ref (m + 2), .ref (m + 3), .ref (m + 4), .int rs, .ref (m + 5), .ref (m + 6), .ref (m + 7), .ref (m + 8), .ref (m + 9), .int (nI A.mk), .int (nI A.ps), .ref (m + 10), .ref (m + 11), .ref (m + 12), .long bs, .long s2, .int be, .int se, .int kp, .int kw])) := by rw [eσ2, gw_up_ne (by omega)]; exact h0
      have h1 : σ2.2 (m + 1) = some ((gw_I (gw_z X) 240 (fun j => nI (A.ch j)))) := by rw [eσ2, gw_up_ne (by omega)]; exact h1
      have h2 : σ2.2 (m + 2) = some ((gw_I (gw_z X) 9 fm)) := by rw [eσ2, gw_up_ne (by omega)]; exact h2
      have h3 : σ2.2 (m + 3) = some ((gw_I (gw_z X) 162 fb)) := by rw [eσ2, gw_up_ne (by omega)]; exact h3
      have h4 : σ2.2 (m + 4) = some ((gw_I (gw_z X) 54 fl)) := by rw [eσ2, gw_up_ne (by omega)]; exact h4
      have h5 : σ2.2 (m + 5) = some ((gw_I (gw_z X) 9 g5)) := by rw [eσ2, gw_up_ne (by omega)]; exact h5
      have h6 : σ2.2 (m + 6) = some ((gw_I (gw_z X) 162 g6)) := by rw [eσ2, gw_up_ne (by omega)]; exact h6
      have h7 : σ2.2 (m + 7) = some ((gw_I (gw_z X) 54 g7)) := by rw [eσ2, gw_up_ne (by omega)]; exact h7
      have h8 : σ2.2 (m + 8) = some ((gw_J (gw_z X) 148 (fun _ => iL 0))) := by rw [eσ2, gw_up_ne (by omega)]; exact h8
      have h9 : σ2.2 (m + 9) = some ((gw_J (gw_z X) 148 (fun _ => iL 0))) := by rw [eσ2]; exact gw_up_eq _ _ _
      have h10 : σ2.2 (m + 10) = some ((gw_J (gw_z X) 24 f10)) := by rw [eσ2, gw_up_ne (by omega)]; exact h10
      have h11 : σ2.2 (m + 11) = some ((gw_I (gw_z X) 6 f11)) := by rw [eσ2, gw_up_ne (by omega)]; exact h11
      have h12 : σ2.2 (m + 12) = some ((gw_J (gw_z X) 7 f12)) := by rw [eσ2, gw_up_ne (by omega)]; exact h12
      have fr : gw_fr σ0 σ2 m (m + 13) := gw_fr_tr fr (show gw_fr _ σ2 m (m + 13) by rw [eσ2]; exact gw_fr_up _ _ _ (by omega) (by omega))
      refine gw_aload_n hX nd_Mo_load_171 rfl 0 rfl ?_
      refine gw_iconst (v := nI 0) hX nd_Mo_load_172 rfl ?_
      refine gw_put hX kf_Mo_96 nd_Mo_load_173 h0 rfl rfl (Nat.le_of_ble_eq_true rfl) (e' := .inr (1, [.int (nI 0), .int (nI 0), .ref (m + 1), .int (nI ss.length), .ref (m + 2), .ref (m + 3), .ref (m + 4), .int rs, .ref (m + 5), .ref (m + 6), .ref (m + 7), .ref (m + 8), .ref (m + 9), .int (nI 0), .int (nI A.ps), .ref (m + 10), .ref (m + 11), .ref (m + 12), .long bs, .long s2, .int be, .int se, .int kp, .int kw])) rfl ?_
      obtain ⟨σ3, eσ3⟩ : ∃ hp_, hp_ = gw_up σ2 m (.inr (1, [.int (nI 0), .int (nI 0), .ref (m + 1), .int (nI ss.length), .ref (m + 2), .ref (m + 3), .ref (m + 4), .int rs, .ref (m + 5), .ref (m + 6), .ref (m + 7), .ref (m + 8), .ref (m + 9), .int (nI 0), .int (nI A.ps), .ref (m + 10), .ref (m + 11), .ref (m + 12), .long bs, .long s2, .int be, .int se, .int kp, .int kw])) := ⟨_, rfl⟩
      refine gw_heap eσ3.symm ?_
      have h0 : σ3.2 m = some (.inr (1, [.int (nI 0), .int (nI 0), .ref (m + 1), .int (nI ss.length), .ref (m + 2), .ref (m + 3), .ref (m + 4), .int rs, .ref (m + 5), .ref (m + 6), .ref (m + 7), .ref (m + 8), .ref (m + 9), .int (nI 0), .int (nI A.ps), .ref (m + 10), .ref (m + 11), .ref (m + 12), .long bs, .long s2, .int be, .int se, .int kp, .int kw])) := by rw [eσ3]; exact gw_up_eq _ _ _
      have h1 : σ3.2 (m + 1) = some ((gw_I (gw_z X) 240 (fun j => nI (A.ch j)))) := by rw [eσ3, gw_up_ne (by omega)]; exact h1
      have h2 : σ3.2 (m + 2) = some ((gw_I (gw_z X) 9 fm)) := by rw [eσ3, gw_up_ne (by omega)]; exact h2
      have h3 : σ3.2 (m + 3) = some ((gw_I (gw_z X) 162 fb)) := by rw [eσ3, gw_up_ne (by omega)]; exact h3
      have h4 : σ3.2 (m + 4) = some ((gw_I (gw_z X) 54 fl)) := by rw [eσ3, gw_up_ne (by omega)]; exact h4
      have h5 : σ3.2 (m + 5) = some ((gw_I (gw_z X) 9 g5)) := by rw [eσ3, gw_up_ne (by omega)]; exact h5
      have h6 : σ3.2 (m + 6) = some ((gw_I (gw_z X) 162 g6)) := by rw [eσ3, gw_up_ne (by omega)]; exact h6
      have h7 : σ3.2 (m + 7) = some ((gw_I (gw_z X) 54 g7)) := by rw [eσ3, gw_up_ne (by omega)]; exact h7
      have h8 : σ3.2 (m + 8) = some ((gw_J (gw_z X) 148 (fun _ => iL 0))) := by rw [eσ3, gw_up_ne (by omega)]; exact h8
      have h9 : σ3.2 (m + 9) = some ((gw_J (gw_z X) 148 (fun _ => iL 0))) := by rw [eσ3, gw_up_ne (by omega)]; exact h9
      have h10 : σ3.2 (m + 10) = some ((gw_J (gw_z X) 24 f10)) := by rw [eσ3, gw_up_ne (by omega)]; exact h10
      have h11 : σ3.2 (m + 11) = some ((gw_I (gw_z X) 6 f11)) := by rw [eσ3, gw_up_ne (by omega)]; exact h11
      have h12 : σ3.2 (m + 12) = some ((gw_J (gw_z X) 7 f12)) := by rw [eσ3, gw_up_ne (by omega)]; exact h12
      have fr : gw_fr σ0 σ3 m (m + 13) := gw_fr_tr fr (show gw_fr _ σ3 m (m + 13) by rw [eσ3]; exact gw_fr_up _ _ _ (by omega) (by omega))
      refine gw_aload_n hX nd_Mo_load_176 rfl 0 rfl ?_
      refine gw_iconst (v := nI 0) hX nd_Mo_load_177 rfl ?_
      refine gw_put hX kf_Mo_99 nd_Mo_load_178 h0 rfl rfl (Nat.le_of_ble_eq_true rfl) (e' := .inr (1, [.int (nI 0), .int (nI 0), .ref (m + 1), .int (nI ss.length), .ref (m + 2), .ref (m + 3), .ref (m + 4), .int rs, .ref (m + 5), .ref (m + 6), .ref (m + 7), .ref (m + 8), .ref (m + 9), .int (nI 0), .int (nI 0), .ref (m + 10), .ref (m + 11), .ref (m + 12), .long bs, .long s2, .int be, .int se, .int kp, .int kw])) rfl ?_
      obtain ⟨σ4, eσ4⟩ : ∃ hp_, hp_ = gw_up σ3 m (.inr (1, [.int (nI 0), .int (nI 0), .ref (m + 1), .int (nI ss.length), .ref (m + 2), .ref (m + 3), .ref (m + 4), .int rs, .ref (m + 5), .ref (m + 6), .ref (m + 7), .ref (m + 8), .ref (m + 9), .int (nI 0), .int (nI 0), .ref (m + 10), .ref (m + 11), .ref (m + 12), .long bs, .long s2, .int be, .int se, .int kp, .int kw])) := ⟨_, rfl⟩
      refine gw_heap eσ4.symm ?_
      have h0 : σ4.2 m = some (.inr (1, [.int (nI 0), .int (nI 0), .ref (m + 1), .int (nI ss.length), .ref (m + 2), .ref (m + 3), .ref (m + 4), .int rs, .ref (m + 5), .ref (m + 6), .ref (m + 7), .ref (m + 8), .ref (m + 9), .int (nI 0), .int (nI 0), .ref (m + 10), .ref (m + 11), .ref (m + 12), .long bs, .long s2, .int be, .int se, .int kp, .int kw])) := by rw [eσ4]; exact gw_up_eq _ _ _
      have h1 : σ4.2 (m + 1) = some ((gw_I (gw_z X) 240 (fun j => nI (A.ch j)))) := by rw [eσ4, gw_up_ne (by omega)]; exact h1
      have h2 : σ4.2 (m + 2) = some ((gw_I (gw_z X) 9 fm)) := by rw [eσ4, gw_up_ne (by omega)]; exact h2
      have h3 : σ4.2 (m + 3) = some ((gw_I (gw_z X) 162 fb)) := by rw [eσ4, gw_up_ne (by omega)]; exact h3
      have h4 : σ4.2 (m + 4) = some ((gw_I (gw_z X) 54 fl)) := by rw [eσ4, gw_up_ne (by omega)]; exact h4
      have h5 : σ4.2 (m + 5) = some ((gw_I (gw_z X) 9 g5)) := by rw [eσ4, gw_up_ne (by omega)]; exact h5
      have h6 : σ4.2 (m + 6) = some ((gw_I (gw_z X) 162 g6)) := by rw [eσ4, gw_up_ne (by omega)]; exact h6
      have h7 : σ4.2 (m + 7) = some ((gw_I (gw_z X) 54 g7)) := by rw [eσ4, gw_up_ne (by omega)]; exact h7
      have h8 : σ4.2 (m + 8) = some ((gw_J (gw_z X) 148 (fun _ => iL 0))) := by rw [eσ4, gw_up_ne (by omega)]; exact h8
      have h9 : σ4.2 (m + 9) = some ((gw_J (gw_z X) 148 (fun _ => iL 0))) := by rw [eσ4, gw_up_ne (by omega)]; exact h9
      have h10 : σ4.2 (m + 10) = some ((gw_J (gw_z X) 24 f10)) := by rw [eσ4, gw_up_ne (by omega)]; exact h10
      have h11 : σ4.2 (m + 11) = some ((gw_I (gw_z X) 6 f11)) := by rw [eσ4, gw_up_ne (by omega)]; exact h11
      have h12 : σ4.2 (m + 12) = some ((gw_J (gw_z X) 7 f12)) := by rw [eσ4, gw_up_ne (by omega)]; exact h12
      have fr : gw_fr σ0 σ4 m (m + 13) := gw_fr_tr fr (show gw_fr _ σ4 m (m + 13) by rw [eσ4]; exact gw_fr_up _ _ _ (by omega) (by omega))
      refine gw_aload_n hX nd_Mo_load_181 rfl 0 rfl ?_
      refine gw_iconst (v := (-1)) hX nd_Mo_load_182 rfl ?_
      refine gw_put hX kf_Mo_47 nd_Mo_load_183 h0 rfl rfl (Nat.le_of_ble_eq_true rfl) (e' := .inr (1, [.int (nI 0), .int (nI 0), .ref (m + 1), .int (nI ss.length), .ref (m + 2), .ref (m + 3), .ref (m + 4), .int rs, .ref (m + 5), .ref (m + 6), .ref (m + 7), .ref (m + 8), .ref (m + 9), .int (nI 0), .int (nI 0), .ref (m + 10), .ref (m + 11), .ref (m + 12), .long bs, .long s2, .int be, .int se, .int ((-1)), .int kw])) rfl ?_
      obtain ⟨σ5, eσ5⟩ : ∃ hp_, hp_ = gw_up σ4 m (.inr (1, [.int (nI 0), .int (nI 0), .ref (m + 1), .int (nI ss.length), .ref (m + 2), .ref (m + 3), .ref (m + 4), .int rs, .ref (m + 5), .ref (m + 6), .ref (m + 7), .ref (m + 8), .ref (m + 9), .int (nI 0), .int (nI 0), .ref (m + 10), .ref (m + 11), .ref (m + 12), .long bs, .long s2, .int be, .int se, .int ((-1)), .int kw])) := ⟨_, rfl⟩
      refine gw_heap eσ5.symm ?_
      have h0 : σ5.2 m = some (.inr (1, [.int (nI 0), .int (nI 0), .ref (m + 1), .int (nI ss.length), .ref (m + 2), .ref (m + 3), .ref (m + 4), .int rs, .ref (m + 5), .ref (m + 6), .ref (m + 7), .ref (m + 8), .ref (m + 9), .int (nI 0), .int (nI 0), .ref (m + 10), .ref (m + 11), .ref (m + 12), .long bs, .long s2, .int be, .int se, .int ((-1)), .int kw])) := by rw [eσ5]; exact gw_up_eq _ _ _
      have h1 : σ5.2 (m + 1) = some ((gw_I (gw_z X) 240 (fun j => nI (A.ch j)))) := by rw [eσ5, gw_up_ne (by omega)]; exact h1
      have h2 : σ5.2 (m + 2) = some ((gw_I (gw_z X) 9 fm)) := by rw [eσ5, gw_up_ne (by omega)]; exact h2
      have h3 : σ5.2 (m + 3) = some ((gw_I (gw_z X) 162 fb)) := by rw [eσ5, gw_up_ne (by omega)]; exact h3
      have h4 : σ5.2 (m + 4) = some ((gw_I (gw_z X) 54 fl)) := by rw [eσ5, gw_up_ne (by omega)]; exact h4
      have h5 : σ5.2 (m + 5) = some ((gw_I (gw_z X) 9 g5)) := by rw [eσ5, gw_up_ne (by omega)]; exact h5
      have h6 : σ5.2 (m + 6) = some ((gw_I (gw_z X) 162 g6)) := by rw [eσ5, gw_up_ne (by omega)]; exact h6
      have h7 : σ5.2 (m + 7) = some ((gw_I (gw_z X) 54 g7)) := by rw [eσ5, gw_up_ne (by omega)]; exact h7
      have h8 : σ5.2 (m + 8) = some ((gw_J (gw_z X) 148 (fun _ => iL 0))) := by rw [eσ5, gw_up_ne (by omega)]; exact h8
      have h9 : σ5.2 (m + 9) = some ((gw_J (gw_z X) 148 (fun _ => iL 0))) := by rw [eσ5, gw_up_ne (by omega)]; exact h9
      have h10 : σ5.2 (m + 10) = some ((gw_J (gw_z X) 24 f10)) := by rw [eσ5, gw_up_ne (by omega)]; exact h10
      have h11 : σ5.2 (m + 11) = some ((gw_I (gw_z X) 6 f11)) := by rw [eσ5, gw_up_ne (by omega)]; exact h11
      have h12 : σ5.2 (m + 12) = some ((gw_J (gw_z X) 7 f12)) := by rw [eσ5, gw_up_ne (by omega)]; exact h12
      have fr : gw_fr σ0 σ5 m (m + 13) := gw_fr_tr fr (show gw_fr _ σ5 m (m + 13) by rw [eσ5]; exact gw_fr_up _ _ _ (by omega) (by omega))
      refine gw_aload_n hX nd_Mo_load_186 rfl 0 rfl ?_
      refine gw_get hX kf_Mo_89 nd_Mo_load_187 h0 rfl ?_
      exact gw_iret hX hQ hr nd_Mo_load_190 (by decide) (by decide) ⟨Or.inl ⟨ss, hRC, rfl, ⟨_, _, _, _, _, _, _, _, _, _, ⟨h0, h1, h2, h3, h4, ⟨_, h5⟩, ⟨_, h6⟩, ⟨_, h7⟩, h8, h9, ⟨_, h10⟩, ⟨_, h11⟩, ⟨_, h12, hz12⟩⟩, hT⟩⟩, (fun b hb9 => fr.2 b (by omega))⟩
    · have hb : ¬ 148 ≤ k := fun h => hb ((nI_leI (a := 148) (b := k) (by omega) (by omega)).mpr h)
      refine gw_aload_n hX nd_Mo_load_151 rfl 0 rfl ?_
      refine gw_get hX kf_Mo_31 nd_Mo_load_152 h0 rfl ?_
      refine gw_iload_n hX nd_Mo_load_155 rfl 1 rfl ?_
      refine gw_lconst (v := 0) hX nd_Mo_load_156 rfl ?_
      refine gw_last hX nd_Mo_load_157 h8 k rfl (by omega) (by decide) ?_
      refine gw_heap (show gw_up σ (m + 8) ((gw_J (gw_z X) 148 (vp_updL (cl_f (fun j => iL (A.wt j)) k) k 0))) = gw_up σ (m + 8) ((gw_J (gw_z X) 148 (cl_f (fun j => iL (A.wt j)) (k + 1)))) by rw [show vp_updL (cl_f (fun j => iL (A.wt j)) k) k 0 = cl_f (fun j => iL (A.wt j)) (k + 1) from (cl_s _ _)]) ?_
      obtain ⟨σ6, eσ6⟩ : ∃ hp_, hp_ = gw_up σ (m + 8) ((gw_J (gw_z X) 148 (cl_f (fun j => iL (A.wt j)) (k + 1)))) := ⟨_, rfl⟩
      refine gw_heap eσ6.symm ?_
      have h0 : σ6.2 m = some (.inr (1, [.int (nI 0), .int (nI 0), .ref (m + 1), .int (nI ss.length), .ref (m + 2), .ref (m + 3), .ref (m + 4), .int rs, .ref (m + 5), .ref (m + 6), .ref (m + 7), .ref (m + 8), .ref (m + 9), .int (nI A.mk), .int (nI A.ps), .ref (m + 10), .ref (m + 11), .ref (m + 12), .long bs, .long s2, .int be, .int se, .int kp, .int kw])) := by rw [eσ6, gw_up_ne (by omega)]; exact h0
      have h1 : σ6.2 (m + 1) = some ((gw_I (gw_z X) 240 (fun j => nI (A.ch j)))) := by rw [eσ6, gw_up_ne (by omega)]; exact h1
      have h2 : σ6.2 (m + 2) = some ((gw_I (gw_z X) 9 fm)) := by rw [eσ6, gw_up_ne (by omega)]; exact h2
      have h3 : σ6.2 (m + 3) = some ((gw_I (gw_z X) 162 fb)) := by rw [eσ6, gw_up_ne (by omega)]; exact h3
      have h4 : σ6.2 (m + 4) = some ((gw_I (gw_z X) 54 fl)) := by rw [eσ6, gw_up_ne (by omega)]; exact h4
      have h5 : σ6.2 (m + 5) = some ((gw_I (gw_z X) 9 g5)) := by rw [eσ6, gw_up_ne (by omega)]; exact h5
      have h6 : σ6.2 (m + 6) = some ((gw_I (gw_z X) 162 g6)) := by rw [eσ6, gw_up_ne (by omega)]; exact h6
      have h7 : σ6.2 (m + 7) = some ((gw_I (gw_z X) 54 g7)) := by rw [eσ6, gw_up_ne (by omega)]; exact h7
      have h8 : σ6.2 (m + 8) = some ((gw_J (gw_z X) 148 (cl_f (fun j => iL (A.wt j)) (k + 1)))) := by rw [eσ6]; exact gw_up_eq _ _ _
      have h9 : σ6.2 (m + 9) = some ((gw_J (gw_z X) 148 (cl_f (fun j => iL (A.tt j)) k))) := by rw [eσ6, gw_up_ne (by omega)]; exact h9
      have h10 : σ6.2 (m + 10) = some ((gw_J (gw_z X) 24 f10)) := by rw [eσ6, gw_up_ne (by omega)]; exact h10
      have h11 : σ6.2 (m + 11) = some ((gw_I (gw_z X) 6 f11)) := by rw [eσ6, gw_up_ne (by omega)]; exact h11
      have h12 : σ6.2 (m + 12) = some ((gw_J (gw_z X) 7 f12)) := by rw [eσ6, gw_up_ne (by omega)]; exact h12
      have fr : gw_fr σ0 σ6 m (m + 13) := gw_fr_tr fr (show gw_fr _ σ6 m (m + 13) by rw [eσ6]; exact gw_fr_up _ _ _ (by omega) (by omega))
      refine gw_aload_n hX nd_Mo_load_158 rfl 0 rfl ?_
      refine gw_get hX kf_Mo_35 nd_Mo_load_159 h0 rfl ?_
      refine gw_iload_n hX nd_Mo_load_162 rfl 1 rfl ?_
      refine gw_lconst (v := 0) hX nd_Mo_load_163 rfl ?_
      refine gw_last hX nd_Mo_load_164 h9 k rfl (by omega) (by decide) ?_
      refine gw_heap (show gw_up σ6 (m + 9) ((gw_J (gw_z X) 148 (vp_updL (cl_f (fun j => iL (A.tt j)) k) k 0))) = gw_up σ6 (m + 9) ((gw_J (gw_z X) 148 (cl_f (fun j => iL (A.tt j)) (k + 1)))) by rw [show vp_updL (cl_f (fun j => iL (A.tt j)) k) k 0 = cl_f (fun j => iL (A.tt j)) (k + 1) from (cl_s _ _)]) ?_
      obtain ⟨σ7, eσ7⟩ : ∃ hp_, hp_ = gw_up σ6 (m + 9) ((gw_J (gw_z X) 148 (cl_f (fun j => iL (A.tt j)) (k + 1)))) := ⟨_, rfl⟩
      refine gw_heap eσ7.symm ?_
      have h0 : σ7.2 m = some (.inr (1, [.int (nI 0), .int (nI 0), .ref (m + 1), .int (nI ss.length), .ref (m + 2), .ref (m + 3), .ref (m + 4), .int rs, .ref (m + 5), .ref (m + 6), .ref (m + 7), .ref (m + 8), .ref (m + 9), .int (nI A.mk), .int (nI A.ps), .ref (m + 10), .ref (m + 11), .ref (m + 12), .long bs, .long s2, .int be, .int se, .int kp, .int kw])) := by rw [eσ7, gw_up_ne (by omega)]; exact h0
      have h1 : σ7.2 (m + 1) = some ((gw_I (gw_z X) 240 (fun j => nI (A.ch j)))) := by rw [eσ7, gw_up_ne (by omega)]; exact h1
      have h2 : σ7.2 (m + 2) = some ((gw_I (gw_z X) 9 fm)) := by rw [eσ7, gw_up_ne (by omega)]; exact h2
      have h3 : σ7.2 (m + 3) = some ((gw_I (gw_z X) 162 fb)) := by rw [eσ7, gw_up_ne (by omega)]; exact h3
      have h4 : σ7.2 (m + 4) = some ((gw_I (gw_z X) 54 fl)) := by rw [eσ7, gw_up_ne (by omega)]; exact h4
      have h5 : σ7.2 (m + 5) = some ((gw_I (gw_z X) 9 g5)) := by rw [eσ7, gw_up_ne (by omega)]; exact h5
      have h6 : σ7.2 (m + 6) = some ((gw_I (gw_z X) 162 g6)) := by rw [eσ7, gw_up_ne (by omega)]; exact h6
      have h7 : σ7.2 (m + 7) = some ((gw_I (gw_z X) 54 g7)) := by rw [eσ7, gw_up_ne (by omega)]; exact h7
      have h8 : σ7.2 (m + 8) = some ((gw_J (gw_z X) 148 (cl_f (fun j => iL (A.wt j)) (k + 1)))) := by rw [eσ7, gw_up_ne (by omega)]; exact h8
      have h9 : σ7.2 (m + 9) = some ((gw_J (gw_z X) 148 (cl_f (fun j => iL (A.tt j)) (k + 1)))) := by rw [eσ7]; exact gw_up_eq _ _ _
      have h10 : σ7.2 (m + 10) = some ((gw_J (gw_z X) 24 f10)) := by rw [eσ7, gw_up_ne (by omega)]; exact h10
      have h11 : σ7.2 (m + 11) = some ((gw_I (gw_z X) 6 f11)) := by rw [eσ7, gw_up_ne (by omega)]; exact h11
      have h12 : σ7.2 (m + 12) = some ((gw_J (gw_z X) 7 f12)) := by rw [eσ7, gw_up_ne (by omega)]; exact h12
      have fr : gw_fr σ0 σ7 m (m + 13) := gw_fr_tr fr (show gw_fr _ σ7 m (m + 13) by rw [eσ7]; exact gw_fr_up _ _ _ (by omega) (by omega))
      refine gw_iinc hX nd_Mo_load_165 1 rfl (v := nI (k + 1)) (show nI k + nI 1 = nI (k + 1) from nI_add _ _) (by decide) (L' := [(3, .int (nI (k + 1))), (0, .ref m)]) rfl ?_
      refine gw_goto (tgt := 144) hX nd_Mo_load_168 rfl ?_
      refine gw_cut (ks := [1, 0]) (L' := [(0, .ref m), (3, .int (nI (k + 1)))]) rfl ?_
      exact ih (u - 1) (by omega) (k + 1) _ (by omega) h0 h1 h2 h3 h4 h5 h6 h7 h8 h9 h10 h11 h12 fr
set_option maxRecDepth 100000 in
set_option maxHeartbeats 8000000 in
theorem lp_Mo_ldT {X : gw_C} (m : Nat) (A : ab_A) (hA : ab_ok A) {rs be se kp kw : Int32} {bs s2 : Int64} (g5 g6 g7 : Nat → Int32) (f10 f12 : Nat → Int64) (f11 : Nat → Int32) (hz12 : f12 0 = iL 0) {σ0 : gw_S} (ss : List (List px_W)) (hss : ss.length ≤ 8) (hRC : px_C A.len A.ch 8 0 [] = some ss) (hG : ld_G g5 g6 g7 ss) (hX : gw_ok X nc_Mo_load "LabelLearnerModel" (4, 3, 75, 0, 0)) (hQ : X.2.2.2.2 = gw_end X (fun v σ' => ((∃ ss : List (List px_W), px_C A.len A.ch 8 0 [] = some ss ∧ v = some (.int (nI ss.length)) ∧ mw σ' (gw_z X) m (ab_ld A ss) 0) ∨ (px_C A.len A.ch 8 0 [] = none ∧ v = some (.int (nI 0)) ∧ mw σ' (gw_z X) m A 1)) ∧ (∀ b, b < m ∨ m + 13 ≤ b → σ'.2 b = σ0.2 b)) 0 0) (hr : X.2.2.1.1.sig.returnType = (some .int)) : ∀ (u : Nat) (q : Nat) (σ : gw_S) (fm fb fl : Nat → Int32), q + u = ss.length → ld_T fm fb fl ss q → mm_b fm fb 8 A.sp → σ.2 m = some (.inr (1, [.int (nI 0), .int (nI A.len), .ref (m + 1), .int (nI ss.length), .ref (m + 2), .ref (m + 3), .ref (m + 4), .int rs, .ref (m + 5), .ref (m + 6), .ref (m + 7), .ref (m + 8), .ref (m + 9), .int (nI A.mk), .int (nI A.ps), .ref (m + 10), .ref (m + 11), .ref (m + 12), .long bs, .long s2, .int be, .int se, .int kp, .int kw])) → σ.2 (m + 1) = some ((gw_I (gw_z X) 240 (fun j => nI (A.ch j)))) → σ.2 (m + 2) = some ((gw_I (gw_z X) 9 fm)) → σ.2 (m + 3) = some ((gw_I (gw_z X) 162 fb)) → σ.2 (m + 4) = some ((gw_I (gw_z X) 54 fl)) → σ.2 (m + 5) = some ((gw_I (gw_z X) 9 g5)) → σ.2 (m + 6) = some ((gw_I (gw_z X) 162 g6)) → σ.2 (m + 7) = some ((gw_I (gw_z X) 54 g7)) → σ.2 (m + 8) = some ((gw_J (gw_z X) 148 (fun j => iL (A.wt j)))) → σ.2 (m + 9) = some ((gw_J (gw_z X) 148 (fun j => iL (A.tt j)))) → σ.2 (m + 10) = some ((gw_J (gw_z X) 24 f10)) → σ.2 (m + 11) = some ((gw_I (gw_z X) 6 f11)) → σ.2 (m + 12) = some ((gw_J (gw_z X) 7 f12)) → gw_fr σ0 σ m (m + 13) → gw_W X σ 0 0 118 [(0, .ref m), (3, .int (nI q))] [] := by
  intro u
  induction u using Nat.strongRecOn with
  | ind u ih =>
    intro q σ fm fb fl
    intro hqu hT h8p h0 h1 h2 h3 h4 h5 h6 h7 h8 h9 h10 h11 h12 fr
    refine gw_iload_n hX nd_Mo_load_118 rfl 1 rfl ?_
    refine gw_aload_n hX nd_Mo_load_119 rfl 0 rfl ?_
    refine gw_get hX kf_Mo_89 nd_Mo_load_120 h0 rfl ?_
    refine gw_icmp_ge (tgt := 137) hX nd_Mo_load_123 rfl (fun hb => ?_) (fun hb => ?_)
    · have hb : ss.length ≤ q := (nI_leI (a := ss.length) (b := q) (by omega) (by omega)).mp hb
      refine gw_aload_n hX nd_Mo_load_137 rfl 0 rfl ?_
      refine gw_iconst (v := nI 0) hX nd_Mo_load_138 rfl ?_
      refine gw_put hX kf_Mo_56 nd_Mo_load_139 h0 rfl rfl (Nat.le_of_ble_eq_true rfl) (e' := .inr (1, [.int (nI 0), .int (nI 0), .ref (m + 1), .int (nI ss.length), .ref (m + 2), .ref (m + 3), .ref (m + 4), .int rs, .ref (m + 5), .ref (m + 6), .ref (m + 7), .ref (m + 8), .ref (m + 9), .int (nI A.mk), .int (nI A.ps), .ref (m + 10), .ref (m + 11), .ref (m + 12), .long bs, .long s2, .int be, .int se, .int kp, .int kw])) rfl ?_
      obtain ⟨σ1, eσ1⟩ : ∃ hp_, hp_ = gw_up σ m (.inr (1, [.int (nI 0), .int (nI 0), .ref (m + 1), .int (nI ss.length), .ref (m + 2), .ref (m + 3), .ref (m + 4), .int rs, .ref (m + 5), .ref (m + 6), .ref (m + 7), .ref (m + 8), .ref (m + 9), .int (nI A.mk), .int (nI A.ps), .ref (m + 10), .ref (m + 11), .ref (m + 12), .long bs, .long s2, .int be, .int se, .int kp, .int kw])) := ⟨_, rfl⟩
      refine gw_heap eσ1.symm ?_
      have h0 : σ1.2 m = some (.inr (1, [.int (nI 0), .int (nI 0), .ref (m + 1), .int (nI ss.length), .ref (m + 2), .ref (m + 3), .ref (m + 4), .int rs, .ref (m + 5), .ref (m + 6), .ref (m + 7), .ref (m + 8), .ref (m + 9), .int (nI A.mk), .int (nI A.ps), .ref (m + 10), .ref (m + 11), .ref (m + 12), .long bs, .long s2, .int be, .int se, .int kp, .int kw])) := by rw [eσ1]; exact gw_up_eq _ _ _
      have h1 : σ1.2 (m + 1) = some ((gw_I (gw_z X) 240 (fun j => nI (A.ch j)))) := by rw [eσ1, gw_up_ne (by omega)]; exact h1
      have h2 : σ1.2 (m + 2) = some ((gw_I (gw_z X) 9 fm)) := by rw [eσ1, gw_up_ne (by omega)]; exact h2
      have h3 : σ1.2 (m + 3) = some ((gw_I (gw_z X) 162 fb)) := by rw [eσ1, gw_up_ne (by omega)]; exact h3
      have h4 : σ1.2 (m + 4) = some ((gw_I (gw_z X) 54 fl)) := by rw [eσ1, gw_up_ne (by omega)]; exact h4
      have h5 : σ1.2 (m + 5) = some ((gw_I (gw_z X) 9 g5)) := by rw [eσ1, gw_up_ne (by omega)]; exact h5
      have h6 : σ1.2 (m + 6) = some ((gw_I (gw_z X) 162 g6)) := by rw [eσ1, gw_up_ne (by omega)]; exact h6
      have h7 : σ1.2 (m + 7) = some ((gw_I (gw_z X) 54 g7)) := by rw [eσ1, gw_up_ne (by omega)]; exact h7
      have h8 : σ1.2 (m + 8) = some ((gw_J (gw_z X) 148 (fun j => iL (A.wt j)))) := by rw [eσ1, gw_up_ne (by omega)]; exact h8
      have h9 : σ1.2 (m + 9) = some ((gw_J (gw_z X) 148 (fun j => iL (A.tt j)))) := by rw [eσ1, gw_up_ne (by omega)]; exact h9
      have h10 : σ1.2 (m + 10) = some ((gw_J (gw_z X) 24 f10)) := by rw [eσ1, gw_up_ne (by omega)]; exact h10
      have h11 : σ1.2 (m + 11) = some ((gw_I (gw_z X) 6 f11)) := by rw [eσ1, gw_up_ne (by omega)]; exact h11
      have h12 : σ1.2 (m + 12) = some ((gw_J (gw_z X) 7 f12)) := by rw [eσ1, gw_up_ne (by omega)]; exact h12
      have fr : gw_fr σ0 σ1 m (m + 13) := gw_fr_tr fr (show gw_fr _ σ1 m (m + 13) by rw [eσ1]; exact gw_fr_up _ _ _ (by omega) (by omega))
      refine gw_iconst (v := nI 0) hX nd_Mo_load_142 rfl ?_
      refine gw_istore_n hX nd_Mo_load_143 rfl (by decide) (L' := [(3, .int (nI 0)), (0, .ref m)]) rfl ?_
      refine gw_cut (ks := [1, 0]) (L' := [(0, .ref m), (3, .int (nI 0))]) rfl ?_
      have hqe : q = ss.length := by omega
      exact lp_Mo_ldC m A hA g5 g6 g7 f10 f12 f11 hz12 ss hss hRC fm fb fl ⟨fun i ws hw => (have h9 := hT i ws (by have := (List.getElem?_eq_some_iff.mp hw).1; have e1 : (ab_ld A ss).ss = ss := rfl; rw [e1] at this; omega) hw; ⟨h9.1, h9.2.1⟩), h8p, fun _ => rfl, fun q9 => absurd rfl q9⟩ hX hQ hr 148 0 _ (by omega) h0 h1 h2 h3 h4 h5 h6 h7 (by rw [cl_0]; exact h8) (by rw [cl_0]; exact h9) h10 h11 h12 fr
    · have hb : ¬ ss.length ≤ q := fun h => hb ((nI_leI (a := ss.length) (b := q) (by omega) (by omega)).mpr h)
      refine gw_aload_n hX nd_Mo_load_126 rfl 0 rfl ?_
      refine gw_iload_n hX nd_Mo_load_127 rfl 1 rfl ?_
      refine gw_callV (rest := []) hX ks_Mo_92 (ct_Mo_take _ _ _ σ m fm fb fl g5 g6 g7 q (by omega) h0 h2 h3 h4 h5 h6 h7) h0 rfl rfl (Nat.le_of_ble_eq_true rfl) nd_Mo_load_128 (by decide) ?_
      rintro _ σ2 ⟨rfl, h2, h3, h4, hf⟩
      have h0 : σ2.2 m = some (.inr (1, [.int (nI 0), .int (nI A.len), .ref (m + 1), .int (nI ss.length), .ref (m + 2), .ref (m + 3), .ref (m + 4), .int rs, .ref (m + 5), .ref (m + 6), .ref (m + 7), .ref (m + 8), .ref (m + 9), .int (nI A.mk), .int (nI A.ps), .ref (m + 10), .ref (m + 11), .ref (m + 12), .long bs, .long s2, .int be, .int se, .int kp, .int kw])) := (hf.2 m (by omega)).trans h0
      have h1 : σ2.2 (m + 1) = some ((gw_I (gw_z X) 240 (fun j => nI (A.ch j)))) := (hf.2 (m + 1) (by omega)).trans h1
      have h5 : σ2.2 (m + 5) = some ((gw_I (gw_z X) 9 g5)) := (hf.2 (m + 5) (by omega)).trans h5
      have h6 : σ2.2 (m + 6) = some ((gw_I (gw_z X) 162 g6)) := (hf.2 (m + 6) (by omega)).trans h6
      have h7 : σ2.2 (m + 7) = some ((gw_I (gw_z X) 54 g7)) := (hf.2 (m + 7) (by omega)).trans h7
      have h8 : σ2.2 (m + 8) = some ((gw_J (gw_z X) 148 (fun j => iL (A.wt j)))) := (hf.2 (m + 8) (by omega)).trans h8
      have h9 : σ2.2 (m + 9) = some ((gw_J (gw_z X) 148 (fun j => iL (A.tt j)))) := (hf.2 (m + 9) (by omega)).trans h9
      have h10 : σ2.2 (m + 10) = some ((gw_J (gw_z X) 24 f10)) := (hf.2 (m + 10) (by omega)).trans h10
      have h11 : σ2.2 (m + 11) = some ((gw_I (gw_z X) 6 f11)) := (hf.2 (m + 11) (by omega)).trans h11
      have h12 : σ2.2 (m + 12) = some ((gw_J (gw_z X) 7 f12)) := (hf.2 (m + 12) (by omega)).trans h12
      have fr : gw_fr σ0 σ2 m (m + 13) := gw_fr_tr fr hf
      show gw_W X σ2 0 0 131 [(0, .ref m), (3, .int (nI q))] []
      refine gw_iinc hX nd_Mo_load_131 1 rfl (v := nI (q + 1)) (show nI q + nI 1 = nI (q + 1) from nI_add _ _) (by decide) (L' := [(3, .int (nI (q + 1))), (0, .ref m)]) rfl ?_
      refine gw_goto (tgt := 118) hX nd_Mo_load_134 rfl ?_
      refine gw_cut (ks := [1, 0]) (L' := [(0, .ref m), (3, .int (nI (q + 1)))]) rfl ?_
      exact ih (u - 1) (by omega) (q + 1) _ _ _ _ (by omega) (ld_Ts hT hG) (tk_old h8p hA.2.2.2.2.1.2 (by omega)) h0 h1 h2 h3 h4 h5 h6 h7 h8 h9 h10 h11 h12 fr
set_option maxRecDepth 100000 in
set_option maxHeartbeats 8000000 in
theorem lp_Mo_ldR {X : gw_C} (m : Nat) (A : ab_A) (hA : ab_ok A) {th be se kp kw : Int32} {bs s2 : Int64} (f10 f12 : Nat → Int64) (f11 : Nat → Int32) (hz12 : f12 0 = iL 0) (fm fb fl : Nat → Int32) (hO : mw_ok A kp kw fm fb fl) {σ0 : gw_S} (hX : gw_ok X nc_Mo_load "LabelLearnerModel" (4, 3, 75, 0, 0)) (hQ : X.2.2.2.2 = gw_end X (fun v σ' => ((∃ ss : List (List px_W), px_C A.len A.ch 8 0 [] = some ss ∧ v = some (.int (nI ss.length)) ∧ mw σ' (gw_z X) m (ab_ld A ss) 0) ∨ (px_C A.len A.ch 8 0 [] = none ∧ v = some (.int (nI 0)) ∧ mw σ' (gw_z X) m A 1)) ∧ (∀ b, b < m ∨ m + 13 ≤ b → σ'.2 b = σ0.2 b)) 0 0) (hr : X.2.2.1.1.sig.returnType = (some .int)) : ∀ (u : Nat) (acc : List (List px_W)) (i : Nat) (σ : gw_S) (g5 g6 g7 : Nat → Int32), acc.length + u = 8 → px_C A.len A.ch 8 0 [] = px_C A.len A.ch u i acc → i ≤ 240 → ld_G g5 g6 g7 acc → σ.2 m = some (.inr (1, [.int th, .int (nI A.len), .ref (m + 1), .int (nI A.ss.length), .ref (m + 2), .ref (m + 3), .ref (m + 4), .int (nI acc.length), .ref (m + 5), .ref (m + 6), .ref (m + 7), .ref (m + 8), .ref (m + 9), .int (nI A.mk), .int (nI A.ps), .ref (m + 10), .ref (m + 11), .ref (m + 12), .long bs, .long s2, .int be, .int se, .int kp, .int kw])) → σ.2 (m + 1) = some ((gw_I (gw_z X) 240 (fun j => nI (A.ch j)))) → σ.2 (m + 2) = some ((gw_I (gw_z X) 9 fm)) → σ.2 (m + 3) = some ((gw_I (gw_z X) 162 fb)) → σ.2 (m + 4) = some ((gw_I (gw_z X) 54 fl)) → σ.2 (m + 5) = some ((gw_I (gw_z X) 9 g5)) → σ.2 (m + 6) = some ((gw_I (gw_z X) 162 g6)) → σ.2 (m + 7) = some ((gw_I (gw_z X) 54 g7)) → σ.2 (m + 8) = some ((gw_J (gw_z X) 148 (fun j => iL (A.wt j)))) → σ.2 (m + 9) = some ((gw_J (gw_z X) 148 (fun j => iL (A.tt j)))) → σ.2 (m + 10) = some ((gw_J (gw_z X) 24 f10)) → σ.2 (m + 11) = some ((gw_I (gw_z X) 6 f11)) → σ.2 (m + 12) = some ((gw_J (gw_z X) 7 f12)) → gw_fr σ0 σ m (m + 13) → gw_W X σ 0 0 9 [(0, .ref m), (1, .int (nI i)), (2, .int (nI 1))] [] := by
  intro u
  induction u using Nat.strongRecOn with
  | ind u ih =>
    intro acc i σ g5 g6 g7
    intro hau hRC hi hG h0 h1 h2 h3 h4 h5 h6 h7 h8 h9 h10 h11 h12 fr
    have hln := hA.1
    refine gw_iload_n hX nd_Mo_load_9 rfl 2 rfl ?_
    refine gw_if_eq (tgt := 82) hX nd_Mo_load_10 rfl (fun hb => ?_) (fun hb => ?_)
    · have hb : 1 = 0 := (nI_eq (a := 1) (b := 0) (by omega) (by omega)).mp hb
      exfalso; omega
    · have hb : ¬ 1 = 0 := fun h => hb ((nI_eq (a := 1) (b := 0) (by omega) (by omega)).mpr h)
      refine gw_aload_n hX nd_Mo_load_13 rfl 0 rfl ?_
      refine gw_get hX kf_Mo_82 nd_Mo_load_14 h0 rfl ?_
      refine gw_bipush (v := nI 8) hX nd_Mo_load_17 rfl ?_
      refine gw_icmp_ne (tgt := 26) hX nd_Mo_load_19 rfl (fun hb => ?_) (fun hb => ?_)
      · have hb : ¬ acc.length = 8 := fun h => hb ((nI_eq (a := acc.length) (b := 8) (by omega) (by omega)).mpr h)
        obtain ⟨u, rfl⟩ : ∃ v, u = v + 1 := ⟨u - 1, by omega⟩
        refine gw_aload_n hX nd_Mo_load_26 rfl 0 rfl ?_
        refine gw_aload_n hX nd_Mo_load_27 rfl 0 rfl ?_
        refine gw_get hX kf_Mo_82 nd_Mo_load_28 h0 rfl ?_
        refine gw_iload_n hX nd_Mo_load_31 rfl 1 rfl ?_
        refine gw_iconst (v := nI 1) hX nd_Mo_load_32 rfl ?_
        refine gw_callV (rest := []) hX ks_Mo_85 (ct_Mo_readSentence_t _ _ _ σ m A.ch hln hA.2.1 g5 g6 g7 acc.length i (by omega) hi h0 h1 h5 h6 h7) h0 rfl rfl (Nat.le_of_ble_eq_true rfl) nd_Mo_load_33 (by decide) ?_
        rintro v_ σ1 ⟨g5', g6', g7', h5, h6, h7, hf, hor⟩
        have h0 : σ1.2 m = some (.inr (1, [.int th, .int (nI A.len), .ref (m + 1), .int (nI A.ss.length), .ref (m + 2), .ref (m + 3), .ref (m + 4), .int (nI acc.length), .ref (m + 5), .ref (m + 6), .ref (m + 7), .ref (m + 8), .ref (m + 9), .int (nI A.mk), .int (nI A.ps), .ref (m + 10), .ref (m + 11), .ref (m + 12), .long bs, .long s2, .int be, .int se, .int kp, .int kw])) := (hf.2 m (by omega)).trans h0
        have h1 : σ1.2 (m + 1) = some ((gw_I (gw_z X) 240 (fun j => nI (A.ch j)))) := (hf.2 (m + 1) (by omega)).trans h1
        have h2 : σ1.2 (m + 2) = some ((gw_I (gw_z X) 9 fm)) := (hf.2 (m + 2) (by omega)).trans h2
        have h3 : σ1.2 (m + 3) = some ((gw_I (gw_z X) 162 fb)) := (hf.2 (m + 3) (by omega)).trans h3
        have h4 : σ1.2 (m + 4) = some ((gw_I (gw_z X) 54 fl)) := (hf.2 (m + 4) (by omega)).trans h4
        have h8 : σ1.2 (m + 8) = some ((gw_J (gw_z X) 148 (fun j => iL (A.wt j)))) := (hf.2 (m + 8) (by omega)).trans h8
        have h9 : σ1.2 (m + 9) = some ((gw_J (gw_z X) 148 (fun j => iL (A.tt j)))) := (hf.2 (m + 9) (by omega)).trans h9
        have h10 : σ1.2 (m + 10) = some ((gw_J (gw_z X) 24 f10)) := (hf.2 (m + 10) (by omega)).trans h10
        have h11 : σ1.2 (m + 11) = some ((gw_I (gw_z X) 6 f11)) := (hf.2 (m + 11) (by omega)).trans h11
        have h12 : σ1.2 (m + 12) = some ((gw_J (gw_z X) 7 f12)) := (hf.2 (m + 12) (by omega)).trans h12
        have fr : gw_fr σ0 σ1 m (m + 13) := gw_fr_tr fr hf
        rcases hor with ⟨hno, rfl⟩ | ⟨e, ws, hR, hne, rfl, he, hw6, hmb, hml, hsm⟩
        · show gw_W X σ1 0 0 36 [(0, .ref m), (1, .int (nI i)), (2, .int (nI 1))] [.int ((-1))]
          have hRn : px_C A.len A.ch 8 0 [] = none := hRC.trans (ld_no (px_S_none hno))
          refine gw_istore_n hX nd_Mo_load_36 rfl (by decide) (L' := [(1, .int ((-1))), (0, .ref m), (2, .int (nI 1))]) rfl ?_
          refine gw_aload_n hX nd_Mo_load_37 rfl 1 rfl ?_
          refine gw_dup hX nd_Mo_load_38 rfl ?_
          refine gw_get hX kf_Mo_82 nd_Mo_load_39 h0 rfl ?_
          refine gw_iconst (v := nI 1) hX nd_Mo_load_42 rfl ?_
          refine gw_iadd hX nd_Mo_load_43 ?_
          refine gw_topi (y := nI (acc.length + 1)) (nI_add _ _) ?_
          refine gw_put hX kf_Mo_82 nd_Mo_load_44 h0 rfl rfl (Nat.le_of_ble_eq_true rfl) (e' := .inr (1, [.int th, .int (nI A.len), .ref (m + 1), .int (nI A.ss.length), .ref (m + 2), .ref (m + 3), .ref (m + 4), .int (nI (acc.length + 1)), .ref (m + 5), .ref (m + 6), .ref (m + 7), .ref (m + 8), .ref (m + 9), .int (nI A.mk), .int (nI A.ps), .ref (m + 10), .ref (m + 11), .ref (m + 12), .long bs, .long s2, .int be, .int se, .int kp, .int kw])) rfl ?_
          obtain ⟨σ2, eσ2⟩ : ∃ hp_, hp_ = gw_up σ1 m (.inr (1, [.int th, .int (nI A.len), .ref (m + 1), .int (nI A.ss.length), .ref (m + 2), .ref (m + 3), .ref (m + 4), .int (nI (acc.length + 1)), .ref (m + 5), .ref (m + 6), .ref (m + 7), .ref (m + 8), .ref (m + 9), .int (nI A.mk), .int (nI A.ps), .ref (m + 10), .ref (m + 11), .ref (m + 12), .long bs, .long s2, .int be, .int se, .int kp, .int kw])) := ⟨_, rfl⟩
          refine gw_heap eσ2.symm ?_
          have h0 : σ2.2 m = some (.inr (1, [.int th, .int (nI A.len), .ref (m + 1), .int (nI A.ss.length), .ref (m + 2), .ref (m + 3), .ref (m + 4), .int (nI (acc.length + 1)), .ref (m + 5), .ref (m + 6), .ref (m + 7), .ref (m + 8), .ref (m + 9), .int (nI A.mk), .int (nI A.ps), .ref (m + 10), .ref (m + 11), .ref (m + 12), .long bs, .long s2, .int be, .int se, .int kp, .int kw])) := by rw [eσ2]; exact gw_up_eq _ _ _
          have h1 : σ2.2 (m + 1) = some ((gw_I (gw_z X) 240 (fun j => nI (A.ch j)))) := by rw [eσ2, gw_up_ne (by omega)]; exact h1
          have h2 : σ2.2 (m + 2) = some ((gw_I (gw_z X) 9 fm)) := by rw [eσ2, gw_up_ne (by omega)]; exact h2
          have h3 : σ2.2 (m + 3) = some ((gw_I (gw_z X) 162 fb)) := by rw [eσ2, gw_up_ne (by omega)]; exact h3
          have h4 : σ2.2 (m + 4) = some ((gw_I (gw_z X) 54 fl)) := by rw [eσ2, gw_up_ne (by omega)]; exact h4
          have h5 : σ2.2 (m + 5) = some ((gw_I (gw_z X) 9 g5')) := by rw [eσ2, gw_up_ne (by omega)]; exact h5
          have h6 : σ2.2 (m + 6) = some ((gw_I (gw_z X) 162 g6')) := by rw [eσ2, gw_up_ne (by omega)]; exact h6
          have h7 : σ2.2 (m + 7) = some ((gw_I (gw_z X) 54 g7')) := by rw [eσ2, gw_up_ne (by omega)]; exact h7
          have h8 : σ2.2 (m + 8) = some ((gw_J (gw_z X) 148 (fun j => iL (A.wt j)))) := by rw [eσ2, gw_up_ne (by omega)]; exact h8
          have h9 : σ2.2 (m + 9) = some ((gw_J (gw_z X) 148 (fun j => iL (A.tt j)))) := by rw [eσ2, gw_up_ne (by omega)]; exact h9
          have h10 : σ2.2 (m + 10) = some ((gw_J (gw_z X) 24 f10)) := by rw [eσ2, gw_up_ne (by omega)]; exact h10
          have h11 : σ2.2 (m + 11) = some ((gw_I (gw_z X) 6 f11)) := by rw [eσ2, gw_up_ne (by omega)]; exact h11
          have h12 : σ2.2 (m + 12) = some ((gw_J (gw_z X) 7 f12)) := by rw [eσ2, gw_up_ne (by omega)]; exact h12
          have fr : gw_fr σ0 σ2 m (m + 13) := gw_fr_tr fr (show gw_fr _ σ2 m (m + 13) by rw [eσ2]; exact gw_fr_up _ _ _ (by omega) (by omega))
          refine gw_iload_n hX nd_Mo_load_47 rfl 0 rfl ?_
          refine gw_if_lt (tgt := 65) hX nd_Mo_load_48 rfl (fun hb => ?_) (fun hb => ?_)
          · skip
            refine gw_iconst (v := nI 0) hX nd_Mo_load_65 rfl ?_
            refine gw_istore_n hX nd_Mo_load_66 rfl (by decide) (L' := [(2, .int (nI 0)), (1, .int ((-1))), (0, .ref m)]) rfl ?_
            refine gw_iload_n hX nd_Mo_load_67 rfl 0 rfl ?_
            refine gw_if_eq (tgt := 77) hX nd_Mo_load_68 rfl (fun hb => ?_) (fun hb => ?_)
            · have hb : 0 = 0 := (nI_eq (a := 0) (b := 0) (by omega) (by omega)).mp hb
              refine gw_iload_n hX nd_Mo_load_77 rfl 1 rfl ?_
              refine gw_istore_n hX nd_Mo_load_78 rfl (by decide) (L' := [(1, .int ((-1))), (2, .int (nI 0)), (0, .ref m)]) rfl ?_
              refine gw_goto (tgt := 9) hX nd_Mo_load_79 rfl ?_
              refine gw_iload_n hX nd_Mo_load_9 rfl 1 rfl ?_
              refine gw_if_eq (tgt := 82) hX nd_Mo_load_10 rfl (fun hb => ?_) (fun hb => ?_)
              · have hb : 0 = 0 := (nI_eq (a := 0) (b := 0) (by omega) (by omega)).mp hb
                refine gw_aload_n hX nd_Mo_load_82 rfl 2 rfl ?_
                refine gw_iload_n hX nd_Mo_load_83 rfl 0 rfl ?_
                refine gw_aload_n hX nd_Mo_load_84 rfl 2 rfl ?_
                refine gw_get hX kf_Mo_56 nd_Mo_load_85 h0 rfl ?_
                refine gw_icmp_ne (tgt := 95) hX nd_Mo_load_88 rfl (fun hb => ?_) (fun hb => ?_)
                · skip
                  refine gw_iconst (v := nI 1) hX nd_Mo_load_95 rfl ?_
                  refine gw_put hX kf_Mo_51 nd_Mo_load_96 h0 rfl rfl (Nat.le_of_ble_eq_true rfl) (e' := .inr (1, [.int (nI 1), .int (nI A.len), .ref (m + 1), .int (nI A.ss.length), .ref (m + 2), .ref (m + 3), .ref (m + 4), .int (nI (acc.length + 1)), .ref (m + 5), .ref (m + 6), .ref (m + 7), .ref (m + 8), .ref (m + 9), .int (nI A.mk), .int (nI A.ps), .ref (m + 10), .ref (m + 11), .ref (m + 12), .long bs, .long s2, .int be, .int se, .int kp, .int kw])) rfl ?_
                  obtain ⟨σ3, eσ3⟩ : ∃ hp_, hp_ = gw_up σ2 m (.inr (1, [.int (nI 1), .int (nI A.len), .ref (m + 1), .int (nI A.ss.length), .ref (m + 2), .ref (m + 3), .ref (m + 4), .int (nI (acc.length + 1)), .ref (m + 5), .ref (m + 6), .ref (m + 7), .ref (m + 8), .ref (m + 9), .int (nI A.mk), .int (nI A.ps), .ref (m + 10), .ref (m + 11), .ref (m + 12), .long bs, .long s2, .int be, .int se, .int kp, .int kw])) := ⟨_, rfl⟩
                  refine gw_heap eσ3.symm ?_
                  have h0 : σ3.2 m = some (.inr (1, [.int (nI 1), .int (nI A.len), .ref (m + 1), .int (nI A.ss.length), .ref (m + 2), .ref (m + 3), .ref (m + 4), .int (nI (acc.length + 1)), .ref (m + 5), .ref (m + 6), .ref (m + 7), .ref (m + 8), .ref (m + 9), .int (nI A.mk), .int (nI A.ps), .ref (m + 10), .ref (m + 11), .ref (m + 12), .long bs, .long s2, .int be, .int se, .int kp, .int kw])) := by rw [eσ3]; exact gw_up_eq _ _ _
                  have h1 : σ3.2 (m + 1) = some ((gw_I (gw_z X) 240 (fun j => nI (A.ch j)))) := by rw [eσ3, gw_up_ne (by omega)]; exact h1
                  have h2 : σ3.2 (m + 2) = some ((gw_I (gw_z X) 9 fm)) := by rw [eσ3, gw_up_ne (by omega)]; exact h2
                  have h3 : σ3.2 (m + 3) = some ((gw_I (gw_z X) 162 fb)) := by rw [eσ3, gw_up_ne (by omega)]; exact h3
                  have h4 : σ3.2 (m + 4) = some ((gw_I (gw_z X) 54 fl)) := by rw [eσ3, gw_up_ne (by omega)]; exact h4
                  have h5 : σ3.2 (m + 5) = some ((gw_I (gw_z X) 9 g5')) := by rw [eσ3, gw_up_ne (by omega)]; exact h5
                  have h6 : σ3.2 (m + 6) = some ((gw_I (gw_z X) 162 g6')) := by rw [eσ3, gw_up_ne (by omega)]; exact h6
                  have h7 : σ3.2 (m + 7) = some ((gw_I (gw_z X) 54 g7')) := by rw [eσ3, gw_up_ne (by omega)]; exact h7
                  have h8 : σ3.2 (m + 8) = some ((gw_J (gw_z X) 148 (fun j => iL (A.wt j)))) := by rw [eσ3, gw_up_ne (by omega)]; exact h8
                  have h9 : σ3.2 (m + 9) = some ((gw_J (gw_z X) 148 (fun j => iL (A.tt j)))) := by rw [eσ3, gw_up_ne (by omega)]; exact h9
                  have h10 : σ3.2 (m + 10) = some ((gw_J (gw_z X) 24 f10)) := by rw [eσ3, gw_up_ne (by omega)]; exact h10
                  have h11 : σ3.2 (m + 11) = some ((gw_I (gw_z X) 6 f11)) := by rw [eσ3, gw_up_ne (by omega)]; exact h11
                  have h12 : σ3.2 (m + 12) = some ((gw_J (gw_z X) 7 f12)) := by rw [eσ3, gw_up_ne (by omega)]; exact h12
                  have fr : gw_fr σ0 σ3 m (m + 13) := gw_fr_tr fr (show gw_fr _ σ3 m (m + 13) by rw [eσ3]; exact gw_fr_up _ _ _ (by omega) (by omega))
                  refine gw_aload_n hX nd_Mo_load_99 rfl 2 rfl ?_
                  refine gw_get hX kf_Mo_51 nd_Mo_load_100 h0 rfl ?_
                  refine gw_if_le (tgt := 108) hX nd_Mo_load_103 rfl (fun hb => ?_) (fun hb => ?_)
                  · have hb : 1 ≤ 0 := (nI_leI (a := 1) (b := 0) (by omega) (by omega)).mp hb
                    exfalso; omega
                  · have hb : ¬ 1 ≤ 0 := fun h => hb ((nI_leI (a := 1) (b := 0) (by omega) (by omega)).mpr h)
                    refine gw_iconst (v := nI 0) hX nd_Mo_load_106 rfl ?_
                    exact gw_iret hX hQ hr nd_Mo_load_107 (by decide) (by decide) ⟨Or.inr ⟨hRn, rfl, ⟨_, _, _, _, _, _, _, _, _, _, ⟨h0, h1, h2, h3, h4, ⟨_, h5⟩, ⟨_, h6⟩, ⟨_, h7⟩, h8, h9, ⟨_, h10⟩, ⟨_, h11⟩, ⟨_, h12, hz12⟩⟩, hO⟩⟩, (fun b hb9 => fr.2 b (by omega))⟩
                · skip
                  exact absurd hb (ld_ne (by omega))
              · have hb : ¬ 0 = 0 := fun h => hb ((nI_eq (a := 0) (b := 0) (by omega) (by omega)).mpr h)
                exfalso; omega
            · have hb : ¬ 0 = 0 := fun h => hb ((nI_eq (a := 0) (b := 0) (by omega) (by omega)).mpr h)
              exfalso; omega
          · skip
            exact absurd (by decide) hb
        · show gw_W X σ1 0 0 36 [(0, .ref m), (1, .int (nI i)), (2, .int (nI 1))] [.int (nI e)]
          have hS := px_S_some hR hne
          have hlx : (acc ++ [ws]).length = acc.length + 1 := by simp
          have hG2 := ld_Gs hG hsm hmb (hml rfl) hw6
          refine gw_istore_n hX nd_Mo_load_36 rfl (by decide) (L' := [(1, .int (nI e)), (0, .ref m), (2, .int (nI 1))]) rfl ?_
          refine gw_aload_n hX nd_Mo_load_37 rfl 1 rfl ?_
          refine gw_dup hX nd_Mo_load_38 rfl ?_
          refine gw_get hX kf_Mo_82 nd_Mo_load_39 h0 rfl ?_
          refine gw_iconst (v := nI 1) hX nd_Mo_load_42 rfl ?_
          refine gw_iadd hX nd_Mo_load_43 ?_
          refine gw_topi (y := nI (acc.length + 1)) (nI_add _ _) ?_
          refine gw_put hX kf_Mo_82 nd_Mo_load_44 h0 rfl rfl (Nat.le_of_ble_eq_true rfl) (e' := .inr (1, [.int th, .int (nI A.len), .ref (m + 1), .int (nI A.ss.length), .ref (m + 2), .ref (m + 3), .ref (m + 4), .int (nI (acc.length + 1)), .ref (m + 5), .ref (m + 6), .ref (m + 7), .ref (m + 8), .ref (m + 9), .int (nI A.mk), .int (nI A.ps), .ref (m + 10), .ref (m + 11), .ref (m + 12), .long bs, .long s2, .int be, .int se, .int kp, .int kw])) rfl ?_
          obtain ⟨σ4, eσ4⟩ : ∃ hp_, hp_ = gw_up σ1 m (.inr (1, [.int th, .int (nI A.len), .ref (m + 1), .int (nI A.ss.length), .ref (m + 2), .ref (m + 3), .ref (m + 4), .int (nI (acc.length + 1)), .ref (m + 5), .ref (m + 6), .ref (m + 7), .ref (m + 8), .ref (m + 9), .int (nI A.mk), .int (nI A.ps), .ref (m + 10), .ref (m + 11), .ref (m + 12), .long bs, .long s2, .int be, .int se, .int kp, .int kw])) := ⟨_, rfl⟩
          refine gw_heap eσ4.symm ?_
          have h0 : σ4.2 m = some (.inr (1, [.int th, .int (nI A.len), .ref (m + 1), .int (nI A.ss.length), .ref (m + 2), .ref (m + 3), .ref (m + 4), .int (nI (acc.length + 1)), .ref (m + 5), .ref (m + 6), .ref (m + 7), .ref (m + 8), .ref (m + 9), .int (nI A.mk), .int (nI A.ps), .ref (m + 10), .ref (m + 11), .ref (m + 12), .long bs, .long s2, .int be, .int se, .int kp, .int kw])) := by rw [eσ4]; exact gw_up_eq _ _ _
          have h1 : σ4.2 (m + 1) = some ((gw_I (gw_z X) 240 (fun j => nI (A.ch j)))) := by rw [eσ4, gw_up_ne (by omega)]; exact h1
          have h2 : σ4.2 (m + 2) = some ((gw_I (gw_z X) 9 fm)) := by rw [eσ4, gw_up_ne (by omega)]; exact h2
          have h3 : σ4.2 (m + 3) = some ((gw_I (gw_z X) 162 fb)) := by rw [eσ4, gw_up_ne (by omega)]; exact h3
          have h4 : σ4.2 (m + 4) = some ((gw_I (gw_z X) 54 fl)) := by rw [eσ4, gw_up_ne (by omega)]; exact h4
          have h5 : σ4.2 (m + 5) = some ((gw_I (gw_z X) 9 g5')) := by rw [eσ4, gw_up_ne (by omega)]; exact h5
          have h6 : σ4.2 (m + 6) = some ((gw_I (gw_z X) 162 g6')) := by rw [eσ4, gw_up_ne (by omega)]; exact h6
          have h7 : σ4.2 (m + 7) = some ((gw_I (gw_z X) 54 g7')) := by rw [eσ4, gw_up_ne (by omega)]; exact h7
          have h8 : σ4.2 (m + 8) = some ((gw_J (gw_z X) 148 (fun j => iL (A.wt j)))) := by rw [eσ4, gw_up_ne (by omega)]; exact h8
          have h9 : σ4.2 (m + 9) = some ((gw_J (gw_z X) 148 (fun j => iL (A.tt j)))) := by rw [eσ4, gw_up_ne (by omega)]; exact h9
          have h10 : σ4.2 (m + 10) = some ((gw_J (gw_z X) 24 f10)) := by rw [eσ4, gw_up_ne (by omega)]; exact h10
          have h11 : σ4.2 (m + 11) = some ((gw_I (gw_z X) 6 f11)) := by rw [eσ4, gw_up_ne (by omega)]; exact h11
          have h12 : σ4.2 (m + 12) = some ((gw_J (gw_z X) 7 f12)) := by rw [eσ4, gw_up_ne (by omega)]; exact h12
          have fr : gw_fr σ0 σ4 m (m + 13) := gw_fr_tr fr (show gw_fr _ σ4 m (m + 13) by rw [eσ4]; exact gw_fr_up _ _ _ (by omega) (by omega))
          refine gw_iload_n hX nd_Mo_load_47 rfl 0 rfl ?_
          refine gw_if_lt (tgt := 65) hX nd_Mo_load_48 rfl (fun hb => ?_) (fun hb => ?_)
          · have hb : e < 0 := (nI_ltI (a := e) (b := 0) (by omega) (by omega)).mp hb
            exfalso; omega
          · have hb : ¬ e < 0 := fun h => hb ((nI_ltI (a := e) (b := 0) (by omega) (by omega)).mpr h)
            refine gw_aload_n hX nd_Mo_load_51 rfl 1 rfl ?_
            refine gw_iload_n hX nd_Mo_load_52 rfl 0 rfl ?_
            refine gw_bipush (v := nI 59) hX nd_Mo_load_53 rfl ?_
            refine gw_callV (rest := []) hX ks_Mo_63 (ct_Mo_is _ _ _ σ4 m h0 A.ch hln hA.2.1 h1 e 59 he (by omega)) h0 rfl rfl (Nat.le_of_ble_eq_true rfl) nd_Mo_load_55 (by decide) ?_
            rintro v_ s_ ⟨hv_, hs_⟩
            have hs_ := hs_.symm
            subst hs_ hv_
            show gw_W X σ4 0 0 58 [(1, .int (nI e)), (0, .ref m), (2, .int (nI 1))] [.int (nI ((if px_is A.len A.ch 59 e then 1 else 0)))]
            have hi9 : (if px_is A.len A.ch 59 e then 1 else 0) ≤ 1 := by split <;> omega
            refine gw_if_eq (tgt := 65) hX nd_Mo_load_58 rfl (fun hb => ?_) (fun hb => ?_)
            · have hb : (if px_is A.len A.ch 59 e then 1 else 0) = 0 := (nI_eq (a := (if px_is A.len A.ch 59 e then 1 else 0)) (b := 0) (by omega) (by omega)).mp hb
              have hns : px_is A.len A.ch 59 e = false := by by_cases e9 : px_is A.len A.ch 59 e = true; (rw [if_pos e9] at hb; omega); exact Bool.not_eq_true _ ▸ e9
              have hRe := hRC.trans (ld_end hS hns)
              refine gw_iconst (v := nI 0) hX nd_Mo_load_65 rfl ?_
              refine gw_istore_n hX nd_Mo_load_66 rfl (by decide) (L' := [(2, .int (nI 0)), (1, .int (nI e)), (0, .ref m)]) rfl ?_
              refine gw_iload_n hX nd_Mo_load_67 rfl 0 rfl ?_
              refine gw_if_eq (tgt := 77) hX nd_Mo_load_68 rfl (fun hb => ?_) (fun hb => ?_)
              · have hb : 0 = 0 := (nI_eq (a := 0) (b := 0) (by omega) (by omega)).mp hb
                refine gw_iload_n hX nd_Mo_load_77 rfl 1 rfl ?_
                refine gw_istore_n hX nd_Mo_load_78 rfl (by decide) (L' := [(1, .int (nI e)), (2, .int (nI 0)), (0, .ref m)]) rfl ?_
                refine gw_goto (tgt := 9) hX nd_Mo_load_79 rfl ?_
                refine gw_iload_n hX nd_Mo_load_9 rfl 1 rfl ?_
                refine gw_if_eq (tgt := 82) hX nd_Mo_load_10 rfl (fun hb => ?_) (fun hb => ?_)
                · have hb : 0 = 0 := (nI_eq (a := 0) (b := 0) (by omega) (by omega)).mp hb
                  refine gw_aload_n hX nd_Mo_load_82 rfl 2 rfl ?_
                  refine gw_iload_n hX nd_Mo_load_83 rfl 0 rfl ?_
                  refine gw_aload_n hX nd_Mo_load_84 rfl 2 rfl ?_
                  refine gw_get hX kf_Mo_56 nd_Mo_load_85 h0 rfl ?_
                  refine gw_icmp_ne (tgt := 95) hX nd_Mo_load_88 rfl (fun hb => ?_) (fun hb => ?_)
                  · have hb : ¬ e = A.len := fun h => hb ((nI_eq (a := e) (b := A.len) (by omega) (by omega)).mpr h)
                    have hRn : px_C A.len A.ch 8 0 [] = none := hRe.trans (if_neg hb)
                    refine gw_iconst (v := nI 1) hX nd_Mo_load_95 rfl ?_
                    refine gw_put hX kf_Mo_51 nd_Mo_load_96 h0 rfl rfl (Nat.le_of_ble_eq_true rfl) (e' := .inr (1, [.int (nI 1), .int (nI A.len), .ref (m + 1), .int (nI A.ss.length), .ref (m + 2), .ref (m + 3), .ref (m + 4), .int (nI (acc.length + 1)), .ref (m + 5), .ref (m + 6), .ref (m + 7), .ref (m + 8), .ref (m + 9), .int (nI A.mk), .int (nI A.ps), .ref (m + 10), .ref (m + 11), .ref (m + 12), .long bs, .long s2, .int be, .int se, .int kp, .int kw])) rfl ?_
                    obtain ⟨σ5, eσ5⟩ : ∃ hp_, hp_ = gw_up σ4 m (.inr (1, [.int (nI 1), .int (nI A.len), .ref (m + 1), .int (nI A.ss.length), .ref (m + 2), .ref (m + 3), .ref (m + 4), .int (nI (acc.length + 1)), .ref (m + 5), .ref (m + 6), .ref (m + 7), .ref (m + 8), .ref (m + 9), .int (nI A.mk), .int (nI A.ps), .ref (m + 10), .ref (m + 11), .ref (m + 12), .long bs, .long s2, .int be, .int se, .int kp, .int kw])) := ⟨_, rfl⟩
                    refine gw_heap eσ5.symm ?_
                    have h0 : σ5.2 m = some (.inr (1, [.int (nI 1), .int (nI A.len), .ref (m + 1), .int (nI A.ss.length), .ref (m + 2), .ref (m + 3), .ref (m + 4), .int (nI (acc.length + 1)), .ref (m + 5), .ref (m + 6), .ref (m + 7), .ref (m + 8), .ref (m + 9), .int (nI A.mk), .int (nI A.ps), .ref (m + 10), .ref (m + 11), .ref (m + 12), .long bs, .long s2, .int be, .int se, .int kp, .int kw])) := by rw [eσ5]; exact gw_up_eq _ _ _
                    have h1 : σ5.2 (m + 1) = some ((gw_I (gw_z X) 240 (fun j => nI (A.ch j)))) := by rw [eσ5, gw_up_ne (by omega)]; exact h1
                    have h2 : σ5.2 (m + 2) = some ((gw_I (gw_z X) 9 fm)) := by rw [eσ5, gw_up_ne (by omega)]; exact h2
                    have h3 : σ5.2 (m + 3) = some ((gw_I (gw_z X) 162 fb)) := by rw [eσ5, gw_up_ne (by omega)]; exact h3
                    have h4 : σ5.2 (m + 4) = some ((gw_I (gw_z X) 54 fl)) := by rw [eσ5, gw_up_ne (by omega)]; exact h4
                    have h5 : σ5.2 (m + 5) = some ((gw_I (gw_z X) 9 g5')) := by rw [eσ5, gw_up_ne (by omega)]; exact h5
                    have h6 : σ5.2 (m + 6) = some ((gw_I (gw_z X) 162 g6')) := by rw [eσ5, gw_up_ne (by omega)]; exact h6
                    have h7 : σ5.2 (m + 7) = some ((gw_I (gw_z X) 54 g7')) := by rw [eσ5, gw_up_ne (by omega)]; exact h7
                    have h8 : σ5.2 (m + 8) = some ((gw_J (gw_z X) 148 (fun j => iL (A.wt j)))) := by rw [eσ5, gw_up_ne (by omega)]; exact h8
                    have h9 : σ5.2 (m + 9) = some ((gw_J (gw_z X) 148 (fun j => iL (A.tt j)))) := by rw [eσ5, gw_up_ne (by omega)]; exact h9
                    have h10 : σ5.2 (m + 10) = some ((gw_J (gw_z X) 24 f10)) := by rw [eσ5, gw_up_ne (by omega)]; exact h10
                    have h11 : σ5.2 (m + 11) = some ((gw_I (gw_z X) 6 f11)) := by rw [eσ5, gw_up_ne (by omega)]; exact h11
                    have h12 : σ5.2 (m + 12) = some ((gw_J (gw_z X) 7 f12)) := by rw [eσ5, gw_up_ne (by omega)]; exact h12
                    have fr : gw_fr σ0 σ5 m (m + 13) := gw_fr_tr fr (show gw_fr _ σ5 m (m + 13) by rw [eσ5]; exact gw_fr_up _ _ _ (by omega) (by omega))
                    refine gw_aload_n hX nd_Mo_load_99 rfl 2 rfl ?_
                    refine gw_get hX kf_Mo_51 nd_Mo_load_100 h0 rfl ?_
                    refine gw_if_le (tgt := 108) hX nd_Mo_load_103 rfl (fun hb => ?_) (fun hb => ?_)
                    · have hb : 1 ≤ 0 := (nI_leI (a := 1) (b := 0) (by omega) (by omega)).mp hb
                      exfalso; omega
                    · have hb : ¬ 1 ≤ 0 := fun h => hb ((nI_leI (a := 1) (b := 0) (by omega) (by omega)).mpr h)
                      refine gw_iconst (v := nI 0) hX nd_Mo_load_106 rfl ?_
                      exact gw_iret hX hQ hr nd_Mo_load_107 (by decide) (by decide) ⟨Or.inr ⟨hRn, rfl, ⟨_, _, _, _, _, _, _, _, _, _, ⟨h0, h1, h2, h3, h4, ⟨_, h5⟩, ⟨_, h6⟩, ⟨_, h7⟩, h8, h9, ⟨_, h10⟩, ⟨_, h11⟩, ⟨_, h12, hz12⟩⟩, hO⟩⟩, (fun b hb9 => fr.2 b (by omega))⟩
                  · have hb : e = A.len := (nI_eq (a := e) (b := A.len) (by omega) (by omega)).mp hb
                    rw [if_pos hb] at hRe
                    refine gw_iconst (v := nI 0) hX nd_Mo_load_91 rfl ?_
                    refine gw_goto (tgt := 96) hX nd_Mo_load_92 rfl ?_
                    refine gw_put hX kf_Mo_51 nd_Mo_load_96 h0 rfl rfl (Nat.le_of_ble_eq_true rfl) (e' := .inr (1, [.int (nI 0), .int (nI A.len), .ref (m + 1), .int (nI A.ss.length), .ref (m + 2), .ref (m + 3), .ref (m + 4), .int (nI (acc.length + 1)), .ref (m + 5), .ref (m + 6), .ref (m + 7), .ref (m + 8), .ref (m + 9), .int (nI A.mk), .int (nI A.ps), .ref (m + 10), .ref (m + 11), .ref (m + 12), .long bs, .long s2, .int be, .int se, .int kp, .int kw])) rfl ?_
                    obtain ⟨σ6, eσ6⟩ : ∃ hp_, hp_ = gw_up σ4 m (.inr (1, [.int (nI 0), .int (nI A.len), .ref (m + 1), .int (nI A.ss.length), .ref (m + 2), .ref (m + 3), .ref (m + 4), .int (nI (acc.length + 1)), .ref (m + 5), .ref (m + 6), .ref (m + 7), .ref (m + 8), .ref (m + 9), .int (nI A.mk), .int (nI A.ps), .ref (m + 10), .ref (m + 11), .ref (m + 12), .long bs, .long s2, .int be, .int se, .int kp, .int kw])) := ⟨_, rfl⟩
                    refine gw_heap eσ6.symm ?_
                    have h0 : σ6.2 m = some (.inr (1, [.int (nI 0), .int (nI A.len), .ref (m + 1), .int (nI A.ss.length), .ref (m + 2), .ref (m + 3), .ref (m + 4), .int (nI (acc.length + 1)), .ref (m + 5), .ref (m + 6), .ref (m + 7), .ref (m + 8), .ref (m + 9), .int (nI A.mk), .int (nI A.ps), .ref (m + 10), .ref (m + 11), .ref (m + 12), .long bs, .long s2, .int be, .int se, .int kp, .int kw])) := by rw [eσ6]; exact gw_up_eq _ _ _
                    have h1 : σ6.2 (m + 1) = some ((gw_I (gw_z X) 240 (fun j => nI (A.ch j)))) := by rw [eσ6, gw_up_ne (by omega)]; exact h1
                    have h2 : σ6.2 (m + 2) = some ((gw_I (gw_z X) 9 fm)) := by rw [eσ6, gw_up_ne (by omega)]; exact h2
                    have h3 : σ6.2 (m + 3) = some ((gw_I (gw_z X) 162 fb)) := by rw [eσ6, gw_up_ne (by omega)]; exact h3
                    have h4 : σ6.2 (m + 4) = some ((gw_I (gw_z X) 54 fl)) := by rw [eσ6, gw_up_ne (by omega)]; exact h4
                    have h5 : σ6.2 (m + 5) = some ((gw_I (gw_z X) 9 g5')) := by rw [eσ6, gw_up_ne (by omega)]; exact h5
                    have h6 : σ6.2 (m + 6) = some ((gw_I (gw_z X) 162 g6')) := by rw [eσ6, gw_up_ne (by omega)]; exact h6
                    have h7 : σ6.2 (m + 7) = some ((gw_I (gw_z X) 54 g7')) := by rw [eσ6, gw_up_ne (by omega)]; exact h7
                    have h8 : σ6.2 (m + 8) = some ((gw_J (gw_z X) 148 (fun j => iL (A.wt j)))) := by rw [eσ6, gw_up_ne (by omega)]; exact h8
                    have h9 : σ6.2 (m + 9) = some ((gw_J (gw_z X) 148 (fun j => iL (A.tt j)))) := by rw [eσ6, gw_up_ne (by omega)]; exact h9
                    have h10 : σ6.2 (m + 10) = some ((gw_J (gw_z X) 24 f10)) := by rw [eσ6, gw_up_ne (by omega)]; exact h10
                    have h11 : σ6.2 (m + 11) = some ((gw_I (gw_z X) 6 f11)) := by rw [eσ6, gw_up_ne (by omega)]; exact h11
                    have h12 : σ6.2 (m + 12) = some ((gw_J (gw_z X) 7 f12)) := by rw [eσ6, gw_up_ne (by omega)]; exact h12
                    have fr : gw_fr σ0 σ6 m (m + 13) := gw_fr_tr fr (show gw_fr _ σ6 m (m + 13) by rw [eσ6]; exact gw_fr_up _ _ _ (by omega) (by omega))
                    refine gw_aload_n hX nd_Mo_load_99 rfl 2 rfl ?_
                    refine gw_get hX kf_Mo_51 nd_Mo_load_100 h0 rfl ?_
                    refine gw_if_le (tgt := 108) hX nd_Mo_load_103 rfl (fun hb => ?_) (fun hb => ?_)
                    · have hb : 0 ≤ 0 := (nI_leI (a := 0) (b := 0) (by omega) (by omega)).mp hb
                      refine gw_aload_n hX nd_Mo_load_108 rfl 2 rfl ?_
                      refine gw_aload_n hX nd_Mo_load_109 rfl 2 rfl ?_
                      refine gw_get hX kf_Mo_82 nd_Mo_load_110 h0 rfl ?_
                      refine gw_put hX kf_Mo_89 nd_Mo_load_113 h0 rfl rfl (Nat.le_of_ble_eq_true rfl) (e' := .inr (1, [.int (nI 0), .int (nI A.len), .ref (m + 1), .int (nI (acc.length + 1)), .ref (m + 2), .ref (m + 3), .ref (m + 4), .int (nI (acc.length + 1)), .ref (m + 5), .ref (m + 6), .ref (m + 7), .ref (m + 8), .ref (m + 9), .int (nI A.mk), .int (nI A.ps), .ref (m + 10), .ref (m + 11), .ref (m + 12), .long bs, .long s2, .int be, .int se, .int kp, .int kw])) rfl ?_
                      obtain ⟨σ7, eσ7⟩ : ∃ hp_, hp_ = gw_up σ6 m (.inr (1, [.int (nI 0), .int (nI A.len), .ref (m + 1), .int (nI (acc.length + 1)), .ref (m + 2), .ref (m + 3), .ref (m + 4), .int (nI (acc.length + 1)), .ref (m + 5), .ref (m + 6), .ref (m + 7), .ref (m + 8), .ref (m + 9), .int (nI A.mk), .int (nI A.ps), .ref (m + 10), .ref (m + 11), .ref (m + 12), .long bs, .long s2, .int be, .int se, .int kp, .int kw])) := ⟨_, rfl⟩
                      refine gw_heap eσ7.symm ?_
                      have h0 : σ7.2 m = some (.inr (1, [.int (nI 0), .int (nI A.len), .ref (m + 1), .int (nI (acc.length + 1)), .ref (m + 2), .ref (m + 3), .ref (m + 4), .int (nI (acc.length + 1)), .ref (m + 5), .ref (m + 6), .ref (m + 7), .ref (m + 8), .ref (m + 9), .int (nI A.mk), .int (nI A.ps), .ref (m + 10), .ref (m + 11), .ref (m + 12), .long bs, .long s2, .int be, .int se, .int kp, .int kw])) := by rw [eσ7]; exact gw_up_eq _ _ _
                      have h1 : σ7.2 (m + 1) = some ((gw_I (gw_z X) 240 (fun j => nI (A.ch j)))) := by rw [eσ7, gw_up_ne (by omega)]; exact h1
                      have h2 : σ7.2 (m + 2) = some ((gw_I (gw_z X) 9 fm)) := by rw [eσ7, gw_up_ne (by omega)]; exact h2
                      have h3 : σ7.2 (m + 3) = some ((gw_I (gw_z X) 162 fb)) := by rw [eσ7, gw_up_ne (by omega)]; exact h3
                      have h4 : σ7.2 (m + 4) = some ((gw_I (gw_z X) 54 fl)) := by rw [eσ7, gw_up_ne (by omega)]; exact h4
                      have h5 : σ7.2 (m + 5) = some ((gw_I (gw_z X) 9 g5')) := by rw [eσ7, gw_up_ne (by omega)]; exact h5
                      have h6 : σ7.2 (m + 6) = some ((gw_I (gw_z X) 162 g6')) := by rw [eσ7, gw_up_ne (by omega)]; exact h6
                      have h7 : σ7.2 (m + 7) = some ((gw_I (gw_z X) 54 g7')) := by rw [eσ7, gw_up_ne (by omega)]; exact h7
                      have h8 : σ7.2 (m + 8) = some ((gw_J (gw_z X) 148 (fun j => iL (A.wt j)))) := by rw [eσ7, gw_up_ne (by omega)]; exact h8
                      have h9 : σ7.2 (m + 9) = some ((gw_J (gw_z X) 148 (fun j => iL (A.tt j)))) := by rw [eσ7, gw_up_ne (by omega)]; exact h9
                      have h10 : σ7.2 (m + 10) = some ((gw_J (gw_z X) 24 f10)) := by rw [eσ7, gw_up_ne (by omega)]; exact h10
                      have h11 : σ7.2 (m + 11) = some ((gw_I (gw_z X) 6 f11)) := by rw [eσ7, gw_up_ne (by omega)]; exact h11
                      have h12 : σ7.2 (m + 12) = some ((gw_J (gw_z X) 7 f12)) := by rw [eσ7, gw_up_ne (by omega)]; exact h12
                      have fr : gw_fr σ0 σ7 m (m + 13) := gw_fr_tr fr (show gw_fr _ σ7 m (m + 13) by rw [eσ7]; exact gw_fr_up _ _ _ (by omega) (by omega))
                      refine gw_iconst (v := nI 0) hX nd_Mo_load_116 rfl ?_
                      refine gw_istore_n hX nd_Mo_load_117 rfl (by decide) (L' := [(3, .int (nI 0)), (1, .int (nI e)), (2, .int (nI 0)), (0, .ref m)]) rfl ?_
                      refine gw_cut (ks := [3, 0]) (L' := [(0, .ref m), (3, .int (nI 0))]) rfl ?_
                      exact lp_Mo_ldT m A hA g5' g6' g7' f10 f12 f11 hz12 (acc ++ [ws]) (by omega) hRe hG2 hX hQ hr (acc ++ [ws]).length 0 _ fm fb fl (by omega) (fun i9 ws9 h9 => by omega) hO.2.1 (by rw [hlx]; exact h0) h1 h2 h3 h4 h5 h6 h7 h8 h9 h10 h11 h12 fr
                    · have hb : ¬ 0 ≤ 0 := fun h => hb ((nI_leI (a := 0) (b := 0) (by omega) (by omega)).mpr h)
                      exfalso; omega
                · have hb : ¬ 0 = 0 := fun h => hb ((nI_eq (a := 0) (b := 0) (by omega) (by omega)).mpr h)
                  exfalso; omega
              · have hb : ¬ 0 = 0 := fun h => hb ((nI_eq (a := 0) (b := 0) (by omega) (by omega)).mpr h)
                exfalso; omega
            · have hb : ¬ (if px_is A.len A.ch 59 e then 1 else 0) = 0 := fun h => hb ((nI_eq (a := (if px_is A.len A.ch 59 e then 1 else 0)) (b := 0) (by omega) (by omega)).mpr h)
              have hys : px_is A.len A.ch 59 e = true := by by_cases e9 : px_is A.len A.ch 59 e = true; exact e9; (rw [if_neg e9] at hb; omega)
              have hel := (px_is_iff.mp hys).1
              refine gw_iconst (v := nI 1) hX nd_Mo_load_61 rfl ?_
              refine gw_goto (tgt := 66) hX nd_Mo_load_62 rfl ?_
              refine gw_istore_n hX nd_Mo_load_66 rfl (by decide) (L' := [(2, .int (nI 1)), (1, .int (nI e)), (0, .ref m)]) rfl ?_
              refine gw_iload_n hX nd_Mo_load_67 rfl 0 rfl ?_
              refine gw_if_eq (tgt := 77) hX nd_Mo_load_68 rfl (fun hb => ?_) (fun hb => ?_)
              · have hb : 1 = 0 := (nI_eq (a := 1) (b := 0) (by omega) (by omega)).mp hb
                exfalso; omega
              · have hb : ¬ 1 = 0 := fun h => hb ((nI_eq (a := 1) (b := 0) (by omega) (by omega)).mpr h)
                refine gw_iload_n hX nd_Mo_load_71 rfl 1 rfl ?_
                refine gw_iconst (v := nI 1) hX nd_Mo_load_72 rfl ?_
                refine gw_iadd hX nd_Mo_load_73 ?_
                refine gw_topi (y := nI (e + 1)) (nI_add _ _) ?_
                refine gw_goto (tgt := 78) hX nd_Mo_load_74 rfl ?_
                refine gw_istore_n hX nd_Mo_load_78 rfl (by decide) (L' := [(1, .int (nI (e + 1))), (2, .int (nI 1)), (0, .ref m)]) rfl ?_
                refine gw_goto (tgt := 9) hX nd_Mo_load_79 rfl ?_
                refine gw_cut (ks := [2, 0, 1]) (L' := [(0, .ref m), (1, .int (nI (e + 1))), (2, .int (nI 1))]) rfl ?_
                exact ih u (by omega) (acc ++ [ws]) (e + 1) _ g5' g6' g7' (by omega) (hRC.trans (ld_more hS hys)) (by omega) hG2 (by rw [hlx]; exact h0) h1 h2 h3 h4 h5 h6 h7 h8 h9 h10 h11 h12 fr
      · have hb : acc.length = 8 := (nI_eq (a := acc.length) (b := 8) (by omega) (by omega)).mp hb
        have hu0 : u = 0 := by omega
        subst hu0
        have hRn : px_C A.len A.ch 8 0 [] = none := hRC
        refine gw_iconst (v := (-1)) hX nd_Mo_load_22 rfl ?_
        refine gw_goto (tgt := 36) hX nd_Mo_load_23 rfl ?_
        refine gw_istore_n hX nd_Mo_load_36 rfl (by decide) (L' := [(1, .int ((-1))), (0, .ref m), (2, .int (nI 1))]) rfl ?_
        refine gw_aload_n hX nd_Mo_load_37 rfl 1 rfl ?_
        refine gw_dup hX nd_Mo_load_38 rfl ?_
        refine gw_get hX kf_Mo_82 nd_Mo_load_39 h0 rfl ?_
        refine gw_iconst (v := nI 1) hX nd_Mo_load_42 rfl ?_
        refine gw_iadd hX nd_Mo_load_43 ?_
        refine gw_topi (y := nI (acc.length + 1)) (nI_add _ _) ?_
        refine gw_put hX kf_Mo_82 nd_Mo_load_44 h0 rfl rfl (Nat.le_of_ble_eq_true rfl) (e' := .inr (1, [.int th, .int (nI A.len), .ref (m + 1), .int (nI A.ss.length), .ref (m + 2), .ref (m + 3), .ref (m + 4), .int (nI (acc.length + 1)), .ref (m + 5), .ref (m + 6), .ref (m + 7), .ref (m + 8), .ref (m + 9), .int (nI A.mk), .int (nI A.ps), .ref (m + 10), .ref (m + 11), .ref (m + 12), .long bs, .long s2, .int be, .int se, .int kp, .int kw])) rfl ?_
        obtain ⟨σ8, eσ8⟩ : ∃ hp_, hp_ = gw_up σ m (.inr (1, [.int th, .int (nI A.len), .ref (m + 1), .int (nI A.ss.length), .ref (m + 2), .ref (m + 3), .ref (m + 4), .int (nI (acc.length + 1)), .ref (m + 5), .ref (m + 6), .ref (m + 7), .ref (m + 8), .ref (m + 9), .int (nI A.mk), .int (nI A.ps), .ref (m + 10), .ref (m + 11), .ref (m + 12), .long bs, .long s2, .int be, .int se, .int kp, .int kw])) := ⟨_, rfl⟩
        refine gw_heap eσ8.symm ?_
        have h0 : σ8.2 m = some (.inr (1, [.int th, .int (nI A.len), .ref (m + 1), .int (nI A.ss.length), .ref (m + 2), .ref (m + 3), .ref (m + 4), .int (nI (acc.length + 1)), .ref (m + 5), .ref (m + 6), .ref (m + 7), .ref (m + 8), .ref (m + 9), .int (nI A.mk), .int (nI A.ps), .ref (m + 10), .ref (m + 11), .ref (m + 12), .long bs, .long s2, .int be, .int se, .int kp, .int kw])) := by rw [eσ8]; exact gw_up_eq _ _ _
        have h1 : σ8.2 (m + 1) = some ((gw_I (gw_z X) 240 (fun j => nI (A.ch j)))) := by rw [eσ8, gw_up_ne (by omega)]; exact h1
        have h2 : σ8.2 (m + 2) = some ((gw_I (gw_z X) 9 fm)) := by rw [eσ8, gw_up_ne (by omega)]; exact h2
        have h3 : σ8.2 (m + 3) = some ((gw_I (gw_z X) 162 fb)) := by rw [eσ8, gw_up_ne (by omega)]; exact h3
        have h4 : σ8.2 (m + 4) = some ((gw_I (gw_z X) 54 fl)) := by rw [eσ8, gw_up_ne (by omega)]; exact h4
        have h5 : σ8.2 (m + 5) = some ((gw_I (gw_z X) 9 g5)) := by rw [eσ8, gw_up_ne (by omega)]; exact h5
        have h6 : σ8.2 (m + 6) = some ((gw_I (gw_z X) 162 g6)) := by rw [eσ8, gw_up_ne (by omega)]; exact h6
        have h7 : σ8.2 (m + 7) = some ((gw_I (gw_z X) 54 g7)) := by rw [eσ8, gw_up_ne (by omega)]; exact h7
        have h8 : σ8.2 (m + 8) = some ((gw_J (gw_z X) 148 (fun j => iL (A.wt j)))) := by rw [eσ8, gw_up_ne (by omega)]; exact h8
        have h9 : σ8.2 (m + 9) = some ((gw_J (gw_z X) 148 (fun j => iL (A.tt j)))) := by rw [eσ8, gw_up_ne (by omega)]; exact h9
        have h10 : σ8.2 (m + 10) = some ((gw_J (gw_z X) 24 f10)) := by rw [eσ8, gw_up_ne (by omega)]; exact h10
        have h11 : σ8.2 (m + 11) = some ((gw_I (gw_z X) 6 f11)) := by rw [eσ8, gw_up_ne (by omega)]; exact h11
        have h12 : σ8.2 (m + 12) = some ((gw_J (gw_z X) 7 f12)) := by rw [eσ8, gw_up_ne (by omega)]; exact h12
        have fr : gw_fr σ0 σ8 m (m + 13) := gw_fr_tr fr (show gw_fr _ σ8 m (m + 13) by rw [eσ8]; exact gw_fr_up _ _ _ (by omega) (by omega))
        refine gw_iload_n hX nd_Mo_load_47 rfl 0 rfl ?_
        refine gw_if_lt (tgt := 65) hX nd_Mo_load_48 rfl (fun hb => ?_) (fun hb => ?_)
        · skip
          refine gw_iconst (v := nI 0) hX nd_Mo_load_65 rfl ?_
          refine gw_istore_n hX nd_Mo_load_66 rfl (by decide) (L' := [(2, .int (nI 0)), (1, .int ((-1))), (0, .ref m)]) rfl ?_
          refine gw_iload_n hX nd_Mo_load_67 rfl 0 rfl ?_
          refine gw_if_eq (tgt := 77) hX nd_Mo_load_68 rfl (fun hb => ?_) (fun hb => ?_)
          · have hb : 0 = 0 := (nI_eq (a := 0) (b := 0) (by omega) (by omega)).mp hb
            refine gw_iload_n hX nd_Mo_load_77 rfl 1 rfl ?_
            refine gw_istore_n hX nd_Mo_load_78 rfl (by decide) (L' := [(1, .int ((-1))), (2, .int (nI 0)), (0, .ref m)]) rfl ?_
            refine gw_goto (tgt := 9) hX nd_Mo_load_79 rfl ?_
            refine gw_iload_n hX nd_Mo_load_9 rfl 1 rfl ?_
            refine gw_if_eq (tgt := 82) hX nd_Mo_load_10 rfl (fun hb => ?_) (fun hb => ?_)
            · have hb : 0 = 0 := (nI_eq (a := 0) (b := 0) (by omega) (by omega)).mp hb
              refine gw_aload_n hX nd_Mo_load_82 rfl 2 rfl ?_
              refine gw_iload_n hX nd_Mo_load_83 rfl 0 rfl ?_
              refine gw_aload_n hX nd_Mo_load_84 rfl 2 rfl ?_
              refine gw_get hX kf_Mo_56 nd_Mo_load_85 h0 rfl ?_
              refine gw_icmp_ne (tgt := 95) hX nd_Mo_load_88 rfl (fun hb => ?_) (fun hb => ?_)
              · skip
                refine gw_iconst (v := nI 1) hX nd_Mo_load_95 rfl ?_
                refine gw_put hX kf_Mo_51 nd_Mo_load_96 h0 rfl rfl (Nat.le_of_ble_eq_true rfl) (e' := .inr (1, [.int (nI 1), .int (nI A.len), .ref (m + 1), .int (nI A.ss.length), .ref (m + 2), .ref (m + 3), .ref (m + 4), .int (nI (acc.length + 1)), .ref (m + 5), .ref (m + 6), .ref (m + 7), .ref (m + 8), .ref (m + 9), .int (nI A.mk), .int (nI A.ps), .ref (m + 10), .ref (m + 11), .ref (m + 12), .long bs, .long s2, .int be, .int se, .int kp, .int kw])) rfl ?_
                obtain ⟨σ9, eσ9⟩ : ∃ hp_, hp_ = gw_up σ8 m (.inr (1, [.int (nI 1), .int (nI A.len), .ref (m + 1), .int (nI A.ss.length), .ref (m + 2), .ref (m + 3), .ref (m + 4), .int (nI (acc.length + 1)), .ref (m + 5), .ref (m + 6), .ref (m + 7), .ref (m + 8), .ref (m + 9), .int (nI A.mk), .int (nI A.ps), .ref (m + 10), .ref (m + 11), .ref (m + 12), .long bs, .long s2, .int be, .int se, .int kp, .int kw])) := ⟨_, rfl⟩
                refine gw_heap eσ9.symm ?_
                have h0 : σ9.2 m = some (.inr (1, [.int (nI 1), .int (nI A.len), .ref (m + 1), .int (nI A.ss.length), .ref (m + 2), .ref (m + 3), .ref (m + 4), .int (nI (acc.length + 1)), .ref (m + 5), .ref (m + 6), .ref (m + 7), .ref (m + 8), .ref (m + 9), .int (nI A.mk), .int (nI A.ps), .ref (m + 10), .ref (m + 11), .ref (m + 12), .long bs, .long s2, .int be, .int se, .int kp, .int kw])) := by rw [eσ9]; exact gw_up_eq _ _ _
                have h1 : σ9.2 (m + 1) = some ((gw_I (gw_z X) 240 (fun j => nI (A.ch j)))) := by rw [eσ9, gw_up_ne (by omega)]; exact h1
                have h2 : σ9.2 (m + 2) = some ((gw_I (gw_z X) 9 fm)) := by rw [eσ9, gw_up_ne (by omega)]; exact h2
                have h3 : σ9.2 (m + 3) = some ((gw_I (gw_z X) 162 fb)) := by rw [eσ9, gw_up_ne (by omega)]; exact h3
                have h4 : σ9.2 (m + 4) = some ((gw_I (gw_z X) 54 fl)) := by rw [eσ9, gw_up_ne (by omega)]; exact h4
                have h5 : σ9.2 (m + 5) = some ((gw_I (gw_z X) 9 g5)) := by rw [eσ9, gw_up_ne (by omega)]; exact h5
                have h6 : σ9.2 (m + 6) = some ((gw_I (gw_z X) 162 g6)) := by rw [eσ9, gw_up_ne (by omega)]; exact h6
                have h7 : σ9.2 (m + 7) = some ((gw_I (gw_z X) 54 g7)) := by rw [eσ9, gw_up_ne (by omega)]; exact h7
                have h8 : σ9.2 (m + 8) = some ((gw_J (gw_z X) 148 (fun j => iL (A.wt j)))) := by rw [eσ9, gw_up_ne (by omega)]; exact h8
                have h9 : σ9.2 (m + 9) = some ((gw_J (gw_z X) 148 (fun j => iL (A.tt j)))) := by rw [eσ9, gw_up_ne (by omega)]; exact h9
                have h10 : σ9.2 (m + 10) = some ((gw_J (gw_z X) 24 f10)) := by rw [eσ9, gw_up_ne (by omega)]; exact h10
                have h11 : σ9.2 (m + 11) = some ((gw_I (gw_z X) 6 f11)) := by rw [eσ9, gw_up_ne (by omega)]; exact h11
                have h12 : σ9.2 (m + 12) = some ((gw_J (gw_z X) 7 f12)) := by rw [eσ9, gw_up_ne (by omega)]; exact h12
                have fr : gw_fr σ0 σ9 m (m + 13) := gw_fr_tr fr (show gw_fr _ σ9 m (m + 13) by rw [eσ9]; exact gw_fr_up _ _ _ (by omega) (by omega))
                refine gw_aload_n hX nd_Mo_load_99 rfl 2 rfl ?_
                refine gw_get hX kf_Mo_51 nd_Mo_load_100 h0 rfl ?_
                refine gw_if_le (tgt := 108) hX nd_Mo_load_103 rfl (fun hb => ?_) (fun hb => ?_)
                · have hb : 1 ≤ 0 := (nI_leI (a := 1) (b := 0) (by omega) (by omega)).mp hb
                  exfalso; omega
                · have hb : ¬ 1 ≤ 0 := fun h => hb ((nI_leI (a := 1) (b := 0) (by omega) (by omega)).mpr h)
                  refine gw_iconst (v := nI 0) hX nd_Mo_load_106 rfl ?_
                  exact gw_iret hX hQ hr nd_Mo_load_107 (by decide) (by decide) ⟨Or.inr ⟨hRn, rfl, ⟨_, _, _, _, _, _, _, _, _, _, ⟨h0, h1, h2, h3, h4, ⟨_, h5⟩, ⟨_, h6⟩, ⟨_, h7⟩, h8, h9, ⟨_, h10⟩, ⟨_, h11⟩, ⟨_, h12, hz12⟩⟩, hO⟩⟩, (fun b hb9 => fr.2 b (by omega))⟩
              · skip
                exact absurd hb (ld_ne (by omega))
            · have hb : ¬ 0 = 0 := fun h => hb ((nI_eq (a := 0) (b := 0) (by omega) (by omega)).mpr h)
              exfalso; omega
          · have hb : ¬ 0 = 0 := fun h => hb ((nI_eq (a := 0) (b := 0) (by omega) (by omega)).mpr h)
            exfalso; omega
        · skip
          exact absurd (by decide) hb
set_option maxRecDepth 100000 in
set_option maxHeartbeats 4000000 in
theorem ct_Mo_load (l : Launch) (Z : gw_Z) (b0 : Nat) (σ : gw_S) (m : Nat) (A : ab_A) (hA : ab_ok A) {th rs be se kp kw : Int32} {bs s2 : Int64} {fm fb fl : Nat → Int32} (hM : mw_at σ Z m A th rs be se kp kw bs s2 fm fb fl) (hO : mw_ok A kp kw fm fb fl) : gw_M l ny_Mo_load nc_Mo_load (4, 3, 75, 0, 0) (some .int) Z b0 σ [.ref m] (fun v σ' => ((∃ ss : List (List px_W), px_C A.len A.ch 8 0 [] = some ss ∧ v = some (.int (nI ss.length)) ∧ mw σ' Z m (ab_ld A ss) 0) ∨ (px_C A.len A.ch 8 0 [] = none ∧ v = some (.int (nI 0)) ∧ mw σ' Z m A 1)) ∧ (∀ b, b < m ∨ m + 13 ≤ b → σ'.2 b = σ.2 b)) := by
  refine gw_M_of rfl (Nat.le_of_ble_eq_true rfl) ?_
  intro X hX hl hz hb0 hr hnm hQ
  subst hz hb0 hl
  have hX : gw_ok X nc_Mo_load "LabelLearnerModel" (4, 3, 75, 0, 0) := hX
  show gw_W X σ 0 0 0 [(0, .ref m)] []
  have fr : gw_fr σ σ m (m + 13) := gw_fr_rf _ _ _
  obtain ⟨h0, h1, h2, h3, h4, ⟨f5, h5⟩, ⟨f6, h6⟩, ⟨f7, h7⟩, h8, h9, ⟨f10, h10⟩, ⟨f11, h11⟩, ⟨f12, h12, hz12⟩⟩ := id hM
  have hl8 := hA.2.2.1
  have hsp6 := hA.2.2.2.2.1.2
  refine gw_aload_n hX nd_Mo_load_0 rfl 0 rfl ?_
  refine gw_iconst (v := nI 0) hX nd_Mo_load_1 rfl ?_
  refine gw_put hX kf_Mo_82 nd_Mo_load_2 h0 rfl rfl (Nat.le_of_ble_eq_true rfl) (e' := .inr (1, [.int th, .int (nI A.len), .ref (m + 1), .int (nI A.ss.length), .ref (m + 2), .ref (m + 3), .ref (m + 4), .int (nI 0), .ref (m + 5), .ref (m + 6), .ref (m + 7), .ref (m + 8), .ref (m + 9), .int (nI A.mk), .int (nI A.ps), .ref (m + 10), .ref (m + 11), .ref (m + 12), .long bs, .long s2, .int be, .int se, .int kp, .int kw])) rfl ?_
  obtain ⟨σ1, eσ1⟩ : ∃ hp_, hp_ = gw_up σ m (.inr (1, [.int th, .int (nI A.len), .ref (m + 1), .int (nI A.ss.length), .ref (m + 2), .ref (m + 3), .ref (m + 4), .int (nI 0), .ref (m + 5), .ref (m + 6), .ref (m + 7), .ref (m + 8), .ref (m + 9), .int (nI A.mk), .int (nI A.ps), .ref (m + 10), .ref (m + 11), .ref (m + 12), .long bs, .long s2, .int be, .int se, .int kp, .int kw])) := ⟨_, rfl⟩
  refine gw_heap eσ1.symm ?_
  have h0 : σ1.2 m = some (.inr (1, [.int th, .int (nI A.len), .ref (m + 1), .int (nI A.ss.length), .ref (m + 2), .ref (m + 3), .ref (m + 4), .int (nI 0), .ref (m + 5), .ref (m + 6), .ref (m + 7), .ref (m + 8), .ref (m + 9), .int (nI A.mk), .int (nI A.ps), .ref (m + 10), .ref (m + 11), .ref (m + 12), .long bs, .long s2, .int be, .int se, .int kp, .int kw])) := by rw [eσ1]; exact gw_up_eq _ _ _
  have h1 : σ1.2 (m + 1) = some ((gw_I (gw_z X) 240 (fun j => nI (A.ch j)))) := by rw [eσ1, gw_up_ne (by omega)]; exact h1
  have h2 : σ1.2 (m + 2) = some ((gw_I (gw_z X) 9 fm)) := by rw [eσ1, gw_up_ne (by omega)]; exact h2
  have h3 : σ1.2 (m + 3) = some ((gw_I (gw_z X) 162 fb)) := by rw [eσ1, gw_up_ne (by omega)]; exact h3
  have h4 : σ1.2 (m + 4) = some ((gw_I (gw_z X) 54 fl)) := by rw [eσ1, gw_up_ne (by omega)]; exact h4
  have h5 : σ1.2 (m + 5) = some ((gw_I (gw_z X) 9 f5)) := by rw [eσ1, gw_up_ne (by omega)]; exact h5
  have h6 : σ1.2 (m + 6) = some ((gw_I (gw_z X) 162 f6)) := by rw [eσ1, gw_up_ne (by omega)]; exact h6
  have h7 : σ1.2 (m + 7) = some ((gw_I (gw_z X) 54 f7)) := by rw [eσ1, gw_up_ne (by omega)]; exact h7
  have h8 : σ1.2 (m + 8) = some ((gw_J (gw_z X) 148 (fun j => iL (A.wt j)))) := by rw [eσ1, gw_up_ne (by omega)]; exact h8
  have h9 : σ1.2 (m + 9) = some ((gw_J (gw_z X) 148 (fun j => iL (A.tt j)))) := by rw [eσ1, gw_up_ne (by omega)]; exact h9
  have h10 : σ1.2 (m + 10) = some ((gw_J (gw_z X) 24 f10)) := by rw [eσ1, gw_up_ne (by omega)]; exact h10
  have h11 : σ1.2 (m + 11) = some ((gw_I (gw_z X) 6 f11)) := by rw [eσ1, gw_up_ne (by omega)]; exact h11
  have h12 : σ1.2 (m + 12) = some ((gw_J (gw_z X) 7 f12)) := by rw [eσ1, gw_up_ne (by omega)]; exact h12
  have fr : gw_fr σ σ1 m (m + 13) := gw_fr_tr fr (show gw_fr _ σ1 m (m + 13) by rw [eσ1]; exact gw_fr_up _ _ _ (by omega) (by omega))
  refine gw_iconst (v := nI 0) hX nd_Mo_load_5 rfl ?_
  refine gw_istore_n hX nd_Mo_load_6 rfl (by decide) (L' := [(1, .int (nI 0)), (0, .ref m)]) rfl ?_
  refine gw_iconst (v := nI 1) hX nd_Mo_load_7 rfl ?_
  refine gw_istore_n hX nd_Mo_load_8 rfl (by decide) (L' := [(2, .int (nI 1)), (1, .int (nI 0)), (0, .ref m)]) rfl ?_
  refine gw_cut (ks := [2, 1, 0]) (L' := [(0, .ref m), (1, .int (nI 0)), (2, .int (nI 1))]) rfl ?_
  exact lp_Mo_ldR m A hA f10 f12 f11 hz12 fm fb fl hO hX hQ hr 8 [] 0 _ f5 f6 f7 rfl rfl (by omega) (fun i ws hw => by simp at hw) h0 h1 h2 h3 h4 h5 h6 h7 h8 h9 h10 h11 h12 fr
set_option maxRecDepth 100000 in
set_option maxHeartbeats 4000000 in
theorem ct_Mo_speak (l : Launch) (Z : gw_Z) (b0 : Nat) (σ : gw_S) (m : Nat) (A : ab_A) (hA : ab_ok A) {th rs be se kp kw : Int32} {bs s2 : Int64} {fm fb fl : Nat → Int32} (hM : mw_at σ Z m A th rs be se kp kw bs s2 fm fb fl) (hO : mw_ok A kp kw fm fb fl) : gw_M l ny_Mo_speak nc_Mo_speak (2, 3, 75, 0, 0) (some .int) Z b0 σ [.ref m] (fun v σ' => ((∃ ws : List px_W, px_S A.len A.ch false 0 = some (A.len, ws) ∧ v = some (.int (nI ws.length)) ∧ mw σ' Z m (ab_sk A ws) 0) ∨ ((∀ ws : List px_W, px_S A.len A.ch false 0 ≠ some (A.len, ws)) ∧ v = some (.int (nI 0)) ∧ mw σ' Z m A 1)) ∧ (∀ b, b < m ∨ m + 13 ≤ b → σ'.2 b = σ.2 b)) := by
  refine gw_M_of rfl (Nat.le_of_ble_eq_true rfl) ?_
  intro X hX hl hz hb0 hr hnm hQ
  subst hz hb0 hl
  have hX : gw_ok X nc_Mo_speak "LabelLearnerModel" (2, 3, 75, 0, 0) := hX
  show gw_W X σ 0 0 0 [(0, .ref m)] []
  have fr : gw_fr σ σ m (m + 13) := gw_fr_rf _ _ _
  obtain ⟨h0, h1, h2, h3, h4, ⟨f5, h5⟩, ⟨f6, h6⟩, ⟨f7, h7⟩, h8, h9, ⟨f10, h10⟩, ⟨f11, h11⟩, ⟨f12, h12, hz12⟩⟩ := id hM
  have hl8 := hA.2.2.1
  have hsp6 := hA.2.2.2.2.1.2
  have hln := hA.1
  refine gw_aload_n hX nd_Mo_speak_0 rfl 0 rfl ?_
  refine gw_bipush (v := nI 8) hX nd_Mo_speak_1 rfl ?_
  refine gw_iconst (v := nI 0) hX nd_Mo_speak_3 rfl ?_
  refine gw_iconst (v := nI 0) hX nd_Mo_speak_4 rfl ?_
  refine gw_callV (rest := []) hX ks_Mo_85 (ct_Mo_readSentence_f _ _ _ σ m A.ch hln hA.2.1 f5 f6 f7 8 0 (by omega) (by omega) h0 h1 h5 h6 h7) h0 rfl rfl (Nat.le_of_ble_eq_true rfl) nd_Mo_speak_5 (by decide) ?_
  rintro v_ σ1 ⟨g5', g6', g7', h5, h6, h7, hf, hor⟩
  have h0 : σ1.2 m = some (.inr (1, [.int th, .int (nI A.len), .ref (m + 1), .int (nI A.ss.length), .ref (m + 2), .ref (m + 3), .ref (m + 4), .int rs, .ref (m + 5), .ref (m + 6), .ref (m + 7), .ref (m + 8), .ref (m + 9), .int (nI A.mk), .int (nI A.ps), .ref (m + 10), .ref (m + 11), .ref (m + 12), .long bs, .long s2, .int be, .int se, .int kp, .int kw])) := (hf.2 m (by omega)).trans h0
  have h1 : σ1.2 (m + 1) = some ((gw_I (gw_z X) 240 (fun j => nI (A.ch j)))) := (hf.2 (m + 1) (by omega)).trans h1
  have h2 : σ1.2 (m + 2) = some ((gw_I (gw_z X) 9 fm)) := (hf.2 (m + 2) (by omega)).trans h2
  have h3 : σ1.2 (m + 3) = some ((gw_I (gw_z X) 162 fb)) := (hf.2 (m + 3) (by omega)).trans h3
  have h4 : σ1.2 (m + 4) = some ((gw_I (gw_z X) 54 fl)) := (hf.2 (m + 4) (by omega)).trans h4
  have h8 : σ1.2 (m + 8) = some ((gw_J (gw_z X) 148 (fun j => iL (A.wt j)))) := (hf.2 (m + 8) (by omega)).trans h8
  have h9 : σ1.2 (m + 9) = some ((gw_J (gw_z X) 148 (fun j => iL (A.tt j)))) := (hf.2 (m + 9) (by omega)).trans h9
  have h10 : σ1.2 (m + 10) = some ((gw_J (gw_z X) 24 f10)) := (hf.2 (m + 10) (by omega)).trans h10
  have h11 : σ1.2 (m + 11) = some ((gw_I (gw_z X) 6 f11)) := (hf.2 (m + 11) (by omega)).trans h11
  have h12 : σ1.2 (m + 12) = some ((gw_J (gw_z X) 7 f12)) := (hf.2 (m + 12) (by omega)).trans h12
  have fr : gw_fr σ σ1 m (m + 13) := gw_fr_tr fr hf
  rcases hor with ⟨hno, rfl⟩ | ⟨e, ws, hR, hne, rfl, he, hw6, hmb, hml, hsm⟩
  · show gw_W X σ1 0 0 8 [(0, .ref m)] [.int ((-1))]
    have hRn : ∀ ws : List px_W, px_S A.len A.ch false 0 ≠ some (A.len, ws) := fun ws q => by rw [px_S_none hno] at q; cases q
    refine gw_istore_n hX nd_Mo_speak_8 rfl (by decide) (L' := [(1, .int ((-1))), (0, .ref m)]) rfl ?_
    refine gw_aload_n hX nd_Mo_speak_9 rfl 1 rfl ?_
    refine gw_iload_n hX nd_Mo_speak_10 rfl 0 rfl ?_
    refine gw_aload_n hX nd_Mo_speak_11 rfl 1 rfl ?_
    refine gw_get hX kf_Mo_56 nd_Mo_speak_12 h0 rfl ?_
    refine gw_icmp_ne (tgt := 26) hX nd_Mo_speak_15 rfl (fun hb => ?_) (fun hb => ?_)
    · skip
      refine gw_iconst (v := nI 1) hX nd_Mo_speak_26 rfl ?_
      refine gw_put hX kf_Mo_51 nd_Mo_speak_27 h0 rfl rfl (Nat.le_of_ble_eq_true rfl) (e' := .inr (1, [.int (nI 1), .int (nI A.len), .ref (m + 1), .int (nI A.ss.length), .ref (m + 2), .ref (m + 3), .ref (m + 4), .int rs, .ref (m + 5), .ref (m + 6), .ref (m + 7), .ref (m + 8), .ref (m + 9), .int (nI A.mk), .int (nI A.ps), .ref (m + 10), .ref (m + 11), .ref (m + 12), .long bs, .long s2, .int be, .int se, .int kp, .int kw])) rfl ?_
      obtain ⟨σ2, eσ2⟩ : ∃ hp_, hp_ = gw_up σ1 m (.inr (1, [.int (nI 1), .int (nI A.len), .ref (m + 1), .int (nI A.ss.length), .ref (m + 2), .ref (m + 3), .ref (m + 4), .int rs, .ref (m + 5), .ref (m + 6), .ref (m + 7), .ref (m + 8), .ref (m + 9), .int (nI A.mk), .int (nI A.ps), .ref (m + 10), .ref (m + 11), .ref (m + 12), .long bs, .long s2, .int be, .int se, .int kp, .int kw])) := ⟨_, rfl⟩
      refine gw_heap eσ2.symm ?_
      have h0 : σ2.2 m = some (.inr (1, [.int (nI 1), .int (nI A.len), .ref (m + 1), .int (nI A.ss.length), .ref (m + 2), .ref (m + 3), .ref (m + 4), .int rs, .ref (m + 5), .ref (m + 6), .ref (m + 7), .ref (m + 8), .ref (m + 9), .int (nI A.mk), .int (nI A.ps), .ref (m + 10), .ref (m + 11), .ref (m + 12), .long bs, .long s2, .int be, .int se, .int kp, .int kw])) := by rw [eσ2]; exact gw_up_eq _ _ _
      have h1 : σ2.2 (m + 1) = some ((gw_I (gw_z X) 240 (fun j => nI (A.ch j)))) := by rw [eσ2, gw_up_ne (by omega)]; exact h1
      have h2 : σ2.2 (m + 2) = some ((gw_I (gw_z X) 9 fm)) := by rw [eσ2, gw_up_ne (by omega)]; exact h2
      have h3 : σ2.2 (m + 3) = some ((gw_I (gw_z X) 162 fb)) := by rw [eσ2, gw_up_ne (by omega)]; exact h3
      have h4 : σ2.2 (m + 4) = some ((gw_I (gw_z X) 54 fl)) := by rw [eσ2, gw_up_ne (by omega)]; exact h4
      have h5 : σ2.2 (m + 5) = some ((gw_I (gw_z X) 9 g5')) := by rw [eσ2, gw_up_ne (by omega)]; exact h5
      have h6 : σ2.2 (m + 6) = some ((gw_I (gw_z X) 162 g6')) := by rw [eσ2, gw_up_ne (by omega)]; exact h6
      have h7 : σ2.2 (m + 7) = some ((gw_I (gw_z X) 54 g7')) := by rw [eσ2, gw_up_ne (by omega)]; exact h7
      have h8 : σ2.2 (m + 8) = some ((gw_J (gw_z X) 148 (fun j => iL (A.wt j)))) := by rw [eσ2, gw_up_ne (by omega)]; exact h8
      have h9 : σ2.2 (m + 9) = some ((gw_J (gw_z X) 148 (fun j => iL (A.tt j)))) := by rw [eσ2, gw_up_ne (by omega)]; exact h9
      have h10 : σ2.2 (m + 10) = some ((gw_J (gw_z X) 24 f10)) := by rw [eσ2, gw_up_ne (by omega)]; exact h10
      have h11 : σ2.2 (m + 11) = some ((gw_I (gw_z X) 6 f11)) := by rw [eσ2, gw_up_ne (by omega)]; exact h11
      have h12 : σ2.2 (m + 12) = some ((gw_J (gw_z X) 7 f12)) := by rw [eσ2, gw_up_ne (by omega)]; exact h12
      have fr : gw_fr σ σ2 m (m + 13) := gw_fr_tr fr (show gw_fr _ σ2 m (m + 13) by rw [eσ2]; exact gw_fr_up _ _ _ (by omega) (by omega))
      refine gw_aload_n hX nd_Mo_speak_30 rfl 1 rfl ?_
      refine gw_get hX kf_Mo_51 nd_Mo_speak_31 h0 rfl ?_
      refine gw_if_le (tgt := 39) hX nd_Mo_speak_34 rfl (fun hb => ?_) (fun hb => ?_)
      · have hb : 1 ≤ 0 := (nI_leI (a := 1) (b := 0) (by omega) (by omega)).mp hb
        exfalso; omega
      · have hb : ¬ 1 ≤ 0 := fun h => hb ((nI_leI (a := 1) (b := 0) (by omega) (by omega)).mpr h)
        refine gw_iconst (v := nI 0) hX nd_Mo_speak_37 rfl ?_
        exact gw_iret hX hQ hr nd_Mo_speak_38 (by decide) (by decide) ⟨Or.inr ⟨hRn, rfl, ⟨_, _, _, _, _, _, _, _, _, _, ⟨h0, h1, h2, h3, h4, ⟨_, h5⟩, ⟨_, h6⟩, ⟨_, h7⟩, h8, h9, ⟨_, h10⟩, ⟨_, h11⟩, ⟨_, h12, hz12⟩⟩, hO⟩⟩, (fun b hb9 => fr.2 b (by omega))⟩
    · skip
      exact absurd hb (ld_ne (by omega))
  · show gw_W X σ1 0 0 8 [(0, .ref m)] [.int (nI e)]
    have hS := px_S_some hR hne
    refine gw_istore_n hX nd_Mo_speak_8 rfl (by decide) (L' := [(1, .int (nI e)), (0, .ref m)]) rfl ?_
    refine gw_aload_n hX nd_Mo_speak_9 rfl 1 rfl ?_
    refine gw_iload_n hX nd_Mo_speak_10 rfl 0 rfl ?_
    refine gw_aload_n hX nd_Mo_speak_11 rfl 1 rfl ?_
    refine gw_get hX kf_Mo_56 nd_Mo_speak_12 h0 rfl ?_
    refine gw_icmp_ne (tgt := 26) hX nd_Mo_speak_15 rfl (fun hb => ?_) (fun hb => ?_)
    · have hb : ¬ e = A.len := fun h => hb ((nI_eq (a := e) (b := A.len) (by omega) (by omega)).mpr h)
      have hRn : ∀ ws : List px_W, px_S A.len A.ch false 0 ≠ some (A.len, ws) := fun ws q => by rw [hS] at q; cases q; exact hb rfl
      refine gw_iconst (v := nI 1) hX nd_Mo_speak_26 rfl ?_
      refine gw_put hX kf_Mo_51 nd_Mo_speak_27 h0 rfl rfl (Nat.le_of_ble_eq_true rfl) (e' := .inr (1, [.int (nI 1), .int (nI A.len), .ref (m + 1), .int (nI A.ss.length), .ref (m + 2), .ref (m + 3), .ref (m + 4), .int rs, .ref (m + 5), .ref (m + 6), .ref (m + 7), .ref (m + 8), .ref (m + 9), .int (nI A.mk), .int (nI A.ps), .ref (m + 10), .ref (m + 11), .ref (m + 12), .long bs, .long s2, .int be, .int se, .int kp, .int kw])) rfl ?_
      obtain ⟨σ3, eσ3⟩ : ∃ hp_, hp_ = gw_up σ1 m (.inr (1, [.int (nI 1), .int (nI A.len), .ref (m + 1), .int (nI A.ss.length), .ref (m + 2), .ref (m + 3), .ref (m + 4), .int rs, .ref (m + 5), .ref (m + 6), .ref (m + 7), .ref (m + 8), .ref (m + 9), .int (nI A.mk), .int (nI A.ps), .ref (m + 10), .ref (m + 11), .ref (m + 12), .long bs, .long s2, .int be, .int se, .int kp, .int kw])) := ⟨_, rfl⟩
      refine gw_heap eσ3.symm ?_
      have h0 : σ3.2 m = some (.inr (1, [.int (nI 1), .int (nI A.len), .ref (m + 1), .int (nI A.ss.length), .ref (m + 2), .ref (m + 3), .ref (m + 4), .int rs, .ref (m + 5), .ref (m + 6), .ref (m + 7), .ref (m + 8), .ref (m + 9), .int (nI A.mk), .int (nI A.ps), .ref (m + 10), .ref (m + 11), .ref (m + 12), .long bs, .long s2, .int be, .int se, .int kp, .int kw])) := by rw [eσ3]; exact gw_up_eq _ _ _
      have h1 : σ3.2 (m + 1) = some ((gw_I (gw_z X) 240 (fun j => nI (A.ch j)))) := by rw [eσ3, gw_up_ne (by omega)]; exact h1
      have h2 : σ3.2 (m + 2) = some ((gw_I (gw_z X) 9 fm)) := by rw [eσ3, gw_up_ne (by omega)]; exact h2
      have h3 : σ3.2 (m + 3) = some ((gw_I (gw_z X) 162 fb)) := by rw [eσ3, gw_up_ne (by omega)]; exact h3
      have h4 : σ3.2 (m + 4) = some ((gw_I (gw_z X) 54 fl)) := by rw [eσ3, gw_up_ne (by omega)]; exact h4
      have h5 : σ3.2 (m + 5) = some ((gw_I (gw_z X) 9 g5')) := by rw [eσ3, gw_up_ne (by omega)]; exact h5
      have h6 : σ3.2 (m + 6) = some ((gw_I (gw_z X) 162 g6')) := by rw [eσ3, gw_up_ne (by omega)]; exact h6
      have h7 : σ3.2 (m + 7) = some ((gw_I (gw_z X) 54 g7')) := by rw [eσ3, gw_up_ne (by omega)]; exact h7
      have h8 : σ3.2 (m + 8) = some ((gw_J (gw_z X) 148 (fun j => iL (A.wt j)))) := by rw [eσ3, gw_up_ne (by omega)]; exact h8
      have h9 : σ3.2 (m + 9) = some ((gw_J (gw_z X) 148 (fun j => iL (A.tt j)))) := by rw [eσ3, gw_up_ne (by omega)]; exact h9
      have h10 : σ3.2 (m + 10) = some ((gw_J (gw_z X) 24 f10)) := by rw [eσ3, gw_up_ne (by omega)]; exact h10
      have h11 : σ3.2 (m + 11) = some ((gw_I (gw_z X) 6 f11)) := by rw [eσ3, gw_up_ne (by omega)]; exact h11
      have h12 : σ3.2 (m + 12) = some ((gw_J (gw_z X) 7 f12)) := by rw [eσ3, gw_up_ne (by omega)]; exact h12
      have fr : gw_fr σ σ3 m (m + 13) := gw_fr_tr fr (show gw_fr _ σ3 m (m + 13) by rw [eσ3]; exact gw_fr_up _ _ _ (by omega) (by omega))
      refine gw_aload_n hX nd_Mo_speak_30 rfl 1 rfl ?_
      refine gw_get hX kf_Mo_51 nd_Mo_speak_31 h0 rfl ?_
      refine gw_if_le (tgt := 39) hX nd_Mo_speak_34 rfl (fun hb => ?_) (fun hb => ?_)
      · have hb : 1 ≤ 0 := (nI_leI (a := 1) (b := 0) (by omega) (by omega)).mp hb
        exfalso; omega
      · have hb : ¬ 1 ≤ 0 := fun h => hb ((nI_leI (a := 1) (b := 0) (by omega) (by omega)).mpr h)
        refine gw_iconst (v := nI 0) hX nd_Mo_speak_37 rfl ?_
        exact gw_iret hX hQ hr nd_Mo_speak_38 (by decide) (by decide) ⟨Or.inr ⟨hRn, rfl, ⟨_, _, _, _, _, _, _, _, _, _, ⟨h0, h1, h2, h3, h4, ⟨_, h5⟩, ⟨_, h6⟩, ⟨_, h7⟩, h8, h9, ⟨_, h10⟩, ⟨_, h11⟩, ⟨_, h12, hz12⟩⟩, hO⟩⟩, (fun b hb9 => fr.2 b (by omega))⟩
    · have hb : e = A.len := (nI_eq (a := e) (b := A.len) (by omega) (by omega)).mp hb
      have hee := hb
      refine gw_iload_n hX nd_Mo_speak_18 rfl 0 rfl ?_
      refine gw_if_lt (tgt := 26) hX nd_Mo_speak_19 rfl (fun hb => ?_) (fun hb => ?_)
      · have hb : e < 0 := (nI_ltI (a := e) (b := 0) (by omega) (by omega)).mp hb
        exfalso; omega
      · have hb : ¬ e < 0 := fun h => hb ((nI_ltI (a := e) (b := 0) (by omega) (by omega)).mpr h)
        refine gw_iconst (v := nI 0) hX nd_Mo_speak_22 rfl ?_
        refine gw_goto (tgt := 27) hX nd_Mo_speak_23 rfl ?_
        refine gw_put hX kf_Mo_51 nd_Mo_speak_27 h0 rfl rfl (Nat.le_of_ble_eq_true rfl) (e' := .inr (1, [.int (nI 0), .int (nI A.len), .ref (m + 1), .int (nI A.ss.length), .ref (m + 2), .ref (m + 3), .ref (m + 4), .int rs, .ref (m + 5), .ref (m + 6), .ref (m + 7), .ref (m + 8), .ref (m + 9), .int (nI A.mk), .int (nI A.ps), .ref (m + 10), .ref (m + 11), .ref (m + 12), .long bs, .long s2, .int be, .int se, .int kp, .int kw])) rfl ?_
        obtain ⟨σ4, eσ4⟩ : ∃ hp_, hp_ = gw_up σ1 m (.inr (1, [.int (nI 0), .int (nI A.len), .ref (m + 1), .int (nI A.ss.length), .ref (m + 2), .ref (m + 3), .ref (m + 4), .int rs, .ref (m + 5), .ref (m + 6), .ref (m + 7), .ref (m + 8), .ref (m + 9), .int (nI A.mk), .int (nI A.ps), .ref (m + 10), .ref (m + 11), .ref (m + 12), .long bs, .long s2, .int be, .int se, .int kp, .int kw])) := ⟨_, rfl⟩
        refine gw_heap eσ4.symm ?_
        have h0 : σ4.2 m = some (.inr (1, [.int (nI 0), .int (nI A.len), .ref (m + 1), .int (nI A.ss.length), .ref (m + 2), .ref (m + 3), .ref (m + 4), .int rs, .ref (m + 5), .ref (m + 6), .ref (m + 7), .ref (m + 8), .ref (m + 9), .int (nI A.mk), .int (nI A.ps), .ref (m + 10), .ref (m + 11), .ref (m + 12), .long bs, .long s2, .int be, .int se, .int kp, .int kw])) := by rw [eσ4]; exact gw_up_eq _ _ _
        have h1 : σ4.2 (m + 1) = some ((gw_I (gw_z X) 240 (fun j => nI (A.ch j)))) := by rw [eσ4, gw_up_ne (by omega)]; exact h1
        have h2 : σ4.2 (m + 2) = some ((gw_I (gw_z X) 9 fm)) := by rw [eσ4, gw_up_ne (by omega)]; exact h2
        have h3 : σ4.2 (m + 3) = some ((gw_I (gw_z X) 162 fb)) := by rw [eσ4, gw_up_ne (by omega)]; exact h3
        have h4 : σ4.2 (m + 4) = some ((gw_I (gw_z X) 54 fl)) := by rw [eσ4, gw_up_ne (by omega)]; exact h4
        have h5 : σ4.2 (m + 5) = some ((gw_I (gw_z X) 9 g5')) := by rw [eσ4, gw_up_ne (by omega)]; exact h5
        have h6 : σ4.2 (m + 6) = some ((gw_I (gw_z X) 162 g6')) := by rw [eσ4, gw_up_ne (by omega)]; exact h6
        have h7 : σ4.2 (m + 7) = some ((gw_I (gw_z X) 54 g7')) := by rw [eσ4, gw_up_ne (by omega)]; exact h7
        have h8 : σ4.2 (m + 8) = some ((gw_J (gw_z X) 148 (fun j => iL (A.wt j)))) := by rw [eσ4, gw_up_ne (by omega)]; exact h8
        have h9 : σ4.2 (m + 9) = some ((gw_J (gw_z X) 148 (fun j => iL (A.tt j)))) := by rw [eσ4, gw_up_ne (by omega)]; exact h9
        have h10 : σ4.2 (m + 10) = some ((gw_J (gw_z X) 24 f10)) := by rw [eσ4, gw_up_ne (by omega)]; exact h10
        have h11 : σ4.2 (m + 11) = some ((gw_I (gw_z X) 6 f11)) := by rw [eσ4, gw_up_ne (by omega)]; exact h11
        have h12 : σ4.2 (m + 12) = some ((gw_J (gw_z X) 7 f12)) := by rw [eσ4, gw_up_ne (by omega)]; exact h12
        have fr : gw_fr σ σ4 m (m + 13) := gw_fr_tr fr (show gw_fr _ σ4 m (m + 13) by rw [eσ4]; exact gw_fr_up _ _ _ (by omega) (by omega))
        refine gw_aload_n hX nd_Mo_speak_30 rfl 1 rfl ?_
        refine gw_get hX kf_Mo_51 nd_Mo_speak_31 h0 rfl ?_
        refine gw_if_le (tgt := 39) hX nd_Mo_speak_34 rfl (fun hb => ?_) (fun hb => ?_)
        · have hb : 0 ≤ 0 := (nI_leI (a := 0) (b := 0) (by omega) (by omega)).mp hb
          refine gw_aload_n hX nd_Mo_speak_39 rfl 1 rfl ?_
          refine gw_bipush (v := nI 8) hX nd_Mo_speak_40 rfl ?_
          refine gw_callV (rest := []) hX ks_Mo_92 (ct_Mo_take _ _ _ σ4 m fm fb fl g5' g6' g7' 8 (by omega) h0 h2 h3 h4 h5 h6 h7) h0 rfl rfl (Nat.le_of_ble_eq_true rfl) nd_Mo_speak_42 (by decide) ?_
          rintro _ σ5 ⟨rfl, h2, h3, h4, hf⟩
          have h0 : σ5.2 m = some (.inr (1, [.int (nI 0), .int (nI A.len), .ref (m + 1), .int (nI A.ss.length), .ref (m + 2), .ref (m + 3), .ref (m + 4), .int rs, .ref (m + 5), .ref (m + 6), .ref (m + 7), .ref (m + 8), .ref (m + 9), .int (nI A.mk), .int (nI A.ps), .ref (m + 10), .ref (m + 11), .ref (m + 12), .long bs, .long s2, .int be, .int se, .int kp, .int kw])) := (hf.2 m (by omega)).trans h0
          have h1 : σ5.2 (m + 1) = some ((gw_I (gw_z X) 240 (fun j => nI (A.ch j)))) := (hf.2 (m + 1) (by omega)).trans h1
          have h5 : σ5.2 (m + 5) = some ((gw_I (gw_z X) 9 g5')) := (hf.2 (m + 5) (by omega)).trans h5
          have h6 : σ5.2 (m + 6) = some ((gw_I (gw_z X) 162 g6')) := (hf.2 (m + 6) (by omega)).trans h6
          have h7 : σ5.2 (m + 7) = some ((gw_I (gw_z X) 54 g7')) := (hf.2 (m + 7) (by omega)).trans h7
          have h8 : σ5.2 (m + 8) = some ((gw_J (gw_z X) 148 (fun j => iL (A.wt j)))) := (hf.2 (m + 8) (by omega)).trans h8
          have h9 : σ5.2 (m + 9) = some ((gw_J (gw_z X) 148 (fun j => iL (A.tt j)))) := (hf.2 (m + 9) (by omega)).trans h9
          have h10 : σ5.2 (m + 10) = some ((gw_J (gw_z X) 24 f10)) := (hf.2 (m + 10) (by omega)).trans h10
          have h11 : σ5.2 (m + 11) = some ((gw_I (gw_z X) 6 f11)) := (hf.2 (m + 11) (by omega)).trans h11
          have h12 : σ5.2 (m + 12) = some ((gw_J (gw_z X) 7 f12)) := (hf.2 (m + 12) (by omega)).trans h12
          have fr : gw_fr σ σ5 m (m + 13) := gw_fr_tr fr hf
          show gw_W X σ5 0 0 45 [(1, .int (nI e)), (0, .ref m)] []
          refine gw_aload_n hX nd_Mo_speak_45 rfl 1 rfl ?_
          refine gw_iconst (v := nI 0) hX nd_Mo_speak_46 rfl ?_
          refine gw_put hX kf_Mo_56 nd_Mo_speak_47 h0 rfl rfl (Nat.le_of_ble_eq_true rfl) (e' := .inr (1, [.int (nI 0), .int (nI 0), .ref (m + 1), .int (nI A.ss.length), .ref (m + 2), .ref (m + 3), .ref (m + 4), .int rs, .ref (m + 5), .ref (m + 6), .ref (m + 7), .ref (m + 8), .ref (m + 9), .int (nI A.mk), .int (nI A.ps), .ref (m + 10), .ref (m + 11), .ref (m + 12), .long bs, .long s2, .int be, .int se, .int kp, .int kw])) rfl ?_
          obtain ⟨σ6, eσ6⟩ : ∃ hp_, hp_ = gw_up σ5 m (.inr (1, [.int (nI 0), .int (nI 0), .ref (m + 1), .int (nI A.ss.length), .ref (m + 2), .ref (m + 3), .ref (m + 4), .int rs, .ref (m + 5), .ref (m + 6), .ref (m + 7), .ref (m + 8), .ref (m + 9), .int (nI A.mk), .int (nI A.ps), .ref (m + 10), .ref (m + 11), .ref (m + 12), .long bs, .long s2, .int be, .int se, .int kp, .int kw])) := ⟨_, rfl⟩
          refine gw_heap eσ6.symm ?_
          have h0 : σ6.2 m = some (.inr (1, [.int (nI 0), .int (nI 0), .ref (m + 1), .int (nI A.ss.length), .ref (m + 2), .ref (m + 3), .ref (m + 4), .int rs, .ref (m + 5), .ref (m + 6), .ref (m + 7), .ref (m + 8), .ref (m + 9), .int (nI A.mk), .int (nI A.ps), .ref (m + 10), .ref (m + 11), .ref (m + 12), .long bs, .long s2, .int be, .int se, .int kp, .int kw])) := by rw [eσ6]; exact gw_up_eq _ _ _
          have h1 : σ6.2 (m + 1) = some ((gw_I (gw_z X) 240 (fun j => nI (A.ch j)))) := by rw [eσ6, gw_up_ne (by omega)]; exact h1
          have h2 : σ6.2 (m + 2) = some ((gw_I (gw_z X) 9 (upd fm 8 (g5' 8)))) := by rw [eσ6, gw_up_ne (by omega)]; exact h2
          have h3 : σ6.2 (m + 3) = some ((gw_I (gw_z X) 162 (cp_f fb g6' (18 * 8) (18 * 8 + 18)))) := by rw [eσ6, gw_up_ne (by omega)]; exact h3
          have h4 : σ6.2 (m + 4) = some ((gw_I (gw_z X) 54 (cp_f fl g7' (6 * 8) (6 * 8 + 6)))) := by rw [eσ6, gw_up_ne (by omega)]; exact h4
          have h5 : σ6.2 (m + 5) = some ((gw_I (gw_z X) 9 g5')) := by rw [eσ6, gw_up_ne (by omega)]; exact h5
          have h6 : σ6.2 (m + 6) = some ((gw_I (gw_z X) 162 g6')) := by rw [eσ6, gw_up_ne (by omega)]; exact h6
          have h7 : σ6.2 (m + 7) = some ((gw_I (gw_z X) 54 g7')) := by rw [eσ6, gw_up_ne (by omega)]; exact h7
          have h8 : σ6.2 (m + 8) = some ((gw_J (gw_z X) 148 (fun j => iL (A.wt j)))) := by rw [eσ6, gw_up_ne (by omega)]; exact h8
          have h9 : σ6.2 (m + 9) = some ((gw_J (gw_z X) 148 (fun j => iL (A.tt j)))) := by rw [eσ6, gw_up_ne (by omega)]; exact h9
          have h10 : σ6.2 (m + 10) = some ((gw_J (gw_z X) 24 f10)) := by rw [eσ6, gw_up_ne (by omega)]; exact h10
          have h11 : σ6.2 (m + 11) = some ((gw_I (gw_z X) 6 f11)) := by rw [eσ6, gw_up_ne (by omega)]; exact h11
          have h12 : σ6.2 (m + 12) = some ((gw_J (gw_z X) 7 f12)) := by rw [eσ6, gw_up_ne (by omega)]; exact h12
          have fr : gw_fr σ σ6 m (m + 13) := gw_fr_tr fr (show gw_fr _ σ6 m (m + 13) by rw [eσ6]; exact gw_fr_up _ _ _ (by omega) (by omega))
          refine gw_aload_n hX nd_Mo_speak_50 rfl 1 rfl ?_
          refine gw_iconst (v := (-1)) hX nd_Mo_speak_51 rfl ?_
          refine gw_put hX kf_Mo_47 nd_Mo_speak_52 h0 rfl rfl (Nat.le_of_ble_eq_true rfl) (e' := .inr (1, [.int (nI 0), .int (nI 0), .ref (m + 1), .int (nI A.ss.length), .ref (m + 2), .ref (m + 3), .ref (m + 4), .int rs, .ref (m + 5), .ref (m + 6), .ref (m + 7), .ref (m + 8), .ref (m + 9), .int (nI A.mk), .int (nI A.ps), .ref (m + 10), .ref (m + 11), .ref (m + 12), .long bs, .long s2, .int be, .int se, .int ((-1)), .int kw])) rfl ?_
          obtain ⟨σ7, eσ7⟩ : ∃ hp_, hp_ = gw_up σ6 m (.inr (1, [.int (nI 0), .int (nI 0), .ref (m + 1), .int (nI A.ss.length), .ref (m + 2), .ref (m + 3), .ref (m + 4), .int rs, .ref (m + 5), .ref (m + 6), .ref (m + 7), .ref (m + 8), .ref (m + 9), .int (nI A.mk), .int (nI A.ps), .ref (m + 10), .ref (m + 11), .ref (m + 12), .long bs, .long s2, .int be, .int se, .int ((-1)), .int kw])) := ⟨_, rfl⟩
          refine gw_heap eσ7.symm ?_
          have h0 : σ7.2 m = some (.inr (1, [.int (nI 0), .int (nI 0), .ref (m + 1), .int (nI A.ss.length), .ref (m + 2), .ref (m + 3), .ref (m + 4), .int rs, .ref (m + 5), .ref (m + 6), .ref (m + 7), .ref (m + 8), .ref (m + 9), .int (nI A.mk), .int (nI A.ps), .ref (m + 10), .ref (m + 11), .ref (m + 12), .long bs, .long s2, .int be, .int se, .int ((-1)), .int kw])) := by rw [eσ7]; exact gw_up_eq _ _ _
          have h1 : σ7.2 (m + 1) = some ((gw_I (gw_z X) 240 (fun j => nI (A.ch j)))) := by rw [eσ7, gw_up_ne (by omega)]; exact h1
          have h2 : σ7.2 (m + 2) = some ((gw_I (gw_z X) 9 (upd fm 8 (g5' 8)))) := by rw [eσ7, gw_up_ne (by omega)]; exact h2
          have h3 : σ7.2 (m + 3) = some ((gw_I (gw_z X) 162 (cp_f fb g6' (18 * 8) (18 * 8 + 18)))) := by rw [eσ7, gw_up_ne (by omega)]; exact h3
          have h4 : σ7.2 (m + 4) = some ((gw_I (gw_z X) 54 (cp_f fl g7' (6 * 8) (6 * 8 + 6)))) := by rw [eσ7, gw_up_ne (by omega)]; exact h4
          have h5 : σ7.2 (m + 5) = some ((gw_I (gw_z X) 9 g5')) := by rw [eσ7, gw_up_ne (by omega)]; exact h5
          have h6 : σ7.2 (m + 6) = some ((gw_I (gw_z X) 162 g6')) := by rw [eσ7, gw_up_ne (by omega)]; exact h6
          have h7 : σ7.2 (m + 7) = some ((gw_I (gw_z X) 54 g7')) := by rw [eσ7, gw_up_ne (by omega)]; exact h7
          have h8 : σ7.2 (m + 8) = some ((gw_J (gw_z X) 148 (fun j => iL (A.wt j)))) := by rw [eσ7, gw_up_ne (by omega)]; exact h8
          have h9 : σ7.2 (m + 9) = some ((gw_J (gw_z X) 148 (fun j => iL (A.tt j)))) := by rw [eσ7, gw_up_ne (by omega)]; exact h9
          have h10 : σ7.2 (m + 10) = some ((gw_J (gw_z X) 24 f10)) := by rw [eσ7, gw_up_ne (by omega)]; exact h10
          have h11 : σ7.2 (m + 11) = some ((gw_I (gw_z X) 6 f11)) := by rw [eσ7, gw_up_ne (by omega)]; exact h11
          have h12 : σ7.2 (m + 12) = some ((gw_J (gw_z X) 7 f12)) := by rw [eσ7, gw_up_ne (by omega)]; exact h12
          have fr : gw_fr σ σ7 m (m + 13) := gw_fr_tr fr (show gw_fr _ σ7 m (m + 13) by rw [eσ7]; exact gw_fr_up _ _ _ (by omega) (by omega))
          refine gw_aload_n hX nd_Mo_speak_55 rfl 1 rfl ?_
          refine gw_get hX kf_Mo_13 nd_Mo_speak_56 h0 rfl ?_
          refine gw_bipush (v := nI 8) hX nd_Mo_speak_59 rfl ?_
          refine gw_iald hX nd_Mo_speak_61 h2 8 rfl (by omega) (by decide) ?_
          refine gw_topi (y := nI ws.length) ((if_pos rfl : upd fm 8 (g5' 8) 8 = _).trans hmb.1) ?_
          have hT : mw_ok (ab_sk A ws) (-1) kw (upd fm 8 (g5' 8)) (cp_f fb g6' (18 * 8) (18 * 8 + 18)) (cp_f fl g7' (6 * 8) (6 * 8 + 6)) := ⟨fun i9 ws9 h9 => (have hg := hO.1 i9 ws9 h9; have hi8 : i9 < A.ss.length := (List.getElem?_eq_some_iff.mp h9).1; have hl6 := (hA.2.2.2.1 ws9 (List.mem_of_getElem? h9)).1.2; ⟨tk_old hg.1 hl6 (by omega), tl_old hg.2 hl6 (by omega)⟩), tk_new hmb hw6, fun _ => rfl, fun q9 => absurd rfl q9⟩
          exact gw_iret hX hQ hr nd_Mo_speak_62 (by decide) (by decide) ⟨Or.inl ⟨ws, by rw [hS, hee], rfl, ⟨_, _, _, _, _, _, _, _, _, _, ⟨h0, h1, h2, h3, h4, ⟨_, h5⟩, ⟨_, h6⟩, ⟨_, h7⟩, h8, h9, ⟨_, h10⟩, ⟨_, h11⟩, ⟨_, h12, hz12⟩⟩, hT⟩⟩, (fun b hb9 => fr.2 b (by omega))⟩
        · have hb : ¬ 0 ≤ 0 := fun h => hb ((nI_leI (a := 0) (b := 0) (by omega) (by omega)).mpr h)
          exfalso; omega
