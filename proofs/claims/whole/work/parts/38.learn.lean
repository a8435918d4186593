def ab_lk (A : ab_A) (x : Int32) : Nat := if x < nI 1 ∨ nI 6 < x then 1 else if A.ss.length = 0 then 2 else 0
def ab_learn (A : ab_A) (x : Int32) : Nat × ab_A := ab_loop (x.toNatClampNeg - 1) (ab_pass A)
theorem ab_loop_s {k : Nat} {p : Nat × ab_A} (h : p.1 ≠ 0) : ab_loop (k + 1) p = ab_loop k (ab_pass p.2) := by
  rw [ab_loop, if_neg h]
theorem ab_loop_e {k : Nat} {p : Nat × ab_A} (h : p.1 = 0) : ab_loop k p = p := by
  cases k with
  | zero => rfl
  | succ k => rw [ab_loop, if_pos h]
/-- typed; cut; loaded; spoken -/
def ab_tx (A : ab_A) (len : Nat) (ch : Nat → Nat) : ab_A := ((len, ch), A.2)
def ab_t (A : ab_A) (w : Int64) (x : Int32) (v : Nat) (A' : ab_A) : Prop := (ap_ok A.len w x ∧ v = 1 ∧ A' = ab_tx A (A.len + x.toNatClampNeg) (ap_ch A.len w x.toNatClampNeg A.ch)) ∨ (¬ ap_ok A.len w x ∧ v = 0 ∧ A' = A)
def ab_c (A : ab_A) (x : Int32) (v : Nat) (A' : ab_A) : Prop := (∃ c, x = nI c ∧ c ≤ A.len ∧ v = 1 ∧ A' = ab_tx A c A.ch) ∨ ((∀ c, c ≤ A.len → x ≠ nI c) ∧ v = 0 ∧ A' = A)
def ab_ld (A : ab_A) (ss : List (List px_W)) : ab_A := ((0, A.ch), (ss, A.sp), (fun _ => 0, fun _ => 0), (0, 0), (0, 0))
def ab_sk (A : ab_A) (ws : List px_W) : ab_A := ((0, A.ch), (A.ss, ws), A.2.2.1, A.2.2.2.1, (0, 0))
theorem cw_text {σ σ' : gw_S} {Z : gw_Z} {n c cd s sd : Nat} {A : ab_A} {len k : Nat} {ch : Nat → Nat} (hl : A.ss.length ≤ 8) (h : cw_at σ Z n A c cd s sd) (f : gw_fr σ σ' (n + 1) (n + 3)) (hk : k ≤ 240) (ht : tx_at σ' Z (n + 1) len k ch) : cw_at σ' Z n (ab_tx A len ch) c cd s sd := by
  obtain ⟨hsw, h0, -, hde, hwe, hte, hrc, hrd, hsp, hsd⟩ := h
  obtain ⟨sw1, sw2⟩ := id hsw
  exact ⟨hsw, (f.2 _ (by omega)).trans h0, ⟨k, hk, ht⟩, de_at_fr hde f (by omega), we_at_fr hwe f (by omega), we_at_fr hte f (by omega), rc_at_fr hl hrc f (by omega), rc_any_fr hrd f (by omega), se_at_fr hsp f (by omega), se_any_fr hsd f (by omega)⟩
theorem ab_tx_self (A : ab_A) : ab_tx A A.len A.ch = A := rfl
/-- behind a reading that went wrong -/
theorem cw_badC {σ σ' : gw_S} {Z : gw_Z} {n c cd s sd : Nat} {A : ab_A} (hl : A.ss.length ≤ 8) (h : cw_at σ Z n A c cd s sd) (f : gw_f2 σ σ' (n + 1) (n + 3) cd (cd + 18)) (ht : ∃ k, k ≤ 240 ∧ tx_at σ' Z (n + 1) A.len k A.ch) (hd : rc_any σ' Z cd) : cw_at σ' Z n A c cd s sd := by
  obtain ⟨hsw, h0, -, hde, hwe, hte, hrc, hrd, hsp, hsd⟩ := h
  obtain ⟨sw1, sw2⟩ := id hsw
  exact ⟨hsw, (f.2 _ (by omega) (by omega)).trans h0, ht, de_at_f2 hde f (by omega) (by omega), we_at_f2 hwe f (by omega) (by omega), we_at_f2 hte f (by omega) (by omega), rc_at_f2 hl hrc f (by omega) (by omega), hd, se_at_f2 hsp f (by omega) (by omega), se_any_f2 hsd f (by omega) (by omega)⟩
theorem cw_badS {σ σ' : gw_S} {Z : gw_Z} {n c cd s sd : Nat} {A : ab_A} (hl : A.ss.length ≤ 8) (h : cw_at σ Z n A c cd s sd) (f : gw_f2 σ σ' (n + 1) (n + 3) sd (sd + 2)) (ht : ∃ k, k ≤ 240 ∧ tx_at σ' Z (n + 1) A.len k A.ch) (hd : se_any σ' Z sd) : cw_at σ' Z n A c cd s sd := by
  obtain ⟨hsw, h0, -, hde, hwe, hte, hrc, hrd, hsp, hsd⟩ := h
  obtain ⟨sw1, sw2⟩ := id hsw
  exact ⟨hsw, (f.2 _ (by omega) (by omega)).trans h0, ht, de_at_f2 hde f (by omega) (by omega), we_at_f2 hwe f (by omega) (by omega), we_at_f2 hte f (by omega) (by omega), rc_at_f2 hl hrc f (by omega) (by omega), rc_any_f2 hrd f (by omega) (by omega), se_at_f2 hsp f (by omega) (by omega), hd⟩
theorem ab_pass_le {A : ab_A} (h : ab_ok A) : (ab_pass A).1 ≤ 8 := by
  have h1 := ab_run_le A A.ss.length (Nat.le_refl _)
  have h2 := h.2.2.1
  show (ab_run A A.ss.length).1 ≤ 8
  omega
theorem ab_learn_x {A : ab_A} {x : Nat} (h1 : 1 ≤ x) (h2 : x ≤ 6) : ab_learn A (nI x) = ab_loop (x - 1) (ab_pass A) := by
  unfold ab_learn
  rw [nI_clamp (by omega)]
theorem ab_lk_0 {A : ab_A} {x : Nat} (h1 : 1 ≤ x) (h2 : x ≤ 6) (h : A.ss.length ≠ 0) : ab_lk A (nI x) = 0 := by
  unfold ab_lk
  rw [if_neg, if_neg h]
  rintro (h3 | h3)
  · have := (nI_ltI (a := x) (b := 1) (by omega) (by omega)).mp h3; omega
  · have := (nI_ltI (a := 6) (b := x) (by omega) (by omega)).mp h3; omega
theorem ab_lk_2 {A : ab_A} {x : Nat} (h1 : 1 ≤ x) (h2 : x ≤ 6) (h : A.ss.length = 0) : ab_lk A (nI x) = 2 := by
  unfold ab_lk
  rw [if_neg, if_pos h]
  rintro (h3 | h3)
  · have := (nI_ltI (a := x) (b := 1) (by omega) (by omega)).mp h3; omega
  · have := (nI_ltI (a := 6) (b := x) (by omega) (by omega)).mp h3; omega
theorem ab_lk_1 {A : ab_A} {x : Int32} (h : x < nI 1 ∨ nI 6 < x) : ab_lk A x = 1 := by unfold ab_lk; rw [if_pos h]
theorem lk_of {x : Int32} (h1 : ¬ x < nI 1) (h2 : ¬ nI 6 < x) : ∃ k, (1 ≤ k ∧ k ≤ 6) ∧ x = nI k := by
  obtain ⟨c, h3, h4, rfl⟩ := ap_of h1 (fun h => h2 (by
    rw [Int32.lt_iff_toInt_lt] at h ⊢
    have e1 : (nI 8).toInt = 8 := by decide
    have e2 : (nI 6).toInt = 6 := by decide
    omega))
  refine ⟨c, ⟨h3, ?_⟩, rfl⟩
  by_cases h5 : c ≤ 6
  · exact h5
  · exact absurd ((nI_ltI (by omega) (by omega)).mpr (by omega)) h2
set_option maxRecDepth 100000 in
set_option maxHeartbeats 4000000 in
theorem lp_LL_learn {X : gw_C} (n c cd s sd : Nat) (A : ab_A) (hA : ab_ok A) (N : Nat) (hbd : ab_bd A N) (hN : N + 48 ≤ 100000) (x : Nat) (hx1 : 1 ≤ x) (hx6 : x ≤ 6) (hss : A.ss.length ≠ 0) {σ0 : gw_S} (hX : gw_ok X nc_LL_learn "LabelLearner" (4, 6, 146, 1, 6)) (hE : gx_ok X) (hl0 : X.1.2.1.stackTraces = false) (hQ : X.2.2.2.2 = gx_end X (fun v σ' => ab_lk A (nI x) = 0 ∧ v = some (.int (nI (ab_learn A (nI x)).1)) ∧ cw_at σ' (gw_z X) n (ab_learn A (nI x)).2 c cd s sd ∧ gw_f2 σ0 σ' n (n + 1) (n + 5) (n + 84)) (fun E σ' => (E = gx_IA ∧ ab_lk A (nI x) = 1 ∨ E = gx_IS ∧ ab_lk A (nI x) = 2) ∧ σ' = (σ0.1 + 1, σ0.2)) 1 6) (hr : X.2.2.1.1.sig.returnType = (some .int)) : ∀ (m : Nat) (k wr : Nat) (B : ab_A) (σ : gw_S), ab_loop (x - k) (wr, B) = ab_loop (x - 1) (ab_pass A) → (1 ≤ k ∧ k + m = x) → wr ≤ 8 → ab_bd B (N + 8 * k) → ab_eq A B → cw_at σ (gw_z X) n B c cd s sd → gw_f2 σ0 σ n (n + 1) (n + 5) (n + 84) → gw_W X σ 0 0 48 [(0, .ref n), (1, .int (nI x)), (2, .int (nI wr)), (3, .int (nI k))] [] := by
  intro m
  induction m using Nat.strongRecOn with
  | ind m ih =>
    intro k wr B σ
    intro hlp hkm hwr hbB hBq hC fr
    have hB : ab_ok B := ab_eq_ok hBq hA
    obtain ⟨hsw, h0, ⟨kt, hkt, htx⟩, hde, hwe, hte, hrc, hrd, hsp, hsd⟩ := id hC
    refine gw_iload_n hX nd_LL_learn_48 rfl 3 rfl ?_
    refine gw_iload_n hX nd_LL_learn_49 rfl 1 rfl ?_
    refine gw_icmp_ge (tgt := 68) hX nd_LL_learn_50 rfl (fun hb => ?_) (fun hb => ?_)
    · have hb : x ≤ k := (nI_leI (a := x) (b := k) (by omega) (by omega)).mp hb
      refine gw_iload_n hX nd_LL_learn_68 rfl 2 rfl ?_
      exact gx_iret hX hQ hr nd_LL_learn_69 (by decide) (by decide) ⟨ab_lk_0 hx1 hx6 hss, by rw [ab_learn_x hx1 hx6, ← hlp, show x - k = 0 by omega, show ab_loop 0 (wr, B) = (wr, B) from rfl], by rw [ab_learn_x hx1 hx6, ← hlp, show x - k = 0 by omega, show ab_loop 0 (wr, B) = (wr, B) from rfl]; exact hC, fr⟩
    · have hb : ¬ x ≤ k := fun h => hb ((nI_leI (a := x) (b := k) (by omega) (by omega)).mpr h)
      have hkx := hb
      refine gw_iload_n hX nd_LL_learn_53 rfl 2 rfl ?_
      refine gw_if_le (tgt := 68) hX nd_LL_learn_54 rfl (fun hb => ?_) (fun hb => ?_)
      · have hb : wr ≤ 0 := (nI_leI (a := wr) (b := 0) (by omega) (by omega)).mp hb
        refine gw_iload_n hX nd_LL_learn_68 rfl 2 rfl ?_
        have hz : wr = 0 := by omega
        exact gx_iret hX hQ hr nd_LL_learn_69 (by decide) (by decide) ⟨ab_lk_0 hx1 hx6 hss, by rw [ab_learn_x hx1 hx6, ← hlp, ab_loop_e hz], by rw [ab_learn_x hx1 hx6, ← hlp, ab_loop_e hz]; exact hC, fr⟩
      · have hb : ¬ wr ≤ 0 := fun h => hb ((nI_leI (a := wr) (b := 0) (by omega) (by omega)).mpr h)
        have hnz := hb
        refine gw_aload_n hX nd_LL_learn_57 rfl 0 rfl ?_
        refine gw_callV (rest := []) hX ks_LL_127 (ct_LL_learnCorpus _ _ _ σ n c cd s sd B hB (N + 8 * k) hbB (by omega) hC) h0 rfl rfl (Nat.le_of_ble_eq_true rfl) nd_LL_learn_58 (by decide) ?_
        rintro _ σ1 ⟨rfl, hC1, hf⟩
        have fr : gw_f2 σ0 σ1 n (n + 1) (n + 5) (n + 84) := gw_f2_tr fr hf
        show gw_W X σ1 0 0 61 [(0, .ref n), (1, .int (nI x)), (2, .int (nI wr)), (3, .int (nI k))] [.int (nI ((ab_pass B).1))]
        refine gw_istore_n hX nd_LL_learn_61 rfl (by decide) (L' := [(2, .int (nI ((ab_pass B).1))), (0, .ref n), (1, .int (nI x)), (3, .int (nI k))]) rfl ?_
        refine gw_iinc hX nd_LL_learn_62 3 rfl (v := nI (k + 1)) (show nI k + nI 1 = nI (k + 1) from nI_add _ _) (by decide) (L' := [(3, .int (nI (k + 1))), (2, .int (nI ((ab_pass B).1))), (0, .ref n), (1, .int (nI x))]) rfl ?_
        refine gw_goto (tgt := 48) hX nd_LL_learn_65 rfl ?_
        refine gw_cut (ks := [2, 3, 1, 0]) (L' := [(0, .ref n), (1, .int (nI x)), (2, .int (nI ((ab_pass B).1))), (3, .int (nI (k + 1)))]) rfl ?_
        exact ih (m - 1) (by omega) (k + 1) _ (ab_pass B).2 _ (by rw [← hlp, show x - k = (x - (k + 1)) + 1 by omega, ab_loop_s (show (wr, B).1 ≠ 0 by show wr ≠ 0; omega)]) (by omega) (ab_pass_le hB) (ab_bd_mono (ab_bd_pass hbB hB) (by omega)) (ab_eq_tr hBq (ab_eq_pass B)) hC1 fr
set_option maxRecDepth 100000 in
set_option maxHeartbeats 4000000 in
theorem ct_LL_learn (l : Launch) (hl0 : l.stackTraces = false) (Z : gw_Z) (b0 : Nat) (σ : gw_S) (n c cd s sd : Nat) (A : ab_A) (hA : ab_ok A) (N : Nat) (hbd : ab_bd A N) (hN : N + 48 ≤ 100000) (hC : cw_at σ Z n A c cd s sd) (x : Int32) : gx_M l ny_LL_learn nc_LL_learn (4, 6, 146, 1, 6) (some .int) Z b0 σ [.ref n, .int x] (fun v σ' => ab_lk A x = 0 ∧ v = some (.int (nI (ab_learn A x).1)) ∧ cw_at σ' Z n (ab_learn A x).2 c cd s sd ∧ gw_f2 σ σ' n (n + 1) (n + 5) (n + 84)) (fun E σ' => (E = gx_IA ∧ ab_lk A x = 1 ∨ E = gx_IS ∧ ab_lk A x = 2) ∧ σ' = (σ.1 + 1, σ.2)) := by
  refine gx_M_of rfl (Nat.le_of_ble_eq_true rfl) hl0 ?_
  intro X hX hl hz hb0 hr hnm hQ hE
  subst hz hb0 hl
  have hX : gw_ok X nc_LL_learn "LabelLearner" (4, 6, 146, 1, 6) := hX
  show gw_W X σ 0 0 0 [(0, .ref n), (1, .int x)] []
  obtain ⟨hsw, h0, ⟨kt, hkt, htx⟩, hde, hwe, hte, hrc, hrd, hsp, hsd⟩ := id hC
  obtain ⟨sw1, sw2⟩ := id hsw
  obtain ⟨c0, c1, c2, c3⟩ := id hrc
  obtain ⟨bsp, s0, s1, hbsp⟩ := id hsp
  have hl8 := hA.2.2.1
  have hsl := hA.2.2.2.2.1.2
  refine gw_iload_n hX nd_LL_learn_0 rfl 1 rfl ?_
  refine gw_iconst (v := nI 1) hX nd_LL_learn_1 rfl ?_
  refine gw_icmp_lt (tgt := 11) hX nd_LL_learn_2 rfl (fun hb => ?_) (fun hb => ?_)
  · skip
    exact gx_throw (tx := "passes are 1 to 6") hX hE hQ gx_sIA (by decide +kernel) nd_LL_learn_11 nd_LL_learn_14 nd_LL_learn_15 nd_LL_learn_17 nd_LL_learn_20 (by decide) (by decide) (by decide) (by decide) (by decide) (by decide) ⟨Or.inl ⟨rfl, ab_lk_1 (Or.inl hb)⟩, rfl⟩
  · skip
    have hb1 := hb
    refine gw_iload_n hX nd_LL_learn_5 rfl 1 rfl ?_
    refine gw_bipush (v := nI 6) hX nd_LL_learn_6 rfl ?_
    refine gw_icmp_le (tgt := 21) hX nd_LL_learn_8 rfl (fun hb => ?_) (fun hb => ?_)
    · skip
      obtain ⟨k, ⟨hk1, hk6⟩, rfl⟩ := lk_of hb1 (Int32.not_lt.mpr hb)
      refine gw_aload_n hX nd_LL_learn_21 rfl 0 rfl ?_
      refine gw_get hX kf_LL_36 nd_LL_learn_22 h0 rfl ?_
      refine gw_get hX kf_LL_85 nd_LL_learn_25 c0 rfl ?_
      refine gw_if_ne (tgt := 41) hX nd_LL_learn_28 rfl (fun hb => ?_) (fun hb => ?_)
      · have hb : ¬ A.ss.length = 0 := fun h => hb ((nI_eq (a := A.ss.length) (b := 0) (by omega) (by omega)).mpr h)
        have hss := hb
        refine gw_aload_n hX nd_LL_learn_41 rfl 0 rfl ?_
        refine gw_callV (rest := []) hX ks_LL_127 (ct_LL_learnCorpus _ _ _ σ n c cd s sd A hA N hbd (by omega) hC) h0 rfl rfl (Nat.le_of_ble_eq_true rfl) nd_LL_learn_42 (by decide) ?_
        rintro _ σ1 ⟨rfl, hC1, hf⟩
        show gw_W X σ1 0 0 45 [(0, .ref n), (1, .int (nI k))] [.int (nI ((ab_pass A).1))]
        refine gw_istore_n hX nd_LL_learn_45 rfl (by decide) (L' := [(2, .int (nI ((ab_pass A).1))), (0, .ref n), (1, .int (nI k))]) rfl ?_
        refine gw_iconst (v := nI 1) hX nd_LL_learn_46 rfl ?_
        refine gw_istore_n hX nd_LL_learn_47 rfl (by decide) (L' := [(3, .int (nI 1)), (2, .int (nI ((ab_pass A).1))), (0, .ref n), (1, .int (nI k))]) rfl ?_
        refine gw_cut (ks := [2, 3, 1, 0]) (L' := [(0, .ref n), (1, .int (nI k)), (2, .int (nI ((ab_pass A).1))), (3, .int (nI 1))]) rfl ?_
        exact lp_LL_learn n c cd s sd A hA N hbd hN k hk1 hk6 hss hX hE hl0 hQ hr (k - 1) 1 _ (ab_pass A).2 _ rfl (by omega) (ab_pass_le hA) (ab_bd_mono (ab_bd_pass hbd hA) (by omega)) (ab_eq_pass A) hC1 hf
      · have hb : A.ss.length = 0 := (nI_eq (a := A.ss.length) (b := 0) (by omega) (by omega)).mp hb
        exact gx_throw (tx := "there is no corpus") hX hE hQ gx_sIS (by decide +kernel) nd_LL_learn_31 nd_LL_learn_34 nd_LL_learn_35 nd_LL_learn_37 nd_LL_learn_40 (by decide) (by decide) (by decide) (by decide) (by decide) (by decide) ⟨Or.inr ⟨rfl, ab_lk_2 hk1 hk6 hb⟩, rfl⟩
    · skip
      exact gx_throw (tx := "passes are 1 to 6") hX hE hQ gx_sIA (by decide +kernel) nd_LL_learn_11 nd_LL_learn_14 nd_LL_learn_15 nd_LL_learn_17 nd_LL_learn_20 (by decide) (by decide) (by decide) (by decide) (by decide) (by decide) ⟨Or.inl ⟨rfl, ab_lk_1 (Or.inr (Int32.not_le.mp hb))⟩, rfl⟩
set_option maxRecDepth 100000 in
set_option maxHeartbeats 4000000 in
theorem ct_LL_forgetDecoding (l : Launch) (Z : gw_Z) (b0 : Nat) (σ : gw_S) (n c cd s sd mk ps kw kc : Nat) (h0 : σ.2 n = some (.inr (0, [.ref (n + 1), .ref (n + 3), .ref (n + 80), .ref (n + 82), .ref c, .ref cd, .ref s, .ref sd, .int (nI mk), .int (nI ps), .int (nI kw), .int (nI kc)]))) : gw_M l ny_LL_forgetDecoding nc_LL_forgetDecoding (1, 0, 0, 0, 0) none Z b0 σ [.ref n] (fun v σ' => v = none ∧ σ'.2 n = some (.inr (0, [.ref (n + 1), .ref (n + 3), .ref (n + 80), .ref (n + 82), .ref c, .ref cd, .ref s, .ref sd, .int (nI mk), .int (nI ps), .int (nI 0), .int (nI 0)])) ∧ gw_fr σ σ' n (n + 1)) := by
  refine gw_M_of rfl (Nat.le_of_ble_eq_true rfl) ?_
  intro X hX hl hz hb0 hr hnm hQ
  subst hz hb0 hl
  have hX : gw_ok X nc_LL_forgetDecoding "LabelLearner" (1, 0, 0, 0, 0) := hX
  show gw_W X σ 0 0 0 [(0, .ref n)] []
  have fr : gw_fr σ σ n (n + 1) := gw_fr_rf _ _ _
  refine gw_aload_n hX nd_LL_forgetDecoding_0 rfl 0 rfl ?_
  refine gw_iconst (v := nI 0) hX nd_LL_forgetDecoding_1 rfl ?_
  refine gw_put hX kf_LL_145 nd_LL_forgetDecoding_2 h0 rfl rfl (Nat.le_of_ble_eq_true rfl) (e' := .inr (0, [.ref (n + 1), .ref (n + 3), .ref (n + 80), .ref (n + 82), .ref c, .ref cd, .ref s, .ref sd, .int (nI mk), .int (nI ps), .int (nI 0), .int (nI kc)])) rfl ?_
  obtain ⟨σ1, eσ1⟩ : ∃ hp_, hp_ = gw_up σ n (.inr (0, [.ref (n + 1), .ref (n + 3), .ref (n + 80), .ref (n + 82), .ref c, .ref cd, .ref s, .ref sd, .int (nI mk), .int (nI ps), .int (nI 0), .int (nI kc)])) := ⟨_, rfl⟩
  refine gw_heap eσ1.symm ?_
  have h0 : σ1.2 n = some (.inr (0, [.ref (n + 1), .ref (n + 3), .ref (n + 80), .ref (n + 82), .ref c, .ref cd, .ref s, .ref sd, .int (nI mk), .int (nI ps), .int (nI 0), .int (nI kc)])) := by rw [eσ1]; exact gw_up_eq _ _ _
  have fr : gw_fr σ σ1 n (n + 1) := gw_fr_tr fr (show gw_fr _ σ1 n (n + 1) by rw [eσ1]; exact gw_fr_up _ _ _ (by omega) (by omega))
  refine gw_aload_n hX nd_LL_forgetDecoding_5 rfl 0 rfl ?_
  refine gw_iconst (v := nI 0) hX nd_LL_forgetDecoding_6 rfl ?_
  refine gw_put hX kf_LL_154 nd_LL_forgetDecoding_7 h0 rfl rfl (Nat.le_of_ble_eq_true rfl) (e' := .inr (0, [.ref (n + 1), .ref (n + 3), .ref (n + 80), .ref (n + 82), .ref c, .ref cd, .ref s, .ref sd, .int (nI mk), .int (nI ps), .int (nI 0), .int (nI 0)])) rfl ?_
  obtain ⟨σ2, eσ2⟩ : ∃ hp_, hp_ = gw_up σ1 n (.inr (0, [.ref (n + 1), .ref (n + 3), .ref (n + 80), .ref (n + 82), .ref c, .ref cd, .ref s, .ref sd, .int (nI mk), .int (nI ps), .int (nI 0), .int (nI 0)])) := ⟨_, rfl⟩
  refine gw_heap eσ2.symm ?_
  have h0 : σ2.2 n = some (.inr (0, [.ref (n + 1), .ref (n + 3), .ref (n + 80), .ref (n + 82), .ref c, .ref cd, .ref s, .ref sd, .int (nI mk), .int (nI ps), .int (nI 0), .int (nI 0)])) := by rw [eσ2]; exact gw_up_eq _ _ _
  have fr : gw_fr σ σ2 n (n + 1) := gw_fr_tr fr (show gw_fr _ σ2 n (n + 1) by rw [eσ2]; exact gw_fr_up _ _ _ (by omega) (by omega))
  exact gw_vret hX hQ hr nd_LL_forgetDecoding_10 (by decide) (by decide) ⟨rfl, h0, fr⟩
set_option maxRecDepth 100000 in
set_option maxHeartbeats 4000000 in
theorem ct_LL_type (l : Launch) (Z : gw_Z) (b0 : Nat) (σ : gw_S) (n c cd s sd : Nat) (A : ab_A) (hA : ab_ok A) (hC : cw_at σ Z n A c cd s sd) (w : Int64) (x : Int32) : gw_M l ny_LL_type nc_LL_type (4, 2, 47, 0, 0) (some .boolean) Z b0 σ [.ref n, .long w, .int x] (fun v σ' => (∃ (u : Nat) (A' : ab_A), ab_t A w x u A' ∧ u < 2 ∧ v = some (.int (nI u)) ∧ cw_at σ' Z n A' c cd s sd) ∧ gw_fr σ σ' n (n + 124)) := by
  refine gw_M_of rfl (Nat.le_of_ble_eq_true rfl) ?_
  intro X hX hl hz hb0 hr hnm hQ
  subst hz hb0 hl
  have hX : gw_ok X nc_LL_type "LabelLearner" (4, 2, 47, 0, 0) := hX
  show gw_W X σ 0 0 0 [(0, .ref n), (1, .long w), (3, .int x)] []
  obtain ⟨hsw, h0, ⟨kt, hkt, htx⟩, hde, hwe, hte, hrc, hrd, hsp, hsd⟩ := id hC
  obtain ⟨sw1, sw2⟩ := id hsw
  obtain ⟨c0, c1, c2, c3⟩ := id hrc
  obtain ⟨bsp, s0, s1, hbsp⟩ := id hsp
  have hl8 := hA.2.2.1
  have hsl := hA.2.2.2.2.1.2
  refine gw_aload_n hX nd_LL_type_0 rfl 0 rfl ?_
  refine gw_get hX kf_LL_10 nd_LL_type_1 h0 rfl ?_
  refine gw_lload_n hX nd_LL_type_4 rfl 1 rfl ?_
  refine gw_iload_n hX nd_LL_type_5 rfl 2 rfl ?_
  refine gw_callV (rest := []) hX ks_LL_53 (ct_Te_append _ _ _ σ (n + 1) A.len kt w x A.ch hA.1 htx) htx.1 rfl rfl (Nat.le_of_ble_eq_true rfl) nd_LL_type_6 (by decide) ?_
  rintro v_ σ1 ⟨hor, hf⟩
  rcases hor with ⟨hok, rfl, ht⟩ | ⟨hok, rfl, ht⟩
  · show gw_W X σ1 0 0 9 [(0, .ref n), (1, .long w), (3, .int x)] [.int (nI 1)]
    exact gw_zret hX hQ hr nd_LL_type_9 rfl (by decide) (by decide) ⟨⟨1, _, Or.inl ⟨hok, rfl, rfl⟩, by omega, rfl, cw_text hl8 hC hf hkt ht⟩, gw_fr_tr (gw_fr_rf _ n n) hf⟩
  · show gw_W X σ1 0 0 9 [(0, .ref n), (1, .long w), (3, .int x)] [.int (nI 0)]
    exact gw_zret hX hQ hr nd_LL_type_9 rfl (by decide) (by decide) ⟨⟨0, A, Or.inr ⟨hok, rfl, rfl⟩, by omega, rfl, cw_text hl8 hC hf hkt ht⟩, gw_fr_tr (gw_fr_rf _ n n) hf⟩
set_option maxRecDepth 100000 in
set_option maxHeartbeats 4000000 in
theorem ct_LL_cut (l : Launch) (Z : gw_Z) (b0 : Nat) (σ : gw_S) (n c cd s sd : Nat) (A : ab_A) (hA : ab_ok A) (hC : cw_at σ Z n A c cd s sd) (x : Int32) : gw_M l ny_LL_cut nc_LL_cut (2, 1, 21, 0, 0) (some .boolean) Z b0 σ [.ref n, .int x] (fun v σ' => (∃ (u : Nat) (A' : ab_A), ab_c A x u A' ∧ u < 2 ∧ v = some (.int (nI u)) ∧ cw_at σ' Z n A' c cd s sd) ∧ gw_fr σ σ' n (n + 124)) := by
  refine gw_M_of rfl (Nat.le_of_ble_eq_true rfl) ?_
  intro X hX hl hz hb0 hr hnm hQ
  subst hz hb0 hl
  have hX : gw_ok X nc_LL_cut "LabelLearner" (2, 1, 21, 0, 0) := hX
  show gw_W X σ 0 0 0 [(0, .ref n), (1, .int x)] []
  obtain ⟨hsw, h0, ⟨kt, hkt, htx⟩, hde, hwe, hte, hrc, hrd, hsp, hsd⟩ := id hC
  obtain ⟨sw1, sw2⟩ := id hsw
  obtain ⟨c0, c1, c2, c3⟩ := id hrc
  obtain ⟨bsp, s0, s1, hbsp⟩ := id hsp
  have hl8 := hA.2.2.1
  have hsl := hA.2.2.2.2.1.2
  refine gw_aload_n hX nd_LL_cut_0 rfl 0 rfl ?_
  refine gw_get hX kf_LL_10 nd_LL_cut_1 h0 rfl ?_
  refine gw_iload_n hX nd_LL_cut_4 rfl 1 rfl ?_
  refine gw_callV (rest := []) hX ks_LL_57 (ct_Te_keep _ _ _ σ (n + 1) A.len kt A.ch hA.1 x htx) htx.1 rfl rfl (Nat.le_of_ble_eq_true rfl) nd_LL_cut_5 (by decide) ?_
  rintro v_ σ1 ⟨hor, hf⟩
  rcases hor with ⟨cc, hcx, hcc, rfl, ht⟩ | ⟨hno, rfl, ht⟩
  · show gw_W X σ1 0 0 8 [(0, .ref n), (1, .int x)] [.int (nI 1)]
    exact gw_zret hX hQ hr nd_LL_cut_8 rfl (by decide) (by decide) ⟨⟨1, _, Or.inl ⟨cc, hcx, hcc, rfl, rfl⟩, by omega, rfl, cw_text hl8 hC hf hkt ht⟩, gw_fr_tr (gw_fr_rf _ n n) hf⟩
  · show gw_W X σ1 0 0 8 [(0, .ref n), (1, .int x)] [.int (nI 0)]
    exact gw_zret hX hQ hr nd_LL_cut_8 rfl (by decide) (by decide) ⟨⟨0, A, Or.inr ⟨hno, rfl, rfl⟩, by omega, rfl, cw_text hl8 hC hf hkt ht⟩, gw_fr_tr (gw_fr_rf _ n n) hf⟩
