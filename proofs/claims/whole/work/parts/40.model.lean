/-! ===== the model, as it lies in the heap from m on ===== -/
def mm_b (fm fb : Nat → Int32) (i : Nat) (ws : List px_W) : Prop := fm i = nI ws.length ∧ ∀ (w : Nat) (x : px_W), ws[w]? = some x → ∀ k, k < 3 → fb (3 * (6 * i + w) + k) = nI (px_k x k)
def mm_l (fl : Nat → Int32) (i : Nat) (ws : List px_W) : Prop := ∀ (w : Nat) (x : px_W), ws[w]? = some x → fl (6 * i + w) = nI x.2.2.2
def mw_at (σ : gw_S) (Z : gw_Z) (m : Nat) (A : ab_A) (th rs be se kp kw : Int32) (bs s2 : Int64) (fm fb fl : Nat → Int32) : Prop :=
  σ.2 m = some (.inr (1, [.int th, .int (nI A.len), .ref (m + 1), .int (nI A.ss.length), .ref (m + 2), .ref (m + 3), .ref (m + 4), .int rs, .ref (m + 5), .ref (m + 6), .ref (m + 7), .ref (m + 8), .ref (m + 9), .int (nI A.mk), .int (nI A.ps), .ref (m + 10), .ref (m + 11), .ref (m + 12), .long bs, .long s2, .int be, .int se, .int kp, .int kw])) ∧ σ.2 (m + 1) = some (gw_I Z 240 (fun j => nI (A.ch j))) ∧ σ.2 (m + 2) = some (gw_I Z 9 fm) ∧ σ.2 (m + 3) = some (gw_I Z 162 fb) ∧ σ.2 (m + 4) = some (gw_I Z 54 fl) ∧
  (∃ f, σ.2 (m + 5) = some (gw_I Z 9 f)) ∧ (∃ f, σ.2 (m + 6) = some (gw_I Z 162 f)) ∧ (∃ f, σ.2 (m + 7) = some (gw_I Z 54 f)) ∧ σ.2 (m + 8) = some (gw_J Z 148 (fun j => iL (A.wt j))) ∧ σ.2 (m + 9) = some (gw_J Z 148 (fun j => iL (A.tt j))) ∧
  (∃ f, σ.2 (m + 10) = some (gw_J Z 24 f)) ∧ (∃ f, σ.2 (m + 11) = some (gw_I Z 6 f)) ∧ (∃ f, σ.2 (m + 12) = some (gw_J Z 7 f) ∧ f 0 = iL 0)
def mw_ok (A : ab_A) (kp kw : Int32) (fm fb fl : Nat → Int32) : Prop := (∀ (i : Nat) (ws : List px_W), A.ss[i]? = some ws → mm_b fm fb i ws ∧ mm_l fl i ws) ∧ mm_b fm fb 8 A.sp ∧ (A.kw = 0 → kp = -1) ∧ (A.kw ≠ 0 → kp = nI A.kc ∧ kw = nI A.kw)
def mw (σ : gw_S) (Z : gw_Z) (m : Nat) (A : ab_A) (th : Nat) : Prop := ∃ (rs be se kp kw : Int32) (bs s2 : Int64) (fm fb fl : Nat → Int32), mw_at σ Z m A (nI th) rs be se kp kw bs s2 fm fb fl ∧ mw_ok A kp kw fm fb fl
theorem by_sm : ∀ i, i < 8 → (((nI (8 * i)).toInt64 &&& 63).toBitVec.smod 64).toNat = 8 * i := by decide
theorem by_s (w : Int64) {i : Nat} (hi : i < 8) : ((w >>> ((nI (8 * i)).toInt64 &&& 63)) &&& 255).toInt32 = nI (by_at w i) := by
  have e : ((w >>> ((nI (8 * i)).toInt64 &&& 63)) &&& 255) = lN (by_at w i) := by
    apply Int64.toBitVec_inj.mp
    show ((w >>> ((nI (8 * i)).toInt64 &&& 63)).toBitVec &&& 255#64) = BitVec.ofNat 64 (by_at w i)
    rw [Int64.toBitVec_shiftRight]
    show (w.toBitVec.sshiftRight (((nI (8 * i)).toInt64 &&& 63).toBitVec.smod 64).toNat &&& 255#64) = _
    rw [by_sm i hi]
    apply BitVec.eq_of_getLsbD_eq
    intro j hj
    rw [BitVec.getLsbD_and, BitVec.getLsbD_sshiftRight, BitVec.getLsbD_ofNat, BitVec.getLsbD_ofNat, by_at]
    have h255 : Nat.testBit 255 j = decide (j < 8) := Nat.testBit_two_pow_sub_one 8 j
    rw [h255, show (256 : Nat) = 2 ^ 8 from rfl, Nat.testBit_mod_two_pow, Nat.testBit_div_two_pow]
    by_cases h8 : j < 8
    · have h64 : 8 * i + j < 64 := by omega
      simp [h8, hj, h64, BitVec.getLsbD, Nat.add_comm, Nat.not_le.mpr hj]
      intro h9; omega
    · simp [h8]
  rw [e, lN_i]
set_option maxRecDepth 100000 in
set_option maxHeartbeats 4000000 in
theorem ct_Mo_letter (l : Launch) (Z : gw_Z) (b0 : Nat) (σ : gw_S) (w : Int64) (j : Nat) (hj : j < 8) : gw_M l ny_Mo_letter nc_Mo_letter (3, 0, 0, 0, 0) (some .int) Z b0 σ [.long w, .int (nI j)] (fun v σ' => v = some (.int (nI (by_at w j))) ∧ σ' = σ) := by
  refine gw_M_of rfl (Nat.le_of_ble_eq_true rfl) ?_
  intro X hX hl hz hb0 hr hnm hQ
  subst hz hb0 hl
  have hX : gw_ok X nc_Mo_letter "LabelLearnerModel" (3, 0, 0, 0, 0) := hX
  show gw_W X σ 0 0 0 [(0, .long w), (2, .int (nI j))] []
  refine gw_lload_n hX nd_Mo_letter_0 rfl 0 rfl ?_
  refine gw_bipush (v := nI 8) hX nd_Mo_letter_1 rfl ?_
  refine gw_iload_n hX nd_Mo_letter_3 rfl 1 rfl ?_
  refine gw_imul hX nd_Mo_letter_4 ?_
  refine gw_topi (y := nI (8 * j)) (pk_mul _ _) ?_
  refine gw_lshr hX nd_Mo_letter_5 ?_
  refine gw_topl (y := w >>> ((nI (8 * j)).toInt64 &&& 63)) rfl ?_
  refine gw_ldc2 (v := 255) hX (gw_in_t 619 (by decide +kernel) rfl) nd_Mo_letter_6 ?_
  refine gw_topl (y := 255) rfl ?_
  refine gw_land hX nd_Mo_letter_9 ?_
  refine gw_l2i hX nd_Mo_letter_10 ?_
  refine gw_topi (y := nI (by_at w j)) (by_s w hj) ?_
  exact gw_iret hX hQ hr nd_Mo_letter_11 (by decide) (by decide) ⟨rfl, rfl⟩
set_option maxRecDepth 100000 in
set_option maxHeartbeats 4000000 in
theorem ct_Mo_thrown (l : Launch) (Z : gw_Z) (b0 : Nat) (σ : gw_S) (m : Nat) {th rs be se kp kw : Int32} {len sn mk ps : Nat} {bs s2 : Int64} (h0 : σ.2 m = some (.inr (1, [.int th, .int (nI len), .ref (m + 1), .int (nI sn), .ref (m + 2), .ref (m + 3), .ref (m + 4), .int rs, .ref (m + 5), .ref (m + 6), .ref (m + 7), .ref (m + 8), .ref (m + 9), .int (nI mk), .int (nI ps), .ref (m + 10), .ref (m + 11), .ref (m + 12), .long bs, .long s2, .int be, .int se, .int kp, .int kw]))) : gw_M l ny_Mo_thrown nc_Mo_thrown (1, 0, 0, 0, 0) (some .int) Z b0 σ [.ref m] (fun v σ' => v = some (.int th) ∧ σ' = σ) := by
  refine gw_M_of rfl (Nat.le_of_ble_eq_true rfl) ?_
  intro X hX hl hz hb0 hr hnm hQ
  subst hz hb0 hl
  have hX : gw_ok X nc_Mo_thrown "LabelLearnerModel" (1, 0, 0, 0, 0) := hX
  show gw_W X σ 0 0 0 [(0, .ref m)] []
  refine gw_aload_n hX nd_Mo_thrown_0 rfl 0 rfl ?_
  refine gw_get hX kf_Mo_51 nd_Mo_thrown_1 h0 rfl ?_
  exact gw_iret hX hQ hr nd_Mo_thrown_4 (by decide) (by decide) ⟨rfl, rfl⟩
set_option maxRecDepth 100000 in
set_option maxHeartbeats 4000000 in
theorem ct_Mo_isLetter (l : Launch) (Z : gw_Z) (b0 : Nat) (σ : gw_S) (m : Nat) {th rs be se kp kw : Int32} {len sn mk ps : Nat} {bs s2 : Int64} (h0 : σ.2 m = some (.inr (1, [.int th, .int (nI len), .ref (m + 1), .int (nI sn), .ref (m + 2), .ref (m + 3), .ref (m + 4), .int rs, .ref (m + 5), .ref (m + 6), .ref (m + 7), .ref (m + 8), .ref (m + 9), .int (nI mk), .int (nI ps), .ref (m + 10), .ref (m + 11), .ref (m + 12), .long bs, .long s2, .int be, .int se, .int kp, .int kw]))) (ch : Nat → Nat) (hlen : len ≤ 240) (hch : ∀ j, ch j < 127) (h1 : σ.2 (m + 1) = some (gw_I Z 240 (fun j => nI (ch j)))) (k : Nat) (hk : k ≤ 240) : gw_M l ny_Mo_isLetter nc_Mo_isLetter (2, 0, 0, 0, 0) (some .boolean) Z b0 σ [.ref m, .int (nI k)] (fun v σ' => v = some (.int (nI (if px_lt len ch k then 1 else 0))) ∧ σ' = σ) := by
  refine gw_M_of rfl (Nat.le_of_ble_eq_true rfl) ?_
  intro X hX hl hz hb0 hr hnm hQ
  subst hz hb0 hl
  have hX : gw_ok X nc_Mo_isLetter "LabelLearnerModel" (2, 0, 0, 0, 0) := hX
  show gw_W X σ 0 0 0 [(0, .ref m), (1, .int (nI k))] []
  refine gw_iload_n hX nd_Mo_isLetter_0 rfl 1 rfl ?_
  refine gw_aload_n hX nd_Mo_isLetter_1 rfl 0 rfl ?_
  refine gw_get hX kf_Mo_56 nd_Mo_isLetter_2 h0 rfl ?_
  refine gw_icmp_ge (tgt := 34) hX nd_Mo_isLetter_5 rfl (fun hb => ?_) (fun hb => ?_)
  · have hb : len ≤ k := (nI_leI (a := len) (b := k) (by omega) (by omega)).mp hb
    refine gw_iconst (v := nI 0) hX nd_Mo_isLetter_34 rfl ?_
    exact gw_zret hX hQ hr nd_Mo_isLetter_35 rfl (by decide) (by decide) ⟨by rw [if_neg (fun h => by have := (px_lt_iff.mp h).1; omega)], rfl⟩
  · have hb : ¬ len ≤ k := fun h => hb ((nI_leI (a := len) (b := k) (by omega) (by omega)).mpr h)
    refine gw_aload_n hX nd_Mo_isLetter_8 rfl 0 rfl ?_
    refine gw_get hX kf_Mo_7 nd_Mo_isLetter_9 h0 rfl ?_
    refine gw_iload_n hX nd_Mo_isLetter_12 rfl 1 rfl ?_
    have hc9 := hch k
    have hkl := hb
    refine gw_iald hX nd_Mo_isLetter_13 h1 k rfl (by omega) (by decide) ?_
    refine gw_topi (y := nI (ch k)) rfl ?_
    refine gw_bipush (v := nI 97) hX nd_Mo_isLetter_14 rfl ?_
    refine gw_icmp_lt (tgt := 34) hX nd_Mo_isLetter_16 rfl (fun hb => ?_) (fun hb => ?_)
    · have hb : ch k < 97 := (nI_ltI (a := ch k) (b := 97) (by omega) (by omega)).mp hb
      refine gw_iconst (v := nI 0) hX nd_Mo_isLetter_34 rfl ?_
      exact gw_zret hX hQ hr nd_Mo_isLetter_35 rfl (by decide) (by decide) ⟨by rw [if_neg (fun h => by have := (px_lt_iff.mp h).2.1; omega)], rfl⟩
    · have hb : ¬ ch k < 97 := fun h => hb ((nI_ltI (a := ch k) (b := 97) (by omega) (by omega)).mpr h)
      refine gw_aload_n hX nd_Mo_isLetter_19 rfl 0 rfl ?_
      refine gw_get hX kf_Mo_7 nd_Mo_isLetter_20 h0 rfl ?_
      refine gw_iload_n hX nd_Mo_isLetter_23 rfl 1 rfl ?_
      have hlo := hb
      refine gw_iald hX nd_Mo_isLetter_24 h1 k rfl (by omega) (by decide) ?_
      refine gw_topi (y := nI (ch k)) rfl ?_
      refine gw_bipush (v := nI 122) hX nd_Mo_isLetter_25 rfl ?_
      refine gw_icmp_gt (tgt := 34) hX nd_Mo_isLetter_27 rfl (fun hb => ?_) (fun hb => ?_)
      · have hb : 122 < ch k := (nI_ltI (a := 122) (b := ch k) (by omega) (by omega)).mp hb
        refine gw_iconst (v := nI 0) hX nd_Mo_isLetter_34 rfl ?_
        exact gw_zret hX hQ hr nd_Mo_isLetter_35 rfl (by decide) (by decide) ⟨by rw [if_neg (fun h => by have := (px_lt_iff.mp h).2.2; omega)], rfl⟩
      · have hb : ¬ 122 < ch k := fun h => hb ((nI_ltI (a := 122) (b := ch k) (by omega) (by omega)).mpr h)
        refine gw_iconst (v := nI 1) hX nd_Mo_isLetter_30 rfl ?_
        refine gw_goto (tgt := 35) hX nd_Mo_isLetter_31 rfl ?_
        exact gw_zret hX hQ hr nd_Mo_isLetter_35 rfl (by decide) (by decide) ⟨by rw [if_pos (px_lt_iff.mpr ⟨by omega, by omega, by omega⟩)], rfl⟩
set_option maxRecDepth 100000 in
set_option maxHeartbeats 4000000 in
theorem ct_Mo_is (l : Launch) (Z : gw_Z) (b0 : Nat) (σ : gw_S) (m : Nat) {th rs be se kp kw : Int32} {len sn mk ps : Nat} {bs s2 : Int64} (h0 : σ.2 m = some (.inr (1, [.int th, .int (nI len), .ref (m + 1), .int (nI sn), .ref (m + 2), .ref (m + 3), .ref (m + 4), .int rs, .ref (m + 5), .ref (m + 6), .ref (m + 7), .ref (m + 8), .ref (m + 9), .int (nI mk), .int (nI ps), .ref (m + 10), .ref (m + 11), .ref (m + 12), .long bs, .long s2, .int be, .int se, .int kp, .int kw]))) (ch : Nat → Nat) (hlen : len ≤ 240) (hch : ∀ j, ch j < 127) (h1 : σ.2 (m + 1) = some (gw_I Z 240 (fun j => nI (ch j)))) (k c : Nat) (hk : k ≤ 240) (hc : c < 127) : gw_M l ny_Mo_is nc_Mo_is (3, 0, 0, 0, 0) (some .boolean) Z b0 σ [.ref m, .int (nI k), .int (nI c)] (fun v σ' => v = some (.int (nI (if px_is len ch c k then 1 else 0))) ∧ σ' = σ) := by
  refine gw_M_of rfl (Nat.le_of_ble_eq_true rfl) ?_
  intro X hX hl hz hb0 hr hnm hQ
  subst hz hb0 hl
  have hX : gw_ok X nc_Mo_is "LabelLearnerModel" (3, 0, 0, 0, 0) := hX
  show gw_W X σ 0 0 0 [(0, .ref m), (1, .int (nI k)), (2, .int (nI c))] []
  refine gw_iload_n hX nd_Mo_is_0 rfl 1 rfl ?_
  refine gw_aload_n hX nd_Mo_is_1 rfl 0 rfl ?_
  refine gw_get hX kf_Mo_56 nd_Mo_is_2 h0 rfl ?_
  refine gw_icmp_ge (tgt := 22) hX nd_Mo_is_5 rfl (fun hb => ?_) (fun hb => ?_)
  · have hb : len ≤ k := (nI_leI (a := len) (b := k) (by omega) (by omega)).mp hb
    refine gw_iconst (v := nI 0) hX nd_Mo_is_22 rfl ?_
    exact gw_zret hX hQ hr nd_Mo_is_23 rfl (by decide) (by decide) ⟨by rw [if_neg (fun h => by have := (px_is_iff.mp h).1; omega)], rfl⟩
  · have hb : ¬ len ≤ k := fun h => hb ((nI_leI (a := len) (b := k) (by omega) (by omega)).mpr h)
    refine gw_aload_n hX nd_Mo_is_8 rfl 0 rfl ?_
    refine gw_get hX kf_Mo_7 nd_Mo_is_9 h0 rfl ?_
    refine gw_iload_n hX nd_Mo_is_12 rfl 1 rfl ?_
    have hc9 := hch k
    have hkl := hb
    refine gw_iald hX nd_Mo_is_13 h1 k rfl (by omega) (by decide) ?_
    refine gw_topi (y := nI (ch k)) rfl ?_
    refine gw_iload_n hX nd_Mo_is_14 rfl 2 rfl ?_
    refine gw_icmp_ne (tgt := 22) hX nd_Mo_is_15 rfl (fun hb => ?_) (fun hb => ?_)
    · have hb : ¬ ch k = c := fun h => hb ((nI_eq (a := ch k) (b := c) (by omega) (by omega)).mpr h)
      refine gw_iconst (v := nI 0) hX nd_Mo_is_22 rfl ?_
      exact gw_zret hX hQ hr nd_Mo_is_23 rfl (by decide) (by decide) ⟨by rw [if_neg (fun h => hb (px_is_iff.mp h).2)], rfl⟩
    · have hb : ch k = c := (nI_eq (a := ch k) (b := c) (by omega) (by omega)).mp hb
      refine gw_iconst (v := nI 1) hX nd_Mo_is_18 rfl ?_
      refine gw_goto (tgt := 23) hX nd_Mo_is_19 rfl ?_
      exact gw_zret hX hQ hr nd_Mo_is_23 rfl (by decide) (by decide) ⟨by rw [if_pos (px_is_iff.mpr ⟨by omega, hb⟩)], rfl⟩
set_option maxRecDepth 100000 in
set_option maxHeartbeats 4000000 in
theorem ct_Mo_bucketOf (l : Launch) (Z : gw_Z) (b0 : Nat) (σ : gw_S) (h : Int32) : gw_M l ny_Mo_bucketOf nc_Mo_bucketOf (1, 0, 0, 0, 0) (some .int) Z b0 σ [.int h] (fun v σ' => v = some (.int (nI (px_B h))) ∧ σ' = σ) := by
  refine gw_M_of rfl (Nat.le_of_ble_eq_true rfl) ?_
  intro X hX hl hz hb0 hr hnm hQ
  subst hz hb0 hl
  have hX : gw_ok X nc_Mo_bucketOf "LabelLearnerModel" (1, 0, 0, 0, 0) := hX
  show gw_W X σ 0 0 0 [(0, .int h)] []
  refine gw_iload_n hX nd_Mo_bucketOf_0 rfl 0 rfl ?_
  refine gw_iload_n hX nd_Mo_bucketOf_1 rfl 0 rfl ?_
  refine gw_bipush (v := nI 15) hX nd_Mo_bucketOf_2 rfl ?_
  refine gw_iushr hX nd_Mo_bucketOf_4 ?_
  refine gw_ixor hX nd_Mo_bucketOf_5 ?_
  refine gw_bipush (v := nI 31) hX nd_Mo_bucketOf_6 rfl ?_
  refine gw_iand hX nd_Mo_bucketOf_8 ?_
  exact gw_iret hX hQ hr nd_Mo_bucketOf_9 (by decide) (by decide) ⟨by rw [← px_b_nI]; rfl, rfl⟩
set_option maxRecDepth 100000 in
set_option maxHeartbeats 4000000 in
theorem ct_Mo_of (l : Launch) (Z : gw_Z) (b0 : Nat) (σ : gw_S) (a x y : Nat) (f : Nat → Int64) (h : σ.2 a = some (gw_J Z 148 f)) (hx : x < 37) (hy : y < 4) : gw_M l ny_Mo_of nc_Mo_of (3, 0, 0, 0, 0) (some .long) Z b0 σ [.ref a, .int (nI x), .int (nI y)] (fun v σ' => v = some (.long (f (4 * x + y))) ∧ σ' = σ) := by
  refine gw_M_of rfl (Nat.le_of_ble_eq_true rfl) ?_
  intro X hX hl hz hb0 hr hnm hQ
  subst hz hb0 hl
  have hX : gw_ok X nc_Mo_of "LabelLearnerModel" (3, 0, 0, 0, 0) := hX
  show gw_W X σ 0 0 0 [(0, .ref a), (1, .int (nI x)), (2, .int (nI y))] []
  refine gw_aload_n hX nd_Mo_of_0 rfl 0 rfl ?_
  refine gw_iconst (v := nI 4) hX nd_Mo_of_1 rfl ?_
  refine gw_iload_n hX nd_Mo_of_2 rfl 1 rfl ?_
  refine gw_imul hX nd_Mo_of_3 ?_
  refine gw_topi (y := nI (4 * x)) (pk_mul _ _) ?_
  refine gw_iload_n hX nd_Mo_of_4 rfl 2 rfl ?_
  refine gw_iadd hX nd_Mo_of_5 ?_
  refine gw_topi (y := nI (4 * x + y)) (nI_add _ _) ?_
  refine gw_lald hX nd_Mo_of_6 h (4 * x + y) rfl (by omega) (by decide) ?_
  exact gw_lret hX hQ hr nd_Mo_of_7 (by decide) (by decide) ⟨rfl, rfl⟩
set_option maxRecDepth 100000 in
set_option maxHeartbeats 4000000 in
theorem lp_Mo_skip {X : gw_C} {σ : gw_S} (m0 k0 : Nat) {th rs be se kp kw : Int32} {len sn mk ps : Nat} {bs s2 : Int64} (h0 : σ.2 m0 = some (.inr (1, [.int th, .int (nI len), .ref (m0 + 1), .int (nI sn), .ref (m0 + 2), .ref (m0 + 3), .ref (m0 + 4), .int rs, .ref (m0 + 5), .ref (m0 + 6), .ref (m0 + 7), .ref (m0 + 8), .ref (m0 + 9), .int (nI mk), .int (nI ps), .ref (m0 + 10), .ref (m0 + 11), .ref (m0 + 12), .long bs, .long s2, .int be, .int se, .int kp, .int kw]))) (ch : Nat → Nat) (hlen : len ≤ 240) (hch : ∀ j, ch j < 127) (h1 : σ.2 (m0 + 1) = some (gw_I (gw_z X) 240 (fun j => nI (ch j)))) (hX : gw_ok X nc_Mo_skip "LabelLearnerModel" (3, 1, 22, 0, 0)) (hQ : X.2.2.2.2 = gw_end X (fun v σ' => v = some (.int (nI (px_skip len ch k0))) ∧ σ' = σ) 0 0) (hr : X.2.2.1.1.sig.returnType = (some .int)) : ∀ (m : Nat) (k : Nat), k + m = 241 → k ≤ 240 → k0 ≤ k → (∀ j, k0 ≤ j → j < k → px_is len ch 32 j = true) → gw_W X σ 0 0 2 [(0, .ref m0), (2, .int (nI k))] [] := by
  intro m
  induction m using Nat.strongRecOn with
  | ind m ih =>
    intro k
    intro hkm hk hk0 hall
    refine gw_aload_n hX nd_Mo_skip_2 rfl 0 rfl ?_
    refine gw_iload_n hX nd_Mo_skip_3 rfl 1 rfl ?_
    refine gw_bipush (v := nI 32) hX nd_Mo_skip_4 rfl ?_
    refine gw_callV (rest := []) hX ks_Mo_63 (ct_Mo_is _ _ _ σ m0 h0 ch hlen hch h1 k 32 hk (by omega)) h0 rfl rfl (Nat.le_of_ble_eq_true rfl) nd_Mo_skip_6 (by decide) ?_
    rintro v_ s_ ⟨hv_, hs_⟩
    have hs_ := hs_.symm
    subst hs_ hv_
    show gw_W X σ 0 0 9 [(0, .ref m0), (2, .int (nI k))] [.int (nI ((if px_is len ch 32 k then 1 else 0)))]
    have hi9 : (if px_is len ch 32 k then 1 else 0) ≤ 1 := by split <;> omega
    refine gw_if_eq (tgt := 18) hX nd_Mo_skip_9 rfl (fun hb => ?_) (fun hb => ?_)
    · have hb : (if px_is len ch 32 k then 1 else 0) = 0 := (nI_eq (a := (if px_is len ch 32 k then 1 else 0)) (b := 0) (by omega) (by omega)).mp hb
      refine gw_iload_n hX nd_Mo_skip_18 rfl 1 rfl ?_
      have hf : px_is len ch 32 k = false := by by_cases e : px_is len ch 32 k = true; (rw [if_pos e] at hb; omega); exact Bool.not_eq_true _ ▸ e
      exact gw_iret hX hQ hr nd_Mo_skip_19 (by decide) (by decide) ⟨by rw [px_skip_of ⟨hk0, hall, hf⟩], rfl⟩
    · have hb : ¬ (if px_is len ch 32 k then 1 else 0) = 0 := fun h => hb ((nI_eq (a := (if px_is len ch 32 k then 1 else 0)) (b := 0) (by omega) (by omega)).mpr h)
      have ht : px_is len ch 32 k = true := by by_cases e : px_is len ch 32 k = true; exact e; (rw [if_neg e] at hb; omega)
      have hkl := (px_is_iff.mp ht).1
      refine gw_iinc hX nd_Mo_skip_12 1 rfl (v := nI (k + 1)) (show nI k + nI 1 = nI (k + 1) from nI_add _ _) (by decide) (L' := [(2, .int (nI (k + 1))), (0, .ref m0)]) rfl ?_
      refine gw_goto (tgt := 2) hX nd_Mo_skip_15 rfl ?_
      refine gw_cut (ks := [1, 0]) (L' := [(0, .ref m0), (2, .int (nI (k + 1)))]) rfl ?_
      exact ih (m - 1) (by omega) (k + 1) (by omega) (by omega) (by omega) (fun j h1 h2 => by by_cases e : j = k; (rw [e]; exact ht); exact hall j h1 (by omega))
set_option maxRecDepth 100000 in
set_option maxHeartbeats 4000000 in
theorem ct_Mo_skip (l : Launch) (Z : gw_Z) (b0 : Nat) (σ : gw_S) (m : Nat) {th rs be se kp kw : Int32} {len sn mk ps : Nat} {bs s2 : Int64} (h0 : σ.2 m = some (.inr (1, [.int th, .int (nI len), .ref (m + 1), .int (nI sn), .ref (m + 2), .ref (m + 3), .ref (m + 4), .int rs, .ref (m + 5), .ref (m + 6), .ref (m + 7), .ref (m + 8), .ref (m + 9), .int (nI mk), .int (nI ps), .ref (m + 10), .ref (m + 11), .ref (m + 12), .long bs, .long s2, .int be, .int se, .int kp, .int kw]))) (ch : Nat → Nat) (hlen : len ≤ 240) (hch : ∀ j, ch j < 127) (h1 : σ.2 (m + 1) = some (gw_I Z 240 (fun j => nI (ch j)))) (k : Nat) (hk : k ≤ 240) : gw_M l ny_Mo_skip nc_Mo_skip (3, 1, 22, 0, 0) (some .int) Z b0 σ [.ref m, .int (nI k)] (fun v σ' => v = some (.int (nI (px_skip len ch k))) ∧ σ' = σ) := by
  refine gw_M_of rfl (Nat.le_of_ble_eq_true rfl) ?_
  intro X hX hl hz hb0 hr hnm hQ
  subst hz hb0 hl
  have hX : gw_ok X nc_Mo_skip "LabelLearnerModel" (3, 1, 22, 0, 0) := hX
  show gw_W X σ 0 0 0 [(0, .ref m), (1, .int (nI k))] []
  refine gw_iload_n hX nd_Mo_skip_0 rfl 1 rfl ?_
  refine gw_istore_n hX nd_Mo_skip_1 rfl (by decide) (L' := [(2, .int (nI k)), (0, .ref m), (1, .int (nI k))]) rfl ?_
  refine gw_cut (ks := [1, 0]) (L' := [(0, .ref m), (2, .int (nI k))]) rfl ?_
  exact lp_Mo_skip m k h0 ch hlen hch h1 hX hQ hr (241 - k) k (by omega) hk (Nat.le_refl _) (fun j h1 h2 => by omega)
set_option maxRecDepth 100000 in
set_option maxHeartbeats 4000000 in
theorem lp_Mo_hash {X : gw_C} {σ : gw_S} (m0 a e : Nat) (h9 : Int32) {th rs be se kp kw : Int32} {len sn mk ps : Nat} {bs s2 : Int64} (h0 : σ.2 m0 = some (.inr (1, [.int th, .int (nI len), .ref (m0 + 1), .int (nI sn), .ref (m0 + 2), .ref (m0 + 3), .ref (m0 + 4), .int rs, .ref (m0 + 5), .ref (m0 + 6), .ref (m0 + 7), .ref (m0 + 8), .ref (m0 + 9), .int (nI mk), .int (nI ps), .ref (m0 + 10), .ref (m0 + 11), .ref (m0 + 12), .long bs, .long s2, .int be, .int se, .int kp, .int kw]))) (ch : Nat → Nat) (hlen : len ≤ 240) (hch : ∀ j, ch j < 127) (h1 : σ.2 (m0 + 1) = some (gw_I (gw_z X) 240 (fun j => nI (ch j)))) (hae : a ≤ e) (he : e ≤ 240) (hX : gw_ok X nc_Mo_hash "LabelLearnerModel" (6, 1, 20, 0, 0)) (hQ : X.2.2.2.2 = gw_end X (fun v σ' => v = some (.int (nI (px_B (px_h ch h9 a (e - a))))) ∧ σ' = σ) 0 0) (hr : X.2.2.1.1.sig.returnType = (some .int)) : ∀ (m : Nat) (k : Nat), k + m = e → a ≤ k → gw_W X σ 0 0 19 [(0, .ref m0), (3, .int (nI e)), (4, .int (px_h ch h9 a (k - a))), (5, .int (nI k))] [] := by
  intro m
  induction m using Nat.strongRecOn with
  | ind m ih =>
    intro k
    intro hkm hak
    refine gw_iload hX nd_Mo_hash_19 3 rfl ?_
    refine gw_iload_n hX nd_Mo_hash_21 rfl 1 rfl ?_
    refine gw_icmp_ge (tgt := 46) hX nd_Mo_hash_22 rfl (fun hb => ?_) (fun hb => ?_)
    · have hb : e ≤ k := (nI_leI (a := e) (b := k) (by omega) (by omega)).mp hb
      refine gw_iload hX nd_Mo_hash_46 2 rfl ?_
      have hke : k = e := by omega
      refine gw_callS (rest := []) hX ks_Mo_67 (ct_Mo_bucketOf _ _ _ σ (px_h ch h9 a (k - a))) rfl rfl (Nat.le_of_ble_eq_true rfl) nd_Mo_hash_48 (by decide) ?_
      rintro v_ s_ ⟨hv_, hs_⟩
      have hs_ := hs_.symm
      subst hs_ hv_
      show gw_W X σ 0 0 51 [(0, .ref m0), (3, .int (nI e)), (4, .int (px_h ch h9 a (k - a))), (5, .int (nI k))] [.int (nI (px_B (px_h ch h9 a (k - a))))]
      exact gw_iret hX hQ hr nd_Mo_hash_51 (by decide) (by decide) ⟨by rw [hke], rfl⟩
    · have hb : ¬ e ≤ k := fun h => hb ((nI_leI (a := e) (b := k) (by omega) (by omega)).mpr h)
      refine gw_bipush (v := nI 31) hX nd_Mo_hash_25 rfl ?_
      refine gw_iload hX nd_Mo_hash_27 2 rfl ?_
      refine gw_imul hX nd_Mo_hash_29 ?_
      refine gw_aload_n hX nd_Mo_hash_30 rfl 0 rfl ?_
      refine gw_get hX kf_Mo_7 nd_Mo_hash_31 h0 rfl ?_
      refine gw_iload hX nd_Mo_hash_34 3 rfl ?_
      have hkl := hb
      refine gw_iald hX nd_Mo_hash_36 h1 k rfl (by omega) (by decide) ?_
      refine gw_iadd hX nd_Mo_hash_37 ?_
      refine gw_topi (y := (px_h ch h9 a (k + 1 - a))) (by rw [show k + 1 - a = (k - a) + 1 by omega, px_h, show a + (k - a) = k by omega]; rfl) ?_
      refine gw_istore hX nd_Mo_hash_38 (by decide) (L' := [(4, .int (px_h ch h9 a (k + 1 - a))), (0, .ref m0), (3, .int (nI e)), (5, .int (nI k))]) rfl ?_
      refine gw_iinc hX nd_Mo_hash_40 3 rfl (v := nI (k + 1)) (show nI k + nI 1 = nI (k + 1) from nI_add _ _) (by decide) (L' := [(5, .int (nI (k + 1))), (4, .int (px_h ch h9 a (k + 1 - a))), (0, .ref m0), (3, .int (nI e))]) rfl ?_
      refine gw_goto (tgt := 19) hX nd_Mo_hash_43 rfl ?_
      refine gw_cut (ks := [2, 3, 1, 0]) (L' := [(0, .ref m0), (3, .int (nI e)), (4, .int (px_h ch h9 a (k + 1 - a))), (5, .int (nI (k + 1)))]) rfl ?_
      exact ih (m - 1) (by omega) (k + 1) (by omega) (by omega)
set_option maxRecDepth 100000 in
set_option maxHeartbeats 4000000 in
theorem ct_Mo_hash (l : Launch) (Z : gw_Z) (b0 : Nat) (σ : gw_S) (m : Nat) {th rs be se kp kw : Int32} {len sn mk ps : Nat} {bs s2 : Int64} (h0 : σ.2 m = some (.inr (1, [.int th, .int (nI len), .ref (m + 1), .int (nI sn), .ref (m + 2), .ref (m + 3), .ref (m + 4), .int rs, .ref (m + 5), .ref (m + 6), .ref (m + 7), .ref (m + 8), .ref (m + 9), .int (nI mk), .int (nI ps), .ref (m + 10), .ref (m + 11), .ref (m + 12), .long bs, .long s2, .int be, .int se, .int kp, .int kw]))) (ch : Nat → Nat) (hlen : len ≤ 240) (hch : ∀ j, ch j < 127) (h1 : σ.2 (m + 1) = some (gw_I Z 240 (fun j => nI (ch j)))) (sg a e : Nat) (hsg : sg < 127) (hae : a ≤ e) (he : e ≤ 240) : gw_M l ny_Mo_hash nc_Mo_hash (6, 1, 20, 0, 0) (some .int) Z b0 σ [.ref m, .int (nI sg), .int (nI a), .int (nI e)] (fun v σ' => v = some (.int (nI (px_B (px_h ch (if sg = 0 then 7 else 31 * 7 + nI sg) a (e - a))))) ∧ σ' = σ) := by
  refine gw_M_of rfl (Nat.le_of_ble_eq_true rfl) ?_
  intro X hX hl hz hb0 hr hnm hQ
  subst hz hb0 hl
  have hX : gw_ok X nc_Mo_hash "LabelLearnerModel" (6, 1, 20, 0, 0) := hX
  show gw_W X σ 0 0 0 [(0, .ref m), (1, .int (nI sg)), (2, .int (nI a)), (3, .int (nI e))] []
  refine gw_iload_n hX nd_Mo_hash_0 rfl 1 rfl ?_
  refine gw_if_ne (tgt := 9) hX nd_Mo_hash_1 rfl (fun hb => ?_) (fun hb => ?_)
  · have hb : ¬ sg = 0 := fun h => hb ((nI_eq (a := sg) (b := 0) (by omega) (by omega)).mpr h)
    refine gw_sipush (v := nI 217) hX nd_Mo_hash_9 rfl ?_
    refine gw_iload_n hX nd_Mo_hash_12 rfl 1 rfl ?_
    refine gw_iadd hX nd_Mo_hash_13 ?_
    refine gw_topi (y := nI (217 + sg)) (nI_add _ _) ?_
    refine gw_istore hX nd_Mo_hash_14 (by decide) (L' := [(4, .int (nI (217 + sg))), (0, .ref m), (1, .int (nI sg)), (2, .int (nI a)), (3, .int (nI e))]) rfl ?_
    refine gw_iload_n hX nd_Mo_hash_16 rfl 3 rfl ?_
    refine gw_istore hX nd_Mo_hash_17 (by decide) (L' := [(5, .int (nI a)), (4, .int (nI (217 + sg))), (0, .ref m), (1, .int (nI sg)), (2, .int (nI a)), (3, .int (nI e))]) rfl ?_
    refine gw_cut (ks := [2, 5, 1, 0]) (L' := [(0, .ref m), (3, .int (nI e)), (4, .int (nI (217 + sg))), (5, .int (nI a))]) rfl ?_
    rw [show (nI (217 + sg)) = px_h ch (31 * 7 + nI sg) a (a - a) from by rw [Nat.sub_self]; show _ = 31 * 7 + nI sg; rw [← nI_add]; exact congrArg (· + nI sg) (by decide : nI 217 = 31 * 7)]
    exact lp_Mo_hash m a e _ h0 ch hlen hch h1 hae he hX (by rw [hQ, if_neg (show ¬ sg = 0 by omega)]) hr (e - a) a (by omega) (Nat.le_refl _)
  · have hb : sg = 0 := (nI_eq (a := sg) (b := 0) (by omega) (by omega)).mp hb
    refine gw_bipush (v := nI 7) hX nd_Mo_hash_4 rfl ?_
    refine gw_goto (tgt := 14) hX nd_Mo_hash_6 rfl ?_
    refine gw_istore hX nd_Mo_hash_14 (by decide) (L' := [(4, .int (nI 7)), (0, .ref m), (1, .int (nI sg)), (2, .int (nI a)), (3, .int (nI e))]) rfl ?_
    refine gw_iload_n hX nd_Mo_hash_16 rfl 3 rfl ?_
    refine gw_istore hX nd_Mo_hash_17 (by decide) (L' := [(5, .int (nI a)), (4, .int (nI 7)), (0, .ref m), (1, .int (nI sg)), (2, .int (nI a)), (3, .int (nI e))]) rfl ?_
    refine gw_cut (ks := [2, 5, 1, 0]) (L' := [(0, .ref m), (3, .int (nI e)), (4, .int (nI 7)), (5, .int (nI a))]) rfl ?_
    rw [show (nI 7) = px_h ch 7 a (a - a) from by rw [Nat.sub_self]; rfl]
    exact lp_Mo_hash m a e _ h0 ch hlen hch h1 hae he hX (by rw [hQ, if_pos (show sg = 0 by omega)]) hr (e - a) a (by omega) (Nat.le_refl _)
