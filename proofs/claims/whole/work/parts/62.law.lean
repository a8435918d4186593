/-! the law's loop: what holds at its head -/
def la_I (σ : gw_S) (Z : gw_Z) (n k : Nat) : Prop := ∃ A : ab_A, ab_ok A ∧ ab_bd A (48 * k) ∧ cw σ Z n A ∧ (∃ th : Nat, mw σ Z (n + 124) A th) ∧ ∃ f : Nat → Int64, σ.2 (n + 137) = some (gw_J Z 1 f)
def la_C (X : gw_C) (b L : Nat) (xs : Nat → Int32) : Prop := gx_K (gw_b X) (gw_s X) ∧ gw_b X ≤ (gw_s X).heap.size ∧ X.1.2.1.stackTraces = false ∧ va_X b L xs (gw_s X) (gw_s X).heap ∧ b < (gw_s X).heap.size ∧ ¬ gw_b X ≤ b ∧ L ≤ 2048
section LAW
variable {X : gw_C} {cc : ByteArray} {own : String} {q : gw_N} {σ : gw_S} {ce sl pc : Nat} {Lo : List (Nat × Value)} {st : List Value}
theorem gw_sld (hX : gw_ok X cc own q) {b L : Nat} {xs : Nat → Int32} (hx : va_X b L xs (gw_s X) (gw_s X).heap) (hbl : b < (gw_s X).heap.size) (hbA : ¬ gw_b X ≤ b) (d : decode cc pc = .ok (.iaload, 1)) {x : Int32} (j : Nat) (hj : x = nI j) (hl : j < L) (hL : L ≤ 2048) (kk : gw_W X σ ce sl (pc + 1) Lo (.int (xs j) :: st)) : gw_W X σ ce sl pc Lo (.int x :: .ref b :: st) := by
  subst hj
  intro H locs ls hG hS hLv
  refine va_sld hX.1 hX.2.1 hx hbl hbA hS (i := nI j) (fun h => ?_) d ?_
  · rcases h with h | h
    · exact nI_pos (by omega) h
    · rw [nI_clamp (by omega)] at h
      omega
  · rw [nI_clamp (by omega)]
    exact kk H locs ls hG hS hLv
theorem gw_slen (hX : gw_ok X cc own q) {b L : Nat} {xs : Nat → Int32} (hx : va_X b L xs (gw_s X) (gw_s X).heap) (hbl : b < (gw_s X).heap.size) (hbA : ¬ gw_b X ≤ b) (d : decode cc pc = .ok (.arraylength, 1)) (kk : gw_W X σ ce sl (pc + 1) Lo (.int (nI L) :: st)) : gw_W X σ ce sl pc Lo (.ref b :: st) := by
  intro H locs ls hG hS hLv
  exact va_slen hX.1 hX.2.1 hx hbl hbA hS d (kk H locs ls hG hS hLv)
theorem gw_tsw (hX : gw_ok X cc own q) {dflt lo hi : Int} {offs : Array Int} {len : Nat} {x : Int32} {off : Int} {tgt : Nat} (d : decode cc pc = .ok (.tableswitch dflt lo hi offs, len)) (h1 : ¬ x.toInt < lo) (h2 : ¬ hi < x.toInt) (ho : offs[(x.toInt - lo).toNat]? = some off) (ht : (pc : Int) + off = (tgt : Int)) (kk : gw_W X σ ce sl tgt Lo st) : gw_W X σ ce sl pc Lo (.int x :: st) := by
  intro H locs ls hG hS hLv
  exact lv_tableIn hX.1 hX.2.1 d h1 h2 ho ht (kk H locs ls hG hS hLv)
end LAW
theorem sc_go {k L : Nat} (hL : L ≤ 2048) (hk : k ≤ 1000) (h : ¬ nI L - nI 4 < nI (4 * k)) : 4 * k + 4 ≤ L := by
  rw [Int32.lt_iff_toInt_lt, pk_sub_toInt (by omega) (by omega), nI_toInt (by omega)] at h
  omega
theorem kh_load : gy_sS "LabelLearnerLaw" 67 ny_La_load nc_La_load 3 (some .int) [(0, 8, 11, 13)] 2 := ⟨⟨gw_in_t 248 (by decide +kernel) rfl, gw_in_t 0 (by decide +kernel) rfl, by decide +kernel, by decide +kernel, by decide +kernel⟩, gw_in_t 247 (by decide +kernel) rfl⟩
theorem kh_speak : gy_sS "LabelLearnerLaw" 76 ny_La_speak nc_La_speak 3 (some .int) [(0, 8, 11, 13)] 2 := ⟨⟨gw_in_t 388 (by decide +kernel) rfl, gw_in_t 0 (by decide +kernel) rfl, by decide +kernel, by decide +kernel, by decide +kernel⟩, gw_in_t 387 (by decide +kernel) rfl⟩
theorem kh_words : gy_sS "LabelLearnerLaw" 83 ny_La_words nc_La_words 4 (some .int) [(0, 9, 12, 22)] 3 := ⟨⟨gw_in_t 400 (by decide +kernel) rfl, gw_in_t 0 (by decide +kernel) rfl, by decide +kernel, by decide +kernel, by decide +kernel⟩, gw_in_t 399 (by decide +kernel) rfl⟩
theorem kh_given : gy_sS "LabelLearnerLaw" 87 ny_La_given nc_La_given 5 (some .int) [(0, 10, 13, 22)] 4 := ⟨⟨gw_in_t 428 (by decide +kernel) rfl, gw_in_t 0 (by decide +kernel) rfl, by decide +kernel, by decide +kernel, by decide +kernel⟩, gw_in_t 427 (by decide +kernel) rfl⟩
theorem kh_feature : gy_sS "LabelLearnerLaw" 91 ny_La_feature nc_La_feature 6 (some .int) [(0, 12, 15, 22)] 5 := ⟨⟨gw_in_t 440 (by decide +kernel) rfl, gw_in_t 0 (by decide +kernel) rfl, by decide +kernel, by decide +kernel, by decide +kernel⟩, gw_in_t 439 (by decide +kernel) rfl⟩
theorem kh_label : gy_sS "LabelLearnerLaw" 114 ny_La_label nc_La_label 4 (some .int) [(0, 9, 12, 22)] 3 := ⟨⟨gw_in_t 512 (by decide +kernel) rfl, gw_in_t 0 (by decide +kernel) rfl, by decide +kernel, by decide +kernel, by decide +kernel⟩, gw_in_t 511 (by decide +kernel) rfl⟩
theorem kh_weight : gy_sS "LabelLearnerLaw" 106 ny_La_weight nc_La_weight 6 (some .int) [(0, 11, 14, 22)] 5 := ⟨⟨gw_in_t 496 (by decide +kernel) rfl, gw_in_t 0 (by decide +kernel) rfl, by decide +kernel, by decide +kernel, by decide +kernel⟩, gw_in_t 495 (by decide +kernel) rfl⟩
theorem kh_score : gy_sS "LabelLearnerLaw" 117 ny_La_score nc_La_score 6 (some .int) [(0, 11, 14, 22)] 5 := ⟨⟨gw_in_t 519 (by decide +kernel) rfl, gw_in_t 0 (by decide +kernel) rfl, by decide +kernel, by decide +kernel, by decide +kernel⟩, gw_in_t 518 (by decide +kernel) rfl⟩
theorem kh_decode : gy_sS "LabelLearnerLaw" 110 ny_La_decode nc_La_decode 6 (some .int) [(0, 11, 14, 22)] 5 := ⟨⟨gw_in_t 505 (by decide +kernel) rfl, gw_in_t 0 (by decide +kernel) rfl, by decide +kernel, by decide +kernel, by decide +kernel⟩, gw_in_t 504 (by decide +kernel) rfl⟩
theorem kh_learn : gy_sS "LabelLearnerLaw" 95 ny_La_learn nc_La_learn 4 (some .int) [(0, 9, 12, 13), (0, 9, 15, 35)] 3 := ⟨⟨gw_in_t 449 (by decide +kernel) rfl, gw_in_t 0 (by decide +kernel) rfl, by decide +kernel, by decide +kernel, by decide +kernel⟩, gw_in_t 448 (by decide +kernel) rfl⟩
set_option maxRecDepth 100000 in
set_option maxHeartbeats 8000000 in
theorem la_type {X : gw_C} (hX : gw_ok X nc_La_law "LabelLearnerLaw" (8, 11, 394, 601024, 7293033)) {b L : Nat} {xs : Nat → Int32} (hCx : la_C X b L xs) (n k : Nat) (hk4 : 4 * k + 4 ≤ L) (K : ∀ σ' : gw_S, la_I σ' (gw_z X) n (k + 1) → gw_W X σ' (138 + 3 * (k + 1)) (2200 + 18 * (k + 1)) 23 [(0, .ref b), (1, .ref n), (2, .ref (n + 124)), (3, .ref (n + 137)), (4, .int (nI (4 * k + 4)))] []) (σ : gw_S) (hI : la_I σ (gw_z X) n k) : gw_W X σ (138 + 3 * k) (2200 + 18 * k) 116 [(0, .ref b), (1, .ref n), (2, .ref (n + 124)), (3, .ref (n + 137)), (4, .int (nI (4 * k)))] [] := by
  obtain ⟨A, hA, hbd, ⟨c, cd, s, sd, hC⟩, ⟨th, hmw⟩, f, ho⟩ := hI
  obtain ⟨hK, hb0, hl0, hx, hbl, hbA, hL⟩ := hCx
  refine gw_aload_n hX nd_La_law_116 rfl 1 rfl ?_
  refine gw_aload_n hX nd_La_law_117 rfl 0 rfl ?_
  refine gw_iload hX nd_La_law_118 4 rfl ?_
  refine gw_iconst (v := nI 1) hX nd_La_law_120 rfl ?_
  refine gw_iadd hX nd_La_law_121 ?_
  refine gw_topi (y := nI (4 * k + 1)) (nI_add _ _) ?_
  refine gw_sld hX hx hbl hbA nd_La_law_122 (4 * k + 1) rfl (by omega) hL ?_
  refine gw_i2l hX nd_La_law_123 ?_
  refine gw_bipush (v := nI 32) hX nd_La_law_124 rfl ?_
  refine gw_lshl hX nd_La_law_126 ?_
  refine gw_aload_n hX nd_La_law_127 rfl 0 rfl ?_
  refine gw_iload hX nd_La_law_128 4 rfl ?_
  refine gw_iconst (v := nI 2) hX nd_La_law_130 rfl ?_
  refine gw_iadd hX nd_La_law_131 ?_
  refine gw_topi (y := nI (4 * k + 2)) (nI_add _ _) ?_
  refine gw_sld hX hx hbl hbA nd_La_law_132 (4 * k + 2) rfl (by omega) hL ?_
  refine gw_i2l hX nd_La_law_133 ?_
  refine gw_ldc2 (v := 4294967295) hX (gw_in_t 750 (by decide +kernel) rfl) nd_La_law_134 ?_
  refine gw_topl (y := 4294967295) rfl ?_
  refine gw_land hX nd_La_law_137 ?_
  refine gw_lor hX nd_La_law_138 ?_
  refine gw_aload_n hX nd_La_law_139 rfl 0 rfl ?_
  refine gw_iload hX nd_La_law_140 4 rfl ?_
  refine gw_iconst (v := nI 3) hX nd_La_law_142 rfl ?_
  refine gw_iadd hX nd_La_law_143 ?_
  refine gw_topi (y := nI (4 * k + 3)) (nI_add _ _) ?_
  refine gw_sld hX hx hbl hbA nd_La_law_144 (4 * k + 3) rfl (by omega) hL ?_
  refine gw_callV (rest := []) hX ks_La_57 (ct_LL_type _ _ _ σ n c cd s sd A hA hC (((((xs (4 * k + 1))).toInt64) <<< ((nI 32).toInt64 &&& 63)) ||| ((((xs (4 * k + 2))).toInt64) &&& 4294967295)) (xs (4 * k + 3))) hC.2.1 rfl rfl (Nat.le_of_ble_eq_true rfl) nd_La_law_145 (by refine ⟨⟨by decide, by decide⟩, ?_, ?_⟩; (show (138 + 3 * k) + 0 ≤ 601024; omega); (show (2200 + 18 * k) + 0 ≤ 7293033; omega)) ?_
  rintro v_ σ1 ⟨⟨u, B, ht, hu, rfl, hC1⟩, hf⟩
  have hmw1 : mw σ1 (gw_z X) (n + 124) A th := mw_mv hmw (fun b h1 h2 => hf.2 b (by omega))
  have ho : σ1.2 (n + 137) = some (gw_J (gw_z X) 1 f) := (hf.2 _ (by omega)).trans ho
  obtain ⟨rs, be, se, kp, kw, bs, s2, fm, fb, fl, hM, hO⟩ := hmw1
  show gw_W X σ1 (138 + 3 * k) (2200 + 18 * k) 148 [(0, .ref b), (1, .ref n), (2, .ref (n + 124)), (3, .ref (n + 137)), (4, .int (nI (4 * k)))] [.int (nI u)]
  refine gw_aload_n hX nd_La_law_148 rfl 2 rfl ?_
  refine gw_aload_n hX nd_La_law_149 rfl 0 rfl ?_
  refine gw_iload hX nd_La_law_150 4 rfl ?_
  refine gw_iconst (v := nI 1) hX nd_La_law_152 rfl ?_
  refine gw_iadd hX nd_La_law_153 ?_
  refine gw_topi (y := nI (4 * k + 1)) (nI_add _ _) ?_
  refine gw_sld hX hx hbl hbA nd_La_law_154 (4 * k + 1) rfl (by omega) hL ?_
  refine gw_i2l hX nd_La_law_155 ?_
  refine gw_bipush (v := nI 32) hX nd_La_law_156 rfl ?_
  refine gw_lshl hX nd_La_law_158 ?_
  refine gw_aload_n hX nd_La_law_159 rfl 0 rfl ?_
  refine gw_iload hX nd_La_law_160 4 rfl ?_
  refine gw_iconst (v := nI 2) hX nd_La_law_162 rfl ?_
  refine gw_iadd hX nd_La_law_163 ?_
  refine gw_topi (y := nI (4 * k + 2)) (nI_add _ _) ?_
  refine gw_sld hX hx hbl hbA nd_La_law_164 (4 * k + 2) rfl (by omega) hL ?_
  refine gw_i2l hX nd_La_law_165 ?_
  refine gw_ldc2 (v := 4294967295) hX (gw_in_t 750 (by decide +kernel) rfl) nd_La_law_166 ?_
  refine gw_topl (y := 4294967295) rfl ?_
  refine gw_land hX nd_La_law_169 ?_
  refine gw_lor hX nd_La_law_170 ?_
  refine gw_aload_n hX nd_La_law_171 rfl 0 rfl ?_
  refine gw_iload hX nd_La_law_172 4 rfl ?_
  refine gw_iconst (v := nI 3) hX nd_La_law_174 rfl ?_
  refine gw_iadd hX nd_La_law_175 ?_
  refine gw_topi (y := nI (4 * k + 3)) (nI_add _ _) ?_
  refine gw_sld hX hx hbl hbA nd_La_law_176 (4 * k + 3) rfl (by omega) hL ?_
  refine gw_callV (rest := [.int (nI u)]) hX ks_La_61 (ct_Mo_type _ _ _ σ1 (n + 124) A hA hM hO (((((xs (4 * k + 1))).toInt64) <<< ((nI 32).toInt64 &&& 63)) ||| ((((xs (4 * k + 2))).toInt64) &&& 4294967295)) (xs (4 * k + 3))) hM.1 rfl rfl (Nat.le_of_ble_eq_true rfl) nd_La_law_177 (by refine ⟨⟨by decide, by decide⟩, ?_, ?_⟩; (show (138 + 3 * k) + 0 ≤ 601024; omega); (show (2200 + 18 * k) + 0 ≤ 7293033; omega)) ?_
  rintro v_ σ2 ⟨⟨u2, B2, ht2, hu2, rfl, hmw2⟩, hfo2⟩
  obtain ⟨e1, e2⟩ := ab_t_un ht ht2
  subst e1 e2
  have hB := ab_t_ok hA ht
  have hcw2 : cw σ2 (gw_z X) n B := cw_mv ⟨c, cd, s, sd, hC1⟩ (fun b h1 h2 => hfo2 b (by omega)) hB
  have ho : σ2.2 (n + 137) = some (gw_J (gw_z X) 1 f) := (hfo2 _ (by omega)).trans ho
  show gw_W X σ2 (138 + 3 * k) (2200 + 18 * k) 180 [(0, .ref b), (1, .ref n), (2, .ref (n + 124)), (3, .ref (n + 137)), (4, .int (nI (4 * k)))] [.int (nI u), .int (nI u)]
  refine gw_icmp_eq (tgt := 995) hX nd_La_law_180 rfl (fun hb => ?_) (fun hb => ?_)
  · skip
    refine gw_iinc hX nd_La_law_995 4 rfl (v := nI (4 * k + 4)) (show nI (4 * k) + nI 4 = nI (4 * k + 4) from nI_add _ _) (by decide) (L' := [(4, .int (nI (4 * k + 4))), (0, .ref b), (1, .ref n), (2, .ref (n + 124)), (3, .ref (n + 137))]) rfl ?_
    refine gw_goto (tgt := 23) hX nd_La_law_998 rfl ?_
    refine gw_cut (ks := [1, 2, 3, 4, 0]) (L' := [(0, .ref b), (1, .ref n), (2, .ref (n + 124)), (3, .ref (n + 137)), (4, .int (nI (4 * k + 4)))]) rfl ?_
    refine gw_wide (ce' := 138 + 3 * (k + 1)) (sl' := 2200 + 18 * (k + 1)) (by omega) (by omega) ?_
    exact K _ ⟨B, hB, ab_t_bd (ab_bd_mono hbd (by omega)) ht, hcw2, ⟨_, hmw2⟩, ⟨_, ho⟩⟩
  · skip
    exact absurd rfl hb
set_option maxRecDepth 100000 in
set_option maxHeartbeats 8000000 in
theorem la_cut {X : gw_C} (hX : gw_ok X nc_La_law "LabelLearnerLaw" (8, 11, 394, 601024, 7293033)) {b L : Nat} {xs : Nat → Int32} (hCx : la_C X b L xs) (n k : Nat) (hk4 : 4 * k + 4 ≤ L) (K : ∀ σ' : gw_S, la_I σ' (gw_z X) n (k + 1) → gw_W X σ' (138 + 3 * (k + 1)) (2200 + 18 * (k + 1)) 23 [(0, .ref b), (1, .ref n), (2, .ref (n + 124)), (3, .ref (n + 137)), (4, .int (nI (4 * k + 4)))] []) (σ : gw_S) (hI : la_I σ (gw_z X) n k) : gw_W X σ (138 + 3 * k) (2200 + 18 * k) 185 [(0, .ref b), (1, .ref n), (2, .ref (n + 124)), (3, .ref (n + 137)), (4, .int (nI (4 * k)))] [] := by
  obtain ⟨A, hA, hbd, ⟨c, cd, s, sd, hC⟩, ⟨th, hmw⟩, f, ho⟩ := hI
  obtain ⟨hK, hb0, hl0, hx, hbl, hbA, hL⟩ := hCx
  refine gw_aload_n hX nd_La_law_185 rfl 1 rfl ?_
  refine gw_aload_n hX nd_La_law_186 rfl 0 rfl ?_
  refine gw_iload hX nd_La_law_187 4 rfl ?_
  refine gw_iconst (v := nI 1) hX nd_La_law_189 rfl ?_
  refine gw_iadd hX nd_La_law_190 ?_
  refine gw_topi (y := nI (4 * k + 1)) (nI_add _ _) ?_
  refine gw_sld hX hx hbl hbA nd_La_law_191 (4 * k + 1) rfl (by omega) hL ?_
  refine gw_callV (rest := []) hX ks_La_62 (ct_LL_cut _ _ _ σ n c cd s sd A hA hC (xs (4 * k + 1))) hC.2.1 rfl rfl (Nat.le_of_ble_eq_true rfl) nd_La_law_192 (by refine ⟨⟨by decide, by decide⟩, ?_, ?_⟩; (show (138 + 3 * k) + 0 ≤ 601024; omega); (show (2200 + 18 * k) + 0 ≤ 7293033; omega)) ?_
  rintro v_ σ1 ⟨⟨u, B, ht, hu, rfl, hC1⟩, hf⟩
  have hmw1 : mw σ1 (gw_z X) (n + 124) A th := mw_mv hmw (fun b h1 h2 => hf.2 b (by omega))
  have ho : σ1.2 (n + 137) = some (gw_J (gw_z X) 1 f) := (hf.2 _ (by omega)).trans ho
  obtain ⟨rs, be, se, kp, kw, bs, s2, fm, fb, fl, hM, hO⟩ := hmw1
  show gw_W X σ1 (138 + 3 * k) (2200 + 18 * k) 195 [(0, .ref b), (1, .ref n), (2, .ref (n + 124)), (3, .ref (n + 137)), (4, .int (nI (4 * k)))] [.int (nI u)]
  refine gw_aload_n hX nd_La_law_195 rfl 2 rfl ?_
  refine gw_aload_n hX nd_La_law_196 rfl 0 rfl ?_
  refine gw_iload hX nd_La_law_197 4 rfl ?_
  refine gw_iconst (v := nI 1) hX nd_La_law_199 rfl ?_
  refine gw_iadd hX nd_La_law_200 ?_
  refine gw_topi (y := nI (4 * k + 1)) (nI_add _ _) ?_
  refine gw_sld hX hx hbl hbA nd_La_law_201 (4 * k + 1) rfl (by omega) hL ?_
  refine gw_callV (rest := [.int (nI u)]) hX ks_La_66 (ct_Mo_cut _ _ _ σ1 (n + 124) A hA hM hO (xs (4 * k + 1))) hM.1 rfl rfl (Nat.le_of_ble_eq_true rfl) nd_La_law_202 (by refine ⟨⟨by decide, by decide⟩, ?_, ?_⟩; (show (138 + 3 * k) + 0 ≤ 601024; omega); (show (2200 + 18 * k) + 0 ≤ 7293033; omega)) ?_
  rintro v_ σ2 ⟨⟨u2, B2, ht2, hu2, rfl, hmw2⟩, hfo2⟩
  obtain ⟨e1, e2⟩ := ab_c_un hA ht ht2
  subst e1 e2
  have hB := ab_c_ok hA ht
  have hcw2 : cw σ2 (gw_z X) n B := cw_mv ⟨c, cd, s, sd, hC1⟩ (fun b h1 h2 => hfo2 b (by omega)) hB
  have ho : σ2.2 (n + 137) = some (gw_J (gw_z X) 1 f) := (hfo2 _ (by omega)).trans ho
  show gw_W X σ2 (138 + 3 * k) (2200 + 18 * k) 205 [(0, .ref b), (1, .ref n), (2, .ref (n + 124)), (3, .ref (n + 137)), (4, .int (nI (4 * k)))] [.int (nI u), .int (nI u)]
  refine gw_icmp_eq (tgt := 995) hX nd_La_law_205 rfl (fun hb => ?_) (fun hb => ?_)
  · skip
    refine gw_iinc hX nd_La_law_995 4 rfl (v := nI (4 * k + 4)) (show nI (4 * k) + nI 4 = nI (4 * k + 4) from nI_add _ _) (by decide) (L' := [(4, .int (nI (4 * k + 4))), (0, .ref b), (1, .ref n), (2, .ref (n + 124)), (3, .ref (n + 137))]) rfl ?_
    refine gw_goto (tgt := 23) hX nd_La_law_998 rfl ?_
    refine gw_cut (ks := [1, 2, 3, 4, 0]) (L' := [(0, .ref b), (1, .ref n), (2, .ref (n + 124)), (3, .ref (n + 137)), (4, .int (nI (4 * k + 4)))]) rfl ?_
    refine gw_wide (ce' := 138 + 3 * (k + 1)) (sl' := 2200 + 18 * (k + 1)) (by omega) (by omega) ?_
    exact K _ ⟨B, hB, ab_c_bd (ab_bd_mono hbd (by omega)) ht, hcw2, ⟨_, hmw2⟩, ⟨_, ho⟩⟩
  · skip
    exact absurd rfl hb
set_option maxRecDepth 100000 in
set_option maxHeartbeats 8000000 in
theorem la_load {X : gw_C} (hX : gw_ok X nc_La_law "LabelLearnerLaw" (8, 11, 394, 601024, 7293033)) {b L : Nat} {xs : Nat → Int32} (hCx : la_C X b L xs) (n k : Nat) (hk4 : 4 * k + 4 ≤ L) (K : ∀ σ' : gw_S, la_I σ' (gw_z X) n (k + 1) → gw_W X σ' (138 + 3 * (k + 1)) (2200 + 18 * (k + 1)) 23 [(0, .ref b), (1, .ref n), (2, .ref (n + 124)), (3, .ref (n + 137)), (4, .int (nI (4 * k + 4)))] []) (σ : gw_S) (hI : la_I σ (gw_z X) n k) : gw_W X σ (138 + 3 * k) (2200 + 18 * k) 210 [(0, .ref b), (1, .ref n), (2, .ref (n + 124)), (3, .ref (n + 137)), (4, .int (nI (4 * k)))] [] := by
  obtain ⟨A, hA, hbd, ⟨c, cd, s, sd, hC⟩, ⟨th, hmw⟩, f, ho⟩ := hI
  obtain ⟨hK, hb0, hl0, hx, hbl, hbA, hL⟩ := hCx
  refine gw_aload_n hX nd_La_law_210 rfl 1 rfl ?_
  refine gw_aload_n hX nd_La_law_211 rfl 3 rfl ?_
  refine gy_callS (rest := []) hX hK hb0 kh_load (gw_in_t 246 (by decide +kernel) rfl) (ct_La_load _ hl0 _ _ σ n c cd s sd A hA hC (n + 137) f ho (by omega) ) rfl rfl (Nat.le_of_ble_eq_true rfl) nd_La_law_212 (by refine ⟨⟨by decide, by decide⟩, ?_, ?_⟩; (show (138 + 3 * k) + 1 ≤ 601024; omega); (show (2200 + 18 * k) + 6 ≤ 7293033; omega)) (fun E_ s_ hx_ => hx_.elim) ?_
  rintro v_ σ1 ⟨hor, hfo⟩
  have hmw1 : mw σ1 (gw_z X) (n + 124) A th := mw_mv hmw (fun b h1 h2 => hfo b (by omega) (by omega))
  obtain ⟨rs, be, se, kp, kw, bs, s2, fm, fb, fl, hM, hO⟩ := hmw1
  rcases hor with ⟨ss, heq, rfl, hA2, hcw, ho⟩ | ⟨hnone, rfl, hcw, ho⟩
  · show gw_W X σ1 ((138 + 3 * k) + 1) ((2200 + 18 * k) + 6) 215 [(0, .ref b), (1, .ref n), (2, .ref (n + 124)), (3, .ref (n + 137)), (4, .int (nI (4 * k)))] [.int (nI 0)]
    refine gw_istore hX nd_La_law_215 (by decide) (L' := [(5, .int (nI 0)), (0, .ref b), (1, .ref n), (2, .ref (n + 124)), (3, .ref (n + 137)), (4, .int (nI (4 * k)))]) rfl ?_
    refine gw_aload_n hX nd_La_law_217 rfl 3 rfl ?_
    refine gw_callV (rest := []) hX ks_La_72 (ct_Mo_load _ _ _ σ1 (n + 124) A hA hM hO ) hM.1 rfl rfl (Nat.le_of_ble_eq_true rfl) nd_La_law_218 (by refine ⟨⟨by decide, by decide⟩, ?_, ?_⟩; (show ((138 + 3 * k) + 1) + 0 ≤ 601024; omega); (show ((2200 + 18 * k) + 6) + 0 ≤ 7293033; omega)) ?_
    rintro v_ σ2 ⟨hor2, hfo2⟩
    rcases hor2 with ⟨ss9, heq2, rfl, hmw2⟩ | ⟨hnone2, rfl, hmw2⟩
    · skip
      cases heq.symm.trans heq2
      show gw_W X σ2 ((138 + 3 * k) + 1) ((2200 + 18 * k) + 6) 221 [(5, .int (nI 0)), (0, .ref b), (1, .ref n), (2, .ref (n + 124)), (3, .ref (n + 137)), (4, .int (nI (4 * k)))] [.int (nI ss.length)]
      have hcw2 : cw σ2 (gw_z X) n (ab_ld A ss) := cw_mv hcw (fun b h1 h2 => hfo2 b (by omega)) hA2
      have ho : σ2.2 (n + 137) = some ((gw_J (gw_z X) 1 (vp_updL f 0 ((nI ss.length).toInt64)))) := (hfo2 _ (by omega)).trans ho
      obtain ⟨rs2, be2, se2, kp2, kw2, bs2, s22, fm2, fb2, fl2, hM2, hO2⟩ := id hmw2
      refine gw_istore hX nd_La_law_221 (by decide) (L' := [(6, .int (nI ss.length)), (5, .int (nI 0)), (0, .ref b), (1, .ref n), (2, .ref (n + 124)), (3, .ref (n + 137)), (4, .int (nI (4 * k)))]) rfl ?_
      refine gw_aload_n hX nd_La_law_223 rfl 4 rfl ?_
      refine gw_callV (rest := []) hX ks_La_73 (ct_Mo_thrown _ _ _ σ2 (n + 124) hM2.1) hM2.1 rfl rfl (Nat.le_of_ble_eq_true rfl) nd_La_law_224 (by refine ⟨⟨by decide, by decide⟩, ?_, ?_⟩; (show ((138 + 3 * k) + 1) + 0 ≤ 601024; omega); (show ((2200 + 18 * k) + 6) + 0 ≤ 7293033; omega)) ?_
      rintro v_ s_ ⟨hv_, hs_⟩
      have hs_ := hs_.symm
      subst hs_ hv_
      show gw_W X σ2 ((138 + 3 * k) + 1) ((2200 + 18 * k) + 6) 227 [(6, .int (nI ss.length)), (5, .int (nI 0)), (0, .ref b), (1, .ref n), (2, .ref (n + 124)), (3, .ref (n + 137)), (4, .int (nI (4 * k)))] [.int (nI 0)]
      refine gw_iload hX nd_La_law_227 1 rfl ?_
      refine gw_icmp_eq (tgt := 234) hX nd_La_law_229 rfl (fun hb => ?_) (fun hb => ?_)
      · skip
        refine gw_iload hX nd_La_law_234 1 rfl ?_
        refine gw_if_ne (tgt := 251) hX nd_La_law_236 rfl (fun hb => ?_) (fun hb => ?_)
        · have hb : ¬ 0 = 0 := fun h => hb ((nI_eq (a := 0) (b := 0) (by omega) (by omega)).mpr h)
          exfalso; omega
        · have hb : 0 = 0 := (nI_eq (a := 0) (b := 0) (by omega) (by omega)).mp hb
          refine gw_aload_n hX nd_La_law_239 rfl 5 rfl ?_
          refine gw_iconst (v := nI 0) hX nd_La_law_240 rfl ?_
          refine gw_lald hX nd_La_law_241 ho 0 rfl (by omega) (by decide) ?_
          refine gw_topl (y := (nI ss.length).toInt64) (if_pos rfl) ?_
          refine gw_iload hX nd_La_law_242 0 rfl ?_
          refine gw_i2l hX nd_La_law_244 ?_
          refine gw_topl (y := (nI ss.length).toInt64) rfl ?_
          refine gw_lcmp hX nd_La_law_245 ?_
          refine gw_if_eq (tgt := 251) hX nd_La_law_246 rfl (fun hb => ?_) (fun hb => ?_)
          · skip
            refine gw_goto (tgt := 995) hX nd_La_law_251 rfl ?_
            refine gw_iinc hX nd_La_law_995 6 rfl (v := nI (4 * k + 4)) (show nI (4 * k) + nI 4 = nI (4 * k + 4) from nI_add _ _) (by decide) (L' := [(4, .int (nI (4 * k + 4))), (6, .int (nI ss.length)), (5, .int (nI 0)), (0, .ref b), (1, .ref n), (2, .ref (n + 124)), (3, .ref (n + 137))]) rfl ?_
            refine gw_goto (tgt := 23) hX nd_La_law_998 rfl ?_
            refine gw_cut (ks := [3, 4, 5, 6, 0]) (L' := [(0, .ref b), (1, .ref n), (2, .ref (n + 124)), (3, .ref (n + 137)), (4, .int (nI (4 * k + 4)))]) rfl ?_
            refine gw_wide (ce' := 138 + 3 * (k + 1)) (sl' := 2200 + 18 * (k + 1)) (by omega) (by omega) ?_
            exact K _ ⟨(ab_ld A ss), hA2, ab_bd_z _ (fun _ => rfl) (fun _ => rfl), hcw2, ⟨_, hmw2⟩, ⟨_, ho⟩⟩
          · skip
            exact absurd ((lg_cmp_eq _ _).mpr rfl) hb
      · skip
        exact absurd rfl hb
    · exact absurd (heq.symm.trans hnone2) (by simp)
  · show gw_W X σ1 ((138 + 3 * k) + 1) ((2200 + 18 * k) + 6) 215 [(0, .ref b), (1, .ref n), (2, .ref (n + 124)), (3, .ref (n + 137)), (4, .int (nI (4 * k)))] [.int (nI 1)]
    refine gw_istore hX nd_La_law_215 (by decide) (L' := [(5, .int (nI 1)), (0, .ref b), (1, .ref n), (2, .ref (n + 124)), (3, .ref (n + 137)), (4, .int (nI (4 * k)))]) rfl ?_
    refine gw_aload_n hX nd_La_law_217 rfl 3 rfl ?_
    refine gw_callV (rest := []) hX ks_La_72 (ct_Mo_load _ _ _ σ1 (n + 124) A hA hM hO ) hM.1 rfl rfl (Nat.le_of_ble_eq_true rfl) nd_La_law_218 (by refine ⟨⟨by decide, by decide⟩, ?_, ?_⟩; (show ((138 + 3 * k) + 1) + 0 ≤ 601024; omega); (show ((2200 + 18 * k) + 6) + 0 ≤ 7293033; omega)) ?_
    rintro v_ σ3 ⟨hor2, hfo2⟩
    rcases hor2 with ⟨ss9, heq2, rfl, hmw2⟩ | ⟨hnone2, rfl, hmw2⟩
    · exact absurd (heq2.symm.trans hnone) (by simp)
    · skip
      show gw_W X σ3 ((138 + 3 * k) + 1) ((2200 + 18 * k) + 6) 221 [(5, .int (nI 1)), (0, .ref b), (1, .ref n), (2, .ref (n + 124)), (3, .ref (n + 137)), (4, .int (nI (4 * k)))] [.int (nI 0)]
      have hcw2 : cw σ3 (gw_z X) n A := cw_mv hcw (fun b h1 h2 => hfo2 b (by omega)) hA
      have ho : σ3.2 (n + 137) = some ((gw_J (gw_z X) 1 f)) := (hfo2 _ (by omega)).trans ho
      obtain ⟨rs2, be2, se2, kp2, kw2, bs2, s22, fm2, fb2, fl2, hM2, hO2⟩ := id hmw2
      refine gw_istore hX nd_La_law_221 (by decide) (L' := [(6, .int (nI 0)), (5, .int (nI 1)), (0, .ref b), (1, .ref n), (2, .ref (n + 124)), (3, .ref (n + 137)), (4, .int (nI (4 * k)))]) rfl ?_
      refine gw_aload_n hX nd_La_law_223 rfl 4 rfl ?_
      refine gw_callV (rest := []) hX ks_La_73 (ct_Mo_thrown _ _ _ σ3 (n + 124) hM2.1) hM2.1 rfl rfl (Nat.le_of_ble_eq_true rfl) nd_La_law_224 (by refine ⟨⟨by decide, by decide⟩, ?_, ?_⟩; (show ((138 + 3 * k) + 1) + 0 ≤ 601024; omega); (show ((2200 + 18 * k) + 6) + 0 ≤ 7293033; omega)) ?_
      rintro v_ s_ ⟨hv_, hs_⟩
      have hs_ := hs_.symm
      subst hs_ hv_
      show gw_W X σ3 ((138 + 3 * k) + 1) ((2200 + 18 * k) + 6) 227 [(6, .int (nI 0)), (5, .int (nI 1)), (0, .ref b), (1, .ref n), (2, .ref (n + 124)), (3, .ref (n + 137)), (4, .int (nI (4 * k)))] [.int (nI 1)]
      refine gw_iload hX nd_La_law_227 1 rfl ?_
      refine gw_icmp_eq (tgt := 234) hX nd_La_law_229 rfl (fun hb => ?_) (fun hb => ?_)
      · skip
        refine gw_iload hX nd_La_law_234 1 rfl ?_
        refine gw_if_ne (tgt := 251) hX nd_La_law_236 rfl (fun hb => ?_) (fun hb => ?_)
        · have hb : ¬ 1 = 0 := fun h => hb ((nI_eq (a := 1) (b := 0) (by omega) (by omega)).mpr h)
          refine gw_goto (tgt := 995) hX nd_La_law_251 rfl ?_
          refine gw_iinc hX nd_La_law_995 6 rfl (v := nI (4 * k + 4)) (show nI (4 * k) + nI 4 = nI (4 * k + 4) from nI_add _ _) (by decide) (L' := [(4, .int (nI (4 * k + 4))), (6, .int (nI 0)), (5, .int (nI 1)), (0, .ref b), (1, .ref n), (2, .ref (n + 124)), (3, .ref (n + 137))]) rfl ?_
          refine gw_goto (tgt := 23) hX nd_La_law_998 rfl ?_
          refine gw_cut (ks := [3, 4, 5, 6, 0]) (L' := [(0, .ref b), (1, .ref n), (2, .ref (n + 124)), (3, .ref (n + 137)), (4, .int (nI (4 * k + 4)))]) rfl ?_
          refine gw_wide (ce' := 138 + 3 * (k + 1)) (sl' := 2200 + 18 * (k + 1)) (by omega) (by omega) ?_
          exact K _ ⟨A, hA, ab_bd_mono hbd (by omega), hcw2, ⟨_, hmw2⟩, ⟨_, ho⟩⟩
        · have hb : 1 = 0 := (nI_eq (a := 1) (b := 0) (by omega) (by omega)).mp hb
          exfalso; omega
      · skip
        exact absurd rfl hb
set_option maxRecDepth 100000 in
set_option maxHeartbeats 8000000 in
theorem la_speak {X : gw_C} (hX : gw_ok X nc_La_law "LabelLearnerLaw" (8, 11, 394, 601024, 7293033)) {b L : Nat} {xs : Nat → Int32} (hCx : la_C X b L xs) (n k : Nat) (hk4 : 4 * k + 4 ≤ L) (K : ∀ σ' : gw_S, la_I σ' (gw_z X) n (k + 1) → gw_W X σ' (138 + 3 * (k + 1)) (2200 + 18 * (k + 1)) 23 [(0, .ref b), (1, .ref n), (2, .ref (n + 124)), (3, .ref (n + 137)), (4, .int (nI (4 * k + 4)))] []) (σ : gw_S) (hI : la_I σ (gw_z X) n k) : gw_W X σ (138 + 3 * k) (2200 + 18 * k) 254 [(0, .ref b), (1, .ref n), (2, .ref (n + 124)), (3, .ref (n + 137)), (4, .int (nI (4 * k)))] [] := by
  obtain ⟨A, hA, hbd, ⟨c, cd, s, sd, hC⟩, ⟨th, hmw⟩, f, ho⟩ := hI
  obtain ⟨hK, hb0, hl0, hx, hbl, hbA, hL⟩ := hCx
  refine gw_aload_n hX nd_La_law_254 rfl 1 rfl ?_
  refine gw_aload_n hX nd_La_law_255 rfl 3 rfl ?_
  refine gy_callS (rest := []) hX hK hb0 kh_speak (gw_in_t 386 (by decide +kernel) rfl) (ct_La_speak _ hl0 _ _ σ n c cd s sd A hA hC (n + 137) f ho (by omega) ) rfl rfl (Nat.le_of_ble_eq_true rfl) nd_La_law_256 (by refine ⟨⟨by decide, by decide⟩, ?_, ?_⟩; (show (138 + 3 * k) + 1 ≤ 601024; omega); (show (2200 + 18 * k) + 6 ≤ 7293033; omega)) (fun E_ s_ hx_ => hx_.elim) ?_
  rintro v_ σ1 ⟨hor, hfo⟩
  have hmw1 : mw σ1 (gw_z X) (n + 124) A th := mw_mv hmw (fun b h1 h2 => hfo b (by omega) (by omega))
  obtain ⟨rs, be, se, kp, kw, bs, s2, fm, fb, fl, hM, hO⟩ := hmw1
  rcases hor with ⟨ws, heq, rfl, hA2, hcw, ho⟩ | ⟨hnone, rfl, hcw, ho⟩
  · show gw_W X σ1 ((138 + 3 * k) + 1) ((2200 + 18 * k) + 6) 259 [(0, .ref b), (1, .ref n), (2, .ref (n + 124)), (3, .ref (n + 137)), (4, .int (nI (4 * k)))] [.int (nI 0)]
    refine gw_istore hX nd_La_law_259 (by decide) (L' := [(5, .int (nI 0)), (0, .ref b), (1, .ref n), (2, .ref (n + 124)), (3, .ref (n + 137)), (4, .int (nI (4 * k)))]) rfl ?_
    refine gw_aload_n hX nd_La_law_261 rfl 3 rfl ?_
    refine gw_callV (rest := []) hX ks_La_78 (ct_Mo_speak _ _ _ σ1 (n + 124) A hA hM hO ) hM.1 rfl rfl (Nat.le_of_ble_eq_true rfl) nd_La_law_262 (by refine ⟨⟨by decide, by decide⟩, ?_, ?_⟩; (show ((138 + 3 * k) + 1) + 0 ≤ 601024; omega); (show ((2200 + 18 * k) + 6) + 0 ≤ 7293033; omega)) ?_
    rintro v_ σ2 ⟨hor2, hfo2⟩
    rcases hor2 with ⟨ws9, heq2, rfl, hmw2⟩ | ⟨hnone2, rfl, hmw2⟩
    · skip
      cases heq.symm.trans heq2
      show gw_W X σ2 ((138 + 3 * k) + 1) ((2200 + 18 * k) + 6) 265 [(5, .int (nI 0)), (0, .ref b), (1, .ref n), (2, .ref (n + 124)), (3, .ref (n + 137)), (4, .int (nI (4 * k)))] [.int (nI ws.length)]
      have hcw2 : cw σ2 (gw_z X) n (ab_sk A ws) := cw_mv hcw (fun b h1 h2 => hfo2 b (by omega)) hA2
      have ho : σ2.2 (n + 137) = some ((gw_J (gw_z X) 1 (vp_updL f 0 ((nI ws.length).toInt64)))) := (hfo2 _ (by omega)).trans ho
      obtain ⟨rs2, be2, se2, kp2, kw2, bs2, s22, fm2, fb2, fl2, hM2, hO2⟩ := id hmw2
      refine gw_istore hX nd_La_law_265 (by decide) (L' := [(6, .int (nI ws.length)), (5, .int (nI 0)), (0, .ref b), (1, .ref n), (2, .ref (n + 124)), (3, .ref (n + 137)), (4, .int (nI (4 * k)))]) rfl ?_
      refine gw_aload_n hX nd_La_law_267 rfl 4 rfl ?_
      refine gw_callV (rest := []) hX ks_La_73 (ct_Mo_thrown _ _ _ σ2 (n + 124) hM2.1) hM2.1 rfl rfl (Nat.le_of_ble_eq_true rfl) nd_La_law_268 (by refine ⟨⟨by decide, by decide⟩, ?_, ?_⟩; (show ((138 + 3 * k) + 1) + 0 ≤ 601024; omega); (show ((2200 + 18 * k) + 6) + 0 ≤ 7293033; omega)) ?_
      rintro v_ s_ ⟨hv_, hs_⟩
      have hs_ := hs_.symm
      subst hs_ hv_
      show gw_W X σ2 ((138 + 3 * k) + 1) ((2200 + 18 * k) + 6) 271 [(6, .int (nI ws.length)), (5, .int (nI 0)), (0, .ref b), (1, .ref n), (2, .ref (n + 124)), (3, .ref (n + 137)), (4, .int (nI (4 * k)))] [.int (nI 0)]
      refine gw_iload hX nd_La_law_271 1 rfl ?_
      refine gw_icmp_eq (tgt := 278) hX nd_La_law_273 rfl (fun hb => ?_) (fun hb => ?_)
      · skip
        refine gw_iload hX nd_La_law_278 1 rfl ?_
        refine gw_if_ne (tgt := 295) hX nd_La_law_280 rfl (fun hb => ?_) (fun hb => ?_)
        · have hb : ¬ 0 = 0 := fun h => hb ((nI_eq (a := 0) (b := 0) (by omega) (by omega)).mpr h)
          exfalso; omega
        · have hb : 0 = 0 := (nI_eq (a := 0) (b := 0) (by omega) (by omega)).mp hb
          refine gw_aload_n hX nd_La_law_283 rfl 5 rfl ?_
          refine gw_iconst (v := nI 0) hX nd_La_law_284 rfl ?_
          refine gw_lald hX nd_La_law_285 ho 0 rfl (by omega) (by decide) ?_
          refine gw_topl (y := (nI ws.length).toInt64) (if_pos rfl) ?_
          refine gw_iload hX nd_La_law_286 0 rfl ?_
          refine gw_i2l hX nd_La_law_288 ?_
          refine gw_topl (y := (nI ws.length).toInt64) rfl ?_
          refine gw_lcmp hX nd_La_law_289 ?_
          refine gw_if_eq (tgt := 295) hX nd_La_law_290 rfl (fun hb => ?_) (fun hb => ?_)
          · skip
            refine gw_goto (tgt := 995) hX nd_La_law_295 rfl ?_
            refine gw_iinc hX nd_La_law_995 6 rfl (v := nI (4 * k + 4)) (show nI (4 * k) + nI 4 = nI (4 * k + 4) from nI_add _ _) (by decide) (L' := [(4, .int (nI (4 * k + 4))), (6, .int (nI ws.length)), (5, .int (nI 0)), (0, .ref b), (1, .ref n), (2, .ref (n + 124)), (3, .ref (n + 137))]) rfl ?_
            refine gw_goto (tgt := 23) hX nd_La_law_998 rfl ?_
            refine gw_cut (ks := [3, 4, 5, 6, 0]) (L' := [(0, .ref b), (1, .ref n), (2, .ref (n + 124)), (3, .ref (n + 137)), (4, .int (nI (4 * k + 4)))]) rfl ?_
            refine gw_wide (ce' := 138 + 3 * (k + 1)) (sl' := 2200 + 18 * (k + 1)) (by omega) (by omega) ?_
            exact K _ ⟨(ab_sk A ws), hA2, fun j => (ab_bd_mono hbd (by omega)) j, hcw2, ⟨_, hmw2⟩, ⟨_, ho⟩⟩
          · skip
            exact absurd ((lg_cmp_eq _ _).mpr rfl) hb
      · skip
        exact absurd rfl hb
    · exact absurd heq (hnone2 _)
  · show gw_W X σ1 ((138 + 3 * k) + 1) ((2200 + 18 * k) + 6) 259 [(0, .ref b), (1, .ref n), (2, .ref (n + 124)), (3, .ref (n + 137)), (4, .int (nI (4 * k)))] [.int (nI 1)]
    refine gw_istore hX nd_La_law_259 (by decide) (L' := [(5, .int (nI 1)), (0, .ref b), (1, .ref n), (2, .ref (n + 124)), (3, .ref (n + 137)), (4, .int (nI (4 * k)))]) rfl ?_
    refine gw_aload_n hX nd_La_law_261 rfl 3 rfl ?_
    refine gw_callV (rest := []) hX ks_La_78 (ct_Mo_speak _ _ _ σ1 (n + 124) A hA hM hO ) hM.1 rfl rfl (Nat.le_of_ble_eq_true rfl) nd_La_law_262 (by refine ⟨⟨by decide, by decide⟩, ?_, ?_⟩; (show ((138 + 3 * k) + 1) + 0 ≤ 601024; omega); (show ((2200 + 18 * k) + 6) + 0 ≤ 7293033; omega)) ?_
    rintro v_ σ3 ⟨hor2, hfo2⟩
    rcases hor2 with ⟨ws9, heq2, rfl, hmw2⟩ | ⟨hnone2, rfl, hmw2⟩
    · exact absurd heq2 (hnone _)
    · skip
      show gw_W X σ3 ((138 + 3 * k) + 1) ((2200 + 18 * k) + 6) 265 [(5, .int (nI 1)), (0, .ref b), (1, .ref n), (2, .ref (n + 124)), (3, .ref (n + 137)), (4, .int (nI (4 * k)))] [.int (nI 0)]
      have hcw2 : cw σ3 (gw_z X) n A := cw_mv hcw (fun b h1 h2 => hfo2 b (by omega)) hA
      have ho : σ3.2 (n + 137) = some ((gw_J (gw_z X) 1 f)) := (hfo2 _ (by omega)).trans ho
      obtain ⟨rs2, be2, se2, kp2, kw2, bs2, s22, fm2, fb2, fl2, hM2, hO2⟩ := id hmw2
      refine gw_istore hX nd_La_law_265 (by decide) (L' := [(6, .int (nI 0)), (5, .int (nI 1)), (0, .ref b), (1, .ref n), (2, .ref (n + 124)), (3, .ref (n + 137)), (4, .int (nI (4 * k)))]) rfl ?_
      refine gw_aload_n hX nd_La_law_267 rfl 4 rfl ?_
      refine gw_callV (rest := []) hX ks_La_73 (ct_Mo_thrown _ _ _ σ3 (n + 124) hM2.1) hM2.1 rfl rfl (Nat.le_of_ble_eq_true rfl) nd_La_law_268 (by refine ⟨⟨by decide, by decide⟩, ?_, ?_⟩; (show ((138 + 3 * k) + 1) + 0 ≤ 601024; omega); (show ((2200 + 18 * k) + 6) + 0 ≤ 7293033; omega)) ?_
      rintro v_ s_ ⟨hv_, hs_⟩
      have hs_ := hs_.symm
      subst hs_ hv_
      show gw_W X σ3 ((138 + 3 * k) + 1) ((2200 + 18 * k) + 6) 271 [(6, .int (nI 0)), (5, .int (nI 1)), (0, .ref b), (1, .ref n), (2, .ref (n + 124)), (3, .ref (n + 137)), (4, .int (nI (4 * k)))] [.int (nI 1)]
      refine gw_iload hX nd_La_law_271 1 rfl ?_
      refine gw_icmp_eq (tgt := 278) hX nd_La_law_273 rfl (fun hb => ?_) (fun hb => ?_)
      · skip
        refine gw_iload hX nd_La_law_278 1 rfl ?_
        refine gw_if_ne (tgt := 295) hX nd_La_law_280 rfl (fun hb => ?_) (fun hb => ?_)
        · have hb : ¬ 1 = 0 := fun h => hb ((nI_eq (a := 1) (b := 0) (by omega) (by omega)).mpr h)
          refine gw_goto (tgt := 995) hX nd_La_law_295 rfl ?_
          refine gw_iinc hX nd_La_law_995 6 rfl (v := nI (4 * k + 4)) (show nI (4 * k) + nI 4 = nI (4 * k + 4) from nI_add _ _) (by decide) (L' := [(4, .int (nI (4 * k + 4))), (6, .int (nI 0)), (5, .int (nI 1)), (0, .ref b), (1, .ref n), (2, .ref (n + 124)), (3, .ref (n + 137))]) rfl ?_
          refine gw_goto (tgt := 23) hX nd_La_law_998 rfl ?_
          refine gw_cut (ks := [3, 4, 5, 6, 0]) (L' := [(0, .ref b), (1, .ref n), (2, .ref (n + 124)), (3, .ref (n + 137)), (4, .int (nI (4 * k + 4)))]) rfl ?_
          refine gw_wide (ce' := 138 + 3 * (k + 1)) (sl' := 2200 + 18 * (k + 1)) (by omega) (by omega) ?_
          exact K _ ⟨A, hA, ab_bd_mono hbd (by omega), hcw2, ⟨_, hmw2⟩, ⟨_, ho⟩⟩
        · have hb : 1 = 0 := (nI_eq (a := 1) (b := 0) (by omega) (by omega)).mp hb
          exfalso; omega
      · skip
        exact absurd rfl hb
set_option maxRecDepth 100000 in
set_option maxHeartbeats 8000000 in
theorem la_sentences {X : gw_C} (hX : gw_ok X nc_La_law "LabelLearnerLaw" (8, 11, 394, 601024, 7293033)) {b L : Nat} {xs : Nat → Int32} (hCx : la_C X b L xs) (n k : Nat) (hk4 : 4 * k + 4 ≤ L) (K : ∀ σ' : gw_S, la_I σ' (gw_z X) n (k + 1) → gw_W X σ' (138 + 3 * (k + 1)) (2200 + 18 * (k + 1)) 23 [(0, .ref b), (1, .ref n), (2, .ref (n + 124)), (3, .ref (n + 137)), (4, .int (nI (4 * k + 4)))] []) (σ : gw_S) (hI : la_I σ (gw_z X) n k) : gw_W X σ (138 + 3 * k) (2200 + 18 * k) 298 [(0, .ref b), (1, .ref n), (2, .ref (n + 124)), (3, .ref (n + 137)), (4, .int (nI (4 * k)))] [] := by
  obtain ⟨A, hA, hbd, ⟨c, cd, s, sd, hC⟩, ⟨th, hmw⟩, f, ho⟩ := hI
  obtain ⟨hK, hb0, hl0, hx, hbl, hbA, hL⟩ := hCx
  refine gw_aload_n hX nd_La_law_298 rfl 1 rfl ?_
  refine gw_callV (rest := []) hX ks_La_79 (ct_LL_sentences _ _ _ σ n c cd s sd A hA hC ) hC.2.1 rfl rfl (Nat.le_of_ble_eq_true rfl) nd_La_law_299 (by refine ⟨⟨by decide, by decide⟩, ?_, ?_⟩; (show (138 + 3 * k) + 0 ≤ 601024; omega); (show (2200 + 18 * k) + 0 ≤ 7293033; omega)) ?_
  rintro v_ s_ ⟨rfl, hs_⟩
  have hs_ := hs_.symm
  subst hs_
  have hC1 := hC
  have hmw1 := hmw
  obtain ⟨rs, be, se, kp, kw, bs, s2, fm, fb, fl, hM, hO⟩ := hmw1
  show gw_W X σ (138 + 3 * k) (2200 + 18 * k) 302 [(0, .ref b), (1, .ref n), (2, .ref (n + 124)), (3, .ref (n + 137)), (4, .int (nI (4 * k)))] [.int (nI A.ss.length)]
  refine gw_aload_n hX nd_La_law_302 rfl 2 rfl ?_
  refine gw_callV (rest := [.int (nI A.ss.length)]) hX ks_La_82 (ct_Mo_sentences _ _ _ σ (n + 124) A hA hM hO ) hM.1 rfl rfl (Nat.le_of_ble_eq_true rfl) nd_La_law_303 (by refine ⟨⟨by decide, by decide⟩, ?_, ?_⟩; (show (138 + 3 * k) + 0 ≤ 601024; omega); (show (2200 + 18 * k) + 0 ≤ 7293033; omega)) ?_
  rintro v_ σ1 ⟨rfl, hmw2, hfo2⟩
  have hcw2 : cw σ1 (gw_z X) n A := cw_mv ⟨c, cd, s, sd, hC1⟩ (fun b h1 h2 => hfo2 b (by omega)) hA
  have ho : σ1.2 (n + 137) = some (gw_J (gw_z X) 1 f) := (hfo2 _ (by omega)).trans ho
  show gw_W X σ1 (138 + 3 * k) (2200 + 18 * k) 306 [(0, .ref b), (1, .ref n), (2, .ref (n + 124)), (3, .ref (n + 137)), (4, .int (nI (4 * k)))] [.int (nI A.ss.length), .int (nI A.ss.length)]
  refine gw_icmp_eq (tgt := 995) hX nd_La_law_306 rfl (fun hb => ?_) (fun hb => ?_)
  · skip
    refine gw_iinc hX nd_La_law_995 4 rfl (v := nI (4 * k + 4)) (show nI (4 * k) + nI 4 = nI (4 * k + 4) from nI_add _ _) (by decide) (L' := [(4, .int (nI (4 * k + 4))), (0, .ref b), (1, .ref n), (2, .ref (n + 124)), (3, .ref (n + 137))]) rfl ?_
    refine gw_goto (tgt := 23) hX nd_La_law_998 rfl ?_
    refine gw_cut (ks := [1, 2, 3, 4, 0]) (L' := [(0, .ref b), (1, .ref n), (2, .ref (n + 124)), (3, .ref (n + 137)), (4, .int (nI (4 * k + 4)))]) rfl ?_
    refine gw_wide (ce' := 138 + 3 * (k + 1)) (sl' := 2200 + 18 * (k + 1)) (by omega) (by omega) ?_
    exact K _ ⟨A, hA, ab_bd_mono hbd (by omega), hcw2, ⟨_, hmw2⟩, ⟨_, ho⟩⟩
  · skip
    exact absurd rfl hb
set_option maxRecDepth 100000 in
set_option maxHeartbeats 8000000 in
theorem la_words {X : gw_C} (hX : gw_ok X nc_La_law "LabelLearnerLaw" (8, 11, 394, 601024, 7293033)) {b L : Nat} {xs : Nat → Int32} (hCx : la_C X b L xs) (n k : Nat) (hk4 : 4 * k + 4 ≤ L) (K : ∀ σ' : gw_S, la_I σ' (gw_z X) n (k + 1) → gw_W X σ' (138 + 3 * (k + 1)) (2200 + 18 * (k + 1)) 23 [(0, .ref b), (1, .ref n), (2, .ref (n + 124)), (3, .ref (n + 137)), (4, .int (nI (4 * k + 4)))] []) (σ : gw_S) (hI : la_I σ (gw_z X) n k) : gw_W X σ (138 + 3 * k) (2200 + 18 * k) 311 [(0, .ref b), (1, .ref n), (2, .ref (n + 124)), (3, .ref (n + 137)), (4, .int (nI (4 * k)))] [] := by
  obtain ⟨A, hA, hbd, ⟨c, cd, s, sd, hC⟩, ⟨th, hmw⟩, f, ho⟩ := hI
  obtain ⟨hK, hb0, hl0, hx, hbl, hbA, hL⟩ := hCx
  refine gw_aload_n hX nd_La_law_311 rfl 1 rfl ?_
  refine gw_aload_n hX nd_La_law_312 rfl 0 rfl ?_
  refine gw_iload hX nd_La_law_313 4 rfl ?_
  refine gw_iconst (v := nI 1) hX nd_La_law_315 rfl ?_
  refine gw_iadd hX nd_La_law_316 ?_
  refine gw_topi (y := nI (4 * k + 1)) (nI_add _ _) ?_
  refine gw_sld hX hx hbl hbA nd_La_law_317 (4 * k + 1) rfl (by omega) hL ?_
  refine gw_aload_n hX nd_La_law_318 rfl 3 rfl ?_
  refine gy_callS (rest := []) hX hK hb0 kh_words (gw_in_t 398 (by decide +kernel) rfl) (ct_La_words _ hl0 _ _ σ n c cd s sd A hA hC (n + 137) f ho (by omega) (xs (4 * k + 1))) rfl rfl (Nat.le_of_ble_eq_true rfl) nd_La_law_319 (by refine ⟨⟨by decide, by decide⟩, ?_, ?_⟩; (show (138 + 3 * k) + 1 ≤ 601024; omega); (show (2200 + 18 * k) + 6 ≤ 7293033; omega)) (fun E_ s_ hx_ => hx_.elim) ?_
  rintro v_ σ1 ⟨hor, hfo⟩
  have hmw1 : mw σ1 (gw_z X) (n + 124) A th := mw_mv hmw (fun b h1 h2 => hfo b (by omega) (by omega))
  obtain ⟨rs, be, se, kp, kw, bs, s2, fm, fb, fl, hM, hO⟩ := hmw1
  rcases hor with ⟨ws, heq, rfl, hA2, hcw, ho⟩ | ⟨hnone, rfl, hcw, ho⟩
  · show gw_W X σ1 ((138 + 3 * k) + 1) ((2200 + 18 * k) + 6) 322 [(0, .ref b), (1, .ref n), (2, .ref (n + 124)), (3, .ref (n + 137)), (4, .int (nI (4 * k)))] [.int (nI 0)]
    refine gw_istore hX nd_La_law_322 (by decide) (L' := [(5, .int (nI 0)), (0, .ref b), (1, .ref n), (2, .ref (n + 124)), (3, .ref (n + 137)), (4, .int (nI (4 * k)))]) rfl ?_
    refine gw_aload_n hX nd_La_law_324 rfl 3 rfl ?_
    refine gw_aload_n hX nd_La_law_325 rfl 1 rfl ?_
    refine gw_iload hX nd_La_law_326 5 rfl ?_
    refine gw_iconst (v := nI 1) hX nd_La_law_328 rfl ?_
    refine gw_iadd hX nd_La_law_329 ?_
    refine gw_topi (y := nI (4 * k + 1)) (nI_add _ _) ?_
    refine gw_sld hX hx hbl hbA nd_La_law_330 (4 * k + 1) rfl (by omega) hL ?_
    refine gw_callV (rest := []) hX ks_La_86 (ct_Mo_words _ _ _ σ1 (n + 124) A hA hM hO (xs (4 * k + 1))) hM.1 rfl rfl (Nat.le_of_ble_eq_true rfl) nd_La_law_331 (by refine ⟨⟨by decide, by decide⟩, ?_, ?_⟩; (show ((138 + 3 * k) + 1) + 0 ≤ 601024; omega); (show ((2200 + 18 * k) + 6) + 0 ≤ 7293033; omega)) ?_
    rintro v_ σ2 ⟨hor2, hfo2⟩
    rcases hor2 with ⟨ws9, heq2, rfl, hmw2⟩ | ⟨hnone2, rfl, hmw2⟩
    · skip
      cases heq.symm.trans heq2
      show gw_W X σ2 ((138 + 3 * k) + 1) ((2200 + 18 * k) + 6) 334 [(5, .int (nI 0)), (0, .ref b), (1, .ref n), (2, .ref (n + 124)), (3, .ref (n + 137)), (4, .int (nI (4 * k)))] [.int (nI ws.length)]
      have hcw2 : cw σ2 (gw_z X) n A := cw_mv hcw (fun b h1 h2 => hfo2 b (by omega)) hA2
      have ho : σ2.2 (n + 137) = some ((gw_J (gw_z X) 1 (vp_updL f 0 ((nI ws.length).toInt64)))) := (hfo2 _ (by omega)).trans ho
      obtain ⟨rs2, be2, se2, kp2, kw2, bs2, s22, fm2, fb2, fl2, hM2, hO2⟩ := id hmw2
      refine gw_istore hX nd_La_law_334 (by decide) (L' := [(6, .int (nI ws.length)), (5, .int (nI 0)), (0, .ref b), (1, .ref n), (2, .ref (n + 124)), (3, .ref (n + 137)), (4, .int (nI (4 * k)))]) rfl ?_
      refine gw_aload_n hX nd_La_law_336 rfl 4 rfl ?_
      refine gw_callV (rest := []) hX ks_La_73 (ct_Mo_thrown _ _ _ σ2 (n + 124) hM2.1) hM2.1 rfl rfl (Nat.le_of_ble_eq_true rfl) nd_La_law_337 (by refine ⟨⟨by decide, by decide⟩, ?_, ?_⟩; (show ((138 + 3 * k) + 1) + 0 ≤ 601024; omega); (show ((2200 + 18 * k) + 6) + 0 ≤ 7293033; omega)) ?_
      rintro v_ s_ ⟨hv_, hs_⟩
      have hs_ := hs_.symm
      subst hs_ hv_
      show gw_W X σ2 ((138 + 3 * k) + 1) ((2200 + 18 * k) + 6) 340 [(6, .int (nI ws.length)), (5, .int (nI 0)), (0, .ref b), (1, .ref n), (2, .ref (n + 124)), (3, .ref (n + 137)), (4, .int (nI (4 * k)))] [.int (nI 0)]
      refine gw_iload hX nd_La_law_340 1 rfl ?_
      refine gw_icmp_eq (tgt := 347) hX nd_La_law_342 rfl (fun hb => ?_) (fun hb => ?_)
      · skip
        refine gw_iload hX nd_La_law_347 1 rfl ?_
        refine gw_if_ne (tgt := 364) hX nd_La_law_349 rfl (fun hb => ?_) (fun hb => ?_)
        · have hb : ¬ 0 = 0 := fun h => hb ((nI_eq (a := 0) (b := 0) (by omega) (by omega)).mpr h)
          exfalso; omega
        · have hb : 0 = 0 := (nI_eq (a := 0) (b := 0) (by omega) (by omega)).mp hb
          refine gw_aload_n hX nd_La_law_352 rfl 5 rfl ?_
          refine gw_iconst (v := nI 0) hX nd_La_law_353 rfl ?_
          refine gw_lald hX nd_La_law_354 ho 0 rfl (by omega) (by decide) ?_
          refine gw_topl (y := (nI ws.length).toInt64) (if_pos rfl) ?_
          refine gw_iload hX nd_La_law_355 0 rfl ?_
          refine gw_i2l hX nd_La_law_357 ?_
          refine gw_topl (y := (nI ws.length).toInt64) rfl ?_
          refine gw_lcmp hX nd_La_law_358 ?_
          refine gw_if_eq (tgt := 364) hX nd_La_law_359 rfl (fun hb => ?_) (fun hb => ?_)
          · skip
            refine gw_goto (tgt := 995) hX nd_La_law_364 rfl ?_
            refine gw_iinc hX nd_La_law_995 6 rfl (v := nI (4 * k + 4)) (show nI (4 * k) + nI 4 = nI (4 * k + 4) from nI_add _ _) (by decide) (L' := [(4, .int (nI (4 * k + 4))), (6, .int (nI ws.length)), (5, .int (nI 0)), (0, .ref b), (1, .ref n), (2, .ref (n + 124)), (3, .ref (n + 137))]) rfl ?_
            refine gw_goto (tgt := 23) hX nd_La_law_998 rfl ?_
            refine gw_cut (ks := [3, 4, 5, 6, 0]) (L' := [(0, .ref b), (1, .ref n), (2, .ref (n + 124)), (3, .ref (n + 137)), (4, .int (nI (4 * k + 4)))]) rfl ?_
            refine gw_wide (ce' := 138 + 3 * (k + 1)) (sl' := 2200 + 18 * (k + 1)) (by omega) (by omega) ?_
            exact K _ ⟨A, hA2, ab_bd_mono hbd (by omega), hcw2, ⟨_, hmw2⟩, ⟨_, ho⟩⟩
          · skip
            exact absurd ((lg_cmp_eq _ _).mpr rfl) hb
      · skip
        exact absurd rfl hb
    · exact absurd (heq.symm.trans hnone2) (by simp)
  · show gw_W X σ1 ((138 + 3 * k) + 1) ((2200 + 18 * k) + 6) 322 [(0, .ref b), (1, .ref n), (2, .ref (n + 124)), (3, .ref (n + 137)), (4, .int (nI (4 * k)))] [.int (nI 1)]
    refine gw_istore hX nd_La_law_322 (by decide) (L' := [(5, .int (nI 1)), (0, .ref b), (1, .ref n), (2, .ref (n + 124)), (3, .ref (n + 137)), (4, .int (nI (4 * k)))]) rfl ?_
    refine gw_aload_n hX nd_La_law_324 rfl 3 rfl ?_
    refine gw_aload_n hX nd_La_law_325 rfl 1 rfl ?_
    refine gw_iload hX nd_La_law_326 5 rfl ?_
    refine gw_iconst (v := nI 1) hX nd_La_law_328 rfl ?_
    refine gw_iadd hX nd_La_law_329 ?_
    refine gw_topi (y := nI (4 * k + 1)) (nI_add _ _) ?_
    refine gw_sld hX hx hbl hbA nd_La_law_330 (4 * k + 1) rfl (by omega) hL ?_
    refine gw_callV (rest := []) hX ks_La_86 (ct_Mo_words _ _ _ σ1 (n + 124) A hA hM hO (xs (4 * k + 1))) hM.1 rfl rfl (Nat.le_of_ble_eq_true rfl) nd_La_law_331 (by refine ⟨⟨by decide, by decide⟩, ?_, ?_⟩; (show ((138 + 3 * k) + 1) + 0 ≤ 601024; omega); (show ((2200 + 18 * k) + 6) + 0 ≤ 7293033; omega)) ?_
    rintro v_ σ3 ⟨hor2, hfo2⟩
    rcases hor2 with ⟨ws9, heq2, rfl, hmw2⟩ | ⟨hnone2, rfl, hmw2⟩
    · exact absurd (heq2.symm.trans hnone) (by simp)
    · skip
      show gw_W X σ3 ((138 + 3 * k) + 1) ((2200 + 18 * k) + 6) 334 [(5, .int (nI 1)), (0, .ref b), (1, .ref n), (2, .ref (n + 124)), (3, .ref (n + 137)), (4, .int (nI (4 * k)))] [.int (nI 0)]
      have hcw2 : cw σ3 (gw_z X) n A := cw_mv hcw (fun b h1 h2 => hfo2 b (by omega)) hA
      have ho : σ3.2 (n + 137) = some ((gw_J (gw_z X) 1 f)) := (hfo2 _ (by omega)).trans ho
      obtain ⟨rs2, be2, se2, kp2, kw2, bs2, s22, fm2, fb2, fl2, hM2, hO2⟩ := id hmw2
      refine gw_istore hX nd_La_law_334 (by decide) (L' := [(6, .int (nI 0)), (5, .int (nI 1)), (0, .ref b), (1, .ref n), (2, .ref (n + 124)), (3, .ref (n + 137)), (4, .int (nI (4 * k)))]) rfl ?_
      refine gw_aload_n hX nd_La_law_336 rfl 4 rfl ?_
      refine gw_callV (rest := []) hX ks_La_73 (ct_Mo_thrown _ _ _ σ3 (n + 124) hM2.1) hM2.1 rfl rfl (Nat.le_of_ble_eq_true rfl) nd_La_law_337 (by refine ⟨⟨by decide, by decide⟩, ?_, ?_⟩; (show ((138 + 3 * k) + 1) + 0 ≤ 601024; omega); (show ((2200 + 18 * k) + 6) + 0 ≤ 7293033; omega)) ?_
      rintro v_ s_ ⟨hv_, hs_⟩
      have hs_ := hs_.symm
      subst hs_ hv_
      show gw_W X σ3 ((138 + 3 * k) + 1) ((2200 + 18 * k) + 6) 340 [(6, .int (nI 0)), (5, .int (nI 1)), (0, .ref b), (1, .ref n), (2, .ref (n + 124)), (3, .ref (n + 137)), (4, .int (nI (4 * k)))] [.int (nI 1)]
      refine gw_iload hX nd_La_law_340 1 rfl ?_
      refine gw_icmp_eq (tgt := 347) hX nd_La_law_342 rfl (fun hb => ?_) (fun hb => ?_)
      · skip
        refine gw_iload hX nd_La_law_347 1 rfl ?_
        refine gw_if_ne (tgt := 364) hX nd_La_law_349 rfl (fun hb => ?_) (fun hb => ?_)
        · have hb : ¬ 1 = 0 := fun h => hb ((nI_eq (a := 1) (b := 0) (by omega) (by omega)).mpr h)
          refine gw_goto (tgt := 995) hX nd_La_law_364 rfl ?_
          refine gw_iinc hX nd_La_law_995 6 rfl (v := nI (4 * k + 4)) (show nI (4 * k) + nI 4 = nI (4 * k + 4) from nI_add _ _) (by decide) (L' := [(4, .int (nI (4 * k + 4))), (6, .int (nI 0)), (5, .int (nI 1)), (0, .ref b), (1, .ref n), (2, .ref (n + 124)), (3, .ref (n + 137))]) rfl ?_
          refine gw_goto (tgt := 23) hX nd_La_law_998 rfl ?_
          refine gw_cut (ks := [3, 4, 5, 6, 0]) (L' := [(0, .ref b), (1, .ref n), (2, .ref (n + 124)), (3, .ref (n + 137)), (4, .int (nI (4 * k + 4)))]) rfl ?_
          refine gw_wide (ce' := 138 + 3 * (k + 1)) (sl' := 2200 + 18 * (k + 1)) (by omega) (by omega) ?_
          exact K _ ⟨A, hA, ab_bd_mono hbd (by omega), hcw2, ⟨_, hmw2⟩, ⟨_, ho⟩⟩
        · have hb : 1 = 0 := (nI_eq (a := 1) (b := 0) (by omega) (by omega)).mp hb
          exfalso; omega
      · skip
        exact absurd rfl hb
set_option maxRecDepth 100000 in
set_option maxHeartbeats 8000000 in
theorem la_given {X : gw_C} (hX : gw_ok X nc_La_law "LabelLearnerLaw" (8, 11, 394, 601024, 7293033)) {b L : Nat} {xs : Nat → Int32} (hCx : la_C X b L xs) (n k : Nat) (hk4 : 4 * k + 4 ≤ L) (K : ∀ σ' : gw_S, la_I σ' (gw_z X) n (k + 1) → gw_W X σ' (138 + 3 * (k + 1)) (2200 + 18 * (k + 1)) 23 [(0, .ref b), (1, .ref n), (2, .ref (n + 124)), (3, .ref (n + 137)), (4, .int (nI (4 * k + 4)))] []) (σ : gw_S) (hI : la_I σ (gw_z X) n k) : gw_W X σ (138 + 3 * k) (2200 + 18 * k) 367 [(0, .ref b), (1, .ref n), (2, .ref (n + 124)), (3, .ref (n + 137)), (4, .int (nI (4 * k)))] [] := by
  obtain ⟨A, hA, hbd, ⟨c, cd, s, sd, hC⟩, ⟨th, hmw⟩, f, ho⟩ := hI
  obtain ⟨hK, hb0, hl0, hx, hbl, hbA, hL⟩ := hCx
  refine gw_aload_n hX nd_La_law_367 rfl 1 rfl ?_
  refine gw_aload_n hX nd_La_law_368 rfl 0 rfl ?_
  refine gw_iload hX nd_La_law_369 4 rfl ?_
  refine gw_iconst (v := nI 1) hX nd_La_law_371 rfl ?_
  refine gw_iadd hX nd_La_law_372 ?_
  refine gw_topi (y := nI (4 * k + 1)) (nI_add _ _) ?_
  refine gw_sld hX hx hbl hbA nd_La_law_373 (4 * k + 1) rfl (by omega) hL ?_
  refine gw_aload_n hX nd_La_law_374 rfl 0 rfl ?_
  refine gw_iload hX nd_La_law_375 4 rfl ?_
  refine gw_iconst (v := nI 2) hX nd_La_law_377 rfl ?_
  refine gw_iadd hX nd_La_law_378 ?_
  refine gw_topi (y := nI (4 * k + 2)) (nI_add _ _) ?_
  refine gw_sld hX hx hbl hbA nd_La_law_379 (4 * k + 2) rfl (by omega) hL ?_
  refine gw_aload_n hX nd_La_law_380 rfl 3 rfl ?_
  refine gy_callS (rest := []) hX hK hb0 kh_given (gw_in_t 426 (by decide +kernel) rfl) (ct_La_given _ hl0 _ _ σ n c cd s sd A hA hC (n + 137) f ho (by omega) (xs (4 * k + 1)) (xs (4 * k + 2))) rfl rfl (Nat.le_of_ble_eq_true rfl) nd_La_law_381 (by refine ⟨⟨by decide, by decide⟩, ?_, ?_⟩; (show (138 + 3 * k) + 2 ≤ 601024; omega); (show (2200 + 18 * k) + 12 ≤ 7293033; omega)) (fun E_ s_ hx_ => hx_.elim) ?_
  rintro v_ σ1 ⟨hor, hfo⟩
  have hmw1 : mw σ1 (gw_z X) (n + 124) A th := mw_mv hmw (fun b h1 h2 => hfo b (by omega) (by omega))
  obtain ⟨rs, be, se, kp, kw, bs, s2, fm, fb, fl, hM, hO⟩ := hmw1
  rcases hor with ⟨q, heq, rfl, hA2, hcw, ho⟩ | ⟨hnone, rfl, hcw, ho⟩
  · show gw_W X σ1 ((138 + 3 * k) + 2) ((2200 + 18 * k) + 12) 384 [(0, .ref b), (1, .ref n), (2, .ref (n + 124)), (3, .ref (n + 137)), (4, .int (nI (4 * k)))] [.int (nI 0)]
    refine gw_istore hX nd_La_law_384 (by decide) (L' := [(5, .int (nI 0)), (0, .ref b), (1, .ref n), (2, .ref (n + 124)), (3, .ref (n + 137)), (4, .int (nI (4 * k)))]) rfl ?_
    refine gw_aload_n hX nd_La_law_386 rfl 3 rfl ?_
    refine gw_aload_n hX nd_La_law_387 rfl 1 rfl ?_
    refine gw_iload hX nd_La_law_388 5 rfl ?_
    refine gw_iconst (v := nI 1) hX nd_La_law_390 rfl ?_
    refine gw_iadd hX nd_La_law_391 ?_
    refine gw_topi (y := nI (4 * k + 1)) (nI_add _ _) ?_
    refine gw_sld hX hx hbl hbA nd_La_law_392 (4 * k + 1) rfl (by omega) hL ?_
    refine gw_aload_n hX nd_La_law_393 rfl 1 rfl ?_
    refine gw_iload hX nd_La_law_394 5 rfl ?_
    refine gw_iconst (v := nI 2) hX nd_La_law_396 rfl ?_
    refine gw_iadd hX nd_La_law_397 ?_
    refine gw_topi (y := nI (4 * k + 2)) (nI_add _ _) ?_
    refine gw_sld hX hx hbl hbA nd_La_law_398 (4 * k + 2) rfl (by omega) hL ?_
    refine gw_callV (rest := []) hX ks_La_90 (ct_Mo_given _ _ _ σ1 (n + 124) A hA hM hO (xs (4 * k + 1)) (xs (4 * k + 2))) hM.1 rfl rfl (Nat.le_of_ble_eq_true rfl) nd_La_law_399 (by refine ⟨⟨by decide, by decide⟩, ?_, ?_⟩; (show ((138 + 3 * k) + 2) + 0 ≤ 601024; omega); (show ((2200 + 18 * k) + 12) + 0 ≤ 7293033; omega)) ?_
    rintro v_ σ2 ⟨hor2, hfo2⟩
    rcases hor2 with ⟨q9, heq2, rfl, hmw2⟩ | ⟨hnone2, rfl, hmw2⟩
    · skip
      cases heq.symm.trans heq2
      show gw_W X σ2 ((138 + 3 * k) + 2) ((2200 + 18 * k) + 12) 402 [(5, .int (nI 0)), (0, .ref b), (1, .ref n), (2, .ref (n + 124)), (3, .ref (n + 137)), (4, .int (nI (4 * k)))] [.int (nI q)]
      have hcw2 : cw σ2 (gw_z X) n A := cw_mv hcw (fun b h1 h2 => hfo2 b (by omega)) hA2
      have ho : σ2.2 (n + 137) = some ((gw_J (gw_z X) 1 (vp_updL f 0 ((nI q).toInt64)))) := (hfo2 _ (by omega)).trans ho
      obtain ⟨rs2, be2, se2, kp2, kw2, bs2, s22, fm2, fb2, fl2, hM2, hO2⟩ := id hmw2
      refine gw_istore hX nd_La_law_402 (by decide) (L' := [(6, .int (nI q)), (5, .int (nI 0)), (0, .ref b), (1, .ref n), (2, .ref (n + 124)), (3, .ref (n + 137)), (4, .int (nI (4 * k)))]) rfl ?_
      refine gw_aload_n hX nd_La_law_404 rfl 4 rfl ?_
      refine gw_callV (rest := []) hX ks_La_73 (ct_Mo_thrown _ _ _ σ2 (n + 124) hM2.1) hM2.1 rfl rfl (Nat.le_of_ble_eq_true rfl) nd_La_law_405 (by refine ⟨⟨by decide, by decide⟩, ?_, ?_⟩; (show ((138 + 3 * k) + 2) + 0 ≤ 601024; omega); (show ((2200 + 18 * k) + 12) + 0 ≤ 7293033; omega)) ?_
      rintro v_ s_ ⟨hv_, hs_⟩
      have hs_ := hs_.symm
      subst hs_ hv_
      show gw_W X σ2 ((138 + 3 * k) + 2) ((2200 + 18 * k) + 12) 408 [(6, .int (nI q)), (5, .int (nI 0)), (0, .ref b), (1, .ref n), (2, .ref (n + 124)), (3, .ref (n + 137)), (4, .int (nI (4 * k)))] [.int (nI 0)]
      refine gw_iload hX nd_La_law_408 1 rfl ?_
      refine gw_icmp_eq (tgt := 415) hX nd_La_law_410 rfl (fun hb => ?_) (fun hb => ?_)
      · skip
        refine gw_iload hX nd_La_law_415 1 rfl ?_
        refine gw_if_ne (tgt := 432) hX nd_La_law_417 rfl (fun hb => ?_) (fun hb => ?_)
        · have hb : ¬ 0 = 0 := fun h => hb ((nI_eq (a := 0) (b := 0) (by omega) (by omega)).mpr h)
          exfalso; omega
        · have hb : 0 = 0 := (nI_eq (a := 0) (b := 0) (by omega) (by omega)).mp hb
          refine gw_aload_n hX nd_La_law_420 rfl 5 rfl ?_
          refine gw_iconst (v := nI 0) hX nd_La_law_421 rfl ?_
          refine gw_lald hX nd_La_law_422 ho 0 rfl (by omega) (by decide) ?_
          refine gw_topl (y := (nI q).toInt64) (if_pos rfl) ?_
          refine gw_iload hX nd_La_law_423 0 rfl ?_
          refine gw_i2l hX nd_La_law_425 ?_
          refine gw_topl (y := (nI q).toInt64) rfl ?_
          refine gw_lcmp hX nd_La_law_426 ?_
          refine gw_if_eq (tgt := 432) hX nd_La_law_427 rfl (fun hb => ?_) (fun hb => ?_)
          · skip
            refine gw_goto (tgt := 995) hX nd_La_law_432 rfl ?_
            refine gw_iinc hX nd_La_law_995 6 rfl (v := nI (4 * k + 4)) (show nI (4 * k) + nI 4 = nI (4 * k + 4) from nI_add _ _) (by decide) (L' := [(4, .int (nI (4 * k + 4))), (6, .int (nI q)), (5, .int (nI 0)), (0, .ref b), (1, .ref n), (2, .ref (n + 124)), (3, .ref (n + 137))]) rfl ?_
            refine gw_goto (tgt := 23) hX nd_La_law_998 rfl ?_
            refine gw_cut (ks := [3, 4, 5, 6, 0]) (L' := [(0, .ref b), (1, .ref n), (2, .ref (n + 124)), (3, .ref (n + 137)), (4, .int (nI (4 * k + 4)))]) rfl ?_
            refine gw_wide (ce' := 138 + 3 * (k + 1)) (sl' := 2200 + 18 * (k + 1)) (by omega) (by omega) ?_
            exact K _ ⟨A, hA2, ab_bd_mono hbd (by omega), hcw2, ⟨_, hmw2⟩, ⟨_, ho⟩⟩
          · skip
            exact absurd ((lg_cmp_eq _ _).mpr rfl) hb
      · skip
        exact absurd rfl hb
    · exact absurd (heq.symm.trans hnone2) (by simp)
  · show gw_W X σ1 ((138 + 3 * k) + 2) ((2200 + 18 * k) + 12) 384 [(0, .ref b), (1, .ref n), (2, .ref (n + 124)), (3, .ref (n + 137)), (4, .int (nI (4 * k)))] [.int (nI 1)]
    refine gw_istore hX nd_La_law_384 (by decide) (L' := [(5, .int (nI 1)), (0, .ref b), (1, .ref n), (2, .ref (n + 124)), (3, .ref (n + 137)), (4, .int (nI (4 * k)))]) rfl ?_
    refine gw_aload_n hX nd_La_law_386 rfl 3 rfl ?_
    refine gw_aload_n hX nd_La_law_387 rfl 1 rfl ?_
    refine gw_iload hX nd_La_law_388 5 rfl ?_
    refine gw_iconst (v := nI 1) hX nd_La_law_390 rfl ?_
    refine gw_iadd hX nd_La_law_391 ?_
    refine gw_topi (y := nI (4 * k + 1)) (nI_add _ _) ?_
    refine gw_sld hX hx hbl hbA nd_La_law_392 (4 * k + 1) rfl (by omega) hL ?_
    refine gw_aload_n hX nd_La_law_393 rfl 1 rfl ?_
    refine gw_iload hX nd_La_law_394 5 rfl ?_
    refine gw_iconst (v := nI 2) hX nd_La_law_396 rfl ?_
    refine gw_iadd hX nd_La_law_397 ?_
    refine gw_topi (y := nI (4 * k + 2)) (nI_add _ _) ?_
    refine gw_sld hX hx hbl hbA nd_La_law_398 (4 * k + 2) rfl (by omega) hL ?_
    refine gw_callV (rest := []) hX ks_La_90 (ct_Mo_given _ _ _ σ1 (n + 124) A hA hM hO (xs (4 * k + 1)) (xs (4 * k + 2))) hM.1 rfl rfl (Nat.le_of_ble_eq_true rfl) nd_La_law_399 (by refine ⟨⟨by decide, by decide⟩, ?_, ?_⟩; (show ((138 + 3 * k) + 2) + 0 ≤ 601024; omega); (show ((2200 + 18 * k) + 12) + 0 ≤ 7293033; omega)) ?_
    rintro v_ σ3 ⟨hor2, hfo2⟩
    rcases hor2 with ⟨q9, heq2, rfl, hmw2⟩ | ⟨hnone2, rfl, hmw2⟩
    · exact absurd (heq2.symm.trans hnone) (by simp)
    · skip
      show gw_W X σ3 ((138 + 3 * k) + 2) ((2200 + 18 * k) + 12) 402 [(5, .int (nI 1)), (0, .ref b), (1, .ref n), (2, .ref (n + 124)), (3, .ref (n + 137)), (4, .int (nI (4 * k)))] [.int (nI 0)]
      have hcw2 : cw σ3 (gw_z X) n A := cw_mv hcw (fun b h1 h2 => hfo2 b (by omega)) hA
      have ho : σ3.2 (n + 137) = some ((gw_J (gw_z X) 1 f)) := (hfo2 _ (by omega)).trans ho
      obtain ⟨rs2, be2, se2, kp2, kw2, bs2, s22, fm2, fb2, fl2, hM2, hO2⟩ := id hmw2
      refine gw_istore hX nd_La_law_402 (by decide) (L' := [(6, .int (nI 0)), (5, .int (nI 1)), (0, .ref b), (1, .ref n), (2, .ref (n + 124)), (3, .ref (n + 137)), (4, .int (nI (4 * k)))]) rfl ?_
      refine gw_aload_n hX nd_La_law_404 rfl 4 rfl ?_
      refine gw_callV (rest := []) hX ks_La_73 (ct_Mo_thrown _ _ _ σ3 (n + 124) hM2.1) hM2.1 rfl rfl (Nat.le_of_ble_eq_true rfl) nd_La_law_405 (by refine ⟨⟨by decide, by decide⟩, ?_, ?_⟩; (show ((138 + 3 * k) + 2) + 0 ≤ 601024; omega); (show ((2200 + 18 * k) + 12) + 0 ≤ 7293033; omega)) ?_
      rintro v_ s_ ⟨hv_, hs_⟩
      have hs_ := hs_.symm
      subst hs_ hv_
      show gw_W X σ3 ((138 + 3 * k) + 2) ((2200 + 18 * k) + 12) 408 [(6, .int (nI 0)), (5, .int (nI 1)), (0, .ref b), (1, .ref n), (2, .ref (n + 124)), (3, .ref (n + 137)), (4, .int (nI (4 * k)))] [.int (nI 1)]
      refine gw_iload hX nd_La_law_408 1 rfl ?_
      refine gw_icmp_eq (tgt := 415) hX nd_La_law_410 rfl (fun hb => ?_) (fun hb => ?_)
      · skip
        refine gw_iload hX nd_La_law_415 1 rfl ?_
        refine gw_if_ne (tgt := 432) hX nd_La_law_417 rfl (fun hb => ?_) (fun hb => ?_)
        · have hb : ¬ 1 = 0 := fun h => hb ((nI_eq (a := 1) (b := 0) (by omega) (by omega)).mpr h)
          refine gw_goto (tgt := 995) hX nd_La_law_432 rfl ?_
          refine gw_iinc hX nd_La_law_995 6 rfl (v := nI (4 * k + 4)) (show nI (4 * k) + nI 4 = nI (4 * k + 4) from nI_add _ _) (by decide) (L' := [(4, .int (nI (4 * k + 4))), (6, .int (nI 0)), (5, .int (nI 1)), (0, .ref b), (1, .ref n), (2, .ref (n + 124)), (3, .ref (n + 137))]) rfl ?_
          refine gw_goto (tgt := 23) hX nd_La_law_998 rfl ?_
          refine gw_cut (ks := [3, 4, 5, 6, 0]) (L' := [(0, .ref b), (1, .ref n), (2, .ref (n + 124)), (3, .ref (n + 137)), (4, .int (nI (4 * k + 4)))]) rfl ?_
          refine gw_wide (ce' := 138 + 3 * (k + 1)) (sl' := 2200 + 18 * (k + 1)) (by omega) (by omega) ?_
          exact K _ ⟨A, hA, ab_bd_mono hbd (by omega), hcw2, ⟨_, hmw2⟩, ⟨_, ho⟩⟩
        · have hb : 1 = 0 := (nI_eq (a := 1) (b := 0) (by omega) (by omega)).mp hb
          exfalso; omega
      · skip
        exact absurd rfl hb
set_option maxRecDepth 100000 in
set_option maxHeartbeats 8000000 in
theorem la_feature {X : gw_C} (hX : gw_ok X nc_La_law "LabelLearnerLaw" (8, 11, 394, 601024, 7293033)) {b L : Nat} {xs : Nat → Int32} (hCx : la_C X b L xs) (n k : Nat) (hk4 : 4 * k + 4 ≤ L) (K : ∀ σ' : gw_S, la_I σ' (gw_z X) n (k + 1) → gw_W X σ' (138 + 3 * (k + 1)) (2200 + 18 * (k + 1)) 23 [(0, .ref b), (1, .ref n), (2, .ref (n + 124)), (3, .ref (n + 137)), (4, .int (nI (4 * k + 4)))] []) (σ : gw_S) (hI : la_I σ (gw_z X) n k) : gw_W X σ (138 + 3 * k) (2200 + 18 * k) 435 [(0, .ref b), (1, .ref n), (2, .ref (n + 124)), (3, .ref (n + 137)), (4, .int (nI (4 * k)))] [] := by
  obtain ⟨A, hA, hbd, ⟨c, cd, s, sd, hC⟩, ⟨th, hmw⟩, f, ho⟩ := hI
  obtain ⟨hK, hb0, hl0, hx, hbl, hbA, hL⟩ := hCx
  refine gw_aload_n hX nd_La_law_435 rfl 1 rfl ?_
  refine gw_aload_n hX nd_La_law_436 rfl 0 rfl ?_
  refine gw_iload hX nd_La_law_437 4 rfl ?_
  refine gw_iconst (v := nI 1) hX nd_La_law_439 rfl ?_
  refine gw_iadd hX nd_La_law_440 ?_
  refine gw_topi (y := nI (4 * k + 1)) (nI_add _ _) ?_
  refine gw_sld hX hx hbl hbA nd_La_law_441 (4 * k + 1) rfl (by omega) hL ?_
  refine gw_aload_n hX nd_La_law_442 rfl 0 rfl ?_
  refine gw_iload hX nd_La_law_443 4 rfl ?_
  refine gw_iconst (v := nI 2) hX nd_La_law_445 rfl ?_
  refine gw_iadd hX nd_La_law_446 ?_
  refine gw_topi (y := nI (4 * k + 2)) (nI_add _ _) ?_
  refine gw_sld hX hx hbl hbA nd_La_law_447 (4 * k + 2) rfl (by omega) hL ?_
  refine gw_aload_n hX nd_La_law_448 rfl 0 rfl ?_
  refine gw_iload hX nd_La_law_449 4 rfl ?_
  refine gw_iconst (v := nI 3) hX nd_La_law_451 rfl ?_
  refine gw_iadd hX nd_La_law_452 ?_
  refine gw_topi (y := nI (4 * k + 3)) (nI_add _ _) ?_
  refine gw_sld hX hx hbl hbA nd_La_law_453 (4 * k + 3) rfl (by omega) hL ?_
  refine gw_aload_n hX nd_La_law_454 rfl 3 rfl ?_
  refine gy_callS (rest := []) hX hK hb0 kh_feature (gw_in_t 438 (by decide +kernel) rfl) (ct_La_feature _ hl0 _ _ σ n c cd s sd A hA hC (n + 137) f ho (by omega) (xs (4 * k + 1)) (xs (4 * k + 2)) (xs (4 * k + 3))) rfl rfl (Nat.le_of_ble_eq_true rfl) nd_La_law_455 (by refine ⟨⟨by decide, by decide⟩, ?_, ?_⟩; (show (138 + 3 * k) + 3 ≤ 601024; omega); (show (2200 + 18 * k) + 18 ≤ 7293033; omega)) (fun E_ s_ hx_ => hx_.elim) ?_
  rintro v_ σ1 ⟨hor, hfo⟩
  have hmw1 : mw σ1 (gw_z X) (n + 124) A th := mw_mv hmw (fun b h1 h2 => hfo b (by omega) (by omega))
  obtain ⟨rs, be, se, kp, kw, bs, s2, fm, fb, fl, hM, hO⟩ := hmw1
  rcases hor with ⟨q, heq, rfl, hA2, hcw, ho⟩ | ⟨hnone, rfl, hcw, ho⟩
  · show gw_W X σ1 ((138 + 3 * k) + 3) ((2200 + 18 * k) + 18) 458 [(0, .ref b), (1, .ref n), (2, .ref (n + 124)), (3, .ref (n + 137)), (4, .int (nI (4 * k)))] [.int (nI 0)]
    refine gw_istore hX nd_La_law_458 (by decide) (L' := [(5, .int (nI 0)), (0, .ref b), (1, .ref n), (2, .ref (n + 124)), (3, .ref (n + 137)), (4, .int (nI (4 * k)))]) rfl ?_
    refine gw_aload_n hX nd_La_law_460 rfl 3 rfl ?_
    refine gw_aload_n hX nd_La_law_461 rfl 1 rfl ?_
    refine gw_iload hX nd_La_law_462 5 rfl ?_
    refine gw_iconst (v := nI 1) hX nd_La_law_464 rfl ?_
    refine gw_iadd hX nd_La_law_465 ?_
    refine gw_topi (y := nI (4 * k + 1)) (nI_add _ _) ?_
    refine gw_sld hX hx hbl hbA nd_La_law_466 (4 * k + 1) rfl (by omega) hL ?_
    refine gw_aload_n hX nd_La_law_467 rfl 1 rfl ?_
    refine gw_iload hX nd_La_law_468 5 rfl ?_
    refine gw_iconst (v := nI 2) hX nd_La_law_470 rfl ?_
    refine gw_iadd hX nd_La_law_471 ?_
    refine gw_topi (y := nI (4 * k + 2)) (nI_add _ _) ?_
    refine gw_sld hX hx hbl hbA nd_La_law_472 (4 * k + 2) rfl (by omega) hL ?_
    refine gw_aload_n hX nd_La_law_473 rfl 1 rfl ?_
    refine gw_iload hX nd_La_law_474 5 rfl ?_
    refine gw_iconst (v := nI 3) hX nd_La_law_476 rfl ?_
    refine gw_iadd hX nd_La_law_477 ?_
    refine gw_topi (y := nI (4 * k + 3)) (nI_add _ _) ?_
    refine gw_sld hX hx hbl hbA nd_La_law_478 (4 * k + 3) rfl (by omega) hL ?_
    refine gw_callV (rest := []) hX ks_La_94 (ct_Mo_feature _ _ _ σ1 (n + 124) A hA hM hO (xs (4 * k + 1)) (xs (4 * k + 2)) (xs (4 * k + 3))) hM.1 rfl rfl (Nat.le_of_ble_eq_true rfl) nd_La_law_479 (by refine ⟨⟨by decide, by decide⟩, ?_, ?_⟩; (show ((138 + 3 * k) + 3) + 0 ≤ 601024; omega); (show ((2200 + 18 * k) + 18) + 0 ≤ 7293033; omega)) ?_
    rintro v_ σ2 ⟨hor2, hfo2⟩
    rcases hor2 with ⟨q9, heq2, rfl, hmw2⟩ | ⟨hnone2, rfl, hmw2⟩
    · skip
      cases heq.symm.trans heq2
      show gw_W X σ2 ((138 + 3 * k) + 3) ((2200 + 18 * k) + 18) 482 [(5, .int (nI 0)), (0, .ref b), (1, .ref n), (2, .ref (n + 124)), (3, .ref (n + 137)), (4, .int (nI (4 * k)))] [.int (nI q)]
      have hcw2 : cw σ2 (gw_z X) n A := cw_mv hcw (fun b h1 h2 => hfo2 b (by omega)) hA2
      have ho : σ2.2 (n + 137) = some ((gw_J (gw_z X) 1 (vp_updL f 0 ((nI q).toInt64)))) := (hfo2 _ (by omega)).trans ho
      obtain ⟨rs2, be2, se2, kp2, kw2, bs2, s22, fm2, fb2, fl2, hM2, hO2⟩ := id hmw2
      refine gw_istore hX nd_La_law_482 (by decide) (L' := [(6, .int (nI q)), (5, .int (nI 0)), (0, .ref b), (1, .ref n), (2, .ref (n + 124)), (3, .ref (n + 137)), (4, .int (nI (4 * k)))]) rfl ?_
      refine gw_aload_n hX nd_La_law_484 rfl 4 rfl ?_
      refine gw_callV (rest := []) hX ks_La_73 (ct_Mo_thrown _ _ _ σ2 (n + 124) hM2.1) hM2.1 rfl rfl (Nat.le_of_ble_eq_true rfl) nd_La_law_485 (by refine ⟨⟨by decide, by decide⟩, ?_, ?_⟩; (show ((138 + 3 * k) + 3) + 0 ≤ 601024; omega); (show ((2200 + 18 * k) + 18) + 0 ≤ 7293033; omega)) ?_
      rintro v_ s_ ⟨hv_, hs_⟩
      have hs_ := hs_.symm
      subst hs_ hv_
      show gw_W X σ2 ((138 + 3 * k) + 3) ((2200 + 18 * k) + 18) 488 [(6, .int (nI q)), (5, .int (nI 0)), (0, .ref b), (1, .ref n), (2, .ref (n + 124)), (3, .ref (n + 137)), (4, .int (nI (4 * k)))] [.int (nI 0)]
      refine gw_iload hX nd_La_law_488 1 rfl ?_
      refine gw_icmp_eq (tgt := 495) hX nd_La_law_490 rfl (fun hb => ?_) (fun hb => ?_)
      · skip
        refine gw_iload hX nd_La_law_495 1 rfl ?_
        refine gw_if_ne (tgt := 512) hX nd_La_law_497 rfl (fun hb => ?_) (fun hb => ?_)
        · have hb : ¬ 0 = 0 := fun h => hb ((nI_eq (a := 0) (b := 0) (by omega) (by omega)).mpr h)
          exfalso; omega
        · have hb : 0 = 0 := (nI_eq (a := 0) (b := 0) (by omega) (by omega)).mp hb
          refine gw_aload_n hX nd_La_law_500 rfl 5 rfl ?_
          refine gw_iconst (v := nI 0) hX nd_La_law_501 rfl ?_
          refine gw_lald hX nd_La_law_502 ho 0 rfl (by omega) (by decide) ?_
          refine gw_topl (y := (nI q).toInt64) (if_pos rfl) ?_
          refine gw_iload hX nd_La_law_503 0 rfl ?_
          refine gw_i2l hX nd_La_law_505 ?_
          refine gw_topl (y := (nI q).toInt64) rfl ?_
          refine gw_lcmp hX nd_La_law_506 ?_
          refine gw_if_eq (tgt := 512) hX nd_La_law_507 rfl (fun hb => ?_) (fun hb => ?_)
          · skip
            refine gw_goto (tgt := 995) hX nd_La_law_512 rfl ?_
            refine gw_iinc hX nd_La_law_995 6 rfl (v := nI (4 * k + 4)) (show nI (4 * k) + nI 4 = nI (4 * k + 4) from nI_add _ _) (by decide) (L' := [(4, .int (nI (4 * k + 4))), (6, .int (nI q)), (5, .int (nI 0)), (0, .ref b), (1, .ref n), (2, .ref (n + 124)), (3, .ref (n + 137))]) rfl ?_
            refine gw_goto (tgt := 23) hX nd_La_law_998 rfl ?_
            refine gw_cut (ks := [3, 4, 5, 6, 0]) (L' := [(0, .ref b), (1, .ref n), (2, .ref (n + 124)), (3, .ref (n + 137)), (4, .int (nI (4 * k + 4)))]) rfl ?_
            refine gw_wide (ce' := 138 + 3 * (k + 1)) (sl' := 2200 + 18 * (k + 1)) (by omega) (by omega) ?_
            exact K _ ⟨A, hA2, ab_bd_mono hbd (by omega), hcw2, ⟨_, hmw2⟩, ⟨_, ho⟩⟩
          · skip
            exact absurd ((lg_cmp_eq _ _).mpr rfl) hb
      · skip
        exact absurd rfl hb
    · exact absurd (heq.symm.trans hnone2) (by simp)
  · show gw_W X σ1 ((138 + 3 * k) + 3) ((2200 + 18 * k) + 18) 458 [(0, .ref b), (1, .ref n), (2, .ref (n + 124)), (3, .ref (n + 137)), (4, .int (nI (4 * k)))] [.int (nI 1)]
    refine gw_istore hX nd_La_law_458 (by decide) (L' := [(5, .int (nI 1)), (0, .ref b), (1, .ref n), (2, .ref (n + 124)), (3, .ref (n + 137)), (4, .int (nI (4 * k)))]) rfl ?_
    refine gw_aload_n hX nd_La_law_460 rfl 3 rfl ?_
    refine gw_aload_n hX nd_La_law_461 rfl 1 rfl ?_
    refine gw_iload hX nd_La_law_462 5 rfl ?_
    refine gw_iconst (v := nI 1) hX nd_La_law_464 rfl ?_
    refine gw_iadd hX nd_La_law_465 ?_
    refine gw_topi (y := nI (4 * k + 1)) (nI_add _ _) ?_
    refine gw_sld hX hx hbl hbA nd_La_law_466 (4 * k + 1) rfl (by omega) hL ?_
    refine gw_aload_n hX nd_La_law_467 rfl 1 rfl ?_
    refine gw_iload hX nd_La_law_468 5 rfl ?_
    refine gw_iconst (v := nI 2) hX nd_La_law_470 rfl ?_
    refine gw_iadd hX nd_La_law_471 ?_
    refine gw_topi (y := nI (4 * k + 2)) (nI_add _ _) ?_
    refine gw_sld hX hx hbl hbA nd_La_law_472 (4 * k + 2) rfl (by omega) hL ?_
    refine gw_aload_n hX nd_La_law_473 rfl 1 rfl ?_
    refine gw_iload hX nd_La_law_474 5 rfl ?_
    refine gw_iconst (v := nI 3) hX nd_La_law_476 rfl ?_
    refine gw_iadd hX nd_La_law_477 ?_
    refine gw_topi (y := nI (4 * k + 3)) (nI_add _ _) ?_
    refine gw_sld hX hx hbl hbA nd_La_law_478 (4 * k + 3) rfl (by omega) hL ?_
    refine gw_callV (rest := []) hX ks_La_94 (ct_Mo_feature _ _ _ σ1 (n + 124) A hA hM hO (xs (4 * k + 1)) (xs (4 * k + 2)) (xs (4 * k + 3))) hM.1 rfl rfl (Nat.le_of_ble_eq_true rfl) nd_La_law_479 (by refine ⟨⟨by decide, by decide⟩, ?_, ?_⟩; (show ((138 + 3 * k) + 3) + 0 ≤ 601024; omega); (show ((2200 + 18 * k) + 18) + 0 ≤ 7293033; omega)) ?_
    rintro v_ σ3 ⟨hor2, hfo2⟩
    rcases hor2 with ⟨q9, heq2, rfl, hmw2⟩ | ⟨hnone2, rfl, hmw2⟩
    · exact absurd (heq2.symm.trans hnone) (by simp)
    · skip
      show gw_W X σ3 ((138 + 3 * k) + 3) ((2200 + 18 * k) + 18) 482 [(5, .int (nI 1)), (0, .ref b), (1, .ref n), (2, .ref (n + 124)), (3, .ref (n + 137)), (4, .int (nI (4 * k)))] [.int (nI 0)]
      have hcw2 : cw σ3 (gw_z X) n A := cw_mv hcw (fun b h1 h2 => hfo2 b (by omega)) hA
      have ho : σ3.2 (n + 137) = some ((gw_J (gw_z X) 1 f)) := (hfo2 _ (by omega)).trans ho
      obtain ⟨rs2, be2, se2, kp2, kw2, bs2, s22, fm2, fb2, fl2, hM2, hO2⟩ := id hmw2
      refine gw_istore hX nd_La_law_482 (by decide) (L' := [(6, .int (nI 0)), (5, .int (nI 1)), (0, .ref b), (1, .ref n), (2, .ref (n + 124)), (3, .ref (n + 137)), (4, .int (nI (4 * k)))]) rfl ?_
      refine gw_aload_n hX nd_La_law_484 rfl 4 rfl ?_
      refine gw_callV (rest := []) hX ks_La_73 (ct_Mo_thrown _ _ _ σ3 (n + 124) hM2.1) hM2.1 rfl rfl (Nat.le_of_ble_eq_true rfl) nd_La_law_485 (by refine ⟨⟨by decide, by decide⟩, ?_, ?_⟩; (show ((138 + 3 * k) + 3) + 0 ≤ 601024; omega); (show ((2200 + 18 * k) + 18) + 0 ≤ 7293033; omega)) ?_
      rintro v_ s_ ⟨hv_, hs_⟩
      have hs_ := hs_.symm
      subst hs_ hv_
      show gw_W X σ3 ((138 + 3 * k) + 3) ((2200 + 18 * k) + 18) 488 [(6, .int (nI 0)), (5, .int (nI 1)), (0, .ref b), (1, .ref n), (2, .ref (n + 124)), (3, .ref (n + 137)), (4, .int (nI (4 * k)))] [.int (nI 1)]
      refine gw_iload hX nd_La_law_488 1 rfl ?_
      refine gw_icmp_eq (tgt := 495) hX nd_La_law_490 rfl (fun hb => ?_) (fun hb => ?_)
      · skip
        refine gw_iload hX nd_La_law_495 1 rfl ?_
        refine gw_if_ne (tgt := 512) hX nd_La_law_497 rfl (fun hb => ?_) (fun hb => ?_)
        · have hb : ¬ 1 = 0 := fun h => hb ((nI_eq (a := 1) (b := 0) (by omega) (by omega)).mpr h)
          refine gw_goto (tgt := 995) hX nd_La_law_512 rfl ?_
          refine gw_iinc hX nd_La_law_995 6 rfl (v := nI (4 * k + 4)) (show nI (4 * k) + nI 4 = nI (4 * k + 4) from nI_add _ _) (by decide) (L' := [(4, .int (nI (4 * k + 4))), (6, .int (nI 0)), (5, .int (nI 1)), (0, .ref b), (1, .ref n), (2, .ref (n + 124)), (3, .ref (n + 137))]) rfl ?_
          refine gw_goto (tgt := 23) hX nd_La_law_998 rfl ?_
          refine gw_cut (ks := [3, 4, 5, 6, 0]) (L' := [(0, .ref b), (1, .ref n), (2, .ref (n + 124)), (3, .ref (n + 137)), (4, .int (nI (4 * k + 4)))]) rfl ?_
          refine gw_wide (ce' := 138 + 3 * (k + 1)) (sl' := 2200 + 18 * (k + 1)) (by omega) (by omega) ?_
          exact K _ ⟨A, hA, ab_bd_mono hbd (by omega), hcw2, ⟨_, hmw2⟩, ⟨_, ho⟩⟩
        · have hb : 1 = 0 := (nI_eq (a := 1) (b := 0) (by omega) (by omega)).mp hb
          exfalso; omega
      · skip
        exact absurd rfl hb
set_option maxRecDepth 100000 in
set_option maxHeartbeats 8000000 in
theorem la_learn {X : gw_C} (hX : gw_ok X nc_La_law "LabelLearnerLaw" (8, 11, 394, 601024, 7293033)) {b L : Nat} {xs : Nat → Int32} (hCx : la_C X b L xs) (n k : Nat) (hk4 : 4 * k + 4 ≤ L) (K : ∀ σ' : gw_S, la_I σ' (gw_z X) n (k + 1) → gw_W X σ' (138 + 3 * (k + 1)) (2200 + 18 * (k + 1)) 23 [(0, .ref b), (1, .ref n), (2, .ref (n + 124)), (3, .ref (n + 137)), (4, .int (nI (4 * k + 4)))] []) (σ : gw_S) (hI : la_I σ (gw_z X) n k) : gw_W X σ (138 + 3 * k) (2200 + 18 * k) 515 [(0, .ref b), (1, .ref n), (2, .ref (n + 124)), (3, .ref (n + 137)), (4, .int (nI (4 * k)))] [] := by
  obtain ⟨A, hA, hbd, ⟨c, cd, s, sd, hC⟩, ⟨th, hmw⟩, f, ho⟩ := hI
  obtain ⟨hK, hb0, hl0, hx, hbl, hbA, hL⟩ := hCx
  refine gw_aload_n hX nd_La_law_515 rfl 1 rfl ?_
  refine gw_aload_n hX nd_La_law_516 rfl 0 rfl ?_
  refine gw_iload hX nd_La_law_517 4 rfl ?_
  refine gw_iconst (v := nI 1) hX nd_La_law_519 rfl ?_
  refine gw_iadd hX nd_La_law_520 ?_
  refine gw_topi (y := nI (4 * k + 1)) (nI_add _ _) ?_
  refine gw_sld hX hx hbl hbA nd_La_law_521 (4 * k + 1) rfl (by omega) hL ?_
  refine gw_aload_n hX nd_La_law_522 rfl 3 rfl ?_
  refine gy_callS (rest := []) hX hK hb0 kh_learn (gw_in_t 447 (by decide +kernel) rfl) (ct_La_learn _ hl0 _ _ σ n c cd s sd A hA hC (n + 137) f ho (by omega) (48 * k) hbd (by omega) (xs (4 * k + 1))) rfl rfl (Nat.le_of_ble_eq_true rfl) nd_La_law_523 (by refine ⟨⟨by decide, by decide⟩, ?_, ?_⟩; (show (138 + 3 * k) + 1 ≤ 601024; omega); (show (2200 + 18 * k) + 6 ≤ 7293033; omega)) (fun E_ s_ hx_ => hx_.elim) ?_
  rintro v_ σ1 ⟨hor, hfo⟩
  have hmw1 : mw σ1 (gw_z X) (n + 124) A th := mw_mv hmw (fun b h1 h2 => hfo b (by omega) (by omega))
  obtain ⟨rs, be, se, kp, kw, bs, s2, fm, fb, fl, hM, hO⟩ := hmw1
  rcases hor with ⟨heq, rfl, hA2, hcw, ho⟩ | ⟨hnone, rfl, hcw, ho⟩
  · show gw_W X σ1 ((138 + 3 * k) + 1) ((2200 + 18 * k) + 6) 526 [(0, .ref b), (1, .ref n), (2, .ref (n + 124)), (3, .ref (n + 137)), (4, .int (nI (4 * k)))] [.int (nI 0)]
    refine gw_istore hX nd_La_law_526 (by decide) (L' := [(5, .int (nI 0)), (0, .ref b), (1, .ref n), (2, .ref (n + 124)), (3, .ref (n + 137)), (4, .int (nI (4 * k)))]) rfl ?_
    refine gw_aload_n hX nd_La_law_528 rfl 3 rfl ?_
    refine gw_aload_n hX nd_La_law_529 rfl 1 rfl ?_
    refine gw_iload hX nd_La_law_530 5 rfl ?_
    refine gw_iconst (v := nI 1) hX nd_La_law_532 rfl ?_
    refine gw_iadd hX nd_La_law_533 ?_
    refine gw_topi (y := nI (4 * k + 1)) (nI_add _ _) ?_
    refine gw_sld hX hx hbl hbA nd_La_law_534 (4 * k + 1) rfl (by omega) hL ?_
    refine gw_callV (rest := []) hX ks_La_97 (ct_Mo_learn _ _ _ σ1 (n + 124) A hA hM hO (48 * k) hbd (by omega) (xs (4 * k + 1))) hM.1 rfl rfl (Nat.le_of_ble_eq_true rfl) nd_La_law_535 (by refine ⟨⟨by decide, by decide⟩, ?_, ?_⟩; (show ((138 + 3 * k) + 1) + 0 ≤ 601024; omega); (show ((2200 + 18 * k) + 6) + 0 ≤ 7293033; omega)) ?_
    rintro v_ σ2 ⟨hor2, hfo2⟩
    rcases hor2 with ⟨heq2, rfl, hmw2⟩ | ⟨hnone2, rfl, hmw2⟩
    · skip
      show gw_W X σ2 ((138 + 3 * k) + 1) ((2200 + 18 * k) + 6) 538 [(5, .int (nI 0)), (0, .ref b), (1, .ref n), (2, .ref (n + 124)), (3, .ref (n + 137)), (4, .int (nI (4 * k)))] [.int (nI ((ab_learn A (xs (4 * k + 1))).1))]
      have hcw2 : cw σ2 (gw_z X) n (ab_learn A (xs (4 * k + 1))).2 := cw_mv hcw (fun b h1 h2 => hfo2 b (by omega)) hA2
      have ho : σ2.2 (n + 137) = some ((gw_J (gw_z X) 1 (vp_updL f 0 ((nI ((ab_learn A (xs (4 * k + 1))).1)).toInt64)))) := (hfo2 _ (by omega)).trans ho
      obtain ⟨rs2, be2, se2, kp2, kw2, bs2, s22, fm2, fb2, fl2, hM2, hO2⟩ := id hmw2
      refine gw_istore hX nd_La_law_538 (by decide) (L' := [(6, .int (nI ((ab_learn A (xs (4 * k + 1))).1))), (5, .int (nI 0)), (0, .ref b), (1, .ref n), (2, .ref (n + 124)), (3, .ref (n + 137)), (4, .int (nI (4 * k)))]) rfl ?_
      refine gw_aload_n hX nd_La_law_540 rfl 4 rfl ?_
      refine gw_callV (rest := []) hX ks_La_73 (ct_Mo_thrown _ _ _ σ2 (n + 124) hM2.1) hM2.1 rfl rfl (Nat.le_of_ble_eq_true rfl) nd_La_law_541 (by refine ⟨⟨by decide, by decide⟩, ?_, ?_⟩; (show ((138 + 3 * k) + 1) + 0 ≤ 601024; omega); (show ((2200 + 18 * k) + 6) + 0 ≤ 7293033; omega)) ?_
      rintro v_ s_ ⟨hv_, hs_⟩
      have hs_ := hs_.symm
      subst hs_ hv_
      show gw_W X σ2 ((138 + 3 * k) + 1) ((2200 + 18 * k) + 6) 544 [(6, .int (nI ((ab_learn A (xs (4 * k + 1))).1))), (5, .int (nI 0)), (0, .ref b), (1, .ref n), (2, .ref (n + 124)), (3, .ref (n + 137)), (4, .int (nI (4 * k)))] [.int (nI 0)]
      refine gw_iload hX nd_La_law_544 1 rfl ?_
      refine gw_icmp_eq (tgt := 551) hX nd_La_law_546 rfl (fun hb => ?_) (fun hb => ?_)
      · skip
        refine gw_iload hX nd_La_law_551 1 rfl ?_
        refine gw_if_ne (tgt := 568) hX nd_La_law_553 rfl (fun hb => ?_) (fun hb => ?_)
        · have hb : ¬ 0 = 0 := fun h => hb ((nI_eq (a := 0) (b := 0) (by omega) (by omega)).mpr h)
          exfalso; omega
        · have hb : 0 = 0 := (nI_eq (a := 0) (b := 0) (by omega) (by omega)).mp hb
          refine gw_aload_n hX nd_La_law_556 rfl 5 rfl ?_
          refine gw_iconst (v := nI 0) hX nd_La_law_557 rfl ?_
          refine gw_lald hX nd_La_law_558 ho 0 rfl (by omega) (by decide) ?_
          refine gw_topl (y := (nI ((ab_learn A (xs (4 * k + 1))).1)).toInt64) (if_pos rfl) ?_
          refine gw_iload hX nd_La_law_559 0 rfl ?_
          refine gw_i2l hX nd_La_law_561 ?_
          refine gw_topl (y := (nI ((ab_learn A (xs (4 * k + 1))).1)).toInt64) rfl ?_
          refine gw_lcmp hX nd_La_law_562 ?_
          refine gw_if_eq (tgt := 568) hX nd_La_law_563 rfl (fun hb => ?_) (fun hb => ?_)
          · skip
            refine gw_goto (tgt := 995) hX nd_La_law_568 rfl ?_
            refine gw_iinc hX nd_La_law_995 6 rfl (v := nI (4 * k + 4)) (show nI (4 * k) + nI 4 = nI (4 * k + 4) from nI_add _ _) (by decide) (L' := [(4, .int (nI (4 * k + 4))), (6, .int (nI ((ab_learn A (xs (4 * k + 1))).1))), (5, .int (nI 0)), (0, .ref b), (1, .ref n), (2, .ref (n + 124)), (3, .ref (n + 137))]) rfl ?_
            refine gw_goto (tgt := 23) hX nd_La_law_998 rfl ?_
            refine gw_cut (ks := [3, 4, 5, 6, 0]) (L' := [(0, .ref b), (1, .ref n), (2, .ref (n + 124)), (3, .ref (n + 137)), (4, .int (nI (4 * k + 4)))]) rfl ?_
            refine gw_wide (ce' := 138 + 3 * (k + 1)) (sl' := 2200 + 18 * (k + 1)) (by omega) (by omega) ?_
            exact K _ ⟨(ab_learn A (xs (4 * k + 1))).2, hA2, ab_bd_mono (ab_learn_bd hA hbd heq) (by omega), hcw2, ⟨_, hmw2⟩, ⟨_, ho⟩⟩
          · skip
            exact absurd ((lg_cmp_eq _ _).mpr rfl) hb
      · skip
        exact absurd rfl hb
    · exact absurd heq hnone2
  · show gw_W X σ1 ((138 + 3 * k) + 1) ((2200 + 18 * k) + 6) 526 [(0, .ref b), (1, .ref n), (2, .ref (n + 124)), (3, .ref (n + 137)), (4, .int (nI (4 * k)))] [.int (nI (ab_lk A ((xs (4 * k + 1)))))]
    refine gw_istore hX nd_La_law_526 (by decide) (L' := [(5, .int (nI (ab_lk A ((xs (4 * k + 1)))))), (0, .ref b), (1, .ref n), (2, .ref (n + 124)), (3, .ref (n + 137)), (4, .int (nI (4 * k)))]) rfl ?_
    refine gw_aload_n hX nd_La_law_528 rfl 3 rfl ?_
    refine gw_aload_n hX nd_La_law_529 rfl 1 rfl ?_
    refine gw_iload hX nd_La_law_530 5 rfl ?_
    refine gw_iconst (v := nI 1) hX nd_La_law_532 rfl ?_
    refine gw_iadd hX nd_La_law_533 ?_
    refine gw_topi (y := nI (4 * k + 1)) (nI_add _ _) ?_
    refine gw_sld hX hx hbl hbA nd_La_law_534 (4 * k + 1) rfl (by omega) hL ?_
    refine gw_callV (rest := []) hX ks_La_97 (ct_Mo_learn _ _ _ σ1 (n + 124) A hA hM hO (48 * k) hbd (by omega) (xs (4 * k + 1))) hM.1 rfl rfl (Nat.le_of_ble_eq_true rfl) nd_La_law_535 (by refine ⟨⟨by decide, by decide⟩, ?_, ?_⟩; (show ((138 + 3 * k) + 1) + 0 ≤ 601024; omega); (show ((2200 + 18 * k) + 6) + 0 ≤ 7293033; omega)) ?_
    rintro v_ σ3 ⟨hor2, hfo2⟩
    rcases hor2 with ⟨heq2, rfl, hmw2⟩ | ⟨hnone2, rfl, hmw2⟩
    · exact absurd heq2 hnone
    · skip
      show gw_W X σ3 ((138 + 3 * k) + 1) ((2200 + 18 * k) + 6) 538 [(5, .int (nI (ab_lk A ((xs (4 * k + 1)))))), (0, .ref b), (1, .ref n), (2, .ref (n + 124)), (3, .ref (n + 137)), (4, .int (nI (4 * k)))] [.int (nI 0)]
      have hcw2 : cw σ3 (gw_z X) n A := cw_mv hcw (fun b h1 h2 => hfo2 b (by omega)) hA
      have ho : σ3.2 (n + 137) = some ((gw_J (gw_z X) 1 f)) := (hfo2 _ (by omega)).trans ho
      obtain ⟨rs2, be2, se2, kp2, kw2, bs2, s22, fm2, fb2, fl2, hM2, hO2⟩ := id hmw2
      refine gw_istore hX nd_La_law_538 (by decide) (L' := [(6, .int (nI 0)), (5, .int (nI (ab_lk A ((xs (4 * k + 1)))))), (0, .ref b), (1, .ref n), (2, .ref (n + 124)), (3, .ref (n + 137)), (4, .int (nI (4 * k)))]) rfl ?_
      refine gw_aload_n hX nd_La_law_540 rfl 4 rfl ?_
      refine gw_callV (rest := []) hX ks_La_73 (ct_Mo_thrown _ _ _ σ3 (n + 124) hM2.1) hM2.1 rfl rfl (Nat.le_of_ble_eq_true rfl) nd_La_law_541 (by refine ⟨⟨by decide, by decide⟩, ?_, ?_⟩; (show ((138 + 3 * k) + 1) + 0 ≤ 601024; omega); (show ((2200 + 18 * k) + 6) + 0 ≤ 7293033; omega)) ?_
      rintro v_ s_ ⟨hv_, hs_⟩
      have hs_ := hs_.symm
      subst hs_ hv_
      show gw_W X σ3 ((138 + 3 * k) + 1) ((2200 + 18 * k) + 6) 544 [(6, .int (nI 0)), (5, .int (nI (ab_lk A ((xs (4 * k + 1)))))), (0, .ref b), (1, .ref n), (2, .ref (n + 124)), (3, .ref (n + 137)), (4, .int (nI (4 * k)))] [.int (nI (ab_lk A ((xs (4 * k + 1)))))]
      refine gw_iload hX nd_La_law_544 1 rfl ?_
      refine gw_icmp_eq (tgt := 551) hX nd_La_law_546 rfl (fun hb => ?_) (fun hb => ?_)
      · skip
        refine gw_iload hX nd_La_law_551 1 rfl ?_
        have hlk2 := ab_lk_le A ((xs (4 * k + 1)))
        refine gw_if_ne (tgt := 568) hX nd_La_law_553 rfl (fun hb => ?_) (fun hb => ?_)
        · have hb : ¬ ab_lk A ((xs (4 * k + 1))) = 0 := fun h => hb ((nI_eq (a := ab_lk A ((xs (4 * k + 1)))) (b := 0) (by omega) (by omega)).mpr h)
          refine gw_goto (tgt := 995) hX nd_La_law_568 rfl ?_
          refine gw_iinc hX nd_La_law_995 6 rfl (v := nI (4 * k + 4)) (show nI (4 * k) + nI 4 = nI (4 * k + 4) from nI_add _ _) (by decide) (L' := [(4, .int (nI (4 * k + 4))), (6, .int (nI 0)), (5, .int (nI (ab_lk A ((xs (4 * k + 1)))))), (0, .ref b), (1, .ref n), (2, .ref (n + 124)), (3, .ref (n + 137))]) rfl ?_
          refine gw_goto (tgt := 23) hX nd_La_law_998 rfl ?_
          refine gw_cut (ks := [3, 4, 5, 6, 0]) (L' := [(0, .ref b), (1, .ref n), (2, .ref (n + 124)), (3, .ref (n + 137)), (4, .int (nI (4 * k + 4)))]) rfl ?_
          refine gw_wide (ce' := 138 + 3 * (k + 1)) (sl' := 2200 + 18 * (k + 1)) (by omega) (by omega) ?_
          exact K _ ⟨A, hA, ab_bd_mono hbd (by omega), hcw2, ⟨_, hmw2⟩, ⟨_, ho⟩⟩
        · have hb : ab_lk A ((xs (4 * k + 1))) = 0 := (nI_eq (a := ab_lk A ((xs (4 * k + 1)))) (b := 0) (by omega) (by omega)).mp hb
          exfalso; omega
      · skip
        exact absurd rfl hb
set_option maxRecDepth 100000 in
set_option maxHeartbeats 8000000 in
theorem la_mistakes {X : gw_C} (hX : gw_ok X nc_La_law "LabelLearnerLaw" (8, 11, 394, 601024, 7293033)) {b L : Nat} {xs : Nat → Int32} (hCx : la_C X b L xs) (n k : Nat) (hk4 : 4 * k + 4 ≤ L) (K : ∀ σ' : gw_S, la_I σ' (gw_z X) n (k + 1) → gw_W X σ' (138 + 3 * (k + 1)) (2200 + 18 * (k + 1)) 23 [(0, .ref b), (1, .ref n), (2, .ref (n + 124)), (3, .ref (n + 137)), (4, .int (nI (4 * k + 4)))] []) (σ : gw_S) (hI : la_I σ (gw_z X) n k) : gw_W X σ (138 + 3 * k) (2200 + 18 * k) 571 [(0, .ref b), (1, .ref n), (2, .ref (n + 124)), (3, .ref (n + 137)), (4, .int (nI (4 * k)))] [] := by
  obtain ⟨A, hA, hbd, ⟨c, cd, s, sd, hC⟩, ⟨th, hmw⟩, f, ho⟩ := hI
  obtain ⟨hK, hb0, hl0, hx, hbl, hbA, hL⟩ := hCx
  refine gw_aload_n hX nd_La_law_571 rfl 1 rfl ?_
  refine gw_callV (rest := []) hX ks_La_98 (ct_LL_mistakes _ _ _ σ n c cd s sd A hA hC ) hC.2.1 rfl rfl (Nat.le_of_ble_eq_true rfl) nd_La_law_572 (by refine ⟨⟨by decide, by decide⟩, ?_, ?_⟩; (show (138 + 3 * k) + 0 ≤ 601024; omega); (show (2200 + 18 * k) + 0 ≤ 7293033; omega)) ?_
  rintro v_ s_ ⟨rfl, hs_⟩
  have hs_ := hs_.symm
  subst hs_
  have hC1 := hC
  have hmw1 := hmw
  obtain ⟨rs, be, se, kp, kw, bs, s2, fm, fb, fl, hM, hO⟩ := hmw1
  show gw_W X σ (138 + 3 * k) (2200 + 18 * k) 575 [(0, .ref b), (1, .ref n), (2, .ref (n + 124)), (3, .ref (n + 137)), (4, .int (nI (4 * k)))] [.int (nI A.mk)]
  refine gw_aload_n hX nd_La_law_575 rfl 2 rfl ?_
  refine gw_callV (rest := [.int (nI A.mk)]) hX ks_La_101 (ct_Mo_mistakes _ _ _ σ (n + 124) A hA hM hO ) hM.1 rfl rfl (Nat.le_of_ble_eq_true rfl) nd_La_law_576 (by refine ⟨⟨by decide, by decide⟩, ?_, ?_⟩; (show (138 + 3 * k) + 0 ≤ 601024; omega); (show (2200 + 18 * k) + 0 ≤ 7293033; omega)) ?_
  rintro v_ σ1 ⟨rfl, hmw2, hfo2⟩
  have hcw2 : cw σ1 (gw_z X) n A := cw_mv ⟨c, cd, s, sd, hC1⟩ (fun b h1 h2 => hfo2 b (by omega)) hA
  have ho : σ1.2 (n + 137) = some (gw_J (gw_z X) 1 f) := (hfo2 _ (by omega)).trans ho
  show gw_W X σ1 (138 + 3 * k) (2200 + 18 * k) 579 [(0, .ref b), (1, .ref n), (2, .ref (n + 124)), (3, .ref (n + 137)), (4, .int (nI (4 * k)))] [.int (nI A.mk), .int (nI A.mk)]
  refine gw_icmp_eq (tgt := 995) hX nd_La_law_579 rfl (fun hb => ?_) (fun hb => ?_)
  · skip
    refine gw_iinc hX nd_La_law_995 4 rfl (v := nI (4 * k + 4)) (show nI (4 * k) + nI 4 = nI (4 * k + 4) from nI_add _ _) (by decide) (L' := [(4, .int (nI (4 * k + 4))), (0, .ref b), (1, .ref n), (2, .ref (n + 124)), (3, .ref (n + 137))]) rfl ?_
    refine gw_goto (tgt := 23) hX nd_La_law_998 rfl ?_
    refine gw_cut (ks := [1, 2, 3, 4, 0]) (L' := [(0, .ref b), (1, .ref n), (2, .ref (n + 124)), (3, .ref (n + 137)), (4, .int (nI (4 * k + 4)))]) rfl ?_
    refine gw_wide (ce' := 138 + 3 * (k + 1)) (sl' := 2200 + 18 * (k + 1)) (by omega) (by omega) ?_
    exact K _ ⟨A, hA, ab_bd_mono hbd (by omega), hcw2, ⟨_, hmw2⟩, ⟨_, ho⟩⟩
  · skip
    exact absurd rfl hb
set_option maxRecDepth 100000 in
set_option maxHeartbeats 8000000 in
theorem la_passes {X : gw_C} (hX : gw_ok X nc_La_law "LabelLearnerLaw" (8, 11, 394, 601024, 7293033)) {b L : Nat} {xs : Nat → Int32} (hCx : la_C X b L xs) (n k : Nat) (hk4 : 4 * k + 4 ≤ L) (K : ∀ σ' : gw_S, la_I σ' (gw_z X) n (k + 1) → gw_W X σ' (138 + 3 * (k + 1)) (2200 + 18 * (k + 1)) 23 [(0, .ref b), (1, .ref n), (2, .ref (n + 124)), (3, .ref (n + 137)), (4, .int (nI (4 * k + 4)))] []) (σ : gw_S) (hI : la_I σ (gw_z X) n k) : gw_W X σ (138 + 3 * k) (2200 + 18 * k) 584 [(0, .ref b), (1, .ref n), (2, .ref (n + 124)), (3, .ref (n + 137)), (4, .int (nI (4 * k)))] [] := by
  obtain ⟨A, hA, hbd, ⟨c, cd, s, sd, hC⟩, ⟨th, hmw⟩, f, ho⟩ := hI
  obtain ⟨hK, hb0, hl0, hx, hbl, hbA, hL⟩ := hCx
  refine gw_aload_n hX nd_La_law_584 rfl 1 rfl ?_
  refine gw_callV (rest := []) hX ks_La_102 (ct_LL_passes _ _ _ σ n c cd s sd A hA hC ) hC.2.1 rfl rfl (Nat.le_of_ble_eq_true rfl) nd_La_law_585 (by refine ⟨⟨by decide, by decide⟩, ?_, ?_⟩; (show (138 + 3 * k) + 0 ≤ 601024; omega); (show (2200 + 18 * k) + 0 ≤ 7293033; omega)) ?_
  rintro v_ s_ ⟨rfl, hs_⟩
  have hs_ := hs_.symm
  subst hs_
  have hC1 := hC
  have hmw1 := hmw
  obtain ⟨rs, be, se, kp, kw, bs, s2, fm, fb, fl, hM, hO⟩ := hmw1
  show gw_W X σ (138 + 3 * k) (2200 + 18 * k) 588 [(0, .ref b), (1, .ref n), (2, .ref (n + 124)), (3, .ref (n + 137)), (4, .int (nI (4 * k)))] [.int (nI A.ps)]
  refine gw_aload_n hX nd_La_law_588 rfl 2 rfl ?_
  refine gw_callV (rest := [.int (nI A.ps)]) hX ks_La_105 (ct_Mo_passes _ _ _ σ (n + 124) A hA hM hO ) hM.1 rfl rfl (Nat.le_of_ble_eq_true rfl) nd_La_law_589 (by refine ⟨⟨by decide, by decide⟩, ?_, ?_⟩; (show (138 + 3 * k) + 0 ≤ 601024; omega); (show (2200 + 18 * k) + 0 ≤ 7293033; omega)) ?_
  rintro v_ σ1 ⟨rfl, hmw2, hfo2⟩
  have hcw2 : cw σ1 (gw_z X) n A := cw_mv ⟨c, cd, s, sd, hC1⟩ (fun b h1 h2 => hfo2 b (by omega)) hA
  have ho : σ1.2 (n + 137) = some (gw_J (gw_z X) 1 f) := (hfo2 _ (by omega)).trans ho
  show gw_W X σ1 (138 + 3 * k) (2200 + 18 * k) 592 [(0, .ref b), (1, .ref n), (2, .ref (n + 124)), (3, .ref (n + 137)), (4, .int (nI (4 * k)))] [.int (nI A.ps), .int (nI A.ps)]
  refine gw_icmp_eq (tgt := 995) hX nd_La_law_592 rfl (fun hb => ?_) (fun hb => ?_)
  · skip
    refine gw_iinc hX nd_La_law_995 4 rfl (v := nI (4 * k + 4)) (show nI (4 * k) + nI 4 = nI (4 * k + 4) from nI_add _ _) (by decide) (L' := [(4, .int (nI (4 * k + 4))), (0, .ref b), (1, .ref n), (2, .ref (n + 124)), (3, .ref (n + 137))]) rfl ?_
    refine gw_goto (tgt := 23) hX nd_La_law_998 rfl ?_
    refine gw_cut (ks := [1, 2, 3, 4, 0]) (L' := [(0, .ref b), (1, .ref n), (2, .ref (n + 124)), (3, .ref (n + 137)), (4, .int (nI (4 * k + 4)))]) rfl ?_
    refine gw_wide (ce' := 138 + 3 * (k + 1)) (sl' := 2200 + 18 * (k + 1)) (by omega) (by omega) ?_
    exact K _ ⟨A, hA, ab_bd_mono hbd (by omega), hcw2, ⟨_, hmw2⟩, ⟨_, ho⟩⟩
  · skip
    exact absurd rfl hb
set_option maxRecDepth 100000 in
set_option maxHeartbeats 8000000 in
theorem la_weight {X : gw_C} (hX : gw_ok X nc_La_law "LabelLearnerLaw" (8, 11, 394, 601024, 7293033)) {b L : Nat} {xs : Nat → Int32} (hCx : la_C X b L xs) (n k : Nat) (hk4 : 4 * k + 4 ≤ L) (K : ∀ σ' : gw_S, la_I σ' (gw_z X) n (k + 1) → gw_W X σ' (138 + 3 * (k + 1)) (2200 + 18 * (k + 1)) 23 [(0, .ref b), (1, .ref n), (2, .ref (n + 124)), (3, .ref (n + 137)), (4, .int (nI (4 * k + 4)))] []) (σ : gw_S) (hI : la_I σ (gw_z X) n k) : gw_W X σ (138 + 3 * k) (2200 + 18 * k) 597 [(0, .ref b), (1, .ref n), (2, .ref (n + 124)), (3, .ref (n + 137)), (4, .int (nI (4 * k)))] [] := by
  obtain ⟨A, hA, hbd, ⟨c, cd, s, sd, hC⟩, ⟨th, hmw⟩, f, ho⟩ := hI
  obtain ⟨hK, hb0, hl0, hx, hbl, hbA, hL⟩ := hCx
  refine gw_aload_n hX nd_La_law_597 rfl 1 rfl ?_
  refine gw_aload_n hX nd_La_law_598 rfl 0 rfl ?_
  refine gw_iload hX nd_La_law_599 4 rfl ?_
  refine gw_iconst (v := nI 1) hX nd_La_law_601 rfl ?_
  refine gw_iadd hX nd_La_law_602 ?_
  refine gw_topi (y := nI (4 * k + 1)) (nI_add _ _) ?_
  refine gw_sld hX hx hbl hbA nd_La_law_603 (4 * k + 1) rfl (by omega) hL ?_
  refine gw_aload_n hX nd_La_law_604 rfl 0 rfl ?_
  refine gw_iload hX nd_La_law_605 4 rfl ?_
  refine gw_iconst (v := nI 2) hX nd_La_law_607 rfl ?_
  refine gw_iadd hX nd_La_law_608 ?_
  refine gw_topi (y := nI (4 * k + 2)) (nI_add _ _) ?_
  refine gw_sld hX hx hbl hbA nd_La_law_609 (4 * k + 2) rfl (by omega) hL ?_
  refine gw_aload_n hX nd_La_law_610 rfl 0 rfl ?_
  refine gw_iload hX nd_La_law_611 4 rfl ?_
  refine gw_iconst (v := nI 3) hX nd_La_law_613 rfl ?_
  refine gw_iadd hX nd_La_law_614 ?_
  refine gw_topi (y := nI (4 * k + 3)) (nI_add _ _) ?_
  refine gw_sld hX hx hbl hbA nd_La_law_615 (4 * k + 3) rfl (by omega) hL ?_
  refine gw_if_eq (tgt := 623) hX nd_La_law_616 rfl (fun hb => ?_) (fun hb => ?_)
  · skip
    have hq0 := hb
    refine gw_iconst (v := nI 0) hX nd_La_law_623 rfl ?_
    refine gw_aload_n hX nd_La_law_624 rfl 3 rfl ?_
    refine gy_callS (rest := []) hX hK hb0 kh_weight (gw_in_t 494 (by decide +kernel) rfl) (ct_La_weight _ hl0 _ _ σ n c cd s sd A hA hC (n + 137) f ho (by omega) (xs (4 * k + 1)) (xs (4 * k + 2)) 0 (by decide)) rfl rfl (Nat.le_of_ble_eq_true rfl) nd_La_law_625 (by refine ⟨⟨by decide, by decide⟩, ?_, ?_⟩; (show (138 + 3 * k) + 1 ≤ 601024; omega); (show (2200 + 18 * k) + 6 ≤ 7293033; omega)) (fun E_ s_ hx_ => hx_.elim) ?_
    rintro v_ σ1 ⟨hor, hfo⟩
    have hmw1 : mw σ1 (gw_z X) (n + 124) A th := mw_mv hmw (fun b h1 h2 => hfo b (by omega) (by omega))
    obtain ⟨rs, be, se, kp, kw, bs, s2, fm, fb, fl, hM, hO⟩ := hmw1
    rcases hor with ⟨z, heq, rfl, hA2, hcw, ho⟩ | ⟨hnone, rfl, hcw, ho⟩
    · show gw_W X σ1 ((138 + 3 * k) + 1) ((2200 + 18 * k) + 6) 628 [(0, .ref b), (1, .ref n), (2, .ref (n + 124)), (3, .ref (n + 137)), (4, .int (nI (4 * k)))] [.int (nI 0)]
      refine gw_istore hX nd_La_law_628 (by decide) (L' := [(5, .int (nI 0)), (0, .ref b), (1, .ref n), (2, .ref (n + 124)), (3, .ref (n + 137)), (4, .int (nI (4 * k)))]) rfl ?_
      refine gw_aload_n hX nd_La_law_630 rfl 3 rfl ?_
      refine gw_aload_n hX nd_La_law_631 rfl 1 rfl ?_
      refine gw_iload hX nd_La_law_632 5 rfl ?_
      refine gw_iconst (v := nI 1) hX nd_La_law_634 rfl ?_
      refine gw_iadd hX nd_La_law_635 ?_
      refine gw_topi (y := nI (4 * k + 1)) (nI_add _ _) ?_
      refine gw_sld hX hx hbl hbA nd_La_law_636 (4 * k + 1) rfl (by omega) hL ?_
      refine gw_aload_n hX nd_La_law_637 rfl 1 rfl ?_
      refine gw_iload hX nd_La_law_638 5 rfl ?_
      refine gw_iconst (v := nI 2) hX nd_La_law_640 rfl ?_
      refine gw_iadd hX nd_La_law_641 ?_
      refine gw_topi (y := nI (4 * k + 2)) (nI_add _ _) ?_
      refine gw_sld hX hx hbl hbA nd_La_law_642 (4 * k + 2) rfl (by omega) hL ?_
      refine gw_aload_n hX nd_La_law_643 rfl 1 rfl ?_
      refine gw_iload hX nd_La_law_644 5 rfl ?_
      refine gw_iconst (v := nI 3) hX nd_La_law_646 rfl ?_
      refine gw_iadd hX nd_La_law_647 ?_
      refine gw_topi (y := nI (4 * k + 3)) (nI_add _ _) ?_
      refine gw_sld hX hx hbl hbA nd_La_law_648 (4 * k + 3) rfl (by omega) hL ?_
      refine gw_if_eq (tgt := 656) hX nd_La_law_649 rfl (fun hb => ?_) (fun hb => ?_)
      · skip
        refine gw_iconst (v := nI 0) hX nd_La_law_656 rfl ?_
        refine gw_callV (rest := []) hX ks_La_109 (ct_Mo_weight _ _ _ σ1 (n + 124) A hA hM hO (xs (4 * k + 1)) (xs (4 * k + 2)) 0 (by decide)) hM.1 rfl rfl (Nat.le_of_ble_eq_true rfl) nd_La_law_657 (by refine ⟨⟨by decide, by decide⟩, ?_, ?_⟩; (show ((138 + 3 * k) + 1) + 0 ≤ 601024; omega); (show ((2200 + 18 * k) + 6) + 0 ≤ 7293033; omega)) ?_
        rintro v_ σ2 ⟨hor2, hfo2⟩
        rcases hor2 with ⟨z9, heq2, rfl, hmw2⟩ | ⟨hnone2, rfl, hmw2⟩
        · skip
          cases heq.symm.trans heq2
          show gw_W X σ2 ((138 + 3 * k) + 1) ((2200 + 18 * k) + 6) 660 [(5, .int (nI 0)), (0, .ref b), (1, .ref n), (2, .ref (n + 124)), (3, .ref (n + 137)), (4, .int (nI (4 * k)))] [.long (iL z)]
          have hcw2 : cw σ2 (gw_z X) n A := cw_mv hcw (fun b h1 h2 => hfo2 b (by omega)) hA2
          have ho : σ2.2 (n + 137) = some ((gw_J (gw_z X) 1 (vp_updL f 0 (iL z)))) := (hfo2 _ (by omega)).trans ho
          obtain ⟨rs2, be2, se2, kp2, kw2, bs2, s22, fm2, fb2, fl2, hM2, hO2⟩ := id hmw2
          refine gw_lstore hX nd_La_law_660 (by decide) (L' := [(6, .long (iL z)), (5, .int (nI 0)), (0, .ref b), (1, .ref n), (2, .ref (n + 124)), (3, .ref (n + 137)), (4, .int (nI (4 * k)))]) rfl ?_
          refine gw_aload_n hX nd_La_law_662 rfl 4 rfl ?_
          refine gw_callV (rest := []) hX ks_La_73 (ct_Mo_thrown _ _ _ σ2 (n + 124) hM2.1) hM2.1 rfl rfl (Nat.le_of_ble_eq_true rfl) nd_La_law_663 (by refine ⟨⟨by decide, by decide⟩, ?_, ?_⟩; (show ((138 + 3 * k) + 1) + 0 ≤ 601024; omega); (show ((2200 + 18 * k) + 6) + 0 ≤ 7293033; omega)) ?_
          rintro v_ s_ ⟨hv_, hs_⟩
          have hs_ := hs_.symm
          subst hs_ hv_
          show gw_W X σ2 ((138 + 3 * k) + 1) ((2200 + 18 * k) + 6) 666 [(6, .long (iL z)), (5, .int (nI 0)), (0, .ref b), (1, .ref n), (2, .ref (n + 124)), (3, .ref (n + 137)), (4, .int (nI (4 * k)))] [.int (nI 0)]
          refine gw_iload hX nd_La_law_666 1 rfl ?_
          refine gw_icmp_eq (tgt := 673) hX nd_La_law_668 rfl (fun hb => ?_) (fun hb => ?_)
          · skip
            refine gw_iload hX nd_La_law_673 1 rfl ?_
            refine gw_if_ne (tgt := 689) hX nd_La_law_675 rfl (fun hb => ?_) (fun hb => ?_)
            · have hb : ¬ 0 = 0 := fun h => hb ((nI_eq (a := 0) (b := 0) (by omega) (by omega)).mpr h)
              exfalso; omega
            · have hb : 0 = 0 := (nI_eq (a := 0) (b := 0) (by omega) (by omega)).mp hb
              refine gw_aload_n hX nd_La_law_678 rfl 5 rfl ?_
              refine gw_iconst (v := nI 0) hX nd_La_law_679 rfl ?_
              refine gw_lald hX nd_La_law_680 ho 0 rfl (by omega) (by decide) ?_
              refine gw_topl (y := iL z) (if_pos rfl) ?_
              refine gw_lload hX nd_La_law_681 0 rfl ?_
              refine gw_lcmp hX nd_La_law_683 ?_
              refine gw_if_eq (tgt := 689) hX nd_La_law_684 rfl (fun hb => ?_) (fun hb => ?_)
              · skip
                refine gw_goto (tgt := 995) hX nd_La_law_689 rfl ?_
                refine gw_iinc hX nd_La_law_995 6 rfl (v := nI (4 * k + 4)) (show nI (4 * k) + nI 4 = nI (4 * k + 4) from nI_add _ _) (by decide) (L' := [(4, .int (nI (4 * k + 4))), (6, .long (iL z)), (5, .int (nI 0)), (0, .ref b), (1, .ref n), (2, .ref (n + 124)), (3, .ref (n + 137))]) rfl ?_
                refine gw_goto (tgt := 23) hX nd_La_law_998 rfl ?_
                refine gw_cut (ks := [3, 4, 5, 6, 0]) (L' := [(0, .ref b), (1, .ref n), (2, .ref (n + 124)), (3, .ref (n + 137)), (4, .int (nI (4 * k + 4)))]) rfl ?_
                refine gw_wide (ce' := 138 + 3 * (k + 1)) (sl' := 2200 + 18 * (k + 1)) (by omega) (by omega) ?_
                exact K _ ⟨A, hA2, ab_bd_mono hbd (by omega), hcw2, ⟨_, hmw2⟩, ⟨_, ho⟩⟩
              · skip
                exact absurd ((lg_cmp_eq _ _).mpr rfl) hb
          · skip
            exact absurd rfl hb
        · exact absurd (heq.symm.trans hnone2) (by simp)
      · skip
        exact absurd hq0 hb
    · show gw_W X σ1 ((138 + 3 * k) + 1) ((2200 + 18 * k) + 6) 628 [(0, .ref b), (1, .ref n), (2, .ref (n + 124)), (3, .ref (n + 137)), (4, .int (nI (4 * k)))] [.int (nI 1)]
      refine gw_istore hX nd_La_law_628 (by decide) (L' := [(5, .int (nI 1)), (0, .ref b), (1, .ref n), (2, .ref (n + 124)), (3, .ref (n + 137)), (4, .int (nI (4 * k)))]) rfl ?_
      refine gw_aload_n hX nd_La_law_630 rfl 3 rfl ?_
      refine gw_aload_n hX nd_La_law_631 rfl 1 rfl ?_
      refine gw_iload hX nd_La_law_632 5 rfl ?_
      refine gw_iconst (v := nI 1) hX nd_La_law_634 rfl ?_
      refine gw_iadd hX nd_La_law_635 ?_
      refine gw_topi (y := nI (4 * k + 1)) (nI_add _ _) ?_
      refine gw_sld hX hx hbl hbA nd_La_law_636 (4 * k + 1) rfl (by omega) hL ?_
      refine gw_aload_n hX nd_La_law_637 rfl 1 rfl ?_
      refine gw_iload hX nd_La_law_638 5 rfl ?_
      refine gw_iconst (v := nI 2) hX nd_La_law_640 rfl ?_
      refine gw_iadd hX nd_La_law_641 ?_
      refine gw_topi (y := nI (4 * k + 2)) (nI_add _ _) ?_
      refine gw_sld hX hx hbl hbA nd_La_law_642 (4 * k + 2) rfl (by omega) hL ?_
      refine gw_aload_n hX nd_La_law_643 rfl 1 rfl ?_
      refine gw_iload hX nd_La_law_644 5 rfl ?_
      refine gw_iconst (v := nI 3) hX nd_La_law_646 rfl ?_
      refine gw_iadd hX nd_La_law_647 ?_
      refine gw_topi (y := nI (4 * k + 3)) (nI_add _ _) ?_
      refine gw_sld hX hx hbl hbA nd_La_law_648 (4 * k + 3) rfl (by omega) hL ?_
      refine gw_if_eq (tgt := 656) hX nd_La_law_649 rfl (fun hb => ?_) (fun hb => ?_)
      · skip
        refine gw_iconst (v := nI 0) hX nd_La_law_656 rfl ?_
        refine gw_callV (rest := []) hX ks_La_109 (ct_Mo_weight _ _ _ σ1 (n + 124) A hA hM hO (xs (4 * k + 1)) (xs (4 * k + 2)) 0 (by decide)) hM.1 rfl rfl (Nat.le_of_ble_eq_true rfl) nd_La_law_657 (by refine ⟨⟨by decide, by decide⟩, ?_, ?_⟩; (show ((138 + 3 * k) + 1) + 0 ≤ 601024; omega); (show ((2200 + 18 * k) + 6) + 0 ≤ 7293033; omega)) ?_
        rintro v_ σ3 ⟨hor2, hfo2⟩
        rcases hor2 with ⟨z9, heq2, rfl, hmw2⟩ | ⟨hnone2, rfl, hmw2⟩
        · exact absurd (heq2.symm.trans hnone) (by simp)
        · skip
          show gw_W X σ3 ((138 + 3 * k) + 1) ((2200 + 18 * k) + 6) 660 [(5, .int (nI 1)), (0, .ref b), (1, .ref n), (2, .ref (n + 124)), (3, .ref (n + 137)), (4, .int (nI (4 * k)))] [.long 0]
          have hcw2 : cw σ3 (gw_z X) n A := cw_mv hcw (fun b h1 h2 => hfo2 b (by omega)) hA
          have ho : σ3.2 (n + 137) = some ((gw_J (gw_z X) 1 f)) := (hfo2 _ (by omega)).trans ho
          obtain ⟨rs2, be2, se2, kp2, kw2, bs2, s22, fm2, fb2, fl2, hM2, hO2⟩ := id hmw2
          refine gw_lstore hX nd_La_law_660 (by decide) (L' := [(6, .long 0), (5, .int (nI 1)), (0, .ref b), (1, .ref n), (2, .ref (n + 124)), (3, .ref (n + 137)), (4, .int (nI (4 * k)))]) rfl ?_
          refine gw_aload_n hX nd_La_law_662 rfl 4 rfl ?_
          refine gw_callV (rest := []) hX ks_La_73 (ct_Mo_thrown _ _ _ σ3 (n + 124) hM2.1) hM2.1 rfl rfl (Nat.le_of_ble_eq_true rfl) nd_La_law_663 (by refine ⟨⟨by decide, by decide⟩, ?_, ?_⟩; (show ((138 + 3 * k) + 1) + 0 ≤ 601024; omega); (show ((2200 + 18 * k) + 6) + 0 ≤ 7293033; omega)) ?_
          rintro v_ s_ ⟨hv_, hs_⟩
          have hs_ := hs_.symm
          subst hs_ hv_
          show gw_W X σ3 ((138 + 3 * k) + 1) ((2200 + 18 * k) + 6) 666 [(6, .long 0), (5, .int (nI 1)), (0, .ref b), (1, .ref n), (2, .ref (n + 124)), (3, .ref (n + 137)), (4, .int (nI (4 * k)))] [.int (nI 1)]
          refine gw_iload hX nd_La_law_666 1 rfl ?_
          refine gw_icmp_eq (tgt := 673) hX nd_La_law_668 rfl (fun hb => ?_) (fun hb => ?_)
          · skip
            refine gw_iload hX nd_La_law_673 1 rfl ?_
            refine gw_if_ne (tgt := 689) hX nd_La_law_675 rfl (fun hb => ?_) (fun hb => ?_)
            · have hb : ¬ 1 = 0 := fun h => hb ((nI_eq (a := 1) (b := 0) (by omega) (by omega)).mpr h)
              refine gw_goto (tgt := 995) hX nd_La_law_689 rfl ?_
              refine gw_iinc hX nd_La_law_995 6 rfl (v := nI (4 * k + 4)) (show nI (4 * k) + nI 4 = nI (4 * k + 4) from nI_add _ _) (by decide) (L' := [(4, .int (nI (4 * k + 4))), (6, .long 0), (5, .int (nI 1)), (0, .ref b), (1, .ref n), (2, .ref (n + 124)), (3, .ref (n + 137))]) rfl ?_
              refine gw_goto (tgt := 23) hX nd_La_law_998 rfl ?_
              refine gw_cut (ks := [3, 4, 5, 6, 0]) (L' := [(0, .ref b), (1, .ref n), (2, .ref (n + 124)), (3, .ref (n + 137)), (4, .int (nI (4 * k + 4)))]) rfl ?_
              refine gw_wide (ce' := 138 + 3 * (k + 1)) (sl' := 2200 + 18 * (k + 1)) (by omega) (by omega) ?_
              exact K _ ⟨A, hA, ab_bd_mono hbd (by omega), hcw2, ⟨_, hmw2⟩, ⟨_, ho⟩⟩
            · have hb : 1 = 0 := (nI_eq (a := 1) (b := 0) (by omega) (by omega)).mp hb
              exfalso; omega
          · skip
            exact absurd rfl hb
      · skip
        exact absurd hq0 hb
  · skip
    have hq0 := hb
    refine gw_iconst (v := nI 1) hX nd_La_law_619 rfl ?_
    refine gw_goto (tgt := 624) hX nd_La_law_620 rfl ?_
    refine gw_aload_n hX nd_La_law_624 rfl 3 rfl ?_
    refine gy_callS (rest := []) hX hK hb0 kh_weight (gw_in_t 494 (by decide +kernel) rfl) (ct_La_weight _ hl0 _ _ σ n c cd s sd A hA hC (n + 137) f ho (by omega) (xs (4 * k + 1)) (xs (4 * k + 2)) 1 (by decide)) rfl rfl (Nat.le_of_ble_eq_true rfl) nd_La_law_625 (by refine ⟨⟨by decide, by decide⟩, ?_, ?_⟩; (show (138 + 3 * k) + 1 ≤ 601024; omega); (show (2200 + 18 * k) + 6 ≤ 7293033; omega)) (fun E_ s_ hx_ => hx_.elim) ?_
    rintro v_ σ4 ⟨hor, hfo⟩
    have hmw1 : mw σ4 (gw_z X) (n + 124) A th := mw_mv hmw (fun b h1 h2 => hfo b (by omega) (by omega))
    obtain ⟨rs, be, se, kp, kw, bs, s2, fm, fb, fl, hM, hO⟩ := hmw1
    rcases hor with ⟨z, heq, rfl, hA2, hcw, ho⟩ | ⟨hnone, rfl, hcw, ho⟩
    · show gw_W X σ4 ((138 + 3 * k) + 1) ((2200 + 18 * k) + 6) 628 [(0, .ref b), (1, .ref n), (2, .ref (n + 124)), (3, .ref (n + 137)), (4, .int (nI (4 * k)))] [.int (nI 0)]
      refine gw_istore hX nd_La_law_628 (by decide) (L' := [(5, .int (nI 0)), (0, .ref b), (1, .ref n), (2, .ref (n + 124)), (3, .ref (n + 137)), (4, .int (nI (4 * k)))]) rfl ?_
      refine gw_aload_n hX nd_La_law_630 rfl 3 rfl ?_
      refine gw_aload_n hX nd_La_law_631 rfl 1 rfl ?_
      refine gw_iload hX nd_La_law_632 5 rfl ?_
      refine gw_iconst (v := nI 1) hX nd_La_law_634 rfl ?_
      refine gw_iadd hX nd_La_law_635 ?_
      refine gw_topi (y := nI (4 * k + 1)) (nI_add _ _) ?_
      refine gw_sld hX hx hbl hbA nd_La_law_636 (4 * k + 1) rfl (by omega) hL ?_
      refine gw_aload_n hX nd_La_law_637 rfl 1 rfl ?_
      refine gw_iload hX nd_La_law_638 5 rfl ?_
      refine gw_iconst (v := nI 2) hX nd_La_law_640 rfl ?_
      refine gw_iadd hX nd_La_law_641 ?_
      refine gw_topi (y := nI (4 * k + 2)) (nI_add _ _) ?_
      refine gw_sld hX hx hbl hbA nd_La_law_642 (4 * k + 2) rfl (by omega) hL ?_
      refine gw_aload_n hX nd_La_law_643 rfl 1 rfl ?_
      refine gw_iload hX nd_La_law_644 5 rfl ?_
      refine gw_iconst (v := nI 3) hX nd_La_law_646 rfl ?_
      refine gw_iadd hX nd_La_law_647 ?_
      refine gw_topi (y := nI (4 * k + 3)) (nI_add _ _) ?_
      refine gw_sld hX hx hbl hbA nd_La_law_648 (4 * k + 3) rfl (by omega) hL ?_
      refine gw_if_eq (tgt := 656) hX nd_La_law_649 rfl (fun hb => ?_) (fun hb => ?_)
      · skip
        exact absurd hb hq0
      · skip
        refine gw_iconst (v := nI 1) hX nd_La_law_652 rfl ?_
        refine gw_goto (tgt := 657) hX nd_La_law_653 rfl ?_
        refine gw_callV (rest := []) hX ks_La_109 (ct_Mo_weight _ _ _ σ4 (n + 124) A hA hM hO (xs (4 * k + 1)) (xs (4 * k + 2)) 1 (by decide)) hM.1 rfl rfl (Nat.le_of_ble_eq_true rfl) nd_La_law_657 (by refine ⟨⟨by decide, by decide⟩, ?_, ?_⟩; (show ((138 + 3 * k) + 1) + 0 ≤ 601024; omega); (show ((2200 + 18 * k) + 6) + 0 ≤ 7293033; omega)) ?_
        rintro v_ σ5 ⟨hor2, hfo2⟩
        rcases hor2 with ⟨z9, heq2, rfl, hmw2⟩ | ⟨hnone2, rfl, hmw2⟩
        · skip
          cases heq.symm.trans heq2
          show gw_W X σ5 ((138 + 3 * k) + 1) ((2200 + 18 * k) + 6) 660 [(5, .int (nI 0)), (0, .ref b), (1, .ref n), (2, .ref (n + 124)), (3, .ref (n + 137)), (4, .int (nI (4 * k)))] [.long (iL z)]
          have hcw2 : cw σ5 (gw_z X) n A := cw_mv hcw (fun b h1 h2 => hfo2 b (by omega)) hA2
          have ho : σ5.2 (n + 137) = some ((gw_J (gw_z X) 1 (vp_updL f 0 (iL z)))) := (hfo2 _ (by omega)).trans ho
          obtain ⟨rs2, be2, se2, kp2, kw2, bs2, s22, fm2, fb2, fl2, hM2, hO2⟩ := id hmw2
          refine gw_lstore hX nd_La_law_660 (by decide) (L' := [(6, .long (iL z)), (5, .int (nI 0)), (0, .ref b), (1, .ref n), (2, .ref (n + 124)), (3, .ref (n + 137)), (4, .int (nI (4 * k)))]) rfl ?_
          refine gw_aload_n hX nd_La_law_662 rfl 4 rfl ?_
          refine gw_callV (rest := []) hX ks_La_73 (ct_Mo_thrown _ _ _ σ5 (n + 124) hM2.1) hM2.1 rfl rfl (Nat.le_of_ble_eq_true rfl) nd_La_law_663 (by refine ⟨⟨by decide, by decide⟩, ?_, ?_⟩; (show ((138 + 3 * k) + 1) + 0 ≤ 601024; omega); (show ((2200 + 18 * k) + 6) + 0 ≤ 7293033; omega)) ?_
          rintro v_ s_ ⟨hv_, hs_⟩
          have hs_ := hs_.symm
          subst hs_ hv_
          show gw_W X σ5 ((138 + 3 * k) + 1) ((2200 + 18 * k) + 6) 666 [(6, .long (iL z)), (5, .int (nI 0)), (0, .ref b), (1, .ref n), (2, .ref (n + 124)), (3, .ref (n + 137)), (4, .int (nI (4 * k)))] [.int (nI 0)]
          refine gw_iload hX nd_La_law_666 1 rfl ?_
          refine gw_icmp_eq (tgt := 673) hX nd_La_law_668 rfl (fun hb => ?_) (fun hb => ?_)
          · skip
            refine gw_iload hX nd_La_law_673 1 rfl ?_
            refine gw_if_ne (tgt := 689) hX nd_La_law_675 rfl (fun hb => ?_) (fun hb => ?_)
            · have hb : ¬ 0 = 0 := fun h => hb ((nI_eq (a := 0) (b := 0) (by omega) (by omega)).mpr h)
              exfalso; omega
            · have hb : 0 = 0 := (nI_eq (a := 0) (b := 0) (by omega) (by omega)).mp hb
              refine gw_aload_n hX nd_La_law_678 rfl 5 rfl ?_
              refine gw_iconst (v := nI 0) hX nd_La_law_679 rfl ?_
              refine gw_lald hX nd_La_law_680 ho 0 rfl (by omega) (by decide) ?_
              refine gw_topl (y := iL z) (if_pos rfl) ?_
              refine gw_lload hX nd_La_law_681 0 rfl ?_
              refine gw_lcmp hX nd_La_law_683 ?_
              refine gw_if_eq (tgt := 689) hX nd_La_law_684 rfl (fun hb => ?_) (fun hb => ?_)
              · skip
                refine gw_goto (tgt := 995) hX nd_La_law_689 rfl ?_
                refine gw_iinc hX nd_La_law_995 6 rfl (v := nI (4 * k + 4)) (show nI (4 * k) + nI 4 = nI (4 * k + 4) from nI_add _ _) (by decide) (L' := [(4, .int (nI (4 * k + 4))), (6, .long (iL z)), (5, .int (nI 0)), (0, .ref b), (1, .ref n), (2, .ref (n + 124)), (3, .ref (n + 137))]) rfl ?_
                refine gw_goto (tgt := 23) hX nd_La_law_998 rfl ?_
                refine gw_cut (ks := [3, 4, 5, 6, 0]) (L' := [(0, .ref b), (1, .ref n), (2, .ref (n + 124)), (3, .ref (n + 137)), (4, .int (nI (4 * k + 4)))]) rfl ?_
                refine gw_wide (ce' := 138 + 3 * (k + 1)) (sl' := 2200 + 18 * (k + 1)) (by omega) (by omega) ?_
                exact K _ ⟨A, hA2, ab_bd_mono hbd (by omega), hcw2, ⟨_, hmw2⟩, ⟨_, ho⟩⟩
              · skip
                exact absurd ((lg_cmp_eq _ _).mpr rfl) hb
          · skip
            exact absurd rfl hb
        · exact absurd (heq.symm.trans hnone2) (by simp)
    · show gw_W X σ4 ((138 + 3 * k) + 1) ((2200 + 18 * k) + 6) 628 [(0, .ref b), (1, .ref n), (2, .ref (n + 124)), (3, .ref (n + 137)), (4, .int (nI (4 * k)))] [.int (nI 1)]
      refine gw_istore hX nd_La_law_628 (by decide) (L' := [(5, .int (nI 1)), (0, .ref b), (1, .ref n), (2, .ref (n + 124)), (3, .ref (n + 137)), (4, .int (nI (4 * k)))]) rfl ?_
      refine gw_aload_n hX nd_La_law_630 rfl 3 rfl ?_
      refine gw_aload_n hX nd_La_law_631 rfl 1 rfl ?_
      refine gw_iload hX nd_La_law_632 5 rfl ?_
      refine gw_iconst (v := nI 1) hX nd_La_law_634 rfl ?_
      refine gw_iadd hX nd_La_law_635 ?_
      refine gw_topi (y := nI (4 * k + 1)) (nI_add _ _) ?_
      refine gw_sld hX hx hbl hbA nd_La_law_636 (4 * k + 1) rfl (by omega) hL ?_
      refine gw_aload_n hX nd_La_law_637 rfl 1 rfl ?_
      refine gw_iload hX nd_La_law_638 5 rfl ?_
      refine gw_iconst (v := nI 2) hX nd_La_law_640 rfl ?_
      refine gw_iadd hX nd_La_law_641 ?_
      refine gw_topi (y := nI (4 * k + 2)) (nI_add _ _) ?_
      refine gw_sld hX hx hbl hbA nd_La_law_642 (4 * k + 2) rfl (by omega) hL ?_
      refine gw_aload_n hX nd_La_law_643 rfl 1 rfl ?_
      refine gw_iload hX nd_La_law_644 5 rfl ?_
      refine gw_iconst (v := nI 3) hX nd_La_law_646 rfl ?_
      refine gw_iadd hX nd_La_law_647 ?_
      refine gw_topi (y := nI (4 * k + 3)) (nI_add _ _) ?_
      refine gw_sld hX hx hbl hbA nd_La_law_648 (4 * k + 3) rfl (by omega) hL ?_
      refine gw_if_eq (tgt := 656) hX nd_La_law_649 rfl (fun hb => ?_) (fun hb => ?_)
      · skip
        exact absurd hb hq0
      · skip
        refine gw_iconst (v := nI 1) hX nd_La_law_652 rfl ?_
        refine gw_goto (tgt := 657) hX nd_La_law_653 rfl ?_
        refine gw_callV (rest := []) hX ks_La_109 (ct_Mo_weight _ _ _ σ4 (n + 124) A hA hM hO (xs (4 * k + 1)) (xs (4 * k + 2)) 1 (by decide)) hM.1 rfl rfl (Nat.le_of_ble_eq_true rfl) nd_La_law_657 (by refine ⟨⟨by decide, by decide⟩, ?_, ?_⟩; (show ((138 + 3 * k) + 1) + 0 ≤ 601024; omega); (show ((2200 + 18 * k) + 6) + 0 ≤ 7293033; omega)) ?_
        rintro v_ σ6 ⟨hor2, hfo2⟩
        rcases hor2 with ⟨z9, heq2, rfl, hmw2⟩ | ⟨hnone2, rfl, hmw2⟩
        · exact absurd (heq2.symm.trans hnone) (by simp)
        · skip
          show gw_W X σ6 ((138 + 3 * k) + 1) ((2200 + 18 * k) + 6) 660 [(5, .int (nI 1)), (0, .ref b), (1, .ref n), (2, .ref (n + 124)), (3, .ref (n + 137)), (4, .int (nI (4 * k)))] [.long 0]
          have hcw2 : cw σ6 (gw_z X) n A := cw_mv hcw (fun b h1 h2 => hfo2 b (by omega)) hA
          have ho : σ6.2 (n + 137) = some ((gw_J (gw_z X) 1 f)) := (hfo2 _ (by omega)).trans ho
          obtain ⟨rs2, be2, se2, kp2, kw2, bs2, s22, fm2, fb2, fl2, hM2, hO2⟩ := id hmw2
          refine gw_lstore hX nd_La_law_660 (by decide) (L' := [(6, .long 0), (5, .int (nI 1)), (0, .ref b), (1, .ref n), (2, .ref (n + 124)), (3, .ref (n + 137)), (4, .int (nI (4 * k)))]) rfl ?_
          refine gw_aload_n hX nd_La_law_662 rfl 4 rfl ?_
          refine gw_callV (rest := []) hX ks_La_73 (ct_Mo_thrown _ _ _ σ6 (n + 124) hM2.1) hM2.1 rfl rfl (Nat.le_of_ble_eq_true rfl) nd_La_law_663 (by refine ⟨⟨by decide, by decide⟩, ?_, ?_⟩; (show ((138 + 3 * k) + 1) + 0 ≤ 601024; omega); (show ((2200 + 18 * k) + 6) + 0 ≤ 7293033; omega)) ?_
          rintro v_ s_ ⟨hv_, hs_⟩
          have hs_ := hs_.symm
          subst hs_ hv_
          show gw_W X σ6 ((138 + 3 * k) + 1) ((2200 + 18 * k) + 6) 666 [(6, .long 0), (5, .int (nI 1)), (0, .ref b), (1, .ref n), (2, .ref (n + 124)), (3, .ref (n + 137)), (4, .int (nI (4 * k)))] [.int (nI 1)]
          refine gw_iload hX nd_La_law_666 1 rfl ?_
          refine gw_icmp_eq (tgt := 673) hX nd_La_law_668 rfl (fun hb => ?_) (fun hb => ?_)
          · skip
            refine gw_iload hX nd_La_law_673 1 rfl ?_
            refine gw_if_ne (tgt := 689) hX nd_La_law_675 rfl (fun hb => ?_) (fun hb => ?_)
            · have hb : ¬ 1 = 0 := fun h => hb ((nI_eq (a := 1) (b := 0) (by omega) (by omega)).mpr h)
              refine gw_goto (tgt := 995) hX nd_La_law_689 rfl ?_
              refine gw_iinc hX nd_La_law_995 6 rfl (v := nI (4 * k + 4)) (show nI (4 * k) + nI 4 = nI (4 * k + 4) from nI_add _ _) (by decide) (L' := [(4, .int (nI (4 * k + 4))), (6, .long 0), (5, .int (nI 1)), (0, .ref b), (1, .ref n), (2, .ref (n + 124)), (3, .ref (n + 137))]) rfl ?_
              refine gw_goto (tgt := 23) hX nd_La_law_998 rfl ?_
              refine gw_cut (ks := [3, 4, 5, 6, 0]) (L' := [(0, .ref b), (1, .ref n), (2, .ref (n + 124)), (3, .ref (n + 137)), (4, .int (nI (4 * k + 4)))]) rfl ?_
              refine gw_wide (ce' := 138 + 3 * (k + 1)) (sl' := 2200 + 18 * (k + 1)) (by omega) (by omega) ?_
              exact K _ ⟨A, hA, ab_bd_mono hbd (by omega), hcw2, ⟨_, hmw2⟩, ⟨_, ho⟩⟩
            · have hb : 1 = 0 := (nI_eq (a := 1) (b := 0) (by omega) (by omega)).mp hb
              exfalso; omega
          · skip
            exact absurd rfl hb
set_option maxRecDepth 100000 in
set_option maxHeartbeats 8000000 in
theorem la_decode {X : gw_C} (hX : gw_ok X nc_La_law "LabelLearnerLaw" (8, 11, 394, 601024, 7293033)) {b L : Nat} {xs : Nat → Int32} (hCx : la_C X b L xs) (n k : Nat) (hk4 : 4 * k + 4 ≤ L) (K : ∀ σ' : gw_S, la_I σ' (gw_z X) n (k + 1) → gw_W X σ' (138 + 3 * (k + 1)) (2200 + 18 * (k + 1)) 23 [(0, .ref b), (1, .ref n), (2, .ref (n + 124)), (3, .ref (n + 137)), (4, .int (nI (4 * k + 4)))] []) (σ : gw_S) (hI : la_I σ (gw_z X) n k) : gw_W X σ (138 + 3 * k) (2200 + 18 * k) 692 [(0, .ref b), (1, .ref n), (2, .ref (n + 124)), (3, .ref (n + 137)), (4, .int (nI (4 * k)))] [] := by
  obtain ⟨A, hA, hbd, ⟨c, cd, s, sd, hC⟩, ⟨th, hmw⟩, f, ho⟩ := hI
  obtain ⟨hK, hb0, hl0, hx, hbl, hbA, hL⟩ := hCx
  refine gw_aload_n hX nd_La_law_692 rfl 1 rfl ?_
  refine gw_aload_n hX nd_La_law_693 rfl 0 rfl ?_
  refine gw_iload hX nd_La_law_694 4 rfl ?_
  refine gw_iconst (v := nI 1) hX nd_La_law_696 rfl ?_
  refine gw_iadd hX nd_La_law_697 ?_
  refine gw_topi (y := nI (4 * k + 1)) (nI_add _ _) ?_
  refine gw_sld hX hx hbl hbA nd_La_law_698 (4 * k + 1) rfl (by omega) hL ?_
  refine gw_aload_n hX nd_La_law_699 rfl 0 rfl ?_
  refine gw_iload hX nd_La_law_700 4 rfl ?_
  refine gw_iconst (v := nI 2) hX nd_La_law_702 rfl ?_
  refine gw_iadd hX nd_La_law_703 ?_
  refine gw_topi (y := nI (4 * k + 2)) (nI_add _ _) ?_
  refine gw_sld hX hx hbl hbA nd_La_law_704 (4 * k + 2) rfl (by omega) hL ?_
  refine gw_if_eq (tgt := 712) hX nd_La_law_705 rfl (fun hb => ?_) (fun hb => ?_)
  · skip
    have hq0 := hb
    refine gw_iconst (v := nI 0) hX nd_La_law_712 rfl ?_
    refine gw_aload_n hX nd_La_law_713 rfl 0 rfl ?_
    refine gw_iload hX nd_La_law_714 4 rfl ?_
    refine gw_iconst (v := nI 3) hX nd_La_law_716 rfl ?_
    refine gw_iadd hX nd_La_law_717 ?_
    refine gw_topi (y := nI (4 * k + 3)) (nI_add _ _) ?_
    refine gw_sld hX hx hbl hbA nd_La_law_718 (4 * k + 3) rfl (by omega) hL ?_
    refine gw_if_eq (tgt := 726) hX nd_La_law_719 rfl (fun hb => ?_) (fun hb => ?_)
    · skip
      have hq1 := hb
      refine gw_iconst (v := nI 0) hX nd_La_law_726 rfl ?_
      refine gw_aload_n hX nd_La_law_727 rfl 3 rfl ?_
      refine gy_callS (rest := []) hX hK hb0 kh_decode (gw_in_t 503 (by decide +kernel) rfl) (ct_La_decode _ hl0 _ _ σ n c cd s sd A hA hC (n + 137) f ho (by omega) (xs (4 * k + 1)) 0 0 (by decide) (by decide) (ab_bd_B hbd (by omega) 0)) rfl rfl (Nat.le_of_ble_eq_true rfl) nd_La_law_728 (by refine ⟨⟨by decide, by decide⟩, ?_, ?_⟩; (show (138 + 3 * k) + 1 ≤ 601024; omega); (show (2200 + 18 * k) + 6 ≤ 7293033; omega)) (fun E_ s_ hx_ => hx_.elim) ?_
      rintro v_ σ1 ⟨hor, hfo⟩
      have hmw1 : mw σ1 (gw_z X) (n + 124) A th := mw_mv hmw (fun b h1 h2 => hfo b (by omega) (by omega))
      obtain ⟨rs, be, se, kp, kw, bs, s2, fm, fb, fl, hM, hO⟩ := hmw1
      rcases hor with ⟨z, B, heq, rfl, hA2, hcw, ho⟩ | ⟨hnone, rfl, hcw, ho⟩
      · show gw_W X σ1 ((138 + 3 * k) + 1) ((2200 + 18 * k) + 6) 731 [(0, .ref b), (1, .ref n), (2, .ref (n + 124)), (3, .ref (n + 137)), (4, .int (nI (4 * k)))] [.int (nI 0)]
        refine gw_istore hX nd_La_law_731 (by decide) (L' := [(5, .int (nI 0)), (0, .ref b), (1, .ref n), (2, .ref (n + 124)), (3, .ref (n + 137)), (4, .int (nI (4 * k)))]) rfl ?_
        refine gw_aload_n hX nd_La_law_733 rfl 3 rfl ?_
        refine gw_aload_n hX nd_La_law_734 rfl 1 rfl ?_
        refine gw_iload hX nd_La_law_735 5 rfl ?_
        refine gw_iconst (v := nI 1) hX nd_La_law_737 rfl ?_
        refine gw_iadd hX nd_La_law_738 ?_
        refine gw_topi (y := nI (4 * k + 1)) (nI_add _ _) ?_
        refine gw_sld hX hx hbl hbA nd_La_law_739 (4 * k + 1) rfl (by omega) hL ?_
        refine gw_aload_n hX nd_La_law_740 rfl 1 rfl ?_
        refine gw_iload hX nd_La_law_741 5 rfl ?_
        refine gw_iconst (v := nI 2) hX nd_La_law_743 rfl ?_
        refine gw_iadd hX nd_La_law_744 ?_
        refine gw_topi (y := nI (4 * k + 2)) (nI_add _ _) ?_
        refine gw_sld hX hx hbl hbA nd_La_law_745 (4 * k + 2) rfl (by omega) hL ?_
        refine gw_if_eq (tgt := 753) hX nd_La_law_746 rfl (fun hb => ?_) (fun hb => ?_)
        · skip
          refine gw_iconst (v := nI 0) hX nd_La_law_753 rfl ?_
          refine gw_aload_n hX nd_La_law_754 rfl 1 rfl ?_
          refine gw_iload hX nd_La_law_755 5 rfl ?_
          refine gw_iconst (v := nI 3) hX nd_La_law_757 rfl ?_
          refine gw_iadd hX nd_La_law_758 ?_
          refine gw_topi (y := nI (4 * k + 3)) (nI_add _ _) ?_
          refine gw_sld hX hx hbl hbA nd_La_law_759 (4 * k + 3) rfl (by omega) hL ?_
          refine gw_if_eq (tgt := 767) hX nd_La_law_760 rfl (fun hb => ?_) (fun hb => ?_)
          · skip
            refine gw_iconst (v := nI 0) hX nd_La_law_767 rfl ?_
            refine gw_callV (rest := []) hX ks_La_113 (ct_Mo_decode _ _ _ σ1 (n + 124) A hA hM hO (xs (4 * k + 1)) 0 0 (by decide) (by decide) (ab_bd_B hbd (by omega) 0)) hM.1 rfl rfl (Nat.le_of_ble_eq_true rfl) nd_La_law_768 (by refine ⟨⟨by decide, by decide⟩, ?_, ?_⟩; (show ((138 + 3 * k) + 1) + 0 ≤ 601024; omega); (show ((2200 + 18 * k) + 6) + 0 ≤ 7293033; omega)) ?_
            rintro v_ σ2 ⟨hor2, hfo2⟩
            rcases hor2 with ⟨z9, B9, heq2, rfl, hmw2⟩ | ⟨hnone2, rfl, hmw2⟩
            · skip
              cases heq.symm.trans heq2
              show gw_W X σ2 ((138 + 3 * k) + 1) ((2200 + 18 * k) + 6) 771 [(5, .int (nI 0)), (0, .ref b), (1, .ref n), (2, .ref (n + 124)), (3, .ref (n + 137)), (4, .int (nI (4 * k)))] [.long (iL z)]
              have hcw2 : cw σ2 (gw_z X) n B := cw_mv hcw (fun b h1 h2 => hfo2 b (by omega)) hA2
              have ho : σ2.2 (n + 137) = some ((gw_J (gw_z X) 1 (vp_updL f 0 (iL z)))) := (hfo2 _ (by omega)).trans ho
              obtain ⟨rs2, be2, se2, kp2, kw2, bs2, s22, fm2, fb2, fl2, hM2, hO2⟩ := id hmw2
              refine gw_lstore hX nd_La_law_771 (by decide) (L' := [(6, .long (iL z)), (5, .int (nI 0)), (0, .ref b), (1, .ref n), (2, .ref (n + 124)), (3, .ref (n + 137)), (4, .int (nI (4 * k)))]) rfl ?_
              refine gw_aload_n hX nd_La_law_773 rfl 4 rfl ?_
              refine gw_callV (rest := []) hX ks_La_73 (ct_Mo_thrown _ _ _ σ2 (n + 124) hM2.1) hM2.1 rfl rfl (Nat.le_of_ble_eq_true rfl) nd_La_law_774 (by refine ⟨⟨by decide, by decide⟩, ?_, ?_⟩; (show ((138 + 3 * k) + 1) + 0 ≤ 601024; omega); (show ((2200 + 18 * k) + 6) + 0 ≤ 7293033; omega)) ?_
              rintro v_ s_ ⟨hv_, hs_⟩
              have hs_ := hs_.symm
              subst hs_ hv_
              show gw_W X σ2 ((138 + 3 * k) + 1) ((2200 + 18 * k) + 6) 777 [(6, .long (iL z)), (5, .int (nI 0)), (0, .ref b), (1, .ref n), (2, .ref (n + 124)), (3, .ref (n + 137)), (4, .int (nI (4 * k)))] [.int (nI 0)]
              refine gw_iload hX nd_La_law_777 1 rfl ?_
              refine gw_icmp_eq (tgt := 784) hX nd_La_law_779 rfl (fun hb => ?_) (fun hb => ?_)
              · skip
                refine gw_iload hX nd_La_law_784 1 rfl ?_
                refine gw_if_ne (tgt := 800) hX nd_La_law_786 rfl (fun hb => ?_) (fun hb => ?_)
                · have hb : ¬ 0 = 0 := fun h => hb ((nI_eq (a := 0) (b := 0) (by omega) (by omega)).mpr h)
                  exfalso; omega
                · have hb : 0 = 0 := (nI_eq (a := 0) (b := 0) (by omega) (by omega)).mp hb
                  refine gw_aload_n hX nd_La_law_789 rfl 5 rfl ?_
                  refine gw_iconst (v := nI 0) hX nd_La_law_790 rfl ?_
                  refine gw_lald hX nd_La_law_791 ho 0 rfl (by omega) (by decide) ?_
                  refine gw_topl (y := iL z) (if_pos rfl) ?_
                  refine gw_lload hX nd_La_law_792 0 rfl ?_
                  refine gw_lcmp hX nd_La_law_794 ?_
                  refine gw_if_eq (tgt := 800) hX nd_La_law_795 rfl (fun hb => ?_) (fun hb => ?_)
                  · skip
                    refine gw_goto (tgt := 995) hX nd_La_law_800 rfl ?_
                    refine gw_iinc hX nd_La_law_995 6 rfl (v := nI (4 * k + 4)) (show nI (4 * k) + nI 4 = nI (4 * k + 4) from nI_add _ _) (by decide) (L' := [(4, .int (nI (4 * k + 4))), (6, .long (iL z)), (5, .int (nI 0)), (0, .ref b), (1, .ref n), (2, .ref (n + 124)), (3, .ref (n + 137))]) rfl ?_
                    refine gw_goto (tgt := 23) hX nd_La_law_998 rfl ?_
                    refine gw_cut (ks := [3, 4, 5, 6, 0]) (L' := [(0, .ref b), (1, .ref n), (2, .ref (n + 124)), (3, .ref (n + 137)), (4, .int (nI (4 * k + 4)))]) rfl ?_
                    refine gw_wide (ce' := 138 + 3 * (k + 1)) (sl' := 2200 + 18 * (k + 1)) (by omega) (by omega) ?_
                    exact K _ ⟨B, hA2, ab_dec_bd (ab_bd_mono hbd (by omega)) heq, hcw2, ⟨_, hmw2⟩, ⟨_, ho⟩⟩
                  · skip
                    exact absurd ((lg_cmp_eq _ _).mpr rfl) hb
              · skip
                exact absurd rfl hb
            · exact absurd (heq.symm.trans hnone2) (by simp)
          · skip
            exact absurd hq1 hb
        · skip
          exact absurd hq0 hb
      · show gw_W X σ1 ((138 + 3 * k) + 1) ((2200 + 18 * k) + 6) 731 [(0, .ref b), (1, .ref n), (2, .ref (n + 124)), (3, .ref (n + 137)), (4, .int (nI (4 * k)))] [.int (nI 1)]
        refine gw_istore hX nd_La_law_731 (by decide) (L' := [(5, .int (nI 1)), (0, .ref b), (1, .ref n), (2, .ref (n + 124)), (3, .ref (n + 137)), (4, .int (nI (4 * k)))]) rfl ?_
        refine gw_aload_n hX nd_La_law_733 rfl 3 rfl ?_
        refine gw_aload_n hX nd_La_law_734 rfl 1 rfl ?_
        refine gw_iload hX nd_La_law_735 5 rfl ?_
        refine gw_iconst (v := nI 1) hX nd_La_law_737 rfl ?_
        refine gw_iadd hX nd_La_law_738 ?_
        refine gw_topi (y := nI (4 * k + 1)) (nI_add _ _) ?_
        refine gw_sld hX hx hbl hbA nd_La_law_739 (4 * k + 1) rfl (by omega) hL ?_
        refine gw_aload_n hX nd_La_law_740 rfl 1 rfl ?_
        refine gw_iload hX nd_La_law_741 5 rfl ?_
        refine gw_iconst (v := nI 2) hX nd_La_law_743 rfl ?_
        refine gw_iadd hX nd_La_law_744 ?_
        refine gw_topi (y := nI (4 * k + 2)) (nI_add _ _) ?_
        refine gw_sld hX hx hbl hbA nd_La_law_745 (4 * k + 2) rfl (by omega) hL ?_
        refine gw_if_eq (tgt := 753) hX nd_La_law_746 rfl (fun hb => ?_) (fun hb => ?_)
        · skip
          refine gw_iconst (v := nI 0) hX nd_La_law_753 rfl ?_
          refine gw_aload_n hX nd_La_law_754 rfl 1 rfl ?_
          refine gw_iload hX nd_La_law_755 5 rfl ?_
          refine gw_iconst (v := nI 3) hX nd_La_law_757 rfl ?_
          refine gw_iadd hX nd_La_law_758 ?_
          refine gw_topi (y := nI (4 * k + 3)) (nI_add _ _) ?_
          refine gw_sld hX hx hbl hbA nd_La_law_759 (4 * k + 3) rfl (by omega) hL ?_
          refine gw_if_eq (tgt := 767) hX nd_La_law_760 rfl (fun hb => ?_) (fun hb => ?_)
          · skip
            refine gw_iconst (v := nI 0) hX nd_La_law_767 rfl ?_
            refine gw_callV (rest := []) hX ks_La_113 (ct_Mo_decode _ _ _ σ1 (n + 124) A hA hM hO (xs (4 * k + 1)) 0 0 (by decide) (by decide) (ab_bd_B hbd (by omega) 0)) hM.1 rfl rfl (Nat.le_of_ble_eq_true rfl) nd_La_law_768 (by refine ⟨⟨by decide, by decide⟩, ?_, ?_⟩; (show ((138 + 3 * k) + 1) + 0 ≤ 601024; omega); (show ((2200 + 18 * k) + 6) + 0 ≤ 7293033; omega)) ?_
            rintro v_ σ3 ⟨hor2, hfo2⟩
            rcases hor2 with ⟨z9, B9, heq2, rfl, hmw2⟩ | ⟨hnone2, rfl, hmw2⟩
            · exact absurd (heq2.symm.trans hnone) (by simp)
            · skip
              show gw_W X σ3 ((138 + 3 * k) + 1) ((2200 + 18 * k) + 6) 771 [(5, .int (nI 1)), (0, .ref b), (1, .ref n), (2, .ref (n + 124)), (3, .ref (n + 137)), (4, .int (nI (4 * k)))] [.long 0]
              have hcw2 : cw σ3 (gw_z X) n A := cw_mv hcw (fun b h1 h2 => hfo2 b (by omega)) hA
              have ho : σ3.2 (n + 137) = some ((gw_J (gw_z X) 1 f)) := (hfo2 _ (by omega)).trans ho
              obtain ⟨rs2, be2, se2, kp2, kw2, bs2, s22, fm2, fb2, fl2, hM2, hO2⟩ := id hmw2
              refine gw_lstore hX nd_La_law_771 (by decide) (L' := [(6, .long 0), (5, .int (nI 1)), (0, .ref b), (1, .ref n), (2, .ref (n + 124)), (3, .ref (n + 137)), (4, .int (nI (4 * k)))]) rfl ?_
              refine gw_aload_n hX nd_La_law_773 rfl 4 rfl ?_
              refine gw_callV (rest := []) hX ks_La_73 (ct_Mo_thrown _ _ _ σ3 (n + 124) hM2.1) hM2.1 rfl rfl (Nat.le_of_ble_eq_true rfl) nd_La_law_774 (by refine ⟨⟨by decide, by decide⟩, ?_, ?_⟩; (show ((138 + 3 * k) + 1) + 0 ≤ 601024; omega); (show ((2200 + 18 * k) + 6) + 0 ≤ 7293033; omega)) ?_
              rintro v_ s_ ⟨hv_, hs_⟩
              have hs_ := hs_.symm
              subst hs_ hv_
              show gw_W X σ3 ((138 + 3 * k) + 1) ((2200 + 18 * k) + 6) 777 [(6, .long 0), (5, .int (nI 1)), (0, .ref b), (1, .ref n), (2, .ref (n + 124)), (3, .ref (n + 137)), (4, .int (nI (4 * k)))] [.int (nI 1)]
              refine gw_iload hX nd_La_law_777 1 rfl ?_
              refine gw_icmp_eq (tgt := 784) hX nd_La_law_779 rfl (fun hb => ?_) (fun hb => ?_)
              · skip
                refine gw_iload hX nd_La_law_784 1 rfl ?_
                refine gw_if_ne (tgt := 800) hX nd_La_law_786 rfl (fun hb => ?_) (fun hb => ?_)
                · have hb : ¬ 1 = 0 := fun h => hb ((nI_eq (a := 1) (b := 0) (by omega) (by omega)).mpr h)
                  refine gw_goto (tgt := 995) hX nd_La_law_800 rfl ?_
                  refine gw_iinc hX nd_La_law_995 6 rfl (v := nI (4 * k + 4)) (show nI (4 * k) + nI 4 = nI (4 * k + 4) from nI_add _ _) (by decide) (L' := [(4, .int (nI (4 * k + 4))), (6, .long 0), (5, .int (nI 1)), (0, .ref b), (1, .ref n), (2, .ref (n + 124)), (3, .ref (n + 137))]) rfl ?_
                  refine gw_goto (tgt := 23) hX nd_La_law_998 rfl ?_
                  refine gw_cut (ks := [3, 4, 5, 6, 0]) (L' := [(0, .ref b), (1, .ref n), (2, .ref (n + 124)), (3, .ref (n + 137)), (4, .int (nI (4 * k + 4)))]) rfl ?_
                  refine gw_wide (ce' := 138 + 3 * (k + 1)) (sl' := 2200 + 18 * (k + 1)) (by omega) (by omega) ?_
                  exact K _ ⟨A, hA, ab_bd_mono hbd (by omega), hcw2, ⟨_, hmw2⟩, ⟨_, ho⟩⟩
                · have hb : 1 = 0 := (nI_eq (a := 1) (b := 0) (by omega) (by omega)).mp hb
                  exfalso; omega
              · skip
                exact absurd rfl hb
          · skip
            exact absurd hq1 hb
        · skip
          exact absurd hq0 hb
    · skip
      have hq1 := hb
      refine gw_iconst (v := nI 1) hX nd_La_law_722 rfl ?_
      refine gw_goto (tgt := 727) hX nd_La_law_723 rfl ?_
      refine gw_aload_n hX nd_La_law_727 rfl 3 rfl ?_
      refine gy_callS (rest := []) hX hK hb0 kh_decode (gw_in_t 503 (by decide +kernel) rfl) (ct_La_decode _ hl0 _ _ σ n c cd s sd A hA hC (n + 137) f ho (by omega) (xs (4 * k + 1)) 0 1 (by decide) (by decide) (ab_bd_B hbd (by omega) 0)) rfl rfl (Nat.le_of_ble_eq_true rfl) nd_La_law_728 (by refine ⟨⟨by decide, by decide⟩, ?_, ?_⟩; (show (138 + 3 * k) + 1 ≤ 601024; omega); (show (2200 + 18 * k) + 6 ≤ 7293033; omega)) (fun E_ s_ hx_ => hx_.elim) ?_
      rintro v_ σ4 ⟨hor, hfo⟩
      have hmw1 : mw σ4 (gw_z X) (n + 124) A th := mw_mv hmw (fun b h1 h2 => hfo b (by omega) (by omega))
      obtain ⟨rs, be, se, kp, kw, bs, s2, fm, fb, fl, hM, hO⟩ := hmw1
      rcases hor with ⟨z, B, heq, rfl, hA2, hcw, ho⟩ | ⟨hnone, rfl, hcw, ho⟩
      · show gw_W X σ4 ((138 + 3 * k) + 1) ((2200 + 18 * k) + 6) 731 [(0, .ref b), (1, .ref n), (2, .ref (n + 124)), (3, .ref (n + 137)), (4, .int (nI (4 * k)))] [.int (nI 0)]
        refine gw_istore hX nd_La_law_731 (by decide) (L' := [(5, .int (nI 0)), (0, .ref b), (1, .ref n), (2, .ref (n + 124)), (3, .ref (n + 137)), (4, .int (nI (4 * k)))]) rfl ?_
        refine gw_aload_n hX nd_La_law_733 rfl 3 rfl ?_
        refine gw_aload_n hX nd_La_law_734 rfl 1 rfl ?_
        refine gw_iload hX nd_La_law_735 5 rfl ?_
        refine gw_iconst (v := nI 1) hX nd_La_law_737 rfl ?_
        refine gw_iadd hX nd_La_law_738 ?_
        refine gw_topi (y := nI (4 * k + 1)) (nI_add _ _) ?_
        refine gw_sld hX hx hbl hbA nd_La_law_739 (4 * k + 1) rfl (by omega) hL ?_
        refine gw_aload_n hX nd_La_law_740 rfl 1 rfl ?_
        refine gw_iload hX nd_La_law_741 5 rfl ?_
        refine gw_iconst (v := nI 2) hX nd_La_law_743 rfl ?_
        refine gw_iadd hX nd_La_law_744 ?_
        refine gw_topi (y := nI (4 * k + 2)) (nI_add _ _) ?_
        refine gw_sld hX hx hbl hbA nd_La_law_745 (4 * k + 2) rfl (by omega) hL ?_
        refine gw_if_eq (tgt := 753) hX nd_La_law_746 rfl (fun hb => ?_) (fun hb => ?_)
        · skip
          refine gw_iconst (v := nI 0) hX nd_La_law_753 rfl ?_
          refine gw_aload_n hX nd_La_law_754 rfl 1 rfl ?_
          refine gw_iload hX nd_La_law_755 5 rfl ?_
          refine gw_iconst (v := nI 3) hX nd_La_law_757 rfl ?_
          refine gw_iadd hX nd_La_law_758 ?_
          refine gw_topi (y := nI (4 * k + 3)) (nI_add _ _) ?_
          refine gw_sld hX hx hbl hbA nd_La_law_759 (4 * k + 3) rfl (by omega) hL ?_
          refine gw_if_eq (tgt := 767) hX nd_La_law_760 rfl (fun hb => ?_) (fun hb => ?_)
          · skip
            exact absurd hb hq1
          · skip
            refine gw_iconst (v := nI 1) hX nd_La_law_763 rfl ?_
            refine gw_goto (tgt := 768) hX nd_La_law_764 rfl ?_
            refine gw_callV (rest := []) hX ks_La_113 (ct_Mo_decode _ _ _ σ4 (n + 124) A hA hM hO (xs (4 * k + 1)) 0 1 (by decide) (by decide) (ab_bd_B hbd (by omega) 0)) hM.1 rfl rfl (Nat.le_of_ble_eq_true rfl) nd_La_law_768 (by refine ⟨⟨by decide, by decide⟩, ?_, ?_⟩; (show ((138 + 3 * k) + 1) + 0 ≤ 601024; omega); (show ((2200 + 18 * k) + 6) + 0 ≤ 7293033; omega)) ?_
            rintro v_ σ5 ⟨hor2, hfo2⟩
            rcases hor2 with ⟨z9, B9, heq2, rfl, hmw2⟩ | ⟨hnone2, rfl, hmw2⟩
            · skip
              cases heq.symm.trans heq2
              show gw_W X σ5 ((138 + 3 * k) + 1) ((2200 + 18 * k) + 6) 771 [(5, .int (nI 0)), (0, .ref b), (1, .ref n), (2, .ref (n + 124)), (3, .ref (n + 137)), (4, .int (nI (4 * k)))] [.long (iL z)]
              have hcw2 : cw σ5 (gw_z X) n B := cw_mv hcw (fun b h1 h2 => hfo2 b (by omega)) hA2
              have ho : σ5.2 (n + 137) = some ((gw_J (gw_z X) 1 (vp_updL f 0 (iL z)))) := (hfo2 _ (by omega)).trans ho
              obtain ⟨rs2, be2, se2, kp2, kw2, bs2, s22, fm2, fb2, fl2, hM2, hO2⟩ := id hmw2
              refine gw_lstore hX nd_La_law_771 (by decide) (L' := [(6, .long (iL z)), (5, .int (nI 0)), (0, .ref b), (1, .ref n), (2, .ref (n + 124)), (3, .ref (n + 137)), (4, .int (nI (4 * k)))]) rfl ?_
              refine gw_aload_n hX nd_La_law_773 rfl 4 rfl ?_
              refine gw_callV (rest := []) hX ks_La_73 (ct_Mo_thrown _ _ _ σ5 (n + 124) hM2.1) hM2.1 rfl rfl (Nat.le_of_ble_eq_true rfl) nd_La_law_774 (by refine ⟨⟨by decide, by decide⟩, ?_, ?_⟩; (show ((138 + 3 * k) + 1) + 0 ≤ 601024; omega); (show ((2200 + 18 * k) + 6) + 0 ≤ 7293033; omega)) ?_
              rintro v_ s_ ⟨hv_, hs_⟩
              have hs_ := hs_.symm
              subst hs_ hv_
              show gw_W X σ5 ((138 + 3 * k) + 1) ((2200 + 18 * k) + 6) 777 [(6, .long (iL z)), (5, .int (nI 0)), (0, .ref b), (1, .ref n), (2, .ref (n + 124)), (3, .ref (n + 137)), (4, .int (nI (4 * k)))] [.int (nI 0)]
              refine gw_iload hX nd_La_law_777 1 rfl ?_
              refine gw_icmp_eq (tgt := 784) hX nd_La_law_779 rfl (fun hb => ?_) (fun hb => ?_)
              · skip
                refine gw_iload hX nd_La_law_784 1 rfl ?_
                refine gw_if_ne (tgt := 800) hX nd_La_law_786 rfl (fun hb => ?_) (fun hb => ?_)
                · have hb : ¬ 0 = 0 := fun h => hb ((nI_eq (a := 0) (b := 0) (by omega) (by omega)).mpr h)
                  exfalso; omega
                · have hb : 0 = 0 := (nI_eq (a := 0) (b := 0) (by omega) (by omega)).mp hb
                  refine gw_aload_n hX nd_La_law_789 rfl 5 rfl ?_
                  refine gw_iconst (v := nI 0) hX nd_La_law_790 rfl ?_
                  refine gw_lald hX nd_La_law_791 ho 0 rfl (by omega) (by decide) ?_
                  refine gw_topl (y := iL z) (if_pos rfl) ?_
                  refine gw_lload hX nd_La_law_792 0 rfl ?_
                  refine gw_lcmp hX nd_La_law_794 ?_
                  refine gw_if_eq (tgt := 800) hX nd_La_law_795 rfl (fun hb => ?_) (fun hb => ?_)
                  · skip
                    refine gw_goto (tgt := 995) hX nd_La_law_800 rfl ?_
                    refine gw_iinc hX nd_La_law_995 6 rfl (v := nI (4 * k + 4)) (show nI (4 * k) + nI 4 = nI (4 * k + 4) from nI_add _ _) (by decide) (L' := [(4, .int (nI (4 * k + 4))), (6, .long (iL z)), (5, .int (nI 0)), (0, .ref b), (1, .ref n), (2, .ref (n + 124)), (3, .ref (n + 137))]) rfl ?_
                    refine gw_goto (tgt := 23) hX nd_La_law_998 rfl ?_
                    refine gw_cut (ks := [3, 4, 5, 6, 0]) (L' := [(0, .ref b), (1, .ref n), (2, .ref (n + 124)), (3, .ref (n + 137)), (4, .int (nI (4 * k + 4)))]) rfl ?_
                    refine gw_wide (ce' := 138 + 3 * (k + 1)) (sl' := 2200 + 18 * (k + 1)) (by omega) (by omega) ?_
                    exact K _ ⟨B, hA2, ab_dec_bd (ab_bd_mono hbd (by omega)) heq, hcw2, ⟨_, hmw2⟩, ⟨_, ho⟩⟩
                  · skip
                    exact absurd ((lg_cmp_eq _ _).mpr rfl) hb
              · skip
                exact absurd rfl hb
            · exact absurd (heq.symm.trans hnone2) (by simp)
        · skip
          exact absurd hq0 hb
      · show gw_W X σ4 ((138 + 3 * k) + 1) ((2200 + 18 * k) + 6) 731 [(0, .ref b), (1, .ref n), (2, .ref (n + 124)), (3, .ref (n + 137)), (4, .int (nI (4 * k)))] [.int (nI 1)]
        refine gw_istore hX nd_La_law_731 (by decide) (L' := [(5, .int (nI 1)), (0, .ref b), (1, .ref n), (2, .ref (n + 124)), (3, .ref (n + 137)), (4, .int (nI (4 * k)))]) rfl ?_
        refine gw_aload_n hX nd_La_law_733 rfl 3 rfl ?_
        refine gw_aload_n hX nd_La_law_734 rfl 1 rfl ?_
        refine gw_iload hX nd_La_law_735 5 rfl ?_
        refine gw_iconst (v := nI 1) hX nd_La_law_737 rfl ?_
        refine gw_iadd hX nd_La_law_738 ?_
        refine gw_topi (y := nI (4 * k + 1)) (nI_add _ _) ?_
        refine gw_sld hX hx hbl hbA nd_La_law_739 (4 * k + 1) rfl (by omega) hL ?_
        refine gw_aload_n hX nd_La_law_740 rfl 1 rfl ?_
        refine gw_iload hX nd_La_law_741 5 rfl ?_
        refine gw_iconst (v := nI 2) hX nd_La_law_743 rfl ?_
        refine gw_iadd hX nd_La_law_744 ?_
        refine gw_topi (y := nI (4 * k + 2)) (nI_add _ _) ?_
        refine gw_sld hX hx hbl hbA nd_La_law_745 (4 * k + 2) rfl (by omega) hL ?_
        refine gw_if_eq (tgt := 753) hX nd_La_law_746 rfl (fun hb => ?_) (fun hb => ?_)
        · skip
          refine gw_iconst (v := nI 0) hX nd_La_law_753 rfl ?_
          refine gw_aload_n hX nd_La_law_754 rfl 1 rfl ?_
          refine gw_iload hX nd_La_law_755 5 rfl ?_
          refine gw_iconst (v := nI 3) hX nd_La_law_757 rfl ?_
          refine gw_iadd hX nd_La_law_758 ?_
          refine gw_topi (y := nI (4 * k + 3)) (nI_add _ _) ?_
          refine gw_sld hX hx hbl hbA nd_La_law_759 (4 * k + 3) rfl (by omega) hL ?_
          refine gw_if_eq (tgt := 767) hX nd_La_law_760 rfl (fun hb => ?_) (fun hb => ?_)
          · skip
            exact absurd hb hq1
          · skip
            refine gw_iconst (v := nI 1) hX nd_La_law_763 rfl ?_
            refine gw_goto (tgt := 768) hX nd_La_law_764 rfl ?_
            refine gw_callV (rest := []) hX ks_La_113 (ct_Mo_decode _ _ _ σ4 (n + 124) A hA hM hO (xs (4 * k + 1)) 0 1 (by decide) (by decide) (ab_bd_B hbd (by omega) 0)) hM.1 rfl rfl (Nat.le_of_ble_eq_true rfl) nd_La_law_768 (by refine ⟨⟨by decide, by decide⟩, ?_, ?_⟩; (show ((138 + 3 * k) + 1) + 0 ≤ 601024; omega); (show ((2200 + 18 * k) + 6) + 0 ≤ 7293033; omega)) ?_
            rintro v_ σ6 ⟨hor2, hfo2⟩
            rcases hor2 with ⟨z9, B9, heq2, rfl, hmw2⟩ | ⟨hnone2, rfl, hmw2⟩
            · exact absurd (heq2.symm.trans hnone) (by simp)
            · skip
              show gw_W X σ6 ((138 + 3 * k) + 1) ((2200 + 18 * k) + 6) 771 [(5, .int (nI 1)), (0, .ref b), (1, .ref n), (2, .ref (n + 124)), (3, .ref (n + 137)), (4, .int (nI (4 * k)))] [.long 0]
              have hcw2 : cw σ6 (gw_z X) n A := cw_mv hcw (fun b h1 h2 => hfo2 b (by omega)) hA
              have ho : σ6.2 (n + 137) = some ((gw_J (gw_z X) 1 f)) := (hfo2 _ (by omega)).trans ho
              obtain ⟨rs2, be2, se2, kp2, kw2, bs2, s22, fm2, fb2, fl2, hM2, hO2⟩ := id hmw2
              refine gw_lstore hX nd_La_law_771 (by decide) (L' := [(6, .long 0), (5, .int (nI 1)), (0, .ref b), (1, .ref n), (2, .ref (n + 124)), (3, .ref (n + 137)), (4, .int (nI (4 * k)))]) rfl ?_
              refine gw_aload_n hX nd_La_law_773 rfl 4 rfl ?_
              refine gw_callV (rest := []) hX ks_La_73 (ct_Mo_thrown _ _ _ σ6 (n + 124) hM2.1) hM2.1 rfl rfl (Nat.le_of_ble_eq_true rfl) nd_La_law_774 (by refine ⟨⟨by decide, by decide⟩, ?_, ?_⟩; (show ((138 + 3 * k) + 1) + 0 ≤ 601024; omega); (show ((2200 + 18 * k) + 6) + 0 ≤ 7293033; omega)) ?_
              rintro v_ s_ ⟨hv_, hs_⟩
              have hs_ := hs_.symm
              subst hs_ hv_
              show gw_W X σ6 ((138 + 3 * k) + 1) ((2200 + 18 * k) + 6) 777 [(6, .long 0), (5, .int (nI 1)), (0, .ref b), (1, .ref n), (2, .ref (n + 124)), (3, .ref (n + 137)), (4, .int (nI (4 * k)))] [.int (nI 1)]
              refine gw_iload hX nd_La_law_777 1 rfl ?_
              refine gw_icmp_eq (tgt := 784) hX nd_La_law_779 rfl (fun hb => ?_) (fun hb => ?_)
              · skip
                refine gw_iload hX nd_La_law_784 1 rfl ?_
                refine gw_if_ne (tgt := 800) hX nd_La_law_786 rfl (fun hb => ?_) (fun hb => ?_)
                · have hb : ¬ 1 = 0 := fun h => hb ((nI_eq (a := 1) (b := 0) (by omega) (by omega)).mpr h)
                  refine gw_goto (tgt := 995) hX nd_La_law_800 rfl ?_
                  refine gw_iinc hX nd_La_law_995 6 rfl (v := nI (4 * k + 4)) (show nI (4 * k) + nI 4 = nI (4 * k + 4) from nI_add _ _) (by decide) (L' := [(4, .int (nI (4 * k + 4))), (6, .long 0), (5, .int (nI 1)), (0, .ref b), (1, .ref n), (2, .ref (n + 124)), (3, .ref (n + 137))]) rfl ?_
                  refine gw_goto (tgt := 23) hX nd_La_law_998 rfl ?_
                  refine gw_cut (ks := [3, 4, 5, 6, 0]) (L' := [(0, .ref b), (1, .ref n), (2, .ref (n + 124)), (3, .ref (n + 137)), (4, .int (nI (4 * k + 4)))]) rfl ?_
                  refine gw_wide (ce' := 138 + 3 * (k + 1)) (sl' := 2200 + 18 * (k + 1)) (by omega) (by omega) ?_
                  exact K _ ⟨A, hA, ab_bd_mono hbd (by omega), hcw2, ⟨_, hmw2⟩, ⟨_, ho⟩⟩
                · have hb : 1 = 0 := (nI_eq (a := 1) (b := 0) (by omega) (by omega)).mp hb
                  exfalso; omega
              · skip
                exact absurd rfl hb
        · skip
          exact absurd hq0 hb
  · skip
    have hq0 := hb
    refine gw_iconst (v := nI 1) hX nd_La_law_708 rfl ?_
    refine gw_goto (tgt := 713) hX nd_La_law_709 rfl ?_
    refine gw_aload_n hX nd_La_law_713 rfl 0 rfl ?_
    refine gw_iload hX nd_La_law_714 4 rfl ?_
    refine gw_iconst (v := nI 3) hX nd_La_law_716 rfl ?_
    refine gw_iadd hX nd_La_law_717 ?_
    refine gw_topi (y := nI (4 * k + 3)) (nI_add _ _) ?_
    refine gw_sld hX hx hbl hbA nd_La_law_718 (4 * k + 3) rfl (by omega) hL ?_
    refine gw_if_eq (tgt := 726) hX nd_La_law_719 rfl (fun hb => ?_) (fun hb => ?_)
    · skip
      have hq1 := hb
      refine gw_iconst (v := nI 0) hX nd_La_law_726 rfl ?_
      refine gw_aload_n hX nd_La_law_727 rfl 3 rfl ?_
      refine gy_callS (rest := []) hX hK hb0 kh_decode (gw_in_t 503 (by decide +kernel) rfl) (ct_La_decode _ hl0 _ _ σ n c cd s sd A hA hC (n + 137) f ho (by omega) (xs (4 * k + 1)) 1 0 (by decide) (by decide) (ab_bd_B hbd (by omega) 1)) rfl rfl (Nat.le_of_ble_eq_true rfl) nd_La_law_728 (by refine ⟨⟨by decide, by decide⟩, ?_, ?_⟩; (show (138 + 3 * k) + 1 ≤ 601024; omega); (show (2200 + 18 * k) + 6 ≤ 7293033; omega)) (fun E_ s_ hx_ => hx_.elim) ?_
      rintro v_ σ7 ⟨hor, hfo⟩
      have hmw1 : mw σ7 (gw_z X) (n + 124) A th := mw_mv hmw (fun b h1 h2 => hfo b (by omega) (by omega))
      obtain ⟨rs, be, se, kp, kw, bs, s2, fm, fb, fl, hM, hO⟩ := hmw1
      rcases hor with ⟨z, B, heq, rfl, hA2, hcw, ho⟩ | ⟨hnone, rfl, hcw, ho⟩
      · show gw_W X σ7 ((138 + 3 * k) + 1) ((2200 + 18 * k) + 6) 731 [(0, .ref b), (1, .ref n), (2, .ref (n + 124)), (3, .ref (n + 137)), (4, .int (nI (4 * k)))] [.int (nI 0)]
        refine gw_istore hX nd_La_law_731 (by decide) (L' := [(5, .int (nI 0)), (0, .ref b), (1, .ref n), (2, .ref (n + 124)), (3, .ref (n + 137)), (4, .int (nI (4 * k)))]) rfl ?_
        refine gw_aload_n hX nd_La_law_733 rfl 3 rfl ?_
        refine gw_aload_n hX nd_La_law_734 rfl 1 rfl ?_
        refine gw_iload hX nd_La_law_735 5 rfl ?_
        refine gw_iconst (v := nI 1) hX nd_La_law_737 rfl ?_
        refine gw_iadd hX nd_La_law_738 ?_
        refine gw_topi (y := nI (4 * k + 1)) (nI_add _ _) ?_
        refine gw_sld hX hx hbl hbA nd_La_law_739 (4 * k + 1) rfl (by omega) hL ?_
        refine gw_aload_n hX nd_La_law_740 rfl 1 rfl ?_
        refine gw_iload hX nd_La_law_741 5 rfl ?_
        refine gw_iconst (v := nI 2) hX nd_La_law_743 rfl ?_
        refine gw_iadd hX nd_La_law_744 ?_
        refine gw_topi (y := nI (4 * k + 2)) (nI_add _ _) ?_
        refine gw_sld hX hx hbl hbA nd_La_law_745 (4 * k + 2) rfl (by omega) hL ?_
        refine gw_if_eq (tgt := 753) hX nd_La_law_746 rfl (fun hb => ?_) (fun hb => ?_)
        · skip
          exact absurd hb hq0
        · skip
          refine gw_iconst (v := nI 1) hX nd_La_law_749 rfl ?_
          refine gw_goto (tgt := 754) hX nd_La_law_750 rfl ?_
          refine gw_aload_n hX nd_La_law_754 rfl 1 rfl ?_
          refine gw_iload hX nd_La_law_755 5 rfl ?_
          refine gw_iconst (v := nI 3) hX nd_La_law_757 rfl ?_
          refine gw_iadd hX nd_La_law_758 ?_
          refine gw_topi (y := nI (4 * k + 3)) (nI_add _ _) ?_
          refine gw_sld hX hx hbl hbA nd_La_law_759 (4 * k + 3) rfl (by omega) hL ?_
          refine gw_if_eq (tgt := 767) hX nd_La_law_760 rfl (fun hb => ?_) (fun hb => ?_)
          · skip
            refine gw_iconst (v := nI 0) hX nd_La_law_767 rfl ?_
            refine gw_callV (rest := []) hX ks_La_113 (ct_Mo_decode _ _ _ σ7 (n + 124) A hA hM hO (xs (4 * k + 1)) 1 0 (by decide) (by decide) (ab_bd_B hbd (by omega) 1)) hM.1 rfl rfl (Nat.le_of_ble_eq_true rfl) nd_La_law_768 (by refine ⟨⟨by decide, by decide⟩, ?_, ?_⟩; (show ((138 + 3 * k) + 1) + 0 ≤ 601024; omega); (show ((2200 + 18 * k) + 6) + 0 ≤ 7293033; omega)) ?_
            rintro v_ σ8 ⟨hor2, hfo2⟩
            rcases hor2 with ⟨z9, B9, heq2, rfl, hmw2⟩ | ⟨hnone2, rfl, hmw2⟩
            · skip
              cases heq.symm.trans heq2
              show gw_W X σ8 ((138 + 3 * k) + 1) ((2200 + 18 * k) + 6) 771 [(5, .int (nI 0)), (0, .ref b), (1, .ref n), (2, .ref (n + 124)), (3, .ref (n + 137)), (4, .int (nI (4 * k)))] [.long (iL z)]
              have hcw2 : cw σ8 (gw_z X) n B := cw_mv hcw (fun b h1 h2 => hfo2 b (by omega)) hA2
              have ho : σ8.2 (n + 137) = some ((gw_J (gw_z X) 1 (vp_updL f 0 (iL z)))) := (hfo2 _ (by omega)).trans ho
              obtain ⟨rs2, be2, se2, kp2, kw2, bs2, s22, fm2, fb2, fl2, hM2, hO2⟩ := id hmw2
              refine gw_lstore hX nd_La_law_771 (by decide) (L' := [(6, .long (iL z)), (5, .int (nI 0)), (0, .ref b), (1, .ref n), (2, .ref (n + 124)), (3, .ref (n + 137)), (4, .int (nI (4 * k)))]) rfl ?_
              refine gw_aload_n hX nd_La_law_773 rfl 4 rfl ?_
              refine gw_callV (rest := []) hX ks_La_73 (ct_Mo_thrown _ _ _ σ8 (n + 124) hM2.1) hM2.1 rfl rfl (Nat.le_of_ble_eq_true rfl) nd_La_law_774 (by refine ⟨⟨by decide, by decide⟩, ?_, ?_⟩; (show ((138 + 3 * k) + 1) + 0 ≤ 601024; omega); (show ((2200 + 18 * k) + 6) + 0 ≤ 7293033; omega)) ?_
              rintro v_ s_ ⟨hv_, hs_⟩
              have hs_ := hs_.symm
              subst hs_ hv_
              show gw_W X σ8 ((138 + 3 * k) + 1) ((2200 + 18 * k) + 6) 777 [(6, .long (iL z)), (5, .int (nI 0)), (0, .ref b), (1, .ref n), (2, .ref (n + 124)), (3, .ref (n + 137)), (4, .int (nI (4 * k)))] [.int (nI 0)]
              refine gw_iload hX nd_La_law_777 1 rfl ?_
              refine gw_icmp_eq (tgt := 784) hX nd_La_law_779 rfl (fun hb => ?_) (fun hb => ?_)
              · skip
                refine gw_iload hX nd_La_law_784 1 rfl ?_
                refine gw_if_ne (tgt := 800) hX nd_La_law_786 rfl (fun hb => ?_) (fun hb => ?_)
                · have hb : ¬ 0 = 0 := fun h => hb ((nI_eq (a := 0) (b := 0) (by omega) (by omega)).mpr h)
                  exfalso; omega
                · have hb : 0 = 0 := (nI_eq (a := 0) (b := 0) (by omega) (by omega)).mp hb
                  refine gw_aload_n hX nd_La_law_789 rfl 5 rfl ?_
                  refine gw_iconst (v := nI 0) hX nd_La_law_790 rfl ?_
                  refine gw_lald hX nd_La_law_791 ho 0 rfl (by omega) (by decide) ?_
                  refine gw_topl (y := iL z) (if_pos rfl) ?_
                  refine gw_lload hX nd_La_law_792 0 rfl ?_
                  refine gw_lcmp hX nd_La_law_794 ?_
                  refine gw_if_eq (tgt := 800) hX nd_La_law_795 rfl (fun hb => ?_) (fun hb => ?_)
                  · skip
                    refine gw_goto (tgt := 995) hX nd_La_law_800 rfl ?_
                    refine gw_iinc hX nd_La_law_995 6 rfl (v := nI (4 * k + 4)) (show nI (4 * k) + nI 4 = nI (4 * k + 4) from nI_add _ _) (by decide) (L' := [(4, .int (nI (4 * k + 4))), (6, .long (iL z)), (5, .int (nI 0)), (0, .ref b), (1, .ref n), (2, .ref (n + 124)), (3, .ref (n + 137))]) rfl ?_
                    refine gw_goto (tgt := 23) hX nd_La_law_998 rfl ?_
                    refine gw_cut (ks := [3, 4, 5, 6, 0]) (L' := [(0, .ref b), (1, .ref n), (2, .ref (n + 124)), (3, .ref (n + 137)), (4, .int (nI (4 * k + 4)))]) rfl ?_
                    refine gw_wide (ce' := 138 + 3 * (k + 1)) (sl' := 2200 + 18 * (k + 1)) (by omega) (by omega) ?_
                    exact K _ ⟨B, hA2, ab_dec_bd (ab_bd_mono hbd (by omega)) heq, hcw2, ⟨_, hmw2⟩, ⟨_, ho⟩⟩
                  · skip
                    exact absurd ((lg_cmp_eq _ _).mpr rfl) hb
              · skip
                exact absurd rfl hb
            · exact absurd (heq.symm.trans hnone2) (by simp)
          · skip
            exact absurd hq1 hb
      · show gw_W X σ7 ((138 + 3 * k) + 1) ((2200 + 18 * k) + 6) 731 [(0, .ref b), (1, .ref n), (2, .ref (n + 124)), (3, .ref (n + 137)), (4, .int (nI (4 * k)))] [.int (nI 1)]
        refine gw_istore hX nd_La_law_731 (by decide) (L' := [(5, .int (nI 1)), (0, .ref b), (1, .ref n), (2, .ref (n + 124)), (3, .ref (n + 137)), (4, .int (nI (4 * k)))]) rfl ?_
        refine gw_aload_n hX nd_La_law_733 rfl 3 rfl ?_
        refine gw_aload_n hX nd_La_law_734 rfl 1 rfl ?_
        refine gw_iload hX nd_La_law_735 5 rfl ?_
        refine gw_iconst (v := nI 1) hX nd_La_law_737 rfl ?_
        refine gw_iadd hX nd_La_law_738 ?_
        refine gw_topi (y := nI (4 * k + 1)) (nI_add _ _) ?_
        refine gw_sld hX hx hbl hbA nd_La_law_739 (4 * k + 1) rfl (by omega) hL ?_
        refine gw_aload_n hX nd_La_law_740 rfl 1 rfl ?_
        refine gw_iload hX nd_La_law_741 5 rfl ?_
        refine gw_iconst (v := nI 2) hX nd_La_law_743 rfl ?_
        refine gw_iadd hX nd_La_law_744 ?_
        refine gw_topi (y := nI (4 * k + 2)) (nI_add _ _) ?_
        refine gw_sld hX hx hbl hbA nd_La_law_745 (4 * k + 2) rfl (by omega) hL ?_
        refine gw_if_eq (tgt := 753) hX nd_La_law_746 rfl (fun hb => ?_) (fun hb => ?_)
        · skip
          exact absurd hb hq0
        · skip
          refine gw_iconst (v := nI 1) hX nd_La_law_749 rfl ?_
          refine gw_goto (tgt := 754) hX nd_La_law_750 rfl ?_
          refine gw_aload_n hX nd_La_law_754 rfl 1 rfl ?_
          refine gw_iload hX nd_La_law_755 5 rfl ?_
          refine gw_iconst (v := nI 3) hX nd_La_law_757 rfl ?_
          refine gw_iadd hX nd_La_law_758 ?_
          refine gw_topi (y := nI (4 * k + 3)) (nI_add _ _) ?_
          refine gw_sld hX hx hbl hbA nd_La_law_759 (4 * k + 3) rfl (by omega) hL ?_
          refine gw_if_eq (tgt := 767) hX nd_La_law_760 rfl (fun hb => ?_) (fun hb => ?_)
          · skip
            refine gw_iconst (v := nI 0) hX nd_La_law_767 rfl ?_
            refine gw_callV (rest := []) hX ks_La_113 (ct_Mo_decode _ _ _ σ7 (n + 124) A hA hM hO (xs (4 * k + 1)) 1 0 (by decide) (by decide) (ab_bd_B hbd (by omega) 1)) hM.1 rfl rfl (Nat.le_of_ble_eq_true rfl) nd_La_law_768 (by refine ⟨⟨by decide, by decide⟩, ?_, ?_⟩; (show ((138 + 3 * k) + 1) + 0 ≤ 601024; omega); (show ((2200 + 18 * k) + 6) + 0 ≤ 7293033; omega)) ?_
            rintro v_ σ9 ⟨hor2, hfo2⟩
            rcases hor2 with ⟨z9, B9, heq2, rfl, hmw2⟩ | ⟨hnone2, rfl, hmw2⟩
            · exact absurd (heq2.symm.trans hnone) (by simp)
            · skip
              show gw_W X σ9 ((138 + 3 * k) + 1) ((2200 + 18 * k) + 6) 771 [(5, .int (nI 1)), (0, .ref b), (1, .ref n), (2, .ref (n + 124)), (3, .ref (n + 137)), (4, .int (nI (4 * k)))] [.long 0]
              have hcw2 : cw σ9 (gw_z X) n A := cw_mv hcw (fun b h1 h2 => hfo2 b (by omega)) hA
              have ho : σ9.2 (n + 137) = some ((gw_J (gw_z X) 1 f)) := (hfo2 _ (by omega)).trans ho
              obtain ⟨rs2, be2, se2, kp2, kw2, bs2, s22, fm2, fb2, fl2, hM2, hO2⟩ := id hmw2
              refine gw_lstore hX nd_La_law_771 (by decide) (L' := [(6, .long 0), (5, .int (nI 1)), (0, .ref b), (1, .ref n), (2, .ref (n + 124)), (3, .ref (n + 137)), (4, .int (nI (4 * k)))]) rfl ?_
              refine gw_aload_n hX nd_La_law_773 rfl 4 rfl ?_
              refine gw_callV (rest := []) hX ks_La_73 (ct_Mo_thrown _ _ _ σ9 (n + 124) hM2.1) hM2.1 rfl rfl (Nat.le_of_ble_eq_true rfl) nd_La_law_774 (by refine ⟨⟨by decide, by decide⟩, ?_, ?_⟩; (show ((138 + 3 * k) + 1) + 0 ≤ 601024; omega); (show ((2200 + 18 * k) + 6) + 0 ≤ 7293033; omega)) ?_
              rintro v_ s_ ⟨hv_, hs_⟩
              have hs_ := hs_.symm
              subst hs_ hv_
              show gw_W X σ9 ((138 + 3 * k) + 1) ((2200 + 18 * k) + 6) 777 [(6, .long 0), (5, .int (nI 1)), (0, .ref b), (1, .ref n), (2, .ref (n + 124)), (3, .ref (n + 137)), (4, .int (nI (4 * k)))] [.int (nI 1)]
              refine gw_iload hX nd_La_law_777 1 rfl ?_
              refine gw_icmp_eq (tgt := 784) hX nd_La_law_779 rfl (fun hb => ?_) (fun hb => ?_)
              · skip
                refine gw_iload hX nd_La_law_784 1 rfl ?_
                refine gw_if_ne (tgt := 800) hX nd_La_law_786 rfl (fun hb => ?_) (fun hb => ?_)
                · have hb : ¬ 1 = 0 := fun h => hb ((nI_eq (a := 1) (b := 0) (by omega) (by omega)).mpr h)
                  refine gw_goto (tgt := 995) hX nd_La_law_800 rfl ?_
                  refine gw_iinc hX nd_La_law_995 6 rfl (v := nI (4 * k + 4)) (show nI (4 * k) + nI 4 = nI (4 * k + 4) from nI_add _ _) (by decide) (L' := [(4, .int (nI (4 * k + 4))), (6, .long 0), (5, .int (nI 1)), (0, .ref b), (1, .ref n), (2, .ref (n + 124)), (3, .ref (n + 137))]) rfl ?_
                  refine gw_goto (tgt := 23) hX nd_La_law_998 rfl ?_
                  refine gw_cut (ks := [3, 4, 5, 6, 0]) (L' := [(0, .ref b), (1, .ref n), (2, .ref (n + 124)), (3, .ref (n + 137)), (4, .int (nI (4 * k + 4)))]) rfl ?_
                  refine gw_wide (ce' := 138 + 3 * (k + 1)) (sl' := 2200 + 18 * (k + 1)) (by omega) (by omega) ?_
                  exact K _ ⟨A, hA, ab_bd_mono hbd (by omega), hcw2, ⟨_, hmw2⟩, ⟨_, ho⟩⟩
                · have hb : 1 = 0 := (nI_eq (a := 1) (b := 0) (by omega) (by omega)).mp hb
                  exfalso; omega
              · skip
                exact absurd rfl hb
          · skip
            exact absurd hq1 hb
    · skip
      have hq1 := hb
      refine gw_iconst (v := nI 1) hX nd_La_law_722 rfl ?_
      refine gw_goto (tgt := 727) hX nd_La_law_723 rfl ?_
      refine gw_aload_n hX nd_La_law_727 rfl 3 rfl ?_
      refine gy_callS (rest := []) hX hK hb0 kh_decode (gw_in_t 503 (by decide +kernel) rfl) (ct_La_decode _ hl0 _ _ σ n c cd s sd A hA hC (n + 137) f ho (by omega) (xs (4 * k + 1)) 1 1 (by decide) (by decide) (ab_bd_B hbd (by omega) 1)) rfl rfl (Nat.le_of_ble_eq_true rfl) nd_La_law_728 (by refine ⟨⟨by decide, by decide⟩, ?_, ?_⟩; (show (138 + 3 * k) + 1 ≤ 601024; omega); (show (2200 + 18 * k) + 6 ≤ 7293033; omega)) (fun E_ s_ hx_ => hx_.elim) ?_
      rintro v_ σ10 ⟨hor, hfo⟩
      have hmw1 : mw σ10 (gw_z X) (n + 124) A th := mw_mv hmw (fun b h1 h2 => hfo b (by omega) (by omega))
      obtain ⟨rs, be, se, kp, kw, bs, s2, fm, fb, fl, hM, hO⟩ := hmw1
      rcases hor with ⟨z, B, heq, rfl, hA2, hcw, ho⟩ | ⟨hnone, rfl, hcw, ho⟩
      · show gw_W X σ10 ((138 + 3 * k) + 1) ((2200 + 18 * k) + 6) 731 [(0, .ref b), (1, .ref n), (2, .ref (n + 124)), (3, .ref (n + 137)), (4, .int (nI (4 * k)))] [.int (nI 0)]
        refine gw_istore hX nd_La_law_731 (by decide) (L' := [(5, .int (nI 0)), (0, .ref b), (1, .ref n), (2, .ref (n + 124)), (3, .ref (n + 137)), (4, .int (nI (4 * k)))]) rfl ?_
        refine gw_aload_n hX nd_La_law_733 rfl 3 rfl ?_
        refine gw_aload_n hX nd_La_law_734 rfl 1 rfl ?_
        refine gw_iload hX nd_La_law_735 5 rfl ?_
        refine gw_iconst (v := nI 1) hX nd_La_law_737 rfl ?_
        refine gw_iadd hX nd_La_law_738 ?_
        refine gw_topi (y := nI (4 * k + 1)) (nI_add _ _) ?_
        refine gw_sld hX hx hbl hbA nd_La_law_739 (4 * k + 1) rfl (by omega) hL ?_
        refine gw_aload_n hX nd_La_law_740 rfl 1 rfl ?_
        refine gw_iload hX nd_La_law_741 5 rfl ?_
        refine gw_iconst (v := nI 2) hX nd_La_law_743 rfl ?_
        refine gw_iadd hX nd_La_law_744 ?_
        refine gw_topi (y := nI (4 * k + 2)) (nI_add _ _) ?_
        refine gw_sld hX hx hbl hbA nd_La_law_745 (4 * k + 2) rfl (by omega) hL ?_
        refine gw_if_eq (tgt := 753) hX nd_La_law_746 rfl (fun hb => ?_) (fun hb => ?_)
        · skip
          exact absurd hb hq0
        · skip
          refine gw_iconst (v := nI 1) hX nd_La_law_749 rfl ?_
          refine gw_goto (tgt := 754) hX nd_La_law_750 rfl ?_
          refine gw_aload_n hX nd_La_law_754 rfl 1 rfl ?_
          refine gw_iload hX nd_La_law_755 5 rfl ?_
          refine gw_iconst (v := nI 3) hX nd_La_law_757 rfl ?_
          refine gw_iadd hX nd_La_law_758 ?_
          refine gw_topi (y := nI (4 * k + 3)) (nI_add _ _) ?_
          refine gw_sld hX hx hbl hbA nd_La_law_759 (4 * k + 3) rfl (by omega) hL ?_
          refine gw_if_eq (tgt := 767) hX nd_La_law_760 rfl (fun hb => ?_) (fun hb => ?_)
          · skip
            exact absurd hb hq1
          · skip
            refine gw_iconst (v := nI 1) hX nd_La_law_763 rfl ?_
            refine gw_goto (tgt := 768) hX nd_La_law_764 rfl ?_
            refine gw_callV (rest := []) hX ks_La_113 (ct_Mo_decode _ _ _ σ10 (n + 124) A hA hM hO (xs (4 * k + 1)) 1 1 (by decide) (by decide) (ab_bd_B hbd (by omega) 1)) hM.1 rfl rfl (Nat.le_of_ble_eq_true rfl) nd_La_law_768 (by refine ⟨⟨by decide, by decide⟩, ?_, ?_⟩; (show ((138 + 3 * k) + 1) + 0 ≤ 601024; omega); (show ((2200 + 18 * k) + 6) + 0 ≤ 7293033; omega)) ?_
            rintro v_ σ11 ⟨hor2, hfo2⟩
            rcases hor2 with ⟨z9, B9, heq2, rfl, hmw2⟩ | ⟨hnone2, rfl, hmw2⟩
            · skip
              cases heq.symm.trans heq2
              show gw_W X σ11 ((138 + 3 * k) + 1) ((2200 + 18 * k) + 6) 771 [(5, .int (nI 0)), (0, .ref b), (1, .ref n), (2, .ref (n + 124)), (3, .ref (n + 137)), (4, .int (nI (4 * k)))] [.long (iL z)]
              have hcw2 : cw σ11 (gw_z X) n B := cw_mv hcw (fun b h1 h2 => hfo2 b (by omega)) hA2
              have ho : σ11.2 (n + 137) = some ((gw_J (gw_z X) 1 (vp_updL f 0 (iL z)))) := (hfo2 _ (by omega)).trans ho
              obtain ⟨rs2, be2, se2, kp2, kw2, bs2, s22, fm2, fb2, fl2, hM2, hO2⟩ := id hmw2
              refine gw_lstore hX nd_La_law_771 (by decide) (L' := [(6, .long (iL z)), (5, .int (nI 0)), (0, .ref b), (1, .ref n), (2, .ref (n + 124)), (3, .ref (n + 137)), (4, .int (nI (4 * k)))]) rfl ?_
              refine gw_aload_n hX nd_La_law_773 rfl 4 rfl ?_
              refine gw_callV (rest := []) hX ks_La_73 (ct_Mo_thrown _ _ _ σ11 (n + 124) hM2.1) hM2.1 rfl rfl (Nat.le_of_ble_eq_true rfl) nd_La_law_774 (by refine ⟨⟨by decide, by decide⟩, ?_, ?_⟩; (show ((138 + 3 * k) + 1) + 0 ≤ 601024; omega); (show ((2200 + 18 * k) + 6) + 0 ≤ 7293033; omega)) ?_
              rintro v_ s_ ⟨hv_, hs_⟩
              have hs_ := hs_.symm
              subst hs_ hv_
              show gw_W X σ11 ((138 + 3 * k) + 1) ((2200 + 18 * k) + 6) 777 [(6, .long (iL z)), (5, .int (nI 0)), (0, .ref b), (1, .ref n), (2, .ref (n + 124)), (3, .ref (n + 137)), (4, .int (nI (4 * k)))] [.int (nI 0)]
              refine gw_iload hX nd_La_law_777 1 rfl ?_
              refine gw_icmp_eq (tgt := 784) hX nd_La_law_779 rfl (fun hb => ?_) (fun hb => ?_)
              · skip
                refine gw_iload hX nd_La_law_784 1 rfl ?_
                refine gw_if_ne (tgt := 800) hX nd_La_law_786 rfl (fun hb => ?_) (fun hb => ?_)
                · have hb : ¬ 0 = 0 := fun h => hb ((nI_eq (a := 0) (b := 0) (by omega) (by omega)).mpr h)
                  exfalso; omega
                · have hb : 0 = 0 := (nI_eq (a := 0) (b := 0) (by omega) (by omega)).mp hb
                  refine gw_aload_n hX nd_La_law_789 rfl 5 rfl ?_
                  refine gw_iconst (v := nI 0) hX nd_La_law_790 rfl ?_
                  refine gw_lald hX nd_La_law_791 ho 0 rfl (by omega) (by decide) ?_
                  refine gw_topl (y := iL z) (if_pos rfl) ?_
                  refine gw_lload hX nd_La_law_792 0 rfl ?_
                  refine gw_lcmp hX nd_La_law_794 ?_
                  refine gw_if_eq (tgt := 800) hX nd_La_law_795 rfl (fun hb => ?_) (fun hb => ?_)
                  · skip
                    refine gw_goto (tgt := 995) hX nd_La_law_800 rfl ?_
                    refine gw_iinc hX nd_La_law_995 6 rfl (v := nI (4 * k + 4)) (show nI (4 * k) + nI 4 = nI (4 * k + 4) from nI_add _ _) (by decide) (L' := [(4, .int (nI (4 * k + 4))), (6, .long (iL z)), (5, .int (nI 0)), (0, .ref b), (1, .ref n), (2, .ref (n + 124)), (3, .ref (n + 137))]) rfl ?_
                    refine gw_goto (tgt := 23) hX nd_La_law_998 rfl ?_
                    refine gw_cut (ks := [3, 4, 5, 6, 0]) (L' := [(0, .ref b), (1, .ref n), (2, .ref (n + 124)), (3, .ref (n + 137)), (4, .int (nI (4 * k + 4)))]) rfl ?_
                    refine gw_wide (ce' := 138 + 3 * (k + 1)) (sl' := 2200 + 18 * (k + 1)) (by omega) (by omega) ?_
                    exact K _ ⟨B, hA2, ab_dec_bd (ab_bd_mono hbd (by omega)) heq, hcw2, ⟨_, hmw2⟩, ⟨_, ho⟩⟩
                  · skip
                    exact absurd ((lg_cmp_eq _ _).mpr rfl) hb
              · skip
                exact absurd rfl hb
            · exact absurd (heq.symm.trans hnone2) (by simp)
      · show gw_W X σ10 ((138 + 3 * k) + 1) ((2200 + 18 * k) + 6) 731 [(0, .ref b), (1, .ref n), (2, .ref (n + 124)), (3, .ref (n + 137)), (4, .int (nI (4 * k)))] [.int (nI 1)]
        refine gw_istore hX nd_La_law_731 (by decide) (L' := [(5, .int (nI 1)), (0, .ref b), (1, .ref n), (2, .ref (n + 124)), (3, .ref (n + 137)), (4, .int (nI (4 * k)))]) rfl ?_
        refine gw_aload_n hX nd_La_law_733 rfl 3 rfl ?_
        refine gw_aload_n hX nd_La_law_734 rfl 1 rfl ?_
        refine gw_iload hX nd_La_law_735 5 rfl ?_
        refine gw_iconst (v := nI 1) hX nd_La_law_737 rfl ?_
        refine gw_iadd hX nd_La_law_738 ?_
        refine gw_topi (y := nI (4 * k + 1)) (nI_add _ _) ?_
        refine gw_sld hX hx hbl hbA nd_La_law_739 (4 * k + 1) rfl (by omega) hL ?_
        refine gw_aload_n hX nd_La_law_740 rfl 1 rfl ?_
        refine gw_iload hX nd_La_law_741 5 rfl ?_
        refine gw_iconst (v := nI 2) hX nd_La_law_743 rfl ?_
        refine gw_iadd hX nd_La_law_744 ?_
        refine gw_topi (y := nI (4 * k + 2)) (nI_add _ _) ?_
        refine gw_sld hX hx hbl hbA nd_La_law_745 (4 * k + 2) rfl (by omega) hL ?_
        refine gw_if_eq (tgt := 753) hX nd_La_law_746 rfl (fun hb => ?_) (fun hb => ?_)
        · skip
          exact absurd hb hq0
        · skip
          refine gw_iconst (v := nI 1) hX nd_La_law_749 rfl ?_
          refine gw_goto (tgt := 754) hX nd_La_law_750 rfl ?_
          refine gw_aload_n hX nd_La_law_754 rfl 1 rfl ?_
          refine gw_iload hX nd_La_law_755 5 rfl ?_
          refine gw_iconst (v := nI 3) hX nd_La_law_757 rfl ?_
          refine gw_iadd hX nd_La_law_758 ?_
          refine gw_topi (y := nI (4 * k + 3)) (nI_add _ _) ?_
          refine gw_sld hX hx hbl hbA nd_La_law_759 (4 * k + 3) rfl (by omega) hL ?_
          refine gw_if_eq (tgt := 767) hX nd_La_law_760 rfl (fun hb => ?_) (fun hb => ?_)
          · skip
            exact absurd hb hq1
          · skip
            refine gw_iconst (v := nI 1) hX nd_La_law_763 rfl ?_
            refine gw_goto (tgt := 768) hX nd_La_law_764 rfl ?_
            refine gw_callV (rest := []) hX ks_La_113 (ct_Mo_decode _ _ _ σ10 (n + 124) A hA hM hO (xs (4 * k + 1)) 1 1 (by decide) (by decide) (ab_bd_B hbd (by omega) 1)) hM.1 rfl rfl (Nat.le_of_ble_eq_true rfl) nd_La_law_768 (by refine ⟨⟨by decide, by decide⟩, ?_, ?_⟩; (show ((138 + 3 * k) + 1) + 0 ≤ 601024; omega); (show ((2200 + 18 * k) + 6) + 0 ≤ 7293033; omega)) ?_
            rintro v_ σ12 ⟨hor2, hfo2⟩
            rcases hor2 with ⟨z9, B9, heq2, rfl, hmw2⟩ | ⟨hnone2, rfl, hmw2⟩
            · exact absurd (heq2.symm.trans hnone) (by simp)
            · skip
              show gw_W X σ12 ((138 + 3 * k) + 1) ((2200 + 18 * k) + 6) 771 [(5, .int (nI 1)), (0, .ref b), (1, .ref n), (2, .ref (n + 124)), (3, .ref (n + 137)), (4, .int (nI (4 * k)))] [.long 0]
              have hcw2 : cw σ12 (gw_z X) n A := cw_mv hcw (fun b h1 h2 => hfo2 b (by omega)) hA
              have ho : σ12.2 (n + 137) = some ((gw_J (gw_z X) 1 f)) := (hfo2 _ (by omega)).trans ho
              obtain ⟨rs2, be2, se2, kp2, kw2, bs2, s22, fm2, fb2, fl2, hM2, hO2⟩ := id hmw2
              refine gw_lstore hX nd_La_law_771 (by decide) (L' := [(6, .long 0), (5, .int (nI 1)), (0, .ref b), (1, .ref n), (2, .ref (n + 124)), (3, .ref (n + 137)), (4, .int (nI (4 * k)))]) rfl ?_
              refine gw_aload_n hX nd_La_law_773 rfl 4 rfl ?_
              refine gw_callV (rest := []) hX ks_La_73 (ct_Mo_thrown _ _ _ σ12 (n + 124) hM2.1) hM2.1 rfl rfl (Nat.le_of_ble_eq_true rfl) nd_La_law_774 (by refine ⟨⟨by decide, by decide⟩, ?_, ?_⟩; (show ((138 + 3 * k) + 1) + 0 ≤ 601024; omega); (show ((2200 + 18 * k) + 6) + 0 ≤ 7293033; omega)) ?_
              rintro v_ s_ ⟨hv_, hs_⟩
              have hs_ := hs_.symm
              subst hs_ hv_
              show gw_W X σ12 ((138 + 3 * k) + 1) ((2200 + 18 * k) + 6) 777 [(6, .long 0), (5, .int (nI 1)), (0, .ref b), (1, .ref n), (2, .ref (n + 124)), (3, .ref (n + 137)), (4, .int (nI (4 * k)))] [.int (nI 1)]
              refine gw_iload hX nd_La_law_777 1 rfl ?_
              refine gw_icmp_eq (tgt := 784) hX nd_La_law_779 rfl (fun hb => ?_) (fun hb => ?_)
              · skip
                refine gw_iload hX nd_La_law_784 1 rfl ?_
                refine gw_if_ne (tgt := 800) hX nd_La_law_786 rfl (fun hb => ?_) (fun hb => ?_)
                · have hb : ¬ 1 = 0 := fun h => hb ((nI_eq (a := 1) (b := 0) (by omega) (by omega)).mpr h)
                  refine gw_goto (tgt := 995) hX nd_La_law_800 rfl ?_
                  refine gw_iinc hX nd_La_law_995 6 rfl (v := nI (4 * k + 4)) (show nI (4 * k) + nI 4 = nI (4 * k + 4) from nI_add _ _) (by decide) (L' := [(4, .int (nI (4 * k + 4))), (6, .long 0), (5, .int (nI 1)), (0, .ref b), (1, .ref n), (2, .ref (n + 124)), (3, .ref (n + 137))]) rfl ?_
                  refine gw_goto (tgt := 23) hX nd_La_law_998 rfl ?_
                  refine gw_cut (ks := [3, 4, 5, 6, 0]) (L' := [(0, .ref b), (1, .ref n), (2, .ref (n + 124)), (3, .ref (n + 137)), (4, .int (nI (4 * k + 4)))]) rfl ?_
                  refine gw_wide (ce' := 138 + 3 * (k + 1)) (sl' := 2200 + 18 * (k + 1)) (by omega) (by omega) ?_
                  exact K _ ⟨A, hA, ab_bd_mono hbd (by omega), hcw2, ⟨_, hmw2⟩, ⟨_, ho⟩⟩
                · have hb : 1 = 0 := (nI_eq (a := 1) (b := 0) (by omega) (by omega)).mp hb
                  exfalso; omega
              · skip
                exact absurd rfl hb
set_option maxRecDepth 100000 in
set_option maxHeartbeats 8000000 in
theorem la_label {X : gw_C} (hX : gw_ok X nc_La_law "LabelLearnerLaw" (8, 11, 394, 601024, 7293033)) {b L : Nat} {xs : Nat → Int32} (hCx : la_C X b L xs) (n k : Nat) (hk4 : 4 * k + 4 ≤ L) (K : ∀ σ' : gw_S, la_I σ' (gw_z X) n (k + 1) → gw_W X σ' (138 + 3 * (k + 1)) (2200 + 18 * (k + 1)) 23 [(0, .ref b), (1, .ref n), (2, .ref (n + 124)), (3, .ref (n + 137)), (4, .int (nI (4 * k + 4)))] []) (σ : gw_S) (hI : la_I σ (gw_z X) n k) : gw_W X σ (138 + 3 * k) (2200 + 18 * k) 803 [(0, .ref b), (1, .ref n), (2, .ref (n + 124)), (3, .ref (n + 137)), (4, .int (nI (4 * k)))] [] := by
  obtain ⟨A, hA, hbd, ⟨c, cd, s, sd, hC⟩, ⟨th, hmw⟩, f, ho⟩ := hI
  obtain ⟨hK, hb0, hl0, hx, hbl, hbA, hL⟩ := hCx
  refine gw_aload_n hX nd_La_law_803 rfl 1 rfl ?_
  refine gw_aload_n hX nd_La_law_804 rfl 0 rfl ?_
  refine gw_iload hX nd_La_law_805 4 rfl ?_
  refine gw_iconst (v := nI 1) hX nd_La_law_807 rfl ?_
  refine gw_iadd hX nd_La_law_808 ?_
  refine gw_topi (y := nI (4 * k + 1)) (nI_add _ _) ?_
  refine gw_sld hX hx hbl hbA nd_La_law_809 (4 * k + 1) rfl (by omega) hL ?_
  refine gw_aload_n hX nd_La_law_810 rfl 3 rfl ?_
  refine gy_callS (rest := []) hX hK hb0 kh_label (gw_in_t 510 (by decide +kernel) rfl) (ct_La_label _ hl0 _ _ σ n c cd s sd A hA hC (n + 137) f ho (by omega) (xs (4 * k + 1))) rfl rfl (Nat.le_of_ble_eq_true rfl) nd_La_law_811 (by refine ⟨⟨by decide, by decide⟩, ?_, ?_⟩; (show (138 + 3 * k) + 1 ≤ 601024; omega); (show (2200 + 18 * k) + 6 ≤ 7293033; omega)) (fun E_ s_ hx_ => hx_.elim) ?_
  rintro v_ σ1 ⟨hor, hfo⟩
  have hmw1 : mw σ1 (gw_z X) (n + 124) A th := mw_mv hmw (fun b h1 h2 => hfo b (by omega) (by omega))
  obtain ⟨rs, be, se, kp, kw, bs, s2, fm, fb, fl, hM, hO⟩ := hmw1
  rcases hor with ⟨q, heq, rfl, hA2, hcw, ho⟩ | ⟨hnone, rfl, hcw, ho⟩
  · show gw_W X σ1 ((138 + 3 * k) + 1) ((2200 + 18 * k) + 6) 814 [(0, .ref b), (1, .ref n), (2, .ref (n + 124)), (3, .ref (n + 137)), (4, .int (nI (4 * k)))] [.int (nI 0)]
    refine gw_istore hX nd_La_law_814 (by decide) (L' := [(5, .int (nI 0)), (0, .ref b), (1, .ref n), (2, .ref (n + 124)), (3, .ref (n + 137)), (4, .int (nI (4 * k)))]) rfl ?_
    refine gw_aload_n hX nd_La_law_816 rfl 3 rfl ?_
    refine gw_aload_n hX nd_La_law_817 rfl 1 rfl ?_
    refine gw_iload hX nd_La_law_818 5 rfl ?_
    refine gw_iconst (v := nI 1) hX nd_La_law_820 rfl ?_
    refine gw_iadd hX nd_La_law_821 ?_
    refine gw_topi (y := nI (4 * k + 1)) (nI_add _ _) ?_
    refine gw_sld hX hx hbl hbA nd_La_law_822 (4 * k + 1) rfl (by omega) hL ?_
    refine gw_callV (rest := []) hX ks_La_116 (ct_Mo_label _ _ _ σ1 (n + 124) A hA hM hO (xs (4 * k + 1))) hM.1 rfl rfl (Nat.le_of_ble_eq_true rfl) nd_La_law_823 (by refine ⟨⟨by decide, by decide⟩, ?_, ?_⟩; (show ((138 + 3 * k) + 1) + 0 ≤ 601024; omega); (show ((2200 + 18 * k) + 6) + 0 ≤ 7293033; omega)) ?_
    rintro v_ σ2 ⟨hor2, hfo2⟩
    rcases hor2 with ⟨q9, heq2, rfl, hmw2⟩ | ⟨hnone2, rfl, hmw2⟩
    · skip
      cases heq.symm.trans heq2
      show gw_W X σ2 ((138 + 3 * k) + 1) ((2200 + 18 * k) + 6) 826 [(5, .int (nI 0)), (0, .ref b), (1, .ref n), (2, .ref (n + 124)), (3, .ref (n + 137)), (4, .int (nI (4 * k)))] [.int (nI q)]
      have hcw2 : cw σ2 (gw_z X) n A := cw_mv hcw (fun b h1 h2 => hfo2 b (by omega)) hA2
      have ho : σ2.2 (n + 137) = some ((gw_J (gw_z X) 1 (vp_updL f 0 ((nI q).toInt64)))) := (hfo2 _ (by omega)).trans ho
      obtain ⟨rs2, be2, se2, kp2, kw2, bs2, s22, fm2, fb2, fl2, hM2, hO2⟩ := id hmw2
      refine gw_istore hX nd_La_law_826 (by decide) (L' := [(6, .int (nI q)), (5, .int (nI 0)), (0, .ref b), (1, .ref n), (2, .ref (n + 124)), (3, .ref (n + 137)), (4, .int (nI (4 * k)))]) rfl ?_
      refine gw_aload_n hX nd_La_law_828 rfl 4 rfl ?_
      refine gw_callV (rest := []) hX ks_La_73 (ct_Mo_thrown _ _ _ σ2 (n + 124) hM2.1) hM2.1 rfl rfl (Nat.le_of_ble_eq_true rfl) nd_La_law_829 (by refine ⟨⟨by decide, by decide⟩, ?_, ?_⟩; (show ((138 + 3 * k) + 1) + 0 ≤ 601024; omega); (show ((2200 + 18 * k) + 6) + 0 ≤ 7293033; omega)) ?_
      rintro v_ s_ ⟨hv_, hs_⟩
      have hs_ := hs_.symm
      subst hs_ hv_
      show gw_W X σ2 ((138 + 3 * k) + 1) ((2200 + 18 * k) + 6) 832 [(6, .int (nI q)), (5, .int (nI 0)), (0, .ref b), (1, .ref n), (2, .ref (n + 124)), (3, .ref (n + 137)), (4, .int (nI (4 * k)))] [.int (nI 0)]
      refine gw_iload hX nd_La_law_832 1 rfl ?_
      refine gw_icmp_eq (tgt := 839) hX nd_La_law_834 rfl (fun hb => ?_) (fun hb => ?_)
      · skip
        refine gw_iload hX nd_La_law_839 1 rfl ?_
        refine gw_if_ne (tgt := 856) hX nd_La_law_841 rfl (fun hb => ?_) (fun hb => ?_)
        · have hb : ¬ 0 = 0 := fun h => hb ((nI_eq (a := 0) (b := 0) (by omega) (by omega)).mpr h)
          exfalso; omega
        · have hb : 0 = 0 := (nI_eq (a := 0) (b := 0) (by omega) (by omega)).mp hb
          refine gw_aload_n hX nd_La_law_844 rfl 5 rfl ?_
          refine gw_iconst (v := nI 0) hX nd_La_law_845 rfl ?_
          refine gw_lald hX nd_La_law_846 ho 0 rfl (by omega) (by decide) ?_
          refine gw_topl (y := (nI q).toInt64) (if_pos rfl) ?_
          refine gw_iload hX nd_La_law_847 0 rfl ?_
          refine gw_i2l hX nd_La_law_849 ?_
          refine gw_topl (y := (nI q).toInt64) rfl ?_
          refine gw_lcmp hX nd_La_law_850 ?_
          refine gw_if_eq (tgt := 856) hX nd_La_law_851 rfl (fun hb => ?_) (fun hb => ?_)
          · skip
            refine gw_goto (tgt := 995) hX nd_La_law_856 rfl ?_
            refine gw_iinc hX nd_La_law_995 6 rfl (v := nI (4 * k + 4)) (show nI (4 * k) + nI 4 = nI (4 * k + 4) from nI_add _ _) (by decide) (L' := [(4, .int (nI (4 * k + 4))), (6, .int (nI q)), (5, .int (nI 0)), (0, .ref b), (1, .ref n), (2, .ref (n + 124)), (3, .ref (n + 137))]) rfl ?_
            refine gw_goto (tgt := 23) hX nd_La_law_998 rfl ?_
            refine gw_cut (ks := [3, 4, 5, 6, 0]) (L' := [(0, .ref b), (1, .ref n), (2, .ref (n + 124)), (3, .ref (n + 137)), (4, .int (nI (4 * k + 4)))]) rfl ?_
            refine gw_wide (ce' := 138 + 3 * (k + 1)) (sl' := 2200 + 18 * (k + 1)) (by omega) (by omega) ?_
            exact K _ ⟨A, hA2, ab_bd_mono hbd (by omega), hcw2, ⟨_, hmw2⟩, ⟨_, ho⟩⟩
          · skip
            exact absurd ((lg_cmp_eq _ _).mpr rfl) hb
      · skip
        exact absurd rfl hb
    · exact absurd (heq.symm.trans hnone2) (by simp)
  · show gw_W X σ1 ((138 + 3 * k) + 1) ((2200 + 18 * k) + 6) 814 [(0, .ref b), (1, .ref n), (2, .ref (n + 124)), (3, .ref (n + 137)), (4, .int (nI (4 * k)))] [.int (nI 1)]
    refine gw_istore hX nd_La_law_814 (by decide) (L' := [(5, .int (nI 1)), (0, .ref b), (1, .ref n), (2, .ref (n + 124)), (3, .ref (n + 137)), (4, .int (nI (4 * k)))]) rfl ?_
    refine gw_aload_n hX nd_La_law_816 rfl 3 rfl ?_
    refine gw_aload_n hX nd_La_law_817 rfl 1 rfl ?_
    refine gw_iload hX nd_La_law_818 5 rfl ?_
    refine gw_iconst (v := nI 1) hX nd_La_law_820 rfl ?_
    refine gw_iadd hX nd_La_law_821 ?_
    refine gw_topi (y := nI (4 * k + 1)) (nI_add _ _) ?_
    refine gw_sld hX hx hbl hbA nd_La_law_822 (4 * k + 1) rfl (by omega) hL ?_
    refine gw_callV (rest := []) hX ks_La_116 (ct_Mo_label _ _ _ σ1 (n + 124) A hA hM hO (xs (4 * k + 1))) hM.1 rfl rfl (Nat.le_of_ble_eq_true rfl) nd_La_law_823 (by refine ⟨⟨by decide, by decide⟩, ?_, ?_⟩; (show ((138 + 3 * k) + 1) + 0 ≤ 601024; omega); (show ((2200 + 18 * k) + 6) + 0 ≤ 7293033; omega)) ?_
    rintro v_ σ3 ⟨hor2, hfo2⟩
    rcases hor2 with ⟨q9, heq2, rfl, hmw2⟩ | ⟨hnone2, rfl, hmw2⟩
    · exact absurd (heq2.symm.trans hnone) (by simp)
    · skip
      show gw_W X σ3 ((138 + 3 * k) + 1) ((2200 + 18 * k) + 6) 826 [(5, .int (nI 1)), (0, .ref b), (1, .ref n), (2, .ref (n + 124)), (3, .ref (n + 137)), (4, .int (nI (4 * k)))] [.int (nI 0)]
      have hcw2 : cw σ3 (gw_z X) n A := cw_mv hcw (fun b h1 h2 => hfo2 b (by omega)) hA
      have ho : σ3.2 (n + 137) = some ((gw_J (gw_z X) 1 f)) := (hfo2 _ (by omega)).trans ho
      obtain ⟨rs2, be2, se2, kp2, kw2, bs2, s22, fm2, fb2, fl2, hM2, hO2⟩ := id hmw2
      refine gw_istore hX nd_La_law_826 (by decide) (L' := [(6, .int (nI 0)), (5, .int (nI 1)), (0, .ref b), (1, .ref n), (2, .ref (n + 124)), (3, .ref (n + 137)), (4, .int (nI (4 * k)))]) rfl ?_
      refine gw_aload_n hX nd_La_law_828 rfl 4 rfl ?_
      refine gw_callV (rest := []) hX ks_La_73 (ct_Mo_thrown _ _ _ σ3 (n + 124) hM2.1) hM2.1 rfl rfl (Nat.le_of_ble_eq_true rfl) nd_La_law_829 (by refine ⟨⟨by decide, by decide⟩, ?_, ?_⟩; (show ((138 + 3 * k) + 1) + 0 ≤ 601024; omega); (show ((2200 + 18 * k) + 6) + 0 ≤ 7293033; omega)) ?_
      rintro v_ s_ ⟨hv_, hs_⟩
      have hs_ := hs_.symm
      subst hs_ hv_
      show gw_W X σ3 ((138 + 3 * k) + 1) ((2200 + 18 * k) + 6) 832 [(6, .int (nI 0)), (5, .int (nI 1)), (0, .ref b), (1, .ref n), (2, .ref (n + 124)), (3, .ref (n + 137)), (4, .int (nI (4 * k)))] [.int (nI 1)]
      refine gw_iload hX nd_La_law_832 1 rfl ?_
      refine gw_icmp_eq (tgt := 839) hX nd_La_law_834 rfl (fun hb => ?_) (fun hb => ?_)
      · skip
        refine gw_iload hX nd_La_law_839 1 rfl ?_
        refine gw_if_ne (tgt := 856) hX nd_La_law_841 rfl (fun hb => ?_) (fun hb => ?_)
        · have hb : ¬ 1 = 0 := fun h => hb ((nI_eq (a := 1) (b := 0) (by omega) (by omega)).mpr h)
          refine gw_goto (tgt := 995) hX nd_La_law_856 rfl ?_
          refine gw_iinc hX nd_La_law_995 6 rfl (v := nI (4 * k + 4)) (show nI (4 * k) + nI 4 = nI (4 * k + 4) from nI_add _ _) (by decide) (L' := [(4, .int (nI (4 * k + 4))), (6, .int (nI 0)), (5, .int (nI 1)), (0, .ref b), (1, .ref n), (2, .ref (n + 124)), (3, .ref (n + 137))]) rfl ?_
          refine gw_goto (tgt := 23) hX nd_La_law_998 rfl ?_
          refine gw_cut (ks := [3, 4, 5, 6, 0]) (L' := [(0, .ref b), (1, .ref n), (2, .ref (n + 124)), (3, .ref (n + 137)), (4, .int (nI (4 * k + 4)))]) rfl ?_
          refine gw_wide (ce' := 138 + 3 * (k + 1)) (sl' := 2200 + 18 * (k + 1)) (by omega) (by omega) ?_
          exact K _ ⟨A, hA, ab_bd_mono hbd (by omega), hcw2, ⟨_, hmw2⟩, ⟨_, ho⟩⟩
        · have hb : 1 = 0 := (nI_eq (a := 1) (b := 0) (by omega) (by omega)).mp hb
          exfalso; omega
      · skip
        exact absurd rfl hb
set_option maxRecDepth 100000 in
set_option maxHeartbeats 8000000 in
theorem la_score {X : gw_C} (hX : gw_ok X nc_La_law "LabelLearnerLaw" (8, 11, 394, 601024, 7293033)) {b L : Nat} {xs : Nat → Int32} (hCx : la_C X b L xs) (n k : Nat) (hk4 : 4 * k + 4 ≤ L) (K : ∀ σ' : gw_S, la_I σ' (gw_z X) n (k + 1) → gw_W X σ' (138 + 3 * (k + 1)) (2200 + 18 * (k + 1)) 23 [(0, .ref b), (1, .ref n), (2, .ref (n + 124)), (3, .ref (n + 137)), (4, .int (nI (4 * k + 4)))] []) (σ : gw_S) (hI : la_I σ (gw_z X) n k) : gw_W X σ (138 + 3 * k) (2200 + 18 * k) 859 [(0, .ref b), (1, .ref n), (2, .ref (n + 124)), (3, .ref (n + 137)), (4, .int (nI (4 * k)))] [] := by
  obtain ⟨A, hA, hbd, ⟨c, cd, s, sd, hC⟩, ⟨th, hmw⟩, f, ho⟩ := hI
  obtain ⟨hK, hb0, hl0, hx, hbl, hbA, hL⟩ := hCx
  refine gw_aload_n hX nd_La_law_859 rfl 1 rfl ?_
  refine gw_aload_n hX nd_La_law_860 rfl 0 rfl ?_
  refine gw_iload hX nd_La_law_861 4 rfl ?_
  refine gw_iconst (v := nI 1) hX nd_La_law_863 rfl ?_
  refine gw_iadd hX nd_La_law_864 ?_
  refine gw_topi (y := nI (4 * k + 1)) (nI_add _ _) ?_
  refine gw_sld hX hx hbl hbA nd_La_law_865 (4 * k + 1) rfl (by omega) hL ?_
  refine gw_aload_n hX nd_La_law_866 rfl 0 rfl ?_
  refine gw_iload hX nd_La_law_867 4 rfl ?_
  refine gw_iconst (v := nI 2) hX nd_La_law_869 rfl ?_
  refine gw_iadd hX nd_La_law_870 ?_
  refine gw_topi (y := nI (4 * k + 2)) (nI_add _ _) ?_
  refine gw_sld hX hx hbl hbA nd_La_law_871 (4 * k + 2) rfl (by omega) hL ?_
  refine gw_aload_n hX nd_La_law_872 rfl 0 rfl ?_
  refine gw_iload hX nd_La_law_873 4 rfl ?_
  refine gw_iconst (v := nI 3) hX nd_La_law_875 rfl ?_
  refine gw_iadd hX nd_La_law_876 ?_
  refine gw_topi (y := nI (4 * k + 3)) (nI_add _ _) ?_
  refine gw_sld hX hx hbl hbA nd_La_law_877 (4 * k + 3) rfl (by omega) hL ?_
  refine gw_if_eq (tgt := 885) hX nd_La_law_878 rfl (fun hb => ?_) (fun hb => ?_)
  · skip
    have hq0 := hb
    refine gw_iconst (v := nI 0) hX nd_La_law_885 rfl ?_
    refine gw_aload_n hX nd_La_law_886 rfl 3 rfl ?_
    refine gy_callS (rest := []) hX hK hb0 kh_score (gw_in_t 517 (by decide +kernel) rfl) (ct_La_score _ hl0 _ _ σ n c cd s sd A hA hC (n + 137) f ho (by omega) (xs (4 * k + 1)) (xs (4 * k + 2)) 0 (by decide)) rfl rfl (Nat.le_of_ble_eq_true rfl) nd_La_law_887 (by refine ⟨⟨by decide, by decide⟩, ?_, ?_⟩; (show (138 + 3 * k) + 1 ≤ 601024; omega); (show (2200 + 18 * k) + 6 ≤ 7293033; omega)) (fun E_ s_ hx_ => hx_.elim) ?_
    rintro v_ σ1 ⟨hor, hfo⟩
    have hmw1 : mw σ1 (gw_z X) (n + 124) A th := mw_mv hmw (fun b h1 h2 => hfo b (by omega) (by omega))
    obtain ⟨rs, be, se, kp, kw, bs, s2, fm, fb, fl, hM, hO⟩ := hmw1
    rcases hor with ⟨z, heq, rfl, hA2, hcw, ho⟩ | ⟨hnone, rfl, hcw, ho⟩
    · show gw_W X σ1 ((138 + 3 * k) + 1) ((2200 + 18 * k) + 6) 890 [(0, .ref b), (1, .ref n), (2, .ref (n + 124)), (3, .ref (n + 137)), (4, .int (nI (4 * k)))] [.int (nI 0)]
      refine gw_istore hX nd_La_law_890 (by decide) (L' := [(5, .int (nI 0)), (0, .ref b), (1, .ref n), (2, .ref (n + 124)), (3, .ref (n + 137)), (4, .int (nI (4 * k)))]) rfl ?_
      refine gw_aload_n hX nd_La_law_892 rfl 3 rfl ?_
      refine gw_aload_n hX nd_La_law_893 rfl 1 rfl ?_
      refine gw_iload hX nd_La_law_894 5 rfl ?_
      refine gw_iconst (v := nI 1) hX nd_La_law_896 rfl ?_
      refine gw_iadd hX nd_La_law_897 ?_
      refine gw_topi (y := nI (4 * k + 1)) (nI_add _ _) ?_
      refine gw_sld hX hx hbl hbA nd_La_law_898 (4 * k + 1) rfl (by omega) hL ?_
      refine gw_aload_n hX nd_La_law_899 rfl 1 rfl ?_
      refine gw_iload hX nd_La_law_900 5 rfl ?_
      refine gw_iconst (v := nI 2) hX nd_La_law_902 rfl ?_
      refine gw_iadd hX nd_La_law_903 ?_
      refine gw_topi (y := nI (4 * k + 2)) (nI_add _ _) ?_
      refine gw_sld hX hx hbl hbA nd_La_law_904 (4 * k + 2) rfl (by omega) hL ?_
      refine gw_aload_n hX nd_La_law_905 rfl 1 rfl ?_
      refine gw_iload hX nd_La_law_906 5 rfl ?_
      refine gw_iconst (v := nI 3) hX nd_La_law_908 rfl ?_
      refine gw_iadd hX nd_La_law_909 ?_
      refine gw_topi (y := nI (4 * k + 3)) (nI_add _ _) ?_
      refine gw_sld hX hx hbl hbA nd_La_law_910 (4 * k + 3) rfl (by omega) hL ?_
      refine gw_if_eq (tgt := 918) hX nd_La_law_911 rfl (fun hb => ?_) (fun hb => ?_)
      · skip
        refine gw_iconst (v := nI 0) hX nd_La_law_918 rfl ?_
        refine gw_callV (rest := []) hX ks_La_119 (ct_Mo_score _ _ _ σ1 (n + 124) A hA hM hO (xs (4 * k + 1)) (xs (4 * k + 2)) 0 (by decide)) hM.1 rfl rfl (Nat.le_of_ble_eq_true rfl) nd_La_law_919 (by refine ⟨⟨by decide, by decide⟩, ?_, ?_⟩; (show ((138 + 3 * k) + 1) + 0 ≤ 601024; omega); (show ((2200 + 18 * k) + 6) + 0 ≤ 7293033; omega)) ?_
        rintro v_ σ2 ⟨hor2, hfo2⟩
        rcases hor2 with ⟨z9, heq2, rfl, hmw2⟩ | ⟨hnone2, rfl, hmw2⟩
        · skip
          cases heq.symm.trans heq2
          show gw_W X σ2 ((138 + 3 * k) + 1) ((2200 + 18 * k) + 6) 922 [(5, .int (nI 0)), (0, .ref b), (1, .ref n), (2, .ref (n + 124)), (3, .ref (n + 137)), (4, .int (nI (4 * k)))] [.long (iL z)]
          have hcw2 : cw σ2 (gw_z X) n A := cw_mv hcw (fun b h1 h2 => hfo2 b (by omega)) hA2
          have ho : σ2.2 (n + 137) = some ((gw_J (gw_z X) 1 (vp_updL f 0 (iL z)))) := (hfo2 _ (by omega)).trans ho
          obtain ⟨rs2, be2, se2, kp2, kw2, bs2, s22, fm2, fb2, fl2, hM2, hO2⟩ := id hmw2
          refine gw_lstore hX nd_La_law_922 (by decide) (L' := [(6, .long (iL z)), (5, .int (nI 0)), (0, .ref b), (1, .ref n), (2, .ref (n + 124)), (3, .ref (n + 137)), (4, .int (nI (4 * k)))]) rfl ?_
          refine gw_aload_n hX nd_La_law_924 rfl 4 rfl ?_
          refine gw_callV (rest := []) hX ks_La_73 (ct_Mo_thrown _ _ _ σ2 (n + 124) hM2.1) hM2.1 rfl rfl (Nat.le_of_ble_eq_true rfl) nd_La_law_925 (by refine ⟨⟨by decide, by decide⟩, ?_, ?_⟩; (show ((138 + 3 * k) + 1) + 0 ≤ 601024; omega); (show ((2200 + 18 * k) + 6) + 0 ≤ 7293033; omega)) ?_
          rintro v_ s_ ⟨hv_, hs_⟩
          have hs_ := hs_.symm
          subst hs_ hv_
          show gw_W X σ2 ((138 + 3 * k) + 1) ((2200 + 18 * k) + 6) 928 [(6, .long (iL z)), (5, .int (nI 0)), (0, .ref b), (1, .ref n), (2, .ref (n + 124)), (3, .ref (n + 137)), (4, .int (nI (4 * k)))] [.int (nI 0)]
          refine gw_iload hX nd_La_law_928 1 rfl ?_
          refine gw_icmp_eq (tgt := 935) hX nd_La_law_930 rfl (fun hb => ?_) (fun hb => ?_)
          · skip
            refine gw_iload hX nd_La_law_935 1 rfl ?_
            refine gw_if_ne (tgt := 951) hX nd_La_law_937 rfl (fun hb => ?_) (fun hb => ?_)
            · have hb : ¬ 0 = 0 := fun h => hb ((nI_eq (a := 0) (b := 0) (by omega) (by omega)).mpr h)
              exfalso; omega
            · have hb : 0 = 0 := (nI_eq (a := 0) (b := 0) (by omega) (by omega)).mp hb
              refine gw_aload_n hX nd_La_law_940 rfl 5 rfl ?_
              refine gw_iconst (v := nI 0) hX nd_La_law_941 rfl ?_
              refine gw_lald hX nd_La_law_942 ho 0 rfl (by omega) (by decide) ?_
              refine gw_topl (y := iL z) (if_pos rfl) ?_
              refine gw_lload hX nd_La_law_943 0 rfl ?_
              refine gw_lcmp hX nd_La_law_945 ?_
              refine gw_if_eq (tgt := 951) hX nd_La_law_946 rfl (fun hb => ?_) (fun hb => ?_)
              · skip
                refine gw_goto (tgt := 995) hX nd_La_law_951 rfl ?_
                refine gw_iinc hX nd_La_law_995 6 rfl (v := nI (4 * k + 4)) (show nI (4 * k) + nI 4 = nI (4 * k + 4) from nI_add _ _) (by decide) (L' := [(4, .int (nI (4 * k + 4))), (6, .long (iL z)), (5, .int (nI 0)), (0, .ref b), (1, .ref n), (2, .ref (n + 124)), (3, .ref (n + 137))]) rfl ?_
                refine gw_goto (tgt := 23) hX nd_La_law_998 rfl ?_
                refine gw_cut (ks := [3, 4, 5, 6, 0]) (L' := [(0, .ref b), (1, .ref n), (2, .ref (n + 124)), (3, .ref (n + 137)), (4, .int (nI (4 * k + 4)))]) rfl ?_
                refine gw_wide (ce' := 138 + 3 * (k + 1)) (sl' := 2200 + 18 * (k + 1)) (by omega) (by omega) ?_
                exact K _ ⟨A, hA2, ab_bd_mono hbd (by omega), hcw2, ⟨_, hmw2⟩, ⟨_, ho⟩⟩
              · skip
                exact absurd ((lg_cmp_eq _ _).mpr rfl) hb
          · skip
            exact absurd rfl hb
        · exact absurd (heq.symm.trans hnone2) (by simp)
      · skip
        exact absurd hq0 hb
    · show gw_W X σ1 ((138 + 3 * k) + 1) ((2200 + 18 * k) + 6) 890 [(0, .ref b), (1, .ref n), (2, .ref (n + 124)), (3, .ref (n + 137)), (4, .int (nI (4 * k)))] [.int (nI 1)]
      refine gw_istore hX nd_La_law_890 (by decide) (L' := [(5, .int (nI 1)), (0, .ref b), (1, .ref n), (2, .ref (n + 124)), (3, .ref (n + 137)), (4, .int (nI (4 * k)))]) rfl ?_
      refine gw_aload_n hX nd_La_law_892 rfl 3 rfl ?_
      refine gw_aload_n hX nd_La_law_893 rfl 1 rfl ?_
      refine gw_iload hX nd_La_law_894 5 rfl ?_
      refine gw_iconst (v := nI 1) hX nd_La_law_896 rfl ?_
      refine gw_iadd hX nd_La_law_897 ?_
      refine gw_topi (y := nI (4 * k + 1)) (nI_add _ _) ?_
      refine gw_sld hX hx hbl hbA nd_La_law_898 (4 * k + 1) rfl (by omega) hL ?_
      refine gw_aload_n hX nd_La_law_899 rfl 1 rfl ?_
      refine gw_iload hX nd_La_law_900 5 rfl ?_
      refine gw_iconst (v := nI 2) hX nd_La_law_902 rfl ?_
      refine gw_iadd hX nd_La_law_903 ?_
      refine gw_topi (y := nI (4 * k + 2)) (nI_add _ _) ?_
      refine gw_sld hX hx hbl hbA nd_La_law_904 (4 * k + 2) rfl (by omega) hL ?_
      refine gw_aload_n hX nd_La_law_905 rfl 1 rfl ?_
      refine gw_iload hX nd_La_law_906 5 rfl ?_
      refine gw_iconst (v := nI 3) hX nd_La_law_908 rfl ?_
      refine gw_iadd hX nd_La_law_909 ?_
      refine gw_topi (y := nI (4 * k + 3)) (nI_add _ _) ?_
      refine gw_sld hX hx hbl hbA nd_La_law_910 (4 * k + 3) rfl (by omega) hL ?_
      refine gw_if_eq (tgt := 918) hX nd_La_law_911 rfl (fun hb => ?_) (fun hb => ?_)
      · skip
        refine gw_iconst (v := nI 0) hX nd_La_law_918 rfl ?_
        refine gw_callV (rest := []) hX ks_La_119 (ct_Mo_score _ _ _ σ1 (n + 124) A hA hM hO (xs (4 * k + 1)) (xs (4 * k + 2)) 0 (by decide)) hM.1 rfl rfl (Nat.le_of_ble_eq_true rfl) nd_La_law_919 (by refine ⟨⟨by decide, by decide⟩, ?_, ?_⟩; (show ((138 + 3 * k) + 1) + 0 ≤ 601024; omega); (show ((2200 + 18 * k) + 6) + 0 ≤ 7293033; omega)) ?_
        rintro v_ σ3 ⟨hor2, hfo2⟩
        rcases hor2 with ⟨z9, heq2, rfl, hmw2⟩ | ⟨hnone2, rfl, hmw2⟩
        · exact absurd (heq2.symm.trans hnone) (by simp)
        · skip
          show gw_W X σ3 ((138 + 3 * k) + 1) ((2200 + 18 * k) + 6) 922 [(5, .int (nI 1)), (0, .ref b), (1, .ref n), (2, .ref (n + 124)), (3, .ref (n + 137)), (4, .int (nI (4 * k)))] [.long 0]
          have hcw2 : cw σ3 (gw_z X) n A := cw_mv hcw (fun b h1 h2 => hfo2 b (by omega)) hA
          have ho : σ3.2 (n + 137) = some ((gw_J (gw_z X) 1 f)) := (hfo2 _ (by omega)).trans ho
          obtain ⟨rs2, be2, se2, kp2, kw2, bs2, s22, fm2, fb2, fl2, hM2, hO2⟩ := id hmw2
          refine gw_lstore hX nd_La_law_922 (by decide) (L' := [(6, .long 0), (5, .int (nI 1)), (0, .ref b), (1, .ref n), (2, .ref (n + 124)), (3, .ref (n + 137)), (4, .int (nI (4 * k)))]) rfl ?_
          refine gw_aload_n hX nd_La_law_924 rfl 4 rfl ?_
          refine gw_callV (rest := []) hX ks_La_73 (ct_Mo_thrown _ _ _ σ3 (n + 124) hM2.1) hM2.1 rfl rfl (Nat.le_of_ble_eq_true rfl) nd_La_law_925 (by refine ⟨⟨by decide, by decide⟩, ?_, ?_⟩; (show ((138 + 3 * k) + 1) + 0 ≤ 601024; omega); (show ((2200 + 18 * k) + 6) + 0 ≤ 7293033; omega)) ?_
          rintro v_ s_ ⟨hv_, hs_⟩
          have hs_ := hs_.symm
          subst hs_ hv_
          show gw_W X σ3 ((138 + 3 * k) + 1) ((2200 + 18 * k) + 6) 928 [(6, .long 0), (5, .int (nI 1)), (0, .ref b), (1, .ref n), (2, .ref (n + 124)), (3, .ref (n + 137)), (4, .int (nI (4 * k)))] [.int (nI 1)]
          refine gw_iload hX nd_La_law_928 1 rfl ?_
          refine gw_icmp_eq (tgt := 935) hX nd_La_law_930 rfl (fun hb => ?_) (fun hb => ?_)
          · skip
            refine gw_iload hX nd_La_law_935 1 rfl ?_
            refine gw_if_ne (tgt := 951) hX nd_La_law_937 rfl (fun hb => ?_) (fun hb => ?_)
            · have hb : ¬ 1 = 0 := fun h => hb ((nI_eq (a := 1) (b := 0) (by omega) (by omega)).mpr h)
              refine gw_goto (tgt := 995) hX nd_La_law_951 rfl ?_
              refine gw_iinc hX nd_La_law_995 6 rfl (v := nI (4 * k + 4)) (show nI (4 * k) + nI 4 = nI (4 * k + 4) from nI_add _ _) (by decide) (L' := [(4, .int (nI (4 * k + 4))), (6, .long 0), (5, .int (nI 1)), (0, .ref b), (1, .ref n), (2, .ref (n + 124)), (3, .ref (n + 137))]) rfl ?_
              refine gw_goto (tgt := 23) hX nd_La_law_998 rfl ?_
              refine gw_cut (ks := [3, 4, 5, 6, 0]) (L' := [(0, .ref b), (1, .ref n), (2, .ref (n + 124)), (3, .ref (n + 137)), (4, .int (nI (4 * k + 4)))]) rfl ?_
              refine gw_wide (ce' := 138 + 3 * (k + 1)) (sl' := 2200 + 18 * (k + 1)) (by omega) (by omega) ?_
              exact K _ ⟨A, hA, ab_bd_mono hbd (by omega), hcw2, ⟨_, hmw2⟩, ⟨_, ho⟩⟩
            · have hb : 1 = 0 := (nI_eq (a := 1) (b := 0) (by omega) (by omega)).mp hb
              exfalso; omega
          · skip
            exact absurd rfl hb
      · skip
        exact absurd hq0 hb
  · skip
    have hq0 := hb
    refine gw_iconst (v := nI 1) hX nd_La_law_881 rfl ?_
    refine gw_goto (tgt := 886) hX nd_La_law_882 rfl ?_
    refine gw_aload_n hX nd_La_law_886 rfl 3 rfl ?_
    refine gy_callS (rest := []) hX hK hb0 kh_score (gw_in_t 517 (by decide +kernel) rfl) (ct_La_score _ hl0 _ _ σ n c cd s sd A hA hC (n + 137) f ho (by omega) (xs (4 * k + 1)) (xs (4 * k + 2)) 1 (by decide)) rfl rfl (Nat.le_of_ble_eq_true rfl) nd_La_law_887 (by refine ⟨⟨by decide, by decide⟩, ?_, ?_⟩; (show (138 + 3 * k) + 1 ≤ 601024; omega); (show (2200 + 18 * k) + 6 ≤ 7293033; omega)) (fun E_ s_ hx_ => hx_.elim) ?_
    rintro v_ σ4 ⟨hor, hfo⟩
    have hmw1 : mw σ4 (gw_z X) (n + 124) A th := mw_mv hmw (fun b h1 h2 => hfo b (by omega) (by omega))
    obtain ⟨rs, be, se, kp, kw, bs, s2, fm, fb, fl, hM, hO⟩ := hmw1
    rcases hor with ⟨z, heq, rfl, hA2, hcw, ho⟩ | ⟨hnone, rfl, hcw, ho⟩
    · show gw_W X σ4 ((138 + 3 * k) + 1) ((2200 + 18 * k) + 6) 890 [(0, .ref b), (1, .ref n), (2, .ref (n + 124)), (3, .ref (n + 137)), (4, .int (nI (4 * k)))] [.int (nI 0)]
      refine gw_istore hX nd_La_law_890 (by decide) (L' := [(5, .int (nI 0)), (0, .ref b), (1, .ref n), (2, .ref (n + 124)), (3, .ref (n + 137)), (4, .int (nI (4 * k)))]) rfl ?_
      refine gw_aload_n hX nd_La_law_892 rfl 3 rfl ?_
      refine gw_aload_n hX nd_La_law_893 rfl 1 rfl ?_
      refine gw_iload hX nd_La_law_894 5 rfl ?_
      refine gw_iconst (v := nI 1) hX nd_La_law_896 rfl ?_
      refine gw_iadd hX nd_La_law_897 ?_
      refine gw_topi (y := nI (4 * k + 1)) (nI_add _ _) ?_
      refine gw_sld hX hx hbl hbA nd_La_law_898 (4 * k + 1) rfl (by omega) hL ?_
      refine gw_aload_n hX nd_La_law_899 rfl 1 rfl ?_
      refine gw_iload hX nd_La_law_900 5 rfl ?_
      refine gw_iconst (v := nI 2) hX nd_La_law_902 rfl ?_
      refine gw_iadd hX nd_La_law_903 ?_
      refine gw_topi (y := nI (4 * k + 2)) (nI_add _ _) ?_
      refine gw_sld hX hx hbl hbA nd_La_law_904 (4 * k + 2) rfl (by omega) hL ?_
      refine gw_aload_n hX nd_La_law_905 rfl 1 rfl ?_
      refine gw_iload hX nd_La_law_906 5 rfl ?_
      refine gw_iconst (v := nI 3) hX nd_La_law_908 rfl ?_
      refine gw_iadd hX nd_La_law_909 ?_
      refine gw_topi (y := nI (4 * k + 3)) (nI_add _ _) ?_
      refine gw_sld hX hx hbl hbA nd_La_law_910 (4 * k + 3) rfl (by omega) hL ?_
      refine gw_if_eq (tgt := 918) hX nd_La_law_911 rfl (fun hb => ?_) (fun hb => ?_)
      · skip
        exact absurd hb hq0
      · skip
        refine gw_iconst (v := nI 1) hX nd_La_law_914 rfl ?_
        refine gw_goto (tgt := 919) hX nd_La_law_915 rfl ?_
        refine gw_callV (rest := []) hX ks_La_119 (ct_Mo_score _ _ _ σ4 (n + 124) A hA hM hO (xs (4 * k + 1)) (xs (4 * k + 2)) 1 (by decide)) hM.1 rfl rfl (Nat.le_of_ble_eq_true rfl) nd_La_law_919 (by refine ⟨⟨by decide, by decide⟩, ?_, ?_⟩; (show ((138 + 3 * k) + 1) + 0 ≤ 601024; omega); (show ((2200 + 18 * k) + 6) + 0 ≤ 7293033; omega)) ?_
        rintro v_ σ5 ⟨hor2, hfo2⟩
        rcases hor2 with ⟨z9, heq2, rfl, hmw2⟩ | ⟨hnone2, rfl, hmw2⟩
        · skip
          cases heq.symm.trans heq2
          show gw_W X σ5 ((138 + 3 * k) + 1) ((2200 + 18 * k) + 6) 922 [(5, .int (nI 0)), (0, .ref b), (1, .ref n), (2, .ref (n + 124)), (3, .ref (n + 137)), (4, .int (nI (4 * k)))] [.long (iL z)]
          have hcw2 : cw σ5 (gw_z X) n A := cw_mv hcw (fun b h1 h2 => hfo2 b (by omega)) hA2
          have ho : σ5.2 (n + 137) = some ((gw_J (gw_z X) 1 (vp_updL f 0 (iL z)))) := (hfo2 _ (by omega)).trans ho
          obtain ⟨rs2, be2, se2, kp2, kw2, bs2, s22, fm2, fb2, fl2, hM2, hO2⟩ := id hmw2
          refine gw_lstore hX nd_La_law_922 (by decide) (L' := [(6, .long (iL z)), (5, .int (nI 0)), (0, .ref b), (1, .ref n), (2, .ref (n + 124)), (3, .ref (n + 137)), (4, .int (nI (4 * k)))]) rfl ?_
          refine gw_aload_n hX nd_La_law_924 rfl 4 rfl ?_
          refine gw_callV (rest := []) hX ks_La_73 (ct_Mo_thrown _ _ _ σ5 (n + 124) hM2.1) hM2.1 rfl rfl (Nat.le_of_ble_eq_true rfl) nd_La_law_925 (by refine ⟨⟨by decide, by decide⟩, ?_, ?_⟩; (show ((138 + 3 * k) + 1) + 0 ≤ 601024; omega); (show ((2200 + 18 * k) + 6) + 0 ≤ 7293033; omega)) ?_
          rintro v_ s_ ⟨hv_, hs_⟩
          have hs_ := hs_.symm
          subst hs_ hv_
          show gw_W X σ5 ((138 + 3 * k) + 1) ((2200 + 18 * k) + 6) 928 [(6, .long (iL z)), (5, .int (nI 0)), (0, .ref b), (1, .ref n), (2, .ref (n + 124)), (3, .ref (n + 137)), (4, .int (nI (4 * k)))] [.int (nI 0)]
          refine gw_iload hX nd_La_law_928 1 rfl ?_
          refine gw_icmp_eq (tgt := 935) hX nd_La_law_930 rfl (fun hb => ?_) (fun hb => ?_)
          · skip
            refine gw_iload hX nd_La_law_935 1 rfl ?_
            refine gw_if_ne (tgt := 951) hX nd_La_law_937 rfl (fun hb => ?_) (fun hb => ?_)
            · have hb : ¬ 0 = 0 := fun h => hb ((nI_eq (a := 0) (b := 0) (by omega) (by omega)).mpr h)
              exfalso; omega
            · have hb : 0 = 0 := (nI_eq (a := 0) (b := 0) (by omega) (by omega)).mp hb
              refine gw_aload_n hX nd_La_law_940 rfl 5 rfl ?_
              refine gw_iconst (v := nI 0) hX nd_La_law_941 rfl ?_
              refine gw_lald hX nd_La_law_942 ho 0 rfl (by omega) (by decide) ?_
              refine gw_topl (y := iL z) (if_pos rfl) ?_
              refine gw_lload hX nd_La_law_943 0 rfl ?_
              refine gw_lcmp hX nd_La_law_945 ?_
              refine gw_if_eq (tgt := 951) hX nd_La_law_946 rfl (fun hb => ?_) (fun hb => ?_)
              · skip
                refine gw_goto (tgt := 995) hX nd_La_law_951 rfl ?_
                refine gw_iinc hX nd_La_law_995 6 rfl (v := nI (4 * k + 4)) (show nI (4 * k) + nI 4 = nI (4 * k + 4) from nI_add _ _) (by decide) (L' := [(4, .int (nI (4 * k + 4))), (6, .long (iL z)), (5, .int (nI 0)), (0, .ref b), (1, .ref n), (2, .ref (n + 124)), (3, .ref (n + 137))]) rfl ?_
                refine gw_goto (tgt := 23) hX nd_La_law_998 rfl ?_
                refine gw_cut (ks := [3, 4, 5, 6, 0]) (L' := [(0, .ref b), (1, .ref n), (2, .ref (n + 124)), (3, .ref (n + 137)), (4, .int (nI (4 * k + 4)))]) rfl ?_
                refine gw_wide (ce' := 138 + 3 * (k + 1)) (sl' := 2200 + 18 * (k + 1)) (by omega) (by omega) ?_
                exact K _ ⟨A, hA2, ab_bd_mono hbd (by omega), hcw2, ⟨_, hmw2⟩, ⟨_, ho⟩⟩
              · skip
                exact absurd ((lg_cmp_eq _ _).mpr rfl) hb
          · skip
            exact absurd rfl hb
        · exact absurd (heq.symm.trans hnone2) (by simp)
    · show gw_W X σ4 ((138 + 3 * k) + 1) ((2200 + 18 * k) + 6) 890 [(0, .ref b), (1, .ref n), (2, .ref (n + 124)), (3, .ref (n + 137)), (4, .int (nI (4 * k)))] [.int (nI 1)]
      refine gw_istore hX nd_La_law_890 (by decide) (L' := [(5, .int (nI 1)), (0, .ref b), (1, .ref n), (2, .ref (n + 124)), (3, .ref (n + 137)), (4, .int (nI (4 * k)))]) rfl ?_
      refine gw_aload_n hX nd_La_law_892 rfl 3 rfl ?_
      refine gw_aload_n hX nd_La_law_893 rfl 1 rfl ?_
      refine gw_iload hX nd_La_law_894 5 rfl ?_
      refine gw_iconst (v := nI 1) hX nd_La_law_896 rfl ?_
      refine gw_iadd hX nd_La_law_897 ?_
      refine gw_topi (y := nI (4 * k + 1)) (nI_add _ _) ?_
      refine gw_sld hX hx hbl hbA nd_La_law_898 (4 * k + 1) rfl (by omega) hL ?_
      refine gw_aload_n hX nd_La_law_899 rfl 1 rfl ?_
      refine gw_iload hX nd_La_law_900 5 rfl ?_
      refine gw_iconst (v := nI 2) hX nd_La_law_902 rfl ?_
      refine gw_iadd hX nd_La_law_903 ?_
      refine gw_topi (y := nI (4 * k + 2)) (nI_add _ _) ?_
      refine gw_sld hX hx hbl hbA nd_La_law_904 (4 * k + 2) rfl (by omega) hL ?_
      refine gw_aload_n hX nd_La_law_905 rfl 1 rfl ?_
      refine gw_iload hX nd_La_law_906 5 rfl ?_
      refine gw_iconst (v := nI 3) hX nd_La_law_908 rfl ?_
      refine gw_iadd hX nd_La_law_909 ?_
      refine gw_topi (y := nI (4 * k + 3)) (nI_add _ _) ?_
      refine gw_sld hX hx hbl hbA nd_La_law_910 (4 * k + 3) rfl (by omega) hL ?_
      refine gw_if_eq (tgt := 918) hX nd_La_law_911 rfl (fun hb => ?_) (fun hb => ?_)
      · skip
        exact absurd hb hq0
      · skip
        refine gw_iconst (v := nI 1) hX nd_La_law_914 rfl ?_
        refine gw_goto (tgt := 919) hX nd_La_law_915 rfl ?_
        refine gw_callV (rest := []) hX ks_La_119 (ct_Mo_score _ _ _ σ4 (n + 124) A hA hM hO (xs (4 * k + 1)) (xs (4 * k + 2)) 1 (by decide)) hM.1 rfl rfl (Nat.le_of_ble_eq_true rfl) nd_La_law_919 (by refine ⟨⟨by decide, by decide⟩, ?_, ?_⟩; (show ((138 + 3 * k) + 1) + 0 ≤ 601024; omega); (show ((2200 + 18 * k) + 6) + 0 ≤ 7293033; omega)) ?_
        rintro v_ σ6 ⟨hor2, hfo2⟩
        rcases hor2 with ⟨z9, heq2, rfl, hmw2⟩ | ⟨hnone2, rfl, hmw2⟩
        · exact absurd (heq2.symm.trans hnone) (by simp)
        · skip
          show gw_W X σ6 ((138 + 3 * k) + 1) ((2200 + 18 * k) + 6) 922 [(5, .int (nI 1)), (0, .ref b), (1, .ref n), (2, .ref (n + 124)), (3, .ref (n + 137)), (4, .int (nI (4 * k)))] [.long 0]
          have hcw2 : cw σ6 (gw_z X) n A := cw_mv hcw (fun b h1 h2 => hfo2 b (by omega)) hA
          have ho : σ6.2 (n + 137) = some ((gw_J (gw_z X) 1 f)) := (hfo2 _ (by omega)).trans ho
          obtain ⟨rs2, be2, se2, kp2, kw2, bs2, s22, fm2, fb2, fl2, hM2, hO2⟩ := id hmw2
          refine gw_lstore hX nd_La_law_922 (by decide) (L' := [(6, .long 0), (5, .int (nI 1)), (0, .ref b), (1, .ref n), (2, .ref (n + 124)), (3, .ref (n + 137)), (4, .int (nI (4 * k)))]) rfl ?_
          refine gw_aload_n hX nd_La_law_924 rfl 4 rfl ?_
          refine gw_callV (rest := []) hX ks_La_73 (ct_Mo_thrown _ _ _ σ6 (n + 124) hM2.1) hM2.1 rfl rfl (Nat.le_of_ble_eq_true rfl) nd_La_law_925 (by refine ⟨⟨by decide, by decide⟩, ?_, ?_⟩; (show ((138 + 3 * k) + 1) + 0 ≤ 601024; omega); (show ((2200 + 18 * k) + 6) + 0 ≤ 7293033; omega)) ?_
          rintro v_ s_ ⟨hv_, hs_⟩
          have hs_ := hs_.symm
          subst hs_ hv_
          show gw_W X σ6 ((138 + 3 * k) + 1) ((2200 + 18 * k) + 6) 928 [(6, .long 0), (5, .int (nI 1)), (0, .ref b), (1, .ref n), (2, .ref (n + 124)), (3, .ref (n + 137)), (4, .int (nI (4 * k)))] [.int (nI 1)]
          refine gw_iload hX nd_La_law_928 1 rfl ?_
          refine gw_icmp_eq (tgt := 935) hX nd_La_law_930 rfl (fun hb => ?_) (fun hb => ?_)
          · skip
            refine gw_iload hX nd_La_law_935 1 rfl ?_
            refine gw_if_ne (tgt := 951) hX nd_La_law_937 rfl (fun hb => ?_) (fun hb => ?_)
            · have hb : ¬ 1 = 0 := fun h => hb ((nI_eq (a := 1) (b := 0) (by omega) (by omega)).mpr h)
              refine gw_goto (tgt := 995) hX nd_La_law_951 rfl ?_
              refine gw_iinc hX nd_La_law_995 6 rfl (v := nI (4 * k + 4)) (show nI (4 * k) + nI 4 = nI (4 * k + 4) from nI_add _ _) (by decide) (L' := [(4, .int (nI (4 * k + 4))), (6, .long 0), (5, .int (nI 1)), (0, .ref b), (1, .ref n), (2, .ref (n + 124)), (3, .ref (n + 137))]) rfl ?_
              refine gw_goto (tgt := 23) hX nd_La_law_998 rfl ?_
              refine gw_cut (ks := [3, 4, 5, 6, 0]) (L' := [(0, .ref b), (1, .ref n), (2, .ref (n + 124)), (3, .ref (n + 137)), (4, .int (nI (4 * k + 4)))]) rfl ?_
              refine gw_wide (ce' := 138 + 3 * (k + 1)) (sl' := 2200 + 18 * (k + 1)) (by omega) (by omega) ?_
              exact K _ ⟨A, hA, ab_bd_mono hbd (by omega), hcw2, ⟨_, hmw2⟩, ⟨_, ho⟩⟩
            · have hb : 1 = 0 := (nI_eq (a := 1) (b := 0) (by omega) (by omega)).mp hb
              exfalso; omega
          · skip
            exact absurd rfl hb
set_option maxRecDepth 100000 in
set_option maxHeartbeats 8000000 in
theorem la_errors {X : gw_C} (hX : gw_ok X nc_La_law "LabelLearnerLaw" (8, 11, 394, 601024, 7293033)) {b L : Nat} {xs : Nat → Int32} (hCx : la_C X b L xs) (n k : Nat) (hk4 : 4 * k + 4 ≤ L) (K : ∀ σ' : gw_S, la_I σ' (gw_z X) n (k + 1) → gw_W X σ' (138 + 3 * (k + 1)) (2200 + 18 * (k + 1)) 23 [(0, .ref b), (1, .ref n), (2, .ref (n + 124)), (3, .ref (n + 137)), (4, .int (nI (4 * k + 4)))] []) (σ : gw_S) (hI : la_I σ (gw_z X) n k) : gw_W X σ (138 + 3 * k) (2200 + 18 * k) 954 [(0, .ref b), (1, .ref n), (2, .ref (n + 124)), (3, .ref (n + 137)), (4, .int (nI (4 * k)))] [] := by
  obtain ⟨A, hA, hbd, ⟨c, cd, s, sd, hC⟩, ⟨th, hmw⟩, f, ho⟩ := hI
  obtain ⟨hK, hb0, hl0, hx, hbl, hbA, hL⟩ := hCx
  refine gw_aload_n hX nd_La_law_954 rfl 1 rfl ?_
  refine gw_aload_n hX nd_La_law_955 rfl 0 rfl ?_
  refine gw_iload hX nd_La_law_956 4 rfl ?_
  refine gw_iconst (v := nI 1) hX nd_La_law_958 rfl ?_
  refine gw_iadd hX nd_La_law_959 ?_
  refine gw_topi (y := nI (4 * k + 1)) (nI_add _ _) ?_
  refine gw_sld hX hx hbl hbA nd_La_law_960 (4 * k + 1) rfl (by omega) hL ?_
  refine gw_if_eq (tgt := 968) hX nd_La_law_961 rfl (fun hb => ?_) (fun hb => ?_)
  · skip
    have hq0 := hb
    refine gw_iconst (v := nI 0) hX nd_La_law_968 rfl ?_
    refine gw_callV (rest := []) hX ks_La_120 (ct_LL_errors _ _ _ σ n c cd s sd A hA 0 (by decide) (ab_bd_B hbd (by omega) 0) hC) hC.2.1 rfl rfl (Nat.le_of_ble_eq_true rfl) nd_La_law_969 (by refine ⟨⟨by decide, by decide⟩, ?_, ?_⟩; (show (138 + 3 * k) + 0 ≤ 601024; omega); (show (2200 + 18 * k) + 0 ≤ 7293033; omega)) ?_
    rintro v_ σ1 ⟨rfl, hC1, hf⟩
    have hmw1 : mw σ1 (gw_z X) (n + 124) A th := mw_mv hmw (fun b h1 h2 => hf.2 b (by omega) (by omega))
    have ho : σ1.2 (n + 137) = some (gw_J (gw_z X) 1 f) := (hf.2 _ (by omega) (by omega)).trans ho
    obtain ⟨rs, be, se, kp, kw, bs, s2, fm, fb, fl, hM, hO⟩ := hmw1
    show gw_W X σ1 (138 + 3 * k) (2200 + 18 * k) 972 [(0, .ref b), (1, .ref n), (2, .ref (n + 124)), (3, .ref (n + 137)), (4, .int (nI (4 * k)))] [.int (nI (ab_err A 0 A.ss.length))]
    refine gw_aload_n hX nd_La_law_972 rfl 2 rfl ?_
    refine gw_aload_n hX nd_La_law_973 rfl 0 rfl ?_
    refine gw_iload hX nd_La_law_974 4 rfl ?_
    refine gw_iconst (v := nI 1) hX nd_La_law_976 rfl ?_
    refine gw_iadd hX nd_La_law_977 ?_
    refine gw_topi (y := nI (4 * k + 1)) (nI_add _ _) ?_
    refine gw_sld hX hx hbl hbA nd_La_law_978 (4 * k + 1) rfl (by omega) hL ?_
    refine gw_if_eq (tgt := 986) hX nd_La_law_979 rfl (fun hb => ?_) (fun hb => ?_)
    · skip
      refine gw_iconst (v := nI 0) hX nd_La_law_986 rfl ?_
      refine gw_callV (rest := [.int (nI (ab_err A 0 A.ss.length))]) hX ks_La_124 (ct_Mo_errors _ _ _ σ1 (n + 124) A hA hM hO 0 (by decide) (ab_bd_B hbd (by omega) 0)) hM.1 rfl rfl (Nat.le_of_ble_eq_true rfl) nd_La_law_987 (by refine ⟨⟨by decide, by decide⟩, ?_, ?_⟩; (show (138 + 3 * k) + 0 ≤ 601024; omega); (show (2200 + 18 * k) + 0 ≤ 7293033; omega)) ?_
      rintro v_ σ2 ⟨rfl, hmw2, hfo2⟩
      have hcw2 : cw σ2 (gw_z X) n A := cw_mv ⟨c, cd, s, sd, hC1⟩ (fun b h1 h2 => hfo2 b (by omega)) hA
      have ho : σ2.2 (n + 137) = some (gw_J (gw_z X) 1 f) := (hfo2 _ (by omega)).trans ho
      show gw_W X σ2 (138 + 3 * k) (2200 + 18 * k) 990 [(0, .ref b), (1, .ref n), (2, .ref (n + 124)), (3, .ref (n + 137)), (4, .int (nI (4 * k)))] [.int (nI (ab_err A 0 A.ss.length)), .int (nI (ab_err A 0 A.ss.length))]
      refine gw_icmp_eq (tgt := 995) hX nd_La_law_990 rfl (fun hb => ?_) (fun hb => ?_)
      · skip
        refine gw_iinc hX nd_La_law_995 4 rfl (v := nI (4 * k + 4)) (show nI (4 * k) + nI 4 = nI (4 * k + 4) from nI_add _ _) (by decide) (L' := [(4, .int (nI (4 * k + 4))), (0, .ref b), (1, .ref n), (2, .ref (n + 124)), (3, .ref (n + 137))]) rfl ?_
        refine gw_goto (tgt := 23) hX nd_La_law_998 rfl ?_
        refine gw_cut (ks := [1, 2, 3, 4, 0]) (L' := [(0, .ref b), (1, .ref n), (2, .ref (n + 124)), (3, .ref (n + 137)), (4, .int (nI (4 * k + 4)))]) rfl ?_
        refine gw_wide (ce' := 138 + 3 * (k + 1)) (sl' := 2200 + 18 * (k + 1)) (by omega) (by omega) ?_
        exact K _ ⟨A, hA, ab_bd_mono hbd (by omega), hcw2, ⟨_, hmw2⟩, ⟨_, ho⟩⟩
      · skip
        exact absurd rfl hb
    · skip
      exact absurd hq0 hb
  · skip
    have hq0 := hb
    refine gw_iconst (v := nI 1) hX nd_La_law_964 rfl ?_
    refine gw_goto (tgt := 969) hX nd_La_law_965 rfl ?_
    refine gw_callV (rest := []) hX ks_La_120 (ct_LL_errors _ _ _ σ n c cd s sd A hA 1 (by decide) (ab_bd_B hbd (by omega) 1) hC) hC.2.1 rfl rfl (Nat.le_of_ble_eq_true rfl) nd_La_law_969 (by refine ⟨⟨by decide, by decide⟩, ?_, ?_⟩; (show (138 + 3 * k) + 0 ≤ 601024; omega); (show (2200 + 18 * k) + 0 ≤ 7293033; omega)) ?_
    rintro v_ σ3 ⟨rfl, hC1, hf⟩
    have hmw1 : mw σ3 (gw_z X) (n + 124) A th := mw_mv hmw (fun b h1 h2 => hf.2 b (by omega) (by omega))
    have ho : σ3.2 (n + 137) = some (gw_J (gw_z X) 1 f) := (hf.2 _ (by omega) (by omega)).trans ho
    obtain ⟨rs, be, se, kp, kw, bs, s2, fm, fb, fl, hM, hO⟩ := hmw1
    show gw_W X σ3 (138 + 3 * k) (2200 + 18 * k) 972 [(0, .ref b), (1, .ref n), (2, .ref (n + 124)), (3, .ref (n + 137)), (4, .int (nI (4 * k)))] [.int (nI (ab_err A 1 A.ss.length))]
    refine gw_aload_n hX nd_La_law_972 rfl 2 rfl ?_
    refine gw_aload_n hX nd_La_law_973 rfl 0 rfl ?_
    refine gw_iload hX nd_La_law_974 4 rfl ?_
    refine gw_iconst (v := nI 1) hX nd_La_law_976 rfl ?_
    refine gw_iadd hX nd_La_law_977 ?_
    refine gw_topi (y := nI (4 * k + 1)) (nI_add _ _) ?_
    refine gw_sld hX hx hbl hbA nd_La_law_978 (4 * k + 1) rfl (by omega) hL ?_
    refine gw_if_eq (tgt := 986) hX nd_La_law_979 rfl (fun hb => ?_) (fun hb => ?_)
    · skip
      exact absurd hb hq0
    · skip
      refine gw_iconst (v := nI 1) hX nd_La_law_982 rfl ?_
      refine gw_goto (tgt := 987) hX nd_La_law_983 rfl ?_
      refine gw_callV (rest := [.int (nI (ab_err A 1 A.ss.length))]) hX ks_La_124 (ct_Mo_errors _ _ _ σ3 (n + 124) A hA hM hO 1 (by decide) (ab_bd_B hbd (by omega) 1)) hM.1 rfl rfl (Nat.le_of_ble_eq_true rfl) nd_La_law_987 (by refine ⟨⟨by decide, by decide⟩, ?_, ?_⟩; (show (138 + 3 * k) + 0 ≤ 601024; omega); (show (2200 + 18 * k) + 0 ≤ 7293033; omega)) ?_
      rintro v_ σ4 ⟨rfl, hmw2, hfo2⟩
      have hcw2 : cw σ4 (gw_z X) n A := cw_mv ⟨c, cd, s, sd, hC1⟩ (fun b h1 h2 => hfo2 b (by omega)) hA
      have ho : σ4.2 (n + 137) = some (gw_J (gw_z X) 1 f) := (hfo2 _ (by omega)).trans ho
      show gw_W X σ4 (138 + 3 * k) (2200 + 18 * k) 990 [(0, .ref b), (1, .ref n), (2, .ref (n + 124)), (3, .ref (n + 137)), (4, .int (nI (4 * k)))] [.int (nI (ab_err A 1 A.ss.length)), .int (nI (ab_err A 1 A.ss.length))]
      refine gw_icmp_eq (tgt := 995) hX nd_La_law_990 rfl (fun hb => ?_) (fun hb => ?_)
      · skip
        refine gw_iinc hX nd_La_law_995 4 rfl (v := nI (4 * k + 4)) (show nI (4 * k) + nI 4 = nI (4 * k + 4) from nI_add _ _) (by decide) (L' := [(4, .int (nI (4 * k + 4))), (0, .ref b), (1, .ref n), (2, .ref (n + 124)), (3, .ref (n + 137))]) rfl ?_
        refine gw_goto (tgt := 23) hX nd_La_law_998 rfl ?_
        refine gw_cut (ks := [1, 2, 3, 4, 0]) (L' := [(0, .ref b), (1, .ref n), (2, .ref (n + 124)), (3, .ref (n + 137)), (4, .int (nI (4 * k + 4)))]) rfl ?_
        refine gw_wide (ce' := 138 + 3 * (k + 1)) (sl' := 2200 + 18 * (k + 1)) (by omega) (by omega) ?_
        exact K _ ⟨A, hA, ab_bd_mono hbd (by omega), hcw2, ⟨_, hmw2⟩, ⟨_, ho⟩⟩
      · skip
        exact absurd rfl hb
