/-! ===== learning, apart from how it is held ===== -/
def ab_rk (wt : Nat → Int) (ws : List px_W) : List (Int × Nat) := tk_all [] (tl_A ws.length (wd_W wt (se_B ws)) (dc_P wt) (dc_F wt))
theorem ab_rk_x {wt : Nat → Int} {ws : List px_W} (h : ws ≠ []) : ab_rk wt ws = tk_all [] ((List.range (4 ^ ws.length)).map (tl_x ws.length (wd_W wt (se_B ws)) (dc_P wt) (dc_F wt))) := by
  have h0 := List.length_pos_iff.mpr h
  obtain ⟨k, hk⟩ : ∃ k, ws.length = k + 1 := ⟨ws.length - 1, by omega⟩
  unfold ab_rk
  rw [hk, tl_A_x]
theorem ab_rk_len {wt : Nat → Int} {ws : List px_W} (h : ws ≠ []) : (ab_rk wt ws).length = 2 := by
  have h0 := List.length_pos_iff.mpr h
  rw [ab_rk_x h, tk_len _ [] trivial]
  have h1 : (4 : Nat) ^ 1 ≤ 4 ^ ws.length := Nat.pow_le_pow_right (by decide) h0
  simp only [List.length_nil, List.length_map, List.length_range]
  omega
def ab_best (wt : Nat → Int) (ws : List px_W) (j : Nat) : Int × Nat := ((ab_rk wt ws)[j]?).getD (0, 0)
theorem ab_best_at {wt : Nat → Int} {ws : List px_W} (h : ws ≠ []) {j : Nat} (hj : j < 2) : (ab_rk wt ws)[j]? = some (ab_best wt ws j) := by
  unfold ab_best
  have h1 : j < (ab_rk wt ws).length := by rw [ab_rk_len h]; exact hj
  rw [List.getElem?_eq_getElem h1]
  rfl
theorem ab_best_lt {wt : Nat → Int} {ws : List px_W} (h : ws ≠ []) {j : Nat} (hj : j < 2) : (ab_best wt ws j).2 < 4 ^ ws.length := by
  have h1 := List.mem_of_getElem? (ab_best_at (wt := wt) h hj)
  rw [ab_rk_x h] at h1
  rcases tk_mem _ [] trivial _ h1 with h2 | h2
  · cases h2
  · obtain ⟨q, -, e⟩ := List.mem_map.mp h2
    rw [← e]
    exact tl_d_lt _ (fun w _ => tl_g_lt _ _ _)
theorem ab_best_6 {wt : Nat → Int} {ws : List px_W} (h : ws ≠ []) (hl : ws.length ≤ 6) {j : Nat} (hj : j < 2) : (ab_best wt ws j).2 < 4096 :=
  Nat.lt_of_lt_of_le (ab_best_lt h hj) (show (4 : Nat) ^ ws.length ≤ 4 ^ 6 from Nat.pow_le_pow_right (by decide) hl)
theorem se_c_6 {ws : List px_W} (ho : se_ok ws) (hl : ws.length ≤ 6) : se_c ws < 4096 := Nat.lt_of_lt_of_le (se_c_lt ho) (show (4 : Nat) ^ ws.length ≤ 4 ^ 6 from Nat.pow_le_pow_right (by decide) hl)
abbrev ab_sb (ws : List px_W) : Nat → Nat → Nat := fun w k => se_B ws (w * 3 + k)
def ab_md (wt : Nat → Int) (ws : List px_W) : Nat → Int := if (ab_best wt ws 0).2 = se_c ws then wt else ct_ad (ct_ad wt 1 (ct_C (ab_sb ws) (lb_at (nI (se_c ws))) ws.length)) (-1) (ct_C (ab_sb ws) (lb_at (nI (ab_best wt ws 0).2)) ws.length)
def ab_mis (wt : Nat → Int) (ws : List px_W) : Nat := if (ab_best wt ws 0).2 = se_c ws then 0 else 1
def ab_st (A : ab_A) (wt tt : Nat → Int) : ab_A := (A.1, A.2.1, (wt, tt), A.2.2.2.1, A.2.2.2.2)
def ab_ls (A : ab_A) (ws : List px_W) : Nat × ab_A := (ab_mis A.wt ws, ab_st A (ab_md A.wt ws) (fun j => A.tt j + ab_md A.wt ws j))
def ab_acc (p : Nat × ab_A) (ws : List px_W) : Nat × ab_A := (p.1 + (ab_ls p.2 ws).1, (ab_ls p.2 ws).2)
def ab_run (A : ab_A) (m : Nat) : Nat × ab_A := (A.ss.take m).foldl ab_acc (0, A)
def ab_cnt (A : ab_A) (k : Nat) : ab_A := (A.1, A.2.1, A.2.2.1, (A.mk + k, A.ps + 1), A.2.2.2.2)
def ab_pass (A : ab_A) : Nat × ab_A := ((ab_run A A.ss.length).1, ab_cnt (ab_run A A.ss.length).2 (ab_run A A.ss.length).1)
def ab_loop : Nat → Nat × ab_A → Nat × ab_A
  | 0, p => p
  | k + 1, p => if p.1 = 0 then p else ab_loop k (ab_pass p.2)
theorem ab_run_0 (A : ab_A) : ab_run A 0 = (0, A) := rfl
theorem ab_run_s {A : ab_A} {m : Nat} (h : m < A.ss.length) : ab_run A (m + 1) = ab_acc (ab_run A m) A.ss[m] := by
  unfold ab_run
  rw [List.take_succ_eq_append_getElem h, List.foldl_append]
  rfl
/-- nothing but weights and counts changes -/
def ab_eq (A B : ab_A) : Prop := B.1 = A.1 ∧ B.2.1 = A.2.1 ∧ B.2.2.2.2 = A.2.2.2.2
theorem ab_eq_rf (A : ab_A) : ab_eq A A := ⟨rfl, rfl, rfl⟩
theorem ab_eq_tr {A B C : ab_A} (h : ab_eq A B) (k : ab_eq B C) : ab_eq A C := ⟨k.1.trans h.1, k.2.1.trans h.2.1, k.2.2.trans h.2.2⟩
theorem ab_eq_ss {A B : ab_A} (h : ab_eq A B) : B.ss = A.ss := congrArg Prod.fst h.2.1
theorem ab_eq_ok {A B : ab_A} (h : ab_eq A B) (k : ab_ok A) : ab_ok B := by
  obtain ⟨a1, a2, a3, a4⟩ := A
  obtain ⟨b1, b2, b3, b4⟩ := B
  obtain ⟨h1, h2, h3⟩ := h
  simp only at h1 h2 h3
  subst h1 h2
  unfold ab_ok ab_A.kw ab_A.kc at k ⊢
  simp only at k ⊢
  rw [h3]
  exact k
theorem ab_eq_ls (A : ab_A) (ws : List px_W) : ab_eq A (ab_ls A ws).2 := ⟨rfl, rfl, rfl⟩
theorem ab_eq_acc (p : Nat × ab_A) (ws : List px_W) : ab_eq p.2 (ab_acc p ws).2 := ⟨rfl, rfl, rfl⟩
theorem ab_eq_fold (l : List (List px_W)) : ∀ p : Nat × ab_A, ab_eq p.2 (l.foldl ab_acc p).2 := by
  induction l with
  | nil => exact fun p => ab_eq_rf _
  | cons x l ih => exact fun p => ab_eq_tr (ab_eq_acc p x) (ih _)
theorem ab_eq_run (A : ab_A) (m : Nat) : ab_eq A (ab_run A m).2 := ab_eq_fold _ _
theorem ab_eq_pass (A : ab_A) : ab_eq A (ab_pass A).2 := ab_eq_tr (ab_eq_run A A.ss.length) ⟨rfl, rfl, rfl⟩
theorem ab_eq_loop : ∀ (k : Nat) (p : Nat × ab_A), ab_eq p.2 (ab_loop k p).2 := by
  intro k
  induction k with
  | zero => exact fun p => ab_eq_rf _
  | succ k ih =>
    intro p
    unfold ab_loop
    split
    · exact ab_eq_rf _
    · exact ab_eq_tr (ab_eq_pass p.2) (ih _)
theorem ab_mis_le (wt : Nat → Int) (ws : List px_W) : ab_mis wt ws ≤ 1 := by unfold ab_mis; split <;> omega
theorem ab_run_le (A : ab_A) : ∀ m, m ≤ A.ss.length → (ab_run A m).1 ≤ m := by
  intro m
  induction m with
  | zero => intro _; exact Nat.le_refl 0
  | succ m ih =>
    intro h
    rw [ab_run_s (by omega)]
    have h1 := ih (by omega)
    have h2 := ab_mis_le (ab_run A m).2.wt A.ss[m]
    show (ab_run A m).1 + ab_mis (ab_run A m).2.wt A.ss[m] ≤ m + 1
    omega
/-! bounds -/
def ab_bd (A : ab_A) (N : Nat) : Prop := ∀ j, (-(48 * (N : Int)) ≤ A.wt j ∧ A.wt j ≤ 48 * (N : Int)) ∧ -(48 * ((N * N : Nat) : Int)) ≤ A.tt j ∧ A.tt j ≤ 48 * ((N * N : Nat) : Int)
theorem ab_bd_mono {A : ab_A} {N M : Nat} (h : ab_bd A N) (hNM : N ≤ M) : ab_bd A M := by
  intro j
  obtain ⟨⟨h1, h2⟩, h3, h4⟩ := h j
  have h5 : N * N ≤ M * M := Nat.mul_le_mul hNM hNM
  refine ⟨⟨?_, ?_⟩, ?_, ?_⟩ <;> omega
theorem ab_md_bd {wt : Nat → Int} {ws : List px_W} {B : Int} (h : ∀ j, -B ≤ wt j ∧ wt j ≤ B) (hl : ws.length ≤ 6) (hB : 0 ≤ B) : ∀ j, -(B + 48) ≤ ab_md wt ws j ∧ ab_md wt ws j ≤ B + 48 := by
  unfold ab_md
  split
  · intro j
    have := h j
    omega
  · intro j
    have h1 := ct_abs 1 (Or.inl rfl) h (is := ct_C (ab_sb ws) (lb_at (nI (se_c ws))) ws.length) (by rw [ct_len]; omega)
    have h2 := ct_abs (-1) (Or.inr rfl) h1 (is := ct_C (ab_sb ws) (lb_at (nI (ab_best wt ws 0).2)) ws.length) (by rw [ct_len]; omega) j
    omega
theorem ab_bd_ls {A : ab_A} {N : Nat} {ws : List px_W} (h : ab_bd A N) (hl : ws.length ≤ 6) : ab_bd (ab_ls A ws).2 (N + 1) := by
  intro j
  have h1 := ab_md_bd (ws := ws) (fun j => (h j).1) hl (by omega) j
  obtain ⟨-, h3, h4⟩ := h j
  have h5 : (N + 1) * (N + 1) = N * N + 2 * N + 1 := by
    rw [Nat.add_mul, Nat.mul_add]; omega
  have e1 : (ab_ls A ws).2.wt j = ab_md A.wt ws j := rfl
  have e2 : (ab_ls A ws).2.tt j = A.tt j + ab_md A.wt ws j := rfl
  rw [e1, e2]
  refine ⟨⟨?_, ?_⟩, ?_, ?_⟩ <;> omega
theorem ab_bd_run {A : ab_A} {N : Nat} (h : ab_bd A N) (hg : ∀ ws ∈ A.ss, ws.length ≤ 6) : ∀ m, m ≤ A.ss.length → ab_bd (ab_run A m).2 (N + m) := by
  intro m
  induction m with
  | zero => exact fun _ => h
  | succ m ih =>
    intro hm
    rw [ab_run_s (by omega)]
    exact ab_bd_ls (ih (by omega)) (hg _ (List.getElem_mem (by omega)))
theorem ab_bd_pass {A : ab_A} {N : Nat} (h : ab_bd A N) (hA : ab_ok A) : ab_bd (ab_pass A).2 (N + 8) :=
  ab_bd_mono (fun j => ab_bd_run h (fun ws hw => (hA.2.2.2.1 ws hw).1.2) A.ss.length (Nat.le_refl _) j) (by have := hA.2.2.1; omega)
theorem ab_bd_loop : ∀ (k : Nat) {p : Nat × ab_A} {N : Nat}, ab_bd p.2 N → ab_ok p.2 → ab_bd (ab_loop k p).2 (N + 8 * k) := by
  intro k
  induction k with
  | zero => exact fun h _ => h
  | succ k ih =>
    intro p N h hA
    unfold ab_loop
    split
    · exact ab_bd_mono h (by omega)
    · exact ab_bd_mono (ih (ab_bd_pass h hA) (ab_eq_ok (ab_eq_pass _) hA)) (by omega)
theorem ab_bd_B {A : ab_A} {N : Nat} (h : ab_bd A N) (hN : N ≤ 100000) (q : Nat) : dc_B (ab_w A q) := by
  intro j
  obtain ⟨⟨h1, h2⟩, h3, h4⟩ := h j
  have h5 : N * N ≤ 100000 * 100000 := Nat.mul_le_mul hN hN
  unfold ab_w
  split <;> omega
/-! answers -/
def ab_kp (A : ab_A) (kw kc : Nat) : ab_A := (A.1, A.2.1, A.2.2.1, A.2.2.2.1, (kw, kc))
def ab_dec (A : ab_A) (x : Int32) (q b : Nat) : Option (Int × ab_A) := (ab_sent A x).map (fun ws => ((ab_best (ab_w A q) ws b).1, ab_kp A ws.length (ab_best (ab_w A q) ws b).2))
def ab_err1 (wt : Nat → Int) (ws : List px_W) : Nat := df_n (nI (ab_best wt ws 0).2) (nI (se_c ws)) ws.length
def ab_err (A : ab_A) (q m : Nat) : Nat := ((A.ss.take m).map (ab_err1 (ab_w A q))).sum
theorem ab_err_s {A : ab_A} {q m : Nat} (h : m < A.ss.length) : ab_err A q (m + 1) = ab_err A q m + ab_err1 (ab_w A q) A.ss[m] := by
  unfold ab_err
  rw [List.take_succ_eq_append_getElem h, List.map_append, List.sum_append]
  simp
theorem ab_err_le {A : ab_A} (q : Nat) (hA : ab_ok A) : ∀ m, m ≤ A.ss.length → ab_err A q m ≤ 6 * m := by
  intro m
  induction m with
  | zero => intro _; exact Nat.le_refl 0
  | succ m ih =>
    intro h
    rw [ab_err_s (by omega)]
    have h1 := ih (by omega)
    have h2 := df_le (nI (ab_best (ab_w A q) A.ss[m] 0).2) (nI (se_c A.ss[m])) A.ss[m].length
    have h3 := (hA.2.2.2.1 _ (List.getElem_mem (by omega : m < A.ss.length))).1.2
    unfold ab_err1
    omega
/-! the class's world behind a change of weights, counts and what is kept -/
theorem cw_re {σ σ' : gw_S} {Z : gw_Z} {n c cd s sd : Nat} {A A' : ab_A} (hl : A.ss.length ≤ 8) (h : cw_at σ Z n A c cd s sd) (f : gw_f2 σ σ' n (n + 1) (n + 5) (n + 84)) (e1 : A'.1 = A.1) (e2 : A'.2.1 = A.2.1)
    (h0 : σ'.2 n = some (.inr (0, [.ref (n + 1), .ref (n + 3), .ref (n + 80), .ref (n + 82), .ref c, .ref cd, .ref s, .ref sd, .int (nI A'.mk), .int (nI A'.ps), .int (nI A'.kw), .int (nI A'.kc)]))) (hde : de_at σ' Z (n + 3)) (hwe : we_at σ' Z (n + 80) A'.wt) (hte : we_at σ' Z (n + 82) A'.tt) : cw_at σ' Z n A' c cd s sd := by
  obtain ⟨a1, a2, a3⟩ := A
  obtain ⟨b1, b2, b3⟩ := A'
  simp only at e1 e2
  subst e1 e2
  obtain ⟨hsw, -, ⟨kt, hkt, htx⟩, -, -, -, hrc, hrd, hsp, hsd⟩ := h
  obtain ⟨sw1, sw2⟩ := id hsw
  exact ⟨hsw, h0, ⟨kt, hkt, tx_at_f2 htx f (by omega) (by omega)⟩, hde, hwe, hte, rc_at_f2 hl hrc f (by omega) (by omega), rc_any_f2 hrd f (by omega) (by omega), se_at_f2 hsp f (by omega) (by omega), se_any_f2 hsd f (by omega) (by omega)⟩
theorem gw_ldc2 {X : gw_C} {cc : ByteArray} {own : String} {q : gw_N} {σ : gw_S} {ce sl pc : Nat} {L : List (Nat × Value)} {st : List Value} (hX : gw_ok X cc own q) {idx : Nat} {v : Int64} (hk : Cond.constantLong own idx v ∈ gw_ws) (d : decode cc pc = .ok (.ldc2_w idx, 3)) (kk : gw_W X σ ce sl (pc + 3) L (.long v :: st)) : gw_W X σ ce sl pc L st :=
  fun H locs ls hG hS hL => lv_ldc2 hX.1 hX.2.1 hX.2.2.2.1 (hX.2.2.2.2.1 _ hk) d (kk H locs ls hG hS hL)
