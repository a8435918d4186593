/-! ===== rows of the walk that touch the heap ===== -/
/-- what is known of a made class: its number, its fields' words, types, names -/
def gw_cls (ci : Nat) (C : String) (T : u_T) (N : Nat) (ty : Nat → FieldType) : Prop :=
  nv_cl[ci]? = some (C, T, N) ∧ (∀ w ∈ u_ws C T N, w ∈ gw_ws) ∧ (∀ k, k < N → parseFieldDescriptor (T k).2.2.1 = some (ty k)) ∧ ∀ a, a < N → ∀ b, b < N → a ≠ b → (T a).2.1 ≠ (T b).2.1
/-- what the entry index of own's pool says: the field k of the class ci, final or not, of the type t -/
def gw_fld (own : String) (index ci k : Nat) (fin : Bool) (t : FieldType) : Prop := ∃ (C : String) (T : u_T) (N : Nat) (ty : Nat → FieldType), gw_cls ci C T N ty ∧ k < N ∧ (T k).2.2.2 = fin ∧ ty k = t ∧ (T k).1 = C ∧
  (Cond.fieldLink own index (T k).1 (T k).2.1 (T k).2.2.1 ∈ gw_ws ∨ ∃ host : String, Cond.fieldLinkNest own index (T k).1 (T k).2.1 (T k).2.2.1 host ∈ gw_nl)
section GWR
variable {X : gw_C} {cc : ByteArray} {own : String} {σ : gw_S} {ce sl pc : Nat} {L : List (Nat × Value)} {st : List Value}
theorem gw_get {q : gw_N} (hX : gw_ok X cc own q) {index ci k : Nat} {fin : Bool} {t : FieldType} (f : gw_fld own index ci k fin t) (d : decode cc pc = .ok (.getfield index, 3)) {a : Nat} {fs : List Value} {v : Value} (h : σ.2 a = some (.inr (ci, fs))) (hv : fs[k]? = some v)
    (kk : gw_W X σ ce sl (pc + 3) L (v :: st)) : gw_W X σ ce sl pc L (.ref a :: st) := by
  obtain ⟨C, T, N, ty, ⟨hc, hin, hty, hnm⟩, hk, hfin, ht, -, hlink⟩ := f
  intro H locs ls hG hS hL
  have hP := gw_one (hG.2.2 a _ h).2
  rcases hlink with hlink | ⟨host, hlink⟩
  · exact va_get hX.1 hX.2.1 hX.2.2.2.2.1 hin hX.2.2.2.1 hX.2.2.2.2.2.1 hP 0 rfl hc k hk (hX.2.2.2.2.1 _ hlink) (fun _ h9 => h9) hv d (kk H locs ls hG hS hL)
  · exact va_getN hX.1 hX.2.1 hX.2.2.2.2.1 hin hX.2.2.2.1 hX.2.2.2.2.2.1 hP 0 rfl hc k hk (va_Nw.use rfl (hX.2.2.2.2.2.2.1 _ hlink)) (fun _ h9 => h9) hv d (kk H locs ls hG hS hL)
theorem gw_put {q : gw_N} (hX : gw_ok X cc own q) {index ci k : Nat} {t : FieldType} (f : gw_fld own index ci k false t) (d : decode cc pc = .ok (.putfield index, 3)) {a : Nat} {fs : List Value} {v : Value} (h : σ.2 a = some (.inr (ci, fs))) (hn : narrow t v = v) (hf : fits t v = true) (hl : k < fs.length) {e' : va_E} (he : .inr (ci, fs.set k v) = e')
    (kk : gw_W X (gw_up σ a e') ce sl (pc + 3) L st) : gw_W X σ ce sl pc L (v :: .ref a :: st) := by
  obtain ⟨C, T, N, ty, ⟨hc, hin, hty, hnm⟩, hk, hfin, ht, -, hlink⟩ := f
  intro H locs ls hG hS hL
  have hw := hX.2.2.2.2.1
  have hK := hX.2.2.2.2.2.1
  have hap := va_apart (own := own) hw hin ty hty hnm hK hc
  obtain ⟨r, h1, cell, q1, q2, q3, q4⟩ := (hG.2.2 a _ h).2
  have hr : r = (C, T, N) := Option.some.inj (h1.symm.trans hc)
  subst hr
  obtain ⟨hSl, hfc, kC, hkC, hkind⟩ := hK.1 ci _ hc
  obtain ⟨cf, kf, fi, fd, hi, hsl⟩ := hSl k hk
  have hlay := hw _ (hin _ (u_in_lay hk))
  unfold u_lay at hlay
  rw [if_neg (by rw [hfin]; decide)] at hlay
  have hst := (u_facts hfc hkC (u_lays hw hin hk) hi).1
  have hd : parseFieldDescriptor (T k).2.2.1 = some t := ht ▸ hty k hk
  have h6 := u_store hfc hkC hkind hlay hi hd hn hf
  have last : ∀ H' : Heap, H'[a]? = some (cell.setSlot fd.slot v) → H'.size = H.size → (∀ q, q ≠ a → H'[q]? = H[q]?) → gw_w X H' (locs ++ [⟨a, fd.slot⟩]) ce sl (F0 (gw_m X) (pc + 3) ls st) := by
    intro H' e1 e2 e3
    refine kk H' _ ls (gw_H_up hG h ?_ e2 e3) (hS.put e2 e3 (hG.2.2 a _ h).1) hL
    rw [← he]
    rw [hsl] at e1
    exact ⟨_, hc, t_OB.to (V := updV (vp_V fs) k v) ⟨_, e1, q2, q3, t_set q4 hap hk v⟩ (fun j _ => vp_updV_set hl v j)⟩
  rcases hlink with hlink | ⟨host, hlink⟩
  · exact W.putK hX.1 hX.2.1 (f := fd) ⟨hX.2.2.2.1, hw _ hlink, ⟨_, _, _, hi⟩, hst⟩ (by rw [q2]; exact h6) q1 q3 (by rw [hsl]; exact k2_hasslot (q4 k hk)) rfl rfl d last
  · exact va_WputK hX.1 hX.2.1 (f := fd) hX.2.2.2.1 (va_Nw.use rfl (hX.2.2.2.2.2.2.1 _ hlink)) hi hst (by rw [q2]; exact h6) q1 q3 (by rw [hsl]; exact k2_hasslot (q4 k hk)) rfl rfl d last
/-- a final field, in its class's constructor -/
theorem gw_putF {q : gw_N} (hX : gw_ok X cc own q) {index ci k : Nat} {t : FieldType} (f : gw_fld own index ci k true t) (ho : ∀ (C : String) (T : u_T) (N : Nat), nv_cl[ci]? = some (C, T, N) → C = own) (hin2 : X.2.2.1.1.name = "<init>") (d : decode cc pc = .ok (.putfield index, 3)) {a : Nat} {fs : List Value} {v : Value} (h : σ.2 a = some (.inr (ci, fs))) (hn : narrow t v = v) (hf : fits t v = true) (hl : k < fs.length) {e' : va_E} (he : .inr (ci, fs.set k v) = e')
    (hm : Cond.fieldLink own index own (match nv_cl[ci]? with | some q => (q.2.1 k).2.1 | none => "") (match nv_cl[ci]? with | some q => (q.2.1 k).2.2.1 | none => "") ∈ gw_ws)
    (kk : gw_W X (gw_up σ a e') ce sl (pc + 3) L st) : gw_W X σ ce sl pc L (v :: .ref a :: st) := by
  obtain ⟨C, T, N, ty, ⟨hc, hin, hty, hnm⟩, hk, hfin, ht, hC, -⟩ := f
  have hCo := ho C T N hc
  rw [hc] at hm
  subst hCo
  intro H locs ls hG hS hL
  have hw := hX.2.2.2.2.1
  have hK := hX.2.2.2.2.2.1
  have hap := va_apart (own := C) hw hin ty hty hnm hK hc
  obtain ⟨r, h1, cell, q1, q2, q3, q4⟩ := (hG.2.2 a _ h).2
  have hr : r = (C, T, N) := Option.some.inj (h1.symm.trans hc)
  subst hr
  obtain ⟨hSl, hfc, kC, hkC, hkind⟩ := hK.1 ci _ hc
  obtain ⟨cf, kf, fi, fd, hi, hsl⟩ := hSl k hk
  have hlay := hw _ (hin _ (u_in_lay hk))
  unfold u_lay at hlay
  rw [if_pos hfin] at hlay
  have hst := (u_facts hfc hkC (u_lays hw hin hk) hi).1
  have hcf : (gw_m X).cls = cf := by
    obtain ⟨_, _, c', _, _, _, -, -, hf', -, -, -, hown2, -⟩ := Cond.laysFinal_spec hlay
    have e1 : c' = cf := by have := hi.symm.trans hf'; simp at this; exact this.1.symm
    rw [hC] at hown2
    rw [← e1]; exact Option.some.inj (hX.2.2.2.1.symm.trans hown2)
  have hd : parseFieldDescriptor (T k).2.2.1 = some t := ht ▸ hty k hk
  have h6 := u_fits hfc hkC hkind (Or.inr hlay) hi hd hn hf
  have hi2 : (gw_s X).fieldFound? C (T k).2.1 (T k).2.2.1 = some (cf, kf, fi, fd) := by
    have h9 : (gw_s X).fieldFound? (T k).1 (T k).2.1 (T k).2.2.1 = some (cf, kf, fi, fd) := hi
    rw [hC] at h9
    exact h9
  refine W.putFinK hX.1 hX.2.1 hX.2.2.2.1 (hw _ hm) hi2 hst hcf hin2 (by rw [q2]; exact h6) q1 q3 (by rw [hsl]; exact k2_hasslot (q4 k hk)) rfl rfl d fun H' e1 e2 e3 => ?_
  refine kk H' _ ls (gw_H_up hG h ?_ e2 e3) (hS.put e2 e3 (hG.2.2 a _ h).1) hL
  rw [← he]
  rw [hsl] at e1
  exact ⟨_, hc, t_OB.to (V := updV (vp_V fs) k v) ⟨_, e1, q2, q3, t_set q4 hap hk v⟩ (fun j _ => vp_updV_set hl v j)⟩
theorem gw_new {q : gw_N} (hX : gw_ok X cc own q) {index ci N : Nat} {C : String} {T : u_T} {ty : Nat → FieldType} (hcl : gw_cls ci C T N ty) (hk : Cond.classLink own index C ∈ gw_ws) (hins : Cond.instantiable C N ∈ gw_ws) (hini : Cond.initialized C ∈ gw_ws) (d : decode cc pc = .ok (.new index, 3)) {fs : List Value} (hfs : ∀ j, j < N → defaultValue (ty j) = vp_V fs j)
    (h1 : ce + 1 ≤ q.2.2.2.1) (h2 : sl + N ≤ q.2.2.2.2) (kk : gw_W X (gw_nw σ (.inr (ci, fs))) (ce + 1) (sl + N) (pc + 3) L (.ref σ.1 :: st)) : gw_W X σ ce sl pc L st := by
  obtain ⟨hc, hin, hty, hnm⟩ := hcl
  intro H locs ls hG hS hL
  have hw := hX.2.2.2.2.1
  have hKn := hX.2.2.2.2.2.1.1 ci _ hc
  refine W.newcK hX.1 hX.2.1 hX.2.2.2.1 (hw _ hk) (hw _ hins) (hw _ hini) rfl d (gw_rc hX h1) (gw_rs hX h2) hKn.2.1 rfl fun H1 kC hkC e1 z1 o1 => ?_
  have h9 := kk H1 locs ls (gw_H_nw hG ⟨_, hc, (u_born ty hw hin hKn hkC e1 hty).to hfs⟩ z1 o1) ⟨Nat.le_trans hS.1 (by omega), fun x g1 g2 => (o1 x (Nat.lt_of_lt_of_le g1 hS.1)).trans (hS.2.1 x g1 g2), hS.2.2⟩ hL
  rw [← hG.1] at h9
  exact h9
theorem gw_iald {q : gw_N} (hX : gw_ok X cc own q) (d : decode cc pc = .ok (.iaload, 1)) {a n : Nat} {f : Nat → Int32} (h : σ.2 a = some (gw_I (gw_z X) n f)) {x : Int32} (i : Nat) (hx : x = nI i) (hi : i < n) (hn : n < 2147483648) (kk : gw_W X σ ce sl (pc + 1) L (.int (f i) :: st)) : gw_W X σ ce sl pc L (.int x :: .ref a :: st) := by
  subst hx
  intro H locs ls hG hS hL
  refine va_iald hX.1 hX.2.1 hX.2.2.2.2.2.1 (gw_one (hG.2.2 a _ h).2) 0 0 rfl rfl (vp_in_nI hi hn) d ?_
  rw [nI_clamp (show i < 2 ^ 31 by omega)]
  exact kk H locs ls hG hS hL
theorem gw_lald {q : gw_N} (hX : gw_ok X cc own q) (d : decode cc pc = .ok (.laload, 1)) {a n : Nat} {f : Nat → Int64} (h : σ.2 a = some (gw_J (gw_z X) n f)) {x : Int32} (i : Nat) (hx : x = nI i) (hi : i < n) (hn : n < 2147483648) (kk : gw_W X σ ce sl (pc + 1) L (.long (f i) :: st)) : gw_W X σ ce sl pc L (.int x :: .ref a :: st) := by
  subst hx
  intro H locs ls hG hS hL
  refine va_lald hX.1 hX.2.1 hX.2.2.2.2.2.1 (gw_one (hG.2.2 a _ h).2) 0 1 rfl rfl (vp_in_nI hi hn) d ?_
  rw [nI_clamp (show i < 2 ^ 31 by omega)]
  exact kk H locs ls hG hS hL
theorem gw_cald {q : gw_N} (hX : gw_ok X cc own q) (d : decode cc pc = .ok (.caload, 1)) {a n : Nat} {f : Nat → Int32} (h : σ.2 a = some (gw_Ch (gw_z X) n f)) {x : Int32} (i : Nat) (hx : x = nI i) (hi : i < n) (hn : n < 2147483648) (kk : gw_W X σ ce sl (pc + 1) L (.int (f i) :: st)) : gw_W X σ ce sl pc L (.int x :: .ref a :: st) := by
  subst hx
  intro H locs ls hG hS hL
  refine va_cald hX.1 hX.2.1 hX.2.2.2.2.2.1 (gw_one (hG.2.2 a _ h).2) 0 2 rfl rfl (vp_in_nI hi hn) d ?_
  rw [nI_clamp (show i < 2 ^ 31 by omega)]
  exact kk H locs ls hG hS hL
theorem gw_ald3 {q : gw_N} (hX : gw_ok X cc own q) (d : decode cc pc = .ok (.aaload, 1)) {a n : Nat} {f : Nat → Option Nat} (h : σ.2 a = some (gw_Q3 (gw_z X) n f)) {x : Int32} (i : Nat) (hx : x = nI i) (hi : i < n) (hn : n < 2147483648) {r : Nat} (hr : f i = some r) (kk : gw_W X σ ce sl (pc + 1) L (.ref r :: st)) : gw_W X σ ce sl pc L (.int x :: .ref a :: st) := by
  subst hx
  intro H locs ls hG hS hL
  refine va_aldq (C := nR_Se) hX.1 hX.2.1 hX.2.2.2.2.2.1 (gw_one (hG.2.2 a _ h).2) 0 3 rfl rfl (vp_in_nI hi hn) d ?_
  rw [nI_clamp (show i < 2 ^ 31 by omega), hr]
  exact kk H locs ls hG hS hL
theorem gw_ald4 {q : gw_N} (hX : gw_ok X cc own q) (d : decode cc pc = .ok (.aaload, 1)) {a n : Nat} {f : Nat → Option Nat} (h : σ.2 a = some (gw_Q4 (gw_z X) n f)) {x : Int32} (i : Nat) (hx : x = nI i) (hi : i < n) (hn : n < 2147483648) {r : Nat} (hr : f i = some r) (kk : gw_W X σ ce sl (pc + 1) L (.ref r :: st)) : gw_W X σ ce sl pc L (.int x :: .ref a :: st) := by
  subst hx
  intro H locs ls hG hS hL
  refine va_aldq (C := nR_Ra) hX.1 hX.2.1 hX.2.2.2.2.2.1 (gw_one (hG.2.2 a _ h).2) 0 4 rfl rfl (vp_in_nI hi hn) d ?_
  rw [nI_clamp (show i < 2 ^ 31 by omega), hr]
  exact kk H locs ls hG hS hL
theorem gw_alen {q : gw_N} (hX : gw_ok X cc own q) (d : decode cc pc = .ok (.arraylength, 1)) {a : Nat} {t : Nat} {cA : ClassId} {ty : FieldType} {y : vp_A} (h : σ.2 a = some (.inl (cA, y))) (ht : (gw_T (gw_z X))[t]? = some (cA, ty)) {v : Int32} (hv : nI y.1 = v) (kk : gw_W X σ ce sl (pc + 1) L (.int v :: st)) : gw_W X σ ce sl pc L (.ref a :: st) := by
  intro H locs ls hG hS hL
  exact va_alen hX.1 hX.2.1 hX.2.2.2.2.2.1 (gw_one (hG.2.2 a _ h).2) 0 t rfl ht hv d (kk H locs ls hG hS hL)
theorem gw_iast {q : gw_N} (hX : gw_ok X cc own q) (d : decode cc pc = .ok (.iastore, 1)) {a n : Nat} {f : Nat → Int32} (h : σ.2 a = some (gw_I (gw_z X) n f)) {x v : Int32} (i : Nat) (hx : x = nI i) (hi : i < n) (hn : n < 2147483648) (kk : gw_W X (gw_up σ a (gw_I (gw_z X) n (upd f i v))) ce sl (pc + 1) L st) : gw_W X σ ce sl pc L (.int v :: .int x :: .ref a :: st) := by
  subst hx
  intro H locs ls hG hS hL
  have hin : vp_in (nI i) n := vp_in_nI hi hn
  have hcl : (nI i).toNatClampNeg = i := nI_clamp (show i < 2 ^ 31 by omega)
  refine W.iast hX.1 hX.2.1 (hG.2.2 a _ h).2 ((hX.2.2.2.2.2.1.2 0 _ rfl).1 n (fun j => .int (f j))) (fun q => by cases q) (by show ¬ (nI i < 0 ∨ (arrV _ _ _).slots.size ≤ _); rw [arrV_size]; exact hin) rfl rfl d fun H1 e z oq => ?_
  refine kk H1 _ ls (gw_H_up hG h ?_ z oq) (hS.put z oq (hG.2.2 a _ h).1) hL
  show H1[a]? = some (vp_cell _ _)
  rw [e, hcl]
  rw [vp_cell_i, vp_cell_i, arrV_store]
  congr 2
  funext q
  by_cases hq : q = i
  · subst hq
    simp [updV, upd]
  · simp [updV, upd, hq]
theorem gw_cast {q : gw_N} (hX : gw_ok X cc own q) (d : decode cc pc = .ok (.castore, 1)) {a n : Nat} {f : Nat → Int32} (h : σ.2 a = some (gw_Ch (gw_z X) n f)) {x v : Int32} (i : Nat) (hx : x = nI i) (hi : i < n) (hn : n < 2147483648) (hv : narrow .char (.int v) = .int v) (kk : gw_W X (gw_up σ a (gw_Ch (gw_z X) n (upd f i v))) ce sl (pc + 1) L st) : gw_W X σ ce sl pc L (.int v :: .int x :: .ref a :: st) := by
  subst hx
  intro H locs ls hG hS hL
  have hin : vp_in (nI i) n := vp_in_nI hi hn
  have hcl : (nI i).toNatClampNeg = i := nI_clamp (show i < 2 ^ 31 by omega)
  refine W.cast hX.1 hX.2.1 (hG.2.2 a _ h).2 ((hX.2.2.2.2.2.1.2 2 _ rfl).1 n (fun j => .int (f j))) (fun q => by cases q) (by show ¬ (nI i < 0 ∨ (arrV _ _ _).slots.size ≤ _); rw [arrV_size]; exact hin) rfl rfl d fun H1 e z oq => ?_
  refine kk H1 _ ls (gw_H_up hG h ?_ z oq) (hS.put z oq (hG.2.2 a _ h).1) hL
  show H1[a]? = some (vp_cell _ _)
  rw [e, hcl, hv]
  rw [vp_cell_i, vp_cell_i, arrV_store]
  congr 2
  funext q
  by_cases hq : q = i
  · subst hq
    simp [updV, upd]
  · simp [updV, upd, hq]
theorem gw_last {q : gw_N} (hX : gw_ok X cc own q) (d : decode cc pc = .ok (.lastore, 1)) {a n : Nat} {f : Nat → Int64} (h : σ.2 a = some (gw_J (gw_z X) n f)) {x : Int32} {v : Int64} (i : Nat) (hx : x = nI i) (hi : i < n) (hn : n < 2147483648) (kk : gw_W X (gw_up σ a (gw_J (gw_z X) n (vp_updL f i v))) ce sl (pc + 1) L st) : gw_W X σ ce sl pc L (.long v :: .int x :: .ref a :: st) := by
  subst hx
  intro H locs ls hG hS hL
  have hin : vp_in (nI i) n := vp_in_nI hi hn
  have hcl : (nI i).toNatClampNeg = i := nI_clamp (show i < 2 ^ 31 by omega)
  refine W.last hX.1 hX.2.1 (hG.2.2 a _ h).2 ((hX.2.2.2.2.2.1.2 1 _ rfl).1 n (fun j => .long (f j))) (fun q => by cases q) (by show ¬ (nI i < 0 ∨ (arrV _ _ _).slots.size ≤ _); rw [arrV_size]; exact hin) rfl rfl d fun H1 e z oq => ?_
  refine kk H1 _ ls (gw_H_up hG h ?_ z oq) (hS.put z oq (hG.2.2 a _ h).1) hL
  show H1[a]? = some (vp_cell _ _)
  rw [e, hcl]
  rw [vp_cell_l, vp_cell_l, arrV_store]
  congr 2
  funext q
  by_cases hq : q = i
  · subst hq
    simp [updV, vp_updL]
  · simp [updV, vp_updL, hq]
theorem gw_newI {q : gw_N} (hX : gw_ok X cc own q) (hw : Cond.arrayClass .int ∈ gw_ws) (d : decode cc pc = .ok (.newarray .int, 2)) {x : Int32} (n : Nat) (hx : x = nI n) (hn : n < 100000) (h1 : ce + 1 ≤ q.2.2.2.1) (h2 : sl + n ≤ q.2.2.2.2) (kk : gw_W X (gw_nw σ (gw_I (gw_z X) n (fun _ => 0))) (ce + 1) (sl + n) (pc + 2) L (.ref σ.1 :: st)) : gw_W X σ ce sl pc L (.int x :: st) := by
  subst hx
  intro H locs ls hG hS hL
  refine va_newaK hX.1 hX.2.1 (atype := .int) (hX.2.2.2.2.1 _ hw) rfl d rfl (nI_pos (by omega)) (nI_clamp (by omega)) (by show n * 4 ≤ _; omega) (gw_rc hX h1) (gw_rs hX h2) rfl fun H1 cA e1 z1 o1 hAr hNm => ?_
  have hcA : cA = (gw_z X).2 0 := Option.some.inj (hNm.symm.trans (hX.2.2.2.2.2.1.2 0 _ rfl).2)
  subst hcA
  have h9 := kk H1 locs ls (gw_H_nw hG (by show H1[H.size]? = some (vp_cell _ _); rw [vp_cell_i]; exact e1) z1 o1) ⟨Nat.le_trans hS.1 (by omega), fun x g1 g2 => (o1 x (Nat.lt_of_lt_of_le g1 hS.1)).trans (hS.2.1 x g1 g2), hS.2.2⟩ hL
  rw [← hG.1] at h9
  exact h9
theorem gw_newJ {q : gw_N} (hX : gw_ok X cc own q) (hw : Cond.arrayClass .long ∈ gw_ws) (d : decode cc pc = .ok (.newarray .long, 2)) {x : Int32} (n : Nat) (hx : x = nI n) (hn : n < 100000) (h1 : ce + 1 ≤ q.2.2.2.1) (h2 : sl + n ≤ q.2.2.2.2) (kk : gw_W X (gw_nw σ (gw_J (gw_z X) n (fun _ => 0))) (ce + 1) (sl + n) (pc + 2) L (.ref σ.1 :: st)) : gw_W X σ ce sl pc L (.int x :: st) := by
  subst hx
  intro H locs ls hG hS hL
  refine va_newaK hX.1 hX.2.1 (atype := .long) (hX.2.2.2.2.1 _ hw) rfl d rfl (nI_pos (by omega)) (nI_clamp (by omega)) (by show n * 8 ≤ _; omega) (gw_rc hX h1) (gw_rs hX h2) rfl fun H1 cA e1 z1 o1 hAr hNm => ?_
  have hcA : cA = (gw_z X).2 1 := Option.some.inj (hNm.symm.trans (hX.2.2.2.2.2.1.2 1 _ rfl).2)
  subst hcA
  have h9 := kk H1 locs ls (gw_H_nw hG (by show H1[H.size]? = some (vp_cell _ _); rw [vp_cell_l]; exact e1) z1 o1) ⟨Nat.le_trans hS.1 (by omega), fun x g1 g2 => (o1 x (Nat.lt_of_lt_of_le g1 hS.1)).trans (hS.2.1 x g1 g2), hS.2.2⟩ hL
  rw [← hG.1] at h9
  exact h9
theorem gw_newC {q : gw_N} (hX : gw_ok X cc own q) (hw : Cond.arrayClass .char ∈ gw_ws) (d : decode cc pc = .ok (.newarray .char, 2)) {x : Int32} (n : Nat) (hx : x = nI n) (hn : n < 100000) (h1 : ce + 1 ≤ q.2.2.2.1) (h2 : sl + n ≤ q.2.2.2.2) (kk : gw_W X (gw_nw σ (gw_Ch (gw_z X) n (fun _ => 0))) (ce + 1) (sl + n) (pc + 2) L (.ref σ.1 :: st)) : gw_W X σ ce sl pc L (.int x :: st) := by
  subst hx
  intro H locs ls hG hS hL
  refine va_newaK hX.1 hX.2.1 (atype := .char) (hX.2.2.2.2.1 _ hw) rfl d rfl (nI_pos (by omega)) (nI_clamp (by omega)) (by show n * 2 ≤ _; omega) (gw_rc hX h1) (gw_rs hX h2) rfl fun H1 cA e1 z1 o1 hAr hNm => ?_
  have hcA : cA = (gw_z X).2 2 := Option.some.inj (hNm.symm.trans (hX.2.2.2.2.2.1.2 2 _ rfl).2)
  subst hcA
  have h9 := kk H1 locs ls (gw_H_nw hG (by show H1[H.size]? = some (vp_cell _ _); rw [vp_cell_i]; exact e1) z1 o1) ⟨Nat.le_trans hS.1 (by omega), fun x g1 g2 => (o1 x (Nat.lt_of_lt_of_le g1 hS.1)).trans (hS.2.1 x g1 g2), hS.2.2⟩ hL
  rw [← hG.1] at h9
  exact h9
theorem gw_newQ {q : gw_N} (hX : gw_ok X cc own q) {index j : Nat} {C : String} (hj : (gw_T (gw_z X))[j]? = some ((gw_z X).2 j, .object C)) (hover : va_AO C (gw_s X)) (hk : Cond.classLink own index C ∈ gw_ws) (d : decode cc pc = .ok (.anewarray index, 3)) {x : Int32} (n : Nat) (hx : x = nI n) (hn : n < 100000) (h1 : ce + 1 ≤ q.2.2.2.1) (h2 : sl + n ≤ q.2.2.2.2) (kk : gw_W X (gw_nw σ (.inl ((gw_z X).2 j, n, .inr (.inr (.inr (.inr (fun _ => none))))))) (ce + 1) (sl + n) (pc + 3) L (.ref σ.1 :: st)) : gw_W X σ ce sl pc L (.int x :: st) := by
  subst hx
  intro H locs ls hG hS hL
  have hcl : (nI n).toNatClampNeg = n := nI_clamp (by omega)
  refine W.anew hX.1 hX.2.1 hX.2.2.2.1 (hX.2.2.2.2.1 _ hk) (va_AO.use hover) rfl d rfl (nI_pos (by omega)) (by rw [hcl]; omega) (gw_rc hX h1) (by rw [hcl]; exact gw_rs hX h2) fun cA kA comp f1 f2 f3 f4 => ?_
  obtain ⟨kB, comB, b1, b2, b3, b4⟩ := (hX.2.2.2.2.2.1.2 j _ hj).2
  have hcA : cA = (gw_z X).2 j := Option.some.inj (f1.symm.trans b4)
  subst hcA
  rw [hcl]
  have h9 := kk (H.push ({ cls := (gw_z X).2 j, slots := Array.replicate n .null, vm := .none } : Cell)) locs ls (gw_H_nw hG (by show _ = some (vp_cell _ _); rw [vp_cell_q, Array.getElem?_push_size, ← arrV_new]; rfl) (by rw [Array.size_push]) (fun q hq => by rw [Array.getElem?_push, if_neg (Nat.ne_of_lt hq)])) ⟨Nat.le_trans hS.1 (by rw [Array.size_push]; omega), fun x g1 g2 => (by rw [Array.getElem?_push, if_neg (Nat.ne_of_lt (Nat.lt_of_lt_of_le g1 hS.1))]; exact hS.2.1 x g1 g2), hS.2.2⟩ hL
  rw [← hG.1] at h9
  exact h9
theorem gw_astQ {q : gw_N} (hX : gw_ok X cc own q) {j ci : Nat} {r : vw_C} (hj : (gw_T (gw_z X))[j]? = some ((gw_z X).2 j, .object r.1)) (hc : nv_cl[ci]? = some r) (d : decode cc pc = .ok (.aastore, 1)) {a n v : Nat} {vs : List Value} {f : Nat → Option Nat} (h : σ.2 a = some (.inl ((gw_z X).2 j, n, .inr (.inr (.inr (.inr f)))))) (hv : σ.2 v = some (.inr (ci, vs))) {x : Int32} (i : Nat) (hx : x = nI i) (hi : i < n) (hn : n < 2147483648) (kk : gw_W X (gw_up σ a (.inl ((gw_z X).2 j, n, .inr (.inr (.inr (.inr (va_up f i (some v)))))))) ce sl (pc + 1) L st) : gw_W X σ ce sl pc L (.ref v :: .int x :: .ref a :: st) := by
  subst hx
  intro H locs ls hG hS hL
  have hin : vp_in (nI i) n := vp_in_nI hi hn
  have hlt : (nI i).toNatClampNeg < n := Nat.not_le.mp fun q => hin (Or.inr q)
  have h0 : ¬ nI i < 0 := fun q => hin (Or.inl q)
  have hcl : (nI i).toNatClampNeg = i := nI_clamp (show i < 2 ^ 31 by omega)
  obtain ⟨r', hr', cellV, g1, g2, g3, -⟩ := (hG.2.2 v _ hv).2
  have hcls := (hX.2.2.2.2.2.1.1 ci r hc).2
  obtain ⟨kA, comp, k1, k2, k3, -⟩ := (hX.2.2.2.2.2.1.2 j _ hj).2
  have hcomp : comp = (gw_z X).1.1 ci := Option.some.inj (k3.symm.trans hcls.1)
  subst hcomp
  obtain ⟨kC, hkC, -⟩ := hcls.2
  refine W.aast hX.1 hX.2.1 (hG.2.2 a _ h).2 (fun q h => by cases h) (fun h => by cases h) k1 k2 rfl hkC ⟨h0, by show _ < (arrV _ _ _).slots.size; rw [arrV_size]; exact hlt⟩ g1 (fun q h => by rw [g3] at h; cases h) (by rw [g2]; exact hkC) (by rw [g2]; exact va_assign hcls) rfl rfl d fun H1 e z oq => ?_
  refine kk H1 _ ls (gw_H_up hG h ?_ z oq) (hS.put z oq (hG.2.2 a _ h).1) hL
  show H1[a]? = some (vp_cell _ _)
  rw [e, hcl]
  rw [vp_cell_q, vp_cell_q, arrV_store]
  congr 2
  funext q
  by_cases hq : q = i
  · subst hq
    simp [updV, va_up, va_rf]
  · simp [updV, va_up, hq]
/-- Object's constructor -/
theorem gw_obj {q : gw_N} (hX : gw_ok X cc own q) {idx : Nat} (hl : Cond.methodLink own idx objectInit ∈ gw_ws) (hi : Cond.instanceMethod objectInit ∈ gw_ws) (hc : Cond.code objectInit ⟨#[0xb1]⟩ 1 none ∈ gw_ws) (d : decode cc pc = .ok (.invokespecial idx, 3)) {a : Nat} (h1 : 1 ≤ q.2.1) (h2 : (st.map fun v => v.category).sum + 12 ≤ q.2.2.1) (kk : gw_W X σ ce sl (pc + 3) L st) : gw_W X σ ce sl pc L (.ref a :: st) := by
  intro H locs ls hG hS hL
  have hw := hX.2.2.2.2.1
  refine W.objInit hX.1 hX.2.1 hX.2.2.2.1 (hw _ hl) (hw _ hi) (hw _ hc) rfl (by rw [hX.2.2.1.1]; exact hL.1) rfl d (by rw [show X.1.2.2.2 = _ from hX.2.2.1.2.2.1]; exact h1) (by rw [show X.1.2.2.2 = _ from hX.2.2.1.2.2.1]; show 2 * 0 + (st.map fun v => v.category).sum + 12 ≤ q.2.2.1; omega) ?_
  exact kk H locs ls hG hS hL
end GWR
