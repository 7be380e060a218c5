/-! the operations on abstract values are right -/
theorem x_val.int {ρ : List Int} {ad : List Nat} {sc : Nat} {v : xV} {x : Value} (ht : v.1 = 0) (h : x_val ρ ad sc v x) : ∃ n : Int32, x = .int n ∧ x_ev ρ v.2.1 v.2.2 n.toInt := by
  obtain ⟨t, b, c⟩ := v
  cases ht
  exact h
theorem x_val.long {ρ : List Int} {ad : List Nat} {sc : Nat} {v : xV} {x : Value} (ht : v.1 = 1) (h : x_val ρ ad sc v x) : ∃ n : Int64, x = .long n ∧ x_ev ρ v.2.1 v.2.2 n.toInt := by
  obtain ⟨t, b, c⟩ := v
  cases ht
  exact h
theorem x_val.ref {ρ : List Int} {ad : List Nat} {sc : Nat} {v : xV} {x : Value} (ht : v.1 = 3) (h : x_val ρ ad sc v x) : ∃ a, x = .ref a ∧ ad[v.2.2.toNat]? = some a := by
  obtain ⟨t, b, c⟩ := v
  cases ht
  exact h
theorem x_val.mkI {ρ : List Int} {ad : List Nat} {sc : Nat} {v : xV} {n : Int32} (ht : v.1 = 0) (h : x_ev ρ v.2.1 v.2.2 n.toInt) : x_val ρ ad sc v (.int n) := by
  obtain ⟨t, b, c⟩ := v
  cases ht
  exact ⟨n, rfl, h⟩
theorem x_val.mkL {ρ : List Int} {ad : List Nat} {sc : Nat} {v : xV} {n : Int64} (ht : v.1 = 1) (h : x_ev ρ v.2.1 v.2.2 n.toInt) : x_val ρ ad sc v (.long n) := by
  obtain ⟨t, b, c⟩ := v
  cases ht
  exact ⟨n, rfl, h⟩
/-- what an operation gives: perhaps with one more symbol -/
def x_resI (ρ : List Int) (q : xV × xE) (r : Int32) : Prop := q.1.1 = 0 ∧ ∃ ρ', x_ext ρ ρ' ∧ x_env ρ' q.2 ∧ x_ev ρ' q.1.2.1 q.1.2.2 r.toInt
def x_resL (ρ : List Int) (q : xV × xE) (r : Int64) : Prop := q.1.1 = 1 ∧ ∃ ρ', x_ext ρ ρ' ∧ x_env ρ' q.2 ∧ x_ev ρ' q.1.2.1 q.1.2.2 r.toInt
theorem x_freshI {ρ : List Int} {E : xE} (h : x_env ρ E) {r : Int32} {lo hi : Int} (h1 : lo ≤ r.toInt) (h2 : r.toInt ≤ hi) : x_resI ρ (x_fresh 0 E lo hi) r :=
  ⟨rfl, ρ ++ [r.toInt], x_ext.app _ _, h.new h1 h2, x_ev.new h _⟩
theorem x_freshL {ρ : List Int} {E : xE} (h : x_env ρ E) {r : Int64} {lo hi : Int} (h1 : lo ≤ r.toInt) (h2 : r.toInt ≤ hi) : x_resL ρ (x_fresh 1 E lo hi) r :=
  ⟨rfl, ρ ++ [r.toInt], x_ext.app _ _, h.new h1 h2, x_ev.new h _⟩
theorem x_top32_ok {ρ : List Int} {E : xE} (h : x_env ρ E) (r : Int32) : x_resI ρ (x_top32 E) r := x_freshI h (x_i32 r).1 (x_i32 r).2
theorem x_top64_ok {ρ : List Int} {E : xE} (h : x_env ρ E) (r : Int64) : x_resL ρ (x_top64 E) r := x_freshL h (x_i64 r).1 (x_i64 r).2
theorem x_keepI {ρ : List Int} {E : xE} (h : x_env ρ E) {b : Option Nat} {c : Int} {r : Int32} (g : x_ev ρ b c r.toInt) : x_resI ρ ((0, b, c), E) r := ⟨rfl, ρ, x_ext.rf _, h, g⟩
theorem x_keepL {ρ : List Int} {E : xE} (h : x_env ρ E) {b : Option Nat} {c : Int} {r : Int64} (g : x_ev ρ b c r.toInt) : x_resL ρ ((1, b, c), E) r := ⟨rfl, ρ, x_ext.rf _, h, g⟩
theorem x_of32 {a : Int32} {c : Int} (h : a.toInt = c) : Int32.ofInt c = a := by rw [← h]; exact Int32.ofInt_toInt a
theorem x_of64 {a : Int64} {c : Int} (h : a.toInt = c) : Int64.ofInt c = a := by rw [← h]; exact Int64.ofInt_toInt a
theorem x_bin_ok (op : Int32 → Int32 → Int32) {ρ : List Int} {E : xE} (h : x_env ρ E) {v w : xV} {a b : Int32} (hv : x_ev ρ v.2.1 v.2.2 a.toInt) (hw : x_ev ρ w.2.1 w.2.2 b.toInt) : x_resI ρ (x_bin op E v w) (op a b) := by
  obtain ⟨t, bv, cv⟩ := v
  obtain ⟨u, bw, cw⟩ := w
  cases bv with
  | none =>
    cases bw with
    | none =>
      have e1 : Int32.ofInt cv = a := x_of32 hv
      have e2 : Int32.ofInt cw = b := x_of32 hw
      refine x_keepI h ?_
      show _ = _
      rw [e1, e2]
    | some j => exact x_top32_ok h _
  | some i => exact x_top32_ok h _
theorem x_binL_ok (op : Int64 → Int64 → Int64) {ρ : List Int} {E : xE} (h : x_env ρ E) {v w : xV} {a b : Int64} (hv : x_ev ρ v.2.1 v.2.2 a.toInt) (hw : x_ev ρ w.2.1 w.2.2 b.toInt) : x_resL ρ (x_binL op E v w) (op a b) := by
  obtain ⟨t, bv, cv⟩ := v
  obtain ⟨u, bw, cw⟩ := w
  cases bv with
  | none =>
    cases bw with
    | none =>
      have e1 : Int64.ofInt cv = a := x_of64 hv
      have e2 : Int64.ofInt cw = b := x_of64 hw
      refine x_keepL h ?_
      show _ = _
      rw [e1, e2]
    | some j => exact x_top64_ok h _
  | some i => exact x_top64_ok h _
theorem x_shL_ok (op : Int64 → Int32 → Int64) {ρ : List Int} {E : xE} (h : x_env ρ E) {v w : xV} {a : Int64} {b : Int32} (hv : x_ev ρ v.2.1 v.2.2 a.toInt) (hw : x_ev ρ w.2.1 w.2.2 b.toInt) : x_resL ρ (x_shL op E v w) (op a b) := by
  obtain ⟨t, bv, cv⟩ := v
  obtain ⟨u, bw, cw⟩ := w
  cases bv with
  | none =>
    cases bw with
    | none =>
      have e1 : Int64.ofInt cv = a := x_of64 hv
      have e2 : Int32.ofInt cw = b := x_of32 hw
      refine x_keepL h ?_
      show _ = _
      rw [e1, e2]
    | some j => exact x_top64_ok h _
  | some i => exact x_top64_ok h _
theorem x_cmpL_ok {ρ : List Int} {E : xE} (h : x_env ρ E) {v w : xV} {a b : Int64} (hv : x_ev ρ v.2.1 v.2.2 a.toInt) (hw : x_ev ρ w.2.1 w.2.2 b.toInt) : x_resI ρ (x_cmpL E v w) (lg_cmp a b) := by
  obtain ⟨t, bv, cv⟩ := v
  obtain ⟨u, bw, cw⟩ := w
  cases bv with
  | none =>
    cases bw with
    | none =>
      have e1 : Int64.ofInt cv = a := x_of64 hv
      have e2 : Int64.ofInt cw = b := x_of64 hw
      refine x_keepI h ?_
      show _ = _
      rw [e1, e2]
    | some j => exact x_top32_ok h _
  | some i => exact x_top32_ok h _
theorem x_in32_ok {lo hi : Int} (h : x_in32 lo hi = true) : -2147483648 ≤ lo ∧ hi ≤ 2147483647 := by
  simpa [x_in32, Bool.and_eq_true, decide_eq_true_eq] using h
theorem x_bm {x : Int} (h1 : -2147483648 ≤ x) (h2 : x ≤ 2147483647) : x.bmod (2 ^ 32) = x := Int.bmod_eq_of_le (by omega) (by omega)
theorem x_addc_ok {ρ : List Int} {E : xE} (h : x_env ρ E) {v : xV} {a b : Int32} (hv : x_ev ρ v.2.1 v.2.2 a.toInt) : x_resI ρ (x_addc E v b.toInt) (a + b) := by
  obtain ⟨t, bv, cv⟩ := v
  cases bv with
  | none =>
    have e1 : Int32.ofInt cv = a := x_of32 hv
    have e2 : Int32.ofInt b.toInt = b := x_of32 rfl
    refine x_keepI h ?_
    show _ = _
    rw [e1, e2]
  | some i =>
    unfold x_addc
    dsimp only
    split
    next hr =>
      have hb := x_in32_ok hr
      have hi := x_iv_ok h (v := (t, some i, cv)) hv
      refine x_keepI h ?_
      obtain ⟨q, g1, g2⟩ := hv
      refine ⟨q, g1, ?_⟩
      rw [Int32.toInt_add, x_bm (by omega) (by omega)]
      have g2 : a.toInt = q + cv := g2
      omega
    next => exact x_top32_ok h _
theorem x_subc_ok {ρ : List Int} {E : xE} (h : x_env ρ E) {v : xV} {a b : Int32} (hv : x_ev ρ v.2.1 v.2.2 a.toInt) : x_resI ρ (x_subc E v b.toInt) (a - b) := by
  obtain ⟨t, bv, cv⟩ := v
  cases bv with
  | none =>
    have e1 : Int32.ofInt cv = a := x_of32 hv
    have e2 : Int32.ofInt b.toInt = b := x_of32 rfl
    refine x_keepI h ?_
    show _ = _
    rw [e1, e2]
  | some i =>
    unfold x_subc
    dsimp only
    split
    next hr =>
      have hb := x_in32_ok hr
      have hi := x_iv_ok h (v := (t, some i, cv)) hv
      refine x_keepI h ?_
      obtain ⟨q, g1, g2⟩ := hv
      refine ⟨q, g1, ?_⟩
      rw [Int32.toInt_sub, x_bm (by omega) (by omega)]
      have g2 : a.toInt = q + cv := g2
      omega
    next => exact x_top32_ok h _
theorem x_add_ok {ρ : List Int} {E : xE} (h : x_env ρ E) {v w : xV} {a b : Int32} (hv : x_ev ρ v.2.1 v.2.2 a.toInt) (hw : x_ev ρ w.2.1 w.2.2 b.toInt) : x_resI ρ (x_add E v w) (a + b) := by
  have h1 := x_iv_ok h hv
  have h2 := x_iv_ok h hw
  obtain ⟨t, bv, cv⟩ := v
  obtain ⟨u, bw, cw⟩ := w
  cases bw with
  | none =>
    have hw : b.toInt = cw := hw
    subst hw
    exact x_addc_ok h hv
  | some j =>
    cases bv with
    | none =>
      have hv : a.toInt = cv := hv
      subst hv
      rw [Int32.add_comm]
      exact x_addc_ok h hw
    | some i =>
      unfold x_add
      dsimp only
      split
      next hr =>
        have hb := x_in32_ok hr
        have e : (a + b).toInt = a.toInt + b.toInt := by rw [Int32.toInt_add, x_bm (by omega) (by omega)]
        exact x_freshI h (by omega) (by omega)
      next => exact x_top32_ok h _
theorem x_sub_ok {ρ : List Int} {E : xE} (h : x_env ρ E) {v w : xV} {a b : Int32} (hv : x_ev ρ v.2.1 v.2.2 a.toInt) (hw : x_ev ρ w.2.1 w.2.2 b.toInt) : x_resI ρ (x_sub E v w) (a - b) := by
  have h1 := x_iv_ok h hv
  have h2 := x_iv_ok h hw
  obtain ⟨t, bv, cv⟩ := v
  obtain ⟨u, bw, cw⟩ := w
  cases bw with
  | none =>
    have hw : b.toInt = cw := hw
    subst hw
    exact x_subc_ok h hv
  | some j =>
    unfold x_sub
    dsimp only
    split
    next hr =>
      have hb := x_in32_ok hr
      have e : (a - b).toInt = a.toInt - b.toInt := by rw [Int32.toInt_sub, x_bm (by omega) (by omega)]
      exact x_freshI h (by omega) (by omega)
    next => exact x_top32_ok h _
theorem x_l2i_ok {ρ : List Int} {E : xE} (h : x_env ρ E) {v : xV} {a : Int64} (hv : x_ev ρ v.2.1 v.2.2 a.toInt) : x_resI ρ (x_l2i E v) a.toInt32 := by
  obtain ⟨t, bv, cv⟩ := v
  cases bv with
  | none =>
    have e1 : Int64.ofInt cv = a := x_of64 hv
    refine x_keepI h ?_
    show _ = _
    rw [e1]
  | some i =>
    unfold x_l2i
    dsimp only
    split
    next hr =>
      have hb := x_in32_ok hr
      have hi := x_iv_ok h (v := (t, some i, cv)) hv
      refine x_keepI h ?_
      rw [Int64.toInt_toInt32, x_bm (by omega) (by omega)]
      exact hv
    next => exact x_top32_ok h _
theorem x_i2l_ok {ρ : List Int} {v : xV} {a : Int32} (hv : x_ev ρ v.2.1 v.2.2 a.toInt) : x_ev ρ v.2.1 v.2.2 a.toInt64.toInt := by
  rw [Int32.toInt_toInt64]
  exact hv
theorem x_mn_ok {ρ : List Int} {E : xE} (h : x_env ρ E) {v w : xV} {a b : Int32} (hv : x_ev ρ v.2.1 v.2.2 a.toInt) (hw : x_ev ρ w.2.1 w.2.2 b.toInt) : x_resI ρ (x_mn E v w) (if b < a then b else a) := by
  have h1 := x_iv_ok h hv
  have h2 := x_iv_ok h hw
  have e : (if b < a then b else a).toInt = min a.toInt b.toInt := by
    split
    next q => have := Int32.lt_iff_toInt_lt.mp q; omega
    next q => have : ¬ b.toInt < a.toInt := fun z => q (Int32.lt_iff_toInt_lt.mpr z); omega
  obtain ⟨t, bv, cv⟩ := v
  obtain ⟨u, bw, cw⟩ := w
  cases bv with
  | none =>
    cases bw with
    | none =>
      have hv : a.toInt = cv := hv
      have hw : b.toInt = cw := hw
      refine x_keepI h ?_
      show _ = min cv cw
      rw [e, hv, hw]
    | some j => exact x_freshI h (by omega) (by omega)
  | some i => exact x_freshI h (by omega) (by omega)
theorem x_mx_ok {ρ : List Int} {E : xE} (h : x_env ρ E) {v w : xV} {a b : Int32} (hv : x_ev ρ v.2.1 v.2.2 a.toInt) (hw : x_ev ρ w.2.1 w.2.2 b.toInt) : x_resI ρ (x_mx E v w) (if a < b then b else a) := by
  have h1 := x_iv_ok h hv
  have h2 := x_iv_ok h hw
  have e : (if a < b then b else a).toInt = max a.toInt b.toInt := by
    split
    next q => have := Int32.lt_iff_toInt_lt.mp q; omega
    next q => have : ¬ a.toInt < b.toInt := fun z => q (Int32.lt_iff_toInt_lt.mpr z); omega
  obtain ⟨t, bv, cv⟩ := v
  obtain ⟨u, bw, cw⟩ := w
  cases bv with
  | none =>
    cases bw with
    | none =>
      have hv : a.toInt = cv := hv
      have hw : b.toInt = cw := hw
      refine x_keepI h ?_
      show _ = max cv cw
      rw [e, hv, hw]
    | some j => exact x_freshI h (by omega) (by omega)
  | some i => exact x_freshI h (by omega) (by omega)
theorem x_neg_ok {c : ClassFile.Cond} {x y : Int} (h : ¬ x_holds c x y) : x_holds (x_neg c) x y := by
  cases c <;> simp only [x_neg, x_holds] at h ⊢ <;> first | exact h | exact Decidable.of_not_not h
theorem x_alt_ok {ρ : List Int} {E : xE} (h : x_env ρ E) {c : ClassFile.Cond} {v w : xV} {a b : Int} (hv : x_ev ρ v.2.1 v.2.2 a) (hw : x_ev ρ w.2.1 w.2.2 b) (ha : -x_M ≤ a ∧ a ≤ x_M) (hb : -x_M ≤ b ∧ b ≤ x_M) (hc : c ≠ .ne) (hh : x_holds c a b) : ∃ E' ∈ x_alt E c v w, x_env ρ E' := by
  have h1 := x_iv_ok h hv
  have h2 := x_iv_ok h hw
  have hcan : x_can c (x_iv E v) (x_iv E w) = true := by
    cases c <;> simp only [x_can, x_holds, Bool.and_eq_true, decide_eq_true_eq] at hh ⊢ <;> omega
  refine ⟨x_asm E c v w, by unfold x_alt; rw [if_pos hcan]; exact List.mem_singleton.mpr rfl, ?_⟩
  cases c <;> simp only [x_asm, x_holds] at hh ⊢
  · exact x_cap_ok (x_cap_ok h hv (by omega) (by omega)) hw (by omega) (by omega)
  · exact h
  · exact x_cap_ok (x_cap_ok h hv (by omega) (by omega)) hw (by omega) (by omega)
  · exact x_cap_ok (x_cap_ok h hv (by omega) (by omega)) hw (by omega) (by omega)
  · exact x_cap_ok (x_cap_ok h hv (by omega) (by omega)) hw (by omega) (by omega)
  · exact x_cap_ok (x_cap_ok h hv (by omega) (by omega)) hw (by omega) (by omega)
theorem x_ev_inj {ρ : List Int} {q : Option Nat × Int} {a b : Int} (h : x_ev ρ q.1 q.2 a) (g : x_ev ρ q.1 q.2 b) : a = b := by
  obtain ⟨o, c⟩ := q
  cases o with
  | none => exact Eq.trans h (Eq.symm g)
  | some i =>
    obtain ⟨x, h1, h2⟩ := h
    obtain ⟨y, g1, g2⟩ := g
    cases h1.symm.trans g1
    exact h2.trans g2.symm
theorem x_alts_ok {ρ : List Int} {E : xE} (h : x_env ρ E) {c : ClassFile.Cond} {v w : xV} {a b : Int} (hv : x_ev ρ v.2.1 v.2.2 a) (hw : x_ev ρ w.2.1 w.2.2 b) (ha : -x_M ≤ a ∧ a ≤ x_M) (hb : -x_M ≤ b ∧ b ≤ x_M) (hh : x_holds c a b) : ∃ E' ∈ x_alts E c v w, x_env ρ E' := by
  by_cases hc : c = .ne
  · subst hc
    have hne : ¬ v.2 = w.2 := fun e => hh (x_ev_inj (q := v.2) hv (by rw [e]; exact hw))
    show ∃ E' ∈ (if v.2 = w.2 then [] else x_alt E .lt v w ++ x_alt E .gt v w), x_env ρ E'
    rw [if_neg hne]
    have hh : ¬ a = b := hh
    rcases Int.lt_or_gt_of_ne hh with g | g
    · obtain ⟨E', m, k⟩ := x_alt_ok h (c := .lt) hv hw ha hb (by decide) g
      exact ⟨E', List.mem_append_left _ m, k⟩
    · obtain ⟨E', m, k⟩ := x_alt_ok h (c := .gt) hv hw ha hb (by decide) g
      exact ⟨E', List.mem_append_right _ m, k⟩
  · obtain ⟨E', m, k⟩ := x_alt_ok h hv hw ha hb hc hh
    refine ⟨E', ?_, k⟩
    cases c <;> first | exact m | exact absurd rfl hc
theorem x_b32 (n : Int32) : -x_M ≤ n.toInt ∧ n.toInt ≤ x_M := by
  have := x_i32 n
  simp only [x_M]
  omega
theorem x_nz_ok {ρ : List Int} {E : xE} (h : x_env ρ E) {w : xV} {b : Int} (hw : x_ev ρ w.2.1 w.2.2 b) (hz : x_nz E w = true) : b ≠ 0 := by
  have h2 := x_iv_ok h hw
  simp only [x_nz, Bool.or_eq_true, decide_eq_true_eq] at hz
  omega
/-- arrays -/
def x_arr (ρ : List Int) (n : Nat) (lo hi : Int) (ov : List (Nat × xV)) (g : Nat → Int) : Prop := ∀ j, j < n → match x_find ov j with
  | some v => x_ev ρ v.2.1 v.2.2 (g j)
  | none => lo ≤ g j ∧ g j ≤ hi
theorem x_arr.mono {ρ ρ' : List Int} {n : Nat} {lo hi : Int} {ov : List (Nat × xV)} {g : Nat → Int} (h : x_ext ρ ρ') (k : x_arr ρ n lo hi ov g) : x_arr ρ' n lo hi ov g := by
  intro j hj
  have := k j hj
  revert this
  cases x_find ov j with
  | none => exact id
  | some v => exact fun q => q.mono h
theorem x_clamp {i : Int32} {n : Nat} (h1 : 0 ≤ i.toInt) (h2 : i.toInt < n) : vp_in i n ∧ i.toNatClampNeg = i.toInt.toNat ∧ i.toInt.toNat < n := by
  refine ⟨vp_in_iff.mpr ⟨h1, h2⟩, ?_, by omega⟩
  rfl
