/-! arrays, cells, heaps -/
theorem x_rdD_okI {ρ : List Int} {E : xE} (h : x_env ρ E) {lo hi : Int} {r : Int32} (h1 : lo ≤ r.toInt) (h2 : r.toInt ≤ hi) : x_resI ρ (x_rdD 0 E lo hi) r := by
  unfold x_rdD
  split
  next e => exact x_keepI h (show r.toInt = lo by omega)
  next => exact x_freshI h h1 h2
theorem x_rdD_okL {ρ : List Int} {E : xE} (h : x_env ρ E) {lo hi : Int} {r : Int64} (h1 : lo ≤ r.toInt) (h2 : r.toInt ≤ hi) : x_resL ρ (x_rdD 1 E lo hi) r := by
  unfold x_rdD
  split
  next e => exact x_keepL h (show r.toInt = lo by omega)
  next => exact x_freshL h h1 h2
theorem x_rd_okI {ρ : List Int} {E : xE} (h : x_env ρ E) {a : xA} {f : Nat → Int32} (ha : x_arr ρ a.2.1 a.2.2.1 a.2.2.2.1 a.2.2.2.2 (fun j => (f j).toInt)) {i : xV} {k : Int32} (hi : x_ev ρ i.2.1 i.2.2 k.toInt) {q : xV × xE} (hq : x_rd 0 E a i = some q) : vp_in k a.2.1 ∧ x_resI ρ q (f k.toNatClampNeg) := by
  have hb := x_iv_ok h hi
  unfold x_rd at hq
  split at hq
  next hr =>
    obtain ⟨c1, c2, c3⟩ := x_clamp (i := k) (n := a.2.1) (by omega) (by omega)
    refine ⟨c1, ?_⟩
    rw [c2]
    have hj := ha _ c3
    obtain ⟨t, bi, ci⟩ := i
    obtain ⟨ty, n, lo, hi', ov⟩ := a
    cases bi with
    | none =>
      have e : k.toInt = ci := hi
      rw [e] at hj ⊢
      simp only at hq hj
      cases hf : x_find ov ci.toNat with
      | none =>
        rw [hf] at hq hj
        cases hq
        exact x_rdD_okI h hj.1 hj.2
      | some v =>
        rw [hf] at hq hj
        cases hq
        exact x_keepI h hj
    | some s =>
      simp only at hq
      cases ov with
      | nil =>
        cases hq
        exact x_rdD_okI h hj.1 hj.2
      | cons _ _ =>
        cases hq
        exact x_top32_ok h _
  next => cases hq
theorem x_rd_okL {ρ : List Int} {E : xE} (h : x_env ρ E) {a : xA} {f : Nat → Int64} (ha : x_arr ρ a.2.1 a.2.2.1 a.2.2.2.1 a.2.2.2.2 (fun j => (f j).toInt)) {i : xV} {k : Int32} (hi : x_ev ρ i.2.1 i.2.2 k.toInt) {q : xV × xE} (hq : x_rd 1 E a i = some q) : vp_in k a.2.1 ∧ x_resL ρ q (f k.toNatClampNeg) := by
  have hb := x_iv_ok h hi
  unfold x_rd at hq
  split at hq
  next hr =>
    obtain ⟨c1, c2, c3⟩ := x_clamp (i := k) (n := a.2.1) (by omega) (by omega)
    refine ⟨c1, ?_⟩
    rw [c2]
    have hj := ha _ c3
    obtain ⟨t, bi, ci⟩ := i
    obtain ⟨ty, n, lo, hi', ov⟩ := a
    cases bi with
    | none =>
      have e : k.toInt = ci := hi
      rw [e] at hj ⊢
      simp only at hq hj
      cases hf : x_find ov ci.toNat with
      | none =>
        rw [hf] at hq hj
        cases hq
        exact x_rdD_okL h hj.1 hj.2
      | some v =>
        rw [hf] at hq hj
        cases hq
        exact x_keepL h hj
    | some s =>
      simp only at hq
      cases ov with
      | nil =>
        cases hq
        exact x_rdD_okL h hj.1 hj.2
      | cons _ _ =>
        cases hq
        exact x_top64_ok h _
  next => cases hq
/-- a place written; g the numbers ahead, g' behind -/
theorem x_wr_ok {ρ : List Int} {E : xE} (h : x_env ρ E) {t : Nat} {a b : xA} {g g' : Nat → Int} (ha : x_arr ρ a.2.1 a.2.2.1 a.2.2.2.1 a.2.2.2.2 g) {i v : xV} {k : Int32} {r : Int} (hi : x_ev ρ i.2.1 i.2.2 k.toInt) (hv : x_ev ρ v.2.1 v.2.2 r)
    (h1 : g' k.toNatClampNeg = r) (h2 : ∀ j, j ≠ k.toNatClampNeg → g' j = g j)
    (hg : ∀ j, j < a.2.1 → if t = 1 then -9223372036854775808 ≤ g' j ∧ g' j ≤ 9223372036854775807 else -2147483648 ≤ g' j ∧ g' j ≤ 2147483647) (hq : x_wr t E a i v = some b) : vp_in k a.2.1 ∧ b.1 = a.1 ∧ b.2.1 = a.2.1 ∧ x_arr ρ b.2.1 b.2.2.1 b.2.2.2.1 b.2.2.2.2 g' := by
  have hb := x_iv_ok h hi
  have hv' := x_iv_ok h hv
  unfold x_wr at hq
  split at hq
  next hr =>
    obtain ⟨c1, c2, c3⟩ := x_clamp (i := k) (n := a.2.1) (by omega) (by omega)
    refine ⟨c1, ?_⟩
    rw [c2] at h1 h2
    obtain ⟨tv, bi, ci⟩ := i
    obtain ⟨ty, n, lo, hi', ov⟩ := a
    cases bi with
    | none =>
      have e : k.toInt = ci := hi
      rw [e] at h1 h2 c3
      simp only at hq
      split at hq
      next hc =>
        cases hq
        refine ⟨rfl, rfl, fun j hj => ?_⟩
        by_cases hjk : j = ci.toNat
        · subst hjk
          show match x_find ov ci.toNat with
            | some v => x_ev ρ v.2.1 v.2.2 (g' ci.toNat)
            | none => lo ≤ g' ci.toNat ∧ g' ci.toNat ≤ hi'
          have e1 : x_find ov ci.toNat = none := hc.2.2.2
          rw [e1, h1]
          obtain ⟨tw, bw, cw⟩ := v
          have hc1 : lo = hi' := hc.1
          have hc2 : bw = none := hc.2.1
          have hc3 : cw = lo := hc.2.2.1
          subst hc2
          have hv : r = cw := hv
          show lo ≤ r ∧ r ≤ hi'
          omega
        · rw [h2 j hjk]
          exact ha j hj
      next hc =>
        cases hq
        refine ⟨rfl, rfl, fun j hj => ?_⟩
        show match x_find ((ci.toNat, v) :: ov) j with
            | some v => x_ev ρ v.2.1 v.2.2 (g' j)
            | none => lo ≤ g' j ∧ g' j ≤ hi'
        unfold x_find
        by_cases hjk : ci.toNat = j
        · rw [if_pos hjk]
          subst hjk
          show x_ev ρ v.2.1 v.2.2 (g' ci.toNat)
          rw [h1]
          exact hv
        · rw [if_neg hjk, h2 j (fun z => hjk z.symm)]
          exact ha j hj
    | some s =>
      simp only at hq
      cases ov with
      | nil =>
        cases hq
        refine ⟨rfl, rfl, fun j hj => ?_⟩
        show min lo (x_iv E v).1 ≤ g' j ∧ g' j ≤ max hi' (x_iv E v).2
        by_cases hjk : j = k.toInt.toNat
        · subst hjk
          rw [h1]
          omega
        · rw [h2 j hjk]
          have hh : lo ≤ g j ∧ g j ≤ hi' := ha j hj
          omega
      | cons _ _ =>
        simp only at hq
        split at hq
        next ht =>
          cases hq
          refine ⟨rfl, rfl, fun j hj => ?_⟩
          have := hg j hj
          rw [if_pos ht] at this
          exact this
        next ht =>
          cases hq
          refine ⟨rfl, rfl, fun j hj => ?_⟩
          have := hg j hj
          rw [if_neg ht] at this
          exact this
  next => cases hq
def x_cell (ρ : List Int) (ad : List Nat) (sc : Nat) (tys : List (ClassId × FieldType)) (c : xC) (e : va_E) : Prop := match c with
  | .inl a => match a.1 with
    | 0 => ∃ (cA : ClassId) (f : Nat → Int32), e = .inl (cA, a.2.1, .inl f) ∧ (∃ t : Nat, tys[t]? = some (cA, .int)) ∧ x_arr ρ a.2.1 a.2.2.1 a.2.2.2.1 a.2.2.2.2 (fun j => (f j).toInt)
    | 1 => ∃ (cA : ClassId) (f : Nat → Int64), e = .inl (cA, a.2.1, .inr (.inl f)) ∧ (∃ t : Nat, tys[t]? = some (cA, .long)) ∧ x_arr ρ a.2.1 a.2.2.1 a.2.2.2.1 a.2.2.2.2 (fun j => (f j).toInt)
    | _ => ∃ (cA : ClassId) (f : Nat → Int32), e = .inl (cA, a.2.1, .inl f) ∧ (∃ t : Nat, tys[t]? = some (cA, .boolean)) ∧ x_arr ρ a.2.1 a.2.2.1 a.2.2.2.1 a.2.2.2.2 (fun j => (f j).toInt)
  | .inr o => ∃ vs : List Value, e = .inr (o.1, vs) ∧ x_vals ρ ad sc o.2 vs
theorem x_cell.mono {ρ ρ' : List Int} {ad ad' : List Nat} {sc : Nat} {tys tys' : List (ClassId × FieldType)} {c : xC} {e : va_E} (h1 : x_ext ρ ρ') (h2 : x_ext ad ad') (h3 : x_ext tys tys') (h : x_cell ρ ad sc tys c e) : x_cell ρ' ad' sc tys' c e := by
  cases c with
  | inl a =>
    obtain ⟨t, r⟩ := a
    match t, h with
    | 0, ⟨cA, f, e1, ⟨k, hk⟩, g⟩ => exact ⟨cA, f, e1, ⟨k, h3.get hk⟩, g.mono h1⟩
    | 1, ⟨cA, f, e1, ⟨k, hk⟩, g⟩ => exact ⟨cA, f, e1, ⟨k, h3.get hk⟩, g.mono h1⟩
    | _ + 2, ⟨cA, f, e1, ⟨k, hk⟩, g⟩ => exact ⟨cA, f, e1, ⟨k, h3.get hk⟩, g.mono h1⟩
  | inr o =>
    obtain ⟨vs, e1, g⟩ := h
    exact ⟨vs, e1, g.mono h1 h2⟩
def x_heap (ρ : List Int) (ad : List Nat) (sc : Nat) (tys : List (ClassId × FieldType)) (h : List xC) (ws : va_W) : Prop :=
  ad = ws.map (·.1) ∧ ws.length = h.length ∧ ∀ (k : Nat) (c : xC) (q : Nat × va_E), h[k]? = some c → ws[k]? = some q → x_cell ρ ad sc tys c q.2
theorem x_heap.mono {ρ ρ' : List Int} {ad : List Nat} {sc : Nat} {tys tys' : List (ClassId × FieldType)} {h : List xC} {ws : va_W} (h1 : x_ext ρ ρ') (h3 : x_ext tys tys') (g : x_heap ρ ad sc tys h ws) : x_heap ρ' ad sc tys' h ws :=
  ⟨g.1, g.2.1, fun k c q e1 e2 => (g.2.2 k c q e1 e2).mono h1 (x_ext.rf _) h3⟩
/-- a cell by its number -/
theorem x_heap.at {ρ : List Int} {ad : List Nat} {sc : Nat} {tys : List (ClassId × FieldType)} {h : List xC} {ws : va_W} (g : x_heap ρ ad sc tys h ws) {k : Nat} {c : xC} {a : Nat} (hk : h[k]? = some c) (ha : ad[k]? = some a) : ∃ e, ws[k]? = some (a, e) ∧ x_cell ρ ad sc tys c e := by
  have hl : k < ws.length := by rw [g.2.1]; exact (List.getElem?_eq_some_iff.mp hk).1
  have he : ws[k]? = some ws[k] := List.getElem?_eq_getElem hl
  rw [g.1, List.getElem?_map, he] at ha
  have ha : some ws[k].1 = some a := ha
  refine ⟨ws[k].2, ?_, g.2.2 k c _ hk he⟩
  rw [he, ← Option.some.inj ha]
theorem x_heap.set {ρ : List Int} {ad : List Nat} {sc : Nat} {tys : List (ClassId × FieldType)} {h : List xC} {ws : va_W} (g : x_heap ρ ad sc tys h ws) {k a : Nat} {e e' : va_E} {c : xC} (hk : ws[k]? = some (a, e)) (hc : x_cell ρ ad sc tys c e') : x_heap ρ ad sc tys (h.set k c) (ws.set k (a, e')) := by
  have hl : k < ws.length := (List.getElem?_eq_some_iff.mp hk).1
  refine ⟨?_, by rw [List.length_set, List.length_set]; exact g.2.1, fun j d q e1 e2 => ?_⟩
  · rw [g.1]
    apply List.ext_getElem?
    intro j
    rw [List.getElem?_map, List.getElem?_map]
    by_cases hj : k = j
    · subst hj
      rw [List.getElem?_set_self hl, hk]
      rfl
    · rw [List.getElem?_set_ne hj]
  · by_cases hj : k = j
    · subst hj
      rw [List.getElem?_set_self hl] at e2
      rw [List.getElem?_set_self (by rw [← g.2.1]; exact hl)] at e1
      cases e1
      cases e2
      exact hc
    · rw [List.getElem?_set_ne hj] at e1 e2
      exact g.2.2 j d q e1 e2
theorem x_heap.push {ρ : List Int} {ad : List Nat} {sc : Nat} {tys : List (ClassId × FieldType)} {h : List xC} {ws : va_W} (g : x_heap ρ ad sc tys h ws) {a : Nat} {e : va_E} {c : xC} (hc : x_cell ρ (ad ++ [a]) sc tys c e) : x_heap ρ (ad ++ [a]) sc tys (h ++ [c]) (ws ++ [(a, e)]) := by
  refine ⟨by rw [g.1, List.map_append]; rfl, by simp [g.2.1], fun j d q e1 e2 => ?_⟩
  by_cases hj : j < h.length
  · rw [List.getElem?_append_left hj] at e1
    rw [List.getElem?_append_left (by rw [g.2.1]; exact hj)] at e2
    exact (g.2.2 j d q e1 e2).mono (x_ext.rf _) (x_ext.app _ _) (x_ext.rf _)
  · rw [List.getElem?_append_right (by omega)] at e1
    rw [List.getElem?_append_right (by rw [g.2.1]; omega)] at e2
    have hz : j - h.length < 1 := (List.getElem?_eq_some_iff.mp e1).1
    have e0 : j - h.length = 0 := by omega
    rw [e0] at e1
    rw [g.2.1, e0] at e2
    cases e1
    cases e2
    exact hc
theorem x_heap.adlen {ρ : List Int} {ad : List Nat} {sc : Nat} {tys : List (ClassId × FieldType)} {h : List xC} {ws : va_W} (g : x_heap ρ ad sc tys h ws) : ad.length = h.length := by rw [g.1, List.length_map]; exact g.2.1
