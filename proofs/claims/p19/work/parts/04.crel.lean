/-! the pure machine's values and heaps in the real one -/
def c_val (ad : List Nat) (sc : Nat) (v : cV) (x : Value) : Prop := match v.1 with
  | 0 => ∃ n : Int32, x = .int n ∧ n.toInt = v.2
  | 1 => ∃ n : Int64, x = .long n ∧ n.toInt = v.2
  | 2 => x = .null
  | 3 => 0 ≤ v.2 ∧ ∃ a, x = .ref a ∧ ad[v.2.toNat]? = some a
  | _ => x = .ref sc
theorem c_val.mono {ad ad' : List Nat} {sc : Nat} {v : cV} {x : Value} (h2 : x_ext ad ad') (h : c_val ad sc v x) : c_val ad' sc v x := by
  obtain ⟨t, c⟩ := v
  match t, h with
  | 0, h => exact h
  | 1, h => exact h
  | 2, h => exact h
  | 3, ⟨h0, a, e, g⟩ => exact ⟨h0, a, e, h2.get g⟩
  | _ + 4, h => exact h
theorem c_val.int {ad : List Nat} {sc : Nat} {v : cV} {x : Value} (ht : v.1 = 0) (h : c_val ad sc v x) : ∃ n : Int32, x = .int n ∧ n.toInt = v.2 := by
  obtain ⟨t, c⟩ := v
  cases ht
  exact h
theorem c_val.long {ad : List Nat} {sc : Nat} {v : cV} {x : Value} (ht : v.1 = 1) (h : c_val ad sc v x) : ∃ n : Int64, x = .long n ∧ n.toInt = v.2 := by
  obtain ⟨t, c⟩ := v
  cases ht
  exact h
theorem c_val.ref {ad : List Nat} {sc : Nat} {v : cV} {x : Value} (ht : v.1 = 3) (h : c_val ad sc v x) : ∃ a, x = .ref a ∧ ad[v.2.toNat]? = some a := by
  obtain ⟨t, c⟩ := v
  cases ht
  exact h.2
theorem c_val.mkI {ad : List Nat} {sc : Nat} {n : Int32} {z : Int} (h : n.toInt = z) : c_val ad sc (0, z) (.int n) := ⟨n, rfl, h⟩
theorem c_val.mkL {ad : List Nat} {sc : Nat} {n : Int64} {z : Int} (h : n.toInt = z) : c_val ad sc (1, z) (.long n) := ⟨n, rfl, h⟩
theorem c_val.cat {ad : List Nat} {sc : Nat} {v : cV} {x : Value} (h : c_val ad sc v x) : x.category = c_cat v := by
  obtain ⟨t, c⟩ := v
  match t, h with
  | 0, ⟨n, e, g⟩ => subst e; rfl
  | 1, ⟨n, e, g⟩ => subst e; rfl
  | 2, h => cases h; rfl
  | 3, ⟨h0, a, e, g⟩ => subst e; rfl
  | t + 4, h =>
    cases h
    show 1 = c_cat (t + 4, c)
    have : ¬ (t + 4 = 1) := by omega
    simp [c_cat, this]
def c_vals (ad : List Nat) (sc : Nat) : List cV → List Value → Prop
  | [], [] => True
  | v :: vs, x :: xs => c_val ad sc v x ∧ c_vals ad sc vs xs
  | _, _ => False
theorem c_vals.mono {ad ad' : List Nat} {sc : Nat} (h2 : x_ext ad ad') : ∀ {vs : List cV} {xs : List Value}, c_vals ad sc vs xs → c_vals ad' sc vs xs
  | [], [], _ => trivial
  | _ :: _, _ :: _, h => ⟨h.1.mono h2, c_vals.mono h2 h.2⟩
  | [], _ :: _, h => h.elim
  | _ :: _, [], h => h.elim
theorem c_vals.len {ad : List Nat} {sc : Nat} : ∀ {vs : List cV} {xs : List Value}, c_vals ad sc vs xs → vs.length = xs.length
  | [], [], _ => rfl
  | _ :: _, _ :: _, h => by simp [c_vals.len h.2]
  | [], _ :: _, h => h.elim
  | _ :: _, [], h => h.elim
theorem c_vals.nil {ad : List Nat} {sc : Nat} {xs : List Value} (h : c_vals ad sc [] xs) : xs = [] := by
  cases xs with
  | nil => rfl
  | cons _ _ => exact h.elim
theorem c_vals.cons {ad : List Nat} {sc : Nat} {v : cV} {vs : List cV} {xs : List Value} (h : c_vals ad sc (v :: vs) xs) : ∃ x ys, xs = x :: ys ∧ c_val ad sc v x ∧ c_vals ad sc vs ys := by
  cases xs with
  | nil => exact h.elim
  | cons x ys => exact ⟨x, ys, rfl, h.1, h.2⟩
theorem c_vals.app {ad : List Nat} {sc : Nat} : ∀ {vs ws : List cV} {xs ys : List Value}, c_vals ad sc vs xs → c_vals ad sc ws ys → c_vals ad sc (vs ++ ws) (xs ++ ys)
  | [], _, [], _, _, g => g
  | _ :: _, _, _ :: _, _, h, g => ⟨h.1, c_vals.app h.2 g⟩
  | [], _, _ :: _, _, h, _ => h.elim
  | _ :: _, _, [], _, h, _ => h.elim
theorem c_vals.rev {ad : List Nat} {sc : Nat} : ∀ {vs : List cV} {xs : List Value}, c_vals ad sc vs xs → c_vals ad sc vs.reverse xs.reverse
  | [], [], _ => trivial
  | v :: vs, x :: xs, h => by
    rw [List.reverse_cons, List.reverse_cons]
    exact c_vals.app (c_vals.rev h.2) ⟨h.1, trivial⟩
  | [], _ :: _, h => h.elim
  | _ :: _, [], h => h.elim
theorem c_vals.take {ad : List Nat} {sc : Nat} : ∀ {vs : List cV} {xs : List Value} (n : Nat), c_vals ad sc vs xs → c_vals ad sc (vs.take n) (xs.take n)
  | _, _, 0, _ => trivial
  | [], [], _ + 1, _ => trivial
  | _ :: _, _ :: _, n + 1, h => ⟨h.1, c_vals.take n h.2⟩
  | [], _ :: _, _ + 1, h => h.elim
  | _ :: _, [], _ + 1, h => h.elim
theorem c_vals.drop {ad : List Nat} {sc : Nat} : ∀ {vs : List cV} {xs : List Value} (n : Nat), c_vals ad sc vs xs → c_vals ad sc (vs.drop n) (xs.drop n)
  | _, _, 0, h => h
  | [], [], _ + 1, _ => trivial
  | _ :: _, _ :: _, n + 1, h => c_vals.drop n h.2
  | [], _ :: _, _ + 1, h => h.elim
  | _ :: _, [], _ + 1, h => h.elim
theorem c_cats {ad : List Nat} {sc : Nat} : ∀ {vs : List cV} {xs : List Value}, c_vals ad sc vs xs → (xs.map fun v => v.category).sum = (vs.map c_cat).sum
  | [], [], _ => rfl
  | v :: vs, x :: xs, g => by
    rw [List.map_cons, List.map_cons, List.sum_cons, List.sum_cons, g.1.cat, c_cats g.2]
  | [], _ :: _, g => g.elim
  | _ :: _, [], g => g.elim
def c_locs (ad : List Nat) (sc : Nat) : List (Nat × cV) → List (Nat × Value) → Prop
  | [], [] => True
  | v :: vs, x :: xs => v.1 = x.1 ∧ c_val ad sc v.2 x.2 ∧ c_locs ad sc vs xs
  | _, _ => False
theorem c_locs.mono {ad ad' : List Nat} {sc : Nat} (h2 : x_ext ad ad') : ∀ {vs : List (Nat × cV)} {xs : List (Nat × Value)}, c_locs ad sc vs xs → c_locs ad' sc vs xs
  | [], [], _ => trivial
  | _ :: _, _ :: _, h => ⟨h.1, h.2.1.mono h2, c_locs.mono h2 h.2.2⟩
  | [], _ :: _, h => h.elim
  | _ :: _, [], h => h.elim
theorem c_locs.find {ad : List Nat} {sc : Nat} {i : Nat} {v : cV} : ∀ {vs : List (Nat × cV)} {xs : List (Nat × Value)}, c_locs ad sc vs xs → c_find vs i = some v → ∃ (x : Value) (k : Nat), xs[k]? = some (i, x) ∧ c_val ad sc v x
  | [], [], _, e => by simp [c_find] at e
  | q :: vs, y :: xs, h, e => by
    unfold c_find at e
    by_cases hq : q.1 = i
    · rw [if_pos hq] at e
      obtain ⟨a, b⟩ := y
      have h1 : q.1 = a := h.1
      cases e
      exact ⟨b, 0, by simp [← h1, hq], h.2.1⟩
    · rw [if_neg hq] at e
      obtain ⟨x, k, g1, g2⟩ := c_locs.find h.2.2 e
      exact ⟨x, k + 1, by simpa using g1, g2⟩
  | [], _ :: _, h, _ => h.elim
  | _ :: _, [], h, _ => h.elim
theorem c_locs.filter {ad : List Nat} {sc : Nat} (F : Nat → Nat → Bool) : ∀ {vs : List (Nat × cV)} {xs : List (Nat × Value)}, c_locs ad sc vs xs → c_locs ad sc (vs.filter (fun q => F q.1 (c_cat q.2))) (xs.filter (fun q => F q.1 q.2.category))
  | [], [], _ => trivial
  | q :: vs, y :: xs, h => by
    obtain ⟨a, v⟩ := q
    obtain ⟨b, x⟩ := y
    have h1 : a = b := h.1
    subst h1
    have hc : x.category = c_cat v := h.2.1.cat
    have ih := c_locs.filter F h.2.2
    by_cases hF : F a (c_cat v) = true
    · rw [List.filter_cons_of_pos (by simpa using hF), List.filter_cons_of_pos (by simpa [hc] using hF)]
      exact ⟨rfl, h.2.1, ih⟩
    · rw [List.filter_cons_of_neg (by simpa using hF), List.filter_cons_of_neg (by simpa [hc] using hF)]
      exact ih
  | [], _ :: _, h => h.elim
  | _ :: _, [], h => h.elim
theorem c_locs.put1 {ad : List Nat} {sc : Nat} {vs : List (Nat × cV)} {xs : List (Nat × Value)} {i : Nat} {v : cV} {x : Value} (h : c_locs ad sc vs xs) (g : c_val ad sc v x) :
    c_locs ad sc (c_put1 vs i v) ((i, x) :: xs.filter (fun q => !(q.1 == i) && !(q.1 + 1 == i && q.2.category == 2))) :=
  ⟨rfl, g, c_locs.filter (fun a c => !(a == i) && !(a + 1 == i && c == 2)) h⟩
theorem c_locs.put2 {ad : List Nat} {sc : Nat} {vs : List (Nat × cV)} {xs : List (Nat × Value)} {i : Nat} {v : cV} {x : Value} (h : c_locs ad sc vs xs) (g : c_val ad sc v x) :
    c_locs ad sc (c_put2 vs i v) ((i, x) :: xs.filter (fun q => !(q.1 == i) && (!(q.1 == i + 1) && !(q.1 + 1 == i && q.2.category == 2)))) :=
  ⟨rfl, g, c_locs.filter (fun a c => !(a == i) && (!(a == i + 1) && !(a + 1 == i && c == 2))) h⟩
theorem c_vals.args {ad : List Nat} {sc : Nat} : ∀ {vs : List cV} {xs : List Value} (i : Nat), c_vals ad sc vs xs → c_locs ad sc (c_args i vs) (lv_args i xs)
  | [], [], _, _ => trivial
  | v :: vs, x :: xs, i, h => by
    have hc : x.category = c_cat v := h.1.cat
    refine ⟨rfl, h.1, ?_⟩
    show c_locs ad sc (c_args (if c_cat v = 2 then i + 2 else i + 1) vs) (lv_args (if x.category = 2 then i + 2 else i + 1) xs)
    rw [hc]
    exact c_vals.args _ h.2
  | [], _ :: _, _, h => h.elim
  | _ :: _, [], _, h => h.elim
def c_cell (P : xP) (ad : List Nat) (sc : Nat) (tys : List (ClassId × FieldType)) (K : cK) (g : Nat → Int) (e : va_E) : Prop := match K with
  | .inl a => match a.1 with
    | 0 => ∃ (cA : ClassId) (f : Nat → Int32), e = .inl (cA, a.2, .inl f) ∧ (∃ t : Nat, tys[t]? = some (cA, .int)) ∧ ∀ j, j < a.2 → (f j).toInt = g j
    | 1 => ∃ (cA : ClassId) (f : Nat → Int64), e = .inl (cA, a.2, .inr (.inl f)) ∧ (∃ t : Nat, tys[t]? = some (cA, .long)) ∧ ∀ j, j < a.2 → (f j).toInt = g j
    | _ => ∃ (cA : ClassId) (f : Nat → Int32), e = .inl (cA, a.2, .inl f) ∧ (∃ t : Nat, tys[t]? = some (cA, .boolean)) ∧ ∀ j, j < a.2 → (f j).toInt = g j
  | .inr ci => ∃ vs : List Value, e = .inr (ci, vs) ∧ vs.length = (x_cls P ci).length ∧ ∀ f kd : Nat, (x_cls P ci)[f]? = some kd → ∃ x, vs[f]? = some x ∧ c_val ad sc (c_fld kd (g f)) x
theorem c_cell.mono {P : xP} {ad ad' : List Nat} {sc : Nat} {tys tys' : List (ClassId × FieldType)} {K : cK} {g : Nat → Int} {e : va_E} (h2 : x_ext ad ad') (h3 : x_ext tys tys') (h : c_cell P ad sc tys K g e) : c_cell P ad' sc tys' K g e := by
  cases K with
  | inl a =>
    obtain ⟨t, r⟩ := a
    match t, h with
    | 0, ⟨cA, f, e1, ⟨k, hk⟩, g⟩ => exact ⟨cA, f, e1, ⟨k, h3.get hk⟩, g⟩
    | 1, ⟨cA, f, e1, ⟨k, hk⟩, g⟩ => exact ⟨cA, f, e1, ⟨k, h3.get hk⟩, g⟩
    | _ + 2, ⟨cA, f, e1, ⟨k, hk⟩, g⟩ => exact ⟨cA, f, e1, ⟨k, h3.get hk⟩, g⟩
  | inr o =>
    obtain ⟨vs, e1, e2, g⟩ := h
    refine ⟨vs, e1, e2, fun f kd hk => ?_⟩
    obtain ⟨x, x1, x2⟩ := g f kd hk
    exact ⟨x, x1, x2.mono h2⟩
def c_heap (P : xP) (ad : List Nat) (sc : Nat) (tys : List (ClassId × FieldType)) (h : cH) (ws : va_W) : Prop :=
  ad = ws.map (·.1) ∧ ws.length = h.1.length ∧ ∀ (k : Nat) (K : cK) (q : Nat × va_E), h.1[k]? = some K → ws[k]? = some q → c_cell P ad sc tys K (h.2 k) q.2
theorem c_heap.mono {P : xP} {ad : List Nat} {sc : Nat} {tys tys' : List (ClassId × FieldType)} {h : cH} {ws : va_W} (h3 : x_ext tys tys') (g : c_heap P ad sc tys h ws) : c_heap P ad sc tys' h ws :=
  ⟨g.1, g.2.1, fun k c q e1 e2 => (g.2.2 k c q e1 e2).mono (x_ext.rf _) h3⟩
theorem c_heap.at {P : xP} {ad : List Nat} {sc : Nat} {tys : List (ClassId × FieldType)} {h : cH} {ws : va_W} (g : c_heap P ad sc tys h ws) {k : Nat} {K : cK} {a : Nat} (hk : h.1[k]? = some K) (ha : ad[k]? = some a) : ∃ e, ws[k]? = some (a, e) ∧ c_cell P ad sc tys K (h.2 k) e := by
  have hl : k < ws.length := by rw [g.2.1]; exact (List.getElem?_eq_some_iff.mp hk).1
  have he : ws[k]? = some ws[k] := List.getElem?_eq_getElem hl
  rw [g.1, List.getElem?_map, he] at ha
  have ha : some ws[k].1 = some a := ha
  refine ⟨ws[k].2, ?_, g.2.2 k K _ hk he⟩
  rw [he, ← Option.some.inj ha]
theorem c_heap.set {P : xP} {ad : List Nat} {sc : Nat} {tys : List (ClassId × FieldType)} {T : List cK} {M M' : cM} {ws : va_W} (g : c_heap P ad sc tys (T, M) ws) {k a : Nat} {e e' : va_E} {K : cK} (hk : ws[k]? = some (a, e)) (hT : T[k]? = some K) (hM : ∀ j, j ≠ k → M' j = M j) (hc : c_cell P ad sc tys K (M' k) e') : c_heap P ad sc tys (T, M') (ws.set k (a, e')) := by
  have hl : k < ws.length := (List.getElem?_eq_some_iff.mp hk).1
  refine ⟨?_, by rw [List.length_set]; exact g.2.1, fun j d q e1 e2 => ?_⟩
  · rw [g.1]
    apply List.ext_getElem?
    intro j
    rw [List.getElem?_map, List.getElem?_map]
    by_cases hj : k = j
    · subst hj
      rw [List.getElem?_set_self hl, hk]
      rfl
    · rw [List.getElem?_set_ne hj]
  · by_cases hj : k = j
    · subst hj
      rw [List.getElem?_set_self hl] at e2
      have e1 : T[k]? = some d := e1
      rw [hT] at e1
      cases e1
      cases e2
      exact hc
    · rw [List.getElem?_set_ne hj] at e2
      have := g.2.2 j d q e1 e2
      rw [show (T, M').2 j = (T, M).2 j from hM j (fun z => hj z.symm)]
      exact this
theorem c_heap.push {P : xP} {ad : List Nat} {sc : Nat} {tys : List (ClassId × FieldType)} {T : List cK} {M : cM} {ws : va_W} (g : c_heap P ad sc tys (T, M) ws) {a : Nat} {e : va_E} {K : cK} {f : Nat → Int} (hc : c_cell P (ad ++ [a]) sc tys K f e) : c_heap P (ad ++ [a]) sc tys (T ++ [K], c_new M T.length f) (ws ++ [(a, e)]) := by
  have hlen : ws.length = T.length := g.2.1
  refine ⟨by rw [g.1, List.map_append]; rfl, by simp [hlen], fun j d q e1 e2 => ?_⟩
  have e1 : (T ++ [K])[j]? = some d := e1
  show c_cell P (ad ++ [a]) sc tys d (c_new M T.length f j) q.2
  by_cases hj : j < T.length
  · rw [List.getElem?_append_left hj] at e1
    rw [List.getElem?_append_left (by rw [hlen]; exact hj)] at e2
    have e3 : c_new M T.length f j = M j := by
      funext b
      have : ¬ j = T.length := by omega
      simp [c_new, this]
    rw [e3]
    exact (g.2.2 j d q e1 e2).mono (x_ext.app _ _) (x_ext.rf _)
  · rw [List.getElem?_append_right (by omega)] at e1
    rw [List.getElem?_append_right (by rw [hlen]; omega)] at e2
    have hz : j - T.length < 1 := (List.getElem?_eq_some_iff.mp e1).1
    have e0 : j - T.length = 0 := by omega
    have ej : j = T.length := by omega
    rw [e0] at e1
    rw [hlen, e0] at e2
    cases e1
    cases e2
    have e3 : c_new M T.length f j = f := by
      funext b
      simp [c_new, ej]
    rw [e3]
    exact hc
theorem c_heap.adlen {P : xP} {ad : List Nat} {sc : Nat} {tys : List (ClassId × FieldType)} {h : cH} {ws : va_W} (g : c_heap P ad sc tys h ws) : ad.length = h.1.length := by rw [g.1, List.length_map]; exact g.2.1
/-- a stored value is what the field then shows -/
theorem c_fit_ok {ad : List Nat} {sc : Nat} {kd : Nat} {v : cV} {x : Value} {ty : FieldType} (hv : c_val ad sc v x) (hf : c_fit kd v = true) (ht : x_tyk (kd % 10) ty) : narrow ty x = x ∧ fits ty x = true ∧ c_val ad sc (c_fld kd (c_enc v)) x := by
  unfold c_fit at hf
  unfold c_fld
  generalize kd % 10 = k at hf ht
  match k, hf, ht with
  | 0, hf, ht =>
    have ht : ty = .int := ht
    have h0 : v.1 = 0 := by simpa using hf
    obtain ⟨n, rfl, g⟩ := hv.int h0
    subst ht
    exact ⟨rfl, rfl, n, rfl, by simp [c_enc, h0, g]⟩
  | 1, hf, ht =>
    have ht : ty = .long := ht
    have h0 : v.1 = 1 := by simpa using hf
    obtain ⟨n, rfl, g⟩ := hv.long h0
    subst ht
    exact ⟨rfl, rfl, n, rfl, by simp [c_enc, h0, g]⟩
  | 2, hf, ht =>
    obtain ⟨t, c⟩ := v
    have ht : (∃ n, ty = .object n) ∨ ∃ t, ty = .array t := ht
    simp only [Bool.or_eq_true, beq_iff_eq] at hf
    rcases hf with h1 | h1
    · subst h1
      have hv : x = .null := hv
      subst hv
      have e : c_enc (2, c) = -1 := rfl
      refine ⟨?_, ?_, ?_⟩
      · rcases ht with ⟨n, rfl⟩ | ⟨n, rfl⟩ <;> rfl
      · rcases ht with ⟨n, rfl⟩ | ⟨n, rfl⟩ <;> rfl
      · show c_val ad sc (if c_enc (2, c) < 0 then (2, 0) else (3, c_enc (2, c))) .null
        rw [e]
        exact rfl
    · subst h1
      obtain ⟨h0, a, rfl, g⟩ := hv
      have h0 : 0 ≤ c := h0
      have e : c_enc (3, c) = c := rfl
      refine ⟨?_, ?_, ?_⟩
      · rcases ht with ⟨n, rfl⟩ | ⟨n, rfl⟩ <;> rfl
      · rcases ht with ⟨n, rfl⟩ | ⟨n, rfl⟩ <;> rfl
      · show c_val ad sc (if c_enc (3, c) < 0 then (2, 0) else (3, c_enc (3, c))) (.ref a)
        rw [e, if_neg (by omega)]
        exact ⟨h0, a, rfl, g⟩
  | 3, hf, ht =>
    have ht : ty = .boolean := ht
    simp only [Bool.and_eq_true, Bool.or_eq_true, beq_iff_eq, decide_eq_true_eq] at hf
    obtain ⟨n, rfl, g⟩ := hv.int hf.1
    subst ht
    have h01 : n = 0 ∨ n = 1 := by
      rcases hf.2 with q | q
      · exact Or.inl (Int32.toInt_inj.mp (by rw [g, q]; rfl))
      · exact Or.inr (Int32.toInt_inj.mp (by rw [g, q]; rfl))
    refine ⟨?_, ?_, n, rfl, by simp [c_enc, hf.1, g]⟩
    · rcases h01 with rfl | rfl <;> rfl
    · rcases h01 with rfl | rfl <;> rfl
  | _ + 4, hf, _ => cases hf
/-- slots -/
def c_cs (P : xP) : cK → Nat
  | .inl a => a.2
  | .inr ci => (x_cls P ci).length
def c_sz (P : xP) (T : List cK) : Nat := (T.map (c_cs P)).sum
theorem c_sz_app {P : xP} {T : List cK} {K : cK} : c_sz P (T ++ [K]) = c_sz P T + c_cs P K := by simp [c_sz]
theorem c_sz_ext {P : xP} {T T' : List cK} (h : x_ext T T') : c_sz P T ≤ c_sz P T' := by
  obtain ⟨t, rfl⟩ := h
  simp [c_sz]
