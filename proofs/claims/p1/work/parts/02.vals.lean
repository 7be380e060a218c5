/-! An executor of bytecode over abstract values. A value: tag (0 int, 1 long, 2 null, 3 a cell by its number, 4 the script), a symbol or none, a number. -/
abbrev xV : Type := Nat × Option Nat × Int
/-- an array: element type (0 int, 1 long, 2 boolean), length, bounds of the places that aren't listed, listed places -/
abbrev xA : Type := Nat × Nat × Int × Int × List (Nat × xV)
abbrev xC : Type := xA ⊕ (Nat × List xV)
abbrev xE : Type := List (Int × Int)
/-- a frame: method, pc, locals, stack, cells and slots used -/
abbrev xF : Type := Nat × Nat × List (Nat × xV) × List xV × Nat × Nat
abbrev xS : Type := List xF × List xC × xE
def x_ext {α : Type} (a b : List α) : Prop := ∃ t, b = a ++ t
theorem x_ext.rf {α : Type} (a : List α) : x_ext a a := ⟨[], by simp⟩
theorem x_ext.tr {α : Type} {a b c : List α} (h : x_ext a b) (g : x_ext b c) : x_ext a c := by
  obtain ⟨t, rfl⟩ := h
  obtain ⟨u, rfl⟩ := g
  exact ⟨t ++ u, by rw [List.append_assoc]⟩
theorem x_ext.get {α : Type} {a b : List α} (h : x_ext a b) {i : Nat} {q : α} (e : a[i]? = some q) : b[i]? = some q := by
  obtain ⟨t, rfl⟩ := h
  rw [List.getElem?_append_left (List.getElem?_eq_some_iff.mp e).1]
  exact e
theorem x_ext.app {α : Type} (a t : List α) : x_ext a (a ++ t) := ⟨t, rfl⟩
def x_ev (ρ : List Int) (b : Option Nat) (c r : Int) : Prop := match b with
  | none => r = c
  | some i => ∃ q, ρ[i]? = some q ∧ r = q + c
theorem x_ev.mono {ρ ρ' : List Int} {b : Option Nat} {c r : Int} (h : x_ext ρ ρ') (g : x_ev ρ b c r) : x_ev ρ' b c r := by
  cases b with
  | none => exact g
  | some i =>
    obtain ⟨q, h1, h2⟩ := g
    exact ⟨q, h.get h1, h2⟩
def x_val (ρ : List Int) (ad : List Nat) (sc : Nat) (v : xV) (x : Value) : Prop := match v.1 with
  | 0 => ∃ n : Int32, x = .int n ∧ x_ev ρ v.2.1 v.2.2 n.toInt
  | 1 => ∃ n : Int64, x = .long n ∧ x_ev ρ v.2.1 v.2.2 n.toInt
  | 2 => x = .null
  | 3 => ∃ a, x = .ref a ∧ ad[v.2.2.toNat]? = some a
  | _ => x = .ref sc
theorem x_val.mono {ρ ρ' : List Int} {ad ad' : List Nat} {sc : Nat} {v : xV} {x : Value} (h1 : x_ext ρ ρ') (h2 : x_ext ad ad') (h : x_val ρ ad sc v x) : x_val ρ' ad' sc v x := by
  obtain ⟨t, b, c⟩ := v
  match t, h with
  | 0, ⟨n, e, g⟩ => exact ⟨n, e, g.mono h1⟩
  | 1, ⟨n, e, g⟩ => exact ⟨n, e, g.mono h1⟩
  | 2, h => exact h
  | 3, ⟨a, e, g⟩ => exact ⟨a, e, h2.get g⟩
  | _ + 4, h => exact h
def x_vals (ρ : List Int) (ad : List Nat) (sc : Nat) : List xV → List Value → Prop
  | [], [] => True
  | v :: vs, x :: xs => x_val ρ ad sc v x ∧ x_vals ρ ad sc vs xs
  | _, _ => False
theorem x_vals.mono {ρ ρ' : List Int} {ad ad' : List Nat} {sc : Nat} (h1 : x_ext ρ ρ') (h2 : x_ext ad ad') : ∀ {vs : List xV} {xs : List Value}, x_vals ρ ad sc vs xs → x_vals ρ' ad' sc vs xs
  | [], [], _ => trivial
  | _ :: _, _ :: _, h => ⟨h.1.mono h1 h2, x_vals.mono h1 h2 h.2⟩
  | [], _ :: _, h => h.elim
  | _ :: _, [], h => h.elim
theorem x_vals.len {ρ : List Int} {ad : List Nat} {sc : Nat} : ∀ {vs : List xV} {xs : List Value}, x_vals ρ ad sc vs xs → vs.length = xs.length
  | [], [], _ => rfl
  | _ :: _, _ :: _, h => by simp [x_vals.len h.2]
  | [], _ :: _, h => h.elim
  | _ :: _, [], h => h.elim
theorem x_vals.nil {ρ : List Int} {ad : List Nat} {sc : Nat} {xs : List Value} (h : x_vals ρ ad sc [] xs) : xs = [] := by
  cases xs with
  | nil => rfl
  | cons _ _ => exact h.elim
theorem x_vals.cons {ρ : List Int} {ad : List Nat} {sc : Nat} {v : xV} {vs : List xV} {xs : List Value} (h : x_vals ρ ad sc (v :: vs) xs) : ∃ x ys, xs = x :: ys ∧ x_val ρ ad sc v x ∧ x_vals ρ ad sc vs ys := by
  cases xs with
  | nil => exact h.elim
  | cons x ys => exact ⟨x, ys, rfl, h.1, h.2⟩
theorem x_vals.get {ρ : List Int} {ad : List Nat} {sc : Nat} : ∀ {vs : List xV} {xs : List Value}, x_vals ρ ad sc vs xs → ∀ {k : Nat} {v : xV}, vs[k]? = some v → ∃ x, xs[k]? = some x ∧ x_val ρ ad sc v x
  | [], [], _, k, v, e => by simp at e
  | a :: vs, b :: xs, h, k, v, e => by
    cases k with
    | zero => simp at e; subst e; exact ⟨b, by simp, h.1⟩
    | succ k =>
      simp at e
      obtain ⟨x, h1, h2⟩ := x_vals.get h.2 e
      exact ⟨x, by simpa using h1, h2⟩
  | [], _ :: _, h, _, _, _ => h.elim
  | _ :: _, [], h, _, _, _ => h.elim
theorem x_vals.set {ρ : List Int} {ad : List Nat} {sc : Nat} : ∀ {vs : List xV} {xs : List Value}, x_vals ρ ad sc vs xs → ∀ {k : Nat} {v : xV} {x : Value}, x_val ρ ad sc v x → x_vals ρ ad sc (vs.set k v) (xs.set k x)
  | [], [], _, k, v, x, _ => by simp [x_vals]
  | a :: vs, b :: xs, h, k, v, x, g => by
    cases k with
    | zero => exact ⟨g, h.2⟩
    | succ k => exact ⟨h.1, x_vals.set h.2 g⟩
  | [], _ :: _, h, _, _, _, _ => h.elim
  | _ :: _, [], h, _, _, _, _ => h.elim
theorem x_vals.app {ρ : List Int} {ad : List Nat} {sc : Nat} : ∀ {vs ws : List xV} {xs ys : List Value}, x_vals ρ ad sc vs xs → x_vals ρ ad sc ws ys → x_vals ρ ad sc (vs ++ ws) (xs ++ ys)
  | [], _, [], _, _, g => g
  | _ :: _, _, _ :: _, _, h, g => ⟨h.1, x_vals.app h.2 g⟩
  | [], _, _ :: _, _, h, _ => h.elim
  | _ :: _, _, [], _, h, _ => h.elim
theorem x_vals.rev {ρ : List Int} {ad : List Nat} {sc : Nat} : ∀ {vs : List xV} {xs : List Value}, x_vals ρ ad sc vs xs → x_vals ρ ad sc vs.reverse xs.reverse
  | [], [], _ => trivial
  | v :: vs, x :: xs, h => by
    rw [List.reverse_cons, List.reverse_cons]
    exact x_vals.app (x_vals.rev h.2) ⟨h.1, trivial⟩
  | [], _ :: _, h => h.elim
  | _ :: _, [], h => h.elim
theorem x_vals.take {ρ : List Int} {ad : List Nat} {sc : Nat} : ∀ {vs : List xV} {xs : List Value} (n : Nat), x_vals ρ ad sc vs xs → x_vals ρ ad sc (vs.take n) (xs.take n)
  | _, _, 0, _ => trivial
  | [], [], _ + 1, _ => trivial
  | _ :: _, _ :: _, n + 1, h => ⟨h.1, x_vals.take n h.2⟩
  | [], _ :: _, _ + 1, h => h.elim
  | _ :: _, [], _ + 1, h => h.elim
theorem x_vals.drop {ρ : List Int} {ad : List Nat} {sc : Nat} : ∀ {vs : List xV} {xs : List Value} (n : Nat), x_vals ρ ad sc vs xs → x_vals ρ ad sc (vs.drop n) (xs.drop n)
  | _, _, 0, h => h
  | [], [], _ + 1, _ => trivial
  | _ :: _, _ :: _, n + 1, h => x_vals.drop n h.2
  | [], _ :: _, _ + 1, h => h.elim
  | _ :: _, [], _ + 1, h => h.elim
/-- category by tag -/
def x_cat (v : xV) : Nat := if v.1 = 1 then 2 else 1
theorem x_val.cat {ρ : List Int} {ad : List Nat} {sc : Nat} {v : xV} {x : Value} (h : x_val ρ ad sc v x) : x.category = x_cat v := by
  obtain ⟨t, b, c⟩ := v
  match t, h with
  | 0, ⟨n, e, g⟩ => subst e; rfl
  | 1, ⟨n, e, g⟩ => subst e; rfl
  | 2, h => cases h; rfl
  | 3, ⟨a, e, g⟩ => subst e; rfl
  | t + 4, h =>
    cases h
    show 1 = x_cat (t + 4, b, c)
    have : ¬ (t + 4 = 1) := by omega
    simp [x_cat, this]
/-- locals -/
def x_locs (ρ : List Int) (ad : List Nat) (sc : Nat) : List (Nat × xV) → List (Nat × Value) → Prop
  | [], [] => True
  | v :: vs, x :: xs => v.1 = x.1 ∧ x_val ρ ad sc v.2 x.2 ∧ x_locs ρ ad sc vs xs
  | _, _ => False
theorem x_locs.mono {ρ ρ' : List Int} {ad ad' : List Nat} {sc : Nat} (h1 : x_ext ρ ρ') (h2 : x_ext ad ad') : ∀ {vs : List (Nat × xV)} {xs : List (Nat × Value)}, x_locs ρ ad sc vs xs → x_locs ρ' ad' sc vs xs
  | [], [], _ => trivial
  | _ :: _, _ :: _, h => ⟨h.1, h.2.1.mono h1 h2, x_locs.mono h1 h2 h.2.2⟩
  | [], _ :: _, h => h.elim
  | _ :: _, [], h => h.elim
def x_find : List (Nat × xV) → Nat → Option xV
  | [], _ => none
  | q :: l, i => if q.1 = i then some q.2 else x_find l i
theorem x_locs.find {ρ : List Int} {ad : List Nat} {sc : Nat} {i : Nat} {v : xV} : ∀ {vs : List (Nat × xV)} {xs : List (Nat × Value)}, x_locs ρ ad sc vs xs → x_find vs i = some v → ∃ (x : Value) (k : Nat), xs[k]? = some (i, x) ∧ x_val ρ ad sc v x
  | [], [], _, e => by simp [x_find] at e
  | q :: vs, y :: xs, h, e => by
    unfold x_find at e
    by_cases hq : q.1 = i
    · rw [if_pos hq] at e
      obtain ⟨a, b⟩ := y
      have h1 : q.1 = a := h.1
      cases e
      exact ⟨b, 0, by simp [← h1, hq], h.2.1⟩
    · rw [if_neg hq] at e
      obtain ⟨x, k, g1, g2⟩ := x_locs.find h.2.2 e
      exact ⟨x, k + 1, by simpa using g1, g2⟩
  | [], _ :: _, h, _ => h.elim
  | _ :: _, [], h, _ => h.elim
def x_put1 (l : List (Nat × xV)) (i : Nat) (v : xV) : List (Nat × xV) := (i, v) :: l.filter (fun q => !(q.1 == i) && !(q.1 + 1 == i && x_cat q.2 == 2))
def x_put2 (l : List (Nat × xV)) (i : Nat) (v : xV) : List (Nat × xV) := (i, v) :: l.filter (fun q => !(q.1 == i) && (!(q.1 == i + 1) && !(q.1 + 1 == i && x_cat q.2 == 2)))
theorem x_locs.filter {ρ : List Int} {ad : List Nat} {sc : Nat} (F : Nat → Nat → Bool) : ∀ {vs : List (Nat × xV)} {xs : List (Nat × Value)}, x_locs ρ ad sc vs xs → x_locs ρ ad sc (vs.filter (fun q => F q.1 (x_cat q.2))) (xs.filter (fun q => F q.1 q.2.category))
  | [], [], _ => trivial
  | q :: vs, y :: xs, h => by
    obtain ⟨a, v⟩ := q
    obtain ⟨b, x⟩ := y
    have h1 : a = b := h.1
    subst h1
    have hc : x.category = x_cat v := h.2.1.cat
    have ih := x_locs.filter F h.2.2
    by_cases hF : F a (x_cat v) = true
    · rw [List.filter_cons_of_pos (by simpa using hF), List.filter_cons_of_pos (by simpa [hc] using hF)]
      exact ⟨rfl, h.2.1, ih⟩
    · rw [List.filter_cons_of_neg (by simpa using hF), List.filter_cons_of_neg (by simpa [hc] using hF)]
      exact ih
  | [], _ :: _, h => h.elim
  | _ :: _, [], h => h.elim
theorem x_locs.put1 {ρ : List Int} {ad : List Nat} {sc : Nat} {vs : List (Nat × xV)} {xs : List (Nat × Value)} {i : Nat} {v : xV} {x : Value} (h : x_locs ρ ad sc vs xs) (g : x_val ρ ad sc v x) :
    x_locs ρ ad sc (x_put1 vs i v) ((i, x) :: xs.filter (fun q => !(q.1 == i) && !(q.1 + 1 == i && q.2.category == 2))) :=
  ⟨rfl, g, x_locs.filter (fun a c => !(a == i) && !(a + 1 == i && c == 2)) h⟩
theorem x_locs.put2 {ρ : List Int} {ad : List Nat} {sc : Nat} {vs : List (Nat × xV)} {xs : List (Nat × Value)} {i : Nat} {v : xV} {x : Value} (h : x_locs ρ ad sc vs xs) (g : x_val ρ ad sc v x) :
    x_locs ρ ad sc (x_put2 vs i v) ((i, x) :: xs.filter (fun q => !(q.1 == i) && (!(q.1 == i + 1) && !(q.1 + 1 == i && q.2.category == 2)))) :=
  ⟨rfl, g, x_locs.filter (fun a c => !(a == i) && (!(a == i + 1) && !(a + 1 == i && c == 2))) h⟩
/-- the locals with which a method begins -/
def x_args : Nat → List xV → List (Nat × xV)
  | _, [] => []
  | i, v :: vs => (i, v) :: x_args (if x_cat v = 2 then i + 2 else i + 1) vs
theorem x_vals.args {ρ : List Int} {ad : List Nat} {sc : Nat} : ∀ {vs : List xV} {xs : List Value} (i : Nat), x_vals ρ ad sc vs xs → x_locs ρ ad sc (x_args i vs) (lv_args i xs)
  | [], [], _, _ => trivial
  | v :: vs, x :: xs, i, h => by
    have hc : x.category = x_cat v := h.1.cat
    refine ⟨rfl, h.1, ?_⟩
    show x_locs ρ ad sc (x_args (if x_cat v = 2 then i + 2 else i + 1) vs) (lv_args (if x.category = 2 then i + 2 else i + 1) xs)
    rw [hc]
    exact x_vals.args _ h.2
  | [], _ :: _, _, h => h.elim
  | _ :: _, [], _, h => h.elim
/-- symbols and their bounds -/
def x_env (ρ : List Int) (E : xE) : Prop := ρ.length = E.length ∧ ∀ (i : Nat) (q : Int × Int) (r : Int), E[i]? = some q → ρ[i]? = some r → q.1 ≤ r ∧ r ≤ q.2
def x_iv (E : xE) (v : xV) : Int × Int := match v.2.1 with
  | none => (v.2.2, v.2.2)
  | some i => match E[i]? with
    | some q => (q.1 + v.2.2, q.2 + v.2.2)
    | none => (v.2.2, v.2.2)
theorem x_iv_ok {ρ : List Int} {E : xE} (h : x_env ρ E) {v : xV} {r : Int} (g : x_ev ρ v.2.1 v.2.2 r) : (x_iv E v).1 ≤ r ∧ r ≤ (x_iv E v).2 := by
  obtain ⟨t, b, c⟩ := v
  cases b with
  | none => have g : r = c := g; subst g; exact ⟨Int.le_refl _, Int.le_refl _⟩
  | some i =>
    obtain ⟨q, h1, h2⟩ := g
    have hl : i < E.length := by rw [← h.1]; exact (List.getElem?_eq_some_iff.mp h1).1
    have he : E[i]? = some E[i] := List.getElem?_eq_getElem hl
    have hb := h.2 i _ q he h1
    simp only [x_iv, he]
    have h2 : r = q + c := h2
    omega
def x_cap (E : xE) (v : xV) (lo hi : Int) : xE := match v.2.1 with
  | none => E
  | some i => match E[i]? with
    | some q => E.set i (max q.1 (lo - v.2.2), min q.2 (hi - v.2.2))
    | none => E
theorem x_cap_ok {ρ : List Int} {E : xE} (h : x_env ρ E) {v : xV} {r lo hi : Int} (g : x_ev ρ v.2.1 v.2.2 r) (h1 : lo ≤ r) (h2 : r ≤ hi) : x_env ρ (x_cap E v lo hi) := by
  obtain ⟨t, b, c⟩ := v
  cases b with
  | none => exact h
  | some i =>
    obtain ⟨q, g1, g2⟩ := g
    have g2 : r = q + c := g2
    have hl : i < E.length := by rw [← h.1]; exact (List.getElem?_eq_some_iff.mp g1).1
    have he : E[i]? = some E[i] := List.getElem?_eq_getElem hl
    simp only [x_cap, he]
    refine ⟨by rw [List.length_set]; exact h.1, fun j q' r' e1 e2 => ?_⟩
    by_cases hj : i = j
    · subst hj
      rw [List.getElem?_set_self hl] at e1
      cases e1
      have hb := h.2 i _ r' he e2
      have e3 : q = r' := by rw [g1] at e2; exact Option.some.inj e2
      refine ⟨?_, ?_⟩
      · show max _ _ ≤ r'
        omega
      · show r' ≤ min _ _
        omega
    · rw [List.getElem?_set_ne hj] at e1
      exact h.2 j q' r' e1 e2
/-- a new symbol -/
theorem x_env.new {ρ : List Int} {E : xE} (h : x_env ρ E) {r lo hi : Int} (h1 : lo ≤ r) (h2 : r ≤ hi) : x_env (ρ ++ [r]) (E ++ [(lo, hi)]) := by
  refine ⟨by simp [h.1], fun i q r' e1 e2 => ?_⟩
  by_cases hi' : i < E.length
  · rw [List.getElem?_append_left hi'] at e1
    rw [List.getElem?_append_left (by rw [h.1]; exact hi')] at e2
    exact h.2 i q r' e1 e2
  · rw [List.getElem?_append_right (by omega)] at e1
    rw [List.getElem?_append_right (by rw [h.1]; omega)] at e2
    have hz : i - E.length < 1 := (List.getElem?_eq_some_iff.mp e1).1
    have e0 : i - E.length = 0 := by omega
    rw [e0] at e1
    rw [h.1, e0] at e2
    cases e1
    cases e2
    exact ⟨h1, h2⟩
theorem x_ev.new {ρ : List Int} {E : xE} (h : x_env ρ E) (r : Int) : x_ev (ρ ++ [r]) (some E.length) 0 r := by
  refine ⟨r, ?_, by omega⟩
  rw [← h.1, List.getElem?_append_right (Nat.le_refl _)]
  simp
theorem x_i32 (n : Int32) : -2147483648 ≤ n.toInt ∧ n.toInt ≤ 2147483647 := by
  have h1 := Int32.le_toInt n
  have h2 := Int32.toInt_lt n
  omega
theorem x_i64 (n : Int64) : -9223372036854775808 ≤ n.toInt ∧ n.toInt ≤ 9223372036854775807 := by
  have h1 := Int64.le_toInt n
  have h2 := Int64.toInt_lt n
  omega
