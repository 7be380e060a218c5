/-! the heap behind the constructors is in its ranges -/
def rv (k : Nat) (v : Int) : Bool := match r_tab[k]? with
  | some (1, l) => (match l.headD none with
    | none => true
    | some q => decide (q.1 ≤ v ∧ v ≤ q.2))
  | some (2, _) => false
  | some (3, _) => decide (v = 0)
  | some (4, _) => decide (v = 0)
  | some (5, _) => decide (v = 0)
  | _ => true
theorem r_zA_0 (f : Nat) : r_in (r_zA f) 0 := by
  unfold r_zA
  split
  · exact ⟨by decide, by decide⟩
  · split
    · exact ⟨by decide, by decide⟩
    · trivial
theorem r_zB_0 (f : Nat) : r_in (r_zB f) 0 := by
  unfold r_zB
  split
  · trivial
  · exact ⟨by decide, by decide⟩
theorem rv_ok {k : Nat} {v : Int} (h : rv k v = true) (f : Nat) : r_ok k f v := by
  unfold rv at h
  unfold r_ok r_b
  split at h
  · next l hl =>
    rw [hl]
    show r_in (l.headD none) v
    split at h
    · next e => rw [e]; trivial
    · next q e =>
      rw [e]
      show q.1 ≤ v ∧ v ≤ q.2
      exact of_decide_eq_true h
  · cases h
  · next l hl =>
    rw [hl, of_decide_eq_true h]
    exact r_zA_0 f
  · next l hl =>
    rw [hl, of_decide_eq_true h]
    exact r_zA_0 (f % 81)
  · next l hl =>
    rw [hl, of_decide_eq_true h]
    exact r_zB_0 f
  · next h1 h2 h3 h4 h5 =>
    split
    · next l hl => exact absurd hl (h1 l)
    · next l hl => exact absurd hl (h2 l)
    · next l hl => exact absurd hl (h3 l)
    · next l hl => exact absurd hl (h4 l)
    · next l hl => exact absurd hl (h5 l)
    · trivial
theorem toM_arr {k : Nat} : ∀ (U : bU), (∀ e ∈ U, ¬ (e.1 = k ∧ e.2.1 = 100000)) → ∀ f, toM U k f = 0 ∨ ∃ e ∈ U, e.1 = k ∧ e.2.1 < 100000 ∧ toM U k f = e.2.2 ∨ e ∈ U ∧ e.1 = k ∧ toM U k f = e.2.2 ∧ e.2.1 ≠ 100000 ∧ e.2.1 ≠ 100001
  | [], _, f => Or.inl rfl
  | e :: U, h, f => by
    have ih := toM_arr U (fun x hx => h x (List.mem_cons_of_mem _ hx)) f
    have he := h e List.mem_cons_self
    have lift : (toM U k f = 0 ∨ ∃ e ∈ U, e.1 = k ∧ e.2.1 < 100000 ∧ toM U k f = e.2.2 ∨ e ∈ U ∧ e.1 = k ∧ toM U k f = e.2.2 ∧ e.2.1 ≠ 100000 ∧ e.2.1 ≠ 100001) → toM (e :: U) k f = toM U k f → (toM (e :: U) k f = 0 ∨ ∃ x ∈ e :: U, x.1 = k ∧ x.2.1 < 100000 ∧ toM (e :: U) k f = x.2.2 ∨ x ∈ e :: U ∧ x.1 = k ∧ toM (e :: U) k f = x.2.2 ∧ x.2.1 ≠ 100000 ∧ x.2.1 ≠ 100001) := by
      intro a b
      rw [b]
      rcases a with a | ⟨x, hx, a | a⟩
      · exact Or.inl a
      · exact Or.inr ⟨x, List.mem_cons_of_mem _ hx, Or.inl a⟩
      · exact Or.inr ⟨x, List.mem_cons_of_mem _ hx, Or.inr ⟨List.mem_cons_of_mem _ hx, a.2⟩⟩
    by_cases h1 : e.2.1 = 100000
    · refine lift ih ?_
      show (if e.2.1 = 100000 then _ else _ : cM) k f = _
      rw [if_pos h1]
      exact if_neg (fun z => he ⟨z.symm, h1⟩)
    · by_cases h2 : e.2.1 = 100001
      · by_cases h3 : k = e.1
        · refine Or.inl ?_
          show (if e.2.1 = 100000 then _ else if e.2.1 = 100001 then _ else _ : cM) k f = 0
          rw [if_neg h1, if_pos h2]
          exact if_pos h3
        · refine lift ih ?_
          show (if e.2.1 = 100000 then _ else if e.2.1 = 100001 then _ else _ : cM) k f = _
          rw [if_neg h1, if_pos h2]
          exact if_neg h3
      · by_cases h3 : k = e.1 ∧ f = e.2.1
        · refine Or.inr ⟨e, List.mem_cons_self, Or.inr ⟨List.mem_cons_self, h3.1.symm, ?_, h1, h2⟩⟩
          show (if e.2.1 = 100000 then _ else if e.2.1 = 100001 then _ else _ : cM) k f = _
          rw [if_neg h1, if_neg h2]
          exact if_pos h3
        · refine lift ih ?_
          show (if e.2.1 = 100000 then _ else if e.2.1 = 100001 then _ else _ : cM) k f = _
          rw [if_neg h1, if_neg h2]
          exact if_neg h3
def rokB (k f : Nat) (v : Int) : Bool := match r_b k f with
  | none => true
  | some q => decide (q.1 ≤ v ∧ v ≤ q.2)
theorem rokB_ok {k f : Nat} {v : Int} (h : rokB k f v = true) : r_ok k f v := by
  unfold rokB at h
  unfold r_ok
  split at h
  · next e => rw [e]; trivial
  · next q e =>
    rw [e]
    show q.1 ≤ v ∧ v ≤ q.2
    exact of_decide_eq_true h
def chkO (U : bU) (k : Nat) : Bool := match r_tab[k]? with
  | some (2, l) => (List.range l.length).all fun f => rokB k f (toM U k f)
  | _ => false
def chkA (U : bU) (k : Nat) : Bool := rv k 0 && U.all fun e => e.1 != k || (e.2.1 != 100000 && (e.2.1 == 100001 || rv k e.2.2))
theorem chkO_ok {U : bU} {k : Nat} (h : chkO U k = true) (f : Nat) : r_ok k f (toM U k f) := by
  unfold chkO at h
  split at h
  · next l hl =>
    by_cases hf : f < l.length
    · exact rokB_ok (List.all_eq_true.mp h f (List.mem_range.mpr hf))
    · unfold r_ok r_b
      rw [hl]
      show r_in (l.getD f none) _
      rw [List.getD_eq_getElem?_getD, List.getElem?_eq_none (by omega)]
      trivial
  · cases h
theorem chkA_ok {U : bU} {k : Nat} (h : chkA U k = true) (f : Nat) : r_ok k f (toM U k f) := by
  unfold chkA at h
  rw [Bool.and_eq_true] at h
  have h2 : ∀ e ∈ U, e.1 = k → e.2.1 ≠ 100000 ∧ (e.2.1 = 100001 ∨ rv k e.2.2 = true) := by
    intro e he hk
    have := List.all_eq_true.mp h.2 e he
    simpa [hk] using this
  rcases toM_arr U (fun e he z => (h2 e he z.1).1 z.2) f with g | ⟨e, he, ⟨g1, g2, g3⟩ | ⟨_, g1, g2, g3, g4⟩⟩
  · rw [g]
    exact rv_ok h.1 f
  · rw [g3]
    exact rv_ok ((h2 e he g1).2.resolve_left (by omega)) f
  · rw [g2]
    exact rv_ok ((h2 e he g1).2.resolve_left g4) f
theorem rng_start : Rng (toM bU_309) := by
  have h : ((List.range 114).all fun k => chkO bU_309 k || chkA bU_309 k) = true := by decide +kernel
  intro k f
  by_cases hk : k < 114
  · have := List.all_eq_true.mp h k (List.mem_range.mpr hk)
    rw [Bool.or_eq_true] at this
    rcases this with g | g
    · exact chkO_ok g f
    · exact chkA_ok g f
  · exact ru_far (by omega)
theorem start_vals : toM bU_309 1 1 = 0 ∧ toM bU_309 63 1 = 0 ∧ toM bU_309 7 0 = 8 ∧ toM bU_309 7 1 = 25 ∧ toM bU_309 63 14 = 0 ∧ toM bU_309 75 0 = -1 ∧ toM bU_309 77 0 = -1 ∧ toM bU_309 19 1 = 21 ∧ toM bU_309 22 1 = 24 ∧ toM bU_309 36 1 = 38 ∧ toM bU_309 39 1 = 41 ∧ toM bU_309 19 2 = 0 ∧ toM bU_309 22 2 = 0 ∧ toM bU_309 36 2 = 0 ∧ toM bU_309 39 2 = 0 := by decide +kernel
theorem sg_start : Sg (toM bU_309) := by
  obtain ⟨_, _, _, _, h14, h75, h77, _⟩ := start_vals
  unfold Sg
  rw [h14]
  exact ⟨Or.inl h75, Or.inl h77⟩
theorem gm_start : Gm k_T0 (toM bU_309) := by
  obtain ⟨_, _, _, _, _, _, _, a1, a2, a3, a4, b1, b2, b3, b4⟩ := start_vals
  refine ⟨fun _ => 32, ?_, by have : k_T0.length = 114 := rfl; show 32 * k_T0.length + 128 ≤ 3648 + (32 + 32 + 32 + 32); omega, Nat.add_le_add_left (by decide) _, fun f g hf hg hne => by
    rcases hf with rfl | rfl | rfl | rfl <;> rcases hg with rfl | rfl | rfl | rfl <;> first | exact absurd rfl hne | (simp only [a1, a2, a3, a4]; decide)⟩
  intro f hf
  rcases hf with rfl | rfl | rfl | rfl
  · exact ⟨21, a1, rfl, by decide, by decide, by rw [b1]; decide, Or.inl rfl⟩
  · exact ⟨24, a2, rfl, by decide, by decide, by rw [b2]; decide, Or.inl rfl⟩
  · exact ⟨38, a3, rfl, by decide, by decide, by rw [b3]; decide, Or.inl rfl⟩
  · exact ⟨41, a4, rfl, by decide, by decide, by rw [b4]; decide, Or.inl rfl⟩
theorem toM_zero {k : Nat} {U : bU} (h : (U.all fun e => e.1 != k || e.2.1 == 100001) = true) (f : Nat) : toM U k f = 0 := by
  have h2 : ∀ e ∈ U, e.1 = k → e.2.1 = 100001 := by
    intro e he hk
    have := List.all_eq_true.mp h e he
    simpa [hk] using this
  rcases toM_arr U (fun e he z => by have := h2 e he z.1; omega) f with g | ⟨e, he, ⟨g1, g2, g3⟩ | ⟨he2, g1, g2, g3, g4⟩⟩
  · exact g
  · have := h2 e he g1
    omega
  · exact absurd (h2 e he2 g1) g4
theorem ft_start : FT (toM bU_309) := by
  have h : toM bU_309 0 10 = toM bU_309 63 11 ∧ toM bU_309 0 11 = toM bU_309 63 12 := by decide +kernel
  exact h
theorem st_start : ST 8 (toM bU_309) := by
  have h : toM bU_309 63 14 = 0 ∧ toM bU_309 65 0 = 0 ∧ toM bU_309 69 0 = 0 ∧ toM bU_309 79 0 = 0 ∧ toM bU_309 80 0 = -1 ∧ toM bU_309 8 0 = 0 ∧ toM bU_309 8 1 = 0 ∧ toM bU_309 8 2 = 0 ∧ toM bU_309 8 3 = -1 ∧ toM bU_309 19 2 = 0 ∧ toM bU_309 22 2 = 0 ∧ toM bU_309 75 0 = -1 := by decide +kernel
  have h4 := fun i => toM_zero (k := 12) (U := bU_309) (by decide +kernel) i
  generalize toM bU_309 = M at h h4 ⊢
  obtain ⟨a, b, c, d, e, f, g, i, j, l, o, h75⟩ := h
  have hdc : DC (owD M 8) := DC.of (t := 8) f g i j (fun i _ => h4 i) l o
  have e0 : owD M 8 0 0 = 0 := f
  have e1 : owD M 8 0 1 = 0 := g
  have e2 : owD M 8 0 2 = 0 := i
  have e3 : owD M 8 0 3 = -1 := j
  unfold ST
  rw [a]
  refine ⟨⟨b.trans e0.symm, c.trans e1.symm, d.trans e2.symm, e.trans e3.symm, fun k hk => ?_, fun k hk => ?_, fun p q hp => ?_, fun p q _ _ _ => h4 _⟩, hdc.dw, ⟨CDR.init hdc, fun _ => h75⟩, hdc.td⟩
  · rw [e0] at hk
    omega
  · rw [e1] at hk
    omega
  · rw [e0] at hp
    omega
theorem scn_start : SCN 8 (toM bU_309) := by
  have h : toM bU_309 8 1 = 0 ∧ toM bU_309 44 2 = 0 ∧ toM bU_309 63 59 = 0 ∧ toM bU_309 0 12 = toM bU_309 63 60 := by decide +kernel
  have hk : toM bU_309 42 40 = 0 ∧ toM bU_309 97 0 = 0 := by decide +kernel
  exact SCN.start st_start rng_start h.1 h.2.1 h.2.2.1 h.2.2.2 hk.1 hk.2
/-- what goes from call to call -/
def LI (T : List cK) (M : cM) : Prop := TT T ∧ Rng M ∧ Gm T M ∧ Sg M ∧ M 1 1 = M 63 1 ∧ M 2 = M 64 ∧ FT M ∧ ∃ t u : Nat, (u = 8 ∧ t = 25 ∨ u = 25 ∧ t = 8) ∧ M 7 0 = ((t : Nat) : Int) ∧ M 7 1 = ((u : Nat) : Int) ∧ ST t M ∧ SCN t M
theorem li_start : LI (k_T0.take 114) (toM bU_309) := by
  have e : k_T0.take 114 = k_T0 := by decide
  rw [e]
  obtain ⟨h1, h2, h3, h4, _⟩ := start_vals
  exact ⟨⟨[], (List.append_nil _).symm⟩, rng_start, gm_start, sg_start, h1.trans h2.symm, funext fun i => (toM_zero (U := bU_309) (by decide +kernel) i).trans (toM_zero (U := bU_309) (by decide +kernel) i).symm, ft_start, 8, 25, Or.inr ⟨rfl, rfl⟩, h3, h4, st_start, scn_start⟩
