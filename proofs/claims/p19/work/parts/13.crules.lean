/-! rules for the pure machine's runs -/
theorem c_mono {P : xP} {xs : Nat → Int} {Ln : Nat} : ∀ {n k d e m pc : Nat} {L : List (Nat × cV)} {st : List cV} {h : cH} {res : Option cV × cH}, n ≤ k → d ≤ e → c_exec P xs Ln n d m pc L st h = some res → c_exec P xs Ln k e m pc L st h = some res := by
  intro n
  induction n with
  | zero => intro k d e m pc L st h res _ _ h1; cases h1
  | succ n ih =>
    intro k d e m pc L st h res hk hd h1
    cases k with
    | zero => exact absurd hk (by omega)
    | succ k =>
      obtain ⟨i, len, hc, h2 | h2 | h2⟩ := c_exec_ok h1
      · obtain ⟨q, h2, h3⟩ := h2
        unfold c_exec
        simp only [hc, h2]
        exact ih (by omega) hd h3
      · unfold c_exec
        simp only [hc, h2.1]
        rw [← h2.2]
      · obtain ⟨j, as, rest, d', r, h4, h5, h6, h7, h8⟩ := h2
        cases e with
        | zero => exact absurd hd (by omega)
        | succ e =>
          have h9 := ih (k := k) (e := e) (by omega) (by omega) h7
          have h10 := ih (k := k) (e := e + 1) (by omega) (by omega) h8
          unfold c_exec
          simp only [hc, h5, h9]
          exact h10
/-- from a point of a method: it comes to its end with this answer and heap -/
def cE (P : xP) (xs : Nat → Int) (Ln d m pc : Nat) (L : List (Nat × cV)) (st : List cV) (h : cH) (r : Option cV) (h' : cH) : Prop := ∃ n, c_exec P xs Ln n d m pc L st h = some (r, h')
/-- a method's run -/
def cR (P : xP) (xs : Nat → Int) (Ln d m : Nat) (as : List cV) (h : cH) (r : Option cV) (h' : cH) : Prop := cE P xs Ln d m 0 (c_args 0 as) [] h r h'
theorem cE.deep {P : xP} {xs : Nat → Int} {Ln d e m pc : Nat} {L : List (Nat × cV)} {st : List cV} {h : cH} {r : Option cV} {h' : cH} (g : cE P xs Ln d m pc L st h r h') (hd : d ≤ e) : cE P xs Ln e m pc L st h r h' := by
  obtain ⟨n, g⟩ := g
  exact ⟨n, c_mono (Nat.le_refl _) hd g⟩
theorem cE.step {P : xP} {xs : Nat → Int} {Ln d m pc : Nat} {L : List (Nat × cV)} {st : List cV} {h : cH} {r : Option cV} {h' : cH} {i : Instr} {len : Nat} {q : cN} (h1 : x_code P m pc = some (i, len)) (h2 : c_ins P m pc L st h xs Ln i len = some (.inl q)) (g : cE P xs Ln d m q.1 q.2.1 q.2.2.1 q.2.2.2 r h') : cE P xs Ln d m pc L st h r h' := by
  obtain ⟨n, g⟩ := g
  refine ⟨n + 1, ?_⟩
  unfold c_exec
  simp only [h1, h2]
  exact g
theorem cE.ret {P : xP} {xs : Nat → Int} {Ln d m pc : Nat} {L : List (Nat × cV)} {st : List cV} {h : cH} {r : Option cV} {i : Instr} {len : Nat} (h1 : x_code P m pc = some (i, len)) (h2 : c_ins P m pc L st h xs Ln i len = some (.inr (.inl r))) : cE P xs Ln d m pc L st h r h := by
  refine ⟨1, ?_⟩
  unfold c_exec
  simp only [h1, h2]
theorem cE.call {P : xP} {xs : Nat → Int} {Ln d m pc j : Nat} {L : List (Nat × cV)} {st as rest : List cV} {h h1 : cH} {r r1 : Option cV} {h' : cH} {i : Instr} {len : Nat} (g1 : x_code P m pc = some (i, len)) (g2 : c_ins P m pc L st h xs Ln i len = some (.inr (.inr (j, as, rest)))) (g3 : cR P xs Ln d j as h r1 h1) (g4 : cE P xs Ln (d + 1) m (pc + 3) L (r1.toList ++ rest) h1 r h') : cE P xs Ln (d + 1) m pc L st h r h' := by
  obtain ⟨n, g3⟩ := g3
  obtain ⟨k, g4⟩ := g4
  refine ⟨n + k + 1, ?_⟩
  unfold c_exec
  simp only [g1, g2, c_mono (show n ≤ n + k by omega) (Nat.le_refl d) g3]
  exact c_mono (by omega) (Nat.le_refl _) g4
/-- k plain steps at once -/
def c_seg (P : xP) (xs : Nat → Int) (Ln m : Nat) : Nat → cN → Option cN
  | 0, s => some s
  | k + 1, s => match x_code P m s.1 with
    | none => none
    | some q => match c_ins P m s.1 s.2.1 s.2.2.1 s.2.2.2 xs Ln q.1 q.2 with
      | some (.inl t) => c_seg P xs Ln m k t
      | _ => none
theorem cE.seg {P : xP} {xs : Nat → Int} {Ln d m : Nat} {r : Option cV} {h' : cH} : ∀ (k : Nat) {s t : cN}, c_seg P xs Ln m k s = some t → cE P xs Ln d m t.1 t.2.1 t.2.2.1 t.2.2.2 r h' → cE P xs Ln d m s.1 s.2.1 s.2.2.1 s.2.2.2 r h'
  | 0, s, t, h, g => by
    cases h
    exact g
  | k + 1, s, t, h, g => by
    unfold c_seg at h
    split at h
    next => cases h
    next q hc =>
      split at h
      next u hi => exact cE.step (i := q.1) (len := q.2) hc hi (cE.seg k h g)
      next => cases h
/-- the script is read by the law alone -/
theorem c_ins_indep {P : xP} {m pc : Nat} {L : List (Nat × cV)} {st : List cV} {h : cH} {xs xs' : Nat → Int} {Ln Ln' : Nat} {i : Instr} {len : Nat} (hm : m ≠ 0) : c_ins P m pc L st h xs Ln i len = c_ins P m pc L st h xs' Ln' i len := by
  have ha : ∀ t ty, c_ald m pc L st h xs Ln t ty = c_ald m pc L st h xs' Ln' t ty := by
    intro t ty
    unfold c_ald
    split
    · rfl
    · simp [hm]
    · rfl
  have hl : c_alen m pc L st h Ln = c_alen m pc L st h Ln' := by
    unfold c_alen
    split
    · rfl
    · simp [hm]
    · rfl
  cases i <;> first | rfl | (unfold c_ins; simp only [ha]; done) | (unfold c_ins; simp only [hl]; done)
/-- from a point of a method: it comes to its end with an answer and a heap of which Q holds -/
def cP (P : xP) (xs : Nat → Int) (Ln d m pc : Nat) (L : List (Nat × cV)) (st : List cV) (h : cH) (Q : Option cV → cH → Prop) : Prop := ∃ (r : Option cV) (h' : cH), cE P xs Ln d m pc L st h r h' ∧ Q r h'
/-- a method's contract -/
def cC (P : xP) (xs : Nat → Int) (Ln d m : Nat) (as : List cV) (h : cH) (Q : Option cV → cH → Prop) : Prop := cP P xs Ln d m 0 (c_args 0 as) [] h Q
theorem cP.mono {P : xP} {xs : Nat → Int} {Ln d e m pc : Nat} {L : List (Nat × cV)} {st : List cV} {h : cH} {Q Q' : Option cV → cH → Prop} (g : cP P xs Ln d m pc L st h Q) (hd : d ≤ e) (hQ : ∀ r h', Q r h' → Q' r h') : cP P xs Ln e m pc L st h Q' := by
  obtain ⟨r, h', g1, g2⟩ := g
  exact ⟨r, h', g1.deep hd, hQ r h' g2⟩
theorem cP.step {P : xP} {xs : Nat → Int} {Ln d m pc : Nat} {L : List (Nat × cV)} {st : List cV} {h : cH} {Q : Option cV → cH → Prop} {i : Instr} {len : Nat} {q : cN} (h1 : x_code P m pc = some (i, len)) (h2 : c_ins P m pc L st h xs Ln i len = some (.inl q)) (g : cP P xs Ln d m q.1 q.2.1 q.2.2.1 q.2.2.2 Q) : cP P xs Ln d m pc L st h Q := by
  obtain ⟨r, h', g1, g2⟩ := g
  exact ⟨r, h', cE.step h1 h2 g1, g2⟩
theorem cP.ret {P : xP} {xs : Nat → Int} {Ln d m pc : Nat} {L : List (Nat × cV)} {st : List cV} {h : cH} {Q : Option cV → cH → Prop} {r : Option cV} {i : Instr} {len : Nat} (h1 : x_code P m pc = some (i, len)) (h2 : c_ins P m pc L st h xs Ln i len = some (.inr (.inl r))) (hQ : Q r h) : cP P xs Ln d m pc L st h Q := ⟨r, h, cE.ret h1 h2, hQ⟩
theorem cP.call {P : xP} {xs : Nat → Int} {Ln d m pc j : Nat} {L : List (Nat × cV)} {st as rest : List cV} {h : cH} {Q Q1 : Option cV → cH → Prop} {i : Instr} {len : Nat} (g1 : x_code P m pc = some (i, len)) (g2 : c_ins P m pc L st h xs Ln i len = some (.inr (.inr (j, as, rest)))) (g3 : cC P xs Ln d j as h Q1) (g4 : ∀ (r1 : Option cV) (h1 : cH), Q1 r1 h1 → cP P xs Ln (d + 1) m (pc + 3) L (r1.toList ++ rest) h1 Q) : cP P xs Ln (d + 1) m pc L st h Q := by
  obtain ⟨r1, h1, g5, g6⟩ := g3
  obtain ⟨r, h', g7, g8⟩ := g4 r1 h1 g6
  exact ⟨r, h', cE.call g1 g2 g5 g7, g8⟩
