/-! more locals do no harm -/
def lSub (L L' : List (Nat × cV)) : Prop := ∀ q ∈ L, c_find L' q.1 = some q.2
theorem c_find_mem {l : List (Nat × cV)} {i : Nat} {v : cV} (h : c_find l i = some v) : (i, v) ∈ l := by
  induction l with
  | nil => cases h
  | cons q l ih =>
    unfold c_find at h
    split at h
    next hq =>
      cases h
      subst hq
      exact List.mem_cons_self
    next hq => exact List.mem_cons_of_mem _ (ih h)
theorem c_find_filter {p : Nat × cV → Bool} {l : List (Nat × cV)} {i : Nat} {v : cV} (h : c_find l i = some v) (hp : p (i, v) = true) : c_find (l.filter p) i = some v := by
  induction l with
  | nil => cases h
  | cons q l ih =>
    unfold c_find at h
    split at h
    next hq =>
      cases h
      subst hq
      rw [List.filter_cons_of_pos (by exact hp)]
      exact if_pos rfl
    next hq =>
      by_cases hpq : p q = true
      · rw [List.filter_cons_of_pos hpq]
        unfold c_find
        rw [if_neg hq]
        exact ih h
      · rw [List.filter_cons_of_neg hpq]
        exact ih h
theorem lSub.find {L L' : List (Nat × cV)} (h : lSub L L') {i : Nat} {v : cV} (hf : c_find L i = some v) : c_find L' i = some v := h _ (c_find_mem hf)
theorem lSub.put1 {L L' : List (Nat × cV)} (h : lSub L L') (i : Nat) (v : cV) : lSub (c_put1 L i v) (c_put1 L' i v) := by
  intro q hq
  unfold c_put1 at hq ⊢
  rcases List.mem_cons.mp hq with rfl | hq
  · exact if_pos rfl
  · obtain ⟨h1, h2⟩ := List.mem_filter.mp hq
    have hne : ¬ i = q.1 := by
      intro e
      simp [← e] at h2
    unfold c_find
    rw [if_neg hne]
    exact c_find_filter (h q h1) h2
theorem lSub.put2 {L L' : List (Nat × cV)} (h : lSub L L') (i : Nat) (v : cV) : lSub (c_put2 L i v) (c_put2 L' i v) := by
  intro q hq
  unfold c_put2 at hq ⊢
  rcases List.mem_cons.mp hq with rfl | hq
  · exact if_pos rfl
  · obtain ⟨h1, h2⟩ := List.mem_filter.mp hq
    have hne : ¬ i = q.1 := by
      intro e
      simp [← e] at h2
    unfold c_find
    rw [if_neg hne]
    exact c_find_filter (h q h1) h2
def sL (L' : List (Nat × cV)) (o : cO) : cO := match o with
  | .inl q => .inl (q.1, L', q.2.2)
  | .inr r => .inr r
def c_loc : Instr → Bool
  | .iload _ => true
  | .iload_n _ => true
  | .lload _ => true
  | .lload_n _ => true
  | .aload _ => true
  | .aload_n _ => true
  | .istore _ => true
  | .istore_n _ => true
  | .astore _ => true
  | .astore_n _ => true
  | .lstore _ => true
  | .lstore_n _ => true
  | .iinc _ _ => true
  | _ => false
theorem c_if_map {α : Type} {b : Bool} {r : Option cO} {f : cO → α} : (c_if b r).map f = cond b (r.map f) none := by cases b <;> rfl
theorem c_ifE {b : Bool} {r r' : Option cO} {f : cO → cO} (h : r' = r.map f) : c_if b r' = (c_if b r).map f := by
  subst h
  cases b <;> rfl
section WK
variable {P : xP} {m pc : Nat} {st : List cV} {h : cH} {xs : Nat → Int} {Ln : Nat}
theorem w_op2 {f : Int → Int → Int} (L L' : List (Nat × cV)) : c_op2 pc L' st h f = (c_op2 pc L st h f).map (sL L') := by
  unfold c_op2
  (repeat' split) <;> rfl
theorem w_opL {f : Int → Int → Int} (L L' : List (Nat × cV)) : c_opL pc L' st h f = (c_opL pc L st h f).map (sL L') := by
  unfold c_opL
  (repeat' split) <;> rfl
theorem w_opS {f : Int → Int → Int} (L L' : List (Nat × cV)) : c_opS pc L' st h f = (c_opS pc L st h f).map (sL L') := by
  unfold c_opS
  (repeat' split) <;> rfl
theorem w_lcmp (L L' : List (Nat × cV)) : c_lcmp pc L' st h = (c_lcmp pc L st h).map (sL L') := by
  unfold c_lcmp
  (repeat' split) <;> rfl
theorem w_div {f : Int → Int → Int} (L L' : List (Nat × cV)) : c_div pc L' st h f = (c_div pc L st h f).map (sL L') := by
  unfold c_div
  (repeat' split) <;> rfl
theorem w_divL {f : Int → Int → Int} (L L' : List (Nat × cV)) : c_divL pc L' st h f = (c_divL pc L st h f).map (sL L') := by
  unfold c_divL
  (repeat' split) <;> rfl
theorem w_un {t t' : Nat} {f : Int → Int} (L L' : List (Nat × cV)) : c_un pc L' st h t t' f = (c_un pc L st h t t' f).map (sL L') := by
  unfold c_un
  (repeat' split) <;> rfl
theorem w_dup (L L' : List (Nat × cV)) : c_dup pc L' st h = (c_dup pc L st h).map (sL L') := by
  unfold c_dup
  (repeat' split) <;> rfl
theorem w_pop (L L' : List (Nat × cV)) : c_pop pc L' st h = (c_pop pc L st h).map (sL L') := by
  unfold c_pop
  (repeat' split) <;> rfl
theorem w_dup2 (L L' : List (Nat × cV)) : c_dup2 pc L' st h = (c_dup2 pc L st h).map (sL L') := by
  unfold c_dup2
  (repeat' split) <;> rfl
theorem w_br {c : ClassFile.Cond} {v w : cV} {r : List cV} {off : Int} (L L' : List (Nat × cV)) : c_br pc L' h c v w r off = (c_br pc L h c v w r off).map (sL L') := by
  unfold c_br
  by_cases g : v.1 = 0 ∧ w.1 = 0 ∧ 0 ≤ (pc : Int) + off
  · rw [if_pos g, if_pos g]
    rfl
  · rw [if_neg g, if_neg g]
    rfl
theorem w_if1 {c : ClassFile.Cond} {off : Int} (L L' : List (Nat × cV)) : c_if1 pc L' st h c off = (c_if1 pc L st h c off).map (sL L') := by
  unfold c_if1
  split
  · exact w_br L L'
  · rfl
theorem w_if2 {c : ClassFile.Cond} {off : Int} (L L' : List (Nat × cV)) : c_if2 pc L' st h c off = (c_if2 pc L st h c off).map (sL L') := by
  unfold c_if2
  split
  · exact w_br L L'
  · rfl
theorem w_goto {off : Int} (L L' : List (Nat × cV)) : c_goto pc L' st h off = (c_goto pc L st h off).map (sL L') := by
  unfold c_goto
  (repeat' split) <;> rfl
theorem w_sw {dflt lo hi : Int} {offs : List Int} (L L' : List (Nat × cV)) : c_sw pc L' st h dflt lo hi offs = (c_sw pc L st h dflt lo hi offs).map (sL L') := by
  unfold c_sw
  split
  next v r =>
    by_cases g : v.1 = 0 ∧ (offs.length : Int) = hi - lo + 1 ∧ 0 ≤ (pc : Int) + c_swT dflt lo hi offs v.2
    · rw [if_pos g, if_pos g]
      rfl
    · rw [if_neg g, if_neg g]
      rfl
  · rfl
theorem w_lsw {dflt : Int} {ps : List (Int × Int)} (L L' : List (Nat × cV)) : c_lsw pc L' st h dflt ps = (c_lsw pc L st h dflt ps).map (sL L') := by
  unfold c_lsw
  (repeat' split) <;> rfl
theorem w_getf {idx : Nat} (L L' : List (Nat × cV)) : c_getf P m pc L' st h idx = (c_getf P m pc L st h idx).map (sL L') := by
  unfold c_getf
  (repeat' split) <;> rfl
theorem w_putf {idx : Nat} (L L' : List (Nat × cV)) : c_putf P m pc L' st h idx = (c_putf P m pc L st h idx).map (sL L') := by
  unfold c_putf
  (repeat' split) <;> rfl
theorem w_ald {t ty : Nat} (L L' : List (Nat × cV)) : c_ald m pc L' st h xs Ln t ty = (c_ald m pc L st h xs Ln t ty).map (sL L') := by
  unfold c_ald
  (repeat' split) <;> rfl
theorem w_ast {t ty : Nat} (L L' : List (Nat × cV)) : c_ast pc L' st h t ty = (c_ast pc L st h t ty).map (sL L') := by
  unfold c_ast
  (repeat' split) <;> rfl
theorem w_alen (L L' : List (Nat × cV)) : c_alen m pc L' st h Ln = (c_alen m pc L st h Ln).map (sL L') := by
  unfold c_alen
  (repeat' split) <;> rfl
theorem w_newa {ty : Nat} (L L' : List (Nat × cV)) : c_newa pc L' st h ty = (c_newa pc L st h ty).map (sL L') := by
  unfold c_newa
  (repeat' split) <;> rfl
theorem w_newo {idx : Nat} (L L' : List (Nat × cV)) : c_newo P m pc L' st h idx = (c_newo P m pc L st h idx).map (sL L') := by
  unfold c_newo
  (repeat' split) <;> rfl
theorem w_call {j : Nat} {as rest : List cV} (L' : List (Nat × cV)) : c_call P j as rest = (c_call P j as rest).map (sL L') := by
  unfold c_call
  (repeat' split) <;> rfl
theorem w_cpy (L L' : List (Nat × cV)) : c_cpy pc L' st h = (c_cpy pc L st h).map (sL L') := by
  unfold c_cpy
  (repeat' split) <;> rfl
theorem w_invV {idx : Nat} (L' : List (Nat × cV)) : c_invV P m st h idx = (c_invV P m st h idx).map (sL L') := by
  unfold c_invV
  (repeat' split) <;> first | rfl | exact w_call L'
theorem w_invI {idx : Nat} (L L' : List (Nat × cV)) : c_invI P m pc L' st h idx = (c_invI P m pc L st h idx).map (sL L') := by
  unfold c_invI
  (repeat' split) <;> first | rfl | exact w_call L'
theorem w_invS {idx : Nat} (L L' : List (Nat × cV)) : c_invS P m pc L' st h idx = (c_invS P m pc L st h idx).map (sL L') := by
  unfold c_invS
  (repeat' split) <;> first | rfl | exact w_call L' | exact w_cpy L L'
theorem w_ret {t : Nat} (L' : List (Nat × cV)) : c_ret P m st t = (c_ret P m st t).map (sL L') := by
  unfold c_ret
  split
  next v =>
    by_cases g : v.1 = t ∧ (t = 0 ∧ x_retk P m = 1 ∨ t = 0 ∧ x_retk P m = 2 ∧ c_fit 3 v = true ∨ t = 1 ∧ x_retk P m = 3 ∨ t = 3 ∧ x_retk P m = 4)
    · rw [if_pos g]
      rfl
    · rw [if_neg g]
      rfl
  · rfl
theorem w_retV (L' : List (Nat × cV)) : c_retV P m st = (c_retV P m st).map (sL L') := by
  unfold c_retV
  (repeat' split) <;> rfl
theorem w_ins {i : Instr} {len : Nat} (hi : c_loc i = false) (L L' : List (Nat × cV)) : c_ins P m pc L' st h xs Ln i len = (c_ins P m pc L st h xs Ln i len).map (sL L') := by
  cases i <;> first
    | rfl
    | (exact Bool.noConfusion hi)
    | (exact c_ifE rfl)
    | (exact c_ifE (w_op2 L L'))
    | (exact c_ifE (w_opL L L'))
    | (exact c_ifE (w_opS L L'))
    | (exact c_ifE (w_lcmp L L'))
    | (exact c_ifE (w_div L L'))
    | (exact c_ifE (w_divL L L'))
    | (exact c_ifE (w_un L L'))
    | (exact c_ifE (w_dup L L'))
    | (exact c_ifE (w_pop L L'))
    | (exact c_ifE (w_dup2 L L'))
    | (exact c_ifE (w_if1 L L'))
    | (exact c_ifE (w_if2 L L'))
    | (exact c_ifE (w_goto L L'))
    | (exact w_sw L L')
    | (exact w_lsw L L')
    | (exact c_ifE (w_getf L L'))
    | (exact c_ifE (w_putf L L'))
    | (exact c_ifE (w_ald L L'))
    | (exact c_ifE (w_ast L L'))
    | (exact c_ifE (w_alen L L'))
    | (exact c_ifE (w_newo L L'))
    | (exact c_ifE (w_invV L'))
    | (exact c_ifE (w_invI L L'))
    | (exact c_ifE (w_invS L L'))
    | (exact c_ifE (w_ret L'))
    | (exact c_ifE (w_retV L'))
    | (refine c_ifE ?_; (repeat' split) <;> first | rfl | exact w_newa L L')
def w_rel (o o' : cO) : Prop := match o, o' with
  | .inl q, .inl q' => q'.1 = q.1 ∧ q'.2.2 = q.2.2 ∧ lSub q.2.1 q'.2.1
  | .inr r, .inr r' => r = r'
  | _, _ => False
theorem w_ofmap {F : List (Nat × cV) → Option cO} {L L' : List (Nat × cV)} {o : cO} (hs : lSub L L') (hF : ∀ L L', F L' = (F L).map (sL L')) (h1 : F L = some o) : ∃ o', F L' = some o' ∧ w_rel o o' := by
  have h2 := hF L L'
  have h3 := hF L L
  rw [h1] at h2 h3
  refine ⟨sL L' o, h2, ?_⟩
  cases o with
  | inl q =>
    have h4 : q = (q.1, L, q.2.2) := by
      have := Option.some.inj h3
      exact Sum.inl.inj this
    refine ⟨rfl, rfl, ?_⟩
    rw [h4]
    exact hs
  | inr r => exact rfl
theorem c_if_ok2 {b : Bool} {r : Option cO} {o : cO} (h1 : c_if b r = some o) : b = true ∧ r = some o := by
  cases b
  · cases h1
  · exact ⟨rfl, h1⟩
theorem w_ld {L L' : List (Nat × cV)} {n t i : Nat} {o : cO} (hs : lSub L L') (h1 : c_ld pc L st h n t i = some o) : ∃ o', c_ld pc L' st h n t i = some o' ∧ w_rel o o' := by
  unfold c_ld at h1 ⊢
  split at h1
  next v hv =>
    rw [hs.find hv]
    dsimp only
    split at h1
    next g =>
      cases h1
      rw [if_pos g]
      exact ⟨_, rfl, rfl, rfl, hs⟩
    next => cases h1
  next => cases h1
theorem w_lda {L L' : List (Nat × cV)} {n i : Nat} {o : cO} (hs : lSub L L') (h1 : c_lda pc L st h n i = some o) : ∃ o', c_lda pc L' st h n i = some o' ∧ w_rel o o' := by
  unfold c_lda at h1 ⊢
  split at h1
  next v hv =>
    rw [hs.find hv]
    dsimp only
    split at h1
    next g =>
      cases h1
      rw [if_pos g]
      exact ⟨_, rfl, rfl, rfl, hs⟩
    next => cases h1
  next => cases h1
theorem w_st {L L' : List (Nat × cV)} {n t i : Nat} {o : cO} (hs : lSub L L') (h1 : c_st P m pc L st h n t i = some o) : ∃ o', c_st P m pc L' st h n t i = some o' ∧ w_rel o o' := by
  unfold c_st at h1 ⊢
  split at h1
  next v r =>
    split at h1
    next g =>
      cases h1
      rw [if_pos g]
      exact ⟨_, rfl, rfl, rfl, hs.put1 _ _⟩
    next => cases h1
  next => cases h1
theorem w_stL {L L' : List (Nat × cV)} {n i : Nat} {o : cO} (hs : lSub L L') (h1 : c_stL P m pc L st h n i = some o) : ∃ o', c_stL P m pc L' st h n i = some o' ∧ w_rel o o' := by
  unfold c_stL at h1 ⊢
  split at h1
  next v r =>
    split at h1
    next g =>
      cases h1
      rw [if_pos g]
      exact ⟨_, rfl, rfl, rfl, hs.put2 _ _⟩
    next => cases h1
  next => cases h1
theorem w_iinc {L L' : List (Nat × cV)} {i : Nat} {n : Int} {o : cO} (hs : lSub L L') (h1 : c_iinc P m pc L st h i n = some o) : ∃ o', c_iinc P m pc L' st h i n = some o' ∧ w_rel o o' := by
  unfold c_iinc at h1 ⊢
  split at h1
  next v hv =>
    rw [hs.find hv]
    dsimp only
    split at h1
    next g =>
      cases h1
      rw [if_pos g]
      exact ⟨_, rfl, rfl, rfl, hs.put1 _ _⟩
    next => cases h1
  next => cases h1
theorem w_cif {b : Bool} {r r' : Option cO} {o : cO} (h1 : c_if b r = some o) (k : r = some o → ∃ o', r' = some o' ∧ w_rel o o') : ∃ o', c_if b r' = some o' ∧ w_rel o o' := by
  obtain ⟨rfl, h2⟩ := c_if_ok2 h1
  exact k h2
theorem w_all {i : Instr} {len : Nat} {L L' : List (Nat × cV)} {o : cO} (hs : lSub L L') (h1 : c_ins P m pc L st h xs Ln i len = some o) : ∃ o', c_ins P m pc L' st h xs Ln i len = some o' ∧ w_rel o o' := by
  cases hi : c_loc i with
  | false => exact w_ofmap (F := fun L => c_ins P m pc L st h xs Ln i len) hs (fun L L' => w_ins hi L L') h1
  | true =>
    cases i <;> first
      | (exact Bool.noConfusion hi)
      | (exact w_cif h1 (w_ld hs))
      | (exact w_cif h1 (w_lda hs))
      | (exact w_cif h1 (w_st hs))
      | (exact w_cif h1 (w_stL hs))
      | (exact w_cif h1 (w_iinc hs))
end WK
theorem c_wk {P : xP} {xs : Nat → Int} {Ln : Nat} : ∀ {n d m pc : Nat} {L L' : List (Nat × cV)} {st : List cV} {h : cH} {res : Option cV × cH}, lSub L L' → c_exec P xs Ln n d m pc L st h = some res → c_exec P xs Ln n d m pc L' st h = some res := by
  intro n
  induction n with
  | zero => intro d m pc L L' st h res _ h1; cases h1
  | succ n ih =>
    intro d m pc L L' st h res hs h1
    obtain ⟨i, len, hc, h2 | h2 | h2⟩ := c_exec_ok h1
    · obtain ⟨q, h2, h3⟩ := h2
      obtain ⟨o', h4, h5⟩ := w_all hs h2
      cases o' with
      | inr r => exact absurd h5 id
      | inl q' =>
        obtain ⟨h6, h7, h8⟩ := h5
        unfold c_exec
        simp only [hc, h4]
        rw [h6, h7]
        exact ih h8 h3
    · obtain ⟨o', h4, h5⟩ := w_all hs h2.1
      cases o' with
      | inl q' => exact absurd h5 id
      | inr r =>
        have h6 : _ = r := h5
        subst h6
        unfold c_exec
        simp only [hc, h4]
        rw [← h2.2]
    · obtain ⟨j, as, rest, d', r, h4, h5, h6, h7, h8⟩ := h2
      obtain ⟨o', h9, h10⟩ := w_all hs h5
      cases o' with
      | inl q' => exact absurd h10 id
      | inr r' =>
        have h11 : _ = r' := h10
        subst h11
        subst h6
        unfold c_exec
        simp only [hc, h9, h7]
        exact ih hs h8
theorem cP.wk {P : xP} {xs : Nat → Int} {Ln d m pc : Nat} {L L' : List (Nat × cV)} {st : List cV} {h : cH} {Q : Option cV → cH → Prop} (hs : lSub L L') (g : cP P xs Ln d m pc L st h Q) : cP P xs Ln d m pc L' st h Q := by
  obtain ⟨r, h', ⟨n, g1⟩, g2⟩ := g
  exact ⟨r, h', ⟨n, c_wk hs g1⟩, g2⟩
theorem lS0 {L' : List (Nat × cV)} : lSub [] L' := fun q hq => absurd hq List.not_mem_nil
theorem lS1 {L L' : List (Nat × cV)} {i : Nat} {v : cV} (h : c_find L' i = some v) (k : lSub L L') : lSub ((i, v) :: L) L' := by
  intro q hq
  rcases List.mem_cons.mp hq with rfl | hq
  · exact h
  · exact k q hq
