/-! sums, worked out: a small machine with a stack (top first) over the codes; numbers up to a million, facts 0 or 1 -/
def pLm (v : Int) : Int := if v > 1000000 then 1000000 else if v < -1000000 then -1000000 else v
/-- floor of a / b, what is left -/
def pFl (a b : Int) : Int := if 0 < b then a / b else if b < 0 then (-a) / (-b) else 0
def pRm (a b : Int) : Int := if 0 < b then a % b else if b < 0 then -((-a) % (-b)) else 0
def pCb (c a b : Int) : Int :=
  if c = -7 then pLm (a + b) else if c = -8 then pLm (a - b) else if c = -9 then pLm (a * b) else if c = -10 then pLm (pFl a b) else if c = -11 then pRm a b
  else if c = -12 then (if a < b then a else b) else if c = -13 then (if b < a then a else b)
  else if c = -14 then (if a < b then 1 else 0) else if c = -15 then (if b < a then 1 else 0) else if c = -16 then (if a = b then 1 else 0)
  else if c = -17 then (if a = 1 ∧ b = 1 then 1 else 0) else (if a = 1 ∨ b = 1 then 1 else 0)
def pFc (a : Int) : Prop := a = 0 ∨ a = 1
def pXs (lim : Int) (g : Int → Int) (c : Int) (st : List Int) : Option (List Int) :=
  if 0 ≤ c then (if (st.length : Int) < lim ∧ c ≤ 1000000 then some (c :: st) else none)
  else if -6 ≤ c then (if (st.length : Int) < lim then some (g c :: st) else none)
  else if c = -19 then (match st with
    | a :: r => if a = 0 ∨ a = 1 then some ((1 - a) :: r) else none
    | [] => none)
  else if c = -20 then (match st with
    | z :: y :: x :: r => if x = 0 ∨ x = 1 then some ((if x = 1 then y else z) :: r) else none
    | _ => none)
  else (match st with
    | b :: a :: r => if -18 ≤ c ∧ ((c = -17 ∨ c = -18) → (a = 0 ∨ a = 1) ∧ (b = 0 ∨ b = 1)) then some (pCb c a b :: r) else none
    | _ => none)
def pXr (lim : Int) (g : Int → Int) : List Int → List Int → Option (List Int)
  | [], st => some st
  | c :: cs, st => match pXs lim g c st with
    | some st1 => pXr lim g cs st1
    | none => none
def pBd (v : Int) : Prop := -1000000 ≤ v ∧ v ≤ 1000000
def pBg (g : Int → Int) : Prop := ∀ i, 0 ≤ g i ∧ g i ≤ 1000000
section EV
variable {lim : Int} {g : Int → Int} {a b c x y z : Int} {st : List Int}
theorem pXr_app : ∀ (u w st : List Int), pXr lim g (u ++ w) st = (match pXr lim g u st with
    | some st1 => pXr lim g w st1
    | none => none)
  | [], _, _ => rfl
  | c :: u, w, st => by
    show (match pXs lim g c st with
      | some st1 => pXr lim g (u ++ w) st1
      | none => none) = (match (match pXs lim g c st with
        | some st1 => pXr lim g u st1
        | none => none) with
      | some st1 => pXr lim g w st1
      | none => none)
    cases pXs lim g c st with
    | none => rfl
    | some st1 => exact pXr_app u w st1
theorem pXr_cat {u w st1 : List Int} (h : pXr lim g u st = some st1) : pXr lim g (u ++ w) st = pXr lim g w st1 := by
  rw [pXr_app, h]
theorem pXr_one : pXr lim g [c] st = pXs lim g c st := by
  show (match pXs lim g c st with
    | some st1 => some st1
    | none => none) = _
  cases pXs lim g c st <;> rfl
theorem pLm_b : pBd (pLm a) := by
  unfold pLm pBd
  (repeat' split) <;> omega
theorem pRm_b (h : pBd b) : pBd (pRm a b) := by
  unfold pRm
  unfold pBd at h ⊢
  split
  next g =>
    have h1 := Int.emod_nonneg a (show b ≠ 0 by omega)
    have h2 := Int.emod_lt_of_pos a g
    omega
  next g =>
    split
    next g2 =>
      have h1 := Int.emod_nonneg (-a) (show -b ≠ 0 by omega)
      have h2 := Int.emod_lt_of_pos (-a) (show 0 < -b by omega)
      omega
    next => omega
theorem pCb_b (ha : pBd a) (hb : pBd b) : pBd (pCb c a b) := by
  have h1 := @pLm_b (a + b)
  have h2 := @pLm_b (a - b)
  have h3 := @pLm_b (a * b)
  have h4 := @pLm_b (pFl a b)
  have h5 := pRm_b (a := a) hb
  unfold pCb
  unfold pBd at *
  (repeat' split) <;> omega
theorem pCb_f (h : c ≤ -14) (h2 : -18 ≤ c) : pCb c a b = 0 ∨ pCb c a b = 1 := by
  unfold pCb
  rw [if_neg (by omega), if_neg (by omega), if_neg (by omega), if_neg (by omega), if_neg (by omega), if_neg (by omega), if_neg (by omega)]
  (repeat' split) <;> omega
theorem pXs_n (h : 0 ≤ c ∧ c ≤ 1000000) (hl : (st.length : Int) < lim) : pXs lim g c st = some (c :: st) := by
  unfold pXs
  rw [if_pos h.1, if_pos ⟨hl, h.2⟩]
theorem pXs_g (h : -6 ≤ c ∧ c ≤ -1) (hl : (st.length : Int) < lim) : pXs lim g c st = some (g c :: st) := by
  unfold pXs
  rw [if_neg (by omega), if_pos h.1, if_pos hl]
theorem pXs_not (ha : a = 0 ∨ a = 1) : pXs lim g (-19) (a :: st) = some ((1 - a) :: st) := by
  unfold pXs
  rw [if_neg (by decide), if_neg (by decide), if_pos rfl]
  exact if_pos ha
theorem pXs_if (hx : x = 0 ∨ x = 1) : pXs lim g (-20) (z :: y :: x :: st) = some ((if x = 1 then y else z) :: st) := by
  unfold pXs
  rw [if_neg (by decide), if_neg (by decide), if_neg (by decide), if_pos rfl]
  exact if_pos hx
theorem pXs_two (h : -18 ≤ c ∧ c ≤ -7) (hf : (c = -17 ∨ c = -18) → (a = 0 ∨ a = 1) ∧ (b = 0 ∨ b = 1)) : pXs lim g c (b :: a :: st) = some (pCb c a b :: st) := by
  unfold pXs
  rw [if_neg (by omega), if_neg (by omega), if_neg (by omega), if_neg (by omega)]
  exact if_pos ⟨h.1, hf⟩
/-- all numbers stay below a million -/
theorem pXs_bd {st1 : List Int} (hg : pBg g) (hb : ∀ v ∈ st, pBd v) (h : pXs lim g c st = some st1) : ∀ v ∈ st1, pBd v := by
  unfold pXs at h
  split at h
  next h0 =>
    split at h
    next h1 =>
      injection h with h
      subst h
      intro v hv
      rcases List.mem_cons.mp hv with rfl | hv
      · exact ⟨by omega, h1.2⟩
      · exact hb v hv
    next => cases h
  next h0 =>
    split at h
    next h1 =>
      split at h
      next h2 =>
        injection h with h
        subst h
        intro v hv
        rcases List.mem_cons.mp hv with rfl | hv
        · have := hg c
          exact ⟨by omega, this.2⟩
        · exact hb v hv
      next => cases h
    next h1 =>
      split at h
      next h2 =>
        split at h
        next a r =>
          split at h
          next h3 =>
            injection h with h
            subst h
            intro v hv
            rcases List.mem_cons.mp hv with rfl | hv
            · unfold pBd
              omega
            · exact hb v (List.mem_cons_of_mem _ hv)
          next => cases h
        next => cases h
      next h2 =>
        split at h
        next h3 =>
          split at h
          next z y x r =>
            split at h
            next h4 =>
              injection h with h
              subst h
              intro v hv
              rcases List.mem_cons.mp hv with rfl | hv
              · split
                · exact hb _ (List.mem_cons_of_mem _ List.mem_cons_self)
                · exact hb _ List.mem_cons_self
              · exact hb v (List.mem_cons_of_mem _ (List.mem_cons_of_mem _ (List.mem_cons_of_mem _ hv)))
            next => cases h
          next => cases h
        next h3 =>
          split at h
          next b a r =>
            split at h
            next h4 =>
              injection h with h
              subst h
              intro v hv
              rcases List.mem_cons.mp hv with rfl | hv
              · exact pCb_b (hb _ (List.mem_cons_of_mem _ List.mem_cons_self)) (hb _ List.mem_cons_self)
              · exact hb v (List.mem_cons_of_mem _ (List.mem_cons_of_mem _ hv))
            next => cases h
          next => cases h
end EV
/-- codes (newest first) of a number, of a fact; d: how much room they take -/
def TN (d : Int) (c : List Int) : Prop := ∀ (lim : Int) (g : Int → Int) (st : List Int), (st.length : Int) + d ≤ lim → pBg g → ∃ v, pBd v ∧ pXr lim g c.reverse st = some (v :: st)
def TF (d : Int) (c : List Int) : Prop := ∀ (lim : Int) (g : Int → Int) (st : List Int), (st.length : Int) + d ≤ lim → pBg g → ∃ v, (v = 0 ∨ v = 1) ∧ pXr lim g c.reverse st = some (v :: st)
section TNF
variable {d d1 d2 d3 c : Int} {u w y : List Int}
theorem TN.le (h : TN d u) (hd : d ≤ d1) : TN d1 u := fun lim g st hl hg => h lim g st (by omega) hg
theorem TF.le (h : TF d u) (hd : d ≤ d1) : TF d1 u := fun lim g st hl hg => h lim g st (by omega) hg
theorem TN.num (h : 0 ≤ c ∧ c ≤ 1000000) (hd : 1 ≤ d) : TN d [c] := fun lim g st hl hg => ⟨c, ⟨by omega, h.2⟩, by
  show pXr lim g [c] st = _
  rw [pXr_one, pXs_n h (by omega)]⟩
theorem TF.one (hd : 1 ≤ d) : TF d [1] := fun lim g st hl hg => ⟨1, Or.inr rfl, by
  show pXr lim g [1] st = _
  rw [pXr_one, pXs_n (by decide) (by omega)]⟩
theorem TN.giv (h : -6 ≤ c ∧ c ≤ -1) (hd : 1 ≤ d) : TN d [c] := fun lim g st hl hg => ⟨g c, ⟨by have := hg c; omega, (hg c).2⟩, by
  show pXr lim g [c] st = _
  rw [pXr_one, pXs_g h (by omega)]⟩
theorem rev2 : (c :: (w ++ u)).reverse = u.reverse ++ (w.reverse ++ [c]) := by
  rw [List.reverse_cons, List.reverse_append, List.append_assoc]
theorem TN.two (h1 : TN d1 u) (h2 : TN d2 w) (hd1 : d1 ≤ d) (hd2 : d2 + 1 ≤ d) (hc : -13 ≤ c ∧ c ≤ -7) : TN d (c :: (w ++ u)) := fun lim g st hl hg => by
  obtain ⟨a, ha, e1⟩ := h1 lim g st (by omega) hg
  obtain ⟨b, hb, e2⟩ := h2 lim g (a :: st) (by rw [List.length_cons]; omega) hg
  refine ⟨pCb c a b, pCb_b ha hb, ?_⟩
  rw [rev2, pXr_cat e1, pXr_cat e2, pXr_one, pXs_two (by omega) (fun z => by omega)]
theorem TF.cmp (h1 : TN d1 u) (h2 : TN d2 w) (hd1 : d1 ≤ d) (hd2 : d2 + 1 ≤ d) (hc : -16 ≤ c ∧ c ≤ -14) : TF d (c :: (w ++ u)) := fun lim g st hl hg => by
  obtain ⟨a, ha, e1⟩ := h1 lim g st (by omega) hg
  obtain ⟨b, hb, e2⟩ := h2 lim g (a :: st) (by rw [List.length_cons]; omega) hg
  refine ⟨pCb c a b, pCb_f (by omega) (by omega), ?_⟩
  rw [rev2, pXr_cat e1, pXr_cat e2, pXr_one, pXs_two (by omega) (fun z => by omega)]
theorem TF.two (h1 : TF d1 u) (h2 : TF d2 w) (hd1 : d1 ≤ d) (hd2 : d2 + 1 ≤ d) (hc : c = -17 ∨ c = -18) : TF d (c :: (w ++ u)) := fun lim g st hl hg => by
  obtain ⟨a, ha, e1⟩ := h1 lim g st (by omega) hg
  obtain ⟨b, hb, e2⟩ := h2 lim g (a :: st) (by rw [List.length_cons]; omega) hg
  refine ⟨pCb c a b, pCb_f (by omega) (by omega), ?_⟩
  rw [rev2, pXr_cat e1, pXr_cat e2, pXr_one, pXs_two (by omega) (fun _ => ⟨ha, hb⟩)]
theorem TF.not (h1 : TF d1 u) (hd1 : d1 ≤ d) : TF d (-19 :: u) := fun lim g st hl hg => by
  obtain ⟨a, ha, e1⟩ := h1 lim g st (by omega) hg
  refine ⟨1 - a, by omega, ?_⟩
  rw [List.reverse_cons, pXr_cat e1, pXr_one, pXs_not ha]
theorem TN.ite (h1 : TF d1 u) (h2 : TN d2 w) (h3 : TN d3 y) (hd1 : d1 ≤ d) (hd2 : d2 + 1 ≤ d) (hd3 : d3 + 2 ≤ d) : TN d (-20 :: (y ++ (w ++ u))) := fun lim g st hl hg => by
  obtain ⟨a, ha, e1⟩ := h1 lim g st (by omega) hg
  obtain ⟨b, hb, e2⟩ := h2 lim g (a :: st) (by rw [List.length_cons]; omega) hg
  obtain ⟨x, hx, e3⟩ := h3 lim g (b :: a :: st) (by rw [List.length_cons, List.length_cons]; omega) hg
  refine ⟨if a = 1 then b else x, by split; exact hb; exact hx, ?_⟩
  rw [rev2, List.reverse_append, List.append_assoc, pXr_cat e1, pXr_cat e2, pXr_cat e3, pXr_one, pXs_if ha]
end TNF
/-! the town that a text tells, statement by statement: D 0: rooms, people, breaks, carpenter; D 1 names of rooms, 2 doors, 3 floors, 4 minutes, 5 names of people, 6 strong, 7 weight, 8 width, 9 partner, 10 home; 11 slow told, 12 stands told -/
/-! a formula's codes -/
def fRw (M : cM) (f i : Nat) : Int := if (M f 1).toNat = f + 2 ∨ 114 ≤ (M f 1).toNat then M (M f 1).toNat i else 0
def fCd (M : cM) (f i : Nat) : Int := if i = 0 then (if M f 2 = 0 then 0 else M f 2 + 1) else if ((i - 1 : Nat) : Int) < M f 2 then fRw M f (i - 1) else 0
theorem fRw_eq {M M1 : cM} {f : Nat} (e1 : M1 f 1 = M f 1) (e3 : ∀ i, M1 (f + 2) i = M (f + 2) i) (e4 : ∀ k i, 114 ≤ k → M1 k i = M k i) : ∀ i, fRw M1 f i = fRw M f i := by
  intro i
  unfold fRw
  rw [e1]
  by_cases g : (M f 1).toNat = f + 2 ∨ 114 ≤ (M f 1).toNat
  · rw [if_pos g, if_pos g]
    rcases g with g | g
    · rw [g]
      exact e3 i
    · exact e4 _ i g
  · rw [if_neg g, if_neg g]
theorem fCd_eq {M M1 : cM} {f : Nat} (e1 : M1 f 1 = M f 1) (e2 : M1 f 2 = M f 2) (e3 : ∀ i, M1 (f + 2) i = M (f + 2) i) (e4 : ∀ k i, 114 ≤ k → M1 k i = M k i) : ∀ i, fCd M1 f i = fCd M f i := by
  intro i
  unfold fCd
  rw [e2, fRw_eq e1 e3 e4]
/-- a frame keeps the formulas -/
def frk (S : List (Nat × Nat)) : Bool := S.all fun q => decide (q.1 < 114) && (q.1 != 19 && (q.1 != 21 && (q.1 != 22 && (q.1 != 24 && (q.1 != 36 && (q.1 != 38 && (q.1 != 39 && q.1 != 41)))))))
theorem frk_c {S : List (Nat × Nat)} (hs : frk S = true) {c : Nat} (hc : 114 ≤ c ∨ c = 19 ∨ c = 21 ∨ c = 22 ∨ c = 24 ∨ c = 36 ∨ c = 38 ∨ c = 39 ∨ c = 41) : ∀ f, c_in S c f = false := by
  have h0 : ∀ q ∈ S, q.1 < 114 ∧ q.1 ≠ 19 ∧ q.1 ≠ 21 ∧ q.1 ≠ 22 ∧ q.1 ≠ 24 ∧ q.1 ≠ 36 ∧ q.1 ≠ 38 ∧ q.1 ≠ 39 ∧ q.1 ≠ 41 := fun q hq => by
    have := List.all_eq_true.mp hs q hq
    simpa using this
  by_cases g : 114 ≤ c
  · exact nin_far g (List.all_eq_true.mpr fun q hq => by have := h0 q hq; simp; omega)
  · exact nin (by omega) (List.all_eq_true.mpr fun q hq => by have := h0 q hq; simp; omega)
theorem fRw_fr {S : List (Nat × Nat)} {M M1 : cM} {f : Nat} (hf : fF f) (g : Fr S M M1) (hs : frk S = true) : M1 f 1 = M f 1 ∧ M1 f 2 = M f 2 ∧ ∀ i, fRw M1 f i = fRw M f i := by
  have hc := hf.cases
  have e : ∀ x, M1 f x = M f x := fun x => g f x (frk_c hs (by omega) x)
  exact ⟨e 1, e 2, fRw_eq (e 1) (fun i => g _ i (frk_c hs (by omega) i)) (fun k i hk => g k i (frk_c hs (Or.inl hk) i))⟩
theorem fCd_fr {S : List (Nat × Nat)} {M M1 : cM} {f : Nat} (hf : fF f) (g : Fr S M M1) (hs : frk S = true) : ∀ i, fCd M1 f i = fCd M f i := by
  have hc := hf.cases
  have e : ∀ x, M1 f x = M f x := fun x => g f x (frk_c hs (by omega) x)
  exact fCd_eq (e 1) (e 2) (fun i => g _ i (frk_c hs (by omega) i)) (fun k i hk => g k i (frk_c hs (Or.inl hk) i))
theorem fCd_up {M M1 : cM} {f k x : Nat} {v : Int} (hf : fF f) (u : Up M k x v M1) (hk : k < 114 ∧ (k < 19 ∨ k = 20 ∨ k = 23 ∨ (25 ≤ k ∧ k ≤ 35) ∨ k = 37 ∨ k = 40 ∨ 41 < k)) : ∀ i, fCd M1 f i = fCd M f i := by
  have hc := hf.cases
  exact fCd_eq (u.2 f 1 (by omega)) (u.2 f 2 (by omega)) (fun i => u.2 _ i (by omega)) (fun k' i h => u.2 k' i (by omega))
def owD (M : cM) (t : Nat) : cM := fun k f => if k ≤ 10 then M (t + k) f else if k = 11 then fCd M (t + 11) f else if k = 12 then fCd M (t + 14) f else 0
theorem owD_le {M : cM} {t k f : Nat} (h : k ≤ 10) : owD M t k f = M (t + k) f := if_pos h
theorem owD_eq {M M1 D : cM} {t : Nat} (h : owD M t = D) (e : ∀ k f, k ≤ 10 → M1 (t + k) f = M (t + k) f) (e1 : ∀ i, fCd M1 (t + 11) i = fCd M (t + 11) i) (e2 : ∀ i, fCd M1 (t + 14) i = fCd M (t + 14) i) : owD M1 t = D := by
  subst h
  funext a b
  unfold owD
  by_cases ha : a ≤ 10
  · rw [if_pos ha, if_pos ha]; exact e _ _ ha
  · rw [if_neg ha, if_neg ha, e1, e2]
theorem owD_up {M M1 D : cM} {t k f : Nat} {v : Int} (h : owD M t = D) (u : Up M (t + k) f v M1) (hk : k ≤ 10) (ht : t = 8 ∨ t = 25) : owD M1 t = c_up D k f v := by
  subst h
  funext a b
  unfold owD c_up
  dsimp only
  by_cases ha : a ≤ 10
  · rw [if_pos ha, if_pos ha]
    by_cases g : a = k ∧ b = f
    · rw [if_pos g, g.1, g.2]; exact u.1
    · rw [if_neg g]; exact u.2 _ _ (by omega)
  · rw [if_neg ha, if_neg ha, if_neg (show ¬ (a = k ∧ b = f) by omega), fCd_up (fF_slow ht) u (by omega), fCd_up (fF_stands ht) u (by omega)]
theorem owD_up2 {M M1 D : cM} {t k f : Nat} {v : Int} (h : owD M t = D) (u : Up M k f v M1) (hk : k < t ∨ t + 16 < k) (ht : t = 8 ∨ t = 25) (hk2 : k < 8 ∨ (41 < k ∧ k < 114)) : owD M1 t = D :=
  owD_eq h (fun a b ha => u.2 _ _ (by omega)) (fCd_up (fF_slow ht) u (by omega)) (fCd_up (fF_stands ht) u (by omega))
theorem owD_fr {S : List (Nat × Nat)} {M M1 D : cM} {t : Nat} (h : owD M t = D) (ht : t = 8 ∨ t = 25) (g : Fr S M M1) (hs : (S.all fun q => (decide (q.1 < 8) || decide (41 < q.1)) && decide (q.1 < 114)) = true) : owD M1 t = D := by
  have hc : ∀ k, 8 ≤ k → k ≤ 41 → ∀ f, M1 k f = M k f := fun k h1 h2 f => g k f (nin (by omega) (List.all_eq_true.mpr fun q hq => by have := List.all_eq_true.mp hs q hq; simp at this ⊢; omega) f)
  have hk : frk S = true := List.all_eq_true.mpr fun q hq => by
    have := List.all_eq_true.mp hs q hq
    simp at this ⊢
    omega
  exact owD_eq h (fun a b ha => hc _ (by omega) (by omega) b) (fCd_fr (fF_slow ht) g hk) (fCd_fr (fF_stands ht) g hk)
theorem owD_at {M D : cM} {t k f : Nat} (h : owD M t = D) (hk : k ≤ 10) : M (t + k) f = D k f := by
  rw [← h, owD_le hk]
def owIF (g : Nat → Int) (v : Int) : Nat → Nat → Int
  | 0, _ => -1
  | k + 1, i => if g i = v then (i : Int) else owIF g v k (i + 1)
/-- the first place below m at which v stands, -1 without one -/
def owIx (g : Nat → Int) (v : Int) (m : Nat) : Int := owIF g v m 0
theorem owIF_rng (g : Nat → Int) (v : Int) : ∀ (k i : Nat), owIF g v k i = -1 ∨ ((i : Int) ≤ owIF g v k i ∧ owIF g v k i < (i : Int) + k ∧ g (owIF g v k i).toNat = v)
  | 0, i => Or.inl rfl
  | k + 1, i => by
    unfold owIF
    split
    next h => exact Or.inr ⟨Int.le_refl _, by omega, by rw [Int.toNat_natCast]; exact h⟩
    next h =>
      rcases owIF_rng g v k (i + 1) with h2 | ⟨h2, h3, h4⟩
      · exact Or.inl h2
      · exact Or.inr ⟨by omega, by omega, h4⟩
theorem owIx_rng (g : Nat → Int) (v : Int) (m : Nat) : owIx g v m = -1 ∨ (0 ≤ owIx g v m ∧ owIx g v m < m ∧ g (owIx g v m).toNat = v) := by
  rcases owIF_rng g v m 0 with h | ⟨h1, h2, h3⟩
  · exact Or.inl h
  · exact Or.inr ⟨by unfold owIx; omega, by unfold owIx; omega, h3⟩
theorem owIF_congr {g g2 : Nat → Int} {v v2 : Int} : ∀ (k i : Nat), (∀ j, i ≤ j → j < i + k → (g j = v ↔ g2 j = v2)) → owIF g v k i = owIF g2 v2 k i
  | 0, _, _ => rfl
  | k + 1, i, h => by
    unfold owIF
    have h0 := h i (Nat.le_refl _) (by omega)
    have h1 := owIF_congr k (i + 1) (fun j a b => h j (by omega) (by omega))
    by_cases e : g i = v
    · rw [if_pos e, if_pos (h0.mp e)]
    · rw [if_neg e, if_neg (fun z => e (h0.mpr z)), h1]
theorem owIx_congr {g g2 : Nat → Int} {v v2 : Int} {m : Nat} (h : ∀ j, j < m → (g j = v ↔ g2 j = v2)) : owIx g v m = owIx g2 v2 m := owIF_congr m 0 (fun j _ b => h j (by omega))
/-- the width of all chairs at home in a room, of the first k people -/
def owLd (D : cM) (r : Int) : Nat → Int
  | 0 => 0
  | k + 1 => owLd D r k + (if D 10 k = r then D 8 k else 0)
/-- the codes of a sum, oldest first; they can be worked out -/
def cdL (D : cM) (j : Nat) : List Int := (List.range (D j 0 - 1).toNat).map fun i => D j (i + 1)
def TD (D : cM) : Prop := ∀ j, j = 11 ∨ j = 12 → 0 ≤ D j 0 ∧ (D j 0 ≠ 0 → TN 38 (cdL D j).reverse)
theorem TD.eq {D D1 : cM} (h : TD D) (e : ∀ j f, j = 11 ∨ j = 12 → D1 j f = D j f) : TD D1 := fun j hj => by
  have h1 := h j hj
  have h2 : cdL D1 j = cdL D j := by
    unfold cdL
    rw [e j 0 hj]
    exact List.map_congr_left fun i _ => e j _ hj
  rw [e j 0 hj, h2]
  exact h1
theorem TD.up {D : cM} {k f : Nat} {v : Int} (h : TD D) (hk : k ≠ 11 ∧ k ≠ 12) : TD (c_up D k f v) := h.eq fun j g hj => if_neg (by omega)
/-- numbers of a town that is being told -/
def DW (D : cM) : Prop := 0 ≤ D 0 0 ∧ D 0 0 ≤ 8 ∧ 0 ≤ D 0 1 ∧ D 0 1 ≤ 8 ∧ (∀ i : Nat, (i : Int) < D 0 1 → 0 ≤ D 8 i ∧ D 8 i ≤ 9 ∧ 0 ≤ D 10 i ∧ D 10 i < D 0 0 ∧ 0 ≤ D 6 i ∧ D 6 i ≤ 99 ∧ 0 ≤ D 7 i ∧ D 7 i ≤ 99) ∧ (∀ i : Nat, (i : Int) < D 0 0 → D 1 i ≠ 1) ∧ (∀ i : Nat, (i : Int) < D 0 1 → D 5 i ≠ 1) ∧ (∀ i : Nat, (i : Int) < D 0 1 → -1 ≤ D 9 i ∧ D 9 i < D 0 1) ∧ (D 0 3 = -1 ∨ (0 ≤ D 0 3 ∧ D 0 3 < D 0 0))
theorem owLd_rng {D : cM} (h : DW D) (r : Int) : ∀ k : Nat, (k : Int) ≤ D 0 1 → 0 ≤ owLd D r k ∧ owLd D r k ≤ 9 * k
  | 0, _ => ⟨Int.le_refl _, Int.le_refl _⟩
  | k + 1, hk => by
    have h1 := owLd_rng h r k (by omega)
    have h2 := h.2.2.2.2.1 k (by omega)
    show 0 ≤ owLd D r k + (if D 10 k = r then D 8 k else 0) ∧ owLd D r k + (if D 10 k = r then D 8 k else 0) ≤ 9 * ((k + 1 : Nat) : Int)
    split <;> omega
section MID
variable (s : Nat → Int) (n : Int) (D : cM) (p : Int)
/-- faults of the readers, 0 without one -/
def owNm (w lo hi : Int) : Int := if owW s n p w = 0 then owU s n p else if owK s n (owE s n p) ≠ 3 then owU s n (owE s n p) else if owV s n (owE s n p) < lo ∨ hi < owV s n (owE s n p) then 40000 + owB s n (owE s n p) else 0
def owFr : Int := if owK s n p ≠ 2 then owU s n p else if owIx (D 1) (owV s n p) (D 0 0).toNat ≠ -1 ∨ owIx (D 5) (owV s n p) (D 0 1).toNat ≠ -1 then 20000 + owB s n p else 0
def owKr : Int := if owK s n p ≠ 2 then owU s n p else if owIx (D 1) (owV s n p) (D 0 0).toNat = -1 then 30000 + owB s n p else 0
def owRi : Int := owIx (D 1) (owV s n p) (D 0 0).toNat
def owPi : Int := owIx (D 5) (owV s n p) (D 0 1).toNat
def owUj (other : Int) : Int := if owK s n p ≠ 2 then owU s n p else if owPi s n D p = -1 ∨ owPi s n D p = other ∨ D 9 (owPi s n D p).toNat ≠ -1 then 30000 + owB s n p else 0
def owHs (r w : Int) : Prop := w ≤ D 2 r.toNat ∧ w + owLd D r (D 0 1).toNat ≤ D 3 r.toNat
def owHm (w : Int) : Int := if owW s n p 54525952 = 0 then owU s n p else if owKr s n D (owE s n p) ≠ 0 then owKr s n D (owE s n p) else if D 2 (owRi s n D (owE s n p)).toNat < w ∨ D 3 (owRi s n D (owE s n p)).toNat < w + owLd D (owRi s n D (owE s n p)) (D 0 1).toNat then 30000 + owB s n (owE s n p) else 0
def owAR (nm d f : Int) : cM := c_up (c_up (c_up (c_up D 1 (D 0 0).toNat nm) 2 (D 0 0).toNat d) 3 (D 0 0).toNat f) 0 0 (D 0 0 + 1)
def owRoomF : Int := if 8 ≤ D 0 0 then 60000 + owB s n p else if owFr s n D (owE s n p) ≠ 0 then owFr s n D (owE s n p) else if owNm s n (owE s n (owE s n p)) 150456320 1 9 ≠ 0 then owNm s n (owE s n (owE s n p)) 150456320 1 9 else owNm s n (owE s n (owE s n (owE s n (owE s n p)))) 214416960 1 99
def owRoomP : Int := owE s n (owE s n (owE s n (owE s n (owE s n (owE s n p)))))
def owRoomD : cM := owAR D (owV s n (owE s n p)) (owV s n (owE s n (owE s n (owE s n p)))) (owV s n (owE s n (owE s n (owE s n (owE s n (owE s n p))))))
def owWayF : Int := if owKr s n D (owE s n p) ≠ 0 then owKr s n D (owE s n p) else if owKr s n D (owE s n (owE s n p)) ≠ 0 then owKr s n D (owE s n (owE s n p)) else if owRi s n D (owE s n (owE s n p)) = owRi s n D (owE s n p) then 30000 + owB s n (owE s n (owE s n p)) else owNm s n (owE s n (owE s n (owE s n p))) 672503392 1 60
def owWayP : Int := owE s n (owE s n (owE s n (owE s n (owE s n p))))
def owAW (a b m : Int) : cM := c_up (c_up D 4 (a * 8 + b).toNat m) 4 (b * 8 + a).toNat m
def owWayD : cM := owAW D (owRi s n D (owE s n p)) (owRi s n D (owE s n (owE s n p))) (owV s n (owE s n (owE s n (owE s n (owE s n p)))))
def owPer1 : Int := owE s n (owE s n p)
def owPerF : Int := if 8 ≤ D 0 1 then 60000 + owB s n p else if owFr s n D (owE s n p) ≠ 0 then owFr s n D (owE s n p) else if owNm s n (owE s n (owE s n p)) 659111367 1 99 ≠ 0 then owNm s n (owE s n (owE s n p)) 659111367 1 99 else if owNm s n (owE s n (owE s n (owE s n (owE s n p)))) 109094464 1 99 ≠ 0 then owNm s n (owE s n (owE s n (owE s n (owE s n p)))) 109094464 1 99 else if owNm s n (owE s n (owE s n (owE s n (owE s n (owE s n (owE s n p)))))) 781325312 1 9 ≠ 0 then owNm s n (owE s n (owE s n (owE s n (owE s n (owE s n (owE s n p)))))) 781325312 1 9 else owHm s n D (owE s n (owE s n (owE s n (owE s n (owE s n (owE s n (owE s n (owE s n p)))))))) (owV s n (owE s n (owE s n (owE s n (owE s n (owE s n (owE s n (owE s n p))))))))
def owPerP : Int := owE s n (owE s n (owE s n (owE s n (owE s n (owE s n (owE s n (owE s n (owE s n (owE s n p)))))))))
def owAP (nm st we wi ho : Int) : cM := c_up (c_up (c_up (c_up (c_up (c_up (c_up D 5 (D 0 1).toNat nm) 6 (D 0 1).toNat st) 7 (D 0 1).toNat we) 8 (D 0 1).toNat wi) 10 (D 0 1).toNat ho) 9 (D 0 1).toNat (-1)) 0 1 (D 0 1 + 1)
def owPerD : cM := owAP D (owV s n (owE s n p)) (owV s n (owE s n (owE s n (owE s n p)))) (owV s n (owE s n (owE s n (owE s n (owE s n (owE s n p)))))) (owV s n (owE s n (owE s n (owE s n (owE s n (owE s n (owE s n (owE s n p)))))))) (owRi s n D (owE s n (owE s n (owE s n (owE s n (owE s n (owE s n (owE s n (owE s n (owE s n p))))))))))
def owJoF : Int := if owUj s n D (owE s n p) (-1) ≠ 0 then owUj s n D (owE s n p) (-1) else owUj s n D (owE s n (owE s n p)) (owPi s n D (owE s n p))
def owJoP : Int := owE s n (owE s n (owE s n p))
def owAJ (a b : Int) : cM := c_up (c_up D 9 a.toNat b) 9 b.toNat a
def owJoD : cM := owAJ D (owPi s n D (owE s n p)) (owPi s n D (owE s n (owE s n p)))
def owBrF (_D : cM) (p : Int) : Int := owNm s n p 86148467 0 100
def owBrP : Int := owE s n (owE s n p)
def owCaP : Int := owE s n (owE s n p)
def owBrD : cM := c_up D 0 2 (owV s n (owE s n p))
def owCaF : Int := owKr s n D (owE s n p)
def owCaD : cM := c_up D 0 3 (owRi s n D (owE s n p))
end MID
theorem owFl {M : cM} {f g : Int} (h : g ≠ 0 ∧ Flt M g) (e : f = g) : f ≠ 0 ∧ Flt M f := by rw [e]; exact h
theorem LxA.fl {M M1 : cM} {s : Nat → Int} {n p k f x : Int} (h : LxA M s n p) (hK : owK s n p ≠ 5) (hn : n ≤ 1600) (hx : x = M 5 5) (hu : (M 5 6 = 0 ∧ M1 5 6 = k ∧ M1 5 7 = x) ∨ (M 5 6 ≠ 0 ∧ M1 5 6 = M 5 6 ∧ M1 5 7 = M 5 7)) (hk : 1 ≤ k) (hf : f = 10000 * k + owB s n p) : f ≠ 0 ∧ Flt M1 f := by
  obtain ⟨a1, a2, a3, a4, a5, a6, a7, a8, a9⟩ := h
  have hb := owB_rng (s := s) a4
  have := a8 hK
  unfold Flt
  omega
theorem owU_pos {s : Nat → Int} {n p : Int} (h : 0 ≤ p) : 10000 ≤ owU s n p := by
  have h1 := owB_ge (s := s) (n := n) (p := p)
  have h2 := owX_rng (s := s) (n := n) (p := p)
  unfold owU
  split <;> omega
/-- a name's number -/
theorem owV_name {s : Nat → Int} {n p : Int} (hp : p ≤ n) (h : owK s n p = 2) : 0 ≤ owV s n p ∧ owV s n p < 1073741824 := by
  have hb := owB_rng (s := s) hp
  have h5 := owKn_rng (s := s) (n := n) (b := owB s n p)
  have hK : ¬ n ≤ owB s n p := fun g => by have := owK0.mpr g; omega
  have hk := h
  unfold owK at hk
  rw [if_neg hK] at hk
  by_cases hl : owLt (s (owB s n p).toNat)
  · rw [if_pos (Or.inl hl), if_pos hl] at hk
    split at hk
    · omega
    · have hV : owV s n p = owVw s n (owB s n p) := by unfold owV; rw [if_pos hl]
      have he := owEw_in (s := s) (n := n) (by omega) hl
      have hn : ¬ owCp s n (owB s n p) := fun g => by unfold owKw at hk; rw [if_pos g] at hk; omega
      have h6 : owEw s n (owB s n p) - owB s n p ≤ 6 := by
        apply Int.not_lt.mp
        intro g
        have := owKw_long g hn
        omega
      have hs := owKw_short (s := s) (n := n) (b := owB s n p) h6
      have hp6 := owP6_of (s := s) (n := n) (b := owB s n p) (x := owPk (owS s (owB s n p)) (owEw s n (owB s n p) - owB s n p).toNat) rfl (by omega) h6 rfl rfl
      rw [hV, hs.1]
      exact hp6.2
  · by_cases hd : owDg (s (owB s n p).toNat)
    · rw [if_pos (Or.inr hd), if_neg hl] at hk
      split at hk <;> omega
    · rw [if_neg (fun g => g.elim hl hd)] at hk
      omega
