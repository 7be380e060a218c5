/-! sums worked out, on both sides: the stack as a row of cells -/
theorem pXs_inv {lim c : Int} {g : Int → Int} {st st1 : List Int} (h : pXs lim g c st = some st1) : (0 ≤ c ∧ c ≤ 1000000 ∧ (st.length : Int) < lim ∧ st1 = c :: st) ∨ (-6 ≤ c ∧ c ≤ -1 ∧ (st.length : Int) < lim ∧ st1 = g c :: st) ∨ (c = -19 ∧ ∃ a r, st = a :: r ∧ (a = 0 ∨ a = 1) ∧ st1 = (1 - a) :: r) ∨ (c = -20 ∧ ∃ z y x r, st = z :: y :: x :: r ∧ (x = 0 ∨ x = 1) ∧ st1 = (if x = 1 then y else z) :: r) ∨ (-18 ≤ c ∧ c ≤ -7 ∧ ∃ b a r, st = b :: a :: r ∧ ((c = -17 ∨ c = -18) → (a = 0 ∨ a = 1) ∧ (b = 0 ∨ b = 1)) ∧ st1 = pCb c a b :: r) := by
  unfold pXs at h
  split at h
  next h0 =>
    split at h
    next h1 => exact Or.inl ⟨h0, h1.2, h1.1, (Option.some.inj h).symm⟩
    next => cases h
  next h0 =>
    split at h
    next h1 =>
      split at h
      next h2 => exact Or.inr (Or.inl ⟨h1, by omega, h2, (Option.some.inj h).symm⟩)
      next => cases h
    next h1 =>
      split at h
      next h2 =>
        split at h
        next a r =>
          split at h
          next h3 => exact Or.inr (Or.inr (Or.inl ⟨h2, a, r, rfl, h3, (Option.some.inj h).symm⟩))
          next => cases h
        next => cases h
      next h2 =>
        split at h
        next h3 =>
          split at h
          next z y x r =>
            split at h
            next h4 => exact Or.inr (Or.inr (Or.inr (Or.inl ⟨h3, z, y, x, r, rfl, h4, (Option.some.inj h).symm⟩)))
            next => cases h
          next => cases h
        next h3 =>
          split at h
          next b a r =>
            split at h
            next h4 => exact Or.inr (Or.inr (Or.inr (Or.inr ⟨h4.1, by omega, b, a, r, rfl, h4.2, (Option.some.inj h).symm⟩)))
            next => cases h
          next => cases h
/-- the stack (top first) lies in a row -/
def StkC (M : cM) (k : Nat) (st : List Int) : Prop := ∀ i : Nat, i < st.length → M k i = st.reverse.getD i 0
section STK
variable {M M1 : cM} {k f : Nat} {v : Int} {r : List Int}
theorem StkC.top (h : StkC M k (v :: r)) : M k r.length = v := by
  rw [h r.length (by rw [List.length_cons]; omega), List.reverse_cons, List.getD_eq_getElem?_getD, List.getElem?_append_right (by rw [List.length_reverse]; exact Nat.le_refl _), List.length_reverse, Nat.sub_self]
  rfl
theorem StkC.tail (h : StkC M k (v :: r)) : StkC M k r := fun i hi => by
  rw [h i (by rw [List.length_cons]; omega), List.reverse_cons, List.getD_eq_getElem?_getD, List.getElem?_append_left (by rw [List.length_reverse]; exact hi), ← List.getD_eq_getElem?_getD]
theorem StkC.push (h : StkC M k r) (u : Up M k f v M1) (hf : f = r.length) : StkC M1 k (v :: r) := fun i hi => by
  rw [List.length_cons] at hi
  rw [List.reverse_cons, List.getD_eq_getElem?_getD]
  by_cases e : i = r.length
  · subst e
    rw [List.getElem?_append_right (by rw [List.length_reverse]; exact Nat.le_refl _), List.length_reverse, Nat.sub_self, ← hf]
    exact u.1
  · rw [List.getElem?_append_left (by rw [List.length_reverse]; omega), ← List.getD_eq_getElem?_getD, u.2 k i (by omega)]
    exact h i (by omega)
end STK
/-- behind the first i codes -/
def EvI (lim : Int) (g : Int → Int) (cs : List Int) (i top : Int) (M : cM) (k : Nat) : Prop := ∃ st, pXr lim g (cs.take i.toNat) [] = some st ∧ top = (st.length : Int) ∧ (st.length : Int) ≤ lim ∧ (∀ v ∈ st, pBd v) ∧ StkC M k st
theorem EvI.zero {lim : Int} {g : Int → Int} {cs : List Int} {M : cM} {k : Nat} (h : 0 ≤ lim) : EvI lim g cs 0 0 M k := ⟨[], rfl, rfl, h, fun v hv => (by cases hv), fun i hi => absurd hi (Nat.not_lt_zero _)⟩
section EVI
variable {lim i top c : Int} {g : Int → Int} {cs : List Int} {M M1 : cM} {k : Nat}
theorem pXr_take {st : List Int} {n : Nat} (hX : pXr lim g cs [] ≠ none) (hp : pXr lim g (cs.take n) [] = some st) (hi : n < cs.length) : ∃ st1, pXs lim g (cs.getD n 0) st = some st1 ∧ pXr lim g (cs.take (n + 1)) [] = some st1 := by
  have e : cs.take (n + 1) = cs.take n ++ [cs.getD n 0] := by
    rw [List.getD_eq_getElem?_getD, List.getElem?_eq_getElem hi]
    exact (List.take_append_getElem hi).symm
  have e2 : pXr lim g (cs.take (n + 1)) [] = pXs lim g (cs.getD n 0) st := by
    rw [e, pXr_cat hp, pXr_one]
  cases h : pXs lim g (cs.getD n 0) st with
  | some st1 => exact ⟨st1, rfl, by rw [e2, h]⟩
  | none =>
    exfalso
    apply hX
    rw [← List.take_append_drop (n + 1) cs, pXr_app, e2, h]
theorem EvI.step (h : EvI lim g cs i top M k) (hX : pXr lim g cs [] ≠ none) (hg : pBg g) (hi : 0 ≤ i ∧ i < (cs.length : Int)) (hc : cs.getD i.toNat 0 = c) : ∃ st st1, pXs lim g c st = some st1 ∧ pXr lim g (cs.take (i + 1).toNat) [] = some st1 ∧ (∀ v ∈ st1, pBd v) ∧ top = (st.length : Int) ∧ (st.length : Int) ≤ lim ∧ (∀ v ∈ st, pBd v) ∧ StkC M k st := by
  obtain ⟨st, h1, h2, h3, h4, h5⟩ := h
  obtain ⟨st1, h6, h7⟩ := pXr_take hX h1 (by omega)
  rw [hc] at h6
  exact ⟨st, st1, h6, by rw [show (i + 1).toNat = i.toNat + 1 by omega]; exact h7, pXs_bd hg h4 h6, h2, h3, h4, h5⟩
/-- what a code wants -/
theorem EvI.need (h : EvI lim g cs i top M k) (hX : pXr lim g cs [] ≠ none) (hg : pBg g) (hi : 0 ≤ i ∧ i < (cs.length : Int)) (hc : cs.getD i.toNat 0 = c) : (0 ≤ top ∧ top ≤ lim ∧ -20 ≤ c ∧ c ≤ 1000000) ∧ (-6 ≤ c → top < lim) ∧ (c = -19 → 1 ≤ top) ∧ (c = -20 → 3 ≤ top) ∧ (-18 ≤ c ∧ c ≤ -7 → 2 ≤ top) := by
  obtain ⟨st, st1, h1, h2, h3, h4, h5, h6, h7⟩ := h.step hX hg hi hc
  rcases pXs_inv h1 with ⟨a1, a2, a3, _⟩ | ⟨a1, a2, a3, _⟩ | ⟨a1, a, r, rfl, _⟩ | ⟨a1, z, y, x, r, rfl, _⟩ | ⟨a1, a2, b, a, r, rfl, _⟩
  · omega
  · omega
  · rw [List.length_cons] at h4 h5
    omega
  · rw [List.length_cons, List.length_cons, List.length_cons] at h4 h5
    omega
  · rw [List.length_cons, List.length_cons] at h4 h5
    omega
theorem EvI.num (h : EvI lim g cs i top M k) (hX : pXr lim g cs [] ≠ none) (hg : pBg g) (hi : 0 ≤ i ∧ i < (cs.length : Int)) (hc : cs.getD i.toNat 0 = c) (h0 : 0 ≤ c) {f : Nat} {v t' : Int} (u : Up M k f v M1) (hf : f = top.toNat) (hv : v = c) (ht : t' = top + 1) : EvI lim g cs (i + 1) t' M1 k := by
  obtain ⟨st, st1, h1, h2, h3, h4, h5, h6, h7⟩ := h.step hX hg hi hc
  rcases pXs_inv h1 with ⟨a1, a2, a3, rfl⟩ | ⟨a1, a2, a3, rfl⟩ | ⟨a1, a, r, rfl, _⟩ | ⟨a1, z, y, x, r, rfl, _⟩ | ⟨a1, a2, b, a, r, rfl, _⟩
  · exact ⟨_, h2, by rw [List.length_cons]; omega, by rw [List.length_cons]; omega, h3, by rw [← hv]; exact h7.push u (by omega)⟩
  all_goals omega
theorem EvI.giv (h : EvI lim g cs i top M k) (hX : pXr lim g cs [] ≠ none) (hg : pBg g) (hi : 0 ≤ i ∧ i < (cs.length : Int)) (hc : cs.getD i.toNat 0 = c) (h0 : -6 ≤ c ∧ c ≤ -1) {f : Nat} {v t' : Int} (u : Up M k f v M1) (hf : f = top.toNat) (hv : v = g c) (ht : t' = top + 1) : EvI lim g cs (i + 1) t' M1 k := by
  obtain ⟨st, st1, h1, h2, h3, h4, h5, h6, h7⟩ := h.step hX hg hi hc
  rcases pXs_inv h1 with ⟨a1, a2, a3, rfl⟩ | ⟨a1, a2, a3, rfl⟩ | ⟨a1, a, r, rfl, _⟩ | ⟨a1, z, y, x, r, rfl, _⟩ | ⟨a1, a2, b, a, r, rfl, _⟩
  · omega
  · exact ⟨_, h2, by rw [List.length_cons]; omega, by rw [List.length_cons]; omega, h3, by rw [← hv]; exact h7.push u (by omega)⟩
  all_goals omega
theorem EvI.not (h : EvI lim g cs i top M k) (hX : pXr lim g cs [] ≠ none) (hg : pBg g) (hi : 0 ≤ i ∧ i < (cs.length : Int)) (hc : cs.getD i.toNat 0 = c) (h0 : c = -19) {f : Nat} {a v t' : Int} (ea : M k f = a) (u : Up M k f v M1) (hf : f = (top - 1).toNat) (hv : (a = 0 ∨ a = 1) → v = 1 - a) (ht : t' = top) : EvI lim g cs (i + 1) t' M1 k := by
  obtain ⟨st, st1, h1, h2, h3, h4, h5, h6, h7⟩ := h.step hX hg hi hc
  rcases pXs_inv h1 with ⟨a1, a2, a3, rfl⟩ | ⟨a1, a2, a3, rfl⟩ | ⟨a1, a', r, rfl, ha, rfl⟩ | ⟨a1, z, y, x, r, rfl, _⟩ | ⟨a1, a2, b, a', r, rfl, _⟩
  · omega
  · omega
  · rw [List.length_cons] at h4 h5
    have e := h7.top
    rw [show r.length = f by omega, ea] at e
    subst e
    exact ⟨_, h2, by rw [List.length_cons]; omega, by rw [List.length_cons]; omega, h3, by rw [← hv ha]; exact h7.tail.push u (by omega)⟩
  all_goals omega
theorem EvI.notv (h : EvI lim g cs i top M k) (hX : pXr lim g cs [] ≠ none) (hg : pBg g) (hi : 0 ≤ i ∧ i < (cs.length : Int)) (hc : cs.getD i.toNat 0 = c) (h0 : c = -19) {f : Nat} {a : Int} (ea : M k f = a) (hf : f = (top - 1).toNat) : a = 0 ∨ a = 1 := by
  obtain ⟨st, st1, h1, h2, h3, h4, h5, h6, h7⟩ := h.step hX hg hi hc
  rcases pXs_inv h1 with ⟨a1, a2, a3, rfl⟩ | ⟨a1, a2, a3, rfl⟩ | ⟨a1, a', r, rfl, ha, rfl⟩ | ⟨a1, z, y, x, r, rfl, _⟩ | ⟨a1, a2, b, a', r, rfl, _⟩
  · omega
  · omega
  · rw [List.length_cons] at h4 h5
    have e := h7.top
    rw [show r.length = f by omega, ea] at e
    subst e
    exact ha
  all_goals omega
theorem EvI.ite (h : EvI lim g cs i top M k) (hX : pXr lim g cs [] ≠ none) (hg : pBg g) (hi : 0 ≤ i ∧ i < (cs.length : Int)) (hc : cs.getD i.toNat 0 = c) (h0 : c = -20) {f : Nat} {x v t' : Int} (ex : M k f = x) (u : Up M k f v M1) (hf : f = (top - 3).toNat) (hv : (x = 0 ∨ x = 1) → (x = 1 ∧ v = M k (top - 2).toNat) ∨ (x = 0 ∧ v = M k (top - 1).toNat)) (ht : t' = top - 2) : EvI lim g cs (i + 1) t' M1 k := by
  obtain ⟨st, st1, h1, h2, h3, h4, h5, h6, h7⟩ := h.step hX hg hi hc
  rcases pXs_inv h1 with ⟨a1, a2, a3, rfl⟩ | ⟨a1, a2, a3, rfl⟩ | ⟨a1, a', r, rfl, ha, rfl⟩ | ⟨a1, z, y, x', r, rfl, hx, rfl⟩ | ⟨a1, a2, b, a', r, rfl, _⟩
  · omega
  · omega
  · omega
  · rw [List.length_cons, List.length_cons, List.length_cons] at h4 h5
    have e1 := h7.top
    have e2 := h7.tail.top
    have e3 := h7.tail.tail.top
    rw [List.length_cons, List.length_cons, show r.length + 1 + 1 = (top - 1).toNat by omega] at e1
    rw [List.length_cons, show r.length + 1 = (top - 2).toNat by omega] at e2
    rw [show r.length = f by omega, ex] at e3
    subst e3
    have e4 : v = if x = 1 then y else z := by
      rcases hv hx with ⟨q1, q2⟩ | ⟨q1, q2⟩
      · rw [if_pos q1, q2, e2]
      · rw [if_neg (by omega), q2, e1]
    exact ⟨_, h2, by rw [List.length_cons]; omega, by rw [List.length_cons]; omega, h3, by rw [← e4]; exact h7.tail.tail.tail.push u (by omega)⟩
  · omega
theorem EvI.itev (h : EvI lim g cs i top M k) (hX : pXr lim g cs [] ≠ none) (hg : pBg g) (hi : 0 ≤ i ∧ i < (cs.length : Int)) (hc : cs.getD i.toNat 0 = c) (h0 : c = -20) {f : Nat} {x : Int} (ex : M k f = x) (hf : f = (top - 3).toNat) : x = 0 ∨ x = 1 := by
  obtain ⟨st, st1, h1, h2, h3, h4, h5, h6, h7⟩ := h.step hX hg hi hc
  rcases pXs_inv h1 with ⟨a1, a2, a3, rfl⟩ | ⟨a1, a2, a3, rfl⟩ | ⟨a1, a', r, rfl, ha, rfl⟩ | ⟨a1, z, y, x', r, rfl, hx, rfl⟩ | ⟨a1, a2, b, a', r, rfl, _⟩
  · omega
  · omega
  · omega
  · rw [List.length_cons, List.length_cons, List.length_cons] at h4 h5
    have e3 := h7.tail.tail.top
    rw [show r.length = f by omega, ex] at e3
    subst e3
    exact hx
  · omega
theorem EvI.twov (h : EvI lim g cs i top M k) (hX : pXr lim g cs [] ≠ none) (hg : pBg g) (hi : 0 ≤ i ∧ i < (cs.length : Int)) (hc : cs.getD i.toNat 0 = c) (h0 : -18 ≤ c ∧ c ≤ -7) {fa fb : Nat} {a b : Int} (ea : M k fa = a) (eb : M k fb = b) (ha : fa = (top - 2).toNat) (hb : fb = (top - 1).toNat) : pBd a ∧ pBd b ∧ ((c = -17 ∨ c = -18) → (a = 0 ∨ a = 1) ∧ (b = 0 ∨ b = 1)) := by
  obtain ⟨st, st1, h1, h2, h3, h4, h5, h6, h7⟩ := h.step hX hg hi hc
  rcases pXs_inv h1 with ⟨a1, a2, a3, rfl⟩ | ⟨a1, a2, a3, rfl⟩ | ⟨a1, a', r, rfl, _⟩ | ⟨a1, z, y, x', r, rfl, hx, rfl⟩ | ⟨a1, a2, b', a', r, rfl, hf, rfl⟩
  · omega
  · omega
  · omega
  · omega
  · rw [List.length_cons, List.length_cons] at h4 h5
    have e1 := h7.top
    have e2 := h7.tail.top
    rw [List.length_cons, show r.length + 1 = fb by omega, eb] at e1
    rw [show r.length = fa by omega, ea] at e2
    subst e1 e2
    exact ⟨h6 _ (List.mem_cons_of_mem _ List.mem_cons_self), h6 _ List.mem_cons_self, hf⟩
theorem EvI.two (h : EvI lim g cs i top M k) (hX : pXr lim g cs [] ≠ none) (hg : pBg g) (hi : 0 ≤ i ∧ i < (cs.length : Int)) (hc : cs.getD i.toNat 0 = c) (h0 : -18 ≤ c ∧ c ≤ -7) {fa fb : Nat} {a b v t' : Int} (ea : M k fa = a) (eb : M k fb = b) (u : Up M k fa v M1) (ha : fa = (top - 2).toNat) (hb : fb = (top - 1).toNat) (hv : v = pCb c a b) (ht : t' = top - 1) : EvI lim g cs (i + 1) t' M1 k := by
  obtain ⟨st, st1, h1, h2, h3, h4, h5, h6, h7⟩ := h.step hX hg hi hc
  rcases pXs_inv h1 with ⟨a1, a2, a3, rfl⟩ | ⟨a1, a2, a3, rfl⟩ | ⟨a1, a', r, rfl, _⟩ | ⟨a1, z, y, x', r, rfl, hx, rfl⟩ | ⟨a1, a2, b', a', r, rfl, hf, rfl⟩
  · omega
  · omega
  · omega
  · omega
  · rw [List.length_cons, List.length_cons] at h4 h5
    have e1 := h7.top
    have e2 := h7.tail.top
    rw [List.length_cons, show r.length + 1 = fb by omega, eb] at e1
    rw [show r.length = fa by omega, ea] at e2
    subst e1 e2
    exact ⟨_, h2, by rw [List.length_cons]; omega, by rw [List.length_cons]; omega, h3, by rw [← hv]; exact h7.tail.tail.push u (by omega)⟩
theorem EvI.end {w : Int} (h : EvI lim g cs i top M k) (hi : i = (cs.length : Int)) (hX : pXr lim g cs [] = some [w]) : top = 1 ∧ M k 0 = w ∧ pBd w := by
  obtain ⟨st, h1, h2, h3, h4, h5⟩ := h
  rw [show i.toNat = cs.length by omega, List.take_length, hX] at h1
  have e := Option.some.inj h1
  subst e
  exact ⟨h2, h5.top, h4 w List.mem_cons_self⟩
theorem EvI.fr {S : List (Nat × Nat)} (h : EvI lim g cs i top M k) (q : Fr S M M1) (hs : ∀ f, c_in S k f = false) : EvI lim g cs i top M1 k := by
  obtain ⟨st, h1, h2, h3, h4, h5⟩ := h
  exact ⟨st, h1, h2, h3, h4, fun j hj => (q k j (hs j)).trans (h5 j hj)⟩
end EVI
/-- what is worth how much, 0 to 999 -/
def pXt (w : Int) : Int := if w < 0 then 0 else if 999 < w then 999 else w
def pEv (g : Int → Int) (cs : List Int) : Int := match pXr 64 g cs [] with
  | some (w :: _) => pXt w
  | _ => 0
theorem pXt_r (w : Int) : 0 ≤ pXt w ∧ pXt w ≤ 999 := by
  unfold pXt
  (repeat' split) <;> omega
theorem pEv_r (g : Int → Int) (cs : List Int) : 0 ≤ pEv g cs ∧ pEv g cs ≤ 999 := by
  unfold pEv
  split
  · exact pXt_r _
  · omega
theorem pEv_eq {g : Int → Int} {cs : List Int} {w : Int} (h : pXr 64 g cs [] = some [w]) : pEv g cs = pXt w := by
  unfold pEv
  rw [h]
theorem TN.run {cs : List Int} {g : Int → Int} (h : TN 38 cs.reverse) (hg : pBg g) : ∃ w, pXr 64 g cs [] = some [w] := by
  obtain ⟨v, _, h2⟩ := h 64 g [] (by decide) hg
  rw [List.reverse_reverse] at h2
  exact ⟨v, h2⟩
/-! the machine's own numbers -/
def xLdiv (v w : Int) : Int := c_binL (· / ·) v w
def xLrem (v w : Int) : Int := c_binL (fun x y => x - x / y * y) v w
def xIrem (v w : Int) : Int := c_bin (fun x y => x - x / y * y) v w
def xLxor (v w : Int) : Int := c_binL (· ^^^ ·) v w
def xIxor (v w : Int) : Int := c_bin (· ^^^ ·) v w
def xIand (v w : Int) : Int := c_bin (· &&& ·) v w
def xIor (v w : Int) : Int := c_bin (· ||| ·) v w
def xLand (v w : Int) : Int := c_binL (· &&& ·) v w
def xLor (v w : Int) : Int := c_binL (· ||| ·) v w
theorem i64_rg (v : Int64) : -9223372036854775808 ≤ v.toInt ∧ v.toInt ≤ 9223372036854775807 := i64_rng v
section NUM
variable {a b n d : Int}
theorem neg_div (hd : 0 < d) : (n % d = 0 → (-n) / d = -(n / d) ∧ (-n) % d = 0) ∧ (n % d ≠ 0 → (-n) / d = -(n / d) - 1 ∧ (-n) % d = d - n % d) := by
  have h1 := Int.mul_ediv_add_emod n d
  have h2 := Int.emod_nonneg n (show d ≠ 0 by omega)
  have h3 := Int.emod_lt_of_pos n hd
  constructor
  · intro h
    refine (Int.ediv_emod_unique hd).mpr ⟨?_, by omega, hd⟩
    rw [Int.mul_neg]
    omega
  · intro h
    refine (Int.ediv_emod_unique hd).mpr ⟨?_, by omega, by omega⟩
    rw [Int.mul_sub, Int.mul_neg]
    omega
/-- division toward nothing, floor and what is left, by signs: n, d without them -/
theorem tdv (h0 : b ≠ 0) : ∃ n d q r : Int, 0 ≤ n ∧ 0 < d ∧ n = d * q + r ∧ 0 ≤ r ∧ r < d ∧ 0 ≤ q ∧ q ≤ n ∧ ((a = n ∧ b = d ∧ a.tdiv b = q ∧ pFl a b = q ∧ pRm a b = r) ∨ (a = -n ∧ 0 < n ∧ b = -d ∧ a.tdiv b = q ∧ pFl a b = q ∧ pRm a b = -r) ∨ (a = n ∧ b = -d ∧ a.tdiv b = -q ∧ ((r = 0 ∧ pFl a b = -q ∧ pRm a b = 0) ∨ (r ≠ 0 ∧ pFl a b = -q - 1 ∧ pRm a b = r - d))) ∨ (a = -n ∧ 0 < n ∧ b = d ∧ a.tdiv b = -q ∧ ((r = 0 ∧ pFl a b = -q ∧ pRm a b = 0) ∨ (r ≠ 0 ∧ pFl a b = -q - 1 ∧ pRm a b = d - r)))) := by
  have key : ∀ n d : Int, 0 ≤ n → 0 < d → n = d * (n / d) + n % d ∧ 0 ≤ n % d ∧ n % d < d ∧ 0 ≤ n / d ∧ n / d ≤ n := fun n d hn hd =>
    ⟨(Int.mul_ediv_add_emod n d).symm, Int.emod_nonneg n (by omega), Int.emod_lt_of_pos n hd, Int.ediv_nonneg hn (by omega), Int.ediv_le_self d hn⟩
  by_cases ha : 0 ≤ a
  · by_cases hb : 0 < b
    · obtain ⟨k1, k2, k3, k4, k5⟩ := key a b ha hb
      refine ⟨a, b, a / b, a % b, ha, hb, k1, k2, k3, k4, k5, Or.inl ⟨rfl, rfl, Int.tdiv_eq_ediv_of_nonneg ha, if_pos hb, if_pos hb⟩⟩
    · have hb' : b < 0 := by omega
      obtain ⟨k1, k2, k3, k4, k5⟩ := key a (-b) ha (by omega)
      refine ⟨a, -b, a / (-b), a % (-b), ha, by omega, k1, k2, k3, k4, k5, Or.inr (Or.inr (Or.inl ⟨rfl, by omega, ?_, ?_⟩))⟩
      · rw [← Int.tdiv_eq_ediv_of_nonneg ha, Int.tdiv_neg, Int.neg_neg]
      · have hn := neg_div (n := a) (d := -b) (by omega)
        have e1 : pFl a b = (-a) / (-b) := by unfold pFl; rw [if_neg hb, if_pos hb']
        have e2 : pRm a b = -((-a) % (-b)) := by unfold pRm; rw [if_neg hb, if_pos hb']
        rw [e1, e2]
        by_cases g : a % (-b) = 0
        · have := hn.1 g
          exact Or.inl ⟨g, this.1, by rw [this.2]; rfl⟩
        · have := hn.2 g
          exact Or.inr ⟨g, this.1, by rw [this.2]; omega⟩
  · have ha' : a < 0 := by omega
    by_cases hb : 0 < b
    · obtain ⟨k1, k2, k3, k4, k5⟩ := key (-a) b (by omega) hb
      refine ⟨-a, b, (-a) / b, (-a) % b, by omega, hb, k1, k2, k3, k4, k5, Or.inr (Or.inr (Or.inr ⟨by omega, by omega, rfl, ?_, ?_⟩))⟩
      · rw [← Int.tdiv_eq_ediv_of_nonneg (show 0 ≤ -a by omega), Int.neg_tdiv, Int.neg_neg]
      · have hn := neg_div (n := -a) (d := b) hb
        rw [Int.neg_neg] at hn
        have e1 : pFl a b = a / b := if_pos hb
        have e2 : pRm a b = a % b := if_pos hb
        rw [e1, e2]
        by_cases g : (-a) % b = 0
        · have := hn.1 g
          exact Or.inl ⟨g, this.1, this.2⟩
        · have := hn.2 g
          exact Or.inr ⟨g, this.1, this.2⟩
    · have hb' : b < 0 := by omega
      obtain ⟨k1, k2, k3, k4, k5⟩ := key (-a) (-b) (by omega) (by omega)
      refine ⟨-a, -b, (-a) / (-b), (-a) % (-b), by omega, by omega, k1, k2, k3, k4, k5, Or.inr (Or.inl ⟨by omega, by omega, by omega, ?_, ?_, ?_⟩)⟩
      · rw [← Int.tdiv_eq_ediv_of_nonneg (show 0 ≤ -a by omega), Int.neg_tdiv, Int.tdiv_neg, Int.neg_neg]
      · unfold pFl
        rw [if_neg hb, if_pos hb']
      · unfold pRm
        rw [if_neg hb, if_pos hb']
theorem tdv_b (ha : pBd a) (h0 : b ≠ 0) : pBd (a.tdiv b) ∧ pBd (pFl a b) ∧ -2000000 ≤ a.tdiv b * b ∧ a.tdiv b * b ≤ 2000000 := by
  obtain ⟨n, d, q, r, h1, h2, h3, h4, h5, h6, h7, h8⟩ := tdv (a := a) h0
  have h9 : 0 ≤ d * q := Int.mul_nonneg (by omega) h6
  unfold pBd at ha ⊢
  rcases h8 with ⟨a1, a2, a3, a4, _⟩ | ⟨a1, a0, a2, a3, a4, _⟩ | ⟨a1, a2, a3, a4⟩ | ⟨a1, a0, a2, a3, a4⟩
  · rw [a3, a4, a2, Int.mul_comm q d]
    omega
  · rw [a3, a4, a2, Int.mul_neg, Int.mul_comm q d]
    omega
  · subst a2
    rw [a3, Int.neg_mul_neg, Int.mul_comm q d]
    have : r ≠ 0 → q + 1 ≤ n := fun z => by
      have := Int.mul_le_mul_of_nonneg_right (show 1 ≤ d by omega) h6
      omega
    omega
  · subst a2
    rw [a3, Int.neg_mul, Int.mul_comm q b]
    have : r ≠ 0 → q + 1 ≤ n := fun z => by
      have := Int.mul_le_mul_of_nonneg_right (show 1 ≤ b by omega) h6
      omega
    omega
theorem xLdiv_eq (ha : pBd a) (hb : pBd b) (h0 : b ≠ 0) : xLdiv a b = a.tdiv b := by
  have h := (tdv_b ha h0).1
  unfold pBd at ha hb h
  unfold xLdiv c_binL
  dsimp only
  rw [Int64.toInt_div, bmod64 (by omega) (by omega), bmod64 (by omega) (by omega)]
  exact Int.bmod_eq_of_le (by omega) (by omega)
theorem xLrem_eq (ha : pBd a) (hb : pBd b) (h0 : b ≠ 0) : xLrem a b = a - a.tdiv b * b := by
  have h := tdv_b ha h0
  have e3 : (Int64.ofInt a / Int64.ofInt b).toInt = a.tdiv b := xLdiv_eq ha hb h0
  unfold pBd at ha hb h
  have e1 : (Int64.ofInt a).toInt = a := bmod64 (by omega) (by omega)
  have e2 : (Int64.ofInt b).toInt = b := bmod64 (by omega) (by omega)
  unfold xLrem c_binL
  dsimp only
  rw [Int64.toInt_sub, Int64.toInt_mul, e3, e1, e2, Int.bmod_eq_of_le (n := a.tdiv b * b) (by omega) (by omega)]
  exact Int.bmod_eq_of_le (by omega) (by omega)
theorem xIrem_eq (ha : pBd a) (hb : pBd b) (h0 : b ≠ 0) : xIrem a b = a - a.tdiv b * b := by
  have h := tdv_b ha h0
  unfold pBd at ha hb h
  have e1 : (Int32.ofInt a).toInt = a := bmod32 (by omega) (by omega)
  have e2 : (Int32.ofInt b).toInt = b := bmod32 (by omega) (by omega)
  have e3 : (Int32.ofInt a / Int32.ofInt b).toInt = a.tdiv b := by
    rw [Int32.toInt_div, e1, e2]
    exact Int.bmod_eq_of_le (by omega) (by omega)
  unfold xIrem c_bin
  dsimp only
  rw [Int32.toInt_sub, Int32.toInt_mul, e3, e1, e2, Int.bmod_eq_of_le (n := a.tdiv b * b) (by omega) (by omega)]
  exact Int.bmod_eq_of_le (by omega) (by omega)
theorem xLxor_neg (ha : pBd a) (hb : pBd b) : xLxor a b < 0 ↔ ((a < 0 ∧ 0 ≤ b) ∨ (0 ≤ a ∧ b < 0)) := by
  unfold pBd at ha hb
  have e1 : (Int64.ofInt a).toBitVec.toInt = a := bmod64 (by omega) (by omega)
  have e2 : (Int64.ofInt b).toBitVec.toInt = b := bmod64 (by omega) (by omega)
  have m1 := BitVec.msb_eq_toInt (x := (Int64.ofInt a).toBitVec)
  have m2 := BitVec.msb_eq_toInt (x := (Int64.ofInt b).toBitVec)
  have m3 := BitVec.msb_eq_toInt (x := (Int64.ofInt a).toBitVec ^^^ (Int64.ofInt b).toBitVec)
  rw [BitVec.msb_xor, m1, m2, e1, e2] at m3
  have e3 : xLxor a b = ((Int64.ofInt a).toBitVec ^^^ (Int64.ofInt b).toBitVec).toInt := rfl
  rw [e3]
  clear e1 e2 m1 m2 e3
  revert m3
  generalize (_ : BitVec _).toInt = z
  intro m3
  by_cases h1 : a < 0 <;> by_cases h2 : b < 0 <;> simp [h1, h2] at m3 <;> omega
theorem xIxor_neg (ha : pBd a) (hb : pBd b) : xIxor a b < 0 ↔ ((a < 0 ∧ 0 ≤ b) ∨ (0 ≤ a ∧ b < 0)) := by
  unfold pBd at ha hb
  have e1 : (Int32.ofInt a).toBitVec.toInt = a := bmod32 (by omega) (by omega)
  have e2 : (Int32.ofInt b).toBitVec.toInt = b := bmod32 (by omega) (by omega)
  have m1 := BitVec.msb_eq_toInt (x := (Int32.ofInt a).toBitVec)
  have m2 := BitVec.msb_eq_toInt (x := (Int32.ofInt b).toBitVec)
  have m3 := BitVec.msb_eq_toInt (x := (Int32.ofInt a).toBitVec ^^^ (Int32.ofInt b).toBitVec)
  rw [BitVec.msb_xor, m1, m2, e1, e2] at m3
  have e3 : xIxor a b = ((Int32.ofInt a).toBitVec ^^^ (Int32.ofInt b).toBitVec).toInt := rfl
  rw [e3]
  clear e1 e2 m1 m2 e3
  revert m3
  generalize (_ : BitVec _).toInt = z
  intro m3
  by_cases h1 : a < 0 <;> by_cases h2 : b < 0 <;> simp [h1, h2] at m3 <;> omega
/-- floors, as the class's library and the reference find them -/
theorem fl_C {q : Int} (ha : pBd a) (hb : pBd b) (h0 : b ≠ 0) (hq : q = a.tdiv b) : (¬ ((a < 0 ∧ 0 ≤ b) ∨ (0 ≤ a ∧ b < 0)) → q = pFl a b) ∧ (q * b = a → q = pFl a b) ∧ (((a < 0 ∧ 0 ≤ b) ∨ (0 ≤ a ∧ b < 0)) → q * b ≠ a → q - 1 = pFl a b) := by
  subst hq
  obtain ⟨n, d, q, r, h1, h2, h3, h4, h5, h6, h7, h8⟩ := tdv (a := a) h0
  rcases h8 with ⟨a1, a2, a3, a4, _⟩ | ⟨a1, a0, a2, a3, a4, _⟩ | ⟨a1, a2, a3, a4⟩ | ⟨a1, a0, a2, a3, a4⟩
  · rw [a3, a4]
    exact ⟨fun _ => rfl, fun _ => rfl, fun z => by omega⟩
  · rw [a3, a4]
    exact ⟨fun _ => rfl, fun _ => rfl, fun z => by omega⟩
  · rw [a3]
    have e : -q * b = d * q := by rw [a2, Int.neg_mul_neg, Int.mul_comm]
    rw [e]
    exact ⟨fun z => by omega, fun z => by omega, fun _ z => by omega⟩
  · rw [a3]
    have e : -q * b = -(d * q) := by rw [a2, Int.neg_mul, Int.mul_comm]
    rw [e]
    exact ⟨fun z => by omega, fun z => by omega, fun _ z => by omega⟩
theorem rm_C {m : Int} (ha : pBd a) (hb : pBd b) (h0 : b ≠ 0) (hm : m = a - a.tdiv b * b) : ((¬ ((a < 0 ∧ 0 ≤ b) ∨ (0 ≤ a ∧ b < 0)) ∨ m = 0) → m = pRm a b) ∧ (((a < 0 ∧ 0 ≤ b) ∨ (0 ≤ a ∧ b < 0)) → m ≠ 0 → m + b = pRm a b) ∧ pRm a b = a - b * pFl a b := by
  subst hm
  obtain ⟨n, d, q, r, h1, h2, h3, h4, h5, h6, h7, h8⟩ := tdv (a := a) h0
  rcases h8 with ⟨a1, a2, a3, a4, a5⟩ | ⟨a1, a0, a2, a3, a4, a5⟩ | ⟨a1, a2, a3, a4⟩ | ⟨a1, a0, a2, a3, a4⟩
  · have e1 : q * b = d * q := by rw [a2, Int.mul_comm]
    have e2 : b * q = d * q := by rw [a2]
    rw [a3, a4, a5, e1, e2]
    omega
  · have e1 : q * b = -(d * q) := by rw [a2, Int.mul_neg, Int.mul_comm]
    have e2 : b * q = -(d * q) := by rw [a2, Int.neg_mul]
    rw [a3, a4, a5, e1, e2]
    omega
  · have e1 : -q * b = d * q := by rw [a2, Int.neg_mul_neg, Int.mul_comm]
    rw [a3, e1]
    rcases a4 with ⟨b1, b2, b3⟩ | ⟨b1, b2, b3⟩
    · have e2 : b * -q = d * q := by rw [a2, Int.neg_mul_neg]
      rw [b2, b3, e2]
      omega
    · have e2 : b * (-q - 1) = d * q + d := by rw [a2, Int.mul_sub, Int.neg_mul_neg]; omega
      rw [b2, b3, e2]
      omega
  · have e1 : -q * b = -(d * q) := by rw [a2, Int.neg_mul, Int.mul_comm]
    rw [a3, e1]
    rcases a4 with ⟨b1, b2, b3⟩ | ⟨b1, b2, b3⟩
    · have e2 : b * -q = -(d * q) := by rw [a2, Int.mul_neg]
      rw [b2, b3, e2]
      omega
    · have e2 : b * (-q - 1) = -(d * q) - d := by rw [a2, Int.mul_sub, Int.mul_neg]; omega
      rw [b2, b3, e2]
      omega
theorem mul_b (ha : pBd a) (hb : pBd b) : -1000000000000 ≤ a * b ∧ a * b ≤ 1000000000000 := by
  unfold pBd at ha hb
  have h1 : (a * b).natAbs ≤ 1000000 * 1000000 := by
    rw [Int.natAbs_mul]
    exact Nat.mul_le_mul (by omega) (by omega)
  omega
theorem and_f {x : Int} (ha : a = 0 ∨ a = 1) (hb : b = 0 ∨ b = 1) : xIand a b = (if a = 1 ∧ b = 1 then 1 else 0) ∧ xIor a b = (if a = 1 ∨ b = 1 then 1 else 0) ∧ xLand a b = (if a = 1 ∧ b = 1 then 1 else 0) ∧ xLor a b = (if a = 1 ∨ b = 1 then 1 else 0) := by
  rcases ha with rfl | rfl <;> rcases hb with rfl | rfl <;> exact ⟨by decide, by decide, by decide, by decide⟩
end NUM
