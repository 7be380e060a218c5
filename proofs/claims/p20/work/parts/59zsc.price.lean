/-! prices of ways: the least minutes of the people so far, and whose they are -/
def pLp (D S : cM) (c : Int) (a b : Nat) (p : Int) (x : Int × Int) : Int × Int := if pAd D S b c = 1 ∧ 0 < pWy D a b ∧ (x.1 = 0 ∨ pCy D S p c (pWy D a b) < x.1) then (pCy D S p c (pWy D a b), p) else x
def pLx (D S : cM) (c who : Int) (a b : Nat) : Nat → Int × Int
  | 0 => (0, 0)
  | k + 1 => if who = -1 ∨ who = (k : Int) then pLp D S c a b k (pLx D S c who a b k) else pLx D S c who a b k
/-- the class's table -/
def pTb (M : cM) (n : Int) (X : Nat → Nat → Int × Int) : Prop := ∀ a b : Nat, (a : Int) < n → (b : Int) < n → M 47 (8 * a + b) = (X a b).1 ∧ ((X a b).1 ≠ 0 → M 48 (8 * a + b) = (X a b).2)
/-- people up to one, column by column -/
def pTc (D S : cM) (c p i j : Int) (X : Nat → Nat → Int × Int) : Nat → Nat → Int × Int := fun a b => if (b : Int) < i ∨ ((b : Int) = i ∧ (a : Int) < j) then pLp D S c a b p (X a b) else X a b
section PRC
variable {D S M M1 M2 : cM} {c p who i j n : Int} {X : Nat → Nat → Int × Int}
theorem pTc_0 : pTc D S c p 0 0 X = X := by
  funext a b
  unfold pTc
  exact if_neg (by omega)
theorem pTb.of (h : pTb M n X) (e1 : ∀ f, M1 47 f = M 47 f) (e2 : ∀ f, M1 48 f = M 48 f) : pTb M1 n X := fun a b ha hb => by
  rw [e1, e2]
  exact h a b ha hb
theorem pTb.row (h : pTb M n (pTc D S c p i j X)) (hj : n ≤ j) : pTb M n (pTc D S c p (i + 1) 0 X) := fun a b ha hb => by
  have h1 := h a b ha hb
  have e : pTc D S c p (i + 1) 0 X a b = pTc D S c p i j X a b := by
    unfold pTc
    by_cases g : (b : Int) < i ∨ ((b : Int) = i ∧ (a : Int) < j)
    · rw [if_pos g, if_pos (by omega)]
    · rw [if_neg g, if_neg (by omega)]
  rw [e]
  exact h1
theorem pTc_at (h0 : 0 ≤ i ∧ 0 ≤ j) : pTc D S c p i j X j.toNat i.toNat = X j.toNat i.toNat := if_neg (by omega)
theorem pTc_S (h0 : 0 ≤ i ∧ 0 ≤ j) (a b : Nat) : pTc D S c p i (j + 1) X a b = if a = j.toNat ∧ b = i.toNat then pLp D S c a b p (X a b) else pTc D S c p i j X a b := by
  unfold pTc
  by_cases g : a = j.toNat ∧ b = i.toNat
  · rw [if_pos g, if_pos (by omega)]
  · rw [if_neg g]
    by_cases g2 : (b : Int) < i ∨ ((b : Int) = i ∧ (a : Int) < j)
    · rw [if_pos g2, if_pos (by omega)]
    · rw [if_neg g2, if_neg (by omega)]
/-- a way that stays as it is -/
theorem pTb.no (h : pTb M n (pTc D S c p i j X)) (h0 : 0 ≤ i ∧ 0 ≤ j) (hi : i < n ∧ j < n) {x : Int} (ex : M 47 (8 * j + i).toNat = x) (hv : ¬ (pAd D S i c = 1 ∧ 0 < pWy D j i ∧ (x = 0 ∨ pCy D S p c (pWy D j i) < x))) : pTb M n (pTc D S c p i (j + 1) X) := fun a b ha hb => by
  have h1 := h a b ha hb
  rw [pTc_S h0]
  by_cases g : a = j.toNat ∧ b = i.toNat
  · obtain ⟨rfl, rfl⟩ := g
    rw [if_pos ⟨rfl, rfl⟩]
    rw [pTc_at h0] at h1
    have e : (X j.toNat i.toNat).1 = x := by
      rw [← h1.1, ← ex]
      congr 1
      omega
    have e2 : pLp D S c j.toNat i.toNat p (X j.toNat i.toNat) = X j.toNat i.toNat := by
      unfold pLp
      rw [e, show ((i.toNat : Nat) : Int) = i by omega, show ((j.toNat : Nat) : Int) = j by omega]
      exact if_neg hv
    rw [e2]
    exact h1
  · rw [if_neg g]
    exact h1
/-- a way that is taken over -/
theorem pTb.set (h : pTb M n (pTc D S c p i j X)) (h0 : 0 ≤ i ∧ 0 ≤ j) (hi : i < n ∧ j < n) (hn : n ≤ 8) {x v w : Int} {f g : Nat} (u : Up M 47 f v M1) (u2 : Up M1 48 g w M2) (hf : f = (8 * j + i).toNat) (hg : g = (8 * j + i).toNat) (ex : M 47 (8 * j + i).toNat = x) (hv : pAd D S i c = 1 ∧ 0 < pWy D j i ∧ (x = 0 ∨ pCy D S p c (pWy D j i) < x)) (ev : v = pCy D S p c (pWy D j i)) (ew : w = p) : pTb M2 n (pTc D S c p i (j + 1) X) := fun a b ha hb => by
  subst hf hg
  have h1 := h a b ha hb
  rw [pTc_S h0]
  by_cases g : a = j.toNat ∧ b = i.toNat
  · obtain ⟨rfl, rfl⟩ := g
    rw [if_pos ⟨rfl, rfl⟩]
    rw [pTc_at h0] at h1
    have e : (X j.toNat i.toNat).1 = x := by
      rw [← h1.1, ← ex]
      congr 1
      omega
    have e2 : pLp D S c j.toNat i.toNat p (X j.toNat i.toNat) = (v, w) := by
      unfold pLp
      rw [e, show ((i.toNat : Nat) : Int) = i by omega, show ((j.toNat : Nat) : Int) = j by omega, if_pos hv, ev, ew]
    rw [e2, show 8 * j.toNat + i.toNat = (8 * j + i).toNat by omega]
    exact ⟨(u2.2 47 _ (by omega)).trans u.1, fun _ => u2.1⟩
  · rw [if_neg g, u2.2 47 _ (by omega), u.2 47 _ (by omega), u2.2 48 _ (by omega), u.2 48 _ (by omega)]
    exact h1
theorem pTb.all (h : pTb M n (pTc D S c p i 0 X)) (hi : n ≤ i) : pTb M n (fun a b => pLp D S c a b p (X a b)) := fun a b ha hb => by
  have h1 := h a b ha hb
  have e : pTc D S c p i 0 X a b = pLp D S c a b p (X a b) := if_pos (by omega)
  rw [e] at h1
  exact h1
theorem pLx_lo {a b : Nat} : ∀ k : Nat, (k : Int) ≤ who → pLx D S c who a b k = (0, 0)
  | 0, _ => rfl
  | k + 1, h => by
    show (if who = -1 ∨ who = (k : Int) then _ else _) = _
    rw [if_neg (by omega)]
    exact pLx_lo k (by omega)
theorem pLx_one {a b : Nat} (h0 : 0 ≤ who) : ∀ k : Nat, who < (k : Int) → pLx D S c who a b k = pLp D S c a b who (0, 0)
  | 0, h => absurd h (by omega)
  | k + 1, h => by
    show (if who = -1 ∨ who = (k : Int) then pLp D S c a b k (pLx D S c who a b k) else pLx D S c who a b k) = _
    by_cases e : who = (k : Int)
    · rw [if_pos (Or.inr e), pLx_lo k (by omega), e]
    · rw [if_neg (by omega)]
      exact pLx_one h0 k (by omega)
theorem pLp_r {a b : Nat} {x : Int × Int} (hD : DZ D) (ha : (a : Int) < D 0 0) (hb : (b : Int) < D 0 0) (h : 0 ≤ x.1 ∧ x.1 ≤ 1059) : 0 ≤ (pLp D S c a b p x).1 ∧ (pLp D S c a b p x).1 ≤ 1059 := by
  unfold pLp
  split
  next g =>
    have h2 : pWy D a b ≤ 60 := by
      unfold pWy
      split
      next =>
        have h8 := hD.rg
        exact (hD.2.1 _ (by omega)).2
      next => decide
    have := pCy_r (D := D) (S := S) (p := p) (c := c) (w := pWy D a b) ⟨by omega, h2⟩
    exact ⟨by omega, this.2⟩
  next => exact h
theorem pLx_r {a b : Nat} (hD : DZ D) (ha : (a : Int) < D 0 0) (hb : (b : Int) < D 0 0) : ∀ k, 0 ≤ (pLx D S c who a b k).1 ∧ (pLx D S c who a b k).1 ≤ 1059
  | 0 => ⟨Int.le_refl _, show (0 : Int) ≤ 1059 by decide⟩
  | k + 1 => by
    show 0 ≤ (if who = -1 ∨ who = (k : Int) then pLp D S c a b k (pLx D S c who a b k) else pLx D S c who a b k).1 ∧ (if who = -1 ∨ who = (k : Int) then pLp D S c a b k (pLx D S c who a b k) else pLx D S c who a b k).1 ≤ 1059
    split
    · exact pLp_r hD ha hb (pLx_r hD ha hb k)
    · exact pLx_r hD ha hb k
end PRC
