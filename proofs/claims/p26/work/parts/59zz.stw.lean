/-! who stands: what is wanted of each room; the radix of both sides -/
def wr32 (x : Int) : Int := (Int32.ofInt x).toInt
def tbT (x y : Int) : Int := c_bin (· * ·) x y
theorem wr_add (x y : Int) : tbP (wr32 x) (wr32 y) = wr32 (x + y) := by
  unfold tbP wr32 c_bin
  rw [Int32.ofInt_toInt, Int32.ofInt_toInt, Int32.ofInt_add]
theorem wr_mul (x y : Int) : tbT (wr32 x) (wr32 y) = wr32 (x * y) := by
  unfold tbT wr32 c_bin
  rw [Int32.ofInt_toInt, Int32.ofInt_toInt, Int32.ofInt_mul]
theorem wr_0 : wr32 0 = 0 := by decide
theorem wr_1 : wr32 1 = 1 := by decide
/-- how many are wanted in a room, by the first rows; the row of a room -/
def pWt (s : Nat → Int) : Nat → Int → Int
  | 0, _ => -1
  | j + 1, r => if s (2 * (j : Int)).toNat = r then s (2 * (j : Int) + 1).toNat else pWt s j r
def pRw (s : Nat → Int) : Nat → Int → Int
  | 0, _ => -1
  | j + 1, r => if pRw s j r = -1 then (if s (2 * (j : Int)).toNat = r then (j : Int) else -1) else pRw s j r
def DST (s : Nat → Int) (R : Int) : Prop := (∀ i, 0 ≤ s i) ∧ ∀ j : Int, 0 ≤ j → j < R → (0 ≤ s (2 * j).toNat ∧ s (2 * j).toNat < 8) ∧ ∀ i : Int, 0 ≤ i → i < j → s (2 * i).toNat ≠ s (2 * j).toNat
def cAs (w : Int → Int) (r : Int) : Int := if 0 ≤ r ∧ r < 8 ∧ 0 ≤ w r then w r else 0
def cIx (w : Int → Int) (r : Int) : Int := if 0 ≤ r ∧ r < 8 ∧ w r ≠ -1 then r else -1
def rAs (s : Nat → Int) (R k : Int) : Int := if 0 ≤ k ∧ k < R then s (2 * k + 1).toNat else 0
def pFr (D S : cM) (w : Int → Int) (p r : Int) : Int := if (0 ≤ r ∧ r < 8 ∧ w r ≠ -1) ∧ pSi D S p r (S 1 p.toNat) ≠ 1 then 0 else 1
def vFl (w : Int → Int) (r : Int) : Int := if 0 ≤ r ∧ r < 8 ∧ w r ≠ -1 then w r else 0
def alA (_ _ : Int) : Int := 1
def alO (p r q x : Int) : Int := if q = p ∧ x ≠ r then 0 else 1
/-- in how many ways; in how many of these one is in a room -/
def pTt (D S : cM) (s : Nat → Int) (R : Int) : Int := if pSum (fun k => s (2 * k + 1).toNat) R.toNat ≤ D 0 1 then yW (pFr D S (pWt s R.toNat)) alA (D 0 0).toNat (D 0 1).toNat (vFl (pWt s R.toNat)) else 0
def pWh (D S : cM) (s : Nat → Int) (R p r : Int) : Int := if pSum (fun k => s (2 * k + 1).toNat) R.toNat ≤ D 0 1 then yW (pFr D S (pWt s R.toNat)) (alO p r) (D 0 0).toNat (D 0 1).toNat (vFl (pWt s R.toNat)) else 0
section STW
variable {s : Nat → Int} {R r : Int} {w : Int → Int} {D S : cM}
theorem DST.of (hD : D 0 0 ≤ 8) (h0 : ∀ i, 0 ≤ s i) {n : Int} (h : pSo D s n = 1) : DST s (n / 2) := by
  unfold pSo at h
  split at h
  next g =>
    refine ⟨h0, fun j j0 j1 => ?_⟩
    have h1 := pAll_at g.2 j0 j1
    unfold cSo at h1
    split at h1
    next g1 =>
      refine ⟨⟨g1.1.1, by omega⟩, fun i i0 i1 => ?_⟩
      have h2 := pAll_at g1.2 i0 i1
      unfold cNe at h2
      split at h2
      · omega
      next g2 => exact g2
    next => omega
  next => omega
theorem row_at (h : DST s R) : ∀ j : Nat, (j : Int) ≤ R → (pRw s j r = -1 ∧ pWt s j r = -1) ∨ ((0 ≤ pRw s j r ∧ pRw s j r < j) ∧ s (2 * pRw s j r).toNat = r ∧ pWt s j r = s (2 * pRw s j r + 1).toNat)
  | 0, _ => Or.inl ⟨rfl, rfl⟩
  | j + 1, hj => by
    have ih := row_at h j (by omega)
    have e1 : pRw s (j + 1) r = if pRw s j r = -1 then (if s (2 * (j : Int)).toNat = r then (j : Int) else -1) else pRw s j r := rfl
    have e2 : pWt s (j + 1) r = if s (2 * (j : Int)).toNat = r then s (2 * (j : Int) + 1).toNat else pWt s j r := rfl
    rw [e1, e2]
    rcases ih with ⟨a, b⟩ | ⟨a, b, c⟩
    · rw [if_pos a]
      by_cases g : s (2 * (j : Int)).toNat = r
      · rw [if_pos g, if_pos g]
        exact Or.inr ⟨⟨by omega, by omega⟩, g, rfl⟩
      · rw [if_neg g, if_neg g]
        exact Or.inl ⟨rfl, b⟩
    · rw [if_neg (by omega)]
      have hd := (h.2 (j : Int) (by omega) (by omega)).2 (pRw s j r) a.1 a.2
      rw [if_neg (fun z => hd (b.trans z.symm))]
      exact Or.inr ⟨⟨a.1, by omega⟩, b, c⟩
theorem pWt_ge (h : DST s R) (j : Nat) (hj : (j : Int) ≤ R) : -1 ≤ pWt s j r := by
  rcases row_at (r := r) h j hj with ⟨_, b⟩ | ⟨_, _, c⟩
  · omega
  · have := h.1 (2 * pRw s j r + 1).toNat
    omega
theorem rdxC (hw : ∀ r, -1 ≤ w r) : Rdx (cAs w) (cIx w) 8 := by
  refine ⟨fun i => ?_, fun r => ?_, fun r r' h1 h2 => ?_, fun i h0 h1 => ?_⟩
  · unfold cAs
    split
    next g => exact g.2.2
    next => exact Int.le_refl _
  · unfold cIx
    split
    next g => exact Or.inr ⟨g.1, g.2.1⟩
    next => exact Or.inl rfl
  · unfold cIx at h1 h2
    split at h1
    next g =>
      rw [if_pos g] at h2
      split at h2
      · exact h2
      · omega
    next => exact absurd rfl h1
  · by_cases g : w i = -1
    · refine Or.inl ?_
      unfold cAs
      rw [if_neg (by omega)]
    · refine Or.inr ⟨i, h0, h1, ?_⟩
      unfold cIx
      rw [if_pos ⟨h0, h1, g⟩]
theorem rdxR (h : DST s R) (h0 : 0 ≤ R) : Rdx (rAs s R) (pRw s R.toNat) R.toNat := by
  have hc : ((R.toNat : Nat) : Int) = R := by omega
  refine ⟨fun i => ?_, fun r => ?_, fun r r' h1 h2 => ?_, fun i i0 i1 => ?_⟩
  · unfold rAs
    split
    · exact h.1 _
    · exact Int.le_refl _
  · rcases row_at (r := r) h R.toNat (by omega) with ⟨a, _⟩ | ⟨a, _⟩
    · exact Or.inl a
    · exact Or.inr a
  · rcases row_at (r := r) h R.toNat (by omega) with ⟨a, _⟩ | ⟨a, b, _⟩
    · exact absurd a h1
    · rcases row_at (r := r') h R.toNat (by omega) with ⟨a', _⟩ | ⟨a', b', _⟩
      · rw [h2] at h1
        exact absurd a' h1
      · rw [← b, ← b', h2]
  · have hd := h.2 i i0 (by omega)
    refine Or.inr ⟨s (2 * i).toNat, hd.1.1, hd.1.2, ?_⟩
    rcases row_at (r := s (2 * i).toNat) h R.toNat (by omega) with ⟨a, b⟩ | ⟨a, b, _⟩
    · exfalso
      -- the row i is one of this room
      have key : ∀ j : Nat, i < (j : Int) → (j : Int) ≤ R → pRw s j (s (2 * i).toNat) ≠ -1 := by
        intro j
        induction j with
        | zero => intro h1; omega
        | succ j ih =>
          intro h1 h2
          have e1 : pRw s (j + 1) (s (2 * i).toNat) = if pRw s j (s (2 * i).toNat) = -1 then (if s (2 * (j : Int)).toNat = s (2 * i).toNat then (j : Int) else -1) else pRw s j (s (2 * i).toNat) := rfl
          rw [e1]
          by_cases g : pRw s j (s (2 * i).toNat) = -1
          · rw [if_pos g]
            by_cases g2 : i < (j : Int)
            · exact absurd g (ih g2 (by omega))
            · rw [if_pos (congrArg s (by omega))]
              omega
          · rw [if_neg g]
            exact g
      exact key R.toNat (by omega) (by omega) a
    · by_cases g : pRw s R.toNat (s (2 * i).toNat) = i
      · exact g
      · exfalso
        generalize pRw s R.toNat (s (2 * i).toNat) = k at a b g
        by_cases g2 : k < i
        · exact hd.2 k a.1 g2 b
        · exact (h.2 k a.1 (by omega)).2 i i0 (by omega) b.symm
theorem vC_full (hw : ∀ r, -1 ≤ w r) : vOf (cAs w) (cIx w) (pPr (cAs w) 8 - 1) = vFl w := by
  funext x
  unfold vOf vFl
  by_cases g : 0 ≤ x ∧ x < 8 ∧ w x ≠ -1
  · have e : cIx w x = x := by
      unfold cIx
      rw [if_pos g]
    rw [e, if_pos ⟨g.1, g.2.1, by omega⟩, if_pos g, pDg_full (rdxC hw).1 (show x.toNat < 8 by omega)]
    unfold cAs
    have := hw x
    rw [show ((x.toNat : Nat) : Int) = x by omega, if_pos ⟨g.1, g.2.1, by omega⟩]
  · have e : cIx w x = -1 := by
      unfold cIx
      rw [if_neg g]
    rw [e, if_neg (by omega), if_neg g]
theorem vR_full (h : DST s R) (h0 : 0 ≤ R) : vOf (rAs s R) (pRw s R.toNat) (pPr (rAs s R) R.toNat - 1) = vFl (pWt s R.toNat) := by
  funext x
  unfold vOf vFl
  rcases row_at (r := x) h R.toNat (by omega) with ⟨a, b⟩ | ⟨a, b, c⟩
  · rw [a, b, if_neg (by omega), if_neg (by omega)]
  · have hb := h.1 (2 * pRw s R.toNat x + 1).toNat
    by_cases g : 0 ≤ x ∧ x < 8
    · rw [if_pos ⟨g.1, g.2, by omega⟩, if_pos ⟨g.1, g.2, by omega⟩, pDg_full (rdxR h h0).1 (show (pRw s R.toNat x).toNat < R.toNat by omega), c]
      unfold rAs
      rw [show (((pRw s R.toNat x).toNat : Nat) : Int) = pRw s R.toNat x by omega, if_pos (by omega)]
    · rw [if_neg (fun z => g ⟨z.1, z.2.1⟩), if_neg (fun z => g ⟨z.1, z.2.1⟩)]
theorem frC (w : Int → Int) : ∀ p r, pFr D S w p r ≠ 1 → cIx w r ≠ -1 := by
  intro p r h
  unfold pFr at h
  split at h
  next g =>
    unfold cIx
    rw [if_pos g.1]
    omega
  next => exact absurd rfl h
theorem frR (h : DST s R) (h0 : 0 ≤ R) : ∀ p r, pFr D S (pWt s R.toNat) p r ≠ 1 → pRw s R.toNat r ≠ -1 := by
  intro p r hn
  unfold pFr at hn
  split at hn
  next g =>
    rcases row_at (r := r) h R.toNat (by omega) with ⟨_, b⟩ | ⟨a, _⟩
    · exact absurd b g.1.2.2
    · omega
  next => exact absurd rfl hn
theorem tot_eq (h : DST s R) : ∀ j : Nat, (j : Int) ≤ R → pSum (cAs (pWt s j)) 8 = pSum (fun k => s (2 * k + 1).toNat) j
  | 0, _ => by
    show pSum (cAs (pWt s 0)) 8 = 0
    refine pSum_0 8 (fun x x0 x1 => ?_)
    unfold cAs
    exact if_neg (fun z => by have : (0 : Int) ≤ -1 := z.2.2; omega)
  | j + 1, hj => by
    have ih := tot_eq h j (by omega)
    have hd := h.2 (j : Int) (by omega) (by omega)
    show pSum (cAs (pWt s (j + 1))) 8 = pSum (fun k => s (2 * k + 1).toNat) j + s (2 * (j : Int) + 1).toNat
    rw [← ih]
    have e : ∀ x : Int, 0 ≤ x → x < 8 → cAs (pWt s (j + 1)) x = cAs (pWt s j) x + (if x = s (2 * (j : Int)).toNat then s (2 * (j : Int) + 1).toNat else 0) := by
      intro x x0 x1
      have e2 : pWt s (j + 1) x = if s (2 * (j : Int)).toNat = x then s (2 * (j : Int) + 1).toNat else pWt s j x := rfl
      unfold cAs
      rw [e2]
      by_cases g : s (2 * (j : Int)).toNat = x
      · rw [if_pos g, if_pos g.symm]
        have h1 := h.1 (2 * (j : Int) + 1).toNat
        rw [if_pos ⟨x0, x1, h1⟩]
        rcases row_at (r := x) h j (by omega) with ⟨_, b⟩ | ⟨a, b, _⟩
        · rw [b, if_neg (by omega), Int.zero_add]
        · exact absurd (b.trans g.symm) (hd.2 _ a.1 a.2)
      · have e4 : (if x = s (2 * (j : Int)).toNat then s (2 * (j : Int) + 1).toNat else 0) = (0 : Int) := if_neg (fun z => g z.symm)
        rw [if_neg g, e4, Int.add_zero]
    rw [pSum_eq 8 (fun x x0 x1 => e x x0 x1), pSum_add, pSum_one (f := fun x => if x = s (2 * (j : Int)).toNat then s (2 * (j : Int) + 1).toNat else 0) (k := s (2 * (j : Int)).toNat) hd.1.1 (by omega) (fun x _ _ x2 => if_neg x2)]
    rw [if_pos rfl]
end STW
/-! the class's rows for them -/
def STL (w : Int → Int) (M : cM) : Prop := (∀ r : Int, 0 ≤ r → r < 8 → M 55 r.toNat = w r ∧ M 56 r.toNat = (if w r = -1 then 0 else pPr (cAs w) r.toNat)) ∧ M 54 7 = pPr (cAs w) 8 ∧ pPr (cAs w) 8 ≤ 256 ∧ ∀ r, -1 ≤ w r
theorem STL.fr {F : List (Nat × Nat)} {w : Int → Int} {M M1 : cM} (h : STL w M) (g : Fr F M M1) (h7 : c_in F 54 7 = false) (h5 : ∀ f, c_in F 55 f = false) (h6 : ∀ f, c_in F 56 f = false) : STL w M1 := by
  refine ⟨fun r r0 r1 => ?_, (g 54 7 h7).trans h.2.1, h.2.2⟩
  rw [g 55 _ (h5 _), g 56 _ (h6 _)]
  exact h.1 r r0 r1
theorem STL.up {w : Int → Int} {M M1 : cM} {k f : Nat} {x : Int} (h : STL w M) (u : Up M k f x M1) (hk : k ≠ 54 ∧ k ≠ 55 ∧ k ≠ 56) : STL w M1 := by
  refine ⟨fun r r0 r1 => ?_, (u.2 54 7 (by omega)).trans h.2.1, h.2.2⟩
  rw [u.2 55 _ (by omega), u.2 56 _ (by omega)]
  exact h.1 r r0 r1
section STS
variable {s : Nat → Int} {R r p x : Int} {w : Int → Int} {D S M M1 : cM}
theorem told_ix (h : 0 ≤ r ∧ r < 8) (hw : 0 ≤ w r) : cIx w r = r ∧ cAs w r = w r := by
  unfold cIx cAs
  rw [if_pos ⟨h.1, h.2, by omega⟩, if_pos ⟨h.1, h.2, hw⟩]
  exact ⟨rfl, rfl⟩
theorem yN_free (h : w r = -1 ∨ pSi D S p r (S 1 p.toNat) = 1) : yN (cAs w) (cIx w) (pFr D S w) p r x = x := by
  unfold yN
  rw [if_pos]
  unfold pFr
  rw [if_neg (by omega)]
theorem yN_told (hr : 0 ≤ r ∧ r < 8) (hw : 0 ≤ w r) (h : pSi D S p r (S 1 p.toNat) ≠ 1) : yN (cAs w) (cIx w) (pFr D S w) p r x = if x / pPr (cAs w) r.toNat % (w r + 1) < w r then x + pPr (cAs w) r.toNat else -1 := by
  have e := told_ix hr hw
  have ef : pFr D S w p r = 0 := by
    unfold pFr
    rw [if_pos ⟨⟨hr.1, hr.2, by omega⟩, h⟩]
  unfold yN pDg
  rw [ef, if_neg (by decide), e.1, e.2, show ((r.toNat : Nat) : Int) = r by omega, e.2, Int.add_comm 1 (w r)]
theorem cAs_sum (k : Nat) : pSum (cAs w) (k + 1) = pSum (cAs w) k + cAs w k := rfl
theorem cAs_ge : ∀ r, 0 ≤ cAs w r := fun r => by
  unfold cAs
  split
  next g => exact g.2.2
  next => exact Int.le_refl _
theorem cAs_max {v : Int} (hr : 0 ≤ r ∧ r < 8) (hw : -1 ≤ w r) (h : (v = 0 ∨ v = w r) ∧ 0 ≤ v ∧ w r ≤ v) : cAs w r = v := by
  unfold cAs
  by_cases g : 0 ≤ w r
  · rw [if_pos ⟨hr.1, hr.2, g⟩]
    omega
  · rw [if_neg (fun z => g z.2.2)]
    omega
theorem pSum_mono {f : Int → Int} (hf : ∀ x, 0 ≤ f x) {n : Nat} : ∀ {m : Nat}, n ≤ m → pSum f n ≤ pSum f m
  | 0, h => by rw [Nat.le_zero.mp h]; exact Int.le_refl _
  | m + 1, h => by
    by_cases e : n = m + 1
    · rw [e]; exact Int.le_refl _
    · have := pSum_mono hf (n := n) (m := m) (by omega)
      have h2 := hf m
      show pSum f n ≤ pSum f m + f m
      omega
/-- what is wanted, row by row -/
def NTD (s : Nat → Int) (j : Int) (M : cM) : Prop := ∀ r : Int, 0 ≤ r → r < 8 → M 55 r.toNat = pWt s j.toNat r
theorem NTD.nx {j v : Int} {f : Nat} (h : NTD s j M) (h0 : 0 ≤ j) (u : Up M 55 f v M1) (hx : 0 ≤ x ∧ x < 8) (hf : f = x.toNat) (hs : s (2 * j).toNat = x) (hv : s (2 * j + 1).toNat = v) : NTD s (j + 1) M1 := by
  subst hf
  intro r r0 r1
  rw [show (j + 1).toNat = j.toNat + 1 by omega]
  show _ = if s (2 * ((j.toNat : Nat) : Int)).toNat = r then s (2 * ((j.toNat : Nat) : Int) + 1).toNat else pWt s j.toNat r
  rw [show ((j.toNat : Nat) : Int) = j by omega, hs, hv]
  by_cases e : x = r
  · subst e
    rw [if_pos rfl, u.1]
  · rw [if_neg e, u.2 55 _ (by omega)]
    exact h r r0 r1
/-- rows laid so far -/
def LAY (w : Int → Int) (k : Int) (M : cM) : Prop := ∀ r : Int, 0 ≤ r → r < k → M 56 r.toNat = (if w r = -1 then 0 else pPr (cAs w) r.toNat)
theorem LAY.nx {k v : Int} {f : Nat} (h : LAY w k M) (h0 : 0 ≤ k) (u : Up M 56 f v M1) (hf : f = k.toNat) (hv : v = (if w k = -1 then 0 else pPr (cAs w) k.toNat)) : LAY w (k + 1) M1 := by
  subst hf
  intro r r0 r1
  by_cases e : r = k
  · rw [e, u.1, hv]
  · rw [u.2 56 _ (by omega)]
    exact h r r0 (by omega)
theorem pPr_S {k m : Int} (h0 : 0 ≤ k) (hm : cAs w k = m) : pPr (cAs w) (k + 1).toNat = pPr (cAs w) k.toNat * (1 + m) := by
  rw [show (k + 1).toNat = k.toNat + 1 by omega]
  show pPr (cAs w) k.toNat * (1 + cAs w ((k.toNat : Nat) : Int)) = _
  rw [show ((k.toNat : Nat) : Int) = k by omega, hm]
end STS
