/-! the scene: rooms, chairs, broken chairs, the seed, clocks (S 0, S 1, S 2, S 3 0, S 4); what both sides show of them -/
/-- what is given to a sum; how long one carries -/
def gvn (D S : cM) (p c w : Int) : Int → Int := fun k => if k = -1 then w else if k = -2 then D 7 c.toNat else if k = -3 then D 6 p.toNat else if k = -4 then D 8 c.toNat else if k = -5 then S 4 p.toNat else if k = -6 then (if c = p then 1 else 0) else 0
def pCy (D S : cM) (p c w : Int) : Int := if D 11 0 = 0 then w else w + pEv (gvn D S p c w) (cdL D 11)
/-- clocks -/
def pSp (S : cM) (p n : Int) : cM := c_up S 4 p.toNat (if S 4 p.toNat + n < 99999 then S 4 p.toNat + n else 99999)
def pWy (D : cM) (a b : Int) : Int := if 0 ≤ a ∧ a < D 0 0 ∧ 0 ≤ b ∧ b < D 0 0 then D 4 (a * 8 + b).toNat else 0
def pNb (D : cM) (a : Int) : Nat → Int
  | 0 => 0
  | n + 1 => pNb D a n + (if 0 < pWy D a n then 1 else 0)
/-- how wide the chairs in a room are, one left out -/
def pLd (D S : cM) (r but : Int) : Nat → Int
  | 0 => 0
  | k + 1 => pLd D S r but k + (if (k : Int) ≠ but ∧ S 1 k = r then D 8 k else 0)
def pDw (D : cM) (c : Int) : Int := D 8 c.toNat + (if 0 ≤ D 9 c.toNat then D 8 (D 9 c.toNat).toNat else 0)
/-- a chair fits into a room -/
def pAd (D S : cM) (r c : Int) : Int := if (0 ≤ r ∧ r < D 0 0) ∧ (0 ≤ c ∧ c < D 0 1) ∧ pDw D c ≤ D 2 r.toNat ∧ pLd D S r c (D 0 1).toNat + D 8 c.toNat ≤ D 3 r.toNat then 1 else 0
/-- one would sit -/
def pSi (D S : cM) (p r own : Int) : Int := if own = r ∧ S 2 p.toNat = 0 ∧ (D 9 p.toNat = -1 ∨ S 1 (D 9 p.toNat).toNat = r) then 1 else 0
/-- one can take a chair along -/
def pCn (D S : cM) (p r c : Int) : Int := if (0 ≤ c ∧ c < D 0 1) ∧ S 2 c.toNat = 0 ∧ S 1 c.toNat = S 0 p.toNat ∧ pAd D S r c = 1 then 1 else 0
/-- one can go -/
def pCg (D S : cM) (p r c : Int) : Int := if (0 ≤ p ∧ p < D 0 1) ∧ (0 ≤ r ∧ r < D 0 0) ∧ 0 < pWy D (S 0 p.toNat) r ∧ (c = -1 ∨ pCn D S p r c = 1) then 1 else 0
/-- one can mend -/
def pCm (D S : cM) (p c : Int) : Int := if (0 ≤ p ∧ p < D 0 1) ∧ (0 ≤ c ∧ c < D 0 1) ∧ 0 ≤ D 0 3 ∧ S 0 p.toNat = D 0 3 ∧ S 1 c.toNat = D 0 3 ∧ S 2 c.toNat = 1 then 1 else 0
/-- of one's ways the k-th -/
def pNt (D : cM) (a k : Int) : Nat → Int
  | 0 => -1
  | n + 1 => if 0 < pWy D a n ∧ pNb D a n = k then (n : Int) else pNt D a k n
/-- a draw -/
def pNx (x : Int) : Int := (1103515245 * x + 12345) % 2147483648
def pSd (S : cM) : cM := c_up S 3 0 (pNx (S 3 0))
def pDr (S : cM) (m : Int) : Int := pNx (S 3 0) / 64 % m
/-- one goes -/
def pM1 (S : cM) (p r c : Int) : cM := c_up (c_up S 0 p.toNat r) 1 c.toNat r
def pMw (D S : cM) (p r c : Int) : cM := if c = -1 then c_up S 0 p.toNat r else if 0 < D 0 2 then (if pDr (pM1 S p r c) 100 < D 0 2 then c_up (pSd (pM1 S p r c)) 2 c.toNat 1 else pSd (pM1 S p r c)) else pM1 S p r c
/-- minutes of a way -/
def pMi (D S : cM) (p r c : Int) : Int := if c = -1 then pWy D (S 0 p.toNat) r else pCy D S p c (pWy D (S 0 p.toNat) r)
def pMv (D S : cM) (p r c : Int) : cM := pMw D (pSp S p (pMi D S p r c)) p r c
/-- one's day -/
def pGc (D S : cM) (p r : Int) : Int := if pCn D S p r p = 1 then p else -1
def pMn (D S : cM) (p : Int) : Int := pNb D (S 0 p.toNat) (D 0 0).toNat
def pTo (D S : cM) (p : Int) : Int := pNt D (S 0 p.toNat) (pDr (pSd S) (pMn D S p)) (D 0 0).toNat
def pDay (D S : cM) (p : Int) : cM := if pDr S 3 = 1 ∧ 0 < pMn D S p then pMv D (pSd (pSd S)) p (pTo D S p) (pGc D (pSd (pSd S)) p (pTo D S p)) else if pDr S 3 = 2 then pSp (pSd S) p 10 else pSd S
def pDyB (D S : cM) (p : Int) : Int := if pDr S 3 = 1 ∧ 0 < pMn D S p ∧ pCn D (pSd (pSd S)) p (pTo D S p) p = 1 then 1 else 0
def pPp (D S : cM) : Nat → cM
  | 0 => S
  | k + 1 => pDay D (pPp D S k) k
def pPpB (D S : cM) : Nat → Int
  | 0 => 0
  | k + 1 => pPpB D S k + pDyB D (pPp D S k) k
def pDs (D S : cM) : Nat → cM
  | 0 => S
  | k + 1 => pPp D (pDs D S k) (D 0 1).toNat
def pDsB (D S : cM) : Nat → Int
  | 0 => 0
  | k + 1 => pDsB D S k + pPpB D (pDs D S k) (D 0 1).toNat
/-! steps of these -/
section SCP
variable {D S : cM}
theorem pLd_S {r but x k y : Int} (h : x = pLd D S r but k.toNat) (h0 : 0 ≤ k) (hy : (k ≠ but ∧ S 1 k.toNat = r ∧ y = D 8 k.toNat) ∨ ((k = but ∨ S 1 k.toNat ≠ r) ∧ y = 0)) : x + y = pLd D S r but (k + 1).toNat := by
  rw [show (k + 1).toNat = k.toNat + 1 by omega]
  show x + y = pLd D S r but k.toNat + (if ((k.toNat : Nat) : Int) ≠ but ∧ S 1 k.toNat = r then D 8 k.toNat else 0)
  rw [show ((k.toNat : Nat) : Int) = k by omega, ← h]
  rcases hy with ⟨a, b, c⟩ | ⟨a, b⟩
  · rw [if_pos ⟨a, b⟩, c]
  · rw [if_neg (fun z => a.elim z.1 (fun q => q z.2)), b]
theorem pNb_step {a b : Int} (h : 0 ≤ b) : (pNb D a (b + 1).toNat = pNb D a b.toNat + 1 ∧ 0 < pWy D a b) ∨ (pNb D a (b + 1).toNat = pNb D a b.toNat ∧ ¬ 0 < pWy D a b) := by
  have e : (b + 1).toNat = b.toNat + 1 := by omega
  have e2 : ((b.toNat : Nat) : Int) = b := by omega
  have e3 : pNb D a (b.toNat + 1) = pNb D a b.toNat + (if 0 < pWy D a ((b.toNat : Nat) : Int) then 1 else 0) := rfl
  rw [e, e3, e2]
  split
  next g => exact Or.inl ⟨rfl, g⟩
  next g => exact Or.inr ⟨by omega, g⟩
theorem pNb_mono {a : Int} {n : Nat} : ∀ {k : Nat}, n ≤ k → pNb D a n ≤ pNb D a k
  | 0, h => by
    rw [Nat.le_zero.mp h]
    exact Int.le_refl _
  | k + 1, h => by
    by_cases e : n = k + 1
    · rw [e]
      exact Int.le_refl _
    · have := pNb_mono (a := a) (n := n) (k := k) (by omega)
      have e3 : pNb D a (k + 1) = pNb D a k + (if 0 < pWy D a ((k : Nat) : Int) then 1 else 0) := rfl
      rw [e3]
      split <;> omega
theorem pNb_r {a : Int} : ∀ n : Nat, 0 ≤ pNb D a n ∧ pNb D a n ≤ n
  | 0 => ⟨Int.le_refl _, Int.le_refl _⟩
  | n + 1 => by
    have := pNb_r (a := a) n
    have e3 : pNb D a (n + 1) = pNb D a n + (if 0 < pWy D a ((n : Nat) : Int) then 1 else 0) := rfl
    rw [e3]
    split <;> omega
theorem pNt_eq {a k v : Int} (h0 : 0 ≤ v) (hw : 0 < pWy D a v) (hk : pNb D a v.toNat = k) : ∀ n : Nat, v < n → pNt D a k n = v
  | 0, h => absurd h (by omega)
  | n + 1, h => by
    have e : pNt D a k (n + 1) = if 0 < pWy D a n ∧ pNb D a n = k then (n : Int) else pNt D a k n := rfl
    rw [e]
    by_cases g : v = (n : Int)
    · subst g
      rw [if_pos ⟨hw, by rw [← hk]; congr 1⟩]
    · have h1 : pNb D a (v + 1).toNat = pNb D a v.toNat + 1 := (pNb_step h0).elim (fun z => z.1) (fun z => absurd hw z.2)
      have h2 := pNb_mono (D := D) (a := a) (n := (v + 1).toNat) (k := n) (by omega)
      rw [if_neg (fun z => by have := z.2; omega)]
      exact pNt_eq h0 hw hk n (by omega)
theorem pNt_r {a k : Int} : ∀ n : Nat, k < pNb D a n → 0 ≤ k → 0 ≤ pNt D a k n ∧ pNt D a k n < n ∧ 0 < pWy D a (pNt D a k n)
  | 0, h, h0 => by
    have e : pNb D a 0 = 0 := rfl
    omega
  | n + 1, h, h0 => by
    have e : pNt D a k (n + 1) = if 0 < pWy D a n ∧ pNb D a n = k then (n : Int) else pNt D a k n := rfl
    have e3 : pNb D a (n + 1) = pNb D a n + (if 0 < pWy D a ((n : Nat) : Int) then 1 else 0) := rfl
    rw [e]
    by_cases g : 0 < pWy D a n ∧ pNb D a n = k
    · rw [if_pos g]
      exact ⟨by omega, by omega, g.1⟩
    · rw [if_neg g]
      have h2 : k < pNb D a n := by
        rw [e3] at h
        split at h
        next q =>
          have : pNb D a n ≠ k := fun z => g ⟨q, z⟩
          omega
        next q => omega
      have := pNt_r n h2 h0
      exact ⟨this.1, by omega, this.2.2⟩
theorem pPp_S {x : Int} (h : 0 ≤ x) : pPp D S (x + 1).toNat = pDay D (pPp D S x.toNat) x ∧ pPpB D S (x + 1).toNat = pPpB D S x.toNat + pDyB D (pPp D S x.toNat) x := by
  rw [show (x + 1).toNat = x.toNat + 1 by omega]
  have e : ((x.toNat : Nat) : Int) = x := by omega
  constructor
  · show pDay D (pPp D S x.toNat) ((x.toNat : Nat) : Int) = _
    rw [e]
  · show pPpB D S x.toNat + pDyB D (pPp D S x.toNat) ((x.toNat : Nat) : Int) = _
    rw [e]
theorem pDs_S {x : Int} (h : 0 ≤ x) : pDs D S (x + 1).toNat = pPp D (pDs D S x.toNat) (D 0 1).toNat ∧ pDsB D S (x + 1).toNat = pDsB D S x.toNat + pPpB D (pDs D S x.toNat) (D 0 1).toNat := by
  rw [show (x + 1).toNat = x.toNat + 1 by omega]
  exact ⟨rfl, rfl⟩
theorem pNx_r (x : Int) : 0 ≤ pNx x ∧ pNx x < 2147483648 := ⟨Int.emod_nonneg _ (by decide), Int.emod_lt_of_pos _ (by decide)⟩
theorem pDr_r {m : Int} (h : 0 < m) : 0 ≤ pDr S m ∧ pDr S m < m := ⟨Int.emod_nonneg _ (by omega), Int.emod_lt_of_pos _ h⟩
end SCP
def lnd (v w : Int) : Int := c_binL (· &&& ·) v w
theorem lnd_eq {v : Int} (hv : 0 ≤ v) (hv2 : v ≤ 9223372036854775807) : lnd v 2147483647 = v % 2147483648 := by
  unfold lnd c_binL
  rw [← Int64.toInt_toBitVec, Int64.toBitVec_and]
  have e : (Int64.ofInt v).toBitVec.toNat = v.toNat := by
    have h1 : (Int64.ofInt v).toBitVec.toInt = v := by rw [Int64.toInt_toBitVec]; exact bmod64 (by omega) (by omega)
    have h2 := (Int64.ofInt v).toBitVec.isLt
    rw [BitVec.toInt_eq_toNat_cond] at h1
    split at h1 <;> omega
  have e2 : (Int64.ofInt 2147483647).toBitVec.toNat = 2 ^ 31 - 1 := by decide
  have e3 : ((Int64.ofInt v).toBitVec &&& (Int64.ofInt 2147483647).toBitVec).toNat = v.toNat % 2147483648 := by
    rw [BitVec.toNat_and, e, e2, Nat.and_two_pow_sub_one_eq_mod]
  rw [BitVec.toInt_eq_toNat_cond, e3, if_pos (by omega)]
  omega
/-- a scene's rooms are there -/
def SW (D S : cM) : Prop := ∀ p : Nat, (p : Int) < D 0 1 → (0 ≤ S 0 p ∧ S 0 p < D 0 0) ∧ (0 ≤ S 1 p ∧ S 1 p < D 0 0) ∧ (S 2 p = 0 ∨ S 2 p = 1) ∧ 0 ≤ S 4 p ∧ S 4 p ≤ 99999
theorem SW.u0 {D S : cM} {p r : Int} (h : SW D S) (hr : 0 ≤ r ∧ r < D 0 0) : SW D (c_up S 0 p.toNat r) := by
  intro q hq
  have := h q hq
  unfold c_up
  simp
  refine ⟨?_, this.2.1, this.2.2⟩
  split <;> omega
theorem SW.u1 {D S : cM} {p r : Int} (h : SW D S) (hr : 0 ≤ r ∧ r < D 0 0) : SW D (c_up S 1 p.toNat r) := by
  intro q hq
  have := h q hq
  unfold c_up
  simp
  refine ⟨this.1, ?_, this.2.2⟩
  split <;> omega
theorem SW.u2 {D S : cM} {p r : Int} (h : SW D S) (hr : r = 0 ∨ r = 1) : SW D (c_up S 2 p.toNat r) := by
  intro q hq
  have := h q hq
  unfold c_up
  simp
  refine ⟨this.1, this.2.1, ?_, this.2.2.2⟩
  split
  · exact hr
  · exact this.2.2.1
theorem SW.u4 {D S : cM} {p r : Int} (h : SW D S) (hr : 0 ≤ r ∧ r ≤ 99999) : SW D (c_up S 4 p.toNat r) := by
  intro q hq
  have := h q hq
  unfold c_up
  simp
  refine ⟨this.1, this.2.1, this.2.2.1, ?_⟩
  split
  · exact hr
  · exact this.2.2.2
theorem SW.u3 {D S : cM} {f : Nat} {x : Int} (h : SW D S) : SW D (c_up S 3 f x) := by
  intro q hq
  have := h q hq
  unfold c_up
  simp
  exact this
/-! the class's row of cells, the reference's slots -/
def cRow (g : Nat → Int) (n : Int) (S : cM) : Prop := ∀ p : Nat, (p : Int) < n → g p = S 0 p ∧ g (8 + p) = S 1 p ∧ g (16 + p) = S 2 p ∧ g (24 + p) = S 4 p
def rRow (M : cM) (k : Int) (n : Int) (S : cM) : Prop := ∀ p : Nat, (p : Int) < n → M 92 (8 * k + (p : Int)).toNat = S 0 p ∧ M 93 (8 * k + (p : Int)).toNat = S 1 p ∧ M 94 (8 * k + (p : Int)).toNat = S 2 p ∧ M 95 (8 * k + (p : Int)).toNat = S 4 p
theorem cRow.of {g g' : Nat → Int} {n : Int} {S : cM} (h : cRow g n S) (hn : n ≤ 8) (e : ∀ q, q < 32 → g' q = g q) : cRow g' n S := fun p hp => by
  rw [e p (by omega), e (8 + p) (by omega), e (16 + p) (by omega), e (24 + p) (by omega)]
  exact h p hp
theorem rRow.of {M M1 : cM} {k k' n : Int} {S : cM} (h : rRow M k n S) (hn : n ≤ 8) (e : ∀ c, c = 92 ∨ c = 93 ∨ c = 94 ∨ c = 95 → ∀ p : Nat, p < 8 → M1 c (8 * k' + (p : Int)).toNat = M c (8 * k + (p : Int)).toNat) : rRow M1 k' n S := fun p hp => by
  rw [e 92 (by decide) p (by omega), e 93 (by decide) p (by omega), e 94 (by decide) p (by omega), e 95 (by decide) p (by omega)]
  exact h p hp
/-- a town's numbers, with the minutes of its ways -/
def DZ (D : cM) : Prop := DW D ∧ (∀ i : Nat, i < 64 → 0 ≤ D 4 i ∧ D 4 i ≤ 60) ∧ TD D
theorem DZ.rg {D : cM} (h : DZ D) : 0 ≤ D 0 0 ∧ D 0 0 ≤ 8 ∧ 0 ≤ D 0 1 ∧ D 0 1 ≤ 8 ∧ -1 ≤ D 0 3 ∧ (D 0 3 < D 0 0 ∨ D 0 3 = -1) := by
  obtain ⟨a, b, c, d, _, _, _, _, e⟩ := h.1
  exact ⟨a, b, c, d, by omega, by omega⟩
/-- the class's codes of both sums -/
def CDC (t : Nat) (D M : cM) : Prop := (∀ i, fCd M (t + 11) i = D 11 i) ∧ ∀ i, fCd M (t + 14) i = D 12 i
theorem CDC.of {t : Nat} {D M M1 : cM} (h : CDC t D M) (ht : t = 8 ∨ t = 25) (e : ∀ k, k = 19 ∨ k = 21 ∨ k = 22 ∨ k = 24 ∨ k = 36 ∨ k = 38 ∨ k = 39 ∨ k = 41 ∨ 114 ≤ k → ∀ f, M1 k f = M k f) : CDC t D M1 :=
  ⟨fun i => (fCd_eq (e _ (by omega) 1) (e _ (by omega) 2) (fun i => e _ (by omega) i) (fun k i hk => e k (by omega) i) i).trans (h.1 i), fun i => (fCd_eq (e _ (by omega) 1) (e _ (by omega) 2) (fun i => e _ (by omega) i) (fun k i hk => e k (by omega) i) i).trans (h.2 i)⟩
theorem CDC.up {t k f : Nat} {v : Int} {D M M1 : cM} (h : CDC t D M) (ht : t = 8 ∨ t = 25) (u : Up M k f v M1) (hk : k < 8 ∨ (41 < k ∧ k < 114)) : CDC t D M1 := h.of ht fun c hc g => u.2 c g (by omega)
theorem CDC.fr {t : Nat} {F : List (Nat × Nat)} {D M M1 : cM} (h : CDC t D M) (ht : t = 8 ∨ t = 25) (g : Fr F M M1) (hs : frk F = true) : CDC t D M1 := h.of ht fun c hc f => g c f (frk_c hs (by omega) f)
/-- the class: town and scene -/
def CR (D S : cM) (t : Nat) (M : cM) : Prop := (∀ k f, k ≤ 10 → M (t + k) f = D k f) ∧ DZ D ∧ cRow (M 42) (D 0 1) S ∧ M 0 12 = S 3 0 ∧ SW D S ∧ CDC t D M
def RR (D S M : cM) : Prop := RSt (M 63 14) M D ∧ DZ D ∧ rRow M 0 (D 0 1) S ∧ M 63 60 = S 3 0 ∧ SW D S ∧ CDX (M 63 14) M D
def crf (F : List (Nat × Nat)) : Bool := ktf F && !c_in F 0 12 && (F.all fun p => p.1 != 42)
def rrf (F : List (Nat × Nat)) : Bool := !c_in F 63 14 && !c_in F 63 60 && ([65, 66, 67, 68, 69, 70, 71, 72, 73, 74, 79, 80, 83, 84, 92, 93, 94, 95, 75, 76, 77, 78, 81, 82].all fun c => F.all fun p => p.1 != c)
section CRS
variable {D S M M1 : cM} {t f : Nat} {F : List (Nat × Nat)} {v p r : Int}
theorem CR.fr (h : CR D S t M) (g : Fr F M M1) (ht : t = 8 ∨ t = 25) (hs : crf F = true) : CR D S t M1 := by
  unfold crf at hs
  rw [Bool.and_eq_true, Bool.and_eq_true] at hs
  refine ⟨fun k f hk => (g (t + k) f (ktf_in hs.1.1 (by omega))).trans (h.1 k f hk), h.2.1, h.2.2.1.of h.2.1.1.2.2.2.1 (fun q _ => g 42 q (nin (by decide) hs.2 q)), ?_, h.2.2.2.2.1, h.2.2.2.2.2.fr ht g (ktf_k hs.1.1)⟩
  rw [g 0 12 (by simpa using hs.1.2)]
  exact h.2.2.2.1
theorem CR.up {k : Nat} (h : CR D S t M) (u : Up M k f v M1) (ht : t = 8 ∨ t = 25) (hk : k ≠ 42 ∧ ¬ (k = 0 ∧ f = 12) ∧ (k < 8 ∨ (41 < k ∧ k < 114))) : CR D S t M1 := by
  refine ⟨fun k f hk => (u.2 (t + k) f (by omega)).trans (h.1 k f hk), h.2.1, h.2.2.1.of h.2.1.1.2.2.2.1 (fun q _ => u.2 42 q (by omega)), ?_, h.2.2.2.2.1, h.2.2.2.2.2.up ht u (by omega)⟩
  rw [u.2 0 12 (by omega)]
  exact h.2.2.2.1
theorem CR.u24 (h : CR D S t M) (u : Up M 42 f v M1) (ht : t = 8 ∨ t = 25) (hf : 32 ≤ f) : CR D S t M1 := by
  refine ⟨fun k f hk => (u.2 (t + k) f (by omega)).trans (h.1 k f hk), h.2.1, h.2.2.1.of h.2.1.1.2.2.2.1 (fun q hq => u.2 42 q (by omega)), ?_, h.2.2.2.2.1, h.2.2.2.2.2.up ht u (by omega)⟩
  rw [u.2 0 12 (by omega)]
  exact h.2.2.2.1
theorem CR.cp24 (h : CR D S t M) (ht : t = 8 ∨ t = 25) (e : ∀ x y : Nat, (x ≠ 42 ∨ y < 32) → M1 x y = M x y) : CR D S t M1 := by
  refine ⟨fun k f hk => (e (t + k) f (by omega)).trans (h.1 k f hk), h.2.1, h.2.2.1.of h.2.1.1.2.2.2.1 (fun q hq => e 42 q (by omega)), ?_, h.2.2.2.2.1, h.2.2.2.2.2.of ht (fun k hk f => e k f (by omega))⟩
  rw [e 0 12 (by omega)]
  exact h.2.2.2.1
theorem CR.u0 (h : CR D S t M) (u : Up M 42 f r M1) (ht : t = 8 ∨ t = 25) (hp : 0 ≤ p ∧ p < D 0 1) (hf : f = p.toNat) (hr : 0 ≤ r ∧ r < D 0 0) : CR D (c_up S 0 p.toNat r) t M1 := by
  subst hf
  have hn := h.2.1.1.2.2.2.1
  refine ⟨fun k f hk => (u.2 (t + k) f (by omega)).trans (h.1 k f hk), h.2.1, fun q hq => ?_, ?_, h.2.2.2.2.1.u0 hr, h.2.2.2.2.2.up ht u (by omega)⟩
  · have := h.2.2.1 q hq
    rw [u.2 42 (8 + q) (by omega), u.2 42 (16 + q) (by omega), u.2 42 (24 + q) (by omega)]
    unfold c_up
    simp
    refine ⟨?_, this.2⟩
    by_cases e : q = p.toNat
    · rw [if_pos e, e, u.1]
    · rw [if_neg e, u.2 42 q (by omega)]
      exact this.1
  · rw [u.2 0 12 (by omega)]
    exact h.2.2.2.1
theorem CR.u1 (h : CR D S t M) (u : Up M 42 f r M1) (ht : t = 8 ∨ t = 25) (hp : 0 ≤ p ∧ p < D 0 1) (hf : f = 8 + p.toNat) (hr : 0 ≤ r ∧ r < D 0 0) : CR D (c_up S 1 p.toNat r) t M1 := by
  subst hf
  have hn := h.2.1.1.2.2.2.1
  refine ⟨fun k f hk => (u.2 (t + k) f (by omega)).trans (h.1 k f hk), h.2.1, fun q hq => ?_, ?_, h.2.2.2.2.1.u1 hr, h.2.2.2.2.2.up ht u (by omega)⟩
  · have := h.2.2.1 q hq
    rw [u.2 42 q (by omega), u.2 42 (16 + q) (by omega), u.2 42 (24 + q) (by omega)]
    unfold c_up
    simp
    refine ⟨this.1, ?_, this.2.2⟩
    by_cases e : q = p.toNat
    · rw [if_pos e, e, u.1]
    · rw [if_neg e, u.2 42 (8 + q) (by omega)]
      exact this.2.1
  · rw [u.2 0 12 (by omega)]
    exact h.2.2.2.1
theorem CR.u2 (h : CR D S t M) (u : Up M 42 f r M1) (ht : t = 8 ∨ t = 25) (hp : 0 ≤ p ∧ p < D 0 1) (hf : f = 16 + p.toNat) (hr : r = 0 ∨ r = 1) : CR D (c_up S 2 p.toNat r) t M1 := by
  subst hf
  have hn := h.2.1.1.2.2.2.1
  refine ⟨fun k f hk => (u.2 (t + k) f (by omega)).trans (h.1 k f hk), h.2.1, fun q hq => ?_, ?_, h.2.2.2.2.1.u2 hr, h.2.2.2.2.2.up ht u (by omega)⟩
  · have := h.2.2.1 q hq
    rw [u.2 42 q (by omega), u.2 42 (8 + q) (by omega), u.2 42 (24 + q) (by omega)]
    unfold c_up
    simp
    refine ⟨this.1, this.2.1, ?_, this.2.2.2⟩
    by_cases e : q = p.toNat
    · rw [if_pos e, e, u.1]
    · rw [if_neg e, u.2 42 (16 + q) (by omega)]
      exact this.2.2.1
  · rw [u.2 0 12 (by omega)]
    exact h.2.2.2.1
theorem CR.u4 (h : CR D S t M) (u : Up M 42 f r M1) (ht : t = 8 ∨ t = 25) (hp : 0 ≤ p ∧ p < D 0 1) (hf : f = 24 + p.toNat) (hr : 0 ≤ r ∧ r ≤ 99999) : CR D (c_up S 4 p.toNat r) t M1 := by
  subst hf
  have hn := h.2.1.1.2.2.2.1
  refine ⟨fun k f hk => (u.2 (t + k) f (by omega)).trans (h.1 k f hk), h.2.1, fun q hq => ?_, ?_, h.2.2.2.2.1.u4 hr, h.2.2.2.2.2.up ht u (by omega)⟩
  · have := h.2.2.1 q hq
    rw [u.2 42 q (by omega), u.2 42 (8 + q) (by omega), u.2 42 (16 + q) (by omega)]
    unfold c_up
    simp
    refine ⟨this.1, this.2.1, this.2.2.1, ?_⟩
    by_cases e : q = p.toNat
    · rw [if_pos e, e, u.1]
    · rw [if_neg e, u.2 42 (24 + q) (by omega)]
      exact this.2.2.2
  · rw [u.2 0 12 (by omega)]
    exact h.2.2.2.1
theorem cRow.u3 {g : Nat → Int} {n x : Int} (h : cRow g n S) : cRow g n (c_up S 3 f x) := fun q hq => by
  have := h q hq
  unfold c_up
  simp
  exact this
theorem rRow.u3 {k n x : Int} (h : rRow M k n S) : rRow M k n (c_up S 3 f x) := fun q hq => by
  have := h q hq
  unfold c_up
  simp
  exact this
theorem CR.u3 (h : CR D S t M) (u : Up M 0 12 v M1) (ht : t = 8 ∨ t = 25) : CR D (c_up S 3 0 v) t M1 := by
  refine ⟨fun k f hk => (u.2 (t + k) f (by omega)).trans (h.1 k f hk), h.2.1, (h.2.2.1.of h.2.1.1.2.2.2.1 (fun q hq => u.2 42 q (by omega))).u3, ?_, h.2.2.2.2.1.u3, h.2.2.2.2.2.up ht u (by omega)⟩
  rw [u.1]
  unfold c_up
  simp
theorem CR.rm (h : CR D S t M) (hp : 0 ≤ p ∧ p < D 0 1) (hf : f = p.toNat) : M 42 f = S 0 p.toNat := by
  subst hf
  exact (h.2.2.1 p.toNat (by omega)).1
theorem CR.ch (h : CR D S t M) (hp : 0 ≤ p ∧ p < D 0 1) (hf : f = 8 + p.toNat) : M 42 f = S 1 p.toNat := by
  subst hf
  exact (h.2.2.1 p.toNat (by omega)).2.1
theorem CR.br (h : CR D S t M) (hp : 0 ≤ p ∧ p < D 0 1) (hf : f = 16 + p.toNat) : M 42 f = S 2 p.toNat := by
  subst hf
  exact (h.2.2.1 p.toNat (by omega)).2.2.1
theorem CR.cl (h : CR D S t M) (hp : 0 ≤ p ∧ p < D 0 1) (hf : f = 24 + p.toNat) : M 42 f = S 4 p.toNat := by
  subst hf
  exact (h.2.2.1 p.toNat (by omega)).2.2.2
theorem SW.at (h : SW D S) (hp : 0 ≤ p ∧ p < D 0 1) : (0 ≤ S 0 p.toNat ∧ S 0 p.toNat < D 0 0) ∧ (0 ≤ S 1 p.toNat ∧ S 1 p.toNat < D 0 0) ∧ (S 2 p.toNat = 0 ∨ S 2 p.toNat = 1) ∧ 0 ≤ S 4 p.toNat ∧ S 4 p.toNat ≤ 99999 := h p.toNat (by omega)
theorem DW.pt (h : DW D) (hp : 0 ≤ p ∧ p < D 0 1) : -1 ≤ D 9 p.toNat ∧ D 9 p.toNat < D 0 1 := h.2.2.2.2.2.2.2.1 p.toNat (by omega)
theorem DW.wd (h : DW D) (hp : 0 ≤ p ∧ p < D 0 1) : 0 ≤ D 8 p.toNat ∧ D 8 p.toNat ≤ 9 := by
  have := h.2.2.2.2.1 p.toNat (by omega)
  omega
theorem wy_p (h : CR D S t M) (a b : Int) : wy M t a b = pWy D a b := by
  unfold wy pWy
  rw [← h.1 4 _ (by decide), ← h.1 0 0 (by decide)]
  rfl
theorem nbC_p (h : CR D S t M) (a : Int) : ∀ n, nbC M t a n = pNb D a n
  | 0 => rfl
  | n + 1 => by
    show nbC M t a n + _ = pNb D a n + _
    rw [nbC_p h a n, wy_p h]
theorem pLd_r (h : DW D) {r but : Int} : ∀ (n : Nat), (n : Int) ≤ D 0 1 → 0 ≤ pLd D S r but n ∧ pLd D S r but n ≤ 9 * n
  | 0, _ => ⟨Int.le_refl _, Int.le_refl _⟩
  | n + 1, hn => by
    have h1 := h.2.2.2.2.1 n (by omega)
    have h2 := pLd_r h (r := r) (but := but) n (by omega)
    show 0 ≤ pLd D S r but n + (if (n : Int) ≠ but ∧ S 1 n = r then D 8 n else 0) ∧ pLd D S r but n + (if (n : Int) ≠ but ∧ S 1 n = r then D 8 n else 0) ≤ 9 * ((n + 1 : Nat) : Int)
    split <;> omega
end CRS
section RRS
variable {D S M M1 : cM} {f : Nat} {F : List (Nat × Nat)} {v p r : Int}
theorem RR.fr (h : RR D S M) (g : Fr F M M1) (hs : rrf F = true) : RR D S M1 := by
  unfold rrf at hs
  rw [Bool.and_eq_true, Bool.and_eq_true] at hs
  have e : ∀ c, c ∈ [65, 66, 67, 68, 69, 70, 71, 72, 73, 74, 79, 80, 83, 84, 92, 93, 94, 95, 75, 76, 77, 78, 81, 82] → ∀ f, M1 c f = M c f := fun c hc f => g c f (nin (by simp at hc; omega) (List.all_eq_true.mp hs.2 c hc) f)
  unfold RR
  rw [g 63 14 (by simpa using hs.1.1), g 63 60 (by simpa using hs.1.2)]
  refine ⟨h.1.eq (fun c hc => e c (by simp at hc ⊢; omega)), h.2.1, h.2.2.1.of h.2.1.1.2.2.2.1 (fun c hc p _ => e c (by simp; omega) _), h.2.2.2.1, h.2.2.2.2.1, h.2.2.2.2.2.of (fun c hc => e c (by simp at hc ⊢; omega))⟩
def rrf0 (F : List (Nat × Nat)) : Bool := !c_in F 63 14 && !c_in F 63 60 && ([65, 66, 67, 68, 69, 70, 71, 72, 73, 74, 79, 80, 83, 84, 75, 76, 77, 78, 81, 82].all fun c => F.all fun p => p.1 != c)
theorem RR.cpy (h : RR D S M) (g : Fr F M M1) (hs : rrf0 F = true) (h2 : ∀ x, x = 92 ∨ x = 93 ∨ x = 94 ∨ x = 95 → ∀ q : Nat, q < 8 → M1 x q = M x q) : RR D S M1 := by
  unfold rrf0 at hs
  rw [Bool.and_eq_true, Bool.and_eq_true] at hs
  have e : ∀ c, c ∈ [65, 66, 67, 68, 69, 70, 71, 72, 73, 74, 79, 80, 83, 84, 75, 76, 77, 78, 81, 82] → ∀ f, M1 c f = M c f := fun c hc f => g c f (nin (by simp at hc; omega) (List.all_eq_true.mp hs.2 c hc) f)
  unfold RR
  rw [g 63 14 (by simpa using hs.1.1), g 63 60 (by simpa using hs.1.2)]
  refine ⟨h.1.eq (fun c hc => e c (by simp at hc ⊢; omega)), h.2.1, h.2.2.1.of h.2.1.1.2.2.2.1 (fun c hc p hp => ?_), h.2.2.2.1, h.2.2.2.2.1, h.2.2.2.2.2.of (fun c hc => e c (by simp at hc ⊢; omega))⟩
  rw [show (8 * (0 : Int) + (p : Int)).toNat = p by omega]
  exact h2 c hc p hp
theorem RR.up {k : Nat} (h : RR D S M) (u : Up M k f v M1) (hk : ¬ (k = 63 ∧ (f = 14 ∨ f = 60)) ∧ (k < 65 ∨ (85 ≤ k ∧ k ≠ 92 ∧ k ≠ 93 ∧ k ≠ 94 ∧ k ≠ 95))) : RR D S M1 := by
  have e : ∀ c, c ∈ [65, 66, 67, 68, 69, 70, 71, 72, 73, 74, 79, 80, 83, 84, 92, 93, 94, 95, 75, 76, 77, 78, 81, 82] → ∀ g, M1 c g = M c g := fun c hc g => u.2 c g (by simp at hc; omega)
  unfold RR
  rw [u.2 63 14 (by omega), u.2 63 60 (by omega)]
  refine ⟨h.1.eq (fun c hc => e c (by simp at hc ⊢; omega)), h.2.1, h.2.2.1.of h.2.1.1.2.2.2.1 (fun c hc p _ => e c (by simp; omega) _), h.2.2.2.1, h.2.2.2.2.1, h.2.2.2.2.2.of (fun c hc => e c (by simp at hc ⊢; omega))⟩
theorem RR.u92 {k : Nat} (h : RR D S M) (hk : k = 92 ∨ k = 93 ∨ k = 94 ∨ k = 95) (u : Up M k f v M1) (hf : 8 ≤ f) : RR D S M1 := by
  have e : ∀ c, c ∈ [65, 66, 67, 68, 69, 70, 71, 72, 73, 74, 79, 80, 83, 84, 75, 76, 77, 78, 81, 82] → ∀ g, M1 c g = M c g := fun c hc g => u.2 c g (by simp at hc; omega)
  unfold RR
  rw [u.2 63 14 (by omega), u.2 63 60 (by omega)]
  exact ⟨h.1.eq (fun c hc => e c (by simp at hc ⊢; omega)), h.2.1, h.2.2.1.of h.2.1.1.2.2.2.1 (fun c hc p _ => u.2 c _ (by omega)), h.2.2.2.1, h.2.2.2.2.1, h.2.2.2.2.2.of (fun c hc => e c (by simp at hc ⊢; omega))⟩
theorem RR.u0 (h : RR D S M) (u : Up M 92 f r M1) (hp : 0 ≤ p ∧ p < D 0 1) (hf : f = p.toNat) (hr : 0 ≤ r ∧ r < D 0 0) : RR D (c_up S 0 p.toNat r) M1 := by
  subst hf
  have hn := h.2.1.1.2.2.2.1
  have e : ∀ c, c ∈ [65, 66, 67, 68, 69, 70, 71, 72, 73, 74, 79, 80, 83, 84, 75, 76, 77, 78, 81, 82] → ∀ g, M1 c g = M c g := fun c hc g => u.2 c g (by simp at hc; omega)
  unfold RR
  rw [u.2 63 14 (by omega), u.2 63 60 (by omega)]
  refine ⟨h.1.eq (fun c hc => e c (by simp at hc ⊢; omega)), h.2.1, fun q hq => ?_, h.2.2.2.1, h.2.2.2.2.1.u0 hr, h.2.2.2.2.2.of (fun c hc => e c (by simp at hc ⊢; omega))⟩
  have := h.2.2.1 q hq
  rw [show (8 * (0 : Int) + (q : Int)).toNat = q by omega] at this
  rw [u.2 93 _ (by omega), u.2 94 _ (by omega), u.2 95 _ (by omega)]
  unfold c_up
  simp
  refine ⟨?_, this.2⟩
  by_cases e : q = p.toNat
  · rw [if_pos e, e, u.1]
  · rw [if_neg e, u.2 92 q (by omega)]
    exact this.1
theorem RR.u1 (h : RR D S M) (u : Up M 93 f r M1) (hp : 0 ≤ p ∧ p < D 0 1) (hf : f = p.toNat) (hr : 0 ≤ r ∧ r < D 0 0) : RR D (c_up S 1 p.toNat r) M1 := by
  subst hf
  have hn := h.2.1.1.2.2.2.1
  have e : ∀ c, c ∈ [65, 66, 67, 68, 69, 70, 71, 72, 73, 74, 79, 80, 83, 84, 75, 76, 77, 78, 81, 82] → ∀ g, M1 c g = M c g := fun c hc g => u.2 c g (by simp at hc; omega)
  unfold RR
  rw [u.2 63 14 (by omega), u.2 63 60 (by omega)]
  refine ⟨h.1.eq (fun c hc => e c (by simp at hc ⊢; omega)), h.2.1, fun q hq => ?_, h.2.2.2.1, h.2.2.2.2.1.u1 hr, h.2.2.2.2.2.of (fun c hc => e c (by simp at hc ⊢; omega))⟩
  have := h.2.2.1 q hq
  rw [show (8 * (0 : Int) + (q : Int)).toNat = q by omega] at this
  rw [u.2 92 _ (by omega), u.2 94 _ (by omega), u.2 95 _ (by omega)]
  unfold c_up
  simp
  refine ⟨this.1, ?_, this.2.2⟩
  by_cases e : q = p.toNat
  · rw [if_pos e, e, u.1]
  · rw [if_neg e, u.2 93 q (by omega)]
    exact this.2.1
theorem RR.u2 (h : RR D S M) (u : Up M 94 f r M1) (hp : 0 ≤ p ∧ p < D 0 1) (hf : f = p.toNat) (hr : r = 0 ∨ r = 1) : RR D (c_up S 2 p.toNat r) M1 := by
  subst hf
  have hn := h.2.1.1.2.2.2.1
  have e : ∀ c, c ∈ [65, 66, 67, 68, 69, 70, 71, 72, 73, 74, 79, 80, 83, 84, 75, 76, 77, 78, 81, 82] → ∀ g, M1 c g = M c g := fun c hc g => u.2 c g (by simp at hc; omega)
  unfold RR
  rw [u.2 63 14 (by omega), u.2 63 60 (by omega)]
  refine ⟨h.1.eq (fun c hc => e c (by simp at hc ⊢; omega)), h.2.1, fun q hq => ?_, h.2.2.2.1, h.2.2.2.2.1.u2 hr, h.2.2.2.2.2.of (fun c hc => e c (by simp at hc ⊢; omega))⟩
  have := h.2.2.1 q hq
  rw [show (8 * (0 : Int) + (q : Int)).toNat = q by omega] at this
  rw [u.2 92 _ (by omega), u.2 93 _ (by omega), u.2 95 _ (by omega)]
  unfold c_up
  simp
  refine ⟨this.1, this.2.1, ?_, this.2.2.2⟩
  by_cases e : q = p.toNat
  · rw [if_pos e, e, u.1]
  · rw [if_neg e, u.2 94 q (by omega)]
    exact this.2.2.1
theorem RR.u4 (h : RR D S M) (u : Up M 95 f r M1) (hp : 0 ≤ p ∧ p < D 0 1) (hf : f = p.toNat) (hr : 0 ≤ r ∧ r ≤ 99999) : RR D (c_up S 4 p.toNat r) M1 := by
  subst hf
  have hn := h.2.1.1.2.2.2.1
  have e : ∀ c, c ∈ [65, 66, 67, 68, 69, 70, 71, 72, 73, 74, 79, 80, 83, 84, 75, 76, 77, 78, 81, 82] → ∀ g, M1 c g = M c g := fun c hc g => u.2 c g (by simp at hc; omega)
  unfold RR
  rw [u.2 63 14 (by omega), u.2 63 60 (by omega)]
  refine ⟨h.1.eq (fun c hc => e c (by simp at hc ⊢; omega)), h.2.1, fun q hq => ?_, h.2.2.2.1, h.2.2.2.2.1.u4 hr, h.2.2.2.2.2.of (fun c hc => e c (by simp at hc ⊢; omega))⟩
  have := h.2.2.1 q hq
  rw [show (8 * (0 : Int) + (q : Int)).toNat = q by omega] at this
  rw [u.2 92 _ (by omega), u.2 93 _ (by omega), u.2 94 _ (by omega)]
  unfold c_up
  simp
  refine ⟨this.1, this.2.1, this.2.2.1, ?_⟩
  by_cases e : q = p.toNat
  · rw [if_pos e, e, u.1]
  · rw [if_neg e, u.2 95 q (by omega)]
    exact this.2.2.2
theorem RR.u3 (h : RR D S M) (u : Up M 63 60 v M1) : RR D (c_up S 3 0 v) M1 := by
  have e : ∀ c, c ∈ [65, 66, 67, 68, 69, 70, 71, 72, 73, 74, 79, 80, 83, 84, 92, 93, 94, 95, 75, 76, 77, 78, 81, 82] → ∀ g, M1 c g = M c g := fun c hc g => u.2 c g (by simp at hc; omega)
  unfold RR
  rw [u.2 63 14 (by omega), u.1]
  refine ⟨h.1.eq (fun c hc => e c (by simp at hc ⊢; omega)), h.2.1, (h.2.2.1.of h.2.1.1.2.2.2.1 (fun c hc p _ => e c (by simp; omega) _)).u3, ?_, h.2.2.2.2.1.u3, h.2.2.2.2.2.of (fun c hc => e c (by simp at hc ⊢; omega))⟩
  unfold c_up
  simp
theorem RR.rm (h : RR D S M) (hp : 0 ≤ p ∧ p < D 0 1) (hf : f = p.toNat) : M 92 f = S 0 p.toNat := by
  have := (h.2.2.1 p.toNat (by omega)).1
  rw [hf, ← this]
  congr 1
  omega
theorem RR.ch (h : RR D S M) (hp : 0 ≤ p ∧ p < D 0 1) (hf : f = p.toNat) : M 93 f = S 1 p.toNat := by
  have := (h.2.2.1 p.toNat (by omega)).2.1
  rw [hf, ← this]
  congr 1
  omega
theorem RR.br (h : RR D S M) (hp : 0 ≤ p ∧ p < D 0 1) (hf : f = p.toNat) : M 94 f = S 2 p.toNat := by
  have := (h.2.2.1 p.toNat (by omega)).2.2.1
  rw [hf, ← this]
  congr 1
  omega
theorem RR.cl (h : RR D S M) (hp : 0 ≤ p ∧ p < D 0 1) (hf : f = p.toNat) : M 95 f = S 4 p.toNat := by
  have := (h.2.2.1 p.toNat (by omega)).2.2.2
  rw [hf, ← this]
  congr 1
  omega
theorem RR.dr (h : RR D S M) (hp : 0 ≤ p ∧ p < D 0 0) (hf : f = (8 * M 63 14 + p).toNat) : M 66 f = D 2 p.toNat := by
  have := (h.1.2.2.2.2.1 p.toNat (by omega)).2.1
  rw [hf, ← this]
  congr 2
  omega
theorem RR.fl (h : RR D S M) (hp : 0 ≤ p ∧ p < D 0 0) (hf : f = (8 * M 63 14 + p).toNat) : M 67 f = D 3 p.toNat := by
  have := (h.1.2.2.2.2.1 p.toNat (by omega)).2.2
  rw [hf, ← this]
  congr 2
  omega
theorem RR.wg (h : RR D S M) (hp : 0 ≤ p ∧ p < D 0 1) (hf : f = (8 * M 63 14 + p).toNat) : M 71 f = D 7 p.toNat := by
  have := (h.1.2.2.2.2.2.1 p.toNat (by omega)).2.2.1
  rw [hf, ← this]
  congr 2
  omega
theorem RR.sg (h : RR D S M) (hp : 0 ≤ p ∧ p < D 0 1) (hf : f = (8 * M 63 14 + p).toNat) : M 70 f = D 6 p.toNat := by
  have := (h.1.2.2.2.2.2.1 p.toNat (by omega)).2.1
  rw [hf, ← this]
  congr 2
  omega
theorem RR.wd (h : RR D S M) (hp : 0 ≤ p ∧ p < D 0 1) (hf : f = (8 * M 63 14 + p).toNat) : M 72 f = D 8 p.toNat := by
  have := (h.1.2.2.2.2.2.1 p.toNat (by omega)).2.2.2.1
  rw [hf, ← this]
  congr 2
  omega
theorem RR.pt (h : RR D S M) (hp : 0 ≤ p ∧ p < D 0 1) (hf : f = (8 * M 63 14 + p).toNat) : M 74 f = D 9 p.toNat := by
  have := (h.1.2.2.2.2.2.1 p.toNat (by omega)).2.2.2.2.1
  rw [hf, ← this]
  congr 2
  omega
theorem RR.hm (h : RR D S M) (hp : 0 ≤ p ∧ p < D 0 1) (hf : f = (8 * M 63 14 + p).toNat) : M 73 f = D 10 p.toNat := by
  have := (h.1.2.2.2.2.2.1 p.toNat (by omega)).2.2.2.2.2
  rw [hf, ← this]
  congr 2
  omega
theorem RR.wy (h : RR D S M) {a b : Int} (ha : 0 ≤ a ∧ a < D 0 0) (hb : 0 ≤ b ∧ b < D 0 0) : wr M a b = pWy D a b := by
  have e := h.1.2.2.2.2.2.2.1 a.toNat b.toNat (by omega) (by omega)
  unfold wr pWy
  rw [if_pos ⟨ha.1, ha.2, hb.1, hb.2⟩, show (a * 8 + b).toNat = 8 * a.toNat + b.toNat by omega, ← e]
  congr 2
  omega
end RRS
/-! what can be undone -/
def CH (D : cM) (H : Nat → cM) (c : Int) (M : cM) : Prop := (M 44 2 = c ∧ 0 ≤ c ∧ c ≤ 20) ∧ ∀ k : Nat, (k : Int) < c → cRow (fun q => M 45 (81 * ((M 44 1 + 20 - (k : Int)) % 20).toNat + q)) (D 0 1) (H k) ∧ SW D (H k)
def RH (D : cM) (H : Nat → cM) (c : Int) (M : cM) : Prop := (M 63 59 = c ∧ 0 ≤ c ∧ c ≤ 20) ∧ ∀ k : Nat, (k : Int) < c → rRow M (2 + (M 63 58 + c - 1 - (k : Int)) % 20) (D 0 1) (H k) ∧ SW D (H k)
def pPh (S : cM) (H : Nat → cM) : Nat → cM
  | 0 => S
  | k + 1 => H k
def pC1 (c : Int) : Int := if c = 20 then 20 else c + 1
/-- undone: all but the seed -/
def pUn (S S1 : cM) : cM := c_up S1 3 0 (S 3 0)
def chf (F : List (Nat × Nat)) : Bool := !c_in F 44 1 && !c_in F 44 2 && (F.all fun p => p.1 != 45)
def rhf (F : List (Nat × Nat)) : Bool := !c_in F 63 58 && !c_in F 63 59 && ([92, 93, 94, 95].all fun c => F.all fun p => p.1 != c)
section HIS
variable {D S M M1 : cM} {H : Nat → cM} {c v : Int} {f : Nat} {F : List (Nat × Nat)}
theorem CH.fr (h : CH D H c M) (g : Fr F M M1) (hs : chf F = true) : CH D H c M1 := by
  unfold chf at hs
  rw [Bool.and_eq_true, Bool.and_eq_true] at hs
  unfold CH
  rw [g 44 1 (by simpa using hs.1.1), g 44 2 (by simpa using hs.1.2)]
  refine ⟨h.1, fun k hk => ⟨fun p hp => ?_, (h.2 k hk).2⟩⟩
  have e : ∀ f, M1 45 f = M 45 f := fun f => g 45 f (nin (by decide) hs.2 f)
  have := (h.2 k hk).1 p hp
  simp only [e]
  exact this
theorem CH.up {k : Nat} (h : CH D H c M) (u : Up M k f v M1) (hk : k ≠ 45 ∧ ¬ (k = 44 ∧ (f = 1 ∨ f = 2))) : CH D H c M1 := by
  unfold CH
  rw [u.2 44 1 (by omega), u.2 44 2 (by omega)]
  refine ⟨h.1, fun k hk => ⟨fun p hp => ?_, (h.2 k hk).2⟩⟩
  have e : ∀ f, M1 45 f = M 45 f := fun f => u.2 45 f (by omega)
  have := (h.2 k hk).1 p hp
  simp only [e]
  exact this
theorem RH.fr (h : RH D H c M) (hD : DW D) (g : Fr F M M1) (hs : rhf F = true) : RH D H c M1 := by
  unfold rhf at hs
  rw [Bool.and_eq_true, Bool.and_eq_true] at hs
  have e : ∀ c, c ∈ [92, 93, 94, 95] → ∀ f, M1 c f = M c f := fun c hc f => g c f (nin (by simp at hc; omega) (List.all_eq_true.mp hs.2 c hc) f)
  unfold RH
  rw [g 63 58 (by simpa using hs.1.1), g 63 59 (by simpa using hs.1.2)]
  exact ⟨h.1, fun k hk => ⟨(h.2 k hk).1.of hD.2.2.2.1 (fun c hc p _ => e c (by simp; omega) _), (h.2 k hk).2⟩⟩
theorem RH.up {k : Nat} (h : RH D H c M) (hD : DW D) (u : Up M k f v M1) (hk : ¬ (k = 63 ∧ (f = 58 ∨ f = 59)) ∧ ((k ≠ 92 ∧ k ≠ 93 ∧ k ≠ 94 ∧ k ≠ 95) ∨ f < 16)) : RH D H c M1 := by
  have hr := h.1
  unfold RH
  rw [u.2 63 58 (by omega), u.2 63 59 (by omega)]
  exact ⟨h.1, fun k hk => ⟨(h.2 k hk).1.of hD.2.2.2.1 (fun c hc p hp => u.2 c _ (by omega)), (h.2 k hk).2⟩⟩
/-- the class remembers, takes back -/
theorem CH.push (h : CH D H c M) (hS : SW D S) (hr : cRow (M 42) (D 0 1) S) (hD : DW D) (h1 : 0 ≤ M 44 1 ∧ M 44 1 ≤ 19) {n : Int} (hn : n = (M 44 1 + 1) % 20) (e1 : M1 44 1 = n) (e2 : M1 44 2 = pC1 c) (e3 : ∀ q : Nat, q < 81 → M1 45 (81 * n.toNat + q) = M 42 q) (e4 : ∀ f : Nat, ¬ (81 * n.toNat ≤ f ∧ f < 81 * n.toNat + 81) → M1 45 f = M 45 f) : CH D (pPh S H) (pC1 c) M1 := by
  have hc := h.1
  have hc1 : 0 ≤ pC1 c ∧ pC1 c ≤ 20 := by unfold pC1; split <;> omega
  refine ⟨⟨e2, hc1⟩, fun k hk => ?_⟩
  rw [e1]
  cases k with
  | zero =>
    refine ⟨hr.of hD.2.2.2.1 (fun q hq => ?_), hS⟩
    rw [show ((n + 20 - (((0 : Nat) : Nat) : Int)) % 20).toNat = n.toNat by omega]
    exact e3 q (by omega)
  | succ k =>
    have hk2 : (k : Int) < c ∧ k < 19 := by unfold pC1 at hk; split at hk <;> omega
    have h2 := h.2 k hk2.1
    refine ⟨h2.1.of hD.2.2.2.1 (fun q hq => ?_), h2.2⟩
    have e5 : ((n + 20 - ((k + 1 : Nat) : Int)) % 20).toNat = ((M 44 1 + 20 - (k : Int)) % 20).toNat := by omega
    rw [e5]
    exact e4 _ (by omega)
theorem CH.pop (h : CH D H c M) (hc : 0 < c) (h1 : 0 ≤ M 44 1 ∧ M 44 1 ≤ 19) (e1 : M1 44 1 = (M 44 1 + 19) % 20) (e2 : M1 44 2 = c - 1) (e3 : ∀ f, M1 45 f = M 45 f) : CH D (fun k => H (k + 1)) (c - 1) M1 := by
  have hcc := h.1
  refine ⟨⟨e2, by omega, by omega⟩, fun k hk => ?_⟩
  have h2 := h.2 (k + 1) (by omega)
  refine ⟨fun p hp => ?_, h2.2⟩
  have h3 := h2.1 p hp
  simp only [e3, e1]
  have e5 : (((M 44 1 + 19) % 20 + 20 - (k : Int)) % 20).toNat = ((M 44 1 + 20 - ((k + 1 : Nat) : Int)) % 20).toNat := by omega
  rw [e5]
  exact h3
theorem CR.pop {t : Nat} (h : CR D S t M) (hh : CH D H c M) (ht : t = 8 ∨ t = 25) (hc : 0 < c) (h1 : 0 ≤ M 44 1 ∧ M 44 1 ≤ 19) (e3 : ∀ q : Nat, q < 81 → M1 42 q = M 45 (81 * (M 44 1).toNat + q)) (e4 : M1 0 12 = M 0 12) (e5 : ∀ k, (8 ≤ k ∧ k < 42) ∨ 114 ≤ k → ∀ f, M1 k f = M k f) : CR D (pUn S (H 0)) t M1 := by
  have h2 := hh.2 0 (by omega)
  have hn := h.2.1.1.2.2.2.1
  refine ⟨fun k f hk => (e5 (t + k) (by omega) f).trans (h.1 k f hk), h.2.1, ?_, ?_, h2.2.u3, h.2.2.2.2.2.of ht (fun k hk f => e5 k (by omega) f)⟩
  · refine cRow.u3 (fun p hp => ?_)
    have h3 := h2.1 p hp
    rw [show ((M 44 1 + 20 - ((0 : Nat) : Int)) % 20).toNat = (M 44 1).toNat by omega] at h3
    rw [e3 p (by omega), e3 (8 + p) (by omega), e3 (16 + p) (by omega), e3 (24 + p) (by omega)]
    exact h3
  · rw [e4, h.2.2.2.1]
    unfold pUn c_up
    simp
/-- the reference remembers, takes back -/
theorem RH.push (h : RH D H c M) (hS : SW D S) (hr : rRow M 0 (D 0 1) S) (hD : DW D) (h1 : 0 ≤ M 63 58 ∧ M 63 58 ≤ 19) (e1 : (c = 20 ∧ M1 63 58 = (M 63 58 + 1) % 20) ∨ (c ≠ 20 ∧ M1 63 58 = M 63 58)) (e2 : M1 63 59 = pC1 c) {k0 : Int} (hk0 : k0 = 2 + (M1 63 58 + pC1 c - 1) % 20) (e3 : ∀ x, x = 92 ∨ x = 93 ∨ x = 94 ∨ x = 95 → ∀ p : Nat, p < 8 → M1 x (8 * k0 + (p : Int)).toNat = M x p) (e4 : ∀ x, x = 92 ∨ x = 93 ∨ x = 94 ∨ x = 95 → ∀ k : Int, 0 ≤ k → k ≠ k0 → ∀ p : Nat, p < 8 → M1 x (8 * k + (p : Int)).toNat = M x (8 * k + (p : Int)).toNat) : RH D (pPh S H) (pC1 c) M1 := by
  have hc := h.1
  have hc1 : 0 ≤ pC1 c ∧ pC1 c ≤ 20 := by unfold pC1; split <;> omega
  have hc2 : (c = 20 ∧ pC1 c = 20) ∨ (c ≠ 20 ∧ pC1 c = c + 1) := by unfold pC1; split <;> omega
  refine ⟨⟨e2, hc1⟩, fun k hk => ?_⟩
  cases k with
  | zero =>
    refine ⟨hr.of hD.2.2.2.1 (fun x hx p hp => ?_), hS⟩
    rw [show 2 + (M1 63 58 + pC1 c - 1 - ((0 : Nat) : Int)) % 20 = k0 by omega, e3 x hx p hp]
    congr 1
    omega
  | succ k =>
    have h2 := h.2 k (by omega)
    refine ⟨h2.1.of hD.2.2.2.1 (fun x hx p hp => ?_), h2.2⟩
    have e5 : 2 + (M1 63 58 + pC1 c - 1 - ((k + 1 : Nat) : Int)) % 20 = 2 + (M 63 58 + c - 1 - (k : Int)) % 20 := by omega
    rw [e5]
    exact e4 x hx _ (by omega) (by omega) p hp
theorem RH.pop (h : RH D H c M) (hD : DW D) (hc : 0 < c) (e1 : M1 63 58 = M 63 58) (e2 : M1 63 59 = c - 1) (e4 : ∀ x, x = 92 ∨ x = 93 ∨ x = 94 ∨ x = 95 → ∀ f, 16 ≤ f → M1 x f = M x f) : RH D (fun k => H (k + 1)) (c - 1) M1 := by
  have hcc := h.1
  refine ⟨⟨e2, by omega, by omega⟩, fun k hk => ?_⟩
  have h2 := h.2 (k + 1) (by omega)
  refine ⟨h2.1.of hD.2.2.2.1 (fun x hx p hp => ?_), h2.2⟩
  rw [e1, show 2 + (M 63 58 + (c - 1) - 1 - (k : Int)) % 20 = 2 + (M 63 58 + c - 1 - ((k + 1 : Nat) : Int)) % 20 by omega]
  exact e4 x hx _ (by omega)
theorem RR.pop (h : RR D S M) (hh : RH D H c M) (hc : 0 < c) {k0 : Int} (hk0 : k0 = 2 + (M 63 58 + c - 1) % 20) (e3 : ∀ x, x = 92 ∨ x = 93 ∨ x = 94 ∨ x = 95 → ∀ p : Nat, p < 8 → M1 x p = M x (8 * k0 + (p : Int)).toNat) (e4 : M1 63 60 = M 63 60 ∧ M1 63 14 = M 63 14) (e5 : ∀ k, k ∈ [65, 66, 67, 68, 69, 70, 71, 72, 73, 74, 79, 80, 83, 84, 75, 76, 77, 78, 81, 82] → ∀ f, M1 k f = M k f) : RR D (pUn S (H 0)) M1 := by
  have h2 := hh.2 0 (by omega)
  have hn := h.2.1.1.2.2.2.1
  unfold RR
  rw [e4.1, e4.2]
  refine ⟨h.1.eq (fun c hc => e5 c (by simp at hc ⊢; omega)), h.2.1, ?_, ?_, h2.2.u3, h.2.2.2.2.2.of (fun c hc => e5 c (by simp at hc ⊢; omega))⟩
  · refine rRow.u3 (h2.1.of hn (fun x hx p hp => ?_))
    rw [show (8 * (0 : Int) + (p : Int)).toNat = p by omega, e3 x hx p hp, show k0 = 2 + (M 63 58 + c - 1 - ((0 : Nat) : Int)) % 20 by omega]
  · rw [h.2.2.2.1]
    unfold pUn c_up
    simp
end HIS
/-- a slot is copied -/
def CPr (a b : Int) (M0 : cM) (n : Int) (M : cM) : Prop := ∀ c, c = 92 ∨ c = 93 ∨ c = 94 ∨ c = 95 → (∀ q : Nat, (q : Int) < n → M c (8 * a + (q : Int)).toNat = M0 c (8 * b + (q : Int)).toNat) ∧ (∀ f : Nat, ¬ (8 * a ≤ (f : Int) ∧ (f : Int) < 8 * a + n) → M c f = M0 c f)
theorem CPr.zero {a b : Int} {M : cM} : CPr a b M 0 M := fun c _ => ⟨fun q hq => absurd hq (by omega), fun f _ => rfl⟩
theorem CPr.step {a b n : Int} {M0 M M1 : cM} (h : CPr a b M0 n M) (hne : a ≠ b) (h0 : 0 ≤ a ∧ 0 ≤ b) (hn : 0 ≤ n ∧ n < 8) (e92 : M1 92 (8 * a + n).toNat = M 92 (8 * b + n).toNat) (e93 : M1 93 (8 * a + n).toNat = M 93 (8 * b + n).toNat) (e94 : M1 94 (8 * a + n).toNat = M 94 (8 * b + n).toNat) (e95 : M1 95 (8 * a + n).toNat = M 95 (8 * b + n).toNat) (o92 : ∀ f, f ≠ (8 * a + n).toNat → M1 92 f = M 92 f) (o93 : ∀ f, f ≠ (8 * a + n).toNat → M1 93 f = M 93 f) (o94 : ∀ f, f ≠ (8 * a + n).toNat → M1 94 f = M 94 f) (o95 : ∀ f, f ≠ (8 * a + n).toNat → M1 95 f = M 95 f) : CPr a b M0 (n + 1) M1 := by
  intro c hc
  have key : M1 c (8 * a + n).toNat = M c (8 * b + n).toNat ∧ ∀ f, f ≠ (8 * a + n).toNat → M1 c f = M c f := by
    rcases hc with rfl | rfl | rfl | rfl
    · exact ⟨e92, o92⟩
    · exact ⟨e93, o93⟩
    · exact ⟨e94, o94⟩
    · exact ⟨e95, o95⟩
  refine ⟨fun q hq => ?_, fun f hf => ?_⟩
  · by_cases e : (q : Int) = n
    · rw [e]
      exact key.1.trans ((h c hc).2 _ (by omega))
    · exact (key.2 _ (by omega)).trans ((h c hc).1 q (by omega))
  · exact (key.2 f (by omega)).trans ((h c hc).2 f (by omega))
theorem CPr.then {a b n : Int} {M0 M M1 : cM} (h : CPr a b M0 n M) (hn : n = 8) (e : ∀ c, c = 92 ∨ c = 93 ∨ c = 94 ∨ c = 95 → ∀ f, M1 c f = M c f) : CPr a b M0 8 M1 := by
  subst hn
  intro c hc
  refine ⟨fun q hq => (e c hc _).trans ((h c hc).1 q hq), fun f hf => (e c hc f).trans ((h c hc).2 f hf)⟩
/-! what is given to the sum of carrying -/
section GIV
variable {D S M : cM} {t : Nat} {p c w : Int}
theorem gv6 {g : Nat → Int} (h0 : g 0 = w) (h1 : g 1 = D 7 c.toNat) (h2 : g 2 = D 6 p.toNat) (h3 : g 3 = D 8 c.toNat) (h4 : g 4 = S 4 p.toNat) (h5 : g 5 = if c = p then 1 else 0) : ∀ k : Int, -6 ≤ k → k ≤ -1 → g (-1 - k).toNat = gvn D S p c w k := fun k k0 k1 => by
  have hk : k = -1 ∨ k = -2 ∨ k = -3 ∨ k = -4 ∨ k = -5 ∨ k = -6 := by omega
  rcases hk with rfl | rfl | rfl | rfl | rfl | rfl
  · exact h0
  · exact h1
  · exact h2
  · exact h3
  · exact h4
  · exact h5
theorem pCy_r (hw : 1 ≤ w ∧ w ≤ 60) : 1 ≤ pCy D S p c w ∧ pCy D S p c w ≤ 1059 := by
  unfold pCy
  have := pEv_r (gvn D S p c w) (cdL D 11)
  split <;> omega
theorem cdL_len {j : Nat} (h : 0 ≤ D j 0 - 1) : ((cdL D j).length : Int) = D j 0 - 1 := by
  unfold cdL
  rw [List.length_map, List.length_range]
  omega
theorem cdL_at {j q : Nat} (h : (q : Int) < D j 0 - 1) : (cdL D j).getD q 0 = D j (q + 1) := by
  unfold cdL
  rw [List.getD_eq_getElem?_getD, List.getElem?_map, List.getElem?_range (by omega)]
  rfl
theorem TN.runb {cs : List Int} {g : Int → Int} (h : TN 38 cs.reverse) (hg : pBg g) : ∃ w, pBd w ∧ pXr 64 g cs [] = some [w] := by
  obtain ⟨v, h1, h2⟩ := h 64 g [] (by decide) hg
  rw [List.reverse_reverse] at h2
  exact ⟨v, h1, h2⟩
theorem gvn_b (h : DZ D) (hS : SW D S) (hp : 0 ≤ p ∧ p < D 0 1) (hc : 0 ≤ c ∧ c < D 0 1) (hw : 0 ≤ w ∧ w ≤ 1000) : pBg (gvn D S p c w) := fun i => by
  have h1 := h.1.2.2.2.2.1 p.toNat (by omega)
  have h2 := h.1.2.2.2.2.1 c.toNat (by omega)
  have h3 := (hS.at hp).2.2.2
  unfold gvn
  (repeat' split) <;> omega
theorem CR.slow {T : List cK} (h : CR D S t M) (hI : Rng M) (hG : Gm T M) (ht : t = 8 ∨ t = 25) : (D 11 0 = 0 ↔ M (t + 11) 2 = 0) ∧ (M (t + 11) 2 ≠ 0 → M (t + 11) 2 = ((cdL D 11).length : Int) ∧ (∀ q : Nat, q < (cdL D 11).length → M (M (t + 11) 1).toNat q = (cdL D 11).getD q 0) ∧ TN 38 (cdL D 11).reverse) := by
  have e0 := h.2.2.2.2.2.1 0
  have hr := rgf_0_2 hI (fF_slow ht)
  obtain ⟨nn, hg, _⟩ := hG
  obtain ⟨s, hs, _, _, _, _, hs2⟩ := hg _ (fF_slow ht)
  have e1 : fCd M (t + 11) 0 = if M (t + 11) 2 = 0 then 0 else M (t + 11) 2 + 1 := rfl
  rw [e1] at e0
  have hz : D 11 0 = 0 ↔ M (t + 11) 2 = 0 := by
    split at e0 <;> omega
  refine ⟨hz, fun hne => ?_⟩
  rw [if_neg hne] at e0
  have hl : ((cdL D 11).length : Int) = M (t + 11) 2 := by
    rw [cdL_len (by omega)]
    omega
  refine ⟨hl.symm, fun q hq => ?_, (h.2.1.2.2 11 (Or.inl rfl)).2 (by omega)⟩
  rw [cdL_at (by omega), ← h.2.2.2.2.2.1 (q + 1)]
  have e2 : fCd M (t + 11) (q + 1) = if (((q + 1) - 1 : Nat) : Int) < M (t + 11) 2 then fRw M (t + 11) ((q + 1) - 1) else 0 := if_neg (Nat.succ_ne_zero q)
  rw [e2, Nat.add_sub_cancel, if_pos (by omega)]
  unfold fRw
  rw [if_pos (by rw [hs, Int.toNat_natCast]; omega)]
theorem RR.gv (h : RR D S M) (hp : 0 ≤ p ∧ p < D 0 1) (hc : 0 ≤ c ∧ c < D 0 1) (e1 : M 63 62 = w) (e2 : M 63 63 = c) (e3 : M 63 64 = p) : GvY M (gvn D S p c w) := by
  refine ⟨e1.symm, ?_, ?_, ?_, ?_, ?_⟩
  · rw [h.wg (p := c) hc (by rw [e2])]
    rfl
  · rw [h.sg (p := p) hp (by rw [e3])]
    rfl
  · rw [h.wd (p := c) hc (by rw [e2])]
    rfl
  · rw [h.cl (p := p) hp (by rw [e3])]
    rfl
  · rw [e2, e3]
    show (if c = p then (1 : Int) else 0) = _
    by_cases z : p = c
    · rw [if_pos z, if_pos z.symm]
    · rw [if_neg z, if_neg (fun y => z y.symm)]
theorem RR.slow (h : RR D S M) {b : Int} (hb : M 63 14 = b) : (D 11 0 = 0 ↔ M 75 b.toNat = -1) ∧ (D 11 0 ≠ 0 → 0 ≤ M 75 b.toNat ∧ M 76 b.toNat - M 75 b.toNat = ((cdL D 11).length : Int) ∧ (∀ q : Nat, q < (cdL D 11).length → kdc ((cdL D 11).getD q 0) (M 81 (1600 * M 63 14 + M 75 b.toNat + (q : Int)).toNat) (M 82 (1600 * M 63 14 + M 75 b.toNat + (q : Int)).toNat)) ∧ TN 38 (cdL D 11).reverse) := by
  subst hb
  have hx := h.2.2.2.2.2
  have hd := (h.2.1.2.2 11 (Or.inl rfl))
  have key : D 11 0 ≠ 0 → 0 ≤ M 75 (M 63 14).toNat ∧ M 76 (M 63 14).toNat - M 75 (M 63 14).toNat = ((cdL D 11).length : Int) ∧ (∀ q : Nat, q < (cdL D 11).length → kdc ((cdL D 11).getD q 0) (M 81 (1600 * M 63 14 + M 75 (M 63 14).toNat + (q : Int)).toNat) (M 82 (1600 * M 63 14 + M 75 (M 63 14).toNat + (q : Int)).toNat)) ∧ TN 38 (cdL D 11).reverse := fun hne => by
    have h1 := hx.1.1 hne
    have hl := cdL_len (D := D) (j := 11) (by omega)
    refine ⟨h1.1.1, by omega, fun q hq => ?_, hd.2 hne⟩
    rw [cdL_at (by omega)]
    exact h1.2 q (by omega)
  refine ⟨⟨hx.2, fun z => ?_⟩, key⟩
  by_cases g : D 11 0 = 0
  · exact g
  · have := (key g).1
    omega
/-- minutes: of a way, the last row of clocks -/
theorem pMi_r (hD : DZ D) (h : 0 < pWy D (S 0 p.toNat) w) : 1 ≤ pMi D S p w c ∧ pMi D S p w c ≤ 1059 := by
  have h2 : pWy D (S 0 p.toNat) w ≤ 60 := by
    unfold pWy
    split
    next g =>
      have h8 := hD.rg
      have := hD.2.1 (S 0 p.toNat * 8 + w).toNat (by omega)
      omega
    next => decide
  unfold pMi
  split
  · omega
  · exact pCy_r ⟨by omega, h2⟩
theorem pSp_4 {n : Int} : pSp S p n 4 p.toNat = if S 4 p.toNat + n < 99999 then S 4 p.toNat + n else 99999 := if_pos ⟨rfl, rfl⟩
theorem pSp_k {n : Int} {k f : Nat} (h : k ≠ 4) : pSp S p n k f = S k f := if_neg (by omega)
theorem pMv_4 {r : Int} : pMv D S p r c 4 p.toNat = if S 4 p.toNat + pMi D S p r c < 99999 then S 4 p.toNat + pMi D S p r c else 99999 := by
  rw [← pSp_4 (S := S)]
  unfold pMv pMw pM1 pSd
  generalize pSp S p (pMi D S p r c) = S1
  have up : ∀ (E : cM) (k f g : Nat) (v : Int), k ≠ 4 → c_up E k f v 4 g = E 4 g := fun E k f g v hk => if_neg (by omega)
  (repeat' split) <;> simp only [up _ _ _ _ _ (show (0 : Nat) ≠ 4 by decide), up _ _ _ _ _ (show (1 : Nat) ≠ 4 by decide), up _ _ _ _ _ (show (2 : Nat) ≠ 4 by decide), up _ _ _ _ _ (show (3 : Nat) ≠ 4 by decide)]
end GIV
