/-! the scene: rooms, chairs, broken chairs, the seed, clocks (S 0, S 1, S 2, S 3 0, S 4); what both sides show of them -/
/-! what was carried, one code each -/
def pKp (S : cM) (x : Int) : cM := fun k f => if k = 5 then (if f = 0 then (if S 5 0 < 40 then S 5 0 + 1 else 40) else S 5 f) else if k = 6 then (if S 5 0 < 40 then (if (f : Int) = S 5 0 then x else S 6 f) else (if f = 39 then x else S 6 (f + 1))) else S k f
def KC (g : Nat → Int) (S : cM) : Prop := g 40 = S 5 0 ∧ (0 ≤ S 5 0 ∧ S 5 0 ≤ 40) ∧ ∀ k : Nat, (k : Int) < S 5 0 → g (41 + k) = S 6 k ∧ 0 ≤ S 6 k ∧ S 6 k < 542720
def KX (M : cM) (i : Int) (S : cM) : Prop := M 97 i.toNat = S 5 0 ∧ (0 ≤ S 5 0 ∧ S 5 0 ≤ 40) ∧ ∀ k : Nat, (k : Int) < S 5 0 → M 98 (40 * i + (k : Int)).toNat = S 6 k % 8 ∧ M 99 (40 * i + (k : Int)).toNat = S 6 k / 8 % 8 ∧ M 100 (40 * i + (k : Int)).toNat = S 6 k / 64 % 8 ∧ M 101 (40 * i + (k : Int)).toNat = S 6 k / 512
section KPD
variable {S S' M M1 : cM} {g g' : Nat → Int} {i i' x a b r n : Int} {k f : Nat}
theorem pKp_k (h : k ≠ 5 ∧ k ≠ 6) : pKp S x k f = S k f := by
  unfold pKp
  rw [if_neg h.1, if_neg h.2]
theorem pKp_5 : pKp S x 5 0 = if S 5 0 < 40 then S 5 0 + 1 else 40 := by
  unfold pKp
  rw [if_pos rfl, if_pos rfl]
theorem pKp_6 : pKp S x 6 k = if S 5 0 < 40 then (if (k : Int) = S 5 0 then x else S 6 k) else (if k = 39 then x else S 6 (k + 1)) := by
  unfold pKp
  rw [if_neg (by decide), if_pos rfl]
theorem KC.of (h : KC g S) (e : ∀ q, 40 ≤ q → q < 81 → g' q = g q) : KC g' S := by
  refine ⟨(e 40 (by decide) (by decide)).trans h.1, h.2.1, fun k hk => ?_⟩
  have h2 := h.2.1
  rw [e _ (by omega) (by omega)]
  exact h.2.2 k hk
theorem KC.s (h : KC g S) (e5 : S' 5 0 = S 5 0) (e6 : ∀ k, S' 6 k = S 6 k) : KC g S' := by
  unfold KC
  rw [e5]
  refine ⟨h.1, h.2.1, fun k hk => ?_⟩
  rw [e6]
  exact h.2.2 k hk
theorem KC.z (h : g 40 = 0) (e5 : S 5 0 = 0) : KC g S := by
  unfold KC
  rw [e5]
  exact ⟨h, by decide, fun k hk => absurd hk (by omega)⟩
theorem KX.of (h : KX M i S) (e : M1 97 i'.toNat = M 97 i.toNat) (e2 : ∀ c, c = 98 ∨ c = 99 ∨ c = 100 ∨ c = 101 → ∀ k : Nat, (k : Int) < M 97 i.toNat → k < 40 → M1 c (40 * i' + (k : Int)).toNat = M c (40 * i + (k : Int)).toNat) : KX M1 i' S := by
  refine ⟨e.trans h.1, h.2.1, fun k hk => ?_⟩
  have h1 := h.1
  have h2 := h.2.1
  rw [e2 98 (by decide) k (by omega) (by omega), e2 99 (by decide) k (by omega) (by omega), e2 100 (by decide) k (by omega) (by omega), e2 101 (by decide) k (by omega) (by omega)]
  exact h.2.2 k hk
theorem KX.s (h : KX M i S) (e5 : S' 5 0 = S 5 0) (e6 : ∀ k, S' 6 k = S 6 k) : KX M i S' := by
  unfold KX
  rw [e5]
  refine ⟨h.1, h.2.1, fun k hk => ?_⟩
  rw [e6]
  exact h.2.2 k hk
theorem KX.z (h : M 97 i.toNat = 0) (e5 : S 5 0 = 0) : KX M i S := by
  unfold KX
  rw [e5]
  exact ⟨h, by decide, fun k hk => absurd hk (by omega)⟩
theorem KX.all (h : KX M i S) (e : ∀ c, c = 97 ∨ c = 98 ∨ c = 99 ∨ c = 100 ∨ c = 101 → ∀ f, M1 c f = M c f) : KX M1 i S := h.of (e 97 (by decide) _) (fun c hc k _ _ => e c (by omega) _)
/-- one more -/
theorem KC.kp (h : KC g S) (hx : 0 ≤ x ∧ x < 542720) (e40 : g' 40 = if S 5 0 < 40 then S 5 0 + 1 else 40) (hA : S 5 0 < 40 → g' (41 + (S 5 0).toNat) = x ∧ ∀ k : Nat, (k : Int) < S 5 0 → g' (41 + k) = g (41 + k)) (hB : ¬ S 5 0 < 40 → g' 80 = x ∧ ∀ k : Nat, k < 39 → g' (41 + k) = g (42 + k)) : KC g' (pKp S x) := by
  have h2 := h.2.1
  unfold KC
  rw [pKp_5]
  refine ⟨e40, by split <;> omega, fun k hk => ?_⟩
  rw [pKp_6]
  by_cases z : S 5 0 < 40
  · rw [if_pos z] at hk ⊢
    have h3 := hA z
    by_cases y : (k : Int) = S 5 0
    · rw [if_pos y]
      refine ⟨?_, hx⟩
      rw [← h3.1]
      congr 1
      omega
    · rw [if_neg y, h3.2 k (by omega)]
      exact h.2.2 k (by omega)
  · rw [if_neg z] at hk ⊢
    have h3 := hB z
    by_cases y : k = 39
    · rw [if_pos y]
      subst y
      exact ⟨h3.1, hx⟩
    · rw [if_neg y, h3.2 k (by omega)]
      have h4 := h.2.2 (k + 1) (by omega)
      rw [show 41 + (k + 1) = 42 + k by omega] at h4
      exact h4
theorem kp_dec (ha : 0 ≤ a ∧ a < 8) (hb : 0 ≤ b ∧ b < 8) (hr : 0 ≤ r ∧ r < 8) : (((n * 8 + r) * 8 + b) * 8 + a) % 8 = a ∧ (((n * 8 + r) * 8 + b) * 8 + a) / 8 % 8 = b ∧ (((n * 8 + r) * 8 + b) * 8 + a) / 64 % 8 = r ∧ (((n * 8 + r) * 8 + b) * 8 + a) / 512 = n := by
  refine ⟨?_, ?_, ?_, ?_⟩ <;> omega
theorem KX.kp (h : KX M 0 S) (ha : 0 ≤ a ∧ a < 8) (hb : 0 ≤ b ∧ b < 8) (hr : 0 ≤ r ∧ r < 8) (e97 : M1 97 0 = if S 5 0 < 40 then S 5 0 + 1 else 40) (e : M1 98 (if S 5 0 < 40 then S 5 0 else 39).toNat = a ∧ M1 99 (if S 5 0 < 40 then S 5 0 else 39).toNat = b ∧ M1 100 (if S 5 0 < 40 then S 5 0 else 39).toNat = r ∧ M1 101 (if S 5 0 < 40 then S 5 0 else 39).toNat = n) (hA : S 5 0 < 40 → ∀ c, c = 98 ∨ c = 99 ∨ c = 100 ∨ c = 101 → ∀ k : Nat, (k : Int) < S 5 0 → M1 c k = M c k) (hB : ¬ S 5 0 < 40 → ∀ c, c = 98 ∨ c = 99 ∨ c = 100 ∨ c = 101 → ∀ k : Nat, k < 39 → M1 c k = M c (k + 1)) : KX M1 0 (pKp S (((n * 8 + r) * 8 + b) * 8 + a)) := by
  have h2 := h.2.1
  have hd := kp_dec (n := n) ha hb hr
  have h9 : ∀ k : Nat, (40 * (0 : Int) + (k : Int)).toNat = k := fun k => by omega
  unfold KX
  rw [pKp_5]
  refine ⟨e97, by split <;> omega, fun k hk => ?_⟩
  rw [pKp_6, h9]
  by_cases z : S 5 0 < 40
  · rw [if_pos z] at hk e ⊢
    by_cases y : (k : Int) = S 5 0
    · rw [if_pos y, show k = (S 5 0).toNat by omega]
      omega
    · rw [if_neg y, hA z 98 (by decide) k (by omega), hA z 99 (by decide) k (by omega), hA z 100 (by decide) k (by omega), hA z 101 (by decide) k (by omega)]
      have h3 := h.2.2 k (by omega)
      rw [h9] at h3
      exact h3
  · rw [if_neg z] at hk e ⊢
    by_cases y : k = 39
    · rw [if_pos y]
      subst y
      have h3 : (39 : Int).toNat = 39 := rfl
      rw [h3] at e
      omega
    · rw [if_neg y, hB z 98 (by decide) k (by omega), hB z 99 (by decide) k (by omega), hB z 100 (by decide) k (by omega), hB z 101 (by decide) k (by omega)]
      have h3 := h.2.2 (k + 1) (by omega)
      rw [h9] at h3
      exact h3
end KPD
/-- what is given to a sum; how long one carries -/
def gvn (D S : cM) (p c w : Int) : Int → Int := fun k => if k = -1 then w else if k = -2 then D 7 c.toNat else if k = -3 then D 6 p.toNat else if k = -4 then D 8 c.toNat else if k = -5 then S 4 p.toNat else if k = -6 then (if c = p then 1 else 0) else 0
def pCy (D S : cM) (p c w : Int) : Int := if D 11 0 = 0 then w else w + pEv (gvn D S p c w) (cdL D 11)
/-- clocks -/
def pSp (S : cM) (p n : Int) : cM := c_up S 4 p.toNat (if S 4 p.toNat + n < 99999 then S 4 p.toNat + n else 99999)
def pWy (D : cM) (a b : Int) : Int := if 0 ≤ a ∧ a < D 0 0 ∧ 0 ≤ b ∧ b < D 0 0 then D 4 (a * 8 + b).toNat else 0
def pNb (D : cM) (a : Int) : Nat → Int
  | 0 => 0
  | n + 1 => pNb D a n + (if 0 < pWy D a n then 1 else 0)
/-- how wide the chairs in a room are, one left out -/
def pLd (D S : cM) (r but : Int) : Nat → Int
  | 0 => 0
  | k + 1 => pLd D S r but k + (if (k : Int) ≠ but ∧ S 1 k = r then D 8 k else 0)
def pDw (D : cM) (c : Int) : Int := D 8 c.toNat + (if 0 ≤ D 9 c.toNat then D 8 (D 9 c.toNat).toNat else 0)
/-- a chair fits into a room -/
def pAd (D S : cM) (r c : Int) : Int := if (0 ≤ r ∧ r < D 0 0) ∧ (0 ≤ c ∧ c < D 0 1) ∧ pDw D c ≤ D 2 r.toNat ∧ pLd D S r c (D 0 1).toNat + D 8 c.toNat ≤ D 3 r.toNat then 1 else 0
/-- one would sit -/
def pSi (D S : cM) (p r own : Int) : Int := if own = r ∧ S 2 p.toNat = 0 ∧ (D 9 p.toNat = -1 ∨ S 1 (D 9 p.toNat).toNat = r) then 1 else 0
/-- one can take a chair along -/
def pCn (D S : cM) (p r c : Int) : Int := if (0 ≤ c ∧ c < D 0 1) ∧ S 2 c.toNat = 0 ∧ S 1 c.toNat = S 0 p.toNat ∧ pAd D S r c = 1 then 1 else 0
/-- one can go -/
def pCg (D S : cM) (p r c : Int) : Int := if (0 ≤ p ∧ p < D 0 1) ∧ (0 ≤ r ∧ r < D 0 0) ∧ 0 < pWy D (S 0 p.toNat) r ∧ (c = -1 ∨ pCn D S p r c = 1) then 1 else 0
/-- one can mend -/
def pCm (D S : cM) (p c : Int) : Int := if (0 ≤ p ∧ p < D 0 1) ∧ (0 ≤ c ∧ c < D 0 1) ∧ 0 ≤ D 0 3 ∧ S 0 p.toNat = D 0 3 ∧ S 1 c.toNat = D 0 3 ∧ S 2 c.toNat = 1 then 1 else 0
/-- of one's ways the k-th -/
def pNt (D : cM) (a k : Int) : Nat → Int
  | 0 => -1
  | n + 1 => if 0 < pWy D a n ∧ pNb D a n = k then (n : Int) else pNt D a k n
/-- a draw -/
def pNx (x : Int) : Int := (1103515245 * x + 12345) % 2147483648
def pSd (S : cM) : cM := c_up S 3 0 (pNx (S 3 0))
def pDr (S : cM) (m : Int) : Int := pNx (S 3 0) / 64 % m
/-- one goes -/
def pM1 (S : cM) (p r c n : Int) : cM := pKp (c_up (c_up S 0 p.toNat r) 1 c.toNat r) (((n * 8 + r) * 8 + p) * 8 + c)
def pMw (D S : cM) (p r c n : Int) : cM := if c = -1 then c_up S 0 p.toNat r else if 0 < D 0 2 then (if pDr (pM1 S p r c n) 100 < D 0 2 then c_up (pSd (pM1 S p r c n)) 2 c.toNat 1 else pSd (pM1 S p r c n)) else pM1 S p r c n
/-- minutes of a way -/
def pMi (D S : cM) (p r c : Int) : Int := if c = -1 then pWy D (S 0 p.toNat) r else pCy D S p c (pWy D (S 0 p.toNat) r)
def pMv (D S : cM) (p r c : Int) : cM := pMw D (pSp S p (pMi D S p r c)) p r c (pMi D S p r c)
/-- one's day -/
def pGc (D S : cM) (p r : Int) : Int := if pCn D S p r p = 1 then p else -1
def pMn (D S : cM) (p : Int) : Int := pNb D (S 0 p.toNat) (D 0 0).toNat
def pTo (D S : cM) (p : Int) : Int := pNt D (S 0 p.toNat) (pDr (pSd S) (pMn D S p)) (D 0 0).toNat
def pDay (D S : cM) (p : Int) : cM := if pDr S 3 = 1 ∧ 0 < pMn D S p then pMv D (pSd (pSd S)) p (pTo D S p) (pGc D (pSd (pSd S)) p (pTo D S p)) else if pDr S 3 = 2 then pSp (pSd S) p 10 else pSd S
def pDyB (D S : cM) (p : Int) : Int := if pDr S 3 = 1 ∧ 0 < pMn D S p ∧ pCn D (pSd (pSd S)) p (pTo D S p) p = 1 then 1 else 0
def pPp (D S : cM) : Nat → cM
  | 0 => S
  | k + 1 => pDay D (pPp D S k) k
def pPpB (D S : cM) : Nat → Int
  | 0 => 0
  | k + 1 => pPpB D S k + pDyB D (pPp D S k) k
def pDs (D S : cM) : Nat → cM
  | 0 => S
  | k + 1 => pPp D (pDs D S k) (D 0 1).toNat
def pDsB (D S : cM) : Nat → Int
  | 0 => 0
  | k + 1 => pDsB D S k + pPpB D (pDs D S k) (D 0 1).toNat
/-! steps of these -/
section SCP
variable {D S : cM}
theorem pLd_S {r but x k y : Int} (h : x = pLd D S r but k.toNat) (h0 : 0 ≤ k) (hy : (k ≠ but ∧ S 1 k.toNat = r ∧ y = D 8 k.toNat) ∨ ((k = but ∨ S 1 k.toNat ≠ r) ∧ y = 0)) : x + y = pLd D S r but (k + 1).toNat := by
  rw [show (k + 1).toNat = k.toNat + 1 by omega]
  show x + y = pLd D S r but k.toNat + (if ((k.toNat : Nat) : Int) ≠ but ∧ S 1 k.toNat = r then D 8 k.toNat else 0)
  rw [show ((k.toNat : Nat) : Int) = k by omega, ← h]
  rcases hy with ⟨a, b, c⟩ | ⟨a, b⟩
  · rw [if_pos ⟨a, b⟩, c]
  · rw [if_neg (fun z => a.elim z.1 (fun q => q z.2)), b]
theorem pNb_step {a b : Int} (h : 0 ≤ b) : (pNb D a (b + 1).toNat = pNb D a b.toNat + 1 ∧ 0 < pWy D a b) ∨ (pNb D a (b + 1).toNat = pNb D a b.toNat ∧ ¬ 0 < pWy D a b) := by
  have e : (b + 1).toNat = b.toNat + 1 := by omega
  have e2 : ((b.toNat : Nat) : Int) = b := by omega
  have e3 : pNb D a (b.toNat + 1) = pNb D a b.toNat + (if 0 < pWy D a ((b.toNat : Nat) : Int) then 1 else 0) := rfl
  rw [e, e3, e2]
  split
  next g => exact Or.inl ⟨rfl, g⟩
  next g => exact Or.inr ⟨by omega, g⟩
theorem pNb_mono {a : Int} {n : Nat} : ∀ {k : Nat}, n ≤ k → pNb D a n ≤ pNb D a k
  | 0, h => by
    rw [Nat.le_zero.mp h]
    exact Int.le_refl _
  | k + 1, h => by
    by_cases e : n = k + 1
    · rw [e]
      exact Int.le_refl _
    · have := pNb_mono (a := a) (n := n) (k := k) (by omega)
      have e3 : pNb D a (k + 1) = pNb D a k + (if 0 < pWy D a ((k : Nat) : Int) then 1 else 0) := rfl
      rw [e3]
      split <;> omega
theorem pNb_r {a : Int} : ∀ n : Nat, 0 ≤ pNb D a n ∧ pNb D a n ≤ n
  | 0 => ⟨Int.le_refl _, Int.le_refl _⟩
  | n + 1 => by
    have := pNb_r (a := a) n
    have e3 : pNb D a (n + 1) = pNb D a n + (if 0 < pWy D a ((n : Nat) : Int) then 1 else 0) := rfl
    rw [e3]
    split <;> omega
theorem pNt_eq {a k v : Int} (h0 : 0 ≤ v) (hw : 0 < pWy D a v) (hk : pNb D a v.toNat = k) : ∀ n : Nat, v < n → pNt D a k n = v
  | 0, h => absurd h (by omega)
  | n + 1, h => by
    have e : pNt D a k (n + 1) = if 0 < pWy D a n ∧ pNb D a n = k then (n : Int) else pNt D a k n := rfl
    rw [e]
    by_cases g : v = (n : Int)
    · subst g
      rw [if_pos ⟨hw, by rw [← hk]; congr 1⟩]
    · have h1 : pNb D a (v + 1).toNat = pNb D a v.toNat + 1 := (pNb_step h0).elim (fun z => z.1) (fun z => absurd hw z.2)
      have h2 := pNb_mono (D := D) (a := a) (n := (v + 1).toNat) (k := n) (by omega)
      rw [if_neg (fun z => by have := z.2; omega)]
      exact pNt_eq h0 hw hk n (by omega)
theorem pNt_r {a k : Int} : ∀ n : Nat, k < pNb D a n → 0 ≤ k → 0 ≤ pNt D a k n ∧ pNt D a k n < n ∧ 0 < pWy D a (pNt D a k n)
  | 0, h, h0 => by
    have e : pNb D a 0 = 0 := rfl
    omega
  | n + 1, h, h0 => by
    have e : pNt D a k (n + 1) = if 0 < pWy D a n ∧ pNb D a n = k then (n : Int) else pNt D a k n := rfl
    have e3 : pNb D a (n + 1) = pNb D a n + (if 0 < pWy D a ((n : Nat) : Int) then 1 else 0) := rfl
    rw [e]
    by_cases g : 0 < pWy D a n ∧ pNb D a n = k
    · rw [if_pos g]
      exact ⟨by omega, by omega, g.1⟩
    · rw [if_neg g]
      have h2 : k < pNb D a n := by
        rw [e3] at h
        split at h
        next q =>
          have : pNb D a n ≠ k := fun z => g ⟨q, z⟩
          omega
        next q => omega
      have := pNt_r n h2 h0
      exact ⟨this.1, by omega, this.2.2⟩
theorem pPp_S {x : Int} (h : 0 ≤ x) : pPp D S (x + 1).toNat = pDay D (pPp D S x.toNat) x ∧ pPpB D S (x + 1).toNat = pPpB D S x.toNat + pDyB D (pPp D S x.toNat) x := by
  rw [show (x + 1).toNat = x.toNat + 1 by omega]
  have e : ((x.toNat : Nat) : Int) = x := by omega
  constructor
  · show pDay D (pPp D S x.toNat) ((x.toNat : Nat) : Int) = _
    rw [e]
  · show pPpB D S x.toNat + pDyB D (pPp D S x.toNat) ((x.toNat : Nat) : Int) = _
    rw [e]
theorem pDs_S {x : Int} (h : 0 ≤ x) : pDs D S (x + 1).toNat = pPp D (pDs D S x.toNat) (D 0 1).toNat ∧ pDsB D S (x + 1).toNat = pDsB D S x.toNat + pPpB D (pDs D S x.toNat) (D 0 1).toNat := by
  rw [show (x + 1).toNat = x.toNat + 1 by omega]
  exact ⟨rfl, rfl⟩
theorem pNx_r (x : Int) : 0 ≤ pNx x ∧ pNx x < 2147483648 := ⟨Int.emod_nonneg _ (by decide), Int.emod_lt_of_pos _ (by decide)⟩
theorem pDr_r {m : Int} (h : 0 < m) : 0 ≤ pDr S m ∧ pDr S m < m := ⟨Int.emod_nonneg _ (by omega), Int.emod_lt_of_pos _ h⟩
end SCP
def lnd (v w : Int) : Int := c_binL (· &&& ·) v w
theorem lnd_eq {v : Int} (hv : 0 ≤ v) (hv2 : v ≤ 9223372036854775807) : lnd v 2147483647 = v % 2147483648 := by
  unfold lnd c_binL
  rw [← Int64.toInt_toBitVec, Int64.toBitVec_and]
  have e : (Int64.ofInt v).toBitVec.toNat = v.toNat := by
    have h1 : (Int64.ofInt v).toBitVec.toInt = v := by rw [Int64.toInt_toBitVec]; exact bmod64 (by omega) (by omega)
    have h2 := (Int64.ofInt v).toBitVec.isLt
    rw [BitVec.toInt_eq_toNat_cond] at h1
    split at h1 <;> omega
  have e2 : (Int64.ofInt 2147483647).toBitVec.toNat = 2 ^ 31 - 1 := by decide
  have e3 : ((Int64.ofInt v).toBitVec &&& (Int64.ofInt 2147483647).toBitVec).toNat = v.toNat % 2147483648 := by
    rw [BitVec.toNat_and, e, e2, Nat.and_two_pow_sub_one_eq_mod]
  rw [BitVec.toInt_eq_toNat_cond, e3, if_pos (by omega)]
  omega
/-- a scene's rooms are there -/
def SW (D S : cM) : Prop := ∀ p : Nat, (p : Int) < D 0 1 → (0 ≤ S 0 p ∧ S 0 p < D 0 0) ∧ (0 ≤ S 1 p ∧ S 1 p < D 0 0) ∧ (S 2 p = 0 ∨ S 2 p = 1) ∧ 0 ≤ S 4 p ∧ S 4 p ≤ 99999
theorem SW.u0 {D S : cM} {p r : Int} (h : SW D S) (hr : 0 ≤ r ∧ r < D 0 0) : SW D (c_up S 0 p.toNat r) := by
  intro q hq
  have := h q hq
  unfold c_up
  simp
  refine ⟨?_, this.2.1, this.2.2⟩
  split <;> omega
theorem SW.u1 {D S : cM} {p r : Int} (h : SW D S) (hr : 0 ≤ r ∧ r < D 0 0) : SW D (c_up S 1 p.toNat r) := by
  intro q hq
  have := h q hq
  unfold c_up
  simp
  refine ⟨this.1, ?_, this.2.2⟩
  split <;> omega
theorem SW.u2 {D S : cM} {p r : Int} (h : SW D S) (hr : r = 0 ∨ r = 1) : SW D (c_up S 2 p.toNat r) := by
  intro q hq
  have := h q hq
  unfold c_up
  simp
  refine ⟨this.1, this.2.1, ?_, this.2.2.2⟩
  split
  · exact hr
  · exact this.2.2.1
theorem SW.u4 {D S : cM} {p r : Int} (h : SW D S) (hr : 0 ≤ r ∧ r ≤ 99999) : SW D (c_up S 4 p.toNat r) := by
  intro q hq
  have := h q hq
  unfold c_up
  simp
  refine ⟨this.1, this.2.1, this.2.2.1, ?_⟩
  split
  · exact hr
  · exact this.2.2.2
theorem SW.u3 {D S : cM} {f : Nat} {x : Int} (h : SW D S) : SW D (c_up S 3 f x) := by
  intro q hq
  have := h q hq
  unfold c_up
  simp
  exact this
/-! the class's row of cells, the reference's slots -/
def cRow (g : Nat → Int) (n : Int) (S : cM) : Prop := ∀ p : Nat, (p : Int) < n → g p = S 0 p ∧ g (8 + p) = S 1 p ∧ g (16 + p) = S 2 p ∧ g (24 + p) = S 4 p
def rRow (M : cM) (k : Int) (n : Int) (S : cM) : Prop := ∀ p : Nat, (p : Int) < n → M 92 (8 * k + (p : Int)).toNat = S 0 p ∧ M 93 (8 * k + (p : Int)).toNat = S 1 p ∧ M 94 (8 * k + (p : Int)).toNat = S 2 p ∧ M 95 (8 * k + (p : Int)).toNat = S 4 p
theorem cRow.of {g g' : Nat → Int} {n : Int} {S : cM} (h : cRow g n S) (hn : n ≤ 8) (e : ∀ q, q < 32 → g' q = g q) : cRow g' n S := fun p hp => by
  rw [e p (by omega), e (8 + p) (by omega), e (16 + p) (by omega), e (24 + p) (by omega)]
  exact h p hp
theorem rRow.of {M M1 : cM} {k k' n : Int} {S : cM} (h : rRow M k n S) (hn : n ≤ 8) (e : ∀ c, c = 92 ∨ c = 93 ∨ c = 94 ∨ c = 95 → ∀ p : Nat, p < 8 → M1 c (8 * k' + (p : Int)).toNat = M c (8 * k + (p : Int)).toNat) : rRow M1 k' n S := fun p hp => by
  rw [e 92 (by decide) p (by omega), e 93 (by decide) p (by omega), e 94 (by decide) p (by omega), e 95 (by decide) p (by omega)]
  exact h p hp
/-- a town's numbers, with the minutes of its ways -/
def DZ (D : cM) : Prop := DW D ∧ (∀ i : Nat, i < 64 → 0 ≤ D 4 i ∧ D 4 i ≤ 60) ∧ TD D
theorem DZ.rg {D : cM} (h : DZ D) : 0 ≤ D 0 0 ∧ D 0 0 ≤ 8 ∧ 0 ≤ D 0 1 ∧ D 0 1 ≤ 8 ∧ -1 ≤ D 0 3 ∧ (D 0 3 < D 0 0 ∨ D 0 3 = -1) := by
  obtain ⟨a, b, c, d, _, _, _, _, e⟩ := h.1
  exact ⟨a, b, c, d, by omega, by omega⟩
/-- the class's codes of both sums -/
def CDC (t : Nat) (D M : cM) : Prop := (∀ i, fCd M (t + 11) i = D 11 i) ∧ ∀ i, fCd M (t + 14) i = D 12 i
theorem CDC.of {t : Nat} {D M M1 : cM} (h : CDC t D M) (ht : t = 8 ∨ t = 25) (e : ∀ k, k = 19 ∨ k = 21 ∨ k = 22 ∨ k = 24 ∨ k = 36 ∨ k = 38 ∨ k = 39 ∨ k = 41 ∨ 114 ≤ k → ∀ f, M1 k f = M k f) : CDC t D M1 :=
  ⟨fun i => (fCd_eq (e _ (by omega) 1) (e _ (by omega) 2) (fun i => e _ (by omega) i) (fun k i hk => e k (by omega) i) i).trans (h.1 i), fun i => (fCd_eq (e _ (by omega) 1) (e _ (by omega) 2) (fun i => e _ (by omega) i) (fun k i hk => e k (by omega) i) i).trans (h.2 i)⟩
theorem CDC.up {t k f : Nat} {v : Int} {D M M1 : cM} (h : CDC t D M) (ht : t = 8 ∨ t = 25) (u : Up M k f v M1) (hk : k < 8 ∨ (41 < k ∧ k < 114)) : CDC t D M1 := h.of ht fun c hc g => u.2 c g (by omega)
theorem CDC.fr {t : Nat} {F : List (Nat × Nat)} {D M M1 : cM} (h : CDC t D M) (ht : t = 8 ∨ t = 25) (g : Fr F M M1) (hs : frk F = true) : CDC t D M1 := h.of ht fun c hc f => g c f (frk_c hs (by omega) f)
/-- the class: town and scene -/
def CR0 (D S : cM) (t : Nat) (M : cM) : Prop := (∀ k f, k ≤ 10 → M (t + k) f = D k f) ∧ DZ D ∧ cRow (M 42) (D 0 1) S ∧ M 0 12 = S 3 0 ∧ SW D S ∧ CDC t D M
def RR0 (D S M : cM) : Prop := RSt (M 63 14) M D ∧ DZ D ∧ rRow M 0 (D 0 1) S ∧ M 63 60 = S 3 0 ∧ SW D S ∧ CDX (M 63 14) M D
def crf (F : List (Nat × Nat)) : Bool := ktf F && !c_in F 0 12 && (F.all fun p => p.1 != 42)
def rrfo (F : List (Nat × Nat)) : Bool := !c_in F 63 14 && !c_in F 63 60 && ([65, 66, 67, 68, 69, 70, 71, 72, 73, 74, 79, 80, 83, 84, 92, 93, 94, 95, 75, 76, 77, 78, 81, 82].all fun c => F.all fun p => p.1 != c)
section CRS
variable {D S M M1 : cM} {t f : Nat} {F : List (Nat × Nat)} {v p r : Int}
theorem CR0.fr (h : CR0 D S t M) (g : Fr F M M1) (ht : t = 8 ∨ t = 25) (hs : crf F = true) : CR0 D S t M1 := by
  unfold crf at hs
  rw [Bool.and_eq_true, Bool.and_eq_true] at hs
  refine ⟨fun k f hk => (g (t + k) f (ktf_in hs.1.1 (by omega))).trans (h.1 k f hk), h.2.1, h.2.2.1.of h.2.1.1.2.2.2.1 (fun q _ => g 42 q (nin (by decide) hs.2 q)), ?_, h.2.2.2.2.1, h.2.2.2.2.2.fr ht g (ktf_k hs.1.1)⟩
  rw [g 0 12 (by simpa using hs.1.2)]
  exact h.2.2.2.1
theorem CR0.up {k : Nat} (h : CR0 D S t M) (u : Up M k f v M1) (ht : t = 8 ∨ t = 25) (hk : k ≠ 42 ∧ ¬ (k = 0 ∧ f = 12) ∧ (k < 8 ∨ (41 < k ∧ k < 114))) : CR0 D S t M1 := by
  refine ⟨fun k f hk => (u.2 (t + k) f (by omega)).trans (h.1 k f hk), h.2.1, h.2.2.1.of h.2.1.1.2.2.2.1 (fun q _ => u.2 42 q (by omega)), ?_, h.2.2.2.2.1, h.2.2.2.2.2.up ht u (by omega)⟩
  rw [u.2 0 12 (by omega)]
  exact h.2.2.2.1
theorem CR0.u24 (h : CR0 D S t M) (u : Up M 42 f v M1) (ht : t = 8 ∨ t = 25) (hf : 32 ≤ f) : CR0 D S t M1 := by
  refine ⟨fun k f hk => (u.2 (t + k) f (by omega)).trans (h.1 k f hk), h.2.1, h.2.2.1.of h.2.1.1.2.2.2.1 (fun q hq => u.2 42 q (by omega)), ?_, h.2.2.2.2.1, h.2.2.2.2.2.up ht u (by omega)⟩
  rw [u.2 0 12 (by omega)]
  exact h.2.2.2.1
theorem CR0.cp24 (h : CR0 D S t M) (ht : t = 8 ∨ t = 25) (e : ∀ x y : Nat, (x ≠ 42 ∨ y < 32) → M1 x y = M x y) : CR0 D S t M1 := by
  refine ⟨fun k f hk => (e (t + k) f (by omega)).trans (h.1 k f hk), h.2.1, h.2.2.1.of h.2.1.1.2.2.2.1 (fun q hq => e 42 q (by omega)), ?_, h.2.2.2.2.1, h.2.2.2.2.2.of ht (fun k hk f => e k f (by omega))⟩
  rw [e 0 12 (by omega)]
  exact h.2.2.2.1
theorem CR0.u0 (h : CR0 D S t M) (u : Up M 42 f r M1) (ht : t = 8 ∨ t = 25) (hp : 0 ≤ p ∧ p < D 0 1) (hf : f = p.toNat) (hr : 0 ≤ r ∧ r < D 0 0) : CR0 D (c_up S 0 p.toNat r) t M1 := by
  subst hf
  have hn := h.2.1.1.2.2.2.1
  refine ⟨fun k f hk => (u.2 (t + k) f (by omega)).trans (h.1 k f hk), h.2.1, fun q hq => ?_, ?_, h.2.2.2.2.1.u0 hr, h.2.2.2.2.2.up ht u (by omega)⟩
  · have := h.2.2.1 q hq
    rw [u.2 42 (8 + q) (by omega), u.2 42 (16 + q) (by omega), u.2 42 (24 + q) (by omega)]
    unfold c_up
    simp
    refine ⟨?_, this.2⟩
    by_cases e : q = p.toNat
    · rw [if_pos e, e, u.1]
    · rw [if_neg e, u.2 42 q (by omega)]
      exact this.1
  · rw [u.2 0 12 (by omega)]
    exact h.2.2.2.1
theorem CR0.u1 (h : CR0 D S t M) (u : Up M 42 f r M1) (ht : t = 8 ∨ t = 25) (hp : 0 ≤ p ∧ p < D 0 1) (hf : f = 8 + p.toNat) (hr : 0 ≤ r ∧ r < D 0 0) : CR0 D (c_up S 1 p.toNat r) t M1 := by
  subst hf
  have hn := h.2.1.1.2.2.2.1
  refine ⟨fun k f hk => (u.2 (t + k) f (by omega)).trans (h.1 k f hk), h.2.1, fun q hq => ?_, ?_, h.2.2.2.2.1.u1 hr, h.2.2.2.2.2.up ht u (by omega)⟩
  · have := h.2.2.1 q hq
    rw [u.2 42 q (by omega), u.2 42 (16 + q) (by omega), u.2 42 (24 + q) (by omega)]
    unfold c_up
    simp
    refine ⟨this.1, ?_, this.2.2⟩
    by_cases e : q = p.toNat
    · rw [if_pos e, e, u.1]
    · rw [if_neg e, u.2 42 (8 + q) (by omega)]
      exact this.2.1
  · rw [u.2 0 12 (by omega)]
    exact h.2.2.2.1
theorem CR0.u2 (h : CR0 D S t M) (u : Up M 42 f r M1) (ht : t = 8 ∨ t = 25) (hp : 0 ≤ p ∧ p < D 0 1) (hf : f = 16 + p.toNat) (hr : r = 0 ∨ r = 1) : CR0 D (c_up S 2 p.toNat r) t M1 := by
  subst hf
  have hn := h.2.1.1.2.2.2.1
  refine ⟨fun k f hk => (u.2 (t + k) f (by omega)).trans (h.1 k f hk), h.2.1, fun q hq => ?_, ?_, h.2.2.2.2.1.u2 hr, h.2.2.2.2.2.up ht u (by omega)⟩
  · have := h.2.2.1 q hq
    rw [u.2 42 q (by omega), u.2 42 (8 + q) (by omega), u.2 42 (24 + q) (by omega)]
    unfold c_up
    simp
    refine ⟨this.1, this.2.1, ?_, this.2.2.2⟩
    by_cases e : q = p.toNat
    · rw [if_pos e, e, u.1]
    · rw [if_neg e, u.2 42 (16 + q) (by omega)]
      exact this.2.2.1
  · rw [u.2 0 12 (by omega)]
    exact h.2.2.2.1
theorem CR0.u4 (h : CR0 D S t M) (u : Up M 42 f r M1) (ht : t = 8 ∨ t = 25) (hp : 0 ≤ p ∧ p < D 0 1) (hf : f = 24 + p.toNat) (hr : 0 ≤ r ∧ r ≤ 99999) : CR0 D (c_up S 4 p.toNat r) t M1 := by
  subst hf
  have hn := h.2.1.1.2.2.2.1
  refine ⟨fun k f hk => (u.2 (t + k) f (by omega)).trans (h.1 k f hk), h.2.1, fun q hq => ?_, ?_, h.2.2.2.2.1.u4 hr, h.2.2.2.2.2.up ht u (by omega)⟩
  · have := h.2.2.1 q hq
    rw [u.2 42 q (by omega), u.2 42 (8 + q) (by omega), u.2 42 (16 + q) (by omega)]
    unfold c_up
    simp
    refine ⟨this.1, this.2.1, this.2.2.1, ?_⟩
    by_cases e : q = p.toNat
    · rw [if_pos e, e, u.1]
    · rw [if_neg e, u.2 42 (24 + q) (by omega)]
      exact this.2.2.2
  · rw [u.2 0 12 (by omega)]
    exact h.2.2.2.1
theorem cRow.u3 {g : Nat → Int} {n x : Int} (h : cRow g n S) : cRow g n (c_up S 3 f x) := fun q hq => by
  have := h q hq
  unfold c_up
  simp
  exact this
theorem rRow.u3 {k n x : Int} (h : rRow M k n S) : rRow M k n (c_up S 3 f x) := fun q hq => by
  have := h q hq
  unfold c_up
  simp
  exact this
theorem CR0.u3 (h : CR0 D S t M) (u : Up M 0 12 v M1) (ht : t = 8 ∨ t = 25) : CR0 D (c_up S 3 0 v) t M1 := by
  refine ⟨fun k f hk => (u.2 (t + k) f (by omega)).trans (h.1 k f hk), h.2.1, (h.2.2.1.of h.2.1.1.2.2.2.1 (fun q hq => u.2 42 q (by omega))).u3, ?_, h.2.2.2.2.1.u3, h.2.2.2.2.2.up ht u (by omega)⟩
  rw [u.1]
  unfold c_up
  simp
theorem CR0.rm (h : CR0 D S t M) (hp : 0 ≤ p ∧ p < D 0 1) (hf : f = p.toNat) : M 42 f = S 0 p.toNat := by
  subst hf
  exact (h.2.2.1 p.toNat (by omega)).1
theorem CR0.ch (h : CR0 D S t M) (hp : 0 ≤ p ∧ p < D 0 1) (hf : f = 8 + p.toNat) : M 42 f = S 1 p.toNat := by
  subst hf
  exact (h.2.2.1 p.toNat (by omega)).2.1
theorem CR0.br (h : CR0 D S t M) (hp : 0 ≤ p ∧ p < D 0 1) (hf : f = 16 + p.toNat) : M 42 f = S 2 p.toNat := by
  subst hf
  exact (h.2.2.1 p.toNat (by omega)).2.2.1
theorem CR0.cl (h : CR0 D S t M) (hp : 0 ≤ p ∧ p < D 0 1) (hf : f = 24 + p.toNat) : M 42 f = S 4 p.toNat := by
  subst hf
  exact (h.2.2.1 p.toNat (by omega)).2.2.2
theorem SW.at (h : SW D S) (hp : 0 ≤ p ∧ p < D 0 1) : (0 ≤ S 0 p.toNat ∧ S 0 p.toNat < D 0 0) ∧ (0 ≤ S 1 p.toNat ∧ S 1 p.toNat < D 0 0) ∧ (S 2 p.toNat = 0 ∨ S 2 p.toNat = 1) ∧ 0 ≤ S 4 p.toNat ∧ S 4 p.toNat ≤ 99999 := h p.toNat (by omega)
theorem DW.pt (h : DW D) (hp : 0 ≤ p ∧ p < D 0 1) : -1 ≤ D 9 p.toNat ∧ D 9 p.toNat < D 0 1 := h.2.2.2.2.2.2.2.1 p.toNat (by omega)
theorem DW.wd (h : DW D) (hp : 0 ≤ p ∧ p < D 0 1) : 0 ≤ D 8 p.toNat ∧ D 8 p.toNat ≤ 9 := by
  have := h.2.2.2.2.1 p.toNat (by omega)
  omega
theorem wy_po (h : CR0 D S t M) (a b : Int) : wy M t a b = pWy D a b := by
  unfold wy pWy
  rw [← h.1 4 _ (by decide), ← h.1 0 0 (by decide)]
  rfl
theorem nbC_po (h : CR0 D S t M) (a : Int) : ∀ n, nbC M t a n = pNb D a n
  | 0 => rfl
  | n + 1 => by
    show nbC M t a n + _ = pNb D a n + _
    rw [nbC_po h a n, wy_po h]
theorem pLd_r (h : DW D) {r but : Int} : ∀ (n : Nat), (n : Int) ≤ D 0 1 → 0 ≤ pLd D S r but n ∧ pLd D S r but n ≤ 9 * n
  | 0, _ => ⟨Int.le_refl _, Int.le_refl _⟩
  | n + 1, hn => by
    have h1 := h.2.2.2.2.1 n (by omega)
    have h2 := pLd_r h (r := r) (but := but) n (by omega)
    show 0 ≤ pLd D S r but n + (if (n : Int) ≠ but ∧ S 1 n = r then D 8 n else 0) ∧ pLd D S r but n + (if (n : Int) ≠ but ∧ S 1 n = r then D 8 n else 0) ≤ 9 * ((n + 1 : Nat) : Int)
    split <;> omega
end CRS
section RRS
variable {D S M M1 : cM} {f : Nat} {F : List (Nat × Nat)} {v p r : Int}
theorem RR0.fr (h : RR0 D S M) (g : Fr F M M1) (hs : rrfo F = true) : RR0 D S M1 := by
  unfold rrfo at hs
  rw [Bool.and_eq_true, Bool.and_eq_true] at hs
  have e : ∀ c, c ∈ [65, 66, 67, 68, 69, 70, 71, 72, 73, 74, 79, 80, 83, 84, 92, 93, 94, 95, 75, 76, 77, 78, 81, 82] → ∀ f, M1 c f = M c f := fun c hc f => g c f (nin (by simp at hc; omega) (List.all_eq_true.mp hs.2 c hc) f)
  unfold RR0
  rw [g 63 14 (by simpa using hs.1.1), g 63 60 (by simpa using hs.1.2)]
  refine ⟨h.1.eq (fun c hc => e c (by simp at hc ⊢; omega)), h.2.1, h.2.2.1.of h.2.1.1.2.2.2.1 (fun c hc p _ => e c (by simp; omega) _), h.2.2.2.1, h.2.2.2.2.1, h.2.2.2.2.2.of (fun c hc => e c (by simp at hc ⊢; omega))⟩
def rrf0 (F : List (Nat × Nat)) : Bool := !c_in F 63 14 && !c_in F 63 60 && ([65, 66, 67, 68, 69, 70, 71, 72, 73, 74, 79, 80, 83, 84, 75, 76, 77, 78, 81, 82].all fun c => F.all fun p => p.1 != c)
theorem RR0.cpy (h : RR0 D S M) (g : Fr F M M1) (hs : rrf0 F = true) (h2 : ∀ x, x = 92 ∨ x = 93 ∨ x = 94 ∨ x = 95 → ∀ q : Nat, q < 8 → M1 x q = M x q) : RR0 D S M1 := by
  unfold rrf0 at hs
  rw [Bool.and_eq_true, Bool.and_eq_true] at hs
  have e : ∀ c, c ∈ [65, 66, 67, 68, 69, 70, 71, 72, 73, 74, 79, 80, 83, 84, 75, 76, 77, 78, 81, 82] → ∀ f, M1 c f = M c f := fun c hc f => g c f (nin (by simp at hc; omega) (List.all_eq_true.mp hs.2 c hc) f)
  unfold RR0
  rw [g 63 14 (by simpa using hs.1.1), g 63 60 (by simpa using hs.1.2)]
  refine ⟨h.1.eq (fun c hc => e c (by simp at hc ⊢; omega)), h.2.1, h.2.2.1.of h.2.1.1.2.2.2.1 (fun c hc p hp => ?_), h.2.2.2.1, h.2.2.2.2.1, h.2.2.2.2.2.of (fun c hc => e c (by simp at hc ⊢; omega))⟩
  rw [show (8 * (0 : Int) + (p : Int)).toNat = p by omega]
  exact h2 c hc p hp
theorem RR0.up {k : Nat} (h : RR0 D S M) (u : Up M k f v M1) (hk : ¬ (k = 63 ∧ (f = 14 ∨ f = 60)) ∧ (k < 65 ∨ (85 ≤ k ∧ k ≠ 92 ∧ k ≠ 93 ∧ k ≠ 94 ∧ k ≠ 95))) : RR0 D S M1 := by
  have e : ∀ c, c ∈ [65, 66, 67, 68, 69, 70, 71, 72, 73, 74, 79, 80, 83, 84, 92, 93, 94, 95, 75, 76, 77, 78, 81, 82] → ∀ g, M1 c g = M c g := fun c hc g => u.2 c g (by simp at hc; omega)
  unfold RR0
  rw [u.2 63 14 (by omega), u.2 63 60 (by omega)]
  refine ⟨h.1.eq (fun c hc => e c (by simp at hc ⊢; omega)), h.2.1, h.2.2.1.of h.2.1.1.2.2.2.1 (fun c hc p _ => e c (by simp; omega) _), h.2.2.2.1, h.2.2.2.2.1, h.2.2.2.2.2.of (fun c hc => e c (by simp at hc ⊢; omega))⟩
theorem RR0.u92 {k : Nat} (h : RR0 D S M) (hk : k = 92 ∨ k = 93 ∨ k = 94 ∨ k = 95) (u : Up M k f v M1) (hf : 8 ≤ f) : RR0 D S M1 := by
  have e : ∀ c, c ∈ [65, 66, 67, 68, 69, 70, 71, 72, 73, 74, 79, 80, 83, 84, 75, 76, 77, 78, 81, 82] → ∀ g, M1 c g = M c g := fun c hc g => u.2 c g (by simp at hc; omega)
  unfold RR0
  rw [u.2 63 14 (by omega), u.2 63 60 (by omega)]
  exact ⟨h.1.eq (fun c hc => e c (by simp at hc ⊢; omega)), h.2.1, h.2.2.1.of h.2.1.1.2.2.2.1 (fun c hc p _ => u.2 c _ (by omega)), h.2.2.2.1, h.2.2.2.2.1, h.2.2.2.2.2.of (fun c hc => e c (by simp at hc ⊢; omega))⟩
theorem RR0.u0 (h : RR0 D S M) (u : Up M 92 f r M1) (hp : 0 ≤ p ∧ p < D 0 1) (hf : f = p.toNat) (hr : 0 ≤ r ∧ r < D 0 0) : RR0 D (c_up S 0 p.toNat r) M1 := by
  subst hf
  have hn := h.2.1.1.2.2.2.1
  have e : ∀ c, c ∈ [65, 66, 67, 68, 69, 70, 71, 72, 73, 74, 79, 80, 83, 84, 75, 76, 77, 78, 81, 82] → ∀ g, M1 c g = M c g := fun c hc g => u.2 c g (by simp at hc; omega)
  unfold RR0
  rw [u.2 63 14 (by omega), u.2 63 60 (by omega)]
  refine ⟨h.1.eq (fun c hc => e c (by simp at hc ⊢; omega)), h.2.1, fun q hq => ?_, h.2.2.2.1, h.2.2.2.2.1.u0 hr, h.2.2.2.2.2.of (fun c hc => e c (by simp at hc ⊢; omega))⟩
  have := h.2.2.1 q hq
  rw [show (8 * (0 : Int) + (q : Int)).toNat = q by omega] at this
  rw [u.2 93 _ (by omega), u.2 94 _ (by omega), u.2 95 _ (by omega)]
  unfold c_up
  simp
  refine ⟨?_, this.2⟩
  by_cases e : q = p.toNat
  · rw [if_pos e, e, u.1]
  · rw [if_neg e, u.2 92 q (by omega)]
    exact this.1
theorem RR0.u1 (h : RR0 D S M) (u : Up M 93 f r M1) (hp : 0 ≤ p ∧ p < D 0 1) (hf : f = p.toNat) (hr : 0 ≤ r ∧ r < D 0 0) : RR0 D (c_up S 1 p.toNat r) M1 := by
  subst hf
  have hn := h.2.1.1.2.2.2.1
  have e : ∀ c, c ∈ [65, 66, 67, 68, 69, 70, 71, 72, 73, 74, 79, 80, 83, 84, 75, 76, 77, 78, 81, 82] → ∀ g, M1 c g = M c g := fun c hc g => u.2 c g (by simp at hc; omega)
  unfold RR0
  rw [u.2 63 14 (by omega), u.2 63 60 (by omega)]
  refine ⟨h.1.eq (fun c hc => e c (by simp at hc ⊢; omega)), h.2.1, fun q hq => ?_, h.2.2.2.1, h.2.2.2.2.1.u1 hr, h.2.2.2.2.2.of (fun c hc => e c (by simp at hc ⊢; omega))⟩
  have := h.2.2.1 q hq
  rw [show (8 * (0 : Int) + (q : Int)).toNat = q by omega] at this
  rw [u.2 92 _ (by omega), u.2 94 _ (by omega), u.2 95 _ (by omega)]
  unfold c_up
  simp
  refine ⟨this.1, ?_, this.2.2⟩
  by_cases e : q = p.toNat
  · rw [if_pos e, e, u.1]
  · rw [if_neg e, u.2 93 q (by omega)]
    exact this.2.1
theorem RR0.u2 (h : RR0 D S M) (u : Up M 94 f r M1) (hp : 0 ≤ p ∧ p < D 0 1) (hf : f = p.toNat) (hr : r = 0 ∨ r = 1) : RR0 D (c_up S 2 p.toNat r) M1 := by
  subst hf
  have hn := h.2.1.1.2.2.2.1
  have e : ∀ c, c ∈ [65, 66, 67, 68, 69, 70, 71, 72, 73, 74, 79, 80, 83, 84, 75, 76, 77, 78, 81, 82] → ∀ g, M1 c g = M c g := fun c hc g => u.2 c g (by simp at hc; omega)
  unfold RR0
  rw [u.2 63 14 (by omega), u.2 63 60 (by omega)]
  refine ⟨h.1.eq (fun c hc => e c (by simp at hc ⊢; omega)), h.2.1, fun q hq => ?_, h.2.2.2.1, h.2.2.2.2.1.u2 hr, h.2.2.2.2.2.of (fun c hc => e c (by simp at hc ⊢; omega))⟩
  have := h.2.2.1 q hq
  rw [show (8 * (0 : Int) + (q : Int)).toNat = q by omega] at this
  rw [u.2 92 _ (by omega), u.2 93 _ (by omega), u.2 95 _ (by omega)]
  unfold c_up
  simp
  refine ⟨this.1, this.2.1, ?_, this.2.2.2⟩
  by_cases e : q = p.toNat
  · rw [if_pos e, e, u.1]
  · rw [if_neg e, u.2 94 q (by omega)]
    exact this.2.2.1
theorem RR0.u4 (h : RR0 D S M) (u : Up M 95 f r M1) (hp : 0 ≤ p ∧ p < D 0 1) (hf : f = p.toNat) (hr : 0 ≤ r ∧ r ≤ 99999) : RR0 D (c_up S 4 p.toNat r) M1 := by
  subst hf
  have hn := h.2.1.1.2.2.2.1
  have e : ∀ c, c ∈ [65, 66, 67, 68, 69, 70, 71, 72, 73, 74, 79, 80, 83, 84, 75, 76, 77, 78, 81, 82] → ∀ g, M1 c g = M c g := fun c hc g => u.2 c g (by simp at hc; omega)
  unfold RR0
  rw [u.2 63 14 (by omega), u.2 63 60 (by omega)]
  refine ⟨h.1.eq (fun c hc => e c (by simp at hc ⊢; omega)), h.2.1, fun q hq => ?_, h.2.2.2.1, h.2.2.2.2.1.u4 hr, h.2.2.2.2.2.of (fun c hc => e c (by simp at hc ⊢; omega))⟩
  have := h.2.2.1 q hq
  rw [show (8 * (0 : Int) + (q : Int)).toNat = q by omega] at this
  rw [u.2 92 _ (by omega), u.2 93 _ (by omega), u.2 94 _ (by omega)]
  unfold c_up
  simp
  refine ⟨this.1, this.2.1, this.2.2.1, ?_⟩
  by_cases e : q = p.toNat
  · rw [if_pos e, e, u.1]
  · rw [if_neg e, u.2 95 q (by omega)]
    exact this.2.2.2
theorem RR0.u3 (h : RR0 D S M) (u : Up M 63 60 v M1) : RR0 D (c_up S 3 0 v) M1 := by
  have e : ∀ c, c ∈ [65, 66, 67, 68, 69, 70, 71, 72, 73, 74, 79, 80, 83, 84, 92, 93, 94, 95, 75, 76, 77, 78, 81, 82] → ∀ g, M1 c g = M c g := fun c hc g => u.2 c g (by simp at hc; omega)
  unfold RR0
  rw [u.2 63 14 (by omega), u.1]
  refine ⟨h.1.eq (fun c hc => e c (by simp at hc ⊢; omega)), h.2.1, (h.2.2.1.of h.2.1.1.2.2.2.1 (fun c hc p _ => e c (by simp; omega) _)).u3, ?_, h.2.2.2.2.1.u3, h.2.2.2.2.2.of (fun c hc => e c (by simp at hc ⊢; omega))⟩
  unfold c_up
  simp
theorem RR0.rm (h : RR0 D S M) (hp : 0 ≤ p ∧ p < D 0 1) (hf : f = p.toNat) : M 92 f = S 0 p.toNat := by
  have := (h.2.2.1 p.toNat (by omega)).1
  rw [hf, ← this]
  congr 1
  omega
theorem RR0.ch (h : RR0 D S M) (hp : 0 ≤ p ∧ p < D 0 1) (hf : f = p.toNat) : M 93 f = S 1 p.toNat := by
  have := (h.2.2.1 p.toNat (by omega)).2.1
  rw [hf, ← this]
  congr 1
  omega
theorem RR0.br (h : RR0 D S M) (hp : 0 ≤ p ∧ p < D 0 1) (hf : f = p.toNat) : M 94 f = S 2 p.toNat := by
  have := (h.2.2.1 p.toNat (by omega)).2.2.1
  rw [hf, ← this]
  congr 1
  omega
theorem RR0.cl (h : RR0 D S M) (hp : 0 ≤ p ∧ p < D 0 1) (hf : f = p.toNat) : M 95 f = S 4 p.toNat := by
  have := (h.2.2.1 p.toNat (by omega)).2.2.2
  rw [hf, ← this]
  congr 1
  omega
theorem RR0.dr (h : RR0 D S M) (hp : 0 ≤ p ∧ p < D 0 0) (hf : f = (8 * M 63 14 + p).toNat) : M 66 f = D 2 p.toNat := by
  have := (h.1.2.2.2.2.1 p.toNat (by omega)).2.1
  rw [hf, ← this]
  congr 2
  omega
theorem RR0.fl (h : RR0 D S M) (hp : 0 ≤ p ∧ p < D 0 0) (hf : f = (8 * M 63 14 + p).toNat) : M 67 f = D 3 p.toNat := by
  have := (h.1.2.2.2.2.1 p.toNat (by omega)).2.2
  rw [hf, ← this]
  congr 2
  omega
theorem RR0.wg (h : RR0 D S M) (hp : 0 ≤ p ∧ p < D 0 1) (hf : f = (8 * M 63 14 + p).toNat) : M 71 f = D 7 p.toNat := by
  have := (h.1.2.2.2.2.2.1 p.toNat (by omega)).2.2.1
  rw [hf, ← this]
  congr 2
  omega
theorem RR0.sg (h : RR0 D S M) (hp : 0 ≤ p ∧ p < D 0 1) (hf : f = (8 * M 63 14 + p).toNat) : M 70 f = D 6 p.toNat := by
  have := (h.1.2.2.2.2.2.1 p.toNat (by omega)).2.1
  rw [hf, ← this]
  congr 2
  omega
theorem RR0.wd (h : RR0 D S M) (hp : 0 ≤ p ∧ p < D 0 1) (hf : f = (8 * M 63 14 + p).toNat) : M 72 f = D 8 p.toNat := by
  have := (h.1.2.2.2.2.2.1 p.toNat (by omega)).2.2.2.1
  rw [hf, ← this]
  congr 2
  omega
theorem RR0.pt (h : RR0 D S M) (hp : 0 ≤ p ∧ p < D 0 1) (hf : f = (8 * M 63 14 + p).toNat) : M 74 f = D 9 p.toNat := by
  have := (h.1.2.2.2.2.2.1 p.toNat (by omega)).2.2.2.2.1
  rw [hf, ← this]
  congr 2
  omega
theorem RR0.hm (h : RR0 D S M) (hp : 0 ≤ p ∧ p < D 0 1) (hf : f = (8 * M 63 14 + p).toNat) : M 73 f = D 10 p.toNat := by
  have := (h.1.2.2.2.2.2.1 p.toNat (by omega)).2.2.2.2.2
  rw [hf, ← this]
  congr 2
  omega
theorem RR0.wy (h : RR0 D S M) {a b : Int} (ha : 0 ≤ a ∧ a < D 0 0) (hb : 0 ≤ b ∧ b < D 0 0) : wr M a b = pWy D a b := by
  have e := h.1.2.2.2.2.2.2.1 a.toNat b.toNat (by omega) (by omega)
  unfold wr pWy
  rw [if_pos ⟨ha.1, ha.2, hb.1, hb.2⟩, show (a * 8 + b).toNat = 8 * a.toNat + b.toNat by omega, ← e]
  congr 2
  omega
end RRS
/-! what can be undone -/
def CH0 (D : cM) (H : Nat → cM) (c : Int) (M : cM) : Prop := (M 44 2 = c ∧ 0 ≤ c ∧ c ≤ 20) ∧ ∀ k : Nat, (k : Int) < c → cRow (fun q => M 45 (81 * ((M 44 1 + 20 - (k : Int)) % 20).toNat + q)) (D 0 1) (H k) ∧ SW D (H k)
def RH0 (D : cM) (H : Nat → cM) (c : Int) (M : cM) : Prop := (M 63 59 = c ∧ 0 ≤ c ∧ c ≤ 20) ∧ ∀ k : Nat, (k : Int) < c → rRow M (2 + (M 63 58 + c - 1 - (k : Int)) % 20) (D 0 1) (H k) ∧ SW D (H k)
def pPh (S : cM) (H : Nat → cM) : Nat → cM
  | 0 => S
  | k + 1 => H k
def pC1 (c : Int) : Int := if c = 20 then 20 else c + 1
/-- undone: all but the seed -/
def pUn (S S1 : cM) : cM := c_up S1 3 0 (S 3 0)
def chf (F : List (Nat × Nat)) : Bool := !c_in F 44 1 && !c_in F 44 2 && (F.all fun p => p.1 != 45)
def rhfo (F : List (Nat × Nat)) : Bool := !c_in F 63 58 && !c_in F 63 59 && ([92, 93, 94, 95].all fun c => F.all fun p => p.1 != c)
section HIS
variable {D S M M1 : cM} {H : Nat → cM} {c v : Int} {f : Nat} {F : List (Nat × Nat)}
theorem CH0.fr (h : CH0 D H c M) (g : Fr F M M1) (hs : chf F = true) : CH0 D H c M1 := by
  unfold chf at hs
  rw [Bool.and_eq_true, Bool.and_eq_true] at hs
  unfold CH0
  rw [g 44 1 (by simpa using hs.1.1), g 44 2 (by simpa using hs.1.2)]
  refine ⟨h.1, fun k hk => ⟨fun p hp => ?_, (h.2 k hk).2⟩⟩
  have e : ∀ f, M1 45 f = M 45 f := fun f => g 45 f (nin (by decide) hs.2 f)
  have := (h.2 k hk).1 p hp
  simp only [e]
  exact this
theorem CH0.up {k : Nat} (h : CH0 D H c M) (u : Up M k f v M1) (hk : k ≠ 45 ∧ ¬ (k = 44 ∧ (f = 1 ∨ f = 2))) : CH0 D H c M1 := by
  unfold CH0
  rw [u.2 44 1 (by omega), u.2 44 2 (by omega)]
  refine ⟨h.1, fun k hk => ⟨fun p hp => ?_, (h.2 k hk).2⟩⟩
  have e : ∀ f, M1 45 f = M 45 f := fun f => u.2 45 f (by omega)
  have := (h.2 k hk).1 p hp
  simp only [e]
  exact this
theorem RH0.fr (h : RH0 D H c M) (hD : DW D) (g : Fr F M M1) (hs : rhfo F = true) : RH0 D H c M1 := by
  unfold rhfo at hs
  rw [Bool.and_eq_true, Bool.and_eq_true] at hs
  have e : ∀ c, c ∈ [92, 93, 94, 95] → ∀ f, M1 c f = M c f := fun c hc f => g c f (nin (by simp at hc; omega) (List.all_eq_true.mp hs.2 c hc) f)
  unfold RH0
  rw [g 63 58 (by simpa using hs.1.1), g 63 59 (by simpa using hs.1.2)]
  exact ⟨h.1, fun k hk => ⟨(h.2 k hk).1.of hD.2.2.2.1 (fun c hc p _ => e c (by simp; omega) _), (h.2 k hk).2⟩⟩
theorem RH0.up {k : Nat} (h : RH0 D H c M) (hD : DW D) (u : Up M k f v M1) (hk : ¬ (k = 63 ∧ (f = 58 ∨ f = 59)) ∧ ((k ≠ 92 ∧ k ≠ 93 ∧ k ≠ 94 ∧ k ≠ 95) ∨ f < 16)) : RH0 D H c M1 := by
  have hr := h.1
  unfold RH0
  rw [u.2 63 58 (by omega), u.2 63 59 (by omega)]
  exact ⟨h.1, fun k hk => ⟨(h.2 k hk).1.of hD.2.2.2.1 (fun c hc p hp => u.2 c _ (by omega)), (h.2 k hk).2⟩⟩
/-- the class remembers, takes back -/
theorem CH0.push (h : CH0 D H c M) (hS : SW D S) (hr : cRow (M 42) (D 0 1) S) (hD : DW D) (h1 : 0 ≤ M 44 1 ∧ M 44 1 ≤ 19) {n : Int} (hn : n = (M 44 1 + 1) % 20) (e1 : M1 44 1 = n) (e2 : M1 44 2 = pC1 c) (e3 : ∀ q : Nat, q < 81 → M1 45 (81 * n.toNat + q) = M 42 q) (e4 : ∀ f : Nat, ¬ (81 * n.toNat ≤ f ∧ f < 81 * n.toNat + 81) → M1 45 f = M 45 f) : CH0 D (pPh S H) (pC1 c) M1 := by
  have hc := h.1
  have hc1 : 0 ≤ pC1 c ∧ pC1 c ≤ 20 := by unfold pC1; split <;> omega
  refine ⟨⟨e2, hc1⟩, fun k hk => ?_⟩
  rw [e1]
  cases k with
  | zero =>
    refine ⟨hr.of hD.2.2.2.1 (fun q hq => ?_), hS⟩
    rw [show ((n + 20 - (((0 : Nat) : Nat) : Int)) % 20).toNat = n.toNat by omega]
    exact e3 q (by omega)
  | succ k =>
    have hk2 : (k : Int) < c ∧ k < 19 := by unfold pC1 at hk; split at hk <;> omega
    have h2 := h.2 k hk2.1
    refine ⟨h2.1.of hD.2.2.2.1 (fun q hq => ?_), h2.2⟩
    have e5 : ((n + 20 - ((k + 1 : Nat) : Int)) % 20).toNat = ((M 44 1 + 20 - (k : Int)) % 20).toNat := by omega
    rw [e5]
    exact e4 _ (by omega)
theorem CH0.pop (h : CH0 D H c M) (hc : 0 < c) (h1 : 0 ≤ M 44 1 ∧ M 44 1 ≤ 19) (e1 : M1 44 1 = (M 44 1 + 19) % 20) (e2 : M1 44 2 = c - 1) (e3 : ∀ f, M1 45 f = M 45 f) : CH0 D (fun k => H (k + 1)) (c - 1) M1 := by
  have hcc := h.1
  refine ⟨⟨e2, by omega, by omega⟩, fun k hk => ?_⟩
  have h2 := h.2 (k + 1) (by omega)
  refine ⟨fun p hp => ?_, h2.2⟩
  have h3 := h2.1 p hp
  simp only [e3, e1]
  have e5 : (((M 44 1 + 19) % 20 + 20 - (k : Int)) % 20).toNat = ((M 44 1 + 20 - ((k + 1 : Nat) : Int)) % 20).toNat := by omega
  rw [e5]
  exact h3
theorem CR0.pop {t : Nat} (h : CR0 D S t M) (hh : CH0 D H c M) (ht : t = 8 ∨ t = 25) (hc : 0 < c) (h1 : 0 ≤ M 44 1 ∧ M 44 1 ≤ 19) (e3 : ∀ q : Nat, q < 81 → M1 42 q = M 45 (81 * (M 44 1).toNat + q)) (e4 : M1 0 12 = M 0 12) (e5 : ∀ k, (8 ≤ k ∧ k < 42) ∨ 114 ≤ k → ∀ f, M1 k f = M k f) : CR0 D (pUn S (H 0)) t M1 := by
  have h2 := hh.2 0 (by omega)
  have hn := h.2.1.1.2.2.2.1
  refine ⟨fun k f hk => (e5 (t + k) (by omega) f).trans (h.1 k f hk), h.2.1, ?_, ?_, h2.2.u3, h.2.2.2.2.2.of ht (fun k hk f => e5 k (by omega) f)⟩
  · refine cRow.u3 (fun p hp => ?_)
    have h3 := h2.1 p hp
    rw [show ((M 44 1 + 20 - ((0 : Nat) : Int)) % 20).toNat = (M 44 1).toNat by omega] at h3
    rw [e3 p (by omega), e3 (8 + p) (by omega), e3 (16 + p) (by omega), e3 (24 + p) (by omega)]
    exact h3
  · rw [e4, h.2.2.2.1]
    unfold pUn c_up
    simp
/-- the reference remembers, takes back -/
theorem RH0.push (h : RH0 D H c M) (hS : SW D S) (hr : rRow M 0 (D 0 1) S) (hD : DW D) (h1 : 0 ≤ M 63 58 ∧ M 63 58 ≤ 19) (e1 : (c = 20 ∧ M1 63 58 = (M 63 58 + 1) % 20) ∨ (c ≠ 20 ∧ M1 63 58 = M 63 58)) (e2 : M1 63 59 = pC1 c) {k0 : Int} (hk0 : k0 = 2 + (M1 63 58 + pC1 c - 1) % 20) (e3 : ∀ x, x = 92 ∨ x = 93 ∨ x = 94 ∨ x = 95 → ∀ p : Nat, p < 8 → M1 x (8 * k0 + (p : Int)).toNat = M x p) (e4 : ∀ x, x = 92 ∨ x = 93 ∨ x = 94 ∨ x = 95 → ∀ k : Int, 0 ≤ k → k ≠ k0 → ∀ p : Nat, p < 8 → M1 x (8 * k + (p : Int)).toNat = M x (8 * k + (p : Int)).toNat) : RH0 D (pPh S H) (pC1 c) M1 := by
  have hc := h.1
  have hc1 : 0 ≤ pC1 c ∧ pC1 c ≤ 20 := by unfold pC1; split <;> omega
  have hc2 : (c = 20 ∧ pC1 c = 20) ∨ (c ≠ 20 ∧ pC1 c = c + 1) := by unfold pC1; split <;> omega
  refine ⟨⟨e2, hc1⟩, fun k hk => ?_⟩
  cases k with
  | zero =>
    refine ⟨hr.of hD.2.2.2.1 (fun x hx p hp => ?_), hS⟩
    rw [show 2 + (M1 63 58 + pC1 c - 1 - ((0 : Nat) : Int)) % 20 = k0 by omega, e3 x hx p hp]
    congr 1
    omega
  | succ k =>
    have h2 := h.2 k (by omega)
    refine ⟨h2.1.of hD.2.2.2.1 (fun x hx p hp => ?_), h2.2⟩
    have e5 : 2 + (M1 63 58 + pC1 c - 1 - ((k + 1 : Nat) : Int)) % 20 = 2 + (M 63 58 + c - 1 - (k : Int)) % 20 := by omega
    rw [e5]
    exact e4 x hx _ (by omega) (by omega) p hp
theorem RH0.pop (h : RH0 D H c M) (hD : DW D) (hc : 0 < c) (e1 : M1 63 58 = M 63 58) (e2 : M1 63 59 = c - 1) (e4 : ∀ x, x = 92 ∨ x = 93 ∨ x = 94 ∨ x = 95 → ∀ f, 16 ≤ f → M1 x f = M x f) : RH0 D (fun k => H (k + 1)) (c - 1) M1 := by
  have hcc := h.1
  refine ⟨⟨e2, by omega, by omega⟩, fun k hk => ?_⟩
  have h2 := h.2 (k + 1) (by omega)
  refine ⟨h2.1.of hD.2.2.2.1 (fun x hx p hp => ?_), h2.2⟩
  rw [e1, show 2 + (M 63 58 + (c - 1) - 1 - (k : Int)) % 20 = 2 + (M 63 58 + c - 1 - ((k + 1 : Nat) : Int)) % 20 by omega]
  exact e4 x hx _ (by omega)
theorem RR0.pop (h : RR0 D S M) (hh : RH0 D H c M) (hc : 0 < c) {k0 : Int} (hk0 : k0 = 2 + (M 63 58 + c - 1) % 20) (e3 : ∀ x, x = 92 ∨ x = 93 ∨ x = 94 ∨ x = 95 → ∀ p : Nat, p < 8 → M1 x p = M x (8 * k0 + (p : Int)).toNat) (e4 : M1 63 60 = M 63 60 ∧ M1 63 14 = M 63 14) (e5 : ∀ k, k ∈ [65, 66, 67, 68, 69, 70, 71, 72, 73, 74, 79, 80, 83, 84, 75, 76, 77, 78, 81, 82] → ∀ f, M1 k f = M k f) : RR0 D (pUn S (H 0)) M1 := by
  have h2 := hh.2 0 (by omega)
  have hn := h.2.1.1.2.2.2.1
  unfold RR0
  rw [e4.1, e4.2]
  refine ⟨h.1.eq (fun c hc => e5 c (by simp at hc ⊢; omega)), h.2.1, ?_, ?_, h2.2.u3, h.2.2.2.2.2.of (fun c hc => e5 c (by simp at hc ⊢; omega))⟩
  · refine rRow.u3 (h2.1.of hn (fun x hx p hp => ?_))
    rw [show (8 * (0 : Int) + (p : Int)).toNat = p by omega, e3 x hx p hp, show k0 = 2 + (M 63 58 + c - 1 - ((0 : Nat) : Int)) % 20 by omega]
  · rw [h.2.2.2.1]
    unfold pUn c_up
    simp
end HIS
/-- a slot is copied -/
def CPr (a b : Int) (M0 : cM) (n : Int) (M : cM) : Prop := ∀ c, c = 92 ∨ c = 93 ∨ c = 94 ∨ c = 95 → (∀ q : Nat, (q : Int) < n → M c (8 * a + (q : Int)).toNat = M0 c (8 * b + (q : Int)).toNat) ∧ (∀ f : Nat, ¬ (8 * a ≤ (f : Int) ∧ (f : Int) < 8 * a + n) → M c f = M0 c f)
theorem CPr.zero {a b : Int} {M : cM} : CPr a b M 0 M := fun c _ => ⟨fun q hq => absurd hq (by omega), fun f _ => rfl⟩
theorem CPr.step {a b n : Int} {M0 M M1 : cM} (h : CPr a b M0 n M) (hne : a ≠ b) (h0 : 0 ≤ a ∧ 0 ≤ b) (hn : 0 ≤ n ∧ n < 8) (e92 : M1 92 (8 * a + n).toNat = M 92 (8 * b + n).toNat) (e93 : M1 93 (8 * a + n).toNat = M 93 (8 * b + n).toNat) (e94 : M1 94 (8 * a + n).toNat = M 94 (8 * b + n).toNat) (e95 : M1 95 (8 * a + n).toNat = M 95 (8 * b + n).toNat) (o92 : ∀ f, f ≠ (8 * a + n).toNat → M1 92 f = M 92 f) (o93 : ∀ f, f ≠ (8 * a + n).toNat → M1 93 f = M 93 f) (o94 : ∀ f, f ≠ (8 * a + n).toNat → M1 94 f = M 94 f) (o95 : ∀ f, f ≠ (8 * a + n).toNat → M1 95 f = M 95 f) : CPr a b M0 (n + 1) M1 := by
  intro c hc
  have key : M1 c (8 * a + n).toNat = M c (8 * b + n).toNat ∧ ∀ f, f ≠ (8 * a + n).toNat → M1 c f = M c f := by
    rcases hc with rfl | rfl | rfl | rfl
    · exact ⟨e92, o92⟩
    · exact ⟨e93, o93⟩
    · exact ⟨e94, o94⟩
    · exact ⟨e95, o95⟩
  refine ⟨fun q hq => ?_, fun f hf => ?_⟩
  · by_cases e : (q : Int) = n
    · rw [e]
      exact key.1.trans ((h c hc).2 _ (by omega))
    · exact (key.2 _ (by omega)).trans ((h c hc).1 q (by omega))
  · exact (key.2 f (by omega)).trans ((h c hc).2 f (by omega))
theorem CPr.then {a b n : Int} {M0 M M1 : cM} (h : CPr a b M0 n M) (hn : n = 8) (e : ∀ c, c = 92 ∨ c = 93 ∨ c = 94 ∨ c = 95 → ∀ f, M1 c f = M c f) : CPr a b M0 8 M1 := by
  subst hn
  intro c hc
  refine ⟨fun q hq => (e c hc _).trans ((h c hc).1 q hq), fun f hf => (e c hc f).trans ((h c hc).2 f hf)⟩
/-! what is given to the sum of carrying -/
section GIV
variable {D S M : cM} {t : Nat} {p c w : Int}
theorem gv6 {g : Nat → Int} (h0 : g 0 = w) (h1 : g 1 = D 7 c.toNat) (h2 : g 2 = D 6 p.toNat) (h3 : g 3 = D 8 c.toNat) (h4 : g 4 = S 4 p.toNat) (h5 : g 5 = if c = p then 1 else 0) : ∀ k : Int, -6 ≤ k → k ≤ -1 → g (-1 - k).toNat = gvn D S p c w k := fun k k0 k1 => by
  have hk : k = -1 ∨ k = -2 ∨ k = -3 ∨ k = -4 ∨ k = -5 ∨ k = -6 := by omega
  rcases hk with rfl | rfl | rfl | rfl | rfl | rfl
  · exact h0
  · exact h1
  · exact h2
  · exact h3
  · exact h4
  · exact h5
theorem pCy_r (hw : 1 ≤ w ∧ w ≤ 60) : 1 ≤ pCy D S p c w ∧ pCy D S p c w ≤ 1059 := by
  unfold pCy
  have := pEv_r (gvn D S p c w) (cdL D 11)
  split <;> omega
theorem cdL_len {j : Nat} (h : 0 ≤ D j 0 - 1) : ((cdL D j).length : Int) = D j 0 - 1 := by
  unfold cdL
  rw [List.length_map, List.length_range]
  omega
theorem cdL_at {j q : Nat} (h : (q : Int) < D j 0 - 1) : (cdL D j).getD q 0 = D j (q + 1) := by
  unfold cdL
  rw [List.getD_eq_getElem?_getD, List.getElem?_map, List.getElem?_range (by omega)]
  rfl
theorem TN.runb {cs : List Int} {g : Int → Int} (h : TN 38 cs.reverse) (hg : pBg g) : ∃ w, pBd w ∧ pXr 64 g cs [] = some [w] := by
  obtain ⟨v, h1, h2⟩ := h 64 g [] (by decide) hg
  rw [List.reverse_reverse] at h2
  exact ⟨v, h1, h2⟩
theorem gvn_b (h : DZ D) (hS : SW D S) (hp : 0 ≤ p ∧ p < D 0 1) (hc : 0 ≤ c ∧ c < D 0 1) (hw : 0 ≤ w ∧ w ≤ 1000) : pBg (gvn D S p c w) := fun i => by
  have h1 := h.1.2.2.2.2.1 p.toNat (by omega)
  have h2 := h.1.2.2.2.2.1 c.toNat (by omega)
  have h3 := (hS.at hp).2.2.2
  unfold gvn
  (repeat' split) <;> omega
theorem CR0.slow {T : List cK} (h : CR0 D S t M) (hI : Rng M) (hG : Gm T M) (ht : t = 8 ∨ t = 25) : (D 11 0 = 0 ↔ M (t + 11) 2 = 0) ∧ (M (t + 11) 2 ≠ 0 → M (t + 11) 2 = ((cdL D 11).length : Int) ∧ (∀ q : Nat, q < (cdL D 11).length → M (M (t + 11) 1).toNat q = (cdL D 11).getD q 0) ∧ TN 38 (cdL D 11).reverse) := by
  have e0 := h.2.2.2.2.2.1 0
  have hr := rgf_0_2 hI (fF_slow ht)
  obtain ⟨nn, hg, _⟩ := hG
  obtain ⟨s, hs, _, _, _, _, hs2⟩ := hg _ (fF_slow ht)
  have e1 : fCd M (t + 11) 0 = if M (t + 11) 2 = 0 then 0 else M (t + 11) 2 + 1 := rfl
  rw [e1] at e0
  have hz : D 11 0 = 0 ↔ M (t + 11) 2 = 0 := by
    split at e0 <;> omega
  refine ⟨hz, fun hne => ?_⟩
  rw [if_neg hne] at e0
  have hl : ((cdL D 11).length : Int) = M (t + 11) 2 := by
    rw [cdL_len (by omega)]
    omega
  refine ⟨hl.symm, fun q hq => ?_, (h.2.1.2.2 11 (Or.inl rfl)).2 (by omega)⟩
  rw [cdL_at (by omega), ← h.2.2.2.2.2.1 (q + 1)]
  have e2 : fCd M (t + 11) (q + 1) = if (((q + 1) - 1 : Nat) : Int) < M (t + 11) 2 then fRw M (t + 11) ((q + 1) - 1) else 0 := if_neg (Nat.succ_ne_zero q)
  rw [e2, Nat.add_sub_cancel, if_pos (by omega)]
  unfold fRw
  rw [if_pos (by rw [hs, Int.toNat_natCast]; omega)]
theorem RR0.gv (h : RR0 D S M) (hp : 0 ≤ p ∧ p < D 0 1) (hc : 0 ≤ c ∧ c < D 0 1) (e1 : M 63 62 = w) (e2 : M 63 63 = c) (e3 : M 63 64 = p) : GvY M (gvn D S p c w) := by
  refine ⟨e1.symm, ?_, ?_, ?_, ?_, ?_⟩
  · rw [h.wg (p := c) hc (by rw [e2])]
    rfl
  · rw [h.sg (p := p) hp (by rw [e3])]
    rfl
  · rw [h.wd (p := c) hc (by rw [e2])]
    rfl
  · rw [h.cl (p := p) hp (by rw [e3])]
    rfl
  · rw [e2, e3]
    show (if c = p then (1 : Int) else 0) = _
    by_cases z : p = c
    · rw [if_pos z, if_pos z.symm]
    · rw [if_neg z, if_neg (fun y => z y.symm)]
theorem RR0.slow (h : RR0 D S M) {b : Int} (hb : M 63 14 = b) : (D 11 0 = 0 ↔ M 75 b.toNat = -1) ∧ (D 11 0 ≠ 0 → 0 ≤ M 75 b.toNat ∧ M 76 b.toNat - M 75 b.toNat = ((cdL D 11).length : Int) ∧ (∀ q : Nat, q < (cdL D 11).length → kdc ((cdL D 11).getD q 0) (M 81 (1600 * M 63 14 + M 75 b.toNat + (q : Int)).toNat) (M 82 (1600 * M 63 14 + M 75 b.toNat + (q : Int)).toNat)) ∧ TN 38 (cdL D 11).reverse) := by
  subst hb
  have hx := h.2.2.2.2.2
  have hd := (h.2.1.2.2 11 (Or.inl rfl))
  have key : D 11 0 ≠ 0 → 0 ≤ M 75 (M 63 14).toNat ∧ M 76 (M 63 14).toNat - M 75 (M 63 14).toNat = ((cdL D 11).length : Int) ∧ (∀ q : Nat, q < (cdL D 11).length → kdc ((cdL D 11).getD q 0) (M 81 (1600 * M 63 14 + M 75 (M 63 14).toNat + (q : Int)).toNat) (M 82 (1600 * M 63 14 + M 75 (M 63 14).toNat + (q : Int)).toNat)) ∧ TN 38 (cdL D 11).reverse := fun hne => by
    have h1 := hx.1.1 hne
    have hl := cdL_len (D := D) (j := 11) (by omega)
    refine ⟨h1.1.1, by omega, fun q hq => ?_, hd.2 hne⟩
    rw [cdL_at (by omega)]
    exact h1.2 q (by omega)
  refine ⟨⟨hx.2, fun z => ?_⟩, key⟩
  by_cases g : D 11 0 = 0
  · exact g
  · have := (key g).1
    omega
/-- minutes: of a way, the last row of clocks -/
theorem pMi_r (hD : DZ D) (h : 0 < pWy D (S 0 p.toNat) w) : 1 ≤ pMi D S p w c ∧ pMi D S p w c ≤ 1059 := by
  have h2 : pWy D (S 0 p.toNat) w ≤ 60 := by
    unfold pWy
    split
    next g =>
      have h8 := hD.rg
      have := hD.2.1 (S 0 p.toNat * 8 + w).toNat (by omega)
      omega
    next => decide
  unfold pMi
  split
  · omega
  · exact pCy_r ⟨by omega, h2⟩
theorem pSp_4 {n : Int} : pSp S p n 4 p.toNat = if S 4 p.toNat + n < 99999 then S 4 p.toNat + n else 99999 := if_pos ⟨rfl, rfl⟩
theorem pSp_k {n : Int} {k f : Nat} (h : k ≠ 4) : pSp S p n k f = S k f := if_neg (by omega)
theorem pMv_4 {r : Int} : pMv D S p r c 4 p.toNat = if S 4 p.toNat + pMi D S p r c < 99999 then S 4 p.toNat + pMi D S p r c else 99999 := by
  rw [← pSp_4 (S := S)]
  unfold pMv pMw pM1 pSd
  generalize pSp S p (pMi D S p r c) = S1
  have uk : ∀ (E : cM) (x : Int) (g : Nat), pKp E x 4 g = E 4 g := fun E x g => pKp_k (by decide)
  have up : ∀ (E : cM) (k f g : Nat) (v : Int), k ≠ 4 → c_up E k f v 4 g = E 4 g := fun E k f g v hk => if_neg (by omega)
  (repeat' split) <;> simp only [uk, up _ _ _ _ _ (show (0 : Nat) ≠ 4 by decide), up _ _ _ _ _ (show (1 : Nat) ≠ 4 by decide), up _ _ _ _ _ (show (2 : Nat) ≠ 4 by decide), up _ _ _ _ _ (show (3 : Nat) ≠ 4 by decide)]
end GIV
/-! the scene, with what was carried -/
def CR (D S : cM) (t : Nat) (M : cM) : Prop := (∀ k f, k ≤ 10 → M (t + k) f = D k f) ∧ DZ D ∧ cRow (M 42) (D 0 1) S ∧ M 0 12 = S 3 0 ∧ SW D S ∧ CDC t D M ∧ KC (M 42) S
def RR (D S M : cM) : Prop := RSt (M 63 14) M D ∧ DZ D ∧ rRow M 0 (D 0 1) S ∧ M 63 60 = S 3 0 ∧ SW D S ∧ CDX (M 63 14) M D ∧ KX M 0 S
def rrf (F : List (Nat × Nat)) : Bool := rrfo F && ([97, 98, 99, 100, 101].all fun c => F.all fun p => p.1 != c)
theorem k5 {F : List (Nat × Nat)} (hs : ([97, 98, 99, 100, 101].all fun c => F.all fun p => p.1 != c) = true) {M M1 : cM} (g : Fr F M M1) : ∀ c, c = 97 ∨ c = 98 ∨ c = 99 ∨ c = 100 ∨ c = 101 → ∀ f, M1 c f = M c f := fun c hc f => g c f (nin (by omega) (List.all_eq_true.mp hs c (by simp; omega)) f)
section CRK
variable {D S S' M M1 : cM} {t f : Nat} {F : List (Nat × Nat)} {v p r x : Int}
theorem SW.s (h : SW D S) (e : ∀ k f, k ≤ 4 → S' k f = S k f) : SW D S' := fun p hp => by
  rw [e 0 p (by decide), e 1 p (by decide), e 2 p (by decide), e 4 p (by decide)]
  exact h p hp
theorem CR0.s (h : CR0 D S t M) (e : ∀ k f, k ≤ 4 → S' k f = S k f) : CR0 D S' t M := ⟨h.1, h.2.1, fun p hp => by
  rw [e 0 p (by decide), e 1 p (by decide), e 2 p (by decide), e 4 p (by decide)]
  exact h.2.2.1 p hp, h.2.2.2.1.trans (e 3 0 (by decide)).symm, h.2.2.2.2.1.s e, h.2.2.2.2.2⟩
theorem RR0.s (h : RR0 D S M) (e : ∀ k f, k ≤ 4 → S' k f = S k f) : RR0 D S' M := ⟨h.1, h.2.1, fun p hp => by
  rw [e 0 p (by decide), e 1 p (by decide), e 2 p (by decide), e 4 p (by decide)]
  exact h.2.2.1 p hp, h.2.2.2.1.trans (e 3 0 (by decide)).symm, h.2.2.2.2.1.s e, h.2.2.2.2.2⟩
theorem CR.o (h : CR D S t M) : CR0 D S t M := ⟨h.1, h.2.1, h.2.2.1, h.2.2.2.1, h.2.2.2.2.1, h.2.2.2.2.2.1⟩
theorem CR.k (h : CR D S t M) : KC (M 42) S := h.2.2.2.2.2.2
theorem CR0.k (h : CR0 D S t M) (k : KC (M 42) S) : CR D S t M := ⟨h.1, h.2.1, h.2.2.1, h.2.2.2.1, h.2.2.2.2.1, h.2.2.2.2.2, k⟩
theorem RR.o (h : RR D S M) : RR0 D S M := ⟨h.1, h.2.1, h.2.2.1, h.2.2.2.1, h.2.2.2.2.1, h.2.2.2.2.2.1⟩
theorem RR.k (h : RR D S M) : KX M 0 S := h.2.2.2.2.2.2
theorem RR0.k (h : RR0 D S M) (k : KX M 0 S) : RR D S M := ⟨h.1, h.2.1, h.2.2.1, h.2.2.2.1, h.2.2.2.2.1, h.2.2.2.2.2, k⟩
theorem CR.fr (h : CR D S t M) (g : Fr F M M1) (ht : t = 8 ∨ t = 25) (hs : crf F = true) : CR D S t M1 := (h.o.fr g ht hs).k (h.k.of fun q _ _ => by
  unfold crf at hs
  rw [Bool.and_eq_true, Bool.and_eq_true] at hs
  exact g 42 q (nin (by decide) hs.2 q))
theorem CR.up {k : Nat} (h : CR D S t M) (u : Up M k f v M1) (ht : t = 8 ∨ t = 25) (hk : k ≠ 42 ∧ ¬ (k = 0 ∧ f = 12) ∧ (k < 8 ∨ (41 < k ∧ k < 114))) : CR D S t M1 := (h.o.up u ht hk).k (h.k.of fun q _ _ => u.2 42 q (by omega))
theorem CR.u24 (h : CR D S t M) (u : Up M 42 f v M1) (ht : t = 8 ∨ t = 25) (hf : 32 ≤ f ∧ f < 40) : CR D S t M1 := (h.o.u24 u ht hf.1).k (h.k.of fun q _ _ => u.2 42 q (by omega))
theorem CR.u5 (h : CR D S t M) (u : Up M 42 f 0 M1) (ht : t = 8 ∨ t = 25) (hf : f = 40) : CR D (c_up S 5 0 0) t M1 := ((h.o.u24 u ht (by omega)).s (fun k f hk => if_neg (by omega))).k (KC.z (by subst hf; exact u.1) (if_pos ⟨rfl, rfl⟩))
theorem CR.u0 (h : CR D S t M) (u : Up M 42 f r M1) (ht : t = 8 ∨ t = 25) (hp : 0 ≤ p ∧ p < D 0 1) (hf : f = p.toNat) (hr : 0 ≤ r ∧ r < D 0 0) : CR D (c_up S 0 p.toNat r) t M1 := (h.o.u0 u ht hp hf hr).k ((h.k.of fun q _ _ => u.2 42 q (by have := h.2.1.1.2.2.2.1; omega)).s (if_neg (by omega)) (fun _ => if_neg (by omega)))
theorem CR.u1 (h : CR D S t M) (u : Up M 42 f r M1) (ht : t = 8 ∨ t = 25) (hp : 0 ≤ p ∧ p < D 0 1) (hf : f = 8 + p.toNat) (hr : 0 ≤ r ∧ r < D 0 0) : CR D (c_up S 1 p.toNat r) t M1 := (h.o.u1 u ht hp hf hr).k ((h.k.of fun q _ _ => u.2 42 q (by have := h.2.1.1.2.2.2.1; omega)).s (if_neg (by omega)) (fun _ => if_neg (by omega)))
theorem CR.u2 (h : CR D S t M) (u : Up M 42 f r M1) (ht : t = 8 ∨ t = 25) (hp : 0 ≤ p ∧ p < D 0 1) (hf : f = 16 + p.toNat) (hr : r = 0 ∨ r = 1) : CR D (c_up S 2 p.toNat r) t M1 := (h.o.u2 u ht hp hf hr).k ((h.k.of fun q _ _ => u.2 42 q (by have := h.2.1.1.2.2.2.1; omega)).s (if_neg (by omega)) (fun _ => if_neg (by omega)))
theorem CR.u4 (h : CR D S t M) (u : Up M 42 f r M1) (ht : t = 8 ∨ t = 25) (hp : 0 ≤ p ∧ p < D 0 1) (hf : f = 24 + p.toNat) (hr : 0 ≤ r ∧ r ≤ 99999) : CR D (c_up S 4 p.toNat r) t M1 := (h.o.u4 u ht hp hf hr).k ((h.k.of fun q _ _ => u.2 42 q (by have := h.2.1.1.2.2.2.1; omega)).s (if_neg (by omega)) (fun _ => if_neg (by omega)))
theorem CR.u3 (h : CR D S t M) (u : Up M 0 12 v M1) (ht : t = 8 ∨ t = 25) : CR D (c_up S 3 0 v) t M1 := (h.o.u3 u ht).k ((h.k.of fun q _ _ => u.2 42 q (by omega)).s (if_neg (by omega)) (fun _ => if_neg (by omega)))
theorem CR.rm (h : CR D S t M) (hp : 0 ≤ p ∧ p < D 0 1) (hf : f = p.toNat) : M 42 f = S 0 p.toNat := h.o.rm hp hf
theorem CR.ch (h : CR D S t M) (hp : 0 ≤ p ∧ p < D 0 1) (hf : f = 8 + p.toNat) : M 42 f = S 1 p.toNat := h.o.ch hp hf
theorem CR.br (h : CR D S t M) (hp : 0 ≤ p ∧ p < D 0 1) (hf : f = 16 + p.toNat) : M 42 f = S 2 p.toNat := h.o.br hp hf
theorem CR.cl (h : CR D S t M) (hp : 0 ≤ p ∧ p < D 0 1) (hf : f = 24 + p.toNat) : M 42 f = S 4 p.toNat := h.o.cl hp hf
/-- a chair is carried: written down -/
theorem CR.kp {c : Int} (h : CR D S t M) (ht : t = 8 ∨ t = 25) (hp : 0 ≤ c ∧ c < D 0 1) (hr : 0 ≤ r ∧ r < D 0 0) (hx : 0 ≤ x ∧ x < 542720) (e : ∀ a b : Nat, a ≠ 42 ∨ (b ≠ 8 + c.toNat ∧ b < 40) → M1 a b = M a b) (e1 : M1 42 (8 + c.toNat) = r) (e40 : M1 42 40 = if S 5 0 < 40 then S 5 0 + 1 else 40) (hA : S 5 0 < 40 → M1 42 (41 + (S 5 0).toNat) = x ∧ ∀ k : Nat, (k : Int) < S 5 0 → M1 42 (41 + k) = M 42 (41 + k)) (hB : ¬ S 5 0 < 40 → M1 42 80 = x ∧ ∀ k : Nat, k < 39 → M1 42 (41 + k) = M 42 (42 + k)) : CR D (pKp (c_up S 1 c.toNat r) x) t M1 := by
  have hn := h.2.1.1.2.2.2.1
  have h5 : c_up S 1 c.toNat r 5 0 = S 5 0 := if_neg (by omega)
  refine CR0.k (CR0.s (S := c_up S 1 c.toNat r) ⟨fun k f hk => (e (t + k) f (by omega)).trans (h.1 k f hk), h.2.1, fun q hq => ?_, ?_, h.2.2.2.2.1.u1 hr, h.2.2.2.2.2.1.of ht (fun k hk f => e k f (by omega))⟩ (fun k f hk => pKp_k (by omega))) ?_
  · have := h.2.2.1 q hq
    rw [e 42 q (by omega), e 42 (16 + q) (by omega), e 42 (24 + q) (by omega)]
    unfold c_up
    simp
    refine ⟨this.1, ?_, this.2.2⟩
    by_cases z : q = c.toNat
    · rw [if_pos z, z, e1]
    · rw [if_neg z, e 42 (8 + q) (by omega)]
      exact this.2.1
  · rw [e 0 12 (by omega)]
    exact h.2.2.2.1
  · have hk : KC (M 42) (c_up S 1 c.toNat r) := h.k.s h5 (fun _ => if_neg (by omega))
    exact hk.kp hx (by rw [h5]; exact e40) (by rw [h5]; exact hA) (by rw [h5]; exact hB)
theorem wy_p (h : CR D S t M) (a b : Int) : wy M t a b = pWy D a b := wy_po h.o a b
theorem nbC_p (h : CR D S t M) (a : Int) : ∀ n, nbC M t a n = pNb D a n := nbC_po h.o a
theorem CR.slow {T : List cK} (h : CR D S t M) (hI : Rng M) (hG : Gm T M) (ht : t = 8 ∨ t = 25) : (D 11 0 = 0 ↔ M (t + 11) 2 = 0) ∧ (M (t + 11) 2 ≠ 0 → M (t + 11) 2 = ((cdL D 11).length : Int) ∧ (∀ q : Nat, q < (cdL D 11).length → M (M (t + 11) 1).toNat q = (cdL D 11).getD q 0) ∧ TN 38 (cdL D 11).reverse) := h.o.slow hI hG ht
end CRK
section RRK
variable {D S M M1 : cM} {f : Nat} {F : List (Nat × Nat)} {v p r : Int}
theorem RR.fr (h : RR D S M) (g : Fr F M M1) (hs : rrf F = true) : RR D S M1 := by
  unfold rrf at hs
  rw [Bool.and_eq_true] at hs
  exact (h.o.fr g hs.1).k (h.k.all (k5 hs.2 g))
/-- many and codes of a slot are copied -/
def CPk (a b : Int) (M0 M : cM) : Prop := M 97 a.toNat = M0 97 b.toNat ∧ (∀ f, f ≠ a.toNat → M 97 f = M0 97 f) ∧ ∀ c, c = 98 ∨ c = 99 ∨ c = 100 ∨ c = 101 → (∀ k : Nat, (k : Int) < M0 97 b.toNat → M c (40 * a + (k : Int)).toNat = M0 c (40 * b + (k : Int)).toNat) ∧ ∀ f : Nat, ¬ (40 * a ≤ (f : Int) ∧ (f : Int) < 40 * a + 40) → M c f = M0 c f
theorem CPk.of {a b : Int} {M0 M2 : cM} (h : CPk a b M M1) (e0 : ∀ c, c = 97 ∨ c = 98 ∨ c = 99 ∨ c = 100 ∨ c = 101 → ∀ f, M c f = M0 c f) (e1 : ∀ c, c = 97 ∨ c = 98 ∨ c = 99 ∨ c = 100 ∨ c = 101 → ∀ f, M2 c f = M1 c f) : CPk a b M0 M2 := by
  refine ⟨(e1 97 (by decide) _).trans (h.1.trans (e0 97 (by decide) _)), fun f hf => (e1 97 (by decide) f).trans ((h.2.1 f hf).trans (e0 97 (by decide) f)), fun c hc => ⟨fun k hk => ?_, fun f hf => (e1 c (by omega) f).trans (((h.2.2 c hc).2 f hf).trans (e0 c (by omega) f))⟩⟩
  rw [← e0 97 (by decide)] at hk
  exact (e1 c (by omega) _).trans (((h.2.2 c hc).1 k hk).trans (e0 c (by omega) _))
def CPl (a b : Int) (M0 : cM) (x : Int) (M : cM) : Prop := ∀ c, c = 98 ∨ c = 99 ∨ c = 100 ∨ c = 101 → (∀ k : Nat, (k : Int) < x → M c (40 * a + (k : Int)).toNat = M0 c (40 * b + (k : Int)).toNat) ∧ ∀ f : Nat, ¬ (40 * a ≤ (f : Int) ∧ (f : Int) < 40 * a + 40) → M c f = M0 c f
theorem CPl.nx {a b x : Int} {M0 : cM} (h : CPl a b M0 x M) (hne : a ≠ b) (h0 : 0 ≤ a ∧ 0 ≤ b) (hx : 0 ≤ x ∧ x < 40) (e98 : M1 98 (40 * a + x).toNat = M 98 (40 * b + x).toNat) (e99 : M1 99 (40 * a + x).toNat = M 99 (40 * b + x).toNat) (e100 : M1 100 (40 * a + x).toNat = M 100 (40 * b + x).toNat) (e101 : M1 101 (40 * a + x).toNat = M 101 (40 * b + x).toNat) (o : ∀ c, c = 98 ∨ c = 99 ∨ c = 100 ∨ c = 101 → ∀ f, f ≠ (40 * a + x).toNat → M1 c f = M c f) : CPl a b M0 (x + 1) M1 := by
  intro c hc
  have key : M1 c (40 * a + x).toNat = M c (40 * b + x).toNat := by
    rcases hc with rfl | rfl | rfl | rfl
    · exact e98
    · exact e99
    · exact e100
    · exact e101
  have h2 := h c hc
  refine ⟨fun k hk => ?_, fun f hf => (o c hc f (by omega)).trans (h2.2 f hf)⟩
  by_cases e : (k : Int) = x
  · rw [e]
    exact key.trans (h2.2 _ (by omega))
  · exact (o c hc _ (by omega)).trans (h2.1 k (by omega))
/-- the rows shifted by one -/
def SHF (M0 : cM) (x : Int) (M : cM) : Prop := ∀ c, c = 98 ∨ c = 99 ∨ c = 100 ∨ c = 101 → ∀ q : Nat, ((q : Int) < x → M c q = M0 c (q + 1)) ∧ (x ≤ (q : Int) → M c q = M0 c q)
theorem SHF.nx {x : Int} {M0 : cM} (h : SHF M0 x M) (h0 : 0 ≤ x) (e98 : M1 98 x.toNat = M 98 (x.toNat + 1)) (e99 : M1 99 x.toNat = M 99 (x.toNat + 1)) (e100 : M1 100 x.toNat = M 100 (x.toNat + 1)) (e101 : M1 101 x.toNat = M 101 (x.toNat + 1)) (o : ∀ c, c = 98 ∨ c = 99 ∨ c = 100 ∨ c = 101 → ∀ f, f ≠ x.toNat → M1 c f = M c f) : SHF M0 (x + 1) M1 := by
  intro c hc q
  have key : M1 c x.toNat = M c (x.toNat + 1) := by
    rcases hc with rfl | rfl | rfl | rfl
    · exact e98
    · exact e99
    · exact e100
    · exact e101
  by_cases e : q = x.toNat
  · subst e
    exact ⟨fun _ => key.trans ((h c hc _).2 (by omega)), fun z => absurd z (by omega)⟩
  · rw [o c hc q e]
    exact ⟨fun z => (h c hc q).1 (by omega), fun z => (h c hc q).2 (by omega)⟩
theorem RR.cpy {a b : Int} (h : RR D S M) (g : Fr F M M1) (hs : rrf0 F = true) (h2 : ∀ x, x = 92 ∨ x = 93 ∨ x = 94 ∨ x = 95 → ∀ q : Nat, q < 8 → M1 x q = M x q) (hc : CPk a b M M1) (ha : 1 ≤ a) : RR D S M1 := (h.o.cpy g hs h2).k (h.k.of (hc.2.1 _ (by omega)) (fun c hx k _ _ => (hc.2.2 c hx).2 _ (by omega)))
theorem RR.up {k : Nat} (h : RR D S M) (u : Up M k f v M1) (hk : ¬ (k = 63 ∧ (f = 14 ∨ f = 60)) ∧ (k < 65 ∨ (85 ≤ k ∧ k ≠ 92 ∧ k ≠ 93 ∧ k ≠ 94 ∧ k ≠ 95 ∧ ¬ (97 ≤ k ∧ k ≤ 101)))) : RR D S M1 := (h.o.up u (by omega)).k (h.k.all fun c hc f => u.2 c f (by omega))
theorem RR.u97 (h : RR D S M) (u : Up M 97 f v M1) (hf : 1 ≤ f) : RR D S M1 := (h.o.up u (by omega)).k (h.k.of (u.2 97 _ (by omega)) (fun c hc k _ _ => u.2 c _ (by omega)))
theorem RR.u92 {k : Nat} (h : RR D S M) (hk : k = 92 ∨ k = 93 ∨ k = 94 ∨ k = 95) (u : Up M k f v M1) (hf : 8 ≤ f) : RR D S M1 := (h.o.u92 hk u hf).k (h.k.all fun c hc f => u.2 c f (by omega))
theorem RR.u0 (h : RR D S M) (u : Up M 92 f r M1) (hp : 0 ≤ p ∧ p < D 0 1) (hf : f = p.toNat) (hr : 0 ≤ r ∧ r < D 0 0) : RR D (c_up S 0 p.toNat r) M1 := (h.o.u0 u hp hf hr).k ((h.k.all fun c hc f => u.2 c f (by omega)).s (if_neg (by omega)) (fun _ => if_neg (by omega)))
theorem RR.u1 (h : RR D S M) (u : Up M 93 f r M1) (hp : 0 ≤ p ∧ p < D 0 1) (hf : f = p.toNat) (hr : 0 ≤ r ∧ r < D 0 0) : RR D (c_up S 1 p.toNat r) M1 := (h.o.u1 u hp hf hr).k ((h.k.all fun c hc f => u.2 c f (by omega)).s (if_neg (by omega)) (fun _ => if_neg (by omega)))
theorem RR.u2 (h : RR D S M) (u : Up M 94 f r M1) (hp : 0 ≤ p ∧ p < D 0 1) (hf : f = p.toNat) (hr : r = 0 ∨ r = 1) : RR D (c_up S 2 p.toNat r) M1 := (h.o.u2 u hp hf hr).k ((h.k.all fun c hc f => u.2 c f (by omega)).s (if_neg (by omega)) (fun _ => if_neg (by omega)))
theorem RR.u4 (h : RR D S M) (u : Up M 95 f r M1) (hp : 0 ≤ p ∧ p < D 0 1) (hf : f = p.toNat) (hr : 0 ≤ r ∧ r ≤ 99999) : RR D (c_up S 4 p.toNat r) M1 := (h.o.u4 u hp hf hr).k ((h.k.all fun c hc f => u.2 c f (by omega)).s (if_neg (by omega)) (fun _ => if_neg (by omega)))
theorem RR.u3 (h : RR D S M) (u : Up M 63 60 v M1) : RR D (c_up S 3 0 v) M1 := (h.o.u3 u).k ((h.k.all fun c hc f => u.2 c f (by omega)).s (if_neg (by omega)) (fun _ => if_neg (by omega)))
theorem RR.rm (h : RR D S M) (hp : 0 ≤ p ∧ p < D 0 1) (hf : f = p.toNat) : M 92 f = S 0 p.toNat := h.o.rm hp hf
theorem RR.ch (h : RR D S M) (hp : 0 ≤ p ∧ p < D 0 1) (hf : f = p.toNat) : M 93 f = S 1 p.toNat := h.o.ch hp hf
theorem RR.br (h : RR D S M) (hp : 0 ≤ p ∧ p < D 0 1) (hf : f = p.toNat) : M 94 f = S 2 p.toNat := h.o.br hp hf
theorem RR.cl (h : RR D S M) (hp : 0 ≤ p ∧ p < D 0 1) (hf : f = p.toNat) : M 95 f = S 4 p.toNat := h.o.cl hp hf
theorem RR.dr (h : RR D S M) (hp : 0 ≤ p ∧ p < D 0 0) (hf : f = (8 * M 63 14 + p).toNat) : M 66 f = D 2 p.toNat := h.o.dr hp hf
theorem RR.fl (h : RR D S M) (hp : 0 ≤ p ∧ p < D 0 0) (hf : f = (8 * M 63 14 + p).toNat) : M 67 f = D 3 p.toNat := h.o.fl hp hf
theorem RR.wg (h : RR D S M) (hp : 0 ≤ p ∧ p < D 0 1) (hf : f = (8 * M 63 14 + p).toNat) : M 71 f = D 7 p.toNat := h.o.wg hp hf
theorem RR.sg (h : RR D S M) (hp : 0 ≤ p ∧ p < D 0 1) (hf : f = (8 * M 63 14 + p).toNat) : M 70 f = D 6 p.toNat := h.o.sg hp hf
theorem RR.wd (h : RR D S M) (hp : 0 ≤ p ∧ p < D 0 1) (hf : f = (8 * M 63 14 + p).toNat) : M 72 f = D 8 p.toNat := h.o.wd hp hf
theorem RR.pt (h : RR D S M) (hp : 0 ≤ p ∧ p < D 0 1) (hf : f = (8 * M 63 14 + p).toNat) : M 74 f = D 9 p.toNat := h.o.pt hp hf
theorem RR.hm (h : RR D S M) (hp : 0 ≤ p ∧ p < D 0 1) (hf : f = (8 * M 63 14 + p).toNat) : M 73 f = D 10 p.toNat := h.o.hm hp hf
theorem RR.wy (h : RR D S M) {a b : Int} (ha : 0 ≤ a ∧ a < D 0 0) (hb : 0 ≤ b ∧ b < D 0 0) : wr M a b = pWy D a b := h.o.wy ha hb
theorem RR.gv {c w : Int} (h : RR D S M) (hp : 0 ≤ p ∧ p < D 0 1) (hc : 0 ≤ c ∧ c < D 0 1) (e1 : M 63 62 = w) (e2 : M 63 63 = c) (e3 : M 63 64 = p) : GvY M (gvn D S p c w) := h.o.gv hp hc e1 e2 e3
theorem RR.slow (h : RR D S M) {b : Int} (hb : M 63 14 = b) : (D 11 0 = 0 ↔ M 75 b.toNat = -1) ∧ (D 11 0 ≠ 0 → 0 ≤ M 75 b.toNat ∧ M 76 b.toNat - M 75 b.toNat = ((cdL D 11).length : Int) ∧ (∀ q : Nat, q < (cdL D 11).length → kdc ((cdL D 11).getD q 0) (M 81 (1600 * M 63 14 + M 75 b.toNat + (q : Int)).toNat) (M 82 (1600 * M 63 14 + M 75 b.toNat + (q : Int)).toNat)) ∧ TN 38 (cdL D 11).reverse) := h.o.slow hb
/-- written down by the reference -/
theorem RR0.kp {x : Int} (h : RR0 D S M1) (k : KX M1 0 (pKp S x)) : RR D (pKp S x) M1 := (h.s (fun k f hk => pKp_k (by omega))).k k
end RRK
/-! what can be undone, with what was carried -/
def CH (D : cM) (H : Nat → cM) (c : Int) (M : cM) : Prop := (M 44 2 = c ∧ 0 ≤ c ∧ c ≤ 20) ∧ ∀ k : Nat, (k : Int) < c → cRow (fun q => M 45 (81 * ((M 44 1 + 20 - (k : Int)) % 20).toNat + q)) (D 0 1) (H k) ∧ SW D (H k) ∧ KC (fun q => M 45 (81 * ((M 44 1 + 20 - (k : Int)) % 20).toNat + q)) (H k)
def RH (D : cM) (H : Nat → cM) (c : Int) (M : cM) : Prop := (M 63 59 = c ∧ 0 ≤ c ∧ c ≤ 20) ∧ ∀ k : Nat, (k : Int) < c → rRow M (2 + (M 63 58 + c - 1 - (k : Int)) % 20) (D 0 1) (H k) ∧ SW D (H k) ∧ KX M (2 + (M 63 58 + c - 1 - (k : Int)) % 20) (H k)
def rhf (F : List (Nat × Nat)) : Bool := rhfo F && ([97, 98, 99, 100, 101].all fun c => F.all fun p => p.1 != c)
section HIK
variable {D S M M1 : cM} {H : Nat → cM} {c v : Int} {f : Nat} {F : List (Nat × Nat)}
theorem CH.o (h : CH D H c M) : CH0 D H c M := ⟨h.1, fun k hk => ⟨(h.2 k hk).1, (h.2 k hk).2.1⟩⟩
theorem RH.o (h : RH D H c M) : RH0 D H c M := ⟨h.1, fun k hk => ⟨(h.2 k hk).1, (h.2 k hk).2.1⟩⟩
theorem CH0.k (h : CH0 D H c M) (k : ∀ k : Nat, (k : Int) < c → KC (fun q => M 45 (81 * ((M 44 1 + 20 - (k : Int)) % 20).toNat + q)) (H k)) : CH D H c M := ⟨h.1, fun j hj => ⟨(h.2 j hj).1, (h.2 j hj).2, k j hj⟩⟩
theorem RH0.k (h : RH0 D H c M) (k : ∀ k : Nat, (k : Int) < c → KX M (2 + (M 63 58 + c - 1 - (k : Int)) % 20) (H k)) : RH D H c M := ⟨h.1, fun j hj => ⟨(h.2 j hj).1, (h.2 j hj).2, k j hj⟩⟩
theorem CH.same (h : CH D H c M) (h0 : CH0 D H c M1) (e1 : M1 44 1 = M 44 1) (e : ∀ f, M1 45 f = M 45 f) : CH D H c M1 := h0.k fun k hk => (h.2 k hk).2.2.of fun q _ _ => by
  show M1 45 _ = M 45 _
  rw [e1, e]
theorem CH.fr (h : CH D H c M) (g : Fr F M M1) (hs : chf F = true) : CH D H c M1 := by
  have hq := hs
  unfold chf at hq
  rw [Bool.and_eq_true, Bool.and_eq_true] at hq
  exact h.same (h.o.fr g hs) (g 44 1 (by simpa using hq.1.1)) (fun f => g 45 f (nin (by decide) hq.2 f))
theorem CH.up {k : Nat} (h : CH D H c M) (u : Up M k f v M1) (hk : k ≠ 45 ∧ ¬ (k = 44 ∧ (f = 1 ∨ f = 2))) : CH D H c M1 := h.same (h.o.up u hk) (u.2 44 1 (by omega)) (fun f => u.2 45 f (by omega))
theorem CH.push (h : CH D H c M) (hS : SW D S) (hr : cRow (M 42) (D 0 1) S) (hK : KC (M 42) S) (hD : DW D) (h1 : 0 ≤ M 44 1 ∧ M 44 1 ≤ 19) {n : Int} (hn : n = (M 44 1 + 1) % 20) (e1 : M1 44 1 = n) (e2 : M1 44 2 = pC1 c) (e3 : ∀ q : Nat, q < 81 → M1 45 (81 * n.toNat + q) = M 42 q) (e4 : ∀ f : Nat, ¬ (81 * n.toNat ≤ f ∧ f < 81 * n.toNat + 81) → M1 45 f = M 45 f) : CH D (pPh S H) (pC1 c) M1 := (h.o.push hS hr hD h1 hn e1 e2 e3 e4).k fun k hk => by
  have hc := h.1
  rw [e1]
  cases k with
  | zero =>
    refine hK.of (fun q _ q2 => ?_)
    rw [show ((n + 20 - (((0 : Nat) : Nat) : Int)) % 20).toNat = n.toNat by omega]
    exact e3 q q2
  | succ k =>
    have hk2 : (k : Int) < c ∧ k < 19 := by unfold pC1 at hk; split at hk <;> omega
    refine (h.2 k hk2.1).2.2.of (fun q _ _ => ?_)
    have e5 : ((n + 20 - ((k + 1 : Nat) : Int)) % 20).toNat = ((M 44 1 + 20 - (k : Int)) % 20).toNat := by omega
    rw [e5]
    exact e4 _ (by omega)
theorem CH.pop (h : CH D H c M) (hc : 0 < c) (h1 : 0 ≤ M 44 1 ∧ M 44 1 ≤ 19) (e1 : M1 44 1 = (M 44 1 + 19) % 20) (e2 : M1 44 2 = c - 1) (e3 : ∀ f, M1 45 f = M 45 f) : CH D (fun k => H (k + 1)) (c - 1) M1 := (h.o.pop hc h1 e1 e2 e3).k fun k hk => by
  have hcc := h.1
  refine (h.2 (k + 1) (by omega)).2.2.of (fun q _ _ => ?_)
  have e5 : (((M 44 1 + 19) % 20 + 20 - (k : Int)) % 20).toNat = ((M 44 1 + 20 - ((k + 1 : Nat) : Int)) % 20).toNat := by omega
  show M1 45 _ = M 45 _
  rw [e1, e3, e5]
theorem pUn_k {S1 : cM} {k f : Nat} (h : k ≠ 3) : pUn S S1 k f = S1 k f := by
  unfold pUn c_up
  exact if_neg (by omega)
theorem CR.pop {t : Nat} (h : CR D S t M) (hh : CH D H c M) (ht : t = 8 ∨ t = 25) (hc : 0 < c) (h1 : 0 ≤ M 44 1 ∧ M 44 1 ≤ 19) (e3 : ∀ q : Nat, q < 81 → M1 42 q = M 45 (81 * (M 44 1).toNat + q)) (e4 : M1 0 12 = M 0 12) (e5 : ∀ k, (8 ≤ k ∧ k < 42) ∨ 114 ≤ k → ∀ f, M1 k f = M k f) : CR D (pUn S (H 0)) t M1 := (h.o.pop hh.o ht hc h1 e3 e4 e5).k (((hh.2 0 (by omega)).2.2.of (fun q _ q2 => by
  show M1 42 q = M 45 _
  rw [e3 q q2, show ((M 44 1 + 20 - ((0 : Nat) : Int)) % 20).toNat = (M 44 1).toNat by omega])).s (pUn_k (by decide)) (fun _ => pUn_k (by decide)))
theorem RH.fr (h : RH D H c M) (hD : DW D) (g : Fr F M M1) (hs : rhf F = true) : RH D H c M1 := by
  unfold rhf at hs
  rw [Bool.and_eq_true] at hs
  have hq := hs.1
  unfold rhfo at hq
  rw [Bool.and_eq_true, Bool.and_eq_true] at hq
  refine (h.o.fr hD g hs.1).k fun k hk => ?_
  rw [g 63 58 (by simpa using hq.1.1)]
  exact (h.2 k hk).2.2.all (k5 hs.2 g)
theorem RH.up {k : Nat} (h : RH D H c M) (hD : DW D) (u : Up M k f v M1) (hk : (¬ (k = 63 ∧ (f = 58 ∨ f = 59)) ∧ ((k ≠ 92 ∧ k ≠ 93 ∧ k ≠ 94 ∧ k ≠ 95) ∨ f < 16)) ∧ (k ≠ 97 ∨ f < 2) ∧ ((k ≠ 98 ∧ k ≠ 99 ∧ k ≠ 100 ∧ k ≠ 101) ∨ f < 80)) : RH D H c M1 := (h.o.up hD u hk.1).k fun k hk => by
  have hr := h.1
  rw [u.2 63 58 (by omega)]
  exact (h.2 k hk).2.2.of (u.2 97 _ (by omega)) (fun c hc j _ _ => u.2 c _ (by omega))
theorem RH.push (h : RH D H c M) (hS : SW D S) (hr : rRow M 0 (D 0 1) S) (hK : KX M 0 S) (hD : DW D) (h1 : 0 ≤ M 63 58 ∧ M 63 58 ≤ 19) (e1 : (c = 20 ∧ M1 63 58 = (M 63 58 + 1) % 20) ∨ (c ≠ 20 ∧ M1 63 58 = M 63 58)) (e2 : M1 63 59 = pC1 c) {k0 : Int} (hk0 : k0 = 2 + (M1 63 58 + pC1 c - 1) % 20) (e3 : ∀ x, x = 92 ∨ x = 93 ∨ x = 94 ∨ x = 95 → ∀ p : Nat, p < 8 → M1 x (8 * k0 + (p : Int)).toNat = M x p) (e4 : ∀ x, x = 92 ∨ x = 93 ∨ x = 94 ∨ x = 95 → ∀ k : Int, 0 ≤ k → k ≠ k0 → ∀ p : Nat, p < 8 → M1 x (8 * k + (p : Int)).toNat = M x (8 * k + (p : Int)).toNat) (hc : CPk k0 0 M M1) : RH D (pPh S H) (pC1 c) M1 := (h.o.push hS hr hD h1 e1 e2 hk0 e3 e4).k fun k hk => by
  have hcc := h.1
  have hc2 : (c = 20 ∧ pC1 c = 20) ∨ (c ≠ 20 ∧ pC1 c = c + 1) := by unfold pC1; split <;> omega
  cases k with
  | zero =>
    rw [show 2 + (M1 63 58 + pC1 c - 1 - ((0 : Nat) : Int)) % 20 = k0 by omega]
    exact hK.of hc.1 (fun x hx j hj _ => (hc.2.2 x hx).1 j hj)
  | succ k =>
    have h2 := (h.2 k (by omega)).2.2
    have e5 : 2 + (M1 63 58 + pC1 c - 1 - ((k + 1 : Nat) : Int)) % 20 = 2 + (M 63 58 + c - 1 - (k : Int)) % 20 := by omega
    rw [e5]
    exact h2.of (hc.2.1 _ (by omega)) (fun x hx j _ _ => (hc.2.2 x hx).2 _ (by omega))
theorem RH.pop (h : RH D H c M) (hD : DW D) (hc : 0 < c) (e1 : M1 63 58 = M 63 58) (e2 : M1 63 59 = c - 1) (e4 : ∀ x, x = 92 ∨ x = 93 ∨ x = 94 ∨ x = 95 → ∀ f, 16 ≤ f → M1 x f = M x f) {k0 : Int} (hk : CPk 0 k0 M M1) : RH D (fun k => H (k + 1)) (c - 1) M1 := (h.o.pop hD hc e1 e2 e4).k fun k hk2 => by
  have hcc := h.1
  have h2 := (h.2 (k + 1) (by omega)).2.2
  rw [e1, show 2 + (M 63 58 + (c - 1) - 1 - (k : Int)) % 20 = 2 + (M 63 58 + c - 1 - ((k + 1 : Nat) : Int)) % 20 by omega]
  exact h2.of (hk.2.1 _ (by omega)) (fun x hx j _ _ => (hk.2.2 x hx).2 _ (by omega))
theorem RR.pop (h : RR D S M) (hh : RH D H c M) (hc : 0 < c) {k0 : Int} (hk0 : k0 = 2 + (M 63 58 + c - 1) % 20) (e3 : ∀ x, x = 92 ∨ x = 93 ∨ x = 94 ∨ x = 95 → ∀ p : Nat, p < 8 → M1 x p = M x (8 * k0 + (p : Int)).toNat) (e4 : M1 63 60 = M 63 60 ∧ M1 63 14 = M 63 14) (e5 : ∀ k, k ∈ [65, 66, 67, 68, 69, 70, 71, 72, 73, 74, 79, 80, 83, 84, 75, 76, 77, 78, 81, 82] → ∀ f, M1 k f = M k f) (hk : CPk 0 k0 M M1) : RR D (pUn S (H 0)) M1 := (h.o.pop hh.o hc hk0 e3 e4 e5).k (((hh.2 0 (by omega)).2.2.of (i' := 0) (by
  rw [show 2 + (M 63 58 + c - 1 - ((0 : Nat) : Int)) % 20 = k0 by omega]
  exact hk.1) (fun x hx j hj _ => by
  rw [show 2 + (M 63 58 + c - 1 - ((0 : Nat) : Int)) % 20 = k0 by omega] at hj ⊢
  exact (hk.2.2 x hx).1 j hj)).s (pUn_k (by decide)) (fun _ => pUn_k (by decide)))
theorem CH.zero (h : M 44 2 = 0) : CH D H 0 M := ⟨⟨h, by decide, by decide⟩, fun k hk => by omega⟩
theorem RH.zero (h : M 63 59 = 0) : RH D H 0 M := ⟨⟨h, by decide, by decide⟩, fun k hk => by omega⟩
theorem RH.hi (h : RH D H c M) (hD : DW D) (e1 : M1 63 58 = M 63 58) (e2 : M1 63 59 = M 63 59) (e4 : ∀ x, x = 92 ∨ x = 93 ∨ x = 94 ∨ x = 95 → ∀ f, 16 ≤ f → M1 x f = M x f) (e5 : ∀ f, 2 ≤ f → M1 97 f = M 97 f) (e6 : ∀ x, x = 98 ∨ x = 99 ∨ x = 100 ∨ x = 101 → ∀ f, 80 ≤ f → M1 x f = M x f) : RH D H c M1 := by
  have hr := h.1
  unfold RH
  rw [e1, e2]
  exact ⟨h.1, fun k hk => ⟨(h.2 k hk).1.of hD.2.2.2.1 (fun x hx p hp => e4 x hx _ (by omega)), (h.2 k hk).2.1, (h.2 k hk).2.2.of (e5 _ (by omega)) (fun x hx j _ _ => e6 x hx _ (by omega))⟩⟩
end HIK
