/-! errands: the least of all ways, the first of them (-1: none); step by step from the end the same -/
def pPl (a b : Int) : Int := if b = -1 then -1 else a + b
def pFm (f : Nat → Int) : Nat → Int × Int
  | 0 => (-1, -1)
  | n + 1 => if f n ≠ -1 ∧ ((pFm f n).1 = -1 ∨ f n < (pFm f n).1) then (f n, (n : Int)) else pFm f n
def pAk (S : cM) (s : Nat → Int) (p : Int) (k : Nat) : Int := if k = 0 then S 0 p.toNat else s (2 * k - 2)
def pWk (D S : cM) (s : Nat → Int) (p : Int) (k : Nat) : Int := pWy D (pAk S s p k) (s (2 * k))
/-- behind a way one may be where his chair is -/
abbrev pOa (D S : cM) (s : Nat → Int) (p : Int) (k : Nat) (cr : Int) : Prop := s (2 * k + 1) = 1 → pSi D S p (s (2 * k)) cr = 1
/-- the chair can come along -/
abbrev pOw (D S : cM) (s : Nat → Int) (p : Int) (k : Nat) (cr : Int) : Prop := cr = pAk S s p k ∧ S 2 p.toNat = 0 ∧ pAd D S (s (2 * k)) p = 1 ∧ pOa D S s p k (s (2 * k))
/-- m ways from the k-th on, the chair in cr; which are gone with it: x's bits -/
def pEr (D S : cM) (s : Nat → Int) (p : Int) : Nat → Nat → Int → Nat → Int
  | 0, _, _, _ => 0
  | m + 1, k, cr, x => if 2 ^ m ≤ x then (if pOw D S s p k cr then pPl (pCy D S p p (pWk D S s p k)) (pEr D S s p m (k + 1) (s (2 * k)) (x - 2 ^ m)) else -1) else (if pOa D S s p k cr then pPl (pWk D S s p k) (pEr D S s p m (k + 1) cr x) else -1)
/-- from the end -/
def pVa (D S : cM) (s : Nat → Int) (p : Int) (k : Nat) (cr v : Int) : Int := if pOa D S s p k cr then pPl (pWk D S s p k) v else -1
def pVw (D S : cM) (s : Nat → Int) (p : Int) (k : Nat) (cr v : Int) : Int := if pOw D S s p k cr then pPl (pCy D S p p (pWk D S s p k)) v else -1
def pLs (a b : Int) : Int := if a ≠ -1 ∧ (b = -1 ∨ a ≤ b) then a else b
def pVb (D S : cM) (s : Nat → Int) (p : Int) : Nat → Nat → Int → Int
  | 0, _, _ => 0
  | m + 1, k, cr => pLs (pVa D S s p k cr (pVb D S s p m (k + 1) cr)) (pVw D S s p k cr (pVb D S s p m (k + 1) (s (2 * k))))
/-- which ways with the chair -/
def pXb (D S : cM) (s : Nat → Int) (p : Int) : Nat → Nat → Int → Int
  | 0, _, _ => 0
  | m + 1, k, cr => if pVa D S s p k cr (pVb D S s p m (k + 1) cr) ≠ -1 ∧ (pVw D S s p k cr (pVb D S s p m (k + 1) (s (2 * k))) = -1 ∨ pVa D S s p k cr (pVb D S s p m (k + 1) cr) ≤ pVw D S s p k cr (pVb D S s p m (k + 1) (s (2 * k)))) then pXb D S s p m (k + 1) cr else 2 ^ m + pXb D S s p m (k + 1) (s (2 * k))
section ERR
variable {f g : Nat → Int} {c : Int} {N : Nat}
theorem pFm_eq : ∀ n, (∀ i, i < n → f i = g i) → pFm f n = pFm g n
  | 0, _ => rfl
  | n + 1, h => by
    have h1 := pFm_eq n (fun i hi => h i (by omega))
    have h2 := h n (by omega)
    unfold pFm
    rw [h1, h2]
theorem pFm_none : ∀ n, (∀ i, i < n → f i = -1) → pFm f n = (-1, -1)
  | 0, _ => rfl
  | n + 1, h => by
    unfold pFm
    rw [if_neg (fun z => z.1 (h n (by omega)))]
    exact pFm_none n (fun i hi => h i (by omega))
theorem pFm_1 (h : ∀ i, f i = -1 ∨ 0 ≤ f i) : ∀ n, ((pFm f n).1 = -1 ∧ (pFm f n).2 = -1) ∨ (0 ≤ (pFm f n).1 ∧ 0 ≤ (pFm f n).2)
  | 0 => Or.inl ⟨rfl, rfl⟩
  | n + 1 => by
    have h1 := pFm_1 h n
    have h2 := h n
    unfold pFm
    split
    next z =>
      refine Or.inr ⟨?_, ?_⟩
      · show 0 ≤ f n
        omega
      · show 0 ≤ (n : Int)
        omega
    next => exact h1
/-- with the same minutes ahead -/
theorem pFm_pl (hc : 0 ≤ c) (h : ∀ i, g i = -1 ∨ 0 ≤ g i) : ∀ n, pFm (fun i => pPl c (g i)) n = (pPl c (pFm g n).1, (pFm g n).2)
  | 0 => rfl
  | n + 1 => by
    have h1 := pFm_pl hc h n
    have h2 := pFm_1 h n
    have h3 := h n
    show (if pPl c (g n) ≠ -1 ∧ ((pFm (fun i => pPl c (g i)) n).1 = -1 ∨ pPl c (g n) < (pFm (fun i => pPl c (g i)) n).1) then (pPl c (g n), (n : Int)) else pFm (fun i => pPl c (g i)) n) = _
    rw [h1]
    show (if pPl c (g n) ≠ -1 ∧ (pPl c (pFm g n).1 = -1 ∨ pPl c (g n) < pPl c (pFm g n).1) then (pPl c (g n), (n : Int)) else (pPl c (pFm g n).1, (pFm g n).2)) = (pPl c (pFm g (n + 1)).1, (pFm g (n + 1)).2)
    have e : pFm g (n + 1) = if g n ≠ -1 ∧ ((pFm g n).1 = -1 ∨ g n < (pFm g n).1) then (g n, (n : Int)) else pFm g n := rfl
    rw [e]
    have key : (pPl c (g n) ≠ -1 ∧ (pPl c (pFm g n).1 = -1 ∨ pPl c (g n) < pPl c (pFm g n).1)) ↔ (g n ≠ -1 ∧ ((pFm g n).1 = -1 ∨ g n < (pFm g n).1)) := by
      unfold pPl
      (repeat' split) <;> omega
    by_cases z : g n ≠ -1 ∧ ((pFm g n).1 = -1 ∨ g n < (pFm g n).1)
    · rw [if_pos (key.mpr z), if_pos z]
    · rw [if_neg (fun y => z (key.mp y)), if_neg z]
/-- two halves -/
theorem pFm_add (h : ∀ i, f i = -1 ∨ 0 ≤ f i) : ∀ K, pFm f (N + K) = if (pFm f N).1 ≠ -1 ∧ ((pFm (fun i => f (N + i)) K).1 = -1 ∨ (pFm f N).1 ≤ (pFm (fun i => f (N + i)) K).1) then pFm f N else if (pFm (fun i => f (N + i)) K).1 = -1 then pFm f N else ((pFm (fun i => f (N + i)) K).1, (N : Int) + (pFm (fun i => f (N + i)) K).2)
  | 0 => by
    show pFm f N = _
    have e : pFm (fun i => f (N + i)) 0 = (-1, -1) := rfl
    rw [e]
    split
    · rfl
    · rw [if_pos rfl]
  | K + 1 => by
    have h1 := pFm_add h K
    have h2 := pFm_1 h N
    have h3 := pFm_1 (f := fun i => f (N + i)) (fun i => h (N + i)) K
    have h4 := h (N + K)
    have e1 : pFm f (N + (K + 1)) = if f (N + K) ≠ -1 ∧ ((pFm f (N + K)).1 = -1 ∨ f (N + K) < (pFm f (N + K)).1) then (f (N + K), ((N + K : Nat) : Int)) else pFm f (N + K) := rfl
    have e2 : pFm (fun i => f (N + i)) (K + 1) = if f (N + K) ≠ -1 ∧ ((pFm (fun i => f (N + i)) K).1 = -1 ∨ f (N + K) < (pFm (fun i => f (N + i)) K).1) then (f (N + K), (K : Int)) else pFm (fun i => f (N + i)) K := rfl
    rw [e1, e2, h1]
    generalize pFm (fun i => f (N + i)) K = r at h3 ⊢
    generalize pFm f N = q at h2 ⊢
    generalize f (N + K) = y at h4 ⊢
    obtain ⟨r1, r2⟩ := r
    obtain ⟨q1, q2⟩ := q
    dsimp only at h2 h3 ⊢
    (repeat' split) <;> (try dsimp only at *) <;> first | rfl | (exfalso; omega) | (refine Prod.ext ?_ ?_ <;> (dsimp only; omega))
end ERR
section ERQ
variable {D S : cM} {s : Nat → Int} {p : Int}
theorem pWy_nn (hD : DZ D) (a b : Int) : 0 ≤ pWy D a b := by
  unfold pWy
  split
  next g =>
    have h8 := hD.rg
    exact (hD.2.1 _ (by omega)).1
  next => exact Int.le_refl _
theorem pCy_nn {c w : Int} (hw : 0 ≤ w) : 0 ≤ pCy D S p c w := by
  unfold pCy
  have := pEv_r (gvn D S p c w) (cdL D 11)
  split <;> omega
theorem pPl_nn {a b : Int} (ha : 0 ≤ a) (hb : b = -1 ∨ 0 ≤ b) : pPl a b = -1 ∨ 0 ≤ pPl a b := by
  unfold pPl
  split <;> omega
theorem pEr_nn (hD : DZ D) : ∀ (m k : Nat) (cr : Int) (x : Nat), pEr D S s p m k cr x = -1 ∨ 0 ≤ pEr D S s p m k cr x
  | 0, _, _, _ => Or.inr (Int.le_refl _)
  | m + 1, k, cr, x => by
    unfold pEr
    split
    · split
      · exact pPl_nn (pCy_nn (pWy_nn hD _ _)) (pEr_nn hD m _ _ _)
      · exact Or.inl rfl
    · split
      · exact pPl_nn (pWy_nn hD _ _) (pEr_nn hD m _ _ _)
      · exact Or.inl rfl
/-- the least of all ways, and the first of them, step by step from the end -/
theorem pEr_min (hD : DZ D) : ∀ (m k : Nat) (cr : Int), pFm (pEr D S s p m k cr) (2 ^ m) = (pVb D S s p m k cr, if pVb D S s p m k cr = -1 then -1 else pXb D S s p m k cr)
  | 0, _, _ => rfl
  | m + 1, k, cr => by
    have nn := pEr_nn (S := S) (s := s) (p := p) hD
    have h1 : pFm (pEr D S s p (m + 1) k cr) (2 ^ m) = (pVa D S s p k cr (pVb D S s p m (k + 1) cr), if pVa D S s p k cr (pVb D S s p m (k + 1) cr) = -1 then -1 else pXb D S s p m (k + 1) cr) := by
      by_cases z : pOa D S s p k cr
      · have e : pFm (pEr D S s p (m + 1) k cr) (2 ^ m) = pFm (fun i => pPl (pWk D S s p k) (pEr D S s p m (k + 1) cr i)) (2 ^ m) := pFm_eq _ fun i hi => by
          show (if 2 ^ m ≤ i then _ else _) = _
          rw [if_neg (by omega), if_pos z]
        have e2 : pVa D S s p k cr (pVb D S s p m (k + 1) cr) = pPl (pWk D S s p k) (pVb D S s p m (k + 1) cr) := if_pos z
        have h0 : 0 ≤ pWk D S s p k := pWy_nn hD _ _
        rw [e, pFm_pl h0 (nn m (k + 1) cr), pEr_min hD m (k + 1) cr, e2]
        have h3 := pFm_1 (nn m (k + 1) cr) (2 ^ m)
        rw [pEr_min hD m (k + 1) cr] at h3
        dsimp only at h3 ⊢
        refine Prod.ext rfl ?_
        dsimp only
        unfold pPl
        by_cases y : pVb D S s p m (k + 1) cr = -1
        · rw [if_pos y, if_pos y, if_pos rfl]
        · rw [if_neg y, if_neg y, if_neg (by omega)]
      · have e : pFm (pEr D S s p (m + 1) k cr) (2 ^ m) = (-1, -1) := pFm_none _ fun i hi => by
          show (if 2 ^ m ≤ i then _ else _) = _
          rw [if_neg (by omega), if_neg z]
        have e2 : pVa D S s p k cr (pVb D S s p m (k + 1) cr) = -1 := if_neg z
        rw [e, e2, if_pos rfl]
    have h2 : pFm (fun i => pEr D S s p (m + 1) k cr (2 ^ m + i)) (2 ^ m) = (pVw D S s p k cr (pVb D S s p m (k + 1) (s (2 * k))), if pVw D S s p k cr (pVb D S s p m (k + 1) (s (2 * k))) = -1 then -1 else pXb D S s p m (k + 1) (s (2 * k))) := by
      by_cases z : pOw D S s p k cr
      · have e : pFm (fun i => pEr D S s p (m + 1) k cr (2 ^ m + i)) (2 ^ m) = pFm (fun i => pPl (pCy D S p p (pWk D S s p k)) (pEr D S s p m (k + 1) (s (2 * k)) i)) (2 ^ m) := pFm_eq _ fun i hi => by
          show (if 2 ^ m ≤ 2 ^ m + i then _ else _) = _
          rw [if_pos (by omega), if_pos z, Nat.add_sub_cancel_left]
        have e2 : pVw D S s p k cr (pVb D S s p m (k + 1) (s (2 * k))) = pPl (pCy D S p p (pWk D S s p k)) (pVb D S s p m (k + 1) (s (2 * k))) := if_pos z
        have h0 : 0 ≤ pCy D S p p (pWk D S s p k) := pCy_nn (pWy_nn hD _ _)
        rw [e, pFm_pl h0 (nn m (k + 1) (s (2 * k))), pEr_min hD m (k + 1) (s (2 * k)), e2]
        have h3 := pFm_1 (nn m (k + 1) (s (2 * k))) (2 ^ m)
        rw [pEr_min hD m (k + 1) (s (2 * k))] at h3
        dsimp only at h3 ⊢
        refine Prod.ext rfl ?_
        dsimp only
        unfold pPl
        by_cases y : pVb D S s p m (k + 1) (s (2 * k)) = -1
        · rw [if_pos y, if_pos y, if_pos rfl]
        · rw [if_neg y, if_neg y, if_neg (by omega)]
      · have e : pFm (fun i => pEr D S s p (m + 1) k cr (2 ^ m + i)) (2 ^ m) = (-1, -1) := pFm_none _ fun i hi => by
          show (if 2 ^ m ≤ 2 ^ m + i then _ else _) = _
          rw [if_pos (by omega), if_neg z]
        have e2 : pVw D S s p k cr (pVb D S s p m (k + 1) (s (2 * k))) = -1 := if_neg z
        rw [e, e2, if_pos rfl]
    have n1 := pFm_1 (nn (m + 1) k cr) (2 ^ m)
    rw [h1] at n1
    have n2 := pFm_1 (f := fun i => pEr D S s p (m + 1) k cr (2 ^ m + i)) (fun i => nn (m + 1) k cr _) (2 ^ m)
    rw [h2] at n2
    dsimp only at n1 n2
    have e : (2 : Nat) ^ (m + 1) = 2 ^ m + 2 ^ m := by rw [Nat.pow_succ]; omega
    rw [e, pFm_add (nn (m + 1) k cr), h1, h2]
    show _ = (pLs (pVa D S s p k cr (pVb D S s p m (k + 1) cr)) (pVw D S s p k cr (pVb D S s p m (k + 1) (s (2 * k)))), if pLs (pVa D S s p k cr (pVb D S s p m (k + 1) cr)) (pVw D S s p k cr (pVb D S s p m (k + 1) (s (2 * k)))) = -1 then -1 else if pVa D S s p k cr (pVb D S s p m (k + 1) cr) ≠ -1 ∧ (pVw D S s p k cr (pVb D S s p m (k + 1) (s (2 * k))) = -1 ∨ pVa D S s p k cr (pVb D S s p m (k + 1) cr) ≤ pVw D S s p k cr (pVb D S s p m (k + 1) (s (2 * k)))) then pXb D S s p m (k + 1) cr else 2 ^ m + pXb D S s p m (k + 1) (s (2 * k)))
    generalize pVa D S s p k cr (pVb D S s p m (k + 1) cr) = a at n1 ⊢
    generalize pVw D S s p k cr (pVb D S s p m (k + 1) (s (2 * k))) = b at n2 ⊢
    dsimp only
    unfold pLs
    by_cases z : a ≠ -1 ∧ (b = -1 ∨ a ≤ b)
    · rw [if_pos z, if_pos z, if_neg z.1, if_neg z.1, if_pos z]
    · rw [if_neg z, if_neg z]
      by_cases y : b = -1
      · rw [if_pos y, if_pos y]
        have ha : a = -1 := by omega
        rw [if_pos ha, ha, y]
      · rw [if_neg y, if_neg y, if_neg y, if_neg z]
        refine Prod.ext rfl ?_
        show ((2 ^ m : Nat) : Int) + _ = _
        rw [Int.natCast_pow]
        rfl
end ERQ
/-! the class's table: far for none -/
def pCd (v : Int) : Int := if v = -1 then 1000000000 else v
section ECD
variable {D S : cM} {s : Nat → Int} {p : Int} {k : Nat}
theorem pWk_r (hD : DZ D) (h : 0 < pWk D S s p k) : (0 ≤ pAk S s p k ∧ pAk S s p k < D 0 0) ∧ (0 ≤ s (2 * k) ∧ s (2 * k) < D 0 0) ∧ pWk D S s p k ≤ 60 := by
  have e : pWk D S s p k = if 0 ≤ pAk S s p k ∧ pAk S s p k < D 0 0 ∧ 0 ≤ s (2 * k) ∧ s (2 * k) < D 0 0 then D 4 (pAk S s p k * 8 + s (2 * k)).toNat else 0 := rfl
  rw [e] at h ⊢
  split at h
  next g =>
    have h8 := hD.rg
    have := hD.2.1 (pAk S s p k * 8 + s (2 * k)).toNat (by omega)
    rw [if_pos g]
    exact ⟨⟨g.1, g.2.1⟩, ⟨g.2.2.1, g.2.2.2⟩, this.2⟩
  next => omega
variable {cr m b v x1 x2 : Int}
theorem pCd_r (hb : b = -1 ∨ (0 ≤ b ∧ b ≤ 20000)) : 0 ≤ pCd b ∧ pCd b ≤ 1000000000 := by
  unfold pCd
  split <;> omega
theorem ar_far (e1 : s (2 * k + 1) = x1) (e2 : s (2 * k) = x2) (h1 : x1 = 1) (h : pSi D S p x2 cr = 0) : (1000000000 : Int) = pCd (if pOa D S s p k cr then pPl m b else -1) := by
  rw [if_neg (fun z => by have h9 := z (e1.trans h1); rw [e2] at h9; omega)]
  rfl
theorem ar_sum (e1 : s (2 * k + 1) = x1) (h : x1 ≠ 1 ∨ (s (2 * k) = x2 ∧ pSi D S p x2 cr = 1)) (hm : 0 ≤ m ∧ m ≤ 1059) (hb : b = -1 ∨ (0 ≤ b ∧ b ≤ 20000)) (hv : (v = 1000000000 ∨ v = m + pCd b) ∧ v ≤ 1000000000 ∧ v ≤ m + pCd b) : v = pCd (if pOa D S s p k cr then pPl m b else -1) := by
  have ho : pOa D S s p k cr := fun z => by
    rcases h with g | ⟨g, g2⟩
    · rw [e1] at z
      exact absurd z g
    · rw [g]
      exact g2
  rw [if_pos ho]
  unfold pPl
  unfold pCd at hv ⊢
  (repeat' split) <;> (try split at hv) <;> omega
theorem wi_far (h : ¬ (cr = pAk S s p k ∧ S 2 p.toNat = 0 ∧ pAd D S (s (2 * k)) p = 1)) : (1000000000 : Int) = pCd (pVw D S s p k cr b) := by
  have e : pVw D S s p k cr b = -1 := if_neg (fun z => h ⟨z.1, z.2.1, z.2.2.1⟩)
  rw [e]
  rfl
theorem wi_fin {q z : Int} (hz : s (2 * k) = z) (h : cr = pAk S s p k ∧ S 2 p.toNat = 0 ∧ pAd D S (s (2 * k)) p = 1) (hv : v = pCd (if pOa D S s p k z then pPl q b else -1)) (hq : q = pCy D S p p (pWk D S s p k)) : v = pCd (pVw D S s p k cr b) := by
  subst hz
  rw [hv, hq]
  unfold pVw
  by_cases z : pOa D S s p k (s (2 * k))
  · rw [if_pos z, if_pos ⟨h.1, h.2.1, h.2.2, z⟩]
  · rw [if_neg z, if_neg (fun y => z y.2.2.2)]
end ECD
/-! an errand that can be gone -/
def cEt (D S : cM) (s : Nat → Int) (p x : Int) : Int := if pWk D S s p x.toNat ≠ 0 ∧ s (2 * x.toNat + 1) ≤ 1 then 1 else 0
def pEt (D S : cM) (s : Nat → Int) (p n : Int) : Int := if (0 ≤ p ∧ p < D 0 1) ∧ 2 ≤ n ∧ n ≤ 24 ∧ n % 2 = 0 ∧ pAll (cEt D S s p) (n / 2).toNat = 1 then 1 else 0
section TLD
variable {D S : cM} {s : Nat → Int} {p n y : Int}
theorem pAk_S (hy : 0 ≤ y) (he : y % 2 = 0) : pAk S s p ((y + 2) / 2).toNat = s y.toNat := by
  unfold pAk
  rw [if_neg (by omega), show 2 * ((y + 2) / 2).toNat - 2 = y.toNat by omega]
theorem cEt_1 {a b w : Int} (hy : 0 ≤ y) (he : y % 2 = 0) (ha : a = pAk S s p (y / 2).toNat) (hw : w = pWy D a (s y.toNat)) (hb : s (y + 1).toNat = b) (h : w ≠ 0 ∧ b ≤ 1) : cEt D S s p (y / 2) = 1 := by
  unfold cEt pWk
  rw [← ha, show 2 * (y / 2).toNat = y.toNat by omega, ← hw, show y.toNat + 1 = (y + 1).toNat by omega, hb]
  exact if_pos h
theorem cEt_0 {a b w : Int} (hy : 0 ≤ y) (he : y % 2 = 0) (ha : a = pAk S s p (y / 2).toNat) (hw : w = pWy D a (s y.toNat)) (h : w = 0 ∨ (s (y + 1).toNat = b ∧ 1 < b)) : cEt D S s p (y / 2) ≠ 1 := by
  unfold cEt pWk
  rw [← ha, show 2 * (y / 2).toNat = y.toNat by omega, ← hw, show y.toNat + 1 = (y + 1).toNat by omega]
  rw [if_neg (by omega)]
  decide
theorem pEt_0 (hy : 0 ≤ y) (hn : y < n) (he : y % 2 = 0) (hm : n % 2 = 0) (h : cEt D S s p (y / 2) ≠ 1) : pEt D S s p n = 0 := by
  have := pAll_0 (c := cEt D S s p) (x := y / 2) (by omega) h (n / 2).toNat (by omega)
  unfold pEt
  rw [if_neg (by omega)]
theorem pEt_no (h : ¬ ((0 ≤ p ∧ p < D 0 1) ∧ 2 ≤ n ∧ n ≤ 24 ∧ n % 2 = 0)) : pEt D S s p n = 0 := if_neg (fun z => h ⟨z.1, z.2.1, z.2.2.1, z.2.2.2.1⟩)
theorem pEt_1 (h : pEt D S s p n = 1) : (0 ≤ p ∧ p < D 0 1) ∧ 2 ≤ n ∧ n ≤ 24 ∧ n % 2 = 0 ∧ pAll (cEt D S s p) (n / 2).toNat = 1 := by
  unfold pEt at h
  split at h
  next g => exact g
  next => omega
theorem pEt_w (hD : DZ D) (h : pEt D S s p n = 1) {k : Nat} (hk : (k : Int) < n / 2) : 0 < pWk D S s p k ∧ s (2 * k + 1) ≤ 1 := by
  have h1 := pEt_1 h
  have h2 := pAll_at (c := cEt D S s p) (x := (k : Int)) h1.2.2.2.2 (by omega) hk
  unfold cEt at h2
  rw [Int.toNat_natCast] at h2
  have h3 : 0 ≤ pWk D S s p k := pWy_nn hD _ _
  split at h2
  next g => exact ⟨by omega, g.2⟩
  next => omega
end TLD
/-! the table, from the end -/
def pTt (D S : cM) (s : Nat → Int) (p : Int) (rows : Nat) (M : cM) (i j : Int) : Prop := ∀ k c : Nat, k ≤ rows → (c : Int) < D 0 0 → (i < (k : Int) ∨ ((k : Int) = i ∧ (c : Int) < j)) → M 52 (8 * k + c) = pCd (pVb D S s p (rows - k) k (c : Int))
section STL
variable {D S M M1 : cM} {s : Nat → Int} {p i j a b v : Int} {rows : Nat}
theorem pPl_r {c y : Int} (hc : 0 ≤ c ∧ c ≤ 1059) {N : Int} (hy : y = -1 ∨ (0 ≤ y ∧ y ≤ N)) : pPl c y = -1 ∨ (0 ≤ pPl c y ∧ pPl c y ≤ N + 1059) := by
  unfold pPl
  split <;> omega
theorem pVb_r (hD : DZ D) : ∀ (m k : Nat) (c : Int), (∀ q, k ≤ q → q < k + m → 0 < pWk D S s p q) → pVb D S s p m k c = -1 ∨ (0 ≤ pVb D S s p m k c ∧ pVb D S s p m k c ≤ 1059 * (m : Int))
  | 0, _, _, _ => Or.inr ⟨Int.le_refl _, by show (0 : Int) ≤ 1059 * ((0 : Nat) : Int); omega⟩
  | m + 1, k, c, h => by
    have hw := h k (Nat.le_refl _) (by omega)
    have hr := (pWk_r hD hw).2.2
    have h1 := pVb_r hD m (k + 1) c (fun q q1 q2 => h q (by omega) (by omega))
    have h2 := pVb_r hD m (k + 1) (s (2 * k)) (fun q q1 q2 => h q (by omega) (by omega))
    have h3 := pPl_r (c := pWk D S s p k) ⟨by omega, by omega⟩ h1
    have hc := pCy_r (D := D) (S := S) (p := p) (c := p) (w := pWk D S s p k) ⟨by omega, hr⟩
    have h4 := pPl_r (c := pCy D S p p (pWk D S s p k)) ⟨by omega, hc.2⟩ h2
    show pLs (pVa D S s p k c (pVb D S s p m (k + 1) c)) (pVw D S s p k c (pVb D S s p m (k + 1) (s (2 * k)))) = -1 ∨ (0 ≤ pLs (pVa D S s p k c (pVb D S s p m (k + 1) c)) (pVw D S s p k c (pVb D S s p m (k + 1) (s (2 * k)))) ∧ pLs (pVa D S s p k c (pVb D S s p m (k + 1) c)) (pVw D S s p k c (pVb D S s p m (k + 1) (s (2 * k)))) ≤ 1059 * ((m + 1 : Nat) : Int))
    unfold pVa pVw pLs
    (repeat' split) <;> omega
/-- the lesser of two codes -/
theorem pCd_ls (ha : a = -1 ∨ (0 ≤ a ∧ a ≤ 20000)) (hb : b = -1 ∨ (0 ≤ b ∧ b ≤ 20000)) (hv : (v = pCd a ∨ v = pCd b) ∧ v ≤ pCd a ∧ v ≤ pCd b) : v = pCd (pLs a b) := by
  unfold pCd pLs at *
  (repeat' split) <;> (try split at hv) <;> (try split at hv) <;> omega
theorem pTt.at (h : pTt D S s p rows M i j) {k c : Int} (hk : i < k ∧ k ≤ rows ∧ 0 ≤ k) (hc : 0 ≤ c ∧ c < D 0 0) : M 52 (k * 8 + c).toNat = pCd (pVb D S s p (rows - k.toNat) k.toNat c) := by
  have h1 := h k.toNat c.toNat (by omega) (by omega) (Or.inl (by omega))
  rw [show ((c.toNat : Nat) : Int) = c by omega] at h1
  rw [← h1]
  congr 1
  omega
theorem pTt.row (h : pTt D S s p rows M i j) (hj : D 0 0 ≤ j) : pTt D S s p rows M (i - 1) 0 := fun k c hk hc hh => h k c hk hc (by omega)
theorem pTt.nx {f : Nat} (h : pTt D S s p rows M i j) (u : Up M 52 f v M1) (h0 : 0 ≤ i ∧ i < rows ∧ 0 ≤ j) (hj : j < D 0 0) (h8 : D 0 0 ≤ 8) (hf : f = (i * 8 + j).toNat) (hv : v = pCd (pVb D S s p (rows - i.toNat) i.toNat j)) : pTt D S s p rows M1 i (j + 1) := fun k c hk hc hh => by
  subst hf
  by_cases e : (k : Int) = i ∧ (c : Int) = j
  · have e1 : k = i.toNat := by omega
    rw [show 8 * k + c = (i * 8 + j).toNat by omega, u.1, hv, e1, e.2]
  · rw [u.2 52 _ (by omega)]
    exact h k c hk hc (by omega)
theorem pTt.z (h : ∀ f, f < 104 → M 52 f = 0) (hr : rows ≤ 12) (h8 : D 0 0 ≤ 8) : pTt D S s p rows M ((rows : Int) - 1) 0 := fun k c hk hc hh => by
  have e : k = rows := by omega
  subst e
  rw [h _ (by omega), Nat.sub_self]
  rfl
end STL
section STS
variable {D S M M1 : cM} {s : Nat → Int} {p i j v x y n : Int} {rows : Nat}
theorem pVb_t (hD : DZ D) (hE : pEt D S s p n = 1) (hr : rows = (n / 2).toNat) (k : Nat) (hk : k ≤ rows) (c : Int) : pVb D S s p (rows - k) k c = -1 ∨ (0 ≤ pVb D S s p (rows - k) k c ∧ pVb D S s p (rows - k) k c ≤ 20000) := by
  have h1 := pEt_1 hE
  have h2 := pVb_r (S := S) (s := s) (p := p) hD (rows - k) k c (fun q q1 q2 => (pEt_w hD hE (k := q) (by omega)).1)
  omega
theorem st_step (hD : DZ D) (hE : pEt D S s p n = 1) (hr : rows = (n / 2).toNat) (hi : 0 ≤ i ∧ i < rows) (h7 : x = pCd (pVa D S s p i.toNat j (pVb D S s p (rows - (i + 1).toNat) (i + 1).toNat j))) (h8 : y = pCd (pVw D S s p i.toNat j (pVb D S s p (rows - (i + 1).toNat) (i + 1).toNat (s (2 * i.toNat))))) (hv : (v = x ∨ v = y) ∧ v ≤ x ∧ v ≤ y) : v = pCd (pVb D S s p (rows - i.toNat) i.toNat j) := by
  have h1 := pEt_1 hE
  have e : pVb D S s p (rows - i.toNat) i.toNat j = pLs (pVa D S s p i.toNat j (pVb D S s p (rows - (i + 1).toNat) (i + 1).toNat j)) (pVw D S s p i.toNat j (pVb D S s p (rows - (i + 1).toNat) (i + 1).toNat (s (2 * i.toNat)))) := by
    rw [show rows - i.toNat = (rows - (i + 1).toNat) + 1 by omega, show (i + 1).toNat = i.toNat + 1 by omega]
    rfl
  have hw := (pEt_w hD hE (k := i.toNat) (by omega)).1
  have hr2 := (pWk_r hD hw).2.2
  have hc := pCy_r (D := D) (S := S) (p := p) (c := p) (w := pWk D S s p i.toNat) ⟨by omega, hr2⟩
  have g1 := pVb_r (S := S) (s := s) (p := p) hD (rows - (i + 1).toNat) (i + 1).toNat j (fun q q1 q2 => (pEt_w hD hE (k := q) (by omega)).1)
  have g2 := pVb_r (S := S) (s := s) (p := p) hD (rows - (i + 1).toNat) (i + 1).toNat (s (2 * i.toNat)) (fun q q1 q2 => (pEt_w hD hE (k := q) (by omega)).1)
  rw [e]
  subst h7 h8
  refine pCd_ls ?_ ?_ hv
  · unfold pVa
    split
    · have := pPl_r (c := pWk D S s p i.toNat) ⟨by omega, by omega⟩ g1
      omega
    · exact Or.inl rfl
  · unfold pVw
    split
    · have := pPl_r (c := pCy D S p p (pWk D S s p i.toNat)) ⟨by omega, hc.2⟩ g2
      omega
    · exact Or.inl rfl
theorem pTt.of (h : pTt D S s p rows M i j) (e : ∀ f, M1 52 f = M 52 f) : pTt D S s p rows M1 i j := fun k c hk hc hh => (e _).trans (h k c hk hc hh)
/-- where the chair is ahead of the k-th way; which ways it goes along -/
abbrev pLv (D S : cM) (s : Nat → Int) (p : Int) (rows k : Nat) (c : Int) : Prop := pVa D S s p k c (pVb D S s p (rows - (k + 1)) (k + 1) c) = pVb D S s p (rows - k) k c
def pCc (D S : cM) (s : Nat → Int) (p : Int) (rows : Nat) : Nat → Int
  | 0 => S 1 p.toNat
  | k + 1 => if pLv D S s p rows k (pCc D S s p rows k) then pCc D S s p rows k else s (2 * k)
def pTn (D S : cM) (s : Nat → Int) (p : Int) (rows k : Nat) : Int := if pLv D S s p rows k (pCc D S s p rows k) then 0 else 1
theorem pCd_in {a b : Int} (ha : a = -1 ∨ (0 ≤ a ∧ a ≤ 30000)) (hb : b = -1 ∨ (0 ≤ b ∧ b ≤ 30000)) : pCd a = pCd b ↔ a = b := by
  unfold pCd
  (repeat' split) <;> omega
theorem lv_iff {c : Int} (hD : DZ D) (hE : pEt D S s p n = 1) (hr : rows = (n / 2).toNat) (hi : 0 ≤ i ∧ i < rows) (h7 : x = pCd (pVa D S s p i.toNat c (pVb D S s p (rows - (i + 1).toNat) (i + 1).toNat c))) (h8 : y = pCd (pVb D S s p (rows - i.toNat) i.toNat c)) : x = y ↔ pLv D S s p rows i.toNat c := by
  have hw := (pEt_w hD hE (k := i.toNat) (by omega)).1
  have hr2 := (pWk_r hD hw).2.2
  have g1 := pVb_t hD hE hr (i + 1).toNat (by omega) c
  have g2 := pVb_t hD hE hr i.toNat (by omega) c
  unfold pLv
  rw [show i.toNat + 1 = (i + 1).toNat by omega]
  subst h7 h8
  refine pCd_in ?_ (by omega)
  unfold pVa
  split
  · have := pPl_r (c := pWk D S s p i.toNat) ⟨by omega, by omega⟩ g1
    omega
  · exact Or.inl rfl
/-- one way further -/
theorem pCc_S {c z : Int} (hk : 0 ≤ i) (h : c = pCc D S s p rows i.toNat) (hz : (pLv D S s p rows i.toNat c ∧ z = c) ∨ (¬ pLv D S s p rows i.toNat c ∧ z = s (2 * i.toNat))) : z = pCc D S s p rows (i + 1).toNat := by
  rw [show (i + 1).toNat = i.toNat + 1 by omega]
  show z = if pLv D S s p rows i.toNat (pCc D S s p rows i.toNat) then pCc D S s p rows i.toNat else s (2 * i.toNat)
  rw [← h]
  rcases hz with ⟨h1, h2⟩ | ⟨h1, h2⟩
  · rw [if_pos h1, h2]
  · rw [if_neg h1, h2]
def pTr (D S : cM) (s : Nat → Int) (p : Int) (rows : Nat) (M : cM) (i : Int) : Prop := ∀ k : Nat, (k : Int) < i → M 53 k = pTn D S s p rows k
theorem pTr.nx {c : Int} {f : Nat} (h : pTr D S s p rows M i) (u : Up M 53 f v M1) (hf : f = i.toNat) (hk : 0 ≤ i) (hc : c = pCc D S s p rows i.toNat) (hz : (pLv D S s p rows i.toNat c ∧ v = 0) ∨ (¬ pLv D S s p rows i.toNat c ∧ v = 1)) : pTr D S s p rows M1 (i + 1) := fun k hh => by
  subst hf
  by_cases e : (k : Int) = i
  · have e1 : k = i.toNat := by omega
    rw [e1, u.1]
    unfold pTn
    rw [← hc]
    rcases hz with ⟨h1, h2⟩ | ⟨h1, h2⟩
    · rw [if_pos h1, h2]
    · rw [if_neg h1, h2]
  · rw [u.2 53 _ (by omega)]
    exact h k (by omega)
end STS
section TLR
variable {D S : cM} {s : Nat → Int} {p n y : Int}
theorem cEt_0r {a b w z : Int} (hy : 0 ≤ y) (he : y % 2 = 0) (ha : a = pAk S s p (y / 2).toNat) (ez : s y.toNat = z) (h : (z < 0 ∨ D 0 0 ≤ z) ∨ (s (y + 1).toNat = b ∧ 1 < b) ∨ (w = pWy D a z ∧ w = 0)) : cEt D S s p (y / 2) ≠ 1 := by
  have hz : (z < 0 ∨ D 0 0 ≤ z) → pWy D a z = 0 := fun g => if_neg (by omega)
  unfold cEt pWk
  rw [← ha, show 2 * (y / 2).toNat = y.toNat by omega, show y.toNat + 1 = (y + 1).toNat by omega, ez]
  rw [if_neg (fun g => by
    rcases h with h | h | h
    · exact g.1 (hz h)
    · omega
    · omega)]
  decide
end TLR
/-! bits of ways -/
def tShr (x y : Int) : Int := c_bin (fun x y => x >>> (y &&& 31)) x y
def tAnd (x y : Int) : Int := c_bin (· &&& ·) x y
theorem bit_ok : ∀ a : Nat, a < 64 → ∀ b : Nat, b < 64 → ∀ k : Nat, k < 12 → tAnd (tShr ((64 * a + b : Nat) : Int) (k : Int)) 1 = (((64 * a + b) / 2 ^ k % 2 : Nat) : Int) := by decide +kernel
theorem bit_eq {x k : Int} (hx : 0 ≤ x ∧ x < 4096) (hk : 0 ≤ k ∧ k < 12) : tAnd (tShr x k) 1 = ((x.toNat / 2 ^ k.toNat % 2 : Nat) : Int) := by
  have h := bit_ok (x.toNat / 64) (by omega) (x.toNat % 64) (by omega) k.toNat (by omega)
  rw [Nat.div_add_mod] at h
  rw [show ((x.toNat : Nat) : Int) = x by omega, show ((k.toNat : Nat) : Int) = k by omega] at h
  exact h
section BIT
variable {D S : cM} {s : Nat → Int} {p : Int}
/-- one way, by its bit -/
theorem pEr_bit {m k : Nat} {cr : Int} {x : Nat} : pEr D S s p (m + 1) k cr (x % 2 ^ (m + 1)) = if x / 2 ^ m % 2 = 1 then (if pOw D S s p k cr then pPl (pCy D S p p (pWk D S s p k)) (pEr D S s p m (k + 1) (s (2 * k)) (x % 2 ^ m)) else -1) else (if pOa D S s p k cr then pPl (pWk D S s p k) (pEr D S s p m (k + 1) cr (x % 2 ^ m)) else -1) := by
  have h1 : x % 2 ^ (m + 1) = x % 2 ^ m + 2 ^ m * (x / 2 ^ m % 2) := Nat.mod_pow_succ
  have h2 : x % 2 ^ m < 2 ^ m := Nat.mod_lt _ (Nat.two_pow_pos m)
  have h3 : x / 2 ^ m % 2 = 0 ∨ x / 2 ^ m % 2 = 1 := by omega
  show (if 2 ^ m ≤ x % 2 ^ (m + 1) then _ else _) = _
  rcases h3 with g | g
  · rw [g, Nat.mul_zero] at h1
    have h4 : x % 2 ^ (m + 1) = x % 2 ^ m := h1
    rw [h4, if_neg (show ¬ 2 ^ m ≤ x % 2 ^ m by omega), if_neg (show ¬ x / 2 ^ m % 2 = 1 by omega)]
  · rw [g, Nat.mul_one] at h1
    rw [h1, if_pos (show 2 ^ m ≤ x % 2 ^ m + 2 ^ m by omega), if_pos g, Nat.add_sub_cancel]
theorem pPl_pl {a b c : Int} (ha : 0 ≤ a) (hb : 0 ≤ b) (hc : c = -1 ∨ 0 ≤ c) : pPl a (pPl b c) = pPl (a + b) c := by
  unfold pPl
  (repeat' split) <;> omega
end BIT
section EBY
variable {D S : cM} {s : Nat → Int} {p many k n cr z q t : Int} {x : Nat}
theorem eb_u (hk : 0 ≤ k ∧ k < many) : pEr D S s p (many - k).toNat k.toNat cr (x % 2 ^ (many - k).toNat) = if x / 2 ^ (many - 1 - k).toNat % 2 = 1 then (if pOw D S s p k.toNat cr then pPl (pCy D S p p (pWk D S s p k.toNat)) (pEr D S s p (many - (k + 1)).toNat (k + 1).toNat (s (2 * k.toNat)) (x % 2 ^ (many - (k + 1)).toNat)) else -1) else (if pOa D S s p k.toNat cr then pPl (pWk D S s p k.toNat) (pEr D S s p (many - (k + 1)).toNat (k + 1).toNat cr (x % 2 ^ (many - (k + 1)).toNat)) else -1) := by
  have e1 : (many - k).toNat = (many - (k + 1)).toNat + 1 := by omega
  have e2 : (many - 1 - k).toNat = (many - (k + 1)).toNat := by omega
  have e3 : (k + 1).toNat = k.toNat + 1 := by omega
  rw [e1, e2, e3]
  exact pEr_bit
theorem eb_1 (h : t = pPl n (pEr D S s p (many - k).toNat k.toNat cr (x % 2 ^ (many - k).toNat))) (hk : 0 ≤ k ∧ k < many) (hb : x / 2 ^ (many - 1 - k).toNat % 2 = 1) (hno : ¬ (cr = pAk S s p k.toNat ∧ S 2 p.toNat = 0 ∧ pAd D S (s (2 * k.toNat)) p = 1)) : t = -1 := by
  rw [h, eb_u hk, if_pos hb, if_neg (fun y => hno ⟨y.1, y.2.1, y.2.2.1⟩)]
  rfl
theorem eb_2 (h : t = pPl n (pEr D S s p (many - k).toNat k.toNat cr (x % 2 ^ (many - k).toNat))) (hk : 0 ≤ k ∧ k < many) (hq : (x / 2 ^ (many - 1 - k).toNat % 2 = 1 ∧ z = s (2 * k.toNat)) ∨ (x / 2 ^ (many - 1 - k).toNat % 2 = 0 ∧ z = cr)) (ho : ¬ pOa D S s p k.toNat z) : t = -1 := by
  rw [h, eb_u hk]
  rcases hq with ⟨h1, h2⟩ | ⟨h1, h2⟩
  · rw [if_pos h1, if_neg (fun y => ho (by rw [h2]; exact y.2.2.2))]
    rfl
  · rw [if_neg (by omega), if_neg (fun y => ho (by rw [h2]; exact y))]
    rfl
theorem eb_3 (hD : DZ D) (h : t = pPl n (pEr D S s p (many - k).toNat k.toNat cr (x % 2 ^ (many - k).toNat))) (hk : 0 ≤ k ∧ k < many) (hq : (x / 2 ^ (many - 1 - k).toNat % 2 = 1 ∧ z = s (2 * k.toNat) ∧ (cr = pAk S s p k.toNat ∧ S 2 p.toNat = 0 ∧ pAd D S (s (2 * k.toNat)) p = 1) ∧ q = pCy D S p p (pWk D S s p k.toNat)) ∨ (x / 2 ^ (many - 1 - k).toNat % 2 = 0 ∧ z = cr ∧ q = pWk D S s p k.toNat)) (ho : pOa D S s p k.toNat z) (hn : 0 ≤ n) : t = pPl (n + q) (pEr D S s p (many - (k + 1)).toNat (k + 1).toNat z (x % 2 ^ (many - (k + 1)).toNat)) := by
  have nn := pEr_nn (S := S) (s := s) (p := p) hD (many - (k + 1)).toNat (k + 1).toNat z (x % 2 ^ (many - (k + 1)).toNat)
  rw [h, eb_u hk]
  rcases hq with ⟨h1, h2, h3, h4⟩ | ⟨h1, h2, h4⟩
  · rw [if_pos h1, if_pos ⟨h3.1, h3.2.1, h3.2.2, by rw [← h2]; exact ho⟩, ← h4, ← h2]
    exact pPl_pl hn (by rw [h4]; exact pCy_nn (pWy_nn hD _ _)) nn
  · rw [if_neg (by omega), if_pos (by rw [← h2]; exact ho), ← h4, ← h2]
    exact pPl_pl hn (by rw [h4]; exact pWy_nn hD _ _) nn
theorem eb_z (hw : (x : Int) < 2 ^ many.toNat) (hm : 0 ≤ many) (hD : DZ D) : pEr D S s p many.toNat 0 cr x = pPl 0 (pEr D S s p (many - 0).toNat (0 : Int).toNat cr (x % 2 ^ (many - 0).toNat)) := by
  have e : x % 2 ^ many.toNat = x := Nat.mod_eq_of_lt (by
    have : ((2 ^ many.toNat : Nat) : Int) = 2 ^ many.toNat := by rw [Int.natCast_pow]; rfl
    omega)
  rw [Int.sub_zero, e]
  have nn := pEr_nn (S := S) (s := s) (p := p) hD many.toNat 0 cr x
  show _ = pPl 0 (pEr D S s p many.toNat 0 cr x)
  unfold pPl
  split <;> omega
end EBY
