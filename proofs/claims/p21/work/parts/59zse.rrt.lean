/-! routes, the reference's side: a table with far for no way -/
def pEn (M : cM) (f : Nat) (x : Int × Int) : Prop := M 103 f = (if x.1 = 0 then 100000000 else x.1) ∧ (x.1 ≠ 0 → M 104 f = x.2)
def pSq (M : cM) (n i j : Int) (X : Nat → Nat → Int × Int) : Prop := ∀ a b : Nat, (a : Int) < n → (b : Int) < n → ((a : Int) < i ∨ ((a : Int) = i ∧ (b : Int) < j)) → pEn M (8 * a + b) (X a b)
theorem pCy_pos {D S : cM} {p c w : Int} (hw : 0 < w) : 0 < pCy D S p c w := by
  unfold pCy
  have := pEv_r (gvn D S p c w) (cdL D 11)
  split <;> omega
section RRT
variable {D S M M1 M2 : cM} {c who i j n : Int} {X : Nat → Nat → Int × Int} {x : Int × Int} {f : Nat}
theorem pEn.of (h : pEn M f x) (e1 : ∀ g, M1 103 g = M 103 g) (e2 : ∀ g, M1 104 g = M 104 g) : pEn M1 f x := by
  unfold pEn
  rw [e1, e2]
  exact h
theorem pSq.of (h : pSq M n i j X) (e1 : ∀ g, M1 103 g = M 103 g) (e2 : ∀ g, M1 104 g = M 104 g) : pSq M1 n i j X := fun a b ha hb hh => (h a b ha hb hh).of e1 e2
theorem pSq.z : pSq M n 0 0 X := fun a b _ _ h => by omega
/-- stores at the place that is filled -/
theorem pSq.up {k g : Nat} {v : Int} (h : pSq M n i j X) (u : Up M k g v M1) (hg : g = (8 * i + j).toNat) (h0 : 0 ≤ i ∧ 0 ≤ j ∧ j < 8) (hn : n ≤ 8) : pSq M1 n i j X := fun a b ha hb hh => by
  have h1 := h a b ha hb hh
  unfold pEn
  rw [u.2 103 _ (by omega), u.2 104 _ (by omega)]
  exact h1
theorem pSq.nx (h : pSq M n i j X) (he : pEn M (8 * i + j).toNat (X i.toNat j.toNat)) (h0 : 0 ≤ i ∧ 0 ≤ j) : pSq M n i (j + 1) X := fun a b ha hb hh => by
  by_cases e : (a : Int) = i ∧ (b : Int) = j
  · have e1 : a = i.toNat := by omega
    have e2 : b = j.toNat := by omega
    rw [← e1, ← e2] at he
    rw [show 8 * a + b = (8 * i + j).toNat by omega]
    exact he
  · exact h a b ha hb (by omega)
theorem pSq.row (h : pSq M n i j X) (hj : n ≤ j) : pSq M n (i + 1) 0 X := fun a b ha hb hh => h a b ha hb (by omega)
theorem pEn.z {v w : Int} {g g2 : Nat} (u : Up M 103 g v M1) (u2 : Up M1 104 g2 w M2) (hv : v = 100000000) (hg : g = f) : pEn M2 f (0, 0) := by
  subst hg
  exact ⟨by rw [u2.2 103 _ (by omega), u.1, hv]; rfl, fun z => absurd rfl z⟩
theorem pLx_none {a b : Nat} (h : ¬ (pAd D S b c = 1 ∧ 0 < pWy D a b)) : ∀ k, pLx D S c who a b k = (0, 0)
  | 0 => rfl
  | k + 1 => by
    show (if who = -1 ∨ who = (k : Int) then pLp D S c a b k (pLx D S c who a b k) else pLx D S c who a b k) = _
    rw [pLx_none h k]
    split
    · exact if_neg (fun z => h ⟨z.1, z.2.1⟩)
    · rfl
theorem pLx_noI {a b : Int} (h0 : 0 ≤ a ∧ 0 ≤ b) (h : ¬ (pAd D S b c = 1 ∧ 0 < pWy D a b)) (k : Nat) : pLx D S c who a.toNat b.toNat k = (0, 0) :=
  pLx_none (by rw [show ((a.toNat : Nat) : Int) = a by omega, show ((b.toNat : Nat) : Int) = b by omega]; exact h) k
/-- another one: not asked, or not less -/
theorem pEn.no {a b p q s : Int} (h : pEn M f (pLx D S c who a.toNat b.toNat p.toNat)) (h0 : 0 ≤ a ∧ 0 ≤ b ∧ 0 ≤ p) (es : M 103 f = s) (hq : q = pCy D S p c (pWy D a b)) (hv : (who ≠ -1 ∧ who ≠ p) ∨ (s ≤ q ∧ q ≤ 1059)) : pEn M f (pLx D S c who a.toNat b.toNat (p + 1).toNat) := by
  have e : pLx D S c who a.toNat b.toNat (p + 1).toNat = pLx D S c who a.toNat b.toNat p.toNat := by
    rw [show (p + 1).toNat = p.toNat + 1 by omega]
    show (if who = -1 ∨ who = ((p.toNat : Nat) : Int) then pLp D S c a.toNat b.toNat ((p.toNat : Nat) : Int) (pLx D S c who a.toNat b.toNat p.toNat) else pLx D S c who a.toNat b.toNat p.toNat) = _
    rw [show ((p.toNat : Nat) : Int) = p by omega]
    rcases hv with g | g
    · exact if_neg (by omega)
    · split
      · unfold pLp
        rw [show ((a.toNat : Nat) : Int) = a by omega, show ((b.toNat : Nat) : Int) = b by omega, ← hq]
        have h1 := h.1
        rw [es] at h1
        refine if_neg (fun z => ?_)
        split at h1
        · omega
        · omega
      · rfl
  rw [e]
  exact h
theorem pEn.set {a b p q s v w : Int} {g g2 : Nat} (h : pEn M f (pLx D S c who a.toNat b.toNat p.toNat)) (h0 : 0 ≤ a ∧ 0 ≤ b ∧ 0 ≤ p) (u : Up M 103 g v M1) (u2 : Up M1 104 g2 w M2) (hg : g = f) (hg2 : g2 = f) (es : M 103 f = s) (hq : q = pCy D S p c (pWy D a b)) (ha : who = -1 ∨ who = p) (hv : q < s) (hA : pAd D S b c = 1 ∧ 0 < pWy D a b) (ev : v = q) (ew : w = p) : pEn M2 f (pLx D S c who a.toNat b.toNat (p + 1).toNat) := by
  subst hg hg2
  have e : pLx D S c who a.toNat b.toNat (p + 1).toNat = (q, p) := by
    rw [show (p + 1).toNat = p.toNat + 1 by omega]
    show (if who = -1 ∨ who = ((p.toNat : Nat) : Int) then pLp D S c a.toNat b.toNat ((p.toNat : Nat) : Int) (pLx D S c who a.toNat b.toNat p.toNat) else pLx D S c who a.toNat b.toNat p.toNat) = _
    rw [show ((p.toNat : Nat) : Int) = p by omega, if_pos ha]
    unfold pLp
    rw [show ((a.toNat : Nat) : Int) = a by omega, show ((b.toNat : Nat) : Int) = b by omega, ← hq]
    have h1 := h.1
    rw [es] at h1
    refine if_pos ⟨hA.1, hA.2, ?_⟩
    split at h1
    · exact Or.inl (by assumption)
    · exact Or.inr (by omega)
  rw [e]
  refine ⟨?_, fun _ => by rw [u2.1, ew]⟩
  rw [u2.2 103 _ (by omega), u.1, ev]
  by_cases z : q = 0
  · exfalso
    have h2 := pCy_pos (D := D) (S := S) (p := p) (c := c) hA.2
    omega
  · exact (if_neg z).symm
/-- rounds counted from 0 -/
theorem pLq.rnd0 {pr : Nat → Nat → Int} {R : Int} {to m k : Nat} {a r : Int} (h : pLq M k (pRd pr (pIt R pr to m r.toNat) m a.toNat)) (hr : 0 ≤ r) (ha : a.toNat = m) : pLq M k (pIt R pr to m (r + 1).toNat) := by
  rw [ha] at h
  rw [show (r + 1).toNat = r.toNat + 1 by omega]
  exact h
theorem pLq.z0 {pr : Nat → Nat → Int} {R : Int} {m k t : Nat} {y : Int} (h : ∀ i : Nat, (i : Int) < y → M k i = if i = t then 0 else R) (hy : 8 ≤ y) : pLq M k (pIt R pr t m (0 : Int).toNat) := fun i hi => h i (by omega)
theorem pSq.at {a b : Int} (hD : DZ D) (h : pSq M (D 0 0) (D 0 0) 0 (fun a b => pLx D S c who a b (D 0 1).toNat)) (ha : 0 ≤ a ∧ a < D 0 0) (hb : 0 ≤ b ∧ b < D 0 0) {s p : Int} (es : M 103 (8 * a + b).toNat = s) (ep : pPq D S c who a.toNat b.toNat = p) : ((p = 0 ∧ s = 100000000) ∨ (1 ≤ p ∧ p ≤ 1059 ∧ s = p)) ∧ (p ≠ 0 → M 104 (8 * a + b).toNat = pWq D S c who a b) := by
  have h1 := h a.toNat b.toNat (by omega) (by omega) (by omega)
  have h2 := pPq_r (S := S) (c := c) (who := who) hD a.toNat b.toNat (by omega) (by omega)
  unfold pEn at h1
  dsimp only at h1
  rw [show 8 * a.toNat + b.toNat = (8 * a + b).toNat by omega, es] at h1
  rw [ep] at h2
  have e2 : (pLx D S c who a.toNat b.toNat (D 0 1).toNat).1 = p := ep
  rw [e2] at h1
  refine ⟨?_, fun z => h1.2 z⟩
  have h3 := h1.1
  split at h3 <;> omega
/-- the first one onward is there -/
theorem pOn_w {pr : Nat → Nat → Int} {R : Int} {L : Nat → Int} {m to : Nat} {a : Int} (h : pFx pr to m R L) (ha : 0 ≤ a ∧ a < m) (ht : a ≠ to) (hl : L a.toNat < R) : pOn pr L m a = owIx (pOg pr L a.toNat) 1 m ∧ (0 ≤ owIx (pOg pr L a.toNat) 1 m ∧ owIx (pOg pr L a.toNat) 1 m < m) ∧ pOg pr L a.toNat (owIx (pOg pr L a.toNat) 1 m).toNat = 1 := by
  have h1 := pOn_r h ha ht hl
  have e : pOn pr L m a = owIx (pOg pr L a.toNat) 1 m := by
    unfold pOn
    by_cases z : owIx (pOg pr L a.toNat) 1 m = -1
    · exfalso
      have e2 : pOn pr L m a = a := if_pos z
      rw [e2] at h1
      omega
    · exact if_neg z
  rw [← e]
  exact ⟨rfl, h1.1, if_pos h1.2⟩
end RRT
