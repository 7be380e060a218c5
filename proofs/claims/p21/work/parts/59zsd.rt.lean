/-! routes: what both sides answer; R is far -/
def pPq (D S : cM) (c who : Int) : Nat → Nat → Int := fun a b => (pLx D S c who a b (D 0 1).toNat).1
def pWq (D S : cM) (c who : Int) (a b : Int) : Int := (pLx D S c who a.toNat b.toNat (D 0 1).toNat).2
def pRL (R : Int) (D S : cM) (c who to : Int) : Nat → Int := pIt R (pPq D S c who) to.toNat (D 0 0).toNat ((D 0 0).toNat - 1)
def pRA (R : Int) (D S : cM) (c who to : Int) : Nat → Int := pAt (pPq D S c who) (pRL R D S c who to) (D 0 0).toNat (S 1 c.toNat)
/-- not there yet, k steps long -/
def pNe (g : Nat → Int) (to : Int) : Nat → Int
  | 0 => 1
  | k + 1 => if pNe g to k = 1 ∧ g k ≠ to then 1 else 0
def pRt (R : Int) (D S : cM) (c who to k w : Int) : Int := if (0 ≤ c ∧ c < D 0 1) ∧ (0 ≤ to ∧ to < D 0 0) ∧ S 2 c.toNat = 0 ∧ -1 ≤ k then (if R ≤ pRL R D S c who to (S 1 c.toNat).toNat then -1 else if k = -1 then pRL R D S c who to (S 1 c.toNat).toNat else if pNe (pRA R D S c who to) to (k.toNat + 1) = 1 then (if w = 1 then pWq D S c who (pRA R D S c who to k.toNat) (pRA R D S c who to (k.toNat + 1)) else pRA R D S c who to (k.toNat + 1)) else -1) else -1
section RT
variable {g g2 : Nat → Int} {to c who k w : Int} {D S : cM}
theorem pNe_1 : ∀ {m : Nat}, pNe g to m = 1 → ∀ j, j < m → g j ≠ to
  | 0, _, j, hj => absurd hj (Nat.not_lt_zero _)
  | m + 1, h, j, hj => by
    have h2 : (if pNe g to m = 1 ∧ g m ≠ to then (1 : Int) else 0) = 1 := h
    split at h2
    next z =>
      by_cases e : j = m
      · rw [e]; exact z.2
      · exact pNe_1 z.1 j (by omega)
    next => omega
theorem pNe_of : ∀ {m : Nat}, (∀ j, j < m → g j ≠ to) → pNe g to m = 1
  | 0, _ => rfl
  | m + 1, h => if_pos ⟨pNe_of fun j hj => h j (by omega), h m (by omega)⟩
theorem pNe_0 {m j : Nat} (hj : j < m) (h : g j = to) : pNe g to m ≠ 1 := fun z => pNe_1 z j hj h
theorem pNe_eq : ∀ {m : Nat}, (∀ k, k ≤ m → (∀ j, j < k → g j ≠ to) → g k = g2 k) → pNe g to (m + 1) = pNe g2 to (m + 1) := by
  intro m h
  by_cases e : ∀ j, j < m + 1 → g j ≠ to
  · rw [pNe_of e, pNe_of fun j hj => by
      rw [← h j (by omega) (fun i hi => e i (by omega))]
      exact e j hj]
  · have h1 : pNe g to (m + 1) ≠ 1 := fun z => e (pNe_1 z)
    have h2 : pNe g2 to (m + 1) ≠ 1 := fun z => by
      have h3 := pNe_1 z
      have h4 : ∀ k, k ≤ m → g k ≠ to := by
        intro k
        induction k using Nat.strongRecOn with
        | _ k ih =>
          intro hk
          rw [h k hk (fun j hj => ih j hj (by omega))]
          exact h3 k (by omega)
      exact e fun j hj => h4 j (by omega)
    have h01 : ∀ (g : Nat → Int), pNe g to (m + 1) = 1 ∨ pNe g to (m + 1) = 0 := fun g => by
      show (if pNe g to m = 1 ∧ g m ≠ to then (1 : Int) else 0) = 1 ∨ (if pNe g to m = 1 ∧ g m ≠ to then (1 : Int) else 0) = 0
      split
      · exact Or.inl rfl
      · exact Or.inr rfl
    have := h01 g
    have := h01 g2
    omega
theorem pPq_r (hD : DZ D) (a b : Nat) (ha : a < (D 0 0).toNat) (hb : b < (D 0 0).toNat) : 0 ≤ pPq D S c who a b ∧ pPq D S c who a b ≤ 1059 := pLx_r hD (by omega) (by omega) _
/-- whatever far is -/
theorem pRt_eq (hD : DZ D) (hS : SW D S) : pRt 1000000000 D S c who to k w = pRt 100000000 D S c who to k w := by
  unfold pRt
  by_cases g : (0 ≤ c ∧ c < D 0 1) ∧ (0 ≤ to ∧ to < D 0 0) ∧ S 2 c.toNat = 0 ∧ -1 ≤ k
  · rw [if_pos g, if_pos g]
    have hr := hD.rg
    have hs := (hS.at g.1).2.1
    have hn : (D 0 0).toNat ≤ 8 := by omega
    have hp := fun a b (ha : a < (D 0 0).toNat) (hb : b < (D 0 0).toNat) => (pPq_r (S := S) (c := c) (who := who) hD a b ha hb).2
    have hl : pRl 1000000000 100000000 (D 0 0).toNat (pRL 1000000000 D S c who to) (pRL 100000000 D S c who to) := pRl_it (by decide) (by decide) hn (by omega) hp _
    have ha := hl.1 (S 1 c.toNat).toNat
    have hm := hl.2
    by_cases f : 1000000000 ≤ pRL 1000000000 D S c who to (S 1 c.toNat).toNat
    · rw [if_pos f, if_pos (show (100000000 : Int) ≤ pRL 100000000 D S c who to (S 1 c.toNat).toNat by omega)]
    · rw [if_neg f, if_neg (show ¬ (100000000 : Int) ≤ pRL 100000000 D S c who to (S 1 c.toNat).toNat by omega)]
      have e1 : pRL 1000000000 D S c who to (S 1 c.toNat).toNat = pRL 100000000 D S c who to (S 1 c.toNat).toNat := by omega
      rw [e1]
      have hf : pFx (pPq D S c who) to.toNat (D 0 0).toNat 1000000000 (pRL 1000000000 D S c who to) := pFx_it (by decide) (by omega) (by omega)
      have he : ∀ m : Nat, (∀ j, j < m → pRA 1000000000 D S c who to j ≠ to) → pRA 1000000000 D S c who to m = pRA 100000000 D S c who to m := fun m hm => pAt_eq hl (by decide) (by decide) hn hp hf (by omega) (by omega) m (fun j hj => by have := hm j hj; unfold pRA at this; omega)
      rw [← pNe_eq (g := pRA 1000000000 D S c who to) (g2 := pRA 100000000 D S c who to) (fun m _ h => he m h)]
      by_cases z : pNe (pRA 1000000000 D S c who to) to (k.toNat + 1) = 1
      · have h3 := pNe_1 z
        rw [he k.toNat (fun j hj => h3 j (by omega)), he (k.toNat + 1) h3]
      · rw [if_neg z, if_neg z]
  · rw [if_neg g, if_neg g]
/-- the class's answers -/
theorem pTb.bs {M : cM} {n i : Int} (h : pTb M n (fun a b => pLp D S c a b i (pLx D S c (-1) a b i.toNat))) (h0 : 0 ≤ i) : pTb M n (fun a b => pLx D S c (-1) a b (i + 1).toNat) := fun a b ha hb => by
  have e : pLx D S c (-1) a b (i + 1).toNat = pLp D S c a b i (pLx D S c (-1) a b i.toNat) := by
    rw [show (i + 1).toNat = i.toNat + 1 by omega]
    show (if (-1 : Int) = -1 ∨ (-1 : Int) = ((i.toNat : Nat) : Int) then pLp D S c a b ((i.toNat : Nat) : Int) (pLx D S c (-1) a b i.toNat) else _) = _
    rw [if_pos (Or.inl rfl), show ((i.toNat : Nat) : Int) = i by omega]
  have h1 := h a b ha hb
  dsimp only at h1 ⊢
  rw [e]
  exact h1
theorem pTb.one {M : cM} {n : Int} (h : pTb M n (fun a b => pLp D S c a b who (0, 0))) (h0 : 0 ≤ who ∧ who < D 0 1) : pTb M n (fun a b => pLx D S c who a b (D 0 1).toNat) := fun a b ha hb => by
  have h1 := h a b ha hb
  dsimp only at h1 ⊢
  rw [pLx_one h0.1 _ (by omega)]
  exact h1
section RTC
variable {M : cM}
theorem rt_fx (hD : DZ D) (hS : SW D S) (hg : (0 ≤ c ∧ c < D 0 1) ∧ (0 ≤ to ∧ to < D 0 0) ∧ S 2 c.toNat = 0) : pFx (pPq D S c who) to.toNat (D 0 0).toNat 1000000000 (pRL 1000000000 D S c who to) ∧ 0 ≤ S 1 c.toNat ∧ S 1 c.toNat < ((D 0 0).toNat : Int) := by
  have hr := hD.rg
  have hs := (hS.at hg.1).2.1
  exact ⟨pFx_it (by decide) (by omega) (by omega), by omega, by omega⟩
theorem rt_min (hg : (0 ≤ c ∧ c < D 0 1) ∧ (0 ≤ to ∧ to < D 0 0) ∧ S 2 c.toNat = 0) (he : pFe (pPq D S c who) (pRL 1000000000 D S c who to) (D 0 0).toNat to.toNat (S 1 c.toNat) M) : M 46 6 = pRt 1000000000 D S c who to (-1) w := by
  rw [he.2.1]
  by_cases g : pRL 1000000000 D S c who to (S 1 c.toNat).toNat < 1000000000
  · rw [if_pos g]
    unfold pRt
    rw [if_pos ⟨hg.1, hg.2.1, hg.2.2, by decide⟩, if_neg (show ¬ (1000000000 : Int) ≤ pRL 1000000000 D S c who to (S 1 c.toNat).toNat by omega), if_pos rfl]
  · rw [if_neg g]
    unfold pRt
    rw [if_pos ⟨hg.1, hg.2.1, hg.2.2, by decide⟩, if_pos (show (1000000000 : Int) ≤ pRL 1000000000 D S c who to (S 1 c.toNat).toNat by omega)]

theorem rt_len (hg : (0 ≤ c ∧ c < D 0 1) ∧ (0 ≤ to ∧ to < D 0 0) ∧ S 2 c.toNat = 0) (he : pFe (pPq D S c who) (pRL 1000000000 D S c who to) (D 0 0).toNat to.toNat (S 1 c.toNat) M) (hk : 0 ≤ k) : (k < M 46 5 → pRL 1000000000 D S c who to (S 1 c.toNat).toNat < 1000000000 ∧ pNe (pRA 1000000000 D S c who to) to (k.toNat + 1) = 1) ∧ (¬ k < M 46 5 → pRt 1000000000 D S c who to k w = -1) := by
  obtain ⟨h1, h2, h3, h4, h5, h6⟩ := he
  constructor
  · intro z
    have hl : pRL 1000000000 D S c who to (S 1 c.toNat).toNat < 1000000000 := Decidable.byContradiction fun y => by
      have := h6 y
      omega
    refine ⟨hl, pNe_of fun j hj => ?_⟩
    have := (h4 j (by omega)).2
    unfold pRA
    omega
  · intro z
    unfold pRt
    rw [if_pos ⟨hg.1, hg.2.1, hg.2.2, by omega⟩]
    by_cases g : pRL 1000000000 D S c who to (S 1 c.toNat).toNat < 1000000000
    · rw [if_neg (by omega), if_neg (by omega), if_neg (pNe_0 (j := (M 46 5).toNat) (by omega) (by have := h5 g; unfold pRA; omega))]
    · rw [if_pos (by omega)]
theorem rt_room (hg : (0 ≤ c ∧ c < D 0 1) ∧ (0 ≤ to ∧ to < D 0 0) ∧ S 2 c.toNat = 0) (he : pFe (pPq D S c who) (pRL 1000000000 D S c who to) (D 0 0).toNat to.toNat (S 1 c.toNat) M) (hk : k ≠ -1) : (if 0 ≤ k ∧ k < M 46 5 then M 50 k.toNat else -1) = pRt 1000000000 D S c who to k 0 := by
  by_cases g : 0 ≤ k ∧ k < M 46 5
  · obtain ⟨l1, l2⟩ := (rt_len hg he (w := 0) g.1).1 g.2
    rw [if_pos g, ((he.2.2.2.1) k.toNat (by omega)).1]
    unfold pRt
    rw [if_pos ⟨hg.1, hg.2.1, hg.2.2, by omega⟩, if_neg (by omega), if_neg hk, if_pos l2, if_neg (by decide)]
    rfl
  · rw [if_neg g]
    by_cases f : 0 ≤ k
    · exact ((rt_len hg he (w := 0) f).2 (by omega)).symm
    · unfold pRt
      rw [if_neg (by omega)]
theorem rt_who (hD : DZ D) (hS : SW D S) (hg : (0 ≤ c ∧ c < D 0 1) ∧ (0 ≤ to ∧ to < D 0 0) ∧ S 2 c.toNat = 0) (he : pFe (pPq D S c who) (pRL 1000000000 D S c who to) (D 0 0).toNat to.toNat (S 1 c.toNat) M) (hk : k ≠ -1) (hX : pTb M (D 0 0) (fun a b => pLx D S c who a b (D 0 1).toNat)) : (if 0 ≤ k ∧ k < M 46 5 then M 48 ((if k = 0 then M 46 4 else M 50 (k - 1).toNat) * 8 + M 50 k.toNat).toNat else -1) = pRt 1000000000 D S c who to k 1 := by
  by_cases g : 0 ≤ k ∧ k < M 46 5
  · obtain ⟨l1, l2⟩ := (rt_len hg he (w := 1) g.1).1 g.2
    obtain ⟨f1, f2, f3⟩ := rt_fx hD hS hg
    have l3 := pNe_1 l2
    have l4 := pAt_r f1 ⟨f2, f3⟩ l1 k.toNat (fun j hj => by have := l3 j (by omega); unfold pRA at this; omega)
    have l5 := pOn_r f1 l4.1 (by have := l3 k.toNat (by omega); unfold pRA at this; omega) l4.2.1
    have e1 : (if k = 0 then M 46 4 else M 50 (k - 1).toNat) = pRA 1000000000 D S c who to k.toNat := by
      by_cases z : k = 0
      · rw [if_pos z, he.1, z]
        rfl
      · rw [if_neg z, ((he.2.2.2.1) (k - 1).toNat (by omega)).1, show (k - 1).toNat + 1 = k.toNat by omega]
        rfl
    have e2 : M 50 k.toNat = pRA 1000000000 D S c who to (k.toNat + 1) := ((he.2.2.2.1) k.toNat (by omega)).1
    rw [if_pos g, e1, e2]
    unfold pRt
    rw [if_pos ⟨hg.1, hg.2.1, hg.2.2, by omega⟩, if_neg (by omega), if_neg hk, if_pos l2, if_pos rfl]
    have l6 : 0 ≤ pRA 1000000000 D S c who to k.toNat ∧ pRA 1000000000 D S c who to k.toNat < ((D 0 0).toNat : Int) := l4.1
    have l7 : 0 ≤ pRA 1000000000 D S c who to (k.toNat + 1) ∧ pRA 1000000000 D S c who to (k.toNat + 1) < ((D 0 0).toNat : Int) := l5.1
    have l8 : 0 < pPq D S c who (pRA 1000000000 D S c who to k.toNat).toNat (pRA 1000000000 D S c who to (k.toNat + 1)).toNat := l5.2.1
    have h9 := (hX (pRA 1000000000 D S c who to k.toNat).toNat (pRA 1000000000 D S c who to (k.toNat + 1)).toNat (by omega) (by omega)).2 (by dsimp only; unfold pPq at l8; omega)
    have key : ∀ x y : Int, 0 ≤ x → 0 ≤ y → 8 * x.toNat + y.toNat = (x * 8 + y).toNat := fun x y hx hy => by omega
    rw [← key _ _ l6.1 l7.1, h9]
    rfl
  · rw [if_neg g]
    by_cases f : 0 ≤ k
    · exact ((rt_len hg he (w := 1) f).2 (by omega)).symm
    · unfold pRt
      rw [if_neg (by omega)]
end RTC
end RT
