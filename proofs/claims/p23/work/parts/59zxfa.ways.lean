/-! the ways one by one: the least so far, and which -/
def tShl (x y : Int) : Int := c_bin (fun x y => x <<< (y &&& 31)) x y
theorem shl_ok : ∀ k : Nat, k < 13 → tShl 1 (k : Int) = ((2 ^ k : Nat) : Int) ∧ 1 ≤ 2 ^ k ∧ 2 ^ k ≤ 4096 := by decide +kernel
theorem shl_eq {k : Int} (hk : 0 ≤ k ∧ k < 13) : tShl 1 k = 2 ^ k.toNat ∧ (1 : Int) ≤ 2 ^ k.toNat ∧ (2 : Int) ^ k.toNat ≤ 4096 := by
  have h := shl_ok k.toNat (by omega)
  rw [show ((k.toNat : Nat) : Int) = k by omega] at h
  have e : ((2 ^ k.toNat : Nat) : Int) = (2 : Int) ^ k.toNat := by rw [Int.natCast_pow]; rfl
  rw [e] at h
  refine ⟨h.1, ?_, ?_⟩
  · rw [← e]; exact Int.ofNat_le.mpr h.2.1
  · rw [← e]; exact Int.ofNat_le.mpr h.2.2
def pLw (f : Nat → Int) (n : Nat) (l b : Int) : Prop := (pFm f n = (-1, -1) ∧ l = 100000000 ∧ b = -1) ∨ (pFm f n = (l, b) ∧ 0 ≤ l ∧ l ≤ 20000 ∧ 0 ≤ b ∧ b < n)
section ELW
variable {f : Nat → Int} {i l b l1 b1 v : Int}
theorem pLw.z : pLw f (0 : Int).toNat 100000000 (-1) := Or.inl ⟨rfl, rfl, rfl⟩
theorem pLw.nx (h : pLw f i.toNat l b) (hi : 0 ≤ i) (hv : v = f i.toNat) (hr : v = -1 ∨ (0 ≤ v ∧ v ≤ 20000)) (hc : (v ≠ -1 ∧ v < l ∧ l1 = v ∧ b1 = i) ∨ ((v = -1 ∨ l ≤ v) ∧ l1 = l ∧ b1 = b)) : pLw f (i + 1).toNat l1 b1 := by
  rw [show (i + 1).toNat = i.toNat + 1 by omega]
  have e : pFm f (i.toNat + 1) = if f i.toNat ≠ -1 ∧ ((pFm f i.toNat).1 = -1 ∨ f i.toNat < (pFm f i.toNat).1) then (f i.toNat, ((i.toNat : Nat) : Int)) else pFm f i.toNat := rfl
  rw [← hv, show ((i.toNat : Nat) : Int) = i by omega] at e
  unfold pLw
  rcases h with ⟨h1, h2, h3⟩ | ⟨h1, h2, h3, h4, h5⟩
  · rw [h1] at e
    dsimp only at e
    rcases hc with ⟨c1, c2, c3, c4⟩ | ⟨c1, c3, c4⟩
    · rw [if_pos ⟨c1, Or.inl rfl⟩] at e
      refine Or.inr ⟨by rw [e, c3, c4], ?_, ?_, ?_, ?_⟩ <;> omega
    · rw [if_neg (fun z => by have := z.1; omega)] at e
      exact Or.inl ⟨e, by omega, by omega⟩
  · rw [h1] at e
    dsimp only at e
    rcases hc with ⟨c1, c2, c3, c4⟩ | ⟨c1, c3, c4⟩
    · rw [if_pos ⟨c1, Or.inr c2⟩] at e
      refine Or.inr ⟨by rw [e, c3, c4], ?_, ?_, ?_, ?_⟩ <;> omega
    · rw [if_neg (fun z => by have h8 := z.1; have h9 := z.2; omega)] at e
      refine Or.inr ⟨by rw [e, c3, c4], ?_, ?_, ?_, ?_⟩ <;> omega
end ELW
section EBT
variable {D S : cM} {s : Nat → Int} {p i l b v n : Int} {rows : Nat}
theorem p2S (m : Nat) : (2 : Int) ^ (m + 1) = 2 ^ m + 2 ^ m := by rw [Int.pow_succ]; omega
theorem p2N (m : Nat) : ((2 ^ m : Nat) : Int) = (2 : Int) ^ m := by rw [Int.natCast_pow]; rfl
theorem p2P (m : Nat) : (1 : Int) ≤ 2 ^ m := by
  have := Nat.two_pow_pos m
  have e := p2N m
  omega
theorem pXb_r : ∀ (m k : Nat) (c : Int), 0 ≤ pXb D S s p m k c ∧ pXb D S s p m k c < 2 ^ m
  | 0, _, _ => ⟨Int.le_refl _, by show (0 : Int) < 2 ^ 0; decide⟩
  | m + 1, k, c => by
    have h1 := pXb_r m (k + 1) c
    have h2 := pXb_r m (k + 1) (s (2 * k))
    have h3 := p2S m
    have h4 := p2P m
    unfold pXb
    split <;> omega
theorem pLw_end (hD : DZ D) {c : Int} (hi : i = 2 ^ rows) (h : pLw (pEr D S s p rows 0 c) i.toNat l b) : (pVb D S s p rows 0 c = -1 ∧ b = -1) ∨ (pVb D S s p rows 0 c ≠ -1 ∧ l = pVb D S s p rows 0 c ∧ b = pXb D S s p rows 0 c ∧ 0 ≤ b ∧ b < 2 ^ rows) := by
  have e : i.toNat = 2 ^ rows := by
    rw [hi, ← p2N rows]
    exact Int.toNat_natCast _
  rw [e] at h
  unfold pLw at h
  rw [pEr_min hD rows 0 c] at h
  have hr := pXb_r (D := D) (S := S) (s := s) (p := p) rows 0 c
  rcases h with ⟨h1, h2, h3⟩ | ⟨h1, h2, h3, h4, h5⟩
  · have h6 := congrArg Prod.fst h1
    exact Or.inl ⟨h6, h3⟩
  · have h6 : pVb D S s p rows 0 c = l := congrArg Prod.fst h1
    have h7 : (if pVb D S s p rows 0 c = -1 then -1 else pXb D S s p rows 0 c) = b := congrArg Prod.snd h1
    rw [if_neg (by omega)] at h7
    refine Or.inr ⟨?_, ?_, ?_, ?_, ?_⟩ <;> omega
/-- which ways with the chair, bit by bit -/
theorem pLv_c {m k : Nat} {c : Int} (hV : pVb D S s p (m + 1) k c ≠ -1) (hr : rows - k = m + 1) : pLv D S s p rows k c ↔ (pVa D S s p k c (pVb D S s p m (k + 1) c) ≠ -1 ∧ (pVw D S s p k c (pVb D S s p m (k + 1) (s (2 * k))) = -1 ∨ pVa D S s p k c (pVb D S s p m (k + 1) c) ≤ pVw D S s p k c (pVb D S s p m (k + 1) (s (2 * k))))) := by
  unfold pLv
  rw [hr, show rows - (k + 1) = m by omega]
  have e : pVb D S s p (m + 1) k c = pLs (pVa D S s p k c (pVb D S s p m (k + 1) c)) (pVw D S s p k c (pVb D S s p m (k + 1) (s (2 * k)))) := rfl
  rw [e] at hV ⊢
  generalize pVa D S s p k c (pVb D S s p m (k + 1) c) = x at hV ⊢
  generalize pVw D S s p k c (pVb D S s p m (k + 1) (s (2 * k))) = y at hV ⊢
  unfold pLs at hV ⊢
  split
  next g => exact ⟨fun _ => g, fun _ => rfl⟩
  next g =>
    rw [if_neg g] at hV
    exact ⟨fun z => by subst z; exact ⟨hV, Or.inr (Int.le_refl _)⟩, fun z => absurd z g⟩
theorem pTn_S (hV : pVb D S s p rows 0 (S 1 p.toNat) ≠ -1) : ∀ k, k ≤ rows → pVb D S s p (rows - k) k (pCc D S s p rows k) ≠ -1 ∧ (pXb D S s p rows 0 (S 1 p.toNat)).toNat % 2 ^ (rows - k) = (pXb D S s p (rows - k) k (pCc D S s p rows k)).toNat
  | 0, _ => by
    refine ⟨hV, ?_⟩
    rw [Nat.sub_zero]
    have h1 := pXb_r (D := D) (S := S) (s := s) (p := p) rows 0 (S 1 p.toNat)
    have h2 := p2N rows
    exact Nat.mod_eq_of_lt (by omega)
  | k + 1, hk => by
    have ⟨h1, h2⟩ := pTn_S hV k (by omega)
    obtain ⟨m, hm⟩ : ∃ m, rows - k = m + 1 := ⟨rows - k - 1, by omega⟩
    have hm2 : rows - (k + 1) = m := by omega
    rw [hm] at h1 h2
    rw [hm2]
    have hc := pLv_c (rows := rows) h1 hm
    have e : pVb D S s p (m + 1) k (pCc D S s p rows k) = pLs (pVa D S s p k (pCc D S s p rows k) (pVb D S s p m (k + 1) (pCc D S s p rows k))) (pVw D S s p k (pCc D S s p rows k) (pVb D S s p m (k + 1) (s (2 * k)))) := rfl
    have e2 : pXb D S s p (m + 1) k (pCc D S s p rows k) = if pVa D S s p k (pCc D S s p rows k) (pVb D S s p m (k + 1) (pCc D S s p rows k)) ≠ -1 ∧ (pVw D S s p k (pCc D S s p rows k) (pVb D S s p m (k + 1) (s (2 * k))) = -1 ∨ pVa D S s p k (pCc D S s p rows k) (pVb D S s p m (k + 1) (pCc D S s p rows k)) ≤ pVw D S s p k (pCc D S s p rows k) (pVb D S s p m (k + 1) (s (2 * k)))) then pXb D S s p m (k + 1) (pCc D S s p rows k) else 2 ^ m + pXb D S s p m (k + 1) (s (2 * k)) := rfl
    have e3 : pCc D S s p rows (k + 1) = if pLv D S s p rows k (pCc D S s p rows k) then pCc D S s p rows k else s (2 * k) := rfl
    have hx1 := pXb_r (D := D) (S := S) (s := s) (p := p) m (k + 1) (pCc D S s p rows k)
    have hx2 := pXb_r (D := D) (S := S) (s := s) (p := p) m (k + 1) (s (2 * k))
    have hp := p2N m
    have hq := Nat.mod_pow_succ (b := 2) (x := (pXb D S s p rows 0 (S 1 p.toNat)).toNat) (k := m)
    rw [h2] at hq
    have hq2 : (pXb D S s p rows 0 (S 1 p.toNat)).toNat % 2 ^ m < 2 ^ m := Nat.mod_lt _ (Nat.two_pow_pos m)
    have hq3 : (pXb D S s p rows 0 (S 1 p.toNat)).toNat / 2 ^ m % 2 = 0 ∨ (pXb D S s p rows 0 (S 1 p.toNat)).toNat / 2 ^ m % 2 = 1 := by omega
    by_cases g : pLv D S s p rows k (pCc D S s p rows k)
    · have g2 := hc.mp g
      rw [if_pos g] at e3
      rw [if_pos g2] at e2
      rw [e3]
      rw [e] at h1
      unfold pLs at h1
      rw [if_pos g2] at h1
      refine ⟨fun z => h1 (by rw [z]; unfold pVa pPl; rw [if_pos rfl]; split <;> rfl), ?_⟩
      rw [e2] at hq
      rcases hq3 with y | y
      · rw [y, Nat.mul_zero] at hq
        omega
      · rw [y, Nat.mul_one] at hq
        omega
    · have g2 := fun z => g (hc.mpr z)
      rw [if_neg g] at e3
      rw [if_neg g2] at e2
      rw [e3]
      rw [e] at h1
      unfold pLs at h1
      rw [if_neg g2] at h1
      refine ⟨fun z => h1 (by rw [z]; unfold pVw pPl; rw [if_pos rfl]; split <;> rfl), ?_⟩
      rw [e2] at hq
      rcases hq3 with y | y
      · rw [y, Nat.mul_zero] at hq
        omega
      · rw [y, Nat.mul_one] at hq
        omega
theorem pTn_bit {k : Int} {x : Int} (hV : pVb D S s p rows 0 (S 1 p.toNat) ≠ -1) (hx : x = pXb D S s p rows 0 (S 1 p.toNat)) (hk : 0 ≤ k ∧ k < rows) (hv : (v = 1 ∧ x.toNat / 2 ^ ((rows : Int) - 1 - k).toNat % 2 = 1) ∨ (v = 0 ∧ x.toNat / 2 ^ ((rows : Int) - 1 - k).toNat % 2 = 0)) : v = pTn D S s p rows k.toNat := by
  subst hx
  have ⟨h1, h2⟩ := pTn_S hV k.toNat (by omega)
  obtain ⟨m, hm⟩ : ∃ m, rows - k.toNat = m + 1 := ⟨rows - k.toNat - 1, by omega⟩
  have hm2 : ((rows : Int) - 1 - k).toNat = m := by omega
  rw [hm] at h1 h2
  rw [hm2] at hv
  have hc := pLv_c (rows := rows) h1 hm
  have e2 : pXb D S s p (m + 1) k.toNat (pCc D S s p rows k.toNat) = if pVa D S s p k.toNat (pCc D S s p rows k.toNat) (pVb D S s p m (k.toNat + 1) (pCc D S s p rows k.toNat)) ≠ -1 ∧ (pVw D S s p k.toNat (pCc D S s p rows k.toNat) (pVb D S s p m (k.toNat + 1) (s (2 * k.toNat))) = -1 ∨ pVa D S s p k.toNat (pCc D S s p rows k.toNat) (pVb D S s p m (k.toNat + 1) (pCc D S s p rows k.toNat)) ≤ pVw D S s p k.toNat (pCc D S s p rows k.toNat) (pVb D S s p m (k.toNat + 1) (s (2 * k.toNat)))) then pXb D S s p m (k.toNat + 1) (pCc D S s p rows k.toNat) else 2 ^ m + pXb D S s p m (k.toNat + 1) (s (2 * k.toNat)) := rfl
  have hx1 := pXb_r (D := D) (S := S) (s := s) (p := p) m (k.toNat + 1) (pCc D S s p rows k.toNat)
  have hx2 := pXb_r (D := D) (S := S) (s := s) (p := p) m (k.toNat + 1) (s (2 * k.toNat))
  have hp := p2N m
  have hq := Nat.mod_pow_succ (b := 2) (x := (pXb D S s p rows 0 (S 1 p.toNat)).toNat) (k := m)
  rw [h2] at hq
  have hq2 : (pXb D S s p rows 0 (S 1 p.toNat)).toNat % 2 ^ m < 2 ^ m := Nat.mod_lt _ (Nat.two_pow_pos m)
  unfold pTn
  by_cases g : pLv D S s p rows k.toNat (pCc D S s p rows k.toNat)
  · rw [if_pos g]
    rw [if_pos (hc.mp g)] at e2
    rw [e2] at hq
    rcases hv with ⟨_, y⟩ | ⟨y0, _⟩
    · rw [y, Nat.mul_one] at hq
      omega
    · exact y0
  · rw [if_neg g]
    rw [if_neg (fun z => g (hc.mpr z))] at e2
    rw [e2] at hq
    rcases hv with ⟨y0, _⟩ | ⟨_, y⟩
    · exact y0
    · rw [y, Nat.mul_zero] at hq
      omega
theorem pTq.nx {M M1 : cM} {c f : Nat} (h : ∀ k : Nat, (k : Int) < i → M c k = pTn D S s p rows k) (u : Up M c f v M1) (hf : f = i.toNat) (hi : 0 ≤ i) (hv : v = pTn D S s p rows i.toNat) : ∀ k : Nat, (k : Int) < i + 1 → M1 c k = pTn D S s p rows k := fun k hh => by
  subst hf
  by_cases e : (k : Int) = i
  · have e1 : k = i.toNat := by omega
    rw [e1, u.1]
    exact hv
  · rw [u.2 c _ (by omega)]
    exact h k (by omega)
end EBT
/-- an errand on both sides -/
theorem er_eq {D S : cM} {s : Nat → Int} {p n v w : Int} {A A' B B' : Prop} (h1 : (v = -1 ∧ pEt D S s p n = 0 ∧ A) ∨ (pEt D S s p n = 1 ∧ v = pVb D S s p (n / 2).toNat 0 (S 1 p.toNat) ∧ A')) (h2 : (w = -1 ∧ pEt D S s p n = 0 ∧ B) ∨ (pEt D S s p n = 1 ∧ w = pVb D S s p (n / 2).toNat 0 (S 1 p.toNat) ∧ B')) : v = w := by
  rcases h1 with ⟨a1, a2, _⟩ | ⟨a1, a2, _⟩ <;> rcases h2 with ⟨b1, b2, _⟩ | ⟨b1, b2, _⟩ <;> omega
