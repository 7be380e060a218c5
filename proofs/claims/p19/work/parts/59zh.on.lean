/-! bits; images; what rooms answer -/
def tbO (x y : Int) : Int := c_bin (· ||| ·) x y
def tbL (x y : Int) : Int := c_bin (fun x y => x <<< (y &&& 31)) x y
def pBs (c : Int → Int) : Nat → Int
  | 0 => 0
  | k + 1 => tbO (pBs c k) (if c k = 1 then tbL 1 k else 0)
def cIn (S : cM) (i : Nat) (r x : Int) : Int := if S i x.toNat = r then 1 else 0
def cSt (D S : cM) (r x : Int) : Int := if S 0 x.toNat = r ∧ pSi D S x (S 0 x.toNat) (S 1 x.toNat) = 1 then 1 else 0
def pRo (D S : cM) (r w : Int) : Int := if 0 ≤ r ∧ r < D 0 0 then (if w = 0 then D 2 r.toNat else if w = 1 then D 3 r.toNat else if w = 2 then pLd D S r (-1) (D 0 1).toNat else if w = 3 then pBs (cIn S 0 r) (D 0 1).toNat else if w = 4 then pBs (cIn S 1 r) (D 0 1).toNat else if w = 5 then pBs (cSt D S r) (D 0 1).toNat else -1) else -1
def pFi (D S : cM) (c r : Int) : Int := if (0 ≤ c ∧ c < D 0 1) ∧ (0 ≤ r ∧ r < D 0 0) ∧ S 1 c.toNat ≠ r then pAd D S r c else -1
/-- three bytes of the tape, the sum of an image, all of a row -/
def p3b (s : Nat → Int) (i : Int) : Int := tbO (tbO (tbL (s i.toNat) 16) (tbL (s (i + 1).toNat) 8)) (s (i + 2).toNat)
def pCk (s : Nat → Int) : Nat → Int
  | 0 => 113
  | k + 1 => (5 * pCk s k + s k) % 251
def pAll (c : Int → Int) : Nat → Int
  | 0 => 1
  | k + 1 => if pAll c k = 1 ∧ c k = 1 then 1 else 0
def cPe (D : cM) (s : Nat → Int) (x : Int) : Int := if (0 ≤ s (9 * x).toNat ∧ s (9 * x).toNat < D 0 0) ∧ (0 ≤ s (9 * x + 1).toNat ∧ s (9 * x + 1).toNat < D 0 0) ∧ s (9 * x + 2).toNat ≤ 1 ∧ p3b s (9 * x + 3) ≤ 99999 ∧ p3b s (9 * x + 6) ≤ 99999 then 1 else 0
def pFw (D : cM) (s : Nat → Int) (r : Int) : Nat → Int
  | 0 => 0
  | k + 1 => pFw D s r k + (if s (9 * (k : Int) + 1).toNat = r then D 8 k else 0)
def cFl (D : cM) (s : Nat → Int) (x : Int) : Int := if pFw D s x (D 0 1).toNat ≤ D 3 x.toNat then 1 else 0
def pIm (D : cM) (s : Nat → Int) (n : Int) : Int := if n = 9 * D 0 1 + 1 ∧ pCk s (9 * D 0 1).toNat = s (9 * D 0 1).toNat ∧ pAll (cPe D s) (D 0 1).toNat = 1 ∧ pAll (cFl D s) (D 0 0).toNat = 1 then 1 else 0
/-- the scene that an image tells, of the first x people -/
def pOk (s : Nat → Int) (S : cM) (x : Int) : cM := fun k f => if k ≤ 2 ∧ (f : Int) < x then s (9 * (f : Int) + (k : Int)).toNat else if k = 4 ∧ (f : Int) < x then p3b s (9 * (f : Int) + 3) else S k f
section IMG
variable {D S M M1 : cM} {s : Nat → Int} {x : Int}
theorem pBs_S {c : Int → Int} {z y : Int} (h : z = pBs c x.toNat) (h0 : 0 ≤ x) (hy : (c x = 1 ∧ y = tbL 1 x) ∨ (c x ≠ 1 ∧ y = 0)) : tbO z y = pBs c (x + 1).toNat := by
  rw [show (x + 1).toNat = x.toNat + 1 by omega]
  show tbO z y = tbO (pBs c x.toNat) (if c ((x.toNat : Nat) : Int) = 1 then tbL 1 ((x.toNat : Nat) : Int) else 0)
  rw [show ((x.toNat : Nat) : Int) = x by omega, ← h]
  rcases hy with ⟨a, b⟩ | ⟨a, b⟩
  · rw [if_pos a, b]
  · rw [if_neg a, b]
theorem pCk_S {z y : Int} (h : z = pCk s x.toNat) (h0 : 0 ≤ x) (hy : s x.toNat = y) : (5 * z + y) % 251 = pCk s (x + 1).toNat := by
  rw [show (x + 1).toNat = x.toNat + 1 by omega, h, ← hy]
  rfl
theorem pAll_S {c : Int → Int} (h : pAll c x.toNat = 1) (h0 : 0 ≤ x) (hc : c x = 1) : pAll c (x + 1).toNat = 1 := by
  rw [show (x + 1).toNat = x.toNat + 1 by omega]
  show (if pAll c x.toNat = 1 ∧ c ((x.toNat : Nat) : Int) = 1 then (1 : Int) else 0) = 1
  rw [show ((x.toNat : Nat) : Int) = x by omega, if_pos ⟨h, hc⟩]
theorem pAll_0 {c : Int → Int} (h0 : 0 ≤ x) (hc : c x ≠ 1) : ∀ n : Nat, x < n → pAll c n = 0
  | 0, h => absurd h (by omega)
  | n + 1, h => by
    show (if pAll c n = 1 ∧ c (n : Int) = 1 then (1 : Int) else 0) = 0
    by_cases e : x = (n : Int)
    · rw [if_neg (fun z => hc (e ▸ z.2))]
    · have := pAll_0 h0 hc n (by omega)
      rw [if_neg (by omega)]
theorem pAll_01 {c : Int → Int} : ∀ n : Nat, pAll c n = 1 ∨ pAll c n = 0
  | 0 => Or.inl rfl
  | n + 1 => by
    show (if pAll c n = 1 ∧ c (n : Int) = 1 then (1 : Int) else 0) = 1 ∨ (if pAll c n = 1 ∧ c (n : Int) = 1 then (1 : Int) else 0) = 0
    split
    · exact Or.inl rfl
    · exact Or.inr rfl
theorem pAll_at {c : Int → Int} {n : Int} (h : pAll c n.toNat = 1) (h0 : 0 ≤ x) (hx : x < n) : c x = 1 := by
  by_cases e : c x = 1
  · exact e
  · have := pAll_0 h0 e n.toNat (by omega)
    omega
theorem cPe_1 (h : cPe D s x = 1) : (0 ≤ s (9 * x).toNat ∧ s (9 * x).toNat < D 0 0) ∧ (0 ≤ s (9 * x + 1).toNat ∧ s (9 * x + 1).toNat < D 0 0) ∧ s (9 * x + 2).toNat ≤ 1 ∧ p3b s (9 * x + 3) ≤ 99999 := by
  unfold cPe at h
  split at h
  next g => exact ⟨g.1, g.2.1, g.2.2.1, g.2.2.2.1⟩
  next => omega
theorem pFw_S {r z y : Int} (h : z = pFw D s r x.toNat) (h0 : 0 ≤ x) (hy : (s (9 * x + 1).toNat = r ∧ y = D 8 x.toNat) ∨ (s (9 * x + 1).toNat ≠ r ∧ y = 0)) : z + y = pFw D s r (x + 1).toNat := by
  rw [show (x + 1).toNat = x.toNat + 1 by omega]
  show z + y = pFw D s r x.toNat + (if s (9 * ((x.toNat : Nat) : Int) + 1).toNat = r then D 8 x.toNat else 0)
  rw [show ((x.toNat : Nat) : Int) = x by omega, ← h]
  rcases hy with ⟨a, b⟩ | ⟨a, b⟩
  · rw [if_pos a, b]
  · rw [if_neg a, b]
theorem tbO_nn {a b : Int} (ha : 0 ≤ a ∧ a < 2147483648) (hb : 0 ≤ b ∧ b < 2147483648) : 0 ≤ tbO a b ∧ tbO a b < 2147483648 := by
  have e1 : (Int32.ofInt a).toBitVec.toInt = a := bmod32 (by omega) (by omega)
  have e2 : (Int32.ofInt b).toBitVec.toInt = b := bmod32 (by omega) (by omega)
  have m1 := BitVec.msb_eq_toInt (x := (Int32.ofInt a).toBitVec)
  have m2 := BitVec.msb_eq_toInt (x := (Int32.ofInt b).toBitVec)
  have m3 := BitVec.msb_eq_toInt (x := (Int32.ofInt a).toBitVec ||| (Int32.ofInt b).toBitVec)
  rw [BitVec.msb_or, m1, m2, e1, e2] at m3
  have e3 : tbO a b = ((Int32.ofInt a).toBitVec ||| (Int32.ofInt b).toBitVec).toInt := rfl
  have hr := BitVec.toInt_lt (x := (Int32.ofInt a).toBitVec ||| (Int32.ofInt b).toBitVec)
  rw [e3]
  clear e1 e2 m1 m2 e3
  revert m3 hr
  generalize (_ : BitVec _).toInt = z
  intro m3 hr
  simp [show ¬ a < 0 by omega, show ¬ b < 0 by omega] at m3
  omega
theorem tbL_nn : ∀ n : Nat, n < 256 → (0 ≤ tbL (n : Int) 16 ∧ tbL (n : Int) 16 < 2147483648) ∧ 0 ≤ tbL (n : Int) 8 ∧ tbL (n : Int) 8 < 2147483648 := by decide +kernel
theorem p3b_r (h : ∀ i, 0 ≤ s i ∧ s i ≤ 255) (i : Int) : 0 ≤ p3b s i := by
  have key : ∀ v : Int, 0 ≤ v ∧ v ≤ 255 → (0 ≤ tbL v 16 ∧ tbL v 16 < 2147483648) ∧ 0 ≤ tbL v 8 ∧ tbL v 8 < 2147483648 := fun v hv => by
    have := tbL_nn v.toNat (by omega)
    rw [show ((v.toNat : Nat) : Int) = v by omega] at this
    exact this
  have h2 := h (i + 2).toNat
  exact (tbO_nn (tbO_nn (key _ (h _)).1 (key _ (h _)).2) ⟨h2.1, by omega⟩).1
theorem pOk_0 : pOk s S 0 = S := by
  funext k f
  unfold pOk
  rw [if_neg (by omega), if_neg (by omega)]
theorem pOk_S {a b c e : Int} (h0 : 0 ≤ x) (ha : s (9 * x).toNat = a) (hb : s (9 * x + 1).toNat = b) (hc : s (9 * x + 2).toNat = c) (hk : p3b s (9 * x + 3) = e) : c_up (c_up (c_up (c_up (pOk s S x) 0 x.toNat a) 1 x.toNat b) 2 x.toNat c) 4 x.toNat e = pOk s S (x + 1) := by
  funext k f
  unfold c_up pOk
  by_cases e : f = x.toNat
  · have e2 : 9 * (f : Int) = 9 * x := by omega
    rw [e2]
    by_cases k4 : k = 4
    · subst k4
      rw [if_pos ⟨rfl, e⟩, if_neg (by omega), if_pos ⟨rfl, by omega⟩, hk]
    rw [if_neg (by omega)]
    by_cases k2 : k = 2
    · subst k2
      rw [if_pos ⟨rfl, e⟩, if_pos ⟨by omega, by omega⟩, ← hc]
      rfl
    · by_cases k1 : k = 1
      · subst k1
        rw [if_neg (by omega), if_pos ⟨rfl, e⟩, if_pos ⟨by omega, by omega⟩, ← hb]
        rfl
      · by_cases k0 : k = 0
        · subst k0
          rw [if_neg (by omega), if_neg (by omega), if_pos ⟨rfl, e⟩, if_pos ⟨by omega, by omega⟩, ← ha]
          congr 1
          omega
        · rw [if_neg (by omega), if_neg (by omega), if_neg (by omega), if_neg (by omega), if_neg (by omega), if_neg (by omega), if_neg (by omega)]
  · rw [if_neg (by omega), if_neg (by omega), if_neg (by omega), if_neg (by omega)]
    by_cases g : k ≤ 2 ∧ (f : Int) < x
    · rw [if_pos g, if_pos (by omega)]
    · rw [if_neg g, if_neg (show ¬ (k ≤ 2 ∧ (f : Int) < x + 1) by omega)]
      by_cases g2 : k = 4 ∧ (f : Int) < x
      · rw [if_pos g2, if_pos (by omega)]
      · rw [if_neg g2, if_neg (by omega)]
/-- the slot that is tried -/
def SLT (s : Nat → Int) (M : cM) (x : Int) : Prop := ∀ q : Int, 0 ≤ q → q < x → M 92 (8 + q).toNat = s (9 * q).toNat ∧ M 93 (8 + q).toNat = s (9 * q + 1).toNat ∧ M 94 (8 + q).toNat = s (9 * q + 2).toNat ∧ M 95 (8 + q).toNat = p3b s (9 * q + 3)
theorem SLT.nx (h : SLT s M x) (h0 : 0 ≤ x) (hx : M1 92 (8 + x).toNat = s (9 * x).toNat ∧ M1 93 (8 + x).toNat = s (9 * x + 1).toNat ∧ M1 94 (8 + x).toNat = s (9 * x + 2).toNat ∧ M1 95 (8 + x).toNat = p3b s (9 * x + 3)) (ho : ∀ c, c = 92 ∨ c = 93 ∨ c = 94 ∨ c = 95 → ∀ f, f ≠ (8 + x).toNat → M1 c f = M c f) : SLT s M1 (x + 1) := by
  intro q q0 q1
  by_cases e : q = x
  · subst e
    exact hx
  · rw [ho 92 (by decide) _ (by omega), ho 93 (by decide) _ (by omega), ho 94 (by decide) _ (by omega), ho 95 (by decide) _ (by omega)]
    exact h q q0 (by omega)
theorem RR0.on {F : List (Nat × Nat)} (h : RR0 D S M) (hs : SLT s M (D 0 1)) (ha : pAll (cPe D s) (D 0 1).toNat = 1) (h94 : ∀ i, 0 ≤ s i ∧ s i ≤ 255) (hc : CPr 0 1 M 8 M1) (g : Fr F M M1) (hf : rrf0 F = true) : RR0 D (pOk s S (D 0 1)) M1 := by
  unfold rrf0 at hf
  rw [Bool.and_eq_true, Bool.and_eq_true] at hf
  have hn := h.2.1.1.2.2.2.1
  have e : ∀ c, c ∈ [65, 66, 67, 68, 69, 70, 71, 72, 73, 74, 79, 80, 83, 84, 75, 76, 77, 78, 81, 82] → ∀ f, M1 c f = M c f := fun c hc f => g c f (nin (by simp at hc; omega) (List.all_eq_true.mp hf.2 c hc) f)
  unfold RR0
  rw [g 63 14 (by simpa using hf.1.1), g 63 60 (by simpa using hf.1.2)]
  refine ⟨h.1.eq (fun c hc => e c (by simp at hc ⊢; omega)), h.2.1, fun p hp => ?_, ?_, fun p hp => ?_, h.2.2.2.2.2.of (fun c hc => e c (by simp at hc ⊢; omega))⟩
  · have h1 := hs p (by omega) hp
    have h2 := (hc 92 (by decide)).1 p (by omega)
    have h3 := (hc 93 (by decide)).1 p (by omega)
    have h4 := (hc 94 (by decide)).1 p (by omega)
    have h5 := (hc 95 (by decide)).1 p (by omega)
    rw [show 8 * (1 : Int) + (p : Int) = 8 + (p : Int) by omega] at h2 h3 h4 h5
    rw [h2, h3, h4, h5, h1.1, h1.2.1, h1.2.2.1, h1.2.2.2]
    unfold pOk
    rw [if_pos ⟨by omega, hp⟩, if_pos ⟨by omega, hp⟩, if_pos ⟨by omega, hp⟩, if_neg (by omega), if_pos ⟨rfl, hp⟩]
    exact ⟨congrArg s (by omega), rfl, rfl, rfl⟩
  · rw [h.2.2.2.1]
    unfold pOk
    rw [if_neg (by omega), if_neg (by omega)]
  · have h1 := cPe_1 (pAll_at ha (x := (p : Int)) (by omega) hp)
    have h2 := h94 (9 * (p : Int) + 2).toNat
    have h3 := p3b_r h94 (9 * (p : Int) + 3)
    unfold pOk
    rw [if_pos ⟨by omega, hp⟩, if_pos ⟨by omega, hp⟩, if_pos ⟨by omega, hp⟩, if_neg (by omega), if_pos ⟨rfl, hp⟩]
    have e0 : (9 * (p : Int) + ((0 : Nat) : Int)).toNat = (9 * (p : Int)).toNat := by omega
    have e1 : (9 * (p : Int) + ((1 : Nat) : Int)).toNat = (9 * (p : Int) + 1).toNat := by omega
    have e2 : (9 * (p : Int) + ((2 : Nat) : Int)).toNat = (9 * (p : Int) + 2).toNat := by omega
    rw [e0, e1, e2]
    exact ⟨h1.1, h1.2.1, by omega, h3, h1.2.2.2⟩
/-- .. and nothing was carried yet -/
def pOz (s : Nat → Int) (S : cM) (x : Int) : cM := c_up (pOk s S x) 5 0 0
theorem RR.on {F : List (Nat × Nat)} (h : RR D S M) (hs : SLT s M (D 0 1)) (ha : pAll (cPe D s) (D 0 1).toNat = 1) (h94 : ∀ i, 0 ≤ s i ∧ s i ≤ 255) (hc : CPr 0 1 M 8 M1 ∧ CPk 0 1 M M1) (h97 : M 97 1 = 0) (g : Fr F M M1) (hf : rrf0 F = true) : RR D (pOz s S (D 0 1)) M1 := ((h.o.on hs ha h94 hc.1 g hf).s (fun k f hk => if_neg (by omega))).k (KX.z (hc.2.1.trans h97) (if_pos ⟨rfl, rfl⟩))
end IMG
theorem pIm_1 {D : cM} {s : Nat → Int} {n : Int} (h : pIm D s n = 1) : n = 9 * D 0 1 + 1 ∧ pCk s (9 * D 0 1).toNat = s (9 * D 0 1).toNat ∧ pAll (cPe D s) (D 0 1).toNat = 1 ∧ pAll (cFl D s) (D 0 0).toNat = 1 := by
  unfold pIm at h
  split at h
  next g => exact g
  next => omega
