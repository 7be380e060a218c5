/-! shortest ways over a table of prices (0: no way), n rooms: rounds over a row that only falls -/
def pRx (pr : Nat → Nat → Int) (L : Nat → Int) (a b : Nat) : Nat → Int := fun i => if i = a ∧ 0 < pr a b ∧ pr a b + L b < L a then pr a b + L b else L i
def pRw (pr : Nat → Nat → Int) (L : Nat → Int) (a : Nat) : Nat → Nat → Int
  | 0 => L
  | k + 1 => pRx pr (pRw pr L a k) a k
def pRd (pr : Nat → Nat → Int) (L : Nat → Int) (n : Nat) : Nat → Nat → Int
  | 0 => L
  | k + 1 => pRw pr (pRd pr L n k) k n
def pIt (R : Int) (pr : Nat → Nat → Int) (to n : Nat) : Nat → Nat → Int
  | 0 => fun i => if i = to then 0 else R
  | k + 1 => pRd pr (pIt R pr to n k) n n
section PTH
variable {R : Int} {pr : Nat → Nat → Int} {L F : Nat → Int} {a b n to : Nat}
theorem pRx_le (i : Nat) : pRx pr L a b i ≤ L i := by
  unfold pRx
  split
  next g => rw [g.1]; omega
  next => exact Int.le_refl _
theorem pRw_le : ∀ (k i : Nat), pRw pr L a k i ≤ L i
  | 0, _ => Int.le_refl _
  | k + 1, i => Int.le_trans (pRx_le i) (pRw_le k i)
theorem pRw_le2 {k : Nat} : ∀ (m i : Nat), k ≤ m → pRw pr L a m i ≤ pRw pr L a k i
  | 0, i, h => by rw [Nat.le_zero.mp h]; exact Int.le_refl _
  | m + 1, i, h => by
    by_cases e : k = m + 1
    · rw [e]; exact Int.le_refl _
    · exact Int.le_trans (pRx_le i) (pRw_le2 m i (by omega))
theorem pRd_le : ∀ (k i : Nat), pRd pr L n k i ≤ L i
  | 0, _ => Int.le_refl _
  | k + 1, i => Int.le_trans (pRw_le n i) (pRd_le k i)
theorem pRd_le2 {k : Nat} : ∀ (m i : Nat), k ≤ m → pRd pr L n m i ≤ pRd pr L n k i
  | 0, i, h => by rw [Nat.le_zero.mp h]; exact Int.le_refl _
  | m + 1, i, h => by
    by_cases e : k = m + 1
    · rw [e]; exact Int.le_refl _
    · exact Int.le_trans (pRw_le n i) (pRd_le2 m i (by omega))
/-- behind a round no way is left that is shorter through the row ahead of it -/
theorem pRd_up (ha : a < n) (hb : b < n) (hp : 0 < pr a b) : pRd pr L n n a ≤ pr a b + L b := by
  have h1 : pRd pr L n n a ≤ pRd pr L n (a + 1) a := pRd_le2 n a (by omega)
  have e1 : pRd pr L n (a + 1) = pRw pr (pRd pr L n a) a n := rfl
  have h2 : pRw pr (pRd pr L n a) a n a ≤ pRw pr (pRd pr L n a) a (b + 1) a := pRw_le2 n a (by omega)
  have h3 : pRw pr (pRd pr L n a) a (b + 1) a ≤ pr a b + pRw pr (pRd pr L n a) a b b := by
    show pRx pr (pRw pr (pRd pr L n a) a b) a b a ≤ _
    unfold pRx
    split <;> omega
  have h4 : pRw pr (pRd pr L n a) a b b ≤ pRd pr L n a b := pRw_le b b
  have h5 : pRd pr L n a b ≤ L b := pRd_le a b
  rw [e1] at h1
  omega
/-- a property that every step keeps -/
theorem pRd_ind {P : (Nat → Int) → Prop} (hs : ∀ L a b, a < n → b < n → P L → P (pRx pr L a b)) (h : P L) : P (pRd pr L n n) := by
  have h1 : ∀ (L : Nat → Int) (a : Nat), a < n → P L → ∀ k, k ≤ n → P (pRw pr L a k) := by
    intro L a ha hL k
    induction k with
    | zero => exact fun _ => hL
    | succ k ih => exact fun hk => hs _ _ _ ha (by omega) (ih (by omega))
  have h2 : ∀ k, k ≤ n → P (pRd pr L n k) := by
    intro k
    induction k with
    | zero => exact fun _ => h
    | succ k ih => exact fun hk => h1 _ _ (by omega) (ih (by omega)) n (Nat.le_refl _)
  exact h2 n (Nat.le_refl _)
theorem pIt_ind {P : (Nat → Int) → Prop} (hs : ∀ L a b, a < n → b < n → P L → P (pRx pr L a b)) (h : P (pIt R pr to n 0)) : ∀ k, P (pIt R pr to n k)
  | 0 => h
  | k + 1 => pRd_ind hs (pIt_ind hs h k)
/-- what is 0 at the end, between 0 and far, and comes from somewhere -/
def pIv (R : Int) (pr : Nat → Nat → Int) (to n : Nat) (L : Nat → Int) : Prop := (∀ i, 0 ≤ L i ∧ L i ≤ R) ∧ L to = 0 ∧ ∀ i, i ≠ to → L i < R → ∃ b, b < n ∧ 0 < pr i b ∧ pr i b + L b ≤ L i
theorem pIv_rx {a b : Nat} (hb : b < n) (h : pIv R pr to n L) : pIv R pr to n (pRx pr L a b) := by
  obtain ⟨h1, h2, h3⟩ := h
  have hle := fun i => pRx_le (pr := pr) (L := L) (a := a) (b := b) i
  refine ⟨fun i => ?_, ?_, fun i hi hl => ?_⟩
  · unfold pRx
    have := h1 i
    have := h1 b
    split
    next g => obtain ⟨rfl, g2, g3⟩ := g; omega
    next => omega
  · unfold pRx
    have := h1 b
    rw [if_neg (fun g => by obtain ⟨rfl, g2, g3⟩ := g; omega)]
    exact h2
  · by_cases g : i = a ∧ 0 < pr a b ∧ pr a b + L b < L a
    · have e : pRx pr L a b i = pr a b + L b := if_pos g
      have := hle b
      obtain ⟨rfl, g2, g3⟩ := g
      exact ⟨b, hb, g2, by omega⟩
    · have e : pRx pr L a b i = L i := if_neg g
      obtain ⟨c, c1, c2, c3⟩ := h3 i hi (by omega)
      have := hle c
      exact ⟨c, c1, c2, by omega⟩
theorem pIv_it (hR : 0 ≤ R) (k : Nat) : pIv R pr to n (pIt R pr to n k) := by
  refine pIt_ind (P := pIv R pr to n) (fun L a b ha hb h => pIv_rx hb h) ?_ k
  refine ⟨fun i => ?_, if_pos rfl, fun i hi hl => ?_⟩
  · show 0 ≤ (if i = to then (0 : Int) else R) ∧ (if i = to then (0 : Int) else R) ≤ R
    split <;> omega
  · have e : pIt R pr to n 0 i = R := if_neg hi
    omega
theorem pIt_le (k i : Nat) : pIt R pr to n (k + 1) i ≤ pIt R pr to n k i := pRd_le n i
theorem pIt_le2 {k : Nat} : ∀ (m i : Nat), k ≤ m → pIt R pr to n m i ≤ pIt R pr to n k i
  | 0, i, h => by rw [Nat.le_zero.mp h]; exact Int.le_refl _
  | m + 1, i, h => by
    by_cases e : k = m + 1
    · rw [e]; exact Int.le_refl _
    · exact Int.le_trans (pIt_le m i) (pIt_le2 m i (by omega))
/-- a row that no way shortens lies below all rounds -/
theorem pIt_ge (hF : ∀ a b, a < n → b < n → 0 < pr a b → F a ≤ pr a b + F b) (h0 : ∀ i, F i ≤ pIt R pr to n 0 i) (k : Nat) : ∀ i, F i ≤ pIt R pr to n k i := by
  refine pIt_ind (P := fun L => ∀ i, F i ≤ L i) (fun L a b ha hb h i => ?_) h0 k
  unfold pRx
  split
  next g =>
    obtain ⟨rfl, g2, g3⟩ := g
    have := hF i b ha hb g2
    have := h b
    omega
  next => exact h i
def pSm (L : Nat → Int) : Nat → Int
  | 0 => 0
  | k + 1 => pSm L k + L k
theorem pSm_le {L1 L2 : Nat → Int} (h : ∀ i, L1 i ≤ L2 i) : ∀ k, pSm L1 k ≤ pSm L2 k
  | 0 => Int.le_refl _
  | k + 1 => by
    have := pSm_le h k
    have := h k
    show pSm L1 k + L1 k ≤ pSm L2 k + L2 k
    omega
theorem pSm_eq {L1 L2 : Nat → Int} (h : ∀ i, L1 i ≤ L2 i) : ∀ k, pSm L2 k ≤ pSm L1 k → ∀ i, i < k → L1 i = L2 i
  | 0, _, i, hi => absurd hi (Nat.not_lt_zero _)
  | k + 1, hk, i, hi => by
    have h1 := pSm_le h k
    have h2 := h k
    have h3 : pSm L2 k + L2 k ≤ pSm L1 k + L1 k := hk
    by_cases e : i = k
    · rw [e]; omega
    · exact pSm_eq h k (by omega) i (by omega)
theorem pSm_nn (h : ∀ i, 0 ≤ L i) : ∀ k, 0 ≤ pSm L k
  | 0 => Int.le_refl _
  | k + 1 => by
    have := pSm_nn h k
    have := h k
    show 0 ≤ pSm L k + L k
    omega
/-- the rounds end -/
theorem pIt_stop (hR : 0 ≤ R) : ∀ (m k : Nat), pSm (pIt R pr to n k) n ≤ (m : Int) → ∃ N, ∀ i, i < n → pIt R pr to n (N + 1) i = pIt R pr to n N i
  | m, k, h => by
    by_cases e : pSm (pIt R pr to n k) n ≤ pSm (pIt R pr to n (k + 1)) n
    · exact ⟨k, pSm_eq (fun i => pIt_le k i) n e⟩
    · have h2 := pSm_nn (L := pIt R pr to n (k + 1)) (fun i => ((pIv_it hR (k + 1)).1 i).1) n
      cases m with
      | zero => omega
      | succ m => exact pIt_stop hR m (k + 1) (by omega)
/-- how many lie below -/
def pRk (F : Nat → Int) (x : Int) : Nat → Nat
  | 0 => 0
  | k + 1 => pRk F x k + (if F k < x then 1 else 0)
theorem pRk_le {x y : Int} (h : x ≤ y) : ∀ k, pRk F x k ≤ pRk F y k
  | 0 => Nat.le_refl _
  | k + 1 => by
    have := pRk_le h k
    show pRk F x k + (if F k < x then 1 else 0) ≤ pRk F y k + (if F k < y then 1 else 0)
    split <;> split <;> omega
theorem pRk_lt {x y : Int} (h : x ≤ y) : ∀ k c, c < k → F c = x → x < y → pRk F x k + 1 ≤ pRk F y k
  | 0, c, hc, _, _ => absurd hc (Nat.not_lt_zero _)
  | k + 1, c, hc, e, hxy => by
    show pRk F x k + (if F k < x then 1 else 0) + 1 ≤ pRk F y k + (if F k < y then 1 else 0)
    by_cases g : c = k
    · subst g
      have := pRk_le (F := F) h c
      rw [if_neg (by omega), if_pos (by omega)]
      omega
    · have := pRk_lt h k c (by omega) e hxy
      split <;> split <;> omega
theorem pRk_n {x : Int} : ∀ k, pRk F x k ≤ k
  | 0 => Nat.le_refl _
  | k + 1 => by
    have := pRk_n (x := x) k
    show pRk F x k + (if F k < x then 1 else 0) ≤ k + 1
    split <;> omega
theorem pRk_n1 : ∀ k c, c < k → pRk F (F c) k + 1 ≤ k
  | 0, c, hc => absurd hc (Nat.not_lt_zero _)
  | k + 1, c, hc => by
    show pRk F (F c) k + (if F k < F c then 1 else 0) + 1 ≤ k + 1
    by_cases g : c = k
    · subst g
      have := pRk_n (F := F) (x := F c) c
      rw [if_neg (by omega)]
      omega
    · have := pRk_n1 k c (by omega)
      split <;> omega
/-- one round less is enough -/
theorem pIt_last (hR : 0 ≤ R) (hn : 1 ≤ n) (hto : to < n) : ∀ i, i < n → pIt R pr to n n i = pIt R pr to n (n - 1) i := by
  obtain ⟨N, hN⟩ := pIt_stop (R := R) (hR := hR) (pr := pr) (to := to) (n := n) (pSm (pIt R pr to n 0) n).toNat 0 (by
    have := pSm_nn (L := pIt R pr to n 0) (fun i => ((pIv_it hR 0).1 i).1) n
    omega)
  generalize hF : pIt R pr to n N = F at hN
  have hv : pIv R pr to n F := by rw [← hF]; exact pIv_it hR N
  have fix : ∀ a b, a < n → b < n → 0 < pr a b → F a ≤ pr a b + F b := fun a b ha hb hp => by
    rw [← hN a ha, ← hF]
    exact pRd_up ha hb hp
  have h0 : ∀ i, F i ≤ pIt R pr to n 0 i := fun i => by rw [← hF]; exact pIt_le2 N i (Nat.zero_le _)
  have ge := fun k => pIt_ge (F := F) fix h0 k
  have key : ∀ m a, a < n → pRk F (F a) n ≤ m → pIt R pr to n m a = F a := by
    intro m
    induction m with
    | zero =>
      intro a ha hr
      have h1 := ge 0 a
      by_cases e : a = to
      · have h2 : pIt R pr to n 0 a = 0 := if_pos e
        have := (hv.1 a).1
        omega
      · by_cases f : F a < R
        · obtain ⟨b, b1, b2, b3⟩ := hv.2.2 a e f
          have := pRk_lt (F := F) (x := F b) (y := F a) (by omega) n b b1 rfl (by omega)
          omega
        · have := ((pIv_it (R := R) (hR := hR) (pr := pr) (to := to) (n := n) 0).1 a).2
          omega
    | succ m ih =>
      intro a ha hr
      have h1 := ge (m + 1) a
      by_cases e : a = to
      · have h2 := (pIv_it (R := R) (hR := hR) (pr := pr) (to := to) (n := n) (m + 1)).2.1
        have h3 := hv.2.1
        rw [e, h2, h3]
      · by_cases f : F a < R
        · obtain ⟨b, b1, b2, b3⟩ := hv.2.2 a e f
          have h4 := pRk_lt (F := F) (x := F b) (y := F a) (by omega) n b b1 rfl (by omega)
          have h5 := ih b b1 (by omega)
          have h6 : pIt R pr to n (m + 1) a ≤ pr a b + pIt R pr to n m b := pRd_up ha b1 b2
          omega
        · have := ((pIv_it (R := R) (hR := hR) (pr := pr) (to := to) (n := n) (m + 1)).1 a).2
          omega
  intro i hi
  have := pRk_n1 (F := F) n i hi
  rw [key n i hi (by omega), key (n - 1) i hi (by omega)]
end PTH
section PTH2
variable {R : Int} {pr : Nat → Nat → Int} {L : Nat → Int} {n to : Nat}
theorem pIv_rw {a : Nat} (h : pIv R pr to n L) : ∀ k, k ≤ n → pIv R pr to n (pRw pr L a k)
  | 0, _ => h
  | k + 1, hk => pIv_rx (by omega) (pIv_rw h k (by omega))
theorem pIv_rd (h : pIv R pr to n L) : ∀ k, k ≤ n → pIv R pr to n (pRd pr L n k)
  | 0, _ => h
  | k + 1, hk => pIv_rw (pIv_rd h k (by omega)) n (Nat.le_refl _)
/-- the row in a cell -/
def pLq (M : cM) (k : Nat) (L : Nat → Int) : Prop := ∀ i : Nat, i < 8 → M k i = L i
theorem pLq.of {M M1 : cM} {k : Nat} (h : pLq M k L) (e : ∀ i, M1 k i = M k i) : pLq M1 k L := fun i hi => (e i).trans (h i hi)
theorem pLq.no {M : cM} {k : Nat} {a b p x y : Int} (h : pLq M k (pRw pr L a.toNat b.toNat)) (ha : 0 ≤ a ∧ a < 8) (hb : 0 ≤ b ∧ b < 8) (hp : pr a.toNat b.toNat = p) (ex : M k a.toNat = x) (ey : M k b.toNat = y) (hv : ¬ (0 < p ∧ p + y < x)) : pLq M k (pRw pr L a.toNat (b + 1).toNat) := fun i hi => by
  rw [h i hi, show (b + 1).toNat = b.toNat + 1 by omega]
  show pRw pr L a.toNat b.toNat i = pRx pr (pRw pr L a.toNat b.toNat) a.toNat b.toNat i
  have e1 := (h a.toNat (by omega)).symm.trans ex
  have e2 := (h b.toNat (by omega)).symm.trans ey
  unfold pRx
  rw [hp, e1, e2, if_neg (fun z => hv z.2)]
theorem pLq.set {M M1 : cM} {k f : Nat} {a b p x y v : Int} (h : pLq M k (pRw pr L a.toNat b.toNat)) (u : Up M k f v M1) (hf : f = a.toNat) (ha : 0 ≤ a ∧ a < 8) (hb : 0 ≤ b ∧ b < 8) (hp : pr a.toNat b.toNat = p) (ex : M k a.toNat = x) (ey : M k b.toNat = y) (hv : (v = p + y ∧ 0 < p ∧ p + y < x) ∨ (v = x ∧ ¬ (0 < p ∧ p + y < x))) : pLq M1 k (pRw pr L a.toNat (b + 1).toNat) := fun i hi => by
  subst hf
  rw [show (b + 1).toNat = b.toNat + 1 by omega]
  show M1 k i = pRx pr (pRw pr L a.toNat b.toNat) a.toNat b.toNat i
  have e1 := (h a.toNat (by omega)).symm.trans ex
  have e2 := (h b.toNat (by omega)).symm.trans ey
  unfold pRx
  rw [hp, e1, e2]
  by_cases e : i = a.toNat
  · subst e
    rw [u.1]
    rcases hv with ⟨v1, v2⟩ | ⟨v1, v2⟩
    · rw [if_pos ⟨rfl, v2⟩, v1]
    · rw [if_neg (fun z => v2 z.2), v1, e1]
  · rw [u.2 k i (by omega), h i hi, if_neg (fun z => e z.1)]
theorem pLq.z {M M1 : cM} {k f : Nat} {t : Int} (h : ∀ f, f < 8 → M k f = R) (u : Up M k f 0 M1) (hf : f = t.toNat) : pLq M1 k (pIt R pr t.toNat n ((1 : Int) - 1).toNat) := fun i hi => by
  subst hf
  show M1 k i = if i = t.toNat then 0 else R
  by_cases e : i = t.toNat
  · rw [if_pos e, e]
    exact u.1
  · rw [if_neg e, u.2 k i (by omega)]
    exact h i hi
theorem pLq.row {M : cM} {k : Nat} {a b : Int} (h : pLq M k (pRw pr (pRd pr L n a.toNat) a.toNat b.toNat)) (ha : 0 ≤ a) (hb : b.toNat = n) : pLq M k (pRd pr L n (a + 1).toNat) := by
  rw [hb] at h
  rw [show (a + 1).toNat = a.toNat + 1 by omega]
  exact h
theorem pLq.rnd {M : cM} {k : Nat} {a r : Int} (h : pLq M k (pRd pr (pIt R pr to n (r - 1).toNat) n a.toNat)) (hr : 1 ≤ r) (ha : a.toNat = n) : pLq M k (pIt R pr to n (r + 1 - 1).toNat) := by
  rw [ha] at h
  rw [show (r + 1 - 1).toNat = (r - 1).toNat + 1 by omega]
  exact h
theorem pLq.b (hR : 0 ≤ R) {M : cM} {k i : Nat} {a b r x : Int} (h : pLq M k (pRw pr (pRd pr (pIt R pr to n (r - 1).toNat) n a.toNat) a.toNat b.toNat)) (ha : a.toNat ≤ n) (hb : b.toNat ≤ n) (hi : i < 8) (e : M k i = x) : 0 ≤ x ∧ x ≤ R := by
  rw [← e, h i hi]
  exact (pIv_rw (pIv_rd (pIv_it hR _) _ ha) _ hb).1 i
/-- the same ways, whatever far is -/
def pNc (L : Nat → Int) (R : Int) : Nat → Nat
  | 0 => 0
  | k + 1 => pNc L R k + (if L k < R then 1 else 0)
def pRl (R1 R2 : Int) (n : Nat) (L1 L2 : Nat → Int) : Prop := (∀ i, (L1 i = L2 i ∧ 0 ≤ L1 i ∧ L1 i ≤ 1059 * (pNc L1 R1 n : Int)) ∨ (L1 i = R1 ∧ L2 i = R2)) ∧ pNc L1 R1 n ≤ n
theorem pNc_n {L : Nat → Int} {R : Int} : ∀ k, pNc L R k ≤ k
  | 0 => Nat.le_refl _
  | k + 1 => by
    have := pNc_n (L := L) (R := R) k
    show pNc L R k + (if L k < R then 1 else 0) ≤ k + 1
    split <;> omega
theorem pNc_le {L1 L2 : Nat → Int} {R : Int} (h : ∀ i, L1 i ≤ L2 i) : ∀ k, pNc L2 R k ≤ pNc L1 R k
  | 0 => Nat.le_refl _
  | k + 1 => by
    have := pNc_le (R := R) h k
    have := h k
    show pNc L2 R k + (if L2 k < R then 1 else 0) ≤ pNc L1 R k + (if L1 k < R then 1 else 0)
    split <;> split <;> omega
theorem pNc_lt {L1 L2 : Nat → Int} {R : Int} (h : ∀ i, L1 i ≤ L2 i) : ∀ k c, c < k → L1 c < R → ¬ L2 c < R → pNc L2 R k + 1 ≤ pNc L1 R k
  | 0, c, hc, _, _ => absurd hc (Nat.not_lt_zero _)
  | k + 1, c, hc, h1, h2 => by
    show pNc L2 R k + (if L2 k < R then 1 else 0) + 1 ≤ pNc L1 R k + (if L1 k < R then 1 else 0)
    have h3 := h k
    by_cases g : c = k
    · subst g
      have := pNc_le (R := R) h c
      rw [if_neg h2, if_pos h1]
      omega
    · have := pNc_lt h k c (by omega) h1 h2
      split <;> split <;> omega
theorem pRl_rx {R1 R2 : Int} {L1 L2 : Nat → Int} {a b : Nat} (h1 : 100000 ≤ R1) (h2 : 100000 ≤ R2) (hn : n ≤ 8) (hp : pr a b ≤ 1059) (ha : a < n) (h : pRl R1 R2 n L1 L2) : pRl R1 R2 n (pRx pr L1 a b) (pRx pr L2 a b) := by
  obtain ⟨g, gn⟩ := h
  have hle := fun i => pRx_le (pr := pr) (L := L1) (a := a) (b := b) i
  have hc := pNc_le (R := R1) hle n
  have hcn := pNc_n (L := pRx pr L1 a b) (R := R1) n
  have ga := g a
  have gb := g b
  have gs : (0 < pr a b ∧ pr a b + L1 b < L1 a) ↔ (0 < pr a b ∧ pr a b + L2 b < L2 a) := by omega
  refine ⟨fun i => ?_, hcn⟩
  by_cases e : i = a ∧ 0 < pr a b ∧ pr a b + L1 b < L1 a
  · have e1 : pRx pr L1 a b i = pr a b + L1 b := if_pos e
    have e2 : pRx pr L2 a b i = pr a b + L2 b := if_pos ⟨e.1, gs.mp e.2⟩
    have h3 : pr a b + L1 b < R1 := by omega
    refine Or.inl ⟨by omega, by omega, ?_⟩
    rw [e1]
    by_cases f : L1 a < R1
    · omega
    · have := pNc_lt (R := R1) hle n a ha (by have e3 := e1; rw [e.1] at e3; omega) f
      omega
  · have e1 : pRx pr L1 a b i = L1 i := if_neg e
    have e2 : pRx pr L2 a b i = L2 i := if_neg (fun z => e ⟨z.1, gs.mpr z.2⟩)
    rw [e1, e2]
    rcases g i with z | z
    · exact Or.inl ⟨z.1, z.2.1, by omega⟩
    · exact Or.inr z
theorem pRl_it {R1 R2 : Int} (h1 : 100000 ≤ R1) (h2 : 100000 ≤ R2) (hn : n ≤ 8) (hto : to < n) (hp : ∀ a b, a < n → b < n → pr a b ≤ 1059) : ∀ k, pRl R1 R2 n (pIt R1 pr to n k) (pIt R2 pr to n k) := by
  have rw_ : ∀ (L1 L2 : Nat → Int) (a : Nat), a < n → pRl R1 R2 n L1 L2 → ∀ k, k ≤ n → pRl R1 R2 n (pRw pr L1 a k) (pRw pr L2 a k) := by
    intro L1 L2 a ha h k
    induction k with
    | zero => exact fun _ => h
    | succ k ih => exact fun hk => pRl_rx h1 h2 hn (hp a k ha (by omega)) ha (ih (by omega))
  have rd_ : ∀ (L1 L2 : Nat → Int), pRl R1 R2 n L1 L2 → ∀ k, k ≤ n → pRl R1 R2 n (pRd pr L1 n k) (pRd pr L2 n k) := by
    intro L1 L2 h k
    induction k with
    | zero => exact fun _ => h
    | succ k ih => exact fun hk => rw_ _ _ k (by omega) (ih (by omega)) n (Nat.le_refl _)
  intro k
  induction k with
  | zero =>
    refine ⟨fun i => ?_, pNc_n n⟩
    by_cases e : i = to
    · have e1 : pIt R1 pr to n 0 i = 0 := if_pos e
      have e2 : pIt R2 pr to n 0 i = 0 := if_pos e
      exact Or.inl ⟨by omega, by omega, by omega⟩
    · exact Or.inr ⟨if_neg e, if_neg e⟩
  | succ k ih => exact rd_ _ _ ih n (Nat.le_refl _)
end PTH2
