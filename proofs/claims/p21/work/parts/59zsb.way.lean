/-! the way along the prices: at each room the first one onward -/
def pOg (pr : Nat → Nat → Int) (L : Nat → Int) (a : Nat) : Nat → Int := fun j => if 0 < pr a j ∧ pr a j + L j = L a then 1 else 0
def pOn (pr : Nat → Nat → Int) (L : Nat → Int) (n : Nat) (a : Int) : Int := if owIx (pOg pr L a.toNat) 1 n = -1 then a else owIx (pOg pr L a.toNat) 1 n
def pAt (pr : Nat → Nat → Int) (L : Nat → Int) (n : Nat) (a : Int) : Nat → Int
  | 0 => a
  | k + 1 => pOn pr L n (pAt pr L n a k)
section WAY
variable {R : Int} {pr : Nat → Nat → Int} {L L1 L2 : Nat → Int} {n to : Nat} {a : Int}
theorem owIF_hit {g : Nat → Int} {v : Int} : ∀ (k i j : Nat), i ≤ j → j < i + k → g j = v → owIF g v k i ≠ -1
  | 0, i, j, h1, h2, _ => absurd h2 (by omega)
  | k + 1, i, j, h1, h2, h3 => by
    unfold owIF
    by_cases e : g i = v
    · rw [if_pos e]
      omega
    · rw [if_neg e]
      exact owIF_hit k (i + 1) j (by
        by_cases z : i = j
        · subst z
          exact absurd h3 e
        · omega) (by omega) h3
/-- a row at its end: nothing shortens it -/
def pFx (pr : Nat → Nat → Int) (to n : Nat) (R : Int) (L : Nat → Int) : Prop := (∀ i, 0 ≤ L i ∧ L i ≤ R) ∧ L to = 0 ∧ (∀ a b, a < n → b < n → 0 < pr a b → L a ≤ pr a b + L b) ∧ ∀ i, i ≠ to → L i < R → ∃ b, b < n ∧ 0 < pr i b ∧ pr i b + L b ≤ L i
/-- onward it is nearer -/
theorem pOn_r (h : pFx pr to n R L) (ha : 0 ≤ a ∧ a < n) (ht : a ≠ to) (hl : L a.toNat < R) : (0 ≤ pOn pr L n a ∧ pOn pr L n a < n) ∧ 0 < pr a.toNat (pOn pr L n a).toNat ∧ pr a.toNat (pOn pr L n a).toNat + L (pOn pr L n a).toNat = L a.toNat := by
  obtain ⟨b, b1, b2, b3⟩ := h.2.2.2 a.toNat (by omega) hl
  have b4 := h.2.2.1 a.toNat b (by omega) b1 b2
  have hit : pOg pr L a.toNat b = 1 := if_pos ⟨b2, by omega⟩
  have hne : owIx (pOg pr L a.toNat) 1 n ≠ -1 := owIF_hit n 0 b (Nat.zero_le _) (by omega) hit
  have e : pOn pr L n a = owIx (pOg pr L a.toNat) 1 n := if_neg hne
  rw [e]
  rcases owIx_rng (pOg pr L a.toNat) 1 n with z | ⟨z1, z2, z3⟩
  · exact absurd z hne
  · refine ⟨⟨z1, z2⟩, ?_⟩
    unfold pOg at z3
    split at z3
    next g => exact g
    next => omega
theorem pAt_r (h : pFx pr to n R L) (ha : 0 ≤ a ∧ a < n) (hl : L a.toNat < R) : ∀ k : Nat, (∀ j, j < k → pAt pr L n a j ≠ to) → (0 ≤ pAt pr L n a k ∧ pAt pr L n a k < n) ∧ L (pAt pr L n a k).toNat < R ∧ pRk L (L (pAt pr L n a k).toNat) n + k ≤ pRk L (L a.toNat) n
  | 0, _ => ⟨ha, hl, Nat.le_refl _⟩
  | k + 1, hk => by
    obtain ⟨h1, h2, h3⟩ := pAt_r h ha hl k (fun j hj => hk j (by omega))
    have h4 := pOn_r h h1 (hk k (by omega)) h2
    have e : pAt pr L n a (k + 1) = pOn pr L n (pAt pr L n a k) := rfl
    rw [← e] at h4
    have h5 := pRk_lt (F := L) (x := L (pAt pr L n a (k + 1)).toNat) (y := L (pAt pr L n a k).toNat) (by omega) n (pAt pr L n a (k + 1)).toNat (by omega) rfl (by omega)
    exact ⟨h4.1, by omega, by omega⟩
/-- it comes to its end within n - 1 steps -/
theorem pAt_n (h : pFx pr to n R L) (ha : 0 ≤ a ∧ a < n) (hl : L a.toNat < R) {k : Nat} (hk : ∀ j, j < k → pAt pr L n a j ≠ to) : k + 1 ≤ n := by
  have h1 := pAt_r h ha hl k hk
  have h2 := pRk_n1 (F := L) n a.toNat (by omega)
  omega
/-- the same way, whatever far is -/
theorem pOg_eq {R1 R2 : Int} (hr : pRl R1 R2 n L1 L2) (h1 : 100000 ≤ R1) (h2 : 100000 ≤ R2) (hn : n ≤ 8) (hp : ∀ a b, a < n → b < n → pr a b ≤ 1059) {x : Nat} (hx : x < n) (hl : L1 x < R1) {j : Nat} (hj : j < n) : pOg pr L1 x j = pOg pr L2 x j := by
  have a1 := hr.1 x
  have a2 := hr.1 j
  have a3 := hr.2
  have a4 := hp x j hx hj
  unfold pOg
  have e : (0 < pr x j ∧ pr x j + L1 j = L1 x) ↔ (0 < pr x j ∧ pr x j + L2 j = L2 x) := by omega
  by_cases g : 0 < pr x j ∧ pr x j + L1 j = L1 x
  · rw [if_pos g, if_pos (e.mp g)]
  · rw [if_neg g, if_neg (fun z => g (e.mpr z))]
theorem pOn_eq {R1 R2 : Int} (hr : pRl R1 R2 n L1 L2) (h1 : 100000 ≤ R1) (h2 : 100000 ≤ R2) (hn : n ≤ 8) (hp : ∀ a b, a < n → b < n → pr a b ≤ 1059) (ha : 0 ≤ a ∧ a < n) (hl : L1 a.toNat < R1) : pOn pr L1 n a = pOn pr L2 n a := by
  have e : owIx (pOg pr L1 a.toNat) 1 n = owIx (pOg pr L2 a.toNat) 1 n := owIx_congr fun j hj => by rw [pOg_eq hr h1 h2 hn hp (by omega) hl hj]
  unfold pOn
  rw [e]
theorem pAt_eq {R1 R2 : Int} (hr : pRl R1 R2 n L1 L2) (h1 : 100000 ≤ R1) (h2 : 100000 ≤ R2) (hn : n ≤ 8) (hp : ∀ a b, a < n → b < n → pr a b ≤ 1059) (h : pFx pr to n R1 L1) (ha : 0 ≤ a ∧ a < n) (hl : L1 a.toNat < R1) : ∀ k : Nat, (∀ j, j < k → pAt pr L1 n a j ≠ to) → pAt pr L1 n a k = pAt pr L2 n a k
  | 0, _ => rfl
  | k + 1, hk => by
    have e := pAt_eq hr h1 h2 hn hp h ha hl k (fun j hj => hk j (by omega))
    obtain ⟨g1, g2, _⟩ := pAt_r h ha hl k (fun j hj => hk j (by omega))
    show pOn pr L1 n (pAt pr L1 n a k) = pOn pr L2 n (pAt pr L2 n a k)
    rw [← e]
    exact pOn_eq hr h1 h2 hn hp g1 g2
/-- the last round's row is at its end -/
theorem pFx_it (hR : 0 ≤ R) (hn : 1 ≤ n) (hto : to < n) : pFx pr to n R (pIt R pr to n (n - 1)) := by
  have hv := pIv_it (R := R) (hR := hR) (pr := pr) (to := to) (n := n) (n - 1)
  refine ⟨hv.1, hv.2.1, fun a b ha hb hp => ?_, hv.2.2⟩
  rw [← pIt_last hR hn hto a ha]
  have e : n = (n - 1) + 1 := by omega
  have h := pRd_up (pr := pr) (L := pIt R pr to n (n - 1)) ha hb hp
  have e2 : pIt R pr to n n = pRd pr (pIt R pr to n (n - 1)) n n := by
    have e3 : pIt R pr to n ((n - 1) + 1) = pRd pr (pIt R pr to n (n - 1)) n n := rfl
    rw [show (n - 1) + 1 = n by omega] at e3
    exact e3
  rw [e2]
  exact h
/-- the class's path, i rooms of it -/
def pFd (pr : Nat → Nat → Int) (L : Nat → Int) (n to : Nat) (a : Int) (M : cM) (i x : Int) : Prop := (M 46 4 = a ∧ M 46 5 = i ∧ 0 ≤ i ∧ x = pAt pr L n a i.toNat ∧ (0 ≤ x ∧ x < n) ∧ M 46 6 = (if L a.toNat < 1000000000 then L a.toNat else -1)) ∧ (¬ L a.toNat < 1000000000 → i = 0) ∧ ∀ j : Nat, (j : Int) < i → M 50 j = pAt pr L n a (j + 1) ∧ pAt pr L n a j ≠ to
def pFe (pr : Nat → Nat → Int) (L : Nat → Int) (n to : Nat) (a : Int) (M : cM) : Prop := M 46 4 = a ∧ M 46 6 = (if L a.toNat < 1000000000 then L a.toNat else -1) ∧ 0 ≤ M 46 5 ∧ (∀ j : Nat, (j : Int) < M 46 5 → M 50 j = pAt pr L n a (j + 1) ∧ pAt pr L n a j ≠ to) ∧ (L a.toNat < 1000000000 → pAt pr L n a (M 46 5).toNat = to) ∧ (¬ L a.toNat < 1000000000 → M 46 5 = 0)
theorem pFd.z {M : cM} (h1 : M 46 4 = a) (h2 : M 46 5 = 0) (h3 : M 46 6 = (if L a.toNat < 1000000000 then L a.toNat else -1)) (ha : 0 ≤ a ∧ a < n) : pFd pr L n to a M 0 a :=
  ⟨⟨h1, h2, Int.le_refl _, rfl, ha, h3⟩, fun _ => rfl, fun j hj => by omega⟩
theorem pFd.nx {M M1 M2 : cM} {i x v : Int} {f : Nat} (h : pFd pr L n to a M i x) (hf : pFx pr to n 1000000000 L) (hm : L a.toNat < 1000000000) (ht : x ≠ to) (ha : 0 ≤ a ∧ a < n) (u : Up M 50 f v M1) (hu : f = i.toNat) {w : Int} (u2 : Up M1 46 5 w M2) (hw : w = i + 1) (hv : v = pOn pr L n x) : pFd pr L n to a M2 (i + 1) v := by
  subst hu
  obtain ⟨⟨h1, h2, h3, h4, h5, h6⟩, h7, h8⟩ := h
  have hk : ∀ j : Nat, j < i.toNat → pAt pr L n a j ≠ to := fun j hj => (h8 j (by omega)).2
  have h9 := pAt_r hf ha hm i.toNat hk
  rw [← h4] at h9
  have h10 := pOn_r hf h9.1 ht h9.2.1
  rw [← hv] at h10
  have e1 : pAt pr L n a (i.toNat + 1) = v := by
    show pOn pr L n (pAt pr L n a i.toNat) = v
    rw [← h4, hv]
  refine ⟨⟨?_, u2.1.trans hw, by omega, ?_, h10.1, ?_⟩, fun z => absurd hm z, fun j hj => ?_⟩
  · rw [u2.2 46 4 (by omega), u.2 46 4 (by omega)]
    exact h1
  · rw [show (i + 1).toNat = i.toNat + 1 by omega]
    exact e1.symm
  · rw [u2.2 46 6 (by omega), u.2 46 6 (by omega)]
    exact h6
  · by_cases e : j = i.toNat
    · subst e
      rw [u2.2 50 _ (by omega), u.1, e1]
      exact ⟨rfl, by rw [← h4]; exact ht⟩
    · rw [u2.2 50 _ (by omega), u.2 50 _ (by omega)]
      exact h8 j (by omega)
theorem pFd.end {M : cM} {i x : Int} (h : pFd pr L n to a M i x) (hf : pFx pr to n 1000000000 L) (ha : 0 ≤ a ∧ a < n) (he : (n : Int) ≤ i ∨ x = to ∨ M 46 6 = -1) : pFe pr L n to a M := by
  obtain ⟨⟨h1, h2, h3, h4, h5, h6⟩, h7, h8⟩ := h
  refine ⟨h1, h6, by omega, fun j hj => h8 j (by omega), fun z => ?_, fun z => h2.trans (h7 z)⟩
  rw [h2, ← h4]
  rcases he with g | g | g
  · have := pAt_n hf ha z (k := i.toNat) (fun j hj => (h8 j (by omega)).2)
    omega
  · exact g
  · rw [g, if_pos z] at h6
    have := (hf.1 a.toNat).1
    omega
end WAY
