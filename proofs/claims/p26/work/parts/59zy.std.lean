/-! counting who stands: a mixed radix, ways as sums -/
def pPr (a : Int → Int) : Nat → Int
  | 0 => 1
  | k + 1 => pPr a k * (1 + a k)
def pDg (a : Int → Int) (i : Nat) (s : Int) : Int := s / pPr a i % (1 + a i)
section RDX
variable {a : Int → Int}
theorem pPr_pos (ha : ∀ i, 0 ≤ a i) : ∀ n, 1 ≤ pPr a n
  | 0 => Int.le_refl _
  | n + 1 => by
    have h := pPr_pos ha n
    have h2 := ha n
    show 1 ≤ pPr a n * (1 + a n)
    have := Int.mul_le_mul h (show (1 : Int) ≤ 1 + a n by omega) (by omega) (by omega)
    omega
theorem pPr_dvd (ha : ∀ i, 0 ≤ a i) {i : Nat} : ∀ {n : Nat}, i < n → ∃ k, 1 ≤ k ∧ pPr a n = pPr a i * (1 + a i) * k
  | 0, h => absurd h (by omega)
  | n + 1, h => by
    by_cases e : i = n
    · subst e
      exact ⟨1, by omega, (Int.mul_one _).symm⟩
    · obtain ⟨k, k1, hk⟩ := pPr_dvd ha (show i < n by omega)
      refine ⟨k * (1 + a n), ?_, ?_⟩
      · have := Int.mul_le_mul k1 (show (1 : Int) ≤ 1 + a n by have := ha n; omega) (by omega) (by omega)
        omega
      · show pPr a n * (1 + a n) = _
        rw [hk, Int.mul_assoc]
theorem pDg_add (ha : ∀ i, 0 ≤ a i) {i n : Nat} (h : i < n) (x d : Int) : pDg a i (x + pPr a n * d) = pDg a i x := by
  obtain ⟨k, _, hk⟩ := pPr_dvd ha h
  unfold pDg
  have hp := pPr_pos ha i
  rw [hk, show pPr a i * (1 + a i) * k * d = pPr a i * ((1 + a i) * (k * d)) by rw [Int.mul_assoc, Int.mul_assoc], Int.add_mul_ediv_left _ _ (by omega), Int.add_mul_emod_self_left]
theorem pDg_r (ha : ∀ i, 0 ≤ a i) (i : Nat) (s : Int) : 0 ≤ pDg a i s ∧ pDg a i s ≤ a i := by
  have h := ha i
  have h1 := Int.emod_nonneg (s / pPr a i) (show 1 + a i ≠ 0 by omega)
  have h2 := Int.emod_lt_of_pos (s / pPr a i) (show 0 < 1 + a i by omega)
  unfold pDg
  omega
theorem pDg_top (ha : ∀ i, 0 ≤ a i) {n : Nat} {s : Int} (h0 : 0 ≤ s) (h : s < pPr a (n + 1)) : pDg a n s = s / pPr a n := by
  have hp := pPr_pos ha n
  unfold pDg
  apply Int.emod_eq_of_lt
  · exact Int.ediv_nonneg h0 (by omega)
  · exact Int.ediv_lt_of_lt_mul (by omega) (by rw [Int.mul_comm]; exact h)
theorem pDg_zero (ha : ∀ i, 0 ≤ a i) : ∀ {n : Nat} {s : Int}, 0 ≤ s → s < pPr a n → (∀ i, i < n → pDg a i s = 0) → s = 0
  | 0, s, h0, h, _ => by
    have : s < 1 := h
    omega
  | n + 1, s, h0, h, hd => by
    have hp := pPr_pos ha n
    have h1 := pDg_top ha h0 h
    rw [hd n (by omega)] at h1
    have h2 : s < pPr a n := by
      have h3 := Int.mul_ediv_add_emod s (pPr a n)
      have h4 := Int.emod_lt_of_pos s (show 0 < pPr a n by omega)
      rw [← h1] at h3
      omega
    exact pDg_zero ha h0 h2 (fun i hi => hd i (by omega))
theorem pDg_0 (i : Nat) : pDg a i 0 = 0 := by
  unfold pDg
  rw [Int.zero_ediv, Int.zero_emod]
theorem pDg_full (ha : ∀ i, 0 ≤ a i) : ∀ {n i : Nat}, i < n → pDg a i (pPr a n - 1) = a i
  | 0, i, h => absurd h (by omega)
  | n + 1, i, h => by
    have hp := pPr_pos ha n
    have h2 := ha n
    have e : pPr a (n + 1) - 1 = (pPr a n - 1) + pPr a n * a n := by
      show pPr a n * (1 + a n) - 1 = _
      rw [Int.mul_add, Int.mul_one]
      omega
    by_cases g : i = n
    · subst g
      rw [e]
      unfold pDg
      rw [Int.add_mul_ediv_left _ _ (by omega), Int.ediv_eq_zero_of_lt (by omega) (by omega), Int.zero_add]
      exact Int.emod_eq_of_lt h2 (by omega)
    · rw [e, pDg_add ha (show i < n by omega)]
      exact pDg_full ha (by omega)
/-- one more of one digit -/
theorem pDg_div (ha : ∀ i, 0 ≤ a i) {i j : Nat} {s : Int} (h0 : 0 ≤ s) (hd : pDg a i s < a i) (hj : i < j) : (s + pPr a i) / pPr a j = s / pPr a j := by
  obtain ⟨k, k1, hk⟩ := pPr_dvd ha hj
  have hp := pPr_pos ha i
  have hq := pPr_pos ha j
  have hai := ha i
  have h1 := Int.mul_ediv_add_emod s (pPr a j)
  have h2 := Int.emod_nonneg s (show pPr a j ≠ 0 by omega)
  have h3 := Int.emod_lt_of_pos s (show 0 < pPr a j by omega)
  have hr : pDg a i (s % pPr a j) = pDg a i s := by
    have := pDg_add ha hj (s % pPr a j) (s / pPr a j)
    rw [← this, Int.add_comm, h1]
  generalize s % pPr a j = r at h1 h2 h3 hr
  have hd2 : r / pPr a i % (1 + a i) < a i := by
    have e : pDg a i r = r / pPr a i % (1 + a i) := rfl
    omega
  have a1 : r / pPr a i < (1 + a i) * k := Int.ediv_lt_of_lt_mul (by omega) (by rw [Int.mul_comm, ← Int.mul_assoc, ← hk]; exact h3)
  have a2 := Int.mul_ediv_add_emod (r / pPr a i) (1 + a i)
  have a3 : r / pPr a i / (1 + a i) < k := Int.ediv_lt_of_lt_mul (by omega) (by rw [Int.mul_comm]; exact a1)
  have a4 : (1 + a i) * (r / pPr a i / (1 + a i) + 1) ≤ (1 + a i) * k := Int.mul_le_mul_of_nonneg_left (by omega) (by omega)
  rw [Int.mul_add, Int.mul_one] at a4
  have a5 : r / pPr a i + 2 ≤ (1 + a i) * k := by omega
  have a6 : pPr a i * (r / pPr a i + 2) ≤ pPr a i * ((1 + a i) * k) := Int.mul_le_mul_of_nonneg_left a5 (by omega)
  rw [← Int.mul_assoc, ← hk, Int.mul_add] at a6
  have a7 := Int.mul_ediv_add_emod r (pPr a i)
  have a8 := Int.emod_lt_of_pos r (show 0 < pPr a i by omega)
  have a9 : r + pPr a i < pPr a j := by omega
  rw [← h1, Int.add_assoc, Int.add_comm, Int.add_comm _ r, Int.add_mul_ediv_left _ _ (show pPr a j ≠ 0 by omega), Int.add_mul_ediv_left _ _ (show pPr a j ≠ 0 by omega), Int.ediv_eq_zero_of_lt h2 h3, Int.ediv_eq_zero_of_lt (by omega) a9]
theorem pDg_up (ha : ∀ i, 0 ≤ a i) {i n : Nat} {s : Int} (h0 : 0 ≤ s) (hs : s < pPr a n) (hi : i < n) (hd : pDg a i s < a i) : s + pPr a i < pPr a n ∧ pDg a i (s + pPr a i) = pDg a i s + 1 ∧ ∀ j, j ≠ i → pDg a j (s + pPr a i) = pDg a j s := by
  have hp := pPr_pos ha i
  have hq := pPr_pos ha n
  have hai := ha i
  refine ⟨?_, ?_, fun j hj => ?_⟩
  · have h1 := pDg_div ha h0 hd hi
    rw [Int.ediv_eq_zero_of_lt h0 hs] at h1
    have h3 := Int.mul_ediv_add_emod (s + pPr a i) (pPr a n)
    have h4 := Int.emod_lt_of_pos (s + pPr a i) (show 0 < pPr a n by omega)
    rw [h1] at h3
    omega
  · unfold pDg at hd ⊢
    have e : (s + pPr a i) / pPr a i = s / pPr a i + 1 := by
      have := Int.add_mul_ediv_left s 1 (show pPr a i ≠ 0 by omega)
      rw [Int.mul_one] at this
      exact this
    rw [e]
    have h1 := Int.emod_nonneg (s / pPr a i) (show 1 + a i ≠ 0 by omega)
    have h2 := Int.mul_ediv_add_emod (s / pPr a i) (1 + a i)
    have e2 : s / pPr a i + 1 = (s / pPr a i % (1 + a i) + 1) + (1 + a i) * (s / pPr a i / (1 + a i)) := by omega
    rw [e2, Int.add_mul_emod_self_left]
    exact Int.emod_eq_of_lt (by omega) (by omega)
  · by_cases g : j < i
    · have := pDg_add ha g s 1
      rw [Int.mul_one] at this
      exact this
    · unfold pDg
      rw [pDg_div ha h0 hd (show i < j by omega)]
theorem pDg_dn (ha : ∀ i, 0 ≤ a i) {i n : Nat} {s : Int} (h0 : 0 ≤ s) (hs : s < pPr a n) (hi : i < n) (hd : 0 < pDg a i s) : pPr a i ≤ s ∧ pDg a i (s - pPr a i) = pDg a i s - 1 ∧ ∀ j, j ≠ i → pDg a j (s - pPr a i) = pDg a j s := by
  have hp := pPr_pos ha i
  have hai := ha i
  have hr := pDg_r ha i s
  have h1 : 1 ≤ s / pPr a i := by
    have h2 := Int.ediv_nonneg h0 (show 0 ≤ pPr a i by omega)
    by_cases g : s / pPr a i = 0
    · unfold pDg at hd
      rw [g, Int.zero_emod] at hd
      omega
    · omega
  have h2 := Int.mul_ediv_add_emod s (pPr a i)
  have h3 := Int.emod_nonneg s (show pPr a i ≠ 0 by omega)
  have h4 : pPr a i * 1 ≤ pPr a i * (s / pPr a i) := Int.mul_le_mul_of_nonneg_left h1 (by omega)
  have hle : pPr a i ≤ s := by omega
  have e : pDg a i (s - pPr a i) = pDg a i s - 1 := by
    unfold pDg at hd ⊢
    have e1 : (s - pPr a i) / pPr a i = s / pPr a i - 1 := by
      have := Int.add_mul_ediv_left s (-1) (show pPr a i ≠ 0 by omega)
      rw [show s + pPr a i * -1 = s - pPr a i by omega] at this
      exact this
    rw [e1]
    have h5 := Int.emod_lt_of_pos (s / pPr a i) (show 0 < 1 + a i by omega)
    have h6 := Int.mul_ediv_add_emod (s / pPr a i) (1 + a i)
    have e2 : s / pPr a i - 1 = (s / pPr a i % (1 + a i) - 1) + (1 + a i) * (s / pPr a i / (1 + a i)) := by omega
    rw [e2, Int.add_mul_emod_self_left]
    exact Int.emod_eq_of_lt (by omega) (by omega)
  have h5 := pDg_up (n := n) (i := i) ha (s := s - pPr a i) (by omega) (by omega) hi (by omega)
  rw [show s - pPr a i + pPr a i = s by omega] at h5
  exact ⟨hle, e, fun j hj => (h5.2.2 j hj).symm⟩
end RDX
/-! sums -/
def pSum (f : Int → Int) : Nat → Int
  | 0 => 0
  | k + 1 => pSum f k + f k
section SUM
variable {f g : Int → Int}
theorem pSum_eq : ∀ (n : Nat), (∀ x : Int, 0 ≤ x → x < n → f x = g x) → pSum f n = pSum g n
  | 0, _ => rfl
  | n + 1, h => by
    show pSum f n + f n = pSum g n + g n
    rw [pSum_eq n (fun x h0 h1 => h x h0 (by omega)), h n (by omega) (by omega)]
theorem pSum_0 : ∀ (n : Nat), (∀ x : Int, 0 ≤ x → x < n → f x = 0) → pSum f n = 0
  | 0, _ => rfl
  | n + 1, h => by
    show pSum f n + f n = 0
    rw [pSum_0 n (fun x h0 h1 => h x h0 (by omega)), h n (by omega) (by omega)]
    rfl
theorem pSum_add (n : Nat) : pSum (fun x => f x + g x) n = pSum f n + pSum g n := by
  induction n with
  | zero => rfl
  | succ n ih =>
    show pSum (fun x => f x + g x) n + (f n + g n) = pSum f n + f n + (pSum g n + g n)
    rw [ih]
    omega
theorem pSum_mul (c : Int) (n : Nat) : pSum (fun x => f x * c) n = pSum f n * c := by
  induction n with
  | zero => exact (Int.zero_mul c).symm
  | succ n ih =>
    show pSum (fun x => f x * c) n + f n * c = (pSum f n + f n) * c
    rw [ih, Int.add_mul]
theorem pSum_mull (c : Int) (n : Nat) : pSum (fun x => c * f x) n = c * pSum f n := by
  induction n with
  | zero => exact (Int.mul_zero c).symm
  | succ n ih =>
    show pSum (fun x => c * f x) n + c * f n = c * (pSum f n + f n)
    rw [ih, Int.mul_add]
theorem pSum_swap (h : Int → Int → Int) (n : Nat) : ∀ m : Nat, pSum (fun x => pSum (fun y => h x y) m) n = pSum (fun y => pSum (fun x => h x y) n) m
  | 0 => pSum_0 n (fun _ _ _ => rfl)
  | m + 1 => by
    show pSum (fun x => pSum (fun y => h x y) m + h x m) n = pSum (fun y => pSum (fun x => h x y) n) m + pSum (fun x => h x m) n
    rw [pSum_add, pSum_swap h n m]
theorem pSum_tail {n m : Nat} (hm : n ≤ m) (h : ∀ x : Int, (n : Int) ≤ x → x < m → f x = 0) : pSum f m = pSum f n := by
  induction m with
  | zero => rw [Nat.le_zero.mp hm]
  | succ m ih =>
    by_cases e : n = m + 1
    · rw [e]
    · show pSum f m + f m = pSum f n
      rw [ih (by omega) (fun x a b => h x a (by omega)), h m (by omega) (by omega), Int.add_zero]
theorem pSum_shift (p : Nat) : ∀ n : Nat, pSum (fun x => if (p : Int) ≤ x then f (x - p) else 0) (n + p) = pSum f n
  | 0 => pSum_0 _ (fun x h0 h1 => if_neg (by omega))
  | n + 1 => by
    rw [show n + 1 + p = (n + p) + 1 by omega]
    show pSum (fun x => if (p : Int) ≤ x then f (x - p) else 0) (n + p) + (if (p : Int) ≤ ((n + p : Nat) : Int) then f (((n + p : Nat) : Int) - p) else 0) = pSum f n + f n
    rw [pSum_shift p n, if_pos (by omega), show ((n + p : Nat) : Int) - p = n by omega]
theorem pSum_one {k : Int} {n : Nat} (h0 : 0 ≤ k) (hk : k < n) (h : ∀ x : Int, 0 ≤ x → x < n → x ≠ k → f x = 0) : pSum f n = f k := by
  induction n with
  | zero => omega
  | succ n ih =>
    show pSum f n + f n = f k
    by_cases e : k = n
    · rw [e, pSum_0 n (fun x a b => h x a (by omega) (by omega)), Int.zero_add]
    · rw [ih (by omega) (fun x a b c => h x a (by omega) c), h n (by omega) (by omega) (by omega), Int.add_zero]
end SUM
/-! ways: pulled (A), what is left (B), by what stands where (W) -/
def yG (a idx : Int → Int) (fr : Int → Int → Int) (A : Int → Int) (p r s : Int) : Int := if fr p r = 1 then A s else if 0 < pDg a (idx r).toNat s then A (s - pPr a (idx r).toNat) else 0
def yN (a idx : Int → Int) (fr : Int → Int → Int) (p r s : Int) : Int := if fr p r = 1 then s else if pDg a (idx r).toNat s < a (idx r) then s + pPr a (idx r).toNat else -1
def yA (a idx : Int → Int) (fr al : Int → Int → Int) (N : Nat) : Nat → Int → Int
  | 0, s => if s = 0 then 1 else 0
  | p + 1, s => pSum (fun r => if al p r = 1 then yG a idx fr (yA a idx fr al N p) p r s else 0) N
def yB (a idx : Int → Int) (fr al : Int → Int → Int) (N m : Nat) (n : Int) : Nat → Int → Int
  | 0, s => if s = pPr a m - 1 then 1 else 0
  | k + 1, s => pSum (fun r => if al (n - k - 1) r = 1 then (if yN a idx fr (n - k - 1) r s = -1 then 0 else yB a idx fr al N m n k (yN a idx fr (n - k - 1) r s)) else 0) N
def cZ (v : Int → Int) (r : Int) : Int := if v r = 0 then 1 else 0
def vDn (v : Int → Int) (r x : Int) : Int := if x = r then v x - 1 else v x
def yW (fr al : Int → Int → Int) (N : Nat) : Nat → (Int → Int) → Int
  | 0, v => pAll (cZ v) 8
  | p + 1, v => pSum (fun r => if al p r = 1 then (if fr p r = 1 then yW fr al N p v else if 0 < v r then yW fr al N p (vDn v r) else 0) else 0) N
def vOf (a idx : Int → Int) (s r : Int) : Int := if 0 ≤ r ∧ r < 8 ∧ idx r ≠ -1 then pDg a (idx r).toNat s else 0
/-- digits for rooms told -/
def Rdx (a idx : Int → Int) (m : Nat) : Prop := (∀ i, 0 ≤ a i) ∧ (∀ r, idx r = -1 ∨ (0 ≤ idx r ∧ idx r < m)) ∧ (∀ r r', idx r ≠ -1 → idx r = idx r' → r = r') ∧ (∀ i : Int, 0 ≤ i → i < m → a i = 0 ∨ ∃ r, 0 ≤ r ∧ r < 8 ∧ idx r = i)
section WAY
variable {a idx : Int → Int} {m N : Nat} {fr al : Int → Int → Int}
theorem vOf_dn (h : Rdx a idx m) {r s : Int} (h0 : 0 ≤ s) (hs : s < pPr a m) (hr : idx r ≠ -1) (hr8 : 0 ≤ r ∧ r < 8) (hd : 0 < pDg a (idx r).toNat s) : vOf a idx (s - pPr a (idx r).toNat) = vDn (vOf a idx s) r := by
  funext x
  have hi := (h.2.1 r).resolve_left hr
  have hq := pDg_dn (n := m) h.1 h0 hs (show (idx r).toNat < m by omega) hd
  show (if 0 ≤ x ∧ x < 8 ∧ idx x ≠ -1 then pDg a (idx x).toNat (s - pPr a (idx r).toNat) else 0) = (if x = r then (if 0 ≤ x ∧ x < 8 ∧ idx x ≠ -1 then pDg a (idx x).toNat s else 0) - 1 else (if 0 ≤ x ∧ x < 8 ∧ idx x ≠ -1 then pDg a (idx x).toNat s else 0))
  by_cases e : x = r
  · subst e
    rw [if_pos ⟨hr8.1, hr8.2, hr⟩, if_pos rfl, if_pos ⟨hr8.1, hr8.2, hr⟩, hq.2.1]
  · rw [if_neg e]
    by_cases g : 0 ≤ x ∧ x < 8 ∧ idx x ≠ -1
    · rw [if_pos g, if_pos g]
      refine hq.2.2 _ (fun z => ?_)
      have hx := (h.2.1 x).resolve_left g.2.2
      exact e (h.2.2.1 x r g.2.2 (by omega))
    · rw [if_neg g, if_neg g]
theorem yA_W (h : Rdx a idx m) (hN : N ≤ 8) (hf : ∀ p r, fr p r ≠ 1 → idx r ≠ -1) : ∀ (p : Nat) (s : Int), 0 ≤ s → s < pPr a m → yA a idx fr al N p s = yW fr al N p (vOf a idx s)
  | 0, s, h0, hs => by
    show (if s = 0 then (1 : Int) else 0) = pAll (cZ (vOf a idx s)) 8
    by_cases e : s = 0
    · subst e
      rw [if_pos rfl]
      have hz : ∀ x, cZ (vOf a idx 0) x = 1 := fun x => by
        unfold cZ vOf
        by_cases g : 0 ≤ x ∧ x < 8 ∧ idx x ≠ -1
        · rw [if_pos g, pDg_0, if_pos rfl]
        · rw [if_neg g, if_pos rfl]
      have : ∀ k : Nat, pAll (cZ (vOf a idx 0)) k = 1 := fun k => by
        induction k with
        | zero => rfl
        | succ k ih =>
          show (if pAll (cZ (vOf a idx 0)) k = 1 ∧ cZ (vOf a idx 0) k = 1 then (1 : Int) else 0) = 1
          rw [if_pos ⟨ih, hz k⟩]
      exact (this 8).symm
    · rw [if_neg e]
      rcases pAll_01 (c := cZ (vOf a idx s)) 8 with g | g
      · exfalso
        apply e
        refine pDg_zero h.1 h0 hs (fun i hi => ?_)
        rcases h.2.2.2 (i : Int) (by omega) (by omega) with g1 | ⟨r, r0, r8, g1⟩
        · have := pDg_r h.1 i s
          omega
        · have g2 := pAll_at (n := 8) g r0 r8
          unfold cZ at g2
          by_cases g3 : vOf a idx s r = 0
          · unfold vOf at g3
            rw [if_pos ⟨r0, r8, by omega⟩, g1] at g3
            exact g3
          · rw [if_neg g3] at g2
            omega
      · exact g.symm
  | p + 1, s, h0, hs => by
    show pSum (fun r => if al p r = 1 then yG a idx fr (yA a idx fr al N p) p r s else 0) N = pSum (fun r => if al p r = 1 then (if fr p r = 1 then yW fr al N p (vOf a idx s) else if 0 < vOf a idx s r then yW fr al N p (vDn (vOf a idx s) r) else 0) else 0) N
    refine pSum_eq N (fun r r0 r1 => ?_)
    try dsimp only
    by_cases e : al p r = 1
    · rw [if_pos e, if_pos e]
      unfold yG
      by_cases g : fr p r = 1
      · rw [if_pos g, if_pos g]
        exact yA_W h hN hf p s h0 hs
      · rw [if_neg g, if_neg g]
        have hr := hf p r g
        have ev : vOf a idx s r = pDg a (idx r).toNat s := if_pos ⟨r0, by omega, hr⟩
        rw [ev]
        by_cases d : 0 < pDg a (idx r).toNat s
        · have hi := (h.2.1 r).resolve_left hr
          have hq := pDg_dn (n := m) h.1 h0 hs (show (idx r).toNat < m by omega) d
          have hp := pPr_pos h.1 (idx r).toNat
          rw [if_pos d, if_pos d, yA_W h hN hf p _ (by omega) (by omega), vOf_dn h h0 hs hr ⟨r0, by omega⟩ d]
        · rw [if_neg d, if_neg d]
    · rw [if_neg e, if_neg e]
theorem yG_N (h : Rdx a idx m) {A b : Int → Int} {p r : Int} (hf : fr p r ≠ 1 → idx r ≠ -1) : pSum (fun s => yG a idx fr A p r s * b s) (pPr a m).toNat = pSum (fun s => if yN a idx fr p r s = -1 then 0 else A s * b (yN a idx fr p r s)) (pPr a m).toNat := by
  have hS := pPr_pos h.1 m
  by_cases g : fr p r = 1
  · refine pSum_eq _ (fun s h0 hs => ?_)
    try dsimp only
    unfold yG yN
    rw [if_pos g, if_pos g, if_neg (by omega)]
  · have hr := hf g
    have hi := (h.2.1 r).resolve_left hr
    have hp := pPr_pos h.1 (idx r).toNat
    have hai := h.1 (idx r)
    have hc : ((idx r).toNat : Int) = idx r := by omega
    generalize hii : (idx r).toNat = i at hp hc
    have him : i < m := by omega
    -- what one more makes of a state
    let F : Int → Int := fun x => if pDg a i x < a i then A x * b (x + pPr a i) else 0
    have e1 : pSum (fun s => yG a idx fr A p r s * b s) (pPr a m).toNat = pSum (fun s => if ((pPr a i).toNat : Int) ≤ s then F (s - ((pPr a i).toNat : Int)) else 0) (pPr a m).toNat := by
      refine pSum_eq _ (fun s h0 hs => ?_)
      try dsimp only
      unfold yG
      rw [if_neg g, hii, show ((pPr a i).toNat : Int) = pPr a i by omega]
      by_cases d : 0 < pDg a i s
      · have hq := pDg_dn (n := m) h.1 h0 (by omega) him d
        have hd := pDg_r h.1 i s
        rw [if_pos d, if_pos hq.1]
        show _ = if pDg a i (s - pPr a i) < a i then A (s - pPr a i) * b (s - pPr a i + pPr a i) else 0
        rw [if_pos (by omega), show s - pPr a i + pPr a i = s by omega]
      · rw [if_neg d, Int.zero_mul]
        by_cases q : pPr a i ≤ s
        · rw [if_pos q]
          show _ = if pDg a i (s - pPr a i) < a i then A (s - pPr a i) * b (s - pPr a i + pPr a i) else 0
          rw [if_neg]
          intro z
          have hu := pDg_up (n := m) h.1 (s := s - pPr a i) (by omega) (by omega) him z
          rw [show s - pPr a i + pPr a i = s by omega] at hu
          have hd := pDg_r h.1 i (s - pPr a i)
          omega
        · rw [if_neg q]
    have e2 : pSum (fun s => if yN a idx fr p r s = -1 then 0 else A s * b (yN a idx fr p r s)) (pPr a m).toNat = pSum F (pPr a m).toNat := by
      refine pSum_eq _ (fun s h0 hs => ?_)
      try dsimp only
      unfold yN
      rw [if_neg g, hii]
      show _ = if pDg a i s < a i then A s * b (s + pPr a i) else 0
      rw [← hc]
      by_cases d : pDg a i s < a i
      · rw [if_pos d, if_pos d, if_neg (by omega)]
      · rw [if_neg d, if_neg d, if_pos rfl]
    rw [e1, e2]
    have hle : pPr a i ≤ pPr a m := by
      obtain ⟨k, k1, hk⟩ := pPr_dvd h.1 him
      have h1 : pPr a i * 1 ≤ pPr a i * ((1 + a i) * k) := Int.mul_le_mul_of_nonneg_left (by
        have := Int.mul_le_mul (show (1 : Int) ≤ 1 + a i by have := h.1 i; omega) k1 (by omega) (by have := h.1 i; omega)
        omega) (by omega)
      rw [hk, Int.mul_assoc]
      omega
    have e3 : (pPr a m).toNat = ((pPr a m).toNat - (pPr a i).toNat) + (pPr a i).toNat := by omega
    rw [e3, pSum_shift (f := F) (pPr a i).toNat ((pPr a m).toNat - (pPr a i).toNat), ← e3]
    refine (pSum_tail (by omega) (fun x x0 x1 => ?_)).symm
    show (if pDg a i x < a i then A x * b (x + pPr a i) else 0) = 0
    rw [if_neg]
    intro z
    have hu := pDg_up (n := m) h.1 (s := x) (by omega) (by omega) him z
    omega
theorem ydual (h : Rdx a idx m) (hf : ∀ p r, fr p r ≠ 1 → idx r ≠ -1) {n : Nat} : ∀ (k p : Nat), p + k = n → pSum (fun s => yA a idx fr al N p s * yB a idx fr al N m n k s) (pPr a m).toNat = yA a idx fr al N n (pPr a m - 1)
  | 0, p, e => by
    have hS := pPr_pos h.1 m
    have e2 : p = n := by omega
    subst e2
    rw [pSum_one (k := pPr a m - 1) (by omega) (by omega)]
    · show _ * (if pPr a m - 1 = pPr a m - 1 then (1 : Int) else 0) = _
      rw [if_pos rfl, Int.mul_one]
    · intro x x0 x1 x2
      show _ * (if x = pPr a m - 1 then (1 : Int) else 0) = 0
      rw [if_neg x2, Int.mul_zero]
  | k + 1, p, e => by
    have ih := ydual (n := n) h hf k (p + 1) (by omega)
    rw [← ih]
    have hp : ((n : Int) - k - 1) = p := by omega
    -- by what the next one does
    have e1 : ∀ s, yA a idx fr al N (p + 1) s = pSum (fun r => if al p r = 1 then yG a idx fr (yA a idx fr al N p) p r s else 0) N := fun _ => rfl
    have e2 : ∀ s, yB a idx fr al N m n (k + 1) s = pSum (fun r => if al p r = 1 then (if yN a idx fr p r s = -1 then 0 else yB a idx fr al N m n k (yN a idx fr p r s)) else 0) N := fun s => by
      show pSum (fun r => if al ((n : Int) - k - 1) r = 1 then (if yN a idx fr ((n : Int) - k - 1) r s = -1 then 0 else yB a idx fr al N m n k (yN a idx fr ((n : Int) - k - 1) r s)) else 0) N = _
      rw [hp]
    have l1 : pSum (fun s => yA a idx fr al N p s * yB a idx fr al N m n (k + 1) s) (pPr a m).toNat = pSum (fun s => pSum (fun r => yA a idx fr al N p s * (if al p r = 1 then (if yN a idx fr p r s = -1 then 0 else yB a idx fr al N m n k (yN a idx fr p r s)) else 0)) N) (pPr a m).toNat := by
      refine pSum_eq _ (fun s _ _ => ?_)
      try dsimp only
      rw [e2, pSum_mull]
    have l2 : pSum (fun s => yA a idx fr al N (p + 1) s * yB a idx fr al N m n k s) (pPr a m).toNat = pSum (fun s => pSum (fun r => (if al p r = 1 then yG a idx fr (yA a idx fr al N p) p r s else 0) * yB a idx fr al N m n k s) N) (pPr a m).toNat := by
      refine pSum_eq _ (fun s _ _ => ?_)
      try dsimp only
      rw [e1, pSum_mul]
    rw [l1, l2, pSum_swap (fun s r => yA a idx fr al N p s * (if al p r = 1 then (if yN a idx fr p r s = -1 then 0 else yB a idx fr al N m n k (yN a idx fr p r s)) else 0)), pSum_swap (fun s r => (if al p r = 1 then yG a idx fr (yA a idx fr al N p) p r s else 0) * yB a idx fr al N m n k s)]
    refine pSum_eq N (fun r _ _ => ?_)
    try dsimp only
    by_cases g : al p r = 1
    · have := yG_N h (A := yA a idx fr al N p) (b := yB a idx fr al N m n k) (p := (p : Int)) (r := r) (fr := fr) (hf p r)
      simp only [if_pos g]
      rw [this]
      refine pSum_eq _ (fun s _ _ => ?_)
      try dsimp only
      split
      · exact Int.mul_zero _
      · rfl
    · simp only [if_neg g, Int.mul_zero, Int.zero_mul]
end WAY
