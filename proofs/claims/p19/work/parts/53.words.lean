/-! the words of a text: where the next one begins and ends, its kind, its value -/
def owRF (q : Int → Bool) (s : Nat → Int) : Nat → Int → Int
  | 0, p => p
  | k + 1, p => if q (s p.toNat) = true then owRF q s k (p + 1) else p
/-- the end of the row of bytes that have q, from p on -/
def owR (q : Int → Bool) (s : Nat → Int) (n p : Int) : Int := owRF q s (n - p).toNat p
def owb (c : Int) : Bool := decide (c = 10 ∨ c = 32)
def owl (c : Int) : Bool := decide (97 ≤ c ∧ c ≤ 122)
def owd (c : Int) : Bool := decide (48 ≤ c ∧ c ≤ 57)
theorem owb_t {c : Int} : owb c = true ↔ c = 10 ∨ c = 32 := by unfold owb; exact decide_eq_true_iff
theorem owl_t {c : Int} : owl c = true ↔ 97 ≤ c ∧ c ≤ 122 := by unfold owl; exact decide_eq_true_iff
theorem owd_t {c : Int} : owd c = true ↔ 48 ≤ c ∧ c ≤ 57 := by unfold owd; exact decide_eq_true_iff
theorem owR_step {q : Int → Bool} {s : Nat → Int} {n p : Int} (h : p < n) (hq : q (s p.toNat) = true) : owR q s n p = owR q s n (p + 1) := by
  unfold owR
  rw [show (n - p).toNat = (n - (p + 1)).toNat + 1 by omega]
  show (if q (s p.toNat) = true then owRF q s (n - (p + 1)).toNat (p + 1) else p) = _
  rw [if_pos hq]
theorem owR_stop {q : Int → Bool} {s : Nat → Int} {n p : Int} (h : n ≤ p ∨ ¬ q (s p.toNat) = true) : owR q s n p = p := by
  unfold owR
  by_cases g : n ≤ p
  · rw [show (n - p).toNat = 0 by omega]
    rfl
  · rw [show (n - p).toNat = (n - (p + 1)).toNat + 1 by omega]
    show (if q (s p.toNat) = true then owRF q s (n - (p + 1)).toNat (p + 1) else p) = _
    rw [if_neg (h.resolve_left g)]
theorem owRF_le (q : Int → Bool) (s : Nat → Int) : ∀ (k : Nat) (p : Int), p ≤ owRF q s k p ∧ owRF q s k p ≤ p + k
  | 0, p => ⟨Int.le_refl _, by show p ≤ p + ((0 : Nat) : Int); omega⟩
  | k + 1, p => by
    have := owRF_le q s k (p + 1)
    unfold owRF
    split <;> omega
theorem owR_le (q : Int → Bool) (s : Nat → Int) {n p : Int} (h : p ≤ n) : p ≤ owR q s n p ∧ owR q s n p ≤ n := by
  have := owRF_le q s (n - p).toNat p
  unfold owR
  omega
theorem owR_ge (q : Int → Bool) (s : Nat → Int) (n p : Int) : p ≤ owR q s n p := (owRF_le q s (n - p).toNat p).1
theorem owRF_in (q : Int → Bool) (s : Nat → Int) : ∀ (k : Nat) (p i : Int), p ≤ i → i < owRF q s k p → q (s i.toNat) = true
  | 0, p, i, h1, h2 => by
    have : i < p := h2
    omega
  | k + 1, p, i, h1, h2 => by
    unfold owRF at h2
    split at h2
    next g =>
      by_cases e : i = p
      · rw [e]; exact g
      · exact owRF_in q s k (p + 1) i (by omega) h2
    next g => omega
theorem owR_in {q : Int → Bool} {s : Nat → Int} {n p i : Int} (h1 : p ≤ i) (h2 : i < owR q s n p) : q (s i.toNat) = true := owRF_in q s _ p i h1 h2
theorem owRF_end (q : Int → Bool) (s : Nat → Int) : ∀ (k : Nat) (p : Int), owRF q s k p < p + k → ¬ q (s (owRF q s k p).toNat) = true
  | 0, p, h => by
    have : p < p + ((0 : Nat) : Int) := h
    omega
  | k + 1, p, h => by
    unfold owRF at h ⊢
    split at h
    next g =>
      rw [if_pos g]
      exact owRF_end q s k (p + 1) (by omega)
    next g =>
      rw [if_neg g]
      exact g
theorem owR_end {q : Int → Bool} {s : Nat → Int} {n p : Int} (h : owR q s n p < n) : ¬ q (s (owR q s n p).toNat) = true := by
  refine owRF_end q s _ p ?_
  have := owR_ge q s n p
  unfold owR at h this
  omega
/-- the row is the same from any of its places -/
theorem owR_idem (q : Int → Bool) (s : Nat → Int) (n p : Int) : owR q s n (owR q s n p) = owR q s n p := by
  by_cases h : owR q s n p < n
  · exact owR_stop (Or.inr (owR_end h))
  · exact owR_stop (Or.inl (by omega))
abbrev owAl (c : Int) : Prop := (97 ≤ c ∧ c ≤ 122) ∨ (48 ≤ c ∧ c ≤ 57)
def owOl : List Int := [54525952, 308281344, 522190848, 773619712, 527892480, 48365568, 486146048, 46530560, 446103552, 438042624, 620213248, 150456320, 781325312, 650632192, 214416960, 672503392, 109094464, 113741152, 542723566, 659111367, 351582372, 658552979, 86148467, 777297172]
def owPk (u : Nat → Int) : Nat → Int
  | 0 => 0
  | k + 1 => 32 * owPk u k + (u k - 96)
def owP8 (u : Nat → Int) : Nat → Int
  | 0 => 0
  | k + 1 => 256 * owP8 u k + u k
def owPn (u : Nat → Int) : Nat → Int
  | 0 => 0
  | k + 1 => 10 * owPn u k + (u k - 48)
/-- the text from b on -/
def owS (s : Nat → Int) (b : Int) : Nat → Int := fun i => s (b + (i : Int)).toNat
theorem owS_at {s : Nat → Int} {b c : Int} (h : b ≤ c) : owS s b (c - b).toNat = s c.toNat := by
  unfold owS
  congr 1
  omega
abbrev owAd (s : Nat → Int) (b : Int) : Prop := 0 < b ∧ ((97 ≤ s (b - 1).toNat ∧ s (b - 1).toNat ≤ 122) ∨ (48 ≤ s (b - 1).toNat ∧ s (b - 1).toNat ≤ 57))
/-- a word's end, kind and value, from its first letter on -/
def owEw (s : Nat → Int) (n b : Int) : Int := owR owl s n b
def owEn (s : Nat → Int) (n b : Int) : Int := owR owd s n b
abbrev owCp (s : Nat → Int) (n b : Int) : Prop := owEw s n b - b = 9 ∧ owPk (owS s b) 9 = 3352764567730
def owP6 (s : Nat → Int) (n b : Int) : Int := owPk (owS s b) (owEw s n b - b).toNat * 32 ^ (6 - (owEw s n b - b)).toNat
def owVw (s : Nat → Int) (n b : Int) : Int := if owCp s n b then 1 else owP6 s n b
def owKw (s : Nat → Int) (n b : Int) : Int := if owCp s n b then 1 else if 6 < owEw s n b - b then 5 else if owP6 s n b ∈ owOl then 1 else 2
def owVn (s : Nat → Int) (n b : Int) : Int := owPn (owS s b) (owEn s n b - b).toNat
def owKn (s : Nat → Int) (n b : Int) : Int := if 4 < owEn s n b - b then 5 else 3
abbrev owLt (c : Int) : Prop := 97 ≤ c ∧ c ≤ 122
abbrev owDg (c : Int) : Prop := 48 ≤ c ∧ c ≤ 57
/-- the word that is next from p on: its beginning, end, kind (0 end, 1 own word, 2 name, 3 number, 4 sign, 5 bad), value, bad place -/
def owB (s : Nat → Int) (n p : Int) : Int := owR owb s n p
def owE (s : Nat → Int) (n p : Int) : Int := if n ≤ owB s n p then owB s n p else if owLt (s (owB s n p).toNat) then owEw s n (owB s n p) else if owDg (s (owB s n p).toNat) then owEn s n (owB s n p) else owB s n p + 1
def owK (s : Nat → Int) (n p : Int) : Int := if n ≤ owB s n p then 0 else if owLt (s (owB s n p).toNat) ∨ owDg (s (owB s n p).toNat) then (if owAd s (owB s n p) then 5 else if owLt (s (owB s n p).toNat) then owKw s n (owB s n p) else owKn s n (owB s n p)) else 4
def owV (s : Nat → Int) (n p : Int) : Int := if owLt (s (owB s n p).toNat) then owVw s n (owB s n p) else if owDg (s (owB s n p).toNat) then owVn s n (owB s n p) else s (owB s n p).toNat
def owX (s : Nat → Int) (n p : Int) : Int := if owAd s (owB s n p) then owB s n p else if owLt (s (owB s n p).toNat) then owB s n p + 6 else owB s n p + 4
section TOK
variable {s : Nat → Int} {n p b : Int}
theorem owB_rng (h : p ≤ n) : p ≤ owB s n p ∧ owB s n p ≤ n := owR_le _ _ h
theorem owB_ge : p ≤ owB s n p := owR_ge _ _ _ _
theorem owEw_in (h : b < n) (hl : owLt (s b.toNat)) : b + 1 ≤ owEw s n b ∧ owEw s n b ≤ n := by
  unfold owEw
  rw [owR_step h (owl_t.mpr hl)]
  exact owR_le _ _ (by omega)
theorem owEn_in (h : b < n) (hl : owDg (s b.toNat)) : b + 1 ≤ owEn s n b ∧ owEn s n b ≤ n := by
  unfold owEn
  rw [owR_step h (owd_t.mpr hl)]
  exact owR_le _ _ (by omega)
theorem owE_rng (h : p ≤ n) : owB s n p ≤ owE s n p ∧ owE s n p ≤ n ∧ (owB s n p < n → owB s n p + 1 ≤ owE s n p) := by
  have := owB_rng (s := s) h
  unfold owE
  split
  next g => omega
  next g =>
    split
    next g2 => have := owEw_in (s := s) (n := n) (by omega) g2; omega
    next g2 =>
      split
      next g3 => have := owEn_in (s := s) (n := n) (by omega) g3; omega
      next g3 => omega
theorem owKw_rng : owKw s n b = 1 ∨ owKw s n b = 2 ∨ owKw s n b = 5 := by
  unfold owKw
  (repeat' split) <;> omega
theorem owKn_rng : owKn s n b = 3 ∨ owKn s n b = 5 := by
  unfold owKn
  (repeat' split) <;> omega
theorem owK_rng : 0 ≤ owK s n p ∧ owK s n p ≤ 5 := by
  have h1 := owKw_rng (s := s) (n := n) (b := owB s n p)
  have h2 := owKn_rng (s := s) (n := n) (b := owB s n p)
  unfold owK
  (repeat' split) <;> omega
theorem owK0 : owK s n p = 0 ↔ n ≤ owB s n p := by
  have h1 := owKw_rng (s := s) (n := n) (b := owB s n p)
  have h2 := owKn_rng (s := s) (n := n) (b := owB s n p)
  unfold owK
  constructor
  · intro h
    (repeat' split at h) <;> omega
  · intro h
    rw [if_pos h]
theorem owB_idem : owB s n (owB s n p) = owB s n p := owR_idem _ _ _ _
theorem owE_of (h : owB s n p = owB s n b) : owE s n p = owE s n b := by unfold owE; rw [h]
theorem owK_of (h : owB s n p = owB s n b) : owK s n p = owK s n b := by unfold owK; rw [h]
theorem owV_of (h : owB s n p = owB s n b) : owV s n p = owV s n b := by unfold owV; rw [h]
theorem owX_of (h : owB s n p = owB s n b) : owX s n p = owX s n b := by unfold owX; rw [h]
/-- behind a word or a number there stands its last letter or digit, behind a sign the sign -/
theorem ow_last (hp : p ≤ n) (h0 : 0 ≤ p) (h1 : 1 ≤ owK s n p) (h3 : owK s n p ≤ 3) : 0 < owE s n p ∧ (owLt (s (owE s n p - 1).toNat) ∨ owDg (s (owE s n p - 1).toNat)) := by
  have hb := owB_rng (s := s) hp
  have hK : ¬ n ≤ owB s n p := fun g => by have := owK0.mpr g; omega
  unfold owK at h1 h3
  rw [if_neg hK] at h1 h3
  by_cases hl : owLt (s (owB s n p).toNat)
  · have he := owEw_in (s := s) (n := n) (by omega) hl
    have e : owE s n p = owEw s n (owB s n p) := by unfold owE; rw [if_neg hK, if_pos hl]
    rw [e]
    refine ⟨by omega, Or.inl (owl_t.mp ?_)⟩
    exact owR_in (p := owB s n p) (i := owEw s n (owB s n p) - 1) (n := n) (by omega) (show _ < owEw s n (owB s n p) by omega)
  · by_cases hd : owDg (s (owB s n p).toNat)
    · have he := owEn_in (s := s) (n := n) (by omega) hd
      have e : owE s n p = owEn s n (owB s n p) := by unfold owE; rw [if_neg hK, if_neg hl, if_pos hd]
      rw [e]
      refine ⟨by omega, Or.inr (owd_t.mp ?_)⟩
      exact owR_in (p := owB s n p) (i := owEn s n (owB s n p) - 1) (n := n) (by omega) (show _ < owEn s n (owB s n p) by omega)
    · rw [if_neg (by omega)] at h3
      omega
theorem ow_sign (hp : p ≤ n) (h4 : owK s n p = 4) : owE s n p = owB s n p + 1 ∧ owB s n p < n ∧ ¬ owLt (s (owB s n p).toNat) ∧ ¬ owDg (s (owB s n p).toNat) ∧ owV s n p = s (owB s n p).toNat := by
  have hb := owB_rng (s := s) hp
  have hK : ¬ n ≤ owB s n p := fun g => by have := owK0.mpr g; omega
  have h5 := owKw_rng (s := s) (n := n) (b := owB s n p)
  have h6 := owKn_rng (s := s) (n := n) (b := owB s n p)
  unfold owK at h4
  rw [if_neg hK] at h4
  by_cases hl : owLt (s (owB s n p).toNat)
  · rw [if_pos (Or.inl hl), if_pos hl] at h4
    split at h4 <;> omega
  · by_cases hd : owDg (s (owB s n p).toNat)
    · rw [if_pos (Or.inr hd), if_neg hl] at h4
      split at h4 <;> omega
    · refine ⟨?_, by omega, hl, hd, ?_⟩
      · unfold owE; rw [if_neg hK, if_neg hl, if_neg hd]
      · unfold owV; rw [if_neg hl, if_neg hd]
end TOK
/-- the class's reader stands behind the word that is next from p on -/
def LxA (M : cM) (s : Nat → Int) (n p : Int) : Prop := M 2 = s ∧ M 5 1 = n ∧ 0 ≤ p ∧ p ≤ n ∧ M 5 3 = owK s n p ∧ M 5 5 = owB s n p ∧ (owK s n p = 5 → M 5 6 = 1 ∧ M 5 7 = owX s n p) ∧ (owK s n p ≠ 5 → M 5 6 = 0 ∧ M 5 2 = owE s n p) ∧ (1 ≤ owK s n p → owK s n p ≤ 4 → M 5 4 = owV s n p)
/-- it stands ahead of the word that is next from p on -/
def LxP (M : cM) (s : Nat → Int) (n p : Int) : Prop := M 2 = s ∧ M 5 1 = n ∧ 0 ≤ p ∧ p ≤ M 5 2 ∧ M 5 2 ≤ owB s n p ∧ p ≤ n ∧ M 5 6 = 0 ∧ ((1 ≤ M 5 3 ∧ M 5 3 ≤ 3 ∧ M 5 2 = p ∧ (owAd s p)) ∨ ((M 5 3 = 0 ∨ M 5 3 = 4) ∧ (M 5 2 = owB s n p → M 5 2 < n → ¬ owAd s (M 5 2))))
theorem LxA.nx {M : cM} {s : Nat → Int} {n p : Int} (h : LxA M s n p) (h1 : 1 ≤ owK s n p) (h4 : owK s n p ≤ 4) : LxP M s n (owE s n p) := by
  obtain ⟨a1, a2, a3, a4, a5, a6, a7, a8, a9⟩ := h
  have a8 := a8 (by omega)
  have hb := owB_rng (s := s) a4
  have he := owE_rng (s := s) a4
  have hb2 := owB_ge (s := s) (n := n) (p := owE s n p)
  refine ⟨a1, a2, by omega, by omega, by omega, by omega, by omega, ?_⟩
  by_cases h3 : owK s n p ≤ 3
  · have hl := ow_last a4 a3 h1 h3
    exact Or.inl ⟨by omega, by omega, a8.2, hl.1, hl.2⟩
  · refine Or.inr ⟨by omega, fun e1 e2 => ?_⟩
    have hs := ow_sign a4 (show owK s n p = 4 by omega)
    rw [a8.2, hs.1]
    rintro ⟨_, g⟩
    rw [show owB s n p + 1 - 1 = owB s n p by omega] at g
    exact g.elim hs.2.2.1 hs.2.2.2.1
/-- whether the word ahead stands right behind another, by the class's test -/
theorem LxP.ad {M : cM} {s : Nat → Int} {n p : Int} (h : LxP M s n p) (hn : owB s n p < n) : owAd s (owB s n p) ↔ ((1 ≤ M 5 3 ∧ M 5 3 ≤ 3) ∧ M 5 2 = owB s n p) := by
  obtain ⟨a1, a2, a3, a4, a5, a6, a7, a8⟩ := h
  by_cases e : M 5 2 = owB s n p
  · rcases a8 with ⟨b1, b2, b3, b4⟩ | ⟨b1, b2⟩
    · have e2 : owB s n p = p := by omega
      rw [e2]
      exact ⟨fun _ => ⟨⟨b1, b2⟩, b3⟩, fun _ => b4⟩
    · have := b2 e (by omega)
      rw [e] at this
      exact ⟨fun g => absurd g this, fun g => by omega⟩
  · constructor
    · rintro ⟨g1, g2⟩
      have : owb (s (owB s n p - 1).toNat) = true := owR_in (p := p) (n := n) (by omega) (show _ < owB s n p by omega)
      have := owb_t.mp this
      omega
    · rintro ⟨_, g⟩
      exact absurd g e
/-! bits: shifting and joining, exactly -/
def owAnd (v w : Int) : Int := c_bin (· &&& ·) v w
def owLor (v w : Int) : Int := c_binL (· ||| ·) v w
def owShl (v w : Int) : Int := (Int64.ofInt v <<< ((Int32.ofInt w).toInt64 &&& 63)).toInt
def owL2i (v : Int) : Int := (Int64.ofInt v).toInt32.toInt
theorem owAnd_31 {c : Int} (h1 : 97 ≤ c) (h2 : c ≤ 122) : owAnd c 31 = c - 96 := by
  have : c = 97 ∨ c = 98 ∨ c = 99 ∨ c = 100 ∨ c = 101 ∨ c = 102 ∨ c = 103 ∨ c = 104 ∨ c = 105 ∨ c = 106 ∨ c = 107 ∨ c = 108 ∨ c = 109 ∨ c = 110 ∨ c = 111 ∨ c = 112 ∨ c = 113 ∨ c = 114 ∨ c = 115 ∨ c = 116 ∨ c = 117 ∨ c = 118 ∨ c = 119 ∨ c = 120 ∨ c = 121 ∨ c = 122 := by omega
  rcases this with rfl | rfl | rfl | rfl | rfl | rfl | rfl | rfl | rfl | rfl | rfl | rfl | rfl | rfl | rfl | rfl | rfl | rfl | rfl | rfl | rfl | rfl | rfl | rfl | rfl | rfl <;> decide
theorem i64_shl {x : Int64} {z : Int64} {k : Nat} (hz : (z.toBitVec.smod 64).toNat = k) : x <<< z = x * Int64.ofBitVec (BitVec.twoPow 64 k) := by
  apply Int64.toBitVec_inj.mp
  rw [Int64.toBitVec_shiftLeft, Int64.toBitVec_mul, BitVec.shiftLeft_eq', hz, BitVec.shiftLeft_eq_mul_twoPow]
  rfl
theorem owShl_eq {v w c : Int} {k : Nat} (hz : ((((Int32.ofInt w).toInt64 &&& 63 : Int64)).toBitVec.smod 64).toNat = k) (hc : Int64.ofBitVec (BitVec.twoPow 64 k) = Int64.ofInt c) (h1 : -9223372036854775808 ≤ v * c) (h2 : v * c ≤ 9223372036854775807) : owShl v w = v * c := by
  unfold owShl
  rw [i64_shl hz, hc, ← Int64.ofInt_mul]
  exact bmod64 h1 h2
theorem owShl_5 {v : Int} (h1 : 0 ≤ v) (h2 : v ≤ 288230376151711743) : owShl v 5 = v * 32 := owShl_eq (k := 5) (by decide) (by decide) (by omega) (by omega)
theorem owShl_8 {v : Int} (h1 : 0 ≤ v) (h2 : v ≤ 36028797018963967) : owShl v 8 = v * 256 := owShl_eq (k := 8) (by decide) (by decide) (by omega) (by omega)
theorem i64_nat {x : Int} (h1 : 0 ≤ x) (h2 : x ≤ 9223372036854775807) : (Int64.ofInt x).toBitVec.toNat = x.toNat := by
  rw [Int64.toBitVec_ofInt, BitVec.toNat_ofInt]
  congr 1
  exact Int.emod_eq_of_lt h1 (by omega)
theorem owLor_nat {x y : Int} (hx : 0 ≤ x) (hx2 : x ≤ 9223372036854775807) (hy : 0 ≤ y) (hy2 : y ≤ 9223372036854775807) : owLor x y = ((x.toNat ||| y.toNat : Nat) : Int) := by
  unfold owLor c_binL
  dsimp only
  rw [← Int64.toInt_toBitVec, Int64.toBitVec_or]
  have e : ((Int64.ofInt x).toBitVec ||| (Int64.ofInt y).toBitVec).toNat = x.toNat ||| y.toNat := by rw [BitVec.toNat_or, i64_nat hx hx2, i64_nat hy hy2]
  have hl : x.toNat ||| y.toNat < 2 ^ 63 := Nat.or_lt_two_pow (by omega) (by omega)
  rw [BitVec.toInt_eq_toNat_of_lt (by rw [e]; omega), e]
theorem owLor_add {x y a : Int} {k : Nat} (hk : (2 ^ k : Int) ≤ 4294967296) (hx : x = a * 2 ^ k) (ha : 0 ≤ a) (hx2 : x ≤ 9223372036854775807) (hy : 0 ≤ y) (hy2 : y < 2 ^ k) : owLor x y = x + y := by
  have hp : (0 : Int) < 2 ^ k := Int.pow_pos (by decide)
  have hx0 : 0 ≤ x := by rw [hx]; exact Int.mul_nonneg ha (by omega)
  rw [owLor_nat hx0 hx2 hy (by omega)]
  have e1 : x.toNat = a.toNat <<< k := by
    rw [Nat.shiftLeft_eq]
    apply Int.ofNat.inj
    show ((x.toNat : Nat) : Int) = ((a.toNat * 2 ^ k : Nat) : Int)
    rw [Int.natCast_mul, Int.natCast_pow, Int.toNat_of_nonneg hx0, Int.toNat_of_nonneg ha, hx]
    rfl
  have e2 : y.toNat < 2 ^ k := by
    apply Int.ofNat_lt.mp
    rw [Int.natCast_pow, Int.toNat_of_nonneg hy]
    exact hy2
  rw [e1, ← Nat.shiftLeft_add_eq_or_of_lt e2, ← e1, Int.natCast_add, Int.toNat_of_nonneg hx0, Int.toNat_of_nonneg hy]
theorem owLor_5 {v c : Int} (h1 : 0 ≤ v) (h2 : v ≤ 288230376151711743) (hc : 0 ≤ c) (hc2 : c < 32) : owLor (owShl v 5) c = 32 * v + c := by
  rw [owShl_5 h1 h2, owLor_add (a := v) (k := 5) (by decide) (by omega) h1 (by omega) hc (by omega)]
  omega
theorem owLor_8 {v c : Int} (h1 : 0 ≤ v) (h2 : v ≤ 36028797018963967) (hc : 0 ≤ c) (hc2 : c < 256) : owLor (owShl v 8) c = 256 * v + c := by
  rw [owShl_8 h1 h2, owLor_add (a := v) (k := 8) (by decide) (by omega) h1 (by omega) hc (by omega)]
  omega
theorem owShl_p {v z : Int} (hz : 1 ≤ z ∧ z ≤ 6) (h1 : 0 ≤ v) (h2 : v < 32 ^ z.toNat) : owShl v (5 * (6 - z)) = v * 32 ^ (6 - z).toNat ∧ 0 ≤ v * 32 ^ (6 - z).toNat ∧ v * 32 ^ (6 - z).toNat < 1073741824 := by
  have : z = 1 ∨ z = 2 ∨ z = 3 ∨ z = 4 ∨ z = 5 ∨ z = 6 := by omega
  rcases this with rfl | rfl | rfl | rfl | rfl | rfl
  · refine ⟨owShl_eq (k := 25) (c := 33554432) (by decide) (by decide) ?_ ?_, ?_, ?_⟩ <;> simp at h2 ⊢ <;> omega
  · refine ⟨owShl_eq (k := 20) (c := 1048576) (by decide) (by decide) ?_ ?_, ?_, ?_⟩ <;> simp at h2 ⊢ <;> omega
  · refine ⟨owShl_eq (k := 15) (c := 32768) (by decide) (by decide) ?_ ?_, ?_, ?_⟩ <;> simp at h2 ⊢ <;> omega
  · refine ⟨owShl_eq (k := 10) (c := 1024) (by decide) (by decide) ?_ ?_, ?_, ?_⟩ <;> simp at h2 ⊢ <;> omega
  · refine ⟨owShl_eq (k := 5) (c := 32) (by decide) (by decide) ?_ ?_, ?_, ?_⟩ <;> simp at h2 ⊢ <;> omega
  · refine ⟨owShl_eq (k := 0) (c := 1) (by decide) (by decide) ?_ ?_, ?_, ?_⟩ <;> simp at h2 ⊢ <;> omega
section PCK
variable {s : Nat → Int} {n p b q c x : Int}
theorem owPk_rng {u : Nat → Int} : ∀ (k : Nat), (∀ i, i < k → 97 ≤ u i ∧ u i ≤ 122) → 0 ≤ owPk u k ∧ owPk u k < 32 ^ k
  | 0, _ => ⟨Int.le_refl _, show (0 : Int) < 32 ^ 0 by decide⟩
  | k + 1, h => by
    have h1 := owPk_rng k (fun i hi => h i (by omega))
    have h2 := h k (by omega)
    show 0 ≤ 32 * owPk u k + (u k - 96) ∧ 32 * owPk u k + (u k - 96) < 32 ^ (k + 1)
    rw [Int.pow_succ]
    omega
theorem owPn_rng {u : Nat → Int} : ∀ (k : Nat), (∀ i, i < k → 48 ≤ u i ∧ u i ≤ 57) → 0 ≤ owPn u k ∧ owPn u k < 10 ^ k
  | 0, _ => ⟨Int.le_refl _, show (0 : Int) < 10 ^ 0 by decide⟩
  | k + 1, h => by
    have h1 := owPn_rng k (fun i hi => h i (by omega))
    have h2 := h k (by omega)
    show 0 ≤ 10 * owPn u k + (u k - 48) ∧ 10 * owPn u k + (u k - 48) < 10 ^ (k + 1)
    rw [Int.pow_succ]
    omega
theorem owP8_rng {u : Nat → Int} : ∀ (k : Nat), (∀ i, i < k → 0 ≤ u i ∧ u i ≤ 255) → 0 ≤ owP8 u k ∧ owP8 u k < 256 ^ k
  | 0, _ => ⟨Int.le_refl _, show (0 : Int) < 256 ^ 0 by decide⟩
  | k + 1, h => by
    have h1 := owP8_rng k (fun i hi => h i (by omega))
    have h2 := h k (by omega)
    show 0 ≤ 256 * owP8 u k + u k ∧ 256 * owP8 u k + u k < 256 ^ (k + 1)
    rw [Int.pow_succ]
    omega
theorem owS_lt (h : q ≤ owEw s n b) : ∀ i, i < (q - b).toNat → 97 ≤ owS s b i ∧ owS s b i ≤ 122 := fun i hi => by
  have := owR_in (q := owl) (s := s) (n := n) (p := b) (i := b + (i : Int)) (by omega) (show _ < owEw s n b by omega)
  exact owl_t.mp this
theorem owS_dg (h : q ≤ owEn s n b) : ∀ i, i < (q - b).toNat → 48 ≤ owS s b i ∧ owS s b i ≤ 57 := fun i hi => by
  have := owR_in (q := owd) (s := s) (n := n) (p := b) (i := b + (i : Int)) (by omega) (show _ < owEn s n b by omega)
  exact owd_t.mp this
theorem owPk_r {k : Nat} {m : Int} (h : q ≤ owEw s n b) (hk : k = (q - b).toNat) (hm : k ≤ 9) : 0 ≤ owPk (owS s b) k ∧ owPk (owS s b) k < 35184372088832 := by
  have h1 := owPk_rng (u := owS s b) k (by rw [hk]; exact owS_lt h)
  have h2 : (32 : Int) ^ k ≤ 32 ^ 9 := by
    have := Int.ofNat_le.mpr (Nat.pow_le_pow_right (show 0 < 32 by decide) hm)
    rw [Int.natCast_pow, Int.natCast_pow] at this
    exact this
  have h3 : (32 : Int) ^ 9 = 35184372088832 := by decide
  omega
/-- one more letter -/
theorem owPk_step (hb : b ≤ q) (he : q + 1 ≤ owEw s n b) (hc : s q.toNat = c) (hx : q - b ≤ 9 → x = owPk (owS s b) (q - b).toNat) : q + 1 - b ≤ 9 → owLor (owShl x 5) (owAnd c 31) = owPk (owS s b) (q + 1 - b).toNat := by
  intro h
  have hr := owPk_r (m := 0) (s := s) (n := n) (b := b) (q := q) (by omega) rfl (by omega)
  rw [← hx (by omega)] at hr
  have hl := owS_lt (s := s) (n := n) (b := b) he (q - b).toNat (by omega)
  rw [owS_at hb, hc] at hl
  rw [owAnd_31 hl.1 hl.2, owLor_5 hr.1 (by omega) (by omega) (by omega), show (q + 1 - b).toNat = (q - b).toNat + 1 by omega, hx (by omega)]
  show _ = 32 * owPk (owS s b) (q - b).toNat + (owS s b (q - b).toNat - 96)
  rw [owS_at hb, hc]
theorem owPn_step (hb : b ≤ q) (hc : s q.toNat = c) (hx : x = owPn (owS s b) (q - b).toNat) : x * 10 + c - 48 = owPn (owS s b) (q + 1 - b).toNat := by
  rw [show (q + 1 - b).toNat = (q - b).toNat + 1 by omega, hx]
  show _ = 10 * owPn (owS s b) (q - b).toNat + (owS s b (q - b).toNat - 48)
  rw [owS_at hb, hc]
  omega
end PCK
section LXA
variable {M : cM} {s : Nat → Int} {n p : Int}
theorem LxA.e0 (h2 : M 2 = s) (h1 : M 5 1 = n) (h0 : 0 ≤ p) (hn : p ≤ n) (h5 : M 5 5 = owB s n p) (hb : n ≤ owB s n p) (h3 : M 5 3 = 0) (h6 : M 5 6 = 0) (hp : M 5 2 = owB s n p) : LxA M s n p := by
  have hK := owK0.mpr hb
  refine ⟨h2, h1, h0, hn, by omega, h5, fun g => by omega, fun _ => ⟨h6, ?_⟩, fun g => by omega⟩
  unfold owE
  rw [if_pos hb]
  exact hp
theorem owK_4 (hb : owB s n p < n) (hl : ¬ owLt (s (owB s n p).toNat)) (hd : ¬ owDg (s (owB s n p).toNat)) : owK s n p = 4 := by
  unfold owK
  rw [if_neg (by omega), if_neg (fun g => g.elim hl hd)]
theorem LxA.e4 {c : Int} (h2 : M 2 = s) (h1 : M 5 1 = n) (h0 : 0 ≤ p) (hn : p ≤ n) (h5 : M 5 5 = owB s n p) (hb : owB s n p < n) (hc : s (owB s n p).toNat = c) (hl : c < 97 ∨ 122 < c) (hd : c < 48 ∨ 57 < c) (h3 : M 5 3 = 4) (h4 : M 5 4 = c) (h6 : M 5 6 = 0) (hp : M 5 2 = owB s n p + 1) : LxA M s n p := by
  have hl' : ¬ owLt (s (owB s n p).toNat) := by rw [hc]; intro g; omega
  have hd' : ¬ owDg (s (owB s n p).toNat) := by rw [hc]; intro g; omega
  have hK := owK_4 hb hl' hd'
  have hs := ow_sign hn hK
  exact ⟨h2, h1, h0, hn, by omega, h5, fun g => by omega, fun _ => ⟨h6, by omega⟩, fun _ _ => by rw [hs.2.2.2.2, hc]; exact h4⟩
theorem LxA.e5 (h2 : M 2 = s) (h1 : M 5 1 = n) (h0 : 0 ≤ p) (hn : p ≤ n) (h5 : M 5 5 = owB s n p) (hb : owB s n p < n) (hl : owLt (s (owB s n p).toNat) ∨ owDg (s (owB s n p).toNat)) (ha : owAd s (owB s n p)) (h3 : M 5 3 = 5) (h6 : M 5 6 = 1) (h7 : M 5 7 = owB s n p) : LxA M s n p := by
  have hK : owK s n p = 5 := by
    unfold owK
    rw [if_neg (by omega), if_pos hl, if_pos ha]
  have hX : owX s n p = owB s n p := by unfold owX; rw [if_pos ha]
  exact ⟨h2, h1, h0, hn, by omega, h5, fun _ => ⟨h6, by omega⟩, fun g => absurd hK g, fun _ g => by omega⟩
theorem LxA.ew (h2 : M 2 = s) (h1 : M 5 1 = n) (h0 : 0 ≤ p) (hn : p ≤ n) (h5 : M 5 5 = owB s n p) (hb : owB s n p < n) (hl : owLt (s (owB s n p).toNat)) (ha : ¬ owAd s (owB s n p)) (h3 : M 5 3 = owKw s n (owB s n p)) (hg : owKw s n (owB s n p) ≠ 5 → M 5 4 = owVw s n (owB s n p) ∧ M 5 2 = owEw s n (owB s n p) ∧ M 5 6 = 0) (hf : owKw s n (owB s n p) = 5 → M 5 6 = 1 ∧ M 5 7 = owB s n p + 6) : LxA M s n p := by
  have hK : owK s n p = owKw s n (owB s n p) := by
    unfold owK
    rw [if_neg (by omega), if_pos (Or.inl hl), if_neg ha, if_pos hl]
  have hX : owX s n p = owB s n p + 6 := by unfold owX; rw [if_neg ha, if_pos hl]
  have hV : owV s n p = owVw s n (owB s n p) := by unfold owV; rw [if_pos hl]
  have hE : owE s n p = owEw s n (owB s n p) := by unfold owE; rw [if_neg (by omega), if_pos hl]
  rw [← hK] at h3 hg hf
  exact ⟨h2, h1, h0, hn, h3, h5, fun g => ⟨(hf g).1, by rw [hX]; exact (hf g).2⟩, fun g => ⟨(hg g).2.2, by rw [hE]; exact (hg g).2.1⟩, fun _ g => by rw [hV]; exact (hg (by omega)).1⟩
theorem LxA.en (h2 : M 2 = s) (h1 : M 5 1 = n) (h0 : 0 ≤ p) (hn : p ≤ n) (h5 : M 5 5 = owB s n p) (hb : owB s n p < n) (hl : ¬ owLt (s (owB s n p).toNat)) (hd : owDg (s (owB s n p).toNat)) (ha : ¬ owAd s (owB s n p)) (h3 : M 5 3 = owKn s n (owB s n p)) (hg : owKn s n (owB s n p) ≠ 5 → M 5 4 = owVn s n (owB s n p) ∧ M 5 2 = owEn s n (owB s n p) ∧ M 5 6 = 0) (hf : owKn s n (owB s n p) = 5 → M 5 6 = 1 ∧ M 5 7 = owB s n p + 4) : LxA M s n p := by
  have hK : owK s n p = owKn s n (owB s n p) := by
    unfold owK
    rw [if_neg (by omega), if_pos (Or.inr hd), if_neg ha, if_neg hl]
  have hX : owX s n p = owB s n p + 4 := by unfold owX; rw [if_neg ha, if_neg hl]
  have hV : owV s n p = owVn s n (owB s n p) := by unfold owV; rw [if_neg hl, if_pos hd]
  have hE : owE s n p = owEn s n (owB s n p) := by unfold owE; rw [if_neg (by omega), if_neg hl, if_pos hd]
  rw [← hK] at h3 hg hf
  exact ⟨h2, h1, h0, hn, h3, h5, fun g => ⟨(hf g).1, by rw [hX]; exact (hf g).2⟩, fun g => ⟨(hg g).2.2, by rw [hE]; exact (hg g).2.1⟩, fun _ g => by rw [hV]; exact (hg (by omega)).1⟩
end LXA
theorem owE_gt {s : Nat → Int} {n p : Int} (h : p ≤ n) (hk : 1 ≤ owK s n p) : p + 1 ≤ owE s n p ∧ owE s n p ≤ n := by
  have h1 := owE_rng (s := s) h
  have h2 := owB_rng (s := s) h
  have h3 := @owK0 s n p
  omega
/-- a fault is told: its kind times 10000 and its place -/
def Flt (M : cM) (f : Int) : Prop := 1 ≤ M 5 6 ∧ 0 ≤ M 5 7 ∧ M 5 7 < 10000 ∧ 10000 * M 5 6 + M 5 7 = f
/-- what is told of a word that may not stand there -/
def owU (s : Nat → Int) (n p : Int) : Int := 10000 + (if owK s n p = 5 then owX s n p else owB s n p)
/-- whether the word is this sign, this own word -/
def owG (s : Nat → Int) (n p c : Int) : Int := if owK s n p = 4 ∧ owV s n p = c then 1 else 0
def owW (s : Nat → Int) (n p w : Int) : Int := if owK s n p = 1 ∧ owV s n p = w then 1 else 0
theorem owX_rng {s : Nat → Int} {n p : Int} : owB s n p ≤ owX s n p ∧ owX s n p ≤ owB s n p + 6 := by
  unfold owX
  (repeat' split) <;> omega
theorem LxA.un {M M1 : cM} {s : Nat → Int} {n p : Int} (h : LxA M s n p) (hn : n ≤ 1600) (hu : (M 5 6 = 0 ∧ M1 5 6 = 1 ∧ M1 5 7 = M 5 5) ∨ (M 5 6 ≠ 0 ∧ M1 5 6 = M 5 6 ∧ M1 5 7 = M 5 7)) : Flt M1 (owU s n p) := by
  obtain ⟨a1, a2, a3, a4, a5, a6, a7, a8, a9⟩ := h
  have hb := owB_rng (s := s) a4
  have hx := owX_rng (s := s) (n := n) (p := p)
  unfold Flt owU
  split
  next g => have := a7 g; omega
  next g => have := a8 g; omega
theorem owG1 {s : Nat → Int} {n p c : Int} (h : owG s n p c = 1) : owK s n p = 4 ∧ owV s n p = c := by
  unfold owG at h
  split at h
  next g => exact g
  next g => omega
theorem owW1 {s : Nat → Int} {n p w : Int} (h : owW s n p w = 1) : owK s n p = 1 ∧ owV s n p = w := by
  unfold owW at h
  split at h
  next g => exact g
  next g => omega
theorem owG01 {s : Nat → Int} {n p c : Int} : owG s n p c = 0 ∨ owG s n p c = 1 := by
  unfold owG
  split <;> omega
theorem owW01 {s : Nat → Int} {n p c : Int} : owW s n p c = 0 ∨ owW s n p c = 1 := by
  unfold owW
  split <;> omega
theorem LxA.fr {S : List (Nat × Nat)} {M M1 : cM} {s : Nat → Int} {n p : Int} (h : LxA M s n p) (g : Fr S M M1) (hs : (S.all fun q => q.1 != 2 && q.1 != 5) = true) : LxA M1 s n p := by
  have h2 : ∀ f, M1 2 f = M 2 f := fun f => g 2 f (nin (by decide) (List.all_eq_true.mpr fun q hq => by have := List.all_eq_true.mp hs q hq; simp at this ⊢; omega) f)
  have h5 : ∀ f, M1 5 f = M 5 f := fun f => g 5 f (nin (by decide) (List.all_eq_true.mpr fun q hq => by have := List.all_eq_true.mp hs q hq; simp at this ⊢; omega) f)
  unfold LxA
  rw [h5, h5, h5, h5, h5, h5, h5, funext h2]
  exact h
theorem LxA.up {M M1 : cM} {s : Nat → Int} {n p v : Int} {k f : Nat} (h : LxA M s n p) (u : Up M k f v M1) (hk : k ≠ 2 ∧ k ≠ 5) : LxA M1 s n p := by
  have h2 : ∀ f, M1 2 f = M 2 f := fun f => u.2 2 f (by omega)
  have h5 : ∀ f, M1 5 f = M 5 f := fun f => u.2 5 f (by omega)
  unfold LxA
  rw [h5, h5, h5, h5, h5, h5, h5, funext h2]
  exact h
