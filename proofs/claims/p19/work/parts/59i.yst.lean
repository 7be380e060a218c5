/-! the reference's readers: a fault, or the words' place -/
def FlY (M : cM) (f : Int) : Prop := 1 ≤ M 63 9 ∧ 0 ≤ M 63 10 ∧ M 63 10 < 10000 ∧ 10000 * M 63 9 + M 63 10 = f
def Yst (M : cM) (s : Nat → Int) (n f q : Int) : Prop := (f ≠ 0 ∧ FlY M f) ∨ (f = 0 ∧ M 63 9 = 0 ∧ LyA M s n q)
def owOw (w : Int) : Prop := w = 1 ∨ w ∈ owOl
section YST
variable {M M1 : cM} {s : Nat → Int} {n f q : Int}
theorem Yst.pos (h : Yst M s n f q) (hp : M 63 9 ≠ 0) : f ≠ 0 ∧ FlY M f := by
  rcases h with h | ⟨h1, h2, h3⟩
  · exact h
  · exact absurd h2 hp
theorem Yst.zero (h : Yst M s n f q) (hp : M 63 9 = 0) : f = 0 ∧ LyA M s n q := by
  rcases h with ⟨h1, h2⟩ | ⟨h1, h2, h3⟩
  · have := h2.1
    omega
  · exact ⟨h1, h3⟩
def yfr (S : List (Nat × Nat)) : Bool := (S.all fun p => p.1 != 64) && ([2, 3, 4, 5, 6, 7, 10, 13].all fun f => !c_in S 63 f)
theorem LyA.fr {S : List (Nat × Nat)} (h : LyA M s n q) (g : Fr S M M1) (hs : yfr S = true) : LyA M1 s n q := by
  unfold yfr at hs
  rw [Bool.and_eq_true] at hs
  have h64 : M1 64 = M 64 := funext fun f => g 64 f (nin (by decide) hs.1 f)
  have h63 : ∀ f, f ∈ [2, 3, 4, 5, 6, 7, 10, 13] → M1 63 f = M 63 f := fun f hf => g 63 f (by simpa using List.all_eq_true.mp hs.2 f hf)
  unfold LyA
  rw [h64, h63 2 (by decide), h63 3 (by decide), h63 4 (by decide), h63 5 (by decide), h63 6 (by decide), h63 7 (by decide), h63 10 (by decide), h63 13 (by decide)]
  exact h
theorem LyA.up {k g : Nat} {v : Int} (h : LyA M s n q) (u : Up M k g v M1) (hk : k ≠ 64 ∧ (k ≠ 63 ∨ (g ≠ 2 ∧ g ≠ 3 ∧ g ≠ 4 ∧ g ≠ 5 ∧ g ≠ 6 ∧ g ≠ 7 ∧ g ≠ 10 ∧ g ≠ 13))) : LyA M1 s n q := by
  have h64 : M1 64 = M 64 := funext fun f => u.2 64 f (by omega)
  unfold LyA
  rw [h64, u.2 63 2 (by omega), u.2 63 3 (by omega), u.2 63 4 (by omega), u.2 63 5 (by omega), u.2 63 6 (by omega), u.2 63 7 (by omega), u.2 63 10 (by omega), u.2 63 13 (by omega)]
  exact h
theorem LyA.bl (_ : LyA M s n q) (f : False) : LyA M1 s n q := f.elim
theorem FlY.fr {S : List (Nat × Nat)} (h : FlY M f) (g : Fr S M M1) (h9 : c_in S 63 9 = false) (h10 : c_in S 63 10 = false) : FlY M1 f := by
  unfold FlY
  rw [g 63 9 h9, g 63 10 h10]
  exact h
theorem FlY.up {k g : Nat} {v : Int} (h : FlY M f) (u : Up M k g v M1) (hk : k ≠ 63 ∨ (g ≠ 9 ∧ g ≠ 10)) : FlY M1 f := by
  unfold FlY
  rw [u.2 63 9 (by omega), u.2 63 10 (by omega)]
  exact h
def yff (S : List (Nat × Nat)) : Bool := yfr S && (!c_in S 63 9 && !c_in S 63 10)
theorem Yst.fr {S : List (Nat × Nat)} (h : Yst M s n f q) (g : Fr S M M1) (hs : yff S = true) : Yst M1 s n f q := by
  unfold yff at hs
  rw [Bool.and_eq_true, Bool.and_eq_true] at hs
  have h9 : c_in S 63 9 = false := by simpa using hs.2.1
  have h10 : c_in S 63 10 = false := by simpa using hs.2.2
  rcases h with ⟨a, b⟩ | ⟨a, b, c⟩
  · exact Or.inl ⟨a, b.fr g h9 h10⟩
  · exact Or.inr ⟨a, (g 63 9 h9).trans b, c.fr g hs.1⟩
theorem Yst.up {k g : Nat} {v : Int} (h : Yst M s n f q) (u : Up M k g v M1) (hk : k ≠ 64 ∧ (k ≠ 63 ∨ (g ≠ 2 ∧ g ≠ 3 ∧ g ≠ 4 ∧ g ≠ 5 ∧ g ≠ 6 ∧ g ≠ 7 ∧ g ≠ 9 ∧ g ≠ 10 ∧ g ≠ 13))) : Yst M1 s n f q := by
  rcases h with ⟨a, b⟩ | ⟨a, b, c⟩
  · exact Or.inl ⟨a, b.up u (by omega)⟩
  · exact Or.inr ⟨a, (u.2 63 9 (by omega)).trans b, c.up u (by omega)⟩
/-- the faults in their order -/
def yLx (s : Nat → Int) (n f q : Int) : Int := if f ≠ 0 then f else if owK s n q = 5 then 10000 + owX s n q else 0
def yMu (s : Nat → Int) (n f q w : Int) : Int := if f ≠ 0 then f else if owW s n q w = 0 then owU s n q else 0
def yMg (s : Nat → Int) (n f q c : Int) : Int := if f ≠ 0 then f else if owG s n q c = 0 then owU s n q else 0
def yNu (s : Nat → Int) (n f q lo hi : Int) : Int := if f ≠ 0 then f else if owK s n q ≠ 3 then owU s n q else if owV s n q < lo ∨ hi < owV s n q then 40000 + owB s n q else 0
theorem yLx_0 (h : yLx s n f q = 0) (hq : 0 ≤ q) : f = 0 ∧ owK s n q ≠ 5 := by
  have h1 := owX_rng (s := s) (n := n) (p := q)
  have h2 := owB_ge (s := s) (n := n) (p := q)
  unfold yLx at h
  (repeat' split at h) <;> omega
theorem yLx_mu {w : Int} (h : yLx s n f q ≠ 0) : yMu s n f q w = yLx s n f q := by
  unfold yLx at h ⊢
  unfold yMu owU
  by_cases h0 : f ≠ 0
  · rw [if_pos h0, if_pos h0]
  · rw [if_neg h0] at h
    rw [if_neg h0, if_neg h0]
    by_cases h5 : owK s n q = 5
    · rw [if_pos h5, if_pos h5, if_pos (owW_K (by omega))]
    · rw [if_neg h5] at h; omega
theorem yLx_mg {c : Int} (h : yLx s n f q ≠ 0) : yMg s n f q c = yLx s n f q := by
  unfold yLx at h ⊢
  unfold yMg owU
  by_cases h0 : f ≠ 0
  · rw [if_pos h0, if_pos h0]
  · rw [if_neg h0] at h
    rw [if_neg h0, if_neg h0]
    by_cases h5 : owK s n q = 5
    · rw [if_pos h5, if_pos h5, if_pos (owG_K (by omega))]
    · rw [if_neg h5] at h; omega
theorem yLx_nu {lo hi : Int} (h : yLx s n f q ≠ 0) : yNu s n f q lo hi = yLx s n f q := by
  unfold yLx at h ⊢
  unfold yNu owU
  by_cases h0 : f ≠ 0
  · rw [if_pos h0, if_pos h0]
  · rw [if_neg h0] at h
    rw [if_neg h0, if_neg h0]
    by_cases h5 : owK s n q = 5
    · rw [if_pos h5, if_pos (by omega), if_pos h5]
    · rw [if_neg h5] at h; omega
theorem FlY.mk {k x : Int} (h9 : M 63 9 = k) (h10 : M 63 10 = x) (hk : 1 ≤ k) (hx : 0 ≤ x ∧ x < 10000) : FlY M (10000 * k + x) := ⟨by omega, by omega, by omega, by rw [h9, h10]⟩
theorem LyA.b (h : LyA M s n q) (hn : n ≤ 1600) : 0 ≤ M 63 4 ∧ M 63 4 < 10000 ∧ M 63 4 = owB s n q := by
  have := owB_rng (s := s) h.2.2.2.1
  have h4 := h.2.2.2.2.1
  have h0 := h.2.2.1
  omega
/-- a name of 5 bits is an own word or none -/
theorem owK_own (hp : q ≤ n) (h : owK s n q = 1 ∨ owK s n q = 2) (ho : owOw (owV s n q)) : owK s n q = 1 := by
  rcases h with h | h
  · exact h
  · exfalso
    have hv := owV_name hp h
    have hb := owB_rng (s := s) hp
    have hK : ¬ n ≤ owB s n q := fun g => by have := owK0.mpr g; omega
    have h5 := owKn_rng (s := s) (n := n) (b := owB s n q)
    have hk := h
    unfold owK at hk
    rw [if_neg hK] at hk
    by_cases hl : owLt (s (owB s n q).toNat)
    · rw [if_pos (Or.inl hl), if_pos hl] at hk
      split at hk
      · omega
      · have hV : owV s n q = owVw s n (owB s n q) := by unfold owV; rw [if_pos hl]
        have hn : ¬ owCp s n (owB s n q) := fun g => by unfold owKw at hk; rw [if_pos g] at hk; omega
        have he := owEw_in (s := s) (n := n) (by omega) hl
        have h6 : owEw s n (owB s n q) - owB s n q ≤ 6 := by
          apply Int.not_lt.mp
          intro g
          have := owKw_long g hn
          omega
        have hs := owKw_short (s := s) (n := n) (b := owB s n q) h6
        rw [hV, hs.1] at ho
        have hno : ¬ owP6 s n (owB s n q) ∈ owOl := fun g => by have := hs.2.1 g; omega
        rcases ho with g | g
        · have hp1 := n58_tok (u := owS s (owB s n q)) (k := (owEw s n (owB s n q) - owB s n q).toNat) (by omega) (owS_lt (n := n) (Int.le_refl _))
          have e6 : owP6 s n (owB s n q) = owPk (owS s (owB s n q)) (owEw s n (owB s n q) - owB s n q).toNat * 32 ^ (6 - (owEw s n (owB s n q) - owB s n q).toNat) := by
            unfold owP6
            rw [show (6 - (owEw s n (owB s n q) - owB s n q)).toNat = 6 - (owEw s n (owB s n q) - owB s n q).toNat by omega]
          rw [← e6, g] at hp1
          rcases hp1 with ⟨_, z⟩ | ⟨a, b, c, d, e, f', a1, a2, b1, b2, c1, c2, d1, d2, e1, e2, f1, f2, _, _, _, _, z, _⟩
          · have hlo : 97 ≤ owP8 (owS s (owB s n q)) (owEw s n (owB s n q) - owB s n q).toNat := by
              have hk1 : (owEw s n (owB s n q) - owB s n q).toNat = ((owEw s n (owB s n q) - owB s n q).toNat - 1) + 1 := by omega
              rw [hk1]
              have := owP8_lo (u := owS s (owB s n q)) ((owEw s n (owB s n q) - owB s n q).toNat - 1) (fun i hi => owS_lt (n := n) (Int.le_refl _) i (by omega))
              have hpos : (1 : Int) ≤ 256 ^ ((owEw s n (owB s n q) - owB s n q).toNat - 1) := Int.pow_pos (by decide)
              omega
            omega
          · unfold n5d at z
            omega
        · exact hno g
    · by_cases hd : owDg (s (owB s n q).toNat)
      · rw [if_pos (Or.inr hd), if_neg hl] at hk
        split at hk <;> omega
      · rw [if_neg (fun g => g.elim hl hd)] at hk
        omega
end YST
section YST2
variable {M M1 : cM} {s : Nat → Int} {n f q : Int}
theorem LyA.kinds (h : LyA M s n q) : (owK s n q = 0 ∧ M 63 3 = 0) ∨ ((owK s n q = 1 ∨ owK s n q = 2) ∧ M 63 3 = 1) ∨ (owK s n q = 3 ∧ M 63 3 = 2 ∧ M 63 6 = owV s n q) ∨ (owK s n q = 4 ∧ M 63 3 = 3 ∧ M 63 6 = owV s n q) ∨ (owK s n q = 5 ∧ (M 63 3 = 1 ∨ M 63 3 = 2)) := by
  obtain ⟨_, _, _, _, _, _, a0, a1, a3, a4, a5, _⟩ := h
  have hr := owK_rng (s := s) (n := n) (p := q)
  have : owK s n q = 0 ∨ owK s n q = 1 ∨ owK s n q = 2 ∨ owK s n q = 3 ∨ owK s n q = 4 ∨ owK s n q = 5 := by omega
  rcases this with g | g | g | g | g | g
  · exact Or.inl ⟨g, a0 g⟩
  · exact Or.inr (Or.inl ⟨Or.inl g, (a1 (Or.inl g)).1⟩)
  · exact Or.inr (Or.inl ⟨Or.inr g, (a1 (Or.inr g)).1⟩)
  · exact Or.inr (Or.inr (Or.inl ⟨g, a3 g⟩))
  · exact Or.inr (Or.inr (Or.inr (Or.inl ⟨g, a4 g⟩)))
  · exact Or.inr (Or.inr (Or.inr (Or.inr ⟨g, (a5 g).2⟩)))
theorem N58.rng {x y : Int} (h : N58 x y) : 1 ≤ y ∧ y < 281474976710656 := by
  rcases h with ⟨_, rfl⟩ | ⟨a, b, c, d, e, f, a1, a2, b1, b2, c1, c2, d1, d2, e1, e2, f1, f2, z1, z2, z3, z4, _, rfl⟩
  · decide
  · have r := n8_rng ⟨a1, a2, b1, b2, c1, c2, d1, d2, e1, e2, f1, f2⟩ ⟨z1, z2, z3, z4⟩
    omega
theorem LyA.wrng (h : LyA M s n q) : (owK s n q = 1 ∨ owK s n q = 2) → -9223372036854775808 ≤ M 63 7 ∧ M 63 7 ≤ 9223372036854775807 := fun g => by
  have := (h.2.2.2.2.2.2.2.1 g).2.rng
  omega
theorem LyA.isw {w w5 : Int} (h : LyA M s n q) (h5 : owK s n q ≠ 5) (hN : N58 w5 w) (hO : owOw w5) (h3 : M 63 3 = 1) (hw : M 63 7 = w) : owK s n q = 1 ∧ owW s n q w5 = 1 := by
  have hk := h.kinds
  have hk12 : owK s n q = 1 ∨ owK s n q = 2 := by omega
  have hm := (h.2.2.2.2.2.2.2.1 hk12).2
  rw [hw] at hm
  have hV : owV s n q = w5 := (hm.iff hN).mpr rfl
  have h1 := owK_own h.2.2.2.1 hk12 (by rw [hV]; exact hO)
  exact ⟨h1, if_pos ⟨h1, hV⟩⟩
theorem LyA.nsw {w w5 : Int} (h : LyA M s n q) (h5 : owK s n q ≠ 5) (hN : N58 w5 w) (hw : M 63 3 ≠ 1 ∨ M 63 7 ≠ w) : owW s n q w5 = 0 := if_neg (fun g => by
  have hm := h.2.2.2.2.2.2.2.1 (Or.inl g.1)
  have := (hm.2.iff hN).mp g.2
  omega)
theorem yst_lx0 (h : Yst M s n f q) (h13 : M 63 13 = -1) : Yst M s n (yLx s n f q) q := by
  rcases h with ⟨a, b⟩ | ⟨a, b, c⟩
  · unfold yLx
    rw [if_pos a]
    exact Or.inl ⟨a, b⟩
  · have h5 : owK s n q ≠ 5 := fun g => by
      have := (c.2.2.2.2.2.2.2.2.2.2.1 g).1
      have hx := owX_rng (s := s) (n := n) (p := q)
      have hb := owB_ge (s := s) (n := n) (p := q)
      have h0 := c.2.2.1
      omega
    unfold yLx
    rw [if_neg (by omega), if_neg h5]
    exact Or.inr ⟨rfl, b, c⟩
theorem yst_lx5 (h : Yst M s n f q) (hn : n ≤ 1600) (h13 : M 63 13 ≠ -1) (hb : (M 63 9 ≠ 0 ∧ M1 63 9 = M 63 9 ∧ M1 63 10 = M 63 10) ∨ (M 63 9 = 0 ∧ M1 63 9 = 1 ∧ M1 63 10 = M 63 13)) : Yst M1 s n (yLx s n f q) q := by
  rcases h with ⟨a, b⟩ | ⟨a, b, c⟩
  · unfold yLx
    rw [if_pos a]
    refine Or.inl ⟨a, ?_⟩
    unfold FlY at b ⊢
    omega
  · have h5 : owK s n q = 5 := Decidable.byContradiction fun g => h13 (c.2.2.2.2.2.2.2.2.2.2.2.1 g)
    have hx := owX_rng (s := s) (n := n) (p := q)
    have hb2 := owB_rng (s := s) c.2.2.2.1
    have h0 := c.2.2.1
    have h6 := (c.2.2.2.2.2.2.2.2.2.2.1 h5).1
    unfold yLx
    rw [if_neg (by omega), if_pos h5]
    refine Or.inl ⟨by omega, ?_⟩
    unfold FlY
    omega
theorem yst_is {g : Int} (e : g = f) (h : Yst M s n f q) {q' : Int} (hf : f ≠ 0) : Yst M s n g q' := by
  rw [e]
  exact Or.inl (h.elim id (fun z => absurd z.1 hf))
theorem yst_bl {k x g : Int} (h9 : M 63 9 = k) (h10 : M 63 10 = x) (hk : 1 ≤ k) (hx : 0 ≤ x ∧ x < 10000) (e : g = 10000 * k + x) : Yst M s n g q := by
  rw [e]
  exact Or.inl ⟨by omega, FlY.mk h9 h10 hk hx⟩
theorem owE_i2 {s : Nat → Int} {n p : Int} (h : 0 ≤ p ∧ p ≤ n) : 0 ≤ owE s n p ∧ owE s n p ≤ n := by
  have h1 := owE_rng (s := s) h.2
  have h2 := owB_rng (s := s) h.2
  omega
theorem LyA.iss {c : Int} (h : LyA M s n q) : isS M c = owG s n q c := by
  have hk := h.kinds
  unfold isS owG
  by_cases g : owK s n q = 4 ∧ owV s n q = c
  · rw [if_pos g, if_pos (by omega)]
  · rw [if_neg g, if_neg (by omega)]
theorem yst_blame {g k x q' : Int} (h : Yst M s n g q) (hn : n ≤ 1600) (hk : 1 ≤ k) (hx : x = M 63 4) (hb : (M 63 9 ≠ 0 ∧ M1 63 9 = M 63 9 ∧ M1 63 10 = M 63 10) ∨ (M 63 9 = 0 ∧ M1 63 9 = k ∧ M1 63 10 = x)) : Yst M1 s n (if g ≠ 0 then g else 10000 * k + owB s n q) q' := by
  rcases h with ⟨a, b⟩ | ⟨a, b, c⟩
  · rw [if_pos a]
    refine Or.inl ⟨a, ?_⟩
    unfold FlY at b ⊢
    omega
  · have := c.b hn
    rw [if_neg (by omega)]
    exact yst_bl (k := k) (x := x) (by omega) (by omega) hk (by omega) (by omega)
theorem mg_bl {c x q' : Int} (h : Yst M s n (yLx s n f q) q) (hn : n ≤ 1600) (hi : isS M c = 0) (hb : x = M 63 4 ∧ ((M 63 9 ≠ 0 ∧ M1 63 9 = M 63 9 ∧ M1 63 10 = M 63 10) ∨ (M 63 9 = 0 ∧ M1 63 9 = 1 ∧ M1 63 10 = x))) : Yst M1 s n (yMg s n f q c) q' := by
  have h1 := yst_blame (q' := q') h hn (show (1 : Int) ≤ 1 by decide) hb.1 hb.2
  by_cases g : yLx s n f q ≠ 0
  · rw [if_pos g] at h1
    rw [yLx_mg g]
    exact h1
  · have g0 : yLx s n f q = 0 := Decidable.not_not.mp g
    rw [if_neg g] at h1
    rcases h with ⟨a, b⟩ | ⟨a, b, d⟩
    · exact absurd g0 a
    · have h0 := yLx_0 g0 d.2.2.1
      rw [d.iss] at hi
      have e : yMg s n f q c = 10000 * 1 + owB s n q := by
        unfold yMg owU
        rw [if_neg (by omega), if_pos hi, if_neg h0.2]
        omega
      rw [e]
      exact h1
theorem mg_lx {c q' : Int} (h : Yst M s n (yLx s n f q) q) (hp : M 63 9 ≠ 0) : Yst M s n (yMg s n f q c) q' := by
  have := h.pos hp
  exact yst_is (yLx_mg this.1) h this.1
end YST2
def gS_176_m : List (Nat × Nat) := [(63, 10), (63, 9)]
theorem f_176 {xs : Nat → Int} {Ln d : Nat} {T : List cK} {M : cM} (hT : TT T) (hI : Rng M) {kind place : Int} (p0 : 1 ≤ kind ∧ kind ≤ 6) : cC k_P xs Ln (d + 0) 176 [rf 63, (0, kind), (0, place)] (T, M) (qV T M gS_176_m (fun M1 => 1 ≤ M1 63 9 ∧ M 63 9 ≤ M1 63 9 ∧ ((M 63 9 ≠ 0 ∧ M1 63 9 = M 63 9 ∧ M1 63 10 = M 63 10) ∨ (M 63 9 = 0 ∧ M1 63 9 = kind ∧ M1 63 10 = place)))) := by
  show cP k_P xs Ln (d + 0) 176 0 [(0, rf 63), (1, (0, kind)), (2, (0, place))] [] (T, M) _
  have hFm : Fr gS_176_m M M := Fr.refl
  have h639 := rg_63_9 hI
  refine s_aload_n kx_176_0 rfl ?_
  refine r_getI (k := 63) (f := 9) kx_176_1 kp_176_39 (tk_63 hT) kf_12_9 (fun _ => rfl) (rg_63_9 hI) (fun v1 v1e v1a v1b => ?_)
  refine s_if_le (t := 8) kx_176_4 (by decide) (fun hc2 => ?_) (fun hc2 => ?_)
  · refine s_aload_n kx_176_8 rfl ?_
    refine s_iload_n kx_176_9 rfl ?_
    refine r_put (k := 63) (f := 9) kx_176_10 kp_176_39 (tk_63 hT) kf_12_9 rfl (by decide) (by decide) hI (ru_63_9 (by omega) (by omega)) (fun M3 hI3 u3 => ?_)
    have hFm3 := hFm.up u3 rfl
    refine s_aload_n kx_176_13 rfl ?_
    refine s_iload_n kx_176_14 rfl ?_
    refine r_put (k := 63) (f := 10) kx_176_15 kp_176_42 (tk_63 hT) kf_12_10 rfl (by decide) (by decide) hI3 ru_63_10 (fun M4 hI4 u4 => ?_)
    have hFm4 := hFm3.up u4 rfl
    have hk5 : M4 63 9 = kind := ((u4.2 63 9 (by omega)).trans u3.1)
    have hk6 : M4 63 10 = place := u4.1
    exact s_vret kx_176_18 kq_176 ⟨_, rfl, rfl, hI4, hFm4, (by omega)⟩
  · have hk7 : M 63 9 = v1 := v1e
    exact s_vret kx_176_7 kq_176 ⟨_, rfl, rfl, hI, hFm, (by omega)⟩
def gS_179_m : List (Nat × Nat) := [(63, 10), (63, 9)]
theorem f_179 {xs : Nat → Int} {Ln d : Nat} {T : List cK} {M : cM} (hT : TT T) (hI : Rng M) {s : Nat → Int} {n f q : Int} (hY : Yst M s n f q) (hn : n ≤ 1600) : cC k_P xs Ln (d + 1) 179 [rf 63] (T, M) (qV T M gS_179_m (fun M1 => Yst M1 s n (yLx s n f q) q ∧ M 63 9 ≤ M1 63 9)) := by
  show cP k_P xs Ln (d + 1) 179 0 [(0, rf 63)] [] (T, M) _
  have hFm : Fr gS_179_m M M := Fr.refl
  have h639 := rg_63_9 hI
  refine s_aload_n kx_179_0 rfl ?_
  refine r_getI (k := 63) (f := 13) kx_179_1 kp_179_51 (tk_63 hT) kf_12_13 (fun _ => rfl) (rg_63_13 hI) (fun v1 v1e v1a v1b => ?_)
  refine s_iconst (v := (-1)) kx_179_4 (by decide) ?_
  refine s_icmp_eq (t := 17) kx_179_5 (by decide) (fun hc2 => ?_) (fun hc2 => ?_)
  · exact s_vret kx_179_17 kq_179 ⟨_, rfl, rfl, hI, hFm, ⟨(yst_lx0 hY (by omega)), by omega⟩⟩
  · refine s_aload_n kx_179_8 rfl ?_
    have hk3 : M 63 13 = v1 := v1e
    refine s_iconst (v := 1) kx_179_9 (by decide) ?_
    refine s_aload_n kx_179_10 rfl ?_
    refine r_getK (k := 63) (f := 13) kx_179_11 kp_179_51 (tk_63 hT) kf_12_13 (fun _ => rfl) v1e ?_
    refine s_callV2 (k := 63) (s1 := 3) (s2 := 0) (as := [(0, v1), (0, 1)]) (rest := []) kx_179_14 kp_179_263 (Or.inl rfl) rfl (tk_63 hT) ki_176 kcl_176 rfl rfl (by decide) (f_176 (d := d) (kind := 1) (place := v1) hT hI (by omega)) (kV (fun M5 hI5 fr5 v4p => ?_))
    have hFm5 := hFm.call fr5 rfl
    exact s_vret kx_179_17 kq_179 ⟨_, rfl, rfl, hI5, hFm5, ⟨(yst_lx5 hY hn (by omega) (by omega)), by omega⟩⟩
theorem f_182 {xs : Nat → Int} {Ln d : Nat} {T : List cK} {M : cM} (hT : TT T) (hI : Rng M) {w : Int} {s : Nat → Int} {n q : Int} (hL : LyA M s n q) {w5 : Int} (hK5 : owK s n q ≠ 5) (hN : N58 w5 w) (hO : owOw w5) (p0 : (-9223372036854775808) ≤ w ∧ w ≤ 9223372036854775807) : cC k_P xs Ln (d + 0) 182 [rf 63, (1, w)] (T, M) (qF T M 0 (fun v => (v = 1 ∧ (owK s n q = 1 ∧ M 63 3 = 1) ∧ owW s n q w5 = 1) ∨ (v = 0 ∧ owW s n q w5 = 0))) := by
  show cP k_P xs Ln (d + 0) 182 0 [(0, rf 63), (1, (1, w))] [] (T, M) _
  have hlk := hL.kinds
  have hwr := hL.wrng
  refine s_aload_n kx_182_0 rfl ?_
  refine r_getI (k := 63) (f := 3) kx_182_1 kp_182_20 (tk_63 hT) kf_12_3 (fun _ => rfl) (rg_63_3 hI) (fun v1 v1e v1a v1b => ?_)
  refine s_iconst (v := 1) kx_182_4 (by decide) ?_
  refine s_icmp_ne (t := 21) kx_182_5 (by decide) (fun hc2 => ?_) (fun hc2 => ?_)
  · refine s_iconst (v := 0) kx_182_21 (by decide) ?_
    exact s_iret kx_182_22 (Or.inr ⟨kq_182, by omega⟩) ⟨_, rfl, rfl, (Or.inr ⟨rfl, hL.nsw hK5 hN (by omega)⟩)⟩
  · refine s_aload_n kx_182_8 rfl ?_
    refine r_getU (k := 63) (f := 7) kx_182_9 kp_182_32 (tk_63 hT) kf_12_7 (fun _ => rfl) (fun v3 v3e => ?_)
    refine s_lload_n kx_182_12 rfl ?_
    refine r_lcmpE kx_182_13 ⟨by omega, by omega⟩ ⟨by omega, by omega⟩ (fun v4 v4p => ?_)
    refine s_if_ne (t := 21) kx_182_14 (by decide) (fun hc5 => ?_) (fun hc5 => ?_)
    · refine s_iconst (v := 0) kx_182_21 (by decide) ?_
      exact s_iret kx_182_22 (Or.inr ⟨kq_182, by omega⟩) ⟨_, rfl, rfl, (Or.inr ⟨rfl, hL.nsw hK5 hN (by omega)⟩)⟩
    · refine s_iconst (v := 1) kx_182_17 (by decide) ?_
      refine s_goto (t := 22) kx_182_18 (by decide) ?_
      exact s_iret kx_182_22 (Or.inr ⟨kq_182, by omega⟩) ⟨_, rfl, rfl, (Or.inl ⟨rfl, ⟨(hL.isw hK5 hN hO (by omega) (by omega)).1, by omega⟩, (hL.isw hK5 hN hO (by omega) (by omega)).2⟩)⟩
def gS_183_m : List (Nat × Nat) := [(63, 10), (63, 13), (63, 3), (63, 4), (63, 5), (63, 6), (63, 7), (63, 8), (63, 9)]
theorem f_183 {xs : Nat → Int} {Ln d : Nat} {T : List cK} {M : cM} (hT : TT T) (hI : Rng M) {c : Int} (hX : LXp M) {s : Nat → Int} {n f q : Int} (hY : Yst M s n f q) (hn : n ≤ 1600) : cC k_P xs Ln (d + 2) 183 [rf 63, (0, c)] (T, M) (qV T M gS_183_m (fun M1 => LXp M1 ∧ M 63 4 ≤ M1 63 4 ∧ M 63 9 ≤ M1 63 9 ∧ (PRd M M1) ∧ (Yst M1 s n (yMg s n f q c) (owE s n q)))) := by
  show cP k_P xs Ln (d + 2) 183 0 [(0, rf 63), (1, (0, c))] [] (T, M) _
  have hFm : Fr gS_183_m M M := Fr.refl
  have h639 := rg_63_9 hI
  have ⟨lx1, lx2⟩ := hX
  refine s_aload_n kx_183_0 rfl ?_
  refine s_callV2 (k := 63) (s1 := 1) (s2 := 0) (as := []) (rest := []) kx_183_1 kp_183_280 (Or.inl rfl) rfl (tk_63 hT) ki_179 kcl_179 rfl rfl (by decide) (f_179 (d := d) hT hI hY hn) (kV (fun M2 hI2 fr2 v1p => ?_))
  have hFm2 := hFm.call fr2 rfl
  have tr3 := (fr2 63 3 rfl)
  have tr4 := (fr2 63 4 rfl)
  have tr5 := (fr2 63 5 rfl)
  have tr6 := (fr2 63 6 rfl)
  have tr7 := rg_63_9 hI2
  refine s_aload_n kx_183_4 rfl ?_
  refine s_iload_n kx_183_5 rfl ?_
  refine s_callV2 (k := 63) (s1 := 2) (s2 := 0) (as := [(0, c)]) (rest := []) kx_183_6 kp_183_283 (Or.inl rfl) rfl (tk_63 hT) ki_181 kcl_181 rfl rfl (by decide) (m_181 (d := d + 1) (c := c) hT hI2) (kF (fun v8 v8p => ?_))
  refine s_if_ne (t := 21) kx_183_9 (by decide) (fun hc9 => ?_) (fun hc9 => ?_)
  · replace v8p := v8p.resolve_right (by omega)
    refine s_aload_n kx_183_21 rfl ?_
    refine r_getI (k := 63) (f := 9) kx_183_22 kp_183_39 (tk_63 hT) kf_12_9 (fun _ => rfl) (rg_63_9 hI2) (fun v10 v10e v10a v10b => ?_)
    refine s_if_ne (t := 32) kx_183_25 (by decide) (fun hc11 => ?_) (fun hc11 => ?_)
    · have hk12 : M2 63 9 = v10 := v10e
      exact s_vret kx_183_32 kq_183 ⟨_, rfl, rfl, hI2, hFm2, ⟨(LXp.fr hX fr2 rfl), by omega, by omega, by unfold PRd; omega, (mg_lx v1p.1 (by omega))⟩⟩
    · have hz13 := Yst.zero v1p.1 (by omega)
      have hz13k := yLx_0 hz13.1 hz13.2.2.2.1
      have hz13s := hz13.2.iss (c := c)
      refine s_aload_n kx_183_28 rfl ?_
      refine s_callV2 (k := 63) (s1 := 1) (s2 := 0) (as := []) (rest := []) kx_183_29 kp_183_286 (Or.inl rfl) rfl (tk_63 hT) ki_180 kcl_180 rfl rfl (by decide) (f_180 (d := d) hT hI2 hz13.2.1 hz13.2.2.1 hz13.2.2.2.2.2.2.1 (owE_i2 ⟨hz13.2.2.2.1, hz13.2.2.2.2.1⟩).1 (owE_i2 ⟨hz13.2.2.2.1, hz13.2.2.2.2.1⟩).2 hz13.2.2.2.2.2.2.2.2.2.2.2.2.2) (kV (fun M15 hI15 fr15 v14p => ?_))
      have hFm15 := hFm2.call fr15 rfl
      have tr16 := (fr15 63 9 rfl)
      have tr17 := (fr15 63 10 rfl)
      have tr18 := rg_63_9 hI15
      have hk19 : M15 63 9 = v10 := ((fr15 63 9 rfl).trans v10e)
      exact s_vret kx_183_32 kq_183 ⟨_, rfl, rfl, hI15, hFm15, ⟨(show LXp M15 from v14p.2.2), by omega, by omega, by unfold PRd; omega, (Or.inr ⟨by unfold yMg; (repeat' split) <;> omega, by omega, v14p.1⟩)⟩⟩
  · replace v8p := v8p.resolve_left (by omega)
    refine s_aload_n kx_183_12 rfl ?_
    refine s_iconst (v := 1) kx_183_13 (by decide) ?_
    refine s_aload_n kx_183_14 rfl ?_
    refine r_getI (k := 63) (f := 4) kx_183_15 kp_183_23 (tk_63 hT) kf_12_4 (fun _ => rfl) (rg_63_4 hI2) (fun v20 v20e v20a v20b => ?_)
    have v20z : M 63 4 = v20 := ((fr2 63 4 rfl)).symm.trans v20e
    refine s_callV2 (k := 63) (s1 := 3) (s2 := 0) (as := [(0, v20), (0, 1)]) (rest := []) kx_183_18 kp_183_263 (Or.inl rfl) rfl (tk_63 hT) ki_176 kcl_176 rfl rfl (by decide) (f_176 (d := d + 1) (kind := 1) (place := v20) hT hI2 (by omega)) (kV (fun M22 hI22 fr22 v21p => ?_))
    have hFm22 := hFm2.call fr22 rfl
    have tr23 := (fr22 63 3 rfl)
    have tr24 := (fr22 63 4 rfl)
    have tr25 := (fr22 63 5 rfl)
    have tr26 := (fr22 63 6 rfl)
    have tr27 := rg_63_9 hI22
    refine s_aload_n kx_183_21 rfl ?_
    refine r_getI (k := 63) (f := 9) kx_183_22 kp_183_39 (tk_63 hT) kf_12_9 (fun _ => rfl) (rg_63_9 hI22) (fun v28 v28e v28a v28b => ?_)
    refine s_if_ne (t := 32) kx_183_25 (by decide) (fun hc29 => ?_) (fun hc29 => ?_)
    · have hk30 : M22 63 4 = v20 := ((fr22 63 4 rfl).trans v20e)
      have hk31 : M22 63 9 = v28 := v28e
      exact s_vret kx_183_32 kq_183 ⟨_, rfl, rfl, hI22, hFm22, ⟨(LXp.fr (LXp.fr hX fr2 rfl) fr22 rfl), by omega, by omega, by unfold PRd; omega, (mg_bl (x := v20) v1p.1 hn v8p.2 ⟨by omega, by omega⟩)⟩⟩
    · have hz32 := Yst.zero v1p.1 (by omega)
      have hz32k := yLx_0 hz32.1 hz32.2.2.2.1
      have hz32s := hz32.2.iss (c := c)
      refine s_aload_n kx_183_28 rfl ?_
      refine s_callV2 (k := 63) (s1 := 1) (s2 := 0) (as := []) (rest := []) kx_183_29 kp_183_286 (Or.inl rfl) rfl (tk_63 hT) ki_180 kcl_180 rfl rfl (by decide) (f_180 (d := d) hT hI22 (LyA.bl (M1 := M22) hz32.2 (by omega)).1 (LyA.bl (M1 := M22) hz32.2 (by omega)).2.1 (LyA.bl (M1 := M22) hz32.2 (by omega)).2.2.2.2.2.1 (owE_i2 ⟨(LyA.bl (M1 := M22) hz32.2 (by omega)).2.2.1, (LyA.bl (M1 := M22) hz32.2 (by omega)).2.2.2.1⟩).1 (owE_i2 ⟨(LyA.bl (M1 := M22) hz32.2 (by omega)).2.2.1, (LyA.bl (M1 := M22) hz32.2 (by omega)).2.2.2.1⟩).2 (LyA.bl (M1 := M22) hz32.2 (by omega)).2.2.2.2.2.2.2.2.2.2.2.2) (kV (fun M34 hI34 fr34 v33p => ?_))
      have hFm34 := hFm22.call fr34 rfl
      have tr35 := (fr34 63 9 rfl)
      have tr36 := (fr34 63 10 rfl)
      have tr37 := rg_63_9 hI34
      have hk38 : M34 63 9 = v28 := ((fr34 63 9 rfl).trans v28e)
      exact s_vret kx_183_32 kq_183 ⟨_, rfl, rfl, hI34, hFm34, ⟨(show LXp M34 from v33p.2.2), by omega, by omega, by unfold PRd; omega, (Or.inr ⟨by unfold yMg; (repeat' split) <;> omega, by omega, v33p.1⟩)⟩⟩
def gS_200_m : List (Nat × Nat) := [(63, 10), (63, 13), (63, 3), (63, 4), (63, 5), (63, 6), (63, 7), (63, 8), (63, 9)]
theorem f_200 {xs : Nat → Int} {Ln d : Nat} {T : List cK} {M : cM} (hT : TT T) (hI : Rng M) {w : Int} (hX : LXp M) {s : Nat → Int} {n f q : Int} (hY : Yst M s n f q) (hn : n ≤ 1600) {w5 : Int} (hN : N58 w5 w) (hO : owOw w5) (p0 : (-9223372036854775808) ≤ w ∧ w ≤ 9223372036854775807) : cC k_P xs Ln (d + 2) 200 [rf 63, (1, w)] (T, M) (qV T M gS_200_m (fun M1 => LXp M1 ∧ M 63 4 ≤ M1 63 4 ∧ M 63 9 ≤ M1 63 9 ∧ (PRd M M1) ∧ (Yst M1 s n (yMu s n f q w5) (owE s n q)))) := by
  show cP k_P xs Ln (d + 2) 200 0 [(0, rf 63), (1, (1, w))] [] (T, M) _
  have hFm : Fr gS_200_m M M := Fr.refl
  have h639 := rg_63_9 hI
  have ⟨lx1, lx2⟩ := hX
  refine s_aload_n kx_200_0 rfl ?_
  refine s_callV2 (k := 63) (s1 := 1) (s2 := 0) (as := []) (rest := []) kx_200_1 kp_200_280 (Or.inl rfl) rfl (tk_63 hT) ki_179 kcl_179 rfl rfl (by decide) (f_179 (d := d) hT hI hY hn) (kV (fun M2 hI2 fr2 v1p => ?_))
  have hFm2 := hFm.call fr2 rfl
  have tr3 := (fr2 63 3 rfl)
  have tr4 := (fr2 63 4 rfl)
  have tr5 := (fr2 63 5 rfl)
  have tr6 := (fr2 63 6 rfl)
  have tr7 := rg_63_9 hI2
  refine s_aload_n kx_200_4 rfl ?_
  refine r_getI (k := 63) (f := 9) kx_200_5 kp_200_39 (tk_63 hT) kf_12_9 (fun _ => rfl) (rg_63_9 hI2) (fun v8 v8e v8a v8b => ?_)
  refine s_if_le (t := 12) kx_200_8 (by decide) (fun hc9 => ?_) (fun hc9 => ?_)
  · have hz10 := Yst.zero v1p.1 (by omega)
    have hz10k := yLx_0 hz10.1 hz10.2.2.2.1
    have hz10b := hz10.2.b hn
    have hz10n := hz10.2.2.1
    have hz10p := hz10.2.2.2.1
    have hz10q := hz10.2.2.2.2.1
    refine s_aload_n kx_200_12 rfl ?_
    refine s_lload_n kx_200_13 rfl ?_
    refine s_callV2 (k := 63) (s1 := 3) (s2 := 0) (as := [(1, w)]) (rest := []) kx_200_14 kp_200_361 (Or.inl rfl) rfl (tk_63 hT) ki_182 kcl_182 rfl rfl (by decide) (f_182 (d := d + 1) (w := w) hT hI2 hz10.2 hz10k.2 hN hO (by omega)) (kF (fun v11 v11p => ?_))
    refine s_if_ne (t := 29) kx_200_17 (by decide) (fun hc12 => ?_) (fun hc12 => ?_)
    · replace v11p := v11p.resolve_right (by omega)
      refine s_aload_n kx_200_29 rfl ?_
      refine r_getK (k := 63) (f := 9) kx_200_30 kp_200_39 (tk_63 hT) kf_12_9 (fun _ => rfl) v8e ?_
      refine s_if_ne (t := 40) kx_200_33 (by decide) (fun hc13 => absurd hc13 (by omega)) (fun hc13 => ?_)
      refine s_aload_n kx_200_36 rfl ?_
      refine s_callV2 (k := 63) (s1 := 1) (s2 := 0) (as := []) (rest := []) kx_200_37 kp_200_286 (Or.inl rfl) rfl (tk_63 hT) ki_180 kcl_180 rfl rfl (by decide) (f_180 (d := d) hT hI2 hz10.2.1 hz10.2.2.1 hz10.2.2.2.2.2.2.1 (owE_i2 ⟨hz10.2.2.2.1, hz10.2.2.2.2.1⟩).1 (owE_i2 ⟨hz10.2.2.2.1, hz10.2.2.2.2.1⟩).2 hz10.2.2.2.2.2.2.2.2.2.2.2.2.2) (kV (fun M15 hI15 fr15 v14p => ?_))
      have hFm15 := hFm2.call fr15 rfl
      have tr16 := (fr15 63 9 rfl)
      have tr17 := (fr15 63 10 rfl)
      have tr18 := rg_63_9 hI15
      have hk19 : M15 63 9 = v8 := ((fr15 63 9 rfl).trans v8e)
      exact s_vret kx_200_40 kq_200 ⟨_, rfl, rfl, hI15, hFm15, ⟨(show LXp M15 from v14p.2.2), by omega, by omega, by unfold PRd; omega, (Or.inr ⟨by unfold yMu; (repeat' split) <;> omega, by omega, v14p.1⟩)⟩⟩
    · replace v11p := v11p.resolve_left (by omega)
      refine s_aload_n kx_200_20 rfl ?_
      refine s_iconst (v := 1) kx_200_21 (by decide) ?_
      refine s_aload_n kx_200_22 rfl ?_
      refine r_getI (k := 63) (f := 4) kx_200_23 kp_200_23 (tk_63 hT) kf_12_4 (fun _ => rfl) (rg_63_4 hI2) (fun v20 v20e v20a v20b => ?_)
      have v20z : M 63 4 = v20 := ((fr2 63 4 rfl)).symm.trans v20e
      refine s_callV2 (k := 63) (s1 := 3) (s2 := 0) (as := [(0, v20), (0, 1)]) (rest := []) kx_200_26 kp_200_263 (Or.inl rfl) rfl (tk_63 hT) ki_176 kcl_176 rfl rfl (by decide) (f_176 (d := d + 1) (kind := 1) (place := v20) hT hI2 (by omega)) (kV (fun M22 hI22 fr22 v21p => ?_))
      have hFm22 := hFm2.call fr22 rfl
      have tr23 := (fr22 63 3 rfl)
      have tr24 := (fr22 63 4 rfl)
      have tr25 := (fr22 63 5 rfl)
      have tr26 := (fr22 63 6 rfl)
      have tr27 := rg_63_9 hI22
      refine s_aload_n kx_200_29 rfl ?_
      refine r_getI (k := 63) (f := 9) kx_200_30 kp_200_39 (tk_63 hT) kf_12_9 (fun _ => rfl) (rg_63_9 hI22) (fun v28 v28e v28a v28b => ?_)
      refine s_if_ne (t := 40) kx_200_33 (by decide) (fun hc29 => ?_) (fun hc29 => ?_)
      · have hk30 : M22 63 4 = v20 := ((fr22 63 4 rfl).trans v20e)
        have hk31 : M22 63 9 = v28 := v28e
        exact s_vret kx_200_40 kq_200 ⟨_, rfl, rfl, hI22, hFm22, ⟨(LXp.fr (LXp.fr hX fr2 rfl) fr22 rfl), by omega, by omega, by unfold PRd; omega, (yst_bl (k := 1) (x := owB s n q) (by omega) (by omega) (by decide) (by omega) (by unfold yMu owU; (repeat' split) <;> omega))⟩⟩
      · refine s_aload_n kx_200_36 rfl ?_
        refine s_callV2 (k := 63) (s1 := 1) (s2 := 0) (as := []) (rest := []) kx_200_37 kp_200_286 (Or.inl rfl) rfl (tk_63 hT) ki_180 kcl_180 rfl rfl (by decide) (f_180 (d := d) hT hI22 (LyA.bl (M1 := M22) hz10.2 (by omega)).1 (LyA.bl (M1 := M22) hz10.2 (by omega)).2.1 (LyA.bl (M1 := M22) hz10.2 (by omega)).2.2.2.2.2.1 (owE_i2 ⟨(LyA.bl (M1 := M22) hz10.2 (by omega)).2.2.1, (LyA.bl (M1 := M22) hz10.2 (by omega)).2.2.2.1⟩).1 (owE_i2 ⟨(LyA.bl (M1 := M22) hz10.2 (by omega)).2.2.1, (LyA.bl (M1 := M22) hz10.2 (by omega)).2.2.2.1⟩).2 (LyA.bl (M1 := M22) hz10.2 (by omega)).2.2.2.2.2.2.2.2.2.2.2.2) (kV (fun M33 hI33 fr33 v32p => ?_))
        have hFm33 := hFm22.call fr33 rfl
        have tr34 := (fr33 63 9 rfl)
        have tr35 := (fr33 63 10 rfl)
        have tr36 := rg_63_9 hI33
        have hk37 : M33 63 9 = v28 := ((fr33 63 9 rfl).trans v28e)
        exact s_vret kx_200_40 kq_200 ⟨_, rfl, rfl, hI33, hFm33, ⟨(show LXp M33 from v32p.2.2), by omega, by omega, by unfold PRd; omega, (Or.inr ⟨by unfold yMu; (repeat' split) <;> omega, by omega, v32p.1⟩)⟩⟩
  · have hz38 := Yst.pos v1p.1 (by omega)
    have hk39 : M2 63 9 = v8 := v8e
    exact s_vret kx_200_11 kq_200 ⟨_, rfl, rfl, hI2, hFm2, ⟨(LXp.fr hX fr2 rfl), by omega, by omega, by unfold PRd; omega, (yst_is (yLx_mu hz38.1) v1p.1 hz38.1)⟩⟩
def gS_188_m : List (Nat × Nat) := [(63, 10), (63, 13), (63, 3), (63, 4), (63, 5), (63, 6), (63, 7), (63, 8), (63, 9)]
theorem f_188 {xs : Nat → Int} {Ln d : Nat} {T : List cK} {M : cM} (hT : TT T) (hI : Rng M) {low high : Int} (hX : LXp M) {s : Nat → Int} {n f q : Int} (hY : Yst M s n f q) (hn : n ≤ 1600) : cC k_P xs Ln (d + 2) 188 [rf 63, (0, low), (0, high)] (T, M) (qW T M gS_188_m 0 (fun v M1 => LXp M1 ∧ M 63 4 ≤ M1 63 4 ∧ M 63 9 ≤ M1 63 9 ∧ (NBd M M1 low high v) ∧ (Yst M1 s n (yNu s n f q low high) (owE s n q) ∧ (yNu s n f q low high = 0 → v = owV s n q)))) := by
  show cP k_P xs Ln (d + 2) 188 0 [(0, rf 63), (1, (0, low)), (2, (0, high))] [] (T, M) _
  have hFm : Fr gS_188_m M M := Fr.refl
  have h639 := rg_63_9 hI
  have ⟨lx1, lx2⟩ := hX
  refine s_aload_n kx_188_0 rfl ?_
  refine s_callV2 (k := 63) (s1 := 1) (s2 := 0) (as := []) (rest := []) kx_188_1 kp_188_280 (Or.inl rfl) rfl (tk_63 hT) ki_179 kcl_179 rfl rfl (by decide) (f_179 (d := d) hT hI hY hn) (kV (fun M2 hI2 fr2 v1p => ?_))
  have hFm2 := hFm.call fr2 rfl
  have tr3 := (fr2 63 3 rfl)
  have tr4 := (fr2 63 4 rfl)
  have tr5 := (fr2 63 5 rfl)
  have tr6 := (fr2 63 6 rfl)
  have tr7 := rg_63_9 hI2
  refine s_aload_n kx_188_4 rfl ?_
  refine r_getI (k := 63) (f := 9) kx_188_5 kp_188_39 (tk_63 hT) kf_12_9 (fun _ => rfl) (rg_63_9 hI2) (fun v8 v8e v8a v8b => ?_)
  refine s_if_le (t := 13) kx_188_8 (by decide) (fun hc9 => ?_) (fun hc9 => ?_)
  · have hz10 := Yst.zero v1p.1 (by omega)
    have hz10k := yLx_0 hz10.1 hz10.2.2.2.1
    have hz10b := hz10.2.b hn
    have hz10n := hz10.2.2.1
    have hz10p := hz10.2.2.2.1
    have hz10q := hz10.2.2.2.2.1
    have hkk11 := hz10.2.kinds
    refine s_aload_n kx_188_13 rfl ?_
    refine r_getI (k := 63) (f := 3) kx_188_14 kp_188_20 (tk_63 hT) kf_12_3 (fun _ => rfl) (rg_63_3 hI2) (fun v12 v12e v12a v12b => ?_)
    have v12z : M 63 3 = v12 := ((fr2 63 3 rfl)).symm.trans v12e
    refine s_iconst (v := 2) kx_188_17 (by decide) ?_
    refine s_icmp_eq (t := 30) kx_188_18 (by decide) (fun hc13 => ?_) (fun hc13 => ?_)
    · refine s_aload_n kx_188_30 rfl ?_
      refine r_getK (k := 63) (f := 9) kx_188_31 kp_188_39 (tk_63 hT) kf_12_9 (fun _ => rfl) v8e ?_
      refine s_if_ne (t := 58) kx_188_34 (by decide) (fun hc14 => absurd hc14 (by omega)) (fun hc14 => ?_)
      refine s_aload_n kx_188_37 rfl ?_
      refine r_getU (k := 63) (f := 6) kx_188_38 kp_188_29 (tk_63 hT) kf_12_6 (fun _ => rfl) (fun v15 v15e => ?_)
      have v15z : M 63 6 = v15 := ((fr2 63 6 rfl)).symm.trans v15e
      refine s_iload_n kx_188_41 rfl ?_
      refine s_iload_n kx_188_42 rfl ?_
      refine s_callS2 (s1 := 3) (s2 := 0) (as := [(0, high), (0, low), (0, v15)]) (rest := []) kx_188_43 kp_188_345 rfl kcl_172 rfl rfl (by decide) (m_172 (d := d + 1) (v_ := v15) (least := low) (most := high) hT hI2) (kF (fun v16 v16p => ?_))
      refine s_if_ne (t := 58) kx_188_46 (by decide) (fun hc17 => ?_) (fun hc17 => ?_)
      · replace v16p := v16p.resolve_right (by omega)
        refine s_aload_n kx_188_58 rfl ?_
        refine r_getK (k := 63) (f := 6) kx_188_59 kp_188_29 (tk_63 hT) kf_12_6 (fun _ => rfl) v15e ?_
        refine s_istore_n kx_188_62 km_188_3 rfl ?_
        refine s_aload_n kx_188_63 rfl ?_
        refine r_getK (k := 63) (f := 9) kx_188_64 kp_188_39 (tk_63 hT) kf_12_9 (fun _ => rfl) v8e ?_
        refine s_if_ne (t := 74) kx_188_67 (by decide) (fun hc18 => absurd hc18 (by omega)) (fun hc18 => ?_)
        refine s_aload_n kx_188_70 rfl ?_
        refine s_callV2 (k := 63) (s1 := 1) (s2 := 0) (as := []) (rest := []) kx_188_71 kp_188_286 (Or.inl rfl) rfl (tk_63 hT) ki_180 kcl_180 rfl rfl (by decide) (f_180 (d := d) hT hI2 hz10.2.1 hz10.2.2.1 hz10.2.2.2.2.2.2.1 (owE_i2 ⟨hz10.2.2.2.1, hz10.2.2.2.2.1⟩).1 (owE_i2 ⟨hz10.2.2.2.1, hz10.2.2.2.2.1⟩).2 hz10.2.2.2.2.2.2.2.2.2.2.2.2.2) (kV (fun M20 hI20 fr20 v19p => ?_))
        have hFm20 := hFm2.call fr20 rfl
        have tr21 := (fr20 63 9 rfl)
        have tr22 := (fr20 63 10 rfl)
        have tr23 := rg_63_9 hI20
        refine s_iload_n kx_188_74 rfl ?_
        have hk24 : M20 63 9 = v8 := ((fr20 63 9 rfl).trans v8e)
        exact s_iret kx_188_75 (Or.inl kq_188) ⟨_, _, rfl, rfl, hI20, hFm20, ⟨(show LXp M20 from v19p.2.2), by omega, by omega, by unfold NBd; omega, ⟨(Or.inr ⟨by unfold yNu; (repeat' split) <;> omega, by omega, v19p.1⟩), fun g => by first | omega | (exfalso; unfold yNu owU at g; (repeat' split at g) <;> omega)⟩⟩⟩
      · replace v16p := v16p.resolve_left (by omega)
        refine s_aload_n kx_188_49 rfl ?_
        refine s_iconst (v := 4) kx_188_50 (by decide) ?_
        refine s_aload_n kx_188_51 rfl ?_
        refine r_getI (k := 63) (f := 4) kx_188_52 kp_188_23 (tk_63 hT) kf_12_4 (fun _ => rfl) (rg_63_4 hI2) (fun v25 v25e v25a v25b => ?_)
        have v25z : M 63 4 = v25 := ((fr2 63 4 rfl)).symm.trans v25e
        refine s_callV2 (k := 63) (s1 := 3) (s2 := 0) (as := [(0, v25), (0, 4)]) (rest := []) kx_188_55 kp_188_263 (Or.inl rfl) rfl (tk_63 hT) ki_176 kcl_176 rfl rfl (by decide) (f_176 (d := d + 1) (kind := 4) (place := v25) hT hI2 (by omega)) (kV (fun M27 hI27 fr27 v26p => ?_))
        have hFm27 := hFm2.call fr27 rfl
        have tr28 := (fr27 63 3 rfl)
        have tr29 := (fr27 63 4 rfl)
        have tr30 := (fr27 63 5 rfl)
        have tr31 := (fr27 63 6 rfl)
        have tr32 := rg_63_9 hI27
        refine s_aload_n kx_188_58 rfl ?_
        refine r_getK (k := 63) (f := 6) kx_188_59 kp_188_29 (tk_63 hT) kf_12_6 (fun _ => rfl) ((fr27 63 6 rfl).trans v15e) ?_
        refine s_istore_n kx_188_62 km_188_3 rfl ?_
        refine s_aload_n kx_188_63 rfl ?_
        refine r_getI (k := 63) (f := 9) kx_188_64 kp_188_39 (tk_63 hT) kf_12_9 (fun _ => rfl) (rg_63_9 hI27) (fun v33 v33e v33a v33b => ?_)
        refine s_if_ne (t := 74) kx_188_67 (by decide) (fun hc34 => ?_) (fun hc34 => ?_)
        · refine s_iload_n kx_188_74 rfl ?_
          have hk35 : M27 63 3 = v12 := ((fr27 63 3 rfl).trans v12e)
          have hk36 : M27 63 4 = v25 := ((fr27 63 4 rfl).trans v25e)
          have hk37 : M27 63 9 = v33 := v33e
          exact s_iret kx_188_75 (Or.inl kq_188) ⟨_, _, rfl, rfl, hI27, hFm27, ⟨(LXp.fr (LXp.fr hX fr2 rfl) fr27 rfl), by omega, by omega, by unfold NBd; omega, ⟨(yst_bl (k := 4) (x := owB s n q) (by omega) (by omega) (by decide) (by omega) (by unfold yNu owU; (repeat' split) <;> omega)), fun g => by first | omega | (exfalso; unfold yNu owU at g; (repeat' split at g) <;> omega)⟩⟩⟩
        · refine s_aload_n kx_188_70 rfl ?_
          refine s_callV2 (k := 63) (s1 := 1) (s2 := 0) (as := []) (rest := []) kx_188_71 kp_188_286 (Or.inl rfl) rfl (tk_63 hT) ki_180 kcl_180 rfl rfl (by decide) (f_180 (d := d) hT hI27 (LyA.bl (M1 := M27) hz10.2 (by omega)).1 (LyA.bl (M1 := M27) hz10.2 (by omega)).2.1 (LyA.bl (M1 := M27) hz10.2 (by omega)).2.2.2.2.2.1 (owE_i2 ⟨(LyA.bl (M1 := M27) hz10.2 (by omega)).2.2.1, (LyA.bl (M1 := M27) hz10.2 (by omega)).2.2.2.1⟩).1 (owE_i2 ⟨(LyA.bl (M1 := M27) hz10.2 (by omega)).2.2.1, (LyA.bl (M1 := M27) hz10.2 (by omega)).2.2.2.1⟩).2 (LyA.bl (M1 := M27) hz10.2 (by omega)).2.2.2.2.2.2.2.2.2.2.2.2) (kV (fun M39 hI39 fr39 v38p => ?_))
          have hFm39 := hFm27.call fr39 rfl
          have tr40 := (fr39 63 9 rfl)
          have tr41 := (fr39 63 10 rfl)
          have tr42 := rg_63_9 hI39
          refine s_iload_n kx_188_74 rfl ?_
          have hk43 : M39 63 9 = v33 := ((fr39 63 9 rfl).trans v33e)
          exact s_iret kx_188_75 (Or.inl kq_188) ⟨_, _, rfl, rfl, hI39, hFm39, ⟨(show LXp M39 from v38p.2.2), by omega, by omega, by unfold NBd; omega, ⟨(Or.inr ⟨by unfold yNu; (repeat' split) <;> omega, by omega, v38p.1⟩), fun g => by first | omega | (exfalso; unfold yNu owU at g; (repeat' split at g) <;> omega)⟩⟩⟩
    · refine s_aload_n kx_188_21 rfl ?_
      refine s_iconst (v := 1) kx_188_22 (by decide) ?_
      refine s_aload_n kx_188_23 rfl ?_
      refine r_getI (k := 63) (f := 4) kx_188_24 kp_188_23 (tk_63 hT) kf_12_4 (fun _ => rfl) (rg_63_4 hI2) (fun v44 v44e v44a v44b => ?_)
      have v44z : M 63 4 = v44 := ((fr2 63 4 rfl)).symm.trans v44e
      refine s_callV2 (k := 63) (s1 := 3) (s2 := 0) (as := [(0, v44), (0, 1)]) (rest := []) kx_188_27 kp_188_263 (Or.inl rfl) rfl (tk_63 hT) ki_176 kcl_176 rfl rfl (by decide) (f_176 (d := d + 1) (kind := 1) (place := v44) hT hI2 (by omega)) (kV (fun M46 hI46 fr46 v45p => ?_))
      have hFm46 := hFm2.call fr46 rfl
      have tr47 := (fr46 63 3 rfl)
      have tr48 := (fr46 63 4 rfl)
      have tr49 := (fr46 63 5 rfl)
      have tr50 := (fr46 63 6 rfl)
      have tr51 := rg_63_9 hI46
      refine s_aload_n kx_188_30 rfl ?_
      refine r_getI (k := 63) (f := 9) kx_188_31 kp_188_39 (tk_63 hT) kf_12_9 (fun _ => rfl) (rg_63_9 hI46) (fun v52 v52e v52a v52b => ?_)
      refine s_if_ne (t := 58) kx_188_34 (by decide) (fun hc53 => ?_) (fun hc53 => ?_)
      · refine s_aload_n kx_188_58 rfl ?_
        refine r_getU (k := 63) (f := 6) kx_188_59 kp_188_29 (tk_63 hT) kf_12_6 (fun _ => rfl) (fun v54 v54e => ?_)
        have v54z : M 63 6 = v54 := (((fr46 63 6 rfl).trans (fr2 63 6 rfl))).symm.trans v54e
        refine s_istore_n kx_188_62 km_188_3 rfl ?_
        refine s_aload_n kx_188_63 rfl ?_
        refine r_getK (k := 63) (f := 9) kx_188_64 kp_188_39 (tk_63 hT) kf_12_9 (fun _ => rfl) v52e ?_
        refine s_if_ne (t := 74) kx_188_67 (by decide) (fun hc55 => ?_) (fun hc55 => absurd hc55 (by omega))
        refine s_iload_n kx_188_74 rfl ?_
        have hk56 : M46 63 3 = v12 := ((fr46 63 3 rfl).trans v12e)
        have hk57 : M46 63 4 = v44 := ((fr46 63 4 rfl).trans v44e)
        have hk58 : M46 63 9 = v52 := v52e
        exact s_iret kx_188_75 (Or.inl kq_188) ⟨_, _, rfl, rfl, hI46, hFm46, ⟨(LXp.fr (LXp.fr hX fr2 rfl) fr46 rfl), by omega, by omega, by unfold NBd; omega, ⟨(yst_bl (k := 1) (x := owB s n q) (by omega) (by omega) (by decide) (by omega) (by unfold yNu owU; (repeat' split) <;> omega)), fun g => by first | omega | (exfalso; unfold yNu owU at g; (repeat' split at g) <;> omega)⟩⟩⟩
      · refine s_aload_n kx_188_37 rfl ?_
        refine r_getU (k := 63) (f := 6) kx_188_38 kp_188_29 (tk_63 hT) kf_12_6 (fun _ => rfl) (fun v59 v59e => ?_)
        have v59z : M 63 6 = v59 := (((fr46 63 6 rfl).trans (fr2 63 6 rfl))).symm.trans v59e
        refine s_iload_n kx_188_41 rfl ?_
        refine s_iload_n kx_188_42 rfl ?_
        refine s_callS2 (s1 := 3) (s2 := 0) (as := [(0, high), (0, low), (0, v59)]) (rest := []) kx_188_43 kp_188_345 rfl kcl_172 rfl rfl (by decide) (m_172 (d := d + 1) (v_ := v59) (least := low) (most := high) hT hI46) (kF (fun v60 v60p => ?_))
        refine s_if_ne (t := 58) kx_188_46 (by decide) (fun hc61 => ?_) (fun hc61 => ?_)
        · replace v60p := v60p.resolve_right (by omega)
          refine s_aload_n kx_188_58 rfl ?_
          refine r_getK (k := 63) (f := 6) kx_188_59 kp_188_29 (tk_63 hT) kf_12_6 (fun _ => rfl) v59e ?_
          refine s_istore_n kx_188_62 km_188_3 rfl ?_
          refine s_aload_n kx_188_63 rfl ?_
          refine r_getK (k := 63) (f := 9) kx_188_64 kp_188_39 (tk_63 hT) kf_12_9 (fun _ => rfl) v52e ?_
          refine s_if_ne (t := 74) kx_188_67 (by decide) (fun hc62 => absurd hc62 (by omega)) (fun hc62 => ?_)
          refine s_aload_n kx_188_70 rfl ?_
          refine s_callV2 (k := 63) (s1 := 1) (s2 := 0) (as := []) (rest := []) kx_188_71 kp_188_286 (Or.inl rfl) rfl (tk_63 hT) ki_180 kcl_180 rfl rfl (by decide) (f_180 (d := d) hT hI46 (LyA.bl (M1 := M46) hz10.2 (by omega)).1 (LyA.bl (M1 := M46) hz10.2 (by omega)).2.1 (LyA.bl (M1 := M46) hz10.2 (by omega)).2.2.2.2.2.1 (owE_i2 ⟨(LyA.bl (M1 := M46) hz10.2 (by omega)).2.2.1, (LyA.bl (M1 := M46) hz10.2 (by omega)).2.2.2.1⟩).1 (owE_i2 ⟨(LyA.bl (M1 := M46) hz10.2 (by omega)).2.2.1, (LyA.bl (M1 := M46) hz10.2 (by omega)).2.2.2.1⟩).2 (LyA.bl (M1 := M46) hz10.2 (by omega)).2.2.2.2.2.2.2.2.2.2.2.2) (kV (fun M64 hI64 fr64 v63p => ?_))
          have hFm64 := hFm46.call fr64 rfl
          have tr65 := (fr64 63 9 rfl)
          have tr66 := (fr64 63 10 rfl)
          have tr67 := rg_63_9 hI64
          refine s_iload_n kx_188_74 rfl ?_
          have hk68 : M64 63 9 = v52 := ((fr64 63 9 rfl).trans v52e)
          exact s_iret kx_188_75 (Or.inl kq_188) ⟨_, _, rfl, rfl, hI64, hFm64, ⟨(show LXp M64 from v63p.2.2), by omega, by omega, by unfold NBd; omega, ⟨(Or.inr ⟨by unfold yNu; (repeat' split) <;> omega, by omega, v63p.1⟩), fun g => by first | omega | (exfalso; unfold yNu owU at g; (repeat' split at g) <;> omega)⟩⟩⟩
        · replace v60p := v60p.resolve_left (by omega)
          refine s_aload_n kx_188_49 rfl ?_
          refine s_iconst (v := 4) kx_188_50 (by decide) ?_
          refine s_aload_n kx_188_51 rfl ?_
          refine r_getK (k := 63) (f := 4) kx_188_52 kp_188_23 (tk_63 hT) kf_12_4 (fun _ => rfl) ((fr46 63 4 rfl).trans v44e) ?_
          refine s_callV2 (k := 63) (s1 := 3) (s2 := 0) (as := [(0, v44), (0, 4)]) (rest := []) kx_188_55 kp_188_263 (Or.inl rfl) rfl (tk_63 hT) ki_176 kcl_176 rfl rfl (by decide) (f_176 (d := d + 1) (kind := 4) (place := v44) hT hI46 (by omega)) (kV (fun M70 hI70 fr70 v69p => ?_))
          have hFm70 := hFm46.call fr70 rfl
          have tr71 := (fr70 63 3 rfl)
          have tr72 := (fr70 63 4 rfl)
          have tr73 := (fr70 63 5 rfl)
          have tr74 := (fr70 63 6 rfl)
          have tr75 := rg_63_9 hI70
          refine s_aload_n kx_188_58 rfl ?_
          refine r_getK (k := 63) (f := 6) kx_188_59 kp_188_29 (tk_63 hT) kf_12_6 (fun _ => rfl) ((fr70 63 6 rfl).trans v59e) ?_
          refine s_istore_n kx_188_62 km_188_3 rfl ?_
          refine s_aload_n kx_188_63 rfl ?_
          refine r_getI (k := 63) (f := 9) kx_188_64 kp_188_39 (tk_63 hT) kf_12_9 (fun _ => rfl) (rg_63_9 hI70) (fun v76 v76e v76a v76b => ?_)
          refine s_if_ne (t := 74) kx_188_67 (by decide) (fun hc77 => ?_) (fun hc77 => ?_)
          · refine s_iload_n kx_188_74 rfl ?_
            have hk78 : M70 63 3 = v12 := ((fr70 63 3 rfl).trans ((fr46 63 3 rfl).trans v12e))
            have hk79 : M70 63 4 = v44 := ((fr70 63 4 rfl).trans ((fr46 63 4 rfl).trans v44e))
            have hk80 : M70 63 9 = v76 := v76e
            exact s_iret kx_188_75 (Or.inl kq_188) ⟨_, _, rfl, rfl, hI70, hFm70, ⟨(LXp.fr (LXp.fr (LXp.fr hX fr2 rfl) fr46 rfl) fr70 rfl), by omega, by omega, by unfold NBd; omega, ⟨(yst_bl (k := 4) (x := owB s n q) (by omega) (by omega) (by decide) (by omega) (by unfold yNu owU; (repeat' split) <;> omega)), fun g => by first | omega | (exfalso; unfold yNu owU at g; (repeat' split at g) <;> omega)⟩⟩⟩
          · refine s_aload_n kx_188_70 rfl ?_
            refine s_callV2 (k := 63) (s1 := 1) (s2 := 0) (as := []) (rest := []) kx_188_71 kp_188_286 (Or.inl rfl) rfl (tk_63 hT) ki_180 kcl_180 rfl rfl (by decide) (f_180 (d := d) hT hI70 (LyA.bl (M1 := M70) (LyA.bl (M1 := M46) hz10.2 (by omega)) (by omega)).1 (LyA.bl (M1 := M70) (LyA.bl (M1 := M46) hz10.2 (by omega)) (by omega)).2.1 (LyA.bl (M1 := M70) (LyA.bl (M1 := M46) hz10.2 (by omega)) (by omega)).2.2.2.2.2.1 (owE_i2 ⟨(LyA.bl (M1 := M70) (LyA.bl (M1 := M46) hz10.2 (by omega)) (by omega)).2.2.1, (LyA.bl (M1 := M70) (LyA.bl (M1 := M46) hz10.2 (by omega)) (by omega)).2.2.2.1⟩).1 (owE_i2 ⟨(LyA.bl (M1 := M70) (LyA.bl (M1 := M46) hz10.2 (by omega)) (by omega)).2.2.1, (LyA.bl (M1 := M70) (LyA.bl (M1 := M46) hz10.2 (by omega)) (by omega)).2.2.2.1⟩).2 (LyA.bl (M1 := M70) (LyA.bl (M1 := M46) hz10.2 (by omega)) (by omega)).2.2.2.2.2.2.2.2.2.2.2.2) (kV (fun M82 hI82 fr82 v81p => ?_))
            have hFm82 := hFm70.call fr82 rfl
            have tr83 := (fr82 63 9 rfl)
            have tr84 := (fr82 63 10 rfl)
            have tr85 := rg_63_9 hI82
            refine s_iload_n kx_188_74 rfl ?_
            have hk86 : M82 63 9 = v76 := ((fr82 63 9 rfl).trans v76e)
            exact s_iret kx_188_75 (Or.inl kq_188) ⟨_, _, rfl, rfl, hI82, hFm82, ⟨(show LXp M82 from v81p.2.2), by omega, by omega, by unfold NBd; omega, ⟨(Or.inr ⟨by unfold yNu; (repeat' split) <;> omega, by omega, v81p.1⟩), fun g => by first | omega | (exfalso; unfold yNu owU at g; (repeat' split at g) <;> omega)⟩⟩⟩
  · have hz87 := Yst.pos v1p.1 (by omega)
    refine s_iconst (v := 0) kx_188_11 (by decide) ?_
    have hk88 : M2 63 9 = v8 := v8e
    exact s_iret kx_188_12 (Or.inl kq_188) ⟨_, _, rfl, rfl, hI2, hFm2, ⟨(LXp.fr hX fr2 rfl), by omega, by omega, by unfold NBd; omega, ⟨(yst_is (yLx_nu hz87.1) v1p.1 hz87.1), fun g => absurd (yLx_nu hz87.1 ▸ g) hz87.1⟩⟩⟩
