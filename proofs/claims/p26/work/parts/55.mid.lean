/-! the town that a text tells, statement by statement: D 0: rooms, people, breaks, carpenter; D 1 names of rooms, 2 doors, 3 floors, 4 minutes, 5 names of people, 6 strong, 7 weight, 8 width, 9 partner, 10 home; 11 slow told, 12 stands told -/
def owD (M : cM) (t : Nat) : cM := fun k f => if k ≤ 10 then M (t + k) f else if k = 11 then (if M (t + 11) 2 = 0 then 0 else 1) else if k = 12 then (if M (t + 14) 2 = 0 then 0 else 1) else 0
theorem owD_le {M : cM} {t k f : Nat} (h : k ≤ 10) : owD M t k f = M (t + k) f := if_pos h
theorem owD_up {M M1 D : cM} {t k f : Nat} {v : Int} (h : owD M t = D) (u : Up M (t + k) f v M1) (hk : k ≤ 10) : owD M1 t = c_up D k f v := by
  subst h
  funext a b
  unfold owD c_up
  dsimp only
  by_cases ha : a ≤ 10
  · rw [if_pos ha, if_pos ha]
    by_cases g : a = k ∧ b = f
    · rw [if_pos g, g.1, g.2]; exact u.1
    · rw [if_neg g]; exact u.2 _ _ (by omega)
  · rw [if_neg ha, if_neg ha, if_neg (show ¬ (a = k ∧ b = f) by omega), u.2 (t + 11) 2 (by omega), u.2 (t + 14) 2 (by omega)]
theorem owD_up2 {M M1 D : cM} {t k f : Nat} {v : Int} (h : owD M t = D) (u : Up M k f v M1) (hk : k < t ∨ t + 16 < k) : owD M1 t = D := by
  subst h
  funext a b
  unfold owD
  by_cases ha : a ≤ 10
  · rw [if_pos ha, if_pos ha]; exact u.2 _ _ (by omega)
  · rw [if_neg ha, if_neg ha, u.2 (t + 11) 2 (by omega), u.2 (t + 14) 2 (by omega)]
theorem owD_fr {S : List (Nat × Nat)} {M M1 D : cM} {t : Nat} (h : owD M t = D) (ht : t = 8 ∨ t = 25) (g : Fr S M M1) (hs : (S.all fun q => decide (q.1 < 8) || decide (41 < q.1)) = true) : owD M1 t = D := by
  have hc : ∀ k, 8 ≤ k → k ≤ 41 → ∀ f, M1 k f = M k f := fun k h1 h2 f => g k f (nin (by omega) (List.all_eq_true.mpr fun q hq => by have := List.all_eq_true.mp hs q hq; simp at this ⊢; omega) f)
  subst h
  funext a b
  unfold owD
  by_cases ha : a ≤ 10
  · rw [if_pos ha, if_pos ha]; exact hc _ (by omega) (by omega) _
  · rw [if_neg ha, if_neg ha, hc (t + 11) (by omega) (by omega), hc (t + 14) (by omega) (by omega)]
theorem owD_at {M D : cM} {t k f : Nat} (h : owD M t = D) (hk : k ≤ 10) : M (t + k) f = D k f := by
  rw [← h, owD_le hk]
def owIF (g : Nat → Int) (v : Int) : Nat → Nat → Int
  | 0, _ => -1
  | k + 1, i => if g i = v then (i : Int) else owIF g v k (i + 1)
/-- the first place below m at which v stands, -1 without one -/
def owIx (g : Nat → Int) (v : Int) (m : Nat) : Int := owIF g v m 0
theorem owIF_rng (g : Nat → Int) (v : Int) : ∀ (k i : Nat), owIF g v k i = -1 ∨ ((i : Int) ≤ owIF g v k i ∧ owIF g v k i < (i : Int) + k ∧ g (owIF g v k i).toNat = v)
  | 0, i => Or.inl rfl
  | k + 1, i => by
    unfold owIF
    split
    next h => exact Or.inr ⟨Int.le_refl _, by omega, by rw [Int.toNat_natCast]; exact h⟩
    next h =>
      rcases owIF_rng g v k (i + 1) with h2 | ⟨h2, h3, h4⟩
      · exact Or.inl h2
      · exact Or.inr ⟨by omega, by omega, h4⟩
theorem owIx_rng (g : Nat → Int) (v : Int) (m : Nat) : owIx g v m = -1 ∨ (0 ≤ owIx g v m ∧ owIx g v m < m ∧ g (owIx g v m).toNat = v) := by
  rcases owIF_rng g v m 0 with h | ⟨h1, h2, h3⟩
  · exact Or.inl h
  · exact Or.inr ⟨by unfold owIx; omega, by unfold owIx; omega, h3⟩
theorem owIF_congr {g g2 : Nat → Int} {v v2 : Int} : ∀ (k i : Nat), (∀ j, i ≤ j → j < i + k → (g j = v ↔ g2 j = v2)) → owIF g v k i = owIF g2 v2 k i
  | 0, _, _ => rfl
  | k + 1, i, h => by
    unfold owIF
    have h0 := h i (Nat.le_refl _) (by omega)
    have h1 := owIF_congr k (i + 1) (fun j a b => h j (by omega) (by omega))
    by_cases e : g i = v
    · rw [if_pos e, if_pos (h0.mp e)]
    · rw [if_neg e, if_neg (fun z => e (h0.mpr z)), h1]
theorem owIx_congr {g g2 : Nat → Int} {v v2 : Int} {m : Nat} (h : ∀ j, j < m → (g j = v ↔ g2 j = v2)) : owIx g v m = owIx g2 v2 m := owIF_congr m 0 (fun j _ b => h j (by omega))
/-- the width of all chairs at home in a room, of the first k people -/
def owLd (D : cM) (r : Int) : Nat → Int
  | 0 => 0
  | k + 1 => owLd D r k + (if D 10 k = r then D 8 k else 0)
/-- numbers of a town that is being told -/
def DW (D : cM) : Prop := 0 ≤ D 0 0 ∧ D 0 0 ≤ 8 ∧ 0 ≤ D 0 1 ∧ D 0 1 ≤ 8 ∧ (∀ i : Nat, (i : Int) < D 0 1 → 0 ≤ D 8 i ∧ D 8 i ≤ 9 ∧ 0 ≤ D 10 i ∧ D 10 i < D 0 0) ∧ (∀ i : Nat, (i : Int) < D 0 0 → D 1 i ≠ 1) ∧ (∀ i : Nat, (i : Int) < D 0 1 → D 5 i ≠ 1) ∧ (∀ i : Nat, (i : Int) < D 0 1 → -1 ≤ D 9 i ∧ D 9 i < D 0 1) ∧ (D 0 3 = -1 ∨ (0 ≤ D 0 3 ∧ D 0 3 < D 0 0))
theorem owLd_rng {D : cM} (h : DW D) (r : Int) : ∀ k : Nat, (k : Int) ≤ D 0 1 → 0 ≤ owLd D r k ∧ owLd D r k ≤ 9 * k
  | 0, _ => ⟨Int.le_refl _, Int.le_refl _⟩
  | k + 1, hk => by
    have h1 := owLd_rng h r k (by omega)
    have h2 := h.2.2.2.2.1 k (by omega)
    show 0 ≤ owLd D r k + (if D 10 k = r then D 8 k else 0) ∧ owLd D r k + (if D 10 k = r then D 8 k else 0) ≤ 9 * ((k + 1 : Nat) : Int)
    split <;> omega
section MID
variable (s : Nat → Int) (n : Int) (D : cM) (p : Int)
/-- faults of the readers, 0 without one -/
def owNm (w lo hi : Int) : Int := if owW s n p w = 0 then owU s n p else if owK s n (owE s n p) ≠ 3 then owU s n (owE s n p) else if owV s n (owE s n p) < lo ∨ hi < owV s n (owE s n p) then 40000 + owB s n (owE s n p) else 0
def owFr : Int := if owK s n p ≠ 2 then owU s n p else if owIx (D 1) (owV s n p) (D 0 0).toNat ≠ -1 ∨ owIx (D 5) (owV s n p) (D 0 1).toNat ≠ -1 then 20000 + owB s n p else 0
def owKr : Int := if owK s n p ≠ 2 then owU s n p else if owIx (D 1) (owV s n p) (D 0 0).toNat = -1 then 30000 + owB s n p else 0
def owRi : Int := owIx (D 1) (owV s n p) (D 0 0).toNat
def owPi : Int := owIx (D 5) (owV s n p) (D 0 1).toNat
def owUj (other : Int) : Int := if owK s n p ≠ 2 then owU s n p else if owPi s n D p = -1 ∨ owPi s n D p = other ∨ D 9 (owPi s n D p).toNat ≠ -1 then 30000 + owB s n p else 0
def owHs (r w : Int) : Prop := w ≤ D 2 r.toNat ∧ w + owLd D r (D 0 1).toNat ≤ D 3 r.toNat
def owHm (w : Int) : Int := if owW s n p 54525952 = 0 then owU s n p else if owKr s n D (owE s n p) ≠ 0 then owKr s n D (owE s n p) else if D 2 (owRi s n D (owE s n p)).toNat < w ∨ D 3 (owRi s n D (owE s n p)).toNat < w + owLd D (owRi s n D (owE s n p)) (D 0 1).toNat then 30000 + owB s n (owE s n p) else 0
def owAR (nm d f : Int) : cM := c_up (c_up (c_up (c_up D 1 (D 0 0).toNat nm) 2 (D 0 0).toNat d) 3 (D 0 0).toNat f) 0 0 (D 0 0 + 1)
def owRoomF : Int := if 8 ≤ D 0 0 then 60000 + owB s n p else if owFr s n D (owE s n p) ≠ 0 then owFr s n D (owE s n p) else if owNm s n (owE s n (owE s n p)) 150456320 1 9 ≠ 0 then owNm s n (owE s n (owE s n p)) 150456320 1 9 else owNm s n (owE s n (owE s n (owE s n (owE s n p)))) 214416960 1 99
def owRoomP : Int := owE s n (owE s n (owE s n (owE s n (owE s n (owE s n p)))))
def owRoomD : cM := owAR D (owV s n (owE s n p)) (owV s n (owE s n (owE s n (owE s n p)))) (owV s n (owE s n (owE s n (owE s n (owE s n (owE s n p))))))
def owWayF : Int := if owKr s n D (owE s n p) ≠ 0 then owKr s n D (owE s n p) else if owKr s n D (owE s n (owE s n p)) ≠ 0 then owKr s n D (owE s n (owE s n p)) else if owRi s n D (owE s n (owE s n p)) = owRi s n D (owE s n p) then 30000 + owB s n (owE s n (owE s n p)) else owNm s n (owE s n (owE s n (owE s n p))) 672503392 1 60
def owWayP : Int := owE s n (owE s n (owE s n (owE s n (owE s n p))))
def owAW (a b m : Int) : cM := c_up (c_up D 4 (a * 8 + b).toNat m) 4 (b * 8 + a).toNat m
def owWayD : cM := owAW D (owRi s n D (owE s n p)) (owRi s n D (owE s n (owE s n p))) (owV s n (owE s n (owE s n (owE s n (owE s n p)))))
def owPer1 : Int := owE s n (owE s n p)
def owPerF : Int := if 8 ≤ D 0 1 then 60000 + owB s n p else if owFr s n D (owE s n p) ≠ 0 then owFr s n D (owE s n p) else if owNm s n (owE s n (owE s n p)) 659111367 1 99 ≠ 0 then owNm s n (owE s n (owE s n p)) 659111367 1 99 else if owNm s n (owE s n (owE s n (owE s n (owE s n p)))) 109094464 1 99 ≠ 0 then owNm s n (owE s n (owE s n (owE s n (owE s n p)))) 109094464 1 99 else if owNm s n (owE s n (owE s n (owE s n (owE s n (owE s n (owE s n p)))))) 781325312 1 9 ≠ 0 then owNm s n (owE s n (owE s n (owE s n (owE s n (owE s n (owE s n p)))))) 781325312 1 9 else owHm s n D (owE s n (owE s n (owE s n (owE s n (owE s n (owE s n (owE s n (owE s n p)))))))) (owV s n (owE s n (owE s n (owE s n (owE s n (owE s n (owE s n (owE s n p))))))))
def owPerP : Int := owE s n (owE s n (owE s n (owE s n (owE s n (owE s n (owE s n (owE s n (owE s n (owE s n p)))))))))
def owAP (nm st we wi ho : Int) : cM := c_up (c_up (c_up (c_up (c_up (c_up (c_up D 5 (D 0 1).toNat nm) 6 (D 0 1).toNat st) 7 (D 0 1).toNat we) 8 (D 0 1).toNat wi) 10 (D 0 1).toNat ho) 9 (D 0 1).toNat (-1)) 0 1 (D 0 1 + 1)
def owPerD : cM := owAP D (owV s n (owE s n p)) (owV s n (owE s n (owE s n (owE s n p)))) (owV s n (owE s n (owE s n (owE s n (owE s n (owE s n p)))))) (owV s n (owE s n (owE s n (owE s n (owE s n (owE s n (owE s n (owE s n p)))))))) (owRi s n D (owE s n (owE s n (owE s n (owE s n (owE s n (owE s n (owE s n (owE s n (owE s n p))))))))))
def owJoF : Int := if owUj s n D (owE s n p) (-1) ≠ 0 then owUj s n D (owE s n p) (-1) else owUj s n D (owE s n (owE s n p)) (owPi s n D (owE s n p))
def owJoP : Int := owE s n (owE s n (owE s n p))
def owAJ (a b : Int) : cM := c_up (c_up D 9 a.toNat b) 9 b.toNat a
def owJoD : cM := owAJ D (owPi s n D (owE s n p)) (owPi s n D (owE s n (owE s n p)))
def owBrF (_D : cM) (p : Int) : Int := owNm s n p 86148467 0 100
def owBrP : Int := owE s n (owE s n p)
def owCaP : Int := owE s n (owE s n p)
def owBrD : cM := c_up D 0 2 (owV s n (owE s n p))
def owCaF : Int := owKr s n D (owE s n p)
def owCaD : cM := c_up D 0 3 (owRi s n D (owE s n p))
end MID
theorem owFl {M : cM} {f g : Int} (h : g ≠ 0 ∧ Flt M g) (e : f = g) : f ≠ 0 ∧ Flt M f := by rw [e]; exact h
theorem LxA.fl {M M1 : cM} {s : Nat → Int} {n p k f x : Int} (h : LxA M s n p) (hK : owK s n p ≠ 5) (hn : n ≤ 1600) (hx : x = M 5 5) (hu : (M 5 6 = 0 ∧ M1 5 6 = k ∧ M1 5 7 = x) ∨ (M 5 6 ≠ 0 ∧ M1 5 6 = M 5 6 ∧ M1 5 7 = M 5 7)) (hk : 1 ≤ k) (hf : f = 10000 * k + owB s n p) : f ≠ 0 ∧ Flt M1 f := by
  obtain ⟨a1, a2, a3, a4, a5, a6, a7, a8, a9⟩ := h
  have hb := owB_rng (s := s) a4
  have := a8 hK
  unfold Flt
  omega
theorem owU_pos {s : Nat → Int} {n p : Int} (h : 0 ≤ p) : 10000 ≤ owU s n p := by
  have h1 := owB_ge (s := s) (n := n) (p := p)
  have h2 := owX_rng (s := s) (n := n) (p := p)
  unfold owU
  split <;> omega
/-- a name's number -/
theorem owV_name {s : Nat → Int} {n p : Int} (hp : p ≤ n) (h : owK s n p = 2) : 0 ≤ owV s n p ∧ owV s n p < 1073741824 := by
  have hb := owB_rng (s := s) hp
  have h5 := owKn_rng (s := s) (n := n) (b := owB s n p)
  have hK : ¬ n ≤ owB s n p := fun g => by have := owK0.mpr g; omega
  have hk := h
  unfold owK at hk
  rw [if_neg hK] at hk
  by_cases hl : owLt (s (owB s n p).toNat)
  · rw [if_pos (Or.inl hl), if_pos hl] at hk
    split at hk
    · omega
    · have hV : owV s n p = owVw s n (owB s n p) := by unfold owV; rw [if_pos hl]
      have he := owEw_in (s := s) (n := n) (by omega) hl
      have hn : ¬ owCp s n (owB s n p) := fun g => by unfold owKw at hk; rw [if_pos g] at hk; omega
      have h6 : owEw s n (owB s n p) - owB s n p ≤ 6 := by
        apply Int.not_lt.mp
        intro g
        have := owKw_long g hn
        omega
      have hs := owKw_short (s := s) (n := n) (b := owB s n p) h6
      have hp6 := owP6_of (s := s) (n := n) (b := owB s n p) (x := owPk (owS s (owB s n p)) (owEw s n (owB s n p) - owB s n p).toNat) rfl (by omega) h6 rfl rfl
      rw [hV, hs.1]
      exact hp6.2
  · by_cases hd : owDg (s (owB s n p).toNat)
    · rw [if_pos (Or.inr hd), if_neg hl] at hk
      split at hk <;> omega
    · rw [if_neg (fun g => g.elim hl hd)] at hk
      omega
