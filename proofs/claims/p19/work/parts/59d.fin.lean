/-! statements and the whole text -/
def owFg (D : cM) (j : Nat) (c : List Int) : cM := fun k f => if k = j then (if f = 0 then (c.length : Int) + 1 else c.reverse.getD (f - 1) 0) else D k f
theorem owFg_cdL {D : cM} {j : Nat} {c : List Int} : cdL (owFg D j c) j = c.reverse := by
  have e0 : owFg D j c j 0 = (c.length : Int) + 1 := by unfold owFg; rw [if_pos rfl, if_pos rfl]
  unfold cdL
  rw [e0, show ((c.length : Int) + 1 - 1).toNat = c.length by omega]
  refine List.ext_getElem (by simp) (fun i h1 h2 => ?_)
  rw [List.getElem_map, List.getElem_range]
  unfold owFg
  rw [if_pos rfl, if_neg (Nat.succ_ne_zero i), Nat.add_sub_cancel, List.getD_eq_getElem?_getD, List.getElem?_eq_getElem h2]
  rfl
section FIN
variable (s : Nat → Int) (n : Int) (D : cM) (p : Int)
def owStF : Int := if owW s n p 620213248 = 1 then owRoomF s n D p else if owW s n p 773619712 = 1 then owWayF s n D p else if owW s n p 542723566 = 1 then owPerF s n D p else if owW s n p 351582372 = 1 then owJoF s n D p else if owW s n p 86148467 = 1 then owBrF s n D p else if owW s n p 1 = 1 then owCaF s n D p else owU s n p
def owStP : Int := if owW s n p 620213248 = 1 then owRoomP s n p else if owW s n p 773619712 = 1 then owWayP s n p else if owW s n p 542723566 = 1 then owPerP s n p else if owW s n p 351582372 = 1 then owJoP s n p else if owW s n p 86148467 = 1 then owBrP s n p else owCaP s n p
def owStD : cM := if owW s n p 620213248 = 1 then owRoomD s n D p else if owW s n p 773619712 = 1 then owWayD s n D p else if owW s n p 542723566 = 1 then owPerD s n D p else if owW s n p 351582372 = 1 then owJoD s n D p else if owW s n p 86148467 = 1 then owBrD s n D p else owCaD s n D p
def SumR (j : Nat) (f : Int) (D' : cM) (q : Int) : Prop := if D j 0 ≠ 0 then f = 60000 + owB s n p else (f ≠ 0 ∧ pHf s n (0, [(0, 0, 1, 0, [])], [], owE s n p) f) ∨ (∃ q1 c, pHl s n (0, [(0, 0, 1, 0, [])], [], owE s n p) (0, q1, c) ∧ ((owG s n q1 59 = 0 ∧ f = owU s n q1 ∧ f ≠ 0) ∨ (owG s n q1 59 = 1 ∧ f = 0 ∧ D' = owFg D j c ∧ q = owE s n q1)))
def FinR (f : Int) (D' : cM) (q : Int) : Prop := if owW s n p 650632192 = 1 then SumR s n D p 11 f D' q else if owW s n p 658552979 = 1 then SumR s n D p 12 f D' q else if owStF s n D p ≠ 0 then f = owStF s n D p else if owG s n (owStP s n p) 59 = 0 then f = owU s n (owStP s n p) ∧ f ≠ 0 else f = 0 ∧ D' = owStD s n D p ∧ q = owE s n (owStP s n p)
end FIN
def RdR (s : Nat → Int) (n : Int) : Nat → cM → Int → Int → Int → Int → cM → Prop
  | 0, _, _, _, _, _, _ => False
  | m + 1, D, q, k, f, N, D' => if owK s n q = 0 then f = 0 ∧ N = k ∧ D' = D else if k = 80 then f = 60000 + owB s n q else ∃ f1 D1 q1, FinR s n D q f1 D1 q1 ∧ ((f1 ≠ 0 ∧ f = f1) ∨ (f1 = 0 ∧ RdR s n m D1 q1 (k + 1) f N D'))
section FN2
variable {s : Nat → Int} {n : Int} {D : cM} {p f g : Int}
theorem SumR.det {j : Nat} {D1 D2 : cM} {q1 q2 : Int} (h0 : 0 ≤ p) (hp : p ≤ n) (h : SumR s n D p j f D1 q1) (h' : SumR s n D p j g D2 q2) : f = g ∧ (f = 0 → D1 = D2 ∧ q1 = q2) := by
  unfold SumR at h h'
  have hb := owB_rng (s := s) hp
  split at h
  next e =>
    rw [if_pos e] at h'
    exact ⟨by omega, fun z => by omega⟩
  next e =>
    rw [if_neg e] at h'
    rcases h with ⟨a1, q, cs, a2⟩ | ⟨q, c, a1, a2⟩
    · rcases h' with ⟨b1, q', cs', b2⟩ | ⟨q', c', b1, b2⟩
      · have := a2.det b2
        have e1 : f = g := congrArg (fun x : pRs => x.1) this
        exact ⟨e1, fun z => absurd z a1⟩
      · have := a2.det b1
        have e1 : f = 0 := congrArg (fun x : pRs => x.1) this
        exact absurd e1 a1
    · rcases h' with ⟨b1, q', cs', b2⟩ | ⟨q', c', b1, b2⟩
      · have := a1.det b2
        have e1 : 0 = g := congrArg (fun x : pRs => x.1) this
        exact absurd e1.symm b1
      · have := a1.det b1
        have e1 : q = q' := congrArg (fun x : pRs => x.2.1) this
        have e2 : c = c' := congrArg (fun x : pRs => x.2.2) this
        subst e1 e2
        rcases a2 with ⟨c1, c2, c5⟩ | ⟨c1, c2, c3, c4⟩
        · rcases b2 with ⟨d1, d2, d5⟩ | ⟨d1, d2, d3, d4⟩
          · exact ⟨by omega, fun z => absurd z c5⟩
          · omega
        · rcases b2 with ⟨d1, d2, d5⟩ | ⟨d1, d2, d3, d4⟩
          · omega
          · exact ⟨by omega, fun _ => ⟨by rw [c3, d3], by omega⟩⟩
theorem FinR.det {D1 D2 : cM} {q1 q2 : Int} (h0 : 0 ≤ p) (hp : p ≤ n) (h : FinR s n D p f D1 q1) (h' : FinR s n D p g D2 q2) : f = g ∧ (f = 0 → D1 = D2 ∧ q1 = q2) := by
  unfold FinR at h h'
  split at h
  next e =>
    rw [if_pos e] at h'
    exact h.det h0 hp h'
  next e =>
    rw [if_neg e] at h'
    split at h
    next e2 =>
      rw [if_pos e2] at h'
      exact h.det h0 hp h'
    next e2 =>
      rw [if_neg e2] at h'
      split at h
      next e3 =>
        rw [if_pos e3] at h'
        exact ⟨by omega, fun z => by omega⟩
      next e3 =>
        rw [if_neg e3] at h'
        split at h
        next e4 =>
          rw [if_pos e4] at h'
          exact ⟨by omega, fun z => absurd z h.2⟩
        next e4 =>
          rw [if_neg e4] at h'
          exact ⟨by omega, fun _ => ⟨by rw [h.2.1, h'.2.1], by omega⟩⟩
/-- the six plain statements -/
theorem st_sel {w : Int} {F P : Int} {D' : cM} (h : owW s n p w = 1) (hw : (w = 620213248 ∧ F = owRoomF s n D p ∧ P = owRoomP s n p ∧ D' = owRoomD s n D p) ∨ (w = 773619712 ∧ F = owWayF s n D p ∧ P = owWayP s n p ∧ D' = owWayD s n D p) ∨ (w = 542723566 ∧ F = owPerF s n D p ∧ P = owPerP s n p ∧ D' = owPerD s n D p) ∨ (w = 351582372 ∧ F = owJoF s n D p ∧ P = owJoP s n p ∧ D' = owJoD s n D p) ∨ (w = 86148467 ∧ F = owBrF s n D p ∧ P = owBrP s n p ∧ D' = owBrD s n D p) ∨ (w = 1 ∧ F = owCaF s n D p ∧ P = owCaP s n p ∧ D' = owCaD s n D p)) : owStF s n D p = F ∧ owStP s n p = P ∧ owStD s n D p = D' ∧ ¬ owW s n p 650632192 = 1 ∧ ¬ owW s n p 658552979 = 1 := by
  have hz : ∀ x, w ≠ x → ¬ owW s n p x = 1 := fun x hx => by rw [owW_ne h hx]; decide
  unfold owStF owStP owStD
  rcases hw with ⟨rfl, rfl, rfl, rfl⟩ | ⟨rfl, rfl, rfl, rfl⟩ | ⟨rfl, rfl, rfl, rfl⟩ | ⟨rfl, rfl, rfl, rfl⟩ | ⟨rfl, rfl, rfl, rfl⟩ | ⟨rfl, rfl, rfl, rfl⟩
  · exact ⟨if_pos h, if_pos h, if_pos h, hz _ (by decide), hz _ (by decide)⟩
  · rw [if_neg (hz _ (by decide)), if_pos h, if_neg (hz _ (by decide)), if_pos h, if_neg (hz _ (by decide)), if_pos h]
    exact ⟨rfl, rfl, rfl, hz _ (by decide), hz _ (by decide)⟩
  · rw [if_neg (hz 620213248 (by decide)), if_neg (hz 773619712 (by decide)), if_pos h, if_neg (hz 620213248 (by decide)), if_neg (hz 773619712 (by decide)), if_pos h, if_neg (hz 620213248 (by decide)), if_neg (hz 773619712 (by decide)), if_pos h]
    exact ⟨rfl, rfl, rfl, hz _ (by decide), hz _ (by decide)⟩
  · simp only [if_neg (hz 620213248 (by decide)), if_neg (hz 773619712 (by decide)), if_neg (hz 542723566 (by decide)), if_pos h]
    exact ⟨trivial, trivial, trivial, hz _ (by decide), hz _ (by decide)⟩
  · simp only [if_neg (hz 620213248 (by decide)), if_neg (hz 773619712 (by decide)), if_neg (hz 542723566 (by decide)), if_neg (hz 351582372 (by decide)), if_pos h]
    exact ⟨trivial, trivial, trivial, hz _ (by decide), hz _ (by decide)⟩
  · simp only [if_neg (hz 620213248 (by decide)), if_neg (hz 773619712 (by decide)), if_neg (hz 542723566 (by decide)), if_neg (hz 351582372 (by decide)), if_neg (hz 86148467 (by decide)), if_pos h]
    exact ⟨trivial, trivial, trivial, hz _ (by decide), hz _ (by decide)⟩
/-- what a statement's reader says -/
def StO (M : cM) (t : Nat) (s : Nat → Int) (n : Int) (D : cM) (p : Int) : Prop := ∃ D' q, LxA M s n q ∧ owD M t = D' ∧ (DW D' ∧ TD D') ∧ p + 1 ≤ q ∧ (owG s n q 59 = 1 → FinR s n D p 0 D' (owE s n q)) ∧ (owG s n q 59 = 0 → ∀ D2 q2, FinR s n D p (owU s n q) D2 q2)
theorem fin_x {w F P : Int} {D' D2 : cM} {q2 : Int} (hs : owStF s n D p = F ∧ owStP s n p = P ∧ owStD s n D p = D' ∧ ¬ owW s n p 650632192 = 1 ∧ ¬ owW s n p 658552979 = 1) (hF : F ≠ 0) : FinR s n D p F D2 q2 := by
  obtain ⟨h1, h2, h3, h4, h5⟩ := hs
  unfold FinR
  rw [if_neg h4, if_neg h5, h1, if_pos hF]
theorem fin_ok {F P : Int} {D' : cM} (hs : owStF s n D p = F ∧ owStP s n p = P ∧ owStD s n D p = D' ∧ ¬ owW s n p 650632192 = 1 ∧ ¬ owW s n p 658552979 = 1) (hF : F = 0) (hP : 0 ≤ P) : (owG s n P 59 = 1 → FinR s n D p 0 D' (owE s n P)) ∧ (owG s n P 59 = 0 → ∀ D2 q2, FinR s n D p (owU s n P) D2 q2) := by
  obtain ⟨h1, h2, h3, h4, h5⟩ := hs
  constructor
  · intro g
    unfold FinR
    rw [if_neg h4, if_neg h5, h1, if_neg (by omega), h2, if_neg (by omega), h3]
    exact ⟨rfl, rfl, rfl⟩
  · intro g D2 q2
    unfold FinR
    rw [if_neg h4, if_neg h5, h1, if_neg (by omega), h2, if_pos g]
    have := owU_pos (s := s) (n := n) hP
    exact ⟨rfl, by omega⟩
theorem fin_none {D2 : cM} {q2 : Int} (h0 : 0 ≤ p) (hw : ∀ w, (w = 620213248 ∨ w = 773619712 ∨ w = 542723566 ∨ w = 351582372 ∨ w = 86148467 ∨ w = 1 ∨ w = 650632192 ∨ w = 658552979) → ¬ owW s n p w = 1) : FinR s n D p (owU s n p) D2 q2 := by
  have hF : owStF s n D p = owU s n p := by
    unfold owStF
    rw [if_neg (hw _ (by omega)), if_neg (hw _ (by omega)), if_neg (hw _ (by omega)), if_neg (hw _ (by omega)), if_neg (hw _ (by omega)), if_neg (hw _ (by omega))]
  have := owU_pos (s := s) (n := n) h0
  unfold FinR
  rw [if_neg (hw _ (by omega)), if_neg (hw _ (by omega)), hF, if_pos (by omega)]
theorem fin_sum {j : Nat} {D' : cM} {q : Int} (hj : (j = 11 ∧ owW s n p 650632192 = 1) ∨ (j = 12 ∧ owW s n p 658552979 = 1)) : FinR s n D p f D' q ↔ SumR s n D p j f D' q := by
  unfold FinR
  rcases hj with ⟨rfl, h⟩ | ⟨rfl, h⟩
  · rw [if_pos h]
  · rw [if_neg (by rw [owW_ne h (by decide)]; decide), if_pos h]
theorem fin_sumok {j : Nat} {c : List Int} {q : Int} (hj : (j = 11 ∧ owW s n p 650632192 = 1) ∨ (j = 12 ∧ owW s n p 658552979 = 1)) (h0 : D j 0 = 0) (hq : 0 ≤ q) (h : LvOk s n 5 0 (owE s n p) c q) (ha : owAo s n q = 0) : (owG s n q 59 = 1 → FinR s n D p 0 (owFg D j c) (owE s n q)) ∧ (owG s n q 59 = 0 → ∀ D2 q2, FinR s n D p (owU s n q) D2 q2) := by
  have ⟨g1, g2⟩ := sm_all (pr := 0) h ha
  constructor
  · intro g
    rw [fin_sum hj]
    unfold SumR
    rw [if_neg (by omega)]
    exact Or.inr ⟨q, c, g2 (by rw [owG_Kn g]; decide), Or.inr ⟨g, rfl, rfl, rfl⟩⟩
  · intro g D2 q2
    have := owU_pos (s := s) (n := n) hq
    rw [fin_sum hj]
    unfold SumR
    rw [if_neg (by omega)]
    by_cases h5 : owK s n q = 5
    · exact Or.inl ⟨by omega, g1 h5⟩
    · exact Or.inr ⟨q, c, g2 h5, Or.inl ⟨g, rfl, by omega⟩⟩
theorem fin_sumx {j : Nat} {D2 : cM} {q2 : Int} (hj : (j = 11 ∧ owW s n p 650632192 = 1) ∨ (j = 12 ∧ owW s n p 658552979 = 1)) (h0 : D j 0 = 0) (hf : f ≠ 0) (h : LvX s n 5 0 (owE s n p) f) : FinR s n D p f D2 q2 := by
  rw [fin_sum hj]
  unfold SumR
  rw [if_neg (by omega)]
  exact Or.inl ⟨hf, sm_allx h⟩
theorem fin_sum6 {j : Nat} {D2 : cM} {q2 : Int} (hj : (j = 11 ∧ owW s n p 650632192 = 1) ∨ (j = 12 ∧ owW s n p 658552979 = 1)) (h0 : D j 0 ≠ 0) : FinR s n D p (60000 + owB s n p) D2 q2 := by
  rw [fin_sum hj]
  unfold SumR
  rw [if_pos h0]
/-- numbers stay in their ranges -/
theorem owPk_lo {u : Nat → Int} : ∀ k : Nat, (∀ i, i < k + 1 → 97 ≤ u i ∧ u i ≤ 122) → 1 ≤ owPk u (k + 1)
  | 0, h => by
    have := h 0 (by omega)
    show 1 ≤ 32 * owPk u 0 + (u 0 - 96)
    have : owPk u 0 = 0 := rfl
    omega
  | k + 1, h => by
    have h1 := owPk_lo k (fun i hi => h i (by omega))
    have h2 := h (k + 1) (by omega)
    show 1 ≤ 32 * owPk u (k + 1) + (u (k + 1) - 96)
    omega
theorem owV_nm (hp : p ≤ n) (h : owK s n p = 2) : owV s n p ≠ 1 := by
  have hb : owB s n p < n := Decidable.byContradiction fun g => by
    have := owK0.mpr (show n ≤ owB s n p by omega)
    omega
  have hl : owLt (s (owB s n p).toNat) := Decidable.byContradiction fun g => by
    unfold owK at h
    rw [if_neg (by omega)] at h
    split at h
    · split at h
      · omega
      · try rw [if_neg g] at h
        unfold owKn at h
        split at h <;> omega
    · omega
  have hk : owKw s n (owB s n p) = 2 := by
    unfold owK at h
    rw [if_neg (by omega), if_pos (Or.inl hl)] at h
    split at h
    · omega
    · first | exact h | (rw [if_pos hl] at h; exact h)
  have hv : owV s n p = owVw s n (owB s n p) := by unfold owV; rw [if_pos hl]
  have hei := owEw_in (s := s) hb hl
  unfold owKw at hk
  split at hk
  · omega
  next hc =>
    split at hk
    · omega
    next h6 =>
      rw [hv]
      unfold owVw
      rw [if_neg hc]
      unfold owP6
      generalize hL : owEw s n (owB s n p) - owB s n p = L at h6 ⊢
      have hL1 : 1 ≤ L := by omega
      have hu : ∀ i, i < L.toNat → 97 ≤ owS s (owB s n p) i ∧ owS s (owB s n p) i ≤ 122 := fun i hi => owS_lt (n := n) (Int.le_refl _) i (by omega)
      obtain ⟨m, hm⟩ : ∃ m : Nat, L = ((m + 1 : Nat) : Int) := ⟨(L - 1).toNat, by omega⟩
      rw [hm] at hu h6 ⊢
      rw [show (((m + 1 : Nat) : Int)).toNat = m + 1 by omega] at hu ⊢
      have h1 := owPk_lo m hu
      by_cases g : m + 1 = 6
      · have hm5 : m = 5 := by omega
        subst hm5
        have h2 := owPk_lo 4 (fun i hi => hu i (by omega))
        have h3 : owPk (owS s (owB s n p)) (5 + 1) = 32 * owPk (owS s (owB s n p)) (4 + 1) + (owS s (owB s n p) (4 + 1) - 96) := rfl
        have h4 := hu (4 + 1) (by omega)
        rw [h3, show (6 - ((5 + 1 : Nat) : Int)).toNat = 0 by decide, Int.pow_zero, Int.mul_one]
        omega
      · obtain ⟨w, hw⟩ : ∃ w : Nat, (6 - ((m + 1 : Nat) : Int)).toNat = w + 1 := ⟨(6 - ((m + 1 : Nat) : Int)).toNat - 1, by omega⟩
        rw [hw, Int.pow_succ, ← Int.mul_assoc]
        omega
theorem DW_AR {a b c : Int} (h : DW D) (h8 : D 0 0 < 8) (ha : a ≠ 1) : DW (owAR D a b c) := by
  obtain ⟨h1, h2, h3, h4, h5, h6, h7, h9, h10⟩ := h
  unfold DW owAR
  simp [c_up]
  refine ⟨by omega, by omega, h3, h4, fun i hi => ?_, fun i hi => ?_, h7, h9, by omega⟩
  · have := h5 i hi
    omega
  · by_cases e : i = (D 0 0).toNat
    · rw [if_pos e]; exact ha
    · rw [if_neg e]; exact h6 i (by omega)
theorem DW_AW {a b c : Int} (h : DW D) : DW (owAW D a b c) := by
  obtain ⟨h1, h2, h3, h4, h5, h6, h7, h9, h10⟩ := h
  unfold DW owAW
  simp [c_up]
  exact ⟨h1, h2, h3, h4, h5, h6, h7, h9, h10⟩
theorem DW_AP {a b c e g : Int} (h : DW D) (h8 : D 0 1 < 8) (hb : 0 ≤ b ∧ b ≤ 99) (hc : 0 ≤ c ∧ c ≤ 99) (he : 0 ≤ e ∧ e ≤ 9) (hg : 0 ≤ g ∧ g < D 0 0) (ha : a ≠ 1) : DW (owAP D a b c e g) := by
  obtain ⟨h1, h2, h3, h4, h5, h6, h7, h9, h10⟩ := h
  unfold DW owAP
  simp [c_up]
  refine ⟨h1, h2, by omega, by omega, fun i hi => ?_, h6, fun i hi => ?_, fun i hi => ?_, h10⟩
  · by_cases e2 : i = (D 0 1).toNat
    · rw [if_pos e2, if_pos e2, if_pos e2, if_pos e2]
      omega
    · rw [if_neg e2, if_neg e2, if_neg e2, if_neg e2]
      exact h5 i (by omega)
  · by_cases e2 : i = (D 0 1).toNat
    · rw [if_pos e2]; exact ha
    · rw [if_neg e2]; exact h7 i (by omega)
  · by_cases e2 : i = (D 0 1).toNat
    · rw [if_pos e2]; omega
    · rw [if_neg e2]
      have := h9 i (by omega)
      omega
theorem DW_AJ {a b : Int} (h : DW D) (ha : 0 ≤ a ∧ a < D 0 1) (hb : 0 ≤ b ∧ b < D 0 1) : DW (owAJ D a b) := by
  obtain ⟨h1, h2, h3, h4, h5, h6, h7, h9, h10⟩ := h
  unfold DW owAJ
  simp [c_up]
  refine ⟨h1, h2, h3, h4, h5, h6, h7, fun i hi => ?_, h10⟩
  have := h9 i hi
  by_cases e1 : i = b.toNat
  · rw [if_pos e1]; omega
  · rw [if_neg e1]
    by_cases e2 : i = a.toNat
    · rw [if_pos e2]; omega
    · rw [if_neg e2]; exact this
theorem DW_3 {a : Int} (h : DW D) (ha : 0 ≤ a ∧ a < D 0 0) : DW (c_up D 0 3 a) := by
  obtain ⟨h1, h2, h3, h4, h5, h6, h7, h9, h10⟩ := h
  unfold DW
  simp [c_up]
  exact ⟨h1, h2, h3, h4, h5, h6, h7, h9, Or.inr ha⟩
theorem DW_0 {a : Int} {j : Nat} (h : DW D) (hj : j = 2) : DW (c_up D 0 j a) := by
  obtain ⟨h1, h2, h3, h4, h5, h6, h7, h9, h10⟩ := h
  subst hj
  unfold DW
  simp [c_up]
  exact ⟨h1, h2, h3, h4, h5, h6, h7, h9, h10⟩
theorem DW_fl {j : Nat} {c : List Int} (h : DW D) (hj : j = 11 ∨ j = 12) : DW (owFg D j c) := by
  have ek : ∀ k f, k ≤ 10 → owFg D j c k f = D k f := fun k f hk => if_neg (by omega)
  unfold DW
  simp only [ek 0 _ (by decide), ek 1 _ (by decide), ek 5 _ (by decide), ek 6 _ (by decide), ek 7 _ (by decide), ek 8 _ (by decide), ek 9 _ (by decide), ek 10 _ (by decide)]
  exact h
theorem TD_fl {j : Nat} {c : List Int} (h : TD D) (hc : TN 38 c) : TD (owFg D j c) := fun i hi => by
  by_cases e : i = j
  · subst e
    rw [owFg_cdL, List.reverse_reverse]
    have e0 : owFg D i c i 0 = (c.length : Int) + 1 := by unfold owFg; rw [if_pos rfl, if_pos rfl]
    exact ⟨by omega, fun _ => hc⟩
  · have e1 : ∀ f, owFg D j c i f = D i f := fun f => if_neg e
    have e2 : cdL (owFg D j c) i = cdL D i := by
      unfold cdL
      rw [e1]
      exact List.map_congr_left fun x _ => e1 _
    rw [e1, e2]
    exact h i hi
/-- statements without a sum leave the sums -/
theorem owSt_k {j g : Nat} (hj : j = 11 ∨ j = 12) : owStD s n D p j g = D j g := by
  have up : ∀ (E : cM) (k f : Nat) (v : Int), k ≠ j → c_up E k f v j g = E j g := fun E k f v hk => if_neg (by omega)
  unfold owStD
  (repeat' split)
  · unfold owRoomD owAR
    rw [up _ _ _ _ (by omega), up _ _ _ _ (by omega), up _ _ _ _ (by omega), up _ _ _ _ (by omega)]
  · unfold owWayD owAW
    rw [up _ _ _ _ (by omega), up _ _ _ _ (by omega)]
  · unfold owPerD owAP
    rw [up _ _ _ _ (by omega), up _ _ _ _ (by omega), up _ _ _ _ (by omega), up _ _ _ _ (by omega), up _ _ _ _ (by omega), up _ _ _ _ (by omega), up _ _ _ _ (by omega)]
  · unfold owJoD owAJ
    rw [up _ _ _ _ (by omega), up _ _ _ _ (by omega)]
  · unfold owBrD
    rw [up _ _ _ _ (by omega)]
  · unfold owCaD
    rw [up _ _ _ _ (by omega)]
theorem TD_st {F P : Int} {D' : cM} (h : TD D) (hs : owStF s n D p = F ∧ owStP s n p = P ∧ owStD s n D p = D' ∧ ¬ owW s n p 650632192 = 1 ∧ ¬ owW s n p 658552979 = 1) : TD D' := by
  rw [← hs.2.2.1]
  exact h.eq fun j f hj => owSt_k hj
theorem owNm_ok {w lo hi : Int} (h : owNm s n p w lo hi = 0) (h0 : 0 ≤ p) (hp : p ≤ n) : lo ≤ owV s n (owE s n p) ∧ owV s n (owE s n p) ≤ hi := by
  have e := owE_rng (s := s) hp
  have b := owB_rng (s := s) hp
  have u1 := owU_pos (s := s) (n := n) h0
  have u2 := owU_pos (s := s) (n := n) (p := owE s n p) (by omega)
  have b2 := owB_ge (s := s) (n := n) (p := owE s n p)
  unfold owNm at h
  (repeat' split at h) <;> omega
theorem owKr_ok (hD : DW D) (h : owKr s n D p = 0) (h0 : 0 ≤ p) : 0 ≤ owRi s n D p ∧ owRi s n D p < D 0 0 := by
  have u1 := owU_pos (s := s) (n := n) h0
  have b2 := owB_ge (s := s) (n := n) (p := p)
  have hr := owIx_rng (D 1) (owV s n p) (D 0 0).toNat
  have h2 := hD.1
  unfold owKr at h
  unfold owRi
  (repeat' split at h) <;> omega
end FN2
