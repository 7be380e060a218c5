/-! the class's town -/
section XT
variable {s : Nat → Int} {n : Int} {D : cM} {p : Int}
theorem owE_in (h : 0 ≤ p ∧ p ≤ n) : 0 ≤ owE s n p ∧ owE s n p ≤ n := by
  have h1 := owE_rng (s := s) h.2
  have h2 := owB_rng (s := s) h.2
  omega
theorem owE_ge (h : p ≤ n) : p ≤ owE s n p := by
  have h1 := owE_rng (s := s) h
  have h2 := owB_rng (s := s) h
  omega
theorem ow_prog2 (h : 0 ≤ p ∧ p ≤ n) (hk : 1 ≤ owK s n p) : p + 1 ≤ owE s n (owE s n p) := by
  have h1 := owE_gt (s := s) h.2 hk
  have g1 := owE_in (s := s) (n := n) (p := owE s n p) ⟨by omega, h1.2⟩
  have b1 := owE_ge (s := s) (n := n) (p := owE s n p) h1.2
  omega
theorem ow_prog3 (h : 0 ≤ p ∧ p ≤ n) (hk : 1 ≤ owK s n p) : p + 1 ≤ owE s n (owE s n (owE s n p)) := by
  have h1 := owE_gt (s := s) h.2 hk
  have g1 := owE_in (s := s) (n := n) (p := owE s n p) ⟨by omega, h1.2⟩
  have b1 := owE_ge (s := s) (n := n) (p := owE s n p) h1.2
  have g2 := owE_in (s := s) (n := n) (p := (owE s n (owE s n p))) g1
  have b2 := owE_ge (s := s) (n := n) (p := (owE s n (owE s n p))) g1.2
  omega
theorem ow_prog5 (h : 0 ≤ p ∧ p ≤ n) (hk : 1 ≤ owK s n p) : p + 1 ≤ owE s n (owE s n (owE s n (owE s n (owE s n p)))) := by
  have h1 := owE_gt (s := s) h.2 hk
  have g1 := owE_in (s := s) (n := n) (p := owE s n p) ⟨by omega, h1.2⟩
  have b1 := owE_ge (s := s) (n := n) (p := owE s n p) h1.2
  have g2 := owE_in (s := s) (n := n) (p := (owE s n (owE s n p))) g1
  have b2 := owE_ge (s := s) (n := n) (p := (owE s n (owE s n p))) g1.2
  have g3 := owE_in (s := s) (n := n) (p := (owE s n (owE s n (owE s n p)))) g2
  have b3 := owE_ge (s := s) (n := n) (p := (owE s n (owE s n (owE s n p)))) g2.2
  have g4 := owE_in (s := s) (n := n) (p := (owE s n (owE s n (owE s n (owE s n p))))) g3
  have b4 := owE_ge (s := s) (n := n) (p := (owE s n (owE s n (owE s n (owE s n p))))) g3.2
  omega
theorem ow_prog6 (h : 0 ≤ p ∧ p ≤ n) (hk : 1 ≤ owK s n p) : p + 1 ≤ owE s n (owE s n (owE s n (owE s n (owE s n (owE s n p))))) := by
  have h1 := owE_gt (s := s) h.2 hk
  have g1 := owE_in (s := s) (n := n) (p := owE s n p) ⟨by omega, h1.2⟩
  have b1 := owE_ge (s := s) (n := n) (p := owE s n p) h1.2
  have g2 := owE_in (s := s) (n := n) (p := (owE s n (owE s n p))) g1
  have b2 := owE_ge (s := s) (n := n) (p := (owE s n (owE s n p))) g1.2
  have g3 := owE_in (s := s) (n := n) (p := (owE s n (owE s n (owE s n p)))) g2
  have b3 := owE_ge (s := s) (n := n) (p := (owE s n (owE s n (owE s n p)))) g2.2
  have g4 := owE_in (s := s) (n := n) (p := (owE s n (owE s n (owE s n (owE s n p))))) g3
  have b4 := owE_ge (s := s) (n := n) (p := (owE s n (owE s n (owE s n (owE s n p))))) g3.2
  have g5 := owE_in (s := s) (n := n) (p := (owE s n (owE s n (owE s n (owE s n (owE s n p)))))) g4
  have b5 := owE_ge (s := s) (n := n) (p := (owE s n (owE s n (owE s n (owE s n (owE s n p)))))) g4.2
  omega
theorem ow_prog10 (h : 0 ≤ p ∧ p ≤ n) (hk : 1 ≤ owK s n p) : p + 1 ≤ owE s n (owE s n (owE s n (owE s n (owE s n (owE s n (owE s n (owE s n (owE s n (owE s n p))))))))) := by
  have h1 := owE_gt (s := s) h.2 hk
  have g1 := owE_in (s := s) (n := n) (p := owE s n p) ⟨by omega, h1.2⟩
  have b1 := owE_ge (s := s) (n := n) (p := owE s n p) h1.2
  have g2 := owE_in (s := s) (n := n) (p := (owE s n (owE s n p))) g1
  have b2 := owE_ge (s := s) (n := n) (p := (owE s n (owE s n p))) g1.2
  have g3 := owE_in (s := s) (n := n) (p := (owE s n (owE s n (owE s n p)))) g2
  have b3 := owE_ge (s := s) (n := n) (p := (owE s n (owE s n (owE s n p)))) g2.2
  have g4 := owE_in (s := s) (n := n) (p := (owE s n (owE s n (owE s n (owE s n p))))) g3
  have b4 := owE_ge (s := s) (n := n) (p := (owE s n (owE s n (owE s n (owE s n p))))) g3.2
  have g5 := owE_in (s := s) (n := n) (p := (owE s n (owE s n (owE s n (owE s n (owE s n p)))))) g4
  have b5 := owE_ge (s := s) (n := n) (p := (owE s n (owE s n (owE s n (owE s n (owE s n p)))))) g4.2
  have g6 := owE_in (s := s) (n := n) (p := (owE s n (owE s n (owE s n (owE s n (owE s n (owE s n p))))))) g5
  have b6 := owE_ge (s := s) (n := n) (p := (owE s n (owE s n (owE s n (owE s n (owE s n (owE s n p))))))) g5.2
  have g7 := owE_in (s := s) (n := n) (p := (owE s n (owE s n (owE s n (owE s n (owE s n (owE s n (owE s n p)))))))) g6
  have b7 := owE_ge (s := s) (n := n) (p := (owE s n (owE s n (owE s n (owE s n (owE s n (owE s n (owE s n p)))))))) g6.2
  have g8 := owE_in (s := s) (n := n) (p := (owE s n (owE s n (owE s n (owE s n (owE s n (owE s n (owE s n (owE s n p))))))))) g7
  have b8 := owE_ge (s := s) (n := n) (p := (owE s n (owE s n (owE s n (owE s n (owE s n (owE s n (owE s n (owE s n p))))))))) g7.2
  have g9 := owE_in (s := s) (n := n) (p := (owE s n (owE s n (owE s n (owE s n (owE s n (owE s n (owE s n (owE s n (owE s n p)))))))))) g8
  have b9 := owE_ge (s := s) (n := n) (p := (owE s n (owE s n (owE s n (owE s n (owE s n (owE s n (owE s n (owE s n (owE s n p)))))))))) g8.2
  omega
theorem DW_room (hD : DW D) (hp : 0 ≤ p ∧ p ≤ n) (h : owRoomF s n D p = 0) : DW (owRoomD s n D p) := by
  have hb := owB_rng (s := s) hp.2
  have p1 := owE_in (s := s) hp
  have h8 : D 0 0 < 8 ∧ owFr s n D (owE s n p) = 0 := by
    unfold owRoomF at h
    split at h
    next g => omega
    next g =>
      split at h
      next g2 => exact absurd h g2
      next g2 => exact ⟨by omega, Decidable.byContradiction fun z => g2 z⟩
  refine DW_AR hD h8.1 (owV_nm p1.2 ?_)
  have h9 := h8.2
  unfold owFr at h9
  split at h9
  next g =>
    have := owU_pos (s := s) (n := n) p1.1
    omega
  next g => exact Decidable.byContradiction fun z => g z
theorem uj_ok {o : Int} (h0 : 0 ≤ p) (h : owUj s n D p o = 0) (hD : 0 ≤ D 0 1) : 0 ≤ owPi s n D p ∧ owPi s n D p < D 0 1 := by
  have hb := owB_ge (s := s) (n := n) (p := p)
  have hu := owU_pos (s := s) (n := n) h0
  unfold owUj at h
  split at h
  · omega
  · split at h
    · omega
    next g =>
      rcases owIx_rng (D 5) (owV s n p) (D 0 1).toNat with z | z
      · exact absurd (Or.inl z) g
      · unfold owPi
        omega
theorem DW_jo (hD : DW D) (hp : 0 ≤ p ∧ p ≤ n) (h : owJoF s n D p = 0) : DW (owJoD s n D p) := by
  have p1 := owE_in (s := s) hp
  have p2 := owE_in (s := s) p1
  have h1 : owUj s n D (owE s n p) (-1) = 0 ∧ owUj s n D (owE s n (owE s n p)) (owPi s n D (owE s n p)) = 0 := by
    unfold owJoF at h
    split at h
    next g => exact absurd h g
    next g => exact ⟨Decidable.byContradiction fun z => g z, h⟩
  exact DW_AJ hD (uj_ok p1.1 h1.1 hD.2.2.1) (uj_ok p2.1 h1.2 hD.2.2.1)
theorem DW_ca (hD : DW D) (hp : 0 ≤ p ∧ p ≤ n) (h : owCaF s n D p = 0) : DW (owCaD s n D p) := by
  have p1 := owE_in (s := s) hp
  exact DW_3 hD (owKr_ok hD h p1.1)
theorem DW_per (hD : DW D) (hp : 0 ≤ p ∧ p ≤ n) (h : owPerF s n D p = 0) : DW (owPerD s n D p) := by
  have hb := owB_rng (s := s) hp.2
  have p1 := owE_in (s := s) hp
  have p2 := owE_in (s := s) p1
  have p3 := owE_in (s := s) p2
  have p4 := owE_in (s := s) p3
  have p5 := owE_in (s := s) p4
  have p6 := owE_in (s := s) p5
  have p7 := owE_in (s := s) p6
  have p8 := owE_in (s := s) p7
  have p9 := owE_in (s := s) p8
  unfold owPerF at h
  split at h
  next g => omega
  next g1 =>
    split at h
    next g => omega
    next g2 =>
      split at h
      next g => omega
      next g3 =>
        split at h
        next g => omega
        next g4 =>
          split at h
          next g => omega
          next g5 =>
            have hw := owNm_ok (s := s) (n := n) (Decidable.not_not.mp g5) p6.1 p6.2
            have hk : owKr s n D (owE s n (owE s n (owE s n (owE s n (owE s n (owE s n (owE s n (owE s n (owE s n p))))))))) = 0 := by
              unfold owHm at h
              have u1 := owU_pos (s := s) (n := n) p8.1
              split at h
              next g => omega
              next g =>
                split at h
                next g => omega
                next g => omega
            have hr := owKr_ok hD hk p9.1
            have hw3 := owNm_ok (s := s) (n := n) (Decidable.not_not.mp g3) p2.1 p2.2
            have hw4 := owNm_ok (s := s) (n := n) (Decidable.not_not.mp g4) p4.1 p4.2
            exact DW_AP hD (by omega) ⟨by omega, by omega⟩ ⟨by omega, by omega⟩ ⟨by omega, by omega⟩ hr (owV_nm p1.2 (by
              have h9 : owFr s n D (owE s n p) = 0 := Decidable.byContradiction fun z => by omega
              unfold owFr at h9
              split at h9
              next g =>
                have := owU_pos (s := s) (n := n) p1.1
                omega
              next g => exact Decidable.byContradiction fun z => g z))
theorem owD_sum0 {M M1 : cM} {t j : Nat} {c : List Int} (ht : t = 8 ∨ t = 25) (hj : j = 11 ∨ j = 12) {g0 : Nat} (hg0 : g0 = if j = 11 then t + 11 else t + 14) (hD : owD M t = D) (g : Fr fS_par M M1) (h0 : M g0 2 = 0) (h1 : 1 ≤ M1 g0 2) (ho : OFp g0 M M1) (hc : FCg g0 M M1 c) : owD M1 t = owFg D j c := by
  have hcd := hc.cd h0 h1
  subst hD
  funext a b
  unfold owFg
  by_cases ha : a ≤ 10
  · rw [if_neg (by omega), owD_le ha, owD_le ha]
    refine g _ _ ?_
    have : a = 0 ∨ a = 1 ∨ a = 2 ∨ a = 3 ∨ a = 4 ∨ a = 5 ∨ a = 6 ∨ a = 7 ∨ a = 8 ∨ a = 9 ∨ a = 10 := by omega
    rcases ht with rfl | rfl <;> rcases this with rfl | rfl | rfl | rfl | rfl | rfl | rfl | rfl | rfl | rfl | rfl <;> rfl
  · rcases hj with rfl | rfl
    · rw [if_pos rfl] at hg0
      subst hg0
      by_cases e : a = 11
      · subst e
        rw [if_pos rfl]
        exact hcd b
      · rw [if_neg e]
        unfold owD
        rw [if_neg ha, if_neg ha, if_neg e, if_neg e, ho.cd (fF_stands ht) (by omega)]
    · rw [if_neg (by decide)] at hg0
      subst hg0
      by_cases e : a = 12
      · subst e
        rw [if_pos rfl]
        exact hcd b
      · rw [if_neg e]
        unfold owD
        rw [if_neg ha, if_neg ha, if_neg e, if_neg e, ho.cd (fF_slow ht) (by omega)]
theorem owD_sum {M M1 : cM} {t : Nat} {c : List Int} (ht : t = 8 ∨ t = 25) (hD : owD M t = D) (g : Fr fS_par M M1) (h0 : M (t + 11) 2 = 0) (h1 : 1 ≤ M1 (t + 11) 2) (ho : OFp (t + 11) M M1) (hc : FCg (t + 11) M M1 c) : owD M1 t = owFg D 11 c := owD_sum0 ht (Or.inl rfl) rfl hD g h0 h1 ho hc
theorem owD_sum2 {M M1 : cM} {t : Nat} {c : List Int} (ht : t = 8 ∨ t = 25) (hD : owD M t = D) (g : Fr fS_par M M1) (h0 : M (t + 14) 2 = 0) (h1 : 1 ≤ M1 (t + 14) 2) (ho : OFp (t + 14) M M1) (hc : FCg (t + 14) M M1 c) : owD M1 t = owFg D 12 c := owD_sum0 ht (Or.inr rfl) rfl hD g h0 h1 ho hc
theorem KT.sum {M M1 W : cM} {t u f : Nat} (h : KT u W M) (ht : t = 8 ∨ t = 25) (hux : u = 8 ∧ t = 25 ∨ u = 25 ∧ t = 8) (hf : f = t + 11 ∨ f = t + 14) (g : Fr fS_par M M1) (ho : OFp f M M1) : KT u W M1 := by
  refine ⟨fun a b ha => ?_, fun i => (ho.cd (fF_slow (by omega)) (by omega) i).trans (h.2.1 i), fun i => (ho.cd (fF_stands (by omega)) (by omega) i).trans (h.2.2 i)⟩
  rw [← h.1 a b ha]
  refine g _ _ ?_
  have : a = 0 ∨ a = 1 ∨ a = 2 ∨ a = 3 ∨ a = 4 ∨ a = 5 ∨ a = 6 ∨ a = 7 ∨ a = 8 ∨ a = 9 ∨ a = 10 := by omega
  rcases hux with ⟨rfl, rfl⟩ | ⟨rfl, rfl⟩ <;> rcases this with rfl | rfl | rfl | rfl | rfl | rfl | rfl | rfl | rfl | rfl | rfl <;> rfl
theorem owD_f1 {M : cM} {t : Nat} (hD : owD M t = D) (hI : Rng M) (ht : t = 8 ∨ t = 25) : (D 11 0 = 0 ↔ M (t + 11) 2 = 0) ∧ (D 12 0 = 0 ↔ M (t + 14) 2 = 0) := by
  have r1 := (rgf_0_2 hI (fF_slow ht)).1
  have r2 := (rgf_0_2 hI (fF_stands ht)).1
  subst hD
  constructor
  · show (if M (t + 11) 2 = 0 then (0 : Int) else M (t + 11) 2 + 1) = 0 ↔ _
    split <;> omega
  · show (if M (t + 14) 2 = 0 then (0 : Int) else M (t + 14) 2 + 1) = 0 ↔ _
    split <;> omega
theorem LxP.at4 {M M1 : cM} {q : Int} (h : LxP M s n q) (h3 : M 5 3 = 0 ∨ M 5 3 = 4) (e2 : M1 2 = M 2) (e : ∀ f, f ≠ 2 → M1 5 f = M 5 f) (hb : M1 5 2 = owB s n q) : LxP M1 s n q := by
  have hg := owB_ge (s := s) (n := n) (p := q)
  have hA := @LxP.ad M s n q h
  obtain ⟨a1, a2, a3, a4, a5, a6, a7, a8⟩ := h
  refine ⟨e2.trans a1, (e 1 (by decide)).trans a2, a3, by omega, by omega, a6, (e 6 (by decide)).trans a7, Or.inr ⟨by rw [e 3 (by decide)]; exact h3, fun _ hl => ?_⟩⟩
  rw [hb]
  intro g
  have := (hA (by omega)).mp g
  omega
/-- the reader's way so far -/
def RdI (M : cM) (t : Nat) (s : Nat → Int) (n k : Int) (D0 : cM) : Prop := ∃ D q, LxP M s n q ∧ (M 5 3 = 0 ∨ M 5 3 = 4) ∧ owD M t = D ∧ (DW D ∧ TD D) ∧ ∀ f N D', RdR s n (81 - k).toNat D q k f N D' → RdR s n 81 D0 0 0 f N D'
theorem rd_end {m : Nat} {q k : Int} (h : owK s n q = 0) : RdR s n (m + 1) D q k 0 k D := by
  show (if owK s n q = 0 then _ else _)
  rw [if_pos h]
  exact ⟨rfl, rfl, rfl⟩
theorem rd_80 {m : Nat} {q N : Int} {D' : cM} (h : owK s n q ≠ 0) : RdR s n (m + 1) D q 80 (60000 + owB s n q) N D' := by
  show (if owK s n q = 0 then _ else if (80 : Int) = 80 then _ else _)
  rw [if_neg h, if_pos rfl]
theorem rd_x {m : Nat} {q k f N : Int} {D' D1 : cM} {q1 : Int} (h : owK s n q ≠ 0) (hk : k ≠ 80) (hf : f ≠ 0) (h1 : FinR s n D q f D1 q1) : RdR s n (m + 1) D q k f N D' := by
  show (if owK s n q = 0 then _ else if k = 80 then _ else _)
  rw [if_neg h, if_neg hk]
  exact ⟨f, D1, q1, h1, Or.inl ⟨hf, rfl⟩⟩
theorem rd_s {m : Nat} {q k f N : Int} {D' D1 : cM} {q1 : Int} (h : owK s n q ≠ 0) (hk : k ≠ 80) (h1 : FinR s n D q 0 D1 q1) (h2 : RdR s n m D1 q1 (k + 1) f N D') : RdR s n (m + 1) D q k f N D' := by
  show (if owK s n q = 0 then _ else if k = 80 then _ else _)
  rw [if_neg h, if_neg hk]
  exact ⟨0, D1, q1, h1, Or.inr ⟨rfl, h2⟩⟩
/-- what read says: a fault, or how many statements and the town -/
def RdX (M : cM) (s : Nat → Int) (n : Int) (D0 : cM) : Prop := ∃ g, g ≠ 0 ∧ Flt M g ∧ ∀ N D', RdR s n 81 D0 0 0 g N D'
def RdO (M : cM) (t : Nat) (s : Nat → Int) (n v : Int) (D0 : cM) : Prop := M 5 6 = 0 ∧ ∃ D', owD M t = D' ∧ (DW D' ∧ TD D') ∧ RdR s n 81 D0 0 0 0 v D'
/-- a town of which nothing is told yet -/
def DC (D : cM) : Prop := D 0 0 = 0 ∧ D 0 1 = 0 ∧ D 0 2 = 0 ∧ D 0 3 = -1 ∧ (∀ i : Nat, i < 64 → D 4 i = 0) ∧ D 11 0 = 0 ∧ D 12 0 = 0
theorem DC.dw (h : DC D) : DW D := ⟨by rw [h.1]; decide, by rw [h.1]; decide, by rw [h.2.1]; decide, by rw [h.2.1]; decide, fun i hi => by rw [h.2.1] at hi; omega, fun i hi => by rw [h.1] at hi; omega, fun i hi => by rw [h.2.1] at hi; omega, fun i hi => by rw [h.2.1] at hi; omega, Or.inl h.2.2.2.1⟩
theorem DC.td (h : DC D) : TD D := fun j hj => by
  rcases hj with rfl | rfl
  · exact ⟨by rw [h.2.2.2.2.2.1]; decide, fun z => absurd h.2.2.2.2.2.1 z⟩
  · exact ⟨by rw [h.2.2.2.2.2.2]; decide, fun z => absurd h.2.2.2.2.2.2 z⟩
theorem DC.of {M : cM} {t : Nat} (h0 : M t 0 = 0) (h1 : M t 1 = 0) (h2 : M t 2 = 0) (h3 : M t 3 = -1) (h4 : ∀ i : Nat, i < 64 → M (t + 4) i = 0) (h5 : M (t + 11) 2 = 0) (h6 : M (t + 14) 2 = 0) : DC (owD M t) := ⟨h0, h1, h2, h3, h4, if_pos h5, if_pos h6⟩
theorem LxP.begin {M : cM} (h2 : M 2 = s) (h1 : M 5 1 = n) (hn : 0 ≤ n) (hp : M 5 2 = 0) (hk : M 5 3 = 0) (h6 : M 5 6 = 0) : LxP M s n 0 :=
  ⟨h2, h1, Int.le_refl _, by omega, by have := owB_ge (s := s) (n := n) (p := 0); omega, hn, h6, Or.inr ⟨Or.inl hk, fun _ _ g => by have := g.1; omega⟩⟩
def TwX (t u : Nat) (M M1 : cM) (v : Int) : Prop := ∃ f N D0 D', RdR (M 2) (M 1 1) 81 D0 0 0 f N D' ∧ DC D0 ∧ ((f ≠ 0 ∧ v = -1 ∧ 1 ≤ M1 0 10 ∧ 0 ≤ M1 0 11 ∧ M1 0 11 < 10000 ∧ 10000 * M1 0 10 + M1 0 11 = f ∧ M1 7 0 = ((u : Nat) : Int) ∧ M1 7 1 = ((t : Nat) : Int) ∧ KT u M M1) ∨ (f = 0 ∧ v = N ∧ 0 ≤ v ∧ M1 0 10 = 0 ∧ M1 0 11 = -1 ∧ M1 7 0 = ((t : Nat) : Int) ∧ M1 7 1 = ((u : Nat) : Int) ∧ owD M1 t = D' ∧ DW D' ∧ TD D'))
end XT
def gS_128_m : List (Nat × Nat) := [(5, 2), (5, 3), (5, 4), (5, 5), (5, 6), (5, 7)]
theorem f_128 {xs : Nat → Int} {Ln d : Nat} {T : List cK} {M : cM} (hT : TT T) (hI : Rng M) (h50 : M 5 0 = ((2 : Nat) : Int)) {f : Nat} (hf : fF f) {s : Nat → Int} {n p : Int} (hA : LxA M s n p) (p0 : 1 ≤ owK s n p ∧ owK s n p ≤ 4) : cC k_P xs Ln (d + 3) 128 [rf 3, rf f] (T, M) (qW T M gS_128_m 0 (fun v M1 => (v = 1 ∧ (M f 2 = 0 ∧ M1 f 2 = 0 ∧ (M1 5 3 = 0 ∨ M1 5 3 = 5 ∨ 1 ≤ M1 5 2)) ∧ p + 1 ≤ owE s n p ∧ LxA M1 s n (owE s n p)) ∨ (v = 0 ∧ 0 < M f 2 ∧ 60000 + owB s n p ≠ 0 ∧ Flt M1 (60000 + owB s n p)))) := by
  show cP k_P xs Ln (d + 3) 128 0 [(0, rf 3), (1, rf f)] [] (T, M) _
  have hFm : Fr gS_128_m M M := Fr.refl
  have h51 := hA.2.1
  have h0 := hA.2.2.1
  have hpn := hA.2.2.2.1
  have h53 := hA.2.2.2.2.1
  have h55 := hA.2.2.2.2.2.1
  have h51r := rg_5_1 hI
  have h52 := rg_5_2 hI
  have h53r := rg_5_3 hI
  refine s_aload_n kx_128_0 rfl ?_
  refine r_getI (k := f) (f := 2) kx_128_1 kp_128_158 (tkf_0 hT hf) kf_1_2 (fun _ => rfl) (rgf_0_2 hI hf) (fun v1 v1e v1a v1b => ?_)
  refine s_if_le (t := 24) kx_128_4 (by decide) (fun hc2 => ?_) (fun hc2 => ?_)
  · refine s_aload_n kx_128_24 rfl ?_
    refine r_getR (k := 3) (f := 1) (k2 := 5) kx_128_25 kp_128_22 (tk_3 hT) kf_10_1 (by decide) (rq_3_1 hI) ?_
    refine s_callV2 (k := 5) (s1 := 1) (s2 := 0) (as := []) (rest := []) kx_128_28 kp_128_49 (Or.inl rfl) rfl (tk_5 hT) ki_26 kcl_26 rfl rfl (by decide) (f_26 (d := d) hT hI h50 (LxA.nx hA (by omega) (by omega))) (kV (fun M4 hI4 fr4 v3p => ?_))
    have hFm4 := hFm.call fr4 rfl
    have tr5 := (fr4 f 2 (by rcases hf with rfl | rfl | rfl | rfl <;> rfl))
    have tr6 := rg_5_2 hI4
    have la7b := (v3p.1).2.1
    have la7c := (v3p.1).2.2.1
    have la7d := (v3p.1).2.2.2.1
    have la7e := (v3p.1).2.2.2.2.1
    have la7f := (v3p.1).2.2.2.2.2.1
    have la7z := owE_gt (s := s) (hA).2.2.2.1 (by omega)
    refine s_iconst (v := 1) kx_128_31 (by decide) ?_
    exact s_iret kx_128_32 (Or.inr ⟨kq_128, by omega⟩) ⟨_, _, rfl, rfl, hI4, hFm4, (Or.inl ⟨rfl, ⟨by omega, by omega, by omega⟩, by omega, v3p.1⟩)⟩
  · refine s_aload_n kx_128_7 rfl ?_
    refine r_getR (k := 3) (f := 1) (k2 := 5) kx_128_8 kp_128_22 (tk_3 hT) kf_10_1 (by decide) (rq_3_1 hI) ?_
    refine s_bipush (v := 6) kx_128_11 (by decide) ?_
    refine s_aload_n kx_128_13 rfl ?_
    refine r_getR (k := 3) (f := 1) (k2 := 5) kx_128_14 kp_128_22 (tk_3 hT) kf_10_1 (by decide) (rq_3_1 hI) ?_
    refine r_getI (k := 5) (f := 5) kx_128_17 kp_128_105 (tk_5 hT) kf_3_5 (fun _ => rfl) (rg_5_5 hI) (fun v8 v8e v8a v8b => ?_)
    have hk9 : M 5 5 = v8 := v8e
    refine s_callV2 (k := 5) (s1 := 3) (s2 := 0) (as := [(0, v8), (0, 6)]) (rest := []) kx_128_20 kp_128_45 (Or.inl rfl) rfl (tk_5 hT) ki_20 kcl_20 rfl rfl (by decide) (f_20 (d := d + 2) (kind := 6) (place := v8) hT hI) (kW (fun v10 M11 hI11 fr11 v10p => ?_))
    have hFm11 := hFm.call fr11 rfl
    have tr12 := (fr11 5 2 rfl)
    have tr13 := (fr11 5 3 rfl)
    have tr14 := (fr11 f 2 (by rcases hf with rfl | rfl | rfl | rfl <;> rfl))
    have tr15 := rg_5_2 hI11
    exact s_iret kx_128_23 (Or.inr ⟨kq_128, by omega⟩) ⟨_, _, rfl, rfl, hI11, hFm11, (Or.inr ⟨by omega, by omega, LxA.fl hA (by omega) (by omega) (by omega) v10p.2.2 (by decide) (show 60000 + owB s n p = 10000 * 6 + owB s n p by omega)⟩)⟩
def gS_122_m : List (Nat × Nat) := [(10, 99999), (11, 99999), (114, 99999), (12, 99999), (13, 99999), (14, 99999), (15, 99999), (16, 99999), (17, 99999), (18, 99999), (19, 1), (19, 2), (21, 99999), (22, 1), (22, 2), (24, 99999), (25, 0), (25, 1), (25, 2), (25, 3), (26, 99999), (27, 99999), (28, 99999), (29, 99999), (3, 2), (30, 99999), (31, 99999), (32, 99999), (33, 99999), (34, 99999), (35, 99999), (36, 1), (36, 2), (38, 99999), (39, 1), (39, 2), (41, 99999), (5, 2), (5, 3), (5, 4), (5, 5), (5, 6), (5, 7), (8, 0), (8, 1), (8, 2), (8, 3), (9, 99999)]
theorem f_122 {xs : Nat → Int} {Ln d : Nat} {T : List cK} {M : cM} (hT : TT T) (hI : Rng M) {t : Nat} (ht : t = 8 ∨ t = 25) (h50 : M 5 0 = ((2 : Nat) : Int)) (hG : Gm T M) {s : Nat → Int} {n p : Int} {D : cM} (hA : LxA M s n p) (hD : owD M t = D) (hW : DW D) (hTD : TD D) {uX : Nat} {WX : cM} (hux : uX = 8 ∧ t = 25 ∨ uX = 25 ∧ t = 8) (hKX : KT uX WX M) : cC k_P xs Ln (d + 85) 122 [rf 3, rf t] (T, M) (qG T M gS_122_m 0 (fun v M1 => ((v = 1 ∧ StO M1 t s n D p) ∨ (v = 0 ∧ SumX M1 (fun g => ∀ D2 q2, FinR s n D p g D2 q2))) ∧ KT uX WX M1)) := by
  show cP k_P xs Ln (d + 85) 122 0 [(0, rf 3), (1, rf t)] [] (T, M) _
  have hFm : Fr gS_122_m M M := Fr.refl
  have h51 := hA.2.1
  have h0 := hA.2.2.1
  have hpn := hA.2.2.2.1
  have h53 := hA.2.2.2.2.1
  have h55 := hA.2.2.2.2.2.1
  have h51r := rg_5_1 hI
  have h52 := rg_5_2 hI
  have h53r := rg_5_3 hI
  have hw := hW.1
  have hw2 := hW.2.1
  have hw3 := hW.2.2.1
  have hw4 := hW.2.2.2.1
  have ht0 : M t 0 = D 0 0 := owD_at (k := 0) hD (by decide)
  have ht1 : M t 1 = D 0 1 := owD_at (k := 0) hD (by decide)
  refine s_aload_n kx_122_0 rfl ?_
  refine r_getR (k := 3) (f := 1) (k2 := 5) kx_122_1 kp_122_22 (tk_3 hT) kf_10_1 (by decide) (rq_3_1 hI) ?_
  refine r_getI (k := 5) (f := 3) kx_122_4 kp_122_63 (tk_5 hT) kf_3_3 (fun _ => rfl) (rg_5_3 hI) (fun v1 v1e v1a v1b => ?_)
  refine s_iconst (v := 1) kx_122_7 (by decide) ?_
  refine s_icmp_eq (t := 19) kx_122_8 (by decide) (fun hc2 => ?_) (fun hc2 => ?_)
  · refine s_aload_n kx_122_19 rfl ?_
    refine r_getR (k := 3) (f := 1) (k2 := 5) kx_122_20 kp_122_22 (tk_3 hT) kf_10_1 (by decide) (rq_3_1 hI) ?_
    refine r_getU (k := 5) (f := 4) kx_122_23 kp_122_66 (tk_5 hT) kf_3_4 (fun _ => rfl) (fun v3 v3e => ?_)
    rcases (by omega : v3 = 1 ∨ v3 = 86148467 ∨ v3 = 351582372 ∨ v3 = 542723566 ∨ v3 = 620213248 ∨ v3 = 650632192 ∨ v3 = 658552979 ∨ v3 = 773619712 ∨ (¬ v3 = 1 ∧ ¬ v3 = 86148467 ∧ ¬ v3 = 351582372 ∧ ¬ v3 = 542723566 ∧ ¬ v3 = 620213248 ∧ ¬ v3 = 650632192 ∧ ¬ v3 = 658552979 ∧ ¬ v3 = 773619712)) with hs4 | hs4 | hs4 | hs4 | hs4 | hs4 | hs4 | hs4 | hs4
    · refine s_lsw (t := 194) kx_122_26 (by decide) 1 hs4 (by decide) ?_
      have hwd := wd_of (s := s) (n := n) (p := p) (w := 1) (by omega) (by have := hA.2.2.2.2.2.2.2.2 (by omega) (by omega); omega)
      refine s_aload_n kx_122_194 rfl ?_
      refine s_aload_n kx_122_195 rfl ?_
      refine s_callV2 (k := 3) (s1 := 2) (s2 := 0) (as := [rf t]) (rest := []) kx_122_196 kp_122_99 (Or.inl rfl) rfl (tk_3 hT) ki_130 kcl_130 rfl rfl (by decide) (f_130 (d := d + 81) hT hI ht h50 hA hD hW hux hKX (by omega)) (kW (fun v5 M6 hI6 fr6 v5p => ?_))
      have hFm6 := hFm.call fr6 rfl
      have tr7 := rg_5_2 hI6
      have v5pk := v5p.2
      (replace v5p := v5p.1)
      exact s_iret kx_122_199 (Or.inr ⟨kq_122, by omega⟩) ⟨_, _, _, rfl, rfl, hT, hI6, hFm6, (Gm.fr hG fr6 rfl), ⟨(v5p.elim (fun z => Or.inl ⟨z.1, ⟨_, _, z.2.2.1, z.2.2.2, ⟨DW_ca hW ⟨h0, hpn⟩ z.2.1, TD_st (D := D) hTD (st_sel (D := D) hwd (Or.inr (Or.inr (Or.inr (Or.inr (Or.inr (⟨rfl, rfl, rfl, rfl⟩)))))))⟩, (by have := ow_prog2 (s := s) (n := n) (p := p) ⟨h0, hpn⟩ (by omega); exact this), fin_ok (st_sel (D := D) hwd (Or.inr (Or.inr (Or.inr (Or.inr (Or.inr (⟨rfl, rfl, rfl, rfl⟩))))))) z.2.1 z.2.2.1.2.2.1⟩⟩) (fun z => Or.inr ⟨z.1, ⟨_, z.2.1, z.2.2, fun D2 q2 => fin_x (w := 0) (st_sel (D := D) hwd (Or.inr (Or.inr (Or.inr (Or.inr (Or.inr (⟨rfl, rfl, rfl, rfl⟩))))))) z.2.1⟩⟩)), v5pk⟩⟩
    · refine s_lsw (t := 188) kx_122_26 (by decide) 86148467 hs4 (by decide) ?_
      have hwd := wd_of (s := s) (n := n) (p := p) (w := 86148467) (by omega) (by have := hA.2.2.2.2.2.2.2.2 (by omega) (by omega); omega)
      refine s_aload_n kx_122_188 rfl ?_
      refine s_aload_n kx_122_189 rfl ?_
      refine s_callV2 (k := 3) (s1 := 2) (s2 := 0) (as := [rf t]) (rest := []) kx_122_190 kp_122_96 (Or.inl rfl) rfl (tk_3 hT) ki_129 kcl_129 rfl rfl (by decide) (f_129 (d := d + 80) hT hI ht h50 hA hD hW hux hKX (by omega)) (kW (fun v8 M9 hI9 fr9 v8p => ?_))
      have hFm9 := hFm.call fr9 rfl
      have tr10 := rg_5_2 hI9
      have v8pk := v8p.2
      (replace v8p := v8p.1)
      exact s_iret kx_122_193 (Or.inr ⟨kq_122, by omega⟩) ⟨_, _, _, rfl, rfl, hT, hI9, hFm9, (Gm.fr hG fr9 rfl), ⟨(v8p.elim (fun z => Or.inl ⟨z.1, ⟨_, _, z.2.2.1, z.2.2.2, ⟨DW_0 hW rfl, TD_st (D := D) hTD (st_sel (D := D) hwd (Or.inr (Or.inr (Or.inr (Or.inr (Or.inl ⟨rfl, rfl, rfl, rfl⟩))))))⟩, (by have := ow_prog2 (s := s) (n := n) (p := p) ⟨h0, hpn⟩ (by omega); exact this), fin_ok (st_sel (D := D) hwd (Or.inr (Or.inr (Or.inr (Or.inr (Or.inl ⟨rfl, rfl, rfl, rfl⟩)))))) z.2.1 z.2.2.1.2.2.1⟩⟩) (fun z => Or.inr ⟨z.1, ⟨_, z.2.1, z.2.2, fun D2 q2 => fin_x (w := 0) (st_sel (D := D) hwd (Or.inr (Or.inr (Or.inr (Or.inr (Or.inl ⟨rfl, rfl, rfl, rfl⟩)))))) z.2.1⟩⟩)), v8pk⟩⟩
    · refine s_lsw (t := 118) kx_122_26 (by decide) 351582372 hs4 (by decide) ?_
      have hwd := wd_of (s := s) (n := n) (p := p) (w := 351582372) (by omega) (by have := hA.2.2.2.2.2.2.2.2 (by omega) (by omega); omega)
      refine s_aload_n kx_122_118 rfl ?_
      refine s_aload_n kx_122_119 rfl ?_
      refine s_callV2 (k := 3) (s1 := 2) (s2 := 0) (as := [rf t]) (rest := []) kx_122_120 kp_122_78 (Or.inl rfl) rfl (tk_3 hT) ki_127 kcl_127 rfl rfl (by decide) (f_127 (d := d + 81) hT hI ht h50 hA hD hW hux hKX (by omega)) (kW (fun v11 M12 hI12 fr12 v11p => ?_))
      have hFm12 := hFm.call fr12 rfl
      have tr13 := rg_5_2 hI12
      have v11pk := v11p.2
      (replace v11p := v11p.1)
      exact s_iret kx_122_123 (Or.inr ⟨kq_122, by omega⟩) ⟨_, _, _, rfl, rfl, hT, hI12, hFm12, (Gm.fr hG fr12 rfl), ⟨(v11p.elim (fun z => Or.inl ⟨z.1, ⟨_, _, z.2.2.1, z.2.2.2, ⟨DW_jo hW ⟨h0, hpn⟩ z.2.1, TD_st (D := D) hTD (st_sel (D := D) hwd (Or.inr (Or.inr (Or.inr (Or.inl ⟨rfl, rfl, rfl, rfl⟩)))))⟩, (by have := ow_prog3 (s := s) (n := n) (p := p) ⟨h0, hpn⟩ (by omega); exact this), fin_ok (st_sel (D := D) hwd (Or.inr (Or.inr (Or.inr (Or.inl ⟨rfl, rfl, rfl, rfl⟩))))) z.2.1 z.2.2.1.2.2.1⟩⟩) (fun z => Or.inr ⟨z.1, ⟨_, z.2.1, z.2.2, fun D2 q2 => fin_x (w := 0) (st_sel (D := D) hwd (Or.inr (Or.inr (Or.inr (Or.inl ⟨rfl, rfl, rfl, rfl⟩))))) z.2.1⟩⟩)), v11pk⟩⟩
    · refine s_lsw (t := 112) kx_122_26 (by decide) 542723566 hs4 (by decide) ?_
      have hwd := wd_of (s := s) (n := n) (p := p) (w := 542723566) (by omega) (by have := hA.2.2.2.2.2.2.2.2 (by omega) (by omega); omega)
      refine s_aload_n kx_122_112 rfl ?_
      refine s_aload_n kx_122_113 rfl ?_
      refine s_callV2 (k := 3) (s1 := 2) (s2 := 0) (as := [rf t]) (rest := []) kx_122_114 kp_122_75 (Or.inl rfl) rfl (tk_3 hT) ki_125 kcl_125 rfl rfl (by decide) (f_125 (d := d + 80) hT hI ht h50 hA hD hW hux hKX (by omega)) (kW (fun v14 M15 hI15 fr15 v14p => ?_))
      have hFm15 := hFm.call fr15 rfl
      have tr16 := rg_5_2 hI15
      have v14pk := v14p.2
      (replace v14p := v14p.1)
      exact s_iret kx_122_117 (Or.inr ⟨kq_122, by omega⟩) ⟨_, _, _, rfl, rfl, hT, hI15, hFm15, (Gm.fr hG fr15 rfl), ⟨(v14p.elim (fun z => Or.inl ⟨z.1, ⟨_, _, z.2.2.1, z.2.2.2, ⟨DW_per hW ⟨h0, hpn⟩ z.2.1, TD_st (D := D) hTD (st_sel (D := D) hwd (Or.inr (Or.inr (Or.inl ⟨rfl, rfl, rfl, rfl⟩))))⟩, (by have := ow_prog10 (s := s) (n := n) (p := p) ⟨h0, hpn⟩ (by omega); exact this), fin_ok (st_sel (D := D) hwd (Or.inr (Or.inr (Or.inl ⟨rfl, rfl, rfl, rfl⟩)))) z.2.1 z.2.2.1.2.2.1⟩⟩) (fun z => Or.inr ⟨z.1, ⟨_, z.2.1, z.2.2, fun D2 q2 => fin_x (w := 0) (st_sel (D := D) hwd (Or.inr (Or.inr (Or.inl ⟨rfl, rfl, rfl, rfl⟩)))) z.2.1⟩⟩)), v14pk⟩⟩
    · refine s_lsw (t := 100) kx_122_26 (by decide) 620213248 hs4 (by decide) ?_
      have hwd := wd_of (s := s) (n := n) (p := p) (w := 620213248) (by omega) (by have := hA.2.2.2.2.2.2.2.2 (by omega) (by omega); omega)
      refine s_aload_n kx_122_100 rfl ?_
      refine s_aload_n kx_122_101 rfl ?_
      refine s_callV2 (k := 3) (s1 := 2) (s2 := 0) (as := [rf t]) (rest := []) kx_122_102 kp_122_69 (Or.inl rfl) rfl (tk_3 hT) ki_123 kcl_123 rfl rfl (by decide) (f_123 (d := d + 80) hT hI ht h50 hA hD hW hux hKX (by omega)) (kW (fun v17 M18 hI18 fr18 v17p => ?_))
      have hFm18 := hFm.call fr18 rfl
      have tr19 := rg_5_2 hI18
      have v17pk := v17p.2
      (replace v17p := v17p.1)
      exact s_iret kx_122_105 (Or.inr ⟨kq_122, by omega⟩) ⟨_, _, _, rfl, rfl, hT, hI18, hFm18, (Gm.fr hG fr18 rfl), ⟨(v17p.elim (fun z => Or.inl ⟨z.1, ⟨_, _, z.2.2.1, z.2.2.2, ⟨DW_room hW ⟨h0, hpn⟩ z.2.1, TD_st (D := D) hTD (st_sel (D := D) hwd (Or.inl ⟨rfl, rfl, rfl, rfl⟩))⟩, (by have := ow_prog6 (s := s) (n := n) (p := p) ⟨h0, hpn⟩ (by omega); exact this), fin_ok (st_sel (D := D) hwd (Or.inl ⟨rfl, rfl, rfl, rfl⟩)) z.2.1 z.2.2.1.2.2.1⟩⟩) (fun z => Or.inr ⟨z.1, ⟨_, z.2.1, z.2.2, fun D2 q2 => fin_x (w := 0) (st_sel (D := D) hwd (Or.inl ⟨rfl, rfl, rfl, rfl⟩)) z.2.1⟩⟩)), v17pk⟩⟩
    · refine s_lsw (t := 124) kx_122_26 (by decide) 650632192 hs4 (by decide) ?_
      have hwd := wd_of (s := s) (n := n) (p := p) (w := 650632192) (by omega) (by have := hA.2.2.2.2.2.2.2.2 (by omega) (by omega); omega)
      refine s_aload_n kx_122_124 rfl ?_
      refine s_aload_n kx_122_125 rfl ?_
      refine r_getR (k := t) (f := 14) (k2 := (t + 11)) kx_122_126 kp_122_81 (tkt_0 hT ht) kf_9_14 (by decide) (rqt_14 hI ht) ?_
      refine s_callV2 (k := 3) (s1 := 2) (s2 := 0) (as := [rf (t + 11)]) (rest := []) kx_122_129 kp_122_85 (Or.inl rfl) rfl (tk_3 hT) ki_128 kcl_128 rfl rfl (by decide) (f_128 (d := d + 81) hT hI h50 (fF_slow ht) hA (by omega)) (kW (fun v20 M21 hI21 fr21 v20p => ?_))
      have hFm21 := hFm.call fr21 rfl
      have tr22 := rg_5_2 hI21
      refine s_if_eq (t := 154) kx_122_132 (by decide) (fun hc23 => ?_) (fun hc23 => ?_)
      · replace v20p := v20p.resolve_left (by omega)
        have hstx : SumX M21 (fun g => ∀ D2 q2, FinR s n D p g D2 q2) := ⟨_, v20p.2.2.1, v20p.2.2.2, fun D2 q2 => fin_sum6 (Or.inl ⟨rfl, hwd⟩) (fun z => by have := (owD_f1 hD hI ht).1.mp z; omega)⟩
        refine s_iconst (v := 0) kx_122_154 (by decide) ?_
        exact s_iret kx_122_155 (Or.inr ⟨kq_122, by omega⟩) ⟨_, _, _, rfl, rfl, hT, hI21, hFm21, (Gm.fr hG fr21 rfl), ⟨(Or.inr ⟨rfl, hstx⟩), (KT.fr hKX fr21 ht hux rfl)⟩⟩
      · replace v20p := v20p.resolve_right (by omega)
        refine s_aload_n kx_122_135 rfl ?_
        refine r_getR (k := 3) (f := 0) (k2 := 4) kx_122_136 kp_122_12 (tk_3 hT) kf_10_0 (by decide) (rq_3_0 hI21) ?_
        refine s_aload_n kx_122_139 rfl ?_
        refine r_getR (k := t) (f := 14) (k2 := (t + 11)) kx_122_140 kp_122_81 (tkt_0 hT ht) kf_9_14 (by decide) (rqt_14 hI21 ht) ?_
        refine s_iconst (v := 0) kx_122_143 (by decide) ?_
        refine s_callV2 (k := 4) (s1 := 3) (s2 := 0) (as := [(0, 0), rf (t + 11)]) (rest := []) kx_122_144 kp_122_89 (Or.inr rfl) rfl (tk_4 hT) ki_89 kcl_89 rfl rfl (by decide) (f_89 (d := d + 77) (o := 0) (k := 0) hT hI21 ((fr21 5 0 rfl).trans h50) (fF_slow ht) (Gm.fr hG fr21 rfl) v20p.2.2.2 (fun _ => lf_1.deep (by omega)) (by omega) (by omega) (by omega)) (kG (fun v24 T25 M25 hT25 hI25 fr25 hG25 v24p => ?_))
        have hFm25 := hFm21.call fr25 rfl
        have tr26 := rg_5_2 hI25
        have hkt27 := KT.sum (KT.fr hKX fr21 ht hux rfl) ht hux (by omega) fr25 (v24p.elim (fun z => z.2.2.1.2) (fun z => z.2.1.2))
        refine s_if_eq (t := 154) kx_122_147 (by decide) (fun hc28 => ?_) (fun hc28 => ?_)
        · replace v24p := v24p.resolve_left (by omega)
          have hstx : SumX M25 (fun g => ∀ D2 q2, FinR s n D p g D2 q2) := (fun ⟨g, a1, a2, a3⟩ => ⟨g, a1, a2, fun D2 q2 => fin_sumx (Or.inl ⟨rfl, hwd⟩) ((owD_f1 hD hI ht).1.mpr (by omega)) a1 a3⟩) v24p.2.2
          refine s_iconst (v := 0) kx_122_154 (by decide) ?_
          exact s_iret kx_122_155 (Or.inr ⟨kq_122, by omega⟩) ⟨_, _, _, rfl, rfl, hT25, hI25, hFm25, hG25, ⟨(Or.inr ⟨rfl, hstx⟩), hkt27⟩⟩
        · replace v24p := v24p.resolve_right (by omega)
          obtain ⟨c1, q1, q1l, q1p, q1o, q1g⟩ := v24p.2.2.2
          have hsto : StO M25 t s n D p := ⟨_, q1, q1l, (owD_sum ht (owD_fr hD ht fr21 rfl) fr25 (by omega) (by omega) v24p.2.2.1.2 q1g), ⟨DW_fl hW (Or.inl rfl), TD_fl hTD q1o.1.1⟩, by omega, fin_sumok (Or.inl ⟨rfl, hwd⟩) ((owD_f1 hD hI ht).1.mpr (by omega)) q1l.2.2.1 q1o.1 q1o.2⟩
          refine s_iconst (v := 1) kx_122_150 (by decide) ?_
          refine s_goto (t := 155) kx_122_151 (by decide) ?_
          exact s_iret kx_122_155 (Or.inr ⟨kq_122, by omega⟩) ⟨_, _, _, rfl, rfl, hT25, hI25, hFm25, hG25, ⟨(Or.inl ⟨rfl, hsto⟩), hkt27⟩⟩
    · refine s_lsw (t := 156) kx_122_26 (by decide) 658552979 hs4 (by decide) ?_
      have hwd := wd_of (s := s) (n := n) (p := p) (w := 658552979) (by omega) (by have := hA.2.2.2.2.2.2.2.2 (by omega) (by omega); omega)
      refine s_aload_n kx_122_156 rfl ?_
      refine s_aload_n kx_122_157 rfl ?_
      refine r_getR (k := t) (f := 15) (k2 := (t + 14)) kx_122_158 kp_122_93 (tkt_0 hT ht) kf_9_15 (by decide) (rqt_15 hI ht) ?_
      refine s_callV2 (k := 3) (s1 := 2) (s2 := 0) (as := [rf (t + 14)]) (rest := []) kx_122_161 kp_122_85 (Or.inl rfl) rfl (tk_3 hT) ki_128 kcl_128 rfl rfl (by decide) (f_128 (d := d + 81) hT hI h50 (fF_stands ht) hA (by omega)) (kW (fun v29 M30 hI30 fr30 v29p => ?_))
      have hFm30 := hFm.call fr30 rfl
      have tr31 := rg_5_2 hI30
      refine s_if_eq (t := 186) kx_122_164 (by decide) (fun hc32 => ?_) (fun hc32 => ?_)
      · replace v29p := v29p.resolve_left (by omega)
        have hstx : SumX M30 (fun g => ∀ D2 q2, FinR s n D p g D2 q2) := ⟨_, v29p.2.2.1, v29p.2.2.2, fun D2 q2 => fin_sum6 (Or.inr ⟨rfl, hwd⟩) (fun z => by have := (owD_f1 hD hI ht).2.mp z; omega)⟩
        refine s_iconst (v := 0) kx_122_186 (by decide) ?_
        exact s_iret kx_122_187 (Or.inr ⟨kq_122, by omega⟩) ⟨_, _, _, rfl, rfl, hT, hI30, hFm30, (Gm.fr hG fr30 rfl), ⟨(Or.inr ⟨rfl, hstx⟩), (KT.fr hKX fr30 ht hux rfl)⟩⟩
      · replace v29p := v29p.resolve_right (by omega)
        refine s_aload_n kx_122_167 rfl ?_
        refine r_getR (k := 3) (f := 0) (k2 := 4) kx_122_168 kp_122_12 (tk_3 hT) kf_10_0 (by decide) (rq_3_0 hI30) ?_
        refine s_aload_n kx_122_171 rfl ?_
        refine r_getR (k := t) (f := 15) (k2 := (t + 14)) kx_122_172 kp_122_93 (tkt_0 hT ht) kf_9_15 (by decide) (rqt_15 hI30 ht) ?_
        refine s_iconst (v := 0) kx_122_175 (by decide) ?_
        refine s_callV2 (k := 4) (s1 := 3) (s2 := 0) (as := [(0, 0), rf (t + 14)]) (rest := []) kx_122_176 kp_122_89 (Or.inr rfl) rfl (tk_4 hT) ki_89 kcl_89 rfl rfl (by decide) (f_89 (d := d + 77) (o := 0) (k := 0) hT hI30 ((fr30 5 0 rfl).trans h50) (fF_stands ht) (Gm.fr hG fr30 rfl) v29p.2.2.2 (fun _ => lf_1.deep (by omega)) (by omega) (by omega) (by omega)) (kG (fun v33 T34 M34 hT34 hI34 fr34 hG34 v33p => ?_))
        have hFm34 := hFm30.call fr34 rfl
        have tr35 := rg_5_2 hI34
        have hkt36 := KT.sum (KT.fr hKX fr30 ht hux rfl) ht hux (by omega) fr34 (v33p.elim (fun z => z.2.2.1.2) (fun z => z.2.1.2))
        refine s_if_eq (t := 186) kx_122_179 (by decide) (fun hc37 => ?_) (fun hc37 => ?_)
        · replace v33p := v33p.resolve_left (by omega)
          have hstx : SumX M34 (fun g => ∀ D2 q2, FinR s n D p g D2 q2) := (fun ⟨g, a1, a2, a3⟩ => ⟨g, a1, a2, fun D2 q2 => fin_sumx (Or.inr ⟨rfl, hwd⟩) ((owD_f1 hD hI ht).2.mpr (by omega)) a1 a3⟩) v33p.2.2
          refine s_iconst (v := 0) kx_122_186 (by decide) ?_
          exact s_iret kx_122_187 (Or.inr ⟨kq_122, by omega⟩) ⟨_, _, _, rfl, rfl, hT34, hI34, hFm34, hG34, ⟨(Or.inr ⟨rfl, hstx⟩), hkt36⟩⟩
        · replace v33p := v33p.resolve_right (by omega)
          obtain ⟨c1, q1, q1l, q1p, q1o, q1g⟩ := v33p.2.2.2
          have hsto : StO M34 t s n D p := ⟨_, q1, q1l, (owD_sum2 ht (owD_fr hD ht fr30 rfl) fr34 (by omega) (by omega) v33p.2.2.1.2 q1g), ⟨DW_fl hW (Or.inr rfl), TD_fl hTD q1o.1.1⟩, by omega, fin_sumok (Or.inr ⟨rfl, hwd⟩) ((owD_f1 hD hI ht).2.mpr (by omega)) q1l.2.2.1 q1o.1 q1o.2⟩
          refine s_iconst (v := 1) kx_122_182 (by decide) ?_
          refine s_goto (t := 187) kx_122_183 (by decide) ?_
          exact s_iret kx_122_187 (Or.inr ⟨kq_122, by omega⟩) ⟨_, _, _, rfl, rfl, hT34, hI34, hFm34, hG34, ⟨(Or.inl ⟨rfl, hsto⟩), hkt36⟩⟩
    · refine s_lsw (t := 106) kx_122_26 (by decide) 773619712 hs4 (by decide) ?_
      have hwd := wd_of (s := s) (n := n) (p := p) (w := 773619712) (by omega) (by have := hA.2.2.2.2.2.2.2.2 (by omega) (by omega); omega)
      refine s_aload_n kx_122_106 rfl ?_
      refine s_aload_n kx_122_107 rfl ?_
      refine s_callV2 (k := 3) (s1 := 2) (s2 := 0) (as := [rf t]) (rest := []) kx_122_108 kp_122_72 (Or.inl rfl) rfl (tk_3 hT) ki_124 kcl_124 rfl rfl (by decide) (f_124 (d := d + 80) hT hI ht h50 hA hD hW hux hKX (by omega)) (kW (fun v38 M39 hI39 fr39 v38p => ?_))
      have hFm39 := hFm.call fr39 rfl
      have tr40 := rg_5_2 hI39
      have v38pk := v38p.2
      (replace v38p := v38p.1)
      exact s_iret kx_122_111 (Or.inr ⟨kq_122, by omega⟩) ⟨_, _, _, rfl, rfl, hT, hI39, hFm39, (Gm.fr hG fr39 rfl), ⟨(v38p.elim (fun z => Or.inl ⟨z.1, ⟨_, _, z.2.2.1, z.2.2.2, ⟨DW_AW hW, TD_st (D := D) hTD (st_sel (D := D) hwd (Or.inr (Or.inl ⟨rfl, rfl, rfl, rfl⟩)))⟩, (by have := ow_prog5 (s := s) (n := n) (p := p) ⟨h0, hpn⟩ (by omega); exact this), fin_ok (st_sel (D := D) hwd (Or.inr (Or.inl ⟨rfl, rfl, rfl, rfl⟩))) z.2.1 z.2.2.1.2.2.1⟩⟩) (fun z => Or.inr ⟨z.1, ⟨_, z.2.1, z.2.2, fun D2 q2 => fin_x (w := 0) (st_sel (D := D) hwd (Or.inr (Or.inl ⟨rfl, rfl, rfl, rfl⟩))) z.2.1⟩⟩)), v38pk⟩⟩
    · refine s_lswD (t := 200) kx_122_26 (by decide) (by simpa using hs4) (by decide) ?_
      refine s_aload_n kx_122_200 rfl ?_
      refine r_getR (k := 3) (f := 1) (k2 := 5) kx_122_201 kp_122_22 (tk_3 hT) kf_10_1 (by decide) (rq_3_1 hI) ?_
      refine s_callV2 (k := 5) (s1 := 1) (s2 := 0) (as := []) (rest := []) kx_122_204 kp_122_60 (Or.inl rfl) rfl (tk_5 hT) ki_21 kcl_21 rfl rfl (by decide) (f_21 (d := d + 83) hT hI) (kW (fun v41 M42 hI42 fr42 v41p => ?_))
      have hFm42 := hFm.call fr42 rfl
      have tr43 := rg_5_2 hI42
      exact s_iret kx_122_207 (Or.inr ⟨kq_122, by omega⟩) ⟨_, _, _, rfl, rfl, hT, hI42, hFm42, (Gm.fr hG fr42 rfl), ⟨(Or.inr ⟨by omega, SumX.un (LxA.un hA (by omega) v41p.2.2) h0 (fun D2 q2 => fin_none h0 (fun w hw g => by have g1 := owW1 g; (have := hA.2.2.2.2.2.2.2.2 (by omega) (by omega); omega)))⟩), (KT.fr hKX fr42 ht hux rfl)⟩⟩
  · refine s_aload_n kx_122_11 rfl ?_
    refine r_getR (k := 3) (f := 1) (k2 := 5) kx_122_12 kp_122_22 (tk_3 hT) kf_10_1 (by decide) (rq_3_1 hI) ?_
    refine s_callV2 (k := 5) (s1 := 1) (s2 := 0) (as := []) (rest := []) kx_122_15 kp_122_60 (Or.inl rfl) rfl (tk_5 hT) ki_21 kcl_21 rfl rfl (by decide) (f_21 (d := d + 83) hT hI) (kW (fun v44 M45 hI45 fr45 v44p => ?_))
    have hFm45 := hFm.call fr45 rfl
    have tr46 := rg_5_2 hI45
    exact s_iret kx_122_18 (Or.inr ⟨kq_122, by omega⟩) ⟨_, _, _, rfl, rfl, hT, hI45, hFm45, (Gm.fr hG fr45 rfl), ⟨(Or.inr ⟨by omega, SumX.un (LxA.un hA (by omega) v44p.2.2) h0 (fun D2 q2 => fin_none h0 (fun w hw g => by have g1 := owW1 g; omega))⟩), (KT.fr hKX fr45 ht hux rfl)⟩⟩
theorem f_fill {xs : Nat → Int} {Ln d : Nat} {T : List cK} {M : cM} (hT : TT T) (hI : Rng M) {val : Int} {k n : Nat} (hA : T[k]? = some (.inl (0, n))) (hn : n < 2147483648) (hx : ∀ f, r_ok k f val) : cC k_P xs Ln (d + 0) 301 [rf k, (0, val)] (T, M) (qV T M [(k, 99999)] (fun M1 => ∀ i : Nat, i < n → M1 k i = val)) := by
  show cP k_P xs Ln (d + 0) 301 0 [(0, rf k), (1, (0, val))] [] (T, M) _
  have hFm : Fr [(k, 99999)] M M := Fr.refl
  refine s_iconst (v := 0) kx_301_0 (by decide) ?_
  refine s_istore_n kx_301_1 km_301_2 rfl ?_
  refine s_aload_n kx_301_2 rfl ?_
  refine r_alen (k := k) kx_301_3 hA ⟨by decide, by omega⟩ ?_
  refine s_istore_n kx_301_4 km_301_3 rfl ?_
  have key3 : ∀ n4 : Nat, ∀ (x2_1 : Int), ∀ M2 : cM, Rng M2 → Fr [(k, 99999)] M M2 → Fr [(k, 99999)] M M2 → (0 ≤ x2_1) → (∀ i : Nat, (i : Int) < x2_1 → M2 k i = val) → (2147483647 - x2_1).toNat < n4 → cP k_P xs Ln (d + 0) 301 5 [(0, rf k), (1, (0, val)), (2, (0, x2_1)), (3, (0, ((n : Nat) : Int)))] [] (T, M2) (qV T M [(k, 99999)] (fun M1 => ∀ i : Nat, i < n → M1 k i = val)) := by
    intro n4
    induction n4 with
    | zero => intro x2_1 M2 hI2 hFm2 fl2 i5 i6 hm7; exact absurd hm7 (Nat.not_lt_zero _)
    | succ n4 ih8 =>
      intro x2_1 M2 hI2 hFm2 fl2 i5 i6 hm7
      refine s_iload_n kx_301_5 rfl ?_
      refine s_iload_n kx_301_6 rfl ?_
      refine s_icmp_ge (t := 20) kx_301_7 (by decide) (fun hc9 => ?_) (fun hc9 => ?_)
      · exact s_vret kx_301_20 kq_301 ⟨_, rfl, rfl, hI2, hFm2, (fun i hi => i6 i (by omega))⟩
      · refine s_aload_n kx_301_10 rfl ?_
        refine s_iload_n kx_301_11 rfl ?_
        refine s_iload_n kx_301_12 rfl ?_
        refine r_ast (k := k) kx_301_13 hA ⟨by omega, by omega⟩ hI2 (hx _) (fun M10 hI10 u10 => ?_)
        have hFm10 := hFm2.up u10 (by simp [c_in])
        have hFl510 := fl2.up u10 (by simp [c_in])
        refine r_iinc kx_301_14 rfl km_301_2 (by decide) ⟨by omega, by omega⟩ rfl ?_
        refine s_goto (t := 5) kx_301_17 (by decide) ?_
        exact cP.wk (lS1 rfl (lS1 rfl (lS1 rfl (lS1 rfl lS0)))) (ih8 (x2_1 + 1) M10 hI10 hFm10 hFl510 (by omega) (fun i hi => if e : i = (x2_1).toNat then e ▸ u10.1 else (u10.2 k i (by omega)).trans (i6 i (by omega))) (by omega))
  exact cP.wk (lS1 rfl (lS1 rfl (lS1 rfl (lS1 rfl lS0)))) (key3 _ 0 M hI hFm Fr.refl (by omega) (fun i hi => absurd hi (by omega)) (Nat.lt_succ_self _))
def gS_105_m : List (Nat × Nat) := [(12, 99999), (19, 2), (22, 2), (25, 0), (25, 1), (25, 2), (25, 3), (29, 99999), (36, 2), (39, 2), (8, 0), (8, 1), (8, 2), (8, 3)]
theorem f_105 {xs : Nat → Int} {Ln d : Nat} {T : List cK} {M : cM} (hT : TT T) (hI : Rng M) {t : Nat} (ht : t = 8 ∨ t = 25) {uX : Nat} {WX : cM} (hux : uX = 8 ∧ t = 25 ∨ uX = 25 ∧ t = 8) (hKX : KT uX WX M) : cC k_P xs Ln (d + 1) 105 [rf t] (T, M) (qV T M gS_105_m (fun M1 => (M1 t 0 = 0 ∧ M1 t 1 = 0 ∧ M1 t 2 = 0 ∧ M1 t 3 = -1 ∧ (∀ i : Nat, i < 64 → M1 (t + 4) i = 0) ∧ M1 (t + 11) 2 = 0 ∧ M1 (t + 14) 2 = 0 ∧ (∀ g, fF g → M1 g 2 ≤ M g 2 ∨ M1 g 2 = 0)) ∧ KT uX WX M1)) := by
  show cP k_P xs Ln (d + 1) 105 0 [(0, rf t)] [] (T, M) _
  have hFm : Fr gS_105_m M M := Fr.refl
  refine s_aload_n kx_105_0 rfl ?_
  refine s_iconst (v := 0) kx_105_1 (by decide) ?_
  refine r_put (k := t) (f := 0) kx_105_2 kp_105_9 (tkt_0 hT ht) kf_9_0 rfl (by decide) (by decide) hI (rut_0_0 ht (by omega) (by omega)) (fun M1 hI1 u1 => ?_)
  have hFm1 := hFm.up u1 (by rcases ht with rfl | rfl <;> rfl)
  have hkx2 := (KT.up hKX u1 (by omega))
  refine s_aload_n kx_105_5 rfl ?_
  refine s_iconst (v := 0) kx_105_6 (by decide) ?_
  refine r_put (k := t) (f := 1) kx_105_7 kp_105_15 (tkt_0 hT ht) kf_9_1 rfl (by decide) (by decide) hI1 (rut_0_1 ht (by omega) (by omega)) (fun M3 hI3 u3 => ?_)
  have hFm3 := hFm1.up u3 (by rcases ht with rfl | rfl <;> rfl)
  have hkx4 := (KT.up hkx2 u3 (by omega))
  refine s_aload_n kx_105_10 rfl ?_
  refine s_iconst (v := 0) kx_105_11 (by decide) ?_
  refine r_put (k := t) (f := 2) kx_105_12 kp_105_18 (tkt_0 hT ht) kf_9_2 rfl (by decide) (by decide) hI3 (rut_0_2 ht) (fun M5 hI5 u5 => ?_)
  have hFm5 := hFm3.up u5 (by rcases ht with rfl | rfl <;> rfl)
  have hkx6 := (KT.up hkx4 u5 (by omega))
  refine s_aload_n kx_105_15 rfl ?_
  refine s_iconst (v := (-1)) kx_105_16 (by decide) ?_
  refine r_put (k := t) (f := 3) kx_105_17 kp_105_21 (tkt_0 hT ht) kf_9_3 rfl (by decide) (by decide) hI5 (rut_0_3 ht) (fun M7 hI7 u7 => ?_)
  have hFm7 := hFm5.up u7 (by rcases ht with rfl | rfl <;> rfl)
  have hkx8 := (KT.up hkx6 u7 (by omega))
  refine s_aload_n kx_105_20 rfl ?_
  refine r_getR (k := t) (f := 7) (k2 := (t + 4)) kx_105_21 kp_105_34 (tkt_0 hT ht) kf_9_7 (by decide) (rqt_7 hI7 ht) ?_
  refine s_iconst (v := 0) kx_105_24 (by decide) ?_
  refine s_callS2 (s1 := 2) (s2 := 0) (as := [(0, 0), rf (t + 4)]) (rest := []) kx_105_25 kp_105_65 rfl kcl_301 rfl rfl (by decide) (f_fill (d := d) (val := 0) hT hI7 (k := (t + 4)) (n := 64) (tkt_4 hT ht) (by decide) (fun _ => (rut_4 ht))) (kV (fun M10 hI10 fr10 v9p => ?_))
  have hFm10 := hFm7.call fr10 (by rcases ht with rfl | rfl <;> rfl)
  refine s_aload_n kx_105_28 rfl ?_
  refine r_getR (k := t) (f := 14) (k2 := (t + 11)) kx_105_29 kp_105_58 (tkt_0 hT ht) kf_9_14 (by decide) (rqt_14 hI10 ht) ?_
  refine s_iconst (v := 0) kx_105_32 (by decide) ?_
  refine r_put (k := (t + 11)) (f := 2) kx_105_33 kp_105_71 (tkf_0 hT (fF_slow ht)) kf_1_2 rfl (by decide) (by decide) hI10 (ruf_0_2 (fF_slow ht) (by omega) (by omega)) (fun M11 hI11 u11 => ?_)
  have hFm11 := hFm10.up u11 (by rcases ht with rfl | rfl <;> rfl)
  have hkx12 := (KT.up (KT.frA (t := t) hkx8 fr10 hux (by omega)) u11 (by omega))
  refine s_aload_n kx_105_36 rfl ?_
  refine r_getR (k := t) (f := 15) (k2 := (t + 14)) kx_105_37 kp_105_62 (tkt_0 hT ht) kf_9_15 (by decide) (rqt_15 hI11 ht) ?_
  refine s_iconst (v := 0) kx_105_40 (by decide) ?_
  refine r_put (k := (t + 14)) (f := 2) kx_105_41 kp_105_71 (tkf_0 hT (fF_stands ht)) kf_1_2 rfl (by decide) (by decide) hI11 (ruf_0_2 (fF_stands ht) (by omega) (by omega)) (fun M13 hI13 u13 => ?_)
  have hFm13 := hFm11.up u13 (by rcases ht with rfl | rfl <;> rfl)
  have hkx14 := (KT.up hkx12 u13 (by omega))
  exact s_vret kx_105_44 kq_105 ⟨_, rfl, rfl, hI13, hFm13, ⟨⟨((u13.2 t 0 (by omega)).trans ((u11.2 t 0 (by omega)).trans ((fr10 t 0 (by rcases ht with rfl | rfl <;> rfl)).trans ((u7.2 t 0 (by omega)).trans ((u5.2 t 0 (by omega)).trans ((u3.2 t 0 (by omega)).trans u1.1)))))), ((u13.2 t 1 (by omega)).trans ((u11.2 t 1 (by omega)).trans ((fr10 t 1 (by rcases ht with rfl | rfl <;> rfl)).trans ((u7.2 t 1 (by omega)).trans ((u5.2 t 1 (by omega)).trans u3.1))))), ((u13.2 t 2 (by omega)).trans ((u11.2 t 2 (by omega)).trans ((fr10 t 2 (by rcases ht with rfl | rfl <;> rfl)).trans ((u7.2 t 2 (by omega)).trans u5.1)))), ((u13.2 t 3 (by omega)).trans ((u11.2 t 3 (by omega)).trans ((fr10 t 3 (by rcases ht with rfl | rfl <;> rfl)).trans u7.1))), (fun i hi => (u13.2 (t + 4) i (by omega)).trans ((u11.2 (t + 4) i (by omega)).trans (v9p i hi))), ((u13.2 (t + 11) 2 (by omega)).trans u11.1), u13.1, (fun g hg => by have hgc := hg.cases; exact if e : g = t + 14 then Or.inr (e ▸ u13.1) else if e2 : g = t + 11 then Or.inr (e2 ▸ (u13.2 (t + 11) 2 (by omega)).trans u11.1) else Or.inl (Int.le_of_eq ((u13.2 g 2 (by omega)).trans ((u11.2 g 2 (by omega)).trans ((fr10 g 2 (by rcases hg with rfl | rfl | rfl | rfl <;> rcases ht with rfl | rfl <;> rfl)).trans ((u7.2 g 2 (by omega)).trans ((u5.2 g 2 (by omega)).trans ((u3.2 g 2 (by omega)).trans (u1.2 g 2 (by omega))))))))))⟩, hkx14⟩⟩
def gS_19_m : List (Nat × Nat) := [(5, 0), (5, 1), (5, 2), (5, 3), (5, 6)]
theorem f_19 {xs : Nat → Int} {Ln d : Nat} {T : List cK} {M : cM} (hT : TT T) (hI : Rng M) : cC k_P xs Ln (d + 1) 19 [rf 5, rf 1] (T, M) (qV T M gS_19_m (fun M1 => M1 5 0 = ((2 : Nat) : Int) ∧ M1 5 1 = M 1 1 ∧ M1 5 2 = 0 ∧ M1 5 3 = 0 ∧ M1 5 6 = 0)) := by
  show cP k_P xs Ln (d + 1) 19 0 [(0, rf 5), (1, rf 1)] [] (T, M) _
  have hFm : Fr gS_19_m M M := Fr.refl
  have h11 := rg_1_1 hI
  refine s_aload_n kx_19_0 rfl ?_
  refine s_aload_n kx_19_1 rfl ?_
  refine r_getR (k := 1) (f := 0) (k2 := 2) kx_19_2 kp_19_35 (tk_1 hT) kf_8_0 (by decide) (rq_1_0 hI) ?_
  refine r_put (k := 5) (f := 0) kx_19_5 kp_19_7 (tk_5 hT) kf_3_0 rfl (by decide) (by decide) hI ru_5_0 (fun M1 hI1 u1 => ?_)
  have hFm1 := hFm.up u1 rfl
  refine s_aload_n kx_19_8 rfl ?_
  refine s_aload_n kx_19_9 rfl ?_
  refine r_getI (k := 1) (f := 1) kx_19_10 kp_19_40 (tk_1 hT) kf_8_1 (fun _ => rfl) (rg_1_1 hI1) (fun v2 v2e v2a v2b => ?_)
  have v2z : M 1 1 = v2 := ((u1.2 1 1 (by omega))).symm.trans v2e
  refine s_aload_n kx_19_13 rfl ?_
  refine r_getR (k := 1) (f := 0) (k2 := 2) kx_19_14 kp_19_35 (tk_1 hT) kf_8_0 (by decide) (rq_1_0 hI1) ?_
  refine r_alen (k := 2) kx_19_17 (tk_2 hT) ⟨by decide, by decide⟩ ?_
  refine s_callS2 (s1 := 2) (s2 := 1) (as := [(0, 1600), (0, v2)]) (rest := [rf 5]) kx_19_18 kp_19_41 rfl kcl_299 rfl rfl (by decide) (m_299 (d := d) (a := v2) (b := 1600) hT hI1) (kF (fun v3 v3p => ?_))
  refine r_put (k := 5) (f := 1) kx_19_21 kp_19_13 (tk_5 hT) kf_3_1 rfl (by decide) (by decide) hI1 (ru_5_1 (by omega) (by omega)) (fun M4 hI4 u4 => ?_)
  have hFm4 := hFm1.up u4 rfl
  refine s_aload_n kx_19_24 rfl ?_
  refine s_iconst (v := 0) kx_19_25 (by decide) ?_
  refine r_put (k := 5) (f := 2) kx_19_26 kp_19_17 (tk_5 hT) kf_3_2 rfl (by decide) (by decide) hI4 (ru_5_2 (by omega) (by omega)) (fun M5 hI5 u5 => ?_)
  have hFm5 := hFm4.up u5 rfl
  refine s_aload_n kx_19_29 rfl ?_
  refine s_iconst (v := 0) kx_19_30 (by decide) ?_
  refine r_put (k := 5) (f := 3) kx_19_31 kp_19_20 (tk_5 hT) kf_3_3 rfl (by decide) (by decide) hI5 (ru_5_3 (by omega) (by omega)) (fun M6 hI6 u6 => ?_)
  have hFm6 := hFm5.up u6 rfl
  refine s_aload_n kx_19_34 rfl ?_
  refine s_iconst (v := 0) kx_19_35 (by decide) ?_
  refine r_put (k := 5) (f := 6) kx_19_36 kp_19_29 (tk_5 hT) kf_3_6 rfl (by decide) (by decide) hI6 ru_5_6 (fun M7 hI7 u7 => ?_)
  have hFm7 := hFm6.up u7 rfl
  have hk8 : M7 5 1 = v3 := ((u7.2 5 1 (by omega)).trans ((u6.2 5 1 (by omega)).trans ((u5.2 5 1 (by omega)).trans u4.1)))
  exact s_vret kx_19_39 kq_19 ⟨_, rfl, rfl, hI7, hFm7, ⟨((u7.2 5 0 (by omega)).trans ((u6.2 5 0 (by omega)).trans ((u5.2 5 0 (by omega)).trans ((u4.2 5 0 (by omega)).trans u1.1)))), by omega, ((u7.2 5 2 (by omega)).trans ((u6.2 5 2 (by omega)).trans u5.1)), ((u7.2 5 3 (by omega)).trans u6.1), u7.1⟩⟩
