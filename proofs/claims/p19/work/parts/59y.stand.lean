/-! the town that stands: the class's (cell t) and the reference's (bank i) -/
def RSt (i : Int) (M D : cM) : Prop := M 65 i.toNat = D 0 0 ∧ M 69 i.toNat = D 0 1 ∧ M 79 i.toNat = D 0 2 ∧ M 80 i.toNat = D 0 3 ∧ (∀ k : Nat, (k : Int) < D 0 0 → N58 (D 1 k) (M 83 (8 * i + (k : Int)).toNat) ∧ M 66 (8 * i + (k : Int)).toNat = D 2 k ∧ M 67 (8 * i + (k : Int)).toNat = D 3 k) ∧ (∀ k : Nat, (k : Int) < D 0 1 → N58 (D 5 k) (M 84 (8 * i + (k : Int)).toNat) ∧ M 70 (8 * i + (k : Int)).toNat = D 6 k ∧ M 71 (8 * i + (k : Int)).toNat = D 7 k ∧ M 72 (8 * i + (k : Int)).toNat = D 8 k ∧ M 74 (8 * i + (k : Int)).toNat = D 9 k ∧ M 73 (8 * i + (k : Int)).toNat = D 10 k) ∧ WYS i M D
theorem RSD.t {M D : cM} (h : RSD M D) : RSt (M 63 36) M D := ⟨h.1, h.2.1, h.2.2.1, h.2.2.2.1, h.2.2.2.2.1, h.2.2.2.2.2.1, h.2.2.2.2.2.2.2.2⟩
theorem RSt.eq {i : Int} {M M1 D : cM} (h : RSt i M D) (e : ∀ c, c ∈ [65, 66, 67, 68, 69, 70, 71, 72, 73, 74, 79, 80, 83, 84] → ∀ f, M1 c f = M c f) : RSt i M1 D := by
  unfold RSt
  simp only [e 65 (by decide), e 66 (by decide), e 67 (by decide), e 69 (by decide), e 70 (by decide), e 71 (by decide), e 72 (by decide), e 73 (by decide), e 74 (by decide), e 79 (by decide), e 80 (by decide), e 83 (by decide), e 84 (by decide)]
  exact ⟨h.1, h.2.1, h.2.2.1, h.2.2.2.1, h.2.2.2.2.1, h.2.2.2.2.2.1, h.2.2.2.2.2.2.of (fun g => e 68 (by decide) g) rfl (fun _ => rfl)⟩
theorem RSt.kb {i : Int} {M M1 D : cM} (h : RSt i M D) (hi : 0 ≤ i ∧ i ≤ 1) (h8 : D 0 0 ≤ 8 ∧ D 0 1 ≤ 8) (k : KBt i M M1) : RSt i M1 D := by
  obtain ⟨a1, a2, a3, a4, a5, a6, a7⟩ := h
  obtain ⟨k1, k2, k3, _⟩ := k
  refine ⟨(k1 65 (by decide)).trans a1, (k1 69 (by decide)).trans a2, (k1 79 (by decide)).trans a3, (k1 80 (by decide)).trans a4, fun k hk => ?_, fun k hk => ?_, ?_, a7.2⟩
  · have := a5 k hk
    rw [k2 83 (by decide) _ (by omega) (by omega), k2 66 (by decide) _ (by omega) (by omega), k2 67 (by decide) _ (by omega) (by omega)]
    exact this
  · have := a6 k hk
    rw [k2 84 (by decide) _ (by omega) (by omega), k2 70 (by decide) _ (by omega) (by omega), k2 71 (by decide) _ (by omega) (by omega), k2 72 (by decide) _ (by omega) (by omega), k2 74 (by decide) _ (by omega) (by omega), k2 73 (by decide) _ (by omega) (by omega)]
    exact this
  · intro a b ha hb
    rw [k3 _ (by omega) (by omega)]
    exact a7.1 a b ha hb
theorem RSt.dd {i : Int} {M D D1 : cM} (h : RSt i M D) (e : ∀ k f, k ≤ 10 → D1 k f = D k f) : RSt i M D1 := by
  unfold RSt
  simp only [e 0 _ (by decide), e 1 _ (by decide), e 2 _ (by decide), e 3 _ (by decide), e 5 _ (by decide), e 6 _ (by decide), e 7 _ (by decide), e 8 _ (by decide), e 9 _ (by decide), e 10 _ (by decide)]
  exact ⟨h.1, h.2.1, h.2.2.1, h.2.2.2.1, h.2.2.2.2.1, h.2.2.2.2.2.1, h.2.2.2.2.2.2.of (fun _ => rfl) (e 0 0 (by decide)) (fun g => e 4 g (by decide))⟩
theorem DW.dd {D D1 : cM} (h : DW D) (e : ∀ k f, k ≤ 10 → D1 k f = D k f) : DW D1 := by
  unfold DW
  simp only [e 0 _ (by decide), e 1 _ (by decide), e 5 _ (by decide), e 6 _ (by decide), e 7 _ (by decide), e 8 _ (by decide), e 9 _ (by decide), e 10 _ (by decide)]
  exact h
/-- what stands: the codes of its sums -/
theorem CDR.kb {i : Int} {M M1 D : cM} (h : CDR i M D) (hi : 0 ≤ i ∧ i ≤ 1) (hI : Rng M) (k : KBt i M M1) : CDR i M1 D := by
  obtain ⟨k1, _, _, k4⟩ := k
  have key : ∀ j x y, (x = 75 ∧ y = 76 ∨ x = 77 ∧ y = 78) → CD1 i M D j x y → CD1 i M1 D j x y := fun j x y hxy h hz => by
    have ex : M1 x i.toNat = M x i.toNat := k1 x (by simp; omega)
    have ey : M1 y i.toNat = M y i.toNat := k1 y (by simp; omega)
    have hy : M y i.toNat ≤ 1600 := by
      rcases hxy with ⟨_, rfl⟩ | ⟨_, rfl⟩
      · exact (rg_76 hI).2
      · exact (rg_78 hI).2
    have h1 := h hz
    rw [ex, ey]
    refine ⟨h1.1, fun q hq => ?_⟩
    rw [k4 81 (by decide) _ (by omega) (by omega), k4 82 (by decide) _ (by omega) (by omega)]
    exact h1.2 q hq
  exact ⟨key 11 75 76 (by decide) h.1, key 12 77 78 (by decide) h.2⟩
theorem CDR.of {i : Int} {M M1 D : cM} (h : CDR i M D) (e : ∀ c, c ∈ [75, 76, 77, 78, 81, 82] → ∀ f, M1 c f = M c f) : CDR i M1 D :=
  ⟨h.1.eq (e 75 (by decide)) (e 76 (by decide)) (e 81 (by decide)) (e 82 (by decide)) (fun _ => rfl), h.2.eq (e 77 (by decide)) (e 78 (by decide)) (e 81 (by decide)) (e 82 (by decide)) (fun _ => rfl)⟩
/-- .. and without a sum none stands there -/
def CDX (i : Int) (M D : cM) : Prop := CDR i M D ∧ (D 11 0 = 0 → M 75 i.toNat = -1)
theorem CDX.of {i : Int} {M M1 D : cM} (h : CDX i M D) (e : ∀ c, c ∈ [75, 76, 77, 78, 81, 82] → ∀ f, M1 c f = M c f) : CDX i M1 D := ⟨h.1.of e, fun z => (e 75 (by decide) _).trans (h.2 z)⟩
theorem CDX.kb {i : Int} {M M1 D : cM} (h : CDX i M D) (hi : 0 ≤ i ∧ i ≤ 1) (hI : Rng M) (k : KBt i M M1) : CDX i M1 D := ⟨h.1.kb hi hI k, fun z => (k.1 75 (by decide)).trans (h.2 z)⟩
theorem owD_kt {u : Nat} {M M1 : cM} (h : KT u M M1) : owD M1 u = owD M u := owD_eq rfl h.1 h.2.1 h.2.2
theorem owD_ktf {S : List (Nat × Nat)} {t : Nat} {M M1 : cM} (g : Fr S M M1) (ht : t = 8 ∨ t = 25) (hs : ktf S = true) : owD M1 t = owD M t :=
  owD_eq rfl (fun k f hk => g (t + k) f (ktf_in hs (by omega))) (fCd_fr (fF_slow ht) g (ktf_k hs)) (fCd_fr (fF_stands ht) g (ktf_k hs))
/-- what stands: the same town on both sides -/
def ST (t : Nat) (M : cM) : Prop := RSt (M 63 14) M (owD M t) ∧ DW (owD M t) ∧ CDX (M 63 14) M (owD M t) ∧ TD (owD M t)
def stf (S : List (Nat × Nat)) : Bool := !c_in S 63 14 && ([65, 66, 67, 68, 69, 70, 71, 72, 73, 74, 79, 80, 83, 84, 75, 76, 77, 78, 81, 82].all fun c => S.all fun p => p.1 != c) && ktf S
theorem ST.fr {S : List (Nat × Nat)} {t : Nat} {M M1 : cM} (h : ST t M) (g : Fr S M M1) (ht : t = 8 ∨ t = 25) (hs : stf S = true) : ST t M1 := by
  unfold stf at hs
  rw [Bool.and_eq_true, Bool.and_eq_true] at hs
  have e : ∀ c, c ∈ [65, 66, 67, 68, 69, 70, 71, 72, 73, 74, 79, 80, 83, 84, 75, 76, 77, 78, 81, 82] → ∀ f, M1 c f = M c f := fun c hc f => g c f (nin (by simp at hc; omega) (List.all_eq_true.mp hs.1.2 c hc) f)
  unfold ST
  rw [g 63 14 (by simpa using hs.1.1), owD_ktf g ht hs.2]
  exact ⟨h.1.eq (fun c hc => e c (by simp at hc ⊢; omega)), h.2.1, h.2.2.1.of (fun c hc => e c (by simp at hc ⊢; omega)), h.2.2.2⟩
/-- faults told -/
def FT (M : cM) : Prop := M 0 10 = M 63 11 ∧ M 0 11 = M 63 12
theorem FT.fr {S : List (Nat × Nat)} {M M1 : cM} (h : FT M) (g : Fr S M M1) (hs : (c_in S 0 10 || c_in S 0 11 || c_in S 63 11 || c_in S 63 12) = false) : FT M1 := by
  simp at hs
  unfold FT
  rw [g 0 10 hs.1.1.1, g 0 11 hs.1.1.2, g 63 11 hs.1.2, g 63 12 hs.2]
  exact h
/-- a text that is refused, or told: both towns go on alike -/
theorem tw_fin {t u t' : Nat} {M M1 M2 D' : cM} {f N v w : Int} {S : List (Nat × Nat)} (h : ST u M) (hI : Rng M) (hi : 0 ≤ M 63 14 ∧ M 63 14 ≤ 1) (hux : u = 8 ∧ t = 25 ∨ u = 25 ∧ t = 8) (hc : (f ≠ 0 ∧ v = -1 ∧ 1 ≤ M1 0 10 ∧ 0 ≤ M1 0 11 ∧ M1 0 11 < 10000 ∧ 10000 * M1 0 10 + M1 0 11 = f ∧ M1 7 0 = ((u : Nat) : Int) ∧ M1 7 1 = ((t : Nat) : Int) ∧ KT u M M1) ∨ (f = 0 ∧ v = N ∧ 0 ≤ v ∧ M1 0 10 = 0 ∧ M1 0 11 = -1 ∧ M1 7 0 = ((t : Nat) : Int) ∧ M1 7 1 = ((u : Nat) : Int) ∧ owD M1 t = D' ∧ DW D' ∧ TD D')) (h14 : M1 63 14 = M 63 14) (hb : ∀ c, c ∈ [65, 66, 67, 68, 69, 70, 71, 72, 73, 74, 79, 80, 83, 84, 75, 76, 77, 78, 81, 82] → ∀ f, M1 c f = M c f) (hI1 : Rng M1) (g : Fr S M1 M2) (hk : ktf S = true) (h010 : c_in S 0 10 = false) (h011 : c_in S 0 11 = false) (hc7 : c_in S 7 0 = false) (hc71 : c_in S 7 1 = false) (hw : TwY M1 M2 f N w D') : v = w ∧ FT M2 ∧ ∃ t u : Nat, (u = 8 ∧ t = 25 ∨ u = 25 ∧ t = 8) ∧ M2 7 0 = ((t : Nat) : Int) ∧ M2 7 1 = ((u : Nat) : Int) ∧ ST t M2 := by
  have e10 := g 0 10 h010
  have e11 := g 0 11 h011
  have e7 := g 7 0 hc7
  have e71 := g 7 1 hc71
  have ed : ∀ t : Nat, (t = 8 ∨ t = 25) → owD M2 t = owD M1 t := fun t ht => owD_ktf g ht hk
  unfold TwY at hw
  rcases hc with ⟨a1, a2, a3, a4, a5, a6, a7, a8, a9⟩ | ⟨a1, a2, a3, a4, a5, a6, a7, a8, a9, a10⟩
  · rcases hw with ⟨b1, b2, b3, b4, b5, b6, b7, b8⟩ | ⟨b1, _⟩
    · refine ⟨by omega, ⟨by omega, by omega⟩, u, t, by omega, e7.trans a7, e71.trans a8, ?_⟩
      have ek : owD M1 u = owD M u := owD_kt a9
      unfold ST
      rw [b7, h14, ed u (by omega), ek]
      have h1 := h.1.eq (fun c hc => hb c (by simp at hc ⊢; omega))
      have h2 := h.2.1
      have h3 := h.2.2.1.of (fun c hc => hb c (by simp at hc ⊢; omega))
      rw [h14] at b8
      exact ⟨h1.kb hi ⟨h2.2.1, h2.2.2.2.1⟩ b8, h2, h3.kb hi hI1 b8, h.2.2.2⟩
    · exact absurd b1 a1
  · rcases hw with ⟨b1, _⟩ | ⟨b1, b2, b3, b4, b5, b6, b7, b8, b9⟩
    · exact absurd a1 b1
    · refine ⟨by omega, ⟨by omega, by omega⟩, t, u, hux, e7.trans a6, e71.trans a7, ?_⟩
      have h1 := b8.t
      have hn := b8.2.2.2.2.2.2.1
      rw [b7] at h1 hn
      rw [← b6] at b9
      unfold ST
      rw [ed t (by omega), a8]
      exact ⟨h1, a9, ⟨b9, hn.mp⟩, a10⟩
/-- ways -/
theorem way_eq {t : Nat} {M : cM} {a b v w : Int} (h : ST t M) (hi : 0 ≤ M 63 14) (hv : v = (if 0 < wy M t a b then wy M t a b else -1)) (hw : w = (if (0 ≤ a ∧ a < M 65 (M 63 14).toNat) ∧ (0 ≤ b ∧ b < M 65 (M 63 14).toNat) ∧ 0 < wr M a b then wr M a b else -1)) : v = w := by
  have h1 := h.1.1
  have h0 : owD M t 0 0 = M t 0 := owD_le (by decide)
  rw [h0] at h1
  rw [h1] at hw
  by_cases g : 0 ≤ a ∧ a < M t 0 ∧ 0 ≤ b ∧ b < M t 0
  · have e := h.1.2.2.2.2.2.2.1 a.toNat b.toNat (by rw [h0]; omega) (by rw [h0]; omega)
    rw [owD_le (by decide)] at e
    have e1 : wy M t a b = M (t + 4) (a * 8 + b).toNat := if_pos g
    have e2 : wr M a b = wy M t a b := by
      unfold wr
      rw [e1, show (a * 8 + b).toNat = 8 * a.toNat + b.toNat by omega, ← e, show 8 * (8 * M 63 14 + a) + b = 64 * M 63 14 + 8 * ((a.toNat : Nat) : Int) + ((b.toNat : Nat) : Int) by omega]
    rw [e2] at hw
    rw [hv, hw]
    by_cases g2 : 0 < wy M t a b
    · rw [if_pos g2, if_pos ⟨⟨g.1, g.2.1⟩, ⟨g.2.2.1, g.2.2.2⟩, g2⟩]
    · rw [if_neg g2, if_neg (fun z => g2 z.2.2)]
  · have e1 : wy M t a b = 0 := if_neg g
    rw [e1] at hv
    rw [hv, hw, if_neg (by decide), if_neg (fun z => g ⟨z.1.1, z.1.2, z.2.1.1, z.2.1.2⟩)]
theorem img_eq {t : Nat} {M : cM} (h : ST t M) : M 69 (M 63 14).toNat = M t 1 := h.1.2.1
