/-! the reference's town that is being told -/
def yNm (D : cM) (k : Int) : Nat → Int := if k = 0 then D 1 else D 5
def yCt (D : cM) (k : Int) : Int := if k = 0 then D 0 0 else D 0 1
/-- the ways: those between told rooms, and none beyond -/
def WYS (i : Int) (M D : cM) : Prop := (∀ a b : Nat, (a : Int) < D 0 0 → (b : Int) < D 0 0 → M 68 (64 * i + 8 * (a : Int) + (b : Int)).toNat = D 4 (8 * a + b)) ∧ (∀ a b : Nat, a < 8 → b < 8 → (D 0 0 ≤ (a : Int) ∨ D 0 0 ≤ (b : Int)) → D 4 (8 * a + b) = 0)
theorem WYS.of {i : Int} {M M1 D D1 : cM} (h : WYS i M D) (hM : ∀ g, M1 68 g = M 68 g) (h0 : D1 0 0 = D 0 0) (h4 : ∀ g, D1 4 g = D 4 g) : WYS i M1 D1 := by
  unfold WYS
  simp only [hM, h0, h4]
  exact h
def RSD (M D : cM) : Prop := M 65 (M 63 36).toNat = D 0 0 ∧ M 69 (M 63 36).toNat = D 0 1 ∧ M 79 (M 63 36).toNat = D 0 2 ∧ M 80 (M 63 36).toNat = D 0 3 ∧ (∀ k : Nat, (k : Int) < D 0 0 → N58 (D 1 k) (M 83 (8 * M 63 36 + (k : Int)).toNat) ∧ M 66 (8 * M 63 36 + (k : Int)).toNat = D 2 k ∧ M 67 (8 * M 63 36 + (k : Int)).toNat = D 3 k) ∧ (∀ k : Nat, (k : Int) < D 0 1 → N58 (D 5 k) (M 84 (8 * M 63 36 + (k : Int)).toNat) ∧ M 70 (8 * M 63 36 + (k : Int)).toNat = D 6 k ∧ M 71 (8 * M 63 36 + (k : Int)).toNat = D 7 k ∧ M 72 (8 * M 63 36 + (k : Int)).toNat = D 8 k ∧ M 74 (8 * M 63 36 + (k : Int)).toNat = D 9 k ∧ M 73 (8 * M 63 36 + (k : Int)).toNat = D 10 k) ∧ (D 11 0 = 0 ↔ M 75 (M 63 36).toNat = -1) ∧ (D 12 0 = 0 ↔ M 77 (M 63 36).toNat = -1) ∧ WYS (M 63 36) M D
def rsdf (S : List (Nat × Nat)) : Bool := !c_in S 63 36 && [65, 66, 67, 68, 69, 70, 71, 72, 73, 74, 75, 77, 79, 80, 83, 84].all fun c => S.all fun p => p.1 != c
section RSS
variable {M M1 D : cM} {s : Nat → Int} {n f q : Int}
theorem RSD.congr (h : RSD M D) (h36 : M1 63 36 = M 63 36) (hc : ∀ c, c ∈ [65, 66, 67, 68, 69, 70, 71, 72, 73, 74, 75, 77, 79, 80, 83, 84] → ∀ f, M1 c f = M c f) : RSD M1 D := by
  unfold RSD
  rw [h36]
  simp only [hc 65 (by decide), hc 66 (by decide), hc 67 (by decide), hc 69 (by decide), hc 70 (by decide), hc 71 (by decide), hc 72 (by decide), hc 73 (by decide), hc 74 (by decide), hc 75 (by decide), hc 77 (by decide), hc 79 (by decide), hc 80 (by decide), hc 83 (by decide), hc 84 (by decide)]
  exact ⟨h.1, h.2.1, h.2.2.1, h.2.2.2.1, h.2.2.2.2.1, h.2.2.2.2.2.1, h.2.2.2.2.2.2.1, h.2.2.2.2.2.2.2.1, h.2.2.2.2.2.2.2.2.of (fun g => hc 68 (by decide) g) rfl (fun _ => rfl)⟩
theorem RSD.fr {S : List (Nat × Nat)} (h : RSD M D) (g : Fr S M M1) (hs : rsdf S = true) : RSD M1 D := by
  unfold rsdf at hs
  rw [Bool.and_eq_true] at hs
  refine h.congr (g 63 36 (by simpa using hs.1)) (fun c hc f => g c f (nin ?_ (List.all_eq_true.mp hs.2 c hc) f))
  simp at hc
  omega
theorem RSD.up {k g : Nat} {v : Int} (h : RSD M D) (u : Up M k g v M1) (hk : (k < 65 ∧ (k ≠ 63 ∨ g ≠ 36)) ∨ k = 76 ∨ k = 78 ∨ k = 81 ∨ k = 82 ∨ 84 < k) : RSD M1 D := by
  refine h.congr (u.2 63 36 (by omega)) (fun c hc f => u.2 c f ?_)
  simp at hc
  omega
/-- a way of a room that isn't told yet -/
theorem RSD.up68 {x v i : Int} (h : RSD M D) (hi : M 63 36 = i) (h0 : 0 ≤ i) (u : Up M 68 x.toNat v M1) (hx0 : 0 ≤ x) (hx : ∀ a b : Nat, (a : Int) < D 0 0 → (b : Int) < D 0 0 → 64 * i + 8 * (a : Int) + (b : Int) ≠ x) : RSD M1 D := by
  obtain ⟨a1, a2, a3, a4, a5, a6, a7, a8, a9⟩ := h
  have ec : ∀ c, c ≠ 68 → ∀ g, M1 c g = M c g := fun c hc g => u.2 c g (by omega)
  unfold RSD
  rw [ec 63 (by decide)]
  simp only [ec 65 (by decide), ec 66 (by decide), ec 67 (by decide), ec 69 (by decide), ec 70 (by decide), ec 71 (by decide), ec 72 (by decide), ec 73 (by decide), ec 74 (by decide), ec 75 (by decide), ec 77 (by decide), ec 79 (by decide), ec 80 (by decide), ec 83 (by decide), ec 84 (by decide)]
  refine ⟨a1, a2, a3, a4, a5, a6, a7, a8, ?_, a9.2⟩
  intro a b ha hb
  have := a9.1 a b ha hb
  have hn := hx a b ha hb
  rw [hi] at this ⊢
  rw [u.2 68 _ (by omega)]
  exact this
theorem wz_step {M M1 M2 : cM} {i r D0 x y : Int} (h : ∀ j : Nat, (j : Int) < r → M 68 (64 * i + 8 * D0 + (j : Int)).toNat = 0 ∧ M 68 (64 * i + 8 * (j : Int) + D0).toNat = 0) (u1 : Up M 68 x.toNat 0 M1) (u2 : Up M1 68 y.toNat 0 M2) (hx : x = 64 * i + 8 * D0 + r) (hy : y = 64 * i + 8 * r + D0) (h0 : 0 ≤ i ∧ 0 ≤ r ∧ 0 ≤ D0) : ∀ j : Nat, (j : Int) < r + 1 → M2 68 (64 * i + 8 * D0 + (j : Int)).toNat = 0 ∧ M2 68 (64 * i + 8 * (j : Int) + D0).toNat = 0 := by
  have key : ∀ g : Nat, (M 68 g = 0 ∨ g = x.toNat ∨ g = y.toNat) → M2 68 g = 0 := by
    intro g hg
    by_cases gy : g = y.toNat
    · rw [gy]; exact u2.1
    · rw [u2.2 68 g (by omega)]
      by_cases gx : g = x.toNat
      · rw [gx]; exact u1.1
      · rw [u1.2 68 g (by omega)]
        omega
  intro j hj
  by_cases e : (j : Int) < r
  · exact ⟨key _ (Or.inl (h j e).1), key _ (Or.inl (h j e).2)⟩
  · have e2 : (j : Int) = r := by omega
    rw [e2]
    exact ⟨key _ (Or.inr (Or.inl (by rw [hx]))), key _ (Or.inr (Or.inr (by rw [hy])))⟩
theorem RSD.nm (h : RSD M D) {k : Int} {j : Int} (h0 : 0 ≤ j) (hj : j < yCt D k) : N58 (yNm D k j.toNat) (if k = 0 then M 83 (8 * M 63 36 + j).toNat else M 84 (8 * M 63 36 + j).toNat) := by
  have e : ((j.toNat : Nat) : Int) = j := by omega
  unfold yCt at hj
  unfold yNm
  split
  next g =>
    rw [if_pos g] at hj
    have := (h.2.2.2.2.1 j.toNat (by omega)).1
    rw [e] at this
    exact this
  next g =>
    rw [if_neg g] at hj
    have := (h.2.2.2.2.2.1 j.toNat (by omega)).1
    rw [e] at this
    exact this
def yIx (s : Nat → Int) (n : Int) (D : cM) (q k : Int) : Int := owIx (yNm D k) (owV s n q) (yCt D k).toNat
def yKf (s : Nat → Int) (n : Int) (D : cM) (q k : Int) : Int := if owK s n q ≠ 2 then owU s n q else if yIx s n D q k = -1 then 30000 + owB s n q else 0
def yKr (s : Nat → Int) (n : Int) (D : cM) (f q k : Int) : Int := if f ≠ 0 then f else yKf s n D q k
def yFr (s : Nat → Int) (n : Int) (D : cM) (f q : Int) : Int := if f ≠ 0 then f else owFr s n D q
theorem yKf_0 : yKf s n D q 0 = owKr s n D q := rfl
theorem yLx_kr {k : Int} (h : yLx s n f q ≠ 0) : yKr s n D f q k = yLx s n f q := by
  unfold yLx at h ⊢
  unfold yKr yKf owU
  by_cases h0 : f ≠ 0
  · rw [if_pos h0, if_pos h0]
  · rw [if_neg h0] at h
    rw [if_neg h0, if_neg h0]
    by_cases h5 : owK s n q = 5
    · rw [if_pos h5, if_pos (by omega), if_pos h5]
    · rw [if_neg h5] at h; omega
theorem yLx_fr (h : yLx s n f q ≠ 0) : yFr s n D f q = yLx s n f q := by
  unfold yLx at h ⊢
  unfold yFr owFr owU
  by_cases h0 : f ≠ 0
  · rw [if_pos h0, if_pos h0]
  · rw [if_neg h0] at h
    rw [if_neg h0, if_neg h0]
    by_cases h5 : owK s n q = 5
    · rw [if_pos h5, if_pos (by omega), if_pos h5]
    · rw [if_neg h5] at h; omega
/-- an own word by its eight-bit letters -/
theorem LyA.own (h : LyA M s n q) (hk : owK s n q = 1 ∨ owK s n q = 2) : isO8 (M 63 7) ↔ owK s n q = 1 := by
  have hN := (h.2.2.2.2.2.2.2.1 hk).2
  rw [isO8_iff]
  have hi : (M 63 7 = 1 ∨ M 63 7 ∈ owO8) ↔ owOw (owV s n q) := by
    unfold owOw
    rw [hN.iff n58_carp, n58_isown hN]
  rw [hi]
  refine ⟨fun g => owK_own h.2.2.2.1 hk g, fun g => ?_⟩
  have hp := h.2.2.2.1
  have hb := owB_rng (s := s) hp
  have hK : ¬ n ≤ owB s n q := fun z => by have := owK0.mpr z; omega
  have h5 := owKn_rng (s := s) (n := n) (b := owB s n q)
  unfold owK at g
  rw [if_neg hK] at g
  by_cases hl : owLt (s (owB s n q).toNat)
  · rw [if_pos (Or.inl hl), if_pos hl] at g
    split at g
    · omega
    · have hV : owV s n q = owVw s n (owB s n q) := by unfold owV; rw [if_pos hl]
      rw [hV]
      unfold owKw at g
      unfold owVw owOw
      split at g
      next e => exact Or.inl (if_pos e)
      next e =>
        rw [if_neg e]
        split at g
        · omega
        · split at g
          next e2 => exact Or.inr e2
          next e2 => omega
  · by_cases hd : owDg (s (owB s n q).toNat)
    · rw [if_pos (Or.inr hd), if_neg hl] at g
      split at g <;> omega
    · rw [if_neg (fun z => z.elim hl hd)] at g
      omega
theorem LyA.wn (h : LyA M s n q) (hk : owK s n q = 2) : N58 (owV s n q) (M 63 7) := (h.2.2.2.2.2.2.2.1 (Or.inr hk)).2
/-- a fresh name, so far -/
def FrI (M : cM) (s : Nat → Int) (n : Int) (D : cM) (q k : Int) : Prop := (owFr s n D q ≠ 0 ∧ FlY M (owFr s n D q)) ∨ (M 63 9 = 0 ∧ LyA M s n q ∧ owK s n q = 2 ∧ (1 ≤ k → yIx s n D q 0 = -1) ∧ (2 ≤ k → yIx s n D q 1 = -1))
theorem FrI.pos {k : Int} (h : FrI M s n D q k) (hp : M 63 9 ≠ 0) : owFr s n D q ≠ 0 ∧ FlY M (owFr s n D q) := h.elim id (fun z => absurd z.1 hp)
theorem FrI.zero {k : Int} (h : FrI M s n D q k) (hp : M 63 9 = 0) : LyA M s n q ∧ owK s n q = 2 ∧ (1 ≤ k → yIx s n D q 0 = -1) ∧ (2 ≤ k → yIx s n D q 1 = -1) := by
  rcases h with ⟨h1, h2⟩ | h
  · have := h2.1
    omega
  · exact h.2
theorem FrI.none {k : Int} (h : FrI M s n D q k) (hp : M 63 9 = 0) (hk : 2 ≤ k) : owFr s n D q = 0 := by
  have := h.zero hp
  have h1 := this.2.2.1 (by omega)
  have h2 := this.2.2.2 hk
  unfold owFr
  rw [if_neg (by rw [this.2.1]; decide), if_neg]
  rintro (g | g)
  · exact g h1
  · exact g h2
theorem owFr_2 {k : Int} (h2 : owK s n q = 2) (hk : k = 0 ∨ k = 1) (hx : yIx s n D q k ≠ -1) : owFr s n D q = 10000 * 2 + owB s n q := by
  unfold owFr
  rw [if_neg (by rw [h2]; decide), if_pos]
  · omega
  · rcases hk with rfl | rfl
    · exact Or.inl hx
    · exact Or.inr hx
theorem owFl2 {k x g : Int} (h9 : M 63 9 = k) (h10 : M 63 10 = x) (hk : 1 ≤ k) (hx : 0 ≤ x ∧ x < 10000) (e : g = 10000 * k + x) : g ≠ 0 ∧ FlY M g := by
  rw [e]
  exact ⟨by omega, FlY.mk h9 h10 hk hx⟩
end RSS
theorem f_186 {xs : Nat → Int} {Ln d : Nat} {T : List cK} {M : cM} (hT : TT T) (hI : Rng M) {b kind k : Int} (p0 : 0 ≤ b ∧ b ≤ 1) (p1 : 0 ≤ k ∧ k ≤ 7) : cC k_P xs Ln (d + 0) 186 [rf 63, (0, b), (0, kind), (0, k)] (T, M) (qF T M 1 (fun v => v = (if kind = 0 then M 83 (8 * b + k).toNat else M 84 (8 * b + k).toNat))) := by
  show cP k_P xs Ln (d + 0) 186 0 [(0, rf 63), (1, (0, b)), (2, (0, kind)), (3, (0, k))] [] (T, M) _
  refine s_iload_n kx_186_0 rfl ?_
  refine s_if_ne (t := 18) kx_186_1 (by decide) (fun hc1 => ?_) (fun hc1 => ?_)
  · refine s_aload_n kx_186_18 rfl ?_
    refine r_getR (k := 63) (f := 34) (k2 := 84) kx_186_19 kp_186_115 (tk_63 hT) kf_12_34 (by decide) (rq_63_34 hI) ?_
    refine s_bipush (v := 8) kx_186_22 (by decide) ?_
    refine s_iload_n kx_186_24 rfl ?_
    refine r_mul kx_186_25 ⟨by omega, by omega⟩ ?_
    refine s_iload_n kx_186_26 rfl ?_
    refine r_add kx_186_27 ⟨by omega, by omega⟩ ?_
    refine r_laldU (k := 84) kx_186_28 (tk_84 hT) ⟨by omega, by omega⟩ (fun v2 v2e => ?_)
    exact s_lret kx_186_29 kq_186 ⟨_, rfl, rfl, (by first | (rw [if_pos (by omega)]; exact v2e.symm) | (rw [if_neg (by omega)]; exact v2e.symm))⟩
  · refine s_aload_n kx_186_4 rfl ?_
    refine r_getR (k := 63) (f := 33) (k2 := 83) kx_186_5 kp_186_111 (tk_63 hT) kf_12_33 (by decide) (rq_63_33 hI) ?_
    refine s_bipush (v := 8) kx_186_8 (by decide) ?_
    refine s_iload_n kx_186_10 rfl ?_
    refine r_mul kx_186_11 ⟨by omega, by omega⟩ ?_
    refine s_iload_n kx_186_12 rfl ?_
    refine r_add kx_186_13 ⟨by omega, by omega⟩ ?_
    refine r_laldU (k := 83) kx_186_14 (tk_83 hT) ⟨by omega, by omega⟩ (fun v3 v3e => ?_)
    refine s_goto (t := 29) kx_186_15 (by decide) ?_
    exact s_lret kx_186_29 kq_186 ⟨_, rfl, rfl, (by first | (rw [if_pos (by omega)]; exact v3e.symm) | (rw [if_neg (by omega)]; exact v3e.symm))⟩
theorem f_187 {xs : Nat → Int} {Ln d : Nat} {T : List cK} {M : cM} (hT : TT T) (hI : Rng M) {kind w : Int} {D : cM} (hR : RSD M D) {x5 : Int} (hN : N58 x5 w) (p0 : 0 ≤ kind ∧ kind ≤ 1) (p1 : (-9223372036854775808) ≤ w ∧ w ≤ 9223372036854775807) : cC k_P xs Ln (d + 1) 187 [rf 63, (0, kind), (1, w)] (T, M) (qF T M 0 (fun v => (-1) ≤ v ∧ v ≤ 7 ∧ (v = owIx (yNm D kind) x5 (yCt D kind).toNat))) := by
  show cP k_P xs Ln (d + 1) 187 0 [(0, rf 63), (1, (0, kind)), (2, (1, w))] [] (T, M) _
  have h36 := rg_63_36 hI
  have hr65 := hR.1
  have hr69 := hR.2.1
  refine s_iconst (v := 0) kx_187_0 (by decide) ?_
  refine s_istore kx_187_1 km_187_4 rfl ?_
  have key2 : ∀ n3 : Nat, ∀ (x4_1 : Int), (0 ≤ x4_1) → (x4_1 ≤ 8) → (owIF (yNm D kind) x5 (yCt D kind - x4_1).toNat (x4_1).toNat = owIx (yNm D kind) x5 (yCt D kind).toNat) → (2147483647 - x4_1).toNat < n3 → cP k_P xs Ln (d + 1) 187 3 [(0, rf 63), (1, (0, kind)), (2, (1, w)), (4, (0, x4_1))] [] (T, M) (qF T M 0 (fun v => (-1) ≤ v ∧ v ≤ 7 ∧ (v = owIx (yNm D kind) x5 (yCt D kind).toNat))) := by
    intro n3
    induction n3 with
    | zero => intro x4_1 i4 i5 i6 hm7; exact absurd hm7 (Nat.not_lt_zero _)
    | succ n3 ih8 =>
      intro x4_1 i4 i5 i6 hm7
      refine s_iload kx_187_3 rfl ?_
      refine s_aload_n kx_187_5 rfl ?_
      refine s_aload_n kx_187_6 rfl ?_
      refine r_getI (k := 63) (f := 36) kx_187_7 kp_187_121 (tk_63 hT) kf_12_36 (fun _ => rfl) (rg_63_36 hI) (fun v9 v9e v9a v9b => ?_)
      refine s_iload_n kx_187_10 rfl ?_
      refine s_callV2 (k := 63) (s1 := 3) (s2 := 1) (as := [(0, kind), (0, v9)]) (rest := [(0, x4_1)]) kx_187_11 kp_187_337 (Or.inl rfl) rfl (tk_63 hT) ki_185 kcl_185 rfl rfl (by decide) (m_185 (d := d) (b := v9) (kind := kind) hT hI (by omega)) (kF (fun v10 v10p => ?_))
      rw [← v9e] at v10p
      refine s_icmp_ge (t := 42) kx_187_14 (by decide) (fun hc11 => ?_) (fun hc11 => ?_)
      · refine s_iconst (v := (-1)) kx_187_42 (by decide) ?_
        exact s_iret kx_187_43 (Or.inl kq_187) ⟨_, rfl, rfl, ⟨by omega, by omega, (owIF_none i6 (by unfold yCt; split <;> omega))⟩⟩
      · refine s_aload_n kx_187_17 rfl ?_
        refine s_aload_n kx_187_18 rfl ?_
        refine r_getK (k := 63) (f := 36) kx_187_19 kp_187_121 (tk_63 hT) kf_12_36 (fun _ => rfl) v9e ?_
        refine s_iload_n kx_187_22 rfl ?_
        refine s_iload kx_187_23 rfl ?_
        refine s_callV2 (k := 63) (s1 := 4) (s2 := 0) (as := [(0, x4_1), (0, kind), (0, v9)]) (rest := []) kx_187_25 kp_187_341 (Or.inl rfl) rfl (tk_63 hT) ki_186 kcl_186 rfl rfl (by decide) (f_186 (d := d) (b := v9) (kind := kind) (k := x4_1) hT hI (by omega) (by omega)) (kF (fun v12 v12p => ?_))
        refine s_lload_n kx_187_28 rfl ?_
        have hN2 := hR.nm (k := kind) (j := x4_1) (by omega) (by unfold yCt; split <;> omega)
        rw [v9e, ← v12p] at hN2
        have hr2 := hN2.rng
        have hr1 := hN.rng
        have hi2 := hN2.iff hN
        refine r_lcmpE kx_187_29 ⟨by omega, by omega⟩ ⟨by omega, by omega⟩ (fun v13 v13p => ?_)
        refine s_if_ne (t := 36) kx_187_30 (by decide) (fun hc14 => ?_) (fun hc14 => ?_)
        · refine r_iinc kx_187_36 rfl km_187_4 (by decide) ⟨by omega, by omega⟩ rfl ?_
          refine s_goto (t := 3) kx_187_39 (by decide) ?_
          exact cP.wk (lS1 rfl (lS1 rfl (lS1 rfl (lS1 rfl lS0)))) (ih8 (x4_1 + 1) (by omega) (by omega) (owIF_next i6 (by omega) (by unfold yCt; split <;> omega) (fun e => by have := hi2.mp e; omega)) (by omega))
        · refine s_iload kx_187_33 rfl ?_
          exact s_iret kx_187_35 (Or.inl kq_187) ⟨_, rfl, rfl, ⟨by omega, by omega, (owIF_found i6 (by omega) (by unfold yCt; split <;> omega) (hi2.mpr (by omega)))⟩⟩
  exact cP.wk (lS1 rfl (lS1 rfl (lS1 rfl (lS1 rfl lS0)))) (key2 _ 0 (by omega) (by omega) (by rw [Int.sub_zero]; rfl) (Nat.lt_succ_self _))
def gS_202_m : List (Nat × Nat) := [(63, 10), (63, 9)]
theorem f_202 {xs : Nat → Int} {Ln d : Nat} {T : List cK} {M : cM} (hT : TT T) (hI : Rng M) {kind : Int} {s : Nat → Int} {n f q : Int} (hY : Yst M s n f q) (hn : n ≤ 1600) {D : cM} (hR : RSD M D) (p0 : 0 ≤ kind ∧ kind ≤ 1) : cC k_P xs Ln (d + 2) 202 [rf 63, (0, kind)] (T, M) (qW T M gS_202_m 0 (fun v M1 => 0 ≤ v ∧ v ≤ 7 ∧ (M 63 9 ≤ M1 63 9 ∧ (1 ≤ M1 63 9 ∨ M1 63 3 = 1) ∧ Yst M1 s n (yKr s n D f q kind) q ∧ (yKr s n D f q kind = 0 → v = yIx s n D q kind ∧ v < yCt D kind ∧ owK s n q = 2)))) := by
  show cP k_P xs Ln (d + 2) 202 0 [(0, rf 63), (1, (0, kind))] [] (T, M) _
  have hFm : Fr gS_202_m M M := Fr.refl
  have h639 := rg_63_9 hI
  have hr36 := rg_63_36 hI
  have hq65 := hR.1
  have hq69 := hR.2.1
  have hq650 := rg_65 (f := (M 63 36).toNat) hI
  have hq690 := rg_69 (f := (M 63 36).toNat) hI
  refine s_aload_n kx_202_0 rfl ?_
  refine s_callV2 (k := 63) (s1 := 1) (s2 := 0) (as := []) (rest := []) kx_202_1 kp_202_280 (Or.inl rfl) rfl (tk_63 hT) ki_179 kcl_179 rfl rfl (by decide) (f_179 (d := d) hT hI hY hn) (kV (fun M2 hI2 fr2 v1p => ?_))
  have hFm2 := hFm.call fr2 rfl
  have tr3 := (fr2 63 3 rfl)
  have tr4 := (fr2 63 4 rfl)
  have tr5 := (fr2 63 5 rfl)
  have tr6 := (fr2 63 6 rfl)
  have tr7 := rg_63_9 hI2
  refine s_aload_n kx_202_4 rfl ?_
  refine r_getI (k := 63) (f := 9) kx_202_5 kp_202_39 (tk_63 hT) kf_12_9 (fun _ => rfl) (rg_63_9 hI2) (fun v8 v8e v8a v8b => ?_)
  refine s_if_le (t := 13) kx_202_8 (by decide) (fun hc9 => ?_) (fun hc9 => ?_)
  · have hz10 := Yst.zero v1p.1 (by omega)
    have hz10k := yLx_0 hz10.1 hz10.2.2.2.1
    have hz10b := hz10.2.b hn
    have hz10n := hz10.2.2.1
    have hz10p := hz10.2.2.2.1
    have hz10q := hz10.2.2.2.2.1
    have hkk11 := hz10.2.kinds
    have hown := hz10.2.own
    have hwr9 := hz10.2.wrng
    refine s_aload_n kx_202_13 rfl ?_
    refine r_getI (k := 63) (f := 3) kx_202_14 kp_202_20 (tk_63 hT) kf_12_3 (fun _ => rfl) (rg_63_3 hI2) (fun v12 v12e v12a v12b => ?_)
    have v12z : M 63 3 = v12 := ((fr2 63 3 rfl)).symm.trans v12e
    refine s_iconst (v := 1) kx_202_17 (by decide) ?_
    refine s_icmp_ne (t := 32) kx_202_18 (by decide) (fun hc13 => ?_) (fun hc13 => ?_)
    · refine s_aload_n kx_202_32 rfl ?_
      refine s_iconst (v := 1) kx_202_33 (by decide) ?_
      refine s_aload_n kx_202_34 rfl ?_
      refine r_getI (k := 63) (f := 4) kx_202_35 kp_202_23 (tk_63 hT) kf_12_4 (fun _ => rfl) (rg_63_4 hI2) (fun v14 v14e v14a v14b => ?_)
      have v14z : M 63 4 = v14 := ((fr2 63 4 rfl)).symm.trans v14e
      refine s_callV2 (k := 63) (s1 := 3) (s2 := 0) (as := [(0, v14), (0, 1)]) (rest := []) kx_202_38 kp_202_263 (Or.inl rfl) rfl (tk_63 hT) ki_176 kcl_176 rfl rfl (by decide) (f_176 (d := d + 1) (kind := 1) (place := v14) hT hI2 (by omega)) (kV (fun M16 hI16 fr16 v15p => ?_))
      have hFm16 := hFm2.call fr16 rfl
      have tr17 := (fr16 63 3 rfl)
      have tr18 := (fr16 63 4 rfl)
      have tr19 := (fr16 63 5 rfl)
      have tr20 := (fr16 63 6 rfl)
      have tr21 := rg_63_9 hI16
      refine s_aload_n kx_202_41 rfl ?_
      refine r_getI (k := 63) (f := 9) kx_202_42 kp_202_39 (tk_63 hT) kf_12_9 (fun _ => rfl) (rg_63_9 hI16) (fun v22 v22e v22a v22b => ?_)
      refine s_if_le (t := 52) kx_202_45 (by decide) (fun hc23 => ?_) (fun hc23 => ?_)
      · exact absurd h639 (by omega)
      · refine s_iconst (v := 0) kx_202_48 (by decide) ?_
        refine s_goto (t := 61) kx_202_49 (by decide) ?_
        refine s_istore_n kx_202_61 km_202_2 rfl ?_
        refine s_aload_n kx_202_62 rfl ?_
        refine r_getK (k := 63) (f := 9) kx_202_63 kp_202_39 (tk_63 hT) kf_12_9 (fun _ => rfl) v22e ?_
        refine s_if_ne (t := 83) kx_202_66 (by decide) (fun hc24 => ?_) (fun hc24 => absurd hc24 (by omega))
        refine s_aload_n kx_202_83 rfl ?_
        refine r_getK (k := 63) (f := 9) kx_202_84 kp_202_39 (tk_63 hT) kf_12_9 (fun _ => rfl) v22e ?_
        refine s_if_le (t := 94) kx_202_87 (by decide) (fun hc25 => absurd hc25 (by omega)) (fun hc25 => ?_)
        refine s_iconst (v := 0) kx_202_90 (by decide) ?_
        refine s_goto (t := 95) kx_202_91 (by decide) ?_
        have hk26 : M16 63 3 = v12 := ((fr16 63 3 rfl).trans v12e)
        have hk27 : M16 63 4 = v14 := ((fr16 63 4 rfl).trans v14e)
        have hk28 : M16 63 9 = v22 := v22e
        exact s_iret kx_202_95 (Or.inl kq_202) ⟨_, _, rfl, rfl, hI16, hFm16, ⟨by omega, by omega, by omega, by omega, (yst_bl (k := 1) (x := owB s n q) (by omega) (by omega) (by decide) (by omega) (by unfold yKr yKf owU; (repeat' split) <;> omega)), fun g => by exfalso; unfold yKr yKf owU at g; (repeat' split at g) <;> omega⟩⟩
    · refine s_aload_n kx_202_21 rfl ?_
      refine s_aload_n kx_202_22 rfl ?_
      refine r_getU (k := 63) (f := 7) kx_202_23 kp_202_32 (tk_63 hT) kf_12_7 (fun _ => rfl) (fun v29 v29e => ?_)
      have v29z : M 63 7 = v29 := ((fr2 63 7 rfl)).symm.trans v29e
      have hk12 : owK s n q = 1 ∨ owK s n q = 2 := by omega
      have hwr8 := hwr9 hk12
      refine s_callV2 (k := 63) (s1 := 3) (s2 := 0) (as := [(1, v29)]) (rest := []) kx_202_26 kp_202_276 (Or.inl rfl) rfl (tk_63 hT) ki_184 kcl_184 rfl rfl (by decide) (f_184 (d := d + 1) (w := v29) hT hI2 (by omega)) (kF (fun v30 v30p => ?_))
      refine s_if_eq (t := 41) kx_202_29 (by decide) (fun hc31 => ?_) (fun hc31 => ?_)
      · replace v30p := v30p.resolve_left (by omega)
        have hk2 : owK s n q = 2 := hk12.elim (fun z => absurd (show isO8 v29 by rw [show v29 = M2 63 7 by omega]; exact (hown hk12).mpr z) v30p.2) id
        refine s_aload_n kx_202_41 rfl ?_
        refine r_getK (k := 63) (f := 9) kx_202_42 kp_202_39 (tk_63 hT) kf_12_9 (fun _ => rfl) v8e ?_
        refine s_if_le (t := 52) kx_202_45 (by decide) (fun hc32 => ?_) (fun hc32 => absurd hc32 (by omega))
        refine s_aload_n kx_202_52 rfl ?_
        refine s_iload_n kx_202_53 rfl ?_
        refine s_aload_n kx_202_54 rfl ?_
        refine r_getK (k := 63) (f := 7) kx_202_55 kp_202_32 (tk_63 hT) kf_12_7 (fun _ => rfl) v29e ?_
        refine s_callV2 (k := 63) (s1 := 4) (s2 := 0) (as := [(1, v29), (0, kind)]) (rest := []) kx_202_58 kp_202_379 (Or.inl rfl) rfl (tk_63 hT) ki_187 kcl_187 rfl rfl (by decide) (f_187 (d := d) (kind := kind) (w := v29) hT hI2 (RSD.fr hR fr2 rfl) (show N58 (owV s n q) v29 by rw [← v29e]; exact hz10.2.wn hk2) (by omega) (by omega)) (kF (fun v33 v33p => ?_))
        have hix : v33 = yIx s n D q kind := v33p.2.2
        have hir := owIx_rng (yNm D kind) (owV s n q) (yCt D kind).toNat
        have hct : 0 ≤ yCt D kind := by unfold yCt; split <;> omega
        have hixe : yIx s n D q kind = owIx (yNm D kind) (owV s n q) (yCt D kind).toNat := rfl
        refine s_istore_n kx_202_61 km_202_2 rfl ?_
        refine s_aload_n kx_202_62 rfl ?_
        refine r_getK (k := 63) (f := 9) kx_202_63 kp_202_39 (tk_63 hT) kf_12_9 (fun _ => rfl) v8e ?_
        refine s_if_ne (t := 83) kx_202_66 (by decide) (fun hc34 => absurd hc34 (by omega)) (fun hc34 => ?_)
        refine s_iload_n kx_202_69 rfl ?_
        refine s_iconst (v := (-1)) kx_202_70 (by decide) ?_
        refine s_icmp_ne (t := 83) kx_202_71 (by decide) (fun hc35 => ?_) (fun hc35 => ?_)
        · refine s_aload_n kx_202_83 rfl ?_
          refine r_getK (k := 63) (f := 9) kx_202_84 kp_202_39 (tk_63 hT) kf_12_9 (fun _ => rfl) v8e ?_
          refine s_if_le (t := 94) kx_202_87 (by decide) (fun hc36 => ?_) (fun hc36 => absurd hc36 (by omega))
          refine s_iload_n kx_202_94 rfl ?_
          have hk37 : M2 63 3 = v12 := v12e
          have hk38 : M2 63 9 = v8 := v8e
          exact s_iret kx_202_95 (Or.inl kq_202) ⟨_, _, rfl, rfl, hI2, hFm2, ⟨by omega, by omega, by omega, by omega, (Or.inr ⟨by unfold yKr yKf; (repeat' split) <;> omega, by omega, hz10.2⟩), fun _ => ⟨hix, by omega, hk2⟩⟩⟩
        · refine s_aload_n kx_202_74 rfl ?_
          refine s_iconst (v := 3) kx_202_75 (by decide) ?_
          refine s_aload_n kx_202_76 rfl ?_
          refine r_getI (k := 63) (f := 4) kx_202_77 kp_202_23 (tk_63 hT) kf_12_4 (fun _ => rfl) (rg_63_4 hI2) (fun v39 v39e v39a v39b => ?_)
          have v39z : M 63 4 = v39 := ((fr2 63 4 rfl)).symm.trans v39e
          refine s_callV2 (k := 63) (s1 := 3) (s2 := 0) (as := [(0, v39), (0, 3)]) (rest := []) kx_202_80 kp_202_263 (Or.inl rfl) rfl (tk_63 hT) ki_176 kcl_176 rfl rfl (by decide) (f_176 (d := d + 1) (kind := 3) (place := v39) hT hI2 (by omega)) (kV (fun M41 hI41 fr41 v40p => ?_))
          have hFm41 := hFm2.call fr41 rfl
          have tr42 := (fr41 63 3 rfl)
          have tr43 := (fr41 63 4 rfl)
          have tr44 := (fr41 63 5 rfl)
          have tr45 := (fr41 63 6 rfl)
          have tr46 := rg_63_9 hI41
          refine s_aload_n kx_202_83 rfl ?_
          refine r_getI (k := 63) (f := 9) kx_202_84 kp_202_39 (tk_63 hT) kf_12_9 (fun _ => rfl) (rg_63_9 hI41) (fun v47 v47e v47a v47b => ?_)
          refine s_if_le (t := 94) kx_202_87 (by decide) (fun hc48 => ?_) (fun hc48 => ?_)
          · exact absurd h639 (by omega)
          · refine s_iconst (v := 0) kx_202_90 (by decide) ?_
            refine s_goto (t := 95) kx_202_91 (by decide) ?_
            have hk49 : M41 63 3 = v12 := ((fr41 63 3 rfl).trans v12e)
            have hk50 : M41 63 4 = v39 := ((fr41 63 4 rfl).trans v39e)
            have hk51 : M41 63 9 = v47 := v47e
            exact s_iret kx_202_95 (Or.inl kq_202) ⟨_, _, rfl, rfl, hI41, hFm41, ⟨by omega, by omega, by omega, by omega, (yst_bl (k := 3) (x := owB s n q) (by omega) (by omega) (by decide) (by omega) (by unfold yKr yKf owU; (repeat' split) <;> omega)), fun g => by exfalso; unfold yKr yKf owU at g; (repeat' split at g) <;> omega⟩⟩
      · replace v30p := v30p.resolve_right (by omega)
        have hk1 : owK s n q = 1 := (hown hk12).mp (by rw [show M2 63 7 = v29 by omega]; exact v30p.2)
        refine s_aload_n kx_202_32 rfl ?_
        refine s_iconst (v := 1) kx_202_33 (by decide) ?_
        refine s_aload_n kx_202_34 rfl ?_
        refine r_getI (k := 63) (f := 4) kx_202_35 kp_202_23 (tk_63 hT) kf_12_4 (fun _ => rfl) (rg_63_4 hI2) (fun v52 v52e v52a v52b => ?_)
        have v52z : M 63 4 = v52 := ((fr2 63 4 rfl)).symm.trans v52e
        refine s_callV2 (k := 63) (s1 := 3) (s2 := 0) (as := [(0, v52), (0, 1)]) (rest := []) kx_202_38 kp_202_263 (Or.inl rfl) rfl (tk_63 hT) ki_176 kcl_176 rfl rfl (by decide) (f_176 (d := d + 1) (kind := 1) (place := v52) hT hI2 (by omega)) (kV (fun M54 hI54 fr54 v53p => ?_))
        have hFm54 := hFm2.call fr54 rfl
        have tr55 := (fr54 63 3 rfl)
        have tr56 := (fr54 63 4 rfl)
        have tr57 := (fr54 63 5 rfl)
        have tr58 := (fr54 63 6 rfl)
        have tr59 := rg_63_9 hI54
        refine s_aload_n kx_202_41 rfl ?_
        refine r_getI (k := 63) (f := 9) kx_202_42 kp_202_39 (tk_63 hT) kf_12_9 (fun _ => rfl) (rg_63_9 hI54) (fun v60 v60e v60a v60b => ?_)
        refine s_if_le (t := 52) kx_202_45 (by decide) (fun hc61 => ?_) (fun hc61 => ?_)
        · exact absurd h639 (by omega)
        · refine s_iconst (v := 0) kx_202_48 (by decide) ?_
          refine s_goto (t := 61) kx_202_49 (by decide) ?_
          refine s_istore_n kx_202_61 km_202_2 rfl ?_
          refine s_aload_n kx_202_62 rfl ?_
          refine r_getK (k := 63) (f := 9) kx_202_63 kp_202_39 (tk_63 hT) kf_12_9 (fun _ => rfl) v60e ?_
          refine s_if_ne (t := 83) kx_202_66 (by decide) (fun hc62 => ?_) (fun hc62 => absurd hc62 (by omega))
          refine s_aload_n kx_202_83 rfl ?_
          refine r_getK (k := 63) (f := 9) kx_202_84 kp_202_39 (tk_63 hT) kf_12_9 (fun _ => rfl) v60e ?_
          refine s_if_le (t := 94) kx_202_87 (by decide) (fun hc63 => absurd hc63 (by omega)) (fun hc63 => ?_)
          refine s_iconst (v := 0) kx_202_90 (by decide) ?_
          refine s_goto (t := 95) kx_202_91 (by decide) ?_
          have hk64 : M54 63 3 = v12 := ((fr54 63 3 rfl).trans v12e)
          have hk65 : M54 63 4 = v52 := ((fr54 63 4 rfl).trans v52e)
          have hk66 : M54 63 9 = v60 := v60e
          exact s_iret kx_202_95 (Or.inl kq_202) ⟨_, _, rfl, rfl, hI54, hFm54, ⟨by omega, by omega, by omega, by omega, (yst_bl (k := 1) (x := owB s n q) (by omega) (by omega) (by decide) (by omega) (by unfold yKr yKf owU; (repeat' split) <;> omega)), fun g => by exfalso; unfold yKr yKf owU at g; (repeat' split at g) <;> omega⟩⟩
  · have hz67 := Yst.pos v1p.1 (by omega)
    refine s_iconst (v := 0) kx_202_11 (by decide) ?_
    have hk68 : M2 63 9 = v8 := v8e
    exact s_iret kx_202_12 (Or.inl kq_202) ⟨_, _, rfl, rfl, hI2, hFm2, ⟨by omega, by omega, by omega, by omega, (yst_is (yLx_kr hz67.1) v1p.1 hz67.1), fun g => absurd (yLx_kr hz67.1 ▸ g) hz67.1⟩⟩
def gS_201_l43 : List (Nat × Nat) := [(63, 10), (63, 9)]
def gS_201_m : List (Nat × Nat) := [(63, 10), (63, 13), (63, 3), (63, 4), (63, 5), (63, 6), (63, 7), (63, 8), (63, 9)]
theorem f_201 {xs : Nat → Int} {Ln d : Nat} {T : List cK} {M : cM} (hT : TT T) (hI : Rng M) (hX : LXp M) {s : Nat → Int} {n f q : Int} (hY : Yst M s n f q) (hn : n ≤ 1600) {D : cM} (hR : RSD M D) : cC k_P xs Ln (d + 2) 201 [rf 63] (T, M) (qW T M gS_201_m 1 (fun v M1 => LXp M1 ∧ M 63 4 ≤ M1 63 4 ∧ M 63 9 ≤ M1 63 9 ∧ (PRd M M1) ∧ (Yst M1 s n (yFr s n D f q) (owE s n q) ∧ (yFr s n D f q = 0 → N58 (owV s n q) v)))) := by
  show cP k_P xs Ln (d + 2) 201 0 [(0, rf 63)] [] (T, M) _
  have hFm : Fr gS_201_m M M := Fr.refl
  have h639 := rg_63_9 hI
  have ⟨lx1, lx2⟩ := hX
  have hr36 := rg_63_36 hI
  have hq65 := hR.1
  have hq69 := hR.2.1
  have hq650 := rg_65 (f := (M 63 36).toNat) hI
  have hq690 := rg_69 (f := (M 63 36).toNat) hI
  refine s_aload_n kx_201_0 rfl ?_
  refine s_callV2 (k := 63) (s1 := 1) (s2 := 0) (as := []) (rest := []) kx_201_1 kp_201_280 (Or.inl rfl) rfl (tk_63 hT) ki_179 kcl_179 rfl rfl (by decide) (f_179 (d := d) hT hI hY hn) (kV (fun M2 hI2 fr2 v1p => ?_))
  have hFm2 := hFm.call fr2 rfl
  have tr3 := (fr2 63 3 rfl)
  have tr4 := (fr2 63 4 rfl)
  have tr5 := (fr2 63 5 rfl)
  have tr6 := (fr2 63 6 rfl)
  have tr7 := rg_63_9 hI2
  refine s_aload_n kx_201_4 rfl ?_
  refine r_getI (k := 63) (f := 9) kx_201_5 kp_201_39 (tk_63 hT) kf_12_9 (fun _ => rfl) (rg_63_9 hI2) (fun v8 v8e v8a v8b => ?_)
  refine s_if_le (t := 13) kx_201_8 (by decide) (fun hc9 => ?_) (fun hc9 => ?_)
  · have hz10 := Yst.zero v1p.1 (by omega)
    have hz10k := yLx_0 hz10.1 hz10.2.2.2.1
    have hz10b := hz10.2.b hn
    have hz10n := hz10.2.2.1
    have hz10p := hz10.2.2.2.1
    have hz10q := hz10.2.2.2.2.1
    have hkk11 := hz10.2.kinds
    have hown := hz10.2.own
    have hwr9 := hz10.2.wrng
    refine s_aload_n kx_201_13 rfl ?_
    refine r_getI (k := 63) (f := 3) kx_201_14 kp_201_20 (tk_63 hT) kf_12_3 (fun _ => rfl) (rg_63_3 hI2) (fun v12 v12e v12a v12b => ?_)
    have v12z : M 63 3 = v12 := ((fr2 63 3 rfl)).symm.trans v12e
    refine s_iconst (v := 1) kx_201_17 (by decide) ?_
    refine s_icmp_ne (t := 32) kx_201_18 (by decide) (fun hc13 => ?_) (fun hc13 => ?_)
    · refine s_aload_n kx_201_32 rfl ?_
      refine s_iconst (v := 1) kx_201_33 (by decide) ?_
      refine s_aload_n kx_201_34 rfl ?_
      refine r_getI (k := 63) (f := 4) kx_201_35 kp_201_23 (tk_63 hT) kf_12_4 (fun _ => rfl) (rg_63_4 hI2) (fun v14 v14e v14a v14b => ?_)
      have v14z : M 63 4 = v14 := ((fr2 63 4 rfl)).symm.trans v14e
      refine s_callV2 (k := 63) (s1 := 3) (s2 := 0) (as := [(0, v14), (0, 1)]) (rest := []) kx_201_38 kp_201_263 (Or.inl rfl) rfl (tk_63 hT) ki_176 kcl_176 rfl rfl (by decide) (f_176 (d := d + 1) (kind := 1) (place := v14) hT hI2 (by omega)) (kV (fun M16 hI16 fr16 v15p => ?_))
      have hFm16 := hFm2.call fr16 rfl
      have tr17 := (fr16 63 3 rfl)
      have tr18 := (fr16 63 4 rfl)
      have tr19 := (fr16 63 5 rfl)
      have tr20 := (fr16 63 6 rfl)
      have tr21 := rg_63_9 hI16
      refine s_iconst (v := 0) kx_201_41 (by decide) ?_
      refine s_istore_n kx_201_42 km_201_1 rfl ?_
      have key24 : ∀ n25 : Nat, ∀ (x1_22 : Int), ∀ M23 : cM, Rng M23 → Fr gS_201_m M M23 → Fr gS_201_l43 M16 M23 → (0 ≤ x1_22) → (x1_22 ≤ 2) → ((1 ≤ M23 63 9 ∨ M23 63 3 = 1)) → (M 63 9 ≤ M23 63 9) → (FrI M23 s n D q x1_22) → (2147483647 - x1_22).toNat < n25 → cP k_P xs Ln (d + 2) 201 43 [(0, rf 63), (1, (0, x1_22))] [] (T, M23) (qW T M gS_201_m 1 (fun v M1 => LXp M1 ∧ M 63 4 ≤ M1 63 4 ∧ M 63 9 ≤ M1 63 9 ∧ (PRd M M1) ∧ (Yst M1 s n (yFr s n D f q) (owE s n q) ∧ (yFr s n D f q = 0 → N58 (owV s n q) v)))) := by
        intro n25
        induction n25 with
        | zero => intro x1_22 M23 hI23 hFm23 fl23 i26 i27 i28 i29 i30 hm31; exact absurd hm31 (Nat.not_lt_zero _)
        | succ n25 ih32 =>
          intro x1_22 M23 hI23 hFm23 fl23 i26 i27 i28 i29 i30 hm31
          have tr33 := fl23 63 3 rfl
          have tr34 := fl23 63 4 rfl
          have tr35 := fl23 63 5 rfl
          have tr36 := rg_63_9 hI23
          refine s_iload_n kx_201_43 rfl ?_
          refine s_iconst (v := 1) kx_201_44 (by decide) ?_
          refine s_icmp_gt (t := 83) kx_201_45 (by decide) (fun hc37 => ?_) (fun hc37 => ?_)
          · have h738 : M23 63 7 = M 63 7 := ((fl23 63 7 rfl).trans ((fr16 63 7 rfl).trans (fr2 63 7 rfl)))
            refine s_aload_n kx_201_83 rfl ?_
            refine r_getU (k := 63) (f := 7) kx_201_84 kp_201_32 (tk_63 hT) kf_12_7 (fun _ => rfl) (fun v39 v39e => ?_)
            have v39z : M 63 7 = v39 := (((fl23 63 7 rfl).trans ((fr16 63 7 rfl).trans (fr2 63 7 rfl)))).symm.trans v39e
            refine s_lstore_n kx_201_87 km_201_2 rfl ?_
            refine s_aload_n kx_201_88 rfl ?_
            refine r_getI (k := 63) (f := 9) kx_201_89 kp_201_39 (tk_63 hT) kf_12_9 (fun _ => rfl) (rg_63_9 hI23) (fun v40 v40e v40a v40b => ?_)
            refine s_if_ne (t := 99) kx_201_92 (by decide) (fun hc41 => ?_) (fun hc41 => ?_)
            · refine s_lload_n kx_201_99 rfl ?_
              have hk42 : M23 63 3 = v12 := ((fl23 63 3 rfl).trans ((fr16 63 3 rfl).trans v12e))
              have hk43 : M23 63 4 = v14 := ((fl23 63 4 rfl).trans ((fr16 63 4 rfl).trans v14e))
              have hk44 : M23 63 9 = v40 := v40e
              exact s_lret kx_201_100 kq_201 ⟨_, _, rfl, rfl, hI23, hFm23, ⟨(LXp.fr (LXp.fr (LXp.fr hX fr2 rfl) fr16 rfl) fl23 rfl), by omega, by omega, by unfold PRd; omega, ⟨(by unfold yFr; rw [if_neg (by omega)]; exact Or.inl (FrI.pos i30 (by omega))), fun g => by unfold yFr at g; rw [if_neg (by omega)] at g; exact absurd g (FrI.pos i30 (by omega)).1⟩⟩⟩
            · refine s_aload_n kx_201_95 rfl ?_
              refine s_callV2 (k := 63) (s1 := 1) (s2 := 0) (as := []) (rest := []) kx_201_96 kp_201_286 (Or.inl rfl) rfl (tk_63 hT) ki_180 kcl_180 rfl rfl (by decide) (f_180 (d := d) hT hI23 (FrI.zero i30 (by omega)).1.1 (FrI.zero i30 (by omega)).1.2.1 (FrI.zero i30 (by omega)).1.2.2.2.2.2.1 (owE_i2 ⟨(FrI.zero i30 (by omega)).1.2.2.1, (FrI.zero i30 (by omega)).1.2.2.2.1⟩).1 (owE_i2 ⟨(FrI.zero i30 (by omega)).1.2.2.1, (FrI.zero i30 (by omega)).1.2.2.2.1⟩).2 (FrI.zero i30 (by omega)).1.2.2.2.2.2.2.2.2.2.2.2.2) (kV (fun M46 hI46 fr46 v45p => ?_))
              have hFm46 := hFm23.call fr46 rfl
              have tr47 := (fr46 63 9 rfl)
              have tr48 := (fr46 63 10 rfl)
              have tr49 := rg_63_9 hI46
              refine s_lload_n kx_201_99 rfl ?_
              have hk50 : M46 63 9 = v40 := ((fr46 63 9 rfl).trans v40e)
              exact s_lret kx_201_100 kq_201 ⟨_, _, rfl, rfl, hI46, hFm46, ⟨(show LXp M46 from v45p.2.2), by omega, by omega, by unfold PRd; omega, ⟨(Or.inr ⟨by unfold yFr; rw [if_neg (by omega)]; exact FrI.none i30 (by omega) (by omega), by omega, v45p.1⟩), fun _ => by rw [show v39 = M23 63 7 by omega]; exact (FrI.zero i30 (by omega)).1.wn (FrI.zero i30 (by omega)).2.1⟩⟩⟩
          · refine s_aload_n kx_201_48 rfl ?_
            refine r_getI (k := 63) (f := 9) kx_201_49 kp_201_39 (tk_63 hT) kf_12_9 (fun _ => rfl) (rg_63_9 hI23) (fun v51 v51e v51a v51b => ?_)
            refine s_if_ne (t := 83) kx_201_52 (by decide) (fun hc52 => ?_) (fun hc52 => ?_)
            · have h753 : M23 63 7 = M 63 7 := ((fl23 63 7 rfl).trans ((fr16 63 7 rfl).trans (fr2 63 7 rfl)))
              refine s_aload_n kx_201_83 rfl ?_
              refine r_getU (k := 63) (f := 7) kx_201_84 kp_201_32 (tk_63 hT) kf_12_7 (fun _ => rfl) (fun v54 v54e => ?_)
              have v54z : M 63 7 = v54 := (((fl23 63 7 rfl).trans ((fr16 63 7 rfl).trans (fr2 63 7 rfl)))).symm.trans v54e
              refine s_lstore_n kx_201_87 km_201_2 rfl ?_
              refine s_aload_n kx_201_88 rfl ?_
              refine r_getK (k := 63) (f := 9) kx_201_89 kp_201_39 (tk_63 hT) kf_12_9 (fun _ => rfl) v51e ?_
              refine s_if_ne (t := 99) kx_201_92 (by decide) (fun hc55 => ?_) (fun hc55 => absurd hc55 (by omega))
              refine s_lload_n kx_201_99 rfl ?_
              have hk56 : M23 63 3 = v12 := ((fl23 63 3 rfl).trans ((fr16 63 3 rfl).trans v12e))
              have hk57 : M23 63 4 = v14 := ((fl23 63 4 rfl).trans ((fr16 63 4 rfl).trans v14e))
              have hk58 : M23 63 9 = v51 := v51e
              exact s_lret kx_201_100 kq_201 ⟨_, _, rfl, rfl, hI23, hFm23, ⟨(LXp.fr (LXp.fr (LXp.fr hX fr2 rfl) fr16 rfl) fl23 rfl), by omega, by omega, by unfold PRd; omega, ⟨(by unfold yFr; rw [if_neg (by omega)]; exact Or.inl (FrI.pos i30 (by omega))), fun g => by unfold yFr at g; rw [if_neg (by omega)] at g; exact absurd g (FrI.pos i30 (by omega)).1⟩⟩⟩
            · have hz5 := FrI.zero i30 (by omega)
              have hk2 := hz5.2.1
              have hzr := hz5.2.2
              have hz5b := hz5.1.b hn
              have hz5p := hz5.1.2.2.1
              refine s_aload_n kx_201_55 rfl ?_
              refine s_iload_n kx_201_56 rfl ?_
              refine s_aload_n kx_201_57 rfl ?_
              refine r_getU (k := 63) (f := 7) kx_201_58 kp_201_32 (tk_63 hT) kf_12_7 (fun _ => rfl) (fun v59 v59e => ?_)
              have v59z : M 63 7 = v59 := (((fl23 63 7 rfl).trans ((fr16 63 7 rfl).trans (fr2 63 7 rfl)))).symm.trans v59e
              refine s_callV2 (k := 63) (s1 := 4) (s2 := 0) (as := [(1, v59), (0, x1_22)]) (rest := []) kx_201_61 kp_201_379 (Or.inl rfl) rfl (tk_63 hT) ki_187 kcl_187 rfl rfl (by decide) (f_187 (d := d) (kind := x1_22) (w := v59) hT hI23 (RSD.fr (RSD.fr (RSD.fr hR fr2 rfl) fr16 rfl) fl23 rfl) (show N58 (owV s n q) v59 by rw [← v59e]; exact hz5.1.wn hk2) (by omega) (by omega)) (kF (fun v60 v60p => ?_))
              have hix : v60 = yIx s n D q x1_22 := v60p.2.2
              refine s_iconst (v := (-1)) kx_201_64 (by decide) ?_
              refine s_icmp_eq (t := 77) kx_201_65 (by decide) (fun hc61 => ?_) (fun hc61 => ?_)
              · refine r_iinc kx_201_77 rfl km_201_1 (by decide) ⟨by omega, by omega⟩ rfl ?_
                refine s_goto (t := 43) kx_201_80 (by decide) ?_
                exact cP.wk (lS1 rfl (lS1 rfl lS0)) (ih32 (x1_22 + 1) M23 hI23 hFm23 fl23 (by omega) (by omega) (by omega) (by omega) (Or.inl (owFl2 (k := 2) (x := owB s n q) (by omega) (by omega) (by decide) (by omega) (owFr_2 (k := x1_22) hk2 (by omega) (by omega)))) (by omega))
              · refine s_aload_n kx_201_68 rfl ?_
                refine s_iconst (v := 2) kx_201_69 (by decide) ?_
                refine s_aload_n kx_201_70 rfl ?_
                refine r_getK (k := 63) (f := 4) kx_201_71 kp_201_23 (tk_63 hT) kf_12_4 (fun _ => rfl) ((fl23 63 4 rfl).trans ((fr16 63 4 rfl).trans v14e)) ?_
                refine s_callV2 (k := 63) (s1 := 3) (s2 := 0) (as := [(0, v14), (0, 2)]) (rest := []) kx_201_74 kp_201_263 (Or.inl rfl) rfl (tk_63 hT) ki_176 kcl_176 rfl rfl (by decide) (f_176 (d := d + 1) (kind := 2) (place := v14) hT hI23 (by omega)) (kV (fun M63 hI63 fr63 v62p => ?_))
                have hFm63 := hFm23.call fr63 rfl
                have hFl4363 := fl23.call fr63 rfl
                have tr64 := (fr63 63 3 rfl)
                have tr65 := (fr63 63 4 rfl)
                have tr66 := (fr63 63 5 rfl)
                have tr67 := (fr63 63 6 rfl)
                have tr68 := rg_63_9 hI63
                refine r_iinc kx_201_77 rfl km_201_1 (by decide) ⟨by omega, by omega⟩ rfl ?_
                refine s_goto (t := 43) kx_201_80 (by decide) ?_
                exact cP.wk (lS1 rfl (lS1 rfl lS0)) (ih32 (x1_22 + 1) M63 hI63 hFm63 hFl4363 (by omega) (by omega) (by omega) (by omega) (Or.inl (owFl2 (k := 2) (x := owB s n q) (by omega) (by omega) (by decide) (by omega) (owFr_2 (k := x1_22) hk2 (by omega) (by omega)))) (by omega))
      exact cP.wk (lS1 rfl (lS1 rfl lS0)) (key24 _ 0 M16 hI16 hFm16 Fr.refl (by omega) (by omega) (by omega) (by omega) (Or.inl (owFl2 (k := 1) (x := owB s n q) (by omega) (by omega) (by decide) (by omega) (show owFr s n D q = 10000 * 1 + owB s n q by unfold owFr owU; (repeat' split) <;> omega))) (Nat.lt_succ_self _))
    · refine s_aload_n kx_201_21 rfl ?_
      refine s_aload_n kx_201_22 rfl ?_
      refine r_getU (k := 63) (f := 7) kx_201_23 kp_201_32 (tk_63 hT) kf_12_7 (fun _ => rfl) (fun v69 v69e => ?_)
      have v69z : M 63 7 = v69 := ((fr2 63 7 rfl)).symm.trans v69e
      have hk12 : owK s n q = 1 ∨ owK s n q = 2 := by omega
      have hwr8 := hwr9 hk12
      refine s_callV2 (k := 63) (s1 := 3) (s2 := 0) (as := [(1, v69)]) (rest := []) kx_201_26 kp_201_276 (Or.inl rfl) rfl (tk_63 hT) ki_184 kcl_184 rfl rfl (by decide) (f_184 (d := d + 1) (w := v69) hT hI2 (by omega)) (kF (fun v70 v70p => ?_))
      refine s_if_eq (t := 41) kx_201_29 (by decide) (fun hc71 => ?_) (fun hc71 => ?_)
      · replace v70p := v70p.resolve_left (by omega)
        have hk2 : owK s n q = 2 := hk12.elim (fun z => absurd (show isO8 v69 by rw [show v69 = M2 63 7 by omega]; exact (hown hk12).mpr z) v70p.2) id
        refine s_iconst (v := 0) kx_201_41 (by decide) ?_
        refine s_istore_n kx_201_42 km_201_1 rfl ?_
        have key74 : ∀ n75 : Nat, ∀ (x1_72 : Int), ∀ M73 : cM, Rng M73 → Fr gS_201_m M M73 → Fr gS_201_l43 M2 M73 → (0 ≤ x1_72) → (x1_72 ≤ 2) → ((1 ≤ M73 63 9 ∨ M73 63 3 = 1)) → (M 63 9 ≤ M73 63 9) → (FrI M73 s n D q x1_72) → (2147483647 - x1_72).toNat < n75 → cP k_P xs Ln (d + 2) 201 43 [(0, rf 63), (1, (0, x1_72))] [] (T, M73) (qW T M gS_201_m 1 (fun v M1 => LXp M1 ∧ M 63 4 ≤ M1 63 4 ∧ M 63 9 ≤ M1 63 9 ∧ (PRd M M1) ∧ (Yst M1 s n (yFr s n D f q) (owE s n q) ∧ (yFr s n D f q = 0 → N58 (owV s n q) v)))) := by
          intro n75
          induction n75 with
          | zero => intro x1_72 M73 hI73 hFm73 fl73 i76 i77 i78 i79 i80 hm81; exact absurd hm81 (Nat.not_lt_zero _)
          | succ n75 ih82 =>
            intro x1_72 M73 hI73 hFm73 fl73 i76 i77 i78 i79 i80 hm81
            have tr83 := fl73 63 3 rfl
            have tr84 := fl73 63 4 rfl
            have tr85 := fl73 63 5 rfl
            have tr86 := rg_63_9 hI73
            refine s_iload_n kx_201_43 rfl ?_
            refine s_iconst (v := 1) kx_201_44 (by decide) ?_
            refine s_icmp_gt (t := 83) kx_201_45 (by decide) (fun hc87 => ?_) (fun hc87 => ?_)
            · have h788 : M73 63 7 = M 63 7 := ((fl73 63 7 rfl).trans (fr2 63 7 rfl))
              have hk89 : M73 63 7 = v69 := ((fl73 63 7 rfl).trans v69e)
              refine s_aload_n kx_201_83 rfl ?_
              refine r_getK (k := 63) (f := 7) kx_201_84 kp_201_32 (tk_63 hT) kf_12_7 (fun _ => rfl) ((fl73 63 7 rfl).trans v69e) ?_
              refine s_lstore_n kx_201_87 km_201_2 rfl ?_
              refine s_aload_n kx_201_88 rfl ?_
              refine r_getI (k := 63) (f := 9) kx_201_89 kp_201_39 (tk_63 hT) kf_12_9 (fun _ => rfl) (rg_63_9 hI73) (fun v90 v90e v90a v90b => ?_)
              refine s_if_ne (t := 99) kx_201_92 (by decide) (fun hc91 => ?_) (fun hc91 => ?_)
              · refine s_lload_n kx_201_99 rfl ?_
                have hk92 : M73 63 3 = v12 := ((fl73 63 3 rfl).trans v12e)
                have hk93 : M73 63 9 = v90 := v90e
                exact s_lret kx_201_100 kq_201 ⟨_, _, rfl, rfl, hI73, hFm73, ⟨(LXp.fr (LXp.fr hX fr2 rfl) fl73 rfl), by omega, by omega, by unfold PRd; omega, ⟨(by unfold yFr; rw [if_neg (by omega)]; exact Or.inl (FrI.pos i80 (by omega))), fun g => by unfold yFr at g; rw [if_neg (by omega)] at g; exact absurd g (FrI.pos i80 (by omega)).1⟩⟩⟩
              · refine s_aload_n kx_201_95 rfl ?_
                refine s_callV2 (k := 63) (s1 := 1) (s2 := 0) (as := []) (rest := []) kx_201_96 kp_201_286 (Or.inl rfl) rfl (tk_63 hT) ki_180 kcl_180 rfl rfl (by decide) (f_180 (d := d) hT hI73 (FrI.zero i80 (by omega)).1.1 (FrI.zero i80 (by omega)).1.2.1 (FrI.zero i80 (by omega)).1.2.2.2.2.2.1 (owE_i2 ⟨(FrI.zero i80 (by omega)).1.2.2.1, (FrI.zero i80 (by omega)).1.2.2.2.1⟩).1 (owE_i2 ⟨(FrI.zero i80 (by omega)).1.2.2.1, (FrI.zero i80 (by omega)).1.2.2.2.1⟩).2 (FrI.zero i80 (by omega)).1.2.2.2.2.2.2.2.2.2.2.2.2) (kV (fun M95 hI95 fr95 v94p => ?_))
                have hFm95 := hFm73.call fr95 rfl
                have tr96 := (fr95 63 9 rfl)
                have tr97 := (fr95 63 10 rfl)
                have tr98 := rg_63_9 hI95
                refine s_lload_n kx_201_99 rfl ?_
                have hk99 : M95 63 9 = v90 := ((fr95 63 9 rfl).trans v90e)
                exact s_lret kx_201_100 kq_201 ⟨_, _, rfl, rfl, hI95, hFm95, ⟨(show LXp M95 from v94p.2.2), by omega, by omega, by unfold PRd; omega, ⟨(Or.inr ⟨by unfold yFr; rw [if_neg (by omega)]; exact FrI.none i80 (by omega) (by omega), by omega, v94p.1⟩), fun _ => by rw [show v69 = M73 63 7 by omega]; exact (FrI.zero i80 (by omega)).1.wn (FrI.zero i80 (by omega)).2.1⟩⟩⟩
            · refine s_aload_n kx_201_48 rfl ?_
              refine r_getI (k := 63) (f := 9) kx_201_49 kp_201_39 (tk_63 hT) kf_12_9 (fun _ => rfl) (rg_63_9 hI73) (fun v100 v100e v100a v100b => ?_)
              refine s_if_ne (t := 83) kx_201_52 (by decide) (fun hc101 => ?_) (fun hc101 => ?_)
              · have h7102 : M73 63 7 = M 63 7 := ((fl73 63 7 rfl).trans (fr2 63 7 rfl))
                have hk103 : M73 63 7 = v69 := ((fl73 63 7 rfl).trans v69e)
                refine s_aload_n kx_201_83 rfl ?_
                refine r_getK (k := 63) (f := 7) kx_201_84 kp_201_32 (tk_63 hT) kf_12_7 (fun _ => rfl) ((fl73 63 7 rfl).trans v69e) ?_
                refine s_lstore_n kx_201_87 km_201_2 rfl ?_
                refine s_aload_n kx_201_88 rfl ?_
                refine r_getK (k := 63) (f := 9) kx_201_89 kp_201_39 (tk_63 hT) kf_12_9 (fun _ => rfl) v100e ?_
                refine s_if_ne (t := 99) kx_201_92 (by decide) (fun hc104 => ?_) (fun hc104 => absurd hc104 (by omega))
                refine s_lload_n kx_201_99 rfl ?_
                have hk105 : M73 63 3 = v12 := ((fl73 63 3 rfl).trans v12e)
                have hk106 : M73 63 9 = v100 := v100e
                exact s_lret kx_201_100 kq_201 ⟨_, _, rfl, rfl, hI73, hFm73, ⟨(LXp.fr (LXp.fr hX fr2 rfl) fl73 rfl), by omega, by omega, by unfold PRd; omega, ⟨(by unfold yFr; rw [if_neg (by omega)]; exact Or.inl (FrI.pos i80 (by omega))), fun g => by unfold yFr at g; rw [if_neg (by omega)] at g; exact absurd g (FrI.pos i80 (by omega)).1⟩⟩⟩
              · have hz5 := FrI.zero i80 (by omega)
                have hk2 := hz5.2.1
                have hzr := hz5.2.2
                have hz5b := hz5.1.b hn
                have hz5p := hz5.1.2.2.1
                refine s_aload_n kx_201_55 rfl ?_
                refine s_iload_n kx_201_56 rfl ?_
                refine s_aload_n kx_201_57 rfl ?_
                refine r_getK (k := 63) (f := 7) kx_201_58 kp_201_32 (tk_63 hT) kf_12_7 (fun _ => rfl) ((fl73 63 7 rfl).trans v69e) ?_
                refine s_callV2 (k := 63) (s1 := 4) (s2 := 0) (as := [(1, v69), (0, x1_72)]) (rest := []) kx_201_61 kp_201_379 (Or.inl rfl) rfl (tk_63 hT) ki_187 kcl_187 rfl rfl (by decide) (f_187 (d := d) (kind := x1_72) (w := v69) hT hI73 (RSD.fr (RSD.fr hR fr2 rfl) fl73 rfl) (show N58 (owV s n q) v69 by rw [← ((fl73 63 7 rfl).trans v69e)]; exact hz5.1.wn hk2) (by omega) (by omega)) (kF (fun v107 v107p => ?_))
                have hix : v107 = yIx s n D q x1_72 := v107p.2.2
                refine s_iconst (v := (-1)) kx_201_64 (by decide) ?_
                refine s_icmp_eq (t := 77) kx_201_65 (by decide) (fun hc108 => ?_) (fun hc108 => ?_)
                · refine r_iinc kx_201_77 rfl km_201_1 (by decide) ⟨by omega, by omega⟩ rfl ?_
                  refine s_goto (t := 43) kx_201_80 (by decide) ?_
                  exact cP.wk (lS1 rfl (lS1 rfl lS0)) (ih82 (x1_72 + 1) M73 hI73 hFm73 fl73 (by omega) (by omega) (by omega) (by omega) (Or.inr ⟨by omega, hz5.1, hk2, fun _ => (if e : x1_72 = 0 then (by have h9y : yIx s n D q x1_72 = -1 := (by omega); rw [e] at h9y; exact h9y) else hzr.1 (by omega)), fun _ => (if e : x1_72 = 1 then (by have h9y : yIx s n D q x1_72 = -1 := (by omega); rw [e] at h9y; exact h9y) else absurd e (by omega))⟩) (by omega))
                · refine s_aload_n kx_201_68 rfl ?_
                  refine s_iconst (v := 2) kx_201_69 (by decide) ?_
                  refine s_aload_n kx_201_70 rfl ?_
                  refine r_getI (k := 63) (f := 4) kx_201_71 kp_201_23 (tk_63 hT) kf_12_4 (fun _ => rfl) (rg_63_4 hI73) (fun v109 v109e v109a v109b => ?_)
                  have v109z : M 63 4 = v109 := (((fl73 63 4 rfl).trans (fr2 63 4 rfl))).symm.trans v109e
                  refine s_callV2 (k := 63) (s1 := 3) (s2 := 0) (as := [(0, v109), (0, 2)]) (rest := []) kx_201_74 kp_201_263 (Or.inl rfl) rfl (tk_63 hT) ki_176 kcl_176 rfl rfl (by decide) (f_176 (d := d + 1) (kind := 2) (place := v109) hT hI73 (by omega)) (kV (fun M111 hI111 fr111 v110p => ?_))
                  have hFm111 := hFm73.call fr111 rfl
                  have hFl43111 := fl73.call fr111 rfl
                  have tr112 := (fr111 63 3 rfl)
                  have tr113 := (fr111 63 4 rfl)
                  have tr114 := (fr111 63 5 rfl)
                  have tr115 := (fr111 63 6 rfl)
                  have tr116 := rg_63_9 hI111
                  refine r_iinc kx_201_77 rfl km_201_1 (by decide) ⟨by omega, by omega⟩ rfl ?_
                  refine s_goto (t := 43) kx_201_80 (by decide) ?_
                  exact cP.wk (lS1 rfl (lS1 rfl lS0)) (ih82 (x1_72 + 1) M111 hI111 hFm111 hFl43111 (by omega) (by omega) (by omega) (by omega) (Or.inl (owFl2 (k := 2) (x := owB s n q) (by omega) (by omega) (by decide) (by omega) (owFr_2 (k := x1_72) hk2 (by omega) (by omega)))) (by omega))
        exact cP.wk (lS1 rfl (lS1 rfl lS0)) (key74 _ 0 M2 hI2 hFm2 Fr.refl (by omega) (by omega) (by omega) (by omega) (Or.inr ⟨by omega, hz10.2, hk2, fun g => absurd g (by decide), fun g => absurd g (by decide)⟩) (Nat.lt_succ_self _))
      · replace v70p := v70p.resolve_right (by omega)
        have hk1 : owK s n q = 1 := (hown hk12).mp (by rw [show M2 63 7 = v69 by omega]; exact v70p.2)
        refine s_aload_n kx_201_32 rfl ?_
        refine s_iconst (v := 1) kx_201_33 (by decide) ?_
        refine s_aload_n kx_201_34 rfl ?_
        refine r_getI (k := 63) (f := 4) kx_201_35 kp_201_23 (tk_63 hT) kf_12_4 (fun _ => rfl) (rg_63_4 hI2) (fun v117 v117e v117a v117b => ?_)
        have v117z : M 63 4 = v117 := ((fr2 63 4 rfl)).symm.trans v117e
        refine s_callV2 (k := 63) (s1 := 3) (s2 := 0) (as := [(0, v117), (0, 1)]) (rest := []) kx_201_38 kp_201_263 (Or.inl rfl) rfl (tk_63 hT) ki_176 kcl_176 rfl rfl (by decide) (f_176 (d := d + 1) (kind := 1) (place := v117) hT hI2 (by omega)) (kV (fun M119 hI119 fr119 v118p => ?_))
        have hFm119 := hFm2.call fr119 rfl
        have tr120 := (fr119 63 3 rfl)
        have tr121 := (fr119 63 4 rfl)
        have tr122 := (fr119 63 5 rfl)
        have tr123 := (fr119 63 6 rfl)
        have tr124 := rg_63_9 hI119
        refine s_iconst (v := 0) kx_201_41 (by decide) ?_
        refine s_istore_n kx_201_42 km_201_1 rfl ?_
        have key127 : ∀ n128 : Nat, ∀ (x1_125 : Int), ∀ M126 : cM, Rng M126 → Fr gS_201_m M M126 → Fr gS_201_l43 M119 M126 → (0 ≤ x1_125) → (x1_125 ≤ 2) → ((1 ≤ M126 63 9 ∨ M126 63 3 = 1)) → (M 63 9 ≤ M126 63 9) → (FrI M126 s n D q x1_125) → (2147483647 - x1_125).toNat < n128 → cP k_P xs Ln (d + 2) 201 43 [(0, rf 63), (1, (0, x1_125))] [] (T, M126) (qW T M gS_201_m 1 (fun v M1 => LXp M1 ∧ M 63 4 ≤ M1 63 4 ∧ M 63 9 ≤ M1 63 9 ∧ (PRd M M1) ∧ (Yst M1 s n (yFr s n D f q) (owE s n q) ∧ (yFr s n D f q = 0 → N58 (owV s n q) v)))) := by
          intro n128
          induction n128 with
          | zero => intro x1_125 M126 hI126 hFm126 fl126 i129 i130 i131 i132 i133 hm134; exact absurd hm134 (Nat.not_lt_zero _)
          | succ n128 ih135 =>
            intro x1_125 M126 hI126 hFm126 fl126 i129 i130 i131 i132 i133 hm134
            have tr136 := fl126 63 3 rfl
            have tr137 := fl126 63 4 rfl
            have tr138 := fl126 63 5 rfl
            have tr139 := rg_63_9 hI126
            refine s_iload_n kx_201_43 rfl ?_
            refine s_iconst (v := 1) kx_201_44 (by decide) ?_
            refine s_icmp_gt (t := 83) kx_201_45 (by decide) (fun hc140 => ?_) (fun hc140 => ?_)
            · have h7141 : M126 63 7 = M 63 7 := ((fl126 63 7 rfl).trans ((fr119 63 7 rfl).trans (fr2 63 7 rfl)))
              have hk142 : M126 63 7 = v69 := ((fl126 63 7 rfl).trans ((fr119 63 7 rfl).trans v69e))
              refine s_aload_n kx_201_83 rfl ?_
              refine r_getK (k := 63) (f := 7) kx_201_84 kp_201_32 (tk_63 hT) kf_12_7 (fun _ => rfl) ((fl126 63 7 rfl).trans ((fr119 63 7 rfl).trans v69e)) ?_
              refine s_lstore_n kx_201_87 km_201_2 rfl ?_
              refine s_aload_n kx_201_88 rfl ?_
              refine r_getI (k := 63) (f := 9) kx_201_89 kp_201_39 (tk_63 hT) kf_12_9 (fun _ => rfl) (rg_63_9 hI126) (fun v143 v143e v143a v143b => ?_)
              refine s_if_ne (t := 99) kx_201_92 (by decide) (fun hc144 => ?_) (fun hc144 => ?_)
              · refine s_lload_n kx_201_99 rfl ?_
                have hk145 : M126 63 3 = v12 := ((fl126 63 3 rfl).trans ((fr119 63 3 rfl).trans v12e))
                have hk146 : M126 63 4 = v117 := ((fl126 63 4 rfl).trans ((fr119 63 4 rfl).trans v117e))
                have hk147 : M126 63 9 = v143 := v143e
                exact s_lret kx_201_100 kq_201 ⟨_, _, rfl, rfl, hI126, hFm126, ⟨(LXp.fr (LXp.fr (LXp.fr hX fr2 rfl) fr119 rfl) fl126 rfl), by omega, by omega, by unfold PRd; omega, ⟨(by unfold yFr; rw [if_neg (by omega)]; exact Or.inl (FrI.pos i133 (by omega))), fun g => by unfold yFr at g; rw [if_neg (by omega)] at g; exact absurd g (FrI.pos i133 (by omega)).1⟩⟩⟩
              · refine s_aload_n kx_201_95 rfl ?_
                refine s_callV2 (k := 63) (s1 := 1) (s2 := 0) (as := []) (rest := []) kx_201_96 kp_201_286 (Or.inl rfl) rfl (tk_63 hT) ki_180 kcl_180 rfl rfl (by decide) (f_180 (d := d) hT hI126 (FrI.zero i133 (by omega)).1.1 (FrI.zero i133 (by omega)).1.2.1 (FrI.zero i133 (by omega)).1.2.2.2.2.2.1 (owE_i2 ⟨(FrI.zero i133 (by omega)).1.2.2.1, (FrI.zero i133 (by omega)).1.2.2.2.1⟩).1 (owE_i2 ⟨(FrI.zero i133 (by omega)).1.2.2.1, (FrI.zero i133 (by omega)).1.2.2.2.1⟩).2 (FrI.zero i133 (by omega)).1.2.2.2.2.2.2.2.2.2.2.2.2) (kV (fun M149 hI149 fr149 v148p => ?_))
                have hFm149 := hFm126.call fr149 rfl
                have tr150 := (fr149 63 9 rfl)
                have tr151 := (fr149 63 10 rfl)
                have tr152 := rg_63_9 hI149
                refine s_lload_n kx_201_99 rfl ?_
                have hk153 : M149 63 9 = v143 := ((fr149 63 9 rfl).trans v143e)
                exact s_lret kx_201_100 kq_201 ⟨_, _, rfl, rfl, hI149, hFm149, ⟨(show LXp M149 from v148p.2.2), by omega, by omega, by unfold PRd; omega, ⟨(Or.inr ⟨by unfold yFr; rw [if_neg (by omega)]; exact FrI.none i133 (by omega) (by omega), by omega, v148p.1⟩), fun _ => by rw [show v69 = M126 63 7 by omega]; exact (FrI.zero i133 (by omega)).1.wn (FrI.zero i133 (by omega)).2.1⟩⟩⟩
            · refine s_aload_n kx_201_48 rfl ?_
              refine r_getI (k := 63) (f := 9) kx_201_49 kp_201_39 (tk_63 hT) kf_12_9 (fun _ => rfl) (rg_63_9 hI126) (fun v154 v154e v154a v154b => ?_)
              refine s_if_ne (t := 83) kx_201_52 (by decide) (fun hc155 => ?_) (fun hc155 => ?_)
              · have h7156 : M126 63 7 = M 63 7 := ((fl126 63 7 rfl).trans ((fr119 63 7 rfl).trans (fr2 63 7 rfl)))
                have hk157 : M126 63 7 = v69 := ((fl126 63 7 rfl).trans ((fr119 63 7 rfl).trans v69e))
                refine s_aload_n kx_201_83 rfl ?_
                refine r_getK (k := 63) (f := 7) kx_201_84 kp_201_32 (tk_63 hT) kf_12_7 (fun _ => rfl) ((fl126 63 7 rfl).trans ((fr119 63 7 rfl).trans v69e)) ?_
                refine s_lstore_n kx_201_87 km_201_2 rfl ?_
                refine s_aload_n kx_201_88 rfl ?_
                refine r_getK (k := 63) (f := 9) kx_201_89 kp_201_39 (tk_63 hT) kf_12_9 (fun _ => rfl) v154e ?_
                refine s_if_ne (t := 99) kx_201_92 (by decide) (fun hc158 => ?_) (fun hc158 => absurd hc158 (by omega))
                refine s_lload_n kx_201_99 rfl ?_
                have hk159 : M126 63 3 = v12 := ((fl126 63 3 rfl).trans ((fr119 63 3 rfl).trans v12e))
                have hk160 : M126 63 4 = v117 := ((fl126 63 4 rfl).trans ((fr119 63 4 rfl).trans v117e))
                have hk161 : M126 63 9 = v154 := v154e
                exact s_lret kx_201_100 kq_201 ⟨_, _, rfl, rfl, hI126, hFm126, ⟨(LXp.fr (LXp.fr (LXp.fr hX fr2 rfl) fr119 rfl) fl126 rfl), by omega, by omega, by unfold PRd; omega, ⟨(by unfold yFr; rw [if_neg (by omega)]; exact Or.inl (FrI.pos i133 (by omega))), fun g => by unfold yFr at g; rw [if_neg (by omega)] at g; exact absurd g (FrI.pos i133 (by omega)).1⟩⟩⟩
              · have hz5 := FrI.zero i133 (by omega)
                have hk2 := hz5.2.1
                have hzr := hz5.2.2
                have hz5b := hz5.1.b hn
                have hz5p := hz5.1.2.2.1
                refine s_aload_n kx_201_55 rfl ?_
                refine s_iload_n kx_201_56 rfl ?_
                refine s_aload_n kx_201_57 rfl ?_
                refine r_getK (k := 63) (f := 7) kx_201_58 kp_201_32 (tk_63 hT) kf_12_7 (fun _ => rfl) ((fl126 63 7 rfl).trans ((fr119 63 7 rfl).trans v69e)) ?_
                refine s_callV2 (k := 63) (s1 := 4) (s2 := 0) (as := [(1, v69), (0, x1_125)]) (rest := []) kx_201_61 kp_201_379 (Or.inl rfl) rfl (tk_63 hT) ki_187 kcl_187 rfl rfl (by decide) (f_187 (d := d) (kind := x1_125) (w := v69) hT hI126 (RSD.fr (RSD.fr (RSD.fr hR fr2 rfl) fr119 rfl) fl126 rfl) (show N58 (owV s n q) v69 by rw [← ((fl126 63 7 rfl).trans ((fr119 63 7 rfl).trans v69e))]; exact hz5.1.wn hk2) (by omega) (by omega)) (kF (fun v162 v162p => ?_))
                have hix : v162 = yIx s n D q x1_125 := v162p.2.2
                refine s_iconst (v := (-1)) kx_201_64 (by decide) ?_
                refine s_icmp_eq (t := 77) kx_201_65 (by decide) (fun hc163 => ?_) (fun hc163 => ?_)
                · refine r_iinc kx_201_77 rfl km_201_1 (by decide) ⟨by omega, by omega⟩ rfl ?_
                  refine s_goto (t := 43) kx_201_80 (by decide) ?_
                  exact cP.wk (lS1 rfl (lS1 rfl lS0)) (ih135 (x1_125 + 1) M126 hI126 hFm126 fl126 (by omega) (by omega) (by omega) (by omega) (Or.inl (owFl2 (k := 2) (x := owB s n q) (by omega) (by omega) (by decide) (by omega) (owFr_2 (k := x1_125) hk2 (by omega) (by omega)))) (by omega))
                · refine s_aload_n kx_201_68 rfl ?_
                  refine s_iconst (v := 2) kx_201_69 (by decide) ?_
                  refine s_aload_n kx_201_70 rfl ?_
                  refine r_getK (k := 63) (f := 4) kx_201_71 kp_201_23 (tk_63 hT) kf_12_4 (fun _ => rfl) ((fl126 63 4 rfl).trans ((fr119 63 4 rfl).trans v117e)) ?_
                  refine s_callV2 (k := 63) (s1 := 3) (s2 := 0) (as := [(0, v117), (0, 2)]) (rest := []) kx_201_74 kp_201_263 (Or.inl rfl) rfl (tk_63 hT) ki_176 kcl_176 rfl rfl (by decide) (f_176 (d := d + 1) (kind := 2) (place := v117) hT hI126 (by omega)) (kV (fun M165 hI165 fr165 v164p => ?_))
                  have hFm165 := hFm126.call fr165 rfl
                  have hFl43165 := fl126.call fr165 rfl
                  have tr166 := (fr165 63 3 rfl)
                  have tr167 := (fr165 63 4 rfl)
                  have tr168 := (fr165 63 5 rfl)
                  have tr169 := (fr165 63 6 rfl)
                  have tr170 := rg_63_9 hI165
                  refine r_iinc kx_201_77 rfl km_201_1 (by decide) ⟨by omega, by omega⟩ rfl ?_
                  refine s_goto (t := 43) kx_201_80 (by decide) ?_
                  exact cP.wk (lS1 rfl (lS1 rfl lS0)) (ih135 (x1_125 + 1) M165 hI165 hFm165 hFl43165 (by omega) (by omega) (by omega) (by omega) (Or.inl (owFl2 (k := 2) (x := owB s n q) (by omega) (by omega) (by decide) (by omega) (owFr_2 (k := x1_125) hk2 (by omega) (by omega)))) (by omega))
        exact cP.wk (lS1 rfl (lS1 rfl lS0)) (key127 _ 0 M119 hI119 hFm119 Fr.refl (by omega) (by omega) (by omega) (by omega) (Or.inl (owFl2 (k := 1) (x := owB s n q) (by omega) (by omega) (by decide) (by omega) (show owFr s n D q = 10000 * 1 + owB s n q by unfold owFr owU; (repeat' split) <;> omega))) (Nat.lt_succ_self _))
  · have hz171 := Yst.pos v1p.1 (by omega)
    refine s_lconst (v := 0) kx_201_11 (by decide) ?_
    have hk172 : M2 63 9 = v8 := v8e
    exact s_lret kx_201_12 kq_201 ⟨_, _, rfl, rfl, hI2, hFm2, ⟨(LXp.fr hX fr2 rfl), by omega, by omega, by unfold PRd; omega, ⟨(yst_is (yLx_fr hz171.1) v1p.1 hz171.1), fun g => absurd (yLx_fr hz171.1 ▸ g) hz171.1⟩⟩⟩
