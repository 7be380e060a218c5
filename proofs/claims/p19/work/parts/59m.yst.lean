section YM
variable {M M1 M2 D : cM} {s : Nat → Int} {n f q : Int}
theorem RSD.aw {a b m i x y : Int} (h : RSD M D) (hi : M 63 36 = i) (h0 : 0 ≤ i) (ha : 0 ≤ a ∧ a < D 0 0) (hb : 0 ≤ b ∧ b < D 0 0) (h8 : D 0 0 ≤ 8) (u1 : Up M 68 x.toNat m M1) (u2 : Up M1 68 y.toNat m M2) (hx : x = 64 * i + 8 * a + b) (hy : y = 64 * i + 8 * b + a) : RSD M2 (owAW D a b m) := by
  obtain ⟨a1, a2, a3, a4, a5, a6, a7, a8, a9⟩ := h
  have ec : ∀ c, c ≠ 68 → ∀ g, M2 c g = M c g := fun c hc g => (u2.2 c g (by omega)).trans (u1.2 c g (by omega))
  have e4 : ∀ g, owAW D a b m 4 g = if g = (b * 8 + a).toNat ∨ g = (a * 8 + b).toNat then m else D 4 g := by
    intro g
    unfold owAW c_up
    by_cases g1 : g = (b * 8 + a).toNat
    · simp [g1]
    · by_cases g2 : g = (a * 8 + b).toNat
      · simp [g2]
      · simp [g1, g2]
  have eD : ∀ c, c ≠ 4 → ∀ g, owAW D a b m c g = D c g := fun c hc g => by simp [owAW, c_up, hc]
  unfold RSD
  rw [ec 63 (by decide)]
  simp only [ec 65 (by decide), ec 66 (by decide), ec 67 (by decide), ec 69 (by decide), ec 70 (by decide), ec 71 (by decide), ec 72 (by decide), ec 73 (by decide), ec 74 (by decide), ec 75 (by decide), ec 77 (by decide), ec 79 (by decide), ec 80 (by decide), ec 83 (by decide), ec 84 (by decide), eD 0 (by decide), eD 1 (by decide), eD 2 (by decide), eD 3 (by decide), eD 5 (by decide), eD 6 (by decide), eD 7 (by decide), eD 8 (by decide), eD 9 (by decide), eD 10 (by decide), eD 11 (by decide), eD 12 (by decide)]
  refine ⟨a1, a2, a3, a4, a5, a6, a7, a8, ?_, ?_⟩
  · intro p q hp hq
    rw [eD 0 (by decide)] at hp hq
    rw [hi, e4]
    have ha9 := a9.1 p q hp hq
    rw [hi] at ha9
    by_cases g2 : (p : Int) = b ∧ (q : Int) = a
    · rw [if_pos (Or.inl (by omega)), show 64 * i + 8 * (p : Int) + (q : Int) = y by omega]
      exact u2.1
    · rw [u2.2 68 _ (by omega)]
      by_cases g1 : (p : Int) = a ∧ (q : Int) = b
      · rw [if_pos (Or.inr (by omega)), show 64 * i + 8 * (p : Int) + (q : Int) = x by omega]
        exact u1.1
      · rw [u1.2 68 _ (by omega), if_neg (by omega)]
        exact ha9
  · intro p q hp hq h
    rw [eD 0 (by decide)] at h
    rw [e4, if_neg (by omega)]
    exact a9.2 p q hp hq h
theorem RSD.br {v i : Int} (h : RSD M D) (hi : M 63 36 = i) (u : Up M 79 i.toNat v M1) : RSD M1 (c_up D 0 2 v) := by
  obtain ⟨a1, a2, a3, a4, a5, a6, a7, a8, a9⟩ := h
  have ec : ∀ c, c ≠ 79 → ∀ g, M1 c g = M c g := fun c hc g => u.2 c g (by omega)
  unfold RSD
  rw [ec 63 (by decide), hi]
  rw [hi] at a1 a2 a3 a4 a5 a6 a7 a8 a9
  simp only [ec 65 (by decide), ec 66 (by decide), ec 67 (by decide), ec 69 (by decide), ec 70 (by decide), ec 71 (by decide), ec 72 (by decide), ec 73 (by decide), ec 74 (by decide), ec 75 (by decide), ec 77 (by decide), ec 80 (by decide), ec 83 (by decide), ec 84 (by decide), u.1]
  simp [c_up]
  exact ⟨a1, a2, a4, a5, a6, a7, a8, a9.of (fun g => ec 68 (by decide) g) (by simp [c_up]) (fun g => by simp [c_up])⟩
theorem RSD.ca {v i : Int} (h : RSD M D) (hi : M 63 36 = i) (u : Up M 80 i.toNat v M1) : RSD M1 (c_up D 0 3 v) := by
  obtain ⟨a1, a2, a3, a4, a5, a6, a7, a8, a9⟩ := h
  have ec : ∀ c, c ≠ 80 → ∀ g, M1 c g = M c g := fun c hc g => u.2 c g (by omega)
  unfold RSD
  rw [ec 63 (by decide), hi]
  rw [hi] at a1 a2 a3 a4 a5 a6 a7 a8 a9
  simp only [ec 65 (by decide), ec 66 (by decide), ec 67 (by decide), ec 69 (by decide), ec 70 (by decide), ec 71 (by decide), ec 72 (by decide), ec 73 (by decide), ec 74 (by decide), ec 75 (by decide), ec 77 (by decide), ec 79 (by decide), ec 83 (by decide), ec 84 (by decide), u.1]
  simp [c_up]
  exact ⟨a1, a2, a3, a5, a6, a7, a8, a9.of (fun g => ec 68 (by decide) g) (by simp [c_up]) (fun g => by simp [c_up])⟩
theorem RSD.jn {a b i : Int} (h : RSD M D) (hi : M 63 36 = i) (h0 : 0 ≤ i) (ha : 0 ≤ a) (u : Up M 74 (8 * i + a).toNat b M1) : RSD M1 (c_up D 9 a.toNat b) := by
  obtain ⟨a1, a2, a3, a4, a5, a6, a7, a8, a9⟩ := h
  have ec : ∀ c, c ≠ 74 → ∀ g, M1 c g = M c g := fun c hc g => u.2 c g (by omega)
  unfold RSD
  rw [ec 63 (by decide), hi]
  rw [hi] at a1 a2 a3 a4 a5 a6 a7 a8 a9
  simp only [ec 65 (by decide), ec 66 (by decide), ec 67 (by decide), ec 69 (by decide), ec 70 (by decide), ec 71 (by decide), ec 72 (by decide), ec 73 (by decide), ec 79 (by decide), ec 75 (by decide), ec 77 (by decide), ec 80 (by decide), ec 83 (by decide), ec 84 (by decide)]
  simp [c_up]
  refine ⟨a1, a2, a3, a4, a5, fun k hk => ?_, a7, a8, a9.of (fun g => ec 68 (by decide) g) (by simp [c_up]) (fun g => by simp [c_up])⟩
  have := a6 k hk
  by_cases e : k = a.toNat
  · rw [if_pos e, show 8 * i + (k : Int) = 8 * i + a by omega, u.1]
    rw [show 8 * i + (k : Int) = 8 * i + a by omega] at this
    exact ⟨this.1, this.2.1, this.2.2.1, this.2.2.2.1, rfl, this.2.2.2.2.2⟩
  · rw [if_neg e, u.2 74 _ (by omega)]
    exact this
theorem RSD.addP {nm st we wi ho i : Int} (h : RSD M D) (hi : M 63 36 = i) (h36 : 0 ≤ i) (hD : 0 ≤ D 0 1) (hn : N58 nm (M 84 (8 * i + D 0 1).toNat)) (h1 : M 70 (8 * i + D 0 1).toNat = st) (h2 : M 71 (8 * i + D 0 1).toNat = we) (h3 : M 72 (8 * i + D 0 1).toNat = wi) (h4 : M 74 (8 * i + D 0 1).toNat = -1) (h5 : M 73 (8 * i + D 0 1).toNat = ho) (u : Up M 69 i.toNat (D 0 1 + 1) M1) : RSD M1 (owAP D nm st we wi ho) := by
  obtain ⟨a1, a2, a3, a4, a5, a6, a7, a8, a9⟩ := h
  have e36 : M1 63 36 = i := (u.2 63 36 (by omega)).trans hi
  have ec : ∀ c, c ≠ 69 → ∀ g, M1 c g = M c g := fun c hc g => u.2 c g (by omega)
  rw [hi] at a1 a2 a3 a4 a7 a8 a9
  unfold RSD
  rw [e36]
  refine ⟨?_, ?_, ?_, ?_, fun k hk => ?_, fun k hk => ?_, ?_, ?_, a9.of (fun g => ec 68 (by decide) g) (by simp [owAP, c_up]) (fun g => by simp [owAP, c_up])⟩
  · rw [ec 65 (by decide)]; simp [owAP, c_up]; exact a1
  · rw [u.1]; simp [owAP, c_up]
  · rw [ec 79 (by decide)]; simp [owAP, c_up]; exact a3
  · rw [ec 80 (by decide)]; simp [owAP, c_up]; exact a4
  · rw [ec 83 (by decide), ec 66 (by decide), ec 67 (by decide)]
    simp [owAP, c_up] at hk ⊢
    have := a5 k hk
    rw [hi] at this
    exact this
  · rw [ec 84 (by decide), ec 70 (by decide), ec 71 (by decide), ec 72 (by decide), ec 74 (by decide), ec 73 (by decide)]
    simp [owAP, c_up] at hk ⊢
    by_cases e : k = (D 0 1).toNat
    · simp only [if_pos e, show (k : Int) = D 0 1 by omega]
      exact ⟨hn, h1, h2, h3, h4, h5⟩
    · simp only [if_neg e]
      have := a6 k (by omega)
      rw [hi] at this
      exact this
  · rw [ec 75 (by decide)]; simp [owAP, c_up]; exact a7
  · rw [ec 77 (by decide)]; simp [owAP, c_up]; exact a8
theorem way1 (h : yKr s n D (yKr s n D 0 (owE s n q) 0) (owE s n (owE s n q)) 0 ≠ 0) : owWayF s n D q = yKr s n D (yKr s n D 0 (owE s n q) 0) (owE s n (owE s n q)) 0 := by
  unfold yKr at h ⊢
  rw [yKf_0, yKf_0] at *
  unfold owWayF
  (repeat' split) <;> (repeat' split at h) <;> omega
theorem way2 (h : yKr s n D (yKr s n D 0 (owE s n q) 0) (owE s n (owE s n q)) 0 = 0) : owKr s n D (owE s n q) = 0 ∧ owKr s n D (owE s n (owE s n q)) = 0 := by
  unfold yKr at h
  rw [yKf_0, yKf_0] at h
  (repeat' split at h) <;> omega
theorem way3 (hq : 0 ≤ q ∧ q ≤ n) (h1 : owKr s n D (owE s n q) = 0 ∧ owKr s n D (owE s n (owE s n q)) = 0) (h2 : owRi s n D (owE s n (owE s n q)) ≠ owRi s n D (owE s n q)) : yNu s n (yMu s n 0 (owE s n (owE s n (owE s n q))) 672503392) (owE s n (owE s n (owE s n (owE s n q)))) 1 60 = owWayF s n D q := by
  have p1 := owE_i2 (s := s) hq
  have p2 := owE_i2 (s := s) p1
  have p3 := owE_i2 (s := s) p2
  rw [yNm_seq p3]
  unfold owWayF
  (repeat' split) <;> omega
theorem jo1 : yUj s n D (yUj s n D 0 (owE s n q) (-1)) (owE s n (owE s n q)) (owPi s n D (owE s n q)) = owJoF s n D q := by
  unfold yUj owJoF
  (repeat' split) <;> omega
theorem br1 (hw : owW s n q 86148467 = 1) : yNu s n 0 (owE s n q) 0 100 = owBrF s n D q := by
  unfold yNu owBrF owNm
  (repeat' split) <;> omega
theorem ca1 : yKr s n D 0 (owE s n q) 0 = owCaF s n D q := by
  unfold yKr
  rw [yKf_0]
  unfold owCaF
  rw [if_neg (by decide)]
def yHm (s : Nat → Int) (n : Int) (D : cM) (f q w : Int) : Int := if f ≠ 0 then f else owHm s n D q w
theorem per_seq {w : Int} (hq : 0 ≤ q ∧ q ≤ n) (h8 : D 0 1 < 8) (hw : w = owV s n (owE s n (owE s n (owE s n (owE s n (owE s n (owE s n (owE s n q)))))))) : yHm s n D (yNu s n (yMu s n (yNu s n (yMu s n (yNu s n (yMu s n (yFr s n D 0 (owE s n q)) (owE s n (owE s n q)) 659111367) (owE s n (owE s n (owE s n q))) 1 99) (owE s n (owE s n (owE s n (owE s n q)))) 109094464) (owE s n (owE s n (owE s n (owE s n (owE s n q))))) 1 99) (owE s n (owE s n (owE s n (owE s n (owE s n (owE s n q)))))) 781325312) (owE s n (owE s n (owE s n (owE s n (owE s n (owE s n (owE s n q))))))) 1 9) (owE s n (owE s n (owE s n (owE s n (owE s n (owE s n (owE s n (owE s n q)))))))) w = owPerF s n D q := by
  have p1 := owE_i2 (s := s) hq
  have p2 := owE_i2 (s := s) p1
  have p3 := owE_i2 (s := s) p2
  have p4 := owE_i2 (s := s) p3
  have p5 := owE_i2 (s := s) p4
  have p6 := owE_i2 (s := s) p5
  rw [yNm_seq p6, yNm_seq p4, yNm_seq p2, hw]
  unfold yHm yFr owPerF
  (repeat' split) <;> omega
theorem RSD.room (h : RSD M D) {j i : Int} (hi : M 63 36 = i) (h0 : 0 ≤ j) (hj : j < D 0 0) : M 66 (8 * i + j).toNat = D 2 j.toNat ∧ M 67 (8 * i + j).toNat = D 3 j.toNat := by
  have := (h.2.2.2.2.1 j.toNat (by omega)).2
  rw [show ((j.toNat : Nat) : Int) = j by omega, hi] at this
  exact this
theorem RSD.pers (h : RSD M D) {j i : Int} (hi : M 63 36 = i) (h0 : 0 ≤ j) (hj : j < D 0 1) : M 72 (8 * i + j).toNat = D 8 j.toNat ∧ M 73 (8 * i + j).toNat = D 10 j.toNat := by
  have := h.2.2.2.2.2.1 j.toNat (by omega)
  rw [show ((j.toNat : Nat) : Int) = j by omega, hi] at this
  exact ⟨this.2.2.2.1, this.2.2.2.2.2⟩
theorem jo_pos {v q' : Int} {X : Prop} (h : M 63 9 ≠ 0) (hY : Yst M s n (yUj s n D (yUj s n D 0 (owE s n q) (-1)) (owE s n (owE s n q)) v) q') (h1 : yUj s n D 0 (owE s n q) (-1) = 0 → v = owPi s n D (owE s n q)) : Yst M s n (owJoF s n D q) q' ∧ (owJoF s n D q = 0 → X) := by
  have e : yUj s n D (yUj s n D 0 (owE s n q) (-1)) (owE s n (owE s n q)) v = owJoF s n D q := by
    by_cases g : yUj s n D 0 (owE s n q) (-1) = 0
    · rw [h1 g]; exact jo1
    · rw [← jo1]
      show (if yUj s n D 0 (owE s n q) (-1) ≠ 0 then _ else _) = (if yUj s n D 0 (owE s n q) (-1) ≠ 0 then _ else _)
      rw [if_pos g, if_pos g]
  rw [e] at hY
  exact ⟨hY, fun g => absurd g (hY.pos h).1⟩
theorem jo_ok {v v2 q' : Int} {X : Prop} (h : M 63 9 = 0) (hY : Yst M s n (yUj s n D (yUj s n D 0 (owE s n q) (-1)) (owE s n (owE s n q)) v) q') (hY1 : Yst M1 s n (yUj s n D (yUj s n D 0 (owE s n q) (-1)) (owE s n (owE s n q)) v) q') (h1 : yUj s n D 0 (owE s n q) (-1) = 0 → v = owPi s n D (owE s n q)) (h2 : yUj s n D (yUj s n D 0 (owE s n q) (-1)) (owE s n (owE s n q)) v = 0 → v2 = owPi s n D (owE s n (owE s n q))) (hX : v = owPi s n D (owE s n q) → v2 = owPi s n D (owE s n (owE s n q)) → X) : Yst M1 s n (owJoF s n D q) q' ∧ (owJoF s n D q = 0 → X) := by
  have z := (hY.zero h).1
  have z1 : yUj s n D 0 (owE s n q) (-1) = 0 := Decidable.byContradiction fun g => g (by
    have e : yUj s n D (yUj s n D 0 (owE s n q) (-1)) (owE s n (owE s n q)) v = yUj s n D 0 (owE s n q) (-1) := if_pos g
    rw [← e]
    exact z)
  have e : yUj s n D (yUj s n D 0 (owE s n q) (-1)) (owE s n (owE s n q)) v = owJoF s n D q := by rw [h1 z1]; exact jo1
  rw [e] at hY1
  exact ⟨hY1, fun _ => hX (h1 z1) (h2 z)⟩
theorem hm_in (hq : 0 ≤ q ∧ q ≤ n) : 0 ≤ (owE s n (owE s n (owE s n (owE s n (owE s n (owE s n (owE s n (owE s n q)))))))) ∧ (owE s n (owE s n (owE s n (owE s n (owE s n (owE s n (owE s n (owE s n q)))))))) ≤ n := owE_i2 (owE_i2 (owE_i2 (owE_i2 (owE_i2 (owE_i2 (owE_i2 (owE_i2 hq)))))))
theorem hm_pos {w : Int} (hq : 0 ≤ q ∧ q ≤ n) (h : yKr s n D (yMu s n f q 54525952) (owE s n q) 0 ≠ 0) : yHm s n D f q w = yKr s n D (yMu s n f q 54525952) (owE s n q) 0 := by
  have u1 := owU_pos (s := s) (n := n) hq.1
  unfold yKr yMu at h ⊢
  rw [yKf_0] at *
  unfold yHm owHm
  (repeat' split) <;> (repeat' split at h) <;> omega
theorem hm_z {w : Int} (hq : 0 ≤ q ∧ q ≤ n) (h : yKr s n D (yMu s n f q 54525952) (owE s n q) 0 = 0) : yHm s n D f q w = if D 2 (owRi s n D (owE s n q)).toNat < w ∨ D 3 (owRi s n D (owE s n q)).toNat < w + owLd D (owRi s n D (owE s n q)) (D 0 1).toNat then 30000 + owB s n (owE s n q) else 0 := by
  have u1 := owU_pos (s := s) (n := n) hq.1
  unfold yKr yMu at h
  rw [yKf_0] at h
  unfold yHm owHm
  by_cases hf : f ≠ 0
  · rw [if_pos hf, if_pos hf] at h; omega
  · rw [if_neg hf] at h ⊢
    by_cases hw : owW s n q 54525952 = 0
    · rw [if_pos hw, if_pos (by omega)] at h; omega
    · rw [if_neg hw, if_neg (by omega)] at h
      rw [if_neg hw, if_neg (by omega)]
end YM
def gS_212_m : List (Nat × Nat) := [(63, 10), (63, 13), (63, 3), (63, 4), (63, 5), (63, 6), (63, 7), (63, 8), (63, 9), (79, 99999)]
theorem f_212 {xs : Nat → Int} {Ln d : Nat} {T : List cK} {M : cM} (hT : TT T) (hI : Rng M) (hX : LXp M) {s : Nat → Int} {n q : Int} {D : cM} (hY : Yst M s n 0 q) (hn : n ≤ 1600) (hR : RSD M D) (hW : DW D) {bX : Int} {WX : cM} (hKX : KB bX WX M) (p0 : M 63 4 + 1 ≤ M 63 5) (p1 : owW s n q 86148467 = 1) : cC k_P xs Ln (d + 3) 212 [rf 63] (T, M) (qV T M gS_212_m (fun M1 => (LXp M1 ∧ M 63 4 ≤ M1 63 4 ∧ M 63 9 ≤ M1 63 9 ∧ (PRd M M1) ∧ Yst M1 s n (owBrF s n D q) (owBrP s n q) ∧ (owBrF s n D q = 0 → RSD M1 (owBrD s n D q))) ∧ KB bX WX M1)) := by
  show cP k_P xs Ln (d + 3) 212 0 [(0, rf 63)] [] (T, M) _
  have hFm : Fr gS_212_m M M := Fr.refl
  have h639 := rg_63_9 hI
  have hz9 := hY.z.1
  have hzb := hY.z.2.b hn
  have hq0 := hY.z.2.2.2.1
  have hqn := hY.z.2.2.2.2.1
  have hr36 := rg_63_36 hI
  have hq65 := hR.1
  have hq69 := hR.2.1
  have hw0 := hW.1
  have hw1 := hW.2.1
  have hw2 := hW.2.2.1
  have hw3 := hW.2.2.2.1
  have hbw := p1
  have hkx1 := hKX.1
  have hkx2 := hKX.2.1
  have hkx3 := hKX.2.2.1
  refine s_aload_n kx_212_0 rfl ?_
  refine s_iconst (v := 0) kx_212_1 (by decide) ?_
  refine s_callV2 (k := 63) (s1 := 2) (s2 := 0) (as := [(0, 0)]) (rest := []) kx_212_2 kp_212_386 (Or.inl rfl) rfl (tk_63 hT) ki_199 kcl_199 rfl rfl (by decide) (f_199 (d := d) (full := 0) hT hI hX hY hn (by omega)) (kW (fun v1 M2 hI2 fr2 v1p => ?_))
  have hFm2 := hFm.call fr2 rfl
  have tr3 := (fr2 63 36 rfl)
  have tr4 := rg_63_9 hI2
  refine s_if_ne (t := 9) kx_212_5 (by decide) (fun hc5 => ?_) (fun hc5 => ?_)
  · have hc6 := v1p.2.2.2.resolve_right (by omega)
    have hc6a := hc6.2.1
    refine s_aload_n kx_212_9 rfl ?_
    refine s_iconst (v := 0) kx_212_10 (by decide) ?_
    refine s_bipush (v := 100) kx_212_11 (by decide) ?_
    refine s_callV2 (k := 63) (s1 := 3) (s2 := 0) (as := [(0, 100), (0, 0)]) (rest := []) kx_212_13 kp_212_398 (Or.inl rfl) rfl (tk_63 hT) ki_188 kcl_188 rfl rfl (by decide) (f_188 (d := d) (low := 0) (high := 100) hT hI2 v1p.1 (show Yst M2 s n 0 (owE s n q) from Or.inr ⟨rfl, hc6.2.1.2.2, hc6.2.2⟩) hn) (kW (fun v7 M8 hI8 fr8 v7p => ?_))
    have hFm8 := hFm2.call fr8 rfl
    have tr9 := (fr8 63 36 rfl)
    have tr10 := rg_63_9 hI8
    refine s_istore_n kx_212_16 km_212_1 rfl ?_
    refine s_aload_n kx_212_17 rfl ?_
    refine r_getI (k := 63) (f := 9) kx_212_18 kp_212_39 (tk_63 hT) kf_12_9 (fun _ => rfl) (rg_63_9 hI8) (fun v11 v11e v11a v11b => ?_)
    refine s_if_ne (t := 34) kx_212_21 (by decide) (fun hc12 => ?_) (fun hc12 => ?_)
    · have hk13 : M8 63 9 = v11 := v11e
      exact s_vret kx_212_34 kq_212 ⟨_, rfl, rfl, hI8, hFm8, ⟨⟨v7p.1, by omega, by omega, by unfold PRd; omega, ⟨(by rw [← br1 (D := D) hbw]; exact v7p.2.2.2.2.1), fun g => by rw [← br1 (D := D) hbw] at g; exact absurd g (Yst.pos v7p.2.2.2.2.1 (by omega)).1⟩⟩, (KB.fr (KB.fr hKX fr2 rfl) fr8 rfl)⟩⟩
    · refine s_aload_n kx_212_24 rfl ?_
      refine r_getR (k := 63) (f := 29) (k2 := 79) kx_212_25 kp_212_99 (tk_63 hT) kf_12_29 (by decide) (rq_63_29 hI8) ?_
      refine s_aload_n kx_212_28 rfl ?_
      refine r_getI (k := 63) (f := 36) kx_212_29 kp_212_121 (tk_63 hT) kf_12_36 (fun _ => rfl) (rg_63_36 hI8) (fun v14 v14e v14a v14b => ?_)
      have v14z : M 63 36 = v14 := (((fr8 63 36 rfl).trans (fr2 63 36 rfl))).symm.trans v14e
      refine s_iload_n kx_212_32 rfl ?_
      refine r_ast (k := 79) kx_212_33 (tk_79 hT) ⟨by omega, by omega⟩ hI8 ru_79 (fun M15 hI15 u15 => ?_)
      have hFm15 := hFm8.up u15 rfl
      have tr16 := (u15.2 63 3 (by omega))
      have tr17 := (u15.2 63 4 (by omega))
      have tr18 := (u15.2 63 5 (by omega))
      have tr19 := (u15.2 63 9 (by omega))
      have tr20 := (u15.2 63 10 (by omega))
      have tr21 := (u15.2 63 36 (by omega))
      have hkx22 := (KB.up1 (KB.fr (KB.fr hKX fr2 rfl) fr8 rfl) u15 (by decide) ⟨by omega, by omega⟩)
      have hk23 : M15 63 9 = v11 := ((u15.2 63 9 (by omega)).trans v11e)
      exact s_vret kx_212_34 kq_212 ⟨_, rfl, rfl, hI15, hFm15, ⟨⟨(LXp.up v7p.1 u15 (Or.inl (by decide))), by omega, by omega, by unfold PRd; omega, ⟨(by rw [← br1 (D := D) hbw]; exact (Yst.up v7p.2.2.2.2.1 u15 ⟨by decide, Or.inl (by decide)⟩)), fun _ => by have hv := v7p.2.2.2.2.2 (Yst.zero v7p.2.2.2.2.1 (by omega)).1; unfold owBrD; rw [← hv]; exact RSD.br (RSD.fr (RSD.fr hR fr2 rfl) fr8 rfl) v14e u15⟩⟩, hkx22⟩⟩
  · have hc24 := v1p.2.2.2.resolve_left (by omega)
    have hc24a := hc24.2.1
    exact s_vret kx_212_8 kq_212 ⟨_, rfl, rfl, hI2, hFm2, ⟨⟨v1p.1, by omega, by omega, by unfold PRd; omega, ⟨False.elim (by have hq := hc24.2.1; omega), fun _ => False.elim (by have hq := hc24.2.1; omega)⟩⟩, (KB.fr hKX fr2 rfl)⟩⟩
def gS_213_m : List (Nat × Nat) := [(63, 10), (63, 13), (63, 3), (63, 4), (63, 5), (63, 6), (63, 7), (63, 8), (63, 9), (80, 99999)]
theorem f_213 {xs : Nat → Int} {Ln d : Nat} {T : List cK} {M : cM} (hT : TT T) (hI : Rng M) (hX : LXp M) {s : Nat → Int} {n q : Int} {D : cM} (hY : Yst M s n 0 q) (hn : n ≤ 1600) (hR : RSD M D) (hW : DW D) {bX : Int} {WX : cM} (hKX : KB bX WX M) (p0 : M 63 4 + 1 ≤ M 63 5) : cC k_P xs Ln (d + 4) 213 [rf 63] (T, M) (qV T M gS_213_m (fun M1 => (LXp M1 ∧ M 63 4 ≤ M1 63 4 ∧ M 63 9 ≤ M1 63 9 ∧ (PRd M M1) ∧ Yst M1 s n (owCaF s n D q) (owCaP s n q) ∧ (owCaF s n D q = 0 → RSD M1 (owCaD s n D q))) ∧ KB bX WX M1)) := by
  show cP k_P xs Ln (d + 4) 213 0 [(0, rf 63)] [] (T, M) _
  have hFm : Fr gS_213_m M M := Fr.refl
  have h639 := rg_63_9 hI
  have hz9 := hY.z.1
  have hzb := hY.z.2.b hn
  have hq0 := hY.z.2.2.2.1
  have hqn := hY.z.2.2.2.2.1
  have hr36 := rg_63_36 hI
  have hq65 := hR.1
  have hq69 := hR.2.1
  have hw0 := hW.1
  have hw1 := hW.2.1
  have hw2 := hW.2.2.1
  have hw3 := hW.2.2.2.1
  have hkx1 := hKX.1
  have hkx2 := hKX.2.1
  have hkx3 := hKX.2.2.1
  refine s_aload_n kx_213_0 rfl ?_
  refine s_iconst (v := 0) kx_213_1 (by decide) ?_
  refine s_callV2 (k := 63) (s1 := 2) (s2 := 0) (as := [(0, 0)]) (rest := []) kx_213_2 kp_213_386 (Or.inl rfl) rfl (tk_63 hT) ki_199 kcl_199 rfl rfl (by decide) (f_199 (d := d + 1) (full := 0) hT hI hX hY hn (by omega)) (kW (fun v1 M2 hI2 fr2 v1p => ?_))
  have hFm2 := hFm.call fr2 rfl
  have tr3 := (fr2 63 36 rfl)
  have tr4 := rg_63_9 hI2
  refine s_if_ne (t := 9) kx_213_5 (by decide) (fun hc5 => ?_) (fun hc5 => ?_)
  · have hc6 := v1p.2.2.2.resolve_right (by omega)
    have hc6a := hc6.2.1
    refine s_aload_n kx_213_9 rfl ?_
    refine s_iconst (v := 0) kx_213_10 (by decide) ?_
    refine s_callV2 (k := 63) (s1 := 2) (s2 := 0) (as := [(0, 0)]) (rest := []) kx_213_11 kp_213_401 (Or.inl rfl) rfl (tk_63 hT) ki_203 kcl_203 rfl rfl (by decide) (f_203 (d := d) (kind := 0) hT hI2 v1p.1 (show Yst M2 s n 0 (owE s n q) from Or.inr ⟨rfl, hc6.2.1.2.2, hc6.2.2⟩) hn (RSD.fr hR fr2 rfl) (by omega)) (kW (fun v7 M8 hI8 fr8 v7p => ?_))
    have hFm8 := hFm2.call fr8 rfl
    have tr9 := (fr8 63 36 rfl)
    have tr10 := rg_63_9 hI8
    refine s_istore_n kx_213_14 km_213_1 rfl ?_
    refine s_aload_n kx_213_15 rfl ?_
    refine r_getI (k := 63) (f := 9) kx_213_16 kp_213_39 (tk_63 hT) kf_12_9 (fun _ => rfl) (rg_63_9 hI8) (fun v11 v11e v11a v11b => ?_)
    refine s_if_ne (t := 32) kx_213_19 (by decide) (fun hc12 => ?_) (fun hc12 => ?_)
    · have hk13 : M8 63 9 = v11 := v11e
      exact s_vret kx_213_32 kq_213 ⟨_, rfl, rfl, hI8, hFm8, ⟨⟨v7p.2.2.1, by omega, by omega, by unfold PRd; omega, ⟨(by rw [← ca1 (D := D)]; exact v7p.2.2.2.2.2.2.1), fun g => by rw [← ca1 (D := D)] at g; exact absurd g (Yst.pos v7p.2.2.2.2.2.2.1 (by omega)).1⟩⟩, (KB.fr (KB.fr hKX fr2 rfl) fr8 rfl)⟩⟩
    · refine s_aload_n kx_213_22 rfl ?_
      refine r_getR (k := 63) (f := 30) (k2 := 80) kx_213_23 kp_213_102 (tk_63 hT) kf_12_30 (by decide) (rq_63_30 hI8) ?_
      refine s_aload_n kx_213_26 rfl ?_
      refine r_getI (k := 63) (f := 36) kx_213_27 kp_213_121 (tk_63 hT) kf_12_36 (fun _ => rfl) (rg_63_36 hI8) (fun v14 v14e v14a v14b => ?_)
      have v14z : M 63 36 = v14 := (((fr8 63 36 rfl).trans (fr2 63 36 rfl))).symm.trans v14e
      refine s_iload_n kx_213_30 rfl ?_
      refine r_ast (k := 80) kx_213_31 (tk_80 hT) ⟨by omega, by omega⟩ hI8 ru_80 (fun M15 hI15 u15 => ?_)
      have hFm15 := hFm8.up u15 rfl
      have tr16 := (u15.2 63 3 (by omega))
      have tr17 := (u15.2 63 4 (by omega))
      have tr18 := (u15.2 63 5 (by omega))
      have tr19 := (u15.2 63 9 (by omega))
      have tr20 := (u15.2 63 10 (by omega))
      have tr21 := (u15.2 63 36 (by omega))
      have hkx22 := (KB.up1 (KB.fr (KB.fr hKX fr2 rfl) fr8 rfl) u15 (by decide) ⟨by omega, by omega⟩)
      have hk23 : M15 63 9 = v11 := ((u15.2 63 9 (by omega)).trans v11e)
      exact s_vret kx_213_32 kq_213 ⟨_, rfl, rfl, hI15, hFm15, ⟨⟨(LXp.up v7p.2.2.1 u15 (Or.inl (by decide))), by omega, by omega, by unfold PRd; omega, ⟨(by rw [← ca1 (D := D)]; exact (Yst.up v7p.2.2.2.2.2.2.1 u15 ⟨by decide, Or.inl (by decide)⟩)), fun _ => by have hv := (v7p.2.2.2.2.2.2.2 (Yst.zero v7p.2.2.2.2.2.2.1 (by omega)).1).1; unfold owCaD; rw [← yRi, ← hv]; exact RSD.ca (RSD.fr (RSD.fr hR fr2 rfl) fr8 rfl) v14e u15⟩⟩, hkx22⟩⟩
  · have hc24 := v1p.2.2.2.resolve_left (by omega)
    have hc24a := hc24.2.1
    exact s_vret kx_213_8 kq_213 ⟨_, rfl, rfl, hI2, hFm2, ⟨⟨v1p.1, by omega, by omega, by unfold PRd; omega, ⟨False.elim (by have hq := hc24.2.1; omega), fun _ => False.elim (by have hq := hc24.2.1; omega)⟩⟩, (KB.fr hKX fr2 rfl)⟩⟩
def gS_209_m : List (Nat × Nat) := [(63, 10), (63, 13), (63, 3), (63, 4), (63, 5), (63, 6), (63, 7), (63, 8), (63, 9), (74, 99999)]
theorem f_209 {xs : Nat → Int} {Ln d : Nat} {T : List cK} {M : cM} (hT : TT T) (hI : Rng M) (hX : LXp M) {s : Nat → Int} {n q : Int} {D : cM} (hY : Yst M s n 0 q) (hn : n ≤ 1600) (hR : RSD M D) (hW : DW D) {bX : Int} {WX : cM} (hKX : KB bX WX M) (p0 : M 63 4 + 1 ≤ M 63 5) : cC k_P xs Ln (d + 4) 209 [rf 63] (T, M) (qV T M gS_209_m (fun M1 => (LXp M1 ∧ M 63 4 ≤ M1 63 4 ∧ M 63 9 ≤ M1 63 9 ∧ (PRd M M1) ∧ Yst M1 s n (owJoF s n D q) (owJoP s n q) ∧ (owJoF s n D q = 0 → RSD M1 (owJoD s n D q))) ∧ KB bX WX M1)) := by
  show cP k_P xs Ln (d + 4) 209 0 [(0, rf 63)] [] (T, M) _
  have hFm : Fr gS_209_m M M := Fr.refl
  have h639 := rg_63_9 hI
  have hz9 := hY.z.1
  have hzb := hY.z.2.b hn
  have hq0 := hY.z.2.2.2.1
  have hqn := hY.z.2.2.2.2.1
  have hr36 := rg_63_36 hI
  have hq65 := hR.1
  have hq69 := hR.2.1
  have hw0 := hW.1
  have hw1 := hW.2.1
  have hw2 := hW.2.2.1
  have hw3 := hW.2.2.2.1
  have hkx1 := hKX.1
  have hkx2 := hKX.2.1
  have hkx3 := hKX.2.2.1
  refine s_aload_n kx_209_0 rfl ?_
  refine s_iconst (v := 0) kx_209_1 (by decide) ?_
  refine s_callV2 (k := 63) (s1 := 2) (s2 := 0) (as := [(0, 0)]) (rest := []) kx_209_2 kp_209_386 (Or.inl rfl) rfl (tk_63 hT) ki_199 kcl_199 rfl rfl (by decide) (f_199 (d := d + 1) (full := 0) hT hI hX hY hn (by omega)) (kW (fun v1 M2 hI2 fr2 v1p => ?_))
  have hFm2 := hFm.call fr2 rfl
  have tr3 := (fr2 63 36 rfl)
  have tr4 := rg_63_9 hI2
  refine s_if_ne (t := 9) kx_209_5 (by decide) (fun hc5 => ?_) (fun hc5 => ?_)
  · have hc6 := v1p.2.2.2.resolve_right (by omega)
    have hc6a := hc6.2.1
    refine s_aload_n kx_209_9 rfl ?_
    refine s_iconst (v := (-1)) kx_209_10 (by decide) ?_
    refine s_callV2 (k := 63) (s1 := 2) (s2 := 0) (as := [(0, (-1))]) (rest := []) kx_209_11 kp_209_407 (Or.inl rfl) rfl (tk_63 hT) ki_208 kcl_208 rfl rfl (by decide) (f_208 (d := d) (but := (-1)) hT hI2 v1p.1 (show Yst M2 s n 0 (owE s n q) from Or.inr ⟨rfl, hc6.2.1.2.2, hc6.2.2⟩) hn (RSD.fr hR fr2 rfl)) (kW (fun v7 M8 hI8 fr8 v7p => ?_))
    have hFm8 := hFm2.call fr8 rfl
    have tr9 := (fr8 63 36 rfl)
    have tr10 := rg_63_9 hI8
    refine s_istore_n kx_209_14 km_209_1 rfl ?_
    refine s_aload_n kx_209_15 rfl ?_
    refine s_iload_n kx_209_16 rfl ?_
    refine s_callV2 (k := 63) (s1 := 2) (s2 := 0) (as := [(0, v7)]) (rest := []) kx_209_17 kp_209_407 (Or.inl rfl) rfl (tk_63 hT) ki_208 kcl_208 rfl rfl (by decide) (f_208 (d := d) (but := v7) hT hI8 v7p.2.2.1 v7p.2.2.2.2.2.2.1 hn (RSD.fr (RSD.fr hR fr2 rfl) fr8 rfl)) (kW (fun v11 M12 hI12 fr12 v11p => ?_))
    have hFm12 := hFm8.call fr12 rfl
    have tr13 := (fr12 63 36 rfl)
    have tr14 := rg_63_9 hI12
    refine s_istore_n kx_209_20 km_209_2 rfl ?_
    refine s_aload_n kx_209_21 rfl ?_
    refine r_getI (k := 63) (f := 9) kx_209_22 kp_209_39 (tk_63 hT) kf_12_9 (fun _ => rfl) (rg_63_9 hI12) (fun v15 v15e v15a v15b => ?_)
    refine s_if_le (t := 29) kx_209_25 (by decide) (fun hc16 => ?_) (fun hc16 => ?_)
    · refine s_aload_n kx_209_29 rfl ?_
      refine r_getR (k := 63) (f := 24) (k2 := 74) kx_209_30 kp_209_84 (tk_63 hT) kf_12_24 (by decide) (rq_63_24 hI12) ?_
      refine s_bipush (v := 8) kx_209_33 (by decide) ?_
      refine s_aload_n kx_209_35 rfl ?_
      refine r_getI (k := 63) (f := 36) kx_209_36 kp_209_121 (tk_63 hT) kf_12_36 (fun _ => rfl) (rg_63_36 hI12) (fun v17 v17e v17a v17b => ?_)
      have v17z : M 63 36 = v17 := (((fr12 63 36 rfl).trans ((fr8 63 36 rfl).trans (fr2 63 36 rfl)))).symm.trans v17e
      refine r_mul kx_209_39 ⟨by omega, by omega⟩ ?_
      refine s_iload_n kx_209_40 rfl ?_
      refine r_add kx_209_41 ⟨by omega, by omega⟩ ?_
      refine s_iload_n kx_209_42 rfl ?_
      refine r_ast (k := 74) kx_209_43 (tk_74 hT) ⟨by omega, by omega⟩ hI12 (ru_74 (by omega) (by omega)) (fun M18 hI18 u18 => ?_)
      have hFm18 := hFm12.up u18 rfl
      have tr19 := (u18.2 63 3 (by omega))
      have tr20 := (u18.2 63 4 (by omega))
      have tr21 := (u18.2 63 5 (by omega))
      have tr22 := (u18.2 63 9 (by omega))
      have tr23 := (u18.2 63 10 (by omega))
      have tr24 := (u18.2 63 36 (by omega))
      have hkx25 := (KB.up8 (KB.fr (KB.fr (KB.fr hKX fr2 rfl) fr8 rfl) fr12 rfl) u18 (by decide) ⟨by omega, by omega⟩)
      refine s_aload_n kx_209_44 rfl ?_
      refine r_getR (k := 63) (f := 24) (k2 := 74) kx_209_45 kp_209_84 (tk_63 hT) kf_12_24 (by decide) (rq_63_24 hI18) ?_
      refine s_bipush (v := 8) kx_209_48 (by decide) ?_
      refine s_aload_n kx_209_50 rfl ?_
      refine r_getK (k := 63) (f := 36) kx_209_51 kp_209_121 (tk_63 hT) kf_12_36 (fun _ => rfl) ((u18.2 63 36 (by omega)).trans v17e) ?_
      refine r_mul kx_209_54 ⟨by omega, by omega⟩ ?_
      refine s_iload_n kx_209_55 rfl ?_
      refine r_add kx_209_56 ⟨by omega, by omega⟩ ?_
      refine s_iload_n kx_209_57 rfl ?_
      refine r_ast (k := 74) kx_209_58 (tk_74 hT) ⟨by omega, by omega⟩ hI18 (ru_74 (by omega) (by omega)) (fun M26 hI26 u26 => ?_)
      have hFm26 := hFm18.up u26 rfl
      have tr27 := (u26.2 63 3 (by omega))
      have tr28 := (u26.2 63 4 (by omega))
      have tr29 := (u26.2 63 5 (by omega))
      have tr30 := (u26.2 63 9 (by omega))
      have tr31 := (u26.2 63 10 (by omega))
      have tr32 := (u26.2 63 36 (by omega))
      have hkx33 := (KB.up8 hkx25 u26 (by decide) ⟨by omega, by omega⟩)
      have hk34 : M26 63 9 = v15 := ((u26.2 63 9 (by omega)).trans ((u18.2 63 9 (by omega)).trans v15e))
      exact s_vret kx_209_59 kq_209 ⟨_, rfl, rfl, hI26, hFm26, ⟨⟨(LXp.up (LXp.up v11p.2.2.1 u18 (Or.inl (by decide))) u26 (Or.inl (by decide))), by omega, by omega, by unfold PRd; omega, (jo_ok (by omega) v11p.2.2.2.2.2.2.1 (Yst.up (Yst.up v11p.2.2.2.2.2.2.1 u18 ⟨by decide, Or.inl (by decide)⟩) u26 ⟨by decide, Or.inl (by decide)⟩) v7p.2.2.2.2.2.2.2 v11p.2.2.2.2.2.2.2 (fun e1 e2 => by unfold owJoD owAJ; rw [← e1, ← e2]; exact RSD.jn (RSD.jn (RSD.fr (RSD.fr (RSD.fr hR fr2 rfl) fr8 rfl) fr12 rfl) v17e (by omega) (by omega) u18) ((u18.2 63 36 (by omega)).trans v17e) (by omega) (by omega) u26))⟩, hkx33⟩⟩
    · have hk35 : M12 63 9 = v15 := v15e
      exact s_vret kx_209_28 kq_209 ⟨_, rfl, rfl, hI12, hFm12, ⟨⟨v11p.2.2.1, by omega, by omega, by unfold PRd; omega, (jo_pos (by omega) v11p.2.2.2.2.2.2.1 v7p.2.2.2.2.2.2.2)⟩, (KB.fr (KB.fr (KB.fr hKX fr2 rfl) fr8 rfl) fr12 rfl)⟩⟩
  · have hc36 := v1p.2.2.2.resolve_left (by omega)
    have hc36a := hc36.2.1
    exact s_vret kx_209_8 kq_209 ⟨_, rfl, rfl, hI2, hFm2, ⟨⟨v1p.1, by omega, by omega, by unfold PRd; omega, ⟨False.elim (by have hq := hc36.2.1; omega), fun _ => False.elim (by have hq := hc36.2.1; omega)⟩⟩, (KB.fr hKX fr2 rfl)⟩⟩
def gS_205_m : List (Nat × Nat) := [(63, 10), (63, 13), (63, 3), (63, 4), (63, 5), (63, 6), (63, 7), (63, 8), (63, 9), (68, 99999)]
theorem f_205 {xs : Nat → Int} {Ln d : Nat} {T : List cK} {M : cM} (hT : TT T) (hI : Rng M) (hX : LXp M) {s : Nat → Int} {n q : Int} {D : cM} (hY : Yst M s n 0 q) (hn : n ≤ 1600) (hR : RSD M D) (hW : DW D) {bX : Int} {WX : cM} (hKX : KB bX WX M) (p0 : M 63 4 + 1 ≤ M 63 5) : cC k_P xs Ln (d + 4) 205 [rf 63] (T, M) (qV T M gS_205_m (fun M1 => (LXp M1 ∧ M 63 4 ≤ M1 63 4 ∧ M 63 9 ≤ M1 63 9 ∧ (PRd M M1) ∧ Yst M1 s n (owWayF s n D q) (owWayP s n q) ∧ (owWayF s n D q = 0 → RSD M1 (owWayD s n D q))) ∧ KB bX WX M1)) := by
  show cP k_P xs Ln (d + 4) 205 0 [(0, rf 63)] [] (T, M) _
  have hFm : Fr gS_205_m M M := Fr.refl
  have h639 := rg_63_9 hI
  have hz9 := hY.z.1
  have hzb := hY.z.2.b hn
  have hq0 := hY.z.2.2.2.1
  have hqn := hY.z.2.2.2.2.1
  have hr36 := rg_63_36 hI
  have hq65 := hR.1
  have hq69 := hR.2.1
  have hw0 := hW.1
  have hw1 := hW.2.1
  have hw2 := hW.2.2.1
  have hw3 := hW.2.2.2.1
  have hkx1 := hKX.1
  have hkx2 := hKX.2.1
  have hkx3 := hKX.2.2.1
  refine s_aload_n kx_205_0 rfl ?_
  refine s_iconst (v := 0) kx_205_1 (by decide) ?_
  refine s_callV2 (k := 63) (s1 := 2) (s2 := 0) (as := [(0, 0)]) (rest := []) kx_205_2 kp_205_386 (Or.inl rfl) rfl (tk_63 hT) ki_199 kcl_199 rfl rfl (by decide) (f_199 (d := d + 1) (full := 0) hT hI hX hY hn (by omega)) (kW (fun v1 M2 hI2 fr2 v1p => ?_))
  have hFm2 := hFm.call fr2 rfl
  have tr3 := (fr2 63 36 rfl)
  have tr4 := rg_63_9 hI2
  refine s_if_ne (t := 9) kx_205_5 (by decide) (fun hc5 => ?_) (fun hc5 => ?_)
  · have hc6 := v1p.2.2.2.resolve_right (by omega)
    have hc6a := hc6.2.1
    refine s_aload_n kx_205_9 rfl ?_
    refine s_iconst (v := 0) kx_205_10 (by decide) ?_
    refine s_callV2 (k := 63) (s1 := 2) (s2 := 0) (as := [(0, 0)]) (rest := []) kx_205_11 kp_205_401 (Or.inl rfl) rfl (tk_63 hT) ki_203 kcl_203 rfl rfl (by decide) (f_203 (d := d) (kind := 0) hT hI2 v1p.1 (show Yst M2 s n 0 (owE s n q) from Or.inr ⟨rfl, hc6.2.1.2.2, hc6.2.2⟩) hn (RSD.fr hR fr2 rfl) (by omega)) (kW (fun v7 M8 hI8 fr8 v7p => ?_))
    have hFm8 := hFm2.call fr8 rfl
    have tr9 := (fr8 63 36 rfl)
    have tr10 := rg_63_9 hI8
    refine s_istore_n kx_205_14 km_205_1 rfl ?_
    refine s_aload_n kx_205_15 rfl ?_
    refine s_iconst (v := 0) kx_205_16 (by decide) ?_
    refine s_callV2 (k := 63) (s1 := 2) (s2 := 0) (as := [(0, 0)]) (rest := []) kx_205_17 kp_205_383 (Or.inl rfl) rfl (tk_63 hT) ki_202 kcl_202 rfl rfl (by decide) (f_202 (d := d + 1) (kind := 0) hT hI8 v7p.2.2.2.2.2.2.1 hn (RSD.fr (RSD.fr hR fr2 rfl) fr8 rfl) (by omega)) (kW (fun v11 M12 hI12 fr12 v11p => ?_))
    have hFm12 := hFm8.call fr12 rfl
    have tr13 := (fr12 63 3 rfl)
    have tr14 := (fr12 63 4 rfl)
    have tr15 := (fr12 63 5 rfl)
    have tr16 := (fr12 63 6 rfl)
    have tr17 := (fr12 63 36 rfl)
    have tr18 := rg_63_9 hI12
    refine s_istore_n kx_205_20 km_205_2 rfl ?_
    refine s_aload_n kx_205_21 rfl ?_
    refine r_getI (k := 63) (f := 9) kx_205_22 kp_205_39 (tk_63 hT) kf_12_9 (fun _ => rfl) (rg_63_9 hI12) (fun v19 v19e v19a v19b => ?_)
    refine s_if_ne (t := 42) kx_205_25 (by decide) (fun hc20 => ?_) (fun hc20 => ?_)
    · refine s_aload_n kx_205_42 rfl ?_
      refine r_getK (k := 63) (f := 9) kx_205_43 kp_205_39 (tk_63 hT) kf_12_9 (fun _ => rfl) v19e ?_
      refine s_if_le (t := 50) kx_205_46 (by decide) (fun hc21 => absurd hc21 (by omega)) (fun hc21 => ?_)
      have hk22 : M12 63 9 = v19 := v19e
      exact s_vret kx_205_49 kq_205 ⟨_, rfl, rfl, hI12, hFm12, ⟨⟨(LXp.fr v7p.2.2.1 fr12 rfl), by omega, by omega, by unfold PRd; omega, ⟨(by rw [way1 (Yst.pos v11p.2.2.2.2.1 (by omega)).1]; exact yst_is rfl v11p.2.2.2.2.1 (Yst.pos v11p.2.2.2.2.1 (by omega)).1), fun g => absurd (way1 (Yst.pos v11p.2.2.2.2.1 (by omega)).1 ▸ g) (Yst.pos v11p.2.2.2.2.1 (by omega)).1⟩⟩, (KB.fr (KB.fr (KB.fr hKX fr2 rfl) fr8 rfl) fr12 rfl)⟩⟩
    · have hwz := (Yst.zero v11p.2.2.2.2.1 (by omega))
      have hw2 := way2 hwz.1
      have hwa := (v7p.2.2.2.2.2.2.2 (yKr_f hwz.1)).1
      have hwb := (v11p.2.2.2.2.2 hwz.1).1
      have hwa2 : _ < D 0 0 := (v7p.2.2.2.2.2.2.2 (yKr_f hwz.1)).2.1
      have hwb2 : _ < D 0 0 := (v11p.2.2.2.2.2 hwz.1).2.1
      rw [yRi] at hwa hwb
      have hwl := hwz.2.b hn
      have hwp := hwz.2.2.2.1
      refine s_iload_n kx_205_28 rfl ?_
      refine s_iload_n kx_205_29 rfl ?_
      refine s_icmp_ne (t := 42) kx_205_30 (by decide) (fun hc23 => ?_) (fun hc23 => ?_)
      · refine s_aload_n kx_205_42 rfl ?_
        refine r_getK (k := 63) (f := 9) kx_205_43 kp_205_39 (tk_63 hT) kf_12_9 (fun _ => rfl) v19e ?_
        refine s_if_le (t := 50) kx_205_46 (by decide) (fun hc24 => ?_) (fun hc24 => absurd hc24 (by omega))
        refine s_aload_n kx_205_50 rfl ?_
        have hl25 := (show LXp M12 from (LXp.fr v7p.2.2.1 fr12 rfl)).1
        refine s_callV2 (k := 63) (s1 := 1) (s2 := 0) (as := []) (rest := []) kx_205_51 kp_205_286 (Or.inl rfl) rfl (tk_63 hT) ki_180 kcl_180 rfl rfl (by decide) (f_180 (d := d + 2) hT hI12 hwz.2.1 hwz.2.2.1 hwz.2.2.2.2.2.2.1 (owE_i2 ⟨hwz.2.2.2.1, hwz.2.2.2.2.1⟩).1 (owE_i2 ⟨hwz.2.2.2.1, hwz.2.2.2.2.1⟩).2 hwz.2.2.2.2.2.2.2.2.2.2.2.2.2) (kV (fun M27 hI27 fr27 v26p => ?_))
        have hFm27 := hFm12.call fr27 rfl
        have tr28 := (fr27 63 9 rfl)
        have tr29 := (fr27 63 10 rfl)
        have tr30 := (fr27 63 36 rfl)
        have tr31 := rg_63_9 hI27
        refine s_aload_n kx_205_54 rfl ?_
        refine s_ldc2_w kx_205_55 kp_205_297 ?_
        refine s_callV2 (k := 63) (s1 := 3) (s2 := 0) (as := [(1, 499850634611)]) (rest := []) kx_205_58 kp_205_394 (Or.inl rfl) rfl (tk_63 hT) ki_200 kcl_200 rfl rfl (by decide) (f_200 (d := d + 1) (w := 499850634611) hT hI27 (show LXp M27 from v26p.2.2) (show Yst M27 s n 0 (owE s n (owE s n (owE s n q))) from Or.inr ⟨rfl, by omega, v26p.1⟩) hn (w5 := 672503392) n58_takes (Or.inr (by decide)) (by omega)) (kV (fun M33 hI33 fr33 v32p => ?_))
        have hFm33 := hFm27.call fr33 rfl
        have tr34 := (fr33 63 36 rfl)
        have tr35 := rg_63_9 hI33
        refine s_aload_n kx_205_61 rfl ?_
        refine s_iconst (v := 1) kx_205_62 (by decide) ?_
        refine s_bipush (v := 60) kx_205_63 (by decide) ?_
        refine s_callV2 (k := 63) (s1 := 3) (s2 := 0) (as := [(0, 60), (0, 1)]) (rest := []) kx_205_65 kp_205_398 (Or.inl rfl) rfl (tk_63 hT) ki_188 kcl_188 rfl rfl (by decide) (f_188 (d := d + 1) (low := 1) (high := 60) hT hI33 v32p.1 v32p.2.2.2.2 hn) (kW (fun v36 M37 hI37 fr37 v36p => ?_))
        have hFm37 := hFm33.call fr37 rfl
        have tr38 := (fr37 63 36 rfl)
        have tr39 := rg_63_9 hI37
        have hnb40 := v36p.2.2.2.1
        unfold NBd at hnb40
        refine s_istore_n kx_205_68 km_205_3 rfl ?_
        refine s_aload_n kx_205_69 rfl ?_
        refine r_getI (k := 63) (f := 9) kx_205_70 kp_205_39 (tk_63 hT) kf_12_9 (fun _ => rfl) (rg_63_9 hI37) (fun v41 v41e v41a v41b => ?_)
        refine s_if_le (t := 77) kx_205_73 (by decide) (fun hc42 => ?_) (fun hc42 => ?_)
        · refine s_aload_n kx_205_77 rfl ?_
          refine r_getR (k := 63) (f := 18) (k2 := 68) kx_205_78 kp_205_66 (tk_63 hT) kf_12_18 (by decide) (rq_63_18 hI37) ?_
          refine s_bipush (v := 8) kx_205_81 (by decide) ?_
          refine s_bipush (v := 8) kx_205_83 (by decide) ?_
          refine s_aload_n kx_205_85 rfl ?_
          refine r_getI (k := 63) (f := 36) kx_205_86 kp_205_121 (tk_63 hT) kf_12_36 (fun _ => rfl) (rg_63_36 hI37) (fun v43 v43e v43a v43b => ?_)
          have v43z : M 63 36 = v43 := (((fr37 63 36 rfl).trans ((fr33 63 36 rfl).trans ((fr27 63 36 rfl).trans ((fr12 63 36 rfl).trans ((fr8 63 36 rfl).trans (fr2 63 36 rfl))))))).symm.trans v43e
          refine r_mul kx_205_89 ⟨by omega, by omega⟩ ?_
          refine s_iload_n kx_205_90 rfl ?_
          refine r_add kx_205_91 ⟨by omega, by omega⟩ ?_
          refine r_mul kx_205_92 ⟨by omega, by omega⟩ ?_
          refine s_iload_n kx_205_93 rfl ?_
          refine r_add kx_205_94 ⟨by omega, by omega⟩ ?_
          refine s_iload_n kx_205_95 rfl ?_
          refine r_ast (k := 68) kx_205_96 (tk_68 hT) ⟨by omega, by omega⟩ hI37 (ru_68 (by omega) (by omega)) (fun M44 hI44 u44 => ?_)
          have hFm44 := hFm37.up u44 rfl
          have tr45 := (u44.2 63 3 (by omega))
          have tr46 := (u44.2 63 4 (by omega))
          have tr47 := (u44.2 63 5 (by omega))
          have tr48 := (u44.2 63 9 (by omega))
          have tr49 := (u44.2 63 10 (by omega))
          have tr50 := (u44.2 63 36 (by omega))
          have hkx51 := (KB.up64 (KB.fr (KB.fr (KB.fr (KB.fr (KB.fr (KB.fr hKX fr2 rfl) fr8 rfl) fr12 rfl) fr27 rfl) fr33 rfl) fr37 rfl) u44 ⟨by omega, by omega⟩)
          refine s_aload_n kx_205_97 rfl ?_
          refine r_getR (k := 63) (f := 18) (k2 := 68) kx_205_98 kp_205_66 (tk_63 hT) kf_12_18 (by decide) (rq_63_18 hI44) ?_
          refine s_bipush (v := 8) kx_205_101 (by decide) ?_
          refine s_bipush (v := 8) kx_205_103 (by decide) ?_
          refine s_aload_n kx_205_105 rfl ?_
          refine r_getK (k := 63) (f := 36) kx_205_106 kp_205_121 (tk_63 hT) kf_12_36 (fun _ => rfl) ((u44.2 63 36 (by omega)).trans v43e) ?_
          refine r_mul kx_205_109 ⟨by omega, by omega⟩ ?_
          refine s_iload_n kx_205_110 rfl ?_
          refine r_add kx_205_111 ⟨by omega, by omega⟩ ?_
          refine r_mul kx_205_112 ⟨by omega, by omega⟩ ?_
          refine s_iload_n kx_205_113 rfl ?_
          refine r_add kx_205_114 ⟨by omega, by omega⟩ ?_
          refine s_iload_n kx_205_115 rfl ?_
          refine r_ast (k := 68) kx_205_116 (tk_68 hT) ⟨by omega, by omega⟩ hI44 (ru_68 (by omega) (by omega)) (fun M52 hI52 u52 => ?_)
          have hFm52 := hFm44.up u52 rfl
          have tr53 := (u52.2 63 3 (by omega))
          have tr54 := (u52.2 63 4 (by omega))
          have tr55 := (u52.2 63 5 (by omega))
          have tr56 := (u52.2 63 9 (by omega))
          have tr57 := (u52.2 63 10 (by omega))
          have tr58 := (u52.2 63 36 (by omega))
          have hkx59 := (KB.up64 hkx51 u52 ⟨by omega, by omega⟩)
          have hk60 : M52 63 9 = v41 := ((u52.2 63 9 (by omega)).trans ((u44.2 63 9 (by omega)).trans v41e))
          exact s_vret kx_205_117 kq_205 ⟨_, rfl, rfl, hI52, hFm52, ⟨⟨(LXp.up (LXp.up v36p.1 u44 (Or.inl (by decide))) u52 (Or.inl (by decide))), by omega, by omega, by unfold PRd; omega, ⟨(by rw [← way3 (s := s) (n := n) (D := D) ⟨hq0, hqn⟩ hw2 (by omega)]; exact (Yst.up (Yst.up v36p.2.2.2.2.1 u44 ⟨by decide, Or.inl (by decide)⟩) u52 ⟨by decide, Or.inl (by decide)⟩)), fun _ => by unfold owWayD; rw [← v36p.2.2.2.2.2 (Yst.zero v36p.2.2.2.2.1 (by omega)).1]; exact RSD.aw (RSD.fr (RSD.fr (RSD.fr (RSD.fr (RSD.fr (RSD.fr hR fr2 rfl) fr8 rfl) fr12 rfl) fr27 rfl) fr33 rfl) fr37 rfl) v43e (by omega) ⟨by omega, by omega⟩ ⟨by omega, by omega⟩ (by omega) u44 (by first | exact u52 | omega) (by omega) (by omega)⟩⟩, hkx59⟩⟩
        · have hk61 : M37 63 9 = v41 := v41e
          exact s_vret kx_205_76 kq_205 ⟨_, rfl, rfl, hI37, hFm37, ⟨⟨v36p.1, by omega, by omega, by unfold PRd; omega, ⟨(by rw [← way3 (s := s) (n := n) (D := D) ⟨hq0, hqn⟩ hw2 (by omega)]; exact v36p.2.2.2.2.1), fun g => by rw [← way3 (s := s) (n := n) (D := D) ⟨hq0, hqn⟩ hw2 (by omega)] at g; exact absurd g (Yst.pos v36p.2.2.2.2.1 (by omega)).1⟩⟩, (KB.fr (KB.fr (KB.fr (KB.fr (KB.fr (KB.fr hKX fr2 rfl) fr8 rfl) fr12 rfl) fr27 rfl) fr33 rfl) fr37 rfl)⟩⟩
      · refine s_aload_n kx_205_33 rfl ?_
        refine s_iconst (v := 3) kx_205_34 (by decide) ?_
        refine s_aload_n kx_205_35 rfl ?_
        refine r_getI (k := 63) (f := 4) kx_205_36 kp_205_23 (tk_63 hT) kf_12_4 (fun _ => rfl) (rg_63_4 hI12) (fun v62 v62e v62a v62b => ?_)
        refine s_callV2 (k := 63) (s1 := 3) (s2 := 0) (as := [(0, v62), (0, 3)]) (rest := []) kx_205_39 kp_205_263 (Or.inl rfl) rfl (tk_63 hT) ki_176 kcl_176 rfl rfl (by decide) (f_176 (d := d + 3) (kind := 3) (place := v62) hT hI12 (by omega)) (kV (fun M64 hI64 fr64 v63p => ?_))
        have hFm64 := hFm12.call fr64 rfl
        have tr65 := (fr64 63 3 rfl)
        have tr66 := (fr64 63 4 rfl)
        have tr67 := (fr64 63 5 rfl)
        have tr68 := (fr64 63 6 rfl)
        have tr69 := (fr64 63 36 rfl)
        have tr70 := rg_63_9 hI64
        refine s_aload_n kx_205_42 rfl ?_
        refine r_getI (k := 63) (f := 9) kx_205_43 kp_205_39 (tk_63 hT) kf_12_9 (fun _ => rfl) (rg_63_9 hI64) (fun v71 v71e v71a v71b => ?_)
        refine s_if_le (t := 50) kx_205_46 (by decide) (fun hc72 => ?_) (fun hc72 => ?_)
        · exact absurd h639 (by omega)
        · have hk73 : M64 63 4 = v62 := ((fr64 63 4 rfl).trans v62e)
          have hk74 : M64 63 9 = v71 := v71e
          exact s_vret kx_205_49 kq_205 ⟨_, rfl, rfl, hI64, hFm64, ⟨⟨(LXp.fr (LXp.fr v7p.2.2.1 fr12 rfl) fr64 rfl), by omega, by omega, by unfold PRd; omega, ⟨(yst_bl (k := 3) (x := owB s n (owE s n (owE s n q))) (by omega) (by omega) (by decide) (by omega) (by unfold owWayF; (repeat' split) <;> omega)), fun g => by exfalso; unfold owWayF at g; (repeat' split at g) <;> omega⟩⟩, (KB.fr (KB.fr (KB.fr (KB.fr hKX fr2 rfl) fr8 rfl) fr12 rfl) fr64 rfl)⟩⟩
  · have hc75 := v1p.2.2.2.resolve_left (by omega)
    have hc75a := hc75.2.1
    exact s_vret kx_205_8 kq_205 ⟨_, rfl, rfl, hI2, hFm2, ⟨⟨v1p.1, by omega, by omega, by unfold PRd; omega, ⟨False.elim (by have hq := hc75.2.1; omega), fun _ => False.elim (by have hq := hc75.2.1; omega)⟩⟩, (KB.fr hKX fr2 rfl)⟩⟩
theorem f_206 {xs : Nat → Int} {Ln d : Nat} {T : List cK} {M : cM} (hT : TT T) (hI : Rng M) {r : Int} {D : cM} (hR : RSD M D) (hW : DW D) : cC k_P xs Ln (d + 0) 206 [rf 63, (0, r)] (T, M) (qF T M 0 (fun v => v = owLd D r (D 0 1).toNat)) := by
  show cP k_P xs Ln (d + 0) 206 0 [(0, rf 63), (1, (0, r))] [] (T, M) _
  have hr36 := rg_63_36 hI
  have hq69 := hR.2.1
  have hw2 := hW.2.2.1
  have hw3 := hW.2.2.2.1
  refine s_iconst (v := 0) kx_206_0 (by decide) ?_
  refine s_istore_n kx_206_1 km_206_2 rfl ?_
  refine s_iconst (v := 0) kx_206_2 (by decide) ?_
  refine s_istore_n kx_206_3 km_206_3 rfl ?_
  have key3 : ∀ n4 : Nat, ∀ (x2_1 x3_2 : Int), (0 ≤ x2_1) → (x2_1 ≤ 80) → (0 ≤ x3_2) → (x3_2 ≤ D 0 1) → (x2_1 = 0 + owLd D r (x3_2).toNat) → (2147483647 - x3_2).toNat < n4 → cP k_P xs Ln (d + 0) 206 4 [(0, rf 63), (1, (0, r)), (2, (0, x2_1)), (3, (0, x3_2))] [] (T, M) (qF T M 0 (fun v => v = owLd D r (D 0 1).toNat)) := by
    intro n4
    induction n4 with
    | zero => intro x2_1 x3_2 i5 i6 i7 i8 i9 hm10; exact absurd hm10 (Nat.not_lt_zero _)
    | succ n4 ih11 =>
      intro x2_1 x3_2 i5 i6 i7 i8 i9 hm10
      refine s_iload_n kx_206_4 rfl ?_
      refine s_aload_n kx_206_5 rfl ?_
      refine r_getR (k := 63) (f := 19) (k2 := 69) kx_206_6 kp_206_69 (tk_63 hT) kf_12_19 (by decide) (rq_63_19 hI) ?_
      refine s_aload_n kx_206_9 rfl ?_
      refine r_getI (k := 63) (f := 36) kx_206_10 kp_206_121 (tk_63 hT) kf_12_36 (fun _ => rfl) (rg_63_36 hI) (fun v12 v12e v12a v12b => ?_)
      have hq69i := hq69
      rw [v12e] at hq69i
      refine r_ald (k := 69) kx_206_13 (tk_69 hT) ⟨by omega, by omega⟩ (rg_69 hI) (fun v13 v13e v13a v13b => ?_)
      refine s_icmp_ge (t := 62) kx_206_14 (by decide) (fun hc14 => ?_) (fun hc14 => ?_)
      · rw [show D 0 1 = x3_2 by omega]
        refine s_iload_n kx_206_62 rfl ?_
        exact s_iret kx_206_63 (Or.inl kq_206) ⟨_, rfl, rfl, (by omega)⟩
      · have hpp := hR.pers v12e (j := x3_2) (by omega) (by omega)
        have hdw := hW.2.2.2.2.1 (x3_2).toNat (by omega)
        have hld := owLd_rng hW r (x3_2).toNat (by omega)
        refine s_iload_n kx_206_17 rfl ?_
        refine s_aload_n kx_206_18 rfl ?_
        refine r_getR (k := 63) (f := 23) (k2 := 73) kx_206_19 kp_206_81 (tk_63 hT) kf_12_23 (by decide) (rq_63_23 hI) ?_
        refine s_bipush (v := 8) kx_206_22 (by decide) ?_
        refine s_aload_n kx_206_24 rfl ?_
        refine r_getK (k := 63) (f := 36) kx_206_25 kp_206_121 (tk_63 hT) kf_12_36 (fun _ => rfl) v12e ?_
        refine r_mul kx_206_28 ⟨by omega, by omega⟩ ?_
        refine s_iload_n kx_206_29 rfl ?_
        refine r_add kx_206_30 ⟨by omega, by omega⟩ ?_
        refine r_ald (k := 73) kx_206_31 (tk_73 hT) ⟨by omega, by omega⟩ (rg_73 hI) (fun v15 v15e v15a v15b => ?_)
        refine s_iload_n kx_206_32 rfl ?_
        refine s_icmp_ne (t := 53) kx_206_33 (by decide) (fun hc16 => ?_) (fun hc16 => ?_)
        · refine s_iconst (v := 0) kx_206_53 (by decide) ?_
          refine r_add kx_206_54 ⟨by omega, by omega⟩ ?_
          refine s_istore_n kx_206_55 km_206_2 rfl ?_
          refine r_iinc kx_206_56 rfl km_206_3 (by decide) ⟨by omega, by omega⟩ rfl ?_
          refine s_goto (t := 4) kx_206_59 (by decide) ?_
          exact cP.wk (lS1 rfl (lS1 rfl (lS1 rfl (lS1 rfl lS0)))) (ih11 (x2_1 + 0) (x3_2 + 1) (by omega) (by omega) (by omega) (by omega) (owLd_next i9 (by omega) (by omega)) (by omega))
        · refine s_aload_n kx_206_36 rfl ?_
          refine r_getR (k := 63) (f := 22) (k2 := 72) kx_206_37 kp_206_78 (tk_63 hT) kf_12_22 (by decide) (rq_63_22 hI) ?_
          refine s_bipush (v := 8) kx_206_40 (by decide) ?_
          refine s_aload_n kx_206_42 rfl ?_
          refine r_getK (k := 63) (f := 36) kx_206_43 kp_206_121 (tk_63 hT) kf_12_36 (fun _ => rfl) v12e ?_
          refine r_mul kx_206_46 ⟨by omega, by omega⟩ ?_
          refine s_iload_n kx_206_47 rfl ?_
          refine r_add kx_206_48 ⟨by omega, by omega⟩ ?_
          refine r_aldU (k := 72) kx_206_49 (tk_72 hT) ⟨by omega, by omega⟩ (fun v17 v17e => ?_)
          refine s_goto (t := 54) kx_206_50 (by decide) ?_
          refine r_add kx_206_54 ⟨by omega, by omega⟩ ?_
          refine s_istore_n kx_206_55 km_206_2 rfl ?_
          refine r_iinc kx_206_56 rfl km_206_3 (by decide) ⟨by omega, by omega⟩ rfl ?_
          refine s_goto (t := 4) kx_206_59 (by decide) ?_
          exact cP.wk (lS1 rfl (lS1 rfl (lS1 rfl (lS1 rfl lS0)))) (ih11 (x2_1 + v17) (x3_2 + 1) (by omega) (by omega) (by omega) (by omega) (owLd_next i9 (by omega) (by omega)) (by omega))
  exact cP.wk (lS1 rfl (lS1 rfl (lS1 rfl (lS1 rfl lS0)))) (key3 _ 0 0 (by omega) (by omega) (by omega) (by omega) rfl (Nat.lt_succ_self _))
