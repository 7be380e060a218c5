/-! a sum is read -/
theorem OPd.prog {M M1 : cM} {c : Nat → Int} {a v : Int} (h : OPd M M1 c a v) (h9 : ¬ 1 ≤ M1 63 9) : M 63 4 + 1 ≤ M1 63 4 := (Or.resolve_left h h9).1
def RDd (M M1 : cM) : Prop := 1 ≤ M1 63 9 ∨ (M 63 35 ≤ M1 63 35 ∧ M1 63 35 ≤ M1 63 4 ∧ hgt M1 (1600 * M 63 36 + M 63 35).toNat (M1 63 35 - M 63 35).toNat ≠ none ∧ ∀ k, k < (1600 * M 63 36 + M 63 35).toNat → M1 81 k = M 81 k)
theorem PI.rd {M M1 : cM} (h : PI M1 (M 81) (M 63 35) 1 7 (M1 63 4) 0) (h36 : M1 63 36 = M 63 36) : RDd M M1 := by
  obtain ⟨F, fs, hG, hC, hR, h42, h43, hr, ha, hac, hh, hq, h45, h36'⟩ := h
  rw [h36] at hC hh
  exact Or.inr ⟨hac, by omega, by rw [hh]; exact Option.some_ne_none _, hC⟩
theorem PI.start {M M1 : cM} {c : Nat → Int} {a k q : Int} (hu : Pu M M1 k) (g : Fr [(63, 42), (85, 99999), (86, 99999), (87, 99999), (89, 99999)] M M1) (ha : M 63 35 = a) (h42 : M 63 42 = 0) (h43 : M 63 43 = 0) (h45 : M 63 45 = 0) (hk : k < 2) (h35 : 0 ≤ M 63 35) (h36 : 0 ≤ M 63 36) (hq : M 63 35 ≤ q) (hC : ∀ k, k < (1600 * M 63 36 + M 63 35).toNat → M 81 k = c k) : PI M1 c a 0 7 q 0 := by
  obtain ⟨p1, p2, p3, p4, p5, p6, p7⟩ := hu
  rw [h42] at p2 p5
  have e35 : M1 63 35 = M 63 35 := g 63 35 rfl
  have e36 : M1 63 36 = M 63 36 := g 63 36 rfl
  have q2 : M1 85 0 = k := p2
  have q5 : M1 89 0 = M 63 45 := p5
  rw [← ha, ← e35]
  refine PI.init (by rw [p1, h42]; rfl) (by rw [g 63 43 rfl]; exact h43) (by rw [g 63 45 rfl]; exact h45) (by omega) (by omega) (by omega) (by omega) (by omega) ?_
  intro j hj
  rw [e35, e36] at hj
  rw [g 81 j rfl]
  exact hC j hj
def RLp (M0 M : cM) (m : Int) : Prop := (m = 0 ∧ RDd M0 M) ∨ (m = 1 ∧ M 63 9 = 0 ∧ ((M 63 46 = 0 ∧ PI M (M0 81) (M0 63 35) 0 7 (M 63 4) 0) ∨ (M 63 46 = 1 ∧ B0 M ∧ PI M (M0 81) (M0 63 35) 1 7 (M 63 4) 0)))
theorem RLp.more {M0 M : cM} {m : Int} (h : RLp M0 M m) (hm : m ≠ 0) : M 63 9 = 0 ∧ ((M 63 46 = 0 ∧ PI M (M0 81) (M0 63 35) 0 7 (M 63 4) 0) ∨ (M 63 46 = 1 ∧ B0 M ∧ PI M (M0 81) (M0 63 35) 1 7 (M 63 4) 0)) := (Or.resolve_left h (fun z => hm z.1)).2
theorem RLp.done {M0 M : cM} {m : Int} (h : RLp M0 M m) (hm : m = 0) : RDd M0 M := (Or.resolve_right h (fun z => absurd (hm.symm.trans z.1) (by decide))).2
theorem RLp.op {M0 Ma M M1 : cM} {v : Int} (h : OPd Ma M (M0 81) (M0 63 35) v) (h9 : ¬ 1 ≤ M 63 9) (h90 : 0 ≤ M 63 9) (u : Up M 63 46 v M1) : RLp M0 M1 1 := by
  have e9 : M1 63 9 = M 63 9 := u.2 63 9 (by omega)
  have e4 : M1 63 4 = M 63 4 := u.2 63 4 (by omega)
  obtain ⟨_, h⟩ := Or.resolve_left h h9
  refine Or.inr ⟨rfl, by omega, ?_⟩
  rw [u.1, e4]
  rcases h with ⟨h1, h2, h3⟩ | ⟨h1, h2⟩
  · exact Or.inr ⟨h1, h2.up u (by decide), h3.fr (Up.fr u) rfl⟩
  · exact Or.inl ⟨h1, h2.fr (Up.fr u) rfl⟩
theorem RLp.go {M0 M M1 : cM} {v : Int} (h : GOd M M1 (M0 81) (M0 63 35) v) (h46 : M 63 46 = 1) (h36 : M1 63 36 = M0 63 36) : (1 ≤ M1 63 9 → RLp M0 M1 0) ∧ (v = 0 → RLp M0 M1 0) ∧ (v ≠ 0 → ¬ 1 ≤ M1 63 9 → 0 ≤ M1 63 9 → RLp M0 M1 1 ∧ M 63 4 + 1 ≤ M1 63 4) := by
  refine ⟨fun z => Or.inl ⟨rfl, Or.inl z⟩, fun z => ?_, fun z z9 z0 => ?_⟩
  · rcases h with h | ⟨_, h⟩ | ⟨h1, _⟩
    · exact Or.inl ⟨rfl, Or.inl h⟩
    · exact Or.inl ⟨rfl, h.rd h36⟩
    · omega
  · rcases h with h | ⟨h1, _⟩ | ⟨_, h2, h3⟩
    · exact absurd h z9
    · exact absurd h1 z
    · refine ⟨Or.inr ⟨rfl, by omega, ?_⟩, h2⟩
      rcases h3 with ⟨a, b⟩ | ⟨a, b, c⟩
      · exact Or.inl ⟨a, b⟩
      · exact Or.inr ⟨a.trans h46, b, c⟩
/-- the sum told by x, y in the town that is read can be reckoned -/
def tS (M : cM) (x y : Nat) : Prop := M x (M 63 36).toNat = -1 ∨ (0 ≤ M x (M 63 36).toNat ∧ M x (M 63 36).toNat ≤ M y (M 63 36).toNat ∧ M y (M 63 36).toNat ≤ M 63 35 ∧ hgt M (1600 * M 63 36 + M x (M 63 36).toNat).toNat (M y (M 63 36).toNat - M x (M 63 36).toNat).toNat ≠ none)
theorem tS.keep {M M3 : cM} {x y : Nat} (h : tS M x y) (h0 : 0 ≤ M 63 36) (e36 : M3 63 36 = M 63 36) (ex : M3 x (M 63 36).toNat = M x (M 63 36).toNat) (ey : M3 y (M 63 36).toNat = M y (M 63 36).toNat) (hc : M 63 35 ≤ M3 63 35) (h81 : ∀ k, k < (1600 * M 63 36 + M 63 35).toNat → M3 81 k = M 81 k) : tS M3 x y := by
  unfold tS
  rw [e36, ex, ey]
  rcases h with h | ⟨h1, h2, h3, h4⟩
  · exact Or.inl h
  · refine Or.inr ⟨h1, h2, by omega, ?_⟩
    rw [hgt_congr (fun k k1 k2 => h81 k (by omega))]
    exact h4
theorem tS.new {M3 : cM} {x y : Nat} {c0 : Int} (hx : M3 x (M3 63 36).toNat = c0) (hy : M3 y (M3 63 36).toNat = M3 63 35) (h0 : 0 ≤ c0) (hle : c0 ≤ M3 63 35) (hg : hgt M3 (1600 * M3 63 36 + c0).toNat (M3 63 35 - c0).toNat ≠ none) : tS M3 x y := by
  unfold tS
  rw [hx, hy]
  exact Or.inr ⟨h0, hle, Int.le_refl _, hg⟩
def TSg (M : cM) : Prop := tS M 75 76 ∧ tS M 77 78
def tsd (S : List (Nat × Nat)) : Bool := !c_in S 63 35 && !c_in S 63 36 && [75, 76, 77, 78, 81].all fun c => S.all fun p => p.1 != c
theorem tsd.get {S : List (Nat × Nat)} {M M1 : cM} (g : Fr S M M1) (hs : tsd S = true) : M1 63 35 = M 63 35 ∧ M1 63 36 = M 63 36 ∧ (∀ f, M1 75 f = M 75 f) ∧ (∀ f, M1 76 f = M 76 f) ∧ (∀ f, M1 77 f = M 77 f) ∧ (∀ f, M1 78 f = M 78 f) ∧ (∀ f, M1 81 f = M 81 f) := by
  unfold tsd at hs
  rw [Bool.and_eq_true, Bool.and_eq_true] at hs
  obtain ⟨⟨h1, h2⟩, h3⟩ := hs
  have h4 : ∀ c, c ∈ [75, 76, 77, 78, 81] → c < 114 → ∀ f, M1 c f = M c f := fun c hc hl f => g c f (nin hl (List.all_eq_true.mp h3 c hc) f)
  exact ⟨g 63 35 (by simpa using h1), g 63 36 (by simpa using h2), h4 75 (by decide) (by decide), h4 76 (by decide) (by decide), h4 77 (by decide) (by decide), h4 78 (by decide) (by decide), h4 81 (by decide) (by decide)⟩
theorem TSg.fr {S : List (Nat × Nat)} {M M1 : cM} (h : TSg M) (h0 : 0 ≤ M 63 36) (g : Fr S M M1) (hs : tsd S = true) : TSg M1 := by
  obtain ⟨e1, e2, e3, e4, e5, e6, e7⟩ := tsd.get g hs
  exact ⟨h.1.keep h0 e2 (e3 _) (e4 _) (by omega) (fun k _ => e7 k), h.2.keep h0 e2 (e5 _) (e6 _) (by omega) (fun k _ => e7 k)⟩
/-- what belongs to the other town stays -/
def KO (M M1 : cM) : Prop := KP M M1 ∧ ∀ x, 75 ≤ x → x ≤ 78 → M1 x (1 - M 63 36).toNat = M x (1 - M 63 36).toNat
theorem KO.refl {M : cM} : KO M M := ⟨KP.refl, fun _ _ _ => rfl⟩
theorem KO.fr {S : List (Nat × Nat)} {M0 M M1 : cM} (h : KO M0 M) (g : Fr S M M1) (hs : tsd S = true) : KO M0 M1 := by
  obtain ⟨e1, e2, e3, e4, e5, e6, e7⟩ := tsd.get g hs
  refine ⟨fun k hk => (e7 k).trans (h.1 k hk), fun x x1 x2 => ?_⟩
  have : x = 75 ∨ x = 76 ∨ x = 77 ∨ x = 78 := by omega
  rcases this with rfl | rfl | rfl | rfl
  · exact (e3 _).trans (h.2 _ x1 x2)
  · exact (e4 _).trans (h.2 _ x1 x2)
  · exact (e5 _).trans (h.2 _ x1 x2)
  · exact (e6 _).trans (h.2 _ x1 x2)
theorem KO.up {M0 M M1 : cM} {k f : Nat} {v : Int} (h : KO M0 M) (u : Up M k f v M1) (hk : k ≠ 81) (h2 : f ≠ (1 - M0 63 36).toNat ∨ k < 75 ∨ 78 < k) : KO M0 M1 :=
  ⟨h.1.up u hk, fun x x1 x2 => (u.2 x _ (by omega)).trans (h.2 x x1 x2)⟩
theorem KO.rd {S : List (Nat × Nat)} {M0 M M1 : cM} (h : KO M0 M) (h36 : M 63 36 = M0 63 36) (g : Fr S M M1) (hs : ([75, 76, 77, 78].all fun c => S.all fun p => p.1 != c) = true) (hk : KP M M1) : KO M0 M1 := by
  refine ⟨h.1.trans h36 hk, fun x x1 x2 => (g x _ (nin (by omega) (List.all_eq_true.mp hs x ?_) _)).trans (h.2 x x1 x2)⟩
  have : x = 75 ∨ x = 76 ∨ x = 77 ∨ x = 78 := by omega
  rcases this with rfl | rfl | rfl | rfl <;> decide
theorem KO.trans {M0 M M1 : cM} (h : KO M0 M) (h36 : M 63 36 = M0 63 36) (g : KO M M1) : KO M0 M1 := by
  refine ⟨h.1.trans h36 g.1, fun x x1 x2 => ?_⟩
  have := g.2 x x1 x2
  rw [h36] at this
  exact this.trans (h.2 x x1 x2)
def SLd (M M1 : cM) : Prop := 1 ≤ M1 63 9 ∨ (M 63 4 + 1 ≤ M1 63 4 ∧ TSg M1 ∧ M1 63 35 ≤ M1 63 4)
theorem SLd.of {M M1 M2 : cM} (h : PRd M1 M2) (hm : M 63 4 ≤ M1 63 4) (ts : TSg M2) (hc : M2 63 35 ≤ M2 63 4) : SLd M M2 := by
  rcases h with h | h
  · exact Or.inl h
  · exact Or.inr ⟨by omega, ts, hc⟩
theorem TS_put {S : List (Nat × Nat)} {M5 M6 M7 M8 : cM} {i c0 c1 : Int} {x y z w : Nat} (hx : (x = 75 ∧ y = 76 ∧ z = 77 ∧ w = 78) ∨ (x = 77 ∧ y = 78 ∧ z = 75 ∧ w = 76)) (h : tS M5 z w) (hi : M5 63 36 = i) (hc : M5 63 35 = c0) (i0 : 0 ≤ i) (c00 : 0 ≤ c0) (u1 : Up M5 x i.toNat c0 M6) (g : Fr S M6 M7) (s36 : c_in S 63 36 = false) (sx : ([75, 76, 77, 78].all fun c => S.all fun p => p.1 != c) = true) (hr : RDd M6 M7) (h9 : ¬ 1 ≤ M7 63 9) (hc1 : M7 63 35 = c1) (u2 : Up M7 y i.toNat c1 M8) : tS M8 x y ∧ tS M8 z w := by
  subst hi hc hc1
  have g7 : ∀ c, c = 75 ∨ c = 76 ∨ c = 77 ∨ c = 78 → ∀ f, M7 c f = M6 c f := fun c hcc f => g c f (nin (by omega) (List.all_eq_true.mp sx c (by rcases hcc with rfl | rfl | rfl | rfl <;> decide)) f)
  obtain ⟨r1, r2, r3, r4⟩ := Or.resolve_left hr h9
  have a36 : M6 63 36 = M5 63 36 := u1.2 63 36 (by omega)
  have a35 : M6 63 35 = M5 63 35 := u1.2 63 35 (by omega)
  have b36 : M8 63 36 = M5 63 36 := ((u2.2 63 36 (by omega)).trans (g 63 36 s36)).trans a36
  have b35 : M8 63 35 = M7 63 35 := u2.2 63 35 (by omega)
  have b81 : ∀ k, M8 81 k = M7 81 k := fun k => u2.2 81 k (by omega)
  rw [a36, a35] at r3 r4
  rw [a35] at r1
  constructor
  · refine tS.new (c0 := M5 63 35) ?_ ?_ c00 (by omega) ?_
    · rw [b36, u2.2 x _ (by omega), g7 x (by omega)]
      exact u1.1
    · rw [b36, b35]
      exact u2.1
    · rw [b36, b35, hgt_congr (fun k _ _ => b81 k)]
      exact r3
  · refine h.keep i0 b36 ?_ ?_ (by omega) ?_
    · rw [u2.2 z _ (by omega), g7 z (by omega)]
      exact u1.2 z _ (by omega)
    · rw [u2.2 w _ (by omega), g7 w (by omega)]
      exact u1.2 w _ (by omega)
    · intro k hk
      rw [b81, r4 k hk]
      exact u1.2 81 k (by omega)
theorem kx_198_0 : x_code k_P 198 0 = some (.aload_n 0, 1) := by decide +kernel
theorem kx_198_1 : x_code k_P 198 1 = some (.getfield 39, 3) := by decide +kernel
theorem kp_198_39 : x_pool k_P 198 39 = (1, 12, 9) := by decide +kernel
theorem kx_198_4 : x_code k_P 198 4 = some (.ifCond .le 4, 3) := by decide +kernel
theorem kx_198_8 : x_code k_P 198 8 = some (.aload_n 0, 1) := by decide +kernel
theorem kx_198_9 : x_code k_P 198 9 = some (.iconst 0, 1) := by decide +kernel
theorem kx_198_10 : x_code k_P 198 10 = some (.putfield 140, 3) := by decide +kernel
theorem kp_198_140 : x_pool k_P 198 140 = (1, 12, 42) := by decide +kernel
theorem kx_198_13 : x_code k_P 198 13 = some (.aload_n 0, 1) := by decide +kernel
theorem kx_198_14 : x_code k_P 198 14 = some (.iconst 0, 1) := by decide +kernel
theorem kx_198_15 : x_code k_P 198 15 = some (.putfield 143, 3) := by decide +kernel
theorem kp_198_143 : x_pool k_P 198 143 = (1, 12, 43) := by decide +kernel
theorem kx_198_18 : x_code k_P 198 18 = some (.aload_n 0, 1) := by decide +kernel
theorem kx_198_19 : x_code k_P 198 19 = some (.iconst 0, 1) := by decide +kernel
theorem kx_198_20 : x_code k_P 198 20 = some (.putfield 149, 3) := by decide +kernel
theorem kp_198_149 : x_pool k_P 198 149 = (1, 12, 45) := by decide +kernel
theorem kx_198_23 : x_code k_P 198 23 = some (.aload_n 0, 1) := by decide +kernel
theorem kx_198_24 : x_code k_P 198 24 = some (.iconst 0, 1) := by decide +kernel
theorem kx_198_25 : x_code k_P 198 25 = some (.putfield 152, 3) := by decide +kernel
theorem kp_198_152 : x_pool k_P 198 152 = (1, 12, 46) := by decide +kernel
theorem kx_198_28 : x_code k_P 198 28 = some (.aload_n 0, 1) := by decide +kernel
theorem kx_198_29 : x_code k_P 198 29 = some (.iload_n 1, 1) := by decide +kernel
theorem kx_198_30 : x_code k_P 198 30 = some (.ifCond .eq 7, 3) := by decide +kernel
theorem kx_198_37 : x_code k_P 198 37 = some (.iconst 0, 1) := by decide +kernel
theorem kx_198_33 : x_code k_P 198 33 = some (.iconst 1, 1) := by decide +kernel
theorem kx_198_34 : x_code k_P 198 34 = some (.goto 4, 3) := by decide +kernel
theorem kx_198_38 : x_code k_P 198 38 = some (.invokevirtual 355, 3) := by decide +kernel
theorem kp_198_355 : x_pool k_P 198 355 = (2, 193, 1) := by decide +kernel
theorem kx_198_41 : x_code k_P 198 41 = some (.iconst 1, 1) := by decide +kernel
theorem kx_198_42 : x_code k_P 198 42 = some (.istore_n 2, 1) := by decide +kernel
theorem km_198_2 : 2 < x_maxL k_P 198 := by decide +kernel
theorem kx_198_43 : x_code k_P 198 43 = some (.iload_n 2, 1) := by decide +kernel
theorem kx_198_44 : x_code k_P 198 44 = some (.ifCond .eq 46, 3) := by decide +kernel
theorem kx_198_90 : x_code k_P 198 90 = some (.return_, 1) := by decide +kernel
theorem kq_198 : x_retk k_P 198 = 0 := by decide +kernel
theorem kx_198_47 : x_code k_P 198 47 = some (.aload_n 0, 1) := by decide +kernel
theorem kx_198_48 : x_code k_P 198 48 = some (.getfield 152, 3) := by decide +kernel
theorem kx_198_51 : x_code k_P 198 51 = some (.ifCond .ne 14, 3) := by decide +kernel
theorem kx_198_54 : x_code k_P 198 54 = some (.aload_n 0, 1) := by decide +kernel
theorem kx_198_55 : x_code k_P 198 55 = some (.aload_n 0, 1) := by decide +kernel
theorem kx_198_56 : x_code k_P 198 56 = some (.invokevirtual 373, 3) := by decide +kernel
theorem kp_198_373 : x_pool k_P 198 373 = (2, 196, 0) := by decide +kernel
theorem ki_196 : x_mci k_P 196 = 12 := by decide +kernel
theorem kcl_196 : x_maxL k_P 196 ≤ 60 ∧ 1 ≤ x_maxL k_P 196 := by decide +kernel
theorem kx_198_59 : x_code k_P 198 59 = some (.putfield 152, 3) := by decide +kernel
theorem kx_198_62 : x_code k_P 198 62 = some (.goto 8, 3) := by decide +kernel
theorem kx_198_70 : x_code k_P 198 70 = some (.iload_n 2, 1) := by decide +kernel
theorem kx_198_71 : x_code k_P 198 71 = some (.ifCond .eq 14, 3) := by decide +kernel
theorem kx_198_74 : x_code k_P 198 74 = some (.aload_n 0, 1) := by decide +kernel
theorem kx_198_75 : x_code k_P 198 75 = some (.getfield 39, 3) := by decide +kernel
theorem kx_198_78 : x_code k_P 198 78 = some (.ifCond .ne 7, 3) := by decide +kernel
theorem kx_198_85 : x_code k_P 198 85 = some (.iconst 0, 1) := by decide +kernel
theorem kx_198_86 : x_code k_P 198 86 = some (.istore_n 2, 1) := by decide +kernel
theorem kx_198_87 : x_code k_P 198 87 = some (.goto (-44), 3) := by decide +kernel
theorem kx_198_81 : x_code k_P 198 81 = some (.iconst 1, 1) := by decide +kernel
theorem kx_198_82 : x_code k_P 198 82 = some (.goto 4, 3) := by decide +kernel
theorem kx_198_7 : x_code k_P 198 7 = some (.return_, 1) := by decide +kernel
theorem kx_198_65 : x_code k_P 198 65 = some (.aload_n 0, 1) := by decide +kernel
theorem kx_198_66 : x_code k_P 198 66 = some (.invokevirtual 376, 3) := by decide +kernel
theorem kp_198_376 : x_pool k_P 198 376 = (2, 197, 0) := by decide +kernel
theorem ki_197 : x_mci k_P 197 = 12 := by decide +kernel
theorem kcl_197 : x_maxL k_P 197 ≤ 60 ∧ 1 ≤ x_maxL k_P 197 := by decide +kernel
theorem kx_198_69 : x_code k_P 198 69 = some (.istore_n 2, 1) := by decide +kernel
def fS_198_l43 : List (Nat × Nat) := [(63, 10), (63, 13), (63, 3), (63, 35), (63, 4), (63, 42), (63, 43), (63, 45), (63, 46), (63, 5), (63, 6), (63, 7), (63, 8), (63, 9), (81, 99999), (82, 99999), (85, 99999), (86, 99999), (87, 99999), (88, 99999), (89, 99999), (90, 99999)]
def fS_198_m : List (Nat × Nat) := [(63, 10), (63, 13), (63, 3), (63, 35), (63, 4), (63, 42), (63, 43), (63, 45), (63, 46), (63, 5), (63, 6), (63, 7), (63, 8), (63, 9), (81, 99999), (82, 99999), (85, 99999), (86, 99999), (87, 99999), (88, 99999), (89, 99999), (90, 99999)]
def fS_198_j30 : List (Nat × Nat) := []
theorem m_198 {xs : Nat → Int} {Ln d : Nat} {T : List cK} {M : cM} (hT : TT T) (hI : Rng M) {test : Int} (hX : LXp M) (p0 : 0 ≤ test ∧ test ≤ 1) (p1 : M 63 35 ≤ M 63 4) : cC k_P xs Ln (d + 4) 198 [rf 63, (0, test)] (T, M) (qV T M fS_198_m (fun M1 => LXp M1 ∧ M 63 4 ≤ M1 63 4 ∧ M 63 9 ≤ M1 63 9 ∧ (RDd M M1 ∧ KP M M1))) := by
  show cP k_P xs Ln (d + 4) 198 0 [(0, rf 63), (1, (0, test))] [] (T, M) _
  have hFm : Fr fS_198_m M M := Fr.refl
  have h639 := rg_63_9 hI
  have ⟨lx1, lx2⟩ := hX
  refine s_aload_n kx_198_0 rfl ?_
  refine r_getI (k := 63) (f := 9) kx_198_1 kp_198_39 (tk_63 hT) kf_12_9 (fun _ => rfl) (rg_63_9 hI) (fun v1 v1e v1a v1b => ?_)
  refine s_if_le (t := 8) kx_198_4 (by decide) (fun hc2 => ?_) (fun hc2 => ?_)
  · refine s_aload_n kx_198_8 rfl ?_
    refine s_iconst (v := 0) kx_198_9 (by decide) ?_
    refine r_put (k := 63) (f := 42) kx_198_10 kp_198_140 (tk_63 hT) kf_12_42 rfl (by decide) (by decide) hI (ru_63_42 (by omega) (by omega)) (fun M3 hI3 u3 => ?_)
    have hFm3 := hFm.up u3 rfl
    have tr4 := (u3.2 63 3 (by omega))
    have tr5 := (u3.2 63 4 (by omega))
    have tr6 := (u3.2 63 5 (by omega))
    have tr7 := (u3.2 63 9 (by omega))
    have tr8 := (u3.2 63 35 (by omega))
    refine s_aload_n kx_198_13 rfl ?_
    refine s_iconst (v := 0) kx_198_14 (by decide) ?_
    refine r_put (k := 63) (f := 43) kx_198_15 kp_198_143 (tk_63 hT) kf_12_43 rfl (by decide) (by decide) hI3 (ru_63_43 (by omega) (by omega)) (fun M9 hI9 u9 => ?_)
    have hFm9 := hFm3.up u9 rfl
    have tr10 := (u9.2 63 3 (by omega))
    have tr11 := (u9.2 63 4 (by omega))
    have tr12 := (u9.2 63 5 (by omega))
    have tr13 := (u9.2 63 9 (by omega))
    have tr14 := (u9.2 63 35 (by omega))
    refine s_aload_n kx_198_18 rfl ?_
    refine s_iconst (v := 0) kx_198_19 (by decide) ?_
    refine r_put (k := 63) (f := 45) kx_198_20 kp_198_149 (tk_63 hT) kf_12_45 rfl (by decide) (by decide) hI9 (ru_63_45 (by omega) (by omega)) (fun M15 hI15 u15 => ?_)
    have hFm15 := hFm9.up u15 rfl
    have tr16 := (u15.2 63 3 (by omega))
    have tr17 := (u15.2 63 4 (by omega))
    have tr18 := (u15.2 63 5 (by omega))
    have tr19 := (u15.2 63 9 (by omega))
    have tr20 := (u15.2 63 35 (by omega))
    refine s_aload_n kx_198_23 rfl ?_
    refine s_iconst (v := 0) kx_198_24 (by decide) ?_
    refine r_put (k := 63) (f := 46) kx_198_25 kp_198_152 (tk_63 hT) kf_12_46 rfl (by decide) (by decide) hI15 (ru_63_46 (by omega) (by omega)) (fun M21 hI21 u21 => ?_)
    have hFm21 := hFm15.up u21 rfl
    have tr22 := (u21.2 63 3 (by omega))
    have tr23 := (u21.2 63 4 (by omega))
    have tr24 := (u21.2 63 5 (by omega))
    have tr25 := (u21.2 63 9 (by omega))
    have tr26 := (u21.2 63 35 (by omega))
    refine s_aload_n kx_198_28 rfl ?_
    refine s_iload_n kx_198_29 rfl ?_
    have jn31 : ∀ (y30 : Int), (0 ≤ y30) → (y30 ≤ 1) → cP k_P xs Ln (d + 4) 198 38 [(0, rf 63)] [(0, y30), rf 63] (T, M21) (qV T M fS_198_m (fun M1 => LXp M1 ∧ M 63 4 ≤ M1 63 4 ∧ M 63 9 ≤ M1 63 9 ∧ (RDd M M1 ∧ KP M M1))) := by
      intro y30 a32 a33
      have hk34 : M21 63 42 = 0 := ((u21.2 63 42 (by omega)).trans ((u15.2 63 42 (by omega)).trans ((u9.2 63 42 (by omega)).trans u3.1)))
      refine s_callV2 (k := 63) (s1 := 2) (s2 := 0) (as := [(0, y30)]) (rest := []) kx_198_38 kp_198_355 (Or.inl rfl) rfl (tk_63 hT) ki_193 kcl_193 rfl rfl (by decide) (m_193 (d := d + 3) (kind := y30) hT hI21 (by omega) (by omega)) (kV (fun M36 hI36 fr36 v35p => ?_))
      have hFm36 := hFm21.call fr36 rfl
      have tr37 := (fr36 63 3 rfl)
      have tr38 := (fr36 63 4 rfl)
      have tr39 := (fr36 63 5 rfl)
      have tr40 := (fr36 63 9 rfl)
      have tr41 := (fr36 63 35 rfl)
      have tr42 := rg_63_9 hI36
      have hPs := PI.start (c := M 81) (a := M 63 35) (q := M36 63 4) v35p fr36 ((u21.2 63 35 (by omega)).trans ((u15.2 63 35 (by omega)).trans ((u9.2 63 35 (by omega)).trans (u3.2 63 35 (by omega))))) ((u21.2 63 42 (by omega)).trans ((u15.2 63 42 (by omega)).trans ((u9.2 63 42 (by omega)).trans u3.1))) ((u21.2 63 43 (by omega)).trans ((u15.2 63 43 (by omega)).trans u9.1)) ((u21.2 63 45 (by omega)).trans u15.1) (by omega) (rg_63_35 hI21).1 (rg_63_36 hI21).1 (by omega) (fun k _ => ((u21.2 81 k (by omega)).trans ((u15.2 81 k (by omega)).trans ((u9.2 81 k (by omega)).trans (u3.2 81 k (by omega))))))
      refine s_iconst (v := 1) kx_198_41 (by decide) ?_
      refine s_istore_n kx_198_42 km_198_2 rfl ?_
      have key45 : ∀ n46 : Nat, ∀ (x2_43 : Int), ∀ M44 : cM, Rng M44 → Fr fS_198_m M M44 → Fr fS_198_l43 M36 M44 → (0 ≤ x2_43) → (x2_43 ≤ 1) → (LXp M44) → (KP M M44) → (M 63 4 ≤ M44 63 4) → (M 63 9 ≤ M44 63 9) → (RLp M M44 x2_43) → (2 * (1600 - M44 63 4) + x2_43).toNat < n46 → cP k_P xs Ln (d + 4) 198 43 [(0, rf 63), (2, (0, x2_43))] [] (T, M44) (qV T M fS_198_m (fun M1 => LXp M1 ∧ M 63 4 ≤ M1 63 4 ∧ M 63 9 ≤ M1 63 9 ∧ (RDd M M1 ∧ KP M M1))) := by
        intro n46
        induction n46 with
        | zero => intro x2_43 M44 hI44 hFm44 fl44 i47 i48 i49 i50 i51 i52 i53 hm54; exact absurd hm54 (Nat.not_lt_zero _)
        | succ n46 ih55 =>
          intro x2_43 M44 hI44 hFm44 fl44 i47 i48 i49 i50 i51 i52 i53 hm54
          have tr56 := rg_63_9 hI44
          have tr57 := rg_63_4 hI44
          refine s_iload_n kx_198_43 rfl ?_
          refine s_if_eq (t := 90) kx_198_44 (by decide) (fun hc58 => ?_) (fun hc58 => ?_)
          · exact s_vret kx_198_90 kq_198 ⟨_, rfl, rfl, hI44, hFm44, ⟨i49, (by omega), (by omega), ⟨RLp.done i53 (by omega), i50⟩⟩⟩
          · have hrl := RLp.more i53 (by omega)
            have h9z := hrl.1
            refine s_aload_n kx_198_47 rfl ?_
            refine r_getI (k := 63) (f := 46) kx_198_48 kp_198_152 (tk_63 hT) kf_12_46 (fun _ => rfl) (rg_63_46 hI44) (fun v59 v59e v59a v59b => ?_)
            refine s_if_ne (t := 65) kx_198_51 (by decide) (fun hc60 => ?_) (fun hc60 => ?_)
            · have hp1 := Or.resolve_left hrl.2 (fun z => absurd z.1 (by omega))
              refine s_aload_n kx_198_65 rfl ?_
              refine s_callV2 (k := 63) (s1 := 1) (s2 := 0) (as := []) (rest := []) kx_198_66 kp_198_376 (Or.inl rfl) rfl (tk_63 hT) ki_197 kcl_197 rfl rfl (by decide) (m_197 (d := d + 1) hT hI44 i49 hp1.2.2 hp1.2.1 (by omega)) (kW (fun v61 M62 hI62 fr62 v61p => ?_))
              have hFm62 := hFm44.call fr62 rfl
              have hFl4362 := fl44.call fr62 rfl
              have tr63 := rg_63_9 hI62
              have hK64 := KP.trans i50 ((fl44 63 36 rfl).trans ((fr36 63 36 rfl).trans ((u21.2 63 36 (by omega)).trans ((u15.2 63 36 (by omega)).trans ((u9.2 63 36 (by omega)).trans (u3.2 63 36 (by omega))))))) v61p.2.2.2.2.2.2
              have hgo := RLp.go v61p.2.2.2.2.2.1 hp1.1 ((fr62 63 36 rfl).trans ((fl44 63 36 rfl).trans ((fr36 63 36 rfl).trans ((u21.2 63 36 (by omega)).trans ((u15.2 63 36 (by omega)).trans ((u9.2 63 36 (by omega)).trans (u3.2 63 36 (by omega))))))))
              refine s_istore_n kx_198_69 km_198_2 rfl ?_
              refine s_iload_n kx_198_70 rfl ?_
              refine s_if_eq (t := 85) kx_198_71 (by decide) (fun hc65 => ?_) (fun hc65 => ?_)
              · refine s_iconst (v := 0) kx_198_85 (by decide) ?_
                refine s_istore_n kx_198_86 km_198_2 rfl ?_
                refine s_goto (t := 43) kx_198_87 (by decide) ?_
                exact cP.wk (lS1 rfl (lS1 rfl lS0)) (ih55 0 M62 hI62 hFm62 hFl4362 (by omega) (by omega) v61p.2.2.1 hK64 (by omega) (by omega) (by first | exact hgo.2.1 (by omega) | exact hgo.1 (by omega)) (by omega))
              · refine s_aload_n kx_198_74 rfl ?_
                refine r_getI (k := 63) (f := 9) kx_198_75 kp_198_39 (tk_63 hT) kf_12_9 (fun _ => rfl) (rg_63_9 hI62) (fun v66 v66e v66a v66b => ?_)
                refine s_if_ne (t := 85) kx_198_78 (by decide) (fun hc67 => ?_) (fun hc67 => ?_)
                · refine s_iconst (v := 0) kx_198_85 (by decide) ?_
                  refine s_istore_n kx_198_86 km_198_2 rfl ?_
                  refine s_goto (t := 43) kx_198_87 (by decide) ?_
                  exact cP.wk (lS1 rfl (lS1 rfl lS0)) (ih55 0 M62 hI62 hFm62 hFl4362 (by omega) (by omega) v61p.2.2.1 hK64 (by omega) (by omega) (by first | exact hgo.2.1 (by omega) | exact hgo.1 (by omega)) (by omega))
                · have hgr := hgo.2.2 (by omega) (by omega) (by omega)
                  have hpr := hgr.2
                  refine s_iconst (v := 1) kx_198_81 (by decide) ?_
                  refine s_goto (t := 86) kx_198_82 (by decide) ?_
                  refine s_istore_n kx_198_86 km_198_2 rfl ?_
                  refine s_goto (t := 43) kx_198_87 (by decide) ?_
                  exact cP.wk (lS1 rfl (lS1 rfl lS0)) (ih55 1 M62 hI62 hFm62 hFl4362 (by omega) (by omega) v61p.2.2.1 hK64 (by omega) (by omega) hgr.1 (by omega))
            · have hp0 := (Or.resolve_right hrl.2 (fun z => absurd z.1 (by omega))).2
              refine s_aload_n kx_198_54 rfl ?_
              refine s_aload_n kx_198_55 rfl ?_
              refine s_callV2 (k := 63) (s1 := 1) (s2 := 1) (as := []) (rest := [rf 63]) kx_198_56 kp_198_373 (Or.inl rfl) rfl (tk_63 hT) ki_196 kcl_196 rfl rfl (by decide) (m_196 (d := d) hT hI44 i49 hp0 (by omega)) (kW (fun v68 M69 hI69 fr69 v68p => ?_))
              have hFm69 := hFm44.call fr69 rfl
              have hFl4369 := fl44.call fr69 rfl
              have tr70 := rg_63_9 hI69
              have hK71 := KP.trans i50 ((fl44 63 36 rfl).trans ((fr36 63 36 rfl).trans ((u21.2 63 36 (by omega)).trans ((u15.2 63 36 (by omega)).trans ((u9.2 63 36 (by omega)).trans (u3.2 63 36 (by omega))))))) v68p.2.2.2.2.2.2
              refine r_put (k := 63) (f := 46) kx_198_59 kp_198_152 (tk_63 hT) kf_12_46 (c_fitB (by omega)) (by decide) (by decide) hI69 (ru_63_46 (by omega) (by omega)) (fun M72 hI72 u72 => ?_)
              have hFm72 := hFm69.up u72 rfl
              have hFl4372 := hFl4369.up u72 rfl
              have tr73 := (u72.2 63 3 (by omega))
              have tr74 := (u72.2 63 4 (by omega))
              have tr75 := (u72.2 63 5 (by omega))
              have tr76 := (u72.2 63 9 (by omega))
              have tr77 := (u72.2 63 35 (by omega))
              refine s_goto (t := 70) kx_198_62 (by decide) ?_
              refine s_iload_n kx_198_70 rfl ?_
              refine s_if_eq (t := 85) kx_198_71 (by decide) (fun hc78 => absurd hc78 (by omega)) (fun hc78 => ?_)
              refine s_aload_n kx_198_74 rfl ?_
              refine r_getI (k := 63) (f := 9) kx_198_75 kp_198_39 (tk_63 hT) kf_12_9 (fun _ => rfl) (rg_63_9 hI72) (fun v79 v79e v79a v79b => ?_)
              refine s_if_ne (t := 85) kx_198_78 (by decide) (fun hc80 => ?_) (fun hc80 => ?_)
              · refine s_iconst (v := 0) kx_198_85 (by decide) ?_
                refine s_istore_n kx_198_86 km_198_2 rfl ?_
                refine s_goto (t := 43) kx_198_87 (by decide) ?_
                exact cP.wk (lS1 rfl (lS1 rfl lS0)) (ih55 0 M72 hI72 hFm72 hFl4372 (by omega) (by omega) (LXp.up v68p.2.2.1 u72 (by decide)) (KP.up hK71 u72 (by decide)) (by omega) (by omega) (Or.inl ⟨rfl, Or.inl (by omega)⟩) (by omega))
              · have hpr := OPd.prog v68p.2.2.2.2.2.1 (by omega)
                refine s_iconst (v := 1) kx_198_81 (by decide) ?_
                refine s_goto (t := 86) kx_198_82 (by decide) ?_
                refine s_istore_n kx_198_86 km_198_2 rfl ?_
                refine s_goto (t := 43) kx_198_87 (by decide) ?_
                exact cP.wk (lS1 rfl (lS1 rfl lS0)) (ih55 1 M72 hI72 hFm72 hFl4372 (by omega) (by omega) (LXp.up v68p.2.2.1 u72 (by decide)) (KP.up hK71 u72 (by decide)) (by omega) (by omega) (RLp.op v68p.2.2.2.2.2.1 (by omega) (by omega) u72) (by omega))
      exact cP.wk (lS1 rfl (lS1 rfl lS0)) (key45 _ 1 M36 hI36 hFm36 Fr.refl (by omega) (by omega) (LXp.fr (LXp.up (LXp.up (LXp.up (LXp.up hX u3 (by decide)) u9 (by decide)) u15 (by decide)) u21 (by decide)) fr36 rfl) (KP.fr (KP.up (KP.up (KP.up (KP.up (KP.refl (M := M)) u3 (by decide)) u9 (by decide)) u15 (by decide)) u21 (by decide)) fr36 (fun _ => rfl)) (by omega) (by omega) (Or.inr ⟨rfl, by omega, Or.inl ⟨((fr36 63 46 rfl).trans u21.1), hPs⟩⟩) (Nat.lt_succ_self _))
    refine s_if_eq (t := 37) kx_198_30 (by decide) (fun hc27 => ?_) (fun hc27 => ?_)
    · have hJ28 : Fr fS_198_j30 M21 M21 := Fr.refl
      refine s_iconst (v := 0) kx_198_37 (by decide) ?_
      exact cP.wk (lS1 rfl lS0) (jn31 0 (by omega) (by omega))
    · have hJ29 : Fr fS_198_j30 M21 M21 := Fr.refl
      refine s_iconst (v := 1) kx_198_33 (by decide) ?_
      refine s_goto (t := 38) kx_198_34 (by decide) ?_
      exact cP.wk (lS1 rfl lS0) (jn31 1 (by omega) (by omega))
  · have hk81 : M 63 9 = v1 := v1e
    exact s_vret kx_198_7 kq_198 ⟨_, rfl, rfl, hI, hFm, ⟨hX, (by omega), (by omega), ⟨(Or.inl (by omega)), (KP.refl (M := M))⟩⟩⟩
theorem kx_210_0 : x_code k_P 210 0 = some (.aload_n 0, 1) := by decide +kernel
theorem kx_210_1 : x_code k_P 210 1 = some (.aload_n 0, 1) := by decide +kernel
theorem kx_210_2 : x_code k_P 210 2 = some (.getfield 87, 3) := by decide +kernel
theorem kp_210_87 : x_pool k_P 210 87 = (1, 12, 25) := by decide +kernel
theorem kx_210_5 : x_code k_P 210 5 = some (.aload_n 0, 1) := by decide +kernel
theorem kx_210_6 : x_code k_P 210 6 = some (.getfield 121, 3) := by decide +kernel
theorem kp_210_121 : x_pool k_P 210 121 = (1, 12, 36) := by decide +kernel
theorem kx_210_9 : x_code k_P 210 9 = some (.iaload, 1) := by decide +kernel
theorem kx_210_10 : x_code k_P 210 10 = some (.iconst (-1), 1) := by decide +kernel
theorem kx_210_11 : x_code k_P 210 11 = some (.if_icmp .eq 7, 3) := by decide +kernel
theorem kx_210_18 : x_code k_P 210 18 = some (.iconst 0, 1) := by decide +kernel
theorem kx_210_19 : x_code k_P 210 19 = some (.invokevirtual 386, 3) := by decide +kernel
theorem kp_210_386 : x_pool k_P 210 386 = (2, 199, 1) := by decide +kernel
theorem kx_210_22 : x_code k_P 210 22 = some (.ifCond .ne 4, 3) := by decide +kernel
theorem kx_210_26 : x_code k_P 210 26 = some (.aload_n 0, 1) := by decide +kernel
theorem kx_210_27 : x_code k_P 210 27 = some (.getfield 87, 3) := by decide +kernel
theorem kx_210_30 : x_code k_P 210 30 = some (.aload_n 0, 1) := by decide +kernel
theorem kx_210_31 : x_code k_P 210 31 = some (.getfield 121, 3) := by decide +kernel
theorem kx_210_34 : x_code k_P 210 34 = some (.aload_n 0, 1) := by decide +kernel
theorem kx_210_35 : x_code k_P 210 35 = some (.getfield 118, 3) := by decide +kernel
theorem kp_210_118 : x_pool k_P 210 118 = (1, 12, 35) := by decide +kernel
theorem kx_210_38 : x_code k_P 210 38 = some (.iastore, 1) := by decide +kernel
theorem kx_210_39 : x_code k_P 210 39 = some (.aload_n 0, 1) := by decide +kernel
theorem kx_210_40 : x_code k_P 210 40 = some (.iconst 0, 1) := by decide +kernel
theorem kx_210_41 : x_code k_P 210 41 = some (.invokevirtual 410, 3) := by decide +kernel
theorem kp_210_410 : x_pool k_P 210 410 = (2, 198, 1) := by decide +kernel
theorem ki_198 : x_mci k_P 198 = 12 := by decide +kernel
theorem kcl_198 : x_maxL k_P 198 ≤ 60 ∧ 2 ≤ x_maxL k_P 198 := by decide +kernel
theorem kx_210_44 : x_code k_P 210 44 = some (.aload_n 0, 1) := by decide +kernel
theorem kx_210_45 : x_code k_P 210 45 = some (.getfield 90, 3) := by decide +kernel
theorem kp_210_90 : x_pool k_P 210 90 = (1, 12, 26) := by decide +kernel
theorem kx_210_48 : x_code k_P 210 48 = some (.aload_n 0, 1) := by decide +kernel
theorem kx_210_49 : x_code k_P 210 49 = some (.getfield 121, 3) := by decide +kernel
theorem kx_210_52 : x_code k_P 210 52 = some (.aload_n 0, 1) := by decide +kernel
theorem kx_210_53 : x_code k_P 210 53 = some (.getfield 118, 3) := by decide +kernel
theorem kx_210_56 : x_code k_P 210 56 = some (.iastore, 1) := by decide +kernel
theorem kx_210_57 : x_code k_P 210 57 = some (.return_, 1) := by decide +kernel
theorem kq_210 : x_retk k_P 210 = 0 := by decide +kernel
theorem kx_210_25 : x_code k_P 210 25 = some (.return_, 1) := by decide +kernel
theorem kx_210_14 : x_code k_P 210 14 = some (.iconst 1, 1) := by decide +kernel
theorem kx_210_15 : x_code k_P 210 15 = some (.goto 4, 3) := by decide +kernel
def fS_210_m : List (Nat × Nat) := [(63, 10), (63, 13), (63, 3), (63, 35), (63, 4), (63, 42), (63, 43), (63, 45), (63, 46), (63, 5), (63, 6), (63, 7), (63, 8), (63, 9), (75, 99999), (76, 99999), (81, 99999), (82, 99999), (85, 99999), (86, 99999), (87, 99999), (88, 99999), (89, 99999), (90, 99999)]
theorem m_210 {xs : Nat → Int} {Ln d : Nat} {T : List cK} {M : cM} (hT : TT T) (hI : Rng M) (hX : LXp M) (hS : TSg M) (p0 : M 63 4 + 1 ≤ M 63 5) (p1 : M 63 35 ≤ M 63 4) : cC k_P xs Ln (d + 5) 210 [rf 63] (T, M) (qV T M fS_210_m (fun M1 => LXp M1 ∧ M 63 4 ≤ M1 63 4 ∧ M 63 9 ≤ M1 63 9 ∧ (SLd M M1 ∧ KO M M1))) := by
  show cP k_P xs Ln (d + 5) 210 0 [(0, rf 63)] [] (T, M) _
  have hFm : Fr fS_210_m M M := Fr.refl
  have h639 := rg_63_9 hI
  have ⟨lx1, lx2⟩ := hX
  have h36 := rg_63_36 hI
  have h35 := rg_63_35 hI
  refine s_aload_n kx_210_0 rfl ?_
  refine s_aload_n kx_210_1 rfl ?_
  refine r_getR (k := 63) (f := 25) (k2 := 75) kx_210_2 kp_210_87 (tk_63 hT) kf_12_25 (by decide) (rq_63_25 hI) ?_
  refine s_aload_n kx_210_5 rfl ?_
  refine r_getI (k := 63) (f := 36) kx_210_6 kp_210_121 (tk_63 hT) kf_12_36 (fun _ => rfl) (rg_63_36 hI) (fun v1 v1e v1a v1b => ?_)
  refine r_ald (k := 75) kx_210_9 (tk_75 hT) ⟨by omega, by omega⟩ (rg_75 hI) (fun v2 v2e v2a v2b => ?_)
  refine s_iconst (v := (-1)) kx_210_10 (by decide) ?_
  refine s_icmp_eq (t := 18) kx_210_11 (by decide) (fun hc3 => ?_) (fun hc3 => ?_)
  · refine s_iconst (v := 0) kx_210_18 (by decide) ?_
    refine s_callV2 (k := 63) (s1 := 2) (s2 := 0) (as := [(0, 0)]) (rest := []) kx_210_19 kp_210_386 (Or.inl rfl) rfl (tk_63 hT) ki_199 kcl_199 rfl rfl (by decide) (m_199 (d := d + 2) (full := 0) hT hI hX (by omega)) (kW (fun v4 M5 hI5 fr5 v4p => ?_))
    have hFm5 := hFm.call fr5 rfl
    have tr6 := (fr5 63 35 rfl)
    have tr7 := (fr5 63 36 rfl)
    have tr8 := rg_63_9 hI5
    refine s_if_ne (t := 26) kx_210_22 (by decide) (fun hc9 => ?_) (fun hc9 => ?_)
    · refine s_aload_n kx_210_26 rfl ?_
      refine r_getR (k := 63) (f := 25) (k2 := 75) kx_210_27 kp_210_87 (tk_63 hT) kf_12_25 (by decide) (rq_63_25 hI5) ?_
      refine s_aload_n kx_210_30 rfl ?_
      refine r_getK (k := 63) (f := 36) kx_210_31 kp_210_121 (tk_63 hT) kf_12_36 (fun _ => rfl) ((fr5 63 36 rfl).trans v1e) ?_
      refine s_aload_n kx_210_34 rfl ?_
      refine r_getI (k := 63) (f := 35) kx_210_35 kp_210_118 (tk_63 hT) kf_12_35 (fun _ => rfl) (rg_63_35 hI5) (fun v10 v10e v10a v10b => ?_)
      have v10z : M 63 35 = v10 := ((fr5 63 35 rfl)).symm.trans v10e
      refine r_ast (k := 75) kx_210_38 (tk_75 hT) ⟨by omega, by omega⟩ hI5 (ru_75 (by omega) (by omega)) (fun M11 hI11 u11 => ?_)
      have hFm11 := hFm5.up u11 rfl
      have tr12 := (u11.2 63 3 (by omega))
      have tr13 := (u11.2 63 4 (by omega))
      have tr14 := (u11.2 63 5 (by omega))
      have tr15 := (u11.2 63 9 (by omega))
      have tr16 := (u11.2 63 35 (by omega))
      have tr17 := (u11.2 63 36 (by omega))
      refine s_aload_n kx_210_39 rfl ?_
      refine s_iconst (v := 0) kx_210_40 (by decide) ?_
      refine s_callV2 (k := 63) (s1 := 2) (s2 := 0) (as := [(0, 0)]) (rest := []) kx_210_41 kp_210_410 (Or.inl rfl) rfl (tk_63 hT) ki_198 kcl_198 rfl rfl (by decide) (m_198 (d := d) (test := 0) hT hI11 (LXp.up v4p.1 u11 (Or.inl (by decide))) (by omega) (by omega)) (kV (fun M19 hI19 fr19 v18p => ?_))
      have hFm19 := hFm11.call fr19 rfl
      have tr20 := (fr19 63 36 rfl)
      have tr21 := rg_63_9 hI19
      have hO22 := KO.rd (KO.up (KO.fr (KO.refl (M := M)) fr5 rfl) u11 (by decide) (Or.inl (by omega))) ((u11.2 63 36 (by omega)).trans (fr5 63 36 rfl)) fr19 rfl v18p.2.2.2.2
      have hr23 := v18p.2.2.2.1
      have tr24 := ((fr19 63 36 rfl).trans ((u11.2 63 36 (by omega)).trans (fr5 63 36 rfl)))
      refine s_aload_n kx_210_44 rfl ?_
      refine r_getR (k := 63) (f := 26) (k2 := 76) kx_210_45 kp_210_90 (tk_63 hT) kf_12_26 (by decide) (rq_63_26 hI19) ?_
      refine s_aload_n kx_210_48 rfl ?_
      refine r_getK (k := 63) (f := 36) kx_210_49 kp_210_121 (tk_63 hT) kf_12_36 (fun _ => rfl) ((fr19 63 36 rfl).trans ((u11.2 63 36 (by omega)).trans ((fr5 63 36 rfl).trans v1e))) ?_
      refine s_aload_n kx_210_52 rfl ?_
      refine r_getI (k := 63) (f := 35) kx_210_53 kp_210_118 (tk_63 hT) kf_12_35 (fun _ => rfl) (rg_63_35 hI19) (fun v25 v25e v25a v25b => ?_)
      refine r_ast (k := 76) kx_210_56 (tk_76 hT) ⟨by omega, by omega⟩ hI19 (ru_76 (by omega) (by omega)) (fun M26 hI26 u26 => ?_)
      have hFm26 := hFm19.up u26 rfl
      have tr27 := (u26.2 63 3 (by omega))
      have tr28 := (u26.2 63 4 (by omega))
      have tr29 := (u26.2 63 5 (by omega))
      have tr30 := (u26.2 63 9 (by omega))
      have tr31 := (u26.2 63 35 (by omega))
      have tr32 := (u26.2 63 36 (by omega))
      exact s_vret kx_210_57 kq_210 ⟨_, rfl, rfl, hI26, hFm26, ⟨(LXp.up v18p.1 u26 (Or.inl (by decide))), (by omega), (by omega), ⟨(if h9 : 1 ≤ M26 63 9 then Or.inl h9 else Or.inr ⟨by omega, ⟨(TS_put (x := 75) (y := 76) (z := 77) (w := 78) (by decide) (TSg.fr hS (rg_63_36 hI).1 fr5 rfl).2 ((fr5 63 36 rfl).trans v1e) v10e (by omega) (by omega) u11 fr19 rfl rfl v18p.2.2.2.1 (by omega) v25e u26).1, (TS_put (x := 75) (y := 76) (z := 77) (w := 78) (by decide) (TSg.fr hS (rg_63_36 hI).1 fr5 rfl).2 ((fr5 63 36 rfl).trans v1e) v10e (by omega) (by omega) u11 fr19 rfl rfl v18p.2.2.2.1 (by omega) v25e u26).2⟩, by have hq := (Or.resolve_left (show _ ∨ _ from v18p.2.2.2.1) (by omega)).2.1; omega⟩), (KO.up hO22 u26 (by decide) (Or.inl (by omega)))⟩⟩⟩
    · exact s_vret kx_210_25 kq_210 ⟨_, rfl, rfl, hI5, hFm5, ⟨v4p.1, (by omega), (by omega), ⟨Or.inl (by omega), (KO.fr (KO.refl (M := M)) fr5 rfl)⟩⟩⟩
  · refine s_iconst (v := 1) kx_210_14 (by decide) ?_
    refine s_goto (t := 19) kx_210_15 (by decide) ?_
    refine s_callV2 (k := 63) (s1 := 2) (s2 := 0) (as := [(0, 1)]) (rest := []) kx_210_19 kp_210_386 (Or.inl rfl) rfl (tk_63 hT) ki_199 kcl_199 rfl rfl (by decide) (m_199 (d := d + 2) (full := 1) hT hI hX (by omega)) (kW (fun v33 M34 hI34 fr34 v33p => ?_))
    have hFm34 := hFm.call fr34 rfl
    have tr35 := (fr34 63 35 rfl)
    have tr36 := (fr34 63 36 rfl)
    have tr37 := rg_63_9 hI34
    refine s_if_ne (t := 26) kx_210_22 (by decide) (fun hc38 => ?_) (fun hc38 => ?_)
    · refine s_aload_n kx_210_26 rfl ?_
      refine r_getR (k := 63) (f := 25) (k2 := 75) kx_210_27 kp_210_87 (tk_63 hT) kf_12_25 (by decide) (rq_63_25 hI34) ?_
      refine s_aload_n kx_210_30 rfl ?_
      refine r_getK (k := 63) (f := 36) kx_210_31 kp_210_121 (tk_63 hT) kf_12_36 (fun _ => rfl) ((fr34 63 36 rfl).trans v1e) ?_
      refine s_aload_n kx_210_34 rfl ?_
      refine r_getI (k := 63) (f := 35) kx_210_35 kp_210_118 (tk_63 hT) kf_12_35 (fun _ => rfl) (rg_63_35 hI34) (fun v39 v39e v39a v39b => ?_)
      have v39z : M 63 35 = v39 := ((fr34 63 35 rfl)).symm.trans v39e
      refine r_ast (k := 75) kx_210_38 (tk_75 hT) ⟨by omega, by omega⟩ hI34 (ru_75 (by omega) (by omega)) (fun M40 hI40 u40 => ?_)
      have hFm40 := hFm34.up u40 rfl
      have tr41 := (u40.2 63 3 (by omega))
      have tr42 := (u40.2 63 4 (by omega))
      have tr43 := (u40.2 63 5 (by omega))
      have tr44 := (u40.2 63 9 (by omega))
      have tr45 := (u40.2 63 35 (by omega))
      have tr46 := (u40.2 63 36 (by omega))
      refine s_aload_n kx_210_39 rfl ?_
      refine s_iconst (v := 0) kx_210_40 (by decide) ?_
      refine s_callV2 (k := 63) (s1 := 2) (s2 := 0) (as := [(0, 0)]) (rest := []) kx_210_41 kp_210_410 (Or.inl rfl) rfl (tk_63 hT) ki_198 kcl_198 rfl rfl (by decide) (m_198 (d := d) (test := 0) hT hI40 (LXp.up v33p.1 u40 (Or.inl (by decide))) (by omega) (by omega)) (kV (fun M48 hI48 fr48 v47p => ?_))
      have hFm48 := hFm40.call fr48 rfl
      have tr49 := (fr48 63 36 rfl)
      have tr50 := rg_63_9 hI48
      have hO51 := KO.rd (KO.up (KO.fr (KO.refl (M := M)) fr34 rfl) u40 (by decide) (Or.inl (by omega))) ((u40.2 63 36 (by omega)).trans (fr34 63 36 rfl)) fr48 rfl v47p.2.2.2.2
      have hr52 := v47p.2.2.2.1
      have tr53 := ((fr48 63 36 rfl).trans ((u40.2 63 36 (by omega)).trans (fr34 63 36 rfl)))
      refine s_aload_n kx_210_44 rfl ?_
      refine r_getR (k := 63) (f := 26) (k2 := 76) kx_210_45 kp_210_90 (tk_63 hT) kf_12_26 (by decide) (rq_63_26 hI48) ?_
      refine s_aload_n kx_210_48 rfl ?_
      refine r_getK (k := 63) (f := 36) kx_210_49 kp_210_121 (tk_63 hT) kf_12_36 (fun _ => rfl) ((fr48 63 36 rfl).trans ((u40.2 63 36 (by omega)).trans ((fr34 63 36 rfl).trans v1e))) ?_
      refine s_aload_n kx_210_52 rfl ?_
      refine r_getI (k := 63) (f := 35) kx_210_53 kp_210_118 (tk_63 hT) kf_12_35 (fun _ => rfl) (rg_63_35 hI48) (fun v54 v54e v54a v54b => ?_)
      refine r_ast (k := 76) kx_210_56 (tk_76 hT) ⟨by omega, by omega⟩ hI48 (ru_76 (by omega) (by omega)) (fun M55 hI55 u55 => ?_)
      have hFm55 := hFm48.up u55 rfl
      have tr56 := (u55.2 63 3 (by omega))
      have tr57 := (u55.2 63 4 (by omega))
      have tr58 := (u55.2 63 5 (by omega))
      have tr59 := (u55.2 63 9 (by omega))
      have tr60 := (u55.2 63 35 (by omega))
      have tr61 := (u55.2 63 36 (by omega))
      exact s_vret kx_210_57 kq_210 ⟨_, rfl, rfl, hI55, hFm55, ⟨(LXp.up v47p.1 u55 (Or.inl (by decide))), (by omega), (by omega), ⟨(if h9 : 1 ≤ M55 63 9 then Or.inl h9 else Or.inr ⟨by omega, ⟨(TS_put (x := 75) (y := 76) (z := 77) (w := 78) (by decide) (TSg.fr hS (rg_63_36 hI).1 fr34 rfl).2 ((fr34 63 36 rfl).trans v1e) v39e (by omega) (by omega) u40 fr48 rfl rfl v47p.2.2.2.1 (by omega) v54e u55).1, (TS_put (x := 75) (y := 76) (z := 77) (w := 78) (by decide) (TSg.fr hS (rg_63_36 hI).1 fr34 rfl).2 ((fr34 63 36 rfl).trans v1e) v39e (by omega) (by omega) u40 fr48 rfl rfl v47p.2.2.2.1 (by omega) v54e u55).2⟩, by have hq := (Or.resolve_left (show _ ∨ _ from v47p.2.2.2.1) (by omega)).2.1; omega⟩), (KO.up hO51 u55 (by decide) (Or.inl (by omega)))⟩⟩⟩
    · exact s_vret kx_210_25 kq_210 ⟨_, rfl, rfl, hI34, hFm34, ⟨v33p.1, (by omega), (by omega), ⟨Or.inl (by omega), (KO.fr (KO.refl (M := M)) fr34 rfl)⟩⟩⟩
theorem kx_211_0 : x_code k_P 211 0 = some (.aload_n 0, 1) := by decide +kernel
theorem kx_211_1 : x_code k_P 211 1 = some (.aload_n 0, 1) := by decide +kernel
theorem kx_211_2 : x_code k_P 211 2 = some (.getfield 93, 3) := by decide +kernel
theorem kp_211_93 : x_pool k_P 211 93 = (1, 12, 27) := by decide +kernel
theorem kx_211_5 : x_code k_P 211 5 = some (.aload_n 0, 1) := by decide +kernel
theorem kx_211_6 : x_code k_P 211 6 = some (.getfield 121, 3) := by decide +kernel
theorem kp_211_121 : x_pool k_P 211 121 = (1, 12, 36) := by decide +kernel
theorem kx_211_9 : x_code k_P 211 9 = some (.iaload, 1) := by decide +kernel
theorem kx_211_10 : x_code k_P 211 10 = some (.iconst (-1), 1) := by decide +kernel
theorem kx_211_11 : x_code k_P 211 11 = some (.if_icmp .eq 7, 3) := by decide +kernel
theorem kx_211_18 : x_code k_P 211 18 = some (.iconst 0, 1) := by decide +kernel
theorem kx_211_19 : x_code k_P 211 19 = some (.invokevirtual 386, 3) := by decide +kernel
theorem kp_211_386 : x_pool k_P 211 386 = (2, 199, 1) := by decide +kernel
theorem kx_211_22 : x_code k_P 211 22 = some (.ifCond .ne 4, 3) := by decide +kernel
theorem kx_211_26 : x_code k_P 211 26 = some (.aload_n 0, 1) := by decide +kernel
theorem kx_211_27 : x_code k_P 211 27 = some (.getfield 93, 3) := by decide +kernel
theorem kx_211_30 : x_code k_P 211 30 = some (.aload_n 0, 1) := by decide +kernel
theorem kx_211_31 : x_code k_P 211 31 = some (.getfield 121, 3) := by decide +kernel
theorem kx_211_34 : x_code k_P 211 34 = some (.aload_n 0, 1) := by decide +kernel
theorem kx_211_35 : x_code k_P 211 35 = some (.getfield 118, 3) := by decide +kernel
theorem kp_211_118 : x_pool k_P 211 118 = (1, 12, 35) := by decide +kernel
theorem kx_211_38 : x_code k_P 211 38 = some (.iastore, 1) := by decide +kernel
theorem kx_211_39 : x_code k_P 211 39 = some (.aload_n 0, 1) := by decide +kernel
theorem kx_211_40 : x_code k_P 211 40 = some (.iconst 0, 1) := by decide +kernel
theorem kx_211_41 : x_code k_P 211 41 = some (.invokevirtual 410, 3) := by decide +kernel
theorem kp_211_410 : x_pool k_P 211 410 = (2, 198, 1) := by decide +kernel
theorem kx_211_44 : x_code k_P 211 44 = some (.aload_n 0, 1) := by decide +kernel
theorem kx_211_45 : x_code k_P 211 45 = some (.getfield 96, 3) := by decide +kernel
theorem kp_211_96 : x_pool k_P 211 96 = (1, 12, 28) := by decide +kernel
theorem kx_211_48 : x_code k_P 211 48 = some (.aload_n 0, 1) := by decide +kernel
theorem kx_211_49 : x_code k_P 211 49 = some (.getfield 121, 3) := by decide +kernel
theorem kx_211_52 : x_code k_P 211 52 = some (.aload_n 0, 1) := by decide +kernel
theorem kx_211_53 : x_code k_P 211 53 = some (.getfield 118, 3) := by decide +kernel
theorem kx_211_56 : x_code k_P 211 56 = some (.iastore, 1) := by decide +kernel
theorem kx_211_57 : x_code k_P 211 57 = some (.return_, 1) := by decide +kernel
theorem kq_211 : x_retk k_P 211 = 0 := by decide +kernel
theorem kx_211_25 : x_code k_P 211 25 = some (.return_, 1) := by decide +kernel
theorem kx_211_14 : x_code k_P 211 14 = some (.iconst 1, 1) := by decide +kernel
theorem kx_211_15 : x_code k_P 211 15 = some (.goto 4, 3) := by decide +kernel
def fS_211_m : List (Nat × Nat) := [(63, 10), (63, 13), (63, 3), (63, 35), (63, 4), (63, 42), (63, 43), (63, 45), (63, 46), (63, 5), (63, 6), (63, 7), (63, 8), (63, 9), (77, 99999), (78, 99999), (81, 99999), (82, 99999), (85, 99999), (86, 99999), (87, 99999), (88, 99999), (89, 99999), (90, 99999)]
theorem m_211 {xs : Nat → Int} {Ln d : Nat} {T : List cK} {M : cM} (hT : TT T) (hI : Rng M) (hX : LXp M) (hS : TSg M) (p0 : M 63 4 + 1 ≤ M 63 5) (p1 : M 63 35 ≤ M 63 4) : cC k_P xs Ln (d + 5) 211 [rf 63] (T, M) (qV T M fS_211_m (fun M1 => LXp M1 ∧ M 63 4 ≤ M1 63 4 ∧ M 63 9 ≤ M1 63 9 ∧ (SLd M M1 ∧ KO M M1))) := by
  show cP k_P xs Ln (d + 5) 211 0 [(0, rf 63)] [] (T, M) _
  have hFm : Fr fS_211_m M M := Fr.refl
  have h639 := rg_63_9 hI
  have ⟨lx1, lx2⟩ := hX
  have h36 := rg_63_36 hI
  have h35 := rg_63_35 hI
  refine s_aload_n kx_211_0 rfl ?_
  refine s_aload_n kx_211_1 rfl ?_
  refine r_getR (k := 63) (f := 27) (k2 := 77) kx_211_2 kp_211_93 (tk_63 hT) kf_12_27 (by decide) (rq_63_27 hI) ?_
  refine s_aload_n kx_211_5 rfl ?_
  refine r_getI (k := 63) (f := 36) kx_211_6 kp_211_121 (tk_63 hT) kf_12_36 (fun _ => rfl) (rg_63_36 hI) (fun v1 v1e v1a v1b => ?_)
  refine r_ald (k := 77) kx_211_9 (tk_77 hT) ⟨by omega, by omega⟩ (rg_77 hI) (fun v2 v2e v2a v2b => ?_)
  refine s_iconst (v := (-1)) kx_211_10 (by decide) ?_
  refine s_icmp_eq (t := 18) kx_211_11 (by decide) (fun hc3 => ?_) (fun hc3 => ?_)
  · refine s_iconst (v := 0) kx_211_18 (by decide) ?_
    refine s_callV2 (k := 63) (s1 := 2) (s2 := 0) (as := [(0, 0)]) (rest := []) kx_211_19 kp_211_386 (Or.inl rfl) rfl (tk_63 hT) ki_199 kcl_199 rfl rfl (by decide) (m_199 (d := d + 2) (full := 0) hT hI hX (by omega)) (kW (fun v4 M5 hI5 fr5 v4p => ?_))
    have hFm5 := hFm.call fr5 rfl
    have tr6 := (fr5 63 35 rfl)
    have tr7 := (fr5 63 36 rfl)
    have tr8 := rg_63_9 hI5
    refine s_if_ne (t := 26) kx_211_22 (by decide) (fun hc9 => ?_) (fun hc9 => ?_)
    · refine s_aload_n kx_211_26 rfl ?_
      refine r_getR (k := 63) (f := 27) (k2 := 77) kx_211_27 kp_211_93 (tk_63 hT) kf_12_27 (by decide) (rq_63_27 hI5) ?_
      refine s_aload_n kx_211_30 rfl ?_
      refine r_getK (k := 63) (f := 36) kx_211_31 kp_211_121 (tk_63 hT) kf_12_36 (fun _ => rfl) ((fr5 63 36 rfl).trans v1e) ?_
      refine s_aload_n kx_211_34 rfl ?_
      refine r_getI (k := 63) (f := 35) kx_211_35 kp_211_118 (tk_63 hT) kf_12_35 (fun _ => rfl) (rg_63_35 hI5) (fun v10 v10e v10a v10b => ?_)
      have v10z : M 63 35 = v10 := ((fr5 63 35 rfl)).symm.trans v10e
      refine r_ast (k := 77) kx_211_38 (tk_77 hT) ⟨by omega, by omega⟩ hI5 (ru_77 (by omega) (by omega)) (fun M11 hI11 u11 => ?_)
      have hFm11 := hFm5.up u11 rfl
      have tr12 := (u11.2 63 3 (by omega))
      have tr13 := (u11.2 63 4 (by omega))
      have tr14 := (u11.2 63 5 (by omega))
      have tr15 := (u11.2 63 9 (by omega))
      have tr16 := (u11.2 63 35 (by omega))
      have tr17 := (u11.2 63 36 (by omega))
      refine s_aload_n kx_211_39 rfl ?_
      refine s_iconst (v := 0) kx_211_40 (by decide) ?_
      refine s_callV2 (k := 63) (s1 := 2) (s2 := 0) (as := [(0, 0)]) (rest := []) kx_211_41 kp_211_410 (Or.inl rfl) rfl (tk_63 hT) ki_198 kcl_198 rfl rfl (by decide) (m_198 (d := d) (test := 0) hT hI11 (LXp.up v4p.1 u11 (Or.inl (by decide))) (by omega) (by omega)) (kV (fun M19 hI19 fr19 v18p => ?_))
      have hFm19 := hFm11.call fr19 rfl
      have tr20 := (fr19 63 36 rfl)
      have tr21 := rg_63_9 hI19
      have hO22 := KO.rd (KO.up (KO.fr (KO.refl (M := M)) fr5 rfl) u11 (by decide) (Or.inl (by omega))) ((u11.2 63 36 (by omega)).trans (fr5 63 36 rfl)) fr19 rfl v18p.2.2.2.2
      have hr23 := v18p.2.2.2.1
      have tr24 := ((fr19 63 36 rfl).trans ((u11.2 63 36 (by omega)).trans (fr5 63 36 rfl)))
      refine s_aload_n kx_211_44 rfl ?_
      refine r_getR (k := 63) (f := 28) (k2 := 78) kx_211_45 kp_211_96 (tk_63 hT) kf_12_28 (by decide) (rq_63_28 hI19) ?_
      refine s_aload_n kx_211_48 rfl ?_
      refine r_getK (k := 63) (f := 36) kx_211_49 kp_211_121 (tk_63 hT) kf_12_36 (fun _ => rfl) ((fr19 63 36 rfl).trans ((u11.2 63 36 (by omega)).trans ((fr5 63 36 rfl).trans v1e))) ?_
      refine s_aload_n kx_211_52 rfl ?_
      refine r_getI (k := 63) (f := 35) kx_211_53 kp_211_118 (tk_63 hT) kf_12_35 (fun _ => rfl) (rg_63_35 hI19) (fun v25 v25e v25a v25b => ?_)
      refine r_ast (k := 78) kx_211_56 (tk_78 hT) ⟨by omega, by omega⟩ hI19 (ru_78 (by omega) (by omega)) (fun M26 hI26 u26 => ?_)
      have hFm26 := hFm19.up u26 rfl
      have tr27 := (u26.2 63 3 (by omega))
      have tr28 := (u26.2 63 4 (by omega))
      have tr29 := (u26.2 63 5 (by omega))
      have tr30 := (u26.2 63 9 (by omega))
      have tr31 := (u26.2 63 35 (by omega))
      have tr32 := (u26.2 63 36 (by omega))
      exact s_vret kx_211_57 kq_211 ⟨_, rfl, rfl, hI26, hFm26, ⟨(LXp.up v18p.1 u26 (Or.inl (by decide))), (by omega), (by omega), ⟨(if h9 : 1 ≤ M26 63 9 then Or.inl h9 else Or.inr ⟨by omega, ⟨(TS_put (x := 77) (y := 78) (z := 75) (w := 76) (by decide) (TSg.fr hS (rg_63_36 hI).1 fr5 rfl).1 ((fr5 63 36 rfl).trans v1e) v10e (by omega) (by omega) u11 fr19 rfl rfl v18p.2.2.2.1 (by omega) v25e u26).2, (TS_put (x := 77) (y := 78) (z := 75) (w := 76) (by decide) (TSg.fr hS (rg_63_36 hI).1 fr5 rfl).1 ((fr5 63 36 rfl).trans v1e) v10e (by omega) (by omega) u11 fr19 rfl rfl v18p.2.2.2.1 (by omega) v25e u26).1⟩, by have hq := (Or.resolve_left (show _ ∨ _ from v18p.2.2.2.1) (by omega)).2.1; omega⟩), (KO.up hO22 u26 (by decide) (Or.inl (by omega)))⟩⟩⟩
    · exact s_vret kx_211_25 kq_211 ⟨_, rfl, rfl, hI5, hFm5, ⟨v4p.1, (by omega), (by omega), ⟨Or.inl (by omega), (KO.fr (KO.refl (M := M)) fr5 rfl)⟩⟩⟩
  · refine s_iconst (v := 1) kx_211_14 (by decide) ?_
    refine s_goto (t := 19) kx_211_15 (by decide) ?_
    refine s_callV2 (k := 63) (s1 := 2) (s2 := 0) (as := [(0, 1)]) (rest := []) kx_211_19 kp_211_386 (Or.inl rfl) rfl (tk_63 hT) ki_199 kcl_199 rfl rfl (by decide) (m_199 (d := d + 2) (full := 1) hT hI hX (by omega)) (kW (fun v33 M34 hI34 fr34 v33p => ?_))
    have hFm34 := hFm.call fr34 rfl
    have tr35 := (fr34 63 35 rfl)
    have tr36 := (fr34 63 36 rfl)
    have tr37 := rg_63_9 hI34
    refine s_if_ne (t := 26) kx_211_22 (by decide) (fun hc38 => ?_) (fun hc38 => ?_)
    · refine s_aload_n kx_211_26 rfl ?_
      refine r_getR (k := 63) (f := 27) (k2 := 77) kx_211_27 kp_211_93 (tk_63 hT) kf_12_27 (by decide) (rq_63_27 hI34) ?_
      refine s_aload_n kx_211_30 rfl ?_
      refine r_getK (k := 63) (f := 36) kx_211_31 kp_211_121 (tk_63 hT) kf_12_36 (fun _ => rfl) ((fr34 63 36 rfl).trans v1e) ?_
      refine s_aload_n kx_211_34 rfl ?_
      refine r_getI (k := 63) (f := 35) kx_211_35 kp_211_118 (tk_63 hT) kf_12_35 (fun _ => rfl) (rg_63_35 hI34) (fun v39 v39e v39a v39b => ?_)
      have v39z : M 63 35 = v39 := ((fr34 63 35 rfl)).symm.trans v39e
      refine r_ast (k := 77) kx_211_38 (tk_77 hT) ⟨by omega, by omega⟩ hI34 (ru_77 (by omega) (by omega)) (fun M40 hI40 u40 => ?_)
      have hFm40 := hFm34.up u40 rfl
      have tr41 := (u40.2 63 3 (by omega))
      have tr42 := (u40.2 63 4 (by omega))
      have tr43 := (u40.2 63 5 (by omega))
      have tr44 := (u40.2 63 9 (by omega))
      have tr45 := (u40.2 63 35 (by omega))
      have tr46 := (u40.2 63 36 (by omega))
      refine s_aload_n kx_211_39 rfl ?_
      refine s_iconst (v := 0) kx_211_40 (by decide) ?_
      refine s_callV2 (k := 63) (s1 := 2) (s2 := 0) (as := [(0, 0)]) (rest := []) kx_211_41 kp_211_410 (Or.inl rfl) rfl (tk_63 hT) ki_198 kcl_198 rfl rfl (by decide) (m_198 (d := d) (test := 0) hT hI40 (LXp.up v33p.1 u40 (Or.inl (by decide))) (by omega) (by omega)) (kV (fun M48 hI48 fr48 v47p => ?_))
      have hFm48 := hFm40.call fr48 rfl
      have tr49 := (fr48 63 36 rfl)
      have tr50 := rg_63_9 hI48
      have hO51 := KO.rd (KO.up (KO.fr (KO.refl (M := M)) fr34 rfl) u40 (by decide) (Or.inl (by omega))) ((u40.2 63 36 (by omega)).trans (fr34 63 36 rfl)) fr48 rfl v47p.2.2.2.2
      have hr52 := v47p.2.2.2.1
      have tr53 := ((fr48 63 36 rfl).trans ((u40.2 63 36 (by omega)).trans (fr34 63 36 rfl)))
      refine s_aload_n kx_211_44 rfl ?_
      refine r_getR (k := 63) (f := 28) (k2 := 78) kx_211_45 kp_211_96 (tk_63 hT) kf_12_28 (by decide) (rq_63_28 hI48) ?_
      refine s_aload_n kx_211_48 rfl ?_
      refine r_getK (k := 63) (f := 36) kx_211_49 kp_211_121 (tk_63 hT) kf_12_36 (fun _ => rfl) ((fr48 63 36 rfl).trans ((u40.2 63 36 (by omega)).trans ((fr34 63 36 rfl).trans v1e))) ?_
      refine s_aload_n kx_211_52 rfl ?_
      refine r_getI (k := 63) (f := 35) kx_211_53 kp_211_118 (tk_63 hT) kf_12_35 (fun _ => rfl) (rg_63_35 hI48) (fun v54 v54e v54a v54b => ?_)
      refine r_ast (k := 78) kx_211_56 (tk_78 hT) ⟨by omega, by omega⟩ hI48 (ru_78 (by omega) (by omega)) (fun M55 hI55 u55 => ?_)
      have hFm55 := hFm48.up u55 rfl
      have tr56 := (u55.2 63 3 (by omega))
      have tr57 := (u55.2 63 4 (by omega))
      have tr58 := (u55.2 63 5 (by omega))
      have tr59 := (u55.2 63 9 (by omega))
      have tr60 := (u55.2 63 35 (by omega))
      have tr61 := (u55.2 63 36 (by omega))
      exact s_vret kx_211_57 kq_211 ⟨_, rfl, rfl, hI55, hFm55, ⟨(LXp.up v47p.1 u55 (Or.inl (by decide))), (by omega), (by omega), ⟨(if h9 : 1 ≤ M55 63 9 then Or.inl h9 else Or.inr ⟨by omega, ⟨(TS_put (x := 77) (y := 78) (z := 75) (w := 76) (by decide) (TSg.fr hS (rg_63_36 hI).1 fr34 rfl).1 ((fr34 63 36 rfl).trans v1e) v39e (by omega) (by omega) u40 fr48 rfl rfl v47p.2.2.2.1 (by omega) v54e u55).2, (TS_put (x := 77) (y := 78) (z := 75) (w := 76) (by decide) (TSg.fr hS (rg_63_36 hI).1 fr34 rfl).1 ((fr34 63 36 rfl).trans v1e) v39e (by omega) (by omega) u40 fr48 rfl rfl v47p.2.2.2.1 (by omega) v54e u55).1⟩, by have hq := (Or.resolve_left (show _ ∨ _ from v47p.2.2.2.1) (by omega)).2.1; omega⟩), (KO.up hO51 u55 (by decide) (Or.inl (by omega)))⟩⟩⟩
    · exact s_vret kx_211_25 kq_211 ⟨_, rfl, rfl, hI34, hFm34, ⟨v33p.1, (by omega), (by omega), ⟨Or.inl (by omega), (KO.fr (KO.refl (M := M)) fr34 rfl)⟩⟩⟩
