theorem SLd.mono {M M1 M2 : cM} (h : SLd M1 M2) (hm : M 63 4 ≤ M1 63 4) : SLd M M2 := by
  rcases h with h | ⟨h1, h2, h3⟩
  · exact Or.inl h
  · exact Or.inr ⟨by omega, h2, h3⟩
/-- what belongs to the town that stands stays -/
def OB (M M1 : cM) : Prop := M1 63 14 = M 63 14 ∧ (∀ k : Nat, 1600 * M 63 14 ≤ (k : Int) → (k : Int) < 1600 * M 63 14 + 1600 → M1 81 k = M 81 k) ∧ ∀ x, 75 ≤ x → x ≤ 78 → M1 x (M 63 14).toNat = M x (M 63 14).toNat
theorem OB.refl {M : cM} : OB M M := ⟨rfl, fun _ _ _ => rfl, fun _ _ _ => rfl⟩
theorem OB.up {M M1 M2 : cM} {k f : Nat} {v : Int} (h : OB M M1) (u : Up M1 k f v M2) (hk : k ≠ 81 ∧ (k ≠ 63 ∨ f ≠ 14)) (h2 : f ≠ (M 63 14).toNat ∨ k < 75 ∨ 78 < k) : OB M M2 :=
  ⟨(u.2 63 14 (by omega)).trans h.1, fun j a b => (u.2 81 j (by omega)).trans (h.2.1 j a b), fun x x1 x2 => (u.2 x _ (by omega)).trans (h.2.2 x x1 x2)⟩
theorem OB.fr {S : List (Nat × Nat)} {M M1 M2 : cM} (h : OB M M1) (g : Fr S M1 M2) (hs : sgd S = true) : OB M M2 := by
  unfold sgd at hs
  rw [Bool.and_eq_true] at hs
  obtain ⟨h1, h2⟩ := hs
  have h3 : ∀ c, c ∈ [75, 76, 77, 78, 81] → c < 114 → ∀ f, M2 c f = M1 c f := fun c hc hl f => g c f (nin hl (List.all_eq_true.mp h2 c hc) f)
  refine ⟨(g 63 14 (by simpa using h1)).trans h.1, fun j a b => (h3 81 (by decide) (by decide) j).trans (h.2.1 j a b), fun x x1 x2 => (h3 x ?_ (by omega) _).trans (h.2.2 x x1 x2)⟩
  have : x = 75 ∨ x = 76 ∨ x = 77 ∨ x = 78 := by omega
  rcases this with rfl | rfl | rfl | rfl <;> decide
theorem OB.ko {M M1 M2 : cM} (h : OB M M1) (hb : 0 ≤ M 63 14 ∧ M 63 14 ≤ 1) (hi : M1 63 36 = 1 - M 63 14) (g : KO M1 M2) (h14 : M2 63 14 = M1 63 14) : OB M M2 := by
  refine ⟨h14.trans h.1, fun j a b => (g.1 j (by omega)).trans (h.2.1 j a b), fun x x1 x2 => ?_⟩
  have := g.2 x x1 x2
  rw [show (1 - M1 63 36).toNat = (M 63 14).toNat by omega] at this
  exact this.trans (h.2.2 x x1 x2)
theorem SegOk.ob {M M1 : cM} {b lo hi : Int} (h : SegOk M b lo hi) (hb : 0 ≤ b) (g : ∀ k : Nat, 1600 * b ≤ (k : Int) → (k : Int) < 1600 * b + 1600 → M1 81 k = M 81 k) : SegOk M1 b lo hi := by
  rcases h with h | ⟨h1, h2, h3, h4⟩
  · exact Or.inl h
  · refine Or.inr ⟨h1, h2, h3, ?_⟩
    rw [hgt_congr (fun k k1 k2 => g k (by omega) (by omega))]
    exact h4
theorem Sg.ob {M M1 : cM} (h : Sg M) (hb : 0 ≤ M 63 14) (o : OB M M1) : Sg M1 := by
  unfold Sg
  rw [o.1, o.2.2 75 (by decide) (by decide), o.2.2 76 (by decide) (by decide), o.2.2 77 (by decide) (by decide), o.2.2 78 (by decide) (by decide)]
  exact ⟨h.1.ob hb o.2.1, h.2.ob hb o.2.1⟩
theorem TSg.sg {M M1 : cM} {i : Int} (h : TSg M) (hc : M 63 35 ≤ 1600) (hi : M 63 36 = i) (u : Up M 63 14 i M1) : Sg M1 := by
  have e : ∀ c, c ≠ 63 → ∀ f, M1 c f = M c f := fun c hc f => u.2 c f (by omega)
  unfold Sg
  rw [u.1, e 75 (by decide), e 76 (by decide), e 77 (by decide), e 78 (by decide)]
  have k : ∀ x y, tS M x y → SegOk M1 i (M x i.toNat) (M y i.toNat) := by
    intro x y h
    unfold tS at h
    rw [hi] at h
    rcases h with h | ⟨h1, h2, h3, h4⟩
    · exact Or.inl h
    · refine Or.inr ⟨h1, h2, by omega, ?_⟩
      rw [hgt_congr (fun k _ _ => e 81 (by decide) k)]
      exact h4
  exact ⟨k 75 76 h.1, k 77 78 h.2⟩
theorem kx_214_0 : x_code k_P 214 0 = some (.aload_n 0, 1) := by decide +kernel
theorem kx_214_1 : x_code k_P 214 1 = some (.invokevirtual 280, 3) := by decide +kernel
theorem kp_214_280 : x_pool k_P 214 280 = (2, 179, 0) := by decide +kernel
theorem kx_214_4 : x_code k_P 214 4 = some (.aload_n 0, 1) := by decide +kernel
theorem kx_214_5 : x_code k_P 214 5 = some (.getfield 39, 3) := by decide +kernel
theorem kp_214_39 : x_pool k_P 214 39 = (1, 12, 9) := by decide +kernel
theorem kx_214_8 : x_code k_P 214 8 = some (.ifCond .le 4, 3) := by decide +kernel
theorem kx_214_12 : x_code k_P 214 12 = some (.aload_n 0, 1) := by decide +kernel
theorem kx_214_13 : x_code k_P 214 13 = some (.ldc2_w 289, 3) := by decide +kernel
theorem kp_214_289 : x_pool k_P 214 289 = (8, 0, 1919905645) := by decide +kernel
theorem kx_214_16 : x_code k_P 214 16 = some (.invokevirtual 361, 3) := by decide +kernel
theorem kp_214_361 : x_pool k_P 214 361 = (2, 182, 1) := by decide +kernel
theorem kx_214_19 : x_code k_P 214 19 = some (.ifCond .eq 10, 3) := by decide +kernel
theorem kx_214_29 : x_code k_P 214 29 = some (.aload_n 0, 1) := by decide +kernel
theorem kx_214_30 : x_code k_P 214 30 = some (.ldc2_w 295, 3) := by decide +kernel
theorem kp_214_295 : x_pool k_P 214 295 = (8, 0, 7823737) := by decide +kernel
theorem kx_214_33 : x_code k_P 214 33 = some (.invokevirtual 361, 3) := by decide +kernel
theorem kx_214_36 : x_code k_P 214 36 = some (.ifCond .eq 10, 3) := by decide +kernel
theorem kx_214_46 : x_code k_P 214 46 = some (.aload_n 0, 1) := by decide +kernel
theorem kx_214_47 : x_code k_P 214 47 = some (.ldc2_w 299, 3) := by decide +kernel
theorem kp_214_299 : x_pool k_P 214 299 = (8, 0, 123581014175598) := by decide +kernel
theorem kx_214_50 : x_code k_P 214 50 = some (.invokevirtual 361, 3) := by decide +kernel
theorem kx_214_53 : x_code k_P 214 53 = some (.ifCond .eq 10, 3) := by decide +kernel
theorem kx_214_63 : x_code k_P 214 63 = some (.aload_n 0, 1) := by decide +kernel
theorem kx_214_64 : x_code k_P 214 64 = some (.ldc2_w 309, 3) := by decide +kernel
theorem kp_214_309 : x_pool k_P 214 309 = (8, 0, 117026742756708) := by decide +kernel
theorem kx_214_67 : x_code k_P 214 67 = some (.invokevirtual 361, 3) := by decide +kernel
theorem kx_214_70 : x_code k_P 214 70 = some (.ifCond .eq 10, 3) := by decide +kernel
theorem kx_214_80 : x_code k_P 214 80 = some (.aload_n 0, 1) := by decide +kernel
theorem kx_214_81 : x_code k_P 214 81 = some (.ldc2_w 311, 3) := by decide +kernel
theorem kp_214_311 : x_pool k_P 214 311 = (8, 0, 1936486263) := by decide +kernel
theorem kx_214_84 : x_code k_P 214 84 = some (.invokevirtual 361, 3) := by decide +kernel
theorem kx_214_87 : x_code k_P 214 87 = some (.ifCond .eq 10, 3) := by decide +kernel
theorem kx_214_97 : x_code k_P 214 97 = some (.aload_n 0, 1) := by decide +kernel
theorem kx_214_98 : x_code k_P 214 98 = some (.ldc2_w 313, 3) := by decide +kernel
theorem kp_214_313 : x_pool k_P 214 313 = (8, 0, 126943688025203) := by decide +kernel
theorem kx_214_101 : x_code k_P 214 101 = some (.invokevirtual 361, 3) := by decide +kernel
theorem kx_214_104 : x_code k_P 214 104 = some (.ifCond .eq 10, 3) := by decide +kernel
theorem kx_214_114 : x_code k_P 214 114 = some (.aload_n 0, 1) := by decide +kernel
theorem kx_214_115 : x_code k_P 214 115 = some (.ldc2_w 315, 3) := by decide +kernel
theorem kp_214_315 : x_pool k_P 214 315 = (8, 0, 108243466677107) := by decide +kernel
theorem kx_214_118 : x_code k_P 214 118 = some (.invokevirtual 361, 3) := by decide +kernel
theorem kx_214_121 : x_code k_P 214 121 = some (.ifCond .eq 10, 3) := by decide +kernel
theorem kx_214_131 : x_code k_P 214 131 = some (.aload_n 0, 1) := by decide +kernel
theorem kx_214_132 : x_code k_P 214 132 = some (.lconst 1, 1) := by decide +kernel
theorem kx_214_133 : x_code k_P 214 133 = some (.invokevirtual 361, 3) := by decide +kernel
theorem kx_214_136 : x_code k_P 214 136 = some (.ifCond .eq 10, 3) := by decide +kernel
theorem kx_214_146 : x_code k_P 214 146 = some (.aload_n 0, 1) := by decide +kernel
theorem kx_214_147 : x_code k_P 214 147 = some (.iconst 1, 1) := by decide +kernel
theorem kx_214_148 : x_code k_P 214 148 = some (.aload_n 0, 1) := by decide +kernel
theorem kx_214_149 : x_code k_P 214 149 = some (.getfield 23, 3) := by decide +kernel
theorem kp_214_23 : x_pool k_P 214 23 = (1, 12, 4) := by decide +kernel
theorem kx_214_152 : x_code k_P 214 152 = some (.invokevirtual 263, 3) := by decide +kernel
theorem kp_214_263 : x_pool k_P 214 263 = (2, 176, 2) := by decide +kernel
theorem kx_214_155 : x_code k_P 214 155 = some (.return_, 1) := by decide +kernel
theorem kq_214 : x_retk k_P 214 = 0 := by decide +kernel
theorem kx_214_139 : x_code k_P 214 139 = some (.aload_n 0, 1) := by decide +kernel
theorem kx_214_140 : x_code k_P 214 140 = some (.invokevirtual 435, 3) := by decide +kernel
theorem kp_214_435 : x_pool k_P 214 435 = (2, 213, 0) := by decide +kernel
theorem ki_213 : x_mci k_P 213 = 12 := by decide +kernel
theorem kcl_213 : x_maxL k_P 213 ≤ 60 ∧ 1 ≤ x_maxL k_P 213 := by decide +kernel
theorem kx_214_143 : x_code k_P 214 143 = some (.goto 12, 3) := by decide +kernel
theorem kx_214_124 : x_code k_P 214 124 = some (.aload_n 0, 1) := by decide +kernel
theorem kx_214_125 : x_code k_P 214 125 = some (.invokevirtual 432, 3) := by decide +kernel
theorem kp_214_432 : x_pool k_P 214 432 = (2, 212, 0) := by decide +kernel
theorem ki_212 : x_mci k_P 212 = 12 := by decide +kernel
theorem kcl_212 : x_maxL k_P 212 ≤ 60 ∧ 1 ≤ x_maxL k_P 212 := by decide +kernel
theorem kx_214_128 : x_code k_P 214 128 = some (.goto 27, 3) := by decide +kernel
theorem kx_214_107 : x_code k_P 214 107 = some (.aload_n 0, 1) := by decide +kernel
theorem kx_214_108 : x_code k_P 214 108 = some (.invokevirtual 429, 3) := by decide +kernel
theorem kp_214_429 : x_pool k_P 214 429 = (2, 211, 0) := by decide +kernel
theorem ki_211 : x_mci k_P 211 = 12 := by decide +kernel
theorem kcl_211 : x_maxL k_P 211 ≤ 60 ∧ 1 ≤ x_maxL k_P 211 := by decide +kernel
theorem kx_214_111 : x_code k_P 214 111 = some (.goto 44, 3) := by decide +kernel
theorem kx_214_90 : x_code k_P 214 90 = some (.aload_n 0, 1) := by decide +kernel
theorem kx_214_91 : x_code k_P 214 91 = some (.invokevirtual 426, 3) := by decide +kernel
theorem kp_214_426 : x_pool k_P 214 426 = (2, 210, 0) := by decide +kernel
theorem ki_210 : x_mci k_P 210 = 12 := by decide +kernel
theorem kcl_210 : x_maxL k_P 210 ≤ 60 ∧ 1 ≤ x_maxL k_P 210 := by decide +kernel
theorem kx_214_94 : x_code k_P 214 94 = some (.goto 61, 3) := by decide +kernel
theorem kx_214_73 : x_code k_P 214 73 = some (.aload_n 0, 1) := by decide +kernel
theorem kx_214_74 : x_code k_P 214 74 = some (.invokevirtual 423, 3) := by decide +kernel
theorem kp_214_423 : x_pool k_P 214 423 = (2, 209, 0) := by decide +kernel
theorem ki_209 : x_mci k_P 209 = 12 := by decide +kernel
theorem kcl_209 : x_maxL k_P 209 ≤ 60 ∧ 1 ≤ x_maxL k_P 209 := by decide +kernel
theorem kx_214_77 : x_code k_P 214 77 = some (.goto 78, 3) := by decide +kernel
theorem kx_214_56 : x_code k_P 214 56 = some (.aload_n 0, 1) := by decide +kernel
theorem kx_214_57 : x_code k_P 214 57 = some (.invokevirtual 420, 3) := by decide +kernel
theorem kp_214_420 : x_pool k_P 214 420 = (2, 207, 0) := by decide +kernel
theorem ki_207 : x_mci k_P 207 = 12 := by decide +kernel
theorem kcl_207 : x_maxL k_P 207 ≤ 60 ∧ 1 ≤ x_maxL k_P 207 := by decide +kernel
theorem kx_214_60 : x_code k_P 214 60 = some (.goto 95, 3) := by decide +kernel
theorem kx_214_39 : x_code k_P 214 39 = some (.aload_n 0, 1) := by decide +kernel
theorem kx_214_40 : x_code k_P 214 40 = some (.invokevirtual 417, 3) := by decide +kernel
theorem kp_214_417 : x_pool k_P 214 417 = (2, 205, 0) := by decide +kernel
theorem ki_205 : x_mci k_P 205 = 12 := by decide +kernel
theorem kcl_205 : x_maxL k_P 205 ≤ 60 ∧ 1 ≤ x_maxL k_P 205 := by decide +kernel
theorem kx_214_43 : x_code k_P 214 43 = some (.goto 112, 3) := by decide +kernel
theorem kx_214_22 : x_code k_P 214 22 = some (.aload_n 0, 1) := by decide +kernel
theorem kx_214_23 : x_code k_P 214 23 = some (.invokevirtual 414, 3) := by decide +kernel
theorem kp_214_414 : x_pool k_P 214 414 = (2, 204, 0) := by decide +kernel
theorem ki_204 : x_mci k_P 204 = 12 := by decide +kernel
theorem kcl_204 : x_maxL k_P 204 ≤ 60 ∧ 1 ≤ x_maxL k_P 204 := by decide +kernel
theorem kx_214_26 : x_code k_P 214 26 = some (.goto 129, 3) := by decide +kernel
theorem kx_214_11 : x_code k_P 214 11 = some (.return_, 1) := by decide +kernel
def fS_214_m : List (Nat × Nat) := [(63, 10), (63, 13), (63, 3), (63, 35), (63, 4), (63, 42), (63, 43), (63, 45), (63, 46), (63, 5), (63, 6), (63, 7), (63, 8), (63, 9), (65, 99999), (66, 99999), (67, 99999), (68, 99999), (69, 99999), (70, 99999), (71, 99999), (72, 99999), (73, 99999), (74, 99999), (75, 99999), (76, 99999), (77, 99999), (78, 99999), (79, 99999), (80, 99999), (81, 99999), (82, 99999), (83, 99999), (84, 99999), (85, 99999), (86, 99999), (87, 99999), (88, 99999), (89, 99999), (90, 99999)]
theorem m_214 {xs : Nat → Int} {Ln d : Nat} {T : List cK} {M : cM} (hT : TT T) (hI : Rng M) (hX : LXp M) (hS : TSg M) (p0 : M 63 35 ≤ M 63 4) : cC k_P xs Ln (d + 6) 214 [rf 63] (T, M) (qV T M fS_214_m (fun M1 => LXp M1 ∧ M 63 4 ≤ M1 63 4 ∧ M 63 9 ≤ M1 63 9 ∧ (SLd M M1 ∧ KO M M1))) := by
  show cP k_P xs Ln (d + 6) 214 0 [(0, rf 63)] [] (T, M) _
  have hFm : Fr fS_214_m M M := Fr.refl
  have h639 := rg_63_9 hI
  have ⟨lx1, lx2⟩ := hX
  refine s_aload_n kx_214_0 rfl ?_
  refine s_callV2 (k := 63) (s1 := 1) (s2 := 0) (as := []) (rest := []) kx_214_1 kp_214_280 (Or.inl rfl) rfl (tk_63 hT) ki_179 kcl_179 rfl rfl (by decide) (m_179 (d := d + 4) hT hI) (kV (fun M2 hI2 fr2 v1p => ?_))
  have hFm2 := hFm.call fr2 rfl
  have tr3 := (fr2 63 3 rfl)
  have tr4 := (fr2 63 4 rfl)
  have tr5 := (fr2 63 5 rfl)
  have tr6 := (fr2 63 35 rfl)
  have tr7 := (fr2 63 36 rfl)
  have tr8 := rg_63_9 hI2
  refine s_aload_n kx_214_4 rfl ?_
  refine r_getI (k := 63) (f := 9) kx_214_5 kp_214_39 (tk_63 hT) kf_12_9 (fun _ => rfl) (rg_63_9 hI2) (fun v9 v9e v9a v9b => ?_)
  refine s_if_le (t := 12) kx_214_8 (by decide) (fun hc10 => ?_) (fun hc10 => ?_)
  · refine s_aload_n kx_214_12 rfl ?_
    refine s_ldc2_w kx_214_13 kp_214_289 ?_
    refine s_callV2 (k := 63) (s1 := 3) (s2 := 0) (as := [(1, 1919905645)]) (rest := []) kx_214_16 kp_214_361 (Or.inl rfl) rfl (tk_63 hT) ki_182 kcl_182 rfl rfl (by decide) (m_182 (d := d + 5) (w := 1919905645) hT hI2) (kF (fun v11 v11p => ?_))
    refine s_if_eq (t := 29) kx_214_19 (by decide) (fun hc12 => ?_) (fun hc12 => ?_)
    · replace v11p := v11p.resolve_left (by omega)
      refine s_aload_n kx_214_29 rfl ?_
      refine s_ldc2_w kx_214_30 kp_214_295 ?_
      refine s_callV2 (k := 63) (s1 := 3) (s2 := 0) (as := [(1, 7823737)]) (rest := []) kx_214_33 kp_214_361 (Or.inl rfl) rfl (tk_63 hT) ki_182 kcl_182 rfl rfl (by decide) (m_182 (d := d + 5) (w := 7823737) hT hI2) (kF (fun v13 v13p => ?_))
      refine s_if_eq (t := 46) kx_214_36 (by decide) (fun hc14 => ?_) (fun hc14 => ?_)
      · replace v13p := v13p.resolve_left (by omega)
        refine s_aload_n kx_214_46 rfl ?_
        refine s_ldc2_w kx_214_47 kp_214_299 ?_
        refine s_callV2 (k := 63) (s1 := 3) (s2 := 0) (as := [(1, 123581014175598)]) (rest := []) kx_214_50 kp_214_361 (Or.inl rfl) rfl (tk_63 hT) ki_182 kcl_182 rfl rfl (by decide) (m_182 (d := d + 5) (w := 123581014175598) hT hI2) (kF (fun v15 v15p => ?_))
        refine s_if_eq (t := 63) kx_214_53 (by decide) (fun hc16 => ?_) (fun hc16 => ?_)
        · replace v15p := v15p.resolve_left (by omega)
          refine s_aload_n kx_214_63 rfl ?_
          refine s_ldc2_w kx_214_64 kp_214_309 ?_
          refine s_callV2 (k := 63) (s1 := 3) (s2 := 0) (as := [(1, 117026742756708)]) (rest := []) kx_214_67 kp_214_361 (Or.inl rfl) rfl (tk_63 hT) ki_182 kcl_182 rfl rfl (by decide) (m_182 (d := d + 5) (w := 117026742756708) hT hI2) (kF (fun v17 v17p => ?_))
          refine s_if_eq (t := 80) kx_214_70 (by decide) (fun hc18 => ?_) (fun hc18 => ?_)
          · replace v17p := v17p.resolve_left (by omega)
            refine s_aload_n kx_214_80 rfl ?_
            refine s_ldc2_w kx_214_81 kp_214_311 ?_
            refine s_callV2 (k := 63) (s1 := 3) (s2 := 0) (as := [(1, 1936486263)]) (rest := []) kx_214_84 kp_214_361 (Or.inl rfl) rfl (tk_63 hT) ki_182 kcl_182 rfl rfl (by decide) (m_182 (d := d + 5) (w := 1936486263) hT hI2) (kF (fun v19 v19p => ?_))
            refine s_if_eq (t := 97) kx_214_87 (by decide) (fun hc20 => ?_) (fun hc20 => ?_)
            · replace v19p := v19p.resolve_left (by omega)
              refine s_aload_n kx_214_97 rfl ?_
              refine s_ldc2_w kx_214_98 kp_214_313 ?_
              refine s_callV2 (k := 63) (s1 := 3) (s2 := 0) (as := [(1, 126943688025203)]) (rest := []) kx_214_101 kp_214_361 (Or.inl rfl) rfl (tk_63 hT) ki_182 kcl_182 rfl rfl (by decide) (m_182 (d := d + 5) (w := 126943688025203) hT hI2) (kF (fun v21 v21p => ?_))
              refine s_if_eq (t := 114) kx_214_104 (by decide) (fun hc22 => ?_) (fun hc22 => ?_)
              · replace v21p := v21p.resolve_left (by omega)
                refine s_aload_n kx_214_114 rfl ?_
                refine s_ldc2_w kx_214_115 kp_214_315 ?_
                refine s_callV2 (k := 63) (s1 := 3) (s2 := 0) (as := [(1, 108243466677107)]) (rest := []) kx_214_118 kp_214_361 (Or.inl rfl) rfl (tk_63 hT) ki_182 kcl_182 rfl rfl (by decide) (m_182 (d := d + 5) (w := 108243466677107) hT hI2) (kF (fun v23 v23p => ?_))
                refine s_if_eq (t := 131) kx_214_121 (by decide) (fun hc24 => ?_) (fun hc24 => ?_)
                · replace v23p := v23p.resolve_left (by omega)
                  refine s_aload_n kx_214_131 rfl ?_
                  refine s_lconst (v := 1) kx_214_132 (by decide) ?_
                  refine s_callV2 (k := 63) (s1 := 3) (s2 := 0) (as := [(1, 1)]) (rest := []) kx_214_133 kp_214_361 (Or.inl rfl) rfl (tk_63 hT) ki_182 kcl_182 rfl rfl (by decide) (m_182 (d := d + 5) (w := 1) hT hI2) (kF (fun v25 v25p => ?_))
                  refine s_if_eq (t := 146) kx_214_136 (by decide) (fun hc26 => ?_) (fun hc26 => ?_)
                  · replace v25p := v25p.resolve_left (by omega)
                    refine s_aload_n kx_214_146 rfl ?_
                    refine s_iconst (v := 1) kx_214_147 (by decide) ?_
                    refine s_aload_n kx_214_148 rfl ?_
                    refine r_getI (k := 63) (f := 4) kx_214_149 kp_214_23 (tk_63 hT) kf_12_4 (fun _ => rfl) (rg_63_4 hI2) (fun v27 v27e v27a v27b => ?_)
                    have v27z : M 63 4 = v27 := ((fr2 63 4 rfl)).symm.trans v27e
                    refine s_callV2 (k := 63) (s1 := 3) (s2 := 0) (as := [(0, v27), (0, 1)]) (rest := []) kx_214_152 kp_214_263 (Or.inl rfl) rfl (tk_63 hT) ki_176 kcl_176 rfl rfl (by decide) (m_176 (d := d + 5) (kind := 1) (place := v27) hT hI2 (by omega)) (kV (fun M29 hI29 fr29 v28p => ?_))
                    have hFm29 := hFm2.call fr29 rfl
                    have tr30 := (fr29 63 3 rfl)
                    have tr31 := (fr29 63 4 rfl)
                    have tr32 := (fr29 63 5 rfl)
                    have tr33 := (fr29 63 35 rfl)
                    have tr34 := (fr29 63 36 rfl)
                    have tr35 := rg_63_9 hI29
                    have hk36 : M29 63 4 = v27 := ((fr29 63 4 rfl).trans v27e)
                    exact s_vret kx_214_155 kq_214 ⟨_, rfl, rfl, hI29, hFm29, ⟨(LXp.fr (LXp.fr hX fr2 rfl) fr29 rfl), (by omega), (by omega), ⟨Or.inl (by omega), (KO.fr (KO.fr (KO.refl (M := M)) fr2 rfl) fr29 rfl)⟩⟩⟩
                  · replace v25p := v25p.resolve_right (by omega)
                    refine s_aload_n kx_214_139 rfl ?_
                    refine s_callV2 (k := 63) (s1 := 1) (s2 := 0) (as := []) (rest := []) kx_214_140 kp_214_435 (Or.inl rfl) rfl (tk_63 hT) ki_213 kcl_213 rfl rfl (by decide) (m_213 (d := d + 1) hT hI2 (LXp.fr hX fr2 rfl) (by omega)) (kV (fun M38 hI38 fr38 v37p => ?_))
                    have hFm38 := hFm2.call fr38 rfl
                    have tr39 := (fr38 63 35 rfl)
                    have tr40 := (fr38 63 36 rfl)
                    have tr41 := rg_63_9 hI38
                    refine s_goto (t := 155) kx_214_143 (by decide) ?_
                    exact s_vret kx_214_155 kq_214 ⟨_, rfl, rfl, hI38, hFm38, ⟨v37p.1, (by omega), (by omega), ⟨SLd.of v37p.2.2.2 (by omega) (TSg.fr (TSg.fr hS (rg_63_36 hI).1 fr2 rfl) (rg_63_36 hI2).1 fr38 rfl) (by omega), (KO.fr (KO.fr (KO.refl (M := M)) fr2 rfl) fr38 rfl)⟩⟩⟩
                · replace v23p := v23p.resolve_right (by omega)
                  refine s_aload_n kx_214_124 rfl ?_
                  refine s_callV2 (k := 63) (s1 := 1) (s2 := 0) (as := []) (rest := []) kx_214_125 kp_214_432 (Or.inl rfl) rfl (tk_63 hT) ki_212 kcl_212 rfl rfl (by decide) (m_212 (d := d + 2) hT hI2 (LXp.fr hX fr2 rfl) (by omega)) (kV (fun M43 hI43 fr43 v42p => ?_))
                  have hFm43 := hFm2.call fr43 rfl
                  have tr44 := (fr43 63 35 rfl)
                  have tr45 := (fr43 63 36 rfl)
                  have tr46 := rg_63_9 hI43
                  refine s_goto (t := 155) kx_214_128 (by decide) ?_
                  exact s_vret kx_214_155 kq_214 ⟨_, rfl, rfl, hI43, hFm43, ⟨v42p.1, (by omega), (by omega), ⟨SLd.of v42p.2.2.2 (by omega) (TSg.fr (TSg.fr hS (rg_63_36 hI).1 fr2 rfl) (rg_63_36 hI2).1 fr43 rfl) (by omega), (KO.fr (KO.fr (KO.refl (M := M)) fr2 rfl) fr43 rfl)⟩⟩⟩
              · replace v21p := v21p.resolve_right (by omega)
                refine s_aload_n kx_214_107 rfl ?_
                refine s_callV2 (k := 63) (s1 := 1) (s2 := 0) (as := []) (rest := []) kx_214_108 kp_214_429 (Or.inl rfl) rfl (tk_63 hT) ki_211 kcl_211 rfl rfl (by decide) (m_211 (d := d) hT hI2 (LXp.fr hX fr2 rfl) (TSg.fr hS (rg_63_36 hI).1 fr2 rfl) (by omega) (by omega)) (kV (fun M48 hI48 fr48 v47p => ?_))
                have hFm48 := hFm2.call fr48 rfl
                have tr49 := (fr48 63 36 rfl)
                have tr50 := rg_63_9 hI48
                have hO51 := KO.trans (KO.fr (KO.refl (M := M)) fr2 rfl) (fr2 63 36 rfl) v47p.2.2.2.2
                refine s_goto (t := 155) kx_214_111 (by decide) ?_
                exact s_vret kx_214_155 kq_214 ⟨_, rfl, rfl, hI48, hFm48, ⟨v47p.1, (by omega), (by omega), ⟨SLd.mono v47p.2.2.2.1 (by omega), hO51⟩⟩⟩
            · replace v19p := v19p.resolve_right (by omega)
              refine s_aload_n kx_214_90 rfl ?_
              refine s_callV2 (k := 63) (s1 := 1) (s2 := 0) (as := []) (rest := []) kx_214_91 kp_214_426 (Or.inl rfl) rfl (tk_63 hT) ki_210 kcl_210 rfl rfl (by decide) (m_210 (d := d) hT hI2 (LXp.fr hX fr2 rfl) (TSg.fr hS (rg_63_36 hI).1 fr2 rfl) (by omega) (by omega)) (kV (fun M53 hI53 fr53 v52p => ?_))
              have hFm53 := hFm2.call fr53 rfl
              have tr54 := (fr53 63 36 rfl)
              have tr55 := rg_63_9 hI53
              have hO56 := KO.trans (KO.fr (KO.refl (M := M)) fr2 rfl) (fr2 63 36 rfl) v52p.2.2.2.2
              refine s_goto (t := 155) kx_214_94 (by decide) ?_
              exact s_vret kx_214_155 kq_214 ⟨_, rfl, rfl, hI53, hFm53, ⟨v52p.1, (by omega), (by omega), ⟨SLd.mono v52p.2.2.2.1 (by omega), hO56⟩⟩⟩
          · replace v17p := v17p.resolve_right (by omega)
            refine s_aload_n kx_214_73 rfl ?_
            refine s_callV2 (k := 63) (s1 := 1) (s2 := 0) (as := []) (rest := []) kx_214_74 kp_214_423 (Or.inl rfl) rfl (tk_63 hT) ki_209 kcl_209 rfl rfl (by decide) (m_209 (d := d + 1) hT hI2 (LXp.fr hX fr2 rfl) (by omega)) (kV (fun M58 hI58 fr58 v57p => ?_))
            have hFm58 := hFm2.call fr58 rfl
            have tr59 := (fr58 63 35 rfl)
            have tr60 := (fr58 63 36 rfl)
            have tr61 := rg_63_9 hI58
            refine s_goto (t := 155) kx_214_77 (by decide) ?_
            exact s_vret kx_214_155 kq_214 ⟨_, rfl, rfl, hI58, hFm58, ⟨v57p.1, (by omega), (by omega), ⟨SLd.of v57p.2.2.2 (by omega) (TSg.fr (TSg.fr hS (rg_63_36 hI).1 fr2 rfl) (rg_63_36 hI2).1 fr58 rfl) (by omega), (KO.fr (KO.fr (KO.refl (M := M)) fr2 rfl) fr58 rfl)⟩⟩⟩
        · replace v15p := v15p.resolve_right (by omega)
          refine s_aload_n kx_214_56 rfl ?_
          refine s_callV2 (k := 63) (s1 := 1) (s2 := 0) (as := []) (rest := []) kx_214_57 kp_214_420 (Or.inl rfl) rfl (tk_63 hT) ki_207 kcl_207 rfl rfl (by decide) (m_207 (d := d + 2) hT hI2 (LXp.fr hX fr2 rfl) (by omega)) (kV (fun M63 hI63 fr63 v62p => ?_))
          have hFm63 := hFm2.call fr63 rfl
          have tr64 := (fr63 63 35 rfl)
          have tr65 := (fr63 63 36 rfl)
          have tr66 := rg_63_9 hI63
          refine s_goto (t := 155) kx_214_60 (by decide) ?_
          exact s_vret kx_214_155 kq_214 ⟨_, rfl, rfl, hI63, hFm63, ⟨v62p.1, (by omega), (by omega), ⟨SLd.of v62p.2.2.2 (by omega) (TSg.fr (TSg.fr hS (rg_63_36 hI).1 fr2 rfl) (rg_63_36 hI2).1 fr63 rfl) (by omega), (KO.fr (KO.fr (KO.refl (M := M)) fr2 rfl) fr63 rfl)⟩⟩⟩
      · replace v13p := v13p.resolve_right (by omega)
        refine s_aload_n kx_214_39 rfl ?_
        refine s_callV2 (k := 63) (s1 := 1) (s2 := 0) (as := []) (rest := []) kx_214_40 kp_214_417 (Or.inl rfl) rfl (tk_63 hT) ki_205 kcl_205 rfl rfl (by decide) (m_205 (d := d + 1) hT hI2 (LXp.fr hX fr2 rfl) (by omega)) (kV (fun M68 hI68 fr68 v67p => ?_))
        have hFm68 := hFm2.call fr68 rfl
        have tr69 := (fr68 63 35 rfl)
        have tr70 := (fr68 63 36 rfl)
        have tr71 := rg_63_9 hI68
        refine s_goto (t := 155) kx_214_43 (by decide) ?_
        exact s_vret kx_214_155 kq_214 ⟨_, rfl, rfl, hI68, hFm68, ⟨v67p.1, (by omega), (by omega), ⟨SLd.of v67p.2.2.2 (by omega) (TSg.fr (TSg.fr hS (rg_63_36 hI).1 fr2 rfl) (rg_63_36 hI2).1 fr68 rfl) (by omega), (KO.fr (KO.fr (KO.refl (M := M)) fr2 rfl) fr68 rfl)⟩⟩⟩
    · replace v11p := v11p.resolve_right (by omega)
      refine s_aload_n kx_214_22 rfl ?_
      refine s_callV2 (k := 63) (s1 := 1) (s2 := 0) (as := []) (rest := []) kx_214_23 kp_214_414 (Or.inl rfl) rfl (tk_63 hT) ki_204 kcl_204 rfl rfl (by decide) (m_204 (d := d + 2) hT hI2 (LXp.fr hX fr2 rfl) (by omega)) (kV (fun M73 hI73 fr73 v72p => ?_))
      have hFm73 := hFm2.call fr73 rfl
      have tr74 := (fr73 63 35 rfl)
      have tr75 := (fr73 63 36 rfl)
      have tr76 := rg_63_9 hI73
      refine s_goto (t := 155) kx_214_26 (by decide) ?_
      exact s_vret kx_214_155 kq_214 ⟨_, rfl, rfl, hI73, hFm73, ⟨v72p.1, (by omega), (by omega), ⟨SLd.of v72p.2.2.2 (by omega) (TSg.fr (TSg.fr hS (rg_63_36 hI).1 fr2 rfl) (rg_63_36 hI2).1 fr73 rfl) (by omega), (KO.fr (KO.fr (KO.refl (M := M)) fr2 rfl) fr73 rfl)⟩⟩⟩
  · have hk77 : M2 63 9 = v9 := v9e
    exact s_vret kx_214_11 kq_214 ⟨_, rfl, rfl, hI2, hFm2, ⟨(LXp.fr hX fr2 rfl), (by omega), (by omega), ⟨Or.inl (by omega), (KO.fr (KO.refl (M := M)) fr2 rfl)⟩⟩⟩
theorem kx_216_0 : x_code k_P 216 0 = some (.aload_n 0, 1) := by decide +kernel
theorem kx_216_1 : x_code k_P 216 1 = some (.aload_n 0, 1) := by decide +kernel
theorem kx_216_2 : x_code k_P 216 2 = some (.getfield 13, 3) := by decide +kernel
theorem kp_216_13 : x_pool k_P 216 13 = (1, 12, 1) := by decide +kernel
theorem kx_216_5 : x_code k_P 216 5 = some (.putfield 17, 3) := by decide +kernel
theorem kp_216_17 : x_pool k_P 216 17 = (1, 12, 2) := by decide +kernel
theorem kx_216_8 : x_code k_P 216 8 = some (.aload_n 0, 1) := by decide +kernel
theorem kx_216_9 : x_code k_P 216 9 = some (.iconst 0, 1) := by decide +kernel
theorem kx_216_10 : x_code k_P 216 10 = some (.putfield 13, 3) := by decide +kernel
theorem kx_216_13 : x_code k_P 216 13 = some (.aload_n 0, 1) := by decide +kernel
theorem kx_216_14 : x_code k_P 216 14 = some (.iconst 0, 1) := by decide +kernel
theorem kx_216_15 : x_code k_P 216 15 = some (.putfield 26, 3) := by decide +kernel
theorem kp_216_26 : x_pool k_P 216 26 = (1, 12, 5) := by decide +kernel
theorem kx_216_18 : x_code k_P 216 18 = some (.aload_n 0, 1) := by decide +kernel
theorem kx_216_19 : x_code k_P 216 19 = some (.iconst 0, 1) := by decide +kernel
theorem kx_216_20 : x_code k_P 216 20 = some (.putfield 39, 3) := by decide +kernel
theorem kp_216_39 : x_pool k_P 216 39 = (1, 12, 9) := by decide +kernel
theorem kx_216_23 : x_code k_P 216 23 = some (.aload_n 0, 1) := by decide +kernel
theorem kx_216_24 : x_code k_P 216 24 = some (.iconst (-1), 1) := by decide +kernel
theorem kx_216_25 : x_code k_P 216 25 = some (.putfield 42, 3) := by decide +kernel
theorem kp_216_42 : x_pool k_P 216 42 = (1, 12, 10) := by decide +kernel
theorem kx_216_28 : x_code k_P 216 28 = some (.aload_n 0, 1) := by decide +kernel
theorem kx_216_29 : x_code k_P 216 29 = some (.iconst 1, 1) := by decide +kernel
theorem kx_216_30 : x_code k_P 216 30 = some (.aload_n 0, 1) := by decide +kernel
theorem kx_216_31 : x_code k_P 216 31 = some (.getfield 54, 3) := by decide +kernel
theorem kp_216_54 : x_pool k_P 216 54 = (1, 12, 14) := by decide +kernel
theorem kx_216_34 : x_code k_P 216 34 = some (.isub, 1) := by decide +kernel
theorem kx_216_35 : x_code k_P 216 35 = some (.putfield 121, 3) := by decide +kernel
theorem kp_216_121 : x_pool k_P 216 121 = (1, 12, 36) := by decide +kernel
theorem kx_216_38 : x_code k_P 216 38 = some (.aload_n 0, 1) := by decide +kernel
theorem kx_216_39 : x_code k_P 216 39 = some (.getfield 57, 3) := by decide +kernel
theorem kp_216_57 : x_pool k_P 216 57 = (1, 12, 15) := by decide +kernel
theorem kx_216_42 : x_code k_P 216 42 = some (.aload_n 0, 1) := by decide +kernel
theorem kx_216_43 : x_code k_P 216 43 = some (.getfield 121, 3) := by decide +kernel
theorem kx_216_46 : x_code k_P 216 46 = some (.iconst 0, 1) := by decide +kernel
theorem kx_216_47 : x_code k_P 216 47 = some (.iastore, 1) := by decide +kernel
theorem kx_216_48 : x_code k_P 216 48 = some (.aload_n 0, 1) := by decide +kernel
theorem kx_216_49 : x_code k_P 216 49 = some (.getfield 69, 3) := by decide +kernel
theorem kp_216_69 : x_pool k_P 216 69 = (1, 12, 19) := by decide +kernel
theorem kx_216_52 : x_code k_P 216 52 = some (.aload_n 0, 1) := by decide +kernel
theorem kx_216_53 : x_code k_P 216 53 = some (.getfield 121, 3) := by decide +kernel
theorem kx_216_56 : x_code k_P 216 56 = some (.iconst 0, 1) := by decide +kernel
theorem kx_216_57 : x_code k_P 216 57 = some (.iastore, 1) := by decide +kernel
theorem kx_216_58 : x_code k_P 216 58 = some (.aload_n 0, 1) := by decide +kernel
theorem kx_216_59 : x_code k_P 216 59 = some (.getfield 99, 3) := by decide +kernel
theorem kp_216_99 : x_pool k_P 216 99 = (1, 12, 29) := by decide +kernel
theorem kx_216_62 : x_code k_P 216 62 = some (.aload_n 0, 1) := by decide +kernel
theorem kx_216_63 : x_code k_P 216 63 = some (.getfield 121, 3) := by decide +kernel
theorem kx_216_66 : x_code k_P 216 66 = some (.iconst 0, 1) := by decide +kernel
theorem kx_216_67 : x_code k_P 216 67 = some (.iastore, 1) := by decide +kernel
theorem kx_216_68 : x_code k_P 216 68 = some (.aload_n 0, 1) := by decide +kernel
theorem kx_216_69 : x_code k_P 216 69 = some (.getfield 102, 3) := by decide +kernel
theorem kp_216_102 : x_pool k_P 216 102 = (1, 12, 30) := by decide +kernel
theorem kx_216_72 : x_code k_P 216 72 = some (.aload_n 0, 1) := by decide +kernel
theorem kx_216_73 : x_code k_P 216 73 = some (.getfield 121, 3) := by decide +kernel
theorem kx_216_76 : x_code k_P 216 76 = some (.iconst (-1), 1) := by decide +kernel
theorem kx_216_77 : x_code k_P 216 77 = some (.iastore, 1) := by decide +kernel
theorem kx_216_78 : x_code k_P 216 78 = some (.aload_n 0, 1) := by decide +kernel
theorem kx_216_79 : x_code k_P 216 79 = some (.getfield 87, 3) := by decide +kernel
theorem kp_216_87 : x_pool k_P 216 87 = (1, 12, 25) := by decide +kernel
theorem kx_216_82 : x_code k_P 216 82 = some (.aload_n 0, 1) := by decide +kernel
theorem kx_216_83 : x_code k_P 216 83 = some (.getfield 121, 3) := by decide +kernel
theorem kx_216_86 : x_code k_P 216 86 = some (.iconst (-1), 1) := by decide +kernel
theorem kx_216_87 : x_code k_P 216 87 = some (.iastore, 1) := by decide +kernel
theorem kx_216_88 : x_code k_P 216 88 = some (.aload_n 0, 1) := by decide +kernel
theorem kx_216_89 : x_code k_P 216 89 = some (.getfield 93, 3) := by decide +kernel
theorem kp_216_93 : x_pool k_P 216 93 = (1, 12, 27) := by decide +kernel
theorem kx_216_92 : x_code k_P 216 92 = some (.aload_n 0, 1) := by decide +kernel
theorem kx_216_93 : x_code k_P 216 93 = some (.getfield 121, 3) := by decide +kernel
theorem kx_216_96 : x_code k_P 216 96 = some (.iconst (-1), 1) := by decide +kernel
theorem kx_216_97 : x_code k_P 216 97 = some (.iastore, 1) := by decide +kernel
theorem kx_216_98 : x_code k_P 216 98 = some (.aload_n 0, 1) := by decide +kernel
theorem kx_216_99 : x_code k_P 216 99 = some (.iconst 0, 1) := by decide +kernel
theorem kx_216_100 : x_code k_P 216 100 = some (.putfield 118, 3) := by decide +kernel
theorem kp_216_118 : x_pool k_P 216 118 = (1, 12, 35) := by decide +kernel
theorem kx_216_103 : x_code k_P 216 103 = some (.iconst 0, 1) := by decide +kernel
theorem kx_216_104 : x_code k_P 216 104 = some (.istore_n 1, 1) := by decide +kernel
theorem km_216_1 : 1 < x_maxL k_P 216 := by decide +kernel
theorem kx_216_105 : x_code k_P 216 105 = some (.aload_n 0, 1) := by decide +kernel
theorem kx_216_106 : x_code k_P 216 106 = some (.invokevirtual 286, 3) := by decide +kernel
theorem kp_216_286 : x_pool k_P 216 286 = (2, 180, 0) := by decide +kernel
theorem kx_216_109 : x_code k_P 216 109 = some (.aload_n 0, 1) := by decide +kernel
theorem kx_216_110 : x_code k_P 216 110 = some (.getfield 39, 3) := by decide +kernel
theorem kx_216_113 : x_code k_P 216 113 = some (.ifCond .ne 25, 3) := by decide +kernel
theorem kx_216_116 : x_code k_P 216 116 = some (.aload_n 0, 1) := by decide +kernel
theorem kx_216_117 : x_code k_P 216 117 = some (.getfield 20, 3) := by decide +kernel
theorem kp_216_20 : x_pool k_P 216 20 = (1, 12, 3) := by decide +kernel
theorem kx_216_120 : x_code k_P 216 120 = some (.ifCond .eq 18, 3) := by decide +kernel
theorem kx_216_138 : x_code k_P 216 138 = some (.aload_n 0, 1) := by decide +kernel
theorem kx_216_139 : x_code k_P 216 139 = some (.aload_n 0, 1) := by decide +kernel
theorem kx_216_140 : x_code k_P 216 140 = some (.getfield 39, 3) := by decide +kernel
theorem kx_216_143 : x_code k_P 216 143 = some (.putfield 45, 3) := by decide +kernel
theorem kp_216_45 : x_pool k_P 216 45 = (1, 12, 11) := by decide +kernel
theorem kx_216_146 : x_code k_P 216 146 = some (.aload_n 0, 1) := by decide +kernel
theorem kx_216_147 : x_code k_P 216 147 = some (.aload_n 0, 1) := by decide +kernel
theorem kx_216_148 : x_code k_P 216 148 = some (.getfield 42, 3) := by decide +kernel
theorem kx_216_151 : x_code k_P 216 151 = some (.putfield 48, 3) := by decide +kernel
theorem kp_216_48 : x_pool k_P 216 48 = (1, 12, 12) := by decide +kernel
theorem kx_216_154 : x_code k_P 216 154 = some (.aload_n 0, 1) := by decide +kernel
theorem kx_216_155 : x_code k_P 216 155 = some (.getfield 39, 3) := by decide +kernel
theorem kx_216_158 : x_code k_P 216 158 = some (.ifCond .le 9, 3) := by decide +kernel
theorem kx_216_167 : x_code k_P 216 167 = some (.aload_n 0, 1) := by decide +kernel
theorem kx_216_168 : x_code k_P 216 168 = some (.aload_n 0, 1) := by decide +kernel
theorem kx_216_169 : x_code k_P 216 169 = some (.getfield 121, 3) := by decide +kernel
theorem kx_216_172 : x_code k_P 216 172 = some (.putfield 54, 3) := by decide +kernel
theorem kx_216_175 : x_code k_P 216 175 = some (.aload_n 0, 1) := by decide +kernel
theorem kx_216_176 : x_code k_P 216 176 = some (.invokevirtual 446, 3) := by decide +kernel
theorem kp_216_446 : x_pool k_P 216 446 = (2, 225, 0) := by decide +kernel
theorem ki_225 : x_mci k_P 225 = 12 := by decide +kernel
theorem kcl_225 : x_maxL k_P 225 ≤ 60 ∧ 1 ≤ x_maxL k_P 225 := by decide +kernel
theorem kx_216_179 : x_code k_P 216 179 = some (.iload_n 1, 1) := by decide +kernel
theorem kx_216_180 : x_code k_P 216 180 = some (.ireturn, 1) := by decide +kernel
theorem kq_216 : x_retk k_P 216 = 1 := by decide +kernel
theorem kx_216_123 : x_code k_P 216 123 = some (.aload_n 0, 1) := by decide +kernel
theorem kx_216_124 : x_code k_P 216 124 = some (.invokevirtual 440, 3) := by decide +kernel
theorem kp_216_440 : x_pool k_P 216 440 = (2, 214, 0) := by decide +kernel
theorem ki_214 : x_mci k_P 214 = 12 := by decide +kernel
theorem kcl_214 : x_maxL k_P 214 ≤ 60 ∧ 1 ≤ x_maxL k_P 214 := by decide +kernel
theorem kx_216_127 : x_code k_P 216 127 = some (.iinc 1 1, 3) := by decide +kernel
theorem kx_216_130 : x_code k_P 216 130 = some (.aload_n 0, 1) := by decide +kernel
theorem kx_216_131 : x_code k_P 216 131 = some (.iload_n 1, 1) := by decide +kernel
theorem kx_216_132 : x_code k_P 216 132 = some (.invokevirtual 443, 3) := by decide +kernel
theorem kp_216_443 : x_pool k_P 216 443 = (2, 215, 1) := by decide +kernel
theorem ki_215 : x_mci k_P 215 = 12 := by decide +kernel
theorem kcl_215 : x_maxL k_P 215 ≤ 60 ∧ 2 ≤ x_maxL k_P 215 := by decide +kernel
theorem kx_216_135 : x_code k_P 216 135 = some (.goto (-26), 3) := by decide +kernel
theorem kx_216_161 : x_code k_P 216 161 = some (.aload_n 0, 1) := by decide +kernel
theorem kx_216_162 : x_code k_P 216 162 = some (.iconst 1, 1) := by decide +kernel
theorem kx_216_163 : x_code k_P 216 163 = some (.invokevirtual 255, 3) := by decide +kernel
theorem kp_216_255 : x_pool k_P 216 255 = (2, 218, 1) := by decide +kernel
theorem kx_216_166 : x_code k_P 216 166 = some (.ireturn, 1) := by decide +kernel
def fS_216_l109 : List (Nat × Nat) := [(63, 10), (63, 13), (63, 3), (63, 35), (63, 4), (63, 42), (63, 43), (63, 45), (63, 46), (63, 5), (63, 6), (63, 7), (63, 8), (63, 9), (65, 99999), (66, 99999), (67, 99999), (68, 99999), (69, 99999), (70, 99999), (71, 99999), (72, 99999), (73, 99999), (74, 99999), (75, 99999), (76, 99999), (77, 99999), (78, 99999), (79, 99999), (80, 99999), (81, 99999), (82, 99999), (83, 99999), (84, 99999), (85, 99999), (86, 99999), (87, 99999), (88, 99999), (89, 99999), (90, 99999)]
def fS_216_m : List (Nat × Nat) := [(63, 1), (63, 10), (63, 11), (63, 12), (63, 13), (63, 14), (63, 2), (63, 3), (63, 35), (63, 36), (63, 4), (63, 42), (63, 43), (63, 45), (63, 46), (63, 5), (63, 59), (63, 6), (63, 68), (63, 7), (63, 70), (63, 8), (63, 9), (65, 99999), (66, 99999), (67, 99999), (68, 99999), (69, 99999), (70, 99999), (71, 99999), (72, 99999), (73, 99999), (74, 99999), (75, 99999), (76, 99999), (77, 99999), (78, 99999), (79, 99999), (80, 99999), (81, 99999), (82, 99999), (83, 99999), (84, 99999), (85, 99999), (86, 99999), (87, 99999), (88, 99999), (89, 99999), (90, 99999), (91, 99999), (92, 99999), (93, 99999), (94, 99999), (95, 99999), (96, 99999), (97, 99999)]
theorem m_216 {xs : Nat → Int} {Ln d : Nat} {T : List cK} {M : cM} (hT : TT T) (hI : Rng M) (hS : Sg M) : cC k_P xs Ln (d + 7) 216 [rf 63] (T, M) (qW T M fS_216_m 0 (fun v M1 => M1 63 1 = 0 ∧ Sg M1)) := by
  show cP k_P xs Ln (d + 7) 216 0 [(0, rf 63)] [] (T, M) _
  have hFm : Fr fS_216_m M M := Fr.refl
  have hb14 := rg_63_14 hI
  refine s_aload_n kx_216_0 rfl ?_
  refine s_aload_n kx_216_1 rfl ?_
  refine r_getI (k := 63) (f := 1) kx_216_2 kp_216_13 (tk_63 hT) kf_12_1 (fun _ => rfl) (rg_63_1 hI) (fun v1 v1e v1a v1b => ?_)
  refine r_put (k := 63) (f := 2) kx_216_5 kp_216_17 (tk_63 hT) kf_12_2 rfl (by decide) (by decide) hI (ru_63_2 (by omega) (by omega)) (fun M2 hI2 u2 => ?_)
  have hFm2 := hFm.up u2 rfl
  have tr3 := (u2.2 63 3 (by omega))
  have tr4 := (u2.2 63 4 (by omega))
  have tr5 := (u2.2 63 5 (by omega))
  have tr6 := (u2.2 63 9 (by omega))
  have tr7 := (u2.2 63 35 (by omega))
  have tr8 := (u2.2 63 36 (by omega))
  have tr9 := (u2.2 63 14 (by omega))
  refine s_aload_n kx_216_8 rfl ?_
  refine s_iconst (v := 0) kx_216_9 (by decide) ?_
  refine r_put (k := 63) (f := 1) kx_216_10 kp_216_13 (tk_63 hT) kf_12_1 rfl (by decide) (by decide) hI2 (ru_63_1 (by omega) (by omega)) (fun M10 hI10 u10 => ?_)
  have hFm10 := hFm2.up u10 rfl
  have tr11 := (u10.2 63 3 (by omega))
  have tr12 := (u10.2 63 4 (by omega))
  have tr13 := (u10.2 63 5 (by omega))
  have tr14 := (u10.2 63 9 (by omega))
  have tr15 := (u10.2 63 35 (by omega))
  have tr16 := (u10.2 63 36 (by omega))
  have tr17 := (u10.2 63 14 (by omega))
  refine s_aload_n kx_216_13 rfl ?_
  refine s_iconst (v := 0) kx_216_14 (by decide) ?_
  refine r_put (k := 63) (f := 5) kx_216_15 kp_216_26 (tk_63 hT) kf_12_5 rfl (by decide) (by decide) hI10 (ru_63_5 (by omega) (by omega)) (fun M18 hI18 u18 => ?_)
  have hFm18 := hFm10.up u18 rfl
  have tr19 := (u18.2 63 3 (by omega))
  have tr20 := (u18.2 63 4 (by omega))
  have tr21 := u18.1
  have tr22 := (u18.2 63 9 (by omega))
  have tr23 := (u18.2 63 35 (by omega))
  have tr24 := (u18.2 63 36 (by omega))
  have tr25 := (u18.2 63 14 (by omega))
  refine s_aload_n kx_216_18 rfl ?_
  refine s_iconst (v := 0) kx_216_19 (by decide) ?_
  refine r_put (k := 63) (f := 9) kx_216_20 kp_216_39 (tk_63 hT) kf_12_9 rfl (by decide) (by decide) hI18 (ru_63_9 (by omega) (by omega)) (fun M26 hI26 u26 => ?_)
  have hFm26 := hFm18.up u26 rfl
  have tr27 := (u26.2 63 3 (by omega))
  have tr28 := (u26.2 63 4 (by omega))
  have tr29 := (u26.2 63 5 (by omega))
  have tr30 := u26.1
  have tr31 := (u26.2 63 35 (by omega))
  have tr32 := (u26.2 63 36 (by omega))
  have tr33 := (u26.2 63 14 (by omega))
  refine s_aload_n kx_216_23 rfl ?_
  refine s_iconst (v := (-1)) kx_216_24 (by decide) ?_
  refine r_put (k := 63) (f := 10) kx_216_25 kp_216_42 (tk_63 hT) kf_12_10 rfl (by decide) (by decide) hI26 ru_63_10 (fun M34 hI34 u34 => ?_)
  have hFm34 := hFm26.up u34 rfl
  have tr35 := (u34.2 63 3 (by omega))
  have tr36 := (u34.2 63 4 (by omega))
  have tr37 := (u34.2 63 5 (by omega))
  have tr38 := (u34.2 63 9 (by omega))
  have tr39 := (u34.2 63 35 (by omega))
  have tr40 := (u34.2 63 36 (by omega))
  have tr41 := (u34.2 63 14 (by omega))
  refine s_aload_n kx_216_28 rfl ?_
  refine s_iconst (v := 1) kx_216_29 (by decide) ?_
  refine s_aload_n kx_216_30 rfl ?_
  refine r_getI (k := 63) (f := 14) kx_216_31 kp_216_54 (tk_63 hT) kf_12_14 (fun _ => rfl) (rg_63_14 hI34) (fun v42 v42e v42a v42b => ?_)
  have v42z : M 63 14 = v42 := (((u34.2 63 14 (by omega)).trans ((u26.2 63 14 (by omega)).trans ((u18.2 63 14 (by omega)).trans ((u10.2 63 14 (by omega)).trans (u2.2 63 14 (by omega))))))).symm.trans v42e
  refine r_sub kx_216_34 ⟨by omega, by omega⟩ ?_
  refine r_put (k := 63) (f := 36) kx_216_35 kp_216_121 (tk_63 hT) kf_12_36 rfl (by decide) (by decide) hI34 (ru_63_36 (by omega) (by omega)) (fun M43 hI43 u43 => ?_)
  have hFm43 := hFm34.up u43 rfl
  have tr44 := (u43.2 63 3 (by omega))
  have tr45 := (u43.2 63 4 (by omega))
  have tr46 := (u43.2 63 5 (by omega))
  have tr47 := (u43.2 63 9 (by omega))
  have tr48 := (u43.2 63 35 (by omega))
  have tr49 := u43.1
  have tr50 := (u43.2 63 14 (by omega))
  refine s_aload_n kx_216_38 rfl ?_
  refine r_getR (k := 63) (f := 15) (k2 := 65) kx_216_39 kp_216_57 (tk_63 hT) kf_12_15 (by decide) (rq_63_15 hI43) ?_
  refine s_aload_n kx_216_42 rfl ?_
  refine r_getK (k := 63) (f := 36) kx_216_43 kp_216_121 (tk_63 hT) kf_12_36 (fun _ => rfl) u43.1 ?_
  refine s_iconst (v := 0) kx_216_46 (by decide) ?_
  refine r_ast (k := 65) kx_216_47 (tk_65 hT) ⟨by omega, by omega⟩ hI43 (ru_65 (by omega) (by omega)) (fun M51 hI51 u51 => ?_)
  have hFm51 := hFm43.up u51 rfl
  have tr52 := (u51.2 63 3 (by omega))
  have tr53 := (u51.2 63 4 (by omega))
  have tr54 := (u51.2 63 5 (by omega))
  have tr55 := (u51.2 63 9 (by omega))
  have tr56 := (u51.2 63 35 (by omega))
  have tr57 := (u51.2 63 36 (by omega))
  have tr58 := (u51.2 63 14 (by omega))
  refine s_aload_n kx_216_48 rfl ?_
  refine r_getR (k := 63) (f := 19) (k2 := 69) kx_216_49 kp_216_69 (tk_63 hT) kf_12_19 (by decide) (rq_63_19 hI51) ?_
  refine s_aload_n kx_216_52 rfl ?_
  refine r_getK (k := 63) (f := 36) kx_216_53 kp_216_121 (tk_63 hT) kf_12_36 (fun _ => rfl) ((u51.2 63 36 (by omega)).trans u43.1) ?_
  refine s_iconst (v := 0) kx_216_56 (by decide) ?_
  refine r_ast (k := 69) kx_216_57 (tk_69 hT) ⟨by omega, by omega⟩ hI51 (ru_69 (by omega) (by omega)) (fun M59 hI59 u59 => ?_)
  have hFm59 := hFm51.up u59 rfl
  have tr60 := (u59.2 63 3 (by omega))
  have tr61 := (u59.2 63 4 (by omega))
  have tr62 := (u59.2 63 5 (by omega))
  have tr63 := (u59.2 63 9 (by omega))
  have tr64 := (u59.2 63 35 (by omega))
  have tr65 := (u59.2 63 36 (by omega))
  have tr66 := (u59.2 63 14 (by omega))
  refine s_aload_n kx_216_58 rfl ?_
  refine r_getR (k := 63) (f := 29) (k2 := 79) kx_216_59 kp_216_99 (tk_63 hT) kf_12_29 (by decide) (rq_63_29 hI59) ?_
  refine s_aload_n kx_216_62 rfl ?_
  refine r_getK (k := 63) (f := 36) kx_216_63 kp_216_121 (tk_63 hT) kf_12_36 (fun _ => rfl) ((u59.2 63 36 (by omega)).trans ((u51.2 63 36 (by omega)).trans u43.1)) ?_
  refine s_iconst (v := 0) kx_216_66 (by decide) ?_
  refine r_ast (k := 79) kx_216_67 (tk_79 hT) ⟨by omega, by omega⟩ hI59 ru_79 (fun M67 hI67 u67 => ?_)
  have hFm67 := hFm59.up u67 rfl
  have tr68 := (u67.2 63 3 (by omega))
  have tr69 := (u67.2 63 4 (by omega))
  have tr70 := (u67.2 63 5 (by omega))
  have tr71 := (u67.2 63 9 (by omega))
  have tr72 := (u67.2 63 35 (by omega))
  have tr73 := (u67.2 63 36 (by omega))
  have tr74 := (u67.2 63 14 (by omega))
  refine s_aload_n kx_216_68 rfl ?_
  refine r_getR (k := 63) (f := 30) (k2 := 80) kx_216_69 kp_216_102 (tk_63 hT) kf_12_30 (by decide) (rq_63_30 hI67) ?_
  refine s_aload_n kx_216_72 rfl ?_
  refine r_getK (k := 63) (f := 36) kx_216_73 kp_216_121 (tk_63 hT) kf_12_36 (fun _ => rfl) ((u67.2 63 36 (by omega)).trans ((u59.2 63 36 (by omega)).trans ((u51.2 63 36 (by omega)).trans u43.1))) ?_
  refine s_iconst (v := (-1)) kx_216_76 (by decide) ?_
  refine r_ast (k := 80) kx_216_77 (tk_80 hT) ⟨by omega, by omega⟩ hI67 ru_80 (fun M75 hI75 u75 => ?_)
  have hFm75 := hFm67.up u75 rfl
  have tr76 := (u75.2 63 3 (by omega))
  have tr77 := (u75.2 63 4 (by omega))
  have tr78 := (u75.2 63 5 (by omega))
  have tr79 := (u75.2 63 9 (by omega))
  have tr80 := (u75.2 63 35 (by omega))
  have tr81 := (u75.2 63 36 (by omega))
  have tr82 := (u75.2 63 14 (by omega))
  refine s_aload_n kx_216_78 rfl ?_
  refine r_getR (k := 63) (f := 25) (k2 := 75) kx_216_79 kp_216_87 (tk_63 hT) kf_12_25 (by decide) (rq_63_25 hI75) ?_
  refine s_aload_n kx_216_82 rfl ?_
  refine r_getK (k := 63) (f := 36) kx_216_83 kp_216_121 (tk_63 hT) kf_12_36 (fun _ => rfl) ((u75.2 63 36 (by omega)).trans ((u67.2 63 36 (by omega)).trans ((u59.2 63 36 (by omega)).trans ((u51.2 63 36 (by omega)).trans u43.1)))) ?_
  refine s_iconst (v := (-1)) kx_216_86 (by decide) ?_
  refine r_ast (k := 75) kx_216_87 (tk_75 hT) ⟨by omega, by omega⟩ hI75 (ru_75 (by omega) (by omega)) (fun M83 hI83 u83 => ?_)
  have hFm83 := hFm75.up u83 rfl
  have tr84 := (u83.2 63 3 (by omega))
  have tr85 := (u83.2 63 4 (by omega))
  have tr86 := (u83.2 63 5 (by omega))
  have tr87 := (u83.2 63 9 (by omega))
  have tr88 := (u83.2 63 35 (by omega))
  have tr89 := (u83.2 63 36 (by omega))
  have tr90 := (u83.2 63 14 (by omega))
  refine s_aload_n kx_216_88 rfl ?_
  refine r_getR (k := 63) (f := 27) (k2 := 77) kx_216_89 kp_216_93 (tk_63 hT) kf_12_27 (by decide) (rq_63_27 hI83) ?_
  refine s_aload_n kx_216_92 rfl ?_
  refine r_getK (k := 63) (f := 36) kx_216_93 kp_216_121 (tk_63 hT) kf_12_36 (fun _ => rfl) ((u83.2 63 36 (by omega)).trans ((u75.2 63 36 (by omega)).trans ((u67.2 63 36 (by omega)).trans ((u59.2 63 36 (by omega)).trans ((u51.2 63 36 (by omega)).trans u43.1))))) ?_
  refine s_iconst (v := (-1)) kx_216_96 (by decide) ?_
  refine r_ast (k := 77) kx_216_97 (tk_77 hT) ⟨by omega, by omega⟩ hI83 (ru_77 (by omega) (by omega)) (fun M91 hI91 u91 => ?_)
  have hFm91 := hFm83.up u91 rfl
  have tr92 := (u91.2 63 3 (by omega))
  have tr93 := (u91.2 63 4 (by omega))
  have tr94 := (u91.2 63 5 (by omega))
  have tr95 := (u91.2 63 9 (by omega))
  have tr96 := (u91.2 63 35 (by omega))
  have tr97 := (u91.2 63 36 (by omega))
  have tr98 := (u91.2 63 14 (by omega))
  refine s_aload_n kx_216_98 rfl ?_
  refine s_iconst (v := 0) kx_216_99 (by decide) ?_
  refine r_put (k := 63) (f := 35) kx_216_100 kp_216_118 (tk_63 hT) kf_12_35 rfl (by decide) (by decide) hI91 (ru_63_35 (by omega) (by omega)) (fun M99 hI99 u99 => ?_)
  have hFm99 := hFm91.up u99 rfl
  have tr100 := (u99.2 63 3 (by omega))
  have tr101 := (u99.2 63 4 (by omega))
  have tr102 := (u99.2 63 5 (by omega))
  have tr103 := (u99.2 63 9 (by omega))
  have tr104 := u99.1
  have tr105 := (u99.2 63 36 (by omega))
  have tr106 := (u99.2 63 14 (by omega))
  refine s_iconst (v := 0) kx_216_103 (by decide) ?_
  refine s_istore_n kx_216_104 km_216_1 rfl ?_
  have hts : TSg M99 := ⟨Or.inl (by rw [((u99.2 63 36 (by omega)).trans ((u91.2 63 36 (by omega)).trans ((u83.2 63 36 (by omega)).trans ((u75.2 63 36 (by omega)).trans ((u67.2 63 36 (by omega)).trans ((u59.2 63 36 (by omega)).trans ((u51.2 63 36 (by omega)).trans u43.1)))))))]; exact ((u99.2 75 _ (by omega)).trans ((u91.2 75 _ (by omega)).trans u83.1))), Or.inl (by rw [((u99.2 63 36 (by omega)).trans ((u91.2 63 36 (by omega)).trans ((u83.2 63 36 (by omega)).trans ((u75.2 63 36 (by omega)).trans ((u67.2 63 36 (by omega)).trans ((u59.2 63 36 (by omega)).trans ((u51.2 63 36 (by omega)).trans u43.1)))))))]; exact ((u99.2 77 _ (by omega)).trans u91.1))⟩
  have hk107 : M99 63 35 = 0 := u99.1
  have hk108 : M99 63 36 = (1 - v42) := ((u99.2 63 36 (by omega)).trans ((u91.2 63 36 (by omega)).trans ((u83.2 63 36 (by omega)).trans ((u75.2 63 36 (by omega)).trans ((u67.2 63 36 (by omega)).trans ((u59.2 63 36 (by omega)).trans ((u51.2 63 36 (by omega)).trans u43.1)))))))
  have hk109 : M99 63 9 = 0 := ((u99.2 63 9 (by omega)).trans ((u91.2 63 9 (by omega)).trans ((u83.2 63 9 (by omega)).trans ((u75.2 63 9 (by omega)).trans ((u67.2 63 9 (by omega)).trans ((u59.2 63 9 (by omega)).trans ((u51.2 63 9 (by omega)).trans ((u43.2 63 9 (by omega)).trans ((u34.2 63 9 (by omega)).trans u26.1)))))))))
  refine s_aload_n kx_216_105 rfl ?_
  refine s_callV2 (k := 63) (s1 := 1) (s2 := 0) (as := []) (rest := []) kx_216_106 kp_216_286 (Or.inl rfl) rfl (tk_63 hT) ki_180 kcl_180 rfl rfl (by decide) (m_180 (d := d + 5) hT hI99) (kV (fun M111 hI111 fr111 v110p => ?_))
  have hFm111 := hFm99.call fr111 rfl
  have tr112 := (fr111 63 9 rfl)
  have tr113 := (fr111 63 35 rfl)
  have tr114 := (fr111 63 36 rfl)
  have tr115 := (fr111 63 14 rfl)
  have tr116 := rg_63_9 hI111
  have tr117 := rg_63_4 hI111
  have key120 : ∀ n121 : Nat, ∀ (x1_118 : Int), ∀ M119 : cM, Rng M119 → Fr fS_216_m M M119 → Fr fS_216_l109 M111 M119 → ((-2147483648) ≤ x1_118) → (x1_118 ≤ 2147483647) → (LXp M119) → (OB M M119) → (M119 63 36 = 1 - M 63 14) → (1 ≤ M119 63 9 ∨ (TSg M119 ∧ M119 63 35 ≤ M119 63 4)) → (2 * (1600 - M119 63 4) + 6 - M119 63 9).toNat < n121 → cP k_P xs Ln (d + 7) 216 109 [(0, rf 63), (1, (0, x1_118))] [] (T, M119) (qW T M fS_216_m 0 (fun v M1 => M1 63 1 = 0 ∧ Sg M1)) := by
    intro n121
    induction n121 with
    | zero => intro x1_118 M119 hI119 hFm119 fl119 i122 i123 i124 i125 i126 i127 hm128; exact absurd hm128 (Nat.not_lt_zero _)
    | succ n121 ih129 =>
      intro x1_118 M119 hI119 hFm119 fl119 i122 i123 i124 i125 i126 i127 hm128
      have tr130 := rg_63_9 hI119
      have tr131 := rg_63_4 hI119
      have tr132 : M119 63 14 = M 63 14 := ((fl119 63 14 rfl).trans ((fr111 63 14 rfl).trans ((u99.2 63 14 (by omega)).trans ((u91.2 63 14 (by omega)).trans ((u83.2 63 14 (by omega)).trans ((u75.2 63 14 (by omega)).trans ((u67.2 63 14 (by omega)).trans ((u59.2 63 14 (by omega)).trans ((u51.2 63 14 (by omega)).trans ((u43.2 63 14 (by omega)).trans ((u34.2 63 14 (by omega)).trans ((u26.2 63 14 (by omega)).trans ((u18.2 63 14 (by omega)).trans ((u10.2 63 14 (by omega)).trans (u2.2 63 14 (by omega))))))))))))))))
      refine s_aload_n kx_216_109 rfl ?_
      refine r_getI (k := 63) (f := 9) kx_216_110 kp_216_39 (tk_63 hT) kf_12_9 (fun _ => rfl) (rg_63_9 hI119) (fun v133 v133e v133a v133b => ?_)
      refine s_if_ne (t := 138) kx_216_113 (by decide) (fun hc134 => ?_) (fun hc134 => ?_)
      · refine s_aload_n kx_216_138 rfl ?_
        refine s_aload_n kx_216_139 rfl ?_
        refine r_getK (k := 63) (f := 9) kx_216_140 kp_216_39 (tk_63 hT) kf_12_9 (fun _ => rfl) v133e ?_
        refine r_put (k := 63) (f := 11) kx_216_143 kp_216_45 (tk_63 hT) kf_12_11 rfl (by decide) (by decide) hI119 ru_63_11 (fun M135 hI135 u135 => ?_)
        have hFm135 := hFm119.up u135 rfl
        have tr136 := (u135.2 63 3 (by omega))
        have tr137 := (u135.2 63 4 (by omega))
        have tr138 := (u135.2 63 5 (by omega))
        have tr139 := (u135.2 63 9 (by omega))
        have tr140 := (u135.2 63 35 (by omega))
        have tr141 := (u135.2 63 36 (by omega))
        have tr142 := (u135.2 63 14 (by omega))
        refine s_aload_n kx_216_146 rfl ?_
        refine s_aload_n kx_216_147 rfl ?_
        refine r_getU (k := 63) (f := 10) kx_216_148 kp_216_42 (tk_63 hT) kf_12_10 (fun _ => rfl) (fun v143 v143e => ?_)
        refine r_put (k := 63) (f := 12) kx_216_151 kp_216_48 (tk_63 hT) kf_12_12 rfl (by decide) (by decide) hI135 ru_63_12 (fun M144 hI144 u144 => ?_)
        have hFm144 := hFm135.up u144 rfl
        have tr145 := (u144.2 63 3 (by omega))
        have tr146 := (u144.2 63 4 (by omega))
        have tr147 := (u144.2 63 5 (by omega))
        have tr148 := (u144.2 63 9 (by omega))
        have tr149 := (u144.2 63 35 (by omega))
        have tr150 := (u144.2 63 36 (by omega))
        have tr151 := (u144.2 63 14 (by omega))
        refine s_aload_n kx_216_154 rfl ?_
        refine r_getK (k := 63) (f := 9) kx_216_155 kp_216_39 (tk_63 hT) kf_12_9 (fun _ => rfl) ((u144.2 63 9 (by omega)).trans ((u135.2 63 9 (by omega)).trans v133e)) ?_
        refine s_if_le (t := 167) kx_216_158 (by decide) (fun hc152 => absurd hc152 (by omega)) (fun hc152 => ?_)
        refine s_aload_n kx_216_161 rfl ?_
        refine s_iconst (v := 1) kx_216_162 (by decide) ?_
        refine s_callV2 (k := 63) (s1 := 2) (s2 := 0) (as := [(0, 1)]) (rest := []) kx_216_163 kp_216_255 (Or.inl rfl) rfl (tk_63 hT) ki_218 kcl_218 rfl rfl (by decide) (m_218 (d := d + 6) (kind := 1) hT hI144 (by omega)) (kW (fun v153 M154 hI154 fr154 v153p => ?_))
        have hFm154 := hFm144.call fr154 rfl
        have tr155 := (fr154 63 3 rfl)
        have tr156 := (fr154 63 4 rfl)
        have tr157 := (fr154 63 5 rfl)
        have tr158 := (fr154 63 9 rfl)
        have tr159 := (fr154 63 35 rfl)
        have tr160 := (fr154 63 36 rfl)
        have tr161 := (fr154 63 14 rfl)
        have tr162 := rg_63_9 hI154
        have tr163 := rg_63_4 hI154
        exact s_iret kx_216_166 (Or.inl kq_216) ⟨_, _, rfl, rfl, hI154, hFm154, ⟨((fr154 63 1 rfl).trans ((u144.2 63 1 (by omega)).trans ((u135.2 63 1 (by omega)).trans ((fl119 63 1 rfl).trans ((fr111 63 1 rfl).trans ((u99.2 63 1 (by omega)).trans ((u91.2 63 1 (by omega)).trans ((u83.2 63 1 (by omega)).trans ((u75.2 63 1 (by omega)).trans ((u67.2 63 1 (by omega)).trans ((u59.2 63 1 (by omega)).trans ((u51.2 63 1 (by omega)).trans ((u43.2 63 1 (by omega)).trans ((u34.2 63 1 (by omega)).trans ((u26.2 63 1 (by omega)).trans ((u18.2 63 1 (by omega)).trans u10.1)))))))))))))))), Sg.ob hS hb14.1 (OB.fr (OB.up (OB.up i125 u135 (by decide) (Or.inr (by decide))) u144 (by decide) (Or.inr (by decide))) fr154 rfl)⟩⟩
      · refine s_aload_n kx_216_116 rfl ?_
        refine r_getI (k := 63) (f := 3) kx_216_117 kp_216_20 (tk_63 hT) kf_12_3 (fun _ => rfl) (rg_63_3 hI119) (fun v164 v164e v164a v164b => ?_)
        refine s_if_eq (t := 138) kx_216_120 (by decide) (fun hc165 => ?_) (fun hc165 => ?_)
        · refine s_aload_n kx_216_138 rfl ?_
          refine s_aload_n kx_216_139 rfl ?_
          refine r_getK (k := 63) (f := 9) kx_216_140 kp_216_39 (tk_63 hT) kf_12_9 (fun _ => rfl) v133e ?_
          refine r_put (k := 63) (f := 11) kx_216_143 kp_216_45 (tk_63 hT) kf_12_11 rfl (by decide) (by decide) hI119 ru_63_11 (fun M166 hI166 u166 => ?_)
          have hFm166 := hFm119.up u166 rfl
          have tr167 := (u166.2 63 3 (by omega))
          have tr168 := (u166.2 63 4 (by omega))
          have tr169 := (u166.2 63 5 (by omega))
          have tr170 := (u166.2 63 9 (by omega))
          have tr171 := (u166.2 63 35 (by omega))
          have tr172 := (u166.2 63 36 (by omega))
          have tr173 := (u166.2 63 14 (by omega))
          refine s_aload_n kx_216_146 rfl ?_
          refine s_aload_n kx_216_147 rfl ?_
          refine r_getU (k := 63) (f := 10) kx_216_148 kp_216_42 (tk_63 hT) kf_12_10 (fun _ => rfl) (fun v174 v174e => ?_)
          refine r_put (k := 63) (f := 12) kx_216_151 kp_216_48 (tk_63 hT) kf_12_12 rfl (by decide) (by decide) hI166 ru_63_12 (fun M175 hI175 u175 => ?_)
          have hFm175 := hFm166.up u175 rfl
          have tr176 := (u175.2 63 3 (by omega))
          have tr177 := (u175.2 63 4 (by omega))
          have tr178 := (u175.2 63 5 (by omega))
          have tr179 := (u175.2 63 9 (by omega))
          have tr180 := (u175.2 63 35 (by omega))
          have tr181 := (u175.2 63 36 (by omega))
          have tr182 := (u175.2 63 14 (by omega))
          refine s_aload_n kx_216_154 rfl ?_
          refine r_getK (k := 63) (f := 9) kx_216_155 kp_216_39 (tk_63 hT) kf_12_9 (fun _ => rfl) ((u175.2 63 9 (by omega)).trans ((u166.2 63 9 (by omega)).trans v133e)) ?_
          refine s_if_le (t := 167) kx_216_158 (by decide) (fun hc183 => ?_) (fun hc183 => absurd hc183 (by omega))
          refine s_aload_n kx_216_167 rfl ?_
          refine s_aload_n kx_216_168 rfl ?_
          refine r_getK (k := 63) (f := 36) kx_216_169 kp_216_121 (tk_63 hT) kf_12_36 (fun _ => rfl) ((u175.2 63 36 (by omega)).trans ((u166.2 63 36 (by omega)).trans ((fl119 63 36 rfl).trans ((fr111 63 36 rfl).trans ((u99.2 63 36 (by omega)).trans ((u91.2 63 36 (by omega)).trans ((u83.2 63 36 (by omega)).trans ((u75.2 63 36 (by omega)).trans ((u67.2 63 36 (by omega)).trans ((u59.2 63 36 (by omega)).trans ((u51.2 63 36 (by omega)).trans u43.1))))))))))) ?_
          refine r_put (k := 63) (f := 14) kx_216_172 kp_216_54 (tk_63 hT) kf_12_14 rfl (by decide) (by decide) hI175 (ru_63_14 (by omega) (by omega)) (fun M184 hI184 u184 => ?_)
          have hFm184 := hFm175.up u184 rfl
          have tr185 := (u184.2 63 3 (by omega))
          have tr186 := (u184.2 63 4 (by omega))
          have tr187 := (u184.2 63 5 (by omega))
          have tr188 := (u184.2 63 9 (by omega))
          have tr189 := (u184.2 63 35 (by omega))
          have tr190 := (u184.2 63 36 (by omega))
          have tr191 := u184.1
          have hsg := TSg.sg (TSg.fr (TSg.fr (Or.resolve_left i127 (by omega)).1 (rg_63_36 hI119).1 (Up.fr u166) rfl) (rg_63_36 hI166).1 (Up.fr u175) rfl) (rg_63_35 hI175).2 ((u175.2 63 36 (by omega)).trans ((u166.2 63 36 (by omega)).trans ((fl119 63 36 rfl).trans ((fr111 63 36 rfl).trans ((u99.2 63 36 (by omega)).trans ((u91.2 63 36 (by omega)).trans ((u83.2 63 36 (by omega)).trans ((u75.2 63 36 (by omega)).trans ((u67.2 63 36 (by omega)).trans ((u59.2 63 36 (by omega)).trans ((u51.2 63 36 (by omega)).trans u43.1))))))))))) u184
          refine s_aload_n kx_216_175 rfl ?_
          refine s_callV2 (k := 63) (s1 := 1) (s2 := 0) (as := []) (rest := []) kx_216_176 kp_216_446 (Or.inl rfl) rfl (tk_63 hT) ki_225 kcl_225 rfl rfl (by decide) (m_225 (d := d + 6) hT hI184) (kV (fun M193 hI193 fr193 v192p => ?_))
          have hFm193 := hFm184.call fr193 rfl
          have tr194 := (fr193 63 3 rfl)
          have tr195 := (fr193 63 4 rfl)
          have tr196 := (fr193 63 5 rfl)
          have tr197 := (fr193 63 9 rfl)
          have tr198 := (fr193 63 35 rfl)
          have tr199 := (fr193 63 36 rfl)
          have tr200 := (fr193 63 14 rfl)
          have tr201 := rg_63_9 hI193
          have tr202 := rg_63_4 hI193
          refine s_iload_n kx_216_179 rfl ?_
          exact s_iret kx_216_180 (Or.inl kq_216) ⟨_, _, rfl, rfl, hI193, hFm193, ⟨((fr193 63 1 rfl).trans ((u184.2 63 1 (by omega)).trans ((u175.2 63 1 (by omega)).trans ((u166.2 63 1 (by omega)).trans ((fl119 63 1 rfl).trans ((fr111 63 1 rfl).trans ((u99.2 63 1 (by omega)).trans ((u91.2 63 1 (by omega)).trans ((u83.2 63 1 (by omega)).trans ((u75.2 63 1 (by omega)).trans ((u67.2 63 1 (by omega)).trans ((u59.2 63 1 (by omega)).trans ((u51.2 63 1 (by omega)).trans ((u43.2 63 1 (by omega)).trans ((u34.2 63 1 (by omega)).trans ((u26.2 63 1 (by omega)).trans ((u18.2 63 1 (by omega)).trans u10.1))))))))))))))))), (Sg.fr hsg fr193 rfl)⟩⟩
        · have hti203 := Or.resolve_left i127 (by omega)
          have hti203b := hti203.2
          refine s_aload_n kx_216_123 rfl ?_
          refine s_callV2 (k := 63) (s1 := 1) (s2 := 0) (as := []) (rest := []) kx_216_124 kp_216_440 (Or.inl rfl) rfl (tk_63 hT) ki_214 kcl_214 rfl rfl (by decide) (m_214 (d := d) hT hI119 i124 hti203.1 (by omega)) (kV (fun M205 hI205 fr205 v204p => ?_))
          have hFm205 := hFm119.call fr205 rfl
          have hFl109205 := fl119.call fr205 rfl
          have tr206 := (fr205 63 36 rfl)
          have tr207 := (fr205 63 14 rfl)
          have tr208 := rg_63_9 hI205
          have tr209 := rg_63_4 hI205
          have hob210 := OB.ko i125 hb14 (by omega) v204p.2.2.2.2 (fr205 63 14 rfl)
          have hsl := (show _ ∨ _ from v204p.2.2.2.1)
          refine r_iincR kx_216_127 rfl km_216_1 (fun v211 v211a v211b => ?_)
          refine s_aload_n kx_216_130 rfl ?_
          refine s_iload_n kx_216_131 rfl ?_
          refine s_callV2 (k := 63) (s1 := 2) (s2 := 0) (as := [(0, v211)]) (rest := []) kx_216_132 kp_216_443 (Or.inl rfl) rfl (tk_63 hT) ki_215 kcl_215 rfl rfl (by decide) (m_215 (d := d + 3) (n := v211) hT hI205 v204p.1) (kV (fun M213 hI213 fr213 v212p => ?_))
          have hFm213 := hFm205.call fr213 rfl
          have hFl109213 := hFl109205.call fr213 rfl
          have tr214 := (fr213 63 35 rfl)
          have tr215 := (fr213 63 36 rfl)
          have tr216 := (fr213 63 14 rfl)
          have tr217 := rg_63_9 hI213
          have tr218 := rg_63_4 hI213
          have hfi := (show _ ∨ _ from v212p.2.2.2)
          refine s_goto (t := 109) kx_216_135 (by decide) ?_
          exact cP.wk (lS1 rfl (lS1 rfl lS0)) (ih129 v211 M213 hI213 hFm213 hFl109213 (by omega) (by omega) v212p.1 (OB.fr hob210 fr213 rfl) (by omega) (if h9 : 1 ≤ M213 63 9 then Or.inl h9 else Or.inr ⟨TSg.fr (Or.resolve_left hsl (by omega)).2.1 (rg_63_36 hI205).1 fr213 rfl, by omega⟩) (by omega))
  exact cP.wk (lS1 rfl (lS1 rfl lS0)) (key120 _ 0 M111 hI111 hFm111 Fr.refl (by omega) (by omega) (show LXp M111 from v110p.2) (OB.fr (OB.up (OB.up (OB.up (OB.up (OB.up (OB.up (OB.up (OB.up (OB.up (OB.up (OB.up (OB.up (OB.up (OB.refl (M := M)) u2 (by decide) (Or.inr (by decide))) u10 (by decide) (Or.inr (by decide))) u18 (by decide) (Or.inr (by decide))) u26 (by decide) (Or.inr (by decide))) u34 (by decide) (Or.inr (by decide))) u43 (by decide) (Or.inr (by decide))) u51 ⟨by decide, Or.inl (by decide)⟩ (Or.inr (by decide))) u59 ⟨by decide, Or.inl (by decide)⟩ (Or.inr (by decide))) u67 ⟨by decide, Or.inl (by decide)⟩ (Or.inr (by decide))) u75 ⟨by decide, Or.inl (by decide)⟩ (Or.inr (by decide))) u83 ⟨by decide, Or.inl (by decide)⟩ (Or.inl (by omega))) u91 ⟨by decide, Or.inl (by decide)⟩ (Or.inl (by omega))) u99 (by decide) (Or.inr (by decide))) fr111 rfl) (by omega) (Or.inr ⟨(TSg.fr hts (rg_63_36 hI99).1 fr111 rfl), by omega⟩) (Nat.lt_succ_self _))
