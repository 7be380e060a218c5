/-! the codes of a sum: how high the stack is behind them -/
def hstep (c : Int) (h : Nat) : Option Nat := if c ≤ 9 then (if h < 500 then some (h + 1) else none) else if c = 22 then (if 1 ≤ h then some h else none) else if c = 23 then (if 3 ≤ h then some (h - 2) else none) else (if 2 ≤ h then some (h - 1) else none)
def hgt (M : cM) (a : Nat) : Nat → Option Nat
  | 0 => some 0
  | n + 1 => (hgt M a n).bind (hstep (M 81 (a + n)))
theorem hgt_mono {M : cM} {a n : Nat} : ∀ {k : Nat}, n ≤ k → hgt M a k ≠ none → hgt M a n ≠ none
  | 0, h, g => by
    rw [Nat.le_zero.mp h]
    exact g
  | k + 1, h, g => by
    by_cases e : n = k + 1
    · rw [e]
      exact g
    · refine hgt_mono (k := k) (by omega) ?_
      intro e2
      apply g
      unfold hgt
      rw [e2]
      rfl
theorem hgt_congr {M M1 : cM} {a : Nat} : ∀ {n : Nat}, (∀ k, a ≤ k → k < a + n → M1 81 k = M 81 k) → hgt M1 a n = hgt M a n
  | 0, _ => rfl
  | n + 1, h => by
    unfold hgt
    rw [hgt_congr (n := n) (fun k a1 a2 => h k a1 (by omega)), h (a + n) (by omega) (by omega)]
theorem hstep_cases {c : Int} {h h' : Nat} (e : hstep c h = some h') : (c ≤ 9 ∧ h < 500 ∧ h' = h + 1) ∨ (c = 22 ∧ 1 ≤ h ∧ h' = h) ∨ (c = 23 ∧ 3 ≤ h ∧ h' = h - 2) ∨ (9 < c ∧ c ≠ 22 ∧ c ≠ 23 ∧ 2 ≤ h ∧ h' = h - 1) := by
  unfold hstep at e
  split at e
  next g =>
    split at e
    next g2 => exact Or.inl ⟨g, g2, (Option.some.inj e).symm⟩
    next => cases e
  next g =>
    split at e
    next g1 =>
      split at e
      next g2 => exact Or.inr (Or.inl ⟨g1, g2, (Option.some.inj e).symm⟩)
      next => cases e
    next g1 =>
      split at e
      next g2 =>
        split at e
        next g3 => exact Or.inr (Or.inr (Or.inl ⟨g2, g3, (Option.some.inj e).symm⟩))
        next => cases e
      next g2 =>
        split at e
        next g3 => exact Or.inr (Or.inr (Or.inr ⟨by omega, g1, g2, g3, (Option.some.inj e).symm⟩))
        next => cases e
theorem hgt_nextI {M : cM} {A c x : Int} {N : Nat} (hA : 0 ≤ A) (hc : A ≤ c) (hx : 0 ≤ x) (h : hgt M A.toNat (c - A).toNat = some x.toNat) (hN : hgt M A.toNat N ≠ none) (hn : (c - A).toNat < N) : (hgt M A.toNat (c + 1 - A).toNat = some (x + 1).toNat ∧ M 81 c.toNat ≤ 9 ∧ x < 500) ∨ (hgt M A.toNat (c + 1 - A).toNat = some x.toNat ∧ M 81 c.toNat = 22 ∧ 1 ≤ x) ∨ (hgt M A.toNat (c + 1 - A).toNat = some (x + (-2)).toNat ∧ M 81 c.toNat = 23 ∧ 3 ≤ x) ∨ (hgt M A.toNat (c + 1 - A).toNat = some (x + (-1)).toNat ∧ 9 < M 81 c.toNat ∧ M 81 c.toNat ≠ 22 ∧ M 81 c.toNat ≠ 23 ∧ 2 ≤ x) := by
  have e1 : (c + 1 - A).toNat = (c - A).toNat + 1 := by omega
  have e2 : A.toNat + (c - A).toNat = c.toNat := by omega
  have h1 := hgt_mono (n := (c - A).toNat + 1) (by omega) hN
  have h2 : hgt M A.toNat ((c - A).toNat + 1) = hstep (M 81 c.toNat) x.toNat := by
    show (hgt M A.toNat (c - A).toNat).bind (hstep (M 81 (A.toNat + (c - A).toNat))) = _
    rw [h, e2]
    rfl
  rw [e1]
  rw [h2] at h1 ⊢
  cases h3 : hstep (M 81 c.toNat) x.toNat with
  | none => exact absurd h3 h1
  | some h' =>
    rcases hstep_cases h3 with ⟨a, b, r⟩ | ⟨a, b, r⟩ | ⟨a, b, r⟩ | ⟨a, a2, a3, b, r⟩
    · exact Or.inl ⟨by rw [r]; congr 1; omega, a, by omega⟩
    · exact Or.inr (Or.inl ⟨by rw [r], a, by omega⟩)
    · exact Or.inr (Or.inr (Or.inl ⟨by rw [r]; congr 1; omega, a, by omega⟩))
    · exact Or.inr (Or.inr (Or.inr ⟨by rw [r]; congr 1; omega, a, a2, a3, by omega⟩))
def SegOk (M : cM) (b lo hi : Int) : Prop := lo = -1 ∨ (0 ≤ lo ∧ lo ≤ hi ∧ hi ≤ 1600 ∧ hgt M (1600 * b + lo).toNat (hi - lo).toNat ≠ none)
/-- the sums of the town can be reckoned -/
def Sg (M : cM) : Prop := SegOk M (M 63 14) (M 75 (M 63 14).toNat) (M 76 (M 63 14).toNat) ∧ SegOk M (M 63 14) (M 77 (M 63 14).toNat) (M 78 (M 63 14).toNat)
def sgd (S : List (Nat × Nat)) : Bool := !c_in S 63 14 && [75, 76, 77, 78, 81].all fun c => S.all fun p => p.1 != c
theorem nin {S : List (Nat × Nat)} {c : Nat} (hc : c < 114) (h : (S.all fun p => p.1 != c) = true) : ∀ f, c_in S c f = false := by
  intro f
  cases hh : c_in S c f with
  | false => rfl
  | true =>
    exfalso
    rcases c_in_mem.mp hh with h0 | ⟨p, h1, h2, _⟩
    · omega
    · have := List.all_eq_true.mp h p h1
      simp [h2] at this
theorem SegOk.congr {M M1 : cM} {b lo hi : Int} (h : SegOk M b lo hi) (g : ∀ k, M1 81 k = M 81 k) : SegOk M1 b lo hi := by
  rcases h with h | ⟨h1, h2, h3, h4⟩
  · exact Or.inl h
  · refine Or.inr ⟨h1, h2, h3, ?_⟩
    rw [hgt_congr (fun k _ _ => g k)]
    exact h4
theorem Sg.fr {S : List (Nat × Nat)} {M M1 : cM} (h : Sg M) (g : Fr S M M1) (hs : sgd S = true) : Sg M1 := by
  unfold sgd at hs
  rw [Bool.and_eq_true] at hs
  obtain ⟨h1, h2⟩ := hs
  have h3 : ∀ c, c ∈ [75, 76, 77, 78, 81] → c < 114 → ∀ f, M1 c f = M c f := fun c hc hl f => g c f (nin hl (List.all_eq_true.mp h2 c hc) f)
  have h0 : M1 63 14 = M 63 14 := g 63 14 (by simpa using h1)
  unfold Sg
  rw [h0, h3 75 (by decide) (by decide), h3 76 (by decide) (by decide), h3 77 (by decide) (by decide), h3 78 (by decide) (by decide)]
  exact ⟨h.1.congr (h3 81 (by decide) (by decide)), h.2.congr (h3 81 (by decide) (by decide))⟩
theorem Sg.slow {M : cM} {b lo hi : Int} (h : Sg M) (hb : M 63 14 = b) (hlo : M 75 b.toNat = lo) (hhi : M 76 b.toNat = hi) (hne : lo ≠ -1) : 0 ≤ lo ∧ lo ≤ hi ∧ hi ≤ 1600 ∧ hgt M (1600 * M 63 14 + lo).toNat (hi - lo).toNat ≠ none := by
  have := h.1
  rw [hb, hlo, hhi] at this
  rw [hb]
  exact this.resolve_left hne
theorem Sg.stands {M : cM} {b lo hi : Int} (h : Sg M) (hb : M 63 14 = b) (hlo : M 77 b.toNat = lo) (hhi : M 78 b.toNat = hi) (hne : lo ≠ -1) : 0 ≤ lo ∧ lo ≤ hi ∧ hi ≤ 1600 ∧ hgt M (1600 * M 63 14 + lo).toNat (hi - lo).toNat ≠ none := by
  have := h.2
  rw [hb, hlo, hhi] at this
  rw [hb]
  exact this.resolve_left hne
theorem kx_229_0 : x_code k_P 229 0 = some (.iload_n 1, 1) := by decide +kernel
theorem kx_229_1 : x_code k_P 229 1 = some (.tableswitch 137 0 6 #[43, 46, 52, 71, 90, 109, 120], 43) := by decide +kernel
theorem kx_229_44 : x_code k_P 229 44 = some (.iload_n 2, 1) := by decide +kernel
theorem kx_229_45 : x_code k_P 229 45 = some (.i2l, 1) := by decide +kernel
theorem kx_229_46 : x_code k_P 229 46 = some (.lreturn, 1) := by decide +kernel
theorem kq_229 : x_retk k_P 229 = 3 := by decide +kernel
theorem kx_229_47 : x_code k_P 229 47 = some (.aload_n 0, 1) := by decide +kernel
theorem kx_229_48 : x_code k_P 229 48 = some (.getfield 201, 3) := by decide +kernel
theorem kp_229_201 : x_pool k_P 229 201 = (1, 12, 62) := by decide +kernel
theorem kf_12_62 : (x_cls k_P 12)[62]? = some 0 := by decide +kernel
theorem kx_229_51 : x_code k_P 229 51 = some (.i2l, 1) := by decide +kernel
theorem kx_229_52 : x_code k_P 229 52 = some (.lreturn, 1) := by decide +kernel
theorem kx_229_53 : x_code k_P 229 53 = some (.aload_n 0, 1) := by decide +kernel
theorem kx_229_54 : x_code k_P 229 54 = some (.getfield 75, 3) := by decide +kernel
theorem kp_229_75 : x_pool k_P 229 75 = (1, 12, 21) := by decide +kernel
theorem kx_229_57 : x_code k_P 229 57 = some (.bipush 8, 2) := by decide +kernel
theorem kx_229_59 : x_code k_P 229 59 = some (.aload_n 0, 1) := by decide +kernel
theorem kx_229_60 : x_code k_P 229 60 = some (.getfield 54, 3) := by decide +kernel
theorem kp_229_54 : x_pool k_P 229 54 = (1, 12, 14) := by decide +kernel
theorem kx_229_63 : x_code k_P 229 63 = some (.imul, 1) := by decide +kernel
theorem kx_229_64 : x_code k_P 229 64 = some (.aload_n 0, 1) := by decide +kernel
theorem kx_229_65 : x_code k_P 229 65 = some (.getfield 204, 3) := by decide +kernel
theorem kp_229_204 : x_pool k_P 229 204 = (1, 12, 63) := by decide +kernel
theorem kf_12_63 : (x_cls k_P 12)[63]? = some 0 := by decide +kernel
theorem kx_229_68 : x_code k_P 229 68 = some (.iadd, 1) := by decide +kernel
theorem kx_229_69 : x_code k_P 229 69 = some (.iaload, 1) := by decide +kernel
theorem kx_229_70 : x_code k_P 229 70 = some (.i2l, 1) := by decide +kernel
theorem kx_229_71 : x_code k_P 229 71 = some (.lreturn, 1) := by decide +kernel
theorem kx_229_72 : x_code k_P 229 72 = some (.aload_n 0, 1) := by decide +kernel
theorem kx_229_73 : x_code k_P 229 73 = some (.getfield 72, 3) := by decide +kernel
theorem kp_229_72 : x_pool k_P 229 72 = (1, 12, 20) := by decide +kernel
theorem kx_229_76 : x_code k_P 229 76 = some (.bipush 8, 2) := by decide +kernel
theorem kx_229_78 : x_code k_P 229 78 = some (.aload_n 0, 1) := by decide +kernel
theorem kx_229_79 : x_code k_P 229 79 = some (.getfield 54, 3) := by decide +kernel
theorem kx_229_82 : x_code k_P 229 82 = some (.imul, 1) := by decide +kernel
theorem kx_229_83 : x_code k_P 229 83 = some (.aload_n 0, 1) := by decide +kernel
theorem kx_229_84 : x_code k_P 229 84 = some (.getfield 207, 3) := by decide +kernel
theorem kp_229_207 : x_pool k_P 229 207 = (1, 12, 64) := by decide +kernel
theorem kf_12_64 : (x_cls k_P 12)[64]? = some 0 := by decide +kernel
theorem kx_229_87 : x_code k_P 229 87 = some (.iadd, 1) := by decide +kernel
theorem kx_229_88 : x_code k_P 229 88 = some (.iaload, 1) := by decide +kernel
theorem kx_229_89 : x_code k_P 229 89 = some (.i2l, 1) := by decide +kernel
theorem kx_229_90 : x_code k_P 229 90 = some (.lreturn, 1) := by decide +kernel
theorem kx_229_91 : x_code k_P 229 91 = some (.aload_n 0, 1) := by decide +kernel
theorem kx_229_92 : x_code k_P 229 92 = some (.getfield 78, 3) := by decide +kernel
theorem kp_229_78 : x_pool k_P 229 78 = (1, 12, 22) := by decide +kernel
theorem kx_229_95 : x_code k_P 229 95 = some (.bipush 8, 2) := by decide +kernel
theorem kx_229_97 : x_code k_P 229 97 = some (.aload_n 0, 1) := by decide +kernel
theorem kx_229_98 : x_code k_P 229 98 = some (.getfield 54, 3) := by decide +kernel
theorem kx_229_101 : x_code k_P 229 101 = some (.imul, 1) := by decide +kernel
theorem kx_229_102 : x_code k_P 229 102 = some (.aload_n 0, 1) := by decide +kernel
theorem kx_229_103 : x_code k_P 229 103 = some (.getfield 204, 3) := by decide +kernel
theorem kx_229_106 : x_code k_P 229 106 = some (.iadd, 1) := by decide +kernel
theorem kx_229_107 : x_code k_P 229 107 = some (.iaload, 1) := by decide +kernel
theorem kx_229_108 : x_code k_P 229 108 = some (.i2l, 1) := by decide +kernel
theorem kx_229_109 : x_code k_P 229 109 = some (.lreturn, 1) := by decide +kernel
theorem kx_229_110 : x_code k_P 229 110 = some (.aload_n 0, 1) := by decide +kernel
theorem kx_229_111 : x_code k_P 229 111 = some (.getfield 168, 3) := by decide +kernel
theorem kp_229_168 : x_pool k_P 229 168 = (1, 12, 51) := by decide +kernel
theorem kx_229_114 : x_code k_P 229 114 = some (.aload_n 0, 1) := by decide +kernel
theorem kx_229_115 : x_code k_P 229 115 = some (.getfield 207, 3) := by decide +kernel
theorem kx_229_118 : x_code k_P 229 118 = some (.iaload, 1) := by decide +kernel
theorem kx_229_119 : x_code k_P 229 119 = some (.i2l, 1) := by decide +kernel
theorem kx_229_120 : x_code k_P 229 120 = some (.lreturn, 1) := by decide +kernel
theorem kx_229_121 : x_code k_P 229 121 = some (.aload_n 0, 1) := by decide +kernel
theorem kx_229_122 : x_code k_P 229 122 = some (.getfield 207, 3) := by decide +kernel
theorem kx_229_125 : x_code k_P 229 125 = some (.aload_n 0, 1) := by decide +kernel
theorem kx_229_126 : x_code k_P 229 126 = some (.getfield 204, 3) := by decide +kernel
theorem kx_229_129 : x_code k_P 229 129 = some (.if_icmp .ne 7, 3) := by decide +kernel
theorem kx_229_136 : x_code k_P 229 136 = some (.lconst 0, 1) := by decide +kernel
theorem kx_229_137 : x_code k_P 229 137 = some (.lreturn, 1) := by decide +kernel
theorem kx_229_132 : x_code k_P 229 132 = some (.lconst 1, 1) := by decide +kernel
theorem kx_229_133 : x_code k_P 229 133 = some (.goto 4, 3) := by decide +kernel
theorem kx_229_138 : x_code k_P 229 138 = some (.lconst 1, 1) := by decide +kernel
theorem kx_229_139 : x_code k_P 229 139 = some (.lreturn, 1) := by decide +kernel
theorem m_229 {xs : Nat → Int} {Ln d : Nat} {T : List cK} {M : cM} (hT : TT T) (hI : Rng M) {sort v_ : Int} : cC k_P xs Ln (d + 0) 229 [rf 63, (0, sort), (0, v_)] (T, M) (qF T M 1 (fun v => True)) := by
  show cP k_P xs Ln (d + 0) 229 0 [(0, rf 63), (1, (0, sort)), (2, (0, v_))] [] (T, M) _
  refine s_iload_n kx_229_0 rfl ?_
  rcases (by omega : sort = 0 ∨ sort = 1 ∨ sort = 2 ∨ sort = 3 ∨ sort = 4 ∨ sort = 5 ∨ sort = 6 ∨ (sort < 0 ∨ 6 < sort)) with hs1 | hs1 | hs1 | hs1 | hs1 | hs1 | hs1 | hs1
  · refine s_tsw (t := 44) kx_229_1 (by decide) 0 hs1 (by decide) ?_
    refine s_iload_n kx_229_44 rfl ?_
    refine s_i2l kx_229_45 ?_
    exact s_lret kx_229_46 kq_229 ⟨_, rfl, rfl, trivial⟩
  · refine s_tsw (t := 47) kx_229_1 (by decide) 1 hs1 (by decide) ?_
    refine s_aload_n kx_229_47 rfl ?_
    refine r_getU (k := 63) (f := 62) kx_229_48 kp_229_201 (tk_63 hT) kf_12_62 (fun _ => rfl) (fun v2 v2e => ?_)
    refine s_i2l kx_229_51 ?_
    exact s_lret kx_229_52 kq_229 ⟨_, rfl, rfl, trivial⟩
  · refine s_tsw (t := 53) kx_229_1 (by decide) 2 hs1 (by decide) ?_
    refine s_aload_n kx_229_53 rfl ?_
    refine r_getR (k := 63) (f := 21) (k2 := 71) kx_229_54 kp_229_75 (tk_63 hT) kf_12_21 (by decide) (rq_63_21 hI) ?_
    refine s_bipush (v := 8) kx_229_57 (by decide) ?_
    refine s_aload_n kx_229_59 rfl ?_
    refine r_getI (k := 63) (f := 14) kx_229_60 kp_229_54 (tk_63 hT) kf_12_14 (fun _ => rfl) (rg_63_14 hI) (fun v3 v3e v3a v3b => ?_)
    refine r_mul kx_229_63 ⟨by omega, by omega⟩ ?_
    refine s_aload_n kx_229_64 rfl ?_
    refine r_getI (k := 63) (f := 63) kx_229_65 kp_229_204 (tk_63 hT) kf_12_63 (fun _ => rfl) (rg_63_63 hI) (fun v4 v4e v4a v4b => ?_)
    refine r_add kx_229_68 ⟨by omega, by omega⟩ ?_
    refine r_aldU (k := 71) kx_229_69 (tk_71 hT) ⟨by omega, by omega⟩ (fun v5 v5e => ?_)
    refine s_i2l kx_229_70 ?_
    exact s_lret kx_229_71 kq_229 ⟨_, rfl, rfl, trivial⟩
  · refine s_tsw (t := 72) kx_229_1 (by decide) 3 hs1 (by decide) ?_
    refine s_aload_n kx_229_72 rfl ?_
    refine r_getR (k := 63) (f := 20) (k2 := 70) kx_229_73 kp_229_72 (tk_63 hT) kf_12_20 (by decide) (rq_63_20 hI) ?_
    refine s_bipush (v := 8) kx_229_76 (by decide) ?_
    refine s_aload_n kx_229_78 rfl ?_
    refine r_getI (k := 63) (f := 14) kx_229_79 kp_229_54 (tk_63 hT) kf_12_14 (fun _ => rfl) (rg_63_14 hI) (fun v6 v6e v6a v6b => ?_)
    refine r_mul kx_229_82 ⟨by omega, by omega⟩ ?_
    refine s_aload_n kx_229_83 rfl ?_
    refine r_getI (k := 63) (f := 64) kx_229_84 kp_229_207 (tk_63 hT) kf_12_64 (fun _ => rfl) (rg_63_64 hI) (fun v7 v7e v7a v7b => ?_)
    refine r_add kx_229_87 ⟨by omega, by omega⟩ ?_
    refine r_aldU (k := 70) kx_229_88 (tk_70 hT) ⟨by omega, by omega⟩ (fun v8 v8e => ?_)
    refine s_i2l kx_229_89 ?_
    exact s_lret kx_229_90 kq_229 ⟨_, rfl, rfl, trivial⟩
  · refine s_tsw (t := 91) kx_229_1 (by decide) 4 hs1 (by decide) ?_
    refine s_aload_n kx_229_91 rfl ?_
    refine r_getR (k := 63) (f := 22) (k2 := 72) kx_229_92 kp_229_78 (tk_63 hT) kf_12_22 (by decide) (rq_63_22 hI) ?_
    refine s_bipush (v := 8) kx_229_95 (by decide) ?_
    refine s_aload_n kx_229_97 rfl ?_
    refine r_getI (k := 63) (f := 14) kx_229_98 kp_229_54 (tk_63 hT) kf_12_14 (fun _ => rfl) (rg_63_14 hI) (fun v9 v9e v9a v9b => ?_)
    refine r_mul kx_229_101 ⟨by omega, by omega⟩ ?_
    refine s_aload_n kx_229_102 rfl ?_
    refine r_getI (k := 63) (f := 63) kx_229_103 kp_229_204 (tk_63 hT) kf_12_63 (fun _ => rfl) (rg_63_63 hI) (fun v10 v10e v10a v10b => ?_)
    refine r_add kx_229_106 ⟨by omega, by omega⟩ ?_
    refine r_aldU (k := 72) kx_229_107 (tk_72 hT) ⟨by omega, by omega⟩ (fun v11 v11e => ?_)
    refine s_i2l kx_229_108 ?_
    exact s_lret kx_229_109 kq_229 ⟨_, rfl, rfl, trivial⟩
  · refine s_tsw (t := 110) kx_229_1 (by decide) 5 hs1 (by decide) ?_
    refine s_aload_n kx_229_110 rfl ?_
    refine r_getR (k := 63) (f := 51) (k2 := 95) kx_229_111 kp_229_168 (tk_63 hT) kf_12_51 (by decide) (rq_63_51 hI) ?_
    refine s_aload_n kx_229_114 rfl ?_
    refine r_getI (k := 63) (f := 64) kx_229_115 kp_229_207 (tk_63 hT) kf_12_64 (fun _ => rfl) (rg_63_64 hI) (fun v12 v12e v12a v12b => ?_)
    refine r_aldU (k := 95) kx_229_118 (tk_95 hT) ⟨by omega, by omega⟩ (fun v13 v13e => ?_)
    refine s_i2l kx_229_119 ?_
    exact s_lret kx_229_120 kq_229 ⟨_, rfl, rfl, trivial⟩
  · refine s_tsw (t := 121) kx_229_1 (by decide) 6 hs1 (by decide) ?_
    refine s_aload_n kx_229_121 rfl ?_
    refine r_getI (k := 63) (f := 64) kx_229_122 kp_229_207 (tk_63 hT) kf_12_64 (fun _ => rfl) (rg_63_64 hI) (fun v14 v14e v14a v14b => ?_)
    refine s_aload_n kx_229_125 rfl ?_
    refine r_getI (k := 63) (f := 63) kx_229_126 kp_229_204 (tk_63 hT) kf_12_63 (fun _ => rfl) (rg_63_63 hI) (fun v15 v15e v15a v15b => ?_)
    refine s_icmp_ne (t := 136) kx_229_129 (by decide) (fun hc16 => ?_) (fun hc16 => ?_)
    · refine s_lconst (v := 0) kx_229_136 (by decide) ?_
      exact s_lret kx_229_137 kq_229 ⟨_, rfl, rfl, trivial⟩
    · refine s_lconst (v := 1) kx_229_132 (by decide) ?_
      refine s_goto (t := 137) kx_229_133 (by decide) ?_
      exact s_lret kx_229_137 kq_229 ⟨_, rfl, rfl, trivial⟩
  · refine s_tswD (t := 138) kx_229_1 (by decide) hs1 (by decide) ?_
    refine s_lconst (v := 1) kx_229_138 (by decide) ?_
    exact s_lret kx_229_139 kq_229 ⟨_, rfl, rfl, trivial⟩
theorem kx_230_0 : x_code k_P 230 0 = some (.lload_n 0, 1) := by decide +kernel
theorem kx_230_1 : x_code k_P 230 1 = some (.ldc2_w 455, 3) := by decide +kernel
theorem kp_230_455 : x_pool k_P 230 455 = (8, 0, 1000000) := by decide +kernel
theorem kx_230_4 : x_code k_P 230 4 = some (.lcmp, 1) := by decide +kernel
theorem kx_230_5 : x_code k_P 230 5 = some (.ifCond .le 9, 3) := by decide +kernel
theorem kx_230_14 : x_code k_P 230 14 = some (.lload_n 0, 1) := by decide +kernel
theorem kx_230_15 : x_code k_P 230 15 = some (.ldc2_w 457, 3) := by decide +kernel
theorem kp_230_457 : x_pool k_P 230 457 = (8, 0, (-1000000)) := by decide +kernel
theorem kx_230_18 : x_code k_P 230 18 = some (.lcmp, 1) := by decide +kernel
theorem kx_230_19 : x_code k_P 230 19 = some (.ifCond .ge 9, 3) := by decide +kernel
theorem kx_230_28 : x_code k_P 230 28 = some (.lload_n 0, 1) := by decide +kernel
theorem kx_230_29 : x_code k_P 230 29 = some (.lreturn, 1) := by decide +kernel
theorem kq_230 : x_retk k_P 230 = 3 := by decide +kernel
theorem kx_230_22 : x_code k_P 230 22 = some (.ldc2_w 457, 3) := by decide +kernel
theorem kx_230_25 : x_code k_P 230 25 = some (.goto 4, 3) := by decide +kernel
theorem kx_230_8 : x_code k_P 230 8 = some (.ldc2_w 455, 3) := by decide +kernel
theorem kx_230_11 : x_code k_P 230 11 = some (.goto 18, 3) := by decide +kernel
theorem m_230 {xs : Nat → Int} {Ln d : Nat} {T : List cK} {M : cM} (hT : TT T) (hI : Rng M) {v_ : Int} : cC k_P xs Ln (d + 0) 230 [(1, v_)] (T, M) (qF T M 1 (fun v => True)) := by
  show cP k_P xs Ln (d + 0) 230 0 [(0, (1, v_))] [] (T, M) _
  refine s_lload_n kx_230_0 rfl ?_
  refine s_ldc2_w kx_230_1 kp_230_455 ?_
  refine r_lcmpR kx_230_4 (fun v1 => ?_)
  refine s_if_le (t := 14) kx_230_5 (by decide) (fun hc2 => ?_) (fun hc2 => ?_)
  · refine s_lload_n kx_230_14 rfl ?_
    refine s_ldc2_w kx_230_15 kp_230_457 ?_
    refine r_lcmpR kx_230_18 (fun v3 => ?_)
    refine s_if_ge (t := 28) kx_230_19 (by decide) (fun hc4 => ?_) (fun hc4 => ?_)
    · refine s_lload_n kx_230_28 rfl ?_
      exact s_lret kx_230_29 kq_230 ⟨_, rfl, rfl, trivial⟩
    · refine s_ldc2_w kx_230_22 kp_230_457 ?_
      refine s_goto (t := 29) kx_230_25 (by decide) ?_
      exact s_lret kx_230_29 kq_230 ⟨_, rfl, rfl, trivial⟩
  · refine s_ldc2_w kx_230_8 kp_230_455 ?_
    refine s_goto (t := 29) kx_230_11 (by decide) ?_
    exact s_lret kx_230_29 kq_230 ⟨_, rfl, rfl, trivial⟩
theorem kx_231_0 : x_code k_P 231 0 = some (.lload_n 2, 1) := by decide +kernel
theorem kx_231_1 : x_code k_P 231 1 = some (.lconst 0, 1) := by decide +kernel
theorem kx_231_2 : x_code k_P 231 2 = some (.lcmp, 1) := by decide +kernel
theorem kx_231_3 : x_code k_P 231 3 = some (.ifCond .ne 5, 3) := by decide +kernel
theorem kx_231_8 : x_code k_P 231 8 = some (.lload_n 0, 1) := by decide +kernel
theorem kx_231_9 : x_code k_P 231 9 = some (.lload_n 2, 1) := by decide +kernel
theorem kx_231_10 : x_code k_P 231 10 = some (.ldiv, 1) := by decide +kernel
theorem kx_231_11 : x_code k_P 231 11 = some (.lstore 4, 2) := by decide +kernel
theorem km_231_5 : 5 < x_maxL k_P 231 := by decide +kernel
theorem kx_231_13 : x_code k_P 231 13 = some (.lload_n 0, 1) := by decide +kernel
theorem kx_231_14 : x_code k_P 231 14 = some (.lload_n 2, 1) := by decide +kernel
theorem kx_231_15 : x_code k_P 231 15 = some (.lrem, 1) := by decide +kernel
theorem kx_231_16 : x_code k_P 231 16 = some (.lconst 0, 1) := by decide +kernel
theorem kx_231_17 : x_code k_P 231 17 = some (.lcmp, 1) := by decide +kernel
theorem kx_231_18 : x_code k_P 231 18 = some (.ifCond .eq 35, 3) := by decide +kernel
theorem kx_231_53 : x_code k_P 231 53 = some (.lload 4, 2) := by decide +kernel
theorem kx_231_55 : x_code k_P 231 55 = some (.lreturn, 1) := by decide +kernel
theorem kq_231 : x_retk k_P 231 = 3 := by decide +kernel
theorem kx_231_21 : x_code k_P 231 21 = some (.lload_n 0, 1) := by decide +kernel
theorem kx_231_22 : x_code k_P 231 22 = some (.lconst 0, 1) := by decide +kernel
theorem kx_231_23 : x_code k_P 231 23 = some (.lcmp, 1) := by decide +kernel
theorem kx_231_24 : x_code k_P 231 24 = some (.ifCond .ge 7, 3) := by decide +kernel
theorem kx_231_31 : x_code k_P 231 31 = some (.iconst 0, 1) := by decide +kernel
theorem kx_231_27 : x_code k_P 231 27 = some (.iconst 1, 1) := by decide +kernel
theorem kx_231_28 : x_code k_P 231 28 = some (.goto 4, 3) := by decide +kernel
theorem kx_231_32 : x_code k_P 231 32 = some (.lload_n 2, 1) := by decide +kernel
theorem kx_231_33 : x_code k_P 231 33 = some (.lconst 0, 1) := by decide +kernel
theorem kx_231_34 : x_code k_P 231 34 = some (.lcmp, 1) := by decide +kernel
theorem kx_231_35 : x_code k_P 231 35 = some (.ifCond .ge 7, 3) := by decide +kernel
theorem kx_231_42 : x_code k_P 231 42 = some (.iconst 0, 1) := by decide +kernel
theorem kx_231_43 : x_code k_P 231 43 = some (.if_icmp .eq 10, 3) := by decide +kernel
theorem kx_231_46 : x_code k_P 231 46 = some (.lload 4, 2) := by decide +kernel
theorem kx_231_48 : x_code k_P 231 48 = some (.lconst 1, 1) := by decide +kernel
theorem kx_231_49 : x_code k_P 231 49 = some (.lsub, 1) := by decide +kernel
theorem kx_231_50 : x_code k_P 231 50 = some (.goto 5, 3) := by decide +kernel
theorem kx_231_38 : x_code k_P 231 38 = some (.iconst 1, 1) := by decide +kernel
theorem kx_231_39 : x_code k_P 231 39 = some (.goto 4, 3) := by decide +kernel
theorem kx_231_6 : x_code k_P 231 6 = some (.lconst 0, 1) := by decide +kernel
theorem kx_231_7 : x_code k_P 231 7 = some (.lreturn, 1) := by decide +kernel
theorem m_231 {xs : Nat → Int} {Ln d : Nat} {T : List cK} {M : cM} (hT : TT T) (hI : Rng M) {a b : Int} : cC k_P xs Ln (d + 0) 231 [(1, a), (1, b)] (T, M) (qF T M 1 (fun v => True)) := by
  show cP k_P xs Ln (d + 0) 231 0 [(0, (1, a)), (2, (1, b))] [] (T, M) _
  refine s_lload_n kx_231_0 rfl ?_
  refine s_lconst (v := 0) kx_231_1 (by decide) ?_
  refine r_lcmpX kx_231_2 (fun v1 v1p => ?_)
  have v1w : (Int64.ofInt 0).toInt = 0 := bmod64 (by decide) (by decide)
  have v1z : b = 0 → (Int64.ofInt b).toInt = (Int64.ofInt 0).toInt := fun e => by rw [e]
  refine s_if_ne (t := 8) kx_231_3 (by decide) (fun hc2 => ?_) (fun hc2 => ?_)
  · refine s_lload_n kx_231_8 rfl ?_
    refine s_lload_n kx_231_9 rfl ?_
    refine r_ldivR kx_231_10 (by omega) (fun v3 v3a v3b => ?_)
    refine s_lstore kx_231_11 km_231_5 rfl ?_
    refine s_lload_n kx_231_13 rfl ?_
    refine s_lload_n kx_231_14 rfl ?_
    refine r_lremR kx_231_15 (by omega) (fun v4 v4a v4b => ?_)
    refine s_lconst (v := 0) kx_231_16 (by decide) ?_
    refine r_lcmpE kx_231_17 ⟨by omega, by omega⟩ ⟨by omega, by omega⟩ (fun v5 v5p => ?_)
    refine s_if_eq (t := 53) kx_231_18 (by decide) (fun hc6 => ?_) (fun hc6 => ?_)
    · refine s_lload kx_231_53 rfl ?_
      exact s_lret kx_231_55 kq_231 ⟨_, rfl, rfl, trivial⟩
    · refine s_lload_n kx_231_21 rfl ?_
      refine s_lconst (v := 0) kx_231_22 (by decide) ?_
      refine r_lcmpX kx_231_23 (fun v7 v7p => ?_)
      have v7w : (Int64.ofInt 0).toInt = 0 := bmod64 (by decide) (by decide)
      have v7z : a = 0 → (Int64.ofInt a).toInt = (Int64.ofInt 0).toInt := fun e => by rw [e]
      have jn12 : ∀ (y11 : Int), (0 ≤ y11) → (y11 ≤ 1) → cP k_P xs Ln (d + 0) 231 32 [(2, (1, b)), (4, (1, v3))] [(0, y11)] (T, M) (qF T M 1 (fun v => True)) := by
        intro y11 a13 a14
        refine s_lload_n kx_231_32 rfl ?_
        refine s_lconst (v := 0) kx_231_33 (by decide) ?_
        refine r_lcmpX kx_231_34 (fun v15 v15p => ?_)
        have v15w : (Int64.ofInt 0).toInt = 0 := bmod64 (by decide) (by decide)
        have v15z : b = 0 → (Int64.ofInt b).toInt = (Int64.ofInt 0).toInt := fun e => by rw [e]
        refine s_if_ge (t := 42) kx_231_35 (by decide) (fun hc16 => ?_) (fun hc16 => ?_)
        · refine s_iconst (v := 0) kx_231_42 (by decide) ?_
          refine s_icmp_eq (t := 53) kx_231_43 (by decide) (fun hc17 => ?_) (fun hc17 => ?_)
          · refine s_lload kx_231_53 rfl ?_
            exact s_lret kx_231_55 kq_231 ⟨_, rfl, rfl, trivial⟩
          · refine s_lload kx_231_46 rfl ?_
            refine s_lconst (v := 1) kx_231_48 (by decide) ?_
            refine r_lsubR kx_231_49 (fun v18 v18a v18b => ?_)
            refine s_goto (t := 55) kx_231_50 (by decide) ?_
            exact s_lret kx_231_55 kq_231 ⟨_, rfl, rfl, trivial⟩
        · refine s_iconst (v := 1) kx_231_38 (by decide) ?_
          refine s_goto (t := 43) kx_231_39 (by decide) ?_
          refine s_icmp_eq (t := 53) kx_231_43 (by decide) (fun hc19 => ?_) (fun hc19 => ?_)
          · refine s_lload kx_231_53 rfl ?_
            exact s_lret kx_231_55 kq_231 ⟨_, rfl, rfl, trivial⟩
          · refine s_lload kx_231_46 rfl ?_
            refine s_lconst (v := 1) kx_231_48 (by decide) ?_
            refine r_lsubR kx_231_49 (fun v20 v20a v20b => ?_)
            refine s_goto (t := 55) kx_231_50 (by decide) ?_
            exact s_lret kx_231_55 kq_231 ⟨_, rfl, rfl, trivial⟩
      refine s_if_ge (t := 31) kx_231_24 (by decide) (fun hc8 => ?_) (fun hc8 => ?_)
      · refine s_iconst (v := 0) kx_231_31 (by decide) ?_
        exact cP.wk (lS1 rfl (lS1 rfl lS0)) (jn12 0 (by omega) (by omega))
      · refine s_iconst (v := 1) kx_231_27 (by decide) ?_
        refine s_goto (t := 32) kx_231_28 (by decide) ?_
        exact cP.wk (lS1 rfl (lS1 rfl lS0)) (jn12 1 (by omega) (by omega))
  · refine s_lconst (v := 0) kx_231_6 (by decide) ?_
    exact s_lret kx_231_7 kq_231 ⟨_, rfl, rfl, trivial⟩
theorem kx_232_0 : x_code k_P 232 0 = some (.iload_n 0, 1) := by decide +kernel
theorem kx_232_1 : x_code k_P 232 1 = some (.tableswitch 176 10 20 #[59, 66, 73, 80, 89, 112, 124, 136, 148, 160, 172], 59) := by decide +kernel
theorem kx_232_60 : x_code k_P 232 60 = some (.lload_n 1, 1) := by decide +kernel
theorem kx_232_61 : x_code k_P 232 61 = some (.lload_n 3, 1) := by decide +kernel
theorem kx_232_62 : x_code k_P 232 62 = some (.ladd, 1) := by decide +kernel
theorem kx_232_63 : x_code k_P 232 63 = some (.invokestatic 459, 3) := by decide +kernel
theorem kp_232_459 : x_pool k_P 232 459 = (6, 230, 1) := by decide +kernel
theorem kcl_230 : x_maxL k_P 230 ≤ 60 ∧ 2 ≤ x_maxL k_P 230 := by decide +kernel
theorem kx_232_66 : x_code k_P 232 66 = some (.lreturn, 1) := by decide +kernel
theorem kq_232 : x_retk k_P 232 = 3 := by decide +kernel
theorem kx_232_67 : x_code k_P 232 67 = some (.lload_n 1, 1) := by decide +kernel
theorem kx_232_68 : x_code k_P 232 68 = some (.lload_n 3, 1) := by decide +kernel
theorem kx_232_69 : x_code k_P 232 69 = some (.lsub, 1) := by decide +kernel
theorem kx_232_70 : x_code k_P 232 70 = some (.invokestatic 459, 3) := by decide +kernel
theorem kx_232_73 : x_code k_P 232 73 = some (.lreturn, 1) := by decide +kernel
theorem kx_232_74 : x_code k_P 232 74 = some (.lload_n 1, 1) := by decide +kernel
theorem kx_232_75 : x_code k_P 232 75 = some (.lload_n 3, 1) := by decide +kernel
theorem kx_232_76 : x_code k_P 232 76 = some (.lmul, 1) := by decide +kernel
theorem kx_232_77 : x_code k_P 232 77 = some (.invokestatic 459, 3) := by decide +kernel
theorem kx_232_80 : x_code k_P 232 80 = some (.lreturn, 1) := by decide +kernel
theorem kx_232_81 : x_code k_P 232 81 = some (.lload_n 1, 1) := by decide +kernel
theorem kx_232_82 : x_code k_P 232 82 = some (.lload_n 3, 1) := by decide +kernel
theorem kx_232_83 : x_code k_P 232 83 = some (.invokestatic 463, 3) := by decide +kernel
theorem kp_232_463 : x_pool k_P 232 463 = (6, 231, 2) := by decide +kernel
theorem kcl_231 : x_maxL k_P 231 ≤ 60 ∧ 4 ≤ x_maxL k_P 231 := by decide +kernel
theorem kx_232_86 : x_code k_P 232 86 = some (.invokestatic 459, 3) := by decide +kernel
theorem kx_232_89 : x_code k_P 232 89 = some (.lreturn, 1) := by decide +kernel
theorem kx_232_90 : x_code k_P 232 90 = some (.lload_n 3, 1) := by decide +kernel
theorem kx_232_91 : x_code k_P 232 91 = some (.lconst 0, 1) := by decide +kernel
theorem kx_232_92 : x_code k_P 232 92 = some (.lcmp, 1) := by decide +kernel
theorem kx_232_93 : x_code k_P 232 93 = some (.ifCond .ne 7, 3) := by decide +kernel
theorem kx_232_100 : x_code k_P 232 100 = some (.lload_n 1, 1) := by decide +kernel
theorem kx_232_101 : x_code k_P 232 101 = some (.lload_n 3, 1) := by decide +kernel
theorem kx_232_102 : x_code k_P 232 102 = some (.lload_n 1, 1) := by decide +kernel
theorem kx_232_103 : x_code k_P 232 103 = some (.lload_n 3, 1) := by decide +kernel
theorem kx_232_104 : x_code k_P 232 104 = some (.invokestatic 463, 3) := by decide +kernel
theorem kx_232_107 : x_code k_P 232 107 = some (.lmul, 1) := by decide +kernel
theorem kx_232_108 : x_code k_P 232 108 = some (.lsub, 1) := by decide +kernel
theorem kx_232_109 : x_code k_P 232 109 = some (.invokestatic 459, 3) := by decide +kernel
theorem kx_232_112 : x_code k_P 232 112 = some (.lreturn, 1) := by decide +kernel
theorem kx_232_96 : x_code k_P 232 96 = some (.lconst 0, 1) := by decide +kernel
theorem kx_232_97 : x_code k_P 232 97 = some (.goto 15, 3) := by decide +kernel
theorem kx_232_113 : x_code k_P 232 113 = some (.lload_n 1, 1) := by decide +kernel
theorem kx_232_114 : x_code k_P 232 114 = some (.lload_n 3, 1) := by decide +kernel
theorem kx_232_115 : x_code k_P 232 115 = some (.lcmp, 1) := by decide +kernel
theorem kx_232_116 : x_code k_P 232 116 = some (.ifCond .ge 7, 3) := by decide +kernel
theorem kx_232_123 : x_code k_P 232 123 = some (.lload_n 3, 1) := by decide +kernel
theorem kx_232_124 : x_code k_P 232 124 = some (.lreturn, 1) := by decide +kernel
theorem kx_232_119 : x_code k_P 232 119 = some (.lload_n 1, 1) := by decide +kernel
theorem kx_232_120 : x_code k_P 232 120 = some (.goto 4, 3) := by decide +kernel
theorem kx_232_125 : x_code k_P 232 125 = some (.lload_n 1, 1) := by decide +kernel
theorem kx_232_126 : x_code k_P 232 126 = some (.lload_n 3, 1) := by decide +kernel
theorem kx_232_127 : x_code k_P 232 127 = some (.lcmp, 1) := by decide +kernel
theorem kx_232_128 : x_code k_P 232 128 = some (.ifCond .le 7, 3) := by decide +kernel
theorem kx_232_135 : x_code k_P 232 135 = some (.lload_n 3, 1) := by decide +kernel
theorem kx_232_136 : x_code k_P 232 136 = some (.lreturn, 1) := by decide +kernel
theorem kx_232_131 : x_code k_P 232 131 = some (.lload_n 1, 1) := by decide +kernel
theorem kx_232_132 : x_code k_P 232 132 = some (.goto 4, 3) := by decide +kernel
theorem kx_232_137 : x_code k_P 232 137 = some (.lload_n 1, 1) := by decide +kernel
theorem kx_232_138 : x_code k_P 232 138 = some (.lload_n 3, 1) := by decide +kernel
theorem kx_232_139 : x_code k_P 232 139 = some (.lcmp, 1) := by decide +kernel
theorem kx_232_140 : x_code k_P 232 140 = some (.ifCond .ge 7, 3) := by decide +kernel
theorem kx_232_147 : x_code k_P 232 147 = some (.lconst 0, 1) := by decide +kernel
theorem kx_232_148 : x_code k_P 232 148 = some (.lreturn, 1) := by decide +kernel
theorem kx_232_143 : x_code k_P 232 143 = some (.lconst 1, 1) := by decide +kernel
theorem kx_232_144 : x_code k_P 232 144 = some (.goto 4, 3) := by decide +kernel
theorem kx_232_149 : x_code k_P 232 149 = some (.lload_n 1, 1) := by decide +kernel
theorem kx_232_150 : x_code k_P 232 150 = some (.lload_n 3, 1) := by decide +kernel
theorem kx_232_151 : x_code k_P 232 151 = some (.lcmp, 1) := by decide +kernel
theorem kx_232_152 : x_code k_P 232 152 = some (.ifCond .le 7, 3) := by decide +kernel
theorem kx_232_159 : x_code k_P 232 159 = some (.lconst 0, 1) := by decide +kernel
theorem kx_232_160 : x_code k_P 232 160 = some (.lreturn, 1) := by decide +kernel
theorem kx_232_155 : x_code k_P 232 155 = some (.lconst 1, 1) := by decide +kernel
theorem kx_232_156 : x_code k_P 232 156 = some (.goto 4, 3) := by decide +kernel
theorem kx_232_161 : x_code k_P 232 161 = some (.lload_n 1, 1) := by decide +kernel
theorem kx_232_162 : x_code k_P 232 162 = some (.lload_n 3, 1) := by decide +kernel
theorem kx_232_163 : x_code k_P 232 163 = some (.lcmp, 1) := by decide +kernel
theorem kx_232_164 : x_code k_P 232 164 = some (.ifCond .ne 7, 3) := by decide +kernel
theorem kx_232_171 : x_code k_P 232 171 = some (.lconst 0, 1) := by decide +kernel
theorem kx_232_172 : x_code k_P 232 172 = some (.lreturn, 1) := by decide +kernel
theorem kx_232_167 : x_code k_P 232 167 = some (.lconst 1, 1) := by decide +kernel
theorem kx_232_168 : x_code k_P 232 168 = some (.goto 4, 3) := by decide +kernel
theorem kx_232_173 : x_code k_P 232 173 = some (.lload_n 1, 1) := by decide +kernel
theorem kx_232_174 : x_code k_P 232 174 = some (.lload_n 3, 1) := by decide +kernel
theorem kx_232_175 : x_code k_P 232 175 = some (.land, 1) := by decide +kernel
theorem kx_232_176 : x_code k_P 232 176 = some (.lreturn, 1) := by decide +kernel
theorem kx_232_177 : x_code k_P 232 177 = some (.lload_n 1, 1) := by decide +kernel
theorem kx_232_178 : x_code k_P 232 178 = some (.lload_n 3, 1) := by decide +kernel
theorem kx_232_179 : x_code k_P 232 179 = some (.lor, 1) := by decide +kernel
theorem kx_232_180 : x_code k_P 232 180 = some (.lreturn, 1) := by decide +kernel
theorem m_232 {xs : Nat → Int} {Ln d : Nat} {T : List cK} {M : cM} (hT : TT T) (hI : Rng M) {sort a b : Int} : cC k_P xs Ln (d + 1) 232 [(0, sort), (1, a), (1, b)] (T, M) (qF T M 1 (fun v => True)) := by
  show cP k_P xs Ln (d + 1) 232 0 [(0, (0, sort)), (1, (1, a)), (3, (1, b))] [] (T, M) _
  refine s_iload_n kx_232_0 rfl ?_
  rcases (by omega : sort = 10 ∨ sort = 11 ∨ sort = 12 ∨ sort = 13 ∨ sort = 14 ∨ sort = 15 ∨ sort = 16 ∨ sort = 17 ∨ sort = 18 ∨ sort = 19 ∨ sort = 20 ∨ (sort < 10 ∨ 20 < sort)) with hs1 | hs1 | hs1 | hs1 | hs1 | hs1 | hs1 | hs1 | hs1 | hs1 | hs1 | hs1
  · refine s_tsw (t := 60) kx_232_1 (by decide) 10 hs1 (by decide) ?_
    refine s_lload_n kx_232_60 rfl ?_
    refine s_lload_n kx_232_61 rfl ?_
    refine r_laddR kx_232_62 (fun v2 v2a v2b => ?_)
    refine s_callS2 (s1 := 2) (s2 := 0) (as := [(1, v2)]) (rest := []) kx_232_63 kp_232_459 rfl kcl_230 rfl rfl (by decide) (m_230 (d := d) (v_ := v2) hT hI) (kF (fun v3 v3p => ?_))
    exact s_lret kx_232_66 kq_232 ⟨_, rfl, rfl, trivial⟩
  · refine s_tsw (t := 67) kx_232_1 (by decide) 11 hs1 (by decide) ?_
    refine s_lload_n kx_232_67 rfl ?_
    refine s_lload_n kx_232_68 rfl ?_
    refine r_lsubR kx_232_69 (fun v4 v4a v4b => ?_)
    refine s_callS2 (s1 := 2) (s2 := 0) (as := [(1, v4)]) (rest := []) kx_232_70 kp_232_459 rfl kcl_230 rfl rfl (by decide) (m_230 (d := d) (v_ := v4) hT hI) (kF (fun v5 v5p => ?_))
    exact s_lret kx_232_73 kq_232 ⟨_, rfl, rfl, trivial⟩
  · refine s_tsw (t := 74) kx_232_1 (by decide) 12 hs1 (by decide) ?_
    refine s_lload_n kx_232_74 rfl ?_
    refine s_lload_n kx_232_75 rfl ?_
    refine r_lmulR kx_232_76 (fun v6 v6a v6b => ?_)
    refine s_callS2 (s1 := 2) (s2 := 0) (as := [(1, v6)]) (rest := []) kx_232_77 kp_232_459 rfl kcl_230 rfl rfl (by decide) (m_230 (d := d) (v_ := v6) hT hI) (kF (fun v7 v7p => ?_))
    exact s_lret kx_232_80 kq_232 ⟨_, rfl, rfl, trivial⟩
  · refine s_tsw (t := 81) kx_232_1 (by decide) 13 hs1 (by decide) ?_
    refine s_lload_n kx_232_81 rfl ?_
    refine s_lload_n kx_232_82 rfl ?_
    refine s_callS2 (s1 := 4) (s2 := 0) (as := [(1, b), (1, a)]) (rest := []) kx_232_83 kp_232_463 rfl kcl_231 rfl rfl (by decide) (m_231 (d := d) (a := a) (b := b) hT hI) (kF (fun v8 v8p => ?_))
    refine s_callS2 (s1 := 2) (s2 := 0) (as := [(1, v8)]) (rest := []) kx_232_86 kp_232_459 rfl kcl_230 rfl rfl (by decide) (m_230 (d := d) (v_ := v8) hT hI) (kF (fun v9 v9p => ?_))
    exact s_lret kx_232_89 kq_232 ⟨_, rfl, rfl, trivial⟩
  · refine s_tsw (t := 90) kx_232_1 (by decide) 14 hs1 (by decide) ?_
    refine s_lload_n kx_232_90 rfl ?_
    refine s_lconst (v := 0) kx_232_91 (by decide) ?_
    refine r_lcmpR kx_232_92 (fun v10 => ?_)
    refine s_if_ne (t := 100) kx_232_93 (by decide) (fun hc11 => ?_) (fun hc11 => ?_)
    · refine s_lload_n kx_232_100 rfl ?_
      refine s_lload_n kx_232_101 rfl ?_
      refine s_lload_n kx_232_102 rfl ?_
      refine s_lload_n kx_232_103 rfl ?_
      refine s_callS2 (s1 := 4) (s2 := 4) (as := [(1, b), (1, a)]) (rest := [(1, b), (1, a)]) kx_232_104 kp_232_463 rfl kcl_231 rfl rfl (by decide) (m_231 (d := d) (a := a) (b := b) hT hI) (kF (fun v12 v12p => ?_))
      refine r_lmulR kx_232_107 (fun v13 v13a v13b => ?_)
      refine r_lsubR kx_232_108 (fun v14 v14a v14b => ?_)
      refine s_callS2 (s1 := 2) (s2 := 0) (as := [(1, v14)]) (rest := []) kx_232_109 kp_232_459 rfl kcl_230 rfl rfl (by decide) (m_230 (d := d) (v_ := v14) hT hI) (kF (fun v15 v15p => ?_))
      exact s_lret kx_232_112 kq_232 ⟨_, rfl, rfl, trivial⟩
    · refine s_lconst (v := 0) kx_232_96 (by decide) ?_
      refine s_goto (t := 112) kx_232_97 (by decide) ?_
      exact s_lret kx_232_112 kq_232 ⟨_, rfl, rfl, trivial⟩
  · refine s_tsw (t := 113) kx_232_1 (by decide) 15 hs1 (by decide) ?_
    refine s_lload_n kx_232_113 rfl ?_
    refine s_lload_n kx_232_114 rfl ?_
    refine r_lcmpR kx_232_115 (fun v16 => ?_)
    refine s_if_ge (t := 123) kx_232_116 (by decide) (fun hc17 => ?_) (fun hc17 => ?_)
    · refine s_lload_n kx_232_123 rfl ?_
      exact s_lret kx_232_124 kq_232 ⟨_, rfl, rfl, trivial⟩
    · refine s_lload_n kx_232_119 rfl ?_
      refine s_goto (t := 124) kx_232_120 (by decide) ?_
      exact s_lret kx_232_124 kq_232 ⟨_, rfl, rfl, trivial⟩
  · refine s_tsw (t := 125) kx_232_1 (by decide) 16 hs1 (by decide) ?_
    refine s_lload_n kx_232_125 rfl ?_
    refine s_lload_n kx_232_126 rfl ?_
    refine r_lcmpR kx_232_127 (fun v18 => ?_)
    refine s_if_le (t := 135) kx_232_128 (by decide) (fun hc19 => ?_) (fun hc19 => ?_)
    · refine s_lload_n kx_232_135 rfl ?_
      exact s_lret kx_232_136 kq_232 ⟨_, rfl, rfl, trivial⟩
    · refine s_lload_n kx_232_131 rfl ?_
      refine s_goto (t := 136) kx_232_132 (by decide) ?_
      exact s_lret kx_232_136 kq_232 ⟨_, rfl, rfl, trivial⟩
  · refine s_tsw (t := 137) kx_232_1 (by decide) 17 hs1 (by decide) ?_
    refine s_lload_n kx_232_137 rfl ?_
    refine s_lload_n kx_232_138 rfl ?_
    refine r_lcmpR kx_232_139 (fun v20 => ?_)
    refine s_if_ge (t := 147) kx_232_140 (by decide) (fun hc21 => ?_) (fun hc21 => ?_)
    · refine s_lconst (v := 0) kx_232_147 (by decide) ?_
      exact s_lret kx_232_148 kq_232 ⟨_, rfl, rfl, trivial⟩
    · refine s_lconst (v := 1) kx_232_143 (by decide) ?_
      refine s_goto (t := 148) kx_232_144 (by decide) ?_
      exact s_lret kx_232_148 kq_232 ⟨_, rfl, rfl, trivial⟩
  · refine s_tsw (t := 149) kx_232_1 (by decide) 18 hs1 (by decide) ?_
    refine s_lload_n kx_232_149 rfl ?_
    refine s_lload_n kx_232_150 rfl ?_
    refine r_lcmpR kx_232_151 (fun v22 => ?_)
    refine s_if_le (t := 159) kx_232_152 (by decide) (fun hc23 => ?_) (fun hc23 => ?_)
    · refine s_lconst (v := 0) kx_232_159 (by decide) ?_
      exact s_lret kx_232_160 kq_232 ⟨_, rfl, rfl, trivial⟩
    · refine s_lconst (v := 1) kx_232_155 (by decide) ?_
      refine s_goto (t := 160) kx_232_156 (by decide) ?_
      exact s_lret kx_232_160 kq_232 ⟨_, rfl, rfl, trivial⟩
  · refine s_tsw (t := 161) kx_232_1 (by decide) 19 hs1 (by decide) ?_
    refine s_lload_n kx_232_161 rfl ?_
    refine s_lload_n kx_232_162 rfl ?_
    refine r_lcmpR kx_232_163 (fun v24 => ?_)
    refine s_if_ne (t := 171) kx_232_164 (by decide) (fun hc25 => ?_) (fun hc25 => ?_)
    · refine s_lconst (v := 0) kx_232_171 (by decide) ?_
      exact s_lret kx_232_172 kq_232 ⟨_, rfl, rfl, trivial⟩
    · refine s_lconst (v := 1) kx_232_167 (by decide) ?_
      refine s_goto (t := 172) kx_232_168 (by decide) ?_
      exact s_lret kx_232_172 kq_232 ⟨_, rfl, rfl, trivial⟩
  · refine s_tsw (t := 173) kx_232_1 (by decide) 20 hs1 (by decide) ?_
    refine s_lload_n kx_232_173 rfl ?_
    refine s_lload_n kx_232_174 rfl ?_
    refine r_landR kx_232_175 (fun v26 v26a v26b => ?_)
    exact s_lret kx_232_176 kq_232 ⟨_, rfl, rfl, trivial⟩
  · refine s_tswD (t := 177) kx_232_1 (by decide) hs1 (by decide) ?_
    refine s_lload_n kx_232_177 rfl ?_
    refine s_lload_n kx_232_178 rfl ?_
    refine r_lorR kx_232_179 (fun v27 v27a v27b => ?_)
    exact s_lret kx_232_180 kq_232 ⟨_, rfl, rfl, trivial⟩
theorem kx_234_0 : x_code k_P 234 0 = some (.lload_n 0, 1) := by decide +kernel
theorem kx_234_1 : x_code k_P 234 1 = some (.lconst 0, 1) := by decide +kernel
theorem kx_234_2 : x_code k_P 234 2 = some (.lcmp, 1) := by decide +kernel
theorem kx_234_3 : x_code k_P 234 3 = some (.ifCond .ge 7, 3) := by decide +kernel
theorem kx_234_10 : x_code k_P 234 10 = some (.lload_n 0, 1) := by decide +kernel
theorem kx_234_11 : x_code k_P 234 11 = some (.ldc2_w 475, 3) := by decide +kernel
theorem kp_234_475 : x_pool k_P 234 475 = (8, 0, 999) := by decide +kernel
theorem kx_234_14 : x_code k_P 234 14 = some (.lcmp, 1) := by decide +kernel
theorem kx_234_15 : x_code k_P 234 15 = some (.ifCond .le 9, 3) := by decide +kernel
theorem kx_234_24 : x_code k_P 234 24 = some (.lload_n 0, 1) := by decide +kernel
theorem kx_234_25 : x_code k_P 234 25 = some (.l2i, 1) := by decide +kernel
theorem kx_234_26 : x_code k_P 234 26 = some (.ireturn, 1) := by decide +kernel
theorem kq_234 : x_retk k_P 234 = 1 := by decide +kernel
theorem kx_234_18 : x_code k_P 234 18 = some (.sipush 999, 3) := by decide +kernel
theorem kx_234_21 : x_code k_P 234 21 = some (.goto 5, 3) := by decide +kernel
theorem kx_234_6 : x_code k_P 234 6 = some (.iconst 0, 1) := by decide +kernel
theorem kx_234_7 : x_code k_P 234 7 = some (.goto 19, 3) := by decide +kernel
theorem m_234 {xs : Nat → Int} {Ln d : Nat} {T : List cK} {M : cM} (hT : TT T) (hI : Rng M) {v_ : Int} : cC k_P xs Ln (d + 0) 234 [(1, v_)] (T, M) (qF T M 0 (fun v => 0 ≤ v ∧ v ≤ 999)) := by
  show cP k_P xs Ln (d + 0) 234 0 [(0, (1, v_))] [] (T, M) _
  refine s_lload_n kx_234_0 rfl ?_
  refine s_lconst (v := 0) kx_234_1 (by decide) ?_
  refine r_lcmpX kx_234_2 (fun v1 v1p => ?_)
  have v1w : (Int64.ofInt 0).toInt = 0 := bmod64 (by decide) (by decide)
  have v1z : v_ = 0 → (Int64.ofInt v_).toInt = (Int64.ofInt 0).toInt := fun e => by rw [e]
  refine s_if_ge (t := 10) kx_234_3 (by decide) (fun hc2 => ?_) (fun hc2 => ?_)
  · refine s_lload_n kx_234_10 rfl ?_
    refine s_ldc2_w kx_234_11 kp_234_475 ?_
    refine r_lcmpX kx_234_14 (fun v3 v3p => ?_)
    have v3w : (Int64.ofInt 999).toInt = 999 := bmod64 (by decide) (by decide)
    have v3z : v_ = 999 → (Int64.ofInt v_).toInt = (Int64.ofInt 999).toInt := fun e => by rw [e]
    refine s_if_le (t := 24) kx_234_15 (by decide) (fun hc4 => ?_) (fun hc4 => ?_)
    · refine s_lload_n kx_234_24 rfl ?_
      refine r_l2iX kx_234_25 (by omega) (by omega) ?_
      exact s_iret kx_234_26 (Or.inl kq_234) ⟨_, rfl, rfl, (by omega)⟩
    · refine s_sipush (v := 999) kx_234_18 (by decide) ?_
      refine s_goto (t := 26) kx_234_21 (by decide) ?_
      exact s_iret kx_234_26 (Or.inl kq_234) ⟨_, rfl, rfl, (by omega)⟩
  · refine s_iconst (v := 0) kx_234_6 (by decide) ?_
    refine s_goto (t := 26) kx_234_7 (by decide) ?_
    exact s_iret kx_234_26 (Or.inl kq_234) ⟨_, rfl, rfl, (by omega)⟩
theorem kx_233_0 : x_code k_P 233 0 = some (.iconst 0, 1) := by decide +kernel
theorem kx_233_1 : x_code k_P 233 1 = some (.istore_n 3, 1) := by decide +kernel
theorem km_233_3 : 3 < x_maxL k_P 233 := by decide +kernel
theorem kx_233_2 : x_code k_P 233 2 = some (.sipush 1600, 3) := by decide +kernel
theorem kx_233_5 : x_code k_P 233 5 = some (.aload_n 0, 1) := by decide +kernel
theorem kx_233_6 : x_code k_P 233 6 = some (.getfield 54, 3) := by decide +kernel
theorem kp_233_54 : x_pool k_P 233 54 = (1, 12, 14) := by decide +kernel
theorem kx_233_9 : x_code k_P 233 9 = some (.imul, 1) := by decide +kernel
theorem kx_233_10 : x_code k_P 233 10 = some (.iload_n 1, 1) := by decide +kernel
theorem kx_233_11 : x_code k_P 233 11 = some (.iadd, 1) := by decide +kernel
theorem kx_233_12 : x_code k_P 233 12 = some (.istore 4, 2) := by decide +kernel
theorem km_233_4 : 4 < x_maxL k_P 233 := by decide +kernel
theorem kx_233_14 : x_code k_P 233 14 = some (.iload 4, 2) := by decide +kernel
theorem kx_233_16 : x_code k_P 233 16 = some (.sipush 1600, 3) := by decide +kernel
theorem kx_233_19 : x_code k_P 233 19 = some (.aload_n 0, 1) := by decide +kernel
theorem kx_233_20 : x_code k_P 233 20 = some (.getfield 54, 3) := by decide +kernel
theorem kx_233_23 : x_code k_P 233 23 = some (.imul, 1) := by decide +kernel
theorem kx_233_24 : x_code k_P 233 24 = some (.iload_n 2, 1) := by decide +kernel
theorem kx_233_25 : x_code k_P 233 25 = some (.iadd, 1) := by decide +kernel
theorem kx_233_26 : x_code k_P 233 26 = some (.if_icmp .ge 159, 3) := by decide +kernel
theorem kx_233_185 : x_code k_P 233 185 = some (.aload_n 0, 1) := by decide +kernel
theorem kx_233_186 : x_code k_P 233 186 = some (.getfield 198, 3) := by decide +kernel
theorem kp_233_198 : x_pool k_P 233 198 = (1, 12, 61) := by decide +kernel
theorem kf_12_61 : (x_cls k_P 12)[61]? = some 12 := by decide +kernel
theorem kx_233_189 : x_code k_P 233 189 = some (.iconst 0, 1) := by decide +kernel
theorem kx_233_190 : x_code k_P 233 190 = some (.laload, 1) := by decide +kernel
theorem kx_233_191 : x_code k_P 233 191 = some (.lreturn, 1) := by decide +kernel
theorem kq_233 : x_retk k_P 233 = 3 := by decide +kernel
theorem kx_233_29 : x_code k_P 233 29 = some (.aload_n 0, 1) := by decide +kernel
theorem kx_233_30 : x_code k_P 233 30 = some (.getfield 105, 3) := by decide +kernel
theorem kp_233_105 : x_pool k_P 233 105 = (1, 12, 31) := by decide +kernel
theorem kf_12_31 : (x_cls k_P 12)[31]? = some 12 := by decide +kernel
theorem kx_233_33 : x_code k_P 233 33 = some (.iload 4, 2) := by decide +kernel
theorem kx_233_35 : x_code k_P 233 35 = some (.iaload, 1) := by decide +kernel
theorem kx_233_36 : x_code k_P 233 36 = some (.istore 5, 2) := by decide +kernel
theorem km_233_5 : 5 < x_maxL k_P 233 := by decide +kernel
theorem kx_233_38 : x_code k_P 233 38 = some (.iload 5, 2) := by decide +kernel
theorem kx_233_40 : x_code k_P 233 40 = some (.bipush 9, 2) := by decide +kernel
theorem kx_233_42 : x_code k_P 233 42 = some (.if_icmp .gt 28, 3) := by decide +kernel
theorem kx_233_70 : x_code k_P 233 70 = some (.iload 5, 2) := by decide +kernel
theorem kx_233_72 : x_code k_P 233 72 = some (.bipush 22, 2) := by decide +kernel
theorem kx_233_74 : x_code k_P 233 74 = some (.if_icmp .ne 24, 3) := by decide +kernel
theorem kx_233_98 : x_code k_P 233 98 = some (.iload 5, 2) := by decide +kernel
theorem kx_233_100 : x_code k_P 233 100 = some (.bipush 23, 2) := by decide +kernel
theorem kx_233_102 : x_code k_P 233 102 = some (.if_icmp .ne 47, 3) := by decide +kernel
theorem kx_233_149 : x_code k_P 233 149 = some (.iinc 3 (-1), 3) := by decide +kernel
theorem kx_233_152 : x_code k_P 233 152 = some (.aload_n 0, 1) := by decide +kernel
theorem kx_233_153 : x_code k_P 233 153 = some (.getfield 198, 3) := by decide +kernel
theorem kx_233_156 : x_code k_P 233 156 = some (.iload_n 3, 1) := by decide +kernel
theorem kx_233_157 : x_code k_P 233 157 = some (.iconst 1, 1) := by decide +kernel
theorem kx_233_158 : x_code k_P 233 158 = some (.isub, 1) := by decide +kernel
theorem kx_233_159 : x_code k_P 233 159 = some (.iload 5, 2) := by decide +kernel
theorem kx_233_161 : x_code k_P 233 161 = some (.aload_n 0, 1) := by decide +kernel
theorem kx_233_162 : x_code k_P 233 162 = some (.getfield 198, 3) := by decide +kernel
theorem kx_233_165 : x_code k_P 233 165 = some (.iload_n 3, 1) := by decide +kernel
theorem kx_233_166 : x_code k_P 233 166 = some (.iconst 1, 1) := by decide +kernel
theorem kx_233_167 : x_code k_P 233 167 = some (.isub, 1) := by decide +kernel
theorem kx_233_168 : x_code k_P 233 168 = some (.laload, 1) := by decide +kernel
theorem kx_233_169 : x_code k_P 233 169 = some (.aload_n 0, 1) := by decide +kernel
theorem kx_233_170 : x_code k_P 233 170 = some (.getfield 198, 3) := by decide +kernel
theorem kx_233_173 : x_code k_P 233 173 = some (.iload_n 3, 1) := by decide +kernel
theorem kx_233_174 : x_code k_P 233 174 = some (.laload, 1) := by decide +kernel
theorem kx_233_175 : x_code k_P 233 175 = some (.invokestatic 471, 3) := by decide +kernel
theorem kp_233_471 : x_pool k_P 233 471 = (6, 232, 3) := by decide +kernel
theorem kcl_232 : x_maxL k_P 232 ≤ 60 ∧ 5 ≤ x_maxL k_P 232 := by decide +kernel
theorem kx_233_178 : x_code k_P 233 178 = some (.lastore, 1) := by decide +kernel
theorem kx_233_179 : x_code k_P 233 179 = some (.iinc 4 1, 3) := by decide +kernel
theorem kx_233_182 : x_code k_P 233 182 = some (.goto (-168), 3) := by decide +kernel
theorem kx_233_105 : x_code k_P 233 105 = some (.iinc 3 (-2), 3) := by decide +kernel
theorem kx_233_108 : x_code k_P 233 108 = some (.aload_n 0, 1) := by decide +kernel
theorem kx_233_109 : x_code k_P 233 109 = some (.getfield 198, 3) := by decide +kernel
theorem kx_233_112 : x_code k_P 233 112 = some (.iload_n 3, 1) := by decide +kernel
theorem kx_233_113 : x_code k_P 233 113 = some (.iconst 1, 1) := by decide +kernel
theorem kx_233_114 : x_code k_P 233 114 = some (.isub, 1) := by decide +kernel
theorem kx_233_115 : x_code k_P 233 115 = some (.aload_n 0, 1) := by decide +kernel
theorem kx_233_116 : x_code k_P 233 116 = some (.getfield 198, 3) := by decide +kernel
theorem kx_233_119 : x_code k_P 233 119 = some (.iload_n 3, 1) := by decide +kernel
theorem kx_233_120 : x_code k_P 233 120 = some (.iconst 1, 1) := by decide +kernel
theorem kx_233_121 : x_code k_P 233 121 = some (.isub, 1) := by decide +kernel
theorem kx_233_122 : x_code k_P 233 122 = some (.laload, 1) := by decide +kernel
theorem kx_233_123 : x_code k_P 233 123 = some (.lconst 1, 1) := by decide +kernel
theorem kx_233_124 : x_code k_P 233 124 = some (.lcmp, 1) := by decide +kernel
theorem kx_233_125 : x_code k_P 233 125 = some (.ifCond .ne 12, 3) := by decide +kernel
theorem kx_233_137 : x_code k_P 233 137 = some (.aload_n 0, 1) := by decide +kernel
theorem kx_233_138 : x_code k_P 233 138 = some (.getfield 198, 3) := by decide +kernel
theorem kx_233_141 : x_code k_P 233 141 = some (.iload_n 3, 1) := by decide +kernel
theorem kx_233_142 : x_code k_P 233 142 = some (.iconst 1, 1) := by decide +kernel
theorem kx_233_143 : x_code k_P 233 143 = some (.iadd, 1) := by decide +kernel
theorem kx_233_144 : x_code k_P 233 144 = some (.laload, 1) := by decide +kernel
theorem kx_233_145 : x_code k_P 233 145 = some (.lastore, 1) := by decide +kernel
theorem kx_233_146 : x_code k_P 233 146 = some (.goto 33, 3) := by decide +kernel
theorem kx_233_128 : x_code k_P 233 128 = some (.aload_n 0, 1) := by decide +kernel
theorem kx_233_129 : x_code k_P 233 129 = some (.getfield 198, 3) := by decide +kernel
theorem kx_233_132 : x_code k_P 233 132 = some (.iload_n 3, 1) := by decide +kernel
theorem kx_233_133 : x_code k_P 233 133 = some (.laload, 1) := by decide +kernel
theorem kx_233_134 : x_code k_P 233 134 = some (.goto 11, 3) := by decide +kernel
theorem kx_233_77 : x_code k_P 233 77 = some (.aload_n 0, 1) := by decide +kernel
theorem kx_233_78 : x_code k_P 233 78 = some (.getfield 198, 3) := by decide +kernel
theorem kx_233_81 : x_code k_P 233 81 = some (.iload_n 3, 1) := by decide +kernel
theorem kx_233_82 : x_code k_P 233 82 = some (.iconst 1, 1) := by decide +kernel
theorem kx_233_83 : x_code k_P 233 83 = some (.isub, 1) := by decide +kernel
theorem kx_233_84 : x_code k_P 233 84 = some (.lconst 1, 1) := by decide +kernel
theorem kx_233_85 : x_code k_P 233 85 = some (.aload_n 0, 1) := by decide +kernel
theorem kx_233_86 : x_code k_P 233 86 = some (.getfield 198, 3) := by decide +kernel
theorem kx_233_89 : x_code k_P 233 89 = some (.iload_n 3, 1) := by decide +kernel
theorem kx_233_90 : x_code k_P 233 90 = some (.iconst 1, 1) := by decide +kernel
theorem kx_233_91 : x_code k_P 233 91 = some (.isub, 1) := by decide +kernel
theorem kx_233_92 : x_code k_P 233 92 = some (.laload, 1) := by decide +kernel
theorem kx_233_93 : x_code k_P 233 93 = some (.lsub, 1) := by decide +kernel
theorem kx_233_94 : x_code k_P 233 94 = some (.lastore, 1) := by decide +kernel
theorem kx_233_95 : x_code k_P 233 95 = some (.goto 84, 3) := by decide +kernel
theorem kx_233_45 : x_code k_P 233 45 = some (.aload_n 0, 1) := by decide +kernel
theorem kx_233_46 : x_code k_P 233 46 = some (.getfield 198, 3) := by decide +kernel
theorem kx_233_49 : x_code k_P 233 49 = some (.iload_n 3, 1) := by decide +kernel
theorem kx_233_50 : x_code k_P 233 50 = some (.aload_n 0, 1) := by decide +kernel
theorem kx_233_51 : x_code k_P 233 51 = some (.iload 5, 2) := by decide +kernel
theorem kx_233_53 : x_code k_P 233 53 = some (.aload_n 0, 1) := by decide +kernel
theorem kx_233_54 : x_code k_P 233 54 = some (.getfield 108, 3) := by decide +kernel
theorem kp_233_108 : x_pool k_P 233 108 = (1, 12, 32) := by decide +kernel
theorem kf_12_32 : (x_cls k_P 12)[32]? = some 12 := by decide +kernel
theorem kx_233_57 : x_code k_P 233 57 = some (.iload 4, 2) := by decide +kernel
theorem kx_233_59 : x_code k_P 233 59 = some (.iaload, 1) := by decide +kernel
theorem kx_233_60 : x_code k_P 233 60 = some (.invokevirtual 467, 3) := by decide +kernel
theorem kp_233_467 : x_pool k_P 233 467 = (2, 229, 2) := by decide +kernel
theorem ki_229 : x_mci k_P 229 = 12 := by decide +kernel
theorem kcl_229 : x_maxL k_P 229 ≤ 60 ∧ 3 ≤ x_maxL k_P 229 := by decide +kernel
theorem kx_233_63 : x_code k_P 233 63 = some (.lastore, 1) := by decide +kernel
theorem kx_233_64 : x_code k_P 233 64 = some (.iinc 3 1, 3) := by decide +kernel
theorem kx_233_67 : x_code k_P 233 67 = some (.goto 112, 3) := by decide +kernel
def fS_233_l14 : List (Nat × Nat) := [(102, 99999)]
def fS_233_m : List (Nat × Nat) := [(102, 99999)]
theorem m_233 {xs : Nat → Int} {Ln d : Nat} {T : List cK} {M : cM} (hT : TT T) (hI : Rng M) {from_ behind : Int} (p0 : 0 ≤ from_ ∧ from_ ≤ 1600) (p1 : 0 ≤ behind ∧ behind ≤ 1600) (p2 : from_ ≤ behind) (p3 : hgt M (1600 * M 63 14 + from_).toNat (behind - from_).toNat ≠ none) : cC k_P xs Ln (d + 2) 233 [rf 63, (0, from_), (0, behind)] (T, M) (qW T M fS_233_m 1 (fun v M1 => True)) := by
  show cP k_P xs Ln (d + 2) 233 0 [(0, rf 63), (1, (0, from_)), (2, (0, behind))] [] (T, M) _
  have hFm : Fr fS_233_m M M := Fr.refl
  have hb14 := rg_63_14 hI
  refine s_iconst (v := 0) kx_233_0 (by decide) ?_
  refine s_istore_n kx_233_1 km_233_3 rfl ?_
  refine s_sipush (v := 1600) kx_233_2 (by decide) ?_
  refine s_aload_n kx_233_5 rfl ?_
  refine r_getI (k := 63) (f := 14) kx_233_6 kp_233_54 (tk_63 hT) kf_12_14 (fun _ => rfl) (rg_63_14 hI) (fun v1 v1e v1a v1b => ?_)
  refine r_mul kx_233_9 ⟨by omega, by omega⟩ ?_
  refine s_iload_n kx_233_10 rfl ?_
  refine r_add kx_233_11 ⟨by omega, by omega⟩ ?_
  refine s_istore kx_233_12 km_233_4 rfl ?_
  have key5 : ∀ n6 : Nat, ∀ (x3_2 x4_3 : Int), ∀ M4 : cM, Rng M4 → Fr fS_233_m M M4 → Fr fS_233_l14 M M4 → (0 ≤ x3_2) → (x3_2 ≤ 500) → (0 ≤ x4_3) → (x4_3 ≤ 3200) → ((1600 * M 63 14 + from_) ≤ x4_3) → (x4_3 ≤ 1600 * M 63 14 + behind) → (hgt M (1600 * M 63 14 + from_).toNat (x4_3 - (1600 * M 63 14 + from_)).toNat = some (x3_2).toNat) → (2147483647 - x4_3).toNat < n6 → cP k_P xs Ln (d + 2) 233 14 [(0, rf 63), (2, (0, behind)), (3, (0, x3_2)), (4, (0, x4_3))] [] (T, M4) (qW T M fS_233_m 1 (fun v M1 => True)) := by
    intro n6
    induction n6 with
    | zero => intro x3_2 x4_3 M4 hI4 hFm4 fl4 i7 i8 i9 i10 i11 i12 i13 hm14; exact absurd hm14 (Nat.not_lt_zero _)
    | succ n6 ih15 =>
      intro x3_2 x4_3 M4 hI4 hFm4 fl4 i7 i8 i9 i10 i11 i12 i13 hm14
      refine s_iload kx_233_14 rfl ?_
      refine s_sipush (v := 1600) kx_233_16 (by decide) ?_
      refine s_aload_n kx_233_19 rfl ?_
      refine r_getK (k := 63) (f := 14) kx_233_20 kp_233_54 (tk_63 hT) kf_12_14 (fun _ => rfl) ((fl4 63 14 rfl).trans v1e) ?_
      refine r_mul kx_233_23 ⟨by omega, by omega⟩ ?_
      refine s_iload_n kx_233_24 rfl ?_
      refine r_add kx_233_25 ⟨by omega, by omega⟩ ?_
      refine s_icmp_ge (t := 185) kx_233_26 (by decide) (fun hc16 => ?_) (fun hc16 => ?_)
      · refine s_aload_n kx_233_185 rfl ?_
        refine r_getR (k := 63) (f := 61) (k2 := 102) kx_233_186 kp_233_198 (tk_63 hT) kf_12_61 (by decide) (rq_63_61 hI4) ?_
        refine s_iconst (v := 0) kx_233_189 (by decide) ?_
        refine r_laldU (k := 102) kx_233_190 (tk_102 hT) ⟨by decide, by decide⟩ (fun v17 v17e => ?_)
        exact s_lret kx_233_191 kq_233 ⟨_, _, rfl, rfl, hI4, hFm4, trivial⟩
      · refine s_aload_n kx_233_29 rfl ?_
        refine r_getR (k := 63) (f := 31) (k2 := 81) kx_233_30 kp_233_105 (tk_63 hT) kf_12_31 (by decide) (rq_63_31 hI4) ?_
        refine s_iload kx_233_33 rfl ?_
        refine r_ald (k := 81) kx_233_35 (tk_81 hT) ⟨by omega, by omega⟩ (rg_81 hI4) (fun v18 v18e v18a v18b => ?_)
        have hh := @hgt_nextI M (1600 * M 63 14 + from_) x4_3 x3_2 (behind - from_).toNat (by omega) (by omega) (by omega) i13 p3 (by omega)
        have he : M4 81 (x4_3).toNat = M 81 (x4_3).toNat := (fl4 81 _ rfl)
        refine s_istore kx_233_36 km_233_5 rfl ?_
        refine s_iload kx_233_38 rfl ?_
        refine s_bipush (v := 9) kx_233_40 (by decide) ?_
        refine s_icmp_gt (t := 70) kx_233_42 (by decide) (fun hc19 => ?_) (fun hc19 => ?_)
        · refine s_iload kx_233_70 rfl ?_
          refine s_bipush (v := 22) kx_233_72 (by decide) ?_
          refine s_icmp_ne (t := 98) kx_233_74 (by decide) (fun hc20 => ?_) (fun hc20 => ?_)
          · refine s_iload kx_233_98 rfl ?_
            refine s_bipush (v := 23) kx_233_100 (by decide) ?_
            refine s_icmp_ne (t := 149) kx_233_102 (by decide) (fun hc21 => ?_) (fun hc21 => ?_)
            · refine r_iinc kx_233_149 rfl km_233_3 (by decide) ⟨by omega, by omega⟩ rfl ?_
              refine s_aload_n kx_233_152 rfl ?_
              refine r_getR (k := 63) (f := 61) (k2 := 102) kx_233_153 kp_233_198 (tk_63 hT) kf_12_61 (by decide) (rq_63_61 hI4) ?_
              refine s_iload_n kx_233_156 rfl ?_
              refine s_iconst (v := 1) kx_233_157 (by decide) ?_
              refine r_sub kx_233_158 ⟨by omega, by omega⟩ ?_
              refine s_iload kx_233_159 rfl ?_
              refine s_aload_n kx_233_161 rfl ?_
              refine r_getR (k := 63) (f := 61) (k2 := 102) kx_233_162 kp_233_198 (tk_63 hT) kf_12_61 (by decide) (rq_63_61 hI4) ?_
              refine s_iload_n kx_233_165 rfl ?_
              refine s_iconst (v := 1) kx_233_166 (by decide) ?_
              refine r_sub kx_233_167 ⟨by omega, by omega⟩ ?_
              refine r_laldU (k := 102) kx_233_168 (tk_102 hT) ⟨by omega, by omega⟩ (fun v22 v22e => ?_)
              refine s_aload_n kx_233_169 rfl ?_
              refine r_getR (k := 63) (f := 61) (k2 := 102) kx_233_170 kp_233_198 (tk_63 hT) kf_12_61 (by decide) (rq_63_61 hI4) ?_
              refine s_iload_n kx_233_173 rfl ?_
              refine r_laldU (k := 102) kx_233_174 (tk_102 hT) ⟨by omega, by omega⟩ (fun v23 v23e => ?_)
              refine s_callS2 (s1 := 5) (s2 := 2) (as := [(1, v23), (1, v22), (0, v18)]) (rest := [(0, ((x3_2 + (-1)) - 1)), rf 102]) kx_233_175 kp_233_471 rfl kcl_232 rfl rfl (by decide) (m_232 (d := d) (sort := v18) (a := v22) (b := v23) hT hI4) (kF (fun v24 v24p => ?_))
              refine r_last (k := 102) kx_233_178 (tk_102 hT) ⟨by omega, by omega⟩ hI4 ru_102 (fun M25 hI25 u25 => ?_)
              have hFm25 := hFm4.up u25 rfl
              have hFl1425 := fl4.up u25 rfl
              refine r_iinc kx_233_179 rfl km_233_4 (by decide) ⟨by omega, by omega⟩ rfl ?_
              refine s_goto (t := 14) kx_233_182 (by decide) ?_
              exact cP.wk (lS1 rfl (lS1 rfl (lS1 rfl (lS1 rfl lS0)))) (ih15 (x3_2 + (-1)) (x4_3 + 1) M25 hI25 hFm25 hFl1425 (by omega) (by omega) (by omega) (by omega) (by omega) (by omega) (by rcases hh with h | h | h | h <;> first | exact h.1 | (exfalso; omega)) (by omega))
            · refine r_iinc kx_233_105 rfl km_233_3 (by decide) ⟨by omega, by omega⟩ rfl ?_
              refine s_aload_n kx_233_108 rfl ?_
              refine r_getR (k := 63) (f := 61) (k2 := 102) kx_233_109 kp_233_198 (tk_63 hT) kf_12_61 (by decide) (rq_63_61 hI4) ?_
              refine s_iload_n kx_233_112 rfl ?_
              refine s_iconst (v := 1) kx_233_113 (by decide) ?_
              refine r_sub kx_233_114 ⟨by omega, by omega⟩ ?_
              refine s_aload_n kx_233_115 rfl ?_
              refine r_getR (k := 63) (f := 61) (k2 := 102) kx_233_116 kp_233_198 (tk_63 hT) kf_12_61 (by decide) (rq_63_61 hI4) ?_
              refine s_iload_n kx_233_119 rfl ?_
              refine s_iconst (v := 1) kx_233_120 (by decide) ?_
              refine r_sub kx_233_121 ⟨by omega, by omega⟩ ?_
              refine r_laldU (k := 102) kx_233_122 (tk_102 hT) ⟨by omega, by omega⟩ (fun v26 v26e => ?_)
              refine s_lconst (v := 1) kx_233_123 (by decide) ?_
              refine r_lcmpR kx_233_124 (fun v27 => ?_)
              refine s_if_ne (t := 137) kx_233_125 (by decide) (fun hc28 => ?_) (fun hc28 => ?_)
              · refine s_aload_n kx_233_137 rfl ?_
                refine r_getR (k := 63) (f := 61) (k2 := 102) kx_233_138 kp_233_198 (tk_63 hT) kf_12_61 (by decide) (rq_63_61 hI4) ?_
                refine s_iload_n kx_233_141 rfl ?_
                refine s_iconst (v := 1) kx_233_142 (by decide) ?_
                refine r_add kx_233_143 ⟨by omega, by omega⟩ ?_
                refine r_laldU (k := 102) kx_233_144 (tk_102 hT) ⟨by omega, by omega⟩ (fun v29 v29e => ?_)
                refine r_last (k := 102) kx_233_145 (tk_102 hT) ⟨by omega, by omega⟩ hI4 ru_102 (fun M30 hI30 u30 => ?_)
                have hFm30 := hFm4.up u30 rfl
                have hFl1430 := fl4.up u30 rfl
                refine s_goto (t := 179) kx_233_146 (by decide) ?_
                refine r_iinc kx_233_179 rfl km_233_4 (by decide) ⟨by omega, by omega⟩ rfl ?_
                refine s_goto (t := 14) kx_233_182 (by decide) ?_
                exact cP.wk (lS1 rfl (lS1 rfl (lS1 rfl (lS1 rfl lS0)))) (ih15 (x3_2 + (-2)) (x4_3 + 1) M30 hI30 hFm30 hFl1430 (by omega) (by omega) (by omega) (by omega) (by omega) (by omega) (by rcases hh with h | h | h | h <;> first | exact h.1 | (exfalso; omega)) (by omega))
              · refine s_aload_n kx_233_128 rfl ?_
                refine r_getR (k := 63) (f := 61) (k2 := 102) kx_233_129 kp_233_198 (tk_63 hT) kf_12_61 (by decide) (rq_63_61 hI4) ?_
                refine s_iload_n kx_233_132 rfl ?_
                refine r_laldU (k := 102) kx_233_133 (tk_102 hT) ⟨by omega, by omega⟩ (fun v31 v31e => ?_)
                refine s_goto (t := 145) kx_233_134 (by decide) ?_
                refine r_last (k := 102) kx_233_145 (tk_102 hT) ⟨by omega, by omega⟩ hI4 ru_102 (fun M32 hI32 u32 => ?_)
                have hFm32 := hFm4.up u32 rfl
                have hFl1432 := fl4.up u32 rfl
                refine s_goto (t := 179) kx_233_146 (by decide) ?_
                refine r_iinc kx_233_179 rfl km_233_4 (by decide) ⟨by omega, by omega⟩ rfl ?_
                refine s_goto (t := 14) kx_233_182 (by decide) ?_
                exact cP.wk (lS1 rfl (lS1 rfl (lS1 rfl (lS1 rfl lS0)))) (ih15 (x3_2 + (-2)) (x4_3 + 1) M32 hI32 hFm32 hFl1432 (by omega) (by omega) (by omega) (by omega) (by omega) (by omega) (by rcases hh with h | h | h | h <;> first | exact h.1 | (exfalso; omega)) (by omega))
          · refine s_aload_n kx_233_77 rfl ?_
            refine r_getR (k := 63) (f := 61) (k2 := 102) kx_233_78 kp_233_198 (tk_63 hT) kf_12_61 (by decide) (rq_63_61 hI4) ?_
            refine s_iload_n kx_233_81 rfl ?_
            refine s_iconst (v := 1) kx_233_82 (by decide) ?_
            refine r_sub kx_233_83 ⟨by omega, by omega⟩ ?_
            refine s_lconst (v := 1) kx_233_84 (by decide) ?_
            refine s_aload_n kx_233_85 rfl ?_
            refine r_getR (k := 63) (f := 61) (k2 := 102) kx_233_86 kp_233_198 (tk_63 hT) kf_12_61 (by decide) (rq_63_61 hI4) ?_
            refine s_iload_n kx_233_89 rfl ?_
            refine s_iconst (v := 1) kx_233_90 (by decide) ?_
            refine r_sub kx_233_91 ⟨by omega, by omega⟩ ?_
            refine r_laldU (k := 102) kx_233_92 (tk_102 hT) ⟨by omega, by omega⟩ (fun v33 v33e => ?_)
            refine r_lsubR kx_233_93 (fun v34 v34a v34b => ?_)
            refine r_last (k := 102) kx_233_94 (tk_102 hT) ⟨by omega, by omega⟩ hI4 ru_102 (fun M35 hI35 u35 => ?_)
            have hFm35 := hFm4.up u35 rfl
            have hFl1435 := fl4.up u35 rfl
            refine s_goto (t := 179) kx_233_95 (by decide) ?_
            refine r_iinc kx_233_179 rfl km_233_4 (by decide) ⟨by omega, by omega⟩ rfl ?_
            refine s_goto (t := 14) kx_233_182 (by decide) ?_
            exact cP.wk (lS1 rfl (lS1 rfl (lS1 rfl (lS1 rfl lS0)))) (ih15 x3_2 (x4_3 + 1) M35 hI35 hFm35 hFl1435 (by omega) (by omega) (by omega) (by omega) (by omega) (by omega) (by rcases hh with h | h | h | h <;> first | exact h.1 | (exfalso; omega)) (by omega))
        · refine s_aload_n kx_233_45 rfl ?_
          refine r_getR (k := 63) (f := 61) (k2 := 102) kx_233_46 kp_233_198 (tk_63 hT) kf_12_61 (by decide) (rq_63_61 hI4) ?_
          refine s_iload_n kx_233_49 rfl ?_
          refine s_aload_n kx_233_50 rfl ?_
          refine s_iload kx_233_51 rfl ?_
          refine s_aload_n kx_233_53 rfl ?_
          refine r_getR (k := 63) (f := 32) (k2 := 82) kx_233_54 kp_233_108 (tk_63 hT) kf_12_32 (by decide) (rq_63_32 hI4) ?_
          refine s_iload kx_233_57 rfl ?_
          refine r_aldU (k := 82) kx_233_59 (tk_82 hT) ⟨by omega, by omega⟩ (fun v36 v36e => ?_)
          refine s_callV2 (k := 63) (s1 := 3) (s2 := 2) (as := [(0, v36), (0, v18)]) (rest := [(0, x3_2), rf 102]) kx_233_60 kp_233_467 (Or.inl rfl) rfl (tk_63 hT) ki_229 kcl_229 rfl rfl (by decide) (m_229 (d := d + 1) (sort := v18) (v_ := v36) hT hI4) (kF (fun v37 v37p => ?_))
          refine r_last (k := 102) kx_233_63 (tk_102 hT) ⟨by omega, by omega⟩ hI4 ru_102 (fun M38 hI38 u38 => ?_)
          have hFm38 := hFm4.up u38 rfl
          have hFl1438 := fl4.up u38 rfl
          refine r_iinc kx_233_64 rfl km_233_3 (by decide) ⟨by omega, by omega⟩ rfl ?_
          refine s_goto (t := 179) kx_233_67 (by decide) ?_
          refine r_iinc kx_233_179 rfl km_233_4 (by decide) ⟨by omega, by omega⟩ rfl ?_
          refine s_goto (t := 14) kx_233_182 (by decide) ?_
          exact cP.wk (lS1 rfl (lS1 rfl (lS1 rfl (lS1 rfl lS0)))) (ih15 (x3_2 + 1) (x4_3 + 1) M38 hI38 hFm38 hFl1438 (by omega) (by omega) (by omega) (by omega) (by omega) (by omega) (by rcases hh with h | h | h | h <;> first | exact h.1 | (exfalso; omega)) (by omega))
  have hA0 : ((1600 * v1) + from_) - (1600 * M 63 14 + from_) = 0 := by omega
  have hz : hgt M (1600 * M 63 14 + from_).toNat (((1600 * v1) + from_) - (1600 * M 63 14 + from_)).toNat = some (0 : Int).toNat := by rw [hA0]; rfl
  exact cP.wk (lS1 rfl (lS1 rfl (lS1 rfl (lS1 rfl lS0)))) (key5 _ 0 ((1600 * v1) + from_) M hI hFm Fr.refl (by omega) (by omega) (by omega) (by omega) (by omega) (by omega) hz (Nat.lt_succ_self _))
theorem kx_235_0 : x_code k_P 235 0 = some (.aload_n 0, 1) := by decide +kernel
theorem kx_235_1 : x_code k_P 235 1 = some (.getfield 87, 3) := by decide +kernel
theorem kp_235_87 : x_pool k_P 235 87 = (1, 12, 25) := by decide +kernel
theorem kf_12_25 : (x_cls k_P 12)[25]? = some 12 := by decide +kernel
theorem kx_235_4 : x_code k_P 235 4 = some (.aload_n 0, 1) := by decide +kernel
theorem kx_235_5 : x_code k_P 235 5 = some (.getfield 54, 3) := by decide +kernel
theorem kp_235_54 : x_pool k_P 235 54 = (1, 12, 14) := by decide +kernel
theorem kx_235_8 : x_code k_P 235 8 = some (.iaload, 1) := by decide +kernel
theorem kx_235_9 : x_code k_P 235 9 = some (.iconst (-1), 1) := by decide +kernel
theorem kx_235_10 : x_code k_P 235 10 = some (.if_icmp .ne 5, 3) := by decide +kernel
theorem kx_235_15 : x_code k_P 235 15 = some (.aload_n 0, 1) := by decide +kernel
theorem kx_235_16 : x_code k_P 235 16 = some (.iload_n 3, 1) := by decide +kernel
theorem kx_235_17 : x_code k_P 235 17 = some (.putfield 201, 3) := by decide +kernel
theorem kp_235_201 : x_pool k_P 235 201 = (1, 12, 62) := by decide +kernel
theorem kx_235_20 : x_code k_P 235 20 = some (.aload_n 0, 1) := by decide +kernel
theorem kx_235_21 : x_code k_P 235 21 = some (.iload_n 2, 1) := by decide +kernel
theorem kx_235_22 : x_code k_P 235 22 = some (.putfield 204, 3) := by decide +kernel
theorem kp_235_204 : x_pool k_P 235 204 = (1, 12, 63) := by decide +kernel
theorem kx_235_25 : x_code k_P 235 25 = some (.aload_n 0, 1) := by decide +kernel
theorem kx_235_26 : x_code k_P 235 26 = some (.iload_n 1, 1) := by decide +kernel
theorem kx_235_27 : x_code k_P 235 27 = some (.putfield 207, 3) := by decide +kernel
theorem kp_235_207 : x_pool k_P 235 207 = (1, 12, 64) := by decide +kernel
theorem kx_235_30 : x_code k_P 235 30 = some (.iload_n 3, 1) := by decide +kernel
theorem kx_235_31 : x_code k_P 235 31 = some (.aload_n 0, 1) := by decide +kernel
theorem kx_235_32 : x_code k_P 235 32 = some (.aload_n 0, 1) := by decide +kernel
theorem kx_235_33 : x_code k_P 235 33 = some (.getfield 87, 3) := by decide +kernel
theorem kx_235_36 : x_code k_P 235 36 = some (.aload_n 0, 1) := by decide +kernel
theorem kx_235_37 : x_code k_P 235 37 = some (.getfield 54, 3) := by decide +kernel
theorem kx_235_40 : x_code k_P 235 40 = some (.iaload, 1) := by decide +kernel
theorem kx_235_41 : x_code k_P 235 41 = some (.aload_n 0, 1) := by decide +kernel
theorem kx_235_42 : x_code k_P 235 42 = some (.getfield 90, 3) := by decide +kernel
theorem kp_235_90 : x_pool k_P 235 90 = (1, 12, 26) := by decide +kernel
theorem kf_12_26 : (x_cls k_P 12)[26]? = some 12 := by decide +kernel
theorem kx_235_45 : x_code k_P 235 45 = some (.aload_n 0, 1) := by decide +kernel
theorem kx_235_46 : x_code k_P 235 46 = some (.getfield 54, 3) := by decide +kernel
theorem kx_235_49 : x_code k_P 235 49 = some (.iaload, 1) := by decide +kernel
theorem kx_235_50 : x_code k_P 235 50 = some (.invokevirtual 477, 3) := by decide +kernel
theorem kp_235_477 : x_pool k_P 235 477 = (2, 233, 2) := by decide +kernel
theorem ki_233 : x_mci k_P 233 = 12 := by decide +kernel
theorem kcl_233 : x_maxL k_P 233 ≤ 60 ∧ 3 ≤ x_maxL k_P 233 := by decide +kernel
theorem kx_235_53 : x_code k_P 235 53 = some (.invokestatic 480, 3) := by decide +kernel
theorem kp_235_480 : x_pool k_P 235 480 = (6, 234, 1) := by decide +kernel
theorem kcl_234 : x_maxL k_P 234 ≤ 60 ∧ 2 ≤ x_maxL k_P 234 := by decide +kernel
theorem kx_235_56 : x_code k_P 235 56 = some (.iadd, 1) := by decide +kernel
theorem kx_235_57 : x_code k_P 235 57 = some (.ireturn, 1) := by decide +kernel
theorem kq_235 : x_retk k_P 235 = 1 := by decide +kernel
theorem kx_235_13 : x_code k_P 235 13 = some (.iload_n 3, 1) := by decide +kernel
theorem kx_235_14 : x_code k_P 235 14 = some (.ireturn, 1) := by decide +kernel
def fS_235_m : List (Nat × Nat) := [(102, 99999), (63, 62), (63, 63), (63, 64)]
theorem m_235 {xs : Nat → Int} {Ln d : Nat} {T : List cK} {M : cM} (hT : TT T) (hI : Rng M) {p chair takes : Int} (hS : Sg M) (p0 : 0 ≤ p ∧ p ≤ 7) (p1 : 0 ≤ chair ∧ chair ≤ 7) (p2 : 0 ≤ takes ∧ takes ≤ 60) : cC k_P xs Ln (d + 3) 235 [rf 63, (0, p), (0, chair), (0, takes)] (T, M) (qW T M fS_235_m 0 (fun v M1 => 0 ≤ v ∧ v ≤ 1059 ∧ (takes ≤ v))) := by
  show cP k_P xs Ln (d + 3) 235 0 [(0, rf 63), (1, (0, p)), (2, (0, chair)), (3, (0, takes))] [] (T, M) _
  have hFm : Fr fS_235_m M M := Fr.refl
  refine s_aload_n kx_235_0 rfl ?_
  refine r_getR (k := 63) (f := 25) (k2 := 75) kx_235_1 kp_235_87 (tk_63 hT) kf_12_25 (by decide) (rq_63_25 hI) ?_
  refine s_aload_n kx_235_4 rfl ?_
  refine r_getI (k := 63) (f := 14) kx_235_5 kp_235_54 (tk_63 hT) kf_12_14 (fun _ => rfl) (rg_63_14 hI) (fun v1 v1e v1a v1b => ?_)
  refine r_ald (k := 75) kx_235_8 (tk_75 hT) ⟨by omega, by omega⟩ (rg_75 hI) (fun v2 v2e v2a v2b => ?_)
  refine s_iconst (v := (-1)) kx_235_9 (by decide) ?_
  refine s_icmp_ne (t := 15) kx_235_10 (by decide) (fun hc3 => ?_) (fun hc3 => ?_)
  · refine s_aload_n kx_235_15 rfl ?_
    refine s_iload_n kx_235_16 rfl ?_
    refine r_put (k := 63) (f := 62) kx_235_17 kp_235_201 (tk_63 hT) kf_12_62 rfl (by decide) (by decide) hI ru_63_62 (fun M4 hI4 u4 => ?_)
    have hFm4 := hFm.up u4 rfl
    refine s_aload_n kx_235_20 rfl ?_
    refine s_iload_n kx_235_21 rfl ?_
    refine r_put (k := 63) (f := 63) kx_235_22 kp_235_204 (tk_63 hT) kf_12_63 rfl (by decide) (by decide) hI4 (ru_63_63 (by omega) (by omega)) (fun M5 hI5 u5 => ?_)
    have hFm5 := hFm4.up u5 rfl
    refine s_aload_n kx_235_25 rfl ?_
    refine s_iload_n kx_235_26 rfl ?_
    refine r_put (k := 63) (f := 64) kx_235_27 kp_235_207 (tk_63 hT) kf_12_64 rfl (by decide) (by decide) hI5 (ru_63_64 (by omega) (by omega)) (fun M6 hI6 u6 => ?_)
    have hFm6 := hFm5.up u6 rfl
    refine s_iload_n kx_235_30 rfl ?_
    refine s_aload_n kx_235_31 rfl ?_
    refine s_aload_n kx_235_32 rfl ?_
    refine r_getR (k := 63) (f := 25) (k2 := 75) kx_235_33 kp_235_87 (tk_63 hT) kf_12_25 (by decide) (rq_63_25 hI6) ?_
    refine s_aload_n kx_235_36 rfl ?_
    refine r_getK (k := 63) (f := 14) kx_235_37 kp_235_54 (tk_63 hT) kf_12_14 (fun _ => rfl) ((u6.2 63 14 (by omega)).trans ((u5.2 63 14 (by omega)).trans ((u4.2 63 14 (by omega)).trans v1e))) ?_
    refine r_aldK (k := 75) kx_235_40 (tk_75 hT) ⟨by omega, by omega⟩ ((u6.2 75 _ (by omega)).trans ((u5.2 75 _ (by omega)).trans ((u4.2 75 _ (by omega)).trans v2e))) ?_
    refine s_aload_n kx_235_41 rfl ?_
    refine r_getR (k := 63) (f := 26) (k2 := 76) kx_235_42 kp_235_90 (tk_63 hT) kf_12_26 (by decide) (rq_63_26 hI6) ?_
    refine s_aload_n kx_235_45 rfl ?_
    refine r_getK (k := 63) (f := 14) kx_235_46 kp_235_54 (tk_63 hT) kf_12_14 (fun _ => rfl) ((u6.2 63 14 (by omega)).trans ((u5.2 63 14 (by omega)).trans ((u4.2 63 14 (by omega)).trans v1e))) ?_
    refine r_ald (k := 76) kx_235_49 (tk_76 hT) ⟨by omega, by omega⟩ (rg_76 hI6) (fun v7 v7e v7a v7b => ?_)
    have hq8 := Sg.slow (hS.fr hFm6 rfl) ((u6.2 63 14 (by omega)).trans ((u5.2 63 14 (by omega)).trans ((u4.2 63 14 (by omega)).trans v1e))) ((u6.2 75 _ (by omega)).trans ((u5.2 75 _ (by omega)).trans ((u4.2 75 _ (by omega)).trans v2e))) v7e (by omega)
    refine s_callV2 (k := 63) (s1 := 3) (s2 := 1) (as := [(0, v7), (0, v2)]) (rest := [(0, takes)]) kx_235_50 kp_235_477 (Or.inl rfl) rfl (tk_63 hT) ki_233 kcl_233 rfl rfl (by decide) (m_233 (d := d) (from_ := v2) (behind := v7) hT hI6 (by omega) (by omega) (by omega) hq8.2.2.2) (kW (fun v9 M10 hI10 fr10 v9p => ?_))
    have hFm10 := hFm6.call fr10 rfl
    refine s_callS2 (s1 := 2) (s2 := 1) (as := [(1, v9)]) (rest := [(0, takes)]) kx_235_53 kp_235_480 rfl kcl_234 rfl rfl (by decide) (m_234 (d := d + 2) (v_ := v9) hT hI10) (kF (fun v11 v11p => ?_))
    refine r_add kx_235_56 ⟨by omega, by omega⟩ ?_
    exact s_iret kx_235_57 (Or.inl kq_235) ⟨_, _, rfl, rfl, hI10, hFm10, (by omega)⟩
  · refine s_iload_n kx_235_13 rfl ?_
    exact s_iret kx_235_14 (Or.inl kq_235) ⟨_, _, rfl, rfl, hI, hFm, (by omega)⟩
theorem kx_236_0 : x_code k_P 236 0 = some (.aload_n 0, 1) := by decide +kernel
theorem kx_236_1 : x_code k_P 236 1 = some (.getfield 93, 3) := by decide +kernel
theorem kp_236_93 : x_pool k_P 236 93 = (1, 12, 27) := by decide +kernel
theorem kf_12_27 : (x_cls k_P 12)[27]? = some 12 := by decide +kernel
theorem kx_236_4 : x_code k_P 236 4 = some (.aload_n 0, 1) := by decide +kernel
theorem kx_236_5 : x_code k_P 236 5 = some (.getfield 54, 3) := by decide +kernel
theorem kp_236_54 : x_pool k_P 236 54 = (1, 12, 14) := by decide +kernel
theorem kx_236_8 : x_code k_P 236 8 = some (.iaload, 1) := by decide +kernel
theorem kx_236_9 : x_code k_P 236 9 = some (.iconst (-1), 1) := by decide +kernel
theorem kx_236_10 : x_code k_P 236 10 = some (.if_icmp .ne 5, 3) := by decide +kernel
theorem kx_236_15 : x_code k_P 236 15 = some (.aload_n 0, 1) := by decide +kernel
theorem kx_236_16 : x_code k_P 236 16 = some (.iload_n 2, 1) := by decide +kernel
theorem kx_236_17 : x_code k_P 236 17 = some (.putfield 201, 3) := by decide +kernel
theorem kp_236_201 : x_pool k_P 236 201 = (1, 12, 62) := by decide +kernel
theorem kx_236_20 : x_code k_P 236 20 = some (.aload_n 0, 1) := by decide +kernel
theorem kx_236_21 : x_code k_P 236 21 = some (.iload_n 1, 1) := by decide +kernel
theorem kx_236_22 : x_code k_P 236 22 = some (.putfield 204, 3) := by decide +kernel
theorem kp_236_204 : x_pool k_P 236 204 = (1, 12, 63) := by decide +kernel
theorem kx_236_25 : x_code k_P 236 25 = some (.aload_n 0, 1) := by decide +kernel
theorem kx_236_26 : x_code k_P 236 26 = some (.iload_n 1, 1) := by decide +kernel
theorem kx_236_27 : x_code k_P 236 27 = some (.putfield 207, 3) := by decide +kernel
theorem kp_236_207 : x_pool k_P 236 207 = (1, 12, 64) := by decide +kernel
theorem kx_236_30 : x_code k_P 236 30 = some (.aload_n 0, 1) := by decide +kernel
theorem kx_236_31 : x_code k_P 236 31 = some (.aload_n 0, 1) := by decide +kernel
theorem kx_236_32 : x_code k_P 236 32 = some (.getfield 93, 3) := by decide +kernel
theorem kx_236_35 : x_code k_P 236 35 = some (.aload_n 0, 1) := by decide +kernel
theorem kx_236_36 : x_code k_P 236 36 = some (.getfield 54, 3) := by decide +kernel
theorem kx_236_39 : x_code k_P 236 39 = some (.iaload, 1) := by decide +kernel
theorem kx_236_40 : x_code k_P 236 40 = some (.aload_n 0, 1) := by decide +kernel
theorem kx_236_41 : x_code k_P 236 41 = some (.getfield 96, 3) := by decide +kernel
theorem kp_236_96 : x_pool k_P 236 96 = (1, 12, 28) := by decide +kernel
theorem kf_12_28 : (x_cls k_P 12)[28]? = some 12 := by decide +kernel
theorem kx_236_44 : x_code k_P 236 44 = some (.aload_n 0, 1) := by decide +kernel
theorem kx_236_45 : x_code k_P 236 45 = some (.getfield 54, 3) := by decide +kernel
theorem kx_236_48 : x_code k_P 236 48 = some (.iaload, 1) := by decide +kernel
theorem kx_236_49 : x_code k_P 236 49 = some (.invokevirtual 477, 3) := by decide +kernel
theorem kp_236_477 : x_pool k_P 236 477 = (2, 233, 2) := by decide +kernel
theorem kx_236_52 : x_code k_P 236 52 = some (.invokestatic 480, 3) := by decide +kernel
theorem kp_236_480 : x_pool k_P 236 480 = (6, 234, 1) := by decide +kernel
theorem kx_236_55 : x_code k_P 236 55 = some (.ireturn, 1) := by decide +kernel
theorem kq_236 : x_retk k_P 236 = 1 := by decide +kernel
theorem kx_236_13 : x_code k_P 236 13 = some (.iload_n 2, 1) := by decide +kernel
theorem kx_236_14 : x_code k_P 236 14 = some (.ireturn, 1) := by decide +kernel
def fS_236_m : List (Nat × Nat) := [(102, 99999), (63, 62), (63, 63), (63, 64)]
theorem m_236 {xs : Nat → Int} {Ln d : Nat} {T : List cK} {M : cM} (hT : TT T) (hI : Rng M) {p n : Int} (hS : Sg M) (p0 : 0 ≤ p ∧ p ≤ 7) : cC k_P xs Ln (d + 3) 236 [rf 63, (0, p), (0, n)] (T, M) (qW T M fS_236_m 0 (fun v M1 => True)) := by
  show cP k_P xs Ln (d + 3) 236 0 [(0, rf 63), (1, (0, p)), (2, (0, n))] [] (T, M) _
  have hFm : Fr fS_236_m M M := Fr.refl
  refine s_aload_n kx_236_0 rfl ?_
  refine r_getR (k := 63) (f := 27) (k2 := 77) kx_236_1 kp_236_93 (tk_63 hT) kf_12_27 (by decide) (rq_63_27 hI) ?_
  refine s_aload_n kx_236_4 rfl ?_
  refine r_getI (k := 63) (f := 14) kx_236_5 kp_236_54 (tk_63 hT) kf_12_14 (fun _ => rfl) (rg_63_14 hI) (fun v1 v1e v1a v1b => ?_)
  refine r_ald (k := 77) kx_236_8 (tk_77 hT) ⟨by omega, by omega⟩ (rg_77 hI) (fun v2 v2e v2a v2b => ?_)
  refine s_iconst (v := (-1)) kx_236_9 (by decide) ?_
  refine s_icmp_ne (t := 15) kx_236_10 (by decide) (fun hc3 => ?_) (fun hc3 => ?_)
  · refine s_aload_n kx_236_15 rfl ?_
    refine s_iload_n kx_236_16 rfl ?_
    refine r_put (k := 63) (f := 62) kx_236_17 kp_236_201 (tk_63 hT) kf_12_62 rfl (by decide) (by decide) hI ru_63_62 (fun M4 hI4 u4 => ?_)
    have hFm4 := hFm.up u4 rfl
    refine s_aload_n kx_236_20 rfl ?_
    refine s_iload_n kx_236_21 rfl ?_
    refine r_put (k := 63) (f := 63) kx_236_22 kp_236_204 (tk_63 hT) kf_12_63 rfl (by decide) (by decide) hI4 (ru_63_63 (by omega) (by omega)) (fun M5 hI5 u5 => ?_)
    have hFm5 := hFm4.up u5 rfl
    refine s_aload_n kx_236_25 rfl ?_
    refine s_iload_n kx_236_26 rfl ?_
    refine r_put (k := 63) (f := 64) kx_236_27 kp_236_207 (tk_63 hT) kf_12_64 rfl (by decide) (by decide) hI5 (ru_63_64 (by omega) (by omega)) (fun M6 hI6 u6 => ?_)
    have hFm6 := hFm5.up u6 rfl
    refine s_aload_n kx_236_30 rfl ?_
    refine s_aload_n kx_236_31 rfl ?_
    refine r_getR (k := 63) (f := 27) (k2 := 77) kx_236_32 kp_236_93 (tk_63 hT) kf_12_27 (by decide) (rq_63_27 hI6) ?_
    refine s_aload_n kx_236_35 rfl ?_
    refine r_getK (k := 63) (f := 14) kx_236_36 kp_236_54 (tk_63 hT) kf_12_14 (fun _ => rfl) ((u6.2 63 14 (by omega)).trans ((u5.2 63 14 (by omega)).trans ((u4.2 63 14 (by omega)).trans v1e))) ?_
    refine r_aldK (k := 77) kx_236_39 (tk_77 hT) ⟨by omega, by omega⟩ ((u6.2 77 _ (by omega)).trans ((u5.2 77 _ (by omega)).trans ((u4.2 77 _ (by omega)).trans v2e))) ?_
    refine s_aload_n kx_236_40 rfl ?_
    refine r_getR (k := 63) (f := 28) (k2 := 78) kx_236_41 kp_236_96 (tk_63 hT) kf_12_28 (by decide) (rq_63_28 hI6) ?_
    refine s_aload_n kx_236_44 rfl ?_
    refine r_getK (k := 63) (f := 14) kx_236_45 kp_236_54 (tk_63 hT) kf_12_14 (fun _ => rfl) ((u6.2 63 14 (by omega)).trans ((u5.2 63 14 (by omega)).trans ((u4.2 63 14 (by omega)).trans v1e))) ?_
    refine r_ald (k := 78) kx_236_48 (tk_78 hT) ⟨by omega, by omega⟩ (rg_78 hI6) (fun v7 v7e v7a v7b => ?_)
    have hq8 := Sg.stands (hS.fr hFm6 rfl) ((u6.2 63 14 (by omega)).trans ((u5.2 63 14 (by omega)).trans ((u4.2 63 14 (by omega)).trans v1e))) ((u6.2 77 _ (by omega)).trans ((u5.2 77 _ (by omega)).trans ((u4.2 77 _ (by omega)).trans v2e))) v7e (by omega)
    refine s_callV2 (k := 63) (s1 := 3) (s2 := 0) (as := [(0, v7), (0, v2)]) (rest := []) kx_236_49 kp_236_477 (Or.inl rfl) rfl (tk_63 hT) ki_233 kcl_233 rfl rfl (by decide) (m_233 (d := d) (from_ := v2) (behind := v7) hT hI6 (by omega) (by omega) (by omega) hq8.2.2.2) (kW (fun v9 M10 hI10 fr10 v9p => ?_))
    have hFm10 := hFm6.call fr10 rfl
    refine s_callS2 (s1 := 2) (s2 := 0) (as := [(1, v9)]) (rest := []) kx_236_52 kp_236_480 rfl kcl_234 rfl rfl (by decide) (m_234 (d := d + 2) (v_ := v9) hT hI10) (kF (fun v11 v11p => ?_))
    exact s_iret kx_236_55 (Or.inl kq_236) ⟨_, _, rfl, rfl, hI10, hFm10, trivial⟩
  · refine s_iload_n kx_236_13 rfl ?_
    exact s_iret kx_236_14 (Or.inl kq_236) ⟨_, _, rfl, rfl, hI, hFm, trivial⟩
theorem kx_254_0 : x_code k_P 254 0 = some (.iload_n 3, 1) := by decide +kernel
theorem kx_254_1 : x_code k_P 254 1 = some (.iconst (-1), 1) := by decide +kernel
theorem kx_254_2 : x_code k_P 254 2 = some (.if_icmp .ne 17, 3) := by decide +kernel
theorem kx_254_19 : x_code k_P 254 19 = some (.aload_n 0, 1) := by decide +kernel
theorem kx_254_20 : x_code k_P 254 20 = some (.iload_n 1, 1) := by decide +kernel
theorem kx_254_21 : x_code k_P 254 21 = some (.iload_n 3, 1) := by decide +kernel
theorem kx_254_22 : x_code k_P 254 22 = some (.aload_n 0, 1) := by decide +kernel
theorem kx_254_23 : x_code k_P 254 23 = some (.aload_n 0, 1) := by decide +kernel
theorem kx_254_24 : x_code k_P 254 24 = some (.getfield 159, 3) := by decide +kernel
theorem kp_254_159 : x_pool k_P 254 159 = (1, 12, 48) := by decide +kernel
theorem kx_254_27 : x_code k_P 254 27 = some (.iload_n 1, 1) := by decide +kernel
theorem kx_254_28 : x_code k_P 254 28 = some (.iaload, 1) := by decide +kernel
theorem kx_254_29 : x_code k_P 254 29 = some (.iload_n 2, 1) := by decide +kernel
theorem kx_254_30 : x_code k_P 254 30 = some (.invokevirtual 511, 3) := by decide +kernel
theorem kp_254_511 : x_pool k_P 254 511 = (2, 245, 2) := by decide +kernel
theorem kx_254_33 : x_code k_P 254 33 = some (.invokevirtual 523, 3) := by decide +kernel
theorem kp_254_523 : x_pool k_P 254 523 = (2, 235, 3) := by decide +kernel
theorem ki_235 : x_mci k_P 235 = 12 := by decide +kernel
theorem kcl_235 : x_maxL k_P 235 ≤ 60 ∧ 4 ≤ x_maxL k_P 235 := by decide +kernel
theorem kx_254_36 : x_code k_P 254 36 = some (.ireturn, 1) := by decide +kernel
theorem kq_254 : x_retk k_P 254 = 1 := by decide +kernel
theorem kx_254_5 : x_code k_P 254 5 = some (.aload_n 0, 1) := by decide +kernel
theorem kx_254_6 : x_code k_P 254 6 = some (.aload_n 0, 1) := by decide +kernel
theorem kx_254_7 : x_code k_P 254 7 = some (.getfield 159, 3) := by decide +kernel
theorem kx_254_10 : x_code k_P 254 10 = some (.iload_n 1, 1) := by decide +kernel
theorem kx_254_11 : x_code k_P 254 11 = some (.iaload, 1) := by decide +kernel
theorem kx_254_12 : x_code k_P 254 12 = some (.iload_n 2, 1) := by decide +kernel
theorem kx_254_13 : x_code k_P 254 13 = some (.invokevirtual 511, 3) := by decide +kernel
theorem kx_254_16 : x_code k_P 254 16 = some (.goto 20, 3) := by decide +kernel
def fS_254_m : List (Nat × Nat) := [(102, 99999), (63, 62), (63, 63), (63, 64)]
theorem m_254 {xs : Nat → Int} {Ln d : Nat} {T : List cK} {M : cM} (hT : TT T) (hI : Rng M) {p r c : Int} (hS : Sg M) (p0 : 0 ≤ p ∧ p ≤ 7) (p1 : 0 ≤ r ∧ r ≤ 7) (p2 : (-1) ≤ c ∧ c ≤ 7) : cC k_P xs Ln (d + 4) 254 [rf 63, (0, p), (0, r), (0, c)] (T, M) (qW T M fS_254_m 0 (fun v M1 => 0 ≤ v ∧ v ≤ 1059)) := by
  show cP k_P xs Ln (d + 4) 254 0 [(0, rf 63), (1, (0, p)), (2, (0, r)), (3, (0, c))] [] (T, M) _
  have hFm : Fr fS_254_m M M := Fr.refl
  refine s_iload_n kx_254_0 rfl ?_
  refine s_iconst (v := (-1)) kx_254_1 (by decide) ?_
  refine s_icmp_ne (t := 19) kx_254_2 (by decide) (fun hc1 => ?_) (fun hc1 => ?_)
  · refine s_aload_n kx_254_19 rfl ?_
    refine s_iload_n kx_254_20 rfl ?_
    refine s_iload_n kx_254_21 rfl ?_
    refine s_aload_n kx_254_22 rfl ?_
    refine s_aload_n kx_254_23 rfl ?_
    refine r_getR (k := 63) (f := 48) (k2 := 92) kx_254_24 kp_254_159 (tk_63 hT) kf_12_48 (by decide) (rq_63_48 hI) ?_
    refine s_iload_n kx_254_27 rfl ?_
    refine r_ald (k := 92) kx_254_28 (tk_92 hT) ⟨by omega, by omega⟩ (rg_92 hI (by omega)) (fun v2 v2e v2a v2b => ?_)
    refine s_iload_n kx_254_29 rfl ?_
    refine s_callV2 (k := 63) (s1 := 3) (s2 := 3) (as := [(0, r), (0, v2)]) (rest := [(0, c), (0, p), rf 63]) kx_254_30 kp_254_511 (Or.inl rfl) rfl (tk_63 hT) ki_245 kcl_245 rfl rfl (by decide) (m_245 (d := d + 3) (a := v2) (b := r) hT hI (by omega) (by omega)) (kF (fun v3 v3p => ?_))
    refine s_callV2 (k := 63) (s1 := 4) (s2 := 0) (as := [(0, v3), (0, c), (0, p)]) (rest := []) kx_254_33 kp_254_523 (Or.inl rfl) rfl (tk_63 hT) ki_235 kcl_235 rfl rfl (by decide) (m_235 (d := d) (p := p) (chair := c) (takes := v3) hT hI hS (by omega) (by omega) (by omega)) (kW (fun v4 M5 hI5 fr5 v4p => ?_))
    have hFm5 := hFm.call fr5 rfl
    exact s_iret kx_254_36 (Or.inl kq_254) ⟨_, _, rfl, rfl, hI5, hFm5, (by omega)⟩
  · refine s_aload_n kx_254_5 rfl ?_
    refine s_aload_n kx_254_6 rfl ?_
    refine r_getR (k := 63) (f := 48) (k2 := 92) kx_254_7 kp_254_159 (tk_63 hT) kf_12_48 (by decide) (rq_63_48 hI) ?_
    refine s_iload_n kx_254_10 rfl ?_
    refine r_ald (k := 92) kx_254_11 (tk_92 hT) ⟨by omega, by omega⟩ (rg_92 hI (by omega)) (fun v6 v6e v6a v6b => ?_)
    refine s_iload_n kx_254_12 rfl ?_
    refine s_callV2 (k := 63) (s1 := 3) (s2 := 0) (as := [(0, r), (0, v6)]) (rest := []) kx_254_13 kp_254_511 (Or.inl rfl) rfl (tk_63 hT) ki_245 kcl_245 rfl rfl (by decide) (m_245 (d := d + 3) (a := v6) (b := r) hT hI (by omega) (by omega)) (kF (fun v7 v7p => ?_))
    refine s_goto (t := 36) kx_254_16 (by decide) ?_
    exact s_iret kx_254_36 (Or.inl kq_254) ⟨_, _, rfl, rfl, hI, hFm, (by omega)⟩
theorem kx_255_0 : x_code k_P 255 0 = some (.aload_n 0, 1) := by decide +kernel
theorem kx_255_1 : x_code k_P 255 1 = some (.iload_n 1, 1) := by decide +kernel
theorem kx_255_2 : x_code k_P 255 2 = some (.iload_n 2, 1) := by decide +kernel
theorem kx_255_3 : x_code k_P 255 3 = some (.iload_n 3, 1) := by decide +kernel
theorem kx_255_4 : x_code k_P 255 4 = some (.invokevirtual 527, 3) := by decide +kernel
theorem kp_255_527 : x_pool k_P 255 527 = (2, 253, 3) := by decide +kernel
theorem ki_253 : x_mci k_P 253 = 12 := by decide +kernel
theorem kcl_253 : x_maxL k_P 253 ≤ 60 ∧ 4 ≤ x_maxL k_P 253 := by decide +kernel
theorem kx_255_7 : x_code k_P 255 7 = some (.ifCond .eq 13, 3) := by decide +kernel
theorem kx_255_20 : x_code k_P 255 20 = some (.iconst (-1), 1) := by decide +kernel
theorem kx_255_21 : x_code k_P 255 21 = some (.ireturn, 1) := by decide +kernel
theorem kq_255 : x_retk k_P 255 = 1 := by decide +kernel
theorem kx_255_10 : x_code k_P 255 10 = some (.aload_n 0, 1) := by decide +kernel
theorem kx_255_11 : x_code k_P 255 11 = some (.iload_n 1, 1) := by decide +kernel
theorem kx_255_12 : x_code k_P 255 12 = some (.iload_n 2, 1) := by decide +kernel
theorem kx_255_13 : x_code k_P 255 13 = some (.iload_n 3, 1) := by decide +kernel
theorem kx_255_14 : x_code k_P 255 14 = some (.invokevirtual 530, 3) := by decide +kernel
theorem kp_255_530 : x_pool k_P 255 530 = (2, 254, 3) := by decide +kernel
theorem ki_254 : x_mci k_P 254 = 12 := by decide +kernel
theorem kcl_254 : x_maxL k_P 254 ≤ 60 ∧ 4 ≤ x_maxL k_P 254 := by decide +kernel
theorem kx_255_17 : x_code k_P 255 17 = some (.goto 4, 3) := by decide +kernel
def fS_255_m : List (Nat × Nat) := [(102, 99999), (63, 62), (63, 63), (63, 64)]
theorem m_255 {xs : Nat → Int} {Ln d : Nat} {T : List cK} {M : cM} (hT : TT T) (hI : Rng M) {p r c : Int} (hS : Sg M) : cC k_P xs Ln (d + 6) 255 [rf 63, (0, p), (0, r), (0, c)] (T, M) (qW T M fS_255_m 0 (fun v M1 => True)) := by
  show cP k_P xs Ln (d + 6) 255 0 [(0, rf 63), (1, (0, p)), (2, (0, r)), (3, (0, c))] [] (T, M) _
  have hFm : Fr fS_255_m M M := Fr.refl
  refine s_aload_n kx_255_0 rfl ?_
  refine s_iload_n kx_255_1 rfl ?_
  refine s_iload_n kx_255_2 rfl ?_
  refine s_iload_n kx_255_3 rfl ?_
  refine s_callV2 (k := 63) (s1 := 4) (s2 := 0) (as := [(0, c), (0, r), (0, p)]) (rest := []) kx_255_4 kp_255_527 (Or.inl rfl) rfl (tk_63 hT) ki_253 kcl_253 rfl rfl (by decide) (m_253 (d := d) (p := p) (r := r) (c := c) hT hI) (kF (fun v1 v1p => ?_))
  refine s_if_eq (t := 20) kx_255_7 (by decide) (fun hc2 => ?_) (fun hc2 => ?_)
  · replace v1p := v1p.resolve_left (by omega)
    refine s_iconst (v := (-1)) kx_255_20 (by decide) ?_
    exact s_iret kx_255_21 (Or.inl kq_255) ⟨_, _, rfl, rfl, hI, hFm, trivial⟩
  · replace v1p := v1p.resolve_right (by omega)
    refine s_aload_n kx_255_10 rfl ?_
    refine s_iload_n kx_255_11 rfl ?_
    refine s_iload_n kx_255_12 rfl ?_
    refine s_iload_n kx_255_13 rfl ?_
    refine s_callV2 (k := 63) (s1 := 4) (s2 := 0) (as := [(0, c), (0, r), (0, p)]) (rest := []) kx_255_14 kp_255_530 (Or.inl rfl) rfl (tk_63 hT) ki_254 kcl_254 rfl rfl (by decide) (m_254 (d := d + 1) (p := p) (r := r) (c := c) hT hI hS (by omega) (by omega) (by omega)) (kW (fun v3 M4 hI4 fr4 v3p => ?_))
    have hFm4 := hFm.call fr4 rfl
    refine s_goto (t := 21) kx_255_17 (by decide) ?_
    exact s_iret kx_255_21 (Or.inl kq_255) ⟨_, _, rfl, rfl, hI4, hFm4, trivial⟩
