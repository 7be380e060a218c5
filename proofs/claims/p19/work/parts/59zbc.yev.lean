/-! sums worked out by the reference: what is given -/
def GvY (M : cM) (g : Int → Int) : Prop := g (-1) = M 63 62 ∧ g (-2) = M 71 (8 * M 63 14 + M 63 63).toNat ∧ g (-3) = M 70 (8 * M 63 14 + M 63 64).toNat ∧ g (-4) = M 72 (8 * M 63 14 + M 63 63).toNat ∧ g (-5) = M 95 (M 63 64).toNat ∧ g (-6) = if M 63 64 = M 63 63 then 1 else 0
def gvf (S : List (Nat × Nat)) : Bool := (!c_in S 63 62 && !c_in S 63 14 && !c_in S 63 63 && !c_in S 63 64) && S.all fun p => p.1 != 70 && p.1 != 71 && p.1 != 72 && p.1 != 95
theorem GvY.fr {S : List (Nat × Nat)} {M M1 : cM} {g : Int → Int} (h : GvY M g) (q : Fr S M M1) (hs : gvf S = true) : GvY M1 g := by
  unfold gvf at hs
  simp only [Bool.and_eq_true] at hs
  obtain ⟨⟨⟨⟨h1, h2⟩, h3⟩, h4⟩, h5⟩ := hs
  have hm : ∀ p ∈ S, p.1 ≠ 70 ∧ p.1 ≠ 71 ∧ p.1 ≠ 72 ∧ p.1 ≠ 95 := fun p hp => by
    have := List.all_eq_true.mp h5 p hp
    simp at this
    omega
  have e : ∀ c, c = 70 ∨ c = 71 ∨ c = 72 ∨ c = 95 → ∀ f, M1 c f = M c f := fun c hc f => q c f (nin (by omega) (List.all_eq_true.mpr fun p hp => by have := hm p hp; simp; omega) f)
  unfold GvY
  rw [q 63 62 (by simpa using h1), q 63 14 (by simpa using h2), q 63 63 (by simpa using h3), q 63 64 (by simpa using h4), e 70 (by omega), e 71 (by omega), e 72 (by omega), e 95 (by omega)]
  exact h
theorem GvY.up {M M1 : cM} {g : Int → Int} {k f : Nat} {v : Int} (h : GvY M g) (u : Up M k f v M1) (hk : k ≠ 63 ∧ k ≠ 70 ∧ k ≠ 71 ∧ k ≠ 72 ∧ k ≠ 95) : GvY M1 g := by
  unfold GvY
  rw [u.2 63 62 (by omega), u.2 63 14 (by omega), u.2 63 63 (by omega), u.2 63 64 (by omega), u.2 71 _ (by omega), u.2 70 _ (by omega), u.2 72 _ (by omega), u.2 95 _ (by omega)]
  exact h
section RNUM
variable {a b sort v c_ : Int}
theorem pLm_id (h : pBd a) : pLm a = a := by
  unfold pBd at h
  unfold pLm
  rw [if_neg (by omega), if_neg (by omega)]
theorem pLm_rm (ha : pBd a) (hb : pBd b) (h0 : b ≠ 0) : pLm (a - b * pFl a b) = pRm a b := by
  rw [← (rm_C ha hb h0 rfl).2.2]
  exact pLm_id (pRm_b hb)
theorem pFl_z : pFl a 0 = 0 := rfl
theorem pFl_b (ha : pBd a) (hb : pBd b) : pBd (pFl a b) := by
  by_cases h : b = 0
  · subst h
    rw [pFl_z]
    exact ⟨by decide, by decide⟩
  · exact (tdv_b ha h).2.1
theorem pFl_m (ha : pBd a) (hb : pBd b) : -3000000 ≤ b * pFl a b ∧ b * pFl a b ≤ 3000000 := by
  by_cases h : b = 0
  · subst h
    rw [Int.zero_mul]
    omega
  · have h1 := (rm_C ha hb h rfl).2.2
    have h2 := pRm_b (a := a) hb
    unfold pBd at ha hb h2
    omega
theorem kdc.cc (h : kdc c_ sort v) : (sort ≤ 9 → -6 ≤ c_) ∧ (10 ≤ sort → c_ = 3 - sort ∧ sort ≤ 23) ∧ 0 ≤ sort := by
  unfold kdc at h
  omega
end RNUM
section EVY
variable {lim i_ j top c : Int} {g : Int → Int} {cs : List Int} {M M1 : cM} {k : Nat}
theorem EvI.ix (h : EvI lim g cs i_ top M k) (e : i_ = j) : EvI lim g cs j top M k := e ▸ h
theorem EvI.par (h : EvI lim g cs i_ top M k) (hX : pXr lim g cs [] ≠ none) (hg : pBg g) (hi : 0 ≤ i_ ∧ i_ < (cs.length : Int)) (hc : cs.getD i_.toNat 0 = c) (h0 : -6 ≤ c) {f : Nat} {v t' : Int} (u : Up M k f v M1) (hf : f = top.toNat) (hv : v = if 0 ≤ c then c else g c) (ht : t' = top + 1) : EvI lim g cs (i_ + 1) t' M1 k := by
  by_cases z : 0 ≤ c
  · rw [if_pos z] at hv
    exact h.num hX hg hi hc z u hf hv ht
  · rw [if_neg z] at hv
    exact h.giv hX hg hi hc ⟨h0, by omega⟩ u hf hv ht
end EVY
theorem g_229 {xs : Nat → Int} {Ln d : Nat} {T : List cK} {M : cM} (hT : TT T) (hI : Rng M) {sort v_ : Int} {c : Int} {g : Int → Int} (hk : kdc c sort v_) (hgv : GvY M g) (p0 : 0 ≤ sort ∧ sort ≤ 9) : cC k_P xs Ln (d + 0) 229 [rf 63, (0, sort), (0, v_)] (T, M) (qF T M 1 (fun v => v = if 0 ≤ c then c else g c)) := by
  show cP k_P xs Ln (d + 0) 229 0 [(0, rf 63), (1, (0, sort)), (2, (0, v_))] [] (T, M) _
  refine s_iload_n kx_229_0 rfl ?_
  rcases (by omega : sort = 0 ∨ sort = 1 ∨ sort = 2 ∨ sort = 3 ∨ sort = 4 ∨ sort = 5 ∨ sort = 6 ∨ (sort < 0 ∨ 6 < sort)) with hs1 | hs1 | hs1 | hs1 | hs1 | hs1 | hs1 | hs1
  · refine s_tsw (t := 44) kx_229_1 (by decide) 0 hs1 (by decide) ?_
    refine s_iload_n kx_229_44 rfl ?_
    refine s_i2l kx_229_45 ?_
    exact s_lret kx_229_46 kq_229 ⟨_, rfl, rfl, (by have hkc := hk; unfold kdc at hkc; rw [if_pos (by omega)]; omega)⟩
  · refine s_tsw (t := 47) kx_229_1 (by decide) 1 hs1 (by decide) ?_
    refine s_aload_n kx_229_47 rfl ?_
    refine r_getU (k := 63) (f := 62) kx_229_48 kp_229_201 (tk_63 hT) kf_12_62 (fun _ => rfl) (fun v2 v2e => ?_)
    refine s_i2l kx_229_51 ?_
    exact s_lret kx_229_52 kq_229 ⟨_, rfl, rfl, (by have hkc := hk; unfold kdc at hkc; have hc : c = -1 := (by omega); rw [if_neg (by omega), hc, hgv.1]; omega)⟩
  · refine s_tsw (t := 53) kx_229_1 (by decide) 2 hs1 (by decide) ?_
    refine s_aload_n kx_229_53 rfl ?_
    refine r_getR (k := 63) (f := 21) (k2 := 71) kx_229_54 kp_229_75 (tk_63 hT) kf_12_21 (by decide) (rq_63_21 hI) ?_
    refine s_bipush (v := 8) kx_229_57 (by decide) ?_
    refine s_aload_n kx_229_59 rfl ?_
    refine r_getI (k := 63) (f := 14) kx_229_60 kp_229_54 (tk_63 hT) kf_12_14 (fun _ => rfl) (rg_63_14 hI) (fun v3 v3e v3a v3b => ?_)
    refine r_mul kx_229_63 ⟨by omega, by omega⟩ ?_
    refine s_aload_n kx_229_64 rfl ?_
    refine r_getI (k := 63) (f := 63) kx_229_65 kp_229_204 (tk_63 hT) kf_12_63 (fun _ => rfl) (rg_63_63 hI) (fun v4 v4e v4a v4b => ?_)
    refine r_add kx_229_68 ⟨by omega, by omega⟩ ?_
    refine r_aldU (k := 71) kx_229_69 (tk_71 hT) ⟨by omega, by omega⟩ (fun v5 v5e => ?_)
    refine s_i2l kx_229_70 ?_
    exact s_lret kx_229_71 kq_229 ⟨_, rfl, rfl, (by have hkc := hk; unfold kdc at hkc; have hc : c = -2 := (by omega); rw [if_neg (by omega), hc, hgv.2.1]; exact v5e.symm.trans (congrArg (M 71) (by omega)))⟩
  · refine s_tsw (t := 72) kx_229_1 (by decide) 3 hs1 (by decide) ?_
    refine s_aload_n kx_229_72 rfl ?_
    refine r_getR (k := 63) (f := 20) (k2 := 70) kx_229_73 kp_229_72 (tk_63 hT) kf_12_20 (by decide) (rq_63_20 hI) ?_
    refine s_bipush (v := 8) kx_229_76 (by decide) ?_
    refine s_aload_n kx_229_78 rfl ?_
    refine r_getI (k := 63) (f := 14) kx_229_79 kp_229_54 (tk_63 hT) kf_12_14 (fun _ => rfl) (rg_63_14 hI) (fun v6 v6e v6a v6b => ?_)
    refine r_mul kx_229_82 ⟨by omega, by omega⟩ ?_
    refine s_aload_n kx_229_83 rfl ?_
    refine r_getI (k := 63) (f := 64) kx_229_84 kp_229_207 (tk_63 hT) kf_12_64 (fun _ => rfl) (rg_63_64 hI) (fun v7 v7e v7a v7b => ?_)
    refine r_add kx_229_87 ⟨by omega, by omega⟩ ?_
    refine r_aldU (k := 70) kx_229_88 (tk_70 hT) ⟨by omega, by omega⟩ (fun v8 v8e => ?_)
    refine s_i2l kx_229_89 ?_
    exact s_lret kx_229_90 kq_229 ⟨_, rfl, rfl, (by have hkc := hk; unfold kdc at hkc; have hc : c = -3 := (by omega); rw [if_neg (by omega), hc, hgv.2.2.1]; exact v8e.symm.trans (congrArg (M 70) (by omega)))⟩
  · refine s_tsw (t := 91) kx_229_1 (by decide) 4 hs1 (by decide) ?_
    refine s_aload_n kx_229_91 rfl ?_
    refine r_getR (k := 63) (f := 22) (k2 := 72) kx_229_92 kp_229_78 (tk_63 hT) kf_12_22 (by decide) (rq_63_22 hI) ?_
    refine s_bipush (v := 8) kx_229_95 (by decide) ?_
    refine s_aload_n kx_229_97 rfl ?_
    refine r_getI (k := 63) (f := 14) kx_229_98 kp_229_54 (tk_63 hT) kf_12_14 (fun _ => rfl) (rg_63_14 hI) (fun v9 v9e v9a v9b => ?_)
    refine r_mul kx_229_101 ⟨by omega, by omega⟩ ?_
    refine s_aload_n kx_229_102 rfl ?_
    refine r_getI (k := 63) (f := 63) kx_229_103 kp_229_204 (tk_63 hT) kf_12_63 (fun _ => rfl) (rg_63_63 hI) (fun v10 v10e v10a v10b => ?_)
    refine r_add kx_229_106 ⟨by omega, by omega⟩ ?_
    refine r_aldU (k := 72) kx_229_107 (tk_72 hT) ⟨by omega, by omega⟩ (fun v11 v11e => ?_)
    refine s_i2l kx_229_108 ?_
    exact s_lret kx_229_109 kq_229 ⟨_, rfl, rfl, (by have hkc := hk; unfold kdc at hkc; have hc : c = -4 := (by omega); rw [if_neg (by omega), hc, hgv.2.2.2.1]; exact v11e.symm.trans (congrArg (M 72) (by omega)))⟩
  · refine s_tsw (t := 110) kx_229_1 (by decide) 5 hs1 (by decide) ?_
    refine s_aload_n kx_229_110 rfl ?_
    refine r_getR (k := 63) (f := 51) (k2 := 95) kx_229_111 kp_229_168 (tk_63 hT) kf_12_51 (by decide) (rq_63_51 hI) ?_
    refine s_aload_n kx_229_114 rfl ?_
    refine r_getI (k := 63) (f := 64) kx_229_115 kp_229_207 (tk_63 hT) kf_12_64 (fun _ => rfl) (rg_63_64 hI) (fun v12 v12e v12a v12b => ?_)
    refine r_aldU (k := 95) kx_229_118 (tk_95 hT) ⟨by omega, by omega⟩ (fun v13 v13e => ?_)
    refine s_i2l kx_229_119 ?_
    exact s_lret kx_229_120 kq_229 ⟨_, rfl, rfl, (by have hkc := hk; unfold kdc at hkc; have hc : c = -5 := (by omega); rw [if_neg (by omega), hc, hgv.2.2.2.2.1]; exact v13e.symm.trans (congrArg (M 95) (by omega)))⟩
  · refine s_tsw (t := 121) kx_229_1 (by decide) 6 hs1 (by decide) ?_
    refine s_aload_n kx_229_121 rfl ?_
    refine r_getI (k := 63) (f := 64) kx_229_122 kp_229_207 (tk_63 hT) kf_12_64 (fun _ => rfl) (rg_63_64 hI) (fun v14 v14e v14a v14b => ?_)
    refine s_aload_n kx_229_125 rfl ?_
    refine r_getI (k := 63) (f := 63) kx_229_126 kp_229_204 (tk_63 hT) kf_12_63 (fun _ => rfl) (rg_63_63 hI) (fun v15 v15e v15a v15b => ?_)
    refine s_icmp_ne (t := 136) kx_229_129 (by decide) (fun hc16 => ?_) (fun hc16 => ?_)
    · refine s_lconst (v := 0) kx_229_136 (by decide) ?_
      exact s_lret kx_229_137 kq_229 ⟨_, rfl, rfl, (by have hkc := hk; unfold kdc at hkc; have hc : c = -6 := (by omega); rw [if_neg (by omega), hc, hgv.2.2.2.2.2]; first | (rw [if_pos (by omega)]) | (rw [if_neg (by omega)]))⟩
    · refine s_lconst (v := 1) kx_229_132 (by decide) ?_
      refine s_goto (t := 137) kx_229_133 (by decide) ?_
      exact s_lret kx_229_137 kq_229 ⟨_, rfl, rfl, (by have hkc := hk; unfold kdc at hkc; have hc : c = -6 := (by omega); rw [if_neg (by omega), hc, hgv.2.2.2.2.2]; first | (rw [if_pos (by omega)]) | (rw [if_neg (by omega)]))⟩
  · refine s_tswD (t := 138) kx_229_1 (by decide) hs1 (by decide) ?_
    refine s_lconst (v := 1) kx_229_138 (by decide) ?_
    exact s_lret kx_229_139 kq_229 ⟨_, rfl, rfl, (by have hkc := hk; unfold kdc at hkc; rw [if_pos (by omega)]; omega)⟩
theorem g_230 {xs : Nat → Int} {Ln d : Nat} {T : List cK} {M : cM} (hT : TT T) (hI : Rng M) {v_ : Int} (p0 : (-9223372036854775808) ≤ v_ ∧ v_ ≤ 9223372036854775807) : cC k_P xs Ln (d + 0) 230 [(1, v_)] (T, M) (qF T M 1 (fun v => v = pLm v_)) := by
  show cP k_P xs Ln (d + 0) 230 0 [(0, (1, v_))] [] (T, M) _
  refine s_lload_n kx_230_0 rfl ?_
  refine s_ldc2_w kx_230_1 kp_230_455 ?_
  refine r_lcmpE kx_230_4 ⟨by omega, by omega⟩ ⟨by omega, by omega⟩ (fun v1 v1p => ?_)
  refine s_if_le (t := 14) kx_230_5 (by decide) (fun hc2 => ?_) (fun hc2 => ?_)
  · refine s_lload_n kx_230_14 rfl ?_
    refine s_ldc2_w kx_230_15 kp_230_457 ?_
    refine r_lcmpE kx_230_18 ⟨by omega, by omega⟩ ⟨by omega, by omega⟩ (fun v3 v3p => ?_)
    refine s_if_ge (t := 28) kx_230_19 (by decide) (fun hc4 => ?_) (fun hc4 => ?_)
    · refine s_lload_n kx_230_28 rfl ?_
      exact s_lret kx_230_29 kq_230 ⟨_, rfl, rfl, (by unfold pLm; (repeat' split) <;> omega)⟩
    · refine s_ldc2_w kx_230_22 kp_230_457 ?_
      refine s_goto (t := 29) kx_230_25 (by decide) ?_
      exact s_lret kx_230_29 kq_230 ⟨_, rfl, rfl, (by unfold pLm; (repeat' split) <;> omega)⟩
  · refine s_ldc2_w kx_230_8 kp_230_455 ?_
    refine s_goto (t := 29) kx_230_11 (by decide) ?_
    exact s_lret kx_230_29 kq_230 ⟨_, rfl, rfl, (by unfold pLm; (repeat' split) <;> omega)⟩
theorem g_231 {xs : Nat → Int} {Ln d : Nat} {T : List cK} {M : cM} (hT : TT T) (hI : Rng M) {a b : Int} (p0 : (-1000000) ≤ a ∧ a ≤ 1000000) (p1 : (-1000000) ≤ b ∧ b ≤ 1000000) : cC k_P xs Ln (d + 0) 231 [(1, a), (1, b)] (T, M) (qF T M 1 (fun v => v = pFl a b)) := by
  show cP k_P xs Ln (d + 0) 231 0 [(0, (1, a)), (2, (1, b))] [] (T, M) _
  refine s_lload_n kx_231_0 rfl ?_
  refine s_lconst (v := 0) kx_231_1 (by decide) ?_
  refine r_lcmpE kx_231_2 ⟨by omega, by omega⟩ ⟨by omega, by omega⟩ (fun v1 v1p => ?_)
  refine s_if_ne (t := 8) kx_231_3 (by decide) (fun hc2 => ?_) (fun hc2 => ?_)
  · have hq := xLdiv_eq p0 p1 (by omega)
    have hqb := tdv_b p0 (show b ≠ 0 by omega)
    have hfl := fl_C p0 p1 (by omega) hq
    have hr := xLrem_eq p0 p1 (by omega)
    rw [← hq] at hqb hr
    have hqb1 := hqb.1
    have hp0 := p0
    have hp1 := p1
    have hqb3 := hqb.2.2
    unfold pBd at hp0 hp1 hqb1
    refine s_lload_n kx_231_8 rfl ?_
    refine s_lload_n kx_231_9 rfl ?_
    refine s_ldiv (z := (xLdiv a b)) kx_231_10 (by omega) rfl ?_
    refine s_lstore kx_231_11 km_231_5 rfl ?_
    refine s_lload_n kx_231_13 rfl ?_
    refine s_lload_n kx_231_14 rfl ?_
    refine s_lrem (z := (xLrem a b)) kx_231_15 (by omega) rfl ?_
    refine s_lconst (v := 0) kx_231_16 (by decide) ?_
    refine r_lcmpE kx_231_17 ⟨by omega, by omega⟩ ⟨by omega, by omega⟩ (fun v5 v5p => ?_)
    refine s_if_eq (t := 53) kx_231_18 (by decide) (fun hc6 => ?_) (fun hc6 => ?_)
    · refine s_lload kx_231_53 rfl ?_
      exact s_lret kx_231_55 kq_231 ⟨_, rfl, rfl, (by first | exact hfl.1 (by omega) | exact hfl.2.1 (by omega) | exact hfl.2.2 (by omega) (by omega))⟩
    · refine s_lload_n kx_231_21 rfl ?_
      refine s_lconst (v := 0) kx_231_22 (by decide) ?_
      refine r_lcmpE kx_231_23 ⟨by omega, by omega⟩ ⟨by omega, by omega⟩ (fun v7 v7p => ?_)
      refine s_if_ge (t := 31) kx_231_24 (by decide) (fun hc8 => ?_) (fun hc8 => ?_)
      · refine s_iconst (v := 0) kx_231_31 (by decide) ?_
        refine s_lload_n kx_231_32 rfl ?_
        refine s_lconst (v := 0) kx_231_33 (by decide) ?_
        refine r_lcmpE kx_231_34 ⟨by omega, by omega⟩ ⟨by omega, by omega⟩ (fun v9 v9p => ?_)
        refine s_if_ge (t := 42) kx_231_35 (by decide) (fun hc10 => ?_) (fun hc10 => ?_)
        · refine s_iconst (v := 0) kx_231_42 (by decide) ?_
          refine s_icmp_eq (t := 53) kx_231_43 (by decide) (fun hc11 => ?_) (fun hc11 => absurd hc11 (by decide))
          refine s_lload kx_231_53 rfl ?_
          exact s_lret kx_231_55 kq_231 ⟨_, rfl, rfl, (by first | exact hfl.1 (by omega) | exact hfl.2.1 (by omega) | exact hfl.2.2 (by omega) (by omega))⟩
        · refine s_iconst (v := 1) kx_231_38 (by decide) ?_
          refine s_goto (t := 43) kx_231_39 (by decide) ?_
          refine s_icmp_eq (t := 53) kx_231_43 (by decide) (fun hc12 => absurd hc12 (by decide)) (fun hc12 => ?_)
          refine s_lload kx_231_46 rfl ?_
          refine s_lconst (v := 1) kx_231_48 (by decide) ?_
          refine r_lsubE kx_231_49 ⟨by omega, by omega⟩ ?_
          refine s_goto (t := 55) kx_231_50 (by decide) ?_
          exact s_lret kx_231_55 kq_231 ⟨_, rfl, rfl, (by first | exact hfl.1 (by omega) | exact hfl.2.1 (by omega) | exact hfl.2.2 (by omega) (by omega))⟩
      · refine s_iconst (v := 1) kx_231_27 (by decide) ?_
        refine s_goto (t := 32) kx_231_28 (by decide) ?_
        refine s_lload_n kx_231_32 rfl ?_
        refine s_lconst (v := 0) kx_231_33 (by decide) ?_
        refine r_lcmpE kx_231_34 ⟨by omega, by omega⟩ ⟨by omega, by omega⟩ (fun v14 v14p => ?_)
        refine s_if_ge (t := 42) kx_231_35 (by decide) (fun hc15 => ?_) (fun hc15 => ?_)
        · refine s_iconst (v := 0) kx_231_42 (by decide) ?_
          refine s_icmp_eq (t := 53) kx_231_43 (by decide) (fun hc16 => absurd hc16 (by decide)) (fun hc16 => ?_)
          refine s_lload kx_231_46 rfl ?_
          refine s_lconst (v := 1) kx_231_48 (by decide) ?_
          refine r_lsubE kx_231_49 ⟨by omega, by omega⟩ ?_
          refine s_goto (t := 55) kx_231_50 (by decide) ?_
          exact s_lret kx_231_55 kq_231 ⟨_, rfl, rfl, (by first | exact hfl.1 (by omega) | exact hfl.2.1 (by omega) | exact hfl.2.2 (by omega) (by omega))⟩
        · refine s_iconst (v := 1) kx_231_38 (by decide) ?_
          refine s_goto (t := 43) kx_231_39 (by decide) ?_
          refine s_icmp_eq (t := 53) kx_231_43 (by decide) (fun hc18 => ?_) (fun hc18 => absurd hc18 (by decide))
          refine s_lload kx_231_53 rfl ?_
          exact s_lret kx_231_55 kq_231 ⟨_, rfl, rfl, (by first | exact hfl.1 (by omega) | exact hfl.2.1 (by omega) | exact hfl.2.2 (by omega) (by omega))⟩
  · refine s_lconst (v := 0) kx_231_6 (by decide) ?_
    exact s_lret kx_231_7 kq_231 ⟨_, rfl, rfl, (by unfold pFl; rw [if_neg (by omega), if_neg (by omega)])⟩
theorem g_232 {xs : Nat → Int} {Ln d : Nat} {T : List cK} {M : cM} (hT : TT T) (hI : Rng M) {sort a b : Int} (p0 : 10 ≤ sort ∧ sort ≤ 21) (p1 : (-1000000) ≤ a ∧ a ≤ 1000000) (p2 : (-1000000) ≤ b ∧ b ≤ 1000000) (p3 : (sort = 20 ∨ sort = 21) → (a = 0 ∨ a = 1) ∧ (b = 0 ∨ b = 1)) : cC k_P xs Ln (d + 1) 232 [(0, sort), (1, a), (1, b)] (T, M) (qF T M 1 (fun v => v = pCb (3 - sort) a b)) := by
  show cP k_P xs Ln (d + 1) 232 0 [(0, (0, sort)), (1, (1, a)), (3, (1, b))] [] (T, M) _
  have hmb := mul_b p1 p2
  refine s_iload_n kx_232_0 rfl ?_
  rcases (by omega : sort = 10 ∨ sort = 11 ∨ sort = 12 ∨ sort = 13 ∨ sort = 14 ∨ sort = 15 ∨ sort = 16 ∨ sort = 17 ∨ sort = 18 ∨ sort = 19 ∨ sort = 20 ∨ (sort < 10 ∨ 20 < sort)) with hs1 | hs1 | hs1 | hs1 | hs1 | hs1 | hs1 | hs1 | hs1 | hs1 | hs1 | hs1
  · refine s_tsw (t := 60) kx_232_1 (by decide) 10 hs1 (by decide) ?_
    refine s_lload_n kx_232_60 rfl ?_
    refine s_lload_n kx_232_61 rfl ?_
    refine r_laddE kx_232_62 ⟨by omega, by omega⟩ ?_
    refine s_callS2 (s1 := 2) (s2 := 0) (as := [(1, (a + b))]) (rest := []) kx_232_63 kp_232_459 rfl kcl_230 rfl rfl (by decide) (g_230 (d := d) (v_ := (a + b)) hT hI (by omega)) (kF (fun v3 v3p => ?_))
    exact s_lret kx_232_66 kq_232 ⟨_, rfl, rfl, (by unfold pCb; rw [if_pos (by omega)]; exact v3p)⟩
  · refine s_tsw (t := 67) kx_232_1 (by decide) 11 hs1 (by decide) ?_
    refine s_lload_n kx_232_67 rfl ?_
    refine s_lload_n kx_232_68 rfl ?_
    refine r_lsubE kx_232_69 ⟨by omega, by omega⟩ ?_
    refine s_callS2 (s1 := 2) (s2 := 0) (as := [(1, (a - b))]) (rest := []) kx_232_70 kp_232_459 rfl kcl_230 rfl rfl (by decide) (g_230 (d := d) (v_ := (a - b)) hT hI (by omega)) (kF (fun v5 v5p => ?_))
    exact s_lret kx_232_73 kq_232 ⟨_, rfl, rfl, (by unfold pCb; rw [if_neg (by omega), if_pos (by omega)]; exact v5p)⟩
  · refine s_tsw (t := 74) kx_232_1 (by decide) 12 hs1 (by decide) ?_
    refine s_lload_n kx_232_74 rfl ?_
    refine s_lload_n kx_232_75 rfl ?_
    refine r_lmulE kx_232_76 ⟨by omega, by omega⟩ ?_
    refine s_callS2 (s1 := 2) (s2 := 0) (as := [(1, (a * b))]) (rest := []) kx_232_77 kp_232_459 rfl kcl_230 rfl rfl (by decide) (g_230 (d := d) (v_ := (a * b)) hT hI (by omega)) (kF (fun v7 v7p => ?_))
    exact s_lret kx_232_80 kq_232 ⟨_, rfl, rfl, (by unfold pCb; rw [if_neg (by omega), if_neg (by omega), if_pos (by omega)]; exact v7p)⟩
  · refine s_tsw (t := 81) kx_232_1 (by decide) 13 hs1 (by decide) ?_
    refine s_lload_n kx_232_81 rfl ?_
    refine s_lload_n kx_232_82 rfl ?_
    refine s_callS2 (s1 := 4) (s2 := 0) (as := [(1, b), (1, a)]) (rest := []) kx_232_83 kp_232_463 rfl kcl_231 rfl rfl (by decide) (g_231 (d := d) (a := a) (b := b) hT hI p1 p2) (kF (fun v8 v8p => ?_))
    have hfb := pFl_b p1 p2
    rw [← v8p] at hfb
    unfold pBd at hfb
    have hmf := pFl_m p1 p2
    rw [← v8p] at hmf
    refine s_callS2 (s1 := 2) (s2 := 0) (as := [(1, v8)]) (rest := []) kx_232_86 kp_232_459 rfl kcl_230 rfl rfl (by decide) (g_230 (d := d) (v_ := v8) hT hI (by omega)) (kF (fun v9 v9p => ?_))
    exact s_lret kx_232_89 kq_232 ⟨_, rfl, rfl, (by unfold pCb; rw [if_neg (by omega), if_neg (by omega), if_neg (by omega), if_pos (by omega)]; rw [← v8p]; exact v9p)⟩
  · refine s_tsw (t := 90) kx_232_1 (by decide) 14 hs1 (by decide) ?_
    refine s_lload_n kx_232_90 rfl ?_
    refine s_lconst (v := 0) kx_232_91 (by decide) ?_
    refine r_lcmpE kx_232_92 ⟨by omega, by omega⟩ ⟨by omega, by omega⟩ (fun v10 v10p => ?_)
    refine s_if_ne (t := 100) kx_232_93 (by decide) (fun hc11 => ?_) (fun hc11 => ?_)
    · refine s_lload_n kx_232_100 rfl ?_
      refine s_lload_n kx_232_101 rfl ?_
      refine s_lload_n kx_232_102 rfl ?_
      refine s_lload_n kx_232_103 rfl ?_
      refine s_callS2 (s1 := 4) (s2 := 4) (as := [(1, b), (1, a)]) (rest := [(1, b), (1, a)]) kx_232_104 kp_232_463 rfl kcl_231 rfl rfl (by decide) (g_231 (d := d) (a := a) (b := b) hT hI p1 p2) (kF (fun v12 v12p => ?_))
      have hfb := pFl_b p1 p2
      rw [← v12p] at hfb
      unfold pBd at hfb
      have hmf := pFl_m p1 p2
      rw [← v12p] at hmf
      refine r_lmulE kx_232_107 ⟨by omega, by omega⟩ ?_
      refine r_lsubE kx_232_108 ⟨by omega, by omega⟩ ?_
      refine s_callS2 (s1 := 2) (s2 := 0) (as := [(1, (a - (b * v12)))]) (rest := []) kx_232_109 kp_232_459 rfl kcl_230 rfl rfl (by decide) (g_230 (d := d) (v_ := (a - (b * v12))) hT hI (by omega)) (kF (fun v15 v15p => ?_))
      exact s_lret kx_232_112 kq_232 ⟨_, rfl, rfl, (by unfold pCb; rw [if_neg (by omega), if_neg (by omega), if_neg (by omega), if_neg (by omega), if_pos (by omega)]; rw [v15p, v12p]; exact pLm_rm p1 p2 (by omega))⟩
    · refine s_lconst (v := 0) kx_232_96 (by decide) ?_
      refine s_goto (t := 112) kx_232_97 (by decide) ?_
      exact s_lret kx_232_112 kq_232 ⟨_, rfl, rfl, (by unfold pCb; rw [if_neg (by omega), if_neg (by omega), if_neg (by omega), if_neg (by omega), if_pos (by omega)]; unfold pRm; rw [if_neg (by omega), if_neg (by omega)])⟩
  · refine s_tsw (t := 113) kx_232_1 (by decide) 15 hs1 (by decide) ?_
    refine s_lload_n kx_232_113 rfl ?_
    refine s_lload_n kx_232_114 rfl ?_
    refine r_lcmpE kx_232_115 ⟨by omega, by omega⟩ ⟨by omega, by omega⟩ (fun v16 v16p => ?_)
    refine s_if_ge (t := 123) kx_232_116 (by decide) (fun hc17 => ?_) (fun hc17 => ?_)
    · refine s_lload_n kx_232_123 rfl ?_
      exact s_lret kx_232_124 kq_232 ⟨_, rfl, rfl, (by unfold pCb; rw [if_neg (by omega), if_neg (by omega), if_neg (by omega), if_neg (by omega), if_neg (by omega), if_pos (by omega)]; split <;> omega)⟩
    · refine s_lload_n kx_232_119 rfl ?_
      refine s_goto (t := 124) kx_232_120 (by decide) ?_
      exact s_lret kx_232_124 kq_232 ⟨_, rfl, rfl, (by unfold pCb; rw [if_neg (by omega), if_neg (by omega), if_neg (by omega), if_neg (by omega), if_neg (by omega), if_pos (by omega)]; split <;> omega)⟩
  · refine s_tsw (t := 125) kx_232_1 (by decide) 16 hs1 (by decide) ?_
    refine s_lload_n kx_232_125 rfl ?_
    refine s_lload_n kx_232_126 rfl ?_
    refine r_lcmpE kx_232_127 ⟨by omega, by omega⟩ ⟨by omega, by omega⟩ (fun v18 v18p => ?_)
    refine s_if_le (t := 135) kx_232_128 (by decide) (fun hc19 => ?_) (fun hc19 => ?_)
    · refine s_lload_n kx_232_135 rfl ?_
      exact s_lret kx_232_136 kq_232 ⟨_, rfl, rfl, (by unfold pCb; rw [if_neg (by omega), if_neg (by omega), if_neg (by omega), if_neg (by omega), if_neg (by omega), if_neg (by omega), if_pos (by omega)]; split <;> omega)⟩
    · refine s_lload_n kx_232_131 rfl ?_
      refine s_goto (t := 136) kx_232_132 (by decide) ?_
      exact s_lret kx_232_136 kq_232 ⟨_, rfl, rfl, (by unfold pCb; rw [if_neg (by omega), if_neg (by omega), if_neg (by omega), if_neg (by omega), if_neg (by omega), if_neg (by omega), if_pos (by omega)]; split <;> omega)⟩
  · refine s_tsw (t := 137) kx_232_1 (by decide) 17 hs1 (by decide) ?_
    refine s_lload_n kx_232_137 rfl ?_
    refine s_lload_n kx_232_138 rfl ?_
    refine r_lcmpE kx_232_139 ⟨by omega, by omega⟩ ⟨by omega, by omega⟩ (fun v20 v20p => ?_)
    refine s_if_ge (t := 147) kx_232_140 (by decide) (fun hc21 => ?_) (fun hc21 => ?_)
    · refine s_lconst (v := 0) kx_232_147 (by decide) ?_
      exact s_lret kx_232_148 kq_232 ⟨_, rfl, rfl, (by unfold pCb; rw [if_neg (by omega), if_neg (by omega), if_neg (by omega), if_neg (by omega), if_neg (by omega), if_neg (by omega), if_neg (by omega), if_pos (by omega)]; split <;> omega)⟩
    · refine s_lconst (v := 1) kx_232_143 (by decide) ?_
      refine s_goto (t := 148) kx_232_144 (by decide) ?_
      exact s_lret kx_232_148 kq_232 ⟨_, rfl, rfl, (by unfold pCb; rw [if_neg (by omega), if_neg (by omega), if_neg (by omega), if_neg (by omega), if_neg (by omega), if_neg (by omega), if_neg (by omega), if_pos (by omega)]; split <;> omega)⟩
  · refine s_tsw (t := 149) kx_232_1 (by decide) 18 hs1 (by decide) ?_
    refine s_lload_n kx_232_149 rfl ?_
    refine s_lload_n kx_232_150 rfl ?_
    refine r_lcmpE kx_232_151 ⟨by omega, by omega⟩ ⟨by omega, by omega⟩ (fun v22 v22p => ?_)
    refine s_if_le (t := 159) kx_232_152 (by decide) (fun hc23 => ?_) (fun hc23 => ?_)
    · refine s_lconst (v := 0) kx_232_159 (by decide) ?_
      exact s_lret kx_232_160 kq_232 ⟨_, rfl, rfl, (by unfold pCb; rw [if_neg (by omega), if_neg (by omega), if_neg (by omega), if_neg (by omega), if_neg (by omega), if_neg (by omega), if_neg (by omega), if_neg (by omega), if_pos (by omega)]; split <;> omega)⟩
    · refine s_lconst (v := 1) kx_232_155 (by decide) ?_
      refine s_goto (t := 160) kx_232_156 (by decide) ?_
      exact s_lret kx_232_160 kq_232 ⟨_, rfl, rfl, (by unfold pCb; rw [if_neg (by omega), if_neg (by omega), if_neg (by omega), if_neg (by omega), if_neg (by omega), if_neg (by omega), if_neg (by omega), if_neg (by omega), if_pos (by omega)]; split <;> omega)⟩
  · refine s_tsw (t := 161) kx_232_1 (by decide) 19 hs1 (by decide) ?_
    refine s_lload_n kx_232_161 rfl ?_
    refine s_lload_n kx_232_162 rfl ?_
    refine r_lcmpE kx_232_163 ⟨by omega, by omega⟩ ⟨by omega, by omega⟩ (fun v24 v24p => ?_)
    refine s_if_ne (t := 171) kx_232_164 (by decide) (fun hc25 => ?_) (fun hc25 => ?_)
    · refine s_lconst (v := 0) kx_232_171 (by decide) ?_
      exact s_lret kx_232_172 kq_232 ⟨_, rfl, rfl, (by unfold pCb; rw [if_neg (by omega), if_neg (by omega), if_neg (by omega), if_neg (by omega), if_neg (by omega), if_neg (by omega), if_neg (by omega), if_neg (by omega), if_neg (by omega), if_pos (by omega)]; split <;> omega)⟩
    · refine s_lconst (v := 1) kx_232_167 (by decide) ?_
      refine s_goto (t := 172) kx_232_168 (by decide) ?_
      exact s_lret kx_232_172 kq_232 ⟨_, rfl, rfl, (by unfold pCb; rw [if_neg (by omega), if_neg (by omega), if_neg (by omega), if_neg (by omega), if_neg (by omega), if_neg (by omega), if_neg (by omega), if_neg (by omega), if_neg (by omega), if_pos (by omega)]; split <;> omega)⟩
  · refine s_tsw (t := 173) kx_232_1 (by decide) 20 hs1 (by decide) ?_
    refine s_lload_n kx_232_173 rfl ?_
    refine s_lload_n kx_232_174 rfl ?_
    refine s_land (z := (xLand a b)) kx_232_175 rfl ?_
    exact s_lret kx_232_176 kq_232 ⟨_, rfl, rfl, (by unfold pCb; rw [if_neg (by omega), if_neg (by omega), if_neg (by omega), if_neg (by omega), if_neg (by omega), if_neg (by omega), if_neg (by omega), if_neg (by omega), if_neg (by omega), if_neg (by omega), if_pos (by omega)]; exact (and_f (x := 0) (p3 (by omega)).1 (p3 (by omega)).2).2.2.1)⟩
  · refine s_tswD (t := 177) kx_232_1 (by decide) hs1 (by decide) ?_
    refine s_lload_n kx_232_177 rfl ?_
    refine s_lload_n kx_232_178 rfl ?_
    refine s_lor (z := (xLor a b)) kx_232_179 rfl ?_
    exact s_lret kx_232_180 kq_232 ⟨_, rfl, rfl, (by unfold pCb; rw [if_neg (by omega), if_neg (by omega), if_neg (by omega), if_neg (by omega), if_neg (by omega), if_neg (by omega), if_neg (by omega), if_neg (by omega), if_neg (by omega), if_neg (by omega), if_neg (by omega)]; exact (and_f (x := 0) (p3 (by omega)).1 (p3 (by omega)).2).2.2.2)⟩
def gS_233_l14 : List (Nat × Nat) := [(102, 99999)]
def gS_233_m : List (Nat × Nat) := [(102, 99999)]
theorem g_233 {xs : Nat → Int} {Ln d : Nat} {T : List cK} {M : cM} (hT : TT T) (hI : Rng M) {from_ behind : Int} {g : Int → Int} {cs : List Int} {w : Int} (hlen : behind - from_ = (cs.length : Int)) (hcs : ∀ q : Nat, q < cs.length → kdc (cs.getD q 0) (M 81 (1600 * M 63 14 + from_ + (q : Int)).toNat) (M 82 (1600 * M 63 14 + from_ + (q : Int)).toNat)) (hX : pXr 64 g cs [] = some [w]) (hg : pBg g) (hgv : GvY M g) (p0 : 0 ≤ from_ ∧ from_ ≤ 1600) (p1 : 0 ≤ behind ∧ behind ≤ 1600) : cC k_P xs Ln (d + 2) 233 [rf 63, (0, from_), (0, behind)] (T, M) (qW T M gS_233_m 1 (fun v M1 => v = w)) := by
  show cP k_P xs Ln (d + 2) 233 0 [(0, rf 63), (1, (0, from_)), (2, (0, behind))] [] (T, M) _
  have hFm : Fr gS_233_m M M := Fr.refl
  have hb14 := rg_63_14 hI
  refine s_iconst (v := 0) kx_233_0 (by decide) ?_
  refine s_istore_n kx_233_1 km_233_3 rfl ?_
  refine s_sipush (v := 1600) kx_233_2 (by decide) ?_
  refine s_aload_n kx_233_5 rfl ?_
  refine r_getI (k := 63) (f := 14) kx_233_6 kp_233_54 (tk_63 hT) kf_12_14 (fun _ => rfl) (rg_63_14 hI) (fun v1 v1e v1a v1b => ?_)
  refine r_mul kx_233_9 ⟨by omega, by omega⟩ ?_
  refine s_iload_n kx_233_10 rfl ?_
  refine r_add kx_233_11 ⟨by omega, by omega⟩ ?_
  refine s_istore kx_233_12 km_233_4 rfl ?_
  have key5 : ∀ n6 : Nat, ∀ (x3_2 x4_3 : Int), ∀ M4 : cM, Rng M4 → Fr gS_233_m M M4 → Fr gS_233_l14 M M4 → (0 ≤ x3_2) → (x3_2 ≤ 64) → (0 ≤ x4_3) → (x4_3 ≤ 3200) → (GvY M4 g) → ((1600 * M 63 14 + from_) ≤ x4_3) → (x4_3 ≤ 1600 * M 63 14 + behind) → (EvI 64 g cs (x4_3 - (1600 * M 63 14 + from_)) x3_2 M4 102) → (2147483647 - x4_3).toNat < n6 → cP k_P xs Ln (d + 2) 233 14 [(0, rf 63), (2, (0, behind)), (3, (0, x3_2)), (4, (0, x4_3))] [] (T, M4) (qW T M gS_233_m 1 (fun v M1 => v = w)) := by
    intro n6
    induction n6 with
    | zero => intro x3_2 x4_3 M4 hI4 hFm4 fl4 i7 i8 i9 i10 i11 i12 i13 i14 hm15; exact absurd hm15 (Nat.not_lt_zero _)
    | succ n6 ih16 =>
      intro x3_2 x4_3 M4 hI4 hFm4 fl4 i7 i8 i9 i10 i11 i12 i13 i14 hm15
      refine s_iload kx_233_14 rfl ?_
      refine s_sipush (v := 1600) kx_233_16 (by decide) ?_
      refine s_aload_n kx_233_19 rfl ?_
      refine r_getK (k := 63) (f := 14) kx_233_20 kp_233_54 (tk_63 hT) kf_12_14 (fun _ => rfl) ((fl4 63 14 rfl).trans v1e) ?_
      refine r_mul kx_233_23 ⟨by omega, by omega⟩ ?_
      refine s_iload_n kx_233_24 rfl ?_
      refine r_add kx_233_25 ⟨by omega, by omega⟩ ?_
      refine s_icmp_ge (t := 185) kx_233_26 (by decide) (fun hc17 => ?_) (fun hc17 => ?_)
      · have hen := EvI.end i14 (by omega) hX
        have ⟨hen1, hen2, hen3⟩ := hen
        unfold pBd at hen3
        refine s_aload_n kx_233_185 rfl ?_
        refine r_getR (k := 63) (f := 61) (k2 := 102) kx_233_186 kp_233_198 (tk_63 hT) kf_12_61 (by decide) (rq_63_61 hI4) ?_
        refine s_iconst (v := 0) kx_233_189 (by decide) ?_
        refine r_laldU (k := 102) kx_233_190 (tk_102 hT) ⟨by decide, by decide⟩ (fun v18 v18e => ?_)
        exact s_lret kx_233_191 kq_233 ⟨_, _, rfl, rfl, hI4, hFm4, ((v18e).symm.trans ((congrArg _ (by omega)).trans hen2))⟩
      · refine s_aload_n kx_233_29 rfl ?_
        refine r_getR (k := 63) (f := 31) (k2 := 81) kx_233_30 kp_233_105 (tk_63 hT) kf_12_31 (by decide) (rq_63_31 hI4) ?_
        refine s_iload kx_233_33 rfl ?_
        refine r_ald (k := 81) kx_233_35 (tk_81 hT) ⟨by omega, by omega⟩ (rg_81 hI4) (fun v19 v19e v19a v19b => ?_)
        have hqx : (1600 * M 63 14 + from_) + (((x4_3 - (1600 * M 63 14 + from_)).toNat : Nat) : Int) = x4_3 := by omega
        obtain ⟨cc, hcc⟩ : ∃ cc, cs.getD (x4_3 - (1600 * M 63 14 + from_)).toNat 0 = cc := ⟨_, rfl⟩
        have hkd : kdc cc v19 (M 82 (x4_3).toNat) := by have := hcs (x4_3 - (1600 * M 63 14 + from_)).toNat (by omega); rw [hqx, hcc] at this; rw [← show M 81 (x4_3).toNat = v19 from ((fl4 81 _ rfl)).symm.trans v19e]; exact this
        have hkc := hkd.cc
        have hnd := EvI.need i14 (by rw [hX]; exact Option.some_ne_none _) hg ⟨by omega, by omega⟩ hcc
        refine s_istore kx_233_36 km_233_5 rfl ?_
        refine s_iload kx_233_38 rfl ?_
        refine s_bipush (v := 9) kx_233_40 (by decide) ?_
        refine s_icmp_gt (t := 70) kx_233_42 (by decide) (fun hc20 => ?_) (fun hc20 => ?_)
        · refine s_iload kx_233_70 rfl ?_
          refine s_bipush (v := 22) kx_233_72 (by decide) ?_
          refine s_icmp_ne (t := 98) kx_233_74 (by decide) (fun hc21 => ?_) (fun hc21 => ?_)
          · refine s_iload kx_233_98 rfl ?_
            refine s_bipush (v := 23) kx_233_100 (by decide) ?_
            refine s_icmp_ne (t := 149) kx_233_102 (by decide) (fun hc22 => ?_) (fun hc22 => ?_)
            · refine r_iinc kx_233_149 rfl km_233_3 (by decide) ⟨by omega, by omega⟩ rfl ?_
              refine s_aload_n kx_233_152 rfl ?_
              refine r_getR (k := 63) (f := 61) (k2 := 102) kx_233_153 kp_233_198 (tk_63 hT) kf_12_61 (by decide) (rq_63_61 hI4) ?_
              refine s_iload_n kx_233_156 rfl ?_
              refine s_iconst (v := 1) kx_233_157 (by decide) ?_
              refine r_sub kx_233_158 ⟨by omega, by omega⟩ ?_
              refine s_iload kx_233_159 rfl ?_
              refine s_aload_n kx_233_161 rfl ?_
              refine r_getR (k := 63) (f := 61) (k2 := 102) kx_233_162 kp_233_198 (tk_63 hT) kf_12_61 (by decide) (rq_63_61 hI4) ?_
              refine s_iload_n kx_233_165 rfl ?_
              refine s_iconst (v := 1) kx_233_166 (by decide) ?_
              refine r_sub kx_233_167 ⟨by omega, by omega⟩ ?_
              refine r_laldU (k := 102) kx_233_168 (tk_102 hT) ⟨by omega, by omega⟩ (fun v23 v23e => ?_)
              refine s_aload_n kx_233_169 rfl ?_
              refine r_getR (k := 63) (f := 61) (k2 := 102) kx_233_170 kp_233_198 (tk_63 hT) kf_12_61 (by decide) (rq_63_61 hI4) ?_
              refine s_iload_n kx_233_173 rfl ?_
              refine r_laldU (k := 102) kx_233_174 (tk_102 hT) ⟨by omega, by omega⟩ (fun v24 v24e => ?_)
              have htv := EvI.twov i14 (by rw [hX]; exact Option.some_ne_none _) hg ⟨by omega, by omega⟩ hcc ⟨by omega, by omega⟩ v23e v24e (by omega) (by omega)
              have ⟨htv1, htv2, htv3⟩ := htv
              unfold pBd at htv1 htv2
              refine s_callS2 (s1 := 5) (s2 := 2) (as := [(1, v24), (1, v23), (0, v19)]) (rest := [(0, ((x3_2 + (-1)) - 1)), rf 102]) kx_233_175 kp_233_471 rfl kcl_232 rfl rfl (by decide) (g_232 (d := d) (sort := v19) (a := v23) (b := v24) hT hI4 ⟨by omega, by omega⟩ ⟨by omega, by omega⟩ ⟨by omega, by omega⟩ (fun z => htv3 (by omega))) (kF (fun v25 v25p => ?_))
              refine r_last (k := 102) kx_233_178 (tk_102 hT) ⟨by omega, by omega⟩ hI4 ru_102 (fun M26 hI26 u26 => ?_)
              have hFm26 := hFm4.up u26 rfl
              have hFl1426 := fl4.up u26 rfl
              refine r_iinc kx_233_179 rfl km_233_4 (by decide) ⟨by omega, by omega⟩ rfl ?_
              refine s_goto (t := 14) kx_233_182 (by decide) ?_
              exact cP.wk (lS1 rfl (lS1 rfl (lS1 rfl (lS1 rfl lS0)))) (ih16 (x3_2 + (-1)) (x4_3 + 1) M26 hI26 hFm26 hFl1426 (by omega) (by omega) (by omega) (by omega) (i11.up u26 (by decide)) (by omega) (by omega) (EvI.ix (EvI.two i14 (by rw [hX]; exact Option.some_ne_none _) hg ⟨by omega, by omega⟩ hcc ⟨by omega, by omega⟩ v23e v24e u26 (by omega) (by omega) (by rw [v25p]; congr 1; omega) (by omega)) (by omega)) (by omega))
            · refine r_iinc kx_233_105 rfl km_233_3 (by decide) ⟨by omega, by omega⟩ rfl ?_
              refine s_aload_n kx_233_108 rfl ?_
              refine r_getR (k := 63) (f := 61) (k2 := 102) kx_233_109 kp_233_198 (tk_63 hT) kf_12_61 (by decide) (rq_63_61 hI4) ?_
              refine s_iload_n kx_233_112 rfl ?_
              refine s_iconst (v := 1) kx_233_113 (by decide) ?_
              refine r_sub kx_233_114 ⟨by omega, by omega⟩ ?_
              refine s_aload_n kx_233_115 rfl ?_
              refine r_getR (k := 63) (f := 61) (k2 := 102) kx_233_116 kp_233_198 (tk_63 hT) kf_12_61 (by decide) (rq_63_61 hI4) ?_
              refine s_iload_n kx_233_119 rfl ?_
              refine s_iconst (v := 1) kx_233_120 (by decide) ?_
              refine r_sub kx_233_121 ⟨by omega, by omega⟩ ?_
              refine r_laldU (k := 102) kx_233_122 (tk_102 hT) ⟨by omega, by omega⟩ (fun v27 v27e => ?_)
              have hff := EvI.itev i14 (by rw [hX]; exact Option.some_ne_none _) hg ⟨by omega, by omega⟩ hcc (by omega) v27e (by omega)
              refine s_lconst (v := 1) kx_233_123 (by decide) ?_
              refine r_lcmpE kx_233_124 ⟨by omega, by omega⟩ ⟨by omega, by omega⟩ (fun v28 v28p => ?_)
              refine s_if_ne (t := 137) kx_233_125 (by decide) (fun hc29 => ?_) (fun hc29 => ?_)
              · refine s_aload_n kx_233_137 rfl ?_
                refine r_getR (k := 63) (f := 61) (k2 := 102) kx_233_138 kp_233_198 (tk_63 hT) kf_12_61 (by decide) (rq_63_61 hI4) ?_
                refine s_iload_n kx_233_141 rfl ?_
                refine s_iconst (v := 1) kx_233_142 (by decide) ?_
                refine r_add kx_233_143 ⟨by omega, by omega⟩ ?_
                refine r_laldU (k := 102) kx_233_144 (tk_102 hT) ⟨by omega, by omega⟩ (fun v30 v30e => ?_)
                refine r_last (k := 102) kx_233_145 (tk_102 hT) ⟨by omega, by omega⟩ hI4 ru_102 (fun M31 hI31 u31 => ?_)
                have hFm31 := hFm4.up u31 rfl
                have hFl1431 := fl4.up u31 rfl
                refine s_goto (t := 179) kx_233_146 (by decide) ?_
                refine r_iinc kx_233_179 rfl km_233_4 (by decide) ⟨by omega, by omega⟩ rfl ?_
                refine s_goto (t := 14) kx_233_182 (by decide) ?_
                exact cP.wk (lS1 rfl (lS1 rfl (lS1 rfl (lS1 rfl lS0)))) (ih16 (x3_2 + (-2)) (x4_3 + 1) M31 hI31 hFm31 hFl1431 (by omega) (by omega) (by omega) (by omega) (i11.up u31 (by decide)) (by omega) (by omega) (EvI.ix (EvI.ite i14 (by rw [hX]; exact Option.some_ne_none _) hg ⟨by omega, by omega⟩ hcc (by omega) v27e u31 (by omega) (fun z => Or.inr ⟨by omega, (v30e).symm.trans (congrArg _ (by omega))⟩) (by omega)) (by omega)) (by omega))
              · refine s_aload_n kx_233_128 rfl ?_
                refine r_getR (k := 63) (f := 61) (k2 := 102) kx_233_129 kp_233_198 (tk_63 hT) kf_12_61 (by decide) (rq_63_61 hI4) ?_
                refine s_iload_n kx_233_132 rfl ?_
                refine r_laldU (k := 102) kx_233_133 (tk_102 hT) ⟨by omega, by omega⟩ (fun v32 v32e => ?_)
                refine s_goto (t := 145) kx_233_134 (by decide) ?_
                refine r_last (k := 102) kx_233_145 (tk_102 hT) ⟨by omega, by omega⟩ hI4 ru_102 (fun M33 hI33 u33 => ?_)
                have hFm33 := hFm4.up u33 rfl
                have hFl1433 := fl4.up u33 rfl
                refine s_goto (t := 179) kx_233_146 (by decide) ?_
                refine r_iinc kx_233_179 rfl km_233_4 (by decide) ⟨by omega, by omega⟩ rfl ?_
                refine s_goto (t := 14) kx_233_182 (by decide) ?_
                exact cP.wk (lS1 rfl (lS1 rfl (lS1 rfl (lS1 rfl lS0)))) (ih16 (x3_2 + (-2)) (x4_3 + 1) M33 hI33 hFm33 hFl1433 (by omega) (by omega) (by omega) (by omega) (i11.up u33 (by decide)) (by omega) (by omega) (EvI.ix (EvI.ite i14 (by rw [hX]; exact Option.some_ne_none _) hg ⟨by omega, by omega⟩ hcc (by omega) v27e u33 (by omega) (fun z => Or.inl ⟨by omega, (v32e).symm.trans (congrArg _ (by omega))⟩) (by omega)) (by omega)) (by omega))
          · refine s_aload_n kx_233_77 rfl ?_
            refine r_getR (k := 63) (f := 61) (k2 := 102) kx_233_78 kp_233_198 (tk_63 hT) kf_12_61 (by decide) (rq_63_61 hI4) ?_
            refine s_iload_n kx_233_81 rfl ?_
            refine s_iconst (v := 1) kx_233_82 (by decide) ?_
            refine r_sub kx_233_83 ⟨by omega, by omega⟩ ?_
            refine s_lconst (v := 1) kx_233_84 (by decide) ?_
            refine s_aload_n kx_233_85 rfl ?_
            refine r_getR (k := 63) (f := 61) (k2 := 102) kx_233_86 kp_233_198 (tk_63 hT) kf_12_61 (by decide) (rq_63_61 hI4) ?_
            refine s_iload_n kx_233_89 rfl ?_
            refine s_iconst (v := 1) kx_233_90 (by decide) ?_
            refine r_sub kx_233_91 ⟨by omega, by omega⟩ ?_
            refine r_laldU (k := 102) kx_233_92 (tk_102 hT) ⟨by omega, by omega⟩ (fun v34 v34e => ?_)
            have hff := EvI.notv i14 (by rw [hX]; exact Option.some_ne_none _) hg ⟨by omega, by omega⟩ hcc (by omega) v34e (by omega)
            refine r_lsubE kx_233_93 ⟨by omega, by omega⟩ ?_
            refine r_last (k := 102) kx_233_94 (tk_102 hT) ⟨by omega, by omega⟩ hI4 ru_102 (fun M36 hI36 u36 => ?_)
            have hFm36 := hFm4.up u36 rfl
            have hFl1436 := fl4.up u36 rfl
            refine s_goto (t := 179) kx_233_95 (by decide) ?_
            refine r_iinc kx_233_179 rfl km_233_4 (by decide) ⟨by omega, by omega⟩ rfl ?_
            refine s_goto (t := 14) kx_233_182 (by decide) ?_
            exact cP.wk (lS1 rfl (lS1 rfl (lS1 rfl (lS1 rfl lS0)))) (ih16 x3_2 (x4_3 + 1) M36 hI36 hFm36 hFl1436 (by omega) (by omega) (by omega) (by omega) (i11.up u36 (by decide)) (by omega) (by omega) (EvI.ix (EvI.not i14 (by rw [hX]; exact Option.some_ne_none _) hg ⟨by omega, by omega⟩ hcc (by omega) v34e u36 (by omega) (fun z => by omega) (by omega)) (by omega)) (by omega))
        · refine s_aload_n kx_233_45 rfl ?_
          refine r_getR (k := 63) (f := 61) (k2 := 102) kx_233_46 kp_233_198 (tk_63 hT) kf_12_61 (by decide) (rq_63_61 hI4) ?_
          refine s_iload_n kx_233_49 rfl ?_
          refine s_aload_n kx_233_50 rfl ?_
          refine s_iload kx_233_51 rfl ?_
          refine s_aload_n kx_233_53 rfl ?_
          refine r_getR (k := 63) (f := 32) (k2 := 82) kx_233_54 kp_233_108 (tk_63 hT) kf_12_32 (by decide) (rq_63_32 hI4) ?_
          refine s_iload kx_233_57 rfl ?_
          refine r_aldU (k := 82) kx_233_59 (tk_82 hT) ⟨by omega, by omega⟩ (fun v37 v37e => ?_)
          have hkp : kdc cc v19 v37 := by rw [← show M 82 (x4_3).toNat = v37 from ((fl4 82 _ rfl)).symm.trans v37e]; exact hkd
          refine s_callV2 (k := 63) (s1 := 3) (s2 := 2) (as := [(0, v37), (0, v19)]) (rest := [(0, x3_2), rf 102]) kx_233_60 kp_233_467 (Or.inl rfl) rfl (tk_63 hT) ki_229 kcl_229 rfl rfl (by decide) (g_229 (d := d + 1) (sort := v19) (v_ := v37) hT hI4 hkp i11 (by omega)) (kF (fun v38 v38p => ?_))
          refine r_last (k := 102) kx_233_63 (tk_102 hT) ⟨by omega, by omega⟩ hI4 ru_102 (fun M39 hI39 u39 => ?_)
          have hFm39 := hFm4.up u39 rfl
          have hFl1439 := fl4.up u39 rfl
          refine r_iinc kx_233_64 rfl km_233_3 (by decide) ⟨by omega, by omega⟩ rfl ?_
          refine s_goto (t := 179) kx_233_67 (by decide) ?_
          refine r_iinc kx_233_179 rfl km_233_4 (by decide) ⟨by omega, by omega⟩ rfl ?_
          refine s_goto (t := 14) kx_233_182 (by decide) ?_
          exact cP.wk (lS1 rfl (lS1 rfl (lS1 rfl (lS1 rfl lS0)))) (ih16 (x3_2 + 1) (x4_3 + 1) M39 hI39 hFm39 hFl1439 (by omega) (by omega) (by omega) (by omega) (i11.up u39 (by decide)) (by omega) (by omega) (EvI.ix (EvI.par i14 (by rw [hX]; exact Option.some_ne_none _) hg ⟨by omega, by omega⟩ hcc (by omega) u39 (by omega) v38p (by omega)) (by omega)) (by omega))
  have hA0 : ((1600 * v1) + from_) - (1600 * M 63 14 + from_) = 0 := by omega
  have hz : EvI 64 g cs (((1600 * v1) + from_) - (1600 * M 63 14 + from_)) 0 M 102 := by rw [hA0]; exact EvI.zero (by decide)
  exact cP.wk (lS1 rfl (lS1 rfl (lS1 rfl (lS1 rfl lS0)))) (key5 _ 0 ((1600 * v1) + from_) M hI hFm Fr.refl (by omega) (by omega) (by omega) (by omega) hgv (by omega) (by omega) hz (Nat.lt_succ_self _))
theorem g_234 {xs : Nat → Int} {Ln d : Nat} {T : List cK} {M : cM} (hT : TT T) (hI : Rng M) {v_ : Int} (p0 : (-1000000) ≤ v_ ∧ v_ ≤ 1000000) : cC k_P xs Ln (d + 0) 234 [(1, v_)] (T, M) (qF T M 0 (fun v => 0 ≤ v ∧ v ≤ 999 ∧ (v = pXt v_))) := by
  show cP k_P xs Ln (d + 0) 234 0 [(0, (1, v_))] [] (T, M) _
  refine s_lload_n kx_234_0 rfl ?_
  refine s_lconst (v := 0) kx_234_1 (by decide) ?_
  refine r_lcmpE kx_234_2 ⟨by omega, by omega⟩ ⟨by omega, by omega⟩ (fun v1 v1p => ?_)
  refine s_if_ge (t := 10) kx_234_3 (by decide) (fun hc2 => ?_) (fun hc2 => ?_)
  · refine s_lload_n kx_234_10 rfl ?_
    refine s_ldc2_w kx_234_11 kp_234_475 ?_
    refine r_lcmpE kx_234_14 ⟨by omega, by omega⟩ ⟨by omega, by omega⟩ (fun v3 v3p => ?_)
    refine s_if_le (t := 24) kx_234_15 (by decide) (fun hc4 => ?_) (fun hc4 => ?_)
    · refine s_lload_n kx_234_24 rfl ?_
      refine r_l2iE kx_234_25 (by omega) (by omega) ?_
      exact s_iret kx_234_26 (Or.inl kq_234) ⟨_, rfl, rfl, (by unfold pXt; (repeat' split) <;> omega)⟩
    · refine s_sipush (v := 999) kx_234_18 (by decide) ?_
      refine s_goto (t := 26) kx_234_21 (by decide) ?_
      exact s_iret kx_234_26 (Or.inl kq_234) ⟨_, rfl, rfl, (by unfold pXt; (repeat' split) <;> omega)⟩
  · refine s_iconst (v := 0) kx_234_6 (by decide) ?_
    refine s_goto (t := 26) kx_234_7 (by decide) ?_
    exact s_iret kx_234_26 (Or.inl kq_234) ⟨_, rfl, rfl, (by unfold pXt; (repeat' split) <;> omega)⟩
